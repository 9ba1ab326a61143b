section
theorem ne_ex {X : va_W} {i m : Nat} {c : Nat × va_E} (h : X[i]? = some c) : i ≠ X.length + m := by
  have := (List.getElem?_eq_some_iff.mp h).1
  omega
theorem xij {cI QA : ClassId} {zz : Nat} {g : Nat → Nat} {ad : Nat → Nat → Nat} {cn : Nat → Nat} {In : Nat → Int32} {Fn : Nat → Nat → Int32} {i k : Nat} (h : i < 30) : i ≠ (fxX cI QA zz g ad cn In Fn).length + k := by
  have e : (fxX cI QA zz g ad cn In Fn).length = 30 := rfl
  omega
theorem set_same9 {α : Type} {V : List α} {k : Nat} {x : α} (q : V[k]? = some x) : V.set k x = V := by
  obtain ⟨lk, ek⟩ := List.getElem?_eq_some_iff.mp q
  rw [← ek]; exact List.set_getElem_self lk
theorem nI_mt {c : Nat} (h : c < 2 ^ 31) : (nI c - 1).toInt = (c : Int) - 1 := by
  rcases Nat.eq_zero_or_pos c with rfl | q
  · rfl
  · rw [show nI c - 1 = nI (c - 1) from nI_sub (b := 1) q, nI_toInt (by omega)]; omega
section ADDJ
variable {D : va_G} {cl : List vw_C} {A0 A1 : Nat → Prop} {X ex exE X2 ws9 : va_W} {i j a b c : Nat} {e1 e3 d1 d2 : va_E} {L' E' O c1 c2 : Nat × va_E} {H H1 : Heap}
theorem add0_join (hP : va_P D cl (X ++ ex) H) (hD : va_D A0 (X ++ ex)) (hi : X[i]? = some (a, e1)) (hm : ex[0]? = some (c, e3)) (hk : ∀ q : Nat, q < H.size → ¬ va_A [(a, e1), (c, e3)] H.size q → H1[q]? = H[q]?) (hF : ∀ q, va_A [(a, e1), (c, e3)] H.size q → A0 q) (hP1 : va_P D cl [(a, d1), (b, d2), (c, e3)] H1) (hD1 : va_D (va_A [(a, e1), (c, e3)] H.size) [(a, d1), (b, d2), (c, e3)]) (he : ex ++ [(b, d2)] = exE) (hp : List.Perm (X.set i (a, d1) ++ exE) X2) : va_P D cl X2 H1 ∧ va_D A0 X2 := by
  obtain ⟨p, q⟩ := wset2e hP hD (exl hi) (exr hm) (ne_ex hi) hk hF hP1 hD1
  have e : (((X ++ ex).set i (a, d1)).set (X.length + 0) (c, e3)) ++ [(b, d2)] = X.set i (a, d1) ++ exE := by
    rw [exs_l hi rfl, ← he, ← List.append_assoc]
    have e2 := exs_r (X := X.set i (a, d1)) (ex := ex) (m := 0) (c := (c, e3)) (ex' := ex) (set_same9 hm)
    rw [List.length_set] at e2
    rw [e2]
  rw [e] at p q
  exact ⟨va_P_perm hp p, va_D_perm hp q⟩
theorem addG_join (hp2 : ∀ L' E' : Nat × va_E, (((X ++ ex).set i L').set j E').Perm (([L', E', O] : va_W) ++ ws9)) (hi : X[i]? = some c1) (hj : X[j]? = some c2) (hP1 : va_P D cl (([L', E', O] : va_W) ++ ws9) H1) (hD1 : va_D A1 (([L', E', O] : va_W) ++ ws9)) (hF : ∀ q, A1 q → A0 q) (hp : List.Perm (((X.set i L').set j E') ++ ex) X2) : va_P D cl X2 H1 ∧ va_D A0 X2 := by
  have li := (List.getElem?_eq_some_iff.mp hi).1
  have lj := (List.getElem?_eq_some_iff.mp hj).1
  have e : ((X ++ ex).set i L').set j E' = ((X.set i L').set j E') ++ ex := by
    rw [List.set_append_left _ _ li, List.set_append_left _ _ (by rw [List.length_set]; exact lj)]
  have p := va_P_perm (hp2 L' E').symm hP1
  have q := va_D_perm (hp2 L' E').symm (hD1.weaken (fun _ _ _ h => hF _ h))
  rw [e] at p q
  exact ⟨va_P_perm hp p, va_D_perm hp q⟩
end ADDJ
theorem xlz_0 {cI QA : ClassId} {zz : Nat} {g : Nat → Nat} {ad : Nat → Nat → Nat} {cn : Nat → Nat} {In : Nat → Int32} {Fn : Nat → Nat → Int32} (h : cn 10 = 0) : (wX cI QA zz g ad cn In Fn)[24]? = some (g 10, .inr (0, [.int (In 10), .ref zz, .int 0])) := by
  rw [xo_24, if_pos h, h]; rfl
theorem xlz_1 {cI QA : ClassId} {zz : Nat} {g : Nat → Nat} {ad : Nat → Nat → Nat} {cn : Nat → Nat} {In : Nat → Int32} {Fn : Nat → Nat → Int32} (h : cn 11 = 0) : (wX cI QA zz g ad cn In Fn)[25]? = some (g 11, .inr (0, [.int (In 11), .ref zz, .int 0])) := by
  rw [xo_25, if_pos h, h]; rfl
theorem xlz_2 {cI QA : ClassId} {zz : Nat} {g : Nat → Nat} {ad : Nat → Nat → Nat} {cn : Nat → Nat} {In : Nat → Int32} {Fn : Nat → Nat → Int32} (h : cn 12 = 0) : (wX cI QA zz g ad cn In Fn)[26]? = some (g 12, .inr (0, [.int (In 12), .ref zz, .int 0])) := by
  rw [xo_26, if_pos h, h]; rfl
theorem xlz_3 {cI QA : ClassId} {zz : Nat} {g : Nat → Nat} {ad : Nat → Nat → Nat} {cn : Nat → Nat} {In : Nat → Int32} {Fn : Nat → Nat → Int32} (h : cn 13 = 0) : (wX cI QA zz g ad cn In Fn)[27]? = some (g 13, .inr (0, [.int (In 13), .ref zz, .int 0])) := by
  rw [xo_27, if_pos h, h]; rfl
theorem xlz_4 {cI QA : ClassId} {zz : Nat} {g : Nat → Nat} {ad : Nat → Nat → Nat} {cn : Nat → Nat} {In : Nat → Int32} {Fn : Nat → Nat → Int32} (h : cn 14 = 0) : (wX cI QA zz g ad cn In Fn)[28]? = some (g 14, .inr (0, [.int (In 14), .ref zz, .int 0])) := by
  rw [xo_28, if_pos h, h]; rfl
theorem xlz_5 {cI QA : ClassId} {zz : Nat} {g : Nat → Nat} {ad : Nat → Nat → Nat} {cn : Nat → Nat} {In : Nat → Int32} {Fn : Nat → Nat → Int32} (h : cn 15 = 0) : (wX cI QA zz g ad cn In Fn)[29]? = some (g 15, .inr (0, [.int (In 15), .ref zz, .int 0])) := by
  rw [xo_29, if_pos h, h]; rfl
theorem xu_1 {cI QA : ClassId} {zz : Nat} {g : Nat → Nat} {ad : Nat → Nat → Nat} {cn : Nat → Nat} {In : Nat → Int32} {Fn : Nat → Nat → Int32} {q z c : Nat} {y x0 x1 x2 x3 x4 x5 x6 x7 x8 x9 : Int32} (h0 : cn 11 = 0) : List.Perm (((wX cI QA zz g ad cn In Fn).set 25 (g 11, .inr (0, [.int y, .ref z, .int (nI 1)]))) ++ ([(q, .inr (3, [.int x0, .int x1, .int x2, .int x3, .int x4, .int x5, .int x6, .int x7, .int x8, .int x9])), (z, .inl (QA, c, .inr (.inr (.inr (.inr (va_up (fun _ => none) 0 (some q)))))))] : va_W)) (wX cI QA zz g (adP ad 11 (cn 11) q 1 z) (va_up (va_up cn 11 ((cn 11) + 1)) 21 c) (va_up In 11 y) (va_up (va_up (va_up (va_up (va_up (va_up (va_up (va_up (va_up (va_up Fn 120 (upd (Fn 120) (cn 11) x0)) 121 (upd (Fn 121) (cn 11) x1)) 122 (upd (Fn 122) (cn 11) x2)) 123 (upd (Fn 123) (cn 11) x3)) 124 (upd (Fn 124) (cn 11) x4)) 125 (upd (Fn 125) (cn 11) x5)) 126 (upd (Fn 126) (cn 11) x6)) 127 (upd (Fn 127) (cn 11) x7)) 128 (upd (Fn 128) (cn 11) x8)) 129 (upd (Fn 129) (cn 11) x9))) := by
  have h9 := xadd0_1 (cI := cI) (QA := QA) (zz := zz) (g := g) (ad := ad) (cn := cn) (In := In) (Fn := Fn) (q := q) (z := z) (c := c) (x0 := x0) (x1 := x1) (x2 := x2) (x3 := x3) (x4 := x4) (x5 := x5) (x6 := x6) (x7 := x7) (x8 := x8) (x9 := x9) (y := y) h0
  rw [h0]
  exact h9
theorem xu_3 {cI QA : ClassId} {zz : Nat} {g : Nat → Nat} {ad : Nat → Nat → Nat} {cn : Nat → Nat} {In : Nat → Int32} {Fn : Nat → Nat → Int32} {q z c : Nat} {y x0 x1 x2 x3 x4 : Int32} (h0 : cn 13 = 0) : List.Perm (((wX cI QA zz g ad cn In Fn).set 27 (g 13, .inr (0, [.int y, .ref z, .int (nI 1)]))) ++ ([(q, .inr (5, [.int x0, .int x1, .int x2, .int x3, .int x4])), (z, .inl (QA, c, .inr (.inr (.inr (.inr (va_up (fun _ => none) 0 (some q)))))))] : va_W)) (wX cI QA zz g (adP ad 13 (cn 13) q 3 z) (va_up (va_up cn 13 ((cn 13) + 1)) 23 c) (va_up In 13 y) (va_up (va_up (va_up (va_up (va_up Fn 160 (upd (Fn 160) (cn 13) x0)) 161 (upd (Fn 161) (cn 13) x1)) 162 (upd (Fn 162) (cn 13) x2)) 163 (upd (Fn 163) (cn 13) x3)) 164 (upd (Fn 164) (cn 13) x4))) := by
  have h9 := xadd0_3 (cI := cI) (QA := QA) (zz := zz) (g := g) (ad := ad) (cn := cn) (In := In) (Fn := Fn) (q := q) (z := z) (c := c) (x0 := x0) (x1 := x1) (x2 := x2) (x3 := x3) (x4 := x4) (y := y) h0
  rw [h0]
  exact h9
theorem xu_4 {cI QA : ClassId} {zz : Nat} {g : Nat → Nat} {ad : Nat → Nat → Nat} {cn : Nat → Nat} {In : Nat → Int32} {Fn : Nat → Nat → Int32} {q z c : Nat} {y x0 x1 x2 : Int32} (h0 : cn 14 = 0) : List.Perm (((wX cI QA zz g ad cn In Fn).set 28 (g 14, .inr (0, [.int y, .ref z, .int (nI 1)]))) ++ ([(q, .inr (7, [.int x0, .int x1, .int x2])), (z, .inl (QA, c, .inr (.inr (.inr (.inr (va_up (fun _ => none) 0 (some q)))))))] : va_W)) (wX cI QA zz g (adP ad 14 (cn 14) q 4 z) (va_up (va_up cn 14 ((cn 14) + 1)) 24 c) (va_up In 14 y) (va_up (va_up (va_up Fn 170 (upd (Fn 170) (cn 14) x0)) 171 (upd (Fn 171) (cn 14) x1)) 172 (upd (Fn 172) (cn 14) x2))) := by
  have h9 := xadd0_4 (cI := cI) (QA := QA) (zz := zz) (g := g) (ad := ad) (cn := cn) (In := In) (Fn := Fn) (q := q) (z := z) (c := c) (x0 := x0) (x1 := x1) (x2 := x2) (y := y) h0
  rw [h0]
  exact h9
theorem xu_5 {cI QA : ClassId} {zz : Nat} {g : Nat → Nat} {ad : Nat → Nat → Nat} {cn : Nat → Nat} {In : Nat → Int32} {Fn : Nat → Nat → Int32} {q z c : Nat} {y x0 x1 x2 : Int32} (h0 : cn 15 = 0) : List.Perm (((wX cI QA zz g ad cn In Fn).set 29 (g 15, .inr (0, [.int y, .ref z, .int (nI 1)]))) ++ ([(q, .inr (4, [.int x0, .int x1, .int x2])), (z, .inl (QA, c, .inr (.inr (.inr (.inr (va_up (fun _ => none) 0 (some q)))))))] : va_W)) (wX cI QA zz g (adP ad 15 (cn 15) q 5 z) (va_up (va_up cn 15 ((cn 15) + 1)) 25 c) (va_up In 15 y) (va_up (va_up (va_up Fn 180 (upd (Fn 180) (cn 15) x0)) 181 (upd (Fn 181) (cn 15) x1)) 182 (upd (Fn 182) (cn 15) x2))) := by
  have h9 := xadd0_5 (cI := cI) (QA := QA) (zz := zz) (g := g) (ad := ad) (cn := cn) (In := In) (Fn := Fn) (q := q) (z := z) (c := c) (x0 := x0) (x1 := x1) (x2 := x2) (y := y) h0
  rw [h0]
  exact h9
theorem xuK {cI QA : ClassId} {zz : Nat} {g : Nat → Nat} {ad : Nat → Nat → Nat} {cn : Nat → Nat} {In : Nat → Int32} {Fn : Nat → Nat → Int32} {q qt r0 r1 r2 r3 r4 z c : Nat} {y x0 x1 x2 x3 x4 x5 x6 x7 x8 x9 : Int32} (h0 : cn 10 = 0) (hT : ∀ k : Nat, k < cn 10 → ad 3 k < cn 6) (h40 : ad 4 0 < cn 6) (h41 : ad 4 1 < cn 6) : List.Perm (((wX cI QA zz g ad cn In Fn).set 24 (g 10, .inr (0, [.int y, .ref z, .int (nI (0 + 1))]))) ++ ([(q, .inr (2, [.int x0, .int x1, .int x2, .int x3, .int x4, .int x5, .int x6, .int x7, .int x8, .int x9, .ref qt])), (qt, .inr (10, [.ref r0, .ref r1, .ref r2, .ref r3, .ref r4, .int 0, .int 0, .int 0, .int 0])), (r0, .inl (cI, 0, .inl (fun _ => 0))), (r1, .inl (cI, 12, .inl (fun _ => 0))), (r2, .inl (cI, 12, .inl (fun _ => 0))), (r3, .inl (cI, 12, .inl (fun _ => 0))), (r4, .inl (cI, 32, .inl (fun _ => 0))), (z, .inl (QA, c, .inr (.inr (.inr (.inr (va_up (fun _ => none) 0 (some q)))))))] : va_W)) (wX cI QA zz g (adO (adO (adO (adO (adO (adO (adO (adO (adO ad 10 (cn 10) q) 3 (cn 10) (cn 6)) 5 (cn 6) qt) 60 (cn 6) r0) 61 (cn 6) r1) 62 (cn 6) r2) 63 (cn 6) r3) 64 (cn 6) r4) 2 0 z) (va_up (va_up (va_up cn 10 ((cn 10) + 1)) 20 c) 6 (cn 6 + 1)) (va_up In 10 y) (va_up (va_up (va_up (va_up (va_up (va_up (va_up (va_up (va_up (va_up (va_up (va_up (va_up (va_up (va_up (va_up (va_up (va_up (va_up (va_up Fn 100 (upd (Fn 100) (cn 10) x0)) 101 (upd (Fn 101) (cn 10) x1)) 102 (upd (Fn 102) (cn 10) x2)) 103 (upd (Fn 103) (cn 10) x3)) 104 (upd (Fn 104) (cn 10) x4)) 105 (upd (Fn 105) (cn 10) x5)) 106 (upd (Fn 106) (cn 10) x6)) 107 (upd (Fn 107) (cn 10) x7)) 108 (upd (Fn 108) (cn 10) x8)) 109 (upd (Fn 109) (cn 10) x9)) 195 (upd (Fn 195) (cn 6) 0)) 196 (upd (Fn 196) (cn 6) 0)) 197 (upd (Fn 197) (cn 6) 0)) 198 (upd (Fn 198) (cn 6) 0)) 199 (upd (Fn 199) (cn 6) 0)) 301 (flat (Fn 301) 200 (cn 6) (fun _ => 0))) 302 (flat (Fn 302) 12 (cn 6) (fun _ => 0))) 303 (flat (Fn 303) 12 (cn 6) (fun _ => 0))) 304 (flat (Fn 304) 12 (cn 6) (fun _ => 0))) 305 (flat (Fn 305) 32 (cn 6) (fun _ => 0)))) := by
  have h9 := xaddK0 (cI := cI) (QA := QA) (zz := zz) (g := g) (ad := ad) (cn := cn) (In := In) (Fn := Fn) (q := q) (qt := qt) (r0 := r0) (r1 := r1) (r2 := r2) (r3 := r3) (r4 := r4) (z := z) (c := c) (x0 := x0) (x1 := x1) (x2 := x2) (x3 := x3) (x4 := x4) (x5 := x5) (x6 := x6) (x7 := x7) (x8 := x8) (x9 := x9) (y := y) h0 hT h40 h41
  rw [h0]
  exact h9
theorem xuB {cI QA : ClassId} {zz : Nat} {g : Nat → Nat} {ad : Nat → Nat → Nat} {cn : Nat → Nat} {In : Nat → Int32} {Fn : Nat → Nat → Int32} {q qs z c : Nat} {f : Nat → Int32} {y x1 x2 x3 x4 x5 x6 x7 : Int32} (h0 : cn 12 = 0) (hf0 : ∀ i : Nat, 12 ≤ i → f i = 0) : List.Perm (((wX cI QA zz g ad cn In Fn).set 26 (g 12, .inr (0, [.int y, .ref z, .int (nI (0 + 1))]))) ++ ([(q, .inr (1, [.ref qs, .int x1, .int x2, .int x3, .int x4, .int x5, .int x6, .int x7])), (qs, .inl (cI, 12, .inl f)), (z, .inl (QA, c, .inr (.inr (.inr (.inr (va_up (fun _ => none) 0 (some q)))))))] : va_W)) (wX cI QA zz g (adO (adO (adO ad 12 (cn 12) q) 1 (cn 12) qs) 2 2 z) (va_up (va_up cn 12 ((cn 12) + 1)) 22 c) (va_up In 12 y) (va_up (va_up (va_up (va_up (va_up (va_up (va_up (va_up Fn 141 (upd (Fn 141) (cn 12) x1)) 142 (upd (Fn 142) (cn 12) x2)) 143 (upd (Fn 143) (cn 12) x3)) 144 (upd (Fn 144) (cn 12) x4)) 145 (upd (Fn 145) (cn 12) x5)) 146 (upd (Fn 146) (cn 12) x6)) 147 (upd (Fn 147) (cn 12) x7)) 150 (flat (Fn 150) 12 (cn 12) f))) := by
  have h9 := xaddB0 (cI := cI) (QA := QA) (zz := zz) (g := g) (ad := ad) (cn := cn) (In := In) (Fn := Fn) (q := q) (qs := qs) (z := z) (c := c) (x1 := x1) (x2 := x2) (x3 := x3) (x4 := x4) (x5 := x5) (x6 := x6) (x7 := x7) (y := y) h0 hf0
  rw [h0]
  exact h9

set_option maxRecDepth 100000 in
theorem kI_RX11_475 : CalI RX11 475 yX6_init cX6_init 3 2 := ⟨⟨wk5_17 7 rfl rfl, wk5_17 8 rfl rfl, wk1_2 1 rfl rfl, wk5_17 9 rfl rfl⟩, rfl, ⟨nmh_7.1, nmh_7.2, pd_20⟩⟩
set_option maxRecDepth 100000 in
theorem kV_RX11_110 : CalV RX11 110 yJx4a65c_add_9ea2d cJx4a65c_add_9ea2d 2 (some .boolean) 1 := ⟨⟨wk2_9 6 rfl rfl, wk2_9 7 rfl rfl, wk2_9 8 rfl rfl, wk1_1 0 rfl rfl, wk2_9 9 rfl rfl⟩, ⟨nmh_21.1, nmh_21.2, pd_57⟩⟩
set_option maxRecDepth 100000 in
theorem kI_RX11_107 : CalI RX11 107 yX1_init cX1_init 5 4 := ⟨⟨wk2_5 5 rfl rfl, wk2_5 6 rfl rfl, wk1_1 2 rfl rfl, wk2_5 7 rfl rfl⟩, rfl, ⟨nmh_2.1, nmh_2.2, pd_29⟩⟩
set_option maxRecDepth 100000 in
theorem kI_RX11_513 : CalI RX11 513 yX3_init cX3_init 4 3 := ⟨⟨wk6_3 5 rfl rfl, wk6_3 6 rfl rfl, wk1_2 2 rfl rfl, wk6_3 7 rfl rfl⟩, rfl, ⟨nmh_4.1, nmh_4.2, pd_25⟩⟩
set_option maxRecDepth 100000 in
theorem kI_RX11_399 : CalI RX11 399 yX4_init cX4_init 6 5 := ⟨⟨wk5_6 1 rfl rfl, wk5_6 2 rfl rfl, wk1_2 0 rfl rfl, wk5_6 3 rfl rfl⟩, rfl, ⟨nmh_5.1, nmh_5.2, pd_32⟩⟩
set_option maxRecDepth 100000 in
theorem kI_RX11_125 : CalI RX11 125 yX2_init cX2_init 7 6 := ⟨⟨wk2_17 2 rfl rfl, wk2_17 3 rfl rfl, wk1_1 7 rfl rfl, wk2_17 4 rfl rfl⟩, rfl, ⟨nmh_3.1, nmh_3.2, pd_34⟩⟩
set_option maxRecDepth 100000 in
theorem pf_RX11_128 {p : Program} {l : Launch} {e : Env} {R : Room} {s : State} {m : MethodId} {args : Array Value} {below : List Frame} {meth : Method} {c : Code} {H : Heap} {locs : List Loc} {cells slots : Nat} {Q : State → Prop} {cc : ByteArray} {nL pc : Nat} {D : va_G} {cI cB cZ : ClassId} {ws : va_W} {rest : List Value} {ls : Array Slot} {a : Nat} {fs : List Value} {v : Value} {A : Nat → Prop} {H0 : Heap} (S : SF p m c cc nL s args RX11) (hK : KK D cI cB cZ s) (hP : va_P D vwCl ws H) (hD : va_D A ws) (hS : va_S A H0 H locs) (q0 : Nat) (he : ws[q0]? = some (a, .inr (3, fs))) (hl : 6 < fs.length) (hn : narrow (tyX2 6) v = v) (hfit : fits (tyX2 6) v = true) (hdg : decode cc pc = .ok (.putfield 128, 3)) (kk : ∀ (H1 : Heap) (locs1 : List Loc), va_P D vwCl (ws.set q0 (a, .inr (3, fs.set 6 v))) H1 → va_D A (ws.set q0 (a, .inr (3, fs.set 6 v))) → va_S A H0 H1 locs1 → W p l e R s m args below meth c H1 locs1 cells slots Q (F0 m (pc + 3) ls rest)) : W p l e R s m args below meth c H locs cells slots Q (F0 m pc ls (v :: .ref a :: rest)) :=
  va_put (C := RX2) (T := TX2) (N := 10) S.1 S.2.1 S.2.2.2.2 hin_RX2 tyX2 tyX2_ok nmX2 S.2.2.2.1 hK.1 hP hD hS q0 he rfl 6 (by decide) (S.2.2.2.2 _ (wk2_18 9 rfl rfl)) (fun _ h9 => h9) rfl (tyX2_ok 6 (by decide)) hn hfit hl hdg kk
set_option maxRecDepth 100000 in
theorem gf_RX11_131 {p : Program} {l : Launch} {e : Env} {R : Room} {s : State} {m : MethodId} {args : Array Value} {below : List Frame} {meth : Method} {c : Code} {H : Heap} {locs : List Loc} {cells slots : Nat} {Q : State → Prop} {cc : ByteArray} {nL pc : Nat} {D : va_G} {cI cB cZ : ClassId} {ws : va_W} {rest : List Value} {ls : Array Slot} {a : Nat} {fs : List Value} {v : Value} (S : SF p m c cc nL s args RX11) (hK : KK D cI cB cZ s) (hP : va_P D vwCl ws H) (q0 : Nat) (he : ws[q0]? = some (a, .inr (2, fs))) (hv : fs[6]? = some v) (hdg : decode cc pc = .ok (.getfield 131, 3)) (kk : W p l e R s m args below meth c H locs cells slots Q (F0 m (pc + 3) ls (v :: rest))) : W p l e R s m args below meth c H locs cells slots Q (F0 m pc ls (.ref a :: rest)) :=
  va_get (C := RX1) (T := TX1) (N := 11) S.1 S.2.1 S.2.2.2.2 hin_RX1 S.2.2.2.1 hK.1 hP q0 he rfl 6 (by decide) (S.2.2.2.2 _ (wk2_6 11 rfl rfl)) (fun _ h9 => h9) hv hdg kk
set_option maxRecDepth 100000 in
theorem pf_RX11_134 {p : Program} {l : Launch} {e : Env} {R : Room} {s : State} {m : MethodId} {args : Array Value} {below : List Frame} {meth : Method} {c : Code} {H : Heap} {locs : List Loc} {cells slots : Nat} {Q : State → Prop} {cc : ByteArray} {nL pc : Nat} {D : va_G} {cI cB cZ : ClassId} {ws : va_W} {rest : List Value} {ls : Array Slot} {a : Nat} {fs : List Value} {v : Value} {A : Nat → Prop} {H0 : Heap} (S : SF p m c cc nL s args RX11) (hK : KK D cI cB cZ s) (hP : va_P D vwCl ws H) (hD : va_D A ws) (hS : va_S A H0 H locs) (q0 : Nat) (he : ws[q0]? = some (a, .inr (3, fs))) (hl : 7 < fs.length) (hn : narrow (tyX2 7) v = v) (hfit : fits (tyX2 7) v = true) (hdg : decode cc pc = .ok (.putfield 134, 3)) (kk : ∀ (H1 : Heap) (locs1 : List Loc), va_P D vwCl (ws.set q0 (a, .inr (3, fs.set 7 v))) H1 → va_D A (ws.set q0 (a, .inr (3, fs.set 7 v))) → va_S A H0 H1 locs1 → W p l e R s m args below meth c H1 locs1 cells slots Q (F0 m (pc + 3) ls rest)) : W p l e R s m args below meth c H locs cells slots Q (F0 m pc ls (v :: .ref a :: rest)) :=
  va_put (C := RX2) (T := TX2) (N := 10) S.1 S.2.1 S.2.2.2.2 hin_RX2 tyX2 tyX2_ok nmX2 S.2.2.2.1 hK.1 hP hD hS q0 he rfl 7 (by decide) (S.2.2.2.2 _ (wk2_18 10 rfl rfl)) (fun _ h9 => h9) rfl (tyX2_ok 7 (by decide)) hn hfit hl hdg kk
set_option maxRecDepth 100000 in
theorem pf_RX11_141 {p : Program} {l : Launch} {e : Env} {R : Room} {s : State} {m : MethodId} {args : Array Value} {below : List Frame} {meth : Method} {c : Code} {H : Heap} {locs : List Loc} {cells slots : Nat} {Q : State → Prop} {cc : ByteArray} {nL pc : Nat} {D : va_G} {cI cB cZ : ClassId} {ws : va_W} {rest : List Value} {ls : Array Slot} {a : Nat} {fs : List Value} {v : Value} {A : Nat → Prop} {H0 : Heap} (S : SF p m c cc nL s args RX11) (hK : KK D cI cB cZ s) (hP : va_P D vwCl ws H) (hD : va_D A ws) (hS : va_S A H0 H locs) (q0 : Nat) (he : ws[q0]? = some (a, .inr (3, fs))) (hl : 8 < fs.length) (hn : narrow (tyX2 8) v = v) (hfit : fits (tyX2 8) v = true) (hdg : decode cc pc = .ok (.putfield 141, 3)) (kk : ∀ (H1 : Heap) (locs1 : List Loc), va_P D vwCl (ws.set q0 (a, .inr (3, fs.set 8 v))) H1 → va_D A (ws.set q0 (a, .inr (3, fs.set 8 v))) → va_S A H0 H1 locs1 → W p l e R s m args below meth c H1 locs1 cells slots Q (F0 m (pc + 3) ls rest)) : W p l e R s m args below meth c H locs cells slots Q (F0 m pc ls (v :: .ref a :: rest)) :=
  va_put (C := RX2) (T := TX2) (N := 10) S.1 S.2.1 S.2.2.2.2 hin_RX2 tyX2 tyX2_ok nmX2 S.2.2.2.1 hK.1 hP hD hS q0 he rfl 8 (by decide) (S.2.2.2.2 _ (wk2_18 11 rfl rfl)) (fun _ h9 => h9) rfl (tyX2_ok 8 (by decide)) hn hfit hl hdg kk
set_option maxRecDepth 100000 in
theorem pf_RX11_118 {p : Program} {l : Launch} {e : Env} {R : Room} {s : State} {m : MethodId} {args : Array Value} {below : List Frame} {meth : Method} {c : Code} {H : Heap} {locs : List Loc} {cells slots : Nat} {Q : State → Prop} {cc : ByteArray} {nL pc : Nat} {D : va_G} {cI cB cZ : ClassId} {ws : va_W} {rest : List Value} {ls : Array Slot} {a : Nat} {fs : List Value} {v : Value} {A : Nat → Prop} {H0 : Heap} (S : SF p m c cc nL s args RX11) (hK : KK D cI cB cZ s) (hP : va_P D vwCl ws H) (hD : va_D A ws) (hS : va_S A H0 H locs) (q0 : Nat) (he : ws[q0]? = some (a, .inr (2, fs))) (hl : 4 < fs.length) (hn : narrow (tyX1 4) v = v) (hfit : fits (tyX1 4) v = true) (hdg : decode cc pc = .ok (.putfield 118, 3)) (kk : ∀ (H1 : Heap) (locs1 : List Loc), va_P D vwCl (ws.set q0 (a, .inr (2, fs.set 4 v))) H1 → va_D A (ws.set q0 (a, .inr (2, fs.set 4 v))) → va_S A H0 H1 locs1 → W p l e R s m args below meth c H1 locs1 cells slots Q (F0 m (pc + 3) ls rest)) : W p l e R s m args below meth c H locs cells slots Q (F0 m pc ls (v :: .ref a :: rest)) :=
  va_put (C := RX1) (T := TX1) (N := 11) S.1 S.2.1 S.2.2.2.2 hin_RX1 tyX1 tyX1_ok nmX1 S.2.2.2.1 hK.1 hP hD hS q0 he rfl 4 (by decide) (S.2.2.2.2 _ (wk2_6 9 rfl rfl)) (fun _ h9 => h9) rfl (tyX1_ok 4 (by decide)) hn hfit hl hdg kk
set_option maxRecDepth 100000 in
theorem pf_RX11_131 {p : Program} {l : Launch} {e : Env} {R : Room} {s : State} {m : MethodId} {args : Array Value} {below : List Frame} {meth : Method} {c : Code} {H : Heap} {locs : List Loc} {cells slots : Nat} {Q : State → Prop} {cc : ByteArray} {nL pc : Nat} {D : va_G} {cI cB cZ : ClassId} {ws : va_W} {rest : List Value} {ls : Array Slot} {a : Nat} {fs : List Value} {v : Value} {A : Nat → Prop} {H0 : Heap} (S : SF p m c cc nL s args RX11) (hK : KK D cI cB cZ s) (hP : va_P D vwCl ws H) (hD : va_D A ws) (hS : va_S A H0 H locs) (q0 : Nat) (he : ws[q0]? = some (a, .inr (2, fs))) (hl : 6 < fs.length) (hn : narrow (tyX1 6) v = v) (hfit : fits (tyX1 6) v = true) (hdg : decode cc pc = .ok (.putfield 131, 3)) (kk : ∀ (H1 : Heap) (locs1 : List Loc), va_P D vwCl (ws.set q0 (a, .inr (2, fs.set 6 v))) H1 → va_D A (ws.set q0 (a, .inr (2, fs.set 6 v))) → va_S A H0 H1 locs1 → W p l e R s m args below meth c H1 locs1 cells slots Q (F0 m (pc + 3) ls rest)) : W p l e R s m args below meth c H locs cells slots Q (F0 m pc ls (v :: .ref a :: rest)) :=
  va_put (C := RX1) (T := TX1) (N := 11) S.1 S.2.1 S.2.2.2.2 hin_RX1 tyX1 tyX1_ok nmX1 S.2.2.2.1 hK.1 hP hD hS q0 he rfl 6 (by decide) (S.2.2.2.2 _ (wk2_6 11 rfl rfl)) (fun _ h9 => h9) rfl (tyX1_ok 6 (by decide)) hn hfit hl hdg kk
noncomputable def sxX11_sewer_61 : List UInt8 := []
noncomputable def sxX11_sewer_50 : List UInt8 := 87 :: 42 :: 180 :: 0 :: 74 :: 182 :: 0 :: 84 :: 4 :: 100 :: 172 :: sxX11_sewer_61
noncomputable def sxX11_sewer_24 : List UInt8 := 182 :: 0 :: 84 :: 16 :: 10 :: 161 :: 0 :: 5 :: 2 :: 172 :: 42 :: 180 :: 0 :: 74 :: 187 :: 1 :: 217 :: 89 :: 27 :: 28 :: 183 :: 1 :: 219 :: 182 :: 0 :: 110 :: sxX11_sewer_50
theorem shX11_sewer_0 : cX11_sewer.data.toList.drop 0 = 27 :: 3 :: 16 :: 99 :: 184 :: 0 :: 80 :: 153 :: 0 :: 25 :: 28 :: 3 :: 16 :: 99 :: 184 :: 0 :: 80 :: 153 :: 0 :: 15 :: 42 :: 180 :: 0 :: 74 :: sxX11_sewer_24 := rfl
theorem shX11_sewer_24 : cX11_sewer.data.toList.drop 24 = 182 :: 0 :: 84 :: 16 :: 10 :: 161 :: 0 :: 5 :: 2 :: 172 :: 42 :: 180 :: 0 :: 74 :: 187 :: 1 :: 217 :: 89 :: 27 :: 28 :: 183 :: 1 :: 219 :: 182 :: 0 :: 110 :: sxX11_sewer_50 := aq_24 shX11_sewer_0
theorem shX11_sewer_50 : cX11_sewer.data.toList.drop 50 = 87 :: 42 :: 180 :: 0 :: 74 :: 182 :: 0 :: 84 :: 4 :: 100 :: 172 :: sxX11_sewer_61 := aq_26 shX11_sewer_24
noncomputable def sxX11_kitchen_99 : List UInt8 := []
noncomputable def sxX11_kitchen_97 : List UInt8 := 100 :: 172 :: sxX11_kitchen_99
noncomputable def sxX11_kitchen_73 : List UInt8 := 187 :: 0 :: 91 :: 89 :: 27 :: 28 :: 29 :: 21 :: 4 :: 183 :: 0 :: 107 :: 182 :: 0 :: 110 :: 87 :: 42 :: 180 :: 0 :: 61 :: 182 :: 0 :: 84 :: 4 :: sxX11_kitchen_97
noncomputable def sxX11_kitchen_49 : List UInt8 := 184 :: 0 :: 80 :: 153 :: 0 :: 15 :: 42 :: 180 :: 0 :: 61 :: 182 :: 0 :: 84 :: 16 :: 10 :: 161 :: 0 :: 5 :: 2 :: 172 :: 42 :: 180 :: 0 :: 61 :: sxX11_kitchen_73
noncomputable def sxX11_kitchen_24 : List UInt8 := 3 :: 54 :: 5 :: 21 :: 5 :: 153 :: 0 :: 38 :: 29 :: 3 :: 16 :: 50 :: 184 :: 0 :: 80 :: 153 :: 0 :: 28 :: 21 :: 4 :: 16 :: 20 :: 17 :: 1 :: 144 :: sxX11_kitchen_49
theorem shX11_kitchen_0 : cX11_kitchen.data.toList.drop 0 = 27 :: 3 :: 16 :: 99 :: 184 :: 0 :: 80 :: 153 :: 0 :: 17 :: 28 :: 3 :: 16 :: 99 :: 184 :: 0 :: 80 :: 153 :: 0 :: 7 :: 4 :: 167 :: 0 :: 4 :: sxX11_kitchen_24 := rfl
theorem shX11_kitchen_24 : cX11_kitchen.data.toList.drop 24 = 3 :: 54 :: 5 :: 21 :: 5 :: 153 :: 0 :: 38 :: 29 :: 3 :: 16 :: 50 :: 184 :: 0 :: 80 :: 153 :: 0 :: 28 :: 21 :: 4 :: 16 :: 20 :: 17 :: 1 :: 144 :: sxX11_kitchen_49 := aq_24 shX11_kitchen_0
theorem shX11_kitchen_49 : cX11_kitchen.data.toList.drop 49 = 184 :: 0 :: 80 :: 153 :: 0 :: 15 :: 42 :: 180 :: 0 :: 61 :: 182 :: 0 :: 84 :: 16 :: 10 :: 161 :: 0 :: 5 :: 2 :: 172 :: 42 :: 180 :: 0 :: 61 :: sxX11_kitchen_73 := aq_25 shX11_kitchen_24
theorem shX11_kitchen_73 : cX11_kitchen.data.toList.drop 73 = 187 :: 0 :: 91 :: 89 :: 27 :: 28 :: 29 :: 21 :: 4 :: 183 :: 0 :: 107 :: 182 :: 0 :: 110 :: 87 :: 42 :: 180 :: 0 :: 61 :: 182 :: 0 :: 84 :: 4 :: sxX11_kitchen_97 := aq_24 shX11_kitchen_49
theorem shX11_kitchen_97 : cX11_kitchen.data.toList.drop 97 = 100 :: 172 :: sxX11_kitchen_99 := aq_24 shX11_kitchen_73
theorem dX11_kitchen_67 : decode cX11_kitchen 67 = .ok (.iconst (-1), 1) := oc_2 67 (aq_18 shX11_kitchen_49)
theorem dX11_kitchen_68 : decode cX11_kitchen 68 = .ok (.ireturn, 1) := oc_172 68 (aq_19 shX11_kitchen_49)
noncomputable def sxX11_moves_111 : List UInt8 := []
noncomputable def sxX11_moves_98 : List UInt8 := 89 :: 27 :: 28 :: 29 :: 183 :: 2 :: 1 :: 182 :: 0 :: 110 :: 87 :: 4 :: 172 :: sxX11_moves_111
noncomputable def sxX11_moves_73 : List UInt8 := 58 :: 5 :: 25 :: 5 :: 198 :: 0 :: 14 :: 29 :: 25 :: 5 :: 180 :: 1 :: 252 :: 162 :: 0 :: 5 :: 3 :: 172 :: 42 :: 180 :: 0 :: 77 :: 187 :: 1 :: 249 :: sxX11_moves_98
noncomputable def sxX11_moves_48 : List UInt8 := 153 :: 0 :: 15 :: 42 :: 180 :: 0 :: 77 :: 182 :: 0 :: 84 :: 16 :: 60 :: 161 :: 0 :: 5 :: 3 :: 172 :: 42 :: 27 :: 17 :: 1 :: 143 :: 182 :: 1 :: 253 :: sxX11_moves_73
noncomputable def sxX11_moves_24 : List UInt8 := 198 :: 0 :: 7 :: 4 :: 167 :: 0 :: 4 :: 3 :: 54 :: 4 :: 21 :: 4 :: 153 :: 0 :: 27 :: 29 :: 3 :: 42 :: 180 :: 0 :: 103 :: 184 :: 0 :: 80 :: sxX11_moves_48
theorem shX11_moves_0 : cX11_moves.data.toList.drop 0 = 27 :: 3 :: 42 :: 180 :: 1 :: 246 :: 4 :: 100 :: 184 :: 0 :: 80 :: 153 :: 0 :: 20 :: 28 :: 2 :: 159 :: 0 :: 11 :: 42 :: 28 :: 182 :: 0 :: 114 :: sxX11_moves_24 := rfl
theorem shX11_moves_24 : cX11_moves.data.toList.drop 24 = 198 :: 0 :: 7 :: 4 :: 167 :: 0 :: 4 :: 3 :: 54 :: 4 :: 21 :: 4 :: 153 :: 0 :: 27 :: 29 :: 3 :: 42 :: 180 :: 0 :: 103 :: 184 :: 0 :: 80 :: sxX11_moves_48 := aq_24 shX11_moves_0
theorem shX11_moves_48 : cX11_moves.data.toList.drop 48 = 153 :: 0 :: 15 :: 42 :: 180 :: 0 :: 77 :: 182 :: 0 :: 84 :: 16 :: 60 :: 161 :: 0 :: 5 :: 3 :: 172 :: 42 :: 27 :: 17 :: 1 :: 143 :: 182 :: 1 :: 253 :: sxX11_moves_73 := aq_24 shX11_moves_24
theorem shX11_moves_73 : cX11_moves.data.toList.drop 73 = 58 :: 5 :: 25 :: 5 :: 198 :: 0 :: 14 :: 29 :: 25 :: 5 :: 180 :: 1 :: 252 :: 162 :: 0 :: 5 :: 3 :: 172 :: 42 :: 180 :: 0 :: 77 :: 187 :: 1 :: 249 :: sxX11_moves_98 := aq_25 shX11_moves_48
theorem shX11_moves_98 : cX11_moves.data.toList.drop 98 = 89 :: 27 :: 28 :: 29 :: 183 :: 2 :: 1 :: 182 :: 0 :: 110 :: 87 :: 4 :: 172 :: sxX11_moves_111 := aq_25 shX11_moves_73
theorem dX11_moves_32 : decode cX11_moves 32 = .ok (.istore 4, 2) := oc_54 32 (aq_8 shX11_moves_24) ub_4
theorem dX11_moves_34 : decode cX11_moves 34 = .ok (.iload 4, 2) := oc_21 34 (aq_10 shX11_moves_24) ub_4
theorem dX11_moves_36 : decode cX11_moves 36 = .ok (.ifCond .eq 27, 3) := oc_153 36 (aq_12 shX11_moves_24) sgw_0_27
theorem dX11_moves_48 : decode cX11_moves 48 = .ok (.ifCond .eq 15, 3) := oc_153 48 shX11_moves_48 sgw_0_15
theorem dX11_moves_73 : decode cX11_moves 73 = .ok (.astore 5, 2) := oc_58 73 shX11_moves_73 ub_5
theorem dX11_moves_75 : decode cX11_moves 75 = .ok (.aload 5, 2) := oc_25 75 (aq_2 shX11_moves_73) ub_5
theorem dX11_moves_77 : decode cX11_moves 77 = .ok (.ifnull 14, 3) := oc_198 77 (aq_4 shX11_moves_73) sgw_0_14
theorem dX11_moves_91 : decode cX11_moves 91 = .ok (.aload_n 0, 1) := oc_42 91 (aq_18 shX11_moves_73)
theorem dX11_moves_92 : decode cX11_moves 92 = .ok (.getfield 77, 3) := oc_180 92 (aq_19 shX11_moves_73) uw_0_77
theorem dX11_moves_95 : decode cX11_moves 95 = .ok (.new 505, 3) := oc_187 95 (aq_22 shX11_moves_73) uw_1_249
theorem dX11_moves_98 : decode cX11_moves 98 = .ok (.dup, 1) := oc_89 98 shX11_moves_98
theorem dX11_moves_99 : decode cX11_moves 99 = .ok (.iload_n 1, 1) := oc_27 99 (aq_1 shX11_moves_98)
theorem dX11_moves_100 : decode cX11_moves 100 = .ok (.iload_n 2, 1) := oc_28 100 (aq_2 shX11_moves_98)
theorem dX11_moves_101 : decode cX11_moves 101 = .ok (.iload_n 3, 1) := oc_29 101 (aq_3 shX11_moves_98)
theorem dX11_moves_102 : decode cX11_moves 102 = .ok (.invokespecial 513, 3) := oc_183 102 (aq_4 shX11_moves_98) uw_2_1
theorem dX11_moves_105 : decode cX11_moves 105 = .ok (.invokevirtual 110, 3) := oc_182 105 (aq_7 shX11_moves_98) uw_0_110
theorem dX11_moves_108 : decode cX11_moves 108 = .ok (.pop, 1) := oc_87 108 (aq_10 shX11_moves_98)
theorem dX11_moves_109 : decode cX11_moves 109 = .ok (.iconst 1, 1) := oc_4 109 (aq_11 shX11_moves_98)
theorem dX11_moves_110 : decode cX11_moves 110 = .ok (.ireturn, 1) := oc_172 110 (aq_12 shX11_moves_98)
theorem dX11_moves_63 : decode cX11_moves 63 = .ok (.iconst 0, 1) := oc_3 63 (aq_15 shX11_moves_48)
theorem dX11_moves_64 : decode cX11_moves 64 = .ok (.ireturn, 1) := oc_172 64 (aq_16 shX11_moves_48)
noncomputable def sxX11_proof_89 : List UInt8 := []
noncomputable def sxX11_proof_72 : List UInt8 := 183 :: 1 :: 143 :: 182 :: 0 :: 110 :: 87 :: 42 :: 180 :: 0 :: 71 :: 182 :: 0 :: 84 :: 4 :: 100 :: 172 :: sxX11_proof_89
noncomputable def sxX11_proof_48 : List UInt8 := 16 :: 40 :: 161 :: 0 :: 5 :: 2 :: 172 :: 42 :: 180 :: 0 :: 71 :: 187 :: 0 :: 97 :: 89 :: 27 :: 28 :: 29 :: 21 :: 4 :: 42 :: 180 :: 0 :: 103 :: sxX11_proof_72
noncomputable def sxX11_proof_24 : List UInt8 := 180 :: 1 :: 86 :: 163 :: 0 :: 26 :: 21 :: 4 :: 3 :: 16 :: 9 :: 184 :: 0 :: 80 :: 153 :: 0 :: 15 :: 42 :: 180 :: 0 :: 71 :: 182 :: 0 :: 84 :: sxX11_proof_48
theorem shX11_proof_0 : cX11_proof.data.toList.drop 0 = 42 :: 27 :: 182 :: 1 :: 126 :: 58 :: 5 :: 25 :: 5 :: 198 :: 0 :: 44 :: 28 :: 155 :: 0 :: 40 :: 28 :: 29 :: 162 :: 0 :: 35 :: 29 :: 25 :: 5 :: sxX11_proof_24 := rfl
theorem shX11_proof_24 : cX11_proof.data.toList.drop 24 = 180 :: 1 :: 86 :: 163 :: 0 :: 26 :: 21 :: 4 :: 3 :: 16 :: 9 :: 184 :: 0 :: 80 :: 153 :: 0 :: 15 :: 42 :: 180 :: 0 :: 71 :: 182 :: 0 :: 84 :: sxX11_proof_48 := aq_24 shX11_proof_0
theorem shX11_proof_48 : cX11_proof.data.toList.drop 48 = 16 :: 40 :: 161 :: 0 :: 5 :: 2 :: 172 :: 42 :: 180 :: 0 :: 71 :: 187 :: 0 :: 97 :: 89 :: 27 :: 28 :: 29 :: 21 :: 4 :: 42 :: 180 :: 0 :: 103 :: sxX11_proof_72 := aq_24 shX11_proof_24
theorem shX11_proof_72 : cX11_proof.data.toList.drop 72 = 183 :: 1 :: 143 :: 182 :: 0 :: 110 :: 87 :: 42 :: 180 :: 0 :: 71 :: 182 :: 0 :: 84 :: 4 :: 100 :: 172 :: sxX11_proof_89 := aq_24 shX11_proof_48
theorem dX11_proof_53 : decode cX11_proof 53 = .ok (.iconst (-1), 1) := oc_2 53 (aq_5 shX11_proof_48)
theorem dX11_proof_54 : decode cX11_proof 54 = .ok (.ireturn, 1) := oc_172 54 (aq_6 shX11_proof_48)
noncomputable def sxX11_fetch_194 : List UInt8 := []
noncomputable def sxX11_fetch_174 : List UInt8 := 42 :: 180 :: 0 :: 65 :: 25 :: 8 :: 182 :: 0 :: 110 :: 87 :: 42 :: 180 :: 0 :: 65 :: 182 :: 0 :: 84 :: 4 :: 100 :: 172 :: sxX11_fetch_194
noncomputable def sxX11_fetch_148 : List UInt8 := 25 :: 7 :: 28 :: 181 :: 0 :: 118 :: 25 :: 7 :: 89 :: 180 :: 0 :: 131 :: 29 :: 96 :: 181 :: 0 :: 131 :: 42 :: 180 :: 0 :: 47 :: 28 :: 29 :: 182 :: 0 :: 144 :: sxX11_fetch_174
noncomputable def sxX11_fetch_124 : List UInt8 := 181 :: 0 :: 134 :: 25 :: 8 :: 25 :: 8 :: 25 :: 7 :: 28 :: 25 :: 7 :: 180 :: 0 :: 118 :: 182 :: 0 :: 121 :: 182 :: 0 :: 137 :: 181 :: 0 :: 141 :: sxX11_fetch_148
noncomputable def sxX11_fetch_100 : List UInt8 := 21 :: 6 :: 183 :: 0 :: 125 :: 58 :: 8 :: 25 :: 8 :: 25 :: 7 :: 180 :: 0 :: 118 :: 181 :: 0 :: 128 :: 25 :: 8 :: 25 :: 7 :: 180 :: 0 :: 131 :: sxX11_fetch_124
noncomputable def sxX11_fetch_75 : List UInt8 := 21 :: 5 :: 3 :: 17 :: 3 :: 232 :: 184 :: 0 :: 80 :: 154 :: 0 :: 5 :: 2 :: 172 :: 187 :: 0 :: 93 :: 89 :: 27 :: 28 :: 29 :: 21 :: 4 :: 21 :: 5 :: sxX11_fetch_100
noncomputable def sxX11_fetch_49 : List UInt8 := 153 :: 0 :: 38 :: 29 :: 3 :: 17 :: 1 :: 144 :: 184 :: 0 :: 80 :: 153 :: 0 :: 27 :: 21 :: 4 :: 3 :: 17 :: 3 :: 232 :: 184 :: 0 :: 80 :: 153 :: 0 :: 15 :: sxX11_fetch_75
noncomputable def sxX11_fetch_24 : List UInt8 := 28 :: 25 :: 7 :: 180 :: 0 :: 118 :: 42 :: 180 :: 0 :: 103 :: 184 :: 0 :: 80 :: 153 :: 0 :: 50 :: 21 :: 6 :: 28 :: 17 :: 1 :: 143 :: 184 :: 0 :: 80 :: sxX11_fetch_49
theorem shX11_fetch_0 : cX11_fetch.data.toList.drop 0 = 42 :: 27 :: 182 :: 0 :: 114 :: 58 :: 7 :: 25 :: 7 :: 198 :: 0 :: 78 :: 42 :: 180 :: 0 :: 65 :: 182 :: 0 :: 84 :: 16 :: 60 :: 162 :: 0 :: 66 :: sxX11_fetch_24 := rfl
theorem shX11_fetch_24 : cX11_fetch.data.toList.drop 24 = 28 :: 25 :: 7 :: 180 :: 0 :: 118 :: 42 :: 180 :: 0 :: 103 :: 184 :: 0 :: 80 :: 153 :: 0 :: 50 :: 21 :: 6 :: 28 :: 17 :: 1 :: 143 :: 184 :: 0 :: 80 :: sxX11_fetch_49 := aq_24 shX11_fetch_0
theorem shX11_fetch_49 : cX11_fetch.data.toList.drop 49 = 153 :: 0 :: 38 :: 29 :: 3 :: 17 :: 1 :: 144 :: 184 :: 0 :: 80 :: 153 :: 0 :: 27 :: 21 :: 4 :: 3 :: 17 :: 3 :: 232 :: 184 :: 0 :: 80 :: 153 :: 0 :: 15 :: sxX11_fetch_75 := aq_25 shX11_fetch_24
theorem shX11_fetch_75 : cX11_fetch.data.toList.drop 75 = 21 :: 5 :: 3 :: 17 :: 3 :: 232 :: 184 :: 0 :: 80 :: 154 :: 0 :: 5 :: 2 :: 172 :: 187 :: 0 :: 93 :: 89 :: 27 :: 28 :: 29 :: 21 :: 4 :: 21 :: 5 :: sxX11_fetch_100 := aq_26 shX11_fetch_49
theorem shX11_fetch_100 : cX11_fetch.data.toList.drop 100 = 21 :: 6 :: 183 :: 0 :: 125 :: 58 :: 8 :: 25 :: 8 :: 25 :: 7 :: 180 :: 0 :: 118 :: 181 :: 0 :: 128 :: 25 :: 8 :: 25 :: 7 :: 180 :: 0 :: 131 :: sxX11_fetch_124 := aq_25 shX11_fetch_75
theorem shX11_fetch_124 : cX11_fetch.data.toList.drop 124 = 181 :: 0 :: 134 :: 25 :: 8 :: 25 :: 8 :: 25 :: 7 :: 28 :: 25 :: 7 :: 180 :: 0 :: 118 :: 182 :: 0 :: 121 :: 182 :: 0 :: 137 :: 181 :: 0 :: 141 :: sxX11_fetch_148 := aq_24 shX11_fetch_100
theorem shX11_fetch_148 : cX11_fetch.data.toList.drop 148 = 25 :: 7 :: 28 :: 181 :: 0 :: 118 :: 25 :: 7 :: 89 :: 180 :: 0 :: 131 :: 29 :: 96 :: 181 :: 0 :: 131 :: 42 :: 180 :: 0 :: 47 :: 28 :: 29 :: 182 :: 0 :: 144 :: sxX11_fetch_174 := aq_24 shX11_fetch_124
theorem shX11_fetch_174 : cX11_fetch.data.toList.drop 174 = 42 :: 180 :: 0 :: 65 :: 25 :: 8 :: 182 :: 0 :: 110 :: 87 :: 42 :: 180 :: 0 :: 65 :: 182 :: 0 :: 84 :: 4 :: 100 :: 172 :: sxX11_fetch_194 := aq_26 shX11_fetch_148
theorem dX11_fetch_5 : decode cX11_fetch 5 = .ok (.astore 7, 2) := oc_58 5 (aq_5 shX11_fetch_0) ub_7
theorem dX11_fetch_7 : decode cX11_fetch 7 = .ok (.aload 7, 2) := oc_25 7 (aq_7 shX11_fetch_0) ub_7
theorem dX11_fetch_9 : decode cX11_fetch 9 = .ok (.ifnull 78, 3) := oc_198 9 (aq_9 shX11_fetch_0) sgw_0_78
theorem dX11_fetch_87 : decode cX11_fetch 87 = .ok (.iconst (-1), 1) := oc_2 87 (aq_12 shX11_fetch_75)
theorem dX11_fetch_88 : decode cX11_fetch 88 = .ok (.ireturn, 1) := oc_172 88 (aq_13 shX11_fetch_75)
theorem dX11_fetch_37 : decode cX11_fetch 37 = .ok (.ifCond .eq 50, 3) := oc_153 37 (aq_13 shX11_fetch_24) sgw_0_50
theorem dX11_fetch_49 : decode cX11_fetch 49 = .ok (.ifCond .eq 38, 3) := oc_153 49 shX11_fetch_49 sgw_0_38
theorem dX11_fetch_60 : decode cX11_fetch 60 = .ok (.ifCond .eq 27, 3) := oc_153 60 (aq_11 shX11_fetch_49) sgw_0_27
theorem dX11_fetch_72 : decode cX11_fetch 72 = .ok (.ifCond .eq 15, 3) := oc_153 72 (aq_23 shX11_fetch_49) sgw_0_15
theorem dX11_fetch_84 : decode cX11_fetch 84 = .ok (.ifCond .ne 5, 3) := oc_154 84 (aq_9 shX11_fetch_75) sgw_0_5
theorem dX11_fetch_180 : decode cX11_fetch 180 = .ok (.invokevirtual 110, 3) := oc_182 180 (aq_6 shX11_fetch_174) uw_0_110
theorem dX11_fetch_183 : decode cX11_fetch 183 = .ok (.pop, 1) := oc_87 183 (aq_9 shX11_fetch_174)
theorem dX11_fetch_184 : decode cX11_fetch 184 = .ok (.aload_n 0, 1) := oc_42 184 (aq_10 shX11_fetch_174)
theorem dX11_fetch_185 : decode cX11_fetch 185 = .ok (.getfield 65, 3) := oc_180 185 (aq_11 shX11_fetch_174) uw_0_65
theorem dX11_fetch_188 : decode cX11_fetch 188 = .ok (.invokevirtual 84, 3) := oc_182 188 (aq_14 shX11_fetch_174) uw_0_84
theorem dX11_fetch_191 : decode cX11_fetch 191 = .ok (.iconst 1, 1) := oc_4 191 (aq_17 shX11_fetch_174)
theorem dX11_fetch_192 : decode cX11_fetch 192 = .ok (.isub, 1) := oc_100 192 (aq_18 shX11_fetch_174)
theorem dX11_fetch_193 : decode cX11_fetch 193 = .ok (.ireturn, 1) := oc_172 193 (aq_19 shX11_fetch_174)
set_option maxRecDepth 100000 in
set_option maxHeartbeats 4000000 in
theorem q_l_shortOf (l : Launch) (D : va_G) (cI cB cZ : ClassId) (x : Nat) (e0 e1 e2 e3 e4 e5 e6 e7 e8 e9 : Int32) (v0 : Int32) : Met l yX2_shortOf (CWS yX2_shortOf cX2_shortOf 2 (some .int)) (RM 1 0 0) (PBr [.ref x, .int v0] D cI cB cZ [(x, .inr (3, [.int e0, .int e1, .int e2, .int e3, .int e4, .int e5, .int e6, .int e7, .int e8, .int e9]))]) (vp_Si (fun r => r = (if 0 < (v0 - e2) - v0 / 10 then (v0 - e2) - v0 / 10 else 0))) 0 0 (fun _ => False) := by
  refine en_r rfl pn_RX2 (Nat.le_of_ble_eq_true rfl) (fun p e s m below meth c hx hb hml hown S hr hlocks hnm hP hK hS ls hl => ?_)
  have hP : va_P D vwCl [(x, .inr (3, [.int e0, .int e1, .int e2, .int e3, .int e4, .int e5, .int e6, .int e7, .int e8, .int e9]))] s.heap := hP
  have hl : lv_has ls 2 [(0, .ref x), (1, .int v0)] := hl
  refine lv_iconst (v := 0) hx hb (oc_3 0 shX2_shortOf_0) kic_0 ?_
  refine lv_iload_n hx hb (oc_27 1 (aq_1 shX2_shortOf_0)) rfl (lvA1 hl) ?_
  refine lv_aload_n hx hb (oc_42 2 (aq_2 shX2_shortOf_0)) rfl (lvA0 hl) ?_
  refine gf_RX2_16 S hK hP 0 rfl (v := .int e2) rfl (oc_180 3 (aq_3 shX2_shortOf_0) uw_0_16) ?_
  refine lv_isub hx hb (oc_100 6 (aq_6 shX2_shortOf_0)) ?_
  refine lv_iload_n hx hb (oc_27 7 (aq_7 shX2_shortOf_0)) rfl (lvA1 hl) ?_
  refine lv_bipush (v := 10) hx hb (oc_16 8 (aq_8 shX2_shortOf_0) sgb_10) kbc_10 ?_
  refine lv_idiv hx hb (oc_108 10 (aq_10 shX2_shortOf_0)) (by decide) ?_
  refine lv_isub hx hb (oc_100 11 (aq_11 shX2_shortOf_0)) ?_
  refine va_mmax hx hb (by rw [hml]; exact hl.1.symm) hown (S.2.2.2.2 _ (wk3_1 2 rfl rfl)) (S.2.2.2.2 _ (wk1_3 6 rfl rfl)) (S.2.2.2.2 _ (wk1_0 3 rfl rfl)) (S.2.2.2.2 _ (wk1_3 7 rfl rfl)) (Nat.le_of_ble_eq_true rfl) (Nat.le_of_ble_eq_true rfl) (Nat.le_of_ble_eq_true rfl) (Nat.le_of_ble_eq_true rfl) (oc_184 12 (aq_12 shX2_shortOf_0) uw_0_28) ?_
  exact W.iret (v := (if 0 < ((v0 - e2) - (v0 / 10)) then ((v0 - e2) - (v0 / 10)) else 0)) hx hb hr (fun t ht hW => ⟨(if 0 < ((v0 - e2) - (v0 / 10)) then ((v0 - e2) - (v0 / 10)) else 0), rfl, rfl, ht⟩) (fun _ h => absurd h List.not_mem_nil) (oc_172 15 (aq_15 shX2_shortOf_0))
set_option maxRecDepth 100000 in
set_option maxHeartbeats 4000000 in
theorem q_Xsewer (l : Launch) (D : va_G) (cI cB cZ : ClassId) (zz qq vv : Nat) (bt : Nat → Int32) (g : Nat → Nat) (ad : Nat → Nat → Nat) (cn : Nat → Nat) (In : Nat → Int32) (Fn : Nat → Nat → Int32) (v0 v1 : Int32) (sz : Nat) (hB : CBX cn) : Met l yX11_sewer (CWS yX11_sewer cX11_sewer 3 (some .int)) (RM 8 2 103) (PBx [.ref (g 0), .int v0, .int v1] D cI cB cZ zz qq vv bt (wX cI (D.1 99) zz g ad cn In Fn) sz) (va_Qi (fun (r : Int32) (u : (Nat → Nat → Nat) × (Nat → Nat) × (Nat → Int32) × (Nat → Nat → Int32)) => (fun r a2 c2 I2 F2 => (r = (-1) ∧ ¬ (0 ≤ v0.toInt ∧ v0.toInt ≤ 99 ∧ 0 ≤ v1.toInt ∧ v1.toInt ≤ 99 ∧ cn 14 < 10) ∧ ad = a2 ∧ cn = c2 ∧ In = I2 ∧ Fn = F2) ∨ (r = nI (cn 14) ∧ (0 ≤ v0.toInt ∧ v0.toInt ≤ 99 ∧ 0 ≤ v1.toInt ∧ v1.toInt ≤ 99 ∧ cn 14 < 10) ∧ ∃ (q z c : Nat) (y : Int32), (cn 14 < c ∧ c ≤ 100) ∧ (adP ad 14 (cn 14) q 4 z) = a2 ∧ (va_up (va_up cn 14 ((cn 14) + 1)) 24 c) = c2 ∧ (va_up In 14 y) = I2 ∧ (va_up (va_up (va_up Fn 170 (upd (Fn 170) (cn 14) v0)) 171 (upd (Fn 171) (cn 14) v1)) 172 (upd (Fn 172) (cn 14) 0)) = F2)) r u.1 u.2.1 u.2.2.1 u.2.2.2) (fun (u : (Nat → Nat → Nat) × (Nat → Nat) × (Nat → Int32) × (Nat → Nat → Int32)) (t : State) => va_P D vwCl (wX cI (D.1 99) zz g u.1 u.2.1 u.2.2.1 u.2.2.2) t.heap ∧ va_D (va_A (wX cI (D.1 99) zz g ad cn In Fn) sz) (wX cI (D.1 99) zz g u.1 u.2.1 u.2.2.1 u.2.2.2)) (va_A (wX cI (D.1 99) zz g ad cn In Fn) sz)) 2 103 (va_A (wX cI (D.1 99) zz g ad cn In Fn) sz) := by
  refine en_x (fun A => (va_Qi (fun (r : Int32) (u : (Nat → Nat → Nat) × (Nat → Nat) × (Nat → Int32) × (Nat → Nat → Int32)) => (fun (r : Int32) (a2 : Nat → Nat → Nat) (c2 : Nat → Nat) (I2 : Nat → Int32) (F2 : Nat → Nat → Int32) => (r = (-1) ∧ ¬ (0 ≤ v0.toInt ∧ v0.toInt ≤ 99 ∧ 0 ≤ v1.toInt ∧ v1.toInt ≤ 99 ∧ cn 14 < 10) ∧ ad = a2 ∧ cn = c2 ∧ In = I2 ∧ Fn = F2) ∨ (r = nI (cn 14) ∧ (0 ≤ v0.toInt ∧ v0.toInt ≤ 99 ∧ 0 ≤ v1.toInt ∧ v1.toInt ≤ 99 ∧ cn 14 < 10) ∧ ∃ (q z c : Nat) (y : Int32), (cn 14 < c ∧ c ≤ 100) ∧ (adP ad 14 (cn 14) q 4 z) = a2 ∧ (va_up (va_up cn 14 ((cn 14) + 1)) 24 c) = c2 ∧ (va_up In 14 y) = I2 ∧ (va_up (va_up (va_up Fn 170 (upd (Fn 170) (cn 14) v0)) 171 (upd (Fn 171) (cn 14) v1)) 172 (upd (Fn 172) (cn 14) 0)) = F2)) r u.1 u.2.1 u.2.2.1 u.2.2.2) (fun (u : (Nat → Nat → Nat) × (Nat → Nat) × (Nat → Int32) × (Nat → Nat → Int32)) (t : State) => va_P D vwCl (wX cI (D.1 99) zz g u.1 u.2.1 u.2.2.1 u.2.2.2) t.heap ∧ va_D A (wX cI (D.1 99) zz g u.1 u.2.1 u.2.2.1 u.2.2.2)) A)) rfl rfl pn_RX11 (Nat.le_of_ble_eq_true rfl) (fun p e s m below meth c A hx hb hml hown S hr hlocks hnm hA hP hK hD hXS hS ls hl => ?_)
  have hl : lv_has ls 3 [(0, .ref (g 0)), (1, .int v0), (2, .int v1)] := hl
  refine lv_iload_n hx hb (oc_27 0 shX11_sewer_0) rfl (lvA1 hl) ?_
  refine lv_iconst (v := 0) hx hb (oc_3 1 (aq_1 shX11_sewer_0)) kic_0 ?_
  refine lv_bipush (v := 99) hx hb (oc_16 2 (aq_2 shX11_sewer_0) sgb_99) kbc_99 ?_
  refine vp_callSi (runS_r (As := [.int v0, .int 0, .int 99]) (rest := []) S (q_l_within l D cI cB cZ v0 0 99) kS_RX11_80 hK hP [] rfl ⟨Nat.le_of_ble_eq_true rfl, Nat.le_of_ble_eq_true rfl⟩ ⟨Nat.le_of_ble_eq_true rfl, Nat.le_of_ble_eq_true rfl⟩ rfl hl.1 rfl (Nat.le_of_ble_eq_true rfl) (oc_184 4 (aq_4 shX11_sewer_0) uw_0_80)) (fun r_1 h_2 => ?_)
  rcases h_2 with ⟨rfl, h_2⟩ | ⟨rfl, h_2⟩
  ·
    have h_2 : 0 ≤ v0.toInt ∧ v0.toInt ≤ 99 := h_2
    refine lv_if_eq (tgt := 32) hx hb (oc_153 7 (aq_7 shX11_sewer_0) sgw_0_25) rfl (fun h => absurd h cq_eq_1_0) (fun _ => ?_)
    refine lv_iload_n hx hb (oc_28 10 (aq_10 shX11_sewer_0)) rfl (lvA2 hl) ?_
    refine lv_iconst (v := 0) hx hb (oc_3 11 (aq_11 shX11_sewer_0)) kic_0 ?_
    refine lv_bipush (v := 99) hx hb (oc_16 12 (aq_12 shX11_sewer_0) sgb_99) kbc_99 ?_
    refine vp_callSi (runS_r (As := [.int v1, .int 0, .int 99]) (rest := []) S (q_l_within l D cI cB cZ v1 0 99) kS_RX11_80 hK hP [] rfl ⟨Nat.le_of_ble_eq_true rfl, Nat.le_of_ble_eq_true rfl⟩ ⟨Nat.le_of_ble_eq_true rfl, Nat.le_of_ble_eq_true rfl⟩ rfl hl.1 rfl (Nat.le_of_ble_eq_true rfl) (oc_184 14 (aq_14 shX11_sewer_0) uw_0_80)) (fun r_3 h_4 => ?_)
    rcases h_4 with ⟨rfl, h_4⟩ | ⟨rfl, h_4⟩
    ·
      have h_4 : 0 ≤ v1.toInt ∧ v1.toInt ≤ 99 := h_4
      refine lv_if_eq (tgt := 32) hx hb (oc_153 17 (aq_17 shX11_sewer_0) sgw_0_15) rfl (fun h => absurd h cq_eq_1_0) (fun _ => ?_)
      refine lv_aload_n hx hb (oc_42 20 (aq_20 shX11_sewer_0)) rfl (lvA0 hl) ?_
      refine gf_RX11_74 S hK hP 0 xo_0 (v := .ref (g 14)) rfl (oc_180 21 (aq_21 shX11_sewer_0) uw_0_74) ?_
      refine vp_callSi (runV_r (As := []) (rest := []) S (q_l_size l D cI cB cZ (g 14) (if (cn 14) = 0 then zz else ad 2 4) (In 14) (nI (cn 14))) kV_RX11_84 hK hP [28] (one_is xo_28) 28 xo_28 rfl rfl ⟨Nat.le_of_ble_eq_true rfl, Nat.le_of_ble_eq_true rfl⟩ ⟨Nat.le_of_ble_eq_true rfl, Nat.le_of_ble_eq_true rfl⟩ rfl hl.1 rfl (Nat.le_of_ble_eq_true rfl) (oc_182 24 shX11_sewer_24 uw_0_84)) (fun r_5 h_6 => ?_)
      subst h_6
      refine lv_bipush (v := 10) hx hb (oc_16 27 (aq_3 shX11_sewer_24) sgb_10) kbc_10 ?_
      have : (nI (cn 14)).toInt = (((cn 14) : Nat) : Int) := nI_toInt (by omega)
      refine lv_icmp_lt (tgt := 34) hx hb (oc_161 29 (aq_5 shX11_sewer_24) sgw_0_5) rfl (fun c_7 => ?_) (fun c_7 => ?_)
      ·
        have tc_7 : ((nI (cn 14)).toInt : Int) < 10 := Int32.lt_iff_toInt_lt.mp c_7
        refine lv_aload_n hx hb (oc_42 34 (aq_10 shX11_sewer_24)) rfl (lvA0 hl) ?_
        refine gf_RX11_74 S hK hP 0 xo_0 (v := .ref (g 14)) rfl (oc_180 35 (aq_11 shX11_sewer_24) uw_0_74) ?_
        refine va_new (ci := 7) (fs := [.int 0, .int 0, .int 0]) (C := RX6) (T := TX6) (N := 3) hx hb S.2.2.2.2 hin_RX6 tyX6 tyX6_ok hown (S.2.2.2.2 _ (wk5_17 5 rfl rfl)) (S.2.2.2.2 _ (wk5_17 6 rfl rfl)) (S.2.2.2.2 _ (wk1_2 1 rfl rfl)) hK.1 hP hD hS hA rfl (by decide +kernel) (Nat.le_of_ble_eq_true rfl) (Nat.le_of_ble_eq_true rfl) (oc_187 38 (aq_14 shX11_sewer_24) uw_1_217) (fun q38 H hP hD hS => ?_)
        have hP : va_P D vwCl ((wX cI (D.1 99) zz g ad cn In Fn) ++ ([(q38, .inr (7, [.int 0, .int 0, .int 0]))] : va_W)) H := hP
        have hD : va_D A ((wX cI (D.1 99) zz g ad cn In Fn) ++ ([(q38, .inr (7, [.int 0, .int 0, .int 0]))] : va_W)) := hD
        refine lv_dup hx hb (oc_89 41 (aq_17 shX11_sewer_24)) rfl ?_
        refine lv_iload_n hx hb (oc_27 42 (aq_18 shX11_sewer_24)) rfl (lvA1 hl) ?_
        refine lv_iload_n hx hb (oc_28 43 (aq_19 shX11_sewer_24)) rfl (lvA2 hl) ?_
        have hFc := va_free (wc := [(q38, .inr (7, [.int 0, .int 0, .int 0]))]) hD hS hA [_] (one_im (exr (m := 0) rfl))
        refine va_callv (runI_w (As := [.int v0, .int v1]) (rest := [.ref q38, .ref (g 14)]) S (q_l_Sewer l D cI cB cZ q38 v0 v1 H.size) kI_RX11_475 hK hP hD [_] (one_is (exr (m := 0) rfl)) (one_im (exr (m := 0) rfl)) rfl ⟨Nat.le_of_ble_eq_true rfl, Nat.le_of_ble_eq_true rfl⟩ ⟨Nat.le_of_ble_eq_true rfl, Nat.le_of_ble_eq_true rfl⟩ rfl hl.1 rfl (Nat.le_of_ble_eq_true rfl) (oc_183 44 (aq_20 shX11_sewer_24) uw_1_219)) hS (fun q _ h => hFc q h) hFc (fun u_8 t H1 locs ht hvm h_9 hB1 hz1 hk1 hS => ?_)
        obtain ⟨hP1, hD1⟩ := hB1
        rw [ht] at hP1
        obtain ⟨hP, hD⟩ := exjoin hP hD hk1 hFc hP1 hD1
        generalize H1 = H at hP hS ⊢
        have hP : va_P D vwCl ((wX cI (D.1 99) zz g ad cn In Fn) ++ ([(q38, .inr (7, [.int v0, .int v1, .int 0]))] : va_W)) H := hP
        have hD : va_D A ((wX cI (D.1 99) zz g ad cn In Fn) ++ ([(q38, .inr (7, [.int v0, .int v1, .int 0]))] : va_W)) := hD
        rcases Nat.eq_zero_or_pos (cn 14) with hz0 | hz0
        ·
          have hi9 : (wX cI (D.1 99) zz g ad cn In Fn)[28]? = _ := xlz_4 hz0
          have hp2P := pick2P hP (exl hi9) (exr (m := 0) rfl)
          have hp2D := pick2D hD (exl hi9) (exr (m := 0) rfl) (ne_ex hi9)
          have hFc := free_all hp2D hS hA
          refine va_calli (runV_xa (As := [.ref q38]) (rest := []) S (q_l_addZS l D cI cB cZ zz qq vv bt (g 14) q38 (In 14) v0 v1 0 H.size) kV_RX11_110 hK hXS hS hFc hp2P hp2D 0 rfl rfl rfl ⟨Nat.le_of_ble_eq_true rfl, Nat.le_of_ble_eq_true rfl⟩ ⟨Nat.le_of_ble_eq_true rfl, Nat.le_of_ble_eq_true rfl⟩ rfl hl.1 rfl (Nat.le_of_ble_eq_true rfl) (oc_182 47 (aq_23 shX11_sewer_24) uw_0_110)) hS (fun q _ h => hFc q h) hFc (fun r9 u9 t H1 locs ht hvm h9 hB1 hz1 hk1 hS => ?_)
          obtain ⟨hP1, hD1⟩ := hB1
          rw [ht] at hP1
          obtain rfl : r9 = 1 := h9
          obtain ⟨hP, hD⟩ := add0_join hP hD hi9 rfl hk1 hFc hP1 hD1 rfl (xu_4 (z := u9) (c := 10) (y := (In 14) + 1) (q := q38) (x0 := v0) (x1 := v1) (x2 := 0) hz0)
          have hP : va_P D vwCl (wX cI (D.1 99) zz g (adP ad 14 (cn 14) q38 4 u9) (va_up (va_up cn 14 ((cn 14) + 1)) 24 10) (va_up In 14 ((In 14) + 1)) (va_up (va_up (va_up Fn 170 (upd (Fn 170) (cn 14) v0)) 171 (upd (Fn 171) (cn 14) v1)) 172 (upd (Fn 172) (cn 14) 0))) H1 := hP
          have hD : va_D A (wX cI (D.1 99) zz g (adP ad 14 (cn 14) q38 4 u9) (va_up (va_up cn 14 ((cn 14) + 1)) 24 10) (va_up In 14 ((In 14) + 1)) (va_up (va_up (va_up Fn 170 (upd (Fn 170) (cn 14) v0)) 171 (upd (Fn 171) (cn 14) v1)) 172 (upd (Fn 172) (cn 14) 0))) := hD
          generalize H1 = H at hP hS ⊢
          refine W.widen (k := 2) (n := 103) (Nat.le_of_ble_eq_true rfl) (Nat.le_of_ble_eq_true rfl) ?_
          refine lv_pop hx hb (oc_87 50 shX11_sewer_50) rfl ?_
          refine lv_aload_n hx hb (oc_42 51 (aq_1 shX11_sewer_50)) rfl (lvA0 hl) ?_
          refine gf_RX11_74 S hK hP 0 xo_0 (v := .ref (g 14)) rfl (oc_180 52 (aq_2 shX11_sewer_50) uw_0_74) ?_
          refine vp_callSi (runV_r (As := []) (rest := []) S (q_l_size l D cI cB cZ (g 14) (if ((cn 14) + 1) = 0 then zz else (adP ad 14 (cn 14) q38 4 u9) 2 4) ((In 14) + 1) (nI ((cn 14) + 1))) kV_RX11_84 hK hP [28] (one_is xo_28) 28 xo_28 rfl rfl ⟨Nat.le_of_ble_eq_true rfl, Nat.le_of_ble_eq_true rfl⟩ ⟨Nat.le_of_ble_eq_true rfl, Nat.le_of_ble_eq_true rfl⟩ rfl hl.1 rfl (Nat.le_of_ble_eq_true rfl) (oc_182 55 (aq_5 shX11_sewer_50) uw_0_84)) (fun r_11 h_12 => ?_)
          subst h_12
          refine lv_iconst (v := 1) hx hb (oc_4 58 (aq_8 shX11_sewer_50)) kic_1 ?_
          refine lv_isub hx hb (oc_100 59 (aq_9 shX11_sewer_50)) ?_
          refine lv_topi (fun y_13 ey_13 => ?_)
          obtain rfl : y_13 = (nI (cn 14)) := ey_13.trans (nI_sub (b := 1) (by omega))
          exact W.iret (v := (nI (cn 14))) hx hb hr (fun t ht hW => ⟨⟨(nI (cn 14)), ((adP ad 14 (cn 14) q38 4 u9), (va_up (va_up cn 14 ((cn 14) + 1)) 24 10), (va_up In 14 ((In 14) + 1)), (va_up (va_up (va_up Fn 170 (upd (Fn 170) (cn 14) v0)) 171 (upd (Fn 171) (cn 14) v1)) 172 (upd (Fn 172) (cn 14) 0))), rfl, (Or.inr ⟨rfl, by omega, q38, u9, 10, ((In 14) + 1), ⟨by omega, by omega⟩, rfl, rfl, rfl, rfl⟩), by rw [ht]; exact hP, hD⟩, hS.F ht⟩) hS.2.2 (oc_172 60 (aq_10 shX11_sewer_50))
        ·
          have hi9 : (wX cI (D.1 99) zz g ad cn In Fn)[28]? = _ := xl_4 hz0
          have hj9 : (wX cI (D.1 99) zz g ad cn In Fn)[_]? = _ := xf_17 (k := 0) (show 0 < min 1 (cn 14) by omega)
          obtain ⟨ws9, hp1, hp2⟩ := pickG (W := ((wX cI (D.1 99) zz g ad cn In Fn) ++ ([(q38, .inr (7, [.int v0, .int v1, .int 0]))] : va_W))) (exl hi9) (exl hj9) (exr (m := 0) rfl) (xij (by decide)) (ne_ex hi9) (ne_ex hj9)
          have hP9 := va_P_perm hp1 hP
          have hD9 := va_D_perm hp1 hD
          have hFc := free_all hD9 hS hA
          refine va_calli (runV_xa (As := [.ref q38]) (rest := []) S (q_l_addGS l D cI cB cZ zz qq vv bt (cn 24) (g 14) (ad 2 4) (cn 14) q38 (In 14) (ad 14) v0 v1 0 ws9 H.size (by omega) (by omega) hz0 (by omega) (fun i hi => ⟨_, g_mem (hp1.mem_iff.mp (List.mem_of_getElem? (exl (xf_4 (k := i) hi)))) (by decide)⟩)) kV_RX11_110 hK hXS hS hFc hP9 hD9 0 rfl rfl rfl ⟨Nat.le_of_ble_eq_true rfl, Nat.le_of_ble_eq_true rfl⟩ ⟨Nat.le_of_ble_eq_true rfl, Nat.le_of_ble_eq_true rfl⟩ rfl hl.1 rfl (Nat.le_of_ble_eq_true rfl) (oc_182 47 (aq_23 shX11_sewer_24) uw_0_110)) hS (fun q _ h => hFc q h) hFc (fun r9 u9 t H1 locs ht hvm h9 hB1 hz1 hk1 hS => ?_)
          obtain ⟨hP1, hD1⟩ := hB1
          rw [ht] at hP1
          obtain ⟨hr9, h9⟩ := h9
          obtain rfl : r9 = 1 := hr9
          obtain ⟨ua9, uc9⟩ := u9
          have hu9 : cn 14 < uc9 ∧ uc9 ≤ 100 := h9
          obtain ⟨hP, hD⟩ := addG_join hp2 hi9 hj9 hP1 hD1 hFc (xadd_4 (z := ua9) (c := uc9) (y := (In 14) + 1) (q := q38) (x0 := v0) (x1 := v1) (x2 := 0) hz0)
          have hP : va_P D vwCl (wX cI (D.1 99) zz g (adP ad 14 (cn 14) q38 4 ua9) (va_up (va_up cn 14 ((cn 14) + 1)) 24 uc9) (va_up In 14 ((In 14) + 1)) (va_up (va_up (va_up Fn 170 (upd (Fn 170) (cn 14) v0)) 171 (upd (Fn 171) (cn 14) v1)) 172 (upd (Fn 172) (cn 14) 0))) H1 := hP
          have hD : va_D A (wX cI (D.1 99) zz g (adP ad 14 (cn 14) q38 4 ua9) (va_up (va_up cn 14 ((cn 14) + 1)) 24 uc9) (va_up In 14 ((In 14) + 1)) (va_up (va_up (va_up Fn 170 (upd (Fn 170) (cn 14) v0)) 171 (upd (Fn 171) (cn 14) v1)) 172 (upd (Fn 172) (cn 14) 0))) := hD
          generalize H1 = H at hP hS ⊢
          refine lv_pop hx hb (oc_87 50 shX11_sewer_50) rfl ?_
          refine lv_aload_n hx hb (oc_42 51 (aq_1 shX11_sewer_50)) rfl (lvA0 hl) ?_
          refine gf_RX11_74 S hK hP 0 xo_0 (v := .ref (g 14)) rfl (oc_180 52 (aq_2 shX11_sewer_50) uw_0_74) ?_
          refine vp_callSi (runV_r (As := []) (rest := []) S (q_l_size l D cI cB cZ (g 14) (if ((cn 14) + 1) = 0 then zz else (adP ad 14 (cn 14) q38 4 ua9) 2 4) ((In 14) + 1) (nI ((cn 14) + 1))) kV_RX11_84 hK hP [28] (one_is xo_28) 28 xo_28 rfl rfl ⟨Nat.le_of_ble_eq_true rfl, Nat.le_of_ble_eq_true rfl⟩ ⟨Nat.le_of_ble_eq_true rfl, Nat.le_of_ble_eq_true rfl⟩ rfl hl.1 rfl (Nat.le_of_ble_eq_true rfl) (oc_182 55 (aq_5 shX11_sewer_50) uw_0_84)) (fun r_14 h_15 => ?_)
          subst h_15
          refine lv_iconst (v := 1) hx hb (oc_4 58 (aq_8 shX11_sewer_50)) kic_1 ?_
          refine lv_isub hx hb (oc_100 59 (aq_9 shX11_sewer_50)) ?_
          refine lv_topi (fun y_16 ey_16 => ?_)
          obtain rfl : y_16 = (nI (cn 14)) := ey_16.trans (nI_sub (b := 1) (by omega))
          exact W.iret (v := (nI (cn 14))) hx hb hr (fun t ht hW => ⟨⟨(nI (cn 14)), ((adP ad 14 (cn 14) q38 4 ua9), (va_up (va_up cn 14 ((cn 14) + 1)) 24 uc9), (va_up In 14 ((In 14) + 1)), (va_up (va_up (va_up Fn 170 (upd (Fn 170) (cn 14) v0)) 171 (upd (Fn 171) (cn 14) v1)) 172 (upd (Fn 172) (cn 14) 0))), rfl, (Or.inr ⟨rfl, by omega, q38, ua9, uc9, ((In 14) + 1), ⟨by omega, by omega⟩, rfl, rfl, rfl, rfl⟩), by rw [ht]; exact hP, hD⟩, hS.F ht⟩) hS.2.2 (oc_172 60 (aq_10 shX11_sewer_50))
      ·
        have tc_7 : (10 : Int) ≤ (nI (cn 14)).toInt := Int32.le_iff_toInt_le.mp (Int32.not_lt.mp c_7)
        refine lv_iconst (v := (-1)) hx hb (oc_2 32 (aq_8 shX11_sewer_24)) kic_m1 ?_
        refine W.widen (k := 2) (n := 103) (Nat.le_of_ble_eq_true rfl) (Nat.le_of_ble_eq_true rfl) ?_
        exact W.iret (v := (-1)) hx hb hr (fun t ht hW => ⟨⟨(-1), (ad, cn, In, Fn), rfl, (Or.inl ⟨rfl, by omega, rfl, rfl, rfl, rfl⟩), by rw [ht]; exact hP, hD⟩, hS.F ht⟩) hS.2.2 (oc_172 33 (aq_9 shX11_sewer_24))
    ·
      have h_4 : ¬ (0 ≤ v1.toInt ∧ v1.toInt ≤ 99) := h_4
      refine lv_if_eq (tgt := 32) hx hb (oc_153 17 (aq_17 shX11_sewer_0) sgw_0_15) rfl (fun _ => ?_) (fun h => absurd h cq_eq_0_0)
      refine lv_iconst (v := (-1)) hx hb (oc_2 32 (aq_8 shX11_sewer_24)) kic_m1 ?_
      refine W.widen (k := 2) (n := 103) (Nat.le_of_ble_eq_true rfl) (Nat.le_of_ble_eq_true rfl) ?_
      exact W.iret (v := (-1)) hx hb hr (fun t ht hW => ⟨⟨(-1), (ad, cn, In, Fn), rfl, (Or.inl ⟨rfl, by omega, rfl, rfl, rfl, rfl⟩), by rw [ht]; exact hP, hD⟩, hS.F ht⟩) hS.2.2 (oc_172 33 (aq_9 shX11_sewer_24))
  ·
    have h_2 : ¬ (0 ≤ v0.toInt ∧ v0.toInt ≤ 99) := h_2
    refine lv_if_eq (tgt := 32) hx hb (oc_153 7 (aq_7 shX11_sewer_0) sgw_0_25) rfl (fun _ => ?_) (fun h => absurd h cq_eq_0_0)
    refine lv_iconst (v := (-1)) hx hb (oc_2 32 (aq_8 shX11_sewer_24)) kic_m1 ?_
    refine W.widen (k := 2) (n := 103) (Nat.le_of_ble_eq_true rfl) (Nat.le_of_ble_eq_true rfl) ?_
    exact W.iret (v := (-1)) hx hb hr (fun t ht hW => ⟨⟨(-1), (ad, cn, In, Fn), rfl, (Or.inl ⟨rfl, by omega, rfl, rfl, rfl, rfl⟩), by rw [ht]; exact hP, hD⟩, hS.F ht⟩) hS.2.2 (oc_172 33 (aq_9 shX11_sewer_24))
set_option maxRecDepth 100000 in
set_option maxHeartbeats 4000000 in
theorem q_Xkitchen (l : Launch) (D : va_G) (cI cB cZ : ClassId) (zz qq vv : Nat) (bt : Nat → Int32) (g : Nat → Nat) (ad : Nat → Nat → Nat) (cn : Nat → Nat) (In : Nat → Int32) (Fn : Nat → Nat → Int32) (v0 v1 v2 v3 : Int32) (sz : Nat) (hB : CBX cn) (hT : (∀ k : Nat, k < cn 10 → ad 3 k < cn 6) ∧ ad 4 0 < cn 6 ∧ ad 4 1 < cn 6) : Met l yX11_kitchen (CWS yX11_kitchen cX11_kitchen 6 (some .int)) (RM 8 8 188) (PBx [.ref (g 0), .int v0, .int v1, .int v2, .int v3] D cI cB cZ zz qq vv bt (wX cI (D.1 99) zz g ad cn In Fn) sz) (va_Qi (fun (r : Int32) (u : (Nat → Nat → Nat) × (Nat → Nat) × (Nat → Int32) × (Nat → Nat → Int32)) => (fun r a2 c2 I2 F2 => (r = (-1) ∧ ¬ (0 ≤ v0.toInt ∧ v0.toInt ≤ 99 ∧ 0 ≤ v1.toInt ∧ v1.toInt ≤ 99 ∧ 0 ≤ v2.toInt ∧ v2.toInt ≤ 50 ∧ 20 ≤ v3.toInt ∧ v3.toInt ≤ 400 ∧ cn 10 < 10) ∧ ad = a2 ∧ cn = c2 ∧ In = I2 ∧ Fn = F2) ∨ (r = nI (cn 10) ∧ (0 ≤ v0.toInt ∧ v0.toInt ≤ 99 ∧ 0 ≤ v1.toInt ∧ v1.toInt ≤ 99 ∧ 0 ≤ v2.toInt ∧ v2.toInt ≤ 50 ∧ 20 ≤ v3.toInt ∧ v3.toInt ≤ 400 ∧ cn 10 < 10) ∧ ∃ (q qt r0 r1 r2 r3 r4 z c : Nat) (y : Int32), (cn 10 < c ∧ c ≤ 100) ∧ (adO (adO (adO (adO (adO (adO (adO (adO (adO ad 10 (cn 10) q) 3 (cn 10) (cn 6)) 5 (cn 6) qt) 60 (cn 6) r0) 61 (cn 6) r1) 62 (cn 6) r2) 63 (cn 6) r3) 64 (cn 6) r4) 2 0 z) = a2 ∧ (va_up (va_up (va_up cn 10 ((cn 10) + 1)) 20 c) 6 (cn 6 + 1)) = c2 ∧ (va_up In 10 y) = I2 ∧ (va_up (va_up (va_up (va_up (va_up (va_up (va_up (va_up (va_up (va_up (va_up (va_up (va_up (va_up (va_up (va_up (va_up (va_up (va_up (va_up Fn 100 (upd (Fn 100) (cn 10) v0)) 101 (upd (Fn 101) (cn 10) v1)) 102 (upd (Fn 102) (cn 10) v2)) 103 (upd (Fn 103) (cn 10) v3)) 104 (upd (Fn 104) (cn 10) 0)) 105 (upd (Fn 105) (cn 10) 0)) 106 (upd (Fn 106) (cn 10) 0)) 107 (upd (Fn 107) (cn 10) 0)) 108 (upd (Fn 108) (cn 10) 0)) 109 (upd (Fn 109) (cn 10) 0)) 195 (upd (Fn 195) (cn 6) 0)) 196 (upd (Fn 196) (cn 6) 0)) 197 (upd (Fn 197) (cn 6) 0)) 198 (upd (Fn 198) (cn 6) 0)) 199 (upd (Fn 199) (cn 6) 0)) 301 (flat (Fn 301) 200 (cn 6) (fun _ => 0))) 302 (flat (Fn 302) 12 (cn 6) (fun _ => 0))) 303 (flat (Fn 303) 12 (cn 6) (fun _ => 0))) 304 (flat (Fn 304) 12 (cn 6) (fun _ => 0))) 305 (flat (Fn 305) 32 (cn 6) (fun _ => 0))) = F2)) r u.1 u.2.1 u.2.2.1 u.2.2.2) (fun (u : (Nat → Nat → Nat) × (Nat → Nat) × (Nat → Int32) × (Nat → Nat → Int32)) (t : State) => va_P D vwCl (wX cI (D.1 99) zz g u.1 u.2.1 u.2.2.1 u.2.2.2) t.heap ∧ va_D (va_A (wX cI (D.1 99) zz g ad cn In Fn) sz) (wX cI (D.1 99) zz g u.1 u.2.1 u.2.2.1 u.2.2.2)) (va_A (wX cI (D.1 99) zz g ad cn In Fn) sz)) 8 188 (va_A (wX cI (D.1 99) zz g ad cn In Fn) sz) := by
  refine en_x (fun A => (va_Qi (fun (r : Int32) (u : (Nat → Nat → Nat) × (Nat → Nat) × (Nat → Int32) × (Nat → Nat → Int32)) => (fun (r : Int32) (a2 : Nat → Nat → Nat) (c2 : Nat → Nat) (I2 : Nat → Int32) (F2 : Nat → Nat → Int32) => (r = (-1) ∧ ¬ (0 ≤ v0.toInt ∧ v0.toInt ≤ 99 ∧ 0 ≤ v1.toInt ∧ v1.toInt ≤ 99 ∧ 0 ≤ v2.toInt ∧ v2.toInt ≤ 50 ∧ 20 ≤ v3.toInt ∧ v3.toInt ≤ 400 ∧ cn 10 < 10) ∧ ad = a2 ∧ cn = c2 ∧ In = I2 ∧ Fn = F2) ∨ (r = nI (cn 10) ∧ (0 ≤ v0.toInt ∧ v0.toInt ≤ 99 ∧ 0 ≤ v1.toInt ∧ v1.toInt ≤ 99 ∧ 0 ≤ v2.toInt ∧ v2.toInt ≤ 50 ∧ 20 ≤ v3.toInt ∧ v3.toInt ≤ 400 ∧ cn 10 < 10) ∧ ∃ (q qt r0 r1 r2 r3 r4 z c : Nat) (y : Int32), (cn 10 < c ∧ c ≤ 100) ∧ (adO (adO (adO (adO (adO (adO (adO (adO (adO ad 10 (cn 10) q) 3 (cn 10) (cn 6)) 5 (cn 6) qt) 60 (cn 6) r0) 61 (cn 6) r1) 62 (cn 6) r2) 63 (cn 6) r3) 64 (cn 6) r4) 2 0 z) = a2 ∧ (va_up (va_up (va_up cn 10 ((cn 10) + 1)) 20 c) 6 (cn 6 + 1)) = c2 ∧ (va_up In 10 y) = I2 ∧ (va_up (va_up (va_up (va_up (va_up (va_up (va_up (va_up (va_up (va_up (va_up (va_up (va_up (va_up (va_up (va_up (va_up (va_up (va_up (va_up Fn 100 (upd (Fn 100) (cn 10) v0)) 101 (upd (Fn 101) (cn 10) v1)) 102 (upd (Fn 102) (cn 10) v2)) 103 (upd (Fn 103) (cn 10) v3)) 104 (upd (Fn 104) (cn 10) 0)) 105 (upd (Fn 105) (cn 10) 0)) 106 (upd (Fn 106) (cn 10) 0)) 107 (upd (Fn 107) (cn 10) 0)) 108 (upd (Fn 108) (cn 10) 0)) 109 (upd (Fn 109) (cn 10) 0)) 195 (upd (Fn 195) (cn 6) 0)) 196 (upd (Fn 196) (cn 6) 0)) 197 (upd (Fn 197) (cn 6) 0)) 198 (upd (Fn 198) (cn 6) 0)) 199 (upd (Fn 199) (cn 6) 0)) 301 (flat (Fn 301) 200 (cn 6) (fun _ => 0))) 302 (flat (Fn 302) 12 (cn 6) (fun _ => 0))) 303 (flat (Fn 303) 12 (cn 6) (fun _ => 0))) 304 (flat (Fn 304) 12 (cn 6) (fun _ => 0))) 305 (flat (Fn 305) 32 (cn 6) (fun _ => 0))) = F2)) r u.1 u.2.1 u.2.2.1 u.2.2.2) (fun (u : (Nat → Nat → Nat) × (Nat → Nat) × (Nat → Int32) × (Nat → Nat → Int32)) (t : State) => va_P D vwCl (wX cI (D.1 99) zz g u.1 u.2.1 u.2.2.1 u.2.2.2) t.heap ∧ va_D A (wX cI (D.1 99) zz g u.1 u.2.1 u.2.2.1 u.2.2.2)) A)) rfl rfl pn_RX11 (Nat.le_of_ble_eq_true rfl) (fun p e s m below meth c A hx hb hml hown S hr hlocks hnm hA hP hK hD hXS hS ls hl => ?_)
  have hl : lv_has ls 6 [(0, .ref (g 0)), (1, .int v0), (2, .int v1), (3, .int v2), (4, .int v3)] := hl
  refine lv_iload_n hx hb (oc_27 0 shX11_kitchen_0) rfl (lvA1 hl) ?_
  refine lv_iconst (v := 0) hx hb (oc_3 1 (aq_1 shX11_kitchen_0)) kic_0 ?_
  refine lv_bipush (v := 99) hx hb (oc_16 2 (aq_2 shX11_kitchen_0) sgb_99) kbc_99 ?_
  refine vp_callSi (runS_r (As := [.int v0, .int 0, .int 99]) (rest := []) S (q_l_within l D cI cB cZ v0 0 99) kS_RX11_80 hK hP [] rfl ⟨Nat.le_of_ble_eq_true rfl, Nat.le_of_ble_eq_true rfl⟩ ⟨Nat.le_of_ble_eq_true rfl, Nat.le_of_ble_eq_true rfl⟩ rfl hl.1 rfl (Nat.le_of_ble_eq_true rfl) (oc_184 4 (aq_4 shX11_kitchen_0) uw_0_80)) (fun r_1 h_2 => ?_)
  rcases h_2 with ⟨rfl, h_2⟩ | ⟨rfl, h_2⟩
  ·
    have h_2 : 0 ≤ v0.toInt ∧ v0.toInt ≤ 99 := h_2
    refine lv_if_eq (tgt := 24) hx hb (oc_153 7 (aq_7 shX11_kitchen_0) sgw_0_17) rfl (fun h => absurd h cq_eq_1_0) (fun _ => ?_)
    refine lv_iload_n hx hb (oc_28 10 (aq_10 shX11_kitchen_0)) rfl (lvA2 hl) ?_
    refine lv_iconst (v := 0) hx hb (oc_3 11 (aq_11 shX11_kitchen_0)) kic_0 ?_
    refine lv_bipush (v := 99) hx hb (oc_16 12 (aq_12 shX11_kitchen_0) sgb_99) kbc_99 ?_
    refine vp_callSi (runS_r (As := [.int v1, .int 0, .int 99]) (rest := []) S (q_l_within l D cI cB cZ v1 0 99) kS_RX11_80 hK hP [] rfl ⟨Nat.le_of_ble_eq_true rfl, Nat.le_of_ble_eq_true rfl⟩ ⟨Nat.le_of_ble_eq_true rfl, Nat.le_of_ble_eq_true rfl⟩ rfl hl.1 rfl (Nat.le_of_ble_eq_true rfl) (oc_184 14 (aq_14 shX11_kitchen_0) uw_0_80)) (fun r_3 h_4 => ?_)
    rcases h_4 with ⟨rfl, h_4⟩ | ⟨rfl, h_4⟩
    ·
      have h_4 : 0 ≤ v1.toInt ∧ v1.toInt ≤ 99 := h_4
      refine lv_if_eq (tgt := 24) hx hb (oc_153 17 (aq_17 shX11_kitchen_0) sgw_0_7) rfl (fun h => absurd h cq_eq_1_0) (fun _ => ?_)
      refine lv_iconst (v := 1) hx hb (oc_4 20 (aq_20 shX11_kitchen_0)) kic_1 ?_
      refine lv_goto (tgt := 25) hx hb (oc_167 21 (aq_21 shX11_kitchen_0) sgw_0_4) rfl ?_
      refine lv_istore (lv' := [(5, .int 1), (0, .ref (g 0)), (1, .int v0), (2, .int v1), (3, .int v2), (4, .int v3)]) hx hb (oc_54 25 (aq_1 shX11_kitchen_24) ub_5) hl (ltb rfl) rfl (fun ls hl => ?_)
      refine lv_iload hx hb (oc_21 27 (aq_3 shX11_kitchen_24) ub_5) (lvA0 hl) ?_
      refine lv_if_eq (tgt := 67) hx hb (oc_153 29 (aq_5 shX11_kitchen_24) sgw_0_38) rfl (fun h => absurd h cq_eq_1_0) (fun _ => ?_)
      refine lv_iload_n hx hb (oc_29 32 (aq_8 shX11_kitchen_24)) rfl (lvA4 hl) ?_
      refine lv_iconst (v := 0) hx hb (oc_3 33 (aq_9 shX11_kitchen_24)) kic_0 ?_
      refine lv_bipush (v := 50) hx hb (oc_16 34 (aq_10 shX11_kitchen_24) sgb_50) kbc_50 ?_
      refine vp_callSi (runS_r (As := [.int v2, .int 0, .int 50]) (rest := []) S (q_l_within l D cI cB cZ v2 0 50) kS_RX11_80 hK hP [] rfl ⟨Nat.le_of_ble_eq_true rfl, Nat.le_of_ble_eq_true rfl⟩ ⟨Nat.le_of_ble_eq_true rfl, Nat.le_of_ble_eq_true rfl⟩ rfl hl.1 rfl (Nat.le_of_ble_eq_true rfl) (oc_184 36 (aq_12 shX11_kitchen_24) uw_0_80)) (fun r_5 h_6 => ?_)
      rcases h_6 with ⟨rfl, h_6⟩ | ⟨rfl, h_6⟩
      ·
        have h_6 : 0 ≤ v2.toInt ∧ v2.toInt ≤ 50 := h_6
        refine lv_if_eq (tgt := 67) hx hb (oc_153 39 (aq_15 shX11_kitchen_24) sgw_0_28) rfl (fun h => absurd h cq_eq_1_0) (fun _ => ?_)
        refine lv_iload hx hb (oc_21 42 (aq_18 shX11_kitchen_24) ub_4) (lvA5 hl) ?_
        refine lv_bipush (v := 20) hx hb (oc_16 44 (aq_20 shX11_kitchen_24) sgb_20) kbc_20 ?_
        refine lv_sipush (v := 400) hx hb (oc_17 46 (aq_22 shX11_kitchen_24) sgw_1_144) (by decide) ?_
        refine vp_callSi (runS_r (As := [.int v3, .int 20, .int 400]) (rest := []) S (q_l_within l D cI cB cZ v3 20 400) kS_RX11_80 hK hP [] rfl ⟨Nat.le_of_ble_eq_true rfl, Nat.le_of_ble_eq_true rfl⟩ ⟨Nat.le_of_ble_eq_true rfl, Nat.le_of_ble_eq_true rfl⟩ rfl hl.1 rfl (Nat.le_of_ble_eq_true rfl) (oc_184 49 shX11_kitchen_49 uw_0_80)) (fun r_7 h_8 => ?_)
        rcases h_8 with ⟨rfl, h_8⟩ | ⟨rfl, h_8⟩
        ·
          have h_8 : 20 ≤ v3.toInt ∧ v3.toInt ≤ 400 := h_8
          refine lv_if_eq (tgt := 67) hx hb (oc_153 52 (aq_3 shX11_kitchen_49) sgw_0_15) rfl (fun h => absurd h cq_eq_1_0) (fun _ => ?_)
          refine lv_aload_n hx hb (oc_42 55 (aq_6 shX11_kitchen_49)) rfl (lvA1 hl) ?_
          refine gf_RX11_61 S hK hP 0 xo_0 (v := .ref (g 10)) rfl (oc_180 56 (aq_7 shX11_kitchen_49) uw_0_61) ?_
          refine vp_callSi (runV_r (As := []) (rest := []) S (q_l_size l D cI cB cZ (g 10) (if (cn 10) = 0 then zz else ad 2 0) (In 10) (nI (cn 10))) kV_RX11_84 hK hP [24] (one_is xo_24) 24 xo_24 rfl rfl ⟨Nat.le_of_ble_eq_true rfl, Nat.le_of_ble_eq_true rfl⟩ ⟨Nat.le_of_ble_eq_true rfl, Nat.le_of_ble_eq_true rfl⟩ rfl hl.1 rfl (Nat.le_of_ble_eq_true rfl) (oc_182 59 (aq_10 shX11_kitchen_49) uw_0_84)) (fun r_9 h_10 => ?_)
          subst h_10
          refine lv_bipush (v := 10) hx hb (oc_16 62 (aq_13 shX11_kitchen_49) sgb_10) kbc_10 ?_
          have : (nI (cn 10)).toInt = (((cn 10) : Nat) : Int) := nI_toInt (by omega)
          refine lv_icmp_lt (tgt := 69) hx hb (oc_161 64 (aq_15 shX11_kitchen_49) sgw_0_5) rfl (fun c_11 => ?_) (fun c_11 => ?_)
          ·
            have tc_11 : ((nI (cn 10)).toInt : Int) < 10 := Int32.lt_iff_toInt_lt.mp c_11
            refine lv_aload_n hx hb (oc_42 69 (aq_20 shX11_kitchen_49)) rfl (lvA1 hl) ?_
            refine gf_RX11_61 S hK hP 0 xo_0 (v := .ref (g 10)) rfl (oc_180 70 (aq_21 shX11_kitchen_49) uw_0_61) ?_
            refine va_new (ci := 2) (fs := [.int 0, .int 0, .int 0, .int 0, .int 0, .int 0, .int 0, .int 0, .int 0, .int 0, .null]) (C := RX1) (T := TX1) (N := 11) hx hb S.2.2.2.2 hin_RX1 tyX1 tyX1_ok hown (S.2.2.2.2 _ (wk2_5 3 rfl rfl)) (S.2.2.2.2 _ (wk2_5 4 rfl rfl)) (S.2.2.2.2 _ (wk1_1 2 rfl rfl)) hK.1 hP hD hS hA rfl (by decide +kernel) (Nat.le_of_ble_eq_true rfl) (Nat.le_of_ble_eq_true rfl) (oc_187 73 shX11_kitchen_73 uw_0_91) (fun q73 H hP hD hS => ?_)
            have hP : va_P D vwCl ((wX cI (D.1 99) zz g ad cn In Fn) ++ ([(q73, .inr (2, [.int 0, .int 0, .int 0, .int 0, .int 0, .int 0, .int 0, .int 0, .int 0, .int 0, .null]))] : va_W)) H := hP
            have hD : va_D A ((wX cI (D.1 99) zz g ad cn In Fn) ++ ([(q73, .inr (2, [.int 0, .int 0, .int 0, .int 0, .int 0, .int 0, .int 0, .int 0, .int 0, .int 0, .null]))] : va_W)) := hD
            refine lv_dup hx hb (oc_89 76 (aq_3 shX11_kitchen_73)) rfl ?_
            refine lv_iload_n hx hb (oc_27 77 (aq_4 shX11_kitchen_73)) rfl (lvA2 hl) ?_
            refine lv_iload_n hx hb (oc_28 78 (aq_5 shX11_kitchen_73)) rfl (lvA3 hl) ?_
            refine lv_iload_n hx hb (oc_29 79 (aq_6 shX11_kitchen_73)) rfl (lvA4 hl) ?_
            refine lv_iload hx hb (oc_21 80 (aq_7 shX11_kitchen_73) ub_4) (lvA5 hl) ?_
            have hFc := va_free (wc := [(q73, .inr (2, [.int 0, .int 0, .int 0, .int 0, .int 0, .int 0, .int 0, .int 0, .int 0, .int 0, .null]))]) hD hS hA [_] (one_im (exr (m := 0) rfl))
            refine va_callv (runI_w (As := [.int v0, .int v1, .int v2, .int v3]) (rest := [.ref q73, .ref (g 10)]) S (q_l_Kitchen l D cI cB cZ q73 v0 v1 v2 v3 H.size) kI_RX11_107 hK hP hD [_] (one_is (exr (m := 0) rfl)) (one_im (exr (m := 0) rfl)) rfl ⟨Nat.le_of_ble_eq_true rfl, Nat.le_of_ble_eq_true rfl⟩ ⟨Nat.le_of_ble_eq_true rfl, Nat.le_of_ble_eq_true rfl⟩ rfl hl.1 rfl (Nat.le_of_ble_eq_true rfl) (oc_183 82 (aq_9 shX11_kitchen_73) uw_0_107)) hS (fun q _ h => hFc q h) hFc (fun u_12 t H1 locs ht hvm h_13 hB1 hz1 hk1 hS => ?_)
            obtain ⟨hP1, hD1⟩ := hB1
            rw [ht] at hP1
            obtain ⟨hP, hD⟩ := exjoin hP hD hk1 hFc hP1 hD1
            generalize H1 = H at hP hS ⊢
            have hP : va_P D vwCl ((wX cI (D.1 99) zz g ad cn In Fn) ++ ([(q73, .inr (2, [.int v0, .int v1, .int v2, .int v3, .int 0, .int 0, .int 0, .int 0, .int 0, .int 0, .ref (u_12 5)])), ((u_12 5), .inr (10, [.ref (u_12 0), .ref (u_12 1), .ref (u_12 2), .ref (u_12 3), .ref (u_12 4), .int 0, .int 0, .int 0, .int 0])), ((u_12 0), .inl (cI, 0, .inl (fun _ => 0))), ((u_12 1), .inl (cI, 12, .inl (fun _ => 0))), ((u_12 2), .inl (cI, 12, .inl (fun _ => 0))), ((u_12 3), .inl (cI, 12, .inl (fun _ => 0))), ((u_12 4), .inl (cI, 32, .inl (fun _ => 0)))] : va_W)) H := hP
            have hD : va_D A ((wX cI (D.1 99) zz g ad cn In Fn) ++ ([(q73, .inr (2, [.int v0, .int v1, .int v2, .int v3, .int 0, .int 0, .int 0, .int 0, .int 0, .int 0, .ref (u_12 5)])), ((u_12 5), .inr (10, [.ref (u_12 0), .ref (u_12 1), .ref (u_12 2), .ref (u_12 3), .ref (u_12 4), .int 0, .int 0, .int 0, .int 0])), ((u_12 0), .inl (cI, 0, .inl (fun _ => 0))), ((u_12 1), .inl (cI, 12, .inl (fun _ => 0))), ((u_12 2), .inl (cI, 12, .inl (fun _ => 0))), ((u_12 3), .inl (cI, 12, .inl (fun _ => 0))), ((u_12 4), .inl (cI, 32, .inl (fun _ => 0)))] : va_W)) := hD
            rcases Nat.eq_zero_or_pos (cn 10) with hz0 | hz0
            ·
              have hi9 : (wX cI (D.1 99) zz g ad cn In Fn)[24]? = _ := xlz_0 hz0
              have hp2P := pick2P hP (exl hi9) (exr (m := 0) rfl)
              have hp2D := pick2D hD (exl hi9) (exr (m := 0) rfl) (ne_ex hi9)
              have hFc := free_all hp2D hS hA
              refine va_calli (runV_xa (As := [.ref q73]) (rest := []) S (q_l_addZK l D cI cB cZ zz qq vv bt (g 10) q73 (In 10) v0 v1 v2 v3 0 0 0 0 0 0 (u_12 5) H.size) kV_RX11_110 hK hXS hS hFc hp2P hp2D 0 rfl rfl rfl ⟨Nat.le_of_ble_eq_true rfl, Nat.le_of_ble_eq_true rfl⟩ ⟨Nat.le_of_ble_eq_true rfl, Nat.le_of_ble_eq_true rfl⟩ rfl hl.1 rfl (Nat.le_of_ble_eq_true rfl) (oc_182 85 (aq_12 shX11_kitchen_73) uw_0_110)) hS (fun q _ h => hFc q h) hFc (fun r13 u13 t H1 locs ht hvm h13 hB1 hz1 hk1 hS => ?_)
              obtain ⟨hP1, hD1⟩ := hB1
              rw [ht] at hP1
              obtain rfl : r13 = 1 := h13
              obtain ⟨hP, hD⟩ := add0_join hP hD hi9 rfl hk1 hFc hP1 hD1 rfl (xuK (z := u13) (c := 10) (y := (In 10) + 1) (q := q73) (qt := (u_12 5)) (r0 := (u_12 0)) (r1 := (u_12 1)) (r2 := (u_12 2)) (r3 := (u_12 3)) (r4 := (u_12 4)) (x0 := v0) (x1 := v1) (x2 := v2) (x3 := v3) (x4 := 0) (x5 := 0) (x6 := 0) (x7 := 0) (x8 := 0) (x9 := 0) hz0 hT.1 hT.2.1 hT.2.2)
              have hP : va_P D vwCl (wX cI (D.1 99) zz g (adO (adO (adO (adO (adO (adO (adO (adO (adO ad 10 (cn 10) q73) 3 (cn 10) (cn 6)) 5 (cn 6) (u_12 5)) 60 (cn 6) (u_12 0)) 61 (cn 6) (u_12 1)) 62 (cn 6) (u_12 2)) 63 (cn 6) (u_12 3)) 64 (cn 6) (u_12 4)) 2 0 u13) (va_up (va_up (va_up cn 10 ((cn 10) + 1)) 20 10) 6 (cn 6 + 1)) (va_up In 10 ((In 10) + 1)) (va_up (va_up (va_up (va_up (va_up (va_up (va_up (va_up (va_up (va_up (va_up (va_up (va_up (va_up (va_up (va_up (va_up (va_up (va_up (va_up Fn 100 (upd (Fn 100) (cn 10) v0)) 101 (upd (Fn 101) (cn 10) v1)) 102 (upd (Fn 102) (cn 10) v2)) 103 (upd (Fn 103) (cn 10) v3)) 104 (upd (Fn 104) (cn 10) 0)) 105 (upd (Fn 105) (cn 10) 0)) 106 (upd (Fn 106) (cn 10) 0)) 107 (upd (Fn 107) (cn 10) 0)) 108 (upd (Fn 108) (cn 10) 0)) 109 (upd (Fn 109) (cn 10) 0)) 195 (upd (Fn 195) (cn 6) 0)) 196 (upd (Fn 196) (cn 6) 0)) 197 (upd (Fn 197) (cn 6) 0)) 198 (upd (Fn 198) (cn 6) 0)) 199 (upd (Fn 199) (cn 6) 0)) 301 (flat (Fn 301) 200 (cn 6) (fun _ => 0))) 302 (flat (Fn 302) 12 (cn 6) (fun _ => 0))) 303 (flat (Fn 303) 12 (cn 6) (fun _ => 0))) 304 (flat (Fn 304) 12 (cn 6) (fun _ => 0))) 305 (flat (Fn 305) 32 (cn 6) (fun _ => 0)))) H1 := hP
              have hD : va_D A (wX cI (D.1 99) zz g (adO (adO (adO (adO (adO (adO (adO (adO (adO ad 10 (cn 10) q73) 3 (cn 10) (cn 6)) 5 (cn 6) (u_12 5)) 60 (cn 6) (u_12 0)) 61 (cn 6) (u_12 1)) 62 (cn 6) (u_12 2)) 63 (cn 6) (u_12 3)) 64 (cn 6) (u_12 4)) 2 0 u13) (va_up (va_up (va_up cn 10 ((cn 10) + 1)) 20 10) 6 (cn 6 + 1)) (va_up In 10 ((In 10) + 1)) (va_up (va_up (va_up (va_up (va_up (va_up (va_up (va_up (va_up (va_up (va_up (va_up (va_up (va_up (va_up (va_up (va_up (va_up (va_up (va_up Fn 100 (upd (Fn 100) (cn 10) v0)) 101 (upd (Fn 101) (cn 10) v1)) 102 (upd (Fn 102) (cn 10) v2)) 103 (upd (Fn 103) (cn 10) v3)) 104 (upd (Fn 104) (cn 10) 0)) 105 (upd (Fn 105) (cn 10) 0)) 106 (upd (Fn 106) (cn 10) 0)) 107 (upd (Fn 107) (cn 10) 0)) 108 (upd (Fn 108) (cn 10) 0)) 109 (upd (Fn 109) (cn 10) 0)) 195 (upd (Fn 195) (cn 6) 0)) 196 (upd (Fn 196) (cn 6) 0)) 197 (upd (Fn 197) (cn 6) 0)) 198 (upd (Fn 198) (cn 6) 0)) 199 (upd (Fn 199) (cn 6) 0)) 301 (flat (Fn 301) 200 (cn 6) (fun _ => 0))) 302 (flat (Fn 302) 12 (cn 6) (fun _ => 0))) 303 (flat (Fn 303) 12 (cn 6) (fun _ => 0))) 304 (flat (Fn 304) 12 (cn 6) (fun _ => 0))) 305 (flat (Fn 305) 32 (cn 6) (fun _ => 0)))) := hD
              generalize H1 = H at hP hS ⊢
              refine W.widen (k := 8) (n := 188) (Nat.le_of_ble_eq_true rfl) (Nat.le_of_ble_eq_true rfl) ?_
              refine lv_pop hx hb (oc_87 88 (aq_15 shX11_kitchen_73)) rfl ?_
              refine lv_aload_n hx hb (oc_42 89 (aq_16 shX11_kitchen_73)) rfl (lvA1 hl) ?_
              refine gf_RX11_61 S hK hP 0 xo_0 (v := .ref (g 10)) rfl (oc_180 90 (aq_17 shX11_kitchen_73) uw_0_61) ?_
              refine vp_callSi (runV_r (As := []) (rest := []) S (q_l_size l D cI cB cZ (g 10) (if ((cn 10) + 1) = 0 then zz else (adO (adO (adO (adO (adO (adO (adO (adO (adO ad 10 (cn 10) q73) 3 (cn 10) (cn 6)) 5 (cn 6) (u_12 5)) 60 (cn 6) (u_12 0)) 61 (cn 6) (u_12 1)) 62 (cn 6) (u_12 2)) 63 (cn 6) (u_12 3)) 64 (cn 6) (u_12 4)) 2 0 u13) 2 0) ((In 10) + 1) (nI ((cn 10) + 1))) kV_RX11_84 hK hP [24] (one_is xo_24) 24 xo_24 rfl rfl ⟨Nat.le_of_ble_eq_true rfl, Nat.le_of_ble_eq_true rfl⟩ ⟨Nat.le_of_ble_eq_true rfl, Nat.le_of_ble_eq_true rfl⟩ rfl hl.1 rfl (Nat.le_of_ble_eq_true rfl) (oc_182 93 (aq_20 shX11_kitchen_73) uw_0_84)) (fun r_15 h_16 => ?_)
              subst h_16
              refine lv_iconst (v := 1) hx hb (oc_4 96 (aq_23 shX11_kitchen_73)) kic_1 ?_
              refine lv_isub hx hb (oc_100 97 shX11_kitchen_97) ?_
              refine lv_topi (fun y_17 ey_17 => ?_)
              obtain rfl : y_17 = (nI (cn 10)) := ey_17.trans (nI_sub (b := 1) (by omega))
              exact W.iret (v := (nI (cn 10))) hx hb hr (fun t ht hW => ⟨⟨(nI (cn 10)), ((adO (adO (adO (adO (adO (adO (adO (adO (adO ad 10 (cn 10) q73) 3 (cn 10) (cn 6)) 5 (cn 6) (u_12 5)) 60 (cn 6) (u_12 0)) 61 (cn 6) (u_12 1)) 62 (cn 6) (u_12 2)) 63 (cn 6) (u_12 3)) 64 (cn 6) (u_12 4)) 2 0 u13), (va_up (va_up (va_up cn 10 ((cn 10) + 1)) 20 10) 6 (cn 6 + 1)), (va_up In 10 ((In 10) + 1)), (va_up (va_up (va_up (va_up (va_up (va_up (va_up (va_up (va_up (va_up (va_up (va_up (va_up (va_up (va_up (va_up (va_up (va_up (va_up (va_up Fn 100 (upd (Fn 100) (cn 10) v0)) 101 (upd (Fn 101) (cn 10) v1)) 102 (upd (Fn 102) (cn 10) v2)) 103 (upd (Fn 103) (cn 10) v3)) 104 (upd (Fn 104) (cn 10) 0)) 105 (upd (Fn 105) (cn 10) 0)) 106 (upd (Fn 106) (cn 10) 0)) 107 (upd (Fn 107) (cn 10) 0)) 108 (upd (Fn 108) (cn 10) 0)) 109 (upd (Fn 109) (cn 10) 0)) 195 (upd (Fn 195) (cn 6) 0)) 196 (upd (Fn 196) (cn 6) 0)) 197 (upd (Fn 197) (cn 6) 0)) 198 (upd (Fn 198) (cn 6) 0)) 199 (upd (Fn 199) (cn 6) 0)) 301 (flat (Fn 301) 200 (cn 6) (fun _ => 0))) 302 (flat (Fn 302) 12 (cn 6) (fun _ => 0))) 303 (flat (Fn 303) 12 (cn 6) (fun _ => 0))) 304 (flat (Fn 304) 12 (cn 6) (fun _ => 0))) 305 (flat (Fn 305) 32 (cn 6) (fun _ => 0)))), rfl, (Or.inr ⟨rfl, by omega, q73, (u_12 5), (u_12 0), (u_12 1), (u_12 2), (u_12 3), (u_12 4), u13, 10, ((In 10) + 1), ⟨by omega, by omega⟩, rfl, rfl, rfl, rfl⟩), by rw [ht]; exact hP, hD⟩, hS.F ht⟩) hS.2.2 (oc_172 98 (aq_1 shX11_kitchen_97))
            ·
              have hi9 : (wX cI (D.1 99) zz g ad cn In Fn)[24]? = _ := xl_0 hz0
              have hj9 : (wX cI (D.1 99) zz g ad cn In Fn)[_]? = _ := xf_13 (k := 0) (show 0 < min 1 (cn 10) by omega)
              obtain ⟨ws9, hp1, hp2⟩ := pickG (W := ((wX cI (D.1 99) zz g ad cn In Fn) ++ ([(q73, .inr (2, [.int v0, .int v1, .int v2, .int v3, .int 0, .int 0, .int 0, .int 0, .int 0, .int 0, .ref (u_12 5)])), ((u_12 5), .inr (10, [.ref (u_12 0), .ref (u_12 1), .ref (u_12 2), .ref (u_12 3), .ref (u_12 4), .int 0, .int 0, .int 0, .int 0])), ((u_12 0), .inl (cI, 0, .inl (fun _ => 0))), ((u_12 1), .inl (cI, 12, .inl (fun _ => 0))), ((u_12 2), .inl (cI, 12, .inl (fun _ => 0))), ((u_12 3), .inl (cI, 12, .inl (fun _ => 0))), ((u_12 4), .inl (cI, 32, .inl (fun _ => 0)))] : va_W))) (exl hi9) (exl hj9) (exr (m := 0) rfl) (xij (by decide)) (ne_ex hi9) (ne_ex hj9)
              have hP9 := va_P_perm hp1 hP
              have hD9 := va_D_perm hp1 hD
              have hFc := free_all hD9 hS hA
              refine va_calli (runV_xa (As := [.ref q73]) (rest := []) S (q_l_addGK l D cI cB cZ zz qq vv bt (cn 20) (g 10) (ad 2 0) (cn 10) q73 (In 10) (ad 10) v0 v1 v2 v3 0 0 0 0 0 0 (u_12 5) ws9 H.size (by omega) (by omega) hz0 (by omega) (fun i hi => ⟨_, g_mem (hp1.mem_iff.mp (List.mem_of_getElem? (exl (xf_0 (k := i) hi)))) (by decide)⟩)) kV_RX11_110 hK hXS hS hFc hP9 hD9 0 rfl rfl rfl ⟨Nat.le_of_ble_eq_true rfl, Nat.le_of_ble_eq_true rfl⟩ ⟨Nat.le_of_ble_eq_true rfl, Nat.le_of_ble_eq_true rfl⟩ rfl hl.1 rfl (Nat.le_of_ble_eq_true rfl) (oc_182 85 (aq_12 shX11_kitchen_73) uw_0_110)) hS (fun q _ h => hFc q h) hFc (fun r13 u13 t H1 locs ht hvm h13 hB1 hz1 hk1 hS => ?_)
              obtain ⟨hP1, hD1⟩ := hB1
              rw [ht] at hP1
              obtain ⟨hr13, h13⟩ := h13
              obtain rfl : r13 = 1 := hr13
              obtain ⟨ua13, uc13⟩ := u13
              have hu13 : cn 10 < uc13 ∧ uc13 ≤ 100 := h13
              obtain ⟨hP, hD⟩ := addG_join hp2 hi9 hj9 hP1 hD1 hFc (xaddK (z := ua13) (c := uc13) (y := (In 10) + 1) (q := q73) (qt := (u_12 5)) (r0 := (u_12 0)) (r1 := (u_12 1)) (r2 := (u_12 2)) (r3 := (u_12 3)) (r4 := (u_12 4)) (x0 := v0) (x1 := v1) (x2 := v2) (x3 := v3) (x4 := 0) (x5 := 0) (x6 := 0) (x7 := 0) (x8 := 0) (x9 := 0) hz0 hT.1 hT.2.1 hT.2.2)
              have hP : va_P D vwCl (wX cI (D.1 99) zz g (adO (adO (adO (adO (adO (adO (adO (adO (adO ad 10 (cn 10) q73) 3 (cn 10) (cn 6)) 5 (cn 6) (u_12 5)) 60 (cn 6) (u_12 0)) 61 (cn 6) (u_12 1)) 62 (cn 6) (u_12 2)) 63 (cn 6) (u_12 3)) 64 (cn 6) (u_12 4)) 2 0 ua13) (va_up (va_up (va_up cn 10 ((cn 10) + 1)) 20 uc13) 6 (cn 6 + 1)) (va_up In 10 ((In 10) + 1)) (va_up (va_up (va_up (va_up (va_up (va_up (va_up (va_up (va_up (va_up (va_up (va_up (va_up (va_up (va_up (va_up (va_up (va_up (va_up (va_up Fn 100 (upd (Fn 100) (cn 10) v0)) 101 (upd (Fn 101) (cn 10) v1)) 102 (upd (Fn 102) (cn 10) v2)) 103 (upd (Fn 103) (cn 10) v3)) 104 (upd (Fn 104) (cn 10) 0)) 105 (upd (Fn 105) (cn 10) 0)) 106 (upd (Fn 106) (cn 10) 0)) 107 (upd (Fn 107) (cn 10) 0)) 108 (upd (Fn 108) (cn 10) 0)) 109 (upd (Fn 109) (cn 10) 0)) 195 (upd (Fn 195) (cn 6) 0)) 196 (upd (Fn 196) (cn 6) 0)) 197 (upd (Fn 197) (cn 6) 0)) 198 (upd (Fn 198) (cn 6) 0)) 199 (upd (Fn 199) (cn 6) 0)) 301 (flat (Fn 301) 200 (cn 6) (fun _ => 0))) 302 (flat (Fn 302) 12 (cn 6) (fun _ => 0))) 303 (flat (Fn 303) 12 (cn 6) (fun _ => 0))) 304 (flat (Fn 304) 12 (cn 6) (fun _ => 0))) 305 (flat (Fn 305) 32 (cn 6) (fun _ => 0)))) H1 := hP
              have hD : va_D A (wX cI (D.1 99) zz g (adO (adO (adO (adO (adO (adO (adO (adO (adO ad 10 (cn 10) q73) 3 (cn 10) (cn 6)) 5 (cn 6) (u_12 5)) 60 (cn 6) (u_12 0)) 61 (cn 6) (u_12 1)) 62 (cn 6) (u_12 2)) 63 (cn 6) (u_12 3)) 64 (cn 6) (u_12 4)) 2 0 ua13) (va_up (va_up (va_up cn 10 ((cn 10) + 1)) 20 uc13) 6 (cn 6 + 1)) (va_up In 10 ((In 10) + 1)) (va_up (va_up (va_up (va_up (va_up (va_up (va_up (va_up (va_up (va_up (va_up (va_up (va_up (va_up (va_up (va_up (va_up (va_up (va_up (va_up Fn 100 (upd (Fn 100) (cn 10) v0)) 101 (upd (Fn 101) (cn 10) v1)) 102 (upd (Fn 102) (cn 10) v2)) 103 (upd (Fn 103) (cn 10) v3)) 104 (upd (Fn 104) (cn 10) 0)) 105 (upd (Fn 105) (cn 10) 0)) 106 (upd (Fn 106) (cn 10) 0)) 107 (upd (Fn 107) (cn 10) 0)) 108 (upd (Fn 108) (cn 10) 0)) 109 (upd (Fn 109) (cn 10) 0)) 195 (upd (Fn 195) (cn 6) 0)) 196 (upd (Fn 196) (cn 6) 0)) 197 (upd (Fn 197) (cn 6) 0)) 198 (upd (Fn 198) (cn 6) 0)) 199 (upd (Fn 199) (cn 6) 0)) 301 (flat (Fn 301) 200 (cn 6) (fun _ => 0))) 302 (flat (Fn 302) 12 (cn 6) (fun _ => 0))) 303 (flat (Fn 303) 12 (cn 6) (fun _ => 0))) 304 (flat (Fn 304) 12 (cn 6) (fun _ => 0))) 305 (flat (Fn 305) 32 (cn 6) (fun _ => 0)))) := hD
              generalize H1 = H at hP hS ⊢
              refine lv_pop hx hb (oc_87 88 (aq_15 shX11_kitchen_73)) rfl ?_
              refine lv_aload_n hx hb (oc_42 89 (aq_16 shX11_kitchen_73)) rfl (lvA1 hl) ?_
              refine gf_RX11_61 S hK hP 0 xo_0 (v := .ref (g 10)) rfl (oc_180 90 (aq_17 shX11_kitchen_73) uw_0_61) ?_
              refine vp_callSi (runV_r (As := []) (rest := []) S (q_l_size l D cI cB cZ (g 10) (if ((cn 10) + 1) = 0 then zz else (adO (adO (adO (adO (adO (adO (adO (adO (adO ad 10 (cn 10) q73) 3 (cn 10) (cn 6)) 5 (cn 6) (u_12 5)) 60 (cn 6) (u_12 0)) 61 (cn 6) (u_12 1)) 62 (cn 6) (u_12 2)) 63 (cn 6) (u_12 3)) 64 (cn 6) (u_12 4)) 2 0 ua13) 2 0) ((In 10) + 1) (nI ((cn 10) + 1))) kV_RX11_84 hK hP [24] (one_is xo_24) 24 xo_24 rfl rfl ⟨Nat.le_of_ble_eq_true rfl, Nat.le_of_ble_eq_true rfl⟩ ⟨Nat.le_of_ble_eq_true rfl, Nat.le_of_ble_eq_true rfl⟩ rfl hl.1 rfl (Nat.le_of_ble_eq_true rfl) (oc_182 93 (aq_20 shX11_kitchen_73) uw_0_84)) (fun r_18 h_19 => ?_)
              subst h_19
              refine lv_iconst (v := 1) hx hb (oc_4 96 (aq_23 shX11_kitchen_73)) kic_1 ?_
              refine lv_isub hx hb (oc_100 97 shX11_kitchen_97) ?_
              refine lv_topi (fun y_20 ey_20 => ?_)
              obtain rfl : y_20 = (nI (cn 10)) := ey_20.trans (nI_sub (b := 1) (by omega))
              exact W.iret (v := (nI (cn 10))) hx hb hr (fun t ht hW => ⟨⟨(nI (cn 10)), ((adO (adO (adO (adO (adO (adO (adO (adO (adO ad 10 (cn 10) q73) 3 (cn 10) (cn 6)) 5 (cn 6) (u_12 5)) 60 (cn 6) (u_12 0)) 61 (cn 6) (u_12 1)) 62 (cn 6) (u_12 2)) 63 (cn 6) (u_12 3)) 64 (cn 6) (u_12 4)) 2 0 ua13), (va_up (va_up (va_up cn 10 ((cn 10) + 1)) 20 uc13) 6 (cn 6 + 1)), (va_up In 10 ((In 10) + 1)), (va_up (va_up (va_up (va_up (va_up (va_up (va_up (va_up (va_up (va_up (va_up (va_up (va_up (va_up (va_up (va_up (va_up (va_up (va_up (va_up Fn 100 (upd (Fn 100) (cn 10) v0)) 101 (upd (Fn 101) (cn 10) v1)) 102 (upd (Fn 102) (cn 10) v2)) 103 (upd (Fn 103) (cn 10) v3)) 104 (upd (Fn 104) (cn 10) 0)) 105 (upd (Fn 105) (cn 10) 0)) 106 (upd (Fn 106) (cn 10) 0)) 107 (upd (Fn 107) (cn 10) 0)) 108 (upd (Fn 108) (cn 10) 0)) 109 (upd (Fn 109) (cn 10) 0)) 195 (upd (Fn 195) (cn 6) 0)) 196 (upd (Fn 196) (cn 6) 0)) 197 (upd (Fn 197) (cn 6) 0)) 198 (upd (Fn 198) (cn 6) 0)) 199 (upd (Fn 199) (cn 6) 0)) 301 (flat (Fn 301) 200 (cn 6) (fun _ => 0))) 302 (flat (Fn 302) 12 (cn 6) (fun _ => 0))) 303 (flat (Fn 303) 12 (cn 6) (fun _ => 0))) 304 (flat (Fn 304) 12 (cn 6) (fun _ => 0))) 305 (flat (Fn 305) 32 (cn 6) (fun _ => 0)))), rfl, (Or.inr ⟨rfl, by omega, q73, (u_12 5), (u_12 0), (u_12 1), (u_12 2), (u_12 3), (u_12 4), ua13, uc13, ((In 10) + 1), ⟨by omega, by omega⟩, rfl, rfl, rfl, rfl⟩), by rw [ht]; exact hP, hD⟩, hS.F ht⟩) hS.2.2 (oc_172 98 (aq_1 shX11_kitchen_97))
          ·
            have tc_11 : (10 : Int) ≤ (nI (cn 10)).toInt := Int32.le_iff_toInt_le.mp (Int32.not_lt.mp c_11)
            refine lv_iconst (v := (-1)) hx hb dX11_kitchen_67 kic_m1 ?_
            refine W.widen (k := 8) (n := 188) (Nat.le_of_ble_eq_true rfl) (Nat.le_of_ble_eq_true rfl) ?_
            exact W.iret (v := (-1)) hx hb hr (fun t ht hW => ⟨⟨(-1), (ad, cn, In, Fn), rfl, (Or.inl ⟨rfl, by omega, rfl, rfl, rfl, rfl⟩), by rw [ht]; exact hP, hD⟩, hS.F ht⟩) hS.2.2 dX11_kitchen_68
        ·
          have h_8 : ¬ (20 ≤ v3.toInt ∧ v3.toInt ≤ 400) := h_8
          refine lv_if_eq (tgt := 67) hx hb (oc_153 52 (aq_3 shX11_kitchen_49) sgw_0_15) rfl (fun _ => ?_) (fun h => absurd h cq_eq_0_0)
          refine lv_iconst (v := (-1)) hx hb dX11_kitchen_67 kic_m1 ?_
          refine W.widen (k := 8) (n := 188) (Nat.le_of_ble_eq_true rfl) (Nat.le_of_ble_eq_true rfl) ?_
          exact W.iret (v := (-1)) hx hb hr (fun t ht hW => ⟨⟨(-1), (ad, cn, In, Fn), rfl, (Or.inl ⟨rfl, by omega, rfl, rfl, rfl, rfl⟩), by rw [ht]; exact hP, hD⟩, hS.F ht⟩) hS.2.2 dX11_kitchen_68
      ·
        have h_6 : ¬ (0 ≤ v2.toInt ∧ v2.toInt ≤ 50) := h_6
        refine lv_if_eq (tgt := 67) hx hb (oc_153 39 (aq_15 shX11_kitchen_24) sgw_0_28) rfl (fun _ => ?_) (fun h => absurd h cq_eq_0_0)
        refine lv_iconst (v := (-1)) hx hb dX11_kitchen_67 kic_m1 ?_
        refine W.widen (k := 8) (n := 188) (Nat.le_of_ble_eq_true rfl) (Nat.le_of_ble_eq_true rfl) ?_
        exact W.iret (v := (-1)) hx hb hr (fun t ht hW => ⟨⟨(-1), (ad, cn, In, Fn), rfl, (Or.inl ⟨rfl, by omega, rfl, rfl, rfl, rfl⟩), by rw [ht]; exact hP, hD⟩, hS.F ht⟩) hS.2.2 dX11_kitchen_68
    ·
      have h_4 : ¬ (0 ≤ v1.toInt ∧ v1.toInt ≤ 99) := h_4
      refine lv_if_eq (tgt := 24) hx hb (oc_153 17 (aq_17 shX11_kitchen_0) sgw_0_7) rfl (fun _ => ?_) (fun h => absurd h cq_eq_0_0)
      refine lv_iconst (v := 0) hx hb (oc_3 24 shX11_kitchen_24) kic_0 ?_
      refine lv_istore (lv' := [(5, .int 0), (0, .ref (g 0)), (1, .int v0), (2, .int v1), (3, .int v2), (4, .int v3)]) hx hb (oc_54 25 (aq_1 shX11_kitchen_24) ub_5) hl (ltb rfl) rfl (fun ls hl => ?_)
      refine lv_iload hx hb (oc_21 27 (aq_3 shX11_kitchen_24) ub_5) (lvA0 hl) ?_
      refine lv_if_eq (tgt := 67) hx hb (oc_153 29 (aq_5 shX11_kitchen_24) sgw_0_38) rfl (fun _ => ?_) (fun h => absurd h cq_eq_0_0)
      refine lv_iconst (v := (-1)) hx hb dX11_kitchen_67 kic_m1 ?_
      refine W.widen (k := 8) (n := 188) (Nat.le_of_ble_eq_true rfl) (Nat.le_of_ble_eq_true rfl) ?_
      exact W.iret (v := (-1)) hx hb hr (fun t ht hW => ⟨⟨(-1), (ad, cn, In, Fn), rfl, (Or.inl ⟨rfl, by omega, rfl, rfl, rfl, rfl⟩), by rw [ht]; exact hP, hD⟩, hS.F ht⟩) hS.2.2 dX11_kitchen_68
  ·
    have h_2 : ¬ (0 ≤ v0.toInt ∧ v0.toInt ≤ 99) := h_2
    refine lv_if_eq (tgt := 24) hx hb (oc_153 7 (aq_7 shX11_kitchen_0) sgw_0_17) rfl (fun _ => ?_) (fun h => absurd h cq_eq_0_0)
    refine lv_iconst (v := 0) hx hb (oc_3 24 shX11_kitchen_24) kic_0 ?_
    refine lv_istore (lv' := [(5, .int 0), (0, .ref (g 0)), (1, .int v0), (2, .int v1), (3, .int v2), (4, .int v3)]) hx hb (oc_54 25 (aq_1 shX11_kitchen_24) ub_5) hl (ltb rfl) rfl (fun ls hl => ?_)
    refine lv_iload hx hb (oc_21 27 (aq_3 shX11_kitchen_24) ub_5) (lvA0 hl) ?_
    refine lv_if_eq (tgt := 67) hx hb (oc_153 29 (aq_5 shX11_kitchen_24) sgw_0_38) rfl (fun _ => ?_) (fun h => absurd h cq_eq_0_0)
    refine lv_iconst (v := (-1)) hx hb dX11_kitchen_67 kic_m1 ?_
    refine W.widen (k := 8) (n := 188) (Nat.le_of_ble_eq_true rfl) (Nat.le_of_ble_eq_true rfl) ?_
    exact W.iret (v := (-1)) hx hb hr (fun t ht hW => ⟨⟨(-1), (ad, cn, In, Fn), rfl, (Or.inl ⟨rfl, by omega, rfl, rfl, rfl, rfl⟩), by rw [ht]; exact hP, hD⟩, hS.F ht⟩) hS.2.2 dX11_kitchen_68
set_option maxRecDepth 100000 in
set_option maxHeartbeats 4000000 in
theorem q_Xmoves (l : Launch) (D : va_G) (cI cB cZ : ClassId) (zz qq vv : Nat) (bt : Nat → Int32) (g : Nat → Nat) (ad : Nat → Nat → Nat) (cn : Nat → Nat) (In : Nat → Int32) (Fn : Nat → Nat → Int32) (v0 v1 v2 : Int32) (sz : Nat) (hB : CBX cn) : Met l yX11_moves (CWS yX11_moves cX11_moves 6 (some .boolean)) (RM 8 2 103) (PBx [.ref (g 0), .int v0, .int v1, .int v2] D cI cB cZ zz qq vv bt (wX cI (D.1 99) zz g ad cn In Fn) sz) (va_Qi (fun (r : Int32) (u : (Nat → Nat → Nat) × (Nat → Nat) × (Nat → Int32) × (Nat → Nat → Int32)) => (fun r a2 c2 I2 F2 => (r = 0 ∧ ad = a2 ∧ cn = c2 ∧ In = I2 ∧ Fn = F2) ∨ (r = 1 ∧ ∃ (q z c : Nat) (y : Int32), (0 ≤ v0.toInt ∧ v0.toInt < (cn 2 : Int) ∧ -1 ≤ v1.toInt ∧ v1.toInt < (cn 10 : Int) ∧ 0 ≤ v2.toInt ∧ v2.toInt ≤ (cn 0 : Int) ∧ cn 15 < 60) ∧ (cn 15 < c ∧ c ≤ 100) ∧ (adP ad 15 (cn 15) q 5 z) = a2 ∧ (va_up (va_up cn 15 ((cn 15) + 1)) 25 c) = c2 ∧ (va_up In 15 y) = I2 ∧ (va_up (va_up (va_up Fn 180 (upd (Fn 180) (cn 15) v0)) 181 (upd (Fn 181) (cn 15) v1)) 182 (upd (Fn 182) (cn 15) v2)) = F2)) r u.1 u.2.1 u.2.2.1 u.2.2.2) (fun (u : (Nat → Nat → Nat) × (Nat → Nat) × (Nat → Int32) × (Nat → Nat → Int32)) (t : State) => va_P D vwCl (wX cI (D.1 99) zz g u.1 u.2.1 u.2.2.1 u.2.2.2) t.heap ∧ va_D (va_A (wX cI (D.1 99) zz g ad cn In Fn) sz) (wX cI (D.1 99) zz g u.1 u.2.1 u.2.2.1 u.2.2.2)) (va_A (wX cI (D.1 99) zz g ad cn In Fn) sz)) 2 103 (va_A (wX cI (D.1 99) zz g ad cn In Fn) sz) := by
  refine en_x (fun A => (va_Qi (fun (r : Int32) (u : (Nat → Nat → Nat) × (Nat → Nat) × (Nat → Int32) × (Nat → Nat → Int32)) => (fun (r : Int32) (a2 : Nat → Nat → Nat) (c2 : Nat → Nat) (I2 : Nat → Int32) (F2 : Nat → Nat → Int32) => (r = 0 ∧ ad = a2 ∧ cn = c2 ∧ In = I2 ∧ Fn = F2) ∨ (r = 1 ∧ ∃ (q z c : Nat) (y : Int32), (0 ≤ v0.toInt ∧ v0.toInt < (cn 2 : Int) ∧ -1 ≤ v1.toInt ∧ v1.toInt < (cn 10 : Int) ∧ 0 ≤ v2.toInt ∧ v2.toInt ≤ (cn 0 : Int) ∧ cn 15 < 60) ∧ (cn 15 < c ∧ c ≤ 100) ∧ (adP ad 15 (cn 15) q 5 z) = a2 ∧ (va_up (va_up cn 15 ((cn 15) + 1)) 25 c) = c2 ∧ (va_up In 15 y) = I2 ∧ (va_up (va_up (va_up Fn 180 (upd (Fn 180) (cn 15) v0)) 181 (upd (Fn 181) (cn 15) v1)) 182 (upd (Fn 182) (cn 15) v2)) = F2)) r u.1 u.2.1 u.2.2.1 u.2.2.2) (fun (u : (Nat → Nat → Nat) × (Nat → Nat) × (Nat → Int32) × (Nat → Nat → Int32)) (t : State) => va_P D vwCl (wX cI (D.1 99) zz g u.1 u.2.1 u.2.2.1 u.2.2.2) t.heap ∧ va_D A (wX cI (D.1 99) zz g u.1 u.2.1 u.2.2.1 u.2.2.2)) A)) rfl rfl pn_RX11 (Nat.le_of_ble_eq_true rfl) (fun p e s m below meth c A hx hb hml hown S hr hlocks hnm hA hP hK hD hXS hS ls hl => ?_)
  have hl : lv_has ls 6 [(0, .ref (g 0)), (1, .int v0), (2, .int v1), (3, .int v2)] := hl
  refine lv_iload_n hx hb (oc_27 0 shX11_moves_0) rfl (lvA1 hl) ?_
  refine lv_iconst (v := 0) hx hb (oc_3 1 (aq_1 shX11_moves_0)) kic_0 ?_
  refine lv_aload_n hx hb (oc_42 2 (aq_2 shX11_moves_0)) rfl (lvA0 hl) ?_
  refine gf_RX11_502 S hK hP 0 xo_0 (v := .int (nI (cn 2))) rfl (oc_180 3 (aq_3 shX11_moves_0) uw_1_246) ?_
  refine lv_iconst (v := 1) hx hb (oc_4 6 (aq_6 shX11_moves_0)) kic_1 ?_
  refine lv_isub hx hb (oc_100 7 (aq_7 shX11_moves_0)) ?_
  have tm1 := nI_mt (c := cn 2) (by omega)
  refine vp_callSi (runS_r (As := [.int v0, .int 0, .int ((nI (cn 2)) - 1)]) (rest := []) S (q_l_within l D cI cB cZ v0 0 ((nI (cn 2)) - 1)) kS_RX11_80 hK hP [] rfl ⟨Nat.le_of_ble_eq_true rfl, Nat.le_of_ble_eq_true rfl⟩ ⟨Nat.le_of_ble_eq_true rfl, Nat.le_of_ble_eq_true rfl⟩ rfl hl.1 rfl (Nat.le_of_ble_eq_true rfl) (oc_184 8 (aq_8 shX11_moves_0) uw_0_80)) (fun r_1 h_2 => ?_)
  rcases h_2 with ⟨rfl, h_2⟩ | ⟨rfl, h_2⟩
  ·
    have h_2 : 0 ≤ v0.toInt ∧ v0.toInt ≤ ((nI (cn 2)) - 1).toInt := h_2
    refine lv_if_eq (tgt := 31) hx hb (oc_153 11 (aq_11 shX11_moves_0) sgw_0_20) rfl (fun h => absurd h cq_eq_1_0) (fun _ => ?_)
    refine lv_iload_n hx hb (oc_28 14 (aq_14 shX11_moves_0)) rfl (lvA2 hl) ?_
    refine lv_iconst (v := (-1)) hx hb (oc_2 15 (aq_15 shX11_moves_0)) kic_m1 ?_
    refine lv_icmp_eq (tgt := 27) hx hb (oc_159 16 (aq_16 shX11_moves_0) sgw_0_11) rfl (fun c_3 => ?_) (fun c_3 => ?_)
    ·
      have tc_3 : (v1.toInt : Int) = (-1) := congrArg Int32.toInt c_3
      refine lv_iconst (v := 1) hx hb (oc_4 27 (aq_3 shX11_moves_24)) kic_1 ?_
      refine lv_goto (tgt := 32) hx hb (oc_167 28 (aq_4 shX11_moves_24) sgw_0_4) rfl ?_
      refine lv_istore (lv' := [(4, .int 1), (0, .ref (g 0)), (1, .int v0), (2, .int v1), (3, .int v2)]) hx hb dX11_moves_32 hl (ltb rfl) rfl (fun ls hl => ?_)
      refine lv_iload hx hb dX11_moves_34 (lvA0 hl) ?_
      refine lv_if_eq (tgt := 63) hx hb dX11_moves_36 rfl (fun h => absurd h cq_eq_1_0) (fun _ => ?_)
      refine lv_iload_n hx hb (oc_29 39 (aq_15 shX11_moves_24)) rfl (lvA4 hl) ?_
      refine lv_iconst (v := 0) hx hb (oc_3 40 (aq_16 shX11_moves_24)) kic_0 ?_
      refine lv_aload_n hx hb (oc_42 41 (aq_17 shX11_moves_24)) rfl (lvA1 hl) ?_
      refine gf_RX11_103 S hK hP 0 xo_0 (v := .int (nI (cn 0))) rfl (oc_180 42 (aq_18 shX11_moves_24) uw_0_103) ?_
      refine vp_callSi (runS_r (As := [.int v2, .int 0, .int (nI (cn 0))]) (rest := []) S (q_l_within l D cI cB cZ v2 0 (nI (cn 0))) kS_RX11_80 hK hP [] rfl ⟨Nat.le_of_ble_eq_true rfl, Nat.le_of_ble_eq_true rfl⟩ ⟨Nat.le_of_ble_eq_true rfl, Nat.le_of_ble_eq_true rfl⟩ rfl hl.1 rfl (Nat.le_of_ble_eq_true rfl) (oc_184 45 (aq_21 shX11_moves_24) uw_0_80)) (fun r_4 h_5 => ?_)
      have : (nI (cn 0)).toInt = (((cn 0) : Nat) : Int) := nI_toInt (by omega)
      rcases h_5 with ⟨rfl, h_5⟩ | ⟨rfl, h_5⟩
      ·
        have h_5 : 0 ≤ v2.toInt ∧ v2.toInt ≤ (nI (cn 0)).toInt := h_5
        refine lv_if_eq (tgt := 63) hx hb dX11_moves_48 rfl (fun h => absurd h cq_eq_1_0) (fun _ => ?_)
        refine lv_aload_n hx hb (oc_42 51 (aq_3 shX11_moves_48)) rfl (lvA1 hl) ?_
        refine gf_RX11_77 S hK hP 0 xo_0 (v := .ref (g 15)) rfl (oc_180 52 (aq_4 shX11_moves_48) uw_0_77) ?_
        refine vp_callSi (runV_r (As := []) (rest := []) S (q_l_size l D cI cB cZ (g 15) (if (cn 15) = 0 then zz else ad 2 5) (In 15) (nI (cn 15))) kV_RX11_84 hK hP [29] (one_is xo_29) 29 xo_29 rfl rfl ⟨Nat.le_of_ble_eq_true rfl, Nat.le_of_ble_eq_true rfl⟩ ⟨Nat.le_of_ble_eq_true rfl, Nat.le_of_ble_eq_true rfl⟩ rfl hl.1 rfl (Nat.le_of_ble_eq_true rfl) (oc_182 55 (aq_7 shX11_moves_48) uw_0_84)) (fun r_6 h_7 => ?_)
        subst h_7
        refine lv_bipush (v := 60) hx hb (oc_16 58 (aq_10 shX11_moves_48) sgb_60) kbc_60 ?_
        have : (nI (cn 15)).toInt = (((cn 15) : Nat) : Int) := nI_toInt (by omega)
        refine lv_icmp_lt (tgt := 65) hx hb (oc_161 60 (aq_12 shX11_moves_48) sgw_0_5) rfl (fun c_8 => ?_) (fun c_8 => ?_)
        ·
          have tc_8 : ((nI (cn 15)).toInt : Int) < 60 := Int32.lt_iff_toInt_lt.mp c_8
          refine lv_aload_n hx hb (oc_42 65 (aq_17 shX11_moves_48)) rfl (lvA1 hl) ?_
          refine lv_iload_n hx hb (oc_27 66 (aq_18 shX11_moves_48)) rfl (lvA2 hl) ?_
          refine lv_sipush (v := 399) hx hb (oc_17 67 (aq_19 shX11_moves_48) sgw_1_143) (by decide) ?_
          refine va_csq (runV_rxa (As := [.int v0, .int 399]) (rest := []) S (q_XmoveBy l D cI cB cZ zz qq vv bt g ad cn In Fn v0 399 hB) kV_RX11_509 hK hXS hS hP 0 xo_0 rfl rfl ⟨Nat.le_of_ble_eq_true rfl, Nat.le_of_ble_eq_true rfl⟩ ⟨Nat.le_of_ble_eq_true rfl, Nat.le_of_ble_eq_true rfl⟩ rfl hl.1 rfl (Nat.le_of_ble_eq_true rfl) (oc_182 70 (aq_22 shX11_moves_48) uw_1_253)) (fun r_9 h_10 => ?_)
          rcases h_10 with ⟨mr_9, er_9, hr_9, rfl⟩ | ⟨hr_9, rfl⟩
          ·
            refine lv_astore (lv' := [(5, .ref (ad 15 mr_9)), (4, .int 1), (0, .ref (g 0)), (1, .int v0), (2, .int v1), (3, .int v2)]) hx hb dX11_moves_73 hl (ltb rfl) rfl (fun ls hl => ?_)
            refine lv_aload hx hb dX11_moves_75 (lvA0 hl) ?_
            refine lv_ifnull hx hb dX11_moves_77 ?_
            refine lv_iload_n hx hb (oc_29 80 (aq_7 shX11_moves_73)) rfl (lvA5 hl) ?_
            refine lv_aload hx hb (oc_25 81 (aq_8 shX11_moves_73) ub_5) (lvA0 hl) ?_
            refine gf_RX11_508 S hK hP _ (xf_5 (by omega)) (v := .int ((Fn 182) mr_9)) rfl (oc_180 83 (aq_10 shX11_moves_73) uw_1_252) ?_
            refine lv_icmp_ge (tgt := 91) hx hb (oc_162 86 (aq_13 shX11_moves_73) sgw_0_5) rfl (fun c_11 => ?_) (fun c_11 => ?_)
            ·
              have tc_11 : (((Fn 182) mr_9).toInt : Int) ≤ v2.toInt := Int32.le_iff_toInt_le.mp c_11
              refine lv_aload_n hx hb dX11_moves_91 rfl (lvA2 hl) ?_
              refine gf_RX11_77 S hK hP 0 xo_0 (v := .ref (g 15)) rfl dX11_moves_92 ?_
              refine va_new (ci := 4) (fs := [.int 0, .int 0, .int 0]) (C := RX3) (T := TX3) (N := 3) hx hb S.2.2.2.2 hin_RX3 tyX3 tyX3_ok hown (S.2.2.2.2 _ (wk6_3 3 rfl rfl)) (S.2.2.2.2 _ (wk6_3 4 rfl rfl)) (S.2.2.2.2 _ (wk1_2 2 rfl rfl)) hK.1 hP hD hS hA rfl (by decide +kernel) (Nat.le_of_ble_eq_true rfl) (Nat.le_of_ble_eq_true rfl) dX11_moves_95 (fun q95 H hP hD hS => ?_)
              have hP : va_P D vwCl ((wX cI (D.1 99) zz g ad cn In Fn) ++ ([(q95, .inr (4, [.int 0, .int 0, .int 0]))] : va_W)) H := hP
              have hD : va_D A ((wX cI (D.1 99) zz g ad cn In Fn) ++ ([(q95, .inr (4, [.int 0, .int 0, .int 0]))] : va_W)) := hD
              refine lv_dup hx hb dX11_moves_98 rfl ?_
              refine lv_iload_n hx hb dX11_moves_99 rfl (lvA3 hl) ?_
              refine lv_iload_n hx hb dX11_moves_100 rfl (lvA4 hl) ?_
              refine lv_iload_n hx hb dX11_moves_101 rfl (lvA5 hl) ?_
              have hFc := va_free (wc := [(q95, .inr (4, [.int 0, .int 0, .int 0]))]) hD hS hA [_] (one_im (exr (m := 0) rfl))
              refine va_callv (runI_w (As := [.int v0, .int v1, .int v2]) (rest := [.ref q95, .ref (g 15)]) S (q_l_Move l D cI cB cZ q95 v0 v1 v2 H.size) kI_RX11_513 hK hP hD [_] (one_is (exr (m := 0) rfl)) (one_im (exr (m := 0) rfl)) rfl ⟨Nat.le_of_ble_eq_true rfl, Nat.le_of_ble_eq_true rfl⟩ ⟨Nat.le_of_ble_eq_true rfl, Nat.le_of_ble_eq_true rfl⟩ rfl hl.1 rfl (Nat.le_of_ble_eq_true rfl) dX11_moves_102) hS (fun q _ h => hFc q h) hFc (fun u_12 t H1 locs ht hvm h_13 hB1 hz1 hk1 hS => ?_)
              obtain ⟨hP1, hD1⟩ := hB1
              rw [ht] at hP1
              obtain ⟨hP, hD⟩ := exjoin hP hD hk1 hFc hP1 hD1
              generalize H1 = H at hP hS ⊢
              have hP : va_P D vwCl ((wX cI (D.1 99) zz g ad cn In Fn) ++ ([(q95, .inr (4, [.int v0, .int v1, .int v2]))] : va_W)) H := hP
              have hD : va_D A ((wX cI (D.1 99) zz g ad cn In Fn) ++ ([(q95, .inr (4, [.int v0, .int v1, .int v2]))] : va_W)) := hD
              rcases Nat.eq_zero_or_pos (cn 15) with hz0 | hz0
              ·
                have hi9 : (wX cI (D.1 99) zz g ad cn In Fn)[29]? = _ := xlz_5 hz0
                have hp2P := pick2P hP (exl hi9) (exr (m := 0) rfl)
                have hp2D := pick2D hD (exl hi9) (exr (m := 0) rfl) (ne_ex hi9)
                have hFc := free_all hp2D hS hA
                refine va_calli (runV_xa (As := [.ref q95]) (rest := []) S (q_l_addZM l D cI cB cZ zz qq vv bt (g 15) q95 (In 15) v0 v1 v2 H.size) kV_RX11_110 hK hXS hS hFc hp2P hp2D 0 rfl rfl rfl ⟨Nat.le_of_ble_eq_true rfl, Nat.le_of_ble_eq_true rfl⟩ ⟨Nat.le_of_ble_eq_true rfl, Nat.le_of_ble_eq_true rfl⟩ rfl hl.1 rfl (Nat.le_of_ble_eq_true rfl) dX11_moves_105) hS (fun q _ h => hFc q h) hFc (fun r13 u13 t H1 locs ht hvm h13 hB1 hz1 hk1 hS => ?_)
                obtain ⟨hP1, hD1⟩ := hB1
                rw [ht] at hP1
                obtain rfl : r13 = 1 := h13
                obtain ⟨hP, hD⟩ := add0_join hP hD hi9 rfl hk1 hFc hP1 hD1 rfl (xu_5 (z := u13) (c := 10) (y := (In 15) + 1) (q := q95) (x0 := v0) (x1 := v1) (x2 := v2) hz0)
                have hP : va_P D vwCl (wX cI (D.1 99) zz g (adP ad 15 (cn 15) q95 5 u13) (va_up (va_up cn 15 ((cn 15) + 1)) 25 10) (va_up In 15 ((In 15) + 1)) (va_up (va_up (va_up Fn 180 (upd (Fn 180) (cn 15) v0)) 181 (upd (Fn 181) (cn 15) v1)) 182 (upd (Fn 182) (cn 15) v2))) H1 := hP
                have hD : va_D A (wX cI (D.1 99) zz g (adP ad 15 (cn 15) q95 5 u13) (va_up (va_up cn 15 ((cn 15) + 1)) 25 10) (va_up In 15 ((In 15) + 1)) (va_up (va_up (va_up Fn 180 (upd (Fn 180) (cn 15) v0)) 181 (upd (Fn 181) (cn 15) v1)) 182 (upd (Fn 182) (cn 15) v2))) := hD
                generalize H1 = H at hP hS ⊢
                refine W.widen (k := 2) (n := 103) (Nat.le_of_ble_eq_true rfl) (Nat.le_of_ble_eq_true rfl) ?_
                refine lv_pop hx hb dX11_moves_108 rfl ?_
                refine lv_iconst (v := 1) hx hb dX11_moves_109 kic_1 ?_
                exact W.zret (v := 1) hx hb hr rfl (fun t ht hW => ⟨⟨1, ((adP ad 15 (cn 15) q95 5 u13), (va_up (va_up cn 15 ((cn 15) + 1)) 25 10), (va_up In 15 ((In 15) + 1)), (va_up (va_up (va_up Fn 180 (upd (Fn 180) (cn 15) v0)) 181 (upd (Fn 181) (cn 15) v1)) 182 (upd (Fn 182) (cn 15) v2))), rfl, (Or.inr ⟨rfl, q95, u13, 10, ((In 15) + 1), by omega, ⟨by omega, by omega⟩, rfl, rfl, rfl, rfl⟩), by rw [ht]; exact hP, hD⟩, hS.F ht⟩) hS.2.2 dX11_moves_110
              ·
                have hi9 : (wX cI (D.1 99) zz g ad cn In Fn)[29]? = _ := xl_5 hz0
                have hj9 : (wX cI (D.1 99) zz g ad cn In Fn)[_]? = _ := xf_18 (k := 0) (show 0 < min 1 (cn 15) by omega)
                obtain ⟨ws9, hp1, hp2⟩ := pickG (W := ((wX cI (D.1 99) zz g ad cn In Fn) ++ ([(q95, .inr (4, [.int v0, .int v1, .int v2]))] : va_W))) (exl hi9) (exl hj9) (exr (m := 0) rfl) (xij (by decide)) (ne_ex hi9) (ne_ex hj9)
                have hP9 := va_P_perm hp1 hP
                have hD9 := va_D_perm hp1 hD
                have hFc := free_all hD9 hS hA
                refine va_calli (runV_xa (As := [.ref q95]) (rest := []) S (q_l_addGM l D cI cB cZ zz qq vv bt (cn 25) (g 15) (ad 2 5) (cn 15) q95 (In 15) (ad 15) v0 v1 v2 ws9 H.size (by omega) (by omega) hz0 (by omega) (fun i hi => ⟨_, g_mem (hp1.mem_iff.mp (List.mem_of_getElem? (exl (xf_5 (k := i) hi)))) (by decide)⟩)) kV_RX11_110 hK hXS hS hFc hP9 hD9 0 rfl rfl rfl ⟨Nat.le_of_ble_eq_true rfl, Nat.le_of_ble_eq_true rfl⟩ ⟨Nat.le_of_ble_eq_true rfl, Nat.le_of_ble_eq_true rfl⟩ rfl hl.1 rfl (Nat.le_of_ble_eq_true rfl) dX11_moves_105) hS (fun q _ h => hFc q h) hFc (fun r13 u13 t H1 locs ht hvm h13 hB1 hz1 hk1 hS => ?_)
                obtain ⟨hP1, hD1⟩ := hB1
                rw [ht] at hP1
                obtain ⟨hr13, h13⟩ := h13
                obtain rfl : r13 = 1 := hr13
                obtain ⟨ua13, uc13⟩ := u13
                have hu13 : cn 15 < uc13 ∧ uc13 ≤ 100 := h13
                obtain ⟨hP, hD⟩ := addG_join hp2 hi9 hj9 hP1 hD1 hFc (xadd_5 (z := ua13) (c := uc13) (y := (In 15) + 1) (q := q95) (x0 := v0) (x1 := v1) (x2 := v2) hz0)
                have hP : va_P D vwCl (wX cI (D.1 99) zz g (adP ad 15 (cn 15) q95 5 ua13) (va_up (va_up cn 15 ((cn 15) + 1)) 25 uc13) (va_up In 15 ((In 15) + 1)) (va_up (va_up (va_up Fn 180 (upd (Fn 180) (cn 15) v0)) 181 (upd (Fn 181) (cn 15) v1)) 182 (upd (Fn 182) (cn 15) v2))) H1 := hP
                have hD : va_D A (wX cI (D.1 99) zz g (adP ad 15 (cn 15) q95 5 ua13) (va_up (va_up cn 15 ((cn 15) + 1)) 25 uc13) (va_up In 15 ((In 15) + 1)) (va_up (va_up (va_up Fn 180 (upd (Fn 180) (cn 15) v0)) 181 (upd (Fn 181) (cn 15) v1)) 182 (upd (Fn 182) (cn 15) v2))) := hD
                generalize H1 = H at hP hS ⊢
                refine lv_pop hx hb dX11_moves_108 rfl ?_
                refine lv_iconst (v := 1) hx hb dX11_moves_109 kic_1 ?_
                exact W.zret (v := 1) hx hb hr rfl (fun t ht hW => ⟨⟨1, ((adP ad 15 (cn 15) q95 5 ua13), (va_up (va_up cn 15 ((cn 15) + 1)) 25 uc13), (va_up In 15 ((In 15) + 1)), (va_up (va_up (va_up Fn 180 (upd (Fn 180) (cn 15) v0)) 181 (upd (Fn 181) (cn 15) v1)) 182 (upd (Fn 182) (cn 15) v2))), rfl, (Or.inr ⟨rfl, q95, ua13, uc13, ((In 15) + 1), by omega, ⟨by omega, by omega⟩, rfl, rfl, rfl, rfl⟩), by rw [ht]; exact hP, hD⟩, hS.F ht⟩) hS.2.2 dX11_moves_110
            ·
              have tc_11 : (v2.toInt : Int) < ((Fn 182) mr_9).toInt := Int32.lt_iff_toInt_lt.mp (Int32.not_le.mp c_11)
              refine lv_iconst (v := 0) hx hb (oc_3 89 (aq_16 shX11_moves_73)) kic_0 ?_
              refine W.widen (k := 2) (n := 103) (Nat.le_of_ble_eq_true rfl) (Nat.le_of_ble_eq_true rfl) ?_
              exact W.zret (v := 0) hx hb hr rfl (fun t ht hW => ⟨⟨0, (ad, cn, In, Fn), rfl, (Or.inl ⟨rfl, rfl, rfl, rfl, rfl⟩), by rw [ht]; exact hP, hD⟩, hS.F ht⟩) hS.2.2 (oc_172 90 (aq_17 shX11_moves_73))
          ·
            refine lv_astoreN (lv' := [(5, .null), (4, .int 1), (0, .ref (g 0)), (1, .int v0), (2, .int v1), (3, .int v2)]) hx hb dX11_moves_73 hl (ltb rfl) rfl (fun ls hl => ?_)
            refine lv_aloadN hx hb dX11_moves_75 (lvA0 hl) ?_
            refine lv_ifnullN (tgt := 91) hx hb dX11_moves_77 rfl ?_
            refine lv_aload_n hx hb dX11_moves_91 rfl (lvA2 hl) ?_
            refine gf_RX11_77 S hK hP 0 xo_0 (v := .ref (g 15)) rfl dX11_moves_92 ?_
            refine va_new (ci := 4) (fs := [.int 0, .int 0, .int 0]) (C := RX3) (T := TX3) (N := 3) hx hb S.2.2.2.2 hin_RX3 tyX3 tyX3_ok hown (S.2.2.2.2 _ (wk6_3 3 rfl rfl)) (S.2.2.2.2 _ (wk6_3 4 rfl rfl)) (S.2.2.2.2 _ (wk1_2 2 rfl rfl)) hK.1 hP hD hS hA rfl (by decide +kernel) (Nat.le_of_ble_eq_true rfl) (Nat.le_of_ble_eq_true rfl) dX11_moves_95 (fun q95 H hP hD hS => ?_)
            have hP : va_P D vwCl ((wX cI (D.1 99) zz g ad cn In Fn) ++ ([(q95, .inr (4, [.int 0, .int 0, .int 0]))] : va_W)) H := hP
            have hD : va_D A ((wX cI (D.1 99) zz g ad cn In Fn) ++ ([(q95, .inr (4, [.int 0, .int 0, .int 0]))] : va_W)) := hD
            refine lv_dup hx hb dX11_moves_98 rfl ?_
            refine lv_iload_n hx hb dX11_moves_99 rfl (lvA3 hl) ?_
            refine lv_iload_n hx hb dX11_moves_100 rfl (lvA4 hl) ?_
            refine lv_iload_n hx hb dX11_moves_101 rfl (lvA5 hl) ?_
            have hFc := va_free (wc := [(q95, .inr (4, [.int 0, .int 0, .int 0]))]) hD hS hA [_] (one_im (exr (m := 0) rfl))
            refine va_callv (runI_w (As := [.int v0, .int v1, .int v2]) (rest := [.ref q95, .ref (g 15)]) S (q_l_Move l D cI cB cZ q95 v0 v1 v2 H.size) kI_RX11_513 hK hP hD [_] (one_is (exr (m := 0) rfl)) (one_im (exr (m := 0) rfl)) rfl ⟨Nat.le_of_ble_eq_true rfl, Nat.le_of_ble_eq_true rfl⟩ ⟨Nat.le_of_ble_eq_true rfl, Nat.le_of_ble_eq_true rfl⟩ rfl hl.1 rfl (Nat.le_of_ble_eq_true rfl) dX11_moves_102) hS (fun q _ h => hFc q h) hFc (fun u_15 t H1 locs ht hvm h_16 hB1 hz1 hk1 hS => ?_)
            obtain ⟨hP1, hD1⟩ := hB1
            rw [ht] at hP1
            obtain ⟨hP, hD⟩ := exjoin hP hD hk1 hFc hP1 hD1
            generalize H1 = H at hP hS ⊢
            have hP : va_P D vwCl ((wX cI (D.1 99) zz g ad cn In Fn) ++ ([(q95, .inr (4, [.int v0, .int v1, .int v2]))] : va_W)) H := hP
            have hD : va_D A ((wX cI (D.1 99) zz g ad cn In Fn) ++ ([(q95, .inr (4, [.int v0, .int v1, .int v2]))] : va_W)) := hD
            rcases Nat.eq_zero_or_pos (cn 15) with hz0 | hz0
            ·
              have hi9 : (wX cI (D.1 99) zz g ad cn In Fn)[29]? = _ := xlz_5 hz0
              have hp2P := pick2P hP (exl hi9) (exr (m := 0) rfl)
              have hp2D := pick2D hD (exl hi9) (exr (m := 0) rfl) (ne_ex hi9)
              have hFc := free_all hp2D hS hA
              refine va_calli (runV_xa (As := [.ref q95]) (rest := []) S (q_l_addZM l D cI cB cZ zz qq vv bt (g 15) q95 (In 15) v0 v1 v2 H.size) kV_RX11_110 hK hXS hS hFc hp2P hp2D 0 rfl rfl rfl ⟨Nat.le_of_ble_eq_true rfl, Nat.le_of_ble_eq_true rfl⟩ ⟨Nat.le_of_ble_eq_true rfl, Nat.le_of_ble_eq_true rfl⟩ rfl hl.1 rfl (Nat.le_of_ble_eq_true rfl) dX11_moves_105) hS (fun q _ h => hFc q h) hFc (fun r16 u16 t H1 locs ht hvm h16 hB1 hz1 hk1 hS => ?_)
              obtain ⟨hP1, hD1⟩ := hB1
              rw [ht] at hP1
              obtain rfl : r16 = 1 := h16
              obtain ⟨hP, hD⟩ := add0_join hP hD hi9 rfl hk1 hFc hP1 hD1 rfl (xu_5 (z := u16) (c := 10) (y := (In 15) + 1) (q := q95) (x0 := v0) (x1 := v1) (x2 := v2) hz0)
              have hP : va_P D vwCl (wX cI (D.1 99) zz g (adP ad 15 (cn 15) q95 5 u16) (va_up (va_up cn 15 ((cn 15) + 1)) 25 10) (va_up In 15 ((In 15) + 1)) (va_up (va_up (va_up Fn 180 (upd (Fn 180) (cn 15) v0)) 181 (upd (Fn 181) (cn 15) v1)) 182 (upd (Fn 182) (cn 15) v2))) H1 := hP
              have hD : va_D A (wX cI (D.1 99) zz g (adP ad 15 (cn 15) q95 5 u16) (va_up (va_up cn 15 ((cn 15) + 1)) 25 10) (va_up In 15 ((In 15) + 1)) (va_up (va_up (va_up Fn 180 (upd (Fn 180) (cn 15) v0)) 181 (upd (Fn 181) (cn 15) v1)) 182 (upd (Fn 182) (cn 15) v2))) := hD
              generalize H1 = H at hP hS ⊢
              refine W.widen (k := 2) (n := 103) (Nat.le_of_ble_eq_true rfl) (Nat.le_of_ble_eq_true rfl) ?_
              refine lv_pop hx hb dX11_moves_108 rfl ?_
              refine lv_iconst (v := 1) hx hb dX11_moves_109 kic_1 ?_
              exact W.zret (v := 1) hx hb hr rfl (fun t ht hW => ⟨⟨1, ((adP ad 15 (cn 15) q95 5 u16), (va_up (va_up cn 15 ((cn 15) + 1)) 25 10), (va_up In 15 ((In 15) + 1)), (va_up (va_up (va_up Fn 180 (upd (Fn 180) (cn 15) v0)) 181 (upd (Fn 181) (cn 15) v1)) 182 (upd (Fn 182) (cn 15) v2))), rfl, (Or.inr ⟨rfl, q95, u16, 10, ((In 15) + 1), by omega, ⟨by omega, by omega⟩, rfl, rfl, rfl, rfl⟩), by rw [ht]; exact hP, hD⟩, hS.F ht⟩) hS.2.2 dX11_moves_110
            ·
              have hi9 : (wX cI (D.1 99) zz g ad cn In Fn)[29]? = _ := xl_5 hz0
              have hj9 : (wX cI (D.1 99) zz g ad cn In Fn)[_]? = _ := xf_18 (k := 0) (show 0 < min 1 (cn 15) by omega)
              obtain ⟨ws9, hp1, hp2⟩ := pickG (W := ((wX cI (D.1 99) zz g ad cn In Fn) ++ ([(q95, .inr (4, [.int v0, .int v1, .int v2]))] : va_W))) (exl hi9) (exl hj9) (exr (m := 0) rfl) (xij (by decide)) (ne_ex hi9) (ne_ex hj9)
              have hP9 := va_P_perm hp1 hP
              have hD9 := va_D_perm hp1 hD
              have hFc := free_all hD9 hS hA
              refine va_calli (runV_xa (As := [.ref q95]) (rest := []) S (q_l_addGM l D cI cB cZ zz qq vv bt (cn 25) (g 15) (ad 2 5) (cn 15) q95 (In 15) (ad 15) v0 v1 v2 ws9 H.size (by omega) (by omega) hz0 (by omega) (fun i hi => ⟨_, g_mem (hp1.mem_iff.mp (List.mem_of_getElem? (exl (xf_5 (k := i) hi)))) (by decide)⟩)) kV_RX11_110 hK hXS hS hFc hP9 hD9 0 rfl rfl rfl ⟨Nat.le_of_ble_eq_true rfl, Nat.le_of_ble_eq_true rfl⟩ ⟨Nat.le_of_ble_eq_true rfl, Nat.le_of_ble_eq_true rfl⟩ rfl hl.1 rfl (Nat.le_of_ble_eq_true rfl) dX11_moves_105) hS (fun q _ h => hFc q h) hFc (fun r16 u16 t H1 locs ht hvm h16 hB1 hz1 hk1 hS => ?_)
              obtain ⟨hP1, hD1⟩ := hB1
              rw [ht] at hP1
              obtain ⟨hr16, h16⟩ := h16
              obtain rfl : r16 = 1 := hr16
              obtain ⟨ua16, uc16⟩ := u16
              have hu16 : cn 15 < uc16 ∧ uc16 ≤ 100 := h16
              obtain ⟨hP, hD⟩ := addG_join hp2 hi9 hj9 hP1 hD1 hFc (xadd_5 (z := ua16) (c := uc16) (y := (In 15) + 1) (q := q95) (x0 := v0) (x1 := v1) (x2 := v2) hz0)
              have hP : va_P D vwCl (wX cI (D.1 99) zz g (adP ad 15 (cn 15) q95 5 ua16) (va_up (va_up cn 15 ((cn 15) + 1)) 25 uc16) (va_up In 15 ((In 15) + 1)) (va_up (va_up (va_up Fn 180 (upd (Fn 180) (cn 15) v0)) 181 (upd (Fn 181) (cn 15) v1)) 182 (upd (Fn 182) (cn 15) v2))) H1 := hP
              have hD : va_D A (wX cI (D.1 99) zz g (adP ad 15 (cn 15) q95 5 ua16) (va_up (va_up cn 15 ((cn 15) + 1)) 25 uc16) (va_up In 15 ((In 15) + 1)) (va_up (va_up (va_up Fn 180 (upd (Fn 180) (cn 15) v0)) 181 (upd (Fn 181) (cn 15) v1)) 182 (upd (Fn 182) (cn 15) v2))) := hD
              generalize H1 = H at hP hS ⊢
              refine lv_pop hx hb dX11_moves_108 rfl ?_
              refine lv_iconst (v := 1) hx hb dX11_moves_109 kic_1 ?_
              exact W.zret (v := 1) hx hb hr rfl (fun t ht hW => ⟨⟨1, ((adP ad 15 (cn 15) q95 5 ua16), (va_up (va_up cn 15 ((cn 15) + 1)) 25 uc16), (va_up In 15 ((In 15) + 1)), (va_up (va_up (va_up Fn 180 (upd (Fn 180) (cn 15) v0)) 181 (upd (Fn 181) (cn 15) v1)) 182 (upd (Fn 182) (cn 15) v2))), rfl, (Or.inr ⟨rfl, q95, ua16, uc16, ((In 15) + 1), by omega, ⟨by omega, by omega⟩, rfl, rfl, rfl, rfl⟩), by rw [ht]; exact hP, hD⟩, hS.F ht⟩) hS.2.2 dX11_moves_110
        ·
          have tc_8 : (60 : Int) ≤ (nI (cn 15)).toInt := Int32.le_iff_toInt_le.mp (Int32.not_lt.mp c_8)
          refine lv_iconst (v := 0) hx hb dX11_moves_63 kic_0 ?_
          refine W.widen (k := 2) (n := 103) (Nat.le_of_ble_eq_true rfl) (Nat.le_of_ble_eq_true rfl) ?_
          exact W.zret (v := 0) hx hb hr rfl (fun t ht hW => ⟨⟨0, (ad, cn, In, Fn), rfl, (Or.inl ⟨rfl, rfl, rfl, rfl, rfl⟩), by rw [ht]; exact hP, hD⟩, hS.F ht⟩) hS.2.2 dX11_moves_64
      ·
        have h_5 : ¬ (0 ≤ v2.toInt ∧ v2.toInt ≤ (nI (cn 0)).toInt) := h_5
        refine lv_if_eq (tgt := 63) hx hb dX11_moves_48 rfl (fun _ => ?_) (fun h => absurd h cq_eq_0_0)
        refine lv_iconst (v := 0) hx hb dX11_moves_63 kic_0 ?_
        refine W.widen (k := 2) (n := 103) (Nat.le_of_ble_eq_true rfl) (Nat.le_of_ble_eq_true rfl) ?_
        exact W.zret (v := 0) hx hb hr rfl (fun t ht hW => ⟨⟨0, (ad, cn, In, Fn), rfl, (Or.inl ⟨rfl, rfl, rfl, rfl, rfl⟩), by rw [ht]; exact hP, hD⟩, hS.F ht⟩) hS.2.2 dX11_moves_64
    ·
      have tc_3 : (v1.toInt : Int) ≠ (-1) := fun q => c_3 (Int32.toInt_inj.mp q)
      refine lv_aload_n hx hb (oc_42 19 (aq_19 shX11_moves_0)) rfl (lvA0 hl) ?_
      refine lv_iload_n hx hb (oc_28 20 (aq_20 shX11_moves_0)) rfl (lvA2 hl) ?_
      refine va_csq (runV_rxa (As := [.int v1]) (rest := []) S (q_XkitchenAt l D cI cB cZ zz qq vv bt g ad cn In Fn v1 hB) kV_RX11_114 hK hXS hS hP 0 xo_0 rfl rfl ⟨Nat.le_of_ble_eq_true rfl, Nat.le_of_ble_eq_true rfl⟩ ⟨Nat.le_of_ble_eq_true rfl, Nat.le_of_ble_eq_true rfl⟩ rfl hl.1 rfl (Nat.le_of_ble_eq_true rfl) (oc_182 21 (aq_21 shX11_moves_0) uw_0_114)) (fun r_18 h_19 => ?_)
      rcases h_19 with ⟨mr_18, er_18, hr_18, rfl⟩ | ⟨hr_18, rfl⟩
      ·
        refine lv_ifnull hx hb (oc_198 24 shX11_moves_24 sgw_0_7) ?_
        refine lv_iconst (v := 1) hx hb (oc_4 27 (aq_3 shX11_moves_24)) kic_1 ?_
        refine lv_goto (tgt := 32) hx hb (oc_167 28 (aq_4 shX11_moves_24) sgw_0_4) rfl ?_
        refine lv_istore (lv' := [(4, .int 1), (0, .ref (g 0)), (1, .int v0), (2, .int v1), (3, .int v2)]) hx hb dX11_moves_32 hl (ltb rfl) rfl (fun ls hl => ?_)
        refine lv_iload hx hb dX11_moves_34 (lvA0 hl) ?_
        refine lv_if_eq (tgt := 63) hx hb dX11_moves_36 rfl (fun h => absurd h cq_eq_1_0) (fun _ => ?_)
        refine lv_iload_n hx hb (oc_29 39 (aq_15 shX11_moves_24)) rfl (lvA4 hl) ?_
        refine lv_iconst (v := 0) hx hb (oc_3 40 (aq_16 shX11_moves_24)) kic_0 ?_
        refine lv_aload_n hx hb (oc_42 41 (aq_17 shX11_moves_24)) rfl (lvA1 hl) ?_
        refine gf_RX11_103 S hK hP 0 xo_0 (v := .int (nI (cn 0))) rfl (oc_180 42 (aq_18 shX11_moves_24) uw_0_103) ?_
        refine vp_callSi (runS_r (As := [.int v2, .int 0, .int (nI (cn 0))]) (rest := []) S (q_l_within l D cI cB cZ v2 0 (nI (cn 0))) kS_RX11_80 hK hP [] rfl ⟨Nat.le_of_ble_eq_true rfl, Nat.le_of_ble_eq_true rfl⟩ ⟨Nat.le_of_ble_eq_true rfl, Nat.le_of_ble_eq_true rfl⟩ rfl hl.1 rfl (Nat.le_of_ble_eq_true rfl) (oc_184 45 (aq_21 shX11_moves_24) uw_0_80)) (fun r_20 h_21 => ?_)
        have : (nI (cn 0)).toInt = (((cn 0) : Nat) : Int) := nI_toInt (by omega)
        rcases h_21 with ⟨rfl, h_21⟩ | ⟨rfl, h_21⟩
        ·
          have h_21 : 0 ≤ v2.toInt ∧ v2.toInt ≤ (nI (cn 0)).toInt := h_21
          refine lv_if_eq (tgt := 63) hx hb dX11_moves_48 rfl (fun h => absurd h cq_eq_1_0) (fun _ => ?_)
          refine lv_aload_n hx hb (oc_42 51 (aq_3 shX11_moves_48)) rfl (lvA1 hl) ?_
          refine gf_RX11_77 S hK hP 0 xo_0 (v := .ref (g 15)) rfl (oc_180 52 (aq_4 shX11_moves_48) uw_0_77) ?_
          refine vp_callSi (runV_r (As := []) (rest := []) S (q_l_size l D cI cB cZ (g 15) (if (cn 15) = 0 then zz else ad 2 5) (In 15) (nI (cn 15))) kV_RX11_84 hK hP [29] (one_is xo_29) 29 xo_29 rfl rfl ⟨Nat.le_of_ble_eq_true rfl, Nat.le_of_ble_eq_true rfl⟩ ⟨Nat.le_of_ble_eq_true rfl, Nat.le_of_ble_eq_true rfl⟩ rfl hl.1 rfl (Nat.le_of_ble_eq_true rfl) (oc_182 55 (aq_7 shX11_moves_48) uw_0_84)) (fun r_22 h_23 => ?_)
          subst h_23
          refine lv_bipush (v := 60) hx hb (oc_16 58 (aq_10 shX11_moves_48) sgb_60) kbc_60 ?_
          have : (nI (cn 15)).toInt = (((cn 15) : Nat) : Int) := nI_toInt (by omega)
          refine lv_icmp_lt (tgt := 65) hx hb (oc_161 60 (aq_12 shX11_moves_48) sgw_0_5) rfl (fun c_24 => ?_) (fun c_24 => ?_)
          ·
            have tc_24 : ((nI (cn 15)).toInt : Int) < 60 := Int32.lt_iff_toInt_lt.mp c_24
            refine lv_aload_n hx hb (oc_42 65 (aq_17 shX11_moves_48)) rfl (lvA1 hl) ?_
            refine lv_iload_n hx hb (oc_27 66 (aq_18 shX11_moves_48)) rfl (lvA2 hl) ?_
            refine lv_sipush (v := 399) hx hb (oc_17 67 (aq_19 shX11_moves_48) sgw_1_143) (by decide) ?_
            refine va_csq (runV_rxa (As := [.int v0, .int 399]) (rest := []) S (q_XmoveBy l D cI cB cZ zz qq vv bt g ad cn In Fn v0 399 hB) kV_RX11_509 hK hXS hS hP 0 xo_0 rfl rfl ⟨Nat.le_of_ble_eq_true rfl, Nat.le_of_ble_eq_true rfl⟩ ⟨Nat.le_of_ble_eq_true rfl, Nat.le_of_ble_eq_true rfl⟩ rfl hl.1 rfl (Nat.le_of_ble_eq_true rfl) (oc_182 70 (aq_22 shX11_moves_48) uw_1_253)) (fun r_25 h_26 => ?_)
            rcases h_26 with ⟨mr_25, er_25, hr_25, rfl⟩ | ⟨hr_25, rfl⟩
            ·
              refine lv_astore (lv' := [(5, .ref (ad 15 mr_25)), (4, .int 1), (0, .ref (g 0)), (1, .int v0), (2, .int v1), (3, .int v2)]) hx hb dX11_moves_73 hl (ltb rfl) rfl (fun ls hl => ?_)
              refine lv_aload hx hb dX11_moves_75 (lvA0 hl) ?_
              refine lv_ifnull hx hb dX11_moves_77 ?_
              refine lv_iload_n hx hb (oc_29 80 (aq_7 shX11_moves_73)) rfl (lvA5 hl) ?_
              refine lv_aload hx hb (oc_25 81 (aq_8 shX11_moves_73) ub_5) (lvA0 hl) ?_
              refine gf_RX11_508 S hK hP _ (xf_5 (by omega)) (v := .int ((Fn 182) mr_25)) rfl (oc_180 83 (aq_10 shX11_moves_73) uw_1_252) ?_
              refine lv_icmp_ge (tgt := 91) hx hb (oc_162 86 (aq_13 shX11_moves_73) sgw_0_5) rfl (fun c_27 => ?_) (fun c_27 => ?_)
              ·
                have tc_27 : (((Fn 182) mr_25).toInt : Int) ≤ v2.toInt := Int32.le_iff_toInt_le.mp c_27
                refine lv_aload_n hx hb dX11_moves_91 rfl (lvA2 hl) ?_
                refine gf_RX11_77 S hK hP 0 xo_0 (v := .ref (g 15)) rfl dX11_moves_92 ?_
                refine va_new (ci := 4) (fs := [.int 0, .int 0, .int 0]) (C := RX3) (T := TX3) (N := 3) hx hb S.2.2.2.2 hin_RX3 tyX3 tyX3_ok hown (S.2.2.2.2 _ (wk6_3 3 rfl rfl)) (S.2.2.2.2 _ (wk6_3 4 rfl rfl)) (S.2.2.2.2 _ (wk1_2 2 rfl rfl)) hK.1 hP hD hS hA rfl (by decide +kernel) (Nat.le_of_ble_eq_true rfl) (Nat.le_of_ble_eq_true rfl) dX11_moves_95 (fun q95 H hP hD hS => ?_)
                have hP : va_P D vwCl ((wX cI (D.1 99) zz g ad cn In Fn) ++ ([(q95, .inr (4, [.int 0, .int 0, .int 0]))] : va_W)) H := hP
                have hD : va_D A ((wX cI (D.1 99) zz g ad cn In Fn) ++ ([(q95, .inr (4, [.int 0, .int 0, .int 0]))] : va_W)) := hD
                refine lv_dup hx hb dX11_moves_98 rfl ?_
                refine lv_iload_n hx hb dX11_moves_99 rfl (lvA3 hl) ?_
                refine lv_iload_n hx hb dX11_moves_100 rfl (lvA4 hl) ?_
                refine lv_iload_n hx hb dX11_moves_101 rfl (lvA5 hl) ?_
                have hFc := va_free (wc := [(q95, .inr (4, [.int 0, .int 0, .int 0]))]) hD hS hA [_] (one_im (exr (m := 0) rfl))
                refine va_callv (runI_w (As := [.int v0, .int v1, .int v2]) (rest := [.ref q95, .ref (g 15)]) S (q_l_Move l D cI cB cZ q95 v0 v1 v2 H.size) kI_RX11_513 hK hP hD [_] (one_is (exr (m := 0) rfl)) (one_im (exr (m := 0) rfl)) rfl ⟨Nat.le_of_ble_eq_true rfl, Nat.le_of_ble_eq_true rfl⟩ ⟨Nat.le_of_ble_eq_true rfl, Nat.le_of_ble_eq_true rfl⟩ rfl hl.1 rfl (Nat.le_of_ble_eq_true rfl) dX11_moves_102) hS (fun q _ h => hFc q h) hFc (fun u_28 t H1 locs ht hvm h_29 hB1 hz1 hk1 hS => ?_)
                obtain ⟨hP1, hD1⟩ := hB1
                rw [ht] at hP1
                obtain ⟨hP, hD⟩ := exjoin hP hD hk1 hFc hP1 hD1
                generalize H1 = H at hP hS ⊢
                have hP : va_P D vwCl ((wX cI (D.1 99) zz g ad cn In Fn) ++ ([(q95, .inr (4, [.int v0, .int v1, .int v2]))] : va_W)) H := hP
                have hD : va_D A ((wX cI (D.1 99) zz g ad cn In Fn) ++ ([(q95, .inr (4, [.int v0, .int v1, .int v2]))] : va_W)) := hD
                rcases Nat.eq_zero_or_pos (cn 15) with hz0 | hz0
                ·
                  have hi9 : (wX cI (D.1 99) zz g ad cn In Fn)[29]? = _ := xlz_5 hz0
                  have hp2P := pick2P hP (exl hi9) (exr (m := 0) rfl)
                  have hp2D := pick2D hD (exl hi9) (exr (m := 0) rfl) (ne_ex hi9)
                  have hFc := free_all hp2D hS hA
                  refine va_calli (runV_xa (As := [.ref q95]) (rest := []) S (q_l_addZM l D cI cB cZ zz qq vv bt (g 15) q95 (In 15) v0 v1 v2 H.size) kV_RX11_110 hK hXS hS hFc hp2P hp2D 0 rfl rfl rfl ⟨Nat.le_of_ble_eq_true rfl, Nat.le_of_ble_eq_true rfl⟩ ⟨Nat.le_of_ble_eq_true rfl, Nat.le_of_ble_eq_true rfl⟩ rfl hl.1 rfl (Nat.le_of_ble_eq_true rfl) dX11_moves_105) hS (fun q _ h => hFc q h) hFc (fun r29 u29 t H1 locs ht hvm h29 hB1 hz1 hk1 hS => ?_)
                  obtain ⟨hP1, hD1⟩ := hB1
                  rw [ht] at hP1
                  obtain rfl : r29 = 1 := h29
                  obtain ⟨hP, hD⟩ := add0_join hP hD hi9 rfl hk1 hFc hP1 hD1 rfl (xu_5 (z := u29) (c := 10) (y := (In 15) + 1) (q := q95) (x0 := v0) (x1 := v1) (x2 := v2) hz0)
                  have hP : va_P D vwCl (wX cI (D.1 99) zz g (adP ad 15 (cn 15) q95 5 u29) (va_up (va_up cn 15 ((cn 15) + 1)) 25 10) (va_up In 15 ((In 15) + 1)) (va_up (va_up (va_up Fn 180 (upd (Fn 180) (cn 15) v0)) 181 (upd (Fn 181) (cn 15) v1)) 182 (upd (Fn 182) (cn 15) v2))) H1 := hP
                  have hD : va_D A (wX cI (D.1 99) zz g (adP ad 15 (cn 15) q95 5 u29) (va_up (va_up cn 15 ((cn 15) + 1)) 25 10) (va_up In 15 ((In 15) + 1)) (va_up (va_up (va_up Fn 180 (upd (Fn 180) (cn 15) v0)) 181 (upd (Fn 181) (cn 15) v1)) 182 (upd (Fn 182) (cn 15) v2))) := hD
                  generalize H1 = H at hP hS ⊢
                  refine W.widen (k := 2) (n := 103) (Nat.le_of_ble_eq_true rfl) (Nat.le_of_ble_eq_true rfl) ?_
                  refine lv_pop hx hb dX11_moves_108 rfl ?_
                  refine lv_iconst (v := 1) hx hb dX11_moves_109 kic_1 ?_
                  exact W.zret (v := 1) hx hb hr rfl (fun t ht hW => ⟨⟨1, ((adP ad 15 (cn 15) q95 5 u29), (va_up (va_up cn 15 ((cn 15) + 1)) 25 10), (va_up In 15 ((In 15) + 1)), (va_up (va_up (va_up Fn 180 (upd (Fn 180) (cn 15) v0)) 181 (upd (Fn 181) (cn 15) v1)) 182 (upd (Fn 182) (cn 15) v2))), rfl, (Or.inr ⟨rfl, q95, u29, 10, ((In 15) + 1), by omega, ⟨by omega, by omega⟩, rfl, rfl, rfl, rfl⟩), by rw [ht]; exact hP, hD⟩, hS.F ht⟩) hS.2.2 dX11_moves_110
                ·
                  have hi9 : (wX cI (D.1 99) zz g ad cn In Fn)[29]? = _ := xl_5 hz0
                  have hj9 : (wX cI (D.1 99) zz g ad cn In Fn)[_]? = _ := xf_18 (k := 0) (show 0 < min 1 (cn 15) by omega)
                  obtain ⟨ws9, hp1, hp2⟩ := pickG (W := ((wX cI (D.1 99) zz g ad cn In Fn) ++ ([(q95, .inr (4, [.int v0, .int v1, .int v2]))] : va_W))) (exl hi9) (exl hj9) (exr (m := 0) rfl) (xij (by decide)) (ne_ex hi9) (ne_ex hj9)
                  have hP9 := va_P_perm hp1 hP
                  have hD9 := va_D_perm hp1 hD
                  have hFc := free_all hD9 hS hA
                  refine va_calli (runV_xa (As := [.ref q95]) (rest := []) S (q_l_addGM l D cI cB cZ zz qq vv bt (cn 25) (g 15) (ad 2 5) (cn 15) q95 (In 15) (ad 15) v0 v1 v2 ws9 H.size (by omega) (by omega) hz0 (by omega) (fun i hi => ⟨_, g_mem (hp1.mem_iff.mp (List.mem_of_getElem? (exl (xf_5 (k := i) hi)))) (by decide)⟩)) kV_RX11_110 hK hXS hS hFc hP9 hD9 0 rfl rfl rfl ⟨Nat.le_of_ble_eq_true rfl, Nat.le_of_ble_eq_true rfl⟩ ⟨Nat.le_of_ble_eq_true rfl, Nat.le_of_ble_eq_true rfl⟩ rfl hl.1 rfl (Nat.le_of_ble_eq_true rfl) dX11_moves_105) hS (fun q _ h => hFc q h) hFc (fun r29 u29 t H1 locs ht hvm h29 hB1 hz1 hk1 hS => ?_)
                  obtain ⟨hP1, hD1⟩ := hB1
                  rw [ht] at hP1
                  obtain ⟨hr29, h29⟩ := h29
                  obtain rfl : r29 = 1 := hr29
                  obtain ⟨ua29, uc29⟩ := u29
                  have hu29 : cn 15 < uc29 ∧ uc29 ≤ 100 := h29
                  obtain ⟨hP, hD⟩ := addG_join hp2 hi9 hj9 hP1 hD1 hFc (xadd_5 (z := ua29) (c := uc29) (y := (In 15) + 1) (q := q95) (x0 := v0) (x1 := v1) (x2 := v2) hz0)
                  have hP : va_P D vwCl (wX cI (D.1 99) zz g (adP ad 15 (cn 15) q95 5 ua29) (va_up (va_up cn 15 ((cn 15) + 1)) 25 uc29) (va_up In 15 ((In 15) + 1)) (va_up (va_up (va_up Fn 180 (upd (Fn 180) (cn 15) v0)) 181 (upd (Fn 181) (cn 15) v1)) 182 (upd (Fn 182) (cn 15) v2))) H1 := hP
                  have hD : va_D A (wX cI (D.1 99) zz g (adP ad 15 (cn 15) q95 5 ua29) (va_up (va_up cn 15 ((cn 15) + 1)) 25 uc29) (va_up In 15 ((In 15) + 1)) (va_up (va_up (va_up Fn 180 (upd (Fn 180) (cn 15) v0)) 181 (upd (Fn 181) (cn 15) v1)) 182 (upd (Fn 182) (cn 15) v2))) := hD
                  generalize H1 = H at hP hS ⊢
                  refine lv_pop hx hb dX11_moves_108 rfl ?_
                  refine lv_iconst (v := 1) hx hb dX11_moves_109 kic_1 ?_
                  exact W.zret (v := 1) hx hb hr rfl (fun t ht hW => ⟨⟨1, ((adP ad 15 (cn 15) q95 5 ua29), (va_up (va_up cn 15 ((cn 15) + 1)) 25 uc29), (va_up In 15 ((In 15) + 1)), (va_up (va_up (va_up Fn 180 (upd (Fn 180) (cn 15) v0)) 181 (upd (Fn 181) (cn 15) v1)) 182 (upd (Fn 182) (cn 15) v2))), rfl, (Or.inr ⟨rfl, q95, ua29, uc29, ((In 15) + 1), by omega, ⟨by omega, by omega⟩, rfl, rfl, rfl, rfl⟩), by rw [ht]; exact hP, hD⟩, hS.F ht⟩) hS.2.2 dX11_moves_110
              ·
                have tc_27 : (v2.toInt : Int) < ((Fn 182) mr_25).toInt := Int32.lt_iff_toInt_lt.mp (Int32.not_le.mp c_27)
                refine lv_iconst (v := 0) hx hb (oc_3 89 (aq_16 shX11_moves_73)) kic_0 ?_
                refine W.widen (k := 2) (n := 103) (Nat.le_of_ble_eq_true rfl) (Nat.le_of_ble_eq_true rfl) ?_
                exact W.zret (v := 0) hx hb hr rfl (fun t ht hW => ⟨⟨0, (ad, cn, In, Fn), rfl, (Or.inl ⟨rfl, rfl, rfl, rfl, rfl⟩), by rw [ht]; exact hP, hD⟩, hS.F ht⟩) hS.2.2 (oc_172 90 (aq_17 shX11_moves_73))
            ·
              refine lv_astoreN (lv' := [(5, .null), (4, .int 1), (0, .ref (g 0)), (1, .int v0), (2, .int v1), (3, .int v2)]) hx hb dX11_moves_73 hl (ltb rfl) rfl (fun ls hl => ?_)
              refine lv_aloadN hx hb dX11_moves_75 (lvA0 hl) ?_
              refine lv_ifnullN (tgt := 91) hx hb dX11_moves_77 rfl ?_
              refine lv_aload_n hx hb dX11_moves_91 rfl (lvA2 hl) ?_
              refine gf_RX11_77 S hK hP 0 xo_0 (v := .ref (g 15)) rfl dX11_moves_92 ?_
              refine va_new (ci := 4) (fs := [.int 0, .int 0, .int 0]) (C := RX3) (T := TX3) (N := 3) hx hb S.2.2.2.2 hin_RX3 tyX3 tyX3_ok hown (S.2.2.2.2 _ (wk6_3 3 rfl rfl)) (S.2.2.2.2 _ (wk6_3 4 rfl rfl)) (S.2.2.2.2 _ (wk1_2 2 rfl rfl)) hK.1 hP hD hS hA rfl (by decide +kernel) (Nat.le_of_ble_eq_true rfl) (Nat.le_of_ble_eq_true rfl) dX11_moves_95 (fun q95 H hP hD hS => ?_)
              have hP : va_P D vwCl ((wX cI (D.1 99) zz g ad cn In Fn) ++ ([(q95, .inr (4, [.int 0, .int 0, .int 0]))] : va_W)) H := hP
              have hD : va_D A ((wX cI (D.1 99) zz g ad cn In Fn) ++ ([(q95, .inr (4, [.int 0, .int 0, .int 0]))] : va_W)) := hD
              refine lv_dup hx hb dX11_moves_98 rfl ?_
              refine lv_iload_n hx hb dX11_moves_99 rfl (lvA3 hl) ?_
              refine lv_iload_n hx hb dX11_moves_100 rfl (lvA4 hl) ?_
              refine lv_iload_n hx hb dX11_moves_101 rfl (lvA5 hl) ?_
              have hFc := va_free (wc := [(q95, .inr (4, [.int 0, .int 0, .int 0]))]) hD hS hA [_] (one_im (exr (m := 0) rfl))
              refine va_callv (runI_w (As := [.int v0, .int v1, .int v2]) (rest := [.ref q95, .ref (g 15)]) S (q_l_Move l D cI cB cZ q95 v0 v1 v2 H.size) kI_RX11_513 hK hP hD [_] (one_is (exr (m := 0) rfl)) (one_im (exr (m := 0) rfl)) rfl ⟨Nat.le_of_ble_eq_true rfl, Nat.le_of_ble_eq_true rfl⟩ ⟨Nat.le_of_ble_eq_true rfl, Nat.le_of_ble_eq_true rfl⟩ rfl hl.1 rfl (Nat.le_of_ble_eq_true rfl) dX11_moves_102) hS (fun q _ h => hFc q h) hFc (fun u_31 t H1 locs ht hvm h_32 hB1 hz1 hk1 hS => ?_)
              obtain ⟨hP1, hD1⟩ := hB1
              rw [ht] at hP1
              obtain ⟨hP, hD⟩ := exjoin hP hD hk1 hFc hP1 hD1
              generalize H1 = H at hP hS ⊢
              have hP : va_P D vwCl ((wX cI (D.1 99) zz g ad cn In Fn) ++ ([(q95, .inr (4, [.int v0, .int v1, .int v2]))] : va_W)) H := hP
              have hD : va_D A ((wX cI (D.1 99) zz g ad cn In Fn) ++ ([(q95, .inr (4, [.int v0, .int v1, .int v2]))] : va_W)) := hD
              rcases Nat.eq_zero_or_pos (cn 15) with hz0 | hz0
              ·
                have hi9 : (wX cI (D.1 99) zz g ad cn In Fn)[29]? = _ := xlz_5 hz0
                have hp2P := pick2P hP (exl hi9) (exr (m := 0) rfl)
                have hp2D := pick2D hD (exl hi9) (exr (m := 0) rfl) (ne_ex hi9)
                have hFc := free_all hp2D hS hA
                refine va_calli (runV_xa (As := [.ref q95]) (rest := []) S (q_l_addZM l D cI cB cZ zz qq vv bt (g 15) q95 (In 15) v0 v1 v2 H.size) kV_RX11_110 hK hXS hS hFc hp2P hp2D 0 rfl rfl rfl ⟨Nat.le_of_ble_eq_true rfl, Nat.le_of_ble_eq_true rfl⟩ ⟨Nat.le_of_ble_eq_true rfl, Nat.le_of_ble_eq_true rfl⟩ rfl hl.1 rfl (Nat.le_of_ble_eq_true rfl) dX11_moves_105) hS (fun q _ h => hFc q h) hFc (fun r32 u32 t H1 locs ht hvm h32 hB1 hz1 hk1 hS => ?_)
                obtain ⟨hP1, hD1⟩ := hB1
                rw [ht] at hP1
                obtain rfl : r32 = 1 := h32
                obtain ⟨hP, hD⟩ := add0_join hP hD hi9 rfl hk1 hFc hP1 hD1 rfl (xu_5 (z := u32) (c := 10) (y := (In 15) + 1) (q := q95) (x0 := v0) (x1 := v1) (x2 := v2) hz0)
                have hP : va_P D vwCl (wX cI (D.1 99) zz g (adP ad 15 (cn 15) q95 5 u32) (va_up (va_up cn 15 ((cn 15) + 1)) 25 10) (va_up In 15 ((In 15) + 1)) (va_up (va_up (va_up Fn 180 (upd (Fn 180) (cn 15) v0)) 181 (upd (Fn 181) (cn 15) v1)) 182 (upd (Fn 182) (cn 15) v2))) H1 := hP
                have hD : va_D A (wX cI (D.1 99) zz g (adP ad 15 (cn 15) q95 5 u32) (va_up (va_up cn 15 ((cn 15) + 1)) 25 10) (va_up In 15 ((In 15) + 1)) (va_up (va_up (va_up Fn 180 (upd (Fn 180) (cn 15) v0)) 181 (upd (Fn 181) (cn 15) v1)) 182 (upd (Fn 182) (cn 15) v2))) := hD
                generalize H1 = H at hP hS ⊢
                refine W.widen (k := 2) (n := 103) (Nat.le_of_ble_eq_true rfl) (Nat.le_of_ble_eq_true rfl) ?_
                refine lv_pop hx hb dX11_moves_108 rfl ?_
                refine lv_iconst (v := 1) hx hb dX11_moves_109 kic_1 ?_
                exact W.zret (v := 1) hx hb hr rfl (fun t ht hW => ⟨⟨1, ((adP ad 15 (cn 15) q95 5 u32), (va_up (va_up cn 15 ((cn 15) + 1)) 25 10), (va_up In 15 ((In 15) + 1)), (va_up (va_up (va_up Fn 180 (upd (Fn 180) (cn 15) v0)) 181 (upd (Fn 181) (cn 15) v1)) 182 (upd (Fn 182) (cn 15) v2))), rfl, (Or.inr ⟨rfl, q95, u32, 10, ((In 15) + 1), by omega, ⟨by omega, by omega⟩, rfl, rfl, rfl, rfl⟩), by rw [ht]; exact hP, hD⟩, hS.F ht⟩) hS.2.2 dX11_moves_110
              ·
                have hi9 : (wX cI (D.1 99) zz g ad cn In Fn)[29]? = _ := xl_5 hz0
                have hj9 : (wX cI (D.1 99) zz g ad cn In Fn)[_]? = _ := xf_18 (k := 0) (show 0 < min 1 (cn 15) by omega)
                obtain ⟨ws9, hp1, hp2⟩ := pickG (W := ((wX cI (D.1 99) zz g ad cn In Fn) ++ ([(q95, .inr (4, [.int v0, .int v1, .int v2]))] : va_W))) (exl hi9) (exl hj9) (exr (m := 0) rfl) (xij (by decide)) (ne_ex hi9) (ne_ex hj9)
                have hP9 := va_P_perm hp1 hP
                have hD9 := va_D_perm hp1 hD
                have hFc := free_all hD9 hS hA
                refine va_calli (runV_xa (As := [.ref q95]) (rest := []) S (q_l_addGM l D cI cB cZ zz qq vv bt (cn 25) (g 15) (ad 2 5) (cn 15) q95 (In 15) (ad 15) v0 v1 v2 ws9 H.size (by omega) (by omega) hz0 (by omega) (fun i hi => ⟨_, g_mem (hp1.mem_iff.mp (List.mem_of_getElem? (exl (xf_5 (k := i) hi)))) (by decide)⟩)) kV_RX11_110 hK hXS hS hFc hP9 hD9 0 rfl rfl rfl ⟨Nat.le_of_ble_eq_true rfl, Nat.le_of_ble_eq_true rfl⟩ ⟨Nat.le_of_ble_eq_true rfl, Nat.le_of_ble_eq_true rfl⟩ rfl hl.1 rfl (Nat.le_of_ble_eq_true rfl) dX11_moves_105) hS (fun q _ h => hFc q h) hFc (fun r32 u32 t H1 locs ht hvm h32 hB1 hz1 hk1 hS => ?_)
                obtain ⟨hP1, hD1⟩ := hB1
                rw [ht] at hP1
                obtain ⟨hr32, h32⟩ := h32
                obtain rfl : r32 = 1 := hr32
                obtain ⟨ua32, uc32⟩ := u32
                have hu32 : cn 15 < uc32 ∧ uc32 ≤ 100 := h32
                obtain ⟨hP, hD⟩ := addG_join hp2 hi9 hj9 hP1 hD1 hFc (xadd_5 (z := ua32) (c := uc32) (y := (In 15) + 1) (q := q95) (x0 := v0) (x1 := v1) (x2 := v2) hz0)
                have hP : va_P D vwCl (wX cI (D.1 99) zz g (adP ad 15 (cn 15) q95 5 ua32) (va_up (va_up cn 15 ((cn 15) + 1)) 25 uc32) (va_up In 15 ((In 15) + 1)) (va_up (va_up (va_up Fn 180 (upd (Fn 180) (cn 15) v0)) 181 (upd (Fn 181) (cn 15) v1)) 182 (upd (Fn 182) (cn 15) v2))) H1 := hP
                have hD : va_D A (wX cI (D.1 99) zz g (adP ad 15 (cn 15) q95 5 ua32) (va_up (va_up cn 15 ((cn 15) + 1)) 25 uc32) (va_up In 15 ((In 15) + 1)) (va_up (va_up (va_up Fn 180 (upd (Fn 180) (cn 15) v0)) 181 (upd (Fn 181) (cn 15) v1)) 182 (upd (Fn 182) (cn 15) v2))) := hD
                generalize H1 = H at hP hS ⊢
                refine lv_pop hx hb dX11_moves_108 rfl ?_
                refine lv_iconst (v := 1) hx hb dX11_moves_109 kic_1 ?_
                exact W.zret (v := 1) hx hb hr rfl (fun t ht hW => ⟨⟨1, ((adP ad 15 (cn 15) q95 5 ua32), (va_up (va_up cn 15 ((cn 15) + 1)) 25 uc32), (va_up In 15 ((In 15) + 1)), (va_up (va_up (va_up Fn 180 (upd (Fn 180) (cn 15) v0)) 181 (upd (Fn 181) (cn 15) v1)) 182 (upd (Fn 182) (cn 15) v2))), rfl, (Or.inr ⟨rfl, q95, ua32, uc32, ((In 15) + 1), by omega, ⟨by omega, by omega⟩, rfl, rfl, rfl, rfl⟩), by rw [ht]; exact hP, hD⟩, hS.F ht⟩) hS.2.2 dX11_moves_110
          ·
            have tc_24 : (60 : Int) ≤ (nI (cn 15)).toInt := Int32.le_iff_toInt_le.mp (Int32.not_lt.mp c_24)
            refine lv_iconst (v := 0) hx hb dX11_moves_63 kic_0 ?_
            refine W.widen (k := 2) (n := 103) (Nat.le_of_ble_eq_true rfl) (Nat.le_of_ble_eq_true rfl) ?_
            exact W.zret (v := 0) hx hb hr rfl (fun t ht hW => ⟨⟨0, (ad, cn, In, Fn), rfl, (Or.inl ⟨rfl, rfl, rfl, rfl, rfl⟩), by rw [ht]; exact hP, hD⟩, hS.F ht⟩) hS.2.2 dX11_moves_64
        ·
          have h_21 : ¬ (0 ≤ v2.toInt ∧ v2.toInt ≤ (nI (cn 0)).toInt) := h_21
          refine lv_if_eq (tgt := 63) hx hb dX11_moves_48 rfl (fun _ => ?_) (fun h => absurd h cq_eq_0_0)
          refine lv_iconst (v := 0) hx hb dX11_moves_63 kic_0 ?_
          refine W.widen (k := 2) (n := 103) (Nat.le_of_ble_eq_true rfl) (Nat.le_of_ble_eq_true rfl) ?_
          exact W.zret (v := 0) hx hb hr rfl (fun t ht hW => ⟨⟨0, (ad, cn, In, Fn), rfl, (Or.inl ⟨rfl, rfl, rfl, rfl, rfl⟩), by rw [ht]; exact hP, hD⟩, hS.F ht⟩) hS.2.2 dX11_moves_64
      ·
        refine lv_ifnullN (tgt := 31) hx hb (oc_198 24 shX11_moves_24 sgw_0_7) rfl ?_
        refine lv_iconst (v := 0) hx hb (oc_3 31 (aq_7 shX11_moves_24)) kic_0 ?_
        refine lv_istore (lv' := [(4, .int 0), (0, .ref (g 0)), (1, .int v0), (2, .int v1), (3, .int v2)]) hx hb dX11_moves_32 hl (ltb rfl) rfl (fun ls hl => ?_)
        refine lv_iload hx hb dX11_moves_34 (lvA0 hl) ?_
        refine lv_if_eq (tgt := 63) hx hb dX11_moves_36 rfl (fun _ => ?_) (fun h => absurd h cq_eq_0_0)
        refine lv_iconst (v := 0) hx hb dX11_moves_63 kic_0 ?_
        refine W.widen (k := 2) (n := 103) (Nat.le_of_ble_eq_true rfl) (Nat.le_of_ble_eq_true rfl) ?_
        exact W.zret (v := 0) hx hb hr rfl (fun t ht hW => ⟨⟨0, (ad, cn, In, Fn), rfl, (Or.inl ⟨rfl, rfl, rfl, rfl, rfl⟩), by rw [ht]; exact hP, hD⟩, hS.F ht⟩) hS.2.2 dX11_moves_64
  ·
    have h_2 : ¬ (0 ≤ v0.toInt ∧ v0.toInt ≤ ((nI (cn 2)) - 1).toInt) := h_2
    refine lv_if_eq (tgt := 31) hx hb (oc_153 11 (aq_11 shX11_moves_0) sgw_0_20) rfl (fun _ => ?_) (fun h => absurd h cq_eq_0_0)
    refine lv_iconst (v := 0) hx hb (oc_3 31 (aq_7 shX11_moves_24)) kic_0 ?_
    refine lv_istore (lv' := [(4, .int 0), (0, .ref (g 0)), (1, .int v0), (2, .int v1), (3, .int v2)]) hx hb dX11_moves_32 hl (ltb rfl) rfl (fun ls hl => ?_)
    refine lv_iload hx hb dX11_moves_34 (lvA0 hl) ?_
    refine lv_if_eq (tgt := 63) hx hb dX11_moves_36 rfl (fun _ => ?_) (fun h => absurd h cq_eq_0_0)
    refine lv_iconst (v := 0) hx hb dX11_moves_63 kic_0 ?_
    refine W.widen (k := 2) (n := 103) (Nat.le_of_ble_eq_true rfl) (Nat.le_of_ble_eq_true rfl) ?_
    exact W.zret (v := 0) hx hb hr rfl (fun t ht hW => ⟨⟨0, (ad, cn, In, Fn), rfl, (Or.inl ⟨rfl, rfl, rfl, rfl, rfl⟩), by rw [ht]; exact hP, hD⟩, hS.F ht⟩) hS.2.2 dX11_moves_64
set_option maxRecDepth 100000 in
set_option maxHeartbeats 4000000 in
theorem q_Xproof (l : Launch) (D : va_G) (cI cB cZ : ClassId) (zz qq vv : Nat) (bt : Nat → Int32) (g : Nat → Nat) (ad : Nat → Nat → Nat) (cn : Nat → Nat) (In : Nat → Int32) (Fn : Nat → Nat → Int32) (v0 v1 v2 v3 : Int32) (sz : Nat) (hB : CBX cn) : Met l yX11_proof (CWS yX11_proof cX11_proof 6 (some .int)) (RM 8 2 105) (PBx [.ref (g 0), .int v0, .int v1, .int v2, .int v3] D cI cB cZ zz qq vv bt (wX cI (D.1 99) zz g ad cn In Fn) sz) (va_Qi (fun (r : Int32) (u : (Nat → Nat → Nat) × (Nat → Nat) × (Nat → Int32) × (Nat → Nat → Int32)) => (fun r a2 c2 I2 F2 => (r = (-1) ∧ ad = a2 ∧ cn = c2 ∧ In = I2 ∧ Fn = F2) ∨ (r = nI (cn 13) ∧ ∃ (q z c : Nat) (y : Int32) (m : Nat), (v0.toInt = (m : Int) ∧ m < cn 12 ∧ 0 ≤ v1.toInt ∧ v1.toInt < v2.toInt ∧ v2.toInt ≤ (Fn 146 m).toInt ∧ 0 ≤ v3.toInt ∧ v3.toInt ≤ 9 ∧ cn 13 < 40) ∧ (cn 13 < c ∧ c ≤ 100) ∧ (adP ad 13 (cn 13) q 3 z) = a2 ∧ (va_up (va_up cn 13 ((cn 13) + 1)) 23 c) = c2 ∧ (va_up In 13 y) = I2 ∧ (va_up (va_up (va_up (va_up (va_up Fn 160 (upd (Fn 160) (cn 13) v0)) 161 (upd (Fn 161) (cn 13) v1)) 162 (upd (Fn 162) (cn 13) v2)) 163 (upd (Fn 163) (cn 13) v3)) 164 (upd (Fn 164) (cn 13) (nI (cn 0)))) = F2)) r u.1 u.2.1 u.2.2.1 u.2.2.2) (fun (u : (Nat → Nat → Nat) × (Nat → Nat) × (Nat → Int32) × (Nat → Nat → Int32)) (t : State) => va_P D vwCl (wX cI (D.1 99) zz g u.1 u.2.1 u.2.2.1 u.2.2.2) t.heap ∧ va_D (va_A (wX cI (D.1 99) zz g ad cn In Fn) sz) (wX cI (D.1 99) zz g u.1 u.2.1 u.2.2.1 u.2.2.2)) (va_A (wX cI (D.1 99) zz g ad cn In Fn) sz)) 2 105 (va_A (wX cI (D.1 99) zz g ad cn In Fn) sz) := by
  refine en_x (fun A => (va_Qi (fun (r : Int32) (u : (Nat → Nat → Nat) × (Nat → Nat) × (Nat → Int32) × (Nat → Nat → Int32)) => (fun (r : Int32) (a2 : Nat → Nat → Nat) (c2 : Nat → Nat) (I2 : Nat → Int32) (F2 : Nat → Nat → Int32) => (r = (-1) ∧ ad = a2 ∧ cn = c2 ∧ In = I2 ∧ Fn = F2) ∨ (r = nI (cn 13) ∧ ∃ (q z c : Nat) (y : Int32) (m : Nat), (v0.toInt = (m : Int) ∧ m < cn 12 ∧ 0 ≤ v1.toInt ∧ v1.toInt < v2.toInt ∧ v2.toInt ≤ (Fn 146 m).toInt ∧ 0 ≤ v3.toInt ∧ v3.toInt ≤ 9 ∧ cn 13 < 40) ∧ (cn 13 < c ∧ c ≤ 100) ∧ (adP ad 13 (cn 13) q 3 z) = a2 ∧ (va_up (va_up cn 13 ((cn 13) + 1)) 23 c) = c2 ∧ (va_up In 13 y) = I2 ∧ (va_up (va_up (va_up (va_up (va_up Fn 160 (upd (Fn 160) (cn 13) v0)) 161 (upd (Fn 161) (cn 13) v1)) 162 (upd (Fn 162) (cn 13) v2)) 163 (upd (Fn 163) (cn 13) v3)) 164 (upd (Fn 164) (cn 13) (nI (cn 0)))) = F2)) r u.1 u.2.1 u.2.2.1 u.2.2.2) (fun (u : (Nat → Nat → Nat) × (Nat → Nat) × (Nat → Int32) × (Nat → Nat → Int32)) (t : State) => va_P D vwCl (wX cI (D.1 99) zz g u.1 u.2.1 u.2.2.1 u.2.2.2) t.heap ∧ va_D A (wX cI (D.1 99) zz g u.1 u.2.1 u.2.2.1 u.2.2.2)) A)) rfl rfl pn_RX11 (Nat.le_of_ble_eq_true rfl) (fun p e s m below meth c A hx hb hml hown S hr hlocks hnm hA hP hK hD hXS hS ls hl => ?_)
  have hl : lv_has ls 6 [(0, .ref (g 0)), (1, .int v0), (2, .int v1), (3, .int v2), (4, .int v3)] := hl
  refine lv_aload_n hx hb (oc_42 0 shX11_proof_0) rfl (lvA0 hl) ?_
  refine lv_iload_n hx hb (oc_27 1 (aq_1 shX11_proof_0)) rfl (lvA1 hl) ?_
  refine va_csq (runV_rxa (As := [.int v0]) (rest := []) S (q_XbatchAt l D cI cB cZ zz qq vv bt g ad cn In Fn v0 hB) kV_RX11_382 hK hXS hS hP 0 xo_0 rfl rfl ⟨Nat.le_of_ble_eq_true rfl, Nat.le_of_ble_eq_true rfl⟩ ⟨Nat.le_of_ble_eq_true rfl, Nat.le_of_ble_eq_true rfl⟩ rfl hl.1 rfl (Nat.le_of_ble_eq_true rfl) (oc_182 2 (aq_2 shX11_proof_0) uw_1_126)) (fun r_1 h_2 => ?_)
  rcases h_2 with ⟨mr_1, er_1, hr_1, rfl⟩ | ⟨hr_1, rfl⟩
  ·
    refine lv_astore (lv' := [(5, .ref (ad 12 mr_1)), (0, .ref (g 0)), (1, .int v0), (2, .int v1), (3, .int v2), (4, .int v3)]) hx hb (oc_58 5 (aq_5 shX11_proof_0) ub_5) hl (ltb rfl) rfl (fun ls hl => ?_)
    refine lv_aload hx hb (oc_25 7 (aq_7 shX11_proof_0) ub_5) (lvA0 hl) ?_
    refine lv_ifnull hx hb (oc_198 9 (aq_9 shX11_proof_0) sgw_0_44) ?_
    refine lv_iload_n hx hb (oc_28 12 (aq_12 shX11_proof_0)) rfl (lvA3 hl) ?_
    refine lv_if_lt (tgt := 53) hx hb (oc_155 13 (aq_13 shX11_proof_0) sgw_0_40) rfl (fun c_3 => ?_) (fun c_3 => ?_)
    ·
      have tc_3 : (v1.toInt : Int) < 0 := Int32.lt_iff_toInt_lt.mp c_3
      refine lv_iconst (v := (-1)) hx hb dX11_proof_53 kic_m1 ?_
      refine W.widen (k := 2) (n := 105) (Nat.le_of_ble_eq_true rfl) (Nat.le_of_ble_eq_true rfl) ?_
      exact W.iret (v := (-1)) hx hb hr (fun t ht hW => ⟨⟨(-1), (ad, cn, In, Fn), rfl, (Or.inl ⟨rfl, rfl, rfl, rfl, rfl⟩), by rw [ht]; exact hP, hD⟩, hS.F ht⟩) hS.2.2 dX11_proof_54
    ·
      have tc_3 : (0 : Int) ≤ v1.toInt := Int32.le_iff_toInt_le.mp (Int32.not_lt.mp c_3)
      refine lv_iload_n hx hb (oc_28 16 (aq_16 shX11_proof_0)) rfl (lvA3 hl) ?_
      refine lv_iload_n hx hb (oc_29 17 (aq_17 shX11_proof_0)) rfl (lvA4 hl) ?_
      refine lv_icmp_ge (tgt := 53) hx hb (oc_162 18 (aq_18 shX11_proof_0) sgw_0_35) rfl (fun c_4 => ?_) (fun c_4 => ?_)
      ·
        have tc_4 : (v2.toInt : Int) ≤ v1.toInt := Int32.le_iff_toInt_le.mp c_4
        refine lv_iconst (v := (-1)) hx hb dX11_proof_53 kic_m1 ?_
        refine W.widen (k := 2) (n := 105) (Nat.le_of_ble_eq_true rfl) (Nat.le_of_ble_eq_true rfl) ?_
        exact W.iret (v := (-1)) hx hb hr (fun t ht hW => ⟨⟨(-1), (ad, cn, In, Fn), rfl, (Or.inl ⟨rfl, rfl, rfl, rfl, rfl⟩), by rw [ht]; exact hP, hD⟩, hS.F ht⟩) hS.2.2 dX11_proof_54
      ·
        have tc_4 : (v1.toInt : Int) < v2.toInt := Int32.lt_iff_toInt_lt.mp (Int32.not_le.mp c_4)
        refine lv_iload_n hx hb (oc_29 21 (aq_21 shX11_proof_0)) rfl (lvA4 hl) ?_
        refine lv_aload hx hb (oc_25 22 (aq_22 shX11_proof_0) ub_5) (lvA0 hl) ?_
        refine gf_RX11_342 S hK hP _ (xf_2 (by omega)) (v := .int ((Fn 146) mr_1)) rfl (oc_180 24 shX11_proof_24 uw_1_86) ?_
        refine lv_icmp_gt (tgt := 53) hx hb (oc_163 27 (aq_3 shX11_proof_24) sgw_0_26) rfl (fun c_5 => ?_) (fun c_5 => ?_)
        ·
          have tc_5 : (((Fn 146) mr_1).toInt : Int) < v2.toInt := Int32.lt_iff_toInt_lt.mp c_5
          refine lv_iconst (v := (-1)) hx hb dX11_proof_53 kic_m1 ?_
          refine W.widen (k := 2) (n := 105) (Nat.le_of_ble_eq_true rfl) (Nat.le_of_ble_eq_true rfl) ?_
          exact W.iret (v := (-1)) hx hb hr (fun t ht hW => ⟨⟨(-1), (ad, cn, In, Fn), rfl, (Or.inl ⟨rfl, rfl, rfl, rfl, rfl⟩), by rw [ht]; exact hP, hD⟩, hS.F ht⟩) hS.2.2 dX11_proof_54
        ·
          have tc_5 : (v2.toInt : Int) ≤ ((Fn 146) mr_1).toInt := Int32.le_iff_toInt_le.mp (Int32.not_lt.mp c_5)
          refine lv_iload hx hb (oc_21 30 (aq_6 shX11_proof_24) ub_4) (lvA5 hl) ?_
          refine lv_iconst (v := 0) hx hb (oc_3 32 (aq_8 shX11_proof_24)) kic_0 ?_
          refine lv_bipush (v := 9) hx hb (oc_16 33 (aq_9 shX11_proof_24) sgb_9) kbc_9 ?_
          refine vp_callSi (runS_r (As := [.int v3, .int 0, .int 9]) (rest := []) S (q_l_within l D cI cB cZ v3 0 9) kS_RX11_80 hK hP [] rfl ⟨Nat.le_of_ble_eq_true rfl, Nat.le_of_ble_eq_true rfl⟩ ⟨Nat.le_of_ble_eq_true rfl, Nat.le_of_ble_eq_true rfl⟩ rfl hl.1 rfl (Nat.le_of_ble_eq_true rfl) (oc_184 35 (aq_11 shX11_proof_24) uw_0_80)) (fun r_6 h_7 => ?_)
          rcases h_7 with ⟨rfl, h_7⟩ | ⟨rfl, h_7⟩
          ·
            have h_7 : 0 ≤ v3.toInt ∧ v3.toInt ≤ 9 := h_7
            refine lv_if_eq (tgt := 53) hx hb (oc_153 38 (aq_14 shX11_proof_24) sgw_0_15) rfl (fun h => absurd h cq_eq_1_0) (fun _ => ?_)
            refine lv_aload_n hx hb (oc_42 41 (aq_17 shX11_proof_24)) rfl (lvA1 hl) ?_
            refine gf_RX11_71 S hK hP 0 xo_0 (v := .ref (g 13)) rfl (oc_180 42 (aq_18 shX11_proof_24) uw_0_71) ?_
            refine vp_callSi (runV_r (As := []) (rest := []) S (q_l_size l D cI cB cZ (g 13) (if (cn 13) = 0 then zz else ad 2 3) (In 13) (nI (cn 13))) kV_RX11_84 hK hP [27] (one_is xo_27) 27 xo_27 rfl rfl ⟨Nat.le_of_ble_eq_true rfl, Nat.le_of_ble_eq_true rfl⟩ ⟨Nat.le_of_ble_eq_true rfl, Nat.le_of_ble_eq_true rfl⟩ rfl hl.1 rfl (Nat.le_of_ble_eq_true rfl) (oc_182 45 (aq_21 shX11_proof_24) uw_0_84)) (fun r_8 h_9 => ?_)
            subst h_9
            refine lv_bipush (v := 40) hx hb (oc_16 48 shX11_proof_48 sgb_40) kbc_40 ?_
            have : (nI (cn 13)).toInt = (((cn 13) : Nat) : Int) := nI_toInt (by omega)
            refine lv_icmp_lt (tgt := 55) hx hb (oc_161 50 (aq_2 shX11_proof_48) sgw_0_5) rfl (fun c_10 => ?_) (fun c_10 => ?_)
            ·
              have tc_10 : ((nI (cn 13)).toInt : Int) < 40 := Int32.lt_iff_toInt_lt.mp c_10
              refine lv_aload_n hx hb (oc_42 55 (aq_7 shX11_proof_48)) rfl (lvA1 hl) ?_
              refine gf_RX11_71 S hK hP 0 xo_0 (v := .ref (g 13)) rfl (oc_180 56 (aq_8 shX11_proof_48) uw_0_71) ?_
              refine va_new (ci := 5) (fs := [.int 0, .int 0, .int 0, .int 0, .int 0]) (C := RX4) (T := TX4) (N := 5) hx hb S.2.2.2.2 hin_RX4 tyX4 tyX4_ok hown (S.2.2.2.2 _ (wk5_4 7 rfl rfl)) (S.2.2.2.2 _ (wk5_6 0 rfl rfl)) (S.2.2.2.2 _ (wk1_2 0 rfl rfl)) hK.1 hP hD hS hA rfl (by decide +kernel) (Nat.le_of_ble_eq_true rfl) (Nat.le_of_ble_eq_true rfl) (oc_187 59 (aq_11 shX11_proof_48) uw_0_97) (fun q59 H hP hD hS => ?_)
              have hP : va_P D vwCl ((wX cI (D.1 99) zz g ad cn In Fn) ++ ([(q59, .inr (5, [.int 0, .int 0, .int 0, .int 0, .int 0]))] : va_W)) H := hP
              have hD : va_D A ((wX cI (D.1 99) zz g ad cn In Fn) ++ ([(q59, .inr (5, [.int 0, .int 0, .int 0, .int 0, .int 0]))] : va_W)) := hD
              refine lv_dup hx hb (oc_89 62 (aq_14 shX11_proof_48)) rfl ?_
              refine lv_iload_n hx hb (oc_27 63 (aq_15 shX11_proof_48)) rfl (lvA2 hl) ?_
              refine lv_iload_n hx hb (oc_28 64 (aq_16 shX11_proof_48)) rfl (lvA3 hl) ?_
              refine lv_iload_n hx hb (oc_29 65 (aq_17 shX11_proof_48)) rfl (lvA4 hl) ?_
              refine lv_iload hx hb (oc_21 66 (aq_18 shX11_proof_48) ub_4) (lvA5 hl) ?_
              refine lv_aload_n hx hb (oc_42 68 (aq_20 shX11_proof_48)) rfl (lvA1 hl) ?_
              refine gf_RX11_103 S hK hP _ (exl xo_0) (v := .int (nI (cn 0))) rfl (oc_180 69 (aq_21 shX11_proof_48) uw_0_103) ?_
              have hFc := va_free (wc := [(q59, .inr (5, [.int 0, .int 0, .int 0, .int 0, .int 0]))]) hD hS hA [_] (one_im (exr (m := 0) rfl))
              refine va_callv (runI_w (As := [.int v0, .int v1, .int v2, .int v3, .int (nI (cn 0))]) (rest := [.ref q59, .ref (g 13)]) S (q_l_Proof l D cI cB cZ q59 v0 v1 v2 v3 (nI (cn 0)) H.size) kI_RX11_399 hK hP hD [_] (one_is (exr (m := 0) rfl)) (one_im (exr (m := 0) rfl)) rfl ⟨Nat.le_of_ble_eq_true rfl, Nat.le_of_ble_eq_true rfl⟩ ⟨Nat.le_of_ble_eq_true rfl, Nat.le_of_ble_eq_true rfl⟩ rfl hl.1 rfl (Nat.le_of_ble_eq_true rfl) (oc_183 72 shX11_proof_72 uw_1_143)) hS (fun q _ h => hFc q h) hFc (fun u_11 t H1 locs ht hvm h_12 hB1 hz1 hk1 hS => ?_)
              obtain ⟨hP1, hD1⟩ := hB1
              rw [ht] at hP1
              obtain ⟨hP, hD⟩ := exjoin hP hD hk1 hFc hP1 hD1
              generalize H1 = H at hP hS ⊢
              have hP : va_P D vwCl ((wX cI (D.1 99) zz g ad cn In Fn) ++ ([(q59, .inr (5, [.int v0, .int v1, .int v2, .int v3, .int (nI (cn 0))]))] : va_W)) H := hP
              have hD : va_D A ((wX cI (D.1 99) zz g ad cn In Fn) ++ ([(q59, .inr (5, [.int v0, .int v1, .int v2, .int v3, .int (nI (cn 0))]))] : va_W)) := hD
              rcases Nat.eq_zero_or_pos (cn 13) with hz0 | hz0
              ·
                have hi9 : (wX cI (D.1 99) zz g ad cn In Fn)[27]? = _ := xlz_3 hz0
                have hp2P := pick2P hP (exl hi9) (exr (m := 0) rfl)
                have hp2D := pick2D hD (exl hi9) (exr (m := 0) rfl) (ne_ex hi9)
                have hFc := free_all hp2D hS hA
                refine va_calli (runV_xa (As := [.ref q59]) (rest := []) S (q_l_addZP l D cI cB cZ zz qq vv bt (g 13) q59 (In 13) v0 v1 v2 v3 (nI (cn 0)) H.size) kV_RX11_110 hK hXS hS hFc hp2P hp2D 0 rfl rfl rfl ⟨Nat.le_of_ble_eq_true rfl, Nat.le_of_ble_eq_true rfl⟩ ⟨Nat.le_of_ble_eq_true rfl, Nat.le_of_ble_eq_true rfl⟩ rfl hl.1 rfl (Nat.le_of_ble_eq_true rfl) (oc_182 75 (aq_3 shX11_proof_72) uw_0_110)) hS (fun q _ h => hFc q h) hFc (fun r12 u12 t H1 locs ht hvm h12 hB1 hz1 hk1 hS => ?_)
                obtain ⟨hP1, hD1⟩ := hB1
                rw [ht] at hP1
                obtain rfl : r12 = 1 := h12
                obtain ⟨hP, hD⟩ := add0_join hP hD hi9 rfl hk1 hFc hP1 hD1 rfl (xu_3 (z := u12) (c := 10) (y := (In 13) + 1) (q := q59) (x0 := v0) (x1 := v1) (x2 := v2) (x3 := v3) (x4 := (nI (cn 0))) hz0)
                have hP : va_P D vwCl (wX cI (D.1 99) zz g (adP ad 13 (cn 13) q59 3 u12) (va_up (va_up cn 13 ((cn 13) + 1)) 23 10) (va_up In 13 ((In 13) + 1)) (va_up (va_up (va_up (va_up (va_up Fn 160 (upd (Fn 160) (cn 13) v0)) 161 (upd (Fn 161) (cn 13) v1)) 162 (upd (Fn 162) (cn 13) v2)) 163 (upd (Fn 163) (cn 13) v3)) 164 (upd (Fn 164) (cn 13) (nI (cn 0))))) H1 := hP
                have hD : va_D A (wX cI (D.1 99) zz g (adP ad 13 (cn 13) q59 3 u12) (va_up (va_up cn 13 ((cn 13) + 1)) 23 10) (va_up In 13 ((In 13) + 1)) (va_up (va_up (va_up (va_up (va_up Fn 160 (upd (Fn 160) (cn 13) v0)) 161 (upd (Fn 161) (cn 13) v1)) 162 (upd (Fn 162) (cn 13) v2)) 163 (upd (Fn 163) (cn 13) v3)) 164 (upd (Fn 164) (cn 13) (nI (cn 0))))) := hD
                generalize H1 = H at hP hS ⊢
                refine W.widen (k := 2) (n := 105) (Nat.le_of_ble_eq_true rfl) (Nat.le_of_ble_eq_true rfl) ?_
                refine lv_pop hx hb (oc_87 78 (aq_6 shX11_proof_72)) rfl ?_
                refine lv_aload_n hx hb (oc_42 79 (aq_7 shX11_proof_72)) rfl (lvA1 hl) ?_
                refine gf_RX11_71 S hK hP 0 xo_0 (v := .ref (g 13)) rfl (oc_180 80 (aq_8 shX11_proof_72) uw_0_71) ?_
                refine vp_callSi (runV_r (As := []) (rest := []) S (q_l_size l D cI cB cZ (g 13) (if ((cn 13) + 1) = 0 then zz else (adP ad 13 (cn 13) q59 3 u12) 2 3) ((In 13) + 1) (nI ((cn 13) + 1))) kV_RX11_84 hK hP [27] (one_is xo_27) 27 xo_27 rfl rfl ⟨Nat.le_of_ble_eq_true rfl, Nat.le_of_ble_eq_true rfl⟩ ⟨Nat.le_of_ble_eq_true rfl, Nat.le_of_ble_eq_true rfl⟩ rfl hl.1 rfl (Nat.le_of_ble_eq_true rfl) (oc_182 83 (aq_11 shX11_proof_72) uw_0_84)) (fun r_14 h_15 => ?_)
                subst h_15
                refine lv_iconst (v := 1) hx hb (oc_4 86 (aq_14 shX11_proof_72)) kic_1 ?_
                refine lv_isub hx hb (oc_100 87 (aq_15 shX11_proof_72)) ?_
                refine lv_topi (fun y_16 ey_16 => ?_)
                obtain rfl : y_16 = (nI (cn 13)) := ey_16.trans (nI_sub (b := 1) (by omega))
                exact W.iret (v := (nI (cn 13))) hx hb hr (fun t ht hW => ⟨⟨(nI (cn 13)), ((adP ad 13 (cn 13) q59 3 u12), (va_up (va_up cn 13 ((cn 13) + 1)) 23 10), (va_up In 13 ((In 13) + 1)), (va_up (va_up (va_up (va_up (va_up Fn 160 (upd (Fn 160) (cn 13) v0)) 161 (upd (Fn 161) (cn 13) v1)) 162 (upd (Fn 162) (cn 13) v2)) 163 (upd (Fn 163) (cn 13) v3)) 164 (upd (Fn 164) (cn 13) (nI (cn 0))))), rfl, (Or.inr ⟨rfl, q59, u12, 10, ((In 13) + 1), mr_1, by omega, ⟨by omega, by omega⟩, rfl, rfl, rfl, rfl⟩), by rw [ht]; exact hP, hD⟩, hS.F ht⟩) hS.2.2 (oc_172 88 (aq_16 shX11_proof_72))
              ·
                have hi9 : (wX cI (D.1 99) zz g ad cn In Fn)[27]? = _ := xl_3 hz0
                have hj9 : (wX cI (D.1 99) zz g ad cn In Fn)[_]? = _ := xf_16 (k := 0) (show 0 < min 1 (cn 13) by omega)
                obtain ⟨ws9, hp1, hp2⟩ := pickG (W := ((wX cI (D.1 99) zz g ad cn In Fn) ++ ([(q59, .inr (5, [.int v0, .int v1, .int v2, .int v3, .int (nI (cn 0))]))] : va_W))) (exl hi9) (exl hj9) (exr (m := 0) rfl) (xij (by decide)) (ne_ex hi9) (ne_ex hj9)
                have hP9 := va_P_perm hp1 hP
                have hD9 := va_D_perm hp1 hD
                have hFc := free_all hD9 hS hA
                refine va_calli (runV_xa (As := [.ref q59]) (rest := []) S (q_l_addGP l D cI cB cZ zz qq vv bt (cn 23) (g 13) (ad 2 3) (cn 13) q59 (In 13) (ad 13) v0 v1 v2 v3 (nI (cn 0)) ws9 H.size (by omega) (by omega) hz0 (by omega) (fun i hi => ⟨_, g_mem (hp1.mem_iff.mp (List.mem_of_getElem? (exl (xf_3 (k := i) hi)))) (by decide)⟩)) kV_RX11_110 hK hXS hS hFc hP9 hD9 0 rfl rfl rfl ⟨Nat.le_of_ble_eq_true rfl, Nat.le_of_ble_eq_true rfl⟩ ⟨Nat.le_of_ble_eq_true rfl, Nat.le_of_ble_eq_true rfl⟩ rfl hl.1 rfl (Nat.le_of_ble_eq_true rfl) (oc_182 75 (aq_3 shX11_proof_72) uw_0_110)) hS (fun q _ h => hFc q h) hFc (fun r12 u12 t H1 locs ht hvm h12 hB1 hz1 hk1 hS => ?_)
                obtain ⟨hP1, hD1⟩ := hB1
                rw [ht] at hP1
                obtain ⟨hr12, h12⟩ := h12
                obtain rfl : r12 = 1 := hr12
                obtain ⟨ua12, uc12⟩ := u12
                have hu12 : cn 13 < uc12 ∧ uc12 ≤ 100 := h12
                obtain ⟨hP, hD⟩ := addG_join hp2 hi9 hj9 hP1 hD1 hFc (xadd_3 (z := ua12) (c := uc12) (y := (In 13) + 1) (q := q59) (x0 := v0) (x1 := v1) (x2 := v2) (x3 := v3) (x4 := (nI (cn 0))) hz0)
                have hP : va_P D vwCl (wX cI (D.1 99) zz g (adP ad 13 (cn 13) q59 3 ua12) (va_up (va_up cn 13 ((cn 13) + 1)) 23 uc12) (va_up In 13 ((In 13) + 1)) (va_up (va_up (va_up (va_up (va_up Fn 160 (upd (Fn 160) (cn 13) v0)) 161 (upd (Fn 161) (cn 13) v1)) 162 (upd (Fn 162) (cn 13) v2)) 163 (upd (Fn 163) (cn 13) v3)) 164 (upd (Fn 164) (cn 13) (nI (cn 0))))) H1 := hP
                have hD : va_D A (wX cI (D.1 99) zz g (adP ad 13 (cn 13) q59 3 ua12) (va_up (va_up cn 13 ((cn 13) + 1)) 23 uc12) (va_up In 13 ((In 13) + 1)) (va_up (va_up (va_up (va_up (va_up Fn 160 (upd (Fn 160) (cn 13) v0)) 161 (upd (Fn 161) (cn 13) v1)) 162 (upd (Fn 162) (cn 13) v2)) 163 (upd (Fn 163) (cn 13) v3)) 164 (upd (Fn 164) (cn 13) (nI (cn 0))))) := hD
                generalize H1 = H at hP hS ⊢
                refine lv_pop hx hb (oc_87 78 (aq_6 shX11_proof_72)) rfl ?_
                refine lv_aload_n hx hb (oc_42 79 (aq_7 shX11_proof_72)) rfl (lvA1 hl) ?_
                refine gf_RX11_71 S hK hP 0 xo_0 (v := .ref (g 13)) rfl (oc_180 80 (aq_8 shX11_proof_72) uw_0_71) ?_
                refine vp_callSi (runV_r (As := []) (rest := []) S (q_l_size l D cI cB cZ (g 13) (if ((cn 13) + 1) = 0 then zz else (adP ad 13 (cn 13) q59 3 ua12) 2 3) ((In 13) + 1) (nI ((cn 13) + 1))) kV_RX11_84 hK hP [27] (one_is xo_27) 27 xo_27 rfl rfl ⟨Nat.le_of_ble_eq_true rfl, Nat.le_of_ble_eq_true rfl⟩ ⟨Nat.le_of_ble_eq_true rfl, Nat.le_of_ble_eq_true rfl⟩ rfl hl.1 rfl (Nat.le_of_ble_eq_true rfl) (oc_182 83 (aq_11 shX11_proof_72) uw_0_84)) (fun r_17 h_18 => ?_)
                subst h_18
                refine lv_iconst (v := 1) hx hb (oc_4 86 (aq_14 shX11_proof_72)) kic_1 ?_
                refine lv_isub hx hb (oc_100 87 (aq_15 shX11_proof_72)) ?_
                refine lv_topi (fun y_19 ey_19 => ?_)
                obtain rfl : y_19 = (nI (cn 13)) := ey_19.trans (nI_sub (b := 1) (by omega))
                exact W.iret (v := (nI (cn 13))) hx hb hr (fun t ht hW => ⟨⟨(nI (cn 13)), ((adP ad 13 (cn 13) q59 3 ua12), (va_up (va_up cn 13 ((cn 13) + 1)) 23 uc12), (va_up In 13 ((In 13) + 1)), (va_up (va_up (va_up (va_up (va_up Fn 160 (upd (Fn 160) (cn 13) v0)) 161 (upd (Fn 161) (cn 13) v1)) 162 (upd (Fn 162) (cn 13) v2)) 163 (upd (Fn 163) (cn 13) v3)) 164 (upd (Fn 164) (cn 13) (nI (cn 0))))), rfl, (Or.inr ⟨rfl, q59, ua12, uc12, ((In 13) + 1), mr_1, by omega, ⟨by omega, by omega⟩, rfl, rfl, rfl, rfl⟩), by rw [ht]; exact hP, hD⟩, hS.F ht⟩) hS.2.2 (oc_172 88 (aq_16 shX11_proof_72))
            ·
              have tc_10 : (40 : Int) ≤ (nI (cn 13)).toInt := Int32.le_iff_toInt_le.mp (Int32.not_lt.mp c_10)
              refine lv_iconst (v := (-1)) hx hb dX11_proof_53 kic_m1 ?_
              refine W.widen (k := 2) (n := 105) (Nat.le_of_ble_eq_true rfl) (Nat.le_of_ble_eq_true rfl) ?_
              exact W.iret (v := (-1)) hx hb hr (fun t ht hW => ⟨⟨(-1), (ad, cn, In, Fn), rfl, (Or.inl ⟨rfl, rfl, rfl, rfl, rfl⟩), by rw [ht]; exact hP, hD⟩, hS.F ht⟩) hS.2.2 dX11_proof_54
          ·
            have h_7 : ¬ (0 ≤ v3.toInt ∧ v3.toInt ≤ 9) := h_7
            refine lv_if_eq (tgt := 53) hx hb (oc_153 38 (aq_14 shX11_proof_24) sgw_0_15) rfl (fun _ => ?_) (fun h => absurd h cq_eq_0_0)
            refine lv_iconst (v := (-1)) hx hb dX11_proof_53 kic_m1 ?_
            refine W.widen (k := 2) (n := 105) (Nat.le_of_ble_eq_true rfl) (Nat.le_of_ble_eq_true rfl) ?_
            exact W.iret (v := (-1)) hx hb hr (fun t ht hW => ⟨⟨(-1), (ad, cn, In, Fn), rfl, (Or.inl ⟨rfl, rfl, rfl, rfl, rfl⟩), by rw [ht]; exact hP, hD⟩, hS.F ht⟩) hS.2.2 dX11_proof_54
  ·
    refine lv_astoreN (lv' := [(5, .null), (0, .ref (g 0)), (1, .int v0), (2, .int v1), (3, .int v2), (4, .int v3)]) hx hb (oc_58 5 (aq_5 shX11_proof_0) ub_5) hl (ltb rfl) rfl (fun ls hl => ?_)
    refine lv_aloadN hx hb (oc_25 7 (aq_7 shX11_proof_0) ub_5) (lvA0 hl) ?_
    refine lv_ifnullN (tgt := 53) hx hb (oc_198 9 (aq_9 shX11_proof_0) sgw_0_44) rfl ?_
    refine lv_iconst (v := (-1)) hx hb dX11_proof_53 kic_m1 ?_
    refine W.widen (k := 2) (n := 105) (Nat.le_of_ble_eq_true rfl) (Nat.le_of_ble_eq_true rfl) ?_
    exact W.iret (v := (-1)) hx hb hr (fun t ht hW => ⟨⟨(-1), (ad, cn, In, Fn), rfl, (Or.inl ⟨rfl, rfl, rfl, rfl, rfl⟩), by rw [ht]; exact hP, hD⟩, hS.F ht⟩) hS.2.2 dX11_proof_54
end

section
set_option maxRecDepth 100000 in
theorem kV_RX0_17 : CalV RX0 17 yX0_has cX0_has 2 (some .boolean) 1 := ⟨⟨wk5_1 2 rfl rfl, wk5_1 3 rfl rfl, wk5_1 4 rfl rfl, wk1_1 11 rfl rfl, wk5_1 5 rfl rfl⟩, ⟨nmh_1.1, nmh_1.2, pd_15⟩⟩
set_option maxRecDepth 100000 in
theorem pf_RX0_13 {p : Program} {l : Launch} {e : Env} {R : Room} {s : State} {m : MethodId} {args : Array Value} {below : List Frame} {meth : Method} {c : Code} {H : Heap} {locs : List Loc} {cells slots : Nat} {Q : State → Prop} {cc : ByteArray} {nL pc : Nat} {D : va_G} {cI cB cZ : ClassId} {ws : va_W} {rest : List Value} {ls : Array Slot} {a : Nat} {fs : List Value} {v : Value} {A : Nat → Prop} {H0 : Heap} (S : SF p m c cc nL s args RX0) (hK : KK D cI cB cZ s) (hP : va_P D vwCl ws H) (hD : va_D A ws) (hS : va_S A H0 H locs) (q0 : Nat) (he : ws[q0]? = some (a, .inr (1, fs))) (hl : 4 < fs.length) (hn : narrow (tyX0 4) v = v) (hfit : fits (tyX0 4) v = true) (hdg : decode cc pc = .ok (.putfield 13, 3)) (kk : ∀ (H1 : Heap) (locs1 : List Loc), va_P D vwCl (ws.set q0 (a, .inr (1, fs.set 4 v))) H1 → va_D A (ws.set q0 (a, .inr (1, fs.set 4 v))) → va_S A H0 H1 locs1 → W p l e R s m args below meth c H1 locs1 cells slots Q (F0 m (pc + 3) ls rest)) : W p l e R s m args below meth c H locs cells slots Q (F0 m pc ls (v :: .ref a :: rest)) :=
  va_put (C := RX0) (T := TX0) (N := 8) S.1 S.2.1 S.2.2.2.2 hin_RX0 tyX0 tyX0_ok nmX0 S.2.2.2.1 hK.1 hP hD hS q0 he rfl 4 (by decide) (S.2.2.2.2 _ (wk4_18 6 rfl rfl)) (fun _ h9 => h9) rfl (tyX0_ok 4 (by decide)) hn hfit hl hdg kk
set_option maxRecDepth 100000 in
theorem gf_RX0_21 {p : Program} {l : Launch} {e : Env} {R : Room} {s : State} {m : MethodId} {args : Array Value} {below : List Frame} {meth : Method} {c : Code} {H : Heap} {locs : List Loc} {cells slots : Nat} {Q : State → Prop} {cc : ByteArray} {nL pc : Nat} {D : va_G} {cI cB cZ : ClassId} {ws : va_W} {rest : List Value} {ls : Array Slot} {a : Nat} {fs : List Value} {v : Value} (S : SF p m c cc nL s args RX0) (hK : KK D cI cB cZ s) (hP : va_P D vwCl ws H) (q0 : Nat) (he : ws[q0]? = some (a, .inr (1, fs))) (hv : fs[5]? = some v) (hdg : decode cc pc = .ok (.getfield 21, 3)) (kk : W p l e R s m args below meth c H locs cells slots Q (F0 m (pc + 3) ls (v :: rest))) : W p l e R s m args below meth c H locs cells slots Q (F0 m pc ls (.ref a :: rest)) :=
  va_get (C := RX0) (T := TX0) (N := 8) S.1 S.2.1 S.2.2.2.2 hin_RX0 S.2.2.2.1 hK.1 hP q0 he rfl 5 (by decide) (S.2.2.2.2 _ (wk4_18 8 rfl rfl)) (fun _ h9 => h9) hv hdg kk
set_option maxRecDepth 100000 in
theorem pf_RX0_21 {p : Program} {l : Launch} {e : Env} {R : Room} {s : State} {m : MethodId} {args : Array Value} {below : List Frame} {meth : Method} {c : Code} {H : Heap} {locs : List Loc} {cells slots : Nat} {Q : State → Prop} {cc : ByteArray} {nL pc : Nat} {D : va_G} {cI cB cZ : ClassId} {ws : va_W} {rest : List Value} {ls : Array Slot} {a : Nat} {fs : List Value} {v : Value} {A : Nat → Prop} {H0 : Heap} (S : SF p m c cc nL s args RX0) (hK : KK D cI cB cZ s) (hP : va_P D vwCl ws H) (hD : va_D A ws) (hS : va_S A H0 H locs) (q0 : Nat) (he : ws[q0]? = some (a, .inr (1, fs))) (hl : 5 < fs.length) (hn : narrow (tyX0 5) v = v) (hfit : fits (tyX0 5) v = true) (hdg : decode cc pc = .ok (.putfield 21, 3)) (kk : ∀ (H1 : Heap) (locs1 : List Loc), va_P D vwCl (ws.set q0 (a, .inr (1, fs.set 5 v))) H1 → va_D A (ws.set q0 (a, .inr (1, fs.set 5 v))) → va_S A H0 H1 locs1 → W p l e R s m args below meth c H1 locs1 cells slots Q (F0 m (pc + 3) ls rest)) : W p l e R s m args below meth c H locs cells slots Q (F0 m pc ls (v :: .ref a :: rest)) :=
  va_put (C := RX0) (T := TX0) (N := 8) S.1 S.2.1 S.2.2.2.2 hin_RX0 tyX0 tyX0_ok nmX0 S.2.2.2.1 hK.1 hP hD hS q0 he rfl 5 (by decide) (S.2.2.2.2 _ (wk4_18 8 rfl rfl)) (fun _ h9 => h9) rfl (tyX0_ok 5 (by decide)) hn hfit hl hdg kk
set_option maxRecDepth 100000 in
theorem gf_RX0_27 {p : Program} {l : Launch} {e : Env} {R : Room} {s : State} {m : MethodId} {args : Array Value} {below : List Frame} {meth : Method} {c : Code} {H : Heap} {locs : List Loc} {cells slots : Nat} {Q : State → Prop} {cc : ByteArray} {nL pc : Nat} {D : va_G} {cI cB cZ : ClassId} {ws : va_W} {rest : List Value} {ls : Array Slot} {a : Nat} {fs : List Value} {v : Value} (S : SF p m c cc nL s args RX0) (hK : KK D cI cB cZ s) (hP : va_P D vwCl ws H) (q0 : Nat) (he : ws[q0]? = some (a, .inr (3, fs))) (hv : fs[2]? = some v) (hdg : decode cc pc = .ok (.getfield 27, 3)) (kk : W p l e R s m args below meth c H locs cells slots Q (F0 m (pc + 3) ls (v :: rest))) : W p l e R s m args below meth c H locs cells slots Q (F0 m pc ls (.ref a :: rest)) :=
  va_get (C := RX2) (T := TX2) (N := 10) S.1 S.2.1 S.2.2.2.2 hin_RX2 S.2.2.2.1 hK.1 hP q0 he rfl 2 (by decide) (S.2.2.2.2 _ (wk2_17 11 rfl rfl)) (fun _ h9 => h9) hv hdg kk
set_option maxRecDepth 100000 in
theorem pf_RX0_24 {p : Program} {l : Launch} {e : Env} {R : Room} {s : State} {m : MethodId} {args : Array Value} {below : List Frame} {meth : Method} {c : Code} {H : Heap} {locs : List Loc} {cells slots : Nat} {Q : State → Prop} {cc : ByteArray} {nL pc : Nat} {D : va_G} {cI cB cZ : ClassId} {ws : va_W} {rest : List Value} {ls : Array Slot} {a : Nat} {fs : List Value} {v : Value} {A : Nat → Prop} {H0 : Heap} (S : SF p m c cc nL s args RX0) (hK : KK D cI cB cZ s) (hP : va_P D vwCl ws H) (hD : va_D A ws) (hS : va_S A H0 H locs) (q0 : Nat) (he : ws[q0]? = some (a, .inr (1, fs))) (hl : 6 < fs.length) (hn : narrow (tyX0 6) v = v) (hfit : fits (tyX0 6) v = true) (hdg : decode cc pc = .ok (.putfield 24, 3)) (kk : ∀ (H1 : Heap) (locs1 : List Loc), va_P D vwCl (ws.set q0 (a, .inr (1, fs.set 6 v))) H1 → va_D A (ws.set q0 (a, .inr (1, fs.set 6 v))) → va_S A H0 H1 locs1 → W p l e R s m args below meth c H1 locs1 cells slots Q (F0 m (pc + 3) ls rest)) : W p l e R s m args below meth c H locs cells slots Q (F0 m pc ls (v :: .ref a :: rest)) :=
  va_put (C := RX0) (T := TX0) (N := 8) S.1 S.2.1 S.2.2.2.2 hin_RX0 tyX0 tyX0_ok nmX0 S.2.2.2.1 hK.1 hP hD hS q0 he rfl 6 (by decide) (S.2.2.2.2 _ (wk4_18 10 rfl rfl)) (fun _ h9 => h9) rfl (tyX0_ok 6 (by decide)) hn hfit hl hdg kk
set_option maxRecDepth 100000 in
theorem gf_RX0_33 {p : Program} {l : Launch} {e : Env} {R : Room} {s : State} {m : MethodId} {args : Array Value} {below : List Frame} {meth : Method} {c : Code} {H : Heap} {locs : List Loc} {cells slots : Nat} {Q : State → Prop} {cc : ByteArray} {nL pc : Nat} {D : va_G} {cI cB cZ : ClassId} {ws : va_W} {rest : List Value} {ls : Array Slot} {a : Nat} {fs : List Value} {v : Value} (S : SF p m c cc nL s args RX0) (hK : KK D cI cB cZ s) (hP : va_P D vwCl ws H) (q0 : Nat) (he : ws[q0]? = some (a, .inr (3, fs))) (hv : fs[3]? = some v) (hdg : decode cc pc = .ok (.getfield 33, 3)) (kk : W p l e R s m args below meth c H locs cells slots Q (F0 m (pc + 3) ls (v :: rest))) : W p l e R s m args below meth c H locs cells slots Q (F0 m pc ls (.ref a :: rest)) :=
  va_get (C := RX2) (T := TX2) (N := 10) S.1 S.2.1 S.2.2.2.2 hin_RX2 S.2.2.2.1 hK.1 hP q0 he rfl 3 (by decide) (S.2.2.2.2 _ (wk2_18 2 rfl rfl)) (fun _ h9 => h9) hv hdg kk
set_option maxRecDepth 100000 in
theorem pf_RX0_30 {p : Program} {l : Launch} {e : Env} {R : Room} {s : State} {m : MethodId} {args : Array Value} {below : List Frame} {meth : Method} {c : Code} {H : Heap} {locs : List Loc} {cells slots : Nat} {Q : State → Prop} {cc : ByteArray} {nL pc : Nat} {D : va_G} {cI cB cZ : ClassId} {ws : va_W} {rest : List Value} {ls : Array Slot} {a : Nat} {fs : List Value} {v : Value} {A : Nat → Prop} {H0 : Heap} (S : SF p m c cc nL s args RX0) (hK : KK D cI cB cZ s) (hP : va_P D vwCl ws H) (hD : va_D A ws) (hS : va_S A H0 H locs) (q0 : Nat) (he : ws[q0]? = some (a, .inr (1, fs))) (hl : 1 < fs.length) (hn : narrow (tyX0 1) v = v) (hfit : fits (tyX0 1) v = true) (hdg : decode cc pc = .ok (.putfield 30, 3)) (kk : ∀ (H1 : Heap) (locs1 : List Loc), va_P D vwCl (ws.set q0 (a, .inr (1, fs.set 1 v))) H1 → va_D A (ws.set q0 (a, .inr (1, fs.set 1 v))) → va_S A H0 H1 locs1 → W p l e R s m args below meth c H1 locs1 cells slots Q (F0 m (pc + 3) ls rest)) : W p l e R s m args below meth c H locs cells slots Q (F0 m pc ls (v :: .ref a :: rest)) :=
  va_put (C := RX0) (T := TX0) (N := 8) S.1 S.2.1 S.2.2.2.2 hin_RX0 tyX0 tyX0_ok nmX0 S.2.2.2.1 hK.1 hP hD hS q0 he rfl 1 (by decide) (S.2.2.2.2 _ (wk4_18 2 rfl rfl)) (fun _ h9 => h9) rfl (tyX0_ok 1 (by decide)) hn hfit hl hdg kk
set_option maxRecDepth 100000 in
theorem gf_RX0_39 {p : Program} {l : Launch} {e : Env} {R : Room} {s : State} {m : MethodId} {args : Array Value} {below : List Frame} {meth : Method} {c : Code} {H : Heap} {locs : List Loc} {cells slots : Nat} {Q : State → Prop} {cc : ByteArray} {nL pc : Nat} {D : va_G} {cI cB cZ : ClassId} {ws : va_W} {rest : List Value} {ls : Array Slot} {a : Nat} {fs : List Value} {v : Value} (S : SF p m c cc nL s args RX0) (hK : KK D cI cB cZ s) (hP : va_P D vwCl ws H) (q0 : Nat) (he : ws[q0]? = some (a, .inr (3, fs))) (hv : fs[4]? = some v) (hdg : decode cc pc = .ok (.getfield 39, 3)) (kk : W p l e R s m args below meth c H locs cells slots Q (F0 m (pc + 3) ls (v :: rest))) : W p l e R s m args below meth c H locs cells slots Q (F0 m pc ls (.ref a :: rest)) :=
  va_get (C := RX2) (T := TX2) (N := 10) S.1 S.2.1 S.2.2.2.2 hin_RX2 S.2.2.2.1 hK.1 hP q0 he rfl 4 (by decide) (S.2.2.2.2 _ (wk2_18 5 rfl rfl)) (fun _ h9 => h9) hv hdg kk
set_option maxRecDepth 100000 in
theorem pf_RX0_36 {p : Program} {l : Launch} {e : Env} {R : Room} {s : State} {m : MethodId} {args : Array Value} {below : List Frame} {meth : Method} {c : Code} {H : Heap} {locs : List Loc} {cells slots : Nat} {Q : State → Prop} {cc : ByteArray} {nL pc : Nat} {D : va_G} {cI cB cZ : ClassId} {ws : va_W} {rest : List Value} {ls : Array Slot} {a : Nat} {fs : List Value} {v : Value} {A : Nat → Prop} {H0 : Heap} (S : SF p m c cc nL s args RX0) (hK : KK D cI cB cZ s) (hP : va_P D vwCl ws H) (hD : va_D A ws) (hS : va_S A H0 H locs) (q0 : Nat) (he : ws[q0]? = some (a, .inr (1, fs))) (hl : 2 < fs.length) (hn : narrow (tyX0 2) v = v) (hfit : fits (tyX0 2) v = true) (hdg : decode cc pc = .ok (.putfield 36, 3)) (kk : ∀ (H1 : Heap) (locs1 : List Loc), va_P D vwCl (ws.set q0 (a, .inr (1, fs.set 2 v))) H1 → va_D A (ws.set q0 (a, .inr (1, fs.set 2 v))) → va_S A H0 H1 locs1 → W p l e R s m args below meth c H1 locs1 cells slots Q (F0 m (pc + 3) ls rest)) : W p l e R s m args below meth c H locs cells slots Q (F0 m pc ls (v :: .ref a :: rest)) :=
  va_put (C := RX0) (T := TX0) (N := 8) S.1 S.2.1 S.2.2.2.2 hin_RX0 tyX0 tyX0_ok nmX0 S.2.2.2.1 hK.1 hP hD hS q0 he rfl 2 (by decide) (S.2.2.2.2 _ (wk4_18 3 rfl rfl)) (fun _ h9 => h9) rfl (tyX0_ok 2 (by decide)) hn hfit hl hdg kk
set_option maxRecDepth 100000 in
theorem kV_RX11_354 : CalV RX11 354 yX11_canBeBatched cX11_canBeBatched 2 (some .boolean) 1 := ⟨⟨wk5_0 6 rfl rfl, wk5_0 8 rfl rfl, wT_sel 44 _ rfl rfl rfl, wk1_0 1 rfl rfl, wk5_0 9 rfl rfl⟩, ⟨nmh_0.1, nmh_0.2, pd_52⟩⟩
set_option maxRecDepth 100000 in
theorem kV_RX11_358 : CalV RX11 358 yX0_flip cX0_flip 4 none 2 := ⟨⟨wk5_0 10 rfl rfl, wk5_0 11 rfl rfl, wk5_1 0 rfl rfl, wk1_1 11 rfl rfl, wk5_1 1 rfl rfl⟩, ⟨nmh_1.1, nmh_1.2, pd_42⟩⟩
set_option maxRecDepth 100000 in
theorem gf_RX11_347 {p : Program} {l : Launch} {e : Env} {R : Room} {s : State} {m : MethodId} {args : Array Value} {below : List Frame} {meth : Method} {c : Code} {H : Heap} {locs : List Loc} {cells slots : Nat} {Q : State → Prop} {cc : ByteArray} {nL pc : Nat} {D : va_G} {cI cB cZ : ClassId} {ws : va_W} {rest : List Value} {ls : Array Slot} {a : Nat} {fs : List Value} {v : Value} (S : SF p m c cc nL s args RX11) (hK : KK D cI cB cZ s) (hP : va_P D vwCl ws H) (q0 : Nat) (he : ws[q0]? = some (a, .inr (1, fs))) (hv : fs[5]? = some v) (hdg : decode cc pc = .ok (.getfield 347, 3)) (kk : W p l e R s m args below meth c H locs cells slots Q (F0 m (pc + 3) ls (v :: rest))) : W p l e R s m args below meth c H locs cells slots Q (F0 m pc ls (.ref a :: rest)) :=
  va_get (C := RX0) (T := TX0) (N := 8) S.1 S.2.1 S.2.2.2.2 hin_RX0 S.2.2.2.1 hK.1 hP q0 he rfl 5 (by decide) (S.2.2.2.2 _ (wk4_18 9 rfl rfl)) (fun _ h9 => h9) hv hdg kk
set_option maxRecDepth 100000 in
theorem pf_RX11_381 {p : Program} {l : Launch} {e : Env} {R : Room} {s : State} {m : MethodId} {args : Array Value} {below : List Frame} {meth : Method} {c : Code} {H : Heap} {locs : List Loc} {cells slots : Nat} {Q : State → Prop} {cc : ByteArray} {nL pc : Nat} {D : va_G} {cI cB cZ : ClassId} {ws : va_W} {rest : List Value} {ls : Array Slot} {a : Nat} {fs : List Value} {v : Value} {A : Nat → Prop} {H0 : Heap} (S : SF p m c cc nL s args RX11) (hK : KK D cI cB cZ s) (hP : va_P D vwCl ws H) (hD : va_D A ws) (hS : va_S A H0 H locs) (q0 : Nat) (he : ws[q0]? = some (a, .inr (1, fs))) (hl : 7 < fs.length) (hn : narrow (tyX0 7) v = v) (hfit : fits (tyX0 7) v = true) (hdg : decode cc pc = .ok (.putfield 381, 3)) (kk : ∀ (H1 : Heap) (locs1 : List Loc), va_P D vwCl (ws.set q0 (a, .inr (1, fs.set 7 v))) H1 → va_D A (ws.set q0 (a, .inr (1, fs.set 7 v))) → va_S A H0 H1 locs1 → W p l e R s m args below meth c H1 locs1 cells slots Q (F0 m (pc + 3) ls rest)) : W p l e R s m args below meth c H locs cells slots Q (F0 m pc ls (v :: .ref a :: rest)) :=
  va_put (C := RX0) (T := TX0) (N := 8) S.1 S.2.1 S.2.2.2.2 hin_RX0 tyX0 tyX0_ok nmX0 S.2.2.2.1 hK.1 hP hD hS q0 he rfl 7 (by decide) (S.2.2.2.2 _ (wk4_19 0 rfl rfl)) (fun _ h9 => h9) rfl (tyX0_ok 7 (by decide)) hn hfit hl hdg kk
set_option maxRecDepth 100000 in
theorem pf_RX11_349 {p : Program} {l : Launch} {e : Env} {R : Room} {s : State} {m : MethodId} {args : Array Value} {below : List Frame} {meth : Method} {c : Code} {H : Heap} {locs : List Loc} {cells slots : Nat} {Q : State → Prop} {cc : ByteArray} {nL pc : Nat} {D : va_G} {cI cB cZ : ClassId} {ws : va_W} {rest : List Value} {ls : Array Slot} {a : Nat} {fs : List Value} {v : Value} {A : Nat → Prop} {H0 : Heap} (S : SF p m c cc nL s args RX11) (hK : KK D cI cB cZ s) (hP : va_P D vwCl ws H) (hD : va_D A ws) (hS : va_S A H0 H locs) (q0 : Nat) (he : ws[q0]? = some (a, .inr (3, fs))) (hl : 9 < fs.length) (hn : narrow (tyX2 9) v = v) (hfit : fits (tyX2 9) v = true) (hdg : decode cc pc = .ok (.putfield 349, 3)) (kk : ∀ (H1 : Heap) (locs1 : List Loc), va_P D vwCl (ws.set q0 (a, .inr (3, fs.set 9 v))) H1 → va_D A (ws.set q0 (a, .inr (3, fs.set 9 v))) → va_S A H0 H1 locs1 → W p l e R s m args below meth c H1 locs1 cells slots Q (F0 m (pc + 3) ls rest)) : W p l e R s m args below meth c H locs cells slots Q (F0 m pc ls (v :: .ref a :: rest)) :=
  va_put (C := RX2) (T := TX2) (N := 10) S.1 S.2.1 S.2.2.2.2 hin_RX2 tyX2 tyX2_ok nmX2 S.2.2.2.1 hK.1 hP hD hS q0 he rfl 9 (by decide) (S.2.2.2.2 _ (wk2_19 0 rfl rfl)) (fun _ h9 => h9) rfl (tyX2_ok 9 (by decide)) hn hfit hl hdg kk
set_option maxRecDepth 100000 in
theorem kV_RX11_363 : CalV RX11 363 yX11_mixed cX11_mixed 5 (some (.object "OilHome$Batch")) 1 := ⟨⟨wk4_17 3 rfl rfl, wk4_17 5 rfl rfl, wT_sel 43 _ rfl rfl rfl, wk1_0 1 rfl rfl, wk4_17 6 rfl rfl⟩, ⟨nmh_0.1, nmh_0.2, pd_9⟩⟩
set_option maxRecDepth 100000 in
theorem kV_RX11_367 : CalV RX11 367 yX11_lettersOfLaw cX11_lettersOfLaw 1 none 0 := ⟨⟨wk5_1 6 rfl rfl, wk5_1 8 rfl rfl, wT_sel 45 _ rfl rfl rfl, wk1_0 1 rfl rfl, wk5_1 9 rfl rfl⟩, ⟨nmh_0.1, nmh_0.2, pd_2⟩⟩
set_option maxRecDepth 100000 in
theorem kV_RX11_370 : CalV RX11 370 yX11_brokenClause cX11_brokenClause 2 (some .int) 1 := ⟨⟨wk5_1 10 rfl rfl, wk5_2 0 rfl rfl, wT_sel 46 _ rfl rfl rfl, wk1_0 1 rfl rfl, wk5_2 1 rfl rfl⟩, ⟨nmh_0.1, nmh_0.2, pd_46⟩⟩
set_option maxRecDepth 100000 in
theorem kV_RX11_374 : CalV RX11 374 yX11_keep cX11_keep 4 none 1 := ⟨⟨wk5_2 10 rfl rfl, wk5_3 0 rfl rfl, wT_sel 47 _ rfl rfl rfl, wk1_0 1 rfl rfl, wk5_3 1 rfl rfl⟩, ⟨nmh_0.1, nmh_0.2, pd_47⟩⟩
set_option maxRecDepth 100000 in
theorem kV_RX11_391 : CalV RX11 391 yX11_gatherBlendable cX11_gatherBlendable 4 (some .int) 1 := ⟨⟨wk5_5 0 rfl rfl, wk5_5 2 rfl rfl, wT_sel 51 _ rfl rfl rfl, wk1_0 1 rfl rfl, wk5_5 3 rfl rfl⟩, ⟨nmh_0.1, nmh_0.2, pd_65⟩⟩
set_option maxRecDepth 100000 in
theorem kV_RX11_395 : CalV RX11 395 yX11_flipTo cX11_flipTo 7 none 3 := ⟨⟨wk5_5 4 rfl rfl, wk5_5 6 rfl rfl, wT_sel 52 _ rfl rfl rfl, wk1_0 1 rfl rfl, wk5_5 7 rfl rfl⟩, ⟨nmh_0.1, nmh_0.2, pd_48⟩⟩
noncomputable def sxX0_flip_92 : List UInt8 := []
noncomputable def sxX0_flip_76 : List UInt8 := 29 :: 44 :: 180 :: 0 :: 27 :: 104 :: 44 :: 180 :: 0 :: 39 :: 104 :: 96 :: 181 :: 0 :: 36 :: 177 :: sxX0_flip_92
noncomputable def sxX0_flip_51 : List UInt8 := 42 :: 89 :: 180 :: 0 :: 30 :: 29 :: 44 :: 180 :: 0 :: 27 :: 104 :: 44 :: 180 :: 0 :: 33 :: 104 :: 96 :: 181 :: 0 :: 30 :: 42 :: 89 :: 180 :: 0 :: 36 :: sxX0_flip_76
noncomputable def sxX0_flip_26 : List UInt8 := 42 :: 89 :: 180 :: 0 :: 21 :: 29 :: 96 :: 181 :: 0 :: 21 :: 42 :: 89 :: 180 :: 0 :: 24 :: 29 :: 44 :: 180 :: 0 :: 27 :: 104 :: 96 :: 181 :: 0 :: 24 :: sxX0_flip_51
theorem shX0_flip_0 : cX0_flip.data.toList.drop 0 = 42 :: 27 :: 182 :: 0 :: 17 :: 153 :: 0 :: 7 :: 2 :: 167 :: 0 :: 4 :: 4 :: 62 :: 42 :: 89 :: 180 :: 0 :: 13 :: 4 :: 27 :: 120 :: 130 :: 181 :: 0 :: 13 :: sxX0_flip_26 := rfl
theorem shX0_flip_26 : cX0_flip.data.toList.drop 26 = 42 :: 89 :: 180 :: 0 :: 21 :: 29 :: 96 :: 181 :: 0 :: 21 :: 42 :: 89 :: 180 :: 0 :: 24 :: 29 :: 44 :: 180 :: 0 :: 27 :: 104 :: 96 :: 181 :: 0 :: 24 :: sxX0_flip_51 := aq_26 shX0_flip_0
theorem shX0_flip_51 : cX0_flip.data.toList.drop 51 = 42 :: 89 :: 180 :: 0 :: 30 :: 29 :: 44 :: 180 :: 0 :: 27 :: 104 :: 44 :: 180 :: 0 :: 33 :: 104 :: 96 :: 181 :: 0 :: 30 :: 42 :: 89 :: 180 :: 0 :: 36 :: sxX0_flip_76 := aq_25 shX0_flip_26
theorem shX0_flip_76 : cX0_flip.data.toList.drop 76 = 29 :: 44 :: 180 :: 0 :: 27 :: 104 :: 44 :: 180 :: 0 :: 39 :: 104 :: 96 :: 181 :: 0 :: 36 :: 177 :: sxX0_flip_92 := aq_25 shX0_flip_51
noncomputable def sxX11_mixed_65 : List UInt8 := []
noncomputable def sxX11_mixed_48 : List UInt8 := 1 :: 176 :: 44 :: 29 :: 25 :: 4 :: 182 :: 1 :: 102 :: 132 :: 3 :: 1 :: 167 :: 255 :: 206 :: 44 :: 176 :: sxX11_mixed_65
noncomputable def sxX11_mixed_24 : List UInt8 := 167 :: 0 :: 33 :: 42 :: 29 :: 182 :: 0 :: 148 :: 58 :: 4 :: 25 :: 4 :: 198 :: 0 :: 12 :: 42 :: 25 :: 4 :: 182 :: 1 :: 98 :: 154 :: 0 :: 5 :: sxX11_mixed_48
theorem shX11_mixed_0 : cX11_mixed.data.toList.drop 0 = 187 :: 0 :: 95 :: 89 :: 183 :: 1 :: 97 :: 77 :: 3 :: 62 :: 29 :: 16 :: 20 :: 162 :: 0 :: 50 :: 27 :: 29 :: 122 :: 4 :: 126 :: 154 :: 0 :: 6 :: sxX11_mixed_24 := rfl
theorem shX11_mixed_24 : cX11_mixed.data.toList.drop 24 = 167 :: 0 :: 33 :: 42 :: 29 :: 182 :: 0 :: 148 :: 58 :: 4 :: 25 :: 4 :: 198 :: 0 :: 12 :: 42 :: 25 :: 4 :: 182 :: 1 :: 98 :: 154 :: 0 :: 5 :: sxX11_mixed_48 := aq_24 shX11_mixed_0
theorem shX11_mixed_48 : cX11_mixed.data.toList.drop 48 = 1 :: 176 :: 44 :: 29 :: 25 :: 4 :: 182 :: 1 :: 102 :: 132 :: 3 :: 1 :: 167 :: 255 :: 206 :: 44 :: 176 :: sxX11_mixed_65 := aq_24 shX11_mixed_24
noncomputable def sxX11_brokenClause_53 : List UInt8 := []
noncomputable def sxX11_brokenClause_49 : List UInt8 := 182 :: 0 :: 218 :: 172 :: sxX11_brokenClause_53
noncomputable def sxX11_brokenClause_24 : List UInt8 := 182 :: 1 :: 89 :: 182 :: 0 :: 188 :: 42 :: 16 :: 110 :: 43 :: 180 :: 1 :: 91 :: 182 :: 0 :: 188 :: 42 :: 180 :: 0 :: 12 :: 3 :: 42 :: 180 :: 0 :: 40 :: sxX11_brokenClause_49
theorem shX11_brokenClause_0 : cX11_brokenClause.data.toList.drop 0 = 42 :: 16 :: 113 :: 43 :: 180 :: 1 :: 86 :: 182 :: 0 :: 188 :: 42 :: 16 :: 102 :: 43 :: 182 :: 1 :: 87 :: 182 :: 0 :: 188 :: 42 :: 16 :: 97 :: 43 :: sxX11_brokenClause_24 := rfl
theorem shX11_brokenClause_24 : cX11_brokenClause.data.toList.drop 24 = 182 :: 1 :: 89 :: 182 :: 0 :: 188 :: 42 :: 16 :: 110 :: 43 :: 180 :: 1 :: 91 :: 182 :: 0 :: 188 :: 42 :: 180 :: 0 :: 12 :: 3 :: 42 :: 180 :: 0 :: 40 :: sxX11_brokenClause_49 := aq_24 shX11_brokenClause_0
theorem shX11_brokenClause_49 : cX11_brokenClause.data.toList.drop 49 = 182 :: 0 :: 218 :: 172 :: sxX11_brokenClause_53 := aq_25 shX11_brokenClause_24
noncomputable def sxX11_keep_71 : List UInt8 := []
noncomputable def sxX11_keep_50 : List UInt8 := 180 :: 0 :: 103 :: 43 :: 180 :: 1 :: 86 :: 116 :: 182 :: 0 :: 144 :: 42 :: 180 :: 0 :: 68 :: 43 :: 182 :: 0 :: 110 :: 87 :: 177 :: sxX11_keep_71
noncomputable def sxX11_keep_26 : List UInt8 := 45 :: 4 :: 181 :: 1 :: 93 :: 132 :: 2 :: 1 :: 167 :: 255 :: 224 :: 43 :: 42 :: 180 :: 0 :: 103 :: 181 :: 1 :: 125 :: 42 :: 180 :: 0 :: 47 :: 42 :: sxX11_keep_50
theorem shX11_keep_0 : cX11_keep.data.toList.drop 0 = 3 :: 61 :: 28 :: 16 :: 20 :: 162 :: 0 :: 32 :: 42 :: 28 :: 182 :: 0 :: 148 :: 78 :: 45 :: 198 :: 0 :: 16 :: 43 :: 28 :: 182 :: 1 :: 122 :: 153 :: 0 :: 8 :: sxX11_keep_26 := rfl
theorem shX11_keep_26 : cX11_keep.data.toList.drop 26 = 45 :: 4 :: 181 :: 1 :: 93 :: 132 :: 2 :: 1 :: 167 :: 255 :: 224 :: 43 :: 42 :: 180 :: 0 :: 103 :: 181 :: 1 :: 125 :: 42 :: 180 :: 0 :: 47 :: 42 :: sxX11_keep_50 := aq_26 shX11_keep_0
theorem shX11_keep_50 : cX11_keep.data.toList.drop 50 = 180 :: 0 :: 103 :: 43 :: 180 :: 1 :: 86 :: 116 :: 182 :: 0 :: 144 :: 42 :: 180 :: 0 :: 68 :: 43 :: 182 :: 0 :: 110 :: 87 :: 177 :: sxX11_keep_71 := aq_24 shX11_keep_26
noncomputable def sxX11_batch_72 : List UInt8 := []
noncomputable def sxX11_batch_48 : List UInt8 := 2 :: 159 :: 0 :: 8 :: 16 :: 246 :: 29 :: 100 :: 172 :: 42 :: 44 :: 182 :: 1 :: 118 :: 42 :: 180 :: 0 :: 68 :: 182 :: 0 :: 84 :: 4 :: 100 :: 172 :: sxX11_batch_72
noncomputable def sxX11_batch_24 : List UInt8 := 172 :: 42 :: 27 :: 182 :: 1 :: 107 :: 77 :: 44 :: 199 :: 0 :: 5 :: 2 :: 172 :: 42 :: 182 :: 1 :: 111 :: 42 :: 44 :: 182 :: 1 :: 114 :: 62 :: 29 :: sxX11_batch_48
theorem shX11_batch_0 : cX11_batch.data.toList.drop 0 = 27 :: 4 :: 19 :: 1 :: 106 :: 184 :: 0 :: 80 :: 153 :: 0 :: 15 :: 42 :: 180 :: 0 :: 68 :: 182 :: 0 :: 84 :: 16 :: 10 :: 161 :: 0 :: 5 :: 2 :: sxX11_batch_24 := rfl
theorem shX11_batch_24 : cX11_batch.data.toList.drop 24 = 172 :: 42 :: 27 :: 182 :: 1 :: 107 :: 77 :: 44 :: 199 :: 0 :: 5 :: 2 :: 172 :: 42 :: 182 :: 1 :: 111 :: 42 :: 44 :: 182 :: 1 :: 114 :: 62 :: 29 :: sxX11_batch_48 := aq_24 shX11_batch_0
theorem shX11_batch_48 : cX11_batch.data.toList.drop 48 = 2 :: 159 :: 0 :: 8 :: 16 :: 246 :: 29 :: 100 :: 172 :: 42 :: 44 :: 182 :: 1 :: 118 :: 42 :: 180 :: 0 :: 68 :: 182 :: 0 :: 84 :: 4 :: 100 :: 172 :: sxX11_batch_72 := aq_24 shX11_batch_24
noncomputable def sxX11_gatherBlendable_45 : List UInt8 := []
noncomputable def sxX11_gatherBlendable_25 : List UInt8 := 153 :: 0 :: 12 :: 43 :: 28 :: 29 :: 184 :: 0 :: 184 :: 132 :: 2 :: 1 :: 132 :: 3 :: 1 :: 167 :: 255 :: 220 :: 28 :: 172 :: sxX11_gatherBlendable_45
theorem shX11_gatherBlendable_0 : cX11_gatherBlendable.data.toList.drop 0 = 3 :: 61 :: 3 :: 62 :: 29 :: 16 :: 20 :: 162 :: 0 :: 36 :: 28 :: 43 :: 190 :: 162 :: 0 :: 30 :: 42 :: 42 :: 29 :: 182 :: 0 :: 148 :: 182 :: 1 :: 98 :: sxX11_gatherBlendable_25 := rfl
theorem shX11_gatherBlendable_25 : cX11_gatherBlendable.data.toList.drop 25 = 153 :: 0 :: 12 :: 43 :: 28 :: 29 :: 184 :: 0 :: 184 :: 132 :: 2 :: 1 :: 132 :: 3 :: 1 :: 167 :: 255 :: 220 :: 28 :: 172 :: sxX11_gatherBlendable_45 := aq_25 shX11_gatherBlendable_0
noncomputable def sxX11_flipTo_59 : List UInt8 := []
noncomputable def sxX11_flipTo_49 : List UInt8 := 182 :: 1 :: 102 :: 132 :: 5 :: 1 :: 167 :: 255 :: 211 :: 177 :: sxX11_flipTo_59
noncomputable def sxX11_flipTo_24 : List UInt8 := 153 :: 0 :: 34 :: 42 :: 45 :: 21 :: 5 :: 46 :: 182 :: 0 :: 148 :: 58 :: 6 :: 25 :: 6 :: 198 :: 0 :: 13 :: 43 :: 45 :: 21 :: 5 :: 46 :: 25 :: 6 :: sxX11_flipTo_49
theorem shX11_flipTo_0 : cX11_flipTo.data.toList.drop 0 = 28 :: 28 :: 4 :: 100 :: 130 :: 54 :: 4 :: 3 :: 54 :: 5 :: 21 :: 5 :: 45 :: 190 :: 162 :: 0 :: 44 :: 21 :: 4 :: 21 :: 5 :: 122 :: 4 :: 126 :: sxX11_flipTo_24 := rfl
theorem shX11_flipTo_24 : cX11_flipTo.data.toList.drop 24 = 153 :: 0 :: 34 :: 42 :: 45 :: 21 :: 5 :: 46 :: 182 :: 0 :: 148 :: 58 :: 6 :: 25 :: 6 :: 198 :: 0 :: 13 :: 43 :: 45 :: 21 :: 5 :: 46 :: 25 :: 6 :: sxX11_flipTo_49 := aq_24 shX11_flipTo_0
theorem shX11_flipTo_49 : cX11_flipTo.data.toList.drop 49 = 182 :: 1 :: 102 :: 132 :: 5 :: 1 :: 167 :: 255 :: 211 :: 177 :: sxX11_flipTo_59 := aq_25 shX11_flipTo_24
noncomputable def sxX11_blend_131 : List UInt8 := []
noncomputable def sxX11_blend_125 : List UInt8 := 167 :: 255 :: 166 :: 21 :: 4 :: 172 :: sxX11_blend_131
noncomputable def sxX11_blend_100 : List UInt8 := 2 :: 160 :: 0 :: 21 :: 45 :: 180 :: 1 :: 132 :: 54 :: 4 :: 45 :: 180 :: 1 :: 86 :: 54 :: 5 :: 45 :: 180 :: 1 :: 91 :: 54 :: 6 :: 132 :: 7 :: 1 :: sxX11_blend_125
noncomputable def sxX11_blend_74 : List UInt8 := 45 :: 180 :: 1 :: 91 :: 21 :: 6 :: 162 :: 0 :: 7 :: 4 :: 167 :: 0 :: 4 :: 3 :: 54 :: 8 :: 21 :: 8 :: 153 :: 0 :: 30 :: 42 :: 45 :: 182 :: 1 :: 114 :: sxX11_blend_100
noncomputable def sxX11_blend_48 : List UInt8 := 182 :: 1 :: 139 :: 21 :: 4 :: 153 :: 0 :: 30 :: 45 :: 180 :: 1 :: 86 :: 21 :: 5 :: 163 :: 0 :: 21 :: 45 :: 180 :: 1 :: 86 :: 21 :: 5 :: 160 :: 0 :: 16 :: sxX11_blend_74
noncomputable def sxX11_blend_24 : List UInt8 := 54 :: 4 :: 3 :: 54 :: 5 :: 3 :: 54 :: 6 :: 4 :: 54 :: 7 :: 21 :: 7 :: 4 :: 28 :: 120 :: 162 :: 0 :: 88 :: 42 :: 45 :: 21 :: 7 :: 43 :: sxX11_blend_48
theorem shX11_blend_0 : cX11_blend.data.toList.drop 0 = 16 :: 12 :: 188 :: 10 :: 76 :: 42 :: 43 :: 182 :: 1 :: 135 :: 61 :: 42 :: 182 :: 1 :: 111 :: 187 :: 0 :: 95 :: 89 :: 183 :: 1 :: 97 :: 78 :: 3 :: sxX11_blend_24 := rfl
theorem shX11_blend_24 : cX11_blend.data.toList.drop 24 = 54 :: 4 :: 3 :: 54 :: 5 :: 3 :: 54 :: 6 :: 4 :: 54 :: 7 :: 21 :: 7 :: 4 :: 28 :: 120 :: 162 :: 0 :: 88 :: 42 :: 45 :: 21 :: 7 :: 43 :: sxX11_blend_48 := aq_24 shX11_blend_0
theorem shX11_blend_48 : cX11_blend.data.toList.drop 48 = 182 :: 1 :: 139 :: 21 :: 4 :: 153 :: 0 :: 30 :: 45 :: 180 :: 1 :: 86 :: 21 :: 5 :: 163 :: 0 :: 21 :: 45 :: 180 :: 1 :: 86 :: 21 :: 5 :: 160 :: 0 :: 16 :: sxX11_blend_74 := aq_24 shX11_blend_24
theorem shX11_blend_74 : cX11_blend.data.toList.drop 74 = 45 :: 180 :: 1 :: 91 :: 21 :: 6 :: 162 :: 0 :: 7 :: 4 :: 167 :: 0 :: 4 :: 3 :: 54 :: 8 :: 21 :: 8 :: 153 :: 0 :: 30 :: 42 :: 45 :: 182 :: 1 :: 114 :: sxX11_blend_100 := aq_26 shX11_blend_48
theorem shX11_blend_100 : cX11_blend.data.toList.drop 100 = 2 :: 160 :: 0 :: 21 :: 45 :: 180 :: 1 :: 132 :: 54 :: 4 :: 45 :: 180 :: 1 :: 86 :: 54 :: 5 :: 45 :: 180 :: 1 :: 91 :: 54 :: 6 :: 132 :: 7 :: 1 :: sxX11_blend_125 := aq_26 shX11_blend_74
theorem shX11_blend_125 : cX11_blend.data.toList.drop 125 = 167 :: 255 :: 166 :: 21 :: 4 :: 172 :: sxX11_blend_131 := aq_25 shX11_blend_100
theorem dX11_blend_88 : decode cX11_blend 88 = .ok (.istore 8, 2) := oc_54 88 (aq_14 shX11_blend_74) ub_8
theorem dX11_blend_90 : decode cX11_blend 90 = .ok (.iload 8, 2) := oc_21 90 (aq_16 shX11_blend_74) ub_8
theorem dX11_blend_92 : decode cX11_blend 92 = .ok (.ifCond .eq 30, 3) := oc_153 92 (aq_18 shX11_blend_74) sgw_0_30
theorem dX11_blend_122 : decode cX11_blend 122 = .ok (.iinc 7 1, 3) := oc_132 122 (aq_22 shX11_blend_100) ub_7 sgb_1
theorem dX11_blend_125 : decode cX11_blend 125 = .ok (.goto (-90), 3) := oc_167 125 shX11_blend_125 sgw_255_166
set_option maxRecDepth 100000 in
set_option maxHeartbeats 4000000 in
theorem q_l_has (l : Launch) (D : va_G) (cI cB cZ : ClassId) (bo w : Nat) (x1 x2 x3 x4 x5 x6 x7 : Int32) (v0 : Int32) : Met l yX0_has (CWS yX0_has cX0_has 2 (some .boolean)) (RM 0 0 0) (PBr [.ref bo, .int v0] D cI cB cZ [(bo, .inr (1, [.ref w, .int x1, .int x2, .int x3, .int x4, .int x5, .int x6, .int x7]))]) (vp_Si (fun r => (r = 1 ∧ ¬ (x4 >>> (v0 &&& 31)) &&& 1 = 0) ∨ (r = 0 ∧ (x4 >>> (v0 &&& 31)) &&& 1 = 0))) 0 0 (fun _ => False) := by
  refine en_r rfl pn_RX0 (Nat.le_of_ble_eq_true rfl) (fun p e s m below meth c hx hb hml hown S hr hlocks hnm hP hK hS ls hl => ?_)
  have hP : va_P D vwCl [(bo, .inr (1, [.ref w, .int x1, .int x2, .int x3, .int x4, .int x5, .int x6, .int x7]))] s.heap := hP
  have hl : lv_has ls 2 [(0, .ref bo), (1, .int v0)] := hl
  refine lv_aload_n hx hb (oc_42 0 shX0_has_0) rfl (lvA0 hl) ?_
  refine gf_RX0_13 S hK hP 0 rfl (v := .int x4) rfl (oc_180 1 (aq_1 shX0_has_0) uw_0_13) ?_
  refine lv_iload_n hx hb (oc_27 4 (aq_4 shX0_has_0)) rfl (lvA1 hl) ?_
  refine lv_ishr hx hb (oc_122 5 (aq_5 shX0_has_0)) ?_
  refine lv_iconst (v := 1) hx hb (oc_4 6 (aq_6 shX0_has_0)) kic_1 ?_
  refine lv_iand hx hb (oc_126 7 (aq_7 shX0_has_0)) ?_
  refine lv_if_eq (tgt := 15) hx hb (oc_153 8 (aq_8 shX0_has_0) sgw_0_7) rfl (fun c_1 => ?_) (fun c_1 => ?_)
  ·
    have tc_1 : (((x4 >>> (v0 &&& 31)) &&& 1).toInt : Int) = 0 := congrArg Int32.toInt c_1
    refine lv_iconst (v := 0) hx hb (oc_3 15 (aq_15 shX0_has_0)) kic_0 ?_
    exact W.zret (v := 0) hx hb hr rfl (fun t ht hW => ⟨0, rfl, (Or.inr ⟨rfl, by assumption⟩), ht⟩) (fun _ h => absurd h List.not_mem_nil) dX0_has_16
  ·
    have tc_1 : (((x4 >>> (v0 &&& 31)) &&& 1).toInt : Int) ≠ 0 := fun q => c_1 (Int32.toInt_inj.mp q)
    refine lv_iconst (v := 1) hx hb (oc_4 11 (aq_11 shX0_has_0)) kic_1 ?_
    refine lv_goto (tgt := 16) hx hb (oc_167 12 (aq_12 shX0_has_0) sgw_0_4) rfl ?_
    exact W.zret (v := 1) hx hb hr rfl (fun t ht hW => ⟨1, rfl, (Or.inl ⟨rfl, by assumption⟩), ht⟩) (fun _ h => absurd h List.not_mem_nil) dX0_has_16
set_option maxRecDepth 100000 in
set_option maxHeartbeats 4000000 in
theorem q_l_water (l : Launch) (D : va_G) (cI cB cZ : ClassId) (bo w : Nat) (x1 x2 x3 x4 x5 x6 x7 : Int32) : Met l yX0_water (CWS yX0_water cX0_water 1 (some .int)) (RM 0 0 0) (PBr [.ref bo] D cI cB cZ [(bo, .inr (1, [.ref w, .int x1, .int x2, .int x3, .int x4, .int x5, .int x6, .int x7]))]) (vp_Si (fun r => r = if x6 = 0 then 0 else x1 / x6)) 0 0 (fun _ => False) := by
  refine en_r rfl pn_RX0 (Nat.le_of_ble_eq_true rfl) (fun p e s m below meth c hx hb hml hown S hr hlocks hnm hP hK hS ls hl => ?_)
  have hP : va_P D vwCl [(bo, .inr (1, [.ref w, .int x1, .int x2, .int x3, .int x4, .int x5, .int x6, .int x7]))] s.heap := hP
  have hl : lv_has ls 1 [(0, .ref bo)] := hl
  refine lv_aload_n hx hb (oc_42 0 shX0_water_0) rfl (lvA0 hl) ?_
  refine gf_RX0_24 S hK hP 0 rfl (v := .int x6) rfl (oc_180 1 (aq_1 shX0_water_0) uw_0_24) ?_
  refine lv_if_ne (tgt := 11) hx hb (oc_154 4 (aq_4 shX0_water_0) sgw_0_7) rfl (fun c_1 => ?_) (fun c_1 => ?_)
  ·
    have tc_1 : (x6.toInt : Int) ≠ 0 := fun q => c_1 (Int32.toInt_inj.mp q)
    refine lv_aload_n hx hb (oc_42 11 (aq_11 shX0_water_0)) rfl (lvA0 hl) ?_
    refine gf_RX0_30 S hK hP 0 rfl (v := .int x1) rfl (oc_180 12 (aq_12 shX0_water_0) uw_0_30) ?_
    refine lv_aload_n hx hb (oc_42 15 (aq_15 shX0_water_0)) rfl (lvA0 hl) ?_
    refine gf_RX0_24 S hK hP 0 rfl (v := .int x6) rfl (oc_180 16 (aq_16 shX0_water_0) uw_0_24) ?_
    refine lv_idiv hx hb (oc_108 19 (aq_19 shX0_water_0)) (by assumption) ?_
    exact W.iret (v := (x1 / x6)) hx hb hr (fun t ht hW => ⟨(x1 / x6), rfl, (if_neg (by assumption)).symm, ht⟩) (fun _ h => absurd h List.not_mem_nil) dX0_water_20
  ·
    have tc_1 : (x6.toInt : Int) = 0 := congrArg Int32.toInt c_1
    refine lv_iconst (v := 0) hx hb (oc_3 7 (aq_7 shX0_water_0)) kic_0 ?_
    refine lv_goto (tgt := 20) hx hb (oc_167 8 (aq_8 shX0_water_0) sgw_0_12) rfl ?_
    exact W.iret (v := 0) hx hb hr (fun t ht hW => ⟨0, rfl, (if_pos (by assumption)).symm, ht⟩) (fun _ h => absurd h List.not_mem_nil) dX0_water_20
set_option maxRecDepth 100000 in
set_option maxHeartbeats 4000000 in
theorem q_l_acid (l : Launch) (D : va_G) (cI cB cZ : ClassId) (bo w : Nat) (x1 x2 x3 x4 x5 x6 x7 : Int32) : Met l yX0_acid (CWS yX0_acid cX0_acid 1 (some .int)) (RM 0 0 0) (PBr [.ref bo] D cI cB cZ [(bo, .inr (1, [.ref w, .int x1, .int x2, .int x3, .int x4, .int x5, .int x6, .int x7]))]) (vp_Si (fun r => r = if x6 = 0 then 0 else x2 / x6)) 0 0 (fun _ => False) := by
  refine en_r rfl pn_RX0 (Nat.le_of_ble_eq_true rfl) (fun p e s m below meth c hx hb hml hown S hr hlocks hnm hP hK hS ls hl => ?_)
  have hP : va_P D vwCl [(bo, .inr (1, [.ref w, .int x1, .int x2, .int x3, .int x4, .int x5, .int x6, .int x7]))] s.heap := hP
  have hl : lv_has ls 1 [(0, .ref bo)] := hl
  refine lv_aload_n hx hb (oc_42 0 shX0_acid_0) rfl (lvA0 hl) ?_
  refine gf_RX0_24 S hK hP 0 rfl (v := .int x6) rfl (oc_180 1 (aq_1 shX0_acid_0) uw_0_24) ?_
  refine lv_if_ne (tgt := 11) hx hb (oc_154 4 (aq_4 shX0_acid_0) sgw_0_7) rfl (fun c_1 => ?_) (fun c_1 => ?_)
  ·
    have tc_1 : (x6.toInt : Int) ≠ 0 := fun q => c_1 (Int32.toInt_inj.mp q)
    refine lv_aload_n hx hb (oc_42 11 (aq_11 shX0_acid_0)) rfl (lvA0 hl) ?_
    refine gf_RX0_36 S hK hP 0 rfl (v := .int x2) rfl (oc_180 12 (aq_12 shX0_acid_0) uw_0_36) ?_
    refine lv_aload_n hx hb (oc_42 15 (aq_15 shX0_acid_0)) rfl (lvA0 hl) ?_
    refine gf_RX0_24 S hK hP 0 rfl (v := .int x6) rfl (oc_180 16 (aq_16 shX0_acid_0) uw_0_24) ?_
    refine lv_idiv hx hb (oc_108 19 (aq_19 shX0_acid_0)) (by assumption) ?_
    exact W.iret (v := (x2 / x6)) hx hb hr (fun t ht hW => ⟨(x2 / x6), rfl, (if_neg (by assumption)).symm, ht⟩) (fun _ h => absurd h List.not_mem_nil) dX0_acid_20
  ·
    have tc_1 : (x6.toInt : Int) = 0 := congrArg Int32.toInt c_1
    refine lv_iconst (v := 0) hx hb (oc_3 7 (aq_7 shX0_acid_0)) kic_0 ?_
    refine lv_goto (tgt := 20) hx hb (oc_167 8 (aq_8 shX0_acid_0) sgw_0_12) rfl ?_
    exact W.iret (v := 0) hx hb hr (fun t ht hW => ⟨0, rfl, (if_pos (by assumption)).symm, ht⟩) (fun _ h => absurd h List.not_mem_nil) dX0_acid_20
set_option maxRecDepth 100000 in
set_option maxHeartbeats 4000000 in
theorem q_Eflip (l : Launch) (D : va_G) (cI cB cZ : ClassId) (zz qq vv : Nat) (bt : Nat → Int32) (g : Nat → Nat) (ad : Nat → Nat → Nat) (cn : Nat → Nat) (In : Nat → Int32) (Fn : Nat → Nat → Int32) (bo w : Nat) (x1 x2 x3 x4 x5 x6 x7 : Int32) (v0 : Int32) (k0 : Nat) (ws : va_W) (sz : Nat) (hB : CBX cn) (hk : k0 < cn 11) : Met l yX0_flip (CWS yX0_flip cX0_flip 4 none) (RM 1 0 0) (PBx [.ref bo, .int v0, .ref (ad 11 k0)] D cI cB cZ zz qq vv bt ((wX cI (D.1 99) zz g ad cn In Fn) ++ (([(bo, .inr (1, [.ref w, .int x1, .int x2, .int x3, .int x4, .int x5, .int x6, .int x7]))] : va_W) ++ ws)) sz) (va_Qv (fun (u : (Nat → Nat → Nat) × (Nat → Nat) × (Nat → Int32) × (Nat → Nat → Int32) × va_W) => (fun a2 c2 I2 F2 W2 => ad = a2 ∧ cn = c2 ∧ In = I2 ∧ Fn = F2 ∧ ∃ sg : Int32, ((sg = -1 ∧ ¬ (x4 >>> (v0 &&& 31)) &&& 1 = 0) ∨ (sg = 1 ∧ (x4 >>> (v0 &&& 31)) &&& 1 = 0)) ∧ W2 = (([(bo, .inr (1, [.ref w, .int (x1 + sg * (Fn 122 k0) * (Fn 123 k0)), .int (x2 + sg * (Fn 122 k0) * (Fn 124 k0)), .int x3, .int (x4 ^^^ 1 <<< (v0 &&& 31)), .int (x5 + sg), .int (x6 + sg * (Fn 122 k0)), .int x7]))] : va_W) ++ ws)) u.1 u.2.1 u.2.2.1 u.2.2.2.1 u.2.2.2.2) (fun (u : (Nat → Nat → Nat) × (Nat → Nat) × (Nat → Int32) × (Nat → Nat → Int32) × va_W) (t : State) => va_P D vwCl (wX cI (D.1 99) zz g u.1 u.2.1 u.2.2.1 u.2.2.2.1 ++ u.2.2.2.2) t.heap ∧ va_D (va_A ((wX cI (D.1 99) zz g ad cn In Fn) ++ (([(bo, .inr (1, [.ref w, .int x1, .int x2, .int x3, .int x4, .int x5, .int x6, .int x7]))] : va_W) ++ ws)) sz) (wX cI (D.1 99) zz g u.1 u.2.1 u.2.2.1 u.2.2.2.1 ++ u.2.2.2.2)) (va_A ((wX cI (D.1 99) zz g ad cn In Fn) ++ (([(bo, .inr (1, [.ref w, .int x1, .int x2, .int x3, .int x4, .int x5, .int x6, .int x7]))] : va_W) ++ ws)) sz)) 0 0 (va_A ((wX cI (D.1 99) zz g ad cn In Fn) ++ (([(bo, .inr (1, [.ref w, .int x1, .int x2, .int x3, .int x4, .int x5, .int x6, .int x7]))] : va_W) ++ ws)) sz) := by
  refine en_x (fun A => (va_Qv (fun (u : (Nat → Nat → Nat) × (Nat → Nat) × (Nat → Int32) × (Nat → Nat → Int32) × va_W) => (fun (a2 : Nat → Nat → Nat) (c2 : Nat → Nat) (I2 : Nat → Int32) (F2 : Nat → Nat → Int32) (W2 : va_W) => ad = a2 ∧ cn = c2 ∧ In = I2 ∧ Fn = F2 ∧ ∃ sg : Int32, ((sg = -1 ∧ ¬ (x4 >>> (v0 &&& 31)) &&& 1 = 0) ∨ (sg = 1 ∧ (x4 >>> (v0 &&& 31)) &&& 1 = 0)) ∧ W2 = (([(bo, .inr (1, [.ref w, .int (x1 + sg * (Fn 122 k0) * (Fn 123 k0)), .int (x2 + sg * (Fn 122 k0) * (Fn 124 k0)), .int x3, .int (x4 ^^^ 1 <<< (v0 &&& 31)), .int (x5 + sg), .int (x6 + sg * (Fn 122 k0)), .int x7]))] : va_W) ++ ws)) u.1 u.2.1 u.2.2.1 u.2.2.2.1 u.2.2.2.2) (fun (u : (Nat → Nat → Nat) × (Nat → Nat) × (Nat → Int32) × (Nat → Nat → Int32) × va_W) (t : State) => va_P D vwCl (wX cI (D.1 99) zz g u.1 u.2.1 u.2.2.1 u.2.2.2.1 ++ u.2.2.2.2) t.heap ∧ va_D A (wX cI (D.1 99) zz g u.1 u.2.1 u.2.2.1 u.2.2.2.1 ++ u.2.2.2.2)) A)) rfl rfl pn_RX0 (Nat.le_of_ble_eq_true rfl) (fun p e s m below meth c A hx hb hml hown S hr hlocks hnm hA hP hK hD hXS hS ls hl => ?_)
  have hl : lv_has ls 4 [(0, .ref bo), (1, .int v0), (2, .ref (ad 11 k0))] := hl
  refine lv_aload_n hx hb (oc_42 0 shX0_flip_0) rfl (lvA0 hl) ?_
  refine lv_iload_n hx hb (oc_27 1 (aq_1 shX0_flip_0)) rfl (lvA1 hl) ?_
  refine vp_callSi (runV_r (As := [.int v0]) (rest := []) S (q_l_has l D cI cB cZ bo w x1 x2 x3 x4 x5 x6 x7 v0) kV_RX0_17 hK hP _ (one_is (exr (m := 0) rfl)) _ (exr (m := 0) rfl) rfl rfl ⟨Nat.le_of_ble_eq_true rfl, Nat.le_of_ble_eq_true rfl⟩ ⟨Nat.le_of_ble_eq_true rfl, Nat.le_of_ble_eq_true rfl⟩ rfl hl.1 rfl (Nat.le_of_ble_eq_true rfl) (oc_182 2 (aq_2 shX0_flip_0) uw_0_17)) (fun r_1 h_2 => ?_)
  rcases h_2 with ⟨rfl, h_2⟩ | ⟨rfl, h_2⟩
  ·
    refine lv_if_eq (tgt := 12) hx hb (oc_153 5 (aq_5 shX0_flip_0) sgw_0_7) rfl (fun h => absurd h cq_eq_1_0) (fun _ => ?_)
    refine lv_iconst (v := (-1)) hx hb (oc_2 8 (aq_8 shX0_flip_0)) kic_m1 ?_
    refine lv_goto (tgt := 13) hx hb (oc_167 9 (aq_9 shX0_flip_0) sgw_0_4) rfl ?_
    refine lv_istore_n (lv' := [(3, .int (-1)), (0, .ref bo), (1, .int v0), (2, .ref (ad 11 k0))]) hx hb (oc_62 13 (aq_13 shX0_flip_0)) rfl hl (ltb rfl) rfl (fun ls hl => ?_)
    refine lv_aload_n hx hb (oc_42 14 (aq_14 shX0_flip_0)) rfl (lvA1 hl) ?_
    refine lv_dup hx hb (oc_89 15 (aq_15 shX0_flip_0)) rfl ?_
    refine gf_RX0_13 S hK hP _ (exr (m := 0) rfl) (v := .int x4) rfl (oc_180 16 (aq_16 shX0_flip_0) uw_0_13) ?_
    refine lv_iconst (v := 1) hx hb (oc_4 19 (aq_19 shX0_flip_0)) kic_1 ?_
    refine lv_iload_n hx hb (oc_27 20 (aq_20 shX0_flip_0)) rfl (lvA2 hl) ?_
    refine lv_ishl hx hb (oc_120 21 (aq_21 shX0_flip_0)) ?_
    refine lv_ixor hx hb (oc_130 22 (aq_22 shX0_flip_0)) ?_
    refine pf_RX0_13 S hK hP hD hS _ (exr (m := 0) rfl) (v := .int (x4 ^^^ (1 <<< (v0 &&& 31)))) (Nat.le_of_ble_eq_true rfl) rfl rfl (oc_181 23 (aq_23 shX0_flip_0) uw_0_13) (fun H locs hP hD hS => ?_)
    have hP : va_P D vwCl ((wX cI (D.1 99) zz g ad cn In Fn) ++ (([(bo, .inr (1, [.ref w, .int x1, .int x2, .int x3, .int (x4 ^^^ (1 <<< (v0 &&& 31))), .int x5, .int x6, .int x7]))] : va_W) ++ ws)) H := va_P_eq (exs_r rfl) hP
    have hD : va_D A ((wX cI (D.1 99) zz g ad cn In Fn) ++ (([(bo, .inr (1, [.ref w, .int x1, .int x2, .int x3, .int (x4 ^^^ (1 <<< (v0 &&& 31))), .int x5, .int x6, .int x7]))] : va_W) ++ ws)) := va_D_eq (exs_r rfl) hD
    refine lv_aload_n hx hb (oc_42 26 shX0_flip_26) rfl (lvA1 hl) ?_
    refine lv_dup hx hb (oc_89 27 (aq_1 shX0_flip_26)) rfl ?_
    refine gf_RX0_21 S hK hP _ (exr (m := 0) rfl) (v := .int x5) rfl (oc_180 28 (aq_2 shX0_flip_26) uw_0_21) ?_
    refine lv_iload_n hx hb (oc_29 31 (aq_5 shX0_flip_26)) rfl (lvA0 hl) ?_
    refine lv_iadd hx hb (oc_96 32 (aq_6 shX0_flip_26)) ?_
    refine pf_RX0_21 S hK hP hD hS _ (exr (m := 0) rfl) (v := .int (x5 + (-1))) (Nat.le_of_ble_eq_true rfl) rfl rfl (oc_181 33 (aq_7 shX0_flip_26) uw_0_21) (fun H locs hP hD hS => ?_)
    have hP : va_P D vwCl ((wX cI (D.1 99) zz g ad cn In Fn) ++ (([(bo, .inr (1, [.ref w, .int x1, .int x2, .int x3, .int (x4 ^^^ (1 <<< (v0 &&& 31))), .int (x5 + (-1)), .int x6, .int x7]))] : va_W) ++ ws)) H := va_P_eq (exs_r rfl) hP
    have hD : va_D A ((wX cI (D.1 99) zz g ad cn In Fn) ++ (([(bo, .inr (1, [.ref w, .int x1, .int x2, .int x3, .int (x4 ^^^ (1 <<< (v0 &&& 31))), .int (x5 + (-1)), .int x6, .int x7]))] : va_W) ++ ws)) := va_D_eq (exs_r rfl) hD
    refine lv_aload_n hx hb (oc_42 36 (aq_10 shX0_flip_26)) rfl (lvA1 hl) ?_
    refine lv_dup hx hb (oc_89 37 (aq_11 shX0_flip_26)) rfl ?_
    refine gf_RX0_24 S hK hP _ (exr (m := 0) rfl) (v := .int x6) rfl (oc_180 38 (aq_12 shX0_flip_26) uw_0_24) ?_
    refine lv_iload_n hx hb (oc_29 41 (aq_15 shX0_flip_26)) rfl (lvA0 hl) ?_
    refine lv_aload_n hx hb (oc_44 42 (aq_16 shX0_flip_26)) rfl (lvA3 hl) ?_
    refine gf_RX0_27 S hK hP _ (exl (xf_1 (by omega))) (v := .int ((Fn 122) k0)) rfl (oc_180 43 (aq_17 shX0_flip_26) uw_0_27) ?_
    refine lv_imul hx hb (oc_104 46 (aq_20 shX0_flip_26)) ?_
    refine lv_iadd hx hb (oc_96 47 (aq_21 shX0_flip_26)) ?_
    refine pf_RX0_24 S hK hP hD hS _ (exr (m := 0) rfl) (v := .int (x6 + ((-1) * ((Fn 122) k0)))) (Nat.le_of_ble_eq_true rfl) rfl rfl (oc_181 48 (aq_22 shX0_flip_26) uw_0_24) (fun H locs hP hD hS => ?_)
    have hP : va_P D vwCl ((wX cI (D.1 99) zz g ad cn In Fn) ++ (([(bo, .inr (1, [.ref w, .int x1, .int x2, .int x3, .int (x4 ^^^ (1 <<< (v0 &&& 31))), .int (x5 + (-1)), .int (x6 + ((-1) * ((Fn 122) k0))), .int x7]))] : va_W) ++ ws)) H := va_P_eq (exs_r rfl) hP
    have hD : va_D A ((wX cI (D.1 99) zz g ad cn In Fn) ++ (([(bo, .inr (1, [.ref w, .int x1, .int x2, .int x3, .int (x4 ^^^ (1 <<< (v0 &&& 31))), .int (x5 + (-1)), .int (x6 + ((-1) * ((Fn 122) k0))), .int x7]))] : va_W) ++ ws)) := va_D_eq (exs_r rfl) hD
    refine lv_aload_n hx hb (oc_42 51 shX0_flip_51) rfl (lvA1 hl) ?_
    refine lv_dup hx hb (oc_89 52 (aq_1 shX0_flip_51)) rfl ?_
    refine gf_RX0_30 S hK hP _ (exr (m := 0) rfl) (v := .int x1) rfl (oc_180 53 (aq_2 shX0_flip_51) uw_0_30) ?_
    refine lv_iload_n hx hb (oc_29 56 (aq_5 shX0_flip_51)) rfl (lvA0 hl) ?_
    refine lv_aload_n hx hb (oc_44 57 (aq_6 shX0_flip_51)) rfl (lvA3 hl) ?_
    refine gf_RX0_27 S hK hP _ (exl (xf_1 (by omega))) (v := .int ((Fn 122) k0)) rfl (oc_180 58 (aq_7 shX0_flip_51) uw_0_27) ?_
    refine lv_imul hx hb (oc_104 61 (aq_10 shX0_flip_51)) ?_
    refine lv_aload_n hx hb (oc_44 62 (aq_11 shX0_flip_51)) rfl (lvA3 hl) ?_
    refine gf_RX0_33 S hK hP _ (exl (xf_1 (by omega))) (v := .int ((Fn 123) k0)) rfl (oc_180 63 (aq_12 shX0_flip_51) uw_0_33) ?_
    refine lv_imul hx hb (oc_104 66 (aq_15 shX0_flip_51)) ?_
    refine lv_iadd hx hb (oc_96 67 (aq_16 shX0_flip_51)) ?_
    refine pf_RX0_30 S hK hP hD hS _ (exr (m := 0) rfl) (v := .int (x1 + (((-1) * ((Fn 122) k0)) * ((Fn 123) k0)))) (Nat.le_of_ble_eq_true rfl) rfl rfl (oc_181 68 (aq_17 shX0_flip_51) uw_0_30) (fun H locs hP hD hS => ?_)
    have hP : va_P D vwCl ((wX cI (D.1 99) zz g ad cn In Fn) ++ (([(bo, .inr (1, [.ref w, .int (x1 + (((-1) * ((Fn 122) k0)) * ((Fn 123) k0))), .int x2, .int x3, .int (x4 ^^^ (1 <<< (v0 &&& 31))), .int (x5 + (-1)), .int (x6 + ((-1) * ((Fn 122) k0))), .int x7]))] : va_W) ++ ws)) H := va_P_eq (exs_r rfl) hP
    have hD : va_D A ((wX cI (D.1 99) zz g ad cn In Fn) ++ (([(bo, .inr (1, [.ref w, .int (x1 + (((-1) * ((Fn 122) k0)) * ((Fn 123) k0))), .int x2, .int x3, .int (x4 ^^^ (1 <<< (v0 &&& 31))), .int (x5 + (-1)), .int (x6 + ((-1) * ((Fn 122) k0))), .int x7]))] : va_W) ++ ws)) := va_D_eq (exs_r rfl) hD
    refine lv_aload_n hx hb (oc_42 71 (aq_20 shX0_flip_51)) rfl (lvA1 hl) ?_
    refine lv_dup hx hb (oc_89 72 (aq_21 shX0_flip_51)) rfl ?_
    refine gf_RX0_36 S hK hP _ (exr (m := 0) rfl) (v := .int x2) rfl (oc_180 73 (aq_22 shX0_flip_51) uw_0_36) ?_
    refine lv_iload_n hx hb (oc_29 76 shX0_flip_76) rfl (lvA0 hl) ?_
    refine lv_aload_n hx hb (oc_44 77 (aq_1 shX0_flip_76)) rfl (lvA3 hl) ?_
    refine gf_RX0_27 S hK hP _ (exl (xf_1 (by omega))) (v := .int ((Fn 122) k0)) rfl (oc_180 78 (aq_2 shX0_flip_76) uw_0_27) ?_
    refine lv_imul hx hb (oc_104 81 (aq_5 shX0_flip_76)) ?_
    refine lv_aload_n hx hb (oc_44 82 (aq_6 shX0_flip_76)) rfl (lvA3 hl) ?_
    refine gf_RX0_39 S hK hP _ (exl (xf_1 (by omega))) (v := .int ((Fn 124) k0)) rfl (oc_180 83 (aq_7 shX0_flip_76) uw_0_39) ?_
    refine lv_imul hx hb (oc_104 86 (aq_10 shX0_flip_76)) ?_
    refine lv_iadd hx hb (oc_96 87 (aq_11 shX0_flip_76)) ?_
    refine pf_RX0_36 S hK hP hD hS _ (exr (m := 0) rfl) (v := .int (x2 + (((-1) * ((Fn 122) k0)) * ((Fn 124) k0)))) (Nat.le_of_ble_eq_true rfl) rfl rfl (oc_181 88 (aq_12 shX0_flip_76) uw_0_36) (fun H locs hP hD hS => ?_)
    have hP : va_P D vwCl ((wX cI (D.1 99) zz g ad cn In Fn) ++ (([(bo, .inr (1, [.ref w, .int (x1 + (((-1) * ((Fn 122) k0)) * ((Fn 123) k0))), .int (x2 + (((-1) * ((Fn 122) k0)) * ((Fn 124) k0))), .int x3, .int (x4 ^^^ (1 <<< (v0 &&& 31))), .int (x5 + (-1)), .int (x6 + ((-1) * ((Fn 122) k0))), .int x7]))] : va_W) ++ ws)) H := va_P_eq (exs_r rfl) hP
    have hD : va_D A ((wX cI (D.1 99) zz g ad cn In Fn) ++ (([(bo, .inr (1, [.ref w, .int (x1 + (((-1) * ((Fn 122) k0)) * ((Fn 123) k0))), .int (x2 + (((-1) * ((Fn 122) k0)) * ((Fn 124) k0))), .int x3, .int (x4 ^^^ (1 <<< (v0 &&& 31))), .int (x5 + (-1)), .int (x6 + ((-1) * ((Fn 122) k0))), .int x7]))] : va_W) ++ ws)) := va_D_eq (exs_r rfl) hD
    exact W.vret hx hb hr (fun t ht hW => ⟨⟨(ad, cn, In, Fn, (([(bo, .inr (1, [.ref w, .int (x1 + (((-1) * ((Fn 122) k0)) * ((Fn 123) k0))), .int (x2 + (((-1) * ((Fn 122) k0)) * ((Fn 124) k0))), .int x3, .int (x4 ^^^ (1 <<< (v0 &&& 31))), .int (x5 + (-1)), .int (x6 + ((-1) * ((Fn 122) k0))), .int x7]))] : va_W) ++ ws)), rfl, ⟨rfl, rfl, rfl, rfl, (-1), Or.inl ⟨rfl, h_2⟩, rfl⟩, by rw [ht]; exact hP, hD⟩, hS.F ht⟩) hS.2.2 (oc_177 91 (aq_15 shX0_flip_76))
  ·
    refine lv_if_eq (tgt := 12) hx hb (oc_153 5 (aq_5 shX0_flip_0) sgw_0_7) rfl (fun _ => ?_) (fun h => absurd h cq_eq_0_0)
    refine lv_iconst (v := 1) hx hb (oc_4 12 (aq_12 shX0_flip_0)) kic_1 ?_
    refine lv_istore_n (lv' := [(3, .int 1), (0, .ref bo), (1, .int v0), (2, .ref (ad 11 k0))]) hx hb (oc_62 13 (aq_13 shX0_flip_0)) rfl hl (ltb rfl) rfl (fun ls hl => ?_)
    refine lv_aload_n hx hb (oc_42 14 (aq_14 shX0_flip_0)) rfl (lvA1 hl) ?_
    refine lv_dup hx hb (oc_89 15 (aq_15 shX0_flip_0)) rfl ?_
    refine gf_RX0_13 S hK hP _ (exr (m := 0) rfl) (v := .int x4) rfl (oc_180 16 (aq_16 shX0_flip_0) uw_0_13) ?_
    refine lv_iconst (v := 1) hx hb (oc_4 19 (aq_19 shX0_flip_0)) kic_1 ?_
    refine lv_iload_n hx hb (oc_27 20 (aq_20 shX0_flip_0)) rfl (lvA2 hl) ?_
    refine lv_ishl hx hb (oc_120 21 (aq_21 shX0_flip_0)) ?_
    refine lv_ixor hx hb (oc_130 22 (aq_22 shX0_flip_0)) ?_
    refine pf_RX0_13 S hK hP hD hS _ (exr (m := 0) rfl) (v := .int (x4 ^^^ (1 <<< (v0 &&& 31)))) (Nat.le_of_ble_eq_true rfl) rfl rfl (oc_181 23 (aq_23 shX0_flip_0) uw_0_13) (fun H locs hP hD hS => ?_)
    have hP : va_P D vwCl ((wX cI (D.1 99) zz g ad cn In Fn) ++ (([(bo, .inr (1, [.ref w, .int x1, .int x2, .int x3, .int (x4 ^^^ (1 <<< (v0 &&& 31))), .int x5, .int x6, .int x7]))] : va_W) ++ ws)) H := va_P_eq (exs_r rfl) hP
    have hD : va_D A ((wX cI (D.1 99) zz g ad cn In Fn) ++ (([(bo, .inr (1, [.ref w, .int x1, .int x2, .int x3, .int (x4 ^^^ (1 <<< (v0 &&& 31))), .int x5, .int x6, .int x7]))] : va_W) ++ ws)) := va_D_eq (exs_r rfl) hD
    refine lv_aload_n hx hb (oc_42 26 shX0_flip_26) rfl (lvA1 hl) ?_
    refine lv_dup hx hb (oc_89 27 (aq_1 shX0_flip_26)) rfl ?_
    refine gf_RX0_21 S hK hP _ (exr (m := 0) rfl) (v := .int x5) rfl (oc_180 28 (aq_2 shX0_flip_26) uw_0_21) ?_
    refine lv_iload_n hx hb (oc_29 31 (aq_5 shX0_flip_26)) rfl (lvA0 hl) ?_
    refine lv_iadd hx hb (oc_96 32 (aq_6 shX0_flip_26)) ?_
    refine pf_RX0_21 S hK hP hD hS _ (exr (m := 0) rfl) (v := .int (x5 + 1)) (Nat.le_of_ble_eq_true rfl) rfl rfl (oc_181 33 (aq_7 shX0_flip_26) uw_0_21) (fun H locs hP hD hS => ?_)
    have hP : va_P D vwCl ((wX cI (D.1 99) zz g ad cn In Fn) ++ (([(bo, .inr (1, [.ref w, .int x1, .int x2, .int x3, .int (x4 ^^^ (1 <<< (v0 &&& 31))), .int (x5 + 1), .int x6, .int x7]))] : va_W) ++ ws)) H := va_P_eq (exs_r rfl) hP
    have hD : va_D A ((wX cI (D.1 99) zz g ad cn In Fn) ++ (([(bo, .inr (1, [.ref w, .int x1, .int x2, .int x3, .int (x4 ^^^ (1 <<< (v0 &&& 31))), .int (x5 + 1), .int x6, .int x7]))] : va_W) ++ ws)) := va_D_eq (exs_r rfl) hD
    refine lv_aload_n hx hb (oc_42 36 (aq_10 shX0_flip_26)) rfl (lvA1 hl) ?_
    refine lv_dup hx hb (oc_89 37 (aq_11 shX0_flip_26)) rfl ?_
    refine gf_RX0_24 S hK hP _ (exr (m := 0) rfl) (v := .int x6) rfl (oc_180 38 (aq_12 shX0_flip_26) uw_0_24) ?_
    refine lv_iload_n hx hb (oc_29 41 (aq_15 shX0_flip_26)) rfl (lvA0 hl) ?_
    refine lv_aload_n hx hb (oc_44 42 (aq_16 shX0_flip_26)) rfl (lvA3 hl) ?_
    refine gf_RX0_27 S hK hP _ (exl (xf_1 (by omega))) (v := .int ((Fn 122) k0)) rfl (oc_180 43 (aq_17 shX0_flip_26) uw_0_27) ?_
    refine lv_imul hx hb (oc_104 46 (aq_20 shX0_flip_26)) ?_
    refine lv_iadd hx hb (oc_96 47 (aq_21 shX0_flip_26)) ?_
    refine pf_RX0_24 S hK hP hD hS _ (exr (m := 0) rfl) (v := .int (x6 + (1 * ((Fn 122) k0)))) (Nat.le_of_ble_eq_true rfl) rfl rfl (oc_181 48 (aq_22 shX0_flip_26) uw_0_24) (fun H locs hP hD hS => ?_)
    have hP : va_P D vwCl ((wX cI (D.1 99) zz g ad cn In Fn) ++ (([(bo, .inr (1, [.ref w, .int x1, .int x2, .int x3, .int (x4 ^^^ (1 <<< (v0 &&& 31))), .int (x5 + 1), .int (x6 + (1 * ((Fn 122) k0))), .int x7]))] : va_W) ++ ws)) H := va_P_eq (exs_r rfl) hP
    have hD : va_D A ((wX cI (D.1 99) zz g ad cn In Fn) ++ (([(bo, .inr (1, [.ref w, .int x1, .int x2, .int x3, .int (x4 ^^^ (1 <<< (v0 &&& 31))), .int (x5 + 1), .int (x6 + (1 * ((Fn 122) k0))), .int x7]))] : va_W) ++ ws)) := va_D_eq (exs_r rfl) hD
    refine lv_aload_n hx hb (oc_42 51 shX0_flip_51) rfl (lvA1 hl) ?_
    refine lv_dup hx hb (oc_89 52 (aq_1 shX0_flip_51)) rfl ?_
    refine gf_RX0_30 S hK hP _ (exr (m := 0) rfl) (v := .int x1) rfl (oc_180 53 (aq_2 shX0_flip_51) uw_0_30) ?_
    refine lv_iload_n hx hb (oc_29 56 (aq_5 shX0_flip_51)) rfl (lvA0 hl) ?_
    refine lv_aload_n hx hb (oc_44 57 (aq_6 shX0_flip_51)) rfl (lvA3 hl) ?_
    refine gf_RX0_27 S hK hP _ (exl (xf_1 (by omega))) (v := .int ((Fn 122) k0)) rfl (oc_180 58 (aq_7 shX0_flip_51) uw_0_27) ?_
    refine lv_imul hx hb (oc_104 61 (aq_10 shX0_flip_51)) ?_
    refine lv_aload_n hx hb (oc_44 62 (aq_11 shX0_flip_51)) rfl (lvA3 hl) ?_
    refine gf_RX0_33 S hK hP _ (exl (xf_1 (by omega))) (v := .int ((Fn 123) k0)) rfl (oc_180 63 (aq_12 shX0_flip_51) uw_0_33) ?_
    refine lv_imul hx hb (oc_104 66 (aq_15 shX0_flip_51)) ?_
    refine lv_iadd hx hb (oc_96 67 (aq_16 shX0_flip_51)) ?_
    refine pf_RX0_30 S hK hP hD hS _ (exr (m := 0) rfl) (v := .int (x1 + ((1 * ((Fn 122) k0)) * ((Fn 123) k0)))) (Nat.le_of_ble_eq_true rfl) rfl rfl (oc_181 68 (aq_17 shX0_flip_51) uw_0_30) (fun H locs hP hD hS => ?_)
    have hP : va_P D vwCl ((wX cI (D.1 99) zz g ad cn In Fn) ++ (([(bo, .inr (1, [.ref w, .int (x1 + ((1 * ((Fn 122) k0)) * ((Fn 123) k0))), .int x2, .int x3, .int (x4 ^^^ (1 <<< (v0 &&& 31))), .int (x5 + 1), .int (x6 + (1 * ((Fn 122) k0))), .int x7]))] : va_W) ++ ws)) H := va_P_eq (exs_r rfl) hP
    have hD : va_D A ((wX cI (D.1 99) zz g ad cn In Fn) ++ (([(bo, .inr (1, [.ref w, .int (x1 + ((1 * ((Fn 122) k0)) * ((Fn 123) k0))), .int x2, .int x3, .int (x4 ^^^ (1 <<< (v0 &&& 31))), .int (x5 + 1), .int (x6 + (1 * ((Fn 122) k0))), .int x7]))] : va_W) ++ ws)) := va_D_eq (exs_r rfl) hD
    refine lv_aload_n hx hb (oc_42 71 (aq_20 shX0_flip_51)) rfl (lvA1 hl) ?_
    refine lv_dup hx hb (oc_89 72 (aq_21 shX0_flip_51)) rfl ?_
    refine gf_RX0_36 S hK hP _ (exr (m := 0) rfl) (v := .int x2) rfl (oc_180 73 (aq_22 shX0_flip_51) uw_0_36) ?_
    refine lv_iload_n hx hb (oc_29 76 shX0_flip_76) rfl (lvA0 hl) ?_
    refine lv_aload_n hx hb (oc_44 77 (aq_1 shX0_flip_76)) rfl (lvA3 hl) ?_
    refine gf_RX0_27 S hK hP _ (exl (xf_1 (by omega))) (v := .int ((Fn 122) k0)) rfl (oc_180 78 (aq_2 shX0_flip_76) uw_0_27) ?_
    refine lv_imul hx hb (oc_104 81 (aq_5 shX0_flip_76)) ?_
    refine lv_aload_n hx hb (oc_44 82 (aq_6 shX0_flip_76)) rfl (lvA3 hl) ?_
    refine gf_RX0_39 S hK hP _ (exl (xf_1 (by omega))) (v := .int ((Fn 124) k0)) rfl (oc_180 83 (aq_7 shX0_flip_76) uw_0_39) ?_
    refine lv_imul hx hb (oc_104 86 (aq_10 shX0_flip_76)) ?_
    refine lv_iadd hx hb (oc_96 87 (aq_11 shX0_flip_76)) ?_
    refine pf_RX0_36 S hK hP hD hS _ (exr (m := 0) rfl) (v := .int (x2 + ((1 * ((Fn 122) k0)) * ((Fn 124) k0)))) (Nat.le_of_ble_eq_true rfl) rfl rfl (oc_181 88 (aq_12 shX0_flip_76) uw_0_36) (fun H locs hP hD hS => ?_)
    have hP : va_P D vwCl ((wX cI (D.1 99) zz g ad cn In Fn) ++ (([(bo, .inr (1, [.ref w, .int (x1 + ((1 * ((Fn 122) k0)) * ((Fn 123) k0))), .int (x2 + ((1 * ((Fn 122) k0)) * ((Fn 124) k0))), .int x3, .int (x4 ^^^ (1 <<< (v0 &&& 31))), .int (x5 + 1), .int (x6 + (1 * ((Fn 122) k0))), .int x7]))] : va_W) ++ ws)) H := va_P_eq (exs_r rfl) hP
    have hD : va_D A ((wX cI (D.1 99) zz g ad cn In Fn) ++ (([(bo, .inr (1, [.ref w, .int (x1 + ((1 * ((Fn 122) k0)) * ((Fn 123) k0))), .int (x2 + ((1 * ((Fn 122) k0)) * ((Fn 124) k0))), .int x3, .int (x4 ^^^ (1 <<< (v0 &&& 31))), .int (x5 + 1), .int (x6 + (1 * ((Fn 122) k0))), .int x7]))] : va_W) ++ ws)) := va_D_eq (exs_r rfl) hD
    exact W.vret hx hb hr (fun t ht hW => ⟨⟨(ad, cn, In, Fn, (([(bo, .inr (1, [.ref w, .int (x1 + ((1 * ((Fn 122) k0)) * ((Fn 123) k0))), .int (x2 + ((1 * ((Fn 122) k0)) * ((Fn 124) k0))), .int x3, .int (x4 ^^^ (1 <<< (v0 &&& 31))), .int (x5 + 1), .int (x6 + (1 * ((Fn 122) k0))), .int x7]))] : va_W) ++ ws)), rfl, ⟨rfl, rfl, rfl, rfl, 1, Or.inr ⟨rfl, h_2⟩, rfl⟩, by rw [ht]; exact hP, hD⟩, hS.F ht⟩) hS.2.2 (oc_177 91 (aq_15 shX0_flip_76))
set_option maxRecDepth 100000 in
set_option maxHeartbeats 4000000 in
theorem q_Emixed (l : Launch) (D : va_G) (cI cB cZ : ClassId) (zz qq vv : Nat) (bt : Nat → Int32) (g : Nat → Nat) (ad : Nat → Nat → Nat) (cn : Nat → Nat) (In : Nat → Int32) (Fn : Nat → Nat → Int32) (v0 : Int32) (sz : Nat) (hB : CBX cn) : Met l yX11_mixed (CWS yX11_mixed cX11_mixed 5 (some (.object "OilHome$Batch"))) (RM 4 2 20) (PBx [.ref (g 0), .int v0] D cI cB cZ zz qq vv bt (wX cI (D.1 99) zz g ad cn In Fn) sz) (va_Qq (fun (r : Option Nat) (u : (Nat → Nat → Nat) × (Nat → Nat) × (Nat → Int32) × (Nat → Nat → Int32) × va_W) => (fun r a2 c2 I2 F2 W2 => ad = a2 ∧ cn = c2 ∧ In = I2 ∧ Fn = F2 ∧ ((r = none ∧ W2 = []) ∨ ∃ (bo w : Nat) (x1 x2 x4 x5 x6 : Int32), r = some bo ∧ W2 = ([(bo, .inr (1, [.ref w, .int x1, .int x2, .int 0, .int x4, .int x5, .int x6, .int 0])), (w, .inl (cI, 12, .inl (fun _ => 0)))] : va_W))) r u.1 u.2.1 u.2.2.1 u.2.2.2.1 u.2.2.2.2) (fun (u : (Nat → Nat → Nat) × (Nat → Nat) × (Nat → Int32) × (Nat → Nat → Int32) × va_W) (t : State) => va_P D vwCl (wX cI (D.1 99) zz g u.1 u.2.1 u.2.2.1 u.2.2.2.1 ++ u.2.2.2.2) t.heap ∧ va_D (va_A (wX cI (D.1 99) zz g ad cn In Fn) sz) (wX cI (D.1 99) zz g u.1 u.2.1 u.2.2.1 u.2.2.2.1 ++ u.2.2.2.2)) (va_A (wX cI (D.1 99) zz g ad cn In Fn) sz)) 2 20 (va_A (wX cI (D.1 99) zz g ad cn In Fn) sz) := by
  refine en_x (fun A => (va_Qq (fun (r : Option Nat) (u : (Nat → Nat → Nat) × (Nat → Nat) × (Nat → Int32) × (Nat → Nat → Int32) × va_W) => (fun (r : Option Nat) (a2 : Nat → Nat → Nat) (c2 : Nat → Nat) (I2 : Nat → Int32) (F2 : Nat → Nat → Int32) (W2 : va_W) => ad = a2 ∧ cn = c2 ∧ In = I2 ∧ Fn = F2 ∧ ((r = none ∧ W2 = []) ∨ ∃ (bo w : Nat) (x1 x2 x4 x5 x6 : Int32), r = some bo ∧ W2 = ([(bo, .inr (1, [.ref w, .int x1, .int x2, .int 0, .int x4, .int x5, .int x6, .int 0])), (w, .inl (cI, 12, .inl (fun _ => 0)))] : va_W))) r u.1 u.2.1 u.2.2.1 u.2.2.2.1 u.2.2.2.2) (fun (u : (Nat → Nat → Nat) × (Nat → Nat) × (Nat → Int32) × (Nat → Nat → Int32) × va_W) (t : State) => va_P D vwCl (wX cI (D.1 99) zz g u.1 u.2.1 u.2.2.1 u.2.2.2.1 ++ u.2.2.2.2) t.heap ∧ va_D A (wX cI (D.1 99) zz g u.1 u.2.1 u.2.2.1 u.2.2.2.1 ++ u.2.2.2.2)) A)) rfl rfl pn_RX11 (Nat.le_of_ble_eq_true rfl) (fun p e s m below meth c A hx hb hml hown S hr hlocks hnm hA hP hK hD hXS hS ls hl => ?_)
  have hl : lv_has ls 5 [(0, .ref (g 0)), (1, .int v0)] := hl
  refine va_new (ci := 1) (fs := [.null, .int 0, .int 0, .int 0, .int 0, .int 0, .int 0, .int 0]) (C := RX0) (T := TX0) (N := 8) hx hb S.2.2.2.2 hin_RX0 tyX0 tyX0_ok hown (S.2.2.2.2 _ (wk4_17 7 rfl rfl)) (S.2.2.2.2 _ (wk4_17 8 rfl rfl)) (S.2.2.2.2 _ (wk1_1 11 rfl rfl)) hK.1 hP hD hS hA rfl (by decide +kernel) (Nat.le_of_ble_eq_true rfl) (Nat.le_of_ble_eq_true rfl) (oc_187 0 shX11_mixed_0 uw_0_95) (fun q0 H hP hD hS => ?_)
  have hP : va_P D vwCl ((wX cI (D.1 99) zz g ad cn In Fn) ++ ([(q0, .inr (1, [.null, .int 0, .int 0, .int 0, .int 0, .int 0, .int 0, .int 0]))] : va_W)) H := hP
  have hD : va_D A ((wX cI (D.1 99) zz g ad cn In Fn) ++ ([(q0, .inr (1, [.null, .int 0, .int 0, .int 0, .int 0, .int 0, .int 0, .int 0]))] : va_W)) := hD
  refine lv_dup hx hb (oc_89 3 (aq_3 shX11_mixed_0)) rfl ?_
  have hFc := va_free (wc := [(q0, .inr (1, [.null, .int 0, .int 0, .int 0, .int 0, .int 0, .int 0, .int 0]))]) hD hS hA [_] (one_im (exr (m := 0) rfl))
  refine va_callv (runIN_w (As := []) (rest := [.ref q0]) S (q_l_Batch l D cI cB cZ q0 H.size) hK.2.2.2 ⟨⟨wk4_17 10 rfl rfl, wk1_1 11 rfl rfl, wk4_17 11 rfl rfl⟩, rfl, by decide, by decide, by decide +kernel⟩ hK hP hD [_] (one_is (exr (m := 0) rfl)) (one_im (exr (m := 0) rfl)) rfl ⟨Nat.le_of_ble_eq_true rfl, Nat.le_of_ble_eq_true rfl⟩ ⟨Nat.le_of_ble_eq_true rfl, Nat.le_of_ble_eq_true rfl⟩ rfl hl.1 rfl (Nat.le_of_ble_eq_true rfl) (oc_183 4 (aq_4 shX11_mixed_0) uw_1_97)) hS (fun q _ h => hFc q h) hFc (fun u_1 t H1 locs ht hvm h_2 hB1 hz1 hk1 hS => ?_)
  obtain ⟨hP1, hD1⟩ := hB1
  rw [ht] at hP1
  obtain ⟨hP, hD⟩ := exjoin hP hD hk1 hFc hP1 hD1
  generalize H1 = H at hP hS ⊢
  have hP : va_P D vwCl ((wX cI (D.1 99) zz g ad cn In Fn) ++ ([(q0, .inr (1, [.ref u_1, .int 0, .int 0, .int 0, .int 0, .int 0, .int 0, .int 0])), (u_1, .inl (cI, 12, .inl (fun _ => 0)))] : va_W)) H := hP
  have hD : va_D A ((wX cI (D.1 99) zz g ad cn In Fn) ++ ([(q0, .inr (1, [.ref u_1, .int 0, .int 0, .int 0, .int 0, .int 0, .int 0, .int 0])), (u_1, .inl (cI, 12, .inl (fun _ => 0)))] : va_W)) := hD
  refine lv_astore_n (lv' := [(2, .ref q0), (0, .ref (g 0)), (1, .int v0)]) hx hb (oc_77 7 (aq_7 shX11_mixed_0)) rfl hl (ltb rfl) rfl (fun ls hl => ?_)
  refine lv_iconst (v := 0) hx hb (oc_3 8 (aq_8 shX11_mixed_0)) kic_0 ?_
  refine lv_istore_n (lv' := [(3, .int 0), (2, .ref q0), (0, .ref (g 0)), (1, .int v0)]) hx hb (oc_62 9 (aq_9 shX11_mixed_0)) rfl hl (ltb rfl) rfl (fun ls hl => ?_)
  have lp_10 : ∀ (n : Nat) (i10 : Nat) (b10_01 : Int32) (b10_02 : Int32) (b10_04 : Int32) (b10_05 : Int32) (b10_06 : Int32) (H : Heap) (locs : List Loc) , 20 - i10 < n → (i10 ≤ 20 ∧ Fr [] [] [] cn In Fn cn In Fn) → va_P D vwCl ((wX cI (D.1 99) zz g ad cn In Fn) ++ ([(q0, .inr (1, [.ref u_1, .int b10_01, .int b10_02, .int 0, .int b10_04, .int b10_05, .int b10_06, .int 0])), (u_1, .inl (cI, 12, .inl (fun _ => 0)))] : va_W)) H → va_D A ((wX cI (D.1 99) zz g ad cn In Fn) ++ ([(q0, .inr (1, [.ref u_1, .int b10_01, .int b10_02, .int 0, .int b10_04, .int b10_05, .int b10_06, .int 0])), (u_1, .inl (cI, 12, .inl (fun _ => 0)))] : va_W)) → va_S A s.heap H locs → ∀ ls : Array Slot, lv_has ls 5 [(3, .int (nI i10)), (2, .ref q0), (0, .ref (g 0)), (1, .int v0)] → W p l e (RM 4 2 20) s m ([.ref (g 0), .int v0]).toArray below meth c H locs 2 20 (MQ below (va_Qq (fun (r : Option Nat) (u : (Nat → Nat → Nat) × (Nat → Nat) × (Nat → Int32) × (Nat → Nat → Int32) × va_W) => (fun r a2 c2 I2 F2 W2 => ad = a2 ∧ cn = c2 ∧ In = I2 ∧ Fn = F2 ∧ ((r = none ∧ W2 = []) ∨ ∃ (bo w : Nat) (x1 x2 x4 x5 x6 : Int32), r = some bo ∧ W2 = ([(bo, .inr (1, [.ref w, .int x1, .int x2, .int 0, .int x4, .int x5, .int x6, .int 0])), (w, .inl (cI, 12, .inl (fun _ => 0)))] : va_W))) r u.1 u.2.1 u.2.2.1 u.2.2.2.1 u.2.2.2.2) (fun (u : (Nat → Nat → Nat) × (Nat → Nat) × (Nat → Int32) × (Nat → Nat → Int32) × va_W) (t : State) => va_P D vwCl (wX cI (D.1 99) zz g u.1 u.2.1 u.2.2.1 u.2.2.2.1 ++ u.2.2.2.2) t.heap ∧ va_D A (wX cI (D.1 99) zz g u.1 u.2.1 u.2.2.1 u.2.2.2.1 ++ u.2.2.2.2)) A) ([.ref (g 0), .int v0]).toArray s 2 20 A) (F0 m 10 ls []) := by
    intro n10
    induction n10 with
    | zero => intros; omega
    | succ n10 ih10 =>
      intro i10 b10_01 b10_02 b10_04 b10_05 b10_06  H locs hmu10 hinv10 hP hD hS ls hl
      obtain ⟨hr10, hfr10⟩ := hinv10
      have ti10 : (nI i10).toInt = (i10 : Int) := nI_toInt (by omega)
      refine lv_iload_n hx hb (oc_29 10 (aq_10 shX11_mixed_0)) rfl (lvA0 hl) ?_
      refine lv_bipush (v := 20) hx hb (oc_16 11 (aq_11 shX11_mixed_0) sgb_20) kbc_20 ?_
      refine lv_icmp_ge (tgt := 63) hx hb (oc_162 13 (aq_13 shX11_mixed_0) sgw_0_50) rfl (fun c_3 => ?_) (fun c_3 => ?_)
      ·
        have tc_3 : (20 : Int) ≤ (nI i10).toInt := Int32.le_iff_toInt_le.mp c_3
        refine lv_aload_n hx hb (oc_44 63 (aq_15 shX11_mixed_48)) rfl (lvA1 hl) ?_
        exact W.aret (v := .ref q0) hx hb hr (Or.inl ⟨_, rfl⟩) (Or.inr ⟨_, rfl⟩) (fun t ht hW => ⟨⟨some q0, (ad, cn, In, Fn, ([(q0, .inr (1, [.ref u_1, .int b10_01, .int b10_02, .int 0, .int b10_04, .int b10_05, .int b10_06, .int 0])), (u_1, .inl (cI, 12, .inl (fun _ => 0)))] : va_W)), rfl, ⟨rfl, rfl, rfl, rfl, Or.inr ⟨q0, u_1, b10_01, b10_02, b10_04, b10_05, b10_06, rfl, rfl⟩⟩, by rw [ht]; exact hP, hD⟩, hS.F ht⟩) hS.2.2 (oc_176 64 (aq_16 shX11_mixed_48))
      ·
        have tc_3 : ((nI i10).toInt : Int) < 20 := Int32.lt_iff_toInt_lt.mp (Int32.not_le.mp c_3)
        refine lv_iload_n hx hb (oc_27 16 (aq_16 shX11_mixed_0)) rfl (lvA3 hl) ?_
        refine lv_iload_n hx hb (oc_29 17 (aq_17 shX11_mixed_0)) rfl (lvA0 hl) ?_
        refine lv_ishr hx hb (oc_122 18 (aq_18 shX11_mixed_0)) ?_
        refine lv_iconst (v := 1) hx hb (oc_4 19 (aq_19 shX11_mixed_0)) kic_1 ?_
        refine lv_iand hx hb (oc_126 20 (aq_20 shX11_mixed_0)) ?_
        refine lv_if_ne (tgt := 27) hx hb (oc_154 21 (aq_21 shX11_mixed_0) sgw_0_6) rfl (fun c_4 => ?_) (fun c_4 => ?_)
        ·
          have tc_4 : (((v0 >>> ((nI i10) &&& 31)) &&& 1).toInt : Int) ≠ 0 := fun q => c_4 (Int32.toInt_inj.mp q)
          refine lv_aload_n hx hb (oc_42 27 (aq_3 shX11_mixed_24)) rfl (lvA2 hl) ?_
          refine lv_iload_n hx hb (oc_29 28 (aq_4 shX11_mixed_24)) rfl (lvA0 hl) ?_
          refine va_csq (runV_rxa (As := [.int (nI i10)]) (rest := []) S (q_XloadAt l D cI cB cZ zz qq vv bt g ad cn In Fn (nI i10) hB) kV_RX11_148 hK hXS hS (exP hP) 0 xo_0 rfl rfl ⟨Nat.le_of_ble_eq_true rfl, Nat.le_of_ble_eq_true rfl⟩ ⟨Nat.le_of_ble_eq_true rfl, Nat.le_of_ble_eq_true rfl⟩ rfl hl.1 rfl (Nat.le_of_ble_eq_true rfl) (oc_182 29 (aq_5 shX11_mixed_24) uw_0_148)) (fun r_5 h_6 => ?_)
          rcases h_6 with ⟨mr_5, er_5, hr_5, rfl⟩ | ⟨hr_5, rfl⟩
          ·
            refine lv_astore (lv' := [(4, .ref (ad 11 mr_5)), (3, .int (nI i10)), (2, .ref q0), (0, .ref (g 0)), (1, .int v0)]) hx hb (oc_58 32 (aq_8 shX11_mixed_24) ub_4) hl (ltb rfl) rfl (fun ls hl => ?_)
            refine lv_aload hx hb (oc_25 34 (aq_10 shX11_mixed_24) ub_4) (lvA0 hl) ?_
            refine lv_ifnull hx hb (oc_198 36 (aq_12 shX11_mixed_24) sgw_0_12) ?_
            refine lv_aload_n hx hb (oc_42 39 (aq_15 shX11_mixed_24)) rfl (lvA3 hl) ?_
            refine lv_aload hx hb (oc_25 40 (aq_16 shX11_mixed_24) ub_4) (lvA0 hl) ?_
            refine vp_callSi (runV_rxa (As := [.ref (ad 11 mr_5)]) (rest := []) S (q_XcanLoad l D cI cB cZ zz qq vv bt g ad cn In Fn mr_5 hB (by omega)) kV_RX11_354 hK hXS hS (exP hP) 0 xo_0 rfl rfl ⟨Nat.le_of_ble_eq_true rfl, Nat.le_of_ble_eq_true rfl⟩ ⟨Nat.le_of_ble_eq_true rfl, Nat.le_of_ble_eq_true rfl⟩ rfl hl.1 rfl (Nat.le_of_ble_eq_true rfl) (oc_182 42 (aq_18 shX11_mixed_24) uw_1_98)) (fun r_7 h_8 => ?_)
            rcases h_8 with rfl | rfl
            ·
              refine lv_if_ne (tgt := 50) hx hb (oc_154 45 (aq_21 shX11_mixed_24) sgw_0_5) rfl (fun h => absurd h cq_eq_0_0) (fun _ => ?_)
              refine lv_null hx hb (oc_1 48 shX11_mixed_48) ?_
              have hP := exP hP
              have hD := exD hD
              have hP : va_P D vwCl ((wX cI (D.1 99) zz g ad cn In Fn) ++ ([] : va_W)) H := va_P_eq (List.append_nil _).symm hP
              have hD : va_D A ((wX cI (D.1 99) zz g ad cn In Fn) ++ ([] : va_W)) := va_D_eq (List.append_nil _).symm hD
              exact W.aret (v := .null) hx hb hr (Or.inl ⟨_, rfl⟩) (Or.inl rfl) (fun t ht hW => ⟨⟨none, (ad, cn, In, Fn, ([] : va_W)), rfl, ⟨rfl, rfl, rfl, rfl, Or.inl ⟨rfl, rfl⟩⟩, by rw [ht]; exact hP, hD⟩, hS.F ht⟩) hS.2.2 (oc_176 49 (aq_1 shX11_mixed_48))
            ·
              refine lv_if_ne (tgt := 50) hx hb (oc_154 45 (aq_21 shX11_mixed_24) sgw_0_5) rfl (fun _ => ?_) (fun h => absurd h cq_eq_1_0)
              refine lv_aload_n hx hb (oc_44 50 (aq_2 shX11_mixed_48)) rfl (lvA2 hl) ?_
              refine lv_iload_n hx hb (oc_29 51 (aq_3 shX11_mixed_48)) rfl (lvA1 hl) ?_
              refine lv_aload hx hb (oc_25 52 (aq_4 shX11_mixed_48) ub_4) (lvA0 hl) ?_
              have hFc := free_all hD hS hA
              refine va_callv (runV_xa (As := [.int (nI i10), .ref (ad 11 mr_5)]) (rest := []) S (q_Eflip l D cI cB cZ zz qq vv bt g ad cn In Fn q0 u_1 b10_01 b10_02 0 b10_04 b10_05 b10_06 0 (nI i10) mr_5 (([(u_1, .inl (cI, 12, .inl (fun _ => 0)))] : va_W)) H.size hB (by omega)) kV_RX11_358 hK hXS hS hFc hP hD _ (exr (m := 0) rfl) rfl rfl ⟨Nat.le_of_ble_eq_true rfl, Nat.le_of_ble_eq_true rfl⟩ ⟨Nat.le_of_ble_eq_true rfl, Nat.le_of_ble_eq_true rfl⟩ rfl hl.1 rfl (Nat.le_of_ble_eq_true rfl) (oc_182 54 (aq_6 shX11_mixed_48) uw_1_102)) hS (fun q _ h => hFc q h) hFc (fun u8 t H1 locs ht hvm h8 hB1 hz1 hk1 hS => ?_)
              obtain ⟨hP1, hD1⟩ := hB1
              rw [ht] at hP1
              obtain ⟨a8, c8, I8, F8, W8⟩ := u8
              obtain ⟨rfl, rfl, rfl, rfl, sg8, hsg8, rfl⟩ := h8
              have hP : va_P D vwCl ((wX cI (D.1 99) zz g ad cn In Fn) ++ ([(q0, .inr (1, [.ref u_1, .int (b10_01 + sg8 * ((Fn 122) mr_5) * ((Fn 123) mr_5)), .int (b10_02 + sg8 * ((Fn 122) mr_5) * ((Fn 124) mr_5)), .int 0, .int (b10_04 ^^^ 1 <<< ((nI i10) &&& 31)), .int (b10_05 + sg8), .int (b10_06 + sg8 * ((Fn 122) mr_5)), .int 0])), (u_1, .inl (cI, 12, .inl (fun _ => 0)))] : va_W)) H1 := hP1
              have hD : va_D A ((wX cI (D.1 99) zz g ad cn In Fn) ++ ([(q0, .inr (1, [.ref u_1, .int (b10_01 + sg8 * ((Fn 122) mr_5) * ((Fn 123) mr_5)), .int (b10_02 + sg8 * ((Fn 122) mr_5) * ((Fn 124) mr_5)), .int 0, .int (b10_04 ^^^ 1 <<< ((nI i10) &&& 31)), .int (b10_05 + sg8), .int (b10_06 + sg8 * ((Fn 122) mr_5)), .int 0])), (u_1, .inl (cI, 12, .inl (fun _ => 0)))] : va_W)) := hD1.weaken (fun _ _ _ h => hFc _ h)
              generalize H1 = H at hP hS ⊢
              refine lv_iinc (v := (nI (i10 + 1))) (lv' := [(3, .int (nI (i10 + 1))), (4, .ref (ad 11 mr_5)), (2, .ref q0), (0, .ref (g 0)), (1, .int v0)]) hx hb (oc_132 57 (aq_9 shX11_mixed_48) ub_3 sgb_1) hl (k := 1) rfl (nI_1 _) (ltb rfl) rfl (fun ls hl => ?_)
              refine lv_goto (tgt := 10) hx hb (oc_167 60 (aq_12 shX11_mixed_48) sgw_255_206) rfl ?_
              exact ih10 (i10 + 1) (b10_01 + sg8 * ((Fn 122) mr_5) * ((Fn 123) mr_5)) (b10_02 + sg8 * ((Fn 122) mr_5) * ((Fn 124) mr_5)) (b10_04 ^^^ 1 <<< ((nI i10) &&& 31)) (b10_05 + sg8) (b10_06 + sg8 * ((Fn 122) mr_5))  _ _ (by omega) ⟨(by omega), (Fr.mo hfr10 (sbl rfl) (sbl rfl) (sbl rfl))⟩ hP hD hS ls (lv_sub hl [0, 2, 3, 4] rfl)
          ·
            refine lv_astoreN (lv' := [(4, .null), (3, .int (nI i10)), (2, .ref q0), (0, .ref (g 0)), (1, .int v0)]) hx hb (oc_58 32 (aq_8 shX11_mixed_24) ub_4) hl (ltb rfl) rfl (fun ls hl => ?_)
            refine lv_aloadN hx hb (oc_25 34 (aq_10 shX11_mixed_24) ub_4) (lvA0 hl) ?_
            refine lv_ifnullN (tgt := 48) hx hb (oc_198 36 (aq_12 shX11_mixed_24) sgw_0_12) rfl ?_
            refine lv_null hx hb (oc_1 48 shX11_mixed_48) ?_
            have hP := exP hP
            have hD := exD hD
            have hP : va_P D vwCl ((wX cI (D.1 99) zz g ad cn In Fn) ++ ([] : va_W)) H := va_P_eq (List.append_nil _).symm hP
            have hD : va_D A ((wX cI (D.1 99) zz g ad cn In Fn) ++ ([] : va_W)) := va_D_eq (List.append_nil _).symm hD
            exact W.aret (v := .null) hx hb hr (Or.inl ⟨_, rfl⟩) (Or.inl rfl) (fun t ht hW => ⟨⟨none, (ad, cn, In, Fn, ([] : va_W)), rfl, ⟨rfl, rfl, rfl, rfl, Or.inl ⟨rfl, rfl⟩⟩, by rw [ht]; exact hP, hD⟩, hS.F ht⟩) hS.2.2 (oc_176 49 (aq_1 shX11_mixed_48))
        ·
          have tc_4 : (((v0 >>> ((nI i10) &&& 31)) &&& 1).toInt : Int) = 0 := congrArg Int32.toInt c_4
          refine lv_goto (tgt := 57) hx hb (oc_167 24 shX11_mixed_24 sgw_0_33) rfl ?_
          refine lv_iinc (v := (nI (i10 + 1))) (lv' := [(3, .int (nI (i10 + 1))), (2, .ref q0), (0, .ref (g 0)), (1, .int v0)]) hx hb (oc_132 57 (aq_9 shX11_mixed_48) ub_3 sgb_1) hl (k := 0) rfl (nI_1 _) (ltb rfl) rfl (fun ls hl => ?_)
          refine lv_goto (tgt := 10) hx hb (oc_167 60 (aq_12 shX11_mixed_48) sgw_255_206) rfl ?_
          exact ih10 (i10 + 1) b10_01 b10_02 b10_04 b10_05 b10_06  _ _ (by omega) ⟨(by omega), (Fr.mo hfr10 (sbl rfl) (sbl rfl) (sbl rfl))⟩ hP hD hS ls (lv_sub hl [0, 1, 2, 3] rfl)
  exact lp_10 _ 0 0 0 0 0 0  _ _ (Nat.lt_succ_self _) ⟨(by omega), (Fr.mo Fr.rf (sbl rfl) (sbl rfl) (sbl rfl))⟩ hP hD hS ls (lv_sub hl [0, 1, 2, 3] rfl)
set_option maxRecDepth 100000 in
set_option maxHeartbeats 4000000 in
theorem q_EbrokenClause (l : Launch) (D : va_G) (cI cB cZ : ClassId) (zz qq vv : Nat) (bt : Nat → Int32) (g : Nat → Nat) (ad : Nat → Nat → Nat) (cn : Nat → Nat) (In : Nat → Int32) (Fn : Nat → Nat → Int32) (bo w : Nat) (x1 x2 x3 x4 x5 x6 x7 : Int32) (ws : va_W) (sz : Nat) (hB : CBX cn) (hT : (∀ k : Nat, k < cn 10 → ad 3 k < cn 6) ∧ ad 4 0 < cn 6 ∧ ad 4 1 < cn 6) (hC : ∀ k : Nat, k < cn 6 → ∃ n : Nat, n ≤ 12 ∧ Fn 198 k = nI n) : Met l yX11_brokenClause (CWS yX11_brokenClause cX11_brokenClause 2 (some .int)) (RM 5 0 0) (PBx [.ref (g 0), .ref bo] D cI cB cZ zz qq vv bt ((wX cI (D.1 99) zz g ad cn In Fn) ++ (([(bo, .inr (1, [.ref w, .int x1, .int x2, .int x3, .int x4, .int x5, .int x6, .int x7]))] : va_W) ++ ws)) sz) (va_Qi (fun (r : Int32) (u : (Nat → Nat → Nat) × (Nat → Nat) × (Nat → Int32) × (Nat → Nat → Int32)) => (fun r a2 c2 I2 F2 => ad = a2 ∧ cn = c2 ∧ In = I2 ∧ ∀ k, k ∉ [7, 196, 197, 305] → F2 k = Fn k) r u.1 u.2.1 u.2.2.1 u.2.2.2) (fun (u : (Nat → Nat → Nat) × (Nat → Nat) × (Nat → Int32) × (Nat → Nat → Int32)) (t : State) => va_P D vwCl ((wX cI (D.1 99) zz g u.1 u.2.1 u.2.2.1 u.2.2.2) ++ (([(bo, .inr (1, [.ref w, .int x1, .int x2, .int x3, .int x4, .int x5, .int x6, .int x7]))] : va_W) ++ ws)) t.heap ∧ va_D (va_A ((wX cI (D.1 99) zz g ad cn In Fn) ++ (([(bo, .inr (1, [.ref w, .int x1, .int x2, .int x3, .int x4, .int x5, .int x6, .int x7]))] : va_W) ++ ws)) sz) ((wX cI (D.1 99) zz g u.1 u.2.1 u.2.2.1 u.2.2.2) ++ (([(bo, .inr (1, [.ref w, .int x1, .int x2, .int x3, .int x4, .int x5, .int x6, .int x7]))] : va_W) ++ ws))) (va_A ((wX cI (D.1 99) zz g ad cn In Fn) ++ (([(bo, .inr (1, [.ref w, .int x1, .int x2, .int x3, .int x4, .int x5, .int x6, .int x7]))] : va_W) ++ ws)) sz)) 0 0 (va_A ((wX cI (D.1 99) zz g ad cn In Fn) ++ (([(bo, .inr (1, [.ref w, .int x1, .int x2, .int x3, .int x4, .int x5, .int x6, .int x7]))] : va_W) ++ ws)) sz) := by
  refine en_x (fun A => (va_Qi (fun (r : Int32) (u : (Nat → Nat → Nat) × (Nat → Nat) × (Nat → Int32) × (Nat → Nat → Int32)) => (fun (r : Int32) (a2 : Nat → Nat → Nat) (c2 : Nat → Nat) (I2 : Nat → Int32) (F2 : Nat → Nat → Int32) => ad = a2 ∧ cn = c2 ∧ In = I2 ∧ ∀ k, k ∉ [7, 196, 197, 305] → F2 k = Fn k) r u.1 u.2.1 u.2.2.1 u.2.2.2) (fun (u : (Nat → Nat → Nat) × (Nat → Nat) × (Nat → Int32) × (Nat → Nat → Int32)) (t : State) => va_P D vwCl ((wX cI (D.1 99) zz g u.1 u.2.1 u.2.2.1 u.2.2.2) ++ (([(bo, .inr (1, [.ref w, .int x1, .int x2, .int x3, .int x4, .int x5, .int x6, .int x7]))] : va_W) ++ ws)) t.heap ∧ va_D A ((wX cI (D.1 99) zz g u.1 u.2.1 u.2.2.1 u.2.2.2) ++ (([(bo, .inr (1, [.ref w, .int x1, .int x2, .int x3, .int x4, .int x5, .int x6, .int x7]))] : va_W) ++ ws))) A)) rfl rfl pn_RX11 (Nat.le_of_ble_eq_true rfl) (fun p e s m below meth c A hx hb hml hown S hr hlocks hnm hA hP hK hD hXS hS ls hl => ?_)
  have hl : lv_has ls 2 [(0, .ref (g 0)), (1, .ref bo)] := hl
  refine lv_aload_n hx hb (oc_42 0 shX11_brokenClause_0) rfl (lvA0 hl) ?_
  refine lv_bipush (v := 113) hx hb (oc_16 1 (aq_1 shX11_brokenClause_0) sgb_113) kbc_113 ?_
  refine lv_aload_n hx hb (oc_43 3 (aq_3 shX11_brokenClause_0)) rfl (lvA1 hl) ?_
  refine gf_RX11_342 S hK hP _ (exr (m := 0) rfl) (v := .int x6) rfl (oc_180 4 (aq_4 shX11_brokenClause_0) uw_1_86) ?_
  have hFc := free_all (exD hD) hS hA
  refine va_callv (runV_xa (As := [.int 113, .int x6]) (rest := []) S (q_Xletter l D cI cB cZ zz qq vv bt g ad cn In Fn 113 x6 s.heap.size hB) kV_RX11_188 hK hXS hS hFc (exP hP) (exD hD) 0 xo_0 rfl rfl ⟨Nat.le_of_ble_eq_true rfl, Nat.le_of_ble_eq_true rfl⟩ ⟨Nat.le_of_ble_eq_true rfl, Nat.le_of_ble_eq_true rfl⟩ rfl hl.1 rfl (Nat.le_of_ble_eq_true rfl) (oc_182 7 (aq_7 shX11_brokenClause_0) uw_0_188)) hS (fun q _ h => hFc q h) hFc (fun u t H1 locs ht hvm wh_2 hB1 hz1 hk1 hS => ?_)
  obtain ⟨cn2, In2, Fn2⟩ := u
  obtain ⟨hP1, hD1⟩ := hB1
  rw [ht] at hP1
  obtain ⟨hP, hD⟩ := exjoinL hP hD hk1 hFc hP1 hD1
  have hP : va_P D vwCl ((wX cI (D.1 99) zz g ad cn2 In2 Fn2) ++ (([(bo, .inr (1, [.ref w, .int x1, .int x2, .int x3, .int x4, .int x5, .int x6, .int x7]))] : va_W) ++ ws)) H1 := hP
  have hD : va_D A ((wX cI (D.1 99) zz g ad cn2 In2 Fn2) ++ (([(bo, .inr (1, [.ref w, .int x1, .int x2, .int x3, .int x4, .int x5, .int x6, .int x7]))] : va_W) ++ ws)) := hD
  generalize H1 = H at hP hS ⊢
  have vh_2 : (fun c2 I2 F2 => Fr [] [] [7] cn In Fn c2 I2 F2 ∧ CBX c2 ∧ (True)) cn2 In2 Fn2 := wh_2
  obtain ⟨hfc2, hIn2, h_2⟩ := vh_2
  obtain rfl : cn = cn2 := (funext (fun k => hfc2.1 k List.not_mem_nil)).symm
  obtain rfl : In = In2 := (funext (fun k => hfc2.2.1 k List.not_mem_nil)).symm
  have hf2 : Fr [] [] [7, 196, 197, 305] cn In Fn cn In Fn2 := Fr.mo (Fr.tr (Fr.rf (cn := cn) (In := In) (Fn := Fn)) hfc2) (sbl rfl) (sbl rfl) (sbl rfl)
  refine lv_aload_n hx hb (oc_42 10 (aq_10 shX11_brokenClause_0)) rfl (lvA0 hl) ?_
  refine lv_bipush (v := 102) hx hb (oc_16 11 (aq_11 shX11_brokenClause_0) sgb_102) kbc_102 ?_
  refine lv_aload_n hx hb (oc_43 13 (aq_13 shX11_brokenClause_0)) rfl (lvA1 hl) ?_
  refine vp_callSi (runV_r (As := []) (rest := [.int 102, .ref (g 0)]) S (q_l_water l D cI cB cZ bo w x1 x2 x3 x4 x5 x6 x7) kV_RX11_343 hK hP _ (one_is (exr (m := 0) rfl)) _ (exr (m := 0) rfl) rfl rfl ⟨Nat.le_of_ble_eq_true rfl, Nat.le_of_ble_eq_true rfl⟩ ⟨Nat.le_of_ble_eq_true rfl, Nat.le_of_ble_eq_true rfl⟩ rfl hl.1 rfl (Nat.le_of_ble_eq_true rfl) (oc_182 14 (aq_14 shX11_brokenClause_0) uw_1_87)) (fun r_3 h_4 => ?_)
  subst h_4
  have hFc := free_all (exD hD) hS hA
  refine va_callv (runV_xa (As := [.int 102, .int (if x6 = 0 then 0 else x1 / x6)]) (rest := []) S (q_Xletter l D cI cB cZ zz qq vv bt g ad cn In Fn2 102 (if x6 = 0 then 0 else x1 / x6) H.size hIn2) kV_RX11_188 hK hXS hS hFc (exP hP) (exD hD) 0 xo_0 rfl rfl ⟨Nat.le_of_ble_eq_true rfl, Nat.le_of_ble_eq_true rfl⟩ ⟨Nat.le_of_ble_eq_true rfl, Nat.le_of_ble_eq_true rfl⟩ rfl hl.1 rfl (Nat.le_of_ble_eq_true rfl) (oc_182 17 (aq_17 shX11_brokenClause_0) uw_0_188)) hS (fun q _ h => hFc q h) hFc (fun u t H1 locs ht hvm wh_6 hB1 hz1 hk1 hS => ?_)
  obtain ⟨cn6, In6, Fn6⟩ := u
  obtain ⟨hP1, hD1⟩ := hB1
  rw [ht] at hP1
  obtain ⟨hP, hD⟩ := exjoinL hP hD hk1 hFc hP1 hD1
  have hP : va_P D vwCl ((wX cI (D.1 99) zz g ad cn6 In6 Fn6) ++ (([(bo, .inr (1, [.ref w, .int x1, .int x2, .int x3, .int x4, .int x5, .int x6, .int x7]))] : va_W) ++ ws)) H1 := hP
  have hD : va_D A ((wX cI (D.1 99) zz g ad cn6 In6 Fn6) ++ (([(bo, .inr (1, [.ref w, .int x1, .int x2, .int x3, .int x4, .int x5, .int x6, .int x7]))] : va_W) ++ ws)) := hD
  generalize H1 = H at hP hS ⊢
  have vh_6 : (fun c2 I2 F2 => Fr [] [] [7] cn In Fn2 c2 I2 F2 ∧ CBX c2 ∧ (True)) cn6 In6 Fn6 := wh_6
  obtain ⟨hfc6, hIn6, h_6⟩ := vh_6
  obtain rfl : cn = cn6 := (funext (fun k => hfc6.1 k List.not_mem_nil)).symm
  obtain rfl : In = In6 := (funext (fun k => hfc6.2.1 k List.not_mem_nil)).symm
  have hf6 : Fr [] [] [7, 196, 197, 305] cn In Fn cn In Fn6 := Fr.mo (Fr.tr hf2 hfc6) (sbl rfl) (sbl rfl) (sbl rfl)
  refine lv_aload_n hx hb (oc_42 20 (aq_20 shX11_brokenClause_0)) rfl (lvA0 hl) ?_
  refine lv_bipush (v := 97) hx hb (oc_16 21 (aq_21 shX11_brokenClause_0) sgb_97) kbc_97 ?_
  refine lv_aload_n hx hb (oc_43 23 (aq_23 shX11_brokenClause_0)) rfl (lvA1 hl) ?_
  refine vp_callSi (runV_r (As := []) (rest := [.int 97, .ref (g 0)]) S (q_l_acid l D cI cB cZ bo w x1 x2 x3 x4 x5 x6 x7) kV_RX11_345 hK hP _ (one_is (exr (m := 0) rfl)) _ (exr (m := 0) rfl) rfl rfl ⟨Nat.le_of_ble_eq_true rfl, Nat.le_of_ble_eq_true rfl⟩ ⟨Nat.le_of_ble_eq_true rfl, Nat.le_of_ble_eq_true rfl⟩ rfl hl.1 rfl (Nat.le_of_ble_eq_true rfl) (oc_182 24 shX11_brokenClause_24 uw_1_89)) (fun r_7 h_8 => ?_)
  subst h_8
  have hFc := free_all (exD hD) hS hA
  refine va_callv (runV_xa (As := [.int 97, .int (if x6 = 0 then 0 else x2 / x6)]) (rest := []) S (q_Xletter l D cI cB cZ zz qq vv bt g ad cn In Fn6 97 (if x6 = 0 then 0 else x2 / x6) H.size hIn6) kV_RX11_188 hK hXS hS hFc (exP hP) (exD hD) 0 xo_0 rfl rfl ⟨Nat.le_of_ble_eq_true rfl, Nat.le_of_ble_eq_true rfl⟩ ⟨Nat.le_of_ble_eq_true rfl, Nat.le_of_ble_eq_true rfl⟩ rfl hl.1 rfl (Nat.le_of_ble_eq_true rfl) (oc_182 27 (aq_3 shX11_brokenClause_24) uw_0_188)) hS (fun q _ h => hFc q h) hFc (fun u t H1 locs ht hvm wh_10 hB1 hz1 hk1 hS => ?_)
  obtain ⟨cn10, In10, Fn10⟩ := u
  obtain ⟨hP1, hD1⟩ := hB1
  rw [ht] at hP1
  obtain ⟨hP, hD⟩ := exjoinL hP hD hk1 hFc hP1 hD1
  have hP : va_P D vwCl ((wX cI (D.1 99) zz g ad cn10 In10 Fn10) ++ (([(bo, .inr (1, [.ref w, .int x1, .int x2, .int x3, .int x4, .int x5, .int x6, .int x7]))] : va_W) ++ ws)) H1 := hP
  have hD : va_D A ((wX cI (D.1 99) zz g ad cn10 In10 Fn10) ++ (([(bo, .inr (1, [.ref w, .int x1, .int x2, .int x3, .int x4, .int x5, .int x6, .int x7]))] : va_W) ++ ws)) := hD
  generalize H1 = H at hP hS ⊢
  have vh_10 : (fun c2 I2 F2 => Fr [] [] [7] cn In Fn6 c2 I2 F2 ∧ CBX c2 ∧ (True)) cn10 In10 Fn10 := wh_10
  obtain ⟨hfc10, hIn10, h_10⟩ := vh_10
  obtain rfl : cn = cn10 := (funext (fun k => hfc10.1 k List.not_mem_nil)).symm
  obtain rfl : In = In10 := (funext (fun k => hfc10.2.1 k List.not_mem_nil)).symm
  have hf10 : Fr [] [] [7, 196, 197, 305] cn In Fn cn In Fn10 := Fr.mo (Fr.tr hf6 hfc10) (sbl rfl) (sbl rfl) (sbl rfl)
  refine lv_aload_n hx hb (oc_42 30 (aq_6 shX11_brokenClause_24)) rfl (lvA0 hl) ?_
  refine lv_bipush (v := 110) hx hb (oc_16 31 (aq_7 shX11_brokenClause_24) sgb_110) kbc_110 ?_
  refine lv_aload_n hx hb (oc_43 33 (aq_9 shX11_brokenClause_24)) rfl (lvA1 hl) ?_
  refine gf_RX11_347 S hK hP _ (exr (m := 0) rfl) (v := .int x5) rfl (oc_180 34 (aq_10 shX11_brokenClause_24) uw_1_91) ?_
  have hFc := free_all (exD hD) hS hA
  refine va_callv (runV_xa (As := [.int 110, .int x5]) (rest := []) S (q_Xletter l D cI cB cZ zz qq vv bt g ad cn In Fn10 110 x5 H.size hIn10) kV_RX11_188 hK hXS hS hFc (exP hP) (exD hD) 0 xo_0 rfl rfl ⟨Nat.le_of_ble_eq_true rfl, Nat.le_of_ble_eq_true rfl⟩ ⟨Nat.le_of_ble_eq_true rfl, Nat.le_of_ble_eq_true rfl⟩ rfl hl.1 rfl (Nat.le_of_ble_eq_true rfl) (oc_182 37 (aq_13 shX11_brokenClause_24) uw_0_188)) hS (fun q _ h => hFc q h) hFc (fun u t H1 locs ht hvm wh_12 hB1 hz1 hk1 hS => ?_)
  obtain ⟨cn12, In12, Fn12⟩ := u
  obtain ⟨hP1, hD1⟩ := hB1
  rw [ht] at hP1
  obtain ⟨hP, hD⟩ := exjoinL hP hD hk1 hFc hP1 hD1
  have hP : va_P D vwCl ((wX cI (D.1 99) zz g ad cn12 In12 Fn12) ++ (([(bo, .inr (1, [.ref w, .int x1, .int x2, .int x3, .int x4, .int x5, .int x6, .int x7]))] : va_W) ++ ws)) H1 := hP
  have hD : va_D A ((wX cI (D.1 99) zz g ad cn12 In12 Fn12) ++ (([(bo, .inr (1, [.ref w, .int x1, .int x2, .int x3, .int x4, .int x5, .int x6, .int x7]))] : va_W) ++ ws)) := hD
  generalize H1 = H at hP hS ⊢
  have vh_12 : (fun c2 I2 F2 => Fr [] [] [7] cn In Fn10 c2 I2 F2 ∧ CBX c2 ∧ (True)) cn12 In12 Fn12 := wh_12
  obtain ⟨hfc12, hIn12, h_12⟩ := vh_12
  obtain rfl : cn = cn12 := (funext (fun k => hfc12.1 k List.not_mem_nil)).symm
  obtain rfl : In = In12 := (funext (fun k => hfc12.2.1 k List.not_mem_nil)).symm
  have hf12 : Fr [] [] [7, 196, 197, 305] cn In Fn cn In Fn12 := Fr.mo (Fr.tr hf10 hfc12) (sbl rfl) (sbl rfl) (sbl rfl)
  refine lv_aload_n hx hb (oc_42 40 (aq_16 shX11_brokenClause_24)) rfl (lvA0 hl) ?_
  refine gf_RX11_12 S hK hP _ (exl xo_0) (v := .ref (ad 5 (ad 4 0))) rfl (oc_180 41 (aq_17 shX11_brokenClause_24) uw_0_12) ?_
  refine lv_iconst (v := 0) hx hb (oc_3 44 (aq_20 shX11_brokenClause_24)) kic_0 ?_
  refine lv_aload_n hx hb (oc_42 45 (aq_21 shX11_brokenClause_24)) rfl (lvA0 hl) ?_
  obtain ⟨n9, hn9, en9⟩ := hC (ad 4 0) hT.2.1
  refine gf_RX11_40 S hK hP _ (exl xo_0) (v := .ref (g 7)) rfl (oc_180 46 (aq_22 shX11_brokenClause_24) uw_0_40) ?_
  have hFc := free_all (exD hD) hS hA
  refine va_calli (runV_xa (As := [.int 0, .ref (g 7)]) (rest := []) S (q_XfirstThat l D cI cB cZ zz qq vv bt g ad cn In Fn12 (ad 4 0) n9 0 H.size hIn12 hT.2.1 ((congrFun (hf12.2.2 198 (nml rfl)) (ad 4 0)).trans en9) hn9) kV_RX11_218 hK hXS hS hFc (exP hP) (exD hD) _ (xf_7 hT.2.1) rfl rfl ⟨Nat.le_of_ble_eq_true rfl, Nat.le_of_ble_eq_true rfl⟩ ⟨Nat.le_of_ble_eq_true rfl, Nat.le_of_ble_eq_true rfl⟩ rfl hl.1 rfl (Nat.le_of_ble_eq_true rfl) (oc_182 49 shX11_brokenClause_49 uw_0_218)) hS (fun q _ h => hFc q h) hFc (fun r_13 u t H1 locs ht hvm wh_14 hB1 hz1 hk1 hS => ?_)
  obtain ⟨cn14, In14, Fn14⟩ := u
  obtain ⟨hP1, hD1⟩ := hB1
  rw [ht] at hP1
  obtain ⟨hP, hD⟩ := exjoinL hP hD hk1 hFc hP1 hD1
  have hP : va_P D vwCl ((wX cI (D.1 99) zz g ad cn14 In14 Fn14) ++ (([(bo, .inr (1, [.ref w, .int x1, .int x2, .int x3, .int x4, .int x5, .int x6, .int x7]))] : va_W) ++ ws)) H1 := hP
  have hD : va_D A ((wX cI (D.1 99) zz g ad cn14 In14 Fn14) ++ (([(bo, .inr (1, [.ref w, .int x1, .int x2, .int x3, .int x4, .int x5, .int x6, .int x7]))] : va_W) ++ ws)) := hD
  generalize H1 = H at hP hS ⊢
  have vh_14 : (fun r c2 I2 F2 => Fr [] [] [196, 197, 305] cn In Fn12 c2 I2 F2 ∧ CBX c2 ∧ (True)) r_13 cn14 In14 Fn14 := wh_14
  obtain ⟨hfc14, hIn14, h_14⟩ := vh_14
  obtain rfl : cn = cn14 := (funext (fun k => hfc14.1 k List.not_mem_nil)).symm
  obtain rfl : In = In14 := (funext (fun k => hfc14.2.1 k List.not_mem_nil)).symm
  have hf14 : Fr [] [] [7, 196, 197, 305] cn In Fn cn In Fn14 := Fr.mo (Fr.tr hf12 hfc14) (sbl rfl) (sbl rfl) (sbl rfl)
  exact W.iret (v := r_13) hx hb hr (fun t ht hW => ⟨⟨r_13, (ad, cn, In, Fn14), rfl, ⟨rfl, rfl, rfl, (show Fr [] [] [7, 196, 197, 305] cn In Fn cn In Fn14 from (Fr.mo hf14 (sbl rfl) (sbl rfl) (sbl rfl))).2.2⟩, by rw [ht]; exact hP, hD⟩, hS.F ht⟩) hS.2.2 (oc_172 52 (aq_3 shX11_brokenClause_49))
set_option maxRecDepth 100000 in
set_option maxHeartbeats 4000000 in
theorem q_Ekeep (l : Launch) (D : va_G) (cI cB cZ : ClassId) (zz qq vv : Nat) (bt : Nat → Int32) (g : Nat → Nat) (ad : Nat → Nat → Nat) (cn : Nat → Nat) (In : Nat → Int32) (Fn : Nat → Nat → Int32) (bo w : Nat) (x1 x2 x3 x4 x5 x6 x7 : Int32) (f : Nat → Int32) (sz : Nat) (hB : CBX cn) (h12 : cn 12 < 10) (hf0 : ∀ i : Nat, 12 ≤ i → f i = 0) : Met l yX11_keep (CWS yX11_keep cX11_keep 4 none) (RM 8 1 100) (PBx [.ref (g 0), .ref bo] D cI cB cZ zz qq vv bt ((wX cI (D.1 99) zz g ad cn In Fn) ++ ([(bo, .inr (1, [.ref w, .int x1, .int x2, .int x3, .int x4, .int x5, .int x6, .int x7])), (w, .inl (cI, 12, .inl f))] : va_W)) sz) (va_Qv (fun (u : (Nat → Nat → Nat) × (Nat → Nat) × (Nat → Int32) × (Nat → Nat → Int32)) => (fun a2 c2 I2 F2 => ∃ (Fb : Nat → Nat → Int32), (∀ k, k ∉ [129] → Fb k = Fn k) ∧ ∃ (z c : Nat) (y : Int32), (cn 12 < c ∧ c ≤ 100) ∧ (adO (adO (adO ad 12 (cn 12) bo) 1 (cn 12) w) 2 2 z) = a2 ∧ (va_up (va_up cn 12 ((cn 12) + 1)) 22 c) = c2 ∧ (va_up In 12 y) = I2 ∧ (va_up (va_up (va_up (va_up (va_up (va_up (va_up (va_up (va_up Fb 29 (putM (Fb 29) 400 (nI (cn 0)) (atM (Fb 29) 400 (nI (cn 0)) + -x6))) 141 (upd ((va_up Fb 29 (putM (Fb 29) 400 (nI (cn 0)) (atM (Fb 29) 400 (nI (cn 0)) + -x6))) 141) (cn 12) x1)) 142 (upd ((va_up Fb 29 (putM (Fb 29) 400 (nI (cn 0)) (atM (Fb 29) 400 (nI (cn 0)) + -x6))) 142) (cn 12) x2)) 143 (upd ((va_up Fb 29 (putM (Fb 29) 400 (nI (cn 0)) (atM (Fb 29) 400 (nI (cn 0)) + -x6))) 143) (cn 12) x3)) 144 (upd ((va_up Fb 29 (putM (Fb 29) 400 (nI (cn 0)) (atM (Fb 29) 400 (nI (cn 0)) + -x6))) 144) (cn 12) x4)) 145 (upd ((va_up Fb 29 (putM (Fb 29) 400 (nI (cn 0)) (atM (Fb 29) 400 (nI (cn 0)) + -x6))) 145) (cn 12) x5)) 146 (upd ((va_up Fb 29 (putM (Fb 29) 400 (nI (cn 0)) (atM (Fb 29) 400 (nI (cn 0)) + -x6))) 146) (cn 12) x6)) 147 (upd ((va_up Fb 29 (putM (Fb 29) 400 (nI (cn 0)) (atM (Fb 29) 400 (nI (cn 0)) + -x6))) 147) (cn 12) (nI (cn 0)))) 150 (flat ((va_up Fb 29 (putM (Fb 29) 400 (nI (cn 0)) (atM (Fb 29) 400 (nI (cn 0)) + -x6))) 150) 12 (cn 12) f)) = F2) u.1 u.2.1 u.2.2.1 u.2.2.2) (fun (u : (Nat → Nat → Nat) × (Nat → Nat) × (Nat → Int32) × (Nat → Nat → Int32)) (t : State) => va_P D vwCl (wX cI (D.1 99) zz g u.1 u.2.1 u.2.2.1 u.2.2.2) t.heap ∧ va_D (va_A ((wX cI (D.1 99) zz g ad cn In Fn) ++ ([(bo, .inr (1, [.ref w, .int x1, .int x2, .int x3, .int x4, .int x5, .int x6, .int x7])), (w, .inl (cI, 12, .inl f))] : va_W)) sz) (wX cI (D.1 99) zz g u.1 u.2.1 u.2.2.1 u.2.2.2)) (va_A ((wX cI (D.1 99) zz g ad cn In Fn) ++ ([(bo, .inr (1, [.ref w, .int x1, .int x2, .int x3, .int x4, .int x5, .int x6, .int x7])), (w, .inl (cI, 12, .inl f))] : va_W)) sz)) 1 100 (va_A ((wX cI (D.1 99) zz g ad cn In Fn) ++ ([(bo, .inr (1, [.ref w, .int x1, .int x2, .int x3, .int x4, .int x5, .int x6, .int x7])), (w, .inl (cI, 12, .inl f))] : va_W)) sz) := by
  refine en_x (fun A => (va_Qv (fun (u : (Nat → Nat → Nat) × (Nat → Nat) × (Nat → Int32) × (Nat → Nat → Int32)) => (fun (a2 : Nat → Nat → Nat) (c2 : Nat → Nat) (I2 : Nat → Int32) (F2 : Nat → Nat → Int32) => ∃ (Fb : Nat → Nat → Int32), (∀ k, k ∉ [129] → Fb k = Fn k) ∧ ∃ (z c : Nat) (y : Int32), (cn 12 < c ∧ c ≤ 100) ∧ (adO (adO (adO ad 12 (cn 12) bo) 1 (cn 12) w) 2 2 z) = a2 ∧ (va_up (va_up cn 12 ((cn 12) + 1)) 22 c) = c2 ∧ (va_up In 12 y) = I2 ∧ (va_up (va_up (va_up (va_up (va_up (va_up (va_up (va_up (va_up Fb 29 (putM (Fb 29) 400 (nI (cn 0)) (atM (Fb 29) 400 (nI (cn 0)) + -x6))) 141 (upd ((va_up Fb 29 (putM (Fb 29) 400 (nI (cn 0)) (atM (Fb 29) 400 (nI (cn 0)) + -x6))) 141) (cn 12) x1)) 142 (upd ((va_up Fb 29 (putM (Fb 29) 400 (nI (cn 0)) (atM (Fb 29) 400 (nI (cn 0)) + -x6))) 142) (cn 12) x2)) 143 (upd ((va_up Fb 29 (putM (Fb 29) 400 (nI (cn 0)) (atM (Fb 29) 400 (nI (cn 0)) + -x6))) 143) (cn 12) x3)) 144 (upd ((va_up Fb 29 (putM (Fb 29) 400 (nI (cn 0)) (atM (Fb 29) 400 (nI (cn 0)) + -x6))) 144) (cn 12) x4)) 145 (upd ((va_up Fb 29 (putM (Fb 29) 400 (nI (cn 0)) (atM (Fb 29) 400 (nI (cn 0)) + -x6))) 145) (cn 12) x5)) 146 (upd ((va_up Fb 29 (putM (Fb 29) 400 (nI (cn 0)) (atM (Fb 29) 400 (nI (cn 0)) + -x6))) 146) (cn 12) x6)) 147 (upd ((va_up Fb 29 (putM (Fb 29) 400 (nI (cn 0)) (atM (Fb 29) 400 (nI (cn 0)) + -x6))) 147) (cn 12) (nI (cn 0)))) 150 (flat ((va_up Fb 29 (putM (Fb 29) 400 (nI (cn 0)) (atM (Fb 29) 400 (nI (cn 0)) + -x6))) 150) 12 (cn 12) f)) = F2) u.1 u.2.1 u.2.2.1 u.2.2.2) (fun (u : (Nat → Nat → Nat) × (Nat → Nat) × (Nat → Int32) × (Nat → Nat → Int32)) (t : State) => va_P D vwCl (wX cI (D.1 99) zz g u.1 u.2.1 u.2.2.1 u.2.2.2) t.heap ∧ va_D A (wX cI (D.1 99) zz g u.1 u.2.1 u.2.2.1 u.2.2.2)) A)) rfl rfl pn_RX11 (Nat.le_of_ble_eq_true rfl) (fun p e s m below meth c A hx hb hml hown S hr hlocks hnm hA hP hK hD hXS hS ls hl => ?_)
  have hl : lv_has ls 4 [(0, .ref (g 0)), (1, .ref bo)] := hl
  refine lv_iconst (v := 0) hx hb (oc_3 0 shX11_keep_0) kic_0 ?_
  refine lv_istore_n (lv' := [(2, .int 0), (0, .ref (g 0)), (1, .ref bo)]) hx hb (oc_61 1 (aq_1 shX11_keep_0)) rfl hl (ltb rfl) rfl (fun ls hl => ?_)
  have lp_2 : ∀ (n : Nat) (i2 : Nat) (Fw : Nat → Nat → Int32) (H : Heap) (locs : List Loc) , 20 - i2 < n → (i2 ≤ 20 ∧ Fr [] [] [129] cn In Fn cn In Fw ∧ CBX cn) → va_P D vwCl ((wX cI (D.1 99) zz g ad cn In Fw) ++ ([(bo, .inr (1, [.ref w, .int x1, .int x2, .int x3, .int x4, .int x5, .int x6, .int x7])), (w, .inl (cI, 12, .inl f))] : va_W)) H → va_D A ((wX cI (D.1 99) zz g ad cn In Fw) ++ ([(bo, .inr (1, [.ref w, .int x1, .int x2, .int x3, .int x4, .int x5, .int x6, .int x7])), (w, .inl (cI, 12, .inl f))] : va_W)) → va_S A s.heap H locs → ∀ ls : Array Slot, lv_has ls 4 [(2, .int (nI i2)), (0, .ref (g 0)), (1, .ref bo)] → W p l e (RM 8 1 100) s m ([.ref (g 0), .ref bo]).toArray below meth c H locs 0 0 (MQ below (va_Qv (fun (u : (Nat → Nat → Nat) × (Nat → Nat) × (Nat → Int32) × (Nat → Nat → Int32)) => (fun a2 c2 I2 F2 => ∃ (Fb : Nat → Nat → Int32), (∀ k, k ∉ [129] → Fb k = Fn k) ∧ ∃ (z c : Nat) (y : Int32), (cn 12 < c ∧ c ≤ 100) ∧ (adO (adO (adO ad 12 (cn 12) bo) 1 (cn 12) w) 2 2 z) = a2 ∧ (va_up (va_up cn 12 ((cn 12) + 1)) 22 c) = c2 ∧ (va_up In 12 y) = I2 ∧ (va_up (va_up (va_up (va_up (va_up (va_up (va_up (va_up (va_up Fb 29 (putM (Fb 29) 400 (nI (cn 0)) (atM (Fb 29) 400 (nI (cn 0)) + -x6))) 141 (upd ((va_up Fb 29 (putM (Fb 29) 400 (nI (cn 0)) (atM (Fb 29) 400 (nI (cn 0)) + -x6))) 141) (cn 12) x1)) 142 (upd ((va_up Fb 29 (putM (Fb 29) 400 (nI (cn 0)) (atM (Fb 29) 400 (nI (cn 0)) + -x6))) 142) (cn 12) x2)) 143 (upd ((va_up Fb 29 (putM (Fb 29) 400 (nI (cn 0)) (atM (Fb 29) 400 (nI (cn 0)) + -x6))) 143) (cn 12) x3)) 144 (upd ((va_up Fb 29 (putM (Fb 29) 400 (nI (cn 0)) (atM (Fb 29) 400 (nI (cn 0)) + -x6))) 144) (cn 12) x4)) 145 (upd ((va_up Fb 29 (putM (Fb 29) 400 (nI (cn 0)) (atM (Fb 29) 400 (nI (cn 0)) + -x6))) 145) (cn 12) x5)) 146 (upd ((va_up Fb 29 (putM (Fb 29) 400 (nI (cn 0)) (atM (Fb 29) 400 (nI (cn 0)) + -x6))) 146) (cn 12) x6)) 147 (upd ((va_up Fb 29 (putM (Fb 29) 400 (nI (cn 0)) (atM (Fb 29) 400 (nI (cn 0)) + -x6))) 147) (cn 12) (nI (cn 0)))) 150 (flat ((va_up Fb 29 (putM (Fb 29) 400 (nI (cn 0)) (atM (Fb 29) 400 (nI (cn 0)) + -x6))) 150) 12 (cn 12) f)) = F2) u.1 u.2.1 u.2.2.1 u.2.2.2) (fun (u : (Nat → Nat → Nat) × (Nat → Nat) × (Nat → Int32) × (Nat → Nat → Int32)) (t : State) => va_P D vwCl (wX cI (D.1 99) zz g u.1 u.2.1 u.2.2.1 u.2.2.2) t.heap ∧ va_D A (wX cI (D.1 99) zz g u.1 u.2.1 u.2.2.1 u.2.2.2)) A) ([.ref (g 0), .ref bo]).toArray s 1 100 A) (F0 m 2 ls []) := by
    intro n2
    induction n2 with
    | zero => intros; omega
    | succ n2 ih2 =>
      intro i2 Fw H locs hmu2 hinv2 hP hD hS ls hl
      obtain ⟨hr2, hfr2, hI2⟩ := hinv2
      have ti2 : (nI i2).toInt = (i2 : Int) := nI_toInt (by omega)
      refine lv_iload_n hx hb (oc_28 2 (aq_2 shX11_keep_0)) rfl (lvA0 hl) ?_
      refine lv_bipush (v := 20) hx hb (oc_16 3 (aq_3 shX11_keep_0) sgb_20) kbc_20 ?_
      refine lv_icmp_ge (tgt := 37) hx hb (oc_162 5 (aq_5 shX11_keep_0) sgw_0_32) rfl (fun c_1 => ?_) (fun c_1 => ?_)
      ·
        have tc_1 : (20 : Int) ≤ (nI i2).toInt := Int32.le_iff_toInt_le.mp c_1
        refine lv_aload_n hx hb (oc_43 37 (aq_11 shX11_keep_26)) rfl (lvA2 hl) ?_
        refine lv_aload_n hx hb (oc_42 38 (aq_12 shX11_keep_26)) rfl (lvA1 hl) ?_
        refine gf_RX11_103 S hK hP _ (exl xo_0) (v := .int (nI (cn 0))) rfl (oc_180 39 (aq_13 shX11_keep_26) uw_0_103) ?_
        refine pf_RX11_381 S hK hP hD hS _ (exr (m := 0) rfl) (v := .int (nI (cn 0))) (Nat.le_of_ble_eq_true rfl) rfl rfl (oc_181 42 (aq_16 shX11_keep_26) uw_1_125) (fun H locs hP hD hS => ?_)
        have hP : va_P D vwCl ((wX cI (D.1 99) zz g ad cn In Fw) ++ ([(bo, .inr (1, [.ref w, .int x1, .int x2, .int x3, .int x4, .int x5, .int x6, .int (nI (cn 0))])), (w, .inl (cI, 12, .inl f))] : va_W)) H := va_P_eq (exs_r rfl) hP
        have hD : va_D A ((wX cI (D.1 99) zz g ad cn In Fw) ++ ([(bo, .inr (1, [.ref w, .int x1, .int x2, .int x3, .int x4, .int x5, .int x6, .int (nI (cn 0))])), (w, .inl (cI, 12, .inl f))] : va_W)) := va_D_eq (exs_r rfl) hD
        refine lv_aload_n hx hb (oc_42 45 (aq_19 shX11_keep_26)) rfl (lvA1 hl) ?_
        refine gf_RX11_47 S hK hP _ (exl xo_0) (v := .ref (g 8)) rfl (oc_180 46 (aq_20 shX11_keep_26) uw_0_47) ?_
        refine lv_aload_n hx hb (oc_42 49 (aq_23 shX11_keep_26)) rfl (lvA1 hl) ?_
        refine gf_RX11_103 S hK hP _ (exl xo_0) (v := .int (nI (cn 0))) rfl (oc_180 50 shX11_keep_50 uw_0_103) ?_
        refine lv_aload_n hx hb (oc_43 53 (aq_3 shX11_keep_50)) rfl (lvA2 hl) ?_
        refine gf_RX11_342 S hK hP _ (exr (m := 0) rfl) (v := .int x6) rfl (oc_180 54 (aq_4 shX11_keep_50) uw_1_86) ?_
        refine lv_ineg hx hb (oc_116 57 (aq_7 shX11_keep_50)) ?_
        have hFc := free_all (exD hD) hS hA
        refine va_callv (runV_xa (As := [.int (nI (cn 0)), .int (-x6)]) (rest := []) S (q_Xchange l D cI cB cZ zz qq vv bt g ad cn In Fw (nI (cn 0)) (-x6) H.size hI2) kV_RX11_144 hK hXS hS hFc (exP hP) (exD hD) 6 xo_6 rfl rfl ⟨Nat.le_of_ble_eq_true rfl, Nat.le_of_ble_eq_true rfl⟩ ⟨Nat.le_of_ble_eq_true rfl, Nat.le_of_ble_eq_true rfl⟩ rfl hl.1 rfl (Nat.le_of_ble_eq_true rfl) (oc_182 58 (aq_8 shX11_keep_50) uw_0_144)) hS (fun q _ h => hFc q h) hFc (fun u t H1 locs ht hvm wh_3 hB1 hz1 hk1 hS => ?_)
        obtain ⟨cn3, In3, Fn3⟩ := u
        obtain ⟨hP1, hD1⟩ := hB1
        rw [ht] at hP1
        have vh_3 : (fun c2 I2 F2 => (∀ k : Nat, k ∉ [] → I2 k = In k) ∧ (((True) ∧ cn = c2 ∧ (va_up Fw 29 (putM ((Fw 29)) 400 (nI (cn 0)) (atM ((Fw 29)) 400 (nI (cn 0)) + (-x6)))) = F2))) cn3 In3 Fn3 := wh_3
        obtain ⟨hI3_, vh_3⟩ := vh_3
        obtain ⟨h_3, rfl, rfl⟩ := vh_3
        obtain rfl : In = In3 := (funext (fun k => hI3_ k List.not_mem_nil)).symm
        obtain ⟨hP, hD⟩ := exjoinL hP hD hk1 hFc hP1 hD1
        have hP : va_P D vwCl ((wX cI (D.1 99) zz g ad cn In (va_up Fw 29 (putM ((Fw 29)) 400 (nI (cn 0)) (atM ((Fw 29)) 400 (nI (cn 0)) + (-x6))))) ++ ([(bo, .inr (1, [.ref w, .int x1, .int x2, .int x3, .int x4, .int x5, .int x6, .int (nI (cn 0))])), (w, .inl (cI, 12, .inl f))] : va_W)) H1 := hP
        have hD : va_D A ((wX cI (D.1 99) zz g ad cn In (va_up Fw 29 (putM ((Fw 29)) 400 (nI (cn 0)) (atM ((Fw 29)) 400 (nI (cn 0)) + (-x6))))) ++ ([(bo, .inr (1, [.ref w, .int x1, .int x2, .int x3, .int x4, .int x5, .int x6, .int (nI (cn 0))])), (w, .inl (cI, 12, .inl f))] : va_W)) := hD
        generalize H1 = H at hP hS ⊢
        refine lv_aload_n hx hb (oc_42 61 (aq_11 shX11_keep_50)) rfl (lvA1 hl) ?_
        refine gf_RX11_68 S hK hP _ (exl xo_0) (v := .ref (g 12)) rfl (oc_180 62 (aq_12 shX11_keep_50) uw_0_68) ?_
        refine lv_aload_n hx hb (oc_43 65 (aq_15 shX11_keep_50)) rfl (lvA2 hl) ?_
        rcases Nat.eq_zero_or_pos (cn 12) with hz0 | hz0
        ·
          have hi9 : (wX cI (D.1 99) zz g ad cn In (va_up Fw 29 (putM ((Fw 29)) 400 (nI (cn 0)) (atM ((Fw 29)) 400 (nI (cn 0)) + (-x6)))))[26]? = _ := xlz_2 hz0
          have hp2P := pick2P hP (exl hi9) (exr (m := 0) rfl)
          have hp2D := pick2D hD (exl hi9) (exr (m := 0) rfl) (ne_ex hi9)
          have hFc := free_all hp2D hS hA
          refine va_calli (runV_xa (As := [.ref bo]) (rest := []) S (q_l_addZB l D cI cB cZ zz qq vv bt (g 12) bo (In 12) x1 x2 x3 x4 x5 x6 (nI (cn 0)) w H.size) kV_RX11_110 hK hXS hS hFc hp2P hp2D 0 rfl rfl rfl ⟨Nat.le_of_ble_eq_true rfl, Nat.le_of_ble_eq_true rfl⟩ ⟨Nat.le_of_ble_eq_true rfl, Nat.le_of_ble_eq_true rfl⟩ rfl hl.1 rfl (Nat.le_of_ble_eq_true rfl) (oc_182 66 (aq_16 shX11_keep_50) uw_0_110)) hS (fun q _ h => hFc q h) hFc (fun r3 u3 t H1 locs ht hvm h3 hB1 hz1 hk1 hS => ?_)
          obtain ⟨hP1, hD1⟩ := hB1
          rw [ht] at hP1
          obtain rfl : r3 = 1 := h3
          obtain ⟨hP, hD⟩ := add0_join hP hD hi9 rfl hk1 hFc hP1 hD1 rfl (xuB (z := u3) (c := 10) (y := (In 12) + 1) (q := bo) (qs := w) (f := f) (x1 := x1) (x2 := x2) (x3 := x3) (x4 := x4) (x5 := x5) (x6 := x6) (x7 := (nI (cn 0))) hz0 hf0)
          have hP : va_P D vwCl (wX cI (D.1 99) zz g (adO (adO (adO ad 12 (cn 12) bo) 1 (cn 12) w) 2 2 u3) (va_up (va_up cn 12 ((cn 12) + 1)) 22 10) (va_up In 12 ((In 12) + 1)) (va_up (va_up (va_up (va_up (va_up (va_up (va_up (va_up (va_up Fw 29 (putM ((Fw 29)) 400 (nI (cn 0)) (atM ((Fw 29)) 400 (nI (cn 0)) + (-x6)))) 141 (upd ((va_up Fw 29 (putM ((Fw 29)) 400 (nI (cn 0)) (atM ((Fw 29)) 400 (nI (cn 0)) + (-x6)))) 141) (cn 12) x1)) 142 (upd ((va_up Fw 29 (putM ((Fw 29)) 400 (nI (cn 0)) (atM ((Fw 29)) 400 (nI (cn 0)) + (-x6)))) 142) (cn 12) x2)) 143 (upd ((va_up Fw 29 (putM ((Fw 29)) 400 (nI (cn 0)) (atM ((Fw 29)) 400 (nI (cn 0)) + (-x6)))) 143) (cn 12) x3)) 144 (upd ((va_up Fw 29 (putM ((Fw 29)) 400 (nI (cn 0)) (atM ((Fw 29)) 400 (nI (cn 0)) + (-x6)))) 144) (cn 12) x4)) 145 (upd ((va_up Fw 29 (putM ((Fw 29)) 400 (nI (cn 0)) (atM ((Fw 29)) 400 (nI (cn 0)) + (-x6)))) 145) (cn 12) x5)) 146 (upd ((va_up Fw 29 (putM ((Fw 29)) 400 (nI (cn 0)) (atM ((Fw 29)) 400 (nI (cn 0)) + (-x6)))) 146) (cn 12) x6)) 147 (upd ((va_up Fw 29 (putM ((Fw 29)) 400 (nI (cn 0)) (atM ((Fw 29)) 400 (nI (cn 0)) + (-x6)))) 147) (cn 12) (nI (cn 0)))) 150 (flat ((va_up Fw 29 (putM ((Fw 29)) 400 (nI (cn 0)) (atM ((Fw 29)) 400 (nI (cn 0)) + (-x6)))) 150) 12 (cn 12) f))) H1 := hP
          have hD : va_D A (wX cI (D.1 99) zz g (adO (adO (adO ad 12 (cn 12) bo) 1 (cn 12) w) 2 2 u3) (va_up (va_up cn 12 ((cn 12) + 1)) 22 10) (va_up In 12 ((In 12) + 1)) (va_up (va_up (va_up (va_up (va_up (va_up (va_up (va_up (va_up Fw 29 (putM ((Fw 29)) 400 (nI (cn 0)) (atM ((Fw 29)) 400 (nI (cn 0)) + (-x6)))) 141 (upd ((va_up Fw 29 (putM ((Fw 29)) 400 (nI (cn 0)) (atM ((Fw 29)) 400 (nI (cn 0)) + (-x6)))) 141) (cn 12) x1)) 142 (upd ((va_up Fw 29 (putM ((Fw 29)) 400 (nI (cn 0)) (atM ((Fw 29)) 400 (nI (cn 0)) + (-x6)))) 142) (cn 12) x2)) 143 (upd ((va_up Fw 29 (putM ((Fw 29)) 400 (nI (cn 0)) (atM ((Fw 29)) 400 (nI (cn 0)) + (-x6)))) 143) (cn 12) x3)) 144 (upd ((va_up Fw 29 (putM ((Fw 29)) 400 (nI (cn 0)) (atM ((Fw 29)) 400 (nI (cn 0)) + (-x6)))) 144) (cn 12) x4)) 145 (upd ((va_up Fw 29 (putM ((Fw 29)) 400 (nI (cn 0)) (atM ((Fw 29)) 400 (nI (cn 0)) + (-x6)))) 145) (cn 12) x5)) 146 (upd ((va_up Fw 29 (putM ((Fw 29)) 400 (nI (cn 0)) (atM ((Fw 29)) 400 (nI (cn 0)) + (-x6)))) 146) (cn 12) x6)) 147 (upd ((va_up Fw 29 (putM ((Fw 29)) 400 (nI (cn 0)) (atM ((Fw 29)) 400 (nI (cn 0)) + (-x6)))) 147) (cn 12) (nI (cn 0)))) 150 (flat ((va_up Fw 29 (putM ((Fw 29)) 400 (nI (cn 0)) (atM ((Fw 29)) 400 (nI (cn 0)) + (-x6)))) 150) 12 (cn 12) f))) := hD
          generalize H1 = H at hP hS ⊢
          refine W.widen (k := 1) (n := 100) (Nat.le_of_ble_eq_true rfl) (Nat.le_of_ble_eq_true rfl) ?_
          refine lv_pop hx hb (oc_87 69 (aq_19 shX11_keep_50)) rfl ?_
          have hFr9 := (hfr2.2.2)
          exact W.vret hx hb hr (fun t ht hW => ⟨⟨((adO (adO (adO ad 12 (cn 12) bo) 1 (cn 12) w) 2 2 u3), (va_up (va_up cn 12 ((cn 12) + 1)) 22 10), (va_up In 12 ((In 12) + 1)), (va_up (va_up (va_up (va_up (va_up (va_up (va_up (va_up (va_up Fw 29 (putM ((Fw 29)) 400 (nI (cn 0)) (atM ((Fw 29)) 400 (nI (cn 0)) + (-x6)))) 141 (upd ((va_up Fw 29 (putM ((Fw 29)) 400 (nI (cn 0)) (atM ((Fw 29)) 400 (nI (cn 0)) + (-x6)))) 141) (cn 12) x1)) 142 (upd ((va_up Fw 29 (putM ((Fw 29)) 400 (nI (cn 0)) (atM ((Fw 29)) 400 (nI (cn 0)) + (-x6)))) 142) (cn 12) x2)) 143 (upd ((va_up Fw 29 (putM ((Fw 29)) 400 (nI (cn 0)) (atM ((Fw 29)) 400 (nI (cn 0)) + (-x6)))) 143) (cn 12) x3)) 144 (upd ((va_up Fw 29 (putM ((Fw 29)) 400 (nI (cn 0)) (atM ((Fw 29)) 400 (nI (cn 0)) + (-x6)))) 144) (cn 12) x4)) 145 (upd ((va_up Fw 29 (putM ((Fw 29)) 400 (nI (cn 0)) (atM ((Fw 29)) 400 (nI (cn 0)) + (-x6)))) 145) (cn 12) x5)) 146 (upd ((va_up Fw 29 (putM ((Fw 29)) 400 (nI (cn 0)) (atM ((Fw 29)) 400 (nI (cn 0)) + (-x6)))) 146) (cn 12) x6)) 147 (upd ((va_up Fw 29 (putM ((Fw 29)) 400 (nI (cn 0)) (atM ((Fw 29)) 400 (nI (cn 0)) + (-x6)))) 147) (cn 12) (nI (cn 0)))) 150 (flat ((va_up Fw 29 (putM ((Fw 29)) 400 (nI (cn 0)) (atM ((Fw 29)) 400 (nI (cn 0)) + (-x6)))) 150) 12 (cn 12) f))), rfl, ⟨Fw, hFr9, u3, 10, ((In 12) + 1), ⟨by omega, by omega⟩, rfl, rfl, rfl, rfl⟩, by rw [ht]; exact hP, hD⟩, hS.F ht⟩) hS.2.2 (oc_177 70 (aq_20 shX11_keep_50))
        ·
          have hi9 : (wX cI (D.1 99) zz g ad cn In (va_up Fw 29 (putM ((Fw 29)) 400 (nI (cn 0)) (atM ((Fw 29)) 400 (nI (cn 0)) + (-x6)))))[26]? = _ := xl_2 hz0
          have hj9 : (wX cI (D.1 99) zz g ad cn In (va_up Fw 29 (putM ((Fw 29)) 400 (nI (cn 0)) (atM ((Fw 29)) 400 (nI (cn 0)) + (-x6)))))[_]? = _ := xf_15 (k := 0) (show 0 < min 1 (cn 12) by omega)
          obtain ⟨ws9, hp1, hp2⟩ := pickG (W := ((wX cI (D.1 99) zz g ad cn In (va_up Fw 29 (putM ((Fw 29)) 400 (nI (cn 0)) (atM ((Fw 29)) 400 (nI (cn 0)) + (-x6))))) ++ ([(bo, .inr (1, [.ref w, .int x1, .int x2, .int x3, .int x4, .int x5, .int x6, .int (nI (cn 0))])), (w, .inl (cI, 12, .inl f))] : va_W))) (exl hi9) (exl hj9) (exr (m := 0) rfl) (xij (by decide)) (ne_ex hi9) (ne_ex hj9)
          have hP9 := va_P_perm hp1 hP
          have hD9 := va_D_perm hp1 hD
          have hFc := free_all hD9 hS hA
          refine va_calli (runV_xa (As := [.ref bo]) (rest := []) S (q_l_addGB l D cI cB cZ zz qq vv bt (cn 22) (g 12) (ad 2 2) (cn 12) bo (In 12) (ad 12) x1 x2 x3 x4 x5 x6 (nI (cn 0)) w ws9 H.size (by omega) (by omega) hz0 (by omega) (fun i hi => ⟨_, g_mem (hp1.mem_iff.mp (List.mem_of_getElem? (exl (xf_2 (k := i) hi)))) (by decide)⟩)) kV_RX11_110 hK hXS hS hFc hP9 hD9 0 rfl rfl rfl ⟨Nat.le_of_ble_eq_true rfl, Nat.le_of_ble_eq_true rfl⟩ ⟨Nat.le_of_ble_eq_true rfl, Nat.le_of_ble_eq_true rfl⟩ rfl hl.1 rfl (Nat.le_of_ble_eq_true rfl) (oc_182 66 (aq_16 shX11_keep_50) uw_0_110)) hS (fun q _ h => hFc q h) hFc (fun r3 u3 t H1 locs ht hvm h3 hB1 hz1 hk1 hS => ?_)
          obtain ⟨hP1, hD1⟩ := hB1
          rw [ht] at hP1
          obtain ⟨hr3, h3⟩ := h3
          obtain rfl : r3 = 1 := hr3
          obtain ⟨ua3, uc3⟩ := u3
          have hu3 : cn 12 < uc3 ∧ uc3 ≤ 100 := h3
          obtain ⟨hP, hD⟩ := addG_join hp2 hi9 hj9 hP1 hD1 hFc (xaddB (z := ua3) (c := uc3) (y := (In 12) + 1) (q := bo) (qs := w) (f := f) (x1 := x1) (x2 := x2) (x3 := x3) (x4 := x4) (x5 := x5) (x6 := x6) (x7 := (nI (cn 0))) hz0 hf0)
          have hP : va_P D vwCl (wX cI (D.1 99) zz g (adO (adO (adO ad 12 (cn 12) bo) 1 (cn 12) w) 2 2 ua3) (va_up (va_up cn 12 ((cn 12) + 1)) 22 uc3) (va_up In 12 ((In 12) + 1)) (va_up (va_up (va_up (va_up (va_up (va_up (va_up (va_up (va_up Fw 29 (putM ((Fw 29)) 400 (nI (cn 0)) (atM ((Fw 29)) 400 (nI (cn 0)) + (-x6)))) 141 (upd ((va_up Fw 29 (putM ((Fw 29)) 400 (nI (cn 0)) (atM ((Fw 29)) 400 (nI (cn 0)) + (-x6)))) 141) (cn 12) x1)) 142 (upd ((va_up Fw 29 (putM ((Fw 29)) 400 (nI (cn 0)) (atM ((Fw 29)) 400 (nI (cn 0)) + (-x6)))) 142) (cn 12) x2)) 143 (upd ((va_up Fw 29 (putM ((Fw 29)) 400 (nI (cn 0)) (atM ((Fw 29)) 400 (nI (cn 0)) + (-x6)))) 143) (cn 12) x3)) 144 (upd ((va_up Fw 29 (putM ((Fw 29)) 400 (nI (cn 0)) (atM ((Fw 29)) 400 (nI (cn 0)) + (-x6)))) 144) (cn 12) x4)) 145 (upd ((va_up Fw 29 (putM ((Fw 29)) 400 (nI (cn 0)) (atM ((Fw 29)) 400 (nI (cn 0)) + (-x6)))) 145) (cn 12) x5)) 146 (upd ((va_up Fw 29 (putM ((Fw 29)) 400 (nI (cn 0)) (atM ((Fw 29)) 400 (nI (cn 0)) + (-x6)))) 146) (cn 12) x6)) 147 (upd ((va_up Fw 29 (putM ((Fw 29)) 400 (nI (cn 0)) (atM ((Fw 29)) 400 (nI (cn 0)) + (-x6)))) 147) (cn 12) (nI (cn 0)))) 150 (flat ((va_up Fw 29 (putM ((Fw 29)) 400 (nI (cn 0)) (atM ((Fw 29)) 400 (nI (cn 0)) + (-x6)))) 150) 12 (cn 12) f))) H1 := hP
          have hD : va_D A (wX cI (D.1 99) zz g (adO (adO (adO ad 12 (cn 12) bo) 1 (cn 12) w) 2 2 ua3) (va_up (va_up cn 12 ((cn 12) + 1)) 22 uc3) (va_up In 12 ((In 12) + 1)) (va_up (va_up (va_up (va_up (va_up (va_up (va_up (va_up (va_up Fw 29 (putM ((Fw 29)) 400 (nI (cn 0)) (atM ((Fw 29)) 400 (nI (cn 0)) + (-x6)))) 141 (upd ((va_up Fw 29 (putM ((Fw 29)) 400 (nI (cn 0)) (atM ((Fw 29)) 400 (nI (cn 0)) + (-x6)))) 141) (cn 12) x1)) 142 (upd ((va_up Fw 29 (putM ((Fw 29)) 400 (nI (cn 0)) (atM ((Fw 29)) 400 (nI (cn 0)) + (-x6)))) 142) (cn 12) x2)) 143 (upd ((va_up Fw 29 (putM ((Fw 29)) 400 (nI (cn 0)) (atM ((Fw 29)) 400 (nI (cn 0)) + (-x6)))) 143) (cn 12) x3)) 144 (upd ((va_up Fw 29 (putM ((Fw 29)) 400 (nI (cn 0)) (atM ((Fw 29)) 400 (nI (cn 0)) + (-x6)))) 144) (cn 12) x4)) 145 (upd ((va_up Fw 29 (putM ((Fw 29)) 400 (nI (cn 0)) (atM ((Fw 29)) 400 (nI (cn 0)) + (-x6)))) 145) (cn 12) x5)) 146 (upd ((va_up Fw 29 (putM ((Fw 29)) 400 (nI (cn 0)) (atM ((Fw 29)) 400 (nI (cn 0)) + (-x6)))) 146) (cn 12) x6)) 147 (upd ((va_up Fw 29 (putM ((Fw 29)) 400 (nI (cn 0)) (atM ((Fw 29)) 400 (nI (cn 0)) + (-x6)))) 147) (cn 12) (nI (cn 0)))) 150 (flat ((va_up Fw 29 (putM ((Fw 29)) 400 (nI (cn 0)) (atM ((Fw 29)) 400 (nI (cn 0)) + (-x6)))) 150) 12 (cn 12) f))) := hD
          generalize H1 = H at hP hS ⊢
          refine lv_pop hx hb (oc_87 69 (aq_19 shX11_keep_50)) rfl ?_
          have hFr9 := (hfr2.2.2)
          exact W.vret hx hb hr (fun t ht hW => ⟨⟨((adO (adO (adO ad 12 (cn 12) bo) 1 (cn 12) w) 2 2 ua3), (va_up (va_up cn 12 ((cn 12) + 1)) 22 uc3), (va_up In 12 ((In 12) + 1)), (va_up (va_up (va_up (va_up (va_up (va_up (va_up (va_up (va_up Fw 29 (putM ((Fw 29)) 400 (nI (cn 0)) (atM ((Fw 29)) 400 (nI (cn 0)) + (-x6)))) 141 (upd ((va_up Fw 29 (putM ((Fw 29)) 400 (nI (cn 0)) (atM ((Fw 29)) 400 (nI (cn 0)) + (-x6)))) 141) (cn 12) x1)) 142 (upd ((va_up Fw 29 (putM ((Fw 29)) 400 (nI (cn 0)) (atM ((Fw 29)) 400 (nI (cn 0)) + (-x6)))) 142) (cn 12) x2)) 143 (upd ((va_up Fw 29 (putM ((Fw 29)) 400 (nI (cn 0)) (atM ((Fw 29)) 400 (nI (cn 0)) + (-x6)))) 143) (cn 12) x3)) 144 (upd ((va_up Fw 29 (putM ((Fw 29)) 400 (nI (cn 0)) (atM ((Fw 29)) 400 (nI (cn 0)) + (-x6)))) 144) (cn 12) x4)) 145 (upd ((va_up Fw 29 (putM ((Fw 29)) 400 (nI (cn 0)) (atM ((Fw 29)) 400 (nI (cn 0)) + (-x6)))) 145) (cn 12) x5)) 146 (upd ((va_up Fw 29 (putM ((Fw 29)) 400 (nI (cn 0)) (atM ((Fw 29)) 400 (nI (cn 0)) + (-x6)))) 146) (cn 12) x6)) 147 (upd ((va_up Fw 29 (putM ((Fw 29)) 400 (nI (cn 0)) (atM ((Fw 29)) 400 (nI (cn 0)) + (-x6)))) 147) (cn 12) (nI (cn 0)))) 150 (flat ((va_up Fw 29 (putM ((Fw 29)) 400 (nI (cn 0)) (atM ((Fw 29)) 400 (nI (cn 0)) + (-x6)))) 150) 12 (cn 12) f))), rfl, ⟨Fw, hFr9, ua3, uc3, ((In 12) + 1), ⟨by omega, by omega⟩, rfl, rfl, rfl, rfl⟩, by rw [ht]; exact hP, hD⟩, hS.F ht⟩) hS.2.2 (oc_177 70 (aq_20 shX11_keep_50))
      ·
        have tc_1 : ((nI i2).toInt : Int) < 20 := Int32.lt_iff_toInt_lt.mp (Int32.not_le.mp c_1)
        refine lv_aload_n hx hb (oc_42 8 (aq_8 shX11_keep_0)) rfl (lvA1 hl) ?_
        refine lv_iload_n hx hb (oc_28 9 (aq_9 shX11_keep_0)) rfl (lvA0 hl) ?_
        refine va_csq (runV_rxa (As := [.int (nI i2)]) (rest := []) S (q_XloadAt l D cI cB cZ zz qq vv bt g ad cn In Fw (nI i2) hI2) kV_RX11_148 hK hXS hS (exP hP) 0 xo_0 rfl rfl ⟨Nat.le_of_ble_eq_true rfl, Nat.le_of_ble_eq_true rfl⟩ ⟨Nat.le_of_ble_eq_true rfl, Nat.le_of_ble_eq_true rfl⟩ rfl hl.1 rfl (Nat.le_of_ble_eq_true rfl) (oc_182 10 (aq_10 shX11_keep_0) uw_0_148)) (fun r_5 h_6 => ?_)
        rcases h_6 with ⟨mr_5, er_5, hr_5, rfl⟩ | ⟨hr_5, rfl⟩
        ·
          refine lv_astore_n (lv' := [(3, .ref (ad 11 mr_5)), (2, .int (nI i2)), (0, .ref (g 0)), (1, .ref bo)]) hx hb (oc_78 13 (aq_13 shX11_keep_0)) rfl hl (ltb rfl) rfl (fun ls hl => ?_)
          refine lv_aload_n hx hb (oc_45 14 (aq_14 shX11_keep_0)) rfl (lvA0 hl) ?_
          refine lv_ifnull hx hb (oc_198 15 (aq_15 shX11_keep_0) sgw_0_16) ?_
          refine lv_aload_n hx hb (oc_43 18 (aq_18 shX11_keep_0)) rfl (lvA3 hl) ?_
          refine lv_iload_n hx hb (oc_28 19 (aq_19 shX11_keep_0)) rfl (lvA1 hl) ?_
          refine vp_callSi (runV_r (As := [.int (nI i2)]) (rest := []) S (q_l_has l D cI cB cZ bo w x1 x2 x3 x4 x5 x6 x7 (nI i2)) kV_RX11_378 hK hP _ (one_is (exr (m := 0) rfl)) _ (exr (m := 0) rfl) rfl rfl ⟨Nat.le_of_ble_eq_true rfl, Nat.le_of_ble_eq_true rfl⟩ ⟨Nat.le_of_ble_eq_true rfl, Nat.le_of_ble_eq_true rfl⟩ rfl hl.1 rfl (Nat.le_of_ble_eq_true rfl) (oc_182 20 (aq_20 shX11_keep_0) uw_1_122)) (fun r_7 h_8 => ?_)
          rcases h_8 with ⟨rfl, h_8⟩ | ⟨rfl, h_8⟩
          ·
            refine lv_if_eq (tgt := 31) hx hb (oc_153 23 (aq_23 shX11_keep_0) sgw_0_8) rfl (fun h => absurd h cq_eq_1_0) (fun _ => ?_)
            refine lv_aload_n hx hb (oc_45 26 shX11_keep_26) rfl (lvA0 hl) ?_
            refine lv_iconst (v := 1) hx hb (oc_4 27 (aq_1 shX11_keep_26)) kic_1 ?_
            refine pf_RX11_349 S hK hP hD hS _ (exl (xf_1 (by omega))) (v := .int 1) (Nat.le_of_ble_eq_true rfl) rfl rfl (oc_181 28 (aq_2 shX11_keep_26) uw_1_93) (fun H locs hP hD hS => ?_)
            have hP : va_P D vwCl ((wX cI (D.1 99) zz g ad cn In (va_up Fw 129 (upd (Fw 129) mr_5 1))) ++ ([(bo, .inr (1, [.ref w, .int x1, .int x2, .int x3, .int x4, .int x5, .int x6, .int x7])), (w, .inl (cI, 12, .inl f))] : va_W)) H := va_P_eq (exs_l (xf_1 (by omega)) (xs_129 (by omega))) hP
            have hD : va_D A ((wX cI (D.1 99) zz g ad cn In (va_up Fw 129 (upd (Fw 129) mr_5 1))) ++ ([(bo, .inr (1, [.ref w, .int x1, .int x2, .int x3, .int x4, .int x5, .int x6, .int x7])), (w, .inl (cI, 12, .inl f))] : va_W)) := va_D_eq (exs_l (xf_1 (by omega)) (xs_129 (by omega))) hD
            refine lv_iinc (v := (nI (i2 + 1))) (lv' := [(2, .int (nI (i2 + 1))), (3, .ref (ad 11 mr_5)), (0, .ref (g 0)), (1, .ref bo)]) hx hb (oc_132 31 (aq_5 shX11_keep_26) ub_2 sgb_1) hl (k := 1) rfl (nI_1 _) (ltb rfl) rfl (fun ls hl => ?_)
            refine lv_goto (tgt := 2) hx hb (oc_167 34 (aq_8 shX11_keep_26) sgw_255_224) rfl ?_
            exact ih2 (i2 + 1) (va_up Fw 129 (upd (Fw 129) mr_5 1)) _ _ (by omega) ⟨(by omega), (Fr.mo (Fr.f 129 hfr2) (sbl rfl) (sbl rfl) (sbl rfl)), hI2⟩ hP hD hS ls (lv_sub hl [0, 2, 3] rfl)
          ·
            refine lv_if_eq (tgt := 31) hx hb (oc_153 23 (aq_23 shX11_keep_0) sgw_0_8) rfl (fun _ => ?_) (fun h => absurd h cq_eq_0_0)
            refine lv_iinc (v := (nI (i2 + 1))) (lv' := [(2, .int (nI (i2 + 1))), (3, .ref (ad 11 mr_5)), (0, .ref (g 0)), (1, .ref bo)]) hx hb (oc_132 31 (aq_5 shX11_keep_26) ub_2 sgb_1) hl (k := 1) rfl (nI_1 _) (ltb rfl) rfl (fun ls hl => ?_)
            refine lv_goto (tgt := 2) hx hb (oc_167 34 (aq_8 shX11_keep_26) sgw_255_224) rfl ?_
            exact ih2 (i2 + 1) Fw _ _ (by omega) ⟨(by omega), (Fr.mo hfr2 (sbl rfl) (sbl rfl) (sbl rfl)), hI2⟩ hP hD hS ls (lv_sub hl [0, 2, 3] rfl)
        ·
          refine lv_astore_nN (lv' := [(3, .null), (2, .int (nI i2)), (0, .ref (g 0)), (1, .ref bo)]) hx hb (oc_78 13 (aq_13 shX11_keep_0)) rfl hl (ltb rfl) rfl (fun ls hl => ?_)
          refine lv_aload_nN hx hb (oc_45 14 (aq_14 shX11_keep_0)) rfl (lvA0 hl) ?_
          refine lv_ifnullN (tgt := 31) hx hb (oc_198 15 (aq_15 shX11_keep_0) sgw_0_16) rfl ?_
          refine lv_iinc (v := (nI (i2 + 1))) (lv' := [(2, .int (nI (i2 + 1))), (3, .null), (0, .ref (g 0)), (1, .ref bo)]) hx hb (oc_132 31 (aq_5 shX11_keep_26) ub_2 sgb_1) hl (k := 1) rfl (nI_1 _) (ltb rfl) rfl (fun ls hl => ?_)
          refine lv_goto (tgt := 2) hx hb (oc_167 34 (aq_8 shX11_keep_26) sgw_255_224) rfl ?_
          exact ih2 (i2 + 1) Fw _ _ (by omega) ⟨(by omega), (Fr.mo hfr2 (sbl rfl) (sbl rfl) (sbl rfl)), hI2⟩ hP hD hS ls (lv_sub hl [0, 2, 3] rfl)
  exact lp_2 _ 0 Fn _ _ (Nat.lt_succ_self _) ⟨(by omega), (Fr.mo Fr.rf (sbl rfl) (sbl rfl) (sbl rfl)), hB⟩ hP hD hS ls (lv_sub hl [0, 1, 2] rfl)
set_option maxRecDepth 100000 in
set_option maxHeartbeats 4000000 in
theorem q_Xbatch (l : Launch) (D : va_G) (cI cB cZ : ClassId) (zz qq vv : Nat) (bt : Nat → Int32) (g : Nat → Nat) (ad : Nat → Nat → Nat) (cn : Nat → Nat) (In : Nat → Int32) (Fn : Nat → Nat → Int32) (v0 : Int32) (sz : Nat) (hB : CBX cn) (hT : (∀ k : Nat, k < cn 10 → ad 3 k < cn 6) ∧ ad 4 0 < cn 6 ∧ ad 4 1 < cn 6) (hC : ∀ k : Nat, k < cn 6 → ∃ n : Nat, n ≤ 12 ∧ Fn 198 k = nI n) : Met l yX11_batch (CWS yX11_batch cX11_batch 4 (some .int)) (RM 9 3 120) (PBx [.ref (g 0), .int v0] D cI cB cZ zz qq vv bt (wX cI (D.1 99) zz g ad cn In Fn) sz) (va_Qi (fun (r : Int32) (u : (Nat → Nat → Nat) × (Nat → Nat) × (Nat → Int32) × (Nat → Nat → Int32)) => (fun r a2 c2 I2 F2 => ∃ (Fb : Nat → Nat → Int32), (∀ k, k ∉ [7, 129, 196, 197, 305] → Fb k = Fn k) ∧ ((ad = a2 ∧ cn = c2 ∧ In = I2 ∧ Fb = F2) ∨ (r = nI (cn 12) ∧ cn 12 < 10 ∧ ∃ (q qs z c : Nat) (y x1 x2 x4 x5 x6 : Int32), (cn 12 < c ∧ c ≤ 100) ∧ (adO (adO (adO ad 12 (cn 12) q) 1 (cn 12) qs) 2 2 z) = a2 ∧ (va_up (va_up cn 12 ((cn 12) + 1)) 22 c) = c2 ∧ (va_up In 12 y) = I2 ∧ (va_up (va_up (va_up (va_up (va_up (va_up (va_up (va_up (va_up Fb 29 (putM (Fb 29) 400 (nI (cn 0)) (atM (Fb 29) 400 (nI (cn 0)) + -x6))) 141 (upd ((va_up Fb 29 (putM (Fb 29) 400 (nI (cn 0)) (atM (Fb 29) 400 (nI (cn 0)) + -x6))) 141) (cn 12) x1)) 142 (upd ((va_up Fb 29 (putM (Fb 29) 400 (nI (cn 0)) (atM (Fb 29) 400 (nI (cn 0)) + -x6))) 142) (cn 12) x2)) 143 (upd ((va_up Fb 29 (putM (Fb 29) 400 (nI (cn 0)) (atM (Fb 29) 400 (nI (cn 0)) + -x6))) 143) (cn 12) 0)) 144 (upd ((va_up Fb 29 (putM (Fb 29) 400 (nI (cn 0)) (atM (Fb 29) 400 (nI (cn 0)) + -x6))) 144) (cn 12) x4)) 145 (upd ((va_up Fb 29 (putM (Fb 29) 400 (nI (cn 0)) (atM (Fb 29) 400 (nI (cn 0)) + -x6))) 145) (cn 12) x5)) 146 (upd ((va_up Fb 29 (putM (Fb 29) 400 (nI (cn 0)) (atM (Fb 29) 400 (nI (cn 0)) + -x6))) 146) (cn 12) x6)) 147 (upd ((va_up Fb 29 (putM (Fb 29) 400 (nI (cn 0)) (atM (Fb 29) 400 (nI (cn 0)) + -x6))) 147) (cn 12) (nI (cn 0)))) 150 (flat ((va_up Fb 29 (putM (Fb 29) 400 (nI (cn 0)) (atM (Fb 29) 400 (nI (cn 0)) + -x6))) 150) 12 (cn 12) (fun _ => 0))) = F2))) r u.1 u.2.1 u.2.2.1 u.2.2.2) (fun (u : (Nat → Nat → Nat) × (Nat → Nat) × (Nat → Int32) × (Nat → Nat → Int32)) (t : State) => va_P D vwCl (wX cI (D.1 99) zz g u.1 u.2.1 u.2.2.1 u.2.2.2) t.heap ∧ va_D (va_A (wX cI (D.1 99) zz g ad cn In Fn) sz) (wX cI (D.1 99) zz g u.1 u.2.1 u.2.2.1 u.2.2.2)) (va_A (wX cI (D.1 99) zz g ad cn In Fn) sz)) 3 120 (va_A (wX cI (D.1 99) zz g ad cn In Fn) sz) := by
  refine en_x (fun A => (va_Qi (fun (r : Int32) (u : (Nat → Nat → Nat) × (Nat → Nat) × (Nat → Int32) × (Nat → Nat → Int32)) => (fun (r : Int32) (a2 : Nat → Nat → Nat) (c2 : Nat → Nat) (I2 : Nat → Int32) (F2 : Nat → Nat → Int32) => ∃ (Fb : Nat → Nat → Int32), (∀ k, k ∉ [7, 129, 196, 197, 305] → Fb k = Fn k) ∧ ((ad = a2 ∧ cn = c2 ∧ In = I2 ∧ Fb = F2) ∨ (r = nI (cn 12) ∧ cn 12 < 10 ∧ ∃ (q qs z c : Nat) (y x1 x2 x4 x5 x6 : Int32), (cn 12 < c ∧ c ≤ 100) ∧ (adO (adO (adO ad 12 (cn 12) q) 1 (cn 12) qs) 2 2 z) = a2 ∧ (va_up (va_up cn 12 ((cn 12) + 1)) 22 c) = c2 ∧ (va_up In 12 y) = I2 ∧ (va_up (va_up (va_up (va_up (va_up (va_up (va_up (va_up (va_up Fb 29 (putM (Fb 29) 400 (nI (cn 0)) (atM (Fb 29) 400 (nI (cn 0)) + -x6))) 141 (upd ((va_up Fb 29 (putM (Fb 29) 400 (nI (cn 0)) (atM (Fb 29) 400 (nI (cn 0)) + -x6))) 141) (cn 12) x1)) 142 (upd ((va_up Fb 29 (putM (Fb 29) 400 (nI (cn 0)) (atM (Fb 29) 400 (nI (cn 0)) + -x6))) 142) (cn 12) x2)) 143 (upd ((va_up Fb 29 (putM (Fb 29) 400 (nI (cn 0)) (atM (Fb 29) 400 (nI (cn 0)) + -x6))) 143) (cn 12) 0)) 144 (upd ((va_up Fb 29 (putM (Fb 29) 400 (nI (cn 0)) (atM (Fb 29) 400 (nI (cn 0)) + -x6))) 144) (cn 12) x4)) 145 (upd ((va_up Fb 29 (putM (Fb 29) 400 (nI (cn 0)) (atM (Fb 29) 400 (nI (cn 0)) + -x6))) 145) (cn 12) x5)) 146 (upd ((va_up Fb 29 (putM (Fb 29) 400 (nI (cn 0)) (atM (Fb 29) 400 (nI (cn 0)) + -x6))) 146) (cn 12) x6)) 147 (upd ((va_up Fb 29 (putM (Fb 29) 400 (nI (cn 0)) (atM (Fb 29) 400 (nI (cn 0)) + -x6))) 147) (cn 12) (nI (cn 0)))) 150 (flat ((va_up Fb 29 (putM (Fb 29) 400 (nI (cn 0)) (atM (Fb 29) 400 (nI (cn 0)) + -x6))) 150) 12 (cn 12) (fun _ => 0))) = F2))) r u.1 u.2.1 u.2.2.1 u.2.2.2) (fun (u : (Nat → Nat → Nat) × (Nat → Nat) × (Nat → Int32) × (Nat → Nat → Int32)) (t : State) => va_P D vwCl (wX cI (D.1 99) zz g u.1 u.2.1 u.2.2.1 u.2.2.2) t.heap ∧ va_D A (wX cI (D.1 99) zz g u.1 u.2.1 u.2.2.1 u.2.2.2)) A)) rfl rfl pn_RX11 (Nat.le_of_ble_eq_true rfl) (fun p e s m below meth c A hx hb hml hown S hr hlocks hnm hA hP hK hD hXS hS ls hl => ?_)
  have hl : lv_has ls 4 [(0, .ref (g 0)), (1, .int v0)] := hl
  refine lv_iload_n hx hb (oc_27 0 shX11_batch_0) rfl (lvA1 hl) ?_
  refine lv_iconst (v := 1) hx hb (oc_4 1 (aq_1 shX11_batch_0)) kic_1 ?_
  refine lv_ldcw (v := 1048575) hx hb hown (S.2.2.2.2 _ (wk4_17 2 rfl rfl)) (oc_19 2 (aq_2 shX11_batch_0) uw_1_106) ?_
  refine vp_callSi (runS_r (As := [.int v0, .int 1, .int 1048575]) (rest := []) S (q_l_within l D cI cB cZ v0 1 1048575) kS_RX11_80 hK hP [] rfl ⟨Nat.le_of_ble_eq_true rfl, Nat.le_of_ble_eq_true rfl⟩ ⟨Nat.le_of_ble_eq_true rfl, Nat.le_of_ble_eq_true rfl⟩ rfl hl.1 rfl (Nat.le_of_ble_eq_true rfl) (oc_184 5 (aq_5 shX11_batch_0) uw_0_80)) (fun r_1 h_2 => ?_)
  rcases h_2 with ⟨rfl, h_2⟩ | ⟨rfl, h_2⟩
  ·
    have h_2 : 1 ≤ v0.toInt ∧ v0.toInt ≤ 1048575 := h_2
    refine lv_if_eq (tgt := 23) hx hb (oc_153 8 (aq_8 shX11_batch_0) sgw_0_15) rfl (fun h => absurd h cq_eq_1_0) (fun _ => ?_)
    refine lv_aload_n hx hb (oc_42 11 (aq_11 shX11_batch_0)) rfl (lvA0 hl) ?_
    refine gf_RX11_68 S hK hP 0 xo_0 (v := .ref (g 12)) rfl (oc_180 12 (aq_12 shX11_batch_0) uw_0_68) ?_
    refine vp_callSi (runV_r (As := []) (rest := []) S (q_l_size l D cI cB cZ (g 12) (if (cn 12) = 0 then zz else ad 2 2) (In 12) (nI (cn 12))) kV_RX11_84 hK hP [26] (one_is xo_26) 26 xo_26 rfl rfl ⟨Nat.le_of_ble_eq_true rfl, Nat.le_of_ble_eq_true rfl⟩ ⟨Nat.le_of_ble_eq_true rfl, Nat.le_of_ble_eq_true rfl⟩ rfl hl.1 rfl (Nat.le_of_ble_eq_true rfl) (oc_182 15 (aq_15 shX11_batch_0) uw_0_84)) (fun r_3 h_4 => ?_)
    subst h_4
    refine lv_bipush (v := 10) hx hb (oc_16 18 (aq_18 shX11_batch_0) sgb_10) kbc_10 ?_
    have : (nI (cn 12)).toInt = (((cn 12) : Nat) : Int) := nI_toInt (by omega)
    refine lv_icmp_lt (tgt := 25) hx hb (oc_161 20 (aq_20 shX11_batch_0) sgw_0_5) rfl (fun c_5 => ?_) (fun c_5 => ?_)
    ·
      have tc_5 : ((nI (cn 12)).toInt : Int) < 10 := Int32.lt_iff_toInt_lt.mp c_5
      refine lv_aload_n hx hb (oc_42 25 (aq_1 shX11_batch_24)) rfl (lvA0 hl) ?_
      refine lv_iload_n hx hb (oc_27 26 (aq_2 shX11_batch_24)) rfl (lvA1 hl) ?_
      have hFc := free_all hD hS hA
      refine va_callq (runV_xa (As := [.int v0]) (rest := []) S (q_Emixed l D cI cB cZ zz qq vv bt g ad cn In Fn v0 s.heap.size hB) kV_RX11_363 hK hXS hS hFc hP hD 0 xo_0 rfl rfl ⟨Nat.le_of_ble_eq_true rfl, Nat.le_of_ble_eq_true rfl⟩ ⟨Nat.le_of_ble_eq_true rfl, Nat.le_of_ble_eq_true rfl⟩ rfl hl.1 rfl (Nat.le_of_ble_eq_true rfl) (oc_182 27 (aq_3 shX11_batch_24) uw_1_107)) hS (fun q _ h => hFc q h) hFc (fun r5 u5 t H1 locs ht hvm h5 hB1 hz1 hk1 hS => ?_)
      obtain ⟨hP1, hD1⟩ := hB1
      rw [ht] at hP1
      obtain ⟨a5, c5, I5, F5, W5⟩ := u5
      obtain ⟨rfl, rfl, rfl, rfl, h5⟩ := h5
      rcases h5 with ⟨rfl, rfl⟩ | ⟨bo5, w5, xa5, xb5, xd5, xe5, xf5, rfl, rfl⟩
      ·
        rw [List.append_nil] at hP1 hD1
        have hP : va_P D vwCl (wX cI (D.1 99) zz g ad cn In Fn) H1 := hP1
        have hD : va_D A (wX cI (D.1 99) zz g ad cn In Fn) := hD1.weaken (fun _ _ _ h => hFc _ h)
        generalize H1 = H at hP hS ⊢
        refine lv_astore_nN (lv' := [(2, .null), (0, .ref (g 0)), (1, .int v0)]) hx hb (oc_77 30 (aq_6 shX11_batch_24)) rfl hl (ltb rfl) rfl (fun ls hl => ?_)
        refine lv_aload_nN hx hb (oc_44 31 (aq_7 shX11_batch_24)) rfl (lvA0 hl) ?_
        refine lv_ifnonnullN hx hb (oc_199 32 (aq_8 shX11_batch_24) sgw_0_5) ?_
        refine lv_iconst (v := (-1)) hx hb (oc_2 35 (aq_11 shX11_batch_24)) kic_m1 ?_
        refine W.widen (k := 3) (n := 120) (Nat.le_of_ble_eq_true rfl) (Nat.le_of_ble_eq_true rfl) ?_
        exact W.iret (v := (-1)) hx hb hr (fun t ht hW => ⟨⟨(-1), (ad, cn, In, Fn), rfl, ⟨Fn, (Fr.mo (show Fr [] [] [] cn In Fn cn In Fn from Fr.rf) (sbl rfl) (sbl rfl) (sbl rfl) : Fr [] [] [7, 129, 196, 197, 305] cn In Fn cn In Fn).2.2, Or.inl ⟨rfl, rfl, rfl, rfl⟩⟩, by rw [ht]; exact hP, hD⟩, hS.F ht⟩) hS.2.2 (oc_172 36 (aq_12 shX11_batch_24))
      ·
        have hP : va_P D vwCl ((wX cI (D.1 99) zz g ad cn In Fn) ++ ([(bo5, .inr (1, [.ref w5, .int xa5, .int xb5, .int 0, .int xd5, .int xe5, .int xf5, .int 0])), (w5, .inl (cI, 12, .inl (fun _ => 0)))] : va_W)) H1 := hP1
        have hD : va_D A ((wX cI (D.1 99) zz g ad cn In Fn) ++ ([(bo5, .inr (1, [.ref w5, .int xa5, .int xb5, .int 0, .int xd5, .int xe5, .int xf5, .int 0])), (w5, .inl (cI, 12, .inl (fun _ => 0)))] : va_W)) := hD1.weaken (fun _ _ _ h => hFc _ h)
        generalize H1 = H at hP hS ⊢
        refine lv_astore_n (lv' := [(2, .ref bo5), (0, .ref (g 0)), (1, .int v0)]) hx hb (oc_77 30 (aq_6 shX11_batch_24)) rfl hl (ltb rfl) rfl (fun ls hl => ?_)
        refine lv_aload_n hx hb (oc_44 31 (aq_7 shX11_batch_24)) rfl (lvA0 hl) ?_
        refine lv_ifnonnull (tgt := 37) hx hb (oc_199 32 (aq_8 shX11_batch_24) sgw_0_5) rfl ?_
        refine lv_aload_n hx hb (oc_42 37 (aq_13 shX11_batch_24)) rfl (lvA1 hl) ?_
        have hFc := free_all (exD hD) hS hA
        refine va_callv (runV_xa (As := []) (rest := []) S (q_XlettersOfLaw l D cI cB cZ zz qq vv bt g ad cn In Fn  H.size hB) kV_RX11_367 hK hXS hS hFc (exP hP) (exD hD) 0 xo_0 rfl rfl ⟨Nat.le_of_ble_eq_true rfl, Nat.le_of_ble_eq_true rfl⟩ ⟨Nat.le_of_ble_eq_true rfl, Nat.le_of_ble_eq_true rfl⟩ rfl hl.1 rfl (Nat.le_of_ble_eq_true rfl) (oc_182 38 (aq_14 shX11_batch_24) uw_1_111)) hS (fun q _ h => hFc q h) hFc (fun u t H1 locs ht hvm wh_8 hB1 hz1 hk1 hS => ?_)
        obtain ⟨cn8, In8, Fn8⟩ := u
        obtain ⟨hP1, hD1⟩ := hB1
        rw [ht] at hP1
        obtain ⟨hP, hD⟩ := exjoinL hP hD hk1 hFc hP1 hD1
        have hP : va_P D vwCl ((wX cI (D.1 99) zz g ad cn8 In8 Fn8) ++ ([(bo5, .inr (1, [.ref w5, .int xa5, .int xb5, .int 0, .int xd5, .int xe5, .int xf5, .int 0])), (w5, .inl (cI, 12, .inl (fun _ => 0)))] : va_W)) H1 := hP
        have hD : va_D A ((wX cI (D.1 99) zz g ad cn8 In8 Fn8) ++ ([(bo5, .inr (1, [.ref w5, .int xa5, .int xb5, .int 0, .int xd5, .int xe5, .int xf5, .int 0])), (w5, .inl (cI, 12, .inl (fun _ => 0)))] : va_W)) := hD
        generalize H1 = H at hP hS ⊢
        have vh_8 : (fun c2 I2 F2 => Fr [] [] [7] cn In Fn c2 I2 F2 ∧ CBX c2 ∧ (True)) cn8 In8 Fn8 := wh_8
        obtain ⟨hfc8, hIn8, h_8⟩ := vh_8
        obtain rfl : cn = cn8 := (funext (fun k => hfc8.1 k List.not_mem_nil)).symm
        obtain rfl : In = In8 := (funext (fun k => hfc8.2.1 k List.not_mem_nil)).symm
        have hf8 : Fr [] [] [7, 129, 196, 197, 305] cn In Fn cn In Fn8 := Fr.mo (Fr.tr (Fr.rf (cn := cn) (In := In) (Fn := Fn)) hfc8) (sbl rfl) (sbl rfl) (sbl rfl)
        refine lv_aload_n hx hb (oc_42 41 (aq_17 shX11_batch_24)) rfl (lvA1 hl) ?_
        refine lv_aload_n hx hb (oc_44 42 (aq_18 shX11_batch_24)) rfl (lvA0 hl) ?_
        have hFc := free_all hD hS hA
        refine va_calli (runV_xa (As := [.ref bo5]) (rest := []) S (q_EbrokenClause l D cI cB cZ zz qq vv bt g ad cn In Fn8 bo5 w5 xa5 xb5 0 xd5 xe5 xf5 0 (([(w5, .inl (cI, 12, .inl (fun _ => 0)))] : va_W)) H.size hIn8 hT (fun k hk => by rw [hf8.2.2 198 (nml rfl)]; exact hC k hk)) kV_RX11_370 hK hXS hS hFc hP hD _ (exl xo_0) rfl rfl ⟨Nat.le_of_ble_eq_true rfl, Nat.le_of_ble_eq_true rfl⟩ ⟨Nat.le_of_ble_eq_true rfl, Nat.le_of_ble_eq_true rfl⟩ rfl hl.1 rfl (Nat.le_of_ble_eq_true rfl) (oc_182 43 (aq_19 shX11_batch_24) uw_1_114)) hS (fun q _ h => hFc q h) hFc (fun r8 u8 t H1 locs ht hvm h8 hB1 hz1 hk1 hS => ?_)
        obtain ⟨hP1, hD1⟩ := hB1
        rw [ht] at hP1
        obtain ⟨a8, c8, I8, F8⟩ := u8
        obtain ⟨rfl, rfl, rfl, h8⟩ := h8
        have hf8 : Fr [] [] [7, 129, 196, 197, 305] cn In Fn cn In F8 := Fr.mo (Fr.tr hf8 (show Fr [] [] [7, 196, 197, 305] cn In Fn8 cn In F8 from ⟨fun _ _ => rfl, fun _ _ => rfl, h8⟩)) (sbl rfl) (sbl rfl) (sbl rfl)
        have hP : va_P D vwCl ((wX cI (D.1 99) zz g ad cn In F8) ++ ([(bo5, .inr (1, [.ref w5, .int xa5, .int xb5, .int 0, .int xd5, .int xe5, .int xf5, .int 0])), (w5, .inl (cI, 12, .inl (fun _ => 0)))] : va_W)) H1 := hP1
        have hD : va_D A ((wX cI (D.1 99) zz g ad cn In F8) ++ ([(bo5, .inr (1, [.ref w5, .int xa5, .int xb5, .int 0, .int xd5, .int xe5, .int xf5, .int 0])), (w5, .inl (cI, 12, .inl (fun _ => 0)))] : va_W)) := hD1.weaken (fun _ _ _ h => hFc _ h)
        generalize H1 = H at hP hS ⊢
        refine lv_istore_n (lv' := [(3, .int r8), (2, .ref bo5), (0, .ref (g 0)), (1, .int v0)]) hx hb (oc_62 46 (aq_22 shX11_batch_24)) rfl hl (ltb rfl) rfl (fun ls hl => ?_)
        refine lv_iload_n hx hb (oc_29 47 (aq_23 shX11_batch_24)) rfl (lvA0 hl) ?_
        refine lv_iconst (v := (-1)) hx hb (oc_2 48 shX11_batch_48) kic_m1 ?_
        refine lv_icmp_eq (tgt := 57) hx hb (oc_159 49 (aq_1 shX11_batch_48) sgw_0_8) rfl (fun c_10 => ?_) (fun c_10 => ?_)
        ·
          have tc_10 : (r8.toInt : Int) = (-1) := congrArg Int32.toInt c_10
          refine lv_aload_n hx hb (oc_42 57 (aq_9 shX11_batch_48)) rfl (lvA2 hl) ?_
          refine lv_aload_n hx hb (oc_44 58 (aq_10 shX11_batch_48)) rfl (lvA1 hl) ?_
          have hFc := free_all hD hS hA
          refine va_callv (runV_xa (As := [.ref bo5]) (rest := []) S (q_Ekeep l D cI cB cZ zz qq vv bt g ad cn In F8 bo5 w5 xa5 xb5 0 xd5 xe5 xf5 0 (fun _ => 0) H.size hIn8 (by omega) (fun _ _ => rfl)) kV_RX11_374 hK hXS hS hFc hP hD _ (exl xo_0) rfl rfl ⟨Nat.le_of_ble_eq_true rfl, Nat.le_of_ble_eq_true rfl⟩ ⟨Nat.le_of_ble_eq_true rfl, Nat.le_of_ble_eq_true rfl⟩ rfl hl.1 rfl (Nat.le_of_ble_eq_true rfl) (oc_182 59 (aq_11 shX11_batch_48) uw_1_118)) hS (fun q _ h => hFc q h) hFc (fun u10 t H1 locs ht hvm h10 hB1 hz1 hk1 hS => ?_)
          obtain ⟨hP1, hD1⟩ := hB1
          rw [ht] at hP1
          obtain ⟨a10, c10, I10, F10⟩ := u10
          obtain ⟨G10, hG10, z10, k10, y10, hk10, rfl, rfl, rfl, rfl⟩ := h10
          have hf10 : Fr [] [] [7, 129, 196, 197, 305] cn In Fn cn In G10 := Fr.mo (Fr.tr hf8 (show Fr [] [] [129] cn In F8 cn In G10 from ⟨fun _ _ => rfl, fun _ _ => rfl, hG10⟩)) (sbl rfl) (sbl rfl) (sbl rfl)
          have hP : va_P D vwCl (wX cI (D.1 99) zz g (adO (adO (adO ad 12 (cn 12) bo5) 1 (cn 12) w5) 2 2 z10) (va_up (va_up cn 12 ((cn 12) + 1)) 22 k10) (va_up In 12 y10) (va_up (va_up (va_up (va_up (va_up (va_up (va_up (va_up (va_up G10 29 (putM (G10 29) 400 (nI (cn 0)) (atM (G10 29) 400 (nI (cn 0)) + -xf5))) 141 (upd ((va_up G10 29 (putM (G10 29) 400 (nI (cn 0)) (atM (G10 29) 400 (nI (cn 0)) + -xf5))) 141) (cn 12) xa5)) 142 (upd ((va_up G10 29 (putM (G10 29) 400 (nI (cn 0)) (atM (G10 29) 400 (nI (cn 0)) + -xf5))) 142) (cn 12) xb5)) 143 (upd ((va_up G10 29 (putM (G10 29) 400 (nI (cn 0)) (atM (G10 29) 400 (nI (cn 0)) + -xf5))) 143) (cn 12) 0)) 144 (upd ((va_up G10 29 (putM (G10 29) 400 (nI (cn 0)) (atM (G10 29) 400 (nI (cn 0)) + -xf5))) 144) (cn 12) xd5)) 145 (upd ((va_up G10 29 (putM (G10 29) 400 (nI (cn 0)) (atM (G10 29) 400 (nI (cn 0)) + -xf5))) 145) (cn 12) xe5)) 146 (upd ((va_up G10 29 (putM (G10 29) 400 (nI (cn 0)) (atM (G10 29) 400 (nI (cn 0)) + -xf5))) 146) (cn 12) xf5)) 147 (upd ((va_up G10 29 (putM (G10 29) 400 (nI (cn 0)) (atM (G10 29) 400 (nI (cn 0)) + -xf5))) 147) (cn 12) (nI (cn 0)))) 150 (flat ((va_up G10 29 (putM (G10 29) 400 (nI (cn 0)) (atM (G10 29) 400 (nI (cn 0)) + -xf5))) 150) 12 (cn 12) (fun _ => 0)))) H1 := hP1
          have hD : va_D A (wX cI (D.1 99) zz g (adO (adO (adO ad 12 (cn 12) bo5) 1 (cn 12) w5) 2 2 z10) (va_up (va_up cn 12 ((cn 12) + 1)) 22 k10) (va_up In 12 y10) (va_up (va_up (va_up (va_up (va_up (va_up (va_up (va_up (va_up G10 29 (putM (G10 29) 400 (nI (cn 0)) (atM (G10 29) 400 (nI (cn 0)) + -xf5))) 141 (upd ((va_up G10 29 (putM (G10 29) 400 (nI (cn 0)) (atM (G10 29) 400 (nI (cn 0)) + -xf5))) 141) (cn 12) xa5)) 142 (upd ((va_up G10 29 (putM (G10 29) 400 (nI (cn 0)) (atM (G10 29) 400 (nI (cn 0)) + -xf5))) 142) (cn 12) xb5)) 143 (upd ((va_up G10 29 (putM (G10 29) 400 (nI (cn 0)) (atM (G10 29) 400 (nI (cn 0)) + -xf5))) 143) (cn 12) 0)) 144 (upd ((va_up G10 29 (putM (G10 29) 400 (nI (cn 0)) (atM (G10 29) 400 (nI (cn 0)) + -xf5))) 144) (cn 12) xd5)) 145 (upd ((va_up G10 29 (putM (G10 29) 400 (nI (cn 0)) (atM (G10 29) 400 (nI (cn 0)) + -xf5))) 145) (cn 12) xe5)) 146 (upd ((va_up G10 29 (putM (G10 29) 400 (nI (cn 0)) (atM (G10 29) 400 (nI (cn 0)) + -xf5))) 146) (cn 12) xf5)) 147 (upd ((va_up G10 29 (putM (G10 29) 400 (nI (cn 0)) (atM (G10 29) 400 (nI (cn 0)) + -xf5))) 147) (cn 12) (nI (cn 0)))) 150 (flat ((va_up G10 29 (putM (G10 29) 400 (nI (cn 0)) (atM (G10 29) 400 (nI (cn 0)) + -xf5))) 150) 12 (cn 12) (fun _ => 0)))) := hD1.weaken (fun _ _ _ h => hFc _ h)
          generalize H1 = H at hP hS ⊢
          refine lv_aload_n hx hb (oc_42 62 (aq_14 shX11_batch_48)) rfl (lvA2 hl) ?_
          refine gf_RX11_68 S hK hP 0 xo_0 (v := .ref (g 12)) rfl (oc_180 63 (aq_15 shX11_batch_48) uw_0_68) ?_
          refine vp_callSi (runV_r (As := []) (rest := []) S (q_l_size l D cI cB cZ (g 12) (if ((cn 12) + 1) = 0 then zz else (adO (adO (adO ad 12 (cn 12) bo5) 1 (cn 12) w5) 2 2 z10) 2 2) y10 (nI ((cn 12) + 1))) kV_RX11_84 hK hP [26] (one_is xo_26) 26 xo_26 rfl rfl ⟨Nat.le_of_ble_eq_true rfl, Nat.le_of_ble_eq_true rfl⟩ ⟨Nat.le_of_ble_eq_true rfl, Nat.le_of_ble_eq_true rfl⟩ rfl hl.1 rfl (Nat.le_of_ble_eq_true rfl) (oc_182 66 (aq_18 shX11_batch_48) uw_0_84)) (fun r_12 h_13 => ?_)
          subst h_13
          refine lv_iconst (v := 1) hx hb (oc_4 69 (aq_21 shX11_batch_48)) kic_1 ?_
          refine lv_isub hx hb (oc_100 70 (aq_22 shX11_batch_48)) ?_
          refine lv_topi (fun y_14 ey_14 => ?_)
          obtain rfl : y_14 = (nI (cn 12)) := ey_14.trans (nI_sub (b := 1) (by omega))
          exact W.iret (v := (nI (cn 12))) hx hb hr (fun t ht hW => ⟨⟨(nI (cn 12)), ((adO (adO (adO ad 12 (cn 12) bo5) 1 (cn 12) w5) 2 2 z10), (va_up (va_up cn 12 ((cn 12) + 1)) 22 k10), (va_up In 12 y10), (va_up (va_up (va_up (va_up (va_up (va_up (va_up (va_up (va_up G10 29 (putM (G10 29) 400 (nI (cn 0)) (atM (G10 29) 400 (nI (cn 0)) + -xf5))) 141 (upd ((va_up G10 29 (putM (G10 29) 400 (nI (cn 0)) (atM (G10 29) 400 (nI (cn 0)) + -xf5))) 141) (cn 12) xa5)) 142 (upd ((va_up G10 29 (putM (G10 29) 400 (nI (cn 0)) (atM (G10 29) 400 (nI (cn 0)) + -xf5))) 142) (cn 12) xb5)) 143 (upd ((va_up G10 29 (putM (G10 29) 400 (nI (cn 0)) (atM (G10 29) 400 (nI (cn 0)) + -xf5))) 143) (cn 12) 0)) 144 (upd ((va_up G10 29 (putM (G10 29) 400 (nI (cn 0)) (atM (G10 29) 400 (nI (cn 0)) + -xf5))) 144) (cn 12) xd5)) 145 (upd ((va_up G10 29 (putM (G10 29) 400 (nI (cn 0)) (atM (G10 29) 400 (nI (cn 0)) + -xf5))) 145) (cn 12) xe5)) 146 (upd ((va_up G10 29 (putM (G10 29) 400 (nI (cn 0)) (atM (G10 29) 400 (nI (cn 0)) + -xf5))) 146) (cn 12) xf5)) 147 (upd ((va_up G10 29 (putM (G10 29) 400 (nI (cn 0)) (atM (G10 29) 400 (nI (cn 0)) + -xf5))) 147) (cn 12) (nI (cn 0)))) 150 (flat ((va_up G10 29 (putM (G10 29) 400 (nI (cn 0)) (atM (G10 29) 400 (nI (cn 0)) + -xf5))) 150) 12 (cn 12) (fun _ => 0)))), rfl, ⟨G10, ((hf10).2.2), Or.inr ⟨rfl, by omega, bo5, w5, z10, k10, y10, xa5, xb5, xd5, xe5, xf5, hk10, rfl, rfl, rfl, rfl⟩⟩, by rw [ht]; exact hP, hD⟩, hS.F ht⟩) hS.2.2 (oc_172 71 (aq_23 shX11_batch_48))
        ·
          have tc_10 : (r8.toInt : Int) ≠ (-1) := fun q => c_10 (Int32.toInt_inj.mp q)
          refine lv_bipush (v := (-10)) hx hb (oc_16 52 (aq_4 shX11_batch_48) sgb_246) kbc_m10 ?_
          refine lv_iload_n hx hb (oc_29 54 (aq_6 shX11_batch_48)) rfl (lvA0 hl) ?_
          refine lv_isub hx hb (oc_100 55 (aq_7 shX11_batch_48)) ?_
          have hP := exP hP
          have hD := exD hD
          refine W.widen (k := 3) (n := 120) (Nat.le_of_ble_eq_true rfl) (Nat.le_of_ble_eq_true rfl) ?_
          exact W.iret (v := ((-10) - r8)) hx hb hr (fun t ht hW => ⟨⟨((-10) - r8), (ad, cn, In, F8), rfl, ⟨F8, (Fr.mo (show Fr [] [] [7, 129, 196, 197, 305] cn In Fn cn In F8 from hf8) (sbl rfl) (sbl rfl) (sbl rfl) : Fr [] [] [7, 129, 196, 197, 305] cn In Fn cn In F8).2.2, Or.inl ⟨rfl, rfl, rfl, rfl⟩⟩, by rw [ht]; exact hP, hD⟩, hS.F ht⟩) hS.2.2 (oc_172 56 (aq_8 shX11_batch_48))
    ·
      have tc_5 : (10 : Int) ≤ (nI (cn 12)).toInt := Int32.le_iff_toInt_le.mp (Int32.not_lt.mp c_5)
      refine lv_iconst (v := (-1)) hx hb (oc_2 23 (aq_23 shX11_batch_0)) kic_m1 ?_
      refine W.widen (k := 3) (n := 120) (Nat.le_of_ble_eq_true rfl) (Nat.le_of_ble_eq_true rfl) ?_
      exact W.iret (v := (-1)) hx hb hr (fun t ht hW => ⟨⟨(-1), (ad, cn, In, Fn), rfl, ⟨Fn, (Fr.mo (show Fr [] [] [] cn In Fn cn In Fn from Fr.rf) (sbl rfl) (sbl rfl) (sbl rfl) : Fr [] [] [7, 129, 196, 197, 305] cn In Fn cn In Fn).2.2, Or.inl ⟨rfl, rfl, rfl, rfl⟩⟩, by rw [ht]; exact hP, hD⟩, hS.F ht⟩) hS.2.2 (oc_172 24 shX11_batch_24)
  ·
    have h_2 : ¬ (1 ≤ v0.toInt ∧ v0.toInt ≤ 1048575) := h_2
    refine lv_if_eq (tgt := 23) hx hb (oc_153 8 (aq_8 shX11_batch_0) sgw_0_15) rfl (fun _ => ?_) (fun h => absurd h cq_eq_0_0)
    refine lv_iconst (v := (-1)) hx hb (oc_2 23 (aq_23 shX11_batch_0)) kic_m1 ?_
    refine W.widen (k := 3) (n := 120) (Nat.le_of_ble_eq_true rfl) (Nat.le_of_ble_eq_true rfl) ?_
    exact W.iret (v := (-1)) hx hb hr (fun t ht hW => ⟨⟨(-1), (ad, cn, In, Fn), rfl, ⟨Fn, (Fr.mo (show Fr [] [] [] cn In Fn cn In Fn from Fr.rf) (sbl rfl) (sbl rfl) (sbl rfl) : Fr [] [] [7, 129, 196, 197, 305] cn In Fn cn In Fn).2.2, Or.inl ⟨rfl, rfl, rfl, rfl⟩⟩, by rw [ht]; exact hP, hD⟩, hS.F ht⟩) hS.2.2 (oc_172 24 shX11_batch_24)
set_option maxRecDepth 100000 in
set_option maxHeartbeats 4000000 in
theorem q_EgatherB (l : Launch) (D : va_G) (cI cB cZ : ClassId) (zz qq vv : Nat) (bt : Nat → Int32) (g : Nat → Nat) (ad : Nat → Nat → Nat) (cn : Nat → Nat) (In : Nat → Int32) (Fn : Nat → Nat → Int32) (ro : Nat) (f : Nat → Int32) (sz : Nat) (hB : CBX cn) : Met l yX11_gatherBlendable (CWS yX11_gatherBlendable cX11_gatherBlendable 4 (some .int)) (RM 4 0 0) (PBx [.ref (g 0), .ref ro] D cI cB cZ zz qq vv bt ((wX cI (D.1 99) zz g ad cn In Fn) ++ ([(ro, .inl (cI, 12, .inl f))] : va_W)) sz) (va_Qi (fun (r : Int32) (u : (Nat → Nat → Nat) × (Nat → Nat) × (Nat → Int32) × (Nat → Nat → Int32) × va_W) => (fun r a2 c2 I2 F2 W2 => ad = a2 ∧ cn = c2 ∧ In = I2 ∧ Fn = F2 ∧ ∃ (n : Nat) (f2 : Nat → Int32), r = nI n ∧ n ≤ 12 ∧ W2 = ([(ro, .inl (cI, 12, .inl f2))] : va_W)) r u.1 u.2.1 u.2.2.1 u.2.2.2.1 u.2.2.2.2) (fun (u : (Nat → Nat → Nat) × (Nat → Nat) × (Nat → Int32) × (Nat → Nat → Int32) × va_W) (t : State) => va_P D vwCl (wX cI (D.1 99) zz g u.1 u.2.1 u.2.2.1 u.2.2.2.1 ++ u.2.2.2.2) t.heap ∧ va_D (va_A ((wX cI (D.1 99) zz g ad cn In Fn) ++ ([(ro, .inl (cI, 12, .inl f))] : va_W)) sz) (wX cI (D.1 99) zz g u.1 u.2.1 u.2.2.1 u.2.2.2.1 ++ u.2.2.2.2)) (va_A ((wX cI (D.1 99) zz g ad cn In Fn) ++ ([(ro, .inl (cI, 12, .inl f))] : va_W)) sz)) 0 0 (va_A ((wX cI (D.1 99) zz g ad cn In Fn) ++ ([(ro, .inl (cI, 12, .inl f))] : va_W)) sz) := by
  refine en_x (fun A => (va_Qi (fun (r : Int32) (u : (Nat → Nat → Nat) × (Nat → Nat) × (Nat → Int32) × (Nat → Nat → Int32) × va_W) => (fun (r : Int32) (a2 : Nat → Nat → Nat) (c2 : Nat → Nat) (I2 : Nat → Int32) (F2 : Nat → Nat → Int32) (W2 : va_W) => ad = a2 ∧ cn = c2 ∧ In = I2 ∧ Fn = F2 ∧ ∃ (n : Nat) (f2 : Nat → Int32), r = nI n ∧ n ≤ 12 ∧ W2 = ([(ro, .inl (cI, 12, .inl f2))] : va_W)) r u.1 u.2.1 u.2.2.1 u.2.2.2.1 u.2.2.2.2) (fun (u : (Nat → Nat → Nat) × (Nat → Nat) × (Nat → Int32) × (Nat → Nat → Int32) × va_W) (t : State) => va_P D vwCl (wX cI (D.1 99) zz g u.1 u.2.1 u.2.2.1 u.2.2.2.1 ++ u.2.2.2.2) t.heap ∧ va_D A (wX cI (D.1 99) zz g u.1 u.2.1 u.2.2.1 u.2.2.2.1 ++ u.2.2.2.2)) A)) rfl rfl pn_RX11 (Nat.le_of_ble_eq_true rfl) (fun p e s m below meth c A hx hb hml hown S hr hlocks hnm hA hP hK hD hXS hS ls hl => ?_)
  have hl : lv_has ls 4 [(0, .ref (g 0)), (1, .ref ro)] := hl
  refine lv_iconst (v := 0) hx hb (oc_3 0 shX11_gatherBlendable_0) kic_0 ?_
  refine lv_istore_n (lv' := [(2, .int 0), (0, .ref (g 0)), (1, .ref ro)]) hx hb (oc_61 1 (aq_1 shX11_gatherBlendable_0)) rfl hl (ltb rfl) rfl (fun ls hl => ?_)
  refine lv_iconst (v := 0) hx hb (oc_3 2 (aq_2 shX11_gatherBlendable_0)) kic_0 ?_
  refine lv_istore_n (lv' := [(3, .int 0), (2, .int 0), (0, .ref (g 0)), (1, .ref ro)]) hx hb (oc_62 3 (aq_3 shX11_gatherBlendable_0)) rfl hl (ltb rfl) rfl (fun ls hl => ?_)
  have lp_4 : ∀ (n : Nat) (i4 : Nat) (n2 : Nat) (b4_0f : Nat → Int32) (H : Heap) (locs : List Loc) , 20 - i4 < n → (i4 ≤ 20 ∧ Fr [] [] [] cn In Fn cn In Fn ∧ (n2 ≤ 12)) → va_P D vwCl ((wX cI (D.1 99) zz g ad cn In Fn) ++ ([(ro, .inl (cI, 12, .inl b4_0f))] : va_W)) H → va_D A ((wX cI (D.1 99) zz g ad cn In Fn) ++ ([(ro, .inl (cI, 12, .inl b4_0f))] : va_W)) → va_S A s.heap H locs → ∀ ls : Array Slot, lv_has ls 4 [(3, .int (nI i4)), (2, .int (nI n2)), (0, .ref (g 0)), (1, .ref ro)] → W p l e (RM 4 0 0) s m ([.ref (g 0), .ref ro]).toArray below meth c H locs 0 0 (MQ below (va_Qi (fun (r : Int32) (u : (Nat → Nat → Nat) × (Nat → Nat) × (Nat → Int32) × (Nat → Nat → Int32) × va_W) => (fun r a2 c2 I2 F2 W2 => ad = a2 ∧ cn = c2 ∧ In = I2 ∧ Fn = F2 ∧ ∃ (n : Nat) (f2 : Nat → Int32), r = nI n ∧ n ≤ 12 ∧ W2 = ([(ro, .inl (cI, 12, .inl f2))] : va_W)) r u.1 u.2.1 u.2.2.1 u.2.2.2.1 u.2.2.2.2) (fun (u : (Nat → Nat → Nat) × (Nat → Nat) × (Nat → Int32) × (Nat → Nat → Int32) × va_W) (t : State) => va_P D vwCl (wX cI (D.1 99) zz g u.1 u.2.1 u.2.2.1 u.2.2.2.1 ++ u.2.2.2.2) t.heap ∧ va_D A (wX cI (D.1 99) zz g u.1 u.2.1 u.2.2.1 u.2.2.2.1 ++ u.2.2.2.2)) A) ([.ref (g 0), .ref ro]).toArray s 0 0 A) (F0 m 4 ls []) := by
    intro n4
    induction n4 with
    | zero => intros; omega
    | succ n4 ih4 =>
      intro i4 n2 b4_0f  H locs hmu4 hinv4 hP hD hS ls hl
      obtain ⟨hr4, hfr4, hx4_0⟩ := hinv4
      have ti4 : (nI i4).toInt = (i4 : Int) := nI_toInt (by omega)
      have tn2 : (nI n2).toInt = (n2 : Int) := nI_toInt (by omega)
      refine lv_iload_n hx hb (oc_29 4 (aq_4 shX11_gatherBlendable_0)) rfl (lvA0 hl) ?_
      refine lv_bipush (v := 20) hx hb (oc_16 5 (aq_5 shX11_gatherBlendable_0) sgb_20) kbc_20 ?_
      refine lv_icmp_ge (tgt := 43) hx hb (oc_162 7 (aq_7 shX11_gatherBlendable_0) sgw_0_36) rfl (fun c_1 => ?_) (fun c_1 => ?_)
      ·
        have tc_1 : (20 : Int) ≤ (nI i4).toInt := Int32.le_iff_toInt_le.mp c_1
        refine lv_iload_n hx hb (oc_28 43 (aq_18 shX11_gatherBlendable_25)) rfl (lvA1 hl) ?_
        exact W.iret (v := (nI n2)) hx hb hr (fun t ht hW => ⟨⟨(nI n2), (ad, cn, In, Fn, ([(ro, .inl (cI, 12, .inl b4_0f))] : va_W)), rfl, ⟨rfl, rfl, rfl, rfl, n2, b4_0f, rfl, by omega, rfl⟩, by rw [ht]; exact hP, hD⟩, hS.F ht⟩) hS.2.2 (oc_172 44 (aq_19 shX11_gatherBlendable_25))
      ·
        have tc_1 : ((nI i4).toInt : Int) < 20 := Int32.lt_iff_toInt_lt.mp (Int32.not_le.mp c_1)
        refine lv_iload_n hx hb (oc_28 10 (aq_10 shX11_gatherBlendable_0)) rfl (lvA1 hl) ?_
        refine lv_aload_n hx hb (oc_43 11 (aq_11 shX11_gatherBlendable_0)) rfl (lvA3 hl) ?_
        refine va_alen hx hb hK.1 hP _ 0 (exr (m := 0) rfl) rfl (v := 12) rfl (oc_190 12 (aq_12 shX11_gatherBlendable_0)) ?_
        have : (nI n2).toInt = ((n2 : Nat) : Int) := nI_toInt (by omega)
        refine lv_icmp_ge (tgt := 43) hx hb (oc_162 13 (aq_13 shX11_gatherBlendable_0) sgw_0_30) rfl (fun c_2 => ?_) (fun c_2 => ?_)
        ·
          have tc_2 : (12 : Int) ≤ (nI n2).toInt := Int32.le_iff_toInt_le.mp c_2
          refine lv_iload_n hx hb (oc_28 43 (aq_18 shX11_gatherBlendable_25)) rfl (lvA1 hl) ?_
          exact W.iret (v := (nI n2)) hx hb hr (fun t ht hW => ⟨⟨(nI n2), (ad, cn, In, Fn, ([(ro, .inl (cI, 12, .inl b4_0f))] : va_W)), rfl, ⟨rfl, rfl, rfl, rfl, n2, b4_0f, rfl, by omega, rfl⟩, by rw [ht]; exact hP, hD⟩, hS.F ht⟩) hS.2.2 (oc_172 44 (aq_19 shX11_gatherBlendable_25))
        ·
          have tc_2 : ((nI n2).toInt : Int) < 12 := Int32.lt_iff_toInt_lt.mp (Int32.not_le.mp c_2)
          refine lv_aload_n hx hb (oc_42 16 (aq_16 shX11_gatherBlendable_0)) rfl (lvA2 hl) ?_
          refine lv_aload_n hx hb (oc_42 17 (aq_17 shX11_gatherBlendable_0)) rfl (lvA2 hl) ?_
          refine lv_iload_n hx hb (oc_29 18 (aq_18 shX11_gatherBlendable_0)) rfl (lvA0 hl) ?_
          refine va_csq (runV_rxa (As := [.int (nI i4)]) (rest := [.ref (g 0)]) S (q_XloadAt l D cI cB cZ zz qq vv bt g ad cn In Fn (nI i4) hB) kV_RX11_148 hK hXS hS (exP hP) 0 xo_0 rfl rfl ⟨Nat.le_of_ble_eq_true rfl, Nat.le_of_ble_eq_true rfl⟩ ⟨Nat.le_of_ble_eq_true rfl, Nat.le_of_ble_eq_true rfl⟩ rfl hl.1 rfl (Nat.le_of_ble_eq_true rfl) (oc_182 19 (aq_19 shX11_gatherBlendable_0) uw_0_148)) (fun r_3 h_4 => ?_)
          rcases h_4 with ⟨mr_3, er_3, hr_3, rfl⟩ | ⟨hr_3, rfl⟩
          ·
            refine vp_callSi (runV_rxa (As := [.ref (ad 11 mr_3)]) (rest := []) S (q_XcanLoad l D cI cB cZ zz qq vv bt g ad cn In Fn mr_3 hB (by omega)) kV_RX11_354 hK hXS hS (exP hP) 0 xo_0 rfl rfl ⟨Nat.le_of_ble_eq_true rfl, Nat.le_of_ble_eq_true rfl⟩ ⟨Nat.le_of_ble_eq_true rfl, Nat.le_of_ble_eq_true rfl⟩ rfl hl.1 rfl (Nat.le_of_ble_eq_true rfl) (oc_182 22 (aq_22 shX11_gatherBlendable_0) uw_1_98)) (fun r_5 h_6 => ?_)
            rcases h_6 with rfl | rfl
            ·
              refine lv_if_eq (tgt := 37) hx hb (oc_153 25 shX11_gatherBlendable_25 sgw_0_12) rfl (fun _ => ?_) (fun h => absurd h cq_eq_0_0)
              refine lv_iinc (v := (nI (i4 + 1))) (lv' := [(3, .int (nI (i4 + 1))), (2, .int (nI n2)), (0, .ref (g 0)), (1, .ref ro)]) hx hb (oc_132 37 (aq_12 shX11_gatherBlendable_25) ub_3 sgb_1) hl (k := 0) rfl (nI_1 _) (ltb rfl) rfl (fun ls hl => ?_)
              refine lv_goto (tgt := 4) hx hb (oc_167 40 (aq_15 shX11_gatherBlendable_25) sgw_255_220) rfl ?_
              exact ih4 (i4 + 1) n2 b4_0f  _ _ (by omega) ⟨(by omega), (Fr.mo hfr4 (sbl rfl) (sbl rfl) (sbl rfl)), (by omega)⟩ hP hD hS ls (lv_sub hl [0, 1, 2, 3] rfl)
            ·
              refine lv_if_eq (tgt := 37) hx hb (oc_153 25 shX11_gatherBlendable_25 sgw_0_12) rfl (fun h => absurd h cq_eq_1_0) (fun _ => ?_)
              refine lv_aload_n hx hb (oc_43 28 (aq_3 shX11_gatherBlendable_25)) rfl (lvA3 hl) ?_
              refine lv_iload_n hx hb (oc_28 29 (aq_4 shX11_gatherBlendable_25)) rfl (lvA1 hl) ?_
              refine lv_iload_n hx hb (oc_29 30 (aq_5 shX11_gatherBlendable_25)) rfl (lvA0 hl) ?_
              have hFc := va_free (wc := [(ro, .inl (cI, 12, .inl b4_0f))]) hD hS hA [_] (one_im (exr (m := 0) rfl))
              refine va_callv (runS_w (As := [.ref ro, .int (nI n2), .int (nI i4)]) (rest := []) S (q_l_put l D cI cB cZ ro 12 b4_0f (nI n2) (nI i4) H.size (by omega)) kS_RX11_184 hK hP hD [_] (one_is (exr (m := 0) rfl)) (one_im (exr (m := 0) rfl)) rfl ⟨Nat.le_of_ble_eq_true rfl, Nat.le_of_ble_eq_true rfl⟩ ⟨Nat.le_of_ble_eq_true rfl, Nat.le_of_ble_eq_true rfl⟩ rfl hl.1 rfl (Nat.le_of_ble_eq_true rfl) (oc_184 31 (aq_6 shX11_gatherBlendable_25) uw_0_184)) hS (fun q _ h => hFc q h) hFc (fun u_7 t H1 locs ht hvm h_8 hB1 hz1 hk1 hS => ?_)
              obtain ⟨hP1, hD1⟩ := hB1
              rw [ht] at hP1
              obtain ⟨hP, hD⟩ := wset1 hP hD (exr (m := 0) rfl) hk1 hP1
              generalize H1 = H at hP hS ⊢
              have hP : va_P D vwCl ((wX cI (D.1 99) zz g ad cn In Fn) ++ ([(ro, .inl (cI, 12, .inl u_7))] : va_W)) H := va_P_eq (exs_r rfl) hP
              have hD : va_D A ((wX cI (D.1 99) zz g ad cn In Fn) ++ ([(ro, .inl (cI, 12, .inl u_7))] : va_W)) := va_D_eq (exs_r rfl) hD
              refine lv_iinc (v := (nI (n2 + 1))) (lv' := [(2, .int (nI (n2 + 1))), (3, .int (nI i4)), (0, .ref (g 0)), (1, .ref ro)]) hx hb (oc_132 34 (aq_9 shX11_gatherBlendable_25) ub_2 sgb_1) hl (k := 1) rfl (nI_1 _) (ltb rfl) rfl (fun ls hl => ?_)
              refine lv_iinc (v := (nI (i4 + 1))) (lv' := [(3, .int (nI (i4 + 1))), (2, .int (nI (n2 + 1))), (0, .ref (g 0)), (1, .ref ro)]) hx hb (oc_132 37 (aq_12 shX11_gatherBlendable_25) ub_3 sgb_1) hl (k := 1) rfl (nI_1 _) (ltb rfl) rfl (fun ls hl => ?_)
              refine lv_goto (tgt := 4) hx hb (oc_167 40 (aq_15 shX11_gatherBlendable_25) sgw_255_220) rfl ?_
              exact ih4 (i4 + 1) (n2 + 1) u_7  _ _ (by omega) ⟨(by omega), (Fr.mo hfr4 (sbl rfl) (sbl rfl) (sbl rfl)), (by omega)⟩ hP hD hS ls (lv_sub hl [0, 1, 2, 3] rfl)
          ·
            refine vp_callSi (runV_rxa (As := [.null]) (rest := []) S (q_XcanNull l D cI cB cZ zz qq vv bt g ad cn In Fn  hB) kV_RX11_354 hK hXS hS (exP hP) 0 xo_0 rfl rfl ⟨Nat.le_of_ble_eq_true rfl, Nat.le_of_ble_eq_true rfl⟩ ⟨Nat.le_of_ble_eq_true rfl, Nat.le_of_ble_eq_true rfl⟩ rfl hl.1 rfl (Nat.le_of_ble_eq_true rfl) (oc_182 22 (aq_22 shX11_gatherBlendable_0) uw_1_98)) (fun r_9 h_10 => ?_)
            subst h_10
            refine lv_if_eq (tgt := 37) hx hb (oc_153 25 shX11_gatherBlendable_25 sgw_0_12) rfl (fun _ => ?_) (fun h => absurd h cq_eq_0_0)
            refine lv_iinc (v := (nI (i4 + 1))) (lv' := [(3, .int (nI (i4 + 1))), (2, .int (nI n2)), (0, .ref (g 0)), (1, .ref ro)]) hx hb (oc_132 37 (aq_12 shX11_gatherBlendable_25) ub_3 sgb_1) hl (k := 0) rfl (nI_1 _) (ltb rfl) rfl (fun ls hl => ?_)
            refine lv_goto (tgt := 4) hx hb (oc_167 40 (aq_15 shX11_gatherBlendable_25) sgw_255_220) rfl ?_
            exact ih4 (i4 + 1) n2 b4_0f  _ _ (by omega) ⟨(by omega), (Fr.mo hfr4 (sbl rfl) (sbl rfl) (sbl rfl)), (by omega)⟩ hP hD hS ls (lv_sub hl [0, 1, 2, 3] rfl)
  exact lp_4 _ 0 0 f  _ _ (Nat.lt_succ_self _) ⟨(by omega), (Fr.mo Fr.rf (sbl rfl) (sbl rfl) (sbl rfl)), (by omega)⟩ hP hD hS ls (lv_sub hl [0, 1, 2, 3] rfl)
set_option maxRecDepth 100000 in
set_option maxHeartbeats 4000000 in
theorem q_EflipTo (l : Launch) (D : va_G) (cI cB cZ : ClassId) (zz qq vv : Nat) (bt : Nat → Int32) (g : Nat → Nat) (ad : Nat → Nat → Nat) (cn : Nat → Nat) (In : Nat → Int32) (Fn : Nat → Nat → Int32) (bo w : Nat) (x1 x2 x3 x4 x5 x6 x7 : Int32) (ro : Nat) (f : Nat → Int32) (v0 : Int32) (ws : va_W) (sz : Nat) (hB : CBX cn) : Met l yX11_flipTo (CWS yX11_flipTo cX11_flipTo 7 none) (RM 5 0 0) (PBx [.ref (g 0), .ref bo, .int v0, .ref ro] D cI cB cZ zz qq vv bt ((wX cI (D.1 99) zz g ad cn In Fn) ++ (([(bo, .inr (1, [.ref w, .int x1, .int x2, .int x3, .int x4, .int x5, .int x6, .int x7])), (ro, .inl (cI, 12, .inl f))] : va_W) ++ ws)) sz) (va_Qv (fun (u : (Nat → Nat → Nat) × (Nat → Nat) × (Nat → Int32) × (Nat → Nat → Int32) × va_W) => (fun a2 c2 I2 F2 W2 => ad = a2 ∧ cn = c2 ∧ In = I2 ∧ Fn = F2 ∧ ∃ (z1 z2 z4 z5 z6 : Int32), W2 = (([(bo, .inr (1, [.ref w, .int z1, .int z2, .int x3, .int z4, .int z5, .int z6, .int x7])), (ro, .inl (cI, 12, .inl f))] : va_W) ++ ws)) u.1 u.2.1 u.2.2.1 u.2.2.2.1 u.2.2.2.2) (fun (u : (Nat → Nat → Nat) × (Nat → Nat) × (Nat → Int32) × (Nat → Nat → Int32) × va_W) (t : State) => va_P D vwCl (wX cI (D.1 99) zz g u.1 u.2.1 u.2.2.1 u.2.2.2.1 ++ u.2.2.2.2) t.heap ∧ va_D (va_A ((wX cI (D.1 99) zz g ad cn In Fn) ++ (([(bo, .inr (1, [.ref w, .int x1, .int x2, .int x3, .int x4, .int x5, .int x6, .int x7])), (ro, .inl (cI, 12, .inl f))] : va_W) ++ ws)) sz) (wX cI (D.1 99) zz g u.1 u.2.1 u.2.2.1 u.2.2.2.1 ++ u.2.2.2.2)) (va_A ((wX cI (D.1 99) zz g ad cn In Fn) ++ (([(bo, .inr (1, [.ref w, .int x1, .int x2, .int x3, .int x4, .int x5, .int x6, .int x7])), (ro, .inl (cI, 12, .inl f))] : va_W) ++ ws)) sz)) 0 0 (va_A ((wX cI (D.1 99) zz g ad cn In Fn) ++ (([(bo, .inr (1, [.ref w, .int x1, .int x2, .int x3, .int x4, .int x5, .int x6, .int x7])), (ro, .inl (cI, 12, .inl f))] : va_W) ++ ws)) sz) := by
  refine en_x (fun A => (va_Qv (fun (u : (Nat → Nat → Nat) × (Nat → Nat) × (Nat → Int32) × (Nat → Nat → Int32) × va_W) => (fun (a2 : Nat → Nat → Nat) (c2 : Nat → Nat) (I2 : Nat → Int32) (F2 : Nat → Nat → Int32) (W2 : va_W) => ad = a2 ∧ cn = c2 ∧ In = I2 ∧ Fn = F2 ∧ ∃ (z1 z2 z4 z5 z6 : Int32), W2 = (([(bo, .inr (1, [.ref w, .int z1, .int z2, .int x3, .int z4, .int z5, .int z6, .int x7])), (ro, .inl (cI, 12, .inl f))] : va_W) ++ ws)) u.1 u.2.1 u.2.2.1 u.2.2.2.1 u.2.2.2.2) (fun (u : (Nat → Nat → Nat) × (Nat → Nat) × (Nat → Int32) × (Nat → Nat → Int32) × va_W) (t : State) => va_P D vwCl (wX cI (D.1 99) zz g u.1 u.2.1 u.2.2.1 u.2.2.2.1 ++ u.2.2.2.2) t.heap ∧ va_D A (wX cI (D.1 99) zz g u.1 u.2.1 u.2.2.1 u.2.2.2.1 ++ u.2.2.2.2)) A)) rfl rfl pn_RX11 (Nat.le_of_ble_eq_true rfl) (fun p e s m below meth c A hx hb hml hown S hr hlocks hnm hA hP hK hD hXS hS ls hl => ?_)
  have hl : lv_has ls 7 [(0, .ref (g 0)), (1, .ref bo), (2, .int v0), (3, .ref ro)] := hl
  refine lv_iload_n hx hb (oc_28 0 shX11_flipTo_0) rfl (lvA2 hl) ?_
  refine lv_iload_n hx hb (oc_28 1 (aq_1 shX11_flipTo_0)) rfl (lvA2 hl) ?_
  refine lv_iconst (v := 1) hx hb (oc_4 2 (aq_2 shX11_flipTo_0)) kic_1 ?_
  refine lv_isub hx hb (oc_100 3 (aq_3 shX11_flipTo_0)) ?_
  refine lv_ixor hx hb (oc_130 4 (aq_4 shX11_flipTo_0)) ?_
  refine lv_istore (lv' := [(4, .int (v0 ^^^ (v0 - 1))), (0, .ref (g 0)), (1, .ref bo), (2, .int v0), (3, .ref ro)]) hx hb (oc_54 5 (aq_5 shX11_flipTo_0) ub_4) hl (ltb rfl) rfl (fun ls hl => ?_)
  refine lv_iconst (v := 0) hx hb (oc_3 7 (aq_7 shX11_flipTo_0)) kic_0 ?_
  refine lv_istore (lv' := [(5, .int 0), (4, .int (v0 ^^^ (v0 - 1))), (0, .ref (g 0)), (1, .ref bo), (2, .int v0), (3, .ref ro)]) hx hb (oc_54 8 (aq_8 shX11_flipTo_0) ub_5) hl (ltb rfl) rfl (fun ls hl => ?_)
  have lp_10 : ∀ (n : Nat) (i10 : Nat) (b10_01 : Int32) (b10_02 : Int32) (b10_04 : Int32) (b10_05 : Int32) (b10_06 : Int32) (H : Heap) (locs : List Loc) , 12 - i10 < n → (i10 ≤ 12 ∧ Fr [] [] [] cn In Fn cn In Fn) → va_P D vwCl ((wX cI (D.1 99) zz g ad cn In Fn) ++ (([(bo, .inr (1, [.ref w, .int b10_01, .int b10_02, .int x3, .int b10_04, .int b10_05, .int b10_06, .int x7])), (ro, .inl (cI, 12, .inl f))] : va_W) ++ ws)) H → va_D A ((wX cI (D.1 99) zz g ad cn In Fn) ++ (([(bo, .inr (1, [.ref w, .int b10_01, .int b10_02, .int x3, .int b10_04, .int b10_05, .int b10_06, .int x7])), (ro, .inl (cI, 12, .inl f))] : va_W) ++ ws)) → va_S A s.heap H locs → ∀ ls : Array Slot, lv_has ls 7 [(5, .int (nI i10)), (4, .int (v0 ^^^ (v0 - 1))), (0, .ref (g 0)), (1, .ref bo), (2, .int v0), (3, .ref ro)] → W p l e (RM 5 0 0) s m ([.ref (g 0), .ref bo, .int v0, .ref ro]).toArray below meth c H locs 0 0 (MQ below (va_Qv (fun (u : (Nat → Nat → Nat) × (Nat → Nat) × (Nat → Int32) × (Nat → Nat → Int32) × va_W) => (fun a2 c2 I2 F2 W2 => ad = a2 ∧ cn = c2 ∧ In = I2 ∧ Fn = F2 ∧ ∃ (z1 z2 z4 z5 z6 : Int32), W2 = (([(bo, .inr (1, [.ref w, .int z1, .int z2, .int x3, .int z4, .int z5, .int z6, .int x7])), (ro, .inl (cI, 12, .inl f))] : va_W) ++ ws)) u.1 u.2.1 u.2.2.1 u.2.2.2.1 u.2.2.2.2) (fun (u : (Nat → Nat → Nat) × (Nat → Nat) × (Nat → Int32) × (Nat → Nat → Int32) × va_W) (t : State) => va_P D vwCl (wX cI (D.1 99) zz g u.1 u.2.1 u.2.2.1 u.2.2.2.1 ++ u.2.2.2.2) t.heap ∧ va_D A (wX cI (D.1 99) zz g u.1 u.2.1 u.2.2.1 u.2.2.2.1 ++ u.2.2.2.2)) A) ([.ref (g 0), .ref bo, .int v0, .ref ro]).toArray s 0 0 A) (F0 m 10 ls []) := by
    intro n10
    induction n10 with
    | zero => intros; omega
    | succ n10 ih10 =>
      intro i10 b10_01 b10_02 b10_04 b10_05 b10_06  H locs hmu10 hinv10 hP hD hS ls hl
      obtain ⟨hr10, hfr10⟩ := hinv10
      have ti10 : (nI i10).toInt = (i10 : Int) := nI_toInt (by omega)
      refine lv_iload hx hb (oc_21 10 (aq_10 shX11_flipTo_0) ub_5) (lvA0 hl) ?_
      refine lv_aload_n hx hb (oc_45 12 (aq_12 shX11_flipTo_0)) rfl (lvA5 hl) ?_
      refine va_alen hx hb hK.1 hP _ 0 (exr (m := 1) rfl) rfl (v := 12) rfl (oc_190 13 (aq_13 shX11_flipTo_0)) ?_
      refine lv_icmp_ge (tgt := 58) hx hb (oc_162 14 (aq_14 shX11_flipTo_0) sgw_0_44) rfl (fun c_1 => ?_) (fun c_1 => ?_)
      ·
        have tc_1 : (12 : Int) ≤ (nI i10).toInt := Int32.le_iff_toInt_le.mp c_1
        exact W.vret hx hb hr (fun t ht hW => ⟨⟨(ad, cn, In, Fn, (([(bo, .inr (1, [.ref w, .int b10_01, .int b10_02, .int x3, .int b10_04, .int b10_05, .int b10_06, .int x7])), (ro, .inl (cI, 12, .inl f))] : va_W) ++ ws)), rfl, ⟨rfl, rfl, rfl, rfl, b10_01, b10_02, b10_04, b10_05, b10_06, rfl⟩, by rw [ht]; exact hP, hD⟩, hS.F ht⟩) hS.2.2 (oc_177 58 (aq_9 shX11_flipTo_49))
      ·
        have tc_1 : ((nI i10).toInt : Int) < 12 := Int32.lt_iff_toInt_lt.mp (Int32.not_le.mp c_1)
        refine lv_iload hx hb (oc_21 17 (aq_17 shX11_flipTo_0) ub_4) (lvA1 hl) ?_
        refine lv_iload hx hb (oc_21 19 (aq_19 shX11_flipTo_0) ub_5) (lvA0 hl) ?_
        refine lv_ishr hx hb (oc_122 21 (aq_21 shX11_flipTo_0)) ?_
        refine lv_iconst (v := 1) hx hb (oc_4 22 (aq_22 shX11_flipTo_0)) kic_1 ?_
        refine lv_iand hx hb (oc_126 23 (aq_23 shX11_flipTo_0)) ?_
        refine lv_if_eq (tgt := 58) hx hb (oc_153 24 shX11_flipTo_24 sgw_0_34) rfl (fun c_2 => ?_) (fun c_2 => ?_)
        ·
          have tc_2 : ((((v0 ^^^ (v0 - 1)) >>> ((nI i10) &&& 31)) &&& 1).toInt : Int) = 0 := congrArg Int32.toInt c_2
          exact W.vret hx hb hr (fun t ht hW => ⟨⟨(ad, cn, In, Fn, (([(bo, .inr (1, [.ref w, .int b10_01, .int b10_02, .int x3, .int b10_04, .int b10_05, .int b10_06, .int x7])), (ro, .inl (cI, 12, .inl f))] : va_W) ++ ws)), rfl, ⟨rfl, rfl, rfl, rfl, b10_01, b10_02, b10_04, b10_05, b10_06, rfl⟩, by rw [ht]; exact hP, hD⟩, hS.F ht⟩) hS.2.2 (oc_177 58 (aq_9 shX11_flipTo_49))
        ·
          have tc_2 : ((((v0 ^^^ (v0 - 1)) >>> ((nI i10) &&& 31)) &&& 1).toInt : Int) ≠ 0 := fun q => c_2 (Int32.toInt_inj.mp q)
          refine lv_aload_n hx hb (oc_42 27 (aq_3 shX11_flipTo_24)) rfl (lvA2 hl) ?_
          refine lv_aload_n hx hb (oc_45 28 (aq_4 shX11_flipTo_24)) rfl (lvA5 hl) ?_
          refine lv_iload hx hb (oc_21 29 (aq_5 shX11_flipTo_24) ub_5) (lvA0 hl) ?_
          refine va_iald hx hb hK.1 hP _ 0 (exr (m := 1) rfl) rfl (vp_in_nI (by omega) (ltb rfl)) (oc_46 31 (aq_7 shX11_flipTo_24)) ?_
          refine lv_topi (fun y_3 ey_3 => ?_)
          obtain rfl : y_3 = (f i10) := ey_3.trans (congrArg f (nI_clamp (by omega)))
          refine va_csq (runV_rxa (As := [.int (f i10)]) (rest := []) S (q_XloadAt l D cI cB cZ zz qq vv bt g ad cn In Fn (f i10) hB) kV_RX11_148 hK hXS hS (exP hP) 0 xo_0 rfl rfl ⟨Nat.le_of_ble_eq_true rfl, Nat.le_of_ble_eq_true rfl⟩ ⟨Nat.le_of_ble_eq_true rfl, Nat.le_of_ble_eq_true rfl⟩ rfl hl.1 rfl (Nat.le_of_ble_eq_true rfl) (oc_182 32 (aq_8 shX11_flipTo_24) uw_0_148)) (fun r_4 h_5 => ?_)
          rcases h_5 with ⟨mr_4, er_4, hr_4, rfl⟩ | ⟨hr_4, rfl⟩
          ·
            refine lv_astore (lv' := [(6, .ref (ad 11 mr_4)), (5, .int (nI i10)), (4, .int (v0 ^^^ (v0 - 1))), (0, .ref (g 0)), (1, .ref bo), (2, .int v0), (3, .ref ro)]) hx hb (oc_58 35 (aq_11 shX11_flipTo_24) ub_6) hl (ltb rfl) rfl (fun ls hl => ?_)
            refine lv_aload hx hb (oc_25 37 (aq_13 shX11_flipTo_24) ub_6) (lvA0 hl) ?_
            refine lv_ifnull hx hb (oc_198 39 (aq_15 shX11_flipTo_24) sgw_0_13) ?_
            refine lv_aload_n hx hb (oc_43 42 (aq_18 shX11_flipTo_24)) rfl (lvA4 hl) ?_
            refine lv_aload_n hx hb (oc_45 43 (aq_19 shX11_flipTo_24)) rfl (lvA6 hl) ?_
            refine lv_iload hx hb (oc_21 44 (aq_20 shX11_flipTo_24) ub_5) (lvA1 hl) ?_
            refine va_iald hx hb hK.1 hP _ 0 (exr (m := 1) rfl) rfl (vp_in_nI (by omega) (ltb rfl)) (oc_46 46 (aq_22 shX11_flipTo_24)) ?_
            refine lv_topi (fun y_6 ey_6 => ?_)
            obtain rfl : y_6 = (f i10) := ey_6.trans (congrArg f (nI_clamp (by omega)))
            refine lv_aload hx hb (oc_25 47 (aq_23 shX11_flipTo_24) ub_6) (lvA0 hl) ?_
            have hFc := free_all hD hS hA
            refine va_callv (runV_xa (As := [.int (f i10), .ref (ad 11 mr_4)]) (rest := []) S (q_Eflip l D cI cB cZ zz qq vv bt g ad cn In Fn bo w b10_01 b10_02 x3 b10_04 b10_05 b10_06 x7 (f i10) mr_4 (([(ro, .inl (cI, 12, .inl f))] : va_W) ++ ws) H.size hB (by omega)) kV_RX11_358 hK hXS hS hFc hP hD _ (exr (m := 0) rfl) rfl rfl ⟨Nat.le_of_ble_eq_true rfl, Nat.le_of_ble_eq_true rfl⟩ ⟨Nat.le_of_ble_eq_true rfl, Nat.le_of_ble_eq_true rfl⟩ rfl hl.1 rfl (Nat.le_of_ble_eq_true rfl) (oc_182 49 shX11_flipTo_49 uw_1_102)) hS (fun q _ h => hFc q h) hFc (fun u6 t H1 locs ht hvm h6 hB1 hz1 hk1 hS => ?_)
            obtain ⟨hP1, hD1⟩ := hB1
            rw [ht] at hP1
            obtain ⟨a6, c6, I6, F6, W6⟩ := u6
            obtain ⟨rfl, rfl, rfl, rfl, sg6, hsg6, rfl⟩ := h6
            have hP : va_P D vwCl ((wX cI (D.1 99) zz g ad cn In Fn) ++ (([(bo, .inr (1, [.ref w, .int (b10_01 + sg6 * ((Fn 122) mr_4) * ((Fn 123) mr_4)), .int (b10_02 + sg6 * ((Fn 122) mr_4) * ((Fn 124) mr_4)), .int x3, .int (b10_04 ^^^ 1 <<< ((f i10) &&& 31)), .int (b10_05 + sg6), .int (b10_06 + sg6 * ((Fn 122) mr_4)), .int x7])), (ro, .inl (cI, 12, .inl f))] : va_W) ++ ws)) H1 := hP1
            have hD : va_D A ((wX cI (D.1 99) zz g ad cn In Fn) ++ (([(bo, .inr (1, [.ref w, .int (b10_01 + sg6 * ((Fn 122) mr_4) * ((Fn 123) mr_4)), .int (b10_02 + sg6 * ((Fn 122) mr_4) * ((Fn 124) mr_4)), .int x3, .int (b10_04 ^^^ 1 <<< ((f i10) &&& 31)), .int (b10_05 + sg6), .int (b10_06 + sg6 * ((Fn 122) mr_4)), .int x7])), (ro, .inl (cI, 12, .inl f))] : va_W) ++ ws)) := hD1.weaken (fun _ _ _ h => hFc _ h)
            generalize H1 = H at hP hS ⊢
            refine lv_iinc (v := (nI (i10 + 1))) (lv' := [(5, .int (nI (i10 + 1))), (6, .ref (ad 11 mr_4)), (4, .int (v0 ^^^ (v0 - 1))), (0, .ref (g 0)), (1, .ref bo), (2, .int v0), (3, .ref ro)]) hx hb (oc_132 52 (aq_3 shX11_flipTo_49) ub_5 sgb_1) hl (k := 1) rfl (nI_1 _) (ltb rfl) rfl (fun ls hl => ?_)
            refine lv_goto (tgt := 10) hx hb (oc_167 55 (aq_6 shX11_flipTo_49) sgw_255_211) rfl ?_
            exact ih10 (i10 + 1) (b10_01 + sg6 * ((Fn 122) mr_4) * ((Fn 123) mr_4)) (b10_02 + sg6 * ((Fn 122) mr_4) * ((Fn 124) mr_4)) (b10_04 ^^^ 1 <<< ((f i10) &&& 31)) (b10_05 + sg6) (b10_06 + sg6 * ((Fn 122) mr_4))  _ _ (by omega) ⟨(by omega), (Fr.mo hfr10 (sbl rfl) (sbl rfl) (sbl rfl))⟩ hP hD hS ls (lv_sub hl [0, 2, 3, 4, 5, 6] rfl)
          ·
            refine lv_astoreN (lv' := [(6, .null), (5, .int (nI i10)), (4, .int (v0 ^^^ (v0 - 1))), (0, .ref (g 0)), (1, .ref bo), (2, .int v0), (3, .ref ro)]) hx hb (oc_58 35 (aq_11 shX11_flipTo_24) ub_6) hl (ltb rfl) rfl (fun ls hl => ?_)
            refine lv_aloadN hx hb (oc_25 37 (aq_13 shX11_flipTo_24) ub_6) (lvA0 hl) ?_
            refine lv_ifnullN (tgt := 52) hx hb (oc_198 39 (aq_15 shX11_flipTo_24) sgw_0_13) rfl ?_
            refine lv_iinc (v := (nI (i10 + 1))) (lv' := [(5, .int (nI (i10 + 1))), (6, .null), (4, .int (v0 ^^^ (v0 - 1))), (0, .ref (g 0)), (1, .ref bo), (2, .int v0), (3, .ref ro)]) hx hb (oc_132 52 (aq_3 shX11_flipTo_49) ub_5 sgb_1) hl (k := 1) rfl (nI_1 _) (ltb rfl) rfl (fun ls hl => ?_)
            refine lv_goto (tgt := 10) hx hb (oc_167 55 (aq_6 shX11_flipTo_49) sgw_255_211) rfl ?_
            exact ih10 (i10 + 1) b10_01 b10_02 b10_04 b10_05 b10_06  _ _ (by omega) ⟨(by omega), (Fr.mo hfr10 (sbl rfl) (sbl rfl) (sbl rfl))⟩ hP hD hS ls (lv_sub hl [0, 2, 3, 4, 5, 6] rfl)
  exact lp_10 _ 0 x1 x2 x4 x5 x6  _ _ (Nat.lt_succ_self _) ⟨(by omega), (Fr.mo Fr.rf (sbl rfl) (sbl rfl) (sbl rfl))⟩ hP hD hS ls (lv_sub hl [0, 1, 2, 3, 4, 5] rfl)
set_option maxRecDepth 100000 in
set_option maxHeartbeats 4000000 in
theorem q_Xblend (l : Launch) (D : va_G) (cI cB cZ : ClassId) (zz qq vv : Nat) (bt : Nat → Int32) (g : Nat → Nat) (ad : Nat → Nat → Nat) (cn : Nat → Nat) (In : Nat → Int32) (Fn : Nat → Nat → Int32)  (sz : Nat) (hB : CBX cn) (hT : (∀ k : Nat, k < cn 10 → ad 3 k < cn 6) ∧ ad 4 0 < cn 6 ∧ ad 4 1 < cn 6) (hC : ∀ k : Nat, k < cn 6 → ∃ n : Nat, n ≤ 12 ∧ Fn 198 k = nI n) : Met l yX11_blend (CWS yX11_blend cX11_blend 9 (some .int)) (RM 7 3 32) (PBx [.ref (g 0)] D cI cB cZ zz qq vv bt (wX cI (D.1 99) zz g ad cn In Fn) sz) (va_Qi (fun (r : Int32) (u : (Nat → Nat → Nat) × (Nat → Nat) × (Nat → Int32) × (Nat → Nat → Int32)) => (fun r a2 c2 I2 F2 => ad = a2 ∧ cn = c2 ∧ In = I2 ∧ ∀ k, k ∉ [7, 196, 197, 305] → F2 k = Fn k) r u.1 u.2.1 u.2.2.1 u.2.2.2) (fun (u : (Nat → Nat → Nat) × (Nat → Nat) × (Nat → Int32) × (Nat → Nat → Int32)) (t : State) => va_P D vwCl (wX cI (D.1 99) zz g u.1 u.2.1 u.2.2.1 u.2.2.2) t.heap ∧ va_D (va_A (wX cI (D.1 99) zz g ad cn In Fn) sz) (wX cI (D.1 99) zz g u.1 u.2.1 u.2.2.1 u.2.2.2)) (va_A (wX cI (D.1 99) zz g ad cn In Fn) sz)) 3 32 (va_A (wX cI (D.1 99) zz g ad cn In Fn) sz) := by
  refine en_x (fun A => (va_Qi (fun (r : Int32) (u : (Nat → Nat → Nat) × (Nat → Nat) × (Nat → Int32) × (Nat → Nat → Int32)) => (fun (r : Int32) (a2 : Nat → Nat → Nat) (c2 : Nat → Nat) (I2 : Nat → Int32) (F2 : Nat → Nat → Int32) => ad = a2 ∧ cn = c2 ∧ In = I2 ∧ ∀ k, k ∉ [7, 196, 197, 305] → F2 k = Fn k) r u.1 u.2.1 u.2.2.1 u.2.2.2) (fun (u : (Nat → Nat → Nat) × (Nat → Nat) × (Nat → Int32) × (Nat → Nat → Int32)) (t : State) => va_P D vwCl (wX cI (D.1 99) zz g u.1 u.2.1 u.2.2.1 u.2.2.2) t.heap ∧ va_D A (wX cI (D.1 99) zz g u.1 u.2.1 u.2.2.1 u.2.2.2)) A)) rfl rfl pn_RX11 (Nat.le_of_ble_eq_true rfl) (fun p e s m below meth c A hx hb hml hown S hr hlocks hnm hA hP hK hD hXS hS ls hl => ?_)
  have hl : lv_has ls 9 [(0, .ref (g 0))] := hl
  refine lv_bipush (v := 12) hx hb (oc_16 0 shX11_blend_0 sgb_12) kbc_12 ?_
  refine newa_int S hK hP hD hS hA (N' := 12) (by decide) (by decide) (Nat.le_of_ble_eq_true rfl) (Nat.le_of_ble_eq_true rfl) (Nat.le_of_ble_eq_true rfl) (oc_188_10 2 (aq_2 shX11_blend_0)) (fun q2 H hP hD hS => ?_)
  have hP : va_P D vwCl ((wX cI (D.1 99) zz g ad cn In Fn) ++ ([(q2, .inl (cI, 12, .inl (fun _ => 0)))] : va_W)) H := hP
  have hD : va_D A ((wX cI (D.1 99) zz g ad cn In Fn) ++ ([(q2, .inl (cI, 12, .inl (fun _ => 0)))] : va_W)) := hD
  refine lv_astore_n (lv' := [(1, .ref q2), (0, .ref (g 0))]) hx hb (oc_76 4 (aq_4 shX11_blend_0)) rfl hl (ltb rfl) rfl (fun ls hl => ?_)
  refine lv_aload_n hx hb (oc_42 5 (aq_5 shX11_blend_0)) rfl (lvA1 hl) ?_
  refine lv_aload_n hx hb (oc_43 6 (aq_6 shX11_blend_0)) rfl (lvA0 hl) ?_
  have hFc := free_all hD hS hA
  refine va_calli (runV_xa (As := [.ref q2]) (rest := []) S (q_EgatherB l D cI cB cZ zz qq vv bt g ad cn In Fn q2 (fun _ => 0) H.size hB) kV_RX11_391 hK hXS hS hFc hP hD _ (exl xo_0) rfl rfl ⟨Nat.le_of_ble_eq_true rfl, Nat.le_of_ble_eq_true rfl⟩ ⟨Nat.le_of_ble_eq_true rfl, Nat.le_of_ble_eq_true rfl⟩ rfl hl.1 rfl (Nat.le_of_ble_eq_true rfl) (oc_182 7 (aq_7 shX11_blend_0) uw_1_135)) hS (fun q _ h => hFc q h) hFc (fun r0 u0 t H1 locs ht hvm h0 hB1 hz1 hk1 hS => ?_)
  obtain ⟨hP1, hD1⟩ := hB1
  rw [ht] at hP1
  obtain ⟨a0, c0, I0, F0, W0⟩ := u0
  obtain ⟨rfl, rfl, rfl, rfl, n0, f0, hr0, hn0, rfl⟩ := h0
  subst hr0
  have hP : va_P D vwCl ((wX cI (D.1 99) zz g ad cn In Fn) ++ ([(q2, .inl (cI, 12, .inl f0))] : va_W)) H1 := hP1
  have hD : va_D A ((wX cI (D.1 99) zz g ad cn In Fn) ++ ([(q2, .inl (cI, 12, .inl f0))] : va_W)) := hD1.weaken (fun _ _ _ h => hFc _ h)
  generalize H1 = H at hP hS ⊢
  refine lv_istore_n (lv' := [(2, .int (nI n0)), (1, .ref q2), (0, .ref (g 0))]) hx hb (oc_61 10 (aq_10 shX11_blend_0)) rfl hl (ltb rfl) rfl (fun ls hl => ?_)
  refine lv_aload_n hx hb (oc_42 11 (aq_11 shX11_blend_0)) rfl (lvA2 hl) ?_
  have hFc := free_all (exD hD) hS hA
  refine va_callv (runV_xa (As := []) (rest := []) S (q_XlettersOfLaw l D cI cB cZ zz qq vv bt g ad cn In Fn  H.size hB) kV_RX11_367 hK hXS hS hFc (exP hP) (exD hD) 0 xo_0 rfl rfl ⟨Nat.le_of_ble_eq_true rfl, Nat.le_of_ble_eq_true rfl⟩ ⟨Nat.le_of_ble_eq_true rfl, Nat.le_of_ble_eq_true rfl⟩ rfl hl.1 rfl (Nat.le_of_ble_eq_true rfl) (oc_182 12 (aq_12 shX11_blend_0) uw_1_111)) hS (fun q _ h => hFc q h) hFc (fun u t H1 locs ht hvm wh_3 hB1 hz1 hk1 hS => ?_)
  obtain ⟨cn3, In3, Fn3⟩ := u
  obtain ⟨hP1, hD1⟩ := hB1
  rw [ht] at hP1
  obtain ⟨hP, hD⟩ := exjoinL hP hD hk1 hFc hP1 hD1
  have hP : va_P D vwCl ((wX cI (D.1 99) zz g ad cn3 In3 Fn3) ++ ([(q2, .inl (cI, 12, .inl f0))] : va_W)) H1 := hP
  have hD : va_D A ((wX cI (D.1 99) zz g ad cn3 In3 Fn3) ++ ([(q2, .inl (cI, 12, .inl f0))] : va_W)) := hD
  generalize H1 = H at hP hS ⊢
  have vh_3 : (fun c2 I2 F2 => Fr [] [] [7] cn In Fn c2 I2 F2 ∧ CBX c2 ∧ (True)) cn3 In3 Fn3 := wh_3
  obtain ⟨hfc3, hIn3, h_3⟩ := vh_3
  obtain rfl : cn = cn3 := (funext (fun k => hfc3.1 k List.not_mem_nil)).symm
  obtain rfl : In = In3 := (funext (fun k => hfc3.2.1 k List.not_mem_nil)).symm
  have hf3 : Fr [] [] [7, 196, 197, 305] cn In Fn cn In Fn3 := Fr.mo (Fr.tr (Fr.rf (cn := cn) (In := In) (Fn := Fn)) hfc3) (sbl rfl) (sbl rfl) (sbl rfl)
  refine va_new (ci := 1) (fs := [.null, .int 0, .int 0, .int 0, .int 0, .int 0, .int 0, .int 0]) (C := RX0) (T := TX0) (N := 8) hx hb S.2.2.2.2 hin_RX0 tyX0 tyX0_ok hown (S.2.2.2.2 _ (wk4_17 7 rfl rfl)) (S.2.2.2.2 _ (wk4_17 8 rfl rfl)) (S.2.2.2.2 _ (wk1_1 11 rfl rfl)) hK.1 hP hD hS hA rfl (by decide +kernel) (Nat.le_of_ble_eq_true rfl) (Nat.le_of_ble_eq_true rfl) (oc_187 15 (aq_15 shX11_blend_0) uw_0_95) (fun q15 H hP hD hS => ?_)
  rw [List.append_assoc] at hP hD
  have hP : va_P D vwCl ((wX cI (D.1 99) zz g ad cn In Fn3) ++ ([(q2, .inl (cI, 12, .inl f0)), (q15, .inr (1, [.null, .int 0, .int 0, .int 0, .int 0, .int 0, .int 0, .int 0]))] : va_W)) H := hP
  have hD : va_D A ((wX cI (D.1 99) zz g ad cn In Fn3) ++ ([(q2, .inl (cI, 12, .inl f0)), (q15, .inr (1, [.null, .int 0, .int 0, .int 0, .int 0, .int 0, .int 0, .int 0]))] : va_W)) := hD
  refine lv_dup hx hb (oc_89 18 (aq_18 shX11_blend_0)) rfl ?_
  have hP : va_P D vwCl (((wX cI (D.1 99) zz g ad cn In Fn3) ++ ([(q2, .inl (cI, 12, .inl f0))] : va_W)) ++ ([(q15, .inr (1, [.null, .int 0, .int 0, .int 0, .int 0, .int 0, .int 0, .int 0]))] : va_W)) H := va_P_eq (List.append_assoc _ _ _).symm hP
  have hD : va_D A (((wX cI (D.1 99) zz g ad cn In Fn3) ++ ([(q2, .inl (cI, 12, .inl f0))] : va_W)) ++ ([(q15, .inr (1, [.null, .int 0, .int 0, .int 0, .int 0, .int 0, .int 0, .int 0]))] : va_W)) := va_D_eq (List.append_assoc _ _ _).symm hD
  have hFc := va_free (wc := [(q15, .inr (1, [.null, .int 0, .int 0, .int 0, .int 0, .int 0, .int 0, .int 0]))]) hD hS hA [_] (one_im (exr (m := 0) rfl))
  refine va_callv (runIN_w (As := []) (rest := [.ref q15]) S (q_l_Batch l D cI cB cZ q15 H.size) hK.2.2.2 ⟨⟨wk4_17 10 rfl rfl, wk1_1 11 rfl rfl, wk4_17 11 rfl rfl⟩, rfl, by decide, by decide, by decide +kernel⟩ hK hP hD [_] (one_is (exr (m := 0) rfl)) (one_im (exr (m := 0) rfl)) rfl ⟨Nat.le_of_ble_eq_true rfl, Nat.le_of_ble_eq_true rfl⟩ ⟨Nat.le_of_ble_eq_true rfl, Nat.le_of_ble_eq_true rfl⟩ rfl hl.1 rfl (Nat.le_of_ble_eq_true rfl) (oc_183 19 (aq_19 shX11_blend_0) uw_1_97)) hS (fun q _ h => hFc q h) hFc (fun u_4 t H1 locs ht hvm h_5 hB1 hz1 hk1 hS => ?_)
  obtain ⟨hP1, hD1⟩ := hB1
  rw [ht] at hP1
  obtain ⟨hP, hD⟩ := exjoin hP hD hk1 hFc hP1 hD1
  generalize H1 = H at hP hS ⊢
  rw [List.append_assoc] at hP hD
  have hP : va_P D vwCl ((wX cI (D.1 99) zz g ad cn In Fn3) ++ ([(q2, .inl (cI, 12, .inl f0)), (q15, .inr (1, [.ref u_4, .int 0, .int 0, .int 0, .int 0, .int 0, .int 0, .int 0])), (u_4, .inl (cI, 12, .inl (fun _ => 0)))] : va_W)) H := hP
  have hD : va_D A ((wX cI (D.1 99) zz g ad cn In Fn3) ++ ([(q2, .inl (cI, 12, .inl f0)), (q15, .inr (1, [.ref u_4, .int 0, .int 0, .int 0, .int 0, .int 0, .int 0, .int 0])), (u_4, .inl (cI, 12, .inl (fun _ => 0)))] : va_W)) := hD
  have hP : va_P D vwCl ((wX cI (D.1 99) zz g ad cn In Fn3) ++ ([(q15, .inr (1, [.ref u_4, .int 0, .int 0, .int 0, .int 0, .int 0, .int 0, .int 0])), (q2, .inl (cI, 12, .inl f0)), (u_4, .inl (cI, 12, .inl (fun _ => 0)))] : va_W)) H := va_P_perm (List.Perm.append_left _ (List.Perm.swap _ _ _)) hP
  have hD : va_D A ((wX cI (D.1 99) zz g ad cn In Fn3) ++ ([(q15, .inr (1, [.ref u_4, .int 0, .int 0, .int 0, .int 0, .int 0, .int 0, .int 0])), (q2, .inl (cI, 12, .inl f0)), (u_4, .inl (cI, 12, .inl (fun _ => 0)))] : va_W)) := va_D_perm (List.Perm.append_left _ (List.Perm.swap _ _ _)) hD
  refine lv_astore_n (lv' := [(3, .ref q15), (2, .int (nI n0)), (1, .ref q2), (0, .ref (g 0))]) hx hb (oc_78 22 (aq_22 shX11_blend_0)) rfl hl (ltb rfl) rfl (fun ls hl => ?_)
  refine lv_iconst (v := 0) hx hb (oc_3 23 (aq_23 shX11_blend_0)) kic_0 ?_
  refine lv_istore (lv' := [(4, .int 0), (3, .ref q15), (2, .int (nI n0)), (1, .ref q2), (0, .ref (g 0))]) hx hb (oc_54 24 shX11_blend_24 ub_4) hl (ltb rfl) rfl (fun ls hl => ?_)
  refine lv_iconst (v := 0) hx hb (oc_3 26 (aq_2 shX11_blend_24)) kic_0 ?_
  refine lv_istore (lv' := [(5, .int 0), (4, .int 0), (3, .ref q15), (2, .int (nI n0)), (1, .ref q2), (0, .ref (g 0))]) hx hb (oc_54 27 (aq_3 shX11_blend_24) ub_5) hl (ltb rfl) rfl (fun ls hl => ?_)
  refine lv_iconst (v := 0) hx hb (oc_3 29 (aq_5 shX11_blend_24)) kic_0 ?_
  refine lv_istore (lv' := [(6, .int 0), (5, .int 0), (4, .int 0), (3, .ref q15), (2, .int (nI n0)), (1, .ref q2), (0, .ref (g 0))]) hx hb (oc_54 30 (aq_6 shX11_blend_24) ub_6) hl (ltb rfl) rfl (fun ls hl => ?_)
  have h2p := p2b (n := n0) (by omega)
  refine lv_iconst (v := 1) hx hb (oc_4 32 (aq_8 shX11_blend_24)) kic_1 ?_
  refine lv_istore (lv' := [(7, .int 1), (6, .int 0), (5, .int 0), (4, .int 0), (3, .ref q15), (2, .int (nI n0)), (1, .ref q2), (0, .ref (g 0))]) hx hb (oc_54 33 (aq_9 shX11_blend_24) ub_7) hl (ltb rfl) rfl (fun ls hl => ?_)
  have lp_35 : ∀ (n : Nat) (i35 : Nat) (x35_4 : Int32) (x35_5 : Int32) (x35_6 : Int32) (b35_01 : Int32) (b35_02 : Int32) (b35_04 : Int32) (b35_05 : Int32) (b35_06 : Int32) (F35 : Nat → Nat → Int32) (H : Heap) (locs : List Loc) , 2 ^ n0 - i35 < n → (i35 ≤ 2 ^ n0 ∧ Fr [] [] [7, 196, 197, 305] cn In Fn cn In F35) → va_P D vwCl ((wX cI (D.1 99) zz g ad cn In F35) ++ ([(q15, .inr (1, [.ref u_4, .int b35_01, .int b35_02, .int 0, .int b35_04, .int b35_05, .int b35_06, .int 0])), (q2, .inl (cI, 12, .inl f0)), (u_4, .inl (cI, 12, .inl (fun _ => 0)))] : va_W)) H → va_D A ((wX cI (D.1 99) zz g ad cn In F35) ++ ([(q15, .inr (1, [.ref u_4, .int b35_01, .int b35_02, .int 0, .int b35_04, .int b35_05, .int b35_06, .int 0])), (q2, .inl (cI, 12, .inl f0)), (u_4, .inl (cI, 12, .inl (fun _ => 0)))] : va_W)) → va_S A s.heap H locs → ∀ ls : Array Slot, lv_has ls 9 [(7, .int (nI i35)), (6, .int x35_6), (5, .int x35_5), (4, .int x35_4), (3, .ref q15), (2, .int (nI n0)), (1, .ref q2), (0, .ref (g 0))] → W p l e (RM 7 3 32) s m ([.ref (g 0)]).toArray below meth c H locs 3 32 (MQ below (va_Qi (fun (r : Int32) (u : (Nat → Nat → Nat) × (Nat → Nat) × (Nat → Int32) × (Nat → Nat → Int32)) => (fun r a2 c2 I2 F2 => ad = a2 ∧ cn = c2 ∧ In = I2 ∧ ∀ k, k ∉ [7, 196, 197, 305] → F2 k = Fn k) r u.1 u.2.1 u.2.2.1 u.2.2.2) (fun (u : (Nat → Nat → Nat) × (Nat → Nat) × (Nat → Int32) × (Nat → Nat → Int32)) (t : State) => va_P D vwCl (wX cI (D.1 99) zz g u.1 u.2.1 u.2.2.1 u.2.2.2) t.heap ∧ va_D A (wX cI (D.1 99) zz g u.1 u.2.1 u.2.2.1 u.2.2.2)) A) ([.ref (g 0)]).toArray s 3 32 A) (F0 m 35 ls []) := by
    intro n35
    induction n35 with
    | zero => intros; omega
    | succ n35 ih35 =>
      intro i35 x35_4 x35_5 x35_6 b35_01 b35_02 b35_04 b35_05 b35_06 F35 H locs hmu35 hinv35 hP hD hS ls hl
      obtain ⟨hr35, hfr35⟩ := hinv35
      have ti35 : (nI i35).toInt = (i35 : Int) := nI_toInt (by omega)
      refine lv_iload hx hb (oc_21 35 (aq_11 shX11_blend_24) ub_7) (lvA0 hl) ?_
      refine lv_iconst (v := 1) hx hb (oc_4 37 (aq_13 shX11_blend_24)) kic_1 ?_
      refine lv_iload_n hx hb (oc_28 38 (aq_14 shX11_blend_24)) rfl (lvA5 hl) ?_
      refine lv_ishl hx hb (oc_120 39 (aq_15 shX11_blend_24)) ?_
      refine lv_topi (fun y_6 ey_6 => ?_)
      obtain rfl : y_6 = (nI (2 ^ n0)) := ey_6.trans (sh1 (by omega))
      have : (nI (2 ^ n0)).toInt = (((2 ^ n0) : Nat) : Int) := nI_toInt (by omega)
      refine lv_icmp_ge (tgt := 128) hx hb (oc_162 40 (aq_16 shX11_blend_24) sgw_0_88) rfl (fun c_7 => ?_) (fun c_7 => ?_)
      ·
        have tc_7 : ((nI (2 ^ n0)).toInt : Int) ≤ (nI i35).toInt := Int32.le_iff_toInt_le.mp c_7
        refine lv_iload hx hb (oc_21 128 (aq_3 shX11_blend_125) ub_4) (lvA3 hl) ?_
        have hP := exP hP
        have hD := exD hD
        exact W.iret (v := x35_4) hx hb hr (fun t ht hW => ⟨⟨x35_4, (ad, cn, In, F35), rfl, ⟨rfl, rfl, rfl, (show Fr [] [] [7, 196, 197, 305] cn In Fn cn In F35 from (Fr.mo hfr35 (sbl rfl) (sbl rfl) (sbl rfl))).2.2⟩, by rw [ht]; exact hP, hD⟩, hS.F ht⟩) hS.2.2 (oc_172 130 (aq_5 shX11_blend_125))
      ·
        have tc_7 : ((nI i35).toInt : Int) < (nI (2 ^ n0)).toInt := Int32.lt_iff_toInt_lt.mp (Int32.not_le.mp c_7)
        refine lv_aload_n hx hb (oc_42 43 (aq_19 shX11_blend_24)) rfl (lvA7 hl) ?_
        refine lv_aload_n hx hb (oc_45 44 (aq_20 shX11_blend_24)) rfl (lvA4 hl) ?_
        refine lv_iload hx hb (oc_21 45 (aq_21 shX11_blend_24) ub_7) (lvA0 hl) ?_
        refine lv_aload_n hx hb (oc_43 47 (aq_23 shX11_blend_24)) rfl (lvA6 hl) ?_
        have hFc := free_all hD hS hA
        refine va_callv (runV_xa (As := [.ref q15, .int (nI i35), .ref q2]) (rest := []) S (q_EflipTo l D cI cB cZ zz qq vv bt g ad cn In F35 q15 u_4 b35_01 b35_02 0 b35_04 b35_05 b35_06 0 q2 f0 (nI i35) (([(u_4, .inl (cI, 12, .inl (fun _ => 0)))] : va_W)) H.size hIn3) kV_RX11_395 hK hXS hS hFc hP hD _ (exl xo_0) rfl rfl ⟨Nat.le_of_ble_eq_true rfl, Nat.le_of_ble_eq_true rfl⟩ ⟨Nat.le_of_ble_eq_true rfl, Nat.le_of_ble_eq_true rfl⟩ rfl hl.1 rfl (Nat.le_of_ble_eq_true rfl) (oc_182 48 shX11_blend_48 uw_1_139)) hS (fun q _ h => hFc q h) hFc (fun u7 t H1 locs ht hvm h7 hB1 hz1 hk1 hS => ?_)
        obtain ⟨hP1, hD1⟩ := hB1
        rw [ht] at hP1
        obtain ⟨a7, c7, I7, F7, W7⟩ := u7
        obtain ⟨rfl, rfl, rfl, rfl, za7, zb7, zd7, ze7, zf7, rfl⟩ := h7
        have hP : va_P D vwCl ((wX cI (D.1 99) zz g ad cn In F35) ++ ([(q15, .inr (1, [.ref u_4, .int za7, .int zb7, .int 0, .int zd7, .int ze7, .int zf7, .int 0])), (q2, .inl (cI, 12, .inl f0)), (u_4, .inl (cI, 12, .inl (fun _ => 0)))] : va_W)) H1 := hP1
        have hD : va_D A ((wX cI (D.1 99) zz g ad cn In F35) ++ ([(q15, .inr (1, [.ref u_4, .int za7, .int zb7, .int 0, .int zd7, .int ze7, .int zf7, .int 0])), (q2, .inl (cI, 12, .inl f0)), (u_4, .inl (cI, 12, .inl (fun _ => 0)))] : va_W)) := hD1.weaken (fun _ _ _ h => hFc _ h)
        generalize H1 = H at hP hS ⊢
        refine lv_iload hx hb (oc_21 51 (aq_3 shX11_blend_48) ub_4) (lvA3 hl) ?_
        refine lv_if_eq (tgt := 83) hx hb (oc_153 53 (aq_5 shX11_blend_48) sgw_0_30) rfl (fun c_9 => ?_) (fun c_9 => ?_)
        ·
          have tc_9 : (x35_4.toInt : Int) = 0 := congrArg Int32.toInt c_9
          refine lv_iconst (v := 1) hx hb (oc_4 83 (aq_9 shX11_blend_74)) kic_1 ?_
          refine lv_goto (tgt := 88) hx hb (oc_167 84 (aq_10 shX11_blend_74) sgw_0_4) rfl ?_
          refine lv_istore (lv' := [(8, .int 1), (7, .int (nI i35)), (6, .int x35_6), (5, .int x35_5), (4, .int x35_4), (3, .ref q15), (2, .int (nI n0)), (1, .ref q2), (0, .ref (g 0))]) hx hb dX11_blend_88 hl (ltb rfl) rfl (fun ls hl => ?_)
          refine lv_iload hx hb dX11_blend_90 (lvA0 hl) ?_
          refine lv_if_eq (tgt := 122) hx hb dX11_blend_92 rfl (fun h => absurd h cq_eq_1_0) (fun _ => ?_)
          refine lv_aload_n hx hb (oc_42 95 (aq_21 shX11_blend_74)) rfl (lvA8 hl) ?_
          refine lv_aload_n hx hb (oc_45 96 (aq_22 shX11_blend_74)) rfl (lvA5 hl) ?_
          have hFc := free_all hD hS hA
          refine va_calli (runV_xa (As := [.ref q15]) (rest := []) S (q_EbrokenClause l D cI cB cZ zz qq vv bt g ad cn In F35 q15 u_4 za7 zb7 0 zd7 ze7 zf7 0 (([(q2, .inl (cI, 12, .inl f0)), (u_4, .inl (cI, 12, .inl (fun _ => 0)))] : va_W)) H.size hIn3 hT (fun k hk => by rw [hfr35.2.2 198 (nml rfl)]; exact hC k hk)) kV_RX11_370 hK hXS hS hFc hP hD _ (exl xo_0) rfl rfl ⟨Nat.le_of_ble_eq_true rfl, Nat.le_of_ble_eq_true rfl⟩ ⟨Nat.le_of_ble_eq_true rfl, Nat.le_of_ble_eq_true rfl⟩ rfl hl.1 rfl (Nat.le_of_ble_eq_true rfl) (oc_182 97 (aq_23 shX11_blend_74) uw_1_114)) hS (fun q _ h => hFc q h) hFc (fun r9 u9 t H1 locs ht hvm h9 hB1 hz1 hk1 hS => ?_)
          obtain ⟨hP1, hD1⟩ := hB1
          rw [ht] at hP1
          obtain ⟨a9, c9, I9, F9⟩ := u9
          obtain ⟨rfl, rfl, rfl, h9⟩ := h9
          have hf9 : Fr [] [] [7, 196, 197, 305] cn In Fn cn In F9 := Fr.mo (Fr.tr hfr35 (show Fr [] [] [7, 196, 197, 305] cn In F35 cn In F9 from ⟨fun _ _ => rfl, fun _ _ => rfl, h9⟩)) (sbl rfl) (sbl rfl) (sbl rfl)
          have hP : va_P D vwCl ((wX cI (D.1 99) zz g ad cn In F9) ++ ([(q15, .inr (1, [.ref u_4, .int za7, .int zb7, .int 0, .int zd7, .int ze7, .int zf7, .int 0])), (q2, .inl (cI, 12, .inl f0)), (u_4, .inl (cI, 12, .inl (fun _ => 0)))] : va_W)) H1 := hP1
          have hD : va_D A ((wX cI (D.1 99) zz g ad cn In F9) ++ ([(q15, .inr (1, [.ref u_4, .int za7, .int zb7, .int 0, .int zd7, .int ze7, .int zf7, .int 0])), (q2, .inl (cI, 12, .inl f0)), (u_4, .inl (cI, 12, .inl (fun _ => 0)))] : va_W)) := hD1.weaken (fun _ _ _ h => hFc _ h)
          generalize H1 = H at hP hS ⊢
          refine lv_iconst (v := (-1)) hx hb (oc_2 100 shX11_blend_100) kic_m1 ?_
          refine lv_icmp_ne (tgt := 122) hx hb (oc_160 101 (aq_1 shX11_blend_100) sgw_0_21) rfl (fun c_11 => ?_) (fun c_11 => ?_)
          ·
            have tc_11 : (r9.toInt : Int) ≠ (-1) := fun q => c_11 (Int32.toInt_inj.mp q)
            refine lv_iinc (v := (nI (i35 + 1))) (lv' := [(7, .int (nI (i35 + 1))), (8, .int 1), (6, .int x35_6), (5, .int x35_5), (4, .int x35_4), (3, .ref q15), (2, .int (nI n0)), (1, .ref q2), (0, .ref (g 0))]) hx hb dX11_blend_122 hl (k := 1) rfl (nI_1 _) (ltb rfl) rfl (fun ls hl => ?_)
            refine lv_goto (tgt := 35) hx hb dX11_blend_125 rfl ?_
            exact ih35 (i35 + 1) x35_4 x35_5 x35_6 za7 zb7 zd7 ze7 zf7 F9 _ _ (by omega) ⟨(by omega), (Fr.mo hf9 (sbl rfl) (sbl rfl) (sbl rfl))⟩ hP hD hS ls (lv_sub hl [0, 2, 3, 4, 5, 6, 7, 8] rfl)
          ·
            have tc_11 : (r9.toInt : Int) = (-1) := congrArg Int32.toInt c_11
            refine lv_aload_n hx hb (oc_45 104 (aq_4 shX11_blend_100)) rfl (lvA5 hl) ?_
            refine gf_RX11_388 S hK hP _ (exr (m := 0) rfl) (v := .int zd7) rfl (oc_180 105 (aq_5 shX11_blend_100) uw_1_132) ?_
            refine lv_istore (lv' := [(4, .int zd7), (8, .int 1), (7, .int (nI i35)), (6, .int x35_6), (5, .int x35_5), (3, .ref q15), (2, .int (nI n0)), (1, .ref q2), (0, .ref (g 0))]) hx hb (oc_54 108 (aq_8 shX11_blend_100) ub_4) hl (ltb rfl) rfl (fun ls hl => ?_)
            refine lv_aload_n hx hb (oc_45 110 (aq_10 shX11_blend_100)) rfl (lvA5 hl) ?_
            refine gf_RX11_342 S hK hP _ (exr (m := 0) rfl) (v := .int zf7) rfl (oc_180 111 (aq_11 shX11_blend_100) uw_1_86) ?_
            refine lv_istore (lv' := [(5, .int zf7), (4, .int zd7), (8, .int 1), (7, .int (nI i35)), (6, .int x35_6), (3, .ref q15), (2, .int (nI n0)), (1, .ref q2), (0, .ref (g 0))]) hx hb (oc_54 114 (aq_14 shX11_blend_100) ub_5) hl (ltb rfl) rfl (fun ls hl => ?_)
            refine lv_aload_n hx hb (oc_45 116 (aq_16 shX11_blend_100)) rfl (lvA5 hl) ?_
            refine gf_RX11_347 S hK hP _ (exr (m := 0) rfl) (v := .int ze7) rfl (oc_180 117 (aq_17 shX11_blend_100) uw_1_91) ?_
            refine lv_istore (lv' := [(6, .int ze7), (5, .int zf7), (4, .int zd7), (8, .int 1), (7, .int (nI i35)), (3, .ref q15), (2, .int (nI n0)), (1, .ref q2), (0, .ref (g 0))]) hx hb (oc_54 120 (aq_20 shX11_blend_100) ub_6) hl (ltb rfl) rfl (fun ls hl => ?_)
            refine lv_iinc (v := (nI (i35 + 1))) (lv' := [(7, .int (nI (i35 + 1))), (6, .int ze7), (5, .int zf7), (4, .int zd7), (8, .int 1), (3, .ref q15), (2, .int (nI n0)), (1, .ref q2), (0, .ref (g 0))]) hx hb dX11_blend_122 hl (k := 4) rfl (nI_1 _) (ltb rfl) rfl (fun ls hl => ?_)
            refine lv_goto (tgt := 35) hx hb dX11_blend_125 rfl ?_
            exact ih35 (i35 + 1) zd7 zf7 ze7 za7 zb7 zd7 ze7 zf7 F9 _ _ (by omega) ⟨(by omega), (Fr.mo hf9 (sbl rfl) (sbl rfl) (sbl rfl))⟩ hP hD hS ls (lv_sub hl [0, 1, 2, 3, 5, 6, 7, 8] rfl)
        ·
          have tc_9 : (x35_4.toInt : Int) ≠ 0 := fun q => c_9 (Int32.toInt_inj.mp q)
          refine lv_aload_n hx hb (oc_45 56 (aq_8 shX11_blend_48)) rfl (lvA4 hl) ?_
          refine gf_RX11_342 S hK hP _ (exr (m := 0) rfl) (v := .int zf7) rfl (oc_180 57 (aq_9 shX11_blend_48) uw_1_86) ?_
          refine lv_iload hx hb (oc_21 60 (aq_12 shX11_blend_48) ub_5) (lvA2 hl) ?_
          refine lv_icmp_gt (tgt := 83) hx hb (oc_163 62 (aq_14 shX11_blend_48) sgw_0_21) rfl (fun c_12 => ?_) (fun c_12 => ?_)
          ·
            have tc_12 : (x35_5.toInt : Int) < zf7.toInt := Int32.lt_iff_toInt_lt.mp c_12
            refine lv_iconst (v := 1) hx hb (oc_4 83 (aq_9 shX11_blend_74)) kic_1 ?_
            refine lv_goto (tgt := 88) hx hb (oc_167 84 (aq_10 shX11_blend_74) sgw_0_4) rfl ?_
            refine lv_istore (lv' := [(8, .int 1), (7, .int (nI i35)), (6, .int x35_6), (5, .int x35_5), (4, .int x35_4), (3, .ref q15), (2, .int (nI n0)), (1, .ref q2), (0, .ref (g 0))]) hx hb dX11_blend_88 hl (ltb rfl) rfl (fun ls hl => ?_)
            refine lv_iload hx hb dX11_blend_90 (lvA0 hl) ?_
            refine lv_if_eq (tgt := 122) hx hb dX11_blend_92 rfl (fun h => absurd h cq_eq_1_0) (fun _ => ?_)
            refine lv_aload_n hx hb (oc_42 95 (aq_21 shX11_blend_74)) rfl (lvA8 hl) ?_
            refine lv_aload_n hx hb (oc_45 96 (aq_22 shX11_blend_74)) rfl (lvA5 hl) ?_
            have hFc := free_all hD hS hA
            refine va_calli (runV_xa (As := [.ref q15]) (rest := []) S (q_EbrokenClause l D cI cB cZ zz qq vv bt g ad cn In F35 q15 u_4 za7 zb7 0 zd7 ze7 zf7 0 (([(q2, .inl (cI, 12, .inl f0)), (u_4, .inl (cI, 12, .inl (fun _ => 0)))] : va_W)) H.size hIn3 hT (fun k hk => by rw [hfr35.2.2 198 (nml rfl)]; exact hC k hk)) kV_RX11_370 hK hXS hS hFc hP hD _ (exl xo_0) rfl rfl ⟨Nat.le_of_ble_eq_true rfl, Nat.le_of_ble_eq_true rfl⟩ ⟨Nat.le_of_ble_eq_true rfl, Nat.le_of_ble_eq_true rfl⟩ rfl hl.1 rfl (Nat.le_of_ble_eq_true rfl) (oc_182 97 (aq_23 shX11_blend_74) uw_1_114)) hS (fun q _ h => hFc q h) hFc (fun r12 u12 t H1 locs ht hvm h12 hB1 hz1 hk1 hS => ?_)
            obtain ⟨hP1, hD1⟩ := hB1
            rw [ht] at hP1
            obtain ⟨a12, c12, I12, F12⟩ := u12
            obtain ⟨rfl, rfl, rfl, h12⟩ := h12
            have hf12 : Fr [] [] [7, 196, 197, 305] cn In Fn cn In F12 := Fr.mo (Fr.tr hfr35 (show Fr [] [] [7, 196, 197, 305] cn In F35 cn In F12 from ⟨fun _ _ => rfl, fun _ _ => rfl, h12⟩)) (sbl rfl) (sbl rfl) (sbl rfl)
            have hP : va_P D vwCl ((wX cI (D.1 99) zz g ad cn In F12) ++ ([(q15, .inr (1, [.ref u_4, .int za7, .int zb7, .int 0, .int zd7, .int ze7, .int zf7, .int 0])), (q2, .inl (cI, 12, .inl f0)), (u_4, .inl (cI, 12, .inl (fun _ => 0)))] : va_W)) H1 := hP1
            have hD : va_D A ((wX cI (D.1 99) zz g ad cn In F12) ++ ([(q15, .inr (1, [.ref u_4, .int za7, .int zb7, .int 0, .int zd7, .int ze7, .int zf7, .int 0])), (q2, .inl (cI, 12, .inl f0)), (u_4, .inl (cI, 12, .inl (fun _ => 0)))] : va_W)) := hD1.weaken (fun _ _ _ h => hFc _ h)
            generalize H1 = H at hP hS ⊢
            refine lv_iconst (v := (-1)) hx hb (oc_2 100 shX11_blend_100) kic_m1 ?_
            refine lv_icmp_ne (tgt := 122) hx hb (oc_160 101 (aq_1 shX11_blend_100) sgw_0_21) rfl (fun c_14 => ?_) (fun c_14 => ?_)
            ·
              have tc_14 : (r12.toInt : Int) ≠ (-1) := fun q => c_14 (Int32.toInt_inj.mp q)
              refine lv_iinc (v := (nI (i35 + 1))) (lv' := [(7, .int (nI (i35 + 1))), (8, .int 1), (6, .int x35_6), (5, .int x35_5), (4, .int x35_4), (3, .ref q15), (2, .int (nI n0)), (1, .ref q2), (0, .ref (g 0))]) hx hb dX11_blend_122 hl (k := 1) rfl (nI_1 _) (ltb rfl) rfl (fun ls hl => ?_)
              refine lv_goto (tgt := 35) hx hb dX11_blend_125 rfl ?_
              exact ih35 (i35 + 1) x35_4 x35_5 x35_6 za7 zb7 zd7 ze7 zf7 F12 _ _ (by omega) ⟨(by omega), (Fr.mo hf12 (sbl rfl) (sbl rfl) (sbl rfl))⟩ hP hD hS ls (lv_sub hl [0, 2, 3, 4, 5, 6, 7, 8] rfl)
            ·
              have tc_14 : (r12.toInt : Int) = (-1) := congrArg Int32.toInt c_14
              refine lv_aload_n hx hb (oc_45 104 (aq_4 shX11_blend_100)) rfl (lvA5 hl) ?_
              refine gf_RX11_388 S hK hP _ (exr (m := 0) rfl) (v := .int zd7) rfl (oc_180 105 (aq_5 shX11_blend_100) uw_1_132) ?_
              refine lv_istore (lv' := [(4, .int zd7), (8, .int 1), (7, .int (nI i35)), (6, .int x35_6), (5, .int x35_5), (3, .ref q15), (2, .int (nI n0)), (1, .ref q2), (0, .ref (g 0))]) hx hb (oc_54 108 (aq_8 shX11_blend_100) ub_4) hl (ltb rfl) rfl (fun ls hl => ?_)
              refine lv_aload_n hx hb (oc_45 110 (aq_10 shX11_blend_100)) rfl (lvA5 hl) ?_
              refine gf_RX11_342 S hK hP _ (exr (m := 0) rfl) (v := .int zf7) rfl (oc_180 111 (aq_11 shX11_blend_100) uw_1_86) ?_
              refine lv_istore (lv' := [(5, .int zf7), (4, .int zd7), (8, .int 1), (7, .int (nI i35)), (6, .int x35_6), (3, .ref q15), (2, .int (nI n0)), (1, .ref q2), (0, .ref (g 0))]) hx hb (oc_54 114 (aq_14 shX11_blend_100) ub_5) hl (ltb rfl) rfl (fun ls hl => ?_)
              refine lv_aload_n hx hb (oc_45 116 (aq_16 shX11_blend_100)) rfl (lvA5 hl) ?_
              refine gf_RX11_347 S hK hP _ (exr (m := 0) rfl) (v := .int ze7) rfl (oc_180 117 (aq_17 shX11_blend_100) uw_1_91) ?_
              refine lv_istore (lv' := [(6, .int ze7), (5, .int zf7), (4, .int zd7), (8, .int 1), (7, .int (nI i35)), (3, .ref q15), (2, .int (nI n0)), (1, .ref q2), (0, .ref (g 0))]) hx hb (oc_54 120 (aq_20 shX11_blend_100) ub_6) hl (ltb rfl) rfl (fun ls hl => ?_)
              refine lv_iinc (v := (nI (i35 + 1))) (lv' := [(7, .int (nI (i35 + 1))), (6, .int ze7), (5, .int zf7), (4, .int zd7), (8, .int 1), (3, .ref q15), (2, .int (nI n0)), (1, .ref q2), (0, .ref (g 0))]) hx hb dX11_blend_122 hl (k := 4) rfl (nI_1 _) (ltb rfl) rfl (fun ls hl => ?_)
              refine lv_goto (tgt := 35) hx hb dX11_blend_125 rfl ?_
              exact ih35 (i35 + 1) zd7 zf7 ze7 za7 zb7 zd7 ze7 zf7 F12 _ _ (by omega) ⟨(by omega), (Fr.mo hf12 (sbl rfl) (sbl rfl) (sbl rfl))⟩ hP hD hS ls (lv_sub hl [0, 1, 2, 3, 5, 6, 7, 8] rfl)
          ·
            have tc_12 : (zf7.toInt : Int) ≤ x35_5.toInt := Int32.le_iff_toInt_le.mp (Int32.not_lt.mp c_12)
            refine lv_aload_n hx hb (oc_45 65 (aq_17 shX11_blend_48)) rfl (lvA4 hl) ?_
            refine gf_RX11_342 S hK hP _ (exr (m := 0) rfl) (v := .int zf7) rfl (oc_180 66 (aq_18 shX11_blend_48) uw_1_86) ?_
            refine lv_iload hx hb (oc_21 69 (aq_21 shX11_blend_48) ub_5) (lvA2 hl) ?_
            refine lv_icmp_ne (tgt := 87) hx hb (oc_160 71 (aq_23 shX11_blend_48) sgw_0_16) rfl (fun c_15 => ?_) (fun c_15 => ?_)
            ·
              have tc_15 : (zf7.toInt : Int) ≠ x35_5.toInt := fun q => c_15 (Int32.toInt_inj.mp q)
              refine lv_iconst (v := 0) hx hb (oc_3 87 (aq_13 shX11_blend_74)) kic_0 ?_
              refine lv_istore (lv' := [(8, .int 0), (7, .int (nI i35)), (6, .int x35_6), (5, .int x35_5), (4, .int x35_4), (3, .ref q15), (2, .int (nI n0)), (1, .ref q2), (0, .ref (g 0))]) hx hb dX11_blend_88 hl (ltb rfl) rfl (fun ls hl => ?_)
              refine lv_iload hx hb dX11_blend_90 (lvA0 hl) ?_
              refine lv_if_eq (tgt := 122) hx hb dX11_blend_92 rfl (fun _ => ?_) (fun h => absurd h cq_eq_0_0)
              refine lv_iinc (v := (nI (i35 + 1))) (lv' := [(7, .int (nI (i35 + 1))), (8, .int 0), (6, .int x35_6), (5, .int x35_5), (4, .int x35_4), (3, .ref q15), (2, .int (nI n0)), (1, .ref q2), (0, .ref (g 0))]) hx hb dX11_blend_122 hl (k := 1) rfl (nI_1 _) (ltb rfl) rfl (fun ls hl => ?_)
              refine lv_goto (tgt := 35) hx hb dX11_blend_125 rfl ?_
              exact ih35 (i35 + 1) x35_4 x35_5 x35_6 za7 zb7 zd7 ze7 zf7 F35 _ _ (by omega) ⟨(by omega), (Fr.mo hfr35 (sbl rfl) (sbl rfl) (sbl rfl))⟩ hP hD hS ls (lv_sub hl [0, 2, 3, 4, 5, 6, 7, 8] rfl)
            ·
              have tc_15 : (zf7.toInt : Int) = x35_5.toInt := congrArg Int32.toInt c_15
              refine lv_aload_n hx hb (oc_45 74 shX11_blend_74) rfl (lvA4 hl) ?_
              refine gf_RX11_347 S hK hP _ (exr (m := 0) rfl) (v := .int ze7) rfl (oc_180 75 (aq_1 shX11_blend_74) uw_1_91) ?_
              refine lv_iload hx hb (oc_21 78 (aq_4 shX11_blend_74) ub_6) (lvA1 hl) ?_
              refine lv_icmp_ge (tgt := 87) hx hb (oc_162 80 (aq_6 shX11_blend_74) sgw_0_7) rfl (fun c_16 => ?_) (fun c_16 => ?_)
              ·
                have tc_16 : (x35_6.toInt : Int) ≤ ze7.toInt := Int32.le_iff_toInt_le.mp c_16
                refine lv_iconst (v := 0) hx hb (oc_3 87 (aq_13 shX11_blend_74)) kic_0 ?_
                refine lv_istore (lv' := [(8, .int 0), (7, .int (nI i35)), (6, .int x35_6), (5, .int x35_5), (4, .int x35_4), (3, .ref q15), (2, .int (nI n0)), (1, .ref q2), (0, .ref (g 0))]) hx hb dX11_blend_88 hl (ltb rfl) rfl (fun ls hl => ?_)
                refine lv_iload hx hb dX11_blend_90 (lvA0 hl) ?_
                refine lv_if_eq (tgt := 122) hx hb dX11_blend_92 rfl (fun _ => ?_) (fun h => absurd h cq_eq_0_0)
                refine lv_iinc (v := (nI (i35 + 1))) (lv' := [(7, .int (nI (i35 + 1))), (8, .int 0), (6, .int x35_6), (5, .int x35_5), (4, .int x35_4), (3, .ref q15), (2, .int (nI n0)), (1, .ref q2), (0, .ref (g 0))]) hx hb dX11_blend_122 hl (k := 1) rfl (nI_1 _) (ltb rfl) rfl (fun ls hl => ?_)
                refine lv_goto (tgt := 35) hx hb dX11_blend_125 rfl ?_
                exact ih35 (i35 + 1) x35_4 x35_5 x35_6 za7 zb7 zd7 ze7 zf7 F35 _ _ (by omega) ⟨(by omega), (Fr.mo hfr35 (sbl rfl) (sbl rfl) (sbl rfl))⟩ hP hD hS ls (lv_sub hl [0, 2, 3, 4, 5, 6, 7, 8] rfl)
              ·
                have tc_16 : (ze7.toInt : Int) < x35_6.toInt := Int32.lt_iff_toInt_lt.mp (Int32.not_le.mp c_16)
                refine lv_iconst (v := 1) hx hb (oc_4 83 (aq_9 shX11_blend_74)) kic_1 ?_
                refine lv_goto (tgt := 88) hx hb (oc_167 84 (aq_10 shX11_blend_74) sgw_0_4) rfl ?_
                refine lv_istore (lv' := [(8, .int 1), (7, .int (nI i35)), (6, .int x35_6), (5, .int x35_5), (4, .int x35_4), (3, .ref q15), (2, .int (nI n0)), (1, .ref q2), (0, .ref (g 0))]) hx hb dX11_blend_88 hl (ltb rfl) rfl (fun ls hl => ?_)
                refine lv_iload hx hb dX11_blend_90 (lvA0 hl) ?_
                refine lv_if_eq (tgt := 122) hx hb dX11_blend_92 rfl (fun h => absurd h cq_eq_1_0) (fun _ => ?_)
                refine lv_aload_n hx hb (oc_42 95 (aq_21 shX11_blend_74)) rfl (lvA8 hl) ?_
                refine lv_aload_n hx hb (oc_45 96 (aq_22 shX11_blend_74)) rfl (lvA5 hl) ?_
                have hFc := free_all hD hS hA
                refine va_calli (runV_xa (As := [.ref q15]) (rest := []) S (q_EbrokenClause l D cI cB cZ zz qq vv bt g ad cn In F35 q15 u_4 za7 zb7 0 zd7 ze7 zf7 0 (([(q2, .inl (cI, 12, .inl f0)), (u_4, .inl (cI, 12, .inl (fun _ => 0)))] : va_W)) H.size hIn3 hT (fun k hk => by rw [hfr35.2.2 198 (nml rfl)]; exact hC k hk)) kV_RX11_370 hK hXS hS hFc hP hD _ (exl xo_0) rfl rfl ⟨Nat.le_of_ble_eq_true rfl, Nat.le_of_ble_eq_true rfl⟩ ⟨Nat.le_of_ble_eq_true rfl, Nat.le_of_ble_eq_true rfl⟩ rfl hl.1 rfl (Nat.le_of_ble_eq_true rfl) (oc_182 97 (aq_23 shX11_blend_74) uw_1_114)) hS (fun q _ h => hFc q h) hFc (fun r16 u16 t H1 locs ht hvm h16 hB1 hz1 hk1 hS => ?_)
                obtain ⟨hP1, hD1⟩ := hB1
                rw [ht] at hP1
                obtain ⟨a16, c16, I16, F16⟩ := u16
                obtain ⟨rfl, rfl, rfl, h16⟩ := h16
                have hf16 : Fr [] [] [7, 196, 197, 305] cn In Fn cn In F16 := Fr.mo (Fr.tr hfr35 (show Fr [] [] [7, 196, 197, 305] cn In F35 cn In F16 from ⟨fun _ _ => rfl, fun _ _ => rfl, h16⟩)) (sbl rfl) (sbl rfl) (sbl rfl)
                have hP : va_P D vwCl ((wX cI (D.1 99) zz g ad cn In F16) ++ ([(q15, .inr (1, [.ref u_4, .int za7, .int zb7, .int 0, .int zd7, .int ze7, .int zf7, .int 0])), (q2, .inl (cI, 12, .inl f0)), (u_4, .inl (cI, 12, .inl (fun _ => 0)))] : va_W)) H1 := hP1
                have hD : va_D A ((wX cI (D.1 99) zz g ad cn In F16) ++ ([(q15, .inr (1, [.ref u_4, .int za7, .int zb7, .int 0, .int zd7, .int ze7, .int zf7, .int 0])), (q2, .inl (cI, 12, .inl f0)), (u_4, .inl (cI, 12, .inl (fun _ => 0)))] : va_W)) := hD1.weaken (fun _ _ _ h => hFc _ h)
                generalize H1 = H at hP hS ⊢
                refine lv_iconst (v := (-1)) hx hb (oc_2 100 shX11_blend_100) kic_m1 ?_
                refine lv_icmp_ne (tgt := 122) hx hb (oc_160 101 (aq_1 shX11_blend_100) sgw_0_21) rfl (fun c_18 => ?_) (fun c_18 => ?_)
                ·
                  have tc_18 : (r16.toInt : Int) ≠ (-1) := fun q => c_18 (Int32.toInt_inj.mp q)
                  refine lv_iinc (v := (nI (i35 + 1))) (lv' := [(7, .int (nI (i35 + 1))), (8, .int 1), (6, .int x35_6), (5, .int x35_5), (4, .int x35_4), (3, .ref q15), (2, .int (nI n0)), (1, .ref q2), (0, .ref (g 0))]) hx hb dX11_blend_122 hl (k := 1) rfl (nI_1 _) (ltb rfl) rfl (fun ls hl => ?_)
                  refine lv_goto (tgt := 35) hx hb dX11_blend_125 rfl ?_
                  exact ih35 (i35 + 1) x35_4 x35_5 x35_6 za7 zb7 zd7 ze7 zf7 F16 _ _ (by omega) ⟨(by omega), (Fr.mo hf16 (sbl rfl) (sbl rfl) (sbl rfl))⟩ hP hD hS ls (lv_sub hl [0, 2, 3, 4, 5, 6, 7, 8] rfl)
                ·
                  have tc_18 : (r16.toInt : Int) = (-1) := congrArg Int32.toInt c_18
                  refine lv_aload_n hx hb (oc_45 104 (aq_4 shX11_blend_100)) rfl (lvA5 hl) ?_
                  refine gf_RX11_388 S hK hP _ (exr (m := 0) rfl) (v := .int zd7) rfl (oc_180 105 (aq_5 shX11_blend_100) uw_1_132) ?_
                  refine lv_istore (lv' := [(4, .int zd7), (8, .int 1), (7, .int (nI i35)), (6, .int x35_6), (5, .int x35_5), (3, .ref q15), (2, .int (nI n0)), (1, .ref q2), (0, .ref (g 0))]) hx hb (oc_54 108 (aq_8 shX11_blend_100) ub_4) hl (ltb rfl) rfl (fun ls hl => ?_)
                  refine lv_aload_n hx hb (oc_45 110 (aq_10 shX11_blend_100)) rfl (lvA5 hl) ?_
                  refine gf_RX11_342 S hK hP _ (exr (m := 0) rfl) (v := .int zf7) rfl (oc_180 111 (aq_11 shX11_blend_100) uw_1_86) ?_
                  refine lv_istore (lv' := [(5, .int zf7), (4, .int zd7), (8, .int 1), (7, .int (nI i35)), (6, .int x35_6), (3, .ref q15), (2, .int (nI n0)), (1, .ref q2), (0, .ref (g 0))]) hx hb (oc_54 114 (aq_14 shX11_blend_100) ub_5) hl (ltb rfl) rfl (fun ls hl => ?_)
                  refine lv_aload_n hx hb (oc_45 116 (aq_16 shX11_blend_100)) rfl (lvA5 hl) ?_
                  refine gf_RX11_347 S hK hP _ (exr (m := 0) rfl) (v := .int ze7) rfl (oc_180 117 (aq_17 shX11_blend_100) uw_1_91) ?_
                  refine lv_istore (lv' := [(6, .int ze7), (5, .int zf7), (4, .int zd7), (8, .int 1), (7, .int (nI i35)), (3, .ref q15), (2, .int (nI n0)), (1, .ref q2), (0, .ref (g 0))]) hx hb (oc_54 120 (aq_20 shX11_blend_100) ub_6) hl (ltb rfl) rfl (fun ls hl => ?_)
                  refine lv_iinc (v := (nI (i35 + 1))) (lv' := [(7, .int (nI (i35 + 1))), (6, .int ze7), (5, .int zf7), (4, .int zd7), (8, .int 1), (3, .ref q15), (2, .int (nI n0)), (1, .ref q2), (0, .ref (g 0))]) hx hb dX11_blend_122 hl (k := 4) rfl (nI_1 _) (ltb rfl) rfl (fun ls hl => ?_)
                  refine lv_goto (tgt := 35) hx hb dX11_blend_125 rfl ?_
                  exact ih35 (i35 + 1) zd7 zf7 ze7 za7 zb7 zd7 ze7 zf7 F16 _ _ (by omega) ⟨(by omega), (Fr.mo hf16 (sbl rfl) (sbl rfl) (sbl rfl))⟩ hP hD hS ls (lv_sub hl [0, 1, 2, 3, 5, 6, 7, 8] rfl)
  exact lp_35 _ 1 0 0 0 0 0 0 0 0 Fn3 _ _ (Nat.lt_succ_self _) ⟨(by omega), (Fr.mo hf3 (sbl rfl) (sbl rfl) (sbl rfl))⟩ hP hD hS ls (lv_sub hl [0, 1, 2, 3, 4, 5, 6, 7] rfl)
end

section
/-- what a rule of the grammar keeps, brackets open: o; depth of calls: d -/
def RDQ (y : MethodName) (b : ByteArray) (n : Nat) (l : Launch) (D : va_G) (cI cB cZ : ClassId) (zz qq vv : Nat) (bt : Nat → Int32) (g : Nat → Nat) (o : Int32) (d : Nat) : Prop := ∀ (ad : Nat → Nat → Nat) (cn : Nat → Nat) (In : Nat → Int32) (Fn : Nat → Nat → Int32) (sz : Nat), CBX cn → ad 4 2 = g 40 → ad 4 1 < cn 6 → cn 31 ≤ cn 32 → cn 32 ≤ 160 → (Fn 199 (ad 4 1)).toInt ≤ 160 → Met l y (CWS y b n none) (RM d 0 0) (PBx [.ref (g 6), .int o] D cI cB cZ zz qq vv bt (wX cI (D.1 99) zz g ad cn In Fn) sz) (va_Qv (fun (u : (Nat → Nat) × (Nat → Int32) × (Nat → Nat → Int32)) => (fun c2 I2 F2 => Fr [31, 32] [33] [195, 301] cn In Fn c2 I2 F2 ∧ CBX c2 ∧ (cn 31 ≤ c2 31 ∧ c2 31 ≤ c2 32 ∧ c2 32 ≤ cn 32)) u.1 u.2.1 u.2.2) (fun (u : (Nat → Nat) × (Nat → Int32) × (Nat → Nat → Int32)) (t : State) => va_P D vwCl (wX cI (D.1 99) zz g ad u.1 u.2.1 u.2.2) t.heap ∧ va_D (va_A (wX cI (D.1 99) zz g ad cn In Fn) sz) (wX cI (D.1 99) zz g ad u.1 u.2.1 u.2.2)) (va_A (wX cI (D.1 99) zz g ad cn In Fn) sz)) 0 0 (va_A (wX cI (D.1 99) zz g ad cn In Fn) sz)

set_option maxRecDepth 100000 in
theorem hin_RX5 : ∀ w ∈ u_ws RX5 TX5 6, w ∈ wT := hin_all (C := RX5) (T := TX5) (n := 6) (hin_s (hin_s (hin_s (hin_s (hin_s (hin_s (fun k hk => absurd hk (Nat.not_lt_zero k)) (wk1_8 8 rfl rfl)) (wk1_8 10 rfl rfl)) (wk1_9 0 rfl rfl)) (wk1_9 2 rfl rfl)) (wk1_9 4 rfl rfl)) (wk1_9 6 rfl rfl))
set_option maxRecDepth 100000 in
theorem gf_RX5_31 {p : Program} {l : Launch} {e : Env} {R : Room} {s : State} {m : MethodId} {args : Array Value} {below : List Frame} {meth : Method} {c : Code} {H : Heap} {locs : List Loc} {cells slots : Nat} {Q : State → Prop} {cc : ByteArray} {nL pc : Nat} {D : va_G} {cI cB cZ : ClassId} {ws : va_W} {rest : List Value} {ls : Array Slot} {a : Nat} {fs : List Value} {v : Value} (S : SF p m c cc nL s args RX5) (hK : KK D cI cB cZ s) (hP : va_P D vwCl ws H) (q0 : Nat) (he : ws[q0]? = some (a, .inr (6, fs))) (hv : fs[3]? = some v) (hdg : decode cc pc = .ok (.getfield 31, 3)) (kk : W p l e R s m args below meth c H locs cells slots Q (F0 m (pc + 3) ls (v :: rest))) : W p l e R s m args below meth c H locs cells slots Q (F0 m pc ls (.ref a :: rest)) :=
  va_get (C := RX5) (T := TX5) (N := 6) S.1 S.2.1 S.2.2.2.2 hin_RX5 S.2.2.2.1 hK.1 hP q0 he rfl 3 (by decide) (S.2.2.2.2 _ (wk1_8 4 rfl rfl)) (fun _ h9 => h9) hv hdg kk
set_option maxRecDepth 100000 in
theorem gf_RX5_34 {p : Program} {l : Launch} {e : Env} {R : Room} {s : State} {m : MethodId} {args : Array Value} {below : List Frame} {meth : Method} {c : Code} {H : Heap} {locs : List Loc} {cells slots : Nat} {Q : State → Prop} {cc : ByteArray} {nL pc : Nat} {D : va_G} {cI cB cZ : ClassId} {ws : va_W} {rest : List Value} {ls : Array Slot} {a : Nat} {fs : List Value} {v : Value} (S : SF p m c cc nL s args RX5) (hK : KK D cI cB cZ s) (hP : va_P D vwCl ws H) (q0 : Nat) (he : ws[q0]? = some (a, .inr (6, fs))) (hv : fs[4]? = some v) (hdg : decode cc pc = .ok (.getfield 34, 3)) (kk : W p l e R s m args below meth c H locs cells slots Q (F0 m (pc + 3) ls (v :: rest))) : W p l e R s m args below meth c H locs cells slots Q (F0 m pc ls (.ref a :: rest)) :=
  va_get (C := RX5) (T := TX5) (N := 6) S.1 S.2.1 S.2.2.2.2 hin_RX5 S.2.2.2.1 hK.1 hP q0 he rfl 4 (by decide) (S.2.2.2.2 _ (wk1_8 5 rfl rfl)) (fun _ h9 => h9) hv hdg kk
set_option maxRecDepth 100000 in
theorem gf_RX5_9 {p : Program} {l : Launch} {e : Env} {R : Room} {s : State} {m : MethodId} {args : Array Value} {below : List Frame} {meth : Method} {c : Code} {H : Heap} {locs : List Loc} {cells slots : Nat} {Q : State → Prop} {cc : ByteArray} {nL pc : Nat} {D : va_G} {cI cB cZ : ClassId} {ws : va_W} {rest : List Value} {ls : Array Slot} {a : Nat} {fs : List Value} {v : Value} (S : SF p m c cc nL s args RX5) (hK : KK D cI cB cZ s) (hP : va_P D vwCl ws H) (q0 : Nat) (he : ws[q0]? = some (a, .inr (6, fs))) (hv : fs[0]? = some v) (hdg : decode cc pc = .ok (.getfield 9, 3)) (kk : W p l e R s m args below meth c H locs cells slots Q (F0 m (pc + 3) ls (v :: rest))) : W p l e R s m args below meth c H locs cells slots Q (F0 m pc ls (.ref a :: rest)) :=
  va_get (C := RX5) (T := TX5) (N := 6) S.1 S.2.1 S.2.2.2.2 hin_RX5 S.2.2.2.1 hK.1 hP q0 he rfl 0 (by decide) (S.2.2.2.2 _ (wk1_8 1 rfl rfl)) (fun _ h9 => h9) hv hdg kk
set_option maxRecDepth 100000 in
theorem gf_RX5_37 {p : Program} {l : Launch} {e : Env} {R : Room} {s : State} {m : MethodId} {args : Array Value} {below : List Frame} {meth : Method} {c : Code} {H : Heap} {locs : List Loc} {cells slots : Nat} {Q : State → Prop} {cc : ByteArray} {nL pc : Nat} {D : va_G} {cI cB cZ : ClassId} {ws : va_W} {rest : List Value} {ls : Array Slot} {a : Nat} {fs : List Value} {v : Value} (S : SF p m c cc nL s args RX5) (hK : KK D cI cB cZ s) (hP : va_P D vwCl ws H) (q0 : Nat) (he : ws[q0]? = some (a, .inr (6, fs))) (hv : fs[5]? = some v) (hdg : decode cc pc = .ok (.getfield 37, 3)) (kk : W p l e R s m args below meth c H locs cells slots Q (F0 m (pc + 3) ls (v :: rest))) : W p l e R s m args below meth c H locs cells slots Q (F0 m pc ls (.ref a :: rest)) :=
  va_get (C := RX5) (T := TX5) (N := 6) S.1 S.2.1 S.2.2.2.2 hin_RX5 S.2.2.2.1 hK.1 hP q0 he rfl 5 (by decide) (S.2.2.2.2 _ (wk1_8 6 rfl rfl)) (fun _ h9 => h9) hv hdg kk
set_option maxRecDepth 100000 in
theorem pf_RX5_37 {p : Program} {l : Launch} {e : Env} {R : Room} {s : State} {m : MethodId} {args : Array Value} {below : List Frame} {meth : Method} {c : Code} {H : Heap} {locs : List Loc} {cells slots : Nat} {Q : State → Prop} {cc : ByteArray} {nL pc : Nat} {D : va_G} {cI cB cZ : ClassId} {ws : va_W} {rest : List Value} {ls : Array Slot} {a : Nat} {fs : List Value} {v : Value} {A : Nat → Prop} {H0 : Heap} (S : SF p m c cc nL s args RX5) (hK : KK D cI cB cZ s) (hP : va_P D vwCl ws H) (hD : va_D A ws) (hS : va_S A H0 H locs) (q0 : Nat) (he : ws[q0]? = some (a, .inr (6, fs))) (hl : 5 < fs.length) (hn : narrow (tyX5 5) v = v) (hfit : fits (tyX5 5) v = true) (hdg : decode cc pc = .ok (.putfield 37, 3)) (kk : ∀ (H1 : Heap) (locs1 : List Loc), va_P D vwCl (ws.set q0 (a, .inr (6, fs.set 5 v))) H1 → va_D A (ws.set q0 (a, .inr (6, fs.set 5 v))) → va_S A H0 H1 locs1 → W p l e R s m args below meth c H1 locs1 cells slots Q (F0 m (pc + 3) ls rest)) : W p l e R s m args below meth c H locs cells slots Q (F0 m pc ls (v :: .ref a :: rest)) :=
  va_put (C := RX5) (T := TX5) (N := 6) S.1 S.2.1 S.2.2.2.2 hin_RX5 tyX5 tyX5_ok nmX5 S.2.2.2.1 hK.1 hP hD hS q0 he rfl 5 (by decide) (S.2.2.2.2 _ (wk1_8 6 rfl rfl)) (fun _ h9 => h9) rfl (tyX5_ok 5 (by decide)) hn hfit hl hdg kk
set_option maxRecDepth 100000 in
theorem pf_RX5_34 {p : Program} {l : Launch} {e : Env} {R : Room} {s : State} {m : MethodId} {args : Array Value} {below : List Frame} {meth : Method} {c : Code} {H : Heap} {locs : List Loc} {cells slots : Nat} {Q : State → Prop} {cc : ByteArray} {nL pc : Nat} {D : va_G} {cI cB cZ : ClassId} {ws : va_W} {rest : List Value} {ls : Array Slot} {a : Nat} {fs : List Value} {v : Value} {A : Nat → Prop} {H0 : Heap} (S : SF p m c cc nL s args RX5) (hK : KK D cI cB cZ s) (hP : va_P D vwCl ws H) (hD : va_D A ws) (hS : va_S A H0 H locs) (q0 : Nat) (he : ws[q0]? = some (a, .inr (6, fs))) (hl : 4 < fs.length) (hn : narrow (tyX5 4) v = v) (hfit : fits (tyX5 4) v = true) (hdg : decode cc pc = .ok (.putfield 34, 3)) (kk : ∀ (H1 : Heap) (locs1 : List Loc), va_P D vwCl (ws.set q0 (a, .inr (6, fs.set 4 v))) H1 → va_D A (ws.set q0 (a, .inr (6, fs.set 4 v))) → va_S A H0 H1 locs1 → W p l e R s m args below meth c H1 locs1 cells slots Q (F0 m (pc + 3) ls rest)) : W p l e R s m args below meth c H locs cells slots Q (F0 m pc ls (v :: .ref a :: rest)) :=
  va_put (C := RX5) (T := TX5) (N := 6) S.1 S.2.1 S.2.2.2.2 hin_RX5 tyX5 tyX5_ok nmX5 S.2.2.2.1 hK.1 hP hD hS q0 he rfl 4 (by decide) (S.2.2.2.2 _ (wk1_8 5 rfl rfl)) (fun _ h9 => h9) rfl (tyX5_ok 4 (by decide)) hn hfit hl hdg kk
set_option maxRecDepth 100000 in
theorem kV_RX5_43 : CalV RX5 43 yX5_peek cX5_peek 1 (some .int) 0 := ⟨⟨wk3_5 3 rfl rfl, wk3_5 5 rfl rfl, wT_sel 7 _ rfl rfl rfl, wk1_0 5 rfl rfl, wk3_5 6 rfl rfl⟩, ⟨nmh_6.1, nmh_6.2, pd_1⟩⟩
set_option maxRecDepth 100000 in
theorem kV_RX5_47 : CalV RX5 47 yX5_fail cX5_fail 2 none 1 := ⟨⟨wk3_5 7 rfl rfl, wk3_5 9 rfl rfl, wT_sel 8 _ rfl rfl rfl, wk1_0 5 rfl rfl, wk3_5 10 rfl rfl⟩, ⟨nmh_6.1, nmh_6.2, pd_14⟩⟩
set_option maxRecDepth 100000 in
theorem pf_RX5_31 {p : Program} {l : Launch} {e : Env} {R : Room} {s : State} {m : MethodId} {args : Array Value} {below : List Frame} {meth : Method} {c : Code} {H : Heap} {locs : List Loc} {cells slots : Nat} {Q : State → Prop} {cc : ByteArray} {nL pc : Nat} {D : va_G} {cI cB cZ : ClassId} {ws : va_W} {rest : List Value} {ls : Array Slot} {a : Nat} {fs : List Value} {v : Value} {A : Nat → Prop} {H0 : Heap} (S : SF p m c cc nL s args RX5) (hK : KK D cI cB cZ s) (hP : va_P D vwCl ws H) (hD : va_D A ws) (hS : va_S A H0 H locs) (q0 : Nat) (he : ws[q0]? = some (a, .inr (6, fs))) (hl : 3 < fs.length) (hn : narrow (tyX5 3) v = v) (hfit : fits (tyX5 3) v = true) (hdg : decode cc pc = .ok (.putfield 31, 3)) (kk : ∀ (H1 : Heap) (locs1 : List Loc), va_P D vwCl (ws.set q0 (a, .inr (6, fs.set 3 v))) H1 → va_D A (ws.set q0 (a, .inr (6, fs.set 3 v))) → va_S A H0 H1 locs1 → W p l e R s m args below meth c H1 locs1 cells slots Q (F0 m (pc + 3) ls rest)) : W p l e R s m args below meth c H locs cells slots Q (F0 m pc ls (v :: .ref a :: rest)) :=
  va_put (C := RX5) (T := TX5) (N := 6) S.1 S.2.1 S.2.2.2.2 hin_RX5 tyX5 tyX5_ok nmX5 S.2.2.2.1 hK.1 hP hD hS q0 he rfl 3 (by decide) (S.2.2.2.2 _ (wk1_8 4 rfl rfl)) (fun _ h9 => h9) rfl (tyX5_ok 3 (by decide)) hn hfit hl hdg kk
set_option maxRecDepth 100000 in
theorem gf_RX9_33 {p : Program} {l : Launch} {e : Env} {R : Room} {s : State} {m : MethodId} {args : Array Value} {below : List Frame} {meth : Method} {c : Code} {H : Heap} {locs : List Loc} {cells slots : Nat} {Q : State → Prop} {cc : ByteArray} {nL pc : Nat} {D : va_G} {cI cB cZ : ClassId} {ws : va_W} {rest : List Value} {ls : Array Slot} {a : Nat} {fs : List Value} {v : Value} (S : SF p m c cc nL s args RX9) (hK : KK D cI cB cZ s) (hP : va_P D vwCl ws H) (q0 : Nat) (he : ws[q0]? = some (a, .inr (10, fs))) (hv : fs[5]? = some v) (hdg : decode cc pc = .ok (.getfield 33, 3)) (kk : W p l e R s m args below meth c H locs cells slots Q (F0 m (pc + 3) ls (v :: rest))) : W p l e R s m args below meth c H locs cells slots Q (F0 m pc ls (.ref a :: rest)) :=
  va_get (C := RX9) (T := TX9) (N := 9) S.1 S.2.1 S.2.2.2.2 hin_RX9 S.2.2.2.1 hK.1 hP q0 he rfl 5 (by decide) (S.2.2.2.2 _ (wk1_4 1 rfl rfl)) (fun _ h9 => h9) hv hdg kk
set_option maxRecDepth 100000 in
theorem pf_RX9_33 {p : Program} {l : Launch} {e : Env} {R : Room} {s : State} {m : MethodId} {args : Array Value} {below : List Frame} {meth : Method} {c : Code} {H : Heap} {locs : List Loc} {cells slots : Nat} {Q : State → Prop} {cc : ByteArray} {nL pc : Nat} {D : va_G} {cI cB cZ : ClassId} {ws : va_W} {rest : List Value} {ls : Array Slot} {a : Nat} {fs : List Value} {v : Value} {A : Nat → Prop} {H0 : Heap} (S : SF p m c cc nL s args RX9) (hK : KK D cI cB cZ s) (hP : va_P D vwCl ws H) (hD : va_D A ws) (hS : va_S A H0 H locs) (q0 : Nat) (he : ws[q0]? = some (a, .inr (10, fs))) (hl : 5 < fs.length) (hn : narrow (tyX9 5) v = v) (hfit : fits (tyX9 5) v = true) (hdg : decode cc pc = .ok (.putfield 33, 3)) (kk : ∀ (H1 : Heap) (locs1 : List Loc), va_P D vwCl (ws.set q0 (a, .inr (10, fs.set 5 v))) H1 → va_D A (ws.set q0 (a, .inr (10, fs.set 5 v))) → va_S A H0 H1 locs1 → W p l e R s m args below meth c H1 locs1 cells slots Q (F0 m (pc + 3) ls rest)) : W p l e R s m args below meth c H locs cells slots Q (F0 m pc ls (v :: .ref a :: rest)) :=
  va_put (C := RX9) (T := TX9) (N := 9) S.1 S.2.1 S.2.2.2.2 hin_RX9 tyX9 tyX9_ok nmX9 S.2.2.2.1 hK.1 hP hD hS q0 he rfl 5 (by decide) (S.2.2.2.2 _ (wk1_4 1 rfl rfl)) (fun _ h9 => h9) rfl (tyX9_ok 5 (by decide)) hn hfit hl hdg kk
set_option maxRecDepth 100000 in
theorem kS_RX9_44 : CalS RX9 44 yX7_put cX7_put 3 none 3 := ⟨⟨wk3_6 3 rfl rfl, wk3_1 11 rfl rfl, wk1_0 7 rfl rfl, wk3_2 0 rfl rfl⟩, ⟨nmh_8.1, nmh_8.2, pd_69⟩⟩
set_option maxRecDepth 100000 in
theorem pf_RX9_48 {p : Program} {l : Launch} {e : Env} {R : Room} {s : State} {m : MethodId} {args : Array Value} {below : List Frame} {meth : Method} {c : Code} {H : Heap} {locs : List Loc} {cells slots : Nat} {Q : State → Prop} {cc : ByteArray} {nL pc : Nat} {D : va_G} {cI cB cZ : ClassId} {ws : va_W} {rest : List Value} {ls : Array Slot} {a : Nat} {fs : List Value} {v : Value} {A : Nat → Prop} {H0 : Heap} (S : SF p m c cc nL s args RX9) (hK : KK D cI cB cZ s) (hP : va_P D vwCl ws H) (hD : va_D A ws) (hS : va_S A H0 H locs) (q0 : Nat) (he : ws[q0]? = some (a, .inr (10, fs))) (hl : 8 < fs.length) (hn : narrow (tyX9 8) v = v) (hfit : fits (tyX9 8) v = true) (hdg : decode cc pc = .ok (.putfield 48, 3)) (kk : ∀ (H1 : Heap) (locs1 : List Loc), va_P D vwCl (ws.set q0 (a, .inr (10, fs.set 8 v))) H1 → va_D A (ws.set q0 (a, .inr (10, fs.set 8 v))) → va_S A H0 H1 locs1 → W p l e R s m args below meth c H1 locs1 cells slots Q (F0 m (pc + 3) ls rest)) : W p l e R s m args below meth c H locs cells slots Q (F0 m pc ls (v :: .ref a :: rest)) :=
  va_put (C := RX9) (T := TX9) (N := 9) S.1 S.2.1 S.2.2.2.2 hin_RX9 tyX9 tyX9_ok nmX9 S.2.2.2.1 hK.1 hP hD hS q0 he rfl 8 (by decide) (S.2.2.2.2 _ (wk1_4 4 rfl rfl)) (fun _ h9 => h9) rfl (tyX9_ok 8 (by decide)) hn hfit hl hdg kk
set_option maxRecDepth 100000 in
theorem kS_RX5_106 : CalS RX5 106 yX5_isDigit cX5_isDigit 1 (some .boolean) 1 := ⟨⟨wk3_14 2 rfl rfl, wk3_14 3 rfl rfl, wk1_0 5 rfl rfl, wk3_14 4 rfl rfl⟩, ⟨nmh_6.1, nmh_6.2, pd_15⟩⟩
set_option maxRecDepth 100000 in
theorem gf_RX5_20 {p : Program} {l : Launch} {e : Env} {R : Room} {s : State} {m : MethodId} {args : Array Value} {below : List Frame} {meth : Method} {c : Code} {H : Heap} {locs : List Loc} {cells slots : Nat} {Q : State → Prop} {cc : ByteArray} {nL pc : Nat} {D : va_G} {cI cB cZ : ClassId} {ws : va_W} {rest : List Value} {ls : Array Slot} {a : Nat} {fs : List Value} {v : Value} (S : SF p m c cc nL s args RX5) (hK : KK D cI cB cZ s) (hP : va_P D vwCl ws H) (q0 : Nat) (he : ws[q0]? = some (a, .inr (6, fs))) (hv : fs[1]? = some v) (hdg : decode cc pc = .ok (.getfield 20, 3)) (kk : W p l e R s m args below meth c H locs cells slots Q (F0 m (pc + 3) ls (v :: rest))) : W p l e R s m args below meth c H locs cells slots Q (F0 m pc ls (.ref a :: rest)) :=
  va_get (C := RX5) (T := TX5) (N := 6) S.1 S.2.1 S.2.2.2.2 hin_RX5 S.2.2.2.1 hK.1 hP q0 he rfl 1 (by decide) (S.2.2.2.2 _ (wk1_8 2 rfl rfl)) (fun _ h9 => h9) hv hdg kk
set_option maxRecDepth 100000 in
theorem kV_RX5_75 : CalV RX5 75 yX9_add cX9_add 3 (some .int) 2 := ⟨⟨wk3_14 9 rfl rfl, wk3_14 10 rfl rfl, wk3_14 11 rfl rfl, wk1_0 2 rfl rfl, wk3_15 0 rfl rfl⟩, ⟨nmh_10.1, nmh_10.2, pd_17⟩⟩
set_option maxRecDepth 100000 in
theorem kV_RX5_100 : CalV RX5 100 yJ0_indexOf_0f7a4 cJ0_indexOf_0f7a4 2 (some .int) 1 := ⟨⟨wk3_7 5 rfl rfl, wk3_7 6 rfl rfl, wk3_7 7 rfl rfl, wk1_0 6 rfl rfl, wk3_7 8 rfl rfl⟩, ⟨nmh_16.1, nmh_16.2, pd_8⟩⟩
set_option maxRecDepth 100000 in
theorem kV_RX5_109 : CalV RX5 109 yX5_readNumber cX5_readNumber 3 none 0 := ⟨⟨wk3_14 5 rfl rfl, wk3_14 7 rfl rfl, wT_sel 14 _ rfl rfl rfl, wk1_0 5 rfl rfl, wk3_14 8 rfl rfl⟩, ⟨nmh_6.1, nmh_6.2, pd_2⟩⟩
set_option maxRecDepth 100000 in
theorem kV_RX5_85 : CalV RX5 85 yX5_opens cX5_opens 2 (some .boolean) 1 := ⟨⟨wk3_13 6 rfl rfl, wk3_13 8 rfl rfl, wT_sel 12 _ rfl rfl rfl, wk1_0 5 rfl rfl, wk3_13 9 rfl rfl⟩, ⟨nmh_6.1, nmh_6.2, pd_15⟩⟩
set_option maxRecDepth 100000 in
theorem kV_RX5_56 : CalV RX5 56 yX5_readSum cX5_readSum 3 none 1 := ⟨⟨wk3_6 4 rfl rfl, wk3_6 6 rfl rfl, wT_sel 9 _ rfl rfl rfl, wk1_0 5 rfl rfl, wk3_6 7 rfl rfl⟩, ⟨nmh_6.1, nmh_6.2, pd_14⟩⟩
set_option maxRecDepth 100000 in
theorem kV_RX5_62 : CalV RX5 62 yX5_take cX5_take 2 none 1 := ⟨⟨wk3_13 10 rfl rfl, wk3_14 0 rfl rfl, wT_sel 13 _ rfl rfl rfl, wk1_0 5 rfl rfl, wk3_14 1 rfl rfl⟩, ⟨nmh_6.1, nmh_6.2, pd_5⟩⟩
set_option maxRecDepth 100000 in
theorem kV_RX5_95 : CalV RX5 95 yX5_readFactor cX5_readFactor 4 none 1 := ⟨⟨wk3_7 0 rfl rfl, wk3_7 2 rfl rfl, wT_sel 11 _ rfl rfl rfl, wk1_0 5 rfl rfl, wk3_7 3 rfl rfl⟩, ⟨nmh_6.1, nmh_6.2, pd_14⟩⟩
set_option maxRecDepth 100000 in
theorem kV_RX5_92 : CalV RX5 92 yX5_readTerm cX5_readTerm 3 none 1 := ⟨⟨wk3_6 8 rfl rfl, wk3_6 10 rfl rfl, wT_sel 10 _ rfl rfl rfl, wk1_0 5 rfl rfl, wk3_6 11 rfl rfl⟩, ⟨nmh_6.1, nmh_6.2, pd_14⟩⟩
set_option maxRecDepth 100000 in
theorem kV_RX5_89 : CalV RX5 89 yX5_readRelation cX5_readRelation 2 (some .int) 0 := ⟨⟨wk3_16 5 rfl rfl, wk3_16 7 rfl rfl, wT_sel 18 _ rfl rfl rfl, wk1_0 5 rfl rfl, wk3_16 8 rfl rfl⟩, ⟨nmh_6.1, nmh_6.2, pd_1⟩⟩
set_option maxRecDepth 100000 in
theorem kV_RX5_66 : CalV RX5 66 yX5_readCondition cX5_readCondition 3 none 1 := ⟨⟨wk3_15 5 rfl rfl, wk3_15 7 rfl rfl, wT_sel 15 _ rfl rfl rfl, wk1_0 5 rfl rfl, wk3_15 8 rfl rfl⟩, ⟨nmh_6.1, nmh_6.2, pd_14⟩⟩
set_option maxRecDepth 100000 in
theorem kV_RX5_82 : CalV RX5 82 yX5_readPiece cX5_readPiece 4 none 1 := ⟨⟨wk3_16 1 rfl rfl, wk3_16 3 rfl rfl, wT_sel 17 _ rfl rfl rfl, wk1_0 5 rfl rfl, wk3_16 4 rfl rfl⟩, ⟨nmh_6.1, nmh_6.2, pd_14⟩⟩
set_option maxRecDepth 100000 in
theorem kV_RX5_79 : CalV RX5 79 yX9_aim cX9_aim 2 none 1 := ⟨⟨wk3_16 9 rfl rfl, wk3_16 10 rfl rfl, wk3_16 11 rfl rfl, wk1_0 2 rfl rfl, wk3_17 0 rfl rfl⟩, ⟨nmh_10.1, nmh_10.2, pd_14⟩⟩
set_option maxRecDepth 100000 in
theorem kV_RX5_72 : CalV RX5 72 yX5_readPart cX5_readPart 3 none 1 := ⟨⟨wk3_15 9 rfl rfl, wk3_15 11 rfl rfl, wT_sel 16 _ rfl rfl rfl, wk1_0 5 rfl rfl, wk3_16 0 rfl rfl⟩, ⟨nmh_6.1, nmh_6.2, pd_14⟩⟩
noncomputable def sxX5_peek_44 : List UInt8 := []
noncomputable def sxX5_peek_26 : List UInt8 := 190 :: 162 :: 0 :: 15 :: 42 :: 180 :: 0 :: 9 :: 42 :: 180 :: 0 :: 31 :: 46 :: 167 :: 0 :: 4 :: 2 :: 172 :: sxX5_peek_44
theorem shX5_peek_0 : cX5_peek.data.toList.drop 0 = 42 :: 180 :: 0 :: 31 :: 155 :: 0 :: 38 :: 42 :: 180 :: 0 :: 31 :: 42 :: 180 :: 0 :: 34 :: 162 :: 0 :: 27 :: 42 :: 180 :: 0 :: 31 :: 42 :: 180 :: 0 :: 9 :: sxX5_peek_26 := rfl
theorem shX5_peek_26 : cX5_peek.data.toList.drop 26 = 190 :: 162 :: 0 :: 15 :: 42 :: 180 :: 0 :: 9 :: 42 :: 180 :: 0 :: 31 :: 46 :: 167 :: 0 :: 4 :: 2 :: 172 :: sxX5_peek_44 := aq_26 shX5_peek_0
noncomputable def sxX5_fail_30 : List UInt8 := []
noncomputable def sxX5_fail_26 : List UInt8 := 181 :: 0 :: 34 :: 177 :: sxX5_fail_30
theorem shX5_fail_0 : cX5_fail.data.toList.drop 0 = 42 :: 180 :: 0 :: 37 :: 154 :: 0 :: 25 :: 42 :: 17 :: 3 :: 232 :: 27 :: 104 :: 42 :: 180 :: 0 :: 31 :: 96 :: 181 :: 0 :: 37 :: 42 :: 42 :: 180 :: 0 :: 31 :: sxX5_fail_26 := rfl
theorem shX5_fail_26 : cX5_fail.data.toList.drop 26 = 181 :: 0 :: 34 :: 177 :: sxX5_fail_30 := aq_26 shX5_fail_0
theorem dX5_fail_29 : decode cX5_fail 29 = .ok (.return_, 1) := oc_177 29 (aq_3 shX5_fail_26)
noncomputable def sxX5_take_27 : List UInt8 := []
noncomputable def sxX5_take_26 : List UInt8 := 177 :: sxX5_take_27
theorem shX5_take_0 : cX5_take.data.toList.drop 0 = 42 :: 182 :: 0 :: 43 :: 27 :: 160 :: 0 :: 16 :: 42 :: 89 :: 180 :: 0 :: 31 :: 4 :: 96 :: 181 :: 0 :: 31 :: 167 :: 0 :: 8 :: 42 :: 4 :: 182 :: 0 :: 47 :: sxX5_take_26 := rfl
theorem shX5_take_26 : cX5_take.data.toList.drop 26 = 177 :: sxX5_take_27 := aq_26 shX5_take_0
theorem dX5_take_26 : decode cX5_take 26 = .ok (.return_, 1) := oc_177 26 shX5_take_26
noncomputable def sxX5_opens_25 : List UInt8 := []
noncomputable def sxX5_opens_24 : List UInt8 := 172 :: sxX5_opens_25
theorem shX5_opens_0 : cX5_opens.data.toList.drop 0 = 27 :: 16 :: 6 :: 161 :: 0 :: 10 :: 42 :: 8 :: 182 :: 0 :: 47 :: 3 :: 172 :: 42 :: 89 :: 180 :: 0 :: 31 :: 4 :: 96 :: 181 :: 0 :: 31 :: 4 :: sxX5_opens_24 := rfl
theorem shX5_opens_24 : cX5_opens.data.toList.drop 24 = 172 :: sxX5_opens_25 := aq_24 shX5_opens_0
theorem dX5_opens_0 : decode cX5_opens 0 = .ok (.iload_n 1, 1) := oc_27 0 shX5_opens_0
theorem dX5_opens_1 : decode cX5_opens 1 = .ok (.bipush 6, 2) := oc_16 1 (aq_1 shX5_opens_0) sgb_6
theorem dX5_opens_3 : decode cX5_opens 3 = .ok (.if_icmp .lt 10, 3) := oc_161 3 (aq_3 shX5_opens_0) sgw_0_10
noncomputable def sxX9_add_51 : List UInt8 := []
noncomputable def sxX9_add_48 : List UInt8 := 4 :: 100 :: 172 :: sxX9_add_51
noncomputable def sxX9_add_24 : List UInt8 := 180 :: 0 :: 33 :: 27 :: 16 :: 20 :: 120 :: 28 :: 128 :: 79 :: 42 :: 89 :: 180 :: 0 :: 33 :: 4 :: 96 :: 181 :: 0 :: 33 :: 42 :: 180 :: 0 :: 33 :: sxX9_add_48
theorem shX9_add_0 : cX9_add.data.toList.drop 0 = 42 :: 180 :: 0 :: 33 :: 155 :: 0 :: 30 :: 42 :: 180 :: 0 :: 33 :: 42 :: 180 :: 0 :: 17 :: 190 :: 162 :: 0 :: 18 :: 42 :: 180 :: 0 :: 17 :: 42 :: sxX9_add_24 := rfl
theorem shX9_add_24 : cX9_add.data.toList.drop 24 = 180 :: 0 :: 33 :: 27 :: 16 :: 20 :: 120 :: 28 :: 128 :: 79 :: 42 :: 89 :: 180 :: 0 :: 33 :: 4 :: 96 :: 181 :: 0 :: 33 :: 42 :: 180 :: 0 :: 33 :: sxX9_add_48 := aq_24 shX9_add_0
theorem shX9_add_48 : cX9_add.data.toList.drop 48 = 4 :: 100 :: 172 :: sxX9_add_51 := aq_24 shX9_add_24
theorem dX9_add_34 : decode cX9_add 34 = .ok (.aload_n 0, 1) := oc_42 34 (aq_10 shX9_add_24)
theorem dX9_add_35 : decode cX9_add 35 = .ok (.dup, 1) := oc_89 35 (aq_11 shX9_add_24)
theorem dX9_add_36 : decode cX9_add 36 = .ok (.getfield 33, 3) := oc_180 36 (aq_12 shX9_add_24) uw_0_33
theorem dX9_add_39 : decode cX9_add 39 = .ok (.iconst 1, 1) := oc_4 39 (aq_15 shX9_add_24)
theorem dX9_add_40 : decode cX9_add 40 = .ok (.iadd, 1) := oc_96 40 (aq_16 shX9_add_24)
theorem dX9_add_41 : decode cX9_add 41 = .ok (.putfield 33, 3) := oc_181 41 (aq_17 shX9_add_24) uw_0_33
theorem dX9_add_44 : decode cX9_add 44 = .ok (.aload_n 0, 1) := oc_42 44 (aq_20 shX9_add_24)
theorem dX9_add_45 : decode cX9_add 45 = .ok (.getfield 33, 3) := oc_180 45 (aq_21 shX9_add_24) uw_0_33
theorem dX9_add_48 : decode cX9_add 48 = .ok (.iconst 1, 1) := oc_4 48 shX9_add_48
theorem dX9_add_49 : decode cX9_add 49 = .ok (.isub, 1) := oc_100 49 (aq_1 shX9_add_48)
theorem dX9_add_50 : decode cX9_add 50 = .ok (.ireturn, 1) := oc_172 50 (aq_2 shX9_add_48)
noncomputable def sxX9_aim_25 : List UInt8 := []
noncomputable def sxX9_aim_24 : List UInt8 := 177 :: sxX9_aim_25
theorem shX9_aim_0 : cX9_aim.data.toList.drop 0 = 42 :: 180 :: 0 :: 17 :: 27 :: 42 :: 180 :: 0 :: 17 :: 27 :: 184 :: 0 :: 37 :: 18 :: 43 :: 126 :: 42 :: 180 :: 0 :: 33 :: 128 :: 184 :: 0 :: 44 :: sxX9_aim_24 := rfl
theorem shX9_aim_24 : cX9_aim.data.toList.drop 24 = 177 :: sxX9_aim_25 := aq_24 shX9_aim_0
noncomputable def sxX9_startSum_16 : List UInt8 := []
theorem shX9_startSum_0 : cX9_startSum.data.toList.drop 0 = 42 :: 180 :: 0 :: 21 :: 42 :: 180 :: 0 :: 48 :: 42 :: 180 :: 0 :: 33 :: 184 :: 0 :: 44 :: 177 :: sxX9_startSum_16 := rfl
noncomputable def sxX9_startCondition_16 : List UInt8 := []
theorem shX9_startCondition_0 : cX9_startCondition.data.toList.drop 0 = 42 :: 180 :: 0 :: 24 :: 42 :: 180 :: 0 :: 48 :: 42 :: 180 :: 0 :: 33 :: 184 :: 0 :: 44 :: 177 :: sxX9_startCondition_16 := rfl
noncomputable def sxX9_endClause_26 : List UInt8 := []
noncomputable def sxX9_endClause_25 : List UInt8 := 177 :: sxX9_endClause_26
theorem shX9_endClause_0 : cX9_endClause.data.toList.drop 0 = 42 :: 180 :: 0 :: 27 :: 42 :: 180 :: 0 :: 48 :: 42 :: 180 :: 0 :: 33 :: 184 :: 0 :: 44 :: 42 :: 89 :: 180 :: 0 :: 48 :: 4 :: 96 :: 181 :: 0 :: 48 :: sxX9_endClause_25 := rfl
theorem shX9_endClause_25 : cX9_endClause.data.toList.drop 25 = 177 :: sxX9_endClause_26 := aq_25 shX9_endClause_0
noncomputable def sxX5_isDigit_18 : List UInt8 := []
theorem shX5_isDigit_0 : cX5_isDigit.data.toList.drop 0 = 26 :: 16 :: 48 :: 161 :: 0 :: 13 :: 26 :: 16 :: 57 :: 163 :: 0 :: 7 :: 4 :: 167 :: 0 :: 4 :: 3 :: 172 :: sxX5_isDigit_18 := rfl
noncomputable def sxX5_readRelation_66 : List UInt8 := []
noncomputable def sxX5_readRelation_49 : List UInt8 := 167 :: 0 :: 16 :: 27 :: 16 :: 62 :: 160 :: 0 :: 8 :: 16 :: 9 :: 167 :: 0 :: 5 :: 16 :: 10 :: 172 :: sxX5_readRelation_66
noncomputable def sxX5_readRelation_24 : List UInt8 := 89 :: 180 :: 0 :: 31 :: 4 :: 96 :: 181 :: 0 :: 31 :: 167 :: 0 :: 8 :: 42 :: 4 :: 182 :: 0 :: 47 :: 27 :: 16 :: 60 :: 160 :: 0 :: 8 :: 16 :: 8 :: sxX5_readRelation_49
theorem shX5_readRelation_0 : cX5_readRelation.data.toList.drop 0 = 42 :: 182 :: 0 :: 43 :: 60 :: 27 :: 16 :: 60 :: 159 :: 0 :: 15 :: 27 :: 16 :: 62 :: 159 :: 0 :: 9 :: 27 :: 16 :: 61 :: 160 :: 0 :: 16 :: 42 :: sxX5_readRelation_24 := rfl
theorem shX5_readRelation_24 : cX5_readRelation.data.toList.drop 24 = 89 :: 180 :: 0 :: 31 :: 4 :: 96 :: 181 :: 0 :: 31 :: 167 :: 0 :: 8 :: 42 :: 4 :: 182 :: 0 :: 47 :: 27 :: 16 :: 60 :: 160 :: 0 :: 8 :: 16 :: 8 :: sxX5_readRelation_49 := aq_24 shX5_readRelation_0
theorem shX5_readRelation_49 : cX5_readRelation.data.toList.drop 49 = 167 :: 0 :: 16 :: 27 :: 16 :: 62 :: 160 :: 0 :: 8 :: 16 :: 9 :: 167 :: 0 :: 5 :: 16 :: 10 :: 172 :: sxX5_readRelation_66 := aq_25 shX5_readRelation_24
theorem dX5_readRelation_23 : decode cX5_readRelation 23 = .ok (.aload_n 0, 1) := oc_42 23 (aq_23 shX5_readRelation_0)
theorem dX5_readRelation_24 : decode cX5_readRelation 24 = .ok (.dup, 1) := oc_89 24 shX5_readRelation_24
theorem dX5_readRelation_25 : decode cX5_readRelation 25 = .ok (.getfield 31, 3) := oc_180 25 (aq_1 shX5_readRelation_24) uw_0_31
theorem dX5_readRelation_28 : decode cX5_readRelation 28 = .ok (.iconst 1, 1) := oc_4 28 (aq_4 shX5_readRelation_24)
theorem dX5_readRelation_29 : decode cX5_readRelation 29 = .ok (.iadd, 1) := oc_96 29 (aq_5 shX5_readRelation_24)
theorem dX5_readRelation_30 : decode cX5_readRelation 30 = .ok (.putfield 31, 3) := oc_181 30 (aq_6 shX5_readRelation_24) uw_0_31
theorem dX5_readRelation_33 : decode cX5_readRelation 33 = .ok (.goto 8, 3) := oc_167 33 (aq_9 shX5_readRelation_24) sgw_0_8
theorem dX5_readRelation_41 : decode cX5_readRelation 41 = .ok (.iload_n 1, 1) := oc_27 41 (aq_17 shX5_readRelation_24)
theorem dX5_readRelation_42 : decode cX5_readRelation 42 = .ok (.bipush 60, 2) := oc_16 42 (aq_18 shX5_readRelation_24) sgb_60
theorem dX5_readRelation_44 : decode cX5_readRelation 44 = .ok (.if_icmp .ne 8, 3) := oc_160 44 (aq_20 shX5_readRelation_24) sgw_0_8
theorem dX5_readRelation_47 : decode cX5_readRelation 47 = .ok (.bipush 8, 2) := oc_16 47 (aq_23 shX5_readRelation_24) sgb_8
theorem dX5_readRelation_49 : decode cX5_readRelation 49 = .ok (.goto 16, 3) := oc_167 49 shX5_readRelation_49 sgw_0_16
theorem dX5_readRelation_65 : decode cX5_readRelation 65 = .ok (.ireturn, 1) := oc_172 65 (aq_16 shX5_readRelation_49)
theorem dX5_readRelation_52 : decode cX5_readRelation 52 = .ok (.iload_n 1, 1) := oc_27 52 (aq_3 shX5_readRelation_49)
theorem dX5_readRelation_53 : decode cX5_readRelation 53 = .ok (.bipush 62, 2) := oc_16 53 (aq_4 shX5_readRelation_49) sgb_62
theorem dX5_readRelation_55 : decode cX5_readRelation 55 = .ok (.if_icmp .ne 8, 3) := oc_160 55 (aq_6 shX5_readRelation_49) sgw_0_8
theorem dX5_readRelation_58 : decode cX5_readRelation 58 = .ok (.bipush 9, 2) := oc_16 58 (aq_9 shX5_readRelation_49) sgb_9
theorem dX5_readRelation_60 : decode cX5_readRelation 60 = .ok (.goto 5, 3) := oc_167 60 (aq_11 shX5_readRelation_49) sgw_0_5
theorem dX5_readRelation_63 : decode cX5_readRelation 63 = .ok (.bipush 10, 2) := oc_16 63 (aq_14 shX5_readRelation_49) sgb_10
noncomputable def sxX5_readNumber_75 : List UInt8 := []
noncomputable def sxX5_readNumber_73 : List UInt8 := 87 :: 177 :: sxX5_readNumber_75
noncomputable def sxX5_readNumber_49 : List UInt8 := 42 :: 182 :: 0 :: 43 :: 184 :: 0 :: 106 :: 153 :: 0 :: 8 :: 42 :: 5 :: 182 :: 0 :: 47 :: 42 :: 180 :: 0 :: 20 :: 4 :: 27 :: 182 :: 0 :: 75 :: sxX5_readNumber_73
noncomputable def sxX5_readNumber_24 : List UInt8 := 42 :: 182 :: 0 :: 43 :: 96 :: 16 :: 48 :: 100 :: 60 :: 42 :: 89 :: 180 :: 0 :: 31 :: 4 :: 96 :: 181 :: 0 :: 31 :: 132 :: 2 :: 1 :: 167 :: 255 :: 214 :: sxX5_readNumber_49
theorem shX5_readNumber_0 : cX5_readNumber.data.toList.drop 0 = 3 :: 60 :: 3 :: 61 :: 28 :: 16 :: 6 :: 162 :: 0 :: 42 :: 42 :: 182 :: 0 :: 43 :: 184 :: 0 :: 106 :: 153 :: 0 :: 32 :: 16 :: 10 :: 27 :: 104 :: sxX5_readNumber_24 := rfl
theorem shX5_readNumber_24 : cX5_readNumber.data.toList.drop 24 = 42 :: 182 :: 0 :: 43 :: 96 :: 16 :: 48 :: 100 :: 60 :: 42 :: 89 :: 180 :: 0 :: 31 :: 4 :: 96 :: 181 :: 0 :: 31 :: 132 :: 2 :: 1 :: 167 :: 255 :: 214 :: sxX5_readNumber_49 := aq_24 shX5_readNumber_0
theorem shX5_readNumber_49 : cX5_readNumber.data.toList.drop 49 = 42 :: 182 :: 0 :: 43 :: 184 :: 0 :: 106 :: 153 :: 0 :: 8 :: 42 :: 5 :: 182 :: 0 :: 47 :: 42 :: 180 :: 0 :: 20 :: 4 :: 27 :: 182 :: 0 :: 75 :: sxX5_readNumber_73 := aq_25 shX5_readNumber_24
theorem shX5_readNumber_73 : cX5_readNumber.data.toList.drop 73 = 87 :: 177 :: sxX5_readNumber_75 := aq_24 shX5_readNumber_49
theorem dX5_readNumber_49 : decode cX5_readNumber 49 = .ok (.aload_n 0, 1) := oc_42 49 shX5_readNumber_49
theorem dX5_readNumber_50 : decode cX5_readNumber 50 = .ok (.invokevirtual 43, 3) := oc_182 50 (aq_1 shX5_readNumber_49) uw_0_43
theorem dX5_readNumber_53 : decode cX5_readNumber 53 = .ok (.invokestatic 106, 3) := oc_184 53 (aq_4 shX5_readNumber_49) uw_0_106
theorem dX5_readNumber_56 : decode cX5_readNumber 56 = .ok (.ifCond .eq 8, 3) := oc_153 56 (aq_7 shX5_readNumber_49) sgw_0_8
theorem dX5_readNumber_59 : decode cX5_readNumber 59 = .ok (.aload_n 0, 1) := oc_42 59 (aq_10 shX5_readNumber_49)
theorem dX5_readNumber_60 : decode cX5_readNumber 60 = .ok (.iconst 2, 1) := oc_5 60 (aq_11 shX5_readNumber_49)
theorem dX5_readNumber_61 : decode cX5_readNumber 61 = .ok (.invokevirtual 47, 3) := oc_182 61 (aq_12 shX5_readNumber_49) uw_0_47
theorem dX5_readNumber_64 : decode cX5_readNumber 64 = .ok (.aload_n 0, 1) := oc_42 64 (aq_15 shX5_readNumber_49)
theorem dX5_readNumber_65 : decode cX5_readNumber 65 = .ok (.getfield 20, 3) := oc_180 65 (aq_16 shX5_readNumber_49) uw_0_20
theorem dX5_readNumber_68 : decode cX5_readNumber 68 = .ok (.iconst 1, 1) := oc_4 68 (aq_19 shX5_readNumber_49)
theorem dX5_readNumber_69 : decode cX5_readNumber 69 = .ok (.iload_n 1, 1) := oc_27 69 (aq_20 shX5_readNumber_49)
theorem dX5_readNumber_70 : decode cX5_readNumber 70 = .ok (.invokevirtual 75, 3) := oc_182 70 (aq_21 shX5_readNumber_49) uw_0_75
theorem dX5_readNumber_73 : decode cX5_readNumber 73 = .ok (.pop, 1) := oc_87 73 shX5_readNumber_73
theorem dX5_readNumber_74 : decode cX5_readNumber 74 = .ok (.return_, 1) := oc_177 74 (aq_1 shX5_readNumber_73)
theorem dX5_readNumber_17 : decode cX5_readNumber 17 = .ok (.ifCond .eq 32, 3) := oc_153 17 (aq_17 shX5_readNumber_0) sgw_0_32
noncomputable def sxX5_readFactor_99 : List UInt8 := []
noncomputable def sxX5_readFactor_75 : List UInt8 := 4 :: 96 :: 181 :: 0 :: 31 :: 42 :: 180 :: 0 :: 20 :: 5 :: 29 :: 182 :: 0 :: 75 :: 87 :: 167 :: 0 :: 8 :: 42 :: 4 :: 182 :: 0 :: 47 :: 177 :: sxX5_readFactor_99
noncomputable def sxX5_readFactor_49 : List UInt8 := 167 :: 0 :: 49 :: 28 :: 184 :: 0 :: 106 :: 153 :: 0 :: 10 :: 42 :: 182 :: 0 :: 109 :: 167 :: 0 :: 35 :: 29 :: 155 :: 0 :: 26 :: 42 :: 89 :: 180 :: 0 :: 31 :: sxX5_readFactor_75
noncomputable def sxX5_readFactor_25 : List UInt8 := 160 :: 0 :: 27 :: 42 :: 27 :: 182 :: 0 :: 85 :: 153 :: 0 :: 65 :: 42 :: 27 :: 4 :: 96 :: 182 :: 0 :: 56 :: 42 :: 16 :: 93 :: 182 :: 0 :: 62 :: sxX5_readFactor_49
theorem shX5_readFactor_0 : cX5_readFactor.data.toList.drop 0 = 42 :: 182 :: 0 :: 43 :: 61 :: 28 :: 2 :: 160 :: 0 :: 7 :: 2 :: 167 :: 0 :: 10 :: 18 :: 98 :: 28 :: 146 :: 182 :: 0 :: 100 :: 62 :: 28 :: 16 :: 91 :: sxX5_readFactor_25 := rfl
theorem shX5_readFactor_25 : cX5_readFactor.data.toList.drop 25 = 160 :: 0 :: 27 :: 42 :: 27 :: 182 :: 0 :: 85 :: 153 :: 0 :: 65 :: 42 :: 27 :: 4 :: 96 :: 182 :: 0 :: 56 :: 42 :: 16 :: 93 :: 182 :: 0 :: 62 :: sxX5_readFactor_49 := aq_25 shX5_readFactor_0
theorem shX5_readFactor_49 : cX5_readFactor.data.toList.drop 49 = 167 :: 0 :: 49 :: 28 :: 184 :: 0 :: 106 :: 153 :: 0 :: 10 :: 42 :: 182 :: 0 :: 109 :: 167 :: 0 :: 35 :: 29 :: 155 :: 0 :: 26 :: 42 :: 89 :: 180 :: 0 :: 31 :: sxX5_readFactor_75 := aq_24 shX5_readFactor_25
theorem shX5_readFactor_75 : cX5_readFactor.data.toList.drop 75 = 4 :: 96 :: 181 :: 0 :: 31 :: 42 :: 180 :: 0 :: 20 :: 5 :: 29 :: 182 :: 0 :: 75 :: 87 :: 167 :: 0 :: 8 :: 42 :: 4 :: 182 :: 0 :: 47 :: 177 :: sxX5_readFactor_99 := aq_26 shX5_readFactor_49
theorem dX5_readFactor_0 : decode cX5_readFactor 0 = .ok (.aload_n 0, 1) := oc_42 0 shX5_readFactor_0
theorem dX5_readFactor_1 : decode cX5_readFactor 1 = .ok (.invokevirtual 43, 3) := oc_182 1 (aq_1 shX5_readFactor_0) uw_0_43
theorem dX5_readFactor_4 : decode cX5_readFactor 4 = .ok (.istore_n 2, 1) := oc_61 4 (aq_4 shX5_readFactor_0)
theorem dX5_readFactor_5 : decode cX5_readFactor 5 = .ok (.iload_n 2, 1) := oc_28 5 (aq_5 shX5_readFactor_0)
theorem dX5_readFactor_6 : decode cX5_readFactor 6 = .ok (.iconst (-1), 1) := oc_2 6 (aq_6 shX5_readFactor_0)
theorem dX5_readFactor_7 : decode cX5_readFactor 7 = .ok (.if_icmp .ne 7, 3) := oc_160 7 (aq_7 shX5_readFactor_0) sgw_0_7
theorem dX5_readFactor_14 : decode cX5_readFactor 14 = .ok (.ldc 98, 2) := oc_18 14 (aq_14 shX5_readFactor_0) ub_98
theorem dX5_readFactor_16 : decode cX5_readFactor 16 = .ok (.iload_n 2, 1) := oc_28 16 (aq_16 shX5_readFactor_0)
theorem dX5_readFactor_17 : decode cX5_readFactor 17 = .ok (.i2c, 1) := oc_146 17 (aq_17 shX5_readFactor_0)
theorem dX5_readFactor_18 : decode cX5_readFactor 18 = .ok (.invokevirtual 100, 3) := oc_182 18 (aq_18 shX5_readFactor_0) uw_0_100
theorem dX5_readFactor_21 : decode cX5_readFactor 21 = .ok (.istore_n 3, 1) := oc_62 21 (aq_21 shX5_readFactor_0)
theorem dX5_readFactor_22 : decode cX5_readFactor 22 = .ok (.iload_n 2, 1) := oc_28 22 (aq_22 shX5_readFactor_0)
theorem dX5_readFactor_23 : decode cX5_readFactor 23 = .ok (.bipush 91, 2) := oc_16 23 (aq_23 shX5_readFactor_0) sgb_91
theorem dX5_readFactor_25 : decode cX5_readFactor 25 = .ok (.if_icmp .ne 27, 3) := oc_160 25 shX5_readFactor_25 sgw_0_27
theorem dX5_readFactor_52 : decode cX5_readFactor 52 = .ok (.iload_n 2, 1) := oc_28 52 (aq_3 shX5_readFactor_49)
theorem dX5_readFactor_53 : decode cX5_readFactor 53 = .ok (.invokestatic 106, 3) := oc_184 53 (aq_4 shX5_readFactor_49) uw_0_106
theorem dX5_readFactor_56 : decode cX5_readFactor 56 = .ok (.ifCond .eq 10, 3) := oc_153 56 (aq_7 shX5_readFactor_49) sgw_0_10
theorem dX5_readFactor_59 : decode cX5_readFactor 59 = .ok (.aload_n 0, 1) := oc_42 59 (aq_10 shX5_readFactor_49)
theorem dX5_readFactor_60 : decode cX5_readFactor 60 = .ok (.invokevirtual 109, 3) := oc_182 60 (aq_11 shX5_readFactor_49) uw_0_109
theorem dX5_readFactor_63 : decode cX5_readFactor 63 = .ok (.goto 35, 3) := oc_167 63 (aq_14 shX5_readFactor_49) sgw_0_35
theorem dX5_readFactor_98 : decode cX5_readFactor 98 = .ok (.return_, 1) := oc_177 98 (aq_23 shX5_readFactor_75)
theorem dX5_readFactor_66 : decode cX5_readFactor 66 = .ok (.iload_n 3, 1) := oc_29 66 (aq_17 shX5_readFactor_49)
theorem dX5_readFactor_67 : decode cX5_readFactor 67 = .ok (.ifCond .lt 26, 3) := oc_155 67 (aq_18 shX5_readFactor_49) sgw_0_26
theorem dX5_readFactor_93 : decode cX5_readFactor 93 = .ok (.aload_n 0, 1) := oc_42 93 (aq_18 shX5_readFactor_75)
theorem dX5_readFactor_94 : decode cX5_readFactor 94 = .ok (.iconst 1, 1) := oc_4 94 (aq_19 shX5_readFactor_75)
theorem dX5_readFactor_95 : decode cX5_readFactor 95 = .ok (.invokevirtual 47, 3) := oc_182 95 (aq_20 shX5_readFactor_75) uw_0_47
theorem dX5_readFactor_70 : decode cX5_readFactor 70 = .ok (.aload_n 0, 1) := oc_42 70 (aq_21 shX5_readFactor_49)
theorem dX5_readFactor_71 : decode cX5_readFactor 71 = .ok (.dup, 1) := oc_89 71 (aq_22 shX5_readFactor_49)
theorem dX5_readFactor_72 : decode cX5_readFactor 72 = .ok (.getfield 31, 3) := oc_180 72 (aq_23 shX5_readFactor_49) uw_0_31
theorem dX5_readFactor_75 : decode cX5_readFactor 75 = .ok (.iconst 1, 1) := oc_4 75 shX5_readFactor_75
theorem dX5_readFactor_76 : decode cX5_readFactor 76 = .ok (.iadd, 1) := oc_96 76 (aq_1 shX5_readFactor_75)
theorem dX5_readFactor_77 : decode cX5_readFactor 77 = .ok (.putfield 31, 3) := oc_181 77 (aq_2 shX5_readFactor_75) uw_0_31
theorem dX5_readFactor_80 : decode cX5_readFactor 80 = .ok (.aload_n 0, 1) := oc_42 80 (aq_5 shX5_readFactor_75)
theorem dX5_readFactor_81 : decode cX5_readFactor 81 = .ok (.getfield 20, 3) := oc_180 81 (aq_6 shX5_readFactor_75) uw_0_20
theorem dX5_readFactor_84 : decode cX5_readFactor 84 = .ok (.iconst 2, 1) := oc_5 84 (aq_9 shX5_readFactor_75)
theorem dX5_readFactor_85 : decode cX5_readFactor 85 = .ok (.iload_n 3, 1) := oc_29 85 (aq_10 shX5_readFactor_75)
theorem dX5_readFactor_86 : decode cX5_readFactor 86 = .ok (.invokevirtual 75, 3) := oc_182 86 (aq_11 shX5_readFactor_75) uw_0_75
theorem dX5_readFactor_89 : decode cX5_readFactor 89 = .ok (.pop, 1) := oc_87 89 (aq_14 shX5_readFactor_75)
theorem dX5_readFactor_90 : decode cX5_readFactor 90 = .ok (.goto 8, 3) := oc_167 90 (aq_15 shX5_readFactor_75) sgw_0_8
theorem dX5_readFactor_28 : decode cX5_readFactor 28 = .ok (.aload_n 0, 1) := oc_42 28 (aq_3 shX5_readFactor_25)
theorem dX5_readFactor_29 : decode cX5_readFactor 29 = .ok (.iload_n 1, 1) := oc_27 29 (aq_4 shX5_readFactor_25)
theorem dX5_readFactor_30 : decode cX5_readFactor 30 = .ok (.invokevirtual 85, 3) := oc_182 30 (aq_5 shX5_readFactor_25) uw_0_85
theorem dX5_readFactor_33 : decode cX5_readFactor 33 = .ok (.ifCond .eq 65, 3) := oc_153 33 (aq_8 shX5_readFactor_25) sgw_0_65
theorem dX5_readFactor_10 : decode cX5_readFactor 10 = .ok (.iconst (-1), 1) := oc_2 10 (aq_10 shX5_readFactor_0)
theorem dX5_readFactor_11 : decode cX5_readFactor 11 = .ok (.goto 10, 3) := oc_167 11 (aq_11 shX5_readFactor_0) sgw_0_10
noncomputable def sxX5_readTerm_99 : List UInt8 := []
noncomputable def sxX5_readTerm_98 : List UInt8 := 177 :: sxX5_readTerm_99
noncomputable def sxX5_readTerm_73 : List UInt8 := 8 :: 167 :: 0 :: 16 :: 28 :: 16 :: 47 :: 160 :: 0 :: 8 :: 16 :: 6 :: 167 :: 0 :: 5 :: 16 :: 7 :: 3 :: 182 :: 0 :: 75 :: 87 :: 167 :: 255 :: 166 :: sxX5_readTerm_98
noncomputable def sxX5_readTerm_49 : List UInt8 := 89 :: 180 :: 0 :: 31 :: 4 :: 96 :: 181 :: 0 :: 31 :: 42 :: 27 :: 182 :: 0 :: 95 :: 42 :: 180 :: 0 :: 20 :: 28 :: 16 :: 42 :: 160 :: 0 :: 7 :: sxX5_readTerm_73
noncomputable def sxX5_readTerm_25 : List UInt8 := 42 :: 182 :: 0 :: 43 :: 16 :: 47 :: 159 :: 0 :: 12 :: 42 :: 182 :: 0 :: 43 :: 16 :: 37 :: 160 :: 0 :: 58 :: 42 :: 182 :: 0 :: 43 :: 61 :: 42 :: sxX5_readTerm_49
theorem shX5_readTerm_0 : cX5_readTerm.data.toList.drop 0 = 42 :: 27 :: 182 :: 0 :: 95 :: 42 :: 180 :: 0 :: 31 :: 42 :: 180 :: 0 :: 34 :: 162 :: 0 :: 85 :: 42 :: 182 :: 0 :: 43 :: 16 :: 42 :: 159 :: 0 :: 21 :: sxX5_readTerm_25 := rfl
theorem shX5_readTerm_25 : cX5_readTerm.data.toList.drop 25 = 42 :: 182 :: 0 :: 43 :: 16 :: 47 :: 159 :: 0 :: 12 :: 42 :: 182 :: 0 :: 43 :: 16 :: 37 :: 160 :: 0 :: 58 :: 42 :: 182 :: 0 :: 43 :: 61 :: 42 :: sxX5_readTerm_49 := aq_25 shX5_readTerm_0
theorem shX5_readTerm_49 : cX5_readTerm.data.toList.drop 49 = 89 :: 180 :: 0 :: 31 :: 4 :: 96 :: 181 :: 0 :: 31 :: 42 :: 27 :: 182 :: 0 :: 95 :: 42 :: 180 :: 0 :: 20 :: 28 :: 16 :: 42 :: 160 :: 0 :: 7 :: sxX5_readTerm_73 := aq_24 shX5_readTerm_25
theorem shX5_readTerm_73 : cX5_readTerm.data.toList.drop 73 = 8 :: 167 :: 0 :: 16 :: 28 :: 16 :: 47 :: 160 :: 0 :: 8 :: 16 :: 6 :: 167 :: 0 :: 5 :: 16 :: 7 :: 3 :: 182 :: 0 :: 75 :: 87 :: 167 :: 255 :: 166 :: sxX5_readTerm_98 := aq_24 shX5_readTerm_49
theorem shX5_readTerm_98 : cX5_readTerm.data.toList.drop 98 = 177 :: sxX5_readTerm_99 := aq_25 shX5_readTerm_73
theorem dX5_readTerm_98 : decode cX5_readTerm 98 = .ok (.return_, 1) := oc_177 98 shX5_readTerm_98
theorem dX5_readTerm_43 : decode cX5_readTerm 43 = .ok (.aload_n 0, 1) := oc_42 43 (aq_18 shX5_readTerm_25)
theorem dX5_readTerm_44 : decode cX5_readTerm 44 = .ok (.invokevirtual 43, 3) := oc_182 44 (aq_19 shX5_readTerm_25) uw_0_43
theorem dX5_readTerm_47 : decode cX5_readTerm 47 = .ok (.istore_n 2, 1) := oc_61 47 (aq_22 shX5_readTerm_25)
theorem dX5_readTerm_48 : decode cX5_readTerm 48 = .ok (.aload_n 0, 1) := oc_42 48 (aq_23 shX5_readTerm_25)
theorem dX5_readTerm_49 : decode cX5_readTerm 49 = .ok (.dup, 1) := oc_89 49 shX5_readTerm_49
theorem dX5_readTerm_50 : decode cX5_readTerm 50 = .ok (.getfield 31, 3) := oc_180 50 (aq_1 shX5_readTerm_49) uw_0_31
theorem dX5_readTerm_53 : decode cX5_readTerm 53 = .ok (.iconst 1, 1) := oc_4 53 (aq_4 shX5_readTerm_49)
theorem dX5_readTerm_54 : decode cX5_readTerm 54 = .ok (.iadd, 1) := oc_96 54 (aq_5 shX5_readTerm_49)
theorem dX5_readTerm_55 : decode cX5_readTerm 55 = .ok (.putfield 31, 3) := oc_181 55 (aq_6 shX5_readTerm_49) uw_0_31
theorem dX5_readTerm_58 : decode cX5_readTerm 58 = .ok (.aload_n 0, 1) := oc_42 58 (aq_9 shX5_readTerm_49)
theorem dX5_readTerm_59 : decode cX5_readTerm 59 = .ok (.iload_n 1, 1) := oc_27 59 (aq_10 shX5_readTerm_49)
theorem dX5_readTerm_60 : decode cX5_readTerm 60 = .ok (.invokevirtual 95, 3) := oc_182 60 (aq_11 shX5_readTerm_49) uw_0_95
theorem dX5_readTerm_63 : decode cX5_readTerm 63 = .ok (.aload_n 0, 1) := oc_42 63 (aq_14 shX5_readTerm_49)
theorem dX5_readTerm_64 : decode cX5_readTerm 64 = .ok (.getfield 20, 3) := oc_180 64 (aq_15 shX5_readTerm_49) uw_0_20
theorem dX5_readTerm_67 : decode cX5_readTerm 67 = .ok (.iload_n 2, 1) := oc_28 67 (aq_18 shX5_readTerm_49)
theorem dX5_readTerm_68 : decode cX5_readTerm 68 = .ok (.bipush 42, 2) := oc_16 68 (aq_19 shX5_readTerm_49) sgb_42
theorem dX5_readTerm_70 : decode cX5_readTerm 70 = .ok (.if_icmp .ne 7, 3) := oc_160 70 (aq_21 shX5_readTerm_49) sgw_0_7
theorem dX5_readTerm_77 : decode cX5_readTerm 77 = .ok (.iload_n 2, 1) := oc_28 77 (aq_4 shX5_readTerm_73)
theorem dX5_readTerm_78 : decode cX5_readTerm 78 = .ok (.bipush 47, 2) := oc_16 78 (aq_5 shX5_readTerm_73) sgb_47
theorem dX5_readTerm_80 : decode cX5_readTerm 80 = .ok (.if_icmp .ne 8, 3) := oc_160 80 (aq_7 shX5_readTerm_73) sgw_0_8
theorem dX5_readTerm_88 : decode cX5_readTerm 88 = .ok (.bipush 7, 2) := oc_16 88 (aq_15 shX5_readTerm_73) sgb_7
theorem dX5_readTerm_90 : decode cX5_readTerm 90 = .ok (.iconst 0, 1) := oc_3 90 (aq_17 shX5_readTerm_73)
theorem dX5_readTerm_91 : decode cX5_readTerm 91 = .ok (.invokevirtual 75, 3) := oc_182 91 (aq_18 shX5_readTerm_73) uw_0_75
theorem dX5_readTerm_94 : decode cX5_readTerm 94 = .ok (.pop, 1) := oc_87 94 (aq_21 shX5_readTerm_73)
theorem dX5_readTerm_95 : decode cX5_readTerm 95 = .ok (.goto (-90), 3) := oc_167 95 (aq_22 shX5_readTerm_73) sgw_255_166
theorem dX5_readTerm_83 : decode cX5_readTerm 83 = .ok (.bipush 6, 2) := oc_16 83 (aq_10 shX5_readTerm_73) sgb_6
theorem dX5_readTerm_85 : decode cX5_readTerm 85 = .ok (.goto 5, 3) := oc_167 85 (aq_12 shX5_readTerm_73) sgw_0_5
theorem dX5_readTerm_73 : decode cX5_readTerm 73 = .ok (.iconst 5, 1) := oc_8 73 shX5_readTerm_73
theorem dX5_readTerm_74 : decode cX5_readTerm 74 = .ok (.goto 16, 3) := oc_167 74 (aq_1 shX5_readTerm_73) sgw_0_16
noncomputable def sxX5_readSum_78 : List UInt8 := []
noncomputable def sxX5_readSum_73 : List UInt8 := 87 :: 167 :: 255 :: 187 :: 177 :: sxX5_readSum_78
noncomputable def sxX5_readSum_49 : List UInt8 := 42 :: 89 :: 180 :: 0 :: 31 :: 4 :: 96 :: 181 :: 0 :: 31 :: 42 :: 27 :: 182 :: 0 :: 92 :: 42 :: 180 :: 0 :: 20 :: 28 :: 3 :: 182 :: 0 :: 75 :: sxX5_readSum_73
noncomputable def sxX5_readSum_25 : List UInt8 := 42 :: 182 :: 0 :: 43 :: 16 :: 45 :: 160 :: 0 :: 46 :: 42 :: 182 :: 0 :: 43 :: 16 :: 43 :: 160 :: 0 :: 7 :: 6 :: 167 :: 0 :: 4 :: 7 :: 61 :: sxX5_readSum_49
theorem shX5_readSum_0 : cX5_readSum.data.toList.drop 0 = 42 :: 27 :: 182 :: 0 :: 92 :: 42 :: 180 :: 0 :: 31 :: 42 :: 180 :: 0 :: 34 :: 162 :: 0 :: 64 :: 42 :: 182 :: 0 :: 43 :: 16 :: 43 :: 159 :: 0 :: 12 :: sxX5_readSum_25 := rfl
theorem shX5_readSum_25 : cX5_readSum.data.toList.drop 25 = 42 :: 182 :: 0 :: 43 :: 16 :: 45 :: 160 :: 0 :: 46 :: 42 :: 182 :: 0 :: 43 :: 16 :: 43 :: 160 :: 0 :: 7 :: 6 :: 167 :: 0 :: 4 :: 7 :: 61 :: sxX5_readSum_49 := aq_25 shX5_readSum_0
theorem shX5_readSum_49 : cX5_readSum.data.toList.drop 49 = 42 :: 89 :: 180 :: 0 :: 31 :: 4 :: 96 :: 181 :: 0 :: 31 :: 42 :: 27 :: 182 :: 0 :: 92 :: 42 :: 180 :: 0 :: 20 :: 28 :: 3 :: 182 :: 0 :: 75 :: sxX5_readSum_73 := aq_24 shX5_readSum_25
theorem shX5_readSum_73 : cX5_readSum.data.toList.drop 73 = 87 :: 167 :: 255 :: 187 :: 177 :: sxX5_readSum_78 := aq_24 shX5_readSum_49
theorem dX5_readSum_77 : decode cX5_readSum 77 = .ok (.return_, 1) := oc_177 77 (aq_4 shX5_readSum_73)
theorem dX5_readSum_34 : decode cX5_readSum 34 = .ok (.aload_n 0, 1) := oc_42 34 (aq_9 shX5_readSum_25)
theorem dX5_readSum_35 : decode cX5_readSum 35 = .ok (.invokevirtual 43, 3) := oc_182 35 (aq_10 shX5_readSum_25) uw_0_43
theorem dX5_readSum_38 : decode cX5_readSum 38 = .ok (.bipush 43, 2) := oc_16 38 (aq_13 shX5_readSum_25) sgb_43
theorem dX5_readSum_40 : decode cX5_readSum 40 = .ok (.if_icmp .ne 7, 3) := oc_160 40 (aq_15 shX5_readSum_25) sgw_0_7
theorem dX5_readSum_48 : decode cX5_readSum 48 = .ok (.istore_n 2, 1) := oc_61 48 (aq_23 shX5_readSum_25)
theorem dX5_readSum_49 : decode cX5_readSum 49 = .ok (.aload_n 0, 1) := oc_42 49 shX5_readSum_49
theorem dX5_readSum_50 : decode cX5_readSum 50 = .ok (.dup, 1) := oc_89 50 (aq_1 shX5_readSum_49)
theorem dX5_readSum_51 : decode cX5_readSum 51 = .ok (.getfield 31, 3) := oc_180 51 (aq_2 shX5_readSum_49) uw_0_31
theorem dX5_readSum_54 : decode cX5_readSum 54 = .ok (.iconst 1, 1) := oc_4 54 (aq_5 shX5_readSum_49)
theorem dX5_readSum_55 : decode cX5_readSum 55 = .ok (.iadd, 1) := oc_96 55 (aq_6 shX5_readSum_49)
theorem dX5_readSum_56 : decode cX5_readSum 56 = .ok (.putfield 31, 3) := oc_181 56 (aq_7 shX5_readSum_49) uw_0_31
theorem dX5_readSum_59 : decode cX5_readSum 59 = .ok (.aload_n 0, 1) := oc_42 59 (aq_10 shX5_readSum_49)
theorem dX5_readSum_60 : decode cX5_readSum 60 = .ok (.iload_n 1, 1) := oc_27 60 (aq_11 shX5_readSum_49)
theorem dX5_readSum_61 : decode cX5_readSum 61 = .ok (.invokevirtual 92, 3) := oc_182 61 (aq_12 shX5_readSum_49) uw_0_92
theorem dX5_readSum_64 : decode cX5_readSum 64 = .ok (.aload_n 0, 1) := oc_42 64 (aq_15 shX5_readSum_49)
theorem dX5_readSum_65 : decode cX5_readSum 65 = .ok (.getfield 20, 3) := oc_180 65 (aq_16 shX5_readSum_49) uw_0_20
theorem dX5_readSum_68 : decode cX5_readSum 68 = .ok (.iload_n 2, 1) := oc_28 68 (aq_19 shX5_readSum_49)
theorem dX5_readSum_69 : decode cX5_readSum 69 = .ok (.iconst 0, 1) := oc_3 69 (aq_20 shX5_readSum_49)
theorem dX5_readSum_70 : decode cX5_readSum 70 = .ok (.invokevirtual 75, 3) := oc_182 70 (aq_21 shX5_readSum_49) uw_0_75
theorem dX5_readSum_73 : decode cX5_readSum 73 = .ok (.pop, 1) := oc_87 73 shX5_readSum_73
theorem dX5_readSum_74 : decode cX5_readSum 74 = .ok (.goto (-69), 3) := oc_167 74 (aq_1 shX5_readSum_73) sgw_255_187
noncomputable def sxX5_readPiece_96 : List UInt8 := []
noncomputable def sxX5_readPiece_75 : List UInt8 := 42 :: 182 :: 0 :: 89 :: 62 :: 42 :: 27 :: 182 :: 0 :: 56 :: 42 :: 180 :: 0 :: 20 :: 29 :: 3 :: 182 :: 0 :: 75 :: 87 :: 177 :: sxX5_readPiece_96
noncomputable def sxX5_readPiece_51 : List UInt8 := 153 :: 0 :: 44 :: 42 :: 27 :: 4 :: 96 :: 182 :: 0 :: 66 :: 42 :: 16 :: 41 :: 182 :: 0 :: 62 :: 167 :: 0 :: 28 :: 42 :: 27 :: 182 :: 0 :: 56 :: sxX5_readPiece_75
noncomputable def sxX5_readPiece_26 : List UInt8 := 42 :: 180 :: 0 :: 20 :: 16 :: 11 :: 3 :: 182 :: 0 :: 75 :: 87 :: 167 :: 0 :: 58 :: 28 :: 16 :: 40 :: 160 :: 0 :: 27 :: 42 :: 27 :: 182 :: 0 :: 85 :: sxX5_readPiece_51
theorem shX5_readPiece_0 : cX5_readPiece.data.toList.drop 0 = 42 :: 182 :: 0 :: 43 :: 61 :: 28 :: 16 :: 33 :: 160 :: 0 :: 32 :: 42 :: 27 :: 182 :: 0 :: 85 :: 153 :: 0 :: 79 :: 42 :: 27 :: 4 :: 96 :: 182 :: 0 :: 82 :: sxX5_readPiece_26 := rfl
theorem shX5_readPiece_26 : cX5_readPiece.data.toList.drop 26 = 42 :: 180 :: 0 :: 20 :: 16 :: 11 :: 3 :: 182 :: 0 :: 75 :: 87 :: 167 :: 0 :: 58 :: 28 :: 16 :: 40 :: 160 :: 0 :: 27 :: 42 :: 27 :: 182 :: 0 :: 85 :: sxX5_readPiece_51 := aq_26 shX5_readPiece_0
theorem shX5_readPiece_51 : cX5_readPiece.data.toList.drop 51 = 153 :: 0 :: 44 :: 42 :: 27 :: 4 :: 96 :: 182 :: 0 :: 66 :: 42 :: 16 :: 41 :: 182 :: 0 :: 62 :: 167 :: 0 :: 28 :: 42 :: 27 :: 182 :: 0 :: 56 :: sxX5_readPiece_75 := aq_25 shX5_readPiece_26
theorem shX5_readPiece_75 : cX5_readPiece.data.toList.drop 75 = 42 :: 182 :: 0 :: 89 :: 62 :: 42 :: 27 :: 182 :: 0 :: 56 :: 42 :: 180 :: 0 :: 20 :: 29 :: 3 :: 182 :: 0 :: 75 :: 87 :: 177 :: sxX5_readPiece_96 := aq_24 shX5_readPiece_51
theorem dX5_readPiece_0 : decode cX5_readPiece 0 = .ok (.aload_n 0, 1) := oc_42 0 shX5_readPiece_0
theorem dX5_readPiece_1 : decode cX5_readPiece 1 = .ok (.invokevirtual 43, 3) := oc_182 1 (aq_1 shX5_readPiece_0) uw_0_43
theorem dX5_readPiece_4 : decode cX5_readPiece 4 = .ok (.istore_n 2, 1) := oc_61 4 (aq_4 shX5_readPiece_0)
theorem dX5_readPiece_5 : decode cX5_readPiece 5 = .ok (.iload_n 2, 1) := oc_28 5 (aq_5 shX5_readPiece_0)
theorem dX5_readPiece_6 : decode cX5_readPiece 6 = .ok (.bipush 33, 2) := oc_16 6 (aq_6 shX5_readPiece_0) sgb_33
theorem dX5_readPiece_8 : decode cX5_readPiece 8 = .ok (.if_icmp .ne 32, 3) := oc_160 8 (aq_8 shX5_readPiece_0) sgw_0_32
theorem dX5_readPiece_40 : decode cX5_readPiece 40 = .ok (.iload_n 2, 1) := oc_28 40 (aq_14 shX5_readPiece_26)
theorem dX5_readPiece_41 : decode cX5_readPiece 41 = .ok (.bipush 40, 2) := oc_16 41 (aq_15 shX5_readPiece_26) sgb_40
theorem dX5_readPiece_43 : decode cX5_readPiece 43 = .ok (.if_icmp .ne 27, 3) := oc_160 43 (aq_17 shX5_readPiece_26) sgw_0_27
theorem dX5_readPiece_70 : decode cX5_readPiece 70 = .ok (.aload_n 0, 1) := oc_42 70 (aq_19 shX5_readPiece_51)
theorem dX5_readPiece_71 : decode cX5_readPiece 71 = .ok (.iload_n 1, 1) := oc_27 71 (aq_20 shX5_readPiece_51)
theorem dX5_readPiece_72 : decode cX5_readPiece 72 = .ok (.invokevirtual 56, 3) := oc_182 72 (aq_21 shX5_readPiece_51) uw_0_56
theorem dX5_readPiece_75 : decode cX5_readPiece 75 = .ok (.aload_n 0, 1) := oc_42 75 shX5_readPiece_75
theorem dX5_readPiece_76 : decode cX5_readPiece 76 = .ok (.invokevirtual 89, 3) := oc_182 76 (aq_1 shX5_readPiece_75) uw_0_89
theorem dX5_readPiece_79 : decode cX5_readPiece 79 = .ok (.istore_n 3, 1) := oc_62 79 (aq_4 shX5_readPiece_75)
theorem dX5_readPiece_80 : decode cX5_readPiece 80 = .ok (.aload_n 0, 1) := oc_42 80 (aq_5 shX5_readPiece_75)
theorem dX5_readPiece_81 : decode cX5_readPiece 81 = .ok (.iload_n 1, 1) := oc_27 81 (aq_6 shX5_readPiece_75)
theorem dX5_readPiece_82 : decode cX5_readPiece 82 = .ok (.invokevirtual 56, 3) := oc_182 82 (aq_7 shX5_readPiece_75) uw_0_56
theorem dX5_readPiece_85 : decode cX5_readPiece 85 = .ok (.aload_n 0, 1) := oc_42 85 (aq_10 shX5_readPiece_75)
theorem dX5_readPiece_86 : decode cX5_readPiece 86 = .ok (.getfield 20, 3) := oc_180 86 (aq_11 shX5_readPiece_75) uw_0_20
theorem dX5_readPiece_89 : decode cX5_readPiece 89 = .ok (.iload_n 3, 1) := oc_29 89 (aq_14 shX5_readPiece_75)
theorem dX5_readPiece_90 : decode cX5_readPiece 90 = .ok (.iconst 0, 1) := oc_3 90 (aq_15 shX5_readPiece_75)
theorem dX5_readPiece_91 : decode cX5_readPiece 91 = .ok (.invokevirtual 75, 3) := oc_182 91 (aq_16 shX5_readPiece_75) uw_0_75
theorem dX5_readPiece_94 : decode cX5_readPiece 94 = .ok (.pop, 1) := oc_87 94 (aq_19 shX5_readPiece_75)
theorem dX5_readPiece_95 : decode cX5_readPiece 95 = .ok (.return_, 1) := oc_177 95 (aq_20 shX5_readPiece_75)
theorem dX5_readPiece_46 : decode cX5_readPiece 46 = .ok (.aload_n 0, 1) := oc_42 46 (aq_20 shX5_readPiece_26)
theorem dX5_readPiece_47 : decode cX5_readPiece 47 = .ok (.iload_n 1, 1) := oc_27 47 (aq_21 shX5_readPiece_26)
theorem dX5_readPiece_48 : decode cX5_readPiece 48 = .ok (.invokevirtual 85, 3) := oc_182 48 (aq_22 shX5_readPiece_26) uw_0_85
theorem dX5_readPiece_51 : decode cX5_readPiece 51 = .ok (.ifCond .eq 44, 3) := oc_153 51 shX5_readPiece_51 sgw_0_44
theorem dX5_readPiece_11 : decode cX5_readPiece 11 = .ok (.aload_n 0, 1) := oc_42 11 (aq_11 shX5_readPiece_0)
theorem dX5_readPiece_12 : decode cX5_readPiece 12 = .ok (.iload_n 1, 1) := oc_27 12 (aq_12 shX5_readPiece_0)
theorem dX5_readPiece_13 : decode cX5_readPiece 13 = .ok (.invokevirtual 85, 3) := oc_182 13 (aq_13 shX5_readPiece_0) uw_0_85
theorem dX5_readPiece_16 : decode cX5_readPiece 16 = .ok (.ifCond .eq 79, 3) := oc_153 16 (aq_16 shX5_readPiece_0) sgw_0_79
noncomputable def sxX5_readPart_63 : List UInt8 := []
noncomputable def sxX5_readPart_51 : List UInt8 := 42 :: 180 :: 0 :: 20 :: 28 :: 182 :: 0 :: 79 :: 167 :: 255 :: 202 :: 177 :: sxX5_readPart_63
noncomputable def sxX5_readPart_25 : List UInt8 := 42 :: 89 :: 180 :: 0 :: 31 :: 4 :: 96 :: 181 :: 0 :: 31 :: 42 :: 180 :: 0 :: 20 :: 16 :: 12 :: 3 :: 182 :: 0 :: 75 :: 61 :: 42 :: 27 :: 182 :: 0 :: 82 :: sxX5_readPart_51
theorem shX5_readPart_0 : cX5_readPart.data.toList.drop 0 = 42 :: 27 :: 182 :: 0 :: 82 :: 42 :: 180 :: 0 :: 31 :: 42 :: 180 :: 0 :: 34 :: 162 :: 0 :: 49 :: 42 :: 182 :: 0 :: 43 :: 16 :: 38 :: 160 :: 0 :: 40 :: sxX5_readPart_25 := rfl
theorem shX5_readPart_25 : cX5_readPart.data.toList.drop 25 = 42 :: 89 :: 180 :: 0 :: 31 :: 4 :: 96 :: 181 :: 0 :: 31 :: 42 :: 180 :: 0 :: 20 :: 16 :: 12 :: 3 :: 182 :: 0 :: 75 :: 61 :: 42 :: 27 :: 182 :: 0 :: 82 :: sxX5_readPart_51 := aq_25 shX5_readPart_0
theorem shX5_readPart_51 : cX5_readPart.data.toList.drop 51 = 42 :: 180 :: 0 :: 20 :: 28 :: 182 :: 0 :: 79 :: 167 :: 255 :: 202 :: 177 :: sxX5_readPart_63 := aq_26 shX5_readPart_25
theorem dX5_readPart_62 : decode cX5_readPart 62 = .ok (.return_, 1) := oc_177 62 (aq_11 shX5_readPart_51)
noncomputable def sxX5_readCondition_63 : List UInt8 := []
noncomputable def sxX5_readCondition_51 : List UInt8 := 42 :: 180 :: 0 :: 20 :: 28 :: 182 :: 0 :: 79 :: 167 :: 255 :: 202 :: 177 :: sxX5_readCondition_63
noncomputable def sxX5_readCondition_25 : List UInt8 := 42 :: 89 :: 180 :: 0 :: 31 :: 4 :: 96 :: 181 :: 0 :: 31 :: 42 :: 180 :: 0 :: 20 :: 16 :: 13 :: 3 :: 182 :: 0 :: 75 :: 61 :: 42 :: 27 :: 182 :: 0 :: 72 :: sxX5_readCondition_51
theorem shX5_readCondition_0 : cX5_readCondition.data.toList.drop 0 = 42 :: 27 :: 182 :: 0 :: 72 :: 42 :: 180 :: 0 :: 31 :: 42 :: 180 :: 0 :: 34 :: 162 :: 0 :: 49 :: 42 :: 182 :: 0 :: 43 :: 16 :: 124 :: 160 :: 0 :: 40 :: sxX5_readCondition_25 := rfl
theorem shX5_readCondition_25 : cX5_readCondition.data.toList.drop 25 = 42 :: 89 :: 180 :: 0 :: 31 :: 4 :: 96 :: 181 :: 0 :: 31 :: 42 :: 180 :: 0 :: 20 :: 16 :: 13 :: 3 :: 182 :: 0 :: 75 :: 61 :: 42 :: 27 :: 182 :: 0 :: 72 :: sxX5_readCondition_51 := aq_25 shX5_readCondition_0
theorem shX5_readCondition_51 : cX5_readCondition.data.toList.drop 51 = 42 :: 180 :: 0 :: 20 :: 28 :: 182 :: 0 :: 79 :: 167 :: 255 :: 202 :: 177 :: sxX5_readCondition_63 := aq_26 shX5_readCondition_25
theorem dX5_readCondition_62 : decode cX5_readCondition 62 = .ok (.return_, 1) := oc_177 62 (aq_11 shX5_readCondition_51)
set_option maxRecDepth 100000 in
set_option maxHeartbeats 4000000 in
theorem q_Rpeek (l : Launch) (D : va_G) (cI cB cZ : ClassId) (zz qq vv : Nat) (bt : Nat → Int32) (g : Nat → Nat) (ad : Nat → Nat → Nat) (cn : Nat → Nat) (In : Nat → Int32) (Fn : Nat → Nat → Int32)  (hB : CBX cn) (hR : ad 4 2 = g 40) (h1 : ad 4 1 < cn 6) (h3 : cn 31 ≤ cn 32) (h4 : cn 32 ≤ 160) : Met l yX5_peek (CWS yX5_peek cX5_peek 1 (some .int)) (RM 0 0 0) (PBrx [.ref (g 6)] D cI cB cZ zz qq vv bt (wX cI (D.1 99) zz g ad cn In Fn)) (vp_Si (fun r => (cn 31 < cn 32 ∧ r = Fn 40 (cn 31)) ∨ (cn 32 ≤ cn 31 ∧ r.toInt = -1))) 0 0 (fun _ => False) := by
  refine en_rx rfl pn_RX5 (Nat.le_of_ble_eq_true rfl) (fun p e s m below meth c hx hb hml hown S hr hlocks hnm hP hK hXS hS ls hl => ?_)
  have hl : lv_has ls 1 [(0, .ref (g 6))] := hl
  replace hB : CBXh cn := hB
  refine lv_aload_n hx hb (oc_42 0 shX5_peek_0) rfl (lvA0 hl) ?_
  refine gf_RX5_31 S hK hP 3 xo_3 (v := .int (nI (cn 31))) rfl (oc_180 1 (aq_1 shX5_peek_0) uw_0_31) ?_
  have : (nI (cn 31)).toInt = (((cn 31) : Nat) : Int) := nI_toInt (by omega)
  refine lv_if_lt (tgt := 42) hx hb (oc_155 4 (aq_4 shX5_peek_0) sgw_0_38) rfl (fun c_1 => False.elim (by have tc_1 : ((nI (cn 31)).toInt : Int) < 0 := Int32.lt_iff_toInt_lt.mp c_1; omega)) (fun c_1 => ?_)
  have tc_1 : (0 : Int) ≤ (nI (cn 31)).toInt := Int32.le_iff_toInt_le.mp (Int32.not_lt.mp c_1)
  refine lv_aload_n hx hb (oc_42 7 (aq_7 shX5_peek_0)) rfl (lvA0 hl) ?_
  refine gf_RX5_31 S hK hP 3 xo_3 (v := .int (nI (cn 31))) rfl (oc_180 8 (aq_8 shX5_peek_0) uw_0_31) ?_
  refine lv_aload_n hx hb (oc_42 11 (aq_11 shX5_peek_0)) rfl (lvA0 hl) ?_
  refine gf_RX5_34 S hK hP 3 xo_3 (v := .int (nI (cn 32))) rfl (oc_180 12 (aq_12 shX5_peek_0) uw_0_34) ?_
  have : (nI (cn 32)).toInt = (((cn 32) : Nat) : Int) := nI_toInt (by omega)
  refine lv_icmp_ge (tgt := 42) hx hb (oc_162 15 (aq_15 shX5_peek_0) sgw_0_27) rfl (fun c_2 => ?_) (fun c_2 => ?_)
  ·
    have tc_2 : ((nI (cn 32)).toInt : Int) ≤ (nI (cn 31)).toInt := Int32.le_iff_toInt_le.mp c_2
    refine lv_iconst (v := (-1)) hx hb (oc_2 42 (aq_16 shX5_peek_26)) kic_m1 ?_
    exact W.iret (v := (-1)) hx hb hr (fun t ht hW => ⟨(-1), rfl, (Or.inr ⟨by omega, rfl⟩), ht⟩) (fun _ h => absurd h List.not_mem_nil) (oc_172 43 (aq_17 shX5_peek_26))
  ·
    have tc_2 : ((nI (cn 31)).toInt : Int) < (nI (cn 32)).toInt := Int32.lt_iff_toInt_lt.mp (Int32.not_le.mp c_2)
    refine lv_aload_n hx hb (oc_42 18 (aq_18 shX5_peek_0)) rfl (lvA0 hl) ?_
    refine gf_RX5_31 S hK hP 3 xo_3 (v := .int (nI (cn 31))) rfl (oc_180 19 (aq_19 shX5_peek_0) uw_0_31) ?_
    refine lv_aload_n hx hb (oc_42 22 (aq_22 shX5_peek_0)) rfl (lvA0 hl) ?_
    refine gf_RX5_9 S hK hP 3 xo_3 (v := .ref (ad 4 2)) rfl (oc_180 23 (aq_23 shX5_peek_0) uw_0_9) ?_
    rw [hR]
    refine va_alen hx hb hK.1 hP 2 0 xo_2 rfl (v := 200) rfl (oc_190 26 shX5_peek_26) ?_
    refine lv_icmp_ge (tgt := 42) hx hb (oc_162 27 (aq_1 shX5_peek_26) sgw_0_15) rfl (fun c_3 => ?_) (fun c_3 => ?_)
    ·
      have tc_3 : (200 : Int) ≤ (nI (cn 31)).toInt := Int32.le_iff_toInt_le.mp c_3
      refine lv_iconst (v := (-1)) hx hb (oc_2 42 (aq_16 shX5_peek_26)) kic_m1 ?_
      exact W.iret (v := (-1)) hx hb hr (fun t ht hW => ⟨(-1), rfl, (Or.inr ⟨by omega, rfl⟩), ht⟩) (fun _ h => absurd h List.not_mem_nil) (oc_172 43 (aq_17 shX5_peek_26))
    ·
      have tc_3 : ((nI (cn 31)).toInt : Int) < 200 := Int32.lt_iff_toInt_lt.mp (Int32.not_le.mp c_3)
      refine lv_aload_n hx hb (oc_42 30 (aq_4 shX5_peek_26)) rfl (lvA0 hl) ?_
      refine gf_RX5_9 S hK hP 3 xo_3 (v := .ref (ad 4 2)) rfl (oc_180 31 (aq_5 shX5_peek_26) uw_0_9) ?_
      rw [hR]
      refine lv_aload_n hx hb (oc_42 34 (aq_8 shX5_peek_26)) rfl (lvA0 hl) ?_
      refine gf_RX5_31 S hK hP 3 xo_3 (v := .int (nI (cn 31))) rfl (oc_180 35 (aq_9 shX5_peek_26) uw_0_31) ?_
      refine va_iald hx hb hK.1 hP 2 0 xo_2 rfl (vp_in_nI (by omega) (ltb rfl)) (oc_46 38 (aq_12 shX5_peek_26)) ?_
      refine lv_topi (fun y_4 ey_4 => ?_)
      obtain rfl : y_4 = ((Fn 40) (cn 31)) := ey_4.trans (congrArg (Fn 40) (nI_clamp (by omega)))
      refine lv_goto (tgt := 43) hx hb (oc_167 39 (aq_13 shX5_peek_26) sgw_0_4) rfl ?_
      exact W.iret (v := ((Fn 40) (cn 31))) hx hb hr (fun t ht hW => ⟨((Fn 40) (cn 31)), rfl, (Or.inl ⟨by omega, rfl⟩), ht⟩) (fun _ h => absurd h List.not_mem_nil) (oc_172 43 (aq_17 shX5_peek_26))
set_option maxRecDepth 100000 in
set_option maxHeartbeats 4000000 in
theorem q_Rfail (l : Launch) (D : va_G) (cI cB cZ : ClassId) (zz qq vv : Nat) (bt : Nat → Int32) (g : Nat → Nat) (ad : Nat → Nat → Nat) (cn : Nat → Nat) (In : Nat → Int32) (Fn : Nat → Nat → Int32) (v0 : Int32) (sz : Nat) (hB : CBX cn) (hR : ad 4 2 = g 40) (h1 : ad 4 1 < cn 6) (h3 : cn 31 ≤ cn 32) (h4 : cn 32 ≤ 160) : Met l yX5_fail (CWS yX5_fail cX5_fail 2 none) (RM 0 0 0) (PBx [.ref (g 6), .int v0] D cI cB cZ zz qq vv bt (wX cI (D.1 99) zz g ad cn In Fn) sz) (va_Qv (fun (u : (Nat → Nat) × (Nat → Int32) × (Nat → Nat → Int32)) => (fun c2 I2 F2 => Fr [32] [33] [] cn In Fn c2 I2 F2 ∧ CBX c2 ∧ (c2 31 = cn 31 ∧ cn 31 ≤ c2 32 ∧ c2 32 ≤ cn 32)) u.1 u.2.1 u.2.2) (fun (u : (Nat → Nat) × (Nat → Int32) × (Nat → Nat → Int32)) (t : State) => va_P D vwCl (wX cI (D.1 99) zz g ad u.1 u.2.1 u.2.2) t.heap ∧ va_D (va_A (wX cI (D.1 99) zz g ad cn In Fn) sz) (wX cI (D.1 99) zz g ad u.1 u.2.1 u.2.2)) (va_A (wX cI (D.1 99) zz g ad cn In Fn) sz)) 0 0 (va_A (wX cI (D.1 99) zz g ad cn In Fn) sz) := by
  refine en_x (fun A => (va_Qv (fun (u : (Nat → Nat) × (Nat → Int32) × (Nat → Nat → Int32)) => (fun (c2 : Nat → Nat) (I2 : Nat → Int32) (F2 : Nat → Nat → Int32) => Fr [32] [33] [] cn In Fn c2 I2 F2 ∧ CBX c2 ∧ (c2 31 = cn 31 ∧ cn 31 ≤ c2 32 ∧ c2 32 ≤ cn 32)) u.1 u.2.1 u.2.2) (fun (u : (Nat → Nat) × (Nat → Int32) × (Nat → Nat → Int32)) (t : State) => va_P D vwCl (wX cI (D.1 99) zz g ad u.1 u.2.1 u.2.2) t.heap ∧ va_D A (wX cI (D.1 99) zz g ad u.1 u.2.1 u.2.2)) A)) rfl rfl pn_RX5 (Nat.le_of_ble_eq_true rfl) (fun p e s m below meth c A hx hb hml hown S hr hlocks hnm hA hP hK hD hXS hS ls hl => ?_)
  have hl : lv_has ls 2 [(0, .ref (g 6)), (1, .int v0)] := hl
  replace hB : CBXh cn := hB
  refine lv_aload_n hx hb (oc_42 0 shX5_fail_0) rfl (lvA0 hl) ?_
  refine gf_RX5_37 S hK hP 3 xo_3 (v := .int (In 33)) rfl (oc_180 1 (aq_1 shX5_fail_0) uw_0_37) ?_
  refine lv_if_ne (tgt := 29) hx hb (oc_154 4 (aq_4 shX5_fail_0) sgw_0_25) rfl (fun c_1 => ?_) (fun c_1 => ?_)
  ·
    have tc_1 : ((In 33).toInt : Int) ≠ 0 := fun q => c_1 (Int32.toInt_inj.mp q)
    exact W.vret hx hb hr (fun t ht hW => ⟨⟨(cn, In, Fn), rfl, ⟨(Fr.mo Fr.rf (sbl rfl) (sbl rfl) (sbl rfl)), hB, (by show cn 31 = cn 31 ∧ cn 31 ≤ cn 32 ∧ cn 32 ≤ cn 32; show (cn 31) = cn 31 ∧ cn 31 ≤ (cn 32) ∧ (cn 32) ≤ cn 32; omega)⟩, by rw [ht]; exact hP, hD⟩, hS.F ht⟩) hS.2.2 dX5_fail_29
  ·
    have tc_1 : ((In 33).toInt : Int) = 0 := congrArg Int32.toInt c_1
    refine lv_aload_n hx hb (oc_42 7 (aq_7 shX5_fail_0)) rfl (lvA0 hl) ?_
    refine lv_sipush (v := 1000) hx hb (oc_17 8 (aq_8 shX5_fail_0) sgw_3_232) (by decide) ?_
    refine lv_iload_n hx hb (oc_27 11 (aq_11 shX5_fail_0)) rfl (lvA1 hl) ?_
    refine lv_imul hx hb (oc_104 12 (aq_12 shX5_fail_0)) ?_
    refine lv_aload_n hx hb (oc_42 13 (aq_13 shX5_fail_0)) rfl (lvA0 hl) ?_
    refine gf_RX5_31 S hK hP 3 xo_3 (v := .int (nI (cn 31))) rfl (oc_180 14 (aq_14 shX5_fail_0) uw_0_31) ?_
    refine lv_iadd hx hb (oc_96 17 (aq_17 shX5_fail_0)) ?_
    refine pf_RX5_37 S hK hP hD hS 3 xo_3 (v := .int ((1000 * v0) + (nI (cn 31)))) (Nat.le_of_ble_eq_true rfl) rfl rfl (oc_181 18 (aq_18 shX5_fail_0) uw_0_37) (fun H locs hP hD hS => ?_)
    have hP : va_P D vwCl (wX cI (D.1 99) zz g ad cn (va_up In 33 ((1000 * v0) + (nI (cn 31)))) Fn) H := va_P_eq (xsf_3_5) hP
    have hD : va_D A (wX cI (D.1 99) zz g ad cn (va_up In 33 ((1000 * v0) + (nI (cn 31)))) Fn) := va_D_eq (xsf_3_5) hD
    refine lv_aload_n hx hb (oc_42 21 (aq_21 shX5_fail_0)) rfl (lvA0 hl) ?_
    refine lv_aload_n hx hb (oc_42 22 (aq_22 shX5_fail_0)) rfl (lvA0 hl) ?_
    refine gf_RX5_31 S hK hP 3 xo_3 (v := .int (nI (cn 31))) rfl (oc_180 23 (aq_23 shX5_fail_0) uw_0_31) ?_
    refine pf_RX5_34 S hK hP hD hS 3 xo_3 (v := .int (nI (cn 31))) (Nat.le_of_ble_eq_true rfl) rfl rfl (oc_181 26 shX5_fail_26 uw_0_34) (fun H locs hP hD hS => ?_)
    have hP : va_P D vwCl (wX cI (D.1 99) zz g ad (va_up cn 32 (cn 31)) (va_up In 33 ((1000 * v0) + (nI (cn 31)))) Fn) H := va_P_eq (xsf_3_4) hP
    have hD : va_D A (wX cI (D.1 99) zz g ad (va_up cn 32 (cn 31)) (va_up In 33 ((1000 * v0) + (nI (cn 31)))) Fn) := va_D_eq (xsf_3_4) hD
    exact W.vret hx hb hr (fun t ht hW => ⟨⟨((va_up cn 32 (cn 31)), (va_up In 33 ((1000 * v0) + (nI (cn 31)))), Fn), rfl, ⟨(Fr.mo (Fr.i 33 (Fr.c 32 Fr.rf)) (sbl rfl) (sbl rfl) (sbl rfl)), (CBX.n (k := 32) (v := (cn 31)) hB (by decide)), (by show (va_up cn 32 (cn 31)) 31 = cn 31 ∧ cn 31 ≤ (va_up cn 32 (cn 31)) 32 ∧ (va_up cn 32 (cn 31)) 32 ≤ cn 32; show (cn 31) = cn 31 ∧ cn 31 ≤ (cn 31) ∧ (cn 31) ≤ cn 32; omega)⟩, by rw [ht]; exact hP, hD⟩, hS.F ht⟩) hS.2.2 dX5_fail_29
set_option maxRecDepth 100000 in
set_option maxHeartbeats 4000000 in
theorem q_Rtake (l : Launch) (D : va_G) (cI cB cZ : ClassId) (zz qq vv : Nat) (bt : Nat → Int32) (g : Nat → Nat) (ad : Nat → Nat → Nat) (cn : Nat → Nat) (In : Nat → Int32) (Fn : Nat → Nat → Int32) (v0 : Int32) (sz : Nat) (hB : CBX cn) (hR : ad 4 2 = g 40) (h1 : ad 4 1 < cn 6) (h3 : cn 31 ≤ cn 32) (h4 : cn 32 ≤ 160) (h7 : 0 ≤ v0.toInt) : Met l yX5_take (CWS yX5_take cX5_take 2 none) (RM 1 0 0) (PBx [.ref (g 6), .int v0] D cI cB cZ zz qq vv bt (wX cI (D.1 99) zz g ad cn In Fn) sz) (va_Qv (fun (u : (Nat → Nat) × (Nat → Int32) × (Nat → Nat → Int32)) => (fun c2 I2 F2 => Fr [31, 32] [33] [] cn In Fn c2 I2 F2 ∧ CBX c2 ∧ (cn 31 ≤ c2 31 ∧ c2 31 ≤ c2 32 ∧ c2 32 ≤ cn 32)) u.1 u.2.1 u.2.2) (fun (u : (Nat → Nat) × (Nat → Int32) × (Nat → Nat → Int32)) (t : State) => va_P D vwCl (wX cI (D.1 99) zz g ad u.1 u.2.1 u.2.2) t.heap ∧ va_D (va_A (wX cI (D.1 99) zz g ad cn In Fn) sz) (wX cI (D.1 99) zz g ad u.1 u.2.1 u.2.2)) (va_A (wX cI (D.1 99) zz g ad cn In Fn) sz)) 0 0 (va_A (wX cI (D.1 99) zz g ad cn In Fn) sz) := by
  refine en_x (fun A => (va_Qv (fun (u : (Nat → Nat) × (Nat → Int32) × (Nat → Nat → Int32)) => (fun (c2 : Nat → Nat) (I2 : Nat → Int32) (F2 : Nat → Nat → Int32) => Fr [31, 32] [33] [] cn In Fn c2 I2 F2 ∧ CBX c2 ∧ (cn 31 ≤ c2 31 ∧ c2 31 ≤ c2 32 ∧ c2 32 ≤ cn 32)) u.1 u.2.1 u.2.2) (fun (u : (Nat → Nat) × (Nat → Int32) × (Nat → Nat → Int32)) (t : State) => va_P D vwCl (wX cI (D.1 99) zz g ad u.1 u.2.1 u.2.2) t.heap ∧ va_D A (wX cI (D.1 99) zz g ad u.1 u.2.1 u.2.2)) A)) rfl rfl pn_RX5 (Nat.le_of_ble_eq_true rfl) (fun p e s m below meth c A hx hb hml hown S hr hlocks hnm hA hP hK hD hXS hS ls hl => ?_)
  have hl : lv_has ls 2 [(0, .ref (g 6)), (1, .int v0)] := hl
  replace hB : CBXh cn := hB
  refine lv_aload_n hx hb (oc_42 0 shX5_take_0) rfl (lvA0 hl) ?_
  refine vp_callSi (runV_rxa (As := []) (rest := []) S (q_Rpeek l D cI cB cZ zz qq vv bt g ad cn In Fn  hB (by omega) (by omega) (by omega) (by omega)) kV_RX5_43 hK hXS hS hP 3 xo_3 rfl rfl ⟨Nat.le_of_ble_eq_true rfl, Nat.le_of_ble_eq_true rfl⟩ ⟨Nat.le_of_ble_eq_true rfl, Nat.le_of_ble_eq_true rfl⟩ rfl hl.1 rfl (Nat.le_of_ble_eq_true rfl) (oc_182 1 (aq_1 shX5_take_0) uw_0_43)) (fun r_1 h_2 => ?_)
  refine lv_iload_n hx hb (oc_27 4 (aq_4 shX5_take_0)) rfl (lvA1 hl) ?_
  refine lv_icmp_ne (tgt := 21) hx hb (oc_160 5 (aq_5 shX5_take_0) sgw_0_16) rfl (fun c_3 => ?_) (fun c_3 => ?_)
  ·
    have tc_3 : (r_1.toInt : Int) ≠ v0.toInt := fun q => c_3 (Int32.toInt_inj.mp q)
    refine lv_aload_n hx hb (oc_42 21 (aq_21 shX5_take_0)) rfl (lvA0 hl) ?_
    refine lv_iconst (v := 1) hx hb (oc_4 22 (aq_22 shX5_take_0)) kic_1 ?_
    have hFc := free_all hD hS hA
    refine va_callv (runV_xa (As := [.int 1]) (rest := []) S (q_Rfail l D cI cB cZ zz qq vv bt g ad cn In Fn 1 s.heap.size hB (by omega) (by omega) (by omega) (by omega)) kV_RX5_47 hK hXS hS hFc hP hD 3 xo_3 rfl rfl ⟨Nat.le_of_ble_eq_true rfl, Nat.le_of_ble_eq_true rfl⟩ ⟨Nat.le_of_ble_eq_true rfl, Nat.le_of_ble_eq_true rfl⟩ rfl hl.1 rfl (Nat.le_of_ble_eq_true rfl) (oc_182 23 (aq_23 shX5_take_0) uw_0_47)) hS (fun q _ h => hFc q h) hFc (fun u t H1 locs ht hvm wh_5 hB1 hz1 hk1 hS => ?_)
    obtain ⟨cn5, In5, Fn5⟩ := u
    obtain ⟨hP1, hD1⟩ := hB1
    rw [ht] at hP1
    have hP : va_P D vwCl (wX cI (D.1 99) zz g ad cn5 In5 Fn5) H1 := hP1
    have hD : va_D A (wX cI (D.1 99) zz g ad cn5 In5 Fn5) := hD1.weaken (fun _ _ _ h => hFc _ h)
    generalize H1 = H at hP hS ⊢
    have vh_5 : (fun c2 I2 F2 => Fr [32] [33] [] cn In Fn c2 I2 F2 ∧ CBX c2 ∧ (c2 31 = (cn 31) ∧ (cn 31) ≤ c2 32 ∧ c2 32 ≤ (cn 32))) cn5 In5 Fn5 := wh_5
    obtain ⟨hfc5, hIn5, h_5⟩ := vh_5
    obtain rfl : Fn = Fn5 := (funext (fun k => hfc5.2.2 k List.not_mem_nil)).symm
    have hf5 : Fr [31, 32] [33] [] cn In Fn cn5 In5 Fn := Fr.mo (Fr.tr (Fr.rf (cn := cn) (In := In) (Fn := Fn)) hfc5) (sbl rfl) (sbl rfl) (sbl rfl)
    replace hIn5 : CBXh cn5 := hIn5
    have : cn5 6 = (cn 6) := hfc5.1 6 (nml rfl)
    have : cn5 31 = (cn 31) := hfc5.1 31 (nml rfl)
    exact W.vret hx hb hr (fun t ht hW => ⟨⟨(cn5, In5, Fn), rfl, ⟨(Fr.mo hf5 (sbl rfl) (sbl rfl) (sbl rfl)), hIn5, (by show cn 31 ≤ cn5 31 ∧ cn5 31 ≤ cn5 32 ∧ cn5 32 ≤ cn 32; show cn 31 ≤ (cn5 31) ∧ (cn5 31) ≤ (cn5 32) ∧ (cn5 32) ≤ cn 32; omega)⟩, by rw [ht]; exact hP, hD⟩, hS.F ht⟩) hS.2.2 dX5_take_26
  ·
    have tc_3 : (r_1.toInt : Int) = v0.toInt := congrArg Int32.toInt c_3
    refine lv_aload_n hx hb (oc_42 8 (aq_8 shX5_take_0)) rfl (lvA0 hl) ?_
    refine lv_dup hx hb (oc_89 9 (aq_9 shX5_take_0)) rfl ?_
    refine gf_RX5_31 S hK hP 3 xo_3 (v := .int (nI (cn 31))) rfl (oc_180 10 (aq_10 shX5_take_0) uw_0_31) ?_
    refine lv_iconst (v := 1) hx hb (oc_4 13 (aq_13 shX5_take_0)) kic_1 ?_
    refine lv_iadd hx hb (oc_96 14 (aq_14 shX5_take_0)) ?_
    refine lv_topi (fun y_6 ey_6 => ?_)
    obtain rfl : y_6 = (nI ((cn 31) + 1)) := ey_6.trans (nI_add (cn 31) 1)
    refine pf_RX5_31 S hK hP hD hS 3 xo_3 (v := .int (nI ((cn 31) + 1))) (Nat.le_of_ble_eq_true rfl) rfl rfl (oc_181 15 (aq_15 shX5_take_0) uw_0_31) (fun H locs hP hD hS => ?_)
    have hP : va_P D vwCl (wX cI (D.1 99) zz g ad (va_up cn 31 ((cn 31) + 1)) In Fn) H := va_P_eq (xsf_3_3) hP
    have hD : va_D A (wX cI (D.1 99) zz g ad (va_up cn 31 ((cn 31) + 1)) In Fn) := va_D_eq (xsf_3_3) hD
    refine lv_goto (tgt := 26) hx hb (oc_167 18 (aq_18 shX5_take_0) sgw_0_8) rfl ?_
    exact W.vret hx hb hr (fun t ht hW => ⟨⟨((va_up cn 31 ((cn 31) + 1)), In, Fn), rfl, ⟨(Fr.mo (Fr.c 31 Fr.rf) (sbl rfl) (sbl rfl) (sbl rfl)), (CBX.n (k := 31) (v := ((cn 31) + 1)) hB (by decide)), (by show cn 31 ≤ (va_up cn 31 ((cn 31) + 1)) 31 ∧ (va_up cn 31 ((cn 31) + 1)) 31 ≤ (va_up cn 31 ((cn 31) + 1)) 32 ∧ (va_up cn 31 ((cn 31) + 1)) 32 ≤ cn 32; show cn 31 ≤ ((cn 31) + 1) ∧ ((cn 31) + 1) ≤ (cn 32) ∧ (cn 32) ≤ cn 32; omega)⟩, by rw [ht]; exact hP, hD⟩, hS.F ht⟩) hS.2.2 dX5_take_26
set_option maxRecDepth 100000 in
set_option maxHeartbeats 4000000 in
theorem q_Ropens_y (l : Launch) (D : va_G) (cI cB cZ : ClassId) (zz qq vv : Nat) (bt : Nat → Int32) (g : Nat → Nat) (ad : Nat → Nat → Nat) (cn : Nat → Nat) (In : Nat → Int32) (Fn : Nat → Nat → Int32) (v0 : Int32) (sz : Nat) (hB : CBX cn) (hR : ad 4 2 = g 40) (h1 : ad 4 1 < cn 6) (h3 : cn 31 ≤ cn 32) (h4 : cn 32 ≤ 160) (h5 : cn 31 < cn 32) (h6 : v0.toInt < 6) : Met l yX5_opens (CWS yX5_opens cX5_opens 2 (some .boolean)) (RM 1 0 0) (PBx [.ref (g 6), .int v0] D cI cB cZ zz qq vv bt (wX cI (D.1 99) zz g ad cn In Fn) sz) (va_Qi (fun (r : Int32) (u : (Nat → Nat) × (Nat → Int32) × (Nat → Nat → Int32)) => (fun r c2 I2 F2 => Fr [31, 32] [33] [] cn In Fn c2 I2 F2 ∧ CBX c2 ∧ ((cn 31 ≤ c2 31 ∧ c2 31 ≤ c2 32 ∧ c2 32 ≤ cn 32) ∧ r = 1)) r u.1 u.2.1 u.2.2) (fun (u : (Nat → Nat) × (Nat → Int32) × (Nat → Nat → Int32)) (t : State) => va_P D vwCl (wX cI (D.1 99) zz g ad u.1 u.2.1 u.2.2) t.heap ∧ va_D (va_A (wX cI (D.1 99) zz g ad cn In Fn) sz) (wX cI (D.1 99) zz g ad u.1 u.2.1 u.2.2)) (va_A (wX cI (D.1 99) zz g ad cn In Fn) sz)) 0 0 (va_A (wX cI (D.1 99) zz g ad cn In Fn) sz) := by
  refine en_x (fun A => (va_Qi (fun (r : Int32) (u : (Nat → Nat) × (Nat → Int32) × (Nat → Nat → Int32)) => (fun (r : Int32) (c2 : Nat → Nat) (I2 : Nat → Int32) (F2 : Nat → Nat → Int32) => Fr [31, 32] [33] [] cn In Fn c2 I2 F2 ∧ CBX c2 ∧ ((cn 31 ≤ c2 31 ∧ c2 31 ≤ c2 32 ∧ c2 32 ≤ cn 32) ∧ r = 1)) r u.1 u.2.1 u.2.2) (fun (u : (Nat → Nat) × (Nat → Int32) × (Nat → Nat → Int32)) (t : State) => va_P D vwCl (wX cI (D.1 99) zz g ad u.1 u.2.1 u.2.2) t.heap ∧ va_D A (wX cI (D.1 99) zz g ad u.1 u.2.1 u.2.2)) A)) rfl rfl pn_RX5 (Nat.le_of_ble_eq_true rfl) (fun p e s m below meth c A hx hb hml hown S hr hlocks hnm hA hP hK hD hXS hS ls hl => ?_)
  have hl : lv_has ls 2 [(0, .ref (g 6)), (1, .int v0)] := hl
  replace hB : CBXh cn := hB
  refine lv_iload_n hx hb dX5_opens_0 rfl (lvA1 hl) ?_
  refine lv_bipush (v := 6) hx hb dX5_opens_1 kbc_6 ?_
  refine lv_icmp_lt (tgt := 13) hx hb dX5_opens_3 rfl (fun c_1 => ?_) (fun c_1 => False.elim (by have tc_1 : (6 : Int) ≤ v0.toInt := Int32.le_iff_toInt_le.mp (Int32.not_lt.mp c_1); omega))
  have tc_1 : (v0.toInt : Int) < 6 := Int32.lt_iff_toInt_lt.mp c_1
  refine lv_aload_n hx hb (oc_42 13 (aq_13 shX5_opens_0)) rfl (lvA0 hl) ?_
  refine lv_dup hx hb (oc_89 14 (aq_14 shX5_opens_0)) rfl ?_
  refine gf_RX5_31 S hK hP 3 xo_3 (v := .int (nI (cn 31))) rfl (oc_180 15 (aq_15 shX5_opens_0) uw_0_31) ?_
  refine lv_iconst (v := 1) hx hb (oc_4 18 (aq_18 shX5_opens_0)) kic_1 ?_
  refine lv_iadd hx hb (oc_96 19 (aq_19 shX5_opens_0)) ?_
  refine lv_topi (fun y_2 ey_2 => ?_)
  obtain rfl : y_2 = (nI ((cn 31) + 1)) := ey_2.trans (nI_add (cn 31) 1)
  refine pf_RX5_31 S hK hP hD hS 3 xo_3 (v := .int (nI ((cn 31) + 1))) (Nat.le_of_ble_eq_true rfl) rfl rfl (oc_181 20 (aq_20 shX5_opens_0) uw_0_31) (fun H locs hP hD hS => ?_)
  have hP : va_P D vwCl (wX cI (D.1 99) zz g ad (va_up cn 31 ((cn 31) + 1)) In Fn) H := va_P_eq (xsf_3_3) hP
  have hD : va_D A (wX cI (D.1 99) zz g ad (va_up cn 31 ((cn 31) + 1)) In Fn) := va_D_eq (xsf_3_3) hD
  refine lv_iconst (v := 1) hx hb (oc_4 23 (aq_23 shX5_opens_0)) kic_1 ?_
  exact W.zret (v := 1) hx hb hr rfl (fun t ht hW => ⟨⟨1, ((va_up cn 31 ((cn 31) + 1)), In, Fn), rfl, ⟨(Fr.mo (Fr.c 31 Fr.rf) (sbl rfl) (sbl rfl) (sbl rfl)), (CBX.n (k := 31) (v := ((cn 31) + 1)) hB (by decide)), (by show (cn 31 ≤ (va_up cn 31 ((cn 31) + 1)) 31 ∧ (va_up cn 31 ((cn 31) + 1)) 31 ≤ (va_up cn 31 ((cn 31) + 1)) 32 ∧ (va_up cn 31 ((cn 31) + 1)) 32 ≤ cn 32) ∧ 1 = 1; exact ⟨by show cn 31 ≤ ((cn 31) + 1) ∧ ((cn 31) + 1) ≤ (cn 32) ∧ (cn 32) ≤ cn 32; omega, rfl⟩)⟩, by rw [ht]; exact hP, hD⟩, hS.F ht⟩) hS.2.2 (oc_172 24 shX5_opens_24)
set_option maxRecDepth 100000 in
set_option maxHeartbeats 4000000 in
theorem q_Ropens_n (l : Launch) (D : va_G) (cI cB cZ : ClassId) (zz qq vv : Nat) (bt : Nat → Int32) (g : Nat → Nat) (ad : Nat → Nat → Nat) (cn : Nat → Nat) (In : Nat → Int32) (Fn : Nat → Nat → Int32) (v0 : Int32) (sz : Nat) (hB : CBX cn) (hR : ad 4 2 = g 40) (h1 : ad 4 1 < cn 6) (h3 : cn 31 ≤ cn 32) (h4 : cn 32 ≤ 160) (h5 : cn 31 < cn 32) (h6 : 6 ≤ v0.toInt) : Met l yX5_opens (CWS yX5_opens cX5_opens 2 (some .boolean)) (RM 1 0 0) (PBx [.ref (g 6), .int v0] D cI cB cZ zz qq vv bt (wX cI (D.1 99) zz g ad cn In Fn) sz) (va_Qi (fun (r : Int32) (u : (Nat → Nat) × (Nat → Int32) × (Nat → Nat → Int32)) => (fun r c2 I2 F2 => Fr [31, 32] [33] [] cn In Fn c2 I2 F2 ∧ CBX c2 ∧ ((cn 31 ≤ c2 31 ∧ c2 31 ≤ c2 32 ∧ c2 32 ≤ cn 32) ∧ r = 0)) r u.1 u.2.1 u.2.2) (fun (u : (Nat → Nat) × (Nat → Int32) × (Nat → Nat → Int32)) (t : State) => va_P D vwCl (wX cI (D.1 99) zz g ad u.1 u.2.1 u.2.2) t.heap ∧ va_D (va_A (wX cI (D.1 99) zz g ad cn In Fn) sz) (wX cI (D.1 99) zz g ad u.1 u.2.1 u.2.2)) (va_A (wX cI (D.1 99) zz g ad cn In Fn) sz)) 0 0 (va_A (wX cI (D.1 99) zz g ad cn In Fn) sz) := by
  refine en_x (fun A => (va_Qi (fun (r : Int32) (u : (Nat → Nat) × (Nat → Int32) × (Nat → Nat → Int32)) => (fun (r : Int32) (c2 : Nat → Nat) (I2 : Nat → Int32) (F2 : Nat → Nat → Int32) => Fr [31, 32] [33] [] cn In Fn c2 I2 F2 ∧ CBX c2 ∧ ((cn 31 ≤ c2 31 ∧ c2 31 ≤ c2 32 ∧ c2 32 ≤ cn 32) ∧ r = 0)) r u.1 u.2.1 u.2.2) (fun (u : (Nat → Nat) × (Nat → Int32) × (Nat → Nat → Int32)) (t : State) => va_P D vwCl (wX cI (D.1 99) zz g ad u.1 u.2.1 u.2.2) t.heap ∧ va_D A (wX cI (D.1 99) zz g ad u.1 u.2.1 u.2.2)) A)) rfl rfl pn_RX5 (Nat.le_of_ble_eq_true rfl) (fun p e s m below meth c A hx hb hml hown S hr hlocks hnm hA hP hK hD hXS hS ls hl => ?_)
  have hl : lv_has ls 2 [(0, .ref (g 6)), (1, .int v0)] := hl
  replace hB : CBXh cn := hB
  refine lv_iload_n hx hb dX5_opens_0 rfl (lvA1 hl) ?_
  refine lv_bipush (v := 6) hx hb dX5_opens_1 kbc_6 ?_
  refine lv_icmp_lt (tgt := 13) hx hb dX5_opens_3 rfl (fun c_1 => False.elim (by have tc_1 : (v0.toInt : Int) < 6 := Int32.lt_iff_toInt_lt.mp c_1; omega)) (fun c_1 => ?_)
  have tc_1 : (6 : Int) ≤ v0.toInt := Int32.le_iff_toInt_le.mp (Int32.not_lt.mp c_1)
  refine lv_aload_n hx hb (oc_42 6 (aq_6 shX5_opens_0)) rfl (lvA0 hl) ?_
  refine lv_iconst (v := 5) hx hb (oc_8 7 (aq_7 shX5_opens_0)) kic_5 ?_
  have hFc := free_all hD hS hA
  refine va_callv (runV_xa (As := [.int 5]) (rest := []) S (q_Rfail l D cI cB cZ zz qq vv bt g ad cn In Fn 5 s.heap.size hB (by omega) (by omega) (by omega) (by omega)) kV_RX5_47 hK hXS hS hFc hP hD 3 xo_3 rfl rfl ⟨Nat.le_of_ble_eq_true rfl, Nat.le_of_ble_eq_true rfl⟩ ⟨Nat.le_of_ble_eq_true rfl, Nat.le_of_ble_eq_true rfl⟩ rfl hl.1 rfl (Nat.le_of_ble_eq_true rfl) (oc_182 8 (aq_8 shX5_opens_0) uw_0_47)) hS (fun q _ h => hFc q h) hFc (fun u t H1 locs ht hvm wh_3 hB1 hz1 hk1 hS => ?_)
  obtain ⟨cn3, In3, Fn3⟩ := u
  obtain ⟨hP1, hD1⟩ := hB1
  rw [ht] at hP1
  have hP : va_P D vwCl (wX cI (D.1 99) zz g ad cn3 In3 Fn3) H1 := hP1
  have hD : va_D A (wX cI (D.1 99) zz g ad cn3 In3 Fn3) := hD1.weaken (fun _ _ _ h => hFc _ h)
  generalize H1 = H at hP hS ⊢
  have vh_3 : (fun c2 I2 F2 => Fr [32] [33] [] cn In Fn c2 I2 F2 ∧ CBX c2 ∧ (c2 31 = (cn 31) ∧ (cn 31) ≤ c2 32 ∧ c2 32 ≤ (cn 32))) cn3 In3 Fn3 := wh_3
  obtain ⟨hfc3, hIn3, h_3⟩ := vh_3
  obtain rfl : Fn = Fn3 := (funext (fun k => hfc3.2.2 k List.not_mem_nil)).symm
  have hf3 : Fr [31, 32] [33] [] cn In Fn cn3 In3 Fn := Fr.mo (Fr.tr (Fr.rf (cn := cn) (In := In) (Fn := Fn)) hfc3) (sbl rfl) (sbl rfl) (sbl rfl)
  replace hIn3 : CBXh cn3 := hIn3
  have : cn3 6 = (cn 6) := hfc3.1 6 (nml rfl)
  have : cn3 31 = (cn 31) := hfc3.1 31 (nml rfl)
  refine lv_iconst (v := 0) hx hb (oc_3 11 (aq_11 shX5_opens_0)) kic_0 ?_
  exact W.zret (v := 0) hx hb hr rfl (fun t ht hW => ⟨⟨0, (cn3, In3, Fn), rfl, ⟨(Fr.mo hf3 (sbl rfl) (sbl rfl) (sbl rfl)), hIn3, (by show (cn 31 ≤ cn3 31 ∧ cn3 31 ≤ cn3 32 ∧ cn3 32 ≤ cn 32) ∧ 0 = 0; exact ⟨by show cn 31 ≤ (cn3 31) ∧ (cn3 31) ≤ (cn3 32) ∧ (cn3 32) ≤ cn 32; omega, rfl⟩)⟩, by rw [ht]; exact hP, hD⟩, hS.F ht⟩) hS.2.2 (oc_172 12 (aq_12 shX5_opens_0))
set_option maxRecDepth 100000 in
set_option maxHeartbeats 4000000 in
theorem q_Tadd (l : Launch) (D : va_G) (cI cB cZ : ClassId) (zz qq vv : Nat) (bt : Nat → Int32) (g : Nat → Nat) (ad : Nat → Nat → Nat) (cn : Nat → Nat) (In : Nat → Int32) (Fn : Nat → Nat → Int32) (k0 : Nat) (v0 v1 : Int32) (sz : Nat) (hB : CBX cn) (hk : k0 < cn 6) (h9 : (Fn 199 k0).toInt ≤ 160) : Met l yX9_add (CWS yX9_add cX9_add 3 (some .int)) (RM 0 0 0) (PBx [.ref (ad 5 k0), .int v0, .int v1] D cI cB cZ zz qq vv bt (wX cI (D.1 99) zz g ad cn In Fn) sz) (va_Qi (fun (r : Int32) (u : (Nat → Nat) × (Nat → Int32) × (Nat → Nat → Int32)) => (fun r c2 I2 F2 => Fr [] [] [195, 301] cn In Fn c2 I2 F2 ∧ CBX c2 ∧ (True)) r u.1 u.2.1 u.2.2) (fun (u : (Nat → Nat) × (Nat → Int32) × (Nat → Nat → Int32)) (t : State) => va_P D vwCl (wX cI (D.1 99) zz g ad u.1 u.2.1 u.2.2) t.heap ∧ va_D (va_A (wX cI (D.1 99) zz g ad cn In Fn) sz) (wX cI (D.1 99) zz g ad u.1 u.2.1 u.2.2)) (va_A (wX cI (D.1 99) zz g ad cn In Fn) sz)) 0 0 (va_A (wX cI (D.1 99) zz g ad cn In Fn) sz) := by
  refine en_x (fun A => (va_Qi (fun (r : Int32) (u : (Nat → Nat) × (Nat → Int32) × (Nat → Nat → Int32)) => (fun (r : Int32) (c2 : Nat → Nat) (I2 : Nat → Int32) (F2 : Nat → Nat → Int32) => Fr [] [] [195, 301] cn In Fn c2 I2 F2 ∧ CBX c2 ∧ (True)) r u.1 u.2.1 u.2.2) (fun (u : (Nat → Nat) × (Nat → Int32) × (Nat → Nat → Int32)) (t : State) => va_P D vwCl (wX cI (D.1 99) zz g ad u.1 u.2.1 u.2.2) t.heap ∧ va_D A (wX cI (D.1 99) zz g ad u.1 u.2.1 u.2.2)) A)) rfl rfl pn_RX9 (Nat.le_of_ble_eq_true rfl) (fun p e s m below meth c A hx hb hml hown S hr hlocks hnm hA hP hK hD hXS hS ls hl => ?_)
  have hl : lv_has ls 3 [(0, .ref (ad 5 k0)), (1, .int v0), (2, .int v1)] := hl
  have hb_cn : Hid (CBX cn) := hB
  replace hB : CBXh cn := hB
  refine lv_aload_n hx hb (oc_42 0 shX9_add_0) rfl (lvA0 hl) ?_
  refine gf_RX9_33 S hK hP _ (xf_7 hk) (v := .int ((Fn 195) k0)) rfl (oc_180 1 (aq_1 shX9_add_0) uw_0_33) ?_
  refine lv_if_lt (tgt := 34) hx hb (oc_155 4 (aq_4 shX9_add_0) sgw_0_30) rfl (fun c_1 => ?_) (fun c_1 => ?_)
  ·
    have tc_1 : (((Fn 195) k0).toInt : Int) < 0 := Int32.lt_iff_toInt_lt.mp c_1
    refine lv_aload_n hx hb dX9_add_34 rfl (lvA0 hl) ?_
    refine lv_dup hx hb dX9_add_35 rfl ?_
    refine gf_RX9_33 S hK hP _ (xf_7 hk) (v := .int ((Fn 195) k0)) rfl dX9_add_36 ?_
    refine lv_iconst (v := 1) hx hb dX9_add_39 kic_1 ?_
    refine lv_iadd hx hb dX9_add_40 ?_
    refine pf_RX9_33 S hK hP hD hS _ (xf_7 hk) (v := .int (((Fn 195) k0) + 1)) (Nat.le_of_ble_eq_true rfl) rfl rfl dX9_add_41 (fun H locs hP hD hS => ?_)
    have hP : va_P D vwCl (wX cI (D.1 99) zz g ad cn In (va_up Fn 195 (upd (Fn 195) k0 (((Fn 195) k0) + 1)))) H := va_P_eq (xs_195 (by (first | omega | (have zz0 := Hid.u hb_cn; omega)))) hP
    have hD : va_D A (wX cI (D.1 99) zz g ad cn In (va_up Fn 195 (upd (Fn 195) k0 (((Fn 195) k0) + 1)))) := va_D_eq (xs_195 (by (first | omega | (have zz0 := Hid.u hb_cn; omega)))) hD
    refine lv_aload_n hx hb dX9_add_44 rfl (lvA0 hl) ?_
    refine gf_RX9_33 S hK hP _ (xf_7 hk) (v := .int ((upd (Fn 195) k0 (((Fn 195) k0) + 1)) k0)) rfl dX9_add_45 ?_
    refine lv_iconst (v := 1) hx hb dX9_add_48 kic_1 ?_
    refine lv_isub hx hb dX9_add_49 ?_
    exact W.iret (v := (((upd (Fn 195) k0 (((Fn 195) k0) + 1)) k0) - 1)) hx hb hr (fun t ht hW => ⟨⟨(((upd (Fn 195) k0 (((Fn 195) k0) + 1)) k0) - 1), (cn, In, (va_up Fn 195 (upd (Fn 195) k0 (((Fn 195) k0) + 1)))), rfl, ⟨(Fr.mo (Fr.f 195 Fr.rf) (sbl rfl) (sbl rfl) (sbl rfl)), hB, trivial⟩, by rw [ht]; exact hP, hD⟩, hS.F ht⟩) hS.2.2 dX9_add_50
  ·
    have tc_1 : (0 : Int) ≤ ((Fn 195) k0).toInt := Int32.le_iff_toInt_le.mp (Int32.not_lt.mp c_1)
    refine lv_aload_n hx hb (oc_42 7 (aq_7 shX9_add_0)) rfl (lvA0 hl) ?_
    refine gf_RX9_33 S hK hP _ (xf_7 hk) (v := .int ((Fn 195) k0)) rfl (oc_180 8 (aq_8 shX9_add_0) uw_0_33) ?_
    refine lv_aload_n hx hb (oc_42 11 (aq_11 shX9_add_0)) rfl (lvA0 hl) ?_
    refine gf_RX9_17 S hK hP _ (xf_7 hk) (v := .ref (ad 60 k0)) rfl (oc_180 12 (aq_12 shX9_add_0) uw_0_17) ?_
    refine va_alen hx hb hK.1 hP _ 0 (xf_8 hk) rfl (v := (nI ((Fn 199) k0).toInt.toNat)) rfl (oc_190 15 (aq_15 shX9_add_0)) ?_
    have : (nI (((Fn 199) k0).toInt.toNat)).toInt = ((((Fn 199) k0).toInt.toNat : Nat) : Int) := nI_toInt (by (first | omega | (have zz0 := Hid.u hb_cn; omega)))
    refine lv_icmp_ge (tgt := 34) hx hb (oc_162 16 (aq_16 shX9_add_0) sgw_0_18) rfl (fun c_2 => ?_) (fun c_2 => ?_)
    ·
      have tc_2 : ((nI ((Fn 199) k0).toInt.toNat).toInt : Int) ≤ ((Fn 195) k0).toInt := Int32.le_iff_toInt_le.mp c_2
      refine lv_aload_n hx hb dX9_add_34 rfl (lvA0 hl) ?_
      refine lv_dup hx hb dX9_add_35 rfl ?_
      refine gf_RX9_33 S hK hP _ (xf_7 hk) (v := .int ((Fn 195) k0)) rfl dX9_add_36 ?_
      refine lv_iconst (v := 1) hx hb dX9_add_39 kic_1 ?_
      refine lv_iadd hx hb dX9_add_40 ?_
      refine pf_RX9_33 S hK hP hD hS _ (xf_7 hk) (v := .int (((Fn 195) k0) + 1)) (Nat.le_of_ble_eq_true rfl) rfl rfl dX9_add_41 (fun H locs hP hD hS => ?_)
      have hP : va_P D vwCl (wX cI (D.1 99) zz g ad cn In (va_up Fn 195 (upd (Fn 195) k0 (((Fn 195) k0) + 1)))) H := va_P_eq (xs_195 (by (first | omega | (have zz0 := Hid.u hb_cn; omega)))) hP
      have hD : va_D A (wX cI (D.1 99) zz g ad cn In (va_up Fn 195 (upd (Fn 195) k0 (((Fn 195) k0) + 1)))) := va_D_eq (xs_195 (by (first | omega | (have zz0 := Hid.u hb_cn; omega)))) hD
      refine lv_aload_n hx hb dX9_add_44 rfl (lvA0 hl) ?_
      refine gf_RX9_33 S hK hP _ (xf_7 hk) (v := .int ((upd (Fn 195) k0 (((Fn 195) k0) + 1)) k0)) rfl dX9_add_45 ?_
      refine lv_iconst (v := 1) hx hb dX9_add_48 kic_1 ?_
      refine lv_isub hx hb dX9_add_49 ?_
      exact W.iret (v := (((upd (Fn 195) k0 (((Fn 195) k0) + 1)) k0) - 1)) hx hb hr (fun t ht hW => ⟨⟨(((upd (Fn 195) k0 (((Fn 195) k0) + 1)) k0) - 1), (cn, In, (va_up Fn 195 (upd (Fn 195) k0 (((Fn 195) k0) + 1)))), rfl, ⟨(Fr.mo (Fr.f 195 Fr.rf) (sbl rfl) (sbl rfl) (sbl rfl)), hB, trivial⟩, by rw [ht]; exact hP, hD⟩, hS.F ht⟩) hS.2.2 dX9_add_50
    ·
      have tc_2 : (((Fn 195) k0).toInt : Int) < (nI ((Fn 199) k0).toInt.toNat).toInt := Int32.lt_iff_toInt_lt.mp (Int32.not_le.mp c_2)
      refine lv_aload_n hx hb (oc_42 19 (aq_19 shX9_add_0)) rfl (lvA0 hl) ?_
      refine gf_RX9_17 S hK hP _ (xf_7 hk) (v := .ref (ad 60 k0)) rfl (oc_180 20 (aq_20 shX9_add_0) uw_0_17) ?_
      refine lv_aload_n hx hb (oc_42 23 (aq_23 shX9_add_0)) rfl (lvA0 hl) ?_
      refine gf_RX9_33 S hK hP _ (xf_7 hk) (v := .int ((Fn 195) k0)) rfl (oc_180 24 shX9_add_24 uw_0_33) ?_
      refine lv_iload_n hx hb (oc_27 27 (aq_3 shX9_add_24)) rfl (lvA1 hl) ?_
      refine lv_bipush (v := 20) hx hb (oc_16 28 (aq_4 shX9_add_24) sgb_20) kbc_20 ?_
      refine lv_ishl hx hb (oc_120 30 (aq_6 shX9_add_24)) ?_
      refine lv_iload_n hx hb (oc_28 31 (aq_7 shX9_add_24)) rfl (lvA2 hl) ?_
      refine lv_ior hx hb (oc_128 32 (aq_8 shX9_add_24)) ?_
      refine va_iast hx hb hK.1 hP hD hS _ 0 (xf_8 hk) rfl (vp_in_iff.mpr ⟨by (first | omega | (have zz0 := Hid.u hb_cn; omega)), by (first | omega | (have zz0 := Hid.u hb_cn; omega))⟩) (oc_79 33 (aq_9 shX9_add_24)) (fun H locs hP hD hS => ?_)
      have hP : va_P D vwCl (wX cI (D.1 99) zz g ad cn In (va_up Fn 301 (flat (Fn 301) 200 k0 (upd (gA (Fn 301) 200 k0) ((Fn 195) k0).toNatClampNeg ((v0 <<< (20 &&& 31)) ||| v1))))) H := va_P_eq (xsg_8 hk (upd_z (by (first | omega | (have zz0 := Hid.u hb_cn; omega))) gA_z)) hP
      have hD : va_D A (wX cI (D.1 99) zz g ad cn In (va_up Fn 301 (flat (Fn 301) 200 k0 (upd (gA (Fn 301) 200 k0) ((Fn 195) k0).toNatClampNeg ((v0 <<< (20 &&& 31)) ||| v1))))) := va_D_eq (xsg_8 hk (upd_z (by (first | omega | (have zz0 := Hid.u hb_cn; omega))) gA_z)) hD
      refine lv_aload_n hx hb dX9_add_34 rfl (lvA0 hl) ?_
      refine lv_dup hx hb dX9_add_35 rfl ?_
      refine gf_RX9_33 S hK hP _ (xf_7 hk) (v := .int ((Fn 195) k0)) rfl dX9_add_36 ?_
      refine lv_iconst (v := 1) hx hb dX9_add_39 kic_1 ?_
      refine lv_iadd hx hb dX9_add_40 ?_
      refine pf_RX9_33 S hK hP hD hS _ (xf_7 hk) (v := .int (((Fn 195) k0) + 1)) (Nat.le_of_ble_eq_true rfl) rfl rfl dX9_add_41 (fun H locs hP hD hS => ?_)
      have hP : va_P D vwCl (wX cI (D.1 99) zz g ad cn In (va_up (va_up Fn 301 (flat (Fn 301) 200 k0 (upd (gA (Fn 301) 200 k0) ((Fn 195) k0).toNatClampNeg ((v0 <<< (20 &&& 31)) ||| v1)))) 195 (upd (Fn 195) k0 (((Fn 195) k0) + 1)))) H := va_P_eq (xs_195 (by (first | omega | (have zz0 := Hid.u hb_cn; omega)))) hP
      have hD : va_D A (wX cI (D.1 99) zz g ad cn In (va_up (va_up Fn 301 (flat (Fn 301) 200 k0 (upd (gA (Fn 301) 200 k0) ((Fn 195) k0).toNatClampNeg ((v0 <<< (20 &&& 31)) ||| v1)))) 195 (upd (Fn 195) k0 (((Fn 195) k0) + 1)))) := va_D_eq (xs_195 (by (first | omega | (have zz0 := Hid.u hb_cn; omega)))) hD
      refine lv_aload_n hx hb dX9_add_44 rfl (lvA0 hl) ?_
      refine gf_RX9_33 S hK hP _ (xf_7 hk) (v := .int ((upd (Fn 195) k0 (((Fn 195) k0) + 1)) k0)) rfl dX9_add_45 ?_
      refine lv_iconst (v := 1) hx hb dX9_add_48 kic_1 ?_
      refine lv_isub hx hb dX9_add_49 ?_
      exact W.iret (v := (((upd (Fn 195) k0 (((Fn 195) k0) + 1)) k0) - 1)) hx hb hr (fun t ht hW => ⟨⟨(((upd (Fn 195) k0 (((Fn 195) k0) + 1)) k0) - 1), (cn, In, (va_up (va_up Fn 301 (flat (Fn 301) 200 k0 (upd (gA (Fn 301) 200 k0) ((Fn 195) k0).toNatClampNeg ((v0 <<< (20 &&& 31)) ||| v1)))) 195 (upd (Fn 195) k0 (((Fn 195) k0) + 1)))), rfl, ⟨(Fr.mo (Fr.f 195 (Fr.f 301 Fr.rf)) (sbl rfl) (sbl rfl) (sbl rfl)), hB, trivial⟩, by rw [ht]; exact hP, hD⟩, hS.F ht⟩) hS.2.2 dX9_add_50
set_option maxRecDepth 100000 in
set_option maxHeartbeats 4000000 in
theorem q_Taim (l : Launch) (D : va_G) (cI cB cZ : ClassId) (zz qq vv : Nat) (bt : Nat → Int32) (g : Nat → Nat) (ad : Nat → Nat → Nat) (cn : Nat → Nat) (In : Nat → Int32) (Fn : Nat → Nat → Int32) (k0 : Nat) (v0 : Int32) (sz : Nat) (hB : CBX cn) (hk : k0 < cn 6) (h9 : (Fn 199 k0).toInt ≤ 160) : Met l yX9_aim (CWS yX9_aim cX9_aim 2 none) (RM 1 0 0) (PBx [.ref (ad 5 k0), .int v0] D cI cB cZ zz qq vv bt (wX cI (D.1 99) zz g ad cn In Fn) sz) (va_Qv (fun (u : (Nat → Nat) × (Nat → Int32) × (Nat → Nat → Int32)) => (fun c2 I2 F2 => Fr [] [] [301] cn In Fn c2 I2 F2 ∧ CBX c2 ∧ (True)) u.1 u.2.1 u.2.2) (fun (u : (Nat → Nat) × (Nat → Int32) × (Nat → Nat → Int32)) (t : State) => va_P D vwCl (wX cI (D.1 99) zz g ad u.1 u.2.1 u.2.2) t.heap ∧ va_D (va_A (wX cI (D.1 99) zz g ad cn In Fn) sz) (wX cI (D.1 99) zz g ad u.1 u.2.1 u.2.2)) (va_A (wX cI (D.1 99) zz g ad cn In Fn) sz)) 0 0 (va_A (wX cI (D.1 99) zz g ad cn In Fn) sz) := by
  refine en_x (fun A => (va_Qv (fun (u : (Nat → Nat) × (Nat → Int32) × (Nat → Nat → Int32)) => (fun (c2 : Nat → Nat) (I2 : Nat → Int32) (F2 : Nat → Nat → Int32) => Fr [] [] [301] cn In Fn c2 I2 F2 ∧ CBX c2 ∧ (True)) u.1 u.2.1 u.2.2) (fun (u : (Nat → Nat) × (Nat → Int32) × (Nat → Nat → Int32)) (t : State) => va_P D vwCl (wX cI (D.1 99) zz g ad u.1 u.2.1 u.2.2) t.heap ∧ va_D A (wX cI (D.1 99) zz g ad u.1 u.2.1 u.2.2)) A)) rfl rfl pn_RX9 (Nat.le_of_ble_eq_true rfl) (fun p e s m below meth c A hx hb hml hown S hr hlocks hnm hA hP hK hD hXS hS ls hl => ?_)
  have hl : lv_has ls 2 [(0, .ref (ad 5 k0)), (1, .int v0)] := hl
  have hb_cn : Hid (CBX cn) := hB
  replace hB : CBXh cn := hB
  refine lv_aload_n hx hb (oc_42 0 shX9_aim_0) rfl (lvA0 hl) ?_
  refine gf_RX9_17 S hK hP _ (xf_7 hk) (v := .ref (ad 60 k0)) rfl (oc_180 1 (aq_1 shX9_aim_0) uw_0_17) ?_
  refine lv_iload_n hx hb (oc_27 4 (aq_4 shX9_aim_0)) rfl (lvA1 hl) ?_
  refine lv_aload_n hx hb (oc_42 5 (aq_5 shX9_aim_0)) rfl (lvA0 hl) ?_
  refine gf_RX9_17 S hK hP _ (xf_7 hk) (v := .ref (ad 60 k0)) rfl (oc_180 6 (aq_6 shX9_aim_0) uw_0_17) ?_
  refine lv_iload_n hx hb (oc_27 9 (aq_9 shX9_aim_0)) rfl (lvA1 hl) ?_
  refine vp_callSi (runS_r (As := [.ref (ad 60 k0), .int v0]) (rest := [.int v0, .ref (ad 60 k0)]) S (q_l_at l D cI cB cZ (ad 60 k0) (((Fn 199) k0).toInt.toNat) (gA (Fn 301) 200 k0) v0 (i32n _)) kS_RX9_37 hK hP _ (one_is (xf_8 hk)) ⟨Nat.le_of_ble_eq_true rfl, Nat.le_of_ble_eq_true rfl⟩ ⟨Nat.le_of_ble_eq_true rfl, Nat.le_of_ble_eq_true rfl⟩ rfl hl.1 rfl (Nat.le_of_ble_eq_true rfl) (oc_184 10 (aq_10 shX9_aim_0) uw_0_37)) (fun r_1 h_2 => ?_)
  subst h_2
  refine lv_ldc (v := (-1048576)) hx hb hown (S.2.2.2.2 _ (wk3_17 2 rfl rfl)) (oc_18 13 (aq_13 shX9_aim_0) ub_43) ?_
  refine lv_iand hx hb (oc_126 15 (aq_15 shX9_aim_0)) ?_
  refine lv_aload_n hx hb (oc_42 16 (aq_16 shX9_aim_0)) rfl (lvA0 hl) ?_
  refine gf_RX9_33 S hK hP _ (xf_7 hk) (v := .int ((Fn 195) k0)) rfl (oc_180 17 (aq_17 shX9_aim_0) uw_0_33) ?_
  refine lv_ior hx hb (oc_128 20 (aq_20 shX9_aim_0)) ?_
  have hFc := va_free (wc := [((ad 60 k0), .inl (cI, ((Fn 199) k0).toInt.toNat, .inl (gA (Fn 301) 200 k0)))]) hD hS hA _ (one_im (xf_8 hk))
  refine va_callv (runS_w (As := [.ref (ad 60 k0), .int v0, .int (((atM (gA (Fn 301) 200 k0) (((Fn 199) k0).toInt.toNat) v0) &&& (-1048576)) ||| ((Fn 195) k0))]) (rest := []) S (q_l_put l D cI cB cZ (ad 60 k0) (((Fn 199) k0).toInt.toNat) (gA (Fn 301) 200 k0) v0 (((atM (gA (Fn 301) 200 k0) (((Fn 199) k0).toInt.toNat) v0) &&& (-1048576)) ||| ((Fn 195) k0)) s.heap.size (i32n _)) kS_RX9_44 hK hP hD _ (one_is (xf_8 hk)) (one_im (xf_8 hk)) rfl ⟨Nat.le_of_ble_eq_true rfl, Nat.le_of_ble_eq_true rfl⟩ ⟨Nat.le_of_ble_eq_true rfl, Nat.le_of_ble_eq_true rfl⟩ rfl hl.1 rfl (Nat.le_of_ble_eq_true rfl) (oc_184 21 (aq_21 shX9_aim_0) uw_0_44)) hS (fun q _ h => hFc q h) hFc (fun u_5 t H1 locs ht hvm h_4 hB1 hz1 hk1 hS => ?_)
  obtain ⟨hP1, hD1⟩ := hB1
  rw [ht] at hP1
  obtain ⟨hP, hD⟩ := wset1 hP hD (xf_8 hk) hk1 hP1
  obtain rfl : u_5 = (putM (gA (Fn 301) 200 k0) ((Fn 199) k0).toInt.toNat v0 (((atM (gA (Fn 301) 200 k0) (((Fn 199) k0).toInt.toNat) v0) &&& (-1048576)) ||| ((Fn 195) k0))) := h_4
  generalize H1 = H at hP hS ⊢
  have hP : va_P D vwCl (wX cI (D.1 99) zz g ad cn In (va_up Fn 301 (flat (Fn 301) 200 k0 (putM (gA (Fn 301) 200 k0) ((Fn 199) k0).toInt.toNat v0 (((atM (gA (Fn 301) 200 k0) (((Fn 199) k0).toInt.toNat) v0) &&& (-1048576)) ||| ((Fn 195) k0)))))) H := va_P_eq (xsg_8 (by (first | omega | (have zz0 := Hid.u hb_cn; omega))) (putM_z (by (first | omega | (have zz0 := Hid.u hb_cn; omega))) gA_z)) hP
  have hD : va_D A (wX cI (D.1 99) zz g ad cn In (va_up Fn 301 (flat (Fn 301) 200 k0 (putM (gA (Fn 301) 200 k0) ((Fn 199) k0).toInt.toNat v0 (((atM (gA (Fn 301) 200 k0) (((Fn 199) k0).toInt.toNat) v0) &&& (-1048576)) ||| ((Fn 195) k0)))))) := va_D_eq (xsg_8 (by (first | omega | (have zz0 := Hid.u hb_cn; omega))) (putM_z (by (first | omega | (have zz0 := Hid.u hb_cn; omega))) gA_z)) hD
  exact W.vret hx hb hr (fun t ht hW => ⟨⟨(cn, In, (va_up Fn 301 (flat (Fn 301) 200 k0 (putM (gA (Fn 301) 200 k0) ((Fn 199) k0).toInt.toNat v0 (((atM (gA (Fn 301) 200 k0) (((Fn 199) k0).toInt.toNat) v0) &&& (-1048576)) ||| ((Fn 195) k0)))))), rfl, ⟨(Fr.mo (Fr.f 301 Fr.rf) (sbl rfl) (sbl rfl) (sbl rfl)), hB, trivial⟩, by rw [ht]; exact hP, hD⟩, hS.F ht⟩) hS.2.2 (oc_177 24 shX9_aim_24)
set_option maxRecDepth 100000 in
set_option maxHeartbeats 4000000 in
theorem q_TstartSum (l : Launch) (D : va_G) (cI cB cZ : ClassId) (zz qq vv : Nat) (bt : Nat → Int32) (g : Nat → Nat) (ad : Nat → Nat → Nat) (cn : Nat → Nat) (In : Nat → Int32) (Fn : Nat → Nat → Int32) (k0 : Nat) (sz : Nat) (hB : CBX cn) (hk : k0 < cn 6) : Met l yX9_startSum (CWS yX9_startSum cX9_startSum 1 none) (RM 1 0 0) (PBx [.ref (ad 5 k0)] D cI cB cZ zz qq vv bt (wX cI (D.1 99) zz g ad cn In Fn) sz) (va_Qv (fun (u : (Nat → Nat) × (Nat → Int32) × (Nat → Nat → Int32)) => (fun c2 I2 F2 => Fr [] [] [302] cn In Fn c2 I2 F2 ∧ CBX c2 ∧ (True)) u.1 u.2.1 u.2.2) (fun (u : (Nat → Nat) × (Nat → Int32) × (Nat → Nat → Int32)) (t : State) => va_P D vwCl (wX cI (D.1 99) zz g ad u.1 u.2.1 u.2.2) t.heap ∧ va_D (va_A (wX cI (D.1 99) zz g ad cn In Fn) sz) (wX cI (D.1 99) zz g ad u.1 u.2.1 u.2.2)) (va_A (wX cI (D.1 99) zz g ad cn In Fn) sz)) 0 0 (va_A (wX cI (D.1 99) zz g ad cn In Fn) sz) := by
  refine en_x (fun A => (va_Qv (fun (u : (Nat → Nat) × (Nat → Int32) × (Nat → Nat → Int32)) => (fun (c2 : Nat → Nat) (I2 : Nat → Int32) (F2 : Nat → Nat → Int32) => Fr [] [] [302] cn In Fn c2 I2 F2 ∧ CBX c2 ∧ (True)) u.1 u.2.1 u.2.2) (fun (u : (Nat → Nat) × (Nat → Int32) × (Nat → Nat → Int32)) (t : State) => va_P D vwCl (wX cI (D.1 99) zz g ad u.1 u.2.1 u.2.2) t.heap ∧ va_D A (wX cI (D.1 99) zz g ad u.1 u.2.1 u.2.2)) A)) rfl rfl pn_RX9 (Nat.le_of_ble_eq_true rfl) (fun p e s m below meth c A hx hb hml hown S hr hlocks hnm hA hP hK hD hXS hS ls hl => ?_)
  have hl : lv_has ls 1 [(0, .ref (ad 5 k0))] := hl
  have hb_cn : Hid (CBX cn) := hB
  replace hB : CBXh cn := hB
  refine lv_aload_n hx hb (oc_42 0 shX9_startSum_0) rfl (lvA0 hl) ?_
  refine gf_RX9_21 S hK hP _ (xf_7 hk) (v := .ref (ad 61 k0)) rfl (oc_180 1 (aq_1 shX9_startSum_0) uw_0_21) ?_
  refine lv_aload_n hx hb (oc_42 4 (aq_4 shX9_startSum_0)) rfl (lvA0 hl) ?_
  refine gf_RX9_48 S hK hP _ (xf_7 hk) (v := .int ((Fn 198) k0)) rfl (oc_180 5 (aq_5 shX9_startSum_0) uw_0_48) ?_
  refine lv_aload_n hx hb (oc_42 8 (aq_8 shX9_startSum_0)) rfl (lvA0 hl) ?_
  refine gf_RX9_33 S hK hP _ (xf_7 hk) (v := .int ((Fn 195) k0)) rfl (oc_180 9 (aq_9 shX9_startSum_0) uw_0_33) ?_
  have hFc := va_free (wc := [((ad 61 k0), .inl (cI, 12, .inl (gA (Fn 302) 12 k0)))]) hD hS hA _ (one_im (xf_9 hk))
  refine va_callv (runS_w (As := [.ref (ad 61 k0), .int ((Fn 198) k0), .int ((Fn 195) k0)]) (rest := []) S (q_l_put l D cI cB cZ (ad 61 k0) 12 (gA (Fn 302) 12 k0) ((Fn 198) k0) ((Fn 195) k0) s.heap.size (by (first | omega | (have zz0 := Hid.u hb_cn; omega)))) kS_RX9_44 hK hP hD _ (one_is (xf_9 hk)) (one_im (xf_9 hk)) rfl ⟨Nat.le_of_ble_eq_true rfl, Nat.le_of_ble_eq_true rfl⟩ ⟨Nat.le_of_ble_eq_true rfl, Nat.le_of_ble_eq_true rfl⟩ rfl hl.1 rfl (Nat.le_of_ble_eq_true rfl) (oc_184 12 (aq_12 shX9_startSum_0) uw_0_44)) hS (fun q _ h => hFc q h) hFc (fun u_3 t H1 locs ht hvm h_2 hB1 hz1 hk1 hS => ?_)
  obtain ⟨hP1, hD1⟩ := hB1
  rw [ht] at hP1
  obtain ⟨hP, hD⟩ := wset1 hP hD (xf_9 hk) hk1 hP1
  obtain rfl : u_3 = (putM (gA (Fn 302) 12 k0) 12 ((Fn 198) k0) ((Fn 195) k0)) := h_2
  generalize H1 = H at hP hS ⊢
  have hP : va_P D vwCl (wX cI (D.1 99) zz g ad cn In (va_up Fn 302 (flat (Fn 302) 12 k0 (putM (gA (Fn 302) 12 k0) 12 ((Fn 198) k0) ((Fn 195) k0))))) H := va_P_eq (xsg_9 (by (first | omega | (have zz0 := Hid.u hb_cn; omega))) (putM_z (by (first | omega | (have zz0 := Hid.u hb_cn; omega))) gA_z)) hP
  have hD : va_D A (wX cI (D.1 99) zz g ad cn In (va_up Fn 302 (flat (Fn 302) 12 k0 (putM (gA (Fn 302) 12 k0) 12 ((Fn 198) k0) ((Fn 195) k0))))) := va_D_eq (xsg_9 (by (first | omega | (have zz0 := Hid.u hb_cn; omega))) (putM_z (by (first | omega | (have zz0 := Hid.u hb_cn; omega))) gA_z)) hD
  exact W.vret hx hb hr (fun t ht hW => ⟨⟨(cn, In, (va_up Fn 302 (flat (Fn 302) 12 k0 (putM (gA (Fn 302) 12 k0) 12 ((Fn 198) k0) ((Fn 195) k0))))), rfl, ⟨(Fr.mo (Fr.f 302 Fr.rf) (sbl rfl) (sbl rfl) (sbl rfl)), hB, trivial⟩, by rw [ht]; exact hP, hD⟩, hS.F ht⟩) hS.2.2 (oc_177 15 (aq_15 shX9_startSum_0))
set_option maxRecDepth 100000 in
set_option maxHeartbeats 4000000 in
theorem q_TstartCondition (l : Launch) (D : va_G) (cI cB cZ : ClassId) (zz qq vv : Nat) (bt : Nat → Int32) (g : Nat → Nat) (ad : Nat → Nat → Nat) (cn : Nat → Nat) (In : Nat → Int32) (Fn : Nat → Nat → Int32) (k0 : Nat) (sz : Nat) (hB : CBX cn) (hk : k0 < cn 6) : Met l yX9_startCondition (CWS yX9_startCondition cX9_startCondition 1 none) (RM 1 0 0) (PBx [.ref (ad 5 k0)] D cI cB cZ zz qq vv bt (wX cI (D.1 99) zz g ad cn In Fn) sz) (va_Qv (fun (u : (Nat → Nat) × (Nat → Int32) × (Nat → Nat → Int32)) => (fun c2 I2 F2 => Fr [] [] [303] cn In Fn c2 I2 F2 ∧ CBX c2 ∧ (True)) u.1 u.2.1 u.2.2) (fun (u : (Nat → Nat) × (Nat → Int32) × (Nat → Nat → Int32)) (t : State) => va_P D vwCl (wX cI (D.1 99) zz g ad u.1 u.2.1 u.2.2) t.heap ∧ va_D (va_A (wX cI (D.1 99) zz g ad cn In Fn) sz) (wX cI (D.1 99) zz g ad u.1 u.2.1 u.2.2)) (va_A (wX cI (D.1 99) zz g ad cn In Fn) sz)) 0 0 (va_A (wX cI (D.1 99) zz g ad cn In Fn) sz) := by
  refine en_x (fun A => (va_Qv (fun (u : (Nat → Nat) × (Nat → Int32) × (Nat → Nat → Int32)) => (fun (c2 : Nat → Nat) (I2 : Nat → Int32) (F2 : Nat → Nat → Int32) => Fr [] [] [303] cn In Fn c2 I2 F2 ∧ CBX c2 ∧ (True)) u.1 u.2.1 u.2.2) (fun (u : (Nat → Nat) × (Nat → Int32) × (Nat → Nat → Int32)) (t : State) => va_P D vwCl (wX cI (D.1 99) zz g ad u.1 u.2.1 u.2.2) t.heap ∧ va_D A (wX cI (D.1 99) zz g ad u.1 u.2.1 u.2.2)) A)) rfl rfl pn_RX9 (Nat.le_of_ble_eq_true rfl) (fun p e s m below meth c A hx hb hml hown S hr hlocks hnm hA hP hK hD hXS hS ls hl => ?_)
  have hl : lv_has ls 1 [(0, .ref (ad 5 k0))] := hl
  have hb_cn : Hid (CBX cn) := hB
  replace hB : CBXh cn := hB
  refine lv_aload_n hx hb (oc_42 0 shX9_startCondition_0) rfl (lvA0 hl) ?_
  refine gf_RX9_24 S hK hP _ (xf_7 hk) (v := .ref (ad 62 k0)) rfl (oc_180 1 (aq_1 shX9_startCondition_0) uw_0_24) ?_
  refine lv_aload_n hx hb (oc_42 4 (aq_4 shX9_startCondition_0)) rfl (lvA0 hl) ?_
  refine gf_RX9_48 S hK hP _ (xf_7 hk) (v := .int ((Fn 198) k0)) rfl (oc_180 5 (aq_5 shX9_startCondition_0) uw_0_48) ?_
  refine lv_aload_n hx hb (oc_42 8 (aq_8 shX9_startCondition_0)) rfl (lvA0 hl) ?_
  refine gf_RX9_33 S hK hP _ (xf_7 hk) (v := .int ((Fn 195) k0)) rfl (oc_180 9 (aq_9 shX9_startCondition_0) uw_0_33) ?_
  have hFc := va_free (wc := [((ad 62 k0), .inl (cI, 12, .inl (gA (Fn 303) 12 k0)))]) hD hS hA _ (one_im (xf_10 hk))
  refine va_callv (runS_w (As := [.ref (ad 62 k0), .int ((Fn 198) k0), .int ((Fn 195) k0)]) (rest := []) S (q_l_put l D cI cB cZ (ad 62 k0) 12 (gA (Fn 303) 12 k0) ((Fn 198) k0) ((Fn 195) k0) s.heap.size (by (first | omega | (have zz0 := Hid.u hb_cn; omega)))) kS_RX9_44 hK hP hD _ (one_is (xf_10 hk)) (one_im (xf_10 hk)) rfl ⟨Nat.le_of_ble_eq_true rfl, Nat.le_of_ble_eq_true rfl⟩ ⟨Nat.le_of_ble_eq_true rfl, Nat.le_of_ble_eq_true rfl⟩ rfl hl.1 rfl (Nat.le_of_ble_eq_true rfl) (oc_184 12 (aq_12 shX9_startCondition_0) uw_0_44)) hS (fun q _ h => hFc q h) hFc (fun u_3 t H1 locs ht hvm h_2 hB1 hz1 hk1 hS => ?_)
  obtain ⟨hP1, hD1⟩ := hB1
  rw [ht] at hP1
  obtain ⟨hP, hD⟩ := wset1 hP hD (xf_10 hk) hk1 hP1
  obtain rfl : u_3 = (putM (gA (Fn 303) 12 k0) 12 ((Fn 198) k0) ((Fn 195) k0)) := h_2
  generalize H1 = H at hP hS ⊢
  have hP : va_P D vwCl (wX cI (D.1 99) zz g ad cn In (va_up Fn 303 (flat (Fn 303) 12 k0 (putM (gA (Fn 303) 12 k0) 12 ((Fn 198) k0) ((Fn 195) k0))))) H := va_P_eq (xsg_10 (by (first | omega | (have zz0 := Hid.u hb_cn; omega))) (putM_z (by (first | omega | (have zz0 := Hid.u hb_cn; omega))) gA_z)) hP
  have hD : va_D A (wX cI (D.1 99) zz g ad cn In (va_up Fn 303 (flat (Fn 303) 12 k0 (putM (gA (Fn 303) 12 k0) 12 ((Fn 198) k0) ((Fn 195) k0))))) := va_D_eq (xsg_10 (by (first | omega | (have zz0 := Hid.u hb_cn; omega))) (putM_z (by (first | omega | (have zz0 := Hid.u hb_cn; omega))) gA_z)) hD
  exact W.vret hx hb hr (fun t ht hW => ⟨⟨(cn, In, (va_up Fn 303 (flat (Fn 303) 12 k0 (putM (gA (Fn 303) 12 k0) 12 ((Fn 198) k0) ((Fn 195) k0))))), rfl, ⟨(Fr.mo (Fr.f 303 Fr.rf) (sbl rfl) (sbl rfl) (sbl rfl)), hB, trivial⟩, by rw [ht]; exact hP, hD⟩, hS.F ht⟩) hS.2.2 (oc_177 15 (aq_15 shX9_startCondition_0))
set_option maxRecDepth 100000 in
set_option maxHeartbeats 4000000 in
theorem q_TendClause (l : Launch) (D : va_G) (cI cB cZ : ClassId) (zz qq vv : Nat) (bt : Nat → Int32) (g : Nat → Nat) (ad : Nat → Nat → Nat) (cn : Nat → Nat) (In : Nat → Int32) (Fn : Nat → Nat → Int32) (k0 : Nat) (sz : Nat) (hB : CBX cn) (hk : k0 < cn 6) : Met l yX9_endClause (CWS yX9_endClause cX9_endClause 1 none) (RM 1 0 0) (PBx [.ref (ad 5 k0)] D cI cB cZ zz qq vv bt (wX cI (D.1 99) zz g ad cn In Fn) sz) (va_Qv (fun (u : (Nat → Nat) × (Nat → Int32) × (Nat → Nat → Int32)) => (fun c2 I2 F2 => Fr [] [] [198, 304] cn In Fn c2 I2 F2 ∧ CBX c2 ∧ (F2 198 = upd (Fn 198) k0 (Fn 198 k0 + 1))) u.1 u.2.1 u.2.2) (fun (u : (Nat → Nat) × (Nat → Int32) × (Nat → Nat → Int32)) (t : State) => va_P D vwCl (wX cI (D.1 99) zz g ad u.1 u.2.1 u.2.2) t.heap ∧ va_D (va_A (wX cI (D.1 99) zz g ad cn In Fn) sz) (wX cI (D.1 99) zz g ad u.1 u.2.1 u.2.2)) (va_A (wX cI (D.1 99) zz g ad cn In Fn) sz)) 0 0 (va_A (wX cI (D.1 99) zz g ad cn In Fn) sz) := by
  refine en_x (fun A => (va_Qv (fun (u : (Nat → Nat) × (Nat → Int32) × (Nat → Nat → Int32)) => (fun (c2 : Nat → Nat) (I2 : Nat → Int32) (F2 : Nat → Nat → Int32) => Fr [] [] [198, 304] cn In Fn c2 I2 F2 ∧ CBX c2 ∧ (F2 198 = upd (Fn 198) k0 (Fn 198 k0 + 1))) u.1 u.2.1 u.2.2) (fun (u : (Nat → Nat) × (Nat → Int32) × (Nat → Nat → Int32)) (t : State) => va_P D vwCl (wX cI (D.1 99) zz g ad u.1 u.2.1 u.2.2) t.heap ∧ va_D A (wX cI (D.1 99) zz g ad u.1 u.2.1 u.2.2)) A)) rfl rfl pn_RX9 (Nat.le_of_ble_eq_true rfl) (fun p e s m below meth c A hx hb hml hown S hr hlocks hnm hA hP hK hD hXS hS ls hl => ?_)
  have hl : lv_has ls 1 [(0, .ref (ad 5 k0))] := hl
  have hb_cn : Hid (CBX cn) := hB
  replace hB : CBXh cn := hB
  refine lv_aload_n hx hb (oc_42 0 shX9_endClause_0) rfl (lvA0 hl) ?_
  refine gf_RX9_27 S hK hP _ (xf_7 hk) (v := .ref (ad 63 k0)) rfl (oc_180 1 (aq_1 shX9_endClause_0) uw_0_27) ?_
  refine lv_aload_n hx hb (oc_42 4 (aq_4 shX9_endClause_0)) rfl (lvA0 hl) ?_
  refine gf_RX9_48 S hK hP _ (xf_7 hk) (v := .int ((Fn 198) k0)) rfl (oc_180 5 (aq_5 shX9_endClause_0) uw_0_48) ?_
  refine lv_aload_n hx hb (oc_42 8 (aq_8 shX9_endClause_0)) rfl (lvA0 hl) ?_
  refine gf_RX9_33 S hK hP _ (xf_7 hk) (v := .int ((Fn 195) k0)) rfl (oc_180 9 (aq_9 shX9_endClause_0) uw_0_33) ?_
  have hFc := va_free (wc := [((ad 63 k0), .inl (cI, 12, .inl (gA (Fn 304) 12 k0)))]) hD hS hA _ (one_im (xf_11 hk))
  refine va_callv (runS_w (As := [.ref (ad 63 k0), .int ((Fn 198) k0), .int ((Fn 195) k0)]) (rest := []) S (q_l_put l D cI cB cZ (ad 63 k0) 12 (gA (Fn 304) 12 k0) ((Fn 198) k0) ((Fn 195) k0) s.heap.size (by (first | omega | (have zz0 := Hid.u hb_cn; omega)))) kS_RX9_44 hK hP hD _ (one_is (xf_11 hk)) (one_im (xf_11 hk)) rfl ⟨Nat.le_of_ble_eq_true rfl, Nat.le_of_ble_eq_true rfl⟩ ⟨Nat.le_of_ble_eq_true rfl, Nat.le_of_ble_eq_true rfl⟩ rfl hl.1 rfl (Nat.le_of_ble_eq_true rfl) (oc_184 12 (aq_12 shX9_endClause_0) uw_0_44)) hS (fun q _ h => hFc q h) hFc (fun u_3 t H1 locs ht hvm h_2 hB1 hz1 hk1 hS => ?_)
  obtain ⟨hP1, hD1⟩ := hB1
  rw [ht] at hP1
  obtain ⟨hP, hD⟩ := wset1 hP hD (xf_11 hk) hk1 hP1
  obtain rfl : u_3 = (putM (gA (Fn 304) 12 k0) 12 ((Fn 198) k0) ((Fn 195) k0)) := h_2
  generalize H1 = H at hP hS ⊢
  have hP : va_P D vwCl (wX cI (D.1 99) zz g ad cn In (va_up Fn 304 (flat (Fn 304) 12 k0 (putM (gA (Fn 304) 12 k0) 12 ((Fn 198) k0) ((Fn 195) k0))))) H := va_P_eq (xsg_11 (by (first | omega | (have zz0 := Hid.u hb_cn; omega))) (putM_z (by (first | omega | (have zz0 := Hid.u hb_cn; omega))) gA_z)) hP
  have hD : va_D A (wX cI (D.1 99) zz g ad cn In (va_up Fn 304 (flat (Fn 304) 12 k0 (putM (gA (Fn 304) 12 k0) 12 ((Fn 198) k0) ((Fn 195) k0))))) := va_D_eq (xsg_11 (by (first | omega | (have zz0 := Hid.u hb_cn; omega))) (putM_z (by (first | omega | (have zz0 := Hid.u hb_cn; omega))) gA_z)) hD
  refine lv_aload_n hx hb (oc_42 15 (aq_15 shX9_endClause_0)) rfl (lvA0 hl) ?_
  refine lv_dup hx hb (oc_89 16 (aq_16 shX9_endClause_0)) rfl ?_
  refine gf_RX9_48 S hK hP _ (xf_7 hk) (v := .int ((Fn 198) k0)) rfl (oc_180 17 (aq_17 shX9_endClause_0) uw_0_48) ?_
  refine lv_iconst (v := 1) hx hb (oc_4 20 (aq_20 shX9_endClause_0)) kic_1 ?_
  refine lv_iadd hx hb (oc_96 21 (aq_21 shX9_endClause_0)) ?_
  refine pf_RX9_48 S hK hP hD hS _ (xf_7 hk) (v := .int (((Fn 198) k0) + 1)) (Nat.le_of_ble_eq_true rfl) rfl rfl (oc_181 22 (aq_22 shX9_endClause_0) uw_0_48) (fun H locs hP hD hS => ?_)
  have hP : va_P D vwCl (wX cI (D.1 99) zz g ad cn In (va_up (va_up Fn 304 (flat (Fn 304) 12 k0 (putM (gA (Fn 304) 12 k0) 12 ((Fn 198) k0) ((Fn 195) k0)))) 198 (upd (Fn 198) k0 (((Fn 198) k0) + 1)))) H := va_P_eq (xs_198 (by (first | omega | (have zz0 := Hid.u hb_cn; omega)))) hP
  have hD : va_D A (wX cI (D.1 99) zz g ad cn In (va_up (va_up Fn 304 (flat (Fn 304) 12 k0 (putM (gA (Fn 304) 12 k0) 12 ((Fn 198) k0) ((Fn 195) k0)))) 198 (upd (Fn 198) k0 (((Fn 198) k0) + 1)))) := va_D_eq (xs_198 (by (first | omega | (have zz0 := Hid.u hb_cn; omega)))) hD
  exact W.vret hx hb hr (fun t ht hW => ⟨⟨(cn, In, (va_up (va_up Fn 304 (flat (Fn 304) 12 k0 (putM (gA (Fn 304) 12 k0) 12 ((Fn 198) k0) ((Fn 195) k0)))) 198 (upd (Fn 198) k0 (((Fn 198) k0) + 1)))), rfl, ⟨(Fr.mo (Fr.f 198 (Fr.f 304 Fr.rf)) (sbl rfl) (sbl rfl) (sbl rfl)), hB, (by show (va_up (va_up Fn 304 (flat (Fn 304) 12 k0 (putM (gA (Fn 304) 12 k0) 12 ((Fn 198) k0) ((Fn 195) k0)))) 198 (upd (Fn 198) k0 (((Fn 198) k0) + 1))) 198 = upd (Fn 198) k0 (Fn 198 k0 + 1); rfl)⟩, by rw [ht]; exact hP, hD⟩, hS.F ht⟩) hS.2.2 (oc_177 25 shX9_endClause_25)
set_option maxRecDepth 100000 in
set_option maxHeartbeats 4000000 in
theorem q_l_isDigit (l : Launch) (D : va_G) (cI cB cZ : ClassId) (v0 : Int32) : Met l yX5_isDigit (CWS yX5_isDigit cX5_isDigit 1 (some .boolean)) (RM 0 0 0) (PBr [.int v0] D cI cB cZ []) (vp_Si (fun r => (r = 1 ∧ (48 ≤ v0.toInt ∧ v0.toInt ≤ 57)) ∨ (r = 0 ∧ ¬ (48 ≤ v0.toInt ∧ v0.toInt ≤ 57)))) 0 0 (fun _ => False) := by
  refine en_r rfl pn_RX5 (Nat.le_of_ble_eq_true rfl) (fun p e s m below meth c hx hb hml hown S hr hlocks hnm hP hK hS ls hl => ?_)
  have hP : va_P D vwCl [] s.heap := hP
  have hl : lv_has ls 1 [(0, .int v0)] := hl
  refine lv_iload_n hx hb (oc_26 0 shX5_isDigit_0) rfl (lvA0 hl) ?_
  refine lv_bipush (v := 48) hx hb (oc_16 1 (aq_1 shX5_isDigit_0) sgb_48) kbc_48 ?_
  refine lv_icmp_lt (tgt := 16) hx hb (oc_161 3 (aq_3 shX5_isDigit_0) sgw_0_13) rfl (fun c_1 => ?_) (fun c_1 => ?_)
  ·
    have tc_1 : (v0.toInt : Int) < 48 := Int32.lt_iff_toInt_lt.mp c_1
    refine lv_iconst (v := 0) hx hb (oc_3 16 (aq_16 shX5_isDigit_0)) kic_0 ?_
    exact W.zret (v := 0) hx hb hr rfl (fun t ht hW => ⟨0, rfl, (Or.inr ⟨rfl, by omega⟩), ht⟩) (fun _ h => absurd h List.not_mem_nil) (oc_172 17 (aq_17 shX5_isDigit_0))
  ·
    have tc_1 : (48 : Int) ≤ v0.toInt := Int32.le_iff_toInt_le.mp (Int32.not_lt.mp c_1)
    refine lv_iload_n hx hb (oc_26 6 (aq_6 shX5_isDigit_0)) rfl (lvA0 hl) ?_
    refine lv_bipush (v := 57) hx hb (oc_16 7 (aq_7 shX5_isDigit_0) sgb_57) kbc_57 ?_
    refine lv_icmp_gt (tgt := 16) hx hb (oc_163 9 (aq_9 shX5_isDigit_0) sgw_0_7) rfl (fun c_2 => ?_) (fun c_2 => ?_)
    ·
      have tc_2 : (57 : Int) < v0.toInt := Int32.lt_iff_toInt_lt.mp c_2
      refine lv_iconst (v := 0) hx hb (oc_3 16 (aq_16 shX5_isDigit_0)) kic_0 ?_
      exact W.zret (v := 0) hx hb hr rfl (fun t ht hW => ⟨0, rfl, (Or.inr ⟨rfl, by omega⟩), ht⟩) (fun _ h => absurd h List.not_mem_nil) (oc_172 17 (aq_17 shX5_isDigit_0))
    ·
      have tc_2 : (v0.toInt : Int) ≤ 57 := Int32.le_iff_toInt_le.mp (Int32.not_lt.mp c_2)
      refine lv_iconst (v := 1) hx hb (oc_4 12 (aq_12 shX5_isDigit_0)) kic_1 ?_
      refine lv_goto (tgt := 17) hx hb (oc_167 13 (aq_13 shX5_isDigit_0) sgw_0_4) rfl ?_
      exact W.zret (v := 1) hx hb hr rfl (fun t ht hW => ⟨1, rfl, (Or.inl ⟨rfl, by omega⟩), ht⟩) (fun _ h => absurd h List.not_mem_nil) (oc_172 17 (aq_17 shX5_isDigit_0))
set_option maxRecDepth 100000 in
set_option maxHeartbeats 4000000 in
theorem q_RreadRelation (l : Launch) (D : va_G) (cI cB cZ : ClassId) (zz qq vv : Nat) (bt : Nat → Int32) (g : Nat → Nat) (ad : Nat → Nat → Nat) (cn : Nat → Nat) (In : Nat → Int32) (Fn : Nat → Nat → Int32)  (sz : Nat) (hB : CBX cn) (hR : ad 4 2 = g 40) (h1 : ad 4 1 < cn 6) (h3 : cn 31 ≤ cn 32) (h4 : cn 32 ≤ 160) : Met l yX5_readRelation (CWS yX5_readRelation cX5_readRelation 2 (some .int)) (RM 1 0 0) (PBx [.ref (g 6)] D cI cB cZ zz qq vv bt (wX cI (D.1 99) zz g ad cn In Fn) sz) (va_Qi (fun (r : Int32) (u : (Nat → Nat) × (Nat → Int32) × (Nat → Nat → Int32)) => (fun r c2 I2 F2 => Fr [31, 32] [33] [] cn In Fn c2 I2 F2 ∧ CBX c2 ∧ (cn 31 ≤ c2 31 ∧ c2 31 ≤ c2 32 ∧ c2 32 ≤ cn 32)) r u.1 u.2.1 u.2.2) (fun (u : (Nat → Nat) × (Nat → Int32) × (Nat → Nat → Int32)) (t : State) => va_P D vwCl (wX cI (D.1 99) zz g ad u.1 u.2.1 u.2.2) t.heap ∧ va_D (va_A (wX cI (D.1 99) zz g ad cn In Fn) sz) (wX cI (D.1 99) zz g ad u.1 u.2.1 u.2.2)) (va_A (wX cI (D.1 99) zz g ad cn In Fn) sz)) 0 0 (va_A (wX cI (D.1 99) zz g ad cn In Fn) sz) := by
  refine en_x (fun A => (va_Qi (fun (r : Int32) (u : (Nat → Nat) × (Nat → Int32) × (Nat → Nat → Int32)) => (fun (r : Int32) (c2 : Nat → Nat) (I2 : Nat → Int32) (F2 : Nat → Nat → Int32) => Fr [31, 32] [33] [] cn In Fn c2 I2 F2 ∧ CBX c2 ∧ (cn 31 ≤ c2 31 ∧ c2 31 ≤ c2 32 ∧ c2 32 ≤ cn 32)) r u.1 u.2.1 u.2.2) (fun (u : (Nat → Nat) × (Nat → Int32) × (Nat → Nat → Int32)) (t : State) => va_P D vwCl (wX cI (D.1 99) zz g ad u.1 u.2.1 u.2.2) t.heap ∧ va_D A (wX cI (D.1 99) zz g ad u.1 u.2.1 u.2.2)) A)) rfl rfl pn_RX5 (Nat.le_of_ble_eq_true rfl) (fun p e s m below meth c A hx hb hml hown S hr hlocks hnm hA hP hK hD hXS hS ls hl => ?_)
  have hl : lv_has ls 2 [(0, .ref (g 6))] := hl
  replace hB : CBXh cn := hB
  refine lv_aload_n hx hb (oc_42 0 shX5_readRelation_0) rfl (lvA0 hl) ?_
  refine vp_callSi (runV_rxa (As := []) (rest := []) S (q_Rpeek l D cI cB cZ zz qq vv bt g ad cn In Fn  hB (by omega) (by omega) (by omega) (by omega)) kV_RX5_43 hK hXS hS hP 3 xo_3 rfl rfl ⟨Nat.le_of_ble_eq_true rfl, Nat.le_of_ble_eq_true rfl⟩ ⟨Nat.le_of_ble_eq_true rfl, Nat.le_of_ble_eq_true rfl⟩ rfl hl.1 rfl (Nat.le_of_ble_eq_true rfl) (oc_182 1 (aq_1 shX5_readRelation_0) uw_0_43)) (fun r_1 h_2 => ?_)
  refine lv_istore_n (lv' := [(1, .int r_1), (0, .ref (g 6))]) hx hb (oc_60 4 (aq_4 shX5_readRelation_0)) rfl hl (ltb rfl) rfl (fun ls hl => ?_)
  refine lv_iload_n hx hb (oc_27 5 (aq_5 shX5_readRelation_0)) rfl (lvA0 hl) ?_
  refine lv_bipush (v := 60) hx hb (oc_16 6 (aq_6 shX5_readRelation_0) sgb_60) kbc_60 ?_
  refine lv_icmp_eq (tgt := 23) hx hb (oc_159 8 (aq_8 shX5_readRelation_0) sgw_0_15) rfl (fun c_3 => ?_) (fun c_3 => ?_)
  ·
    have tc_3 : (r_1.toInt : Int) = 60 := congrArg Int32.toInt c_3
    refine lv_aload_n hx hb dX5_readRelation_23 rfl (lvA1 hl) ?_
    refine lv_dup hx hb dX5_readRelation_24 rfl ?_
    refine gf_RX5_31 S hK hP 3 xo_3 (v := .int (nI (cn 31))) rfl dX5_readRelation_25 ?_
    refine lv_iconst (v := 1) hx hb dX5_readRelation_28 kic_1 ?_
    refine lv_iadd hx hb dX5_readRelation_29 ?_
    refine lv_topi (fun y_4 ey_4 => ?_)
    obtain rfl : y_4 = (nI ((cn 31) + 1)) := ey_4.trans (nI_add (cn 31) 1)
    refine pf_RX5_31 S hK hP hD hS 3 xo_3 (v := .int (nI ((cn 31) + 1))) (Nat.le_of_ble_eq_true rfl) rfl rfl dX5_readRelation_30 (fun H locs hP hD hS => ?_)
    have hP : va_P D vwCl (wX cI (D.1 99) zz g ad (va_up cn 31 ((cn 31) + 1)) In Fn) H := va_P_eq (xsf_3_3) hP
    have hD : va_D A (wX cI (D.1 99) zz g ad (va_up cn 31 ((cn 31) + 1)) In Fn) := va_D_eq (xsf_3_3) hD
    refine lv_goto (tgt := 41) hx hb dX5_readRelation_33 rfl ?_
    refine lv_iload_n hx hb dX5_readRelation_41 rfl (lvA0 hl) ?_
    refine lv_bipush (v := 60) hx hb dX5_readRelation_42 kbc_60 ?_
    refine lv_icmp_ne (tgt := 52) hx hb dX5_readRelation_44 rfl (fun c_5 => False.elim (by have tc_5 : (r_1.toInt : Int) ≠ 60 := fun q => c_5 (Int32.toInt_inj.mp q); omega)) (fun c_5 => ?_)
    have tc_5 : (r_1.toInt : Int) = 60 := congrArg Int32.toInt c_5
    refine lv_bipush (v := 8) hx hb dX5_readRelation_47 kbc_8 ?_
    refine lv_goto (tgt := 65) hx hb dX5_readRelation_49 rfl ?_
    exact W.iret (v := 8) hx hb hr (fun t ht hW => ⟨⟨8, ((va_up cn 31 ((cn 31) + 1)), In, Fn), rfl, ⟨(Fr.mo (Fr.c 31 Fr.rf) (sbl rfl) (sbl rfl) (sbl rfl)), (CBX.n (k := 31) (v := ((cn 31) + 1)) hB (by decide)), (by show cn 31 ≤ (va_up cn 31 ((cn 31) + 1)) 31 ∧ (va_up cn 31 ((cn 31) + 1)) 31 ≤ (va_up cn 31 ((cn 31) + 1)) 32 ∧ (va_up cn 31 ((cn 31) + 1)) 32 ≤ cn 32; show cn 31 ≤ ((cn 31) + 1) ∧ ((cn 31) + 1) ≤ (cn 32) ∧ (cn 32) ≤ cn 32; omega)⟩, by rw [ht]; exact hP, hD⟩, hS.F ht⟩) hS.2.2 dX5_readRelation_65
  ·
    have tc_3 : (r_1.toInt : Int) ≠ 60 := fun q => c_3 (Int32.toInt_inj.mp q)
    refine lv_iload_n hx hb (oc_27 11 (aq_11 shX5_readRelation_0)) rfl (lvA0 hl) ?_
    refine lv_bipush (v := 62) hx hb (oc_16 12 (aq_12 shX5_readRelation_0) sgb_62) kbc_62 ?_
    refine lv_icmp_eq (tgt := 23) hx hb (oc_159 14 (aq_14 shX5_readRelation_0) sgw_0_9) rfl (fun c_6 => ?_) (fun c_6 => ?_)
    ·
      have tc_6 : (r_1.toInt : Int) = 62 := congrArg Int32.toInt c_6
      refine lv_aload_n hx hb dX5_readRelation_23 rfl (lvA1 hl) ?_
      refine lv_dup hx hb dX5_readRelation_24 rfl ?_
      refine gf_RX5_31 S hK hP 3 xo_3 (v := .int (nI (cn 31))) rfl dX5_readRelation_25 ?_
      refine lv_iconst (v := 1) hx hb dX5_readRelation_28 kic_1 ?_
      refine lv_iadd hx hb dX5_readRelation_29 ?_
      refine lv_topi (fun y_7 ey_7 => ?_)
      obtain rfl : y_7 = (nI ((cn 31) + 1)) := ey_7.trans (nI_add (cn 31) 1)
      refine pf_RX5_31 S hK hP hD hS 3 xo_3 (v := .int (nI ((cn 31) + 1))) (Nat.le_of_ble_eq_true rfl) rfl rfl dX5_readRelation_30 (fun H locs hP hD hS => ?_)
      have hP : va_P D vwCl (wX cI (D.1 99) zz g ad (va_up cn 31 ((cn 31) + 1)) In Fn) H := va_P_eq (xsf_3_3) hP
      have hD : va_D A (wX cI (D.1 99) zz g ad (va_up cn 31 ((cn 31) + 1)) In Fn) := va_D_eq (xsf_3_3) hD
      refine lv_goto (tgt := 41) hx hb dX5_readRelation_33 rfl ?_
      refine lv_iload_n hx hb dX5_readRelation_41 rfl (lvA0 hl) ?_
      refine lv_bipush (v := 60) hx hb dX5_readRelation_42 kbc_60 ?_
      refine lv_icmp_ne (tgt := 52) hx hb dX5_readRelation_44 rfl (fun c_8 => ?_) (fun c_8 => False.elim (by have tc_8 : (r_1.toInt : Int) = 60 := congrArg Int32.toInt c_8; omega))
      have tc_8 : (r_1.toInt : Int) ≠ 60 := fun q => c_8 (Int32.toInt_inj.mp q)
      refine lv_iload_n hx hb dX5_readRelation_52 rfl (lvA0 hl) ?_
      refine lv_bipush (v := 62) hx hb dX5_readRelation_53 kbc_62 ?_
      refine lv_icmp_ne (tgt := 63) hx hb dX5_readRelation_55 rfl (fun c_9 => False.elim (by have tc_9 : (r_1.toInt : Int) ≠ 62 := fun q => c_9 (Int32.toInt_inj.mp q); omega)) (fun c_9 => ?_)
      have tc_9 : (r_1.toInt : Int) = 62 := congrArg Int32.toInt c_9
      refine lv_bipush (v := 9) hx hb dX5_readRelation_58 kbc_9 ?_
      refine lv_goto (tgt := 65) hx hb dX5_readRelation_60 rfl ?_
      exact W.iret (v := 9) hx hb hr (fun t ht hW => ⟨⟨9, ((va_up cn 31 ((cn 31) + 1)), In, Fn), rfl, ⟨(Fr.mo (Fr.c 31 Fr.rf) (sbl rfl) (sbl rfl) (sbl rfl)), (CBX.n (k := 31) (v := ((cn 31) + 1)) hB (by decide)), (by show cn 31 ≤ (va_up cn 31 ((cn 31) + 1)) 31 ∧ (va_up cn 31 ((cn 31) + 1)) 31 ≤ (va_up cn 31 ((cn 31) + 1)) 32 ∧ (va_up cn 31 ((cn 31) + 1)) 32 ≤ cn 32; show cn 31 ≤ ((cn 31) + 1) ∧ ((cn 31) + 1) ≤ (cn 32) ∧ (cn 32) ≤ cn 32; omega)⟩, by rw [ht]; exact hP, hD⟩, hS.F ht⟩) hS.2.2 dX5_readRelation_65
    ·
      have tc_6 : (r_1.toInt : Int) ≠ 62 := fun q => c_6 (Int32.toInt_inj.mp q)
      refine lv_iload_n hx hb (oc_27 17 (aq_17 shX5_readRelation_0)) rfl (lvA0 hl) ?_
      refine lv_bipush (v := 61) hx hb (oc_16 18 (aq_18 shX5_readRelation_0) sgb_61) kbc_61 ?_
      refine lv_icmp_ne (tgt := 36) hx hb (oc_160 20 (aq_20 shX5_readRelation_0) sgw_0_16) rfl (fun c_10 => ?_) (fun c_10 => ?_)
      ·
        have tc_10 : (r_1.toInt : Int) ≠ 61 := fun q => c_10 (Int32.toInt_inj.mp q)
        refine lv_aload_n hx hb (oc_42 36 (aq_12 shX5_readRelation_24)) rfl (lvA1 hl) ?_
        refine lv_iconst (v := 1) hx hb (oc_4 37 (aq_13 shX5_readRelation_24)) kic_1 ?_
        have hFc := free_all hD hS hA
        refine va_callv (runV_xa (As := [.int 1]) (rest := []) S (q_Rfail l D cI cB cZ zz qq vv bt g ad cn In Fn 1 s.heap.size hB (by omega) (by omega) (by omega) (by omega)) kV_RX5_47 hK hXS hS hFc hP hD 3 xo_3 rfl rfl ⟨Nat.le_of_ble_eq_true rfl, Nat.le_of_ble_eq_true rfl⟩ ⟨Nat.le_of_ble_eq_true rfl, Nat.le_of_ble_eq_true rfl⟩ rfl hl.1 rfl (Nat.le_of_ble_eq_true rfl) (oc_182 38 (aq_14 shX5_readRelation_24) uw_0_47)) hS (fun q _ h => hFc q h) hFc (fun u t H1 locs ht hvm wh_12 hB1 hz1 hk1 hS => ?_)
        obtain ⟨cn12, In12, Fn12⟩ := u
        obtain ⟨hP1, hD1⟩ := hB1
        rw [ht] at hP1
        have hP : va_P D vwCl (wX cI (D.1 99) zz g ad cn12 In12 Fn12) H1 := hP1
        have hD : va_D A (wX cI (D.1 99) zz g ad cn12 In12 Fn12) := hD1.weaken (fun _ _ _ h => hFc _ h)
        generalize H1 = H at hP hS ⊢
        have vh_12 : (fun c2 I2 F2 => Fr [32] [33] [] cn In Fn c2 I2 F2 ∧ CBX c2 ∧ (c2 31 = (cn 31) ∧ (cn 31) ≤ c2 32 ∧ c2 32 ≤ (cn 32))) cn12 In12 Fn12 := wh_12
        obtain ⟨hfc12, hIn12, h_12⟩ := vh_12
        obtain rfl : Fn = Fn12 := (funext (fun k => hfc12.2.2 k List.not_mem_nil)).symm
        have hf12 : Fr [31, 32] [33] [] cn In Fn cn12 In12 Fn := Fr.mo (Fr.tr (Fr.rf (cn := cn) (In := In) (Fn := Fn)) hfc12) (sbl rfl) (sbl rfl) (sbl rfl)
        replace hIn12 : CBXh cn12 := hIn12
        have : cn12 6 = (cn 6) := hfc12.1 6 (nml rfl)
        have : cn12 31 = (cn 31) := hfc12.1 31 (nml rfl)
        refine lv_iload_n hx hb dX5_readRelation_41 rfl (lvA0 hl) ?_
        refine lv_bipush (v := 60) hx hb dX5_readRelation_42 kbc_60 ?_
        refine lv_icmp_ne (tgt := 52) hx hb dX5_readRelation_44 rfl (fun c_13 => ?_) (fun c_13 => ?_)
        ·
          have tc_13 : (r_1.toInt : Int) ≠ 60 := fun q => c_13 (Int32.toInt_inj.mp q)
          refine lv_iload_n hx hb dX5_readRelation_52 rfl (lvA0 hl) ?_
          refine lv_bipush (v := 62) hx hb dX5_readRelation_53 kbc_62 ?_
          refine lv_icmp_ne (tgt := 63) hx hb dX5_readRelation_55 rfl (fun c_14 => ?_) (fun c_14 => ?_)
          ·
            have tc_14 : (r_1.toInt : Int) ≠ 62 := fun q => c_14 (Int32.toInt_inj.mp q)
            refine lv_bipush (v := 10) hx hb dX5_readRelation_63 kbc_10 ?_
            exact W.iret (v := 10) hx hb hr (fun t ht hW => ⟨⟨10, (cn12, In12, Fn), rfl, ⟨(Fr.mo hf12 (sbl rfl) (sbl rfl) (sbl rfl)), hIn12, (by show cn 31 ≤ cn12 31 ∧ cn12 31 ≤ cn12 32 ∧ cn12 32 ≤ cn 32; show cn 31 ≤ (cn12 31) ∧ (cn12 31) ≤ (cn12 32) ∧ (cn12 32) ≤ cn 32; omega)⟩, by rw [ht]; exact hP, hD⟩, hS.F ht⟩) hS.2.2 dX5_readRelation_65
          ·
            have tc_14 : (r_1.toInt : Int) = 62 := congrArg Int32.toInt c_14
            refine lv_bipush (v := 9) hx hb dX5_readRelation_58 kbc_9 ?_
            refine lv_goto (tgt := 65) hx hb dX5_readRelation_60 rfl ?_
            exact W.iret (v := 9) hx hb hr (fun t ht hW => ⟨⟨9, (cn12, In12, Fn), rfl, ⟨(Fr.mo hf12 (sbl rfl) (sbl rfl) (sbl rfl)), hIn12, (by show cn 31 ≤ cn12 31 ∧ cn12 31 ≤ cn12 32 ∧ cn12 32 ≤ cn 32; show cn 31 ≤ (cn12 31) ∧ (cn12 31) ≤ (cn12 32) ∧ (cn12 32) ≤ cn 32; omega)⟩, by rw [ht]; exact hP, hD⟩, hS.F ht⟩) hS.2.2 dX5_readRelation_65
        ·
          have tc_13 : (r_1.toInt : Int) = 60 := congrArg Int32.toInt c_13
          refine lv_bipush (v := 8) hx hb dX5_readRelation_47 kbc_8 ?_
          refine lv_goto (tgt := 65) hx hb dX5_readRelation_49 rfl ?_
          exact W.iret (v := 8) hx hb hr (fun t ht hW => ⟨⟨8, (cn12, In12, Fn), rfl, ⟨(Fr.mo hf12 (sbl rfl) (sbl rfl) (sbl rfl)), hIn12, (by show cn 31 ≤ cn12 31 ∧ cn12 31 ≤ cn12 32 ∧ cn12 32 ≤ cn 32; show cn 31 ≤ (cn12 31) ∧ (cn12 31) ≤ (cn12 32) ∧ (cn12 32) ≤ cn 32; omega)⟩, by rw [ht]; exact hP, hD⟩, hS.F ht⟩) hS.2.2 dX5_readRelation_65
      ·
        have tc_10 : (r_1.toInt : Int) = 61 := congrArg Int32.toInt c_10
        refine lv_aload_n hx hb dX5_readRelation_23 rfl (lvA1 hl) ?_
        refine lv_dup hx hb dX5_readRelation_24 rfl ?_
        refine gf_RX5_31 S hK hP 3 xo_3 (v := .int (nI (cn 31))) rfl dX5_readRelation_25 ?_
        refine lv_iconst (v := 1) hx hb dX5_readRelation_28 kic_1 ?_
        refine lv_iadd hx hb dX5_readRelation_29 ?_
        refine lv_topi (fun y_15 ey_15 => ?_)
        obtain rfl : y_15 = (nI ((cn 31) + 1)) := ey_15.trans (nI_add (cn 31) 1)
        refine pf_RX5_31 S hK hP hD hS 3 xo_3 (v := .int (nI ((cn 31) + 1))) (Nat.le_of_ble_eq_true rfl) rfl rfl dX5_readRelation_30 (fun H locs hP hD hS => ?_)
        have hP : va_P D vwCl (wX cI (D.1 99) zz g ad (va_up cn 31 ((cn 31) + 1)) In Fn) H := va_P_eq (xsf_3_3) hP
        have hD : va_D A (wX cI (D.1 99) zz g ad (va_up cn 31 ((cn 31) + 1)) In Fn) := va_D_eq (xsf_3_3) hD
        refine lv_goto (tgt := 41) hx hb dX5_readRelation_33 rfl ?_
        refine lv_iload_n hx hb dX5_readRelation_41 rfl (lvA0 hl) ?_
        refine lv_bipush (v := 60) hx hb dX5_readRelation_42 kbc_60 ?_
        refine lv_icmp_ne (tgt := 52) hx hb dX5_readRelation_44 rfl (fun c_16 => ?_) (fun c_16 => False.elim (by have tc_16 : (r_1.toInt : Int) = 60 := congrArg Int32.toInt c_16; omega))
        have tc_16 : (r_1.toInt : Int) ≠ 60 := fun q => c_16 (Int32.toInt_inj.mp q)
        refine lv_iload_n hx hb dX5_readRelation_52 rfl (lvA0 hl) ?_
        refine lv_bipush (v := 62) hx hb dX5_readRelation_53 kbc_62 ?_
        refine lv_icmp_ne (tgt := 63) hx hb dX5_readRelation_55 rfl (fun c_17 => ?_) (fun c_17 => False.elim (by have tc_17 : (r_1.toInt : Int) = 62 := congrArg Int32.toInt c_17; omega))
        have tc_17 : (r_1.toInt : Int) ≠ 62 := fun q => c_17 (Int32.toInt_inj.mp q)
        refine lv_bipush (v := 10) hx hb dX5_readRelation_63 kbc_10 ?_
        exact W.iret (v := 10) hx hb hr (fun t ht hW => ⟨⟨10, ((va_up cn 31 ((cn 31) + 1)), In, Fn), rfl, ⟨(Fr.mo (Fr.c 31 Fr.rf) (sbl rfl) (sbl rfl) (sbl rfl)), (CBX.n (k := 31) (v := ((cn 31) + 1)) hB (by decide)), (by show cn 31 ≤ (va_up cn 31 ((cn 31) + 1)) 31 ∧ (va_up cn 31 ((cn 31) + 1)) 31 ≤ (va_up cn 31 ((cn 31) + 1)) 32 ∧ (va_up cn 31 ((cn 31) + 1)) 32 ≤ cn 32; show cn 31 ≤ ((cn 31) + 1) ∧ ((cn 31) + 1) ≤ (cn 32) ∧ (cn 32) ≤ cn 32; omega)⟩, by rw [ht]; exact hP, hD⟩, hS.F ht⟩) hS.2.2 dX5_readRelation_65
set_option maxRecDepth 100000 in
set_option maxHeartbeats 4000000 in
theorem q_RreadNumber (l : Launch) (D : va_G) (cI cB cZ : ClassId) (zz qq vv : Nat) (bt : Nat → Int32) (g : Nat → Nat) (ad : Nat → Nat → Nat) (cn : Nat → Nat) (In : Nat → Int32) (Fn : Nat → Nat → Int32)  (sz : Nat) (hB : CBX cn) (hR : ad 4 2 = g 40) (h1 : ad 4 1 < cn 6) (h3 : cn 31 ≤ cn 32) (h4 : cn 32 ≤ 160) (h9 : (Fn 199 (ad 4 1)).toInt ≤ 160) : Met l yX5_readNumber (CWS yX5_readNumber cX5_readNumber 3 none) (RM 1 0 0) (PBx [.ref (g 6)] D cI cB cZ zz qq vv bt (wX cI (D.1 99) zz g ad cn In Fn) sz) (va_Qv (fun (u : (Nat → Nat) × (Nat → Int32) × (Nat → Nat → Int32)) => (fun c2 I2 F2 => Fr [31, 32] [33] [195, 301] cn In Fn c2 I2 F2 ∧ CBX c2 ∧ (cn 31 ≤ c2 31 ∧ c2 31 ≤ c2 32 ∧ c2 32 ≤ cn 32)) u.1 u.2.1 u.2.2) (fun (u : (Nat → Nat) × (Nat → Int32) × (Nat → Nat → Int32)) (t : State) => va_P D vwCl (wX cI (D.1 99) zz g ad u.1 u.2.1 u.2.2) t.heap ∧ va_D (va_A (wX cI (D.1 99) zz g ad cn In Fn) sz) (wX cI (D.1 99) zz g ad u.1 u.2.1 u.2.2)) (va_A (wX cI (D.1 99) zz g ad cn In Fn) sz)) 0 0 (va_A (wX cI (D.1 99) zz g ad cn In Fn) sz) := by
  refine en_x (fun A => (va_Qv (fun (u : (Nat → Nat) × (Nat → Int32) × (Nat → Nat → Int32)) => (fun (c2 : Nat → Nat) (I2 : Nat → Int32) (F2 : Nat → Nat → Int32) => Fr [31, 32] [33] [195, 301] cn In Fn c2 I2 F2 ∧ CBX c2 ∧ (cn 31 ≤ c2 31 ∧ c2 31 ≤ c2 32 ∧ c2 32 ≤ cn 32)) u.1 u.2.1 u.2.2) (fun (u : (Nat → Nat) × (Nat → Int32) × (Nat → Nat → Int32)) (t : State) => va_P D vwCl (wX cI (D.1 99) zz g ad u.1 u.2.1 u.2.2) t.heap ∧ va_D A (wX cI (D.1 99) zz g ad u.1 u.2.1 u.2.2)) A)) rfl rfl pn_RX5 (Nat.le_of_ble_eq_true rfl) (fun p e s m below meth c A hx hb hml hown S hr hlocks hnm hA hP hK hD hXS hS ls hl => ?_)
  have hl : lv_has ls 3 [(0, .ref (g 6))] := hl
  replace hB : CBXh cn := hB
  refine lv_iconst (v := 0) hx hb (oc_3 0 shX5_readNumber_0) kic_0 ?_
  refine lv_istore_n (lv' := [(1, .int 0), (0, .ref (g 6))]) hx hb (oc_60 1 (aq_1 shX5_readNumber_0)) rfl hl (ltb rfl) rfl (fun ls hl => ?_)
  refine lv_iconst (v := 0) hx hb (oc_3 2 (aq_2 shX5_readNumber_0)) kic_0 ?_
  refine lv_istore_n (lv' := [(2, .int 0), (1, .int 0), (0, .ref (g 6))]) hx hb (oc_61 3 (aq_3 shX5_readNumber_0)) rfl hl (ltb rfl) rfl (fun ls hl => ?_)
  have lp_4 : ∀ (n : Nat) (i4 : Nat) (x4_1 : Int32) (c4 : Nat → Nat) (I4 : Nat → Int32) (F4 : Nat → Nat → Int32) (H : Heap) (locs : List Loc) , 6 - i4 < n → (i4 ≤ 6 ∧ Fr [31, 32] [33] [195, 301] cn In Fn c4 I4 F4 ∧ CBX c4 ∧ (cn 31 ≤ c4 31 ∧ c4 31 ≤ c4 32 ∧ c4 32 ≤ cn 32)) → va_P D vwCl (wX cI (D.1 99) zz g ad c4 I4 F4) H → va_D A (wX cI (D.1 99) zz g ad c4 I4 F4) → va_S A s.heap H locs → ∀ ls : Array Slot, lv_has ls 3 [(2, .int (nI i4)), (1, .int x4_1), (0, .ref (g 6))] → W p l e (RM 1 0 0) s m ([.ref (g 6)]).toArray below meth c H locs 0 0 (MQ below (va_Qv (fun (u : (Nat → Nat) × (Nat → Int32) × (Nat → Nat → Int32)) => (fun c2 I2 F2 => Fr [31, 32] [33] [195, 301] cn In Fn c2 I2 F2 ∧ CBX c2 ∧ (cn 31 ≤ c2 31 ∧ c2 31 ≤ c2 32 ∧ c2 32 ≤ cn 32)) u.1 u.2.1 u.2.2) (fun (u : (Nat → Nat) × (Nat → Int32) × (Nat → Nat → Int32)) (t : State) => va_P D vwCl (wX cI (D.1 99) zz g ad u.1 u.2.1 u.2.2) t.heap ∧ va_D A (wX cI (D.1 99) zz g ad u.1 u.2.1 u.2.2)) A) ([.ref (g 6)]).toArray s 0 0 A) (F0 m 4 ls []) := by
    intro n4
    induction n4 with
    | zero => intros; omega
    | succ n4 ih4 =>
      intro i4 x4_1 c4 I4 F4 H locs hmu4 hinv4 hP hD hS ls hl
      obtain ⟨hr4, hfr4, hI4, hx4_0⟩ := hinv4
      have ti4 : (nI i4).toInt = (i4 : Int) := nI_toInt (by omega)
      replace hI4 : CBXh c4 := hI4
      have : c4 6 = cn 6 := hfr4.1 6 (nml rfl)
      refine lv_iload_n hx hb (oc_28 4 (aq_4 shX5_readNumber_0)) rfl (lvA0 hl) ?_
      refine lv_bipush (v := 6) hx hb (oc_16 5 (aq_5 shX5_readNumber_0) sgb_6) kbc_6 ?_
      refine lv_icmp_ge (tgt := 49) hx hb (oc_162 7 (aq_7 shX5_readNumber_0) sgw_0_42) rfl (fun c_1 => ?_) (fun c_1 => ?_)
      ·
        have tc_1 : (6 : Int) ≤ (nI i4).toInt := Int32.le_iff_toInt_le.mp c_1
        refine lv_aload_n hx hb dX5_readNumber_49 rfl (lvA2 hl) ?_
        refine vp_callSi (runV_rxa (As := []) (rest := []) S (q_Rpeek l D cI cB cZ zz qq vv bt g ad c4 I4 F4  hI4 (by omega) (by omega) (by omega) (by omega)) kV_RX5_43 hK hXS hS hP 3 xo_3 rfl rfl ⟨Nat.le_of_ble_eq_true rfl, Nat.le_of_ble_eq_true rfl⟩ ⟨Nat.le_of_ble_eq_true rfl, Nat.le_of_ble_eq_true rfl⟩ rfl hl.1 rfl (Nat.le_of_ble_eq_true rfl) dX5_readNumber_50) (fun r_2 h_3 => ?_)
        refine vp_callSi (runS_r (As := [.int r_2]) (rest := []) S (q_l_isDigit l D cI cB cZ r_2) kS_RX5_106 hK hP [] rfl ⟨Nat.le_of_ble_eq_true rfl, Nat.le_of_ble_eq_true rfl⟩ ⟨Nat.le_of_ble_eq_true rfl, Nat.le_of_ble_eq_true rfl⟩ rfl hl.1 rfl (Nat.le_of_ble_eq_true rfl) dX5_readNumber_53) (fun r_4 h_5 => ?_)
        rcases h_5 with ⟨rfl, h_5⟩ | ⟨rfl, h_5⟩
        ·
          have h_5 : 48 ≤ r_2.toInt ∧ r_2.toInt ≤ 57 := h_5
          refine lv_if_eq (tgt := 64) hx hb dX5_readNumber_56 rfl (fun h => absurd h cq_eq_1_0) (fun _ => ?_)
          refine lv_aload_n hx hb dX5_readNumber_59 rfl (lvA2 hl) ?_
          refine lv_iconst (v := 2) hx hb dX5_readNumber_60 kic_2 ?_
          have hFc := free_all hD hS hA
          refine va_callv (runV_xa (As := [.int 2]) (rest := []) S (q_Rfail l D cI cB cZ zz qq vv bt g ad c4 I4 F4 2 H.size hI4 (by omega) (by omega) (by omega) (by omega)) kV_RX5_47 hK hXS hS hFc hP hD 3 xo_3 rfl rfl ⟨Nat.le_of_ble_eq_true rfl, Nat.le_of_ble_eq_true rfl⟩ ⟨Nat.le_of_ble_eq_true rfl, Nat.le_of_ble_eq_true rfl⟩ rfl hl.1 rfl (Nat.le_of_ble_eq_true rfl) dX5_readNumber_61) hS (fun q _ h => hFc q h) hFc (fun u t H1 locs ht hvm wh_7 hB1 hz1 hk1 hS => ?_)
          obtain ⟨cn7, In7, Fn7⟩ := u
          obtain ⟨hP1, hD1⟩ := hB1
          rw [ht] at hP1
          have hP : va_P D vwCl (wX cI (D.1 99) zz g ad cn7 In7 Fn7) H1 := hP1
          have hD : va_D A (wX cI (D.1 99) zz g ad cn7 In7 Fn7) := hD1.weaken (fun _ _ _ h => hFc _ h)
          generalize H1 = H at hP hS ⊢
          have vh_7 : (fun c2 I2 F2 => Fr [32] [33] [] c4 I4 F4 c2 I2 F2 ∧ CBX c2 ∧ (c2 31 = (c4 31) ∧ (c4 31) ≤ c2 32 ∧ c2 32 ≤ (c4 32))) cn7 In7 Fn7 := wh_7
          obtain ⟨hfc7, hIn7, h_7⟩ := vh_7
          obtain rfl : F4 = Fn7 := (funext (fun k => hfc7.2.2 k List.not_mem_nil)).symm
          have hf7 : Fr [31, 32] [33] [195, 301] cn In Fn cn7 In7 F4 := Fr.mo (Fr.tr hfr4 hfc7) (sbl rfl) (sbl rfl) (sbl rfl)
          replace hIn7 : CBXh cn7 := hIn7
          have : cn7 6 = (c4 6) := hfc7.1 6 (nml rfl)
          have : cn7 31 = (c4 31) := hfc7.1 31 (nml rfl)
          refine lv_aload_n hx hb dX5_readNumber_64 rfl (lvA2 hl) ?_
          refine gf_RX5_20 S hK hP 3 xo_3 (v := .ref (ad 5 (ad 4 1))) rfl dX5_readNumber_65 ?_
          refine lv_iconst (v := 1) hx hb dX5_readNumber_68 kic_1 ?_
          refine lv_iload_n hx hb dX5_readNumber_69 rfl (lvA1 hl) ?_
          have hFc := free_all hD hS hA
          refine va_calli (runV_xa (As := [.int 1, .int x4_1]) (rest := []) S (q_Tadd l D cI cB cZ zz qq vv bt g ad cn7 In7 F4 (ad 4 1) 1 x4_1 H.size hIn7 (by omega) (by rw [hf7.2.2 199 (nml rfl)]; exact h9)) kV_RX5_75 hK hXS hS hFc hP hD _ (xf_7 (show (ad 4 1) < (cn7 6) by omega)) rfl rfl ⟨Nat.le_of_ble_eq_true rfl, Nat.le_of_ble_eq_true rfl⟩ ⟨Nat.le_of_ble_eq_true rfl, Nat.le_of_ble_eq_true rfl⟩ rfl hl.1 rfl (Nat.le_of_ble_eq_true rfl) dX5_readNumber_70) hS (fun q _ h => hFc q h) hFc (fun r_8 u t H1 locs ht hvm wh_9 hB1 hz1 hk1 hS => ?_)
          obtain ⟨cn9, In9, Fn9⟩ := u
          obtain ⟨hP1, hD1⟩ := hB1
          rw [ht] at hP1
          have hP : va_P D vwCl (wX cI (D.1 99) zz g ad cn9 In9 Fn9) H1 := hP1
          have hD : va_D A (wX cI (D.1 99) zz g ad cn9 In9 Fn9) := hD1.weaken (fun _ _ _ h => hFc _ h)
          generalize H1 = H at hP hS ⊢
          have vh_9 : (fun r c2 I2 F2 => Fr [] [] [195, 301] cn7 In7 F4 c2 I2 F2 ∧ CBX c2 ∧ (True)) r_8 cn9 In9 Fn9 := wh_9
          obtain ⟨hfc9, hIn9, h_9⟩ := vh_9
          obtain rfl : cn7 = cn9 := (funext (fun k => hfc9.1 k List.not_mem_nil)).symm
          obtain rfl : In7 = In9 := (funext (fun k => hfc9.2.1 k List.not_mem_nil)).symm
          have hf9 : Fr [31, 32] [33] [195, 301] cn In Fn cn7 In7 Fn9 := Fr.mo (Fr.tr hf7 hfc9) (sbl rfl) (sbl rfl) (sbl rfl)
          replace hIn9 : CBXh cn7 := hIn9
          refine lv_pop hx hb dX5_readNumber_73 rfl ?_
          exact W.vret hx hb hr (fun t ht hW => ⟨⟨(cn7, In7, Fn9), rfl, ⟨(Fr.mo hf9 (sbl rfl) (sbl rfl) (sbl rfl)), hIn9, (by show cn 31 ≤ cn7 31 ∧ cn7 31 ≤ cn7 32 ∧ cn7 32 ≤ cn 32; show cn 31 ≤ (cn7 31) ∧ (cn7 31) ≤ (cn7 32) ∧ (cn7 32) ≤ cn 32; omega)⟩, by rw [ht]; exact hP, hD⟩, hS.F ht⟩) hS.2.2 dX5_readNumber_74
        ·
          have h_5 : ¬ (48 ≤ r_2.toInt ∧ r_2.toInt ≤ 57) := h_5
          refine lv_if_eq (tgt := 64) hx hb dX5_readNumber_56 rfl (fun _ => ?_) (fun h => absurd h cq_eq_0_0)
          refine lv_aload_n hx hb dX5_readNumber_64 rfl (lvA2 hl) ?_
          refine gf_RX5_20 S hK hP 3 xo_3 (v := .ref (ad 5 (ad 4 1))) rfl dX5_readNumber_65 ?_
          refine lv_iconst (v := 1) hx hb dX5_readNumber_68 kic_1 ?_
          refine lv_iload_n hx hb dX5_readNumber_69 rfl (lvA1 hl) ?_
          have hFc := free_all hD hS hA
          refine va_calli (runV_xa (As := [.int 1, .int x4_1]) (rest := []) S (q_Tadd l D cI cB cZ zz qq vv bt g ad c4 I4 F4 (ad 4 1) 1 x4_1 H.size hI4 (by omega) (by rw [hfr4.2.2 199 (nml rfl)]; exact h9)) kV_RX5_75 hK hXS hS hFc hP hD _ (xf_7 (show (ad 4 1) < (c4 6) by omega)) rfl rfl ⟨Nat.le_of_ble_eq_true rfl, Nat.le_of_ble_eq_true rfl⟩ ⟨Nat.le_of_ble_eq_true rfl, Nat.le_of_ble_eq_true rfl⟩ rfl hl.1 rfl (Nat.le_of_ble_eq_true rfl) dX5_readNumber_70) hS (fun q _ h => hFc q h) hFc (fun r_10 u t H1 locs ht hvm wh_11 hB1 hz1 hk1 hS => ?_)
          obtain ⟨cn11, In11, Fn11⟩ := u
          obtain ⟨hP1, hD1⟩ := hB1
          rw [ht] at hP1
          have hP : va_P D vwCl (wX cI (D.1 99) zz g ad cn11 In11 Fn11) H1 := hP1
          have hD : va_D A (wX cI (D.1 99) zz g ad cn11 In11 Fn11) := hD1.weaken (fun _ _ _ h => hFc _ h)
          generalize H1 = H at hP hS ⊢
          have vh_11 : (fun r c2 I2 F2 => Fr [] [] [195, 301] c4 I4 F4 c2 I2 F2 ∧ CBX c2 ∧ (True)) r_10 cn11 In11 Fn11 := wh_11
          obtain ⟨hfc11, hIn11, h_11⟩ := vh_11
          obtain rfl : c4 = cn11 := (funext (fun k => hfc11.1 k List.not_mem_nil)).symm
          obtain rfl : I4 = In11 := (funext (fun k => hfc11.2.1 k List.not_mem_nil)).symm
          have hf11 : Fr [31, 32] [33] [195, 301] cn In Fn c4 I4 Fn11 := Fr.mo (Fr.tr hfr4 hfc11) (sbl rfl) (sbl rfl) (sbl rfl)
          replace hIn11 : CBXh c4 := hIn11
          refine lv_pop hx hb dX5_readNumber_73 rfl ?_
          exact W.vret hx hb hr (fun t ht hW => ⟨⟨(c4, I4, Fn11), rfl, ⟨(Fr.mo hf11 (sbl rfl) (sbl rfl) (sbl rfl)), hIn11, (by show cn 31 ≤ c4 31 ∧ c4 31 ≤ c4 32 ∧ c4 32 ≤ cn 32; show cn 31 ≤ (c4 31) ∧ (c4 31) ≤ (c4 32) ∧ (c4 32) ≤ cn 32; omega)⟩, by rw [ht]; exact hP, hD⟩, hS.F ht⟩) hS.2.2 dX5_readNumber_74
      ·
        have tc_1 : ((nI i4).toInt : Int) < 6 := Int32.lt_iff_toInt_lt.mp (Int32.not_le.mp c_1)
        refine lv_aload_n hx hb (oc_42 10 (aq_10 shX5_readNumber_0)) rfl (lvA2 hl) ?_
        refine vp_callSi (runV_rxa (As := []) (rest := []) S (q_Rpeek l D cI cB cZ zz qq vv bt g ad c4 I4 F4  hI4 (by omega) (by omega) (by omega) (by omega)) kV_RX5_43 hK hXS hS hP 3 xo_3 rfl rfl ⟨Nat.le_of_ble_eq_true rfl, Nat.le_of_ble_eq_true rfl⟩ ⟨Nat.le_of_ble_eq_true rfl, Nat.le_of_ble_eq_true rfl⟩ rfl hl.1 rfl (Nat.le_of_ble_eq_true rfl) (oc_182 11 (aq_11 shX5_readNumber_0) uw_0_43)) (fun r_12 h_13 => ?_)
        refine vp_callSi (runS_r (As := [.int r_12]) (rest := []) S (q_l_isDigit l D cI cB cZ r_12) kS_RX5_106 hK hP [] rfl ⟨Nat.le_of_ble_eq_true rfl, Nat.le_of_ble_eq_true rfl⟩ ⟨Nat.le_of_ble_eq_true rfl, Nat.le_of_ble_eq_true rfl⟩ rfl hl.1 rfl (Nat.le_of_ble_eq_true rfl) (oc_184 14 (aq_14 shX5_readNumber_0) uw_0_106)) (fun r_14 h_15 => ?_)
        rcases h_15 with ⟨rfl, h_15⟩ | ⟨rfl, h_15⟩
        ·
          have h_15 : 48 ≤ r_12.toInt ∧ r_12.toInt ≤ 57 := h_15
          refine lv_if_eq (tgt := 49) hx hb dX5_readNumber_17 rfl (fun h => absurd h cq_eq_1_0) (fun _ => ?_)
          refine lv_bipush (v := 10) hx hb (oc_16 20 (aq_20 shX5_readNumber_0) sgb_10) kbc_10 ?_
          refine lv_iload_n hx hb (oc_27 22 (aq_22 shX5_readNumber_0)) rfl (lvA1 hl) ?_
          refine lv_imul hx hb (oc_104 23 (aq_23 shX5_readNumber_0)) ?_
          refine lv_aload_n hx hb (oc_42 24 shX5_readNumber_24) rfl (lvA2 hl) ?_
          refine vp_callSi (runV_rxa (As := []) (rest := [.int (10 * x4_1)]) S (q_Rpeek l D cI cB cZ zz qq vv bt g ad c4 I4 F4  hI4 (by omega) (by omega) (by omega) (by omega)) kV_RX5_43 hK hXS hS hP 3 xo_3 rfl rfl ⟨Nat.le_of_ble_eq_true rfl, Nat.le_of_ble_eq_true rfl⟩ ⟨Nat.le_of_ble_eq_true rfl, Nat.le_of_ble_eq_true rfl⟩ rfl hl.1 rfl (Nat.le_of_ble_eq_true rfl) (oc_182 25 (aq_1 shX5_readNumber_24) uw_0_43)) (fun r_16 h_17 => ?_)
          refine lv_iadd hx hb (oc_96 28 (aq_4 shX5_readNumber_24)) ?_
          refine lv_bipush (v := 48) hx hb (oc_16 29 (aq_5 shX5_readNumber_24) sgb_48) kbc_48 ?_
          refine lv_isub hx hb (oc_100 31 (aq_7 shX5_readNumber_24)) ?_
          refine lv_istore_n (lv' := [(1, .int (((10 * x4_1) + r_16) - 48)), (2, .int (nI i4)), (0, .ref (g 6))]) hx hb (oc_60 32 (aq_8 shX5_readNumber_24)) rfl hl (ltb rfl) rfl (fun ls hl => ?_)
          refine lv_aload_n hx hb (oc_42 33 (aq_9 shX5_readNumber_24)) rfl (lvA2 hl) ?_
          refine lv_dup hx hb (oc_89 34 (aq_10 shX5_readNumber_24)) rfl ?_
          refine gf_RX5_31 S hK hP 3 xo_3 (v := .int (nI (c4 31))) rfl (oc_180 35 (aq_11 shX5_readNumber_24) uw_0_31) ?_
          refine lv_iconst (v := 1) hx hb (oc_4 38 (aq_14 shX5_readNumber_24)) kic_1 ?_
          refine lv_iadd hx hb (oc_96 39 (aq_15 shX5_readNumber_24)) ?_
          refine lv_topi (fun y_18 ey_18 => ?_)
          obtain rfl : y_18 = (nI ((c4 31) + 1)) := ey_18.trans (nI_add (c4 31) 1)
          refine pf_RX5_31 S hK hP hD hS 3 xo_3 (v := .int (nI ((c4 31) + 1))) (Nat.le_of_ble_eq_true rfl) rfl rfl (oc_181 40 (aq_16 shX5_readNumber_24) uw_0_31) (fun H locs hP hD hS => ?_)
          have hP : va_P D vwCl (wX cI (D.1 99) zz g ad (va_up c4 31 ((c4 31) + 1)) I4 F4) H := va_P_eq (xsf_3_3) hP
          have hD : va_D A (wX cI (D.1 99) zz g ad (va_up c4 31 ((c4 31) + 1)) I4 F4) := va_D_eq (xsf_3_3) hD
          refine lv_iinc (v := (nI (i4 + 1))) (lv' := [(2, .int (nI (i4 + 1))), (1, .int (((10 * x4_1) + r_16) - 48)), (0, .ref (g 6))]) hx hb (oc_132 43 (aq_19 shX5_readNumber_24) ub_2 sgb_1) hl (k := 1) rfl (nI_1 _) (ltb rfl) rfl (fun ls hl => ?_)
          refine lv_goto (tgt := 4) hx hb (oc_167 46 (aq_22 shX5_readNumber_24) sgw_255_214) rfl ?_
          exact ih4 (i4 + 1) (((10 * x4_1) + r_16) - 48) (va_up c4 31 ((c4 31) + 1)) I4 F4 _ _ (by omega) ⟨(by omega), (Fr.mo (Fr.c 31 hfr4) (sbl rfl) (sbl rfl) (sbl rfl)), (CBX.n (k := 31) (v := ((c4 31) + 1)) hI4 (by decide)), (show cn 31 ≤ ((c4 31) + 1) ∧ ((c4 31) + 1) ≤ (c4 32) ∧ (c4 32) ≤ cn 32 by omega)⟩ hP hD hS ls (lv_sub hl [0, 1, 2] rfl)
        ·
          have h_15 : ¬ (48 ≤ r_12.toInt ∧ r_12.toInt ≤ 57) := h_15
          refine lv_if_eq (tgt := 49) hx hb dX5_readNumber_17 rfl (fun _ => ?_) (fun h => absurd h cq_eq_0_0)
          refine lv_aload_n hx hb dX5_readNumber_49 rfl (lvA2 hl) ?_
          refine vp_callSi (runV_rxa (As := []) (rest := []) S (q_Rpeek l D cI cB cZ zz qq vv bt g ad c4 I4 F4  hI4 (by omega) (by omega) (by omega) (by omega)) kV_RX5_43 hK hXS hS hP 3 xo_3 rfl rfl ⟨Nat.le_of_ble_eq_true rfl, Nat.le_of_ble_eq_true rfl⟩ ⟨Nat.le_of_ble_eq_true rfl, Nat.le_of_ble_eq_true rfl⟩ rfl hl.1 rfl (Nat.le_of_ble_eq_true rfl) dX5_readNumber_50) (fun r_19 h_20 => ?_)
          refine vp_callSi (runS_r (As := [.int r_19]) (rest := []) S (q_l_isDigit l D cI cB cZ r_19) kS_RX5_106 hK hP [] rfl ⟨Nat.le_of_ble_eq_true rfl, Nat.le_of_ble_eq_true rfl⟩ ⟨Nat.le_of_ble_eq_true rfl, Nat.le_of_ble_eq_true rfl⟩ rfl hl.1 rfl (Nat.le_of_ble_eq_true rfl) dX5_readNumber_53) (fun r_21 h_22 => ?_)
          rcases h_22 with ⟨rfl, h_22⟩ | ⟨rfl, h_22⟩
          ·
            have h_22 : 48 ≤ r_19.toInt ∧ r_19.toInt ≤ 57 := h_22
            refine lv_if_eq (tgt := 64) hx hb dX5_readNumber_56 rfl (fun h => absurd h cq_eq_1_0) (fun _ => ?_)
            refine lv_aload_n hx hb dX5_readNumber_59 rfl (lvA2 hl) ?_
            refine lv_iconst (v := 2) hx hb dX5_readNumber_60 kic_2 ?_
            have hFc := free_all hD hS hA
            refine va_callv (runV_xa (As := [.int 2]) (rest := []) S (q_Rfail l D cI cB cZ zz qq vv bt g ad c4 I4 F4 2 H.size hI4 (by omega) (by omega) (by omega) (by omega)) kV_RX5_47 hK hXS hS hFc hP hD 3 xo_3 rfl rfl ⟨Nat.le_of_ble_eq_true rfl, Nat.le_of_ble_eq_true rfl⟩ ⟨Nat.le_of_ble_eq_true rfl, Nat.le_of_ble_eq_true rfl⟩ rfl hl.1 rfl (Nat.le_of_ble_eq_true rfl) dX5_readNumber_61) hS (fun q _ h => hFc q h) hFc (fun u t H1 locs ht hvm wh_24 hB1 hz1 hk1 hS => ?_)
            obtain ⟨cn24, In24, Fn24⟩ := u
            obtain ⟨hP1, hD1⟩ := hB1
            rw [ht] at hP1
            have hP : va_P D vwCl (wX cI (D.1 99) zz g ad cn24 In24 Fn24) H1 := hP1
            have hD : va_D A (wX cI (D.1 99) zz g ad cn24 In24 Fn24) := hD1.weaken (fun _ _ _ h => hFc _ h)
            generalize H1 = H at hP hS ⊢
            have vh_24 : (fun c2 I2 F2 => Fr [32] [33] [] c4 I4 F4 c2 I2 F2 ∧ CBX c2 ∧ (c2 31 = (c4 31) ∧ (c4 31) ≤ c2 32 ∧ c2 32 ≤ (c4 32))) cn24 In24 Fn24 := wh_24
            obtain ⟨hfc24, hIn24, h_24⟩ := vh_24
            obtain rfl : F4 = Fn24 := (funext (fun k => hfc24.2.2 k List.not_mem_nil)).symm
            have hf24 : Fr [31, 32] [33] [195, 301] cn In Fn cn24 In24 F4 := Fr.mo (Fr.tr hfr4 hfc24) (sbl rfl) (sbl rfl) (sbl rfl)
            replace hIn24 : CBXh cn24 := hIn24
            have : cn24 6 = (c4 6) := hfc24.1 6 (nml rfl)
            have : cn24 31 = (c4 31) := hfc24.1 31 (nml rfl)
            refine lv_aload_n hx hb dX5_readNumber_64 rfl (lvA2 hl) ?_
            refine gf_RX5_20 S hK hP 3 xo_3 (v := .ref (ad 5 (ad 4 1))) rfl dX5_readNumber_65 ?_
            refine lv_iconst (v := 1) hx hb dX5_readNumber_68 kic_1 ?_
            refine lv_iload_n hx hb dX5_readNumber_69 rfl (lvA1 hl) ?_
            have hFc := free_all hD hS hA
            refine va_calli (runV_xa (As := [.int 1, .int x4_1]) (rest := []) S (q_Tadd l D cI cB cZ zz qq vv bt g ad cn24 In24 F4 (ad 4 1) 1 x4_1 H.size hIn24 (by omega) (by rw [hf24.2.2 199 (nml rfl)]; exact h9)) kV_RX5_75 hK hXS hS hFc hP hD _ (xf_7 (show (ad 4 1) < (cn24 6) by omega)) rfl rfl ⟨Nat.le_of_ble_eq_true rfl, Nat.le_of_ble_eq_true rfl⟩ ⟨Nat.le_of_ble_eq_true rfl, Nat.le_of_ble_eq_true rfl⟩ rfl hl.1 rfl (Nat.le_of_ble_eq_true rfl) dX5_readNumber_70) hS (fun q _ h => hFc q h) hFc (fun r_25 u t H1 locs ht hvm wh_26 hB1 hz1 hk1 hS => ?_)
            obtain ⟨cn26, In26, Fn26⟩ := u
            obtain ⟨hP1, hD1⟩ := hB1
            rw [ht] at hP1
            have hP : va_P D vwCl (wX cI (D.1 99) zz g ad cn26 In26 Fn26) H1 := hP1
            have hD : va_D A (wX cI (D.1 99) zz g ad cn26 In26 Fn26) := hD1.weaken (fun _ _ _ h => hFc _ h)
            generalize H1 = H at hP hS ⊢
            have vh_26 : (fun r c2 I2 F2 => Fr [] [] [195, 301] cn24 In24 F4 c2 I2 F2 ∧ CBX c2 ∧ (True)) r_25 cn26 In26 Fn26 := wh_26
            obtain ⟨hfc26, hIn26, h_26⟩ := vh_26
            obtain rfl : cn24 = cn26 := (funext (fun k => hfc26.1 k List.not_mem_nil)).symm
            obtain rfl : In24 = In26 := (funext (fun k => hfc26.2.1 k List.not_mem_nil)).symm
            have hf26 : Fr [31, 32] [33] [195, 301] cn In Fn cn24 In24 Fn26 := Fr.mo (Fr.tr hf24 hfc26) (sbl rfl) (sbl rfl) (sbl rfl)
            replace hIn26 : CBXh cn24 := hIn26
            refine lv_pop hx hb dX5_readNumber_73 rfl ?_
            exact W.vret hx hb hr (fun t ht hW => ⟨⟨(cn24, In24, Fn26), rfl, ⟨(Fr.mo hf26 (sbl rfl) (sbl rfl) (sbl rfl)), hIn26, (by show cn 31 ≤ cn24 31 ∧ cn24 31 ≤ cn24 32 ∧ cn24 32 ≤ cn 32; show cn 31 ≤ (cn24 31) ∧ (cn24 31) ≤ (cn24 32) ∧ (cn24 32) ≤ cn 32; omega)⟩, by rw [ht]; exact hP, hD⟩, hS.F ht⟩) hS.2.2 dX5_readNumber_74
          ·
            have h_22 : ¬ (48 ≤ r_19.toInt ∧ r_19.toInt ≤ 57) := h_22
            refine lv_if_eq (tgt := 64) hx hb dX5_readNumber_56 rfl (fun _ => ?_) (fun h => absurd h cq_eq_0_0)
            refine lv_aload_n hx hb dX5_readNumber_64 rfl (lvA2 hl) ?_
            refine gf_RX5_20 S hK hP 3 xo_3 (v := .ref (ad 5 (ad 4 1))) rfl dX5_readNumber_65 ?_
            refine lv_iconst (v := 1) hx hb dX5_readNumber_68 kic_1 ?_
            refine lv_iload_n hx hb dX5_readNumber_69 rfl (lvA1 hl) ?_
            have hFc := free_all hD hS hA
            refine va_calli (runV_xa (As := [.int 1, .int x4_1]) (rest := []) S (q_Tadd l D cI cB cZ zz qq vv bt g ad c4 I4 F4 (ad 4 1) 1 x4_1 H.size hI4 (by omega) (by rw [hfr4.2.2 199 (nml rfl)]; exact h9)) kV_RX5_75 hK hXS hS hFc hP hD _ (xf_7 (show (ad 4 1) < (c4 6) by omega)) rfl rfl ⟨Nat.le_of_ble_eq_true rfl, Nat.le_of_ble_eq_true rfl⟩ ⟨Nat.le_of_ble_eq_true rfl, Nat.le_of_ble_eq_true rfl⟩ rfl hl.1 rfl (Nat.le_of_ble_eq_true rfl) dX5_readNumber_70) hS (fun q _ h => hFc q h) hFc (fun r_27 u t H1 locs ht hvm wh_28 hB1 hz1 hk1 hS => ?_)
            obtain ⟨cn28, In28, Fn28⟩ := u
            obtain ⟨hP1, hD1⟩ := hB1
            rw [ht] at hP1
            have hP : va_P D vwCl (wX cI (D.1 99) zz g ad cn28 In28 Fn28) H1 := hP1
            have hD : va_D A (wX cI (D.1 99) zz g ad cn28 In28 Fn28) := hD1.weaken (fun _ _ _ h => hFc _ h)
            generalize H1 = H at hP hS ⊢
            have vh_28 : (fun r c2 I2 F2 => Fr [] [] [195, 301] c4 I4 F4 c2 I2 F2 ∧ CBX c2 ∧ (True)) r_27 cn28 In28 Fn28 := wh_28
            obtain ⟨hfc28, hIn28, h_28⟩ := vh_28
            obtain rfl : c4 = cn28 := (funext (fun k => hfc28.1 k List.not_mem_nil)).symm
            obtain rfl : I4 = In28 := (funext (fun k => hfc28.2.1 k List.not_mem_nil)).symm
            have hf28 : Fr [31, 32] [33] [195, 301] cn In Fn c4 I4 Fn28 := Fr.mo (Fr.tr hfr4 hfc28) (sbl rfl) (sbl rfl) (sbl rfl)
            replace hIn28 : CBXh c4 := hIn28
            refine lv_pop hx hb dX5_readNumber_73 rfl ?_
            exact W.vret hx hb hr (fun t ht hW => ⟨⟨(c4, I4, Fn28), rfl, ⟨(Fr.mo hf28 (sbl rfl) (sbl rfl) (sbl rfl)), hIn28, (by show cn 31 ≤ c4 31 ∧ c4 31 ≤ c4 32 ∧ c4 32 ≤ cn 32; show cn 31 ≤ (c4 31) ∧ (c4 31) ≤ (c4 32) ∧ (c4 32) ≤ cn 32; omega)⟩, by rw [ht]; exact hP, hD⟩, hS.F ht⟩) hS.2.2 dX5_readNumber_74
  exact lp_4 _ 0 0 cn In Fn _ _ (Nat.lt_succ_self _) ⟨(by omega), (Fr.mo Fr.rf (sbl rfl) (sbl rfl) (sbl rfl)), hB, (show cn 31 ≤ (cn 31) ∧ (cn 31) ≤ (cn 32) ∧ (cn 32) ≤ cn 32 by omega)⟩ hP hD hS ls (lv_sub hl [0, 1, 2] rfl)
set_option maxRecDepth 100000 in
set_option maxHeartbeats 4000000 in
theorem gq_GreadFactor6 (l : Launch) (D : va_G) (cI cB cZ : ClassId) (zz qq vv : Nat) (bt : Nat → Int32) (g : Nat → Nat) (o : Int32) (ho : 6 ≤ o.toInt) : RDQ yX5_readFactor cX5_readFactor 4 l D cI cB cZ zz qq vv bt g o (4) := by
  intro ad cn In Fn sz hB hR h1 h3 h4 h9
  refine Met.ofW (cc := cX5_readFactor) (maxL := 4) (ret := none) (by decide) rfl ?_
  intro p e s m args below meth c s₁ B hml hv
  obtain ⟨rfl, hsz, hP, hK, hD0, hXS⟩ := hv
  have hx := B.exec
  have hb := B.bytes
  have hr := B.returns
  have hts := atoms_spec (ws := (CWS yX5_readFactor cX5_readFactor 4 none)) B.pre
  have hown : s.vm.findClass RX5 = some m.cls := findClass_of_methodNamed B.named
  have hlocks := B.notSynchronized
  have S : SF p m c cX5_readFactor 4 s ([.ref (g 6), .int o]).toArray RX5 := ⟨hx, hb, hml, hown, fun w h => hts w (List.mem_cons_of_mem _ h)⟩
  subst hsz
  have hD := hD0.self (sz := s.heap.size)
  generalize hAe : va_A (wX cI (D.1 99) zz g ad cn In Fn) s.heap.size = A at hD hXS ⊢
  have hA : ∀ q : Nat, s.heap.size ≤ q → A q := fun q h => by rw [← hAe]; exact Or.inr h
  have hS : va_S A s.heap s.heap [] := va_S.rf
  have hl := lv_entry ([.ref (g 6), .int o]) (n := 4) (Nat.le_of_ble_eq_true rfl)
  rw [lg_entry_eq]
  generalize (lg_sl ([.ref (g 6), .int o]) ++ List.replicate (4 - (lg_sl ([.ref (g 6), .int o])).length) Slot.unset).toArray = ls at hl ⊢
  have hl : lv_has ls 4 [(0, .ref (g 6)), (1, .int o)] := hl
  replace hB : CBXh cn := hB
  refine lv_aload_n hx hb dX5_readFactor_0 rfl (lvA0 hl) ?_
  refine vp_callSi (runV_rxa (As := []) (rest := []) S (q_Rpeek l D cI cB cZ zz qq vv bt g ad cn In Fn  hB (by omega) (by omega) (by omega) (by omega)) kV_RX5_43 hK hXS hS hP 3 xo_3 rfl rfl ⟨Nat.le_of_ble_eq_true rfl, Nat.le_of_ble_eq_true rfl⟩ ⟨Nat.le_of_ble_eq_true rfl, Nat.le_of_ble_eq_true rfl⟩ rfl hl.1 rfl (Nat.le_of_ble_eq_true rfl) dX5_readFactor_1) (fun r_1 h_2 => ?_)
  refine lv_istore_n (lv' := [(2, .int r_1), (0, .ref (g 6)), (1, .int o)]) hx hb dX5_readFactor_4 rfl hl (ltb rfl) rfl (fun ls hl => ?_)
  refine lv_iload_n hx hb dX5_readFactor_5 rfl (lvA0 hl) ?_
  refine lv_iconst (v := (-1)) hx hb dX5_readFactor_6 kic_m1 ?_
  refine lv_icmp_ne (tgt := 14) hx hb dX5_readFactor_7 rfl (fun c_3 => ?_) (fun c_3 => ?_)
  ·
    have tc_3 : (r_1.toInt : Int) ≠ (-1) := fun q => c_3 (Int32.toInt_inj.mp q)
    refine va_ldcS hx hb hown hXS.2.2.2.2.2.2.2.1.2 dX5_readFactor_14 ?_
    refine lv_iload_n hx hb dX5_readFactor_16 rfl (lvA0 hl) ?_
    refine lv_i2c (v := (r_1.toUInt32 % 65536).toInt32) hx hb dX5_readFactor_17 rfl ?_
    refine vp_callSi (runV_rx (As := [.int (r_1.toUInt32 % 65536).toInt32]) (rest := []) S (q_s_strIndex l D cI cB cZ zz qq vv bt ((r_1.toUInt32 % 65536).toInt32)) kV_RX5_100 hK hXS hS hP [] rfl (va_Orecv hXS.2.2.2.1 hS) ⟨Nat.le_of_ble_eq_true rfl, Nat.le_of_ble_eq_true rfl⟩ ⟨Nat.le_of_ble_eq_true rfl, Nat.le_of_ble_eq_true rfl⟩ rfl hl.1 rfl (Nat.le_of_ble_eq_true rfl) dX5_readFactor_18) (fun r_4 h_5 => ?_)
    refine lv_istore_n (lv' := [(3, .int r_4), (2, .int r_1), (0, .ref (g 6)), (1, .int o)]) hx hb dX5_readFactor_21 rfl hl (ltb rfl) rfl (fun ls hl => ?_)
    refine lv_iload_n hx hb dX5_readFactor_22 rfl (lvA1 hl) ?_
    refine lv_bipush (v := 91) hx hb dX5_readFactor_23 kbc_91 ?_
    refine lv_icmp_ne (tgt := 52) hx hb dX5_readFactor_25 rfl (fun c_6 => ?_) (fun c_6 => ?_)
    ·
      have tc_6 : (r_1.toInt : Int) ≠ 91 := fun q => c_6 (Int32.toInt_inj.mp q)
      refine lv_iload_n hx hb dX5_readFactor_52 rfl (lvA1 hl) ?_
      refine vp_callSi (runS_r (As := [.int r_1]) (rest := []) S (q_l_isDigit l D cI cB cZ r_1) kS_RX5_106 hK hP [] rfl ⟨Nat.le_of_ble_eq_true rfl, Nat.le_of_ble_eq_true rfl⟩ ⟨Nat.le_of_ble_eq_true rfl, Nat.le_of_ble_eq_true rfl⟩ rfl hl.1 rfl (Nat.le_of_ble_eq_true rfl) dX5_readFactor_53) (fun r_7 h_8 => ?_)
      rcases h_8 with ⟨rfl, h_8⟩ | ⟨rfl, h_8⟩
      ·
        have h_8 : 48 ≤ r_1.toInt ∧ r_1.toInt ≤ 57 := h_8
        refine lv_if_eq (tgt := 66) hx hb dX5_readFactor_56 rfl (fun h => absurd h cq_eq_1_0) (fun _ => ?_)
        refine lv_aload_n hx hb dX5_readFactor_59 rfl (lvA2 hl) ?_
        have hFc := free_all hD hS hA
        refine va_callv (runV_xa (As := []) (rest := []) S (q_RreadNumber l D cI cB cZ zz qq vv bt g ad cn In Fn  s.heap.size hB (by omega) (by omega) (by omega) (by omega) h9) kV_RX5_109 hK hXS hS hFc hP hD 3 xo_3 rfl rfl ⟨Nat.le_of_ble_eq_true rfl, Nat.le_of_ble_eq_true rfl⟩ ⟨Nat.le_of_ble_eq_true rfl, Nat.le_of_ble_eq_true rfl⟩ rfl hl.1 rfl (Nat.le_of_ble_eq_true rfl) dX5_readFactor_60) hS (fun q _ h => hFc q h) hFc (fun u t H1 locs ht hvm wh_10 hB1 hz1 hk1 hS => ?_)
        obtain ⟨cn10, In10, Fn10⟩ := u
        obtain ⟨hP1, hD1⟩ := hB1
        rw [ht] at hP1
        have hP : va_P D vwCl (wX cI (D.1 99) zz g ad cn10 In10 Fn10) H1 := hP1
        have hD : va_D A (wX cI (D.1 99) zz g ad cn10 In10 Fn10) := hD1.weaken (fun _ _ _ h => hFc _ h)
        generalize H1 = H at hP hS ⊢
        have vh_10 : (fun c2 I2 F2 => Fr [31, 32] [33] [195, 301] cn In Fn c2 I2 F2 ∧ CBX c2 ∧ ((cn 31) ≤ c2 31 ∧ c2 31 ≤ c2 32 ∧ c2 32 ≤ (cn 32))) cn10 In10 Fn10 := wh_10
        obtain ⟨hfc10, hIn10, h_10⟩ := vh_10
        have hf10 : Fr [31, 32] [33] [195, 301] cn In Fn cn10 In10 Fn10 := Fr.mo (Fr.tr (Fr.rf (cn := cn) (In := In) (Fn := Fn)) hfc10) (sbl rfl) (sbl rfl) (sbl rfl)
        replace hIn10 : CBXh cn10 := hIn10
        have : cn10 6 = (cn 6) := hfc10.1 6 (nml rfl)
        refine lv_goto (tgt := 98) hx hb dX5_readFactor_63 rfl ?_
        exact W.vret hx hb hr (fun t ht hW => ⟨⟨(cn10, In10, Fn10), rfl, ⟨(Fr.mo hf10 (sbl rfl) (sbl rfl) (sbl rfl)), hIn10, (by show cn 31 ≤ cn10 31 ∧ cn10 31 ≤ cn10 32 ∧ cn10 32 ≤ cn 32; show cn 31 ≤ (cn10 31) ∧ (cn10 31) ≤ (cn10 32) ∧ (cn10 32) ≤ cn 32; omega)⟩, by rw [ht]; exact hP, hD⟩, hS.F ht⟩) hS.2.2 dX5_readFactor_98
      ·
        have h_8 : ¬ (48 ≤ r_1.toInt ∧ r_1.toInt ≤ 57) := h_8
        refine lv_if_eq (tgt := 66) hx hb dX5_readFactor_56 rfl (fun _ => ?_) (fun h => absurd h cq_eq_0_0)
        refine lv_iload_n hx hb dX5_readFactor_66 rfl (lvA0 hl) ?_
        refine lv_if_lt (tgt := 93) hx hb dX5_readFactor_67 rfl (fun c_11 => ?_) (fun c_11 => ?_)
        ·
          have tc_11 : (r_4.toInt : Int) < 0 := Int32.lt_iff_toInt_lt.mp c_11
          refine lv_aload_n hx hb dX5_readFactor_93 rfl (lvA2 hl) ?_
          refine lv_iconst (v := 1) hx hb dX5_readFactor_94 kic_1 ?_
          have hFc := free_all hD hS hA
          refine va_callv (runV_xa (As := [.int 1]) (rest := []) S (q_Rfail l D cI cB cZ zz qq vv bt g ad cn In Fn 1 s.heap.size hB (by omega) (by omega) (by omega) (by omega)) kV_RX5_47 hK hXS hS hFc hP hD 3 xo_3 rfl rfl ⟨Nat.le_of_ble_eq_true rfl, Nat.le_of_ble_eq_true rfl⟩ ⟨Nat.le_of_ble_eq_true rfl, Nat.le_of_ble_eq_true rfl⟩ rfl hl.1 rfl (Nat.le_of_ble_eq_true rfl) dX5_readFactor_95) hS (fun q _ h => hFc q h) hFc (fun u t H1 locs ht hvm wh_13 hB1 hz1 hk1 hS => ?_)
          obtain ⟨cn13, In13, Fn13⟩ := u
          obtain ⟨hP1, hD1⟩ := hB1
          rw [ht] at hP1
          have hP : va_P D vwCl (wX cI (D.1 99) zz g ad cn13 In13 Fn13) H1 := hP1
          have hD : va_D A (wX cI (D.1 99) zz g ad cn13 In13 Fn13) := hD1.weaken (fun _ _ _ h => hFc _ h)
          generalize H1 = H at hP hS ⊢
          have vh_13 : (fun c2 I2 F2 => Fr [32] [33] [] cn In Fn c2 I2 F2 ∧ CBX c2 ∧ (c2 31 = (cn 31) ∧ (cn 31) ≤ c2 32 ∧ c2 32 ≤ (cn 32))) cn13 In13 Fn13 := wh_13
          obtain ⟨hfc13, hIn13, h_13⟩ := vh_13
          obtain rfl : Fn = Fn13 := (funext (fun k => hfc13.2.2 k List.not_mem_nil)).symm
          have hf13 : Fr [31, 32] [33] [195, 301] cn In Fn cn13 In13 Fn := Fr.mo (Fr.tr (Fr.rf (cn := cn) (In := In) (Fn := Fn)) hfc13) (sbl rfl) (sbl rfl) (sbl rfl)
          replace hIn13 : CBXh cn13 := hIn13
          have : cn13 6 = (cn 6) := hfc13.1 6 (nml rfl)
          have : cn13 31 = (cn 31) := hfc13.1 31 (nml rfl)
          exact W.vret hx hb hr (fun t ht hW => ⟨⟨(cn13, In13, Fn), rfl, ⟨(Fr.mo hf13 (sbl rfl) (sbl rfl) (sbl rfl)), hIn13, (by show cn 31 ≤ cn13 31 ∧ cn13 31 ≤ cn13 32 ∧ cn13 32 ≤ cn 32; show cn 31 ≤ (cn13 31) ∧ (cn13 31) ≤ (cn13 32) ∧ (cn13 32) ≤ cn 32; omega)⟩, by rw [ht]; exact hP, hD⟩, hS.F ht⟩) hS.2.2 dX5_readFactor_98
        ·
          have tc_11 : (0 : Int) ≤ r_4.toInt := Int32.le_iff_toInt_le.mp (Int32.not_lt.mp c_11)
          refine lv_aload_n hx hb dX5_readFactor_70 rfl (lvA2 hl) ?_
          refine lv_dup hx hb dX5_readFactor_71 rfl ?_
          refine gf_RX5_31 S hK hP 3 xo_3 (v := .int (nI (cn 31))) rfl dX5_readFactor_72 ?_
          refine lv_iconst (v := 1) hx hb dX5_readFactor_75 kic_1 ?_
          refine lv_iadd hx hb dX5_readFactor_76 ?_
          refine lv_topi (fun y_14 ey_14 => ?_)
          obtain rfl : y_14 = (nI ((cn 31) + 1)) := ey_14.trans (nI_add (cn 31) 1)
          refine pf_RX5_31 S hK hP hD hS 3 xo_3 (v := .int (nI ((cn 31) + 1))) (Nat.le_of_ble_eq_true rfl) rfl rfl dX5_readFactor_77 (fun H locs hP hD hS => ?_)
          have hP : va_P D vwCl (wX cI (D.1 99) zz g ad (va_up cn 31 ((cn 31) + 1)) In Fn) H := va_P_eq (xsf_3_3) hP
          have hD : va_D A (wX cI (D.1 99) zz g ad (va_up cn 31 ((cn 31) + 1)) In Fn) := va_D_eq (xsf_3_3) hD
          refine lv_aload_n hx hb dX5_readFactor_80 rfl (lvA2 hl) ?_
          refine gf_RX5_20 S hK hP 3 xo_3 (v := .ref (ad 5 (ad 4 1))) rfl dX5_readFactor_81 ?_
          refine lv_iconst (v := 2) hx hb dX5_readFactor_84 kic_2 ?_
          refine lv_iload_n hx hb dX5_readFactor_85 rfl (lvA0 hl) ?_
          have hFc := free_all hD hS hA
          refine va_calli (runV_xa (As := [.int 2, .int r_4]) (rest := []) S (q_Tadd l D cI cB cZ zz qq vv bt g ad (va_up cn 31 ((cn 31) + 1)) In Fn (ad 4 1) 2 r_4 H.size (CBX.n (k := 31) (v := ((cn 31) + 1)) hB (by decide)) (show (ad 4 1) < (cn 6) by omega) h9) kV_RX5_75 hK hXS hS hFc hP hD _ (xf_7 (show (ad 4 1) < (cn 6) by omega)) rfl rfl ⟨Nat.le_of_ble_eq_true rfl, Nat.le_of_ble_eq_true rfl⟩ ⟨Nat.le_of_ble_eq_true rfl, Nat.le_of_ble_eq_true rfl⟩ rfl hl.1 rfl (Nat.le_of_ble_eq_true rfl) dX5_readFactor_86) hS (fun q _ h => hFc q h) hFc (fun r_15 u t H1 locs ht hvm wh_16 hB1 hz1 hk1 hS => ?_)
          obtain ⟨cn16, In16, Fn16⟩ := u
          obtain ⟨hP1, hD1⟩ := hB1
          rw [ht] at hP1
          have hP : va_P D vwCl (wX cI (D.1 99) zz g ad cn16 In16 Fn16) H1 := hP1
          have hD : va_D A (wX cI (D.1 99) zz g ad cn16 In16 Fn16) := hD1.weaken (fun _ _ _ h => hFc _ h)
          generalize H1 = H at hP hS ⊢
          have vh_16 : (fun r c2 I2 F2 => Fr [] [] [195, 301] (va_up cn 31 ((cn 31) + 1)) In Fn c2 I2 F2 ∧ CBX c2 ∧ (True)) r_15 cn16 In16 Fn16 := wh_16
          obtain ⟨hfc16, hIn16, h_16⟩ := vh_16
          obtain rfl : In = In16 := (funext (fun k => hfc16.2.1 k List.not_mem_nil)).symm
          have hf16 : Fr [31, 32] [33] [195, 301] cn In Fn cn16 In Fn16 := Fr.mo (Fr.tr (Fr.c 31 (Fr.rf (cn := cn) (In := In) (Fn := Fn))) hfc16) (sbl rfl) (sbl rfl) (sbl rfl)
          replace hIn16 : CBXh cn16 := hIn16
          have : cn16 6 = (cn 6) := hfc16.1 6 (nml rfl)
          have : cn16 31 = ((cn 31) + 1) := hfc16.1 31 (nml rfl)
          have : cn16 32 = (cn 32) := hfc16.1 32 (nml rfl)
          refine lv_pop hx hb dX5_readFactor_89 rfl ?_
          refine lv_goto (tgt := 98) hx hb dX5_readFactor_90 rfl ?_
          exact W.vret hx hb hr (fun t ht hW => ⟨⟨(cn16, In, Fn16), rfl, ⟨(Fr.mo hf16 (sbl rfl) (sbl rfl) (sbl rfl)), hIn16, (by show cn 31 ≤ cn16 31 ∧ cn16 31 ≤ cn16 32 ∧ cn16 32 ≤ cn 32; show cn 31 ≤ (cn16 31) ∧ (cn16 31) ≤ (cn16 32) ∧ (cn16 32) ≤ cn 32; omega)⟩, by rw [ht]; exact hP, hD⟩, hS.F ht⟩) hS.2.2 dX5_readFactor_98
    ·
      have tc_6 : (r_1.toInt : Int) = 91 := congrArg Int32.toInt c_6
      refine lv_aload_n hx hb dX5_readFactor_28 rfl (lvA2 hl) ?_
      refine lv_iload_n hx hb dX5_readFactor_29 rfl (lvA3 hl) ?_
      have hFc := free_all hD hS hA
      refine va_calli (runV_xa (As := [.int o]) (rest := []) S (q_Ropens_n l D cI cB cZ zz qq vv bt g ad cn In Fn o s.heap.size hB (by omega) (by omega) (by omega) (by omega) (by omega) ho) kV_RX5_85 hK hXS hS hFc hP hD 3 xo_3 rfl rfl ⟨Nat.le_of_ble_eq_true rfl, Nat.le_of_ble_eq_true rfl⟩ ⟨Nat.le_of_ble_eq_true rfl, Nat.le_of_ble_eq_true rfl⟩ rfl hl.1 rfl (Nat.le_of_ble_eq_true rfl) dX5_readFactor_30) hS (fun q _ h => hFc q h) hFc (fun r_17 u t H1 locs ht hvm wh_18 hB1 hz1 hk1 hS => ?_)
      obtain ⟨cn18, In18, Fn18⟩ := u
      obtain ⟨hP1, hD1⟩ := hB1
      rw [ht] at hP1
      have hP : va_P D vwCl (wX cI (D.1 99) zz g ad cn18 In18 Fn18) H1 := hP1
      have hD : va_D A (wX cI (D.1 99) zz g ad cn18 In18 Fn18) := hD1.weaken (fun _ _ _ h => hFc _ h)
      generalize H1 = H at hP hS ⊢
      have vh_18 : (fun r c2 I2 F2 => Fr [31, 32] [33] [] cn In Fn c2 I2 F2 ∧ CBX c2 ∧ (((cn 31) ≤ c2 31 ∧ c2 31 ≤ c2 32 ∧ c2 32 ≤ (cn 32)) ∧ r = 0)) r_17 cn18 In18 Fn18 := wh_18
      obtain ⟨hfc18, hIn18, h_18⟩ := vh_18
      obtain rfl : Fn = Fn18 := (funext (fun k => hfc18.2.2 k List.not_mem_nil)).symm
      have hf18 : Fr [31, 32] [33] [195, 301] cn In Fn cn18 In18 Fn := Fr.mo (Fr.tr (Fr.rf (cn := cn) (In := In) (Fn := Fn)) hfc18) (sbl rfl) (sbl rfl) (sbl rfl)
      replace hIn18 : CBXh cn18 := hIn18
      have : cn18 6 = (cn 6) := hfc18.1 6 (nml rfl)
      obtain ⟨h_18, rfl⟩ := h_18
      refine lv_if_eq (tgt := 98) hx hb dX5_readFactor_33 rfl (fun _ => ?_) (fun h => absurd h cq_eq_0_0)
      exact W.vret hx hb hr (fun t ht hW => ⟨⟨(cn18, In18, Fn), rfl, ⟨(Fr.mo hf18 (sbl rfl) (sbl rfl) (sbl rfl)), hIn18, (by show cn 31 ≤ cn18 31 ∧ cn18 31 ≤ cn18 32 ∧ cn18 32 ≤ cn 32; show cn 31 ≤ (cn18 31) ∧ (cn18 31) ≤ (cn18 32) ∧ (cn18 32) ≤ cn 32; omega)⟩, by rw [ht]; exact hP, hD⟩, hS.F ht⟩) hS.2.2 dX5_readFactor_98
  ·
    have tc_3 : (r_1.toInt : Int) = (-1) := congrArg Int32.toInt c_3
    refine lv_iconst (v := (-1)) hx hb dX5_readFactor_10 kic_m1 ?_
    refine lv_goto (tgt := 21) hx hb dX5_readFactor_11 rfl ?_
    refine lv_istore_n (lv' := [(3, .int (-1)), (2, .int r_1), (0, .ref (g 6)), (1, .int o)]) hx hb dX5_readFactor_21 rfl hl (ltb rfl) rfl (fun ls hl => ?_)
    refine lv_iload_n hx hb dX5_readFactor_22 rfl (lvA1 hl) ?_
    refine lv_bipush (v := 91) hx hb dX5_readFactor_23 kbc_91 ?_
    refine lv_icmp_ne (tgt := 52) hx hb dX5_readFactor_25 rfl (fun c_19 => ?_) (fun c_19 => False.elim (by have tc_19 : (r_1.toInt : Int) = 91 := congrArg Int32.toInt c_19; omega))
    have tc_19 : (r_1.toInt : Int) ≠ 91 := fun q => c_19 (Int32.toInt_inj.mp q)
    refine lv_iload_n hx hb dX5_readFactor_52 rfl (lvA1 hl) ?_
    refine vp_callSi (runS_r (As := [.int r_1]) (rest := []) S (q_l_isDigit l D cI cB cZ r_1) kS_RX5_106 hK hP [] rfl ⟨Nat.le_of_ble_eq_true rfl, Nat.le_of_ble_eq_true rfl⟩ ⟨Nat.le_of_ble_eq_true rfl, Nat.le_of_ble_eq_true rfl⟩ rfl hl.1 rfl (Nat.le_of_ble_eq_true rfl) dX5_readFactor_53) (fun r_20 h_21 => ?_)
    rcases h_21 with ⟨rfl, h_21⟩ | ⟨rfl, h_21⟩
    ·
      have h_21 : 48 ≤ r_1.toInt ∧ r_1.toInt ≤ 57 := h_21
      exfalso; omega
    ·
      have h_21 : ¬ (48 ≤ r_1.toInt ∧ r_1.toInt ≤ 57) := h_21
      refine lv_if_eq (tgt := 66) hx hb dX5_readFactor_56 rfl (fun _ => ?_) (fun h => absurd h cq_eq_0_0)
      refine lv_iload_n hx hb dX5_readFactor_66 rfl (lvA0 hl) ?_
      refine lv_if_lt (tgt := 93) hx hb dX5_readFactor_67 rfl (fun _ => ?_) (fun h => absurd h cq_lt_m1_0)
      refine lv_aload_n hx hb dX5_readFactor_93 rfl (lvA2 hl) ?_
      refine lv_iconst (v := 1) hx hb dX5_readFactor_94 kic_1 ?_
      have hFc := free_all hD hS hA
      refine va_callv (runV_xa (As := [.int 1]) (rest := []) S (q_Rfail l D cI cB cZ zz qq vv bt g ad cn In Fn 1 s.heap.size hB (by omega) (by omega) (by omega) (by omega)) kV_RX5_47 hK hXS hS hFc hP hD 3 xo_3 rfl rfl ⟨Nat.le_of_ble_eq_true rfl, Nat.le_of_ble_eq_true rfl⟩ ⟨Nat.le_of_ble_eq_true rfl, Nat.le_of_ble_eq_true rfl⟩ rfl hl.1 rfl (Nat.le_of_ble_eq_true rfl) dX5_readFactor_95) hS (fun q _ h => hFc q h) hFc (fun u t H1 locs ht hvm wh_23 hB1 hz1 hk1 hS => ?_)
      obtain ⟨cn23, In23, Fn23⟩ := u
      obtain ⟨hP1, hD1⟩ := hB1
      rw [ht] at hP1
      have hP : va_P D vwCl (wX cI (D.1 99) zz g ad cn23 In23 Fn23) H1 := hP1
      have hD : va_D A (wX cI (D.1 99) zz g ad cn23 In23 Fn23) := hD1.weaken (fun _ _ _ h => hFc _ h)
      generalize H1 = H at hP hS ⊢
      have vh_23 : (fun c2 I2 F2 => Fr [32] [33] [] cn In Fn c2 I2 F2 ∧ CBX c2 ∧ (c2 31 = (cn 31) ∧ (cn 31) ≤ c2 32 ∧ c2 32 ≤ (cn 32))) cn23 In23 Fn23 := wh_23
      obtain ⟨hfc23, hIn23, h_23⟩ := vh_23
      obtain rfl : Fn = Fn23 := (funext (fun k => hfc23.2.2 k List.not_mem_nil)).symm
      have hf23 : Fr [31, 32] [33] [195, 301] cn In Fn cn23 In23 Fn := Fr.mo (Fr.tr (Fr.rf (cn := cn) (In := In) (Fn := Fn)) hfc23) (sbl rfl) (sbl rfl) (sbl rfl)
      replace hIn23 : CBXh cn23 := hIn23
      have : cn23 6 = (cn 6) := hfc23.1 6 (nml rfl)
      have : cn23 31 = (cn 31) := hfc23.1 31 (nml rfl)
      exact W.vret hx hb hr (fun t ht hW => ⟨⟨(cn23, In23, Fn), rfl, ⟨(Fr.mo hf23 (sbl rfl) (sbl rfl) (sbl rfl)), hIn23, (by show cn 31 ≤ cn23 31 ∧ cn23 31 ≤ cn23 32 ∧ cn23 32 ≤ cn 32; show cn 31 ≤ (cn23 31) ∧ (cn23 31) ≤ (cn23 32) ∧ (cn23 32) ≤ cn 32; omega)⟩, by rw [ht]; exact hP, hD⟩, hS.F ht⟩) hS.2.2 dX5_readFactor_98
set_option maxRecDepth 100000 in
set_option maxHeartbeats 4000000 in
theorem gq_GreadFactor (l : Launch) (D : va_G) (cI cB cZ : ClassId) (zz qq vv : Nat) (bt : Nat → Int32) (g : Nat → Nat) (o : Int32) (d : Nat) (ho : o.toInt < 6) (hd : 4 ≤ d ∧ d ≤ 60) (hSq : RDQ yX5_readSum cX5_readSum 3 l D cI cB cZ zz qq vv bt g (o + 1) d) : RDQ yX5_readFactor cX5_readFactor 4 l D cI cB cZ zz qq vv bt g o (d + 1) := by
  intro ad cn In Fn sz hB hR h1 h3 h4 h9
  refine Met.ofW (cc := cX5_readFactor) (maxL := 4) (ret := none) (by decide) rfl ?_
  intro p e s m args below meth c s₁ B hml hv
  obtain ⟨rfl, hsz, hP, hK, hD0, hXS⟩ := hv
  have hx := B.exec
  have hb := B.bytes
  have hr := B.returns
  have hts := atoms_spec (ws := (CWS yX5_readFactor cX5_readFactor 4 none)) B.pre
  have hown : s.vm.findClass RX5 = some m.cls := findClass_of_methodNamed B.named
  have hlocks := B.notSynchronized
  have S : SF p m c cX5_readFactor 4 s ([.ref (g 6), .int o]).toArray RX5 := ⟨hx, hb, hml, hown, fun w h => hts w (List.mem_cons_of_mem _ h)⟩
  subst hsz
  have hD := hD0.self (sz := s.heap.size)
  generalize hAe : va_A (wX cI (D.1 99) zz g ad cn In Fn) s.heap.size = A at hD hXS ⊢
  have hA : ∀ q : Nat, s.heap.size ≤ q → A q := fun q h => by rw [← hAe]; exact Or.inr h
  have hS : va_S A s.heap s.heap [] := va_S.rf
  have hl := lv_entry ([.ref (g 6), .int o]) (n := 4) (Nat.le_of_ble_eq_true rfl)
  rw [lg_entry_eq]
  generalize (lg_sl ([.ref (g 6), .int o]) ++ List.replicate (4 - (lg_sl ([.ref (g 6), .int o])).length) Slot.unset).toArray = ls at hl ⊢
  have hl : lv_has ls 4 [(0, .ref (g 6)), (1, .int o)] := hl
  replace hB : CBXh cn := hB
  refine lv_aload_n hx hb dX5_readFactor_0 rfl (lvA0 hl) ?_
  refine vp_callSi (runV_rxa (As := []) (rest := []) S (q_Rpeek l D cI cB cZ zz qq vv bt g ad cn In Fn  hB (by omega) (by omega) (by omega) (by omega)) kV_RX5_43 hK hXS hS hP 3 xo_3 rfl rfl ⟨(by show 0 + 1 ≤ d + 1; omega), (by show 8 + (1 + 11) + 40 * 0 ≤ 40 * (d + 1); omega)⟩ ⟨Nat.le_of_ble_eq_true rfl, Nat.le_of_ble_eq_true rfl⟩ rfl hl.1 rfl (Nat.le_of_ble_eq_true rfl) dX5_readFactor_1) (fun r_1 h_2 => ?_)
  refine lv_istore_n (lv' := [(2, .int r_1), (0, .ref (g 6)), (1, .int o)]) hx hb dX5_readFactor_4 rfl hl (ltb rfl) rfl (fun ls hl => ?_)
  refine lv_iload_n hx hb dX5_readFactor_5 rfl (lvA0 hl) ?_
  refine lv_iconst (v := (-1)) hx hb dX5_readFactor_6 kic_m1 ?_
  refine lv_icmp_ne (tgt := 14) hx hb dX5_readFactor_7 rfl (fun c_3 => ?_) (fun c_3 => ?_)
  ·
    have tc_3 : (r_1.toInt : Int) ≠ (-1) := fun q => c_3 (Int32.toInt_inj.mp q)
    refine va_ldcS hx hb hown hXS.2.2.2.2.2.2.2.1.2 dX5_readFactor_14 ?_
    refine lv_iload_n hx hb dX5_readFactor_16 rfl (lvA0 hl) ?_
    refine lv_i2c (v := (r_1.toUInt32 % 65536).toInt32) hx hb dX5_readFactor_17 rfl ?_
    refine vp_callSi (runV_rx (As := [.int (r_1.toUInt32 % 65536).toInt32]) (rest := []) S (q_s_strIndex l D cI cB cZ zz qq vv bt ((r_1.toUInt32 % 65536).toInt32)) kV_RX5_100 hK hXS hS hP [] rfl (va_Orecv hXS.2.2.2.1 hS) ⟨(by show 3 + 1 ≤ d + 1; omega), (by show 8 + (2 + 11) + 40 * 3 ≤ 40 * (d + 1); omega)⟩ ⟨Nat.le_of_ble_eq_true rfl, Nat.le_of_ble_eq_true rfl⟩ rfl hl.1 rfl (Nat.le_of_ble_eq_true rfl) dX5_readFactor_18) (fun r_4 h_5 => ?_)
    refine lv_istore_n (lv' := [(3, .int r_4), (2, .int r_1), (0, .ref (g 6)), (1, .int o)]) hx hb dX5_readFactor_21 rfl hl (ltb rfl) rfl (fun ls hl => ?_)
    refine lv_iload_n hx hb dX5_readFactor_22 rfl (lvA1 hl) ?_
    refine lv_bipush (v := 91) hx hb dX5_readFactor_23 kbc_91 ?_
    refine lv_icmp_ne (tgt := 52) hx hb dX5_readFactor_25 rfl (fun c_6 => ?_) (fun c_6 => ?_)
    ·
      have tc_6 : (r_1.toInt : Int) ≠ 91 := fun q => c_6 (Int32.toInt_inj.mp q)
      refine lv_iload_n hx hb dX5_readFactor_52 rfl (lvA1 hl) ?_
      refine vp_callSi (runS_r (As := [.int r_1]) (rest := []) S (q_l_isDigit l D cI cB cZ r_1) kS_RX5_106 hK hP [] rfl ⟨(by show 0 + 1 ≤ d + 1; omega), (by show 8 + (1 + 11) + 40 * 0 ≤ 40 * (d + 1); omega)⟩ ⟨Nat.le_of_ble_eq_true rfl, Nat.le_of_ble_eq_true rfl⟩ rfl hl.1 rfl (Nat.le_of_ble_eq_true rfl) dX5_readFactor_53) (fun r_7 h_8 => ?_)
      rcases h_8 with ⟨rfl, h_8⟩ | ⟨rfl, h_8⟩
      ·
        have h_8 : 48 ≤ r_1.toInt ∧ r_1.toInt ≤ 57 := h_8
        refine lv_if_eq (tgt := 66) hx hb dX5_readFactor_56 rfl (fun h => absurd h cq_eq_1_0) (fun _ => ?_)
        refine lv_aload_n hx hb dX5_readFactor_59 rfl (lvA2 hl) ?_
        have hFc := free_all hD hS hA
        refine va_callv (runV_xa (As := []) (rest := []) S (q_RreadNumber l D cI cB cZ zz qq vv bt g ad cn In Fn  s.heap.size hB (by omega) (by omega) (by omega) (by omega) h9) kV_RX5_109 hK hXS hS hFc hP hD 3 xo_3 rfl rfl ⟨(by show 1 + 1 ≤ d + 1; omega), (by show 8 + (3 + 11) + 40 * 1 ≤ 40 * (d + 1); omega)⟩ ⟨Nat.le_of_ble_eq_true rfl, Nat.le_of_ble_eq_true rfl⟩ rfl hl.1 rfl (Nat.le_of_ble_eq_true rfl) dX5_readFactor_60) hS (fun q _ h => hFc q h) hFc (fun u t H1 locs ht hvm wh_10 hB1 hz1 hk1 hS => ?_)
        obtain ⟨cn10, In10, Fn10⟩ := u
        obtain ⟨hP1, hD1⟩ := hB1
        rw [ht] at hP1
        have hP : va_P D vwCl (wX cI (D.1 99) zz g ad cn10 In10 Fn10) H1 := hP1
        have hD : va_D A (wX cI (D.1 99) zz g ad cn10 In10 Fn10) := hD1.weaken (fun _ _ _ h => hFc _ h)
        generalize H1 = H at hP hS ⊢
        have vh_10 : (fun c2 I2 F2 => Fr [31, 32] [33] [195, 301] cn In Fn c2 I2 F2 ∧ CBX c2 ∧ ((cn 31) ≤ c2 31 ∧ c2 31 ≤ c2 32 ∧ c2 32 ≤ (cn 32))) cn10 In10 Fn10 := wh_10
        obtain ⟨hfc10, hIn10, h_10⟩ := vh_10
        have hf10 : Fr [31, 32] [33] [195, 301] cn In Fn cn10 In10 Fn10 := Fr.mo (Fr.tr (Fr.rf (cn := cn) (In := In) (Fn := Fn)) hfc10) (sbl rfl) (sbl rfl) (sbl rfl)
        replace hIn10 : CBXh cn10 := hIn10
        have : cn10 6 = (cn 6) := hfc10.1 6 (nml rfl)
        refine lv_goto (tgt := 98) hx hb dX5_readFactor_63 rfl ?_
        exact W.vret hx hb hr (fun t ht hW => ⟨⟨(cn10, In10, Fn10), rfl, ⟨(Fr.mo hf10 (sbl rfl) (sbl rfl) (sbl rfl)), hIn10, (by show cn 31 ≤ cn10 31 ∧ cn10 31 ≤ cn10 32 ∧ cn10 32 ≤ cn 32; show cn 31 ≤ (cn10 31) ∧ (cn10 31) ≤ (cn10 32) ∧ (cn10 32) ≤ cn 32; omega)⟩, by rw [ht]; exact hP, hD⟩, hS.F ht⟩) hS.2.2 dX5_readFactor_98
      ·
        have h_8 : ¬ (48 ≤ r_1.toInt ∧ r_1.toInt ≤ 57) := h_8
        refine lv_if_eq (tgt := 66) hx hb dX5_readFactor_56 rfl (fun _ => ?_) (fun h => absurd h cq_eq_0_0)
        refine lv_iload_n hx hb dX5_readFactor_66 rfl (lvA0 hl) ?_
        refine lv_if_lt (tgt := 93) hx hb dX5_readFactor_67 rfl (fun c_11 => ?_) (fun c_11 => ?_)
        ·
          have tc_11 : (r_4.toInt : Int) < 0 := Int32.lt_iff_toInt_lt.mp c_11
          refine lv_aload_n hx hb dX5_readFactor_93 rfl (lvA2 hl) ?_
          refine lv_iconst (v := 1) hx hb dX5_readFactor_94 kic_1 ?_
          have hFc := free_all hD hS hA
          refine va_callv (runV_xa (As := [.int 1]) (rest := []) S (q_Rfail l D cI cB cZ zz qq vv bt g ad cn In Fn 1 s.heap.size hB (by omega) (by omega) (by omega) (by omega)) kV_RX5_47 hK hXS hS hFc hP hD 3 xo_3 rfl rfl ⟨(by show 0 + 1 ≤ d + 1; omega), (by show 8 + (2 + 11) + 40 * 0 ≤ 40 * (d + 1); omega)⟩ ⟨Nat.le_of_ble_eq_true rfl, Nat.le_of_ble_eq_true rfl⟩ rfl hl.1 rfl (Nat.le_of_ble_eq_true rfl) dX5_readFactor_95) hS (fun q _ h => hFc q h) hFc (fun u t H1 locs ht hvm wh_13 hB1 hz1 hk1 hS => ?_)
          obtain ⟨cn13, In13, Fn13⟩ := u
          obtain ⟨hP1, hD1⟩ := hB1
          rw [ht] at hP1
          have hP : va_P D vwCl (wX cI (D.1 99) zz g ad cn13 In13 Fn13) H1 := hP1
          have hD : va_D A (wX cI (D.1 99) zz g ad cn13 In13 Fn13) := hD1.weaken (fun _ _ _ h => hFc _ h)
          generalize H1 = H at hP hS ⊢
          have vh_13 : (fun c2 I2 F2 => Fr [32] [33] [] cn In Fn c2 I2 F2 ∧ CBX c2 ∧ (c2 31 = (cn 31) ∧ (cn 31) ≤ c2 32 ∧ c2 32 ≤ (cn 32))) cn13 In13 Fn13 := wh_13
          obtain ⟨hfc13, hIn13, h_13⟩ := vh_13
          obtain rfl : Fn = Fn13 := (funext (fun k => hfc13.2.2 k List.not_mem_nil)).symm
          have hf13 : Fr [31, 32] [33] [195, 301] cn In Fn cn13 In13 Fn := Fr.mo (Fr.tr (Fr.rf (cn := cn) (In := In) (Fn := Fn)) hfc13) (sbl rfl) (sbl rfl) (sbl rfl)
          replace hIn13 : CBXh cn13 := hIn13
          have : cn13 6 = (cn 6) := hfc13.1 6 (nml rfl)
          have : cn13 31 = (cn 31) := hfc13.1 31 (nml rfl)
          exact W.vret hx hb hr (fun t ht hW => ⟨⟨(cn13, In13, Fn), rfl, ⟨(Fr.mo hf13 (sbl rfl) (sbl rfl) (sbl rfl)), hIn13, (by show cn 31 ≤ cn13 31 ∧ cn13 31 ≤ cn13 32 ∧ cn13 32 ≤ cn 32; show cn 31 ≤ (cn13 31) ∧ (cn13 31) ≤ (cn13 32) ∧ (cn13 32) ≤ cn 32; omega)⟩, by rw [ht]; exact hP, hD⟩, hS.F ht⟩) hS.2.2 dX5_readFactor_98
        ·
          have tc_11 : (0 : Int) ≤ r_4.toInt := Int32.le_iff_toInt_le.mp (Int32.not_lt.mp c_11)
          refine lv_aload_n hx hb dX5_readFactor_70 rfl (lvA2 hl) ?_
          refine lv_dup hx hb dX5_readFactor_71 rfl ?_
          refine gf_RX5_31 S hK hP 3 xo_3 (v := .int (nI (cn 31))) rfl dX5_readFactor_72 ?_
          refine lv_iconst (v := 1) hx hb dX5_readFactor_75 kic_1 ?_
          refine lv_iadd hx hb dX5_readFactor_76 ?_
          refine lv_topi (fun y_14 ey_14 => ?_)
          obtain rfl : y_14 = (nI ((cn 31) + 1)) := ey_14.trans (nI_add (cn 31) 1)
          refine pf_RX5_31 S hK hP hD hS 3 xo_3 (v := .int (nI ((cn 31) + 1))) (Nat.le_of_ble_eq_true rfl) rfl rfl dX5_readFactor_77 (fun H locs hP hD hS => ?_)
          have hP : va_P D vwCl (wX cI (D.1 99) zz g ad (va_up cn 31 ((cn 31) + 1)) In Fn) H := va_P_eq (xsf_3_3) hP
          have hD : va_D A (wX cI (D.1 99) zz g ad (va_up cn 31 ((cn 31) + 1)) In Fn) := va_D_eq (xsf_3_3) hD
          refine lv_aload_n hx hb dX5_readFactor_80 rfl (lvA2 hl) ?_
          refine gf_RX5_20 S hK hP 3 xo_3 (v := .ref (ad 5 (ad 4 1))) rfl dX5_readFactor_81 ?_
          refine lv_iconst (v := 2) hx hb dX5_readFactor_84 kic_2 ?_
          refine lv_iload_n hx hb dX5_readFactor_85 rfl (lvA0 hl) ?_
          have hFc := free_all hD hS hA
          refine va_calli (runV_xa (As := [.int 2, .int r_4]) (rest := []) S (q_Tadd l D cI cB cZ zz qq vv bt g ad (va_up cn 31 ((cn 31) + 1)) In Fn (ad 4 1) 2 r_4 H.size (CBX.n (k := 31) (v := ((cn 31) + 1)) hB (by decide)) (show (ad 4 1) < (cn 6) by omega) h9) kV_RX5_75 hK hXS hS hFc hP hD _ (xf_7 (show (ad 4 1) < (cn 6) by omega)) rfl rfl ⟨(by show 0 + 1 ≤ d + 1; omega), (by show 8 + (3 + 11) + 40 * 0 ≤ 40 * (d + 1); omega)⟩ ⟨Nat.le_of_ble_eq_true rfl, Nat.le_of_ble_eq_true rfl⟩ rfl hl.1 rfl (Nat.le_of_ble_eq_true rfl) dX5_readFactor_86) hS (fun q _ h => hFc q h) hFc (fun r_15 u t H1 locs ht hvm wh_16 hB1 hz1 hk1 hS => ?_)
          obtain ⟨cn16, In16, Fn16⟩ := u
          obtain ⟨hP1, hD1⟩ := hB1
          rw [ht] at hP1
          have hP : va_P D vwCl (wX cI (D.1 99) zz g ad cn16 In16 Fn16) H1 := hP1
          have hD : va_D A (wX cI (D.1 99) zz g ad cn16 In16 Fn16) := hD1.weaken (fun _ _ _ h => hFc _ h)
          generalize H1 = H at hP hS ⊢
          have vh_16 : (fun r c2 I2 F2 => Fr [] [] [195, 301] (va_up cn 31 ((cn 31) + 1)) In Fn c2 I2 F2 ∧ CBX c2 ∧ (True)) r_15 cn16 In16 Fn16 := wh_16
          obtain ⟨hfc16, hIn16, h_16⟩ := vh_16
          obtain rfl : In = In16 := (funext (fun k => hfc16.2.1 k List.not_mem_nil)).symm
          have hf16 : Fr [31, 32] [33] [195, 301] cn In Fn cn16 In Fn16 := Fr.mo (Fr.tr (Fr.c 31 (Fr.rf (cn := cn) (In := In) (Fn := Fn))) hfc16) (sbl rfl) (sbl rfl) (sbl rfl)
          replace hIn16 : CBXh cn16 := hIn16
          have : cn16 6 = (cn 6) := hfc16.1 6 (nml rfl)
          have : cn16 31 = ((cn 31) + 1) := hfc16.1 31 (nml rfl)
          have : cn16 32 = (cn 32) := hfc16.1 32 (nml rfl)
          refine lv_pop hx hb dX5_readFactor_89 rfl ?_
          refine lv_goto (tgt := 98) hx hb dX5_readFactor_90 rfl ?_
          exact W.vret hx hb hr (fun t ht hW => ⟨⟨(cn16, In, Fn16), rfl, ⟨(Fr.mo hf16 (sbl rfl) (sbl rfl) (sbl rfl)), hIn16, (by show cn 31 ≤ cn16 31 ∧ cn16 31 ≤ cn16 32 ∧ cn16 32 ≤ cn 32; show cn 31 ≤ (cn16 31) ∧ (cn16 31) ≤ (cn16 32) ∧ (cn16 32) ≤ cn 32; omega)⟩, by rw [ht]; exact hP, hD⟩, hS.F ht⟩) hS.2.2 dX5_readFactor_98
    ·
      have tc_6 : (r_1.toInt : Int) = 91 := congrArg Int32.toInt c_6
      refine lv_aload_n hx hb dX5_readFactor_28 rfl (lvA2 hl) ?_
      refine lv_iload_n hx hb dX5_readFactor_29 rfl (lvA3 hl) ?_
      have hFc := free_all hD hS hA
      refine va_calli (runV_xa (As := [.int o]) (rest := []) S (q_Ropens_y l D cI cB cZ zz qq vv bt g ad cn In Fn o s.heap.size hB (by omega) (by omega) (by omega) (by omega) (by omega) ho) kV_RX5_85 hK hXS hS hFc hP hD 3 xo_3 rfl rfl ⟨(by show 1 + 1 ≤ d + 1; omega), (by show 8 + (2 + 11) + 40 * 1 ≤ 40 * (d + 1); omega)⟩ ⟨Nat.le_of_ble_eq_true rfl, Nat.le_of_ble_eq_true rfl⟩ rfl hl.1 rfl (Nat.le_of_ble_eq_true rfl) dX5_readFactor_30) hS (fun q _ h => hFc q h) hFc (fun r_17 u t H1 locs ht hvm wh_18 hB1 hz1 hk1 hS => ?_)
      obtain ⟨cn18, In18, Fn18⟩ := u
      obtain ⟨hP1, hD1⟩ := hB1
      rw [ht] at hP1
      have hP : va_P D vwCl (wX cI (D.1 99) zz g ad cn18 In18 Fn18) H1 := hP1
      have hD : va_D A (wX cI (D.1 99) zz g ad cn18 In18 Fn18) := hD1.weaken (fun _ _ _ h => hFc _ h)
      generalize H1 = H at hP hS ⊢
      have vh_18 : (fun r c2 I2 F2 => Fr [31, 32] [33] [] cn In Fn c2 I2 F2 ∧ CBX c2 ∧ (((cn 31) ≤ c2 31 ∧ c2 31 ≤ c2 32 ∧ c2 32 ≤ (cn 32)) ∧ r = 1)) r_17 cn18 In18 Fn18 := wh_18
      obtain ⟨hfc18, hIn18, h_18⟩ := vh_18
      obtain rfl : Fn = Fn18 := (funext (fun k => hfc18.2.2 k List.not_mem_nil)).symm
      have hf18 : Fr [31, 32] [33] [195, 301] cn In Fn cn18 In18 Fn := Fr.mo (Fr.tr (Fr.rf (cn := cn) (In := In) (Fn := Fn)) hfc18) (sbl rfl) (sbl rfl) (sbl rfl)
      replace hIn18 : CBXh cn18 := hIn18
      have : cn18 6 = (cn 6) := hfc18.1 6 (nml rfl)
      obtain ⟨h_18, rfl⟩ := h_18
      refine lv_if_eq (tgt := 98) hx hb dX5_readFactor_33 rfl (fun h => absurd h cq_eq_1_0) (fun _ => ?_)
      refine lv_aload_n hx hb (oc_42 36 (aq_11 shX5_readFactor_25)) rfl (lvA2 hl) ?_
      refine lv_iload_n hx hb (oc_27 37 (aq_12 shX5_readFactor_25)) rfl (lvA3 hl) ?_
      refine lv_iconst (v := 1) hx hb (oc_4 38 (aq_13 shX5_readFactor_25)) kic_1 ?_
      refine lv_iadd hx hb (oc_96 39 (aq_14 shX5_readFactor_25)) ?_
      have hFc := free_all hD hS hA
      refine va_callv (runV_xa (As := [.int (o + 1)]) (rest := []) S (hSq ad cn18 In18 Fn H.size hIn18 (by omega) (by omega) (by omega) (by omega) (by rw [hf18.2.2 199 (nml rfl)]; exact h9)) kV_RX5_56 hK hXS hS hFc hP hD 3 xo_3 rfl rfl ⟨(by show d + 1 ≤ d + 1; omega), (by show 8 + (3 + 11) + 40 * d ≤ 40 * (d + 1); omega)⟩ ⟨Nat.le_of_ble_eq_true rfl, Nat.le_of_ble_eq_true rfl⟩ rfl hl.1 rfl (Nat.le_of_ble_eq_true rfl) (oc_182 40 (aq_15 shX5_readFactor_25) uw_0_56)) hS (fun q _ h => hFc q h) hFc (fun u t H1 locs ht hvm wh_20 hB1 hz1 hk1 hS => ?_)
      obtain ⟨cn20, In20, Fn20⟩ := u
      obtain ⟨hP1, hD1⟩ := hB1
      rw [ht] at hP1
      have hP : va_P D vwCl (wX cI (D.1 99) zz g ad cn20 In20 Fn20) H1 := hP1
      have hD : va_D A (wX cI (D.1 99) zz g ad cn20 In20 Fn20) := hD1.weaken (fun _ _ _ h => hFc _ h)
      generalize H1 = H at hP hS ⊢
      have vh_20 : (fun c2 I2 F2 => Fr [31, 32] [33] [195, 301] cn18 In18 Fn c2 I2 F2 ∧ CBX c2 ∧ ((cn18 31) ≤ c2 31 ∧ c2 31 ≤ c2 32 ∧ c2 32 ≤ (cn18 32))) cn20 In20 Fn20 := wh_20
      obtain ⟨hfc20, hIn20, h_20⟩ := vh_20
      have hf20 : Fr [31, 32] [33] [195, 301] cn In Fn cn20 In20 Fn20 := Fr.mo (Fr.tr hf18 hfc20) (sbl rfl) (sbl rfl) (sbl rfl)
      replace hIn20 : CBXh cn20 := hIn20
      have : cn20 6 = (cn18 6) := hfc20.1 6 (nml rfl)
      refine lv_aload_n hx hb (oc_42 43 (aq_18 shX5_readFactor_25)) rfl (lvA2 hl) ?_
      refine lv_bipush (v := 93) hx hb (oc_16 44 (aq_19 shX5_readFactor_25) sgb_93) kbc_93 ?_
      have hFc := free_all hD hS hA
      refine va_callv (runV_xa (As := [.int 93]) (rest := []) S (q_Rtake l D cI cB cZ zz qq vv bt g ad cn20 In20 Fn20 93 H.size hIn20 (by omega) (by omega) (by omega) (by omega) (by decide)) kV_RX5_62 hK hXS hS hFc hP hD 3 xo_3 rfl rfl ⟨(by show 1 + 1 ≤ d + 1; omega), (by show 8 + (2 + 11) + 40 * 1 ≤ 40 * (d + 1); omega)⟩ ⟨Nat.le_of_ble_eq_true rfl, Nat.le_of_ble_eq_true rfl⟩ rfl hl.1 rfl (Nat.le_of_ble_eq_true rfl) (oc_182 46 (aq_21 shX5_readFactor_25) uw_0_62)) hS (fun q _ h => hFc q h) hFc (fun u t H1 locs ht hvm wh_22 hB1 hz1 hk1 hS => ?_)
      obtain ⟨cn22, In22, Fn22⟩ := u
      obtain ⟨hP1, hD1⟩ := hB1
      rw [ht] at hP1
      have hP : va_P D vwCl (wX cI (D.1 99) zz g ad cn22 In22 Fn22) H1 := hP1
      have hD : va_D A (wX cI (D.1 99) zz g ad cn22 In22 Fn22) := hD1.weaken (fun _ _ _ h => hFc _ h)
      generalize H1 = H at hP hS ⊢
      have vh_22 : (fun c2 I2 F2 => Fr [31, 32] [33] [] cn20 In20 Fn20 c2 I2 F2 ∧ CBX c2 ∧ ((cn20 31) ≤ c2 31 ∧ c2 31 ≤ c2 32 ∧ c2 32 ≤ (cn20 32))) cn22 In22 Fn22 := wh_22
      obtain ⟨hfc22, hIn22, h_22⟩ := vh_22
      obtain rfl : Fn20 = Fn22 := (funext (fun k => hfc22.2.2 k List.not_mem_nil)).symm
      have hf22 : Fr [31, 32] [33] [195, 301] cn In Fn cn22 In22 Fn20 := Fr.mo (Fr.tr hf20 hfc22) (sbl rfl) (sbl rfl) (sbl rfl)
      replace hIn22 : CBXh cn22 := hIn22
      have : cn22 6 = (cn20 6) := hfc22.1 6 (nml rfl)
      refine lv_goto (tgt := 98) hx hb (oc_167 49 shX5_readFactor_49 sgw_0_49) rfl ?_
      exact W.vret hx hb hr (fun t ht hW => ⟨⟨(cn22, In22, Fn20), rfl, ⟨(Fr.mo hf22 (sbl rfl) (sbl rfl) (sbl rfl)), hIn22, (by show cn 31 ≤ cn22 31 ∧ cn22 31 ≤ cn22 32 ∧ cn22 32 ≤ cn 32; show cn 31 ≤ (cn22 31) ∧ (cn22 31) ≤ (cn22 32) ∧ (cn22 32) ≤ cn 32; omega)⟩, by rw [ht]; exact hP, hD⟩, hS.F ht⟩) hS.2.2 dX5_readFactor_98
  ·
    have tc_3 : (r_1.toInt : Int) = (-1) := congrArg Int32.toInt c_3
    refine lv_iconst (v := (-1)) hx hb dX5_readFactor_10 kic_m1 ?_
    refine lv_goto (tgt := 21) hx hb dX5_readFactor_11 rfl ?_
    refine lv_istore_n (lv' := [(3, .int (-1)), (2, .int r_1), (0, .ref (g 6)), (1, .int o)]) hx hb dX5_readFactor_21 rfl hl (ltb rfl) rfl (fun ls hl => ?_)
    refine lv_iload_n hx hb dX5_readFactor_22 rfl (lvA1 hl) ?_
    refine lv_bipush (v := 91) hx hb dX5_readFactor_23 kbc_91 ?_
    refine lv_icmp_ne (tgt := 52) hx hb dX5_readFactor_25 rfl (fun c_23 => ?_) (fun c_23 => False.elim (by have tc_23 : (r_1.toInt : Int) = 91 := congrArg Int32.toInt c_23; omega))
    have tc_23 : (r_1.toInt : Int) ≠ 91 := fun q => c_23 (Int32.toInt_inj.mp q)
    refine lv_iload_n hx hb dX5_readFactor_52 rfl (lvA1 hl) ?_
    refine vp_callSi (runS_r (As := [.int r_1]) (rest := []) S (q_l_isDigit l D cI cB cZ r_1) kS_RX5_106 hK hP [] rfl ⟨(by show 0 + 1 ≤ d + 1; omega), (by show 8 + (1 + 11) + 40 * 0 ≤ 40 * (d + 1); omega)⟩ ⟨Nat.le_of_ble_eq_true rfl, Nat.le_of_ble_eq_true rfl⟩ rfl hl.1 rfl (Nat.le_of_ble_eq_true rfl) dX5_readFactor_53) (fun r_24 h_25 => ?_)
    rcases h_25 with ⟨rfl, h_25⟩ | ⟨rfl, h_25⟩
    ·
      have h_25 : 48 ≤ r_1.toInt ∧ r_1.toInt ≤ 57 := h_25
      exfalso; omega
    ·
      have h_25 : ¬ (48 ≤ r_1.toInt ∧ r_1.toInt ≤ 57) := h_25
      refine lv_if_eq (tgt := 66) hx hb dX5_readFactor_56 rfl (fun _ => ?_) (fun h => absurd h cq_eq_0_0)
      refine lv_iload_n hx hb dX5_readFactor_66 rfl (lvA0 hl) ?_
      refine lv_if_lt (tgt := 93) hx hb dX5_readFactor_67 rfl (fun _ => ?_) (fun h => absurd h cq_lt_m1_0)
      refine lv_aload_n hx hb dX5_readFactor_93 rfl (lvA2 hl) ?_
      refine lv_iconst (v := 1) hx hb dX5_readFactor_94 kic_1 ?_
      have hFc := free_all hD hS hA
      refine va_callv (runV_xa (As := [.int 1]) (rest := []) S (q_Rfail l D cI cB cZ zz qq vv bt g ad cn In Fn 1 s.heap.size hB (by omega) (by omega) (by omega) (by omega)) kV_RX5_47 hK hXS hS hFc hP hD 3 xo_3 rfl rfl ⟨(by show 0 + 1 ≤ d + 1; omega), (by show 8 + (2 + 11) + 40 * 0 ≤ 40 * (d + 1); omega)⟩ ⟨Nat.le_of_ble_eq_true rfl, Nat.le_of_ble_eq_true rfl⟩ rfl hl.1 rfl (Nat.le_of_ble_eq_true rfl) dX5_readFactor_95) hS (fun q _ h => hFc q h) hFc (fun u t H1 locs ht hvm wh_27 hB1 hz1 hk1 hS => ?_)
      obtain ⟨cn27, In27, Fn27⟩ := u
      obtain ⟨hP1, hD1⟩ := hB1
      rw [ht] at hP1
      have hP : va_P D vwCl (wX cI (D.1 99) zz g ad cn27 In27 Fn27) H1 := hP1
      have hD : va_D A (wX cI (D.1 99) zz g ad cn27 In27 Fn27) := hD1.weaken (fun _ _ _ h => hFc _ h)
      generalize H1 = H at hP hS ⊢
      have vh_27 : (fun c2 I2 F2 => Fr [32] [33] [] cn In Fn c2 I2 F2 ∧ CBX c2 ∧ (c2 31 = (cn 31) ∧ (cn 31) ≤ c2 32 ∧ c2 32 ≤ (cn 32))) cn27 In27 Fn27 := wh_27
      obtain ⟨hfc27, hIn27, h_27⟩ := vh_27
      obtain rfl : Fn = Fn27 := (funext (fun k => hfc27.2.2 k List.not_mem_nil)).symm
      have hf27 : Fr [31, 32] [33] [195, 301] cn In Fn cn27 In27 Fn := Fr.mo (Fr.tr (Fr.rf (cn := cn) (In := In) (Fn := Fn)) hfc27) (sbl rfl) (sbl rfl) (sbl rfl)
      replace hIn27 : CBXh cn27 := hIn27
      have : cn27 6 = (cn 6) := hfc27.1 6 (nml rfl)
      have : cn27 31 = (cn 31) := hfc27.1 31 (nml rfl)
      exact W.vret hx hb hr (fun t ht hW => ⟨⟨(cn27, In27, Fn), rfl, ⟨(Fr.mo hf27 (sbl rfl) (sbl rfl) (sbl rfl)), hIn27, (by show cn 31 ≤ cn27 31 ∧ cn27 31 ≤ cn27 32 ∧ cn27 32 ≤ cn 32; show cn 31 ≤ (cn27 31) ∧ (cn27 31) ≤ (cn27 32) ∧ (cn27 32) ≤ cn 32; omega)⟩, by rw [ht]; exact hP, hD⟩, hS.F ht⟩) hS.2.2 dX5_readFactor_98
set_option maxRecDepth 100000 in
set_option maxHeartbeats 4000000 in
theorem gq_GreadTerm (l : Launch) (D : va_G) (cI cB cZ : ClassId) (zz qq vv : Nat) (bt : Nat → Int32) (g : Nat → Nat) (o : Int32) (d : Nat) (hd : 4 ≤ d ∧ d ≤ 60) (hSq : RDQ yX5_readFactor cX5_readFactor 4 l D cI cB cZ zz qq vv bt g o d) : RDQ yX5_readTerm cX5_readTerm 3 l D cI cB cZ zz qq vv bt g o (d + 1) := by
  intro ad cn In Fn sz hB hR h1 h3 h4 h9
  refine Met.ofW (cc := cX5_readTerm) (maxL := 3) (ret := none) (by decide) rfl ?_
  intro p e s m args below meth c s₁ B hml hv
  obtain ⟨rfl, hsz, hP, hK, hD0, hXS⟩ := hv
  have hx := B.exec
  have hb := B.bytes
  have hr := B.returns
  have hts := atoms_spec (ws := (CWS yX5_readTerm cX5_readTerm 3 none)) B.pre
  have hown : s.vm.findClass RX5 = some m.cls := findClass_of_methodNamed B.named
  have hlocks := B.notSynchronized
  have S : SF p m c cX5_readTerm 3 s ([.ref (g 6), .int o]).toArray RX5 := ⟨hx, hb, hml, hown, fun w h => hts w (List.mem_cons_of_mem _ h)⟩
  subst hsz
  have hD := hD0.self (sz := s.heap.size)
  generalize hAe : va_A (wX cI (D.1 99) zz g ad cn In Fn) s.heap.size = A at hD hXS ⊢
  have hA : ∀ q : Nat, s.heap.size ≤ q → A q := fun q h => by rw [← hAe]; exact Or.inr h
  have hS : va_S A s.heap s.heap [] := va_S.rf
  have hl := lv_entry ([.ref (g 6), .int o]) (n := 3) (Nat.le_of_ble_eq_true rfl)
  rw [lg_entry_eq]
  generalize (lg_sl ([.ref (g 6), .int o]) ++ List.replicate (3 - (lg_sl ([.ref (g 6), .int o])).length) Slot.unset).toArray = ls at hl ⊢
  have hl : lv_has ls 3 [(0, .ref (g 6)), (1, .int o)] := hl
  replace hB : CBXh cn := hB
  refine lv_aload_n hx hb (oc_42 0 shX5_readTerm_0) rfl (lvA0 hl) ?_
  refine lv_iload_n hx hb (oc_27 1 (aq_1 shX5_readTerm_0)) rfl (lvA1 hl) ?_
  have hFc := free_all hD hS hA
  refine va_callv (runV_xa (As := [.int o]) (rest := []) S (hSq ad cn In Fn s.heap.size hB (by omega) (by omega) (by omega) (by omega) h9) kV_RX5_95 hK hXS hS hFc hP hD 3 xo_3 rfl rfl ⟨(by show d + 1 ≤ d + 1; omega), (by show 8 + (4 + 11) + 40 * d ≤ 40 * (d + 1); omega)⟩ ⟨Nat.le_of_ble_eq_true rfl, Nat.le_of_ble_eq_true rfl⟩ rfl hl.1 rfl (Nat.le_of_ble_eq_true rfl) (oc_182 2 (aq_2 shX5_readTerm_0) uw_0_95)) hS (fun q _ h => hFc q h) hFc (fun u t H1 locs ht hvm wh_2 hB1 hz1 hk1 hS => ?_)
  obtain ⟨cn2, In2, Fn2⟩ := u
  obtain ⟨hP1, hD1⟩ := hB1
  rw [ht] at hP1
  have hP : va_P D vwCl (wX cI (D.1 99) zz g ad cn2 In2 Fn2) H1 := hP1
  have hD : va_D A (wX cI (D.1 99) zz g ad cn2 In2 Fn2) := hD1.weaken (fun _ _ _ h => hFc _ h)
  generalize H1 = H at hP hS ⊢
  have vh_2 : (fun c2 I2 F2 => Fr [31, 32] [33] [195, 301] cn In Fn c2 I2 F2 ∧ CBX c2 ∧ ((cn 31) ≤ c2 31 ∧ c2 31 ≤ c2 32 ∧ c2 32 ≤ (cn 32))) cn2 In2 Fn2 := wh_2
  obtain ⟨hfc2, hIn2, h_2⟩ := vh_2
  have hf2 : Fr [31, 32] [33] [195, 301] cn In Fn cn2 In2 Fn2 := Fr.mo (Fr.tr (Fr.rf (cn := cn) (In := In) (Fn := Fn)) hfc2) (sbl rfl) (sbl rfl) (sbl rfl)
  replace hIn2 : CBXh cn2 := hIn2
  have : cn2 6 = (cn 6) := hfc2.1 6 (nml rfl)
  have lp_5 : ∀ (n : Nat)  (c5 : Nat → Nat) (I5 : Nat → Int32) (F5 : Nat → Nat → Int32) (H : Heap) (locs : List Loc) , c5 32 - c5 31 < n → (Fr [31, 32] [33] [195, 301] cn In Fn c5 I5 F5 ∧ CBX c5 ∧ (cn 31 ≤ c5 31 ∧ c5 31 ≤ c5 32 ∧ c5 32 ≤ cn 32)) → va_P D vwCl (wX cI (D.1 99) zz g ad c5 I5 F5) H → va_D A (wX cI (D.1 99) zz g ad c5 I5 F5) → va_S A s.heap H locs → ∀ ls : Array Slot, lv_has ls 3 [(0, .ref (g 6)), (1, .int o)] → W p l e (RM (d + 1) 0 0) s m ([.ref (g 6), .int o]).toArray below meth c H locs 0 0 (MQ below (va_Qv (fun (u : (Nat → Nat) × (Nat → Int32) × (Nat → Nat → Int32)) => (fun c2 I2 F2 => Fr [31, 32] [33] [195, 301] cn In Fn c2 I2 F2 ∧ CBX c2 ∧ (cn 31 ≤ c2 31 ∧ c2 31 ≤ c2 32 ∧ c2 32 ≤ cn 32)) u.1 u.2.1 u.2.2) (fun (u : (Nat → Nat) × (Nat → Int32) × (Nat → Nat → Int32)) (t : State) => va_P D vwCl (wX cI (D.1 99) zz g ad u.1 u.2.1 u.2.2) t.heap ∧ va_D A (wX cI (D.1 99) zz g ad u.1 u.2.1 u.2.2)) A) ([.ref (g 6), .int o]).toArray s 0 0 A) (F0 m 5 ls []) := by
    intro n5
    induction n5 with
    | zero => intros; omega
    | succ n5 ih5 =>
      intro  c5 I5 F5 H locs hmu5 hinv5 hP hD hS ls hl
      obtain ⟨hfr5, hI5, hx5_0⟩ := hinv5
      replace hI5 : CBXh c5 := hI5
      have : c5 6 = cn 6 := hfr5.1 6 (nml rfl)
      refine lv_aload_n hx hb (oc_42 5 (aq_5 shX5_readTerm_0)) rfl (lvA0 hl) ?_
      refine gf_RX5_31 S hK hP 3 xo_3 (v := .int (nI (c5 31))) rfl (oc_180 6 (aq_6 shX5_readTerm_0) uw_0_31) ?_
      refine lv_aload_n hx hb (oc_42 9 (aq_9 shX5_readTerm_0)) rfl (lvA0 hl) ?_
      refine gf_RX5_34 S hK hP 3 xo_3 (v := .int (nI (c5 32))) rfl (oc_180 10 (aq_10 shX5_readTerm_0) uw_0_34) ?_
      have : (nI (c5 31)).toInt = (((c5 31) : Nat) : Int) := nI_toInt (by omega)
      have : (nI (c5 32)).toInt = (((c5 32) : Nat) : Int) := nI_toInt (by omega)
      refine lv_icmp_ge (tgt := 98) hx hb (oc_162 13 (aq_13 shX5_readTerm_0) sgw_0_85) rfl (fun c_3 => ?_) (fun c_3 => ?_)
      ·
        have tc_3 : ((nI (c5 32)).toInt : Int) ≤ (nI (c5 31)).toInt := Int32.le_iff_toInt_le.mp c_3
        exact W.vret hx hb hr (fun t ht hW => ⟨⟨(c5, I5, F5), rfl, ⟨(Fr.mo hfr5 (sbl rfl) (sbl rfl) (sbl rfl)), hI5, (by show cn 31 ≤ c5 31 ∧ c5 31 ≤ c5 32 ∧ c5 32 ≤ cn 32; show cn 31 ≤ (c5 31) ∧ (c5 31) ≤ (c5 32) ∧ (c5 32) ≤ cn 32; omega)⟩, by rw [ht]; exact hP, hD⟩, hS.F ht⟩) hS.2.2 dX5_readTerm_98
      ·
        have tc_3 : ((nI (c5 31)).toInt : Int) < (nI (c5 32)).toInt := Int32.lt_iff_toInt_lt.mp (Int32.not_le.mp c_3)
        refine lv_aload_n hx hb (oc_42 16 (aq_16 shX5_readTerm_0)) rfl (lvA0 hl) ?_
        refine vp_callSi (runV_rxa (As := []) (rest := []) S (q_Rpeek l D cI cB cZ zz qq vv bt g ad c5 I5 F5  hI5 (by omega) (by omega) (by omega) (by omega)) kV_RX5_43 hK hXS hS hP 3 xo_3 rfl rfl ⟨(by show 0 + 1 ≤ d + 1; omega), (by show 8 + (1 + 11) + 40 * 0 ≤ 40 * (d + 1); omega)⟩ ⟨Nat.le_of_ble_eq_true rfl, Nat.le_of_ble_eq_true rfl⟩ rfl hl.1 rfl (Nat.le_of_ble_eq_true rfl) (oc_182 17 (aq_17 shX5_readTerm_0) uw_0_43)) (fun r_4 h_5 => ?_)
        refine lv_bipush (v := 42) hx hb (oc_16 20 (aq_20 shX5_readTerm_0) sgb_42) kbc_42 ?_
        refine lv_icmp_eq (tgt := 43) hx hb (oc_159 22 (aq_22 shX5_readTerm_0) sgw_0_21) rfl (fun c_6 => ?_) (fun c_6 => ?_)
        ·
          have tc_6 : (r_4.toInt : Int) = 42 := congrArg Int32.toInt c_6
          refine lv_aload_n hx hb dX5_readTerm_43 rfl (lvA0 hl) ?_
          refine vp_callSi (runV_rxa (As := []) (rest := []) S (q_Rpeek l D cI cB cZ zz qq vv bt g ad c5 I5 F5  hI5 (by omega) (by omega) (by omega) (by omega)) kV_RX5_43 hK hXS hS hP 3 xo_3 rfl rfl ⟨(by show 0 + 1 ≤ d + 1; omega), (by show 8 + (1 + 11) + 40 * 0 ≤ 40 * (d + 1); omega)⟩ ⟨Nat.le_of_ble_eq_true rfl, Nat.le_of_ble_eq_true rfl⟩ rfl hl.1 rfl (Nat.le_of_ble_eq_true rfl) dX5_readTerm_44) (fun r_7 h_8 => ?_)
          refine lv_istore_n (lv' := [(2, .int r_7), (0, .ref (g 6)), (1, .int o)]) hx hb dX5_readTerm_47 rfl hl (ltb rfl) rfl (fun ls hl => ?_)
          refine lv_aload_n hx hb dX5_readTerm_48 rfl (lvA1 hl) ?_
          refine lv_dup hx hb dX5_readTerm_49 rfl ?_
          refine gf_RX5_31 S hK hP 3 xo_3 (v := .int (nI (c5 31))) rfl dX5_readTerm_50 ?_
          refine lv_iconst (v := 1) hx hb dX5_readTerm_53 kic_1 ?_
          refine lv_iadd hx hb dX5_readTerm_54 ?_
          refine lv_topi (fun y_9 ey_9 => ?_)
          obtain rfl : y_9 = (nI ((c5 31) + 1)) := ey_9.trans (nI_add (c5 31) 1)
          refine pf_RX5_31 S hK hP hD hS 3 xo_3 (v := .int (nI ((c5 31) + 1))) (Nat.le_of_ble_eq_true rfl) rfl rfl dX5_readTerm_55 (fun H locs hP hD hS => ?_)
          have hP : va_P D vwCl (wX cI (D.1 99) zz g ad (va_up c5 31 ((c5 31) + 1)) I5 F5) H := va_P_eq (xsf_3_3) hP
          have hD : va_D A (wX cI (D.1 99) zz g ad (va_up c5 31 ((c5 31) + 1)) I5 F5) := va_D_eq (xsf_3_3) hD
          refine lv_aload_n hx hb dX5_readTerm_58 rfl (lvA1 hl) ?_
          refine lv_iload_n hx hb dX5_readTerm_59 rfl (lvA2 hl) ?_
          have hFc := free_all hD hS hA
          refine va_callv (runV_xa (As := [.int o]) (rest := []) S (hSq ad (va_up c5 31 ((c5 31) + 1)) I5 F5 H.size (CBX.n (k := 31) (v := ((c5 31) + 1)) hI5 (by decide)) (show ad 4 2 = g 40 by omega) (show ad 4 1 < (c5 6) by omega) (show ((c5 31) + 1) ≤ (c5 32) by omega) (show (c5 32) ≤ 160 by omega) (by rw [hfr5.2.2 199 (nml rfl)]; exact h9)) kV_RX5_95 hK hXS hS hFc hP hD 3 xo_3 rfl rfl ⟨(by show d + 1 ≤ d + 1; omega), (by show 8 + (4 + 11) + 40 * d ≤ 40 * (d + 1); omega)⟩ ⟨Nat.le_of_ble_eq_true rfl, Nat.le_of_ble_eq_true rfl⟩ rfl hl.1 rfl (Nat.le_of_ble_eq_true rfl) dX5_readTerm_60) hS (fun q _ h => hFc q h) hFc (fun u t H1 locs ht hvm wh_11 hB1 hz1 hk1 hS => ?_)
          obtain ⟨cn11, In11, Fn11⟩ := u
          obtain ⟨hP1, hD1⟩ := hB1
          rw [ht] at hP1
          have hP : va_P D vwCl (wX cI (D.1 99) zz g ad cn11 In11 Fn11) H1 := hP1
          have hD : va_D A (wX cI (D.1 99) zz g ad cn11 In11 Fn11) := hD1.weaken (fun _ _ _ h => hFc _ h)
          generalize H1 = H at hP hS ⊢
          have vh_11 : (fun c2 I2 F2 => Fr [31, 32] [33] [195, 301] (va_up c5 31 ((c5 31) + 1)) I5 F5 c2 I2 F2 ∧ CBX c2 ∧ (((c5 31) + 1) ≤ c2 31 ∧ c2 31 ≤ c2 32 ∧ c2 32 ≤ (c5 32))) cn11 In11 Fn11 := wh_11
          obtain ⟨hfc11, hIn11, h_11⟩ := vh_11
          have hf11 : Fr [31, 32] [33] [195, 301] cn In Fn cn11 In11 Fn11 := Fr.mo (Fr.tr (Fr.c 31 hfr5) hfc11) (sbl rfl) (sbl rfl) (sbl rfl)
          replace hIn11 : CBXh cn11 := hIn11
          have : cn11 6 = (c5 6) := hfc11.1 6 (nml rfl)
          refine lv_aload_n hx hb dX5_readTerm_63 rfl (lvA1 hl) ?_
          refine gf_RX5_20 S hK hP 3 xo_3 (v := .ref (ad 5 (ad 4 1))) rfl dX5_readTerm_64 ?_
          refine lv_iload_n hx hb dX5_readTerm_67 rfl (lvA0 hl) ?_
          refine lv_bipush (v := 42) hx hb dX5_readTerm_68 kbc_42 ?_
          refine lv_icmp_ne (tgt := 77) hx hb dX5_readTerm_70 rfl (fun c_12 => ?_) (fun c_12 => ?_)
          ·
            have tc_12 : (r_7.toInt : Int) ≠ 42 := fun q => c_12 (Int32.toInt_inj.mp q)
            refine lv_iload_n hx hb dX5_readTerm_77 rfl (lvA0 hl) ?_
            refine lv_bipush (v := 47) hx hb dX5_readTerm_78 kbc_47 ?_
            refine lv_icmp_ne (tgt := 88) hx hb dX5_readTerm_80 rfl (fun c_13 => ?_) (fun c_13 => ?_)
            ·
              have tc_13 : (r_7.toInt : Int) ≠ 47 := fun q => c_13 (Int32.toInt_inj.mp q)
              refine lv_bipush (v := 7) hx hb dX5_readTerm_88 kbc_7 ?_
              refine lv_iconst (v := 0) hx hb dX5_readTerm_90 kic_0 ?_
              have hFc := free_all hD hS hA
              refine va_calli (runV_xa (As := [.int 7, .int 0]) (rest := []) S (q_Tadd l D cI cB cZ zz qq vv bt g ad cn11 In11 Fn11 (ad 4 1) 7 0 H.size hIn11 (by omega) (by rw [hf11.2.2 199 (nml rfl)]; exact h9)) kV_RX5_75 hK hXS hS hFc hP hD _ (xf_7 (show (ad 4 1) < (cn11 6) by omega)) rfl rfl ⟨(by show 0 + 1 ≤ d + 1; omega), (by show 8 + (3 + 11) + 40 * 0 ≤ 40 * (d + 1); omega)⟩ ⟨Nat.le_of_ble_eq_true rfl, Nat.le_of_ble_eq_true rfl⟩ rfl hl.1 rfl (Nat.le_of_ble_eq_true rfl) dX5_readTerm_91) hS (fun q _ h => hFc q h) hFc (fun r_14 u t H1 locs ht hvm wh_15 hB1 hz1 hk1 hS => ?_)
              obtain ⟨cn15, In15, Fn15⟩ := u
              obtain ⟨hP1, hD1⟩ := hB1
              rw [ht] at hP1
              have hP : va_P D vwCl (wX cI (D.1 99) zz g ad cn15 In15 Fn15) H1 := hP1
              have hD : va_D A (wX cI (D.1 99) zz g ad cn15 In15 Fn15) := hD1.weaken (fun _ _ _ h => hFc _ h)
              generalize H1 = H at hP hS ⊢
              have vh_15 : (fun r c2 I2 F2 => Fr [] [] [195, 301] cn11 In11 Fn11 c2 I2 F2 ∧ CBX c2 ∧ (True)) r_14 cn15 In15 Fn15 := wh_15
              obtain ⟨hfc15, hIn15, h_15⟩ := vh_15
              obtain rfl : cn11 = cn15 := (funext (fun k => hfc15.1 k List.not_mem_nil)).symm
              obtain rfl : In11 = In15 := (funext (fun k => hfc15.2.1 k List.not_mem_nil)).symm
              have hf15 : Fr [31, 32] [33] [195, 301] cn In Fn cn11 In11 Fn15 := Fr.mo (Fr.tr hf11 hfc15) (sbl rfl) (sbl rfl) (sbl rfl)
              replace hIn15 : CBXh cn11 := hIn15
              refine lv_pop hx hb dX5_readTerm_94 rfl ?_
              refine lv_goto (tgt := 5) hx hb dX5_readTerm_95 rfl ?_
              exact ih5  cn11 In11 Fn15 _ _ (show (cn11 32) - (cn11 31) < n5 by omega) ⟨(Fr.mo hf15 (sbl rfl) (sbl rfl) (sbl rfl)), hIn15, (show cn 31 ≤ (cn11 31) ∧ (cn11 31) ≤ (cn11 32) ∧ (cn11 32) ≤ cn 32 by omega)⟩ hP hD hS ls (lv_sub hl [1, 2] rfl)
            ·
              have tc_13 : (r_7.toInt : Int) = 47 := congrArg Int32.toInt c_13
              refine lv_bipush (v := 6) hx hb dX5_readTerm_83 kbc_6 ?_
              refine lv_goto (tgt := 90) hx hb dX5_readTerm_85 rfl ?_
              refine lv_iconst (v := 0) hx hb dX5_readTerm_90 kic_0 ?_
              have hFc := free_all hD hS hA
              refine va_calli (runV_xa (As := [.int 6, .int 0]) (rest := []) S (q_Tadd l D cI cB cZ zz qq vv bt g ad cn11 In11 Fn11 (ad 4 1) 6 0 H.size hIn11 (by omega) (by rw [hf11.2.2 199 (nml rfl)]; exact h9)) kV_RX5_75 hK hXS hS hFc hP hD _ (xf_7 (show (ad 4 1) < (cn11 6) by omega)) rfl rfl ⟨(by show 0 + 1 ≤ d + 1; omega), (by show 8 + (3 + 11) + 40 * 0 ≤ 40 * (d + 1); omega)⟩ ⟨Nat.le_of_ble_eq_true rfl, Nat.le_of_ble_eq_true rfl⟩ rfl hl.1 rfl (Nat.le_of_ble_eq_true rfl) dX5_readTerm_91) hS (fun q _ h => hFc q h) hFc (fun r_16 u t H1 locs ht hvm wh_17 hB1 hz1 hk1 hS => ?_)
              obtain ⟨cn17, In17, Fn17⟩ := u
              obtain ⟨hP1, hD1⟩ := hB1
              rw [ht] at hP1
              have hP : va_P D vwCl (wX cI (D.1 99) zz g ad cn17 In17 Fn17) H1 := hP1
              have hD : va_D A (wX cI (D.1 99) zz g ad cn17 In17 Fn17) := hD1.weaken (fun _ _ _ h => hFc _ h)
              generalize H1 = H at hP hS ⊢
              have vh_17 : (fun r c2 I2 F2 => Fr [] [] [195, 301] cn11 In11 Fn11 c2 I2 F2 ∧ CBX c2 ∧ (True)) r_16 cn17 In17 Fn17 := wh_17
              obtain ⟨hfc17, hIn17, h_17⟩ := vh_17
              obtain rfl : cn11 = cn17 := (funext (fun k => hfc17.1 k List.not_mem_nil)).symm
              obtain rfl : In11 = In17 := (funext (fun k => hfc17.2.1 k List.not_mem_nil)).symm
              have hf17 : Fr [31, 32] [33] [195, 301] cn In Fn cn11 In11 Fn17 := Fr.mo (Fr.tr hf11 hfc17) (sbl rfl) (sbl rfl) (sbl rfl)
              replace hIn17 : CBXh cn11 := hIn17
              refine lv_pop hx hb dX5_readTerm_94 rfl ?_
              refine lv_goto (tgt := 5) hx hb dX5_readTerm_95 rfl ?_
              exact ih5  cn11 In11 Fn17 _ _ (show (cn11 32) - (cn11 31) < n5 by omega) ⟨(Fr.mo hf17 (sbl rfl) (sbl rfl) (sbl rfl)), hIn17, (show cn 31 ≤ (cn11 31) ∧ (cn11 31) ≤ (cn11 32) ∧ (cn11 32) ≤ cn 32 by omega)⟩ hP hD hS ls (lv_sub hl [1, 2] rfl)
          ·
            have tc_12 : (r_7.toInt : Int) = 42 := congrArg Int32.toInt c_12
            refine lv_iconst (v := 5) hx hb dX5_readTerm_73 kic_5 ?_
            refine lv_goto (tgt := 90) hx hb dX5_readTerm_74 rfl ?_
            refine lv_iconst (v := 0) hx hb dX5_readTerm_90 kic_0 ?_
            have hFc := free_all hD hS hA
            refine va_calli (runV_xa (As := [.int 5, .int 0]) (rest := []) S (q_Tadd l D cI cB cZ zz qq vv bt g ad cn11 In11 Fn11 (ad 4 1) 5 0 H.size hIn11 (by omega) (by rw [hf11.2.2 199 (nml rfl)]; exact h9)) kV_RX5_75 hK hXS hS hFc hP hD _ (xf_7 (show (ad 4 1) < (cn11 6) by omega)) rfl rfl ⟨(by show 0 + 1 ≤ d + 1; omega), (by show 8 + (3 + 11) + 40 * 0 ≤ 40 * (d + 1); omega)⟩ ⟨Nat.le_of_ble_eq_true rfl, Nat.le_of_ble_eq_true rfl⟩ rfl hl.1 rfl (Nat.le_of_ble_eq_true rfl) dX5_readTerm_91) hS (fun q _ h => hFc q h) hFc (fun r_18 u t H1 locs ht hvm wh_19 hB1 hz1 hk1 hS => ?_)
            obtain ⟨cn19, In19, Fn19⟩ := u
            obtain ⟨hP1, hD1⟩ := hB1
            rw [ht] at hP1
            have hP : va_P D vwCl (wX cI (D.1 99) zz g ad cn19 In19 Fn19) H1 := hP1
            have hD : va_D A (wX cI (D.1 99) zz g ad cn19 In19 Fn19) := hD1.weaken (fun _ _ _ h => hFc _ h)
            generalize H1 = H at hP hS ⊢
            have vh_19 : (fun r c2 I2 F2 => Fr [] [] [195, 301] cn11 In11 Fn11 c2 I2 F2 ∧ CBX c2 ∧ (True)) r_18 cn19 In19 Fn19 := wh_19
            obtain ⟨hfc19, hIn19, h_19⟩ := vh_19
            obtain rfl : cn11 = cn19 := (funext (fun k => hfc19.1 k List.not_mem_nil)).symm
            obtain rfl : In11 = In19 := (funext (fun k => hfc19.2.1 k List.not_mem_nil)).symm
            have hf19 : Fr [31, 32] [33] [195, 301] cn In Fn cn11 In11 Fn19 := Fr.mo (Fr.tr hf11 hfc19) (sbl rfl) (sbl rfl) (sbl rfl)
            replace hIn19 : CBXh cn11 := hIn19
            refine lv_pop hx hb dX5_readTerm_94 rfl ?_
            refine lv_goto (tgt := 5) hx hb dX5_readTerm_95 rfl ?_
            exact ih5  cn11 In11 Fn19 _ _ (show (cn11 32) - (cn11 31) < n5 by omega) ⟨(Fr.mo hf19 (sbl rfl) (sbl rfl) (sbl rfl)), hIn19, (show cn 31 ≤ (cn11 31) ∧ (cn11 31) ≤ (cn11 32) ∧ (cn11 32) ≤ cn 32 by omega)⟩ hP hD hS ls (lv_sub hl [1, 2] rfl)
        ·
          have tc_6 : (r_4.toInt : Int) ≠ 42 := fun q => c_6 (Int32.toInt_inj.mp q)
          refine lv_aload_n hx hb (oc_42 25 shX5_readTerm_25) rfl (lvA0 hl) ?_
          refine vp_callSi (runV_rxa (As := []) (rest := []) S (q_Rpeek l D cI cB cZ zz qq vv bt g ad c5 I5 F5  hI5 (by omega) (by omega) (by omega) (by omega)) kV_RX5_43 hK hXS hS hP 3 xo_3 rfl rfl ⟨(by show 0 + 1 ≤ d + 1; omega), (by show 8 + (1 + 11) + 40 * 0 ≤ 40 * (d + 1); omega)⟩ ⟨Nat.le_of_ble_eq_true rfl, Nat.le_of_ble_eq_true rfl⟩ rfl hl.1 rfl (Nat.le_of_ble_eq_true rfl) (oc_182 26 (aq_1 shX5_readTerm_25) uw_0_43)) (fun r_20 h_21 => ?_)
          refine lv_bipush (v := 47) hx hb (oc_16 29 (aq_4 shX5_readTerm_25) sgb_47) kbc_47 ?_
          refine lv_icmp_eq (tgt := 43) hx hb (oc_159 31 (aq_6 shX5_readTerm_25) sgw_0_12) rfl (fun c_22 => ?_) (fun c_22 => ?_)
          ·
            have tc_22 : (r_20.toInt : Int) = 47 := congrArg Int32.toInt c_22
            refine lv_aload_n hx hb dX5_readTerm_43 rfl (lvA0 hl) ?_
            refine vp_callSi (runV_rxa (As := []) (rest := []) S (q_Rpeek l D cI cB cZ zz qq vv bt g ad c5 I5 F5  hI5 (by omega) (by omega) (by omega) (by omega)) kV_RX5_43 hK hXS hS hP 3 xo_3 rfl rfl ⟨(by show 0 + 1 ≤ d + 1; omega), (by show 8 + (1 + 11) + 40 * 0 ≤ 40 * (d + 1); omega)⟩ ⟨Nat.le_of_ble_eq_true rfl, Nat.le_of_ble_eq_true rfl⟩ rfl hl.1 rfl (Nat.le_of_ble_eq_true rfl) dX5_readTerm_44) (fun r_23 h_24 => ?_)
            refine lv_istore_n (lv' := [(2, .int r_23), (0, .ref (g 6)), (1, .int o)]) hx hb dX5_readTerm_47 rfl hl (ltb rfl) rfl (fun ls hl => ?_)
            refine lv_aload_n hx hb dX5_readTerm_48 rfl (lvA1 hl) ?_
            refine lv_dup hx hb dX5_readTerm_49 rfl ?_
            refine gf_RX5_31 S hK hP 3 xo_3 (v := .int (nI (c5 31))) rfl dX5_readTerm_50 ?_
            refine lv_iconst (v := 1) hx hb dX5_readTerm_53 kic_1 ?_
            refine lv_iadd hx hb dX5_readTerm_54 ?_
            refine lv_topi (fun y_25 ey_25 => ?_)
            obtain rfl : y_25 = (nI ((c5 31) + 1)) := ey_25.trans (nI_add (c5 31) 1)
            refine pf_RX5_31 S hK hP hD hS 3 xo_3 (v := .int (nI ((c5 31) + 1))) (Nat.le_of_ble_eq_true rfl) rfl rfl dX5_readTerm_55 (fun H locs hP hD hS => ?_)
            have hP : va_P D vwCl (wX cI (D.1 99) zz g ad (va_up c5 31 ((c5 31) + 1)) I5 F5) H := va_P_eq (xsf_3_3) hP
            have hD : va_D A (wX cI (D.1 99) zz g ad (va_up c5 31 ((c5 31) + 1)) I5 F5) := va_D_eq (xsf_3_3) hD
            refine lv_aload_n hx hb dX5_readTerm_58 rfl (lvA1 hl) ?_
            refine lv_iload_n hx hb dX5_readTerm_59 rfl (lvA2 hl) ?_
            have hFc := free_all hD hS hA
            refine va_callv (runV_xa (As := [.int o]) (rest := []) S (hSq ad (va_up c5 31 ((c5 31) + 1)) I5 F5 H.size (CBX.n (k := 31) (v := ((c5 31) + 1)) hI5 (by decide)) (show ad 4 2 = g 40 by omega) (show ad 4 1 < (c5 6) by omega) (show ((c5 31) + 1) ≤ (c5 32) by omega) (show (c5 32) ≤ 160 by omega) (by rw [hfr5.2.2 199 (nml rfl)]; exact h9)) kV_RX5_95 hK hXS hS hFc hP hD 3 xo_3 rfl rfl ⟨(by show d + 1 ≤ d + 1; omega), (by show 8 + (4 + 11) + 40 * d ≤ 40 * (d + 1); omega)⟩ ⟨Nat.le_of_ble_eq_true rfl, Nat.le_of_ble_eq_true rfl⟩ rfl hl.1 rfl (Nat.le_of_ble_eq_true rfl) dX5_readTerm_60) hS (fun q _ h => hFc q h) hFc (fun u t H1 locs ht hvm wh_27 hB1 hz1 hk1 hS => ?_)
            obtain ⟨cn27, In27, Fn27⟩ := u
            obtain ⟨hP1, hD1⟩ := hB1
            rw [ht] at hP1
            have hP : va_P D vwCl (wX cI (D.1 99) zz g ad cn27 In27 Fn27) H1 := hP1
            have hD : va_D A (wX cI (D.1 99) zz g ad cn27 In27 Fn27) := hD1.weaken (fun _ _ _ h => hFc _ h)
            generalize H1 = H at hP hS ⊢
            have vh_27 : (fun c2 I2 F2 => Fr [31, 32] [33] [195, 301] (va_up c5 31 ((c5 31) + 1)) I5 F5 c2 I2 F2 ∧ CBX c2 ∧ (((c5 31) + 1) ≤ c2 31 ∧ c2 31 ≤ c2 32 ∧ c2 32 ≤ (c5 32))) cn27 In27 Fn27 := wh_27
            obtain ⟨hfc27, hIn27, h_27⟩ := vh_27
            have hf27 : Fr [31, 32] [33] [195, 301] cn In Fn cn27 In27 Fn27 := Fr.mo (Fr.tr (Fr.c 31 hfr5) hfc27) (sbl rfl) (sbl rfl) (sbl rfl)
            replace hIn27 : CBXh cn27 := hIn27
            have : cn27 6 = (c5 6) := hfc27.1 6 (nml rfl)
            refine lv_aload_n hx hb dX5_readTerm_63 rfl (lvA1 hl) ?_
            refine gf_RX5_20 S hK hP 3 xo_3 (v := .ref (ad 5 (ad 4 1))) rfl dX5_readTerm_64 ?_
            refine lv_iload_n hx hb dX5_readTerm_67 rfl (lvA0 hl) ?_
            refine lv_bipush (v := 42) hx hb dX5_readTerm_68 kbc_42 ?_
            refine lv_icmp_ne (tgt := 77) hx hb dX5_readTerm_70 rfl (fun c_28 => ?_) (fun c_28 => ?_)
            ·
              have tc_28 : (r_23.toInt : Int) ≠ 42 := fun q => c_28 (Int32.toInt_inj.mp q)
              refine lv_iload_n hx hb dX5_readTerm_77 rfl (lvA0 hl) ?_
              refine lv_bipush (v := 47) hx hb dX5_readTerm_78 kbc_47 ?_
              refine lv_icmp_ne (tgt := 88) hx hb dX5_readTerm_80 rfl (fun c_29 => ?_) (fun c_29 => ?_)
              ·
                have tc_29 : (r_23.toInt : Int) ≠ 47 := fun q => c_29 (Int32.toInt_inj.mp q)
                refine lv_bipush (v := 7) hx hb dX5_readTerm_88 kbc_7 ?_
                refine lv_iconst (v := 0) hx hb dX5_readTerm_90 kic_0 ?_
                have hFc := free_all hD hS hA
                refine va_calli (runV_xa (As := [.int 7, .int 0]) (rest := []) S (q_Tadd l D cI cB cZ zz qq vv bt g ad cn27 In27 Fn27 (ad 4 1) 7 0 H.size hIn27 (by omega) (by rw [hf27.2.2 199 (nml rfl)]; exact h9)) kV_RX5_75 hK hXS hS hFc hP hD _ (xf_7 (show (ad 4 1) < (cn27 6) by omega)) rfl rfl ⟨(by show 0 + 1 ≤ d + 1; omega), (by show 8 + (3 + 11) + 40 * 0 ≤ 40 * (d + 1); omega)⟩ ⟨Nat.le_of_ble_eq_true rfl, Nat.le_of_ble_eq_true rfl⟩ rfl hl.1 rfl (Nat.le_of_ble_eq_true rfl) dX5_readTerm_91) hS (fun q _ h => hFc q h) hFc (fun r_30 u t H1 locs ht hvm wh_31 hB1 hz1 hk1 hS => ?_)
                obtain ⟨cn31, In31, Fn31⟩ := u
                obtain ⟨hP1, hD1⟩ := hB1
                rw [ht] at hP1
                have hP : va_P D vwCl (wX cI (D.1 99) zz g ad cn31 In31 Fn31) H1 := hP1
                have hD : va_D A (wX cI (D.1 99) zz g ad cn31 In31 Fn31) := hD1.weaken (fun _ _ _ h => hFc _ h)
                generalize H1 = H at hP hS ⊢
                have vh_31 : (fun r c2 I2 F2 => Fr [] [] [195, 301] cn27 In27 Fn27 c2 I2 F2 ∧ CBX c2 ∧ (True)) r_30 cn31 In31 Fn31 := wh_31
                obtain ⟨hfc31, hIn31, h_31⟩ := vh_31
                obtain rfl : cn27 = cn31 := (funext (fun k => hfc31.1 k List.not_mem_nil)).symm
                obtain rfl : In27 = In31 := (funext (fun k => hfc31.2.1 k List.not_mem_nil)).symm
                have hf31 : Fr [31, 32] [33] [195, 301] cn In Fn cn27 In27 Fn31 := Fr.mo (Fr.tr hf27 hfc31) (sbl rfl) (sbl rfl) (sbl rfl)
                replace hIn31 : CBXh cn27 := hIn31
                refine lv_pop hx hb dX5_readTerm_94 rfl ?_
                refine lv_goto (tgt := 5) hx hb dX5_readTerm_95 rfl ?_
                exact ih5  cn27 In27 Fn31 _ _ (show (cn27 32) - (cn27 31) < n5 by omega) ⟨(Fr.mo hf31 (sbl rfl) (sbl rfl) (sbl rfl)), hIn31, (show cn 31 ≤ (cn27 31) ∧ (cn27 31) ≤ (cn27 32) ∧ (cn27 32) ≤ cn 32 by omega)⟩ hP hD hS ls (lv_sub hl [1, 2] rfl)
              ·
                have tc_29 : (r_23.toInt : Int) = 47 := congrArg Int32.toInt c_29
                refine lv_bipush (v := 6) hx hb dX5_readTerm_83 kbc_6 ?_
                refine lv_goto (tgt := 90) hx hb dX5_readTerm_85 rfl ?_
                refine lv_iconst (v := 0) hx hb dX5_readTerm_90 kic_0 ?_
                have hFc := free_all hD hS hA
                refine va_calli (runV_xa (As := [.int 6, .int 0]) (rest := []) S (q_Tadd l D cI cB cZ zz qq vv bt g ad cn27 In27 Fn27 (ad 4 1) 6 0 H.size hIn27 (by omega) (by rw [hf27.2.2 199 (nml rfl)]; exact h9)) kV_RX5_75 hK hXS hS hFc hP hD _ (xf_7 (show (ad 4 1) < (cn27 6) by omega)) rfl rfl ⟨(by show 0 + 1 ≤ d + 1; omega), (by show 8 + (3 + 11) + 40 * 0 ≤ 40 * (d + 1); omega)⟩ ⟨Nat.le_of_ble_eq_true rfl, Nat.le_of_ble_eq_true rfl⟩ rfl hl.1 rfl (Nat.le_of_ble_eq_true rfl) dX5_readTerm_91) hS (fun q _ h => hFc q h) hFc (fun r_32 u t H1 locs ht hvm wh_33 hB1 hz1 hk1 hS => ?_)
                obtain ⟨cn33, In33, Fn33⟩ := u
                obtain ⟨hP1, hD1⟩ := hB1
                rw [ht] at hP1
                have hP : va_P D vwCl (wX cI (D.1 99) zz g ad cn33 In33 Fn33) H1 := hP1
                have hD : va_D A (wX cI (D.1 99) zz g ad cn33 In33 Fn33) := hD1.weaken (fun _ _ _ h => hFc _ h)
                generalize H1 = H at hP hS ⊢
                have vh_33 : (fun r c2 I2 F2 => Fr [] [] [195, 301] cn27 In27 Fn27 c2 I2 F2 ∧ CBX c2 ∧ (True)) r_32 cn33 In33 Fn33 := wh_33
                obtain ⟨hfc33, hIn33, h_33⟩ := vh_33
                obtain rfl : cn27 = cn33 := (funext (fun k => hfc33.1 k List.not_mem_nil)).symm
                obtain rfl : In27 = In33 := (funext (fun k => hfc33.2.1 k List.not_mem_nil)).symm
                have hf33 : Fr [31, 32] [33] [195, 301] cn In Fn cn27 In27 Fn33 := Fr.mo (Fr.tr hf27 hfc33) (sbl rfl) (sbl rfl) (sbl rfl)
                replace hIn33 : CBXh cn27 := hIn33
                refine lv_pop hx hb dX5_readTerm_94 rfl ?_
                refine lv_goto (tgt := 5) hx hb dX5_readTerm_95 rfl ?_
                exact ih5  cn27 In27 Fn33 _ _ (show (cn27 32) - (cn27 31) < n5 by omega) ⟨(Fr.mo hf33 (sbl rfl) (sbl rfl) (sbl rfl)), hIn33, (show cn 31 ≤ (cn27 31) ∧ (cn27 31) ≤ (cn27 32) ∧ (cn27 32) ≤ cn 32 by omega)⟩ hP hD hS ls (lv_sub hl [1, 2] rfl)
            ·
              have tc_28 : (r_23.toInt : Int) = 42 := congrArg Int32.toInt c_28
              refine lv_iconst (v := 5) hx hb dX5_readTerm_73 kic_5 ?_
              refine lv_goto (tgt := 90) hx hb dX5_readTerm_74 rfl ?_
              refine lv_iconst (v := 0) hx hb dX5_readTerm_90 kic_0 ?_
              have hFc := free_all hD hS hA
              refine va_calli (runV_xa (As := [.int 5, .int 0]) (rest := []) S (q_Tadd l D cI cB cZ zz qq vv bt g ad cn27 In27 Fn27 (ad 4 1) 5 0 H.size hIn27 (by omega) (by rw [hf27.2.2 199 (nml rfl)]; exact h9)) kV_RX5_75 hK hXS hS hFc hP hD _ (xf_7 (show (ad 4 1) < (cn27 6) by omega)) rfl rfl ⟨(by show 0 + 1 ≤ d + 1; omega), (by show 8 + (3 + 11) + 40 * 0 ≤ 40 * (d + 1); omega)⟩ ⟨Nat.le_of_ble_eq_true rfl, Nat.le_of_ble_eq_true rfl⟩ rfl hl.1 rfl (Nat.le_of_ble_eq_true rfl) dX5_readTerm_91) hS (fun q _ h => hFc q h) hFc (fun r_34 u t H1 locs ht hvm wh_35 hB1 hz1 hk1 hS => ?_)
              obtain ⟨cn35, In35, Fn35⟩ := u
              obtain ⟨hP1, hD1⟩ := hB1
              rw [ht] at hP1
              have hP : va_P D vwCl (wX cI (D.1 99) zz g ad cn35 In35 Fn35) H1 := hP1
              have hD : va_D A (wX cI (D.1 99) zz g ad cn35 In35 Fn35) := hD1.weaken (fun _ _ _ h => hFc _ h)
              generalize H1 = H at hP hS ⊢
              have vh_35 : (fun r c2 I2 F2 => Fr [] [] [195, 301] cn27 In27 Fn27 c2 I2 F2 ∧ CBX c2 ∧ (True)) r_34 cn35 In35 Fn35 := wh_35
              obtain ⟨hfc35, hIn35, h_35⟩ := vh_35
              obtain rfl : cn27 = cn35 := (funext (fun k => hfc35.1 k List.not_mem_nil)).symm
              obtain rfl : In27 = In35 := (funext (fun k => hfc35.2.1 k List.not_mem_nil)).symm
              have hf35 : Fr [31, 32] [33] [195, 301] cn In Fn cn27 In27 Fn35 := Fr.mo (Fr.tr hf27 hfc35) (sbl rfl) (sbl rfl) (sbl rfl)
              replace hIn35 : CBXh cn27 := hIn35
              refine lv_pop hx hb dX5_readTerm_94 rfl ?_
              refine lv_goto (tgt := 5) hx hb dX5_readTerm_95 rfl ?_
              exact ih5  cn27 In27 Fn35 _ _ (show (cn27 32) - (cn27 31) < n5 by omega) ⟨(Fr.mo hf35 (sbl rfl) (sbl rfl) (sbl rfl)), hIn35, (show cn 31 ≤ (cn27 31) ∧ (cn27 31) ≤ (cn27 32) ∧ (cn27 32) ≤ cn 32 by omega)⟩ hP hD hS ls (lv_sub hl [1, 2] rfl)
          ·
            have tc_22 : (r_20.toInt : Int) ≠ 47 := fun q => c_22 (Int32.toInt_inj.mp q)
            refine lv_aload_n hx hb (oc_42 34 (aq_9 shX5_readTerm_25)) rfl (lvA0 hl) ?_
            refine vp_callSi (runV_rxa (As := []) (rest := []) S (q_Rpeek l D cI cB cZ zz qq vv bt g ad c5 I5 F5  hI5 (by omega) (by omega) (by omega) (by omega)) kV_RX5_43 hK hXS hS hP 3 xo_3 rfl rfl ⟨(by show 0 + 1 ≤ d + 1; omega), (by show 8 + (1 + 11) + 40 * 0 ≤ 40 * (d + 1); omega)⟩ ⟨Nat.le_of_ble_eq_true rfl, Nat.le_of_ble_eq_true rfl⟩ rfl hl.1 rfl (Nat.le_of_ble_eq_true rfl) (oc_182 35 (aq_10 shX5_readTerm_25) uw_0_43)) (fun r_36 h_37 => ?_)
            refine lv_bipush (v := 37) hx hb (oc_16 38 (aq_13 shX5_readTerm_25) sgb_37) kbc_37 ?_
            refine lv_icmp_ne (tgt := 98) hx hb (oc_160 40 (aq_15 shX5_readTerm_25) sgw_0_58) rfl (fun c_38 => ?_) (fun c_38 => ?_)
            ·
              have tc_38 : (r_36.toInt : Int) ≠ 37 := fun q => c_38 (Int32.toInt_inj.mp q)
              exact W.vret hx hb hr (fun t ht hW => ⟨⟨(c5, I5, F5), rfl, ⟨(Fr.mo hfr5 (sbl rfl) (sbl rfl) (sbl rfl)), hI5, (by show cn 31 ≤ c5 31 ∧ c5 31 ≤ c5 32 ∧ c5 32 ≤ cn 32; show cn 31 ≤ (c5 31) ∧ (c5 31) ≤ (c5 32) ∧ (c5 32) ≤ cn 32; omega)⟩, by rw [ht]; exact hP, hD⟩, hS.F ht⟩) hS.2.2 dX5_readTerm_98
            ·
              have tc_38 : (r_36.toInt : Int) = 37 := congrArg Int32.toInt c_38
              refine lv_aload_n hx hb dX5_readTerm_43 rfl (lvA0 hl) ?_
              refine vp_callSi (runV_rxa (As := []) (rest := []) S (q_Rpeek l D cI cB cZ zz qq vv bt g ad c5 I5 F5  hI5 (by omega) (by omega) (by omega) (by omega)) kV_RX5_43 hK hXS hS hP 3 xo_3 rfl rfl ⟨(by show 0 + 1 ≤ d + 1; omega), (by show 8 + (1 + 11) + 40 * 0 ≤ 40 * (d + 1); omega)⟩ ⟨Nat.le_of_ble_eq_true rfl, Nat.le_of_ble_eq_true rfl⟩ rfl hl.1 rfl (Nat.le_of_ble_eq_true rfl) dX5_readTerm_44) (fun r_39 h_40 => ?_)
              refine lv_istore_n (lv' := [(2, .int r_39), (0, .ref (g 6)), (1, .int o)]) hx hb dX5_readTerm_47 rfl hl (ltb rfl) rfl (fun ls hl => ?_)
              refine lv_aload_n hx hb dX5_readTerm_48 rfl (lvA1 hl) ?_
              refine lv_dup hx hb dX5_readTerm_49 rfl ?_
              refine gf_RX5_31 S hK hP 3 xo_3 (v := .int (nI (c5 31))) rfl dX5_readTerm_50 ?_
              refine lv_iconst (v := 1) hx hb dX5_readTerm_53 kic_1 ?_
              refine lv_iadd hx hb dX5_readTerm_54 ?_
              refine lv_topi (fun y_41 ey_41 => ?_)
              obtain rfl : y_41 = (nI ((c5 31) + 1)) := ey_41.trans (nI_add (c5 31) 1)
              refine pf_RX5_31 S hK hP hD hS 3 xo_3 (v := .int (nI ((c5 31) + 1))) (Nat.le_of_ble_eq_true rfl) rfl rfl dX5_readTerm_55 (fun H locs hP hD hS => ?_)
              have hP : va_P D vwCl (wX cI (D.1 99) zz g ad (va_up c5 31 ((c5 31) + 1)) I5 F5) H := va_P_eq (xsf_3_3) hP
              have hD : va_D A (wX cI (D.1 99) zz g ad (va_up c5 31 ((c5 31) + 1)) I5 F5) := va_D_eq (xsf_3_3) hD
              refine lv_aload_n hx hb dX5_readTerm_58 rfl (lvA1 hl) ?_
              refine lv_iload_n hx hb dX5_readTerm_59 rfl (lvA2 hl) ?_
              have hFc := free_all hD hS hA
              refine va_callv (runV_xa (As := [.int o]) (rest := []) S (hSq ad (va_up c5 31 ((c5 31) + 1)) I5 F5 H.size (CBX.n (k := 31) (v := ((c5 31) + 1)) hI5 (by decide)) (show ad 4 2 = g 40 by omega) (show ad 4 1 < (c5 6) by omega) (show ((c5 31) + 1) ≤ (c5 32) by omega) (show (c5 32) ≤ 160 by omega) (by rw [hfr5.2.2 199 (nml rfl)]; exact h9)) kV_RX5_95 hK hXS hS hFc hP hD 3 xo_3 rfl rfl ⟨(by show d + 1 ≤ d + 1; omega), (by show 8 + (4 + 11) + 40 * d ≤ 40 * (d + 1); omega)⟩ ⟨Nat.le_of_ble_eq_true rfl, Nat.le_of_ble_eq_true rfl⟩ rfl hl.1 rfl (Nat.le_of_ble_eq_true rfl) dX5_readTerm_60) hS (fun q _ h => hFc q h) hFc (fun u t H1 locs ht hvm wh_43 hB1 hz1 hk1 hS => ?_)
              obtain ⟨cn43, In43, Fn43⟩ := u
              obtain ⟨hP1, hD1⟩ := hB1
              rw [ht] at hP1
              have hP : va_P D vwCl (wX cI (D.1 99) zz g ad cn43 In43 Fn43) H1 := hP1
              have hD : va_D A (wX cI (D.1 99) zz g ad cn43 In43 Fn43) := hD1.weaken (fun _ _ _ h => hFc _ h)
              generalize H1 = H at hP hS ⊢
              have vh_43 : (fun c2 I2 F2 => Fr [31, 32] [33] [195, 301] (va_up c5 31 ((c5 31) + 1)) I5 F5 c2 I2 F2 ∧ CBX c2 ∧ (((c5 31) + 1) ≤ c2 31 ∧ c2 31 ≤ c2 32 ∧ c2 32 ≤ (c5 32))) cn43 In43 Fn43 := wh_43
              obtain ⟨hfc43, hIn43, h_43⟩ := vh_43
              have hf43 : Fr [31, 32] [33] [195, 301] cn In Fn cn43 In43 Fn43 := Fr.mo (Fr.tr (Fr.c 31 hfr5) hfc43) (sbl rfl) (sbl rfl) (sbl rfl)
              replace hIn43 : CBXh cn43 := hIn43
              have : cn43 6 = (c5 6) := hfc43.1 6 (nml rfl)
              refine lv_aload_n hx hb dX5_readTerm_63 rfl (lvA1 hl) ?_
              refine gf_RX5_20 S hK hP 3 xo_3 (v := .ref (ad 5 (ad 4 1))) rfl dX5_readTerm_64 ?_
              refine lv_iload_n hx hb dX5_readTerm_67 rfl (lvA0 hl) ?_
              refine lv_bipush (v := 42) hx hb dX5_readTerm_68 kbc_42 ?_
              refine lv_icmp_ne (tgt := 77) hx hb dX5_readTerm_70 rfl (fun c_44 => ?_) (fun c_44 => ?_)
              ·
                have tc_44 : (r_39.toInt : Int) ≠ 42 := fun q => c_44 (Int32.toInt_inj.mp q)
                refine lv_iload_n hx hb dX5_readTerm_77 rfl (lvA0 hl) ?_
                refine lv_bipush (v := 47) hx hb dX5_readTerm_78 kbc_47 ?_
                refine lv_icmp_ne (tgt := 88) hx hb dX5_readTerm_80 rfl (fun c_45 => ?_) (fun c_45 => ?_)
                ·
                  have tc_45 : (r_39.toInt : Int) ≠ 47 := fun q => c_45 (Int32.toInt_inj.mp q)
                  refine lv_bipush (v := 7) hx hb dX5_readTerm_88 kbc_7 ?_
                  refine lv_iconst (v := 0) hx hb dX5_readTerm_90 kic_0 ?_
                  have hFc := free_all hD hS hA
                  refine va_calli (runV_xa (As := [.int 7, .int 0]) (rest := []) S (q_Tadd l D cI cB cZ zz qq vv bt g ad cn43 In43 Fn43 (ad 4 1) 7 0 H.size hIn43 (by omega) (by rw [hf43.2.2 199 (nml rfl)]; exact h9)) kV_RX5_75 hK hXS hS hFc hP hD _ (xf_7 (show (ad 4 1) < (cn43 6) by omega)) rfl rfl ⟨(by show 0 + 1 ≤ d + 1; omega), (by show 8 + (3 + 11) + 40 * 0 ≤ 40 * (d + 1); omega)⟩ ⟨Nat.le_of_ble_eq_true rfl, Nat.le_of_ble_eq_true rfl⟩ rfl hl.1 rfl (Nat.le_of_ble_eq_true rfl) dX5_readTerm_91) hS (fun q _ h => hFc q h) hFc (fun r_46 u t H1 locs ht hvm wh_47 hB1 hz1 hk1 hS => ?_)
                  obtain ⟨cn47, In47, Fn47⟩ := u
                  obtain ⟨hP1, hD1⟩ := hB1
                  rw [ht] at hP1
                  have hP : va_P D vwCl (wX cI (D.1 99) zz g ad cn47 In47 Fn47) H1 := hP1
                  have hD : va_D A (wX cI (D.1 99) zz g ad cn47 In47 Fn47) := hD1.weaken (fun _ _ _ h => hFc _ h)
                  generalize H1 = H at hP hS ⊢
                  have vh_47 : (fun r c2 I2 F2 => Fr [] [] [195, 301] cn43 In43 Fn43 c2 I2 F2 ∧ CBX c2 ∧ (True)) r_46 cn47 In47 Fn47 := wh_47
                  obtain ⟨hfc47, hIn47, h_47⟩ := vh_47
                  obtain rfl : cn43 = cn47 := (funext (fun k => hfc47.1 k List.not_mem_nil)).symm
                  obtain rfl : In43 = In47 := (funext (fun k => hfc47.2.1 k List.not_mem_nil)).symm
                  have hf47 : Fr [31, 32] [33] [195, 301] cn In Fn cn43 In43 Fn47 := Fr.mo (Fr.tr hf43 hfc47) (sbl rfl) (sbl rfl) (sbl rfl)
                  replace hIn47 : CBXh cn43 := hIn47
                  refine lv_pop hx hb dX5_readTerm_94 rfl ?_
                  refine lv_goto (tgt := 5) hx hb dX5_readTerm_95 rfl ?_
                  exact ih5  cn43 In43 Fn47 _ _ (show (cn43 32) - (cn43 31) < n5 by omega) ⟨(Fr.mo hf47 (sbl rfl) (sbl rfl) (sbl rfl)), hIn47, (show cn 31 ≤ (cn43 31) ∧ (cn43 31) ≤ (cn43 32) ∧ (cn43 32) ≤ cn 32 by omega)⟩ hP hD hS ls (lv_sub hl [1, 2] rfl)
                ·
                  have tc_45 : (r_39.toInt : Int) = 47 := congrArg Int32.toInt c_45
                  refine lv_bipush (v := 6) hx hb dX5_readTerm_83 kbc_6 ?_
                  refine lv_goto (tgt := 90) hx hb dX5_readTerm_85 rfl ?_
                  refine lv_iconst (v := 0) hx hb dX5_readTerm_90 kic_0 ?_
                  have hFc := free_all hD hS hA
                  refine va_calli (runV_xa (As := [.int 6, .int 0]) (rest := []) S (q_Tadd l D cI cB cZ zz qq vv bt g ad cn43 In43 Fn43 (ad 4 1) 6 0 H.size hIn43 (by omega) (by rw [hf43.2.2 199 (nml rfl)]; exact h9)) kV_RX5_75 hK hXS hS hFc hP hD _ (xf_7 (show (ad 4 1) < (cn43 6) by omega)) rfl rfl ⟨(by show 0 + 1 ≤ d + 1; omega), (by show 8 + (3 + 11) + 40 * 0 ≤ 40 * (d + 1); omega)⟩ ⟨Nat.le_of_ble_eq_true rfl, Nat.le_of_ble_eq_true rfl⟩ rfl hl.1 rfl (Nat.le_of_ble_eq_true rfl) dX5_readTerm_91) hS (fun q _ h => hFc q h) hFc (fun r_48 u t H1 locs ht hvm wh_49 hB1 hz1 hk1 hS => ?_)
                  obtain ⟨cn49, In49, Fn49⟩ := u
                  obtain ⟨hP1, hD1⟩ := hB1
                  rw [ht] at hP1
                  have hP : va_P D vwCl (wX cI (D.1 99) zz g ad cn49 In49 Fn49) H1 := hP1
                  have hD : va_D A (wX cI (D.1 99) zz g ad cn49 In49 Fn49) := hD1.weaken (fun _ _ _ h => hFc _ h)
                  generalize H1 = H at hP hS ⊢
                  have vh_49 : (fun r c2 I2 F2 => Fr [] [] [195, 301] cn43 In43 Fn43 c2 I2 F2 ∧ CBX c2 ∧ (True)) r_48 cn49 In49 Fn49 := wh_49
                  obtain ⟨hfc49, hIn49, h_49⟩ := vh_49
                  obtain rfl : cn43 = cn49 := (funext (fun k => hfc49.1 k List.not_mem_nil)).symm
                  obtain rfl : In43 = In49 := (funext (fun k => hfc49.2.1 k List.not_mem_nil)).symm
                  have hf49 : Fr [31, 32] [33] [195, 301] cn In Fn cn43 In43 Fn49 := Fr.mo (Fr.tr hf43 hfc49) (sbl rfl) (sbl rfl) (sbl rfl)
                  replace hIn49 : CBXh cn43 := hIn49
                  refine lv_pop hx hb dX5_readTerm_94 rfl ?_
                  refine lv_goto (tgt := 5) hx hb dX5_readTerm_95 rfl ?_
                  exact ih5  cn43 In43 Fn49 _ _ (show (cn43 32) - (cn43 31) < n5 by omega) ⟨(Fr.mo hf49 (sbl rfl) (sbl rfl) (sbl rfl)), hIn49, (show cn 31 ≤ (cn43 31) ∧ (cn43 31) ≤ (cn43 32) ∧ (cn43 32) ≤ cn 32 by omega)⟩ hP hD hS ls (lv_sub hl [1, 2] rfl)
              ·
                have tc_44 : (r_39.toInt : Int) = 42 := congrArg Int32.toInt c_44
                refine lv_iconst (v := 5) hx hb dX5_readTerm_73 kic_5 ?_
                refine lv_goto (tgt := 90) hx hb dX5_readTerm_74 rfl ?_
                refine lv_iconst (v := 0) hx hb dX5_readTerm_90 kic_0 ?_
                have hFc := free_all hD hS hA
                refine va_calli (runV_xa (As := [.int 5, .int 0]) (rest := []) S (q_Tadd l D cI cB cZ zz qq vv bt g ad cn43 In43 Fn43 (ad 4 1) 5 0 H.size hIn43 (by omega) (by rw [hf43.2.2 199 (nml rfl)]; exact h9)) kV_RX5_75 hK hXS hS hFc hP hD _ (xf_7 (show (ad 4 1) < (cn43 6) by omega)) rfl rfl ⟨(by show 0 + 1 ≤ d + 1; omega), (by show 8 + (3 + 11) + 40 * 0 ≤ 40 * (d + 1); omega)⟩ ⟨Nat.le_of_ble_eq_true rfl, Nat.le_of_ble_eq_true rfl⟩ rfl hl.1 rfl (Nat.le_of_ble_eq_true rfl) dX5_readTerm_91) hS (fun q _ h => hFc q h) hFc (fun r_50 u t H1 locs ht hvm wh_51 hB1 hz1 hk1 hS => ?_)
                obtain ⟨cn51, In51, Fn51⟩ := u
                obtain ⟨hP1, hD1⟩ := hB1
                rw [ht] at hP1
                have hP : va_P D vwCl (wX cI (D.1 99) zz g ad cn51 In51 Fn51) H1 := hP1
                have hD : va_D A (wX cI (D.1 99) zz g ad cn51 In51 Fn51) := hD1.weaken (fun _ _ _ h => hFc _ h)
                generalize H1 = H at hP hS ⊢
                have vh_51 : (fun r c2 I2 F2 => Fr [] [] [195, 301] cn43 In43 Fn43 c2 I2 F2 ∧ CBX c2 ∧ (True)) r_50 cn51 In51 Fn51 := wh_51
                obtain ⟨hfc51, hIn51, h_51⟩ := vh_51
                obtain rfl : cn43 = cn51 := (funext (fun k => hfc51.1 k List.not_mem_nil)).symm
                obtain rfl : In43 = In51 := (funext (fun k => hfc51.2.1 k List.not_mem_nil)).symm
                have hf51 : Fr [31, 32] [33] [195, 301] cn In Fn cn43 In43 Fn51 := Fr.mo (Fr.tr hf43 hfc51) (sbl rfl) (sbl rfl) (sbl rfl)
                replace hIn51 : CBXh cn43 := hIn51
                refine lv_pop hx hb dX5_readTerm_94 rfl ?_
                refine lv_goto (tgt := 5) hx hb dX5_readTerm_95 rfl ?_
                exact ih5  cn43 In43 Fn51 _ _ (show (cn43 32) - (cn43 31) < n5 by omega) ⟨(Fr.mo hf51 (sbl rfl) (sbl rfl) (sbl rfl)), hIn51, (show cn 31 ≤ (cn43 31) ∧ (cn43 31) ≤ (cn43 32) ∧ (cn43 32) ≤ cn 32 by omega)⟩ hP hD hS ls (lv_sub hl [1, 2] rfl)
  exact lp_5 _  cn2 In2 Fn2 _ _ (Nat.lt_succ_self _) ⟨(Fr.mo hf2 (sbl rfl) (sbl rfl) (sbl rfl)), hIn2, (show cn 31 ≤ (cn2 31) ∧ (cn2 31) ≤ (cn2 32) ∧ (cn2 32) ≤ cn 32 by omega)⟩ hP hD hS ls (lv_sub hl [0, 1] rfl)
set_option maxRecDepth 100000 in
set_option maxHeartbeats 4000000 in
theorem gq_GreadSum (l : Launch) (D : va_G) (cI cB cZ : ClassId) (zz qq vv : Nat) (bt : Nat → Int32) (g : Nat → Nat) (o : Int32) (d : Nat) (hd : 4 ≤ d ∧ d ≤ 60) (hSq : RDQ yX5_readTerm cX5_readTerm 3 l D cI cB cZ zz qq vv bt g o d) : RDQ yX5_readSum cX5_readSum 3 l D cI cB cZ zz qq vv bt g o (d + 1) := by
  intro ad cn In Fn sz hB hR h1 h3 h4 h9
  refine Met.ofW (cc := cX5_readSum) (maxL := 3) (ret := none) (by decide) rfl ?_
  intro p e s m args below meth c s₁ B hml hv
  obtain ⟨rfl, hsz, hP, hK, hD0, hXS⟩ := hv
  have hx := B.exec
  have hb := B.bytes
  have hr := B.returns
  have hts := atoms_spec (ws := (CWS yX5_readSum cX5_readSum 3 none)) B.pre
  have hown : s.vm.findClass RX5 = some m.cls := findClass_of_methodNamed B.named
  have hlocks := B.notSynchronized
  have S : SF p m c cX5_readSum 3 s ([.ref (g 6), .int o]).toArray RX5 := ⟨hx, hb, hml, hown, fun w h => hts w (List.mem_cons_of_mem _ h)⟩
  subst hsz
  have hD := hD0.self (sz := s.heap.size)
  generalize hAe : va_A (wX cI (D.1 99) zz g ad cn In Fn) s.heap.size = A at hD hXS ⊢
  have hA : ∀ q : Nat, s.heap.size ≤ q → A q := fun q h => by rw [← hAe]; exact Or.inr h
  have hS : va_S A s.heap s.heap [] := va_S.rf
  have hl := lv_entry ([.ref (g 6), .int o]) (n := 3) (Nat.le_of_ble_eq_true rfl)
  rw [lg_entry_eq]
  generalize (lg_sl ([.ref (g 6), .int o]) ++ List.replicate (3 - (lg_sl ([.ref (g 6), .int o])).length) Slot.unset).toArray = ls at hl ⊢
  have hl : lv_has ls 3 [(0, .ref (g 6)), (1, .int o)] := hl
  replace hB : CBXh cn := hB
  refine lv_aload_n hx hb (oc_42 0 shX5_readSum_0) rfl (lvA0 hl) ?_
  refine lv_iload_n hx hb (oc_27 1 (aq_1 shX5_readSum_0)) rfl (lvA1 hl) ?_
  have hFc := free_all hD hS hA
  refine va_callv (runV_xa (As := [.int o]) (rest := []) S (hSq ad cn In Fn s.heap.size hB (by omega) (by omega) (by omega) (by omega) h9) kV_RX5_92 hK hXS hS hFc hP hD 3 xo_3 rfl rfl ⟨(by show d + 1 ≤ d + 1; omega), (by show 8 + (3 + 11) + 40 * d ≤ 40 * (d + 1); omega)⟩ ⟨Nat.le_of_ble_eq_true rfl, Nat.le_of_ble_eq_true rfl⟩ rfl hl.1 rfl (Nat.le_of_ble_eq_true rfl) (oc_182 2 (aq_2 shX5_readSum_0) uw_0_92)) hS (fun q _ h => hFc q h) hFc (fun u t H1 locs ht hvm wh_2 hB1 hz1 hk1 hS => ?_)
  obtain ⟨cn2, In2, Fn2⟩ := u
  obtain ⟨hP1, hD1⟩ := hB1
  rw [ht] at hP1
  have hP : va_P D vwCl (wX cI (D.1 99) zz g ad cn2 In2 Fn2) H1 := hP1
  have hD : va_D A (wX cI (D.1 99) zz g ad cn2 In2 Fn2) := hD1.weaken (fun _ _ _ h => hFc _ h)
  generalize H1 = H at hP hS ⊢
  have vh_2 : (fun c2 I2 F2 => Fr [31, 32] [33] [195, 301] cn In Fn c2 I2 F2 ∧ CBX c2 ∧ ((cn 31) ≤ c2 31 ∧ c2 31 ≤ c2 32 ∧ c2 32 ≤ (cn 32))) cn2 In2 Fn2 := wh_2
  obtain ⟨hfc2, hIn2, h_2⟩ := vh_2
  have hf2 : Fr [31, 32] [33] [195, 301] cn In Fn cn2 In2 Fn2 := Fr.mo (Fr.tr (Fr.rf (cn := cn) (In := In) (Fn := Fn)) hfc2) (sbl rfl) (sbl rfl) (sbl rfl)
  replace hIn2 : CBXh cn2 := hIn2
  have : cn2 6 = (cn 6) := hfc2.1 6 (nml rfl)
  have lp_5 : ∀ (n : Nat)  (c5 : Nat → Nat) (I5 : Nat → Int32) (F5 : Nat → Nat → Int32) (H : Heap) (locs : List Loc) , c5 32 - c5 31 < n → (Fr [31, 32] [33] [195, 301] cn In Fn c5 I5 F5 ∧ CBX c5 ∧ (cn 31 ≤ c5 31 ∧ c5 31 ≤ c5 32 ∧ c5 32 ≤ cn 32)) → va_P D vwCl (wX cI (D.1 99) zz g ad c5 I5 F5) H → va_D A (wX cI (D.1 99) zz g ad c5 I5 F5) → va_S A s.heap H locs → ∀ ls : Array Slot, lv_has ls 3 [(0, .ref (g 6)), (1, .int o)] → W p l e (RM (d + 1) 0 0) s m ([.ref (g 6), .int o]).toArray below meth c H locs 0 0 (MQ below (va_Qv (fun (u : (Nat → Nat) × (Nat → Int32) × (Nat → Nat → Int32)) => (fun c2 I2 F2 => Fr [31, 32] [33] [195, 301] cn In Fn c2 I2 F2 ∧ CBX c2 ∧ (cn 31 ≤ c2 31 ∧ c2 31 ≤ c2 32 ∧ c2 32 ≤ cn 32)) u.1 u.2.1 u.2.2) (fun (u : (Nat → Nat) × (Nat → Int32) × (Nat → Nat → Int32)) (t : State) => va_P D vwCl (wX cI (D.1 99) zz g ad u.1 u.2.1 u.2.2) t.heap ∧ va_D A (wX cI (D.1 99) zz g ad u.1 u.2.1 u.2.2)) A) ([.ref (g 6), .int o]).toArray s 0 0 A) (F0 m 5 ls []) := by
    intro n5
    induction n5 with
    | zero => intros; omega
    | succ n5 ih5 =>
      intro  c5 I5 F5 H locs hmu5 hinv5 hP hD hS ls hl
      obtain ⟨hfr5, hI5, hx5_0⟩ := hinv5
      replace hI5 : CBXh c5 := hI5
      have : c5 6 = cn 6 := hfr5.1 6 (nml rfl)
      refine lv_aload_n hx hb (oc_42 5 (aq_5 shX5_readSum_0)) rfl (lvA0 hl) ?_
      refine gf_RX5_31 S hK hP 3 xo_3 (v := .int (nI (c5 31))) rfl (oc_180 6 (aq_6 shX5_readSum_0) uw_0_31) ?_
      refine lv_aload_n hx hb (oc_42 9 (aq_9 shX5_readSum_0)) rfl (lvA0 hl) ?_
      refine gf_RX5_34 S hK hP 3 xo_3 (v := .int (nI (c5 32))) rfl (oc_180 10 (aq_10 shX5_readSum_0) uw_0_34) ?_
      have : (nI (c5 31)).toInt = (((c5 31) : Nat) : Int) := nI_toInt (by omega)
      have : (nI (c5 32)).toInt = (((c5 32) : Nat) : Int) := nI_toInt (by omega)
      refine lv_icmp_ge (tgt := 77) hx hb (oc_162 13 (aq_13 shX5_readSum_0) sgw_0_64) rfl (fun c_3 => ?_) (fun c_3 => ?_)
      ·
        have tc_3 : ((nI (c5 32)).toInt : Int) ≤ (nI (c5 31)).toInt := Int32.le_iff_toInt_le.mp c_3
        exact W.vret hx hb hr (fun t ht hW => ⟨⟨(c5, I5, F5), rfl, ⟨(Fr.mo hfr5 (sbl rfl) (sbl rfl) (sbl rfl)), hI5, (by show cn 31 ≤ c5 31 ∧ c5 31 ≤ c5 32 ∧ c5 32 ≤ cn 32; show cn 31 ≤ (c5 31) ∧ (c5 31) ≤ (c5 32) ∧ (c5 32) ≤ cn 32; omega)⟩, by rw [ht]; exact hP, hD⟩, hS.F ht⟩) hS.2.2 dX5_readSum_77
      ·
        have tc_3 : ((nI (c5 31)).toInt : Int) < (nI (c5 32)).toInt := Int32.lt_iff_toInt_lt.mp (Int32.not_le.mp c_3)
        refine lv_aload_n hx hb (oc_42 16 (aq_16 shX5_readSum_0)) rfl (lvA0 hl) ?_
        refine vp_callSi (runV_rxa (As := []) (rest := []) S (q_Rpeek l D cI cB cZ zz qq vv bt g ad c5 I5 F5  hI5 (by omega) (by omega) (by omega) (by omega)) kV_RX5_43 hK hXS hS hP 3 xo_3 rfl rfl ⟨(by show 0 + 1 ≤ d + 1; omega), (by show 8 + (1 + 11) + 40 * 0 ≤ 40 * (d + 1); omega)⟩ ⟨Nat.le_of_ble_eq_true rfl, Nat.le_of_ble_eq_true rfl⟩ rfl hl.1 rfl (Nat.le_of_ble_eq_true rfl) (oc_182 17 (aq_17 shX5_readSum_0) uw_0_43)) (fun r_4 h_5 => ?_)
        refine lv_bipush (v := 43) hx hb (oc_16 20 (aq_20 shX5_readSum_0) sgb_43) kbc_43 ?_
        refine lv_icmp_eq (tgt := 34) hx hb (oc_159 22 (aq_22 shX5_readSum_0) sgw_0_12) rfl (fun c_6 => ?_) (fun c_6 => ?_)
        ·
          have tc_6 : (r_4.toInt : Int) = 43 := congrArg Int32.toInt c_6
          refine lv_aload_n hx hb dX5_readSum_34 rfl (lvA0 hl) ?_
          refine vp_callSi (runV_rxa (As := []) (rest := []) S (q_Rpeek l D cI cB cZ zz qq vv bt g ad c5 I5 F5  hI5 (by omega) (by omega) (by omega) (by omega)) kV_RX5_43 hK hXS hS hP 3 xo_3 rfl rfl ⟨(by show 0 + 1 ≤ d + 1; omega), (by show 8 + (1 + 11) + 40 * 0 ≤ 40 * (d + 1); omega)⟩ ⟨Nat.le_of_ble_eq_true rfl, Nat.le_of_ble_eq_true rfl⟩ rfl hl.1 rfl (Nat.le_of_ble_eq_true rfl) dX5_readSum_35) (fun r_7 h_8 => ?_)
          refine lv_bipush (v := 43) hx hb dX5_readSum_38 kbc_43 ?_
          refine lv_icmp_ne (tgt := 47) hx hb dX5_readSum_40 rfl (fun c_9 => ?_) (fun c_9 => ?_)
          ·
            have tc_9 : (r_7.toInt : Int) ≠ 43 := fun q => c_9 (Int32.toInt_inj.mp q)
            refine lv_iconst (v := 4) hx hb (oc_7 47 (aq_22 shX5_readSum_25)) kic_4 ?_
            refine lv_istore_n (lv' := [(2, .int 4), (0, .ref (g 6)), (1, .int o)]) hx hb dX5_readSum_48 rfl hl (ltb rfl) rfl (fun ls hl => ?_)
            refine lv_aload_n hx hb dX5_readSum_49 rfl (lvA1 hl) ?_
            refine lv_dup hx hb dX5_readSum_50 rfl ?_
            refine gf_RX5_31 S hK hP 3 xo_3 (v := .int (nI (c5 31))) rfl dX5_readSum_51 ?_
            refine lv_iconst (v := 1) hx hb dX5_readSum_54 kic_1 ?_
            refine lv_iadd hx hb dX5_readSum_55 ?_
            refine lv_topi (fun y_10 ey_10 => ?_)
            obtain rfl : y_10 = (nI ((c5 31) + 1)) := ey_10.trans (nI_add (c5 31) 1)
            refine pf_RX5_31 S hK hP hD hS 3 xo_3 (v := .int (nI ((c5 31) + 1))) (Nat.le_of_ble_eq_true rfl) rfl rfl dX5_readSum_56 (fun H locs hP hD hS => ?_)
            have hP : va_P D vwCl (wX cI (D.1 99) zz g ad (va_up c5 31 ((c5 31) + 1)) I5 F5) H := va_P_eq (xsf_3_3) hP
            have hD : va_D A (wX cI (D.1 99) zz g ad (va_up c5 31 ((c5 31) + 1)) I5 F5) := va_D_eq (xsf_3_3) hD
            refine lv_aload_n hx hb dX5_readSum_59 rfl (lvA1 hl) ?_
            refine lv_iload_n hx hb dX5_readSum_60 rfl (lvA2 hl) ?_
            have hFc := free_all hD hS hA
            refine va_callv (runV_xa (As := [.int o]) (rest := []) S (hSq ad (va_up c5 31 ((c5 31) + 1)) I5 F5 H.size (CBX.n (k := 31) (v := ((c5 31) + 1)) hI5 (by decide)) (show ad 4 2 = g 40 by omega) (show ad 4 1 < (c5 6) by omega) (show ((c5 31) + 1) ≤ (c5 32) by omega) (show (c5 32) ≤ 160 by omega) (by rw [hfr5.2.2 199 (nml rfl)]; exact h9)) kV_RX5_92 hK hXS hS hFc hP hD 3 xo_3 rfl rfl ⟨(by show d + 1 ≤ d + 1; omega), (by show 8 + (3 + 11) + 40 * d ≤ 40 * (d + 1); omega)⟩ ⟨Nat.le_of_ble_eq_true rfl, Nat.le_of_ble_eq_true rfl⟩ rfl hl.1 rfl (Nat.le_of_ble_eq_true rfl) dX5_readSum_61) hS (fun q _ h => hFc q h) hFc (fun u t H1 locs ht hvm wh_12 hB1 hz1 hk1 hS => ?_)
            obtain ⟨cn12, In12, Fn12⟩ := u
            obtain ⟨hP1, hD1⟩ := hB1
            rw [ht] at hP1
            have hP : va_P D vwCl (wX cI (D.1 99) zz g ad cn12 In12 Fn12) H1 := hP1
            have hD : va_D A (wX cI (D.1 99) zz g ad cn12 In12 Fn12) := hD1.weaken (fun _ _ _ h => hFc _ h)
            generalize H1 = H at hP hS ⊢
            have vh_12 : (fun c2 I2 F2 => Fr [31, 32] [33] [195, 301] (va_up c5 31 ((c5 31) + 1)) I5 F5 c2 I2 F2 ∧ CBX c2 ∧ (((c5 31) + 1) ≤ c2 31 ∧ c2 31 ≤ c2 32 ∧ c2 32 ≤ (c5 32))) cn12 In12 Fn12 := wh_12
            obtain ⟨hfc12, hIn12, h_12⟩ := vh_12
            have hf12 : Fr [31, 32] [33] [195, 301] cn In Fn cn12 In12 Fn12 := Fr.mo (Fr.tr (Fr.c 31 hfr5) hfc12) (sbl rfl) (sbl rfl) (sbl rfl)
            replace hIn12 : CBXh cn12 := hIn12
            have : cn12 6 = (c5 6) := hfc12.1 6 (nml rfl)
            refine lv_aload_n hx hb dX5_readSum_64 rfl (lvA1 hl) ?_
            refine gf_RX5_20 S hK hP 3 xo_3 (v := .ref (ad 5 (ad 4 1))) rfl dX5_readSum_65 ?_
            refine lv_iload_n hx hb dX5_readSum_68 rfl (lvA0 hl) ?_
            refine lv_iconst (v := 0) hx hb dX5_readSum_69 kic_0 ?_
            have hFc := free_all hD hS hA
            refine va_calli (runV_xa (As := [.int 4, .int 0]) (rest := []) S (q_Tadd l D cI cB cZ zz qq vv bt g ad cn12 In12 Fn12 (ad 4 1) 4 0 H.size hIn12 (by omega) (by rw [hf12.2.2 199 (nml rfl)]; exact h9)) kV_RX5_75 hK hXS hS hFc hP hD _ (xf_7 (show (ad 4 1) < (cn12 6) by omega)) rfl rfl ⟨(by show 0 + 1 ≤ d + 1; omega), (by show 8 + (3 + 11) + 40 * 0 ≤ 40 * (d + 1); omega)⟩ ⟨Nat.le_of_ble_eq_true rfl, Nat.le_of_ble_eq_true rfl⟩ rfl hl.1 rfl (Nat.le_of_ble_eq_true rfl) dX5_readSum_70) hS (fun q _ h => hFc q h) hFc (fun r_13 u t H1 locs ht hvm wh_14 hB1 hz1 hk1 hS => ?_)
            obtain ⟨cn14, In14, Fn14⟩ := u
            obtain ⟨hP1, hD1⟩ := hB1
            rw [ht] at hP1
            have hP : va_P D vwCl (wX cI (D.1 99) zz g ad cn14 In14 Fn14) H1 := hP1
            have hD : va_D A (wX cI (D.1 99) zz g ad cn14 In14 Fn14) := hD1.weaken (fun _ _ _ h => hFc _ h)
            generalize H1 = H at hP hS ⊢
            have vh_14 : (fun r c2 I2 F2 => Fr [] [] [195, 301] cn12 In12 Fn12 c2 I2 F2 ∧ CBX c2 ∧ (True)) r_13 cn14 In14 Fn14 := wh_14
            obtain ⟨hfc14, hIn14, h_14⟩ := vh_14
            obtain rfl : cn12 = cn14 := (funext (fun k => hfc14.1 k List.not_mem_nil)).symm
            obtain rfl : In12 = In14 := (funext (fun k => hfc14.2.1 k List.not_mem_nil)).symm
            have hf14 : Fr [31, 32] [33] [195, 301] cn In Fn cn12 In12 Fn14 := Fr.mo (Fr.tr hf12 hfc14) (sbl rfl) (sbl rfl) (sbl rfl)
            replace hIn14 : CBXh cn12 := hIn14
            refine lv_pop hx hb dX5_readSum_73 rfl ?_
            refine lv_goto (tgt := 5) hx hb dX5_readSum_74 rfl ?_
            exact ih5  cn12 In12 Fn14 _ _ (show (cn12 32) - (cn12 31) < n5 by omega) ⟨(Fr.mo hf14 (sbl rfl) (sbl rfl) (sbl rfl)), hIn14, (show cn 31 ≤ (cn12 31) ∧ (cn12 31) ≤ (cn12 32) ∧ (cn12 32) ≤ cn 32 by omega)⟩ hP hD hS ls (lv_sub hl [1, 2] rfl)
          ·
            have tc_9 : (r_7.toInt : Int) = 43 := congrArg Int32.toInt c_9
            refine lv_iconst (v := 3) hx hb (oc_6 43 (aq_18 shX5_readSum_25)) kic_3 ?_
            refine lv_goto (tgt := 48) hx hb (oc_167 44 (aq_19 shX5_readSum_25) sgw_0_4) rfl ?_
            refine lv_istore_n (lv' := [(2, .int 3), (0, .ref (g 6)), (1, .int o)]) hx hb dX5_readSum_48 rfl hl (ltb rfl) rfl (fun ls hl => ?_)
            refine lv_aload_n hx hb dX5_readSum_49 rfl (lvA1 hl) ?_
            refine lv_dup hx hb dX5_readSum_50 rfl ?_
            refine gf_RX5_31 S hK hP 3 xo_3 (v := .int (nI (c5 31))) rfl dX5_readSum_51 ?_
            refine lv_iconst (v := 1) hx hb dX5_readSum_54 kic_1 ?_
            refine lv_iadd hx hb dX5_readSum_55 ?_
            refine lv_topi (fun y_15 ey_15 => ?_)
            obtain rfl : y_15 = (nI ((c5 31) + 1)) := ey_15.trans (nI_add (c5 31) 1)
            refine pf_RX5_31 S hK hP hD hS 3 xo_3 (v := .int (nI ((c5 31) + 1))) (Nat.le_of_ble_eq_true rfl) rfl rfl dX5_readSum_56 (fun H locs hP hD hS => ?_)
            have hP : va_P D vwCl (wX cI (D.1 99) zz g ad (va_up c5 31 ((c5 31) + 1)) I5 F5) H := va_P_eq (xsf_3_3) hP
            have hD : va_D A (wX cI (D.1 99) zz g ad (va_up c5 31 ((c5 31) + 1)) I5 F5) := va_D_eq (xsf_3_3) hD
            refine lv_aload_n hx hb dX5_readSum_59 rfl (lvA1 hl) ?_
            refine lv_iload_n hx hb dX5_readSum_60 rfl (lvA2 hl) ?_
            have hFc := free_all hD hS hA
            refine va_callv (runV_xa (As := [.int o]) (rest := []) S (hSq ad (va_up c5 31 ((c5 31) + 1)) I5 F5 H.size (CBX.n (k := 31) (v := ((c5 31) + 1)) hI5 (by decide)) (show ad 4 2 = g 40 by omega) (show ad 4 1 < (c5 6) by omega) (show ((c5 31) + 1) ≤ (c5 32) by omega) (show (c5 32) ≤ 160 by omega) (by rw [hfr5.2.2 199 (nml rfl)]; exact h9)) kV_RX5_92 hK hXS hS hFc hP hD 3 xo_3 rfl rfl ⟨(by show d + 1 ≤ d + 1; omega), (by show 8 + (3 + 11) + 40 * d ≤ 40 * (d + 1); omega)⟩ ⟨Nat.le_of_ble_eq_true rfl, Nat.le_of_ble_eq_true rfl⟩ rfl hl.1 rfl (Nat.le_of_ble_eq_true rfl) dX5_readSum_61) hS (fun q _ h => hFc q h) hFc (fun u t H1 locs ht hvm wh_17 hB1 hz1 hk1 hS => ?_)
            obtain ⟨cn17, In17, Fn17⟩ := u
            obtain ⟨hP1, hD1⟩ := hB1
            rw [ht] at hP1
            have hP : va_P D vwCl (wX cI (D.1 99) zz g ad cn17 In17 Fn17) H1 := hP1
            have hD : va_D A (wX cI (D.1 99) zz g ad cn17 In17 Fn17) := hD1.weaken (fun _ _ _ h => hFc _ h)
            generalize H1 = H at hP hS ⊢
            have vh_17 : (fun c2 I2 F2 => Fr [31, 32] [33] [195, 301] (va_up c5 31 ((c5 31) + 1)) I5 F5 c2 I2 F2 ∧ CBX c2 ∧ (((c5 31) + 1) ≤ c2 31 ∧ c2 31 ≤ c2 32 ∧ c2 32 ≤ (c5 32))) cn17 In17 Fn17 := wh_17
            obtain ⟨hfc17, hIn17, h_17⟩ := vh_17
            have hf17 : Fr [31, 32] [33] [195, 301] cn In Fn cn17 In17 Fn17 := Fr.mo (Fr.tr (Fr.c 31 hfr5) hfc17) (sbl rfl) (sbl rfl) (sbl rfl)
            replace hIn17 : CBXh cn17 := hIn17
            have : cn17 6 = (c5 6) := hfc17.1 6 (nml rfl)
            refine lv_aload_n hx hb dX5_readSum_64 rfl (lvA1 hl) ?_
            refine gf_RX5_20 S hK hP 3 xo_3 (v := .ref (ad 5 (ad 4 1))) rfl dX5_readSum_65 ?_
            refine lv_iload_n hx hb dX5_readSum_68 rfl (lvA0 hl) ?_
            refine lv_iconst (v := 0) hx hb dX5_readSum_69 kic_0 ?_
            have hFc := free_all hD hS hA
            refine va_calli (runV_xa (As := [.int 3, .int 0]) (rest := []) S (q_Tadd l D cI cB cZ zz qq vv bt g ad cn17 In17 Fn17 (ad 4 1) 3 0 H.size hIn17 (by omega) (by rw [hf17.2.2 199 (nml rfl)]; exact h9)) kV_RX5_75 hK hXS hS hFc hP hD _ (xf_7 (show (ad 4 1) < (cn17 6) by omega)) rfl rfl ⟨(by show 0 + 1 ≤ d + 1; omega), (by show 8 + (3 + 11) + 40 * 0 ≤ 40 * (d + 1); omega)⟩ ⟨Nat.le_of_ble_eq_true rfl, Nat.le_of_ble_eq_true rfl⟩ rfl hl.1 rfl (Nat.le_of_ble_eq_true rfl) dX5_readSum_70) hS (fun q _ h => hFc q h) hFc (fun r_18 u t H1 locs ht hvm wh_19 hB1 hz1 hk1 hS => ?_)
            obtain ⟨cn19, In19, Fn19⟩ := u
            obtain ⟨hP1, hD1⟩ := hB1
            rw [ht] at hP1
            have hP : va_P D vwCl (wX cI (D.1 99) zz g ad cn19 In19 Fn19) H1 := hP1
            have hD : va_D A (wX cI (D.1 99) zz g ad cn19 In19 Fn19) := hD1.weaken (fun _ _ _ h => hFc _ h)
            generalize H1 = H at hP hS ⊢
            have vh_19 : (fun r c2 I2 F2 => Fr [] [] [195, 301] cn17 In17 Fn17 c2 I2 F2 ∧ CBX c2 ∧ (True)) r_18 cn19 In19 Fn19 := wh_19
            obtain ⟨hfc19, hIn19, h_19⟩ := vh_19
            obtain rfl : cn17 = cn19 := (funext (fun k => hfc19.1 k List.not_mem_nil)).symm
            obtain rfl : In17 = In19 := (funext (fun k => hfc19.2.1 k List.not_mem_nil)).symm
            have hf19 : Fr [31, 32] [33] [195, 301] cn In Fn cn17 In17 Fn19 := Fr.mo (Fr.tr hf17 hfc19) (sbl rfl) (sbl rfl) (sbl rfl)
            replace hIn19 : CBXh cn17 := hIn19
            refine lv_pop hx hb dX5_readSum_73 rfl ?_
            refine lv_goto (tgt := 5) hx hb dX5_readSum_74 rfl ?_
            exact ih5  cn17 In17 Fn19 _ _ (show (cn17 32) - (cn17 31) < n5 by omega) ⟨(Fr.mo hf19 (sbl rfl) (sbl rfl) (sbl rfl)), hIn19, (show cn 31 ≤ (cn17 31) ∧ (cn17 31) ≤ (cn17 32) ∧ (cn17 32) ≤ cn 32 by omega)⟩ hP hD hS ls (lv_sub hl [1, 2] rfl)
        ·
          have tc_6 : (r_4.toInt : Int) ≠ 43 := fun q => c_6 (Int32.toInt_inj.mp q)
          refine lv_aload_n hx hb (oc_42 25 shX5_readSum_25) rfl (lvA0 hl) ?_
          refine vp_callSi (runV_rxa (As := []) (rest := []) S (q_Rpeek l D cI cB cZ zz qq vv bt g ad c5 I5 F5  hI5 (by omega) (by omega) (by omega) (by omega)) kV_RX5_43 hK hXS hS hP 3 xo_3 rfl rfl ⟨(by show 0 + 1 ≤ d + 1; omega), (by show 8 + (1 + 11) + 40 * 0 ≤ 40 * (d + 1); omega)⟩ ⟨Nat.le_of_ble_eq_true rfl, Nat.le_of_ble_eq_true rfl⟩ rfl hl.1 rfl (Nat.le_of_ble_eq_true rfl) (oc_182 26 (aq_1 shX5_readSum_25) uw_0_43)) (fun r_20 h_21 => ?_)
          refine lv_bipush (v := 45) hx hb (oc_16 29 (aq_4 shX5_readSum_25) sgb_45) kbc_45 ?_
          refine lv_icmp_ne (tgt := 77) hx hb (oc_160 31 (aq_6 shX5_readSum_25) sgw_0_46) rfl (fun c_22 => ?_) (fun c_22 => ?_)
          ·
            have tc_22 : (r_20.toInt : Int) ≠ 45 := fun q => c_22 (Int32.toInt_inj.mp q)
            exact W.vret hx hb hr (fun t ht hW => ⟨⟨(c5, I5, F5), rfl, ⟨(Fr.mo hfr5 (sbl rfl) (sbl rfl) (sbl rfl)), hI5, (by show cn 31 ≤ c5 31 ∧ c5 31 ≤ c5 32 ∧ c5 32 ≤ cn 32; show cn 31 ≤ (c5 31) ∧ (c5 31) ≤ (c5 32) ∧ (c5 32) ≤ cn 32; omega)⟩, by rw [ht]; exact hP, hD⟩, hS.F ht⟩) hS.2.2 dX5_readSum_77
          ·
            have tc_22 : (r_20.toInt : Int) = 45 := congrArg Int32.toInt c_22
            refine lv_aload_n hx hb dX5_readSum_34 rfl (lvA0 hl) ?_
            refine vp_callSi (runV_rxa (As := []) (rest := []) S (q_Rpeek l D cI cB cZ zz qq vv bt g ad c5 I5 F5  hI5 (by omega) (by omega) (by omega) (by omega)) kV_RX5_43 hK hXS hS hP 3 xo_3 rfl rfl ⟨(by show 0 + 1 ≤ d + 1; omega), (by show 8 + (1 + 11) + 40 * 0 ≤ 40 * (d + 1); omega)⟩ ⟨Nat.le_of_ble_eq_true rfl, Nat.le_of_ble_eq_true rfl⟩ rfl hl.1 rfl (Nat.le_of_ble_eq_true rfl) dX5_readSum_35) (fun r_23 h_24 => ?_)
            refine lv_bipush (v := 43) hx hb dX5_readSum_38 kbc_43 ?_
            refine lv_icmp_ne (tgt := 47) hx hb dX5_readSum_40 rfl (fun c_25 => ?_) (fun c_25 => ?_)
            ·
              have tc_25 : (r_23.toInt : Int) ≠ 43 := fun q => c_25 (Int32.toInt_inj.mp q)
              refine lv_iconst (v := 4) hx hb (oc_7 47 (aq_22 shX5_readSum_25)) kic_4 ?_
              refine lv_istore_n (lv' := [(2, .int 4), (0, .ref (g 6)), (1, .int o)]) hx hb dX5_readSum_48 rfl hl (ltb rfl) rfl (fun ls hl => ?_)
              refine lv_aload_n hx hb dX5_readSum_49 rfl (lvA1 hl) ?_
              refine lv_dup hx hb dX5_readSum_50 rfl ?_
              refine gf_RX5_31 S hK hP 3 xo_3 (v := .int (nI (c5 31))) rfl dX5_readSum_51 ?_
              refine lv_iconst (v := 1) hx hb dX5_readSum_54 kic_1 ?_
              refine lv_iadd hx hb dX5_readSum_55 ?_
              refine lv_topi (fun y_26 ey_26 => ?_)
              obtain rfl : y_26 = (nI ((c5 31) + 1)) := ey_26.trans (nI_add (c5 31) 1)
              refine pf_RX5_31 S hK hP hD hS 3 xo_3 (v := .int (nI ((c5 31) + 1))) (Nat.le_of_ble_eq_true rfl) rfl rfl dX5_readSum_56 (fun H locs hP hD hS => ?_)
              have hP : va_P D vwCl (wX cI (D.1 99) zz g ad (va_up c5 31 ((c5 31) + 1)) I5 F5) H := va_P_eq (xsf_3_3) hP
              have hD : va_D A (wX cI (D.1 99) zz g ad (va_up c5 31 ((c5 31) + 1)) I5 F5) := va_D_eq (xsf_3_3) hD
              refine lv_aload_n hx hb dX5_readSum_59 rfl (lvA1 hl) ?_
              refine lv_iload_n hx hb dX5_readSum_60 rfl (lvA2 hl) ?_
              have hFc := free_all hD hS hA
              refine va_callv (runV_xa (As := [.int o]) (rest := []) S (hSq ad (va_up c5 31 ((c5 31) + 1)) I5 F5 H.size (CBX.n (k := 31) (v := ((c5 31) + 1)) hI5 (by decide)) (show ad 4 2 = g 40 by omega) (show ad 4 1 < (c5 6) by omega) (show ((c5 31) + 1) ≤ (c5 32) by omega) (show (c5 32) ≤ 160 by omega) (by rw [hfr5.2.2 199 (nml rfl)]; exact h9)) kV_RX5_92 hK hXS hS hFc hP hD 3 xo_3 rfl rfl ⟨(by show d + 1 ≤ d + 1; omega), (by show 8 + (3 + 11) + 40 * d ≤ 40 * (d + 1); omega)⟩ ⟨Nat.le_of_ble_eq_true rfl, Nat.le_of_ble_eq_true rfl⟩ rfl hl.1 rfl (Nat.le_of_ble_eq_true rfl) dX5_readSum_61) hS (fun q _ h => hFc q h) hFc (fun u t H1 locs ht hvm wh_28 hB1 hz1 hk1 hS => ?_)
              obtain ⟨cn28, In28, Fn28⟩ := u
              obtain ⟨hP1, hD1⟩ := hB1
              rw [ht] at hP1
              have hP : va_P D vwCl (wX cI (D.1 99) zz g ad cn28 In28 Fn28) H1 := hP1
              have hD : va_D A (wX cI (D.1 99) zz g ad cn28 In28 Fn28) := hD1.weaken (fun _ _ _ h => hFc _ h)
              generalize H1 = H at hP hS ⊢
              have vh_28 : (fun c2 I2 F2 => Fr [31, 32] [33] [195, 301] (va_up c5 31 ((c5 31) + 1)) I5 F5 c2 I2 F2 ∧ CBX c2 ∧ (((c5 31) + 1) ≤ c2 31 ∧ c2 31 ≤ c2 32 ∧ c2 32 ≤ (c5 32))) cn28 In28 Fn28 := wh_28
              obtain ⟨hfc28, hIn28, h_28⟩ := vh_28
              have hf28 : Fr [31, 32] [33] [195, 301] cn In Fn cn28 In28 Fn28 := Fr.mo (Fr.tr (Fr.c 31 hfr5) hfc28) (sbl rfl) (sbl rfl) (sbl rfl)
              replace hIn28 : CBXh cn28 := hIn28
              have : cn28 6 = (c5 6) := hfc28.1 6 (nml rfl)
              refine lv_aload_n hx hb dX5_readSum_64 rfl (lvA1 hl) ?_
              refine gf_RX5_20 S hK hP 3 xo_3 (v := .ref (ad 5 (ad 4 1))) rfl dX5_readSum_65 ?_
              refine lv_iload_n hx hb dX5_readSum_68 rfl (lvA0 hl) ?_
              refine lv_iconst (v := 0) hx hb dX5_readSum_69 kic_0 ?_
              have hFc := free_all hD hS hA
              refine va_calli (runV_xa (As := [.int 4, .int 0]) (rest := []) S (q_Tadd l D cI cB cZ zz qq vv bt g ad cn28 In28 Fn28 (ad 4 1) 4 0 H.size hIn28 (by omega) (by rw [hf28.2.2 199 (nml rfl)]; exact h9)) kV_RX5_75 hK hXS hS hFc hP hD _ (xf_7 (show (ad 4 1) < (cn28 6) by omega)) rfl rfl ⟨(by show 0 + 1 ≤ d + 1; omega), (by show 8 + (3 + 11) + 40 * 0 ≤ 40 * (d + 1); omega)⟩ ⟨Nat.le_of_ble_eq_true rfl, Nat.le_of_ble_eq_true rfl⟩ rfl hl.1 rfl (Nat.le_of_ble_eq_true rfl) dX5_readSum_70) hS (fun q _ h => hFc q h) hFc (fun r_29 u t H1 locs ht hvm wh_30 hB1 hz1 hk1 hS => ?_)
              obtain ⟨cn30, In30, Fn30⟩ := u
              obtain ⟨hP1, hD1⟩ := hB1
              rw [ht] at hP1
              have hP : va_P D vwCl (wX cI (D.1 99) zz g ad cn30 In30 Fn30) H1 := hP1
              have hD : va_D A (wX cI (D.1 99) zz g ad cn30 In30 Fn30) := hD1.weaken (fun _ _ _ h => hFc _ h)
              generalize H1 = H at hP hS ⊢
              have vh_30 : (fun r c2 I2 F2 => Fr [] [] [195, 301] cn28 In28 Fn28 c2 I2 F2 ∧ CBX c2 ∧ (True)) r_29 cn30 In30 Fn30 := wh_30
              obtain ⟨hfc30, hIn30, h_30⟩ := vh_30
              obtain rfl : cn28 = cn30 := (funext (fun k => hfc30.1 k List.not_mem_nil)).symm
              obtain rfl : In28 = In30 := (funext (fun k => hfc30.2.1 k List.not_mem_nil)).symm
              have hf30 : Fr [31, 32] [33] [195, 301] cn In Fn cn28 In28 Fn30 := Fr.mo (Fr.tr hf28 hfc30) (sbl rfl) (sbl rfl) (sbl rfl)
              replace hIn30 : CBXh cn28 := hIn30
              refine lv_pop hx hb dX5_readSum_73 rfl ?_
              refine lv_goto (tgt := 5) hx hb dX5_readSum_74 rfl ?_
              exact ih5  cn28 In28 Fn30 _ _ (show (cn28 32) - (cn28 31) < n5 by omega) ⟨(Fr.mo hf30 (sbl rfl) (sbl rfl) (sbl rfl)), hIn30, (show cn 31 ≤ (cn28 31) ∧ (cn28 31) ≤ (cn28 32) ∧ (cn28 32) ≤ cn 32 by omega)⟩ hP hD hS ls (lv_sub hl [1, 2] rfl)
            ·
              have tc_25 : (r_23.toInt : Int) = 43 := congrArg Int32.toInt c_25
              refine lv_iconst (v := 3) hx hb (oc_6 43 (aq_18 shX5_readSum_25)) kic_3 ?_
              refine lv_goto (tgt := 48) hx hb (oc_167 44 (aq_19 shX5_readSum_25) sgw_0_4) rfl ?_
              refine lv_istore_n (lv' := [(2, .int 3), (0, .ref (g 6)), (1, .int o)]) hx hb dX5_readSum_48 rfl hl (ltb rfl) rfl (fun ls hl => ?_)
              refine lv_aload_n hx hb dX5_readSum_49 rfl (lvA1 hl) ?_
              refine lv_dup hx hb dX5_readSum_50 rfl ?_
              refine gf_RX5_31 S hK hP 3 xo_3 (v := .int (nI (c5 31))) rfl dX5_readSum_51 ?_
              refine lv_iconst (v := 1) hx hb dX5_readSum_54 kic_1 ?_
              refine lv_iadd hx hb dX5_readSum_55 ?_
              refine lv_topi (fun y_31 ey_31 => ?_)
              obtain rfl : y_31 = (nI ((c5 31) + 1)) := ey_31.trans (nI_add (c5 31) 1)
              refine pf_RX5_31 S hK hP hD hS 3 xo_3 (v := .int (nI ((c5 31) + 1))) (Nat.le_of_ble_eq_true rfl) rfl rfl dX5_readSum_56 (fun H locs hP hD hS => ?_)
              have hP : va_P D vwCl (wX cI (D.1 99) zz g ad (va_up c5 31 ((c5 31) + 1)) I5 F5) H := va_P_eq (xsf_3_3) hP
              have hD : va_D A (wX cI (D.1 99) zz g ad (va_up c5 31 ((c5 31) + 1)) I5 F5) := va_D_eq (xsf_3_3) hD
              refine lv_aload_n hx hb dX5_readSum_59 rfl (lvA1 hl) ?_
              refine lv_iload_n hx hb dX5_readSum_60 rfl (lvA2 hl) ?_
              have hFc := free_all hD hS hA
              refine va_callv (runV_xa (As := [.int o]) (rest := []) S (hSq ad (va_up c5 31 ((c5 31) + 1)) I5 F5 H.size (CBX.n (k := 31) (v := ((c5 31) + 1)) hI5 (by decide)) (show ad 4 2 = g 40 by omega) (show ad 4 1 < (c5 6) by omega) (show ((c5 31) + 1) ≤ (c5 32) by omega) (show (c5 32) ≤ 160 by omega) (by rw [hfr5.2.2 199 (nml rfl)]; exact h9)) kV_RX5_92 hK hXS hS hFc hP hD 3 xo_3 rfl rfl ⟨(by show d + 1 ≤ d + 1; omega), (by show 8 + (3 + 11) + 40 * d ≤ 40 * (d + 1); omega)⟩ ⟨Nat.le_of_ble_eq_true rfl, Nat.le_of_ble_eq_true rfl⟩ rfl hl.1 rfl (Nat.le_of_ble_eq_true rfl) dX5_readSum_61) hS (fun q _ h => hFc q h) hFc (fun u t H1 locs ht hvm wh_33 hB1 hz1 hk1 hS => ?_)
              obtain ⟨cn33, In33, Fn33⟩ := u
              obtain ⟨hP1, hD1⟩ := hB1
              rw [ht] at hP1
              have hP : va_P D vwCl (wX cI (D.1 99) zz g ad cn33 In33 Fn33) H1 := hP1
              have hD : va_D A (wX cI (D.1 99) zz g ad cn33 In33 Fn33) := hD1.weaken (fun _ _ _ h => hFc _ h)
              generalize H1 = H at hP hS ⊢
              have vh_33 : (fun c2 I2 F2 => Fr [31, 32] [33] [195, 301] (va_up c5 31 ((c5 31) + 1)) I5 F5 c2 I2 F2 ∧ CBX c2 ∧ (((c5 31) + 1) ≤ c2 31 ∧ c2 31 ≤ c2 32 ∧ c2 32 ≤ (c5 32))) cn33 In33 Fn33 := wh_33
              obtain ⟨hfc33, hIn33, h_33⟩ := vh_33
              have hf33 : Fr [31, 32] [33] [195, 301] cn In Fn cn33 In33 Fn33 := Fr.mo (Fr.tr (Fr.c 31 hfr5) hfc33) (sbl rfl) (sbl rfl) (sbl rfl)
              replace hIn33 : CBXh cn33 := hIn33
              have : cn33 6 = (c5 6) := hfc33.1 6 (nml rfl)
              refine lv_aload_n hx hb dX5_readSum_64 rfl (lvA1 hl) ?_
              refine gf_RX5_20 S hK hP 3 xo_3 (v := .ref (ad 5 (ad 4 1))) rfl dX5_readSum_65 ?_
              refine lv_iload_n hx hb dX5_readSum_68 rfl (lvA0 hl) ?_
              refine lv_iconst (v := 0) hx hb dX5_readSum_69 kic_0 ?_
              have hFc := free_all hD hS hA
              refine va_calli (runV_xa (As := [.int 3, .int 0]) (rest := []) S (q_Tadd l D cI cB cZ zz qq vv bt g ad cn33 In33 Fn33 (ad 4 1) 3 0 H.size hIn33 (by omega) (by rw [hf33.2.2 199 (nml rfl)]; exact h9)) kV_RX5_75 hK hXS hS hFc hP hD _ (xf_7 (show (ad 4 1) < (cn33 6) by omega)) rfl rfl ⟨(by show 0 + 1 ≤ d + 1; omega), (by show 8 + (3 + 11) + 40 * 0 ≤ 40 * (d + 1); omega)⟩ ⟨Nat.le_of_ble_eq_true rfl, Nat.le_of_ble_eq_true rfl⟩ rfl hl.1 rfl (Nat.le_of_ble_eq_true rfl) dX5_readSum_70) hS (fun q _ h => hFc q h) hFc (fun r_34 u t H1 locs ht hvm wh_35 hB1 hz1 hk1 hS => ?_)
              obtain ⟨cn35, In35, Fn35⟩ := u
              obtain ⟨hP1, hD1⟩ := hB1
              rw [ht] at hP1
              have hP : va_P D vwCl (wX cI (D.1 99) zz g ad cn35 In35 Fn35) H1 := hP1
              have hD : va_D A (wX cI (D.1 99) zz g ad cn35 In35 Fn35) := hD1.weaken (fun _ _ _ h => hFc _ h)
              generalize H1 = H at hP hS ⊢
              have vh_35 : (fun r c2 I2 F2 => Fr [] [] [195, 301] cn33 In33 Fn33 c2 I2 F2 ∧ CBX c2 ∧ (True)) r_34 cn35 In35 Fn35 := wh_35
              obtain ⟨hfc35, hIn35, h_35⟩ := vh_35
              obtain rfl : cn33 = cn35 := (funext (fun k => hfc35.1 k List.not_mem_nil)).symm
              obtain rfl : In33 = In35 := (funext (fun k => hfc35.2.1 k List.not_mem_nil)).symm
              have hf35 : Fr [31, 32] [33] [195, 301] cn In Fn cn33 In33 Fn35 := Fr.mo (Fr.tr hf33 hfc35) (sbl rfl) (sbl rfl) (sbl rfl)
              replace hIn35 : CBXh cn33 := hIn35
              refine lv_pop hx hb dX5_readSum_73 rfl ?_
              refine lv_goto (tgt := 5) hx hb dX5_readSum_74 rfl ?_
              exact ih5  cn33 In33 Fn35 _ _ (show (cn33 32) - (cn33 31) < n5 by omega) ⟨(Fr.mo hf35 (sbl rfl) (sbl rfl) (sbl rfl)), hIn35, (show cn 31 ≤ (cn33 31) ∧ (cn33 31) ≤ (cn33 32) ∧ (cn33 32) ≤ cn 32 by omega)⟩ hP hD hS ls (lv_sub hl [1, 2] rfl)
  exact lp_5 _  cn2 In2 Fn2 _ _ (Nat.lt_succ_self _) ⟨(Fr.mo hf2 (sbl rfl) (sbl rfl) (sbl rfl)), hIn2, (show cn 31 ≤ (cn2 31) ∧ (cn2 31) ≤ (cn2 32) ∧ (cn2 32) ≤ cn 32 by omega)⟩ hP hD hS ls (lv_sub hl [0, 1] rfl)
set_option maxRecDepth 100000 in
set_option maxHeartbeats 4000000 in
theorem gq_GreadPiece6 (l : Launch) (D : va_G) (cI cB cZ : ClassId) (zz qq vv : Nat) (bt : Nat → Int32) (g : Nat → Nat) (o : Int32) (d : Nat) (ho : 6 ≤ o.toInt) (hd : 4 ≤ d ∧ d ≤ 60) (hSq : RDQ yX5_readSum cX5_readSum 3 l D cI cB cZ zz qq vv bt g o d) : RDQ yX5_readPiece cX5_readPiece 4 l D cI cB cZ zz qq vv bt g o (d + 1) := by
  intro ad cn In Fn sz hB hR h1 h3 h4 h9
  refine Met.ofW (cc := cX5_readPiece) (maxL := 4) (ret := none) (by decide) rfl ?_
  intro p e s m args below meth c s₁ B hml hv
  obtain ⟨rfl, hsz, hP, hK, hD0, hXS⟩ := hv
  have hx := B.exec
  have hb := B.bytes
  have hr := B.returns
  have hts := atoms_spec (ws := (CWS yX5_readPiece cX5_readPiece 4 none)) B.pre
  have hown : s.vm.findClass RX5 = some m.cls := findClass_of_methodNamed B.named
  have hlocks := B.notSynchronized
  have S : SF p m c cX5_readPiece 4 s ([.ref (g 6), .int o]).toArray RX5 := ⟨hx, hb, hml, hown, fun w h => hts w (List.mem_cons_of_mem _ h)⟩
  subst hsz
  have hD := hD0.self (sz := s.heap.size)
  generalize hAe : va_A (wX cI (D.1 99) zz g ad cn In Fn) s.heap.size = A at hD hXS ⊢
  have hA : ∀ q : Nat, s.heap.size ≤ q → A q := fun q h => by rw [← hAe]; exact Or.inr h
  have hS : va_S A s.heap s.heap [] := va_S.rf
  have hl := lv_entry ([.ref (g 6), .int o]) (n := 4) (Nat.le_of_ble_eq_true rfl)
  rw [lg_entry_eq]
  generalize (lg_sl ([.ref (g 6), .int o]) ++ List.replicate (4 - (lg_sl ([.ref (g 6), .int o])).length) Slot.unset).toArray = ls at hl ⊢
  have hl : lv_has ls 4 [(0, .ref (g 6)), (1, .int o)] := hl
  replace hB : CBXh cn := hB
  refine lv_aload_n hx hb dX5_readPiece_0 rfl (lvA0 hl) ?_
  refine vp_callSi (runV_rxa (As := []) (rest := []) S (q_Rpeek l D cI cB cZ zz qq vv bt g ad cn In Fn  hB (by omega) (by omega) (by omega) (by omega)) kV_RX5_43 hK hXS hS hP 3 xo_3 rfl rfl ⟨(by show 0 + 1 ≤ d + 1; omega), (by show 8 + (1 + 11) + 40 * 0 ≤ 40 * (d + 1); omega)⟩ ⟨Nat.le_of_ble_eq_true rfl, Nat.le_of_ble_eq_true rfl⟩ rfl hl.1 rfl (Nat.le_of_ble_eq_true rfl) dX5_readPiece_1) (fun r_1 h_2 => ?_)
  refine lv_istore_n (lv' := [(2, .int r_1), (0, .ref (g 6)), (1, .int o)]) hx hb dX5_readPiece_4 rfl hl (ltb rfl) rfl (fun ls hl => ?_)
  refine lv_iload_n hx hb dX5_readPiece_5 rfl (lvA0 hl) ?_
  refine lv_bipush (v := 33) hx hb dX5_readPiece_6 kbc_33 ?_
  refine lv_icmp_ne (tgt := 40) hx hb dX5_readPiece_8 rfl (fun c_3 => ?_) (fun c_3 => ?_)
  ·
    have tc_3 : (r_1.toInt : Int) ≠ 33 := fun q => c_3 (Int32.toInt_inj.mp q)
    refine lv_iload_n hx hb dX5_readPiece_40 rfl (lvA0 hl) ?_
    refine lv_bipush (v := 40) hx hb dX5_readPiece_41 kbc_40 ?_
    refine lv_icmp_ne (tgt := 70) hx hb dX5_readPiece_43 rfl (fun c_4 => ?_) (fun c_4 => ?_)
    ·
      have tc_4 : (r_1.toInt : Int) ≠ 40 := fun q => c_4 (Int32.toInt_inj.mp q)
      refine lv_aload_n hx hb dX5_readPiece_70 rfl (lvA1 hl) ?_
      refine lv_iload_n hx hb dX5_readPiece_71 rfl (lvA2 hl) ?_
      have hFc := free_all hD hS hA
      refine va_callv (runV_xa (As := [.int o]) (rest := []) S (hSq ad cn In Fn s.heap.size hB (by omega) (by omega) (by omega) (by omega) h9) kV_RX5_56 hK hXS hS hFc hP hD 3 xo_3 rfl rfl ⟨(by show d + 1 ≤ d + 1; omega), (by show 8 + (3 + 11) + 40 * d ≤ 40 * (d + 1); omega)⟩ ⟨Nat.le_of_ble_eq_true rfl, Nat.le_of_ble_eq_true rfl⟩ rfl hl.1 rfl (Nat.le_of_ble_eq_true rfl) dX5_readPiece_72) hS (fun q _ h => hFc q h) hFc (fun u t H1 locs ht hvm wh_6 hB1 hz1 hk1 hS => ?_)
      obtain ⟨cn6, In6, Fn6⟩ := u
      obtain ⟨hP1, hD1⟩ := hB1
      rw [ht] at hP1
      have hP : va_P D vwCl (wX cI (D.1 99) zz g ad cn6 In6 Fn6) H1 := hP1
      have hD : va_D A (wX cI (D.1 99) zz g ad cn6 In6 Fn6) := hD1.weaken (fun _ _ _ h => hFc _ h)
      generalize H1 = H at hP hS ⊢
      have vh_6 : (fun c2 I2 F2 => Fr [31, 32] [33] [195, 301] cn In Fn c2 I2 F2 ∧ CBX c2 ∧ ((cn 31) ≤ c2 31 ∧ c2 31 ≤ c2 32 ∧ c2 32 ≤ (cn 32))) cn6 In6 Fn6 := wh_6
      obtain ⟨hfc6, hIn6, h_6⟩ := vh_6
      have hf6 : Fr [31, 32] [33] [195, 301] cn In Fn cn6 In6 Fn6 := Fr.mo (Fr.tr (Fr.rf (cn := cn) (In := In) (Fn := Fn)) hfc6) (sbl rfl) (sbl rfl) (sbl rfl)
      replace hIn6 : CBXh cn6 := hIn6
      have : cn6 6 = (cn 6) := hfc6.1 6 (nml rfl)
      refine lv_aload_n hx hb dX5_readPiece_75 rfl (lvA1 hl) ?_
      have hFc := free_all hD hS hA
      refine va_calli (runV_xa (As := []) (rest := []) S (q_RreadRelation l D cI cB cZ zz qq vv bt g ad cn6 In6 Fn6  H.size hIn6 (by omega) (by omega) (by omega) (by omega)) kV_RX5_89 hK hXS hS hFc hP hD 3 xo_3 rfl rfl ⟨(by show 1 + 1 ≤ d + 1; omega), (by show 8 + (2 + 11) + 40 * 1 ≤ 40 * (d + 1); omega)⟩ ⟨Nat.le_of_ble_eq_true rfl, Nat.le_of_ble_eq_true rfl⟩ rfl hl.1 rfl (Nat.le_of_ble_eq_true rfl) dX5_readPiece_76) hS (fun q _ h => hFc q h) hFc (fun r_7 u t H1 locs ht hvm wh_8 hB1 hz1 hk1 hS => ?_)
      obtain ⟨cn8, In8, Fn8⟩ := u
      obtain ⟨hP1, hD1⟩ := hB1
      rw [ht] at hP1
      have hP : va_P D vwCl (wX cI (D.1 99) zz g ad cn8 In8 Fn8) H1 := hP1
      have hD : va_D A (wX cI (D.1 99) zz g ad cn8 In8 Fn8) := hD1.weaken (fun _ _ _ h => hFc _ h)
      generalize H1 = H at hP hS ⊢
      have vh_8 : (fun r c2 I2 F2 => Fr [31, 32] [33] [] cn6 In6 Fn6 c2 I2 F2 ∧ CBX c2 ∧ ((cn6 31) ≤ c2 31 ∧ c2 31 ≤ c2 32 ∧ c2 32 ≤ (cn6 32))) r_7 cn8 In8 Fn8 := wh_8
      obtain ⟨hfc8, hIn8, h_8⟩ := vh_8
      obtain rfl : Fn6 = Fn8 := (funext (fun k => hfc8.2.2 k List.not_mem_nil)).symm
      have hf8 : Fr [31, 32] [33] [195, 301] cn In Fn cn8 In8 Fn6 := Fr.mo (Fr.tr hf6 hfc8) (sbl rfl) (sbl rfl) (sbl rfl)
      replace hIn8 : CBXh cn8 := hIn8
      have : cn8 6 = (cn6 6) := hfc8.1 6 (nml rfl)
      refine lv_istore_n (lv' := [(3, .int r_7), (2, .int r_1), (0, .ref (g 6)), (1, .int o)]) hx hb dX5_readPiece_79 rfl hl (ltb rfl) rfl (fun ls hl => ?_)
      refine lv_aload_n hx hb dX5_readPiece_80 rfl (lvA2 hl) ?_
      refine lv_iload_n hx hb dX5_readPiece_81 rfl (lvA3 hl) ?_
      have hFc := free_all hD hS hA
      refine va_callv (runV_xa (As := [.int o]) (rest := []) S (hSq ad cn8 In8 Fn6 H.size hIn8 (by omega) (by omega) (by omega) (by omega) (by rw [hf8.2.2 199 (nml rfl)]; exact h9)) kV_RX5_56 hK hXS hS hFc hP hD 3 xo_3 rfl rfl ⟨(by show d + 1 ≤ d + 1; omega), (by show 8 + (3 + 11) + 40 * d ≤ 40 * (d + 1); omega)⟩ ⟨Nat.le_of_ble_eq_true rfl, Nat.le_of_ble_eq_true rfl⟩ rfl hl.1 rfl (Nat.le_of_ble_eq_true rfl) dX5_readPiece_82) hS (fun q _ h => hFc q h) hFc (fun u t H1 locs ht hvm wh_10 hB1 hz1 hk1 hS => ?_)
      obtain ⟨cn10, In10, Fn10⟩ := u
      obtain ⟨hP1, hD1⟩ := hB1
      rw [ht] at hP1
      have hP : va_P D vwCl (wX cI (D.1 99) zz g ad cn10 In10 Fn10) H1 := hP1
      have hD : va_D A (wX cI (D.1 99) zz g ad cn10 In10 Fn10) := hD1.weaken (fun _ _ _ h => hFc _ h)
      generalize H1 = H at hP hS ⊢
      have vh_10 : (fun c2 I2 F2 => Fr [31, 32] [33] [195, 301] cn8 In8 Fn6 c2 I2 F2 ∧ CBX c2 ∧ ((cn8 31) ≤ c2 31 ∧ c2 31 ≤ c2 32 ∧ c2 32 ≤ (cn8 32))) cn10 In10 Fn10 := wh_10
      obtain ⟨hfc10, hIn10, h_10⟩ := vh_10
      have hf10 : Fr [31, 32] [33] [195, 301] cn In Fn cn10 In10 Fn10 := Fr.mo (Fr.tr hf8 hfc10) (sbl rfl) (sbl rfl) (sbl rfl)
      replace hIn10 : CBXh cn10 := hIn10
      have : cn10 6 = (cn8 6) := hfc10.1 6 (nml rfl)
      refine lv_aload_n hx hb dX5_readPiece_85 rfl (lvA2 hl) ?_
      refine gf_RX5_20 S hK hP 3 xo_3 (v := .ref (ad 5 (ad 4 1))) rfl dX5_readPiece_86 ?_
      refine lv_iload_n hx hb dX5_readPiece_89 rfl (lvA0 hl) ?_
      refine lv_iconst (v := 0) hx hb dX5_readPiece_90 kic_0 ?_
      have hFc := free_all hD hS hA
      refine va_calli (runV_xa (As := [.int r_7, .int 0]) (rest := []) S (q_Tadd l D cI cB cZ zz qq vv bt g ad cn10 In10 Fn10 (ad 4 1) r_7 0 H.size hIn10 (by omega) (by rw [hf10.2.2 199 (nml rfl)]; exact h9)) kV_RX5_75 hK hXS hS hFc hP hD _ (xf_7 (show (ad 4 1) < (cn10 6) by omega)) rfl rfl ⟨(by show 0 + 1 ≤ d + 1; omega), (by show 8 + (3 + 11) + 40 * 0 ≤ 40 * (d + 1); omega)⟩ ⟨Nat.le_of_ble_eq_true rfl, Nat.le_of_ble_eq_true rfl⟩ rfl hl.1 rfl (Nat.le_of_ble_eq_true rfl) dX5_readPiece_91) hS (fun q _ h => hFc q h) hFc (fun r_11 u t H1 locs ht hvm wh_12 hB1 hz1 hk1 hS => ?_)
      obtain ⟨cn12, In12, Fn12⟩ := u
      obtain ⟨hP1, hD1⟩ := hB1
      rw [ht] at hP1
      have hP : va_P D vwCl (wX cI (D.1 99) zz g ad cn12 In12 Fn12) H1 := hP1
      have hD : va_D A (wX cI (D.1 99) zz g ad cn12 In12 Fn12) := hD1.weaken (fun _ _ _ h => hFc _ h)
      generalize H1 = H at hP hS ⊢
      have vh_12 : (fun r c2 I2 F2 => Fr [] [] [195, 301] cn10 In10 Fn10 c2 I2 F2 ∧ CBX c2 ∧ (True)) r_11 cn12 In12 Fn12 := wh_12
      obtain ⟨hfc12, hIn12, h_12⟩ := vh_12
      obtain rfl : cn10 = cn12 := (funext (fun k => hfc12.1 k List.not_mem_nil)).symm
      obtain rfl : In10 = In12 := (funext (fun k => hfc12.2.1 k List.not_mem_nil)).symm
      have hf12 : Fr [31, 32] [33] [195, 301] cn In Fn cn10 In10 Fn12 := Fr.mo (Fr.tr hf10 hfc12) (sbl rfl) (sbl rfl) (sbl rfl)
      replace hIn12 : CBXh cn10 := hIn12
      refine lv_pop hx hb dX5_readPiece_94 rfl ?_
      exact W.vret hx hb hr (fun t ht hW => ⟨⟨(cn10, In10, Fn12), rfl, ⟨(Fr.mo hf12 (sbl rfl) (sbl rfl) (sbl rfl)), hIn12, (by show cn 31 ≤ cn10 31 ∧ cn10 31 ≤ cn10 32 ∧ cn10 32 ≤ cn 32; show cn 31 ≤ (cn10 31) ∧ (cn10 31) ≤ (cn10 32) ∧ (cn10 32) ≤ cn 32; omega)⟩, by rw [ht]; exact hP, hD⟩, hS.F ht⟩) hS.2.2 dX5_readPiece_95
    ·
      have tc_4 : (r_1.toInt : Int) = 40 := congrArg Int32.toInt c_4
      refine lv_aload_n hx hb dX5_readPiece_46 rfl (lvA1 hl) ?_
      refine lv_iload_n hx hb dX5_readPiece_47 rfl (lvA2 hl) ?_
      have hFc := free_all hD hS hA
      refine va_calli (runV_xa (As := [.int o]) (rest := []) S (q_Ropens_n l D cI cB cZ zz qq vv bt g ad cn In Fn o s.heap.size hB (by omega) (by omega) (by omega) (by omega) (by omega) ho) kV_RX5_85 hK hXS hS hFc hP hD 3 xo_3 rfl rfl ⟨(by show 1 + 1 ≤ d + 1; omega), (by show 8 + (2 + 11) + 40 * 1 ≤ 40 * (d + 1); omega)⟩ ⟨Nat.le_of_ble_eq_true rfl, Nat.le_of_ble_eq_true rfl⟩ rfl hl.1 rfl (Nat.le_of_ble_eq_true rfl) dX5_readPiece_48) hS (fun q _ h => hFc q h) hFc (fun r_13 u t H1 locs ht hvm wh_14 hB1 hz1 hk1 hS => ?_)
      obtain ⟨cn14, In14, Fn14⟩ := u
      obtain ⟨hP1, hD1⟩ := hB1
      rw [ht] at hP1
      have hP : va_P D vwCl (wX cI (D.1 99) zz g ad cn14 In14 Fn14) H1 := hP1
      have hD : va_D A (wX cI (D.1 99) zz g ad cn14 In14 Fn14) := hD1.weaken (fun _ _ _ h => hFc _ h)
      generalize H1 = H at hP hS ⊢
      have vh_14 : (fun r c2 I2 F2 => Fr [31, 32] [33] [] cn In Fn c2 I2 F2 ∧ CBX c2 ∧ (((cn 31) ≤ c2 31 ∧ c2 31 ≤ c2 32 ∧ c2 32 ≤ (cn 32)) ∧ r = 0)) r_13 cn14 In14 Fn14 := wh_14
      obtain ⟨hfc14, hIn14, h_14⟩ := vh_14
      obtain rfl : Fn = Fn14 := (funext (fun k => hfc14.2.2 k List.not_mem_nil)).symm
      have hf14 : Fr [31, 32] [33] [195, 301] cn In Fn cn14 In14 Fn := Fr.mo (Fr.tr (Fr.rf (cn := cn) (In := In) (Fn := Fn)) hfc14) (sbl rfl) (sbl rfl) (sbl rfl)
      replace hIn14 : CBXh cn14 := hIn14
      have : cn14 6 = (cn 6) := hfc14.1 6 (nml rfl)
      obtain ⟨h_14, rfl⟩ := h_14
      refine lv_if_eq (tgt := 95) hx hb dX5_readPiece_51 rfl (fun _ => ?_) (fun h => absurd h cq_eq_0_0)
      exact W.vret hx hb hr (fun t ht hW => ⟨⟨(cn14, In14, Fn), rfl, ⟨(Fr.mo hf14 (sbl rfl) (sbl rfl) (sbl rfl)), hIn14, (by show cn 31 ≤ cn14 31 ∧ cn14 31 ≤ cn14 32 ∧ cn14 32 ≤ cn 32; show cn 31 ≤ (cn14 31) ∧ (cn14 31) ≤ (cn14 32) ∧ (cn14 32) ≤ cn 32; omega)⟩, by rw [ht]; exact hP, hD⟩, hS.F ht⟩) hS.2.2 dX5_readPiece_95
  ·
    have tc_3 : (r_1.toInt : Int) = 33 := congrArg Int32.toInt c_3
    refine lv_aload_n hx hb dX5_readPiece_11 rfl (lvA1 hl) ?_
    refine lv_iload_n hx hb dX5_readPiece_12 rfl (lvA2 hl) ?_
    have hFc := free_all hD hS hA
    refine va_calli (runV_xa (As := [.int o]) (rest := []) S (q_Ropens_n l D cI cB cZ zz qq vv bt g ad cn In Fn o s.heap.size hB (by omega) (by omega) (by omega) (by omega) (by omega) ho) kV_RX5_85 hK hXS hS hFc hP hD 3 xo_3 rfl rfl ⟨(by show 1 + 1 ≤ d + 1; omega), (by show 8 + (2 + 11) + 40 * 1 ≤ 40 * (d + 1); omega)⟩ ⟨Nat.le_of_ble_eq_true rfl, Nat.le_of_ble_eq_true rfl⟩ rfl hl.1 rfl (Nat.le_of_ble_eq_true rfl) dX5_readPiece_13) hS (fun q _ h => hFc q h) hFc (fun r_15 u t H1 locs ht hvm wh_16 hB1 hz1 hk1 hS => ?_)
    obtain ⟨cn16, In16, Fn16⟩ := u
    obtain ⟨hP1, hD1⟩ := hB1
    rw [ht] at hP1
    have hP : va_P D vwCl (wX cI (D.1 99) zz g ad cn16 In16 Fn16) H1 := hP1
    have hD : va_D A (wX cI (D.1 99) zz g ad cn16 In16 Fn16) := hD1.weaken (fun _ _ _ h => hFc _ h)
    generalize H1 = H at hP hS ⊢
    have vh_16 : (fun r c2 I2 F2 => Fr [31, 32] [33] [] cn In Fn c2 I2 F2 ∧ CBX c2 ∧ (((cn 31) ≤ c2 31 ∧ c2 31 ≤ c2 32 ∧ c2 32 ≤ (cn 32)) ∧ r = 0)) r_15 cn16 In16 Fn16 := wh_16
    obtain ⟨hfc16, hIn16, h_16⟩ := vh_16
    obtain rfl : Fn = Fn16 := (funext (fun k => hfc16.2.2 k List.not_mem_nil)).symm
    have hf16 : Fr [31, 32] [33] [195, 301] cn In Fn cn16 In16 Fn := Fr.mo (Fr.tr (Fr.rf (cn := cn) (In := In) (Fn := Fn)) hfc16) (sbl rfl) (sbl rfl) (sbl rfl)
    replace hIn16 : CBXh cn16 := hIn16
    have : cn16 6 = (cn 6) := hfc16.1 6 (nml rfl)
    obtain ⟨h_16, rfl⟩ := h_16
    refine lv_if_eq (tgt := 95) hx hb dX5_readPiece_16 rfl (fun _ => ?_) (fun h => absurd h cq_eq_0_0)
    exact W.vret hx hb hr (fun t ht hW => ⟨⟨(cn16, In16, Fn), rfl, ⟨(Fr.mo hf16 (sbl rfl) (sbl rfl) (sbl rfl)), hIn16, (by show cn 31 ≤ cn16 31 ∧ cn16 31 ≤ cn16 32 ∧ cn16 32 ≤ cn 32; show cn 31 ≤ (cn16 31) ∧ (cn16 31) ≤ (cn16 32) ∧ (cn16 32) ≤ cn 32; omega)⟩, by rw [ht]; exact hP, hD⟩, hS.F ht⟩) hS.2.2 dX5_readPiece_95
set_option maxRecDepth 100000 in
set_option maxHeartbeats 4000000 in
theorem gq_GreadPiece (l : Launch) (D : va_G) (cI cB cZ : ClassId) (zz qq vv : Nat) (bt : Nat → Int32) (g : Nat → Nat) (o : Int32) (d de df : Nat) (ho : o.toInt < 6) (hd : 4 ≤ d ∧ d ≤ 60 ∧ de ≤ d ∧ df ≤ d) (hSq : RDQ yX5_readSum cX5_readSum 3 l D cI cB cZ zz qq vv bt g o d) (hP9 : RDQ yX5_readPiece cX5_readPiece 4 l D cI cB cZ zz qq vv bt g (o + 1) de) (hC9 : RDQ yX5_readCondition cX5_readCondition 3 l D cI cB cZ zz qq vv bt g (o + 1) df) : RDQ yX5_readPiece cX5_readPiece 4 l D cI cB cZ zz qq vv bt g o (d + 1) := by
  intro ad cn In Fn sz hB hR h1 h3 h4 h9
  refine Met.ofW (cc := cX5_readPiece) (maxL := 4) (ret := none) (by decide) rfl ?_
  intro p e s m args below meth c s₁ B hml hv
  obtain ⟨rfl, hsz, hP, hK, hD0, hXS⟩ := hv
  have hx := B.exec
  have hb := B.bytes
  have hr := B.returns
  have hts := atoms_spec (ws := (CWS yX5_readPiece cX5_readPiece 4 none)) B.pre
  have hown : s.vm.findClass RX5 = some m.cls := findClass_of_methodNamed B.named
  have hlocks := B.notSynchronized
  have S : SF p m c cX5_readPiece 4 s ([.ref (g 6), .int o]).toArray RX5 := ⟨hx, hb, hml, hown, fun w h => hts w (List.mem_cons_of_mem _ h)⟩
  subst hsz
  have hD := hD0.self (sz := s.heap.size)
  generalize hAe : va_A (wX cI (D.1 99) zz g ad cn In Fn) s.heap.size = A at hD hXS ⊢
  have hA : ∀ q : Nat, s.heap.size ≤ q → A q := fun q h => by rw [← hAe]; exact Or.inr h
  have hS : va_S A s.heap s.heap [] := va_S.rf
  have hl := lv_entry ([.ref (g 6), .int o]) (n := 4) (Nat.le_of_ble_eq_true rfl)
  rw [lg_entry_eq]
  generalize (lg_sl ([.ref (g 6), .int o]) ++ List.replicate (4 - (lg_sl ([.ref (g 6), .int o])).length) Slot.unset).toArray = ls at hl ⊢
  have hl : lv_has ls 4 [(0, .ref (g 6)), (1, .int o)] := hl
  replace hB : CBXh cn := hB
  refine lv_aload_n hx hb dX5_readPiece_0 rfl (lvA0 hl) ?_
  refine vp_callSi (runV_rxa (As := []) (rest := []) S (q_Rpeek l D cI cB cZ zz qq vv bt g ad cn In Fn  hB (by omega) (by omega) (by omega) (by omega)) kV_RX5_43 hK hXS hS hP 3 xo_3 rfl rfl ⟨(by show 0 + 1 ≤ d + 1; omega), (by show 8 + (1 + 11) + 40 * 0 ≤ 40 * (d + 1); omega)⟩ ⟨Nat.le_of_ble_eq_true rfl, Nat.le_of_ble_eq_true rfl⟩ rfl hl.1 rfl (Nat.le_of_ble_eq_true rfl) dX5_readPiece_1) (fun r_1 h_2 => ?_)
  refine lv_istore_n (lv' := [(2, .int r_1), (0, .ref (g 6)), (1, .int o)]) hx hb dX5_readPiece_4 rfl hl (ltb rfl) rfl (fun ls hl => ?_)
  refine lv_iload_n hx hb dX5_readPiece_5 rfl (lvA0 hl) ?_
  refine lv_bipush (v := 33) hx hb dX5_readPiece_6 kbc_33 ?_
  refine lv_icmp_ne (tgt := 40) hx hb dX5_readPiece_8 rfl (fun c_3 => ?_) (fun c_3 => ?_)
  ·
    have tc_3 : (r_1.toInt : Int) ≠ 33 := fun q => c_3 (Int32.toInt_inj.mp q)
    refine lv_iload_n hx hb dX5_readPiece_40 rfl (lvA0 hl) ?_
    refine lv_bipush (v := 40) hx hb dX5_readPiece_41 kbc_40 ?_
    refine lv_icmp_ne (tgt := 70) hx hb dX5_readPiece_43 rfl (fun c_4 => ?_) (fun c_4 => ?_)
    ·
      have tc_4 : (r_1.toInt : Int) ≠ 40 := fun q => c_4 (Int32.toInt_inj.mp q)
      refine lv_aload_n hx hb dX5_readPiece_70 rfl (lvA1 hl) ?_
      refine lv_iload_n hx hb dX5_readPiece_71 rfl (lvA2 hl) ?_
      have hFc := free_all hD hS hA
      refine va_callv (runV_xa (As := [.int o]) (rest := []) S (hSq ad cn In Fn s.heap.size hB (by omega) (by omega) (by omega) (by omega) h9) kV_RX5_56 hK hXS hS hFc hP hD 3 xo_3 rfl rfl ⟨(by show d + 1 ≤ d + 1; omega), (by show 8 + (3 + 11) + 40 * d ≤ 40 * (d + 1); omega)⟩ ⟨Nat.le_of_ble_eq_true rfl, Nat.le_of_ble_eq_true rfl⟩ rfl hl.1 rfl (Nat.le_of_ble_eq_true rfl) dX5_readPiece_72) hS (fun q _ h => hFc q h) hFc (fun u t H1 locs ht hvm wh_6 hB1 hz1 hk1 hS => ?_)
      obtain ⟨cn6, In6, Fn6⟩ := u
      obtain ⟨hP1, hD1⟩ := hB1
      rw [ht] at hP1
      have hP : va_P D vwCl (wX cI (D.1 99) zz g ad cn6 In6 Fn6) H1 := hP1
      have hD : va_D A (wX cI (D.1 99) zz g ad cn6 In6 Fn6) := hD1.weaken (fun _ _ _ h => hFc _ h)
      generalize H1 = H at hP hS ⊢
      have vh_6 : (fun c2 I2 F2 => Fr [31, 32] [33] [195, 301] cn In Fn c2 I2 F2 ∧ CBX c2 ∧ ((cn 31) ≤ c2 31 ∧ c2 31 ≤ c2 32 ∧ c2 32 ≤ (cn 32))) cn6 In6 Fn6 := wh_6
      obtain ⟨hfc6, hIn6, h_6⟩ := vh_6
      have hf6 : Fr [31, 32] [33] [195, 301] cn In Fn cn6 In6 Fn6 := Fr.mo (Fr.tr (Fr.rf (cn := cn) (In := In) (Fn := Fn)) hfc6) (sbl rfl) (sbl rfl) (sbl rfl)
      replace hIn6 : CBXh cn6 := hIn6
      have : cn6 6 = (cn 6) := hfc6.1 6 (nml rfl)
      refine lv_aload_n hx hb dX5_readPiece_75 rfl (lvA1 hl) ?_
      have hFc := free_all hD hS hA
      refine va_calli (runV_xa (As := []) (rest := []) S (q_RreadRelation l D cI cB cZ zz qq vv bt g ad cn6 In6 Fn6  H.size hIn6 (by omega) (by omega) (by omega) (by omega)) kV_RX5_89 hK hXS hS hFc hP hD 3 xo_3 rfl rfl ⟨(by show 1 + 1 ≤ d + 1; omega), (by show 8 + (2 + 11) + 40 * 1 ≤ 40 * (d + 1); omega)⟩ ⟨Nat.le_of_ble_eq_true rfl, Nat.le_of_ble_eq_true rfl⟩ rfl hl.1 rfl (Nat.le_of_ble_eq_true rfl) dX5_readPiece_76) hS (fun q _ h => hFc q h) hFc (fun r_7 u t H1 locs ht hvm wh_8 hB1 hz1 hk1 hS => ?_)
      obtain ⟨cn8, In8, Fn8⟩ := u
      obtain ⟨hP1, hD1⟩ := hB1
      rw [ht] at hP1
      have hP : va_P D vwCl (wX cI (D.1 99) zz g ad cn8 In8 Fn8) H1 := hP1
      have hD : va_D A (wX cI (D.1 99) zz g ad cn8 In8 Fn8) := hD1.weaken (fun _ _ _ h => hFc _ h)
      generalize H1 = H at hP hS ⊢
      have vh_8 : (fun r c2 I2 F2 => Fr [31, 32] [33] [] cn6 In6 Fn6 c2 I2 F2 ∧ CBX c2 ∧ ((cn6 31) ≤ c2 31 ∧ c2 31 ≤ c2 32 ∧ c2 32 ≤ (cn6 32))) r_7 cn8 In8 Fn8 := wh_8
      obtain ⟨hfc8, hIn8, h_8⟩ := vh_8
      obtain rfl : Fn6 = Fn8 := (funext (fun k => hfc8.2.2 k List.not_mem_nil)).symm
      have hf8 : Fr [31, 32] [33] [195, 301] cn In Fn cn8 In8 Fn6 := Fr.mo (Fr.tr hf6 hfc8) (sbl rfl) (sbl rfl) (sbl rfl)
      replace hIn8 : CBXh cn8 := hIn8
      have : cn8 6 = (cn6 6) := hfc8.1 6 (nml rfl)
      refine lv_istore_n (lv' := [(3, .int r_7), (2, .int r_1), (0, .ref (g 6)), (1, .int o)]) hx hb dX5_readPiece_79 rfl hl (ltb rfl) rfl (fun ls hl => ?_)
      refine lv_aload_n hx hb dX5_readPiece_80 rfl (lvA2 hl) ?_
      refine lv_iload_n hx hb dX5_readPiece_81 rfl (lvA3 hl) ?_
      have hFc := free_all hD hS hA
      refine va_callv (runV_xa (As := [.int o]) (rest := []) S (hSq ad cn8 In8 Fn6 H.size hIn8 (by omega) (by omega) (by omega) (by omega) (by rw [hf8.2.2 199 (nml rfl)]; exact h9)) kV_RX5_56 hK hXS hS hFc hP hD 3 xo_3 rfl rfl ⟨(by show d + 1 ≤ d + 1; omega), (by show 8 + (3 + 11) + 40 * d ≤ 40 * (d + 1); omega)⟩ ⟨Nat.le_of_ble_eq_true rfl, Nat.le_of_ble_eq_true rfl⟩ rfl hl.1 rfl (Nat.le_of_ble_eq_true rfl) dX5_readPiece_82) hS (fun q _ h => hFc q h) hFc (fun u t H1 locs ht hvm wh_10 hB1 hz1 hk1 hS => ?_)
      obtain ⟨cn10, In10, Fn10⟩ := u
      obtain ⟨hP1, hD1⟩ := hB1
      rw [ht] at hP1
      have hP : va_P D vwCl (wX cI (D.1 99) zz g ad cn10 In10 Fn10) H1 := hP1
      have hD : va_D A (wX cI (D.1 99) zz g ad cn10 In10 Fn10) := hD1.weaken (fun _ _ _ h => hFc _ h)
      generalize H1 = H at hP hS ⊢
      have vh_10 : (fun c2 I2 F2 => Fr [31, 32] [33] [195, 301] cn8 In8 Fn6 c2 I2 F2 ∧ CBX c2 ∧ ((cn8 31) ≤ c2 31 ∧ c2 31 ≤ c2 32 ∧ c2 32 ≤ (cn8 32))) cn10 In10 Fn10 := wh_10
      obtain ⟨hfc10, hIn10, h_10⟩ := vh_10
      have hf10 : Fr [31, 32] [33] [195, 301] cn In Fn cn10 In10 Fn10 := Fr.mo (Fr.tr hf8 hfc10) (sbl rfl) (sbl rfl) (sbl rfl)
      replace hIn10 : CBXh cn10 := hIn10
      have : cn10 6 = (cn8 6) := hfc10.1 6 (nml rfl)
      refine lv_aload_n hx hb dX5_readPiece_85 rfl (lvA2 hl) ?_
      refine gf_RX5_20 S hK hP 3 xo_3 (v := .ref (ad 5 (ad 4 1))) rfl dX5_readPiece_86 ?_
      refine lv_iload_n hx hb dX5_readPiece_89 rfl (lvA0 hl) ?_
      refine lv_iconst (v := 0) hx hb dX5_readPiece_90 kic_0 ?_
      have hFc := free_all hD hS hA
      refine va_calli (runV_xa (As := [.int r_7, .int 0]) (rest := []) S (q_Tadd l D cI cB cZ zz qq vv bt g ad cn10 In10 Fn10 (ad 4 1) r_7 0 H.size hIn10 (by omega) (by rw [hf10.2.2 199 (nml rfl)]; exact h9)) kV_RX5_75 hK hXS hS hFc hP hD _ (xf_7 (show (ad 4 1) < (cn10 6) by omega)) rfl rfl ⟨(by show 0 + 1 ≤ d + 1; omega), (by show 8 + (3 + 11) + 40 * 0 ≤ 40 * (d + 1); omega)⟩ ⟨Nat.le_of_ble_eq_true rfl, Nat.le_of_ble_eq_true rfl⟩ rfl hl.1 rfl (Nat.le_of_ble_eq_true rfl) dX5_readPiece_91) hS (fun q _ h => hFc q h) hFc (fun r_11 u t H1 locs ht hvm wh_12 hB1 hz1 hk1 hS => ?_)
      obtain ⟨cn12, In12, Fn12⟩ := u
      obtain ⟨hP1, hD1⟩ := hB1
      rw [ht] at hP1
      have hP : va_P D vwCl (wX cI (D.1 99) zz g ad cn12 In12 Fn12) H1 := hP1
      have hD : va_D A (wX cI (D.1 99) zz g ad cn12 In12 Fn12) := hD1.weaken (fun _ _ _ h => hFc _ h)
      generalize H1 = H at hP hS ⊢
      have vh_12 : (fun r c2 I2 F2 => Fr [] [] [195, 301] cn10 In10 Fn10 c2 I2 F2 ∧ CBX c2 ∧ (True)) r_11 cn12 In12 Fn12 := wh_12
      obtain ⟨hfc12, hIn12, h_12⟩ := vh_12
      obtain rfl : cn10 = cn12 := (funext (fun k => hfc12.1 k List.not_mem_nil)).symm
      obtain rfl : In10 = In12 := (funext (fun k => hfc12.2.1 k List.not_mem_nil)).symm
      have hf12 : Fr [31, 32] [33] [195, 301] cn In Fn cn10 In10 Fn12 := Fr.mo (Fr.tr hf10 hfc12) (sbl rfl) (sbl rfl) (sbl rfl)
      replace hIn12 : CBXh cn10 := hIn12
      refine lv_pop hx hb dX5_readPiece_94 rfl ?_
      exact W.vret hx hb hr (fun t ht hW => ⟨⟨(cn10, In10, Fn12), rfl, ⟨(Fr.mo hf12 (sbl rfl) (sbl rfl) (sbl rfl)), hIn12, (by show cn 31 ≤ cn10 31 ∧ cn10 31 ≤ cn10 32 ∧ cn10 32 ≤ cn 32; show cn 31 ≤ (cn10 31) ∧ (cn10 31) ≤ (cn10 32) ∧ (cn10 32) ≤ cn 32; omega)⟩, by rw [ht]; exact hP, hD⟩, hS.F ht⟩) hS.2.2 dX5_readPiece_95
    ·
      have tc_4 : (r_1.toInt : Int) = 40 := congrArg Int32.toInt c_4
      refine lv_aload_n hx hb dX5_readPiece_46 rfl (lvA1 hl) ?_
      refine lv_iload_n hx hb dX5_readPiece_47 rfl (lvA2 hl) ?_
      have hFc := free_all hD hS hA
      refine va_calli (runV_xa (As := [.int o]) (rest := []) S (q_Ropens_y l D cI cB cZ zz qq vv bt g ad cn In Fn o s.heap.size hB (by omega) (by omega) (by omega) (by omega) (by omega) ho) kV_RX5_85 hK hXS hS hFc hP hD 3 xo_3 rfl rfl ⟨(by show 1 + 1 ≤ d + 1; omega), (by show 8 + (2 + 11) + 40 * 1 ≤ 40 * (d + 1); omega)⟩ ⟨Nat.le_of_ble_eq_true rfl, Nat.le_of_ble_eq_true rfl⟩ rfl hl.1 rfl (Nat.le_of_ble_eq_true rfl) dX5_readPiece_48) hS (fun q _ h => hFc q h) hFc (fun r_13 u t H1 locs ht hvm wh_14 hB1 hz1 hk1 hS => ?_)
      obtain ⟨cn14, In14, Fn14⟩ := u
      obtain ⟨hP1, hD1⟩ := hB1
      rw [ht] at hP1
      have hP : va_P D vwCl (wX cI (D.1 99) zz g ad cn14 In14 Fn14) H1 := hP1
      have hD : va_D A (wX cI (D.1 99) zz g ad cn14 In14 Fn14) := hD1.weaken (fun _ _ _ h => hFc _ h)
      generalize H1 = H at hP hS ⊢
      have vh_14 : (fun r c2 I2 F2 => Fr [31, 32] [33] [] cn In Fn c2 I2 F2 ∧ CBX c2 ∧ (((cn 31) ≤ c2 31 ∧ c2 31 ≤ c2 32 ∧ c2 32 ≤ (cn 32)) ∧ r = 1)) r_13 cn14 In14 Fn14 := wh_14
      obtain ⟨hfc14, hIn14, h_14⟩ := vh_14
      obtain rfl : Fn = Fn14 := (funext (fun k => hfc14.2.2 k List.not_mem_nil)).symm
      have hf14 : Fr [31, 32] [33] [195, 301] cn In Fn cn14 In14 Fn := Fr.mo (Fr.tr (Fr.rf (cn := cn) (In := In) (Fn := Fn)) hfc14) (sbl rfl) (sbl rfl) (sbl rfl)
      replace hIn14 : CBXh cn14 := hIn14
      have : cn14 6 = (cn 6) := hfc14.1 6 (nml rfl)
      obtain ⟨h_14, rfl⟩ := h_14
      refine lv_if_eq (tgt := 95) hx hb dX5_readPiece_51 rfl (fun h => absurd h cq_eq_1_0) (fun _ => ?_)
      refine lv_aload_n hx hb (oc_42 54 (aq_3 shX5_readPiece_51)) rfl (lvA1 hl) ?_
      refine lv_iload_n hx hb (oc_27 55 (aq_4 shX5_readPiece_51)) rfl (lvA2 hl) ?_
      refine lv_iconst (v := 1) hx hb (oc_4 56 (aq_5 shX5_readPiece_51)) kic_1 ?_
      refine lv_iadd hx hb (oc_96 57 (aq_6 shX5_readPiece_51)) ?_
      have hFc := free_all hD hS hA
      refine va_callv (runV_xa (As := [.int (o + 1)]) (rest := []) S (hC9 ad cn14 In14 Fn H.size hIn14 (by omega) (by omega) (by omega) (by omega) (by rw [hf14.2.2 199 (nml rfl)]; exact h9)) kV_RX5_66 hK hXS hS hFc hP hD 3 xo_3 rfl rfl ⟨(by show df + 1 ≤ d + 1; omega), (by show 8 + (3 + 11) + 40 * df ≤ 40 * (d + 1); omega)⟩ ⟨Nat.le_of_ble_eq_true rfl, Nat.le_of_ble_eq_true rfl⟩ rfl hl.1 rfl (Nat.le_of_ble_eq_true rfl) (oc_182 58 (aq_7 shX5_readPiece_51) uw_0_66)) hS (fun q _ h => hFc q h) hFc (fun u t H1 locs ht hvm wh_16 hB1 hz1 hk1 hS => ?_)
      obtain ⟨cn16, In16, Fn16⟩ := u
      obtain ⟨hP1, hD1⟩ := hB1
      rw [ht] at hP1
      have hP : va_P D vwCl (wX cI (D.1 99) zz g ad cn16 In16 Fn16) H1 := hP1
      have hD : va_D A (wX cI (D.1 99) zz g ad cn16 In16 Fn16) := hD1.weaken (fun _ _ _ h => hFc _ h)
      generalize H1 = H at hP hS ⊢
      have vh_16 : (fun c2 I2 F2 => Fr [31, 32] [33] [195, 301] cn14 In14 Fn c2 I2 F2 ∧ CBX c2 ∧ ((cn14 31) ≤ c2 31 ∧ c2 31 ≤ c2 32 ∧ c2 32 ≤ (cn14 32))) cn16 In16 Fn16 := wh_16
      obtain ⟨hfc16, hIn16, h_16⟩ := vh_16
      have hf16 : Fr [31, 32] [33] [195, 301] cn In Fn cn16 In16 Fn16 := Fr.mo (Fr.tr hf14 hfc16) (sbl rfl) (sbl rfl) (sbl rfl)
      replace hIn16 : CBXh cn16 := hIn16
      have : cn16 6 = (cn14 6) := hfc16.1 6 (nml rfl)
      refine lv_aload_n hx hb (oc_42 61 (aq_10 shX5_readPiece_51)) rfl (lvA1 hl) ?_
      refine lv_bipush (v := 41) hx hb (oc_16 62 (aq_11 shX5_readPiece_51) sgb_41) kbc_41 ?_
      have hFc := free_all hD hS hA
      refine va_callv (runV_xa (As := [.int 41]) (rest := []) S (q_Rtake l D cI cB cZ zz qq vv bt g ad cn16 In16 Fn16 41 H.size hIn16 (by omega) (by omega) (by omega) (by omega) (by decide)) kV_RX5_62 hK hXS hS hFc hP hD 3 xo_3 rfl rfl ⟨(by show 1 + 1 ≤ d + 1; omega), (by show 8 + (2 + 11) + 40 * 1 ≤ 40 * (d + 1); omega)⟩ ⟨Nat.le_of_ble_eq_true rfl, Nat.le_of_ble_eq_true rfl⟩ rfl hl.1 rfl (Nat.le_of_ble_eq_true rfl) (oc_182 64 (aq_13 shX5_readPiece_51) uw_0_62)) hS (fun q _ h => hFc q h) hFc (fun u t H1 locs ht hvm wh_18 hB1 hz1 hk1 hS => ?_)
      obtain ⟨cn18, In18, Fn18⟩ := u
      obtain ⟨hP1, hD1⟩ := hB1
      rw [ht] at hP1
      have hP : va_P D vwCl (wX cI (D.1 99) zz g ad cn18 In18 Fn18) H1 := hP1
      have hD : va_D A (wX cI (D.1 99) zz g ad cn18 In18 Fn18) := hD1.weaken (fun _ _ _ h => hFc _ h)
      generalize H1 = H at hP hS ⊢
      have vh_18 : (fun c2 I2 F2 => Fr [31, 32] [33] [] cn16 In16 Fn16 c2 I2 F2 ∧ CBX c2 ∧ ((cn16 31) ≤ c2 31 ∧ c2 31 ≤ c2 32 ∧ c2 32 ≤ (cn16 32))) cn18 In18 Fn18 := wh_18
      obtain ⟨hfc18, hIn18, h_18⟩ := vh_18
      obtain rfl : Fn16 = Fn18 := (funext (fun k => hfc18.2.2 k List.not_mem_nil)).symm
      have hf18 : Fr [31, 32] [33] [195, 301] cn In Fn cn18 In18 Fn16 := Fr.mo (Fr.tr hf16 hfc18) (sbl rfl) (sbl rfl) (sbl rfl)
      replace hIn18 : CBXh cn18 := hIn18
      have : cn18 6 = (cn16 6) := hfc18.1 6 (nml rfl)
      refine lv_goto (tgt := 95) hx hb (oc_167 67 (aq_16 shX5_readPiece_51) sgw_0_28) rfl ?_
      exact W.vret hx hb hr (fun t ht hW => ⟨⟨(cn18, In18, Fn16), rfl, ⟨(Fr.mo hf18 (sbl rfl) (sbl rfl) (sbl rfl)), hIn18, (by show cn 31 ≤ cn18 31 ∧ cn18 31 ≤ cn18 32 ∧ cn18 32 ≤ cn 32; show cn 31 ≤ (cn18 31) ∧ (cn18 31) ≤ (cn18 32) ∧ (cn18 32) ≤ cn 32; omega)⟩, by rw [ht]; exact hP, hD⟩, hS.F ht⟩) hS.2.2 dX5_readPiece_95
  ·
    have tc_3 : (r_1.toInt : Int) = 33 := congrArg Int32.toInt c_3
    refine lv_aload_n hx hb dX5_readPiece_11 rfl (lvA1 hl) ?_
    refine lv_iload_n hx hb dX5_readPiece_12 rfl (lvA2 hl) ?_
    have hFc := free_all hD hS hA
    refine va_calli (runV_xa (As := [.int o]) (rest := []) S (q_Ropens_y l D cI cB cZ zz qq vv bt g ad cn In Fn o s.heap.size hB (by omega) (by omega) (by omega) (by omega) (by omega) ho) kV_RX5_85 hK hXS hS hFc hP hD 3 xo_3 rfl rfl ⟨(by show 1 + 1 ≤ d + 1; omega), (by show 8 + (2 + 11) + 40 * 1 ≤ 40 * (d + 1); omega)⟩ ⟨Nat.le_of_ble_eq_true rfl, Nat.le_of_ble_eq_true rfl⟩ rfl hl.1 rfl (Nat.le_of_ble_eq_true rfl) dX5_readPiece_13) hS (fun q _ h => hFc q h) hFc (fun r_19 u t H1 locs ht hvm wh_20 hB1 hz1 hk1 hS => ?_)
    obtain ⟨cn20, In20, Fn20⟩ := u
    obtain ⟨hP1, hD1⟩ := hB1
    rw [ht] at hP1
    have hP : va_P D vwCl (wX cI (D.1 99) zz g ad cn20 In20 Fn20) H1 := hP1
    have hD : va_D A (wX cI (D.1 99) zz g ad cn20 In20 Fn20) := hD1.weaken (fun _ _ _ h => hFc _ h)
    generalize H1 = H at hP hS ⊢
    have vh_20 : (fun r c2 I2 F2 => Fr [31, 32] [33] [] cn In Fn c2 I2 F2 ∧ CBX c2 ∧ (((cn 31) ≤ c2 31 ∧ c2 31 ≤ c2 32 ∧ c2 32 ≤ (cn 32)) ∧ r = 1)) r_19 cn20 In20 Fn20 := wh_20
    obtain ⟨hfc20, hIn20, h_20⟩ := vh_20
    obtain rfl : Fn = Fn20 := (funext (fun k => hfc20.2.2 k List.not_mem_nil)).symm
    have hf20 : Fr [31, 32] [33] [195, 301] cn In Fn cn20 In20 Fn := Fr.mo (Fr.tr (Fr.rf (cn := cn) (In := In) (Fn := Fn)) hfc20) (sbl rfl) (sbl rfl) (sbl rfl)
    replace hIn20 : CBXh cn20 := hIn20
    have : cn20 6 = (cn 6) := hfc20.1 6 (nml rfl)
    obtain ⟨h_20, rfl⟩ := h_20
    refine lv_if_eq (tgt := 95) hx hb dX5_readPiece_16 rfl (fun h => absurd h cq_eq_1_0) (fun _ => ?_)
    refine lv_aload_n hx hb (oc_42 19 (aq_19 shX5_readPiece_0)) rfl (lvA1 hl) ?_
    refine lv_iload_n hx hb (oc_27 20 (aq_20 shX5_readPiece_0)) rfl (lvA2 hl) ?_
    refine lv_iconst (v := 1) hx hb (oc_4 21 (aq_21 shX5_readPiece_0)) kic_1 ?_
    refine lv_iadd hx hb (oc_96 22 (aq_22 shX5_readPiece_0)) ?_
    have hFc := free_all hD hS hA
    refine va_callv (runV_xa (As := [.int (o + 1)]) (rest := []) S (hP9 ad cn20 In20 Fn H.size hIn20 (by omega) (by omega) (by omega) (by omega) (by rw [hf20.2.2 199 (nml rfl)]; exact h9)) kV_RX5_82 hK hXS hS hFc hP hD 3 xo_3 rfl rfl ⟨(by show de + 1 ≤ d + 1; omega), (by show 8 + (4 + 11) + 40 * de ≤ 40 * (d + 1); omega)⟩ ⟨Nat.le_of_ble_eq_true rfl, Nat.le_of_ble_eq_true rfl⟩ rfl hl.1 rfl (Nat.le_of_ble_eq_true rfl) (oc_182 23 (aq_23 shX5_readPiece_0) uw_0_82)) hS (fun q _ h => hFc q h) hFc (fun u t H1 locs ht hvm wh_22 hB1 hz1 hk1 hS => ?_)
    obtain ⟨cn22, In22, Fn22⟩ := u
    obtain ⟨hP1, hD1⟩ := hB1
    rw [ht] at hP1
    have hP : va_P D vwCl (wX cI (D.1 99) zz g ad cn22 In22 Fn22) H1 := hP1
    have hD : va_D A (wX cI (D.1 99) zz g ad cn22 In22 Fn22) := hD1.weaken (fun _ _ _ h => hFc _ h)
    generalize H1 = H at hP hS ⊢
    have vh_22 : (fun c2 I2 F2 => Fr [31, 32] [33] [195, 301] cn20 In20 Fn c2 I2 F2 ∧ CBX c2 ∧ ((cn20 31) ≤ c2 31 ∧ c2 31 ≤ c2 32 ∧ c2 32 ≤ (cn20 32))) cn22 In22 Fn22 := wh_22
    obtain ⟨hfc22, hIn22, h_22⟩ := vh_22
    have hf22 : Fr [31, 32] [33] [195, 301] cn In Fn cn22 In22 Fn22 := Fr.mo (Fr.tr hf20 hfc22) (sbl rfl) (sbl rfl) (sbl rfl)
    replace hIn22 : CBXh cn22 := hIn22
    have : cn22 6 = (cn20 6) := hfc22.1 6 (nml rfl)
    refine lv_aload_n hx hb (oc_42 26 shX5_readPiece_26) rfl (lvA1 hl) ?_
    refine gf_RX5_20 S hK hP 3 xo_3 (v := .ref (ad 5 (ad 4 1))) rfl (oc_180 27 (aq_1 shX5_readPiece_26) uw_0_20) ?_
    refine lv_bipush (v := 11) hx hb (oc_16 30 (aq_4 shX5_readPiece_26) sgb_11) kbc_11 ?_
    refine lv_iconst (v := 0) hx hb (oc_3 32 (aq_6 shX5_readPiece_26)) kic_0 ?_
    have hFc := free_all hD hS hA
    refine va_calli (runV_xa (As := [.int 11, .int 0]) (rest := []) S (q_Tadd l D cI cB cZ zz qq vv bt g ad cn22 In22 Fn22 (ad 4 1) 11 0 H.size hIn22 (by omega) (by rw [hf22.2.2 199 (nml rfl)]; exact h9)) kV_RX5_75 hK hXS hS hFc hP hD _ (xf_7 (show (ad 4 1) < (cn22 6) by omega)) rfl rfl ⟨(by show 0 + 1 ≤ d + 1; omega), (by show 8 + (3 + 11) + 40 * 0 ≤ 40 * (d + 1); omega)⟩ ⟨Nat.le_of_ble_eq_true rfl, Nat.le_of_ble_eq_true rfl⟩ rfl hl.1 rfl (Nat.le_of_ble_eq_true rfl) (oc_182 33 (aq_7 shX5_readPiece_26) uw_0_75)) hS (fun q _ h => hFc q h) hFc (fun r_23 u t H1 locs ht hvm wh_24 hB1 hz1 hk1 hS => ?_)
    obtain ⟨cn24, In24, Fn24⟩ := u
    obtain ⟨hP1, hD1⟩ := hB1
    rw [ht] at hP1
    have hP : va_P D vwCl (wX cI (D.1 99) zz g ad cn24 In24 Fn24) H1 := hP1
    have hD : va_D A (wX cI (D.1 99) zz g ad cn24 In24 Fn24) := hD1.weaken (fun _ _ _ h => hFc _ h)
    generalize H1 = H at hP hS ⊢
    have vh_24 : (fun r c2 I2 F2 => Fr [] [] [195, 301] cn22 In22 Fn22 c2 I2 F2 ∧ CBX c2 ∧ (True)) r_23 cn24 In24 Fn24 := wh_24
    obtain ⟨hfc24, hIn24, h_24⟩ := vh_24
    obtain rfl : cn22 = cn24 := (funext (fun k => hfc24.1 k List.not_mem_nil)).symm
    obtain rfl : In22 = In24 := (funext (fun k => hfc24.2.1 k List.not_mem_nil)).symm
    have hf24 : Fr [31, 32] [33] [195, 301] cn In Fn cn22 In22 Fn24 := Fr.mo (Fr.tr hf22 hfc24) (sbl rfl) (sbl rfl) (sbl rfl)
    replace hIn24 : CBXh cn22 := hIn24
    refine lv_pop hx hb (oc_87 36 (aq_10 shX5_readPiece_26)) rfl ?_
    refine lv_goto (tgt := 95) hx hb (oc_167 37 (aq_11 shX5_readPiece_26) sgw_0_58) rfl ?_
    exact W.vret hx hb hr (fun t ht hW => ⟨⟨(cn22, In22, Fn24), rfl, ⟨(Fr.mo hf24 (sbl rfl) (sbl rfl) (sbl rfl)), hIn24, (by show cn 31 ≤ cn22 31 ∧ cn22 31 ≤ cn22 32 ∧ cn22 32 ≤ cn 32; show cn 31 ≤ (cn22 31) ∧ (cn22 31) ≤ (cn22 32) ∧ (cn22 32) ≤ cn 32; omega)⟩, by rw [ht]; exact hP, hD⟩, hS.F ht⟩) hS.2.2 dX5_readPiece_95
set_option maxRecDepth 100000 in
set_option maxHeartbeats 4000000 in
theorem gq_GreadPart (l : Launch) (D : va_G) (cI cB cZ : ClassId) (zz qq vv : Nat) (bt : Nat → Int32) (g : Nat → Nat) (o : Int32) (d : Nat) (hd : 4 ≤ d ∧ d ≤ 60) (hSq : RDQ yX5_readPiece cX5_readPiece 4 l D cI cB cZ zz qq vv bt g o d) : RDQ yX5_readPart cX5_readPart 3 l D cI cB cZ zz qq vv bt g o (d + 1) := by
  intro ad cn In Fn sz hB hR h1 h3 h4 h9
  refine Met.ofW (cc := cX5_readPart) (maxL := 3) (ret := none) (by decide) rfl ?_
  intro p e s m args below meth c s₁ B hml hv
  obtain ⟨rfl, hsz, hP, hK, hD0, hXS⟩ := hv
  have hx := B.exec
  have hb := B.bytes
  have hr := B.returns
  have hts := atoms_spec (ws := (CWS yX5_readPart cX5_readPart 3 none)) B.pre
  have hown : s.vm.findClass RX5 = some m.cls := findClass_of_methodNamed B.named
  have hlocks := B.notSynchronized
  have S : SF p m c cX5_readPart 3 s ([.ref (g 6), .int o]).toArray RX5 := ⟨hx, hb, hml, hown, fun w h => hts w (List.mem_cons_of_mem _ h)⟩
  subst hsz
  have hD := hD0.self (sz := s.heap.size)
  generalize hAe : va_A (wX cI (D.1 99) zz g ad cn In Fn) s.heap.size = A at hD hXS ⊢
  have hA : ∀ q : Nat, s.heap.size ≤ q → A q := fun q h => by rw [← hAe]; exact Or.inr h
  have hS : va_S A s.heap s.heap [] := va_S.rf
  have hl := lv_entry ([.ref (g 6), .int o]) (n := 3) (Nat.le_of_ble_eq_true rfl)
  rw [lg_entry_eq]
  generalize (lg_sl ([.ref (g 6), .int o]) ++ List.replicate (3 - (lg_sl ([.ref (g 6), .int o])).length) Slot.unset).toArray = ls at hl ⊢
  have hl : lv_has ls 3 [(0, .ref (g 6)), (1, .int o)] := hl
  replace hB : CBXh cn := hB
  refine lv_aload_n hx hb (oc_42 0 shX5_readPart_0) rfl (lvA0 hl) ?_
  refine lv_iload_n hx hb (oc_27 1 (aq_1 shX5_readPart_0)) rfl (lvA1 hl) ?_
  have hFc := free_all hD hS hA
  refine va_callv (runV_xa (As := [.int o]) (rest := []) S (hSq ad cn In Fn s.heap.size hB (by omega) (by omega) (by omega) (by omega) h9) kV_RX5_82 hK hXS hS hFc hP hD 3 xo_3 rfl rfl ⟨(by show d + 1 ≤ d + 1; omega), (by show 8 + (4 + 11) + 40 * d ≤ 40 * (d + 1); omega)⟩ ⟨Nat.le_of_ble_eq_true rfl, Nat.le_of_ble_eq_true rfl⟩ rfl hl.1 rfl (Nat.le_of_ble_eq_true rfl) (oc_182 2 (aq_2 shX5_readPart_0) uw_0_82)) hS (fun q _ h => hFc q h) hFc (fun u t H1 locs ht hvm wh_2 hB1 hz1 hk1 hS => ?_)
  obtain ⟨cn2, In2, Fn2⟩ := u
  obtain ⟨hP1, hD1⟩ := hB1
  rw [ht] at hP1
  have hP : va_P D vwCl (wX cI (D.1 99) zz g ad cn2 In2 Fn2) H1 := hP1
  have hD : va_D A (wX cI (D.1 99) zz g ad cn2 In2 Fn2) := hD1.weaken (fun _ _ _ h => hFc _ h)
  generalize H1 = H at hP hS ⊢
  have vh_2 : (fun c2 I2 F2 => Fr [31, 32] [33] [195, 301] cn In Fn c2 I2 F2 ∧ CBX c2 ∧ ((cn 31) ≤ c2 31 ∧ c2 31 ≤ c2 32 ∧ c2 32 ≤ (cn 32))) cn2 In2 Fn2 := wh_2
  obtain ⟨hfc2, hIn2, h_2⟩ := vh_2
  have hf2 : Fr [31, 32] [33] [195, 301] cn In Fn cn2 In2 Fn2 := Fr.mo (Fr.tr (Fr.rf (cn := cn) (In := In) (Fn := Fn)) hfc2) (sbl rfl) (sbl rfl) (sbl rfl)
  replace hIn2 : CBXh cn2 := hIn2
  have : cn2 6 = (cn 6) := hfc2.1 6 (nml rfl)
  have lp_5 : ∀ (n : Nat)  (c5 : Nat → Nat) (I5 : Nat → Int32) (F5 : Nat → Nat → Int32) (H : Heap) (locs : List Loc) , c5 32 - c5 31 < n → (Fr [31, 32] [33] [195, 301] cn In Fn c5 I5 F5 ∧ CBX c5 ∧ (cn 31 ≤ c5 31 ∧ c5 31 ≤ c5 32 ∧ c5 32 ≤ cn 32)) → va_P D vwCl (wX cI (D.1 99) zz g ad c5 I5 F5) H → va_D A (wX cI (D.1 99) zz g ad c5 I5 F5) → va_S A s.heap H locs → ∀ ls : Array Slot, lv_has ls 3 [(0, .ref (g 6)), (1, .int o)] → W p l e (RM (d + 1) 0 0) s m ([.ref (g 6), .int o]).toArray below meth c H locs 0 0 (MQ below (va_Qv (fun (u : (Nat → Nat) × (Nat → Int32) × (Nat → Nat → Int32)) => (fun c2 I2 F2 => Fr [31, 32] [33] [195, 301] cn In Fn c2 I2 F2 ∧ CBX c2 ∧ (cn 31 ≤ c2 31 ∧ c2 31 ≤ c2 32 ∧ c2 32 ≤ cn 32)) u.1 u.2.1 u.2.2) (fun (u : (Nat → Nat) × (Nat → Int32) × (Nat → Nat → Int32)) (t : State) => va_P D vwCl (wX cI (D.1 99) zz g ad u.1 u.2.1 u.2.2) t.heap ∧ va_D A (wX cI (D.1 99) zz g ad u.1 u.2.1 u.2.2)) A) ([.ref (g 6), .int o]).toArray s 0 0 A) (F0 m 5 ls []) := by
    intro n5
    induction n5 with
    | zero => intros; omega
    | succ n5 ih5 =>
      intro  c5 I5 F5 H locs hmu5 hinv5 hP hD hS ls hl
      obtain ⟨hfr5, hI5, hx5_0⟩ := hinv5
      replace hI5 : CBXh c5 := hI5
      have : c5 6 = cn 6 := hfr5.1 6 (nml rfl)
      refine lv_aload_n hx hb (oc_42 5 (aq_5 shX5_readPart_0)) rfl (lvA0 hl) ?_
      refine gf_RX5_31 S hK hP 3 xo_3 (v := .int (nI (c5 31))) rfl (oc_180 6 (aq_6 shX5_readPart_0) uw_0_31) ?_
      refine lv_aload_n hx hb (oc_42 9 (aq_9 shX5_readPart_0)) rfl (lvA0 hl) ?_
      refine gf_RX5_34 S hK hP 3 xo_3 (v := .int (nI (c5 32))) rfl (oc_180 10 (aq_10 shX5_readPart_0) uw_0_34) ?_
      have : (nI (c5 31)).toInt = (((c5 31) : Nat) : Int) := nI_toInt (by omega)
      have : (nI (c5 32)).toInt = (((c5 32) : Nat) : Int) := nI_toInt (by omega)
      refine lv_icmp_ge (tgt := 62) hx hb (oc_162 13 (aq_13 shX5_readPart_0) sgw_0_49) rfl (fun c_3 => ?_) (fun c_3 => ?_)
      ·
        have tc_3 : ((nI (c5 32)).toInt : Int) ≤ (nI (c5 31)).toInt := Int32.le_iff_toInt_le.mp c_3
        exact W.vret hx hb hr (fun t ht hW => ⟨⟨(c5, I5, F5), rfl, ⟨(Fr.mo hfr5 (sbl rfl) (sbl rfl) (sbl rfl)), hI5, (by show cn 31 ≤ c5 31 ∧ c5 31 ≤ c5 32 ∧ c5 32 ≤ cn 32; show cn 31 ≤ (c5 31) ∧ (c5 31) ≤ (c5 32) ∧ (c5 32) ≤ cn 32; omega)⟩, by rw [ht]; exact hP, hD⟩, hS.F ht⟩) hS.2.2 dX5_readPart_62
      ·
        have tc_3 : ((nI (c5 31)).toInt : Int) < (nI (c5 32)).toInt := Int32.lt_iff_toInt_lt.mp (Int32.not_le.mp c_3)
        refine lv_aload_n hx hb (oc_42 16 (aq_16 shX5_readPart_0)) rfl (lvA0 hl) ?_
        refine vp_callSi (runV_rxa (As := []) (rest := []) S (q_Rpeek l D cI cB cZ zz qq vv bt g ad c5 I5 F5  hI5 (by omega) (by omega) (by omega) (by omega)) kV_RX5_43 hK hXS hS hP 3 xo_3 rfl rfl ⟨(by show 0 + 1 ≤ d + 1; omega), (by show 8 + (1 + 11) + 40 * 0 ≤ 40 * (d + 1); omega)⟩ ⟨Nat.le_of_ble_eq_true rfl, Nat.le_of_ble_eq_true rfl⟩ rfl hl.1 rfl (Nat.le_of_ble_eq_true rfl) (oc_182 17 (aq_17 shX5_readPart_0) uw_0_43)) (fun r_4 h_5 => ?_)
        refine lv_bipush (v := 38) hx hb (oc_16 20 (aq_20 shX5_readPart_0) sgb_38) kbc_38 ?_
        refine lv_icmp_ne (tgt := 62) hx hb (oc_160 22 (aq_22 shX5_readPart_0) sgw_0_40) rfl (fun c_6 => ?_) (fun c_6 => ?_)
        ·
          have tc_6 : (r_4.toInt : Int) ≠ 38 := fun q => c_6 (Int32.toInt_inj.mp q)
          exact W.vret hx hb hr (fun t ht hW => ⟨⟨(c5, I5, F5), rfl, ⟨(Fr.mo hfr5 (sbl rfl) (sbl rfl) (sbl rfl)), hI5, (by show cn 31 ≤ c5 31 ∧ c5 31 ≤ c5 32 ∧ c5 32 ≤ cn 32; show cn 31 ≤ (c5 31) ∧ (c5 31) ≤ (c5 32) ∧ (c5 32) ≤ cn 32; omega)⟩, by rw [ht]; exact hP, hD⟩, hS.F ht⟩) hS.2.2 dX5_readPart_62
        ·
          have tc_6 : (r_4.toInt : Int) = 38 := congrArg Int32.toInt c_6
          refine lv_aload_n hx hb (oc_42 25 shX5_readPart_25) rfl (lvA0 hl) ?_
          refine lv_dup hx hb (oc_89 26 (aq_1 shX5_readPart_25)) rfl ?_
          refine gf_RX5_31 S hK hP 3 xo_3 (v := .int (nI (c5 31))) rfl (oc_180 27 (aq_2 shX5_readPart_25) uw_0_31) ?_
          refine lv_iconst (v := 1) hx hb (oc_4 30 (aq_5 shX5_readPart_25)) kic_1 ?_
          refine lv_iadd hx hb (oc_96 31 (aq_6 shX5_readPart_25)) ?_
          refine lv_topi (fun y_7 ey_7 => ?_)
          obtain rfl : y_7 = (nI ((c5 31) + 1)) := ey_7.trans (nI_add (c5 31) 1)
          refine pf_RX5_31 S hK hP hD hS 3 xo_3 (v := .int (nI ((c5 31) + 1))) (Nat.le_of_ble_eq_true rfl) rfl rfl (oc_181 32 (aq_7 shX5_readPart_25) uw_0_31) (fun H locs hP hD hS => ?_)
          have hP : va_P D vwCl (wX cI (D.1 99) zz g ad (va_up c5 31 ((c5 31) + 1)) I5 F5) H := va_P_eq (xsf_3_3) hP
          have hD : va_D A (wX cI (D.1 99) zz g ad (va_up c5 31 ((c5 31) + 1)) I5 F5) := va_D_eq (xsf_3_3) hD
          refine lv_aload_n hx hb (oc_42 35 (aq_10 shX5_readPart_25)) rfl (lvA0 hl) ?_
          refine gf_RX5_20 S hK hP 3 xo_3 (v := .ref (ad 5 (ad 4 1))) rfl (oc_180 36 (aq_11 shX5_readPart_25) uw_0_20) ?_
          refine lv_bipush (v := 12) hx hb (oc_16 39 (aq_14 shX5_readPart_25) sgb_12) kbc_12 ?_
          refine lv_iconst (v := 0) hx hb (oc_3 41 (aq_16 shX5_readPart_25)) kic_0 ?_
          have hFc := free_all hD hS hA
          refine va_calli (runV_xa (As := [.int 12, .int 0]) (rest := []) S (q_Tadd l D cI cB cZ zz qq vv bt g ad (va_up c5 31 ((c5 31) + 1)) I5 F5 (ad 4 1) 12 0 H.size (CBX.n (k := 31) (v := ((c5 31) + 1)) hI5 (by decide)) (show (ad 4 1) < (c5 6) by omega) (by rw [hfr5.2.2 199 (nml rfl)]; exact h9)) kV_RX5_75 hK hXS hS hFc hP hD _ (xf_7 (show (ad 4 1) < (c5 6) by omega)) rfl rfl ⟨(by show 0 + 1 ≤ d + 1; omega), (by show 8 + (3 + 11) + 40 * 0 ≤ 40 * (d + 1); omega)⟩ ⟨Nat.le_of_ble_eq_true rfl, Nat.le_of_ble_eq_true rfl⟩ rfl hl.1 rfl (Nat.le_of_ble_eq_true rfl) (oc_182 42 (aq_17 shX5_readPart_25) uw_0_75)) hS (fun q _ h => hFc q h) hFc (fun r_8 u t H1 locs ht hvm wh_9 hB1 hz1 hk1 hS => ?_)
          obtain ⟨cn9, In9, Fn9⟩ := u
          obtain ⟨hP1, hD1⟩ := hB1
          rw [ht] at hP1
          have hP : va_P D vwCl (wX cI (D.1 99) zz g ad cn9 In9 Fn9) H1 := hP1
          have hD : va_D A (wX cI (D.1 99) zz g ad cn9 In9 Fn9) := hD1.weaken (fun _ _ _ h => hFc _ h)
          generalize H1 = H at hP hS ⊢
          have vh_9 : (fun r c2 I2 F2 => Fr [] [] [195, 301] (va_up c5 31 ((c5 31) + 1)) I5 F5 c2 I2 F2 ∧ CBX c2 ∧ (True)) r_8 cn9 In9 Fn9 := wh_9
          obtain ⟨hfc9, hIn9, h_9⟩ := vh_9
          obtain rfl : I5 = In9 := (funext (fun k => hfc9.2.1 k List.not_mem_nil)).symm
          have hf9 : Fr [31, 32] [33] [195, 301] cn In Fn cn9 I5 Fn9 := Fr.mo (Fr.tr (Fr.c 31 hfr5) hfc9) (sbl rfl) (sbl rfl) (sbl rfl)
          replace hIn9 : CBXh cn9 := hIn9
          have : cn9 6 = (c5 6) := hfc9.1 6 (nml rfl)
          have : cn9 31 = ((c5 31) + 1) := hfc9.1 31 (nml rfl)
          have : cn9 32 = (c5 32) := hfc9.1 32 (nml rfl)
          refine lv_istore_n (lv' := [(2, .int r_8), (0, .ref (g 6)), (1, .int o)]) hx hb (oc_61 45 (aq_20 shX5_readPart_25)) rfl hl (ltb rfl) rfl (fun ls hl => ?_)
          refine lv_aload_n hx hb (oc_42 46 (aq_21 shX5_readPart_25)) rfl (lvA1 hl) ?_
          refine lv_iload_n hx hb (oc_27 47 (aq_22 shX5_readPart_25)) rfl (lvA2 hl) ?_
          have hFc := free_all hD hS hA
          refine va_callv (runV_xa (As := [.int o]) (rest := []) S (hSq ad cn9 I5 Fn9 H.size hIn9 (by omega) (by omega) (by omega) (by omega) (by rw [hf9.2.2 199 (nml rfl)]; exact h9)) kV_RX5_82 hK hXS hS hFc hP hD 3 xo_3 rfl rfl ⟨(by show d + 1 ≤ d + 1; omega), (by show 8 + (4 + 11) + 40 * d ≤ 40 * (d + 1); omega)⟩ ⟨Nat.le_of_ble_eq_true rfl, Nat.le_of_ble_eq_true rfl⟩ rfl hl.1 rfl (Nat.le_of_ble_eq_true rfl) (oc_182 48 (aq_23 shX5_readPart_25) uw_0_82)) hS (fun q _ h => hFc q h) hFc (fun u t H1 locs ht hvm wh_11 hB1 hz1 hk1 hS => ?_)
          obtain ⟨cn11, In11, Fn11⟩ := u
          obtain ⟨hP1, hD1⟩ := hB1
          rw [ht] at hP1
          have hP : va_P D vwCl (wX cI (D.1 99) zz g ad cn11 In11 Fn11) H1 := hP1
          have hD : va_D A (wX cI (D.1 99) zz g ad cn11 In11 Fn11) := hD1.weaken (fun _ _ _ h => hFc _ h)
          generalize H1 = H at hP hS ⊢
          have vh_11 : (fun c2 I2 F2 => Fr [31, 32] [33] [195, 301] cn9 I5 Fn9 c2 I2 F2 ∧ CBX c2 ∧ ((cn9 31) ≤ c2 31 ∧ c2 31 ≤ c2 32 ∧ c2 32 ≤ (cn9 32))) cn11 In11 Fn11 := wh_11
          obtain ⟨hfc11, hIn11, h_11⟩ := vh_11
          have hf11 : Fr [31, 32] [33] [195, 301] cn In Fn cn11 In11 Fn11 := Fr.mo (Fr.tr hf9 hfc11) (sbl rfl) (sbl rfl) (sbl rfl)
          replace hIn11 : CBXh cn11 := hIn11
          have : cn11 6 = (cn9 6) := hfc11.1 6 (nml rfl)
          refine lv_aload_n hx hb (oc_42 51 shX5_readPart_51) rfl (lvA1 hl) ?_
          refine gf_RX5_20 S hK hP 3 xo_3 (v := .ref (ad 5 (ad 4 1))) rfl (oc_180 52 (aq_1 shX5_readPart_51) uw_0_20) ?_
          refine lv_iload_n hx hb (oc_28 55 (aq_4 shX5_readPart_51)) rfl (lvA0 hl) ?_
          have hFc := free_all hD hS hA
          refine va_callv (runV_xa (As := [.int r_8]) (rest := []) S (q_Taim l D cI cB cZ zz qq vv bt g ad cn11 In11 Fn11 (ad 4 1) r_8 H.size hIn11 (by omega) (by rw [hf11.2.2 199 (nml rfl)]; exact h9)) kV_RX5_79 hK hXS hS hFc hP hD _ (xf_7 (show (ad 4 1) < (cn11 6) by omega)) rfl rfl ⟨(by show 1 + 1 ≤ d + 1; omega), (by show 8 + (2 + 11) + 40 * 1 ≤ 40 * (d + 1); omega)⟩ ⟨Nat.le_of_ble_eq_true rfl, Nat.le_of_ble_eq_true rfl⟩ rfl hl.1 rfl (Nat.le_of_ble_eq_true rfl) (oc_182 56 (aq_5 shX5_readPart_51) uw_0_79)) hS (fun q _ h => hFc q h) hFc (fun u t H1 locs ht hvm wh_13 hB1 hz1 hk1 hS => ?_)
          obtain ⟨cn13, In13, Fn13⟩ := u
          obtain ⟨hP1, hD1⟩ := hB1
          rw [ht] at hP1
          have hP : va_P D vwCl (wX cI (D.1 99) zz g ad cn13 In13 Fn13) H1 := hP1
          have hD : va_D A (wX cI (D.1 99) zz g ad cn13 In13 Fn13) := hD1.weaken (fun _ _ _ h => hFc _ h)
          generalize H1 = H at hP hS ⊢
          have vh_13 : (fun c2 I2 F2 => Fr [] [] [301] cn11 In11 Fn11 c2 I2 F2 ∧ CBX c2 ∧ (True)) cn13 In13 Fn13 := wh_13
          obtain ⟨hfc13, hIn13, h_13⟩ := vh_13
          obtain rfl : cn11 = cn13 := (funext (fun k => hfc13.1 k List.not_mem_nil)).symm
          obtain rfl : In11 = In13 := (funext (fun k => hfc13.2.1 k List.not_mem_nil)).symm
          have hf13 : Fr [31, 32] [33] [195, 301] cn In Fn cn11 In11 Fn13 := Fr.mo (Fr.tr hf11 hfc13) (sbl rfl) (sbl rfl) (sbl rfl)
          replace hIn13 : CBXh cn11 := hIn13
          refine lv_goto (tgt := 5) hx hb (oc_167 59 (aq_8 shX5_readPart_51) sgw_255_202) rfl ?_
          exact ih5  cn11 In11 Fn13 _ _ (show (cn11 32) - (cn11 31) < n5 by omega) ⟨(Fr.mo hf13 (sbl rfl) (sbl rfl) (sbl rfl)), hIn13, (show cn 31 ≤ (cn11 31) ∧ (cn11 31) ≤ (cn11 32) ∧ (cn11 32) ≤ cn 32 by omega)⟩ hP hD hS ls (lv_sub hl [1, 2] rfl)
  exact lp_5 _  cn2 In2 Fn2 _ _ (Nat.lt_succ_self _) ⟨(Fr.mo hf2 (sbl rfl) (sbl rfl) (sbl rfl)), hIn2, (show cn 31 ≤ (cn2 31) ∧ (cn2 31) ≤ (cn2 32) ∧ (cn2 32) ≤ cn 32 by omega)⟩ hP hD hS ls (lv_sub hl [0, 1] rfl)
set_option maxRecDepth 100000 in
set_option maxHeartbeats 4000000 in
theorem gq_GreadCondition (l : Launch) (D : va_G) (cI cB cZ : ClassId) (zz qq vv : Nat) (bt : Nat → Int32) (g : Nat → Nat) (o : Int32) (d : Nat) (hd : 4 ≤ d ∧ d ≤ 60) (hSq : RDQ yX5_readPart cX5_readPart 3 l D cI cB cZ zz qq vv bt g o d) : RDQ yX5_readCondition cX5_readCondition 3 l D cI cB cZ zz qq vv bt g o (d + 1) := by
  intro ad cn In Fn sz hB hR h1 h3 h4 h9
  refine Met.ofW (cc := cX5_readCondition) (maxL := 3) (ret := none) (by decide) rfl ?_
  intro p e s m args below meth c s₁ B hml hv
  obtain ⟨rfl, hsz, hP, hK, hD0, hXS⟩ := hv
  have hx := B.exec
  have hb := B.bytes
  have hr := B.returns
  have hts := atoms_spec (ws := (CWS yX5_readCondition cX5_readCondition 3 none)) B.pre
  have hown : s.vm.findClass RX5 = some m.cls := findClass_of_methodNamed B.named
  have hlocks := B.notSynchronized
  have S : SF p m c cX5_readCondition 3 s ([.ref (g 6), .int o]).toArray RX5 := ⟨hx, hb, hml, hown, fun w h => hts w (List.mem_cons_of_mem _ h)⟩
  subst hsz
  have hD := hD0.self (sz := s.heap.size)
  generalize hAe : va_A (wX cI (D.1 99) zz g ad cn In Fn) s.heap.size = A at hD hXS ⊢
  have hA : ∀ q : Nat, s.heap.size ≤ q → A q := fun q h => by rw [← hAe]; exact Or.inr h
  have hS : va_S A s.heap s.heap [] := va_S.rf
  have hl := lv_entry ([.ref (g 6), .int o]) (n := 3) (Nat.le_of_ble_eq_true rfl)
  rw [lg_entry_eq]
  generalize (lg_sl ([.ref (g 6), .int o]) ++ List.replicate (3 - (lg_sl ([.ref (g 6), .int o])).length) Slot.unset).toArray = ls at hl ⊢
  have hl : lv_has ls 3 [(0, .ref (g 6)), (1, .int o)] := hl
  replace hB : CBXh cn := hB
  refine lv_aload_n hx hb (oc_42 0 shX5_readCondition_0) rfl (lvA0 hl) ?_
  refine lv_iload_n hx hb (oc_27 1 (aq_1 shX5_readCondition_0)) rfl (lvA1 hl) ?_
  have hFc := free_all hD hS hA
  refine va_callv (runV_xa (As := [.int o]) (rest := []) S (hSq ad cn In Fn s.heap.size hB (by omega) (by omega) (by omega) (by omega) h9) kV_RX5_72 hK hXS hS hFc hP hD 3 xo_3 rfl rfl ⟨(by show d + 1 ≤ d + 1; omega), (by show 8 + (3 + 11) + 40 * d ≤ 40 * (d + 1); omega)⟩ ⟨Nat.le_of_ble_eq_true rfl, Nat.le_of_ble_eq_true rfl⟩ rfl hl.1 rfl (Nat.le_of_ble_eq_true rfl) (oc_182 2 (aq_2 shX5_readCondition_0) uw_0_72)) hS (fun q _ h => hFc q h) hFc (fun u t H1 locs ht hvm wh_2 hB1 hz1 hk1 hS => ?_)
  obtain ⟨cn2, In2, Fn2⟩ := u
  obtain ⟨hP1, hD1⟩ := hB1
  rw [ht] at hP1
  have hP : va_P D vwCl (wX cI (D.1 99) zz g ad cn2 In2 Fn2) H1 := hP1
  have hD : va_D A (wX cI (D.1 99) zz g ad cn2 In2 Fn2) := hD1.weaken (fun _ _ _ h => hFc _ h)
  generalize H1 = H at hP hS ⊢
  have vh_2 : (fun c2 I2 F2 => Fr [31, 32] [33] [195, 301] cn In Fn c2 I2 F2 ∧ CBX c2 ∧ ((cn 31) ≤ c2 31 ∧ c2 31 ≤ c2 32 ∧ c2 32 ≤ (cn 32))) cn2 In2 Fn2 := wh_2
  obtain ⟨hfc2, hIn2, h_2⟩ := vh_2
  have hf2 : Fr [31, 32] [33] [195, 301] cn In Fn cn2 In2 Fn2 := Fr.mo (Fr.tr (Fr.rf (cn := cn) (In := In) (Fn := Fn)) hfc2) (sbl rfl) (sbl rfl) (sbl rfl)
  replace hIn2 : CBXh cn2 := hIn2
  have : cn2 6 = (cn 6) := hfc2.1 6 (nml rfl)
  have lp_5 : ∀ (n : Nat)  (c5 : Nat → Nat) (I5 : Nat → Int32) (F5 : Nat → Nat → Int32) (H : Heap) (locs : List Loc) , c5 32 - c5 31 < n → (Fr [31, 32] [33] [195, 301] cn In Fn c5 I5 F5 ∧ CBX c5 ∧ (cn 31 ≤ c5 31 ∧ c5 31 ≤ c5 32 ∧ c5 32 ≤ cn 32)) → va_P D vwCl (wX cI (D.1 99) zz g ad c5 I5 F5) H → va_D A (wX cI (D.1 99) zz g ad c5 I5 F5) → va_S A s.heap H locs → ∀ ls : Array Slot, lv_has ls 3 [(0, .ref (g 6)), (1, .int o)] → W p l e (RM (d + 1) 0 0) s m ([.ref (g 6), .int o]).toArray below meth c H locs 0 0 (MQ below (va_Qv (fun (u : (Nat → Nat) × (Nat → Int32) × (Nat → Nat → Int32)) => (fun c2 I2 F2 => Fr [31, 32] [33] [195, 301] cn In Fn c2 I2 F2 ∧ CBX c2 ∧ (cn 31 ≤ c2 31 ∧ c2 31 ≤ c2 32 ∧ c2 32 ≤ cn 32)) u.1 u.2.1 u.2.2) (fun (u : (Nat → Nat) × (Nat → Int32) × (Nat → Nat → Int32)) (t : State) => va_P D vwCl (wX cI (D.1 99) zz g ad u.1 u.2.1 u.2.2) t.heap ∧ va_D A (wX cI (D.1 99) zz g ad u.1 u.2.1 u.2.2)) A) ([.ref (g 6), .int o]).toArray s 0 0 A) (F0 m 5 ls []) := by
    intro n5
    induction n5 with
    | zero => intros; omega
    | succ n5 ih5 =>
      intro  c5 I5 F5 H locs hmu5 hinv5 hP hD hS ls hl
      obtain ⟨hfr5, hI5, hx5_0⟩ := hinv5
      replace hI5 : CBXh c5 := hI5
      have : c5 6 = cn 6 := hfr5.1 6 (nml rfl)
      refine lv_aload_n hx hb (oc_42 5 (aq_5 shX5_readCondition_0)) rfl (lvA0 hl) ?_
      refine gf_RX5_31 S hK hP 3 xo_3 (v := .int (nI (c5 31))) rfl (oc_180 6 (aq_6 shX5_readCondition_0) uw_0_31) ?_
      refine lv_aload_n hx hb (oc_42 9 (aq_9 shX5_readCondition_0)) rfl (lvA0 hl) ?_
      refine gf_RX5_34 S hK hP 3 xo_3 (v := .int (nI (c5 32))) rfl (oc_180 10 (aq_10 shX5_readCondition_0) uw_0_34) ?_
      have : (nI (c5 31)).toInt = (((c5 31) : Nat) : Int) := nI_toInt (by omega)
      have : (nI (c5 32)).toInt = (((c5 32) : Nat) : Int) := nI_toInt (by omega)
      refine lv_icmp_ge (tgt := 62) hx hb (oc_162 13 (aq_13 shX5_readCondition_0) sgw_0_49) rfl (fun c_3 => ?_) (fun c_3 => ?_)
      ·
        have tc_3 : ((nI (c5 32)).toInt : Int) ≤ (nI (c5 31)).toInt := Int32.le_iff_toInt_le.mp c_3
        exact W.vret hx hb hr (fun t ht hW => ⟨⟨(c5, I5, F5), rfl, ⟨(Fr.mo hfr5 (sbl rfl) (sbl rfl) (sbl rfl)), hI5, (by show cn 31 ≤ c5 31 ∧ c5 31 ≤ c5 32 ∧ c5 32 ≤ cn 32; show cn 31 ≤ (c5 31) ∧ (c5 31) ≤ (c5 32) ∧ (c5 32) ≤ cn 32; omega)⟩, by rw [ht]; exact hP, hD⟩, hS.F ht⟩) hS.2.2 dX5_readCondition_62
      ·
        have tc_3 : ((nI (c5 31)).toInt : Int) < (nI (c5 32)).toInt := Int32.lt_iff_toInt_lt.mp (Int32.not_le.mp c_3)
        refine lv_aload_n hx hb (oc_42 16 (aq_16 shX5_readCondition_0)) rfl (lvA0 hl) ?_
        refine vp_callSi (runV_rxa (As := []) (rest := []) S (q_Rpeek l D cI cB cZ zz qq vv bt g ad c5 I5 F5  hI5 (by omega) (by omega) (by omega) (by omega)) kV_RX5_43 hK hXS hS hP 3 xo_3 rfl rfl ⟨(by show 0 + 1 ≤ d + 1; omega), (by show 8 + (1 + 11) + 40 * 0 ≤ 40 * (d + 1); omega)⟩ ⟨Nat.le_of_ble_eq_true rfl, Nat.le_of_ble_eq_true rfl⟩ rfl hl.1 rfl (Nat.le_of_ble_eq_true rfl) (oc_182 17 (aq_17 shX5_readCondition_0) uw_0_43)) (fun r_4 h_5 => ?_)
        refine lv_bipush (v := 124) hx hb (oc_16 20 (aq_20 shX5_readCondition_0) sgb_124) kbc_124 ?_
        refine lv_icmp_ne (tgt := 62) hx hb (oc_160 22 (aq_22 shX5_readCondition_0) sgw_0_40) rfl (fun c_6 => ?_) (fun c_6 => ?_)
        ·
          have tc_6 : (r_4.toInt : Int) ≠ 124 := fun q => c_6 (Int32.toInt_inj.mp q)
          exact W.vret hx hb hr (fun t ht hW => ⟨⟨(c5, I5, F5), rfl, ⟨(Fr.mo hfr5 (sbl rfl) (sbl rfl) (sbl rfl)), hI5, (by show cn 31 ≤ c5 31 ∧ c5 31 ≤ c5 32 ∧ c5 32 ≤ cn 32; show cn 31 ≤ (c5 31) ∧ (c5 31) ≤ (c5 32) ∧ (c5 32) ≤ cn 32; omega)⟩, by rw [ht]; exact hP, hD⟩, hS.F ht⟩) hS.2.2 dX5_readCondition_62
        ·
          have tc_6 : (r_4.toInt : Int) = 124 := congrArg Int32.toInt c_6
          refine lv_aload_n hx hb (oc_42 25 shX5_readCondition_25) rfl (lvA0 hl) ?_
          refine lv_dup hx hb (oc_89 26 (aq_1 shX5_readCondition_25)) rfl ?_
          refine gf_RX5_31 S hK hP 3 xo_3 (v := .int (nI (c5 31))) rfl (oc_180 27 (aq_2 shX5_readCondition_25) uw_0_31) ?_
          refine lv_iconst (v := 1) hx hb (oc_4 30 (aq_5 shX5_readCondition_25)) kic_1 ?_
          refine lv_iadd hx hb (oc_96 31 (aq_6 shX5_readCondition_25)) ?_
          refine lv_topi (fun y_7 ey_7 => ?_)
          obtain rfl : y_7 = (nI ((c5 31) + 1)) := ey_7.trans (nI_add (c5 31) 1)
          refine pf_RX5_31 S hK hP hD hS 3 xo_3 (v := .int (nI ((c5 31) + 1))) (Nat.le_of_ble_eq_true rfl) rfl rfl (oc_181 32 (aq_7 shX5_readCondition_25) uw_0_31) (fun H locs hP hD hS => ?_)
          have hP : va_P D vwCl (wX cI (D.1 99) zz g ad (va_up c5 31 ((c5 31) + 1)) I5 F5) H := va_P_eq (xsf_3_3) hP
          have hD : va_D A (wX cI (D.1 99) zz g ad (va_up c5 31 ((c5 31) + 1)) I5 F5) := va_D_eq (xsf_3_3) hD
          refine lv_aload_n hx hb (oc_42 35 (aq_10 shX5_readCondition_25)) rfl (lvA0 hl) ?_
          refine gf_RX5_20 S hK hP 3 xo_3 (v := .ref (ad 5 (ad 4 1))) rfl (oc_180 36 (aq_11 shX5_readCondition_25) uw_0_20) ?_
          refine lv_bipush (v := 13) hx hb (oc_16 39 (aq_14 shX5_readCondition_25) sgb_13) kbc_13 ?_
          refine lv_iconst (v := 0) hx hb (oc_3 41 (aq_16 shX5_readCondition_25)) kic_0 ?_
          have hFc := free_all hD hS hA
          refine va_calli (runV_xa (As := [.int 13, .int 0]) (rest := []) S (q_Tadd l D cI cB cZ zz qq vv bt g ad (va_up c5 31 ((c5 31) + 1)) I5 F5 (ad 4 1) 13 0 H.size (CBX.n (k := 31) (v := ((c5 31) + 1)) hI5 (by decide)) (show (ad 4 1) < (c5 6) by omega) (by rw [hfr5.2.2 199 (nml rfl)]; exact h9)) kV_RX5_75 hK hXS hS hFc hP hD _ (xf_7 (show (ad 4 1) < (c5 6) by omega)) rfl rfl ⟨(by show 0 + 1 ≤ d + 1; omega), (by show 8 + (3 + 11) + 40 * 0 ≤ 40 * (d + 1); omega)⟩ ⟨Nat.le_of_ble_eq_true rfl, Nat.le_of_ble_eq_true rfl⟩ rfl hl.1 rfl (Nat.le_of_ble_eq_true rfl) (oc_182 42 (aq_17 shX5_readCondition_25) uw_0_75)) hS (fun q _ h => hFc q h) hFc (fun r_8 u t H1 locs ht hvm wh_9 hB1 hz1 hk1 hS => ?_)
          obtain ⟨cn9, In9, Fn9⟩ := u
          obtain ⟨hP1, hD1⟩ := hB1
          rw [ht] at hP1
          have hP : va_P D vwCl (wX cI (D.1 99) zz g ad cn9 In9 Fn9) H1 := hP1
          have hD : va_D A (wX cI (D.1 99) zz g ad cn9 In9 Fn9) := hD1.weaken (fun _ _ _ h => hFc _ h)
          generalize H1 = H at hP hS ⊢
          have vh_9 : (fun r c2 I2 F2 => Fr [] [] [195, 301] (va_up c5 31 ((c5 31) + 1)) I5 F5 c2 I2 F2 ∧ CBX c2 ∧ (True)) r_8 cn9 In9 Fn9 := wh_9
          obtain ⟨hfc9, hIn9, h_9⟩ := vh_9
          obtain rfl : I5 = In9 := (funext (fun k => hfc9.2.1 k List.not_mem_nil)).symm
          have hf9 : Fr [31, 32] [33] [195, 301] cn In Fn cn9 I5 Fn9 := Fr.mo (Fr.tr (Fr.c 31 hfr5) hfc9) (sbl rfl) (sbl rfl) (sbl rfl)
          replace hIn9 : CBXh cn9 := hIn9
          have : cn9 6 = (c5 6) := hfc9.1 6 (nml rfl)
          have : cn9 31 = ((c5 31) + 1) := hfc9.1 31 (nml rfl)
          have : cn9 32 = (c5 32) := hfc9.1 32 (nml rfl)
          refine lv_istore_n (lv' := [(2, .int r_8), (0, .ref (g 6)), (1, .int o)]) hx hb (oc_61 45 (aq_20 shX5_readCondition_25)) rfl hl (ltb rfl) rfl (fun ls hl => ?_)
          refine lv_aload_n hx hb (oc_42 46 (aq_21 shX5_readCondition_25)) rfl (lvA1 hl) ?_
          refine lv_iload_n hx hb (oc_27 47 (aq_22 shX5_readCondition_25)) rfl (lvA2 hl) ?_
          have hFc := free_all hD hS hA
          refine va_callv (runV_xa (As := [.int o]) (rest := []) S (hSq ad cn9 I5 Fn9 H.size hIn9 (by omega) (by omega) (by omega) (by omega) (by rw [hf9.2.2 199 (nml rfl)]; exact h9)) kV_RX5_72 hK hXS hS hFc hP hD 3 xo_3 rfl rfl ⟨(by show d + 1 ≤ d + 1; omega), (by show 8 + (3 + 11) + 40 * d ≤ 40 * (d + 1); omega)⟩ ⟨Nat.le_of_ble_eq_true rfl, Nat.le_of_ble_eq_true rfl⟩ rfl hl.1 rfl (Nat.le_of_ble_eq_true rfl) (oc_182 48 (aq_23 shX5_readCondition_25) uw_0_72)) hS (fun q _ h => hFc q h) hFc (fun u t H1 locs ht hvm wh_11 hB1 hz1 hk1 hS => ?_)
          obtain ⟨cn11, In11, Fn11⟩ := u
          obtain ⟨hP1, hD1⟩ := hB1
          rw [ht] at hP1
          have hP : va_P D vwCl (wX cI (D.1 99) zz g ad cn11 In11 Fn11) H1 := hP1
          have hD : va_D A (wX cI (D.1 99) zz g ad cn11 In11 Fn11) := hD1.weaken (fun _ _ _ h => hFc _ h)
          generalize H1 = H at hP hS ⊢
          have vh_11 : (fun c2 I2 F2 => Fr [31, 32] [33] [195, 301] cn9 I5 Fn9 c2 I2 F2 ∧ CBX c2 ∧ ((cn9 31) ≤ c2 31 ∧ c2 31 ≤ c2 32 ∧ c2 32 ≤ (cn9 32))) cn11 In11 Fn11 := wh_11
          obtain ⟨hfc11, hIn11, h_11⟩ := vh_11
          have hf11 : Fr [31, 32] [33] [195, 301] cn In Fn cn11 In11 Fn11 := Fr.mo (Fr.tr hf9 hfc11) (sbl rfl) (sbl rfl) (sbl rfl)
          replace hIn11 : CBXh cn11 := hIn11
          have : cn11 6 = (cn9 6) := hfc11.1 6 (nml rfl)
          refine lv_aload_n hx hb (oc_42 51 shX5_readCondition_51) rfl (lvA1 hl) ?_
          refine gf_RX5_20 S hK hP 3 xo_3 (v := .ref (ad 5 (ad 4 1))) rfl (oc_180 52 (aq_1 shX5_readCondition_51) uw_0_20) ?_
          refine lv_iload_n hx hb (oc_28 55 (aq_4 shX5_readCondition_51)) rfl (lvA0 hl) ?_
          have hFc := free_all hD hS hA
          refine va_callv (runV_xa (As := [.int r_8]) (rest := []) S (q_Taim l D cI cB cZ zz qq vv bt g ad cn11 In11 Fn11 (ad 4 1) r_8 H.size hIn11 (by omega) (by rw [hf11.2.2 199 (nml rfl)]; exact h9)) kV_RX5_79 hK hXS hS hFc hP hD _ (xf_7 (show (ad 4 1) < (cn11 6) by omega)) rfl rfl ⟨(by show 1 + 1 ≤ d + 1; omega), (by show 8 + (2 + 11) + 40 * 1 ≤ 40 * (d + 1); omega)⟩ ⟨Nat.le_of_ble_eq_true rfl, Nat.le_of_ble_eq_true rfl⟩ rfl hl.1 rfl (Nat.le_of_ble_eq_true rfl) (oc_182 56 (aq_5 shX5_readCondition_51) uw_0_79)) hS (fun q _ h => hFc q h) hFc (fun u t H1 locs ht hvm wh_13 hB1 hz1 hk1 hS => ?_)
          obtain ⟨cn13, In13, Fn13⟩ := u
          obtain ⟨hP1, hD1⟩ := hB1
          rw [ht] at hP1
          have hP : va_P D vwCl (wX cI (D.1 99) zz g ad cn13 In13 Fn13) H1 := hP1
          have hD : va_D A (wX cI (D.1 99) zz g ad cn13 In13 Fn13) := hD1.weaken (fun _ _ _ h => hFc _ h)
          generalize H1 = H at hP hS ⊢
          have vh_13 : (fun c2 I2 F2 => Fr [] [] [301] cn11 In11 Fn11 c2 I2 F2 ∧ CBX c2 ∧ (True)) cn13 In13 Fn13 := wh_13
          obtain ⟨hfc13, hIn13, h_13⟩ := vh_13
          obtain rfl : cn11 = cn13 := (funext (fun k => hfc13.1 k List.not_mem_nil)).symm
          obtain rfl : In11 = In13 := (funext (fun k => hfc13.2.1 k List.not_mem_nil)).symm
          have hf13 : Fr [31, 32] [33] [195, 301] cn In Fn cn11 In11 Fn13 := Fr.mo (Fr.tr hf11 hfc13) (sbl rfl) (sbl rfl) (sbl rfl)
          replace hIn13 : CBXh cn11 := hIn13
          refine lv_goto (tgt := 5) hx hb (oc_167 59 (aq_8 shX5_readCondition_51) sgw_255_202) rfl ?_
          exact ih5  cn11 In11 Fn13 _ _ (show (cn11 32) - (cn11 31) < n5 by omega) ⟨(Fr.mo hf13 (sbl rfl) (sbl rfl) (sbl rfl)), hIn13, (show cn 31 ≤ (cn11 31) ∧ (cn11 31) ≤ (cn11 32) ∧ (cn11 32) ≤ cn 32 by omega)⟩ hP hD hS ls (lv_sub hl [1, 2] rfl)
  exact lp_5 _  cn2 In2 Fn2 _ _ (Nat.lt_succ_self _) ⟨(Fr.mo hf2 (sbl rfl) (sbl rfl) (sbl rfl)), hIn2, (show cn 31 ≤ (cn2 31) ∧ (cn2 31) ≤ (cn2 32) ∧ (cn2 32) ≤ cn 32 by omega)⟩ hP hD hS ls (lv_sub hl [0, 1] rfl)
set_option maxRecDepth 100000 in
set_option maxHeartbeats 4000000 in
theorem q_RreadSum_0 (l : Launch) (D : va_G) (cI cB cZ : ClassId) (zz qq vv : Nat) (bt : Nat → Int32) (g : Nat → Nat) (ad : Nat → Nat → Nat) (cn : Nat → Nat) (In : Nat → Int32) (Fn : Nat → Nat → Int32)  (sz : Nat) (hB : CBX cn) (hR : ad 4 2 = g 40) (h1 : ad 4 1 < cn 6) (h3 : cn 31 ≤ cn 32) (h4 : cn 32 ≤ 160) (h9 : (Fn 199 (ad 4 1)).toInt ≤ 160) : Met l yX5_readSum (CWS yX5_readSum cX5_readSum 3 none) (RM 24 0 0) (PBx [.ref (g 6), .int 0] D cI cB cZ zz qq vv bt (wX cI (D.1 99) zz g ad cn In Fn) sz) (va_Qv (fun (u : (Nat → Nat) × (Nat → Int32) × (Nat → Nat → Int32)) => (fun c2 I2 F2 => Fr [31, 32] [33] [195, 301] cn In Fn c2 I2 F2 ∧ CBX c2 ∧ (cn 31 ≤ c2 31 ∧ c2 31 ≤ c2 32 ∧ c2 32 ≤ cn 32)) u.1 u.2.1 u.2.2) (fun (u : (Nat → Nat) × (Nat → Int32) × (Nat → Nat → Int32)) (t : State) => va_P D vwCl (wX cI (D.1 99) zz g ad u.1 u.2.1 u.2.2) t.heap ∧ va_D (va_A (wX cI (D.1 99) zz g ad cn In Fn) sz) (wX cI (D.1 99) zz g ad u.1 u.2.1 u.2.2)) (va_A (wX cI (D.1 99) zz g ad cn In Fn) sz)) 0 0 (va_A (wX cI (D.1 99) zz g ad cn In Fn) sz) := by
  have f6 := gq_GreadFactor6 l D cI cB cZ zz qq vv bt g 6 (by decide)
  have t6 := gq_GreadTerm l D cI cB cZ zz qq vv bt g 6 4 (by decide) f6
  have s6 := gq_GreadSum l D cI cB cZ zz qq vv bt g 6 5 (by decide) t6
  have f5 := gq_GreadFactor l D cI cB cZ zz qq vv bt g 5 6 (by decide) (by decide) (by rw [show (5 : Int32) + 1 = 6 by decide]; exact s6)
  have t5 := gq_GreadTerm l D cI cB cZ zz qq vv bt g 5 7 (by decide) f5
  have s5 := gq_GreadSum l D cI cB cZ zz qq vv bt g 5 8 (by decide) t5
  have f4 := gq_GreadFactor l D cI cB cZ zz qq vv bt g 4 9 (by decide) (by decide) (by rw [show (4 : Int32) + 1 = 5 by decide]; exact s5)
  have t4 := gq_GreadTerm l D cI cB cZ zz qq vv bt g 4 10 (by decide) f4
  have s4 := gq_GreadSum l D cI cB cZ zz qq vv bt g 4 11 (by decide) t4
  have f3 := gq_GreadFactor l D cI cB cZ zz qq vv bt g 3 12 (by decide) (by decide) (by rw [show (3 : Int32) + 1 = 4 by decide]; exact s4)
  have t3 := gq_GreadTerm l D cI cB cZ zz qq vv bt g 3 13 (by decide) f3
  have s3 := gq_GreadSum l D cI cB cZ zz qq vv bt g 3 14 (by decide) t3
  have f2 := gq_GreadFactor l D cI cB cZ zz qq vv bt g 2 15 (by decide) (by decide) (by rw [show (2 : Int32) + 1 = 3 by decide]; exact s3)
  have t2 := gq_GreadTerm l D cI cB cZ zz qq vv bt g 2 16 (by decide) f2
  have s2 := gq_GreadSum l D cI cB cZ zz qq vv bt g 2 17 (by decide) t2
  have f1 := gq_GreadFactor l D cI cB cZ zz qq vv bt g 1 18 (by decide) (by decide) (by rw [show (1 : Int32) + 1 = 2 by decide]; exact s2)
  have t1 := gq_GreadTerm l D cI cB cZ zz qq vv bt g 1 19 (by decide) f1
  have s1 := gq_GreadSum l D cI cB cZ zz qq vv bt g 1 20 (by decide) t1
  have f0 := gq_GreadFactor l D cI cB cZ zz qq vv bt g 0 21 (by decide) (by decide) (by rw [show (0 : Int32) + 1 = 1 by decide]; exact s1)
  have t0 := gq_GreadTerm l D cI cB cZ zz qq vv bt g 0 22 (by decide) f0
  have s0 := gq_GreadSum l D cI cB cZ zz qq vv bt g 0 23 (by decide) t0
  exact s0 ad cn In Fn sz hB hR h1 h3 h4 h9
set_option maxRecDepth 100000 in
set_option maxHeartbeats 4000000 in
theorem q_RreadCondition_1 (l : Launch) (D : va_G) (cI cB cZ : ClassId) (zz qq vv : Nat) (bt : Nat → Int32) (g : Nat → Nat) (ad : Nat → Nat → Nat) (cn : Nat → Nat) (In : Nat → Int32) (Fn : Nat → Nat → Int32)  (sz : Nat) (hB : CBX cn) (hR : ad 4 2 = g 40) (h1 : ad 4 1 < cn 6) (h3 : cn 31 ≤ cn 32) (h4 : cn 32 ≤ 160) (h9 : (Fn 199 (ad 4 1)).toInt ≤ 160) : Met l yX5_readCondition (CWS yX5_readCondition cX5_readCondition 3 none) (RM 24 0 0) (PBx [.ref (g 6), .int 1] D cI cB cZ zz qq vv bt (wX cI (D.1 99) zz g ad cn In Fn) sz) (va_Qv (fun (u : (Nat → Nat) × (Nat → Int32) × (Nat → Nat → Int32)) => (fun c2 I2 F2 => Fr [31, 32] [33] [195, 301] cn In Fn c2 I2 F2 ∧ CBX c2 ∧ (cn 31 ≤ c2 31 ∧ c2 31 ≤ c2 32 ∧ c2 32 ≤ cn 32)) u.1 u.2.1 u.2.2) (fun (u : (Nat → Nat) × (Nat → Int32) × (Nat → Nat → Int32)) (t : State) => va_P D vwCl (wX cI (D.1 99) zz g ad u.1 u.2.1 u.2.2) t.heap ∧ va_D (va_A (wX cI (D.1 99) zz g ad cn In Fn) sz) (wX cI (D.1 99) zz g ad u.1 u.2.1 u.2.2)) (va_A (wX cI (D.1 99) zz g ad cn In Fn) sz)) 0 0 (va_A (wX cI (D.1 99) zz g ad cn In Fn) sz) := by
  have f6 := gq_GreadFactor6 l D cI cB cZ zz qq vv bt g 6 (by decide)
  have t6 := gq_GreadTerm l D cI cB cZ zz qq vv bt g 6 4 (by decide) f6
  have s6 := gq_GreadSum l D cI cB cZ zz qq vv bt g 6 5 (by decide) t6
  have f5 := gq_GreadFactor l D cI cB cZ zz qq vv bt g 5 6 (by decide) (by decide) (by rw [show (5 : Int32) + 1 = 6 by decide]; exact s6)
  have t5 := gq_GreadTerm l D cI cB cZ zz qq vv bt g 5 7 (by decide) f5
  have s5 := gq_GreadSum l D cI cB cZ zz qq vv bt g 5 8 (by decide) t5
  have f4 := gq_GreadFactor l D cI cB cZ zz qq vv bt g 4 9 (by decide) (by decide) (by rw [show (4 : Int32) + 1 = 5 by decide]; exact s5)
  have t4 := gq_GreadTerm l D cI cB cZ zz qq vv bt g 4 10 (by decide) f4
  have s4 := gq_GreadSum l D cI cB cZ zz qq vv bt g 4 11 (by decide) t4
  have f3 := gq_GreadFactor l D cI cB cZ zz qq vv bt g 3 12 (by decide) (by decide) (by rw [show (3 : Int32) + 1 = 4 by decide]; exact s4)
  have t3 := gq_GreadTerm l D cI cB cZ zz qq vv bt g 3 13 (by decide) f3
  have s3 := gq_GreadSum l D cI cB cZ zz qq vv bt g 3 14 (by decide) t3
  have f2 := gq_GreadFactor l D cI cB cZ zz qq vv bt g 2 15 (by decide) (by decide) (by rw [show (2 : Int32) + 1 = 3 by decide]; exact s3)
  have t2 := gq_GreadTerm l D cI cB cZ zz qq vv bt g 2 16 (by decide) f2
  have s2 := gq_GreadSum l D cI cB cZ zz qq vv bt g 2 17 (by decide) t2
  have f1 := gq_GreadFactor l D cI cB cZ zz qq vv bt g 1 18 (by decide) (by decide) (by rw [show (1 : Int32) + 1 = 2 by decide]; exact s2)
  have t1 := gq_GreadTerm l D cI cB cZ zz qq vv bt g 1 19 (by decide) f1
  have s1 := gq_GreadSum l D cI cB cZ zz qq vv bt g 1 20 (by decide) t1
  have f0 := gq_GreadFactor l D cI cB cZ zz qq vv bt g 0 21 (by decide) (by decide) (by rw [show (0 : Int32) + 1 = 1 by decide]; exact s1)
  have t0 := gq_GreadTerm l D cI cB cZ zz qq vv bt g 0 22 (by decide) f0
  have s0 := gq_GreadSum l D cI cB cZ zz qq vv bt g 0 23 (by decide) t0
  have p6 := gq_GreadPiece6 l D cI cB cZ zz qq vv bt g 6 6 (by decide) (by decide) s6
  have u6 := gq_GreadPart l D cI cB cZ zz qq vv bt g 6 7 (by decide) p6
  have c6 := gq_GreadCondition l D cI cB cZ zz qq vv bt g 6 8 (by decide) u6
  have p5 := gq_GreadPiece l D cI cB cZ zz qq vv bt g 5 9 7 9 (by decide) (by decide) s5 (by rw [show (5 : Int32) + 1 = 6 by decide]; exact p6) (by rw [show (5 : Int32) + 1 = 6 by decide]; exact c6)
  have u5 := gq_GreadPart l D cI cB cZ zz qq vv bt g 5 10 (by decide) p5
  have c5 := gq_GreadCondition l D cI cB cZ zz qq vv bt g 5 11 (by decide) u5
  have p4 := gq_GreadPiece l D cI cB cZ zz qq vv bt g 4 12 10 12 (by decide) (by decide) s4 (by rw [show (4 : Int32) + 1 = 5 by decide]; exact p5) (by rw [show (4 : Int32) + 1 = 5 by decide]; exact c5)
  have u4 := gq_GreadPart l D cI cB cZ zz qq vv bt g 4 13 (by decide) p4
  have c4 := gq_GreadCondition l D cI cB cZ zz qq vv bt g 4 14 (by decide) u4
  have p3 := gq_GreadPiece l D cI cB cZ zz qq vv bt g 3 15 13 15 (by decide) (by decide) s3 (by rw [show (3 : Int32) + 1 = 4 by decide]; exact p4) (by rw [show (3 : Int32) + 1 = 4 by decide]; exact c4)
  have u3 := gq_GreadPart l D cI cB cZ zz qq vv bt g 3 16 (by decide) p3
  have c3 := gq_GreadCondition l D cI cB cZ zz qq vv bt g 3 17 (by decide) u3
  have p2 := gq_GreadPiece l D cI cB cZ zz qq vv bt g 2 18 16 18 (by decide) (by decide) s2 (by rw [show (2 : Int32) + 1 = 3 by decide]; exact p3) (by rw [show (2 : Int32) + 1 = 3 by decide]; exact c3)
  have u2 := gq_GreadPart l D cI cB cZ zz qq vv bt g 2 19 (by decide) p2
  have c2 := gq_GreadCondition l D cI cB cZ zz qq vv bt g 2 20 (by decide) u2
  have p1 := gq_GreadPiece l D cI cB cZ zz qq vv bt g 1 21 19 21 (by decide) (by decide) s1 (by rw [show (1 : Int32) + 1 = 2 by decide]; exact p2) (by rw [show (1 : Int32) + 1 = 2 by decide]; exact c2)
  have u1 := gq_GreadPart l D cI cB cZ zz qq vv bt g 1 22 (by decide) p1
  have c1 := gq_GreadCondition l D cI cB cZ zz qq vv bt g 1 23 (by decide) u1
  exact c1 ad cn In Fn sz hB hR h1 h3 h4 h9
end

section
theorem upd_upd9 {f : Nat → Int32} {k : Nat} {x y : Int32} : upd (upd f k x) k y = upd f k y := by
  funext i
  by_cases q : i = k
  · subst q; simp [upd]
  · simp [upd, q]
theorem upd_id9 {f : Nat → Int32} {k : Nat} {x : Int32} (h : f k = x) : f = upd f k x := by
  funext i
  by_cases q : i = k
  · subst q; simp [upd, h]
  · simp [upd, q]
theorem xtc_new {cn c2 : Nat → Nat} {Fn F2 : Nat → Nat → Int32} {n : Nat} (hC : ∀ k : Nat, k < cn 6 → ∃ n : Nat, n ≤ 12 ∧ Fn 198 k = nI n) (h6 : c2 6 = cn 6 + 1) (hn : n ≤ 12) (e : F2 198 = upd (Fn 198) (cn 6) (nI n)) : ∀ k : Nat, k < c2 6 → ∃ n : Nat, n ≤ 12 ∧ F2 198 k = nI n := fun k hk => by
  rw [e]
  by_cases q : k = cn 6
  · subst q; exact ⟨n, hn, by simp [upd]⟩
  · obtain ⟨m, hm, em⟩ := hC k (by omega)
    exact ⟨m, hm, by simp [upd, q, em]⟩
theorem xsl_new {cn c2 : Nat → Nat} {Fn F2 : Nat → Nat → Int32} {n : Nat} (hL : ∀ k : Nat, k < cn 6 → (Fn 199 k).toInt ≤ 160) (h6 : c2 6 = cn 6 + 1) (hn : n ≤ 160) (e : F2 199 = upd (Fn 199) (cn 6) (nI n)) : ∀ k : Nat, k < c2 6 → (F2 199 k).toInt ≤ 160 := fun k hk => by
  rw [e]
  by_cases q : k = cn 6
  · subst q; simp only [upd, if_true]; rw [nI_toInt (by omega)]; omega
  · simp only [upd, if_neg q]; exact hL k (by omega)
theorem ht_new {ad a2 : Nat → Nat → Nat} {cn c2 : Nat → Nat} (h : (∀ k : Nat, k < cn 10 → ad 3 k < cn 6) ∧ ad 4 0 < cn 6 ∧ ad 4 1 < cn 6) (h3 : ∀ k : Nat, a2 3 k = ad 3 k) (h40 : a2 4 0 = ad 4 0) (h41 : a2 4 1 = cn 6) (h6 : c2 6 = cn 6 + 1) (h10 : c2 10 = cn 10) : (∀ k : Nat, k < c2 10 → a2 3 k < c2 6) ∧ a2 4 0 < c2 6 ∧ a2 4 1 < c2 6 := by
  refine ⟨fun k hk => ?_, by have := h.2.1; omega, by omega⟩
  rw [h3]; have := h.1 k (by omega); omega
theorem ht_k3 {ad : Nat → Nat → Nat} {cn : Nat → Nat} {m T : Nat} (h : (∀ k : Nat, k < cn 10 → ad 3 k < cn 6) ∧ ad 4 0 < cn 6 ∧ ad 4 1 < cn 6) (hT : T < cn 6) : (∀ k : Nat, k < cn 10 → adO ad 3 m T 3 k < cn 6) ∧ adO ad 3 m T 4 0 < cn 6 ∧ adO ad 3 m T 4 1 < cn 6 := by
  refine ⟨fun k hk => ?_, by simpa [adO] using h.2.1, by simpa [adO] using h.2.2⟩
  unfold adO
  split
  · exact hT
  · exact h.1 k hk
theorem ht_l {ad : Nat → Nat → Nat} {cn : Nat → Nat} {T : Nat} (h : (∀ k : Nat, k < cn 10 → ad 3 k < cn 6) ∧ ad 4 0 < cn 6 ∧ ad 4 1 < cn 6) (hT : T < cn 6) : (∀ k : Nat, k < cn 10 → adO ad 4 0 T 3 k < cn 6) ∧ adO ad 4 0 T 4 0 < cn 6 ∧ adO ad 4 0 T 4 1 < cn 6 := ⟨fun k hk => by simpa [adO] using h.1 k hk, by simpa [adO] using hT, by simpa [adO] using h.2.2⟩
theorem xaddT {cI QA : ClassId} {zz : Nat} {g : Nat → Nat} {ad : Nat → Nat → Nat} {cn : Nat → Nat} {In : Nat → Int32} {Fn : Nat → Nat → Int32} {qt r0 r1 r2 r3 r4 n : Nat} (hT : ∀ k : Nat, k < cn 10 → ad 3 k < cn 6) (h40 : ad 4 0 < cn 6) (hn : (nI n).toInt.toNat = n) : List.Perm (((wX cI QA zz g ad cn In Fn).set 3 (g 6, .inr (6, [.ref (ad 4 2), .ref qt, .int (In 30), .int (nI (cn 31)), .int (nI (cn 32)), .int (In 33)]))) ++ ([(qt, .inr (10, [.ref r0, .ref r1, .ref r2, .ref r3, .ref r4, .int 0, .int 0, .int 0, .int 0])), (r0, .inl (cI, n, .inl (fun _ => 0))), (r1, .inl (cI, 12, .inl (fun _ => 0))), (r2, .inl (cI, 12, .inl (fun _ => 0))), (r3, .inl (cI, 12, .inl (fun _ => 0))), (r4, .inl (cI, 32, .inl (fun _ => 0)))] : va_W)) (wX cI QA zz g (adO (adO (adO (adO (adO (adO (adO ad 5 (cn 6) qt) 60 (cn 6) r0) 61 (cn 6) r1) 62 (cn 6) r2) 63 (cn 6) r3) 64 (cn 6) r4) 4 1 (cn 6)) (va_up cn 6 (cn 6 + 1)) In (va_up (va_up (va_up (va_up (va_up (va_up (va_up (va_up (va_up (va_up Fn 195 (upd (Fn 195) (cn 6) 0)) 196 (upd (Fn 196) (cn 6) 0)) 197 (upd (Fn 197) (cn 6) 0)) 198 (upd (Fn 198) (cn 6) 0)) 199 (upd (Fn 199) (cn 6) (nI n))) 301 (flat (Fn 301) 200 (cn 6) (fun _ => 0))) 302 (flat (Fn 302) 12 (cn 6) (fun _ => 0))) 303 (flat (Fn 303) 12 (cn 6) (fun _ => 0))) 304 (flat (Fn 304) 12 (cn 6) (fun _ => 0))) 305 (flat (Fn 305) 32 (cn 6) (fun _ => 0)))) := by
  have a1 : (wX cI QA zz g ad cn In Fn).set 3 (g 6, .inr (6, [.ref (ad 4 2), .ref qt, .int (In 30), .int (nI (cn 31)), .int (nI (cn 32)), .int (In 33)])) = fxX cI QA zz g (adO (adO (adO (adO (adO (adO (adO ad 5 (cn 6) qt) 60 (cn 6) r0) 61 (cn 6) r1) 62 (cn 6) r2) 63 (cn 6) r3) 64 (cn 6) r4) 4 1 (cn 6)) (va_up cn 6 (cn 6 + 1)) In (va_up (va_up (va_up (va_up (va_up (va_up (va_up (va_up (va_up (va_up Fn 195 (upd (Fn 195) (cn 6) 0)) 196 (upd (Fn 196) (cn 6) 0)) 197 (upd (Fn 197) (cn 6) 0)) 198 (upd (Fn 198) (cn 6) 0)) 199 (upd (Fn 199) (cn 6) (nI n))) 301 (flat (Fn 301) 200 (cn 6) (fun _ => 0))) 302 (flat (Fn 302) 12 (cn 6) (fun _ => 0))) 303 (flat (Fn 303) 12 (cn 6) (fun _ => 0))) 304 (flat (Fn 304) 12 (cn 6) (fun _ => 0))) 305 (flat (Fn 305) 32 (cn 6) (fun _ => 0))) ++ famW (fsX cI QA zz g ad cn In Fn) := by
    simp only [wX, fxX]
    simp [adO, va_up, Nat.ne_of_lt h40, hn]
  have a5_0 : e7X cI QA zz g (adO (adO (adO (adO (adO (adO (adO ad 5 (cn 6) qt) 60 (cn 6) r0) 61 (cn 6) r1) 62 (cn 6) r2) 63 (cn 6) r3) 64 (cn 6) r4) 4 1 (cn 6)) (va_up cn 6 (cn 6 + 1)) In (va_up (va_up (va_up (va_up (va_up (va_up (va_up (va_up (va_up (va_up Fn 195 (upd (Fn 195) (cn 6) 0)) 196 (upd (Fn 196) (cn 6) 0)) 197 (upd (Fn 197) (cn 6) 0)) 198 (upd (Fn 198) (cn 6) 0)) 199 (upd (Fn 199) (cn 6) (nI n))) 301 (flat (Fn 301) 200 (cn 6) (fun _ => 0))) 302 (flat (Fn 302) 12 (cn 6) (fun _ => 0))) 303 (flat (Fn 303) 12 (cn 6) (fun _ => 0))) 304 (flat (Fn 304) 12 (cn 6) (fun _ => 0))) 305 (flat (Fn 305) 32 (cn 6) (fun _ => 0))) (cn 6) = (qt, .inr (10, [.ref r0, .ref r1, .ref r2, .ref r3, .ref r4, .int 0, .int 0, .int 0, .int 0])) := by simp [e7X, adO, va_up, upd, gA_flat, Nat.ne_of_lt h40, hn]
  have a5_1 : e8X cI QA zz g (adO (adO (adO (adO (adO (adO (adO ad 5 (cn 6) qt) 60 (cn 6) r0) 61 (cn 6) r1) 62 (cn 6) r2) 63 (cn 6) r3) 64 (cn 6) r4) 4 1 (cn 6)) (va_up cn 6 (cn 6 + 1)) In (va_up (va_up (va_up (va_up (va_up (va_up (va_up (va_up (va_up (va_up Fn 195 (upd (Fn 195) (cn 6) 0)) 196 (upd (Fn 196) (cn 6) 0)) 197 (upd (Fn 197) (cn 6) 0)) 198 (upd (Fn 198) (cn 6) 0)) 199 (upd (Fn 199) (cn 6) (nI n))) 301 (flat (Fn 301) 200 (cn 6) (fun _ => 0))) 302 (flat (Fn 302) 12 (cn 6) (fun _ => 0))) 303 (flat (Fn 303) 12 (cn 6) (fun _ => 0))) 304 (flat (Fn 304) 12 (cn 6) (fun _ => 0))) 305 (flat (Fn 305) 32 (cn 6) (fun _ => 0))) (cn 6) = (r0, .inl (cI, n, .inl (fun _ => 0))) := by simp [e8X, adO, va_up, upd, gA_flat, Nat.ne_of_lt h40, hn]
  have a5_2 : e9X cI QA zz g (adO (adO (adO (adO (adO (adO (adO ad 5 (cn 6) qt) 60 (cn 6) r0) 61 (cn 6) r1) 62 (cn 6) r2) 63 (cn 6) r3) 64 (cn 6) r4) 4 1 (cn 6)) (va_up cn 6 (cn 6 + 1)) In (va_up (va_up (va_up (va_up (va_up (va_up (va_up (va_up (va_up (va_up Fn 195 (upd (Fn 195) (cn 6) 0)) 196 (upd (Fn 196) (cn 6) 0)) 197 (upd (Fn 197) (cn 6) 0)) 198 (upd (Fn 198) (cn 6) 0)) 199 (upd (Fn 199) (cn 6) (nI n))) 301 (flat (Fn 301) 200 (cn 6) (fun _ => 0))) 302 (flat (Fn 302) 12 (cn 6) (fun _ => 0))) 303 (flat (Fn 303) 12 (cn 6) (fun _ => 0))) 304 (flat (Fn 304) 12 (cn 6) (fun _ => 0))) 305 (flat (Fn 305) 32 (cn 6) (fun _ => 0))) (cn 6) = (r1, .inl (cI, 12, .inl (fun _ => 0))) := by simp [e9X, adO, va_up, upd, gA_flat, Nat.ne_of_lt h40, hn]
  have a5_3 : e10X cI QA zz g (adO (adO (adO (adO (adO (adO (adO ad 5 (cn 6) qt) 60 (cn 6) r0) 61 (cn 6) r1) 62 (cn 6) r2) 63 (cn 6) r3) 64 (cn 6) r4) 4 1 (cn 6)) (va_up cn 6 (cn 6 + 1)) In (va_up (va_up (va_up (va_up (va_up (va_up (va_up (va_up (va_up (va_up Fn 195 (upd (Fn 195) (cn 6) 0)) 196 (upd (Fn 196) (cn 6) 0)) 197 (upd (Fn 197) (cn 6) 0)) 198 (upd (Fn 198) (cn 6) 0)) 199 (upd (Fn 199) (cn 6) (nI n))) 301 (flat (Fn 301) 200 (cn 6) (fun _ => 0))) 302 (flat (Fn 302) 12 (cn 6) (fun _ => 0))) 303 (flat (Fn 303) 12 (cn 6) (fun _ => 0))) 304 (flat (Fn 304) 12 (cn 6) (fun _ => 0))) 305 (flat (Fn 305) 32 (cn 6) (fun _ => 0))) (cn 6) = (r2, .inl (cI, 12, .inl (fun _ => 0))) := by simp [e10X, adO, va_up, upd, gA_flat, Nat.ne_of_lt h40, hn]
  have a5_4 : e11X cI QA zz g (adO (adO (adO (adO (adO (adO (adO ad 5 (cn 6) qt) 60 (cn 6) r0) 61 (cn 6) r1) 62 (cn 6) r2) 63 (cn 6) r3) 64 (cn 6) r4) 4 1 (cn 6)) (va_up cn 6 (cn 6 + 1)) In (va_up (va_up (va_up (va_up (va_up (va_up (va_up (va_up (va_up (va_up Fn 195 (upd (Fn 195) (cn 6) 0)) 196 (upd (Fn 196) (cn 6) 0)) 197 (upd (Fn 197) (cn 6) 0)) 198 (upd (Fn 198) (cn 6) 0)) 199 (upd (Fn 199) (cn 6) (nI n))) 301 (flat (Fn 301) 200 (cn 6) (fun _ => 0))) 302 (flat (Fn 302) 12 (cn 6) (fun _ => 0))) 303 (flat (Fn 303) 12 (cn 6) (fun _ => 0))) 304 (flat (Fn 304) 12 (cn 6) (fun _ => 0))) 305 (flat (Fn 305) 32 (cn 6) (fun _ => 0))) (cn 6) = (r3, .inl (cI, 12, .inl (fun _ => 0))) := by simp [e11X, adO, va_up, upd, gA_flat, Nat.ne_of_lt h40, hn]
  have a5_5 : e12X cI QA zz g (adO (adO (adO (adO (adO (adO (adO ad 5 (cn 6) qt) 60 (cn 6) r0) 61 (cn 6) r1) 62 (cn 6) r2) 63 (cn 6) r3) 64 (cn 6) r4) 4 1 (cn 6)) (va_up cn 6 (cn 6 + 1)) In (va_up (va_up (va_up (va_up (va_up (va_up (va_up (va_up (va_up (va_up Fn 195 (upd (Fn 195) (cn 6) 0)) 196 (upd (Fn 196) (cn 6) 0)) 197 (upd (Fn 197) (cn 6) 0)) 198 (upd (Fn 198) (cn 6) 0)) 199 (upd (Fn 199) (cn 6) (nI n))) 301 (flat (Fn 301) 200 (cn 6) (fun _ => 0))) 302 (flat (Fn 302) 12 (cn 6) (fun _ => 0))) 303 (flat (Fn 303) 12 (cn 6) (fun _ => 0))) 304 (flat (Fn 304) 12 (cn 6) (fun _ => 0))) 305 (flat (Fn 305) 32 (cn 6) (fun _ => 0))) (cn 6) = (r4, .inl (cI, 32, .inl (fun _ => 0))) := by simp [e12X, adO, va_up, upd, gA_flat, Nat.ne_of_lt h40, hn]
  have b0 : famW (fsX cI QA zz g (adO (adO (adO (adO (adO (adO (adO ad 5 (cn 6) qt) 60 (cn 6) r0) 61 (cn 6) r1) 62 (cn 6) r2) 63 (cn 6) r3) 64 (cn 6) r4) 4 1 (cn 6)) (va_up cn 6 (cn 6 + 1)) In (va_up (va_up (va_up (va_up (va_up (va_up (va_up (va_up (va_up (va_up Fn 195 (upd (Fn 195) (cn 6) 0)) 196 (upd (Fn 196) (cn 6) 0)) 197 (upd (Fn 197) (cn 6) 0)) 198 (upd (Fn 198) (cn 6) 0)) 199 (upd (Fn 199) (cn 6) (nI n))) 301 (flat (Fn 301) 200 (cn 6) (fun _ => 0))) 302 (flat (Fn 302) 12 (cn 6) (fun _ => 0))) 303 (flat (Fn 303) 12 (cn 6) (fun _ => 0))) 304 (flat (Fn 304) 12 (cn 6) (fun _ => 0))) 305 (flat (Fn 305) 32 (cn 6) (fun _ => 0)))) = famW [((cn 10), e0X cI QA zz g ad cn In Fn), ((cn 11), e1X cI QA zz g ad cn In Fn), ((cn 12), e2X cI QA zz g ad cn In Fn), ((cn 13), e3X cI QA zz g ad cn In Fn), ((cn 14), e4X cI QA zz g ad cn In Fn), ((cn 15), e5X cI QA zz g ad cn In Fn), ((cn 12), e6X cI QA zz g ad cn In Fn), ((cn 6) + 1, e7X cI QA zz g (adO (adO (adO (adO (adO (adO (adO ad 5 (cn 6) qt) 60 (cn 6) r0) 61 (cn 6) r1) 62 (cn 6) r2) 63 (cn 6) r3) 64 (cn 6) r4) 4 1 (cn 6)) (va_up cn 6 (cn 6 + 1)) In (va_up (va_up (va_up (va_up (va_up (va_up (va_up (va_up (va_up (va_up Fn 195 (upd (Fn 195) (cn 6) 0)) 196 (upd (Fn 196) (cn 6) 0)) 197 (upd (Fn 197) (cn 6) 0)) 198 (upd (Fn 198) (cn 6) 0)) 199 (upd (Fn 199) (cn 6) (nI n))) 301 (flat (Fn 301) 200 (cn 6) (fun _ => 0))) 302 (flat (Fn 302) 12 (cn 6) (fun _ => 0))) 303 (flat (Fn 303) 12 (cn 6) (fun _ => 0))) 304 (flat (Fn 304) 12 (cn 6) (fun _ => 0))) 305 (flat (Fn 305) 32 (cn 6) (fun _ => 0)))), ((cn 6) + 1, e8X cI QA zz g (adO (adO (adO (adO (adO (adO (adO ad 5 (cn 6) qt) 60 (cn 6) r0) 61 (cn 6) r1) 62 (cn 6) r2) 63 (cn 6) r3) 64 (cn 6) r4) 4 1 (cn 6)) (va_up cn 6 (cn 6 + 1)) In (va_up (va_up (va_up (va_up (va_up (va_up (va_up (va_up (va_up (va_up Fn 195 (upd (Fn 195) (cn 6) 0)) 196 (upd (Fn 196) (cn 6) 0)) 197 (upd (Fn 197) (cn 6) 0)) 198 (upd (Fn 198) (cn 6) 0)) 199 (upd (Fn 199) (cn 6) (nI n))) 301 (flat (Fn 301) 200 (cn 6) (fun _ => 0))) 302 (flat (Fn 302) 12 (cn 6) (fun _ => 0))) 303 (flat (Fn 303) 12 (cn 6) (fun _ => 0))) 304 (flat (Fn 304) 12 (cn 6) (fun _ => 0))) 305 (flat (Fn 305) 32 (cn 6) (fun _ => 0)))), ((cn 6) + 1, e9X cI QA zz g (adO (adO (adO (adO (adO (adO (adO ad 5 (cn 6) qt) 60 (cn 6) r0) 61 (cn 6) r1) 62 (cn 6) r2) 63 (cn 6) r3) 64 (cn 6) r4) 4 1 (cn 6)) (va_up cn 6 (cn 6 + 1)) In (va_up (va_up (va_up (va_up (va_up (va_up (va_up (va_up (va_up (va_up Fn 195 (upd (Fn 195) (cn 6) 0)) 196 (upd (Fn 196) (cn 6) 0)) 197 (upd (Fn 197) (cn 6) 0)) 198 (upd (Fn 198) (cn 6) 0)) 199 (upd (Fn 199) (cn 6) (nI n))) 301 (flat (Fn 301) 200 (cn 6) (fun _ => 0))) 302 (flat (Fn 302) 12 (cn 6) (fun _ => 0))) 303 (flat (Fn 303) 12 (cn 6) (fun _ => 0))) 304 (flat (Fn 304) 12 (cn 6) (fun _ => 0))) 305 (flat (Fn 305) 32 (cn 6) (fun _ => 0)))), ((cn 6) + 1, e10X cI QA zz g (adO (adO (adO (adO (adO (adO (adO ad 5 (cn 6) qt) 60 (cn 6) r0) 61 (cn 6) r1) 62 (cn 6) r2) 63 (cn 6) r3) 64 (cn 6) r4) 4 1 (cn 6)) (va_up cn 6 (cn 6 + 1)) In (va_up (va_up (va_up (va_up (va_up (va_up (va_up (va_up (va_up (va_up Fn 195 (upd (Fn 195) (cn 6) 0)) 196 (upd (Fn 196) (cn 6) 0)) 197 (upd (Fn 197) (cn 6) 0)) 198 (upd (Fn 198) (cn 6) 0)) 199 (upd (Fn 199) (cn 6) (nI n))) 301 (flat (Fn 301) 200 (cn 6) (fun _ => 0))) 302 (flat (Fn 302) 12 (cn 6) (fun _ => 0))) 303 (flat (Fn 303) 12 (cn 6) (fun _ => 0))) 304 (flat (Fn 304) 12 (cn 6) (fun _ => 0))) 305 (flat (Fn 305) 32 (cn 6) (fun _ => 0)))), ((cn 6) + 1, e11X cI QA zz g (adO (adO (adO (adO (adO (adO (adO ad 5 (cn 6) qt) 60 (cn 6) r0) 61 (cn 6) r1) 62 (cn 6) r2) 63 (cn 6) r3) 64 (cn 6) r4) 4 1 (cn 6)) (va_up cn 6 (cn 6 + 1)) In (va_up (va_up (va_up (va_up (va_up (va_up (va_up (va_up (va_up (va_up Fn 195 (upd (Fn 195) (cn 6) 0)) 196 (upd (Fn 196) (cn 6) 0)) 197 (upd (Fn 197) (cn 6) 0)) 198 (upd (Fn 198) (cn 6) 0)) 199 (upd (Fn 199) (cn 6) (nI n))) 301 (flat (Fn 301) 200 (cn 6) (fun _ => 0))) 302 (flat (Fn 302) 12 (cn 6) (fun _ => 0))) 303 (flat (Fn 303) 12 (cn 6) (fun _ => 0))) 304 (flat (Fn 304) 12 (cn 6) (fun _ => 0))) 305 (flat (Fn 305) 32 (cn 6) (fun _ => 0)))), ((cn 6) + 1, e12X cI QA zz g (adO (adO (adO (adO (adO (adO (adO ad 5 (cn 6) qt) 60 (cn 6) r0) 61 (cn 6) r1) 62 (cn 6) r2) 63 (cn 6) r3) 64 (cn 6) r4) 4 1 (cn 6)) (va_up cn 6 (cn 6 + 1)) In (va_up (va_up (va_up (va_up (va_up (va_up (va_up (va_up (va_up (va_up Fn 195 (upd (Fn 195) (cn 6) 0)) 196 (upd (Fn 196) (cn 6) 0)) 197 (upd (Fn 197) (cn 6) 0)) 198 (upd (Fn 198) (cn 6) 0)) 199 (upd (Fn 199) (cn 6) (nI n))) 301 (flat (Fn 301) 200 (cn 6) (fun _ => 0))) 302 (flat (Fn 302) 12 (cn 6) (fun _ => 0))) 303 (flat (Fn 303) 12 (cn 6) (fun _ => 0))) 304 (flat (Fn 304) 12 (cn 6) (fun _ => 0))) 305 (flat (Fn 305) 32 (cn 6) (fun _ => 0)))), ((min 1 (cn 10)), e13X cI QA zz g ad cn In Fn), ((min 1 (cn 11)), e14X cI QA zz g ad cn In Fn), ((min 1 (cn 12)), e15X cI QA zz g ad cn In Fn), ((min 1 (cn 13)), e16X cI QA zz g ad cn In Fn), ((min 1 (cn 14)), e17X cI QA zz g ad cn In Fn), ((min 1 (cn 15)), e18X cI QA zz g ad cn In Fn)] := famW_cg (show famE [(((va_up cn 6 (cn 6 + 1)) 10), e0X cI QA zz g (adO (adO (adO (adO (adO (adO (adO ad 5 (cn 6) qt) 60 (cn 6) r0) 61 (cn 6) r1) 62 (cn 6) r2) 63 (cn 6) r3) 64 (cn 6) r4) 4 1 (cn 6)) (va_up cn 6 (cn 6 + 1)) In (va_up (va_up (va_up (va_up (va_up (va_up (va_up (va_up (va_up (va_up Fn 195 (upd (Fn 195) (cn 6) 0)) 196 (upd (Fn 196) (cn 6) 0)) 197 (upd (Fn 197) (cn 6) 0)) 198 (upd (Fn 198) (cn 6) 0)) 199 (upd (Fn 199) (cn 6) (nI n))) 301 (flat (Fn 301) 200 (cn 6) (fun _ => 0))) 302 (flat (Fn 302) 12 (cn 6) (fun _ => 0))) 303 (flat (Fn 303) 12 (cn 6) (fun _ => 0))) 304 (flat (Fn 304) 12 (cn 6) (fun _ => 0))) 305 (flat (Fn 305) 32 (cn 6) (fun _ => 0)))), (((va_up cn 6 (cn 6 + 1)) 11), e1X cI QA zz g (adO (adO (adO (adO (adO (adO (adO ad 5 (cn 6) qt) 60 (cn 6) r0) 61 (cn 6) r1) 62 (cn 6) r2) 63 (cn 6) r3) 64 (cn 6) r4) 4 1 (cn 6)) (va_up cn 6 (cn 6 + 1)) In (va_up (va_up (va_up (va_up (va_up (va_up (va_up (va_up (va_up (va_up Fn 195 (upd (Fn 195) (cn 6) 0)) 196 (upd (Fn 196) (cn 6) 0)) 197 (upd (Fn 197) (cn 6) 0)) 198 (upd (Fn 198) (cn 6) 0)) 199 (upd (Fn 199) (cn 6) (nI n))) 301 (flat (Fn 301) 200 (cn 6) (fun _ => 0))) 302 (flat (Fn 302) 12 (cn 6) (fun _ => 0))) 303 (flat (Fn 303) 12 (cn 6) (fun _ => 0))) 304 (flat (Fn 304) 12 (cn 6) (fun _ => 0))) 305 (flat (Fn 305) 32 (cn 6) (fun _ => 0)))), (((va_up cn 6 (cn 6 + 1)) 12), e2X cI QA zz g (adO (adO (adO (adO (adO (adO (adO ad 5 (cn 6) qt) 60 (cn 6) r0) 61 (cn 6) r1) 62 (cn 6) r2) 63 (cn 6) r3) 64 (cn 6) r4) 4 1 (cn 6)) (va_up cn 6 (cn 6 + 1)) In (va_up (va_up (va_up (va_up (va_up (va_up (va_up (va_up (va_up (va_up Fn 195 (upd (Fn 195) (cn 6) 0)) 196 (upd (Fn 196) (cn 6) 0)) 197 (upd (Fn 197) (cn 6) 0)) 198 (upd (Fn 198) (cn 6) 0)) 199 (upd (Fn 199) (cn 6) (nI n))) 301 (flat (Fn 301) 200 (cn 6) (fun _ => 0))) 302 (flat (Fn 302) 12 (cn 6) (fun _ => 0))) 303 (flat (Fn 303) 12 (cn 6) (fun _ => 0))) 304 (flat (Fn 304) 12 (cn 6) (fun _ => 0))) 305 (flat (Fn 305) 32 (cn 6) (fun _ => 0)))), (((va_up cn 6 (cn 6 + 1)) 13), e3X cI QA zz g (adO (adO (adO (adO (adO (adO (adO ad 5 (cn 6) qt) 60 (cn 6) r0) 61 (cn 6) r1) 62 (cn 6) r2) 63 (cn 6) r3) 64 (cn 6) r4) 4 1 (cn 6)) (va_up cn 6 (cn 6 + 1)) In (va_up (va_up (va_up (va_up (va_up (va_up (va_up (va_up (va_up (va_up Fn 195 (upd (Fn 195) (cn 6) 0)) 196 (upd (Fn 196) (cn 6) 0)) 197 (upd (Fn 197) (cn 6) 0)) 198 (upd (Fn 198) (cn 6) 0)) 199 (upd (Fn 199) (cn 6) (nI n))) 301 (flat (Fn 301) 200 (cn 6) (fun _ => 0))) 302 (flat (Fn 302) 12 (cn 6) (fun _ => 0))) 303 (flat (Fn 303) 12 (cn 6) (fun _ => 0))) 304 (flat (Fn 304) 12 (cn 6) (fun _ => 0))) 305 (flat (Fn 305) 32 (cn 6) (fun _ => 0)))), (((va_up cn 6 (cn 6 + 1)) 14), e4X cI QA zz g (adO (adO (adO (adO (adO (adO (adO ad 5 (cn 6) qt) 60 (cn 6) r0) 61 (cn 6) r1) 62 (cn 6) r2) 63 (cn 6) r3) 64 (cn 6) r4) 4 1 (cn 6)) (va_up cn 6 (cn 6 + 1)) In (va_up (va_up (va_up (va_up (va_up (va_up (va_up (va_up (va_up (va_up Fn 195 (upd (Fn 195) (cn 6) 0)) 196 (upd (Fn 196) (cn 6) 0)) 197 (upd (Fn 197) (cn 6) 0)) 198 (upd (Fn 198) (cn 6) 0)) 199 (upd (Fn 199) (cn 6) (nI n))) 301 (flat (Fn 301) 200 (cn 6) (fun _ => 0))) 302 (flat (Fn 302) 12 (cn 6) (fun _ => 0))) 303 (flat (Fn 303) 12 (cn 6) (fun _ => 0))) 304 (flat (Fn 304) 12 (cn 6) (fun _ => 0))) 305 (flat (Fn 305) 32 (cn 6) (fun _ => 0)))), (((va_up cn 6 (cn 6 + 1)) 15), e5X cI QA zz g (adO (adO (adO (adO (adO (adO (adO ad 5 (cn 6) qt) 60 (cn 6) r0) 61 (cn 6) r1) 62 (cn 6) r2) 63 (cn 6) r3) 64 (cn 6) r4) 4 1 (cn 6)) (va_up cn 6 (cn 6 + 1)) In (va_up (va_up (va_up (va_up (va_up (va_up (va_up (va_up (va_up (va_up Fn 195 (upd (Fn 195) (cn 6) 0)) 196 (upd (Fn 196) (cn 6) 0)) 197 (upd (Fn 197) (cn 6) 0)) 198 (upd (Fn 198) (cn 6) 0)) 199 (upd (Fn 199) (cn 6) (nI n))) 301 (flat (Fn 301) 200 (cn 6) (fun _ => 0))) 302 (flat (Fn 302) 12 (cn 6) (fun _ => 0))) 303 (flat (Fn 303) 12 (cn 6) (fun _ => 0))) 304 (flat (Fn 304) 12 (cn 6) (fun _ => 0))) 305 (flat (Fn 305) 32 (cn 6) (fun _ => 0)))), (((va_up cn 6 (cn 6 + 1)) 12), e6X cI QA zz g (adO (adO (adO (adO (adO (adO (adO ad 5 (cn 6) qt) 60 (cn 6) r0) 61 (cn 6) r1) 62 (cn 6) r2) 63 (cn 6) r3) 64 (cn 6) r4) 4 1 (cn 6)) (va_up cn 6 (cn 6 + 1)) In (va_up (va_up (va_up (va_up (va_up (va_up (va_up (va_up (va_up (va_up Fn 195 (upd (Fn 195) (cn 6) 0)) 196 (upd (Fn 196) (cn 6) 0)) 197 (upd (Fn 197) (cn 6) 0)) 198 (upd (Fn 198) (cn 6) 0)) 199 (upd (Fn 199) (cn 6) (nI n))) 301 (flat (Fn 301) 200 (cn 6) (fun _ => 0))) 302 (flat (Fn 302) 12 (cn 6) (fun _ => 0))) 303 (flat (Fn 303) 12 (cn 6) (fun _ => 0))) 304 (flat (Fn 304) 12 (cn 6) (fun _ => 0))) 305 (flat (Fn 305) 32 (cn 6) (fun _ => 0)))), (((va_up cn 6 (cn 6 + 1)) 6), e7X cI QA zz g (adO (adO (adO (adO (adO (adO (adO ad 5 (cn 6) qt) 60 (cn 6) r0) 61 (cn 6) r1) 62 (cn 6) r2) 63 (cn 6) r3) 64 (cn 6) r4) 4 1 (cn 6)) (va_up cn 6 (cn 6 + 1)) In (va_up (va_up (va_up (va_up (va_up (va_up (va_up (va_up (va_up (va_up Fn 195 (upd (Fn 195) (cn 6) 0)) 196 (upd (Fn 196) (cn 6) 0)) 197 (upd (Fn 197) (cn 6) 0)) 198 (upd (Fn 198) (cn 6) 0)) 199 (upd (Fn 199) (cn 6) (nI n))) 301 (flat (Fn 301) 200 (cn 6) (fun _ => 0))) 302 (flat (Fn 302) 12 (cn 6) (fun _ => 0))) 303 (flat (Fn 303) 12 (cn 6) (fun _ => 0))) 304 (flat (Fn 304) 12 (cn 6) (fun _ => 0))) 305 (flat (Fn 305) 32 (cn 6) (fun _ => 0)))), (((va_up cn 6 (cn 6 + 1)) 6), e8X cI QA zz g (adO (adO (adO (adO (adO (adO (adO ad 5 (cn 6) qt) 60 (cn 6) r0) 61 (cn 6) r1) 62 (cn 6) r2) 63 (cn 6) r3) 64 (cn 6) r4) 4 1 (cn 6)) (va_up cn 6 (cn 6 + 1)) In (va_up (va_up (va_up (va_up (va_up (va_up (va_up (va_up (va_up (va_up Fn 195 (upd (Fn 195) (cn 6) 0)) 196 (upd (Fn 196) (cn 6) 0)) 197 (upd (Fn 197) (cn 6) 0)) 198 (upd (Fn 198) (cn 6) 0)) 199 (upd (Fn 199) (cn 6) (nI n))) 301 (flat (Fn 301) 200 (cn 6) (fun _ => 0))) 302 (flat (Fn 302) 12 (cn 6) (fun _ => 0))) 303 (flat (Fn 303) 12 (cn 6) (fun _ => 0))) 304 (flat (Fn 304) 12 (cn 6) (fun _ => 0))) 305 (flat (Fn 305) 32 (cn 6) (fun _ => 0)))), (((va_up cn 6 (cn 6 + 1)) 6), e9X cI QA zz g (adO (adO (adO (adO (adO (adO (adO ad 5 (cn 6) qt) 60 (cn 6) r0) 61 (cn 6) r1) 62 (cn 6) r2) 63 (cn 6) r3) 64 (cn 6) r4) 4 1 (cn 6)) (va_up cn 6 (cn 6 + 1)) In (va_up (va_up (va_up (va_up (va_up (va_up (va_up (va_up (va_up (va_up Fn 195 (upd (Fn 195) (cn 6) 0)) 196 (upd (Fn 196) (cn 6) 0)) 197 (upd (Fn 197) (cn 6) 0)) 198 (upd (Fn 198) (cn 6) 0)) 199 (upd (Fn 199) (cn 6) (nI n))) 301 (flat (Fn 301) 200 (cn 6) (fun _ => 0))) 302 (flat (Fn 302) 12 (cn 6) (fun _ => 0))) 303 (flat (Fn 303) 12 (cn 6) (fun _ => 0))) 304 (flat (Fn 304) 12 (cn 6) (fun _ => 0))) 305 (flat (Fn 305) 32 (cn 6) (fun _ => 0)))), (((va_up cn 6 (cn 6 + 1)) 6), e10X cI QA zz g (adO (adO (adO (adO (adO (adO (adO ad 5 (cn 6) qt) 60 (cn 6) r0) 61 (cn 6) r1) 62 (cn 6) r2) 63 (cn 6) r3) 64 (cn 6) r4) 4 1 (cn 6)) (va_up cn 6 (cn 6 + 1)) In (va_up (va_up (va_up (va_up (va_up (va_up (va_up (va_up (va_up (va_up Fn 195 (upd (Fn 195) (cn 6) 0)) 196 (upd (Fn 196) (cn 6) 0)) 197 (upd (Fn 197) (cn 6) 0)) 198 (upd (Fn 198) (cn 6) 0)) 199 (upd (Fn 199) (cn 6) (nI n))) 301 (flat (Fn 301) 200 (cn 6) (fun _ => 0))) 302 (flat (Fn 302) 12 (cn 6) (fun _ => 0))) 303 (flat (Fn 303) 12 (cn 6) (fun _ => 0))) 304 (flat (Fn 304) 12 (cn 6) (fun _ => 0))) 305 (flat (Fn 305) 32 (cn 6) (fun _ => 0)))), (((va_up cn 6 (cn 6 + 1)) 6), e11X cI QA zz g (adO (adO (adO (adO (adO (adO (adO ad 5 (cn 6) qt) 60 (cn 6) r0) 61 (cn 6) r1) 62 (cn 6) r2) 63 (cn 6) r3) 64 (cn 6) r4) 4 1 (cn 6)) (va_up cn 6 (cn 6 + 1)) In (va_up (va_up (va_up (va_up (va_up (va_up (va_up (va_up (va_up (va_up Fn 195 (upd (Fn 195) (cn 6) 0)) 196 (upd (Fn 196) (cn 6) 0)) 197 (upd (Fn 197) (cn 6) 0)) 198 (upd (Fn 198) (cn 6) 0)) 199 (upd (Fn 199) (cn 6) (nI n))) 301 (flat (Fn 301) 200 (cn 6) (fun _ => 0))) 302 (flat (Fn 302) 12 (cn 6) (fun _ => 0))) 303 (flat (Fn 303) 12 (cn 6) (fun _ => 0))) 304 (flat (Fn 304) 12 (cn 6) (fun _ => 0))) 305 (flat (Fn 305) 32 (cn 6) (fun _ => 0)))), (((va_up cn 6 (cn 6 + 1)) 6), e12X cI QA zz g (adO (adO (adO (adO (adO (adO (adO ad 5 (cn 6) qt) 60 (cn 6) r0) 61 (cn 6) r1) 62 (cn 6) r2) 63 (cn 6) r3) 64 (cn 6) r4) 4 1 (cn 6)) (va_up cn 6 (cn 6 + 1)) In (va_up (va_up (va_up (va_up (va_up (va_up (va_up (va_up (va_up (va_up Fn 195 (upd (Fn 195) (cn 6) 0)) 196 (upd (Fn 196) (cn 6) 0)) 197 (upd (Fn 197) (cn 6) 0)) 198 (upd (Fn 198) (cn 6) 0)) 199 (upd (Fn 199) (cn 6) (nI n))) 301 (flat (Fn 301) 200 (cn 6) (fun _ => 0))) 302 (flat (Fn 302) 12 (cn 6) (fun _ => 0))) 303 (flat (Fn 303) 12 (cn 6) (fun _ => 0))) 304 (flat (Fn 304) 12 (cn 6) (fun _ => 0))) 305 (flat (Fn 305) 32 (cn 6) (fun _ => 0)))), ((min 1 ((va_up cn 6 (cn 6 + 1)) 10)), e13X cI QA zz g (adO (adO (adO (adO (adO (adO (adO ad 5 (cn 6) qt) 60 (cn 6) r0) 61 (cn 6) r1) 62 (cn 6) r2) 63 (cn 6) r3) 64 (cn 6) r4) 4 1 (cn 6)) (va_up cn 6 (cn 6 + 1)) In (va_up (va_up (va_up (va_up (va_up (va_up (va_up (va_up (va_up (va_up Fn 195 (upd (Fn 195) (cn 6) 0)) 196 (upd (Fn 196) (cn 6) 0)) 197 (upd (Fn 197) (cn 6) 0)) 198 (upd (Fn 198) (cn 6) 0)) 199 (upd (Fn 199) (cn 6) (nI n))) 301 (flat (Fn 301) 200 (cn 6) (fun _ => 0))) 302 (flat (Fn 302) 12 (cn 6) (fun _ => 0))) 303 (flat (Fn 303) 12 (cn 6) (fun _ => 0))) 304 (flat (Fn 304) 12 (cn 6) (fun _ => 0))) 305 (flat (Fn 305) 32 (cn 6) (fun _ => 0)))), ((min 1 ((va_up cn 6 (cn 6 + 1)) 11)), e14X cI QA zz g (adO (adO (adO (adO (adO (adO (adO ad 5 (cn 6) qt) 60 (cn 6) r0) 61 (cn 6) r1) 62 (cn 6) r2) 63 (cn 6) r3) 64 (cn 6) r4) 4 1 (cn 6)) (va_up cn 6 (cn 6 + 1)) In (va_up (va_up (va_up (va_up (va_up (va_up (va_up (va_up (va_up (va_up Fn 195 (upd (Fn 195) (cn 6) 0)) 196 (upd (Fn 196) (cn 6) 0)) 197 (upd (Fn 197) (cn 6) 0)) 198 (upd (Fn 198) (cn 6) 0)) 199 (upd (Fn 199) (cn 6) (nI n))) 301 (flat (Fn 301) 200 (cn 6) (fun _ => 0))) 302 (flat (Fn 302) 12 (cn 6) (fun _ => 0))) 303 (flat (Fn 303) 12 (cn 6) (fun _ => 0))) 304 (flat (Fn 304) 12 (cn 6) (fun _ => 0))) 305 (flat (Fn 305) 32 (cn 6) (fun _ => 0)))), ((min 1 ((va_up cn 6 (cn 6 + 1)) 12)), e15X cI QA zz g (adO (adO (adO (adO (adO (adO (adO ad 5 (cn 6) qt) 60 (cn 6) r0) 61 (cn 6) r1) 62 (cn 6) r2) 63 (cn 6) r3) 64 (cn 6) r4) 4 1 (cn 6)) (va_up cn 6 (cn 6 + 1)) In (va_up (va_up (va_up (va_up (va_up (va_up (va_up (va_up (va_up (va_up Fn 195 (upd (Fn 195) (cn 6) 0)) 196 (upd (Fn 196) (cn 6) 0)) 197 (upd (Fn 197) (cn 6) 0)) 198 (upd (Fn 198) (cn 6) 0)) 199 (upd (Fn 199) (cn 6) (nI n))) 301 (flat (Fn 301) 200 (cn 6) (fun _ => 0))) 302 (flat (Fn 302) 12 (cn 6) (fun _ => 0))) 303 (flat (Fn 303) 12 (cn 6) (fun _ => 0))) 304 (flat (Fn 304) 12 (cn 6) (fun _ => 0))) 305 (flat (Fn 305) 32 (cn 6) (fun _ => 0)))), ((min 1 ((va_up cn 6 (cn 6 + 1)) 13)), e16X cI QA zz g (adO (adO (adO (adO (adO (adO (adO ad 5 (cn 6) qt) 60 (cn 6) r0) 61 (cn 6) r1) 62 (cn 6) r2) 63 (cn 6) r3) 64 (cn 6) r4) 4 1 (cn 6)) (va_up cn 6 (cn 6 + 1)) In (va_up (va_up (va_up (va_up (va_up (va_up (va_up (va_up (va_up (va_up Fn 195 (upd (Fn 195) (cn 6) 0)) 196 (upd (Fn 196) (cn 6) 0)) 197 (upd (Fn 197) (cn 6) 0)) 198 (upd (Fn 198) (cn 6) 0)) 199 (upd (Fn 199) (cn 6) (nI n))) 301 (flat (Fn 301) 200 (cn 6) (fun _ => 0))) 302 (flat (Fn 302) 12 (cn 6) (fun _ => 0))) 303 (flat (Fn 303) 12 (cn 6) (fun _ => 0))) 304 (flat (Fn 304) 12 (cn 6) (fun _ => 0))) 305 (flat (Fn 305) 32 (cn 6) (fun _ => 0)))), ((min 1 ((va_up cn 6 (cn 6 + 1)) 14)), e17X cI QA zz g (adO (adO (adO (adO (adO (adO (adO ad 5 (cn 6) qt) 60 (cn 6) r0) 61 (cn 6) r1) 62 (cn 6) r2) 63 (cn 6) r3) 64 (cn 6) r4) 4 1 (cn 6)) (va_up cn 6 (cn 6 + 1)) In (va_up (va_up (va_up (va_up (va_up (va_up (va_up (va_up (va_up (va_up Fn 195 (upd (Fn 195) (cn 6) 0)) 196 (upd (Fn 196) (cn 6) 0)) 197 (upd (Fn 197) (cn 6) 0)) 198 (upd (Fn 198) (cn 6) 0)) 199 (upd (Fn 199) (cn 6) (nI n))) 301 (flat (Fn 301) 200 (cn 6) (fun _ => 0))) 302 (flat (Fn 302) 12 (cn 6) (fun _ => 0))) 303 (flat (Fn 303) 12 (cn 6) (fun _ => 0))) 304 (flat (Fn 304) 12 (cn 6) (fun _ => 0))) 305 (flat (Fn 305) 32 (cn 6) (fun _ => 0)))), ((min 1 ((va_up cn 6 (cn 6 + 1)) 15)), e18X cI QA zz g (adO (adO (adO (adO (adO (adO (adO ad 5 (cn 6) qt) 60 (cn 6) r0) 61 (cn 6) r1) 62 (cn 6) r2) 63 (cn 6) r3) 64 (cn 6) r4) 4 1 (cn 6)) (va_up cn 6 (cn 6 + 1)) In (va_up (va_up (va_up (va_up (va_up (va_up (va_up (va_up (va_up (va_up Fn 195 (upd (Fn 195) (cn 6) 0)) 196 (upd (Fn 196) (cn 6) 0)) 197 (upd (Fn 197) (cn 6) 0)) 198 (upd (Fn 198) (cn 6) 0)) 199 (upd (Fn 199) (cn 6) (nI n))) 301 (flat (Fn 301) 200 (cn 6) (fun _ => 0))) 302 (flat (Fn 302) 12 (cn 6) (fun _ => 0))) 303 (flat (Fn 303) 12 (cn 6) (fun _ => 0))) 304 (flat (Fn 304) 12 (cn 6) (fun _ => 0))) 305 (flat (Fn 305) 32 (cn 6) (fun _ => 0))))] [((cn 10), e0X cI QA zz g ad cn In Fn), ((cn 11), e1X cI QA zz g ad cn In Fn), ((cn 12), e2X cI QA zz g ad cn In Fn), ((cn 13), e3X cI QA zz g ad cn In Fn), ((cn 14), e4X cI QA zz g ad cn In Fn), ((cn 15), e5X cI QA zz g ad cn In Fn), ((cn 12), e6X cI QA zz g ad cn In Fn), ((cn 6) + 1, e7X cI QA zz g (adO (adO (adO (adO (adO (adO (adO ad 5 (cn 6) qt) 60 (cn 6) r0) 61 (cn 6) r1) 62 (cn 6) r2) 63 (cn 6) r3) 64 (cn 6) r4) 4 1 (cn 6)) (va_up cn 6 (cn 6 + 1)) In (va_up (va_up (va_up (va_up (va_up (va_up (va_up (va_up (va_up (va_up Fn 195 (upd (Fn 195) (cn 6) 0)) 196 (upd (Fn 196) (cn 6) 0)) 197 (upd (Fn 197) (cn 6) 0)) 198 (upd (Fn 198) (cn 6) 0)) 199 (upd (Fn 199) (cn 6) (nI n))) 301 (flat (Fn 301) 200 (cn 6) (fun _ => 0))) 302 (flat (Fn 302) 12 (cn 6) (fun _ => 0))) 303 (flat (Fn 303) 12 (cn 6) (fun _ => 0))) 304 (flat (Fn 304) 12 (cn 6) (fun _ => 0))) 305 (flat (Fn 305) 32 (cn 6) (fun _ => 0)))), ((cn 6) + 1, e8X cI QA zz g (adO (adO (adO (adO (adO (adO (adO ad 5 (cn 6) qt) 60 (cn 6) r0) 61 (cn 6) r1) 62 (cn 6) r2) 63 (cn 6) r3) 64 (cn 6) r4) 4 1 (cn 6)) (va_up cn 6 (cn 6 + 1)) In (va_up (va_up (va_up (va_up (va_up (va_up (va_up (va_up (va_up (va_up Fn 195 (upd (Fn 195) (cn 6) 0)) 196 (upd (Fn 196) (cn 6) 0)) 197 (upd (Fn 197) (cn 6) 0)) 198 (upd (Fn 198) (cn 6) 0)) 199 (upd (Fn 199) (cn 6) (nI n))) 301 (flat (Fn 301) 200 (cn 6) (fun _ => 0))) 302 (flat (Fn 302) 12 (cn 6) (fun _ => 0))) 303 (flat (Fn 303) 12 (cn 6) (fun _ => 0))) 304 (flat (Fn 304) 12 (cn 6) (fun _ => 0))) 305 (flat (Fn 305) 32 (cn 6) (fun _ => 0)))), ((cn 6) + 1, e9X cI QA zz g (adO (adO (adO (adO (adO (adO (adO ad 5 (cn 6) qt) 60 (cn 6) r0) 61 (cn 6) r1) 62 (cn 6) r2) 63 (cn 6) r3) 64 (cn 6) r4) 4 1 (cn 6)) (va_up cn 6 (cn 6 + 1)) In (va_up (va_up (va_up (va_up (va_up (va_up (va_up (va_up (va_up (va_up Fn 195 (upd (Fn 195) (cn 6) 0)) 196 (upd (Fn 196) (cn 6) 0)) 197 (upd (Fn 197) (cn 6) 0)) 198 (upd (Fn 198) (cn 6) 0)) 199 (upd (Fn 199) (cn 6) (nI n))) 301 (flat (Fn 301) 200 (cn 6) (fun _ => 0))) 302 (flat (Fn 302) 12 (cn 6) (fun _ => 0))) 303 (flat (Fn 303) 12 (cn 6) (fun _ => 0))) 304 (flat (Fn 304) 12 (cn 6) (fun _ => 0))) 305 (flat (Fn 305) 32 (cn 6) (fun _ => 0)))), ((cn 6) + 1, e10X cI QA zz g (adO (adO (adO (adO (adO (adO (adO ad 5 (cn 6) qt) 60 (cn 6) r0) 61 (cn 6) r1) 62 (cn 6) r2) 63 (cn 6) r3) 64 (cn 6) r4) 4 1 (cn 6)) (va_up cn 6 (cn 6 + 1)) In (va_up (va_up (va_up (va_up (va_up (va_up (va_up (va_up (va_up (va_up Fn 195 (upd (Fn 195) (cn 6) 0)) 196 (upd (Fn 196) (cn 6) 0)) 197 (upd (Fn 197) (cn 6) 0)) 198 (upd (Fn 198) (cn 6) 0)) 199 (upd (Fn 199) (cn 6) (nI n))) 301 (flat (Fn 301) 200 (cn 6) (fun _ => 0))) 302 (flat (Fn 302) 12 (cn 6) (fun _ => 0))) 303 (flat (Fn 303) 12 (cn 6) (fun _ => 0))) 304 (flat (Fn 304) 12 (cn 6) (fun _ => 0))) 305 (flat (Fn 305) 32 (cn 6) (fun _ => 0)))), ((cn 6) + 1, e11X cI QA zz g (adO (adO (adO (adO (adO (adO (adO ad 5 (cn 6) qt) 60 (cn 6) r0) 61 (cn 6) r1) 62 (cn 6) r2) 63 (cn 6) r3) 64 (cn 6) r4) 4 1 (cn 6)) (va_up cn 6 (cn 6 + 1)) In (va_up (va_up (va_up (va_up (va_up (va_up (va_up (va_up (va_up (va_up Fn 195 (upd (Fn 195) (cn 6) 0)) 196 (upd (Fn 196) (cn 6) 0)) 197 (upd (Fn 197) (cn 6) 0)) 198 (upd (Fn 198) (cn 6) 0)) 199 (upd (Fn 199) (cn 6) (nI n))) 301 (flat (Fn 301) 200 (cn 6) (fun _ => 0))) 302 (flat (Fn 302) 12 (cn 6) (fun _ => 0))) 303 (flat (Fn 303) 12 (cn 6) (fun _ => 0))) 304 (flat (Fn 304) 12 (cn 6) (fun _ => 0))) 305 (flat (Fn 305) 32 (cn 6) (fun _ => 0)))), ((cn 6) + 1, e12X cI QA zz g (adO (adO (adO (adO (adO (adO (adO ad 5 (cn 6) qt) 60 (cn 6) r0) 61 (cn 6) r1) 62 (cn 6) r2) 63 (cn 6) r3) 64 (cn 6) r4) 4 1 (cn 6)) (va_up cn 6 (cn 6 + 1)) In (va_up (va_up (va_up (va_up (va_up (va_up (va_up (va_up (va_up (va_up Fn 195 (upd (Fn 195) (cn 6) 0)) 196 (upd (Fn 196) (cn 6) 0)) 197 (upd (Fn 197) (cn 6) 0)) 198 (upd (Fn 198) (cn 6) 0)) 199 (upd (Fn 199) (cn 6) (nI n))) 301 (flat (Fn 301) 200 (cn 6) (fun _ => 0))) 302 (flat (Fn 302) 12 (cn 6) (fun _ => 0))) 303 (flat (Fn 303) 12 (cn 6) (fun _ => 0))) 304 (flat (Fn 304) 12 (cn 6) (fun _ => 0))) 305 (flat (Fn 305) 32 (cn 6) (fun _ => 0)))), ((min 1 (cn 10)), e13X cI QA zz g ad cn In Fn), ((min 1 (cn 11)), e14X cI QA zz g ad cn In Fn), ((min 1 (cn 12)), e15X cI QA zz g ad cn In Fn), ((min 1 (cn 13)), e16X cI QA zz g ad cn In Fn), ((min 1 (cn 14)), e17X cI QA zz g ad cn In Fn), ((min 1 (cn 15)), e18X cI QA zz g ad cn In Fn)] from ⟨⟨rfl, fun k hk => by have hk : k < cn 10 := hk; simp [e0X, adO, va_up, Nat.ne_of_lt h40, hn, Nat.ne_of_lt (hT k hk)]⟩, ⟨rfl, fun k hk => by have hk : k < (cn 11) := hk; simp [e1X, adO, va_up, Nat.ne_of_lt h40, hn]⟩, ⟨rfl, fun k hk => by have hk : k < (cn 12) := hk; simp [e2X, adO, va_up, Nat.ne_of_lt h40, hn]⟩, ⟨rfl, fun k hk => by have hk : k < (cn 13) := hk; simp [e3X, adO, va_up, Nat.ne_of_lt h40, hn]⟩, ⟨rfl, fun k hk => by have hk : k < (cn 14) := hk; simp [e4X, adO, va_up, Nat.ne_of_lt h40, hn]⟩, ⟨rfl, fun k hk => by have hk : k < (cn 15) := hk; simp [e5X, adO, va_up, Nat.ne_of_lt h40, hn]⟩, ⟨rfl, fun k hk => by have hk : k < (cn 12) := hk; simp [e6X, adO, va_up, Nat.ne_of_lt h40, hn]⟩, ⟨rfl, fun k hk => rfl⟩, ⟨rfl, fun k hk => rfl⟩, ⟨rfl, fun k hk => rfl⟩, ⟨rfl, fun k hk => rfl⟩, ⟨rfl, fun k hk => rfl⟩, ⟨rfl, fun k hk => rfl⟩, ⟨rfl, fun k hk => by have hk : k < (min 1 (cn 10)) := hk; simp [e13X, adO, va_up, Nat.ne_of_lt h40, hn]⟩, ⟨rfl, fun k hk => by have hk : k < (min 1 (cn 11)) := hk; simp [e14X, adO, va_up, Nat.ne_of_lt h40, hn]⟩, ⟨rfl, fun k hk => by have hk : k < (min 1 (cn 12)) := hk; simp [e15X, adO, va_up, Nat.ne_of_lt h40, hn]⟩, ⟨rfl, fun k hk => by have hk : k < (min 1 (cn 13)) := hk; simp [e16X, adO, va_up, Nat.ne_of_lt h40, hn]⟩, ⟨rfl, fun k hk => by have hk : k < (min 1 (cn 14)) := hk; simp [e17X, adO, va_up, Nat.ne_of_lt h40, hn]⟩, ⟨rfl, fun k hk => by have hk : k < (min 1 (cn 15)) := hk; simp [e18X, adO, va_up, Nat.ne_of_lt h40, hn]⟩, trivial⟩)
  have p0 := famW_push (fs := [((cn 10), e0X cI QA zz g ad cn In Fn), ((cn 11), e1X cI QA zz g ad cn In Fn), ((cn 12), e2X cI QA zz g ad cn In Fn), ((cn 13), e3X cI QA zz g ad cn In Fn), ((cn 14), e4X cI QA zz g ad cn In Fn), ((cn 15), e5X cI QA zz g ad cn In Fn), ((cn 12), e6X cI QA zz g ad cn In Fn), ((cn 6) + 1, e7X cI QA zz g (adO (adO (adO (adO (adO (adO (adO ad 5 (cn 6) qt) 60 (cn 6) r0) 61 (cn 6) r1) 62 (cn 6) r2) 63 (cn 6) r3) 64 (cn 6) r4) 4 1 (cn 6)) (va_up cn 6 (cn 6 + 1)) In (va_up (va_up (va_up (va_up (va_up (va_up (va_up (va_up (va_up (va_up Fn 195 (upd (Fn 195) (cn 6) 0)) 196 (upd (Fn 196) (cn 6) 0)) 197 (upd (Fn 197) (cn 6) 0)) 198 (upd (Fn 198) (cn 6) 0)) 199 (upd (Fn 199) (cn 6) (nI n))) 301 (flat (Fn 301) 200 (cn 6) (fun _ => 0))) 302 (flat (Fn 302) 12 (cn 6) (fun _ => 0))) 303 (flat (Fn 303) 12 (cn 6) (fun _ => 0))) 304 (flat (Fn 304) 12 (cn 6) (fun _ => 0))) 305 (flat (Fn 305) 32 (cn 6) (fun _ => 0)))), ((cn 6) + 1, e8X cI QA zz g (adO (adO (adO (adO (adO (adO (adO ad 5 (cn 6) qt) 60 (cn 6) r0) 61 (cn 6) r1) 62 (cn 6) r2) 63 (cn 6) r3) 64 (cn 6) r4) 4 1 (cn 6)) (va_up cn 6 (cn 6 + 1)) In (va_up (va_up (va_up (va_up (va_up (va_up (va_up (va_up (va_up (va_up Fn 195 (upd (Fn 195) (cn 6) 0)) 196 (upd (Fn 196) (cn 6) 0)) 197 (upd (Fn 197) (cn 6) 0)) 198 (upd (Fn 198) (cn 6) 0)) 199 (upd (Fn 199) (cn 6) (nI n))) 301 (flat (Fn 301) 200 (cn 6) (fun _ => 0))) 302 (flat (Fn 302) 12 (cn 6) (fun _ => 0))) 303 (flat (Fn 303) 12 (cn 6) (fun _ => 0))) 304 (flat (Fn 304) 12 (cn 6) (fun _ => 0))) 305 (flat (Fn 305) 32 (cn 6) (fun _ => 0)))), ((cn 6) + 1, e9X cI QA zz g (adO (adO (adO (adO (adO (adO (adO ad 5 (cn 6) qt) 60 (cn 6) r0) 61 (cn 6) r1) 62 (cn 6) r2) 63 (cn 6) r3) 64 (cn 6) r4) 4 1 (cn 6)) (va_up cn 6 (cn 6 + 1)) In (va_up (va_up (va_up (va_up (va_up (va_up (va_up (va_up (va_up (va_up Fn 195 (upd (Fn 195) (cn 6) 0)) 196 (upd (Fn 196) (cn 6) 0)) 197 (upd (Fn 197) (cn 6) 0)) 198 (upd (Fn 198) (cn 6) 0)) 199 (upd (Fn 199) (cn 6) (nI n))) 301 (flat (Fn 301) 200 (cn 6) (fun _ => 0))) 302 (flat (Fn 302) 12 (cn 6) (fun _ => 0))) 303 (flat (Fn 303) 12 (cn 6) (fun _ => 0))) 304 (flat (Fn 304) 12 (cn 6) (fun _ => 0))) 305 (flat (Fn 305) 32 (cn 6) (fun _ => 0)))), ((cn 6) + 1, e10X cI QA zz g (adO (adO (adO (adO (adO (adO (adO ad 5 (cn 6) qt) 60 (cn 6) r0) 61 (cn 6) r1) 62 (cn 6) r2) 63 (cn 6) r3) 64 (cn 6) r4) 4 1 (cn 6)) (va_up cn 6 (cn 6 + 1)) In (va_up (va_up (va_up (va_up (va_up (va_up (va_up (va_up (va_up (va_up Fn 195 (upd (Fn 195) (cn 6) 0)) 196 (upd (Fn 196) (cn 6) 0)) 197 (upd (Fn 197) (cn 6) 0)) 198 (upd (Fn 198) (cn 6) 0)) 199 (upd (Fn 199) (cn 6) (nI n))) 301 (flat (Fn 301) 200 (cn 6) (fun _ => 0))) 302 (flat (Fn 302) 12 (cn 6) (fun _ => 0))) 303 (flat (Fn 303) 12 (cn 6) (fun _ => 0))) 304 (flat (Fn 304) 12 (cn 6) (fun _ => 0))) 305 (flat (Fn 305) 32 (cn 6) (fun _ => 0)))), ((cn 6) + 1, e11X cI QA zz g (adO (adO (adO (adO (adO (adO (adO ad 5 (cn 6) qt) 60 (cn 6) r0) 61 (cn 6) r1) 62 (cn 6) r2) 63 (cn 6) r3) 64 (cn 6) r4) 4 1 (cn 6)) (va_up cn 6 (cn 6 + 1)) In (va_up (va_up (va_up (va_up (va_up (va_up (va_up (va_up (va_up (va_up Fn 195 (upd (Fn 195) (cn 6) 0)) 196 (upd (Fn 196) (cn 6) 0)) 197 (upd (Fn 197) (cn 6) 0)) 198 (upd (Fn 198) (cn 6) 0)) 199 (upd (Fn 199) (cn 6) (nI n))) 301 (flat (Fn 301) 200 (cn 6) (fun _ => 0))) 302 (flat (Fn 302) 12 (cn 6) (fun _ => 0))) 303 (flat (Fn 303) 12 (cn 6) (fun _ => 0))) 304 (flat (Fn 304) 12 (cn 6) (fun _ => 0))) 305 (flat (Fn 305) 32 (cn 6) (fun _ => 0)))), ((cn 6) + 1, e12X cI QA zz g (adO (adO (adO (adO (adO (adO (adO ad 5 (cn 6) qt) 60 (cn 6) r0) 61 (cn 6) r1) 62 (cn 6) r2) 63 (cn 6) r3) 64 (cn 6) r4) 4 1 (cn 6)) (va_up cn 6 (cn 6 + 1)) In (va_up (va_up (va_up (va_up (va_up (va_up (va_up (va_up (va_up (va_up Fn 195 (upd (Fn 195) (cn 6) 0)) 196 (upd (Fn 196) (cn 6) 0)) 197 (upd (Fn 197) (cn 6) 0)) 198 (upd (Fn 198) (cn 6) 0)) 199 (upd (Fn 199) (cn 6) (nI n))) 301 (flat (Fn 301) 200 (cn 6) (fun _ => 0))) 302 (flat (Fn 302) 12 (cn 6) (fun _ => 0))) 303 (flat (Fn 303) 12 (cn 6) (fun _ => 0))) 304 (flat (Fn 304) 12 (cn 6) (fun _ => 0))) 305 (flat (Fn 305) 32 (cn 6) (fun _ => 0)))), ((min 1 (cn 10)), e13X cI QA zz g ad cn In Fn), ((min 1 (cn 11)), e14X cI QA zz g ad cn In Fn), ((min 1 (cn 12)), e15X cI QA zz g ad cn In Fn), ((min 1 (cn 13)), e16X cI QA zz g ad cn In Fn), ((min 1 (cn 14)), e17X cI QA zz g ad cn In Fn), ((min 1 (cn 15)), e18X cI QA zz g ad cn In Fn)]) (i := 7) (n := (cn 6)) (f := e7X cI QA zz g (adO (adO (adO (adO (adO (adO (adO ad 5 (cn 6) qt) 60 (cn 6) r0) 61 (cn 6) r1) 62 (cn 6) r2) 63 (cn 6) r3) 64 (cn 6) r4) 4 1 (cn 6)) (va_up cn 6 (cn 6 + 1)) In (va_up (va_up (va_up (va_up (va_up (va_up (va_up (va_up (va_up (va_up Fn 195 (upd (Fn 195) (cn 6) 0)) 196 (upd (Fn 196) (cn 6) 0)) 197 (upd (Fn 197) (cn 6) 0)) 198 (upd (Fn 198) (cn 6) 0)) 199 (upd (Fn 199) (cn 6) (nI n))) 301 (flat (Fn 301) 200 (cn 6) (fun _ => 0))) 302 (flat (Fn 302) 12 (cn 6) (fun _ => 0))) 303 (flat (Fn 303) 12 (cn 6) (fun _ => 0))) 304 (flat (Fn 304) 12 (cn 6) (fun _ => 0))) 305 (flat (Fn 305) 32 (cn 6) (fun _ => 0)))) rfl
  have p1 := famW_push (fs := ([((cn 10), e0X cI QA zz g ad cn In Fn), ((cn 11), e1X cI QA zz g ad cn In Fn), ((cn 12), e2X cI QA zz g ad cn In Fn), ((cn 13), e3X cI QA zz g ad cn In Fn), ((cn 14), e4X cI QA zz g ad cn In Fn), ((cn 15), e5X cI QA zz g ad cn In Fn), ((cn 12), e6X cI QA zz g ad cn In Fn), ((cn 6) + 1, e7X cI QA zz g (adO (adO (adO (adO (adO (adO (adO ad 5 (cn 6) qt) 60 (cn 6) r0) 61 (cn 6) r1) 62 (cn 6) r2) 63 (cn 6) r3) 64 (cn 6) r4) 4 1 (cn 6)) (va_up cn 6 (cn 6 + 1)) In (va_up (va_up (va_up (va_up (va_up (va_up (va_up (va_up (va_up (va_up Fn 195 (upd (Fn 195) (cn 6) 0)) 196 (upd (Fn 196) (cn 6) 0)) 197 (upd (Fn 197) (cn 6) 0)) 198 (upd (Fn 198) (cn 6) 0)) 199 (upd (Fn 199) (cn 6) (nI n))) 301 (flat (Fn 301) 200 (cn 6) (fun _ => 0))) 302 (flat (Fn 302) 12 (cn 6) (fun _ => 0))) 303 (flat (Fn 303) 12 (cn 6) (fun _ => 0))) 304 (flat (Fn 304) 12 (cn 6) (fun _ => 0))) 305 (flat (Fn 305) 32 (cn 6) (fun _ => 0)))), ((cn 6) + 1, e8X cI QA zz g (adO (adO (adO (adO (adO (adO (adO ad 5 (cn 6) qt) 60 (cn 6) r0) 61 (cn 6) r1) 62 (cn 6) r2) 63 (cn 6) r3) 64 (cn 6) r4) 4 1 (cn 6)) (va_up cn 6 (cn 6 + 1)) In (va_up (va_up (va_up (va_up (va_up (va_up (va_up (va_up (va_up (va_up Fn 195 (upd (Fn 195) (cn 6) 0)) 196 (upd (Fn 196) (cn 6) 0)) 197 (upd (Fn 197) (cn 6) 0)) 198 (upd (Fn 198) (cn 6) 0)) 199 (upd (Fn 199) (cn 6) (nI n))) 301 (flat (Fn 301) 200 (cn 6) (fun _ => 0))) 302 (flat (Fn 302) 12 (cn 6) (fun _ => 0))) 303 (flat (Fn 303) 12 (cn 6) (fun _ => 0))) 304 (flat (Fn 304) 12 (cn 6) (fun _ => 0))) 305 (flat (Fn 305) 32 (cn 6) (fun _ => 0)))), ((cn 6) + 1, e9X cI QA zz g (adO (adO (adO (adO (adO (adO (adO ad 5 (cn 6) qt) 60 (cn 6) r0) 61 (cn 6) r1) 62 (cn 6) r2) 63 (cn 6) r3) 64 (cn 6) r4) 4 1 (cn 6)) (va_up cn 6 (cn 6 + 1)) In (va_up (va_up (va_up (va_up (va_up (va_up (va_up (va_up (va_up (va_up Fn 195 (upd (Fn 195) (cn 6) 0)) 196 (upd (Fn 196) (cn 6) 0)) 197 (upd (Fn 197) (cn 6) 0)) 198 (upd (Fn 198) (cn 6) 0)) 199 (upd (Fn 199) (cn 6) (nI n))) 301 (flat (Fn 301) 200 (cn 6) (fun _ => 0))) 302 (flat (Fn 302) 12 (cn 6) (fun _ => 0))) 303 (flat (Fn 303) 12 (cn 6) (fun _ => 0))) 304 (flat (Fn 304) 12 (cn 6) (fun _ => 0))) 305 (flat (Fn 305) 32 (cn 6) (fun _ => 0)))), ((cn 6) + 1, e10X cI QA zz g (adO (adO (adO (adO (adO (adO (adO ad 5 (cn 6) qt) 60 (cn 6) r0) 61 (cn 6) r1) 62 (cn 6) r2) 63 (cn 6) r3) 64 (cn 6) r4) 4 1 (cn 6)) (va_up cn 6 (cn 6 + 1)) In (va_up (va_up (va_up (va_up (va_up (va_up (va_up (va_up (va_up (va_up Fn 195 (upd (Fn 195) (cn 6) 0)) 196 (upd (Fn 196) (cn 6) 0)) 197 (upd (Fn 197) (cn 6) 0)) 198 (upd (Fn 198) (cn 6) 0)) 199 (upd (Fn 199) (cn 6) (nI n))) 301 (flat (Fn 301) 200 (cn 6) (fun _ => 0))) 302 (flat (Fn 302) 12 (cn 6) (fun _ => 0))) 303 (flat (Fn 303) 12 (cn 6) (fun _ => 0))) 304 (flat (Fn 304) 12 (cn 6) (fun _ => 0))) 305 (flat (Fn 305) 32 (cn 6) (fun _ => 0)))), ((cn 6) + 1, e11X cI QA zz g (adO (adO (adO (adO (adO (adO (adO ad 5 (cn 6) qt) 60 (cn 6) r0) 61 (cn 6) r1) 62 (cn 6) r2) 63 (cn 6) r3) 64 (cn 6) r4) 4 1 (cn 6)) (va_up cn 6 (cn 6 + 1)) In (va_up (va_up (va_up (va_up (va_up (va_up (va_up (va_up (va_up (va_up Fn 195 (upd (Fn 195) (cn 6) 0)) 196 (upd (Fn 196) (cn 6) 0)) 197 (upd (Fn 197) (cn 6) 0)) 198 (upd (Fn 198) (cn 6) 0)) 199 (upd (Fn 199) (cn 6) (nI n))) 301 (flat (Fn 301) 200 (cn 6) (fun _ => 0))) 302 (flat (Fn 302) 12 (cn 6) (fun _ => 0))) 303 (flat (Fn 303) 12 (cn 6) (fun _ => 0))) 304 (flat (Fn 304) 12 (cn 6) (fun _ => 0))) 305 (flat (Fn 305) 32 (cn 6) (fun _ => 0)))), ((cn 6) + 1, e12X cI QA zz g (adO (adO (adO (adO (adO (adO (adO ad 5 (cn 6) qt) 60 (cn 6) r0) 61 (cn 6) r1) 62 (cn 6) r2) 63 (cn 6) r3) 64 (cn 6) r4) 4 1 (cn 6)) (va_up cn 6 (cn 6 + 1)) In (va_up (va_up (va_up (va_up (va_up (va_up (va_up (va_up (va_up (va_up Fn 195 (upd (Fn 195) (cn 6) 0)) 196 (upd (Fn 196) (cn 6) 0)) 197 (upd (Fn 197) (cn 6) 0)) 198 (upd (Fn 198) (cn 6) 0)) 199 (upd (Fn 199) (cn 6) (nI n))) 301 (flat (Fn 301) 200 (cn 6) (fun _ => 0))) 302 (flat (Fn 302) 12 (cn 6) (fun _ => 0))) 303 (flat (Fn 303) 12 (cn 6) (fun _ => 0))) 304 (flat (Fn 304) 12 (cn 6) (fun _ => 0))) 305 (flat (Fn 305) 32 (cn 6) (fun _ => 0)))), ((min 1 (cn 10)), e13X cI QA zz g ad cn In Fn), ((min 1 (cn 11)), e14X cI QA zz g ad cn In Fn), ((min 1 (cn 12)), e15X cI QA zz g ad cn In Fn), ((min 1 (cn 13)), e16X cI QA zz g ad cn In Fn), ((min 1 (cn 14)), e17X cI QA zz g ad cn In Fn), ((min 1 (cn 15)), e18X cI QA zz g ad cn In Fn)]).set 7 ((cn 6), e7X cI QA zz g (adO (adO (adO (adO (adO (adO (adO ad 5 (cn 6) qt) 60 (cn 6) r0) 61 (cn 6) r1) 62 (cn 6) r2) 63 (cn 6) r3) 64 (cn 6) r4) 4 1 (cn 6)) (va_up cn 6 (cn 6 + 1)) In (va_up (va_up (va_up (va_up (va_up (va_up (va_up (va_up (va_up (va_up Fn 195 (upd (Fn 195) (cn 6) 0)) 196 (upd (Fn 196) (cn 6) 0)) 197 (upd (Fn 197) (cn 6) 0)) 198 (upd (Fn 198) (cn 6) 0)) 199 (upd (Fn 199) (cn 6) (nI n))) 301 (flat (Fn 301) 200 (cn 6) (fun _ => 0))) 302 (flat (Fn 302) 12 (cn 6) (fun _ => 0))) 303 (flat (Fn 303) 12 (cn 6) (fun _ => 0))) 304 (flat (Fn 304) 12 (cn 6) (fun _ => 0))) 305 (flat (Fn 305) 32 (cn 6) (fun _ => 0))))) (i := 8) (n := (cn 6)) (f := e8X cI QA zz g (adO (adO (adO (adO (adO (adO (adO ad 5 (cn 6) qt) 60 (cn 6) r0) 61 (cn 6) r1) 62 (cn 6) r2) 63 (cn 6) r3) 64 (cn 6) r4) 4 1 (cn 6)) (va_up cn 6 (cn 6 + 1)) In (va_up (va_up (va_up (va_up (va_up (va_up (va_up (va_up (va_up (va_up Fn 195 (upd (Fn 195) (cn 6) 0)) 196 (upd (Fn 196) (cn 6) 0)) 197 (upd (Fn 197) (cn 6) 0)) 198 (upd (Fn 198) (cn 6) 0)) 199 (upd (Fn 199) (cn 6) (nI n))) 301 (flat (Fn 301) 200 (cn 6) (fun _ => 0))) 302 (flat (Fn 302) 12 (cn 6) (fun _ => 0))) 303 (flat (Fn 303) 12 (cn 6) (fun _ => 0))) 304 (flat (Fn 304) 12 (cn 6) (fun _ => 0))) 305 (flat (Fn 305) 32 (cn 6) (fun _ => 0)))) rfl
  have p2 := famW_push (fs := (([((cn 10), e0X cI QA zz g ad cn In Fn), ((cn 11), e1X cI QA zz g ad cn In Fn), ((cn 12), e2X cI QA zz g ad cn In Fn), ((cn 13), e3X cI QA zz g ad cn In Fn), ((cn 14), e4X cI QA zz g ad cn In Fn), ((cn 15), e5X cI QA zz g ad cn In Fn), ((cn 12), e6X cI QA zz g ad cn In Fn), ((cn 6) + 1, e7X cI QA zz g (adO (adO (adO (adO (adO (adO (adO ad 5 (cn 6) qt) 60 (cn 6) r0) 61 (cn 6) r1) 62 (cn 6) r2) 63 (cn 6) r3) 64 (cn 6) r4) 4 1 (cn 6)) (va_up cn 6 (cn 6 + 1)) In (va_up (va_up (va_up (va_up (va_up (va_up (va_up (va_up (va_up (va_up Fn 195 (upd (Fn 195) (cn 6) 0)) 196 (upd (Fn 196) (cn 6) 0)) 197 (upd (Fn 197) (cn 6) 0)) 198 (upd (Fn 198) (cn 6) 0)) 199 (upd (Fn 199) (cn 6) (nI n))) 301 (flat (Fn 301) 200 (cn 6) (fun _ => 0))) 302 (flat (Fn 302) 12 (cn 6) (fun _ => 0))) 303 (flat (Fn 303) 12 (cn 6) (fun _ => 0))) 304 (flat (Fn 304) 12 (cn 6) (fun _ => 0))) 305 (flat (Fn 305) 32 (cn 6) (fun _ => 0)))), ((cn 6) + 1, e8X cI QA zz g (adO (adO (adO (adO (adO (adO (adO ad 5 (cn 6) qt) 60 (cn 6) r0) 61 (cn 6) r1) 62 (cn 6) r2) 63 (cn 6) r3) 64 (cn 6) r4) 4 1 (cn 6)) (va_up cn 6 (cn 6 + 1)) In (va_up (va_up (va_up (va_up (va_up (va_up (va_up (va_up (va_up (va_up Fn 195 (upd (Fn 195) (cn 6) 0)) 196 (upd (Fn 196) (cn 6) 0)) 197 (upd (Fn 197) (cn 6) 0)) 198 (upd (Fn 198) (cn 6) 0)) 199 (upd (Fn 199) (cn 6) (nI n))) 301 (flat (Fn 301) 200 (cn 6) (fun _ => 0))) 302 (flat (Fn 302) 12 (cn 6) (fun _ => 0))) 303 (flat (Fn 303) 12 (cn 6) (fun _ => 0))) 304 (flat (Fn 304) 12 (cn 6) (fun _ => 0))) 305 (flat (Fn 305) 32 (cn 6) (fun _ => 0)))), ((cn 6) + 1, e9X cI QA zz g (adO (adO (adO (adO (adO (adO (adO ad 5 (cn 6) qt) 60 (cn 6) r0) 61 (cn 6) r1) 62 (cn 6) r2) 63 (cn 6) r3) 64 (cn 6) r4) 4 1 (cn 6)) (va_up cn 6 (cn 6 + 1)) In (va_up (va_up (va_up (va_up (va_up (va_up (va_up (va_up (va_up (va_up Fn 195 (upd (Fn 195) (cn 6) 0)) 196 (upd (Fn 196) (cn 6) 0)) 197 (upd (Fn 197) (cn 6) 0)) 198 (upd (Fn 198) (cn 6) 0)) 199 (upd (Fn 199) (cn 6) (nI n))) 301 (flat (Fn 301) 200 (cn 6) (fun _ => 0))) 302 (flat (Fn 302) 12 (cn 6) (fun _ => 0))) 303 (flat (Fn 303) 12 (cn 6) (fun _ => 0))) 304 (flat (Fn 304) 12 (cn 6) (fun _ => 0))) 305 (flat (Fn 305) 32 (cn 6) (fun _ => 0)))), ((cn 6) + 1, e10X cI QA zz g (adO (adO (adO (adO (adO (adO (adO ad 5 (cn 6) qt) 60 (cn 6) r0) 61 (cn 6) r1) 62 (cn 6) r2) 63 (cn 6) r3) 64 (cn 6) r4) 4 1 (cn 6)) (va_up cn 6 (cn 6 + 1)) In (va_up (va_up (va_up (va_up (va_up (va_up (va_up (va_up (va_up (va_up Fn 195 (upd (Fn 195) (cn 6) 0)) 196 (upd (Fn 196) (cn 6) 0)) 197 (upd (Fn 197) (cn 6) 0)) 198 (upd (Fn 198) (cn 6) 0)) 199 (upd (Fn 199) (cn 6) (nI n))) 301 (flat (Fn 301) 200 (cn 6) (fun _ => 0))) 302 (flat (Fn 302) 12 (cn 6) (fun _ => 0))) 303 (flat (Fn 303) 12 (cn 6) (fun _ => 0))) 304 (flat (Fn 304) 12 (cn 6) (fun _ => 0))) 305 (flat (Fn 305) 32 (cn 6) (fun _ => 0)))), ((cn 6) + 1, e11X cI QA zz g (adO (adO (adO (adO (adO (adO (adO ad 5 (cn 6) qt) 60 (cn 6) r0) 61 (cn 6) r1) 62 (cn 6) r2) 63 (cn 6) r3) 64 (cn 6) r4) 4 1 (cn 6)) (va_up cn 6 (cn 6 + 1)) In (va_up (va_up (va_up (va_up (va_up (va_up (va_up (va_up (va_up (va_up Fn 195 (upd (Fn 195) (cn 6) 0)) 196 (upd (Fn 196) (cn 6) 0)) 197 (upd (Fn 197) (cn 6) 0)) 198 (upd (Fn 198) (cn 6) 0)) 199 (upd (Fn 199) (cn 6) (nI n))) 301 (flat (Fn 301) 200 (cn 6) (fun _ => 0))) 302 (flat (Fn 302) 12 (cn 6) (fun _ => 0))) 303 (flat (Fn 303) 12 (cn 6) (fun _ => 0))) 304 (flat (Fn 304) 12 (cn 6) (fun _ => 0))) 305 (flat (Fn 305) 32 (cn 6) (fun _ => 0)))), ((cn 6) + 1, e12X cI QA zz g (adO (adO (adO (adO (adO (adO (adO ad 5 (cn 6) qt) 60 (cn 6) r0) 61 (cn 6) r1) 62 (cn 6) r2) 63 (cn 6) r3) 64 (cn 6) r4) 4 1 (cn 6)) (va_up cn 6 (cn 6 + 1)) In (va_up (va_up (va_up (va_up (va_up (va_up (va_up (va_up (va_up (va_up Fn 195 (upd (Fn 195) (cn 6) 0)) 196 (upd (Fn 196) (cn 6) 0)) 197 (upd (Fn 197) (cn 6) 0)) 198 (upd (Fn 198) (cn 6) 0)) 199 (upd (Fn 199) (cn 6) (nI n))) 301 (flat (Fn 301) 200 (cn 6) (fun _ => 0))) 302 (flat (Fn 302) 12 (cn 6) (fun _ => 0))) 303 (flat (Fn 303) 12 (cn 6) (fun _ => 0))) 304 (flat (Fn 304) 12 (cn 6) (fun _ => 0))) 305 (flat (Fn 305) 32 (cn 6) (fun _ => 0)))), ((min 1 (cn 10)), e13X cI QA zz g ad cn In Fn), ((min 1 (cn 11)), e14X cI QA zz g ad cn In Fn), ((min 1 (cn 12)), e15X cI QA zz g ad cn In Fn), ((min 1 (cn 13)), e16X cI QA zz g ad cn In Fn), ((min 1 (cn 14)), e17X cI QA zz g ad cn In Fn), ((min 1 (cn 15)), e18X cI QA zz g ad cn In Fn)]).set 7 ((cn 6), e7X cI QA zz g (adO (adO (adO (adO (adO (adO (adO ad 5 (cn 6) qt) 60 (cn 6) r0) 61 (cn 6) r1) 62 (cn 6) r2) 63 (cn 6) r3) 64 (cn 6) r4) 4 1 (cn 6)) (va_up cn 6 (cn 6 + 1)) In (va_up (va_up (va_up (va_up (va_up (va_up (va_up (va_up (va_up (va_up Fn 195 (upd (Fn 195) (cn 6) 0)) 196 (upd (Fn 196) (cn 6) 0)) 197 (upd (Fn 197) (cn 6) 0)) 198 (upd (Fn 198) (cn 6) 0)) 199 (upd (Fn 199) (cn 6) (nI n))) 301 (flat (Fn 301) 200 (cn 6) (fun _ => 0))) 302 (flat (Fn 302) 12 (cn 6) (fun _ => 0))) 303 (flat (Fn 303) 12 (cn 6) (fun _ => 0))) 304 (flat (Fn 304) 12 (cn 6) (fun _ => 0))) 305 (flat (Fn 305) 32 (cn 6) (fun _ => 0))))).set 8 ((cn 6), e8X cI QA zz g (adO (adO (adO (adO (adO (adO (adO ad 5 (cn 6) qt) 60 (cn 6) r0) 61 (cn 6) r1) 62 (cn 6) r2) 63 (cn 6) r3) 64 (cn 6) r4) 4 1 (cn 6)) (va_up cn 6 (cn 6 + 1)) In (va_up (va_up (va_up (va_up (va_up (va_up (va_up (va_up (va_up (va_up Fn 195 (upd (Fn 195) (cn 6) 0)) 196 (upd (Fn 196) (cn 6) 0)) 197 (upd (Fn 197) (cn 6) 0)) 198 (upd (Fn 198) (cn 6) 0)) 199 (upd (Fn 199) (cn 6) (nI n))) 301 (flat (Fn 301) 200 (cn 6) (fun _ => 0))) 302 (flat (Fn 302) 12 (cn 6) (fun _ => 0))) 303 (flat (Fn 303) 12 (cn 6) (fun _ => 0))) 304 (flat (Fn 304) 12 (cn 6) (fun _ => 0))) 305 (flat (Fn 305) 32 (cn 6) (fun _ => 0))))) (i := 9) (n := (cn 6)) (f := e9X cI QA zz g (adO (adO (adO (adO (adO (adO (adO ad 5 (cn 6) qt) 60 (cn 6) r0) 61 (cn 6) r1) 62 (cn 6) r2) 63 (cn 6) r3) 64 (cn 6) r4) 4 1 (cn 6)) (va_up cn 6 (cn 6 + 1)) In (va_up (va_up (va_up (va_up (va_up (va_up (va_up (va_up (va_up (va_up Fn 195 (upd (Fn 195) (cn 6) 0)) 196 (upd (Fn 196) (cn 6) 0)) 197 (upd (Fn 197) (cn 6) 0)) 198 (upd (Fn 198) (cn 6) 0)) 199 (upd (Fn 199) (cn 6) (nI n))) 301 (flat (Fn 301) 200 (cn 6) (fun _ => 0))) 302 (flat (Fn 302) 12 (cn 6) (fun _ => 0))) 303 (flat (Fn 303) 12 (cn 6) (fun _ => 0))) 304 (flat (Fn 304) 12 (cn 6) (fun _ => 0))) 305 (flat (Fn 305) 32 (cn 6) (fun _ => 0)))) rfl
  have p3 := famW_push (fs := ((([((cn 10), e0X cI QA zz g ad cn In Fn), ((cn 11), e1X cI QA zz g ad cn In Fn), ((cn 12), e2X cI QA zz g ad cn In Fn), ((cn 13), e3X cI QA zz g ad cn In Fn), ((cn 14), e4X cI QA zz g ad cn In Fn), ((cn 15), e5X cI QA zz g ad cn In Fn), ((cn 12), e6X cI QA zz g ad cn In Fn), ((cn 6) + 1, e7X cI QA zz g (adO (adO (adO (adO (adO (adO (adO ad 5 (cn 6) qt) 60 (cn 6) r0) 61 (cn 6) r1) 62 (cn 6) r2) 63 (cn 6) r3) 64 (cn 6) r4) 4 1 (cn 6)) (va_up cn 6 (cn 6 + 1)) In (va_up (va_up (va_up (va_up (va_up (va_up (va_up (va_up (va_up (va_up Fn 195 (upd (Fn 195) (cn 6) 0)) 196 (upd (Fn 196) (cn 6) 0)) 197 (upd (Fn 197) (cn 6) 0)) 198 (upd (Fn 198) (cn 6) 0)) 199 (upd (Fn 199) (cn 6) (nI n))) 301 (flat (Fn 301) 200 (cn 6) (fun _ => 0))) 302 (flat (Fn 302) 12 (cn 6) (fun _ => 0))) 303 (flat (Fn 303) 12 (cn 6) (fun _ => 0))) 304 (flat (Fn 304) 12 (cn 6) (fun _ => 0))) 305 (flat (Fn 305) 32 (cn 6) (fun _ => 0)))), ((cn 6) + 1, e8X cI QA zz g (adO (adO (adO (adO (adO (adO (adO ad 5 (cn 6) qt) 60 (cn 6) r0) 61 (cn 6) r1) 62 (cn 6) r2) 63 (cn 6) r3) 64 (cn 6) r4) 4 1 (cn 6)) (va_up cn 6 (cn 6 + 1)) In (va_up (va_up (va_up (va_up (va_up (va_up (va_up (va_up (va_up (va_up Fn 195 (upd (Fn 195) (cn 6) 0)) 196 (upd (Fn 196) (cn 6) 0)) 197 (upd (Fn 197) (cn 6) 0)) 198 (upd (Fn 198) (cn 6) 0)) 199 (upd (Fn 199) (cn 6) (nI n))) 301 (flat (Fn 301) 200 (cn 6) (fun _ => 0))) 302 (flat (Fn 302) 12 (cn 6) (fun _ => 0))) 303 (flat (Fn 303) 12 (cn 6) (fun _ => 0))) 304 (flat (Fn 304) 12 (cn 6) (fun _ => 0))) 305 (flat (Fn 305) 32 (cn 6) (fun _ => 0)))), ((cn 6) + 1, e9X cI QA zz g (adO (adO (adO (adO (adO (adO (adO ad 5 (cn 6) qt) 60 (cn 6) r0) 61 (cn 6) r1) 62 (cn 6) r2) 63 (cn 6) r3) 64 (cn 6) r4) 4 1 (cn 6)) (va_up cn 6 (cn 6 + 1)) In (va_up (va_up (va_up (va_up (va_up (va_up (va_up (va_up (va_up (va_up Fn 195 (upd (Fn 195) (cn 6) 0)) 196 (upd (Fn 196) (cn 6) 0)) 197 (upd (Fn 197) (cn 6) 0)) 198 (upd (Fn 198) (cn 6) 0)) 199 (upd (Fn 199) (cn 6) (nI n))) 301 (flat (Fn 301) 200 (cn 6) (fun _ => 0))) 302 (flat (Fn 302) 12 (cn 6) (fun _ => 0))) 303 (flat (Fn 303) 12 (cn 6) (fun _ => 0))) 304 (flat (Fn 304) 12 (cn 6) (fun _ => 0))) 305 (flat (Fn 305) 32 (cn 6) (fun _ => 0)))), ((cn 6) + 1, e10X cI QA zz g (adO (adO (adO (adO (adO (adO (adO ad 5 (cn 6) qt) 60 (cn 6) r0) 61 (cn 6) r1) 62 (cn 6) r2) 63 (cn 6) r3) 64 (cn 6) r4) 4 1 (cn 6)) (va_up cn 6 (cn 6 + 1)) In (va_up (va_up (va_up (va_up (va_up (va_up (va_up (va_up (va_up (va_up Fn 195 (upd (Fn 195) (cn 6) 0)) 196 (upd (Fn 196) (cn 6) 0)) 197 (upd (Fn 197) (cn 6) 0)) 198 (upd (Fn 198) (cn 6) 0)) 199 (upd (Fn 199) (cn 6) (nI n))) 301 (flat (Fn 301) 200 (cn 6) (fun _ => 0))) 302 (flat (Fn 302) 12 (cn 6) (fun _ => 0))) 303 (flat (Fn 303) 12 (cn 6) (fun _ => 0))) 304 (flat (Fn 304) 12 (cn 6) (fun _ => 0))) 305 (flat (Fn 305) 32 (cn 6) (fun _ => 0)))), ((cn 6) + 1, e11X cI QA zz g (adO (adO (adO (adO (adO (adO (adO ad 5 (cn 6) qt) 60 (cn 6) r0) 61 (cn 6) r1) 62 (cn 6) r2) 63 (cn 6) r3) 64 (cn 6) r4) 4 1 (cn 6)) (va_up cn 6 (cn 6 + 1)) In (va_up (va_up (va_up (va_up (va_up (va_up (va_up (va_up (va_up (va_up Fn 195 (upd (Fn 195) (cn 6) 0)) 196 (upd (Fn 196) (cn 6) 0)) 197 (upd (Fn 197) (cn 6) 0)) 198 (upd (Fn 198) (cn 6) 0)) 199 (upd (Fn 199) (cn 6) (nI n))) 301 (flat (Fn 301) 200 (cn 6) (fun _ => 0))) 302 (flat (Fn 302) 12 (cn 6) (fun _ => 0))) 303 (flat (Fn 303) 12 (cn 6) (fun _ => 0))) 304 (flat (Fn 304) 12 (cn 6) (fun _ => 0))) 305 (flat (Fn 305) 32 (cn 6) (fun _ => 0)))), ((cn 6) + 1, e12X cI QA zz g (adO (adO (adO (adO (adO (adO (adO ad 5 (cn 6) qt) 60 (cn 6) r0) 61 (cn 6) r1) 62 (cn 6) r2) 63 (cn 6) r3) 64 (cn 6) r4) 4 1 (cn 6)) (va_up cn 6 (cn 6 + 1)) In (va_up (va_up (va_up (va_up (va_up (va_up (va_up (va_up (va_up (va_up Fn 195 (upd (Fn 195) (cn 6) 0)) 196 (upd (Fn 196) (cn 6) 0)) 197 (upd (Fn 197) (cn 6) 0)) 198 (upd (Fn 198) (cn 6) 0)) 199 (upd (Fn 199) (cn 6) (nI n))) 301 (flat (Fn 301) 200 (cn 6) (fun _ => 0))) 302 (flat (Fn 302) 12 (cn 6) (fun _ => 0))) 303 (flat (Fn 303) 12 (cn 6) (fun _ => 0))) 304 (flat (Fn 304) 12 (cn 6) (fun _ => 0))) 305 (flat (Fn 305) 32 (cn 6) (fun _ => 0)))), ((min 1 (cn 10)), e13X cI QA zz g ad cn In Fn), ((min 1 (cn 11)), e14X cI QA zz g ad cn In Fn), ((min 1 (cn 12)), e15X cI QA zz g ad cn In Fn), ((min 1 (cn 13)), e16X cI QA zz g ad cn In Fn), ((min 1 (cn 14)), e17X cI QA zz g ad cn In Fn), ((min 1 (cn 15)), e18X cI QA zz g ad cn In Fn)]).set 7 ((cn 6), e7X cI QA zz g (adO (adO (adO (adO (adO (adO (adO ad 5 (cn 6) qt) 60 (cn 6) r0) 61 (cn 6) r1) 62 (cn 6) r2) 63 (cn 6) r3) 64 (cn 6) r4) 4 1 (cn 6)) (va_up cn 6 (cn 6 + 1)) In (va_up (va_up (va_up (va_up (va_up (va_up (va_up (va_up (va_up (va_up Fn 195 (upd (Fn 195) (cn 6) 0)) 196 (upd (Fn 196) (cn 6) 0)) 197 (upd (Fn 197) (cn 6) 0)) 198 (upd (Fn 198) (cn 6) 0)) 199 (upd (Fn 199) (cn 6) (nI n))) 301 (flat (Fn 301) 200 (cn 6) (fun _ => 0))) 302 (flat (Fn 302) 12 (cn 6) (fun _ => 0))) 303 (flat (Fn 303) 12 (cn 6) (fun _ => 0))) 304 (flat (Fn 304) 12 (cn 6) (fun _ => 0))) 305 (flat (Fn 305) 32 (cn 6) (fun _ => 0))))).set 8 ((cn 6), e8X cI QA zz g (adO (adO (adO (adO (adO (adO (adO ad 5 (cn 6) qt) 60 (cn 6) r0) 61 (cn 6) r1) 62 (cn 6) r2) 63 (cn 6) r3) 64 (cn 6) r4) 4 1 (cn 6)) (va_up cn 6 (cn 6 + 1)) In (va_up (va_up (va_up (va_up (va_up (va_up (va_up (va_up (va_up (va_up Fn 195 (upd (Fn 195) (cn 6) 0)) 196 (upd (Fn 196) (cn 6) 0)) 197 (upd (Fn 197) (cn 6) 0)) 198 (upd (Fn 198) (cn 6) 0)) 199 (upd (Fn 199) (cn 6) (nI n))) 301 (flat (Fn 301) 200 (cn 6) (fun _ => 0))) 302 (flat (Fn 302) 12 (cn 6) (fun _ => 0))) 303 (flat (Fn 303) 12 (cn 6) (fun _ => 0))) 304 (flat (Fn 304) 12 (cn 6) (fun _ => 0))) 305 (flat (Fn 305) 32 (cn 6) (fun _ => 0))))).set 9 ((cn 6), e9X cI QA zz g (adO (adO (adO (adO (adO (adO (adO ad 5 (cn 6) qt) 60 (cn 6) r0) 61 (cn 6) r1) 62 (cn 6) r2) 63 (cn 6) r3) 64 (cn 6) r4) 4 1 (cn 6)) (va_up cn 6 (cn 6 + 1)) In (va_up (va_up (va_up (va_up (va_up (va_up (va_up (va_up (va_up (va_up Fn 195 (upd (Fn 195) (cn 6) 0)) 196 (upd (Fn 196) (cn 6) 0)) 197 (upd (Fn 197) (cn 6) 0)) 198 (upd (Fn 198) (cn 6) 0)) 199 (upd (Fn 199) (cn 6) (nI n))) 301 (flat (Fn 301) 200 (cn 6) (fun _ => 0))) 302 (flat (Fn 302) 12 (cn 6) (fun _ => 0))) 303 (flat (Fn 303) 12 (cn 6) (fun _ => 0))) 304 (flat (Fn 304) 12 (cn 6) (fun _ => 0))) 305 (flat (Fn 305) 32 (cn 6) (fun _ => 0))))) (i := 10) (n := (cn 6)) (f := e10X cI QA zz g (adO (adO (adO (adO (adO (adO (adO ad 5 (cn 6) qt) 60 (cn 6) r0) 61 (cn 6) r1) 62 (cn 6) r2) 63 (cn 6) r3) 64 (cn 6) r4) 4 1 (cn 6)) (va_up cn 6 (cn 6 + 1)) In (va_up (va_up (va_up (va_up (va_up (va_up (va_up (va_up (va_up (va_up Fn 195 (upd (Fn 195) (cn 6) 0)) 196 (upd (Fn 196) (cn 6) 0)) 197 (upd (Fn 197) (cn 6) 0)) 198 (upd (Fn 198) (cn 6) 0)) 199 (upd (Fn 199) (cn 6) (nI n))) 301 (flat (Fn 301) 200 (cn 6) (fun _ => 0))) 302 (flat (Fn 302) 12 (cn 6) (fun _ => 0))) 303 (flat (Fn 303) 12 (cn 6) (fun _ => 0))) 304 (flat (Fn 304) 12 (cn 6) (fun _ => 0))) 305 (flat (Fn 305) 32 (cn 6) (fun _ => 0)))) rfl
  have p4 := famW_push (fs := (((([((cn 10), e0X cI QA zz g ad cn In Fn), ((cn 11), e1X cI QA zz g ad cn In Fn), ((cn 12), e2X cI QA zz g ad cn In Fn), ((cn 13), e3X cI QA zz g ad cn In Fn), ((cn 14), e4X cI QA zz g ad cn In Fn), ((cn 15), e5X cI QA zz g ad cn In Fn), ((cn 12), e6X cI QA zz g ad cn In Fn), ((cn 6) + 1, e7X cI QA zz g (adO (adO (adO (adO (adO (adO (adO ad 5 (cn 6) qt) 60 (cn 6) r0) 61 (cn 6) r1) 62 (cn 6) r2) 63 (cn 6) r3) 64 (cn 6) r4) 4 1 (cn 6)) (va_up cn 6 (cn 6 + 1)) In (va_up (va_up (va_up (va_up (va_up (va_up (va_up (va_up (va_up (va_up Fn 195 (upd (Fn 195) (cn 6) 0)) 196 (upd (Fn 196) (cn 6) 0)) 197 (upd (Fn 197) (cn 6) 0)) 198 (upd (Fn 198) (cn 6) 0)) 199 (upd (Fn 199) (cn 6) (nI n))) 301 (flat (Fn 301) 200 (cn 6) (fun _ => 0))) 302 (flat (Fn 302) 12 (cn 6) (fun _ => 0))) 303 (flat (Fn 303) 12 (cn 6) (fun _ => 0))) 304 (flat (Fn 304) 12 (cn 6) (fun _ => 0))) 305 (flat (Fn 305) 32 (cn 6) (fun _ => 0)))), ((cn 6) + 1, e8X cI QA zz g (adO (adO (adO (adO (adO (adO (adO ad 5 (cn 6) qt) 60 (cn 6) r0) 61 (cn 6) r1) 62 (cn 6) r2) 63 (cn 6) r3) 64 (cn 6) r4) 4 1 (cn 6)) (va_up cn 6 (cn 6 + 1)) In (va_up (va_up (va_up (va_up (va_up (va_up (va_up (va_up (va_up (va_up Fn 195 (upd (Fn 195) (cn 6) 0)) 196 (upd (Fn 196) (cn 6) 0)) 197 (upd (Fn 197) (cn 6) 0)) 198 (upd (Fn 198) (cn 6) 0)) 199 (upd (Fn 199) (cn 6) (nI n))) 301 (flat (Fn 301) 200 (cn 6) (fun _ => 0))) 302 (flat (Fn 302) 12 (cn 6) (fun _ => 0))) 303 (flat (Fn 303) 12 (cn 6) (fun _ => 0))) 304 (flat (Fn 304) 12 (cn 6) (fun _ => 0))) 305 (flat (Fn 305) 32 (cn 6) (fun _ => 0)))), ((cn 6) + 1, e9X cI QA zz g (adO (adO (adO (adO (adO (adO (adO ad 5 (cn 6) qt) 60 (cn 6) r0) 61 (cn 6) r1) 62 (cn 6) r2) 63 (cn 6) r3) 64 (cn 6) r4) 4 1 (cn 6)) (va_up cn 6 (cn 6 + 1)) In (va_up (va_up (va_up (va_up (va_up (va_up (va_up (va_up (va_up (va_up Fn 195 (upd (Fn 195) (cn 6) 0)) 196 (upd (Fn 196) (cn 6) 0)) 197 (upd (Fn 197) (cn 6) 0)) 198 (upd (Fn 198) (cn 6) 0)) 199 (upd (Fn 199) (cn 6) (nI n))) 301 (flat (Fn 301) 200 (cn 6) (fun _ => 0))) 302 (flat (Fn 302) 12 (cn 6) (fun _ => 0))) 303 (flat (Fn 303) 12 (cn 6) (fun _ => 0))) 304 (flat (Fn 304) 12 (cn 6) (fun _ => 0))) 305 (flat (Fn 305) 32 (cn 6) (fun _ => 0)))), ((cn 6) + 1, e10X cI QA zz g (adO (adO (adO (adO (adO (adO (adO ad 5 (cn 6) qt) 60 (cn 6) r0) 61 (cn 6) r1) 62 (cn 6) r2) 63 (cn 6) r3) 64 (cn 6) r4) 4 1 (cn 6)) (va_up cn 6 (cn 6 + 1)) In (va_up (va_up (va_up (va_up (va_up (va_up (va_up (va_up (va_up (va_up Fn 195 (upd (Fn 195) (cn 6) 0)) 196 (upd (Fn 196) (cn 6) 0)) 197 (upd (Fn 197) (cn 6) 0)) 198 (upd (Fn 198) (cn 6) 0)) 199 (upd (Fn 199) (cn 6) (nI n))) 301 (flat (Fn 301) 200 (cn 6) (fun _ => 0))) 302 (flat (Fn 302) 12 (cn 6) (fun _ => 0))) 303 (flat (Fn 303) 12 (cn 6) (fun _ => 0))) 304 (flat (Fn 304) 12 (cn 6) (fun _ => 0))) 305 (flat (Fn 305) 32 (cn 6) (fun _ => 0)))), ((cn 6) + 1, e11X cI QA zz g (adO (adO (adO (adO (adO (adO (adO ad 5 (cn 6) qt) 60 (cn 6) r0) 61 (cn 6) r1) 62 (cn 6) r2) 63 (cn 6) r3) 64 (cn 6) r4) 4 1 (cn 6)) (va_up cn 6 (cn 6 + 1)) In (va_up (va_up (va_up (va_up (va_up (va_up (va_up (va_up (va_up (va_up Fn 195 (upd (Fn 195) (cn 6) 0)) 196 (upd (Fn 196) (cn 6) 0)) 197 (upd (Fn 197) (cn 6) 0)) 198 (upd (Fn 198) (cn 6) 0)) 199 (upd (Fn 199) (cn 6) (nI n))) 301 (flat (Fn 301) 200 (cn 6) (fun _ => 0))) 302 (flat (Fn 302) 12 (cn 6) (fun _ => 0))) 303 (flat (Fn 303) 12 (cn 6) (fun _ => 0))) 304 (flat (Fn 304) 12 (cn 6) (fun _ => 0))) 305 (flat (Fn 305) 32 (cn 6) (fun _ => 0)))), ((cn 6) + 1, e12X cI QA zz g (adO (adO (adO (adO (adO (adO (adO ad 5 (cn 6) qt) 60 (cn 6) r0) 61 (cn 6) r1) 62 (cn 6) r2) 63 (cn 6) r3) 64 (cn 6) r4) 4 1 (cn 6)) (va_up cn 6 (cn 6 + 1)) In (va_up (va_up (va_up (va_up (va_up (va_up (va_up (va_up (va_up (va_up Fn 195 (upd (Fn 195) (cn 6) 0)) 196 (upd (Fn 196) (cn 6) 0)) 197 (upd (Fn 197) (cn 6) 0)) 198 (upd (Fn 198) (cn 6) 0)) 199 (upd (Fn 199) (cn 6) (nI n))) 301 (flat (Fn 301) 200 (cn 6) (fun _ => 0))) 302 (flat (Fn 302) 12 (cn 6) (fun _ => 0))) 303 (flat (Fn 303) 12 (cn 6) (fun _ => 0))) 304 (flat (Fn 304) 12 (cn 6) (fun _ => 0))) 305 (flat (Fn 305) 32 (cn 6) (fun _ => 0)))), ((min 1 (cn 10)), e13X cI QA zz g ad cn In Fn), ((min 1 (cn 11)), e14X cI QA zz g ad cn In Fn), ((min 1 (cn 12)), e15X cI QA zz g ad cn In Fn), ((min 1 (cn 13)), e16X cI QA zz g ad cn In Fn), ((min 1 (cn 14)), e17X cI QA zz g ad cn In Fn), ((min 1 (cn 15)), e18X cI QA zz g ad cn In Fn)]).set 7 ((cn 6), e7X cI QA zz g (adO (adO (adO (adO (adO (adO (adO ad 5 (cn 6) qt) 60 (cn 6) r0) 61 (cn 6) r1) 62 (cn 6) r2) 63 (cn 6) r3) 64 (cn 6) r4) 4 1 (cn 6)) (va_up cn 6 (cn 6 + 1)) In (va_up (va_up (va_up (va_up (va_up (va_up (va_up (va_up (va_up (va_up Fn 195 (upd (Fn 195) (cn 6) 0)) 196 (upd (Fn 196) (cn 6) 0)) 197 (upd (Fn 197) (cn 6) 0)) 198 (upd (Fn 198) (cn 6) 0)) 199 (upd (Fn 199) (cn 6) (nI n))) 301 (flat (Fn 301) 200 (cn 6) (fun _ => 0))) 302 (flat (Fn 302) 12 (cn 6) (fun _ => 0))) 303 (flat (Fn 303) 12 (cn 6) (fun _ => 0))) 304 (flat (Fn 304) 12 (cn 6) (fun _ => 0))) 305 (flat (Fn 305) 32 (cn 6) (fun _ => 0))))).set 8 ((cn 6), e8X cI QA zz g (adO (adO (adO (adO (adO (adO (adO ad 5 (cn 6) qt) 60 (cn 6) r0) 61 (cn 6) r1) 62 (cn 6) r2) 63 (cn 6) r3) 64 (cn 6) r4) 4 1 (cn 6)) (va_up cn 6 (cn 6 + 1)) In (va_up (va_up (va_up (va_up (va_up (va_up (va_up (va_up (va_up (va_up Fn 195 (upd (Fn 195) (cn 6) 0)) 196 (upd (Fn 196) (cn 6) 0)) 197 (upd (Fn 197) (cn 6) 0)) 198 (upd (Fn 198) (cn 6) 0)) 199 (upd (Fn 199) (cn 6) (nI n))) 301 (flat (Fn 301) 200 (cn 6) (fun _ => 0))) 302 (flat (Fn 302) 12 (cn 6) (fun _ => 0))) 303 (flat (Fn 303) 12 (cn 6) (fun _ => 0))) 304 (flat (Fn 304) 12 (cn 6) (fun _ => 0))) 305 (flat (Fn 305) 32 (cn 6) (fun _ => 0))))).set 9 ((cn 6), e9X cI QA zz g (adO (adO (adO (adO (adO (adO (adO ad 5 (cn 6) qt) 60 (cn 6) r0) 61 (cn 6) r1) 62 (cn 6) r2) 63 (cn 6) r3) 64 (cn 6) r4) 4 1 (cn 6)) (va_up cn 6 (cn 6 + 1)) In (va_up (va_up (va_up (va_up (va_up (va_up (va_up (va_up (va_up (va_up Fn 195 (upd (Fn 195) (cn 6) 0)) 196 (upd (Fn 196) (cn 6) 0)) 197 (upd (Fn 197) (cn 6) 0)) 198 (upd (Fn 198) (cn 6) 0)) 199 (upd (Fn 199) (cn 6) (nI n))) 301 (flat (Fn 301) 200 (cn 6) (fun _ => 0))) 302 (flat (Fn 302) 12 (cn 6) (fun _ => 0))) 303 (flat (Fn 303) 12 (cn 6) (fun _ => 0))) 304 (flat (Fn 304) 12 (cn 6) (fun _ => 0))) 305 (flat (Fn 305) 32 (cn 6) (fun _ => 0))))).set 10 ((cn 6), e10X cI QA zz g (adO (adO (adO (adO (adO (adO (adO ad 5 (cn 6) qt) 60 (cn 6) r0) 61 (cn 6) r1) 62 (cn 6) r2) 63 (cn 6) r3) 64 (cn 6) r4) 4 1 (cn 6)) (va_up cn 6 (cn 6 + 1)) In (va_up (va_up (va_up (va_up (va_up (va_up (va_up (va_up (va_up (va_up Fn 195 (upd (Fn 195) (cn 6) 0)) 196 (upd (Fn 196) (cn 6) 0)) 197 (upd (Fn 197) (cn 6) 0)) 198 (upd (Fn 198) (cn 6) 0)) 199 (upd (Fn 199) (cn 6) (nI n))) 301 (flat (Fn 301) 200 (cn 6) (fun _ => 0))) 302 (flat (Fn 302) 12 (cn 6) (fun _ => 0))) 303 (flat (Fn 303) 12 (cn 6) (fun _ => 0))) 304 (flat (Fn 304) 12 (cn 6) (fun _ => 0))) 305 (flat (Fn 305) 32 (cn 6) (fun _ => 0))))) (i := 11) (n := (cn 6)) (f := e11X cI QA zz g (adO (adO (adO (adO (adO (adO (adO ad 5 (cn 6) qt) 60 (cn 6) r0) 61 (cn 6) r1) 62 (cn 6) r2) 63 (cn 6) r3) 64 (cn 6) r4) 4 1 (cn 6)) (va_up cn 6 (cn 6 + 1)) In (va_up (va_up (va_up (va_up (va_up (va_up (va_up (va_up (va_up (va_up Fn 195 (upd (Fn 195) (cn 6) 0)) 196 (upd (Fn 196) (cn 6) 0)) 197 (upd (Fn 197) (cn 6) 0)) 198 (upd (Fn 198) (cn 6) 0)) 199 (upd (Fn 199) (cn 6) (nI n))) 301 (flat (Fn 301) 200 (cn 6) (fun _ => 0))) 302 (flat (Fn 302) 12 (cn 6) (fun _ => 0))) 303 (flat (Fn 303) 12 (cn 6) (fun _ => 0))) 304 (flat (Fn 304) 12 (cn 6) (fun _ => 0))) 305 (flat (Fn 305) 32 (cn 6) (fun _ => 0)))) rfl
  have p5 := famW_push (fs := ((((([((cn 10), e0X cI QA zz g ad cn In Fn), ((cn 11), e1X cI QA zz g ad cn In Fn), ((cn 12), e2X cI QA zz g ad cn In Fn), ((cn 13), e3X cI QA zz g ad cn In Fn), ((cn 14), e4X cI QA zz g ad cn In Fn), ((cn 15), e5X cI QA zz g ad cn In Fn), ((cn 12), e6X cI QA zz g ad cn In Fn), ((cn 6) + 1, e7X cI QA zz g (adO (adO (adO (adO (adO (adO (adO ad 5 (cn 6) qt) 60 (cn 6) r0) 61 (cn 6) r1) 62 (cn 6) r2) 63 (cn 6) r3) 64 (cn 6) r4) 4 1 (cn 6)) (va_up cn 6 (cn 6 + 1)) In (va_up (va_up (va_up (va_up (va_up (va_up (va_up (va_up (va_up (va_up Fn 195 (upd (Fn 195) (cn 6) 0)) 196 (upd (Fn 196) (cn 6) 0)) 197 (upd (Fn 197) (cn 6) 0)) 198 (upd (Fn 198) (cn 6) 0)) 199 (upd (Fn 199) (cn 6) (nI n))) 301 (flat (Fn 301) 200 (cn 6) (fun _ => 0))) 302 (flat (Fn 302) 12 (cn 6) (fun _ => 0))) 303 (flat (Fn 303) 12 (cn 6) (fun _ => 0))) 304 (flat (Fn 304) 12 (cn 6) (fun _ => 0))) 305 (flat (Fn 305) 32 (cn 6) (fun _ => 0)))), ((cn 6) + 1, e8X cI QA zz g (adO (adO (adO (adO (adO (adO (adO ad 5 (cn 6) qt) 60 (cn 6) r0) 61 (cn 6) r1) 62 (cn 6) r2) 63 (cn 6) r3) 64 (cn 6) r4) 4 1 (cn 6)) (va_up cn 6 (cn 6 + 1)) In (va_up (va_up (va_up (va_up (va_up (va_up (va_up (va_up (va_up (va_up Fn 195 (upd (Fn 195) (cn 6) 0)) 196 (upd (Fn 196) (cn 6) 0)) 197 (upd (Fn 197) (cn 6) 0)) 198 (upd (Fn 198) (cn 6) 0)) 199 (upd (Fn 199) (cn 6) (nI n))) 301 (flat (Fn 301) 200 (cn 6) (fun _ => 0))) 302 (flat (Fn 302) 12 (cn 6) (fun _ => 0))) 303 (flat (Fn 303) 12 (cn 6) (fun _ => 0))) 304 (flat (Fn 304) 12 (cn 6) (fun _ => 0))) 305 (flat (Fn 305) 32 (cn 6) (fun _ => 0)))), ((cn 6) + 1, e9X cI QA zz g (adO (adO (adO (adO (adO (adO (adO ad 5 (cn 6) qt) 60 (cn 6) r0) 61 (cn 6) r1) 62 (cn 6) r2) 63 (cn 6) r3) 64 (cn 6) r4) 4 1 (cn 6)) (va_up cn 6 (cn 6 + 1)) In (va_up (va_up (va_up (va_up (va_up (va_up (va_up (va_up (va_up (va_up Fn 195 (upd (Fn 195) (cn 6) 0)) 196 (upd (Fn 196) (cn 6) 0)) 197 (upd (Fn 197) (cn 6) 0)) 198 (upd (Fn 198) (cn 6) 0)) 199 (upd (Fn 199) (cn 6) (nI n))) 301 (flat (Fn 301) 200 (cn 6) (fun _ => 0))) 302 (flat (Fn 302) 12 (cn 6) (fun _ => 0))) 303 (flat (Fn 303) 12 (cn 6) (fun _ => 0))) 304 (flat (Fn 304) 12 (cn 6) (fun _ => 0))) 305 (flat (Fn 305) 32 (cn 6) (fun _ => 0)))), ((cn 6) + 1, e10X cI QA zz g (adO (adO (adO (adO (adO (adO (adO ad 5 (cn 6) qt) 60 (cn 6) r0) 61 (cn 6) r1) 62 (cn 6) r2) 63 (cn 6) r3) 64 (cn 6) r4) 4 1 (cn 6)) (va_up cn 6 (cn 6 + 1)) In (va_up (va_up (va_up (va_up (va_up (va_up (va_up (va_up (va_up (va_up Fn 195 (upd (Fn 195) (cn 6) 0)) 196 (upd (Fn 196) (cn 6) 0)) 197 (upd (Fn 197) (cn 6) 0)) 198 (upd (Fn 198) (cn 6) 0)) 199 (upd (Fn 199) (cn 6) (nI n))) 301 (flat (Fn 301) 200 (cn 6) (fun _ => 0))) 302 (flat (Fn 302) 12 (cn 6) (fun _ => 0))) 303 (flat (Fn 303) 12 (cn 6) (fun _ => 0))) 304 (flat (Fn 304) 12 (cn 6) (fun _ => 0))) 305 (flat (Fn 305) 32 (cn 6) (fun _ => 0)))), ((cn 6) + 1, e11X cI QA zz g (adO (adO (adO (adO (adO (adO (adO ad 5 (cn 6) qt) 60 (cn 6) r0) 61 (cn 6) r1) 62 (cn 6) r2) 63 (cn 6) r3) 64 (cn 6) r4) 4 1 (cn 6)) (va_up cn 6 (cn 6 + 1)) In (va_up (va_up (va_up (va_up (va_up (va_up (va_up (va_up (va_up (va_up Fn 195 (upd (Fn 195) (cn 6) 0)) 196 (upd (Fn 196) (cn 6) 0)) 197 (upd (Fn 197) (cn 6) 0)) 198 (upd (Fn 198) (cn 6) 0)) 199 (upd (Fn 199) (cn 6) (nI n))) 301 (flat (Fn 301) 200 (cn 6) (fun _ => 0))) 302 (flat (Fn 302) 12 (cn 6) (fun _ => 0))) 303 (flat (Fn 303) 12 (cn 6) (fun _ => 0))) 304 (flat (Fn 304) 12 (cn 6) (fun _ => 0))) 305 (flat (Fn 305) 32 (cn 6) (fun _ => 0)))), ((cn 6) + 1, e12X cI QA zz g (adO (adO (adO (adO (adO (adO (adO ad 5 (cn 6) qt) 60 (cn 6) r0) 61 (cn 6) r1) 62 (cn 6) r2) 63 (cn 6) r3) 64 (cn 6) r4) 4 1 (cn 6)) (va_up cn 6 (cn 6 + 1)) In (va_up (va_up (va_up (va_up (va_up (va_up (va_up (va_up (va_up (va_up Fn 195 (upd (Fn 195) (cn 6) 0)) 196 (upd (Fn 196) (cn 6) 0)) 197 (upd (Fn 197) (cn 6) 0)) 198 (upd (Fn 198) (cn 6) 0)) 199 (upd (Fn 199) (cn 6) (nI n))) 301 (flat (Fn 301) 200 (cn 6) (fun _ => 0))) 302 (flat (Fn 302) 12 (cn 6) (fun _ => 0))) 303 (flat (Fn 303) 12 (cn 6) (fun _ => 0))) 304 (flat (Fn 304) 12 (cn 6) (fun _ => 0))) 305 (flat (Fn 305) 32 (cn 6) (fun _ => 0)))), ((min 1 (cn 10)), e13X cI QA zz g ad cn In Fn), ((min 1 (cn 11)), e14X cI QA zz g ad cn In Fn), ((min 1 (cn 12)), e15X cI QA zz g ad cn In Fn), ((min 1 (cn 13)), e16X cI QA zz g ad cn In Fn), ((min 1 (cn 14)), e17X cI QA zz g ad cn In Fn), ((min 1 (cn 15)), e18X cI QA zz g ad cn In Fn)]).set 7 ((cn 6), e7X cI QA zz g (adO (adO (adO (adO (adO (adO (adO ad 5 (cn 6) qt) 60 (cn 6) r0) 61 (cn 6) r1) 62 (cn 6) r2) 63 (cn 6) r3) 64 (cn 6) r4) 4 1 (cn 6)) (va_up cn 6 (cn 6 + 1)) In (va_up (va_up (va_up (va_up (va_up (va_up (va_up (va_up (va_up (va_up Fn 195 (upd (Fn 195) (cn 6) 0)) 196 (upd (Fn 196) (cn 6) 0)) 197 (upd (Fn 197) (cn 6) 0)) 198 (upd (Fn 198) (cn 6) 0)) 199 (upd (Fn 199) (cn 6) (nI n))) 301 (flat (Fn 301) 200 (cn 6) (fun _ => 0))) 302 (flat (Fn 302) 12 (cn 6) (fun _ => 0))) 303 (flat (Fn 303) 12 (cn 6) (fun _ => 0))) 304 (flat (Fn 304) 12 (cn 6) (fun _ => 0))) 305 (flat (Fn 305) 32 (cn 6) (fun _ => 0))))).set 8 ((cn 6), e8X cI QA zz g (adO (adO (adO (adO (adO (adO (adO ad 5 (cn 6) qt) 60 (cn 6) r0) 61 (cn 6) r1) 62 (cn 6) r2) 63 (cn 6) r3) 64 (cn 6) r4) 4 1 (cn 6)) (va_up cn 6 (cn 6 + 1)) In (va_up (va_up (va_up (va_up (va_up (va_up (va_up (va_up (va_up (va_up Fn 195 (upd (Fn 195) (cn 6) 0)) 196 (upd (Fn 196) (cn 6) 0)) 197 (upd (Fn 197) (cn 6) 0)) 198 (upd (Fn 198) (cn 6) 0)) 199 (upd (Fn 199) (cn 6) (nI n))) 301 (flat (Fn 301) 200 (cn 6) (fun _ => 0))) 302 (flat (Fn 302) 12 (cn 6) (fun _ => 0))) 303 (flat (Fn 303) 12 (cn 6) (fun _ => 0))) 304 (flat (Fn 304) 12 (cn 6) (fun _ => 0))) 305 (flat (Fn 305) 32 (cn 6) (fun _ => 0))))).set 9 ((cn 6), e9X cI QA zz g (adO (adO (adO (adO (adO (adO (adO ad 5 (cn 6) qt) 60 (cn 6) r0) 61 (cn 6) r1) 62 (cn 6) r2) 63 (cn 6) r3) 64 (cn 6) r4) 4 1 (cn 6)) (va_up cn 6 (cn 6 + 1)) In (va_up (va_up (va_up (va_up (va_up (va_up (va_up (va_up (va_up (va_up Fn 195 (upd (Fn 195) (cn 6) 0)) 196 (upd (Fn 196) (cn 6) 0)) 197 (upd (Fn 197) (cn 6) 0)) 198 (upd (Fn 198) (cn 6) 0)) 199 (upd (Fn 199) (cn 6) (nI n))) 301 (flat (Fn 301) 200 (cn 6) (fun _ => 0))) 302 (flat (Fn 302) 12 (cn 6) (fun _ => 0))) 303 (flat (Fn 303) 12 (cn 6) (fun _ => 0))) 304 (flat (Fn 304) 12 (cn 6) (fun _ => 0))) 305 (flat (Fn 305) 32 (cn 6) (fun _ => 0))))).set 10 ((cn 6), e10X cI QA zz g (adO (adO (adO (adO (adO (adO (adO ad 5 (cn 6) qt) 60 (cn 6) r0) 61 (cn 6) r1) 62 (cn 6) r2) 63 (cn 6) r3) 64 (cn 6) r4) 4 1 (cn 6)) (va_up cn 6 (cn 6 + 1)) In (va_up (va_up (va_up (va_up (va_up (va_up (va_up (va_up (va_up (va_up Fn 195 (upd (Fn 195) (cn 6) 0)) 196 (upd (Fn 196) (cn 6) 0)) 197 (upd (Fn 197) (cn 6) 0)) 198 (upd (Fn 198) (cn 6) 0)) 199 (upd (Fn 199) (cn 6) (nI n))) 301 (flat (Fn 301) 200 (cn 6) (fun _ => 0))) 302 (flat (Fn 302) 12 (cn 6) (fun _ => 0))) 303 (flat (Fn 303) 12 (cn 6) (fun _ => 0))) 304 (flat (Fn 304) 12 (cn 6) (fun _ => 0))) 305 (flat (Fn 305) 32 (cn 6) (fun _ => 0))))).set 11 ((cn 6), e11X cI QA zz g (adO (adO (adO (adO (adO (adO (adO ad 5 (cn 6) qt) 60 (cn 6) r0) 61 (cn 6) r1) 62 (cn 6) r2) 63 (cn 6) r3) 64 (cn 6) r4) 4 1 (cn 6)) (va_up cn 6 (cn 6 + 1)) In (va_up (va_up (va_up (va_up (va_up (va_up (va_up (va_up (va_up (va_up Fn 195 (upd (Fn 195) (cn 6) 0)) 196 (upd (Fn 196) (cn 6) 0)) 197 (upd (Fn 197) (cn 6) 0)) 198 (upd (Fn 198) (cn 6) 0)) 199 (upd (Fn 199) (cn 6) (nI n))) 301 (flat (Fn 301) 200 (cn 6) (fun _ => 0))) 302 (flat (Fn 302) 12 (cn 6) (fun _ => 0))) 303 (flat (Fn 303) 12 (cn 6) (fun _ => 0))) 304 (flat (Fn 304) 12 (cn 6) (fun _ => 0))) 305 (flat (Fn 305) 32 (cn 6) (fun _ => 0))))) (i := 12) (n := (cn 6)) (f := e12X cI QA zz g (adO (adO (adO (adO (adO (adO (adO ad 5 (cn 6) qt) 60 (cn 6) r0) 61 (cn 6) r1) 62 (cn 6) r2) 63 (cn 6) r3) 64 (cn 6) r4) 4 1 (cn 6)) (va_up cn 6 (cn 6 + 1)) In (va_up (va_up (va_up (va_up (va_up (va_up (va_up (va_up (va_up (va_up Fn 195 (upd (Fn 195) (cn 6) 0)) 196 (upd (Fn 196) (cn 6) 0)) 197 (upd (Fn 197) (cn 6) 0)) 198 (upd (Fn 198) (cn 6) 0)) 199 (upd (Fn 199) (cn 6) (nI n))) 301 (flat (Fn 301) 200 (cn 6) (fun _ => 0))) 302 (flat (Fn 302) 12 (cn 6) (fun _ => 0))) 303 (flat (Fn 303) 12 (cn 6) (fun _ => 0))) 304 (flat (Fn 304) 12 (cn 6) (fun _ => 0))) 305 (flat (Fn 305) 32 (cn 6) (fun _ => 0)))) rfl
  have ci_7 : ∀ k : Nat, k < (cn 6) → e7X cI QA zz g (adO (adO (adO (adO (adO (adO (adO ad 5 (cn 6) qt) 60 (cn 6) r0) 61 (cn 6) r1) 62 (cn 6) r2) 63 (cn 6) r3) 64 (cn 6) r4) 4 1 (cn 6)) (va_up cn 6 (cn 6 + 1)) In (va_up (va_up (va_up (va_up (va_up (va_up (va_up (va_up (va_up (va_up Fn 195 (upd (Fn 195) (cn 6) 0)) 196 (upd (Fn 196) (cn 6) 0)) 197 (upd (Fn 197) (cn 6) 0)) 198 (upd (Fn 198) (cn 6) 0)) 199 (upd (Fn 199) (cn 6) (nI n))) 301 (flat (Fn 301) 200 (cn 6) (fun _ => 0))) 302 (flat (Fn 302) 12 (cn 6) (fun _ => 0))) 303 (flat (Fn 303) 12 (cn 6) (fun _ => 0))) 304 (flat (Fn 304) 12 (cn 6) (fun _ => 0))) 305 (flat (Fn 305) 32 (cn 6) (fun _ => 0))) k = e7X cI QA zz g ad cn In Fn k := fun k hk => by
    have hne : ¬ k = (cn 6) := by omega
    simp [e7X, adO, va_up, upd, hne, gA_flat_ne, Nat.ne_of_lt h40, hn]
  have ci_8 : ∀ k : Nat, k < (cn 6) → e8X cI QA zz g (adO (adO (adO (adO (adO (adO (adO ad 5 (cn 6) qt) 60 (cn 6) r0) 61 (cn 6) r1) 62 (cn 6) r2) 63 (cn 6) r3) 64 (cn 6) r4) 4 1 (cn 6)) (va_up cn 6 (cn 6 + 1)) In (va_up (va_up (va_up (va_up (va_up (va_up (va_up (va_up (va_up (va_up Fn 195 (upd (Fn 195) (cn 6) 0)) 196 (upd (Fn 196) (cn 6) 0)) 197 (upd (Fn 197) (cn 6) 0)) 198 (upd (Fn 198) (cn 6) 0)) 199 (upd (Fn 199) (cn 6) (nI n))) 301 (flat (Fn 301) 200 (cn 6) (fun _ => 0))) 302 (flat (Fn 302) 12 (cn 6) (fun _ => 0))) 303 (flat (Fn 303) 12 (cn 6) (fun _ => 0))) 304 (flat (Fn 304) 12 (cn 6) (fun _ => 0))) 305 (flat (Fn 305) 32 (cn 6) (fun _ => 0))) k = e8X cI QA zz g ad cn In Fn k := fun k hk => by
    have hne : ¬ k = (cn 6) := by omega
    simp [e8X, adO, va_up, upd, hne, gA_flat_ne, Nat.ne_of_lt h40, hn]
  have ci_9 : ∀ k : Nat, k < (cn 6) → e9X cI QA zz g (adO (adO (adO (adO (adO (adO (adO ad 5 (cn 6) qt) 60 (cn 6) r0) 61 (cn 6) r1) 62 (cn 6) r2) 63 (cn 6) r3) 64 (cn 6) r4) 4 1 (cn 6)) (va_up cn 6 (cn 6 + 1)) In (va_up (va_up (va_up (va_up (va_up (va_up (va_up (va_up (va_up (va_up Fn 195 (upd (Fn 195) (cn 6) 0)) 196 (upd (Fn 196) (cn 6) 0)) 197 (upd (Fn 197) (cn 6) 0)) 198 (upd (Fn 198) (cn 6) 0)) 199 (upd (Fn 199) (cn 6) (nI n))) 301 (flat (Fn 301) 200 (cn 6) (fun _ => 0))) 302 (flat (Fn 302) 12 (cn 6) (fun _ => 0))) 303 (flat (Fn 303) 12 (cn 6) (fun _ => 0))) 304 (flat (Fn 304) 12 (cn 6) (fun _ => 0))) 305 (flat (Fn 305) 32 (cn 6) (fun _ => 0))) k = e9X cI QA zz g ad cn In Fn k := fun k hk => by
    have hne : ¬ k = (cn 6) := by omega
    simp [e9X, adO, va_up, upd, hne, gA_flat_ne, Nat.ne_of_lt h40, hn]
  have ci_10 : ∀ k : Nat, k < (cn 6) → e10X cI QA zz g (adO (adO (adO (adO (adO (adO (adO ad 5 (cn 6) qt) 60 (cn 6) r0) 61 (cn 6) r1) 62 (cn 6) r2) 63 (cn 6) r3) 64 (cn 6) r4) 4 1 (cn 6)) (va_up cn 6 (cn 6 + 1)) In (va_up (va_up (va_up (va_up (va_up (va_up (va_up (va_up (va_up (va_up Fn 195 (upd (Fn 195) (cn 6) 0)) 196 (upd (Fn 196) (cn 6) 0)) 197 (upd (Fn 197) (cn 6) 0)) 198 (upd (Fn 198) (cn 6) 0)) 199 (upd (Fn 199) (cn 6) (nI n))) 301 (flat (Fn 301) 200 (cn 6) (fun _ => 0))) 302 (flat (Fn 302) 12 (cn 6) (fun _ => 0))) 303 (flat (Fn 303) 12 (cn 6) (fun _ => 0))) 304 (flat (Fn 304) 12 (cn 6) (fun _ => 0))) 305 (flat (Fn 305) 32 (cn 6) (fun _ => 0))) k = e10X cI QA zz g ad cn In Fn k := fun k hk => by
    have hne : ¬ k = (cn 6) := by omega
    simp [e10X, adO, va_up, upd, hne, gA_flat_ne, Nat.ne_of_lt h40, hn]
  have ci_11 : ∀ k : Nat, k < (cn 6) → e11X cI QA zz g (adO (adO (adO (adO (adO (adO (adO ad 5 (cn 6) qt) 60 (cn 6) r0) 61 (cn 6) r1) 62 (cn 6) r2) 63 (cn 6) r3) 64 (cn 6) r4) 4 1 (cn 6)) (va_up cn 6 (cn 6 + 1)) In (va_up (va_up (va_up (va_up (va_up (va_up (va_up (va_up (va_up (va_up Fn 195 (upd (Fn 195) (cn 6) 0)) 196 (upd (Fn 196) (cn 6) 0)) 197 (upd (Fn 197) (cn 6) 0)) 198 (upd (Fn 198) (cn 6) 0)) 199 (upd (Fn 199) (cn 6) (nI n))) 301 (flat (Fn 301) 200 (cn 6) (fun _ => 0))) 302 (flat (Fn 302) 12 (cn 6) (fun _ => 0))) 303 (flat (Fn 303) 12 (cn 6) (fun _ => 0))) 304 (flat (Fn 304) 12 (cn 6) (fun _ => 0))) 305 (flat (Fn 305) 32 (cn 6) (fun _ => 0))) k = e11X cI QA zz g ad cn In Fn k := fun k hk => by
    have hne : ¬ k = (cn 6) := by omega
    simp [e11X, adO, va_up, upd, hne, gA_flat_ne, Nat.ne_of_lt h40, hn]
  have ci_12 : ∀ k : Nat, k < (cn 6) → e12X cI QA zz g (adO (adO (adO (adO (adO (adO (adO ad 5 (cn 6) qt) 60 (cn 6) r0) 61 (cn 6) r1) 62 (cn 6) r2) 63 (cn 6) r3) 64 (cn 6) r4) 4 1 (cn 6)) (va_up cn 6 (cn 6 + 1)) In (va_up (va_up (va_up (va_up (va_up (va_up (va_up (va_up (va_up (va_up Fn 195 (upd (Fn 195) (cn 6) 0)) 196 (upd (Fn 196) (cn 6) 0)) 197 (upd (Fn 197) (cn 6) 0)) 198 (upd (Fn 198) (cn 6) 0)) 199 (upd (Fn 199) (cn 6) (nI n))) 301 (flat (Fn 301) 200 (cn 6) (fun _ => 0))) 302 (flat (Fn 302) 12 (cn 6) (fun _ => 0))) 303 (flat (Fn 303) 12 (cn 6) (fun _ => 0))) 304 (flat (Fn 304) 12 (cn 6) (fun _ => 0))) 305 (flat (Fn 305) 32 (cn 6) (fun _ => 0))) k = e12X cI QA zz g ad cn In Fn k := fun k hk => by
    have hne : ¬ k = (cn 6) := by omega
    simp [e12X, adO, va_up, upd, hne, gA_flat_ne, Nat.ne_of_lt h40, hn]
  have b1 : famW ((((((([((cn 10), e0X cI QA zz g ad cn In Fn), ((cn 11), e1X cI QA zz g ad cn In Fn), ((cn 12), e2X cI QA zz g ad cn In Fn), ((cn 13), e3X cI QA zz g ad cn In Fn), ((cn 14), e4X cI QA zz g ad cn In Fn), ((cn 15), e5X cI QA zz g ad cn In Fn), ((cn 12), e6X cI QA zz g ad cn In Fn), ((cn 6) + 1, e7X cI QA zz g (adO (adO (adO (adO (adO (adO (adO ad 5 (cn 6) qt) 60 (cn 6) r0) 61 (cn 6) r1) 62 (cn 6) r2) 63 (cn 6) r3) 64 (cn 6) r4) 4 1 (cn 6)) (va_up cn 6 (cn 6 + 1)) In (va_up (va_up (va_up (va_up (va_up (va_up (va_up (va_up (va_up (va_up Fn 195 (upd (Fn 195) (cn 6) 0)) 196 (upd (Fn 196) (cn 6) 0)) 197 (upd (Fn 197) (cn 6) 0)) 198 (upd (Fn 198) (cn 6) 0)) 199 (upd (Fn 199) (cn 6) (nI n))) 301 (flat (Fn 301) 200 (cn 6) (fun _ => 0))) 302 (flat (Fn 302) 12 (cn 6) (fun _ => 0))) 303 (flat (Fn 303) 12 (cn 6) (fun _ => 0))) 304 (flat (Fn 304) 12 (cn 6) (fun _ => 0))) 305 (flat (Fn 305) 32 (cn 6) (fun _ => 0)))), ((cn 6) + 1, e8X cI QA zz g (adO (adO (adO (adO (adO (adO (adO ad 5 (cn 6) qt) 60 (cn 6) r0) 61 (cn 6) r1) 62 (cn 6) r2) 63 (cn 6) r3) 64 (cn 6) r4) 4 1 (cn 6)) (va_up cn 6 (cn 6 + 1)) In (va_up (va_up (va_up (va_up (va_up (va_up (va_up (va_up (va_up (va_up Fn 195 (upd (Fn 195) (cn 6) 0)) 196 (upd (Fn 196) (cn 6) 0)) 197 (upd (Fn 197) (cn 6) 0)) 198 (upd (Fn 198) (cn 6) 0)) 199 (upd (Fn 199) (cn 6) (nI n))) 301 (flat (Fn 301) 200 (cn 6) (fun _ => 0))) 302 (flat (Fn 302) 12 (cn 6) (fun _ => 0))) 303 (flat (Fn 303) 12 (cn 6) (fun _ => 0))) 304 (flat (Fn 304) 12 (cn 6) (fun _ => 0))) 305 (flat (Fn 305) 32 (cn 6) (fun _ => 0)))), ((cn 6) + 1, e9X cI QA zz g (adO (adO (adO (adO (adO (adO (adO ad 5 (cn 6) qt) 60 (cn 6) r0) 61 (cn 6) r1) 62 (cn 6) r2) 63 (cn 6) r3) 64 (cn 6) r4) 4 1 (cn 6)) (va_up cn 6 (cn 6 + 1)) In (va_up (va_up (va_up (va_up (va_up (va_up (va_up (va_up (va_up (va_up Fn 195 (upd (Fn 195) (cn 6) 0)) 196 (upd (Fn 196) (cn 6) 0)) 197 (upd (Fn 197) (cn 6) 0)) 198 (upd (Fn 198) (cn 6) 0)) 199 (upd (Fn 199) (cn 6) (nI n))) 301 (flat (Fn 301) 200 (cn 6) (fun _ => 0))) 302 (flat (Fn 302) 12 (cn 6) (fun _ => 0))) 303 (flat (Fn 303) 12 (cn 6) (fun _ => 0))) 304 (flat (Fn 304) 12 (cn 6) (fun _ => 0))) 305 (flat (Fn 305) 32 (cn 6) (fun _ => 0)))), ((cn 6) + 1, e10X cI QA zz g (adO (adO (adO (adO (adO (adO (adO ad 5 (cn 6) qt) 60 (cn 6) r0) 61 (cn 6) r1) 62 (cn 6) r2) 63 (cn 6) r3) 64 (cn 6) r4) 4 1 (cn 6)) (va_up cn 6 (cn 6 + 1)) In (va_up (va_up (va_up (va_up (va_up (va_up (va_up (va_up (va_up (va_up Fn 195 (upd (Fn 195) (cn 6) 0)) 196 (upd (Fn 196) (cn 6) 0)) 197 (upd (Fn 197) (cn 6) 0)) 198 (upd (Fn 198) (cn 6) 0)) 199 (upd (Fn 199) (cn 6) (nI n))) 301 (flat (Fn 301) 200 (cn 6) (fun _ => 0))) 302 (flat (Fn 302) 12 (cn 6) (fun _ => 0))) 303 (flat (Fn 303) 12 (cn 6) (fun _ => 0))) 304 (flat (Fn 304) 12 (cn 6) (fun _ => 0))) 305 (flat (Fn 305) 32 (cn 6) (fun _ => 0)))), ((cn 6) + 1, e11X cI QA zz g (adO (adO (adO (adO (adO (adO (adO ad 5 (cn 6) qt) 60 (cn 6) r0) 61 (cn 6) r1) 62 (cn 6) r2) 63 (cn 6) r3) 64 (cn 6) r4) 4 1 (cn 6)) (va_up cn 6 (cn 6 + 1)) In (va_up (va_up (va_up (va_up (va_up (va_up (va_up (va_up (va_up (va_up Fn 195 (upd (Fn 195) (cn 6) 0)) 196 (upd (Fn 196) (cn 6) 0)) 197 (upd (Fn 197) (cn 6) 0)) 198 (upd (Fn 198) (cn 6) 0)) 199 (upd (Fn 199) (cn 6) (nI n))) 301 (flat (Fn 301) 200 (cn 6) (fun _ => 0))) 302 (flat (Fn 302) 12 (cn 6) (fun _ => 0))) 303 (flat (Fn 303) 12 (cn 6) (fun _ => 0))) 304 (flat (Fn 304) 12 (cn 6) (fun _ => 0))) 305 (flat (Fn 305) 32 (cn 6) (fun _ => 0)))), ((cn 6) + 1, e12X cI QA zz g (adO (adO (adO (adO (adO (adO (adO ad 5 (cn 6) qt) 60 (cn 6) r0) 61 (cn 6) r1) 62 (cn 6) r2) 63 (cn 6) r3) 64 (cn 6) r4) 4 1 (cn 6)) (va_up cn 6 (cn 6 + 1)) In (va_up (va_up (va_up (va_up (va_up (va_up (va_up (va_up (va_up (va_up Fn 195 (upd (Fn 195) (cn 6) 0)) 196 (upd (Fn 196) (cn 6) 0)) 197 (upd (Fn 197) (cn 6) 0)) 198 (upd (Fn 198) (cn 6) 0)) 199 (upd (Fn 199) (cn 6) (nI n))) 301 (flat (Fn 301) 200 (cn 6) (fun _ => 0))) 302 (flat (Fn 302) 12 (cn 6) (fun _ => 0))) 303 (flat (Fn 303) 12 (cn 6) (fun _ => 0))) 304 (flat (Fn 304) 12 (cn 6) (fun _ => 0))) 305 (flat (Fn 305) 32 (cn 6) (fun _ => 0)))), ((min 1 (cn 10)), e13X cI QA zz g ad cn In Fn), ((min 1 (cn 11)), e14X cI QA zz g ad cn In Fn), ((min 1 (cn 12)), e15X cI QA zz g ad cn In Fn), ((min 1 (cn 13)), e16X cI QA zz g ad cn In Fn), ((min 1 (cn 14)), e17X cI QA zz g ad cn In Fn), ((min 1 (cn 15)), e18X cI QA zz g ad cn In Fn)]).set 7 ((cn 6), e7X cI QA zz g (adO (adO (adO (adO (adO (adO (adO ad 5 (cn 6) qt) 60 (cn 6) r0) 61 (cn 6) r1) 62 (cn 6) r2) 63 (cn 6) r3) 64 (cn 6) r4) 4 1 (cn 6)) (va_up cn 6 (cn 6 + 1)) In (va_up (va_up (va_up (va_up (va_up (va_up (va_up (va_up (va_up (va_up Fn 195 (upd (Fn 195) (cn 6) 0)) 196 (upd (Fn 196) (cn 6) 0)) 197 (upd (Fn 197) (cn 6) 0)) 198 (upd (Fn 198) (cn 6) 0)) 199 (upd (Fn 199) (cn 6) (nI n))) 301 (flat (Fn 301) 200 (cn 6) (fun _ => 0))) 302 (flat (Fn 302) 12 (cn 6) (fun _ => 0))) 303 (flat (Fn 303) 12 (cn 6) (fun _ => 0))) 304 (flat (Fn 304) 12 (cn 6) (fun _ => 0))) 305 (flat (Fn 305) 32 (cn 6) (fun _ => 0))))).set 8 ((cn 6), e8X cI QA zz g (adO (adO (adO (adO (adO (adO (adO ad 5 (cn 6) qt) 60 (cn 6) r0) 61 (cn 6) r1) 62 (cn 6) r2) 63 (cn 6) r3) 64 (cn 6) r4) 4 1 (cn 6)) (va_up cn 6 (cn 6 + 1)) In (va_up (va_up (va_up (va_up (va_up (va_up (va_up (va_up (va_up (va_up Fn 195 (upd (Fn 195) (cn 6) 0)) 196 (upd (Fn 196) (cn 6) 0)) 197 (upd (Fn 197) (cn 6) 0)) 198 (upd (Fn 198) (cn 6) 0)) 199 (upd (Fn 199) (cn 6) (nI n))) 301 (flat (Fn 301) 200 (cn 6) (fun _ => 0))) 302 (flat (Fn 302) 12 (cn 6) (fun _ => 0))) 303 (flat (Fn 303) 12 (cn 6) (fun _ => 0))) 304 (flat (Fn 304) 12 (cn 6) (fun _ => 0))) 305 (flat (Fn 305) 32 (cn 6) (fun _ => 0))))).set 9 ((cn 6), e9X cI QA zz g (adO (adO (adO (adO (adO (adO (adO ad 5 (cn 6) qt) 60 (cn 6) r0) 61 (cn 6) r1) 62 (cn 6) r2) 63 (cn 6) r3) 64 (cn 6) r4) 4 1 (cn 6)) (va_up cn 6 (cn 6 + 1)) In (va_up (va_up (va_up (va_up (va_up (va_up (va_up (va_up (va_up (va_up Fn 195 (upd (Fn 195) (cn 6) 0)) 196 (upd (Fn 196) (cn 6) 0)) 197 (upd (Fn 197) (cn 6) 0)) 198 (upd (Fn 198) (cn 6) 0)) 199 (upd (Fn 199) (cn 6) (nI n))) 301 (flat (Fn 301) 200 (cn 6) (fun _ => 0))) 302 (flat (Fn 302) 12 (cn 6) (fun _ => 0))) 303 (flat (Fn 303) 12 (cn 6) (fun _ => 0))) 304 (flat (Fn 304) 12 (cn 6) (fun _ => 0))) 305 (flat (Fn 305) 32 (cn 6) (fun _ => 0))))).set 10 ((cn 6), e10X cI QA zz g (adO (adO (adO (adO (adO (adO (adO ad 5 (cn 6) qt) 60 (cn 6) r0) 61 (cn 6) r1) 62 (cn 6) r2) 63 (cn 6) r3) 64 (cn 6) r4) 4 1 (cn 6)) (va_up cn 6 (cn 6 + 1)) In (va_up (va_up (va_up (va_up (va_up (va_up (va_up (va_up (va_up (va_up Fn 195 (upd (Fn 195) (cn 6) 0)) 196 (upd (Fn 196) (cn 6) 0)) 197 (upd (Fn 197) (cn 6) 0)) 198 (upd (Fn 198) (cn 6) 0)) 199 (upd (Fn 199) (cn 6) (nI n))) 301 (flat (Fn 301) 200 (cn 6) (fun _ => 0))) 302 (flat (Fn 302) 12 (cn 6) (fun _ => 0))) 303 (flat (Fn 303) 12 (cn 6) (fun _ => 0))) 304 (flat (Fn 304) 12 (cn 6) (fun _ => 0))) 305 (flat (Fn 305) 32 (cn 6) (fun _ => 0))))).set 11 ((cn 6), e11X cI QA zz g (adO (adO (adO (adO (adO (adO (adO ad 5 (cn 6) qt) 60 (cn 6) r0) 61 (cn 6) r1) 62 (cn 6) r2) 63 (cn 6) r3) 64 (cn 6) r4) 4 1 (cn 6)) (va_up cn 6 (cn 6 + 1)) In (va_up (va_up (va_up (va_up (va_up (va_up (va_up (va_up (va_up (va_up Fn 195 (upd (Fn 195) (cn 6) 0)) 196 (upd (Fn 196) (cn 6) 0)) 197 (upd (Fn 197) (cn 6) 0)) 198 (upd (Fn 198) (cn 6) 0)) 199 (upd (Fn 199) (cn 6) (nI n))) 301 (flat (Fn 301) 200 (cn 6) (fun _ => 0))) 302 (flat (Fn 302) 12 (cn 6) (fun _ => 0))) 303 (flat (Fn 303) 12 (cn 6) (fun _ => 0))) 304 (flat (Fn 304) 12 (cn 6) (fun _ => 0))) 305 (flat (Fn 305) 32 (cn 6) (fun _ => 0))))).set 12 ((cn 6), e12X cI QA zz g (adO (adO (adO (adO (adO (adO (adO ad 5 (cn 6) qt) 60 (cn 6) r0) 61 (cn 6) r1) 62 (cn 6) r2) 63 (cn 6) r3) 64 (cn 6) r4) 4 1 (cn 6)) (va_up cn 6 (cn 6 + 1)) In (va_up (va_up (va_up (va_up (va_up (va_up (va_up (va_up (va_up (va_up Fn 195 (upd (Fn 195) (cn 6) 0)) 196 (upd (Fn 196) (cn 6) 0)) 197 (upd (Fn 197) (cn 6) 0)) 198 (upd (Fn 198) (cn 6) 0)) 199 (upd (Fn 199) (cn 6) (nI n))) 301 (flat (Fn 301) 200 (cn 6) (fun _ => 0))) 302 (flat (Fn 302) 12 (cn 6) (fun _ => 0))) 303 (flat (Fn 303) 12 (cn 6) (fun _ => 0))) 304 (flat (Fn 304) 12 (cn 6) (fun _ => 0))) 305 (flat (Fn 305) 32 (cn 6) (fun _ => 0))))) = famW [((cn 10), e0X cI QA zz g ad cn In Fn), ((cn 11), e1X cI QA zz g ad cn In Fn), ((cn 12), e2X cI QA zz g ad cn In Fn), ((cn 13), e3X cI QA zz g ad cn In Fn), ((cn 14), e4X cI QA zz g ad cn In Fn), ((cn 15), e5X cI QA zz g ad cn In Fn), ((cn 12), e6X cI QA zz g ad cn In Fn), ((cn 6), e7X cI QA zz g ad cn In Fn), ((cn 6), e8X cI QA zz g ad cn In Fn), ((cn 6), e9X cI QA zz g ad cn In Fn), ((cn 6), e10X cI QA zz g ad cn In Fn), ((cn 6), e11X cI QA zz g ad cn In Fn), ((cn 6), e12X cI QA zz g ad cn In Fn), ((min 1 (cn 10)), e13X cI QA zz g ad cn In Fn), ((min 1 (cn 11)), e14X cI QA zz g ad cn In Fn), ((min 1 (cn 12)), e15X cI QA zz g ad cn In Fn), ((min 1 (cn 13)), e16X cI QA zz g ad cn In Fn), ((min 1 (cn 14)), e17X cI QA zz g ad cn In Fn), ((min 1 (cn 15)), e18X cI QA zz g ad cn In Fn)] := famW_cg (show famE [((cn 10), e0X cI QA zz g ad cn In Fn), ((cn 11), e1X cI QA zz g ad cn In Fn), ((cn 12), e2X cI QA zz g ad cn In Fn), ((cn 13), e3X cI QA zz g ad cn In Fn), ((cn 14), e4X cI QA zz g ad cn In Fn), ((cn 15), e5X cI QA zz g ad cn In Fn), ((cn 12), e6X cI QA zz g ad cn In Fn), ((cn 6), e7X cI QA zz g (adO (adO (adO (adO (adO (adO (adO ad 5 (cn 6) qt) 60 (cn 6) r0) 61 (cn 6) r1) 62 (cn 6) r2) 63 (cn 6) r3) 64 (cn 6) r4) 4 1 (cn 6)) (va_up cn 6 (cn 6 + 1)) In (va_up (va_up (va_up (va_up (va_up (va_up (va_up (va_up (va_up (va_up Fn 195 (upd (Fn 195) (cn 6) 0)) 196 (upd (Fn 196) (cn 6) 0)) 197 (upd (Fn 197) (cn 6) 0)) 198 (upd (Fn 198) (cn 6) 0)) 199 (upd (Fn 199) (cn 6) (nI n))) 301 (flat (Fn 301) 200 (cn 6) (fun _ => 0))) 302 (flat (Fn 302) 12 (cn 6) (fun _ => 0))) 303 (flat (Fn 303) 12 (cn 6) (fun _ => 0))) 304 (flat (Fn 304) 12 (cn 6) (fun _ => 0))) 305 (flat (Fn 305) 32 (cn 6) (fun _ => 0)))), ((cn 6), e8X cI QA zz g (adO (adO (adO (adO (adO (adO (adO ad 5 (cn 6) qt) 60 (cn 6) r0) 61 (cn 6) r1) 62 (cn 6) r2) 63 (cn 6) r3) 64 (cn 6) r4) 4 1 (cn 6)) (va_up cn 6 (cn 6 + 1)) In (va_up (va_up (va_up (va_up (va_up (va_up (va_up (va_up (va_up (va_up Fn 195 (upd (Fn 195) (cn 6) 0)) 196 (upd (Fn 196) (cn 6) 0)) 197 (upd (Fn 197) (cn 6) 0)) 198 (upd (Fn 198) (cn 6) 0)) 199 (upd (Fn 199) (cn 6) (nI n))) 301 (flat (Fn 301) 200 (cn 6) (fun _ => 0))) 302 (flat (Fn 302) 12 (cn 6) (fun _ => 0))) 303 (flat (Fn 303) 12 (cn 6) (fun _ => 0))) 304 (flat (Fn 304) 12 (cn 6) (fun _ => 0))) 305 (flat (Fn 305) 32 (cn 6) (fun _ => 0)))), ((cn 6), e9X cI QA zz g (adO (adO (adO (adO (adO (adO (adO ad 5 (cn 6) qt) 60 (cn 6) r0) 61 (cn 6) r1) 62 (cn 6) r2) 63 (cn 6) r3) 64 (cn 6) r4) 4 1 (cn 6)) (va_up cn 6 (cn 6 + 1)) In (va_up (va_up (va_up (va_up (va_up (va_up (va_up (va_up (va_up (va_up Fn 195 (upd (Fn 195) (cn 6) 0)) 196 (upd (Fn 196) (cn 6) 0)) 197 (upd (Fn 197) (cn 6) 0)) 198 (upd (Fn 198) (cn 6) 0)) 199 (upd (Fn 199) (cn 6) (nI n))) 301 (flat (Fn 301) 200 (cn 6) (fun _ => 0))) 302 (flat (Fn 302) 12 (cn 6) (fun _ => 0))) 303 (flat (Fn 303) 12 (cn 6) (fun _ => 0))) 304 (flat (Fn 304) 12 (cn 6) (fun _ => 0))) 305 (flat (Fn 305) 32 (cn 6) (fun _ => 0)))), ((cn 6), e10X cI QA zz g (adO (adO (adO (adO (adO (adO (adO ad 5 (cn 6) qt) 60 (cn 6) r0) 61 (cn 6) r1) 62 (cn 6) r2) 63 (cn 6) r3) 64 (cn 6) r4) 4 1 (cn 6)) (va_up cn 6 (cn 6 + 1)) In (va_up (va_up (va_up (va_up (va_up (va_up (va_up (va_up (va_up (va_up Fn 195 (upd (Fn 195) (cn 6) 0)) 196 (upd (Fn 196) (cn 6) 0)) 197 (upd (Fn 197) (cn 6) 0)) 198 (upd (Fn 198) (cn 6) 0)) 199 (upd (Fn 199) (cn 6) (nI n))) 301 (flat (Fn 301) 200 (cn 6) (fun _ => 0))) 302 (flat (Fn 302) 12 (cn 6) (fun _ => 0))) 303 (flat (Fn 303) 12 (cn 6) (fun _ => 0))) 304 (flat (Fn 304) 12 (cn 6) (fun _ => 0))) 305 (flat (Fn 305) 32 (cn 6) (fun _ => 0)))), ((cn 6), e11X cI QA zz g (adO (adO (adO (adO (adO (adO (adO ad 5 (cn 6) qt) 60 (cn 6) r0) 61 (cn 6) r1) 62 (cn 6) r2) 63 (cn 6) r3) 64 (cn 6) r4) 4 1 (cn 6)) (va_up cn 6 (cn 6 + 1)) In (va_up (va_up (va_up (va_up (va_up (va_up (va_up (va_up (va_up (va_up Fn 195 (upd (Fn 195) (cn 6) 0)) 196 (upd (Fn 196) (cn 6) 0)) 197 (upd (Fn 197) (cn 6) 0)) 198 (upd (Fn 198) (cn 6) 0)) 199 (upd (Fn 199) (cn 6) (nI n))) 301 (flat (Fn 301) 200 (cn 6) (fun _ => 0))) 302 (flat (Fn 302) 12 (cn 6) (fun _ => 0))) 303 (flat (Fn 303) 12 (cn 6) (fun _ => 0))) 304 (flat (Fn 304) 12 (cn 6) (fun _ => 0))) 305 (flat (Fn 305) 32 (cn 6) (fun _ => 0)))), ((cn 6), e12X cI QA zz g (adO (adO (adO (adO (adO (adO (adO ad 5 (cn 6) qt) 60 (cn 6) r0) 61 (cn 6) r1) 62 (cn 6) r2) 63 (cn 6) r3) 64 (cn 6) r4) 4 1 (cn 6)) (va_up cn 6 (cn 6 + 1)) In (va_up (va_up (va_up (va_up (va_up (va_up (va_up (va_up (va_up (va_up Fn 195 (upd (Fn 195) (cn 6) 0)) 196 (upd (Fn 196) (cn 6) 0)) 197 (upd (Fn 197) (cn 6) 0)) 198 (upd (Fn 198) (cn 6) 0)) 199 (upd (Fn 199) (cn 6) (nI n))) 301 (flat (Fn 301) 200 (cn 6) (fun _ => 0))) 302 (flat (Fn 302) 12 (cn 6) (fun _ => 0))) 303 (flat (Fn 303) 12 (cn 6) (fun _ => 0))) 304 (flat (Fn 304) 12 (cn 6) (fun _ => 0))) 305 (flat (Fn 305) 32 (cn 6) (fun _ => 0)))), ((min 1 (cn 10)), e13X cI QA zz g ad cn In Fn), ((min 1 (cn 11)), e14X cI QA zz g ad cn In Fn), ((min 1 (cn 12)), e15X cI QA zz g ad cn In Fn), ((min 1 (cn 13)), e16X cI QA zz g ad cn In Fn), ((min 1 (cn 14)), e17X cI QA zz g ad cn In Fn), ((min 1 (cn 15)), e18X cI QA zz g ad cn In Fn)] [((cn 10), e0X cI QA zz g ad cn In Fn), ((cn 11), e1X cI QA zz g ad cn In Fn), ((cn 12), e2X cI QA zz g ad cn In Fn), ((cn 13), e3X cI QA zz g ad cn In Fn), ((cn 14), e4X cI QA zz g ad cn In Fn), ((cn 15), e5X cI QA zz g ad cn In Fn), ((cn 12), e6X cI QA zz g ad cn In Fn), ((cn 6), e7X cI QA zz g ad cn In Fn), ((cn 6), e8X cI QA zz g ad cn In Fn), ((cn 6), e9X cI QA zz g ad cn In Fn), ((cn 6), e10X cI QA zz g ad cn In Fn), ((cn 6), e11X cI QA zz g ad cn In Fn), ((cn 6), e12X cI QA zz g ad cn In Fn), ((min 1 (cn 10)), e13X cI QA zz g ad cn In Fn), ((min 1 (cn 11)), e14X cI QA zz g ad cn In Fn), ((min 1 (cn 12)), e15X cI QA zz g ad cn In Fn), ((min 1 (cn 13)), e16X cI QA zz g ad cn In Fn), ((min 1 (cn 14)), e17X cI QA zz g ad cn In Fn), ((min 1 (cn 15)), e18X cI QA zz g ad cn In Fn)] from ⟨⟨rfl, fun k hk => rfl⟩, ⟨rfl, fun k hk => rfl⟩, ⟨rfl, fun k hk => rfl⟩, ⟨rfl, fun k hk => rfl⟩, ⟨rfl, fun k hk => rfl⟩, ⟨rfl, fun k hk => rfl⟩, ⟨rfl, fun k hk => rfl⟩, ⟨rfl, ci_7⟩, ⟨rfl, ci_8⟩, ⟨rfl, ci_9⟩, ⟨rfl, ci_10⟩, ⟨rfl, ci_11⟩, ⟨rfl, ci_12⟩, ⟨rfl, fun k hk => rfl⟩, ⟨rfl, fun k hk => rfl⟩, ⟨rfl, fun k hk => rfl⟩, ⟨rfl, fun k hk => rfl⟩, ⟨rfl, fun k hk => rfl⟩, ⟨rfl, fun k hk => rfl⟩, trivial⟩)
  rw [a1, List.append_assoc]
  refine List.Perm.append_left _ ?_
  refine List.Perm.symm ?_
  rw [b0]
  refine (((((p0.trans (p1.append_right _)).trans ((p2.append_right _).append_right _)).trans (((p3.append_right _).append_right _).append_right _)).trans ((((p4.append_right _).append_right _).append_right _).append_right _)).trans (((((p5.append_right _).append_right _).append_right _).append_right _).append_right _)).trans ?_
  rw [b1, a5_0, a5_1, a5_2, a5_3, a5_4, a5_5]
  simp only [List.append_assoc, List.cons_append, List.nil_append]
  exact List.Perm.append_left _ (List.reverse_perm ([(qt, .inr (10, [.ref r0, .ref r1, .ref r2, .ref r3, .ref r4, .int 0, .int 0, .int 0, .int 0])), (r0, .inl (cI, n, .inl (fun _ => 0))), (r1, .inl (cI, 12, .inl (fun _ => 0))), (r2, .inl (cI, 12, .inl (fun _ => 0))), (r3, .inl (cI, 12, .inl (fun _ => 0))), (r4, .inl (cI, 32, .inl (fun _ => 0)))] : va_W))
theorem xR42 {cI QA : ClassId} {zz : Nat} {g : Nat → Nat} {ad : Nat → Nat → Nat} {cn : Nat → Nat} {In : Nat → Int32} {Fn : Nat → Nat → Int32} : (wX cI QA zz g ad cn In Fn).set 3 (g 6, .inr (6, [.ref (g 40), .ref (ad 5 (ad 4 1)), .int (In 30), .int (nI (cn 31)), .int (nI (cn 32)), .int (In 33)])) = wX cI QA zz g (adO ad 4 2 (g 40)) cn In Fn := by
  simp only [wX, fxX]
  simp [adO]
  exact (famW_cg (show famE [((cn 10), e0X cI QA zz g (adO ad 4 2 (g 40)) cn In Fn), ((cn 11), e1X cI QA zz g (adO ad 4 2 (g 40)) cn In Fn), ((cn 12), e2X cI QA zz g (adO ad 4 2 (g 40)) cn In Fn), ((cn 13), e3X cI QA zz g (adO ad 4 2 (g 40)) cn In Fn), ((cn 14), e4X cI QA zz g (adO ad 4 2 (g 40)) cn In Fn), ((cn 15), e5X cI QA zz g (adO ad 4 2 (g 40)) cn In Fn), ((cn 12), e6X cI QA zz g (adO ad 4 2 (g 40)) cn In Fn), ((cn 6), e7X cI QA zz g (adO ad 4 2 (g 40)) cn In Fn), ((cn 6), e8X cI QA zz g (adO ad 4 2 (g 40)) cn In Fn), ((cn 6), e9X cI QA zz g (adO ad 4 2 (g 40)) cn In Fn), ((cn 6), e10X cI QA zz g (adO ad 4 2 (g 40)) cn In Fn), ((cn 6), e11X cI QA zz g (adO ad 4 2 (g 40)) cn In Fn), ((cn 6), e12X cI QA zz g (adO ad 4 2 (g 40)) cn In Fn), ((min 1 (cn 10)), e13X cI QA zz g (adO ad 4 2 (g 40)) cn In Fn), ((min 1 (cn 11)), e14X cI QA zz g (adO ad 4 2 (g 40)) cn In Fn), ((min 1 (cn 12)), e15X cI QA zz g (adO ad 4 2 (g 40)) cn In Fn), ((min 1 (cn 13)), e16X cI QA zz g (adO ad 4 2 (g 40)) cn In Fn), ((min 1 (cn 14)), e17X cI QA zz g (adO ad 4 2 (g 40)) cn In Fn), ((min 1 (cn 15)), e18X cI QA zz g (adO ad 4 2 (g 40)) cn In Fn)] [((cn 10), e0X cI QA zz g ad cn In Fn), ((cn 11), e1X cI QA zz g ad cn In Fn), ((cn 12), e2X cI QA zz g ad cn In Fn), ((cn 13), e3X cI QA zz g ad cn In Fn), ((cn 14), e4X cI QA zz g ad cn In Fn), ((cn 15), e5X cI QA zz g ad cn In Fn), ((cn 12), e6X cI QA zz g ad cn In Fn), ((cn 6), e7X cI QA zz g ad cn In Fn), ((cn 6), e8X cI QA zz g ad cn In Fn), ((cn 6), e9X cI QA zz g ad cn In Fn), ((cn 6), e10X cI QA zz g ad cn In Fn), ((cn 6), e11X cI QA zz g ad cn In Fn), ((cn 6), e12X cI QA zz g ad cn In Fn), ((min 1 (cn 10)), e13X cI QA zz g ad cn In Fn), ((min 1 (cn 11)), e14X cI QA zz g ad cn In Fn), ((min 1 (cn 12)), e15X cI QA zz g ad cn In Fn), ((min 1 (cn 13)), e16X cI QA zz g ad cn In Fn), ((min 1 (cn 14)), e17X cI QA zz g ad cn In Fn), ((min 1 (cn 15)), e18X cI QA zz g ad cn In Fn)] from ⟨⟨rfl, fun k hk => by simp [e0X, adO]⟩, ⟨rfl, fun k hk => by simp [e1X, adO]⟩, ⟨rfl, fun k hk => by simp [e2X, adO]⟩, ⟨rfl, fun k hk => by simp [e3X, adO]⟩, ⟨rfl, fun k hk => by simp [e4X, adO]⟩, ⟨rfl, fun k hk => by simp [e5X, adO]⟩, ⟨rfl, fun k hk => by simp [e6X, adO]⟩, ⟨rfl, fun k hk => by simp [e7X, adO]⟩, ⟨rfl, fun k hk => by simp [e8X, adO]⟩, ⟨rfl, fun k hk => by simp [e9X, adO]⟩, ⟨rfl, fun k hk => by simp [e10X, adO]⟩, ⟨rfl, fun k hk => by simp [e11X, adO]⟩, ⟨rfl, fun k hk => by simp [e12X, adO]⟩, ⟨rfl, fun k hk => by simp [e13X, adO]⟩, ⟨rfl, fun k hk => by simp [e14X, adO]⟩, ⟨rfl, fun k hk => by simp [e15X, adO]⟩, ⟨rfl, fun k hk => by simp [e16X, adO]⟩, ⟨rfl, fun k hk => by simp [e17X, adO]⟩, ⟨rfl, fun k hk => by simp [e18X, adO]⟩, trivial⟩)).symm
theorem xH40 {cI QA : ClassId} {zz : Nat} {g : Nat → Nat} {ad : Nat → Nat → Nat} {cn : Nat → Nat} {In : Nat → Int32} {Fn : Nat → Nat → Int32} {T : Nat} : (wX cI QA zz g ad cn In Fn).set 0 (g 0, .inr (12, [.int (nI (cn 0)), .int (nI (cn 1)), .int (nI (cn 2)), .int (nI (cn 5)), .ref (ad 5 T), .ref (g 5), .ref (g 6), .ref (g 7), .ref (g 8), .ref (g 9), .ref (g 10), .ref (g 11), .ref (g 12), .ref (g 13), .ref (g 14), .ref (g 15)])) = wX cI QA zz g (adO ad 4 0 T) cn In Fn := by
  simp only [wX, fxX]
  simp [adO]
  exact (famW_cg (show famE [((cn 10), e0X cI QA zz g (adO ad 4 0 T) cn In Fn), ((cn 11), e1X cI QA zz g (adO ad 4 0 T) cn In Fn), ((cn 12), e2X cI QA zz g (adO ad 4 0 T) cn In Fn), ((cn 13), e3X cI QA zz g (adO ad 4 0 T) cn In Fn), ((cn 14), e4X cI QA zz g (adO ad 4 0 T) cn In Fn), ((cn 15), e5X cI QA zz g (adO ad 4 0 T) cn In Fn), ((cn 12), e6X cI QA zz g (adO ad 4 0 T) cn In Fn), ((cn 6), e7X cI QA zz g (adO ad 4 0 T) cn In Fn), ((cn 6), e8X cI QA zz g (adO ad 4 0 T) cn In Fn), ((cn 6), e9X cI QA zz g (adO ad 4 0 T) cn In Fn), ((cn 6), e10X cI QA zz g (adO ad 4 0 T) cn In Fn), ((cn 6), e11X cI QA zz g (adO ad 4 0 T) cn In Fn), ((cn 6), e12X cI QA zz g (adO ad 4 0 T) cn In Fn), ((min 1 (cn 10)), e13X cI QA zz g (adO ad 4 0 T) cn In Fn), ((min 1 (cn 11)), e14X cI QA zz g (adO ad 4 0 T) cn In Fn), ((min 1 (cn 12)), e15X cI QA zz g (adO ad 4 0 T) cn In Fn), ((min 1 (cn 13)), e16X cI QA zz g (adO ad 4 0 T) cn In Fn), ((min 1 (cn 14)), e17X cI QA zz g (adO ad 4 0 T) cn In Fn), ((min 1 (cn 15)), e18X cI QA zz g (adO ad 4 0 T) cn In Fn)] [((cn 10), e0X cI QA zz g ad cn In Fn), ((cn 11), e1X cI QA zz g ad cn In Fn), ((cn 12), e2X cI QA zz g ad cn In Fn), ((cn 13), e3X cI QA zz g ad cn In Fn), ((cn 14), e4X cI QA zz g ad cn In Fn), ((cn 15), e5X cI QA zz g ad cn In Fn), ((cn 12), e6X cI QA zz g ad cn In Fn), ((cn 6), e7X cI QA zz g ad cn In Fn), ((cn 6), e8X cI QA zz g ad cn In Fn), ((cn 6), e9X cI QA zz g ad cn In Fn), ((cn 6), e10X cI QA zz g ad cn In Fn), ((cn 6), e11X cI QA zz g ad cn In Fn), ((cn 6), e12X cI QA zz g ad cn In Fn), ((min 1 (cn 10)), e13X cI QA zz g ad cn In Fn), ((min 1 (cn 11)), e14X cI QA zz g ad cn In Fn), ((min 1 (cn 12)), e15X cI QA zz g ad cn In Fn), ((min 1 (cn 13)), e16X cI QA zz g ad cn In Fn), ((min 1 (cn 14)), e17X cI QA zz g ad cn In Fn), ((min 1 (cn 15)), e18X cI QA zz g ad cn In Fn)] from ⟨⟨rfl, fun k hk => by simp [e0X, adO]⟩, ⟨rfl, fun k hk => by simp [e1X, adO]⟩, ⟨rfl, fun k hk => by simp [e2X, adO]⟩, ⟨rfl, fun k hk => by simp [e3X, adO]⟩, ⟨rfl, fun k hk => by simp [e4X, adO]⟩, ⟨rfl, fun k hk => by simp [e5X, adO]⟩, ⟨rfl, fun k hk => by simp [e6X, adO]⟩, ⟨rfl, fun k hk => by simp [e7X, adO]⟩, ⟨rfl, fun k hk => by simp [e8X, adO]⟩, ⟨rfl, fun k hk => by simp [e9X, adO]⟩, ⟨rfl, fun k hk => by simp [e10X, adO]⟩, ⟨rfl, fun k hk => by simp [e11X, adO]⟩, ⟨rfl, fun k hk => by simp [e12X, adO]⟩, ⟨rfl, fun k hk => by simp [e13X, adO]⟩, ⟨rfl, fun k hk => by simp [e14X, adO]⟩, ⟨rfl, fun k hk => by simp [e15X, adO]⟩, ⟨rfl, fun k hk => by simp [e16X, adO]⟩, ⟨rfl, fun k hk => by simp [e17X, adO]⟩, ⟨rfl, fun k hk => by simp [e18X, adO]⟩, trivial⟩)).symm
theorem xK3 {cI QA : ClassId} {zz : Nat} {g : Nat → Nat} {ad : Nat → Nat → Nat} {cn : Nat → Nat} {In : Nat → Int32} {Fn : Nat → Nat → Int32} {k T : Nat} (hk : k < cn 10) : (wX cI QA zz g ad cn In Fn).set ((fxX cI QA zz g ad cn In Fn).length + (famO (fsX cI QA zz g ad cn In Fn) 0 + k)) (ad 10 k, .inr (2, [.int (Fn 100 k), .int (Fn 101 k), .int (Fn 102 k), .int (Fn 103 k), .int (Fn 104 k), .int (Fn 105 k), .int (Fn 106 k), .int (Fn 107 k), .int (Fn 108 k), .int (Fn 109 k), .ref (ad 5 T)])) = wX cI QA zz g (adO ad 3 k T) cn In Fn := by
  have e1 : fxX cI QA zz g (adO ad 3 k T) cn In Fn = fxX cI QA zz g ad cn In Fn := by simp [fxX, adO]
  have h : e0X cI QA zz g (adO ad 3 k T) cn In Fn = va_up (e0X cI QA zz g ad cn In Fn) k (ad 10 k, .inr (2, [.int (Fn 100 k), .int (Fn 101 k), .int (Fn 102 k), .int (Fn 103 k), .int (Fn 104 k), .int (Fn 105 k), .int (Fn 106 k), .int (Fn 107 k), .int (Fn 108 k), .int (Fn 109 k), .ref (ad 5 T)])) := funext fun j => by
    by_cases q : j = k
    · subst q; simp [e0X, va_up, adO]
    · simp [e0X, va_up, adO, q]
  unfold wX
  rw [fxW_set (p := (cn 10, e0X cI QA zz g ad cn In Fn)) rfl hk, e1]
  refine congrArg (fun w => fxX cI QA zz g ad cn In Fn ++ w) ?_
  exact (famW_cg (show famE [((cn 10), e0X cI QA zz g (adO ad 3 k T) cn In Fn), ((cn 11), e1X cI QA zz g (adO ad 3 k T) cn In Fn), ((cn 12), e2X cI QA zz g (adO ad 3 k T) cn In Fn), ((cn 13), e3X cI QA zz g (adO ad 3 k T) cn In Fn), ((cn 14), e4X cI QA zz g (adO ad 3 k T) cn In Fn), ((cn 15), e5X cI QA zz g (adO ad 3 k T) cn In Fn), ((cn 12), e6X cI QA zz g (adO ad 3 k T) cn In Fn), ((cn 6), e7X cI QA zz g (adO ad 3 k T) cn In Fn), ((cn 6), e8X cI QA zz g (adO ad 3 k T) cn In Fn), ((cn 6), e9X cI QA zz g (adO ad 3 k T) cn In Fn), ((cn 6), e10X cI QA zz g (adO ad 3 k T) cn In Fn), ((cn 6), e11X cI QA zz g (adO ad 3 k T) cn In Fn), ((cn 6), e12X cI QA zz g (adO ad 3 k T) cn In Fn), ((min 1 (cn 10)), e13X cI QA zz g (adO ad 3 k T) cn In Fn), ((min 1 (cn 11)), e14X cI QA zz g (adO ad 3 k T) cn In Fn), ((min 1 (cn 12)), e15X cI QA zz g (adO ad 3 k T) cn In Fn), ((min 1 (cn 13)), e16X cI QA zz g (adO ad 3 k T) cn In Fn), ((min 1 (cn 14)), e17X cI QA zz g (adO ad 3 k T) cn In Fn), ((min 1 (cn 15)), e18X cI QA zz g (adO ad 3 k T) cn In Fn)] [((cn 10), va_up (e0X cI QA zz g ad cn In Fn) k (ad 10 k, .inr (2, [.int (Fn 100 k), .int (Fn 101 k), .int (Fn 102 k), .int (Fn 103 k), .int (Fn 104 k), .int (Fn 105 k), .int (Fn 106 k), .int (Fn 107 k), .int (Fn 108 k), .int (Fn 109 k), .ref (ad 5 T)]))), ((cn 11), e1X cI QA zz g ad cn In Fn), ((cn 12), e2X cI QA zz g ad cn In Fn), ((cn 13), e3X cI QA zz g ad cn In Fn), ((cn 14), e4X cI QA zz g ad cn In Fn), ((cn 15), e5X cI QA zz g ad cn In Fn), ((cn 12), e6X cI QA zz g ad cn In Fn), ((cn 6), e7X cI QA zz g ad cn In Fn), ((cn 6), e8X cI QA zz g ad cn In Fn), ((cn 6), e9X cI QA zz g ad cn In Fn), ((cn 6), e10X cI QA zz g ad cn In Fn), ((cn 6), e11X cI QA zz g ad cn In Fn), ((cn 6), e12X cI QA zz g ad cn In Fn), ((min 1 (cn 10)), e13X cI QA zz g ad cn In Fn), ((min 1 (cn 11)), e14X cI QA zz g ad cn In Fn), ((min 1 (cn 12)), e15X cI QA zz g ad cn In Fn), ((min 1 (cn 13)), e16X cI QA zz g ad cn In Fn), ((min 1 (cn 14)), e17X cI QA zz g ad cn In Fn), ((min 1 (cn 15)), e18X cI QA zz g ad cn In Fn)] from ⟨⟨rfl, fun i hi => congrFun h i⟩, ⟨rfl, fun i hi => by simp [e1X, adO]⟩, ⟨rfl, fun i hi => by simp [e2X, adO]⟩, ⟨rfl, fun i hi => by simp [e3X, adO]⟩, ⟨rfl, fun i hi => by simp [e4X, adO]⟩, ⟨rfl, fun i hi => by simp [e5X, adO]⟩, ⟨rfl, fun i hi => by simp [e6X, adO]⟩, ⟨rfl, fun i hi => by simp [e7X, adO]⟩, ⟨rfl, fun i hi => by simp [e8X, adO]⟩, ⟨rfl, fun i hi => by simp [e9X, adO]⟩, ⟨rfl, fun i hi => by simp [e10X, adO]⟩, ⟨rfl, fun i hi => by simp [e11X, adO]⟩, ⟨rfl, fun i hi => by simp [e12X, adO]⟩, ⟨rfl, fun i hi => by simp [e13X, adO]⟩, ⟨rfl, fun i hi => by simp [e14X, adO]⟩, ⟨rfl, fun i hi => by simp [e15X, adO]⟩, ⟨rfl, fun i hi => by simp [e16X, adO]⟩, ⟨rfl, fun i hi => by simp [e17X, adO]⟩, ⟨rfl, fun i hi => by simp [e18X, adO]⟩, trivial⟩)).symm

set_option maxRecDepth 100000 in
theorem gf_RX5_27 {p : Program} {l : Launch} {e : Env} {R : Room} {s : State} {m : MethodId} {args : Array Value} {below : List Frame} {meth : Method} {c : Code} {H : Heap} {locs : List Loc} {cells slots : Nat} {Q : State → Prop} {cc : ByteArray} {nL pc : Nat} {D : va_G} {cI cB cZ : ClassId} {ws : va_W} {rest : List Value} {ls : Array Slot} {a : Nat} {fs : List Value} {v : Value} (S : SF p m c cc nL s args RX5) (hK : KK D cI cB cZ s) (hP : va_P D vwCl ws H) (q0 : Nat) (he : ws[q0]? = some (a, .inr (6, fs))) (hv : fs[2]? = some v) (hdg : decode cc pc = .ok (.getfield 27, 3)) (kk : W p l e R s m args below meth c H locs cells slots Q (F0 m (pc + 3) ls (v :: rest))) : W p l e R s m args below meth c H locs cells slots Q (F0 m pc ls (.ref a :: rest)) :=
  va_get (C := RX5) (T := TX5) (N := 6) S.1 S.2.1 S.2.2.2.2 hin_RX5 S.2.2.2.1 hK.1 hP q0 he rfl 2 (by decide) (S.2.2.2.2 _ (wk1_8 3 rfl rfl)) (fun _ h9 => h9) hv hdg kk
set_option maxRecDepth 100000 in
theorem gf_RX5_50 {p : Program} {l : Launch} {e : Env} {R : Room} {s : State} {m : MethodId} {args : Array Value} {below : List Frame} {meth : Method} {c : Code} {H : Heap} {locs : List Loc} {cells slots : Nat} {Q : State → Prop} {cc : ByteArray} {nL pc : Nat} {D : va_G} {cI cB cZ : ClassId} {ws : va_W} {rest : List Value} {ls : Array Slot} {a : Nat} {fs : List Value} {v : Value} (S : SF p m c cc nL s args RX5) (hK : KK D cI cB cZ s) (hP : va_P D vwCl ws H) (q0 : Nat) (he : ws[q0]? = some (a, .inr (10, fs))) (hv : fs[8]? = some v) (hdg : decode cc pc = .ok (.getfield 50, 3)) (kk : W p l e R s m args below meth c H locs cells slots Q (F0 m (pc + 3) ls (v :: rest))) : W p l e R s m args below meth c H locs cells slots Q (F0 m pc ls (.ref a :: rest)) :=
  va_get (C := RX9) (T := TX9) (N := 9) S.1 S.2.1 S.2.2.2.2 hin_RX9 S.2.2.2.1 hK.1 hP q0 he rfl 8 (by decide) (S.2.2.2.2 _ (wk1_4 5 rfl rfl)) (fun _ h9 => h9) hv hdg kk
set_option maxRecDepth 100000 in
theorem kV_RX5_53 : CalV RX5 53 yX9_startSum cX9_startSum 1 none 0 := ⟨⟨wk3_5 11 rfl rfl, wk3_6 0 rfl rfl, wk3_6 1 rfl rfl, wk1_0 2 rfl rfl, wk3_6 2 rfl rfl⟩, ⟨nmh_10.1, nmh_10.2, pd_2⟩⟩
set_option maxRecDepth 100000 in
theorem kV_RX5_59 : CalV RX5 59 yX9_startCondition cX9_startCondition 1 none 0 := ⟨⟨wk3_15 1 rfl rfl, wk3_15 2 rfl rfl, wk3_15 3 rfl rfl, wk1_0 2 rfl rfl, wk3_15 4 rfl rfl⟩, ⟨nmh_10.1, nmh_10.2, pd_2⟩⟩
set_option maxRecDepth 100000 in
theorem kV_RX5_69 : CalV RX5 69 yX9_endClause cX9_endClause 1 none 0 := ⟨⟨wk3_17 3 rfl rfl, wk3_17 4 rfl rfl, wk3_17 5 rfl rfl, wk1_0 2 rfl rfl, wk3_17 6 rfl rfl⟩, ⟨nmh_10.1, nmh_10.2, pd_2⟩⟩
set_option maxRecDepth 100000 in
theorem gf_RX5_24 {p : Program} {l : Launch} {e : Env} {R : Room} {s : State} {m : MethodId} {args : Array Value} {below : List Frame} {meth : Method} {c : Code} {H : Heap} {locs : List Loc} {cells slots : Nat} {Q : State → Prop} {cc : ByteArray} {nL pc : Nat} {D : va_G} {cI cB cZ : ClassId} {ws : va_W} {rest : List Value} {ls : Array Slot} {a : Nat} {fs : List Value} {v : Value} (S : SF p m c cc nL s args RX5) (hK : KK D cI cB cZ s) (hP : va_P D vwCl ws H) (q0 : Nat) (he : ws[q0]? = some (a, .inr (9, fs))) (hv : fs[0]? = some v) (hdg : decode cc pc = .ok (.getfield 24, 3)) (kk : W p l e R s m args below meth c H locs cells slots Q (F0 m (pc + 3) ls (v :: rest))) : W p l e R s m args below meth c H locs cells slots Q (F0 m pc ls (.ref a :: rest)) :=
  va_get (C := RX8) (T := TX8) (N := 2) S.1 S.2.1 S.2.2.2.2 hin_RX8 S.2.2.2.1 hK.1 hP q0 he rfl 0 (by decide) (S.2.2.2.2 _ (wk1_6 10 rfl rfl)) (fun _ h9 => h9) hv hdg kk
set_option maxRecDepth 100000 in
theorem pf_RX5_9 {p : Program} {l : Launch} {e : Env} {R : Room} {s : State} {m : MethodId} {args : Array Value} {below : List Frame} {meth : Method} {c : Code} {H : Heap} {locs : List Loc} {cells slots : Nat} {Q : State → Prop} {cc : ByteArray} {nL pc : Nat} {D : va_G} {cI cB cZ : ClassId} {ws : va_W} {rest : List Value} {ls : Array Slot} {a : Nat} {fs : List Value} {v : Value} {A : Nat → Prop} {H0 : Heap} (S : SF p m c cc nL s args RX5) (hK : KK D cI cB cZ s) (hP : va_P D vwCl ws H) (hD : va_D A ws) (hS : va_S A H0 H locs) (q0 : Nat) (he : ws[q0]? = some (a, .inr (6, fs))) (hl : 0 < fs.length) (hn : narrow (tyX5 0) v = v) (hfit : fits (tyX5 0) v = true) (hdg : decode cc pc = .ok (.putfield 9, 3)) (kk : ∀ (H1 : Heap) (locs1 : List Loc), va_P D vwCl (ws.set q0 (a, .inr (6, fs.set 0 v))) H1 → va_D A (ws.set q0 (a, .inr (6, fs.set 0 v))) → va_S A H0 H1 locs1 → W p l e R s m args below meth c H1 locs1 cells slots Q (F0 m (pc + 3) ls rest)) : W p l e R s m args below meth c H locs cells slots Q (F0 m pc ls (v :: .ref a :: rest)) :=
  va_put (C := RX5) (T := TX5) (N := 6) S.1 S.2.1 S.2.2.2.2 hin_RX5 tyX5 tyX5_ok nmX5 S.2.2.2.1 hK.1 hP hD hS q0 he rfl 0 (by decide) (S.2.2.2.2 _ (wk1_8 1 rfl rfl)) (fun _ h9 => h9) rfl (tyX5_ok 0 (by decide)) hn hfit hl hdg kk
set_option maxRecDepth 100000 in
theorem kI_RX5_17 : CalI RX5 17 yX9_init cX9_init 2 1 := ⟨⟨wk1_8 0 rfl rfl, wk1_3 2 rfl rfl, wk1_0 2 rfl rfl, wk1_3 3 rfl rfl⟩, rfl, ⟨nmh_10.1, nmh_10.2, pd_14⟩⟩
set_option maxRecDepth 100000 in
theorem pf_RX5_20 {p : Program} {l : Launch} {e : Env} {R : Room} {s : State} {m : MethodId} {args : Array Value} {below : List Frame} {meth : Method} {c : Code} {H : Heap} {locs : List Loc} {cells slots : Nat} {Q : State → Prop} {cc : ByteArray} {nL pc : Nat} {D : va_G} {cI cB cZ : ClassId} {ws : va_W} {rest : List Value} {ls : Array Slot} {a : Nat} {fs : List Value} {v : Value} {A : Nat → Prop} {H0 : Heap} (S : SF p m c cc nL s args RX5) (hK : KK D cI cB cZ s) (hP : va_P D vwCl ws H) (hD : va_D A ws) (hS : va_S A H0 H locs) (q0 : Nat) (he : ws[q0]? = some (a, .inr (6, fs))) (hl : 1 < fs.length) (hn : narrow (tyX5 1) v = v) (hfit : fits (tyX5 1) v = true) (hdg : decode cc pc = .ok (.putfield 20, 3)) (kk : ∀ (H1 : Heap) (locs1 : List Loc), va_P D vwCl (ws.set q0 (a, .inr (6, fs.set 1 v))) H1 → va_D A (ws.set q0 (a, .inr (6, fs.set 1 v))) → va_S A H0 H1 locs1 → W p l e R s m args below meth c H1 locs1 cells slots Q (F0 m (pc + 3) ls rest)) : W p l e R s m args below meth c H locs cells slots Q (F0 m pc ls (v :: .ref a :: rest)) :=
  va_put (C := RX5) (T := TX5) (N := 6) S.1 S.2.1 S.2.2.2.2 hin_RX5 tyX5 tyX5_ok nmX5 S.2.2.2.1 hK.1 hP hD hS q0 he rfl 1 (by decide) (S.2.2.2.2 _ (wk1_8 2 rfl rfl)) (fun _ h9 => h9) rfl (tyX5_ok 1 (by decide)) hn hfit hl hdg kk
set_option maxRecDepth 100000 in
theorem pf_RX5_27 {p : Program} {l : Launch} {e : Env} {R : Room} {s : State} {m : MethodId} {args : Array Value} {below : List Frame} {meth : Method} {c : Code} {H : Heap} {locs : List Loc} {cells slots : Nat} {Q : State → Prop} {cc : ByteArray} {nL pc : Nat} {D : va_G} {cI cB cZ : ClassId} {ws : va_W} {rest : List Value} {ls : Array Slot} {a : Nat} {fs : List Value} {v : Value} {A : Nat → Prop} {H0 : Heap} (S : SF p m c cc nL s args RX5) (hK : KK D cI cB cZ s) (hP : va_P D vwCl ws H) (hD : va_D A ws) (hS : va_S A H0 H locs) (q0 : Nat) (he : ws[q0]? = some (a, .inr (6, fs))) (hl : 2 < fs.length) (hn : narrow (tyX5 2) v = v) (hfit : fits (tyX5 2) v = true) (hdg : decode cc pc = .ok (.putfield 27, 3)) (kk : ∀ (H1 : Heap) (locs1 : List Loc), va_P D vwCl (ws.set q0 (a, .inr (6, fs.set 2 v))) H1 → va_D A (ws.set q0 (a, .inr (6, fs.set 2 v))) → va_S A H0 H1 locs1 → W p l e R s m args below meth c H1 locs1 cells slots Q (F0 m (pc + 3) ls rest)) : W p l e R s m args below meth c H locs cells slots Q (F0 m pc ls (v :: .ref a :: rest)) :=
  va_put (C := RX5) (T := TX5) (N := 6) S.1 S.2.1 S.2.2.2.2 hin_RX5 tyX5 tyX5_ok nmX5 S.2.2.2.1 hK.1 hP hD hS q0 he rfl 2 (by decide) (S.2.2.2.2 _ (wk1_8 3 rfl rfl)) (fun _ h9 => h9) rfl (tyX5_ok 2 (by decide)) hn hfit hl hdg kk
set_option maxRecDepth 100000 in
theorem kV_RX5_40 : CalV RX5 40 yX5_readClause cX5_readClause 1 none 0 := ⟨⟨wk3_4 11 rfl rfl, wk3_5 1 rfl rfl, wT_sel 6 _ rfl rfl rfl, wk1_0 5 rfl rfl, wk3_5 2 rfl rfl⟩, ⟨nmh_6.1, nmh_6.2, pd_2⟩⟩
set_option maxRecDepth 100000 in
theorem kV_RX11_155 : CalV RX11 155 yX11_isText cX11_isText 2 (some .boolean) 1 := ⟨⟨wk3_4 3 rfl rfl, wk3_4 5 rfl rfl, wT_sel 5 _ rfl rfl rfl, wk1_0 1 rfl rfl, wk3_4 6 rfl rfl⟩, ⟨nmh_0.1, nmh_0.2, pd_15⟩⟩
set_option maxRecDepth 100000 in
theorem gf_RX11_28 {p : Program} {l : Launch} {e : Env} {R : Room} {s : State} {m : MethodId} {args : Array Value} {below : List Frame} {meth : Method} {c : Code} {H : Heap} {locs : List Loc} {cells slots : Nat} {Q : State → Prop} {cc : ByteArray} {nL pc : Nat} {D : va_G} {cI cB cZ : ClassId} {ws : va_W} {rest : List Value} {ls : Array Slot} {a : Nat} {fs : List Value} {v : Value} (S : SF p m c cc nL s args RX11) (hK : KK D cI cB cZ s) (hP : va_P D vwCl ws H) (q0 : Nat) (he : ws[q0]? = some (a, .inr (12, fs))) (hv : fs[6]? = some v) (hdg : decode cc pc = .ok (.getfield 28, 3)) (kk : W p l e R s m args below meth c H locs cells slots Q (F0 m (pc + 3) ls (v :: rest))) : W p l e R s m args below meth c H locs cells slots Q (F0 m pc ls (.ref a :: rest)) :=
  va_get (C := RX11) (T := TX11) (N := 16) S.1 S.2.1 S.2.2.2.2 hin_RX11 S.2.2.2.1 hK.1 hP q0 he rfl 6 (by decide) (S.2.2.2.2 _ (wk2_0 2 rfl rfl)) (fun _ h9 => h9) hv hdg kk
set_option maxRecDepth 100000 in
theorem kV_RX11_158 : CalV RX11 158 yX5_read cX5_read 4 (some (.object "OilHome$Text")) 3 := ⟨⟨wk3_4 7 rfl rfl, wk3_4 8 rfl rfl, wk3_4 9 rfl rfl, wk1_0 5 rfl rfl, wk3_4 10 rfl rfl⟩, ⟨nmh_6.1, nmh_6.2, pd_55⟩⟩
set_option maxRecDepth 100000 in
theorem gf_RX11_165 {p : Program} {l : Launch} {e : Env} {R : Room} {s : State} {m : MethodId} {args : Array Value} {below : List Frame} {meth : Method} {c : Code} {H : Heap} {locs : List Loc} {cells slots : Nat} {Q : State → Prop} {cc : ByteArray} {nL pc : Nat} {D : va_G} {cI cB cZ : ClassId} {ws : va_W} {rest : List Value} {ls : Array Slot} {a : Nat} {fs : List Value} {v : Value} (S : SF p m c cc nL s args RX11) (hK : KK D cI cB cZ s) (hP : va_P D vwCl ws H) (q0 : Nat) (he : ws[q0]? = some (a, .inr (6, fs))) (hv : fs[5]? = some v) (hdg : decode cc pc = .ok (.getfield 165, 3)) (kk : W p l e R s m args below meth c H locs cells slots Q (F0 m (pc + 3) ls (v :: rest))) : W p l e R s m args below meth c H locs cells slots Q (F0 m pc ls (.ref a :: rest)) :=
  va_get (C := RX5) (T := TX5) (N := 6) S.1 S.2.1 S.2.2.2.2 hin_RX5 S.2.2.2.1 hK.1 hP q0 he rfl 5 (by decide) (S.2.2.2.2 _ (wk1_8 7 rfl rfl)) (fun _ h9 => h9) hv hdg kk
set_option maxRecDepth 100000 in
theorem pf_RX11_168 {p : Program} {l : Launch} {e : Env} {R : Room} {s : State} {m : MethodId} {args : Array Value} {below : List Frame} {meth : Method} {c : Code} {H : Heap} {locs : List Loc} {cells slots : Nat} {Q : State → Prop} {cc : ByteArray} {nL pc : Nat} {D : va_G} {cI cB cZ : ClassId} {ws : va_W} {rest : List Value} {ls : Array Slot} {a : Nat} {fs : List Value} {v : Value} {A : Nat → Prop} {H0 : Heap} (S : SF p m c cc nL s args RX11) (hK : KK D cI cB cZ s) (hP : va_P D vwCl ws H) (hD : va_D A ws) (hS : va_S A H0 H locs) (q0 : Nat) (he : ws[q0]? = some (a, .inr (2, fs))) (hl : 10 < fs.length) (hn : narrow (tyX1 10) v = v) (hfit : fits (tyX1 10) v = true) (hdg : decode cc pc = .ok (.putfield 168, 3)) (kk : ∀ (H1 : Heap) (locs1 : List Loc), va_P D vwCl (ws.set q0 (a, .inr (2, fs.set 10 v))) H1 → va_D A (ws.set q0 (a, .inr (2, fs.set 10 v))) → va_S A H0 H1 locs1 → W p l e R s m args below meth c H1 locs1 cells slots Q (F0 m (pc + 3) ls rest)) : W p l e R s m args below meth c H locs cells slots Q (F0 m pc ls (v :: .ref a :: rest)) :=
  va_put (C := RX1) (T := TX1) (N := 11) S.1 S.2.1 S.2.2.2.2 hin_RX1 tyX1 tyX1_ok nmX1 S.2.2.2.1 hK.1 hP hD hS q0 he rfl 10 (by decide) (S.2.2.2.2 _ (wk2_7 6 rfl rfl)) (fun _ h9 => h9) rfl (tyX1_ok 10 (by decide)) hn hfit hl hdg kk
set_option maxRecDepth 100000 in
theorem pf_RX11_12 {p : Program} {l : Launch} {e : Env} {R : Room} {s : State} {m : MethodId} {args : Array Value} {below : List Frame} {meth : Method} {c : Code} {H : Heap} {locs : List Loc} {cells slots : Nat} {Q : State → Prop} {cc : ByteArray} {nL pc : Nat} {D : va_G} {cI cB cZ : ClassId} {ws : va_W} {rest : List Value} {ls : Array Slot} {a : Nat} {fs : List Value} {v : Value} {A : Nat → Prop} {H0 : Heap} (S : SF p m c cc nL s args RX11) (hK : KK D cI cB cZ s) (hP : va_P D vwCl ws H) (hD : va_D A ws) (hS : va_S A H0 H locs) (q0 : Nat) (he : ws[q0]? = some (a, .inr (12, fs))) (hl : 4 < fs.length) (hn : narrow (tyX11 4) v = v) (hfit : fits (tyX11 4) v = true) (hdg : decode cc pc = .ok (.putfield 12, 3)) (kk : ∀ (H1 : Heap) (locs1 : List Loc), va_P D vwCl (ws.set q0 (a, .inr (12, fs.set 4 v))) H1 → va_D A (ws.set q0 (a, .inr (12, fs.set 4 v))) → va_S A H0 H1 locs1 → W p l e R s m args below meth c H1 locs1 cells slots Q (F0 m (pc + 3) ls rest)) : W p l e R s m args below meth c H locs cells slots Q (F0 m pc ls (v :: .ref a :: rest)) :=
  va_put (C := RX11) (T := TX11) (N := 16) S.1 S.2.1 S.2.2.2.2 hin_RX11 tyX11 tyX11_ok nmX11 S.2.2.2.1 hK.1 hP hD hS q0 he rfl 4 (by decide) (S.2.2.2.2 _ (wk2_0 0 rfl rfl)) (fun _ h9 => h9) rfl (tyX11_ok 4 (by decide)) hn hfit hl hdg kk
noncomputable def sxX5_readClause_98 : List UInt8 := []
noncomputable def sxX5_readClause_97 : List UInt8 := 177 :: sxX5_readClause_98
noncomputable def sxX5_readClause_73 : List UInt8 := 42 :: 16 :: 40 :: 182 :: 0 :: 62 :: 42 :: 4 :: 182 :: 0 :: 66 :: 42 :: 16 :: 41 :: 182 :: 0 :: 62 :: 42 :: 180 :: 0 :: 20 :: 182 :: 0 :: 69 :: sxX5_readClause_97
noncomputable def sxX5_readClause_49 : List UInt8 := 182 :: 0 :: 53 :: 42 :: 180 :: 0 :: 27 :: 16 :: 112 :: 160 :: 0 :: 8 :: 42 :: 3 :: 182 :: 0 :: 56 :: 42 :: 180 :: 0 :: 20 :: 182 :: 0 :: 59 :: sxX5_readClause_73
noncomputable def sxX5_readClause_24 : List UInt8 := 16 :: 12 :: 161 :: 0 :: 9 :: 42 :: 7 :: 182 :: 0 :: 47 :: 177 :: 42 :: 89 :: 180 :: 0 :: 31 :: 4 :: 96 :: 181 :: 0 :: 31 :: 42 :: 180 :: 0 :: 20 :: sxX5_readClause_49
theorem shX5_readClause_0 : cX5_readClause.data.toList.drop 0 = 42 :: 182 :: 0 :: 43 :: 42 :: 180 :: 0 :: 27 :: 159 :: 0 :: 9 :: 42 :: 4 :: 182 :: 0 :: 47 :: 177 :: 42 :: 180 :: 0 :: 20 :: 180 :: 0 :: 50 :: sxX5_readClause_24 := rfl
theorem shX5_readClause_24 : cX5_readClause.data.toList.drop 24 = 16 :: 12 :: 161 :: 0 :: 9 :: 42 :: 7 :: 182 :: 0 :: 47 :: 177 :: 42 :: 89 :: 180 :: 0 :: 31 :: 4 :: 96 :: 181 :: 0 :: 31 :: 42 :: 180 :: 0 :: 20 :: sxX5_readClause_49 := aq_24 shX5_readClause_0
theorem shX5_readClause_49 : cX5_readClause.data.toList.drop 49 = 182 :: 0 :: 53 :: 42 :: 180 :: 0 :: 27 :: 16 :: 112 :: 160 :: 0 :: 8 :: 42 :: 3 :: 182 :: 0 :: 56 :: 42 :: 180 :: 0 :: 20 :: 182 :: 0 :: 59 :: sxX5_readClause_73 := aq_25 shX5_readClause_24
theorem shX5_readClause_73 : cX5_readClause.data.toList.drop 73 = 42 :: 16 :: 40 :: 182 :: 0 :: 62 :: 42 :: 4 :: 182 :: 0 :: 66 :: 42 :: 16 :: 41 :: 182 :: 0 :: 62 :: 42 :: 180 :: 0 :: 20 :: 182 :: 0 :: 69 :: sxX5_readClause_97 := aq_24 shX5_readClause_49
theorem shX5_readClause_97 : cX5_readClause.data.toList.drop 97 = 177 :: sxX5_readClause_98 := aq_24 shX5_readClause_73
noncomputable def sxX5_read_102 : List UInt8 := []
noncomputable def sxX5_read_98 : List UInt8 := 180 :: 0 :: 20 :: 176 :: sxX5_read_102
noncomputable def sxX5_read_74 : List UInt8 := 42 :: 182 :: 0 :: 40 :: 167 :: 255 :: 222 :: 42 :: 180 :: 0 :: 31 :: 42 :: 180 :: 0 :: 34 :: 162 :: 0 :: 8 :: 42 :: 4 :: 182 :: 0 :: 47 :: 42 :: sxX5_read_98
noncomputable def sxX5_read_49 : List UInt8 := 180 :: 0 :: 34 :: 162 :: 0 :: 29 :: 42 :: 182 :: 0 :: 43 :: 16 :: 59 :: 160 :: 0 :: 20 :: 42 :: 89 :: 180 :: 0 :: 31 :: 4 :: 96 :: 181 :: 0 :: 31 :: sxX5_read_74
noncomputable def sxX5_read_25 : List UInt8 := 42 :: 3 :: 181 :: 0 :: 31 :: 42 :: 28 :: 181 :: 0 :: 34 :: 42 :: 3 :: 181 :: 0 :: 37 :: 42 :: 182 :: 0 :: 40 :: 42 :: 180 :: 0 :: 31 :: 42 :: sxX5_read_49
theorem shX5_read_0 : cX5_read.data.toList.drop 0 = 42 :: 43 :: 180 :: 0 :: 24 :: 181 :: 0 :: 9 :: 42 :: 187 :: 0 :: 15 :: 89 :: 28 :: 183 :: 0 :: 17 :: 181 :: 0 :: 20 :: 42 :: 29 :: 181 :: 0 :: 27 :: sxX5_read_25 := rfl
theorem shX5_read_25 : cX5_read.data.toList.drop 25 = 42 :: 3 :: 181 :: 0 :: 31 :: 42 :: 28 :: 181 :: 0 :: 34 :: 42 :: 3 :: 181 :: 0 :: 37 :: 42 :: 182 :: 0 :: 40 :: 42 :: 180 :: 0 :: 31 :: 42 :: sxX5_read_49 := aq_25 shX5_read_0
theorem shX5_read_49 : cX5_read.data.toList.drop 49 = 180 :: 0 :: 34 :: 162 :: 0 :: 29 :: 42 :: 182 :: 0 :: 43 :: 16 :: 59 :: 160 :: 0 :: 20 :: 42 :: 89 :: 180 :: 0 :: 31 :: 4 :: 96 :: 181 :: 0 :: 31 :: sxX5_read_74 := aq_24 shX5_read_25
theorem shX5_read_74 : cX5_read.data.toList.drop 74 = 42 :: 182 :: 0 :: 40 :: 167 :: 255 :: 222 :: 42 :: 180 :: 0 :: 31 :: 42 :: 180 :: 0 :: 34 :: 162 :: 0 :: 8 :: 42 :: 4 :: 182 :: 0 :: 47 :: 42 :: sxX5_read_98 := aq_25 shX5_read_49
theorem shX5_read_98 : cX5_read.data.toList.drop 98 = 180 :: 0 :: 20 :: 176 :: sxX5_read_102 := aq_24 shX5_read_74
theorem dX5_read_97 : decode cX5_read 97 = .ok (.aload_n 0, 1) := oc_42 97 (aq_23 shX5_read_74)
theorem dX5_read_98 : decode cX5_read 98 = .ok (.getfield 20, 3) := oc_180 98 shX5_read_98 uw_0_20
theorem dX5_read_101 : decode cX5_read 101 = .ok (.areturn, 1) := oc_176 101 (aq_3 shX5_read_98)
noncomputable def sxX11_contract_74 : List UInt8 := []
noncomputable def sxX11_contract_50 : List UInt8 := 153 :: 0 :: 12 :: 42 :: 180 :: 0 :: 28 :: 180 :: 0 :: 165 :: 116 :: 172 :: 45 :: 25 :: 4 :: 181 :: 0 :: 168 :: 25 :: 4 :: 180 :: 0 :: 171 :: 172 :: sxX11_contract_74
noncomputable def sxX11_contract_24 : List UInt8 := 42 :: 180 :: 0 :: 21 :: 28 :: 16 :: 112 :: 182 :: 0 :: 158 :: 58 :: 4 :: 42 :: 180 :: 0 :: 21 :: 182 :: 0 :: 162 :: 42 :: 180 :: 0 :: 28 :: 180 :: 0 :: 165 :: sxX11_contract_50
theorem shX11_contract_0 : cX11_contract.data.toList.drop 0 = 42 :: 27 :: 182 :: 0 :: 114 :: 78 :: 45 :: 198 :: 0 :: 11 :: 42 :: 28 :: 182 :: 0 :: 155 :: 154 :: 0 :: 5 :: 2 :: 172 :: 42 :: 180 :: 0 :: 28 :: sxX11_contract_24 := rfl
theorem shX11_contract_24 : cX11_contract.data.toList.drop 24 = 42 :: 180 :: 0 :: 21 :: 28 :: 16 :: 112 :: 182 :: 0 :: 158 :: 58 :: 4 :: 42 :: 180 :: 0 :: 21 :: 182 :: 0 :: 162 :: 42 :: 180 :: 0 :: 28 :: 180 :: 0 :: 165 :: sxX11_contract_50 := aq_24 shX11_contract_0
theorem shX11_contract_50 : cX11_contract.data.toList.drop 50 = 153 :: 0 :: 12 :: 42 :: 180 :: 0 :: 28 :: 180 :: 0 :: 165 :: 116 :: 172 :: 45 :: 25 :: 4 :: 181 :: 0 :: 168 :: 25 :: 4 :: 180 :: 0 :: 171 :: 172 :: sxX11_contract_74 := aq_26 shX11_contract_24
noncomputable def sxX11_law_61 : List UInt8 := []
noncomputable def sxX11_law_49 : List UInt8 := 116 :: 172 :: 42 :: 44 :: 181 :: 0 :: 12 :: 44 :: 180 :: 0 :: 171 :: 172 :: sxX11_law_61
noncomputable def sxX11_law_24 : List UInt8 := 77 :: 42 :: 180 :: 0 :: 21 :: 182 :: 0 :: 162 :: 42 :: 180 :: 0 :: 28 :: 180 :: 0 :: 165 :: 153 :: 0 :: 12 :: 42 :: 180 :: 0 :: 28 :: 180 :: 0 :: 165 :: sxX11_law_49
theorem shX11_law_0 : cX11_law.data.toList.drop 0 = 42 :: 27 :: 182 :: 0 :: 155 :: 154 :: 0 :: 5 :: 2 :: 172 :: 42 :: 180 :: 0 :: 28 :: 42 :: 180 :: 0 :: 21 :: 27 :: 16 :: 108 :: 182 :: 0 :: 158 :: sxX11_law_24 := rfl
theorem shX11_law_24 : cX11_law.data.toList.drop 24 = 77 :: 42 :: 180 :: 0 :: 21 :: 182 :: 0 :: 162 :: 42 :: 180 :: 0 :: 28 :: 180 :: 0 :: 165 :: 153 :: 0 :: 12 :: 42 :: 180 :: 0 :: 28 :: 180 :: 0 :: 165 :: sxX11_law_49 := aq_24 shX11_law_0
theorem shX11_law_49 : cX11_law.data.toList.drop 49 = 116 :: 172 :: 42 :: 44 :: 181 :: 0 :: 12 :: 44 :: 180 :: 0 :: 171 :: 172 :: sxX11_law_61 := aq_25 shX11_law_24
set_option maxRecDepth 100000 in
set_option maxHeartbeats 4000000 in
theorem q_l_TextN (l : Launch) (D : va_G) (cI cB cZ : ClassId) (x : Nat) (n0 : Nat) (sz : Nat) (hn : n0 ≤ 160) : Met l yX9_init (CWS yX9_init cX9_init 2 none) (RM 1 5 228) (PBw [.ref x, .int (nI n0)] D cI cB cZ [(x, .inr (10, [.null, .null, .null, .null, .null, .int 0, .int 0, .int 0, .int 0]))] sz) (va_Qv (fun (_ : Nat → Nat) => True) (fun (u : Nat → Nat) (t : State) => va_P D vwCl [(x, .inr (10, [.ref (u 0), .ref (u 1), .ref (u 2), .ref (u 3), .ref (u 4), .int 0, .int 0, .int 0, .int 0])), ((u 0), .inl (cI, n0, .inl (fun _ => 0))), ((u 1), .inl (cI, 12, .inl (fun _ => 0))), ((u 2), .inl (cI, 12, .inl (fun _ => 0))), ((u 3), .inl (cI, 12, .inl (fun _ => 0))), ((u 4), .inl (cI, 32, .inl (fun _ => 0)))] t.heap ∧ va_D (va_A [(x, .inr (10, [.null, .null, .null, .null, .null, .int 0, .int 0, .int 0, .int 0]))] sz) [(x, .inr (10, [.ref (u 0), .ref (u 1), .ref (u 2), .ref (u 3), .ref (u 4), .int 0, .int 0, .int 0, .int 0])), ((u 0), .inl (cI, n0, .inl (fun _ => 0))), ((u 1), .inl (cI, 12, .inl (fun _ => 0))), ((u 2), .inl (cI, 12, .inl (fun _ => 0))), ((u 3), .inl (cI, 12, .inl (fun _ => 0))), ((u 4), .inl (cI, 32, .inl (fun _ => 0)))]) (va_A [(x, .inr (10, [.null, .null, .null, .null, .null, .int 0, .int 0, .int 0, .int 0]))] sz)) 5 228 (va_A [(x, .inr (10, [.null, .null, .null, .null, .null, .int 0, .int 0, .int 0, .int 0]))] sz) := by
  refine en_w (fun A => (va_Qv (fun (_ : Nat → Nat) => True) (fun (u : Nat → Nat) (t : State) => va_P D vwCl [(x, .inr (10, [.ref (u 0), .ref (u 1), .ref (u 2), .ref (u 3), .ref (u 4), .int 0, .int 0, .int 0, .int 0])), ((u 0), .inl (cI, n0, .inl (fun _ => 0))), ((u 1), .inl (cI, 12, .inl (fun _ => 0))), ((u 2), .inl (cI, 12, .inl (fun _ => 0))), ((u 3), .inl (cI, 12, .inl (fun _ => 0))), ((u 4), .inl (cI, 32, .inl (fun _ => 0)))] t.heap ∧ va_D A [(x, .inr (10, [.ref (u 0), .ref (u 1), .ref (u 2), .ref (u 3), .ref (u 4), .int 0, .int 0, .int 0, .int 0])), ((u 0), .inl (cI, n0, .inl (fun _ => 0))), ((u 1), .inl (cI, 12, .inl (fun _ => 0))), ((u 2), .inl (cI, 12, .inl (fun _ => 0))), ((u 3), .inl (cI, 12, .inl (fun _ => 0))), ((u 4), .inl (cI, 32, .inl (fun _ => 0)))]) A)) rfl rfl pn_RX9 (Nat.le_of_ble_eq_true rfl) (fun p e s m below meth c A hx hb hml hown S hr hlocks hnm hA hP hK hD hS ls hl => ?_)
  have hin : meth.name = "<init>" := hnm
  have hP : va_P D vwCl [(x, .inr (10, [.null, .null, .null, .null, .null, .int 0, .int 0, .int 0, .int 0]))] s.heap := hP
  have hD : va_D A [(x, .inr (10, [.null, .null, .null, .null, .null, .int 0, .int 0, .int 0, .int 0]))] := hD
  have hl : lv_has ls 2 [(0, .ref x), (1, .int (nI n0))] := hl
  refine lv_aload_n hx hb (oc_42 0 shX9_init_0) rfl (lvA0 hl) ?_
  refine W.objInit hx hb hown (S.2.2.2.2 _ (wk1_3 4 rfl rfl)) (S.2.2.2.2 _ (wk1_2 9 rfl rfl)) (S.2.2.2.2 _ (wk1_2 10 rfl rfl)) rfl (by rw [hml]; exact hl.1) rfl (oc_183 1 (aq_1 shX9_init_0) uw_0_5) (Nat.le_of_ble_eq_true rfl) (Nat.le_of_ble_eq_true rfl) ?_
  refine W.eq (g2 := F0 m 4 ls []) rfl ?_
  refine lv_aload_n hx hb (oc_42 4 (aq_4 shX9_init_0)) rfl (lvA0 hl) ?_
  refine lv_iload_n hx hb (oc_27 5 (aq_5 shX9_init_0)) rfl (lvA1 hl) ?_
  refine lv_iconst (v := 0) hx hb (oc_3 6 (aq_6 shX9_init_0)) kic_0 ?_
  refine va_mmax hx hb (by rw [hml]; exact hl.1.symm) hown (S.2.2.2.2 _ (wk1_3 5 rfl rfl)) (S.2.2.2.2 _ (wk1_3 6 rfl rfl)) (S.2.2.2.2 _ (wk1_0 3 rfl rfl)) (S.2.2.2.2 _ (wk1_3 7 rfl rfl)) (Nat.le_of_ble_eq_true rfl) (Nat.le_of_ble_eq_true rfl) (Nat.le_of_ble_eq_true rfl) (Nat.le_of_ble_eq_true rfl) (oc_184 7 (aq_7 shX9_init_0) uw_0_11) ?_
  refine lv_topi (fun y_1 ey_1 => ?_)
  obtain rfl : y_1 = (nI n0) := ey_1.trans (if_neg (nI_nn (by omega)))
  refine newa_int S hK hP hD hS hA (N' := n0) (nI_nn (by omega)) (nI_clamp (by omega)) (by omega) (Nat.le_of_ble_eq_true rfl) (by show 0 + n0 ≤ 228; omega) (oc_188_10 10 (aq_10 shX9_init_0)) (fun q10 H hP hD hS => ?_)
  refine W.widen (k := 1) (n := 160) (Nat.le_of_ble_eq_true rfl) (by omega) ?_
  have hP : va_P D vwCl [(x, .inr (10, [.null, .null, .null, .null, .null, .int 0, .int 0, .int 0, .int 0])), (q10, .inl (cI, n0, .inl (fun _ => 0)))] H := hP
  have hD : va_D A [(x, .inr (10, [.null, .null, .null, .null, .null, .int 0, .int 0, .int 0, .int 0])), (q10, .inl (cI, n0, .inl (fun _ => 0)))] := hD
  refine pf_RX9_17 S hin hK hP hD hS 0 rfl (v := .ref q10) (Nat.le_of_ble_eq_true rfl) rfl rfl (oc_181 12 (aq_12 shX9_init_0) uw_0_17) (fun H locs hP hD hS => ?_)
  have hP : va_P D vwCl [(x, .inr (10, [.ref q10, .null, .null, .null, .null, .int 0, .int 0, .int 0, .int 0])), (q10, .inl (cI, n0, .inl (fun _ => 0)))] H := hP
  have hD : va_D A [(x, .inr (10, [.ref q10, .null, .null, .null, .null, .int 0, .int 0, .int 0, .int 0])), (q10, .inl (cI, n0, .inl (fun _ => 0)))] := hD
  refine lv_aload_n hx hb (oc_42 15 (aq_15 shX9_init_0)) rfl (lvA0 hl) ?_
  refine lv_bipush (v := 12) hx hb (oc_16 16 (aq_16 shX9_init_0) sgb_12) kbc_12 ?_
  refine newa_int S hK hP hD hS hA (N' := 12) (by decide) (by decide) (Nat.le_of_ble_eq_true rfl) (Nat.le_of_ble_eq_true rfl) (Nat.le_of_ble_eq_true rfl) (oc_188_10 18 (aq_18 shX9_init_0)) (fun q18 H hP hD hS => ?_)
  have hP : va_P D vwCl [(x, .inr (10, [.ref q10, .null, .null, .null, .null, .int 0, .int 0, .int 0, .int 0])), (q10, .inl (cI, n0, .inl (fun _ => 0))), (q18, .inl (cI, 12, .inl (fun _ => 0)))] H := hP
  have hD : va_D A [(x, .inr (10, [.ref q10, .null, .null, .null, .null, .int 0, .int 0, .int 0, .int 0])), (q10, .inl (cI, n0, .inl (fun _ => 0))), (q18, .inl (cI, 12, .inl (fun _ => 0)))] := hD
  refine pf_RX9_21 S hin hK hP hD hS 0 rfl (v := .ref q18) (Nat.le_of_ble_eq_true rfl) rfl rfl (oc_181 20 (aq_20 shX9_init_0) uw_0_21) (fun H locs hP hD hS => ?_)
  have hP : va_P D vwCl [(x, .inr (10, [.ref q10, .ref q18, .null, .null, .null, .int 0, .int 0, .int 0, .int 0])), (q10, .inl (cI, n0, .inl (fun _ => 0))), (q18, .inl (cI, 12, .inl (fun _ => 0)))] H := hP
  have hD : va_D A [(x, .inr (10, [.ref q10, .ref q18, .null, .null, .null, .int 0, .int 0, .int 0, .int 0])), (q10, .inl (cI, n0, .inl (fun _ => 0))), (q18, .inl (cI, 12, .inl (fun _ => 0)))] := hD
  refine lv_aload_n hx hb (oc_42 23 (aq_23 shX9_init_0)) rfl (lvA0 hl) ?_
  refine lv_bipush (v := 12) hx hb (oc_16 24 shX9_init_24 sgb_12) kbc_12 ?_
  refine newa_int S hK hP hD hS hA (N' := 12) (by decide) (by decide) (Nat.le_of_ble_eq_true rfl) (Nat.le_of_ble_eq_true rfl) (Nat.le_of_ble_eq_true rfl) (oc_188_10 26 (aq_2 shX9_init_24)) (fun q26 H hP hD hS => ?_)
  have hP : va_P D vwCl [(x, .inr (10, [.ref q10, .ref q18, .null, .null, .null, .int 0, .int 0, .int 0, .int 0])), (q10, .inl (cI, n0, .inl (fun _ => 0))), (q18, .inl (cI, 12, .inl (fun _ => 0))), (q26, .inl (cI, 12, .inl (fun _ => 0)))] H := hP
  have hD : va_D A [(x, .inr (10, [.ref q10, .ref q18, .null, .null, .null, .int 0, .int 0, .int 0, .int 0])), (q10, .inl (cI, n0, .inl (fun _ => 0))), (q18, .inl (cI, 12, .inl (fun _ => 0))), (q26, .inl (cI, 12, .inl (fun _ => 0)))] := hD
  refine pf_RX9_24 S hin hK hP hD hS 0 rfl (v := .ref q26) (Nat.le_of_ble_eq_true rfl) rfl rfl (oc_181 28 (aq_4 shX9_init_24) uw_0_24) (fun H locs hP hD hS => ?_)
  have hP : va_P D vwCl [(x, .inr (10, [.ref q10, .ref q18, .ref q26, .null, .null, .int 0, .int 0, .int 0, .int 0])), (q10, .inl (cI, n0, .inl (fun _ => 0))), (q18, .inl (cI, 12, .inl (fun _ => 0))), (q26, .inl (cI, 12, .inl (fun _ => 0)))] H := hP
  have hD : va_D A [(x, .inr (10, [.ref q10, .ref q18, .ref q26, .null, .null, .int 0, .int 0, .int 0, .int 0])), (q10, .inl (cI, n0, .inl (fun _ => 0))), (q18, .inl (cI, 12, .inl (fun _ => 0))), (q26, .inl (cI, 12, .inl (fun _ => 0)))] := hD
  refine lv_aload_n hx hb (oc_42 31 (aq_7 shX9_init_24)) rfl (lvA0 hl) ?_
  refine lv_bipush (v := 12) hx hb (oc_16 32 (aq_8 shX9_init_24) sgb_12) kbc_12 ?_
  refine newa_int S hK hP hD hS hA (N' := 12) (by decide) (by decide) (Nat.le_of_ble_eq_true rfl) (Nat.le_of_ble_eq_true rfl) (Nat.le_of_ble_eq_true rfl) (oc_188_10 34 (aq_10 shX9_init_24)) (fun q34 H hP hD hS => ?_)
  have hP : va_P D vwCl [(x, .inr (10, [.ref q10, .ref q18, .ref q26, .null, .null, .int 0, .int 0, .int 0, .int 0])), (q10, .inl (cI, n0, .inl (fun _ => 0))), (q18, .inl (cI, 12, .inl (fun _ => 0))), (q26, .inl (cI, 12, .inl (fun _ => 0))), (q34, .inl (cI, 12, .inl (fun _ => 0)))] H := hP
  have hD : va_D A [(x, .inr (10, [.ref q10, .ref q18, .ref q26, .null, .null, .int 0, .int 0, .int 0, .int 0])), (q10, .inl (cI, n0, .inl (fun _ => 0))), (q18, .inl (cI, 12, .inl (fun _ => 0))), (q26, .inl (cI, 12, .inl (fun _ => 0))), (q34, .inl (cI, 12, .inl (fun _ => 0)))] := hD
  refine pf_RX9_27 S hin hK hP hD hS 0 rfl (v := .ref q34) (Nat.le_of_ble_eq_true rfl) rfl rfl (oc_181 36 (aq_12 shX9_init_24) uw_0_27) (fun H locs hP hD hS => ?_)
  have hP : va_P D vwCl [(x, .inr (10, [.ref q10, .ref q18, .ref q26, .ref q34, .null, .int 0, .int 0, .int 0, .int 0])), (q10, .inl (cI, n0, .inl (fun _ => 0))), (q18, .inl (cI, 12, .inl (fun _ => 0))), (q26, .inl (cI, 12, .inl (fun _ => 0))), (q34, .inl (cI, 12, .inl (fun _ => 0)))] H := hP
  have hD : va_D A [(x, .inr (10, [.ref q10, .ref q18, .ref q26, .ref q34, .null, .int 0, .int 0, .int 0, .int 0])), (q10, .inl (cI, n0, .inl (fun _ => 0))), (q18, .inl (cI, 12, .inl (fun _ => 0))), (q26, .inl (cI, 12, .inl (fun _ => 0))), (q34, .inl (cI, 12, .inl (fun _ => 0)))] := hD
  refine lv_aload_n hx hb (oc_42 39 (aq_15 shX9_init_24)) rfl (lvA0 hl) ?_
  refine lv_bipush (v := 32) hx hb (oc_16 40 (aq_16 shX9_init_24) sgb_32) kbc_32 ?_
  refine newa_int S hK hP hD hS hA (N' := 32) (by decide) (by decide) (Nat.le_of_ble_eq_true rfl) (Nat.le_of_ble_eq_true rfl) (Nat.le_of_ble_eq_true rfl) (oc_188_10 42 (aq_18 shX9_init_24)) (fun q42 H hP hD hS => ?_)
  have hP : va_P D vwCl [(x, .inr (10, [.ref q10, .ref q18, .ref q26, .ref q34, .null, .int 0, .int 0, .int 0, .int 0])), (q10, .inl (cI, n0, .inl (fun _ => 0))), (q18, .inl (cI, 12, .inl (fun _ => 0))), (q26, .inl (cI, 12, .inl (fun _ => 0))), (q34, .inl (cI, 12, .inl (fun _ => 0))), (q42, .inl (cI, 32, .inl (fun _ => 0)))] H := hP
  have hD : va_D A [(x, .inr (10, [.ref q10, .ref q18, .ref q26, .ref q34, .null, .int 0, .int 0, .int 0, .int 0])), (q10, .inl (cI, n0, .inl (fun _ => 0))), (q18, .inl (cI, 12, .inl (fun _ => 0))), (q26, .inl (cI, 12, .inl (fun _ => 0))), (q34, .inl (cI, 12, .inl (fun _ => 0))), (q42, .inl (cI, 32, .inl (fun _ => 0)))] := hD
  refine pf_RX9_30 S hin hK hP hD hS 0 rfl (v := .ref q42) (Nat.le_of_ble_eq_true rfl) rfl rfl (oc_181 44 (aq_20 shX9_init_24) uw_0_30) (fun H locs hP hD hS => ?_)
  have hP : va_P D vwCl [(x, .inr (10, [.ref q10, .ref q18, .ref q26, .ref q34, .ref q42, .int 0, .int 0, .int 0, .int 0])), (q10, .inl (cI, n0, .inl (fun _ => 0))), (q18, .inl (cI, 12, .inl (fun _ => 0))), (q26, .inl (cI, 12, .inl (fun _ => 0))), (q34, .inl (cI, 12, .inl (fun _ => 0))), (q42, .inl (cI, 32, .inl (fun _ => 0)))] H := hP
  have hD : va_D A [(x, .inr (10, [.ref q10, .ref q18, .ref q26, .ref q34, .ref q42, .int 0, .int 0, .int 0, .int 0])), (q10, .inl (cI, n0, .inl (fun _ => 0))), (q18, .inl (cI, 12, .inl (fun _ => 0))), (q26, .inl (cI, 12, .inl (fun _ => 0))), (q34, .inl (cI, 12, .inl (fun _ => 0))), (q42, .inl (cI, 32, .inl (fun _ => 0)))] := hD
  have hP9 := hP.sub (ws' := [(x, .inr (10, [.ref q10, .ref q18, .ref q26, .ref q34, .ref q42, .int 0, .int 0, .int 0, .int 0])), (q10, .inl (cI, n0, .inl (fun _ => 0))), (q18, .inl (cI, 12, .inl (fun _ => 0))), (q26, .inl (cI, 12, .inl (fun _ => 0))), (q34, .inl (cI, 12, .inl (fun _ => 0))), (q42, .inl (cI, 32, .inl (fun _ => 0)))]) [0, 1, 2, 3, 4, 5] rfl
  have hD9 := hD.sub (ws' := [(x, .inr (10, [.ref q10, .ref q18, .ref q26, .ref q34, .ref q42, .int 0, .int 0, .int 0, .int 0])), (q10, .inl (cI, n0, .inl (fun _ => 0))), (q18, .inl (cI, 12, .inl (fun _ => 0))), (q26, .inl (cI, 12, .inl (fun _ => 0))), (q34, .inl (cI, 12, .inl (fun _ => 0))), (q42, .inl (cI, 32, .inl (fun _ => 0)))]) [0, 1, 2, 3, 4, 5] (by decide) rfl
  exact W.vret hx hb hr (fun t ht hW => ⟨⟨(fun k => ([q10, q18, q26, q34, q42] : List Nat).getD k 0), rfl, trivial, by rw [ht]; exact hP9, hD9⟩, hS.F ht⟩) hS.2.2 (oc_177 47 (aq_23 shX9_init_24))
set_option maxRecDepth 100000 in
set_option maxHeartbeats 4000000 in
theorem q_RreadClause (l : Launch) (D : va_G) (cI cB cZ : ClassId) (zz qq vv : Nat) (bt : Nat → Int32) (g : Nat → Nat) (ad : Nat → Nat → Nat) (cn : Nat → Nat) (In : Nat → Int32) (Fn : Nat → Nat → Int32) (n0 : Nat) (sz : Nat) (hB : CBX cn) (hR : ad 4 2 = g 40) (h1 : ad 4 1 < cn 6) (h3 : cn 31 ≤ cn 32) (h4 : cn 32 ≤ 160) (h9 : (Fn 199 (ad 4 1)).toInt ≤ 160) (es : Fn 198 (ad 4 1) = nI n0) (hn : n0 ≤ 12) (h8 : 0 ≤ (In 30).toInt) : Met l yX5_readClause (CWS yX5_readClause cX5_readClause 1 none) (RM 25 0 0) (PBx [.ref (g 6)] D cI cB cZ zz qq vv bt (wX cI (D.1 99) zz g ad cn In Fn) sz) (va_Qv (fun (u : (Nat → Nat) × (Nat → Int32) × (Nat → Nat → Int32)) => (fun c2 I2 F2 => Fr [31, 32] [33] [195, 198, 301, 302, 303, 304] cn In Fn c2 I2 F2 ∧ CBX c2 ∧ ((cn 31 ≤ c2 31 ∧ c2 31 ≤ c2 32 ∧ c2 32 ≤ cn 32) ∧ ∃ n : Nat, n ≤ 12 ∧ F2 198 = upd (Fn 198) (ad 4 1) (nI n))) u.1 u.2.1 u.2.2) (fun (u : (Nat → Nat) × (Nat → Int32) × (Nat → Nat → Int32)) (t : State) => va_P D vwCl (wX cI (D.1 99) zz g ad u.1 u.2.1 u.2.2) t.heap ∧ va_D (va_A (wX cI (D.1 99) zz g ad cn In Fn) sz) (wX cI (D.1 99) zz g ad u.1 u.2.1 u.2.2)) (va_A (wX cI (D.1 99) zz g ad cn In Fn) sz)) 0 0 (va_A (wX cI (D.1 99) zz g ad cn In Fn) sz) := by
  refine en_x (fun A => (va_Qv (fun (u : (Nat → Nat) × (Nat → Int32) × (Nat → Nat → Int32)) => (fun (c2 : Nat → Nat) (I2 : Nat → Int32) (F2 : Nat → Nat → Int32) => Fr [31, 32] [33] [195, 198, 301, 302, 303, 304] cn In Fn c2 I2 F2 ∧ CBX c2 ∧ ((cn 31 ≤ c2 31 ∧ c2 31 ≤ c2 32 ∧ c2 32 ≤ cn 32) ∧ ∃ n : Nat, n ≤ 12 ∧ F2 198 = upd (Fn 198) (ad 4 1) (nI n))) u.1 u.2.1 u.2.2) (fun (u : (Nat → Nat) × (Nat → Int32) × (Nat → Nat → Int32)) (t : State) => va_P D vwCl (wX cI (D.1 99) zz g ad u.1 u.2.1 u.2.2) t.heap ∧ va_D A (wX cI (D.1 99) zz g ad u.1 u.2.1 u.2.2)) A)) rfl rfl pn_RX5 (Nat.le_of_ble_eq_true rfl) (fun p e s m below meth c A hx hb hml hown S hr hlocks hnm hA hP hK hD hXS hS ls hl => ?_)
  have hl : lv_has ls 1 [(0, .ref (g 6))] := hl
  replace hB : CBXh cn := hB
  refine lv_aload_n hx hb (oc_42 0 shX5_readClause_0) rfl (lvA0 hl) ?_
  refine vp_callSi (runV_rxa (As := []) (rest := []) S (q_Rpeek l D cI cB cZ zz qq vv bt g ad cn In Fn  hB (by omega) (by omega) (by omega) (by omega)) kV_RX5_43 hK hXS hS hP 3 xo_3 rfl rfl ⟨Nat.le_of_ble_eq_true rfl, Nat.le_of_ble_eq_true rfl⟩ ⟨Nat.le_of_ble_eq_true rfl, Nat.le_of_ble_eq_true rfl⟩ rfl hl.1 rfl (Nat.le_of_ble_eq_true rfl) (oc_182 1 (aq_1 shX5_readClause_0) uw_0_43)) (fun r_1 h_2 => ?_)
  refine lv_aload_n hx hb (oc_42 4 (aq_4 shX5_readClause_0)) rfl (lvA0 hl) ?_
  refine gf_RX5_27 S hK hP 3 xo_3 (v := .int (In 30)) rfl (oc_180 5 (aq_5 shX5_readClause_0) uw_0_27) ?_
  refine lv_icmp_eq (tgt := 17) hx hb (oc_159 8 (aq_8 shX5_readClause_0) sgw_0_9) rfl (fun c_3 => ?_) (fun c_3 => ?_)
  ·
    have tc_3 : (r_1.toInt : Int) = (In 30).toInt := congrArg Int32.toInt c_3
    refine lv_aload_n hx hb (oc_42 17 (aq_17 shX5_readClause_0)) rfl (lvA0 hl) ?_
    refine gf_RX5_20 S hK hP 3 xo_3 (v := .ref (ad 5 (ad 4 1))) rfl (oc_180 18 (aq_18 shX5_readClause_0) uw_0_20) ?_
    refine gf_RX5_50 S hK hP _ (xf_7 (show (ad 4 1) < (cn 6) by omega)) (v := .int ((Fn 198) (ad 4 1))) rfl (oc_180 21 (aq_21 shX5_readClause_0) uw_0_50) ?_
    refine lv_topi (fun y_4 ey_4 => ?_)
    obtain rfl : y_4 = (nI n0) := ey_4.trans es
    refine lv_bipush (v := 12) hx hb (oc_16 24 shX5_readClause_24 sgb_12) kbc_12 ?_
    have : (nI n0).toInt = ((n0 : Nat) : Int) := nI_toInt (by omega)
    refine lv_icmp_lt (tgt := 35) hx hb (oc_161 26 (aq_2 shX5_readClause_24) sgw_0_9) rfl (fun c_5 => ?_) (fun c_5 => ?_)
    ·
      have tc_5 : ((nI n0).toInt : Int) < 12 := Int32.lt_iff_toInt_lt.mp c_5
      refine lv_aload_n hx hb (oc_42 35 (aq_11 shX5_readClause_24)) rfl (lvA0 hl) ?_
      refine lv_dup hx hb (oc_89 36 (aq_12 shX5_readClause_24)) rfl ?_
      refine gf_RX5_31 S hK hP 3 xo_3 (v := .int (nI (cn 31))) rfl (oc_180 37 (aq_13 shX5_readClause_24) uw_0_31) ?_
      refine lv_iconst (v := 1) hx hb (oc_4 40 (aq_16 shX5_readClause_24)) kic_1 ?_
      refine lv_iadd hx hb (oc_96 41 (aq_17 shX5_readClause_24)) ?_
      refine lv_topi (fun y_6 ey_6 => ?_)
      obtain rfl : y_6 = (nI ((cn 31) + 1)) := ey_6.trans (nI_add (cn 31) 1)
      refine pf_RX5_31 S hK hP hD hS 3 xo_3 (v := .int (nI ((cn 31) + 1))) (Nat.le_of_ble_eq_true rfl) rfl rfl (oc_181 42 (aq_18 shX5_readClause_24) uw_0_31) (fun H locs hP hD hS => ?_)
      have hP : va_P D vwCl (wX cI (D.1 99) zz g ad (va_up cn 31 ((cn 31) + 1)) In Fn) H := va_P_eq (xsf_3_3) hP
      have hD : va_D A (wX cI (D.1 99) zz g ad (va_up cn 31 ((cn 31) + 1)) In Fn) := va_D_eq (xsf_3_3) hD
      refine lv_aload_n hx hb (oc_42 45 (aq_21 shX5_readClause_24)) rfl (lvA0 hl) ?_
      refine gf_RX5_20 S hK hP 3 xo_3 (v := .ref (ad 5 (ad 4 1))) rfl (oc_180 46 (aq_22 shX5_readClause_24) uw_0_20) ?_
      have hFc := free_all hD hS hA
      refine va_callv (runV_xa (As := []) (rest := []) S (q_TstartSum l D cI cB cZ zz qq vv bt g ad (va_up cn 31 ((cn 31) + 1)) In Fn (ad 4 1) H.size (CBX.n (k := 31) (v := ((cn 31) + 1)) hB (by decide)) (show (ad 4 1) < (cn 6) by omega)) kV_RX5_53 hK hXS hS hFc hP hD _ (xf_7 (show (ad 4 1) < (cn 6) by omega)) rfl rfl ⟨Nat.le_of_ble_eq_true rfl, Nat.le_of_ble_eq_true rfl⟩ ⟨Nat.le_of_ble_eq_true rfl, Nat.le_of_ble_eq_true rfl⟩ rfl hl.1 rfl (Nat.le_of_ble_eq_true rfl) (oc_182 49 shX5_readClause_49 uw_0_53)) hS (fun q _ h => hFc q h) hFc (fun u t H1 locs ht hvm wh_8 hB1 hz1 hk1 hS => ?_)
      obtain ⟨cn8, In8, Fn8⟩ := u
      obtain ⟨hP1, hD1⟩ := hB1
      rw [ht] at hP1
      have hP : va_P D vwCl (wX cI (D.1 99) zz g ad cn8 In8 Fn8) H1 := hP1
      have hD : va_D A (wX cI (D.1 99) zz g ad cn8 In8 Fn8) := hD1.weaken (fun _ _ _ h => hFc _ h)
      generalize H1 = H at hP hS ⊢
      have vh_8 : (fun c2 I2 F2 => Fr [] [] [302] (va_up cn 31 ((cn 31) + 1)) In Fn c2 I2 F2 ∧ CBX c2 ∧ (True)) cn8 In8 Fn8 := wh_8
      obtain ⟨hfc8, hIn8, h_8⟩ := vh_8
      obtain rfl : In = In8 := (funext (fun k => hfc8.2.1 k List.not_mem_nil)).symm
      have hf8 : Fr [31, 32] [33] [195, 198, 301, 302, 303, 304] cn In Fn cn8 In Fn8 := Fr.mo (Fr.tr (Fr.c 31 (Fr.rf (cn := cn) (In := In) (Fn := Fn))) hfc8) (sbl rfl) (sbl rfl) (sbl rfl)
      replace hIn8 : CBXh cn8 := hIn8
      have hT198_8 : Fn8 198 = (Fn 198) := hfc8.2.2 198 (nml rfl)
      have : cn8 6 = (cn 6) := hfc8.1 6 (nml rfl)
      have : cn8 31 = ((cn 31) + 1) := hfc8.1 31 (nml rfl)
      have : cn8 32 = (cn 32) := hfc8.1 32 (nml rfl)
      refine lv_aload_n hx hb (oc_42 52 (aq_3 shX5_readClause_49)) rfl (lvA0 hl) ?_
      refine gf_RX5_27 S hK hP 3 xo_3 (v := .int (In 30)) rfl (oc_180 53 (aq_4 shX5_readClause_49) uw_0_27) ?_
      refine lv_bipush (v := 112) hx hb (oc_16 56 (aq_7 shX5_readClause_49) sgb_112) kbc_112 ?_
      refine lv_icmp_ne (tgt := 66) hx hb (oc_160 58 (aq_9 shX5_readClause_49) sgw_0_8) rfl (fun c_9 => ?_) (fun c_9 => ?_)
      ·
        have tc_9 : ((In 30).toInt : Int) ≠ 112 := fun q => c_9 (Int32.toInt_inj.mp q)
        refine lv_aload_n hx hb (oc_42 66 (aq_17 shX5_readClause_49)) rfl (lvA0 hl) ?_
        refine gf_RX5_20 S hK hP 3 xo_3 (v := .ref (ad 5 (ad 4 1))) rfl (oc_180 67 (aq_18 shX5_readClause_49) uw_0_20) ?_
        have hFc := free_all hD hS hA
        refine va_callv (runV_xa (As := []) (rest := []) S (q_TstartCondition l D cI cB cZ zz qq vv bt g ad cn8 In Fn8 (ad 4 1) H.size hIn8 (by omega)) kV_RX5_59 hK hXS hS hFc hP hD _ (xf_7 (show (ad 4 1) < (cn8 6) by omega)) rfl rfl ⟨Nat.le_of_ble_eq_true rfl, Nat.le_of_ble_eq_true rfl⟩ ⟨Nat.le_of_ble_eq_true rfl, Nat.le_of_ble_eq_true rfl⟩ rfl hl.1 rfl (Nat.le_of_ble_eq_true rfl) (oc_182 70 (aq_21 shX5_readClause_49) uw_0_59)) hS (fun q _ h => hFc q h) hFc (fun u t H1 locs ht hvm wh_11 hB1 hz1 hk1 hS => ?_)
        obtain ⟨cn11, In11, Fn11⟩ := u
        obtain ⟨hP1, hD1⟩ := hB1
        rw [ht] at hP1
        have hP : va_P D vwCl (wX cI (D.1 99) zz g ad cn11 In11 Fn11) H1 := hP1
        have hD : va_D A (wX cI (D.1 99) zz g ad cn11 In11 Fn11) := hD1.weaken (fun _ _ _ h => hFc _ h)
        generalize H1 = H at hP hS ⊢
        have vh_11 : (fun c2 I2 F2 => Fr [] [] [303] cn8 In Fn8 c2 I2 F2 ∧ CBX c2 ∧ (True)) cn11 In11 Fn11 := wh_11
        obtain ⟨hfc11, hIn11, h_11⟩ := vh_11
        obtain rfl : cn8 = cn11 := (funext (fun k => hfc11.1 k List.not_mem_nil)).symm
        obtain rfl : In = In11 := (funext (fun k => hfc11.2.1 k List.not_mem_nil)).symm
        have hf11 : Fr [31, 32] [33] [195, 198, 301, 302, 303, 304] cn In Fn cn8 In Fn11 := Fr.mo (Fr.tr hf8 hfc11) (sbl rfl) (sbl rfl) (sbl rfl)
        replace hIn11 : CBXh cn8 := hIn11
        have hT198_11 : Fn11 198 = (Fn8 198) := hfc11.2.2 198 (nml rfl)
        refine lv_aload_n hx hb (oc_42 73 shX5_readClause_73) rfl (lvA0 hl) ?_
        refine lv_bipush (v := 40) hx hb (oc_16 74 (aq_1 shX5_readClause_73) sgb_40) kbc_40 ?_
        have hFc := free_all hD hS hA
        refine va_callv (runV_xa (As := [.int 40]) (rest := []) S (q_Rtake l D cI cB cZ zz qq vv bt g ad cn8 In Fn11 40 H.size hIn11 (by omega) (by omega) (by omega) (by omega) (by decide)) kV_RX5_62 hK hXS hS hFc hP hD 3 xo_3 rfl rfl ⟨Nat.le_of_ble_eq_true rfl, Nat.le_of_ble_eq_true rfl⟩ ⟨Nat.le_of_ble_eq_true rfl, Nat.le_of_ble_eq_true rfl⟩ rfl hl.1 rfl (Nat.le_of_ble_eq_true rfl) (oc_182 76 (aq_3 shX5_readClause_73) uw_0_62)) hS (fun q _ h => hFc q h) hFc (fun u t H1 locs ht hvm wh_13 hB1 hz1 hk1 hS => ?_)
        obtain ⟨cn13, In13, Fn13⟩ := u
        obtain ⟨hP1, hD1⟩ := hB1
        rw [ht] at hP1
        have hP : va_P D vwCl (wX cI (D.1 99) zz g ad cn13 In13 Fn13) H1 := hP1
        have hD : va_D A (wX cI (D.1 99) zz g ad cn13 In13 Fn13) := hD1.weaken (fun _ _ _ h => hFc _ h)
        generalize H1 = H at hP hS ⊢
        have vh_13 : (fun c2 I2 F2 => Fr [31, 32] [33] [] cn8 In Fn11 c2 I2 F2 ∧ CBX c2 ∧ ((cn8 31) ≤ c2 31 ∧ c2 31 ≤ c2 32 ∧ c2 32 ≤ (cn8 32))) cn13 In13 Fn13 := wh_13
        obtain ⟨hfc13, hIn13, h_13⟩ := vh_13
        obtain rfl : Fn11 = Fn13 := (funext (fun k => hfc13.2.2 k List.not_mem_nil)).symm
        have hf13 : Fr [31, 32] [33] [195, 198, 301, 302, 303, 304] cn In Fn cn13 In13 Fn11 := Fr.mo (Fr.tr hf11 hfc13) (sbl rfl) (sbl rfl) (sbl rfl)
        replace hIn13 : CBXh cn13 := hIn13
        have : cn13 6 = (cn8 6) := hfc13.1 6 (nml rfl)
        refine lv_aload_n hx hb (oc_42 79 (aq_6 shX5_readClause_73)) rfl (lvA0 hl) ?_
        refine lv_iconst (v := 1) hx hb (oc_4 80 (aq_7 shX5_readClause_73)) kic_1 ?_
        have hFc := free_all hD hS hA
        refine va_callv (runV_xa (As := [.int 1]) (rest := []) S (q_RreadCondition_1 l D cI cB cZ zz qq vv bt g ad cn13 In13 Fn11  H.size hIn13 (by omega) (by omega) (by omega) (by omega) (by rw [hf13.2.2 199 (nml rfl)]; exact h9)) kV_RX5_66 hK hXS hS hFc hP hD 3 xo_3 rfl rfl ⟨Nat.le_of_ble_eq_true rfl, Nat.le_of_ble_eq_true rfl⟩ ⟨Nat.le_of_ble_eq_true rfl, Nat.le_of_ble_eq_true rfl⟩ rfl hl.1 rfl (Nat.le_of_ble_eq_true rfl) (oc_182 81 (aq_8 shX5_readClause_73) uw_0_66)) hS (fun q _ h => hFc q h) hFc (fun u t H1 locs ht hvm wh_15 hB1 hz1 hk1 hS => ?_)
        obtain ⟨cn15, In15, Fn15⟩ := u
        obtain ⟨hP1, hD1⟩ := hB1
        rw [ht] at hP1
        have hP : va_P D vwCl (wX cI (D.1 99) zz g ad cn15 In15 Fn15) H1 := hP1
        have hD : va_D A (wX cI (D.1 99) zz g ad cn15 In15 Fn15) := hD1.weaken (fun _ _ _ h => hFc _ h)
        generalize H1 = H at hP hS ⊢
        have vh_15 : (fun c2 I2 F2 => Fr [31, 32] [33] [195, 301] cn13 In13 Fn11 c2 I2 F2 ∧ CBX c2 ∧ ((cn13 31) ≤ c2 31 ∧ c2 31 ≤ c2 32 ∧ c2 32 ≤ (cn13 32))) cn15 In15 Fn15 := wh_15
        obtain ⟨hfc15, hIn15, h_15⟩ := vh_15
        have hf15 : Fr [31, 32] [33] [195, 198, 301, 302, 303, 304] cn In Fn cn15 In15 Fn15 := Fr.mo (Fr.tr hf13 hfc15) (sbl rfl) (sbl rfl) (sbl rfl)
        replace hIn15 : CBXh cn15 := hIn15
        have hT198_15 : Fn15 198 = (Fn11 198) := hfc15.2.2 198 (nml rfl)
        have : cn15 6 = (cn13 6) := hfc15.1 6 (nml rfl)
        refine lv_aload_n hx hb (oc_42 84 (aq_11 shX5_readClause_73)) rfl (lvA0 hl) ?_
        refine lv_bipush (v := 41) hx hb (oc_16 85 (aq_12 shX5_readClause_73) sgb_41) kbc_41 ?_
        have hFc := free_all hD hS hA
        refine va_callv (runV_xa (As := [.int 41]) (rest := []) S (q_Rtake l D cI cB cZ zz qq vv bt g ad cn15 In15 Fn15 41 H.size hIn15 (by omega) (by omega) (by omega) (by omega) (by decide)) kV_RX5_62 hK hXS hS hFc hP hD 3 xo_3 rfl rfl ⟨Nat.le_of_ble_eq_true rfl, Nat.le_of_ble_eq_true rfl⟩ ⟨Nat.le_of_ble_eq_true rfl, Nat.le_of_ble_eq_true rfl⟩ rfl hl.1 rfl (Nat.le_of_ble_eq_true rfl) (oc_182 87 (aq_14 shX5_readClause_73) uw_0_62)) hS (fun q _ h => hFc q h) hFc (fun u t H1 locs ht hvm wh_17 hB1 hz1 hk1 hS => ?_)
        obtain ⟨cn17, In17, Fn17⟩ := u
        obtain ⟨hP1, hD1⟩ := hB1
        rw [ht] at hP1
        have hP : va_P D vwCl (wX cI (D.1 99) zz g ad cn17 In17 Fn17) H1 := hP1
        have hD : va_D A (wX cI (D.1 99) zz g ad cn17 In17 Fn17) := hD1.weaken (fun _ _ _ h => hFc _ h)
        generalize H1 = H at hP hS ⊢
        have vh_17 : (fun c2 I2 F2 => Fr [31, 32] [33] [] cn15 In15 Fn15 c2 I2 F2 ∧ CBX c2 ∧ ((cn15 31) ≤ c2 31 ∧ c2 31 ≤ c2 32 ∧ c2 32 ≤ (cn15 32))) cn17 In17 Fn17 := wh_17
        obtain ⟨hfc17, hIn17, h_17⟩ := vh_17
        obtain rfl : Fn15 = Fn17 := (funext (fun k => hfc17.2.2 k List.not_mem_nil)).symm
        have hf17 : Fr [31, 32] [33] [195, 198, 301, 302, 303, 304] cn In Fn cn17 In17 Fn15 := Fr.mo (Fr.tr hf15 hfc17) (sbl rfl) (sbl rfl) (sbl rfl)
        replace hIn17 : CBXh cn17 := hIn17
        have : cn17 6 = (cn15 6) := hfc17.1 6 (nml rfl)
        refine lv_aload_n hx hb (oc_42 90 (aq_17 shX5_readClause_73)) rfl (lvA0 hl) ?_
        refine gf_RX5_20 S hK hP 3 xo_3 (v := .ref (ad 5 (ad 4 1))) rfl (oc_180 91 (aq_18 shX5_readClause_73) uw_0_20) ?_
        have hFc := free_all hD hS hA
        refine va_callv (runV_xa (As := []) (rest := []) S (q_TendClause l D cI cB cZ zz qq vv bt g ad cn17 In17 Fn15 (ad 4 1) H.size hIn17 (by omega)) kV_RX5_69 hK hXS hS hFc hP hD _ (xf_7 (show (ad 4 1) < (cn17 6) by omega)) rfl rfl ⟨Nat.le_of_ble_eq_true rfl, Nat.le_of_ble_eq_true rfl⟩ ⟨Nat.le_of_ble_eq_true rfl, Nat.le_of_ble_eq_true rfl⟩ rfl hl.1 rfl (Nat.le_of_ble_eq_true rfl) (oc_182 94 (aq_21 shX5_readClause_73) uw_0_69)) hS (fun q _ h => hFc q h) hFc (fun u t H1 locs ht hvm wh_19 hB1 hz1 hk1 hS => ?_)
        obtain ⟨cn19, In19, Fn19⟩ := u
        obtain ⟨hP1, hD1⟩ := hB1
        rw [ht] at hP1
        have hP : va_P D vwCl (wX cI (D.1 99) zz g ad cn19 In19 Fn19) H1 := hP1
        have hD : va_D A (wX cI (D.1 99) zz g ad cn19 In19 Fn19) := hD1.weaken (fun _ _ _ h => hFc _ h)
        generalize H1 = H at hP hS ⊢
        have vh_19 : (fun c2 I2 F2 => Fr [] [] [198, 304] cn17 In17 Fn15 c2 I2 F2 ∧ CBX c2 ∧ (F2 198 = upd ((Fn15 198)) (ad 4 1) ((Fn15 198) (ad 4 1) + 1))) cn19 In19 Fn19 := wh_19
        obtain ⟨hfc19, hIn19, h_19⟩ := vh_19
        obtain rfl : cn17 = cn19 := (funext (fun k => hfc19.1 k List.not_mem_nil)).symm
        obtain rfl : In17 = In19 := (funext (fun k => hfc19.2.1 k List.not_mem_nil)).symm
        have hf19 : Fr [31, 32] [33] [195, 198, 301, 302, 303, 304] cn In Fn cn17 In17 Fn19 := Fr.mo (Fr.tr hf17 hfc19) (sbl rfl) (sbl rfl) (sbl rfl)
        replace hIn19 : CBXh cn17 := hIn19
        exact W.vret hx hb hr (fun t ht hW => ⟨⟨(cn17, In17, Fn19), rfl, ⟨(Fr.mo hf19 (sbl rfl) (sbl rfl) (sbl rfl)), hIn19, (by show (cn 31 ≤ cn17 31 ∧ cn17 31 ≤ cn17 32 ∧ cn17 32 ≤ cn 32) ∧ ∃ n : Nat, n ≤ 12 ∧ Fn19 198 = upd (Fn 198) (ad 4 1) (nI n); exact ⟨by show cn 31 ≤ (cn17 31) ∧ (cn17 31) ≤ (cn17 32) ∧ (cn17 32) ≤ cn 32; omega, ⟨n0 + 1, by omega, by rw [h_19, hT198_15, hT198_11, hT198_8, es, nI_1]⟩⟩)⟩, by rw [ht]; exact hP, hD⟩, hS.F ht⟩) hS.2.2 (oc_177 97 shX5_readClause_97)
      ·
        have tc_9 : ((In 30).toInt : Int) = 112 := congrArg Int32.toInt c_9
        refine lv_aload_n hx hb (oc_42 61 (aq_12 shX5_readClause_49)) rfl (lvA0 hl) ?_
        refine lv_iconst (v := 0) hx hb (oc_3 62 (aq_13 shX5_readClause_49)) kic_0 ?_
        have hFc := free_all hD hS hA
        refine va_callv (runV_xa (As := [.int 0]) (rest := []) S (q_RreadSum_0 l D cI cB cZ zz qq vv bt g ad cn8 In Fn8  H.size hIn8 (by omega) (by omega) (by omega) (by omega) (by rw [hf8.2.2 199 (nml rfl)]; exact h9)) kV_RX5_56 hK hXS hS hFc hP hD 3 xo_3 rfl rfl ⟨Nat.le_of_ble_eq_true rfl, Nat.le_of_ble_eq_true rfl⟩ ⟨Nat.le_of_ble_eq_true rfl, Nat.le_of_ble_eq_true rfl⟩ rfl hl.1 rfl (Nat.le_of_ble_eq_true rfl) (oc_182 63 (aq_14 shX5_readClause_49) uw_0_56)) hS (fun q _ h => hFc q h) hFc (fun u t H1 locs ht hvm wh_21 hB1 hz1 hk1 hS => ?_)
        obtain ⟨cn21, In21, Fn21⟩ := u
        obtain ⟨hP1, hD1⟩ := hB1
        rw [ht] at hP1
        have hP : va_P D vwCl (wX cI (D.1 99) zz g ad cn21 In21 Fn21) H1 := hP1
        have hD : va_D A (wX cI (D.1 99) zz g ad cn21 In21 Fn21) := hD1.weaken (fun _ _ _ h => hFc _ h)
        generalize H1 = H at hP hS ⊢
        have vh_21 : (fun c2 I2 F2 => Fr [31, 32] [33] [195, 301] cn8 In Fn8 c2 I2 F2 ∧ CBX c2 ∧ ((cn8 31) ≤ c2 31 ∧ c2 31 ≤ c2 32 ∧ c2 32 ≤ (cn8 32))) cn21 In21 Fn21 := wh_21
        obtain ⟨hfc21, hIn21, h_21⟩ := vh_21
        have hf21 : Fr [31, 32] [33] [195, 198, 301, 302, 303, 304] cn In Fn cn21 In21 Fn21 := Fr.mo (Fr.tr hf8 hfc21) (sbl rfl) (sbl rfl) (sbl rfl)
        replace hIn21 : CBXh cn21 := hIn21
        have hT198_21 : Fn21 198 = (Fn8 198) := hfc21.2.2 198 (nml rfl)
        have : cn21 6 = (cn8 6) := hfc21.1 6 (nml rfl)
        refine lv_aload_n hx hb (oc_42 66 (aq_17 shX5_readClause_49)) rfl (lvA0 hl) ?_
        refine gf_RX5_20 S hK hP 3 xo_3 (v := .ref (ad 5 (ad 4 1))) rfl (oc_180 67 (aq_18 shX5_readClause_49) uw_0_20) ?_
        have hFc := free_all hD hS hA
        refine va_callv (runV_xa (As := []) (rest := []) S (q_TstartCondition l D cI cB cZ zz qq vv bt g ad cn21 In21 Fn21 (ad 4 1) H.size hIn21 (by omega)) kV_RX5_59 hK hXS hS hFc hP hD _ (xf_7 (show (ad 4 1) < (cn21 6) by omega)) rfl rfl ⟨Nat.le_of_ble_eq_true rfl, Nat.le_of_ble_eq_true rfl⟩ ⟨Nat.le_of_ble_eq_true rfl, Nat.le_of_ble_eq_true rfl⟩ rfl hl.1 rfl (Nat.le_of_ble_eq_true rfl) (oc_182 70 (aq_21 shX5_readClause_49) uw_0_59)) hS (fun q _ h => hFc q h) hFc (fun u t H1 locs ht hvm wh_23 hB1 hz1 hk1 hS => ?_)
        obtain ⟨cn23, In23, Fn23⟩ := u
        obtain ⟨hP1, hD1⟩ := hB1
        rw [ht] at hP1
        have hP : va_P D vwCl (wX cI (D.1 99) zz g ad cn23 In23 Fn23) H1 := hP1
        have hD : va_D A (wX cI (D.1 99) zz g ad cn23 In23 Fn23) := hD1.weaken (fun _ _ _ h => hFc _ h)
        generalize H1 = H at hP hS ⊢
        have vh_23 : (fun c2 I2 F2 => Fr [] [] [303] cn21 In21 Fn21 c2 I2 F2 ∧ CBX c2 ∧ (True)) cn23 In23 Fn23 := wh_23
        obtain ⟨hfc23, hIn23, h_23⟩ := vh_23
        obtain rfl : cn21 = cn23 := (funext (fun k => hfc23.1 k List.not_mem_nil)).symm
        obtain rfl : In21 = In23 := (funext (fun k => hfc23.2.1 k List.not_mem_nil)).symm
        have hf23 : Fr [31, 32] [33] [195, 198, 301, 302, 303, 304] cn In Fn cn21 In21 Fn23 := Fr.mo (Fr.tr hf21 hfc23) (sbl rfl) (sbl rfl) (sbl rfl)
        replace hIn23 : CBXh cn21 := hIn23
        have hT198_23 : Fn23 198 = (Fn21 198) := hfc23.2.2 198 (nml rfl)
        refine lv_aload_n hx hb (oc_42 73 shX5_readClause_73) rfl (lvA0 hl) ?_
        refine lv_bipush (v := 40) hx hb (oc_16 74 (aq_1 shX5_readClause_73) sgb_40) kbc_40 ?_
        have hFc := free_all hD hS hA
        refine va_callv (runV_xa (As := [.int 40]) (rest := []) S (q_Rtake l D cI cB cZ zz qq vv bt g ad cn21 In21 Fn23 40 H.size hIn23 (by omega) (by omega) (by omega) (by omega) (by decide)) kV_RX5_62 hK hXS hS hFc hP hD 3 xo_3 rfl rfl ⟨Nat.le_of_ble_eq_true rfl, Nat.le_of_ble_eq_true rfl⟩ ⟨Nat.le_of_ble_eq_true rfl, Nat.le_of_ble_eq_true rfl⟩ rfl hl.1 rfl (Nat.le_of_ble_eq_true rfl) (oc_182 76 (aq_3 shX5_readClause_73) uw_0_62)) hS (fun q _ h => hFc q h) hFc (fun u t H1 locs ht hvm wh_25 hB1 hz1 hk1 hS => ?_)
        obtain ⟨cn25, In25, Fn25⟩ := u
        obtain ⟨hP1, hD1⟩ := hB1
        rw [ht] at hP1
        have hP : va_P D vwCl (wX cI (D.1 99) zz g ad cn25 In25 Fn25) H1 := hP1
        have hD : va_D A (wX cI (D.1 99) zz g ad cn25 In25 Fn25) := hD1.weaken (fun _ _ _ h => hFc _ h)
        generalize H1 = H at hP hS ⊢
        have vh_25 : (fun c2 I2 F2 => Fr [31, 32] [33] [] cn21 In21 Fn23 c2 I2 F2 ∧ CBX c2 ∧ ((cn21 31) ≤ c2 31 ∧ c2 31 ≤ c2 32 ∧ c2 32 ≤ (cn21 32))) cn25 In25 Fn25 := wh_25
        obtain ⟨hfc25, hIn25, h_25⟩ := vh_25
        obtain rfl : Fn23 = Fn25 := (funext (fun k => hfc25.2.2 k List.not_mem_nil)).symm
        have hf25 : Fr [31, 32] [33] [195, 198, 301, 302, 303, 304] cn In Fn cn25 In25 Fn23 := Fr.mo (Fr.tr hf23 hfc25) (sbl rfl) (sbl rfl) (sbl rfl)
        replace hIn25 : CBXh cn25 := hIn25
        have : cn25 6 = (cn21 6) := hfc25.1 6 (nml rfl)
        refine lv_aload_n hx hb (oc_42 79 (aq_6 shX5_readClause_73)) rfl (lvA0 hl) ?_
        refine lv_iconst (v := 1) hx hb (oc_4 80 (aq_7 shX5_readClause_73)) kic_1 ?_
        have hFc := free_all hD hS hA
        refine va_callv (runV_xa (As := [.int 1]) (rest := []) S (q_RreadCondition_1 l D cI cB cZ zz qq vv bt g ad cn25 In25 Fn23  H.size hIn25 (by omega) (by omega) (by omega) (by omega) (by rw [hf25.2.2 199 (nml rfl)]; exact h9)) kV_RX5_66 hK hXS hS hFc hP hD 3 xo_3 rfl rfl ⟨Nat.le_of_ble_eq_true rfl, Nat.le_of_ble_eq_true rfl⟩ ⟨Nat.le_of_ble_eq_true rfl, Nat.le_of_ble_eq_true rfl⟩ rfl hl.1 rfl (Nat.le_of_ble_eq_true rfl) (oc_182 81 (aq_8 shX5_readClause_73) uw_0_66)) hS (fun q _ h => hFc q h) hFc (fun u t H1 locs ht hvm wh_27 hB1 hz1 hk1 hS => ?_)
        obtain ⟨cn27, In27, Fn27⟩ := u
        obtain ⟨hP1, hD1⟩ := hB1
        rw [ht] at hP1
        have hP : va_P D vwCl (wX cI (D.1 99) zz g ad cn27 In27 Fn27) H1 := hP1
        have hD : va_D A (wX cI (D.1 99) zz g ad cn27 In27 Fn27) := hD1.weaken (fun _ _ _ h => hFc _ h)
        generalize H1 = H at hP hS ⊢
        have vh_27 : (fun c2 I2 F2 => Fr [31, 32] [33] [195, 301] cn25 In25 Fn23 c2 I2 F2 ∧ CBX c2 ∧ ((cn25 31) ≤ c2 31 ∧ c2 31 ≤ c2 32 ∧ c2 32 ≤ (cn25 32))) cn27 In27 Fn27 := wh_27
        obtain ⟨hfc27, hIn27, h_27⟩ := vh_27
        have hf27 : Fr [31, 32] [33] [195, 198, 301, 302, 303, 304] cn In Fn cn27 In27 Fn27 := Fr.mo (Fr.tr hf25 hfc27) (sbl rfl) (sbl rfl) (sbl rfl)
        replace hIn27 : CBXh cn27 := hIn27
        have hT198_27 : Fn27 198 = (Fn23 198) := hfc27.2.2 198 (nml rfl)
        have : cn27 6 = (cn25 6) := hfc27.1 6 (nml rfl)
        refine lv_aload_n hx hb (oc_42 84 (aq_11 shX5_readClause_73)) rfl (lvA0 hl) ?_
        refine lv_bipush (v := 41) hx hb (oc_16 85 (aq_12 shX5_readClause_73) sgb_41) kbc_41 ?_
        have hFc := free_all hD hS hA
        refine va_callv (runV_xa (As := [.int 41]) (rest := []) S (q_Rtake l D cI cB cZ zz qq vv bt g ad cn27 In27 Fn27 41 H.size hIn27 (by omega) (by omega) (by omega) (by omega) (by decide)) kV_RX5_62 hK hXS hS hFc hP hD 3 xo_3 rfl rfl ⟨Nat.le_of_ble_eq_true rfl, Nat.le_of_ble_eq_true rfl⟩ ⟨Nat.le_of_ble_eq_true rfl, Nat.le_of_ble_eq_true rfl⟩ rfl hl.1 rfl (Nat.le_of_ble_eq_true rfl) (oc_182 87 (aq_14 shX5_readClause_73) uw_0_62)) hS (fun q _ h => hFc q h) hFc (fun u t H1 locs ht hvm wh_29 hB1 hz1 hk1 hS => ?_)
        obtain ⟨cn29, In29, Fn29⟩ := u
        obtain ⟨hP1, hD1⟩ := hB1
        rw [ht] at hP1
        have hP : va_P D vwCl (wX cI (D.1 99) zz g ad cn29 In29 Fn29) H1 := hP1
        have hD : va_D A (wX cI (D.1 99) zz g ad cn29 In29 Fn29) := hD1.weaken (fun _ _ _ h => hFc _ h)
        generalize H1 = H at hP hS ⊢
        have vh_29 : (fun c2 I2 F2 => Fr [31, 32] [33] [] cn27 In27 Fn27 c2 I2 F2 ∧ CBX c2 ∧ ((cn27 31) ≤ c2 31 ∧ c2 31 ≤ c2 32 ∧ c2 32 ≤ (cn27 32))) cn29 In29 Fn29 := wh_29
        obtain ⟨hfc29, hIn29, h_29⟩ := vh_29
        obtain rfl : Fn27 = Fn29 := (funext (fun k => hfc29.2.2 k List.not_mem_nil)).symm
        have hf29 : Fr [31, 32] [33] [195, 198, 301, 302, 303, 304] cn In Fn cn29 In29 Fn27 := Fr.mo (Fr.tr hf27 hfc29) (sbl rfl) (sbl rfl) (sbl rfl)
        replace hIn29 : CBXh cn29 := hIn29
        have : cn29 6 = (cn27 6) := hfc29.1 6 (nml rfl)
        refine lv_aload_n hx hb (oc_42 90 (aq_17 shX5_readClause_73)) rfl (lvA0 hl) ?_
        refine gf_RX5_20 S hK hP 3 xo_3 (v := .ref (ad 5 (ad 4 1))) rfl (oc_180 91 (aq_18 shX5_readClause_73) uw_0_20) ?_
        have hFc := free_all hD hS hA
        refine va_callv (runV_xa (As := []) (rest := []) S (q_TendClause l D cI cB cZ zz qq vv bt g ad cn29 In29 Fn27 (ad 4 1) H.size hIn29 (by omega)) kV_RX5_69 hK hXS hS hFc hP hD _ (xf_7 (show (ad 4 1) < (cn29 6) by omega)) rfl rfl ⟨Nat.le_of_ble_eq_true rfl, Nat.le_of_ble_eq_true rfl⟩ ⟨Nat.le_of_ble_eq_true rfl, Nat.le_of_ble_eq_true rfl⟩ rfl hl.1 rfl (Nat.le_of_ble_eq_true rfl) (oc_182 94 (aq_21 shX5_readClause_73) uw_0_69)) hS (fun q _ h => hFc q h) hFc (fun u t H1 locs ht hvm wh_31 hB1 hz1 hk1 hS => ?_)
        obtain ⟨cn31, In31, Fn31⟩ := u
        obtain ⟨hP1, hD1⟩ := hB1
        rw [ht] at hP1
        have hP : va_P D vwCl (wX cI (D.1 99) zz g ad cn31 In31 Fn31) H1 := hP1
        have hD : va_D A (wX cI (D.1 99) zz g ad cn31 In31 Fn31) := hD1.weaken (fun _ _ _ h => hFc _ h)
        generalize H1 = H at hP hS ⊢
        have vh_31 : (fun c2 I2 F2 => Fr [] [] [198, 304] cn29 In29 Fn27 c2 I2 F2 ∧ CBX c2 ∧ (F2 198 = upd ((Fn27 198)) (ad 4 1) ((Fn27 198) (ad 4 1) + 1))) cn31 In31 Fn31 := wh_31
        obtain ⟨hfc31, hIn31, h_31⟩ := vh_31
        obtain rfl : cn29 = cn31 := (funext (fun k => hfc31.1 k List.not_mem_nil)).symm
        obtain rfl : In29 = In31 := (funext (fun k => hfc31.2.1 k List.not_mem_nil)).symm
        have hf31 : Fr [31, 32] [33] [195, 198, 301, 302, 303, 304] cn In Fn cn29 In29 Fn31 := Fr.mo (Fr.tr hf29 hfc31) (sbl rfl) (sbl rfl) (sbl rfl)
        replace hIn31 : CBXh cn29 := hIn31
        exact W.vret hx hb hr (fun t ht hW => ⟨⟨(cn29, In29, Fn31), rfl, ⟨(Fr.mo hf31 (sbl rfl) (sbl rfl) (sbl rfl)), hIn31, (by show (cn 31 ≤ cn29 31 ∧ cn29 31 ≤ cn29 32 ∧ cn29 32 ≤ cn 32) ∧ ∃ n : Nat, n ≤ 12 ∧ Fn31 198 = upd (Fn 198) (ad 4 1) (nI n); exact ⟨by show cn 31 ≤ (cn29 31) ∧ (cn29 31) ≤ (cn29 32) ∧ (cn29 32) ≤ cn 32; omega, ⟨n0 + 1, by omega, by rw [h_31, hT198_27, hT198_23, hT198_21, hT198_8, es, nI_1]⟩⟩)⟩, by rw [ht]; exact hP, hD⟩, hS.F ht⟩) hS.2.2 (oc_177 97 shX5_readClause_97)
    ·
      have tc_5 : (12 : Int) ≤ (nI n0).toInt := Int32.le_iff_toInt_le.mp (Int32.not_lt.mp c_5)
      refine lv_aload_n hx hb (oc_42 29 (aq_5 shX5_readClause_24)) rfl (lvA0 hl) ?_
      refine lv_iconst (v := 4) hx hb (oc_7 30 (aq_6 shX5_readClause_24)) kic_4 ?_
      have hFc := free_all hD hS hA
      refine va_callv (runV_xa (As := [.int 4]) (rest := []) S (q_Rfail l D cI cB cZ zz qq vv bt g ad cn In Fn 4 s.heap.size hB (by omega) (by omega) (by omega) (by omega)) kV_RX5_47 hK hXS hS hFc hP hD 3 xo_3 rfl rfl ⟨Nat.le_of_ble_eq_true rfl, Nat.le_of_ble_eq_true rfl⟩ ⟨Nat.le_of_ble_eq_true rfl, Nat.le_of_ble_eq_true rfl⟩ rfl hl.1 rfl (Nat.le_of_ble_eq_true rfl) (oc_182 31 (aq_7 shX5_readClause_24) uw_0_47)) hS (fun q _ h => hFc q h) hFc (fun u t H1 locs ht hvm wh_33 hB1 hz1 hk1 hS => ?_)
      obtain ⟨cn33, In33, Fn33⟩ := u
      obtain ⟨hP1, hD1⟩ := hB1
      rw [ht] at hP1
      have hP : va_P D vwCl (wX cI (D.1 99) zz g ad cn33 In33 Fn33) H1 := hP1
      have hD : va_D A (wX cI (D.1 99) zz g ad cn33 In33 Fn33) := hD1.weaken (fun _ _ _ h => hFc _ h)
      generalize H1 = H at hP hS ⊢
      have vh_33 : (fun c2 I2 F2 => Fr [32] [33] [] cn In Fn c2 I2 F2 ∧ CBX c2 ∧ (c2 31 = (cn 31) ∧ (cn 31) ≤ c2 32 ∧ c2 32 ≤ (cn 32))) cn33 In33 Fn33 := wh_33
      obtain ⟨hfc33, hIn33, h_33⟩ := vh_33
      obtain rfl : Fn = Fn33 := (funext (fun k => hfc33.2.2 k List.not_mem_nil)).symm
      have hf33 : Fr [31, 32] [33] [195, 198, 301, 302, 303, 304] cn In Fn cn33 In33 Fn := Fr.mo (Fr.tr (Fr.rf (cn := cn) (In := In) (Fn := Fn)) hfc33) (sbl rfl) (sbl rfl) (sbl rfl)
      replace hIn33 : CBXh cn33 := hIn33
      have : cn33 6 = (cn 6) := hfc33.1 6 (nml rfl)
      have : cn33 31 = (cn 31) := hfc33.1 31 (nml rfl)
      exact W.vret hx hb hr (fun t ht hW => ⟨⟨(cn33, In33, Fn), rfl, ⟨(Fr.mo hf33 (sbl rfl) (sbl rfl) (sbl rfl)), hIn33, (by show (cn 31 ≤ cn33 31 ∧ cn33 31 ≤ cn33 32 ∧ cn33 32 ≤ cn 32) ∧ ∃ n : Nat, n ≤ 12 ∧ Fn 198 = upd (Fn 198) (ad 4 1) (nI n); exact ⟨by show cn 31 ≤ (cn33 31) ∧ (cn33 31) ≤ (cn33 32) ∧ (cn33 32) ≤ cn 32; omega, ⟨n0, hn, upd_id9 es⟩⟩)⟩, by rw [ht]; exact hP, hD⟩, hS.F ht⟩) hS.2.2 (oc_177 34 (aq_10 shX5_readClause_24))
  ·
    have tc_3 : (r_1.toInt : Int) ≠ (In 30).toInt := fun q => c_3 (Int32.toInt_inj.mp q)
    refine lv_aload_n hx hb (oc_42 11 (aq_11 shX5_readClause_0)) rfl (lvA0 hl) ?_
    refine lv_iconst (v := 1) hx hb (oc_4 12 (aq_12 shX5_readClause_0)) kic_1 ?_
    have hFc := free_all hD hS hA
    refine va_callv (runV_xa (As := [.int 1]) (rest := []) S (q_Rfail l D cI cB cZ zz qq vv bt g ad cn In Fn 1 s.heap.size hB (by omega) (by omega) (by omega) (by omega)) kV_RX5_47 hK hXS hS hFc hP hD 3 xo_3 rfl rfl ⟨Nat.le_of_ble_eq_true rfl, Nat.le_of_ble_eq_true rfl⟩ ⟨Nat.le_of_ble_eq_true rfl, Nat.le_of_ble_eq_true rfl⟩ rfl hl.1 rfl (Nat.le_of_ble_eq_true rfl) (oc_182 13 (aq_13 shX5_readClause_0) uw_0_47)) hS (fun q _ h => hFc q h) hFc (fun u t H1 locs ht hvm wh_35 hB1 hz1 hk1 hS => ?_)
    obtain ⟨cn35, In35, Fn35⟩ := u
    obtain ⟨hP1, hD1⟩ := hB1
    rw [ht] at hP1
    have hP : va_P D vwCl (wX cI (D.1 99) zz g ad cn35 In35 Fn35) H1 := hP1
    have hD : va_D A (wX cI (D.1 99) zz g ad cn35 In35 Fn35) := hD1.weaken (fun _ _ _ h => hFc _ h)
    generalize H1 = H at hP hS ⊢
    have vh_35 : (fun c2 I2 F2 => Fr [32] [33] [] cn In Fn c2 I2 F2 ∧ CBX c2 ∧ (c2 31 = (cn 31) ∧ (cn 31) ≤ c2 32 ∧ c2 32 ≤ (cn 32))) cn35 In35 Fn35 := wh_35
    obtain ⟨hfc35, hIn35, h_35⟩ := vh_35
    obtain rfl : Fn = Fn35 := (funext (fun k => hfc35.2.2 k List.not_mem_nil)).symm
    have hf35 : Fr [31, 32] [33] [195, 198, 301, 302, 303, 304] cn In Fn cn35 In35 Fn := Fr.mo (Fr.tr (Fr.rf (cn := cn) (In := In) (Fn := Fn)) hfc35) (sbl rfl) (sbl rfl) (sbl rfl)
    replace hIn35 : CBXh cn35 := hIn35
    have : cn35 6 = (cn 6) := hfc35.1 6 (nml rfl)
    have : cn35 31 = (cn 31) := hfc35.1 31 (nml rfl)
    exact W.vret hx hb hr (fun t ht hW => ⟨⟨(cn35, In35, Fn), rfl, ⟨(Fr.mo hf35 (sbl rfl) (sbl rfl) (sbl rfl)), hIn35, (by show (cn 31 ≤ cn35 31 ∧ cn35 31 ≤ cn35 32 ∧ cn35 32 ≤ cn 32) ∧ ∃ n : Nat, n ≤ 12 ∧ Fn 198 = upd (Fn 198) (ad 4 1) (nI n); exact ⟨by show cn 31 ≤ (cn35 31) ∧ (cn35 31) ≤ (cn35 32) ∧ (cn35 32) ≤ cn 32; omega, ⟨n0, hn, upd_id9 es⟩⟩)⟩, by rw [ht]; exact hP, hD⟩, hS.F ht⟩) hS.2.2 (oc_177 16 (aq_16 shX5_readClause_0))
set_option maxRecDepth 100000 in
set_option maxHeartbeats 4000000 in
theorem q_Rread (l : Launch) (D : va_G) (cI cB cZ : ClassId) (zz qq vv : Nat) (bt : Nat → Int32) (g : Nat → Nat) (ad : Nat → Nat → Nat) (cn : Nat → Nat) (In : Nat → Int32) (Fn : Nat → Nat → Int32) (n0 : Nat) (v1 : Int32) (sz : Nat) (hB : CBX cn) (h0 : 1 ≤ n0 ∧ n0 ≤ 160) (h8 : 0 ≤ v1.toInt) (hT : (∀ k : Nat, k < cn 10 → ad 3 k < cn 6) ∧ ad 4 0 < cn 6 ∧ ad 4 1 < cn 6) (hC : ∀ k : Nat, k < cn 6 → ∃ n : Nat, n ≤ 12 ∧ Fn 198 k = nI n) (hL : ∀ k : Nat, k < cn 6 → (Fn 199 k).toInt ≤ 160) : Met l yX5_read (CWS yX5_read cX5_read 4 (some (.object "OilHome$Text"))) (RM 26 6 237) (PBx [.ref (g 6), .ref (g 5), .int (nI n0), .int v1] D cI cB cZ zz qq vv bt (wX cI (D.1 99) zz g ad cn In Fn) sz) (va_Qq (fun (r : Option Nat) (u : (Nat → Nat → Nat) × (Nat → Nat) × (Nat → Int32) × (Nat → Nat → Int32)) => (fun r a2 c2 I2 F2 => Fr [6, 31, 32] [30, 33] [195, 196, 197, 198, 199, 301, 302, 303, 304, 305] cn In Fn c2 I2 F2 ∧ CBX c2 ∧ r = some (a2 5 (a2 4 1)) ∧ c2 6 = cn 6 + 1 ∧ a2 4 1 = cn 6 ∧ (∀ i k : Nat, i ∉ [4, 5, 60, 61, 62, 63, 64] → a2 i k = ad i k) ∧ a2 4 0 = ad 4 0 ∧ (∀ k : Nat, k < c2 6 → ∃ n : Nat, n ≤ 12 ∧ F2 198 k = nI n) ∧ ∀ k : Nat, k < c2 6 → (F2 199 k).toInt ≤ 160) r u.1 u.2.1 u.2.2.1 u.2.2.2) (fun (u : (Nat → Nat → Nat) × (Nat → Nat) × (Nat → Int32) × (Nat → Nat → Int32)) (t : State) => va_P D vwCl (wX cI (D.1 99) zz g u.1 u.2.1 u.2.2.1 u.2.2.2) t.heap ∧ va_D (va_A (wX cI (D.1 99) zz g ad cn In Fn) sz) (wX cI (D.1 99) zz g u.1 u.2.1 u.2.2.1 u.2.2.2)) (va_A (wX cI (D.1 99) zz g ad cn In Fn) sz)) 6 237 (va_A (wX cI (D.1 99) zz g ad cn In Fn) sz) := by
  refine en_x (fun A => (va_Qq (fun (r : Option Nat) (u : (Nat → Nat → Nat) × (Nat → Nat) × (Nat → Int32) × (Nat → Nat → Int32)) => (fun (r : Option Nat) (a2 : Nat → Nat → Nat) (c2 : Nat → Nat) (I2 : Nat → Int32) (F2 : Nat → Nat → Int32) => Fr [6, 31, 32] [30, 33] [195, 196, 197, 198, 199, 301, 302, 303, 304, 305] cn In Fn c2 I2 F2 ∧ CBX c2 ∧ r = some (a2 5 (a2 4 1)) ∧ c2 6 = cn 6 + 1 ∧ a2 4 1 = cn 6 ∧ (∀ i k : Nat, i ∉ [4, 5, 60, 61, 62, 63, 64] → a2 i k = ad i k) ∧ a2 4 0 = ad 4 0 ∧ (∀ k : Nat, k < c2 6 → ∃ n : Nat, n ≤ 12 ∧ F2 198 k = nI n) ∧ ∀ k : Nat, k < c2 6 → (F2 199 k).toInt ≤ 160) r u.1 u.2.1 u.2.2.1 u.2.2.2) (fun (u : (Nat → Nat → Nat) × (Nat → Nat) × (Nat → Int32) × (Nat → Nat → Int32)) (t : State) => va_P D vwCl (wX cI (D.1 99) zz g u.1 u.2.1 u.2.2.1 u.2.2.2) t.heap ∧ va_D A (wX cI (D.1 99) zz g u.1 u.2.1 u.2.2.1 u.2.2.2)) A)) rfl rfl pn_RX5 (Nat.le_of_ble_eq_true rfl) (fun p e s m below meth c A hx hb hml hown S hr hlocks hnm hA hP hK hD hXS hS ls hl => ?_)
  have hl : lv_has ls 4 [(0, .ref (g 6)), (1, .ref (g 5)), (2, .int (nI n0)), (3, .int v1)] := hl
  refine lv_aload_n hx hb (oc_42 0 shX5_read_0) rfl (lvA0 hl) ?_
  refine lv_aload_n hx hb (oc_43 1 (aq_1 shX5_read_0)) rfl (lvA1 hl) ?_
  refine gf_RX5_24 S hK hP 1 xo_1 (v := .ref (g 40)) rfl (oc_180 2 (aq_2 shX5_read_0) uw_0_24) ?_
  refine pf_RX5_9 S hK hP hD hS 3 xo_3 (v := .ref (g 40)) (Nat.le_of_ble_eq_true rfl) rfl rfl (oc_181 5 (aq_5 shX5_read_0) uw_0_9) (fun H locs hP hD hS => ?_)
  have hP : va_P D vwCl (wX cI (D.1 99) zz g (adO ad 4 2 (g 40)) cn In Fn) H := va_P_eq xR42 hP
  have hD : va_D A (wX cI (D.1 99) zz g (adO ad 4 2 (g 40)) cn In Fn) := va_D_eq xR42 hD
  refine lv_aload_n hx hb (oc_42 8 (aq_8 shX5_read_0)) rfl (lvA0 hl) ?_
  refine va_new (ci := 10) (fs := [.null, .null, .null, .null, .null, .int 0, .int 0, .int 0, .int 0]) (C := RX9) (T := TX9) (N := 9) hx hb S.2.2.2.2 hin_RX9 tyX9 tyX9_ok hown (S.2.2.2.2 _ (wk1_7 11 rfl rfl)) (S.2.2.2.2 _ (wk1_3 0 rfl rfl)) (S.2.2.2.2 _ (wk1_0 2 rfl rfl)) hK.1 hP hD hS hA rfl (by decide +kernel) (Nat.le_of_ble_eq_true rfl) (Nat.le_of_ble_eq_true rfl) (oc_187 9 (aq_9 shX5_read_0) uw_0_15) (fun q9 H hP hD hS => ?_)
  have hP : va_P D vwCl ((wX cI (D.1 99) zz g (adO ad 4 2 (g 40)) cn In Fn) ++ ([(q9, .inr (10, [.null, .null, .null, .null, .null, .int 0, .int 0, .int 0, .int 0]))] : va_W)) H := hP
  have hD : va_D A ((wX cI (D.1 99) zz g (adO ad 4 2 (g 40)) cn In Fn) ++ ([(q9, .inr (10, [.null, .null, .null, .null, .null, .int 0, .int 0, .int 0, .int 0]))] : va_W)) := hD
  refine lv_dup hx hb (oc_89 12 (aq_12 shX5_read_0)) rfl ?_
  refine lv_iload_n hx hb (oc_28 13 (aq_13 shX5_read_0)) rfl (lvA2 hl) ?_
  have hFc := va_free (wc := [(q9, .inr (10, [.null, .null, .null, .null, .null, .int 0, .int 0, .int 0, .int 0]))]) hD hS hA [_] (one_im (exr (m := 0) rfl))
  refine va_callv (runI_w (As := [.int (nI n0)]) (rest := [.ref q9, .ref (g 6)]) S (q_l_TextN l D cI cB cZ q9 n0 H.size (by omega)) kI_RX5_17 hK hP hD [_] (one_is (exr (m := 0) rfl)) (one_im (exr (m := 0) rfl)) rfl ⟨Nat.le_of_ble_eq_true rfl, Nat.le_of_ble_eq_true rfl⟩ ⟨Nat.le_of_ble_eq_true rfl, Nat.le_of_ble_eq_true rfl⟩ rfl hl.1 rfl (Nat.le_of_ble_eq_true rfl) (oc_183 14 (aq_14 shX5_read_0) uw_0_17)) hS (fun q _ h => hFc q h) hFc (fun u_1 t H1 locs ht hvm h_2 hB1 hz1 hk1 hS => ?_)
  obtain ⟨hP1, hD1⟩ := hB1
  rw [ht] at hP1
  obtain ⟨hP, hD⟩ := exjoin hP hD hk1 hFc hP1 hD1
  generalize H1 = H at hP hS ⊢
  have hP : va_P D vwCl ((wX cI (D.1 99) zz g (adO ad 4 2 (g 40)) cn In Fn) ++ ([(q9, .inr (10, [.ref (u_1 0), .ref (u_1 1), .ref (u_1 2), .ref (u_1 3), .ref (u_1 4), .int 0, .int 0, .int 0, .int 0])), ((u_1 0), .inl (cI, n0, .inl (fun _ => 0))), ((u_1 1), .inl (cI, 12, .inl (fun _ => 0))), ((u_1 2), .inl (cI, 12, .inl (fun _ => 0))), ((u_1 3), .inl (cI, 12, .inl (fun _ => 0))), ((u_1 4), .inl (cI, 32, .inl (fun _ => 0)))] : va_W)) H := hP
  have hD : va_D A ((wX cI (D.1 99) zz g (adO ad 4 2 (g 40)) cn In Fn) ++ ([(q9, .inr (10, [.ref (u_1 0), .ref (u_1 1), .ref (u_1 2), .ref (u_1 3), .ref (u_1 4), .int 0, .int 0, .int 0, .int 0])), ((u_1 0), .inl (cI, n0, .inl (fun _ => 0))), ((u_1 1), .inl (cI, 12, .inl (fun _ => 0))), ((u_1 2), .inl (cI, 12, .inl (fun _ => 0))), ((u_1 3), .inl (cI, 12, .inl (fun _ => 0))), ((u_1 4), .inl (cI, 32, .inl (fun _ => 0)))] : va_W)) := hD
  refine pf_RX5_20 S hK hP hD hS _ (exl xo_3) (v := .ref q9) (Nat.le_of_ble_eq_true rfl) rfl rfl (oc_181 17 (aq_17 shX5_read_0) uw_0_20) (fun H locs hP hD hS => ?_)
  have hP : va_P D vwCl (wX cI (D.1 99) zz g (adO (adO (adO (adO (adO (adO (adO (adO ad 4 2 (g 40)) 5 (cn 6) q9) 60 (cn 6) (u_1 0)) 61 (cn 6) (u_1 1)) 62 (cn 6) (u_1 2)) 63 (cn 6) (u_1 3)) 64 (cn 6) (u_1 4)) 4 1 (cn 6)) (va_up cn 6 (cn 6 + 1)) In (va_up (va_up (va_up (va_up (va_up (va_up (va_up (va_up (va_up (va_up Fn 195 (upd (Fn 195) (cn 6) 0)) 196 (upd (Fn 196) (cn 6) 0)) 197 (upd (Fn 197) (cn 6) 0)) 198 (upd (Fn 198) (cn 6) 0)) 199 (upd (Fn 199) (cn 6) (nI n0))) 301 (flat (Fn 301) 200 (cn 6) (fun _ => 0))) 302 (flat (Fn 302) 12 (cn 6) (fun _ => 0))) 303 (flat (Fn 303) 12 (cn 6) (fun _ => 0))) 304 (flat (Fn 304) 12 (cn 6) (fun _ => 0))) 305 (flat (Fn 305) 32 (cn 6) (fun _ => 0)))) H := va_P_perm (xaddT (ad := (adO ad 4 2 (g 40))) (qt := q9) (r0 := (u_1 0)) (r1 := (u_1 1)) (r2 := (u_1 2)) (r3 := (u_1 3)) (r4 := (u_1 4)) (n := n0) (fun k hk => by simpa [adO] using hT.1 k hk) (by simpa [adO] using hT.2.1) (by rw [nI_toInt (by omega)]; rfl)) (va_P_eq (exs_l xo_3 rfl) hP)
  have hD : va_D A (wX cI (D.1 99) zz g (adO (adO (adO (adO (adO (adO (adO (adO ad 4 2 (g 40)) 5 (cn 6) q9) 60 (cn 6) (u_1 0)) 61 (cn 6) (u_1 1)) 62 (cn 6) (u_1 2)) 63 (cn 6) (u_1 3)) 64 (cn 6) (u_1 4)) 4 1 (cn 6)) (va_up cn 6 (cn 6 + 1)) In (va_up (va_up (va_up (va_up (va_up (va_up (va_up (va_up (va_up (va_up Fn 195 (upd (Fn 195) (cn 6) 0)) 196 (upd (Fn 196) (cn 6) 0)) 197 (upd (Fn 197) (cn 6) 0)) 198 (upd (Fn 198) (cn 6) 0)) 199 (upd (Fn 199) (cn 6) (nI n0))) 301 (flat (Fn 301) 200 (cn 6) (fun _ => 0))) 302 (flat (Fn 302) 12 (cn 6) (fun _ => 0))) 303 (flat (Fn 303) 12 (cn 6) (fun _ => 0))) 304 (flat (Fn 304) 12 (cn 6) (fun _ => 0))) 305 (flat (Fn 305) 32 (cn 6) (fun _ => 0)))) := va_D_perm (xaddT (ad := (adO ad 4 2 (g 40))) (qt := q9) (r0 := (u_1 0)) (r1 := (u_1 1)) (r2 := (u_1 2)) (r3 := (u_1 3)) (r4 := (u_1 4)) (n := n0) (fun k hk => by simpa [adO] using hT.1 k hk) (by simpa [adO] using hT.2.1) (by rw [nI_toInt (by omega)]; rfl)) (va_D_eq (exs_l xo_3 rfl) hD)
  obtain ⟨a9, ha9⟩ : ∃ a : Nat → Nat → Nat, a = (adO (adO (adO (adO (adO (adO (adO (adO ad 4 2 (g 40)) 5 (cn 6) q9) 60 (cn 6) (u_1 0)) 61 (cn 6) (u_1 1)) 62 (cn 6) (u_1 2)) 63 (cn 6) (u_1 3)) 64 (cn 6) (u_1 4)) 4 1 (cn 6)) := ⟨_, rfl⟩
  rw [← ha9] at hP hD
  have hR : a9 4 2 = g 40 := by rw [ha9]; simp [adO]
  have h41 : a9 4 1 = cn 6 := by rw [ha9]; simp [adO]
  have h40 : a9 4 0 = ad 4 0 := by rw [ha9]; simp [adO]
  have h43 : ∀ k : Nat, a9 3 k = ad 3 k := fun k => by rw [ha9]; simp [adO]
  have hfa : ∀ i k : Nat, i ∉ [4, 5, 60, 61, 62, 63, 64] → a9 i k = ad i k := fun i k hi => by
    simp only [List.mem_cons, List.not_mem_nil, or_false, not_or] at hi
    rw [ha9]; simp [adO, hi]
  refine lv_aload_n hx hb (oc_42 20 (aq_20 shX5_read_0)) rfl (lvA0 hl) ?_
  refine lv_iload_n hx hb (oc_29 21 (aq_21 shX5_read_0)) rfl (lvA3 hl) ?_
  refine pf_RX5_27 S hK hP hD hS 3 xo_3 (v := .int v1) (Nat.le_of_ble_eq_true rfl) rfl rfl (oc_181 22 (aq_22 shX5_read_0) uw_0_27) (fun H locs hP hD hS => ?_)
  have hP : va_P D vwCl (wX cI (D.1 99) zz g a9 (va_up cn 6 (cn 6 + 1)) (va_up In 30 v1) (va_up (va_up (va_up (va_up (va_up (va_up (va_up (va_up (va_up (va_up Fn 195 (upd (Fn 195) (cn 6) 0)) 196 (upd (Fn 196) (cn 6) 0)) 197 (upd (Fn 197) (cn 6) 0)) 198 (upd (Fn 198) (cn 6) 0)) 199 (upd (Fn 199) (cn 6) (nI n0))) 301 (flat (Fn 301) 200 (cn 6) (fun _ => 0))) 302 (flat (Fn 302) 12 (cn 6) (fun _ => 0))) 303 (flat (Fn 303) 12 (cn 6) (fun _ => 0))) 304 (flat (Fn 304) 12 (cn 6) (fun _ => 0))) 305 (flat (Fn 305) 32 (cn 6) (fun _ => 0)))) H := va_P_eq xsf_3_2 hP
  have hD : va_D A (wX cI (D.1 99) zz g a9 (va_up cn 6 (cn 6 + 1)) (va_up In 30 v1) (va_up (va_up (va_up (va_up (va_up (va_up (va_up (va_up (va_up (va_up Fn 195 (upd (Fn 195) (cn 6) 0)) 196 (upd (Fn 196) (cn 6) 0)) 197 (upd (Fn 197) (cn 6) 0)) 198 (upd (Fn 198) (cn 6) 0)) 199 (upd (Fn 199) (cn 6) (nI n0))) 301 (flat (Fn 301) 200 (cn 6) (fun _ => 0))) 302 (flat (Fn 302) 12 (cn 6) (fun _ => 0))) 303 (flat (Fn 303) 12 (cn 6) (fun _ => 0))) 304 (flat (Fn 304) 12 (cn 6) (fun _ => 0))) 305 (flat (Fn 305) 32 (cn 6) (fun _ => 0)))) := va_D_eq xsf_3_2 hD
  refine lv_aload_n hx hb (oc_42 25 shX5_read_25) rfl (lvA0 hl) ?_
  refine lv_iconst (v := 0) hx hb (oc_3 26 (aq_1 shX5_read_25)) kic_0 ?_
  refine pf_RX5_31 S hK hP hD hS 3 xo_3 (v := .int 0) (Nat.le_of_ble_eq_true rfl) rfl rfl (oc_181 27 (aq_2 shX5_read_25) uw_0_31) (fun H locs hP hD hS => ?_)
  have hP : va_P D vwCl (wX cI (D.1 99) zz g a9 (va_up (va_up cn 6 (cn 6 + 1)) 31 0) (va_up In 30 v1) (va_up (va_up (va_up (va_up (va_up (va_up (va_up (va_up (va_up (va_up Fn 195 (upd (Fn 195) (cn 6) 0)) 196 (upd (Fn 196) (cn 6) 0)) 197 (upd (Fn 197) (cn 6) 0)) 198 (upd (Fn 198) (cn 6) 0)) 199 (upd (Fn 199) (cn 6) (nI n0))) 301 (flat (Fn 301) 200 (cn 6) (fun _ => 0))) 302 (flat (Fn 302) 12 (cn 6) (fun _ => 0))) 303 (flat (Fn 303) 12 (cn 6) (fun _ => 0))) 304 (flat (Fn 304) 12 (cn 6) (fun _ => 0))) 305 (flat (Fn 305) 32 (cn 6) (fun _ => 0)))) H := va_P_eq xsf_3_3 hP
  have hD : va_D A (wX cI (D.1 99) zz g a9 (va_up (va_up cn 6 (cn 6 + 1)) 31 0) (va_up In 30 v1) (va_up (va_up (va_up (va_up (va_up (va_up (va_up (va_up (va_up (va_up Fn 195 (upd (Fn 195) (cn 6) 0)) 196 (upd (Fn 196) (cn 6) 0)) 197 (upd (Fn 197) (cn 6) 0)) 198 (upd (Fn 198) (cn 6) 0)) 199 (upd (Fn 199) (cn 6) (nI n0))) 301 (flat (Fn 301) 200 (cn 6) (fun _ => 0))) 302 (flat (Fn 302) 12 (cn 6) (fun _ => 0))) 303 (flat (Fn 303) 12 (cn 6) (fun _ => 0))) 304 (flat (Fn 304) 12 (cn 6) (fun _ => 0))) 305 (flat (Fn 305) 32 (cn 6) (fun _ => 0)))) := va_D_eq xsf_3_3 hD
  refine lv_aload_n hx hb (oc_42 30 (aq_5 shX5_read_25)) rfl (lvA0 hl) ?_
  refine lv_iload_n hx hb (oc_28 31 (aq_6 shX5_read_25)) rfl (lvA2 hl) ?_
  refine pf_RX5_34 S hK hP hD hS 3 xo_3 (v := .int (nI n0)) (Nat.le_of_ble_eq_true rfl) rfl rfl (oc_181 32 (aq_7 shX5_read_25) uw_0_34) (fun H locs hP hD hS => ?_)
  have hP : va_P D vwCl (wX cI (D.1 99) zz g a9 (va_up (va_up (va_up cn 6 (cn 6 + 1)) 31 0) 32 n0) (va_up In 30 v1) (va_up (va_up (va_up (va_up (va_up (va_up (va_up (va_up (va_up (va_up Fn 195 (upd (Fn 195) (cn 6) 0)) 196 (upd (Fn 196) (cn 6) 0)) 197 (upd (Fn 197) (cn 6) 0)) 198 (upd (Fn 198) (cn 6) 0)) 199 (upd (Fn 199) (cn 6) (nI n0))) 301 (flat (Fn 301) 200 (cn 6) (fun _ => 0))) 302 (flat (Fn 302) 12 (cn 6) (fun _ => 0))) 303 (flat (Fn 303) 12 (cn 6) (fun _ => 0))) 304 (flat (Fn 304) 12 (cn 6) (fun _ => 0))) 305 (flat (Fn 305) 32 (cn 6) (fun _ => 0)))) H := va_P_eq xsf_3_4 hP
  have hD : va_D A (wX cI (D.1 99) zz g a9 (va_up (va_up (va_up cn 6 (cn 6 + 1)) 31 0) 32 n0) (va_up In 30 v1) (va_up (va_up (va_up (va_up (va_up (va_up (va_up (va_up (va_up (va_up Fn 195 (upd (Fn 195) (cn 6) 0)) 196 (upd (Fn 196) (cn 6) 0)) 197 (upd (Fn 197) (cn 6) 0)) 198 (upd (Fn 198) (cn 6) 0)) 199 (upd (Fn 199) (cn 6) (nI n0))) 301 (flat (Fn 301) 200 (cn 6) (fun _ => 0))) 302 (flat (Fn 302) 12 (cn 6) (fun _ => 0))) 303 (flat (Fn 303) 12 (cn 6) (fun _ => 0))) 304 (flat (Fn 304) 12 (cn 6) (fun _ => 0))) 305 (flat (Fn 305) 32 (cn 6) (fun _ => 0)))) := va_D_eq xsf_3_4 hD
  refine lv_aload_n hx hb (oc_42 35 (aq_10 shX5_read_25)) rfl (lvA0 hl) ?_
  refine lv_iconst (v := 0) hx hb (oc_3 36 (aq_11 shX5_read_25)) kic_0 ?_
  refine pf_RX5_37 S hK hP hD hS 3 xo_3 (v := .int 0) (Nat.le_of_ble_eq_true rfl) rfl rfl (oc_181 37 (aq_12 shX5_read_25) uw_0_37) (fun H locs hP hD hS => ?_)
  have hP : va_P D vwCl (wX cI (D.1 99) zz g a9 (va_up (va_up (va_up cn 6 (cn 6 + 1)) 31 0) 32 n0) (va_up (va_up In 30 v1) 33 0) (va_up (va_up (va_up (va_up (va_up (va_up (va_up (va_up (va_up (va_up Fn 195 (upd (Fn 195) (cn 6) 0)) 196 (upd (Fn 196) (cn 6) 0)) 197 (upd (Fn 197) (cn 6) 0)) 198 (upd (Fn 198) (cn 6) 0)) 199 (upd (Fn 199) (cn 6) (nI n0))) 301 (flat (Fn 301) 200 (cn 6) (fun _ => 0))) 302 (flat (Fn 302) 12 (cn 6) (fun _ => 0))) 303 (flat (Fn 303) 12 (cn 6) (fun _ => 0))) 304 (flat (Fn 304) 12 (cn 6) (fun _ => 0))) 305 (flat (Fn 305) 32 (cn 6) (fun _ => 0)))) H := va_P_eq xsf_3_5 hP
  have hD : va_D A (wX cI (D.1 99) zz g a9 (va_up (va_up (va_up cn 6 (cn 6 + 1)) 31 0) 32 n0) (va_up (va_up In 30 v1) 33 0) (va_up (va_up (va_up (va_up (va_up (va_up (va_up (va_up (va_up (va_up Fn 195 (upd (Fn 195) (cn 6) 0)) 196 (upd (Fn 196) (cn 6) 0)) 197 (upd (Fn 197) (cn 6) 0)) 198 (upd (Fn 198) (cn 6) 0)) 199 (upd (Fn 199) (cn 6) (nI n0))) 301 (flat (Fn 301) 200 (cn 6) (fun _ => 0))) 302 (flat (Fn 302) 12 (cn 6) (fun _ => 0))) 303 (flat (Fn 303) 12 (cn 6) (fun _ => 0))) 304 (flat (Fn 304) 12 (cn 6) (fun _ => 0))) 305 (flat (Fn 305) 32 (cn 6) (fun _ => 0)))) := va_D_eq xsf_3_5 hD
  refine lv_aload_n hx hb (oc_42 40 (aq_15 shX5_read_25)) rfl (lvA0 hl) ?_
  have hFc := free_all hD hS hA
  refine va_callv (runV_xa (As := []) (rest := []) S (q_RreadClause l D cI cB cZ zz qq vv bt g a9 (va_up (va_up (va_up cn 6 (cn 6 + 1)) 31 0) 32 n0) (va_up (va_up In 30 v1) 33 0) (va_up (va_up (va_up (va_up (va_up (va_up (va_up (va_up (va_up (va_up Fn 195 (upd (Fn 195) (cn 6) 0)) 196 (upd (Fn 196) (cn 6) 0)) 197 (upd (Fn 197) (cn 6) 0)) 198 (upd (Fn 198) (cn 6) 0)) 199 (upd (Fn 199) (cn 6) (nI n0))) 301 (flat (Fn 301) 200 (cn 6) (fun _ => 0))) 302 (flat (Fn 302) 12 (cn 6) (fun _ => 0))) 303 (flat (Fn 303) 12 (cn 6) (fun _ => 0))) 304 (flat (Fn 304) 12 (cn 6) (fun _ => 0))) 305 (flat (Fn 305) 32 (cn 6) (fun _ => 0))) 0 H.size (CBX.n (k := 32) (v := n0) (CBX.n (k := 31) (v := 0) (CBX.n (k := 6) (v := (cn 6 + 1)) hB (by decide)) (by decide)) (by decide)) (show a9 4 2 = g 40 by omega) (show a9 4 1 < (cn 6 + 1) by omega) (show 0 ≤ n0 by omega) (show n0 ≤ 160 by omega) (by show (upd (Fn 199) (cn 6) (nI n0) (a9 4 1)).toInt ≤ 160; rw [h41, upd_self, nI_toInt (by omega)]; omega) (by show upd (Fn 198) (cn 6) 0 (a9 4 1) = nI 0; rw [h41, upd_self]; rfl) (by decide) h8) kV_RX5_40 hK hXS hS hFc hP hD 3 xo_3 rfl rfl ⟨Nat.le_of_ble_eq_true rfl, Nat.le_of_ble_eq_true rfl⟩ ⟨Nat.le_of_ble_eq_true rfl, Nat.le_of_ble_eq_true rfl⟩ rfl hl.1 rfl (Nat.le_of_ble_eq_true rfl) (oc_182 41 (aq_16 shX5_read_25) uw_0_40)) hS (fun q _ h => hFc q h) hFc (fun u t H1 locs ht hvm wh_4 hB1 hz1 hk1 hS => ?_)
  obtain ⟨cn4, In4, Fn4⟩ := u
  obtain ⟨hP1, hD1⟩ := hB1
  rw [ht] at hP1
  have hP : va_P D vwCl (wX cI (D.1 99) zz g a9 cn4 In4 Fn4) H1 := hP1
  have hD : va_D A (wX cI (D.1 99) zz g a9 cn4 In4 Fn4) := hD1.weaken (fun _ _ _ h => hFc _ h)
  generalize H1 = H at hP hS ⊢
  have vh_4 : (fun c2 I2 F2 => Fr [31, 32] [33] [195, 198, 301, 302, 303, 304] (va_up (va_up (va_up cn 6 (cn 6 + 1)) 31 0) 32 n0) (va_up (va_up In 30 v1) 33 0) (va_up (va_up (va_up (va_up (va_up (va_up (va_up (va_up (va_up (va_up Fn 195 (upd (Fn 195) (cn 6) 0)) 196 (upd (Fn 196) (cn 6) 0)) 197 (upd (Fn 197) (cn 6) 0)) 198 (upd (Fn 198) (cn 6) 0)) 199 (upd (Fn 199) (cn 6) (nI n0))) 301 (flat (Fn 301) 200 (cn 6) (fun _ => 0))) 302 (flat (Fn 302) 12 (cn 6) (fun _ => 0))) 303 (flat (Fn 303) 12 (cn 6) (fun _ => 0))) 304 (flat (Fn 304) 12 (cn 6) (fun _ => 0))) 305 (flat (Fn 305) 32 (cn 6) (fun _ => 0))) c2 I2 F2 ∧ CBX c2 ∧ ((0 ≤ c2 31 ∧ c2 31 ≤ c2 32 ∧ c2 32 ≤ n0) ∧ ∃ n : Nat, n ≤ 12 ∧ F2 198 = upd ((upd (Fn 198) (cn 6) 0)) (a9 4 1) (nI n))) cn4 In4 Fn4 := wh_4
  obtain ⟨hfc4, hIn4, h_4⟩ := vh_4
  have hf4 : Fr [6, 31, 32] [30, 33] [195, 196, 197, 198, 199, 301, 302, 303, 304, 305] cn In Fn cn4 In4 Fn4 := Fr.mo (Fr.tr (Fr.f 305 (Fr.f 304 (Fr.f 303 (Fr.f 302 (Fr.f 301 (Fr.f 199 (Fr.f 198 (Fr.f 197 (Fr.f 196 (Fr.f 195 (Fr.i 33 (Fr.i 30 (Fr.c 32 (Fr.c 31 (Fr.c 6 (Fr.rf (cn := cn) (In := In) (Fn := Fn))))))))))))))))) hfc4) (sbl rfl) (sbl rfl) (sbl rfl)
  have hTI30_4 : In4 30 = v1 := hfc4.2.1 30 (nml rfl)
  have hT199_4 : Fn4 199 = (upd (Fn 199) (cn 6) (nI n0)) := hfc4.2.2 199 (nml rfl)
  have : cn4 0 = (cn 0) := hfc4.1 0 (nml rfl)
  have : cn4 1 = (cn 1) := hfc4.1 1 (nml rfl)
  have : cn4 2 = (cn 2) := hfc4.1 2 (nml rfl)
  have : cn4 3 = (cn 3) := hfc4.1 3 (nml rfl)
  have : cn4 4 = (cn 4) := hfc4.1 4 (nml rfl)
  have : cn4 5 = (cn 5) := hfc4.1 5 (nml rfl)
  have : cn4 10 = (cn 10) := hfc4.1 10 (nml rfl)
  have : cn4 11 = (cn 11) := hfc4.1 11 (nml rfl)
  have : cn4 12 = (cn 12) := hfc4.1 12 (nml rfl)
  have : cn4 13 = (cn 13) := hfc4.1 13 (nml rfl)
  have : cn4 14 = (cn 14) := hfc4.1 14 (nml rfl)
  have : cn4 15 = (cn 15) := hfc4.1 15 (nml rfl)
  have : cn4 20 = (cn 20) := hfc4.1 20 (nml rfl)
  have : cn4 21 = (cn 21) := hfc4.1 21 (nml rfl)
  have : cn4 22 = (cn 22) := hfc4.1 22 (nml rfl)
  have : cn4 23 = (cn 23) := hfc4.1 23 (nml rfl)
  have : cn4 24 = (cn 24) := hfc4.1 24 (nml rfl)
  have : cn4 25 = (cn 25) := hfc4.1 25 (nml rfl)
  have : cn4 6 = (cn 6 + 1) := hfc4.1 6 (nml rfl)
  obtain ⟨h_4, n8, hn8, e8⟩ := h_4
  have lp_44 : ∀ (n : Nat)  (c44 : Nat → Nat) (I44 : Nat → Int32) (F44 : Nat → Nat → Int32) (H : Heap) (locs : List Loc) , c44 32 - c44 31 < n → (Fr [6, 31, 32] [30, 33] [195, 196, 197, 198, 199, 301, 302, 303, 304, 305] cn In Fn c44 I44 F44 ∧ CBX c44 ∧ (c44 31 ≤ c44 32 ∧ c44 32 ≤ n0 ∧ c44 6 = cn 6 + 1) ∧ (I44 30 = v1) ∧ (F44 199 = upd (Fn 199) (cn 6) (nI n0)) ∧ (∃ n : Nat, n ≤ 12 ∧ F44 198 = upd (Fn 198) (cn 6) (nI n))) → va_P D vwCl (wX cI (D.1 99) zz g a9 c44 I44 F44) H → va_D A (wX cI (D.1 99) zz g a9 c44 I44 F44) → va_S A s.heap H locs → ∀ ls : Array Slot, lv_has ls 4 [(0, .ref (g 6)), (1, .ref (g 5)), (2, .int (nI n0)), (3, .int v1)] → W p l e (RM 26 6 237) s m ([.ref (g 6), .ref (g 5), .int (nI n0), .int v1]).toArray below meth c H locs 6 237 (MQ below (va_Qq (fun (r : Option Nat) (u : (Nat → Nat → Nat) × (Nat → Nat) × (Nat → Int32) × (Nat → Nat → Int32)) => (fun r a2 c2 I2 F2 => Fr [6, 31, 32] [30, 33] [195, 196, 197, 198, 199, 301, 302, 303, 304, 305] cn In Fn c2 I2 F2 ∧ CBX c2 ∧ r = some (a2 5 (a2 4 1)) ∧ c2 6 = cn 6 + 1 ∧ a2 4 1 = cn 6 ∧ (∀ i k : Nat, i ∉ [4, 5, 60, 61, 62, 63, 64] → a2 i k = ad i k) ∧ a2 4 0 = ad 4 0 ∧ (∀ k : Nat, k < c2 6 → ∃ n : Nat, n ≤ 12 ∧ F2 198 k = nI n) ∧ ∀ k : Nat, k < c2 6 → (F2 199 k).toInt ≤ 160) r u.1 u.2.1 u.2.2.1 u.2.2.2) (fun (u : (Nat → Nat → Nat) × (Nat → Nat) × (Nat → Int32) × (Nat → Nat → Int32)) (t : State) => va_P D vwCl (wX cI (D.1 99) zz g u.1 u.2.1 u.2.2.1 u.2.2.2) t.heap ∧ va_D A (wX cI (D.1 99) zz g u.1 u.2.1 u.2.2.1 u.2.2.2)) A) ([.ref (g 6), .ref (g 5), .int (nI n0), .int v1]).toArray s 6 237 A) (F0 m 44 ls []) := by
    intro n44
    induction n44 with
    | zero => intros; omega
    | succ n44 ih44 =>
      intro  c44 I44 F44 H locs hmu44 hinv44 hP hD hS ls hl
      obtain ⟨hfr44, hI44, hx44_0, hx44_1, hx44_2, hx44_3⟩ := hinv44
      have : c44 0 = cn 0 := hfr44.1 0 (nml rfl)
      have : c44 1 = cn 1 := hfr44.1 1 (nml rfl)
      have : c44 2 = cn 2 := hfr44.1 2 (nml rfl)
      have : c44 3 = cn 3 := hfr44.1 3 (nml rfl)
      have : c44 4 = cn 4 := hfr44.1 4 (nml rfl)
      have : c44 5 = cn 5 := hfr44.1 5 (nml rfl)
      have : c44 10 = cn 10 := hfr44.1 10 (nml rfl)
      have : c44 11 = cn 11 := hfr44.1 11 (nml rfl)
      have : c44 12 = cn 12 := hfr44.1 12 (nml rfl)
      have : c44 13 = cn 13 := hfr44.1 13 (nml rfl)
      have : c44 14 = cn 14 := hfr44.1 14 (nml rfl)
      have : c44 15 = cn 15 := hfr44.1 15 (nml rfl)
      have : c44 20 = cn 20 := hfr44.1 20 (nml rfl)
      have : c44 21 = cn 21 := hfr44.1 21 (nml rfl)
      have : c44 22 = cn 22 := hfr44.1 22 (nml rfl)
      have : c44 23 = cn 23 := hfr44.1 23 (nml rfl)
      have : c44 24 = cn 24 := hfr44.1 24 (nml rfl)
      have : c44 25 = cn 25 := hfr44.1 25 (nml rfl)
      obtain ⟨n9, hn9, e9⟩ := hx44_3
      refine lv_aload_n hx hb (oc_42 44 (aq_19 shX5_read_25)) rfl (lvA0 hl) ?_
      refine gf_RX5_31 S hK hP 3 xo_3 (v := .int (nI (c44 31))) rfl (oc_180 45 (aq_20 shX5_read_25) uw_0_31) ?_
      refine lv_aload_n hx hb (oc_42 48 (aq_23 shX5_read_25)) rfl (lvA0 hl) ?_
      refine gf_RX5_34 S hK hP 3 xo_3 (v := .int (nI (c44 32))) rfl (oc_180 49 shX5_read_49 uw_0_34) ?_
      have : (nI (c44 31)).toInt = (((c44 31) : Nat) : Int) := nI_toInt (by omega)
      have : (nI (c44 32)).toInt = (((c44 32) : Nat) : Int) := nI_toInt (by omega)
      refine lv_icmp_ge (tgt := 81) hx hb (oc_162 52 (aq_3 shX5_read_49) sgw_0_29) rfl (fun c_5 => ?_) (fun c_5 => ?_)
      ·
        have tc_5 : ((nI (c44 32)).toInt : Int) ≤ (nI (c44 31)).toInt := Int32.le_iff_toInt_le.mp c_5
        refine lv_aload_n hx hb (oc_42 81 (aq_7 shX5_read_74)) rfl (lvA0 hl) ?_
        refine gf_RX5_31 S hK hP 3 xo_3 (v := .int (nI (c44 31))) rfl (oc_180 82 (aq_8 shX5_read_74) uw_0_31) ?_
        refine lv_aload_n hx hb (oc_42 85 (aq_11 shX5_read_74)) rfl (lvA0 hl) ?_
        refine gf_RX5_34 S hK hP 3 xo_3 (v := .int (nI (c44 32))) rfl (oc_180 86 (aq_12 shX5_read_74) uw_0_34) ?_
        refine lv_icmp_ge (tgt := 97) hx hb (oc_162 89 (aq_15 shX5_read_74) sgw_0_8) rfl (fun c_6 => ?_) (fun c_6 => ?_)
        ·
          have tc_6 : ((nI (c44 32)).toInt : Int) ≤ (nI (c44 31)).toInt := Int32.le_iff_toInt_le.mp c_6
          refine lv_aload_n hx hb dX5_read_97 rfl (lvA0 hl) ?_
          refine gf_RX5_20 S hK hP 3 xo_3 (v := .ref (a9 5 (a9 4 1))) rfl dX5_read_98 ?_
          exact W.aret (v := .ref (a9 5 (a9 4 1))) hx hb hr (Or.inl ⟨_, rfl⟩) (Or.inr ⟨_, rfl⟩) (fun t ht hW => ⟨⟨some (a9 5 (a9 4 1)), (a9, c44, I44, F44), rfl, ⟨(Fr.mo hfr44 (sbl rfl) (sbl rfl) (sbl rfl)), hI44, rfl, (by show (c44 6) = cn 6 + 1; omega), h41, hfa, h40, xtc_new hC (by show (c44 6) = cn 6 + 1; omega) hn9 e9, xsl_new hL (by show (c44 6) = cn 6 + 1; omega) (by omega) hx44_2⟩, by rw [ht]; exact hP, hD⟩, hS.F ht⟩) hS.2.2 dX5_read_101
        ·
          have tc_6 : ((nI (c44 31)).toInt : Int) < (nI (c44 32)).toInt := Int32.lt_iff_toInt_lt.mp (Int32.not_le.mp c_6)
          refine lv_aload_n hx hb (oc_42 92 (aq_18 shX5_read_74)) rfl (lvA0 hl) ?_
          refine lv_iconst (v := 1) hx hb (oc_4 93 (aq_19 shX5_read_74)) kic_1 ?_
          have hFc := free_all hD hS hA
          refine va_callv (runV_xa (As := [.int 1]) (rest := []) S (q_Rfail l D cI cB cZ zz qq vv bt g a9 c44 I44 F44 1 H.size hI44 (by omega) (by omega) (by omega) (by omega)) kV_RX5_47 hK hXS hS hFc hP hD 3 xo_3 rfl rfl ⟨Nat.le_of_ble_eq_true rfl, Nat.le_of_ble_eq_true rfl⟩ ⟨Nat.le_of_ble_eq_true rfl, Nat.le_of_ble_eq_true rfl⟩ rfl hl.1 rfl (Nat.le_of_ble_eq_true rfl) (oc_182 94 (aq_20 shX5_read_74) uw_0_47)) hS (fun q _ h => hFc q h) hFc (fun u t H1 locs ht hvm wh_8 hB1 hz1 hk1 hS => ?_)
          obtain ⟨cn8, In8, Fn8⟩ := u
          obtain ⟨hP1, hD1⟩ := hB1
          rw [ht] at hP1
          have hP : va_P D vwCl (wX cI (D.1 99) zz g a9 cn8 In8 Fn8) H1 := hP1
          have hD : va_D A (wX cI (D.1 99) zz g a9 cn8 In8 Fn8) := hD1.weaken (fun _ _ _ h => hFc _ h)
          generalize H1 = H at hP hS ⊢
          have vh_8 : (fun c2 I2 F2 => Fr [32] [33] [] c44 I44 F44 c2 I2 F2 ∧ CBX c2 ∧ (c2 31 = (c44 31) ∧ (c44 31) ≤ c2 32 ∧ c2 32 ≤ (c44 32))) cn8 In8 Fn8 := wh_8
          obtain ⟨hfc8, hIn8, h_8⟩ := vh_8
          obtain rfl : F44 = Fn8 := (funext (fun k => hfc8.2.2 k List.not_mem_nil)).symm
          have hf8 : Fr [6, 31, 32] [30, 33] [195, 196, 197, 198, 199, 301, 302, 303, 304, 305] cn In Fn cn8 In8 F44 := Fr.mo (Fr.tr hfr44 hfc8) (sbl rfl) (sbl rfl) (sbl rfl)
          have hTI30_8 : In8 30 = (I44 30) := hfc8.2.1 30 (nml rfl)
          have : cn8 0 = (c44 0) := hfc8.1 0 (nml rfl)
          have : cn8 1 = (c44 1) := hfc8.1 1 (nml rfl)
          have : cn8 2 = (c44 2) := hfc8.1 2 (nml rfl)
          have : cn8 3 = (c44 3) := hfc8.1 3 (nml rfl)
          have : cn8 4 = (c44 4) := hfc8.1 4 (nml rfl)
          have : cn8 5 = (c44 5) := hfc8.1 5 (nml rfl)
          have : cn8 10 = (c44 10) := hfc8.1 10 (nml rfl)
          have : cn8 11 = (c44 11) := hfc8.1 11 (nml rfl)
          have : cn8 12 = (c44 12) := hfc8.1 12 (nml rfl)
          have : cn8 13 = (c44 13) := hfc8.1 13 (nml rfl)
          have : cn8 14 = (c44 14) := hfc8.1 14 (nml rfl)
          have : cn8 15 = (c44 15) := hfc8.1 15 (nml rfl)
          have : cn8 20 = (c44 20) := hfc8.1 20 (nml rfl)
          have : cn8 21 = (c44 21) := hfc8.1 21 (nml rfl)
          have : cn8 22 = (c44 22) := hfc8.1 22 (nml rfl)
          have : cn8 23 = (c44 23) := hfc8.1 23 (nml rfl)
          have : cn8 24 = (c44 24) := hfc8.1 24 (nml rfl)
          have : cn8 25 = (c44 25) := hfc8.1 25 (nml rfl)
          have : cn8 6 = (c44 6) := hfc8.1 6 (nml rfl)
          have : cn8 31 = (c44 31) := hfc8.1 31 (nml rfl)
          refine lv_aload_n hx hb dX5_read_97 rfl (lvA0 hl) ?_
          refine gf_RX5_20 S hK hP 3 xo_3 (v := .ref (a9 5 (a9 4 1))) rfl dX5_read_98 ?_
          exact W.aret (v := .ref (a9 5 (a9 4 1))) hx hb hr (Or.inl ⟨_, rfl⟩) (Or.inr ⟨_, rfl⟩) (fun t ht hW => ⟨⟨some (a9 5 (a9 4 1)), (a9, cn8, In8, F44), rfl, ⟨(Fr.mo hf8 (sbl rfl) (sbl rfl) (sbl rfl)), hIn8, rfl, (by show (cn8 6) = cn 6 + 1; omega), h41, hfa, h40, xtc_new hC (by show (cn8 6) = cn 6 + 1; omega) hn9 e9, xsl_new hL (by show (cn8 6) = cn 6 + 1; omega) (by omega) hx44_2⟩, by rw [ht]; exact hP, hD⟩, hS.F ht⟩) hS.2.2 dX5_read_101
      ·
        have tc_5 : ((nI (c44 31)).toInt : Int) < (nI (c44 32)).toInt := Int32.lt_iff_toInt_lt.mp (Int32.not_le.mp c_5)
        refine lv_aload_n hx hb (oc_42 55 (aq_6 shX5_read_49)) rfl (lvA0 hl) ?_
        refine vp_callSi (runV_rxa (As := []) (rest := []) S (q_Rpeek l D cI cB cZ zz qq vv bt g a9 c44 I44 F44  hI44 (by omega) (by omega) (by omega) (by omega)) kV_RX5_43 hK hXS hS hP 3 xo_3 rfl rfl ⟨Nat.le_of_ble_eq_true rfl, Nat.le_of_ble_eq_true rfl⟩ ⟨Nat.le_of_ble_eq_true rfl, Nat.le_of_ble_eq_true rfl⟩ rfl hl.1 rfl (Nat.le_of_ble_eq_true rfl) (oc_182 56 (aq_7 shX5_read_49) uw_0_43)) (fun r_9 h_10 => ?_)
        refine lv_bipush (v := 59) hx hb (oc_16 59 (aq_10 shX5_read_49) sgb_59) kbc_59 ?_
        refine lv_icmp_ne (tgt := 81) hx hb (oc_160 61 (aq_12 shX5_read_49) sgw_0_20) rfl (fun c_11 => ?_) (fun c_11 => ?_)
        ·
          have tc_11 : (r_9.toInt : Int) ≠ 59 := fun q => c_11 (Int32.toInt_inj.mp q)
          refine lv_aload_n hx hb (oc_42 81 (aq_7 shX5_read_74)) rfl (lvA0 hl) ?_
          refine gf_RX5_31 S hK hP 3 xo_3 (v := .int (nI (c44 31))) rfl (oc_180 82 (aq_8 shX5_read_74) uw_0_31) ?_
          refine lv_aload_n hx hb (oc_42 85 (aq_11 shX5_read_74)) rfl (lvA0 hl) ?_
          refine gf_RX5_34 S hK hP 3 xo_3 (v := .int (nI (c44 32))) rfl (oc_180 86 (aq_12 shX5_read_74) uw_0_34) ?_
          refine lv_icmp_ge (tgt := 97) hx hb (oc_162 89 (aq_15 shX5_read_74) sgw_0_8) rfl (fun c_12 => ?_) (fun c_12 => ?_)
          ·
            have tc_12 : ((nI (c44 32)).toInt : Int) ≤ (nI (c44 31)).toInt := Int32.le_iff_toInt_le.mp c_12
            refine lv_aload_n hx hb dX5_read_97 rfl (lvA0 hl) ?_
            refine gf_RX5_20 S hK hP 3 xo_3 (v := .ref (a9 5 (a9 4 1))) rfl dX5_read_98 ?_
            exact W.aret (v := .ref (a9 5 (a9 4 1))) hx hb hr (Or.inl ⟨_, rfl⟩) (Or.inr ⟨_, rfl⟩) (fun t ht hW => ⟨⟨some (a9 5 (a9 4 1)), (a9, c44, I44, F44), rfl, ⟨(Fr.mo hfr44 (sbl rfl) (sbl rfl) (sbl rfl)), hI44, rfl, (by show (c44 6) = cn 6 + 1; omega), h41, hfa, h40, xtc_new hC (by show (c44 6) = cn 6 + 1; omega) hn9 e9, xsl_new hL (by show (c44 6) = cn 6 + 1; omega) (by omega) hx44_2⟩, by rw [ht]; exact hP, hD⟩, hS.F ht⟩) hS.2.2 dX5_read_101
          ·
            have tc_12 : ((nI (c44 31)).toInt : Int) < (nI (c44 32)).toInt := Int32.lt_iff_toInt_lt.mp (Int32.not_le.mp c_12)
            refine lv_aload_n hx hb (oc_42 92 (aq_18 shX5_read_74)) rfl (lvA0 hl) ?_
            refine lv_iconst (v := 1) hx hb (oc_4 93 (aq_19 shX5_read_74)) kic_1 ?_
            have hFc := free_all hD hS hA
            refine va_callv (runV_xa (As := [.int 1]) (rest := []) S (q_Rfail l D cI cB cZ zz qq vv bt g a9 c44 I44 F44 1 H.size hI44 (by omega) (by omega) (by omega) (by omega)) kV_RX5_47 hK hXS hS hFc hP hD 3 xo_3 rfl rfl ⟨Nat.le_of_ble_eq_true rfl, Nat.le_of_ble_eq_true rfl⟩ ⟨Nat.le_of_ble_eq_true rfl, Nat.le_of_ble_eq_true rfl⟩ rfl hl.1 rfl (Nat.le_of_ble_eq_true rfl) (oc_182 94 (aq_20 shX5_read_74) uw_0_47)) hS (fun q _ h => hFc q h) hFc (fun u t H1 locs ht hvm wh_14 hB1 hz1 hk1 hS => ?_)
            obtain ⟨cn14, In14, Fn14⟩ := u
            obtain ⟨hP1, hD1⟩ := hB1
            rw [ht] at hP1
            have hP : va_P D vwCl (wX cI (D.1 99) zz g a9 cn14 In14 Fn14) H1 := hP1
            have hD : va_D A (wX cI (D.1 99) zz g a9 cn14 In14 Fn14) := hD1.weaken (fun _ _ _ h => hFc _ h)
            generalize H1 = H at hP hS ⊢
            have vh_14 : (fun c2 I2 F2 => Fr [32] [33] [] c44 I44 F44 c2 I2 F2 ∧ CBX c2 ∧ (c2 31 = (c44 31) ∧ (c44 31) ≤ c2 32 ∧ c2 32 ≤ (c44 32))) cn14 In14 Fn14 := wh_14
            obtain ⟨hfc14, hIn14, h_14⟩ := vh_14
            obtain rfl : F44 = Fn14 := (funext (fun k => hfc14.2.2 k List.not_mem_nil)).symm
            have hf14 : Fr [6, 31, 32] [30, 33] [195, 196, 197, 198, 199, 301, 302, 303, 304, 305] cn In Fn cn14 In14 F44 := Fr.mo (Fr.tr hfr44 hfc14) (sbl rfl) (sbl rfl) (sbl rfl)
            have hTI30_14 : In14 30 = (I44 30) := hfc14.2.1 30 (nml rfl)
            have : cn14 0 = (c44 0) := hfc14.1 0 (nml rfl)
            have : cn14 1 = (c44 1) := hfc14.1 1 (nml rfl)
            have : cn14 2 = (c44 2) := hfc14.1 2 (nml rfl)
            have : cn14 3 = (c44 3) := hfc14.1 3 (nml rfl)
            have : cn14 4 = (c44 4) := hfc14.1 4 (nml rfl)
            have : cn14 5 = (c44 5) := hfc14.1 5 (nml rfl)
            have : cn14 10 = (c44 10) := hfc14.1 10 (nml rfl)
            have : cn14 11 = (c44 11) := hfc14.1 11 (nml rfl)
            have : cn14 12 = (c44 12) := hfc14.1 12 (nml rfl)
            have : cn14 13 = (c44 13) := hfc14.1 13 (nml rfl)
            have : cn14 14 = (c44 14) := hfc14.1 14 (nml rfl)
            have : cn14 15 = (c44 15) := hfc14.1 15 (nml rfl)
            have : cn14 20 = (c44 20) := hfc14.1 20 (nml rfl)
            have : cn14 21 = (c44 21) := hfc14.1 21 (nml rfl)
            have : cn14 22 = (c44 22) := hfc14.1 22 (nml rfl)
            have : cn14 23 = (c44 23) := hfc14.1 23 (nml rfl)
            have : cn14 24 = (c44 24) := hfc14.1 24 (nml rfl)
            have : cn14 25 = (c44 25) := hfc14.1 25 (nml rfl)
            have : cn14 6 = (c44 6) := hfc14.1 6 (nml rfl)
            have : cn14 31 = (c44 31) := hfc14.1 31 (nml rfl)
            refine lv_aload_n hx hb dX5_read_97 rfl (lvA0 hl) ?_
            refine gf_RX5_20 S hK hP 3 xo_3 (v := .ref (a9 5 (a9 4 1))) rfl dX5_read_98 ?_
            exact W.aret (v := .ref (a9 5 (a9 4 1))) hx hb hr (Or.inl ⟨_, rfl⟩) (Or.inr ⟨_, rfl⟩) (fun t ht hW => ⟨⟨some (a9 5 (a9 4 1)), (a9, cn14, In14, F44), rfl, ⟨(Fr.mo hf14 (sbl rfl) (sbl rfl) (sbl rfl)), hIn14, rfl, (by show (cn14 6) = cn 6 + 1; omega), h41, hfa, h40, xtc_new hC (by show (cn14 6) = cn 6 + 1; omega) hn9 e9, xsl_new hL (by show (cn14 6) = cn 6 + 1; omega) (by omega) hx44_2⟩, by rw [ht]; exact hP, hD⟩, hS.F ht⟩) hS.2.2 dX5_read_101
        ·
          have tc_11 : (r_9.toInt : Int) = 59 := congrArg Int32.toInt c_11
          refine lv_aload_n hx hb (oc_42 64 (aq_15 shX5_read_49)) rfl (lvA0 hl) ?_
          refine lv_dup hx hb (oc_89 65 (aq_16 shX5_read_49)) rfl ?_
          refine gf_RX5_31 S hK hP 3 xo_3 (v := .int (nI (c44 31))) rfl (oc_180 66 (aq_17 shX5_read_49) uw_0_31) ?_
          refine lv_iconst (v := 1) hx hb (oc_4 69 (aq_20 shX5_read_49)) kic_1 ?_
          refine lv_iadd hx hb (oc_96 70 (aq_21 shX5_read_49)) ?_
          refine lv_topi (fun y_15 ey_15 => ?_)
          obtain rfl : y_15 = (nI ((c44 31) + 1)) := ey_15.trans (nI_add (c44 31) 1)
          refine pf_RX5_31 S hK hP hD hS 3 xo_3 (v := .int (nI ((c44 31) + 1))) (Nat.le_of_ble_eq_true rfl) rfl rfl (oc_181 71 (aq_22 shX5_read_49) uw_0_31) (fun H locs hP hD hS => ?_)
          have hP : va_P D vwCl (wX cI (D.1 99) zz g a9 (va_up c44 31 ((c44 31) + 1)) I44 F44) H := va_P_eq xsf_3_3 hP
          have hD : va_D A (wX cI (D.1 99) zz g a9 (va_up c44 31 ((c44 31) + 1)) I44 F44) := va_D_eq xsf_3_3 hD
          refine lv_aload_n hx hb (oc_42 74 shX5_read_74) rfl (lvA0 hl) ?_
          have hFc := free_all hD hS hA
          refine va_callv (runV_xa (As := []) (rest := []) S (q_RreadClause l D cI cB cZ zz qq vv bt g a9 (va_up c44 31 ((c44 31) + 1)) I44 F44 n9 H.size (CBX.n (k := 31) (v := ((c44 31) + 1)) hI44 (by decide)) (show a9 4 2 = g 40 by omega) (show a9 4 1 < (c44 6) by omega) (show ((c44 31) + 1) ≤ (c44 32) by omega) (show (c44 32) ≤ 160 by omega) (by rw [hx44_2, h41, upd_self, nI_toInt (by omega)]; omega) (by rw [e9, h41, upd_self]) hn9 (by rw [hx44_1]; exact h8)) kV_RX5_40 hK hXS hS hFc hP hD 3 xo_3 rfl rfl ⟨Nat.le_of_ble_eq_true rfl, Nat.le_of_ble_eq_true rfl⟩ ⟨Nat.le_of_ble_eq_true rfl, Nat.le_of_ble_eq_true rfl⟩ rfl hl.1 rfl (Nat.le_of_ble_eq_true rfl) (oc_182 75 (aq_1 shX5_read_74) uw_0_40)) hS (fun q _ h => hFc q h) hFc (fun u t H1 locs ht hvm wh_17 hB1 hz1 hk1 hS => ?_)
          obtain ⟨cn17, In17, Fn17⟩ := u
          obtain ⟨hP1, hD1⟩ := hB1
          rw [ht] at hP1
          have hP : va_P D vwCl (wX cI (D.1 99) zz g a9 cn17 In17 Fn17) H1 := hP1
          have hD : va_D A (wX cI (D.1 99) zz g a9 cn17 In17 Fn17) := hD1.weaken (fun _ _ _ h => hFc _ h)
          generalize H1 = H at hP hS ⊢
          have vh_17 : (fun c2 I2 F2 => Fr [31, 32] [33] [195, 198, 301, 302, 303, 304] (va_up c44 31 ((c44 31) + 1)) I44 F44 c2 I2 F2 ∧ CBX c2 ∧ ((((c44 31) + 1) ≤ c2 31 ∧ c2 31 ≤ c2 32 ∧ c2 32 ≤ (c44 32)) ∧ ∃ n : Nat, n ≤ 12 ∧ F2 198 = upd ((F44 198)) (a9 4 1) (nI n))) cn17 In17 Fn17 := wh_17
          obtain ⟨hfc17, hIn17, h_17⟩ := vh_17
          have hf17 : Fr [6, 31, 32] [30, 33] [195, 196, 197, 198, 199, 301, 302, 303, 304, 305] cn In Fn cn17 In17 Fn17 := Fr.mo (Fr.tr (Fr.c 31 hfr44) hfc17) (sbl rfl) (sbl rfl) (sbl rfl)
          have hTI30_17 : In17 30 = (I44 30) := hfc17.2.1 30 (nml rfl)
          have hT199_17 : Fn17 199 = (F44 199) := hfc17.2.2 199 (nml rfl)
          have : cn17 0 = (c44 0) := hfc17.1 0 (nml rfl)
          have : cn17 1 = (c44 1) := hfc17.1 1 (nml rfl)
          have : cn17 2 = (c44 2) := hfc17.1 2 (nml rfl)
          have : cn17 3 = (c44 3) := hfc17.1 3 (nml rfl)
          have : cn17 4 = (c44 4) := hfc17.1 4 (nml rfl)
          have : cn17 5 = (c44 5) := hfc17.1 5 (nml rfl)
          have : cn17 10 = (c44 10) := hfc17.1 10 (nml rfl)
          have : cn17 11 = (c44 11) := hfc17.1 11 (nml rfl)
          have : cn17 12 = (c44 12) := hfc17.1 12 (nml rfl)
          have : cn17 13 = (c44 13) := hfc17.1 13 (nml rfl)
          have : cn17 14 = (c44 14) := hfc17.1 14 (nml rfl)
          have : cn17 15 = (c44 15) := hfc17.1 15 (nml rfl)
          have : cn17 20 = (c44 20) := hfc17.1 20 (nml rfl)
          have : cn17 21 = (c44 21) := hfc17.1 21 (nml rfl)
          have : cn17 22 = (c44 22) := hfc17.1 22 (nml rfl)
          have : cn17 23 = (c44 23) := hfc17.1 23 (nml rfl)
          have : cn17 24 = (c44 24) := hfc17.1 24 (nml rfl)
          have : cn17 25 = (c44 25) := hfc17.1 25 (nml rfl)
          have : cn17 6 = (c44 6) := hfc17.1 6 (nml rfl)
          obtain ⟨h_17, n8, hn8, e8⟩ := h_17
          refine lv_goto (tgt := 44) hx hb (oc_167 78 (aq_4 shX5_read_74) sgw_255_222) rfl ?_
          exact ih44  cn17 In17 Fn17 _ _ (show (cn17 32) - (cn17 31) < n44 by omega) ⟨(Fr.mo hf17 (sbl rfl) (sbl rfl) (sbl rfl)), hIn17, (show (cn17 31) ≤ (cn17 32) ∧ (cn17 32) ≤ n0 ∧ (cn17 6) = cn 6 + 1 by omega), (hTI30_17.trans hx44_1), (hT199_17.trans hx44_2), ⟨n8, hn8, by rw [e8, e9, h41, upd_upd9]⟩⟩ hP hD hS ls (lv_sub hl [0, 1, 2, 3] rfl)
  exact lp_44 _  cn4 In4 Fn4 _ _ (Nat.lt_succ_self _) ⟨(Fr.mo hf4 (sbl rfl) (sbl rfl) (sbl rfl)), hIn4, (show (cn4 31) ≤ (cn4 32) ∧ (cn4 32) ≤ n0 ∧ (cn4 6) = cn 6 + 1 by omega), hTI30_4, hT199_4, ⟨n8, hn8, by rw [e8, h41, upd_upd9]⟩⟩ hP hD hS ls (lv_sub hl [0, 1, 2, 3] rfl)
set_option maxRecDepth 100000 in
set_option maxHeartbeats 4000000 in
theorem q_Xcontract (l : Launch) (D : va_G) (cI cB cZ : ClassId) (zz qq vv : Nat) (bt : Nat → Int32) (g : Nat → Nat) (ad : Nat → Nat → Nat) (cn : Nat → Nat) (In : Nat → Int32) (Fn : Nat → Nat → Int32) (v0 v1 : Int32) (sz : Nat) (hB : CBX cn) (hT : (∀ k : Nat, k < cn 10 → ad 3 k < cn 6) ∧ ad 4 0 < cn 6 ∧ ad 4 1 < cn 6) (hC : ∀ k : Nat, k < cn 6 → ∃ n : Nat, n ≤ 12 ∧ Fn 198 k = nI n) (hL : ∀ k : Nat, k < cn 6 → (Fn 199 k).toInt ≤ 160) : Met l yX11_contract (CWS yX11_contract cX11_contract 5 (some .int)) (RM 27 6 237) (PBx [.ref (g 0), .int v0, .int v1] D cI cB cZ zz qq vv bt (wX cI (D.1 99) zz g ad cn In Fn) sz) (va_Qi (fun (r : Int32) (u : (Nat → Nat → Nat) × (Nat → Nat) × (Nat → Int32) × (Nat → Nat → Int32)) => (fun r a2 c2 I2 F2 => Fr [3, 6, 31, 32] [30, 33] [195, 196, 197, 198, 199, 301, 302, 303, 304, 305] cn In Fn c2 I2 F2 ∧ CBX c2 ∧ ((∀ k : Nat, k < c2 10 → a2 3 k < c2 6) ∧ a2 4 0 < c2 6 ∧ a2 4 1 < c2 6) ∧ (∀ k : Nat, k < c2 6 → ∃ n : Nat, n ≤ 12 ∧ F2 198 k = nI n) ∧ (∀ k : Nat, k < c2 6 → (F2 199 k).toInt ≤ 160) ∧ ∀ i k : Nat, i ∉ [3, 4, 5, 60, 61, 62, 63, 64] → a2 i k = ad i k) r u.1 u.2.1 u.2.2.1 u.2.2.2) (fun (u : (Nat → Nat → Nat) × (Nat → Nat) × (Nat → Int32) × (Nat → Nat → Int32)) (t : State) => va_P D vwCl (wX cI (D.1 99) zz g u.1 u.2.1 u.2.2.1 u.2.2.2) t.heap ∧ va_D (va_A (wX cI (D.1 99) zz g ad cn In Fn) sz) (wX cI (D.1 99) zz g u.1 u.2.1 u.2.2.1 u.2.2.2)) (va_A (wX cI (D.1 99) zz g ad cn In Fn) sz)) 6 237 (va_A (wX cI (D.1 99) zz g ad cn In Fn) sz) := by
  refine en_x (fun A => (va_Qi (fun (r : Int32) (u : (Nat → Nat → Nat) × (Nat → Nat) × (Nat → Int32) × (Nat → Nat → Int32)) => (fun (r : Int32) (a2 : Nat → Nat → Nat) (c2 : Nat → Nat) (I2 : Nat → Int32) (F2 : Nat → Nat → Int32) => Fr [3, 6, 31, 32] [30, 33] [195, 196, 197, 198, 199, 301, 302, 303, 304, 305] cn In Fn c2 I2 F2 ∧ CBX c2 ∧ ((∀ k : Nat, k < c2 10 → a2 3 k < c2 6) ∧ a2 4 0 < c2 6 ∧ a2 4 1 < c2 6) ∧ (∀ k : Nat, k < c2 6 → ∃ n : Nat, n ≤ 12 ∧ F2 198 k = nI n) ∧ (∀ k : Nat, k < c2 6 → (F2 199 k).toInt ≤ 160) ∧ ∀ i k : Nat, i ∉ [3, 4, 5, 60, 61, 62, 63, 64] → a2 i k = ad i k) r u.1 u.2.1 u.2.2.1 u.2.2.2) (fun (u : (Nat → Nat → Nat) × (Nat → Nat) × (Nat → Int32) × (Nat → Nat → Int32)) (t : State) => va_P D vwCl (wX cI (D.1 99) zz g u.1 u.2.1 u.2.2.1 u.2.2.2) t.heap ∧ va_D A (wX cI (D.1 99) zz g u.1 u.2.1 u.2.2.1 u.2.2.2)) A)) rfl rfl pn_RX11 (Nat.le_of_ble_eq_true rfl) (fun p e s m below meth c A hx hb hml hown S hr hlocks hnm hA hP hK hD hXS hS ls hl => ?_)
  have hl : lv_has ls 5 [(0, .ref (g 0)), (1, .int v0), (2, .int v1)] := hl
  refine lv_aload_n hx hb (oc_42 0 shX11_contract_0) rfl (lvA0 hl) ?_
  refine lv_iload_n hx hb (oc_27 1 (aq_1 shX11_contract_0)) rfl (lvA1 hl) ?_
  refine va_csq (runV_rxa (As := [.int v0]) (rest := []) S (q_XkitchenAt l D cI cB cZ zz qq vv bt g ad cn In Fn v0 hB) kV_RX11_114 hK hXS hS hP 0 xo_0 rfl rfl ⟨Nat.le_of_ble_eq_true rfl, Nat.le_of_ble_eq_true rfl⟩ ⟨Nat.le_of_ble_eq_true rfl, Nat.le_of_ble_eq_true rfl⟩ rfl hl.1 rfl (Nat.le_of_ble_eq_true rfl) (oc_182 2 (aq_2 shX11_contract_0) uw_0_114)) (fun r_1 h_2 => ?_)
  rcases h_2 with ⟨mr_1, er_1, hr_1, rfl⟩ | ⟨hr_1, rfl⟩
  ·
    refine lv_astore_n (lv' := [(3, .ref (ad 10 mr_1)), (0, .ref (g 0)), (1, .int v0), (2, .int v1)]) hx hb (oc_78 5 (aq_5 shX11_contract_0)) rfl hl (ltb rfl) rfl (fun ls hl => ?_)
    refine lv_aload_n hx hb (oc_45 6 (aq_6 shX11_contract_0)) rfl (lvA0 hl) ?_
    refine lv_ifnull hx hb (oc_198 7 (aq_7 shX11_contract_0) sgw_0_11) ?_
    refine lv_aload_n hx hb (oc_42 10 (aq_10 shX11_contract_0)) rfl (lvA1 hl) ?_
    refine lv_iload_n hx hb (oc_28 11 (aq_11 shX11_contract_0)) rfl (lvA3 hl) ?_
    refine vp_callSi (runV_rxa (As := [.int v1]) (rest := []) S (q_XisText l D cI cB cZ zz qq vv bt g ad cn In Fn v1 hB) kV_RX11_155 hK hXS hS hP 0 xo_0 rfl rfl ⟨Nat.le_of_ble_eq_true rfl, Nat.le_of_ble_eq_true rfl⟩ ⟨Nat.le_of_ble_eq_true rfl, Nat.le_of_ble_eq_true rfl⟩ rfl hl.1 rfl (Nat.le_of_ble_eq_true rfl) (oc_182 12 (aq_12 shX11_contract_0) uw_0_155)) (fun r_3 h_4 => ?_)
    rcases h_4 with ⟨rfl, h_4⟩ | ⟨rfl, h_4⟩
    ·
      have h_4 : 1 ≤ v1.toInt ∧ v1.toInt ≤ 160 ∧ v1.toInt ≤ ((cn 3) : Int) := h_4
      refine lv_if_ne (tgt := 20) hx hb (oc_154 15 (aq_15 shX11_contract_0) sgw_0_5) rfl (fun _ => ?_) (fun h => absurd h cq_eq_1_0)
      obtain ⟨n0, hn0, rfl⟩ := nI_of (x := v1) (fun q => by have := Int32.lt_iff_toInt_lt.mp q; have e : (0 : Int32).toInt = 0 := rfl; omega)
      have tn0 : (nI n0).toInt = (n0 : Int) := nI_toInt hn0
      have zn0 : (nI n0).toInt.toNat = n0 := by omega
      refine lv_aload_n hx hb (oc_42 20 (aq_20 shX11_contract_0)) rfl (lvA1 hl) ?_
      refine gf_RX11_28 S hK hP 0 xo_0 (v := .ref (g 6)) rfl (oc_180 21 (aq_21 shX11_contract_0) uw_0_28) ?_
      refine lv_aload_n hx hb (oc_42 24 shX11_contract_24) rfl (lvA1 hl) ?_
      refine gf_RX11_21 S hK hP 0 xo_0 (v := .ref (g 5)) rfl (oc_180 25 (aq_1 shX11_contract_24) uw_0_21) ?_
      refine lv_iload_n hx hb (oc_28 28 (aq_4 shX11_contract_24)) rfl (lvA3 hl) ?_
      refine lv_bipush (v := 112) hx hb (oc_16 29 (aq_5 shX11_contract_24) sgb_112) kbc_112 ?_
      have hFc := free_all hD hS hA
      refine va_callq (runV_xa (As := [.ref (g 5), .int (nI n0), .int 112]) (rest := []) S (q_Rread l D cI cB cZ zz qq vv bt g ad cn In Fn n0 112 s.heap.size hB ⟨by omega, by omega⟩ (by decide) hT hC hL) kV_RX11_158 hK hXS hS hFc hP hD 3 xo_3 rfl rfl ⟨Nat.le_of_ble_eq_true rfl, Nat.le_of_ble_eq_true rfl⟩ ⟨Nat.le_of_ble_eq_true rfl, Nat.le_of_ble_eq_true rfl⟩ rfl hl.1 rfl (Nat.le_of_ble_eq_true rfl) (oc_182 31 (aq_7 shX11_contract_24) uw_0_158)) hS (fun q _ h => hFc q h) hFc (fun r4 u4 t H1 locs ht hvm h4 hB1 hz1 hk1 hS => ?_)
      obtain ⟨hP1, hD1⟩ := hB1
      rw [ht] at hP1
      obtain ⟨a4, c4, I4, F4⟩ := u4
      obtain ⟨hfc4, hIn4, hr4, h64, h414, hfa4, h404, hC4, hL4⟩ := h4
      subst hr4
      have hfm4 : Fr [3, 6, 31, 32] [30, 33] [195, 196, 197, 198, 199, 301, 302, 303, 304, 305] cn In Fn c4 I4 F4 := Fr.mo hfc4 (sbl rfl) (sbl rfl) (sbl rfl)
      have hi_4 := hIn4
      have : c4 0 = cn 0 := hfc4.1 0 (nml rfl)
      have : c4 1 = cn 1 := hfc4.1 1 (nml rfl)
      have : c4 2 = cn 2 := hfc4.1 2 (nml rfl)
      have : c4 3 = cn 3 := hfc4.1 3 (nml rfl)
      have : c4 4 = cn 4 := hfc4.1 4 (nml rfl)
      have : c4 5 = cn 5 := hfc4.1 5 (nml rfl)
      have : c4 10 = cn 10 := hfc4.1 10 (nml rfl)
      have : c4 11 = cn 11 := hfc4.1 11 (nml rfl)
      have : c4 12 = cn 12 := hfc4.1 12 (nml rfl)
      have : c4 13 = cn 13 := hfc4.1 13 (nml rfl)
      have : c4 14 = cn 14 := hfc4.1 14 (nml rfl)
      have : c4 15 = cn 15 := hfc4.1 15 (nml rfl)
      have : c4 20 = cn 20 := hfc4.1 20 (nml rfl)
      have : c4 21 = cn 21 := hfc4.1 21 (nml rfl)
      have : c4 22 = cn 22 := hfc4.1 22 (nml rfl)
      have : c4 23 = cn 23 := hfc4.1 23 (nml rfl)
      have : c4 24 = cn 24 := hfc4.1 24 (nml rfl)
      have : c4 25 = cn 25 := hfc4.1 25 (nml rfl)
      have h64 : c4 6 = cn 6 + 1 := h64
      have h414 : a4 4 1 = cn 6 := h414
      have h404 : a4 4 0 = ad 4 0 := h404
      have hfa4 : ∀ i k : Nat, i ∉ [4, 5, 60, 61, 62, 63, 64] → a4 i k = ad i k := hfa4
      have hC4 : ∀ k : Nat, k < c4 6 → ∃ n : Nat, n ≤ 12 ∧ F4 198 k = nI n := hC4
      have hL4 : ∀ k : Nat, k < c4 6 → (F4 199 k).toInt ≤ 160 := hL4
      have hT0 := hT
      have hT : (∀ k : Nat, k < c4 10 → a4 3 k < c4 6) ∧ a4 4 0 < c4 6 ∧ a4 4 1 < c4 6 := ht_new hT0 (fun k => hfa4 3 k (by decide)) h404 h414 h64 (by omega)
      have hT9 := hT.2.2
      have hC := hC4
      have hL := hL4
      have hl : lv_has ls 5 [(3, .ref (a4 10 mr_1)), (0, .ref (g 0)), (1, .int v0), (2, .int (nI n0))] := by rw [hfa4 10 mr_1 (by decide)]; exact hl
      have hP : va_P D vwCl (wX cI (D.1 99) zz g a4 c4 I4 F4) H1 := hP1
      have hD : va_D A (wX cI (D.1 99) zz g a4 c4 I4 F4) := hD1.weaken (fun _ _ _ h => hFc _ h)
      generalize H1 = H at hP hS ⊢
      refine lv_astore (lv' := [(4, .ref (a4 5 (a4 4 1))), (3, .ref (a4 10 mr_1)), (0, .ref (g 0)), (1, .int v0), (2, .int (nI n0))]) hx hb (oc_58 34 (aq_10 shX11_contract_24) ub_4) hl (ltb rfl) rfl (fun ls hl => ?_)
      refine lv_aload_n hx hb (oc_42 36 (aq_12 shX11_contract_24)) rfl (lvA2 hl) ?_
      refine gf_RX11_21 S hK hP 0 xo_0 (v := .ref (g 5)) rfl (oc_180 37 (aq_13 shX11_contract_24) uw_0_21) ?_
      have hFc := free_all hD hS hA
      refine va_callv (runV_xa (As := []) (rest := []) S (q_Xclear l D cI cB cZ zz qq vv bt g a4 c4 I4 F4  H.size hIn4) kV_RX11_162 hK hXS hS hFc hP hD 1 xo_1 rfl rfl ⟨Nat.le_of_ble_eq_true rfl, Nat.le_of_ble_eq_true rfl⟩ ⟨Nat.le_of_ble_eq_true rfl, Nat.le_of_ble_eq_true rfl⟩ rfl hl.1 rfl (Nat.le_of_ble_eq_true rfl) (oc_182 40 (aq_16 shX11_contract_24) uw_0_162)) hS (fun q _ h => hFc q h) hFc (fun u t H1 locs ht hvm wh_7 hB1 hz1 hk1 hS => ?_)
      obtain ⟨cn7, In7, Fn7⟩ := u
      obtain ⟨hP1, hD1⟩ := hB1
      rw [ht] at hP1
      have hP : va_P D vwCl (wX cI (D.1 99) zz g a4 cn7 In7 Fn7) H1 := hP1
      have hD : va_D A (wX cI (D.1 99) zz g a4 cn7 In7 Fn7) := hD1.weaken (fun _ _ _ h => hFc _ h)
      generalize H1 = H at hP hS ⊢
      have vh_7 : (fun c2 I2 F2 => Fr [3] [] [] c4 I4 F4 c2 I2 F2 ∧ CBX c2 ∧ (c2 3 = 0)) cn7 In7 Fn7 := wh_7
      obtain ⟨hfc7, hIn7, h_7⟩ := vh_7
      obtain rfl : I4 = In7 := (funext (fun k => hfc7.2.1 k List.not_mem_nil)).symm
      obtain rfl : F4 = Fn7 := (funext (fun k => hfc7.2.2 k List.not_mem_nil)).symm
      have hf7 : Fr [3, 6, 31, 32] [30, 33] [195, 196, 197, 198, 199, 301, 302, 303, 304, 305] cn In Fn cn7 I4 F4 := Fr.mo (Fr.tr hfm4 hfc7) (sbl rfl) (sbl rfl) (sbl rfl)
      have : cn7 0 = (c4 0) := hfc7.1 0 (nml rfl)
      have : cn7 1 = (c4 1) := hfc7.1 1 (nml rfl)
      have : cn7 2 = (c4 2) := hfc7.1 2 (nml rfl)
      have : cn7 4 = (c4 4) := hfc7.1 4 (nml rfl)
      have : cn7 5 = (c4 5) := hfc7.1 5 (nml rfl)
      have : cn7 10 = (c4 10) := hfc7.1 10 (nml rfl)
      have : cn7 11 = (c4 11) := hfc7.1 11 (nml rfl)
      have : cn7 12 = (c4 12) := hfc7.1 12 (nml rfl)
      have : cn7 13 = (c4 13) := hfc7.1 13 (nml rfl)
      have : cn7 14 = (c4 14) := hfc7.1 14 (nml rfl)
      have : cn7 15 = (c4 15) := hfc7.1 15 (nml rfl)
      have : cn7 20 = (c4 20) := hfc7.1 20 (nml rfl)
      have : cn7 21 = (c4 21) := hfc7.1 21 (nml rfl)
      have : cn7 22 = (c4 22) := hfc7.1 22 (nml rfl)
      have : cn7 23 = (c4 23) := hfc7.1 23 (nml rfl)
      have : cn7 24 = (c4 24) := hfc7.1 24 (nml rfl)
      have : cn7 25 = (c4 25) := hfc7.1 25 (nml rfl)
      have : cn7 6 = (c4 6) := hfc7.1 6 (nml rfl)
      have : cn7 31 = (c4 31) := hfc7.1 31 (nml rfl)
      have : cn7 32 = (c4 32) := hfc7.1 32 (nml rfl)
      refine lv_aload_n hx hb (oc_42 43 (aq_19 shX11_contract_24)) rfl (lvA2 hl) ?_
      refine gf_RX11_28 S hK hP 0 xo_0 (v := .ref (g 6)) rfl (oc_180 44 (aq_20 shX11_contract_24) uw_0_28) ?_
      refine gf_RX11_165 S hK hP 3 xo_3 (v := .int (I4 33)) rfl (oc_180 47 (aq_23 shX11_contract_24) uw_0_165) ?_
      refine lv_if_eq (tgt := 62) hx hb (oc_153 50 shX11_contract_50 sgw_0_12) rfl (fun c_8 => ?_) (fun c_8 => ?_)
      ·
        have tc_8 : ((I4 33).toInt : Int) = 0 := congrArg Int32.toInt c_8
        refine lv_aload_n hx hb (oc_45 62 (aq_12 shX11_contract_50)) rfl (lvA1 hl) ?_
        refine lv_aload hx hb (oc_25 63 (aq_13 shX11_contract_50) ub_4) (lvA0 hl) ?_
        refine pf_RX11_168 S hK hP hD hS _ (xf_0 (show mr_1 < (cn7 10) by omega)) (v := .ref (a4 5 (a4 4 1))) (Nat.le_of_ble_eq_true rfl) rfl rfl (oc_181 65 (aq_15 shX11_contract_50) uw_0_168) (fun H locs hP hD hS => ?_)
        have hP : va_P D vwCl (wX cI (D.1 99) zz g (adO a4 3 mr_1 (a4 4 1)) cn7 I4 F4) H := va_P_eq (xK3 (by omega)) hP
        have hD : va_D A (wX cI (D.1 99) zz g (adO a4 3 mr_1 (a4 4 1)) cn7 I4 F4) := va_D_eq (xK3 (by omega)) hD
        refine lv_aload hx hb (oc_25 68 (aq_18 shX11_contract_50) ub_4) (lvA0 hl) ?_
        refine gf_RX11_171 S hK hP _ (xf_7 (show (a4 4 1) < (cn7 6) by omega)) (v := .int ((F4 198) (a4 4 1))) rfl (oc_180 70 (aq_20 shX11_contract_50) uw_0_171) ?_
        have hT9 : (∀ k : Nat, k < cn7 10 → a4 3 k < cn7 6) ∧ a4 4 0 < cn7 6 ∧ a4 4 1 < cn7 6 := by
          have e6 : cn7 6 = c4 6 := by omega
          have e10 : cn7 10 = c4 10 := by omega
          rw [e6, e10]; exact hT
        have hC9 : ∀ k : Nat, k < cn7 6 → ∃ n : Nat, n ≤ 12 ∧ F4 198 k = nI n := fun k hk => hC k (by omega)
        have hL9 : ∀ k : Nat, k < cn7 6 → (F4 199 k).toInt ≤ 160 := fun k hk => hL k (by omega)
        exact W.iret (v := ((F4 198) (a4 4 1))) hx hb hr (fun t ht hW => ⟨⟨((F4 198) (a4 4 1)), ((adO a4 3 mr_1 (a4 4 1)), cn7, I4, F4), rfl, ⟨(Fr.mo hf7 (sbl rfl) (sbl rfl) (sbl rfl)), hIn7, (@ht_k3 a4 cn7 mr_1 (a4 4 1) hT9 hT9.2.2), hC9, hL9, (fun i k hi => (if_neg (fun q => hi (by rw [q.1]; decide))).trans (hfa4 i k (fun q => hi (List.mem_cons_of_mem _ q))))⟩, by rw [ht]; exact hP, hD⟩, hS.F ht⟩) hS.2.2 (oc_172 73 (aq_23 shX11_contract_50))
      ·
        have tc_8 : ((I4 33).toInt : Int) ≠ 0 := fun q => c_8 (Int32.toInt_inj.mp q)
        refine lv_aload_n hx hb (oc_42 53 (aq_3 shX11_contract_50)) rfl (lvA2 hl) ?_
        refine gf_RX11_28 S hK hP 0 xo_0 (v := .ref (g 6)) rfl (oc_180 54 (aq_4 shX11_contract_50) uw_0_28) ?_
        refine gf_RX11_165 S hK hP 3 xo_3 (v := .int (I4 33)) rfl (oc_180 57 (aq_7 shX11_contract_50) uw_0_165) ?_
        refine lv_ineg hx hb (oc_116 60 (aq_10 shX11_contract_50)) ?_
        have hT9 : (∀ k : Nat, k < cn7 10 → a4 3 k < cn7 6) ∧ a4 4 0 < cn7 6 ∧ a4 4 1 < cn7 6 := by
          have e6 : cn7 6 = c4 6 := by omega
          have e10 : cn7 10 = c4 10 := by omega
          rw [e6, e10]; exact hT
        have hC9 : ∀ k : Nat, k < cn7 6 → ∃ n : Nat, n ≤ 12 ∧ F4 198 k = nI n := fun k hk => hC k (by omega)
        have hL9 : ∀ k : Nat, k < cn7 6 → (F4 199 k).toInt ≤ 160 := fun k hk => hL k (by omega)
        exact W.iret (v := (-(I4 33))) hx hb hr (fun t ht hW => ⟨⟨(-(I4 33)), (a4, cn7, I4, F4), rfl, ⟨(Fr.mo hf7 (sbl rfl) (sbl rfl) (sbl rfl)), hIn7, hT9, hC9, hL9, (fun i k hi => hfa4 i k (fun q => hi (List.mem_cons_of_mem _ q)))⟩, by rw [ht]; exact hP, hD⟩, hS.F ht⟩) hS.2.2 (oc_172 61 (aq_11 shX11_contract_50))
    ·
      have h_4 : ¬ (1 ≤ v1.toInt ∧ v1.toInt ≤ 160 ∧ v1.toInt ≤ ((cn 3) : Int)) := h_4
      refine lv_if_ne (tgt := 20) hx hb (oc_154 15 (aq_15 shX11_contract_0) sgw_0_5) rfl (fun h => absurd h cq_eq_0_0) (fun _ => ?_)
      refine lv_iconst (v := (-1)) hx hb (oc_2 18 (aq_18 shX11_contract_0)) kic_m1 ?_
      refine W.widen (k := 6) (n := 237) (Nat.le_of_ble_eq_true rfl) (Nat.le_of_ble_eq_true rfl) ?_
      exact W.iret (v := (-1)) hx hb hr (fun t ht hW => ⟨⟨(-1), (ad, cn, In, Fn), rfl, ⟨(Fr.mo (Fr.rf (cn := cn) (In := In) (Fn := Fn)) (sbl rfl) (sbl rfl) (sbl rfl)), hB, hT, hC, hL, fun _ _ _ => rfl⟩, by rw [ht]; exact hP, hD⟩, hS.F ht⟩) hS.2.2 (oc_172 19 (aq_19 shX11_contract_0))
  ·
    refine lv_astore_nN (lv' := [(3, .null), (0, .ref (g 0)), (1, .int v0), (2, .int v1)]) hx hb (oc_78 5 (aq_5 shX11_contract_0)) rfl hl (ltb rfl) rfl (fun ls hl => ?_)
    refine lv_aload_nN hx hb (oc_45 6 (aq_6 shX11_contract_0)) rfl (lvA0 hl) ?_
    refine lv_ifnullN (tgt := 18) hx hb (oc_198 7 (aq_7 shX11_contract_0) sgw_0_11) rfl ?_
    refine lv_iconst (v := (-1)) hx hb (oc_2 18 (aq_18 shX11_contract_0)) kic_m1 ?_
    refine W.widen (k := 6) (n := 237) (Nat.le_of_ble_eq_true rfl) (Nat.le_of_ble_eq_true rfl) ?_
    exact W.iret (v := (-1)) hx hb hr (fun t ht hW => ⟨⟨(-1), (ad, cn, In, Fn), rfl, ⟨(Fr.mo (Fr.rf (cn := cn) (In := In) (Fn := Fn)) (sbl rfl) (sbl rfl) (sbl rfl)), hB, hT, hC, hL, fun _ _ _ => rfl⟩, by rw [ht]; exact hP, hD⟩, hS.F ht⟩) hS.2.2 (oc_172 19 (aq_19 shX11_contract_0))
set_option maxRecDepth 100000 in
set_option maxHeartbeats 4000000 in
theorem q_Xlaw (l : Launch) (D : va_G) (cI cB cZ : ClassId) (zz qq vv : Nat) (bt : Nat → Int32) (g : Nat → Nat) (ad : Nat → Nat → Nat) (cn : Nat → Nat) (In : Nat → Int32) (Fn : Nat → Nat → Int32) (v0 : Int32) (sz : Nat) (hB : CBX cn) (hT : (∀ k : Nat, k < cn 10 → ad 3 k < cn 6) ∧ ad 4 0 < cn 6 ∧ ad 4 1 < cn 6) (hC : ∀ k : Nat, k < cn 6 → ∃ n : Nat, n ≤ 12 ∧ Fn 198 k = nI n) (hL : ∀ k : Nat, k < cn 6 → (Fn 199 k).toInt ≤ 160) : Met l yX11_law (CWS yX11_law cX11_law 3 (some .int)) (RM 27 6 237) (PBx [.ref (g 0), .int v0] D cI cB cZ zz qq vv bt (wX cI (D.1 99) zz g ad cn In Fn) sz) (va_Qi (fun (r : Int32) (u : (Nat → Nat → Nat) × (Nat → Nat) × (Nat → Int32) × (Nat → Nat → Int32)) => (fun r a2 c2 I2 F2 => Fr [3, 6, 31, 32] [30, 33] [195, 196, 197, 198, 199, 301, 302, 303, 304, 305] cn In Fn c2 I2 F2 ∧ CBX c2 ∧ ((∀ k : Nat, k < c2 10 → a2 3 k < c2 6) ∧ a2 4 0 < c2 6 ∧ a2 4 1 < c2 6) ∧ (∀ k : Nat, k < c2 6 → ∃ n : Nat, n ≤ 12 ∧ F2 198 k = nI n) ∧ (∀ k : Nat, k < c2 6 → (F2 199 k).toInt ≤ 160) ∧ ∀ i k : Nat, i ∉ [3, 4, 5, 60, 61, 62, 63, 64] → a2 i k = ad i k) r u.1 u.2.1 u.2.2.1 u.2.2.2) (fun (u : (Nat → Nat → Nat) × (Nat → Nat) × (Nat → Int32) × (Nat → Nat → Int32)) (t : State) => va_P D vwCl (wX cI (D.1 99) zz g u.1 u.2.1 u.2.2.1 u.2.2.2) t.heap ∧ va_D (va_A (wX cI (D.1 99) zz g ad cn In Fn) sz) (wX cI (D.1 99) zz g u.1 u.2.1 u.2.2.1 u.2.2.2)) (va_A (wX cI (D.1 99) zz g ad cn In Fn) sz)) 6 237 (va_A (wX cI (D.1 99) zz g ad cn In Fn) sz) := by
  refine en_x (fun A => (va_Qi (fun (r : Int32) (u : (Nat → Nat → Nat) × (Nat → Nat) × (Nat → Int32) × (Nat → Nat → Int32)) => (fun (r : Int32) (a2 : Nat → Nat → Nat) (c2 : Nat → Nat) (I2 : Nat → Int32) (F2 : Nat → Nat → Int32) => Fr [3, 6, 31, 32] [30, 33] [195, 196, 197, 198, 199, 301, 302, 303, 304, 305] cn In Fn c2 I2 F2 ∧ CBX c2 ∧ ((∀ k : Nat, k < c2 10 → a2 3 k < c2 6) ∧ a2 4 0 < c2 6 ∧ a2 4 1 < c2 6) ∧ (∀ k : Nat, k < c2 6 → ∃ n : Nat, n ≤ 12 ∧ F2 198 k = nI n) ∧ (∀ k : Nat, k < c2 6 → (F2 199 k).toInt ≤ 160) ∧ ∀ i k : Nat, i ∉ [3, 4, 5, 60, 61, 62, 63, 64] → a2 i k = ad i k) r u.1 u.2.1 u.2.2.1 u.2.2.2) (fun (u : (Nat → Nat → Nat) × (Nat → Nat) × (Nat → Int32) × (Nat → Nat → Int32)) (t : State) => va_P D vwCl (wX cI (D.1 99) zz g u.1 u.2.1 u.2.2.1 u.2.2.2) t.heap ∧ va_D A (wX cI (D.1 99) zz g u.1 u.2.1 u.2.2.1 u.2.2.2)) A)) rfl rfl pn_RX11 (Nat.le_of_ble_eq_true rfl) (fun p e s m below meth c A hx hb hml hown S hr hlocks hnm hA hP hK hD hXS hS ls hl => ?_)
  have hl : lv_has ls 3 [(0, .ref (g 0)), (1, .int v0)] := hl
  refine lv_aload_n hx hb (oc_42 0 shX11_law_0) rfl (lvA0 hl) ?_
  refine lv_iload_n hx hb (oc_27 1 (aq_1 shX11_law_0)) rfl (lvA1 hl) ?_
  refine vp_callSi (runV_rxa (As := [.int v0]) (rest := []) S (q_XisText l D cI cB cZ zz qq vv bt g ad cn In Fn v0 hB) kV_RX11_155 hK hXS hS hP 0 xo_0 rfl rfl ⟨Nat.le_of_ble_eq_true rfl, Nat.le_of_ble_eq_true rfl⟩ ⟨Nat.le_of_ble_eq_true rfl, Nat.le_of_ble_eq_true rfl⟩ rfl hl.1 rfl (Nat.le_of_ble_eq_true rfl) (oc_182 2 (aq_2 shX11_law_0) uw_0_155)) (fun r_21 h_22 => ?_)
  rcases h_22 with ⟨rfl, h_22⟩ | ⟨rfl, h_22⟩
  ·
    have h_22 : 1 ≤ v0.toInt ∧ v0.toInt ≤ 160 ∧ v0.toInt ≤ ((cn 3) : Int) := h_22
    refine lv_if_ne (tgt := 10) hx hb (oc_154 5 (aq_5 shX11_law_0) sgw_0_5) rfl (fun _ => ?_) (fun h => absurd h cq_eq_1_0)
    obtain ⟨n0, hn0, rfl⟩ := nI_of (x := v0) (fun q => by have := Int32.lt_iff_toInt_lt.mp q; have e : (0 : Int32).toInt = 0 := rfl; omega)
    have tn0 : (nI n0).toInt = (n0 : Int) := nI_toInt hn0
    have zn0 : (nI n0).toInt.toNat = n0 := by omega
    refine lv_aload_n hx hb (oc_42 10 (aq_10 shX11_law_0)) rfl (lvA0 hl) ?_
    refine gf_RX11_28 S hK hP 0 xo_0 (v := .ref (g 6)) rfl (oc_180 11 (aq_11 shX11_law_0) uw_0_28) ?_
    refine lv_aload_n hx hb (oc_42 14 (aq_14 shX11_law_0)) rfl (lvA0 hl) ?_
    refine gf_RX11_21 S hK hP 0 xo_0 (v := .ref (g 5)) rfl (oc_180 15 (aq_15 shX11_law_0) uw_0_21) ?_
    refine lv_iload_n hx hb (oc_27 18 (aq_18 shX11_law_0)) rfl (lvA1 hl) ?_
    refine lv_bipush (v := 108) hx hb (oc_16 19 (aq_19 shX11_law_0) sgb_108) kbc_108 ?_
    have hFc := free_all hD hS hA
    refine va_callq (runV_xa (As := [.ref (g 5), .int (nI n0), .int 108]) (rest := []) S (q_Rread l D cI cB cZ zz qq vv bt g ad cn In Fn n0 108 s.heap.size hB ⟨by omega, by omega⟩ (by decide) hT hC hL) kV_RX11_158 hK hXS hS hFc hP hD 3 xo_3 rfl rfl ⟨Nat.le_of_ble_eq_true rfl, Nat.le_of_ble_eq_true rfl⟩ ⟨Nat.le_of_ble_eq_true rfl, Nat.le_of_ble_eq_true rfl⟩ rfl hl.1 rfl (Nat.le_of_ble_eq_true rfl) (oc_182 21 (aq_21 shX11_law_0) uw_0_158)) hS (fun q _ h => hFc q h) hFc (fun r22 u22 t H1 locs ht hvm h22 hB1 hz1 hk1 hS => ?_)
    obtain ⟨hP1, hD1⟩ := hB1
    rw [ht] at hP1
    obtain ⟨a22, c22, I22, F22⟩ := u22
    obtain ⟨hfc22, hIn22, hr22, h622, h4122, hfa22, h4022, hC22, hL22⟩ := h22
    subst hr22
    have hfm22 : Fr [3, 6, 31, 32] [30, 33] [195, 196, 197, 198, 199, 301, 302, 303, 304, 305] cn In Fn c22 I22 F22 := Fr.mo hfc22 (sbl rfl) (sbl rfl) (sbl rfl)
    have hi_22 := hIn22
    have : c22 0 = cn 0 := hfc22.1 0 (nml rfl)
    have : c22 1 = cn 1 := hfc22.1 1 (nml rfl)
    have : c22 2 = cn 2 := hfc22.1 2 (nml rfl)
    have : c22 3 = cn 3 := hfc22.1 3 (nml rfl)
    have : c22 4 = cn 4 := hfc22.1 4 (nml rfl)
    have : c22 5 = cn 5 := hfc22.1 5 (nml rfl)
    have : c22 10 = cn 10 := hfc22.1 10 (nml rfl)
    have : c22 11 = cn 11 := hfc22.1 11 (nml rfl)
    have : c22 12 = cn 12 := hfc22.1 12 (nml rfl)
    have : c22 13 = cn 13 := hfc22.1 13 (nml rfl)
    have : c22 14 = cn 14 := hfc22.1 14 (nml rfl)
    have : c22 15 = cn 15 := hfc22.1 15 (nml rfl)
    have : c22 20 = cn 20 := hfc22.1 20 (nml rfl)
    have : c22 21 = cn 21 := hfc22.1 21 (nml rfl)
    have : c22 22 = cn 22 := hfc22.1 22 (nml rfl)
    have : c22 23 = cn 23 := hfc22.1 23 (nml rfl)
    have : c22 24 = cn 24 := hfc22.1 24 (nml rfl)
    have : c22 25 = cn 25 := hfc22.1 25 (nml rfl)
    have h622 : c22 6 = cn 6 + 1 := h622
    have h4122 : a22 4 1 = cn 6 := h4122
    have h4022 : a22 4 0 = ad 4 0 := h4022
    have hfa22 : ∀ i k : Nat, i ∉ [4, 5, 60, 61, 62, 63, 64] → a22 i k = ad i k := hfa22
    have hC22 : ∀ k : Nat, k < c22 6 → ∃ n : Nat, n ≤ 12 ∧ F22 198 k = nI n := hC22
    have hL22 : ∀ k : Nat, k < c22 6 → (F22 199 k).toInt ≤ 160 := hL22
    have hT0 := hT
    have hT : (∀ k : Nat, k < c22 10 → a22 3 k < c22 6) ∧ a22 4 0 < c22 6 ∧ a22 4 1 < c22 6 := ht_new hT0 (fun k => hfa22 3 k (by decide)) h4022 h4122 h622 (by omega)
    have hT9 := hT.2.2
    have hC := hC22
    have hL := hL22
    have hP : va_P D vwCl (wX cI (D.1 99) zz g a22 c22 I22 F22) H1 := hP1
    have hD : va_D A (wX cI (D.1 99) zz g a22 c22 I22 F22) := hD1.weaken (fun _ _ _ h => hFc _ h)
    generalize H1 = H at hP hS ⊢
    refine lv_astore_n (lv' := [(2, .ref (a22 5 (a22 4 1))), (0, .ref (g 0)), (1, .int (nI n0))]) hx hb (oc_77 24 shX11_law_24) rfl hl (ltb rfl) rfl (fun ls hl => ?_)
    refine lv_aload_n hx hb (oc_42 25 (aq_1 shX11_law_24)) rfl (lvA1 hl) ?_
    refine gf_RX11_21 S hK hP 0 xo_0 (v := .ref (g 5)) rfl (oc_180 26 (aq_2 shX11_law_24) uw_0_21) ?_
    have hFc := free_all hD hS hA
    refine va_callv (runV_xa (As := []) (rest := []) S (q_Xclear l D cI cB cZ zz qq vv bt g a22 c22 I22 F22  H.size hIn22) kV_RX11_162 hK hXS hS hFc hP hD 1 xo_1 rfl rfl ⟨Nat.le_of_ble_eq_true rfl, Nat.le_of_ble_eq_true rfl⟩ ⟨Nat.le_of_ble_eq_true rfl, Nat.le_of_ble_eq_true rfl⟩ rfl hl.1 rfl (Nat.le_of_ble_eq_true rfl) (oc_182 29 (aq_5 shX11_law_24) uw_0_162)) hS (fun q _ h => hFc q h) hFc (fun u t H1 locs ht hvm wh_25 hB1 hz1 hk1 hS => ?_)
    obtain ⟨cn25, In25, Fn25⟩ := u
    obtain ⟨hP1, hD1⟩ := hB1
    rw [ht] at hP1
    have hP : va_P D vwCl (wX cI (D.1 99) zz g a22 cn25 In25 Fn25) H1 := hP1
    have hD : va_D A (wX cI (D.1 99) zz g a22 cn25 In25 Fn25) := hD1.weaken (fun _ _ _ h => hFc _ h)
    generalize H1 = H at hP hS ⊢
    have vh_25 : (fun c2 I2 F2 => Fr [3] [] [] c22 I22 F22 c2 I2 F2 ∧ CBX c2 ∧ (c2 3 = 0)) cn25 In25 Fn25 := wh_25
    obtain ⟨hfc25, hIn25, h_25⟩ := vh_25
    obtain rfl : I22 = In25 := (funext (fun k => hfc25.2.1 k List.not_mem_nil)).symm
    obtain rfl : F22 = Fn25 := (funext (fun k => hfc25.2.2 k List.not_mem_nil)).symm
    have hf25 : Fr [3, 6, 31, 32] [30, 33] [195, 196, 197, 198, 199, 301, 302, 303, 304, 305] cn In Fn cn25 I22 F22 := Fr.mo (Fr.tr hfm22 hfc25) (sbl rfl) (sbl rfl) (sbl rfl)
    have : cn25 0 = (c22 0) := hfc25.1 0 (nml rfl)
    have : cn25 1 = (c22 1) := hfc25.1 1 (nml rfl)
    have : cn25 2 = (c22 2) := hfc25.1 2 (nml rfl)
    have : cn25 4 = (c22 4) := hfc25.1 4 (nml rfl)
    have : cn25 5 = (c22 5) := hfc25.1 5 (nml rfl)
    have : cn25 10 = (c22 10) := hfc25.1 10 (nml rfl)
    have : cn25 11 = (c22 11) := hfc25.1 11 (nml rfl)
    have : cn25 12 = (c22 12) := hfc25.1 12 (nml rfl)
    have : cn25 13 = (c22 13) := hfc25.1 13 (nml rfl)
    have : cn25 14 = (c22 14) := hfc25.1 14 (nml rfl)
    have : cn25 15 = (c22 15) := hfc25.1 15 (nml rfl)
    have : cn25 20 = (c22 20) := hfc25.1 20 (nml rfl)
    have : cn25 21 = (c22 21) := hfc25.1 21 (nml rfl)
    have : cn25 22 = (c22 22) := hfc25.1 22 (nml rfl)
    have : cn25 23 = (c22 23) := hfc25.1 23 (nml rfl)
    have : cn25 24 = (c22 24) := hfc25.1 24 (nml rfl)
    have : cn25 25 = (c22 25) := hfc25.1 25 (nml rfl)
    have : cn25 6 = (c22 6) := hfc25.1 6 (nml rfl)
    have : cn25 31 = (c22 31) := hfc25.1 31 (nml rfl)
    have : cn25 32 = (c22 32) := hfc25.1 32 (nml rfl)
    refine lv_aload_n hx hb (oc_42 32 (aq_8 shX11_law_24)) rfl (lvA1 hl) ?_
    refine gf_RX11_28 S hK hP 0 xo_0 (v := .ref (g 6)) rfl (oc_180 33 (aq_9 shX11_law_24) uw_0_28) ?_
    refine gf_RX11_165 S hK hP 3 xo_3 (v := .int (I22 33)) rfl (oc_180 36 (aq_12 shX11_law_24) uw_0_165) ?_
    refine lv_if_eq (tgt := 51) hx hb (oc_153 39 (aq_15 shX11_law_24) sgw_0_12) rfl (fun c_26 => ?_) (fun c_26 => ?_)
    ·
      have tc_26 : ((I22 33).toInt : Int) = 0 := congrArg Int32.toInt c_26
      refine lv_aload_n hx hb (oc_42 51 (aq_2 shX11_law_49)) rfl (lvA1 hl) ?_
      refine lv_aload_n hx hb (oc_44 52 (aq_3 shX11_law_49)) rfl (lvA0 hl) ?_
      refine pf_RX11_12 S hK hP hD hS 0 xo_0 (v := .ref (a22 5 (a22 4 1))) (Nat.le_of_ble_eq_true rfl) rfl rfl (oc_181 53 (aq_4 shX11_law_49) uw_0_12) (fun H locs hP hD hS => ?_)
      have hP : va_P D vwCl (wX cI (D.1 99) zz g (adO a22 4 0 (a22 4 1)) cn25 I22 F22) H := va_P_eq xH40 hP
      have hD : va_D A (wX cI (D.1 99) zz g (adO a22 4 0 (a22 4 1)) cn25 I22 F22) := va_D_eq xH40 hD
      refine lv_aload_n hx hb (oc_44 56 (aq_7 shX11_law_49)) rfl (lvA0 hl) ?_
      refine gf_RX11_171 S hK hP _ (xf_7 (show (a22 4 1) < (cn25 6) by omega)) (v := .int ((F22 198) (a22 4 1))) rfl (oc_180 57 (aq_8 shX11_law_49) uw_0_171) ?_
      have hT9 : (∀ k : Nat, k < cn25 10 → a22 3 k < cn25 6) ∧ a22 4 0 < cn25 6 ∧ a22 4 1 < cn25 6 := by
        have e6 : cn25 6 = c22 6 := by omega
        have e10 : cn25 10 = c22 10 := by omega
        rw [e6, e10]; exact hT
      have hC9 : ∀ k : Nat, k < cn25 6 → ∃ n : Nat, n ≤ 12 ∧ F22 198 k = nI n := fun k hk => hC k (by omega)
      have hL9 : ∀ k : Nat, k < cn25 6 → (F22 199 k).toInt ≤ 160 := fun k hk => hL k (by omega)
      exact W.iret (v := ((F22 198) (a22 4 1))) hx hb hr (fun t ht hW => ⟨⟨((F22 198) (a22 4 1)), ((adO a22 4 0 (a22 4 1)), cn25, I22, F22), rfl, ⟨(Fr.mo hf25 (sbl rfl) (sbl rfl) (sbl rfl)), hIn25, (@ht_l a22 cn25 (a22 4 1) hT9 hT9.2.2), hC9, hL9, (fun i k hi => (if_neg (fun q => hi (by rw [q.1]; decide))).trans (hfa22 i k (fun q => hi (List.mem_cons_of_mem _ q))))⟩, by rw [ht]; exact hP, hD⟩, hS.F ht⟩) hS.2.2 (oc_172 60 (aq_11 shX11_law_49))
    ·
      have tc_26 : ((I22 33).toInt : Int) ≠ 0 := fun q => c_26 (Int32.toInt_inj.mp q)
      refine lv_aload_n hx hb (oc_42 42 (aq_18 shX11_law_24)) rfl (lvA1 hl) ?_
      refine gf_RX11_28 S hK hP 0 xo_0 (v := .ref (g 6)) rfl (oc_180 43 (aq_19 shX11_law_24) uw_0_28) ?_
      refine gf_RX11_165 S hK hP 3 xo_3 (v := .int (I22 33)) rfl (oc_180 46 (aq_22 shX11_law_24) uw_0_165) ?_
      refine lv_ineg hx hb (oc_116 49 shX11_law_49) ?_
      have hT9 : (∀ k : Nat, k < cn25 10 → a22 3 k < cn25 6) ∧ a22 4 0 < cn25 6 ∧ a22 4 1 < cn25 6 := by
        have e6 : cn25 6 = c22 6 := by omega
        have e10 : cn25 10 = c22 10 := by omega
        rw [e6, e10]; exact hT
      have hC9 : ∀ k : Nat, k < cn25 6 → ∃ n : Nat, n ≤ 12 ∧ F22 198 k = nI n := fun k hk => hC k (by omega)
      have hL9 : ∀ k : Nat, k < cn25 6 → (F22 199 k).toInt ≤ 160 := fun k hk => hL k (by omega)
      exact W.iret (v := (-(I22 33))) hx hb hr (fun t ht hW => ⟨⟨(-(I22 33)), (a22, cn25, I22, F22), rfl, ⟨(Fr.mo hf25 (sbl rfl) (sbl rfl) (sbl rfl)), hIn25, hT9, hC9, hL9, (fun i k hi => hfa22 i k (fun q => hi (List.mem_cons_of_mem _ q)))⟩, by rw [ht]; exact hP, hD⟩, hS.F ht⟩) hS.2.2 (oc_172 50 (aq_1 shX11_law_49))
  ·
    have h_22 : ¬ (1 ≤ v0.toInt ∧ v0.toInt ≤ 160 ∧ v0.toInt ≤ ((cn 3) : Int)) := h_22
    refine lv_if_ne (tgt := 10) hx hb (oc_154 5 (aq_5 shX11_law_0) sgw_0_5) rfl (fun h => absurd h cq_eq_0_0) (fun _ => ?_)
    refine lv_iconst (v := (-1)) hx hb (oc_2 8 (aq_8 shX11_law_0)) kic_m1 ?_
    refine W.widen (k := 6) (n := 237) (Nat.le_of_ble_eq_true rfl) (Nat.le_of_ble_eq_true rfl) ?_
    exact W.iret (v := (-1)) hx hb hr (fun t ht hW => ⟨⟨(-1), (ad, cn, In, Fn), rfl, ⟨(Fr.mo (Fr.rf (cn := cn) (In := In) (Fn := Fn)) (sbl rfl) (sbl rfl) (sbl rfl)), hB, hT, hC, hL, fun _ _ _ => rfl⟩, by rw [ht]; exact hP, hD⟩, hS.F ht⟩) hS.2.2 (oc_172 9 (aq_9 shX11_law_0))
end
