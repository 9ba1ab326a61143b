section
/-- out of sight -/
def Hid (p : Prop) : Prop := p
theorem Hid.u {p : Prop} (h : Hid p) : p := h
theorem Hid.i {p : Prop} (h : p) : Hid p := h
/-- the reference's object: counts, other numbers, arrays by the address function g -/
def oMG (g : Nat → Nat) (cn : Nat → Nat) (In : Nat → Int32) : List Value := [.int (nI (cn 0)), .int (nI (cn 1)), .int (nI (cn 2)), .ref (g 3), .ref (g 4), .ref (g 5), .ref (g 6), .ref (g 7), .ref (g 8), .ref (g 9), .ref (g 10), .ref (g 11), .ref (g 12), .ref (g 13), .ref (g 14), .ref (g 15), .ref (g 16), .ref (g 17), .int (nI (cn 18)), .int (nI (cn 19)), .int (nI (cn 20)), .int (In 21), .int (In 22), .int (nI (cn 23)), .int (nI (cn 24)), .int (nI (cn 25)), .int (nI (cn 26)), .ref (g 27), .ref (g 28), .ref (g 29), .ref (g 30), .ref (g 31), .ref (g 32), .ref (g 33), .ref (g 34), .ref (g 35), .ref (g 36), .ref (g 37), .ref (g 38), .ref (g 39), .ref (g 40), .ref (g 41), .ref (g 42), .ref (g 43), .int (nI (cn 44)), .int (In 45), .int (nI (cn 46)), .ref (g 47), .ref (g 48), .ref (g 49), .ref (g 50), .ref (g 51), .ref (g 52), .ref (g 53), .int (In 54), .int (In 55), .int (In 56), .int (nI (cn 57)), .int (nI (cn 58)), .ref (g 59), .ref (g 60), .ref (g 61), .int (nI (cn 62)), .int (nI (cn 63)), .ref (g 64), .ref (g 65), .ref (g 66), .ref (g 67), .ref (g 68), .ref (g 69), .ref (g 70), .int (In 71), .int (In 72), .int (In 73), .ref (g 74), .int (nI (cn 75)), .ref (g 76), .ref (g 77), .ref (g 78), .ref (g 79), .ref (g 80), .ref (g 81), .ref (g 82), .int (nI (cn 83)), .ref (g 84), .ref (g 85), .ref (g 86), .ref (g 87), .ref (g 88), .ref (g 89), .ref (g 90)]
/-- the reference's whole world -/
def wM (cI cB cZ : ClassId) (g : Nat → Nat) (cn : Nat → Nat) (In : Nat → Int32) (Fn : Nat → Nat → Int32) : va_W := [(g 100, .inr (13, oMG g cn In)), (g 3, .inl (cI, 10, .inl (Fn 3))), (g 4, .inl (cI, 10, .inl (Fn 4))), (g 5, .inl (cI, 10, .inl (Fn 5))), (g 6, .inl (cI, 10, .inl (Fn 6))), (g 7, .inl (cI, 10, .inl (Fn 7))), (g 8, .inl (cI, 60, .inl (Fn 8))), (g 9, .inl (cI, 60, .inl (Fn 9))), (g 10, .inl (cI, 60, .inl (Fn 10))), (g 11, .inl (cI, 60, .inl (Fn 11))), (g 12, .inl (cI, 60, .inl (Fn 12))), (g 13, .inl (cI, 60, .inl (Fn 13))), (g 14, .inl (cI, 60, .inl (Fn 14))), (g 15, .inl (cI, 60, .inl (Fn 15))), (g 16, .inl (cI, 60, .inl (Fn 16))), (g 17, .inl (cB, 200, .inl (Fn 17))), (g 27, .inl (cI, 180, .inl (Fn 27))), (g 28, .inl (cI, 180, .inl (Fn 28))), (g 29, .inl (cI, 12, .inl (Fn 29))), (g 30, .inl (cI, 12, .inl (Fn 30))), (g 31, .inl (cI, 12, .inl (Fn 31))), (g 32, .inl (cI, 1980, .inl (Fn 32))), (g 33, .inl (cI, 11, .inl (Fn 33))), (g 34, .inl (cI, 132, .inl (Fn 34))), (g 35, .inl (cI, 132, .inl (Fn 35))), (g 36, .inl (cI, 132, .inl (Fn 36))), (g 37, .inl (cI, 180, .inl (Fn 37))), (g 38, .inl (cI, 11, .inl (Fn 38))), (g 39, .inl (cI, 58, .inl (Fn 39))), (g 40, .inl (cI, 10, .inl (Fn 40))), (g 41, .inl (cI, 400, .inl (Fn 41))), (g 42, .inl (cI, 10, .inl (Fn 42))), (g 43, .inl (cI, 2048, .inl (Fn 43))), (g 47, .inl (cI, 3, .inl (Fn 47))), (g 48, .inl (cI, 3, .inl (Fn 48))), (g 49, .inl (cI, 3, .inl (Fn 49))), (g 50, .inl (cI, 6, .inl (Fn 50))), (g 51, .inl (cI, 6, .inl (Fn 51))), (g 52, .inl (cI, 10, .inl (Fn 52))), (g 53, .inl (cZ, 1200, .inl (Fn 53))), (g 59, .inl (cI, 60, .inl (Fn 59))), (g 60, .inl (cI, 60, .inl (Fn 60))), (g 61, .inl (cI, 60, .inl (Fn 61))), (g 64, .inl (cI, 10, .inl (Fn 64))), (g 65, .inl (cI, 10, .inl (Fn 65))), (g 66, .inl (cI, 40, .inl (Fn 66))), (g 67, .inl (cI, 40, .inl (Fn 67))), (g 68, .inl (cI, 40, .inl (Fn 68))), (g 69, .inl (cI, 40, .inl (Fn 69))), (g 70, .inl (cI, 40, .inl (Fn 70))), (g 74, .inl (cI, 12, .inl (Fn 74))), (g 76, .inl (cI, 10, .inl (Fn 76))), (g 77, .inl (cI, 232, .inl (Fn 77))), (g 78, .inl (cI, 10, .inl (Fn 78))), (g 79, .inl (cI, 10, .inl (Fn 79))), (g 80, .inl (cI, 120, .inl (Fn 80))), (g 81, .inl (cI, 40, .inl (Fn 81))), (g 82, .inl (cI, 40, .inl (Fn 82))), (g 84, .inl (cI, 10, .inl (Fn 84))), (g 85, .inl (cI, 10, .inl (Fn 85))), (g 86, .inl (cI, 24, .inl (Fn 86))), (g 87, .inl (cI, 10, .inl (Fn 87))), (g 88, .inl (cI, 10, .inl (Fn 88))), (g 89, .inl (cI, 10, .inl (Fn 89))), (g 90, .inl (cI, 400, .inl (Fn 90)))]
/-- lists of numbers, looked through -/
def meml (k : Nat) : List Nat → Bool
  | [] => false
  | a :: l => cond (Nat.beq k a) true (meml k l)
def subl : List Nat → List Nat → Bool
  | [], _ => true
  | a :: l, m => cond (meml a m) (subl l m) false
theorem meml_in {k : Nat} : ∀ {l : List Nat}, meml k l = true → k ∈ l
  | [], h => by cases h
  | a :: l, h => by
    unfold meml at h
    cases e : Nat.beq k a with
    | true => rw [Nat.eq_of_beq_eq_true e]; exact List.mem_cons_self
    | false => rw [e] at h; exact List.mem_cons_of_mem _ (meml_in h)
theorem nml {k : Nat} : ∀ {l : List Nat}, meml k l = false → k ∉ l
  | [], _ => List.not_mem_nil
  | a :: l, h => fun q => by
    unfold meml at h
    cases e : Nat.beq k a with
    | true => rw [e] at h; cases h
    | false =>
      rw [e] at h
      rcases List.mem_cons.mp q with q | q
      · subst q
        rw [Nat.beq_refl] at e
        cases e
      · exact nml h q
theorem sbl : ∀ {l m : List Nat}, subl l m = true → ∀ k ∈ l, k ∈ m
  | [], _, _, _, q => absurd q List.not_mem_nil
  | a :: l, m, h, k, q => by
    unfold subl at h
    cases e : meml a m with
    | false => rw [e] at h; cases h
    | true =>
      rw [e] at h
      rcases List.mem_cons.mp q with q | q
      · subst q
        exact meml_in e
      · exact sbl h k q
theorem ltb {a b : Nat} (h : Nat.ble (a + 1) b = true) : a < b := Nat.le_of_ble_eq_true h
/-- what a run of calls has changed at most -/
def Fr (lc li lf : List Nat) (cn : Nat → Nat) (In : Nat → Int32) (Fn : Nat → Nat → Int32) (c2 : Nat → Nat) (I2 : Nat → Int32) (F2 : Nat → Nat → Int32) : Prop := (∀ k, k ∉ lc → c2 k = cn k) ∧ (∀ k, k ∉ li → I2 k = In k) ∧ ∀ k, k ∉ lf → F2 k = Fn k
section FRAMES
variable {lc li lf lc2 li2 lf2 : List Nat} {cn c2 c3 : Nat → Nat} {In I2 I3 : Nat → Int32} {Fn F2 F3 : Nat → Nat → Int32}
theorem Fr.rf : Fr [] [] [] cn In Fn cn In Fn := ⟨fun _ _ => rfl, fun _ _ => rfl, fun _ _ => rfl⟩
theorem Fr.mo (h : Fr lc li lf cn In Fn c2 I2 F2) (a : ∀ k ∈ lc, k ∈ lc2) (b : ∀ k ∈ li, k ∈ li2) (d : ∀ k ∈ lf, k ∈ lf2) : Fr lc2 li2 lf2 cn In Fn c2 I2 F2 := ⟨fun k hk => h.1 k (fun q => hk (a k q)), fun k hk => h.2.1 k (fun q => hk (b k q)), fun k hk => h.2.2 k (fun q => hk (d k q))⟩
theorem Fr.tr (h : Fr lc li lf cn In Fn c2 I2 F2) (h2 : Fr lc2 li2 lf2 c2 I2 F2 c3 I3 F3) : Fr (lc ++ lc2) (li ++ li2) (lf ++ lf2) cn In Fn c3 I3 F3 := ⟨fun k hk => (h2.1 k (fun q => hk (List.mem_append_right _ q))).trans (h.1 k (fun q => hk (List.mem_append_left _ q))), fun k hk => (h2.2.1 k (fun q => hk (List.mem_append_right _ q))).trans (h.2.1 k (fun q => hk (List.mem_append_left _ q))), fun k hk => (h2.2.2 k (fun q => hk (List.mem_append_right _ q))).trans (h.2.2 k (fun q => hk (List.mem_append_left _ q)))⟩
theorem Fr.c (j : Nat) {v : Nat} (h : Fr lc li lf cn In Fn c2 I2 F2) : Fr (j :: lc) li lf cn In Fn (va_up c2 j v) I2 F2 := ⟨fun k hk => (va_up_ne _ _ (show k ≠ j from fun q => hk (q ▸ List.mem_cons_self))).trans (h.1 k (fun q => hk (List.mem_cons_of_mem _ q))), h.2.1, h.2.2⟩
theorem Fr.i (j : Nat) {v : Int32} (h : Fr lc li lf cn In Fn c2 I2 F2) : Fr lc (j :: li) lf cn In Fn c2 (va_up I2 j v) F2 := ⟨h.1, fun k hk => (va_up_ne _ _ (show k ≠ j from fun q => hk (q ▸ List.mem_cons_self))).trans (h.2.1 k (fun q => hk (List.mem_cons_of_mem _ q))), h.2.2⟩
theorem Fr.f (j : Nat) {v : Nat → Int32} (h : Fr lc li lf cn In Fn c2 I2 F2) : Fr lc li (j :: lf) cn In Fn c2 I2 (va_up F2 j v) := ⟨h.1, h.2.1, fun k hk => (va_up_ne _ _ (show k ≠ j from fun q => hk (q ▸ List.mem_cons_self))).trans (h.2.2 k (fun q => hk (List.mem_cons_of_mem _ q)))⟩
end FRAMES
/-- the counts' bounds -/
abbrev CB (cn : Nat → Nat) : Prop := cn 0 ≤ 399 ∧ cn 1 ≤ 10 ∧ cn 2 ≤ 60 ∧ cn 46 ≤ 3 ∧ cn 57 ≤ 20 ∧ cn 58 ≤ 60 ∧ cn 62 ≤ 10 ∧ cn 63 ≤ 40 ∧ cn 75 ≤ 40 ∧ cn 83 ≤ 10
/-- the litres of the loads below n that are in a set -/
def mixN (f : Nat → Int32) (set : Int32) : Nat → Nat
  | 0 => 0
  | n + 1 => if (set >>> (nI n &&& 31)) &&& 1 = 0 then mixN f set n else mixN f set n + (f n).toInt.toNat
/-- a text's code at place k, with the stack's height ht at each place -/
def StOK (C : Nat → Int32) (ht : Nat → Nat) (base b k : Nat) : Prop := ∃ op v : Nat, C k = nI (op * 1048576 + v) ∧ v < 1048576 ∧ ht k ≤ 180 ∧ ((op = 0 ∧ ht k < 180 ∧ ht (k + 1) = ht k + 1) ∨ (op = 1 ∧ v < 11 ∧ ht k < 180 ∧ ht (k + 1) = ht k + 1) ∨ (op = 10 ∧ 1 ≤ ht k ∧ ht (k + 1) = ht k) ∨ ((op = 11 ∨ op = 12) ∧ 1 ≤ ht k ∧ ht (k + 1) + 1 = ht k ∧ k < base + v ∧ base + v ≤ b ∧ ht (base + v) = ht k) ∨ (2 ≤ op ∧ op ≤ 9 ∧ 2 ≤ ht k ∧ ht (k + 1) + 1 = ht k))
def SegOK (C : Nat → Int32) (base a b : Nat) : Prop := ∃ ht : Nat → Nat, ht a = 0 ∧ ∀ k : Nat, a ≤ k → k < b → StOK C ht base b k
/-- a clause's three places -/
def ClOK (C : Nat → Int32) (base : Nat) (x y z : Int32) : Prop := ∃ a h b : Nat, x = nI a ∧ y = nI h ∧ z = nI b ∧ base ≤ a ∧ a ≤ h ∧ h ≤ b ∧ h < base + 180 ∧ b ≤ base + 180 ∧ SegOK C base a h ∧ SegOK C base h b
/-- the reference's standing facts -/
def IM (cn : Nat → Nat) (Fn : Nat → Nat → Int32) : Prop := (CB cn) ∧ (∀ k : Nat, k < 10 → 0 ≤ (Fn 7 k).toInt ∧ (Fn 7 k).toInt ≤ 399) ∧ (∀ i : Nat, i < cn 2 → ∃ n : Nat, n < cn 1 ∧ Fn 8 i = nI n) ∧ (∀ i : Nat, i < 60 → ∃ n : Nat, n ≤ 399 ∧ Fn 9 i = nI n) ∧ (∀ i : Nat, i < 60 → ∃ n : Nat, n ≤ 400 ∧ Fn 10 i = nI n) ∧ (∀ i : Nat, i < 60 → ∃ n : Nat, n ≤ 399 ∧ Fn 16 i = nI n) ∧ (∀ i : Nat, i < 11 → ∃ n : Nat, n ≤ 12 ∧ Fn 33 i = nI n) ∧ (∀ i : Nat, i < 40 → ∃ n : Nat, n ≤ 399 ∧ Fn 66 i = nI n) ∧ (∀ i : Nat, i < cn 63 → ∃ n : Nat, n < cn 62 ∧ Fn 67 i = nI n) ∧ (∀ i : Nat, i < 40 → ∃ n : Nat, n ≤ 8000 ∧ Fn 68 i = nI n) ∧ (∀ i : Nat, i < 40 → ∃ n : Nat, n ≤ 8000 ∧ Fn 69 i = nI n) ∧ (∀ i : Nat, i < 40 → ∃ n : Nat, n ≤ 9 ∧ Fn 70 i = nI n) ∧ (∀ i : Nat, i < 10 → ∃ n : Nat, n ≤ 3 ∧ Fn 76 i = nI n) ∧ (∀ i : Nat, i < 10 → ∃ n : Nat, n ≤ 12 ∧ Fn 79 i = nI n) ∧ (∀ b : Nat, b < cn 62 → ∀ i : Nat, i < 20 → ¬ (Fn 64 b >>> (nI i &&& 31)) &&& 1 = 0 → i < cn 2) ∧ (∀ q : Nat, q < cn 63 → (Fn 69 q).toInt.toNat ≤ mixN (Fn 10) (Fn 64 (Fn 67 q).toInt.toNat) 20) ∧ (∀ t : Nat, t ≤ 10 → ∀ q : Nat, q < (Fn 33 t).toInt.toNat → ClOK (Fn 32) (180 * t) (Fn 34 (12 * t + q)) (Fn 35 (12 * t + q)) (Fn 36 (12 * t + q)))
theorem IM.b {cn : Nat → Nat} {Fn : Nat → Nat → Int32} (h : IM cn Fn) : CB cn := h.1
theorem IM.e7 {cn : Nat → Nat} {Fn : Nat → Nat → Int32} (h : IM cn Fn) : ∀ k : Nat, k < 10 → 0 ≤ (Fn 7 k).toInt ∧ (Fn 7 k).toInt ≤ 399 := h.2.1
theorem IM.e8 {cn : Nat → Nat} {Fn : Nat → Nat → Int32} (h : IM cn Fn) : ∀ i : Nat, i < cn 2 → ∃ n : Nat, n < cn 1 ∧ Fn 8 i = nI n := h.2.2.1
theorem IM.e9 {cn : Nat → Nat} {Fn : Nat → Nat → Int32} (h : IM cn Fn) : ∀ i : Nat, i < 60 → ∃ n : Nat, n ≤ 399 ∧ Fn 9 i = nI n := h.2.2.2.1
theorem IM.e10 {cn : Nat → Nat} {Fn : Nat → Nat → Int32} (h : IM cn Fn) : ∀ i : Nat, i < 60 → ∃ n : Nat, n ≤ 400 ∧ Fn 10 i = nI n := h.2.2.2.2.1
theorem IM.e16 {cn : Nat → Nat} {Fn : Nat → Nat → Int32} (h : IM cn Fn) : ∀ i : Nat, i < 60 → ∃ n : Nat, n ≤ 399 ∧ Fn 16 i = nI n := h.2.2.2.2.2.1
theorem IM.e33 {cn : Nat → Nat} {Fn : Nat → Nat → Int32} (h : IM cn Fn) : ∀ i : Nat, i < 11 → ∃ n : Nat, n ≤ 12 ∧ Fn 33 i = nI n := h.2.2.2.2.2.2.1
theorem IM.e66 {cn : Nat → Nat} {Fn : Nat → Nat → Int32} (h : IM cn Fn) : ∀ i : Nat, i < 40 → ∃ n : Nat, n ≤ 399 ∧ Fn 66 i = nI n := h.2.2.2.2.2.2.2.1
theorem IM.e67 {cn : Nat → Nat} {Fn : Nat → Nat → Int32} (h : IM cn Fn) : ∀ i : Nat, i < cn 63 → ∃ n : Nat, n < cn 62 ∧ Fn 67 i = nI n := h.2.2.2.2.2.2.2.2.1
theorem IM.e68 {cn : Nat → Nat} {Fn : Nat → Nat → Int32} (h : IM cn Fn) : ∀ i : Nat, i < 40 → ∃ n : Nat, n ≤ 8000 ∧ Fn 68 i = nI n := h.2.2.2.2.2.2.2.2.2.1
theorem IM.e69 {cn : Nat → Nat} {Fn : Nat → Nat → Int32} (h : IM cn Fn) : ∀ i : Nat, i < 40 → ∃ n : Nat, n ≤ 8000 ∧ Fn 69 i = nI n := h.2.2.2.2.2.2.2.2.2.2.1
theorem IM.e70 {cn : Nat → Nat} {Fn : Nat → Nat → Int32} (h : IM cn Fn) : ∀ i : Nat, i < 40 → ∃ n : Nat, n ≤ 9 ∧ Fn 70 i = nI n := h.2.2.2.2.2.2.2.2.2.2.2.1
theorem IM.e76 {cn : Nat → Nat} {Fn : Nat → Nat → Int32} (h : IM cn Fn) : ∀ i : Nat, i < 10 → ∃ n : Nat, n ≤ 3 ∧ Fn 76 i = nI n := h.2.2.2.2.2.2.2.2.2.2.2.2.1
theorem IM.e79 {cn : Nat → Nat} {Fn : Nat → Nat → Int32} (h : IM cn Fn) : ∀ i : Nat, i < 10 → ∃ n : Nat, n ≤ 12 ∧ Fn 79 i = nI n := h.2.2.2.2.2.2.2.2.2.2.2.2.2.1
theorem IM.pr {cn : Nat → Nat} {Fn : Nat → Nat → Int32} (h : IM cn Fn) : ∀ q : Nat, q < cn 63 → (Fn 69 q).toInt.toNat ≤ mixN (Fn 10) (Fn 64 (Fn 67 q).toInt.toNat) 20 := h.2.2.2.2.2.2.2.2.2.2.2.2.2.2.2.1
theorem IM.cd {cn : Nat → Nat} {Fn : Nat → Nat → Int32} (h : IM cn Fn) : ∀ t : Nat, t ≤ 10 → ∀ q : Nat, q < (Fn 33 t).toInt.toNat → ClOK (Fn 32) (180 * t) (Fn 34 (12 * t + q)) (Fn 35 (12 * t + q)) (Fn 36 (12 * t + q)) := h.2.2.2.2.2.2.2.2.2.2.2.2.2.2.2.2
theorem IM.fr {lc li lf : List Nat} {cn c2 : Nat → Nat} {In I2 : Nat → Int32} {Fn F2 : Nat → Nat → Int32} (h : IM cn Fn) (f : Fr lc li lf cn In Fn c2 I2 F2) (hc : ∀ k ∈ [0, 1, 2, 46, 57, 58, 62, 63, 75, 83], k ∉ lc) (hf : ∀ k ∈ [7, 8, 9, 10, 16, 32, 33, 34, 35, 36, 64, 66, 67, 68, 69, 70, 76, 79], k ∉ lf) : IM c2 F2 := by
  have C : ∀ k ∈ [0, 1, 2, 46, 57, 58, 62, 63, 75, 83], c2 k = cn k := fun k q => f.1 k (hc k q)
  have G : ∀ k ∈ [7, 8, 9, 10, 16, 32, 33, 34, 35, 36, 64, 66, 67, 68, 69, 70, 76, 79], F2 k = Fn k := fun k q => f.2.2 k (hf k q)
  unfold IM CB
  rw [C 0 (by decide), C 1 (by decide), C 2 (by decide), C 46 (by decide), C 57 (by decide), C 58 (by decide), C 62 (by decide), C 63 (by decide), C 75 (by decide), C 83 (by decide)]
  rw [G 7 (by decide), G 8 (by decide), G 9 (by decide), G 10 (by decide), G 16 (by decide), G 32 (by decide), G 33 (by decide), G 34 (by decide), G 35 (by decide), G 36 (by decide), G 64 (by decide), G 66 (by decide), G 67 (by decide), G 68 (by decide), G 69 (by decide), G 70 (by decide), G 76 (by decide), G 79 (by decide)]
  exact h
theorem nI_div {a b : Nat} (ha : a < 2 ^ 31) (hb : b < 2 ^ 31) : nI a / nI b = nI (a / b) := by
  have h : a / b < 2 ^ 31 := Nat.lt_of_le_of_lt (Nat.div_le_self a b) ha
  apply Int32.toInt_inj.mp
  rw [Int32.toInt_div, nI_toInt ha, nI_toInt hb, nI_toInt h]
  rw [Int.tdiv_eq_ediv_of_nonneg (by omega)]
  have : ((a : Int) / (b : Int)) = ((a / b : Nat) : Int) := rfl
  rw [this]
  generalize a / b = z at h ⊢
  exact (Int.bmod_eq_of_le (by omega) (by omega))
theorem nI_rem {a b : Nat} (ha : a < 2 ^ 31) (hb : b < 2 ^ 31) : nI a - nI a / nI b * nI b = nI (a % b) := by
  rw [nI_div ha hb, pk_mul]
  have e : a = a % b + a / b * b := by have := Nat.mod_add_div a b; rw [Nat.mul_comm b] at this; omega
  conv => lhs; lhs; rw [e]
  rw [← nI_add]
  exact Int32.add_sub_cancel _ _
theorem nI_sub {a b : Nat} (h : b ≤ a) : nI a - nI b = nI (a - b) := by
  have : nI a = nI (a - b) + nI b := by rw [nI_add]; congr 1; omega
  rw [this]; exact Int32.add_sub_cancel _ _
set_option maxRecDepth 100000 in
theorem hin_RX12 : ∀ w ∈ u_ws RX12 TX12 91, w ∈ wT := hin_all (C := RX12) (T := TX12) (n := 91) (hin_s (hin_s (hin_s (hin_s (hin_s (hin_s (hin_s (hin_s (hin_s (hin_s (hin_s (hin_s (hin_s (hin_s (hin_s (hin_s (hin_s (hin_s (hin_s (hin_s (hin_s (hin_s (hin_s (hin_s (hin_s (hin_s (hin_s (hin_s (hin_s (hin_s (hin_s (hin_s (hin_s (hin_s (hin_s (hin_s (hin_s (hin_s (hin_s (hin_s (hin_s (hin_s (hin_s (hin_s (hin_s (hin_s (hin_s (hin_s (hin_s (hin_s (hin_s (hin_s (hin_s (hin_s (hin_s (hin_s (hin_s (hin_s (hin_s (hin_s (hin_s (hin_s (hin_s (hin_s (hin_s (hin_s (hin_s (hin_s (hin_s (hin_s (hin_s (hin_s (hin_s (hin_s (hin_s (hin_s (hin_s (hin_s (hin_s (hin_s (hin_s (hin_s (hin_s (hin_s (hin_s (hin_s (hin_s (hin_s (hin_s (hin_s (hin_s (fun k hk => absurd hk (Nat.not_lt_zero k)) (wk6_17 0 rfl rfl)) (wk6_17 2 rfl rfl)) (wk6_17 4 rfl rfl)) (wk6_17 6 rfl rfl)) (wk6_17 8 rfl rfl)) (wk6_17 10 rfl rfl)) (wk6_18 0 rfl rfl)) (wk6_18 2 rfl rfl)) (wk6_18 4 rfl rfl)) (wk6_18 6 rfl rfl)) (wk6_18 8 rfl rfl)) (wk6_18 10 rfl rfl)) (wk6_19 0 rfl rfl)) (wk6_19 2 rfl rfl)) (wk6_19 4 rfl rfl)) (wk6_19 6 rfl rfl)) (wk6_19 8 rfl rfl)) (wk6_19 10 rfl rfl)) (wk7_0 0 rfl rfl)) (wk7_0 2 rfl rfl)) (wk7_0 4 rfl rfl)) (wk7_0 6 rfl rfl)) (wk7_0 8 rfl rfl)) (wk7_0 10 rfl rfl)) (wk7_1 0 rfl rfl)) (wk7_1 2 rfl rfl)) (wk7_1 4 rfl rfl)) (wk7_1 6 rfl rfl)) (wk7_1 8 rfl rfl)) (wk7_1 10 rfl rfl)) (wk7_2 0 rfl rfl)) (wk7_2 2 rfl rfl)) (wk7_2 4 rfl rfl)) (wk7_2 6 rfl rfl)) (wk7_2 8 rfl rfl)) (wk7_2 10 rfl rfl)) (wk7_3 0 rfl rfl)) (wk7_3 2 rfl rfl)) (wk7_3 4 rfl rfl)) (wk7_3 6 rfl rfl)) (wk7_3 8 rfl rfl)) (wk7_3 10 rfl rfl)) (wk7_4 0 rfl rfl)) (wk7_4 2 rfl rfl)) (wk7_4 4 rfl rfl)) (wk7_4 6 rfl rfl)) (wk7_4 8 rfl rfl)) (wk7_4 10 rfl rfl)) (wk7_5 0 rfl rfl)) (wk7_5 2 rfl rfl)) (wk7_5 4 rfl rfl)) (wk7_5 6 rfl rfl)) (wk7_5 8 rfl rfl)) (wk7_5 10 rfl rfl)) (wk7_6 0 rfl rfl)) (wk7_6 2 rfl rfl)) (wk7_6 4 rfl rfl)) (wk7_6 6 rfl rfl)) (wk7_6 8 rfl rfl)) (wk7_6 10 rfl rfl)) (wk7_7 0 rfl rfl)) (wk7_7 2 rfl rfl)) (wk7_7 4 rfl rfl)) (wk7_7 6 rfl rfl)) (wk7_7 8 rfl rfl)) (wk7_7 10 rfl rfl)) (wk7_8 0 rfl rfl)) (wk7_8 2 rfl rfl)) (wk7_8 4 rfl rfl)) (wk7_8 6 rfl rfl)) (wk7_8 8 rfl rfl)) (wk7_8 10 rfl rfl)) (wk7_9 0 rfl rfl)) (wk7_9 2 rfl rfl)) (wk7_9 4 rfl rfl)) (wk7_9 6 rfl rfl)) (wk7_9 8 rfl rfl)) (wk7_9 10 rfl rfl)) (wk7_10 0 rfl rfl)) (wk7_10 2 rfl rfl)) (wk7_10 4 rfl rfl)) (wk7_10 6 rfl rfl)) (wk7_10 8 rfl rfl)) (wk7_10 10 rfl rfl)) (wk7_11 0 rfl rfl)) (wk7_11 2 rfl rfl)) (wk7_11 4 rfl rfl)) (wk7_11 6 rfl rfl)) (wk7_11 8 rfl rfl)) (wk7_11 10 rfl rfl)) (wk7_12 0 rfl rfl))
set_option maxRecDepth 100000 in
theorem gM_204 {p : Program} {l : Launch} {e : Env} {R : Room} {s : State} {m : MethodId} {args : Array Value} {below : List Frame} {meth : Method} {c : Code} {H : Heap} {locs : List Loc} {cells slots : Nat} {Q : State → Prop} {cc : ByteArray} {nL pc : Nat} {D : va_G} {cI cB cZ : ClassId} {g cn : Nat → Nat} {In : Nat → Int32} {Fn : Nat → Nat → Int32} {rest : List Value} {ls : Array Slot} {v : Value} (S : SF p m c cc nL s args RX12) (hK : KK D cI cB cZ s) (hP : va_P D vwCl (wM cI cB cZ g cn In Fn) H) (hv : .int (nI (cn 1)) = v) (hdg : decode cc pc = .ok (.getfield 204, 3)) (kk : W p l e R s m args below meth c H locs cells slots Q (F0 m (pc + 3) ls (v :: rest))) : W p l e R s m args below meth c H locs cells slots Q (F0 m pc ls (.ref (g 100) :: rest)) :=
  va_get (C := RX12) (T := TX12) (N := 91) S.1 S.2.1 S.2.2.2.2 hin_RX12 S.2.2.2.1 hK.1 hP 0 rfl rfl 1 (by decide) (S.2.2.2.2 _ (wk6_9 6 rfl rfl)) (fun _ h9 => h9) (congrArg some hv) hdg kk
set_option maxRecDepth 100000 in
theorem gM_208 {p : Program} {l : Launch} {e : Env} {R : Room} {s : State} {m : MethodId} {args : Array Value} {below : List Frame} {meth : Method} {c : Code} {H : Heap} {locs : List Loc} {cells slots : Nat} {Q : State → Prop} {cc : ByteArray} {nL pc : Nat} {D : va_G} {cI cB cZ : ClassId} {g cn : Nat → Nat} {In : Nat → Int32} {Fn : Nat → Nat → Int32} {rest : List Value} {ls : Array Slot} {v : Value} (S : SF p m c cc nL s args RX12) (hK : KK D cI cB cZ s) (hP : va_P D vwCl (wM cI cB cZ g cn In Fn) H) (hv : .int (nI (cn 2)) = v) (hdg : decode cc pc = .ok (.getfield 208, 3)) (kk : W p l e R s m args below meth c H locs cells slots Q (F0 m (pc + 3) ls (v :: rest))) : W p l e R s m args below meth c H locs cells slots Q (F0 m pc ls (.ref (g 100) :: rest)) :=
  va_get (C := RX12) (T := TX12) (N := 91) S.1 S.2.1 S.2.2.2.2 hin_RX12 S.2.2.2.1 hK.1 hP 0 rfl rfl 2 (by decide) (S.2.2.2.2 _ (wk6_9 7 rfl rfl)) (fun _ h9 => h9) (congrArg some hv) hdg kk
set_option maxRecDepth 100000 in
theorem gM_211 {p : Program} {l : Launch} {e : Env} {R : Room} {s : State} {m : MethodId} {args : Array Value} {below : List Frame} {meth : Method} {c : Code} {H : Heap} {locs : List Loc} {cells slots : Nat} {Q : State → Prop} {cc : ByteArray} {nL pc : Nat} {D : va_G} {cI cB cZ : ClassId} {g cn : Nat → Nat} {In : Nat → Int32} {Fn : Nat → Nat → Int32} {rest : List Value} {ls : Array Slot} {v : Value} (S : SF p m c cc nL s args RX12) (hK : KK D cI cB cZ s) (hP : va_P D vwCl (wM cI cB cZ g cn In Fn) H) (hv : .int (nI (cn 0)) = v) (hdg : decode cc pc = .ok (.getfield 211, 3)) (kk : W p l e R s m args below meth c H locs cells slots Q (F0 m (pc + 3) ls (v :: rest))) : W p l e R s m args below meth c H locs cells slots Q (F0 m pc ls (.ref (g 100) :: rest)) :=
  va_get (C := RX12) (T := TX12) (N := 91) S.1 S.2.1 S.2.2.2.2 hin_RX12 S.2.2.2.1 hK.1 hP 0 rfl rfl 0 (by decide) (S.2.2.2.2 _ (wk6_9 5 rfl rfl)) (fun _ h9 => h9) (congrArg some hv) hdg kk
set_option maxRecDepth 100000 in
theorem kS_RX12_214 : CalS RX12 214 yX12_in cX12_in 3 (some .boolean) 3 := ⟨⟨wk7_12 8 rfl rfl, wk7_12 9 rfl rfl, wk1_1 1 rfl rfl, wk7_12 10 rfl rfl⟩, ⟨nmh_13.1, nmh_13.2, pd_26⟩⟩
set_option maxRecDepth 100000 in
theorem pM_211 {p : Program} {l : Launch} {e : Env} {R : Room} {s : State} {m : MethodId} {args : Array Value} {below : List Frame} {meth : Method} {c : Code} {H : Heap} {locs : List Loc} {cells slots : Nat} {Q : State → Prop} {cc : ByteArray} {nL pc : Nat} {D : va_G} {cI cB cZ : ClassId} {g cn : Nat → Nat} {In : Nat → Int32} {Fn : Nat → Nat → Int32} {rest : List Value} {ls : Array Slot} {A : Nat → Prop} {H0 : Heap} (S : SF p m c cc nL s args RX12) (hK : KK D cI cB cZ s) (hP : va_P D vwCl (wM cI cB cZ g cn In Fn) H) (hD : va_D A (wM cI cB cZ g cn In Fn)) (hS : va_S A H0 H locs) {x : Int32} {a : Nat} {cn2 : Nat → Nat} (hx2 : x = nI a) (hn2 : va_up cn 0 a = cn2) (hdg : decode cc pc = .ok (.putfield 211, 3)) (kk : ∀ (H1 : Heap) (locs1 : List Loc), va_P D vwCl (wM cI cB cZ g cn2 In Fn) H1 → va_D A (wM cI cB cZ g cn2 In Fn) → va_S A H0 H1 locs1 → W p l e R s m args below meth c H1 locs1 cells slots Q (F0 m (pc + 3) ls rest)) : W p l e R s m args below meth c H locs cells slots Q (F0 m pc ls (.int x :: .ref (g 100) :: rest)) := by
  subst hx2; subst hn2
  exact va_put (C := RX12) (T := TX12) (N := 91) S.1 S.2.1 S.2.2.2.2 hin_RX12 tyX12 tyX12_ok nmX12 S.2.2.2.1 hK.1 hP hD hS 0 rfl rfl 0 (by decide) (S.2.2.2.2 _ (wk6_9 5 rfl rfl)) (fun _ h9 => h9) rfl (tyX12_ok 0 (by decide)) rfl rfl (Nat.le_of_ble_eq_true rfl) hdg kk
set_option maxRecDepth 100000 in
theorem gM_7 {p : Program} {l : Launch} {e : Env} {R : Room} {s : State} {m : MethodId} {args : Array Value} {below : List Frame} {meth : Method} {c : Code} {H : Heap} {locs : List Loc} {cells slots : Nat} {Q : State → Prop} {cc : ByteArray} {nL pc : Nat} {D : va_G} {cI cB cZ : ClassId} {g cn : Nat → Nat} {In : Nat → Int32} {Fn : Nat → Nat → Int32} {rest : List Value} {ls : Array Slot} {v : Value} (S : SF p m c cc nL s args RX12) (hK : KK D cI cB cZ s) (hP : va_P D vwCl (wM cI cB cZ g cn In Fn) H) (hv : .ref (g 3) = v) (hdg : decode cc pc = .ok (.getfield 7, 3)) (kk : W p l e R s m args below meth c H locs cells slots Q (F0 m (pc + 3) ls (v :: rest))) : W p l e R s m args below meth c H locs cells slots Q (F0 m pc ls (.ref (g 100) :: rest)) :=
  va_get (C := RX12) (T := TX12) (N := 91) S.1 S.2.1 S.2.2.2.2 hin_RX12 S.2.2.2.1 hK.1 hP 0 rfl rfl 3 (by decide) (S.2.2.2.2 _ (wk6_9 8 rfl rfl)) (fun _ h9 => h9) (congrArg some hv) hdg kk
set_option maxRecDepth 100000 in
theorem gM_13 {p : Program} {l : Launch} {e : Env} {R : Room} {s : State} {m : MethodId} {args : Array Value} {below : List Frame} {meth : Method} {c : Code} {H : Heap} {locs : List Loc} {cells slots : Nat} {Q : State → Prop} {cc : ByteArray} {nL pc : Nat} {D : va_G} {cI cB cZ : ClassId} {g cn : Nat → Nat} {In : Nat → Int32} {Fn : Nat → Nat → Int32} {rest : List Value} {ls : Array Slot} {v : Value} (S : SF p m c cc nL s args RX12) (hK : KK D cI cB cZ s) (hP : va_P D vwCl (wM cI cB cZ g cn In Fn) H) (hv : .ref (g 4) = v) (hdg : decode cc pc = .ok (.getfield 13, 3)) (kk : W p l e R s m args below meth c H locs cells slots Q (F0 m (pc + 3) ls (v :: rest))) : W p l e R s m args below meth c H locs cells slots Q (F0 m pc ls (.ref (g 100) :: rest)) :=
  va_get (C := RX12) (T := TX12) (N := 91) S.1 S.2.1 S.2.2.2.2 hin_RX12 S.2.2.2.1 hK.1 hP 0 rfl rfl 4 (by decide) (S.2.2.2.2 _ (wk6_9 9 rfl rfl)) (fun _ h9 => h9) (congrArg some hv) hdg kk
set_option maxRecDepth 100000 in
theorem gM_16 {p : Program} {l : Launch} {e : Env} {R : Room} {s : State} {m : MethodId} {args : Array Value} {below : List Frame} {meth : Method} {c : Code} {H : Heap} {locs : List Loc} {cells slots : Nat} {Q : State → Prop} {cc : ByteArray} {nL pc : Nat} {D : va_G} {cI cB cZ : ClassId} {g cn : Nat → Nat} {In : Nat → Int32} {Fn : Nat → Nat → Int32} {rest : List Value} {ls : Array Slot} {v : Value} (S : SF p m c cc nL s args RX12) (hK : KK D cI cB cZ s) (hP : va_P D vwCl (wM cI cB cZ g cn In Fn) H) (hv : .ref (g 5) = v) (hdg : decode cc pc = .ok (.getfield 16, 3)) (kk : W p l e R s m args below meth c H locs cells slots Q (F0 m (pc + 3) ls (v :: rest))) : W p l e R s m args below meth c H locs cells slots Q (F0 m pc ls (.ref (g 100) :: rest)) :=
  va_get (C := RX12) (T := TX12) (N := 91) S.1 S.2.1 S.2.2.2.2 hin_RX12 S.2.2.2.1 hK.1 hP 0 rfl rfl 5 (by decide) (S.2.2.2.2 _ (wk6_9 10 rfl rfl)) (fun _ h9 => h9) (congrArg some hv) hdg kk
set_option maxRecDepth 100000 in
theorem gM_19 {p : Program} {l : Launch} {e : Env} {R : Room} {s : State} {m : MethodId} {args : Array Value} {below : List Frame} {meth : Method} {c : Code} {H : Heap} {locs : List Loc} {cells slots : Nat} {Q : State → Prop} {cc : ByteArray} {nL pc : Nat} {D : va_G} {cI cB cZ : ClassId} {g cn : Nat → Nat} {In : Nat → Int32} {Fn : Nat → Nat → Int32} {rest : List Value} {ls : Array Slot} {v : Value} (S : SF p m c cc nL s args RX12) (hK : KK D cI cB cZ s) (hP : va_P D vwCl (wM cI cB cZ g cn In Fn) H) (hv : .ref (g 6) = v) (hdg : decode cc pc = .ok (.getfield 19, 3)) (kk : W p l e R s m args below meth c H locs cells slots Q (F0 m (pc + 3) ls (v :: rest))) : W p l e R s m args below meth c H locs cells slots Q (F0 m pc ls (.ref (g 100) :: rest)) :=
  va_get (C := RX12) (T := TX12) (N := 91) S.1 S.2.1 S.2.2.2.2 hin_RX12 S.2.2.2.1 hK.1 hP 0 rfl rfl 6 (by decide) (S.2.2.2.2 _ (wk6_9 11 rfl rfl)) (fun _ h9 => h9) (congrArg some hv) hdg kk
set_option maxRecDepth 100000 in
theorem pM_204 {p : Program} {l : Launch} {e : Env} {R : Room} {s : State} {m : MethodId} {args : Array Value} {below : List Frame} {meth : Method} {c : Code} {H : Heap} {locs : List Loc} {cells slots : Nat} {Q : State → Prop} {cc : ByteArray} {nL pc : Nat} {D : va_G} {cI cB cZ : ClassId} {g cn : Nat → Nat} {In : Nat → Int32} {Fn : Nat → Nat → Int32} {rest : List Value} {ls : Array Slot} {A : Nat → Prop} {H0 : Heap} (S : SF p m c cc nL s args RX12) (hK : KK D cI cB cZ s) (hP : va_P D vwCl (wM cI cB cZ g cn In Fn) H) (hD : va_D A (wM cI cB cZ g cn In Fn)) (hS : va_S A H0 H locs) {x : Int32} {a : Nat} {cn2 : Nat → Nat} (hx2 : x = nI a) (hn2 : va_up cn 1 a = cn2) (hdg : decode cc pc = .ok (.putfield 204, 3)) (kk : ∀ (H1 : Heap) (locs1 : List Loc), va_P D vwCl (wM cI cB cZ g cn2 In Fn) H1 → va_D A (wM cI cB cZ g cn2 In Fn) → va_S A H0 H1 locs1 → W p l e R s m args below meth c H1 locs1 cells slots Q (F0 m (pc + 3) ls rest)) : W p l e R s m args below meth c H locs cells slots Q (F0 m pc ls (.int x :: .ref (g 100) :: rest)) := by
  subst hx2; subst hn2
  exact va_put (C := RX12) (T := TX12) (N := 91) S.1 S.2.1 S.2.2.2.2 hin_RX12 tyX12 tyX12_ok nmX12 S.2.2.2.1 hK.1 hP hD hS 0 rfl rfl 1 (by decide) (S.2.2.2.2 _ (wk6_9 6 rfl rfl)) (fun _ h9 => h9) rfl (tyX12_ok 1 (by decide)) rfl rfl (Nat.le_of_ble_eq_true rfl) hdg kk
set_option maxRecDepth 100000 in
theorem gM_22 {p : Program} {l : Launch} {e : Env} {R : Room} {s : State} {m : MethodId} {args : Array Value} {below : List Frame} {meth : Method} {c : Code} {H : Heap} {locs : List Loc} {cells slots : Nat} {Q : State → Prop} {cc : ByteArray} {nL pc : Nat} {D : va_G} {cI cB cZ : ClassId} {g cn : Nat → Nat} {In : Nat → Int32} {Fn : Nat → Nat → Int32} {rest : List Value} {ls : Array Slot} {v : Value} (S : SF p m c cc nL s args RX12) (hK : KK D cI cB cZ s) (hP : va_P D vwCl (wM cI cB cZ g cn In Fn) H) (hv : .ref (g 7) = v) (hdg : decode cc pc = .ok (.getfield 22, 3)) (kk : W p l e R s m args below meth c H locs cells slots Q (F0 m (pc + 3) ls (v :: rest))) : W p l e R s m args below meth c H locs cells slots Q (F0 m pc ls (.ref (g 100) :: rest)) :=
  va_get (C := RX12) (T := TX12) (N := 91) S.1 S.2.1 S.2.2.2.2 hin_RX12 S.2.2.2.1 hK.1 hP 0 rfl rfl 7 (by decide) (S.2.2.2.2 _ (wk6_10 0 rfl rfl)) (fun _ h9 => h9) (congrArg some hv) hdg kk
set_option maxRecDepth 100000 in
theorem kV_RX12_218 : CalV RX12 218 yX12_isKitchen cX12_isKitchen 2 (some .boolean) 1 := ⟨⟨wk7_13 7 rfl rfl, wk7_13 9 rfl rfl, wT_sel 67 _ rfl rfl rfl, wk1_1 1 rfl rfl, wk7_13 10 rfl rfl⟩, ⟨nmh_13.1, nmh_13.2, pd_15⟩⟩
set_option maxRecDepth 100000 in
theorem kV_RX12_222 : CalV RX12 222 yX12_likelyOn cX12_likelyOn 4 (some .int) 2 := ⟨⟨wk7_13 11 rfl rfl, wk7_14 1 rfl rfl, wT_sel 68 _ rfl rfl rfl, wk1_1 1 rfl rfl, wk7_14 2 rfl rfl⟩, ⟨nmh_13.1, nmh_13.2, pd_17⟩⟩
set_option maxRecDepth 100000 in
theorem gM_25 {p : Program} {l : Launch} {e : Env} {R : Room} {s : State} {m : MethodId} {args : Array Value} {below : List Frame} {meth : Method} {c : Code} {H : Heap} {locs : List Loc} {cells slots : Nat} {Q : State → Prop} {cc : ByteArray} {nL pc : Nat} {D : va_G} {cI cB cZ : ClassId} {g cn : Nat → Nat} {In : Nat → Int32} {Fn : Nat → Nat → Int32} {rest : List Value} {ls : Array Slot} {v : Value} (S : SF p m c cc nL s args RX12) (hK : KK D cI cB cZ s) (hP : va_P D vwCl (wM cI cB cZ g cn In Fn) H) (hv : .ref (g 8) = v) (hdg : decode cc pc = .ok (.getfield 25, 3)) (kk : W p l e R s m args below meth c H locs cells slots Q (F0 m (pc + 3) ls (v :: rest))) : W p l e R s m args below meth c H locs cells slots Q (F0 m pc ls (.ref (g 100) :: rest)) :=
  va_get (C := RX12) (T := TX12) (N := 91) S.1 S.2.1 S.2.2.2.2 hin_RX12 S.2.2.2.1 hK.1 hP 0 rfl rfl 8 (by decide) (S.2.2.2.2 _ (wk6_10 1 rfl rfl)) (fun _ h9 => h9) (congrArg some hv) hdg kk
set_option maxRecDepth 100000 in
theorem gM_28 {p : Program} {l : Launch} {e : Env} {R : Room} {s : State} {m : MethodId} {args : Array Value} {below : List Frame} {meth : Method} {c : Code} {H : Heap} {locs : List Loc} {cells slots : Nat} {Q : State → Prop} {cc : ByteArray} {nL pc : Nat} {D : va_G} {cI cB cZ : ClassId} {g cn : Nat → Nat} {In : Nat → Int32} {Fn : Nat → Nat → Int32} {rest : List Value} {ls : Array Slot} {v : Value} (S : SF p m c cc nL s args RX12) (hK : KK D cI cB cZ s) (hP : va_P D vwCl (wM cI cB cZ g cn In Fn) H) (hv : .ref (g 9) = v) (hdg : decode cc pc = .ok (.getfield 28, 3)) (kk : W p l e R s m args below meth c H locs cells slots Q (F0 m (pc + 3) ls (v :: rest))) : W p l e R s m args below meth c H locs cells slots Q (F0 m pc ls (.ref (g 100) :: rest)) :=
  va_get (C := RX12) (T := TX12) (N := 91) S.1 S.2.1 S.2.2.2.2 hin_RX12 S.2.2.2.1 hK.1 hP 0 rfl rfl 9 (by decide) (S.2.2.2.2 _ (wk6_10 2 rfl rfl)) (fun _ h9 => h9) (congrArg some hv) hdg kk
set_option maxRecDepth 100000 in
theorem gM_31 {p : Program} {l : Launch} {e : Env} {R : Room} {s : State} {m : MethodId} {args : Array Value} {below : List Frame} {meth : Method} {c : Code} {H : Heap} {locs : List Loc} {cells slots : Nat} {Q : State → Prop} {cc : ByteArray} {nL pc : Nat} {D : va_G} {cI cB cZ : ClassId} {g cn : Nat → Nat} {In : Nat → Int32} {Fn : Nat → Nat → Int32} {rest : List Value} {ls : Array Slot} {v : Value} (S : SF p m c cc nL s args RX12) (hK : KK D cI cB cZ s) (hP : va_P D vwCl (wM cI cB cZ g cn In Fn) H) (hv : .ref (g 10) = v) (hdg : decode cc pc = .ok (.getfield 31, 3)) (kk : W p l e R s m args below meth c H locs cells slots Q (F0 m (pc + 3) ls (v :: rest))) : W p l e R s m args below meth c H locs cells slots Q (F0 m pc ls (.ref (g 100) :: rest)) :=
  va_get (C := RX12) (T := TX12) (N := 91) S.1 S.2.1 S.2.2.2.2 hin_RX12 S.2.2.2.1 hK.1 hP 0 rfl rfl 10 (by decide) (S.2.2.2.2 _ (wk6_10 3 rfl rfl)) (fun _ h9 => h9) (congrArg some hv) hdg kk
set_option maxRecDepth 100000 in
theorem gM_34 {p : Program} {l : Launch} {e : Env} {R : Room} {s : State} {m : MethodId} {args : Array Value} {below : List Frame} {meth : Method} {c : Code} {H : Heap} {locs : List Loc} {cells slots : Nat} {Q : State → Prop} {cc : ByteArray} {nL pc : Nat} {D : va_G} {cI cB cZ : ClassId} {g cn : Nat → Nat} {In : Nat → Int32} {Fn : Nat → Nat → Int32} {rest : List Value} {ls : Array Slot} {v : Value} (S : SF p m c cc nL s args RX12) (hK : KK D cI cB cZ s) (hP : va_P D vwCl (wM cI cB cZ g cn In Fn) H) (hv : .ref (g 11) = v) (hdg : decode cc pc = .ok (.getfield 34, 3)) (kk : W p l e R s m args below meth c H locs cells slots Q (F0 m (pc + 3) ls (v :: rest))) : W p l e R s m args below meth c H locs cells slots Q (F0 m pc ls (.ref (g 100) :: rest)) :=
  va_get (C := RX12) (T := TX12) (N := 91) S.1 S.2.1 S.2.2.2.2 hin_RX12 S.2.2.2.1 hK.1 hP 0 rfl rfl 11 (by decide) (S.2.2.2.2 _ (wk6_10 4 rfl rfl)) (fun _ h9 => h9) (congrArg some hv) hdg kk
set_option maxRecDepth 100000 in
theorem gM_37 {p : Program} {l : Launch} {e : Env} {R : Room} {s : State} {m : MethodId} {args : Array Value} {below : List Frame} {meth : Method} {c : Code} {H : Heap} {locs : List Loc} {cells slots : Nat} {Q : State → Prop} {cc : ByteArray} {nL pc : Nat} {D : va_G} {cI cB cZ : ClassId} {g cn : Nat → Nat} {In : Nat → Int32} {Fn : Nat → Nat → Int32} {rest : List Value} {ls : Array Slot} {v : Value} (S : SF p m c cc nL s args RX12) (hK : KK D cI cB cZ s) (hP : va_P D vwCl (wM cI cB cZ g cn In Fn) H) (hv : .ref (g 12) = v) (hdg : decode cc pc = .ok (.getfield 37, 3)) (kk : W p l e R s m args below meth c H locs cells slots Q (F0 m (pc + 3) ls (v :: rest))) : W p l e R s m args below meth c H locs cells slots Q (F0 m pc ls (.ref (g 100) :: rest)) :=
  va_get (C := RX12) (T := TX12) (N := 91) S.1 S.2.1 S.2.2.2.2 hin_RX12 S.2.2.2.1 hK.1 hP 0 rfl rfl 12 (by decide) (S.2.2.2.2 _ (wk6_10 5 rfl rfl)) (fun _ h9 => h9) (congrArg some hv) hdg kk
set_option maxRecDepth 100000 in
theorem gM_40 {p : Program} {l : Launch} {e : Env} {R : Room} {s : State} {m : MethodId} {args : Array Value} {below : List Frame} {meth : Method} {c : Code} {H : Heap} {locs : List Loc} {cells slots : Nat} {Q : State → Prop} {cc : ByteArray} {nL pc : Nat} {D : va_G} {cI cB cZ : ClassId} {g cn : Nat → Nat} {In : Nat → Int32} {Fn : Nat → Nat → Int32} {rest : List Value} {ls : Array Slot} {v : Value} (S : SF p m c cc nL s args RX12) (hK : KK D cI cB cZ s) (hP : va_P D vwCl (wM cI cB cZ g cn In Fn) H) (hv : .ref (g 13) = v) (hdg : decode cc pc = .ok (.getfield 40, 3)) (kk : W p l e R s m args below meth c H locs cells slots Q (F0 m (pc + 3) ls (v :: rest))) : W p l e R s m args below meth c H locs cells slots Q (F0 m pc ls (.ref (g 100) :: rest)) :=
  va_get (C := RX12) (T := TX12) (N := 91) S.1 S.2.1 S.2.2.2.2 hin_RX12 S.2.2.2.1 hK.1 hP 0 rfl rfl 13 (by decide) (S.2.2.2.2 _ (wk6_10 6 rfl rfl)) (fun _ h9 => h9) (congrArg some hv) hdg kk
set_option maxRecDepth 100000 in
theorem gM_43 {p : Program} {l : Launch} {e : Env} {R : Room} {s : State} {m : MethodId} {args : Array Value} {below : List Frame} {meth : Method} {c : Code} {H : Heap} {locs : List Loc} {cells slots : Nat} {Q : State → Prop} {cc : ByteArray} {nL pc : Nat} {D : va_G} {cI cB cZ : ClassId} {g cn : Nat → Nat} {In : Nat → Int32} {Fn : Nat → Nat → Int32} {rest : List Value} {ls : Array Slot} {v : Value} (S : SF p m c cc nL s args RX12) (hK : KK D cI cB cZ s) (hP : va_P D vwCl (wM cI cB cZ g cn In Fn) H) (hv : .ref (g 14) = v) (hdg : decode cc pc = .ok (.getfield 43, 3)) (kk : W p l e R s m args below meth c H locs cells slots Q (F0 m (pc + 3) ls (v :: rest))) : W p l e R s m args below meth c H locs cells slots Q (F0 m pc ls (.ref (g 100) :: rest)) :=
  va_get (C := RX12) (T := TX12) (N := 91) S.1 S.2.1 S.2.2.2.2 hin_RX12 S.2.2.2.1 hK.1 hP 0 rfl rfl 14 (by decide) (S.2.2.2.2 _ (wk6_10 7 rfl rfl)) (fun _ h9 => h9) (congrArg some hv) hdg kk
set_option maxRecDepth 100000 in
theorem gM_46 {p : Program} {l : Launch} {e : Env} {R : Room} {s : State} {m : MethodId} {args : Array Value} {below : List Frame} {meth : Method} {c : Code} {H : Heap} {locs : List Loc} {cells slots : Nat} {Q : State → Prop} {cc : ByteArray} {nL pc : Nat} {D : va_G} {cI cB cZ : ClassId} {g cn : Nat → Nat} {In : Nat → Int32} {Fn : Nat → Nat → Int32} {rest : List Value} {ls : Array Slot} {v : Value} (S : SF p m c cc nL s args RX12) (hK : KK D cI cB cZ s) (hP : va_P D vwCl (wM cI cB cZ g cn In Fn) H) (hv : .ref (g 15) = v) (hdg : decode cc pc = .ok (.getfield 46, 3)) (kk : W p l e R s m args below meth c H locs cells slots Q (F0 m (pc + 3) ls (v :: rest))) : W p l e R s m args below meth c H locs cells slots Q (F0 m pc ls (.ref (g 100) :: rest)) :=
  va_get (C := RX12) (T := TX12) (N := 91) S.1 S.2.1 S.2.2.2.2 hin_RX12 S.2.2.2.1 hK.1 hP 0 rfl rfl 15 (by decide) (S.2.2.2.2 _ (wk6_10 8 rfl rfl)) (fun _ h9 => h9) (congrArg some hv) hdg kk
set_option maxRecDepth 100000 in
theorem gM_49 {p : Program} {l : Launch} {e : Env} {R : Room} {s : State} {m : MethodId} {args : Array Value} {below : List Frame} {meth : Method} {c : Code} {H : Heap} {locs : List Loc} {cells slots : Nat} {Q : State → Prop} {cc : ByteArray} {nL pc : Nat} {D : va_G} {cI cB cZ : ClassId} {g cn : Nat → Nat} {In : Nat → Int32} {Fn : Nat → Nat → Int32} {rest : List Value} {ls : Array Slot} {v : Value} (S : SF p m c cc nL s args RX12) (hK : KK D cI cB cZ s) (hP : va_P D vwCl (wM cI cB cZ g cn In Fn) H) (hv : .ref (g 16) = v) (hdg : decode cc pc = .ok (.getfield 49, 3)) (kk : W p l e R s m args below meth c H locs cells slots Q (F0 m (pc + 3) ls (v :: rest))) : W p l e R s m args below meth c H locs cells slots Q (F0 m pc ls (.ref (g 100) :: rest)) :=
  va_get (C := RX12) (T := TX12) (N := 91) S.1 S.2.1 S.2.2.2.2 hin_RX12 S.2.2.2.1 hK.1 hP 0 rfl rfl 16 (by decide) (S.2.2.2.2 _ (wk6_10 9 rfl rfl)) (fun _ h9 => h9) (congrArg some hv) hdg kk
set_option maxRecDepth 100000 in
theorem pM_208 {p : Program} {l : Launch} {e : Env} {R : Room} {s : State} {m : MethodId} {args : Array Value} {below : List Frame} {meth : Method} {c : Code} {H : Heap} {locs : List Loc} {cells slots : Nat} {Q : State → Prop} {cc : ByteArray} {nL pc : Nat} {D : va_G} {cI cB cZ : ClassId} {g cn : Nat → Nat} {In : Nat → Int32} {Fn : Nat → Nat → Int32} {rest : List Value} {ls : Array Slot} {A : Nat → Prop} {H0 : Heap} (S : SF p m c cc nL s args RX12) (hK : KK D cI cB cZ s) (hP : va_P D vwCl (wM cI cB cZ g cn In Fn) H) (hD : va_D A (wM cI cB cZ g cn In Fn)) (hS : va_S A H0 H locs) {x : Int32} {a : Nat} {cn2 : Nat → Nat} (hx2 : x = nI a) (hn2 : va_up cn 2 a = cn2) (hdg : decode cc pc = .ok (.putfield 208, 3)) (kk : ∀ (H1 : Heap) (locs1 : List Loc), va_P D vwCl (wM cI cB cZ g cn2 In Fn) H1 → va_D A (wM cI cB cZ g cn2 In Fn) → va_S A H0 H1 locs1 → W p l e R s m args below meth c H1 locs1 cells slots Q (F0 m (pc + 3) ls rest)) : W p l e R s m args below meth c H locs cells slots Q (F0 m pc ls (.int x :: .ref (g 100) :: rest)) := by
  subst hx2; subst hn2
  exact va_put (C := RX12) (T := TX12) (N := 91) S.1 S.2.1 S.2.2.2.2 hin_RX12 tyX12 tyX12_ok nmX12 S.2.2.2.1 hK.1 hP hD hS 0 rfl rfl 2 (by decide) (S.2.2.2.2 _ (wk6_9 7 rfl rfl)) (fun _ h9 => h9) rfl (tyX12_ok 2 (by decide)) rfl rfl (Nat.le_of_ble_eq_true rfl) hdg kk
set_option maxRecDepth 100000 in
theorem gM_52 {p : Program} {l : Launch} {e : Env} {R : Room} {s : State} {m : MethodId} {args : Array Value} {below : List Frame} {meth : Method} {c : Code} {H : Heap} {locs : List Loc} {cells slots : Nat} {Q : State → Prop} {cc : ByteArray} {nL pc : Nat} {D : va_G} {cI cB cZ : ClassId} {g cn : Nat → Nat} {In : Nat → Int32} {Fn : Nat → Nat → Int32} {rest : List Value} {ls : Array Slot} {v : Value} (S : SF p m c cc nL s args RX12) (hK : KK D cI cB cZ s) (hP : va_P D vwCl (wM cI cB cZ g cn In Fn) H) (hv : .ref (g 17) = v) (hdg : decode cc pc = .ok (.getfield 52, 3)) (kk : W p l e R s m args below meth c H locs cells slots Q (F0 m (pc + 3) ls (v :: rest))) : W p l e R s m args below meth c H locs cells slots Q (F0 m pc ls (.ref (g 100) :: rest)) :=
  va_get (C := RX12) (T := TX12) (N := 91) S.1 S.2.1 S.2.2.2.2 hin_RX12 S.2.2.2.1 hK.1 hP 0 rfl rfl 17 (by decide) (S.2.2.2.2 _ (wk6_10 10 rfl rfl)) (fun _ h9 => h9) (congrArg some hv) hdg kk
set_option maxRecDepth 100000 in
theorem gM_226 {p : Program} {l : Launch} {e : Env} {R : Room} {s : State} {m : MethodId} {args : Array Value} {below : List Frame} {meth : Method} {c : Code} {H : Heap} {locs : List Loc} {cells slots : Nat} {Q : State → Prop} {cc : ByteArray} {nL pc : Nat} {D : va_G} {cI cB cZ : ClassId} {g cn : Nat → Nat} {In : Nat → Int32} {Fn : Nat → Nat → Int32} {rest : List Value} {ls : Array Slot} {v : Value} (S : SF p m c cc nL s args RX12) (hK : KK D cI cB cZ s) (hP : va_P D vwCl (wM cI cB cZ g cn In Fn) H) (hv : .int (nI (cn 18)) = v) (hdg : decode cc pc = .ok (.getfield 226, 3)) (kk : W p l e R s m args below meth c H locs cells slots Q (F0 m (pc + 3) ls (v :: rest))) : W p l e R s m args below meth c H locs cells slots Q (F0 m pc ls (.ref (g 100) :: rest)) :=
  va_get (C := RX12) (T := TX12) (N := 91) S.1 S.2.1 S.2.2.2.2 hin_RX12 S.2.2.2.1 hK.1 hP 0 rfl rfl 18 (by decide) (S.2.2.2.2 _ (wk6_10 11 rfl rfl)) (fun _ h9 => h9) (congrArg some hv) hdg kk
set_option maxRecDepth 100000 in
theorem pM_226 {p : Program} {l : Launch} {e : Env} {R : Room} {s : State} {m : MethodId} {args : Array Value} {below : List Frame} {meth : Method} {c : Code} {H : Heap} {locs : List Loc} {cells slots : Nat} {Q : State → Prop} {cc : ByteArray} {nL pc : Nat} {D : va_G} {cI cB cZ : ClassId} {g cn : Nat → Nat} {In : Nat → Int32} {Fn : Nat → Nat → Int32} {rest : List Value} {ls : Array Slot} {A : Nat → Prop} {H0 : Heap} (S : SF p m c cc nL s args RX12) (hK : KK D cI cB cZ s) (hP : va_P D vwCl (wM cI cB cZ g cn In Fn) H) (hD : va_D A (wM cI cB cZ g cn In Fn)) (hS : va_S A H0 H locs) {x : Int32} {a : Nat} {cn2 : Nat → Nat} (hx2 : x = nI a) (hn2 : va_up cn 18 a = cn2) (hdg : decode cc pc = .ok (.putfield 226, 3)) (kk : ∀ (H1 : Heap) (locs1 : List Loc), va_P D vwCl (wM cI cB cZ g cn2 In Fn) H1 → va_D A (wM cI cB cZ g cn2 In Fn) → va_S A H0 H1 locs1 → W p l e R s m args below meth c H1 locs1 cells slots Q (F0 m (pc + 3) ls rest)) : W p l e R s m args below meth c H locs cells slots Q (F0 m pc ls (.int x :: .ref (g 100) :: rest)) := by
  subst hx2; subst hn2
  exact va_put (C := RX12) (T := TX12) (N := 91) S.1 S.2.1 S.2.2.2.2 hin_RX12 tyX12 tyX12_ok nmX12 S.2.2.2.1 hK.1 hP hD hS 0 rfl rfl 18 (by decide) (S.2.2.2.2 _ (wk6_10 11 rfl rfl)) (fun _ h9 => h9) rfl (tyX12_ok 18 (by decide)) rfl rfl (Nat.le_of_ble_eq_true rfl) hdg kk
set_option maxRecDepth 100000 in
theorem kV_RX12_229 : CalV RX12 229 yX12_types cX12_types 3 none 1 := ⟨⟨wk7_14 11 rfl rfl, wk7_15 1 rfl rfl, wT_sel 69 _ rfl rfl rfl, wk1_1 1 rfl rfl, wk7_15 2 rfl rfl⟩, ⟨nmh_13.1, nmh_13.2, pd_14⟩⟩
set_option maxRecDepth 100000 in
theorem gM_233 {p : Program} {l : Launch} {e : Env} {R : Room} {s : State} {m : MethodId} {args : Array Value} {below : List Frame} {meth : Method} {c : Code} {H : Heap} {locs : List Loc} {cells slots : Nat} {Q : State → Prop} {cc : ByteArray} {nL pc : Nat} {D : va_G} {cI cB cZ : ClassId} {g cn : Nat → Nat} {In : Nat → Int32} {Fn : Nat → Nat → Int32} {rest : List Value} {ls : Array Slot} {v : Value} (S : SF p m c cc nL s args RX12) (hK : KK D cI cB cZ s) (hP : va_P D vwCl (wM cI cB cZ g cn In Fn) H) (hv : .int (nI (cn 19)) = v) (hdg : decode cc pc = .ok (.getfield 233, 3)) (kk : W p l e R s m args below meth c H locs cells slots Q (F0 m (pc + 3) ls (v :: rest))) : W p l e R s m args below meth c H locs cells slots Q (F0 m pc ls (.ref (g 100) :: rest)) :=
  va_get (C := RX12) (T := TX12) (N := 91) S.1 S.2.1 S.2.2.2.2 hin_RX12 S.2.2.2.1 hK.1 hP 0 rfl rfl 19 (by decide) (S.2.2.2.2 _ (wk6_11 0 rfl rfl)) (fun _ h9 => h9) (congrArg some hv) hdg kk
set_option maxRecDepth 100000 in
theorem gM_236 {p : Program} {l : Launch} {e : Env} {R : Room} {s : State} {m : MethodId} {args : Array Value} {below : List Frame} {meth : Method} {c : Code} {H : Heap} {locs : List Loc} {cells slots : Nat} {Q : State → Prop} {cc : ByteArray} {nL pc : Nat} {D : va_G} {cI cB cZ : ClassId} {g cn : Nat → Nat} {In : Nat → Int32} {Fn : Nat → Nat → Int32} {rest : List Value} {ls : Array Slot} {v : Value} (S : SF p m c cc nL s args RX12) (hK : KK D cI cB cZ s) (hP : va_P D vwCl (wM cI cB cZ g cn In Fn) H) (hv : .int (nI (cn 20)) = v) (hdg : decode cc pc = .ok (.getfield 236, 3)) (kk : W p l e R s m args below meth c H locs cells slots Q (F0 m (pc + 3) ls (v :: rest))) : W p l e R s m args below meth c H locs cells slots Q (F0 m pc ls (.ref (g 100) :: rest)) :=
  va_get (C := RX12) (T := TX12) (N := 91) S.1 S.2.1 S.2.2.2.2 hin_RX12 S.2.2.2.1 hK.1 hP 0 rfl rfl 20 (by decide) (S.2.2.2.2 _ (wk6_11 1 rfl rfl)) (fun _ h9 => h9) (congrArg some hv) hdg kk
set_option maxRecDepth 100000 in
theorem kV_RX12_239 : CalV RX12 239 yX12_here cX12_here 1 (some .int) 0 := ⟨⟨wk7_16 3 rfl rfl, wk7_16 5 rfl rfl, wT_sel 72 _ rfl rfl rfl, wk1_1 1 rfl rfl, wk7_16 6 rfl rfl⟩, ⟨nmh_13.1, nmh_13.2, pd_1⟩⟩
set_option maxRecDepth 100000 in
theorem pM_243 {p : Program} {l : Launch} {e : Env} {R : Room} {s : State} {m : MethodId} {args : Array Value} {below : List Frame} {meth : Method} {c : Code} {H : Heap} {locs : List Loc} {cells slots : Nat} {Q : State → Prop} {cc : ByteArray} {nL pc : Nat} {D : va_G} {cI cB cZ : ClassId} {g cn : Nat → Nat} {In : Nat → Int32} {Fn : Nat → Nat → Int32} {rest : List Value} {ls : Array Slot} {A : Nat → Prop} {H0 : Heap} (S : SF p m c cc nL s args RX12) (hK : KK D cI cB cZ s) (hP : va_P D vwCl (wM cI cB cZ g cn In Fn) H) (hD : va_D A (wM cI cB cZ g cn In Fn)) (hS : va_S A H0 H locs) {x : Int32} {In2 : Nat → Int32} (hn2 : va_up In 21 x = In2) (hdg : decode cc pc = .ok (.putfield 243, 3)) (kk : ∀ (H1 : Heap) (locs1 : List Loc), va_P D vwCl (wM cI cB cZ g cn In2 Fn) H1 → va_D A (wM cI cB cZ g cn In2 Fn) → va_S A H0 H1 locs1 → W p l e R s m args below meth c H1 locs1 cells slots Q (F0 m (pc + 3) ls rest)) : W p l e R s m args below meth c H locs cells slots Q (F0 m pc ls (.int x :: .ref (g 100) :: rest)) := by
  subst hn2
  exact va_put (C := RX12) (T := TX12) (N := 91) S.1 S.2.1 S.2.2.2.2 hin_RX12 tyX12 tyX12_ok nmX12 S.2.2.2.1 hK.1 hP hD hS 0 rfl rfl 21 (by decide) (S.2.2.2.2 _ (wk6_11 2 rfl rfl)) (fun _ h9 => h9) rfl (tyX12_ok 21 (by decide)) rfl rfl (Nat.le_of_ble_eq_true rfl) hdg kk
set_option maxRecDepth 100000 in
theorem kV_RX12_246 : CalV RX12 246 yX12_wrong cX12_wrong 3 (some .boolean) 2 := ⟨⟨wk7_16 7 rfl rfl, wk7_16 9 rfl rfl, wT_sel 73 _ rfl rfl rfl, wk1_1 1 rfl rfl, wk7_16 10 rfl rfl⟩, ⟨nmh_13.1, nmh_13.2, pd_21⟩⟩
set_option maxRecDepth 100000 in
theorem pM_233 {p : Program} {l : Launch} {e : Env} {R : Room} {s : State} {m : MethodId} {args : Array Value} {below : List Frame} {meth : Method} {c : Code} {H : Heap} {locs : List Loc} {cells slots : Nat} {Q : State → Prop} {cc : ByteArray} {nL pc : Nat} {D : va_G} {cI cB cZ : ClassId} {g cn : Nat → Nat} {In : Nat → Int32} {Fn : Nat → Nat → Int32} {rest : List Value} {ls : Array Slot} {A : Nat → Prop} {H0 : Heap} (S : SF p m c cc nL s args RX12) (hK : KK D cI cB cZ s) (hP : va_P D vwCl (wM cI cB cZ g cn In Fn) H) (hD : va_D A (wM cI cB cZ g cn In Fn)) (hS : va_S A H0 H locs) {x : Int32} {a : Nat} {cn2 : Nat → Nat} (hx2 : x = nI a) (hn2 : va_up cn 19 a = cn2) (hdg : decode cc pc = .ok (.putfield 233, 3)) (kk : ∀ (H1 : Heap) (locs1 : List Loc), va_P D vwCl (wM cI cB cZ g cn2 In Fn) H1 → va_D A (wM cI cB cZ g cn2 In Fn) → va_S A H0 H1 locs1 → W p l e R s m args below meth c H1 locs1 cells slots Q (F0 m (pc + 3) ls rest)) : W p l e R s m args below meth c H locs cells slots Q (F0 m pc ls (.int x :: .ref (g 100) :: rest)) := by
  subst hx2; subst hn2
  exact va_put (C := RX12) (T := TX12) (N := 91) S.1 S.2.1 S.2.2.2.2 hin_RX12 tyX12 tyX12_ok nmX12 S.2.2.2.1 hK.1 hP hD hS 0 rfl rfl 19 (by decide) (S.2.2.2.2 _ (wk6_11 0 rfl rfl)) (fun _ h9 => h9) rfl (tyX12_ok 19 (by decide)) rfl rfl (Nat.le_of_ble_eq_true rfl) hdg kk
set_option maxRecDepth 100000 in
theorem pM_250 {p : Program} {l : Launch} {e : Env} {R : Room} {s : State} {m : MethodId} {args : Array Value} {below : List Frame} {meth : Method} {c : Code} {H : Heap} {locs : List Loc} {cells slots : Nat} {Q : State → Prop} {cc : ByteArray} {nL pc : Nat} {D : va_G} {cI cB cZ : ClassId} {g cn : Nat → Nat} {In : Nat → Int32} {Fn : Nat → Nat → Int32} {rest : List Value} {ls : Array Slot} {A : Nat → Prop} {H0 : Heap} (S : SF p m c cc nL s args RX12) (hK : KK D cI cB cZ s) (hP : va_P D vwCl (wM cI cB cZ g cn In Fn) H) (hD : va_D A (wM cI cB cZ g cn In Fn)) (hS : va_S A H0 H locs) {x : Int32} {a : Nat} {cn2 : Nat → Nat} (hx2 : x = nI a) (hn2 : va_up cn 26 a = cn2) (hdg : decode cc pc = .ok (.putfield 250, 3)) (kk : ∀ (H1 : Heap) (locs1 : List Loc), va_P D vwCl (wM cI cB cZ g cn2 In Fn) H1 → va_D A (wM cI cB cZ g cn2 In Fn) → va_S A H0 H1 locs1 → W p l e R s m args below meth c H1 locs1 cells slots Q (F0 m (pc + 3) ls rest)) : W p l e R s m args below meth c H locs cells slots Q (F0 m pc ls (.int x :: .ref (g 100) :: rest)) := by
  subst hx2; subst hn2
  exact va_put (C := RX12) (T := TX12) (N := 91) S.1 S.2.1 S.2.2.2.2 hin_RX12 tyX12 tyX12_ok nmX12 S.2.2.2.1 hK.1 hP hD hS 0 rfl rfl 26 (by decide) (S.2.2.2.2 _ (wk6_11 7 rfl rfl)) (fun _ h9 => h9) rfl (tyX12_ok 26 (by decide)) rfl rfl (Nat.le_of_ble_eq_true rfl) hdg kk
set_option maxRecDepth 100000 in
theorem kV_RX12_253 : CalV RX12 253 yX12_isDigit cX12_isDigit 1 (some .boolean) 0 := ⟨⟨wk7_18 0 rfl rfl, wk7_18 2 rfl rfl, wT_sel 77 _ rfl rfl rfl, wk1_1 1 rfl rfl, wk7_18 3 rfl rfl⟩, ⟨nmh_13.1, nmh_13.2, pd_3⟩⟩
set_option maxRecDepth 100000 in
theorem gM_250 {p : Program} {l : Launch} {e : Env} {R : Room} {s : State} {m : MethodId} {args : Array Value} {below : List Frame} {meth : Method} {c : Code} {H : Heap} {locs : List Loc} {cells slots : Nat} {Q : State → Prop} {cc : ByteArray} {nL pc : Nat} {D : va_G} {cI cB cZ : ClassId} {g cn : Nat → Nat} {In : Nat → Int32} {Fn : Nat → Nat → Int32} {rest : List Value} {ls : Array Slot} {v : Value} (S : SF p m c cc nL s args RX12) (hK : KK D cI cB cZ s) (hP : va_P D vwCl (wM cI cB cZ g cn In Fn) H) (hv : .int (nI (cn 26)) = v) (hdg : decode cc pc = .ok (.getfield 250, 3)) (kk : W p l e R s m args below meth c H locs cells slots Q (F0 m (pc + 3) ls (v :: rest))) : W p l e R s m args below meth c H locs cells slots Q (F0 m pc ls (.ref (g 100) :: rest)) :=
  va_get (C := RX12) (T := TX12) (N := 91) S.1 S.2.1 S.2.2.2.2 hin_RX12 S.2.2.2.1 hK.1 hP 0 rfl rfl 26 (by decide) (S.2.2.2.2 _ (wk6_11 7 rfl rfl)) (fun _ h9 => h9) (congrArg some hv) hdg kk
set_option maxRecDepth 100000 in
theorem gM_56 {p : Program} {l : Launch} {e : Env} {R : Room} {s : State} {m : MethodId} {args : Array Value} {below : List Frame} {meth : Method} {c : Code} {H : Heap} {locs : List Loc} {cells slots : Nat} {Q : State → Prop} {cc : ByteArray} {nL pc : Nat} {D : va_G} {cI cB cZ : ClassId} {g cn : Nat → Nat} {In : Nat → Int32} {Fn : Nat → Nat → Int32} {rest : List Value} {ls : Array Slot} {v : Value} (S : SF p m c cc nL s args RX12) (hK : KK D cI cB cZ s) (hP : va_P D vwCl (wM cI cB cZ g cn In Fn) H) (hv : .ref (g 27) = v) (hdg : decode cc pc = .ok (.getfield 56, 3)) (kk : W p l e R s m args below meth c H locs cells slots Q (F0 m (pc + 3) ls (v :: rest))) : W p l e R s m args below meth c H locs cells slots Q (F0 m pc ls (.ref (g 100) :: rest)) :=
  va_get (C := RX12) (T := TX12) (N := 91) S.1 S.2.1 S.2.2.2.2 hin_RX12 S.2.2.2.1 hK.1 hP 0 rfl rfl 27 (by decide) (S.2.2.2.2 _ (wk6_11 8 rfl rfl)) (fun _ h9 => h9) (congrArg some hv) hdg kk
set_option maxRecDepth 100000 in
theorem gM_257 {p : Program} {l : Launch} {e : Env} {R : Room} {s : State} {m : MethodId} {args : Array Value} {below : List Frame} {meth : Method} {c : Code} {H : Heap} {locs : List Loc} {cells slots : Nat} {Q : State → Prop} {cc : ByteArray} {nL pc : Nat} {D : va_G} {cI cB cZ : ClassId} {g cn : Nat → Nat} {In : Nat → Int32} {Fn : Nat → Nat → Int32} {rest : List Value} {ls : Array Slot} {v : Value} (S : SF p m c cc nL s args RX12) (hK : KK D cI cB cZ s) (hP : va_P D vwCl (wM cI cB cZ g cn In Fn) H) (hv : .int (nI (cn 23)) = v) (hdg : decode cc pc = .ok (.getfield 257, 3)) (kk : W p l e R s m args below meth c H locs cells slots Q (F0 m (pc + 3) ls (v :: rest))) : W p l e R s m args below meth c H locs cells slots Q (F0 m pc ls (.ref (g 100) :: rest)) :=
  va_get (C := RX12) (T := TX12) (N := 91) S.1 S.2.1 S.2.2.2.2 hin_RX12 S.2.2.2.1 hK.1 hP 0 rfl rfl 23 (by decide) (S.2.2.2.2 _ (wk6_11 4 rfl rfl)) (fun _ h9 => h9) (congrArg some hv) hdg kk
set_option maxRecDepth 100000 in
theorem pM_257 {p : Program} {l : Launch} {e : Env} {R : Room} {s : State} {m : MethodId} {args : Array Value} {below : List Frame} {meth : Method} {c : Code} {H : Heap} {locs : List Loc} {cells slots : Nat} {Q : State → Prop} {cc : ByteArray} {nL pc : Nat} {D : va_G} {cI cB cZ : ClassId} {g cn : Nat → Nat} {In : Nat → Int32} {Fn : Nat → Nat → Int32} {rest : List Value} {ls : Array Slot} {A : Nat → Prop} {H0 : Heap} (S : SF p m c cc nL s args RX12) (hK : KK D cI cB cZ s) (hP : va_P D vwCl (wM cI cB cZ g cn In Fn) H) (hD : va_D A (wM cI cB cZ g cn In Fn)) (hS : va_S A H0 H locs) {x : Int32} {a : Nat} {cn2 : Nat → Nat} (hx2 : x = nI a) (hn2 : va_up cn 23 a = cn2) (hdg : decode cc pc = .ok (.putfield 257, 3)) (kk : ∀ (H1 : Heap) (locs1 : List Loc), va_P D vwCl (wM cI cB cZ g cn2 In Fn) H1 → va_D A (wM cI cB cZ g cn2 In Fn) → va_S A H0 H1 locs1 → W p l e R s m args below meth c H1 locs1 cells slots Q (F0 m (pc + 3) ls rest)) : W p l e R s m args below meth c H locs cells slots Q (F0 m pc ls (.int x :: .ref (g 100) :: rest)) := by
  subst hx2; subst hn2
  exact va_put (C := RX12) (T := TX12) (N := 91) S.1 S.2.1 S.2.2.2.2 hin_RX12 tyX12 tyX12_ok nmX12 S.2.2.2.1 hK.1 hP hD hS 0 rfl rfl 23 (by decide) (S.2.2.2.2 _ (wk6_11 4 rfl rfl)) (fun _ h9 => h9) rfl (tyX12_ok 23 (by decide)) rfl rfl (Nat.le_of_ble_eq_true rfl) hdg kk
set_option maxRecDepth 100000 in
theorem gM_261 {p : Program} {l : Launch} {e : Env} {R : Room} {s : State} {m : MethodId} {args : Array Value} {below : List Frame} {meth : Method} {c : Code} {H : Heap} {locs : List Loc} {cells slots : Nat} {Q : State → Prop} {cc : ByteArray} {nL pc : Nat} {D : va_G} {cI cB cZ : ClassId} {g cn : Nat → Nat} {In : Nat → Int32} {Fn : Nat → Nat → Int32} {rest : List Value} {ls : Array Slot} {v : Value} (S : SF p m c cc nL s args RX12) (hK : KK D cI cB cZ s) (hP : va_P D vwCl (wM cI cB cZ g cn In Fn) H) (hv : .int (In 22) = v) (hdg : decode cc pc = .ok (.getfield 261, 3)) (kk : W p l e R s m args below meth c H locs cells slots Q (F0 m (pc + 3) ls (v :: rest))) : W p l e R s m args below meth c H locs cells slots Q (F0 m pc ls (.ref (g 100) :: rest)) :=
  va_get (C := RX12) (T := TX12) (N := 91) S.1 S.2.1 S.2.2.2.2 hin_RX12 S.2.2.2.1 hK.1 hP 0 rfl rfl 22 (by decide) (S.2.2.2.2 _ (wk6_11 3 rfl rfl)) (fun _ h9 => h9) (congrArg some hv) hdg kk
set_option maxRecDepth 100000 in
theorem pM_261 {p : Program} {l : Launch} {e : Env} {R : Room} {s : State} {m : MethodId} {args : Array Value} {below : List Frame} {meth : Method} {c : Code} {H : Heap} {locs : List Loc} {cells slots : Nat} {Q : State → Prop} {cc : ByteArray} {nL pc : Nat} {D : va_G} {cI cB cZ : ClassId} {g cn : Nat → Nat} {In : Nat → Int32} {Fn : Nat → Nat → Int32} {rest : List Value} {ls : Array Slot} {A : Nat → Prop} {H0 : Heap} (S : SF p m c cc nL s args RX12) (hK : KK D cI cB cZ s) (hP : va_P D vwCl (wM cI cB cZ g cn In Fn) H) (hD : va_D A (wM cI cB cZ g cn In Fn)) (hS : va_S A H0 H locs) {x : Int32} {In2 : Nat → Int32} (hn2 : va_up In 22 x = In2) (hdg : decode cc pc = .ok (.putfield 261, 3)) (kk : ∀ (H1 : Heap) (locs1 : List Loc), va_P D vwCl (wM cI cB cZ g cn In2 Fn) H1 → va_D A (wM cI cB cZ g cn In2 Fn) → va_S A H0 H1 locs1 → W p l e R s m args below meth c H1 locs1 cells slots Q (F0 m (pc + 3) ls rest)) : W p l e R s m args below meth c H locs cells slots Q (F0 m pc ls (.int x :: .ref (g 100) :: rest)) := by
  subst hn2
  exact va_put (C := RX12) (T := TX12) (N := 91) S.1 S.2.1 S.2.2.2.2 hin_RX12 tyX12 tyX12_ok nmX12 S.2.2.2.1 hK.1 hP hD hS 0 rfl rfl 22 (by decide) (S.2.2.2.2 _ (wk6_11 3 rfl rfl)) (fun _ h9 => h9) rfl (tyX12_ok 22 (by decide)) rfl rfl (Nat.le_of_ble_eq_true rfl) hdg kk
set_option maxRecDepth 100000 in
theorem gM_59 {p : Program} {l : Launch} {e : Env} {R : Room} {s : State} {m : MethodId} {args : Array Value} {below : List Frame} {meth : Method} {c : Code} {H : Heap} {locs : List Loc} {cells slots : Nat} {Q : State → Prop} {cc : ByteArray} {nL pc : Nat} {D : va_G} {cI cB cZ : ClassId} {g cn : Nat → Nat} {In : Nat → Int32} {Fn : Nat → Nat → Int32} {rest : List Value} {ls : Array Slot} {v : Value} (S : SF p m c cc nL s args RX12) (hK : KK D cI cB cZ s) (hP : va_P D vwCl (wM cI cB cZ g cn In Fn) H) (hv : .ref (g 28) = v) (hdg : decode cc pc = .ok (.getfield 59, 3)) (kk : W p l e R s m args below meth c H locs cells slots Q (F0 m (pc + 3) ls (v :: rest))) : W p l e R s m args below meth c H locs cells slots Q (F0 m pc ls (.ref (g 100) :: rest)) :=
  va_get (C := RX12) (T := TX12) (N := 91) S.1 S.2.1 S.2.2.2.2 hin_RX12 S.2.2.2.1 hK.1 hP 0 rfl rfl 28 (by decide) (S.2.2.2.2 _ (wk6_11 9 rfl rfl)) (fun _ h9 => h9) (congrArg some hv) hdg kk
set_option maxRecDepth 100000 in
theorem gM_264 {p : Program} {l : Launch} {e : Env} {R : Room} {s : State} {m : MethodId} {args : Array Value} {below : List Frame} {meth : Method} {c : Code} {H : Heap} {locs : List Loc} {cells slots : Nat} {Q : State → Prop} {cc : ByteArray} {nL pc : Nat} {D : va_G} {cI cB cZ : ClassId} {g cn : Nat → Nat} {In : Nat → Int32} {Fn : Nat → Nat → Int32} {rest : List Value} {ls : Array Slot} {v : Value} (S : SF p m c cc nL s args RX12) (hK : KK D cI cB cZ s) (hP : va_P D vwCl (wM cI cB cZ g cn In Fn) H) (hv : .int (nI (cn 24)) = v) (hdg : decode cc pc = .ok (.getfield 264, 3)) (kk : W p l e R s m args below meth c H locs cells slots Q (F0 m (pc + 3) ls (v :: rest))) : W p l e R s m args below meth c H locs cells slots Q (F0 m pc ls (.ref (g 100) :: rest)) :=
  va_get (C := RX12) (T := TX12) (N := 91) S.1 S.2.1 S.2.2.2.2 hin_RX12 S.2.2.2.1 hK.1 hP 0 rfl rfl 24 (by decide) (S.2.2.2.2 _ (wk6_11 5 rfl rfl)) (fun _ h9 => h9) (congrArg some hv) hdg kk
set_option maxRecDepth 100000 in
theorem pM_264 {p : Program} {l : Launch} {e : Env} {R : Room} {s : State} {m : MethodId} {args : Array Value} {below : List Frame} {meth : Method} {c : Code} {H : Heap} {locs : List Loc} {cells slots : Nat} {Q : State → Prop} {cc : ByteArray} {nL pc : Nat} {D : va_G} {cI cB cZ : ClassId} {g cn : Nat → Nat} {In : Nat → Int32} {Fn : Nat → Nat → Int32} {rest : List Value} {ls : Array Slot} {A : Nat → Prop} {H0 : Heap} (S : SF p m c cc nL s args RX12) (hK : KK D cI cB cZ s) (hP : va_P D vwCl (wM cI cB cZ g cn In Fn) H) (hD : va_D A (wM cI cB cZ g cn In Fn)) (hS : va_S A H0 H locs) {x : Int32} {a : Nat} {cn2 : Nat → Nat} (hx2 : x = nI a) (hn2 : va_up cn 24 a = cn2) (hdg : decode cc pc = .ok (.putfield 264, 3)) (kk : ∀ (H1 : Heap) (locs1 : List Loc), va_P D vwCl (wM cI cB cZ g cn2 In Fn) H1 → va_D A (wM cI cB cZ g cn2 In Fn) → va_S A H0 H1 locs1 → W p l e R s m args below meth c H1 locs1 cells slots Q (F0 m (pc + 3) ls rest)) : W p l e R s m args below meth c H locs cells slots Q (F0 m pc ls (.int x :: .ref (g 100) :: rest)) := by
  subst hx2; subst hn2
  exact va_put (C := RX12) (T := TX12) (N := 91) S.1 S.2.1 S.2.2.2.2 hin_RX12 tyX12 tyX12_ok nmX12 S.2.2.2.1 hK.1 hP hD hS 0 rfl rfl 24 (by decide) (S.2.2.2.2 _ (wk6_11 5 rfl rfl)) (fun _ h9 => h9) rfl (tyX12_ok 24 (by decide)) rfl rfl (Nat.le_of_ble_eq_true rfl) hdg kk
set_option maxRecDepth 100000 in
theorem kV_RX12_267 : CalV RX12 267 yX12_top cX12_top 1 (some .int) 0 := ⟨⟨wk7_19 10 rfl rfl, wk8_0 0 rfl rfl, wT_sel 81 _ rfl rfl rfl, wk1_1 1 rfl rfl, wk8_0 1 rfl rfl⟩, ⟨nmh_13.1, nmh_13.2, pd_1⟩⟩
set_option maxRecDepth 100000 in
theorem kV_RX12_270 : CalV RX12 270 yX12_says cX12_says 3 none 2 := ⟨⟨wk7_18 8 rfl rfl, wk7_18 10 rfl rfl, wT_sel 79 _ rfl rfl rfl, wk1_1 1 rfl rfl, wk7_18 11 rfl rfl⟩, ⟨nmh_13.1, nmh_13.2, pd_20⟩⟩
set_option maxRecDepth 100000 in
theorem kV_RX12_274 : CalV RX12 274 yX12_opens cX12_opens 2 (some .boolean) 1 := ⟨⟨wk7_17 7 rfl rfl, wk7_17 9 rfl rfl, wT_sel 76 _ rfl rfl rfl, wk1_1 1 rfl rfl, wk7_17 10 rfl rfl⟩, ⟨nmh_13.1, nmh_13.2, pd_15⟩⟩
set_option maxRecDepth 100000 in
theorem kV_RX12_277 : CalV RX12 277 yX12_readsNumber cX12_readsNumber 2 (some .boolean) 0 := ⟨⟨wk7_18 4 rfl rfl, wk7_18 6 rfl rfl, wT_sel 78 _ rfl rfl rfl, wk1_1 1 rfl rfl, wk7_18 7 rfl rfl⟩, ⟨nmh_13.1, nmh_13.2, pd_3⟩⟩
set_option maxRecDepth 100000 in
theorem kS_RX12_280 : CalS RX12 280 yX12_factOf cX12_factOf 1 (some .int) 1 := ⟨⟨wk7_19 0 rfl rfl, wk7_19 1 rfl rfl, wk1_1 1 rfl rfl, wk7_19 2 rfl rfl⟩, ⟨nmh_13.1, nmh_13.2, pd_8⟩⟩
set_option maxRecDepth 100000 in
theorem kV_RX12_284 : CalV RX12 284 yX12_readsFactor cX12_readsFactor 2 (some .boolean) 0 := ⟨⟨wk7_17 3 rfl rfl, wk7_17 5 rfl rfl, wT_sel 75 _ rfl rfl rfl, wk1_1 1 rfl rfl, wk7_17 6 rfl rfl⟩, ⟨nmh_13.1, nmh_13.2, pd_3⟩⟩
set_option maxRecDepth 100000 in
theorem kS_RX12_287 : CalS RX12 287 yX12_sumSign cX12_sumSign 1 (some .int) 1 := ⟨⟨wk7_19 3 rfl rfl, wk7_19 4 rfl rfl, wk1_1 1 rfl rfl, wk7_19 5 rfl rfl⟩, ⟨nmh_13.1, nmh_13.2, pd_8⟩⟩
set_option maxRecDepth 100000 in
theorem kV_RX12_290 : CalV RX12 290 yX12_closesSums cX12_closesSums 2 none 1 := ⟨⟨wk7_19 6 rfl rfl, wk7_19 8 rfl rfl, wT_sel 80 _ rfl rfl rfl, wk1_1 1 rfl rfl, wk7_19 9 rfl rfl⟩, ⟨nmh_13.1, nmh_13.2, pd_59⟩⟩
set_option maxRecDepth 100000 in
theorem kV_RX12_294 : CalV RX12 294 yX12_hasOpenSum cX12_hasOpenSum 3 (some .boolean) 1 := ⟨⟨wk8_0 2 rfl rfl, wk8_0 4 rfl rfl, wT_sel 82 _ rfl rfl rfl, wk1_1 1 rfl rfl, wk8_0 5 rfl rfl⟩, ⟨nmh_13.1, nmh_13.2, pd_15⟩⟩
set_option maxRecDepth 100000 in
theorem kV_RX12_297 : CalV RX12 297 yX12_readsSum cX12_readsSum 3 (some .boolean) 0 := ⟨⟨wk7_16 11 rfl rfl, wk7_17 1 rfl rfl, wT_sel 74 _ rfl rfl rfl, wk1_1 1 rfl rfl, wk7_17 2 rfl rfl⟩, ⟨nmh_13.1, nmh_13.2, pd_3⟩⟩
set_option maxRecDepth 100000 in
theorem kV_RX12_300 : CalV RX12 300 yX12_endsPiece cX12_endsPiece 1 none 0 := ⟨⟨wk8_1 2 rfl rfl, wk8_1 4 rfl rfl, wT_sel 85 _ rfl rfl rfl, wk1_1 1 rfl rfl, wk8_1 5 rfl rfl⟩, ⟨nmh_13.1, nmh_13.2, pd_2⟩⟩
set_option maxRecDepth 100000 in
theorem kV_RX12_303 : CalV RX12 303 yX12_readsCompared cX12_readsCompared 2 (some .boolean) 0 := ⟨⟨wk8_0 10 rfl rfl, wk8_1 0 rfl rfl, wT_sel 84 _ rfl rfl rfl, wk1_1 1 rfl rfl, wk8_1 1 rfl rfl⟩, ⟨nmh_13.1, nmh_13.2, pd_3⟩⟩
set_option maxRecDepth 100000 in
theorem kV_RX12_306 : CalV RX12 306 yX12_lands cX12_lands 3 none 1 := ⟨⟨wk8_1 6 rfl rfl, wk8_1 8 rfl rfl, wT_sel 86 _ rfl rfl rfl, wk1_1 1 rfl rfl, wk8_1 9 rfl rfl⟩, ⟨nmh_13.1, nmh_13.2, pd_59⟩⟩
set_option maxRecDepth 100000 in
theorem kV_RX12_309 : CalV RX12 309 yX12_jumps cX12_jumps 2 none 1 := ⟨⟨wk8_1 10 rfl rfl, wk8_2 0 rfl rfl, wT_sel 87 _ rfl rfl rfl, wk1_1 1 rfl rfl, wk8_2 1 rfl rfl⟩, ⟨nmh_13.1, nmh_13.2, pd_14⟩⟩
set_option maxRecDepth 100000 in
theorem gM_312 {p : Program} {l : Launch} {e : Env} {R : Room} {s : State} {m : MethodId} {args : Array Value} {below : List Frame} {meth : Method} {c : Code} {H : Heap} {locs : List Loc} {cells slots : Nat} {Q : State → Prop} {cc : ByteArray} {nL pc : Nat} {D : va_G} {cI cB cZ : ClassId} {g cn : Nat → Nat} {In : Nat → Int32} {Fn : Nat → Nat → Int32} {rest : List Value} {ls : Array Slot} {v : Value} (S : SF p m c cc nL s args RX12) (hK : KK D cI cB cZ s) (hP : va_P D vwCl (wM cI cB cZ g cn In Fn) H) (hv : .int (nI (cn 25)) = v) (hdg : decode cc pc = .ok (.getfield 312, 3)) (kk : W p l e R s m args below meth c H locs cells slots Q (F0 m (pc + 3) ls (v :: rest))) : W p l e R s m args below meth c H locs cells slots Q (F0 m pc ls (.ref (g 100) :: rest)) :=
  va_get (C := RX12) (T := TX12) (N := 91) S.1 S.2.1 S.2.2.2.2 hin_RX12 S.2.2.2.1 hK.1 hP 0 rfl rfl 25 (by decide) (S.2.2.2.2 _ (wk6_11 6 rfl rfl)) (fun _ h9 => h9) (congrArg some hv) hdg kk
set_option maxRecDepth 100000 in
theorem gM_62 {p : Program} {l : Launch} {e : Env} {R : Room} {s : State} {m : MethodId} {args : Array Value} {below : List Frame} {meth : Method} {c : Code} {H : Heap} {locs : List Loc} {cells slots : Nat} {Q : State → Prop} {cc : ByteArray} {nL pc : Nat} {D : va_G} {cI cB cZ : ClassId} {g cn : Nat → Nat} {In : Nat → Int32} {Fn : Nat → Nat → Int32} {rest : List Value} {ls : Array Slot} {v : Value} (S : SF p m c cc nL s args RX12) (hK : KK D cI cB cZ s) (hP : va_P D vwCl (wM cI cB cZ g cn In Fn) H) (hv : .ref (g 29) = v) (hdg : decode cc pc = .ok (.getfield 62, 3)) (kk : W p l e R s m args below meth c H locs cells slots Q (F0 m (pc + 3) ls (v :: rest))) : W p l e R s m args below meth c H locs cells slots Q (F0 m pc ls (.ref (g 100) :: rest)) :=
  va_get (C := RX12) (T := TX12) (N := 91) S.1 S.2.1 S.2.2.2.2 hin_RX12 S.2.2.2.1 hK.1 hP 0 rfl rfl 29 (by decide) (S.2.2.2.2 _ (wk6_11 10 rfl rfl)) (fun _ h9 => h9) (congrArg some hv) hdg kk
set_option maxRecDepth 100000 in
theorem gM_65 {p : Program} {l : Launch} {e : Env} {R : Room} {s : State} {m : MethodId} {args : Array Value} {below : List Frame} {meth : Method} {c : Code} {H : Heap} {locs : List Loc} {cells slots : Nat} {Q : State → Prop} {cc : ByteArray} {nL pc : Nat} {D : va_G} {cI cB cZ : ClassId} {g cn : Nat → Nat} {In : Nat → Int32} {Fn : Nat → Nat → Int32} {rest : List Value} {ls : Array Slot} {v : Value} (S : SF p m c cc nL s args RX12) (hK : KK D cI cB cZ s) (hP : va_P D vwCl (wM cI cB cZ g cn In Fn) H) (hv : .ref (g 30) = v) (hdg : decode cc pc = .ok (.getfield 65, 3)) (kk : W p l e R s m args below meth c H locs cells slots Q (F0 m (pc + 3) ls (v :: rest))) : W p l e R s m args below meth c H locs cells slots Q (F0 m pc ls (.ref (g 100) :: rest)) :=
  va_get (C := RX12) (T := TX12) (N := 91) S.1 S.2.1 S.2.2.2.2 hin_RX12 S.2.2.2.1 hK.1 hP 0 rfl rfl 30 (by decide) (S.2.2.2.2 _ (wk6_11 11 rfl rfl)) (fun _ h9 => h9) (congrArg some hv) hdg kk
set_option maxRecDepth 100000 in
theorem kV_RX12_315 : CalV RX12 315 yX12_readsCondition cX12_readsCondition 1 (some .boolean) 0 := ⟨⟨wk8_0 6 rfl rfl, wk8_0 8 rfl rfl, wT_sel 83 _ rfl rfl rfl, wk1_1 1 rfl rfl, wk8_0 9 rfl rfl⟩, ⟨nmh_13.1, nmh_13.2, pd_3⟩⟩
set_option maxRecDepth 100000 in
theorem gM_68 {p : Program} {l : Launch} {e : Env} {R : Room} {s : State} {m : MethodId} {args : Array Value} {below : List Frame} {meth : Method} {c : Code} {H : Heap} {locs : List Loc} {cells slots : Nat} {Q : State → Prop} {cc : ByteArray} {nL pc : Nat} {D : va_G} {cI cB cZ : ClassId} {g cn : Nat → Nat} {In : Nat → Int32} {Fn : Nat → Nat → Int32} {rest : List Value} {ls : Array Slot} {v : Value} (S : SF p m c cc nL s args RX12) (hK : KK D cI cB cZ s) (hP : va_P D vwCl (wM cI cB cZ g cn In Fn) H) (hv : .ref (g 31) = v) (hdg : decode cc pc = .ok (.getfield 68, 3)) (kk : W p l e R s m args below meth c H locs cells slots Q (F0 m (pc + 3) ls (v :: rest))) : W p l e R s m args below meth c H locs cells slots Q (F0 m pc ls (.ref (g 100) :: rest)) :=
  va_get (C := RX12) (T := TX12) (N := 91) S.1 S.2.1 S.2.2.2.2 hin_RX12 S.2.2.2.1 hK.1 hP 0 rfl rfl 31 (by decide) (S.2.2.2.2 _ (wk6_12 0 rfl rfl)) (fun _ h9 => h9) (congrArg some hv) hdg kk
set_option maxRecDepth 100000 in
theorem pM_312 {p : Program} {l : Launch} {e : Env} {R : Room} {s : State} {m : MethodId} {args : Array Value} {below : List Frame} {meth : Method} {c : Code} {H : Heap} {locs : List Loc} {cells slots : Nat} {Q : State → Prop} {cc : ByteArray} {nL pc : Nat} {D : va_G} {cI cB cZ : ClassId} {g cn : Nat → Nat} {In : Nat → Int32} {Fn : Nat → Nat → Int32} {rest : List Value} {ls : Array Slot} {A : Nat → Prop} {H0 : Heap} (S : SF p m c cc nL s args RX12) (hK : KK D cI cB cZ s) (hP : va_P D vwCl (wM cI cB cZ g cn In Fn) H) (hD : va_D A (wM cI cB cZ g cn In Fn)) (hS : va_S A H0 H locs) {x : Int32} {a : Nat} {cn2 : Nat → Nat} (hx2 : x = nI a) (hn2 : va_up cn 25 a = cn2) (hdg : decode cc pc = .ok (.putfield 312, 3)) (kk : ∀ (H1 : Heap) (locs1 : List Loc), va_P D vwCl (wM cI cB cZ g cn2 In Fn) H1 → va_D A (wM cI cB cZ g cn2 In Fn) → va_S A H0 H1 locs1 → W p l e R s m args below meth c H1 locs1 cells slots Q (F0 m (pc + 3) ls rest)) : W p l e R s m args below meth c H locs cells slots Q (F0 m pc ls (.int x :: .ref (g 100) :: rest)) := by
  subst hx2; subst hn2
  exact va_put (C := RX12) (T := TX12) (N := 91) S.1 S.2.1 S.2.2.2.2 hin_RX12 tyX12 tyX12_ok nmX12 S.2.2.2.1 hK.1 hP hD hS 0 rfl rfl 25 (by decide) (S.2.2.2.2 _ (wk6_11 6 rfl rfl)) (fun _ h9 => h9) rfl (tyX12_ok 25 (by decide)) rfl rfl (Nat.le_of_ble_eq_true rfl) hdg kk
set_option maxRecDepth 100000 in
theorem pM_236 {p : Program} {l : Launch} {e : Env} {R : Room} {s : State} {m : MethodId} {args : Array Value} {below : List Frame} {meth : Method} {c : Code} {H : Heap} {locs : List Loc} {cells slots : Nat} {Q : State → Prop} {cc : ByteArray} {nL pc : Nat} {D : va_G} {cI cB cZ : ClassId} {g cn : Nat → Nat} {In : Nat → Int32} {Fn : Nat → Nat → Int32} {rest : List Value} {ls : Array Slot} {A : Nat → Prop} {H0 : Heap} (S : SF p m c cc nL s args RX12) (hK : KK D cI cB cZ s) (hP : va_P D vwCl (wM cI cB cZ g cn In Fn) H) (hD : va_D A (wM cI cB cZ g cn In Fn)) (hS : va_S A H0 H locs) {x : Int32} {a : Nat} {cn2 : Nat → Nat} (hx2 : x = nI a) (hn2 : va_up cn 20 a = cn2) (hdg : decode cc pc = .ok (.putfield 236, 3)) (kk : ∀ (H1 : Heap) (locs1 : List Loc), va_P D vwCl (wM cI cB cZ g cn2 In Fn) H1 → va_D A (wM cI cB cZ g cn2 In Fn) → va_S A H0 H1 locs1 → W p l e R s m args below meth c H1 locs1 cells slots Q (F0 m (pc + 3) ls rest)) : W p l e R s m args below meth c H locs cells slots Q (F0 m pc ls (.int x :: .ref (g 100) :: rest)) := by
  subst hx2; subst hn2
  exact va_put (C := RX12) (T := TX12) (N := 91) S.1 S.2.1 S.2.2.2.2 hin_RX12 tyX12 tyX12_ok nmX12 S.2.2.2.1 hK.1 hP hD hS 0 rfl rfl 20 (by decide) (S.2.2.2.2 _ (wk6_11 1 rfl rfl)) (fun _ h9 => h9) rfl (tyX12_ok 20 (by decide)) rfl rfl (Nat.le_of_ble_eq_true rfl) hdg kk
set_option maxRecDepth 100000 in
theorem kV_RX12_318 : CalV RX12 318 yX12_readsClause cX12_readsClause 2 (some .boolean) 1 := ⟨⟨wk7_15 11 rfl rfl, wk7_16 1 rfl rfl, wT_sel 71 _ rfl rfl rfl, wk1_1 1 rfl rfl, wk7_16 2 rfl rfl⟩, ⟨nmh_13.1, nmh_13.2, pd_60⟩⟩
set_option maxRecDepth 100000 in
theorem kV_RX12_322 : CalV RX12 322 yX12_takes cX12_takes 2 (some .boolean) 1 := ⟨⟨wk8_2 2 rfl rfl, wk8_2 4 rfl rfl, wT_sel 88 _ rfl rfl rfl, wk1_1 1 rfl rfl, wk8_2 5 rfl rfl⟩, ⟨nmh_13.1, nmh_13.2, pd_15⟩⟩
set_option maxRecDepth 100000 in
theorem gM_243 {p : Program} {l : Launch} {e : Env} {R : Room} {s : State} {m : MethodId} {args : Array Value} {below : List Frame} {meth : Method} {c : Code} {H : Heap} {locs : List Loc} {cells slots : Nat} {Q : State → Prop} {cc : ByteArray} {nL pc : Nat} {D : va_G} {cI cB cZ : ClassId} {g cn : Nat → Nat} {In : Nat → Int32} {Fn : Nat → Nat → Int32} {rest : List Value} {ls : Array Slot} {v : Value} (S : SF p m c cc nL s args RX12) (hK : KK D cI cB cZ s) (hP : va_P D vwCl (wM cI cB cZ g cn In Fn) H) (hv : .int (In 21) = v) (hdg : decode cc pc = .ok (.getfield 243, 3)) (kk : W p l e R s m args below meth c H locs cells slots Q (F0 m (pc + 3) ls (v :: rest))) : W p l e R s m args below meth c H locs cells slots Q (F0 m pc ls (.ref (g 100) :: rest)) :=
  va_get (C := RX12) (T := TX12) (N := 91) S.1 S.2.1 S.2.2.2.2 hin_RX12 S.2.2.2.1 hK.1 hP 0 rfl rfl 21 (by decide) (S.2.2.2.2 _ (wk6_11 2 rfl rfl)) (fun _ h9 => h9) (congrArg some hv) hdg kk
set_option maxRecDepth 100000 in
theorem gM_74 {p : Program} {l : Launch} {e : Env} {R : Room} {s : State} {m : MethodId} {args : Array Value} {below : List Frame} {meth : Method} {c : Code} {H : Heap} {locs : List Loc} {cells slots : Nat} {Q : State → Prop} {cc : ByteArray} {nL pc : Nat} {D : va_G} {cI cB cZ : ClassId} {g cn : Nat → Nat} {In : Nat → Int32} {Fn : Nat → Nat → Int32} {rest : List Value} {ls : Array Slot} {v : Value} (S : SF p m c cc nL s args RX12) (hK : KK D cI cB cZ s) (hP : va_P D vwCl (wM cI cB cZ g cn In Fn) H) (hv : .ref (g 33) = v) (hdg : decode cc pc = .ok (.getfield 74, 3)) (kk : W p l e R s m args below meth c H locs cells slots Q (F0 m (pc + 3) ls (v :: rest))) : W p l e R s m args below meth c H locs cells slots Q (F0 m pc ls (.ref (g 100) :: rest)) :=
  va_get (C := RX12) (T := TX12) (N := 91) S.1 S.2.1 S.2.2.2.2 hin_RX12 S.2.2.2.1 hK.1 hP 0 rfl rfl 33 (by decide) (S.2.2.2.2 _ (wk6_12 2 rfl rfl)) (fun _ h9 => h9) (congrArg some hv) hdg kk
set_option maxRecDepth 100000 in
theorem gM_71 {p : Program} {l : Launch} {e : Env} {R : Room} {s : State} {m : MethodId} {args : Array Value} {below : List Frame} {meth : Method} {c : Code} {H : Heap} {locs : List Loc} {cells slots : Nat} {Q : State → Prop} {cc : ByteArray} {nL pc : Nat} {D : va_G} {cI cB cZ : ClassId} {g cn : Nat → Nat} {In : Nat → Int32} {Fn : Nat → Nat → Int32} {rest : List Value} {ls : Array Slot} {v : Value} (S : SF p m c cc nL s args RX12) (hK : KK D cI cB cZ s) (hP : va_P D vwCl (wM cI cB cZ g cn In Fn) H) (hv : .ref (g 32) = v) (hdg : decode cc pc = .ok (.getfield 71, 3)) (kk : W p l e R s m args below meth c H locs cells slots Q (F0 m (pc + 3) ls (v :: rest))) : W p l e R s m args below meth c H locs cells slots Q (F0 m pc ls (.ref (g 100) :: rest)) :=
  va_get (C := RX12) (T := TX12) (N := 91) S.1 S.2.1 S.2.2.2.2 hin_RX12 S.2.2.2.1 hK.1 hP 0 rfl rfl 32 (by decide) (S.2.2.2.2 _ (wk6_12 1 rfl rfl)) (fun _ h9 => h9) (congrArg some hv) hdg kk
set_option maxRecDepth 100000 in
theorem gM_77 {p : Program} {l : Launch} {e : Env} {R : Room} {s : State} {m : MethodId} {args : Array Value} {below : List Frame} {meth : Method} {c : Code} {H : Heap} {locs : List Loc} {cells slots : Nat} {Q : State → Prop} {cc : ByteArray} {nL pc : Nat} {D : va_G} {cI cB cZ : ClassId} {g cn : Nat → Nat} {In : Nat → Int32} {Fn : Nat → Nat → Int32} {rest : List Value} {ls : Array Slot} {v : Value} (S : SF p m c cc nL s args RX12) (hK : KK D cI cB cZ s) (hP : va_P D vwCl (wM cI cB cZ g cn In Fn) H) (hv : .ref (g 34) = v) (hdg : decode cc pc = .ok (.getfield 77, 3)) (kk : W p l e R s m args below meth c H locs cells slots Q (F0 m (pc + 3) ls (v :: rest))) : W p l e R s m args below meth c H locs cells slots Q (F0 m pc ls (.ref (g 100) :: rest)) :=
  va_get (C := RX12) (T := TX12) (N := 91) S.1 S.2.1 S.2.2.2.2 hin_RX12 S.2.2.2.1 hK.1 hP 0 rfl rfl 34 (by decide) (S.2.2.2.2 _ (wk6_12 3 rfl rfl)) (fun _ h9 => h9) (congrArg some hv) hdg kk
set_option maxRecDepth 100000 in
theorem gM_80 {p : Program} {l : Launch} {e : Env} {R : Room} {s : State} {m : MethodId} {args : Array Value} {below : List Frame} {meth : Method} {c : Code} {H : Heap} {locs : List Loc} {cells slots : Nat} {Q : State → Prop} {cc : ByteArray} {nL pc : Nat} {D : va_G} {cI cB cZ : ClassId} {g cn : Nat → Nat} {In : Nat → Int32} {Fn : Nat → Nat → Int32} {rest : List Value} {ls : Array Slot} {v : Value} (S : SF p m c cc nL s args RX12) (hK : KK D cI cB cZ s) (hP : va_P D vwCl (wM cI cB cZ g cn In Fn) H) (hv : .ref (g 35) = v) (hdg : decode cc pc = .ok (.getfield 80, 3)) (kk : W p l e R s m args below meth c H locs cells slots Q (F0 m (pc + 3) ls (v :: rest))) : W p l e R s m args below meth c H locs cells slots Q (F0 m pc ls (.ref (g 100) :: rest)) :=
  va_get (C := RX12) (T := TX12) (N := 91) S.1 S.2.1 S.2.2.2.2 hin_RX12 S.2.2.2.1 hK.1 hP 0 rfl rfl 35 (by decide) (S.2.2.2.2 _ (wk6_12 4 rfl rfl)) (fun _ h9 => h9) (congrArg some hv) hdg kk
set_option maxRecDepth 100000 in
theorem gM_83 {p : Program} {l : Launch} {e : Env} {R : Room} {s : State} {m : MethodId} {args : Array Value} {below : List Frame} {meth : Method} {c : Code} {H : Heap} {locs : List Loc} {cells slots : Nat} {Q : State → Prop} {cc : ByteArray} {nL pc : Nat} {D : va_G} {cI cB cZ : ClassId} {g cn : Nat → Nat} {In : Nat → Int32} {Fn : Nat → Nat → Int32} {rest : List Value} {ls : Array Slot} {v : Value} (S : SF p m c cc nL s args RX12) (hK : KK D cI cB cZ s) (hP : va_P D vwCl (wM cI cB cZ g cn In Fn) H) (hv : .ref (g 36) = v) (hdg : decode cc pc = .ok (.getfield 83, 3)) (kk : W p l e R s m args below meth c H locs cells slots Q (F0 m (pc + 3) ls (v :: rest))) : W p l e R s m args below meth c H locs cells slots Q (F0 m pc ls (.ref (g 100) :: rest)) :=
  va_get (C := RX12) (T := TX12) (N := 91) S.1 S.2.1 S.2.2.2.2 hin_RX12 S.2.2.2.1 hK.1 hP 0 rfl rfl 36 (by decide) (S.2.2.2.2 _ (wk6_12 5 rfl rfl)) (fun _ h9 => h9) (congrArg some hv) hdg kk
set_option maxRecDepth 100000 in
theorem kV_RX12_324 : CalV RX12 324 yX12_reads cX12_reads 6 (some .int) 2 := ⟨⟨wk7_15 7 rfl rfl, wk7_15 9 rfl rfl, wT_sel 70 _ rfl rfl rfl, wk1_1 1 rfl rfl, wk7_15 10 rfl rfl⟩, ⟨nmh_13.1, nmh_13.2, pd_17⟩⟩
set_option maxRecDepth 100000 in
theorem gM_86 {p : Program} {l : Launch} {e : Env} {R : Room} {s : State} {m : MethodId} {args : Array Value} {below : List Frame} {meth : Method} {c : Code} {H : Heap} {locs : List Loc} {cells slots : Nat} {Q : State → Prop} {cc : ByteArray} {nL pc : Nat} {D : va_G} {cI cB cZ : ClassId} {g cn : Nat → Nat} {In : Nat → Int32} {Fn : Nat → Nat → Int32} {rest : List Value} {ls : Array Slot} {v : Value} (S : SF p m c cc nL s args RX12) (hK : KK D cI cB cZ s) (hP : va_P D vwCl (wM cI cB cZ g cn In Fn) H) (hv : .ref (g 37) = v) (hdg : decode cc pc = .ok (.getfield 86, 3)) (kk : W p l e R s m args below meth c H locs cells slots Q (F0 m (pc + 3) ls (v :: rest))) : W p l e R s m args below meth c H locs cells slots Q (F0 m pc ls (.ref (g 100) :: rest)) :=
  va_get (C := RX12) (T := TX12) (N := 91) S.1 S.2.1 S.2.2.2.2 hin_RX12 S.2.2.2.1 hK.1 hP 0 rfl rfl 37 (by decide) (S.2.2.2.2 _ (wk6_12 6 rfl rfl)) (fun _ h9 => h9) (congrArg some hv) hdg kk
set_option maxRecDepth 100000 in
theorem gM_89 {p : Program} {l : Launch} {e : Env} {R : Room} {s : State} {m : MethodId} {args : Array Value} {below : List Frame} {meth : Method} {c : Code} {H : Heap} {locs : List Loc} {cells slots : Nat} {Q : State → Prop} {cc : ByteArray} {nL pc : Nat} {D : va_G} {cI cB cZ : ClassId} {g cn : Nat → Nat} {In : Nat → Int32} {Fn : Nat → Nat → Int32} {rest : List Value} {ls : Array Slot} {v : Value} (S : SF p m c cc nL s args RX12) (hK : KK D cI cB cZ s) (hP : va_P D vwCl (wM cI cB cZ g cn In Fn) H) (hv : .ref (g 38) = v) (hdg : decode cc pc = .ok (.getfield 89, 3)) (kk : W p l e R s m args below meth c H locs cells slots Q (F0 m (pc + 3) ls (v :: rest))) : W p l e R s m args below meth c H locs cells slots Q (F0 m pc ls (.ref (g 100) :: rest)) :=
  va_get (C := RX12) (T := TX12) (N := 91) S.1 S.2.1 S.2.2.2.2 hin_RX12 S.2.2.2.1 hK.1 hP 0 rfl rfl 38 (by decide) (S.2.2.2.2 _ (wk6_12 7 rfl rfl)) (fun _ h9 => h9) (congrArg some hv) hdg kk
set_option maxRecDepth 100000 in
theorem kS_RX12_327 : CalS RX12 327 yX12_reckon cX12_reckon 3 (some .int) 3 := ⟨⟨wk8_4 6 rfl rfl, wk8_4 7 rfl rfl, wk1_1 1 rfl rfl, wk8_4 8 rfl rfl⟩, ⟨nmh_13.1, nmh_13.2, pd_22⟩⟩
set_option maxRecDepth 100000 in
theorem gM_92 {p : Program} {l : Launch} {e : Env} {R : Room} {s : State} {m : MethodId} {args : Array Value} {below : List Frame} {meth : Method} {c : Code} {H : Heap} {locs : List Loc} {cells slots : Nat} {Q : State → Prop} {cc : ByteArray} {nL pc : Nat} {D : va_G} {cI cB cZ : ClassId} {g cn : Nat → Nat} {In : Nat → Int32} {Fn : Nat → Nat → Int32} {rest : List Value} {ls : Array Slot} {v : Value} (S : SF p m c cc nL s args RX12) (hK : KK D cI cB cZ s) (hP : va_P D vwCl (wM cI cB cZ g cn In Fn) H) (hv : .ref (g 39) = v) (hdg : decode cc pc = .ok (.getfield 92, 3)) (kk : W p l e R s m args below meth c H locs cells slots Q (F0 m (pc + 3) ls (v :: rest))) : W p l e R s m args below meth c H locs cells slots Q (F0 m pc ls (.ref (g 100) :: rest)) :=
  va_get (C := RX12) (T := TX12) (N := 91) S.1 S.2.1 S.2.2.2.2 hin_RX12 S.2.2.2.1 hK.1 hP 0 rfl rfl 39 (by decide) (S.2.2.2.2 _ (wk6_12 8 rfl rfl)) (fun _ h9 => h9) (congrArg some hv) hdg kk
set_option maxRecDepth 100000 in
theorem kV_RX12_331 : CalV RX12 331 yX12_comesTo cX12_comesTo 8 (some .int) 2 := ⟨⟨wk8_4 2 rfl rfl, wk8_4 4 rfl rfl, wT_sel 91 _ rfl rfl rfl, wk1_1 1 rfl rfl, wk8_4 5 rfl rfl⟩, ⟨nmh_13.1, nmh_13.2, pd_17⟩⟩
set_option maxRecDepth 100000 in
theorem kV_RX12_335 : CalV RX12 335 yX12_isLoad cX12_isLoad 2 (some .boolean) 1 := ⟨⟨wk8_3 6 rfl rfl, wk8_3 8 rfl rfl, wT_sel 89 _ rfl rfl rfl, wk1_1 1 rfl rfl, wk8_3 9 rfl rfl⟩, ⟨nmh_13.1, nmh_13.2, pd_15⟩⟩
set_option maxRecDepth 100000 in
theorem kV_RX12_338 : CalV RX12 338 yX12_penceFor cX12_penceFor 7 (some .int) 2 := ⟨⟨wk8_3 10 rfl rfl, wk8_4 0 rfl rfl, wT_sel 90 _ rfl rfl rfl, wk1_1 1 rfl rfl, wk8_4 1 rfl rfl⟩, ⟨nmh_13.1, nmh_13.2, pd_17⟩⟩
set_option maxRecDepth 100000 in
theorem kS_RX12_341 : CalS RX12 341 yX12_isDay cX12_isDay 1 (some .boolean) 1 := ⟨⟨wk8_5 2 rfl rfl, wk8_5 3 rfl rfl, wk1_1 1 rfl rfl, wk8_5 4 rfl rfl⟩, ⟨nmh_13.1, nmh_13.2, pd_15⟩⟩
set_option maxRecDepth 100000 in
theorem kS_RX12_344 : CalS RX12 344 yX12_choose cX12_choose 5 (some .long) 2 := ⟨⟨wk8_7 2 rfl rfl, wk8_7 3 rfl rfl, wk1_1 1 rfl rfl, wk8_7 4 rfl rfl⟩, ⟨nmh_13.1, nmh_13.2, pd_18⟩⟩
set_option maxRecDepth 100000 in
theorem kV_RX12_350 : CalV RX12 350 yX12_lacking cX12_lacking 3 (some .int) 0 := ⟨⟨wk8_6 6 rfl rfl, wk8_6 8 rfl rfl, wT_sel 92 _ rfl rfl rfl, wk1_1 1 rfl rfl, wk8_6 9 rfl rfl⟩, ⟨nmh_13.1, nmh_13.2, pd_1⟩⟩
set_option maxRecDepth 100000 in
theorem kV_RX12_353 : CalV RX12 353 yX12_byLot cX12_byLot 15 (some .long) 4 := ⟨⟨wk8_6 10 rfl rfl, wk8_7 0 rfl rfl, wT_sel 93 _ rfl rfl rfl, wk1_1 1 rfl rfl, wk8_7 1 rfl rfl⟩, ⟨nmh_13.1, nmh_13.2, pd_28⟩⟩
set_option maxRecDepth 100000 in
theorem gM_95 {p : Program} {l : Launch} {e : Env} {R : Room} {s : State} {m : MethodId} {args : Array Value} {below : List Frame} {meth : Method} {c : Code} {H : Heap} {locs : List Loc} {cells slots : Nat} {Q : State → Prop} {cc : ByteArray} {nL pc : Nat} {D : va_G} {cI cB cZ : ClassId} {g cn : Nat → Nat} {In : Nat → Int32} {Fn : Nat → Nat → Int32} {rest : List Value} {ls : Array Slot} {v : Value} (S : SF p m c cc nL s args RX12) (hK : KK D cI cB cZ s) (hP : va_P D vwCl (wM cI cB cZ g cn In Fn) H) (hv : .ref (g 40) = v) (hdg : decode cc pc = .ok (.getfield 95, 3)) (kk : W p l e R s m args below meth c H locs cells slots Q (F0 m (pc + 3) ls (v :: rest))) : W p l e R s m args below meth c H locs cells slots Q (F0 m pc ls (.ref (g 100) :: rest)) :=
  va_get (C := RX12) (T := TX12) (N := 91) S.1 S.2.1 S.2.2.2.2 hin_RX12 S.2.2.2.1 hK.1 hP 0 rfl rfl 40 (by decide) (S.2.2.2.2 _ (wk6_12 9 rfl rfl)) (fun _ h9 => h9) (congrArg some hv) hdg kk
set_option maxRecDepth 100000 in
theorem gM_98 {p : Program} {l : Launch} {e : Env} {R : Room} {s : State} {m : MethodId} {args : Array Value} {below : List Frame} {meth : Method} {c : Code} {H : Heap} {locs : List Loc} {cells slots : Nat} {Q : State → Prop} {cc : ByteArray} {nL pc : Nat} {D : va_G} {cI cB cZ : ClassId} {g cn : Nat → Nat} {In : Nat → Int32} {Fn : Nat → Nat → Int32} {rest : List Value} {ls : Array Slot} {v : Value} (S : SF p m c cc nL s args RX12) (hK : KK D cI cB cZ s) (hP : va_P D vwCl (wM cI cB cZ g cn In Fn) H) (hv : .ref (g 41) = v) (hdg : decode cc pc = .ok (.getfield 98, 3)) (kk : W p l e R s m args below meth c H locs cells slots Q (F0 m (pc + 3) ls (v :: rest))) : W p l e R s m args below meth c H locs cells slots Q (F0 m pc ls (.ref (g 100) :: rest)) :=
  va_get (C := RX12) (T := TX12) (N := 91) S.1 S.2.1 S.2.2.2.2 hin_RX12 S.2.2.2.1 hK.1 hP 0 rfl rfl 41 (by decide) (S.2.2.2.2 _ (wk6_12 10 rfl rfl)) (fun _ h9 => h9) (congrArg some hv) hdg kk
set_option maxRecDepth 100000 in
theorem kV_RX12_357 : CalV RX12 357 yX12_feastedOf cX12_feastedOf 5 (some .int) 1 := ⟨⟨wk8_9 1 rfl rfl, wk8_9 3 rfl rfl, wT_sel 94 _ rfl rfl rfl, wk1_1 1 rfl rfl, wk8_9 4 rfl rfl⟩, ⟨nmh_13.1, nmh_13.2, pd_8⟩⟩
set_option maxRecDepth 100000 in
theorem kS_RX12_360 : CalS RX12 360 yX12_apart cX12_apart 4 (some .int) 4 := ⟨⟨wk8_11 2 rfl rfl, wk8_11 3 rfl rfl, wk1_1 1 rfl rfl, wk8_11 4 rfl rfl⟩, ⟨nmh_13.1, nmh_13.2, pd_27⟩⟩
set_option maxRecDepth 100000 in
theorem gM_364 {p : Program} {l : Launch} {e : Env} {R : Room} {s : State} {m : MethodId} {args : Array Value} {below : List Frame} {meth : Method} {c : Code} {H : Heap} {locs : List Loc} {cells slots : Nat} {Q : State → Prop} {cc : ByteArray} {nL pc : Nat} {D : va_G} {cI cB cZ : ClassId} {g cn : Nat → Nat} {In : Nat → Int32} {Fn : Nat → Nat → Int32} {rest : List Value} {ls : Array Slot} {v : Value} (S : SF p m c cc nL s args RX12) (hK : KK D cI cB cZ s) (hP : va_P D vwCl (wM cI cB cZ g cn In Fn) H) (hv : .int (nI (cn 44)) = v) (hdg : decode cc pc = .ok (.getfield 364, 3)) (kk : W p l e R s m args below meth c H locs cells slots Q (F0 m (pc + 3) ls (v :: rest))) : W p l e R s m args below meth c H locs cells slots Q (F0 m pc ls (.ref (g 100) :: rest)) :=
  va_get (C := RX12) (T := TX12) (N := 91) S.1 S.2.1 S.2.2.2.2 hin_RX12 S.2.2.2.1 hK.1 hP 0 rfl rfl 44 (by decide) (S.2.2.2.2 _ (wk6_13 1 rfl rfl)) (fun _ h9 => h9) (congrArg some hv) hdg kk
set_option maxRecDepth 100000 in
theorem gM_101 {p : Program} {l : Launch} {e : Env} {R : Room} {s : State} {m : MethodId} {args : Array Value} {below : List Frame} {meth : Method} {c : Code} {H : Heap} {locs : List Loc} {cells slots : Nat} {Q : State → Prop} {cc : ByteArray} {nL pc : Nat} {D : va_G} {cI cB cZ : ClassId} {g cn : Nat → Nat} {In : Nat → Int32} {Fn : Nat → Nat → Int32} {rest : List Value} {ls : Array Slot} {v : Value} (S : SF p m c cc nL s args RX12) (hK : KK D cI cB cZ s) (hP : va_P D vwCl (wM cI cB cZ g cn In Fn) H) (hv : .ref (g 42) = v) (hdg : decode cc pc = .ok (.getfield 101, 3)) (kk : W p l e R s m args below meth c H locs cells slots Q (F0 m (pc + 3) ls (v :: rest))) : W p l e R s m args below meth c H locs cells slots Q (F0 m pc ls (.ref (g 100) :: rest)) :=
  va_get (C := RX12) (T := TX12) (N := 91) S.1 S.2.1 S.2.2.2.2 hin_RX12 S.2.2.2.1 hK.1 hP 0 rfl rfl 42 (by decide) (S.2.2.2.2 _ (wk6_12 11 rfl rfl)) (fun _ h9 => h9) (congrArg some hv) hdg kk
set_option maxRecDepth 100000 in
theorem kV_RX12_367 : CalV RX12 367 yX12_toDepot cX12_toDepot 2 (some .int) 1 := ⟨⟨wk8_10 5 rfl rfl, wk8_10 7 rfl rfl, wT_sel 97 _ rfl rfl rfl, wk1_1 1 rfl rfl, wk8_10 8 rfl rfl⟩, ⟨nmh_13.1, nmh_13.2, pd_8⟩⟩
set_option maxRecDepth 100000 in
theorem kV_RX12_371 : CalV RX12 371 yX12_way cX12_way 3 (some .int) 2 := ⟨⟨wk8_10 10 rfl rfl, wk8_11 0 rfl rfl, wT_sel 98 _ rfl rfl rfl, wk1_1 1 rfl rfl, wk8_11 1 rfl rfl⟩, ⟨nmh_13.1, nmh_13.2, pd_17⟩⟩
set_option maxRecDepth 100000 in
theorem gM_104 {p : Program} {l : Launch} {e : Env} {R : Room} {s : State} {m : MethodId} {args : Array Value} {below : List Frame} {meth : Method} {c : Code} {H : Heap} {locs : List Loc} {cells slots : Nat} {Q : State → Prop} {cc : ByteArray} {nL pc : Nat} {D : va_G} {cI cB cZ : ClassId} {g cn : Nat → Nat} {In : Nat → Int32} {Fn : Nat → Nat → Int32} {rest : List Value} {ls : Array Slot} {v : Value} (S : SF p m c cc nL s args RX12) (hK : KK D cI cB cZ s) (hP : va_P D vwCl (wM cI cB cZ g cn In Fn) H) (hv : .ref (g 43) = v) (hdg : decode cc pc = .ok (.getfield 104, 3)) (kk : W p l e R s m args below meth c H locs cells slots Q (F0 m (pc + 3) ls (v :: rest))) : W p l e R s m args below meth c H locs cells slots Q (F0 m pc ls (.ref (g 100) :: rest)) :=
  va_get (C := RX12) (T := TX12) (N := 91) S.1 S.2.1 S.2.2.2.2 hin_RX12 S.2.2.2.1 hK.1 hP 0 rfl rfl 43 (by decide) (S.2.2.2.2 _ (wk6_13 0 rfl rfl)) (fun _ h9 => h9) (congrArg some hv) hdg kk
set_option maxRecDepth 100000 in
theorem pM_374 {p : Program} {l : Launch} {e : Env} {R : Room} {s : State} {m : MethodId} {args : Array Value} {below : List Frame} {meth : Method} {c : Code} {H : Heap} {locs : List Loc} {cells slots : Nat} {Q : State → Prop} {cc : ByteArray} {nL pc : Nat} {D : va_G} {cI cB cZ : ClassId} {g cn : Nat → Nat} {In : Nat → Int32} {Fn : Nat → Nat → Int32} {rest : List Value} {ls : Array Slot} {A : Nat → Prop} {H0 : Heap} (S : SF p m c cc nL s args RX12) (hK : KK D cI cB cZ s) (hP : va_P D vwCl (wM cI cB cZ g cn In Fn) H) (hD : va_D A (wM cI cB cZ g cn In Fn)) (hS : va_S A H0 H locs) {x : Int32} {In2 : Nat → Int32} (hn2 : va_up In 45 x = In2) (hdg : decode cc pc = .ok (.putfield 374, 3)) (kk : ∀ (H1 : Heap) (locs1 : List Loc), va_P D vwCl (wM cI cB cZ g cn In2 Fn) H1 → va_D A (wM cI cB cZ g cn In2 Fn) → va_S A H0 H1 locs1 → W p l e R s m args below meth c H1 locs1 cells slots Q (F0 m (pc + 3) ls rest)) : W p l e R s m args below meth c H locs cells slots Q (F0 m pc ls (.int x :: .ref (g 100) :: rest)) := by
  subst hn2
  exact va_put (C := RX12) (T := TX12) (N := 91) S.1 S.2.1 S.2.2.2.2 hin_RX12 tyX12 tyX12_ok nmX12 S.2.2.2.1 hK.1 hP hD hS 0 rfl rfl 45 (by decide) (S.2.2.2.2 _ (wk6_13 2 rfl rfl)) (fun _ h9 => h9) rfl (tyX12_ok 45 (by decide)) rfl rfl (Nat.le_of_ble_eq_true rfl) hdg kk
set_option maxRecDepth 100000 in
theorem pM_364 {p : Program} {l : Launch} {e : Env} {R : Room} {s : State} {m : MethodId} {args : Array Value} {below : List Frame} {meth : Method} {c : Code} {H : Heap} {locs : List Loc} {cells slots : Nat} {Q : State → Prop} {cc : ByteArray} {nL pc : Nat} {D : va_G} {cI cB cZ : ClassId} {g cn : Nat → Nat} {In : Nat → Int32} {Fn : Nat → Nat → Int32} {rest : List Value} {ls : Array Slot} {A : Nat → Prop} {H0 : Heap} (S : SF p m c cc nL s args RX12) (hK : KK D cI cB cZ s) (hP : va_P D vwCl (wM cI cB cZ g cn In Fn) H) (hD : va_D A (wM cI cB cZ g cn In Fn)) (hS : va_S A H0 H locs) {x : Int32} {a : Nat} {cn2 : Nat → Nat} (hx2 : x = nI a) (hn2 : va_up cn 44 a = cn2) (hdg : decode cc pc = .ok (.putfield 364, 3)) (kk : ∀ (H1 : Heap) (locs1 : List Loc), va_P D vwCl (wM cI cB cZ g cn2 In Fn) H1 → va_D A (wM cI cB cZ g cn2 In Fn) → va_S A H0 H1 locs1 → W p l e R s m args below meth c H1 locs1 cells slots Q (F0 m (pc + 3) ls rest)) : W p l e R s m args below meth c H locs cells slots Q (F0 m pc ls (.int x :: .ref (g 100) :: rest)) := by
  subst hx2; subst hn2
  exact va_put (C := RX12) (T := TX12) (N := 91) S.1 S.2.1 S.2.2.2.2 hin_RX12 tyX12 tyX12_ok nmX12 S.2.2.2.1 hK.1 hP hD hS 0 rfl rfl 44 (by decide) (S.2.2.2.2 _ (wk6_13 1 rfl rfl)) (fun _ h9 => h9) rfl (tyX12_ok 44 (by decide)) rfl rfl (Nat.le_of_ble_eq_true rfl) hdg kk
set_option maxRecDepth 100000 in
theorem kV_RX12_377 : CalV RX12 377 yX12_goes cX12_goes 7 none 0 := ⟨⟨wk8_10 1 rfl rfl, wk8_10 3 rfl rfl, wT_sel 96 _ rfl rfl rfl, wk1_1 1 rfl rfl, wk8_10 4 rfl rfl⟩, ⟨nmh_13.1, nmh_13.2, pd_2⟩⟩
set_option maxRecDepth 100000 in
theorem kV_RX12_380 : CalV RX12 380 yX12_lays cX12_lays 5 (some .boolean) 3 := ⟨⟨wk8_9 9 rfl rfl, wk8_9 11 rfl rfl, wT_sel 95 _ rfl rfl rfl, wk1_1 1 rfl rfl, wk8_10 0 rfl rfl⟩, ⟨nmh_13.1, nmh_13.2, pd_26⟩⟩
set_option maxRecDepth 100000 in
theorem kV_RX12_383 : CalV RX12 383 yX12_nextOf cX12_nextOf 7 (some .int) 2 := ⟨⟨wk8_11 5 rfl rfl, wk8_11 7 rfl rfl, wT_sel 99 _ rfl rfl rfl, wk1_1 1 rfl rfl, wk8_11 8 rfl rfl⟩, ⟨nmh_13.1, nmh_13.2, pd_17⟩⟩
set_option maxRecDepth 100000 in
theorem gM_374 {p : Program} {l : Launch} {e : Env} {R : Room} {s : State} {m : MethodId} {args : Array Value} {below : List Frame} {meth : Method} {c : Code} {H : Heap} {locs : List Loc} {cells slots : Nat} {Q : State → Prop} {cc : ByteArray} {nL pc : Nat} {D : va_G} {cI cB cZ : ClassId} {g cn : Nat → Nat} {In : Nat → Int32} {Fn : Nat → Nat → Int32} {rest : List Value} {ls : Array Slot} {v : Value} (S : SF p m c cc nL s args RX12) (hK : KK D cI cB cZ s) (hP : va_P D vwCl (wM cI cB cZ g cn In Fn) H) (hv : .int (In 45) = v) (hdg : decode cc pc = .ok (.getfield 374, 3)) (kk : W p l e R s m args below meth c H locs cells slots Q (F0 m (pc + 3) ls (v :: rest))) : W p l e R s m args below meth c H locs cells slots Q (F0 m pc ls (.ref (g 100) :: rest)) :=
  va_get (C := RX12) (T := TX12) (N := 91) S.1 S.2.1 S.2.2.2.2 hin_RX12 S.2.2.2.1 hK.1 hP 0 rfl rfl 45 (by decide) (S.2.2.2.2 _ (wk6_13 2 rfl rfl)) (fun _ h9 => h9) (congrArg some hv) hdg kk
set_option maxRecDepth 100000 in
theorem gM_386 {p : Program} {l : Launch} {e : Env} {R : Room} {s : State} {m : MethodId} {args : Array Value} {below : List Frame} {meth : Method} {c : Code} {H : Heap} {locs : List Loc} {cells slots : Nat} {Q : State → Prop} {cc : ByteArray} {nL pc : Nat} {D : va_G} {cI cB cZ : ClassId} {g cn : Nat → Nat} {In : Nat → Int32} {Fn : Nat → Nat → Int32} {rest : List Value} {ls : Array Slot} {v : Value} (S : SF p m c cc nL s args RX12) (hK : KK D cI cB cZ s) (hP : va_P D vwCl (wM cI cB cZ g cn In Fn) H) (hv : .int (nI (cn 46)) = v) (hdg : decode cc pc = .ok (.getfield 386, 3)) (kk : W p l e R s m args below meth c H locs cells slots Q (F0 m (pc + 3) ls (v :: rest))) : W p l e R s m args below meth c H locs cells slots Q (F0 m pc ls (.ref (g 100) :: rest)) :=
  va_get (C := RX12) (T := TX12) (N := 91) S.1 S.2.1 S.2.2.2.2 hin_RX12 S.2.2.2.1 hK.1 hP 0 rfl rfl 46 (by decide) (S.2.2.2.2 _ (wk6_13 3 rfl rfl)) (fun _ h9 => h9) (congrArg some hv) hdg kk
set_option maxRecDepth 100000 in
theorem gM_107 {p : Program} {l : Launch} {e : Env} {R : Room} {s : State} {m : MethodId} {args : Array Value} {below : List Frame} {meth : Method} {c : Code} {H : Heap} {locs : List Loc} {cells slots : Nat} {Q : State → Prop} {cc : ByteArray} {nL pc : Nat} {D : va_G} {cI cB cZ : ClassId} {g cn : Nat → Nat} {In : Nat → Int32} {Fn : Nat → Nat → Int32} {rest : List Value} {ls : Array Slot} {v : Value} (S : SF p m c cc nL s args RX12) (hK : KK D cI cB cZ s) (hP : va_P D vwCl (wM cI cB cZ g cn In Fn) H) (hv : .ref (g 47) = v) (hdg : decode cc pc = .ok (.getfield 107, 3)) (kk : W p l e R s m args below meth c H locs cells slots Q (F0 m (pc + 3) ls (v :: rest))) : W p l e R s m args below meth c H locs cells slots Q (F0 m pc ls (.ref (g 100) :: rest)) :=
  va_get (C := RX12) (T := TX12) (N := 91) S.1 S.2.1 S.2.2.2.2 hin_RX12 S.2.2.2.1 hK.1 hP 0 rfl rfl 47 (by decide) (S.2.2.2.2 _ (wk6_13 4 rfl rfl)) (fun _ h9 => h9) (congrArg some hv) hdg kk
set_option maxRecDepth 100000 in
theorem pM_386 {p : Program} {l : Launch} {e : Env} {R : Room} {s : State} {m : MethodId} {args : Array Value} {below : List Frame} {meth : Method} {c : Code} {H : Heap} {locs : List Loc} {cells slots : Nat} {Q : State → Prop} {cc : ByteArray} {nL pc : Nat} {D : va_G} {cI cB cZ : ClassId} {g cn : Nat → Nat} {In : Nat → Int32} {Fn : Nat → Nat → Int32} {rest : List Value} {ls : Array Slot} {A : Nat → Prop} {H0 : Heap} (S : SF p m c cc nL s args RX12) (hK : KK D cI cB cZ s) (hP : va_P D vwCl (wM cI cB cZ g cn In Fn) H) (hD : va_D A (wM cI cB cZ g cn In Fn)) (hS : va_S A H0 H locs) {x : Int32} {a : Nat} {cn2 : Nat → Nat} (hx2 : x = nI a) (hn2 : va_up cn 46 a = cn2) (hdg : decode cc pc = .ok (.putfield 386, 3)) (kk : ∀ (H1 : Heap) (locs1 : List Loc), va_P D vwCl (wM cI cB cZ g cn2 In Fn) H1 → va_D A (wM cI cB cZ g cn2 In Fn) → va_S A H0 H1 locs1 → W p l e R s m args below meth c H1 locs1 cells slots Q (F0 m (pc + 3) ls rest)) : W p l e R s m args below meth c H locs cells slots Q (F0 m pc ls (.int x :: .ref (g 100) :: rest)) := by
  subst hx2; subst hn2
  exact va_put (C := RX12) (T := TX12) (N := 91) S.1 S.2.1 S.2.2.2.2 hin_RX12 tyX12 tyX12_ok nmX12 S.2.2.2.1 hK.1 hP hD hS 0 rfl rfl 46 (by decide) (S.2.2.2.2 _ (wk6_13 3 rfl rfl)) (fun _ h9 => h9) rfl (tyX12_ok 46 (by decide)) rfl rfl (Nat.le_of_ble_eq_true rfl) hdg kk
set_option maxRecDepth 100000 in
theorem gM_125 {p : Program} {l : Launch} {e : Env} {R : Room} {s : State} {m : MethodId} {args : Array Value} {below : List Frame} {meth : Method} {c : Code} {H : Heap} {locs : List Loc} {cells slots : Nat} {Q : State → Prop} {cc : ByteArray} {nL pc : Nat} {D : va_G} {cI cB cZ : ClassId} {g cn : Nat → Nat} {In : Nat → Int32} {Fn : Nat → Nat → Int32} {rest : List Value} {ls : Array Slot} {v : Value} (S : SF p m c cc nL s args RX12) (hK : KK D cI cB cZ s) (hP : va_P D vwCl (wM cI cB cZ g cn In Fn) H) (hv : .ref (g 53) = v) (hdg : decode cc pc = .ok (.getfield 125, 3)) (kk : W p l e R s m args below meth c H locs cells slots Q (F0 m (pc + 3) ls (v :: rest))) : W p l e R s m args below meth c H locs cells slots Q (F0 m pc ls (.ref (g 100) :: rest)) :=
  va_get (C := RX12) (T := TX12) (N := 91) S.1 S.2.1 S.2.2.2.2 hin_RX12 S.2.2.2.1 hK.1 hP 0 rfl rfl 53 (by decide) (S.2.2.2.2 _ (wk6_13 10 rfl rfl)) (fun _ h9 => h9) (congrArg some hv) hdg kk
set_option maxRecDepth 100000 in
theorem gM_110 {p : Program} {l : Launch} {e : Env} {R : Room} {s : State} {m : MethodId} {args : Array Value} {below : List Frame} {meth : Method} {c : Code} {H : Heap} {locs : List Loc} {cells slots : Nat} {Q : State → Prop} {cc : ByteArray} {nL pc : Nat} {D : va_G} {cI cB cZ : ClassId} {g cn : Nat → Nat} {In : Nat → Int32} {Fn : Nat → Nat → Int32} {rest : List Value} {ls : Array Slot} {v : Value} (S : SF p m c cc nL s args RX12) (hK : KK D cI cB cZ s) (hP : va_P D vwCl (wM cI cB cZ g cn In Fn) H) (hv : .ref (g 48) = v) (hdg : decode cc pc = .ok (.getfield 110, 3)) (kk : W p l e R s m args below meth c H locs cells slots Q (F0 m (pc + 3) ls (v :: rest))) : W p l e R s m args below meth c H locs cells slots Q (F0 m pc ls (.ref (g 100) :: rest)) :=
  va_get (C := RX12) (T := TX12) (N := 91) S.1 S.2.1 S.2.2.2.2 hin_RX12 S.2.2.2.1 hK.1 hP 0 rfl rfl 48 (by decide) (S.2.2.2.2 _ (wk6_13 5 rfl rfl)) (fun _ h9 => h9) (congrArg some hv) hdg kk
set_option maxRecDepth 100000 in
theorem gM_113 {p : Program} {l : Launch} {e : Env} {R : Room} {s : State} {m : MethodId} {args : Array Value} {below : List Frame} {meth : Method} {c : Code} {H : Heap} {locs : List Loc} {cells slots : Nat} {Q : State → Prop} {cc : ByteArray} {nL pc : Nat} {D : va_G} {cI cB cZ : ClassId} {g cn : Nat → Nat} {In : Nat → Int32} {Fn : Nat → Nat → Int32} {rest : List Value} {ls : Array Slot} {v : Value} (S : SF p m c cc nL s args RX12) (hK : KK D cI cB cZ s) (hP : va_P D vwCl (wM cI cB cZ g cn In Fn) H) (hv : .ref (g 49) = v) (hdg : decode cc pc = .ok (.getfield 113, 3)) (kk : W p l e R s m args below meth c H locs cells slots Q (F0 m (pc + 3) ls (v :: rest))) : W p l e R s m args below meth c H locs cells slots Q (F0 m pc ls (.ref (g 100) :: rest)) :=
  va_get (C := RX12) (T := TX12) (N := 91) S.1 S.2.1 S.2.2.2.2 hin_RX12 S.2.2.2.1 hK.1 hP 0 rfl rfl 49 (by decide) (S.2.2.2.2 _ (wk6_13 6 rfl rfl)) (fun _ h9 => h9) (congrArg some hv) hdg kk
set_option maxRecDepth 100000 in
theorem gM_116 {p : Program} {l : Launch} {e : Env} {R : Room} {s : State} {m : MethodId} {args : Array Value} {below : List Frame} {meth : Method} {c : Code} {H : Heap} {locs : List Loc} {cells slots : Nat} {Q : State → Prop} {cc : ByteArray} {nL pc : Nat} {D : va_G} {cI cB cZ : ClassId} {g cn : Nat → Nat} {In : Nat → Int32} {Fn : Nat → Nat → Int32} {rest : List Value} {ls : Array Slot} {v : Value} (S : SF p m c cc nL s args RX12) (hK : KK D cI cB cZ s) (hP : va_P D vwCl (wM cI cB cZ g cn In Fn) H) (hv : .ref (g 50) = v) (hdg : decode cc pc = .ok (.getfield 116, 3)) (kk : W p l e R s m args below meth c H locs cells slots Q (F0 m (pc + 3) ls (v :: rest))) : W p l e R s m args below meth c H locs cells slots Q (F0 m pc ls (.ref (g 100) :: rest)) :=
  va_get (C := RX12) (T := TX12) (N := 91) S.1 S.2.1 S.2.2.2.2 hin_RX12 S.2.2.2.1 hK.1 hP 0 rfl rfl 50 (by decide) (S.2.2.2.2 _ (wk6_13 7 rfl rfl)) (fun _ h9 => h9) (congrArg some hv) hdg kk
set_option maxRecDepth 100000 in
theorem kV_RX12_389 : CalV RX12 389 yX12_roundTo cX12_roundTo 5 (some .int) 1 := ⟨⟨wk8_13 1 rfl rfl, wk8_13 3 rfl rfl, wT_sel 101 _ rfl rfl rfl, wk1_1 1 rfl rfl, wk8_13 4 rfl rfl⟩, ⟨nmh_13.1, nmh_13.2, pd_8⟩⟩
set_option maxRecDepth 100000 in
theorem kV_RX12_392 : CalV RX12 392 yX12_sharedBy cX12_sharedBy 4 (some .int) 1 := ⟨⟨wk8_12 9 rfl rfl, wk8_12 11 rfl rfl, wT_sel 100 _ rfl rfl rfl, wk1_1 1 rfl rfl, wk8_13 0 rfl rfl⟩, ⟨nmh_13.1, nmh_13.2, pd_8⟩⟩
set_option maxRecDepth 100000 in
theorem gM_119 {p : Program} {l : Launch} {e : Env} {R : Room} {s : State} {m : MethodId} {args : Array Value} {below : List Frame} {meth : Method} {c : Code} {H : Heap} {locs : List Loc} {cells slots : Nat} {Q : State → Prop} {cc : ByteArray} {nL pc : Nat} {D : va_G} {cI cB cZ : ClassId} {g cn : Nat → Nat} {In : Nat → Int32} {Fn : Nat → Nat → Int32} {rest : List Value} {ls : Array Slot} {v : Value} (S : SF p m c cc nL s args RX12) (hK : KK D cI cB cZ s) (hP : va_P D vwCl (wM cI cB cZ g cn In Fn) H) (hv : .ref (g 51) = v) (hdg : decode cc pc = .ok (.getfield 119, 3)) (kk : W p l e R s m args below meth c H locs cells slots Q (F0 m (pc + 3) ls (v :: rest))) : W p l e R s m args below meth c H locs cells slots Q (F0 m pc ls (.ref (g 100) :: rest)) :=
  va_get (C := RX12) (T := TX12) (N := 91) S.1 S.2.1 S.2.2.2.2 hin_RX12 S.2.2.2.1 hK.1 hP 0 rfl rfl 51 (by decide) (S.2.2.2.2 _ (wk6_13 8 rfl rfl)) (fun _ h9 => h9) (congrArg some hv) hdg kk
set_option maxRecDepth 100000 in
theorem pM_395 {p : Program} {l : Launch} {e : Env} {R : Room} {s : State} {m : MethodId} {args : Array Value} {below : List Frame} {meth : Method} {c : Code} {H : Heap} {locs : List Loc} {cells slots : Nat} {Q : State → Prop} {cc : ByteArray} {nL pc : Nat} {D : va_G} {cI cB cZ : ClassId} {g cn : Nat → Nat} {In : Nat → Int32} {Fn : Nat → Nat → Int32} {rest : List Value} {ls : Array Slot} {A : Nat → Prop} {H0 : Heap} (S : SF p m c cc nL s args RX12) (hK : KK D cI cB cZ s) (hP : va_P D vwCl (wM cI cB cZ g cn In Fn) H) (hD : va_D A (wM cI cB cZ g cn In Fn)) (hS : va_S A H0 H locs) {x : Int32} {In2 : Nat → Int32} (hn2 : va_up In 54 x = In2) (hdg : decode cc pc = .ok (.putfield 395, 3)) (kk : ∀ (H1 : Heap) (locs1 : List Loc), va_P D vwCl (wM cI cB cZ g cn In2 Fn) H1 → va_D A (wM cI cB cZ g cn In2 Fn) → va_S A H0 H1 locs1 → W p l e R s m args below meth c H1 locs1 cells slots Q (F0 m (pc + 3) ls rest)) : W p l e R s m args below meth c H locs cells slots Q (F0 m pc ls (.int x :: .ref (g 100) :: rest)) := by
  subst hn2
  exact va_put (C := RX12) (T := TX12) (N := 91) S.1 S.2.1 S.2.2.2.2 hin_RX12 tyX12 tyX12_ok nmX12 S.2.2.2.1 hK.1 hP hD hS 0 rfl rfl 54 (by decide) (S.2.2.2.2 _ (wk6_13 11 rfl rfl)) (fun _ h9 => h9) rfl (tyX12_ok 54 (by decide)) rfl rfl (Nat.le_of_ble_eq_true rfl) hdg kk
set_option maxRecDepth 100000 in
theorem pM_398 {p : Program} {l : Launch} {e : Env} {R : Room} {s : State} {m : MethodId} {args : Array Value} {below : List Frame} {meth : Method} {c : Code} {H : Heap} {locs : List Loc} {cells slots : Nat} {Q : State → Prop} {cc : ByteArray} {nL pc : Nat} {D : va_G} {cI cB cZ : ClassId} {g cn : Nat → Nat} {In : Nat → Int32} {Fn : Nat → Nat → Int32} {rest : List Value} {ls : Array Slot} {A : Nat → Prop} {H0 : Heap} (S : SF p m c cc nL s args RX12) (hK : KK D cI cB cZ s) (hP : va_P D vwCl (wM cI cB cZ g cn In Fn) H) (hD : va_D A (wM cI cB cZ g cn In Fn)) (hS : va_S A H0 H locs) {x : Int32} {In2 : Nat → Int32} (hn2 : va_up In 55 x = In2) (hdg : decode cc pc = .ok (.putfield 398, 3)) (kk : ∀ (H1 : Heap) (locs1 : List Loc), va_P D vwCl (wM cI cB cZ g cn In2 Fn) H1 → va_D A (wM cI cB cZ g cn In2 Fn) → va_S A H0 H1 locs1 → W p l e R s m args below meth c H1 locs1 cells slots Q (F0 m (pc + 3) ls rest)) : W p l e R s m args below meth c H locs cells slots Q (F0 m pc ls (.int x :: .ref (g 100) :: rest)) := by
  subst hn2
  exact va_put (C := RX12) (T := TX12) (N := 91) S.1 S.2.1 S.2.2.2.2 hin_RX12 tyX12 tyX12_ok nmX12 S.2.2.2.1 hK.1 hP hD hS 0 rfl rfl 55 (by decide) (S.2.2.2.2 _ (wk6_14 0 rfl rfl)) (fun _ h9 => h9) rfl (tyX12_ok 55 (by decide)) rfl rfl (Nat.le_of_ble_eq_true rfl) hdg kk
set_option maxRecDepth 100000 in
theorem pM_401 {p : Program} {l : Launch} {e : Env} {R : Room} {s : State} {m : MethodId} {args : Array Value} {below : List Frame} {meth : Method} {c : Code} {H : Heap} {locs : List Loc} {cells slots : Nat} {Q : State → Prop} {cc : ByteArray} {nL pc : Nat} {D : va_G} {cI cB cZ : ClassId} {g cn : Nat → Nat} {In : Nat → Int32} {Fn : Nat → Nat → Int32} {rest : List Value} {ls : Array Slot} {A : Nat → Prop} {H0 : Heap} (S : SF p m c cc nL s args RX12) (hK : KK D cI cB cZ s) (hP : va_P D vwCl (wM cI cB cZ g cn In Fn) H) (hD : va_D A (wM cI cB cZ g cn In Fn)) (hS : va_S A H0 H locs) {x : Int32} {In2 : Nat → Int32} (hn2 : va_up In 56 x = In2) (hdg : decode cc pc = .ok (.putfield 401, 3)) (kk : ∀ (H1 : Heap) (locs1 : List Loc), va_P D vwCl (wM cI cB cZ g cn In2 Fn) H1 → va_D A (wM cI cB cZ g cn In2 Fn) → va_S A H0 H1 locs1 → W p l e R s m args below meth c H1 locs1 cells slots Q (F0 m (pc + 3) ls rest)) : W p l e R s m args below meth c H locs cells slots Q (F0 m pc ls (.int x :: .ref (g 100) :: rest)) := by
  subst hn2
  exact va_put (C := RX12) (T := TX12) (N := 91) S.1 S.2.1 S.2.2.2.2 hin_RX12 tyX12 tyX12_ok nmX12 S.2.2.2.1 hK.1 hP hD hS 0 rfl rfl 56 (by decide) (S.2.2.2.2 _ (wk6_14 1 rfl rfl)) (fun _ h9 => h9) rfl (tyX12_ok 56 (by decide)) rfl rfl (Nat.le_of_ble_eq_true rfl) hdg kk
set_option maxRecDepth 100000 in
theorem gM_395 {p : Program} {l : Launch} {e : Env} {R : Room} {s : State} {m : MethodId} {args : Array Value} {below : List Frame} {meth : Method} {c : Code} {H : Heap} {locs : List Loc} {cells slots : Nat} {Q : State → Prop} {cc : ByteArray} {nL pc : Nat} {D : va_G} {cI cB cZ : ClassId} {g cn : Nat → Nat} {In : Nat → Int32} {Fn : Nat → Nat → Int32} {rest : List Value} {ls : Array Slot} {v : Value} (S : SF p m c cc nL s args RX12) (hK : KK D cI cB cZ s) (hP : va_P D vwCl (wM cI cB cZ g cn In Fn) H) (hv : .int (In 54) = v) (hdg : decode cc pc = .ok (.getfield 395, 3)) (kk : W p l e R s m args below meth c H locs cells slots Q (F0 m (pc + 3) ls (v :: rest))) : W p l e R s m args below meth c H locs cells slots Q (F0 m pc ls (.ref (g 100) :: rest)) :=
  va_get (C := RX12) (T := TX12) (N := 91) S.1 S.2.1 S.2.2.2.2 hin_RX12 S.2.2.2.1 hK.1 hP 0 rfl rfl 54 (by decide) (S.2.2.2.2 _ (wk6_13 11 rfl rfl)) (fun _ h9 => h9) (congrArg some hv) hdg kk
set_option maxRecDepth 100000 in
theorem gM_398 {p : Program} {l : Launch} {e : Env} {R : Room} {s : State} {m : MethodId} {args : Array Value} {below : List Frame} {meth : Method} {c : Code} {H : Heap} {locs : List Loc} {cells slots : Nat} {Q : State → Prop} {cc : ByteArray} {nL pc : Nat} {D : va_G} {cI cB cZ : ClassId} {g cn : Nat → Nat} {In : Nat → Int32} {Fn : Nat → Nat → Int32} {rest : List Value} {ls : Array Slot} {v : Value} (S : SF p m c cc nL s args RX12) (hK : KK D cI cB cZ s) (hP : va_P D vwCl (wM cI cB cZ g cn In Fn) H) (hv : .int (In 55) = v) (hdg : decode cc pc = .ok (.getfield 398, 3)) (kk : W p l e R s m args below meth c H locs cells slots Q (F0 m (pc + 3) ls (v :: rest))) : W p l e R s m args below meth c H locs cells slots Q (F0 m pc ls (.ref (g 100) :: rest)) :=
  va_get (C := RX12) (T := TX12) (N := 91) S.1 S.2.1 S.2.2.2.2 hin_RX12 S.2.2.2.1 hK.1 hP 0 rfl rfl 55 (by decide) (S.2.2.2.2 _ (wk6_14 0 rfl rfl)) (fun _ h9 => h9) (congrArg some hv) hdg kk
set_option maxRecDepth 100000 in
theorem gM_401 {p : Program} {l : Launch} {e : Env} {R : Room} {s : State} {m : MethodId} {args : Array Value} {below : List Frame} {meth : Method} {c : Code} {H : Heap} {locs : List Loc} {cells slots : Nat} {Q : State → Prop} {cc : ByteArray} {nL pc : Nat} {D : va_G} {cI cB cZ : ClassId} {g cn : Nat → Nat} {In : Nat → Int32} {Fn : Nat → Nat → Int32} {rest : List Value} {ls : Array Slot} {v : Value} (S : SF p m c cc nL s args RX12) (hK : KK D cI cB cZ s) (hP : va_P D vwCl (wM cI cB cZ g cn In Fn) H) (hv : .int (In 56) = v) (hdg : decode cc pc = .ok (.getfield 401, 3)) (kk : W p l e R s m args below meth c H locs cells slots Q (F0 m (pc + 3) ls (v :: rest))) : W p l e R s m args below meth c H locs cells slots Q (F0 m pc ls (.ref (g 100) :: rest)) :=
  va_get (C := RX12) (T := TX12) (N := 91) S.1 S.2.1 S.2.2.2.2 hin_RX12 S.2.2.2.1 hK.1 hP 0 rfl rfl 56 (by decide) (S.2.2.2.2 _ (wk6_14 1 rfl rfl)) (fun _ h9 => h9) (congrArg some hv) hdg kk
set_option maxRecDepth 100000 in
theorem gM_122 {p : Program} {l : Launch} {e : Env} {R : Room} {s : State} {m : MethodId} {args : Array Value} {below : List Frame} {meth : Method} {c : Code} {H : Heap} {locs : List Loc} {cells slots : Nat} {Q : State → Prop} {cc : ByteArray} {nL pc : Nat} {D : va_G} {cI cB cZ : ClassId} {g cn : Nat → Nat} {In : Nat → Int32} {Fn : Nat → Nat → Int32} {rest : List Value} {ls : Array Slot} {v : Value} (S : SF p m c cc nL s args RX12) (hK : KK D cI cB cZ s) (hP : va_P D vwCl (wM cI cB cZ g cn In Fn) H) (hv : .ref (g 52) = v) (hdg : decode cc pc = .ok (.getfield 122, 3)) (kk : W p l e R s m args below meth c H locs cells slots Q (F0 m (pc + 3) ls (v :: rest))) : W p l e R s m args below meth c H locs cells slots Q (F0 m pc ls (.ref (g 100) :: rest)) :=
  va_get (C := RX12) (T := TX12) (N := 91) S.1 S.2.1 S.2.2.2.2 hin_RX12 S.2.2.2.1 hK.1 hP 0 rfl rfl 52 (by decide) (S.2.2.2.2 _ (wk6_13 9 rfl rfl)) (fun _ h9 => h9) (congrArg some hv) hdg kk
set_option maxRecDepth 100000 in
theorem kV_RX12_404 : CalV RX12 404 yX12_goNights cX12_goNights 6 (some .boolean) 3 := ⟨⟨wk8_13 9 rfl rfl, wk8_13 11 rfl rfl, wT_sel 102 _ rfl rfl rfl, wk1_1 1 rfl rfl, wk8_14 0 rfl rfl⟩, ⟨nmh_13.1, nmh_13.2, pd_26⟩⟩
set_option maxRecDepth 100000 in
theorem gM_407 {p : Program} {l : Launch} {e : Env} {R : Room} {s : State} {m : MethodId} {args : Array Value} {below : List Frame} {meth : Method} {c : Code} {H : Heap} {locs : List Loc} {cells slots : Nat} {Q : State → Prop} {cc : ByteArray} {nL pc : Nat} {D : va_G} {cI cB cZ : ClassId} {g cn : Nat → Nat} {In : Nat → Int32} {Fn : Nat → Nat → Int32} {rest : List Value} {ls : Array Slot} {v : Value} (S : SF p m c cc nL s args RX12) (hK : KK D cI cB cZ s) (hP : va_P D vwCl (wM cI cB cZ g cn In Fn) H) (hv : .int (nI (cn 57)) = v) (hdg : decode cc pc = .ok (.getfield 407, 3)) (kk : W p l e R s m args below meth c H locs cells slots Q (F0 m (pc + 3) ls (v :: rest))) : W p l e R s m args below meth c H locs cells slots Q (F0 m pc ls (.ref (g 100) :: rest)) :=
  va_get (C := RX12) (T := TX12) (N := 91) S.1 S.2.1 S.2.2.2.2 hin_RX12 S.2.2.2.1 hK.1 hP 0 rfl rfl 57 (by decide) (S.2.2.2.2 _ (wk6_14 2 rfl rfl)) (fun _ h9 => h9) (congrArg some hv) hdg kk
set_option maxRecDepth 100000 in
theorem pM_407 {p : Program} {l : Launch} {e : Env} {R : Room} {s : State} {m : MethodId} {args : Array Value} {below : List Frame} {meth : Method} {c : Code} {H : Heap} {locs : List Loc} {cells slots : Nat} {Q : State → Prop} {cc : ByteArray} {nL pc : Nat} {D : va_G} {cI cB cZ : ClassId} {g cn : Nat → Nat} {In : Nat → Int32} {Fn : Nat → Nat → Int32} {rest : List Value} {ls : Array Slot} {A : Nat → Prop} {H0 : Heap} (S : SF p m c cc nL s args RX12) (hK : KK D cI cB cZ s) (hP : va_P D vwCl (wM cI cB cZ g cn In Fn) H) (hD : va_D A (wM cI cB cZ g cn In Fn)) (hS : va_S A H0 H locs) {x : Int32} {a : Nat} {cn2 : Nat → Nat} (hx2 : x = nI a) (hn2 : va_up cn 57 a = cn2) (hdg : decode cc pc = .ok (.putfield 407, 3)) (kk : ∀ (H1 : Heap) (locs1 : List Loc), va_P D vwCl (wM cI cB cZ g cn2 In Fn) H1 → va_D A (wM cI cB cZ g cn2 In Fn) → va_S A H0 H1 locs1 → W p l e R s m args below meth c H1 locs1 cells slots Q (F0 m (pc + 3) ls rest)) : W p l e R s m args below meth c H locs cells slots Q (F0 m pc ls (.int x :: .ref (g 100) :: rest)) := by
  subst hx2; subst hn2
  exact va_put (C := RX12) (T := TX12) (N := 91) S.1 S.2.1 S.2.2.2.2 hin_RX12 tyX12 tyX12_ok nmX12 S.2.2.2.1 hK.1 hP hD hS 0 rfl rfl 57 (by decide) (S.2.2.2.2 _ (wk6_14 2 rfl rfl)) (fun _ h9 => h9) rfl (tyX12_ok 57 (by decide)) rfl rfl (Nat.le_of_ble_eq_true rfl) hdg kk
set_option maxRecDepth 100000 in
theorem gM_410 {p : Program} {l : Launch} {e : Env} {R : Room} {s : State} {m : MethodId} {args : Array Value} {below : List Frame} {meth : Method} {c : Code} {H : Heap} {locs : List Loc} {cells slots : Nat} {Q : State → Prop} {cc : ByteArray} {nL pc : Nat} {D : va_G} {cI cB cZ : ClassId} {g cn : Nat → Nat} {In : Nat → Int32} {Fn : Nat → Nat → Int32} {rest : List Value} {ls : Array Slot} {v : Value} (S : SF p m c cc nL s args RX12) (hK : KK D cI cB cZ s) (hP : va_P D vwCl (wM cI cB cZ g cn In Fn) H) (hv : .int (nI (cn 58)) = v) (hdg : decode cc pc = .ok (.getfield 410, 3)) (kk : W p l e R s m args below meth c H locs cells slots Q (F0 m (pc + 3) ls (v :: rest))) : W p l e R s m args below meth c H locs cells slots Q (F0 m pc ls (.ref (g 100) :: rest)) :=
  va_get (C := RX12) (T := TX12) (N := 91) S.1 S.2.1 S.2.2.2.2 hin_RX12 S.2.2.2.1 hK.1 hP 0 rfl rfl 58 (by decide) (S.2.2.2.2 _ (wk6_14 3 rfl rfl)) (fun _ h9 => h9) (congrArg some hv) hdg kk
set_option maxRecDepth 100000 in
theorem gM_129 {p : Program} {l : Launch} {e : Env} {R : Room} {s : State} {m : MethodId} {args : Array Value} {below : List Frame} {meth : Method} {c : Code} {H : Heap} {locs : List Loc} {cells slots : Nat} {Q : State → Prop} {cc : ByteArray} {nL pc : Nat} {D : va_G} {cI cB cZ : ClassId} {g cn : Nat → Nat} {In : Nat → Int32} {Fn : Nat → Nat → Int32} {rest : List Value} {ls : Array Slot} {v : Value} (S : SF p m c cc nL s args RX12) (hK : KK D cI cB cZ s) (hP : va_P D vwCl (wM cI cB cZ g cn In Fn) H) (hv : .ref (g 59) = v) (hdg : decode cc pc = .ok (.getfield 129, 3)) (kk : W p l e R s m args below meth c H locs cells slots Q (F0 m (pc + 3) ls (v :: rest))) : W p l e R s m args below meth c H locs cells slots Q (F0 m pc ls (.ref (g 100) :: rest)) :=
  va_get (C := RX12) (T := TX12) (N := 91) S.1 S.2.1 S.2.2.2.2 hin_RX12 S.2.2.2.1 hK.1 hP 0 rfl rfl 59 (by decide) (S.2.2.2.2 _ (wk6_14 4 rfl rfl)) (fun _ h9 => h9) (congrArg some hv) hdg kk
set_option maxRecDepth 100000 in
theorem gM_135 {p : Program} {l : Launch} {e : Env} {R : Room} {s : State} {m : MethodId} {args : Array Value} {below : List Frame} {meth : Method} {c : Code} {H : Heap} {locs : List Loc} {cells slots : Nat} {Q : State → Prop} {cc : ByteArray} {nL pc : Nat} {D : va_G} {cI cB cZ : ClassId} {g cn : Nat → Nat} {In : Nat → Int32} {Fn : Nat → Nat → Int32} {rest : List Value} {ls : Array Slot} {v : Value} (S : SF p m c cc nL s args RX12) (hK : KK D cI cB cZ s) (hP : va_P D vwCl (wM cI cB cZ g cn In Fn) H) (hv : .ref (g 61) = v) (hdg : decode cc pc = .ok (.getfield 135, 3)) (kk : W p l e R s m args below meth c H locs cells slots Q (F0 m (pc + 3) ls (v :: rest))) : W p l e R s m args below meth c H locs cells slots Q (F0 m pc ls (.ref (g 100) :: rest)) :=
  va_get (C := RX12) (T := TX12) (N := 91) S.1 S.2.1 S.2.2.2.2 hin_RX12 S.2.2.2.1 hK.1 hP 0 rfl rfl 61 (by decide) (S.2.2.2.2 _ (wk6_14 6 rfl rfl)) (fun _ h9 => h9) (congrArg some hv) hdg kk
set_option maxRecDepth 100000 in
theorem kV_RX12_413 : CalV RX12 413 yX12_isDrum cX12_isDrum 2 (some .boolean) 1 := ⟨⟨wk8_14 9 rfl rfl, wk8_14 11 rfl rfl, wT_sel 103 _ rfl rfl rfl, wk1_1 1 rfl rfl, wk8_15 0 rfl rfl⟩, ⟨nmh_13.1, nmh_13.2, pd_15⟩⟩
set_option maxRecDepth 100000 in
theorem kV_RX12_416 : CalV RX12 416 yX12_latest cX12_latest 5 (some .int) 2 := ⟨⟨wk8_15 1 rfl rfl, wk8_15 3 rfl rfl, wT_sel 104 _ rfl rfl rfl, wk1_1 1 rfl rfl, wk8_15 4 rfl rfl⟩, ⟨nmh_13.1, nmh_13.2, pd_17⟩⟩
set_option maxRecDepth 100000 in
theorem gM_132 {p : Program} {l : Launch} {e : Env} {R : Room} {s : State} {m : MethodId} {args : Array Value} {below : List Frame} {meth : Method} {c : Code} {H : Heap} {locs : List Loc} {cells slots : Nat} {Q : State → Prop} {cc : ByteArray} {nL pc : Nat} {D : va_G} {cI cB cZ : ClassId} {g cn : Nat → Nat} {In : Nat → Int32} {Fn : Nat → Nat → Int32} {rest : List Value} {ls : Array Slot} {v : Value} (S : SF p m c cc nL s args RX12) (hK : KK D cI cB cZ s) (hP : va_P D vwCl (wM cI cB cZ g cn In Fn) H) (hv : .ref (g 60) = v) (hdg : decode cc pc = .ok (.getfield 132, 3)) (kk : W p l e R s m args below meth c H locs cells slots Q (F0 m (pc + 3) ls (v :: rest))) : W p l e R s m args below meth c H locs cells slots Q (F0 m pc ls (.ref (g 100) :: rest)) :=
  va_get (C := RX12) (T := TX12) (N := 91) S.1 S.2.1 S.2.2.2.2 hin_RX12 S.2.2.2.1 hK.1 hP 0 rfl rfl 60 (by decide) (S.2.2.2.2 _ (wk6_14 5 rfl rfl)) (fun _ h9 => h9) (congrArg some hv) hdg kk
set_option maxRecDepth 100000 in
theorem pM_410 {p : Program} {l : Launch} {e : Env} {R : Room} {s : State} {m : MethodId} {args : Array Value} {below : List Frame} {meth : Method} {c : Code} {H : Heap} {locs : List Loc} {cells slots : Nat} {Q : State → Prop} {cc : ByteArray} {nL pc : Nat} {D : va_G} {cI cB cZ : ClassId} {g cn : Nat → Nat} {In : Nat → Int32} {Fn : Nat → Nat → Int32} {rest : List Value} {ls : Array Slot} {A : Nat → Prop} {H0 : Heap} (S : SF p m c cc nL s args RX12) (hK : KK D cI cB cZ s) (hP : va_P D vwCl (wM cI cB cZ g cn In Fn) H) (hD : va_D A (wM cI cB cZ g cn In Fn)) (hS : va_S A H0 H locs) {x : Int32} {a : Nat} {cn2 : Nat → Nat} (hx2 : x = nI a) (hn2 : va_up cn 58 a = cn2) (hdg : decode cc pc = .ok (.putfield 410, 3)) (kk : ∀ (H1 : Heap) (locs1 : List Loc), va_P D vwCl (wM cI cB cZ g cn2 In Fn) H1 → va_D A (wM cI cB cZ g cn2 In Fn) → va_S A H0 H1 locs1 → W p l e R s m args below meth c H1 locs1 cells slots Q (F0 m (pc + 3) ls rest)) : W p l e R s m args below meth c H locs cells slots Q (F0 m pc ls (.int x :: .ref (g 100) :: rest)) := by
  subst hx2; subst hn2
  exact va_put (C := RX12) (T := TX12) (N := 91) S.1 S.2.1 S.2.2.2.2 hin_RX12 tyX12 tyX12_ok nmX12 S.2.2.2.1 hK.1 hP hD hS 0 rfl rfl 58 (by decide) (S.2.2.2.2 _ (wk6_14 3 rfl rfl)) (fun _ h9 => h9) rfl (tyX12_ok 58 (by decide)) rfl rfl (Nat.le_of_ble_eq_true rfl) hdg kk
set_option maxRecDepth 100000 in
theorem pM_419 {p : Program} {l : Launch} {e : Env} {R : Room} {s : State} {m : MethodId} {args : Array Value} {below : List Frame} {meth : Method} {c : Code} {H : Heap} {locs : List Loc} {cells slots : Nat} {Q : State → Prop} {cc : ByteArray} {nL pc : Nat} {D : va_G} {cI cB cZ : ClassId} {g cn : Nat → Nat} {In : Nat → Int32} {Fn : Nat → Nat → Int32} {rest : List Value} {ls : Array Slot} {A : Nat → Prop} {H0 : Heap} (S : SF p m c cc nL s args RX12) (hK : KK D cI cB cZ s) (hP : va_P D vwCl (wM cI cB cZ g cn In Fn) H) (hD : va_D A (wM cI cB cZ g cn In Fn)) (hS : va_S A H0 H locs) {x : Int32} {In2 : Nat → Int32} (hn2 : va_up In 71 x = In2) (hdg : decode cc pc = .ok (.putfield 419, 3)) (kk : ∀ (H1 : Heap) (locs1 : List Loc), va_P D vwCl (wM cI cB cZ g cn In2 Fn) H1 → va_D A (wM cI cB cZ g cn In2 Fn) → va_S A H0 H1 locs1 → W p l e R s m args below meth c H1 locs1 cells slots Q (F0 m (pc + 3) ls rest)) : W p l e R s m args below meth c H locs cells slots Q (F0 m pc ls (.int x :: .ref (g 100) :: rest)) := by
  subst hn2
  exact va_put (C := RX12) (T := TX12) (N := 91) S.1 S.2.1 S.2.2.2.2 hin_RX12 tyX12 tyX12_ok nmX12 S.2.2.2.1 hK.1 hP hD hS 0 rfl rfl 71 (by decide) (S.2.2.2.2 _ (wk6_15 4 rfl rfl)) (fun _ h9 => h9) rfl (tyX12_ok 71 (by decide)) rfl rfl (Nat.le_of_ble_eq_true rfl) hdg kk
set_option maxRecDepth 100000 in
theorem gM_419 {p : Program} {l : Launch} {e : Env} {R : Room} {s : State} {m : MethodId} {args : Array Value} {below : List Frame} {meth : Method} {c : Code} {H : Heap} {locs : List Loc} {cells slots : Nat} {Q : State → Prop} {cc : ByteArray} {nL pc : Nat} {D : va_G} {cI cB cZ : ClassId} {g cn : Nat → Nat} {In : Nat → Int32} {Fn : Nat → Nat → Int32} {rest : List Value} {ls : Array Slot} {v : Value} (S : SF p m c cc nL s args RX12) (hK : KK D cI cB cZ s) (hP : va_P D vwCl (wM cI cB cZ g cn In Fn) H) (hv : .int (In 71) = v) (hdg : decode cc pc = .ok (.getfield 419, 3)) (kk : W p l e R s m args below meth c H locs cells slots Q (F0 m (pc + 3) ls (v :: rest))) : W p l e R s m args below meth c H locs cells slots Q (F0 m pc ls (.ref (g 100) :: rest)) :=
  va_get (C := RX12) (T := TX12) (N := 91) S.1 S.2.1 S.2.2.2.2 hin_RX12 S.2.2.2.1 hK.1 hP 0 rfl rfl 71 (by decide) (S.2.2.2.2 _ (wk6_15 4 rfl rfl)) (fun _ h9 => h9) (congrArg some hv) hdg kk
set_option maxRecDepth 100000 in
theorem pM_422 {p : Program} {l : Launch} {e : Env} {R : Room} {s : State} {m : MethodId} {args : Array Value} {below : List Frame} {meth : Method} {c : Code} {H : Heap} {locs : List Loc} {cells slots : Nat} {Q : State → Prop} {cc : ByteArray} {nL pc : Nat} {D : va_G} {cI cB cZ : ClassId} {g cn : Nat → Nat} {In : Nat → Int32} {Fn : Nat → Nat → Int32} {rest : List Value} {ls : Array Slot} {A : Nat → Prop} {H0 : Heap} (S : SF p m c cc nL s args RX12) (hK : KK D cI cB cZ s) (hP : va_P D vwCl (wM cI cB cZ g cn In Fn) H) (hD : va_D A (wM cI cB cZ g cn In Fn)) (hS : va_S A H0 H locs) {x : Int32} {In2 : Nat → Int32} (hn2 : va_up In 72 x = In2) (hdg : decode cc pc = .ok (.putfield 422, 3)) (kk : ∀ (H1 : Heap) (locs1 : List Loc), va_P D vwCl (wM cI cB cZ g cn In2 Fn) H1 → va_D A (wM cI cB cZ g cn In2 Fn) → va_S A H0 H1 locs1 → W p l e R s m args below meth c H1 locs1 cells slots Q (F0 m (pc + 3) ls rest)) : W p l e R s m args below meth c H locs cells slots Q (F0 m pc ls (.int x :: .ref (g 100) :: rest)) := by
  subst hn2
  exact va_put (C := RX12) (T := TX12) (N := 91) S.1 S.2.1 S.2.2.2.2 hin_RX12 tyX12 tyX12_ok nmX12 S.2.2.2.1 hK.1 hP hD hS 0 rfl rfl 72 (by decide) (S.2.2.2.2 _ (wk6_15 5 rfl rfl)) (fun _ h9 => h9) rfl (tyX12_ok 72 (by decide)) rfl rfl (Nat.le_of_ble_eq_true rfl) hdg kk
set_option maxRecDepth 100000 in
theorem pM_425 {p : Program} {l : Launch} {e : Env} {R : Room} {s : State} {m : MethodId} {args : Array Value} {below : List Frame} {meth : Method} {c : Code} {H : Heap} {locs : List Loc} {cells slots : Nat} {Q : State → Prop} {cc : ByteArray} {nL pc : Nat} {D : va_G} {cI cB cZ : ClassId} {g cn : Nat → Nat} {In : Nat → Int32} {Fn : Nat → Nat → Int32} {rest : List Value} {ls : Array Slot} {A : Nat → Prop} {H0 : Heap} (S : SF p m c cc nL s args RX12) (hK : KK D cI cB cZ s) (hP : va_P D vwCl (wM cI cB cZ g cn In Fn) H) (hD : va_D A (wM cI cB cZ g cn In Fn)) (hS : va_S A H0 H locs) {x : Int32} {In2 : Nat → Int32} (hn2 : va_up In 73 x = In2) (hdg : decode cc pc = .ok (.putfield 425, 3)) (kk : ∀ (H1 : Heap) (locs1 : List Loc), va_P D vwCl (wM cI cB cZ g cn In2 Fn) H1 → va_D A (wM cI cB cZ g cn In2 Fn) → va_S A H0 H1 locs1 → W p l e R s m args below meth c H1 locs1 cells slots Q (F0 m (pc + 3) ls rest)) : W p l e R s m args below meth c H locs cells slots Q (F0 m pc ls (.int x :: .ref (g 100) :: rest)) := by
  subst hn2
  exact va_put (C := RX12) (T := TX12) (N := 91) S.1 S.2.1 S.2.2.2.2 hin_RX12 tyX12 tyX12_ok nmX12 S.2.2.2.1 hK.1 hP hD hS 0 rfl rfl 73 (by decide) (S.2.2.2.2 _ (wk6_15 6 rfl rfl)) (fun _ h9 => h9) rfl (tyX12_ok 73 (by decide)) rfl rfl (Nat.le_of_ble_eq_true rfl) hdg kk
set_option maxRecDepth 100000 in
theorem kV_RX12_428 : CalV RX12 428 yX12_mixes cX12_mixes 5 none 1 := ⟨⟨wk8_17 6 rfl rfl, wk8_17 8 rfl rfl, wT_sel 107 _ rfl rfl rfl, wk1_1 1 rfl rfl, wk8_17 9 rfl rfl⟩, ⟨nmh_13.1, nmh_13.2, pd_14⟩⟩
set_option maxRecDepth 100000 in
theorem gM_422 {p : Program} {l : Launch} {e : Env} {R : Room} {s : State} {m : MethodId} {args : Array Value} {below : List Frame} {meth : Method} {c : Code} {H : Heap} {locs : List Loc} {cells slots : Nat} {Q : State → Prop} {cc : ByteArray} {nL pc : Nat} {D : va_G} {cI cB cZ : ClassId} {g cn : Nat → Nat} {In : Nat → Int32} {Fn : Nat → Nat → Int32} {rest : List Value} {ls : Array Slot} {v : Value} (S : SF p m c cc nL s args RX12) (hK : KK D cI cB cZ s) (hP : va_P D vwCl (wM cI cB cZ g cn In Fn) H) (hv : .int (In 72) = v) (hdg : decode cc pc = .ok (.getfield 422, 3)) (kk : W p l e R s m args below meth c H locs cells slots Q (F0 m (pc + 3) ls (v :: rest))) : W p l e R s m args below meth c H locs cells slots Q (F0 m pc ls (.ref (g 100) :: rest)) :=
  va_get (C := RX12) (T := TX12) (N := 91) S.1 S.2.1 S.2.2.2.2 hin_RX12 S.2.2.2.1 hK.1 hP 0 rfl rfl 72 (by decide) (S.2.2.2.2 _ (wk6_15 5 rfl rfl)) (fun _ h9 => h9) (congrArg some hv) hdg kk
set_option maxRecDepth 100000 in
theorem gM_425 {p : Program} {l : Launch} {e : Env} {R : Room} {s : State} {m : MethodId} {args : Array Value} {below : List Frame} {meth : Method} {c : Code} {H : Heap} {locs : List Loc} {cells slots : Nat} {Q : State → Prop} {cc : ByteArray} {nL pc : Nat} {D : va_G} {cI cB cZ : ClassId} {g cn : Nat → Nat} {In : Nat → Int32} {Fn : Nat → Nat → Int32} {rest : List Value} {ls : Array Slot} {v : Value} (S : SF p m c cc nL s args RX12) (hK : KK D cI cB cZ s) (hP : va_P D vwCl (wM cI cB cZ g cn In Fn) H) (hv : .int (In 73) = v) (hdg : decode cc pc = .ok (.getfield 425, 3)) (kk : W p l e R s m args below meth c H locs cells slots Q (F0 m (pc + 3) ls (v :: rest))) : W p l e R s m args below meth c H locs cells slots Q (F0 m pc ls (.ref (g 100) :: rest)) :=
  va_get (C := RX12) (T := TX12) (N := 91) S.1 S.2.1 S.2.2.2.2 hin_RX12 S.2.2.2.1 hK.1 hP 0 rfl rfl 73 (by decide) (S.2.2.2.2 _ (wk6_15 6 rfl rfl)) (fun _ h9 => h9) (congrArg some hv) hdg kk
set_option maxRecDepth 100000 in
theorem kS_RX12_431 : CalS RX12 431 yX12_bits cX12_bits 3 (some .int) 1 := ⟨⟨wk8_17 10 rfl rfl, wk8_17 11 rfl rfl, wk1_1 1 rfl rfl, wk8_18 0 rfl rfl⟩, ⟨nmh_13.1, nmh_13.2, pd_8⟩⟩
set_option maxRecDepth 100000 in
theorem gM_435 {p : Program} {l : Launch} {e : Env} {R : Room} {s : State} {m : MethodId} {args : Array Value} {below : List Frame} {meth : Method} {c : Code} {H : Heap} {locs : List Loc} {cells slots : Nat} {Q : State → Prop} {cc : ByteArray} {nL pc : Nat} {D : va_G} {cI cB cZ : ClassId} {g cn : Nat → Nat} {In : Nat → Int32} {Fn : Nat → Nat → Int32} {rest : List Value} {ls : Array Slot} {v : Value} (S : SF p m c cc nL s args RX12) (hK : KK D cI cB cZ s) (hP : va_P D vwCl (wM cI cB cZ g cn In Fn) H) (hv : .int (nI (cn 62)) = v) (hdg : decode cc pc = .ok (.getfield 435, 3)) (kk : W p l e R s m args below meth c H locs cells slots Q (F0 m (pc + 3) ls (v :: rest))) : W p l e R s m args below meth c H locs cells slots Q (F0 m pc ls (.ref (g 100) :: rest)) :=
  va_get (C := RX12) (T := TX12) (N := 91) S.1 S.2.1 S.2.2.2.2 hin_RX12 S.2.2.2.1 hK.1 hP 0 rfl rfl 62 (by decide) (S.2.2.2.2 _ (wk6_14 7 rfl rfl)) (fun _ h9 => h9) (congrArg some hv) hdg kk
set_option maxRecDepth 100000 in
theorem kV_RX12_438 : CalV RX12 438 yX12_isFree cX12_isFree 2 (some .boolean) 1 := ⟨⟨wk8_16 10 rfl rfl, wk8_17 0 rfl rfl, wT_sel 105 _ rfl rfl rfl, wk1_1 1 rfl rfl, wk8_17 1 rfl rfl⟩, ⟨nmh_13.1, nmh_13.2, pd_15⟩⟩
set_option maxRecDepth 100000 in
theorem kV_RX12_441 : CalV RX12 441 yX12_whyNot cX12_whyNot 3 (some .int) 1 := ⟨⟨wk8_17 2 rfl rfl, wk8_17 4 rfl rfl, wT_sel 106 _ rfl rfl rfl, wk1_1 1 rfl rfl, wk8_17 5 rfl rfl⟩, ⟨nmh_13.1, nmh_13.2, pd_8⟩⟩
set_option maxRecDepth 100000 in
theorem gM_138 {p : Program} {l : Launch} {e : Env} {R : Room} {s : State} {m : MethodId} {args : Array Value} {below : List Frame} {meth : Method} {c : Code} {H : Heap} {locs : List Loc} {cells slots : Nat} {Q : State → Prop} {cc : ByteArray} {nL pc : Nat} {D : va_G} {cI cB cZ : ClassId} {g cn : Nat → Nat} {In : Nat → Int32} {Fn : Nat → Nat → Int32} {rest : List Value} {ls : Array Slot} {v : Value} (S : SF p m c cc nL s args RX12) (hK : KK D cI cB cZ s) (hP : va_P D vwCl (wM cI cB cZ g cn In Fn) H) (hv : .ref (g 64) = v) (hdg : decode cc pc = .ok (.getfield 138, 3)) (kk : W p l e R s m args below meth c H locs cells slots Q (F0 m (pc + 3) ls (v :: rest))) : W p l e R s m args below meth c H locs cells slots Q (F0 m pc ls (.ref (g 100) :: rest)) :=
  va_get (C := RX12) (T := TX12) (N := 91) S.1 S.2.1 S.2.2.2.2 hin_RX12 S.2.2.2.1 hK.1 hP 0 rfl rfl 64 (by decide) (S.2.2.2.2 _ (wk6_14 9 rfl rfl)) (fun _ h9 => h9) (congrArg some hv) hdg kk
set_option maxRecDepth 100000 in
theorem gM_141 {p : Program} {l : Launch} {e : Env} {R : Room} {s : State} {m : MethodId} {args : Array Value} {below : List Frame} {meth : Method} {c : Code} {H : Heap} {locs : List Loc} {cells slots : Nat} {Q : State → Prop} {cc : ByteArray} {nL pc : Nat} {D : va_G} {cI cB cZ : ClassId} {g cn : Nat → Nat} {In : Nat → Int32} {Fn : Nat → Nat → Int32} {rest : List Value} {ls : Array Slot} {v : Value} (S : SF p m c cc nL s args RX12) (hK : KK D cI cB cZ s) (hP : va_P D vwCl (wM cI cB cZ g cn In Fn) H) (hv : .ref (g 65) = v) (hdg : decode cc pc = .ok (.getfield 141, 3)) (kk : W p l e R s m args below meth c H locs cells slots Q (F0 m (pc + 3) ls (v :: rest))) : W p l e R s m args below meth c H locs cells slots Q (F0 m pc ls (.ref (g 100) :: rest)) :=
  va_get (C := RX12) (T := TX12) (N := 91) S.1 S.2.1 S.2.2.2.2 hin_RX12 S.2.2.2.1 hK.1 hP 0 rfl rfl 65 (by decide) (S.2.2.2.2 _ (wk6_14 10 rfl rfl)) (fun _ h9 => h9) (congrArg some hv) hdg kk
set_option maxRecDepth 100000 in
theorem pM_435 {p : Program} {l : Launch} {e : Env} {R : Room} {s : State} {m : MethodId} {args : Array Value} {below : List Frame} {meth : Method} {c : Code} {H : Heap} {locs : List Loc} {cells slots : Nat} {Q : State → Prop} {cc : ByteArray} {nL pc : Nat} {D : va_G} {cI cB cZ : ClassId} {g cn : Nat → Nat} {In : Nat → Int32} {Fn : Nat → Nat → Int32} {rest : List Value} {ls : Array Slot} {A : Nat → Prop} {H0 : Heap} (S : SF p m c cc nL s args RX12) (hK : KK D cI cB cZ s) (hP : va_P D vwCl (wM cI cB cZ g cn In Fn) H) (hD : va_D A (wM cI cB cZ g cn In Fn)) (hS : va_S A H0 H locs) {x : Int32} {a : Nat} {cn2 : Nat → Nat} (hx2 : x = nI a) (hn2 : va_up cn 62 a = cn2) (hdg : decode cc pc = .ok (.putfield 435, 3)) (kk : ∀ (H1 : Heap) (locs1 : List Loc), va_P D vwCl (wM cI cB cZ g cn2 In Fn) H1 → va_D A (wM cI cB cZ g cn2 In Fn) → va_S A H0 H1 locs1 → W p l e R s m args below meth c H1 locs1 cells slots Q (F0 m (pc + 3) ls rest)) : W p l e R s m args below meth c H locs cells slots Q (F0 m pc ls (.int x :: .ref (g 100) :: rest)) := by
  subst hx2; subst hn2
  exact va_put (C := RX12) (T := TX12) (N := 91) S.1 S.2.1 S.2.2.2.2 hin_RX12 tyX12 tyX12_ok nmX12 S.2.2.2.1 hK.1 hP hD hS 0 rfl rfl 62 (by decide) (S.2.2.2.2 _ (wk6_14 7 rfl rfl)) (fun _ h9 => h9) rfl (tyX12_ok 62 (by decide)) rfl rfl (Nat.le_of_ble_eq_true rfl) hdg kk
set_option maxRecDepth 100000 in
theorem kV_RX12_444 : CalV RX12 444 yX12_litresOf cX12_litresOf 2 (some .int) 1 := ⟨⟨wk8_18 9 rfl rfl, wk8_18 11 rfl rfl, wT_sel 109 _ rfl rfl rfl, wk1_1 1 rfl rfl, wk8_19 0 rfl rfl⟩, ⟨nmh_13.1, nmh_13.2, pd_8⟩⟩
set_option maxRecDepth 100000 in
theorem gM_447 {p : Program} {l : Launch} {e : Env} {R : Room} {s : State} {m : MethodId} {args : Array Value} {below : List Frame} {meth : Method} {c : Code} {H : Heap} {locs : List Loc} {cells slots : Nat} {Q : State → Prop} {cc : ByteArray} {nL pc : Nat} {D : va_G} {cI cB cZ : ClassId} {g cn : Nat → Nat} {In : Nat → Int32} {Fn : Nat → Nat → Int32} {rest : List Value} {ls : Array Slot} {v : Value} (S : SF p m c cc nL s args RX12) (hK : KK D cI cB cZ s) (hP : va_P D vwCl (wM cI cB cZ g cn In Fn) H) (hv : .int (nI (cn 63)) = v) (hdg : decode cc pc = .ok (.getfield 447, 3)) (kk : W p l e R s m args below meth c H locs cells slots Q (F0 m (pc + 3) ls (v :: rest))) : W p l e R s m args below meth c H locs cells slots Q (F0 m pc ls (.ref (g 100) :: rest)) :=
  va_get (C := RX12) (T := TX12) (N := 91) S.1 S.2.1 S.2.2.2.2 hin_RX12 S.2.2.2.1 hK.1 hP 0 rfl rfl 63 (by decide) (S.2.2.2.2 _ (wk6_14 8 rfl rfl)) (fun _ h9 => h9) (congrArg some hv) hdg kk
set_option maxRecDepth 100000 in
theorem gM_147 {p : Program} {l : Launch} {e : Env} {R : Room} {s : State} {m : MethodId} {args : Array Value} {below : List Frame} {meth : Method} {c : Code} {H : Heap} {locs : List Loc} {cells slots : Nat} {Q : State → Prop} {cc : ByteArray} {nL pc : Nat} {D : va_G} {cI cB cZ : ClassId} {g cn : Nat → Nat} {In : Nat → Int32} {Fn : Nat → Nat → Int32} {rest : List Value} {ls : Array Slot} {v : Value} (S : SF p m c cc nL s args RX12) (hK : KK D cI cB cZ s) (hP : va_P D vwCl (wM cI cB cZ g cn In Fn) H) (hv : .ref (g 67) = v) (hdg : decode cc pc = .ok (.getfield 147, 3)) (kk : W p l e R s m args below meth c H locs cells slots Q (F0 m (pc + 3) ls (v :: rest))) : W p l e R s m args below meth c H locs cells slots Q (F0 m pc ls (.ref (g 100) :: rest)) :=
  va_get (C := RX12) (T := TX12) (N := 91) S.1 S.2.1 S.2.2.2.2 hin_RX12 S.2.2.2.1 hK.1 hP 0 rfl rfl 67 (by decide) (S.2.2.2.2 _ (wk6_15 0 rfl rfl)) (fun _ h9 => h9) (congrArg some hv) hdg kk
set_option maxRecDepth 100000 in
theorem gM_150 {p : Program} {l : Launch} {e : Env} {R : Room} {s : State} {m : MethodId} {args : Array Value} {below : List Frame} {meth : Method} {c : Code} {H : Heap} {locs : List Loc} {cells slots : Nat} {Q : State → Prop} {cc : ByteArray} {nL pc : Nat} {D : va_G} {cI cB cZ : ClassId} {g cn : Nat → Nat} {In : Nat → Int32} {Fn : Nat → Nat → Int32} {rest : List Value} {ls : Array Slot} {v : Value} (S : SF p m c cc nL s args RX12) (hK : KK D cI cB cZ s) (hP : va_P D vwCl (wM cI cB cZ g cn In Fn) H) (hv : .ref (g 68) = v) (hdg : decode cc pc = .ok (.getfield 150, 3)) (kk : W p l e R s m args below meth c H locs cells slots Q (F0 m (pc + 3) ls (v :: rest))) : W p l e R s m args below meth c H locs cells slots Q (F0 m pc ls (.ref (g 100) :: rest)) :=
  va_get (C := RX12) (T := TX12) (N := 91) S.1 S.2.1 S.2.2.2.2 hin_RX12 S.2.2.2.1 hK.1 hP 0 rfl rfl 68 (by decide) (S.2.2.2.2 _ (wk6_15 1 rfl rfl)) (fun _ h9 => h9) (congrArg some hv) hdg kk
set_option maxRecDepth 100000 in
theorem gM_153 {p : Program} {l : Launch} {e : Env} {R : Room} {s : State} {m : MethodId} {args : Array Value} {below : List Frame} {meth : Method} {c : Code} {H : Heap} {locs : List Loc} {cells slots : Nat} {Q : State → Prop} {cc : ByteArray} {nL pc : Nat} {D : va_G} {cI cB cZ : ClassId} {g cn : Nat → Nat} {In : Nat → Int32} {Fn : Nat → Nat → Int32} {rest : List Value} {ls : Array Slot} {v : Value} (S : SF p m c cc nL s args RX12) (hK : KK D cI cB cZ s) (hP : va_P D vwCl (wM cI cB cZ g cn In Fn) H) (hv : .ref (g 69) = v) (hdg : decode cc pc = .ok (.getfield 153, 3)) (kk : W p l e R s m args below meth c H locs cells slots Q (F0 m (pc + 3) ls (v :: rest))) : W p l e R s m args below meth c H locs cells slots Q (F0 m pc ls (.ref (g 100) :: rest)) :=
  va_get (C := RX12) (T := TX12) (N := 91) S.1 S.2.1 S.2.2.2.2 hin_RX12 S.2.2.2.1 hK.1 hP 0 rfl rfl 69 (by decide) (S.2.2.2.2 _ (wk6_15 2 rfl rfl)) (fun _ h9 => h9) (congrArg some hv) hdg kk
set_option maxRecDepth 100000 in
theorem gM_156 {p : Program} {l : Launch} {e : Env} {R : Room} {s : State} {m : MethodId} {args : Array Value} {below : List Frame} {meth : Method} {c : Code} {H : Heap} {locs : List Loc} {cells slots : Nat} {Q : State → Prop} {cc : ByteArray} {nL pc : Nat} {D : va_G} {cI cB cZ : ClassId} {g cn : Nat → Nat} {In : Nat → Int32} {Fn : Nat → Nat → Int32} {rest : List Value} {ls : Array Slot} {v : Value} (S : SF p m c cc nL s args RX12) (hK : KK D cI cB cZ s) (hP : va_P D vwCl (wM cI cB cZ g cn In Fn) H) (hv : .ref (g 70) = v) (hdg : decode cc pc = .ok (.getfield 156, 3)) (kk : W p l e R s m args below meth c H locs cells slots Q (F0 m (pc + 3) ls (v :: rest))) : W p l e R s m args below meth c H locs cells slots Q (F0 m pc ls (.ref (g 100) :: rest)) :=
  va_get (C := RX12) (T := TX12) (N := 91) S.1 S.2.1 S.2.2.2.2 hin_RX12 S.2.2.2.1 hK.1 hP 0 rfl rfl 70 (by decide) (S.2.2.2.2 _ (wk6_15 3 rfl rfl)) (fun _ h9 => h9) (congrArg some hv) hdg kk
set_option maxRecDepth 100000 in
theorem kV_RX12_450 : CalV RX12 450 yX12_isBatch cX12_isBatch 2 (some .boolean) 1 := ⟨⟨wk8_18 5 rfl rfl, wk8_18 7 rfl rfl, wT_sel 108 _ rfl rfl rfl, wk1_1 1 rfl rfl, wk8_18 8 rfl rfl⟩, ⟨nmh_13.1, nmh_13.2, pd_15⟩⟩
set_option maxRecDepth 100000 in
theorem kV_RX12_453 : CalV RX12 453 yX12_proved cX12_proved 8 (some .int) 2 := ⟨⟨wk8_19 1 rfl rfl, wk8_19 3 rfl rfl, wT_sel 110 _ rfl rfl rfl, wk1_1 1 rfl rfl, wk8_19 4 rfl rfl⟩, ⟨nmh_13.1, nmh_13.2, pd_17⟩⟩
set_option maxRecDepth 100000 in
theorem gM_159 {p : Program} {l : Launch} {e : Env} {R : Room} {s : State} {m : MethodId} {args : Array Value} {below : List Frame} {meth : Method} {c : Code} {H : Heap} {locs : List Loc} {cells slots : Nat} {Q : State → Prop} {cc : ByteArray} {nL pc : Nat} {D : va_G} {cI cB cZ : ClassId} {g cn : Nat → Nat} {In : Nat → Int32} {Fn : Nat → Nat → Int32} {rest : List Value} {ls : Array Slot} {v : Value} (S : SF p m c cc nL s args RX12) (hK : KK D cI cB cZ s) (hP : va_P D vwCl (wM cI cB cZ g cn In Fn) H) (hv : .ref (g 74) = v) (hdg : decode cc pc = .ok (.getfield 159, 3)) (kk : W p l e R s m args below meth c H locs cells slots Q (F0 m (pc + 3) ls (v :: rest))) : W p l e R s m args below meth c H locs cells slots Q (F0 m pc ls (.ref (g 100) :: rest)) :=
  va_get (C := RX12) (T := TX12) (N := 91) S.1 S.2.1 S.2.2.2.2 hin_RX12 S.2.2.2.1 hK.1 hP 0 rfl rfl 74 (by decide) (S.2.2.2.2 _ (wk6_15 7 rfl rfl)) (fun _ h9 => h9) (congrArg some hv) hdg kk
set_option maxRecDepth 100000 in
theorem gM_144 {p : Program} {l : Launch} {e : Env} {R : Room} {s : State} {m : MethodId} {args : Array Value} {below : List Frame} {meth : Method} {c : Code} {H : Heap} {locs : List Loc} {cells slots : Nat} {Q : State → Prop} {cc : ByteArray} {nL pc : Nat} {D : va_G} {cI cB cZ : ClassId} {g cn : Nat → Nat} {In : Nat → Int32} {Fn : Nat → Nat → Int32} {rest : List Value} {ls : Array Slot} {v : Value} (S : SF p m c cc nL s args RX12) (hK : KK D cI cB cZ s) (hP : va_P D vwCl (wM cI cB cZ g cn In Fn) H) (hv : .ref (g 66) = v) (hdg : decode cc pc = .ok (.getfield 144, 3)) (kk : W p l e R s m args below meth c H locs cells slots Q (F0 m (pc + 3) ls (v :: rest))) : W p l e R s m args below meth c H locs cells slots Q (F0 m pc ls (.ref (g 100) :: rest)) :=
  va_get (C := RX12) (T := TX12) (N := 91) S.1 S.2.1 S.2.2.2.2 hin_RX12 S.2.2.2.1 hK.1 hP 0 rfl rfl 66 (by decide) (S.2.2.2.2 _ (wk6_14 11 rfl rfl)) (fun _ h9 => h9) (congrArg some hv) hdg kk
set_option maxRecDepth 100000 in
theorem pM_447 {p : Program} {l : Launch} {e : Env} {R : Room} {s : State} {m : MethodId} {args : Array Value} {below : List Frame} {meth : Method} {c : Code} {H : Heap} {locs : List Loc} {cells slots : Nat} {Q : State → Prop} {cc : ByteArray} {nL pc : Nat} {D : va_G} {cI cB cZ : ClassId} {g cn : Nat → Nat} {In : Nat → Int32} {Fn : Nat → Nat → Int32} {rest : List Value} {ls : Array Slot} {A : Nat → Prop} {H0 : Heap} (S : SF p m c cc nL s args RX12) (hK : KK D cI cB cZ s) (hP : va_P D vwCl (wM cI cB cZ g cn In Fn) H) (hD : va_D A (wM cI cB cZ g cn In Fn)) (hS : va_S A H0 H locs) {x : Int32} {a : Nat} {cn2 : Nat → Nat} (hx2 : x = nI a) (hn2 : va_up cn 63 a = cn2) (hdg : decode cc pc = .ok (.putfield 447, 3)) (kk : ∀ (H1 : Heap) (locs1 : List Loc), va_P D vwCl (wM cI cB cZ g cn2 In Fn) H1 → va_D A (wM cI cB cZ g cn2 In Fn) → va_S A H0 H1 locs1 → W p l e R s m args below meth c H1 locs1 cells slots Q (F0 m (pc + 3) ls rest)) : W p l e R s m args below meth c H locs cells slots Q (F0 m pc ls (.int x :: .ref (g 100) :: rest)) := by
  subst hx2; subst hn2
  exact va_put (C := RX12) (T := TX12) (N := 91) S.1 S.2.1 S.2.2.2.2 hin_RX12 tyX12 tyX12_ok nmX12 S.2.2.2.1 hK.1 hP hD hS 0 rfl rfl 63 (by decide) (S.2.2.2.2 _ (wk6_14 8 rfl rfl)) (fun _ h9 => h9) rfl (tyX12_ok 63 (by decide)) rfl rfl (Nat.le_of_ble_eq_true rfl) hdg kk
set_option maxRecDepth 100000 in
theorem kV_RX12_456 : CalV RX12 456 yX12_loadAt cX12_loadAt 5 (some .int) 2 := ⟨⟨wk9_1 1 rfl rfl, wk9_1 3 rfl rfl, wT_sel 111 _ rfl rfl rfl, wk1_1 1 rfl rfl, wk9_1 4 rfl rfl⟩, ⟨nmh_13.1, nmh_13.2, pd_17⟩⟩
set_option maxRecDepth 100000 in
theorem kV_RX12_459 : CalV RX12 459 yX12_isProof cX12_isProof 2 (some .boolean) 1 := ⟨⟨wk9_1 9 rfl rfl, wk9_1 11 rfl rfl, wT_sel 112 _ rfl rfl rfl, wk1_1 1 rfl rfl, wk9_2 0 rfl rfl⟩, ⟨nmh_13.1, nmh_13.2, pd_15⟩⟩
set_option maxRecDepth 100000 in
theorem gM_162 {p : Program} {l : Launch} {e : Env} {R : Room} {s : State} {m : MethodId} {args : Array Value} {below : List Frame} {meth : Method} {c : Code} {H : Heap} {locs : List Loc} {cells slots : Nat} {Q : State → Prop} {cc : ByteArray} {nL pc : Nat} {D : va_G} {cI cB cZ : ClassId} {g cn : Nat → Nat} {In : Nat → Int32} {Fn : Nat → Nat → Int32} {rest : List Value} {ls : Array Slot} {v : Value} (S : SF p m c cc nL s args RX12) (hK : KK D cI cB cZ s) (hP : va_P D vwCl (wM cI cB cZ g cn In Fn) H) (hv : .ref (g 76) = v) (hdg : decode cc pc = .ok (.getfield 162, 3)) (kk : W p l e R s m args below meth c H locs cells slots Q (F0 m (pc + 3) ls (v :: rest))) : W p l e R s m args below meth c H locs cells slots Q (F0 m pc ls (.ref (g 100) :: rest)) :=
  va_get (C := RX12) (T := TX12) (N := 91) S.1 S.2.1 S.2.2.2.2 hin_RX12 S.2.2.2.1 hK.1 hP 0 rfl rfl 76 (by decide) (S.2.2.2.2 _ (wk6_15 9 rfl rfl)) (fun _ h9 => h9) (congrArg some hv) hdg kk
set_option maxRecDepth 100000 in
theorem gM_165 {p : Program} {l : Launch} {e : Env} {R : Room} {s : State} {m : MethodId} {args : Array Value} {below : List Frame} {meth : Method} {c : Code} {H : Heap} {locs : List Loc} {cells slots : Nat} {Q : State → Prop} {cc : ByteArray} {nL pc : Nat} {D : va_G} {cI cB cZ : ClassId} {g cn : Nat → Nat} {In : Nat → Int32} {Fn : Nat → Nat → Int32} {rest : List Value} {ls : Array Slot} {v : Value} (S : SF p m c cc nL s args RX12) (hK : KK D cI cB cZ s) (hP : va_P D vwCl (wM cI cB cZ g cn In Fn) H) (hv : .ref (g 77) = v) (hdg : decode cc pc = .ok (.getfield 165, 3)) (kk : W p l e R s m args below meth c H locs cells slots Q (F0 m (pc + 3) ls (v :: rest))) : W p l e R s m args below meth c H locs cells slots Q (F0 m pc ls (.ref (g 100) :: rest)) :=
  va_get (C := RX12) (T := TX12) (N := 91) S.1 S.2.1 S.2.2.2.2 hin_RX12 S.2.2.2.1 hK.1 hP 0 rfl rfl 77 (by decide) (S.2.2.2.2 _ (wk6_15 10 rfl rfl)) (fun _ h9 => h9) (congrArg some hv) hdg kk
set_option maxRecDepth 100000 in
theorem gM_168 {p : Program} {l : Launch} {e : Env} {R : Room} {s : State} {m : MethodId} {args : Array Value} {below : List Frame} {meth : Method} {c : Code} {H : Heap} {locs : List Loc} {cells slots : Nat} {Q : State → Prop} {cc : ByteArray} {nL pc : Nat} {D : va_G} {cI cB cZ : ClassId} {g cn : Nat → Nat} {In : Nat → Int32} {Fn : Nat → Nat → Int32} {rest : List Value} {ls : Array Slot} {v : Value} (S : SF p m c cc nL s args RX12) (hK : KK D cI cB cZ s) (hP : va_P D vwCl (wM cI cB cZ g cn In Fn) H) (hv : .ref (g 78) = v) (hdg : decode cc pc = .ok (.getfield 168, 3)) (kk : W p l e R s m args below meth c H locs cells slots Q (F0 m (pc + 3) ls (v :: rest))) : W p l e R s m args below meth c H locs cells slots Q (F0 m pc ls (.ref (g 100) :: rest)) :=
  va_get (C := RX12) (T := TX12) (N := 91) S.1 S.2.1 S.2.2.2.2 hin_RX12 S.2.2.2.1 hK.1 hP 0 rfl rfl 78 (by decide) (S.2.2.2.2 _ (wk6_15 11 rfl rfl)) (fun _ h9 => h9) (congrArg some hv) hdg kk
set_option maxRecDepth 100000 in
theorem gM_171 {p : Program} {l : Launch} {e : Env} {R : Room} {s : State} {m : MethodId} {args : Array Value} {below : List Frame} {meth : Method} {c : Code} {H : Heap} {locs : List Loc} {cells slots : Nat} {Q : State → Prop} {cc : ByteArray} {nL pc : Nat} {D : va_G} {cI cB cZ : ClassId} {g cn : Nat → Nat} {In : Nat → Int32} {Fn : Nat → Nat → Int32} {rest : List Value} {ls : Array Slot} {v : Value} (S : SF p m c cc nL s args RX12) (hK : KK D cI cB cZ s) (hP : va_P D vwCl (wM cI cB cZ g cn In Fn) H) (hv : .ref (g 79) = v) (hdg : decode cc pc = .ok (.getfield 171, 3)) (kk : W p l e R s m args below meth c H locs cells slots Q (F0 m (pc + 3) ls (v :: rest))) : W p l e R s m args below meth c H locs cells slots Q (F0 m pc ls (.ref (g 100) :: rest)) :=
  va_get (C := RX12) (T := TX12) (N := 91) S.1 S.2.1 S.2.2.2.2 hin_RX12 S.2.2.2.1 hK.1 hP 0 rfl rfl 79 (by decide) (S.2.2.2.2 _ (wk6_16 0 rfl rfl)) (fun _ h9 => h9) (congrArg some hv) hdg kk
set_option maxRecDepth 100000 in
theorem gM_174 {p : Program} {l : Launch} {e : Env} {R : Room} {s : State} {m : MethodId} {args : Array Value} {below : List Frame} {meth : Method} {c : Code} {H : Heap} {locs : List Loc} {cells slots : Nat} {Q : State → Prop} {cc : ByteArray} {nL pc : Nat} {D : va_G} {cI cB cZ : ClassId} {g cn : Nat → Nat} {In : Nat → Int32} {Fn : Nat → Nat → Int32} {rest : List Value} {ls : Array Slot} {v : Value} (S : SF p m c cc nL s args RX12) (hK : KK D cI cB cZ s) (hP : va_P D vwCl (wM cI cB cZ g cn In Fn) H) (hv : .ref (g 80) = v) (hdg : decode cc pc = .ok (.getfield 174, 3)) (kk : W p l e R s m args below meth c H locs cells slots Q (F0 m (pc + 3) ls (v :: rest))) : W p l e R s m args below meth c H locs cells slots Q (F0 m pc ls (.ref (g 100) :: rest)) :=
  va_get (C := RX12) (T := TX12) (N := 91) S.1 S.2.1 S.2.2.2.2 hin_RX12 S.2.2.2.1 hK.1 hP 0 rfl rfl 80 (by decide) (S.2.2.2.2 _ (wk6_16 1 rfl rfl)) (fun _ h9 => h9) (congrArg some hv) hdg kk
set_option maxRecDepth 100000 in
theorem gM_462 {p : Program} {l : Launch} {e : Env} {R : Room} {s : State} {m : MethodId} {args : Array Value} {below : List Frame} {meth : Method} {c : Code} {H : Heap} {locs : List Loc} {cells slots : Nat} {Q : State → Prop} {cc : ByteArray} {nL pc : Nat} {D : va_G} {cI cB cZ : ClassId} {g cn : Nat → Nat} {In : Nat → Int32} {Fn : Nat → Nat → Int32} {rest : List Value} {ls : Array Slot} {v : Value} (S : SF p m c cc nL s args RX12) (hK : KK D cI cB cZ s) (hP : va_P D vwCl (wM cI cB cZ g cn In Fn) H) (hv : .int (nI (cn 75)) = v) (hdg : decode cc pc = .ok (.getfield 462, 3)) (kk : W p l e R s m args below meth c H locs cells slots Q (F0 m (pc + 3) ls (v :: rest))) : W p l e R s m args below meth c H locs cells slots Q (F0 m pc ls (.ref (g 100) :: rest)) :=
  va_get (C := RX12) (T := TX12) (N := 91) S.1 S.2.1 S.2.2.2.2 hin_RX12 S.2.2.2.1 hK.1 hP 0 rfl rfl 75 (by decide) (S.2.2.2.2 _ (wk6_15 8 rfl rfl)) (fun _ h9 => h9) (congrArg some hv) hdg kk
set_option maxRecDepth 100000 in
theorem gM_177 {p : Program} {l : Launch} {e : Env} {R : Room} {s : State} {m : MethodId} {args : Array Value} {below : List Frame} {meth : Method} {c : Code} {H : Heap} {locs : List Loc} {cells slots : Nat} {Q : State → Prop} {cc : ByteArray} {nL pc : Nat} {D : va_G} {cI cB cZ : ClassId} {g cn : Nat → Nat} {In : Nat → Int32} {Fn : Nat → Nat → Int32} {rest : List Value} {ls : Array Slot} {v : Value} (S : SF p m c cc nL s args RX12) (hK : KK D cI cB cZ s) (hP : va_P D vwCl (wM cI cB cZ g cn In Fn) H) (hv : .ref (g 81) = v) (hdg : decode cc pc = .ok (.getfield 177, 3)) (kk : W p l e R s m args below meth c H locs cells slots Q (F0 m (pc + 3) ls (v :: rest))) : W p l e R s m args below meth c H locs cells slots Q (F0 m pc ls (.ref (g 100) :: rest)) :=
  va_get (C := RX12) (T := TX12) (N := 91) S.1 S.2.1 S.2.2.2.2 hin_RX12 S.2.2.2.1 hK.1 hP 0 rfl rfl 81 (by decide) (S.2.2.2.2 _ (wk6_16 2 rfl rfl)) (fun _ h9 => h9) (congrArg some hv) hdg kk
set_option maxRecDepth 100000 in
theorem gM_180 {p : Program} {l : Launch} {e : Env} {R : Room} {s : State} {m : MethodId} {args : Array Value} {below : List Frame} {meth : Method} {c : Code} {H : Heap} {locs : List Loc} {cells slots : Nat} {Q : State → Prop} {cc : ByteArray} {nL pc : Nat} {D : va_G} {cI cB cZ : ClassId} {g cn : Nat → Nat} {In : Nat → Int32} {Fn : Nat → Nat → Int32} {rest : List Value} {ls : Array Slot} {v : Value} (S : SF p m c cc nL s args RX12) (hK : KK D cI cB cZ s) (hP : va_P D vwCl (wM cI cB cZ g cn In Fn) H) (hv : .ref (g 82) = v) (hdg : decode cc pc = .ok (.getfield 180, 3)) (kk : W p l e R s m args below meth c H locs cells slots Q (F0 m (pc + 3) ls (v :: rest))) : W p l e R s m args below meth c H locs cells slots Q (F0 m pc ls (.ref (g 100) :: rest)) :=
  va_get (C := RX12) (T := TX12) (N := 91) S.1 S.2.1 S.2.2.2.2 hin_RX12 S.2.2.2.1 hK.1 hP 0 rfl rfl 82 (by decide) (S.2.2.2.2 _ (wk6_16 3 rfl rfl)) (fun _ h9 => h9) (congrArg some hv) hdg kk
set_option maxRecDepth 100000 in
theorem pM_462 {p : Program} {l : Launch} {e : Env} {R : Room} {s : State} {m : MethodId} {args : Array Value} {below : List Frame} {meth : Method} {c : Code} {H : Heap} {locs : List Loc} {cells slots : Nat} {Q : State → Prop} {cc : ByteArray} {nL pc : Nat} {D : va_G} {cI cB cZ : ClassId} {g cn : Nat → Nat} {In : Nat → Int32} {Fn : Nat → Nat → Int32} {rest : List Value} {ls : Array Slot} {A : Nat → Prop} {H0 : Heap} (S : SF p m c cc nL s args RX12) (hK : KK D cI cB cZ s) (hP : va_P D vwCl (wM cI cB cZ g cn In Fn) H) (hD : va_D A (wM cI cB cZ g cn In Fn)) (hS : va_S A H0 H locs) {x : Int32} {a : Nat} {cn2 : Nat → Nat} (hx2 : x = nI a) (hn2 : va_up cn 75 a = cn2) (hdg : decode cc pc = .ok (.putfield 462, 3)) (kk : ∀ (H1 : Heap) (locs1 : List Loc), va_P D vwCl (wM cI cB cZ g cn2 In Fn) H1 → va_D A (wM cI cB cZ g cn2 In Fn) → va_S A H0 H1 locs1 → W p l e R s m args below meth c H1 locs1 cells slots Q (F0 m (pc + 3) ls rest)) : W p l e R s m args below meth c H locs cells slots Q (F0 m pc ls (.int x :: .ref (g 100) :: rest)) := by
  subst hx2; subst hn2
  exact va_put (C := RX12) (T := TX12) (N := 91) S.1 S.2.1 S.2.2.2.2 hin_RX12 tyX12 tyX12_ok nmX12 S.2.2.2.1 hK.1 hP hD hS 0 rfl rfl 75 (by decide) (S.2.2.2.2 _ (wk6_15 8 rfl rfl)) (fun _ h9 => h9) rfl (tyX12_ok 75 (by decide)) rfl rfl (Nat.le_of_ble_eq_true rfl) hdg kk
set_option maxRecDepth 100000 in
theorem kV_RX12_465 : CalV RX12 465 yX12_stockOn cX12_stockOn 4 (some .int) 1 := ⟨⟨wk9_5 1 rfl rfl, wk9_5 3 rfl rfl, wT_sel 113 _ rfl rfl rfl, wk1_1 1 rfl rfl, wk9_5 4 rfl rfl⟩, ⟨nmh_13.1, nmh_13.2, pd_8⟩⟩
set_option maxRecDepth 100000 in
theorem gM_183 {p : Program} {l : Launch} {e : Env} {R : Room} {s : State} {m : MethodId} {args : Array Value} {below : List Frame} {meth : Method} {c : Code} {H : Heap} {locs : List Loc} {cells slots : Nat} {Q : State → Prop} {cc : ByteArray} {nL pc : Nat} {D : va_G} {cI cB cZ : ClassId} {g cn : Nat → Nat} {In : Nat → Int32} {Fn : Nat → Nat → Int32} {rest : List Value} {ls : Array Slot} {v : Value} (S : SF p m c cc nL s args RX12) (hK : KK D cI cB cZ s) (hP : va_P D vwCl (wM cI cB cZ g cn In Fn) H) (hv : .ref (g 84) = v) (hdg : decode cc pc = .ok (.getfield 183, 3)) (kk : W p l e R s m args below meth c H locs cells slots Q (F0 m (pc + 3) ls (v :: rest))) : W p l e R s m args below meth c H locs cells slots Q (F0 m pc ls (.ref (g 100) :: rest)) :=
  va_get (C := RX12) (T := TX12) (N := 91) S.1 S.2.1 S.2.2.2.2 hin_RX12 S.2.2.2.1 hK.1 hP 0 rfl rfl 84 (by decide) (S.2.2.2.2 _ (wk6_16 5 rfl rfl)) (fun _ h9 => h9) (congrArg some hv) hdg kk
set_option maxRecDepth 100000 in
theorem gM_186 {p : Program} {l : Launch} {e : Env} {R : Room} {s : State} {m : MethodId} {args : Array Value} {below : List Frame} {meth : Method} {c : Code} {H : Heap} {locs : List Loc} {cells slots : Nat} {Q : State → Prop} {cc : ByteArray} {nL pc : Nat} {D : va_G} {cI cB cZ : ClassId} {g cn : Nat → Nat} {In : Nat → Int32} {Fn : Nat → Nat → Int32} {rest : List Value} {ls : Array Slot} {v : Value} (S : SF p m c cc nL s args RX12) (hK : KK D cI cB cZ s) (hP : va_P D vwCl (wM cI cB cZ g cn In Fn) H) (hv : .ref (g 85) = v) (hdg : decode cc pc = .ok (.getfield 186, 3)) (kk : W p l e R s m args below meth c H locs cells slots Q (F0 m (pc + 3) ls (v :: rest))) : W p l e R s m args below meth c H locs cells slots Q (F0 m pc ls (.ref (g 100) :: rest)) :=
  va_get (C := RX12) (T := TX12) (N := 91) S.1 S.2.1 S.2.2.2.2 hin_RX12 S.2.2.2.1 hK.1 hP 0 rfl rfl 85 (by decide) (S.2.2.2.2 _ (wk6_16 6 rfl rfl)) (fun _ h9 => h9) (congrArg some hv) hdg kk
set_option maxRecDepth 100000 in
theorem kV_RX12_469 : CalV RX12 469 yX12_comers cX12_comers 4 (some .int) 1 := ⟨⟨wk9_6 10 rfl rfl, wk9_7 0 rfl rfl, wT_sel 115 _ rfl rfl rfl, wk1_1 1 rfl rfl, wk9_7 1 rfl rfl⟩, ⟨nmh_13.1, nmh_13.2, pd_8⟩⟩
set_option maxRecDepth 100000 in
theorem kV_RX12_472 : CalV RX12 472 yX12_worthOf cX12_worthOf 6 (some .int) 2 := ⟨⟨wk9_6 6 rfl rfl, wk9_6 8 rfl rfl, wT_sel 114 _ rfl rfl rfl, wk1_1 1 rfl rfl, wk9_6 9 rfl rfl⟩, ⟨nmh_13.1, nmh_13.2, pd_17⟩⟩
set_option maxRecDepth 100000 in
theorem gM_189 {p : Program} {l : Launch} {e : Env} {R : Room} {s : State} {m : MethodId} {args : Array Value} {below : List Frame} {meth : Method} {c : Code} {H : Heap} {locs : List Loc} {cells slots : Nat} {Q : State → Prop} {cc : ByteArray} {nL pc : Nat} {D : va_G} {cI cB cZ : ClassId} {g cn : Nat → Nat} {In : Nat → Int32} {Fn : Nat → Nat → Int32} {rest : List Value} {ls : Array Slot} {v : Value} (S : SF p m c cc nL s args RX12) (hK : KK D cI cB cZ s) (hP : va_P D vwCl (wM cI cB cZ g cn In Fn) H) (hv : .ref (g 86) = v) (hdg : decode cc pc = .ok (.getfield 189, 3)) (kk : W p l e R s m args below meth c H locs cells slots Q (F0 m (pc + 3) ls (v :: rest))) : W p l e R s m args below meth c H locs cells slots Q (F0 m pc ls (.ref (g 100) :: rest)) :=
  va_get (C := RX12) (T := TX12) (N := 91) S.1 S.2.1 S.2.2.2.2 hin_RX12 S.2.2.2.1 hK.1 hP 0 rfl rfl 86 (by decide) (S.2.2.2.2 _ (wk6_16 7 rfl rfl)) (fun _ h9 => h9) (congrArg some hv) hdg kk
set_option maxRecDepth 100000 in
theorem kV_RX12_475 : CalV RX12 475 yX12_saves cX12_saves 5 (some .int) 2 := ⟨⟨wk9_8 2 rfl rfl, wk9_8 4 rfl rfl, wT_sel 116 _ rfl rfl rfl, wk1_1 1 rfl rfl, wk9_8 5 rfl rfl⟩, ⟨nmh_13.1, nmh_13.2, pd_17⟩⟩
set_option maxRecDepth 100000 in
theorem gM_478 {p : Program} {l : Launch} {e : Env} {R : Room} {s : State} {m : MethodId} {args : Array Value} {below : List Frame} {meth : Method} {c : Code} {H : Heap} {locs : List Loc} {cells slots : Nat} {Q : State → Prop} {cc : ByteArray} {nL pc : Nat} {D : va_G} {cI cB cZ : ClassId} {g cn : Nat → Nat} {In : Nat → Int32} {Fn : Nat → Nat → Int32} {rest : List Value} {ls : Array Slot} {v : Value} (S : SF p m c cc nL s args RX12) (hK : KK D cI cB cZ s) (hP : va_P D vwCl (wM cI cB cZ g cn In Fn) H) (hv : .int (nI (cn 83)) = v) (hdg : decode cc pc = .ok (.getfield 478, 3)) (kk : W p l e R s m args below meth c H locs cells slots Q (F0 m (pc + 3) ls (v :: rest))) : W p l e R s m args below meth c H locs cells slots Q (F0 m pc ls (.ref (g 100) :: rest)) :=
  va_get (C := RX12) (T := TX12) (N := 91) S.1 S.2.1 S.2.2.2.2 hin_RX12 S.2.2.2.1 hK.1 hP 0 rfl rfl 83 (by decide) (S.2.2.2.2 _ (wk6_16 4 rfl rfl)) (fun _ h9 => h9) (congrArg some hv) hdg kk
set_option maxRecDepth 100000 in
theorem gM_192 {p : Program} {l : Launch} {e : Env} {R : Room} {s : State} {m : MethodId} {args : Array Value} {below : List Frame} {meth : Method} {c : Code} {H : Heap} {locs : List Loc} {cells slots : Nat} {Q : State → Prop} {cc : ByteArray} {nL pc : Nat} {D : va_G} {cI cB cZ : ClassId} {g cn : Nat → Nat} {In : Nat → Int32} {Fn : Nat → Nat → Int32} {rest : List Value} {ls : Array Slot} {v : Value} (S : SF p m c cc nL s args RX12) (hK : KK D cI cB cZ s) (hP : va_P D vwCl (wM cI cB cZ g cn In Fn) H) (hv : .ref (g 87) = v) (hdg : decode cc pc = .ok (.getfield 192, 3)) (kk : W p l e R s m args below meth c H locs cells slots Q (F0 m (pc + 3) ls (v :: rest))) : W p l e R s m args below meth c H locs cells slots Q (F0 m pc ls (.ref (g 100) :: rest)) :=
  va_get (C := RX12) (T := TX12) (N := 91) S.1 S.2.1 S.2.2.2.2 hin_RX12 S.2.2.2.1 hK.1 hP 0 rfl rfl 87 (by decide) (S.2.2.2.2 _ (wk6_16 8 rfl rfl)) (fun _ h9 => h9) (congrArg some hv) hdg kk
set_option maxRecDepth 100000 in
theorem gM_195 {p : Program} {l : Launch} {e : Env} {R : Room} {s : State} {m : MethodId} {args : Array Value} {below : List Frame} {meth : Method} {c : Code} {H : Heap} {locs : List Loc} {cells slots : Nat} {Q : State → Prop} {cc : ByteArray} {nL pc : Nat} {D : va_G} {cI cB cZ : ClassId} {g cn : Nat → Nat} {In : Nat → Int32} {Fn : Nat → Nat → Int32} {rest : List Value} {ls : Array Slot} {v : Value} (S : SF p m c cc nL s args RX12) (hK : KK D cI cB cZ s) (hP : va_P D vwCl (wM cI cB cZ g cn In Fn) H) (hv : .ref (g 88) = v) (hdg : decode cc pc = .ok (.getfield 195, 3)) (kk : W p l e R s m args below meth c H locs cells slots Q (F0 m (pc + 3) ls (v :: rest))) : W p l e R s m args below meth c H locs cells slots Q (F0 m pc ls (.ref (g 100) :: rest)) :=
  va_get (C := RX12) (T := TX12) (N := 91) S.1 S.2.1 S.2.2.2.2 hin_RX12 S.2.2.2.1 hK.1 hP 0 rfl rfl 88 (by decide) (S.2.2.2.2 _ (wk6_16 9 rfl rfl)) (fun _ h9 => h9) (congrArg some hv) hdg kk
set_option maxRecDepth 100000 in
theorem pM_478 {p : Program} {l : Launch} {e : Env} {R : Room} {s : State} {m : MethodId} {args : Array Value} {below : List Frame} {meth : Method} {c : Code} {H : Heap} {locs : List Loc} {cells slots : Nat} {Q : State → Prop} {cc : ByteArray} {nL pc : Nat} {D : va_G} {cI cB cZ : ClassId} {g cn : Nat → Nat} {In : Nat → Int32} {Fn : Nat → Nat → Int32} {rest : List Value} {ls : Array Slot} {A : Nat → Prop} {H0 : Heap} (S : SF p m c cc nL s args RX12) (hK : KK D cI cB cZ s) (hP : va_P D vwCl (wM cI cB cZ g cn In Fn) H) (hD : va_D A (wM cI cB cZ g cn In Fn)) (hS : va_S A H0 H locs) {x : Int32} {a : Nat} {cn2 : Nat → Nat} (hx2 : x = nI a) (hn2 : va_up cn 83 a = cn2) (hdg : decode cc pc = .ok (.putfield 478, 3)) (kk : ∀ (H1 : Heap) (locs1 : List Loc), va_P D vwCl (wM cI cB cZ g cn2 In Fn) H1 → va_D A (wM cI cB cZ g cn2 In Fn) → va_S A H0 H1 locs1 → W p l e R s m args below meth c H1 locs1 cells slots Q (F0 m (pc + 3) ls rest)) : W p l e R s m args below meth c H locs cells slots Q (F0 m pc ls (.int x :: .ref (g 100) :: rest)) := by
  subst hx2; subst hn2
  exact va_put (C := RX12) (T := TX12) (N := 91) S.1 S.2.1 S.2.2.2.2 hin_RX12 tyX12 tyX12_ok nmX12 S.2.2.2.1 hK.1 hP hD hS 0 rfl rfl 83 (by decide) (S.2.2.2.2 _ (wk6_16 4 rfl rfl)) (fun _ h9 => h9) rfl (tyX12_ok 83 (by decide)) rfl rfl (Nat.le_of_ble_eq_true rfl) hdg kk
set_option maxRecDepth 100000 in
theorem gM_198 {p : Program} {l : Launch} {e : Env} {R : Room} {s : State} {m : MethodId} {args : Array Value} {below : List Frame} {meth : Method} {c : Code} {H : Heap} {locs : List Loc} {cells slots : Nat} {Q : State → Prop} {cc : ByteArray} {nL pc : Nat} {D : va_G} {cI cB cZ : ClassId} {g cn : Nat → Nat} {In : Nat → Int32} {Fn : Nat → Nat → Int32} {rest : List Value} {ls : Array Slot} {v : Value} (S : SF p m c cc nL s args RX12) (hK : KK D cI cB cZ s) (hP : va_P D vwCl (wM cI cB cZ g cn In Fn) H) (hv : .ref (g 89) = v) (hdg : decode cc pc = .ok (.getfield 198, 3)) (kk : W p l e R s m args below meth c H locs cells slots Q (F0 m (pc + 3) ls (v :: rest))) : W p l e R s m args below meth c H locs cells slots Q (F0 m pc ls (.ref (g 100) :: rest)) :=
  va_get (C := RX12) (T := TX12) (N := 91) S.1 S.2.1 S.2.2.2.2 hin_RX12 S.2.2.2.1 hK.1 hP 0 rfl rfl 89 (by decide) (S.2.2.2.2 _ (wk6_16 10 rfl rfl)) (fun _ h9 => h9) (congrArg some hv) hdg kk
set_option maxRecDepth 100000 in
theorem gM_201 {p : Program} {l : Launch} {e : Env} {R : Room} {s : State} {m : MethodId} {args : Array Value} {below : List Frame} {meth : Method} {c : Code} {H : Heap} {locs : List Loc} {cells slots : Nat} {Q : State → Prop} {cc : ByteArray} {nL pc : Nat} {D : va_G} {cI cB cZ : ClassId} {g cn : Nat → Nat} {In : Nat → Int32} {Fn : Nat → Nat → Int32} {rest : List Value} {ls : Array Slot} {v : Value} (S : SF p m c cc nL s args RX12) (hK : KK D cI cB cZ s) (hP : va_P D vwCl (wM cI cB cZ g cn In Fn) H) (hv : .ref (g 90) = v) (hdg : decode cc pc = .ok (.getfield 201, 3)) (kk : W p l e R s m args below meth c H locs cells slots Q (F0 m (pc + 3) ls (v :: rest))) : W p l e R s m args below meth c H locs cells slots Q (F0 m pc ls (.ref (g 100) :: rest)) :=
  va_get (C := RX12) (T := TX12) (N := 91) S.1 S.2.1 S.2.2.2.2 hin_RX12 S.2.2.2.1 hK.1 hP 0 rfl rfl 90 (by decide) (S.2.2.2.2 _ (wk6_16 11 rfl rfl)) (fun _ h9 => h9) (congrArg some hv) hdg kk
set_option maxRecDepth 100000 in
theorem kV_RX12_481 : CalV RX12 481 yX12_tapeNumber cX12_tapeNumber 4 (some .int) 1 := ⟨⟨wk9_10 10 rfl rfl, wk9_11 0 rfl rfl, wT_sel 117 _ rfl rfl rfl, wk1_1 1 rfl rfl, wk9_11 1 rfl rfl⟩, ⟨nmh_13.1, nmh_13.2, pd_8⟩⟩
set_option maxRecDepth 100000 in
theorem ldM_3 {p : Program} {l : Launch} {e : Env} {R : Room} {s : State} {m : MethodId} {args : Array Value} {below : List Frame} {meth : Method} {c : Code} {H : Heap} {locs : List Loc} {cells slots : Nat} {Q : State → Prop} {cc : ByteArray} {pc : Nat} {D : va_G} {cI cB cZ : ClassId} {g cn : Nat → Nat} {In : Nat → Int32} {Fn : Nat → Nat → Int32} {rest : List Value} {ls : Array Slot} {i : Int32} {ix : Nat} {x : Int32} (hx : p.tables.exec = Jvm.exec) (hb : c.code = cc) (hK : KK D cI cB cZ s) (hP : va_P D vwCl (wM cI cB cZ g cn In Fn) H) (hin : vp_in i 10) (hix : i.toNatClampNeg = ix) (hv : Fn 3 ix = x) (hdg : decode cc pc = .ok (.iaload, 1)) (kk : W p l e R s m args below meth c H locs cells slots Q (F0 m (pc + 1) ls (.int x :: rest))) : W p l e R s m args below meth c H locs cells slots Q (F0 m pc ls (.int i :: .ref (g 3) :: rest)) := by
  subst hix; subst hv
  exact va_iald hx hb hK.1 hP 1 0 rfl rfl hin hdg kk
set_option maxRecDepth 100000 in
theorem stM_3 {p : Program} {l : Launch} {e : Env} {R : Room} {s : State} {m : MethodId} {args : Array Value} {below : List Frame} {meth : Method} {c : Code} {H : Heap} {locs : List Loc} {cells slots : Nat} {Q : State → Prop} {cc : ByteArray} {pc : Nat} {D : va_G} {cI cB cZ : ClassId} {g cn : Nat → Nat} {In : Nat → Int32} {Fn : Nat → Nat → Int32} {rest : List Value} {ls : Array Slot} {A : Nat → Prop} {H0 : Heap} {i x : Int32} {ix : Nat} {Fn2 : Nat → Nat → Int32} (hx : p.tables.exec = Jvm.exec) (hb : c.code = cc) (hK : KK D cI cB cZ s) (hP : va_P D vwCl (wM cI cB cZ g cn In Fn) H) (hD : va_D A (wM cI cB cZ g cn In Fn)) (hS : va_S A H0 H locs) (hin : vp_in i 10) (hix : i.toNatClampNeg = ix) (hn2 : va_up Fn 3 (upd (Fn 3) ix x) = Fn2) (hdg : decode cc pc = .ok (.iastore, 1)) (kk : ∀ (H1 : Heap) (locs1 : List Loc), va_P D vwCl (wM cI cB cZ g cn In Fn2) H1 → va_D A (wM cI cB cZ g cn In Fn2) → va_S A H0 H1 locs1 → W p l e R s m args below meth c H1 locs1 cells slots Q (F0 m (pc + 1) ls rest)) : W p l e R s m args below meth c H locs cells slots Q (F0 m pc ls (.int x :: .int i :: .ref (g 3) :: rest)) := by
  subst hix; subst hn2
  exact va_iast hx hb hK.1 hP hD hS 1 0 rfl rfl hin hdg kk
set_option maxRecDepth 100000 in
theorem ldM_4 {p : Program} {l : Launch} {e : Env} {R : Room} {s : State} {m : MethodId} {args : Array Value} {below : List Frame} {meth : Method} {c : Code} {H : Heap} {locs : List Loc} {cells slots : Nat} {Q : State → Prop} {cc : ByteArray} {pc : Nat} {D : va_G} {cI cB cZ : ClassId} {g cn : Nat → Nat} {In : Nat → Int32} {Fn : Nat → Nat → Int32} {rest : List Value} {ls : Array Slot} {i : Int32} {ix : Nat} {x : Int32} (hx : p.tables.exec = Jvm.exec) (hb : c.code = cc) (hK : KK D cI cB cZ s) (hP : va_P D vwCl (wM cI cB cZ g cn In Fn) H) (hin : vp_in i 10) (hix : i.toNatClampNeg = ix) (hv : Fn 4 ix = x) (hdg : decode cc pc = .ok (.iaload, 1)) (kk : W p l e R s m args below meth c H locs cells slots Q (F0 m (pc + 1) ls (.int x :: rest))) : W p l e R s m args below meth c H locs cells slots Q (F0 m pc ls (.int i :: .ref (g 4) :: rest)) := by
  subst hix; subst hv
  exact va_iald hx hb hK.1 hP 2 0 rfl rfl hin hdg kk
set_option maxRecDepth 100000 in
theorem stM_4 {p : Program} {l : Launch} {e : Env} {R : Room} {s : State} {m : MethodId} {args : Array Value} {below : List Frame} {meth : Method} {c : Code} {H : Heap} {locs : List Loc} {cells slots : Nat} {Q : State → Prop} {cc : ByteArray} {pc : Nat} {D : va_G} {cI cB cZ : ClassId} {g cn : Nat → Nat} {In : Nat → Int32} {Fn : Nat → Nat → Int32} {rest : List Value} {ls : Array Slot} {A : Nat → Prop} {H0 : Heap} {i x : Int32} {ix : Nat} {Fn2 : Nat → Nat → Int32} (hx : p.tables.exec = Jvm.exec) (hb : c.code = cc) (hK : KK D cI cB cZ s) (hP : va_P D vwCl (wM cI cB cZ g cn In Fn) H) (hD : va_D A (wM cI cB cZ g cn In Fn)) (hS : va_S A H0 H locs) (hin : vp_in i 10) (hix : i.toNatClampNeg = ix) (hn2 : va_up Fn 4 (upd (Fn 4) ix x) = Fn2) (hdg : decode cc pc = .ok (.iastore, 1)) (kk : ∀ (H1 : Heap) (locs1 : List Loc), va_P D vwCl (wM cI cB cZ g cn In Fn2) H1 → va_D A (wM cI cB cZ g cn In Fn2) → va_S A H0 H1 locs1 → W p l e R s m args below meth c H1 locs1 cells slots Q (F0 m (pc + 1) ls rest)) : W p l e R s m args below meth c H locs cells slots Q (F0 m pc ls (.int x :: .int i :: .ref (g 4) :: rest)) := by
  subst hix; subst hn2
  exact va_iast hx hb hK.1 hP hD hS 2 0 rfl rfl hin hdg kk
set_option maxRecDepth 100000 in
theorem ldM_5 {p : Program} {l : Launch} {e : Env} {R : Room} {s : State} {m : MethodId} {args : Array Value} {below : List Frame} {meth : Method} {c : Code} {H : Heap} {locs : List Loc} {cells slots : Nat} {Q : State → Prop} {cc : ByteArray} {pc : Nat} {D : va_G} {cI cB cZ : ClassId} {g cn : Nat → Nat} {In : Nat → Int32} {Fn : Nat → Nat → Int32} {rest : List Value} {ls : Array Slot} {i : Int32} {ix : Nat} {x : Int32} (hx : p.tables.exec = Jvm.exec) (hb : c.code = cc) (hK : KK D cI cB cZ s) (hP : va_P D vwCl (wM cI cB cZ g cn In Fn) H) (hin : vp_in i 10) (hix : i.toNatClampNeg = ix) (hv : Fn 5 ix = x) (hdg : decode cc pc = .ok (.iaload, 1)) (kk : W p l e R s m args below meth c H locs cells slots Q (F0 m (pc + 1) ls (.int x :: rest))) : W p l e R s m args below meth c H locs cells slots Q (F0 m pc ls (.int i :: .ref (g 5) :: rest)) := by
  subst hix; subst hv
  exact va_iald hx hb hK.1 hP 3 0 rfl rfl hin hdg kk
set_option maxRecDepth 100000 in
theorem stM_5 {p : Program} {l : Launch} {e : Env} {R : Room} {s : State} {m : MethodId} {args : Array Value} {below : List Frame} {meth : Method} {c : Code} {H : Heap} {locs : List Loc} {cells slots : Nat} {Q : State → Prop} {cc : ByteArray} {pc : Nat} {D : va_G} {cI cB cZ : ClassId} {g cn : Nat → Nat} {In : Nat → Int32} {Fn : Nat → Nat → Int32} {rest : List Value} {ls : Array Slot} {A : Nat → Prop} {H0 : Heap} {i x : Int32} {ix : Nat} {Fn2 : Nat → Nat → Int32} (hx : p.tables.exec = Jvm.exec) (hb : c.code = cc) (hK : KK D cI cB cZ s) (hP : va_P D vwCl (wM cI cB cZ g cn In Fn) H) (hD : va_D A (wM cI cB cZ g cn In Fn)) (hS : va_S A H0 H locs) (hin : vp_in i 10) (hix : i.toNatClampNeg = ix) (hn2 : va_up Fn 5 (upd (Fn 5) ix x) = Fn2) (hdg : decode cc pc = .ok (.iastore, 1)) (kk : ∀ (H1 : Heap) (locs1 : List Loc), va_P D vwCl (wM cI cB cZ g cn In Fn2) H1 → va_D A (wM cI cB cZ g cn In Fn2) → va_S A H0 H1 locs1 → W p l e R s m args below meth c H1 locs1 cells slots Q (F0 m (pc + 1) ls rest)) : W p l e R s m args below meth c H locs cells slots Q (F0 m pc ls (.int x :: .int i :: .ref (g 5) :: rest)) := by
  subst hix; subst hn2
  exact va_iast hx hb hK.1 hP hD hS 3 0 rfl rfl hin hdg kk
set_option maxRecDepth 100000 in
theorem ldM_6 {p : Program} {l : Launch} {e : Env} {R : Room} {s : State} {m : MethodId} {args : Array Value} {below : List Frame} {meth : Method} {c : Code} {H : Heap} {locs : List Loc} {cells slots : Nat} {Q : State → Prop} {cc : ByteArray} {pc : Nat} {D : va_G} {cI cB cZ : ClassId} {g cn : Nat → Nat} {In : Nat → Int32} {Fn : Nat → Nat → Int32} {rest : List Value} {ls : Array Slot} {i : Int32} {ix : Nat} {x : Int32} (hx : p.tables.exec = Jvm.exec) (hb : c.code = cc) (hK : KK D cI cB cZ s) (hP : va_P D vwCl (wM cI cB cZ g cn In Fn) H) (hin : vp_in i 10) (hix : i.toNatClampNeg = ix) (hv : Fn 6 ix = x) (hdg : decode cc pc = .ok (.iaload, 1)) (kk : W p l e R s m args below meth c H locs cells slots Q (F0 m (pc + 1) ls (.int x :: rest))) : W p l e R s m args below meth c H locs cells slots Q (F0 m pc ls (.int i :: .ref (g 6) :: rest)) := by
  subst hix; subst hv
  exact va_iald hx hb hK.1 hP 4 0 rfl rfl hin hdg kk
set_option maxRecDepth 100000 in
theorem stM_6 {p : Program} {l : Launch} {e : Env} {R : Room} {s : State} {m : MethodId} {args : Array Value} {below : List Frame} {meth : Method} {c : Code} {H : Heap} {locs : List Loc} {cells slots : Nat} {Q : State → Prop} {cc : ByteArray} {pc : Nat} {D : va_G} {cI cB cZ : ClassId} {g cn : Nat → Nat} {In : Nat → Int32} {Fn : Nat → Nat → Int32} {rest : List Value} {ls : Array Slot} {A : Nat → Prop} {H0 : Heap} {i x : Int32} {ix : Nat} {Fn2 : Nat → Nat → Int32} (hx : p.tables.exec = Jvm.exec) (hb : c.code = cc) (hK : KK D cI cB cZ s) (hP : va_P D vwCl (wM cI cB cZ g cn In Fn) H) (hD : va_D A (wM cI cB cZ g cn In Fn)) (hS : va_S A H0 H locs) (hin : vp_in i 10) (hix : i.toNatClampNeg = ix) (hn2 : va_up Fn 6 (upd (Fn 6) ix x) = Fn2) (hdg : decode cc pc = .ok (.iastore, 1)) (kk : ∀ (H1 : Heap) (locs1 : List Loc), va_P D vwCl (wM cI cB cZ g cn In Fn2) H1 → va_D A (wM cI cB cZ g cn In Fn2) → va_S A H0 H1 locs1 → W p l e R s m args below meth c H1 locs1 cells slots Q (F0 m (pc + 1) ls rest)) : W p l e R s m args below meth c H locs cells slots Q (F0 m pc ls (.int x :: .int i :: .ref (g 6) :: rest)) := by
  subst hix; subst hn2
  exact va_iast hx hb hK.1 hP hD hS 4 0 rfl rfl hin hdg kk
set_option maxRecDepth 100000 in
theorem ldM_7 {p : Program} {l : Launch} {e : Env} {R : Room} {s : State} {m : MethodId} {args : Array Value} {below : List Frame} {meth : Method} {c : Code} {H : Heap} {locs : List Loc} {cells slots : Nat} {Q : State → Prop} {cc : ByteArray} {pc : Nat} {D : va_G} {cI cB cZ : ClassId} {g cn : Nat → Nat} {In : Nat → Int32} {Fn : Nat → Nat → Int32} {rest : List Value} {ls : Array Slot} {i : Int32} {ix : Nat} {x : Int32} (hx : p.tables.exec = Jvm.exec) (hb : c.code = cc) (hK : KK D cI cB cZ s) (hP : va_P D vwCl (wM cI cB cZ g cn In Fn) H) (hin : vp_in i 10) (hix : i.toNatClampNeg = ix) (hv : Fn 7 ix = x) (hdg : decode cc pc = .ok (.iaload, 1)) (kk : W p l e R s m args below meth c H locs cells slots Q (F0 m (pc + 1) ls (.int x :: rest))) : W p l e R s m args below meth c H locs cells slots Q (F0 m pc ls (.int i :: .ref (g 7) :: rest)) := by
  subst hix; subst hv
  exact va_iald hx hb hK.1 hP 5 0 rfl rfl hin hdg kk
set_option maxRecDepth 100000 in
theorem stM_7 {p : Program} {l : Launch} {e : Env} {R : Room} {s : State} {m : MethodId} {args : Array Value} {below : List Frame} {meth : Method} {c : Code} {H : Heap} {locs : List Loc} {cells slots : Nat} {Q : State → Prop} {cc : ByteArray} {pc : Nat} {D : va_G} {cI cB cZ : ClassId} {g cn : Nat → Nat} {In : Nat → Int32} {Fn : Nat → Nat → Int32} {rest : List Value} {ls : Array Slot} {A : Nat → Prop} {H0 : Heap} {i x : Int32} {ix : Nat} {Fn2 : Nat → Nat → Int32} (hx : p.tables.exec = Jvm.exec) (hb : c.code = cc) (hK : KK D cI cB cZ s) (hP : va_P D vwCl (wM cI cB cZ g cn In Fn) H) (hD : va_D A (wM cI cB cZ g cn In Fn)) (hS : va_S A H0 H locs) (hin : vp_in i 10) (hix : i.toNatClampNeg = ix) (hn2 : va_up Fn 7 (upd (Fn 7) ix x) = Fn2) (hdg : decode cc pc = .ok (.iastore, 1)) (kk : ∀ (H1 : Heap) (locs1 : List Loc), va_P D vwCl (wM cI cB cZ g cn In Fn2) H1 → va_D A (wM cI cB cZ g cn In Fn2) → va_S A H0 H1 locs1 → W p l e R s m args below meth c H1 locs1 cells slots Q (F0 m (pc + 1) ls rest)) : W p l e R s m args below meth c H locs cells slots Q (F0 m pc ls (.int x :: .int i :: .ref (g 7) :: rest)) := by
  subst hix; subst hn2
  exact va_iast hx hb hK.1 hP hD hS 5 0 rfl rfl hin hdg kk
set_option maxRecDepth 100000 in
theorem ldM_8 {p : Program} {l : Launch} {e : Env} {R : Room} {s : State} {m : MethodId} {args : Array Value} {below : List Frame} {meth : Method} {c : Code} {H : Heap} {locs : List Loc} {cells slots : Nat} {Q : State → Prop} {cc : ByteArray} {pc : Nat} {D : va_G} {cI cB cZ : ClassId} {g cn : Nat → Nat} {In : Nat → Int32} {Fn : Nat → Nat → Int32} {rest : List Value} {ls : Array Slot} {i : Int32} {ix : Nat} {x : Int32} (hx : p.tables.exec = Jvm.exec) (hb : c.code = cc) (hK : KK D cI cB cZ s) (hP : va_P D vwCl (wM cI cB cZ g cn In Fn) H) (hin : vp_in i 60) (hix : i.toNatClampNeg = ix) (hv : Fn 8 ix = x) (hdg : decode cc pc = .ok (.iaload, 1)) (kk : W p l e R s m args below meth c H locs cells slots Q (F0 m (pc + 1) ls (.int x :: rest))) : W p l e R s m args below meth c H locs cells slots Q (F0 m pc ls (.int i :: .ref (g 8) :: rest)) := by
  subst hix; subst hv
  exact va_iald hx hb hK.1 hP 6 0 rfl rfl hin hdg kk
set_option maxRecDepth 100000 in
theorem stM_8 {p : Program} {l : Launch} {e : Env} {R : Room} {s : State} {m : MethodId} {args : Array Value} {below : List Frame} {meth : Method} {c : Code} {H : Heap} {locs : List Loc} {cells slots : Nat} {Q : State → Prop} {cc : ByteArray} {pc : Nat} {D : va_G} {cI cB cZ : ClassId} {g cn : Nat → Nat} {In : Nat → Int32} {Fn : Nat → Nat → Int32} {rest : List Value} {ls : Array Slot} {A : Nat → Prop} {H0 : Heap} {i x : Int32} {ix : Nat} {Fn2 : Nat → Nat → Int32} (hx : p.tables.exec = Jvm.exec) (hb : c.code = cc) (hK : KK D cI cB cZ s) (hP : va_P D vwCl (wM cI cB cZ g cn In Fn) H) (hD : va_D A (wM cI cB cZ g cn In Fn)) (hS : va_S A H0 H locs) (hin : vp_in i 60) (hix : i.toNatClampNeg = ix) (hn2 : va_up Fn 8 (upd (Fn 8) ix x) = Fn2) (hdg : decode cc pc = .ok (.iastore, 1)) (kk : ∀ (H1 : Heap) (locs1 : List Loc), va_P D vwCl (wM cI cB cZ g cn In Fn2) H1 → va_D A (wM cI cB cZ g cn In Fn2) → va_S A H0 H1 locs1 → W p l e R s m args below meth c H1 locs1 cells slots Q (F0 m (pc + 1) ls rest)) : W p l e R s m args below meth c H locs cells slots Q (F0 m pc ls (.int x :: .int i :: .ref (g 8) :: rest)) := by
  subst hix; subst hn2
  exact va_iast hx hb hK.1 hP hD hS 6 0 rfl rfl hin hdg kk
set_option maxRecDepth 100000 in
theorem ldM_9 {p : Program} {l : Launch} {e : Env} {R : Room} {s : State} {m : MethodId} {args : Array Value} {below : List Frame} {meth : Method} {c : Code} {H : Heap} {locs : List Loc} {cells slots : Nat} {Q : State → Prop} {cc : ByteArray} {pc : Nat} {D : va_G} {cI cB cZ : ClassId} {g cn : Nat → Nat} {In : Nat → Int32} {Fn : Nat → Nat → Int32} {rest : List Value} {ls : Array Slot} {i : Int32} {ix : Nat} {x : Int32} (hx : p.tables.exec = Jvm.exec) (hb : c.code = cc) (hK : KK D cI cB cZ s) (hP : va_P D vwCl (wM cI cB cZ g cn In Fn) H) (hin : vp_in i 60) (hix : i.toNatClampNeg = ix) (hv : Fn 9 ix = x) (hdg : decode cc pc = .ok (.iaload, 1)) (kk : W p l e R s m args below meth c H locs cells slots Q (F0 m (pc + 1) ls (.int x :: rest))) : W p l e R s m args below meth c H locs cells slots Q (F0 m pc ls (.int i :: .ref (g 9) :: rest)) := by
  subst hix; subst hv
  exact va_iald hx hb hK.1 hP 7 0 rfl rfl hin hdg kk
set_option maxRecDepth 100000 in
theorem stM_9 {p : Program} {l : Launch} {e : Env} {R : Room} {s : State} {m : MethodId} {args : Array Value} {below : List Frame} {meth : Method} {c : Code} {H : Heap} {locs : List Loc} {cells slots : Nat} {Q : State → Prop} {cc : ByteArray} {pc : Nat} {D : va_G} {cI cB cZ : ClassId} {g cn : Nat → Nat} {In : Nat → Int32} {Fn : Nat → Nat → Int32} {rest : List Value} {ls : Array Slot} {A : Nat → Prop} {H0 : Heap} {i x : Int32} {ix : Nat} {Fn2 : Nat → Nat → Int32} (hx : p.tables.exec = Jvm.exec) (hb : c.code = cc) (hK : KK D cI cB cZ s) (hP : va_P D vwCl (wM cI cB cZ g cn In Fn) H) (hD : va_D A (wM cI cB cZ g cn In Fn)) (hS : va_S A H0 H locs) (hin : vp_in i 60) (hix : i.toNatClampNeg = ix) (hn2 : va_up Fn 9 (upd (Fn 9) ix x) = Fn2) (hdg : decode cc pc = .ok (.iastore, 1)) (kk : ∀ (H1 : Heap) (locs1 : List Loc), va_P D vwCl (wM cI cB cZ g cn In Fn2) H1 → va_D A (wM cI cB cZ g cn In Fn2) → va_S A H0 H1 locs1 → W p l e R s m args below meth c H1 locs1 cells slots Q (F0 m (pc + 1) ls rest)) : W p l e R s m args below meth c H locs cells slots Q (F0 m pc ls (.int x :: .int i :: .ref (g 9) :: rest)) := by
  subst hix; subst hn2
  exact va_iast hx hb hK.1 hP hD hS 7 0 rfl rfl hin hdg kk
set_option maxRecDepth 100000 in
theorem ldM_10 {p : Program} {l : Launch} {e : Env} {R : Room} {s : State} {m : MethodId} {args : Array Value} {below : List Frame} {meth : Method} {c : Code} {H : Heap} {locs : List Loc} {cells slots : Nat} {Q : State → Prop} {cc : ByteArray} {pc : Nat} {D : va_G} {cI cB cZ : ClassId} {g cn : Nat → Nat} {In : Nat → Int32} {Fn : Nat → Nat → Int32} {rest : List Value} {ls : Array Slot} {i : Int32} {ix : Nat} {x : Int32} (hx : p.tables.exec = Jvm.exec) (hb : c.code = cc) (hK : KK D cI cB cZ s) (hP : va_P D vwCl (wM cI cB cZ g cn In Fn) H) (hin : vp_in i 60) (hix : i.toNatClampNeg = ix) (hv : Fn 10 ix = x) (hdg : decode cc pc = .ok (.iaload, 1)) (kk : W p l e R s m args below meth c H locs cells slots Q (F0 m (pc + 1) ls (.int x :: rest))) : W p l e R s m args below meth c H locs cells slots Q (F0 m pc ls (.int i :: .ref (g 10) :: rest)) := by
  subst hix; subst hv
  exact va_iald hx hb hK.1 hP 8 0 rfl rfl hin hdg kk
set_option maxRecDepth 100000 in
theorem stM_10 {p : Program} {l : Launch} {e : Env} {R : Room} {s : State} {m : MethodId} {args : Array Value} {below : List Frame} {meth : Method} {c : Code} {H : Heap} {locs : List Loc} {cells slots : Nat} {Q : State → Prop} {cc : ByteArray} {pc : Nat} {D : va_G} {cI cB cZ : ClassId} {g cn : Nat → Nat} {In : Nat → Int32} {Fn : Nat → Nat → Int32} {rest : List Value} {ls : Array Slot} {A : Nat → Prop} {H0 : Heap} {i x : Int32} {ix : Nat} {Fn2 : Nat → Nat → Int32} (hx : p.tables.exec = Jvm.exec) (hb : c.code = cc) (hK : KK D cI cB cZ s) (hP : va_P D vwCl (wM cI cB cZ g cn In Fn) H) (hD : va_D A (wM cI cB cZ g cn In Fn)) (hS : va_S A H0 H locs) (hin : vp_in i 60) (hix : i.toNatClampNeg = ix) (hn2 : va_up Fn 10 (upd (Fn 10) ix x) = Fn2) (hdg : decode cc pc = .ok (.iastore, 1)) (kk : ∀ (H1 : Heap) (locs1 : List Loc), va_P D vwCl (wM cI cB cZ g cn In Fn2) H1 → va_D A (wM cI cB cZ g cn In Fn2) → va_S A H0 H1 locs1 → W p l e R s m args below meth c H1 locs1 cells slots Q (F0 m (pc + 1) ls rest)) : W p l e R s m args below meth c H locs cells slots Q (F0 m pc ls (.int x :: .int i :: .ref (g 10) :: rest)) := by
  subst hix; subst hn2
  exact va_iast hx hb hK.1 hP hD hS 8 0 rfl rfl hin hdg kk
set_option maxRecDepth 100000 in
theorem ldM_11 {p : Program} {l : Launch} {e : Env} {R : Room} {s : State} {m : MethodId} {args : Array Value} {below : List Frame} {meth : Method} {c : Code} {H : Heap} {locs : List Loc} {cells slots : Nat} {Q : State → Prop} {cc : ByteArray} {pc : Nat} {D : va_G} {cI cB cZ : ClassId} {g cn : Nat → Nat} {In : Nat → Int32} {Fn : Nat → Nat → Int32} {rest : List Value} {ls : Array Slot} {i : Int32} {ix : Nat} {x : Int32} (hx : p.tables.exec = Jvm.exec) (hb : c.code = cc) (hK : KK D cI cB cZ s) (hP : va_P D vwCl (wM cI cB cZ g cn In Fn) H) (hin : vp_in i 60) (hix : i.toNatClampNeg = ix) (hv : Fn 11 ix = x) (hdg : decode cc pc = .ok (.iaload, 1)) (kk : W p l e R s m args below meth c H locs cells slots Q (F0 m (pc + 1) ls (.int x :: rest))) : W p l e R s m args below meth c H locs cells slots Q (F0 m pc ls (.int i :: .ref (g 11) :: rest)) := by
  subst hix; subst hv
  exact va_iald hx hb hK.1 hP 9 0 rfl rfl hin hdg kk
set_option maxRecDepth 100000 in
theorem stM_11 {p : Program} {l : Launch} {e : Env} {R : Room} {s : State} {m : MethodId} {args : Array Value} {below : List Frame} {meth : Method} {c : Code} {H : Heap} {locs : List Loc} {cells slots : Nat} {Q : State → Prop} {cc : ByteArray} {pc : Nat} {D : va_G} {cI cB cZ : ClassId} {g cn : Nat → Nat} {In : Nat → Int32} {Fn : Nat → Nat → Int32} {rest : List Value} {ls : Array Slot} {A : Nat → Prop} {H0 : Heap} {i x : Int32} {ix : Nat} {Fn2 : Nat → Nat → Int32} (hx : p.tables.exec = Jvm.exec) (hb : c.code = cc) (hK : KK D cI cB cZ s) (hP : va_P D vwCl (wM cI cB cZ g cn In Fn) H) (hD : va_D A (wM cI cB cZ g cn In Fn)) (hS : va_S A H0 H locs) (hin : vp_in i 60) (hix : i.toNatClampNeg = ix) (hn2 : va_up Fn 11 (upd (Fn 11) ix x) = Fn2) (hdg : decode cc pc = .ok (.iastore, 1)) (kk : ∀ (H1 : Heap) (locs1 : List Loc), va_P D vwCl (wM cI cB cZ g cn In Fn2) H1 → va_D A (wM cI cB cZ g cn In Fn2) → va_S A H0 H1 locs1 → W p l e R s m args below meth c H1 locs1 cells slots Q (F0 m (pc + 1) ls rest)) : W p l e R s m args below meth c H locs cells slots Q (F0 m pc ls (.int x :: .int i :: .ref (g 11) :: rest)) := by
  subst hix; subst hn2
  exact va_iast hx hb hK.1 hP hD hS 9 0 rfl rfl hin hdg kk
set_option maxRecDepth 100000 in
theorem ldM_12 {p : Program} {l : Launch} {e : Env} {R : Room} {s : State} {m : MethodId} {args : Array Value} {below : List Frame} {meth : Method} {c : Code} {H : Heap} {locs : List Loc} {cells slots : Nat} {Q : State → Prop} {cc : ByteArray} {pc : Nat} {D : va_G} {cI cB cZ : ClassId} {g cn : Nat → Nat} {In : Nat → Int32} {Fn : Nat → Nat → Int32} {rest : List Value} {ls : Array Slot} {i : Int32} {ix : Nat} {x : Int32} (hx : p.tables.exec = Jvm.exec) (hb : c.code = cc) (hK : KK D cI cB cZ s) (hP : va_P D vwCl (wM cI cB cZ g cn In Fn) H) (hin : vp_in i 60) (hix : i.toNatClampNeg = ix) (hv : Fn 12 ix = x) (hdg : decode cc pc = .ok (.iaload, 1)) (kk : W p l e R s m args below meth c H locs cells slots Q (F0 m (pc + 1) ls (.int x :: rest))) : W p l e R s m args below meth c H locs cells slots Q (F0 m pc ls (.int i :: .ref (g 12) :: rest)) := by
  subst hix; subst hv
  exact va_iald hx hb hK.1 hP 10 0 rfl rfl hin hdg kk
set_option maxRecDepth 100000 in
theorem stM_12 {p : Program} {l : Launch} {e : Env} {R : Room} {s : State} {m : MethodId} {args : Array Value} {below : List Frame} {meth : Method} {c : Code} {H : Heap} {locs : List Loc} {cells slots : Nat} {Q : State → Prop} {cc : ByteArray} {pc : Nat} {D : va_G} {cI cB cZ : ClassId} {g cn : Nat → Nat} {In : Nat → Int32} {Fn : Nat → Nat → Int32} {rest : List Value} {ls : Array Slot} {A : Nat → Prop} {H0 : Heap} {i x : Int32} {ix : Nat} {Fn2 : Nat → Nat → Int32} (hx : p.tables.exec = Jvm.exec) (hb : c.code = cc) (hK : KK D cI cB cZ s) (hP : va_P D vwCl (wM cI cB cZ g cn In Fn) H) (hD : va_D A (wM cI cB cZ g cn In Fn)) (hS : va_S A H0 H locs) (hin : vp_in i 60) (hix : i.toNatClampNeg = ix) (hn2 : va_up Fn 12 (upd (Fn 12) ix x) = Fn2) (hdg : decode cc pc = .ok (.iastore, 1)) (kk : ∀ (H1 : Heap) (locs1 : List Loc), va_P D vwCl (wM cI cB cZ g cn In Fn2) H1 → va_D A (wM cI cB cZ g cn In Fn2) → va_S A H0 H1 locs1 → W p l e R s m args below meth c H1 locs1 cells slots Q (F0 m (pc + 1) ls rest)) : W p l e R s m args below meth c H locs cells slots Q (F0 m pc ls (.int x :: .int i :: .ref (g 12) :: rest)) := by
  subst hix; subst hn2
  exact va_iast hx hb hK.1 hP hD hS 10 0 rfl rfl hin hdg kk
set_option maxRecDepth 100000 in
theorem ldM_13 {p : Program} {l : Launch} {e : Env} {R : Room} {s : State} {m : MethodId} {args : Array Value} {below : List Frame} {meth : Method} {c : Code} {H : Heap} {locs : List Loc} {cells slots : Nat} {Q : State → Prop} {cc : ByteArray} {pc : Nat} {D : va_G} {cI cB cZ : ClassId} {g cn : Nat → Nat} {In : Nat → Int32} {Fn : Nat → Nat → Int32} {rest : List Value} {ls : Array Slot} {i : Int32} {ix : Nat} {x : Int32} (hx : p.tables.exec = Jvm.exec) (hb : c.code = cc) (hK : KK D cI cB cZ s) (hP : va_P D vwCl (wM cI cB cZ g cn In Fn) H) (hin : vp_in i 60) (hix : i.toNatClampNeg = ix) (hv : Fn 13 ix = x) (hdg : decode cc pc = .ok (.iaload, 1)) (kk : W p l e R s m args below meth c H locs cells slots Q (F0 m (pc + 1) ls (.int x :: rest))) : W p l e R s m args below meth c H locs cells slots Q (F0 m pc ls (.int i :: .ref (g 13) :: rest)) := by
  subst hix; subst hv
  exact va_iald hx hb hK.1 hP 11 0 rfl rfl hin hdg kk
set_option maxRecDepth 100000 in
theorem stM_13 {p : Program} {l : Launch} {e : Env} {R : Room} {s : State} {m : MethodId} {args : Array Value} {below : List Frame} {meth : Method} {c : Code} {H : Heap} {locs : List Loc} {cells slots : Nat} {Q : State → Prop} {cc : ByteArray} {pc : Nat} {D : va_G} {cI cB cZ : ClassId} {g cn : Nat → Nat} {In : Nat → Int32} {Fn : Nat → Nat → Int32} {rest : List Value} {ls : Array Slot} {A : Nat → Prop} {H0 : Heap} {i x : Int32} {ix : Nat} {Fn2 : Nat → Nat → Int32} (hx : p.tables.exec = Jvm.exec) (hb : c.code = cc) (hK : KK D cI cB cZ s) (hP : va_P D vwCl (wM cI cB cZ g cn In Fn) H) (hD : va_D A (wM cI cB cZ g cn In Fn)) (hS : va_S A H0 H locs) (hin : vp_in i 60) (hix : i.toNatClampNeg = ix) (hn2 : va_up Fn 13 (upd (Fn 13) ix x) = Fn2) (hdg : decode cc pc = .ok (.iastore, 1)) (kk : ∀ (H1 : Heap) (locs1 : List Loc), va_P D vwCl (wM cI cB cZ g cn In Fn2) H1 → va_D A (wM cI cB cZ g cn In Fn2) → va_S A H0 H1 locs1 → W p l e R s m args below meth c H1 locs1 cells slots Q (F0 m (pc + 1) ls rest)) : W p l e R s m args below meth c H locs cells slots Q (F0 m pc ls (.int x :: .int i :: .ref (g 13) :: rest)) := by
  subst hix; subst hn2
  exact va_iast hx hb hK.1 hP hD hS 11 0 rfl rfl hin hdg kk
set_option maxRecDepth 100000 in
theorem ldM_14 {p : Program} {l : Launch} {e : Env} {R : Room} {s : State} {m : MethodId} {args : Array Value} {below : List Frame} {meth : Method} {c : Code} {H : Heap} {locs : List Loc} {cells slots : Nat} {Q : State → Prop} {cc : ByteArray} {pc : Nat} {D : va_G} {cI cB cZ : ClassId} {g cn : Nat → Nat} {In : Nat → Int32} {Fn : Nat → Nat → Int32} {rest : List Value} {ls : Array Slot} {i : Int32} {ix : Nat} {x : Int32} (hx : p.tables.exec = Jvm.exec) (hb : c.code = cc) (hK : KK D cI cB cZ s) (hP : va_P D vwCl (wM cI cB cZ g cn In Fn) H) (hin : vp_in i 60) (hix : i.toNatClampNeg = ix) (hv : Fn 14 ix = x) (hdg : decode cc pc = .ok (.iaload, 1)) (kk : W p l e R s m args below meth c H locs cells slots Q (F0 m (pc + 1) ls (.int x :: rest))) : W p l e R s m args below meth c H locs cells slots Q (F0 m pc ls (.int i :: .ref (g 14) :: rest)) := by
  subst hix; subst hv
  exact va_iald hx hb hK.1 hP 12 0 rfl rfl hin hdg kk
set_option maxRecDepth 100000 in
theorem stM_14 {p : Program} {l : Launch} {e : Env} {R : Room} {s : State} {m : MethodId} {args : Array Value} {below : List Frame} {meth : Method} {c : Code} {H : Heap} {locs : List Loc} {cells slots : Nat} {Q : State → Prop} {cc : ByteArray} {pc : Nat} {D : va_G} {cI cB cZ : ClassId} {g cn : Nat → Nat} {In : Nat → Int32} {Fn : Nat → Nat → Int32} {rest : List Value} {ls : Array Slot} {A : Nat → Prop} {H0 : Heap} {i x : Int32} {ix : Nat} {Fn2 : Nat → Nat → Int32} (hx : p.tables.exec = Jvm.exec) (hb : c.code = cc) (hK : KK D cI cB cZ s) (hP : va_P D vwCl (wM cI cB cZ g cn In Fn) H) (hD : va_D A (wM cI cB cZ g cn In Fn)) (hS : va_S A H0 H locs) (hin : vp_in i 60) (hix : i.toNatClampNeg = ix) (hn2 : va_up Fn 14 (upd (Fn 14) ix x) = Fn2) (hdg : decode cc pc = .ok (.iastore, 1)) (kk : ∀ (H1 : Heap) (locs1 : List Loc), va_P D vwCl (wM cI cB cZ g cn In Fn2) H1 → va_D A (wM cI cB cZ g cn In Fn2) → va_S A H0 H1 locs1 → W p l e R s m args below meth c H1 locs1 cells slots Q (F0 m (pc + 1) ls rest)) : W p l e R s m args below meth c H locs cells slots Q (F0 m pc ls (.int x :: .int i :: .ref (g 14) :: rest)) := by
  subst hix; subst hn2
  exact va_iast hx hb hK.1 hP hD hS 12 0 rfl rfl hin hdg kk
set_option maxRecDepth 100000 in
theorem ldM_15 {p : Program} {l : Launch} {e : Env} {R : Room} {s : State} {m : MethodId} {args : Array Value} {below : List Frame} {meth : Method} {c : Code} {H : Heap} {locs : List Loc} {cells slots : Nat} {Q : State → Prop} {cc : ByteArray} {pc : Nat} {D : va_G} {cI cB cZ : ClassId} {g cn : Nat → Nat} {In : Nat → Int32} {Fn : Nat → Nat → Int32} {rest : List Value} {ls : Array Slot} {i : Int32} {ix : Nat} {x : Int32} (hx : p.tables.exec = Jvm.exec) (hb : c.code = cc) (hK : KK D cI cB cZ s) (hP : va_P D vwCl (wM cI cB cZ g cn In Fn) H) (hin : vp_in i 60) (hix : i.toNatClampNeg = ix) (hv : Fn 15 ix = x) (hdg : decode cc pc = .ok (.iaload, 1)) (kk : W p l e R s m args below meth c H locs cells slots Q (F0 m (pc + 1) ls (.int x :: rest))) : W p l e R s m args below meth c H locs cells slots Q (F0 m pc ls (.int i :: .ref (g 15) :: rest)) := by
  subst hix; subst hv
  exact va_iald hx hb hK.1 hP 13 0 rfl rfl hin hdg kk
set_option maxRecDepth 100000 in
theorem stM_15 {p : Program} {l : Launch} {e : Env} {R : Room} {s : State} {m : MethodId} {args : Array Value} {below : List Frame} {meth : Method} {c : Code} {H : Heap} {locs : List Loc} {cells slots : Nat} {Q : State → Prop} {cc : ByteArray} {pc : Nat} {D : va_G} {cI cB cZ : ClassId} {g cn : Nat → Nat} {In : Nat → Int32} {Fn : Nat → Nat → Int32} {rest : List Value} {ls : Array Slot} {A : Nat → Prop} {H0 : Heap} {i x : Int32} {ix : Nat} {Fn2 : Nat → Nat → Int32} (hx : p.tables.exec = Jvm.exec) (hb : c.code = cc) (hK : KK D cI cB cZ s) (hP : va_P D vwCl (wM cI cB cZ g cn In Fn) H) (hD : va_D A (wM cI cB cZ g cn In Fn)) (hS : va_S A H0 H locs) (hin : vp_in i 60) (hix : i.toNatClampNeg = ix) (hn2 : va_up Fn 15 (upd (Fn 15) ix x) = Fn2) (hdg : decode cc pc = .ok (.iastore, 1)) (kk : ∀ (H1 : Heap) (locs1 : List Loc), va_P D vwCl (wM cI cB cZ g cn In Fn2) H1 → va_D A (wM cI cB cZ g cn In Fn2) → va_S A H0 H1 locs1 → W p l e R s m args below meth c H1 locs1 cells slots Q (F0 m (pc + 1) ls rest)) : W p l e R s m args below meth c H locs cells slots Q (F0 m pc ls (.int x :: .int i :: .ref (g 15) :: rest)) := by
  subst hix; subst hn2
  exact va_iast hx hb hK.1 hP hD hS 13 0 rfl rfl hin hdg kk
set_option maxRecDepth 100000 in
theorem ldM_16 {p : Program} {l : Launch} {e : Env} {R : Room} {s : State} {m : MethodId} {args : Array Value} {below : List Frame} {meth : Method} {c : Code} {H : Heap} {locs : List Loc} {cells slots : Nat} {Q : State → Prop} {cc : ByteArray} {pc : Nat} {D : va_G} {cI cB cZ : ClassId} {g cn : Nat → Nat} {In : Nat → Int32} {Fn : Nat → Nat → Int32} {rest : List Value} {ls : Array Slot} {i : Int32} {ix : Nat} {x : Int32} (hx : p.tables.exec = Jvm.exec) (hb : c.code = cc) (hK : KK D cI cB cZ s) (hP : va_P D vwCl (wM cI cB cZ g cn In Fn) H) (hin : vp_in i 60) (hix : i.toNatClampNeg = ix) (hv : Fn 16 ix = x) (hdg : decode cc pc = .ok (.iaload, 1)) (kk : W p l e R s m args below meth c H locs cells slots Q (F0 m (pc + 1) ls (.int x :: rest))) : W p l e R s m args below meth c H locs cells slots Q (F0 m pc ls (.int i :: .ref (g 16) :: rest)) := by
  subst hix; subst hv
  exact va_iald hx hb hK.1 hP 14 0 rfl rfl hin hdg kk
set_option maxRecDepth 100000 in
theorem stM_16 {p : Program} {l : Launch} {e : Env} {R : Room} {s : State} {m : MethodId} {args : Array Value} {below : List Frame} {meth : Method} {c : Code} {H : Heap} {locs : List Loc} {cells slots : Nat} {Q : State → Prop} {cc : ByteArray} {pc : Nat} {D : va_G} {cI cB cZ : ClassId} {g cn : Nat → Nat} {In : Nat → Int32} {Fn : Nat → Nat → Int32} {rest : List Value} {ls : Array Slot} {A : Nat → Prop} {H0 : Heap} {i x : Int32} {ix : Nat} {Fn2 : Nat → Nat → Int32} (hx : p.tables.exec = Jvm.exec) (hb : c.code = cc) (hK : KK D cI cB cZ s) (hP : va_P D vwCl (wM cI cB cZ g cn In Fn) H) (hD : va_D A (wM cI cB cZ g cn In Fn)) (hS : va_S A H0 H locs) (hin : vp_in i 60) (hix : i.toNatClampNeg = ix) (hn2 : va_up Fn 16 (upd (Fn 16) ix x) = Fn2) (hdg : decode cc pc = .ok (.iastore, 1)) (kk : ∀ (H1 : Heap) (locs1 : List Loc), va_P D vwCl (wM cI cB cZ g cn In Fn2) H1 → va_D A (wM cI cB cZ g cn In Fn2) → va_S A H0 H1 locs1 → W p l e R s m args below meth c H1 locs1 cells slots Q (F0 m (pc + 1) ls rest)) : W p l e R s m args below meth c H locs cells slots Q (F0 m pc ls (.int x :: .int i :: .ref (g 16) :: rest)) := by
  subst hix; subst hn2
  exact va_iast hx hb hK.1 hP hD hS 14 0 rfl rfl hin hdg kk
set_option maxRecDepth 100000 in
theorem ldM_17 {p : Program} {l : Launch} {e : Env} {R : Room} {s : State} {m : MethodId} {args : Array Value} {below : List Frame} {meth : Method} {c : Code} {H : Heap} {locs : List Loc} {cells slots : Nat} {Q : State → Prop} {cc : ByteArray} {pc : Nat} {D : va_G} {cI cB cZ : ClassId} {g cn : Nat → Nat} {In : Nat → Int32} {Fn : Nat → Nat → Int32} {rest : List Value} {ls : Array Slot} {i : Int32} {ix : Nat} {x : Int32} (hx : p.tables.exec = Jvm.exec) (hb : c.code = cc) (hK : KK D cI cB cZ s) (hP : va_P D vwCl (wM cI cB cZ g cn In Fn) H) (hin : vp_in i 200) (hix : i.toNatClampNeg = ix) (hv : Fn 17 ix = x) (hdg : decode cc pc = .ok (.baload, 1)) (kk : W p l e R s m args below meth c H locs cells slots Q (F0 m (pc + 1) ls (.int x :: rest))) : W p l e R s m args below meth c H locs cells slots Q (F0 m pc ls (.int i :: .ref (g 17) :: rest)) := by
  subst hix; subst hv
  exact va_bald hx hb hK.1 hP 15 1 rfl rfl hin hdg kk
set_option maxRecDepth 100000 in
theorem stM_17 {p : Program} {l : Launch} {e : Env} {R : Room} {s : State} {m : MethodId} {args : Array Value} {below : List Frame} {meth : Method} {c : Code} {H : Heap} {locs : List Loc} {cells slots : Nat} {Q : State → Prop} {cc : ByteArray} {pc : Nat} {D : va_G} {cI cB cZ : ClassId} {g cn : Nat → Nat} {In : Nat → Int32} {Fn : Nat → Nat → Int32} {rest : List Value} {ls : Array Slot} {A : Nat → Prop} {H0 : Heap} {i x : Int32} {ix : Nat} {Fn2 : Nat → Nat → Int32} (hx : p.tables.exec = Jvm.exec) (hb : c.code = cc) (hK : KK D cI cB cZ s) (hP : va_P D vwCl (wM cI cB cZ g cn In Fn) H) (hD : va_D A (wM cI cB cZ g cn In Fn)) (hS : va_S A H0 H locs) (hin : vp_in i 200) (hix : i.toNatClampNeg = ix) (hn2 : va_up Fn 17 (upd (Fn 17) ix (vp_nar .byte x)) = Fn2) (hdg : decode cc pc = .ok (.bastore, 1)) (kk : ∀ (H1 : Heap) (locs1 : List Loc), va_P D vwCl (wM cI cB cZ g cn In Fn2) H1 → va_D A (wM cI cB cZ g cn In Fn2) → va_S A H0 H1 locs1 → W p l e R s m args below meth c H1 locs1 cells slots Q (F0 m (pc + 1) ls rest)) : W p l e R s m args below meth c H locs cells slots Q (F0 m pc ls (.int x :: .int i :: .ref (g 17) :: rest)) := by
  subst hix; subst hn2
  exact va_bast hx hb hK.1 hP hD hS 15 1 rfl rfl hin hdg kk
set_option maxRecDepth 100000 in
theorem ldM_27 {p : Program} {l : Launch} {e : Env} {R : Room} {s : State} {m : MethodId} {args : Array Value} {below : List Frame} {meth : Method} {c : Code} {H : Heap} {locs : List Loc} {cells slots : Nat} {Q : State → Prop} {cc : ByteArray} {pc : Nat} {D : va_G} {cI cB cZ : ClassId} {g cn : Nat → Nat} {In : Nat → Int32} {Fn : Nat → Nat → Int32} {rest : List Value} {ls : Array Slot} {i : Int32} {ix : Nat} {x : Int32} (hx : p.tables.exec = Jvm.exec) (hb : c.code = cc) (hK : KK D cI cB cZ s) (hP : va_P D vwCl (wM cI cB cZ g cn In Fn) H) (hin : vp_in i 180) (hix : i.toNatClampNeg = ix) (hv : Fn 27 ix = x) (hdg : decode cc pc = .ok (.iaload, 1)) (kk : W p l e R s m args below meth c H locs cells slots Q (F0 m (pc + 1) ls (.int x :: rest))) : W p l e R s m args below meth c H locs cells slots Q (F0 m pc ls (.int i :: .ref (g 27) :: rest)) := by
  subst hix; subst hv
  exact va_iald hx hb hK.1 hP 16 0 rfl rfl hin hdg kk
set_option maxRecDepth 100000 in
theorem stM_27 {p : Program} {l : Launch} {e : Env} {R : Room} {s : State} {m : MethodId} {args : Array Value} {below : List Frame} {meth : Method} {c : Code} {H : Heap} {locs : List Loc} {cells slots : Nat} {Q : State → Prop} {cc : ByteArray} {pc : Nat} {D : va_G} {cI cB cZ : ClassId} {g cn : Nat → Nat} {In : Nat → Int32} {Fn : Nat → Nat → Int32} {rest : List Value} {ls : Array Slot} {A : Nat → Prop} {H0 : Heap} {i x : Int32} {ix : Nat} {Fn2 : Nat → Nat → Int32} (hx : p.tables.exec = Jvm.exec) (hb : c.code = cc) (hK : KK D cI cB cZ s) (hP : va_P D vwCl (wM cI cB cZ g cn In Fn) H) (hD : va_D A (wM cI cB cZ g cn In Fn)) (hS : va_S A H0 H locs) (hin : vp_in i 180) (hix : i.toNatClampNeg = ix) (hn2 : va_up Fn 27 (upd (Fn 27) ix x) = Fn2) (hdg : decode cc pc = .ok (.iastore, 1)) (kk : ∀ (H1 : Heap) (locs1 : List Loc), va_P D vwCl (wM cI cB cZ g cn In Fn2) H1 → va_D A (wM cI cB cZ g cn In Fn2) → va_S A H0 H1 locs1 → W p l e R s m args below meth c H1 locs1 cells slots Q (F0 m (pc + 1) ls rest)) : W p l e R s m args below meth c H locs cells slots Q (F0 m pc ls (.int x :: .int i :: .ref (g 27) :: rest)) := by
  subst hix; subst hn2
  exact va_iast hx hb hK.1 hP hD hS 16 0 rfl rfl hin hdg kk
set_option maxRecDepth 100000 in
theorem ldM_28 {p : Program} {l : Launch} {e : Env} {R : Room} {s : State} {m : MethodId} {args : Array Value} {below : List Frame} {meth : Method} {c : Code} {H : Heap} {locs : List Loc} {cells slots : Nat} {Q : State → Prop} {cc : ByteArray} {pc : Nat} {D : va_G} {cI cB cZ : ClassId} {g cn : Nat → Nat} {In : Nat → Int32} {Fn : Nat → Nat → Int32} {rest : List Value} {ls : Array Slot} {i : Int32} {ix : Nat} {x : Int32} (hx : p.tables.exec = Jvm.exec) (hb : c.code = cc) (hK : KK D cI cB cZ s) (hP : va_P D vwCl (wM cI cB cZ g cn In Fn) H) (hin : vp_in i 180) (hix : i.toNatClampNeg = ix) (hv : Fn 28 ix = x) (hdg : decode cc pc = .ok (.iaload, 1)) (kk : W p l e R s m args below meth c H locs cells slots Q (F0 m (pc + 1) ls (.int x :: rest))) : W p l e R s m args below meth c H locs cells slots Q (F0 m pc ls (.int i :: .ref (g 28) :: rest)) := by
  subst hix; subst hv
  exact va_iald hx hb hK.1 hP 17 0 rfl rfl hin hdg kk
set_option maxRecDepth 100000 in
theorem stM_28 {p : Program} {l : Launch} {e : Env} {R : Room} {s : State} {m : MethodId} {args : Array Value} {below : List Frame} {meth : Method} {c : Code} {H : Heap} {locs : List Loc} {cells slots : Nat} {Q : State → Prop} {cc : ByteArray} {pc : Nat} {D : va_G} {cI cB cZ : ClassId} {g cn : Nat → Nat} {In : Nat → Int32} {Fn : Nat → Nat → Int32} {rest : List Value} {ls : Array Slot} {A : Nat → Prop} {H0 : Heap} {i x : Int32} {ix : Nat} {Fn2 : Nat → Nat → Int32} (hx : p.tables.exec = Jvm.exec) (hb : c.code = cc) (hK : KK D cI cB cZ s) (hP : va_P D vwCl (wM cI cB cZ g cn In Fn) H) (hD : va_D A (wM cI cB cZ g cn In Fn)) (hS : va_S A H0 H locs) (hin : vp_in i 180) (hix : i.toNatClampNeg = ix) (hn2 : va_up Fn 28 (upd (Fn 28) ix x) = Fn2) (hdg : decode cc pc = .ok (.iastore, 1)) (kk : ∀ (H1 : Heap) (locs1 : List Loc), va_P D vwCl (wM cI cB cZ g cn In Fn2) H1 → va_D A (wM cI cB cZ g cn In Fn2) → va_S A H0 H1 locs1 → W p l e R s m args below meth c H1 locs1 cells slots Q (F0 m (pc + 1) ls rest)) : W p l e R s m args below meth c H locs cells slots Q (F0 m pc ls (.int x :: .int i :: .ref (g 28) :: rest)) := by
  subst hix; subst hn2
  exact va_iast hx hb hK.1 hP hD hS 17 0 rfl rfl hin hdg kk
set_option maxRecDepth 100000 in
theorem ldM_29 {p : Program} {l : Launch} {e : Env} {R : Room} {s : State} {m : MethodId} {args : Array Value} {below : List Frame} {meth : Method} {c : Code} {H : Heap} {locs : List Loc} {cells slots : Nat} {Q : State → Prop} {cc : ByteArray} {pc : Nat} {D : va_G} {cI cB cZ : ClassId} {g cn : Nat → Nat} {In : Nat → Int32} {Fn : Nat → Nat → Int32} {rest : List Value} {ls : Array Slot} {i : Int32} {ix : Nat} {x : Int32} (hx : p.tables.exec = Jvm.exec) (hb : c.code = cc) (hK : KK D cI cB cZ s) (hP : va_P D vwCl (wM cI cB cZ g cn In Fn) H) (hin : vp_in i 12) (hix : i.toNatClampNeg = ix) (hv : Fn 29 ix = x) (hdg : decode cc pc = .ok (.iaload, 1)) (kk : W p l e R s m args below meth c H locs cells slots Q (F0 m (pc + 1) ls (.int x :: rest))) : W p l e R s m args below meth c H locs cells slots Q (F0 m pc ls (.int i :: .ref (g 29) :: rest)) := by
  subst hix; subst hv
  exact va_iald hx hb hK.1 hP 18 0 rfl rfl hin hdg kk
set_option maxRecDepth 100000 in
theorem stM_29 {p : Program} {l : Launch} {e : Env} {R : Room} {s : State} {m : MethodId} {args : Array Value} {below : List Frame} {meth : Method} {c : Code} {H : Heap} {locs : List Loc} {cells slots : Nat} {Q : State → Prop} {cc : ByteArray} {pc : Nat} {D : va_G} {cI cB cZ : ClassId} {g cn : Nat → Nat} {In : Nat → Int32} {Fn : Nat → Nat → Int32} {rest : List Value} {ls : Array Slot} {A : Nat → Prop} {H0 : Heap} {i x : Int32} {ix : Nat} {Fn2 : Nat → Nat → Int32} (hx : p.tables.exec = Jvm.exec) (hb : c.code = cc) (hK : KK D cI cB cZ s) (hP : va_P D vwCl (wM cI cB cZ g cn In Fn) H) (hD : va_D A (wM cI cB cZ g cn In Fn)) (hS : va_S A H0 H locs) (hin : vp_in i 12) (hix : i.toNatClampNeg = ix) (hn2 : va_up Fn 29 (upd (Fn 29) ix x) = Fn2) (hdg : decode cc pc = .ok (.iastore, 1)) (kk : ∀ (H1 : Heap) (locs1 : List Loc), va_P D vwCl (wM cI cB cZ g cn In Fn2) H1 → va_D A (wM cI cB cZ g cn In Fn2) → va_S A H0 H1 locs1 → W p l e R s m args below meth c H1 locs1 cells slots Q (F0 m (pc + 1) ls rest)) : W p l e R s m args below meth c H locs cells slots Q (F0 m pc ls (.int x :: .int i :: .ref (g 29) :: rest)) := by
  subst hix; subst hn2
  exact va_iast hx hb hK.1 hP hD hS 18 0 rfl rfl hin hdg kk
set_option maxRecDepth 100000 in
theorem ldM_30 {p : Program} {l : Launch} {e : Env} {R : Room} {s : State} {m : MethodId} {args : Array Value} {below : List Frame} {meth : Method} {c : Code} {H : Heap} {locs : List Loc} {cells slots : Nat} {Q : State → Prop} {cc : ByteArray} {pc : Nat} {D : va_G} {cI cB cZ : ClassId} {g cn : Nat → Nat} {In : Nat → Int32} {Fn : Nat → Nat → Int32} {rest : List Value} {ls : Array Slot} {i : Int32} {ix : Nat} {x : Int32} (hx : p.tables.exec = Jvm.exec) (hb : c.code = cc) (hK : KK D cI cB cZ s) (hP : va_P D vwCl (wM cI cB cZ g cn In Fn) H) (hin : vp_in i 12) (hix : i.toNatClampNeg = ix) (hv : Fn 30 ix = x) (hdg : decode cc pc = .ok (.iaload, 1)) (kk : W p l e R s m args below meth c H locs cells slots Q (F0 m (pc + 1) ls (.int x :: rest))) : W p l e R s m args below meth c H locs cells slots Q (F0 m pc ls (.int i :: .ref (g 30) :: rest)) := by
  subst hix; subst hv
  exact va_iald hx hb hK.1 hP 19 0 rfl rfl hin hdg kk
set_option maxRecDepth 100000 in
theorem stM_30 {p : Program} {l : Launch} {e : Env} {R : Room} {s : State} {m : MethodId} {args : Array Value} {below : List Frame} {meth : Method} {c : Code} {H : Heap} {locs : List Loc} {cells slots : Nat} {Q : State → Prop} {cc : ByteArray} {pc : Nat} {D : va_G} {cI cB cZ : ClassId} {g cn : Nat → Nat} {In : Nat → Int32} {Fn : Nat → Nat → Int32} {rest : List Value} {ls : Array Slot} {A : Nat → Prop} {H0 : Heap} {i x : Int32} {ix : Nat} {Fn2 : Nat → Nat → Int32} (hx : p.tables.exec = Jvm.exec) (hb : c.code = cc) (hK : KK D cI cB cZ s) (hP : va_P D vwCl (wM cI cB cZ g cn In Fn) H) (hD : va_D A (wM cI cB cZ g cn In Fn)) (hS : va_S A H0 H locs) (hin : vp_in i 12) (hix : i.toNatClampNeg = ix) (hn2 : va_up Fn 30 (upd (Fn 30) ix x) = Fn2) (hdg : decode cc pc = .ok (.iastore, 1)) (kk : ∀ (H1 : Heap) (locs1 : List Loc), va_P D vwCl (wM cI cB cZ g cn In Fn2) H1 → va_D A (wM cI cB cZ g cn In Fn2) → va_S A H0 H1 locs1 → W p l e R s m args below meth c H1 locs1 cells slots Q (F0 m (pc + 1) ls rest)) : W p l e R s m args below meth c H locs cells slots Q (F0 m pc ls (.int x :: .int i :: .ref (g 30) :: rest)) := by
  subst hix; subst hn2
  exact va_iast hx hb hK.1 hP hD hS 19 0 rfl rfl hin hdg kk
set_option maxRecDepth 100000 in
theorem ldM_31 {p : Program} {l : Launch} {e : Env} {R : Room} {s : State} {m : MethodId} {args : Array Value} {below : List Frame} {meth : Method} {c : Code} {H : Heap} {locs : List Loc} {cells slots : Nat} {Q : State → Prop} {cc : ByteArray} {pc : Nat} {D : va_G} {cI cB cZ : ClassId} {g cn : Nat → Nat} {In : Nat → Int32} {Fn : Nat → Nat → Int32} {rest : List Value} {ls : Array Slot} {i : Int32} {ix : Nat} {x : Int32} (hx : p.tables.exec = Jvm.exec) (hb : c.code = cc) (hK : KK D cI cB cZ s) (hP : va_P D vwCl (wM cI cB cZ g cn In Fn) H) (hin : vp_in i 12) (hix : i.toNatClampNeg = ix) (hv : Fn 31 ix = x) (hdg : decode cc pc = .ok (.iaload, 1)) (kk : W p l e R s m args below meth c H locs cells slots Q (F0 m (pc + 1) ls (.int x :: rest))) : W p l e R s m args below meth c H locs cells slots Q (F0 m pc ls (.int i :: .ref (g 31) :: rest)) := by
  subst hix; subst hv
  exact va_iald hx hb hK.1 hP 20 0 rfl rfl hin hdg kk
set_option maxRecDepth 100000 in
theorem stM_31 {p : Program} {l : Launch} {e : Env} {R : Room} {s : State} {m : MethodId} {args : Array Value} {below : List Frame} {meth : Method} {c : Code} {H : Heap} {locs : List Loc} {cells slots : Nat} {Q : State → Prop} {cc : ByteArray} {pc : Nat} {D : va_G} {cI cB cZ : ClassId} {g cn : Nat → Nat} {In : Nat → Int32} {Fn : Nat → Nat → Int32} {rest : List Value} {ls : Array Slot} {A : Nat → Prop} {H0 : Heap} {i x : Int32} {ix : Nat} {Fn2 : Nat → Nat → Int32} (hx : p.tables.exec = Jvm.exec) (hb : c.code = cc) (hK : KK D cI cB cZ s) (hP : va_P D vwCl (wM cI cB cZ g cn In Fn) H) (hD : va_D A (wM cI cB cZ g cn In Fn)) (hS : va_S A H0 H locs) (hin : vp_in i 12) (hix : i.toNatClampNeg = ix) (hn2 : va_up Fn 31 (upd (Fn 31) ix x) = Fn2) (hdg : decode cc pc = .ok (.iastore, 1)) (kk : ∀ (H1 : Heap) (locs1 : List Loc), va_P D vwCl (wM cI cB cZ g cn In Fn2) H1 → va_D A (wM cI cB cZ g cn In Fn2) → va_S A H0 H1 locs1 → W p l e R s m args below meth c H1 locs1 cells slots Q (F0 m (pc + 1) ls rest)) : W p l e R s m args below meth c H locs cells slots Q (F0 m pc ls (.int x :: .int i :: .ref (g 31) :: rest)) := by
  subst hix; subst hn2
  exact va_iast hx hb hK.1 hP hD hS 20 0 rfl rfl hin hdg kk
set_option maxRecDepth 100000 in
theorem ldM_32 {p : Program} {l : Launch} {e : Env} {R : Room} {s : State} {m : MethodId} {args : Array Value} {below : List Frame} {meth : Method} {c : Code} {H : Heap} {locs : List Loc} {cells slots : Nat} {Q : State → Prop} {cc : ByteArray} {pc : Nat} {D : va_G} {cI cB cZ : ClassId} {g cn : Nat → Nat} {In : Nat → Int32} {Fn : Nat → Nat → Int32} {rest : List Value} {ls : Array Slot} {i : Int32} {ix : Nat} {x : Int32} (hx : p.tables.exec = Jvm.exec) (hb : c.code = cc) (hK : KK D cI cB cZ s) (hP : va_P D vwCl (wM cI cB cZ g cn In Fn) H) (hin : vp_in i 1980) (hix : i.toNatClampNeg = ix) (hv : Fn 32 ix = x) (hdg : decode cc pc = .ok (.iaload, 1)) (kk : W p l e R s m args below meth c H locs cells slots Q (F0 m (pc + 1) ls (.int x :: rest))) : W p l e R s m args below meth c H locs cells slots Q (F0 m pc ls (.int i :: .ref (g 32) :: rest)) := by
  subst hix; subst hv
  exact va_iald hx hb hK.1 hP 21 0 rfl rfl hin hdg kk
set_option maxRecDepth 100000 in
theorem stM_32 {p : Program} {l : Launch} {e : Env} {R : Room} {s : State} {m : MethodId} {args : Array Value} {below : List Frame} {meth : Method} {c : Code} {H : Heap} {locs : List Loc} {cells slots : Nat} {Q : State → Prop} {cc : ByteArray} {pc : Nat} {D : va_G} {cI cB cZ : ClassId} {g cn : Nat → Nat} {In : Nat → Int32} {Fn : Nat → Nat → Int32} {rest : List Value} {ls : Array Slot} {A : Nat → Prop} {H0 : Heap} {i x : Int32} {ix : Nat} {Fn2 : Nat → Nat → Int32} (hx : p.tables.exec = Jvm.exec) (hb : c.code = cc) (hK : KK D cI cB cZ s) (hP : va_P D vwCl (wM cI cB cZ g cn In Fn) H) (hD : va_D A (wM cI cB cZ g cn In Fn)) (hS : va_S A H0 H locs) (hin : vp_in i 1980) (hix : i.toNatClampNeg = ix) (hn2 : va_up Fn 32 (upd (Fn 32) ix x) = Fn2) (hdg : decode cc pc = .ok (.iastore, 1)) (kk : ∀ (H1 : Heap) (locs1 : List Loc), va_P D vwCl (wM cI cB cZ g cn In Fn2) H1 → va_D A (wM cI cB cZ g cn In Fn2) → va_S A H0 H1 locs1 → W p l e R s m args below meth c H1 locs1 cells slots Q (F0 m (pc + 1) ls rest)) : W p l e R s m args below meth c H locs cells slots Q (F0 m pc ls (.int x :: .int i :: .ref (g 32) :: rest)) := by
  subst hix; subst hn2
  exact va_iast hx hb hK.1 hP hD hS 21 0 rfl rfl hin hdg kk
set_option maxRecDepth 100000 in
theorem ldM_33 {p : Program} {l : Launch} {e : Env} {R : Room} {s : State} {m : MethodId} {args : Array Value} {below : List Frame} {meth : Method} {c : Code} {H : Heap} {locs : List Loc} {cells slots : Nat} {Q : State → Prop} {cc : ByteArray} {pc : Nat} {D : va_G} {cI cB cZ : ClassId} {g cn : Nat → Nat} {In : Nat → Int32} {Fn : Nat → Nat → Int32} {rest : List Value} {ls : Array Slot} {i : Int32} {ix : Nat} {x : Int32} (hx : p.tables.exec = Jvm.exec) (hb : c.code = cc) (hK : KK D cI cB cZ s) (hP : va_P D vwCl (wM cI cB cZ g cn In Fn) H) (hin : vp_in i 11) (hix : i.toNatClampNeg = ix) (hv : Fn 33 ix = x) (hdg : decode cc pc = .ok (.iaload, 1)) (kk : W p l e R s m args below meth c H locs cells slots Q (F0 m (pc + 1) ls (.int x :: rest))) : W p l e R s m args below meth c H locs cells slots Q (F0 m pc ls (.int i :: .ref (g 33) :: rest)) := by
  subst hix; subst hv
  exact va_iald hx hb hK.1 hP 22 0 rfl rfl hin hdg kk
set_option maxRecDepth 100000 in
theorem stM_33 {p : Program} {l : Launch} {e : Env} {R : Room} {s : State} {m : MethodId} {args : Array Value} {below : List Frame} {meth : Method} {c : Code} {H : Heap} {locs : List Loc} {cells slots : Nat} {Q : State → Prop} {cc : ByteArray} {pc : Nat} {D : va_G} {cI cB cZ : ClassId} {g cn : Nat → Nat} {In : Nat → Int32} {Fn : Nat → Nat → Int32} {rest : List Value} {ls : Array Slot} {A : Nat → Prop} {H0 : Heap} {i x : Int32} {ix : Nat} {Fn2 : Nat → Nat → Int32} (hx : p.tables.exec = Jvm.exec) (hb : c.code = cc) (hK : KK D cI cB cZ s) (hP : va_P D vwCl (wM cI cB cZ g cn In Fn) H) (hD : va_D A (wM cI cB cZ g cn In Fn)) (hS : va_S A H0 H locs) (hin : vp_in i 11) (hix : i.toNatClampNeg = ix) (hn2 : va_up Fn 33 (upd (Fn 33) ix x) = Fn2) (hdg : decode cc pc = .ok (.iastore, 1)) (kk : ∀ (H1 : Heap) (locs1 : List Loc), va_P D vwCl (wM cI cB cZ g cn In Fn2) H1 → va_D A (wM cI cB cZ g cn In Fn2) → va_S A H0 H1 locs1 → W p l e R s m args below meth c H1 locs1 cells slots Q (F0 m (pc + 1) ls rest)) : W p l e R s m args below meth c H locs cells slots Q (F0 m pc ls (.int x :: .int i :: .ref (g 33) :: rest)) := by
  subst hix; subst hn2
  exact va_iast hx hb hK.1 hP hD hS 22 0 rfl rfl hin hdg kk
set_option maxRecDepth 100000 in
theorem ldM_34 {p : Program} {l : Launch} {e : Env} {R : Room} {s : State} {m : MethodId} {args : Array Value} {below : List Frame} {meth : Method} {c : Code} {H : Heap} {locs : List Loc} {cells slots : Nat} {Q : State → Prop} {cc : ByteArray} {pc : Nat} {D : va_G} {cI cB cZ : ClassId} {g cn : Nat → Nat} {In : Nat → Int32} {Fn : Nat → Nat → Int32} {rest : List Value} {ls : Array Slot} {i : Int32} {ix : Nat} {x : Int32} (hx : p.tables.exec = Jvm.exec) (hb : c.code = cc) (hK : KK D cI cB cZ s) (hP : va_P D vwCl (wM cI cB cZ g cn In Fn) H) (hin : vp_in i 132) (hix : i.toNatClampNeg = ix) (hv : Fn 34 ix = x) (hdg : decode cc pc = .ok (.iaload, 1)) (kk : W p l e R s m args below meth c H locs cells slots Q (F0 m (pc + 1) ls (.int x :: rest))) : W p l e R s m args below meth c H locs cells slots Q (F0 m pc ls (.int i :: .ref (g 34) :: rest)) := by
  subst hix; subst hv
  exact va_iald hx hb hK.1 hP 23 0 rfl rfl hin hdg kk
set_option maxRecDepth 100000 in
theorem stM_34 {p : Program} {l : Launch} {e : Env} {R : Room} {s : State} {m : MethodId} {args : Array Value} {below : List Frame} {meth : Method} {c : Code} {H : Heap} {locs : List Loc} {cells slots : Nat} {Q : State → Prop} {cc : ByteArray} {pc : Nat} {D : va_G} {cI cB cZ : ClassId} {g cn : Nat → Nat} {In : Nat → Int32} {Fn : Nat → Nat → Int32} {rest : List Value} {ls : Array Slot} {A : Nat → Prop} {H0 : Heap} {i x : Int32} {ix : Nat} {Fn2 : Nat → Nat → Int32} (hx : p.tables.exec = Jvm.exec) (hb : c.code = cc) (hK : KK D cI cB cZ s) (hP : va_P D vwCl (wM cI cB cZ g cn In Fn) H) (hD : va_D A (wM cI cB cZ g cn In Fn)) (hS : va_S A H0 H locs) (hin : vp_in i 132) (hix : i.toNatClampNeg = ix) (hn2 : va_up Fn 34 (upd (Fn 34) ix x) = Fn2) (hdg : decode cc pc = .ok (.iastore, 1)) (kk : ∀ (H1 : Heap) (locs1 : List Loc), va_P D vwCl (wM cI cB cZ g cn In Fn2) H1 → va_D A (wM cI cB cZ g cn In Fn2) → va_S A H0 H1 locs1 → W p l e R s m args below meth c H1 locs1 cells slots Q (F0 m (pc + 1) ls rest)) : W p l e R s m args below meth c H locs cells slots Q (F0 m pc ls (.int x :: .int i :: .ref (g 34) :: rest)) := by
  subst hix; subst hn2
  exact va_iast hx hb hK.1 hP hD hS 23 0 rfl rfl hin hdg kk
set_option maxRecDepth 100000 in
theorem ldM_35 {p : Program} {l : Launch} {e : Env} {R : Room} {s : State} {m : MethodId} {args : Array Value} {below : List Frame} {meth : Method} {c : Code} {H : Heap} {locs : List Loc} {cells slots : Nat} {Q : State → Prop} {cc : ByteArray} {pc : Nat} {D : va_G} {cI cB cZ : ClassId} {g cn : Nat → Nat} {In : Nat → Int32} {Fn : Nat → Nat → Int32} {rest : List Value} {ls : Array Slot} {i : Int32} {ix : Nat} {x : Int32} (hx : p.tables.exec = Jvm.exec) (hb : c.code = cc) (hK : KK D cI cB cZ s) (hP : va_P D vwCl (wM cI cB cZ g cn In Fn) H) (hin : vp_in i 132) (hix : i.toNatClampNeg = ix) (hv : Fn 35 ix = x) (hdg : decode cc pc = .ok (.iaload, 1)) (kk : W p l e R s m args below meth c H locs cells slots Q (F0 m (pc + 1) ls (.int x :: rest))) : W p l e R s m args below meth c H locs cells slots Q (F0 m pc ls (.int i :: .ref (g 35) :: rest)) := by
  subst hix; subst hv
  exact va_iald hx hb hK.1 hP 24 0 rfl rfl hin hdg kk
set_option maxRecDepth 100000 in
theorem stM_35 {p : Program} {l : Launch} {e : Env} {R : Room} {s : State} {m : MethodId} {args : Array Value} {below : List Frame} {meth : Method} {c : Code} {H : Heap} {locs : List Loc} {cells slots : Nat} {Q : State → Prop} {cc : ByteArray} {pc : Nat} {D : va_G} {cI cB cZ : ClassId} {g cn : Nat → Nat} {In : Nat → Int32} {Fn : Nat → Nat → Int32} {rest : List Value} {ls : Array Slot} {A : Nat → Prop} {H0 : Heap} {i x : Int32} {ix : Nat} {Fn2 : Nat → Nat → Int32} (hx : p.tables.exec = Jvm.exec) (hb : c.code = cc) (hK : KK D cI cB cZ s) (hP : va_P D vwCl (wM cI cB cZ g cn In Fn) H) (hD : va_D A (wM cI cB cZ g cn In Fn)) (hS : va_S A H0 H locs) (hin : vp_in i 132) (hix : i.toNatClampNeg = ix) (hn2 : va_up Fn 35 (upd (Fn 35) ix x) = Fn2) (hdg : decode cc pc = .ok (.iastore, 1)) (kk : ∀ (H1 : Heap) (locs1 : List Loc), va_P D vwCl (wM cI cB cZ g cn In Fn2) H1 → va_D A (wM cI cB cZ g cn In Fn2) → va_S A H0 H1 locs1 → W p l e R s m args below meth c H1 locs1 cells slots Q (F0 m (pc + 1) ls rest)) : W p l e R s m args below meth c H locs cells slots Q (F0 m pc ls (.int x :: .int i :: .ref (g 35) :: rest)) := by
  subst hix; subst hn2
  exact va_iast hx hb hK.1 hP hD hS 24 0 rfl rfl hin hdg kk
set_option maxRecDepth 100000 in
theorem ldM_36 {p : Program} {l : Launch} {e : Env} {R : Room} {s : State} {m : MethodId} {args : Array Value} {below : List Frame} {meth : Method} {c : Code} {H : Heap} {locs : List Loc} {cells slots : Nat} {Q : State → Prop} {cc : ByteArray} {pc : Nat} {D : va_G} {cI cB cZ : ClassId} {g cn : Nat → Nat} {In : Nat → Int32} {Fn : Nat → Nat → Int32} {rest : List Value} {ls : Array Slot} {i : Int32} {ix : Nat} {x : Int32} (hx : p.tables.exec = Jvm.exec) (hb : c.code = cc) (hK : KK D cI cB cZ s) (hP : va_P D vwCl (wM cI cB cZ g cn In Fn) H) (hin : vp_in i 132) (hix : i.toNatClampNeg = ix) (hv : Fn 36 ix = x) (hdg : decode cc pc = .ok (.iaload, 1)) (kk : W p l e R s m args below meth c H locs cells slots Q (F0 m (pc + 1) ls (.int x :: rest))) : W p l e R s m args below meth c H locs cells slots Q (F0 m pc ls (.int i :: .ref (g 36) :: rest)) := by
  subst hix; subst hv
  exact va_iald hx hb hK.1 hP 25 0 rfl rfl hin hdg kk
set_option maxRecDepth 100000 in
theorem stM_36 {p : Program} {l : Launch} {e : Env} {R : Room} {s : State} {m : MethodId} {args : Array Value} {below : List Frame} {meth : Method} {c : Code} {H : Heap} {locs : List Loc} {cells slots : Nat} {Q : State → Prop} {cc : ByteArray} {pc : Nat} {D : va_G} {cI cB cZ : ClassId} {g cn : Nat → Nat} {In : Nat → Int32} {Fn : Nat → Nat → Int32} {rest : List Value} {ls : Array Slot} {A : Nat → Prop} {H0 : Heap} {i x : Int32} {ix : Nat} {Fn2 : Nat → Nat → Int32} (hx : p.tables.exec = Jvm.exec) (hb : c.code = cc) (hK : KK D cI cB cZ s) (hP : va_P D vwCl (wM cI cB cZ g cn In Fn) H) (hD : va_D A (wM cI cB cZ g cn In Fn)) (hS : va_S A H0 H locs) (hin : vp_in i 132) (hix : i.toNatClampNeg = ix) (hn2 : va_up Fn 36 (upd (Fn 36) ix x) = Fn2) (hdg : decode cc pc = .ok (.iastore, 1)) (kk : ∀ (H1 : Heap) (locs1 : List Loc), va_P D vwCl (wM cI cB cZ g cn In Fn2) H1 → va_D A (wM cI cB cZ g cn In Fn2) → va_S A H0 H1 locs1 → W p l e R s m args below meth c H1 locs1 cells slots Q (F0 m (pc + 1) ls rest)) : W p l e R s m args below meth c H locs cells slots Q (F0 m pc ls (.int x :: .int i :: .ref (g 36) :: rest)) := by
  subst hix; subst hn2
  exact va_iast hx hb hK.1 hP hD hS 25 0 rfl rfl hin hdg kk
set_option maxRecDepth 100000 in
theorem ldM_37 {p : Program} {l : Launch} {e : Env} {R : Room} {s : State} {m : MethodId} {args : Array Value} {below : List Frame} {meth : Method} {c : Code} {H : Heap} {locs : List Loc} {cells slots : Nat} {Q : State → Prop} {cc : ByteArray} {pc : Nat} {D : va_G} {cI cB cZ : ClassId} {g cn : Nat → Nat} {In : Nat → Int32} {Fn : Nat → Nat → Int32} {rest : List Value} {ls : Array Slot} {i : Int32} {ix : Nat} {x : Int32} (hx : p.tables.exec = Jvm.exec) (hb : c.code = cc) (hK : KK D cI cB cZ s) (hP : va_P D vwCl (wM cI cB cZ g cn In Fn) H) (hin : vp_in i 180) (hix : i.toNatClampNeg = ix) (hv : Fn 37 ix = x) (hdg : decode cc pc = .ok (.iaload, 1)) (kk : W p l e R s m args below meth c H locs cells slots Q (F0 m (pc + 1) ls (.int x :: rest))) : W p l e R s m args below meth c H locs cells slots Q (F0 m pc ls (.int i :: .ref (g 37) :: rest)) := by
  subst hix; subst hv
  exact va_iald hx hb hK.1 hP 26 0 rfl rfl hin hdg kk
set_option maxRecDepth 100000 in
theorem stM_37 {p : Program} {l : Launch} {e : Env} {R : Room} {s : State} {m : MethodId} {args : Array Value} {below : List Frame} {meth : Method} {c : Code} {H : Heap} {locs : List Loc} {cells slots : Nat} {Q : State → Prop} {cc : ByteArray} {pc : Nat} {D : va_G} {cI cB cZ : ClassId} {g cn : Nat → Nat} {In : Nat → Int32} {Fn : Nat → Nat → Int32} {rest : List Value} {ls : Array Slot} {A : Nat → Prop} {H0 : Heap} {i x : Int32} {ix : Nat} {Fn2 : Nat → Nat → Int32} (hx : p.tables.exec = Jvm.exec) (hb : c.code = cc) (hK : KK D cI cB cZ s) (hP : va_P D vwCl (wM cI cB cZ g cn In Fn) H) (hD : va_D A (wM cI cB cZ g cn In Fn)) (hS : va_S A H0 H locs) (hin : vp_in i 180) (hix : i.toNatClampNeg = ix) (hn2 : va_up Fn 37 (upd (Fn 37) ix x) = Fn2) (hdg : decode cc pc = .ok (.iastore, 1)) (kk : ∀ (H1 : Heap) (locs1 : List Loc), va_P D vwCl (wM cI cB cZ g cn In Fn2) H1 → va_D A (wM cI cB cZ g cn In Fn2) → va_S A H0 H1 locs1 → W p l e R s m args below meth c H1 locs1 cells slots Q (F0 m (pc + 1) ls rest)) : W p l e R s m args below meth c H locs cells slots Q (F0 m pc ls (.int x :: .int i :: .ref (g 37) :: rest)) := by
  subst hix; subst hn2
  exact va_iast hx hb hK.1 hP hD hS 26 0 rfl rfl hin hdg kk
set_option maxRecDepth 100000 in
theorem ldM_38 {p : Program} {l : Launch} {e : Env} {R : Room} {s : State} {m : MethodId} {args : Array Value} {below : List Frame} {meth : Method} {c : Code} {H : Heap} {locs : List Loc} {cells slots : Nat} {Q : State → Prop} {cc : ByteArray} {pc : Nat} {D : va_G} {cI cB cZ : ClassId} {g cn : Nat → Nat} {In : Nat → Int32} {Fn : Nat → Nat → Int32} {rest : List Value} {ls : Array Slot} {i : Int32} {ix : Nat} {x : Int32} (hx : p.tables.exec = Jvm.exec) (hb : c.code = cc) (hK : KK D cI cB cZ s) (hP : va_P D vwCl (wM cI cB cZ g cn In Fn) H) (hin : vp_in i 11) (hix : i.toNatClampNeg = ix) (hv : Fn 38 ix = x) (hdg : decode cc pc = .ok (.iaload, 1)) (kk : W p l e R s m args below meth c H locs cells slots Q (F0 m (pc + 1) ls (.int x :: rest))) : W p l e R s m args below meth c H locs cells slots Q (F0 m pc ls (.int i :: .ref (g 38) :: rest)) := by
  subst hix; subst hv
  exact va_iald hx hb hK.1 hP 27 0 rfl rfl hin hdg kk
set_option maxRecDepth 100000 in
theorem stM_38 {p : Program} {l : Launch} {e : Env} {R : Room} {s : State} {m : MethodId} {args : Array Value} {below : List Frame} {meth : Method} {c : Code} {H : Heap} {locs : List Loc} {cells slots : Nat} {Q : State → Prop} {cc : ByteArray} {pc : Nat} {D : va_G} {cI cB cZ : ClassId} {g cn : Nat → Nat} {In : Nat → Int32} {Fn : Nat → Nat → Int32} {rest : List Value} {ls : Array Slot} {A : Nat → Prop} {H0 : Heap} {i x : Int32} {ix : Nat} {Fn2 : Nat → Nat → Int32} (hx : p.tables.exec = Jvm.exec) (hb : c.code = cc) (hK : KK D cI cB cZ s) (hP : va_P D vwCl (wM cI cB cZ g cn In Fn) H) (hD : va_D A (wM cI cB cZ g cn In Fn)) (hS : va_S A H0 H locs) (hin : vp_in i 11) (hix : i.toNatClampNeg = ix) (hn2 : va_up Fn 38 (upd (Fn 38) ix x) = Fn2) (hdg : decode cc pc = .ok (.iastore, 1)) (kk : ∀ (H1 : Heap) (locs1 : List Loc), va_P D vwCl (wM cI cB cZ g cn In Fn2) H1 → va_D A (wM cI cB cZ g cn In Fn2) → va_S A H0 H1 locs1 → W p l e R s m args below meth c H1 locs1 cells slots Q (F0 m (pc + 1) ls rest)) : W p l e R s m args below meth c H locs cells slots Q (F0 m pc ls (.int x :: .int i :: .ref (g 38) :: rest)) := by
  subst hix; subst hn2
  exact va_iast hx hb hK.1 hP hD hS 27 0 rfl rfl hin hdg kk
set_option maxRecDepth 100000 in
theorem ldM_39 {p : Program} {l : Launch} {e : Env} {R : Room} {s : State} {m : MethodId} {args : Array Value} {below : List Frame} {meth : Method} {c : Code} {H : Heap} {locs : List Loc} {cells slots : Nat} {Q : State → Prop} {cc : ByteArray} {pc : Nat} {D : va_G} {cI cB cZ : ClassId} {g cn : Nat → Nat} {In : Nat → Int32} {Fn : Nat → Nat → Int32} {rest : List Value} {ls : Array Slot} {i : Int32} {ix : Nat} {x : Int32} (hx : p.tables.exec = Jvm.exec) (hb : c.code = cc) (hK : KK D cI cB cZ s) (hP : va_P D vwCl (wM cI cB cZ g cn In Fn) H) (hin : vp_in i 58) (hix : i.toNatClampNeg = ix) (hv : Fn 39 ix = x) (hdg : decode cc pc = .ok (.iaload, 1)) (kk : W p l e R s m args below meth c H locs cells slots Q (F0 m (pc + 1) ls (.int x :: rest))) : W p l e R s m args below meth c H locs cells slots Q (F0 m pc ls (.int i :: .ref (g 39) :: rest)) := by
  subst hix; subst hv
  exact va_iald hx hb hK.1 hP 28 0 rfl rfl hin hdg kk
set_option maxRecDepth 100000 in
theorem stM_39 {p : Program} {l : Launch} {e : Env} {R : Room} {s : State} {m : MethodId} {args : Array Value} {below : List Frame} {meth : Method} {c : Code} {H : Heap} {locs : List Loc} {cells slots : Nat} {Q : State → Prop} {cc : ByteArray} {pc : Nat} {D : va_G} {cI cB cZ : ClassId} {g cn : Nat → Nat} {In : Nat → Int32} {Fn : Nat → Nat → Int32} {rest : List Value} {ls : Array Slot} {A : Nat → Prop} {H0 : Heap} {i x : Int32} {ix : Nat} {Fn2 : Nat → Nat → Int32} (hx : p.tables.exec = Jvm.exec) (hb : c.code = cc) (hK : KK D cI cB cZ s) (hP : va_P D vwCl (wM cI cB cZ g cn In Fn) H) (hD : va_D A (wM cI cB cZ g cn In Fn)) (hS : va_S A H0 H locs) (hin : vp_in i 58) (hix : i.toNatClampNeg = ix) (hn2 : va_up Fn 39 (upd (Fn 39) ix x) = Fn2) (hdg : decode cc pc = .ok (.iastore, 1)) (kk : ∀ (H1 : Heap) (locs1 : List Loc), va_P D vwCl (wM cI cB cZ g cn In Fn2) H1 → va_D A (wM cI cB cZ g cn In Fn2) → va_S A H0 H1 locs1 → W p l e R s m args below meth c H1 locs1 cells slots Q (F0 m (pc + 1) ls rest)) : W p l e R s m args below meth c H locs cells slots Q (F0 m pc ls (.int x :: .int i :: .ref (g 39) :: rest)) := by
  subst hix; subst hn2
  exact va_iast hx hb hK.1 hP hD hS 28 0 rfl rfl hin hdg kk
set_option maxRecDepth 100000 in
theorem ldM_40 {p : Program} {l : Launch} {e : Env} {R : Room} {s : State} {m : MethodId} {args : Array Value} {below : List Frame} {meth : Method} {c : Code} {H : Heap} {locs : List Loc} {cells slots : Nat} {Q : State → Prop} {cc : ByteArray} {pc : Nat} {D : va_G} {cI cB cZ : ClassId} {g cn : Nat → Nat} {In : Nat → Int32} {Fn : Nat → Nat → Int32} {rest : List Value} {ls : Array Slot} {i : Int32} {ix : Nat} {x : Int32} (hx : p.tables.exec = Jvm.exec) (hb : c.code = cc) (hK : KK D cI cB cZ s) (hP : va_P D vwCl (wM cI cB cZ g cn In Fn) H) (hin : vp_in i 10) (hix : i.toNatClampNeg = ix) (hv : Fn 40 ix = x) (hdg : decode cc pc = .ok (.iaload, 1)) (kk : W p l e R s m args below meth c H locs cells slots Q (F0 m (pc + 1) ls (.int x :: rest))) : W p l e R s m args below meth c H locs cells slots Q (F0 m pc ls (.int i :: .ref (g 40) :: rest)) := by
  subst hix; subst hv
  exact va_iald hx hb hK.1 hP 29 0 rfl rfl hin hdg kk
set_option maxRecDepth 100000 in
theorem stM_40 {p : Program} {l : Launch} {e : Env} {R : Room} {s : State} {m : MethodId} {args : Array Value} {below : List Frame} {meth : Method} {c : Code} {H : Heap} {locs : List Loc} {cells slots : Nat} {Q : State → Prop} {cc : ByteArray} {pc : Nat} {D : va_G} {cI cB cZ : ClassId} {g cn : Nat → Nat} {In : Nat → Int32} {Fn : Nat → Nat → Int32} {rest : List Value} {ls : Array Slot} {A : Nat → Prop} {H0 : Heap} {i x : Int32} {ix : Nat} {Fn2 : Nat → Nat → Int32} (hx : p.tables.exec = Jvm.exec) (hb : c.code = cc) (hK : KK D cI cB cZ s) (hP : va_P D vwCl (wM cI cB cZ g cn In Fn) H) (hD : va_D A (wM cI cB cZ g cn In Fn)) (hS : va_S A H0 H locs) (hin : vp_in i 10) (hix : i.toNatClampNeg = ix) (hn2 : va_up Fn 40 (upd (Fn 40) ix x) = Fn2) (hdg : decode cc pc = .ok (.iastore, 1)) (kk : ∀ (H1 : Heap) (locs1 : List Loc), va_P D vwCl (wM cI cB cZ g cn In Fn2) H1 → va_D A (wM cI cB cZ g cn In Fn2) → va_S A H0 H1 locs1 → W p l e R s m args below meth c H1 locs1 cells slots Q (F0 m (pc + 1) ls rest)) : W p l e R s m args below meth c H locs cells slots Q (F0 m pc ls (.int x :: .int i :: .ref (g 40) :: rest)) := by
  subst hix; subst hn2
  exact va_iast hx hb hK.1 hP hD hS 29 0 rfl rfl hin hdg kk
set_option maxRecDepth 100000 in
theorem ldM_41 {p : Program} {l : Launch} {e : Env} {R : Room} {s : State} {m : MethodId} {args : Array Value} {below : List Frame} {meth : Method} {c : Code} {H : Heap} {locs : List Loc} {cells slots : Nat} {Q : State → Prop} {cc : ByteArray} {pc : Nat} {D : va_G} {cI cB cZ : ClassId} {g cn : Nat → Nat} {In : Nat → Int32} {Fn : Nat → Nat → Int32} {rest : List Value} {ls : Array Slot} {i : Int32} {ix : Nat} {x : Int32} (hx : p.tables.exec = Jvm.exec) (hb : c.code = cc) (hK : KK D cI cB cZ s) (hP : va_P D vwCl (wM cI cB cZ g cn In Fn) H) (hin : vp_in i 400) (hix : i.toNatClampNeg = ix) (hv : Fn 41 ix = x) (hdg : decode cc pc = .ok (.iaload, 1)) (kk : W p l e R s m args below meth c H locs cells slots Q (F0 m (pc + 1) ls (.int x :: rest))) : W p l e R s m args below meth c H locs cells slots Q (F0 m pc ls (.int i :: .ref (g 41) :: rest)) := by
  subst hix; subst hv
  exact va_iald hx hb hK.1 hP 30 0 rfl rfl hin hdg kk
set_option maxRecDepth 100000 in
theorem stM_41 {p : Program} {l : Launch} {e : Env} {R : Room} {s : State} {m : MethodId} {args : Array Value} {below : List Frame} {meth : Method} {c : Code} {H : Heap} {locs : List Loc} {cells slots : Nat} {Q : State → Prop} {cc : ByteArray} {pc : Nat} {D : va_G} {cI cB cZ : ClassId} {g cn : Nat → Nat} {In : Nat → Int32} {Fn : Nat → Nat → Int32} {rest : List Value} {ls : Array Slot} {A : Nat → Prop} {H0 : Heap} {i x : Int32} {ix : Nat} {Fn2 : Nat → Nat → Int32} (hx : p.tables.exec = Jvm.exec) (hb : c.code = cc) (hK : KK D cI cB cZ s) (hP : va_P D vwCl (wM cI cB cZ g cn In Fn) H) (hD : va_D A (wM cI cB cZ g cn In Fn)) (hS : va_S A H0 H locs) (hin : vp_in i 400) (hix : i.toNatClampNeg = ix) (hn2 : va_up Fn 41 (upd (Fn 41) ix x) = Fn2) (hdg : decode cc pc = .ok (.iastore, 1)) (kk : ∀ (H1 : Heap) (locs1 : List Loc), va_P D vwCl (wM cI cB cZ g cn In Fn2) H1 → va_D A (wM cI cB cZ g cn In Fn2) → va_S A H0 H1 locs1 → W p l e R s m args below meth c H1 locs1 cells slots Q (F0 m (pc + 1) ls rest)) : W p l e R s m args below meth c H locs cells slots Q (F0 m pc ls (.int x :: .int i :: .ref (g 41) :: rest)) := by
  subst hix; subst hn2
  exact va_iast hx hb hK.1 hP hD hS 30 0 rfl rfl hin hdg kk
set_option maxRecDepth 100000 in
theorem ldM_42 {p : Program} {l : Launch} {e : Env} {R : Room} {s : State} {m : MethodId} {args : Array Value} {below : List Frame} {meth : Method} {c : Code} {H : Heap} {locs : List Loc} {cells slots : Nat} {Q : State → Prop} {cc : ByteArray} {pc : Nat} {D : va_G} {cI cB cZ : ClassId} {g cn : Nat → Nat} {In : Nat → Int32} {Fn : Nat → Nat → Int32} {rest : List Value} {ls : Array Slot} {i : Int32} {ix : Nat} {x : Int32} (hx : p.tables.exec = Jvm.exec) (hb : c.code = cc) (hK : KK D cI cB cZ s) (hP : va_P D vwCl (wM cI cB cZ g cn In Fn) H) (hin : vp_in i 10) (hix : i.toNatClampNeg = ix) (hv : Fn 42 ix = x) (hdg : decode cc pc = .ok (.iaload, 1)) (kk : W p l e R s m args below meth c H locs cells slots Q (F0 m (pc + 1) ls (.int x :: rest))) : W p l e R s m args below meth c H locs cells slots Q (F0 m pc ls (.int i :: .ref (g 42) :: rest)) := by
  subst hix; subst hv
  exact va_iald hx hb hK.1 hP 31 0 rfl rfl hin hdg kk
set_option maxRecDepth 100000 in
theorem stM_42 {p : Program} {l : Launch} {e : Env} {R : Room} {s : State} {m : MethodId} {args : Array Value} {below : List Frame} {meth : Method} {c : Code} {H : Heap} {locs : List Loc} {cells slots : Nat} {Q : State → Prop} {cc : ByteArray} {pc : Nat} {D : va_G} {cI cB cZ : ClassId} {g cn : Nat → Nat} {In : Nat → Int32} {Fn : Nat → Nat → Int32} {rest : List Value} {ls : Array Slot} {A : Nat → Prop} {H0 : Heap} {i x : Int32} {ix : Nat} {Fn2 : Nat → Nat → Int32} (hx : p.tables.exec = Jvm.exec) (hb : c.code = cc) (hK : KK D cI cB cZ s) (hP : va_P D vwCl (wM cI cB cZ g cn In Fn) H) (hD : va_D A (wM cI cB cZ g cn In Fn)) (hS : va_S A H0 H locs) (hin : vp_in i 10) (hix : i.toNatClampNeg = ix) (hn2 : va_up Fn 42 (upd (Fn 42) ix x) = Fn2) (hdg : decode cc pc = .ok (.iastore, 1)) (kk : ∀ (H1 : Heap) (locs1 : List Loc), va_P D vwCl (wM cI cB cZ g cn In Fn2) H1 → va_D A (wM cI cB cZ g cn In Fn2) → va_S A H0 H1 locs1 → W p l e R s m args below meth c H1 locs1 cells slots Q (F0 m (pc + 1) ls rest)) : W p l e R s m args below meth c H locs cells slots Q (F0 m pc ls (.int x :: .int i :: .ref (g 42) :: rest)) := by
  subst hix; subst hn2
  exact va_iast hx hb hK.1 hP hD hS 31 0 rfl rfl hin hdg kk
set_option maxRecDepth 100000 in
theorem ldM_43 {p : Program} {l : Launch} {e : Env} {R : Room} {s : State} {m : MethodId} {args : Array Value} {below : List Frame} {meth : Method} {c : Code} {H : Heap} {locs : List Loc} {cells slots : Nat} {Q : State → Prop} {cc : ByteArray} {pc : Nat} {D : va_G} {cI cB cZ : ClassId} {g cn : Nat → Nat} {In : Nat → Int32} {Fn : Nat → Nat → Int32} {rest : List Value} {ls : Array Slot} {i : Int32} {ix : Nat} {x : Int32} (hx : p.tables.exec = Jvm.exec) (hb : c.code = cc) (hK : KK D cI cB cZ s) (hP : va_P D vwCl (wM cI cB cZ g cn In Fn) H) (hin : vp_in i 2048) (hix : i.toNatClampNeg = ix) (hv : Fn 43 ix = x) (hdg : decode cc pc = .ok (.iaload, 1)) (kk : W p l e R s m args below meth c H locs cells slots Q (F0 m (pc + 1) ls (.int x :: rest))) : W p l e R s m args below meth c H locs cells slots Q (F0 m pc ls (.int i :: .ref (g 43) :: rest)) := by
  subst hix; subst hv
  exact va_iald hx hb hK.1 hP 32 0 rfl rfl hin hdg kk
set_option maxRecDepth 100000 in
theorem stM_43 {p : Program} {l : Launch} {e : Env} {R : Room} {s : State} {m : MethodId} {args : Array Value} {below : List Frame} {meth : Method} {c : Code} {H : Heap} {locs : List Loc} {cells slots : Nat} {Q : State → Prop} {cc : ByteArray} {pc : Nat} {D : va_G} {cI cB cZ : ClassId} {g cn : Nat → Nat} {In : Nat → Int32} {Fn : Nat → Nat → Int32} {rest : List Value} {ls : Array Slot} {A : Nat → Prop} {H0 : Heap} {i x : Int32} {ix : Nat} {Fn2 : Nat → Nat → Int32} (hx : p.tables.exec = Jvm.exec) (hb : c.code = cc) (hK : KK D cI cB cZ s) (hP : va_P D vwCl (wM cI cB cZ g cn In Fn) H) (hD : va_D A (wM cI cB cZ g cn In Fn)) (hS : va_S A H0 H locs) (hin : vp_in i 2048) (hix : i.toNatClampNeg = ix) (hn2 : va_up Fn 43 (upd (Fn 43) ix x) = Fn2) (hdg : decode cc pc = .ok (.iastore, 1)) (kk : ∀ (H1 : Heap) (locs1 : List Loc), va_P D vwCl (wM cI cB cZ g cn In Fn2) H1 → va_D A (wM cI cB cZ g cn In Fn2) → va_S A H0 H1 locs1 → W p l e R s m args below meth c H1 locs1 cells slots Q (F0 m (pc + 1) ls rest)) : W p l e R s m args below meth c H locs cells slots Q (F0 m pc ls (.int x :: .int i :: .ref (g 43) :: rest)) := by
  subst hix; subst hn2
  exact va_iast hx hb hK.1 hP hD hS 32 0 rfl rfl hin hdg kk
set_option maxRecDepth 100000 in
theorem ldM_47 {p : Program} {l : Launch} {e : Env} {R : Room} {s : State} {m : MethodId} {args : Array Value} {below : List Frame} {meth : Method} {c : Code} {H : Heap} {locs : List Loc} {cells slots : Nat} {Q : State → Prop} {cc : ByteArray} {pc : Nat} {D : va_G} {cI cB cZ : ClassId} {g cn : Nat → Nat} {In : Nat → Int32} {Fn : Nat → Nat → Int32} {rest : List Value} {ls : Array Slot} {i : Int32} {ix : Nat} {x : Int32} (hx : p.tables.exec = Jvm.exec) (hb : c.code = cc) (hK : KK D cI cB cZ s) (hP : va_P D vwCl (wM cI cB cZ g cn In Fn) H) (hin : vp_in i 3) (hix : i.toNatClampNeg = ix) (hv : Fn 47 ix = x) (hdg : decode cc pc = .ok (.iaload, 1)) (kk : W p l e R s m args below meth c H locs cells slots Q (F0 m (pc + 1) ls (.int x :: rest))) : W p l e R s m args below meth c H locs cells slots Q (F0 m pc ls (.int i :: .ref (g 47) :: rest)) := by
  subst hix; subst hv
  exact va_iald hx hb hK.1 hP 33 0 rfl rfl hin hdg kk
set_option maxRecDepth 100000 in
theorem stM_47 {p : Program} {l : Launch} {e : Env} {R : Room} {s : State} {m : MethodId} {args : Array Value} {below : List Frame} {meth : Method} {c : Code} {H : Heap} {locs : List Loc} {cells slots : Nat} {Q : State → Prop} {cc : ByteArray} {pc : Nat} {D : va_G} {cI cB cZ : ClassId} {g cn : Nat → Nat} {In : Nat → Int32} {Fn : Nat → Nat → Int32} {rest : List Value} {ls : Array Slot} {A : Nat → Prop} {H0 : Heap} {i x : Int32} {ix : Nat} {Fn2 : Nat → Nat → Int32} (hx : p.tables.exec = Jvm.exec) (hb : c.code = cc) (hK : KK D cI cB cZ s) (hP : va_P D vwCl (wM cI cB cZ g cn In Fn) H) (hD : va_D A (wM cI cB cZ g cn In Fn)) (hS : va_S A H0 H locs) (hin : vp_in i 3) (hix : i.toNatClampNeg = ix) (hn2 : va_up Fn 47 (upd (Fn 47) ix x) = Fn2) (hdg : decode cc pc = .ok (.iastore, 1)) (kk : ∀ (H1 : Heap) (locs1 : List Loc), va_P D vwCl (wM cI cB cZ g cn In Fn2) H1 → va_D A (wM cI cB cZ g cn In Fn2) → va_S A H0 H1 locs1 → W p l e R s m args below meth c H1 locs1 cells slots Q (F0 m (pc + 1) ls rest)) : W p l e R s m args below meth c H locs cells slots Q (F0 m pc ls (.int x :: .int i :: .ref (g 47) :: rest)) := by
  subst hix; subst hn2
  exact va_iast hx hb hK.1 hP hD hS 33 0 rfl rfl hin hdg kk
set_option maxRecDepth 100000 in
theorem ldM_48 {p : Program} {l : Launch} {e : Env} {R : Room} {s : State} {m : MethodId} {args : Array Value} {below : List Frame} {meth : Method} {c : Code} {H : Heap} {locs : List Loc} {cells slots : Nat} {Q : State → Prop} {cc : ByteArray} {pc : Nat} {D : va_G} {cI cB cZ : ClassId} {g cn : Nat → Nat} {In : Nat → Int32} {Fn : Nat → Nat → Int32} {rest : List Value} {ls : Array Slot} {i : Int32} {ix : Nat} {x : Int32} (hx : p.tables.exec = Jvm.exec) (hb : c.code = cc) (hK : KK D cI cB cZ s) (hP : va_P D vwCl (wM cI cB cZ g cn In Fn) H) (hin : vp_in i 3) (hix : i.toNatClampNeg = ix) (hv : Fn 48 ix = x) (hdg : decode cc pc = .ok (.iaload, 1)) (kk : W p l e R s m args below meth c H locs cells slots Q (F0 m (pc + 1) ls (.int x :: rest))) : W p l e R s m args below meth c H locs cells slots Q (F0 m pc ls (.int i :: .ref (g 48) :: rest)) := by
  subst hix; subst hv
  exact va_iald hx hb hK.1 hP 34 0 rfl rfl hin hdg kk
set_option maxRecDepth 100000 in
theorem stM_48 {p : Program} {l : Launch} {e : Env} {R : Room} {s : State} {m : MethodId} {args : Array Value} {below : List Frame} {meth : Method} {c : Code} {H : Heap} {locs : List Loc} {cells slots : Nat} {Q : State → Prop} {cc : ByteArray} {pc : Nat} {D : va_G} {cI cB cZ : ClassId} {g cn : Nat → Nat} {In : Nat → Int32} {Fn : Nat → Nat → Int32} {rest : List Value} {ls : Array Slot} {A : Nat → Prop} {H0 : Heap} {i x : Int32} {ix : Nat} {Fn2 : Nat → Nat → Int32} (hx : p.tables.exec = Jvm.exec) (hb : c.code = cc) (hK : KK D cI cB cZ s) (hP : va_P D vwCl (wM cI cB cZ g cn In Fn) H) (hD : va_D A (wM cI cB cZ g cn In Fn)) (hS : va_S A H0 H locs) (hin : vp_in i 3) (hix : i.toNatClampNeg = ix) (hn2 : va_up Fn 48 (upd (Fn 48) ix x) = Fn2) (hdg : decode cc pc = .ok (.iastore, 1)) (kk : ∀ (H1 : Heap) (locs1 : List Loc), va_P D vwCl (wM cI cB cZ g cn In Fn2) H1 → va_D A (wM cI cB cZ g cn In Fn2) → va_S A H0 H1 locs1 → W p l e R s m args below meth c H1 locs1 cells slots Q (F0 m (pc + 1) ls rest)) : W p l e R s m args below meth c H locs cells slots Q (F0 m pc ls (.int x :: .int i :: .ref (g 48) :: rest)) := by
  subst hix; subst hn2
  exact va_iast hx hb hK.1 hP hD hS 34 0 rfl rfl hin hdg kk
set_option maxRecDepth 100000 in
theorem ldM_49 {p : Program} {l : Launch} {e : Env} {R : Room} {s : State} {m : MethodId} {args : Array Value} {below : List Frame} {meth : Method} {c : Code} {H : Heap} {locs : List Loc} {cells slots : Nat} {Q : State → Prop} {cc : ByteArray} {pc : Nat} {D : va_G} {cI cB cZ : ClassId} {g cn : Nat → Nat} {In : Nat → Int32} {Fn : Nat → Nat → Int32} {rest : List Value} {ls : Array Slot} {i : Int32} {ix : Nat} {x : Int32} (hx : p.tables.exec = Jvm.exec) (hb : c.code = cc) (hK : KK D cI cB cZ s) (hP : va_P D vwCl (wM cI cB cZ g cn In Fn) H) (hin : vp_in i 3) (hix : i.toNatClampNeg = ix) (hv : Fn 49 ix = x) (hdg : decode cc pc = .ok (.iaload, 1)) (kk : W p l e R s m args below meth c H locs cells slots Q (F0 m (pc + 1) ls (.int x :: rest))) : W p l e R s m args below meth c H locs cells slots Q (F0 m pc ls (.int i :: .ref (g 49) :: rest)) := by
  subst hix; subst hv
  exact va_iald hx hb hK.1 hP 35 0 rfl rfl hin hdg kk
set_option maxRecDepth 100000 in
theorem stM_49 {p : Program} {l : Launch} {e : Env} {R : Room} {s : State} {m : MethodId} {args : Array Value} {below : List Frame} {meth : Method} {c : Code} {H : Heap} {locs : List Loc} {cells slots : Nat} {Q : State → Prop} {cc : ByteArray} {pc : Nat} {D : va_G} {cI cB cZ : ClassId} {g cn : Nat → Nat} {In : Nat → Int32} {Fn : Nat → Nat → Int32} {rest : List Value} {ls : Array Slot} {A : Nat → Prop} {H0 : Heap} {i x : Int32} {ix : Nat} {Fn2 : Nat → Nat → Int32} (hx : p.tables.exec = Jvm.exec) (hb : c.code = cc) (hK : KK D cI cB cZ s) (hP : va_P D vwCl (wM cI cB cZ g cn In Fn) H) (hD : va_D A (wM cI cB cZ g cn In Fn)) (hS : va_S A H0 H locs) (hin : vp_in i 3) (hix : i.toNatClampNeg = ix) (hn2 : va_up Fn 49 (upd (Fn 49) ix x) = Fn2) (hdg : decode cc pc = .ok (.iastore, 1)) (kk : ∀ (H1 : Heap) (locs1 : List Loc), va_P D vwCl (wM cI cB cZ g cn In Fn2) H1 → va_D A (wM cI cB cZ g cn In Fn2) → va_S A H0 H1 locs1 → W p l e R s m args below meth c H1 locs1 cells slots Q (F0 m (pc + 1) ls rest)) : W p l e R s m args below meth c H locs cells slots Q (F0 m pc ls (.int x :: .int i :: .ref (g 49) :: rest)) := by
  subst hix; subst hn2
  exact va_iast hx hb hK.1 hP hD hS 35 0 rfl rfl hin hdg kk
set_option maxRecDepth 100000 in
theorem ldM_50 {p : Program} {l : Launch} {e : Env} {R : Room} {s : State} {m : MethodId} {args : Array Value} {below : List Frame} {meth : Method} {c : Code} {H : Heap} {locs : List Loc} {cells slots : Nat} {Q : State → Prop} {cc : ByteArray} {pc : Nat} {D : va_G} {cI cB cZ : ClassId} {g cn : Nat → Nat} {In : Nat → Int32} {Fn : Nat → Nat → Int32} {rest : List Value} {ls : Array Slot} {i : Int32} {ix : Nat} {x : Int32} (hx : p.tables.exec = Jvm.exec) (hb : c.code = cc) (hK : KK D cI cB cZ s) (hP : va_P D vwCl (wM cI cB cZ g cn In Fn) H) (hin : vp_in i 6) (hix : i.toNatClampNeg = ix) (hv : Fn 50 ix = x) (hdg : decode cc pc = .ok (.iaload, 1)) (kk : W p l e R s m args below meth c H locs cells slots Q (F0 m (pc + 1) ls (.int x :: rest))) : W p l e R s m args below meth c H locs cells slots Q (F0 m pc ls (.int i :: .ref (g 50) :: rest)) := by
  subst hix; subst hv
  exact va_iald hx hb hK.1 hP 36 0 rfl rfl hin hdg kk
set_option maxRecDepth 100000 in
theorem stM_50 {p : Program} {l : Launch} {e : Env} {R : Room} {s : State} {m : MethodId} {args : Array Value} {below : List Frame} {meth : Method} {c : Code} {H : Heap} {locs : List Loc} {cells slots : Nat} {Q : State → Prop} {cc : ByteArray} {pc : Nat} {D : va_G} {cI cB cZ : ClassId} {g cn : Nat → Nat} {In : Nat → Int32} {Fn : Nat → Nat → Int32} {rest : List Value} {ls : Array Slot} {A : Nat → Prop} {H0 : Heap} {i x : Int32} {ix : Nat} {Fn2 : Nat → Nat → Int32} (hx : p.tables.exec = Jvm.exec) (hb : c.code = cc) (hK : KK D cI cB cZ s) (hP : va_P D vwCl (wM cI cB cZ g cn In Fn) H) (hD : va_D A (wM cI cB cZ g cn In Fn)) (hS : va_S A H0 H locs) (hin : vp_in i 6) (hix : i.toNatClampNeg = ix) (hn2 : va_up Fn 50 (upd (Fn 50) ix x) = Fn2) (hdg : decode cc pc = .ok (.iastore, 1)) (kk : ∀ (H1 : Heap) (locs1 : List Loc), va_P D vwCl (wM cI cB cZ g cn In Fn2) H1 → va_D A (wM cI cB cZ g cn In Fn2) → va_S A H0 H1 locs1 → W p l e R s m args below meth c H1 locs1 cells slots Q (F0 m (pc + 1) ls rest)) : W p l e R s m args below meth c H locs cells slots Q (F0 m pc ls (.int x :: .int i :: .ref (g 50) :: rest)) := by
  subst hix; subst hn2
  exact va_iast hx hb hK.1 hP hD hS 36 0 rfl rfl hin hdg kk
set_option maxRecDepth 100000 in
theorem ldM_51 {p : Program} {l : Launch} {e : Env} {R : Room} {s : State} {m : MethodId} {args : Array Value} {below : List Frame} {meth : Method} {c : Code} {H : Heap} {locs : List Loc} {cells slots : Nat} {Q : State → Prop} {cc : ByteArray} {pc : Nat} {D : va_G} {cI cB cZ : ClassId} {g cn : Nat → Nat} {In : Nat → Int32} {Fn : Nat → Nat → Int32} {rest : List Value} {ls : Array Slot} {i : Int32} {ix : Nat} {x : Int32} (hx : p.tables.exec = Jvm.exec) (hb : c.code = cc) (hK : KK D cI cB cZ s) (hP : va_P D vwCl (wM cI cB cZ g cn In Fn) H) (hin : vp_in i 6) (hix : i.toNatClampNeg = ix) (hv : Fn 51 ix = x) (hdg : decode cc pc = .ok (.iaload, 1)) (kk : W p l e R s m args below meth c H locs cells slots Q (F0 m (pc + 1) ls (.int x :: rest))) : W p l e R s m args below meth c H locs cells slots Q (F0 m pc ls (.int i :: .ref (g 51) :: rest)) := by
  subst hix; subst hv
  exact va_iald hx hb hK.1 hP 37 0 rfl rfl hin hdg kk
set_option maxRecDepth 100000 in
theorem stM_51 {p : Program} {l : Launch} {e : Env} {R : Room} {s : State} {m : MethodId} {args : Array Value} {below : List Frame} {meth : Method} {c : Code} {H : Heap} {locs : List Loc} {cells slots : Nat} {Q : State → Prop} {cc : ByteArray} {pc : Nat} {D : va_G} {cI cB cZ : ClassId} {g cn : Nat → Nat} {In : Nat → Int32} {Fn : Nat → Nat → Int32} {rest : List Value} {ls : Array Slot} {A : Nat → Prop} {H0 : Heap} {i x : Int32} {ix : Nat} {Fn2 : Nat → Nat → Int32} (hx : p.tables.exec = Jvm.exec) (hb : c.code = cc) (hK : KK D cI cB cZ s) (hP : va_P D vwCl (wM cI cB cZ g cn In Fn) H) (hD : va_D A (wM cI cB cZ g cn In Fn)) (hS : va_S A H0 H locs) (hin : vp_in i 6) (hix : i.toNatClampNeg = ix) (hn2 : va_up Fn 51 (upd (Fn 51) ix x) = Fn2) (hdg : decode cc pc = .ok (.iastore, 1)) (kk : ∀ (H1 : Heap) (locs1 : List Loc), va_P D vwCl (wM cI cB cZ g cn In Fn2) H1 → va_D A (wM cI cB cZ g cn In Fn2) → va_S A H0 H1 locs1 → W p l e R s m args below meth c H1 locs1 cells slots Q (F0 m (pc + 1) ls rest)) : W p l e R s m args below meth c H locs cells slots Q (F0 m pc ls (.int x :: .int i :: .ref (g 51) :: rest)) := by
  subst hix; subst hn2
  exact va_iast hx hb hK.1 hP hD hS 37 0 rfl rfl hin hdg kk
set_option maxRecDepth 100000 in
theorem ldM_52 {p : Program} {l : Launch} {e : Env} {R : Room} {s : State} {m : MethodId} {args : Array Value} {below : List Frame} {meth : Method} {c : Code} {H : Heap} {locs : List Loc} {cells slots : Nat} {Q : State → Prop} {cc : ByteArray} {pc : Nat} {D : va_G} {cI cB cZ : ClassId} {g cn : Nat → Nat} {In : Nat → Int32} {Fn : Nat → Nat → Int32} {rest : List Value} {ls : Array Slot} {i : Int32} {ix : Nat} {x : Int32} (hx : p.tables.exec = Jvm.exec) (hb : c.code = cc) (hK : KK D cI cB cZ s) (hP : va_P D vwCl (wM cI cB cZ g cn In Fn) H) (hin : vp_in i 10) (hix : i.toNatClampNeg = ix) (hv : Fn 52 ix = x) (hdg : decode cc pc = .ok (.iaload, 1)) (kk : W p l e R s m args below meth c H locs cells slots Q (F0 m (pc + 1) ls (.int x :: rest))) : W p l e R s m args below meth c H locs cells slots Q (F0 m pc ls (.int i :: .ref (g 52) :: rest)) := by
  subst hix; subst hv
  exact va_iald hx hb hK.1 hP 38 0 rfl rfl hin hdg kk
set_option maxRecDepth 100000 in
theorem stM_52 {p : Program} {l : Launch} {e : Env} {R : Room} {s : State} {m : MethodId} {args : Array Value} {below : List Frame} {meth : Method} {c : Code} {H : Heap} {locs : List Loc} {cells slots : Nat} {Q : State → Prop} {cc : ByteArray} {pc : Nat} {D : va_G} {cI cB cZ : ClassId} {g cn : Nat → Nat} {In : Nat → Int32} {Fn : Nat → Nat → Int32} {rest : List Value} {ls : Array Slot} {A : Nat → Prop} {H0 : Heap} {i x : Int32} {ix : Nat} {Fn2 : Nat → Nat → Int32} (hx : p.tables.exec = Jvm.exec) (hb : c.code = cc) (hK : KK D cI cB cZ s) (hP : va_P D vwCl (wM cI cB cZ g cn In Fn) H) (hD : va_D A (wM cI cB cZ g cn In Fn)) (hS : va_S A H0 H locs) (hin : vp_in i 10) (hix : i.toNatClampNeg = ix) (hn2 : va_up Fn 52 (upd (Fn 52) ix x) = Fn2) (hdg : decode cc pc = .ok (.iastore, 1)) (kk : ∀ (H1 : Heap) (locs1 : List Loc), va_P D vwCl (wM cI cB cZ g cn In Fn2) H1 → va_D A (wM cI cB cZ g cn In Fn2) → va_S A H0 H1 locs1 → W p l e R s m args below meth c H1 locs1 cells slots Q (F0 m (pc + 1) ls rest)) : W p l e R s m args below meth c H locs cells slots Q (F0 m pc ls (.int x :: .int i :: .ref (g 52) :: rest)) := by
  subst hix; subst hn2
  exact va_iast hx hb hK.1 hP hD hS 38 0 rfl rfl hin hdg kk
set_option maxRecDepth 100000 in
theorem ldM_53 {p : Program} {l : Launch} {e : Env} {R : Room} {s : State} {m : MethodId} {args : Array Value} {below : List Frame} {meth : Method} {c : Code} {H : Heap} {locs : List Loc} {cells slots : Nat} {Q : State → Prop} {cc : ByteArray} {pc : Nat} {D : va_G} {cI cB cZ : ClassId} {g cn : Nat → Nat} {In : Nat → Int32} {Fn : Nat → Nat → Int32} {rest : List Value} {ls : Array Slot} {i : Int32} {ix : Nat} {x : Int32} (hx : p.tables.exec = Jvm.exec) (hb : c.code = cc) (hK : KK D cI cB cZ s) (hP : va_P D vwCl (wM cI cB cZ g cn In Fn) H) (hin : vp_in i 1200) (hix : i.toNatClampNeg = ix) (hv : Fn 53 ix = x) (hdg : decode cc pc = .ok (.baload, 1)) (kk : W p l e R s m args below meth c H locs cells slots Q (F0 m (pc + 1) ls (.int x :: rest))) : W p l e R s m args below meth c H locs cells slots Q (F0 m pc ls (.int i :: .ref (g 53) :: rest)) := by
  subst hix; subst hv
  exact va_zald hx hb hK.1 hP 39 2 rfl rfl hin hdg kk
set_option maxRecDepth 100000 in
theorem stM_53 {p : Program} {l : Launch} {e : Env} {R : Room} {s : State} {m : MethodId} {args : Array Value} {below : List Frame} {meth : Method} {c : Code} {H : Heap} {locs : List Loc} {cells slots : Nat} {Q : State → Prop} {cc : ByteArray} {pc : Nat} {D : va_G} {cI cB cZ : ClassId} {g cn : Nat → Nat} {In : Nat → Int32} {Fn : Nat → Nat → Int32} {rest : List Value} {ls : Array Slot} {A : Nat → Prop} {H0 : Heap} {i x : Int32} {ix : Nat} {Fn2 : Nat → Nat → Int32} (hx : p.tables.exec = Jvm.exec) (hb : c.code = cc) (hK : KK D cI cB cZ s) (hP : va_P D vwCl (wM cI cB cZ g cn In Fn) H) (hD : va_D A (wM cI cB cZ g cn In Fn)) (hS : va_S A H0 H locs) (hin : vp_in i 1200) (hix : i.toNatClampNeg = ix) (hn2 : va_up Fn 53 (upd (Fn 53) ix (vp_nar .boolean x)) = Fn2) (hdg : decode cc pc = .ok (.bastore, 1)) (kk : ∀ (H1 : Heap) (locs1 : List Loc), va_P D vwCl (wM cI cB cZ g cn In Fn2) H1 → va_D A (wM cI cB cZ g cn In Fn2) → va_S A H0 H1 locs1 → W p l e R s m args below meth c H1 locs1 cells slots Q (F0 m (pc + 1) ls rest)) : W p l e R s m args below meth c H locs cells slots Q (F0 m pc ls (.int x :: .int i :: .ref (g 53) :: rest)) := by
  subst hix; subst hn2
  exact va_zast hx hb hK.1 hP hD hS 39 2 rfl rfl hin hdg kk
set_option maxRecDepth 100000 in
theorem ldM_59 {p : Program} {l : Launch} {e : Env} {R : Room} {s : State} {m : MethodId} {args : Array Value} {below : List Frame} {meth : Method} {c : Code} {H : Heap} {locs : List Loc} {cells slots : Nat} {Q : State → Prop} {cc : ByteArray} {pc : Nat} {D : va_G} {cI cB cZ : ClassId} {g cn : Nat → Nat} {In : Nat → Int32} {Fn : Nat → Nat → Int32} {rest : List Value} {ls : Array Slot} {i : Int32} {ix : Nat} {x : Int32} (hx : p.tables.exec = Jvm.exec) (hb : c.code = cc) (hK : KK D cI cB cZ s) (hP : va_P D vwCl (wM cI cB cZ g cn In Fn) H) (hin : vp_in i 60) (hix : i.toNatClampNeg = ix) (hv : Fn 59 ix = x) (hdg : decode cc pc = .ok (.iaload, 1)) (kk : W p l e R s m args below meth c H locs cells slots Q (F0 m (pc + 1) ls (.int x :: rest))) : W p l e R s m args below meth c H locs cells slots Q (F0 m pc ls (.int i :: .ref (g 59) :: rest)) := by
  subst hix; subst hv
  exact va_iald hx hb hK.1 hP 40 0 rfl rfl hin hdg kk
set_option maxRecDepth 100000 in
theorem stM_59 {p : Program} {l : Launch} {e : Env} {R : Room} {s : State} {m : MethodId} {args : Array Value} {below : List Frame} {meth : Method} {c : Code} {H : Heap} {locs : List Loc} {cells slots : Nat} {Q : State → Prop} {cc : ByteArray} {pc : Nat} {D : va_G} {cI cB cZ : ClassId} {g cn : Nat → Nat} {In : Nat → Int32} {Fn : Nat → Nat → Int32} {rest : List Value} {ls : Array Slot} {A : Nat → Prop} {H0 : Heap} {i x : Int32} {ix : Nat} {Fn2 : Nat → Nat → Int32} (hx : p.tables.exec = Jvm.exec) (hb : c.code = cc) (hK : KK D cI cB cZ s) (hP : va_P D vwCl (wM cI cB cZ g cn In Fn) H) (hD : va_D A (wM cI cB cZ g cn In Fn)) (hS : va_S A H0 H locs) (hin : vp_in i 60) (hix : i.toNatClampNeg = ix) (hn2 : va_up Fn 59 (upd (Fn 59) ix x) = Fn2) (hdg : decode cc pc = .ok (.iastore, 1)) (kk : ∀ (H1 : Heap) (locs1 : List Loc), va_P D vwCl (wM cI cB cZ g cn In Fn2) H1 → va_D A (wM cI cB cZ g cn In Fn2) → va_S A H0 H1 locs1 → W p l e R s m args below meth c H1 locs1 cells slots Q (F0 m (pc + 1) ls rest)) : W p l e R s m args below meth c H locs cells slots Q (F0 m pc ls (.int x :: .int i :: .ref (g 59) :: rest)) := by
  subst hix; subst hn2
  exact va_iast hx hb hK.1 hP hD hS 40 0 rfl rfl hin hdg kk
set_option maxRecDepth 100000 in
theorem ldM_60 {p : Program} {l : Launch} {e : Env} {R : Room} {s : State} {m : MethodId} {args : Array Value} {below : List Frame} {meth : Method} {c : Code} {H : Heap} {locs : List Loc} {cells slots : Nat} {Q : State → Prop} {cc : ByteArray} {pc : Nat} {D : va_G} {cI cB cZ : ClassId} {g cn : Nat → Nat} {In : Nat → Int32} {Fn : Nat → Nat → Int32} {rest : List Value} {ls : Array Slot} {i : Int32} {ix : Nat} {x : Int32} (hx : p.tables.exec = Jvm.exec) (hb : c.code = cc) (hK : KK D cI cB cZ s) (hP : va_P D vwCl (wM cI cB cZ g cn In Fn) H) (hin : vp_in i 60) (hix : i.toNatClampNeg = ix) (hv : Fn 60 ix = x) (hdg : decode cc pc = .ok (.iaload, 1)) (kk : W p l e R s m args below meth c H locs cells slots Q (F0 m (pc + 1) ls (.int x :: rest))) : W p l e R s m args below meth c H locs cells slots Q (F0 m pc ls (.int i :: .ref (g 60) :: rest)) := by
  subst hix; subst hv
  exact va_iald hx hb hK.1 hP 41 0 rfl rfl hin hdg kk
set_option maxRecDepth 100000 in
theorem stM_60 {p : Program} {l : Launch} {e : Env} {R : Room} {s : State} {m : MethodId} {args : Array Value} {below : List Frame} {meth : Method} {c : Code} {H : Heap} {locs : List Loc} {cells slots : Nat} {Q : State → Prop} {cc : ByteArray} {pc : Nat} {D : va_G} {cI cB cZ : ClassId} {g cn : Nat → Nat} {In : Nat → Int32} {Fn : Nat → Nat → Int32} {rest : List Value} {ls : Array Slot} {A : Nat → Prop} {H0 : Heap} {i x : Int32} {ix : Nat} {Fn2 : Nat → Nat → Int32} (hx : p.tables.exec = Jvm.exec) (hb : c.code = cc) (hK : KK D cI cB cZ s) (hP : va_P D vwCl (wM cI cB cZ g cn In Fn) H) (hD : va_D A (wM cI cB cZ g cn In Fn)) (hS : va_S A H0 H locs) (hin : vp_in i 60) (hix : i.toNatClampNeg = ix) (hn2 : va_up Fn 60 (upd (Fn 60) ix x) = Fn2) (hdg : decode cc pc = .ok (.iastore, 1)) (kk : ∀ (H1 : Heap) (locs1 : List Loc), va_P D vwCl (wM cI cB cZ g cn In Fn2) H1 → va_D A (wM cI cB cZ g cn In Fn2) → va_S A H0 H1 locs1 → W p l e R s m args below meth c H1 locs1 cells slots Q (F0 m (pc + 1) ls rest)) : W p l e R s m args below meth c H locs cells slots Q (F0 m pc ls (.int x :: .int i :: .ref (g 60) :: rest)) := by
  subst hix; subst hn2
  exact va_iast hx hb hK.1 hP hD hS 41 0 rfl rfl hin hdg kk
set_option maxRecDepth 100000 in
theorem ldM_61 {p : Program} {l : Launch} {e : Env} {R : Room} {s : State} {m : MethodId} {args : Array Value} {below : List Frame} {meth : Method} {c : Code} {H : Heap} {locs : List Loc} {cells slots : Nat} {Q : State → Prop} {cc : ByteArray} {pc : Nat} {D : va_G} {cI cB cZ : ClassId} {g cn : Nat → Nat} {In : Nat → Int32} {Fn : Nat → Nat → Int32} {rest : List Value} {ls : Array Slot} {i : Int32} {ix : Nat} {x : Int32} (hx : p.tables.exec = Jvm.exec) (hb : c.code = cc) (hK : KK D cI cB cZ s) (hP : va_P D vwCl (wM cI cB cZ g cn In Fn) H) (hin : vp_in i 60) (hix : i.toNatClampNeg = ix) (hv : Fn 61 ix = x) (hdg : decode cc pc = .ok (.iaload, 1)) (kk : W p l e R s m args below meth c H locs cells slots Q (F0 m (pc + 1) ls (.int x :: rest))) : W p l e R s m args below meth c H locs cells slots Q (F0 m pc ls (.int i :: .ref (g 61) :: rest)) := by
  subst hix; subst hv
  exact va_iald hx hb hK.1 hP 42 0 rfl rfl hin hdg kk
set_option maxRecDepth 100000 in
theorem stM_61 {p : Program} {l : Launch} {e : Env} {R : Room} {s : State} {m : MethodId} {args : Array Value} {below : List Frame} {meth : Method} {c : Code} {H : Heap} {locs : List Loc} {cells slots : Nat} {Q : State → Prop} {cc : ByteArray} {pc : Nat} {D : va_G} {cI cB cZ : ClassId} {g cn : Nat → Nat} {In : Nat → Int32} {Fn : Nat → Nat → Int32} {rest : List Value} {ls : Array Slot} {A : Nat → Prop} {H0 : Heap} {i x : Int32} {ix : Nat} {Fn2 : Nat → Nat → Int32} (hx : p.tables.exec = Jvm.exec) (hb : c.code = cc) (hK : KK D cI cB cZ s) (hP : va_P D vwCl (wM cI cB cZ g cn In Fn) H) (hD : va_D A (wM cI cB cZ g cn In Fn)) (hS : va_S A H0 H locs) (hin : vp_in i 60) (hix : i.toNatClampNeg = ix) (hn2 : va_up Fn 61 (upd (Fn 61) ix x) = Fn2) (hdg : decode cc pc = .ok (.iastore, 1)) (kk : ∀ (H1 : Heap) (locs1 : List Loc), va_P D vwCl (wM cI cB cZ g cn In Fn2) H1 → va_D A (wM cI cB cZ g cn In Fn2) → va_S A H0 H1 locs1 → W p l e R s m args below meth c H1 locs1 cells slots Q (F0 m (pc + 1) ls rest)) : W p l e R s m args below meth c H locs cells slots Q (F0 m pc ls (.int x :: .int i :: .ref (g 61) :: rest)) := by
  subst hix; subst hn2
  exact va_iast hx hb hK.1 hP hD hS 42 0 rfl rfl hin hdg kk
set_option maxRecDepth 100000 in
theorem ldM_64 {p : Program} {l : Launch} {e : Env} {R : Room} {s : State} {m : MethodId} {args : Array Value} {below : List Frame} {meth : Method} {c : Code} {H : Heap} {locs : List Loc} {cells slots : Nat} {Q : State → Prop} {cc : ByteArray} {pc : Nat} {D : va_G} {cI cB cZ : ClassId} {g cn : Nat → Nat} {In : Nat → Int32} {Fn : Nat → Nat → Int32} {rest : List Value} {ls : Array Slot} {i : Int32} {ix : Nat} {x : Int32} (hx : p.tables.exec = Jvm.exec) (hb : c.code = cc) (hK : KK D cI cB cZ s) (hP : va_P D vwCl (wM cI cB cZ g cn In Fn) H) (hin : vp_in i 10) (hix : i.toNatClampNeg = ix) (hv : Fn 64 ix = x) (hdg : decode cc pc = .ok (.iaload, 1)) (kk : W p l e R s m args below meth c H locs cells slots Q (F0 m (pc + 1) ls (.int x :: rest))) : W p l e R s m args below meth c H locs cells slots Q (F0 m pc ls (.int i :: .ref (g 64) :: rest)) := by
  subst hix; subst hv
  exact va_iald hx hb hK.1 hP 43 0 rfl rfl hin hdg kk
set_option maxRecDepth 100000 in
theorem stM_64 {p : Program} {l : Launch} {e : Env} {R : Room} {s : State} {m : MethodId} {args : Array Value} {below : List Frame} {meth : Method} {c : Code} {H : Heap} {locs : List Loc} {cells slots : Nat} {Q : State → Prop} {cc : ByteArray} {pc : Nat} {D : va_G} {cI cB cZ : ClassId} {g cn : Nat → Nat} {In : Nat → Int32} {Fn : Nat → Nat → Int32} {rest : List Value} {ls : Array Slot} {A : Nat → Prop} {H0 : Heap} {i x : Int32} {ix : Nat} {Fn2 : Nat → Nat → Int32} (hx : p.tables.exec = Jvm.exec) (hb : c.code = cc) (hK : KK D cI cB cZ s) (hP : va_P D vwCl (wM cI cB cZ g cn In Fn) H) (hD : va_D A (wM cI cB cZ g cn In Fn)) (hS : va_S A H0 H locs) (hin : vp_in i 10) (hix : i.toNatClampNeg = ix) (hn2 : va_up Fn 64 (upd (Fn 64) ix x) = Fn2) (hdg : decode cc pc = .ok (.iastore, 1)) (kk : ∀ (H1 : Heap) (locs1 : List Loc), va_P D vwCl (wM cI cB cZ g cn In Fn2) H1 → va_D A (wM cI cB cZ g cn In Fn2) → va_S A H0 H1 locs1 → W p l e R s m args below meth c H1 locs1 cells slots Q (F0 m (pc + 1) ls rest)) : W p l e R s m args below meth c H locs cells slots Q (F0 m pc ls (.int x :: .int i :: .ref (g 64) :: rest)) := by
  subst hix; subst hn2
  exact va_iast hx hb hK.1 hP hD hS 43 0 rfl rfl hin hdg kk
set_option maxRecDepth 100000 in
theorem ldM_65 {p : Program} {l : Launch} {e : Env} {R : Room} {s : State} {m : MethodId} {args : Array Value} {below : List Frame} {meth : Method} {c : Code} {H : Heap} {locs : List Loc} {cells slots : Nat} {Q : State → Prop} {cc : ByteArray} {pc : Nat} {D : va_G} {cI cB cZ : ClassId} {g cn : Nat → Nat} {In : Nat → Int32} {Fn : Nat → Nat → Int32} {rest : List Value} {ls : Array Slot} {i : Int32} {ix : Nat} {x : Int32} (hx : p.tables.exec = Jvm.exec) (hb : c.code = cc) (hK : KK D cI cB cZ s) (hP : va_P D vwCl (wM cI cB cZ g cn In Fn) H) (hin : vp_in i 10) (hix : i.toNatClampNeg = ix) (hv : Fn 65 ix = x) (hdg : decode cc pc = .ok (.iaload, 1)) (kk : W p l e R s m args below meth c H locs cells slots Q (F0 m (pc + 1) ls (.int x :: rest))) : W p l e R s m args below meth c H locs cells slots Q (F0 m pc ls (.int i :: .ref (g 65) :: rest)) := by
  subst hix; subst hv
  exact va_iald hx hb hK.1 hP 44 0 rfl rfl hin hdg kk
set_option maxRecDepth 100000 in
theorem stM_65 {p : Program} {l : Launch} {e : Env} {R : Room} {s : State} {m : MethodId} {args : Array Value} {below : List Frame} {meth : Method} {c : Code} {H : Heap} {locs : List Loc} {cells slots : Nat} {Q : State → Prop} {cc : ByteArray} {pc : Nat} {D : va_G} {cI cB cZ : ClassId} {g cn : Nat → Nat} {In : Nat → Int32} {Fn : Nat → Nat → Int32} {rest : List Value} {ls : Array Slot} {A : Nat → Prop} {H0 : Heap} {i x : Int32} {ix : Nat} {Fn2 : Nat → Nat → Int32} (hx : p.tables.exec = Jvm.exec) (hb : c.code = cc) (hK : KK D cI cB cZ s) (hP : va_P D vwCl (wM cI cB cZ g cn In Fn) H) (hD : va_D A (wM cI cB cZ g cn In Fn)) (hS : va_S A H0 H locs) (hin : vp_in i 10) (hix : i.toNatClampNeg = ix) (hn2 : va_up Fn 65 (upd (Fn 65) ix x) = Fn2) (hdg : decode cc pc = .ok (.iastore, 1)) (kk : ∀ (H1 : Heap) (locs1 : List Loc), va_P D vwCl (wM cI cB cZ g cn In Fn2) H1 → va_D A (wM cI cB cZ g cn In Fn2) → va_S A H0 H1 locs1 → W p l e R s m args below meth c H1 locs1 cells slots Q (F0 m (pc + 1) ls rest)) : W p l e R s m args below meth c H locs cells slots Q (F0 m pc ls (.int x :: .int i :: .ref (g 65) :: rest)) := by
  subst hix; subst hn2
  exact va_iast hx hb hK.1 hP hD hS 44 0 rfl rfl hin hdg kk
set_option maxRecDepth 100000 in
theorem ldM_66 {p : Program} {l : Launch} {e : Env} {R : Room} {s : State} {m : MethodId} {args : Array Value} {below : List Frame} {meth : Method} {c : Code} {H : Heap} {locs : List Loc} {cells slots : Nat} {Q : State → Prop} {cc : ByteArray} {pc : Nat} {D : va_G} {cI cB cZ : ClassId} {g cn : Nat → Nat} {In : Nat → Int32} {Fn : Nat → Nat → Int32} {rest : List Value} {ls : Array Slot} {i : Int32} {ix : Nat} {x : Int32} (hx : p.tables.exec = Jvm.exec) (hb : c.code = cc) (hK : KK D cI cB cZ s) (hP : va_P D vwCl (wM cI cB cZ g cn In Fn) H) (hin : vp_in i 40) (hix : i.toNatClampNeg = ix) (hv : Fn 66 ix = x) (hdg : decode cc pc = .ok (.iaload, 1)) (kk : W p l e R s m args below meth c H locs cells slots Q (F0 m (pc + 1) ls (.int x :: rest))) : W p l e R s m args below meth c H locs cells slots Q (F0 m pc ls (.int i :: .ref (g 66) :: rest)) := by
  subst hix; subst hv
  exact va_iald hx hb hK.1 hP 45 0 rfl rfl hin hdg kk
set_option maxRecDepth 100000 in
theorem stM_66 {p : Program} {l : Launch} {e : Env} {R : Room} {s : State} {m : MethodId} {args : Array Value} {below : List Frame} {meth : Method} {c : Code} {H : Heap} {locs : List Loc} {cells slots : Nat} {Q : State → Prop} {cc : ByteArray} {pc : Nat} {D : va_G} {cI cB cZ : ClassId} {g cn : Nat → Nat} {In : Nat → Int32} {Fn : Nat → Nat → Int32} {rest : List Value} {ls : Array Slot} {A : Nat → Prop} {H0 : Heap} {i x : Int32} {ix : Nat} {Fn2 : Nat → Nat → Int32} (hx : p.tables.exec = Jvm.exec) (hb : c.code = cc) (hK : KK D cI cB cZ s) (hP : va_P D vwCl (wM cI cB cZ g cn In Fn) H) (hD : va_D A (wM cI cB cZ g cn In Fn)) (hS : va_S A H0 H locs) (hin : vp_in i 40) (hix : i.toNatClampNeg = ix) (hn2 : va_up Fn 66 (upd (Fn 66) ix x) = Fn2) (hdg : decode cc pc = .ok (.iastore, 1)) (kk : ∀ (H1 : Heap) (locs1 : List Loc), va_P D vwCl (wM cI cB cZ g cn In Fn2) H1 → va_D A (wM cI cB cZ g cn In Fn2) → va_S A H0 H1 locs1 → W p l e R s m args below meth c H1 locs1 cells slots Q (F0 m (pc + 1) ls rest)) : W p l e R s m args below meth c H locs cells slots Q (F0 m pc ls (.int x :: .int i :: .ref (g 66) :: rest)) := by
  subst hix; subst hn2
  exact va_iast hx hb hK.1 hP hD hS 45 0 rfl rfl hin hdg kk
set_option maxRecDepth 100000 in
theorem ldM_67 {p : Program} {l : Launch} {e : Env} {R : Room} {s : State} {m : MethodId} {args : Array Value} {below : List Frame} {meth : Method} {c : Code} {H : Heap} {locs : List Loc} {cells slots : Nat} {Q : State → Prop} {cc : ByteArray} {pc : Nat} {D : va_G} {cI cB cZ : ClassId} {g cn : Nat → Nat} {In : Nat → Int32} {Fn : Nat → Nat → Int32} {rest : List Value} {ls : Array Slot} {i : Int32} {ix : Nat} {x : Int32} (hx : p.tables.exec = Jvm.exec) (hb : c.code = cc) (hK : KK D cI cB cZ s) (hP : va_P D vwCl (wM cI cB cZ g cn In Fn) H) (hin : vp_in i 40) (hix : i.toNatClampNeg = ix) (hv : Fn 67 ix = x) (hdg : decode cc pc = .ok (.iaload, 1)) (kk : W p l e R s m args below meth c H locs cells slots Q (F0 m (pc + 1) ls (.int x :: rest))) : W p l e R s m args below meth c H locs cells slots Q (F0 m pc ls (.int i :: .ref (g 67) :: rest)) := by
  subst hix; subst hv
  exact va_iald hx hb hK.1 hP 46 0 rfl rfl hin hdg kk
set_option maxRecDepth 100000 in
theorem stM_67 {p : Program} {l : Launch} {e : Env} {R : Room} {s : State} {m : MethodId} {args : Array Value} {below : List Frame} {meth : Method} {c : Code} {H : Heap} {locs : List Loc} {cells slots : Nat} {Q : State → Prop} {cc : ByteArray} {pc : Nat} {D : va_G} {cI cB cZ : ClassId} {g cn : Nat → Nat} {In : Nat → Int32} {Fn : Nat → Nat → Int32} {rest : List Value} {ls : Array Slot} {A : Nat → Prop} {H0 : Heap} {i x : Int32} {ix : Nat} {Fn2 : Nat → Nat → Int32} (hx : p.tables.exec = Jvm.exec) (hb : c.code = cc) (hK : KK D cI cB cZ s) (hP : va_P D vwCl (wM cI cB cZ g cn In Fn) H) (hD : va_D A (wM cI cB cZ g cn In Fn)) (hS : va_S A H0 H locs) (hin : vp_in i 40) (hix : i.toNatClampNeg = ix) (hn2 : va_up Fn 67 (upd (Fn 67) ix x) = Fn2) (hdg : decode cc pc = .ok (.iastore, 1)) (kk : ∀ (H1 : Heap) (locs1 : List Loc), va_P D vwCl (wM cI cB cZ g cn In Fn2) H1 → va_D A (wM cI cB cZ g cn In Fn2) → va_S A H0 H1 locs1 → W p l e R s m args below meth c H1 locs1 cells slots Q (F0 m (pc + 1) ls rest)) : W p l e R s m args below meth c H locs cells slots Q (F0 m pc ls (.int x :: .int i :: .ref (g 67) :: rest)) := by
  subst hix; subst hn2
  exact va_iast hx hb hK.1 hP hD hS 46 0 rfl rfl hin hdg kk
set_option maxRecDepth 100000 in
theorem ldM_68 {p : Program} {l : Launch} {e : Env} {R : Room} {s : State} {m : MethodId} {args : Array Value} {below : List Frame} {meth : Method} {c : Code} {H : Heap} {locs : List Loc} {cells slots : Nat} {Q : State → Prop} {cc : ByteArray} {pc : Nat} {D : va_G} {cI cB cZ : ClassId} {g cn : Nat → Nat} {In : Nat → Int32} {Fn : Nat → Nat → Int32} {rest : List Value} {ls : Array Slot} {i : Int32} {ix : Nat} {x : Int32} (hx : p.tables.exec = Jvm.exec) (hb : c.code = cc) (hK : KK D cI cB cZ s) (hP : va_P D vwCl (wM cI cB cZ g cn In Fn) H) (hin : vp_in i 40) (hix : i.toNatClampNeg = ix) (hv : Fn 68 ix = x) (hdg : decode cc pc = .ok (.iaload, 1)) (kk : W p l e R s m args below meth c H locs cells slots Q (F0 m (pc + 1) ls (.int x :: rest))) : W p l e R s m args below meth c H locs cells slots Q (F0 m pc ls (.int i :: .ref (g 68) :: rest)) := by
  subst hix; subst hv
  exact va_iald hx hb hK.1 hP 47 0 rfl rfl hin hdg kk
set_option maxRecDepth 100000 in
theorem stM_68 {p : Program} {l : Launch} {e : Env} {R : Room} {s : State} {m : MethodId} {args : Array Value} {below : List Frame} {meth : Method} {c : Code} {H : Heap} {locs : List Loc} {cells slots : Nat} {Q : State → Prop} {cc : ByteArray} {pc : Nat} {D : va_G} {cI cB cZ : ClassId} {g cn : Nat → Nat} {In : Nat → Int32} {Fn : Nat → Nat → Int32} {rest : List Value} {ls : Array Slot} {A : Nat → Prop} {H0 : Heap} {i x : Int32} {ix : Nat} {Fn2 : Nat → Nat → Int32} (hx : p.tables.exec = Jvm.exec) (hb : c.code = cc) (hK : KK D cI cB cZ s) (hP : va_P D vwCl (wM cI cB cZ g cn In Fn) H) (hD : va_D A (wM cI cB cZ g cn In Fn)) (hS : va_S A H0 H locs) (hin : vp_in i 40) (hix : i.toNatClampNeg = ix) (hn2 : va_up Fn 68 (upd (Fn 68) ix x) = Fn2) (hdg : decode cc pc = .ok (.iastore, 1)) (kk : ∀ (H1 : Heap) (locs1 : List Loc), va_P D vwCl (wM cI cB cZ g cn In Fn2) H1 → va_D A (wM cI cB cZ g cn In Fn2) → va_S A H0 H1 locs1 → W p l e R s m args below meth c H1 locs1 cells slots Q (F0 m (pc + 1) ls rest)) : W p l e R s m args below meth c H locs cells slots Q (F0 m pc ls (.int x :: .int i :: .ref (g 68) :: rest)) := by
  subst hix; subst hn2
  exact va_iast hx hb hK.1 hP hD hS 47 0 rfl rfl hin hdg kk
set_option maxRecDepth 100000 in
theorem ldM_69 {p : Program} {l : Launch} {e : Env} {R : Room} {s : State} {m : MethodId} {args : Array Value} {below : List Frame} {meth : Method} {c : Code} {H : Heap} {locs : List Loc} {cells slots : Nat} {Q : State → Prop} {cc : ByteArray} {pc : Nat} {D : va_G} {cI cB cZ : ClassId} {g cn : Nat → Nat} {In : Nat → Int32} {Fn : Nat → Nat → Int32} {rest : List Value} {ls : Array Slot} {i : Int32} {ix : Nat} {x : Int32} (hx : p.tables.exec = Jvm.exec) (hb : c.code = cc) (hK : KK D cI cB cZ s) (hP : va_P D vwCl (wM cI cB cZ g cn In Fn) H) (hin : vp_in i 40) (hix : i.toNatClampNeg = ix) (hv : Fn 69 ix = x) (hdg : decode cc pc = .ok (.iaload, 1)) (kk : W p l e R s m args below meth c H locs cells slots Q (F0 m (pc + 1) ls (.int x :: rest))) : W p l e R s m args below meth c H locs cells slots Q (F0 m pc ls (.int i :: .ref (g 69) :: rest)) := by
  subst hix; subst hv
  exact va_iald hx hb hK.1 hP 48 0 rfl rfl hin hdg kk
set_option maxRecDepth 100000 in
theorem stM_69 {p : Program} {l : Launch} {e : Env} {R : Room} {s : State} {m : MethodId} {args : Array Value} {below : List Frame} {meth : Method} {c : Code} {H : Heap} {locs : List Loc} {cells slots : Nat} {Q : State → Prop} {cc : ByteArray} {pc : Nat} {D : va_G} {cI cB cZ : ClassId} {g cn : Nat → Nat} {In : Nat → Int32} {Fn : Nat → Nat → Int32} {rest : List Value} {ls : Array Slot} {A : Nat → Prop} {H0 : Heap} {i x : Int32} {ix : Nat} {Fn2 : Nat → Nat → Int32} (hx : p.tables.exec = Jvm.exec) (hb : c.code = cc) (hK : KK D cI cB cZ s) (hP : va_P D vwCl (wM cI cB cZ g cn In Fn) H) (hD : va_D A (wM cI cB cZ g cn In Fn)) (hS : va_S A H0 H locs) (hin : vp_in i 40) (hix : i.toNatClampNeg = ix) (hn2 : va_up Fn 69 (upd (Fn 69) ix x) = Fn2) (hdg : decode cc pc = .ok (.iastore, 1)) (kk : ∀ (H1 : Heap) (locs1 : List Loc), va_P D vwCl (wM cI cB cZ g cn In Fn2) H1 → va_D A (wM cI cB cZ g cn In Fn2) → va_S A H0 H1 locs1 → W p l e R s m args below meth c H1 locs1 cells slots Q (F0 m (pc + 1) ls rest)) : W p l e R s m args below meth c H locs cells slots Q (F0 m pc ls (.int x :: .int i :: .ref (g 69) :: rest)) := by
  subst hix; subst hn2
  exact va_iast hx hb hK.1 hP hD hS 48 0 rfl rfl hin hdg kk
set_option maxRecDepth 100000 in
theorem ldM_70 {p : Program} {l : Launch} {e : Env} {R : Room} {s : State} {m : MethodId} {args : Array Value} {below : List Frame} {meth : Method} {c : Code} {H : Heap} {locs : List Loc} {cells slots : Nat} {Q : State → Prop} {cc : ByteArray} {pc : Nat} {D : va_G} {cI cB cZ : ClassId} {g cn : Nat → Nat} {In : Nat → Int32} {Fn : Nat → Nat → Int32} {rest : List Value} {ls : Array Slot} {i : Int32} {ix : Nat} {x : Int32} (hx : p.tables.exec = Jvm.exec) (hb : c.code = cc) (hK : KK D cI cB cZ s) (hP : va_P D vwCl (wM cI cB cZ g cn In Fn) H) (hin : vp_in i 40) (hix : i.toNatClampNeg = ix) (hv : Fn 70 ix = x) (hdg : decode cc pc = .ok (.iaload, 1)) (kk : W p l e R s m args below meth c H locs cells slots Q (F0 m (pc + 1) ls (.int x :: rest))) : W p l e R s m args below meth c H locs cells slots Q (F0 m pc ls (.int i :: .ref (g 70) :: rest)) := by
  subst hix; subst hv
  exact va_iald hx hb hK.1 hP 49 0 rfl rfl hin hdg kk
set_option maxRecDepth 100000 in
theorem stM_70 {p : Program} {l : Launch} {e : Env} {R : Room} {s : State} {m : MethodId} {args : Array Value} {below : List Frame} {meth : Method} {c : Code} {H : Heap} {locs : List Loc} {cells slots : Nat} {Q : State → Prop} {cc : ByteArray} {pc : Nat} {D : va_G} {cI cB cZ : ClassId} {g cn : Nat → Nat} {In : Nat → Int32} {Fn : Nat → Nat → Int32} {rest : List Value} {ls : Array Slot} {A : Nat → Prop} {H0 : Heap} {i x : Int32} {ix : Nat} {Fn2 : Nat → Nat → Int32} (hx : p.tables.exec = Jvm.exec) (hb : c.code = cc) (hK : KK D cI cB cZ s) (hP : va_P D vwCl (wM cI cB cZ g cn In Fn) H) (hD : va_D A (wM cI cB cZ g cn In Fn)) (hS : va_S A H0 H locs) (hin : vp_in i 40) (hix : i.toNatClampNeg = ix) (hn2 : va_up Fn 70 (upd (Fn 70) ix x) = Fn2) (hdg : decode cc pc = .ok (.iastore, 1)) (kk : ∀ (H1 : Heap) (locs1 : List Loc), va_P D vwCl (wM cI cB cZ g cn In Fn2) H1 → va_D A (wM cI cB cZ g cn In Fn2) → va_S A H0 H1 locs1 → W p l e R s m args below meth c H1 locs1 cells slots Q (F0 m (pc + 1) ls rest)) : W p l e R s m args below meth c H locs cells slots Q (F0 m pc ls (.int x :: .int i :: .ref (g 70) :: rest)) := by
  subst hix; subst hn2
  exact va_iast hx hb hK.1 hP hD hS 49 0 rfl rfl hin hdg kk
set_option maxRecDepth 100000 in
theorem ldM_74 {p : Program} {l : Launch} {e : Env} {R : Room} {s : State} {m : MethodId} {args : Array Value} {below : List Frame} {meth : Method} {c : Code} {H : Heap} {locs : List Loc} {cells slots : Nat} {Q : State → Prop} {cc : ByteArray} {pc : Nat} {D : va_G} {cI cB cZ : ClassId} {g cn : Nat → Nat} {In : Nat → Int32} {Fn : Nat → Nat → Int32} {rest : List Value} {ls : Array Slot} {i : Int32} {ix : Nat} {x : Int32} (hx : p.tables.exec = Jvm.exec) (hb : c.code = cc) (hK : KK D cI cB cZ s) (hP : va_P D vwCl (wM cI cB cZ g cn In Fn) H) (hin : vp_in i 12) (hix : i.toNatClampNeg = ix) (hv : Fn 74 ix = x) (hdg : decode cc pc = .ok (.iaload, 1)) (kk : W p l e R s m args below meth c H locs cells slots Q (F0 m (pc + 1) ls (.int x :: rest))) : W p l e R s m args below meth c H locs cells slots Q (F0 m pc ls (.int i :: .ref (g 74) :: rest)) := by
  subst hix; subst hv
  exact va_iald hx hb hK.1 hP 50 0 rfl rfl hin hdg kk
set_option maxRecDepth 100000 in
theorem stM_74 {p : Program} {l : Launch} {e : Env} {R : Room} {s : State} {m : MethodId} {args : Array Value} {below : List Frame} {meth : Method} {c : Code} {H : Heap} {locs : List Loc} {cells slots : Nat} {Q : State → Prop} {cc : ByteArray} {pc : Nat} {D : va_G} {cI cB cZ : ClassId} {g cn : Nat → Nat} {In : Nat → Int32} {Fn : Nat → Nat → Int32} {rest : List Value} {ls : Array Slot} {A : Nat → Prop} {H0 : Heap} {i x : Int32} {ix : Nat} {Fn2 : Nat → Nat → Int32} (hx : p.tables.exec = Jvm.exec) (hb : c.code = cc) (hK : KK D cI cB cZ s) (hP : va_P D vwCl (wM cI cB cZ g cn In Fn) H) (hD : va_D A (wM cI cB cZ g cn In Fn)) (hS : va_S A H0 H locs) (hin : vp_in i 12) (hix : i.toNatClampNeg = ix) (hn2 : va_up Fn 74 (upd (Fn 74) ix x) = Fn2) (hdg : decode cc pc = .ok (.iastore, 1)) (kk : ∀ (H1 : Heap) (locs1 : List Loc), va_P D vwCl (wM cI cB cZ g cn In Fn2) H1 → va_D A (wM cI cB cZ g cn In Fn2) → va_S A H0 H1 locs1 → W p l e R s m args below meth c H1 locs1 cells slots Q (F0 m (pc + 1) ls rest)) : W p l e R s m args below meth c H locs cells slots Q (F0 m pc ls (.int x :: .int i :: .ref (g 74) :: rest)) := by
  subst hix; subst hn2
  exact va_iast hx hb hK.1 hP hD hS 50 0 rfl rfl hin hdg kk
set_option maxRecDepth 100000 in
theorem ldM_76 {p : Program} {l : Launch} {e : Env} {R : Room} {s : State} {m : MethodId} {args : Array Value} {below : List Frame} {meth : Method} {c : Code} {H : Heap} {locs : List Loc} {cells slots : Nat} {Q : State → Prop} {cc : ByteArray} {pc : Nat} {D : va_G} {cI cB cZ : ClassId} {g cn : Nat → Nat} {In : Nat → Int32} {Fn : Nat → Nat → Int32} {rest : List Value} {ls : Array Slot} {i : Int32} {ix : Nat} {x : Int32} (hx : p.tables.exec = Jvm.exec) (hb : c.code = cc) (hK : KK D cI cB cZ s) (hP : va_P D vwCl (wM cI cB cZ g cn In Fn) H) (hin : vp_in i 10) (hix : i.toNatClampNeg = ix) (hv : Fn 76 ix = x) (hdg : decode cc pc = .ok (.iaload, 1)) (kk : W p l e R s m args below meth c H locs cells slots Q (F0 m (pc + 1) ls (.int x :: rest))) : W p l e R s m args below meth c H locs cells slots Q (F0 m pc ls (.int i :: .ref (g 76) :: rest)) := by
  subst hix; subst hv
  exact va_iald hx hb hK.1 hP 51 0 rfl rfl hin hdg kk
set_option maxRecDepth 100000 in
theorem stM_76 {p : Program} {l : Launch} {e : Env} {R : Room} {s : State} {m : MethodId} {args : Array Value} {below : List Frame} {meth : Method} {c : Code} {H : Heap} {locs : List Loc} {cells slots : Nat} {Q : State → Prop} {cc : ByteArray} {pc : Nat} {D : va_G} {cI cB cZ : ClassId} {g cn : Nat → Nat} {In : Nat → Int32} {Fn : Nat → Nat → Int32} {rest : List Value} {ls : Array Slot} {A : Nat → Prop} {H0 : Heap} {i x : Int32} {ix : Nat} {Fn2 : Nat → Nat → Int32} (hx : p.tables.exec = Jvm.exec) (hb : c.code = cc) (hK : KK D cI cB cZ s) (hP : va_P D vwCl (wM cI cB cZ g cn In Fn) H) (hD : va_D A (wM cI cB cZ g cn In Fn)) (hS : va_S A H0 H locs) (hin : vp_in i 10) (hix : i.toNatClampNeg = ix) (hn2 : va_up Fn 76 (upd (Fn 76) ix x) = Fn2) (hdg : decode cc pc = .ok (.iastore, 1)) (kk : ∀ (H1 : Heap) (locs1 : List Loc), va_P D vwCl (wM cI cB cZ g cn In Fn2) H1 → va_D A (wM cI cB cZ g cn In Fn2) → va_S A H0 H1 locs1 → W p l e R s m args below meth c H1 locs1 cells slots Q (F0 m (pc + 1) ls rest)) : W p l e R s m args below meth c H locs cells slots Q (F0 m pc ls (.int x :: .int i :: .ref (g 76) :: rest)) := by
  subst hix; subst hn2
  exact va_iast hx hb hK.1 hP hD hS 51 0 rfl rfl hin hdg kk
set_option maxRecDepth 100000 in
theorem ldM_77 {p : Program} {l : Launch} {e : Env} {R : Room} {s : State} {m : MethodId} {args : Array Value} {below : List Frame} {meth : Method} {c : Code} {H : Heap} {locs : List Loc} {cells slots : Nat} {Q : State → Prop} {cc : ByteArray} {pc : Nat} {D : va_G} {cI cB cZ : ClassId} {g cn : Nat → Nat} {In : Nat → Int32} {Fn : Nat → Nat → Int32} {rest : List Value} {ls : Array Slot} {i : Int32} {ix : Nat} {x : Int32} (hx : p.tables.exec = Jvm.exec) (hb : c.code = cc) (hK : KK D cI cB cZ s) (hP : va_P D vwCl (wM cI cB cZ g cn In Fn) H) (hin : vp_in i 232) (hix : i.toNatClampNeg = ix) (hv : Fn 77 ix = x) (hdg : decode cc pc = .ok (.iaload, 1)) (kk : W p l e R s m args below meth c H locs cells slots Q (F0 m (pc + 1) ls (.int x :: rest))) : W p l e R s m args below meth c H locs cells slots Q (F0 m pc ls (.int i :: .ref (g 77) :: rest)) := by
  subst hix; subst hv
  exact va_iald hx hb hK.1 hP 52 0 rfl rfl hin hdg kk
set_option maxRecDepth 100000 in
theorem stM_77 {p : Program} {l : Launch} {e : Env} {R : Room} {s : State} {m : MethodId} {args : Array Value} {below : List Frame} {meth : Method} {c : Code} {H : Heap} {locs : List Loc} {cells slots : Nat} {Q : State → Prop} {cc : ByteArray} {pc : Nat} {D : va_G} {cI cB cZ : ClassId} {g cn : Nat → Nat} {In : Nat → Int32} {Fn : Nat → Nat → Int32} {rest : List Value} {ls : Array Slot} {A : Nat → Prop} {H0 : Heap} {i x : Int32} {ix : Nat} {Fn2 : Nat → Nat → Int32} (hx : p.tables.exec = Jvm.exec) (hb : c.code = cc) (hK : KK D cI cB cZ s) (hP : va_P D vwCl (wM cI cB cZ g cn In Fn) H) (hD : va_D A (wM cI cB cZ g cn In Fn)) (hS : va_S A H0 H locs) (hin : vp_in i 232) (hix : i.toNatClampNeg = ix) (hn2 : va_up Fn 77 (upd (Fn 77) ix x) = Fn2) (hdg : decode cc pc = .ok (.iastore, 1)) (kk : ∀ (H1 : Heap) (locs1 : List Loc), va_P D vwCl (wM cI cB cZ g cn In Fn2) H1 → va_D A (wM cI cB cZ g cn In Fn2) → va_S A H0 H1 locs1 → W p l e R s m args below meth c H1 locs1 cells slots Q (F0 m (pc + 1) ls rest)) : W p l e R s m args below meth c H locs cells slots Q (F0 m pc ls (.int x :: .int i :: .ref (g 77) :: rest)) := by
  subst hix; subst hn2
  exact va_iast hx hb hK.1 hP hD hS 52 0 rfl rfl hin hdg kk
set_option maxRecDepth 100000 in
theorem ldM_78 {p : Program} {l : Launch} {e : Env} {R : Room} {s : State} {m : MethodId} {args : Array Value} {below : List Frame} {meth : Method} {c : Code} {H : Heap} {locs : List Loc} {cells slots : Nat} {Q : State → Prop} {cc : ByteArray} {pc : Nat} {D : va_G} {cI cB cZ : ClassId} {g cn : Nat → Nat} {In : Nat → Int32} {Fn : Nat → Nat → Int32} {rest : List Value} {ls : Array Slot} {i : Int32} {ix : Nat} {x : Int32} (hx : p.tables.exec = Jvm.exec) (hb : c.code = cc) (hK : KK D cI cB cZ s) (hP : va_P D vwCl (wM cI cB cZ g cn In Fn) H) (hin : vp_in i 10) (hix : i.toNatClampNeg = ix) (hv : Fn 78 ix = x) (hdg : decode cc pc = .ok (.iaload, 1)) (kk : W p l e R s m args below meth c H locs cells slots Q (F0 m (pc + 1) ls (.int x :: rest))) : W p l e R s m args below meth c H locs cells slots Q (F0 m pc ls (.int i :: .ref (g 78) :: rest)) := by
  subst hix; subst hv
  exact va_iald hx hb hK.1 hP 53 0 rfl rfl hin hdg kk
set_option maxRecDepth 100000 in
theorem stM_78 {p : Program} {l : Launch} {e : Env} {R : Room} {s : State} {m : MethodId} {args : Array Value} {below : List Frame} {meth : Method} {c : Code} {H : Heap} {locs : List Loc} {cells slots : Nat} {Q : State → Prop} {cc : ByteArray} {pc : Nat} {D : va_G} {cI cB cZ : ClassId} {g cn : Nat → Nat} {In : Nat → Int32} {Fn : Nat → Nat → Int32} {rest : List Value} {ls : Array Slot} {A : Nat → Prop} {H0 : Heap} {i x : Int32} {ix : Nat} {Fn2 : Nat → Nat → Int32} (hx : p.tables.exec = Jvm.exec) (hb : c.code = cc) (hK : KK D cI cB cZ s) (hP : va_P D vwCl (wM cI cB cZ g cn In Fn) H) (hD : va_D A (wM cI cB cZ g cn In Fn)) (hS : va_S A H0 H locs) (hin : vp_in i 10) (hix : i.toNatClampNeg = ix) (hn2 : va_up Fn 78 (upd (Fn 78) ix x) = Fn2) (hdg : decode cc pc = .ok (.iastore, 1)) (kk : ∀ (H1 : Heap) (locs1 : List Loc), va_P D vwCl (wM cI cB cZ g cn In Fn2) H1 → va_D A (wM cI cB cZ g cn In Fn2) → va_S A H0 H1 locs1 → W p l e R s m args below meth c H1 locs1 cells slots Q (F0 m (pc + 1) ls rest)) : W p l e R s m args below meth c H locs cells slots Q (F0 m pc ls (.int x :: .int i :: .ref (g 78) :: rest)) := by
  subst hix; subst hn2
  exact va_iast hx hb hK.1 hP hD hS 53 0 rfl rfl hin hdg kk
set_option maxRecDepth 100000 in
theorem ldM_79 {p : Program} {l : Launch} {e : Env} {R : Room} {s : State} {m : MethodId} {args : Array Value} {below : List Frame} {meth : Method} {c : Code} {H : Heap} {locs : List Loc} {cells slots : Nat} {Q : State → Prop} {cc : ByteArray} {pc : Nat} {D : va_G} {cI cB cZ : ClassId} {g cn : Nat → Nat} {In : Nat → Int32} {Fn : Nat → Nat → Int32} {rest : List Value} {ls : Array Slot} {i : Int32} {ix : Nat} {x : Int32} (hx : p.tables.exec = Jvm.exec) (hb : c.code = cc) (hK : KK D cI cB cZ s) (hP : va_P D vwCl (wM cI cB cZ g cn In Fn) H) (hin : vp_in i 10) (hix : i.toNatClampNeg = ix) (hv : Fn 79 ix = x) (hdg : decode cc pc = .ok (.iaload, 1)) (kk : W p l e R s m args below meth c H locs cells slots Q (F0 m (pc + 1) ls (.int x :: rest))) : W p l e R s m args below meth c H locs cells slots Q (F0 m pc ls (.int i :: .ref (g 79) :: rest)) := by
  subst hix; subst hv
  exact va_iald hx hb hK.1 hP 54 0 rfl rfl hin hdg kk
set_option maxRecDepth 100000 in
theorem stM_79 {p : Program} {l : Launch} {e : Env} {R : Room} {s : State} {m : MethodId} {args : Array Value} {below : List Frame} {meth : Method} {c : Code} {H : Heap} {locs : List Loc} {cells slots : Nat} {Q : State → Prop} {cc : ByteArray} {pc : Nat} {D : va_G} {cI cB cZ : ClassId} {g cn : Nat → Nat} {In : Nat → Int32} {Fn : Nat → Nat → Int32} {rest : List Value} {ls : Array Slot} {A : Nat → Prop} {H0 : Heap} {i x : Int32} {ix : Nat} {Fn2 : Nat → Nat → Int32} (hx : p.tables.exec = Jvm.exec) (hb : c.code = cc) (hK : KK D cI cB cZ s) (hP : va_P D vwCl (wM cI cB cZ g cn In Fn) H) (hD : va_D A (wM cI cB cZ g cn In Fn)) (hS : va_S A H0 H locs) (hin : vp_in i 10) (hix : i.toNatClampNeg = ix) (hn2 : va_up Fn 79 (upd (Fn 79) ix x) = Fn2) (hdg : decode cc pc = .ok (.iastore, 1)) (kk : ∀ (H1 : Heap) (locs1 : List Loc), va_P D vwCl (wM cI cB cZ g cn In Fn2) H1 → va_D A (wM cI cB cZ g cn In Fn2) → va_S A H0 H1 locs1 → W p l e R s m args below meth c H1 locs1 cells slots Q (F0 m (pc + 1) ls rest)) : W p l e R s m args below meth c H locs cells slots Q (F0 m pc ls (.int x :: .int i :: .ref (g 79) :: rest)) := by
  subst hix; subst hn2
  exact va_iast hx hb hK.1 hP hD hS 54 0 rfl rfl hin hdg kk
set_option maxRecDepth 100000 in
theorem ldM_80 {p : Program} {l : Launch} {e : Env} {R : Room} {s : State} {m : MethodId} {args : Array Value} {below : List Frame} {meth : Method} {c : Code} {H : Heap} {locs : List Loc} {cells slots : Nat} {Q : State → Prop} {cc : ByteArray} {pc : Nat} {D : va_G} {cI cB cZ : ClassId} {g cn : Nat → Nat} {In : Nat → Int32} {Fn : Nat → Nat → Int32} {rest : List Value} {ls : Array Slot} {i : Int32} {ix : Nat} {x : Int32} (hx : p.tables.exec = Jvm.exec) (hb : c.code = cc) (hK : KK D cI cB cZ s) (hP : va_P D vwCl (wM cI cB cZ g cn In Fn) H) (hin : vp_in i 120) (hix : i.toNatClampNeg = ix) (hv : Fn 80 ix = x) (hdg : decode cc pc = .ok (.iaload, 1)) (kk : W p l e R s m args below meth c H locs cells slots Q (F0 m (pc + 1) ls (.int x :: rest))) : W p l e R s m args below meth c H locs cells slots Q (F0 m pc ls (.int i :: .ref (g 80) :: rest)) := by
  subst hix; subst hv
  exact va_iald hx hb hK.1 hP 55 0 rfl rfl hin hdg kk
set_option maxRecDepth 100000 in
theorem stM_80 {p : Program} {l : Launch} {e : Env} {R : Room} {s : State} {m : MethodId} {args : Array Value} {below : List Frame} {meth : Method} {c : Code} {H : Heap} {locs : List Loc} {cells slots : Nat} {Q : State → Prop} {cc : ByteArray} {pc : Nat} {D : va_G} {cI cB cZ : ClassId} {g cn : Nat → Nat} {In : Nat → Int32} {Fn : Nat → Nat → Int32} {rest : List Value} {ls : Array Slot} {A : Nat → Prop} {H0 : Heap} {i x : Int32} {ix : Nat} {Fn2 : Nat → Nat → Int32} (hx : p.tables.exec = Jvm.exec) (hb : c.code = cc) (hK : KK D cI cB cZ s) (hP : va_P D vwCl (wM cI cB cZ g cn In Fn) H) (hD : va_D A (wM cI cB cZ g cn In Fn)) (hS : va_S A H0 H locs) (hin : vp_in i 120) (hix : i.toNatClampNeg = ix) (hn2 : va_up Fn 80 (upd (Fn 80) ix x) = Fn2) (hdg : decode cc pc = .ok (.iastore, 1)) (kk : ∀ (H1 : Heap) (locs1 : List Loc), va_P D vwCl (wM cI cB cZ g cn In Fn2) H1 → va_D A (wM cI cB cZ g cn In Fn2) → va_S A H0 H1 locs1 → W p l e R s m args below meth c H1 locs1 cells slots Q (F0 m (pc + 1) ls rest)) : W p l e R s m args below meth c H locs cells slots Q (F0 m pc ls (.int x :: .int i :: .ref (g 80) :: rest)) := by
  subst hix; subst hn2
  exact va_iast hx hb hK.1 hP hD hS 55 0 rfl rfl hin hdg kk
set_option maxRecDepth 100000 in
theorem ldM_81 {p : Program} {l : Launch} {e : Env} {R : Room} {s : State} {m : MethodId} {args : Array Value} {below : List Frame} {meth : Method} {c : Code} {H : Heap} {locs : List Loc} {cells slots : Nat} {Q : State → Prop} {cc : ByteArray} {pc : Nat} {D : va_G} {cI cB cZ : ClassId} {g cn : Nat → Nat} {In : Nat → Int32} {Fn : Nat → Nat → Int32} {rest : List Value} {ls : Array Slot} {i : Int32} {ix : Nat} {x : Int32} (hx : p.tables.exec = Jvm.exec) (hb : c.code = cc) (hK : KK D cI cB cZ s) (hP : va_P D vwCl (wM cI cB cZ g cn In Fn) H) (hin : vp_in i 40) (hix : i.toNatClampNeg = ix) (hv : Fn 81 ix = x) (hdg : decode cc pc = .ok (.iaload, 1)) (kk : W p l e R s m args below meth c H locs cells slots Q (F0 m (pc + 1) ls (.int x :: rest))) : W p l e R s m args below meth c H locs cells slots Q (F0 m pc ls (.int i :: .ref (g 81) :: rest)) := by
  subst hix; subst hv
  exact va_iald hx hb hK.1 hP 56 0 rfl rfl hin hdg kk
set_option maxRecDepth 100000 in
theorem stM_81 {p : Program} {l : Launch} {e : Env} {R : Room} {s : State} {m : MethodId} {args : Array Value} {below : List Frame} {meth : Method} {c : Code} {H : Heap} {locs : List Loc} {cells slots : Nat} {Q : State → Prop} {cc : ByteArray} {pc : Nat} {D : va_G} {cI cB cZ : ClassId} {g cn : Nat → Nat} {In : Nat → Int32} {Fn : Nat → Nat → Int32} {rest : List Value} {ls : Array Slot} {A : Nat → Prop} {H0 : Heap} {i x : Int32} {ix : Nat} {Fn2 : Nat → Nat → Int32} (hx : p.tables.exec = Jvm.exec) (hb : c.code = cc) (hK : KK D cI cB cZ s) (hP : va_P D vwCl (wM cI cB cZ g cn In Fn) H) (hD : va_D A (wM cI cB cZ g cn In Fn)) (hS : va_S A H0 H locs) (hin : vp_in i 40) (hix : i.toNatClampNeg = ix) (hn2 : va_up Fn 81 (upd (Fn 81) ix x) = Fn2) (hdg : decode cc pc = .ok (.iastore, 1)) (kk : ∀ (H1 : Heap) (locs1 : List Loc), va_P D vwCl (wM cI cB cZ g cn In Fn2) H1 → va_D A (wM cI cB cZ g cn In Fn2) → va_S A H0 H1 locs1 → W p l e R s m args below meth c H1 locs1 cells slots Q (F0 m (pc + 1) ls rest)) : W p l e R s m args below meth c H locs cells slots Q (F0 m pc ls (.int x :: .int i :: .ref (g 81) :: rest)) := by
  subst hix; subst hn2
  exact va_iast hx hb hK.1 hP hD hS 56 0 rfl rfl hin hdg kk
set_option maxRecDepth 100000 in
theorem ldM_82 {p : Program} {l : Launch} {e : Env} {R : Room} {s : State} {m : MethodId} {args : Array Value} {below : List Frame} {meth : Method} {c : Code} {H : Heap} {locs : List Loc} {cells slots : Nat} {Q : State → Prop} {cc : ByteArray} {pc : Nat} {D : va_G} {cI cB cZ : ClassId} {g cn : Nat → Nat} {In : Nat → Int32} {Fn : Nat → Nat → Int32} {rest : List Value} {ls : Array Slot} {i : Int32} {ix : Nat} {x : Int32} (hx : p.tables.exec = Jvm.exec) (hb : c.code = cc) (hK : KK D cI cB cZ s) (hP : va_P D vwCl (wM cI cB cZ g cn In Fn) H) (hin : vp_in i 40) (hix : i.toNatClampNeg = ix) (hv : Fn 82 ix = x) (hdg : decode cc pc = .ok (.iaload, 1)) (kk : W p l e R s m args below meth c H locs cells slots Q (F0 m (pc + 1) ls (.int x :: rest))) : W p l e R s m args below meth c H locs cells slots Q (F0 m pc ls (.int i :: .ref (g 82) :: rest)) := by
  subst hix; subst hv
  exact va_iald hx hb hK.1 hP 57 0 rfl rfl hin hdg kk
set_option maxRecDepth 100000 in
theorem stM_82 {p : Program} {l : Launch} {e : Env} {R : Room} {s : State} {m : MethodId} {args : Array Value} {below : List Frame} {meth : Method} {c : Code} {H : Heap} {locs : List Loc} {cells slots : Nat} {Q : State → Prop} {cc : ByteArray} {pc : Nat} {D : va_G} {cI cB cZ : ClassId} {g cn : Nat → Nat} {In : Nat → Int32} {Fn : Nat → Nat → Int32} {rest : List Value} {ls : Array Slot} {A : Nat → Prop} {H0 : Heap} {i x : Int32} {ix : Nat} {Fn2 : Nat → Nat → Int32} (hx : p.tables.exec = Jvm.exec) (hb : c.code = cc) (hK : KK D cI cB cZ s) (hP : va_P D vwCl (wM cI cB cZ g cn In Fn) H) (hD : va_D A (wM cI cB cZ g cn In Fn)) (hS : va_S A H0 H locs) (hin : vp_in i 40) (hix : i.toNatClampNeg = ix) (hn2 : va_up Fn 82 (upd (Fn 82) ix x) = Fn2) (hdg : decode cc pc = .ok (.iastore, 1)) (kk : ∀ (H1 : Heap) (locs1 : List Loc), va_P D vwCl (wM cI cB cZ g cn In Fn2) H1 → va_D A (wM cI cB cZ g cn In Fn2) → va_S A H0 H1 locs1 → W p l e R s m args below meth c H1 locs1 cells slots Q (F0 m (pc + 1) ls rest)) : W p l e R s m args below meth c H locs cells slots Q (F0 m pc ls (.int x :: .int i :: .ref (g 82) :: rest)) := by
  subst hix; subst hn2
  exact va_iast hx hb hK.1 hP hD hS 57 0 rfl rfl hin hdg kk
set_option maxRecDepth 100000 in
theorem ldM_84 {p : Program} {l : Launch} {e : Env} {R : Room} {s : State} {m : MethodId} {args : Array Value} {below : List Frame} {meth : Method} {c : Code} {H : Heap} {locs : List Loc} {cells slots : Nat} {Q : State → Prop} {cc : ByteArray} {pc : Nat} {D : va_G} {cI cB cZ : ClassId} {g cn : Nat → Nat} {In : Nat → Int32} {Fn : Nat → Nat → Int32} {rest : List Value} {ls : Array Slot} {i : Int32} {ix : Nat} {x : Int32} (hx : p.tables.exec = Jvm.exec) (hb : c.code = cc) (hK : KK D cI cB cZ s) (hP : va_P D vwCl (wM cI cB cZ g cn In Fn) H) (hin : vp_in i 10) (hix : i.toNatClampNeg = ix) (hv : Fn 84 ix = x) (hdg : decode cc pc = .ok (.iaload, 1)) (kk : W p l e R s m args below meth c H locs cells slots Q (F0 m (pc + 1) ls (.int x :: rest))) : W p l e R s m args below meth c H locs cells slots Q (F0 m pc ls (.int i :: .ref (g 84) :: rest)) := by
  subst hix; subst hv
  exact va_iald hx hb hK.1 hP 58 0 rfl rfl hin hdg kk
set_option maxRecDepth 100000 in
theorem stM_84 {p : Program} {l : Launch} {e : Env} {R : Room} {s : State} {m : MethodId} {args : Array Value} {below : List Frame} {meth : Method} {c : Code} {H : Heap} {locs : List Loc} {cells slots : Nat} {Q : State → Prop} {cc : ByteArray} {pc : Nat} {D : va_G} {cI cB cZ : ClassId} {g cn : Nat → Nat} {In : Nat → Int32} {Fn : Nat → Nat → Int32} {rest : List Value} {ls : Array Slot} {A : Nat → Prop} {H0 : Heap} {i x : Int32} {ix : Nat} {Fn2 : Nat → Nat → Int32} (hx : p.tables.exec = Jvm.exec) (hb : c.code = cc) (hK : KK D cI cB cZ s) (hP : va_P D vwCl (wM cI cB cZ g cn In Fn) H) (hD : va_D A (wM cI cB cZ g cn In Fn)) (hS : va_S A H0 H locs) (hin : vp_in i 10) (hix : i.toNatClampNeg = ix) (hn2 : va_up Fn 84 (upd (Fn 84) ix x) = Fn2) (hdg : decode cc pc = .ok (.iastore, 1)) (kk : ∀ (H1 : Heap) (locs1 : List Loc), va_P D vwCl (wM cI cB cZ g cn In Fn2) H1 → va_D A (wM cI cB cZ g cn In Fn2) → va_S A H0 H1 locs1 → W p l e R s m args below meth c H1 locs1 cells slots Q (F0 m (pc + 1) ls rest)) : W p l e R s m args below meth c H locs cells slots Q (F0 m pc ls (.int x :: .int i :: .ref (g 84) :: rest)) := by
  subst hix; subst hn2
  exact va_iast hx hb hK.1 hP hD hS 58 0 rfl rfl hin hdg kk
set_option maxRecDepth 100000 in
theorem ldM_85 {p : Program} {l : Launch} {e : Env} {R : Room} {s : State} {m : MethodId} {args : Array Value} {below : List Frame} {meth : Method} {c : Code} {H : Heap} {locs : List Loc} {cells slots : Nat} {Q : State → Prop} {cc : ByteArray} {pc : Nat} {D : va_G} {cI cB cZ : ClassId} {g cn : Nat → Nat} {In : Nat → Int32} {Fn : Nat → Nat → Int32} {rest : List Value} {ls : Array Slot} {i : Int32} {ix : Nat} {x : Int32} (hx : p.tables.exec = Jvm.exec) (hb : c.code = cc) (hK : KK D cI cB cZ s) (hP : va_P D vwCl (wM cI cB cZ g cn In Fn) H) (hin : vp_in i 10) (hix : i.toNatClampNeg = ix) (hv : Fn 85 ix = x) (hdg : decode cc pc = .ok (.iaload, 1)) (kk : W p l e R s m args below meth c H locs cells slots Q (F0 m (pc + 1) ls (.int x :: rest))) : W p l e R s m args below meth c H locs cells slots Q (F0 m pc ls (.int i :: .ref (g 85) :: rest)) := by
  subst hix; subst hv
  exact va_iald hx hb hK.1 hP 59 0 rfl rfl hin hdg kk
set_option maxRecDepth 100000 in
theorem stM_85 {p : Program} {l : Launch} {e : Env} {R : Room} {s : State} {m : MethodId} {args : Array Value} {below : List Frame} {meth : Method} {c : Code} {H : Heap} {locs : List Loc} {cells slots : Nat} {Q : State → Prop} {cc : ByteArray} {pc : Nat} {D : va_G} {cI cB cZ : ClassId} {g cn : Nat → Nat} {In : Nat → Int32} {Fn : Nat → Nat → Int32} {rest : List Value} {ls : Array Slot} {A : Nat → Prop} {H0 : Heap} {i x : Int32} {ix : Nat} {Fn2 : Nat → Nat → Int32} (hx : p.tables.exec = Jvm.exec) (hb : c.code = cc) (hK : KK D cI cB cZ s) (hP : va_P D vwCl (wM cI cB cZ g cn In Fn) H) (hD : va_D A (wM cI cB cZ g cn In Fn)) (hS : va_S A H0 H locs) (hin : vp_in i 10) (hix : i.toNatClampNeg = ix) (hn2 : va_up Fn 85 (upd (Fn 85) ix x) = Fn2) (hdg : decode cc pc = .ok (.iastore, 1)) (kk : ∀ (H1 : Heap) (locs1 : List Loc), va_P D vwCl (wM cI cB cZ g cn In Fn2) H1 → va_D A (wM cI cB cZ g cn In Fn2) → va_S A H0 H1 locs1 → W p l e R s m args below meth c H1 locs1 cells slots Q (F0 m (pc + 1) ls rest)) : W p l e R s m args below meth c H locs cells slots Q (F0 m pc ls (.int x :: .int i :: .ref (g 85) :: rest)) := by
  subst hix; subst hn2
  exact va_iast hx hb hK.1 hP hD hS 59 0 rfl rfl hin hdg kk
set_option maxRecDepth 100000 in
theorem ldM_86 {p : Program} {l : Launch} {e : Env} {R : Room} {s : State} {m : MethodId} {args : Array Value} {below : List Frame} {meth : Method} {c : Code} {H : Heap} {locs : List Loc} {cells slots : Nat} {Q : State → Prop} {cc : ByteArray} {pc : Nat} {D : va_G} {cI cB cZ : ClassId} {g cn : Nat → Nat} {In : Nat → Int32} {Fn : Nat → Nat → Int32} {rest : List Value} {ls : Array Slot} {i : Int32} {ix : Nat} {x : Int32} (hx : p.tables.exec = Jvm.exec) (hb : c.code = cc) (hK : KK D cI cB cZ s) (hP : va_P D vwCl (wM cI cB cZ g cn In Fn) H) (hin : vp_in i 24) (hix : i.toNatClampNeg = ix) (hv : Fn 86 ix = x) (hdg : decode cc pc = .ok (.iaload, 1)) (kk : W p l e R s m args below meth c H locs cells slots Q (F0 m (pc + 1) ls (.int x :: rest))) : W p l e R s m args below meth c H locs cells slots Q (F0 m pc ls (.int i :: .ref (g 86) :: rest)) := by
  subst hix; subst hv
  exact va_iald hx hb hK.1 hP 60 0 rfl rfl hin hdg kk
set_option maxRecDepth 100000 in
theorem stM_86 {p : Program} {l : Launch} {e : Env} {R : Room} {s : State} {m : MethodId} {args : Array Value} {below : List Frame} {meth : Method} {c : Code} {H : Heap} {locs : List Loc} {cells slots : Nat} {Q : State → Prop} {cc : ByteArray} {pc : Nat} {D : va_G} {cI cB cZ : ClassId} {g cn : Nat → Nat} {In : Nat → Int32} {Fn : Nat → Nat → Int32} {rest : List Value} {ls : Array Slot} {A : Nat → Prop} {H0 : Heap} {i x : Int32} {ix : Nat} {Fn2 : Nat → Nat → Int32} (hx : p.tables.exec = Jvm.exec) (hb : c.code = cc) (hK : KK D cI cB cZ s) (hP : va_P D vwCl (wM cI cB cZ g cn In Fn) H) (hD : va_D A (wM cI cB cZ g cn In Fn)) (hS : va_S A H0 H locs) (hin : vp_in i 24) (hix : i.toNatClampNeg = ix) (hn2 : va_up Fn 86 (upd (Fn 86) ix x) = Fn2) (hdg : decode cc pc = .ok (.iastore, 1)) (kk : ∀ (H1 : Heap) (locs1 : List Loc), va_P D vwCl (wM cI cB cZ g cn In Fn2) H1 → va_D A (wM cI cB cZ g cn In Fn2) → va_S A H0 H1 locs1 → W p l e R s m args below meth c H1 locs1 cells slots Q (F0 m (pc + 1) ls rest)) : W p l e R s m args below meth c H locs cells slots Q (F0 m pc ls (.int x :: .int i :: .ref (g 86) :: rest)) := by
  subst hix; subst hn2
  exact va_iast hx hb hK.1 hP hD hS 60 0 rfl rfl hin hdg kk
set_option maxRecDepth 100000 in
theorem ldM_87 {p : Program} {l : Launch} {e : Env} {R : Room} {s : State} {m : MethodId} {args : Array Value} {below : List Frame} {meth : Method} {c : Code} {H : Heap} {locs : List Loc} {cells slots : Nat} {Q : State → Prop} {cc : ByteArray} {pc : Nat} {D : va_G} {cI cB cZ : ClassId} {g cn : Nat → Nat} {In : Nat → Int32} {Fn : Nat → Nat → Int32} {rest : List Value} {ls : Array Slot} {i : Int32} {ix : Nat} {x : Int32} (hx : p.tables.exec = Jvm.exec) (hb : c.code = cc) (hK : KK D cI cB cZ s) (hP : va_P D vwCl (wM cI cB cZ g cn In Fn) H) (hin : vp_in i 10) (hix : i.toNatClampNeg = ix) (hv : Fn 87 ix = x) (hdg : decode cc pc = .ok (.iaload, 1)) (kk : W p l e R s m args below meth c H locs cells slots Q (F0 m (pc + 1) ls (.int x :: rest))) : W p l e R s m args below meth c H locs cells slots Q (F0 m pc ls (.int i :: .ref (g 87) :: rest)) := by
  subst hix; subst hv
  exact va_iald hx hb hK.1 hP 61 0 rfl rfl hin hdg kk
set_option maxRecDepth 100000 in
theorem stM_87 {p : Program} {l : Launch} {e : Env} {R : Room} {s : State} {m : MethodId} {args : Array Value} {below : List Frame} {meth : Method} {c : Code} {H : Heap} {locs : List Loc} {cells slots : Nat} {Q : State → Prop} {cc : ByteArray} {pc : Nat} {D : va_G} {cI cB cZ : ClassId} {g cn : Nat → Nat} {In : Nat → Int32} {Fn : Nat → Nat → Int32} {rest : List Value} {ls : Array Slot} {A : Nat → Prop} {H0 : Heap} {i x : Int32} {ix : Nat} {Fn2 : Nat → Nat → Int32} (hx : p.tables.exec = Jvm.exec) (hb : c.code = cc) (hK : KK D cI cB cZ s) (hP : va_P D vwCl (wM cI cB cZ g cn In Fn) H) (hD : va_D A (wM cI cB cZ g cn In Fn)) (hS : va_S A H0 H locs) (hin : vp_in i 10) (hix : i.toNatClampNeg = ix) (hn2 : va_up Fn 87 (upd (Fn 87) ix x) = Fn2) (hdg : decode cc pc = .ok (.iastore, 1)) (kk : ∀ (H1 : Heap) (locs1 : List Loc), va_P D vwCl (wM cI cB cZ g cn In Fn2) H1 → va_D A (wM cI cB cZ g cn In Fn2) → va_S A H0 H1 locs1 → W p l e R s m args below meth c H1 locs1 cells slots Q (F0 m (pc + 1) ls rest)) : W p l e R s m args below meth c H locs cells slots Q (F0 m pc ls (.int x :: .int i :: .ref (g 87) :: rest)) := by
  subst hix; subst hn2
  exact va_iast hx hb hK.1 hP hD hS 61 0 rfl rfl hin hdg kk
set_option maxRecDepth 100000 in
theorem ldM_88 {p : Program} {l : Launch} {e : Env} {R : Room} {s : State} {m : MethodId} {args : Array Value} {below : List Frame} {meth : Method} {c : Code} {H : Heap} {locs : List Loc} {cells slots : Nat} {Q : State → Prop} {cc : ByteArray} {pc : Nat} {D : va_G} {cI cB cZ : ClassId} {g cn : Nat → Nat} {In : Nat → Int32} {Fn : Nat → Nat → Int32} {rest : List Value} {ls : Array Slot} {i : Int32} {ix : Nat} {x : Int32} (hx : p.tables.exec = Jvm.exec) (hb : c.code = cc) (hK : KK D cI cB cZ s) (hP : va_P D vwCl (wM cI cB cZ g cn In Fn) H) (hin : vp_in i 10) (hix : i.toNatClampNeg = ix) (hv : Fn 88 ix = x) (hdg : decode cc pc = .ok (.iaload, 1)) (kk : W p l e R s m args below meth c H locs cells slots Q (F0 m (pc + 1) ls (.int x :: rest))) : W p l e R s m args below meth c H locs cells slots Q (F0 m pc ls (.int i :: .ref (g 88) :: rest)) := by
  subst hix; subst hv
  exact va_iald hx hb hK.1 hP 62 0 rfl rfl hin hdg kk
set_option maxRecDepth 100000 in
theorem stM_88 {p : Program} {l : Launch} {e : Env} {R : Room} {s : State} {m : MethodId} {args : Array Value} {below : List Frame} {meth : Method} {c : Code} {H : Heap} {locs : List Loc} {cells slots : Nat} {Q : State → Prop} {cc : ByteArray} {pc : Nat} {D : va_G} {cI cB cZ : ClassId} {g cn : Nat → Nat} {In : Nat → Int32} {Fn : Nat → Nat → Int32} {rest : List Value} {ls : Array Slot} {A : Nat → Prop} {H0 : Heap} {i x : Int32} {ix : Nat} {Fn2 : Nat → Nat → Int32} (hx : p.tables.exec = Jvm.exec) (hb : c.code = cc) (hK : KK D cI cB cZ s) (hP : va_P D vwCl (wM cI cB cZ g cn In Fn) H) (hD : va_D A (wM cI cB cZ g cn In Fn)) (hS : va_S A H0 H locs) (hin : vp_in i 10) (hix : i.toNatClampNeg = ix) (hn2 : va_up Fn 88 (upd (Fn 88) ix x) = Fn2) (hdg : decode cc pc = .ok (.iastore, 1)) (kk : ∀ (H1 : Heap) (locs1 : List Loc), va_P D vwCl (wM cI cB cZ g cn In Fn2) H1 → va_D A (wM cI cB cZ g cn In Fn2) → va_S A H0 H1 locs1 → W p l e R s m args below meth c H1 locs1 cells slots Q (F0 m (pc + 1) ls rest)) : W p l e R s m args below meth c H locs cells slots Q (F0 m pc ls (.int x :: .int i :: .ref (g 88) :: rest)) := by
  subst hix; subst hn2
  exact va_iast hx hb hK.1 hP hD hS 62 0 rfl rfl hin hdg kk
set_option maxRecDepth 100000 in
theorem ldM_89 {p : Program} {l : Launch} {e : Env} {R : Room} {s : State} {m : MethodId} {args : Array Value} {below : List Frame} {meth : Method} {c : Code} {H : Heap} {locs : List Loc} {cells slots : Nat} {Q : State → Prop} {cc : ByteArray} {pc : Nat} {D : va_G} {cI cB cZ : ClassId} {g cn : Nat → Nat} {In : Nat → Int32} {Fn : Nat → Nat → Int32} {rest : List Value} {ls : Array Slot} {i : Int32} {ix : Nat} {x : Int32} (hx : p.tables.exec = Jvm.exec) (hb : c.code = cc) (hK : KK D cI cB cZ s) (hP : va_P D vwCl (wM cI cB cZ g cn In Fn) H) (hin : vp_in i 10) (hix : i.toNatClampNeg = ix) (hv : Fn 89 ix = x) (hdg : decode cc pc = .ok (.iaload, 1)) (kk : W p l e R s m args below meth c H locs cells slots Q (F0 m (pc + 1) ls (.int x :: rest))) : W p l e R s m args below meth c H locs cells slots Q (F0 m pc ls (.int i :: .ref (g 89) :: rest)) := by
  subst hix; subst hv
  exact va_iald hx hb hK.1 hP 63 0 rfl rfl hin hdg kk
set_option maxRecDepth 100000 in
theorem stM_89 {p : Program} {l : Launch} {e : Env} {R : Room} {s : State} {m : MethodId} {args : Array Value} {below : List Frame} {meth : Method} {c : Code} {H : Heap} {locs : List Loc} {cells slots : Nat} {Q : State → Prop} {cc : ByteArray} {pc : Nat} {D : va_G} {cI cB cZ : ClassId} {g cn : Nat → Nat} {In : Nat → Int32} {Fn : Nat → Nat → Int32} {rest : List Value} {ls : Array Slot} {A : Nat → Prop} {H0 : Heap} {i x : Int32} {ix : Nat} {Fn2 : Nat → Nat → Int32} (hx : p.tables.exec = Jvm.exec) (hb : c.code = cc) (hK : KK D cI cB cZ s) (hP : va_P D vwCl (wM cI cB cZ g cn In Fn) H) (hD : va_D A (wM cI cB cZ g cn In Fn)) (hS : va_S A H0 H locs) (hin : vp_in i 10) (hix : i.toNatClampNeg = ix) (hn2 : va_up Fn 89 (upd (Fn 89) ix x) = Fn2) (hdg : decode cc pc = .ok (.iastore, 1)) (kk : ∀ (H1 : Heap) (locs1 : List Loc), va_P D vwCl (wM cI cB cZ g cn In Fn2) H1 → va_D A (wM cI cB cZ g cn In Fn2) → va_S A H0 H1 locs1 → W p l e R s m args below meth c H1 locs1 cells slots Q (F0 m (pc + 1) ls rest)) : W p l e R s m args below meth c H locs cells slots Q (F0 m pc ls (.int x :: .int i :: .ref (g 89) :: rest)) := by
  subst hix; subst hn2
  exact va_iast hx hb hK.1 hP hD hS 63 0 rfl rfl hin hdg kk
set_option maxRecDepth 100000 in
theorem ldM_90 {p : Program} {l : Launch} {e : Env} {R : Room} {s : State} {m : MethodId} {args : Array Value} {below : List Frame} {meth : Method} {c : Code} {H : Heap} {locs : List Loc} {cells slots : Nat} {Q : State → Prop} {cc : ByteArray} {pc : Nat} {D : va_G} {cI cB cZ : ClassId} {g cn : Nat → Nat} {In : Nat → Int32} {Fn : Nat → Nat → Int32} {rest : List Value} {ls : Array Slot} {i : Int32} {ix : Nat} {x : Int32} (hx : p.tables.exec = Jvm.exec) (hb : c.code = cc) (hK : KK D cI cB cZ s) (hP : va_P D vwCl (wM cI cB cZ g cn In Fn) H) (hin : vp_in i 400) (hix : i.toNatClampNeg = ix) (hv : Fn 90 ix = x) (hdg : decode cc pc = .ok (.iaload, 1)) (kk : W p l e R s m args below meth c H locs cells slots Q (F0 m (pc + 1) ls (.int x :: rest))) : W p l e R s m args below meth c H locs cells slots Q (F0 m pc ls (.int i :: .ref (g 90) :: rest)) := by
  subst hix; subst hv
  exact va_iald hx hb hK.1 hP 64 0 rfl rfl hin hdg kk
set_option maxRecDepth 100000 in
theorem stM_90 {p : Program} {l : Launch} {e : Env} {R : Room} {s : State} {m : MethodId} {args : Array Value} {below : List Frame} {meth : Method} {c : Code} {H : Heap} {locs : List Loc} {cells slots : Nat} {Q : State → Prop} {cc : ByteArray} {pc : Nat} {D : va_G} {cI cB cZ : ClassId} {g cn : Nat → Nat} {In : Nat → Int32} {Fn : Nat → Nat → Int32} {rest : List Value} {ls : Array Slot} {A : Nat → Prop} {H0 : Heap} {i x : Int32} {ix : Nat} {Fn2 : Nat → Nat → Int32} (hx : p.tables.exec = Jvm.exec) (hb : c.code = cc) (hK : KK D cI cB cZ s) (hP : va_P D vwCl (wM cI cB cZ g cn In Fn) H) (hD : va_D A (wM cI cB cZ g cn In Fn)) (hS : va_S A H0 H locs) (hin : vp_in i 400) (hix : i.toNatClampNeg = ix) (hn2 : va_up Fn 90 (upd (Fn 90) ix x) = Fn2) (hdg : decode cc pc = .ok (.iastore, 1)) (kk : ∀ (H1 : Heap) (locs1 : List Loc), va_P D vwCl (wM cI cB cZ g cn In Fn2) H1 → va_D A (wM cI cB cZ g cn In Fn2) → va_S A H0 H1 locs1 → W p l e R s m args below meth c H1 locs1 cells slots Q (F0 m (pc + 1) ls rest)) : W p l e R s m args below meth c H locs cells slots Q (F0 m pc ls (.int x :: .int i :: .ref (g 90) :: rest)) := by
  subst hix; subst hn2
  exact va_iast hx hb hK.1 hP hD hS 64 0 rfl rfl hin hdg kk
end

section
noncomputable def sxX12_in_16 : List UInt8 := []
theorem shX12_in_0 : cX12_in.data.toList.drop 0 = 26 :: 27 :: 161 :: 0 :: 12 :: 26 :: 28 :: 163 :: 0 :: 7 :: 4 :: 167 :: 0 :: 4 :: 3 :: 172 :: sxX12_in_16 := rfl
noncomputable def sxX12_isDay_17 : List UInt8 := []
theorem shX12_isDay_0 : cX12_isDay.data.toList.drop 0 = 26 :: 155 :: 0 :: 14 :: 26 :: 17 :: 1 :: 143 :: 163 :: 0 :: 7 :: 4 :: 167 :: 0 :: 4 :: 3 :: 172 :: sxX12_isDay_17 := rfl
noncomputable def sxX12_isKitchen_18 : List UInt8 := []
theorem shX12_isKitchen_0 : cX12_isKitchen.data.toList.drop 0 = 27 :: 155 :: 0 :: 15 :: 27 :: 42 :: 180 :: 0 :: 204 :: 162 :: 0 :: 7 :: 4 :: 167 :: 0 :: 4 :: 3 :: 172 :: sxX12_isKitchen_18 := rfl
noncomputable def sxX12_isLoad_18 : List UInt8 := []
theorem shX12_isLoad_0 : cX12_isLoad.data.toList.drop 0 = 27 :: 155 :: 0 :: 15 :: 27 :: 42 :: 180 :: 0 :: 208 :: 162 :: 0 :: 7 :: 4 :: 167 :: 0 :: 4 :: 3 :: 172 :: sxX12_isLoad_18 := rfl
noncomputable def sxX12_now_23 : List UInt8 := []
theorem shX12_now_0 : cX12_now.data.toList.drop 0 = 27 :: 42 :: 180 :: 0 :: 211 :: 17 :: 1 :: 143 :: 184 :: 0 :: 214 :: 154 :: 0 :: 5 :: 3 :: 172 :: 42 :: 27 :: 181 :: 0 :: 211 :: 4 :: 172 :: sxX12_now_23 := rfl
noncomputable def sxX12_kitchen_112 : List UInt8 := []
noncomputable def sxX12_kitchen_97 : List UInt8 := 180 :: 0 :: 204 :: 4 :: 96 :: 181 :: 0 :: 204 :: 42 :: 180 :: 0 :: 204 :: 4 :: 100 :: 172 :: sxX12_kitchen_112
noncomputable def sxX12_kitchen_73 : List UInt8 := 79 :: 42 :: 180 :: 0 :: 16 :: 42 :: 180 :: 0 :: 204 :: 29 :: 79 :: 42 :: 180 :: 0 :: 19 :: 42 :: 180 :: 0 :: 204 :: 21 :: 4 :: 79 :: 42 :: 42 :: sxX12_kitchen_97
noncomputable def sxX12_kitchen_49 : List UInt8 := 160 :: 0 :: 5 :: 2 :: 172 :: 42 :: 180 :: 0 :: 7 :: 42 :: 180 :: 0 :: 204 :: 27 :: 79 :: 42 :: 180 :: 0 :: 13 :: 42 :: 180 :: 0 :: 204 :: 28 :: sxX12_kitchen_73
noncomputable def sxX12_kitchen_24 : List UInt8 := 184 :: 0 :: 214 :: 153 :: 0 :: 25 :: 21 :: 4 :: 16 :: 20 :: 17 :: 1 :: 144 :: 184 :: 0 :: 214 :: 153 :: 0 :: 12 :: 42 :: 180 :: 0 :: 204 :: 16 :: 10 :: sxX12_kitchen_49
theorem shX12_kitchen_0 : cX12_kitchen.data.toList.drop 0 = 27 :: 3 :: 16 :: 99 :: 184 :: 0 :: 214 :: 153 :: 0 :: 45 :: 28 :: 3 :: 16 :: 99 :: 184 :: 0 :: 214 :: 153 :: 0 :: 35 :: 29 :: 3 :: 16 :: 50 :: sxX12_kitchen_24 := rfl
theorem shX12_kitchen_24 : cX12_kitchen.data.toList.drop 24 = 184 :: 0 :: 214 :: 153 :: 0 :: 25 :: 21 :: 4 :: 16 :: 20 :: 17 :: 1 :: 144 :: 184 :: 0 :: 214 :: 153 :: 0 :: 12 :: 42 :: 180 :: 0 :: 204 :: 16 :: 10 :: sxX12_kitchen_49 := aq_24 shX12_kitchen_0
theorem shX12_kitchen_49 : cX12_kitchen.data.toList.drop 49 = 160 :: 0 :: 5 :: 2 :: 172 :: 42 :: 180 :: 0 :: 7 :: 42 :: 180 :: 0 :: 204 :: 27 :: 79 :: 42 :: 180 :: 0 :: 13 :: 42 :: 180 :: 0 :: 204 :: 28 :: sxX12_kitchen_73 := aq_25 shX12_kitchen_24
theorem shX12_kitchen_73 : cX12_kitchen.data.toList.drop 73 = 79 :: 42 :: 180 :: 0 :: 16 :: 42 :: 180 :: 0 :: 204 :: 29 :: 79 :: 42 :: 180 :: 0 :: 19 :: 42 :: 180 :: 0 :: 204 :: 21 :: 4 :: 79 :: 42 :: 42 :: sxX12_kitchen_97 := aq_24 shX12_kitchen_49
theorem shX12_kitchen_97 : cX12_kitchen.data.toList.drop 97 = 180 :: 0 :: 204 :: 4 :: 96 :: 181 :: 0 :: 204 :: 42 :: 180 :: 0 :: 204 :: 4 :: 100 :: 172 :: sxX12_kitchen_112 := aq_24 shX12_kitchen_73
theorem dX12_kitchen_52 : decode cX12_kitchen 52 = .ok (.iconst (-1), 1) := oc_2 52 (aq_3 shX12_kitchen_49)
theorem dX12_kitchen_53 : decode cX12_kitchen 53 = .ok (.ireturn, 1) := oc_172 53 (aq_4 shX12_kitchen_49)
noncomputable def sxX12_likelyOn_37 : List UInt8 := []
noncomputable def sxX12_likelyOn_26 : List UInt8 := 29 :: 167 :: 0 :: 9 :: 42 :: 180 :: 0 :: 19 :: 27 :: 46 :: 172 :: sxX12_likelyOn_37
theorem shX12_likelyOn_0 : cX12_likelyOn.data.toList.drop 0 = 42 :: 180 :: 0 :: 16 :: 27 :: 46 :: 28 :: 42 :: 180 :: 0 :: 22 :: 27 :: 46 :: 100 :: 104 :: 62 :: 29 :: 42 :: 180 :: 0 :: 19 :: 27 :: 46 :: 162 :: 0 :: 7 :: sxX12_likelyOn_26 := rfl
theorem shX12_likelyOn_26 : cX12_likelyOn.data.toList.drop 26 = 29 :: 167 :: 0 :: 9 :: 42 :: 180 :: 0 :: 19 :: 27 :: 46 :: 172 :: sxX12_likelyOn_37 := aq_26 shX12_likelyOn_0
noncomputable def sxX12_likely_35 : List UInt8 := []
noncomputable def sxX12_likely_24 : List UInt8 := 2 :: 167 :: 0 :: 9 :: 42 :: 27 :: 28 :: 182 :: 0 :: 222 :: 172 :: sxX12_likely_35
theorem shX12_likely_0 : cX12_likely.data.toList.drop 0 = 42 :: 27 :: 182 :: 0 :: 218 :: 153 :: 0 :: 19 :: 28 :: 42 :: 180 :: 0 :: 22 :: 27 :: 46 :: 17 :: 1 :: 143 :: 184 :: 0 :: 214 :: 154 :: 0 :: 7 :: sxX12_likely_24 := rfl
theorem shX12_likely_24 : cX12_likely.data.toList.drop 24 = 2 :: 167 :: 0 :: 9 :: 42 :: 27 :: 28 :: 182 :: 0 :: 222 :: 172 :: sxX12_likely_35 := aq_24 shX12_likely_0
noncomputable def sxX12_fetch_235 : List UInt8 := []
noncomputable def sxX12_fetch_224 : List UInt8 := 96 :: 181 :: 0 :: 208 :: 42 :: 180 :: 0 :: 208 :: 4 :: 100 :: 172 :: sxX12_fetch_235
noncomputable def sxX12_fetch_200 : List UInt8 := 42 :: 180 :: 0 :: 208 :: 42 :: 180 :: 0 :: 22 :: 27 :: 46 :: 79 :: 42 :: 180 :: 0 :: 22 :: 27 :: 28 :: 79 :: 42 :: 42 :: 180 :: 0 :: 208 :: 4 :: sxX12_fetch_224
noncomputable def sxX12_fetch_174 : List UInt8 := 21 :: 8 :: 158 :: 0 :: 8 :: 21 :: 8 :: 167 :: 0 :: 4 :: 3 :: 79 :: 42 :: 180 :: 0 :: 46 :: 42 :: 180 :: 0 :: 208 :: 2 :: 79 :: 42 :: 180 :: 0 :: 49 :: sxX12_fetch_200
noncomputable def sxX12_fetch_148 : List UInt8 := 42 :: 180 :: 0 :: 208 :: 21 :: 5 :: 79 :: 42 :: 180 :: 0 :: 40 :: 42 :: 180 :: 0 :: 208 :: 21 :: 6 :: 79 :: 42 :: 180 :: 0 :: 43 :: 42 :: 180 :: 0 :: 208 :: sxX12_fetch_174
noncomputable def sxX12_fetch_124 : List UInt8 := 180 :: 0 :: 31 :: 42 :: 180 :: 0 :: 208 :: 29 :: 79 :: 42 :: 180 :: 0 :: 34 :: 42 :: 180 :: 0 :: 208 :: 21 :: 4 :: 79 :: 42 :: 180 :: 0 :: 37 :: sxX12_fetch_148
noncomputable def sxX12_fetch_100 : List UInt8 := 100 :: 54 :: 8 :: 42 :: 180 :: 0 :: 25 :: 42 :: 180 :: 0 :: 208 :: 27 :: 79 :: 42 :: 180 :: 0 :: 28 :: 42 :: 180 :: 0 :: 208 :: 28 :: 79 :: 42 :: sxX12_fetch_124
noncomputable def sxX12_fetch_76 : List UInt8 := 16 :: 60 :: 160 :: 0 :: 5 :: 2 :: 172 :: 42 :: 27 :: 28 :: 182 :: 0 :: 222 :: 54 :: 7 :: 21 :: 7 :: 29 :: 100 :: 21 :: 7 :: 16 :: 10 :: 108 :: sxX12_fetch_100
noncomputable def sxX12_fetch_50 : List UInt8 := 3 :: 17 :: 3 :: 232 :: 184 :: 0 :: 214 :: 153 :: 0 :: 24 :: 21 :: 6 :: 28 :: 17 :: 1 :: 143 :: 184 :: 0 :: 214 :: 153 :: 0 :: 12 :: 42 :: 180 :: 0 :: 208 :: sxX12_fetch_76
noncomputable def sxX12_fetch_25 : List UInt8 := 29 :: 3 :: 17 :: 1 :: 144 :: 184 :: 0 :: 214 :: 153 :: 0 :: 48 :: 21 :: 4 :: 3 :: 17 :: 3 :: 232 :: 184 :: 0 :: 214 :: 153 :: 0 :: 36 :: 21 :: 5 :: sxX12_fetch_50
theorem shX12_fetch_0 : cX12_fetch.data.toList.drop 0 = 42 :: 27 :: 182 :: 0 :: 218 :: 153 :: 0 :: 76 :: 28 :: 42 :: 180 :: 0 :: 22 :: 27 :: 46 :: 42 :: 180 :: 0 :: 211 :: 184 :: 0 :: 214 :: 153 :: 0 :: 59 :: sxX12_fetch_25 := rfl
theorem shX12_fetch_25 : cX12_fetch.data.toList.drop 25 = 29 :: 3 :: 17 :: 1 :: 144 :: 184 :: 0 :: 214 :: 153 :: 0 :: 48 :: 21 :: 4 :: 3 :: 17 :: 3 :: 232 :: 184 :: 0 :: 214 :: 153 :: 0 :: 36 :: 21 :: 5 :: sxX12_fetch_50 := aq_25 shX12_fetch_0
theorem shX12_fetch_50 : cX12_fetch.data.toList.drop 50 = 3 :: 17 :: 3 :: 232 :: 184 :: 0 :: 214 :: 153 :: 0 :: 24 :: 21 :: 6 :: 28 :: 17 :: 1 :: 143 :: 184 :: 0 :: 214 :: 153 :: 0 :: 12 :: 42 :: 180 :: 0 :: 208 :: sxX12_fetch_76 := aq_25 shX12_fetch_25
theorem shX12_fetch_76 : cX12_fetch.data.toList.drop 76 = 16 :: 60 :: 160 :: 0 :: 5 :: 2 :: 172 :: 42 :: 27 :: 28 :: 182 :: 0 :: 222 :: 54 :: 7 :: 21 :: 7 :: 29 :: 100 :: 21 :: 7 :: 16 :: 10 :: 108 :: sxX12_fetch_100 := aq_26 shX12_fetch_50
theorem shX12_fetch_100 : cX12_fetch.data.toList.drop 100 = 100 :: 54 :: 8 :: 42 :: 180 :: 0 :: 25 :: 42 :: 180 :: 0 :: 208 :: 27 :: 79 :: 42 :: 180 :: 0 :: 28 :: 42 :: 180 :: 0 :: 208 :: 28 :: 79 :: 42 :: sxX12_fetch_124 := aq_24 shX12_fetch_76
theorem shX12_fetch_124 : cX12_fetch.data.toList.drop 124 = 180 :: 0 :: 31 :: 42 :: 180 :: 0 :: 208 :: 29 :: 79 :: 42 :: 180 :: 0 :: 34 :: 42 :: 180 :: 0 :: 208 :: 21 :: 4 :: 79 :: 42 :: 180 :: 0 :: 37 :: sxX12_fetch_148 := aq_24 shX12_fetch_100
theorem shX12_fetch_148 : cX12_fetch.data.toList.drop 148 = 42 :: 180 :: 0 :: 208 :: 21 :: 5 :: 79 :: 42 :: 180 :: 0 :: 40 :: 42 :: 180 :: 0 :: 208 :: 21 :: 6 :: 79 :: 42 :: 180 :: 0 :: 43 :: 42 :: 180 :: 0 :: 208 :: sxX12_fetch_174 := aq_24 shX12_fetch_124
theorem shX12_fetch_174 : cX12_fetch.data.toList.drop 174 = 21 :: 8 :: 158 :: 0 :: 8 :: 21 :: 8 :: 167 :: 0 :: 4 :: 3 :: 79 :: 42 :: 180 :: 0 :: 46 :: 42 :: 180 :: 0 :: 208 :: 2 :: 79 :: 42 :: 180 :: 0 :: 49 :: sxX12_fetch_200 := aq_26 shX12_fetch_148
theorem shX12_fetch_200 : cX12_fetch.data.toList.drop 200 = 42 :: 180 :: 0 :: 208 :: 42 :: 180 :: 0 :: 22 :: 27 :: 46 :: 79 :: 42 :: 180 :: 0 :: 22 :: 27 :: 28 :: 79 :: 42 :: 42 :: 180 :: 0 :: 208 :: 4 :: sxX12_fetch_224 := aq_26 shX12_fetch_174
theorem shX12_fetch_224 : cX12_fetch.data.toList.drop 224 = 96 :: 181 :: 0 :: 208 :: 42 :: 180 :: 0 :: 208 :: 4 :: 100 :: 172 :: sxX12_fetch_235 := aq_24 shX12_fetch_200
theorem dX12_fetch_81 : decode cX12_fetch 81 = .ok (.iconst (-1), 1) := oc_2 81 (aq_5 shX12_fetch_76)
theorem dX12_fetch_82 : decode cX12_fetch 82 = .ok (.ireturn, 1) := oc_172 82 (aq_6 shX12_fetch_76)
noncomputable def sxX12_types_39 : List UInt8 := []
noncomputable def sxX12_types_24 : List UInt8 := 180 :: 0 :: 226 :: 4 :: 96 :: 181 :: 0 :: 226 :: 132 :: 2 :: 255 :: 167 :: 255 :: 223 :: 177 :: sxX12_types_39
theorem shX12_types_0 : cX12_types.data.toList.drop 0 = 6 :: 61 :: 28 :: 155 :: 0 :: 35 :: 42 :: 180 :: 0 :: 52 :: 42 :: 180 :: 0 :: 226 :: 27 :: 16 :: 8 :: 28 :: 104 :: 122 :: 145 :: 84 :: 42 :: 42 :: sxX12_types_24 := rfl
theorem shX12_types_24 : cX12_types.data.toList.drop 24 = 180 :: 0 :: 226 :: 4 :: 96 :: 181 :: 0 :: 226 :: 132 :: 2 :: 255 :: 167 :: 255 :: 223 :: 177 :: sxX12_types_39 := aq_24 shX12_types_0
theorem dX12_types_2 : decode cX12_types 2 = .ok (.iload_n 2, 1) := oc_28 2 (aq_2 shX12_types_0)
theorem dX12_types_3 : decode cX12_types 3 = .ok (.ifCond .lt 35, 3) := oc_155 3 (aq_3 shX12_types_0) sgw_0_35
theorem dX12_types_6 : decode cX12_types 6 = .ok (.aload_n 0, 1) := oc_42 6 (aq_6 shX12_types_0)
theorem dX12_types_7 : decode cX12_types 7 = .ok (.getfield 52, 3) := oc_180 7 (aq_7 shX12_types_0) uw_0_52
theorem dX12_types_10 : decode cX12_types 10 = .ok (.aload_n 0, 1) := oc_42 10 (aq_10 shX12_types_0)
theorem dX12_types_11 : decode cX12_types 11 = .ok (.getfield 226, 3) := oc_180 11 (aq_11 shX12_types_0) uw_0_226
theorem dX12_types_14 : decode cX12_types 14 = .ok (.iload_n 1, 1) := oc_27 14 (aq_14 shX12_types_0)
theorem dX12_types_15 : decode cX12_types 15 = .ok (.bipush 8, 2) := oc_16 15 (aq_15 shX12_types_0) sgb_8
theorem dX12_types_17 : decode cX12_types 17 = .ok (.iload_n 2, 1) := oc_28 17 (aq_17 shX12_types_0)
theorem dX12_types_18 : decode cX12_types 18 = .ok (.imul, 1) := oc_104 18 (aq_18 shX12_types_0)
theorem dX12_types_19 : decode cX12_types 19 = .ok (.ishr, 1) := oc_122 19 (aq_19 shX12_types_0)
theorem dX12_types_20 : decode cX12_types 20 = .ok (.i2b, 1) := oc_145 20 (aq_20 shX12_types_0)
theorem dX12_types_21 : decode cX12_types 21 = .ok (.bastore, 1) := oc_84 21 (aq_21 shX12_types_0)
theorem dX12_types_22 : decode cX12_types 22 = .ok (.aload_n 0, 1) := oc_42 22 (aq_22 shX12_types_0)
theorem dX12_types_23 : decode cX12_types 23 = .ok (.aload_n 0, 1) := oc_42 23 (aq_23 shX12_types_0)
theorem dX12_types_24 : decode cX12_types 24 = .ok (.getfield 226, 3) := oc_180 24 shX12_types_24 uw_0_226
theorem dX12_types_27 : decode cX12_types 27 = .ok (.iconst 1, 1) := oc_4 27 (aq_3 shX12_types_24)
theorem dX12_types_28 : decode cX12_types 28 = .ok (.iadd, 1) := oc_96 28 (aq_4 shX12_types_24)
theorem dX12_types_29 : decode cX12_types 29 = .ok (.putfield 226, 3) := oc_181 29 (aq_5 shX12_types_24) uw_0_226
theorem dX12_types_32 : decode cX12_types 32 = .ok (.iinc 2 (-1), 3) := oc_132 32 (aq_8 shX12_types_24) ub_2 sgb_255
theorem dX12_types_35 : decode cX12_types 35 = .ok (.goto (-33), 3) := oc_167 35 (aq_11 shX12_types_24) sgw_255_223
noncomputable def sxX12_feed_47 : List UInt8 := []
noncomputable def sxX12_feed_25 : List UInt8 := 42 :: 29 :: 182 :: 0 :: 229 :: 42 :: 21 :: 4 :: 182 :: 0 :: 229 :: 42 :: 21 :: 5 :: 182 :: 0 :: 229 :: 42 :: 180 :: 0 :: 226 :: 172 :: sxX12_feed_47
theorem shX12_feed_0 : cX12_feed.data.toList.drop 0 = 42 :: 180 :: 0 :: 226 :: 16 :: 20 :: 96 :: 17 :: 0 :: 200 :: 164 :: 0 :: 5 :: 2 :: 172 :: 42 :: 27 :: 182 :: 0 :: 229 :: 42 :: 28 :: 182 :: 0 :: 229 :: sxX12_feed_25 := rfl
theorem shX12_feed_25 : cX12_feed.data.toList.drop 25 = 42 :: 29 :: 182 :: 0 :: 229 :: 42 :: 21 :: 4 :: 182 :: 0 :: 229 :: 42 :: 21 :: 5 :: 182 :: 0 :: 229 :: 42 :: 180 :: 0 :: 226 :: 172 :: sxX12_feed_47 := aq_25 shX12_feed_0
noncomputable def sxX12_here_29 : List UInt8 := []
noncomputable def sxX12_here_24 : List UInt8 := 167 :: 0 :: 4 :: 2 :: 172 :: sxX12_here_29
theorem shX12_here_0 : cX12_here.data.toList.drop 0 = 42 :: 180 :: 0 :: 233 :: 42 :: 180 :: 0 :: 236 :: 162 :: 0 :: 19 :: 42 :: 180 :: 0 :: 52 :: 42 :: 180 :: 0 :: 233 :: 51 :: 17 :: 0 :: 255 :: 126 :: sxX12_here_24 := rfl
theorem shX12_here_24 : cX12_here.data.toList.drop 24 = 167 :: 0 :: 4 :: 2 :: 172 :: sxX12_here_29 := aq_24 shX12_here_0
noncomputable def sxX12_isDigit_24 : List UInt8 := []
theorem shX12_isDigit_0 : cX12_isDigit.data.toList.drop 0 = 42 :: 182 :: 0 :: 239 :: 16 :: 48 :: 161 :: 0 :: 16 :: 42 :: 182 :: 0 :: 239 :: 16 :: 57 :: 163 :: 0 :: 7 :: 4 :: 167 :: 0 :: 4 :: 3 :: 172 :: sxX12_isDigit_24 := rfl
noncomputable def sxX12_wrong_13 : List UInt8 := []
theorem shX12_wrong_0 : cX12_wrong.data.toList.drop 0 = 42 :: 17 :: 252 :: 24 :: 27 :: 104 :: 28 :: 100 :: 181 :: 0 :: 243 :: 3 :: 172 :: sxX12_wrong_13 := rfl
noncomputable def sxX12_takes_30 : List UInt8 := []
noncomputable def sxX12_takes_24 : List UInt8 := 96 :: 181 :: 0 :: 233 :: 4 :: 172 :: sxX12_takes_30
theorem shX12_takes_0 : cX12_takes.data.toList.drop 0 = 42 :: 182 :: 0 :: 239 :: 27 :: 159 :: 0 :: 13 :: 42 :: 4 :: 42 :: 180 :: 0 :: 233 :: 182 :: 0 :: 246 :: 172 :: 42 :: 42 :: 180 :: 0 :: 233 :: 4 :: sxX12_takes_24 := rfl
theorem shX12_takes_24 : cX12_takes.data.toList.drop 24 = 96 :: 181 :: 0 :: 233 :: 4 :: 172 :: sxX12_takes_30 := aq_24 shX12_takes_0
noncomputable def sxX12_readsNumber_72 : List UInt8 := []
noncomputable def sxX12_readsNumber_50 : List UInt8 := 96 :: 16 :: 48 :: 100 :: 181 :: 0 :: 250 :: 42 :: 42 :: 180 :: 0 :: 233 :: 4 :: 96 :: 181 :: 0 :: 233 :: 167 :: 255 :: 199 :: 4 :: 172 :: sxX12_readsNumber_72
noncomputable def sxX12_readsNumber_24 : List UInt8 := 96 :: 160 :: 0 :: 13 :: 42 :: 5 :: 42 :: 180 :: 0 :: 233 :: 182 :: 0 :: 246 :: 172 :: 42 :: 16 :: 10 :: 42 :: 180 :: 0 :: 250 :: 104 :: 42 :: 182 :: 0 :: 239 :: sxX12_readsNumber_50
theorem shX12_readsNumber_0 : cX12_readsNumber.data.toList.drop 0 = 42 :: 180 :: 0 :: 233 :: 60 :: 42 :: 3 :: 181 :: 0 :: 250 :: 42 :: 182 :: 0 :: 253 :: 153 :: 0 :: 56 :: 42 :: 180 :: 0 :: 233 :: 27 :: 16 :: 6 :: sxX12_readsNumber_24 := rfl
theorem shX12_readsNumber_24 : cX12_readsNumber.data.toList.drop 24 = 96 :: 160 :: 0 :: 13 :: 42 :: 5 :: 42 :: 180 :: 0 :: 233 :: 182 :: 0 :: 246 :: 172 :: 42 :: 16 :: 10 :: 42 :: 180 :: 0 :: 250 :: 104 :: 42 :: 182 :: 0 :: 239 :: sxX12_readsNumber_50 := aq_24 shX12_readsNumber_0
theorem shX12_readsNumber_50 : cX12_readsNumber.data.toList.drop 50 = 96 :: 16 :: 48 :: 100 :: 181 :: 0 :: 250 :: 42 :: 42 :: 180 :: 0 :: 233 :: 4 :: 96 :: 181 :: 0 :: 233 :: 167 :: 255 :: 199 :: 4 :: 172 :: sxX12_readsNumber_72 := aq_26 shX12_readsNumber_24
theorem dX12_readsNumber_14 : decode cX12_readsNumber 14 = .ok (.ifCond .eq 56, 3) := oc_153 14 (aq_14 shX12_readsNumber_0) sgw_0_56
noncomputable def sxX12_says_27 : List UInt8 := []
noncomputable def sxX12_says_26 : List UInt8 := 177 :: sxX12_says_27
theorem shX12_says_0 : cX12_says.data.toList.drop 0 = 42 :: 180 :: 0 :: 56 :: 42 :: 180 :: 1 :: 1 :: 19 :: 1 :: 4 :: 27 :: 104 :: 28 :: 96 :: 79 :: 42 :: 42 :: 180 :: 1 :: 1 :: 4 :: 96 :: 181 :: 1 :: 1 :: sxX12_says_26 := rfl
theorem shX12_says_26 : cX12_says.data.toList.drop 26 = 177 :: sxX12_says_27 := aq_26 shX12_says_0
noncomputable def sxX12_opens_65 : List UInt8 := []
noncomputable def sxX12_opens_48 : List UInt8 := 4 :: 96 :: 181 :: 1 :: 8 :: 42 :: 42 :: 180 :: 0 :: 233 :: 4 :: 96 :: 181 :: 0 :: 233 :: 4 :: 172 :: sxX12_opens_65
noncomputable def sxX12_opens_24 : List UInt8 := 4 :: 96 :: 181 :: 1 :: 5 :: 42 :: 180 :: 0 :: 59 :: 42 :: 180 :: 1 :: 8 :: 19 :: 1 :: 4 :: 27 :: 104 :: 79 :: 42 :: 42 :: 180 :: 1 :: 8 :: sxX12_opens_48
theorem shX12_opens_0 : cX12_opens.data.toList.drop 0 = 42 :: 180 :: 1 :: 5 :: 16 :: 6 :: 160 :: 0 :: 13 :: 42 :: 8 :: 42 :: 180 :: 0 :: 233 :: 182 :: 0 :: 246 :: 172 :: 42 :: 42 :: 180 :: 1 :: 5 :: sxX12_opens_24 := rfl
theorem shX12_opens_24 : cX12_opens.data.toList.drop 24 = 4 :: 96 :: 181 :: 1 :: 5 :: 42 :: 180 :: 0 :: 59 :: 42 :: 180 :: 1 :: 8 :: 19 :: 1 :: 4 :: 27 :: 104 :: 79 :: 42 :: 42 :: 180 :: 1 :: 8 :: sxX12_opens_48 := aq_24 shX12_opens_0
theorem shX12_opens_48 : cX12_opens.data.toList.drop 48 = 4 :: 96 :: 181 :: 1 :: 8 :: 42 :: 42 :: 180 :: 0 :: 233 :: 4 :: 96 :: 181 :: 0 :: 233 :: 4 :: 172 :: sxX12_opens_65 := aq_24 shX12_opens_24
noncomputable def sxX12_top_27 : List UInt8 := []
noncomputable def sxX12_top_25 : List UInt8 := 108 :: 172 :: sxX12_top_27
theorem shX12_top_0 : cX12_top.data.toList.drop 0 = 42 :: 180 :: 1 :: 8 :: 154 :: 0 :: 7 :: 2 :: 167 :: 0 :: 18 :: 42 :: 180 :: 0 :: 59 :: 42 :: 180 :: 1 :: 8 :: 4 :: 100 :: 46 :: 19 :: 1 :: 4 :: sxX12_top_25 := rfl
theorem shX12_top_25 : cX12_top.data.toList.drop 25 = 108 :: 172 :: sxX12_top_27 := aq_25 shX12_top_0
noncomputable def sxX12_factOf_137 : List UInt8 := []
noncomputable def sxX12_factOf_132 : List UInt8 := 16 :: 10 :: 172 :: 2 :: 172 :: sxX12_factOf_137
noncomputable def sxX12_factOf_108 : List UInt8 := 3 :: 172 :: 4 :: 172 :: 5 :: 172 :: 6 :: 172 :: 7 :: 172 :: 8 :: 172 :: 16 :: 6 :: 172 :: 16 :: 7 :: 172 :: 16 :: 8 :: 172 :: 16 :: 9 :: 172 :: sxX12_factOf_132
theorem shX12_factOf_0 : cX12_factOf.data.toList.drop 0 = 26 :: 170 :: 0 :: 0 :: 0 :: 0 :: 0 :: 134 :: 0 :: 0 :: 0 :: 97 :: 0 :: 0 :: 0 :: 119 :: 0 :: 0 :: 0 :: 111 :: 0 :: 0 :: 0 :: 134 :: 0 :: 0 :: 0 :: 134 :: 0 :: 0 :: 0 :: 113 :: 0 :: 0 :: 0 :: 134 :: 0 :: 0 :: 0 :: 109 :: 0 :: 0 :: 0 :: 117 :: 0 :: 0 :: 0 :: 134 :: 0 :: 0 :: 0 :: 134 :: 0 :: 0 :: 0 :: 134 :: 0 :: 0 :: 0 :: 119 :: 0 :: 0 :: 0 :: 134 :: 0 :: 0 :: 0 :: 122 :: 0 :: 0 :: 0 :: 131 :: 0 :: 0 :: 0 :: 128 :: 0 :: 0 :: 0 :: 134 :: 0 :: 0 :: 0 :: 107 :: 0 :: 0 :: 0 :: 134 :: 0 :: 0 :: 0 :: 125 :: 0 :: 0 :: 0 :: 134 :: 0 :: 0 :: 0 :: 134 :: 0 :: 0 :: 0 :: 134 :: 0 :: 0 :: 0 :: 115 :: sxX12_factOf_108 := rfl
theorem shX12_factOf_108 : cX12_factOf.data.toList.drop 108 = 3 :: 172 :: 4 :: 172 :: 5 :: 172 :: 6 :: 172 :: 7 :: 172 :: 8 :: 172 :: 16 :: 6 :: 172 :: 16 :: 7 :: 172 :: 16 :: 8 :: 172 :: 16 :: 9 :: 172 :: sxX12_factOf_132 := dSn 108 shX12_factOf_0
theorem shX12_factOf_132 : cX12_factOf.data.toList.drop 132 = 16 :: 10 :: 172 :: 2 :: 172 :: sxX12_factOf_137 := aq_24 shX12_factOf_108
theorem dX12_factOf_1 : decode cX12_factOf 1 = .ok (.tableswitch 134 97 119 #[111, 134, 134, 113, 134, 109, 117, 134, 134, 134, 119, 134, 122, 131, 128, 134, 107, 134, 125, 134, 134, 134, 115], 107) := by decide +kernel
theorem dX12_factOf_135 : decode cX12_factOf 135 = .ok (.iconst (-1), 1) := oc_2 135 (aq_3 shX12_factOf_132)
theorem dX12_factOf_136 : decode cX12_factOf 136 = .ok (.ireturn, 1) := oc_172 136 (aq_4 shX12_factOf_132)
noncomputable def sxX12_sumSign_53 : List UInt8 := []
noncomputable def sxX12_sumSign_51 : List UInt8 := 2 :: 172 :: sxX12_sumSign_53
noncomputable def sxX12_sumSign_26 : List UInt8 := 7 :: 167 :: 0 :: 25 :: 26 :: 16 :: 47 :: 160 :: 0 :: 7 :: 8 :: 167 :: 0 :: 15 :: 26 :: 16 :: 37 :: 160 :: 0 :: 8 :: 16 :: 6 :: 167 :: 0 :: 4 :: sxX12_sumSign_51
theorem shX12_sumSign_0 : cX12_sumSign.data.toList.drop 0 = 26 :: 16 :: 43 :: 160 :: 0 :: 7 :: 5 :: 167 :: 0 :: 45 :: 26 :: 16 :: 45 :: 160 :: 0 :: 7 :: 6 :: 167 :: 0 :: 35 :: 26 :: 16 :: 42 :: 160 :: 0 :: 7 :: sxX12_sumSign_26 := rfl
theorem shX12_sumSign_26 : cX12_sumSign.data.toList.drop 26 = 7 :: 167 :: 0 :: 25 :: 26 :: 16 :: 47 :: 160 :: 0 :: 7 :: 8 :: 167 :: 0 :: 15 :: 26 :: 16 :: 37 :: 160 :: 0 :: 8 :: 16 :: 6 :: 167 :: 0 :: 4 :: sxX12_sumSign_51 := aq_26 shX12_sumSign_0
theorem shX12_sumSign_51 : cX12_sumSign.data.toList.drop 51 = 2 :: 172 :: sxX12_sumSign_53 := aq_25 shX12_sumSign_26
theorem dX12_sumSign_52 : decode cX12_sumSign 52 = .ok (.ireturn, 1) := oc_172 52 (aq_1 shX12_sumSign_51)
noncomputable def sxX12_closesSums_60 : List UInt8 := []
noncomputable def sxX12_closesSums_51 : List UInt8 := 4 :: 100 :: 181 :: 1 :: 8 :: 167 :: 255 :: 200 :: 177 :: sxX12_closesSums_60
noncomputable def sxX12_closesSums_25 : List UInt8 := 5 :: 159 :: 0 :: 11 :: 42 :: 182 :: 1 :: 11 :: 6 :: 160 :: 0 :: 25 :: 42 :: 42 :: 182 :: 1 :: 11 :: 3 :: 182 :: 1 :: 14 :: 42 :: 42 :: 180 :: 1 :: 8 :: sxX12_closesSums_51
theorem shX12_closesSums_0 : cX12_closesSums.data.toList.drop 0 = 42 :: 182 :: 1 :: 11 :: 7 :: 161 :: 0 :: 12 :: 42 :: 182 :: 1 :: 11 :: 16 :: 6 :: 164 :: 0 :: 23 :: 27 :: 153 :: 0 :: 41 :: 42 :: 182 :: 1 :: 11 :: sxX12_closesSums_25 := rfl
theorem shX12_closesSums_25 : cX12_closesSums.data.toList.drop 25 = 5 :: 159 :: 0 :: 11 :: 42 :: 182 :: 1 :: 11 :: 6 :: 160 :: 0 :: 25 :: 42 :: 42 :: 182 :: 1 :: 11 :: 3 :: 182 :: 1 :: 14 :: 42 :: 42 :: 180 :: 1 :: 8 :: sxX12_closesSums_51 := aq_25 shX12_closesSums_0
theorem shX12_closesSums_51 : cX12_closesSums.data.toList.drop 51 = 4 :: 100 :: 181 :: 1 :: 8 :: 167 :: 255 :: 200 :: 177 :: sxX12_closesSums_60 := aq_26 shX12_closesSums_25
theorem dX12_closesSums_17 : decode cX12_closesSums 17 = .ok (.iload_n 1, 1) := oc_27 17 (aq_17 shX12_closesSums_0)
theorem dX12_closesSums_18 : decode cX12_closesSums 18 = .ok (.ifCond .eq 41, 3) := oc_153 18 (aq_18 shX12_closesSums_0) sgw_0_41
theorem dX12_closesSums_21 : decode cX12_closesSums 21 = .ok (.aload_n 0, 1) := oc_42 21 (aq_21 shX12_closesSums_0)
theorem dX12_closesSums_22 : decode cX12_closesSums 22 = .ok (.invokevirtual 267, 3) := oc_182 22 (aq_22 shX12_closesSums_0) uw_1_11
theorem dX12_closesSums_25 : decode cX12_closesSums 25 = .ok (.iconst 2, 1) := oc_5 25 shX12_closesSums_25
theorem dX12_closesSums_26 : decode cX12_closesSums 26 = .ok (.if_icmp .eq 11, 3) := oc_159 26 (aq_1 shX12_closesSums_25) sgw_0_11
theorem dX12_closesSums_29 : decode cX12_closesSums 29 = .ok (.aload_n 0, 1) := oc_42 29 (aq_4 shX12_closesSums_25)
theorem dX12_closesSums_30 : decode cX12_closesSums 30 = .ok (.invokevirtual 267, 3) := oc_182 30 (aq_5 shX12_closesSums_25) uw_1_11
theorem dX12_closesSums_33 : decode cX12_closesSums 33 = .ok (.iconst 3, 1) := oc_6 33 (aq_8 shX12_closesSums_25)
theorem dX12_closesSums_34 : decode cX12_closesSums 34 = .ok (.if_icmp .ne 25, 3) := oc_160 34 (aq_9 shX12_closesSums_25) sgw_0_25
theorem dX12_closesSums_37 : decode cX12_closesSums 37 = .ok (.aload_n 0, 1) := oc_42 37 (aq_12 shX12_closesSums_25)
theorem dX12_closesSums_38 : decode cX12_closesSums 38 = .ok (.aload_n 0, 1) := oc_42 38 (aq_13 shX12_closesSums_25)
theorem dX12_closesSums_39 : decode cX12_closesSums 39 = .ok (.invokevirtual 267, 3) := oc_182 39 (aq_14 shX12_closesSums_25) uw_1_11
theorem dX12_closesSums_42 : decode cX12_closesSums 42 = .ok (.iconst 0, 1) := oc_3 42 (aq_17 shX12_closesSums_25)
theorem dX12_closesSums_43 : decode cX12_closesSums 43 = .ok (.invokevirtual 270, 3) := oc_182 43 (aq_18 shX12_closesSums_25) uw_1_14
theorem dX12_closesSums_46 : decode cX12_closesSums 46 = .ok (.aload_n 0, 1) := oc_42 46 (aq_21 shX12_closesSums_25)
theorem dX12_closesSums_47 : decode cX12_closesSums 47 = .ok (.aload_n 0, 1) := oc_42 47 (aq_22 shX12_closesSums_25)
theorem dX12_closesSums_48 : decode cX12_closesSums 48 = .ok (.getfield 264, 3) := oc_180 48 (aq_23 shX12_closesSums_25) uw_1_8
theorem dX12_closesSums_51 : decode cX12_closesSums 51 = .ok (.iconst 1, 1) := oc_4 51 shX12_closesSums_51
theorem dX12_closesSums_52 : decode cX12_closesSums 52 = .ok (.isub, 1) := oc_100 52 (aq_1 shX12_closesSums_51)
theorem dX12_closesSums_53 : decode cX12_closesSums 53 = .ok (.putfield 264, 3) := oc_181 53 (aq_2 shX12_closesSums_51) uw_1_8
theorem dX12_closesSums_56 : decode cX12_closesSums 56 = .ok (.goto (-56), 3) := oc_167 56 (aq_5 shX12_closesSums_51) sgw_255_200
theorem dX12_closesSums_59 : decode cX12_closesSums 59 = .ok (.return_, 1) := oc_177 59 (aq_8 shX12_closesSums_51)
noncomputable def sxX12_readsFactor_88 : List UInt8 := []
noncomputable def sxX12_readsFactor_72 : List UInt8 := 27 :: 182 :: 1 :: 14 :: 42 :: 42 :: 180 :: 0 :: 233 :: 4 :: 96 :: 181 :: 0 :: 233 :: 4 :: 172 :: sxX12_readsFactor_88
noncomputable def sxX12_readsFactor_48 : List UInt8 := 182 :: 0 :: 239 :: 184 :: 1 :: 24 :: 60 :: 27 :: 2 :: 160 :: 0 :: 13 :: 42 :: 4 :: 42 :: 180 :: 0 :: 233 :: 182 :: 0 :: 246 :: 172 :: 42 :: 4 :: sxX12_readsFactor_72
noncomputable def sxX12_readsFactor_24 : List UInt8 := 153 :: 0 :: 23 :: 42 :: 182 :: 1 :: 21 :: 154 :: 0 :: 5 :: 3 :: 172 :: 42 :: 3 :: 42 :: 180 :: 0 :: 250 :: 182 :: 1 :: 14 :: 4 :: 172 :: 42 :: sxX12_readsFactor_48
theorem shX12_readsFactor_0 : cX12_readsFactor.data.toList.drop 0 = 42 :: 182 :: 0 :: 239 :: 16 :: 91 :: 160 :: 0 :: 14 :: 42 :: 16 :: 14 :: 182 :: 1 :: 18 :: 154 :: 255 :: 241 :: 3 :: 172 :: 42 :: 182 :: 0 :: 253 :: sxX12_readsFactor_24 := rfl
theorem shX12_readsFactor_24 : cX12_readsFactor.data.toList.drop 24 = 153 :: 0 :: 23 :: 42 :: 182 :: 1 :: 21 :: 154 :: 0 :: 5 :: 3 :: 172 :: 42 :: 3 :: 42 :: 180 :: 0 :: 250 :: 182 :: 1 :: 14 :: 4 :: 172 :: 42 :: sxX12_readsFactor_48 := aq_24 shX12_readsFactor_0
theorem shX12_readsFactor_48 : cX12_readsFactor.data.toList.drop 48 = 182 :: 0 :: 239 :: 184 :: 1 :: 24 :: 60 :: 27 :: 2 :: 160 :: 0 :: 13 :: 42 :: 4 :: 42 :: 180 :: 0 :: 233 :: 182 :: 0 :: 246 :: 172 :: 42 :: 4 :: sxX12_readsFactor_72 := aq_24 shX12_readsFactor_24
theorem shX12_readsFactor_72 : cX12_readsFactor.data.toList.drop 72 = 27 :: 182 :: 1 :: 14 :: 42 :: 42 :: 180 :: 0 :: 233 :: 4 :: 96 :: 181 :: 0 :: 233 :: 4 :: 172 :: sxX12_readsFactor_88 := aq_24 shX12_readsFactor_48
theorem dX12_readsFactor_15 : decode cX12_readsFactor 15 = .ok (.ifCond .ne (-15), 3) := oc_154 15 (aq_15 shX12_readsFactor_0) sgw_255_241
theorem dX12_readsFactor_24 : decode cX12_readsFactor 24 = .ok (.ifCond .eq 23, 3) := oc_153 24 shX12_readsFactor_24 sgw_0_23
theorem dX12_readsFactor_31 : decode cX12_readsFactor 31 = .ok (.ifCond .ne 5, 3) := oc_154 31 (aq_7 shX12_readsFactor_24) sgw_0_5
theorem dX12_readsFactor_54 : decode cX12_readsFactor 54 = .ok (.istore_n 1, 1) := oc_60 54 (aq_6 shX12_readsFactor_48)
theorem dX12_readsFactor_55 : decode cX12_readsFactor 55 = .ok (.iload_n 1, 1) := oc_27 55 (aq_7 shX12_readsFactor_48)
theorem dX12_readsFactor_56 : decode cX12_readsFactor 56 = .ok (.iconst (-1), 1) := oc_2 56 (aq_8 shX12_readsFactor_48)
theorem dX12_readsFactor_57 : decode cX12_readsFactor 57 = .ok (.if_icmp .ne 13, 3) := oc_160 57 (aq_9 shX12_readsFactor_48) sgw_0_13
noncomputable def sxX12_hasOpenSum_35 : List UInt8 := []
noncomputable def sxX12_hasOpenSum_25 : List UInt8 := 4 :: 172 :: 132 :: 2 :: 1 :: 167 :: 255 :: 228 :: 3 :: 172 :: sxX12_hasOpenSum_35
theorem shX12_hasOpenSum_0 : cX12_hasOpenSum.data.toList.drop 0 = 27 :: 61 :: 28 :: 42 :: 180 :: 1 :: 8 :: 162 :: 0 :: 26 :: 42 :: 180 :: 0 :: 59 :: 28 :: 46 :: 19 :: 1 :: 4 :: 108 :: 16 :: 14 :: 160 :: 0 :: 5 :: sxX12_hasOpenSum_25 := rfl
theorem shX12_hasOpenSum_25 : cX12_hasOpenSum.data.toList.drop 25 = 4 :: 172 :: 132 :: 2 :: 1 :: 167 :: 255 :: 228 :: 3 :: 172 :: sxX12_hasOpenSum_35 := aq_25 shX12_hasOpenSum_0
noncomputable def sxX12_readsSum_167 : List UInt8 := []
noncomputable def sxX12_readsSum_150 : List UInt8 := 180 :: 0 :: 233 :: 182 :: 0 :: 246 :: 172 :: 42 :: 4 :: 182 :: 1 :: 34 :: 4 :: 172 :: 167 :: 255 :: 106 :: sxX12_readsSum_167
noncomputable def sxX12_readsSum_126 : List UInt8 := 42 :: 42 :: 180 :: 0 :: 233 :: 4 :: 96 :: 181 :: 0 :: 233 :: 167 :: 0 :: 28 :: 42 :: 27 :: 182 :: 1 :: 38 :: 153 :: 0 :: 13 :: 42 :: 4 :: 42 :: sxX12_readsSum_150
noncomputable def sxX12_readsSum_101 : List UInt8 := 42 :: 4 :: 182 :: 1 :: 34 :: 42 :: 42 :: 180 :: 1 :: 8 :: 4 :: 100 :: 181 :: 1 :: 8 :: 42 :: 42 :: 180 :: 1 :: 5 :: 4 :: 100 :: 181 :: 1 :: 5 :: sxX12_readsSum_126
noncomputable def sxX12_readsSum_75 : List UInt8 := 42 :: 182 :: 1 :: 28 :: 154 :: 0 :: 85 :: 3 :: 172 :: 42 :: 182 :: 0 :: 239 :: 16 :: 93 :: 160 :: 0 :: 49 :: 42 :: 27 :: 182 :: 1 :: 38 :: 153 :: 0 :: 41 :: sxX12_readsSum_101
noncomputable def sxX12_readsSum_49 : List UInt8 := 19 :: 1 :: 4 :: 28 :: 104 :: 79 :: 42 :: 42 :: 180 :: 1 :: 8 :: 4 :: 96 :: 181 :: 1 :: 8 :: 42 :: 42 :: 180 :: 0 :: 233 :: 4 :: 96 :: 181 :: 0 :: 233 :: sxX12_readsSum_75
noncomputable def sxX12_readsSum_24 : List UInt8 := 159 :: 0 :: 60 :: 42 :: 28 :: 7 :: 162 :: 0 :: 7 :: 4 :: 167 :: 0 :: 4 :: 3 :: 182 :: 1 :: 34 :: 42 :: 180 :: 0 :: 59 :: 42 :: 180 :: 1 :: 8 :: sxX12_readsSum_49
theorem shX12_readsSum_0 : cX12_readsSum.data.toList.drop 0 = 42 :: 180 :: 1 :: 8 :: 60 :: 42 :: 182 :: 1 :: 28 :: 154 :: 0 :: 5 :: 3 :: 172 :: 42 :: 182 :: 0 :: 239 :: 184 :: 1 :: 31 :: 61 :: 28 :: 2 :: sxX12_readsSum_24 := rfl
theorem shX12_readsSum_24 : cX12_readsSum.data.toList.drop 24 = 159 :: 0 :: 60 :: 42 :: 28 :: 7 :: 162 :: 0 :: 7 :: 4 :: 167 :: 0 :: 4 :: 3 :: 182 :: 1 :: 34 :: 42 :: 180 :: 0 :: 59 :: 42 :: 180 :: 1 :: 8 :: sxX12_readsSum_49 := aq_24 shX12_readsSum_0
theorem shX12_readsSum_49 : cX12_readsSum.data.toList.drop 49 = 19 :: 1 :: 4 :: 28 :: 104 :: 79 :: 42 :: 42 :: 180 :: 1 :: 8 :: 4 :: 96 :: 181 :: 1 :: 8 :: 42 :: 42 :: 180 :: 0 :: 233 :: 4 :: 96 :: 181 :: 0 :: 233 :: sxX12_readsSum_75 := aq_25 shX12_readsSum_24
theorem shX12_readsSum_75 : cX12_readsSum.data.toList.drop 75 = 42 :: 182 :: 1 :: 28 :: 154 :: 0 :: 85 :: 3 :: 172 :: 42 :: 182 :: 0 :: 239 :: 16 :: 93 :: 160 :: 0 :: 49 :: 42 :: 27 :: 182 :: 1 :: 38 :: 153 :: 0 :: 41 :: sxX12_readsSum_101 := aq_26 shX12_readsSum_49
theorem shX12_readsSum_101 : cX12_readsSum.data.toList.drop 101 = 42 :: 4 :: 182 :: 1 :: 34 :: 42 :: 42 :: 180 :: 1 :: 8 :: 4 :: 100 :: 181 :: 1 :: 8 :: 42 :: 42 :: 180 :: 1 :: 5 :: 4 :: 100 :: 181 :: 1 :: 5 :: sxX12_readsSum_126 := aq_26 shX12_readsSum_75
theorem shX12_readsSum_126 : cX12_readsSum.data.toList.drop 126 = 42 :: 42 :: 180 :: 0 :: 233 :: 4 :: 96 :: 181 :: 0 :: 233 :: 167 :: 0 :: 28 :: 42 :: 27 :: 182 :: 1 :: 38 :: 153 :: 0 :: 13 :: 42 :: 4 :: 42 :: sxX12_readsSum_150 := aq_25 shX12_readsSum_101
theorem shX12_readsSum_150 : cX12_readsSum.data.toList.drop 150 = 180 :: 0 :: 233 :: 182 :: 0 :: 246 :: 172 :: 42 :: 4 :: 182 :: 1 :: 34 :: 4 :: 172 :: 167 :: 255 :: 106 :: sxX12_readsSum_167 := aq_24 shX12_readsSum_126
theorem dX12_readsSum_9 : decode cX12_readsSum 9 = .ok (.ifCond .ne 5, 3) := oc_154 9 (aq_9 shX12_readsSum_0) sgw_0_5
theorem dX12_readsSum_21 : decode cX12_readsSum 21 = .ok (.istore_n 2, 1) := oc_61 21 (aq_21 shX12_readsSum_0)
theorem dX12_readsSum_22 : decode cX12_readsSum 22 = .ok (.iload_n 2, 1) := oc_28 22 (aq_22 shX12_readsSum_0)
theorem dX12_readsSum_23 : decode cX12_readsSum 23 = .ok (.iconst (-1), 1) := oc_2 23 (aq_23 shX12_readsSum_0)
theorem dX12_readsSum_24 : decode cX12_readsSum 24 = .ok (.if_icmp .eq 60, 3) := oc_159 24 shX12_readsSum_24 sgw_0_60
theorem dX12_readsSum_38 : decode cX12_readsSum 38 = .ok (.invokevirtual 290, 3) := oc_182 38 (aq_14 shX12_readsSum_24) uw_1_34
theorem dX12_readsSum_41 : decode cX12_readsSum 41 = .ok (.aload_n 0, 1) := oc_42 41 (aq_17 shX12_readsSum_24)
theorem dX12_readsSum_42 : decode cX12_readsSum 42 = .ok (.getfield 59, 3) := oc_180 42 (aq_18 shX12_readsSum_24) uw_0_59
theorem dX12_readsSum_45 : decode cX12_readsSum 45 = .ok (.aload_n 0, 1) := oc_42 45 (aq_21 shX12_readsSum_24)
theorem dX12_readsSum_46 : decode cX12_readsSum 46 = .ok (.getfield 264, 3) := oc_180 46 (aq_22 shX12_readsSum_24) uw_1_8
theorem dX12_readsSum_49 : decode cX12_readsSum 49 = .ok (.ldc_w 260, 3) := oc_19 49 shX12_readsSum_49 uw_1_4
theorem dX12_readsSum_52 : decode cX12_readsSum 52 = .ok (.iload_n 2, 1) := oc_28 52 (aq_3 shX12_readsSum_49)
theorem dX12_readsSum_53 : decode cX12_readsSum 53 = .ok (.imul, 1) := oc_104 53 (aq_4 shX12_readsSum_49)
theorem dX12_readsSum_54 : decode cX12_readsSum 54 = .ok (.iastore, 1) := oc_79 54 (aq_5 shX12_readsSum_49)
theorem dX12_readsSum_55 : decode cX12_readsSum 55 = .ok (.aload_n 0, 1) := oc_42 55 (aq_6 shX12_readsSum_49)
theorem dX12_readsSum_56 : decode cX12_readsSum 56 = .ok (.aload_n 0, 1) := oc_42 56 (aq_7 shX12_readsSum_49)
theorem dX12_readsSum_57 : decode cX12_readsSum 57 = .ok (.getfield 264, 3) := oc_180 57 (aq_8 shX12_readsSum_49) uw_1_8
theorem dX12_readsSum_60 : decode cX12_readsSum 60 = .ok (.iconst 1, 1) := oc_4 60 (aq_11 shX12_readsSum_49)
theorem dX12_readsSum_61 : decode cX12_readsSum 61 = .ok (.iadd, 1) := oc_96 61 (aq_12 shX12_readsSum_49)
theorem dX12_readsSum_62 : decode cX12_readsSum 62 = .ok (.putfield 264, 3) := oc_181 62 (aq_13 shX12_readsSum_49) uw_1_8
theorem dX12_readsSum_65 : decode cX12_readsSum 65 = .ok (.aload_n 0, 1) := oc_42 65 (aq_16 shX12_readsSum_49)
theorem dX12_readsSum_66 : decode cX12_readsSum 66 = .ok (.aload_n 0, 1) := oc_42 66 (aq_17 shX12_readsSum_49)
theorem dX12_readsSum_67 : decode cX12_readsSum 67 = .ok (.getfield 233, 3) := oc_180 67 (aq_18 shX12_readsSum_49) uw_0_233
theorem dX12_readsSum_70 : decode cX12_readsSum 70 = .ok (.iconst 1, 1) := oc_4 70 (aq_21 shX12_readsSum_49)
theorem dX12_readsSum_71 : decode cX12_readsSum 71 = .ok (.iadd, 1) := oc_96 71 (aq_22 shX12_readsSum_49)
theorem dX12_readsSum_72 : decode cX12_readsSum 72 = .ok (.putfield 233, 3) := oc_181 72 (aq_23 shX12_readsSum_49) uw_0_233
theorem dX12_readsSum_75 : decode cX12_readsSum 75 = .ok (.aload_n 0, 1) := oc_42 75 shX12_readsSum_75
theorem dX12_readsSum_76 : decode cX12_readsSum 76 = .ok (.invokevirtual 284, 3) := oc_182 76 (aq_1 shX12_readsSum_75) uw_1_28
theorem dX12_readsSum_79 : decode cX12_readsSum 79 = .ok (.ifCond .ne 85, 3) := oc_154 79 (aq_4 shX12_readsSum_75) sgw_0_85
theorem dX12_readsSum_82 : decode cX12_readsSum 82 = .ok (.iconst 0, 1) := oc_3 82 (aq_7 shX12_readsSum_75)
theorem dX12_readsSum_83 : decode cX12_readsSum 83 = .ok (.ireturn, 1) := oc_172 83 (aq_8 shX12_readsSum_75)
theorem dX12_readsSum_98 : decode cX12_readsSum 98 = .ok (.ifCond .eq 41, 3) := oc_153 98 (aq_23 shX12_readsSum_75) sgw_0_41
theorem dX12_readsSum_139 : decode cX12_readsSum 139 = .ok (.aload_n 0, 1) := oc_42 139 (aq_13 shX12_readsSum_126)
theorem dX12_readsSum_140 : decode cX12_readsSum 140 = .ok (.iload_n 1, 1) := oc_27 140 (aq_14 shX12_readsSum_126)
theorem dX12_readsSum_141 : decode cX12_readsSum 141 = .ok (.invokevirtual 294, 3) := oc_182 141 (aq_15 shX12_readsSum_126) uw_1_38
theorem dX12_readsSum_144 : decode cX12_readsSum 144 = .ok (.ifCond .eq 13, 3) := oc_153 144 (aq_18 shX12_readsSum_126) sgw_0_13
theorem dX12_readsSum_147 : decode cX12_readsSum 147 = .ok (.aload_n 0, 1) := oc_42 147 (aq_21 shX12_readsSum_126)
theorem dX12_readsSum_148 : decode cX12_readsSum 148 = .ok (.iconst 1, 1) := oc_4 148 (aq_22 shX12_readsSum_126)
theorem dX12_readsSum_149 : decode cX12_readsSum 149 = .ok (.aload_n 0, 1) := oc_42 149 (aq_23 shX12_readsSum_126)
theorem dX12_readsSum_150 : decode cX12_readsSum 150 = .ok (.getfield 233, 3) := oc_180 150 shX12_readsSum_150 uw_0_233
theorem dX12_readsSum_153 : decode cX12_readsSum 153 = .ok (.invokevirtual 246, 3) := oc_182 153 (aq_3 shX12_readsSum_150) uw_0_246
theorem dX12_readsSum_156 : decode cX12_readsSum 156 = .ok (.ireturn, 1) := oc_172 156 (aq_6 shX12_readsSum_150)
theorem dX12_readsSum_157 : decode cX12_readsSum 157 = .ok (.aload_n 0, 1) := oc_42 157 (aq_7 shX12_readsSum_150)
theorem dX12_readsSum_158 : decode cX12_readsSum 158 = .ok (.iconst 1, 1) := oc_4 158 (aq_8 shX12_readsSum_150)
theorem dX12_readsSum_159 : decode cX12_readsSum 159 = .ok (.invokevirtual 290, 3) := oc_182 159 (aq_9 shX12_readsSum_150) uw_1_34
theorem dX12_readsSum_162 : decode cX12_readsSum 162 = .ok (.iconst 1, 1) := oc_4 162 (aq_12 shX12_readsSum_150)
theorem dX12_readsSum_163 : decode cX12_readsSum 163 = .ok (.ireturn, 1) := oc_172 163 (aq_13 shX12_readsSum_150)
theorem dX12_readsSum_164 : decode cX12_readsSum 164 = .ok (.goto (-150), 3) := oc_167 164 (aq_14 shX12_readsSum_150) sgw_255_106
noncomputable def sxX12_endsPiece_40 : List UInt8 := []
noncomputable def sxX12_endsPiece_26 : List UInt8 := 42 :: 42 :: 180 :: 1 :: 5 :: 4 :: 100 :: 181 :: 1 :: 5 :: 167 :: 255 :: 220 :: 177 :: sxX12_endsPiece_40
theorem shX12_endsPiece_0 : cX12_endsPiece.data.toList.drop 0 = 42 :: 182 :: 1 :: 11 :: 16 :: 10 :: 160 :: 0 :: 33 :: 42 :: 16 :: 10 :: 3 :: 182 :: 1 :: 14 :: 42 :: 42 :: 180 :: 1 :: 8 :: 4 :: 100 :: 181 :: 1 :: 8 :: sxX12_endsPiece_26 := rfl
theorem shX12_endsPiece_26 : cX12_endsPiece.data.toList.drop 26 = 42 :: 42 :: 180 :: 1 :: 5 :: 4 :: 100 :: 181 :: 1 :: 5 :: 167 :: 255 :: 220 :: 177 :: sxX12_endsPiece_40 := aq_26 shX12_endsPiece_0
noncomputable def sxX12_lands_77 : List UInt8 := []
noncomputable def sxX12_lands_76 : List UInt8 := 177 :: sxX12_lands_77
noncomputable def sxX12_lands_50 : List UInt8 := 28 :: 46 :: 19 :: 1 :: 4 :: 108 :: 104 :: 42 :: 180 :: 1 :: 1 :: 96 :: 79 :: 42 :: 42 :: 180 :: 1 :: 8 :: 4 :: 100 :: 181 :: 1 :: 8 :: 167 :: 255 :: 183 :: sxX12_lands_76
noncomputable def sxX12_lands_26 : List UInt8 := 42 :: 180 :: 1 :: 8 :: 4 :: 100 :: 46 :: 19 :: 1 :: 4 :: 112 :: 61 :: 42 :: 180 :: 0 :: 56 :: 28 :: 19 :: 1 :: 4 :: 42 :: 180 :: 0 :: 56 :: sxX12_lands_50
theorem shX12_lands_0 : cX12_lands.data.toList.drop 0 = 42 :: 182 :: 1 :: 11 :: 16 :: 11 :: 159 :: 0 :: 16 :: 27 :: 153 :: 0 :: 66 :: 42 :: 182 :: 1 :: 11 :: 16 :: 12 :: 160 :: 0 :: 57 :: 42 :: 180 :: 0 :: 59 :: sxX12_lands_26 := rfl
theorem shX12_lands_26 : cX12_lands.data.toList.drop 26 = 42 :: 180 :: 1 :: 8 :: 4 :: 100 :: 46 :: 19 :: 1 :: 4 :: 112 :: 61 :: 42 :: 180 :: 0 :: 56 :: 28 :: 19 :: 1 :: 4 :: 42 :: 180 :: 0 :: 56 :: sxX12_lands_50 := aq_26 shX12_lands_0
theorem shX12_lands_50 : cX12_lands.data.toList.drop 50 = 28 :: 46 :: 19 :: 1 :: 4 :: 108 :: 104 :: 42 :: 180 :: 1 :: 1 :: 96 :: 79 :: 42 :: 42 :: 180 :: 1 :: 8 :: 4 :: 100 :: 181 :: 1 :: 8 :: 167 :: 255 :: 183 :: sxX12_lands_76 := aq_24 shX12_lands_26
theorem shX12_lands_76 : cX12_lands.data.toList.drop 76 = 177 :: sxX12_lands_77 := aq_26 shX12_lands_50
theorem dX12_lands_22 : decode cX12_lands 22 = .ok (.aload_n 0, 1) := oc_42 22 (aq_22 shX12_lands_0)
theorem dX12_lands_23 : decode cX12_lands 23 = .ok (.getfield 59, 3) := oc_180 23 (aq_23 shX12_lands_0) uw_0_59
theorem dX12_lands_26 : decode cX12_lands 26 = .ok (.aload_n 0, 1) := oc_42 26 shX12_lands_26
theorem dX12_lands_27 : decode cX12_lands 27 = .ok (.getfield 264, 3) := oc_180 27 (aq_1 shX12_lands_26) uw_1_8
theorem dX12_lands_30 : decode cX12_lands 30 = .ok (.iconst 1, 1) := oc_4 30 (aq_4 shX12_lands_26)
theorem dX12_lands_31 : decode cX12_lands 31 = .ok (.isub, 1) := oc_100 31 (aq_5 shX12_lands_26)
theorem dX12_lands_32 : decode cX12_lands 32 = .ok (.iaload, 1) := oc_46 32 (aq_6 shX12_lands_26)
theorem dX12_lands_33 : decode cX12_lands 33 = .ok (.ldc_w 260, 3) := oc_19 33 (aq_7 shX12_lands_26) uw_1_4
theorem dX12_lands_36 : decode cX12_lands 36 = .ok (.irem, 1) := oc_112 36 (aq_10 shX12_lands_26)
theorem dX12_lands_37 : decode cX12_lands 37 = .ok (.istore_n 2, 1) := oc_61 37 (aq_11 shX12_lands_26)
theorem dX12_lands_38 : decode cX12_lands 38 = .ok (.aload_n 0, 1) := oc_42 38 (aq_12 shX12_lands_26)
theorem dX12_lands_39 : decode cX12_lands 39 = .ok (.getfield 56, 3) := oc_180 39 (aq_13 shX12_lands_26) uw_0_56
theorem dX12_lands_42 : decode cX12_lands 42 = .ok (.iload_n 2, 1) := oc_28 42 (aq_16 shX12_lands_26)
theorem dX12_lands_43 : decode cX12_lands 43 = .ok (.ldc_w 260, 3) := oc_19 43 (aq_17 shX12_lands_26) uw_1_4
theorem dX12_lands_46 : decode cX12_lands 46 = .ok (.aload_n 0, 1) := oc_42 46 (aq_20 shX12_lands_26)
theorem dX12_lands_47 : decode cX12_lands 47 = .ok (.getfield 56, 3) := oc_180 47 (aq_21 shX12_lands_26) uw_0_56
theorem dX12_lands_50 : decode cX12_lands 50 = .ok (.iload_n 2, 1) := oc_28 50 shX12_lands_50
theorem dX12_lands_51 : decode cX12_lands 51 = .ok (.iaload, 1) := oc_46 51 (aq_1 shX12_lands_50)
theorem dX12_lands_52 : decode cX12_lands 52 = .ok (.ldc_w 260, 3) := oc_19 52 (aq_2 shX12_lands_50) uw_1_4
theorem dX12_lands_55 : decode cX12_lands 55 = .ok (.idiv, 1) := oc_108 55 (aq_5 shX12_lands_50)
theorem dX12_lands_56 : decode cX12_lands 56 = .ok (.imul, 1) := oc_104 56 (aq_6 shX12_lands_50)
theorem dX12_lands_57 : decode cX12_lands 57 = .ok (.aload_n 0, 1) := oc_42 57 (aq_7 shX12_lands_50)
theorem dX12_lands_58 : decode cX12_lands 58 = .ok (.getfield 257, 3) := oc_180 58 (aq_8 shX12_lands_50) uw_1_1
theorem dX12_lands_61 : decode cX12_lands 61 = .ok (.iadd, 1) := oc_96 61 (aq_11 shX12_lands_50)
theorem dX12_lands_62 : decode cX12_lands 62 = .ok (.iastore, 1) := oc_79 62 (aq_12 shX12_lands_50)
theorem dX12_lands_63 : decode cX12_lands 63 = .ok (.aload_n 0, 1) := oc_42 63 (aq_13 shX12_lands_50)
theorem dX12_lands_64 : decode cX12_lands 64 = .ok (.aload_n 0, 1) := oc_42 64 (aq_14 shX12_lands_50)
theorem dX12_lands_65 : decode cX12_lands 65 = .ok (.getfield 264, 3) := oc_180 65 (aq_15 shX12_lands_50) uw_1_8
theorem dX12_lands_68 : decode cX12_lands 68 = .ok (.iconst 1, 1) := oc_4 68 (aq_18 shX12_lands_50)
theorem dX12_lands_69 : decode cX12_lands 69 = .ok (.isub, 1) := oc_100 69 (aq_19 shX12_lands_50)
theorem dX12_lands_70 : decode cX12_lands 70 = .ok (.putfield 264, 3) := oc_181 70 (aq_20 shX12_lands_50) uw_1_8
theorem dX12_lands_73 : decode cX12_lands 73 = .ok (.goto (-73), 3) := oc_167 73 (aq_23 shX12_lands_50) sgw_255_183
theorem dX12_lands_76 : decode cX12_lands 76 = .ok (.return_, 1) := oc_177 76 shX12_lands_76
noncomputable def sxX12_jumps_46 : List UInt8 := []
noncomputable def sxX12_jumps_24 : List UInt8 := 4 :: 96 :: 181 :: 1 :: 8 :: 42 :: 27 :: 3 :: 182 :: 1 :: 14 :: 42 :: 42 :: 180 :: 0 :: 233 :: 4 :: 96 :: 181 :: 0 :: 233 :: 177 :: sxX12_jumps_46
theorem shX12_jumps_0 : cX12_jumps.data.toList.drop 0 = 42 :: 180 :: 0 :: 59 :: 42 :: 180 :: 1 :: 8 :: 19 :: 1 :: 4 :: 27 :: 104 :: 42 :: 180 :: 1 :: 1 :: 96 :: 79 :: 42 :: 42 :: 180 :: 1 :: 8 :: sxX12_jumps_24 := rfl
theorem shX12_jumps_24 : cX12_jumps.data.toList.drop 24 = 4 :: 96 :: 181 :: 1 :: 8 :: 42 :: 27 :: 3 :: 182 :: 1 :: 14 :: 42 :: 42 :: 180 :: 0 :: 233 :: 4 :: 96 :: 181 :: 0 :: 233 :: 177 :: sxX12_jumps_46 := aq_24 shX12_jumps_0
noncomputable def sxX12_readsCompared_99 : List UInt8 := []
noncomputable def sxX12_readsCompared_97 : List UInt8 := 4 :: 172 :: sxX12_readsCompared_99
noncomputable def sxX12_readsCompared_73 : List UInt8 := 4 :: 96 :: 181 :: 0 :: 233 :: 42 :: 182 :: 1 :: 41 :: 154 :: 0 :: 5 :: 3 :: 172 :: 42 :: 27 :: 3 :: 182 :: 1 :: 14 :: 42 :: 182 :: 1 :: 44 :: sxX12_readsCompared_97
noncomputable def sxX12_readsCompared_48 : List UInt8 := 167 :: 0 :: 4 :: 2 :: 60 :: 27 :: 2 :: 160 :: 0 :: 13 :: 42 :: 4 :: 42 :: 180 :: 0 :: 233 :: 182 :: 0 :: 246 :: 172 :: 42 :: 42 :: 180 :: 0 :: 233 :: sxX12_readsCompared_73
noncomputable def sxX12_readsCompared_24 : List UInt8 := 182 :: 0 :: 239 :: 16 :: 62 :: 160 :: 0 :: 8 :: 16 :: 8 :: 167 :: 0 :: 18 :: 42 :: 182 :: 0 :: 239 :: 16 :: 61 :: 160 :: 0 :: 8 :: 16 :: 9 :: sxX12_readsCompared_48
theorem shX12_readsCompared_0 : cX12_readsCompared.data.toList.drop 0 = 42 :: 182 :: 1 :: 41 :: 154 :: 0 :: 5 :: 3 :: 172 :: 42 :: 182 :: 0 :: 239 :: 16 :: 60 :: 160 :: 0 :: 8 :: 16 :: 7 :: 167 :: 0 :: 32 :: 42 :: sxX12_readsCompared_24 := rfl
theorem shX12_readsCompared_24 : cX12_readsCompared.data.toList.drop 24 = 182 :: 0 :: 239 :: 16 :: 62 :: 160 :: 0 :: 8 :: 16 :: 8 :: 167 :: 0 :: 18 :: 42 :: 182 :: 0 :: 239 :: 16 :: 61 :: 160 :: 0 :: 8 :: 16 :: 9 :: sxX12_readsCompared_48 := aq_24 shX12_readsCompared_0
theorem shX12_readsCompared_48 : cX12_readsCompared.data.toList.drop 48 = 167 :: 0 :: 4 :: 2 :: 60 :: 27 :: 2 :: 160 :: 0 :: 13 :: 42 :: 4 :: 42 :: 180 :: 0 :: 233 :: 182 :: 0 :: 246 :: 172 :: 42 :: 42 :: 180 :: 0 :: 233 :: sxX12_readsCompared_73 := aq_24 shX12_readsCompared_24
theorem shX12_readsCompared_73 : cX12_readsCompared.data.toList.drop 73 = 4 :: 96 :: 181 :: 0 :: 233 :: 42 :: 182 :: 1 :: 41 :: 154 :: 0 :: 5 :: 3 :: 172 :: 42 :: 27 :: 3 :: 182 :: 1 :: 14 :: 42 :: 182 :: 1 :: 44 :: sxX12_readsCompared_97 := aq_25 shX12_readsCompared_48
theorem shX12_readsCompared_97 : cX12_readsCompared.data.toList.drop 97 = 4 :: 172 :: sxX12_readsCompared_99 := aq_24 shX12_readsCompared_73
theorem dX12_readsCompared_4 : decode cX12_readsCompared 4 = .ok (.ifCond .ne 5, 3) := oc_154 4 (aq_4 shX12_readsCompared_0) sgw_0_5
theorem dX12_readsCompared_52 : decode cX12_readsCompared 52 = .ok (.istore_n 1, 1) := oc_60 52 (aq_4 shX12_readsCompared_48)
theorem dX12_readsCompared_53 : decode cX12_readsCompared 53 = .ok (.iload_n 1, 1) := oc_27 53 (aq_5 shX12_readsCompared_48)
theorem dX12_readsCompared_54 : decode cX12_readsCompared 54 = .ok (.iconst (-1), 1) := oc_2 54 (aq_6 shX12_readsCompared_48)
theorem dX12_readsCompared_55 : decode cX12_readsCompared 55 = .ok (.if_icmp .ne 13, 3) := oc_160 55 (aq_7 shX12_readsCompared_48) sgw_0_13
theorem dX12_readsCompared_68 : decode cX12_readsCompared 68 = .ok (.aload_n 0, 1) := oc_42 68 (aq_20 shX12_readsCompared_48)
theorem dX12_readsCompared_69 : decode cX12_readsCompared 69 = .ok (.aload_n 0, 1) := oc_42 69 (aq_21 shX12_readsCompared_48)
theorem dX12_readsCompared_70 : decode cX12_readsCompared 70 = .ok (.getfield 233, 3) := oc_180 70 (aq_22 shX12_readsCompared_48) uw_0_233
theorem dX12_readsCompared_73 : decode cX12_readsCompared 73 = .ok (.iconst 1, 1) := oc_4 73 shX12_readsCompared_73
theorem dX12_readsCompared_74 : decode cX12_readsCompared 74 = .ok (.iadd, 1) := oc_96 74 (aq_1 shX12_readsCompared_73)
theorem dX12_readsCompared_75 : decode cX12_readsCompared 75 = .ok (.putfield 233, 3) := oc_181 75 (aq_2 shX12_readsCompared_73) uw_0_233
theorem dX12_readsCompared_78 : decode cX12_readsCompared 78 = .ok (.aload_n 0, 1) := oc_42 78 (aq_5 shX12_readsCompared_73)
theorem dX12_readsCompared_79 : decode cX12_readsCompared 79 = .ok (.invokevirtual 297, 3) := oc_182 79 (aq_6 shX12_readsCompared_73) uw_1_41
theorem dX12_readsCompared_82 : decode cX12_readsCompared 82 = .ok (.ifCond .ne 5, 3) := oc_154 82 (aq_9 shX12_readsCompared_73) sgw_0_5
theorem dX12_readsCompared_85 : decode cX12_readsCompared 85 = .ok (.iconst 0, 1) := oc_3 85 (aq_12 shX12_readsCompared_73)
theorem dX12_readsCompared_86 : decode cX12_readsCompared 86 = .ok (.ireturn, 1) := oc_172 86 (aq_13 shX12_readsCompared_73)
theorem dX12_readsCompared_87 : decode cX12_readsCompared 87 = .ok (.aload_n 0, 1) := oc_42 87 (aq_14 shX12_readsCompared_73)
theorem dX12_readsCompared_88 : decode cX12_readsCompared 88 = .ok (.iload_n 1, 1) := oc_27 88 (aq_15 shX12_readsCompared_73)
theorem dX12_readsCompared_89 : decode cX12_readsCompared 89 = .ok (.iconst 0, 1) := oc_3 89 (aq_16 shX12_readsCompared_73)
theorem dX12_readsCompared_90 : decode cX12_readsCompared 90 = .ok (.invokevirtual 270, 3) := oc_182 90 (aq_17 shX12_readsCompared_73) uw_1_14
theorem dX12_readsCompared_93 : decode cX12_readsCompared 93 = .ok (.aload_n 0, 1) := oc_42 93 (aq_20 shX12_readsCompared_73)
theorem dX12_readsCompared_94 : decode cX12_readsCompared 94 = .ok (.invokevirtual 300, 3) := oc_182 94 (aq_21 shX12_readsCompared_73) uw_1_44
theorem dX12_readsCompared_97 : decode cX12_readsCompared 97 = .ok (.iconst 1, 1) := oc_4 97 shX12_readsCompared_97
theorem dX12_readsCompared_98 : decode cX12_readsCompared 98 = .ok (.ireturn, 1) := oc_172 98 (aq_1 shX12_readsCompared_97)
noncomputable def sxX12_readsCondition_221 : List UInt8 := []
noncomputable def sxX12_readsCondition_218 : List UInt8 := 167 :: 255 :: 78 :: sxX12_readsCondition_221
noncomputable def sxX12_readsCondition_194 : List UInt8 := 3 :: 182 :: 1 :: 50 :: 42 :: 42 :: 182 :: 0 :: 239 :: 16 :: 38 :: 160 :: 0 :: 8 :: 16 :: 11 :: 167 :: 0 :: 5 :: 16 :: 12 :: 182 :: 1 :: 53 :: sxX12_readsCondition_218
noncomputable def sxX12_readsCondition_170 : List UInt8 := 42 :: 4 :: 42 :: 180 :: 0 :: 233 :: 182 :: 0 :: 246 :: 172 :: 42 :: 42 :: 182 :: 0 :: 239 :: 16 :: 124 :: 160 :: 0 :: 7 :: 4 :: 167 :: 0 :: 4 :: sxX12_readsCondition_194
noncomputable def sxX12_readsCondition_146 : List UInt8 := 182 :: 1 :: 44 :: 167 :: 255 :: 199 :: 42 :: 182 :: 0 :: 239 :: 16 :: 38 :: 159 :: 0 :: 22 :: 42 :: 182 :: 0 :: 239 :: 16 :: 124 :: 159 :: 0 :: 13 :: sxX12_readsCondition_170
noncomputable def sxX12_readsCondition_122 : List UInt8 := 100 :: 181 :: 1 :: 5 :: 42 :: 42 :: 180 :: 0 :: 233 :: 4 :: 96 :: 181 :: 0 :: 233 :: 42 :: 180 :: 1 :: 8 :: 154 :: 0 :: 5 :: 4 :: 172 :: 42 :: sxX12_readsCondition_146
noncomputable def sxX12_readsCondition_98 : List UInt8 := 160 :: 0 :: 54 :: 42 :: 4 :: 182 :: 1 :: 50 :: 42 :: 42 :: 180 :: 1 :: 8 :: 4 :: 100 :: 181 :: 1 :: 8 :: 42 :: 42 :: 180 :: 1 :: 5 :: 4 :: sxX12_readsCondition_122
noncomputable def sxX12_readsCondition_73 : List UInt8 := 16 :: 13 :: 182 :: 1 :: 18 :: 154 :: 255 :: 218 :: 3 :: 172 :: 42 :: 182 :: 1 :: 47 :: 154 :: 0 :: 5 :: 3 :: 172 :: 42 :: 182 :: 0 :: 239 :: 16 :: 41 :: sxX12_readsCondition_98
noncomputable def sxX12_readsCondition_49 : List UInt8 := 42 :: 182 :: 0 :: 239 :: 16 :: 40 :: 160 :: 0 :: 28 :: 42 :: 42 :: 182 :: 0 :: 239 :: 16 :: 33 :: 160 :: 0 :: 8 :: 16 :: 10 :: 167 :: 0 :: 5 :: sxX12_readsCondition_73
noncomputable def sxX12_readsCondition_24 : List UInt8 := 42 :: 3 :: 181 :: 1 :: 8 :: 42 :: 16 :: 13 :: 182 :: 1 :: 18 :: 154 :: 0 :: 5 :: 3 :: 172 :: 42 :: 182 :: 0 :: 239 :: 16 :: 33 :: 159 :: 0 :: 12 :: sxX12_readsCondition_49
theorem shX12_readsCondition_0 : cX12_readsCondition.data.toList.drop 0 = 42 :: 182 :: 0 :: 239 :: 16 :: 40 :: 159 :: 0 :: 13 :: 42 :: 4 :: 42 :: 180 :: 0 :: 233 :: 182 :: 0 :: 246 :: 172 :: 42 :: 3 :: 181 :: 1 :: 5 :: sxX12_readsCondition_24 := rfl
theorem shX12_readsCondition_24 : cX12_readsCondition.data.toList.drop 24 = 42 :: 3 :: 181 :: 1 :: 8 :: 42 :: 16 :: 13 :: 182 :: 1 :: 18 :: 154 :: 0 :: 5 :: 3 :: 172 :: 42 :: 182 :: 0 :: 239 :: 16 :: 33 :: 159 :: 0 :: 12 :: sxX12_readsCondition_49 := aq_24 shX12_readsCondition_0
theorem shX12_readsCondition_49 : cX12_readsCondition.data.toList.drop 49 = 42 :: 182 :: 0 :: 239 :: 16 :: 40 :: 160 :: 0 :: 28 :: 42 :: 42 :: 182 :: 0 :: 239 :: 16 :: 33 :: 160 :: 0 :: 8 :: 16 :: 10 :: 167 :: 0 :: 5 :: sxX12_readsCondition_73 := aq_25 shX12_readsCondition_24
theorem shX12_readsCondition_73 : cX12_readsCondition.data.toList.drop 73 = 16 :: 13 :: 182 :: 1 :: 18 :: 154 :: 255 :: 218 :: 3 :: 172 :: 42 :: 182 :: 1 :: 47 :: 154 :: 0 :: 5 :: 3 :: 172 :: 42 :: 182 :: 0 :: 239 :: 16 :: 41 :: sxX12_readsCondition_98 := aq_24 shX12_readsCondition_49
theorem shX12_readsCondition_98 : cX12_readsCondition.data.toList.drop 98 = 160 :: 0 :: 54 :: 42 :: 4 :: 182 :: 1 :: 50 :: 42 :: 42 :: 180 :: 1 :: 8 :: 4 :: 100 :: 181 :: 1 :: 8 :: 42 :: 42 :: 180 :: 1 :: 5 :: 4 :: sxX12_readsCondition_122 := aq_25 shX12_readsCondition_73
theorem shX12_readsCondition_122 : cX12_readsCondition.data.toList.drop 122 = 100 :: 181 :: 1 :: 5 :: 42 :: 42 :: 180 :: 0 :: 233 :: 4 :: 96 :: 181 :: 0 :: 233 :: 42 :: 180 :: 1 :: 8 :: 154 :: 0 :: 5 :: 4 :: 172 :: 42 :: sxX12_readsCondition_146 := aq_24 shX12_readsCondition_98
theorem shX12_readsCondition_146 : cX12_readsCondition.data.toList.drop 146 = 182 :: 1 :: 44 :: 167 :: 255 :: 199 :: 42 :: 182 :: 0 :: 239 :: 16 :: 38 :: 159 :: 0 :: 22 :: 42 :: 182 :: 0 :: 239 :: 16 :: 124 :: 159 :: 0 :: 13 :: sxX12_readsCondition_170 := aq_24 shX12_readsCondition_122
theorem shX12_readsCondition_170 : cX12_readsCondition.data.toList.drop 170 = 42 :: 4 :: 42 :: 180 :: 0 :: 233 :: 182 :: 0 :: 246 :: 172 :: 42 :: 42 :: 182 :: 0 :: 239 :: 16 :: 124 :: 160 :: 0 :: 7 :: 4 :: 167 :: 0 :: 4 :: sxX12_readsCondition_194 := aq_24 shX12_readsCondition_146
theorem shX12_readsCondition_194 : cX12_readsCondition.data.toList.drop 194 = 3 :: 182 :: 1 :: 50 :: 42 :: 42 :: 182 :: 0 :: 239 :: 16 :: 38 :: 160 :: 0 :: 8 :: 16 :: 11 :: 167 :: 0 :: 5 :: 16 :: 12 :: 182 :: 1 :: 53 :: sxX12_readsCondition_218 := aq_24 shX12_readsCondition_170
theorem shX12_readsCondition_218 : cX12_readsCondition.data.toList.drop 218 = 167 :: 255 :: 78 :: sxX12_readsCondition_221 := aq_24 shX12_readsCondition_194
theorem dX12_readsCondition_35 : decode cX12_readsCondition 35 = .ok (.ifCond .ne 5, 3) := oc_154 35 (aq_11 shX12_readsCondition_24) sgw_0_5
theorem dX12_readsCondition_58 : decode cX12_readsCondition 58 = .ok (.aload_n 0, 1) := oc_42 58 (aq_9 shX12_readsCondition_49)
theorem dX12_readsCondition_59 : decode cX12_readsCondition 59 = .ok (.aload_n 0, 1) := oc_42 59 (aq_10 shX12_readsCondition_49)
theorem dX12_readsCondition_60 : decode cX12_readsCondition 60 = .ok (.invokevirtual 239, 3) := oc_182 60 (aq_11 shX12_readsCondition_49) uw_0_239
theorem dX12_readsCondition_63 : decode cX12_readsCondition 63 = .ok (.bipush 33, 2) := oc_16 63 (aq_14 shX12_readsCondition_49) sgb_33
theorem dX12_readsCondition_65 : decode cX12_readsCondition 65 = .ok (.if_icmp .ne 8, 3) := oc_160 65 (aq_16 shX12_readsCondition_49) sgw_0_8
theorem dX12_readsCondition_68 : decode cX12_readsCondition 68 = .ok (.bipush 10, 2) := oc_16 68 (aq_19 shX12_readsCondition_49) sgb_10
theorem dX12_readsCondition_70 : decode cX12_readsCondition 70 = .ok (.goto 5, 3) := oc_167 70 (aq_21 shX12_readsCondition_49) sgw_0_5
theorem dX12_readsCondition_73 : decode cX12_readsCondition 73 = .ok (.bipush 13, 2) := oc_16 73 shX12_readsCondition_73 sgb_13
theorem dX12_readsCondition_75 : decode cX12_readsCondition 75 = .ok (.invokevirtual 274, 3) := oc_182 75 (aq_2 shX12_readsCondition_73) uw_1_18
theorem dX12_readsCondition_78 : decode cX12_readsCondition 78 = .ok (.ifCond .ne (-38), 3) := oc_154 78 (aq_5 shX12_readsCondition_73) sgw_255_218
theorem dX12_readsCondition_81 : decode cX12_readsCondition 81 = .ok (.iconst 0, 1) := oc_3 81 (aq_8 shX12_readsCondition_73)
theorem dX12_readsCondition_82 : decode cX12_readsCondition 82 = .ok (.ireturn, 1) := oc_172 82 (aq_9 shX12_readsCondition_73)
theorem dX12_readsCondition_87 : decode cX12_readsCondition 87 = .ok (.ifCond .ne 5, 3) := oc_154 87 (aq_14 shX12_readsCondition_73) sgw_0_5
theorem dX12_readsCondition_180 : decode cX12_readsCondition 180 = .ok (.aload_n 0, 1) := oc_42 180 (aq_10 shX12_readsCondition_170)
theorem dX12_readsCondition_181 : decode cX12_readsCondition 181 = .ok (.aload_n 0, 1) := oc_42 181 (aq_11 shX12_readsCondition_170)
theorem dX12_readsCondition_182 : decode cX12_readsCondition 182 = .ok (.invokevirtual 239, 3) := oc_182 182 (aq_12 shX12_readsCondition_170) uw_0_239
theorem dX12_readsCondition_185 : decode cX12_readsCondition 185 = .ok (.bipush 124, 2) := oc_16 185 (aq_15 shX12_readsCondition_170) sgb_124
theorem dX12_readsCondition_187 : decode cX12_readsCondition 187 = .ok (.if_icmp .ne 7, 3) := oc_160 187 (aq_17 shX12_readsCondition_170) sgw_0_7
theorem dX12_readsCondition_190 : decode cX12_readsCondition 190 = .ok (.iconst 1, 1) := oc_4 190 (aq_20 shX12_readsCondition_170)
theorem dX12_readsCondition_191 : decode cX12_readsCondition 191 = .ok (.goto 4, 3) := oc_167 191 (aq_21 shX12_readsCondition_170) sgw_0_4
theorem dX12_readsCondition_194 : decode cX12_readsCondition 194 = .ok (.iconst 0, 1) := oc_3 194 shX12_readsCondition_194
theorem dX12_readsCondition_195 : decode cX12_readsCondition 195 = .ok (.invokevirtual 306, 3) := oc_182 195 (aq_1 shX12_readsCondition_194) uw_1_50
theorem dX12_readsCondition_198 : decode cX12_readsCondition 198 = .ok (.aload_n 0, 1) := oc_42 198 (aq_4 shX12_readsCondition_194)
theorem dX12_readsCondition_199 : decode cX12_readsCondition 199 = .ok (.aload_n 0, 1) := oc_42 199 (aq_5 shX12_readsCondition_194)
theorem dX12_readsCondition_200 : decode cX12_readsCondition 200 = .ok (.invokevirtual 239, 3) := oc_182 200 (aq_6 shX12_readsCondition_194) uw_0_239
theorem dX12_readsCondition_203 : decode cX12_readsCondition 203 = .ok (.bipush 38, 2) := oc_16 203 (aq_9 shX12_readsCondition_194) sgb_38
theorem dX12_readsCondition_205 : decode cX12_readsCondition 205 = .ok (.if_icmp .ne 8, 3) := oc_160 205 (aq_11 shX12_readsCondition_194) sgw_0_8
theorem dX12_readsCondition_208 : decode cX12_readsCondition 208 = .ok (.bipush 11, 2) := oc_16 208 (aq_14 shX12_readsCondition_194) sgb_11
theorem dX12_readsCondition_210 : decode cX12_readsCondition 210 = .ok (.goto 5, 3) := oc_167 210 (aq_16 shX12_readsCondition_194) sgw_0_5
theorem dX12_readsCondition_213 : decode cX12_readsCondition 213 = .ok (.bipush 12, 2) := oc_16 213 (aq_19 shX12_readsCondition_194) sgb_12
theorem dX12_readsCondition_215 : decode cX12_readsCondition 215 = .ok (.invokevirtual 309, 3) := oc_182 215 (aq_21 shX12_readsCondition_194) uw_1_53
theorem dX12_readsCondition_218 : decode cX12_readsCondition 218 = .ok (.goto (-178), 3) := oc_167 218 shX12_readsCondition_218 sgw_255_78
noncomputable def sxX12_readsClause_140 : List UInt8 := []
noncomputable def sxX12_readsClause_123 : List UInt8 := 42 :: 180 :: 1 :: 1 :: 79 :: 42 :: 42 :: 180 :: 1 :: 56 :: 4 :: 96 :: 181 :: 1 :: 56 :: 4 :: 172 :: sxX12_readsClause_140
noncomputable def sxX12_readsClause_97 : List UInt8 := 42 :: 180 :: 1 :: 56 :: 42 :: 180 :: 1 :: 1 :: 79 :: 42 :: 182 :: 1 :: 59 :: 154 :: 0 :: 5 :: 3 :: 172 :: 42 :: 180 :: 0 :: 68 :: 42 :: 180 :: 1 :: 56 :: sxX12_readsClause_123
noncomputable def sxX12_readsClause_72 : List UInt8 := 181 :: 1 :: 5 :: 42 :: 3 :: 181 :: 1 :: 8 :: 27 :: 154 :: 0 :: 12 :: 42 :: 182 :: 1 :: 41 :: 154 :: 0 :: 5 :: 3 :: 172 :: 42 :: 180 :: 0 :: 65 :: sxX12_readsClause_97
noncomputable def sxX12_readsClause_48 : List UInt8 := 42 :: 180 :: 0 :: 233 :: 4 :: 96 :: 181 :: 0 :: 233 :: 42 :: 180 :: 0 :: 62 :: 42 :: 180 :: 1 :: 56 :: 42 :: 180 :: 1 :: 1 :: 79 :: 42 :: 3 :: sxX12_readsClause_72
noncomputable def sxX12_readsClause_24 : List UInt8 := 182 :: 0 :: 246 :: 172 :: 42 :: 180 :: 1 :: 56 :: 16 :: 12 :: 160 :: 0 :: 13 :: 42 :: 7 :: 42 :: 180 :: 0 :: 233 :: 182 :: 0 :: 246 :: 172 :: 42 :: sxX12_readsClause_48
theorem shX12_readsClause_0 : cX12_readsClause.data.toList.drop 0 = 42 :: 182 :: 0 :: 239 :: 27 :: 153 :: 0 :: 8 :: 16 :: 108 :: 167 :: 0 :: 5 :: 16 :: 112 :: 159 :: 0 :: 13 :: 42 :: 4 :: 42 :: 180 :: 0 :: 233 :: sxX12_readsClause_24 := rfl
theorem shX12_readsClause_24 : cX12_readsClause.data.toList.drop 24 = 182 :: 0 :: 246 :: 172 :: 42 :: 180 :: 1 :: 56 :: 16 :: 12 :: 160 :: 0 :: 13 :: 42 :: 7 :: 42 :: 180 :: 0 :: 233 :: 182 :: 0 :: 246 :: 172 :: 42 :: sxX12_readsClause_48 := aq_24 shX12_readsClause_0
theorem shX12_readsClause_48 : cX12_readsClause.data.toList.drop 48 = 42 :: 180 :: 0 :: 233 :: 4 :: 96 :: 181 :: 0 :: 233 :: 42 :: 180 :: 0 :: 62 :: 42 :: 180 :: 1 :: 56 :: 42 :: 180 :: 1 :: 1 :: 79 :: 42 :: 3 :: sxX12_readsClause_72 := aq_24 shX12_readsClause_24
theorem shX12_readsClause_72 : cX12_readsClause.data.toList.drop 72 = 181 :: 1 :: 5 :: 42 :: 3 :: 181 :: 1 :: 8 :: 27 :: 154 :: 0 :: 12 :: 42 :: 182 :: 1 :: 41 :: 154 :: 0 :: 5 :: 3 :: 172 :: 42 :: 180 :: 0 :: 65 :: sxX12_readsClause_97 := aq_24 shX12_readsClause_48
theorem shX12_readsClause_97 : cX12_readsClause.data.toList.drop 97 = 42 :: 180 :: 1 :: 56 :: 42 :: 180 :: 1 :: 1 :: 79 :: 42 :: 182 :: 1 :: 59 :: 154 :: 0 :: 5 :: 3 :: 172 :: 42 :: 180 :: 0 :: 68 :: 42 :: 180 :: 1 :: 56 :: sxX12_readsClause_123 := aq_25 shX12_readsClause_72
theorem shX12_readsClause_123 : cX12_readsClause.data.toList.drop 123 = 42 :: 180 :: 1 :: 1 :: 79 :: 42 :: 42 :: 180 :: 1 :: 56 :: 4 :: 96 :: 181 :: 1 :: 56 :: 4 :: 172 :: sxX12_readsClause_140 := aq_26 shX12_readsClause_97
theorem dX12_readsClause_15 : decode cX12_readsClause 15 = .ok (.if_icmp .eq 13, 3) := oc_159 15 (aq_15 shX12_readsClause_0) sgw_0_13
theorem dX12_readsClause_18 : decode cX12_readsClause 18 = .ok (.aload_n 0, 1) := oc_42 18 (aq_18 shX12_readsClause_0)
theorem dX12_readsClause_19 : decode cX12_readsClause 19 = .ok (.iconst 1, 1) := oc_4 19 (aq_19 shX12_readsClause_0)
theorem dX12_readsClause_20 : decode cX12_readsClause 20 = .ok (.aload_n 0, 1) := oc_42 20 (aq_20 shX12_readsClause_0)
theorem dX12_readsClause_21 : decode cX12_readsClause 21 = .ok (.getfield 233, 3) := oc_180 21 (aq_21 shX12_readsClause_0) uw_0_233
theorem dX12_readsClause_24 : decode cX12_readsClause 24 = .ok (.invokevirtual 246, 3) := oc_182 24 shX12_readsClause_24 uw_0_246
theorem dX12_readsClause_27 : decode cX12_readsClause 27 = .ok (.ireturn, 1) := oc_172 27 (aq_3 shX12_readsClause_24)
theorem dX12_readsClause_28 : decode cX12_readsClause 28 = .ok (.aload_n 0, 1) := oc_42 28 (aq_4 shX12_readsClause_24)
theorem dX12_readsClause_29 : decode cX12_readsClause 29 = .ok (.getfield 312, 3) := oc_180 29 (aq_5 shX12_readsClause_24) uw_1_56
theorem dX12_readsClause_32 : decode cX12_readsClause 32 = .ok (.bipush 12, 2) := oc_16 32 (aq_8 shX12_readsClause_24) sgb_12
theorem dX12_readsClause_34 : decode cX12_readsClause 34 = .ok (.if_icmp .ne 13, 3) := oc_160 34 (aq_10 shX12_readsClause_24) sgw_0_13
theorem dX12_readsClause_37 : decode cX12_readsClause 37 = .ok (.aload_n 0, 1) := oc_42 37 (aq_13 shX12_readsClause_24)
theorem dX12_readsClause_38 : decode cX12_readsClause 38 = .ok (.iconst 4, 1) := oc_7 38 (aq_14 shX12_readsClause_24)
theorem dX12_readsClause_39 : decode cX12_readsClause 39 = .ok (.aload_n 0, 1) := oc_42 39 (aq_15 shX12_readsClause_24)
theorem dX12_readsClause_40 : decode cX12_readsClause 40 = .ok (.getfield 233, 3) := oc_180 40 (aq_16 shX12_readsClause_24) uw_0_233
theorem dX12_readsClause_43 : decode cX12_readsClause 43 = .ok (.invokevirtual 246, 3) := oc_182 43 (aq_19 shX12_readsClause_24) uw_0_246
theorem dX12_readsClause_46 : decode cX12_readsClause 46 = .ok (.ireturn, 1) := oc_172 46 (aq_22 shX12_readsClause_24)
theorem dX12_readsClause_47 : decode cX12_readsClause 47 = .ok (.aload_n 0, 1) := oc_42 47 (aq_23 shX12_readsClause_24)
theorem dX12_readsClause_48 : decode cX12_readsClause 48 = .ok (.aload_n 0, 1) := oc_42 48 shX12_readsClause_48
theorem dX12_readsClause_49 : decode cX12_readsClause 49 = .ok (.getfield 233, 3) := oc_180 49 (aq_1 shX12_readsClause_48) uw_0_233
theorem dX12_readsClause_52 : decode cX12_readsClause 52 = .ok (.iconst 1, 1) := oc_4 52 (aq_4 shX12_readsClause_48)
theorem dX12_readsClause_53 : decode cX12_readsClause 53 = .ok (.iadd, 1) := oc_96 53 (aq_5 shX12_readsClause_48)
theorem dX12_readsClause_54 : decode cX12_readsClause 54 = .ok (.putfield 233, 3) := oc_181 54 (aq_6 shX12_readsClause_48) uw_0_233
theorem dX12_readsClause_57 : decode cX12_readsClause 57 = .ok (.aload_n 0, 1) := oc_42 57 (aq_9 shX12_readsClause_48)
theorem dX12_readsClause_58 : decode cX12_readsClause 58 = .ok (.getfield 62, 3) := oc_180 58 (aq_10 shX12_readsClause_48) uw_0_62
theorem dX12_readsClause_61 : decode cX12_readsClause 61 = .ok (.aload_n 0, 1) := oc_42 61 (aq_13 shX12_readsClause_48)
theorem dX12_readsClause_62 : decode cX12_readsClause 62 = .ok (.getfield 312, 3) := oc_180 62 (aq_14 shX12_readsClause_48) uw_1_56
theorem dX12_readsClause_65 : decode cX12_readsClause 65 = .ok (.aload_n 0, 1) := oc_42 65 (aq_17 shX12_readsClause_48)
theorem dX12_readsClause_66 : decode cX12_readsClause 66 = .ok (.getfield 257, 3) := oc_180 66 (aq_18 shX12_readsClause_48) uw_1_1
theorem dX12_readsClause_69 : decode cX12_readsClause 69 = .ok (.iastore, 1) := oc_79 69 (aq_21 shX12_readsClause_48)
theorem dX12_readsClause_70 : decode cX12_readsClause 70 = .ok (.aload_n 0, 1) := oc_42 70 (aq_22 shX12_readsClause_48)
theorem dX12_readsClause_71 : decode cX12_readsClause 71 = .ok (.iconst 0, 1) := oc_3 71 (aq_23 shX12_readsClause_48)
theorem dX12_readsClause_72 : decode cX12_readsClause 72 = .ok (.putfield 261, 3) := oc_181 72 shX12_readsClause_72 uw_1_5
theorem dX12_readsClause_75 : decode cX12_readsClause 75 = .ok (.aload_n 0, 1) := oc_42 75 (aq_3 shX12_readsClause_72)
theorem dX12_readsClause_76 : decode cX12_readsClause 76 = .ok (.iconst 0, 1) := oc_3 76 (aq_4 shX12_readsClause_72)
theorem dX12_readsClause_77 : decode cX12_readsClause 77 = .ok (.putfield 264, 3) := oc_181 77 (aq_5 shX12_readsClause_72) uw_1_8
theorem dX12_readsClause_80 : decode cX12_readsClause 80 = .ok (.iload_n 1, 1) := oc_27 80 (aq_8 shX12_readsClause_72)
theorem dX12_readsClause_81 : decode cX12_readsClause 81 = .ok (.ifCond .ne 12, 3) := oc_154 81 (aq_9 shX12_readsClause_72) sgw_0_12
theorem dX12_readsClause_88 : decode cX12_readsClause 88 = .ok (.ifCond .ne 5, 3) := oc_154 88 (aq_16 shX12_readsClause_72) sgw_0_5
theorem dX12_readsClause_93 : decode cX12_readsClause 93 = .ok (.aload_n 0, 1) := oc_42 93 (aq_21 shX12_readsClause_72)
theorem dX12_readsClause_94 : decode cX12_readsClause 94 = .ok (.getfield 65, 3) := oc_180 94 (aq_22 shX12_readsClause_72) uw_0_65
theorem dX12_readsClause_97 : decode cX12_readsClause 97 = .ok (.aload_n 0, 1) := oc_42 97 shX12_readsClause_97
theorem dX12_readsClause_98 : decode cX12_readsClause 98 = .ok (.getfield 312, 3) := oc_180 98 (aq_1 shX12_readsClause_97) uw_1_56
theorem dX12_readsClause_101 : decode cX12_readsClause 101 = .ok (.aload_n 0, 1) := oc_42 101 (aq_4 shX12_readsClause_97)
theorem dX12_readsClause_102 : decode cX12_readsClause 102 = .ok (.getfield 257, 3) := oc_180 102 (aq_5 shX12_readsClause_97) uw_1_1
theorem dX12_readsClause_105 : decode cX12_readsClause 105 = .ok (.iastore, 1) := oc_79 105 (aq_8 shX12_readsClause_97)
theorem dX12_readsClause_106 : decode cX12_readsClause 106 = .ok (.aload_n 0, 1) := oc_42 106 (aq_9 shX12_readsClause_97)
theorem dX12_readsClause_107 : decode cX12_readsClause 107 = .ok (.invokevirtual 315, 3) := oc_182 107 (aq_10 shX12_readsClause_97) uw_1_59
theorem dX12_readsClause_110 : decode cX12_readsClause 110 = .ok (.ifCond .ne 5, 3) := oc_154 110 (aq_13 shX12_readsClause_97) sgw_0_5
theorem dX12_readsClause_113 : decode cX12_readsClause 113 = .ok (.iconst 0, 1) := oc_3 113 (aq_16 shX12_readsClause_97)
theorem dX12_readsClause_114 : decode cX12_readsClause 114 = .ok (.ireturn, 1) := oc_172 114 (aq_17 shX12_readsClause_97)
theorem dX12_readsClause_115 : decode cX12_readsClause 115 = .ok (.aload_n 0, 1) := oc_42 115 (aq_18 shX12_readsClause_97)
theorem dX12_readsClause_116 : decode cX12_readsClause 116 = .ok (.getfield 68, 3) := oc_180 116 (aq_19 shX12_readsClause_97) uw_0_68
theorem dX12_readsClause_119 : decode cX12_readsClause 119 = .ok (.aload_n 0, 1) := oc_42 119 (aq_22 shX12_readsClause_97)
theorem dX12_readsClause_120 : decode cX12_readsClause 120 = .ok (.getfield 312, 3) := oc_180 120 (aq_23 shX12_readsClause_97) uw_1_56
theorem dX12_readsClause_123 : decode cX12_readsClause 123 = .ok (.aload_n 0, 1) := oc_42 123 shX12_readsClause_123
theorem dX12_readsClause_124 : decode cX12_readsClause 124 = .ok (.getfield 257, 3) := oc_180 124 (aq_1 shX12_readsClause_123) uw_1_1
theorem dX12_readsClause_127 : decode cX12_readsClause 127 = .ok (.iastore, 1) := oc_79 127 (aq_4 shX12_readsClause_123)
theorem dX12_readsClause_128 : decode cX12_readsClause 128 = .ok (.aload_n 0, 1) := oc_42 128 (aq_5 shX12_readsClause_123)
theorem dX12_readsClause_129 : decode cX12_readsClause 129 = .ok (.aload_n 0, 1) := oc_42 129 (aq_6 shX12_readsClause_123)
theorem dX12_readsClause_130 : decode cX12_readsClause 130 = .ok (.getfield 312, 3) := oc_180 130 (aq_7 shX12_readsClause_123) uw_1_56
theorem dX12_readsClause_133 : decode cX12_readsClause 133 = .ok (.iconst 1, 1) := oc_4 133 (aq_10 shX12_readsClause_123)
theorem dX12_readsClause_134 : decode cX12_readsClause 134 = .ok (.iadd, 1) := oc_96 134 (aq_11 shX12_readsClause_123)
theorem dX12_readsClause_135 : decode cX12_readsClause 135 = .ok (.putfield 312, 3) := oc_181 135 (aq_12 shX12_readsClause_123) uw_1_56
theorem dX12_readsClause_138 : decode cX12_readsClause 138 = .ok (.iconst 1, 1) := oc_4 138 (aq_15 shX12_readsClause_123)
theorem dX12_readsClause_139 : decode cX12_readsClause 139 = .ok (.ireturn, 1) := oc_172 139 (aq_16 shX12_readsClause_123)
noncomputable def sxX12_reads_241 : List UInt8 := []
noncomputable def sxX12_reads_219 : List UInt8 := 27 :: 104 :: 42 :: 180 :: 0 :: 68 :: 21 :: 4 :: 46 :: 96 :: 79 :: 132 :: 4 :: 1 :: 167 :: 255 :: 175 :: 42 :: 180 :: 1 :: 56 :: 172 :: sxX12_reads_241
noncomputable def sxX12_reads_194 : List UInt8 := 21 :: 5 :: 17 :: 0 :: 180 :: 27 :: 104 :: 42 :: 180 :: 0 :: 65 :: 21 :: 4 :: 46 :: 96 :: 79 :: 42 :: 180 :: 0 :: 83 :: 21 :: 5 :: 17 :: 0 :: 180 :: sxX12_reads_219
noncomputable def sxX12_reads_170 : List UInt8 := 42 :: 180 :: 0 :: 77 :: 21 :: 5 :: 17 :: 0 :: 180 :: 27 :: 104 :: 42 :: 180 :: 0 :: 62 :: 21 :: 4 :: 46 :: 96 :: 79 :: 42 :: 180 :: 0 :: 80 :: sxX12_reads_194
noncomputable def sxX12_reads_146 : List UInt8 := 167 :: 255 :: 224 :: 3 :: 54 :: 4 :: 21 :: 4 :: 42 :: 180 :: 1 :: 56 :: 162 :: 0 :: 78 :: 16 :: 12 :: 27 :: 104 :: 21 :: 4 :: 96 :: 54 :: 5 :: sxX12_reads_170
noncomputable def sxX12_reads_120 : List UInt8 := 162 :: 0 :: 29 :: 42 :: 180 :: 0 :: 71 :: 17 :: 0 :: 180 :: 27 :: 104 :: 21 :: 4 :: 96 :: 42 :: 180 :: 0 :: 56 :: 21 :: 4 :: 46 :: 79 :: 132 :: 4 :: 1 :: sxX12_reads_146
noncomputable def sxX12_reads_96 : List UInt8 := 42 :: 180 :: 0 :: 243 :: 172 :: 42 :: 180 :: 0 :: 74 :: 27 :: 42 :: 180 :: 1 :: 56 :: 79 :: 3 :: 54 :: 4 :: 21 :: 4 :: 42 :: 180 :: 1 :: 1 :: sxX12_reads_120
noncomputable def sxX12_reads_72 : List UInt8 := 182 :: 1 :: 62 :: 153 :: 0 :: 7 :: 4 :: 167 :: 0 :: 4 :: 3 :: 62 :: 167 :: 255 :: 208 :: 42 :: 3 :: 181 :: 0 :: 226 :: 29 :: 154 :: 0 :: 8 :: sxX12_reads_96
noncomputable def sxX12_reads_48 : List UInt8 := 162 :: 0 :: 39 :: 42 :: 16 :: 59 :: 182 :: 1 :: 66 :: 153 :: 0 :: 25 :: 42 :: 27 :: 16 :: 10 :: 160 :: 0 :: 7 :: 4 :: 167 :: 0 :: 4 :: 3 :: sxX12_reads_72
noncomputable def sxX12_reads_24 : List UInt8 := 160 :: 0 :: 7 :: 4 :: 167 :: 0 :: 4 :: 3 :: 182 :: 1 :: 62 :: 62 :: 29 :: 153 :: 0 :: 50 :: 42 :: 180 :: 0 :: 233 :: 42 :: 180 :: 0 :: 236 :: sxX12_reads_48
theorem shX12_reads_0 : cX12_reads.data.toList.drop 0 = 42 :: 3 :: 181 :: 0 :: 233 :: 42 :: 28 :: 181 :: 0 :: 236 :: 42 :: 3 :: 181 :: 1 :: 1 :: 42 :: 3 :: 181 :: 1 :: 56 :: 42 :: 27 :: 16 :: 10 :: sxX12_reads_24 := rfl
theorem shX12_reads_24 : cX12_reads.data.toList.drop 24 = 160 :: 0 :: 7 :: 4 :: 167 :: 0 :: 4 :: 3 :: 182 :: 1 :: 62 :: 62 :: 29 :: 153 :: 0 :: 50 :: 42 :: 180 :: 0 :: 233 :: 42 :: 180 :: 0 :: 236 :: sxX12_reads_48 := aq_24 shX12_reads_0
theorem shX12_reads_48 : cX12_reads.data.toList.drop 48 = 162 :: 0 :: 39 :: 42 :: 16 :: 59 :: 182 :: 1 :: 66 :: 153 :: 0 :: 25 :: 42 :: 27 :: 16 :: 10 :: 160 :: 0 :: 7 :: 4 :: 167 :: 0 :: 4 :: 3 :: sxX12_reads_72 := aq_24 shX12_reads_24
theorem shX12_reads_72 : cX12_reads.data.toList.drop 72 = 182 :: 1 :: 62 :: 153 :: 0 :: 7 :: 4 :: 167 :: 0 :: 4 :: 3 :: 62 :: 167 :: 255 :: 208 :: 42 :: 3 :: 181 :: 0 :: 226 :: 29 :: 154 :: 0 :: 8 :: sxX12_reads_96 := aq_24 shX12_reads_48
theorem shX12_reads_96 : cX12_reads.data.toList.drop 96 = 42 :: 180 :: 0 :: 243 :: 172 :: 42 :: 180 :: 0 :: 74 :: 27 :: 42 :: 180 :: 1 :: 56 :: 79 :: 3 :: 54 :: 4 :: 21 :: 4 :: 42 :: 180 :: 1 :: 1 :: sxX12_reads_120 := aq_24 shX12_reads_72
theorem shX12_reads_120 : cX12_reads.data.toList.drop 120 = 162 :: 0 :: 29 :: 42 :: 180 :: 0 :: 71 :: 17 :: 0 :: 180 :: 27 :: 104 :: 21 :: 4 :: 96 :: 42 :: 180 :: 0 :: 56 :: 21 :: 4 :: 46 :: 79 :: 132 :: 4 :: 1 :: sxX12_reads_146 := aq_24 shX12_reads_96
theorem shX12_reads_146 : cX12_reads.data.toList.drop 146 = 167 :: 255 :: 224 :: 3 :: 54 :: 4 :: 21 :: 4 :: 42 :: 180 :: 1 :: 56 :: 162 :: 0 :: 78 :: 16 :: 12 :: 27 :: 104 :: 21 :: 4 :: 96 :: 54 :: 5 :: sxX12_reads_170 := aq_26 shX12_reads_120
theorem shX12_reads_170 : cX12_reads.data.toList.drop 170 = 42 :: 180 :: 0 :: 77 :: 21 :: 5 :: 17 :: 0 :: 180 :: 27 :: 104 :: 42 :: 180 :: 0 :: 62 :: 21 :: 4 :: 46 :: 96 :: 79 :: 42 :: 180 :: 0 :: 80 :: sxX12_reads_194 := aq_24 shX12_reads_146
theorem shX12_reads_194 : cX12_reads.data.toList.drop 194 = 21 :: 5 :: 17 :: 0 :: 180 :: 27 :: 104 :: 42 :: 180 :: 0 :: 65 :: 21 :: 4 :: 46 :: 96 :: 79 :: 42 :: 180 :: 0 :: 83 :: 21 :: 5 :: 17 :: 0 :: 180 :: sxX12_reads_219 := aq_24 shX12_reads_170
theorem shX12_reads_219 : cX12_reads.data.toList.drop 219 = 27 :: 104 :: 42 :: 180 :: 0 :: 68 :: 21 :: 4 :: 46 :: 96 :: 79 :: 132 :: 4 :: 1 :: 167 :: 255 :: 175 :: 42 :: 180 :: 1 :: 56 :: 172 :: sxX12_reads_241 := aq_25 shX12_reads_194
theorem dX12_reads_0 : decode cX12_reads 0 = .ok (.aload_n 0, 1) := oc_42 0 shX12_reads_0
theorem dX12_reads_1 : decode cX12_reads 1 = .ok (.iconst 0, 1) := oc_3 1 (aq_1 shX12_reads_0)
theorem dX12_reads_2 : decode cX12_reads 2 = .ok (.putfield 233, 3) := oc_181 2 (aq_2 shX12_reads_0) uw_0_233
theorem dX12_reads_5 : decode cX12_reads 5 = .ok (.aload_n 0, 1) := oc_42 5 (aq_5 shX12_reads_0)
theorem dX12_reads_6 : decode cX12_reads 6 = .ok (.iload_n 2, 1) := oc_28 6 (aq_6 shX12_reads_0)
theorem dX12_reads_7 : decode cX12_reads 7 = .ok (.putfield 236, 3) := oc_181 7 (aq_7 shX12_reads_0) uw_0_236
theorem dX12_reads_10 : decode cX12_reads 10 = .ok (.aload_n 0, 1) := oc_42 10 (aq_10 shX12_reads_0)
theorem dX12_reads_11 : decode cX12_reads 11 = .ok (.iconst 0, 1) := oc_3 11 (aq_11 shX12_reads_0)
theorem dX12_reads_12 : decode cX12_reads 12 = .ok (.putfield 257, 3) := oc_181 12 (aq_12 shX12_reads_0) uw_1_1
theorem dX12_reads_15 : decode cX12_reads 15 = .ok (.aload_n 0, 1) := oc_42 15 (aq_15 shX12_reads_0)
theorem dX12_reads_16 : decode cX12_reads 16 = .ok (.iconst 0, 1) := oc_3 16 (aq_16 shX12_reads_0)
theorem dX12_reads_17 : decode cX12_reads 17 = .ok (.putfield 312, 3) := oc_181 17 (aq_17 shX12_reads_0) uw_1_56
theorem dX12_reads_20 : decode cX12_reads 20 = .ok (.aload_n 0, 1) := oc_42 20 (aq_20 shX12_reads_0)
theorem dX12_reads_21 : decode cX12_reads 21 = .ok (.iload_n 1, 1) := oc_27 21 (aq_21 shX12_reads_0)
theorem dX12_reads_22 : decode cX12_reads 22 = .ok (.bipush 10, 2) := oc_16 22 (aq_22 shX12_reads_0) sgb_10
theorem dX12_reads_24 : decode cX12_reads 24 = .ok (.if_icmp .ne 7, 3) := oc_160 24 shX12_reads_24 sgw_0_7
theorem dX12_reads_27 : decode cX12_reads 27 = .ok (.iconst 1, 1) := oc_4 27 (aq_3 shX12_reads_24)
theorem dX12_reads_28 : decode cX12_reads 28 = .ok (.goto 4, 3) := oc_167 28 (aq_4 shX12_reads_24) sgw_0_4
theorem dX12_reads_31 : decode cX12_reads 31 = .ok (.iconst 0, 1) := oc_3 31 (aq_7 shX12_reads_24)
theorem dX12_reads_32 : decode cX12_reads 32 = .ok (.invokevirtual 318, 3) := oc_182 32 (aq_8 shX12_reads_24) uw_1_62
theorem dX12_reads_35 : decode cX12_reads 35 = .ok (.istore_n 3, 1) := oc_62 35 (aq_11 shX12_reads_24)
theorem dX12_reads_36 : decode cX12_reads 36 = .ok (.iload_n 3, 1) := oc_29 36 (aq_12 shX12_reads_24)
theorem dX12_reads_37 : decode cX12_reads 37 = .ok (.ifCond .eq 50, 3) := oc_153 37 (aq_13 shX12_reads_24) sgw_0_50
theorem dX12_reads_40 : decode cX12_reads 40 = .ok (.aload_n 0, 1) := oc_42 40 (aq_16 shX12_reads_24)
theorem dX12_reads_41 : decode cX12_reads 41 = .ok (.getfield 233, 3) := oc_180 41 (aq_17 shX12_reads_24) uw_0_233
theorem dX12_reads_44 : decode cX12_reads 44 = .ok (.aload_n 0, 1) := oc_42 44 (aq_20 shX12_reads_24)
theorem dX12_reads_45 : decode cX12_reads 45 = .ok (.getfield 236, 3) := oc_180 45 (aq_21 shX12_reads_24) uw_0_236
theorem dX12_reads_48 : decode cX12_reads 48 = .ok (.if_icmp .ge 39, 3) := oc_162 48 shX12_reads_48 sgw_0_39
theorem dX12_reads_51 : decode cX12_reads 51 = .ok (.aload_n 0, 1) := oc_42 51 (aq_3 shX12_reads_48)
theorem dX12_reads_52 : decode cX12_reads 52 = .ok (.bipush 59, 2) := oc_16 52 (aq_4 shX12_reads_48) sgb_59
theorem dX12_reads_54 : decode cX12_reads 54 = .ok (.invokevirtual 322, 3) := oc_182 54 (aq_6 shX12_reads_48) uw_1_66
theorem dX12_reads_57 : decode cX12_reads 57 = .ok (.ifCond .eq 25, 3) := oc_153 57 (aq_9 shX12_reads_48) sgw_0_25
theorem dX12_reads_60 : decode cX12_reads 60 = .ok (.aload_n 0, 1) := oc_42 60 (aq_12 shX12_reads_48)
theorem dX12_reads_61 : decode cX12_reads 61 = .ok (.iload_n 1, 1) := oc_27 61 (aq_13 shX12_reads_48)
theorem dX12_reads_62 : decode cX12_reads 62 = .ok (.bipush 10, 2) := oc_16 62 (aq_14 shX12_reads_48) sgb_10
theorem dX12_reads_64 : decode cX12_reads 64 = .ok (.if_icmp .ne 7, 3) := oc_160 64 (aq_16 shX12_reads_48) sgw_0_7
theorem dX12_reads_67 : decode cX12_reads 67 = .ok (.iconst 1, 1) := oc_4 67 (aq_19 shX12_reads_48)
theorem dX12_reads_68 : decode cX12_reads 68 = .ok (.goto 4, 3) := oc_167 68 (aq_20 shX12_reads_48) sgw_0_4
theorem dX12_reads_71 : decode cX12_reads 71 = .ok (.iconst 0, 1) := oc_3 71 (aq_23 shX12_reads_48)
theorem dX12_reads_72 : decode cX12_reads 72 = .ok (.invokevirtual 318, 3) := oc_182 72 shX12_reads_72 uw_1_62
theorem dX12_reads_75 : decode cX12_reads 75 = .ok (.ifCond .eq 7, 3) := oc_153 75 (aq_3 shX12_reads_72) sgw_0_7
theorem dX12_reads_78 : decode cX12_reads 78 = .ok (.iconst 1, 1) := oc_4 78 (aq_6 shX12_reads_72)
theorem dX12_reads_79 : decode cX12_reads 79 = .ok (.goto 4, 3) := oc_167 79 (aq_7 shX12_reads_72) sgw_0_4
theorem dX12_reads_82 : decode cX12_reads 82 = .ok (.iconst 0, 1) := oc_3 82 (aq_10 shX12_reads_72)
theorem dX12_reads_83 : decode cX12_reads 83 = .ok (.istore_n 3, 1) := oc_62 83 (aq_11 shX12_reads_72)
theorem dX12_reads_84 : decode cX12_reads 84 = .ok (.goto (-48), 3) := oc_167 84 (aq_12 shX12_reads_72) sgw_255_208
theorem dX12_reads_87 : decode cX12_reads 87 = .ok (.aload_n 0, 1) := oc_42 87 (aq_15 shX12_reads_72)
theorem dX12_reads_88 : decode cX12_reads 88 = .ok (.iconst 0, 1) := oc_3 88 (aq_16 shX12_reads_72)
theorem dX12_reads_89 : decode cX12_reads 89 = .ok (.putfield 226, 3) := oc_181 89 (aq_17 shX12_reads_72) uw_0_226
theorem dX12_reads_92 : decode cX12_reads 92 = .ok (.iload_n 3, 1) := oc_29 92 (aq_20 shX12_reads_72)
theorem dX12_reads_93 : decode cX12_reads 93 = .ok (.ifCond .ne 8, 3) := oc_154 93 (aq_21 shX12_reads_72) sgw_0_8
theorem dX12_reads_96 : decode cX12_reads 96 = .ok (.aload_n 0, 1) := oc_42 96 shX12_reads_96
theorem dX12_reads_97 : decode cX12_reads 97 = .ok (.getfield 243, 3) := oc_180 97 (aq_1 shX12_reads_96) uw_0_243
theorem dX12_reads_100 : decode cX12_reads 100 = .ok (.ireturn, 1) := oc_172 100 (aq_4 shX12_reads_96)
theorem dX12_reads_101 : decode cX12_reads 101 = .ok (.aload_n 0, 1) := oc_42 101 (aq_5 shX12_reads_96)
theorem dX12_reads_102 : decode cX12_reads 102 = .ok (.getfield 74, 3) := oc_180 102 (aq_6 shX12_reads_96) uw_0_74
theorem dX12_reads_105 : decode cX12_reads 105 = .ok (.iload_n 1, 1) := oc_27 105 (aq_9 shX12_reads_96)
theorem dX12_reads_106 : decode cX12_reads 106 = .ok (.aload_n 0, 1) := oc_42 106 (aq_10 shX12_reads_96)
theorem dX12_reads_107 : decode cX12_reads 107 = .ok (.getfield 312, 3) := oc_180 107 (aq_11 shX12_reads_96) uw_1_56
theorem dX12_reads_110 : decode cX12_reads 110 = .ok (.iastore, 1) := oc_79 110 (aq_14 shX12_reads_96)
theorem dX12_reads_111 : decode cX12_reads 111 = .ok (.iconst 0, 1) := oc_3 111 (aq_15 shX12_reads_96)
theorem dX12_reads_112 : decode cX12_reads 112 = .ok (.istore 4, 2) := oc_54 112 (aq_16 shX12_reads_96) ub_4
theorem dX12_reads_114 : decode cX12_reads 114 = .ok (.iload 4, 2) := oc_21 114 (aq_18 shX12_reads_96) ub_4
theorem dX12_reads_116 : decode cX12_reads 116 = .ok (.aload_n 0, 1) := oc_42 116 (aq_20 shX12_reads_96)
theorem dX12_reads_117 : decode cX12_reads 117 = .ok (.getfield 257, 3) := oc_180 117 (aq_21 shX12_reads_96) uw_1_1
theorem dX12_reads_120 : decode cX12_reads 120 = .ok (.if_icmp .ge 29, 3) := oc_162 120 shX12_reads_120 sgw_0_29
theorem dX12_reads_123 : decode cX12_reads 123 = .ok (.aload_n 0, 1) := oc_42 123 (aq_3 shX12_reads_120)
theorem dX12_reads_124 : decode cX12_reads 124 = .ok (.getfield 71, 3) := oc_180 124 (aq_4 shX12_reads_120) uw_0_71
theorem dX12_reads_127 : decode cX12_reads 127 = .ok (.sipush 180, 3) := oc_17 127 (aq_7 shX12_reads_120) sgw_0_180
theorem dX12_reads_130 : decode cX12_reads 130 = .ok (.iload_n 1, 1) := oc_27 130 (aq_10 shX12_reads_120)
theorem dX12_reads_131 : decode cX12_reads 131 = .ok (.imul, 1) := oc_104 131 (aq_11 shX12_reads_120)
theorem dX12_reads_132 : decode cX12_reads 132 = .ok (.iload 4, 2) := oc_21 132 (aq_12 shX12_reads_120) ub_4
theorem dX12_reads_134 : decode cX12_reads 134 = .ok (.iadd, 1) := oc_96 134 (aq_14 shX12_reads_120)
theorem dX12_reads_135 : decode cX12_reads 135 = .ok (.aload_n 0, 1) := oc_42 135 (aq_15 shX12_reads_120)
theorem dX12_reads_136 : decode cX12_reads 136 = .ok (.getfield 56, 3) := oc_180 136 (aq_16 shX12_reads_120) uw_0_56
theorem dX12_reads_139 : decode cX12_reads 139 = .ok (.iload 4, 2) := oc_21 139 (aq_19 shX12_reads_120) ub_4
theorem dX12_reads_141 : decode cX12_reads 141 = .ok (.iaload, 1) := oc_46 141 (aq_21 shX12_reads_120)
theorem dX12_reads_142 : decode cX12_reads 142 = .ok (.iastore, 1) := oc_79 142 (aq_22 shX12_reads_120)
theorem dX12_reads_143 : decode cX12_reads 143 = .ok (.iinc 4 1, 3) := oc_132 143 (aq_23 shX12_reads_120) ub_4 sgb_1
theorem dX12_reads_146 : decode cX12_reads 146 = .ok (.goto (-32), 3) := oc_167 146 shX12_reads_146 sgw_255_224
theorem dX12_reads_149 : decode cX12_reads 149 = .ok (.iconst 0, 1) := oc_3 149 (aq_3 shX12_reads_146)
theorem dX12_reads_150 : decode cX12_reads 150 = .ok (.istore 4, 2) := oc_54 150 (aq_4 shX12_reads_146) ub_4
theorem dX12_reads_152 : decode cX12_reads 152 = .ok (.iload 4, 2) := oc_21 152 (aq_6 shX12_reads_146) ub_4
theorem dX12_reads_154 : decode cX12_reads 154 = .ok (.aload_n 0, 1) := oc_42 154 (aq_8 shX12_reads_146)
theorem dX12_reads_155 : decode cX12_reads 155 = .ok (.getfield 312, 3) := oc_180 155 (aq_9 shX12_reads_146) uw_1_56
theorem dX12_reads_158 : decode cX12_reads 158 = .ok (.if_icmp .ge 78, 3) := oc_162 158 (aq_12 shX12_reads_146) sgw_0_78
theorem dX12_reads_161 : decode cX12_reads 161 = .ok (.bipush 12, 2) := oc_16 161 (aq_15 shX12_reads_146) sgb_12
theorem dX12_reads_163 : decode cX12_reads 163 = .ok (.iload_n 1, 1) := oc_27 163 (aq_17 shX12_reads_146)
theorem dX12_reads_164 : decode cX12_reads 164 = .ok (.imul, 1) := oc_104 164 (aq_18 shX12_reads_146)
theorem dX12_reads_165 : decode cX12_reads 165 = .ok (.iload 4, 2) := oc_21 165 (aq_19 shX12_reads_146) ub_4
theorem dX12_reads_167 : decode cX12_reads 167 = .ok (.iadd, 1) := oc_96 167 (aq_21 shX12_reads_146)
theorem dX12_reads_168 : decode cX12_reads 168 = .ok (.istore 5, 2) := oc_54 168 (aq_22 shX12_reads_146) ub_5
theorem dX12_reads_170 : decode cX12_reads 170 = .ok (.aload_n 0, 1) := oc_42 170 shX12_reads_170
theorem dX12_reads_171 : decode cX12_reads 171 = .ok (.getfield 77, 3) := oc_180 171 (aq_1 shX12_reads_170) uw_0_77
theorem dX12_reads_174 : decode cX12_reads 174 = .ok (.iload 5, 2) := oc_21 174 (aq_4 shX12_reads_170) ub_5
theorem dX12_reads_176 : decode cX12_reads 176 = .ok (.sipush 180, 3) := oc_17 176 (aq_6 shX12_reads_170) sgw_0_180
theorem dX12_reads_179 : decode cX12_reads 179 = .ok (.iload_n 1, 1) := oc_27 179 (aq_9 shX12_reads_170)
theorem dX12_reads_180 : decode cX12_reads 180 = .ok (.imul, 1) := oc_104 180 (aq_10 shX12_reads_170)
theorem dX12_reads_181 : decode cX12_reads 181 = .ok (.aload_n 0, 1) := oc_42 181 (aq_11 shX12_reads_170)
theorem dX12_reads_182 : decode cX12_reads 182 = .ok (.getfield 62, 3) := oc_180 182 (aq_12 shX12_reads_170) uw_0_62
theorem dX12_reads_185 : decode cX12_reads 185 = .ok (.iload 4, 2) := oc_21 185 (aq_15 shX12_reads_170) ub_4
theorem dX12_reads_187 : decode cX12_reads 187 = .ok (.iaload, 1) := oc_46 187 (aq_17 shX12_reads_170)
theorem dX12_reads_188 : decode cX12_reads 188 = .ok (.iadd, 1) := oc_96 188 (aq_18 shX12_reads_170)
theorem dX12_reads_189 : decode cX12_reads 189 = .ok (.iastore, 1) := oc_79 189 (aq_19 shX12_reads_170)
theorem dX12_reads_190 : decode cX12_reads 190 = .ok (.aload_n 0, 1) := oc_42 190 (aq_20 shX12_reads_170)
theorem dX12_reads_191 : decode cX12_reads 191 = .ok (.getfield 80, 3) := oc_180 191 (aq_21 shX12_reads_170) uw_0_80
theorem dX12_reads_194 : decode cX12_reads 194 = .ok (.iload 5, 2) := oc_21 194 shX12_reads_194 ub_5
theorem dX12_reads_196 : decode cX12_reads 196 = .ok (.sipush 180, 3) := oc_17 196 (aq_2 shX12_reads_194) sgw_0_180
theorem dX12_reads_199 : decode cX12_reads 199 = .ok (.iload_n 1, 1) := oc_27 199 (aq_5 shX12_reads_194)
theorem dX12_reads_200 : decode cX12_reads 200 = .ok (.imul, 1) := oc_104 200 (aq_6 shX12_reads_194)
theorem dX12_reads_201 : decode cX12_reads 201 = .ok (.aload_n 0, 1) := oc_42 201 (aq_7 shX12_reads_194)
theorem dX12_reads_202 : decode cX12_reads 202 = .ok (.getfield 65, 3) := oc_180 202 (aq_8 shX12_reads_194) uw_0_65
theorem dX12_reads_205 : decode cX12_reads 205 = .ok (.iload 4, 2) := oc_21 205 (aq_11 shX12_reads_194) ub_4
theorem dX12_reads_207 : decode cX12_reads 207 = .ok (.iaload, 1) := oc_46 207 (aq_13 shX12_reads_194)
theorem dX12_reads_208 : decode cX12_reads 208 = .ok (.iadd, 1) := oc_96 208 (aq_14 shX12_reads_194)
theorem dX12_reads_209 : decode cX12_reads 209 = .ok (.iastore, 1) := oc_79 209 (aq_15 shX12_reads_194)
theorem dX12_reads_210 : decode cX12_reads 210 = .ok (.aload_n 0, 1) := oc_42 210 (aq_16 shX12_reads_194)
theorem dX12_reads_211 : decode cX12_reads 211 = .ok (.getfield 83, 3) := oc_180 211 (aq_17 shX12_reads_194) uw_0_83
theorem dX12_reads_214 : decode cX12_reads 214 = .ok (.iload 5, 2) := oc_21 214 (aq_20 shX12_reads_194) ub_5
theorem dX12_reads_216 : decode cX12_reads 216 = .ok (.sipush 180, 3) := oc_17 216 (aq_22 shX12_reads_194) sgw_0_180
theorem dX12_reads_219 : decode cX12_reads 219 = .ok (.iload_n 1, 1) := oc_27 219 shX12_reads_219
theorem dX12_reads_220 : decode cX12_reads 220 = .ok (.imul, 1) := oc_104 220 (aq_1 shX12_reads_219)
theorem dX12_reads_221 : decode cX12_reads 221 = .ok (.aload_n 0, 1) := oc_42 221 (aq_2 shX12_reads_219)
theorem dX12_reads_222 : decode cX12_reads 222 = .ok (.getfield 68, 3) := oc_180 222 (aq_3 shX12_reads_219) uw_0_68
theorem dX12_reads_225 : decode cX12_reads 225 = .ok (.iload 4, 2) := oc_21 225 (aq_6 shX12_reads_219) ub_4
theorem dX12_reads_227 : decode cX12_reads 227 = .ok (.iaload, 1) := oc_46 227 (aq_8 shX12_reads_219)
theorem dX12_reads_228 : decode cX12_reads 228 = .ok (.iadd, 1) := oc_96 228 (aq_9 shX12_reads_219)
theorem dX12_reads_229 : decode cX12_reads 229 = .ok (.iastore, 1) := oc_79 229 (aq_10 shX12_reads_219)
theorem dX12_reads_230 : decode cX12_reads 230 = .ok (.iinc 4 1, 3) := oc_132 230 (aq_11 shX12_reads_219) ub_4 sgb_1
theorem dX12_reads_233 : decode cX12_reads 233 = .ok (.goto (-81), 3) := oc_167 233 (aq_14 shX12_reads_219) sgw_255_175
theorem dX12_reads_236 : decode cX12_reads 236 = .ok (.aload_n 0, 1) := oc_42 236 (aq_17 shX12_reads_219)
theorem dX12_reads_237 : decode cX12_reads 237 = .ok (.getfield 312, 3) := oc_180 237 (aq_18 shX12_reads_219) uw_1_56
theorem dX12_reads_240 : decode cX12_reads 240 = .ok (.ireturn, 1) := oc_172 240 (aq_21 shX12_reads_219)
noncomputable def sxX12_contract_38 : List UInt8 := []
noncomputable def sxX12_contract_24 : List UInt8 := 164 :: 0 :: 7 :: 2 :: 167 :: 0 :: 9 :: 42 :: 27 :: 28 :: 182 :: 1 :: 68 :: 172 :: sxX12_contract_38
theorem shX12_contract_0 : cX12_contract.data.toList.drop 0 = 42 :: 27 :: 182 :: 0 :: 218 :: 153 :: 0 :: 22 :: 28 :: 4 :: 17 :: 0 :: 160 :: 184 :: 0 :: 214 :: 153 :: 0 :: 11 :: 28 :: 42 :: 180 :: 0 :: 226 :: sxX12_contract_24 := rfl
theorem shX12_contract_24 : cX12_contract.data.toList.drop 24 = 164 :: 0 :: 7 :: 2 :: 167 :: 0 :: 9 :: 42 :: 27 :: 28 :: 182 :: 1 :: 68 :: 172 :: sxX12_contract_38 := aq_24 shX12_contract_0
theorem dX12_contract_0 : decode cX12_contract 0 = .ok (.aload_n 0, 1) := oc_42 0 shX12_contract_0
theorem dX12_contract_1 : decode cX12_contract 1 = .ok (.iload_n 1, 1) := oc_27 1 (aq_1 shX12_contract_0)
theorem dX12_contract_2 : decode cX12_contract 2 = .ok (.invokevirtual 218, 3) := oc_182 2 (aq_2 shX12_contract_0) uw_0_218
theorem dX12_contract_5 : decode cX12_contract 5 = .ok (.ifCond .eq 22, 3) := oc_153 5 (aq_5 shX12_contract_0) sgw_0_22
theorem dX12_contract_8 : decode cX12_contract 8 = .ok (.iload_n 2, 1) := oc_28 8 (aq_8 shX12_contract_0)
theorem dX12_contract_9 : decode cX12_contract 9 = .ok (.iconst 1, 1) := oc_4 9 (aq_9 shX12_contract_0)
theorem dX12_contract_10 : decode cX12_contract 10 = .ok (.sipush 160, 3) := oc_17 10 (aq_10 shX12_contract_0) sgw_0_160
theorem dX12_contract_13 : decode cX12_contract 13 = .ok (.invokestatic 214, 3) := oc_184 13 (aq_13 shX12_contract_0) uw_0_214
theorem dX12_contract_16 : decode cX12_contract 16 = .ok (.ifCond .eq 11, 3) := oc_153 16 (aq_16 shX12_contract_0) sgw_0_11
theorem dX12_contract_19 : decode cX12_contract 19 = .ok (.iload_n 2, 1) := oc_28 19 (aq_19 shX12_contract_0)
theorem dX12_contract_20 : decode cX12_contract 20 = .ok (.aload_n 0, 1) := oc_42 20 (aq_20 shX12_contract_0)
theorem dX12_contract_21 : decode cX12_contract 21 = .ok (.getfield 226, 3) := oc_180 21 (aq_21 shX12_contract_0) uw_0_226
theorem dX12_contract_24 : decode cX12_contract 24 = .ok (.if_icmp .le 7, 3) := oc_164 24 shX12_contract_24 sgw_0_7
theorem dX12_contract_27 : decode cX12_contract 27 = .ok (.iconst (-1), 1) := oc_2 27 (aq_3 shX12_contract_24)
theorem dX12_contract_28 : decode cX12_contract 28 = .ok (.goto 9, 3) := oc_167 28 (aq_4 shX12_contract_24) sgw_0_9
theorem dX12_contract_31 : decode cX12_contract 31 = .ok (.aload_n 0, 1) := oc_42 31 (aq_7 shX12_contract_24)
theorem dX12_contract_32 : decode cX12_contract 32 = .ok (.iload_n 1, 1) := oc_27 32 (aq_8 shX12_contract_24)
theorem dX12_contract_33 : decode cX12_contract 33 = .ok (.iload_n 2, 1) := oc_28 33 (aq_9 shX12_contract_24)
theorem dX12_contract_34 : decode cX12_contract 34 = .ok (.invokevirtual 324, 3) := oc_182 34 (aq_10 shX12_contract_24) uw_1_68
theorem dX12_contract_37 : decode cX12_contract 37 = .ok (.ireturn, 1) := oc_172 37 (aq_13 shX12_contract_24)
noncomputable def sxX12_law_31 : List UInt8 := []
noncomputable def sxX12_law_24 : List UInt8 := 16 :: 10 :: 27 :: 182 :: 1 :: 68 :: 172 :: sxX12_law_31
theorem shX12_law_0 : cX12_law.data.toList.drop 0 = 27 :: 4 :: 17 :: 0 :: 160 :: 184 :: 0 :: 214 :: 153 :: 0 :: 11 :: 27 :: 42 :: 180 :: 0 :: 226 :: 164 :: 0 :: 7 :: 2 :: 167 :: 0 :: 10 :: 42 :: sxX12_law_24 := rfl
theorem shX12_law_24 : cX12_law.data.toList.drop 24 = 16 :: 10 :: 27 :: 182 :: 1 :: 68 :: 172 :: sxX12_law_31 := aq_24 shX12_law_0
theorem dX12_law_0 : decode cX12_law 0 = .ok (.iload_n 1, 1) := oc_27 0 shX12_law_0
theorem dX12_law_1 : decode cX12_law 1 = .ok (.iconst 1, 1) := oc_4 1 (aq_1 shX12_law_0)
theorem dX12_law_2 : decode cX12_law 2 = .ok (.sipush 160, 3) := oc_17 2 (aq_2 shX12_law_0) sgw_0_160
theorem dX12_law_5 : decode cX12_law 5 = .ok (.invokestatic 214, 3) := oc_184 5 (aq_5 shX12_law_0) uw_0_214
theorem dX12_law_8 : decode cX12_law 8 = .ok (.ifCond .eq 11, 3) := oc_153 8 (aq_8 shX12_law_0) sgw_0_11
theorem dX12_law_11 : decode cX12_law 11 = .ok (.iload_n 1, 1) := oc_27 11 (aq_11 shX12_law_0)
theorem dX12_law_12 : decode cX12_law 12 = .ok (.aload_n 0, 1) := oc_42 12 (aq_12 shX12_law_0)
theorem dX12_law_13 : decode cX12_law 13 = .ok (.getfield 226, 3) := oc_180 13 (aq_13 shX12_law_0) uw_0_226
theorem dX12_law_16 : decode cX12_law 16 = .ok (.if_icmp .le 7, 3) := oc_164 16 (aq_16 shX12_law_0) sgw_0_7
theorem dX12_law_19 : decode cX12_law 19 = .ok (.iconst (-1), 1) := oc_2 19 (aq_19 shX12_law_0)
theorem dX12_law_20 : decode cX12_law 20 = .ok (.goto 10, 3) := oc_167 20 (aq_20 shX12_law_0) sgw_0_10
theorem dX12_law_23 : decode cX12_law 23 = .ok (.aload_n 0, 1) := oc_42 23 (aq_23 shX12_law_0)
theorem dX12_law_24 : decode cX12_law 24 = .ok (.bipush 10, 2) := oc_16 24 shX12_law_24 sgb_10
theorem dX12_law_26 : decode cX12_law 26 = .ok (.iload_n 1, 1) := oc_27 26 (aq_2 shX12_law_24)
theorem dX12_law_27 : decode cX12_law 27 = .ok (.invokevirtual 324, 3) := oc_182 27 (aq_3 shX12_law_24) uw_1_68
theorem dX12_law_30 : decode cX12_law 30 = .ok (.ireturn, 1) := oc_172 30 (aq_6 shX12_law_24)
noncomputable def sxX12_reckon_97 : List UInt8 := []
noncomputable def sxX12_reckon_95 : List UInt8 := 3 :: 172 :: sxX12_reckon_97
noncomputable def sxX12_reckon_69 : List UInt8 := 4 :: 167 :: 0 :: 4 :: 3 :: 172 :: 27 :: 28 :: 164 :: 0 :: 7 :: 4 :: 167 :: 0 :: 4 :: 3 :: 172 :: 27 :: 28 :: 160 :: 0 :: 7 :: 4 :: 167 :: 0 :: 4 :: sxX12_reckon_95
noncomputable def sxX12_reckon_44 : List UInt8 := 27 :: 28 :: 96 :: 172 :: 27 :: 28 :: 100 :: 172 :: 27 :: 28 :: 104 :: 172 :: 27 :: 28 :: 108 :: 172 :: 27 :: 28 :: 112 :: 172 :: 27 :: 28 :: 162 :: 0 :: 7 :: sxX12_reckon_69
theorem shX12_reckon_0 : cX12_reckon.data.toList.drop 0 = 26 :: 170 :: 0 :: 0 :: 0 :: 0 :: 0 :: 85 :: 0 :: 0 :: 0 :: 2 :: 0 :: 0 :: 0 :: 8 :: 0 :: 0 :: 0 :: 43 :: 0 :: 0 :: 0 :: 47 :: 0 :: 0 :: 0 :: 51 :: 0 :: 0 :: 0 :: 55 :: 0 :: 0 :: 0 :: 59 :: 0 :: 0 :: 0 :: 63 :: 0 :: 0 :: 0 :: 74 :: sxX12_reckon_44 := rfl
theorem shX12_reckon_44 : cX12_reckon.data.toList.drop 44 = 27 :: 28 :: 96 :: 172 :: 27 :: 28 :: 100 :: 172 :: 27 :: 28 :: 104 :: 172 :: 27 :: 28 :: 108 :: 172 :: 27 :: 28 :: 112 :: 172 :: 27 :: 28 :: 162 :: 0 :: 7 :: sxX12_reckon_69 := dSn 44 shX12_reckon_0
theorem shX12_reckon_69 : cX12_reckon.data.toList.drop 69 = 4 :: 167 :: 0 :: 4 :: 3 :: 172 :: 27 :: 28 :: 164 :: 0 :: 7 :: 4 :: 167 :: 0 :: 4 :: 3 :: 172 :: 27 :: 28 :: 160 :: 0 :: 7 :: 4 :: 167 :: 0 :: 4 :: sxX12_reckon_95 := aq_25 shX12_reckon_44
theorem shX12_reckon_95 : cX12_reckon.data.toList.drop 95 = 3 :: 172 :: sxX12_reckon_97 := aq_26 shX12_reckon_69
theorem dX12_reckon_0 : decode cX12_reckon 0 = .ok (.iload_n 0, 1) := oc_26 0 shX12_reckon_0
theorem dX12_reckon_1 : decode cX12_reckon 1 = .ok (.tableswitch 85 2 8 #[43, 47, 51, 55, 59, 63, 74], 43) := by decide +kernel
theorem dX12_reckon_74 : decode cX12_reckon 74 = .ok (.ireturn, 1) := oc_172 74 (aq_5 shX12_reckon_69)
theorem dX12_reckon_85 : decode cX12_reckon 85 = .ok (.ireturn, 1) := oc_172 85 (aq_16 shX12_reckon_69)
theorem dX12_reckon_96 : decode cX12_reckon 96 = .ok (.ireturn, 1) := oc_172 96 (aq_1 shX12_reckon_95)
noncomputable def sxX12_comesTo_242 : List UInt8 := []
noncomputable def sxX12_comesTo_219 : List UInt8 := 4 :: 100 :: 46 :: 42 :: 180 :: 0 :: 86 :: 29 :: 46 :: 184 :: 1 :: 71 :: 79 :: 167 :: 255 :: 40 :: 42 :: 180 :: 0 :: 86 :: 3 :: 46 :: 172 :: sxX12_comesTo_242
noncomputable def sxX12_comesTo_195 : List UInt8 := 180 :: 0 :: 86 :: 29 :: 46 :: 154 :: 0 :: 5 :: 3 :: 172 :: 42 :: 180 :: 0 :: 86 :: 29 :: 4 :: 100 :: 21 :: 6 :: 42 :: 180 :: 0 :: 86 :: 29 :: sxX12_comesTo_219
noncomputable def sxX12_comesTo_171 : List UInt8 := 4 :: 100 :: 62 :: 167 :: 0 :: 58 :: 29 :: 4 :: 100 :: 62 :: 21 :: 6 :: 8 :: 159 :: 0 :: 10 :: 21 :: 6 :: 16 :: 6 :: 160 :: 0 :: 14 :: 42 :: sxX12_comesTo_195
noncomputable def sxX12_comesTo_147 : List UInt8 := 16 :: 12 :: 160 :: 0 :: 7 :: 4 :: 167 :: 0 :: 4 :: 3 :: 160 :: 0 :: 13 :: 21 :: 4 :: 21 :: 7 :: 96 :: 54 :: 5 :: 167 :: 0 :: 65 :: 29 :: sxX12_comesTo_171
noncomputable def sxX12_comesTo_123 : List UInt8 := 21 :: 6 :: 16 :: 11 :: 159 :: 0 :: 10 :: 21 :: 6 :: 16 :: 12 :: 160 :: 0 :: 43 :: 42 :: 180 :: 0 :: 86 :: 29 :: 4 :: 100 :: 46 :: 21 :: 6 :: sxX12_comesTo_147
noncomputable def sxX12_comesTo_99 : List UInt8 := 160 :: 0 :: 24 :: 42 :: 180 :: 0 :: 86 :: 29 :: 4 :: 100 :: 4 :: 42 :: 180 :: 0 :: 86 :: 29 :: 4 :: 100 :: 46 :: 100 :: 79 :: 167 :: 0 :: 112 :: sxX12_comesTo_123
noncomputable def sxX12_comesTo_75 : List UInt8 := 21 :: 7 :: 167 :: 0 :: 10 :: 42 :: 180 :: 0 :: 89 :: 21 :: 7 :: 46 :: 79 :: 29 :: 4 :: 96 :: 62 :: 167 :: 0 :: 140 :: 21 :: 6 :: 16 :: 10 :: sxX12_comesTo_99
noncomputable def sxX12_comesTo_50 : List UInt8 := 4 :: 96 :: 54 :: 5 :: 21 :: 6 :: 153 :: 0 :: 9 :: 21 :: 6 :: 4 :: 160 :: 0 :: 33 :: 42 :: 180 :: 0 :: 86 :: 29 :: 21 :: 6 :: 154 :: 0 :: 8 :: sxX12_comesTo_75
noncomputable def sxX12_comesTo_26 : List UInt8 := 21 :: 5 :: 46 :: 19 :: 1 :: 4 :: 108 :: 54 :: 6 :: 42 :: 180 :: 0 :: 71 :: 21 :: 5 :: 46 :: 19 :: 1 :: 4 :: 112 :: 54 :: 7 :: 21 :: 5 :: sxX12_comesTo_50
theorem shX12_comesTo_0 : cX12_comesTo.data.toList.drop 0 = 3 :: 62 :: 17 :: 0 :: 180 :: 27 :: 17 :: 0 :: 180 :: 108 :: 104 :: 54 :: 4 :: 27 :: 54 :: 5 :: 21 :: 5 :: 28 :: 162 :: 0 :: 216 :: 42 :: 180 :: 0 :: 71 :: sxX12_comesTo_26 := rfl
theorem shX12_comesTo_26 : cX12_comesTo.data.toList.drop 26 = 21 :: 5 :: 46 :: 19 :: 1 :: 4 :: 108 :: 54 :: 6 :: 42 :: 180 :: 0 :: 71 :: 21 :: 5 :: 46 :: 19 :: 1 :: 4 :: 112 :: 54 :: 7 :: 21 :: 5 :: sxX12_comesTo_50 := aq_26 shX12_comesTo_0
theorem shX12_comesTo_50 : cX12_comesTo.data.toList.drop 50 = 4 :: 96 :: 54 :: 5 :: 21 :: 6 :: 153 :: 0 :: 9 :: 21 :: 6 :: 4 :: 160 :: 0 :: 33 :: 42 :: 180 :: 0 :: 86 :: 29 :: 21 :: 6 :: 154 :: 0 :: 8 :: sxX12_comesTo_75 := aq_24 shX12_comesTo_26
theorem shX12_comesTo_75 : cX12_comesTo.data.toList.drop 75 = 21 :: 7 :: 167 :: 0 :: 10 :: 42 :: 180 :: 0 :: 89 :: 21 :: 7 :: 46 :: 79 :: 29 :: 4 :: 96 :: 62 :: 167 :: 0 :: 140 :: 21 :: 6 :: 16 :: 10 :: sxX12_comesTo_99 := aq_25 shX12_comesTo_50
theorem shX12_comesTo_99 : cX12_comesTo.data.toList.drop 99 = 160 :: 0 :: 24 :: 42 :: 180 :: 0 :: 86 :: 29 :: 4 :: 100 :: 4 :: 42 :: 180 :: 0 :: 86 :: 29 :: 4 :: 100 :: 46 :: 100 :: 79 :: 167 :: 0 :: 112 :: sxX12_comesTo_123 := aq_24 shX12_comesTo_75
theorem shX12_comesTo_123 : cX12_comesTo.data.toList.drop 123 = 21 :: 6 :: 16 :: 11 :: 159 :: 0 :: 10 :: 21 :: 6 :: 16 :: 12 :: 160 :: 0 :: 43 :: 42 :: 180 :: 0 :: 86 :: 29 :: 4 :: 100 :: 46 :: 21 :: 6 :: sxX12_comesTo_147 := aq_24 shX12_comesTo_99
theorem shX12_comesTo_147 : cX12_comesTo.data.toList.drop 147 = 16 :: 12 :: 160 :: 0 :: 7 :: 4 :: 167 :: 0 :: 4 :: 3 :: 160 :: 0 :: 13 :: 21 :: 4 :: 21 :: 7 :: 96 :: 54 :: 5 :: 167 :: 0 :: 65 :: 29 :: sxX12_comesTo_171 := aq_24 shX12_comesTo_123
theorem shX12_comesTo_171 : cX12_comesTo.data.toList.drop 171 = 4 :: 100 :: 62 :: 167 :: 0 :: 58 :: 29 :: 4 :: 100 :: 62 :: 21 :: 6 :: 8 :: 159 :: 0 :: 10 :: 21 :: 6 :: 16 :: 6 :: 160 :: 0 :: 14 :: 42 :: sxX12_comesTo_195 := aq_24 shX12_comesTo_147
theorem shX12_comesTo_195 : cX12_comesTo.data.toList.drop 195 = 180 :: 0 :: 86 :: 29 :: 46 :: 154 :: 0 :: 5 :: 3 :: 172 :: 42 :: 180 :: 0 :: 86 :: 29 :: 4 :: 100 :: 21 :: 6 :: 42 :: 180 :: 0 :: 86 :: 29 :: sxX12_comesTo_219 := aq_24 shX12_comesTo_171
theorem shX12_comesTo_219 : cX12_comesTo.data.toList.drop 219 = 4 :: 100 :: 46 :: 42 :: 180 :: 0 :: 86 :: 29 :: 46 :: 184 :: 1 :: 71 :: 79 :: 167 :: 255 :: 40 :: 42 :: 180 :: 0 :: 86 :: 3 :: 46 :: 172 :: sxX12_comesTo_242 := aq_24 shX12_comesTo_195
theorem dX12_comesTo_48 : decode cX12_comesTo 48 = .ok (.iload 5, 2) := oc_21 48 (aq_22 shX12_comesTo_26) ub_5
theorem dX12_comesTo_50 : decode cX12_comesTo 50 = .ok (.iconst 1, 1) := oc_4 50 shX12_comesTo_50
theorem dX12_comesTo_51 : decode cX12_comesTo 51 = .ok (.iadd, 1) := oc_96 51 (aq_1 shX12_comesTo_50)
theorem dX12_comesTo_52 : decode cX12_comesTo 52 = .ok (.istore 5, 2) := oc_54 52 (aq_2 shX12_comesTo_50) ub_5
theorem dX12_comesTo_54 : decode cX12_comesTo 54 = .ok (.iload 6, 2) := oc_21 54 (aq_4 shX12_comesTo_50) ub_6
theorem dX12_comesTo_56 : decode cX12_comesTo 56 = .ok (.ifCond .eq 9, 3) := oc_153 56 (aq_6 shX12_comesTo_50) sgw_0_9
theorem dX12_comesTo_59 : decode cX12_comesTo 59 = .ok (.iload 6, 2) := oc_21 59 (aq_9 shX12_comesTo_50) ub_6
theorem dX12_comesTo_61 : decode cX12_comesTo 61 = .ok (.iconst 1, 1) := oc_4 61 (aq_11 shX12_comesTo_50)
theorem dX12_comesTo_62 : decode cX12_comesTo 62 = .ok (.if_icmp .ne 33, 3) := oc_160 62 (aq_12 shX12_comesTo_50) sgw_0_33
theorem dX12_comesTo_65 : decode cX12_comesTo 65 = .ok (.aload_n 0, 1) := oc_42 65 (aq_15 shX12_comesTo_50)
theorem dX12_comesTo_66 : decode cX12_comesTo 66 = .ok (.getfield 86, 3) := oc_180 66 (aq_16 shX12_comesTo_50) uw_0_86
theorem dX12_comesTo_69 : decode cX12_comesTo 69 = .ok (.iload_n 3, 1) := oc_29 69 (aq_19 shX12_comesTo_50)
theorem dX12_comesTo_70 : decode cX12_comesTo 70 = .ok (.iload 6, 2) := oc_21 70 (aq_20 shX12_comesTo_50) ub_6
theorem dX12_comesTo_72 : decode cX12_comesTo 72 = .ok (.ifCond .ne 8, 3) := oc_154 72 (aq_22 shX12_comesTo_50) sgw_0_8
theorem dX12_comesTo_87 : decode cX12_comesTo 87 = .ok (.iastore, 1) := oc_79 87 (aq_12 shX12_comesTo_75)
theorem dX12_comesTo_88 : decode cX12_comesTo 88 = .ok (.iload_n 3, 1) := oc_29 88 (aq_13 shX12_comesTo_75)
theorem dX12_comesTo_89 : decode cX12_comesTo 89 = .ok (.iconst 1, 1) := oc_4 89 (aq_14 shX12_comesTo_75)
theorem dX12_comesTo_90 : decode cX12_comesTo 90 = .ok (.iadd, 1) := oc_96 90 (aq_15 shX12_comesTo_75)
theorem dX12_comesTo_91 : decode cX12_comesTo 91 = .ok (.istore_n 3, 1) := oc_62 91 (aq_16 shX12_comesTo_75)
theorem dX12_comesTo_92 : decode cX12_comesTo 92 = .ok (.goto 140, 3) := oc_167 92 (aq_17 shX12_comesTo_75) sgw_0_140
theorem dX12_comesTo_95 : decode cX12_comesTo 95 = .ok (.iload 6, 2) := oc_21 95 (aq_20 shX12_comesTo_75) ub_6
theorem dX12_comesTo_97 : decode cX12_comesTo 97 = .ok (.bipush 10, 2) := oc_16 97 (aq_22 shX12_comesTo_75) sgb_10
theorem dX12_comesTo_99 : decode cX12_comesTo 99 = .ok (.if_icmp .ne 24, 3) := oc_160 99 shX12_comesTo_99 sgw_0_24
theorem dX12_comesTo_123 : decode cX12_comesTo 123 = .ok (.iload 6, 2) := oc_21 123 shX12_comesTo_123 ub_6
theorem dX12_comesTo_125 : decode cX12_comesTo 125 = .ok (.bipush 11, 2) := oc_16 125 (aq_2 shX12_comesTo_123) sgb_11
theorem dX12_comesTo_127 : decode cX12_comesTo 127 = .ok (.if_icmp .eq 10, 3) := oc_159 127 (aq_4 shX12_comesTo_123) sgw_0_10
theorem dX12_comesTo_130 : decode cX12_comesTo 130 = .ok (.iload 6, 2) := oc_21 130 (aq_7 shX12_comesTo_123) ub_6
theorem dX12_comesTo_132 : decode cX12_comesTo 132 = .ok (.bipush 12, 2) := oc_16 132 (aq_9 shX12_comesTo_123) sgb_12
theorem dX12_comesTo_134 : decode cX12_comesTo 134 = .ok (.if_icmp .ne 43, 3) := oc_160 134 (aq_11 shX12_comesTo_123) sgw_0_43
theorem dX12_comesTo_137 : decode cX12_comesTo 137 = .ok (.aload_n 0, 1) := oc_42 137 (aq_14 shX12_comesTo_123)
theorem dX12_comesTo_138 : decode cX12_comesTo 138 = .ok (.getfield 86, 3) := oc_180 138 (aq_15 shX12_comesTo_123) uw_0_86
theorem dX12_comesTo_141 : decode cX12_comesTo 141 = .ok (.iload_n 3, 1) := oc_29 141 (aq_18 shX12_comesTo_123)
theorem dX12_comesTo_142 : decode cX12_comesTo 142 = .ok (.iconst 1, 1) := oc_4 142 (aq_19 shX12_comesTo_123)
theorem dX12_comesTo_143 : decode cX12_comesTo 143 = .ok (.isub, 1) := oc_100 143 (aq_20 shX12_comesTo_123)
theorem dX12_comesTo_144 : decode cX12_comesTo 144 = .ok (.iaload, 1) := oc_46 144 (aq_21 shX12_comesTo_123)
theorem dX12_comesTo_145 : decode cX12_comesTo 145 = .ok (.iload 6, 2) := oc_21 145 (aq_22 shX12_comesTo_123) ub_6
theorem dX12_comesTo_147 : decode cX12_comesTo 147 = .ok (.bipush 12, 2) := oc_16 147 shX12_comesTo_147 sgb_12
theorem dX12_comesTo_149 : decode cX12_comesTo 149 = .ok (.if_icmp .ne 7, 3) := oc_160 149 (aq_2 shX12_comesTo_147) sgw_0_7
theorem dX12_comesTo_157 : decode cX12_comesTo 157 = .ok (.if_icmp .ne 13, 3) := oc_160 157 (aq_10 shX12_comesTo_147) sgw_0_13
theorem dX12_comesTo_160 : decode cX12_comesTo 160 = .ok (.iload 4, 2) := oc_21 160 (aq_13 shX12_comesTo_147) ub_4
theorem dX12_comesTo_162 : decode cX12_comesTo 162 = .ok (.iload 7, 2) := oc_21 162 (aq_15 shX12_comesTo_147) ub_7
theorem dX12_comesTo_164 : decode cX12_comesTo 164 = .ok (.iadd, 1) := oc_96 164 (aq_17 shX12_comesTo_147)
theorem dX12_comesTo_165 : decode cX12_comesTo 165 = .ok (.istore 5, 2) := oc_54 165 (aq_18 shX12_comesTo_147) ub_5
theorem dX12_comesTo_167 : decode cX12_comesTo 167 = .ok (.goto 65, 3) := oc_167 167 (aq_20 shX12_comesTo_147) sgw_0_65
theorem dX12_comesTo_170 : decode cX12_comesTo 170 = .ok (.iload_n 3, 1) := oc_29 170 (aq_23 shX12_comesTo_147)
theorem dX12_comesTo_171 : decode cX12_comesTo 171 = .ok (.iconst 1, 1) := oc_4 171 shX12_comesTo_171
theorem dX12_comesTo_172 : decode cX12_comesTo 172 = .ok (.isub, 1) := oc_100 172 (aq_1 shX12_comesTo_171)
theorem dX12_comesTo_173 : decode cX12_comesTo 173 = .ok (.istore_n 3, 1) := oc_62 173 (aq_2 shX12_comesTo_171)
theorem dX12_comesTo_174 : decode cX12_comesTo 174 = .ok (.goto 58, 3) := oc_167 174 (aq_3 shX12_comesTo_171) sgw_0_58
theorem dX12_comesTo_177 : decode cX12_comesTo 177 = .ok (.iload_n 3, 1) := oc_29 177 (aq_6 shX12_comesTo_171)
theorem dX12_comesTo_178 : decode cX12_comesTo 178 = .ok (.iconst 1, 1) := oc_4 178 (aq_7 shX12_comesTo_171)
theorem dX12_comesTo_179 : decode cX12_comesTo 179 = .ok (.isub, 1) := oc_100 179 (aq_8 shX12_comesTo_171)
theorem dX12_comesTo_180 : decode cX12_comesTo 180 = .ok (.istore_n 3, 1) := oc_62 180 (aq_9 shX12_comesTo_171)
theorem dX12_comesTo_181 : decode cX12_comesTo 181 = .ok (.iload 6, 2) := oc_21 181 (aq_10 shX12_comesTo_171) ub_6
theorem dX12_comesTo_183 : decode cX12_comesTo 183 = .ok (.iconst 5, 1) := oc_8 183 (aq_12 shX12_comesTo_171)
theorem dX12_comesTo_184 : decode cX12_comesTo 184 = .ok (.if_icmp .eq 10, 3) := oc_159 184 (aq_13 shX12_comesTo_171) sgw_0_10
theorem dX12_comesTo_187 : decode cX12_comesTo 187 = .ok (.iload 6, 2) := oc_21 187 (aq_16 shX12_comesTo_171) ub_6
theorem dX12_comesTo_189 : decode cX12_comesTo 189 = .ok (.bipush 6, 2) := oc_16 189 (aq_18 shX12_comesTo_171) sgb_6
theorem dX12_comesTo_191 : decode cX12_comesTo 191 = .ok (.if_icmp .ne 14, 3) := oc_160 191 (aq_20 shX12_comesTo_171) sgw_0_14
theorem dX12_comesTo_194 : decode cX12_comesTo 194 = .ok (.aload_n 0, 1) := oc_42 194 (aq_23 shX12_comesTo_171)
theorem dX12_comesTo_195 : decode cX12_comesTo 195 = .ok (.getfield 86, 3) := oc_180 195 shX12_comesTo_195 uw_0_86
theorem dX12_comesTo_198 : decode cX12_comesTo 198 = .ok (.iload_n 3, 1) := oc_29 198 (aq_3 shX12_comesTo_195)
theorem dX12_comesTo_199 : decode cX12_comesTo 199 = .ok (.iaload, 1) := oc_46 199 (aq_4 shX12_comesTo_195)
theorem dX12_comesTo_200 : decode cX12_comesTo 200 = .ok (.ifCond .ne 5, 3) := oc_154 200 (aq_5 shX12_comesTo_195) sgw_0_5
theorem dX12_comesTo_203 : decode cX12_comesTo 203 = .ok (.iconst 0, 1) := oc_3 203 (aq_8 shX12_comesTo_195)
theorem dX12_comesTo_204 : decode cX12_comesTo 204 = .ok (.ireturn, 1) := oc_172 204 (aq_9 shX12_comesTo_195)
theorem dX12_comesTo_205 : decode cX12_comesTo 205 = .ok (.aload_n 0, 1) := oc_42 205 (aq_10 shX12_comesTo_195)
theorem dX12_comesTo_206 : decode cX12_comesTo 206 = .ok (.getfield 86, 3) := oc_180 206 (aq_11 shX12_comesTo_195) uw_0_86
theorem dX12_comesTo_209 : decode cX12_comesTo 209 = .ok (.iload_n 3, 1) := oc_29 209 (aq_14 shX12_comesTo_195)
theorem dX12_comesTo_210 : decode cX12_comesTo 210 = .ok (.iconst 1, 1) := oc_4 210 (aq_15 shX12_comesTo_195)
theorem dX12_comesTo_211 : decode cX12_comesTo 211 = .ok (.isub, 1) := oc_100 211 (aq_16 shX12_comesTo_195)
theorem dX12_comesTo_212 : decode cX12_comesTo 212 = .ok (.iload 6, 2) := oc_21 212 (aq_17 shX12_comesTo_195) ub_6
theorem dX12_comesTo_214 : decode cX12_comesTo 214 = .ok (.aload_n 0, 1) := oc_42 214 (aq_19 shX12_comesTo_195)
theorem dX12_comesTo_215 : decode cX12_comesTo 215 = .ok (.getfield 86, 3) := oc_180 215 (aq_20 shX12_comesTo_195) uw_0_86
theorem dX12_comesTo_218 : decode cX12_comesTo 218 = .ok (.iload_n 3, 1) := oc_29 218 (aq_23 shX12_comesTo_195)
theorem dX12_comesTo_219 : decode cX12_comesTo 219 = .ok (.iconst 1, 1) := oc_4 219 shX12_comesTo_219
theorem dX12_comesTo_220 : decode cX12_comesTo 220 = .ok (.isub, 1) := oc_100 220 (aq_1 shX12_comesTo_219)
theorem dX12_comesTo_221 : decode cX12_comesTo 221 = .ok (.iaload, 1) := oc_46 221 (aq_2 shX12_comesTo_219)
theorem dX12_comesTo_222 : decode cX12_comesTo 222 = .ok (.aload_n 0, 1) := oc_42 222 (aq_3 shX12_comesTo_219)
theorem dX12_comesTo_223 : decode cX12_comesTo 223 = .ok (.getfield 86, 3) := oc_180 223 (aq_4 shX12_comesTo_219) uw_0_86
theorem dX12_comesTo_226 : decode cX12_comesTo 226 = .ok (.iload_n 3, 1) := oc_29 226 (aq_7 shX12_comesTo_219)
theorem dX12_comesTo_227 : decode cX12_comesTo 227 = .ok (.iaload, 1) := oc_46 227 (aq_8 shX12_comesTo_219)
theorem dX12_comesTo_228 : decode cX12_comesTo 228 = .ok (.invokestatic 327, 3) := oc_184 228 (aq_9 shX12_comesTo_219) uw_1_71
theorem dX12_comesTo_231 : decode cX12_comesTo 231 = .ok (.iastore, 1) := oc_79 231 (aq_12 shX12_comesTo_219)
theorem dX12_comesTo_232 : decode cX12_comesTo 232 = .ok (.goto (-216), 3) := oc_167 232 (aq_13 shX12_comesTo_219) sgw_255_40
noncomputable def sxX12_price_32 : List UInt8 := []
noncomputable def sxX12_price_24 : List UInt8 := 180 :: 0 :: 92 :: 27 :: 28 :: 79 :: 4 :: 172 :: sxX12_price_32
theorem shX12_price_0 : cX12_price.data.toList.drop 0 = 27 :: 3 :: 16 :: 57 :: 184 :: 0 :: 214 :: 153 :: 0 :: 14 :: 28 :: 3 :: 17 :: 3 :: 232 :: 184 :: 0 :: 214 :: 154 :: 0 :: 5 :: 3 :: 172 :: 42 :: sxX12_price_24 := rfl
theorem shX12_price_24 : cX12_price.data.toList.drop 24 = 180 :: 0 :: 92 :: 27 :: 28 :: 79 :: 4 :: 172 :: sxX12_price_32 := aq_24 shX12_price_0
noncomputable def sxX12_penceFor_290 : List UInt8 := []
noncomputable def sxX12_penceFor_267 : List UInt8 := 19 :: 1 :: 78 :: 164 :: 0 :: 9 :: 19 :: 1 :: 78 :: 167 :: 0 :: 5 :: 21 :: 6 :: 172 :: 132 :: 5 :: 1 :: 167 :: 255 :: 166 :: 3 :: 172 :: sxX12_penceFor_290
noncomputable def sxX12_penceFor_243 : List UInt8 := 46 :: 42 :: 180 :: 0 :: 80 :: 21 :: 5 :: 46 :: 182 :: 1 :: 75 :: 54 :: 6 :: 21 :: 6 :: 156 :: 0 :: 7 :: 3 :: 167 :: 0 :: 19 :: 21 :: 6 :: sxX12_penceFor_267
noncomputable def sxX12_penceFor_219 : List UInt8 := 42 :: 180 :: 0 :: 83 :: 21 :: 5 :: 46 :: 182 :: 1 :: 75 :: 4 :: 159 :: 0 :: 6 :: 167 :: 0 :: 49 :: 42 :: 42 :: 180 :: 0 :: 77 :: 21 :: 5 :: sxX12_penceFor_243
noncomputable def sxX12_penceFor_195 : List UInt8 := 21 :: 5 :: 16 :: 12 :: 28 :: 104 :: 42 :: 180 :: 0 :: 74 :: 28 :: 46 :: 96 :: 162 :: 0 :: 80 :: 42 :: 42 :: 180 :: 0 :: 80 :: 21 :: 5 :: 46 :: sxX12_penceFor_219
noncomputable def sxX12_penceFor_170 : List UInt8 := 42 :: 180 :: 0 :: 28 :: 27 :: 46 :: 16 :: 7 :: 108 :: 46 :: 79 :: 42 :: 180 :: 0 :: 89 :: 16 :: 10 :: 3 :: 79 :: 16 :: 12 :: 28 :: 104 :: 54 :: 5 :: sxX12_penceFor_195
noncomputable def sxX12_penceFor_145 : List UInt8 := 180 :: 0 :: 43 :: 27 :: 46 :: 79 :: 42 :: 180 :: 0 :: 89 :: 16 :: 8 :: 21 :: 4 :: 79 :: 42 :: 180 :: 0 :: 89 :: 16 :: 9 :: 42 :: 180 :: 0 :: 92 :: sxX12_penceFor_170
noncomputable def sxX12_penceFor_121 : List UInt8 := 180 :: 0 :: 28 :: 27 :: 46 :: 16 :: 7 :: 112 :: 79 :: 42 :: 180 :: 0 :: 89 :: 16 :: 6 :: 29 :: 79 :: 42 :: 180 :: 0 :: 89 :: 16 :: 7 :: 42 :: sxX12_penceFor_145
noncomputable def sxX12_penceFor_97 : List UInt8 := 27 :: 46 :: 79 :: 42 :: 180 :: 0 :: 89 :: 7 :: 42 :: 180 :: 0 :: 28 :: 27 :: 46 :: 16 :: 7 :: 108 :: 79 :: 42 :: 180 :: 0 :: 89 :: 8 :: 42 :: sxX12_penceFor_121
noncomputable def sxX12_penceFor_73 : List UInt8 := 27 :: 46 :: 79 :: 42 :: 180 :: 0 :: 89 :: 5 :: 42 :: 180 :: 0 :: 37 :: 27 :: 46 :: 79 :: 42 :: 180 :: 0 :: 89 :: 6 :: 42 :: 180 :: 0 :: 28 :: sxX12_penceFor_97
noncomputable def sxX12_penceFor_49 : List UInt8 := 167 :: 255 :: 220 :: 42 :: 180 :: 0 :: 89 :: 3 :: 42 :: 180 :: 0 :: 31 :: 27 :: 46 :: 79 :: 42 :: 180 :: 0 :: 89 :: 4 :: 42 :: 180 :: 0 :: 34 :: sxX12_penceFor_73
noncomputable def sxX12_penceFor_25 : List UInt8 := 21 :: 5 :: 46 :: 29 :: 160 :: 0 :: 13 :: 42 :: 180 :: 0 :: 31 :: 21 :: 5 :: 46 :: 167 :: 0 :: 4 :: 3 :: 96 :: 54 :: 4 :: 132 :: 5 :: 1 :: sxX12_penceFor_49
theorem shX12_penceFor_0 : cX12_penceFor.data.toList.drop 0 = 42 :: 180 :: 0 :: 25 :: 27 :: 46 :: 62 :: 3 :: 54 :: 4 :: 3 :: 54 :: 5 :: 21 :: 5 :: 27 :: 162 :: 0 :: 36 :: 21 :: 4 :: 42 :: 180 :: 0 :: 25 :: sxX12_penceFor_25 := rfl
theorem shX12_penceFor_25 : cX12_penceFor.data.toList.drop 25 = 21 :: 5 :: 46 :: 29 :: 160 :: 0 :: 13 :: 42 :: 180 :: 0 :: 31 :: 21 :: 5 :: 46 :: 167 :: 0 :: 4 :: 3 :: 96 :: 54 :: 4 :: 132 :: 5 :: 1 :: sxX12_penceFor_49 := aq_25 shX12_penceFor_0
theorem shX12_penceFor_49 : cX12_penceFor.data.toList.drop 49 = 167 :: 255 :: 220 :: 42 :: 180 :: 0 :: 89 :: 3 :: 42 :: 180 :: 0 :: 31 :: 27 :: 46 :: 79 :: 42 :: 180 :: 0 :: 89 :: 4 :: 42 :: 180 :: 0 :: 34 :: sxX12_penceFor_73 := aq_24 shX12_penceFor_25
theorem shX12_penceFor_73 : cX12_penceFor.data.toList.drop 73 = 27 :: 46 :: 79 :: 42 :: 180 :: 0 :: 89 :: 5 :: 42 :: 180 :: 0 :: 37 :: 27 :: 46 :: 79 :: 42 :: 180 :: 0 :: 89 :: 6 :: 42 :: 180 :: 0 :: 28 :: sxX12_penceFor_97 := aq_24 shX12_penceFor_49
theorem shX12_penceFor_97 : cX12_penceFor.data.toList.drop 97 = 27 :: 46 :: 79 :: 42 :: 180 :: 0 :: 89 :: 7 :: 42 :: 180 :: 0 :: 28 :: 27 :: 46 :: 16 :: 7 :: 108 :: 79 :: 42 :: 180 :: 0 :: 89 :: 8 :: 42 :: sxX12_penceFor_121 := aq_24 shX12_penceFor_73
theorem shX12_penceFor_121 : cX12_penceFor.data.toList.drop 121 = 180 :: 0 :: 28 :: 27 :: 46 :: 16 :: 7 :: 112 :: 79 :: 42 :: 180 :: 0 :: 89 :: 16 :: 6 :: 29 :: 79 :: 42 :: 180 :: 0 :: 89 :: 16 :: 7 :: 42 :: sxX12_penceFor_145 := aq_24 shX12_penceFor_97
theorem shX12_penceFor_145 : cX12_penceFor.data.toList.drop 145 = 180 :: 0 :: 43 :: 27 :: 46 :: 79 :: 42 :: 180 :: 0 :: 89 :: 16 :: 8 :: 21 :: 4 :: 79 :: 42 :: 180 :: 0 :: 89 :: 16 :: 9 :: 42 :: 180 :: 0 :: 92 :: sxX12_penceFor_170 := aq_24 shX12_penceFor_121
theorem shX12_penceFor_170 : cX12_penceFor.data.toList.drop 170 = 42 :: 180 :: 0 :: 28 :: 27 :: 46 :: 16 :: 7 :: 108 :: 46 :: 79 :: 42 :: 180 :: 0 :: 89 :: 16 :: 10 :: 3 :: 79 :: 16 :: 12 :: 28 :: 104 :: 54 :: 5 :: sxX12_penceFor_195 := aq_25 shX12_penceFor_145
theorem shX12_penceFor_195 : cX12_penceFor.data.toList.drop 195 = 21 :: 5 :: 16 :: 12 :: 28 :: 104 :: 42 :: 180 :: 0 :: 74 :: 28 :: 46 :: 96 :: 162 :: 0 :: 80 :: 42 :: 42 :: 180 :: 0 :: 80 :: 21 :: 5 :: 46 :: sxX12_penceFor_219 := aq_25 shX12_penceFor_170
theorem shX12_penceFor_219 : cX12_penceFor.data.toList.drop 219 = 42 :: 180 :: 0 :: 83 :: 21 :: 5 :: 46 :: 182 :: 1 :: 75 :: 4 :: 159 :: 0 :: 6 :: 167 :: 0 :: 49 :: 42 :: 42 :: 180 :: 0 :: 77 :: 21 :: 5 :: sxX12_penceFor_243 := aq_24 shX12_penceFor_195
theorem shX12_penceFor_243 : cX12_penceFor.data.toList.drop 243 = 46 :: 42 :: 180 :: 0 :: 80 :: 21 :: 5 :: 46 :: 182 :: 1 :: 75 :: 54 :: 6 :: 21 :: 6 :: 156 :: 0 :: 7 :: 3 :: 167 :: 0 :: 19 :: 21 :: 6 :: sxX12_penceFor_267 := aq_24 shX12_penceFor_219
theorem shX12_penceFor_267 : cX12_penceFor.data.toList.drop 267 = 19 :: 1 :: 78 :: 164 :: 0 :: 9 :: 19 :: 1 :: 78 :: 167 :: 0 :: 5 :: 21 :: 6 :: 172 :: 132 :: 5 :: 1 :: 167 :: 255 :: 166 :: 3 :: 172 :: sxX12_penceFor_290 := aq_24 shX12_penceFor_243
theorem dX12_penceFor_43 : decode cX12_penceFor 43 = .ok (.iadd, 1) := oc_96 43 (aq_18 shX12_penceFor_25)
theorem dX12_penceFor_44 : decode cX12_penceFor 44 = .ok (.istore 4, 2) := oc_54 44 (aq_19 shX12_penceFor_25) ub_4
theorem dX12_penceFor_46 : decode cX12_penceFor 46 = .ok (.iinc 5 1, 3) := oc_132 46 (aq_21 shX12_penceFor_25) ub_5 sgb_1
theorem dX12_penceFor_49 : decode cX12_penceFor 49 = .ok (.goto (-36), 3) := oc_167 49 shX12_penceFor_49 sgw_255_220
theorem dX12_penceFor_281 : decode cX12_penceFor 281 = .ok (.ireturn, 1) := oc_172 281 (aq_14 shX12_penceFor_267)
noncomputable def sxX12_pence_24 : List UInt8 := []
theorem shX12_pence_0 : cX12_pence.data.toList.drop 0 = 42 :: 27 :: 182 :: 1 :: 79 :: 153 :: 0 :: 17 :: 42 :: 27 :: 42 :: 180 :: 0 :: 25 :: 27 :: 46 :: 182 :: 1 :: 82 :: 167 :: 0 :: 4 :: 2 :: 172 :: sxX12_pence_24 := rfl
theorem dX12_pence_5 : decode cX12_pence 5 = .ok (.ifCond .eq 17, 3) := oc_153 5 (aq_5 shX12_pence_0) sgw_0_17
theorem dX12_pence_23 : decode cX12_pence 23 = .ok (.ireturn, 1) := oc_172 23 (aq_23 shX12_pence_0)
noncomputable def sxX12_paid_75 : List UInt8 := []
noncomputable def sxX12_paid_73 : List UInt8 := 29 :: 172 :: sxX12_paid_75
noncomputable def sxX12_paid_49 : List UInt8 := 46 :: 28 :: 163 :: 0 :: 13 :: 42 :: 21 :: 4 :: 27 :: 182 :: 1 :: 82 :: 167 :: 0 :: 4 :: 3 :: 96 :: 62 :: 132 :: 4 :: 1 :: 167 :: 255 :: 208 :: sxX12_paid_73
noncomputable def sxX12_paid_24 : List UInt8 := 42 :: 180 :: 0 :: 208 :: 162 :: 0 :: 45 :: 29 :: 42 :: 180 :: 0 :: 25 :: 21 :: 4 :: 46 :: 27 :: 160 :: 0 :: 24 :: 42 :: 180 :: 0 :: 40 :: 21 :: 4 :: sxX12_paid_49
theorem shX12_paid_0 : cX12_paid.data.toList.drop 0 = 42 :: 27 :: 182 :: 0 :: 218 :: 153 :: 0 :: 10 :: 28 :: 184 :: 1 :: 85 :: 154 :: 0 :: 5 :: 2 :: 172 :: 3 :: 62 :: 3 :: 54 :: 4 :: 21 :: 4 :: sxX12_paid_24 := rfl
theorem shX12_paid_24 : cX12_paid.data.toList.drop 24 = 42 :: 180 :: 0 :: 208 :: 162 :: 0 :: 45 :: 29 :: 42 :: 180 :: 0 :: 25 :: 21 :: 4 :: 46 :: 27 :: 160 :: 0 :: 24 :: 42 :: 180 :: 0 :: 40 :: 21 :: 4 :: sxX12_paid_49 := aq_24 shX12_paid_0
theorem shX12_paid_49 : cX12_paid.data.toList.drop 49 = 46 :: 28 :: 163 :: 0 :: 13 :: 42 :: 21 :: 4 :: 27 :: 182 :: 1 :: 82 :: 167 :: 0 :: 4 :: 3 :: 96 :: 62 :: 132 :: 4 :: 1 :: 167 :: 255 :: 208 :: sxX12_paid_73 := aq_25 shX12_paid_24
theorem shX12_paid_73 : cX12_paid.data.toList.drop 73 = 29 :: 172 :: sxX12_paid_75 := aq_24 shX12_paid_49
theorem dX12_paid_5 : decode cX12_paid 5 = .ok (.ifCond .eq 10, 3) := oc_153 5 (aq_5 shX12_paid_0) sgw_0_10
theorem dX12_paid_12 : decode cX12_paid 12 = .ok (.ifCond .ne 5, 3) := oc_154 12 (aq_12 shX12_paid_0) sgw_0_5
theorem dX12_paid_15 : decode cX12_paid 15 = .ok (.iconst (-1), 1) := oc_2 15 (aq_15 shX12_paid_0)
theorem dX12_paid_16 : decode cX12_paid 16 = .ok (.ireturn, 1) := oc_172 16 (aq_16 shX12_paid_0)
theorem dX12_paid_64 : decode cX12_paid 64 = .ok (.iconst 0, 1) := oc_3 64 (aq_15 shX12_paid_49)
theorem dX12_paid_65 : decode cX12_paid 65 = .ok (.iadd, 1) := oc_96 65 (aq_16 shX12_paid_49)
theorem dX12_paid_66 : decode cX12_paid 66 = .ok (.istore_n 3, 1) := oc_62 66 (aq_17 shX12_paid_49)
theorem dX12_paid_67 : decode cX12_paid 67 = .ok (.iinc 4 1, 3) := oc_132 67 (aq_18 shX12_paid_49) ub_4 sgb_1
theorem dX12_paid_70 : decode cX12_paid 70 = .ok (.goto (-48), 3) := oc_167 70 (aq_21 shX12_paid_49) sgw_255_208
noncomputable def sxX12_asIf_65 : List UInt8 := []
noncomputable def sxX12_asIf_51 : List UInt8 := 167 :: 0 :: 4 :: 3 :: 96 :: 62 :: 132 :: 4 :: 1 :: 167 :: 255 :: 219 :: 29 :: 172 :: sxX12_asIf_65
noncomputable def sxX12_asIf_25 : List UInt8 := 42 :: 180 :: 0 :: 208 :: 162 :: 0 :: 34 :: 29 :: 42 :: 180 :: 0 :: 25 :: 21 :: 4 :: 46 :: 27 :: 160 :: 0 :: 13 :: 42 :: 21 :: 4 :: 28 :: 182 :: 1 :: 82 :: sxX12_asIf_51
theorem shX12_asIf_0 : cX12_asIf.data.toList.drop 0 = 42 :: 27 :: 182 :: 0 :: 218 :: 153 :: 0 :: 11 :: 42 :: 28 :: 182 :: 0 :: 218 :: 154 :: 0 :: 5 :: 2 :: 172 :: 3 :: 62 :: 3 :: 54 :: 4 :: 21 :: 4 :: sxX12_asIf_25 := rfl
theorem shX12_asIf_25 : cX12_asIf.data.toList.drop 25 = 42 :: 180 :: 0 :: 208 :: 162 :: 0 :: 34 :: 29 :: 42 :: 180 :: 0 :: 25 :: 21 :: 4 :: 46 :: 27 :: 160 :: 0 :: 13 :: 42 :: 21 :: 4 :: 28 :: 182 :: 1 :: 82 :: sxX12_asIf_51 := aq_25 shX12_asIf_0
theorem shX12_asIf_51 : cX12_asIf.data.toList.drop 51 = 167 :: 0 :: 4 :: 3 :: 96 :: 62 :: 132 :: 4 :: 1 :: 167 :: 255 :: 219 :: 29 :: 172 :: sxX12_asIf_65 := aq_26 shX12_asIf_25
theorem dX12_asIf_5 : decode cX12_asIf 5 = .ok (.ifCond .eq 11, 3) := oc_153 5 (aq_5 shX12_asIf_0) sgw_0_11
theorem dX12_asIf_13 : decode cX12_asIf 13 = .ok (.ifCond .ne 5, 3) := oc_154 13 (aq_13 shX12_asIf_0) sgw_0_5
theorem dX12_asIf_16 : decode cX12_asIf 16 = .ok (.iconst (-1), 1) := oc_2 16 (aq_16 shX12_asIf_0)
theorem dX12_asIf_17 : decode cX12_asIf 17 = .ok (.ireturn, 1) := oc_172 17 (aq_17 shX12_asIf_0)
theorem dX12_asIf_55 : decode cX12_asIf 55 = .ok (.iadd, 1) := oc_96 55 (aq_4 shX12_asIf_51)
theorem dX12_asIf_56 : decode cX12_asIf 56 = .ok (.istore_n 3, 1) := oc_62 56 (aq_5 shX12_asIf_51)
theorem dX12_asIf_57 : decode cX12_asIf 57 = .ok (.iinc 4 1, 3) := oc_132 57 (aq_6 shX12_asIf_51) ub_4 sgb_1
theorem dX12_asIf_60 : decode cX12_asIf 60 = .ok (.goto (-37), 3) := oc_167 60 (aq_9 shX12_asIf_51) sgw_255_219
noncomputable def sxX12_missing_19 : List UInt8 := []
theorem shX12_missing_0 : cX12_missing.data.toList.drop 0 = 42 :: 27 :: 182 :: 1 :: 79 :: 153 :: 0 :: 12 :: 42 :: 180 :: 0 :: 43 :: 27 :: 46 :: 167 :: 0 :: 4 :: 2 :: 172 :: sxX12_missing_19 := rfl
noncomputable def sxX12_choose_44 : List UInt8 := []
noncomputable def sxX12_choose_24 : List UInt8 := 27 :: 100 :: 21 :: 4 :: 96 :: 133 :: 105 :: 21 :: 4 :: 133 :: 109 :: 65 :: 132 :: 4 :: 1 :: 167 :: 255 :: 233 :: 32 :: 173 :: sxX12_choose_44
theorem shX12_choose_0 : cX12_choose.data.toList.drop 0 = 27 :: 155 :: 0 :: 8 :: 27 :: 26 :: 164 :: 0 :: 5 :: 9 :: 173 :: 10 :: 65 :: 4 :: 54 :: 4 :: 21 :: 4 :: 27 :: 163 :: 0 :: 23 :: 32 :: 26 :: sxX12_choose_24 := rfl
theorem shX12_choose_24 : cX12_choose.data.toList.drop 24 = 27 :: 100 :: 21 :: 4 :: 96 :: 133 :: 105 :: 21 :: 4 :: 133 :: 109 :: 65 :: 132 :: 4 :: 1 :: 167 :: 255 :: 233 :: 32 :: 173 :: sxX12_choose_44 := aq_24 shX12_choose_0
noncomputable def sxX12_byLot_114 : List UInt8 := []
noncomputable def sxX12_byLot_97 : List UInt8 := 154 :: 0 :: 11 :: 22 :: 5 :: 22 :: 9 :: 109 :: 167 :: 0 :: 8 :: 22 :: 7 :: 22 :: 9 :: 109 :: 173 :: sxX12_byLot_114
noncomputable def sxX12_byLot_73 : List UInt8 := 148 :: 153 :: 0 :: 21 :: 22 :: 9 :: 22 :: 11 :: 113 :: 55 :: 13 :: 22 :: 11 :: 55 :: 9 :: 22 :: 13 :: 55 :: 11 :: 167 :: 255 :: 234 :: 21 :: 4 :: sxX12_byLot_97
noncomputable def sxX12_byLot_49 : List UInt8 := 167 :: 255 :: 222 :: 42 :: 180 :: 0 :: 208 :: 27 :: 184 :: 1 :: 88 :: 55 :: 7 :: 22 :: 5 :: 55 :: 9 :: 22 :: 7 :: 55 :: 11 :: 22 :: 11 :: 9 :: sxX12_byLot_73
noncomputable def sxX12_byLot_24 : List UInt8 := 21 :: 7 :: 184 :: 1 :: 88 :: 42 :: 180 :: 0 :: 208 :: 28 :: 100 :: 27 :: 21 :: 7 :: 100 :: 184 :: 1 :: 88 :: 105 :: 97 :: 55 :: 5 :: 132 :: 7 :: 1 :: sxX12_byLot_49
theorem shX12_byLot_0 : cX12_byLot.data.toList.drop 0 = 21 :: 4 :: 5 :: 160 :: 0 :: 6 :: 29 :: 133 :: 173 :: 9 :: 55 :: 5 :: 29 :: 54 :: 7 :: 21 :: 7 :: 28 :: 163 :: 0 :: 34 :: 22 :: 5 :: 28 :: sxX12_byLot_24 := rfl
theorem shX12_byLot_24 : cX12_byLot.data.toList.drop 24 = 21 :: 7 :: 184 :: 1 :: 88 :: 42 :: 180 :: 0 :: 208 :: 28 :: 100 :: 27 :: 21 :: 7 :: 100 :: 184 :: 1 :: 88 :: 105 :: 97 :: 55 :: 5 :: 132 :: 7 :: 1 :: sxX12_byLot_49 := aq_24 shX12_byLot_0
theorem shX12_byLot_49 : cX12_byLot.data.toList.drop 49 = 167 :: 255 :: 222 :: 42 :: 180 :: 0 :: 208 :: 27 :: 184 :: 1 :: 88 :: 55 :: 7 :: 22 :: 5 :: 55 :: 9 :: 22 :: 7 :: 55 :: 11 :: 22 :: 11 :: 9 :: sxX12_byLot_73 := aq_25 shX12_byLot_24
theorem shX12_byLot_73 : cX12_byLot.data.toList.drop 73 = 148 :: 153 :: 0 :: 21 :: 22 :: 9 :: 22 :: 11 :: 113 :: 55 :: 13 :: 22 :: 11 :: 55 :: 9 :: 22 :: 13 :: 55 :: 11 :: 167 :: 255 :: 234 :: 21 :: 4 :: sxX12_byLot_97 := aq_24 shX12_byLot_49
theorem shX12_byLot_97 : cX12_byLot.data.toList.drop 97 = 154 :: 0 :: 11 :: 22 :: 5 :: 22 :: 9 :: 109 :: 167 :: 0 :: 8 :: 22 :: 7 :: 22 :: 9 :: 109 :: 173 :: sxX12_byLot_114 := aq_24 shX12_byLot_73
noncomputable def sxX12_lacking_37 : List UInt8 := []
noncomputable def sxX12_lacking_26 : List UInt8 := 3 :: 96 :: 60 :: 132 :: 2 :: 1 :: 167 :: 255 :: 228 :: 27 :: 172 :: sxX12_lacking_37
theorem shX12_lacking_0 : cX12_lacking.data.toList.drop 0 = 3 :: 60 :: 3 :: 61 :: 28 :: 42 :: 180 :: 0 :: 208 :: 162 :: 0 :: 26 :: 27 :: 42 :: 180 :: 0 :: 43 :: 28 :: 46 :: 158 :: 0 :: 7 :: 4 :: 167 :: 0 :: 4 :: sxX12_lacking_26 := rfl
theorem shX12_lacking_26 : cX12_lacking.data.toList.drop 26 = 3 :: 96 :: 60 :: 132 :: 2 :: 1 :: 167 :: 255 :: 228 :: 27 :: 172 :: sxX12_lacking_37 := aq_26 shX12_lacking_0
noncomputable def sxX12_beyond_100 : List UInt8 := []
noncomputable def sxX12_beyond_99 : List UInt8 := 173 :: sxX12_beyond_100
noncomputable def sxX12_beyond_73 : List UInt8 := 4 :: 167 :: 0 :: 4 :: 3 :: 96 :: 54 :: 4 :: 132 :: 5 :: 1 :: 167 :: 255 :: 203 :: 42 :: 42 :: 182 :: 1 :: 94 :: 29 :: 21 :: 4 :: 28 :: 182 :: 1 :: 97 :: sxX12_beyond_99
noncomputable def sxX12_beyond_49 : List UInt8 := 112 :: 27 :: 159 :: 0 :: 6 :: 167 :: 0 :: 27 :: 29 :: 4 :: 96 :: 62 :: 21 :: 4 :: 42 :: 180 :: 0 :: 43 :: 21 :: 5 :: 46 :: 158 :: 0 :: 7 :: sxX12_beyond_73
noncomputable def sxX12_beyond_24 : List UInt8 := 62 :: 3 :: 54 :: 4 :: 3 :: 54 :: 5 :: 21 :: 5 :: 42 :: 180 :: 0 :: 208 :: 162 :: 0 :: 50 :: 42 :: 180 :: 0 :: 28 :: 21 :: 5 :: 46 :: 16 :: 7 :: sxX12_beyond_49
theorem shX12_beyond_0 : cX12_beyond.data.toList.drop 0 = 27 :: 3 :: 16 :: 6 :: 184 :: 0 :: 214 :: 153 :: 0 :: 12 :: 28 :: 3 :: 5 :: 184 :: 0 :: 214 :: 154 :: 0 :: 7 :: 20 :: 1 :: 92 :: 173 :: 3 :: sxX12_beyond_24 := rfl
theorem shX12_beyond_24 : cX12_beyond.data.toList.drop 24 = 62 :: 3 :: 54 :: 4 :: 3 :: 54 :: 5 :: 21 :: 5 :: 42 :: 180 :: 0 :: 208 :: 162 :: 0 :: 50 :: 42 :: 180 :: 0 :: 28 :: 21 :: 5 :: 46 :: 16 :: 7 :: sxX12_beyond_49 := aq_24 shX12_beyond_0
theorem shX12_beyond_49 : cX12_beyond.data.toList.drop 49 = 112 :: 27 :: 159 :: 0 :: 6 :: 167 :: 0 :: 27 :: 29 :: 4 :: 96 :: 62 :: 21 :: 4 :: 42 :: 180 :: 0 :: 43 :: 21 :: 5 :: 46 :: 158 :: 0 :: 7 :: sxX12_beyond_73 := aq_25 shX12_beyond_24
theorem shX12_beyond_73 : cX12_beyond.data.toList.drop 73 = 4 :: 167 :: 0 :: 4 :: 3 :: 96 :: 54 :: 4 :: 132 :: 5 :: 1 :: 167 :: 255 :: 203 :: 42 :: 42 :: 182 :: 1 :: 94 :: 29 :: 21 :: 4 :: 28 :: 182 :: 1 :: 97 :: sxX12_beyond_99 := aq_24 shX12_beyond_49
theorem shX12_beyond_99 : cX12_beyond.data.toList.drop 99 = 173 :: sxX12_beyond_100 := aq_26 shX12_beyond_73
noncomputable def sxX12_street_29 : List UInt8 := []
noncomputable def sxX12_street_24 : List UInt8 := 27 :: 28 :: 79 :: 4 :: 172 :: sxX12_street_29
theorem shX12_street_0 : cX12_street.data.toList.drop 0 = 42 :: 27 :: 182 :: 0 :: 218 :: 153 :: 0 :: 13 :: 28 :: 3 :: 16 :: 9 :: 184 :: 0 :: 214 :: 154 :: 0 :: 5 :: 3 :: 172 :: 42 :: 180 :: 0 :: 95 :: sxX12_street_24 := rfl
theorem shX12_street_24 : cX12_street.data.toList.drop 24 = 27 :: 28 :: 79 :: 4 :: 172 :: sxX12_street_29 := aq_24 shX12_street_0
noncomputable def sxX12_streets_102 : List UInt8 := []
noncomputable def sxX12_streets_97 : List UInt8 := 28 :: 182 :: 1 :: 97 :: 173 :: sxX12_streets_102
noncomputable def sxX12_streets_72 : List UInt8 := 158 :: 0 :: 7 :: 4 :: 167 :: 0 :: 4 :: 3 :: 96 :: 54 :: 4 :: 132 :: 5 :: 1 :: 167 :: 255 :: 201 :: 42 :: 42 :: 182 :: 1 :: 94 :: 29 :: 21 :: 4 :: sxX12_streets_97
noncomputable def sxX12_streets_48 : List UInt8 := 21 :: 5 :: 46 :: 46 :: 27 :: 159 :: 0 :: 6 :: 167 :: 0 :: 27 :: 29 :: 4 :: 96 :: 62 :: 21 :: 4 :: 42 :: 180 :: 0 :: 43 :: 21 :: 5 :: 46 :: sxX12_streets_72
noncomputable def sxX12_streets_24 : List UInt8 := 62 :: 3 :: 54 :: 4 :: 3 :: 54 :: 5 :: 21 :: 5 :: 42 :: 180 :: 0 :: 208 :: 162 :: 0 :: 52 :: 42 :: 180 :: 0 :: 95 :: 42 :: 180 :: 0 :: 25 :: sxX12_streets_48
theorem shX12_streets_0 : cX12_streets.data.toList.drop 0 = 27 :: 3 :: 16 :: 9 :: 184 :: 0 :: 214 :: 153 :: 0 :: 12 :: 28 :: 3 :: 5 :: 184 :: 0 :: 214 :: 154 :: 0 :: 7 :: 20 :: 1 :: 92 :: 173 :: 3 :: sxX12_streets_24 := rfl
theorem shX12_streets_24 : cX12_streets.data.toList.drop 24 = 62 :: 3 :: 54 :: 4 :: 3 :: 54 :: 5 :: 21 :: 5 :: 42 :: 180 :: 0 :: 208 :: 162 :: 0 :: 52 :: 42 :: 180 :: 0 :: 95 :: 42 :: 180 :: 0 :: 25 :: sxX12_streets_48 := aq_24 shX12_streets_0
theorem shX12_streets_48 : cX12_streets.data.toList.drop 48 = 21 :: 5 :: 46 :: 46 :: 27 :: 159 :: 0 :: 6 :: 167 :: 0 :: 27 :: 29 :: 4 :: 96 :: 62 :: 21 :: 4 :: 42 :: 180 :: 0 :: 43 :: 21 :: 5 :: 46 :: sxX12_streets_72 := aq_24 shX12_streets_24
theorem shX12_streets_72 : cX12_streets.data.toList.drop 72 = 158 :: 0 :: 7 :: 4 :: 167 :: 0 :: 4 :: 3 :: 96 :: 54 :: 4 :: 132 :: 5 :: 1 :: 167 :: 255 :: 201 :: 42 :: 42 :: 182 :: 1 :: 94 :: 29 :: 21 :: 4 :: sxX12_streets_97 := aq_24 shX12_streets_48
theorem shX12_streets_97 : cX12_streets.data.toList.drop 97 = 28 :: 182 :: 1 :: 97 :: 173 :: sxX12_streets_102 := aq_25 shX12_streets_72
noncomputable def sxX12_cheat_151 : List UInt8 := []
noncomputable def sxX12_cheat_150 : List UInt8 := 173 :: sxX12_cheat_151
noncomputable def sxX12_cheat_125 : List UInt8 := 4 :: 167 :: 0 :: 4 :: 3 :: 96 :: 54 :: 6 :: 132 :: 7 :: 1 :: 167 :: 255 :: 164 :: 42 :: 21 :: 4 :: 21 :: 5 :: 21 :: 6 :: 29 :: 182 :: 1 :: 97 :: sxX12_cheat_150
noncomputable def sxX12_cheat_99 : List UInt8 := 4 :: 167 :: 0 :: 4 :: 3 :: 96 :: 54 :: 5 :: 21 :: 6 :: 21 :: 8 :: 153 :: 0 :: 18 :: 42 :: 180 :: 0 :: 25 :: 21 :: 7 :: 46 :: 27 :: 160 :: 0 :: 7 :: sxX12_cheat_125
noncomputable def sxX12_cheat_75 : List UInt8 := 153 :: 0 :: 7 :: 4 :: 167 :: 0 :: 4 :: 3 :: 96 :: 54 :: 4 :: 21 :: 5 :: 42 :: 180 :: 0 :: 25 :: 21 :: 7 :: 46 :: 27 :: 160 :: 0 :: 7 :: sxX12_cheat_99
noncomputable def sxX12_cheat_50 : List UInt8 := 162 :: 0 :: 89 :: 42 :: 180 :: 0 :: 34 :: 21 :: 7 :: 46 :: 28 :: 161 :: 0 :: 7 :: 4 :: 167 :: 0 :: 4 :: 3 :: 54 :: 8 :: 21 :: 4 :: 21 :: 8 :: sxX12_cheat_75
noncomputable def sxX12_cheat_25 : List UInt8 := 154 :: 0 :: 7 :: 20 :: 1 :: 92 :: 173 :: 3 :: 54 :: 4 :: 3 :: 54 :: 5 :: 3 :: 54 :: 6 :: 3 :: 54 :: 7 :: 21 :: 7 :: 42 :: 180 :: 0 :: 208 :: sxX12_cheat_50
theorem shX12_cheat_0 : cX12_cheat.data.toList.drop 0 = 42 :: 27 :: 182 :: 0 :: 218 :: 153 :: 0 :: 23 :: 28 :: 3 :: 17 :: 3 :: 232 :: 184 :: 0 :: 214 :: 153 :: 0 :: 12 :: 29 :: 3 :: 5 :: 184 :: 0 :: 214 :: sxX12_cheat_25 := rfl
theorem shX12_cheat_25 : cX12_cheat.data.toList.drop 25 = 154 :: 0 :: 7 :: 20 :: 1 :: 92 :: 173 :: 3 :: 54 :: 4 :: 3 :: 54 :: 5 :: 3 :: 54 :: 6 :: 3 :: 54 :: 7 :: 21 :: 7 :: 42 :: 180 :: 0 :: 208 :: sxX12_cheat_50 := aq_25 shX12_cheat_0
theorem shX12_cheat_50 : cX12_cheat.data.toList.drop 50 = 162 :: 0 :: 89 :: 42 :: 180 :: 0 :: 34 :: 21 :: 7 :: 46 :: 28 :: 161 :: 0 :: 7 :: 4 :: 167 :: 0 :: 4 :: 3 :: 54 :: 8 :: 21 :: 4 :: 21 :: 8 :: sxX12_cheat_75 := aq_25 shX12_cheat_25
theorem shX12_cheat_75 : cX12_cheat.data.toList.drop 75 = 153 :: 0 :: 7 :: 4 :: 167 :: 0 :: 4 :: 3 :: 96 :: 54 :: 4 :: 21 :: 5 :: 42 :: 180 :: 0 :: 25 :: 21 :: 7 :: 46 :: 27 :: 160 :: 0 :: 7 :: sxX12_cheat_99 := aq_25 shX12_cheat_50
theorem shX12_cheat_99 : cX12_cheat.data.toList.drop 99 = 4 :: 167 :: 0 :: 4 :: 3 :: 96 :: 54 :: 5 :: 21 :: 6 :: 21 :: 8 :: 153 :: 0 :: 18 :: 42 :: 180 :: 0 :: 25 :: 21 :: 7 :: 46 :: 27 :: 160 :: 0 :: 7 :: sxX12_cheat_125 := aq_24 shX12_cheat_75
theorem shX12_cheat_125 : cX12_cheat.data.toList.drop 125 = 4 :: 167 :: 0 :: 4 :: 3 :: 96 :: 54 :: 6 :: 132 :: 7 :: 1 :: 167 :: 255 :: 164 :: 42 :: 21 :: 4 :: 21 :: 5 :: 21 :: 6 :: 29 :: 182 :: 1 :: 97 :: sxX12_cheat_150 := aq_26 shX12_cheat_99
theorem shX12_cheat_150 : cX12_cheat.data.toList.drop 150 = 173 :: sxX12_cheat_151 := aq_25 shX12_cheat_125
theorem dX12_cheat_104 : decode cX12_cheat 104 = .ok (.iadd, 1) := oc_96 104 (aq_5 shX12_cheat_99)
theorem dX12_cheat_105 : decode cX12_cheat 105 = .ok (.istore 5, 2) := oc_54 105 (aq_6 shX12_cheat_99) ub_5
theorem dX12_cheat_107 : decode cX12_cheat 107 = .ok (.iload 6, 2) := oc_21 107 (aq_8 shX12_cheat_99) ub_6
theorem dX12_cheat_109 : decode cX12_cheat 109 = .ok (.iload 8, 2) := oc_21 109 (aq_10 shX12_cheat_99) ub_8
theorem dX12_cheat_111 : decode cX12_cheat 111 = .ok (.ifCond .eq 18, 3) := oc_153 111 (aq_12 shX12_cheat_99) sgw_0_18
theorem dX12_cheat_129 : decode cX12_cheat 129 = .ok (.iconst 0, 1) := oc_3 129 (aq_4 shX12_cheat_125)
theorem dX12_cheat_130 : decode cX12_cheat 130 = .ok (.iadd, 1) := oc_96 130 (aq_5 shX12_cheat_125)
theorem dX12_cheat_131 : decode cX12_cheat 131 = .ok (.istore 6, 2) := oc_54 131 (aq_6 shX12_cheat_125) ub_6
theorem dX12_cheat_133 : decode cX12_cheat 133 = .ok (.iinc 7 1, 3) := oc_132 133 (aq_8 shX12_cheat_125) ub_7 sgb_1
theorem dX12_cheat_136 : decode cX12_cheat 136 = .ok (.goto (-92), 3) := oc_167 136 (aq_11 shX12_cheat_125) sgw_255_164
noncomputable def sxX12_feast_29 : List UInt8 := []
noncomputable def sxX12_feast_24 : List UInt8 := 27 :: 28 :: 79 :: 4 :: 172 :: sxX12_feast_29
theorem shX12_feast_0 : cX12_feast.data.toList.drop 0 = 27 :: 184 :: 1 :: 85 :: 153 :: 0 :: 14 :: 28 :: 3 :: 17 :: 1 :: 44 :: 184 :: 0 :: 214 :: 154 :: 0 :: 5 :: 3 :: 172 :: 42 :: 180 :: 0 :: 98 :: sxX12_feast_24 := rfl
theorem shX12_feast_24 : cX12_feast.data.toList.drop 24 = 27 :: 28 :: 79 :: 4 :: 172 :: sxX12_feast_29 := aq_24 shX12_feast_0
noncomputable def sxX12_feastedOf_80 : List UInt8 := []
noncomputable def sxX12_feastedOf_74 : List UInt8 := 180 :: 0 :: 19 :: 28 :: 46 :: 172 :: sxX12_feastedOf_80
noncomputable def sxX12_feastedOf_50 : List UInt8 := 108 :: 96 :: 62 :: 132 :: 4 :: 1 :: 167 :: 255 :: 219 :: 29 :: 42 :: 180 :: 0 :: 19 :: 28 :: 46 :: 162 :: 0 :: 7 :: 29 :: 167 :: 0 :: 9 :: 42 :: sxX12_feastedOf_74
noncomputable def sxX12_feastedOf_25 : List UInt8 := 27 :: 46 :: 163 :: 0 :: 32 :: 29 :: 42 :: 180 :: 0 :: 16 :: 28 :: 46 :: 16 :: 100 :: 42 :: 180 :: 0 :: 98 :: 21 :: 4 :: 46 :: 96 :: 104 :: 16 :: 100 :: sxX12_feastedOf_50
theorem shX12_feastedOf_0 : cX12_feastedOf.data.toList.drop 0 = 42 :: 180 :: 0 :: 25 :: 27 :: 46 :: 61 :: 3 :: 62 :: 42 :: 180 :: 0 :: 49 :: 27 :: 46 :: 4 :: 96 :: 54 :: 4 :: 21 :: 4 :: 42 :: 180 :: 0 :: 28 :: sxX12_feastedOf_25 := rfl
theorem shX12_feastedOf_25 : cX12_feastedOf.data.toList.drop 25 = 27 :: 46 :: 163 :: 0 :: 32 :: 29 :: 42 :: 180 :: 0 :: 16 :: 28 :: 46 :: 16 :: 100 :: 42 :: 180 :: 0 :: 98 :: 21 :: 4 :: 46 :: 96 :: 104 :: 16 :: 100 :: sxX12_feastedOf_50 := aq_25 shX12_feastedOf_0
theorem shX12_feastedOf_50 : cX12_feastedOf.data.toList.drop 50 = 108 :: 96 :: 62 :: 132 :: 4 :: 1 :: 167 :: 255 :: 219 :: 29 :: 42 :: 180 :: 0 :: 19 :: 28 :: 46 :: 162 :: 0 :: 7 :: 29 :: 167 :: 0 :: 9 :: 42 :: sxX12_feastedOf_74 := aq_25 shX12_feastedOf_25
theorem shX12_feastedOf_74 : cX12_feastedOf.data.toList.drop 74 = 180 :: 0 :: 19 :: 28 :: 46 :: 172 :: sxX12_feastedOf_80 := aq_24 shX12_feastedOf_50
noncomputable def sxX12_feasted_60 : List UInt8 := []
noncomputable def sxX12_feasted_48 : List UInt8 := 21 :: 4 :: 158 :: 0 :: 8 :: 21 :: 4 :: 167 :: 0 :: 4 :: 3 :: 172 :: sxX12_feasted_60
noncomputable def sxX12_feasted_24 : List UInt8 := 62 :: 29 :: 42 :: 180 :: 0 :: 31 :: 27 :: 46 :: 100 :: 29 :: 16 :: 10 :: 108 :: 100 :: 54 :: 4 :: 28 :: 154 :: 0 :: 7 :: 29 :: 167 :: 0 :: 14 :: sxX12_feasted_48
theorem shX12_feasted_0 : cX12_feasted.data.toList.drop 0 = 42 :: 27 :: 182 :: 1 :: 79 :: 153 :: 0 :: 12 :: 28 :: 3 :: 4 :: 184 :: 0 :: 214 :: 154 :: 0 :: 5 :: 2 :: 172 :: 42 :: 27 :: 182 :: 1 :: 101 :: sxX12_feasted_24 := rfl
theorem shX12_feasted_24 : cX12_feasted.data.toList.drop 24 = 62 :: 29 :: 42 :: 180 :: 0 :: 31 :: 27 :: 46 :: 100 :: 29 :: 16 :: 10 :: 108 :: 100 :: 54 :: 4 :: 28 :: 154 :: 0 :: 7 :: 29 :: 167 :: 0 :: 14 :: sxX12_feasted_48 := aq_24 shX12_feasted_0
theorem shX12_feasted_48 : cX12_feasted.data.toList.drop 48 = 21 :: 4 :: 158 :: 0 :: 8 :: 21 :: 4 :: 167 :: 0 :: 4 :: 3 :: 172 :: sxX12_feasted_60 := aq_24 shX12_feasted_24
noncomputable def sxX12_apart_30 : List UInt8 := []
noncomputable def sxX12_apart_25 : List UInt8 := 27 :: 29 :: 100 :: 96 :: 172 :: sxX12_apart_30
theorem shX12_apart_0 : cX12_apart.data.toList.drop 0 = 26 :: 28 :: 162 :: 0 :: 9 :: 28 :: 26 :: 100 :: 167 :: 0 :: 6 :: 26 :: 28 :: 100 :: 27 :: 29 :: 162 :: 0 :: 9 :: 29 :: 27 :: 100 :: 167 :: 0 :: 6 :: sxX12_apart_25 := rfl
theorem shX12_apart_25 : cX12_apart.data.toList.drop 25 = 27 :: 29 :: 100 :: 96 :: 172 :: sxX12_apart_30 := aq_25 shX12_apart_0
theorem dX12_apart_28 : decode cX12_apart 28 = .ok (.iadd, 1) := oc_96 28 (aq_3 shX12_apart_25)
theorem dX12_apart_29 : decode cX12_apart 29 = .ok (.ireturn, 1) := oc_172 29 (aq_4 shX12_apart_25)
noncomputable def sxX12_toDepot_14 : List UInt8 := []
theorem shX12_toDepot_0 : cX12_toDepot.data.toList.drop 0 = 42 :: 180 :: 0 :: 7 :: 27 :: 46 :: 42 :: 180 :: 0 :: 13 :: 27 :: 46 :: 96 :: 172 :: sxX12_toDepot_14 := rfl
noncomputable def sxX12_way_28 : List UInt8 := []
noncomputable def sxX12_way_24 : List UInt8 := 184 :: 1 :: 104 :: 172 :: sxX12_way_28
theorem shX12_way_0 : cX12_way.data.toList.drop 0 = 42 :: 180 :: 0 :: 7 :: 27 :: 46 :: 42 :: 180 :: 0 :: 13 :: 27 :: 46 :: 42 :: 180 :: 0 :: 7 :: 28 :: 46 :: 42 :: 180 :: 0 :: 13 :: 28 :: 46 :: sxX12_way_24 := rfl
theorem shX12_way_24 : cX12_way.data.toList.drop 24 = 184 :: 1 :: 104 :: 172 :: sxX12_way_28 := aq_24 shX12_way_0
noncomputable def sxX12_goes_159 : List UInt8 := []
noncomputable def sxX12_goes_149 : List UInt8 := 167 :: 255 :: 125 :: 132 :: 2 :: 1 :: 167 :: 255 :: 112 :: 177 :: sxX12_goes_159
noncomputable def sxX12_goes_125 : List UInt8 := 54 :: 4 :: 132 :: 5 :: 1 :: 167 :: 255 :: 177 :: 42 :: 180 :: 0 :: 104 :: 16 :: 8 :: 28 :: 104 :: 29 :: 96 :: 21 :: 4 :: 79 :: 132 :: 3 :: 1 :: sxX12_goes_149
noncomputable def sxX12_goes_101 : List UInt8 := 130 :: 126 :: 104 :: 21 :: 5 :: 96 :: 46 :: 96 :: 54 :: 6 :: 21 :: 6 :: 21 :: 4 :: 162 :: 0 :: 8 :: 21 :: 6 :: 167 :: 0 :: 5 :: 21 :: 4 :: sxX12_goes_125
noncomputable def sxX12_goes_77 : List UInt8 := 29 :: 46 :: 42 :: 180 :: 0 :: 101 :: 21 :: 5 :: 46 :: 182 :: 1 :: 115 :: 42 :: 180 :: 0 :: 104 :: 16 :: 8 :: 28 :: 4 :: 21 :: 5 :: 120 :: 2 :: sxX12_goes_101
noncomputable def sxX12_goes_51 : List UInt8 := 21 :: 5 :: 42 :: 180 :: 1 :: 108 :: 162 :: 0 :: 76 :: 28 :: 21 :: 5 :: 122 :: 4 :: 126 :: 154 :: 0 :: 6 :: 167 :: 0 :: 58 :: 42 :: 42 :: 180 :: 0 :: 101 :: sxX12_goes_77
noncomputable def sxX12_goes_26 : List UInt8 := 28 :: 154 :: 0 :: 16 :: 42 :: 42 :: 180 :: 0 :: 101 :: 29 :: 46 :: 182 :: 1 :: 111 :: 167 :: 0 :: 6 :: 19 :: 1 :: 114 :: 54 :: 4 :: 3 :: 54 :: 5 :: sxX12_goes_51
theorem shX12_goes_0 : cX12_goes.data.toList.drop 0 = 4 :: 42 :: 180 :: 1 :: 108 :: 120 :: 4 :: 100 :: 60 :: 3 :: 61 :: 28 :: 27 :: 163 :: 0 :: 145 :: 3 :: 62 :: 29 :: 42 :: 180 :: 1 :: 108 :: 162 :: 0 :: 129 :: sxX12_goes_26 := rfl
theorem shX12_goes_26 : cX12_goes.data.toList.drop 26 = 28 :: 154 :: 0 :: 16 :: 42 :: 42 :: 180 :: 0 :: 101 :: 29 :: 46 :: 182 :: 1 :: 111 :: 167 :: 0 :: 6 :: 19 :: 1 :: 114 :: 54 :: 4 :: 3 :: 54 :: 5 :: sxX12_goes_51 := aq_26 shX12_goes_0
theorem shX12_goes_51 : cX12_goes.data.toList.drop 51 = 21 :: 5 :: 42 :: 180 :: 1 :: 108 :: 162 :: 0 :: 76 :: 28 :: 21 :: 5 :: 122 :: 4 :: 126 :: 154 :: 0 :: 6 :: 167 :: 0 :: 58 :: 42 :: 42 :: 180 :: 0 :: 101 :: sxX12_goes_77 := aq_25 shX12_goes_26
theorem shX12_goes_77 : cX12_goes.data.toList.drop 77 = 29 :: 46 :: 42 :: 180 :: 0 :: 101 :: 21 :: 5 :: 46 :: 182 :: 1 :: 115 :: 42 :: 180 :: 0 :: 104 :: 16 :: 8 :: 28 :: 4 :: 21 :: 5 :: 120 :: 2 :: sxX12_goes_101 := aq_26 shX12_goes_51
theorem shX12_goes_101 : cX12_goes.data.toList.drop 101 = 130 :: 126 :: 104 :: 21 :: 5 :: 96 :: 46 :: 96 :: 54 :: 6 :: 21 :: 6 :: 21 :: 4 :: 162 :: 0 :: 8 :: 21 :: 6 :: 167 :: 0 :: 5 :: 21 :: 4 :: sxX12_goes_125 := aq_24 shX12_goes_77
theorem shX12_goes_125 : cX12_goes.data.toList.drop 125 = 54 :: 4 :: 132 :: 5 :: 1 :: 167 :: 255 :: 177 :: 42 :: 180 :: 0 :: 104 :: 16 :: 8 :: 28 :: 104 :: 29 :: 96 :: 21 :: 4 :: 79 :: 132 :: 3 :: 1 :: sxX12_goes_149 := aq_24 shX12_goes_101
theorem shX12_goes_149 : cX12_goes.data.toList.drop 149 = 167 :: 255 :: 125 :: 132 :: 2 :: 1 :: 167 :: 255 :: 112 :: 177 :: sxX12_goes_159 := aq_24 shX12_goes_125
theorem dX12_goes_66 : decode cX12_goes 66 = .ok (.ifCond .ne 6, 3) := oc_154 66 (aq_15 shX12_goes_51) sgw_0_6
theorem dX12_goes_125 : decode cX12_goes 125 = .ok (.istore 4, 2) := oc_54 125 shX12_goes_125 ub_4
theorem dX12_goes_127 : decode cX12_goes 127 = .ok (.iinc 5 1, 3) := oc_132 127 (aq_2 shX12_goes_125) ub_5 sgb_1
theorem dX12_goes_130 : decode cX12_goes 130 = .ok (.goto (-79), 3) := oc_167 130 (aq_5 shX12_goes_125) sgw_255_177
noncomputable def sxX12_nextOf_132 : List UInt8 := []
noncomputable def sxX12_nextOf_125 : List UInt8 := 21 :: 4 :: 181 :: 1 :: 118 :: 29 :: 172 :: sxX12_nextOf_132
noncomputable def sxX12_nextOf_99 : List UInt8 := 167 :: 0 :: 10 :: 21 :: 5 :: 62 :: 21 :: 6 :: 54 :: 4 :: 132 :: 5 :: 1 :: 167 :: 255 :: 152 :: 42 :: 29 :: 2 :: 160 :: 0 :: 7 :: 3 :: 167 :: 0 :: 5 :: sxX12_nextOf_125
noncomputable def sxX12_nextOf_75 : List UInt8 := 120 :: 2 :: 130 :: 126 :: 104 :: 21 :: 5 :: 96 :: 46 :: 96 :: 54 :: 6 :: 29 :: 2 :: 159 :: 0 :: 13 :: 21 :: 6 :: 21 :: 4 :: 161 :: 0 :: 6 :: sxX12_nextOf_99
noncomputable def sxX12_nextOf_50 : List UInt8 := 180 :: 0 :: 101 :: 27 :: 46 :: 42 :: 180 :: 0 :: 101 :: 21 :: 5 :: 46 :: 182 :: 1 :: 115 :: 42 :: 180 :: 0 :: 104 :: 16 :: 8 :: 28 :: 4 :: 21 :: 5 :: sxX12_nextOf_75
noncomputable def sxX12_nextOf_26 : List UInt8 := 167 :: 0 :: 83 :: 27 :: 2 :: 160 :: 0 :: 17 :: 42 :: 42 :: 180 :: 0 :: 101 :: 21 :: 5 :: 46 :: 182 :: 1 :: 111 :: 167 :: 0 :: 20 :: 42 :: 42 :: sxX12_nextOf_50
theorem shX12_nextOf_0 : cX12_nextOf.data.toList.drop 0 = 2 :: 62 :: 3 :: 54 :: 4 :: 3 :: 54 :: 5 :: 21 :: 5 :: 42 :: 180 :: 1 :: 108 :: 162 :: 0 :: 101 :: 28 :: 21 :: 5 :: 122 :: 4 :: 126 :: 154 :: 0 :: 6 :: sxX12_nextOf_26 := rfl
theorem shX12_nextOf_26 : cX12_nextOf.data.toList.drop 26 = 167 :: 0 :: 83 :: 27 :: 2 :: 160 :: 0 :: 17 :: 42 :: 42 :: 180 :: 0 :: 101 :: 21 :: 5 :: 46 :: 182 :: 1 :: 111 :: 167 :: 0 :: 20 :: 42 :: 42 :: sxX12_nextOf_50 := aq_26 shX12_nextOf_0
theorem shX12_nextOf_50 : cX12_nextOf.data.toList.drop 50 = 180 :: 0 :: 101 :: 27 :: 46 :: 42 :: 180 :: 0 :: 101 :: 21 :: 5 :: 46 :: 182 :: 1 :: 115 :: 42 :: 180 :: 0 :: 104 :: 16 :: 8 :: 28 :: 4 :: 21 :: 5 :: sxX12_nextOf_75 := aq_24 shX12_nextOf_26
theorem shX12_nextOf_75 : cX12_nextOf.data.toList.drop 75 = 120 :: 2 :: 130 :: 126 :: 104 :: 21 :: 5 :: 96 :: 46 :: 96 :: 54 :: 6 :: 29 :: 2 :: 159 :: 0 :: 13 :: 21 :: 6 :: 21 :: 4 :: 161 :: 0 :: 6 :: sxX12_nextOf_99 := aq_25 shX12_nextOf_50
theorem shX12_nextOf_99 : cX12_nextOf.data.toList.drop 99 = 167 :: 0 :: 10 :: 21 :: 5 :: 62 :: 21 :: 6 :: 54 :: 4 :: 132 :: 5 :: 1 :: 167 :: 255 :: 152 :: 42 :: 29 :: 2 :: 160 :: 0 :: 7 :: 3 :: 167 :: 0 :: 5 :: sxX12_nextOf_125 := aq_24 shX12_nextOf_75
theorem shX12_nextOf_125 : cX12_nextOf.data.toList.drop 125 = 21 :: 4 :: 181 :: 1 :: 118 :: 29 :: 172 :: sxX12_nextOf_132 := aq_26 shX12_nextOf_99
theorem dX12_nextOf_23 : decode cX12_nextOf 23 = .ok (.ifCond .ne 6, 3) := oc_154 23 (aq_23 shX12_nextOf_0) sgw_0_6
theorem dX12_nextOf_102 : decode cX12_nextOf 102 = .ok (.iload 5, 2) := oc_21 102 (aq_3 shX12_nextOf_99) ub_5
theorem dX12_nextOf_104 : decode cX12_nextOf 104 = .ok (.istore_n 3, 1) := oc_62 104 (aq_5 shX12_nextOf_99)
theorem dX12_nextOf_105 : decode cX12_nextOf 105 = .ok (.iload 6, 2) := oc_21 105 (aq_6 shX12_nextOf_99) ub_6
theorem dX12_nextOf_107 : decode cX12_nextOf 107 = .ok (.istore 4, 2) := oc_54 107 (aq_8 shX12_nextOf_99) ub_4
theorem dX12_nextOf_109 : decode cX12_nextOf 109 = .ok (.iinc 5 1, 3) := oc_132 109 (aq_10 shX12_nextOf_99) ub_5 sgb_1
theorem dX12_nextOf_112 : decode cX12_nextOf 112 = .ok (.goto (-104), 3) := oc_167 112 (aq_13 shX12_nextOf_99) sgw_255_152
theorem dX12_nextOf_127 : decode cX12_nextOf 127 = .ok (.putfield 374, 3) := oc_181 127 (aq_2 shX12_nextOf_125) uw_1_118
theorem dX12_nextOf_130 : decode cX12_nextOf 130 = .ok (.iload_n 3, 1) := oc_29 130 (aq_5 shX12_nextOf_125)
theorem dX12_nextOf_131 : decode cX12_nextOf 131 = .ok (.ireturn, 1) := oc_172 131 (aq_6 shX12_nextOf_125)
noncomputable def sxX12_lays_87 : List UInt8 := []
noncomputable def sxX12_lays_72 : List UInt8 := 180 :: 1 :: 108 :: 29 :: 164 :: 0 :: 5 :: 3 :: 172 :: 42 :: 182 :: 1 :: 121 :: 4 :: 172 :: sxX12_lays_87
noncomputable def sxX12_lays_48 : List UInt8 := 42 :: 180 :: 1 :: 108 :: 21 :: 4 :: 79 :: 42 :: 42 :: 180 :: 1 :: 108 :: 4 :: 96 :: 181 :: 1 :: 108 :: 132 :: 4 :: 1 :: 167 :: 255 :: 196 :: 42 :: sxX12_lays_72
noncomputable def sxX12_lays_24 : List UInt8 := 27 :: 164 :: 0 :: 5 :: 3 :: 172 :: 42 :: 21 :: 4 :: 27 :: 182 :: 0 :: 222 :: 28 :: 162 :: 0 :: 6 :: 167 :: 0 :: 24 :: 42 :: 180 :: 0 :: 101 :: sxX12_lays_48
theorem shX12_lays_0 : cX12_lays.data.toList.drop 0 = 42 :: 3 :: 181 :: 1 :: 108 :: 3 :: 54 :: 4 :: 21 :: 4 :: 42 :: 180 :: 0 :: 204 :: 162 :: 0 :: 57 :: 42 :: 180 :: 0 :: 22 :: 21 :: 4 :: 46 :: sxX12_lays_24 := rfl
theorem shX12_lays_24 : cX12_lays.data.toList.drop 24 = 27 :: 164 :: 0 :: 5 :: 3 :: 172 :: 42 :: 21 :: 4 :: 27 :: 182 :: 0 :: 222 :: 28 :: 162 :: 0 :: 6 :: 167 :: 0 :: 24 :: 42 :: 180 :: 0 :: 101 :: sxX12_lays_48 := aq_24 shX12_lays_0
theorem shX12_lays_48 : cX12_lays.data.toList.drop 48 = 42 :: 180 :: 1 :: 108 :: 21 :: 4 :: 79 :: 42 :: 42 :: 180 :: 1 :: 108 :: 4 :: 96 :: 181 :: 1 :: 108 :: 132 :: 4 :: 1 :: 167 :: 255 :: 196 :: 42 :: sxX12_lays_72 := aq_24 shX12_lays_24
theorem shX12_lays_72 : cX12_lays.data.toList.drop 72 = 180 :: 1 :: 108 :: 29 :: 164 :: 0 :: 5 :: 3 :: 172 :: 42 :: 182 :: 1 :: 121 :: 4 :: 172 :: sxX12_lays_87 := aq_24 shX12_lays_48
noncomputable def sxX12_round_124 : List UInt8 := []
noncomputable def sxX12_round_120 : List UInt8 := 21 :: 6 :: 46 :: 172 :: sxX12_round_124
noncomputable def sxX12_round_96 : List UInt8 := 130 :: 126 :: 54 :: 5 :: 42 :: 21 :: 6 :: 21 :: 5 :: 182 :: 1 :: 127 :: 54 :: 6 :: 132 :: 7 :: 1 :: 167 :: 255 :: 226 :: 42 :: 180 :: 0 :: 101 :: sxX12_round_120
noncomputable def sxX12_round_72 : List UInt8 := 29 :: 21 :: 4 :: 161 :: 0 :: 5 :: 2 :: 172 :: 3 :: 54 :: 7 :: 21 :: 7 :: 29 :: 162 :: 0 :: 30 :: 21 :: 5 :: 4 :: 21 :: 6 :: 120 :: 2 :: sxX12_round_96
noncomputable def sxX12_round_48 : List UInt8 := 120 :: 4 :: 100 :: 54 :: 5 :: 42 :: 2 :: 21 :: 5 :: 182 :: 1 :: 127 :: 54 :: 6 :: 29 :: 2 :: 160 :: 0 :: 8 :: 42 :: 180 :: 1 :: 118 :: 172 :: sxX12_round_72
noncomputable def sxX12_round_24 : List UInt8 := 172 :: 42 :: 27 :: 28 :: 16 :: 8 :: 182 :: 1 :: 124 :: 154 :: 0 :: 6 :: 16 :: 254 :: 172 :: 42 :: 180 :: 1 :: 108 :: 54 :: 4 :: 4 :: 21 :: 4 :: sxX12_round_48
theorem shX12_round_0 : cX12_round.data.toList.drop 0 = 27 :: 184 :: 1 :: 85 :: 153 :: 0 :: 19 :: 28 :: 4 :: 17 :: 1 :: 144 :: 184 :: 0 :: 214 :: 153 :: 0 :: 8 :: 29 :: 2 :: 162 :: 0 :: 5 :: 2 :: sxX12_round_24 := rfl
theorem shX12_round_24 : cX12_round.data.toList.drop 24 = 172 :: 42 :: 27 :: 28 :: 16 :: 8 :: 182 :: 1 :: 124 :: 154 :: 0 :: 6 :: 16 :: 254 :: 172 :: 42 :: 180 :: 1 :: 108 :: 54 :: 4 :: 4 :: 21 :: 4 :: sxX12_round_48 := aq_24 shX12_round_0
theorem shX12_round_48 : cX12_round.data.toList.drop 48 = 120 :: 4 :: 100 :: 54 :: 5 :: 42 :: 2 :: 21 :: 5 :: 182 :: 1 :: 127 :: 54 :: 6 :: 29 :: 2 :: 160 :: 0 :: 8 :: 42 :: 180 :: 1 :: 118 :: 172 :: sxX12_round_72 := aq_24 shX12_round_24
theorem shX12_round_72 : cX12_round.data.toList.drop 72 = 29 :: 21 :: 4 :: 161 :: 0 :: 5 :: 2 :: 172 :: 3 :: 54 :: 7 :: 21 :: 7 :: 29 :: 162 :: 0 :: 30 :: 21 :: 5 :: 4 :: 21 :: 6 :: 120 :: 2 :: sxX12_round_96 := aq_24 shX12_round_48
theorem shX12_round_96 : cX12_round.data.toList.drop 96 = 130 :: 126 :: 54 :: 5 :: 42 :: 21 :: 6 :: 21 :: 5 :: 182 :: 1 :: 127 :: 54 :: 6 :: 132 :: 7 :: 1 :: 167 :: 255 :: 226 :: 42 :: 180 :: 0 :: 101 :: sxX12_round_120 := aq_24 shX12_round_72
theorem shX12_round_120 : cX12_round.data.toList.drop 120 = 21 :: 6 :: 46 :: 172 :: sxX12_round_124 := aq_24 shX12_round_96
end

section
noncomputable def sxX12_lorry_49 : List UInt8 := []
noncomputable def sxX12_lorry_26 : List UInt8 := 42 :: 180 :: 1 :: 130 :: 27 :: 79 :: 42 :: 42 :: 180 :: 1 :: 130 :: 4 :: 96 :: 181 :: 1 :: 130 :: 42 :: 180 :: 1 :: 130 :: 4 :: 100 :: 172 :: sxX12_lorry_49
theorem shX12_lorry_0 : cX12_lorry.data.toList.drop 0 = 27 :: 16 :: 20 :: 17 :: 7 :: 208 :: 184 :: 0 :: 214 :: 153 :: 0 :: 11 :: 42 :: 180 :: 1 :: 130 :: 6 :: 160 :: 0 :: 5 :: 2 :: 172 :: 42 :: 180 :: 0 :: 107 :: sxX12_lorry_26 := rfl
theorem shX12_lorry_26 : cX12_lorry.data.toList.drop 26 = 42 :: 180 :: 1 :: 130 :: 27 :: 79 :: 42 :: 42 :: 180 :: 1 :: 130 :: 4 :: 96 :: 181 :: 1 :: 130 :: 42 :: 180 :: 1 :: 130 :: 4 :: 100 :: 172 :: sxX12_lorry_49 := aq_26 shX12_lorry_0
noncomputable def sxX12_off_52 : List UInt8 := []
noncomputable def sxX12_off_50 : List UInt8 := 4 :: 172 :: sxX12_off_52
noncomputable def sxX12_off_26 : List UInt8 := 27 :: 104 :: 28 :: 96 :: 51 :: 29 :: 160 :: 0 :: 5 :: 3 :: 172 :: 42 :: 180 :: 0 :: 125 :: 17 :: 1 :: 144 :: 27 :: 104 :: 28 :: 96 :: 29 :: 84 :: sxX12_off_50
theorem shX12_off_0 : cX12_off.data.toList.drop 0 = 27 :: 155 :: 0 :: 34 :: 27 :: 42 :: 180 :: 1 :: 130 :: 162 :: 0 :: 26 :: 28 :: 184 :: 1 :: 85 :: 153 :: 0 :: 19 :: 42 :: 180 :: 0 :: 125 :: 17 :: 1 :: 144 :: sxX12_off_26 := rfl
theorem shX12_off_26 : cX12_off.data.toList.drop 26 = 27 :: 104 :: 28 :: 96 :: 51 :: 29 :: 160 :: 0 :: 5 :: 3 :: 172 :: 42 :: 180 :: 0 :: 125 :: 17 :: 1 :: 144 :: 27 :: 104 :: 28 :: 96 :: 29 :: 84 :: sxX12_off_50 := aq_26 shX12_off_0
theorem shX12_off_50 : cX12_off.data.toList.drop 50 = 4 :: 172 :: sxX12_off_52 := aq_24 shX12_off_26
theorem dX12_off_35 : decode cX12_off 35 = .ok (.iconst 0, 1) := oc_3 35 (aq_9 shX12_off_26)
theorem dX12_off_36 : decode cX12_off 36 = .ok (.ireturn, 1) := oc_172 36 (aq_10 shX12_off_26)
noncomputable def sxX12_roundTo_84 : List UInt8 := []
noncomputable def sxX12_roundTo_74 : List UInt8 := 28 :: 61 :: 132 :: 3 :: 1 :: 167 :: 255 :: 191 :: 28 :: 172 :: sxX12_roundTo_84
noncomputable def sxX12_roundTo_49 : List UInt8 := 27 :: 4 :: 29 :: 120 :: 2 :: 130 :: 126 :: 104 :: 29 :: 96 :: 46 :: 96 :: 54 :: 4 :: 21 :: 4 :: 28 :: 162 :: 0 :: 8 :: 21 :: 4 :: 167 :: 0 :: 4 :: sxX12_roundTo_74
noncomputable def sxX12_roundTo_24 : List UInt8 := 122 :: 4 :: 126 :: 154 :: 0 :: 6 :: 167 :: 0 :: 46 :: 42 :: 42 :: 180 :: 0 :: 101 :: 29 :: 46 :: 182 :: 1 :: 111 :: 42 :: 180 :: 0 :: 104 :: 16 :: 8 :: sxX12_roundTo_49
theorem shX12_roundTo_0 : cX12_roundTo.data.toList.drop 0 = 27 :: 154 :: 0 :: 7 :: 3 :: 167 :: 0 :: 6 :: 19 :: 1 :: 114 :: 61 :: 3 :: 62 :: 29 :: 42 :: 180 :: 1 :: 108 :: 162 :: 0 :: 63 :: 27 :: 29 :: sxX12_roundTo_24 := rfl
theorem shX12_roundTo_24 : cX12_roundTo.data.toList.drop 24 = 122 :: 4 :: 126 :: 154 :: 0 :: 6 :: 167 :: 0 :: 46 :: 42 :: 42 :: 180 :: 0 :: 101 :: 29 :: 46 :: 182 :: 1 :: 111 :: 42 :: 180 :: 0 :: 104 :: 16 :: 8 :: sxX12_roundTo_49 := aq_24 shX12_roundTo_0
theorem shX12_roundTo_49 : cX12_roundTo.data.toList.drop 49 = 27 :: 4 :: 29 :: 120 :: 2 :: 130 :: 126 :: 104 :: 29 :: 96 :: 46 :: 96 :: 54 :: 4 :: 21 :: 4 :: 28 :: 162 :: 0 :: 8 :: 21 :: 4 :: 167 :: 0 :: 4 :: sxX12_roundTo_74 := aq_25 shX12_roundTo_24
theorem shX12_roundTo_74 : cX12_roundTo.data.toList.drop 74 = 28 :: 61 :: 132 :: 3 :: 1 :: 167 :: 255 :: 191 :: 28 :: 172 :: sxX12_roundTo_84 := aq_25 shX12_roundTo_49
theorem dX12_roundTo_27 : decode cX12_roundTo 27 = .ok (.ifCond .ne 6, 3) := oc_154 27 (aq_3 shX12_roundTo_24) sgw_0_6
theorem dX12_roundTo_75 : decode cX12_roundTo 75 = .ok (.istore_n 2, 1) := oc_61 75 (aq_1 shX12_roundTo_74)
theorem dX12_roundTo_76 : decode cX12_roundTo 76 = .ok (.iinc 3 1, 3) := oc_132 76 (aq_2 shX12_roundTo_74) ub_3 sgb_1
theorem dX12_roundTo_79 : decode cX12_roundTo 79 = .ok (.goto (-65), 3) := oc_167 79 (aq_5 shX12_roundTo_74) sgw_255_191
noncomputable def sxX12_sharedBy_157 : List UInt8 := []
noncomputable def sxX12_sharedBy_144 : List UInt8 := 182 :: 1 :: 133 :: 96 :: 61 :: 132 :: 3 :: 1 :: 167 :: 255 :: 215 :: 28 :: 172 :: sxX12_sharedBy_157
noncomputable def sxX12_sharedBy_120 : List UInt8 := 180 :: 0 :: 110 :: 29 :: 46 :: 42 :: 180 :: 0 :: 107 :: 29 :: 46 :: 164 :: 0 :: 5 :: 2 :: 172 :: 28 :: 42 :: 42 :: 180 :: 0 :: 113 :: 29 :: 46 :: sxX12_sharedBy_144
noncomputable def sxX12_sharedBy_96 : List UInt8 := 4 :: 28 :: 120 :: 128 :: 79 :: 132 :: 2 :: 1 :: 167 :: 255 :: 181 :: 3 :: 61 :: 3 :: 62 :: 29 :: 42 :: 180 :: 1 :: 130 :: 162 :: 0 :: 39 :: 42 :: sxX12_sharedBy_120
noncomputable def sxX12_sharedBy_72 : List UInt8 := 42 :: 42 :: 180 :: 0 :: 101 :: 28 :: 46 :: 27 :: 182 :: 0 :: 222 :: 96 :: 79 :: 42 :: 180 :: 0 :: 113 :: 29 :: 42 :: 180 :: 0 :: 113 :: 29 :: 46 :: sxX12_sharedBy_96
noncomputable def sxX12_sharedBy_48 : List UInt8 := 17 :: 1 :: 144 :: 29 :: 104 :: 27 :: 96 :: 51 :: 153 :: 0 :: 5 :: 2 :: 172 :: 42 :: 180 :: 0 :: 110 :: 29 :: 42 :: 180 :: 0 :: 110 :: 29 :: 46 :: sxX12_sharedBy_72
noncomputable def sxX12_sharedBy_24 : List UInt8 := 167 :: 255 :: 234 :: 3 :: 61 :: 28 :: 42 :: 180 :: 1 :: 108 :: 162 :: 0 :: 73 :: 42 :: 180 :: 0 :: 116 :: 28 :: 46 :: 62 :: 42 :: 180 :: 0 :: 125 :: sxX12_sharedBy_48
theorem shX12_sharedBy_0 : cX12_sharedBy.data.toList.drop 0 = 3 :: 61 :: 28 :: 6 :: 162 :: 0 :: 23 :: 42 :: 180 :: 0 :: 110 :: 28 :: 3 :: 79 :: 42 :: 180 :: 0 :: 113 :: 28 :: 3 :: 79 :: 132 :: 2 :: 1 :: sxX12_sharedBy_24 := rfl
theorem shX12_sharedBy_24 : cX12_sharedBy.data.toList.drop 24 = 167 :: 255 :: 234 :: 3 :: 61 :: 28 :: 42 :: 180 :: 1 :: 108 :: 162 :: 0 :: 73 :: 42 :: 180 :: 0 :: 116 :: 28 :: 46 :: 62 :: 42 :: 180 :: 0 :: 125 :: sxX12_sharedBy_48 := aq_24 shX12_sharedBy_0
theorem shX12_sharedBy_48 : cX12_sharedBy.data.toList.drop 48 = 17 :: 1 :: 144 :: 29 :: 104 :: 27 :: 96 :: 51 :: 153 :: 0 :: 5 :: 2 :: 172 :: 42 :: 180 :: 0 :: 110 :: 29 :: 42 :: 180 :: 0 :: 110 :: 29 :: 46 :: sxX12_sharedBy_72 := aq_24 shX12_sharedBy_24
theorem shX12_sharedBy_72 : cX12_sharedBy.data.toList.drop 72 = 42 :: 42 :: 180 :: 0 :: 101 :: 28 :: 46 :: 27 :: 182 :: 0 :: 222 :: 96 :: 79 :: 42 :: 180 :: 0 :: 113 :: 29 :: 42 :: 180 :: 0 :: 113 :: 29 :: 46 :: sxX12_sharedBy_96 := aq_24 shX12_sharedBy_48
theorem shX12_sharedBy_96 : cX12_sharedBy.data.toList.drop 96 = 4 :: 28 :: 120 :: 128 :: 79 :: 132 :: 2 :: 1 :: 167 :: 255 :: 181 :: 3 :: 61 :: 3 :: 62 :: 29 :: 42 :: 180 :: 1 :: 130 :: 162 :: 0 :: 39 :: 42 :: sxX12_sharedBy_120 := aq_24 shX12_sharedBy_72
theorem shX12_sharedBy_120 : cX12_sharedBy.data.toList.drop 120 = 180 :: 0 :: 110 :: 29 :: 46 :: 42 :: 180 :: 0 :: 107 :: 29 :: 46 :: 164 :: 0 :: 5 :: 2 :: 172 :: 28 :: 42 :: 42 :: 180 :: 0 :: 113 :: 29 :: 46 :: sxX12_sharedBy_144 := aq_24 shX12_sharedBy_96
theorem shX12_sharedBy_144 : cX12_sharedBy.data.toList.drop 144 = 182 :: 1 :: 133 :: 96 :: 61 :: 132 :: 3 :: 1 :: 167 :: 255 :: 215 :: 28 :: 172 :: sxX12_sharedBy_157 := aq_24 shX12_sharedBy_120
theorem dX12_sharedBy_2 : decode cX12_sharedBy 2 = .ok (.iload_n 2, 1) := oc_28 2 (aq_2 shX12_sharedBy_0)
theorem dX12_sharedBy_3 : decode cX12_sharedBy 3 = .ok (.iconst 3, 1) := oc_6 3 (aq_3 shX12_sharedBy_0)
theorem dX12_sharedBy_4 : decode cX12_sharedBy 4 = .ok (.if_icmp .ge 23, 3) := oc_162 4 (aq_4 shX12_sharedBy_0) sgw_0_23
noncomputable def sxX12_shared_263 : List UInt8 := []
noncomputable def sxX12_shared_247 : List UInt8 := 42 :: 180 :: 0 :: 119 :: 21 :: 6 :: 46 :: 172 :: 132 :: 6 :: 1 :: 167 :: 255 :: 225 :: 2 :: 172 :: sxX12_shared_263
noncomputable def sxX12_shared_223 : List UInt8 := 172 :: 3 :: 54 :: 6 :: 21 :: 6 :: 42 :: 180 :: 1 :: 108 :: 162 :: 0 :: 28 :: 42 :: 180 :: 0 :: 101 :: 21 :: 6 :: 46 :: 29 :: 160 :: 0 :: 11 :: sxX12_shared_247
noncomputable def sxX12_shared_198 : List UInt8 := 167 :: 255 :: 230 :: 132 :: 6 :: 1 :: 167 :: 255 :: 135 :: 21 :: 5 :: 2 :: 160 :: 0 :: 6 :: 16 :: 254 :: 172 :: 29 :: 2 :: 160 :: 0 :: 6 :: 21 :: 5 :: sxX12_shared_223
noncomputable def sxX12_shared_174 : List UInt8 := 42 :: 180 :: 1 :: 108 :: 162 :: 0 :: 23 :: 42 :: 180 :: 0 :: 119 :: 21 :: 9 :: 42 :: 180 :: 0 :: 116 :: 21 :: 9 :: 46 :: 79 :: 132 :: 9 :: 1 :: sxX12_shared_198
noncomputable def sxX12_shared_149 : List UInt8 := 21 :: 5 :: 2 :: 159 :: 0 :: 13 :: 21 :: 8 :: 21 :: 5 :: 161 :: 0 :: 6 :: 167 :: 0 :: 39 :: 21 :: 8 :: 54 :: 5 :: 3 :: 54 :: 9 :: 21 :: 9 :: sxX12_shared_174
noncomputable def sxX12_shared_123 : List UInt8 := 42 :: 180 :: 1 :: 130 :: 108 :: 54 :: 7 :: 132 :: 8 :: 255 :: 167 :: 255 :: 225 :: 42 :: 27 :: 182 :: 1 :: 136 :: 54 :: 8 :: 21 :: 8 :: 2 :: 159 :: 0 :: 55 :: sxX12_shared_149
noncomputable def sxX12_shared_98 : List UInt8 := 4 :: 100 :: 54 :: 8 :: 21 :: 8 :: 155 :: 0 :: 32 :: 42 :: 180 :: 0 :: 116 :: 21 :: 8 :: 21 :: 7 :: 42 :: 180 :: 1 :: 130 :: 112 :: 79 :: 21 :: 7 :: sxX12_shared_123
noncomputable def sxX12_shared_74 : List UInt8 := 167 :: 255 :: 235 :: 2 :: 54 :: 5 :: 3 :: 54 :: 6 :: 21 :: 6 :: 21 :: 4 :: 162 :: 0 :: 120 :: 21 :: 6 :: 54 :: 7 :: 42 :: 180 :: 1 :: 108 :: sxX12_shared_98
noncomputable def sxX12_shared_48 : List UInt8 := 54 :: 4 :: 3 :: 54 :: 5 :: 21 :: 5 :: 42 :: 180 :: 1 :: 108 :: 162 :: 0 :: 18 :: 21 :: 4 :: 42 :: 180 :: 1 :: 130 :: 104 :: 54 :: 4 :: 132 :: 5 :: 1 :: sxX12_shared_74
noncomputable def sxX12_shared_24 : List UInt8 := 29 :: 182 :: 0 :: 218 :: 154 :: 0 :: 5 :: 2 :: 172 :: 42 :: 27 :: 28 :: 16 :: 6 :: 182 :: 1 :: 124 :: 154 :: 0 :: 6 :: 16 :: 254 :: 172 :: 4 :: sxX12_shared_48
theorem shX12_shared_0 : cX12_shared.data.toList.drop 0 = 27 :: 184 :: 1 :: 85 :: 153 :: 0 :: 27 :: 28 :: 4 :: 17 :: 1 :: 144 :: 184 :: 0 :: 214 :: 153 :: 0 :: 16 :: 29 :: 2 :: 159 :: 0 :: 13 :: 42 :: sxX12_shared_24 := rfl
theorem shX12_shared_24 : cX12_shared.data.toList.drop 24 = 29 :: 182 :: 0 :: 218 :: 154 :: 0 :: 5 :: 2 :: 172 :: 42 :: 27 :: 28 :: 16 :: 6 :: 182 :: 1 :: 124 :: 154 :: 0 :: 6 :: 16 :: 254 :: 172 :: 4 :: sxX12_shared_48 := aq_24 shX12_shared_0
theorem shX12_shared_48 : cX12_shared.data.toList.drop 48 = 54 :: 4 :: 3 :: 54 :: 5 :: 21 :: 5 :: 42 :: 180 :: 1 :: 108 :: 162 :: 0 :: 18 :: 21 :: 4 :: 42 :: 180 :: 1 :: 130 :: 104 :: 54 :: 4 :: 132 :: 5 :: 1 :: sxX12_shared_74 := aq_24 shX12_shared_24
theorem shX12_shared_74 : cX12_shared.data.toList.drop 74 = 167 :: 255 :: 235 :: 2 :: 54 :: 5 :: 3 :: 54 :: 6 :: 21 :: 6 :: 21 :: 4 :: 162 :: 0 :: 120 :: 21 :: 6 :: 54 :: 7 :: 42 :: 180 :: 1 :: 108 :: sxX12_shared_98 := aq_26 shX12_shared_48
theorem shX12_shared_98 : cX12_shared.data.toList.drop 98 = 4 :: 100 :: 54 :: 8 :: 21 :: 8 :: 155 :: 0 :: 32 :: 42 :: 180 :: 0 :: 116 :: 21 :: 8 :: 21 :: 7 :: 42 :: 180 :: 1 :: 130 :: 112 :: 79 :: 21 :: 7 :: sxX12_shared_123 := aq_24 shX12_shared_74
theorem shX12_shared_123 : cX12_shared.data.toList.drop 123 = 42 :: 180 :: 1 :: 130 :: 108 :: 54 :: 7 :: 132 :: 8 :: 255 :: 167 :: 255 :: 225 :: 42 :: 27 :: 182 :: 1 :: 136 :: 54 :: 8 :: 21 :: 8 :: 2 :: 159 :: 0 :: 55 :: sxX12_shared_149 := aq_25 shX12_shared_98
theorem shX12_shared_149 : cX12_shared.data.toList.drop 149 = 21 :: 5 :: 2 :: 159 :: 0 :: 13 :: 21 :: 8 :: 21 :: 5 :: 161 :: 0 :: 6 :: 167 :: 0 :: 39 :: 21 :: 8 :: 54 :: 5 :: 3 :: 54 :: 9 :: 21 :: 9 :: sxX12_shared_174 := aq_26 shX12_shared_123
theorem shX12_shared_174 : cX12_shared.data.toList.drop 174 = 42 :: 180 :: 1 :: 108 :: 162 :: 0 :: 23 :: 42 :: 180 :: 0 :: 119 :: 21 :: 9 :: 42 :: 180 :: 0 :: 116 :: 21 :: 9 :: 46 :: 79 :: 132 :: 9 :: 1 :: sxX12_shared_198 := aq_25 shX12_shared_149
theorem shX12_shared_198 : cX12_shared.data.toList.drop 198 = 167 :: 255 :: 230 :: 132 :: 6 :: 1 :: 167 :: 255 :: 135 :: 21 :: 5 :: 2 :: 160 :: 0 :: 6 :: 16 :: 254 :: 172 :: 29 :: 2 :: 160 :: 0 :: 6 :: 21 :: 5 :: sxX12_shared_223 := aq_24 shX12_shared_174
theorem shX12_shared_223 : cX12_shared.data.toList.drop 223 = 172 :: 3 :: 54 :: 6 :: 21 :: 6 :: 42 :: 180 :: 1 :: 108 :: 162 :: 0 :: 28 :: 42 :: 180 :: 0 :: 101 :: 21 :: 6 :: 46 :: 29 :: 160 :: 0 :: 11 :: sxX12_shared_247 := aq_25 shX12_shared_198
theorem shX12_shared_247 : cX12_shared.data.toList.drop 247 = 42 :: 180 :: 0 :: 119 :: 21 :: 6 :: 46 :: 172 :: 132 :: 6 :: 1 :: 167 :: 255 :: 225 :: 2 :: 172 :: sxX12_shared_263 := aq_24 shX12_shared_223
theorem dX12_shared_41 : decode cX12_shared 41 = .ok (.ifCond .ne 6, 3) := oc_154 41 (aq_17 shX12_shared_24) sgw_0_6
theorem dX12_shared_102 : decode cX12_shared 102 = .ok (.iload 8, 2) := oc_21 102 (aq_4 shX12_shared_98) ub_8
theorem dX12_shared_104 : decode cX12_shared 104 = .ok (.ifCond .lt 32, 3) := oc_155 104 (aq_6 shX12_shared_98) sgw_0_32
theorem dX12_shared_165 : decode cX12_shared 165 = .ok (.iload 8, 2) := oc_21 165 (aq_16 shX12_shared_149) ub_8
theorem dX12_shared_167 : decode cX12_shared 167 = .ok (.istore 5, 2) := oc_54 167 (aq_18 shX12_shared_149) ub_5
theorem dX12_shared_169 : decode cX12_shared 169 = .ok (.iconst 0, 1) := oc_3 169 (aq_20 shX12_shared_149)
theorem dX12_shared_170 : decode cX12_shared 170 = .ok (.istore 9, 2) := oc_54 170 (aq_21 shX12_shared_149) ub_9
theorem dX12_shared_172 : decode cX12_shared 172 = .ok (.iload 9, 2) := oc_21 172 (aq_23 shX12_shared_149) ub_9
theorem dX12_shared_174 : decode cX12_shared 174 = .ok (.aload_n 0, 1) := oc_42 174 shX12_shared_174
theorem dX12_shared_175 : decode cX12_shared 175 = .ok (.getfield 364, 3) := oc_180 175 (aq_1 shX12_shared_174) uw_1_108
theorem dX12_shared_178 : decode cX12_shared 178 = .ok (.if_icmp .ge 23, 3) := oc_162 178 (aq_4 shX12_shared_174) sgw_0_23
theorem dX12_shared_181 : decode cX12_shared 181 = .ok (.aload_n 0, 1) := oc_42 181 (aq_7 shX12_shared_174)
theorem dX12_shared_182 : decode cX12_shared 182 = .ok (.getfield 119, 3) := oc_180 182 (aq_8 shX12_shared_174) uw_0_119
theorem dX12_shared_185 : decode cX12_shared 185 = .ok (.iload 9, 2) := oc_21 185 (aq_11 shX12_shared_174) ub_9
theorem dX12_shared_187 : decode cX12_shared 187 = .ok (.aload_n 0, 1) := oc_42 187 (aq_13 shX12_shared_174)
theorem dX12_shared_188 : decode cX12_shared 188 = .ok (.getfield 116, 3) := oc_180 188 (aq_14 shX12_shared_174) uw_0_116
theorem dX12_shared_191 : decode cX12_shared 191 = .ok (.iload 9, 2) := oc_21 191 (aq_17 shX12_shared_174) ub_9
theorem dX12_shared_193 : decode cX12_shared 193 = .ok (.iaload, 1) := oc_46 193 (aq_19 shX12_shared_174)
theorem dX12_shared_194 : decode cX12_shared 194 = .ok (.iastore, 1) := oc_79 194 (aq_20 shX12_shared_174)
theorem dX12_shared_195 : decode cX12_shared 195 = .ok (.iinc 9 1, 3) := oc_132 195 (aq_21 shX12_shared_174) ub_9 sgb_1
theorem dX12_shared_198 : decode cX12_shared 198 = .ok (.goto (-26), 3) := oc_167 198 shX12_shared_198 sgw_255_230
theorem dX12_shared_201 : decode cX12_shared 201 = .ok (.iinc 6 1, 3) := oc_132 201 (aq_3 shX12_shared_198) ub_6 sgb_1
theorem dX12_shared_204 : decode cX12_shared 204 = .ok (.goto (-121), 3) := oc_167 204 (aq_6 shX12_shared_198) sgw_255_135
noncomputable def sxX12_goNights_133 : List UInt8 := []
noncomputable def sxX12_goNights_125 : List UInt8 := 132 :: 4 :: 1 :: 167 :: 255 :: 146 :: 4 :: 172 :: sxX12_goNights_133
noncomputable def sxX12_goNights_100 : List UInt8 := 4 :: 96 :: 181 :: 1 :: 145 :: 42 :: 180 :: 0 :: 22 :: 42 :: 180 :: 0 :: 101 :: 21 :: 5 :: 46 :: 21 :: 4 :: 79 :: 132 :: 5 :: 1 :: 167 :: 255 :: 198 :: sxX12_goNights_125
noncomputable def sxX12_goNights_75 : List UInt8 := 180 :: 1 :: 142 :: 42 :: 42 :: 180 :: 0 :: 101 :: 21 :: 5 :: 46 :: 21 :: 4 :: 182 :: 0 :: 222 :: 96 :: 181 :: 1 :: 142 :: 42 :: 42 :: 180 :: 1 :: 145 :: sxX12_goNights_100
noncomputable def sxX12_goNights_51 : List UInt8 := 120 :: 4 :: 100 :: 182 :: 1 :: 133 :: 96 :: 181 :: 1 :: 139 :: 3 :: 54 :: 5 :: 21 :: 5 :: 42 :: 180 :: 1 :: 108 :: 162 :: 0 :: 55 :: 42 :: 42 :: sxX12_goNights_75
noncomputable def sxX12_goNights_26 : List UInt8 := 42 :: 21 :: 4 :: 29 :: 16 :: 8 :: 182 :: 1 :: 124 :: 154 :: 0 :: 5 :: 3 :: 172 :: 42 :: 42 :: 180 :: 1 :: 139 :: 42 :: 4 :: 42 :: 180 :: 1 :: 108 :: sxX12_goNights_51
theorem shX12_goNights_0 : cX12_goNights.data.toList.drop 0 = 42 :: 3 :: 181 :: 1 :: 139 :: 42 :: 3 :: 181 :: 1 :: 142 :: 42 :: 3 :: 181 :: 1 :: 145 :: 27 :: 54 :: 4 :: 21 :: 4 :: 27 :: 28 :: 96 :: 162 :: 0 :: 108 :: sxX12_goNights_26 := rfl
theorem shX12_goNights_26 : cX12_goNights.data.toList.drop 26 = 42 :: 21 :: 4 :: 29 :: 16 :: 8 :: 182 :: 1 :: 124 :: 154 :: 0 :: 5 :: 3 :: 172 :: 42 :: 42 :: 180 :: 1 :: 139 :: 42 :: 4 :: 42 :: 180 :: 1 :: 108 :: sxX12_goNights_51 := aq_26 shX12_goNights_0
theorem shX12_goNights_51 : cX12_goNights.data.toList.drop 51 = 120 :: 4 :: 100 :: 182 :: 1 :: 133 :: 96 :: 181 :: 1 :: 139 :: 3 :: 54 :: 5 :: 21 :: 5 :: 42 :: 180 :: 1 :: 108 :: 162 :: 0 :: 55 :: 42 :: 42 :: sxX12_goNights_75 := aq_25 shX12_goNights_26
theorem shX12_goNights_75 : cX12_goNights.data.toList.drop 75 = 180 :: 1 :: 142 :: 42 :: 42 :: 180 :: 0 :: 101 :: 21 :: 5 :: 46 :: 21 :: 4 :: 182 :: 0 :: 222 :: 96 :: 181 :: 1 :: 142 :: 42 :: 42 :: 180 :: 1 :: 145 :: sxX12_goNights_100 := aq_24 shX12_goNights_51
theorem shX12_goNights_100 : cX12_goNights.data.toList.drop 100 = 4 :: 96 :: 181 :: 1 :: 145 :: 42 :: 180 :: 0 :: 22 :: 42 :: 180 :: 0 :: 101 :: 21 :: 5 :: 46 :: 21 :: 4 :: 79 :: 132 :: 5 :: 1 :: 167 :: 255 :: 198 :: sxX12_goNights_125 := aq_25 shX12_goNights_75
theorem shX12_goNights_125 : cX12_goNights.data.toList.drop 125 = 132 :: 4 :: 1 :: 167 :: 255 :: 146 :: 4 :: 172 :: sxX12_goNights_133 := aq_25 shX12_goNights_100
noncomputable def sxX12_nights_164 : List UInt8 := []
noncomputable def sxX12_nights_146 : List UInt8 := 21 :: 4 :: 4 :: 160 :: 0 :: 10 :: 42 :: 180 :: 1 :: 142 :: 167 :: 0 :: 7 :: 42 :: 180 :: 1 :: 145 :: 172 :: sxX12_nights_164
noncomputable def sxX12_nights_121 : List UInt8 := 167 :: 255 :: 230 :: 21 :: 5 :: 154 :: 0 :: 8 :: 16 :: 254 :: 167 :: 0 :: 32 :: 21 :: 4 :: 154 :: 0 :: 10 :: 42 :: 180 :: 1 :: 139 :: 167 :: 0 :: 20 :: sxX12_nights_146
noncomputable def sxX12_nights_97 : List UInt8 := 42 :: 180 :: 0 :: 204 :: 162 :: 0 :: 23 :: 42 :: 180 :: 0 :: 22 :: 21 :: 6 :: 42 :: 180 :: 0 :: 122 :: 21 :: 6 :: 46 :: 79 :: 132 :: 6 :: 1 :: sxX12_nights_121
noncomputable def sxX12_nights_73 : List UInt8 := 21 :: 5 :: 46 :: 79 :: 132 :: 5 :: 1 :: 167 :: 255 :: 230 :: 42 :: 27 :: 28 :: 29 :: 182 :: 1 :: 148 :: 54 :: 5 :: 3 :: 54 :: 6 :: 21 :: 6 :: sxX12_nights_97
noncomputable def sxX12_nights_49 : List UInt8 := 2 :: 172 :: 3 :: 54 :: 5 :: 21 :: 5 :: 42 :: 180 :: 0 :: 204 :: 162 :: 0 :: 23 :: 42 :: 180 :: 0 :: 122 :: 21 :: 5 :: 42 :: 180 :: 0 :: 22 :: sxX12_nights_73
noncomputable def sxX12_nights_25 : List UInt8 := 163 :: 0 :: 24 :: 29 :: 4 :: 17 :: 1 :: 144 :: 184 :: 0 :: 214 :: 153 :: 0 :: 13 :: 21 :: 4 :: 3 :: 5 :: 184 :: 0 :: 214 :: 154 :: 0 :: 5 :: sxX12_nights_49
theorem shX12_nights_0 : cX12_nights.data.toList.drop 0 = 27 :: 184 :: 1 :: 85 :: 153 :: 0 :: 45 :: 28 :: 4 :: 16 :: 7 :: 184 :: 0 :: 214 :: 153 :: 0 :: 35 :: 27 :: 28 :: 96 :: 4 :: 100 :: 17 :: 1 :: 143 :: sxX12_nights_25 := rfl
theorem shX12_nights_25 : cX12_nights.data.toList.drop 25 = 163 :: 0 :: 24 :: 29 :: 4 :: 17 :: 1 :: 144 :: 184 :: 0 :: 214 :: 153 :: 0 :: 13 :: 21 :: 4 :: 3 :: 5 :: 184 :: 0 :: 214 :: 154 :: 0 :: 5 :: sxX12_nights_49 := aq_25 shX12_nights_0
theorem shX12_nights_49 : cX12_nights.data.toList.drop 49 = 2 :: 172 :: 3 :: 54 :: 5 :: 21 :: 5 :: 42 :: 180 :: 0 :: 204 :: 162 :: 0 :: 23 :: 42 :: 180 :: 0 :: 122 :: 21 :: 5 :: 42 :: 180 :: 0 :: 22 :: sxX12_nights_73 := aq_24 shX12_nights_25
theorem shX12_nights_73 : cX12_nights.data.toList.drop 73 = 21 :: 5 :: 46 :: 79 :: 132 :: 5 :: 1 :: 167 :: 255 :: 230 :: 42 :: 27 :: 28 :: 29 :: 182 :: 1 :: 148 :: 54 :: 5 :: 3 :: 54 :: 6 :: 21 :: 6 :: sxX12_nights_97 := aq_24 shX12_nights_49
theorem shX12_nights_97 : cX12_nights.data.toList.drop 97 = 42 :: 180 :: 0 :: 204 :: 162 :: 0 :: 23 :: 42 :: 180 :: 0 :: 22 :: 21 :: 6 :: 42 :: 180 :: 0 :: 122 :: 21 :: 6 :: 46 :: 79 :: 132 :: 6 :: 1 :: sxX12_nights_121 := aq_24 shX12_nights_73
theorem shX12_nights_121 : cX12_nights.data.toList.drop 121 = 167 :: 255 :: 230 :: 21 :: 5 :: 154 :: 0 :: 8 :: 16 :: 254 :: 167 :: 0 :: 32 :: 21 :: 4 :: 154 :: 0 :: 10 :: 42 :: 180 :: 1 :: 139 :: 167 :: 0 :: 20 :: sxX12_nights_146 := aq_24 shX12_nights_97
theorem shX12_nights_146 : cX12_nights.data.toList.drop 146 = 21 :: 4 :: 4 :: 160 :: 0 :: 10 :: 42 :: 180 :: 1 :: 142 :: 167 :: 0 :: 7 :: 42 :: 180 :: 1 :: 145 :: 172 :: sxX12_nights_164 := aq_25 shX12_nights_121
theorem dX12_nights_49 : decode cX12_nights 49 = .ok (.iconst (-1), 1) := oc_2 49 shX12_nights_49
theorem dX12_nights_50 : decode cX12_nights 50 = .ok (.ireturn, 1) := oc_172 50 (aq_1 shX12_nights_49)
theorem dX12_nights_163 : decode cX12_nights 163 = .ok (.ireturn, 1) := oc_172 163 (aq_17 shX12_nights_146)
noncomputable def sxX12_drum_28 : List UInt8 := []
noncomputable def sxX12_drum_25 : List UInt8 := 4 :: 100 :: 172 :: sxX12_drum_28
theorem shX12_drum_0 : cX12_drum.data.toList.drop 0 = 42 :: 180 :: 1 :: 151 :: 16 :: 20 :: 160 :: 0 :: 5 :: 2 :: 172 :: 42 :: 42 :: 180 :: 1 :: 151 :: 4 :: 96 :: 181 :: 1 :: 151 :: 42 :: 180 :: 1 :: 151 :: sxX12_drum_25 := rfl
theorem shX12_drum_25 : cX12_drum.data.toList.drop 25 = 4 :: 100 :: 172 :: sxX12_drum_28 := aq_25 shX12_drum_0
noncomputable def sxX12_isDrum_18 : List UInt8 := []
theorem shX12_isDrum_0 : cX12_isDrum.data.toList.drop 0 = 27 :: 155 :: 0 :: 15 :: 27 :: 42 :: 180 :: 1 :: 151 :: 162 :: 0 :: 7 :: 4 :: 167 :: 0 :: 4 :: 3 :: 172 :: sxX12_isDrum_18 := rfl
noncomputable def sxX12_latest_47 : List UInt8 := []
noncomputable def sxX12_latest_25 : List UInt8 := 42 :: 180 :: 0 :: 135 :: 21 :: 4 :: 46 :: 28 :: 163 :: 0 :: 6 :: 21 :: 4 :: 62 :: 132 :: 4 :: 1 :: 167 :: 255 :: 219 :: 29 :: 172 :: sxX12_latest_47
theorem shX12_latest_0 : cX12_latest.data.toList.drop 0 = 2 :: 62 :: 3 :: 54 :: 4 :: 21 :: 4 :: 42 :: 180 :: 1 :: 154 :: 162 :: 0 :: 34 :: 42 :: 180 :: 0 :: 129 :: 21 :: 4 :: 46 :: 27 :: 160 :: 0 :: 17 :: sxX12_latest_25 := rfl
theorem shX12_latest_25 : cX12_latest.data.toList.drop 25 = 42 :: 180 :: 0 :: 135 :: 21 :: 4 :: 46 :: 28 :: 163 :: 0 :: 6 :: 21 :: 4 :: 62 :: 132 :: 4 :: 1 :: 167 :: 255 :: 219 :: 29 :: 172 :: sxX12_latest_47 := aq_25 shX12_latest_0
noncomputable def sxX12_moves_115 : List UInt8 := []
noncomputable def sxX12_moves_97 : List UInt8 := 42 :: 180 :: 1 :: 154 :: 29 :: 79 :: 42 :: 42 :: 180 :: 1 :: 154 :: 4 :: 96 :: 181 :: 1 :: 154 :: 4 :: 172 :: sxX12_moves_115
noncomputable def sxX12_moves_73 : List UInt8 := 42 :: 180 :: 0 :: 129 :: 42 :: 180 :: 1 :: 154 :: 27 :: 79 :: 42 :: 180 :: 0 :: 132 :: 42 :: 180 :: 1 :: 154 :: 28 :: 79 :: 42 :: 180 :: 0 :: 135 :: sxX12_moves_97
noncomputable def sxX12_moves_49 : List UInt8 := 182 :: 1 :: 160 :: 54 :: 4 :: 21 :: 4 :: 2 :: 159 :: 0 :: 16 :: 42 :: 180 :: 0 :: 135 :: 21 :: 4 :: 46 :: 29 :: 164 :: 0 :: 5 :: 3 :: 172 :: sxX12_moves_73
noncomputable def sxX12_moves_24 : List UInt8 := 180 :: 0 :: 211 :: 184 :: 0 :: 214 :: 153 :: 0 :: 12 :: 42 :: 180 :: 1 :: 154 :: 16 :: 60 :: 160 :: 0 :: 5 :: 3 :: 172 :: 42 :: 27 :: 17 :: 1 :: 143 :: sxX12_moves_49
theorem shX12_moves_0 : cX12_moves.data.toList.drop 0 = 42 :: 27 :: 182 :: 1 :: 157 :: 153 :: 0 :: 37 :: 28 :: 2 :: 159 :: 0 :: 11 :: 42 :: 28 :: 182 :: 0 :: 218 :: 153 :: 0 :: 24 :: 29 :: 3 :: 42 :: sxX12_moves_24 := rfl
theorem shX12_moves_24 : cX12_moves.data.toList.drop 24 = 180 :: 0 :: 211 :: 184 :: 0 :: 214 :: 153 :: 0 :: 12 :: 42 :: 180 :: 1 :: 154 :: 16 :: 60 :: 160 :: 0 :: 5 :: 3 :: 172 :: 42 :: 27 :: 17 :: 1 :: 143 :: sxX12_moves_49 := aq_24 shX12_moves_0
theorem shX12_moves_49 : cX12_moves.data.toList.drop 49 = 182 :: 1 :: 160 :: 54 :: 4 :: 21 :: 4 :: 2 :: 159 :: 0 :: 16 :: 42 :: 180 :: 0 :: 135 :: 21 :: 4 :: 46 :: 29 :: 164 :: 0 :: 5 :: 3 :: 172 :: sxX12_moves_73 := aq_25 shX12_moves_24
theorem shX12_moves_73 : cX12_moves.data.toList.drop 73 = 42 :: 180 :: 0 :: 129 :: 42 :: 180 :: 1 :: 154 :: 27 :: 79 :: 42 :: 180 :: 0 :: 132 :: 42 :: 180 :: 1 :: 154 :: 28 :: 79 :: 42 :: 180 :: 0 :: 135 :: sxX12_moves_97 := aq_24 shX12_moves_49
theorem shX12_moves_97 : cX12_moves.data.toList.drop 97 = 42 :: 180 :: 1 :: 154 :: 29 :: 79 :: 42 :: 42 :: 180 :: 1 :: 154 :: 4 :: 96 :: 181 :: 1 :: 154 :: 4 :: 172 :: sxX12_moves_115 := aq_24 shX12_moves_73
theorem dX12_moves_30 : decode cX12_moves 30 = .ok (.ifCond .eq 12, 3) := oc_153 30 (aq_6 shX12_moves_24) sgw_0_12
theorem dX12_moves_42 : decode cX12_moves 42 = .ok (.iconst 0, 1) := oc_3 42 (aq_18 shX12_moves_24)
theorem dX12_moves_43 : decode cX12_moves 43 = .ok (.ireturn, 1) := oc_172 43 (aq_19 shX12_moves_24)
theorem dX12_moves_52 : decode cX12_moves 52 = .ok (.istore 4, 2) := oc_54 52 (aq_3 shX12_moves_49) ub_4
theorem dX12_moves_54 : decode cX12_moves 54 = .ok (.iload 4, 2) := oc_21 54 (aq_5 shX12_moves_49) ub_4
theorem dX12_moves_56 : decode cX12_moves 56 = .ok (.iconst (-1), 1) := oc_2 56 (aq_7 shX12_moves_49)
theorem dX12_moves_57 : decode cX12_moves 57 = .ok (.if_icmp .eq 16, 3) := oc_159 57 (aq_8 shX12_moves_49) sgw_0_16
theorem dX12_moves_73 : decode cX12_moves 73 = .ok (.aload_n 0, 1) := oc_42 73 shX12_moves_73
theorem dX12_moves_74 : decode cX12_moves 74 = .ok (.getfield 129, 3) := oc_180 74 (aq_1 shX12_moves_73) uw_0_129
theorem dX12_moves_77 : decode cX12_moves 77 = .ok (.aload_n 0, 1) := oc_42 77 (aq_4 shX12_moves_73)
theorem dX12_moves_78 : decode cX12_moves 78 = .ok (.getfield 410, 3) := oc_180 78 (aq_5 shX12_moves_73) uw_1_154
theorem dX12_moves_81 : decode cX12_moves 81 = .ok (.iload_n 1, 1) := oc_27 81 (aq_8 shX12_moves_73)
theorem dX12_moves_82 : decode cX12_moves 82 = .ok (.iastore, 1) := oc_79 82 (aq_9 shX12_moves_73)
theorem dX12_moves_83 : decode cX12_moves 83 = .ok (.aload_n 0, 1) := oc_42 83 (aq_10 shX12_moves_73)
theorem dX12_moves_84 : decode cX12_moves 84 = .ok (.getfield 132, 3) := oc_180 84 (aq_11 shX12_moves_73) uw_0_132
theorem dX12_moves_87 : decode cX12_moves 87 = .ok (.aload_n 0, 1) := oc_42 87 (aq_14 shX12_moves_73)
theorem dX12_moves_88 : decode cX12_moves 88 = .ok (.getfield 410, 3) := oc_180 88 (aq_15 shX12_moves_73) uw_1_154
theorem dX12_moves_91 : decode cX12_moves 91 = .ok (.iload_n 2, 1) := oc_28 91 (aq_18 shX12_moves_73)
theorem dX12_moves_92 : decode cX12_moves 92 = .ok (.iastore, 1) := oc_79 92 (aq_19 shX12_moves_73)
theorem dX12_moves_93 : decode cX12_moves 93 = .ok (.aload_n 0, 1) := oc_42 93 (aq_20 shX12_moves_73)
theorem dX12_moves_94 : decode cX12_moves 94 = .ok (.getfield 135, 3) := oc_180 94 (aq_21 shX12_moves_73) uw_0_135
theorem dX12_moves_97 : decode cX12_moves 97 = .ok (.aload_n 0, 1) := oc_42 97 shX12_moves_97
theorem dX12_moves_98 : decode cX12_moves 98 = .ok (.getfield 410, 3) := oc_180 98 (aq_1 shX12_moves_97) uw_1_154
theorem dX12_moves_101 : decode cX12_moves 101 = .ok (.iload_n 3, 1) := oc_29 101 (aq_4 shX12_moves_97)
theorem dX12_moves_102 : decode cX12_moves 102 = .ok (.iastore, 1) := oc_79 102 (aq_5 shX12_moves_97)
theorem dX12_moves_103 : decode cX12_moves 103 = .ok (.aload_n 0, 1) := oc_42 103 (aq_6 shX12_moves_97)
theorem dX12_moves_104 : decode cX12_moves 104 = .ok (.aload_n 0, 1) := oc_42 104 (aq_7 shX12_moves_97)
theorem dX12_moves_105 : decode cX12_moves 105 = .ok (.getfield 410, 3) := oc_180 105 (aq_8 shX12_moves_97) uw_1_154
theorem dX12_moves_108 : decode cX12_moves 108 = .ok (.iconst 1, 1) := oc_4 108 (aq_11 shX12_moves_97)
theorem dX12_moves_109 : decode cX12_moves 109 = .ok (.iadd, 1) := oc_96 109 (aq_12 shX12_moves_97)
theorem dX12_moves_110 : decode cX12_moves 110 = .ok (.putfield 410, 3) := oc_181 110 (aq_13 shX12_moves_97) uw_1_154
theorem dX12_moves_113 : decode cX12_moves 113 = .ok (.iconst 1, 1) := oc_4 113 (aq_16 shX12_moves_97)
theorem dX12_moves_114 : decode cX12_moves 114 = .ok (.ireturn, 1) := oc_172 114 (aq_17 shX12_moves_97)
noncomputable def sxX12_stood_51 : List UInt8 := []
noncomputable def sxX12_stood_48 : List UInt8 := 29 :: 46 :: 172 :: sxX12_stood_51
noncomputable def sxX12_stood_24 : List UInt8 := 29 :: 2 :: 159 :: 0 :: 13 :: 42 :: 180 :: 0 :: 132 :: 29 :: 46 :: 2 :: 160 :: 0 :: 8 :: 16 :: 254 :: 167 :: 0 :: 9 :: 42 :: 180 :: 0 :: 132 :: sxX12_stood_48
theorem shX12_stood_0 : cX12_stood.data.toList.drop 0 = 42 :: 27 :: 182 :: 1 :: 157 :: 153 :: 0 :: 10 :: 28 :: 184 :: 1 :: 85 :: 154 :: 0 :: 5 :: 2 :: 172 :: 42 :: 27 :: 28 :: 182 :: 1 :: 160 :: 62 :: sxX12_stood_24 := rfl
theorem shX12_stood_24 : cX12_stood.data.toList.drop 24 = 29 :: 2 :: 159 :: 0 :: 13 :: 42 :: 180 :: 0 :: 132 :: 29 :: 46 :: 2 :: 160 :: 0 :: 8 :: 16 :: 254 :: 167 :: 0 :: 9 :: 42 :: 180 :: 0 :: 132 :: sxX12_stood_48 := aq_24 shX12_stood_0
theorem shX12_stood_48 : cX12_stood.data.toList.drop 48 = 29 :: 46 :: 172 :: sxX12_stood_51 := aq_24 shX12_stood_24
noncomputable def sxX12_stale_79 : List UInt8 := []
noncomputable def sxX12_stale_74 : List UInt8 := 167 :: 255 :: 195 :: 28 :: 172 :: sxX12_stale_79
noncomputable def sxX12_stale_49 : List UInt8 := 42 :: 180 :: 0 :: 211 :: 42 :: 180 :: 0 :: 135 :: 21 :: 4 :: 46 :: 100 :: 27 :: 161 :: 0 :: 9 :: 28 :: 4 :: 29 :: 120 :: 128 :: 61 :: 132 :: 3 :: 1 :: sxX12_stale_74
noncomputable def sxX12_stale_24 : List UInt8 := 180 :: 0 :: 211 :: 182 :: 1 :: 160 :: 54 :: 4 :: 21 :: 4 :: 2 :: 159 :: 0 :: 36 :: 42 :: 180 :: 0 :: 132 :: 21 :: 4 :: 46 :: 2 :: 159 :: 0 :: 25 :: sxX12_stale_49
theorem shX12_stale_0 : cX12_stale.data.toList.drop 0 = 27 :: 184 :: 1 :: 85 :: 154 :: 0 :: 5 :: 2 :: 172 :: 3 :: 61 :: 3 :: 62 :: 29 :: 42 :: 180 :: 1 :: 151 :: 162 :: 0 :: 59 :: 42 :: 29 :: 42 :: sxX12_stale_24 := rfl
theorem shX12_stale_24 : cX12_stale.data.toList.drop 24 = 180 :: 0 :: 211 :: 182 :: 1 :: 160 :: 54 :: 4 :: 21 :: 4 :: 2 :: 159 :: 0 :: 36 :: 42 :: 180 :: 0 :: 132 :: 21 :: 4 :: 46 :: 2 :: 159 :: 0 :: 25 :: sxX12_stale_49 := aq_24 shX12_stale_0
theorem shX12_stale_49 : cX12_stale.data.toList.drop 49 = 42 :: 180 :: 0 :: 211 :: 42 :: 180 :: 0 :: 135 :: 21 :: 4 :: 46 :: 100 :: 27 :: 161 :: 0 :: 9 :: 28 :: 4 :: 29 :: 120 :: 128 :: 61 :: 132 :: 3 :: 1 :: sxX12_stale_74 := aq_25 shX12_stale_24
theorem shX12_stale_74 : cX12_stale.data.toList.drop 74 = 167 :: 255 :: 195 :: 28 :: 172 :: sxX12_stale_79 := aq_25 shX12_stale_49
theorem dX12_stale_71 : decode cX12_stale 71 = .ok (.iinc 3 1, 3) := oc_132 71 (aq_22 shX12_stale_49) ub_3 sgb_1
theorem dX12_stale_74 : decode cX12_stale 74 = .ok (.goto (-61), 3) := oc_167 74 shX12_stale_74 sgw_255_195
noncomputable def sxX12_driven_118 : List UInt8 := []
noncomputable def sxX12_driven_100 : List UInt8 := 21 :: 6 :: 46 :: 54 :: 4 :: 132 :: 5 :: 1 :: 167 :: 255 :: 183 :: 28 :: 29 :: 96 :: 21 :: 4 :: 96 :: 172 :: sxX12_driven_118
noncomputable def sxX12_driven_75 : List UInt8 := 46 :: 42 :: 180 :: 0 :: 13 :: 21 :: 6 :: 46 :: 184 :: 1 :: 104 :: 96 :: 61 :: 42 :: 180 :: 0 :: 7 :: 21 :: 6 :: 46 :: 62 :: 42 :: 180 :: 0 :: 13 :: sxX12_driven_100
noncomputable def sxX12_driven_51 : List UInt8 := 126 :: 54 :: 6 :: 42 :: 21 :: 6 :: 182 :: 0 :: 218 :: 154 :: 0 :: 5 :: 2 :: 172 :: 28 :: 29 :: 21 :: 4 :: 42 :: 180 :: 0 :: 7 :: 21 :: 6 :: sxX12_driven_75
noncomputable def sxX12_driven_25 : List UInt8 := 3 :: 61 :: 3 :: 62 :: 3 :: 54 :: 4 :: 3 :: 54 :: 5 :: 21 :: 5 :: 27 :: 162 :: 0 :: 73 :: 42 :: 180 :: 0 :: 52 :: 21 :: 5 :: 51 :: 17 :: 0 :: 255 :: sxX12_driven_51
theorem shX12_driven_0 : cX12_driven.data.toList.drop 0 = 27 :: 3 :: 16 :: 20 :: 184 :: 0 :: 214 :: 153 :: 0 :: 11 :: 27 :: 42 :: 180 :: 0 :: 226 :: 164 :: 0 :: 5 :: 2 :: 172 :: 42 :: 3 :: 181 :: 0 :: 226 :: sxX12_driven_25 := rfl
theorem shX12_driven_25 : cX12_driven.data.toList.drop 25 = 3 :: 61 :: 3 :: 62 :: 3 :: 54 :: 4 :: 3 :: 54 :: 5 :: 21 :: 5 :: 27 :: 162 :: 0 :: 73 :: 42 :: 180 :: 0 :: 52 :: 21 :: 5 :: 51 :: 17 :: 0 :: 255 :: sxX12_driven_51 := aq_25 shX12_driven_0
theorem shX12_driven_51 : cX12_driven.data.toList.drop 51 = 126 :: 54 :: 6 :: 42 :: 21 :: 6 :: 182 :: 0 :: 218 :: 154 :: 0 :: 5 :: 2 :: 172 :: 28 :: 29 :: 21 :: 4 :: 42 :: 180 :: 0 :: 7 :: 21 :: 6 :: sxX12_driven_75 := aq_26 shX12_driven_25
theorem shX12_driven_75 : cX12_driven.data.toList.drop 75 = 46 :: 42 :: 180 :: 0 :: 13 :: 21 :: 6 :: 46 :: 184 :: 1 :: 104 :: 96 :: 61 :: 42 :: 180 :: 0 :: 7 :: 21 :: 6 :: 46 :: 62 :: 42 :: 180 :: 0 :: 13 :: sxX12_driven_100 := aq_24 shX12_driven_51
theorem shX12_driven_100 : cX12_driven.data.toList.drop 100 = 21 :: 6 :: 46 :: 54 :: 4 :: 132 :: 5 :: 1 :: 167 :: 255 :: 183 :: 28 :: 29 :: 96 :: 21 :: 4 :: 96 :: 172 :: sxX12_driven_118 := aq_25 shX12_driven_75
theorem dX12_driven_0 : decode cX12_driven 0 = .ok (.iload_n 1, 1) := oc_27 0 shX12_driven_0
theorem dX12_driven_1 : decode cX12_driven 1 = .ok (.iconst 0, 1) := oc_3 1 (aq_1 shX12_driven_0)
theorem dX12_driven_2 : decode cX12_driven 2 = .ok (.bipush 20, 2) := oc_16 2 (aq_2 shX12_driven_0) sgb_20
theorem dX12_driven_4 : decode cX12_driven 4 = .ok (.invokestatic 214, 3) := oc_184 4 (aq_4 shX12_driven_0) uw_0_214
theorem dX12_driven_7 : decode cX12_driven 7 = .ok (.ifCond .eq 11, 3) := oc_153 7 (aq_7 shX12_driven_0) sgw_0_11
theorem dX12_driven_10 : decode cX12_driven 10 = .ok (.iload_n 1, 1) := oc_27 10 (aq_10 shX12_driven_0)
theorem dX12_driven_11 : decode cX12_driven 11 = .ok (.aload_n 0, 1) := oc_42 11 (aq_11 shX12_driven_0)
theorem dX12_driven_12 : decode cX12_driven 12 = .ok (.getfield 226, 3) := oc_180 12 (aq_12 shX12_driven_0) uw_0_226
theorem dX12_driven_15 : decode cX12_driven 15 = .ok (.if_icmp .le 5, 3) := oc_164 15 (aq_15 shX12_driven_0) sgw_0_5
theorem dX12_driven_18 : decode cX12_driven 18 = .ok (.iconst (-1), 1) := oc_2 18 (aq_18 shX12_driven_0)
theorem dX12_driven_19 : decode cX12_driven 19 = .ok (.ireturn, 1) := oc_172 19 (aq_19 shX12_driven_0)
theorem dX12_driven_20 : decode cX12_driven 20 = .ok (.aload_n 0, 1) := oc_42 20 (aq_20 shX12_driven_0)
theorem dX12_driven_21 : decode cX12_driven 21 = .ok (.iconst 0, 1) := oc_3 21 (aq_21 shX12_driven_0)
theorem dX12_driven_22 : decode cX12_driven 22 = .ok (.putfield 226, 3) := oc_181 22 (aq_22 shX12_driven_0) uw_0_226
theorem dX12_driven_25 : decode cX12_driven 25 = .ok (.iconst 0, 1) := oc_3 25 shX12_driven_25
theorem dX12_driven_26 : decode cX12_driven 26 = .ok (.istore_n 2, 1) := oc_61 26 (aq_1 shX12_driven_25)
theorem dX12_driven_27 : decode cX12_driven 27 = .ok (.iconst 0, 1) := oc_3 27 (aq_2 shX12_driven_25)
theorem dX12_driven_28 : decode cX12_driven 28 = .ok (.istore_n 3, 1) := oc_62 28 (aq_3 shX12_driven_25)
theorem dX12_driven_29 : decode cX12_driven 29 = .ok (.iconst 0, 1) := oc_3 29 (aq_4 shX12_driven_25)
theorem dX12_driven_30 : decode cX12_driven 30 = .ok (.istore 4, 2) := oc_54 30 (aq_5 shX12_driven_25) ub_4
theorem dX12_driven_32 : decode cX12_driven 32 = .ok (.iconst 0, 1) := oc_3 32 (aq_7 shX12_driven_25)
theorem dX12_driven_33 : decode cX12_driven 33 = .ok (.istore 5, 2) := oc_54 33 (aq_8 shX12_driven_25) ub_5
theorem dX12_driven_35 : decode cX12_driven 35 = .ok (.iload 5, 2) := oc_21 35 (aq_10 shX12_driven_25) ub_5
theorem dX12_driven_37 : decode cX12_driven 37 = .ok (.iload_n 1, 1) := oc_27 37 (aq_12 shX12_driven_25)
theorem dX12_driven_38 : decode cX12_driven 38 = .ok (.if_icmp .ge 73, 3) := oc_162 38 (aq_13 shX12_driven_25) sgw_0_73
theorem dX12_driven_41 : decode cX12_driven 41 = .ok (.aload_n 0, 1) := oc_42 41 (aq_16 shX12_driven_25)
theorem dX12_driven_42 : decode cX12_driven 42 = .ok (.getfield 52, 3) := oc_180 42 (aq_17 shX12_driven_25) uw_0_52
theorem dX12_driven_45 : decode cX12_driven 45 = .ok (.iload 5, 2) := oc_21 45 (aq_20 shX12_driven_25) ub_5
theorem dX12_driven_47 : decode cX12_driven 47 = .ok (.baload, 1) := oc_51 47 (aq_22 shX12_driven_25)
theorem dX12_driven_48 : decode cX12_driven 48 = .ok (.sipush 255, 3) := oc_17 48 (aq_23 shX12_driven_25) sgw_0_255
theorem dX12_driven_51 : decode cX12_driven 51 = .ok (.iand, 1) := oc_126 51 shX12_driven_51
theorem dX12_driven_52 : decode cX12_driven 52 = .ok (.istore 6, 2) := oc_54 52 (aq_1 shX12_driven_51) ub_6
theorem dX12_driven_54 : decode cX12_driven 54 = .ok (.aload_n 0, 1) := oc_42 54 (aq_3 shX12_driven_51)
theorem dX12_driven_55 : decode cX12_driven 55 = .ok (.iload 6, 2) := oc_21 55 (aq_4 shX12_driven_51) ub_6
theorem dX12_driven_57 : decode cX12_driven 57 = .ok (.invokevirtual 218, 3) := oc_182 57 (aq_6 shX12_driven_51) uw_0_218
theorem dX12_driven_60 : decode cX12_driven 60 = .ok (.ifCond .ne 5, 3) := oc_154 60 (aq_9 shX12_driven_51) sgw_0_5
theorem dX12_driven_63 : decode cX12_driven 63 = .ok (.iconst (-1), 1) := oc_2 63 (aq_12 shX12_driven_51)
theorem dX12_driven_64 : decode cX12_driven 64 = .ok (.ireturn, 1) := oc_172 64 (aq_13 shX12_driven_51)
theorem dX12_driven_65 : decode cX12_driven 65 = .ok (.iload_n 2, 1) := oc_28 65 (aq_14 shX12_driven_51)
theorem dX12_driven_66 : decode cX12_driven 66 = .ok (.iload_n 3, 1) := oc_29 66 (aq_15 shX12_driven_51)
theorem dX12_driven_67 : decode cX12_driven 67 = .ok (.iload 4, 2) := oc_21 67 (aq_16 shX12_driven_51) ub_4
theorem dX12_driven_69 : decode cX12_driven 69 = .ok (.aload_n 0, 1) := oc_42 69 (aq_18 shX12_driven_51)
theorem dX12_driven_70 : decode cX12_driven 70 = .ok (.getfield 7, 3) := oc_180 70 (aq_19 shX12_driven_51) uw_0_7
theorem dX12_driven_73 : decode cX12_driven 73 = .ok (.iload 6, 2) := oc_21 73 (aq_22 shX12_driven_51) ub_6
theorem dX12_driven_75 : decode cX12_driven 75 = .ok (.iaload, 1) := oc_46 75 shX12_driven_75
theorem dX12_driven_76 : decode cX12_driven 76 = .ok (.aload_n 0, 1) := oc_42 76 (aq_1 shX12_driven_75)
theorem dX12_driven_77 : decode cX12_driven 77 = .ok (.getfield 13, 3) := oc_180 77 (aq_2 shX12_driven_75) uw_0_13
theorem dX12_driven_80 : decode cX12_driven 80 = .ok (.iload 6, 2) := oc_21 80 (aq_5 shX12_driven_75) ub_6
theorem dX12_driven_82 : decode cX12_driven 82 = .ok (.iaload, 1) := oc_46 82 (aq_7 shX12_driven_75)
theorem dX12_driven_83 : decode cX12_driven 83 = .ok (.invokestatic 360, 3) := oc_184 83 (aq_8 shX12_driven_75) uw_1_104
theorem dX12_driven_86 : decode cX12_driven 86 = .ok (.iadd, 1) := oc_96 86 (aq_11 shX12_driven_75)
theorem dX12_driven_87 : decode cX12_driven 87 = .ok (.istore_n 2, 1) := oc_61 87 (aq_12 shX12_driven_75)
theorem dX12_driven_88 : decode cX12_driven 88 = .ok (.aload_n 0, 1) := oc_42 88 (aq_13 shX12_driven_75)
theorem dX12_driven_89 : decode cX12_driven 89 = .ok (.getfield 7, 3) := oc_180 89 (aq_14 shX12_driven_75) uw_0_7
theorem dX12_driven_92 : decode cX12_driven 92 = .ok (.iload 6, 2) := oc_21 92 (aq_17 shX12_driven_75) ub_6
theorem dX12_driven_94 : decode cX12_driven 94 = .ok (.iaload, 1) := oc_46 94 (aq_19 shX12_driven_75)
theorem dX12_driven_95 : decode cX12_driven 95 = .ok (.istore_n 3, 1) := oc_62 95 (aq_20 shX12_driven_75)
theorem dX12_driven_96 : decode cX12_driven 96 = .ok (.aload_n 0, 1) := oc_42 96 (aq_21 shX12_driven_75)
theorem dX12_driven_97 : decode cX12_driven 97 = .ok (.getfield 13, 3) := oc_180 97 (aq_22 shX12_driven_75) uw_0_13
theorem dX12_driven_100 : decode cX12_driven 100 = .ok (.iload 6, 2) := oc_21 100 shX12_driven_100 ub_6
theorem dX12_driven_102 : decode cX12_driven 102 = .ok (.iaload, 1) := oc_46 102 (aq_2 shX12_driven_100)
theorem dX12_driven_103 : decode cX12_driven 103 = .ok (.istore 4, 2) := oc_54 103 (aq_3 shX12_driven_100) ub_4
theorem dX12_driven_105 : decode cX12_driven 105 = .ok (.iinc 5 1, 3) := oc_132 105 (aq_5 shX12_driven_100) ub_5 sgb_1
theorem dX12_driven_108 : decode cX12_driven 108 = .ok (.goto (-73), 3) := oc_167 108 (aq_8 shX12_driven_100) sgw_255_183
theorem dX12_driven_111 : decode cX12_driven 111 = .ok (.iload_n 2, 1) := oc_28 111 (aq_11 shX12_driven_100)
theorem dX12_driven_112 : decode cX12_driven 112 = .ok (.iload_n 3, 1) := oc_29 112 (aq_12 shX12_driven_100)
theorem dX12_driven_113 : decode cX12_driven 113 = .ok (.iadd, 1) := oc_96 113 (aq_13 shX12_driven_100)
theorem dX12_driven_114 : decode cX12_driven 114 = .ok (.iload 4, 2) := oc_21 114 (aq_14 shX12_driven_100) ub_4
theorem dX12_driven_116 : decode cX12_driven 116 = .ok (.iadd, 1) := oc_96 116 (aq_16 shX12_driven_100)
theorem dX12_driven_117 : decode cX12_driven 117 = .ok (.ireturn, 1) := oc_172 117 (aq_17 shX12_driven_100)
noncomputable def sxX12_mixes_132 : List UInt8 := []
noncomputable def sxX12_mixes_122 : List UInt8 := 29 :: 42 :: 180 :: 1 :: 163 :: 108 :: 181 :: 1 :: 169 :: 177 :: sxX12_mixes_132
noncomputable def sxX12_mixes_97 : List UInt8 := 3 :: 167 :: 0 :: 9 :: 28 :: 42 :: 180 :: 1 :: 163 :: 108 :: 181 :: 1 :: 166 :: 42 :: 42 :: 180 :: 1 :: 163 :: 154 :: 0 :: 7 :: 3 :: 167 :: 0 :: 9 :: sxX12_mixes_122
noncomputable def sxX12_mixes_72 : List UInt8 := 46 :: 42 :: 180 :: 0 :: 37 :: 21 :: 4 :: 46 :: 104 :: 96 :: 62 :: 132 :: 4 :: 1 :: 167 :: 255 :: 182 :: 42 :: 42 :: 180 :: 1 :: 163 :: 154 :: 0 :: 7 :: sxX12_mixes_97
noncomputable def sxX12_mixes_48 : List UInt8 := 42 :: 180 :: 0 :: 31 :: 21 :: 4 :: 46 :: 42 :: 180 :: 0 :: 34 :: 21 :: 4 :: 46 :: 104 :: 96 :: 61 :: 29 :: 42 :: 180 :: 0 :: 31 :: 21 :: 4 :: sxX12_mixes_72
noncomputable def sxX12_mixes_24 : List UInt8 := 126 :: 154 :: 0 :: 6 :: 167 :: 0 :: 55 :: 42 :: 42 :: 180 :: 1 :: 163 :: 42 :: 180 :: 0 :: 31 :: 21 :: 4 :: 46 :: 96 :: 181 :: 1 :: 163 :: 28 :: sxX12_mixes_48
theorem shX12_mixes_0 : cX12_mixes.data.toList.drop 0 = 3 :: 61 :: 3 :: 62 :: 42 :: 3 :: 181 :: 1 :: 163 :: 3 :: 54 :: 4 :: 21 :: 4 :: 16 :: 20 :: 162 :: 0 :: 73 :: 27 :: 21 :: 4 :: 122 :: 4 :: sxX12_mixes_24 := rfl
theorem shX12_mixes_24 : cX12_mixes.data.toList.drop 24 = 126 :: 154 :: 0 :: 6 :: 167 :: 0 :: 55 :: 42 :: 42 :: 180 :: 1 :: 163 :: 42 :: 180 :: 0 :: 31 :: 21 :: 4 :: 46 :: 96 :: 181 :: 1 :: 163 :: 28 :: sxX12_mixes_48 := aq_24 shX12_mixes_0
theorem shX12_mixes_48 : cX12_mixes.data.toList.drop 48 = 42 :: 180 :: 0 :: 31 :: 21 :: 4 :: 46 :: 42 :: 180 :: 0 :: 34 :: 21 :: 4 :: 46 :: 104 :: 96 :: 61 :: 29 :: 42 :: 180 :: 0 :: 31 :: 21 :: 4 :: sxX12_mixes_72 := aq_24 shX12_mixes_24
theorem shX12_mixes_72 : cX12_mixes.data.toList.drop 72 = 46 :: 42 :: 180 :: 0 :: 37 :: 21 :: 4 :: 46 :: 104 :: 96 :: 62 :: 132 :: 4 :: 1 :: 167 :: 255 :: 182 :: 42 :: 42 :: 180 :: 1 :: 163 :: 154 :: 0 :: 7 :: sxX12_mixes_97 := aq_24 shX12_mixes_48
theorem shX12_mixes_97 : cX12_mixes.data.toList.drop 97 = 3 :: 167 :: 0 :: 9 :: 28 :: 42 :: 180 :: 1 :: 163 :: 108 :: 181 :: 1 :: 166 :: 42 :: 42 :: 180 :: 1 :: 163 :: 154 :: 0 :: 7 :: 3 :: 167 :: 0 :: 9 :: sxX12_mixes_122 := aq_25 shX12_mixes_72
theorem shX12_mixes_122 : cX12_mixes.data.toList.drop 122 = 29 :: 42 :: 180 :: 1 :: 163 :: 108 :: 181 :: 1 :: 169 :: 177 :: sxX12_mixes_132 := aq_25 shX12_mixes_97
theorem dX12_mixes_83 : decode cX12_mixes 83 = .ok (.iinc 4 1, 3) := oc_132 83 (aq_11 shX12_mixes_72) ub_4 sgb_1
theorem dX12_mixes_86 : decode cX12_mixes 86 = .ok (.goto (-74), 3) := oc_167 86 (aq_14 shX12_mixes_72) sgw_255_182
theorem dX12_mixes_107 : decode cX12_mixes 107 = .ok (.putfield 422, 3) := oc_181 107 (aq_10 shX12_mixes_97) uw_1_166
theorem dX12_mixes_110 : decode cX12_mixes 110 = .ok (.aload_n 0, 1) := oc_42 110 (aq_13 shX12_mixes_97)
theorem dX12_mixes_111 : decode cX12_mixes 111 = .ok (.aload_n 0, 1) := oc_42 111 (aq_14 shX12_mixes_97)
theorem dX12_mixes_112 : decode cX12_mixes 112 = .ok (.getfield 419, 3) := oc_180 112 (aq_15 shX12_mixes_97) uw_1_163
theorem dX12_mixes_115 : decode cX12_mixes 115 = .ok (.ifCond .ne 7, 3) := oc_154 115 (aq_18 shX12_mixes_97) sgw_0_7
theorem dX12_mixes_118 : decode cX12_mixes 118 = .ok (.iconst 0, 1) := oc_3 118 (aq_21 shX12_mixes_97)
theorem dX12_mixes_119 : decode cX12_mixes 119 = .ok (.goto 9, 3) := oc_167 119 (aq_22 shX12_mixes_97) sgw_0_9
theorem dX12_mixes_128 : decode cX12_mixes 128 = .ok (.putfield 425, 3) := oc_181 128 (aq_6 shX12_mixes_122) uw_1_169
theorem dX12_mixes_131 : decode cX12_mixes 131 = .ok (.return_, 1) := oc_177 131 (aq_9 shX12_mixes_122)
noncomputable def sxX12_bits_26 : List UInt8 := []
noncomputable def sxX12_bits_24 : List UInt8 := 27 :: 172 :: sxX12_bits_26
theorem shX12_bits_0 : cX12_bits.data.toList.drop 0 = 3 :: 60 :: 3 :: 61 :: 28 :: 16 :: 20 :: 162 :: 0 :: 17 :: 27 :: 26 :: 28 :: 122 :: 4 :: 126 :: 96 :: 60 :: 132 :: 2 :: 1 :: 167 :: 255 :: 239 :: sxX12_bits_24 := rfl
theorem shX12_bits_24 : cX12_bits.data.toList.drop 24 = 27 :: 172 :: sxX12_bits_26 := aq_24 shX12_bits_0
noncomputable def sxX12_whyNot_175 : List UInt8 := []
noncomputable def sxX12_whyNot_173 : List UInt8 := 2 :: 172 :: sxX12_whyNot_175
noncomputable def sxX12_whyNot_148 : List UInt8 := 46 :: 42 :: 180 :: 0 :: 83 :: 28 :: 46 :: 182 :: 1 :: 75 :: 4 :: 159 :: 0 :: 8 :: 28 :: 16 :: 120 :: 100 :: 172 :: 132 :: 2 :: 1 :: 167 :: 255 :: 214 :: sxX12_whyNot_173
noncomputable def sxX12_whyNot_124 : List UInt8 := 79 :: 16 :: 120 :: 61 :: 28 :: 16 :: 120 :: 42 :: 180 :: 0 :: 74 :: 16 :: 10 :: 46 :: 96 :: 162 :: 0 :: 34 :: 42 :: 42 :: 180 :: 0 :: 80 :: 28 :: sxX12_whyNot_148
noncomputable def sxX12_whyNot_99 : List UInt8 := 16 :: 9 :: 42 :: 180 :: 0 :: 92 :: 42 :: 180 :: 0 :: 211 :: 16 :: 7 :: 108 :: 46 :: 79 :: 42 :: 180 :: 0 :: 89 :: 16 :: 10 :: 27 :: 184 :: 1 :: 175 :: sxX12_whyNot_124
noncomputable def sxX12_whyNot_75 : List UInt8 := 16 :: 6 :: 3 :: 79 :: 42 :: 180 :: 0 :: 89 :: 16 :: 7 :: 3 :: 79 :: 42 :: 180 :: 0 :: 89 :: 16 :: 8 :: 3 :: 79 :: 42 :: 180 :: 0 :: 89 :: sxX12_whyNot_99
noncomputable def sxX12_whyNot_49 : List UInt8 := 7 :: 42 :: 180 :: 0 :: 211 :: 16 :: 7 :: 108 :: 79 :: 42 :: 180 :: 0 :: 89 :: 8 :: 42 :: 180 :: 0 :: 211 :: 16 :: 7 :: 112 :: 79 :: 42 :: 180 :: 0 :: 89 :: sxX12_whyNot_75
noncomputable def sxX12_whyNot_24 : List UInt8 := 79 :: 42 :: 180 :: 0 :: 89 :: 5 :: 42 :: 180 :: 1 :: 169 :: 79 :: 42 :: 180 :: 0 :: 89 :: 6 :: 42 :: 180 :: 0 :: 211 :: 79 :: 42 :: 180 :: 0 :: 89 :: sxX12_whyNot_49
theorem shX12_whyNot_0 : cX12_whyNot.data.toList.drop 0 = 42 :: 27 :: 182 :: 1 :: 172 :: 42 :: 180 :: 0 :: 89 :: 3 :: 42 :: 180 :: 1 :: 163 :: 79 :: 42 :: 180 :: 0 :: 89 :: 4 :: 42 :: 180 :: 1 :: 166 :: sxX12_whyNot_24 := rfl
theorem shX12_whyNot_24 : cX12_whyNot.data.toList.drop 24 = 79 :: 42 :: 180 :: 0 :: 89 :: 5 :: 42 :: 180 :: 1 :: 169 :: 79 :: 42 :: 180 :: 0 :: 89 :: 6 :: 42 :: 180 :: 0 :: 211 :: 79 :: 42 :: 180 :: 0 :: 89 :: sxX12_whyNot_49 := aq_24 shX12_whyNot_0
theorem shX12_whyNot_49 : cX12_whyNot.data.toList.drop 49 = 7 :: 42 :: 180 :: 0 :: 211 :: 16 :: 7 :: 108 :: 79 :: 42 :: 180 :: 0 :: 89 :: 8 :: 42 :: 180 :: 0 :: 211 :: 16 :: 7 :: 112 :: 79 :: 42 :: 180 :: 0 :: 89 :: sxX12_whyNot_75 := aq_25 shX12_whyNot_24
theorem shX12_whyNot_75 : cX12_whyNot.data.toList.drop 75 = 16 :: 6 :: 3 :: 79 :: 42 :: 180 :: 0 :: 89 :: 16 :: 7 :: 3 :: 79 :: 42 :: 180 :: 0 :: 89 :: 16 :: 8 :: 3 :: 79 :: 42 :: 180 :: 0 :: 89 :: sxX12_whyNot_99 := aq_26 shX12_whyNot_49
theorem shX12_whyNot_99 : cX12_whyNot.data.toList.drop 99 = 16 :: 9 :: 42 :: 180 :: 0 :: 92 :: 42 :: 180 :: 0 :: 211 :: 16 :: 7 :: 108 :: 46 :: 79 :: 42 :: 180 :: 0 :: 89 :: 16 :: 10 :: 27 :: 184 :: 1 :: 175 :: sxX12_whyNot_124 := aq_24 shX12_whyNot_75
theorem shX12_whyNot_124 : cX12_whyNot.data.toList.drop 124 = 79 :: 16 :: 120 :: 61 :: 28 :: 16 :: 120 :: 42 :: 180 :: 0 :: 74 :: 16 :: 10 :: 46 :: 96 :: 162 :: 0 :: 34 :: 42 :: 42 :: 180 :: 0 :: 80 :: 28 :: sxX12_whyNot_148 := aq_25 shX12_whyNot_99
theorem shX12_whyNot_148 : cX12_whyNot.data.toList.drop 148 = 46 :: 42 :: 180 :: 0 :: 83 :: 28 :: 46 :: 182 :: 1 :: 75 :: 4 :: 159 :: 0 :: 8 :: 28 :: 16 :: 120 :: 100 :: 172 :: 132 :: 2 :: 1 :: 167 :: 255 :: 214 :: sxX12_whyNot_173 := aq_24 shX12_whyNot_124
theorem shX12_whyNot_173 : cX12_whyNot.data.toList.drop 173 = 2 :: 172 :: sxX12_whyNot_175 := aq_25 shX12_whyNot_148
noncomputable def sxX12_isFree_37 : List UInt8 := []
noncomputable def sxX12_isFree_24 : List UInt8 := 42 :: 180 :: 0 :: 211 :: 163 :: 0 :: 7 :: 4 :: 167 :: 0 :: 4 :: 3 :: 172 :: sxX12_isFree_37
theorem shX12_isFree_0 : cX12_isFree.data.toList.drop 0 = 42 :: 27 :: 182 :: 1 :: 79 :: 153 :: 0 :: 30 :: 42 :: 180 :: 0 :: 46 :: 27 :: 46 :: 2 :: 160 :: 0 :: 20 :: 42 :: 180 :: 0 :: 40 :: 27 :: 46 :: sxX12_isFree_24 := rfl
theorem shX12_isFree_24 : cX12_isFree.data.toList.drop 24 = 42 :: 180 :: 0 :: 211 :: 163 :: 0 :: 7 :: 4 :: 167 :: 0 :: 4 :: 3 :: 172 :: sxX12_isFree_37 := aq_24 shX12_isFree_0
theorem dX12_isFree_5 : decode cX12_isFree 5 = .ok (.ifCond .eq 30, 3) := oc_153 5 (aq_5 shX12_isFree_0) sgw_0_30
theorem dX12_isFree_35 : decode cX12_isFree 35 = .ok (.iconst 0, 1) := oc_3 35 (aq_11 shX12_isFree_24)
theorem dX12_isFree_36 : decode cX12_isFree 36 = .ok (.ireturn, 1) := oc_172 36 (aq_12 shX12_isFree_24)
noncomputable def sxX12_batch_144 : List UInt8 := []
noncomputable def sxX12_batch_122 : List UInt8 := 42 :: 180 :: 0 :: 211 :: 79 :: 42 :: 42 :: 180 :: 1 :: 179 :: 4 :: 96 :: 181 :: 1 :: 179 :: 42 :: 180 :: 1 :: 179 :: 4 :: 100 :: 172 :: sxX12_batch_144
noncomputable def sxX12_batch_97 : List UInt8 := 79 :: 132 :: 3 :: 1 :: 167 :: 255 :: 228 :: 42 :: 180 :: 0 :: 138 :: 42 :: 180 :: 1 :: 179 :: 27 :: 79 :: 42 :: 180 :: 0 :: 141 :: 42 :: 180 :: 1 :: 179 :: sxX12_batch_122
noncomputable def sxX12_batch_72 : List UInt8 := 62 :: 29 :: 16 :: 20 :: 162 :: 0 :: 28 :: 27 :: 29 :: 122 :: 4 :: 126 :: 4 :: 160 :: 0 :: 13 :: 42 :: 180 :: 0 :: 46 :: 29 :: 42 :: 180 :: 1 :: 179 :: sxX12_batch_97
noncomputable def sxX12_batch_48 : List UInt8 := 172 :: 132 :: 2 :: 1 :: 167 :: 255 :: 228 :: 42 :: 27 :: 182 :: 1 :: 185 :: 61 :: 28 :: 2 :: 159 :: 0 :: 8 :: 16 :: 246 :: 28 :: 100 :: 172 :: 3 :: sxX12_batch_72
noncomputable def sxX12_batch_24 : List UInt8 := 28 :: 16 :: 20 :: 162 :: 0 :: 28 :: 27 :: 28 :: 122 :: 4 :: 126 :: 4 :: 160 :: 0 :: 13 :: 42 :: 28 :: 182 :: 1 :: 182 :: 154 :: 0 :: 5 :: 2 :: sxX12_batch_48
theorem shX12_batch_0 : cX12_batch.data.toList.drop 0 = 27 :: 4 :: 19 :: 1 :: 178 :: 184 :: 0 :: 214 :: 153 :: 0 :: 12 :: 42 :: 180 :: 1 :: 179 :: 16 :: 10 :: 160 :: 0 :: 5 :: 2 :: 172 :: 3 :: 61 :: sxX12_batch_24 := rfl
theorem shX12_batch_24 : cX12_batch.data.toList.drop 24 = 28 :: 16 :: 20 :: 162 :: 0 :: 28 :: 27 :: 28 :: 122 :: 4 :: 126 :: 4 :: 160 :: 0 :: 13 :: 42 :: 28 :: 182 :: 1 :: 182 :: 154 :: 0 :: 5 :: 2 :: sxX12_batch_48 := aq_24 shX12_batch_0
theorem shX12_batch_48 : cX12_batch.data.toList.drop 48 = 172 :: 132 :: 2 :: 1 :: 167 :: 255 :: 228 :: 42 :: 27 :: 182 :: 1 :: 185 :: 61 :: 28 :: 2 :: 159 :: 0 :: 8 :: 16 :: 246 :: 28 :: 100 :: 172 :: 3 :: sxX12_batch_72 := aq_24 shX12_batch_24
theorem shX12_batch_72 : cX12_batch.data.toList.drop 72 = 62 :: 29 :: 16 :: 20 :: 162 :: 0 :: 28 :: 27 :: 29 :: 122 :: 4 :: 126 :: 4 :: 160 :: 0 :: 13 :: 42 :: 180 :: 0 :: 46 :: 29 :: 42 :: 180 :: 1 :: 179 :: sxX12_batch_97 := aq_24 shX12_batch_48
theorem shX12_batch_97 : cX12_batch.data.toList.drop 97 = 79 :: 132 :: 3 :: 1 :: 167 :: 255 :: 228 :: 42 :: 180 :: 0 :: 138 :: 42 :: 180 :: 1 :: 179 :: 27 :: 79 :: 42 :: 180 :: 0 :: 141 :: 42 :: 180 :: 1 :: 179 :: sxX12_batch_122 := aq_25 shX12_batch_72
theorem shX12_batch_122 : cX12_batch.data.toList.drop 122 = 42 :: 180 :: 0 :: 211 :: 79 :: 42 :: 42 :: 180 :: 1 :: 179 :: 4 :: 96 :: 181 :: 1 :: 179 :: 42 :: 180 :: 1 :: 179 :: 4 :: 100 :: 172 :: sxX12_batch_144 := aq_25 shX12_batch_97
theorem dX12_batch_8 : decode cX12_batch 8 = .ok (.ifCond .eq 12, 3) := oc_153 8 (aq_8 shX12_batch_0) sgw_0_12
theorem dX12_batch_20 : decode cX12_batch 20 = .ok (.iconst (-1), 1) := oc_2 20 (aq_20 shX12_batch_0)
theorem dX12_batch_21 : decode cX12_batch 21 = .ok (.ireturn, 1) := oc_172 21 (aq_21 shX12_batch_0)
theorem dX12_batch_44 : decode cX12_batch 44 = .ok (.ifCond .ne 5, 3) := oc_154 44 (aq_20 shX12_batch_24) sgw_0_5
theorem dX12_batch_49 : decode cX12_batch 49 = .ok (.iinc 2 1, 3) := oc_132 49 (aq_1 shX12_batch_48) ub_2 sgb_1
theorem dX12_batch_52 : decode cX12_batch 52 = .ok (.goto (-28), 3) := oc_167 52 (aq_4 shX12_batch_48) sgw_255_228
theorem dX12_batch_98 : decode cX12_batch 98 = .ok (.iinc 3 1, 3) := oc_132 98 (aq_1 shX12_batch_97) ub_3 sgb_1
theorem dX12_batch_101 : decode cX12_batch 101 = .ok (.goto (-28), 3) := oc_167 101 (aq_4 shX12_batch_97) sgw_255_228
noncomputable def sxX12_isBatch_18 : List UInt8 := []
theorem shX12_isBatch_0 : cX12_isBatch.data.toList.drop 0 = 27 :: 155 :: 0 :: 15 :: 27 :: 42 :: 180 :: 1 :: 179 :: 162 :: 0 :: 7 :: 4 :: 167 :: 0 :: 4 :: 3 :: 172 :: sxX12_isBatch_18 := rfl
noncomputable def sxX12_litresOf_15 : List UInt8 := []
theorem shX12_litresOf_0 : cX12_litresOf.data.toList.drop 0 = 42 :: 42 :: 180 :: 0 :: 138 :: 27 :: 46 :: 182 :: 1 :: 172 :: 42 :: 180 :: 1 :: 163 :: 172 :: sxX12_litresOf_15 := rfl
noncomputable def sxX12_proved_124 : List UInt8 := []
noncomputable def sxX12_proved_100 : List UInt8 := 167 :: 255 :: 181 :: 29 :: 21 :: 6 :: 153 :: 0 :: 7 :: 4 :: 167 :: 0 :: 4 :: 3 :: 96 :: 62 :: 132 :: 5 :: 1 :: 167 :: 255 :: 149 :: 29 :: 172 :: sxX12_proved_124
noncomputable def sxX12_proved_74 : List UInt8 := 28 :: 2 :: 159 :: 0 :: 14 :: 42 :: 180 :: 0 :: 156 :: 21 :: 7 :: 46 :: 28 :: 160 :: 0 :: 7 :: 4 :: 167 :: 0 :: 4 :: 3 :: 54 :: 6 :: 132 :: 7 :: 1 :: sxX12_proved_100
noncomputable def sxX12_proved_50 : List UInt8 := 21 :: 5 :: 42 :: 180 :: 0 :: 150 :: 21 :: 7 :: 46 :: 161 :: 0 :: 35 :: 21 :: 5 :: 42 :: 180 :: 0 :: 153 :: 21 :: 7 :: 46 :: 162 :: 0 :: 23 :: sxX12_proved_74
noncomputable def sxX12_proved_25 : List UInt8 := 21 :: 7 :: 42 :: 180 :: 1 :: 191 :: 162 :: 0 :: 72 :: 21 :: 6 :: 154 :: 0 :: 54 :: 42 :: 180 :: 0 :: 147 :: 21 :: 7 :: 46 :: 27 :: 160 :: 0 :: 47 :: sxX12_proved_50
theorem shX12_proved_0 : cX12_proved.data.toList.drop 0 = 3 :: 62 :: 42 :: 27 :: 182 :: 1 :: 188 :: 54 :: 4 :: 3 :: 54 :: 5 :: 21 :: 5 :: 21 :: 4 :: 162 :: 0 :: 106 :: 3 :: 54 :: 6 :: 3 :: 54 :: 7 :: sxX12_proved_25 := rfl
theorem shX12_proved_25 : cX12_proved.data.toList.drop 25 = 21 :: 7 :: 42 :: 180 :: 1 :: 191 :: 162 :: 0 :: 72 :: 21 :: 6 :: 154 :: 0 :: 54 :: 42 :: 180 :: 0 :: 147 :: 21 :: 7 :: 46 :: 27 :: 160 :: 0 :: 47 :: sxX12_proved_50 := aq_25 shX12_proved_0
theorem shX12_proved_50 : cX12_proved.data.toList.drop 50 = 21 :: 5 :: 42 :: 180 :: 0 :: 150 :: 21 :: 7 :: 46 :: 161 :: 0 :: 35 :: 21 :: 5 :: 42 :: 180 :: 0 :: 153 :: 21 :: 7 :: 46 :: 162 :: 0 :: 23 :: sxX12_proved_74 := aq_25 shX12_proved_25
theorem shX12_proved_74 : cX12_proved.data.toList.drop 74 = 28 :: 2 :: 159 :: 0 :: 14 :: 42 :: 180 :: 0 :: 156 :: 21 :: 7 :: 46 :: 28 :: 160 :: 0 :: 7 :: 4 :: 167 :: 0 :: 4 :: 3 :: 54 :: 6 :: 132 :: 7 :: 1 :: sxX12_proved_100 := aq_24 shX12_proved_50
theorem shX12_proved_100 : cX12_proved.data.toList.drop 100 = 167 :: 255 :: 181 :: 29 :: 21 :: 6 :: 153 :: 0 :: 7 :: 4 :: 167 :: 0 :: 4 :: 3 :: 96 :: 62 :: 132 :: 5 :: 1 :: 167 :: 255 :: 149 :: 29 :: 172 :: sxX12_proved_124 := aq_26 shX12_proved_74
theorem dX12_proved_94 : decode cX12_proved 94 = .ok (.iconst 0, 1) := oc_3 94 (aq_20 shX12_proved_74)
theorem dX12_proved_95 : decode cX12_proved 95 = .ok (.istore 6, 2) := oc_54 95 (aq_21 shX12_proved_74) ub_6
theorem dX12_proved_97 : decode cX12_proved 97 = .ok (.iinc 7 1, 3) := oc_132 97 (aq_23 shX12_proved_74) ub_7 sgb_1
theorem dX12_proved_100 : decode cX12_proved 100 = .ok (.goto (-75), 3) := oc_167 100 shX12_proved_100 sgw_255_181
noncomputable def sxX12_batchIs_95 : List UInt8 := []
noncomputable def sxX12_batchIs_86 : List UInt8 := 100 :: 172 :: 42 :: 180 :: 0 :: 138 :: 27 :: 46 :: 172 :: sxX12_batchIs_95
noncomputable def sxX12_batchIs_60 : List UInt8 := 42 :: 180 :: 1 :: 163 :: 172 :: 42 :: 180 :: 1 :: 166 :: 172 :: 42 :: 180 :: 1 :: 169 :: 172 :: 42 :: 27 :: 182 :: 1 :: 188 :: 42 :: 27 :: 2 :: 182 :: 1 :: 197 :: sxX12_batchIs_86
noncomputable def sxX12_batchIs_24 : List UInt8 := 27 :: 46 :: 182 :: 1 :: 172 :: 28 :: 170 :: 0 :: 0 :: 0 :: 0 :: 58 :: 0 :: 0 :: 0 :: 0 :: 0 :: 0 :: 0 :: 3 :: 0 :: 0 :: 0 :: 30 :: 0 :: 0 :: 0 :: 35 :: 0 :: 0 :: 0 :: 40 :: 0 :: 0 :: 0 :: 45 :: sxX12_batchIs_60
theorem shX12_batchIs_0 : cX12_batchIs.data.toList.drop 0 = 42 :: 27 :: 182 :: 1 :: 194 :: 153 :: 0 :: 12 :: 28 :: 3 :: 7 :: 184 :: 0 :: 214 :: 154 :: 0 :: 5 :: 2 :: 172 :: 42 :: 42 :: 180 :: 0 :: 138 :: sxX12_batchIs_24 := rfl
theorem shX12_batchIs_24 : cX12_batchIs.data.toList.drop 24 = 27 :: 46 :: 182 :: 1 :: 172 :: 28 :: 170 :: 0 :: 0 :: 0 :: 0 :: 58 :: 0 :: 0 :: 0 :: 0 :: 0 :: 0 :: 0 :: 3 :: 0 :: 0 :: 0 :: 30 :: 0 :: 0 :: 0 :: 35 :: 0 :: 0 :: 0 :: 40 :: 0 :: 0 :: 0 :: 45 :: sxX12_batchIs_60 := aq_24 shX12_batchIs_0
theorem shX12_batchIs_60 : cX12_batchIs.data.toList.drop 60 = 42 :: 180 :: 1 :: 163 :: 172 :: 42 :: 180 :: 1 :: 166 :: 172 :: 42 :: 180 :: 1 :: 169 :: 172 :: 42 :: 27 :: 182 :: 1 :: 188 :: 42 :: 27 :: 2 :: 182 :: 1 :: 197 :: sxX12_batchIs_86 := dSn 36 shX12_batchIs_24
theorem shX12_batchIs_86 : cX12_batchIs.data.toList.drop 86 = 100 :: 172 :: 42 :: 180 :: 0 :: 138 :: 27 :: 46 :: 172 :: sxX12_batchIs_95 := aq_26 shX12_batchIs_60
theorem dX12_batchIs_30 : decode cX12_batchIs 30 = .ok (.tableswitch 58 0 3 #[30, 35, 40, 45], 30) := by decide +kernel
noncomputable def sxX12_blend_168 : List UInt8 := []
noncomputable def sxX12_blend_146 : List UInt8 := 161 :: 0 :: 6 :: 167 :: 0 :: 11 :: 21 :: 5 :: 61 :: 42 :: 180 :: 1 :: 163 :: 62 :: 132 :: 4 :: 1 :: 167 :: 255 :: 144 :: 28 :: 172 :: sxX12_blend_168
noncomputable def sxX12_blend_121 : List UInt8 := 42 :: 180 :: 1 :: 163 :: 29 :: 161 :: 0 :: 34 :: 42 :: 180 :: 1 :: 163 :: 29 :: 160 :: 0 :: 18 :: 21 :: 5 :: 184 :: 1 :: 175 :: 28 :: 184 :: 1 :: 175 :: sxX12_blend_146
noncomputable def sxX12_blend_97 : List UInt8 := 21 :: 5 :: 54 :: 5 :: 132 :: 6 :: 1 :: 167 :: 255 :: 217 :: 42 :: 21 :: 5 :: 182 :: 1 :: 185 :: 2 :: 160 :: 0 :: 46 :: 28 :: 153 :: 0 :: 34 :: sxX12_blend_121
noncomputable def sxX12_blend_73 : List UInt8 := 21 :: 6 :: 122 :: 4 :: 126 :: 4 :: 160 :: 0 :: 18 :: 21 :: 5 :: 4 :: 42 :: 180 :: 0 :: 159 :: 21 :: 6 :: 46 :: 120 :: 128 :: 167 :: 0 :: 5 :: sxX12_blend_97
noncomputable def sxX12_blend_48 : List UInt8 := 4 :: 54 :: 4 :: 21 :: 4 :: 4 :: 27 :: 120 :: 162 :: 0 :: 110 :: 3 :: 54 :: 5 :: 3 :: 54 :: 6 :: 21 :: 6 :: 27 :: 162 :: 0 :: 39 :: 21 :: 4 :: sxX12_blend_73
noncomputable def sxX12_blend_24 : List UInt8 := 167 :: 0 :: 14 :: 42 :: 180 :: 0 :: 159 :: 27 :: 28 :: 79 :: 27 :: 4 :: 96 :: 60 :: 132 :: 2 :: 1 :: 167 :: 255 :: 219 :: 3 :: 61 :: 3 :: 62 :: sxX12_blend_48
theorem shX12_blend_0 : cX12_blend.data.toList.drop 0 = 3 :: 60 :: 3 :: 61 :: 28 :: 16 :: 20 :: 162 :: 0 :: 37 :: 27 :: 16 :: 12 :: 162 :: 0 :: 31 :: 42 :: 28 :: 182 :: 1 :: 182 :: 154 :: 0 :: 6 :: sxX12_blend_24 := rfl
theorem shX12_blend_24 : cX12_blend.data.toList.drop 24 = 167 :: 0 :: 14 :: 42 :: 180 :: 0 :: 159 :: 27 :: 28 :: 79 :: 27 :: 4 :: 96 :: 60 :: 132 :: 2 :: 1 :: 167 :: 255 :: 219 :: 3 :: 61 :: 3 :: 62 :: sxX12_blend_48 := aq_24 shX12_blend_0
theorem shX12_blend_48 : cX12_blend.data.toList.drop 48 = 4 :: 54 :: 4 :: 21 :: 4 :: 4 :: 27 :: 120 :: 162 :: 0 :: 110 :: 3 :: 54 :: 5 :: 3 :: 54 :: 6 :: 21 :: 6 :: 27 :: 162 :: 0 :: 39 :: 21 :: 4 :: sxX12_blend_73 := aq_24 shX12_blend_24
theorem shX12_blend_73 : cX12_blend.data.toList.drop 73 = 21 :: 6 :: 122 :: 4 :: 126 :: 4 :: 160 :: 0 :: 18 :: 21 :: 5 :: 4 :: 42 :: 180 :: 0 :: 159 :: 21 :: 6 :: 46 :: 120 :: 128 :: 167 :: 0 :: 5 :: sxX12_blend_97 := aq_25 shX12_blend_48
theorem shX12_blend_97 : cX12_blend.data.toList.drop 97 = 21 :: 5 :: 54 :: 5 :: 132 :: 6 :: 1 :: 167 :: 255 :: 217 :: 42 :: 21 :: 5 :: 182 :: 1 :: 185 :: 2 :: 160 :: 0 :: 46 :: 28 :: 153 :: 0 :: 34 :: sxX12_blend_121 := aq_24 shX12_blend_73
theorem shX12_blend_121 : cX12_blend.data.toList.drop 121 = 42 :: 180 :: 1 :: 163 :: 29 :: 161 :: 0 :: 34 :: 42 :: 180 :: 1 :: 163 :: 29 :: 160 :: 0 :: 18 :: 21 :: 5 :: 184 :: 1 :: 175 :: 28 :: 184 :: 1 :: 175 :: sxX12_blend_146 := aq_24 shX12_blend_97
theorem shX12_blend_146 : cX12_blend.data.toList.drop 146 = 161 :: 0 :: 6 :: 167 :: 0 :: 11 :: 21 :: 5 :: 61 :: 42 :: 180 :: 1 :: 163 :: 62 :: 132 :: 4 :: 1 :: 167 :: 255 :: 144 :: 28 :: 172 :: sxX12_blend_168 := aq_25 shX12_blend_121
theorem dX12_blend_21 : decode cX12_blend 21 = .ok (.ifCond .ne 6, 3) := oc_154 21 (aq_21 shX12_blend_0) sgw_0_6
theorem dX12_blend_38 : decode cX12_blend 38 = .ok (.iinc 2 1, 3) := oc_132 38 (aq_14 shX12_blend_24) ub_2 sgb_1
theorem dX12_blend_41 : decode cX12_blend 41 = .ok (.goto (-37), 3) := oc_167 41 (aq_17 shX12_blend_24) sgw_255_219
theorem dX12_blend_44 : decode cX12_blend 44 = .ok (.iconst 0, 1) := oc_3 44 (aq_20 shX12_blend_24)
theorem dX12_blend_45 : decode cX12_blend 45 = .ok (.istore_n 2, 1) := oc_61 45 (aq_21 shX12_blend_24)
theorem dX12_blend_46 : decode cX12_blend 46 = .ok (.iconst 0, 1) := oc_3 46 (aq_22 shX12_blend_24)
theorem dX12_blend_47 : decode cX12_blend 47 = .ok (.istore_n 3, 1) := oc_62 47 (aq_23 shX12_blend_24)
theorem dX12_blend_48 : decode cX12_blend 48 = .ok (.iconst 1, 1) := oc_4 48 shX12_blend_48
theorem dX12_blend_49 : decode cX12_blend 49 = .ok (.istore 4, 2) := oc_54 49 (aq_1 shX12_blend_48) ub_4
theorem dX12_blend_51 : decode cX12_blend 51 = .ok (.iload 4, 2) := oc_21 51 (aq_3 shX12_blend_48) ub_4
theorem dX12_blend_53 : decode cX12_blend 53 = .ok (.iconst 1, 1) := oc_4 53 (aq_5 shX12_blend_48)
theorem dX12_blend_54 : decode cX12_blend 54 = .ok (.iload_n 1, 1) := oc_27 54 (aq_6 shX12_blend_48)
theorem dX12_blend_55 : decode cX12_blend 55 = .ok (.ishl, 1) := oc_120 55 (aq_7 shX12_blend_48)
theorem dX12_blend_56 : decode cX12_blend 56 = .ok (.if_icmp .ge 110, 3) := oc_162 56 (aq_8 shX12_blend_48) sgw_0_110
theorem dX12_blend_59 : decode cX12_blend 59 = .ok (.iconst 0, 1) := oc_3 59 (aq_11 shX12_blend_48)
theorem dX12_blend_60 : decode cX12_blend 60 = .ok (.istore 5, 2) := oc_54 60 (aq_12 shX12_blend_48) ub_5
theorem dX12_blend_62 : decode cX12_blend 62 = .ok (.iconst 0, 1) := oc_3 62 (aq_14 shX12_blend_48)
theorem dX12_blend_63 : decode cX12_blend 63 = .ok (.istore 6, 2) := oc_54 63 (aq_15 shX12_blend_48) ub_6
theorem dX12_blend_65 : decode cX12_blend 65 = .ok (.iload 6, 2) := oc_21 65 (aq_17 shX12_blend_48) ub_6
theorem dX12_blend_67 : decode cX12_blend 67 = .ok (.iload_n 1, 1) := oc_27 67 (aq_19 shX12_blend_48)
theorem dX12_blend_68 : decode cX12_blend 68 = .ok (.if_icmp .ge 39, 3) := oc_162 68 (aq_20 shX12_blend_48) sgw_0_39
theorem dX12_blend_71 : decode cX12_blend 71 = .ok (.iload 4, 2) := oc_21 71 (aq_23 shX12_blend_48) ub_4
theorem dX12_blend_73 : decode cX12_blend 73 = .ok (.iload 6, 2) := oc_21 73 shX12_blend_73 ub_6
theorem dX12_blend_75 : decode cX12_blend 75 = .ok (.ishr, 1) := oc_122 75 (aq_2 shX12_blend_73)
theorem dX12_blend_76 : decode cX12_blend 76 = .ok (.iconst 1, 1) := oc_4 76 (aq_3 shX12_blend_73)
theorem dX12_blend_77 : decode cX12_blend 77 = .ok (.iand, 1) := oc_126 77 (aq_4 shX12_blend_73)
theorem dX12_blend_78 : decode cX12_blend 78 = .ok (.iconst 1, 1) := oc_4 78 (aq_5 shX12_blend_73)
theorem dX12_blend_79 : decode cX12_blend 79 = .ok (.if_icmp .ne 18, 3) := oc_160 79 (aq_6 shX12_blend_73) sgw_0_18
theorem dX12_blend_82 : decode cX12_blend 82 = .ok (.iload 5, 2) := oc_21 82 (aq_9 shX12_blend_73) ub_5
theorem dX12_blend_84 : decode cX12_blend 84 = .ok (.iconst 1, 1) := oc_4 84 (aq_11 shX12_blend_73)
theorem dX12_blend_85 : decode cX12_blend 85 = .ok (.aload_n 0, 1) := oc_42 85 (aq_12 shX12_blend_73)
theorem dX12_blend_86 : decode cX12_blend 86 = .ok (.getfield 159, 3) := oc_180 86 (aq_13 shX12_blend_73) uw_0_159
theorem dX12_blend_89 : decode cX12_blend 89 = .ok (.iload 6, 2) := oc_21 89 (aq_16 shX12_blend_73) ub_6
theorem dX12_blend_91 : decode cX12_blend 91 = .ok (.iaload, 1) := oc_46 91 (aq_18 shX12_blend_73)
theorem dX12_blend_92 : decode cX12_blend 92 = .ok (.ishl, 1) := oc_120 92 (aq_19 shX12_blend_73)
theorem dX12_blend_93 : decode cX12_blend 93 = .ok (.ior, 1) := oc_128 93 (aq_20 shX12_blend_73)
theorem dX12_blend_94 : decode cX12_blend 94 = .ok (.goto 5, 3) := oc_167 94 (aq_21 shX12_blend_73) sgw_0_5
theorem dX12_blend_97 : decode cX12_blend 97 = .ok (.iload 5, 2) := oc_21 97 shX12_blend_97 ub_5
theorem dX12_blend_99 : decode cX12_blend 99 = .ok (.istore 5, 2) := oc_54 99 (aq_2 shX12_blend_97) ub_5
theorem dX12_blend_101 : decode cX12_blend 101 = .ok (.iinc 6 1, 3) := oc_132 101 (aq_4 shX12_blend_97) ub_6 sgb_1
theorem dX12_blend_104 : decode cX12_blend 104 = .ok (.goto (-39), 3) := oc_167 104 (aq_7 shX12_blend_97) sgw_255_217
theorem dX12_blend_107 : decode cX12_blend 107 = .ok (.aload_n 0, 1) := oc_42 107 (aq_10 shX12_blend_97)
theorem dX12_blend_108 : decode cX12_blend 108 = .ok (.iload 5, 2) := oc_21 108 (aq_11 shX12_blend_97) ub_5
theorem dX12_blend_110 : decode cX12_blend 110 = .ok (.invokevirtual 441, 3) := oc_182 110 (aq_13 shX12_blend_97) uw_1_185
theorem dX12_blend_113 : decode cX12_blend 113 = .ok (.iconst (-1), 1) := oc_2 113 (aq_16 shX12_blend_97)
theorem dX12_blend_114 : decode cX12_blend 114 = .ok (.if_icmp .ne 46, 3) := oc_160 114 (aq_17 shX12_blend_97) sgw_0_46
theorem dX12_blend_117 : decode cX12_blend 117 = .ok (.iload_n 2, 1) := oc_28 117 (aq_20 shX12_blend_97)
theorem dX12_blend_118 : decode cX12_blend 118 = .ok (.ifCond .eq 34, 3) := oc_153 118 (aq_21 shX12_blend_97) sgw_0_34
theorem dX12_blend_121 : decode cX12_blend 121 = .ok (.aload_n 0, 1) := oc_42 121 shX12_blend_121
theorem dX12_blend_122 : decode cX12_blend 122 = .ok (.getfield 419, 3) := oc_180 122 (aq_1 shX12_blend_121) uw_1_163
theorem dX12_blend_125 : decode cX12_blend 125 = .ok (.iload_n 3, 1) := oc_29 125 (aq_4 shX12_blend_121)
theorem dX12_blend_126 : decode cX12_blend 126 = .ok (.if_icmp .lt 34, 3) := oc_161 126 (aq_5 shX12_blend_121) sgw_0_34
theorem dX12_blend_129 : decode cX12_blend 129 = .ok (.aload_n 0, 1) := oc_42 129 (aq_8 shX12_blend_121)
theorem dX12_blend_130 : decode cX12_blend 130 = .ok (.getfield 419, 3) := oc_180 130 (aq_9 shX12_blend_121) uw_1_163
theorem dX12_blend_133 : decode cX12_blend 133 = .ok (.iload_n 3, 1) := oc_29 133 (aq_12 shX12_blend_121)
theorem dX12_blend_134 : decode cX12_blend 134 = .ok (.if_icmp .ne 18, 3) := oc_160 134 (aq_13 shX12_blend_121) sgw_0_18
theorem dX12_blend_137 : decode cX12_blend 137 = .ok (.iload 5, 2) := oc_21 137 (aq_16 shX12_blend_121) ub_5
theorem dX12_blend_139 : decode cX12_blend 139 = .ok (.invokestatic 431, 3) := oc_184 139 (aq_18 shX12_blend_121) uw_1_175
theorem dX12_blend_142 : decode cX12_blend 142 = .ok (.iload_n 2, 1) := oc_28 142 (aq_21 shX12_blend_121)
theorem dX12_blend_143 : decode cX12_blend 143 = .ok (.invokestatic 431, 3) := oc_184 143 (aq_22 shX12_blend_121) uw_1_175
theorem dX12_blend_146 : decode cX12_blend 146 = .ok (.if_icmp .lt 6, 3) := oc_161 146 shX12_blend_146 sgw_0_6
theorem dX12_blend_149 : decode cX12_blend 149 = .ok (.goto 11, 3) := oc_167 149 (aq_3 shX12_blend_146) sgw_0_11
theorem dX12_blend_152 : decode cX12_blend 152 = .ok (.iload 5, 2) := oc_21 152 (aq_6 shX12_blend_146) ub_5
theorem dX12_blend_154 : decode cX12_blend 154 = .ok (.istore_n 2, 1) := oc_61 154 (aq_8 shX12_blend_146)
theorem dX12_blend_155 : decode cX12_blend 155 = .ok (.aload_n 0, 1) := oc_42 155 (aq_9 shX12_blend_146)
theorem dX12_blend_156 : decode cX12_blend 156 = .ok (.getfield 419, 3) := oc_180 156 (aq_10 shX12_blend_146) uw_1_163
theorem dX12_blend_159 : decode cX12_blend 159 = .ok (.istore_n 3, 1) := oc_62 159 (aq_13 shX12_blend_146)
theorem dX12_blend_160 : decode cX12_blend 160 = .ok (.iinc 4 1, 3) := oc_132 160 (aq_14 shX12_blend_146) ub_4 sgb_1
theorem dX12_blend_163 : decode cX12_blend 163 = .ok (.goto (-112), 3) := oc_167 163 (aq_17 shX12_blend_146) sgw_255_144
theorem dX12_blend_166 : decode cX12_blend 166 = .ok (.iload_n 2, 1) := oc_28 166 (aq_20 shX12_blend_146)
theorem dX12_blend_167 : decode cX12_blend 167 = .ok (.ireturn, 1) := oc_172 167 (aq_21 shX12_blend_146)
noncomputable def sxX12_proof_119 : List UInt8 := []
noncomputable def sxX12_proof_101 : List UInt8 := 79 :: 42 :: 42 :: 180 :: 1 :: 191 :: 4 :: 96 :: 181 :: 1 :: 191 :: 42 :: 180 :: 1 :: 191 :: 4 :: 100 :: 172 :: sxX12_proof_119
noncomputable def sxX12_proof_76 : List UInt8 := 29 :: 79 :: 42 :: 180 :: 0 :: 156 :: 42 :: 180 :: 1 :: 191 :: 21 :: 4 :: 79 :: 42 :: 180 :: 0 :: 144 :: 42 :: 180 :: 1 :: 191 :: 42 :: 180 :: 0 :: 211 :: sxX12_proof_101
noncomputable def sxX12_proof_52 : List UInt8 := 42 :: 180 :: 1 :: 191 :: 27 :: 79 :: 42 :: 180 :: 0 :: 150 :: 42 :: 180 :: 1 :: 191 :: 28 :: 79 :: 42 :: 180 :: 0 :: 153 :: 42 :: 180 :: 1 :: 191 :: sxX12_proof_76
noncomputable def sxX12_proof_26 : List UInt8 := 21 :: 4 :: 3 :: 16 :: 9 :: 184 :: 0 :: 214 :: 153 :: 0 :: 12 :: 42 :: 180 :: 1 :: 191 :: 16 :: 40 :: 160 :: 0 :: 5 :: 2 :: 172 :: 42 :: 180 :: 0 :: 147 :: sxX12_proof_52
theorem shX12_proof_0 : cX12_proof.data.toList.drop 0 = 42 :: 27 :: 182 :: 1 :: 194 :: 153 :: 0 :: 41 :: 28 :: 155 :: 0 :: 37 :: 29 :: 28 :: 164 :: 0 :: 32 :: 29 :: 42 :: 27 :: 182 :: 1 :: 188 :: 163 :: 0 :: 23 :: sxX12_proof_26 := rfl
theorem shX12_proof_26 : cX12_proof.data.toList.drop 26 = 21 :: 4 :: 3 :: 16 :: 9 :: 184 :: 0 :: 214 :: 153 :: 0 :: 12 :: 42 :: 180 :: 1 :: 191 :: 16 :: 40 :: 160 :: 0 :: 5 :: 2 :: 172 :: 42 :: 180 :: 0 :: 147 :: sxX12_proof_52 := aq_26 shX12_proof_0
theorem shX12_proof_52 : cX12_proof.data.toList.drop 52 = 42 :: 180 :: 1 :: 191 :: 27 :: 79 :: 42 :: 180 :: 0 :: 150 :: 42 :: 180 :: 1 :: 191 :: 28 :: 79 :: 42 :: 180 :: 0 :: 153 :: 42 :: 180 :: 1 :: 191 :: sxX12_proof_76 := aq_26 shX12_proof_26
theorem shX12_proof_76 : cX12_proof.data.toList.drop 76 = 29 :: 79 :: 42 :: 180 :: 0 :: 156 :: 42 :: 180 :: 1 :: 191 :: 21 :: 4 :: 79 :: 42 :: 180 :: 0 :: 144 :: 42 :: 180 :: 1 :: 191 :: 42 :: 180 :: 0 :: 211 :: sxX12_proof_101 := aq_24 shX12_proof_52
theorem shX12_proof_101 : cX12_proof.data.toList.drop 101 = 79 :: 42 :: 42 :: 180 :: 1 :: 191 :: 4 :: 96 :: 181 :: 1 :: 191 :: 42 :: 180 :: 1 :: 191 :: 4 :: 100 :: 172 :: sxX12_proof_119 := aq_25 shX12_proof_76
theorem dX12_proof_46 : decode cX12_proof 46 = .ok (.iconst (-1), 1) := oc_2 46 (aq_20 shX12_proof_26)
theorem dX12_proof_47 : decode cX12_proof 47 = .ok (.ireturn, 1) := oc_172 47 (aq_21 shX12_proof_26)
noncomputable def sxX12_twice_93 : List UInt8 := []
noncomputable def sxX12_twice_72 : List UInt8 := 28 :: 46 :: 162 :: 0 :: 5 :: 28 :: 172 :: 132 :: 3 :: 1 :: 167 :: 255 :: 196 :: 132 :: 2 :: 1 :: 167 :: 255 :: 180 :: 2 :: 172 :: sxX12_twice_93
noncomputable def sxX12_twice_48 : List UInt8 := 180 :: 0 :: 150 :: 28 :: 46 :: 42 :: 180 :: 0 :: 153 :: 29 :: 46 :: 162 :: 0 :: 20 :: 42 :: 180 :: 0 :: 150 :: 29 :: 46 :: 42 :: 180 :: 0 :: 153 :: sxX12_twice_72
noncomputable def sxX12_twice_24 : List UInt8 := 162 :: 0 :: 61 :: 42 :: 180 :: 0 :: 147 :: 28 :: 46 :: 27 :: 160 :: 0 :: 45 :: 42 :: 180 :: 0 :: 147 :: 29 :: 46 :: 27 :: 160 :: 0 :: 35 :: 42 :: sxX12_twice_48
theorem shX12_twice_0 : cX12_twice.data.toList.drop 0 = 42 :: 27 :: 182 :: 1 :: 194 :: 154 :: 0 :: 5 :: 2 :: 172 :: 3 :: 61 :: 28 :: 42 :: 180 :: 1 :: 191 :: 162 :: 0 :: 74 :: 3 :: 62 :: 29 :: 28 :: sxX12_twice_24 := rfl
theorem shX12_twice_24 : cX12_twice.data.toList.drop 24 = 162 :: 0 :: 61 :: 42 :: 180 :: 0 :: 147 :: 28 :: 46 :: 27 :: 160 :: 0 :: 45 :: 42 :: 180 :: 0 :: 147 :: 29 :: 46 :: 27 :: 160 :: 0 :: 35 :: 42 :: sxX12_twice_48 := aq_24 shX12_twice_0
theorem shX12_twice_48 : cX12_twice.data.toList.drop 48 = 180 :: 0 :: 150 :: 28 :: 46 :: 42 :: 180 :: 0 :: 153 :: 29 :: 46 :: 162 :: 0 :: 20 :: 42 :: 180 :: 0 :: 150 :: 29 :: 46 :: 42 :: 180 :: 0 :: 153 :: sxX12_twice_72 := aq_24 shX12_twice_24
theorem shX12_twice_72 : cX12_twice.data.toList.drop 72 = 28 :: 46 :: 162 :: 0 :: 5 :: 28 :: 172 :: 132 :: 3 :: 1 :: 167 :: 255 :: 196 :: 132 :: 2 :: 1 :: 167 :: 255 :: 180 :: 2 :: 172 :: sxX12_twice_93 := aq_24 shX12_twice_48
theorem dX12_twice_79 : decode cX12_twice 79 = .ok (.iinc 3 1, 3) := oc_132 79 (aq_7 shX12_twice_72) ub_3 sgb_1
theorem dX12_twice_82 : decode cX12_twice 82 = .ok (.goto (-60), 3) := oc_167 82 (aq_10 shX12_twice_72) sgw_255_196
noncomputable def sxX12_bought_29 : List UInt8 := []
noncomputable def sxX12_bought_24 : List UInt8 := 167 :: 0 :: 4 :: 2 :: 172 :: sxX12_bought_29
theorem shX12_bought_0 : cX12_bought.data.toList.drop 0 = 42 :: 27 :: 182 :: 1 :: 194 :: 153 :: 0 :: 22 :: 28 :: 3 :: 16 :: 9 :: 184 :: 0 :: 214 :: 153 :: 0 :: 12 :: 42 :: 27 :: 28 :: 182 :: 1 :: 197 :: sxX12_bought_24 := rfl
theorem shX12_bought_24 : cX12_bought.data.toList.drop 24 = 167 :: 0 :: 4 :: 2 :: 172 :: sxX12_bought_29 := aq_24 shX12_bought_0
noncomputable def sxX12_loadAt_61 : List UInt8 := []
noncomputable def sxX12_loadAt_50 : List UInt8 := 46 :: 100 :: 62 :: 132 :: 4 :: 1 :: 167 :: 255 :: 205 :: 2 :: 172 :: sxX12_loadAt_61
noncomputable def sxX12_loadAt_26 : List UInt8 := 167 :: 0 :: 27 :: 29 :: 42 :: 180 :: 0 :: 31 :: 21 :: 4 :: 46 :: 162 :: 0 :: 6 :: 21 :: 4 :: 172 :: 29 :: 42 :: 180 :: 0 :: 31 :: 21 :: 4 :: sxX12_loadAt_50
theorem shX12_loadAt_0 : cX12_loadAt.data.toList.drop 0 = 28 :: 62 :: 3 :: 54 :: 4 :: 21 :: 4 :: 16 :: 20 :: 162 :: 0 :: 50 :: 42 :: 180 :: 0 :: 138 :: 27 :: 46 :: 21 :: 4 :: 122 :: 4 :: 126 :: 154 :: 0 :: 6 :: sxX12_loadAt_26 := rfl
theorem shX12_loadAt_26 : cX12_loadAt.data.toList.drop 26 = 167 :: 0 :: 27 :: 29 :: 42 :: 180 :: 0 :: 31 :: 21 :: 4 :: 46 :: 162 :: 0 :: 6 :: 21 :: 4 :: 172 :: 29 :: 42 :: 180 :: 0 :: 31 :: 21 :: 4 :: sxX12_loadAt_50 := aq_26 shX12_loadAt_0
theorem shX12_loadAt_50 : cX12_loadAt.data.toList.drop 50 = 46 :: 100 :: 62 :: 132 :: 4 :: 1 :: 167 :: 255 :: 205 :: 2 :: 172 :: sxX12_loadAt_61 := aq_24 shX12_loadAt_26
noncomputable def sxX12_whence_34 : List UInt8 := []
noncomputable def sxX12_whence_24 : List UInt8 := 27 :: 28 :: 182 :: 1 :: 200 :: 167 :: 0 :: 4 :: 2 :: 172 :: sxX12_whence_34
theorem shX12_whence_0 : cX12_whence.data.toList.drop 0 = 42 :: 27 :: 182 :: 1 :: 194 :: 153 :: 0 :: 27 :: 28 :: 3 :: 42 :: 27 :: 182 :: 1 :: 188 :: 4 :: 100 :: 184 :: 0 :: 214 :: 153 :: 0 :: 12 :: 42 :: sxX12_whence_24 := rfl
theorem shX12_whence_24 : cX12_whence.data.toList.drop 24 = 27 :: 28 :: 182 :: 1 :: 200 :: 167 :: 0 :: 4 :: 2 :: 172 :: sxX12_whence_34 := aq_24 shX12_whence_0
theorem dX12_whence_33 : decode cX12_whence 33 = .ok (.ireturn, 1) := oc_172 33 (aq_9 shX12_whence_24)
noncomputable def sxX12_isProof_18 : List UInt8 := []
theorem shX12_isProof_0 : cX12_isProof.data.toList.drop 0 = 27 :: 155 :: 0 :: 15 :: 27 :: 42 :: 180 :: 1 :: 191 :: 162 :: 0 :: 7 :: 4 :: 167 :: 0 :: 4 :: 3 :: 172 :: sxX12_isProof_18 := rfl
noncomputable def sxX12_audit_76 : List UInt8 := []
noncomputable def sxX12_audit_74 : List UInt8 := 29 :: 172 :: sxX12_audit_76
noncomputable def sxX12_audit_49 : List UInt8 := 27 :: 46 :: 21 :: 4 :: 182 :: 1 :: 200 :: 46 :: 28 :: 160 :: 0 :: 7 :: 4 :: 167 :: 0 :: 4 :: 3 :: 96 :: 62 :: 132 :: 4 :: 1 :: 167 :: 255 :: 213 :: sxX12_audit_74
noncomputable def sxX12_audit_24 : List UInt8 := 27 :: 46 :: 54 :: 4 :: 21 :: 4 :: 42 :: 180 :: 0 :: 153 :: 27 :: 46 :: 162 :: 0 :: 38 :: 29 :: 42 :: 180 :: 0 :: 25 :: 42 :: 42 :: 180 :: 0 :: 147 :: sxX12_audit_49
theorem shX12_audit_0 : cX12_audit.data.toList.drop 0 = 42 :: 27 :: 182 :: 1 :: 203 :: 153 :: 0 :: 11 :: 42 :: 28 :: 182 :: 0 :: 218 :: 154 :: 0 :: 5 :: 2 :: 172 :: 3 :: 62 :: 42 :: 180 :: 0 :: 150 :: sxX12_audit_24 := rfl
theorem shX12_audit_24 : cX12_audit.data.toList.drop 24 = 27 :: 46 :: 54 :: 4 :: 21 :: 4 :: 42 :: 180 :: 0 :: 153 :: 27 :: 46 :: 162 :: 0 :: 38 :: 29 :: 42 :: 180 :: 0 :: 25 :: 42 :: 42 :: 180 :: 0 :: 147 :: sxX12_audit_49 := aq_24 shX12_audit_0
theorem shX12_audit_49 : cX12_audit.data.toList.drop 49 = 27 :: 46 :: 21 :: 4 :: 182 :: 1 :: 200 :: 46 :: 28 :: 160 :: 0 :: 7 :: 4 :: 167 :: 0 :: 4 :: 3 :: 96 :: 62 :: 132 :: 4 :: 1 :: 167 :: 255 :: 213 :: sxX12_audit_74 := aq_25 shX12_audit_24
theorem shX12_audit_74 : cX12_audit.data.toList.drop 74 = 29 :: 172 :: sxX12_audit_76 := aq_25 shX12_audit_49
noncomputable def sxX12_use_30 : List UInt8 := []
noncomputable def sxX12_use_25 : List UInt8 := 27 :: 28 :: 79 :: 4 :: 172 :: sxX12_use_30
theorem shX12_use_0 : cX12_use.data.toList.drop 0 = 27 :: 3 :: 16 :: 9 :: 184 :: 0 :: 214 :: 153 :: 0 :: 12 :: 28 :: 3 :: 6 :: 184 :: 0 :: 214 :: 154 :: 0 :: 5 :: 3 :: 172 :: 42 :: 180 :: 0 :: 162 :: sxX12_use_25 := rfl
theorem shX12_use_25 : cX12_use.data.toList.drop 25 = 27 :: 28 :: 79 :: 4 :: 172 :: sxX12_use_30 := aq_25 shX12_use_0
noncomputable def sxX12_rate_46 : List UInt8 := []
noncomputable def sxX12_rate_24 : List UInt8 := 184 :: 0 :: 214 :: 154 :: 0 :: 5 :: 3 :: 172 :: 42 :: 180 :: 0 :: 165 :: 16 :: 58 :: 27 :: 104 :: 28 :: 96 :: 29 :: 79 :: 4 :: 172 :: sxX12_rate_46
theorem shX12_rate_0 : cX12_rate.data.toList.drop 0 = 27 :: 3 :: 6 :: 184 :: 0 :: 214 :: 153 :: 0 :: 24 :: 28 :: 3 :: 16 :: 57 :: 184 :: 0 :: 214 :: 153 :: 0 :: 14 :: 29 :: 3 :: 17 :: 3 :: 232 :: sxX12_rate_24 := rfl
theorem shX12_rate_24 : cX12_rate.data.toList.drop 24 = 184 :: 0 :: 214 :: 154 :: 0 :: 5 :: 3 :: 172 :: 42 :: 180 :: 0 :: 165 :: 16 :: 58 :: 27 :: 104 :: 28 :: 96 :: 29 :: 79 :: 4 :: 172 :: sxX12_rate_46 := aq_24 shX12_rate_0
noncomputable def sxX12_tax_59 : List UInt8 := []
noncomputable def sxX12_tax_49 : List UInt8 := 46 :: 104 :: 16 :: 100 :: 108 :: 167 :: 0 :: 4 :: 2 :: 172 :: sxX12_tax_59
noncomputable def sxX12_tax_25 : List UInt8 := 16 :: 58 :: 42 :: 180 :: 0 :: 162 :: 42 :: 180 :: 0 :: 156 :: 27 :: 46 :: 46 :: 104 :: 42 :: 180 :: 0 :: 144 :: 27 :: 46 :: 16 :: 7 :: 108 :: 96 :: sxX12_tax_49
theorem shX12_tax_0 : cX12_tax.data.toList.drop 0 = 42 :: 27 :: 182 :: 1 :: 203 :: 153 :: 0 :: 52 :: 42 :: 180 :: 0 :: 153 :: 27 :: 46 :: 42 :: 180 :: 0 :: 150 :: 27 :: 46 :: 100 :: 42 :: 180 :: 0 :: 165 :: sxX12_tax_25 := rfl
theorem shX12_tax_25 : cX12_tax.data.toList.drop 25 = 16 :: 58 :: 42 :: 180 :: 0 :: 162 :: 42 :: 180 :: 0 :: 156 :: 27 :: 46 :: 46 :: 104 :: 42 :: 180 :: 0 :: 144 :: 27 :: 46 :: 16 :: 7 :: 108 :: 96 :: sxX12_tax_49 := aq_25 shX12_tax_0
theorem shX12_tax_49 : cX12_tax.data.toList.drop 49 = 46 :: 104 :: 16 :: 100 :: 108 :: 167 :: 0 :: 4 :: 2 :: 172 :: sxX12_tax_59 := aq_24 shX12_tax_25
noncomputable def sxX12_most_32 : List UInt8 := []
noncomputable def sxX12_most_24 : List UInt8 := 180 :: 0 :: 168 :: 27 :: 28 :: 79 :: 4 :: 172 :: sxX12_most_32
theorem shX12_most_0 : cX12_most.data.toList.drop 0 = 27 :: 3 :: 16 :: 9 :: 184 :: 0 :: 214 :: 153 :: 0 :: 14 :: 28 :: 3 :: 19 :: 1 :: 78 :: 184 :: 0 :: 214 :: 154 :: 0 :: 5 :: 3 :: 172 :: 42 :: sxX12_most_24 := rfl
theorem shX12_most_24 : cX12_most.data.toList.drop 24 = 180 :: 0 :: 168 :: 27 :: 28 :: 79 :: 4 :: 172 :: sxX12_most_32 := aq_24 shX12_most_0
noncomputable def sxX12_overdrawn_121 : List UInt8 := []
noncomputable def sxX12_overdrawn_99 : List UInt8 := 46 :: 164 :: 0 :: 11 :: 28 :: 4 :: 29 :: 120 :: 128 :: 167 :: 0 :: 4 :: 28 :: 61 :: 132 :: 3 :: 1 :: 167 :: 255 :: 156 :: 28 :: 172 :: sxX12_overdrawn_121
noncomputable def sxX12_overdrawn_75 : List UInt8 := 21 :: 5 :: 46 :: 100 :: 167 :: 0 :: 4 :: 3 :: 96 :: 54 :: 4 :: 132 :: 5 :: 1 :: 167 :: 255 :: 195 :: 21 :: 4 :: 42 :: 180 :: 0 :: 168 :: 29 :: sxX12_overdrawn_99
noncomputable def sxX12_overdrawn_50 : List UInt8 := 42 :: 180 :: 0 :: 144 :: 21 :: 5 :: 46 :: 16 :: 7 :: 108 :: 27 :: 160 :: 0 :: 21 :: 42 :: 180 :: 0 :: 153 :: 21 :: 5 :: 46 :: 42 :: 180 :: 0 :: 150 :: sxX12_overdrawn_75
noncomputable def sxX12_overdrawn_25 : List UInt8 := 3 :: 54 :: 5 :: 21 :: 5 :: 42 :: 180 :: 1 :: 191 :: 162 :: 0 :: 58 :: 21 :: 4 :: 42 :: 180 :: 0 :: 156 :: 21 :: 5 :: 46 :: 29 :: 160 :: 0 :: 35 :: sxX12_overdrawn_50
theorem shX12_overdrawn_0 : cX12_overdrawn.data.toList.drop 0 = 27 :: 3 :: 16 :: 57 :: 184 :: 0 :: 214 :: 154 :: 0 :: 5 :: 2 :: 172 :: 3 :: 61 :: 3 :: 62 :: 29 :: 16 :: 10 :: 162 :: 0 :: 100 :: 3 :: 54 :: 4 :: sxX12_overdrawn_25 := rfl
theorem shX12_overdrawn_25 : cX12_overdrawn.data.toList.drop 25 = 3 :: 54 :: 5 :: 21 :: 5 :: 42 :: 180 :: 1 :: 191 :: 162 :: 0 :: 58 :: 21 :: 4 :: 42 :: 180 :: 0 :: 156 :: 21 :: 5 :: 46 :: 29 :: 160 :: 0 :: 35 :: sxX12_overdrawn_50 := aq_25 shX12_overdrawn_0
theorem shX12_overdrawn_50 : cX12_overdrawn.data.toList.drop 50 = 42 :: 180 :: 0 :: 144 :: 21 :: 5 :: 46 :: 16 :: 7 :: 108 :: 27 :: 160 :: 0 :: 21 :: 42 :: 180 :: 0 :: 153 :: 21 :: 5 :: 46 :: 42 :: 180 :: 0 :: 150 :: sxX12_overdrawn_75 := aq_25 shX12_overdrawn_25
theorem shX12_overdrawn_75 : cX12_overdrawn.data.toList.drop 75 = 21 :: 5 :: 46 :: 100 :: 167 :: 0 :: 4 :: 3 :: 96 :: 54 :: 4 :: 132 :: 5 :: 1 :: 167 :: 255 :: 195 :: 21 :: 4 :: 42 :: 180 :: 0 :: 168 :: 29 :: sxX12_overdrawn_99 := aq_25 shX12_overdrawn_50
theorem shX12_overdrawn_99 : cX12_overdrawn.data.toList.drop 99 = 46 :: 164 :: 0 :: 11 :: 28 :: 4 :: 29 :: 120 :: 128 :: 167 :: 0 :: 4 :: 28 :: 61 :: 132 :: 3 :: 1 :: 167 :: 255 :: 156 :: 28 :: 172 :: sxX12_overdrawn_121 := aq_24 shX12_overdrawn_75
noncomputable def sxX12_sample_70 : List UInt8 := []
noncomputable def sxX12_sample_48 : List UInt8 := 79 :: 42 :: 180 :: 0 :: 171 :: 27 :: 42 :: 180 :: 0 :: 171 :: 27 :: 46 :: 4 :: 96 :: 79 :: 42 :: 180 :: 0 :: 171 :: 27 :: 46 :: 172 :: sxX12_sample_70
noncomputable def sxX12_sample_24 : List UInt8 := 46 :: 16 :: 12 :: 160 :: 0 :: 5 :: 2 :: 172 :: 42 :: 180 :: 0 :: 174 :: 16 :: 12 :: 27 :: 104 :: 42 :: 180 :: 0 :: 171 :: 27 :: 46 :: 96 :: 28 :: sxX12_sample_48
theorem shX12_sample_0 : cX12_sample.data.toList.drop 0 = 42 :: 27 :: 182 :: 1 :: 194 :: 153 :: 0 :: 25 :: 28 :: 3 :: 17 :: 3 :: 232 :: 184 :: 0 :: 214 :: 153 :: 0 :: 14 :: 42 :: 180 :: 0 :: 171 :: 27 :: sxX12_sample_24 := rfl
theorem shX12_sample_24 : cX12_sample.data.toList.drop 24 = 46 :: 16 :: 12 :: 160 :: 0 :: 5 :: 2 :: 172 :: 42 :: 180 :: 0 :: 174 :: 16 :: 12 :: 27 :: 104 :: 42 :: 180 :: 0 :: 171 :: 27 :: 46 :: 96 :: 28 :: sxX12_sample_48 := aq_24 shX12_sample_0
theorem shX12_sample_48 : cX12_sample.data.toList.drop 48 = 79 :: 42 :: 180 :: 0 :: 171 :: 27 :: 42 :: 180 :: 0 :: 171 :: 27 :: 46 :: 4 :: 96 :: 79 :: 42 :: 180 :: 0 :: 171 :: 27 :: 46 :: 172 :: sxX12_sample_70 := aq_24 shX12_sample_24
noncomputable def sxX12_claim_118 : List UInt8 := []
noncomputable def sxX12_claim_98 : List UInt8 := 164 :: 0 :: 7 :: 4 :: 167 :: 0 :: 15 :: 21 :: 5 :: 21 :: 4 :: 164 :: 0 :: 7 :: 3 :: 167 :: 0 :: 4 :: 5 :: 172 :: sxX12_claim_118
noncomputable def sxX12_claim_73 : List UInt8 := 3 :: 96 :: 54 :: 4 :: 132 :: 5 :: 1 :: 167 :: 255 :: 214 :: 42 :: 180 :: 0 :: 171 :: 27 :: 46 :: 21 :: 4 :: 100 :: 54 :: 5 :: 21 :: 4 :: 21 :: 5 :: sxX12_claim_98
noncomputable def sxX12_claim_49 : List UInt8 := 21 :: 4 :: 42 :: 180 :: 0 :: 174 :: 16 :: 12 :: 27 :: 104 :: 21 :: 5 :: 96 :: 46 :: 28 :: 29 :: 100 :: 161 :: 0 :: 7 :: 4 :: 167 :: 0 :: 4 :: sxX12_claim_73
noncomputable def sxX12_claim_24 : List UInt8 := 184 :: 0 :: 214 :: 154 :: 0 :: 5 :: 2 :: 172 :: 3 :: 54 :: 4 :: 3 :: 54 :: 5 :: 21 :: 5 :: 42 :: 180 :: 0 :: 171 :: 27 :: 46 :: 162 :: 0 :: 37 :: sxX12_claim_49
theorem shX12_claim_0 : cX12_claim.data.toList.drop 0 = 42 :: 27 :: 182 :: 1 :: 194 :: 153 :: 0 :: 25 :: 28 :: 3 :: 17 :: 3 :: 232 :: 184 :: 0 :: 214 :: 153 :: 0 :: 14 :: 29 :: 3 :: 17 :: 3 :: 232 :: sxX12_claim_24 := rfl
theorem shX12_claim_24 : cX12_claim.data.toList.drop 24 = 184 :: 0 :: 214 :: 154 :: 0 :: 5 :: 2 :: 172 :: 3 :: 54 :: 4 :: 3 :: 54 :: 5 :: 21 :: 5 :: 42 :: 180 :: 0 :: 171 :: 27 :: 46 :: 162 :: 0 :: 37 :: sxX12_claim_49 := aq_24 shX12_claim_0
theorem shX12_claim_49 : cX12_claim.data.toList.drop 49 = 21 :: 4 :: 42 :: 180 :: 0 :: 174 :: 16 :: 12 :: 27 :: 104 :: 21 :: 5 :: 96 :: 46 :: 28 :: 29 :: 100 :: 161 :: 0 :: 7 :: 4 :: 167 :: 0 :: 4 :: sxX12_claim_73 := aq_25 shX12_claim_24
theorem shX12_claim_73 : cX12_claim.data.toList.drop 73 = 3 :: 96 :: 54 :: 4 :: 132 :: 5 :: 1 :: 167 :: 255 :: 214 :: 42 :: 180 :: 0 :: 171 :: 27 :: 46 :: 21 :: 4 :: 100 :: 54 :: 5 :: 21 :: 4 :: 21 :: 5 :: sxX12_claim_98 := aq_24 shX12_claim_49
theorem shX12_claim_98 : cX12_claim.data.toList.drop 98 = 164 :: 0 :: 7 :: 4 :: 167 :: 0 :: 15 :: 21 :: 5 :: 21 :: 4 :: 164 :: 0 :: 7 :: 3 :: 167 :: 0 :: 4 :: 5 :: 172 :: sxX12_claim_118 := aq_25 shX12_claim_73
noncomputable def sxX12_spill_69 : List UInt8 := []
noncomputable def sxX12_spill_48 : List UInt8 := 42 :: 180 :: 1 :: 206 :: 28 :: 79 :: 42 :: 42 :: 180 :: 1 :: 206 :: 4 :: 96 :: 181 :: 1 :: 206 :: 42 :: 180 :: 1 :: 206 :: 172 :: sxX12_spill_69
noncomputable def sxX12_spill_24 : List UInt8 := 180 :: 1 :: 206 :: 16 :: 40 :: 160 :: 0 :: 5 :: 2 :: 172 :: 42 :: 180 :: 0 :: 177 :: 42 :: 180 :: 1 :: 206 :: 27 :: 79 :: 42 :: 180 :: 0 :: 180 :: sxX12_spill_48
theorem shX12_spill_0 : cX12_spill.data.toList.drop 0 = 27 :: 3 :: 42 :: 180 :: 0 :: 211 :: 184 :: 0 :: 214 :: 153 :: 0 :: 23 :: 28 :: 4 :: 17 :: 1 :: 144 :: 184 :: 0 :: 214 :: 153 :: 0 :: 12 :: 42 :: sxX12_spill_24 := rfl
theorem shX12_spill_24 : cX12_spill.data.toList.drop 24 = 180 :: 1 :: 206 :: 16 :: 40 :: 160 :: 0 :: 5 :: 2 :: 172 :: 42 :: 180 :: 0 :: 177 :: 42 :: 180 :: 1 :: 206 :: 27 :: 79 :: 42 :: 180 :: 0 :: 180 :: sxX12_spill_48 := aq_24 shX12_spill_0
theorem shX12_spill_48 : cX12_spill.data.toList.drop 48 = 42 :: 180 :: 1 :: 206 :: 28 :: 79 :: 42 :: 42 :: 180 :: 1 :: 206 :: 4 :: 96 :: 181 :: 1 :: 206 :: 42 :: 180 :: 1 :: 206 :: 172 :: sxX12_spill_69 := aq_24 shX12_spill_24
noncomputable def sxX12_stockOn_120 : List UInt8 := []
noncomputable def sxX12_stockOn_96 : List UInt8 := 46 :: 27 :: 163 :: 0 :: 11 :: 42 :: 29 :: 182 :: 1 :: 188 :: 167 :: 0 :: 4 :: 3 :: 100 :: 61 :: 132 :: 3 :: 1 :: 167 :: 255 :: 223 :: 28 :: 172 :: sxX12_stockOn_120
noncomputable def sxX12_stockOn_72 : List UInt8 := 100 :: 61 :: 132 :: 3 :: 1 :: 167 :: 255 :: 222 :: 3 :: 62 :: 29 :: 42 :: 180 :: 1 :: 179 :: 162 :: 0 :: 31 :: 28 :: 42 :: 180 :: 0 :: 141 :: 29 :: sxX12_stockOn_96
noncomputable def sxX12_stockOn_48 : List UInt8 := 162 :: 0 :: 32 :: 28 :: 42 :: 180 :: 0 :: 177 :: 29 :: 46 :: 27 :: 163 :: 0 :: 12 :: 42 :: 180 :: 0 :: 180 :: 29 :: 46 :: 167 :: 0 :: 4 :: 3 :: sxX12_stockOn_72
noncomputable def sxX12_stockOn_24 : List UInt8 := 180 :: 0 :: 31 :: 29 :: 46 :: 167 :: 0 :: 4 :: 3 :: 96 :: 61 :: 132 :: 3 :: 1 :: 167 :: 255 :: 222 :: 3 :: 62 :: 29 :: 42 :: 180 :: 1 :: 206 :: sxX12_stockOn_48
theorem shX12_stockOn_0 : cX12_stockOn.data.toList.drop 0 = 3 :: 61 :: 3 :: 62 :: 29 :: 42 :: 180 :: 0 :: 208 :: 162 :: 0 :: 32 :: 28 :: 42 :: 180 :: 0 :: 28 :: 29 :: 46 :: 27 :: 163 :: 0 :: 12 :: 42 :: sxX12_stockOn_24 := rfl
theorem shX12_stockOn_24 : cX12_stockOn.data.toList.drop 24 = 180 :: 0 :: 31 :: 29 :: 46 :: 167 :: 0 :: 4 :: 3 :: 96 :: 61 :: 132 :: 3 :: 1 :: 167 :: 255 :: 222 :: 3 :: 62 :: 29 :: 42 :: 180 :: 1 :: 206 :: sxX12_stockOn_48 := aq_24 shX12_stockOn_0
theorem shX12_stockOn_48 : cX12_stockOn.data.toList.drop 48 = 162 :: 0 :: 32 :: 28 :: 42 :: 180 :: 0 :: 177 :: 29 :: 46 :: 27 :: 163 :: 0 :: 12 :: 42 :: 180 :: 0 :: 180 :: 29 :: 46 :: 167 :: 0 :: 4 :: 3 :: sxX12_stockOn_72 := aq_24 shX12_stockOn_24
theorem shX12_stockOn_72 : cX12_stockOn.data.toList.drop 72 = 100 :: 61 :: 132 :: 3 :: 1 :: 167 :: 255 :: 222 :: 3 :: 62 :: 29 :: 42 :: 180 :: 1 :: 179 :: 162 :: 0 :: 31 :: 28 :: 42 :: 180 :: 0 :: 141 :: 29 :: sxX12_stockOn_96 := aq_24 shX12_stockOn_48
theorem shX12_stockOn_96 : cX12_stockOn.data.toList.drop 96 = 46 :: 27 :: 163 :: 0 :: 11 :: 42 :: 29 :: 182 :: 1 :: 188 :: 167 :: 0 :: 4 :: 3 :: 100 :: 61 :: 132 :: 3 :: 1 :: 167 :: 255 :: 223 :: 28 :: 172 :: sxX12_stockOn_120 := aq_24 shX12_stockOn_72
noncomputable def sxX12_stock_19 : List UInt8 := []
theorem shX12_stock_0 : cX12_stock.data.toList.drop 0 = 27 :: 184 :: 1 :: 85 :: 153 :: 0 :: 11 :: 42 :: 27 :: 182 :: 1 :: 209 :: 167 :: 0 :: 6 :: 19 :: 1 :: 212 :: 172 :: sxX12_stock_19 := rfl
noncomputable def sxX12_below_45 : List UInt8 := []
noncomputable def sxX12_below_25 : List UInt8 := 42 :: 28 :: 182 :: 1 :: 209 :: 27 :: 162 :: 0 :: 5 :: 28 :: 172 :: 132 :: 2 :: 1 :: 167 :: 255 :: 234 :: 16 :: 254 :: 172 :: sxX12_below_45
theorem shX12_below_0 : cX12_below.data.toList.drop 0 = 27 :: 17 :: 216 :: 240 :: 17 :: 39 :: 16 :: 184 :: 0 :: 214 :: 154 :: 0 :: 5 :: 2 :: 172 :: 3 :: 61 :: 28 :: 42 :: 180 :: 0 :: 211 :: 163 :: 0 :: 20 :: sxX12_below_25 := rfl
theorem shX12_below_25 : cX12_below.data.toList.drop 25 = 42 :: 28 :: 182 :: 1 :: 209 :: 27 :: 162 :: 0 :: 5 :: 28 :: 172 :: 132 :: 2 :: 1 :: 167 :: 255 :: 234 :: 16 :: 254 :: 172 :: sxX12_below_45 := aq_25 shX12_below_0
noncomputable def sxX12_offers_48 : List UInt8 := []
noncomputable def sxX12_offers_24 : List UInt8 := 184 :: 0 :: 214 :: 154 :: 0 :: 5 :: 3 :: 172 :: 42 :: 180 :: 0 :: 183 :: 27 :: 28 :: 79 :: 42 :: 180 :: 0 :: 186 :: 27 :: 29 :: 79 :: 4 :: 172 :: sxX12_offers_48
theorem shX12_offers_0 : cX12_offers.data.toList.drop 0 = 42 :: 27 :: 182 :: 0 :: 218 :: 153 :: 0 :: 25 :: 28 :: 3 :: 17 :: 0 :: 200 :: 184 :: 0 :: 214 :: 153 :: 0 :: 14 :: 29 :: 3 :: 17 :: 0 :: 200 :: sxX12_offers_24 := rfl
theorem shX12_offers_24 : cX12_offers.data.toList.drop 24 = 184 :: 0 :: 214 :: 154 :: 0 :: 5 :: 3 :: 172 :: 42 :: 180 :: 0 :: 183 :: 27 :: 28 :: 79 :: 42 :: 180 :: 0 :: 186 :: 27 :: 29 :: 79 :: 4 :: 172 :: sxX12_offers_48 := aq_24 shX12_offers_0
noncomputable def sxX12_comers_50 : List UInt8 := []
noncomputable def sxX12_comers_26 : List UInt8 := 29 :: 46 :: 27 :: 163 :: 0 :: 11 :: 28 :: 4 :: 29 :: 120 :: 128 :: 167 :: 0 :: 4 :: 28 :: 61 :: 132 :: 3 :: 1 :: 167 :: 255 :: 215 :: 28 :: 172 :: sxX12_comers_50
theorem shX12_comers_0 : cX12_comers.data.toList.drop 0 = 3 :: 61 :: 3 :: 62 :: 29 :: 42 :: 180 :: 0 :: 204 :: 162 :: 0 :: 39 :: 42 :: 180 :: 0 :: 183 :: 29 :: 46 :: 27 :: 163 :: 0 :: 21 :: 42 :: 180 :: 0 :: 186 :: sxX12_comers_26 := rfl
theorem shX12_comers_26 : cX12_comers.data.toList.drop 26 = 29 :: 46 :: 27 :: 163 :: 0 :: 11 :: 28 :: 4 :: 29 :: 120 :: 128 :: 167 :: 0 :: 4 :: 28 :: 61 :: 132 :: 3 :: 1 :: 167 :: 255 :: 215 :: 28 :: 172 :: sxX12_comers_50 := aq_26 shX12_comers_0
theorem dX12_comers_40 : decode cX12_comers 40 = .ok (.iload_n 2, 1) := oc_28 40 (aq_14 shX12_comers_26)
theorem dX12_comers_41 : decode cX12_comers 41 = .ok (.istore_n 2, 1) := oc_61 41 (aq_15 shX12_comers_26)
theorem dX12_comers_42 : decode cX12_comers 42 = .ok (.iinc 3 1, 3) := oc_132 42 (aq_16 shX12_comers_26) ub_3 sgb_1
theorem dX12_comers_45 : decode cX12_comers 45 = .ok (.goto (-41), 3) := oc_167 45 (aq_19 shX12_comers_26) sgw_255_215
noncomputable def sxX12_worthOf_53 : List UInt8 := []
noncomputable def sxX12_worthOf_50 : List UInt8 := 21 :: 4 :: 172 :: sxX12_worthOf_53
noncomputable def sxX12_worthOf_24 : List UInt8 := 21 :: 5 :: 122 :: 4 :: 126 :: 42 :: 180 :: 0 :: 16 :: 21 :: 5 :: 46 :: 104 :: 28 :: 27 :: 100 :: 104 :: 96 :: 54 :: 4 :: 132 :: 5 :: 1 :: 167 :: 255 :: 221 :: sxX12_worthOf_50
theorem shX12_worthOf_0 : cX12_worthOf.data.toList.drop 0 = 42 :: 27 :: 182 :: 1 :: 213 :: 62 :: 3 :: 54 :: 4 :: 3 :: 54 :: 5 :: 21 :: 5 :: 42 :: 180 :: 0 :: 204 :: 162 :: 0 :: 32 :: 21 :: 4 :: 29 :: sxX12_worthOf_24 := rfl
theorem shX12_worthOf_24 : cX12_worthOf.data.toList.drop 24 = 21 :: 5 :: 122 :: 4 :: 126 :: 42 :: 180 :: 0 :: 16 :: 21 :: 5 :: 46 :: 104 :: 28 :: 27 :: 100 :: 104 :: 96 :: 54 :: 4 :: 132 :: 5 :: 1 :: 167 :: 255 :: 221 :: sxX12_worthOf_50 := aq_24 shX12_worthOf_0
theorem shX12_worthOf_50 : cX12_worthOf.data.toList.drop 50 = 21 :: 4 :: 172 :: sxX12_worthOf_53 := aq_26 shX12_worthOf_24
noncomputable def sxX12_worth_35 : List UInt8 := []
noncomputable def sxX12_worth_24 : List UInt8 := 28 :: 182 :: 1 :: 216 :: 167 :: 0 :: 6 :: 19 :: 1 :: 212 :: 172 :: sxX12_worth_35
theorem shX12_worth_0 : cX12_worth.data.toList.drop 0 = 27 :: 3 :: 17 :: 0 :: 200 :: 184 :: 0 :: 214 :: 153 :: 0 :: 23 :: 28 :: 3 :: 17 :: 3 :: 232 :: 184 :: 0 :: 214 :: 153 :: 0 :: 12 :: 42 :: 27 :: sxX12_worth_24 := rfl
theorem shX12_worth_24 : cX12_worth.data.toList.drop 24 = 28 :: 182 :: 1 :: 216 :: 167 :: 0 :: 6 :: 19 :: 1 :: 212 :: 172 :: sxX12_worth_35 := aq_24 shX12_worth_0
theorem dX12_worth_8 : decode cX12_worth 8 = .ok (.ifCond .eq 23, 3) := oc_153 8 (aq_8 shX12_worth_0) sgw_0_23
theorem dX12_worth_19 : decode cX12_worth 19 = .ok (.ifCond .eq 12, 3) := oc_153 19 (aq_19 shX12_worth_0) sgw_0_12
theorem dX12_worth_31 : decode cX12_worth 31 = .ok (.ldc_w 468, 3) := oc_19 31 (aq_7 shX12_worth_24) uw_1_212
theorem dX12_worth_34 : decode cX12_worth 34 = .ok (.ireturn, 1) := oc_172 34 (aq_10 shX12_worth_24)
noncomputable def sxX12_offer_92 : List UInt8 := []
noncomputable def sxX12_offer_72 : List UInt8 := 28 :: 4 :: 160 :: 0 :: 12 :: 42 :: 29 :: 27 :: 182 :: 1 :: 216 :: 167 :: 0 :: 8 :: 42 :: 29 :: 182 :: 1 :: 213 :: 172 :: sxX12_offer_92
noncomputable def sxX12_offer_48 : List UInt8 := 164 :: 0 :: 8 :: 21 :: 4 :: 167 :: 0 :: 4 :: 29 :: 62 :: 132 :: 4 :: 1 :: 167 :: 255 :: 222 :: 28 :: 154 :: 0 :: 7 :: 29 :: 167 :: 0 :: 22 :: sxX12_offer_72
noncomputable def sxX12_offer_24 : List UInt8 := 4 :: 54 :: 4 :: 21 :: 4 :: 17 :: 0 :: 200 :: 163 :: 0 :: 32 :: 42 :: 21 :: 4 :: 27 :: 182 :: 1 :: 216 :: 42 :: 29 :: 27 :: 182 :: 1 :: 216 :: sxX12_offer_48
theorem shX12_offer_0 : cX12_offer.data.toList.drop 0 = 27 :: 3 :: 17 :: 3 :: 232 :: 184 :: 0 :: 214 :: 153 :: 0 :: 12 :: 28 :: 3 :: 5 :: 184 :: 0 :: 214 :: 154 :: 0 :: 5 :: 2 :: 172 :: 3 :: 62 :: sxX12_offer_24 := rfl
theorem shX12_offer_24 : cX12_offer.data.toList.drop 24 = 4 :: 54 :: 4 :: 21 :: 4 :: 17 :: 0 :: 200 :: 163 :: 0 :: 32 :: 42 :: 21 :: 4 :: 27 :: 182 :: 1 :: 216 :: 42 :: 29 :: 27 :: 182 :: 1 :: 216 :: sxX12_offer_48 := aq_24 shX12_offer_0
theorem shX12_offer_48 : cX12_offer.data.toList.drop 48 = 164 :: 0 :: 8 :: 21 :: 4 :: 167 :: 0 :: 4 :: 29 :: 62 :: 132 :: 4 :: 1 :: 167 :: 255 :: 222 :: 28 :: 154 :: 0 :: 7 :: 29 :: 167 :: 0 :: 22 :: sxX12_offer_72 := aq_24 shX12_offer_24
theorem shX12_offer_72 : cX12_offer.data.toList.drop 72 = 28 :: 4 :: 160 :: 0 :: 12 :: 42 :: 29 :: 27 :: 182 :: 1 :: 216 :: 167 :: 0 :: 8 :: 42 :: 29 :: 182 :: 1 :: 213 :: 172 :: sxX12_offer_92 := aq_24 shX12_offer_48
theorem dX12_offer_8 : decode cX12_offer 8 = .ok (.ifCond .eq 12, 3) := oc_153 8 (aq_8 shX12_offer_0) sgw_0_12
theorem dX12_offer_17 : decode cX12_offer 17 = .ok (.ifCond .ne 5, 3) := oc_154 17 (aq_17 shX12_offer_0) sgw_0_5
theorem dX12_offer_20 : decode cX12_offer 20 = .ok (.iconst (-1), 1) := oc_2 20 (aq_20 shX12_offer_0)
theorem dX12_offer_21 : decode cX12_offer 21 = .ok (.ireturn, 1) := oc_172 21 (aq_21 shX12_offer_0)
theorem dX12_offer_57 : decode cX12_offer 57 = .ok (.istore_n 3, 1) := oc_62 57 (aq_9 shX12_offer_48)
theorem dX12_offer_58 : decode cX12_offer 58 = .ok (.iinc 4 1, 3) := oc_132 58 (aq_10 shX12_offer_48) ub_4 sgb_1
theorem dX12_offer_61 : decode cX12_offer 61 = .ok (.goto (-34), 3) := oc_167 61 (aq_13 shX12_offer_48) sgw_255_222
theorem dX12_offer_91 : decode cX12_offer 91 = .ok (.ireturn, 1) := oc_172 91 (aq_19 shX12_offer_72)
noncomputable def sxX12_thefts_32 : List UInt8 := []
noncomputable def sxX12_thefts_24 : List UInt8 := 180 :: 0 :: 189 :: 27 :: 28 :: 79 :: 4 :: 172 :: sxX12_thefts_32
theorem shX12_thefts_0 : cX12_thefts.data.toList.drop 0 = 27 :: 3 :: 16 :: 23 :: 184 :: 0 :: 214 :: 153 :: 0 :: 14 :: 28 :: 3 :: 17 :: 3 :: 232 :: 184 :: 0 :: 214 :: 154 :: 0 :: 5 :: 3 :: 172 :: 42 :: sxX12_thefts_24 := rfl
theorem shX12_thefts_24 : cX12_thefts.data.toList.drop 24 = 180 :: 0 :: 189 :: 27 :: 28 :: 79 :: 4 :: 172 :: sxX12_thefts_32 := aq_24 shX12_thefts_0
noncomputable def sxX12_saves_34 : List UInt8 := []
noncomputable def sxX12_saves_24 : List UInt8 := 96 :: 62 :: 132 :: 4 :: 1 :: 167 :: 255 :: 232 :: 29 :: 172 :: sxX12_saves_34
theorem shX12_saves_0 : cX12_saves.data.toList.drop 0 = 3 :: 62 :: 3 :: 54 :: 4 :: 21 :: 4 :: 28 :: 162 :: 0 :: 24 :: 29 :: 42 :: 180 :: 0 :: 189 :: 27 :: 21 :: 4 :: 96 :: 16 :: 24 :: 112 :: 46 :: sxX12_saves_24 := rfl
theorem shX12_saves_24 : cX12_saves.data.toList.drop 24 = 96 :: 62 :: 132 :: 4 :: 1 :: 167 :: 255 :: 232 :: 29 :: 172 :: sxX12_saves_34 := aq_24 shX12_saves_0
noncomputable def sxX12_lock_77 : List UInt8 := []
noncomputable def sxX12_lock_73 : List UInt8 := 182 :: 1 :: 219 :: 172 :: sxX12_lock_77
noncomputable def sxX12_lock_49 : List UInt8 := 21 :: 4 :: 167 :: 0 :: 4 :: 29 :: 62 :: 132 :: 4 :: 1 :: 167 :: 255 :: 223 :: 28 :: 154 :: 0 :: 7 :: 29 :: 167 :: 0 :: 9 :: 42 :: 29 :: 27 :: sxX12_lock_73
noncomputable def sxX12_lock_24 : List UInt8 := 54 :: 4 :: 21 :: 4 :: 16 :: 24 :: 162 :: 0 :: 32 :: 42 :: 21 :: 4 :: 27 :: 182 :: 1 :: 219 :: 42 :: 29 :: 27 :: 182 :: 1 :: 219 :: 164 :: 0 :: 8 :: sxX12_lock_49
theorem shX12_lock_0 : cX12_lock.data.toList.drop 0 = 27 :: 4 :: 16 :: 12 :: 184 :: 0 :: 214 :: 153 :: 0 :: 12 :: 28 :: 3 :: 4 :: 184 :: 0 :: 214 :: 154 :: 0 :: 5 :: 2 :: 172 :: 3 :: 62 :: 4 :: sxX12_lock_24 := rfl
theorem shX12_lock_24 : cX12_lock.data.toList.drop 24 = 54 :: 4 :: 21 :: 4 :: 16 :: 24 :: 162 :: 0 :: 32 :: 42 :: 21 :: 4 :: 27 :: 182 :: 1 :: 219 :: 42 :: 29 :: 27 :: 182 :: 1 :: 219 :: 164 :: 0 :: 8 :: sxX12_lock_49 := aq_24 shX12_lock_0
theorem shX12_lock_49 : cX12_lock.data.toList.drop 49 = 21 :: 4 :: 167 :: 0 :: 4 :: 29 :: 62 :: 132 :: 4 :: 1 :: 167 :: 255 :: 223 :: 28 :: 154 :: 0 :: 7 :: 29 :: 167 :: 0 :: 9 :: 42 :: 29 :: 27 :: sxX12_lock_73 := aq_25 shX12_lock_24
theorem shX12_lock_73 : cX12_lock.data.toList.drop 73 = 182 :: 1 :: 219 :: 172 :: sxX12_lock_77 := aq_24 shX12_lock_49
noncomputable def sxX12_sewer_68 : List UInt8 := []
noncomputable def sxX12_sewer_49 : List UInt8 := 28 :: 79 :: 42 :: 42 :: 180 :: 1 :: 222 :: 4 :: 96 :: 181 :: 1 :: 222 :: 42 :: 180 :: 1 :: 222 :: 4 :: 100 :: 172 :: sxX12_sewer_68
noncomputable def sxX12_sewer_24 : List UInt8 := 16 :: 10 :: 160 :: 0 :: 5 :: 2 :: 172 :: 42 :: 180 :: 0 :: 192 :: 42 :: 180 :: 1 :: 222 :: 27 :: 79 :: 42 :: 180 :: 0 :: 195 :: 42 :: 180 :: 1 :: 222 :: sxX12_sewer_49
theorem shX12_sewer_0 : cX12_sewer.data.toList.drop 0 = 27 :: 3 :: 16 :: 99 :: 184 :: 0 :: 214 :: 153 :: 0 :: 22 :: 28 :: 3 :: 16 :: 99 :: 184 :: 0 :: 214 :: 153 :: 0 :: 12 :: 42 :: 180 :: 1 :: 222 :: sxX12_sewer_24 := rfl
theorem shX12_sewer_24 : cX12_sewer.data.toList.drop 24 = 16 :: 10 :: 160 :: 0 :: 5 :: 2 :: 172 :: 42 :: 180 :: 0 :: 192 :: 42 :: 180 :: 1 :: 222 :: 27 :: 79 :: 42 :: 180 :: 0 :: 195 :: 42 :: 180 :: 1 :: 222 :: sxX12_sewer_49 := aq_24 shX12_sewer_0
theorem shX12_sewer_49 : cX12_sewer.data.toList.drop 49 = 28 :: 79 :: 42 :: 42 :: 180 :: 1 :: 222 :: 4 :: 96 :: 181 :: 1 :: 222 :: 42 :: 180 :: 1 :: 222 :: 4 :: 100 :: 172 :: sxX12_sewer_68 := aq_25 shX12_sewer_24
noncomputable def sxX12_blocked_35 : List UInt8 := []
noncomputable def sxX12_blocked_24 : List UInt8 := 46 :: 4 :: 96 :: 79 :: 42 :: 180 :: 0 :: 198 :: 27 :: 46 :: 172 :: sxX12_blocked_35
theorem shX12_blocked_0 : cX12_blocked.data.toList.drop 0 = 27 :: 155 :: 0 :: 11 :: 27 :: 42 :: 180 :: 1 :: 222 :: 161 :: 0 :: 5 :: 2 :: 172 :: 42 :: 180 :: 0 :: 198 :: 27 :: 42 :: 180 :: 0 :: 198 :: 27 :: sxX12_blocked_24 := rfl
theorem shX12_blocked_24 : cX12_blocked.data.toList.drop 24 = 46 :: 4 :: 96 :: 79 :: 42 :: 180 :: 0 :: 198 :: 27 :: 46 :: 172 :: sxX12_blocked_35 := aq_24 shX12_blocked_0
noncomputable def sxX12_beside_127 : List UInt8 := []
noncomputable def sxX12_beside_125 : List UInt8 := 29 :: 172 :: sxX12_beside_127
noncomputable def sxX12_beside_99 : List UInt8 := 184 :: 1 :: 104 :: 27 :: 163 :: 0 :: 10 :: 29 :: 4 :: 21 :: 4 :: 120 :: 128 :: 62 :: 132 :: 5 :: 1 :: 167 :: 255 :: 181 :: 132 :: 4 :: 1 :: 167 :: 255 :: 163 :: sxX12_beside_125
noncomputable def sxX12_beside_75 : List UInt8 := 21 :: 4 :: 46 :: 42 :: 180 :: 0 :: 13 :: 21 :: 4 :: 46 :: 42 :: 180 :: 0 :: 192 :: 21 :: 5 :: 46 :: 42 :: 180 :: 0 :: 195 :: 21 :: 5 :: 46 :: sxX12_beside_99
noncomputable def sxX12_beside_50 : List UInt8 := 42 :: 180 :: 0 :: 16 :: 21 :: 4 :: 46 :: 154 :: 0 :: 56 :: 42 :: 180 :: 0 :: 198 :: 21 :: 5 :: 46 :: 28 :: 161 :: 0 :: 45 :: 42 :: 180 :: 0 :: 7 :: sxX12_beside_75
noncomputable def sxX12_beside_24 : List UInt8 := 3 :: 62 :: 3 :: 54 :: 4 :: 21 :: 4 :: 42 :: 180 :: 0 :: 204 :: 162 :: 0 :: 90 :: 3 :: 54 :: 5 :: 21 :: 5 :: 42 :: 180 :: 1 :: 222 :: 162 :: 0 :: 72 :: sxX12_beside_50
theorem shX12_beside_0 : cX12_beside.data.toList.drop 0 = 27 :: 3 :: 17 :: 0 :: 198 :: 184 :: 0 :: 214 :: 153 :: 0 :: 14 :: 28 :: 4 :: 17 :: 3 :: 232 :: 184 :: 0 :: 214 :: 154 :: 0 :: 5 :: 2 :: 172 :: sxX12_beside_24 := rfl
theorem shX12_beside_24 : cX12_beside.data.toList.drop 24 = 3 :: 62 :: 3 :: 54 :: 4 :: 21 :: 4 :: 42 :: 180 :: 0 :: 204 :: 162 :: 0 :: 90 :: 3 :: 54 :: 5 :: 21 :: 5 :: 42 :: 180 :: 1 :: 222 :: 162 :: 0 :: 72 :: sxX12_beside_50 := aq_24 shX12_beside_0
theorem shX12_beside_50 : cX12_beside.data.toList.drop 50 = 42 :: 180 :: 0 :: 16 :: 21 :: 4 :: 46 :: 154 :: 0 :: 56 :: 42 :: 180 :: 0 :: 198 :: 21 :: 5 :: 46 :: 28 :: 161 :: 0 :: 45 :: 42 :: 180 :: 0 :: 7 :: sxX12_beside_75 := aq_26 shX12_beside_24
theorem shX12_beside_75 : cX12_beside.data.toList.drop 75 = 21 :: 4 :: 46 :: 42 :: 180 :: 0 :: 13 :: 21 :: 4 :: 46 :: 42 :: 180 :: 0 :: 192 :: 21 :: 5 :: 46 :: 42 :: 180 :: 0 :: 195 :: 21 :: 5 :: 46 :: sxX12_beside_99 := aq_25 shX12_beside_50
theorem shX12_beside_99 : cX12_beside.data.toList.drop 99 = 184 :: 1 :: 104 :: 27 :: 163 :: 0 :: 10 :: 29 :: 4 :: 21 :: 4 :: 120 :: 128 :: 62 :: 132 :: 5 :: 1 :: 167 :: 255 :: 181 :: 132 :: 4 :: 1 :: 167 :: 255 :: 163 :: sxX12_beside_125 := aq_24 shX12_beside_75
theorem shX12_beside_125 : cX12_beside.data.toList.drop 125 = 29 :: 172 :: sxX12_beside_127 := aq_26 shX12_beside_99
theorem dX12_beside_8 : decode cX12_beside 8 = .ok (.ifCond .eq 14, 3) := oc_153 8 (aq_8 shX12_beside_0) sgw_0_14
theorem dX12_beside_19 : decode cX12_beside 19 = .ok (.ifCond .ne 5, 3) := oc_154 19 (aq_19 shX12_beside_0) sgw_0_5
theorem dX12_beside_22 : decode cX12_beside 22 = .ok (.iconst (-1), 1) := oc_2 22 (aq_22 shX12_beside_0)
theorem dX12_beside_23 : decode cX12_beside 23 = .ok (.ireturn, 1) := oc_172 23 (aq_23 shX12_beside_0)
theorem dX12_beside_113 : decode cX12_beside 113 = .ok (.iinc 5 1, 3) := oc_132 113 (aq_14 shX12_beside_99) ub_5 sgb_1
theorem dX12_beside_116 : decode cX12_beside 116 = .ok (.goto (-75), 3) := oc_167 116 (aq_17 shX12_beside_99) sgw_255_181
noncomputable def sxX12_degrees_29 : List UInt8 := []
noncomputable def sxX12_degrees_24 : List UInt8 := 27 :: 28 :: 79 :: 4 :: 172 :: sxX12_degrees_29
theorem shX12_degrees_0 : cX12_degrees.data.toList.drop 0 = 27 :: 184 :: 1 :: 85 :: 153 :: 0 :: 14 :: 28 :: 16 :: 216 :: 16 :: 40 :: 184 :: 0 :: 214 :: 154 :: 0 :: 5 :: 3 :: 172 :: 42 :: 180 :: 0 :: 201 :: sxX12_degrees_24 := rfl
theorem shX12_degrees_24 : cX12_degrees.data.toList.drop 24 = 27 :: 28 :: 79 :: 4 :: 172 :: sxX12_degrees_29 := aq_24 shX12_degrees_0
noncomputable def sxX12_late_78 : List UInt8 := []
noncomputable def sxX12_late_73 : List UInt8 := 167 :: 255 :: 209 :: 29 :: 172 :: sxX12_late_78
noncomputable def sxX12_late_48 : List UInt8 := 180 :: 0 :: 201 :: 42 :: 180 :: 0 :: 28 :: 21 :: 4 :: 46 :: 46 :: 28 :: 162 :: 0 :: 7 :: 4 :: 167 :: 0 :: 4 :: 3 :: 96 :: 62 :: 132 :: 4 :: 1 :: sxX12_late_73
noncomputable def sxX12_late_24 : List UInt8 := 54 :: 4 :: 21 :: 4 :: 42 :: 180 :: 0 :: 208 :: 162 :: 0 :: 44 :: 29 :: 42 :: 180 :: 0 :: 25 :: 21 :: 4 :: 46 :: 27 :: 160 :: 0 :: 23 :: 42 :: sxX12_late_48
theorem shX12_late_0 : cX12_late.data.toList.drop 0 = 42 :: 27 :: 182 :: 0 :: 218 :: 153 :: 0 :: 14 :: 28 :: 16 :: 216 :: 16 :: 41 :: 184 :: 0 :: 214 :: 154 :: 0 :: 5 :: 2 :: 172 :: 3 :: 62 :: 3 :: sxX12_late_24 := rfl
theorem shX12_late_24 : cX12_late.data.toList.drop 24 = 54 :: 4 :: 21 :: 4 :: 42 :: 180 :: 0 :: 208 :: 162 :: 0 :: 44 :: 29 :: 42 :: 180 :: 0 :: 25 :: 21 :: 4 :: 46 :: 27 :: 160 :: 0 :: 23 :: 42 :: sxX12_late_48 := aq_24 shX12_late_0
theorem shX12_late_48 : cX12_late.data.toList.drop 48 = 180 :: 0 :: 201 :: 42 :: 180 :: 0 :: 28 :: 21 :: 4 :: 46 :: 46 :: 28 :: 162 :: 0 :: 7 :: 4 :: 167 :: 0 :: 4 :: 3 :: 96 :: 62 :: 132 :: 4 :: 1 :: sxX12_late_73 := aq_24 shX12_late_24
theorem shX12_late_73 : cX12_late.data.toList.drop 73 = 167 :: 255 :: 209 :: 29 :: 172 :: sxX12_late_78 := aq_25 shX12_late_48
theorem dX12_late_5 : decode cX12_late 5 = .ok (.ifCond .eq 14, 3) := oc_153 5 (aq_5 shX12_late_0) sgw_0_14
theorem dX12_late_16 : decode cX12_late 16 = .ok (.ifCond .ne 5, 3) := oc_154 16 (aq_16 shX12_late_0) sgw_0_5
theorem dX12_late_19 : decode cX12_late 19 = .ok (.iconst (-1), 1) := oc_2 19 (aq_19 shX12_late_0)
theorem dX12_late_20 : decode cX12_late 20 = .ok (.ireturn, 1) := oc_172 20 (aq_20 shX12_late_0)
theorem dX12_late_67 : decode cX12_late 67 = .ok (.iconst 0, 1) := oc_3 67 (aq_19 shX12_late_48)
theorem dX12_late_68 : decode cX12_late 68 = .ok (.iadd, 1) := oc_96 68 (aq_20 shX12_late_48)
theorem dX12_late_69 : decode cX12_late 69 = .ok (.istore_n 3, 1) := oc_62 69 (aq_21 shX12_late_48)
theorem dX12_late_70 : decode cX12_late 70 = .ok (.iinc 4 1, 3) := oc_132 70 (aq_22 shX12_late_48) ub_4 sgb_1
theorem dX12_late_73 : decode cX12_late 73 = .ok (.goto (-47), 3) := oc_167 73 shX12_late_73 sgw_255_209
noncomputable def sxX12_first_50 : List UInt8 := []
noncomputable def sxX12_first_26 : List UInt8 := 163 :: 0 :: 21 :: 42 :: 180 :: 0 :: 201 :: 29 :: 46 :: 28 :: 161 :: 0 :: 5 :: 29 :: 172 :: 132 :: 3 :: 1 :: 167 :: 255 :: 234 :: 16 :: 254 :: 172 :: sxX12_first_50
theorem shX12_first_0 : cX12_first.data.toList.drop 0 = 27 :: 184 :: 1 :: 85 :: 153 :: 0 :: 14 :: 28 :: 16 :: 216 :: 16 :: 41 :: 184 :: 0 :: 214 :: 154 :: 0 :: 5 :: 2 :: 172 :: 27 :: 62 :: 29 :: 17 :: 1 :: 143 :: sxX12_first_26 := rfl
theorem shX12_first_26 : cX12_first.data.toList.drop 26 = 163 :: 0 :: 21 :: 42 :: 180 :: 0 :: 201 :: 29 :: 46 :: 28 :: 161 :: 0 :: 5 :: 29 :: 172 :: 132 :: 3 :: 1 :: 167 :: 255 :: 234 :: 16 :: 254 :: 172 :: sxX12_first_50 := aq_26 shX12_first_0
theorem dX12_first_4 : decode cX12_first 4 = .ok (.ifCond .eq 14, 3) := oc_153 4 (aq_4 shX12_first_0) sgw_0_14
theorem dX12_first_15 : decode cX12_first 15 = .ok (.ifCond .ne 5, 3) := oc_154 15 (aq_15 shX12_first_0) sgw_0_5
theorem dX12_first_18 : decode cX12_first 18 = .ok (.iconst (-1), 1) := oc_2 18 (aq_18 shX12_first_0)
theorem dX12_first_19 : decode cX12_first 19 = .ok (.ireturn, 1) := oc_172 19 (aq_19 shX12_first_0)
noncomputable def sxX12_tapeNumber_39 : List UInt8 := []
noncomputable def sxX12_tapeNumber_24 : List UInt8 := 51 :: 17 :: 0 :: 255 :: 126 :: 128 :: 61 :: 132 :: 3 :: 1 :: 167 :: 255 :: 228 :: 28 :: 172 :: sxX12_tapeNumber_39
theorem shX12_tapeNumber_0 : cX12_tapeNumber.data.toList.drop 0 = 3 :: 61 :: 7 :: 27 :: 104 :: 62 :: 29 :: 7 :: 27 :: 104 :: 7 :: 96 :: 162 :: 0 :: 25 :: 28 :: 16 :: 8 :: 120 :: 42 :: 180 :: 0 :: 52 :: 29 :: sxX12_tapeNumber_24 := rfl
theorem shX12_tapeNumber_24 : cX12_tapeNumber.data.toList.drop 24 = 51 :: 17 :: 0 :: 255 :: 126 :: 128 :: 61 :: 132 :: 3 :: 1 :: 167 :: 255 :: 228 :: 28 :: 172 :: sxX12_tapeNumber_39 := aq_24 shX12_tapeNumber_0
noncomputable def sxX12_check_164 : List UInt8 := []
noncomputable def sxX12_check_145 : List UInt8 := 132 :: 4 :: 1 :: 167 :: 255 :: 144 :: 29 :: 7 :: 28 :: 104 :: 162 :: 0 :: 7 :: 29 :: 167 :: 0 :: 4 :: 2 :: 172 :: sxX12_check_164
noncomputable def sxX12_check_121 : List UInt8 := 29 :: 6 :: 96 :: 182 :: 1 :: 225 :: 42 :: 180 :: 0 :: 43 :: 21 :: 4 :: 46 :: 159 :: 0 :: 7 :: 29 :: 6 :: 96 :: 172 :: 29 :: 7 :: 96 :: 62 :: sxX12_check_145
noncomputable def sxX12_check_97 : List UInt8 := 96 :: 172 :: 42 :: 29 :: 5 :: 96 :: 182 :: 1 :: 225 :: 42 :: 180 :: 0 :: 31 :: 21 :: 4 :: 46 :: 159 :: 0 :: 7 :: 29 :: 5 :: 96 :: 172 :: 42 :: sxX12_check_121
noncomputable def sxX12_check_73 : List UInt8 := 159 :: 0 :: 5 :: 29 :: 172 :: 42 :: 29 :: 4 :: 96 :: 182 :: 1 :: 225 :: 42 :: 180 :: 0 :: 28 :: 21 :: 4 :: 46 :: 159 :: 0 :: 7 :: 29 :: 4 :: sxX12_check_97
noncomputable def sxX12_check_49 : List UInt8 := 21 :: 4 :: 46 :: 27 :: 159 :: 0 :: 6 :: 167 :: 0 :: 89 :: 29 :: 7 :: 28 :: 104 :: 159 :: 0 :: 13 :: 42 :: 29 :: 182 :: 1 :: 225 :: 21 :: 4 :: sxX12_check_73
noncomputable def sxX12_check_25 : List UInt8 := 172 :: 42 :: 3 :: 181 :: 0 :: 226 :: 3 :: 62 :: 3 :: 54 :: 4 :: 21 :: 4 :: 42 :: 180 :: 0 :: 208 :: 162 :: 0 :: 109 :: 42 :: 180 :: 0 :: 25 :: sxX12_check_49
theorem shX12_check_0 : cX12_check.data.toList.drop 0 = 42 :: 27 :: 182 :: 0 :: 218 :: 153 :: 0 :: 18 :: 28 :: 155 :: 0 :: 14 :: 28 :: 42 :: 180 :: 0 :: 226 :: 16 :: 16 :: 108 :: 164 :: 0 :: 6 :: 16 :: 254 :: sxX12_check_25 := rfl
theorem shX12_check_25 : cX12_check.data.toList.drop 25 = 172 :: 42 :: 3 :: 181 :: 0 :: 226 :: 3 :: 62 :: 3 :: 54 :: 4 :: 21 :: 4 :: 42 :: 180 :: 0 :: 208 :: 162 :: 0 :: 109 :: 42 :: 180 :: 0 :: 25 :: sxX12_check_49 := aq_25 shX12_check_0
theorem shX12_check_49 : cX12_check.data.toList.drop 49 = 21 :: 4 :: 46 :: 27 :: 159 :: 0 :: 6 :: 167 :: 0 :: 89 :: 29 :: 7 :: 28 :: 104 :: 159 :: 0 :: 13 :: 42 :: 29 :: 182 :: 1 :: 225 :: 21 :: 4 :: sxX12_check_73 := aq_24 shX12_check_25
theorem shX12_check_73 : cX12_check.data.toList.drop 73 = 159 :: 0 :: 5 :: 29 :: 172 :: 42 :: 29 :: 4 :: 96 :: 182 :: 1 :: 225 :: 42 :: 180 :: 0 :: 28 :: 21 :: 4 :: 46 :: 159 :: 0 :: 7 :: 29 :: 4 :: sxX12_check_97 := aq_24 shX12_check_49
theorem shX12_check_97 : cX12_check.data.toList.drop 97 = 96 :: 172 :: 42 :: 29 :: 5 :: 96 :: 182 :: 1 :: 225 :: 42 :: 180 :: 0 :: 31 :: 21 :: 4 :: 46 :: 159 :: 0 :: 7 :: 29 :: 5 :: 96 :: 172 :: 42 :: sxX12_check_121 := aq_24 shX12_check_73
theorem shX12_check_121 : cX12_check.data.toList.drop 121 = 29 :: 6 :: 96 :: 182 :: 1 :: 225 :: 42 :: 180 :: 0 :: 43 :: 21 :: 4 :: 46 :: 159 :: 0 :: 7 :: 29 :: 6 :: 96 :: 172 :: 29 :: 7 :: 96 :: 62 :: sxX12_check_145 := aq_24 shX12_check_97
theorem shX12_check_145 : cX12_check.data.toList.drop 145 = 132 :: 4 :: 1 :: 167 :: 255 :: 144 :: 29 :: 7 :: 28 :: 104 :: 162 :: 0 :: 7 :: 29 :: 167 :: 0 :: 4 :: 2 :: 172 :: sxX12_check_164 := aq_24 shX12_check_121
theorem dX12_check_0 : decode cX12_check 0 = .ok (.aload_n 0, 1) := oc_42 0 shX12_check_0
theorem dX12_check_1 : decode cX12_check 1 = .ok (.iload_n 1, 1) := oc_27 1 (aq_1 shX12_check_0)
theorem dX12_check_2 : decode cX12_check 2 = .ok (.invokevirtual 218, 3) := oc_182 2 (aq_2 shX12_check_0) uw_0_218
theorem dX12_check_5 : decode cX12_check 5 = .ok (.ifCond .eq 18, 3) := oc_153 5 (aq_5 shX12_check_0) sgw_0_18
theorem dX12_check_8 : decode cX12_check 8 = .ok (.iload_n 2, 1) := oc_28 8 (aq_8 shX12_check_0)
theorem dX12_check_9 : decode cX12_check 9 = .ok (.ifCond .lt 14, 3) := oc_155 9 (aq_9 shX12_check_0) sgw_0_14
theorem dX12_check_12 : decode cX12_check 12 = .ok (.iload_n 2, 1) := oc_28 12 (aq_12 shX12_check_0)
theorem dX12_check_13 : decode cX12_check 13 = .ok (.aload_n 0, 1) := oc_42 13 (aq_13 shX12_check_0)
theorem dX12_check_14 : decode cX12_check 14 = .ok (.getfield 226, 3) := oc_180 14 (aq_14 shX12_check_0) uw_0_226
theorem dX12_check_17 : decode cX12_check 17 = .ok (.bipush 16, 2) := oc_16 17 (aq_17 shX12_check_0) sgb_16
theorem dX12_check_19 : decode cX12_check 19 = .ok (.idiv, 1) := oc_108 19 (aq_19 shX12_check_0)
theorem dX12_check_20 : decode cX12_check 20 = .ok (.if_icmp .le 6, 3) := oc_164 20 (aq_20 shX12_check_0) sgw_0_6
theorem dX12_check_23 : decode cX12_check 23 = .ok (.bipush (-2), 2) := oc_16 23 (aq_23 shX12_check_0) sgb_254
theorem dX12_check_25 : decode cX12_check 25 = .ok (.ireturn, 1) := oc_172 25 shX12_check_25
theorem dX12_check_26 : decode cX12_check 26 = .ok (.aload_n 0, 1) := oc_42 26 (aq_1 shX12_check_25)
theorem dX12_check_27 : decode cX12_check 27 = .ok (.iconst 0, 1) := oc_3 27 (aq_2 shX12_check_25)
theorem dX12_check_28 : decode cX12_check 28 = .ok (.putfield 226, 3) := oc_181 28 (aq_3 shX12_check_25) uw_0_226
theorem dX12_check_31 : decode cX12_check 31 = .ok (.iconst 0, 1) := oc_3 31 (aq_6 shX12_check_25)
theorem dX12_check_32 : decode cX12_check 32 = .ok (.istore_n 3, 1) := oc_62 32 (aq_7 shX12_check_25)
theorem dX12_check_33 : decode cX12_check 33 = .ok (.iconst 0, 1) := oc_3 33 (aq_8 shX12_check_25)
theorem dX12_check_34 : decode cX12_check 34 = .ok (.istore 4, 2) := oc_54 34 (aq_9 shX12_check_25) ub_4
theorem dX12_check_36 : decode cX12_check 36 = .ok (.iload 4, 2) := oc_21 36 (aq_11 shX12_check_25) ub_4
theorem dX12_check_38 : decode cX12_check 38 = .ok (.aload_n 0, 1) := oc_42 38 (aq_13 shX12_check_25)
theorem dX12_check_39 : decode cX12_check 39 = .ok (.getfield 208, 3) := oc_180 39 (aq_14 shX12_check_25) uw_0_208
theorem dX12_check_42 : decode cX12_check 42 = .ok (.if_icmp .ge 109, 3) := oc_162 42 (aq_17 shX12_check_25) sgw_0_109
theorem dX12_check_45 : decode cX12_check 45 = .ok (.aload_n 0, 1) := oc_42 45 (aq_20 shX12_check_25)
theorem dX12_check_46 : decode cX12_check 46 = .ok (.getfield 25, 3) := oc_180 46 (aq_21 shX12_check_25) uw_0_25
theorem dX12_check_49 : decode cX12_check 49 = .ok (.iload 4, 2) := oc_21 49 shX12_check_49 ub_4
theorem dX12_check_51 : decode cX12_check 51 = .ok (.iaload, 1) := oc_46 51 (aq_2 shX12_check_49)
theorem dX12_check_52 : decode cX12_check 52 = .ok (.iload_n 1, 1) := oc_27 52 (aq_3 shX12_check_49)
theorem dX12_check_53 : decode cX12_check 53 = .ok (.if_icmp .eq 6, 3) := oc_159 53 (aq_4 shX12_check_49) sgw_0_6
theorem dX12_check_56 : decode cX12_check 56 = .ok (.goto 89, 3) := oc_167 56 (aq_7 shX12_check_49) sgw_0_89
theorem dX12_check_59 : decode cX12_check 59 = .ok (.iload_n 3, 1) := oc_29 59 (aq_10 shX12_check_49)
theorem dX12_check_60 : decode cX12_check 60 = .ok (.iconst 4, 1) := oc_7 60 (aq_11 shX12_check_49)
theorem dX12_check_61 : decode cX12_check 61 = .ok (.iload_n 2, 1) := oc_28 61 (aq_12 shX12_check_49)
theorem dX12_check_62 : decode cX12_check 62 = .ok (.imul, 1) := oc_104 62 (aq_13 shX12_check_49)
theorem dX12_check_63 : decode cX12_check 63 = .ok (.if_icmp .eq 13, 3) := oc_159 63 (aq_14 shX12_check_49) sgw_0_13
theorem dX12_check_66 : decode cX12_check 66 = .ok (.aload_n 0, 1) := oc_42 66 (aq_17 shX12_check_49)
theorem dX12_check_67 : decode cX12_check 67 = .ok (.iload_n 3, 1) := oc_29 67 (aq_18 shX12_check_49)
theorem dX12_check_68 : decode cX12_check 68 = .ok (.invokevirtual 481, 3) := oc_182 68 (aq_19 shX12_check_49) uw_1_225
theorem dX12_check_71 : decode cX12_check 71 = .ok (.iload 4, 2) := oc_21 71 (aq_22 shX12_check_49) ub_4
theorem dX12_check_73 : decode cX12_check 73 = .ok (.if_icmp .eq 5, 3) := oc_159 73 shX12_check_73 sgw_0_5
theorem dX12_check_76 : decode cX12_check 76 = .ok (.iload_n 3, 1) := oc_29 76 (aq_3 shX12_check_73)
theorem dX12_check_77 : decode cX12_check 77 = .ok (.ireturn, 1) := oc_172 77 (aq_4 shX12_check_73)
theorem dX12_check_78 : decode cX12_check 78 = .ok (.aload_n 0, 1) := oc_42 78 (aq_5 shX12_check_73)
theorem dX12_check_79 : decode cX12_check 79 = .ok (.iload_n 3, 1) := oc_29 79 (aq_6 shX12_check_73)
theorem dX12_check_80 : decode cX12_check 80 = .ok (.iconst 1, 1) := oc_4 80 (aq_7 shX12_check_73)
theorem dX12_check_81 : decode cX12_check 81 = .ok (.iadd, 1) := oc_96 81 (aq_8 shX12_check_73)
theorem dX12_check_82 : decode cX12_check 82 = .ok (.invokevirtual 481, 3) := oc_182 82 (aq_9 shX12_check_73) uw_1_225
theorem dX12_check_85 : decode cX12_check 85 = .ok (.aload_n 0, 1) := oc_42 85 (aq_12 shX12_check_73)
theorem dX12_check_86 : decode cX12_check 86 = .ok (.getfield 28, 3) := oc_180 86 (aq_13 shX12_check_73) uw_0_28
theorem dX12_check_89 : decode cX12_check 89 = .ok (.iload 4, 2) := oc_21 89 (aq_16 shX12_check_73) ub_4
theorem dX12_check_91 : decode cX12_check 91 = .ok (.iaload, 1) := oc_46 91 (aq_18 shX12_check_73)
theorem dX12_check_92 : decode cX12_check 92 = .ok (.if_icmp .eq 7, 3) := oc_159 92 (aq_19 shX12_check_73) sgw_0_7
theorem dX12_check_95 : decode cX12_check 95 = .ok (.iload_n 3, 1) := oc_29 95 (aq_22 shX12_check_73)
theorem dX12_check_96 : decode cX12_check 96 = .ok (.iconst 1, 1) := oc_4 96 (aq_23 shX12_check_73)
theorem dX12_check_97 : decode cX12_check 97 = .ok (.iadd, 1) := oc_96 97 shX12_check_97
theorem dX12_check_98 : decode cX12_check 98 = .ok (.ireturn, 1) := oc_172 98 (aq_1 shX12_check_97)
theorem dX12_check_99 : decode cX12_check 99 = .ok (.aload_n 0, 1) := oc_42 99 (aq_2 shX12_check_97)
theorem dX12_check_100 : decode cX12_check 100 = .ok (.iload_n 3, 1) := oc_29 100 (aq_3 shX12_check_97)
theorem dX12_check_101 : decode cX12_check 101 = .ok (.iconst 2, 1) := oc_5 101 (aq_4 shX12_check_97)
theorem dX12_check_102 : decode cX12_check 102 = .ok (.iadd, 1) := oc_96 102 (aq_5 shX12_check_97)
theorem dX12_check_103 : decode cX12_check 103 = .ok (.invokevirtual 481, 3) := oc_182 103 (aq_6 shX12_check_97) uw_1_225
theorem dX12_check_106 : decode cX12_check 106 = .ok (.aload_n 0, 1) := oc_42 106 (aq_9 shX12_check_97)
theorem dX12_check_107 : decode cX12_check 107 = .ok (.getfield 31, 3) := oc_180 107 (aq_10 shX12_check_97) uw_0_31
theorem dX12_check_110 : decode cX12_check 110 = .ok (.iload 4, 2) := oc_21 110 (aq_13 shX12_check_97) ub_4
theorem dX12_check_112 : decode cX12_check 112 = .ok (.iaload, 1) := oc_46 112 (aq_15 shX12_check_97)
theorem dX12_check_113 : decode cX12_check 113 = .ok (.if_icmp .eq 7, 3) := oc_159 113 (aq_16 shX12_check_97) sgw_0_7
theorem dX12_check_116 : decode cX12_check 116 = .ok (.iload_n 3, 1) := oc_29 116 (aq_19 shX12_check_97)
theorem dX12_check_117 : decode cX12_check 117 = .ok (.iconst 2, 1) := oc_5 117 (aq_20 shX12_check_97)
theorem dX12_check_118 : decode cX12_check 118 = .ok (.iadd, 1) := oc_96 118 (aq_21 shX12_check_97)
theorem dX12_check_119 : decode cX12_check 119 = .ok (.ireturn, 1) := oc_172 119 (aq_22 shX12_check_97)
theorem dX12_check_120 : decode cX12_check 120 = .ok (.aload_n 0, 1) := oc_42 120 (aq_23 shX12_check_97)
theorem dX12_check_121 : decode cX12_check 121 = .ok (.iload_n 3, 1) := oc_29 121 shX12_check_121
theorem dX12_check_122 : decode cX12_check 122 = .ok (.iconst 3, 1) := oc_6 122 (aq_1 shX12_check_121)
theorem dX12_check_123 : decode cX12_check 123 = .ok (.iadd, 1) := oc_96 123 (aq_2 shX12_check_121)
theorem dX12_check_124 : decode cX12_check 124 = .ok (.invokevirtual 481, 3) := oc_182 124 (aq_3 shX12_check_121) uw_1_225
theorem dX12_check_127 : decode cX12_check 127 = .ok (.aload_n 0, 1) := oc_42 127 (aq_6 shX12_check_121)
theorem dX12_check_128 : decode cX12_check 128 = .ok (.getfield 43, 3) := oc_180 128 (aq_7 shX12_check_121) uw_0_43
theorem dX12_check_131 : decode cX12_check 131 = .ok (.iload 4, 2) := oc_21 131 (aq_10 shX12_check_121) ub_4
theorem dX12_check_133 : decode cX12_check 133 = .ok (.iaload, 1) := oc_46 133 (aq_12 shX12_check_121)
theorem dX12_check_134 : decode cX12_check 134 = .ok (.if_icmp .eq 7, 3) := oc_159 134 (aq_13 shX12_check_121) sgw_0_7
theorem dX12_check_137 : decode cX12_check 137 = .ok (.iload_n 3, 1) := oc_29 137 (aq_16 shX12_check_121)
theorem dX12_check_138 : decode cX12_check 138 = .ok (.iconst 3, 1) := oc_6 138 (aq_17 shX12_check_121)
theorem dX12_check_139 : decode cX12_check 139 = .ok (.iadd, 1) := oc_96 139 (aq_18 shX12_check_121)
theorem dX12_check_140 : decode cX12_check 140 = .ok (.ireturn, 1) := oc_172 140 (aq_19 shX12_check_121)
theorem dX12_check_141 : decode cX12_check 141 = .ok (.iload_n 3, 1) := oc_29 141 (aq_20 shX12_check_121)
theorem dX12_check_142 : decode cX12_check 142 = .ok (.iconst 4, 1) := oc_7 142 (aq_21 shX12_check_121)
theorem dX12_check_143 : decode cX12_check 143 = .ok (.iadd, 1) := oc_96 143 (aq_22 shX12_check_121)
theorem dX12_check_144 : decode cX12_check 144 = .ok (.istore_n 3, 1) := oc_62 144 (aq_23 shX12_check_121)
theorem dX12_check_145 : decode cX12_check 145 = .ok (.iinc 4 1, 3) := oc_132 145 shX12_check_145 ub_4 sgb_1
theorem dX12_check_148 : decode cX12_check 148 = .ok (.goto (-112), 3) := oc_167 148 (aq_3 shX12_check_145) sgw_255_144
theorem dX12_check_151 : decode cX12_check 151 = .ok (.iload_n 3, 1) := oc_29 151 (aq_6 shX12_check_145)
theorem dX12_check_152 : decode cX12_check 152 = .ok (.iconst 4, 1) := oc_7 152 (aq_7 shX12_check_145)
theorem dX12_check_153 : decode cX12_check 153 = .ok (.iload_n 2, 1) := oc_28 153 (aq_8 shX12_check_145)
theorem dX12_check_154 : decode cX12_check 154 = .ok (.imul, 1) := oc_104 154 (aq_9 shX12_check_145)
theorem dX12_check_155 : decode cX12_check 155 = .ok (.if_icmp .ge 7, 3) := oc_162 155 (aq_10 shX12_check_145) sgw_0_7
theorem dX12_check_158 : decode cX12_check 158 = .ok (.iload_n 3, 1) := oc_29 158 (aq_13 shX12_check_145)
theorem dX12_check_159 : decode cX12_check 159 = .ok (.goto 4, 3) := oc_167 159 (aq_14 shX12_check_145) sgw_0_4
theorem dX12_check_162 : decode cX12_check 162 = .ok (.iconst (-1), 1) := oc_2 162 (aq_17 shX12_check_145)
theorem dX12_check_163 : decode cX12_check 163 = .ok (.ireturn, 1) := oc_172 163 (aq_18 shX12_check_145)
noncomputable def sxX12_count_243 : List UInt8 := []
noncomputable def sxX12_count_233 : List UInt8 := 27 :: 16 :: 50 :: 100 :: 46 :: 167 :: 0 :: 4 :: 2 :: 172 :: sxX12_count_243
noncomputable def sxX12_count_207 : List UInt8 := 27 :: 16 :: 40 :: 100 :: 46 :: 172 :: 27 :: 16 :: 50 :: 16 :: 49 :: 42 :: 180 :: 1 :: 191 :: 96 :: 184 :: 0 :: 214 :: 153 :: 0 :: 15 :: 42 :: 180 :: 0 :: 144 :: sxX12_count_233
noncomputable def sxX12_count_181 : List UInt8 := 27 :: 16 :: 30 :: 100 :: 46 :: 172 :: 27 :: 16 :: 40 :: 16 :: 39 :: 42 :: 180 :: 1 :: 179 :: 96 :: 184 :: 0 :: 214 :: 153 :: 0 :: 13 :: 42 :: 180 :: 0 :: 141 :: sxX12_count_207
noncomputable def sxX12_count_155 : List UInt8 := 27 :: 16 :: 20 :: 100 :: 46 :: 172 :: 27 :: 16 :: 30 :: 16 :: 29 :: 42 :: 180 :: 0 :: 204 :: 96 :: 184 :: 0 :: 214 :: 153 :: 0 :: 13 :: 42 :: 180 :: 0 :: 95 :: sxX12_count_181
noncomputable def sxX12_count_129 : List UInt8 := 27 :: 16 :: 10 :: 100 :: 46 :: 172 :: 27 :: 16 :: 20 :: 16 :: 19 :: 42 :: 180 :: 0 :: 204 :: 96 :: 184 :: 0 :: 214 :: 153 :: 0 :: 13 :: 42 :: 180 :: 0 :: 22 :: sxX12_count_155
noncomputable def sxX12_count_104 : List UInt8 := 42 :: 180 :: 1 :: 151 :: 172 :: 27 :: 16 :: 10 :: 16 :: 9 :: 42 :: 180 :: 0 :: 204 :: 96 :: 184 :: 0 :: 214 :: 153 :: 0 :: 13 :: 42 :: 180 :: 0 :: 74 :: sxX12_count_129
noncomputable def sxX12_count_80 : List UInt8 := 16 :: 10 :: 46 :: 172 :: 42 :: 180 :: 1 :: 179 :: 172 :: 42 :: 180 :: 1 :: 191 :: 172 :: 42 :: 180 :: 1 :: 222 :: 172 :: 42 :: 180 :: 1 :: 130 :: 172 :: sxX12_count_104
noncomputable def sxX12_count_56 : List UInt8 := 42 :: 180 :: 0 :: 211 :: 172 :: 42 :: 180 :: 0 :: 204 :: 172 :: 42 :: 180 :: 0 :: 208 :: 172 :: 42 :: 180 :: 0 :: 226 :: 172 :: 42 :: 180 :: 0 :: 74 :: sxX12_count_80
theorem shX12_count_0 : cX12_count.data.toList.drop 0 = 27 :: 170 :: 0 :: 0 :: 0 :: 0 :: 0 :: 108 :: 0 :: 0 :: 0 :: 0 :: 0 :: 0 :: 0 :: 9 :: 0 :: 0 :: 0 :: 55 :: 0 :: 0 :: 0 :: 60 :: 0 :: 0 :: 0 :: 65 :: 0 :: 0 :: 0 :: 70 :: 0 :: 0 :: 0 :: 75 :: 0 :: 0 :: 0 :: 83 :: 0 :: 0 :: 0 :: 88 :: 0 :: 0 :: 0 :: 93 :: 0 :: 0 :: 0 :: 98 :: 0 :: 0 :: 0 :: 103 :: sxX12_count_56 := rfl
theorem shX12_count_56 : cX12_count.data.toList.drop 56 = 42 :: 180 :: 0 :: 211 :: 172 :: 42 :: 180 :: 0 :: 204 :: 172 :: 42 :: 180 :: 0 :: 208 :: 172 :: 42 :: 180 :: 0 :: 226 :: 172 :: 42 :: 180 :: 0 :: 74 :: sxX12_count_80 := dSn 56 shX12_count_0
theorem shX12_count_80 : cX12_count.data.toList.drop 80 = 16 :: 10 :: 46 :: 172 :: 42 :: 180 :: 1 :: 179 :: 172 :: 42 :: 180 :: 1 :: 191 :: 172 :: 42 :: 180 :: 1 :: 222 :: 172 :: 42 :: 180 :: 1 :: 130 :: 172 :: sxX12_count_104 := aq_24 shX12_count_56
theorem shX12_count_104 : cX12_count.data.toList.drop 104 = 42 :: 180 :: 1 :: 151 :: 172 :: 27 :: 16 :: 10 :: 16 :: 9 :: 42 :: 180 :: 0 :: 204 :: 96 :: 184 :: 0 :: 214 :: 153 :: 0 :: 13 :: 42 :: 180 :: 0 :: 74 :: sxX12_count_129 := aq_24 shX12_count_80
theorem shX12_count_129 : cX12_count.data.toList.drop 129 = 27 :: 16 :: 10 :: 100 :: 46 :: 172 :: 27 :: 16 :: 20 :: 16 :: 19 :: 42 :: 180 :: 0 :: 204 :: 96 :: 184 :: 0 :: 214 :: 153 :: 0 :: 13 :: 42 :: 180 :: 0 :: 22 :: sxX12_count_155 := aq_25 shX12_count_104
theorem shX12_count_155 : cX12_count.data.toList.drop 155 = 27 :: 16 :: 20 :: 100 :: 46 :: 172 :: 27 :: 16 :: 30 :: 16 :: 29 :: 42 :: 180 :: 0 :: 204 :: 96 :: 184 :: 0 :: 214 :: 153 :: 0 :: 13 :: 42 :: 180 :: 0 :: 95 :: sxX12_count_181 := aq_26 shX12_count_129
theorem shX12_count_181 : cX12_count.data.toList.drop 181 = 27 :: 16 :: 30 :: 100 :: 46 :: 172 :: 27 :: 16 :: 40 :: 16 :: 39 :: 42 :: 180 :: 1 :: 179 :: 96 :: 184 :: 0 :: 214 :: 153 :: 0 :: 13 :: 42 :: 180 :: 0 :: 141 :: sxX12_count_207 := aq_26 shX12_count_155
theorem shX12_count_207 : cX12_count.data.toList.drop 207 = 27 :: 16 :: 40 :: 100 :: 46 :: 172 :: 27 :: 16 :: 50 :: 16 :: 49 :: 42 :: 180 :: 1 :: 191 :: 96 :: 184 :: 0 :: 214 :: 153 :: 0 :: 15 :: 42 :: 180 :: 0 :: 144 :: sxX12_count_233 := aq_26 shX12_count_181
theorem shX12_count_233 : cX12_count.data.toList.drop 233 = 27 :: 16 :: 50 :: 100 :: 46 :: 167 :: 0 :: 4 :: 2 :: 172 :: sxX12_count_243 := aq_26 shX12_count_207
theorem dX12_count_1 : decode cX12_count 1 = .ok (.tableswitch 108 0 9 #[55, 60, 65, 70, 75, 83, 88, 93, 98, 103], 55) := by decide +kernel
theorem dX12_count_122 : decode cX12_count 122 = .ok (.ifCond .eq 13, 3) := oc_153 122 (aq_18 shX12_count_104) sgw_0_13
theorem dX12_count_148 : decode cX12_count 148 = .ok (.ifCond .eq 13, 3) := oc_153 148 (aq_19 shX12_count_129) sgw_0_13
theorem dX12_count_174 : decode cX12_count 174 = .ok (.ifCond .eq 13, 3) := oc_153 174 (aq_19 shX12_count_155) sgw_0_13
theorem dX12_count_200 : decode cX12_count 200 = .ok (.ifCond .eq 13, 3) := oc_153 200 (aq_19 shX12_count_181) sgw_0_13
theorem dX12_count_226 : decode cX12_count 226 = .ok (.ifCond .eq 15, 3) := oc_153 226 (aq_19 shX12_count_207) sgw_0_15
theorem dX12_count_242 : decode cX12_count 242 = .ok (.ireturn, 1) := oc_172 242 (aq_9 shX12_count_233)
end
