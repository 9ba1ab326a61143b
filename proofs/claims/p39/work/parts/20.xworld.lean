section
/-- the cells of a family -/
def fam {α : Type} (n : Nat) (f : Nat → α) : List α := (List.range n).map f
theorem fam_len {α : Type} {n : Nat} {f : Nat → α} : (fam n f).length = n := by simp [fam]
theorem fam_get {α : Type} {n k : Nat} {f : Nat → α} (h : k < n) : (fam n f)[k]? = some (f k) := by simp [fam, h]
theorem fam_set {α : Type} {n k : Nat} {f : Nat → α} {v : α} : (fam n f).set k v = fam n (va_up f k v) := by
  apply List.ext_getElem
  · simp [fam]
  · intro i h1 h2
    simp only [fam, List.getElem_set, List.getElem_map, List.getElem_range, va_up]
    by_cases e : i = k
    · subst e; simp
    · rw [if_neg (fun q => e q.symm), if_neg e]
theorem fam_succ {α : Type} {n : Nat} {f : Nat → α} : fam (n + 1) f = fam n f ++ [f n] := by simp [fam, List.range_succ]
theorem fam_cg {α : Type} {n : Nat} {f g : Nat → α} (h : ∀ k : Nat, k < n → f k = g k) : fam n f = fam n g := List.map_congr_left (fun k hk => h k (List.mem_range.mp hk))
def famW {α : Type} : List (Nat × (Nat → α)) → List α
  | [] => []
  | p :: r => fam p.1 p.2 ++ famW r
def famO {α : Type} : List (Nat × (Nat → α)) → Nat → Nat
  | [], _ => 0
  | _ :: _, 0 => 0
  | p :: r, i + 1 => p.1 + famO r i
theorem famW_get {α : Type} : ∀ {fs : List (Nat × (Nat → α))} {i k : Nat} {p : Nat × (Nat → α)}, fs[i]? = some p → k < p.1 → (famW fs)[famO fs i + k]? = some (p.2 k)
  | [], i, k, p, h, _ => by simp at h
  | q :: r, 0, k, p, h, hk => by
    simp at h; subst h
    rw [famW, famO, Nat.zero_add, List.getElem?_append_left (by rw [fam_len]; exact hk)]
    exact fam_get hk
  | q :: r, i + 1, k, p, h, hk => by
    simp at h
    rw [famW, famO, List.getElem?_append_right (by rw [fam_len]; omega), fam_len, show q.1 + famO r i + k - q.1 = famO r i + k by omega]
    exact famW_get h hk
theorem famW_set {α : Type} {v : α} : ∀ {fs : List (Nat × (Nat → α))} {i k : Nat} {p : Nat × (Nat → α)}, fs[i]? = some p → k < p.1 → (famW fs).set (famO fs i + k) v = famW (fs.set i (p.1, va_up p.2 k v))
  | [], i, k, p, h, _ => by simp at h
  | q :: r, 0, k, p, h, hk => by
    simp at h; subst h
    rw [famW, famO, Nat.zero_add, List.set_append_left _ _ (by rw [fam_len]; exact hk), fam_set]
    rfl
  | q :: r, i + 1, k, p, h, hk => by
    simp at h
    rw [famW, famO, List.set_append_right _ _ (by rw [fam_len]; omega), fam_len, show q.1 + famO r i + k - q.1 = famO r i + k by omega, famW_set h hk]
    rfl
theorem fxW_get {α : Type} {fx : List α} {fs : List (Nat × (Nat → α))} {i k : Nat} {p : Nat × (Nat → α)} (h : fs[i]? = some p) (hk : k < p.1) : (fx ++ famW fs)[fx.length + (famO fs i + k)]? = some (p.2 k) := by
  rw [List.getElem?_append_right (by omega), show fx.length + (famO fs i + k) - fx.length = famO fs i + k by omega]
  exact famW_get h hk
theorem fxW_set {α : Type} {fx : List α} {fs : List (Nat × (Nat → α))} {i k : Nat} {p : Nat × (Nat → α)} {v : α} (h : fs[i]? = some p) (hk : k < p.1) : (fx ++ famW fs).set (fx.length + (famO fs i + k)) v = fx ++ famW (fs.set i (p.1, va_up p.2 k v)) := by
  rw [List.set_append_right _ _ (by omega), show fx.length + (famO fs i + k) - fx.length = famO fs i + k by omega, famW_set h hk]
/-- the k-th of a family's arrays, st places each, laid one behind the other -/
def gA (F : Nat → Int32) (st k : Nat) : Nat → Int32 := fun i => if i < st then F (st * k + i) else 0
def flat (F : Nat → Int32) (st k : Nat) (f : Nat → Int32) : Nat → Int32 := fun j => if j / st = k then f (j % st) else F j
theorem gA_flat {F f : Nat → Int32} {st k : Nat} (h0 : 0 < st) (hf : ∀ i : Nat, st ≤ i → f i = 0) : gA (flat F st k f) st k = f := by
  funext i
  unfold gA flat
  by_cases q : i < st
  · rw [if_pos q, if_pos (by rw [Nat.mul_add_div h0, Nat.div_eq_of_lt q]; omega), Nat.mul_add_mod, Nat.mod_eq_of_lt q]
  · rw [if_neg q, hf i (by omega)]
theorem gA_flat_ne {F f : Nat → Int32} {st k k2 : Nat} (h0 : 0 < st) (hk : k2 ≠ k) : gA (flat F st k f) st k2 = gA F st k2 := by
  funext i
  unfold gA flat
  by_cases q : i < st
  · rw [if_pos q, if_pos q, if_neg (by rw [Nat.mul_add_div h0, Nat.div_eq_of_lt q]; omega)]
  · rw [if_neg q, if_neg q]
theorem va_P_eq {D : va_G} {cl : List vw_C} {w1 w2 : va_W} {H : Heap} (e : w1 = w2) (h : va_P D cl w1 H) : va_P D cl w2 H := e ▸ h
theorem va_D_eq {A : Nat → Prop} {w1 w2 : va_W} (e : w1 = w2) (h : va_D A w1) : va_D A w2 := e ▸ h
/-- one cell that a callee has changed, put back into its world -/
theorem wset1 {D : va_G} {cl : List vw_C} {A0 : Nat → Prop} {ws : va_W} {q0 a : Nat} {e e' : va_E} {H H1 : Heap} (hP : va_P D cl ws H) (hD : va_D A0 ws) (h0 : ws[q0]? = some (a, e)) (hk : ∀ q : Nat, q < H.size → ¬ va_A [(a, e)] H.size q → H1[q]? = H[q]?) (hP1 : va_P D cl [(a, e')] H1) : va_P D cl (ws.set q0 (a, e')) H1 ∧ va_D A0 (ws.set q0 (a, e')) := by
  refine ⟨fun i q hq => ?_, hD.set h0⟩
  rw [List.getElem?_set] at hq
  by_cases z : q0 = i
  · rw [if_pos z] at hq
    split at hq
    · obtain rfl := Option.some.inj hq
      exact hP1 0 _ rfl
    · cases hq
  · rw [if_neg z] at hq
    have hat := hP i q hq
    have hne : q.1 ≠ a := fun w => z (hD.1 q0 i (a, e) q h0 hq w.symm)
    refine hat.kept (hk q.1 hat.lt (fun w => ?_))
    rcases w with ⟨k, e2, w⟩ | w
    · have : k = 0 := by
        by_cases k0 : k = 0
        · exact k0
        · rw [List.getElem?_eq_none (by simp; omega)] at w; cases w
      subst this
      have w := congrArg (fun o => o.map Prod.fst) w
      simp at w
      exact hne w.symm
    · have := hat.lt; omega
theorem one_is {α : Type} {ws : List α} {i : Nat} {c : α} (h : ws[i]? = some c) : [i].filterMap (fun i => ws[i]?) = [c] := by simp [h]
theorem one_im {α : Type} {ws : List α} {i : Nat} {c : α} (h : ws[i]? = some c) : [i].map (fun i => ws[i]?) = [c].map some := by simp [h]
theorem two_is {α : Type} {ws : List α} {i j : Nat} {c d : α} (h : ws[i]? = some c) (h2 : ws[j]? = some d) : [i, j].filterMap (fun i => ws[i]?) = [c, d] := by simp [h, h2]
/-- the class's fixed cells -/
def fxX (cI QA : ClassId) (zz : Nat) (g : Nat → Nat) (ad : Nat → Nat → Nat) (cn : Nat → Nat) (In : Nat → Int32) (Fn : Nat → Nat → Int32) : va_W := [((g 0), .inr (12, [.int (nI (cn 0)), .int (nI (cn 1)), .int (nI (cn 2)), .int (nI (cn 5)), .ref (ad 5 (ad 4 0)), .ref (g 5), .ref (g 6), .ref (g 7), .ref (g 8), .ref (g 9), .ref (g 10), .ref (g 11), .ref (g 12), .ref (g 13), .ref (g 14), .ref (g 15)])), ((g 5), .inr (9, [.ref (g 40), .int (nI (cn 3))])), ((g 40), .inl (cI, 200, .inl (Fn 40))), ((g 6), .inr (6, [.ref (ad 4 2), .ref (ad 5 (ad 4 1)), .int (In 30), .int (nI (cn 31)), .int (nI (cn 32)), .int (In 33)])), ((ad 6 0), .inl (cI, 0, .inl (Fn 41))), ((g 7), .inl (cI, 11, .inl (Fn 7))), ((g 8), .inr (8, [.ref (g 20), .ref (g 21), .ref (g 22), .ref (g 23), .ref (g 24), .ref (g 25), .ref (g 26), .ref (g 27), .ref (g 28), .ref (g 29)])), ((g 20), .inl (cI, 58, .inl (Fn 20))), ((g 21), .inl (cI, 24, .inl (Fn 21))), ((g 22), .inl (cI, 400, .inl (Fn 22))), ((g 23), .inl (cI, 400, .inl (Fn 23))), ((g 24), .inl (cI, 10, .inl (Fn 24))), ((g 25), .inl (cI, 10, .inl (Fn 25))), ((g 26), .inl (cI, 232, .inl (Fn 26))), ((g 27), .inl (cI, 3, .inl (Fn 27))), ((g 28), .inl (cI, 1200, .inl (Fn 28))), ((g 29), .inl (cI, 400, .inl (Fn 29))), ((g 9), .inr (11, [.ref (g 30), .ref (g 31), .ref (g 32), .ref (g 33), .ref (g 34), .ref (g 35), .int (nI (cn 4))])), ((g 30), .inl (cI, 8, .inl (Fn 30))), ((g 31), .inl (cI, 8, .inl (Fn 31))), ((g 32), .inl (cI, 8, .inl (Fn 32))), ((g 33), .inl (cI, 8, .inl (Fn 33))), ((g 34), .inl (cI, 2048, .inl (Fn 34))), ((g 35), .inl (cI, 256, .inl (Fn 35))), ((g 10), .inr (0, [.int (In 10), .ref (if cn 10 = 0 then zz else ad 2 0), .int (nI (cn 10))])), ((g 11), .inr (0, [.int (In 11), .ref (if cn 11 = 0 then zz else ad 2 1), .int (nI (cn 11))])), ((g 12), .inr (0, [.int (In 12), .ref (if cn 12 = 0 then zz else ad 2 2), .int (nI (cn 12))])), ((g 13), .inr (0, [.int (In 13), .ref (if cn 13 = 0 then zz else ad 2 3), .int (nI (cn 13))])), ((g 14), .inr (0, [.int (In 14), .ref (if cn 14 = 0 then zz else ad 2 4), .int (nI (cn 14))])), ((g 15), .inr (0, [.int (In 15), .ref (if cn 15 = 0 then zz else ad 2 5), .int (nI (cn 15))]))]
def e0X (cI QA : ClassId) (zz : Nat) (g : Nat → Nat) (ad : Nat → Nat → Nat) (cn : Nat → Nat) (In : Nat → Int32) (Fn : Nat → Nat → Int32) (k : Nat) : Nat × va_E := ((ad 10 k), .inr (2, [.int (Fn 100 k), .int (Fn 101 k), .int (Fn 102 k), .int (Fn 103 k), .int (Fn 104 k), .int (Fn 105 k), .int (Fn 106 k), .int (Fn 107 k), .int (Fn 108 k), .int (Fn 109 k), .ref (ad 5 (ad 3 k))]))
def e1X (cI QA : ClassId) (zz : Nat) (g : Nat → Nat) (ad : Nat → Nat → Nat) (cn : Nat → Nat) (In : Nat → Int32) (Fn : Nat → Nat → Int32) (k : Nat) : Nat × va_E := ((ad 11 k), .inr (3, [.int (Fn 120 k), .int (Fn 121 k), .int (Fn 122 k), .int (Fn 123 k), .int (Fn 124 k), .int (Fn 125 k), .int (Fn 126 k), .int (Fn 127 k), .int (Fn 128 k), .int (Fn 129 k)]))
def e2X (cI QA : ClassId) (zz : Nat) (g : Nat → Nat) (ad : Nat → Nat → Nat) (cn : Nat → Nat) (In : Nat → Int32) (Fn : Nat → Nat → Int32) (k : Nat) : Nat × va_E := ((ad 12 k), .inr (1, [.ref (ad 1 k), .int (Fn 141 k), .int (Fn 142 k), .int (Fn 143 k), .int (Fn 144 k), .int (Fn 145 k), .int (Fn 146 k), .int (Fn 147 k)]))
def e3X (cI QA : ClassId) (zz : Nat) (g : Nat → Nat) (ad : Nat → Nat → Nat) (cn : Nat → Nat) (In : Nat → Int32) (Fn : Nat → Nat → Int32) (k : Nat) : Nat × va_E := ((ad 13 k), .inr (5, [.int (Fn 160 k), .int (Fn 161 k), .int (Fn 162 k), .int (Fn 163 k), .int (Fn 164 k)]))
def e4X (cI QA : ClassId) (zz : Nat) (g : Nat → Nat) (ad : Nat → Nat → Nat) (cn : Nat → Nat) (In : Nat → Int32) (Fn : Nat → Nat → Int32) (k : Nat) : Nat × va_E := ((ad 14 k), .inr (7, [.int (Fn 170 k), .int (Fn 171 k), .int (Fn 172 k)]))
def e5X (cI QA : ClassId) (zz : Nat) (g : Nat → Nat) (ad : Nat → Nat → Nat) (cn : Nat → Nat) (In : Nat → Int32) (Fn : Nat → Nat → Int32) (k : Nat) : Nat × va_E := ((ad 15 k), .inr (4, [.int (Fn 180 k), .int (Fn 181 k), .int (Fn 182 k)]))
def e6X (cI QA : ClassId) (zz : Nat) (g : Nat → Nat) (ad : Nat → Nat → Nat) (cn : Nat → Nat) (In : Nat → Int32) (Fn : Nat → Nat → Int32) (k : Nat) : Nat × va_E := ((ad 1 k), .inl (cI, 12, .inl (gA (Fn 150) 12 k)))
def e7X (cI QA : ClassId) (zz : Nat) (g : Nat → Nat) (ad : Nat → Nat → Nat) (cn : Nat → Nat) (In : Nat → Int32) (Fn : Nat → Nat → Int32) (k : Nat) : Nat × va_E := ((ad 5 k), .inr (10, [.ref (ad 60 k), .ref (ad 61 k), .ref (ad 62 k), .ref (ad 63 k), .ref (ad 64 k), .int (Fn 195 k), .int (Fn 196 k), .int (Fn 197 k), .int (Fn 198 k)]))
def e8X (cI QA : ClassId) (zz : Nat) (g : Nat → Nat) (ad : Nat → Nat → Nat) (cn : Nat → Nat) (In : Nat → Int32) (Fn : Nat → Nat → Int32) (k : Nat) : Nat × va_E := ((ad 60 k), .inl (cI, (Fn 199 k).toInt.toNat, .inl (gA (Fn 301) 200 k)))
def e9X (cI QA : ClassId) (zz : Nat) (g : Nat → Nat) (ad : Nat → Nat → Nat) (cn : Nat → Nat) (In : Nat → Int32) (Fn : Nat → Nat → Int32) (k : Nat) : Nat × va_E := ((ad 61 k), .inl (cI, 12, .inl (gA (Fn 302) 12 k)))
def e10X (cI QA : ClassId) (zz : Nat) (g : Nat → Nat) (ad : Nat → Nat → Nat) (cn : Nat → Nat) (In : Nat → Int32) (Fn : Nat → Nat → Int32) (k : Nat) : Nat × va_E := ((ad 62 k), .inl (cI, 12, .inl (gA (Fn 303) 12 k)))
def e11X (cI QA : ClassId) (zz : Nat) (g : Nat → Nat) (ad : Nat → Nat → Nat) (cn : Nat → Nat) (In : Nat → Int32) (Fn : Nat → Nat → Int32) (k : Nat) : Nat × va_E := ((ad 63 k), .inl (cI, 12, .inl (gA (Fn 304) 12 k)))
def e12X (cI QA : ClassId) (zz : Nat) (g : Nat → Nat) (ad : Nat → Nat → Nat) (cn : Nat → Nat) (In : Nat → Int32) (Fn : Nat → Nat → Int32) (k : Nat) : Nat × va_E := ((ad 64 k), .inl (cI, 32, .inl (gA (Fn 305) 32 k)))
def e13X (cI QA : ClassId) (zz : Nat) (g : Nat → Nat) (ad : Nat → Nat → Nat) (cn : Nat → Nat) (In : Nat → Int32) (Fn : Nat → Nat → Int32) (k : Nat) : Nat × va_E := (ad 2 0, .inl (QA, cn 20, .inr (.inr (.inr (.inr (fun i => if i < cn 10 then some (ad 10 i) else none))))))
def e14X (cI QA : ClassId) (zz : Nat) (g : Nat → Nat) (ad : Nat → Nat → Nat) (cn : Nat → Nat) (In : Nat → Int32) (Fn : Nat → Nat → Int32) (k : Nat) : Nat × va_E := (ad 2 1, .inl (QA, cn 21, .inr (.inr (.inr (.inr (fun i => if i < cn 11 then some (ad 11 i) else none))))))
def e15X (cI QA : ClassId) (zz : Nat) (g : Nat → Nat) (ad : Nat → Nat → Nat) (cn : Nat → Nat) (In : Nat → Int32) (Fn : Nat → Nat → Int32) (k : Nat) : Nat × va_E := (ad 2 2, .inl (QA, cn 22, .inr (.inr (.inr (.inr (fun i => if i < cn 12 then some (ad 12 i) else none))))))
def e16X (cI QA : ClassId) (zz : Nat) (g : Nat → Nat) (ad : Nat → Nat → Nat) (cn : Nat → Nat) (In : Nat → Int32) (Fn : Nat → Nat → Int32) (k : Nat) : Nat × va_E := (ad 2 3, .inl (QA, cn 23, .inr (.inr (.inr (.inr (fun i => if i < cn 13 then some (ad 13 i) else none))))))
def e17X (cI QA : ClassId) (zz : Nat) (g : Nat → Nat) (ad : Nat → Nat → Nat) (cn : Nat → Nat) (In : Nat → Int32) (Fn : Nat → Nat → Int32) (k : Nat) : Nat × va_E := (ad 2 4, .inl (QA, cn 24, .inr (.inr (.inr (.inr (fun i => if i < cn 14 then some (ad 14 i) else none))))))
def e18X (cI QA : ClassId) (zz : Nat) (g : Nat → Nat) (ad : Nat → Nat → Nat) (cn : Nat → Nat) (In : Nat → Int32) (Fn : Nat → Nat → Int32) (k : Nat) : Nat × va_E := (ad 2 5, .inl (QA, cn 25, .inr (.inr (.inr (.inr (fun i => if i < cn 15 then some (ad 15 i) else none))))))
def fsX (cI QA : ClassId) (zz : Nat) (g : Nat → Nat) (ad : Nat → Nat → Nat) (cn : Nat → Nat) (In : Nat → Int32) (Fn : Nat → Nat → Int32) : List (Nat × (Nat → Nat × va_E)) := [((cn 10), e0X cI QA zz g ad cn In Fn), ((cn 11), e1X cI QA zz g ad cn In Fn), ((cn 12), e2X cI QA zz g ad cn In Fn), ((cn 13), e3X cI QA zz g ad cn In Fn), ((cn 14), e4X cI QA zz g ad cn In Fn), ((cn 15), e5X cI QA zz g ad cn In Fn), ((cn 12), e6X cI QA zz g ad cn In Fn), ((cn 6), e7X cI QA zz g ad cn In Fn), ((cn 6), e8X cI QA zz g ad cn In Fn), ((cn 6), e9X cI QA zz g ad cn In Fn), ((cn 6), e10X cI QA zz g ad cn In Fn), ((cn 6), e11X cI QA zz g ad cn In Fn), ((cn 6), e12X cI QA zz g ad cn In Fn), ((min 1 (cn 10)), e13X cI QA zz g ad cn In Fn), ((min 1 (cn 11)), e14X cI QA zz g ad cn In Fn), ((min 1 (cn 12)), e15X cI QA zz g ad cn In Fn), ((min 1 (cn 13)), e16X cI QA zz g ad cn In Fn), ((min 1 (cn 14)), e17X cI QA zz g ad cn In Fn), ((min 1 (cn 15)), e18X cI QA zz g ad cn In Fn)]
/-- the class's whole world -/
def wX (cI QA : ClassId) (zz : Nat) (g : Nat → Nat) (ad : Nat → Nat → Nat) (cn : Nat → Nat) (In : Nat → Int32) (Fn : Nat → Nat → Int32) : va_W := fxX cI QA zz g ad cn In Fn ++ famW (fsX cI QA zz g ad cn In Fn)
theorem xo_0 {cI QA : ClassId} {zz : Nat} {g : Nat → Nat} {ad : Nat → Nat → Nat} {cn : Nat → Nat} {In : Nat → Int32} {Fn : Nat → Nat → Int32} : (wX cI QA zz g ad cn In Fn)[0]? = some ((g 0), .inr (12, [.int (nI (cn 0)), .int (nI (cn 1)), .int (nI (cn 2)), .int (nI (cn 5)), .ref (ad 5 (ad 4 0)), .ref (g 5), .ref (g 6), .ref (g 7), .ref (g 8), .ref (g 9), .ref (g 10), .ref (g 11), .ref (g 12), .ref (g 13), .ref (g 14), .ref (g 15)])) := rfl
theorem xo_1 {cI QA : ClassId} {zz : Nat} {g : Nat → Nat} {ad : Nat → Nat → Nat} {cn : Nat → Nat} {In : Nat → Int32} {Fn : Nat → Nat → Int32} : (wX cI QA zz g ad cn In Fn)[1]? = some ((g 5), .inr (9, [.ref (g 40), .int (nI (cn 3))])) := rfl
theorem xo_2 {cI QA : ClassId} {zz : Nat} {g : Nat → Nat} {ad : Nat → Nat → Nat} {cn : Nat → Nat} {In : Nat → Int32} {Fn : Nat → Nat → Int32} : (wX cI QA zz g ad cn In Fn)[2]? = some ((g 40), .inl (cI, 200, .inl (Fn 40))) := rfl
theorem xo_3 {cI QA : ClassId} {zz : Nat} {g : Nat → Nat} {ad : Nat → Nat → Nat} {cn : Nat → Nat} {In : Nat → Int32} {Fn : Nat → Nat → Int32} : (wX cI QA zz g ad cn In Fn)[3]? = some ((g 6), .inr (6, [.ref (ad 4 2), .ref (ad 5 (ad 4 1)), .int (In 30), .int (nI (cn 31)), .int (nI (cn 32)), .int (In 33)])) := rfl
theorem xo_5 {cI QA : ClassId} {zz : Nat} {g : Nat → Nat} {ad : Nat → Nat → Nat} {cn : Nat → Nat} {In : Nat → Int32} {Fn : Nat → Nat → Int32} : (wX cI QA zz g ad cn In Fn)[5]? = some ((g 7), .inl (cI, 11, .inl (Fn 7))) := rfl
theorem xo_6 {cI QA : ClassId} {zz : Nat} {g : Nat → Nat} {ad : Nat → Nat → Nat} {cn : Nat → Nat} {In : Nat → Int32} {Fn : Nat → Nat → Int32} : (wX cI QA zz g ad cn In Fn)[6]? = some ((g 8), .inr (8, [.ref (g 20), .ref (g 21), .ref (g 22), .ref (g 23), .ref (g 24), .ref (g 25), .ref (g 26), .ref (g 27), .ref (g 28), .ref (g 29)])) := rfl
theorem xo_7 {cI QA : ClassId} {zz : Nat} {g : Nat → Nat} {ad : Nat → Nat → Nat} {cn : Nat → Nat} {In : Nat → Int32} {Fn : Nat → Nat → Int32} : (wX cI QA zz g ad cn In Fn)[7]? = some ((g 20), .inl (cI, 58, .inl (Fn 20))) := rfl
theorem xo_8 {cI QA : ClassId} {zz : Nat} {g : Nat → Nat} {ad : Nat → Nat → Nat} {cn : Nat → Nat} {In : Nat → Int32} {Fn : Nat → Nat → Int32} : (wX cI QA zz g ad cn In Fn)[8]? = some ((g 21), .inl (cI, 24, .inl (Fn 21))) := rfl
theorem xo_9 {cI QA : ClassId} {zz : Nat} {g : Nat → Nat} {ad : Nat → Nat → Nat} {cn : Nat → Nat} {In : Nat → Int32} {Fn : Nat → Nat → Int32} : (wX cI QA zz g ad cn In Fn)[9]? = some ((g 22), .inl (cI, 400, .inl (Fn 22))) := rfl
theorem xo_10 {cI QA : ClassId} {zz : Nat} {g : Nat → Nat} {ad : Nat → Nat → Nat} {cn : Nat → Nat} {In : Nat → Int32} {Fn : Nat → Nat → Int32} : (wX cI QA zz g ad cn In Fn)[10]? = some ((g 23), .inl (cI, 400, .inl (Fn 23))) := rfl
theorem xo_11 {cI QA : ClassId} {zz : Nat} {g : Nat → Nat} {ad : Nat → Nat → Nat} {cn : Nat → Nat} {In : Nat → Int32} {Fn : Nat → Nat → Int32} : (wX cI QA zz g ad cn In Fn)[11]? = some ((g 24), .inl (cI, 10, .inl (Fn 24))) := rfl
theorem xo_12 {cI QA : ClassId} {zz : Nat} {g : Nat → Nat} {ad : Nat → Nat → Nat} {cn : Nat → Nat} {In : Nat → Int32} {Fn : Nat → Nat → Int32} : (wX cI QA zz g ad cn In Fn)[12]? = some ((g 25), .inl (cI, 10, .inl (Fn 25))) := rfl
theorem xo_13 {cI QA : ClassId} {zz : Nat} {g : Nat → Nat} {ad : Nat → Nat → Nat} {cn : Nat → Nat} {In : Nat → Int32} {Fn : Nat → Nat → Int32} : (wX cI QA zz g ad cn In Fn)[13]? = some ((g 26), .inl (cI, 232, .inl (Fn 26))) := rfl
theorem xo_14 {cI QA : ClassId} {zz : Nat} {g : Nat → Nat} {ad : Nat → Nat → Nat} {cn : Nat → Nat} {In : Nat → Int32} {Fn : Nat → Nat → Int32} : (wX cI QA zz g ad cn In Fn)[14]? = some ((g 27), .inl (cI, 3, .inl (Fn 27))) := rfl
theorem xo_15 {cI QA : ClassId} {zz : Nat} {g : Nat → Nat} {ad : Nat → Nat → Nat} {cn : Nat → Nat} {In : Nat → Int32} {Fn : Nat → Nat → Int32} : (wX cI QA zz g ad cn In Fn)[15]? = some ((g 28), .inl (cI, 1200, .inl (Fn 28))) := rfl
theorem xo_16 {cI QA : ClassId} {zz : Nat} {g : Nat → Nat} {ad : Nat → Nat → Nat} {cn : Nat → Nat} {In : Nat → Int32} {Fn : Nat → Nat → Int32} : (wX cI QA zz g ad cn In Fn)[16]? = some ((g 29), .inl (cI, 400, .inl (Fn 29))) := rfl
theorem xo_17 {cI QA : ClassId} {zz : Nat} {g : Nat → Nat} {ad : Nat → Nat → Nat} {cn : Nat → Nat} {In : Nat → Int32} {Fn : Nat → Nat → Int32} : (wX cI QA zz g ad cn In Fn)[17]? = some ((g 9), .inr (11, [.ref (g 30), .ref (g 31), .ref (g 32), .ref (g 33), .ref (g 34), .ref (g 35), .int (nI (cn 4))])) := rfl
theorem xo_18 {cI QA : ClassId} {zz : Nat} {g : Nat → Nat} {ad : Nat → Nat → Nat} {cn : Nat → Nat} {In : Nat → Int32} {Fn : Nat → Nat → Int32} : (wX cI QA zz g ad cn In Fn)[18]? = some ((g 30), .inl (cI, 8, .inl (Fn 30))) := rfl
theorem xo_19 {cI QA : ClassId} {zz : Nat} {g : Nat → Nat} {ad : Nat → Nat → Nat} {cn : Nat → Nat} {In : Nat → Int32} {Fn : Nat → Nat → Int32} : (wX cI QA zz g ad cn In Fn)[19]? = some ((g 31), .inl (cI, 8, .inl (Fn 31))) := rfl
theorem xo_20 {cI QA : ClassId} {zz : Nat} {g : Nat → Nat} {ad : Nat → Nat → Nat} {cn : Nat → Nat} {In : Nat → Int32} {Fn : Nat → Nat → Int32} : (wX cI QA zz g ad cn In Fn)[20]? = some ((g 32), .inl (cI, 8, .inl (Fn 32))) := rfl
theorem xo_21 {cI QA : ClassId} {zz : Nat} {g : Nat → Nat} {ad : Nat → Nat → Nat} {cn : Nat → Nat} {In : Nat → Int32} {Fn : Nat → Nat → Int32} : (wX cI QA zz g ad cn In Fn)[21]? = some ((g 33), .inl (cI, 8, .inl (Fn 33))) := rfl
theorem xo_22 {cI QA : ClassId} {zz : Nat} {g : Nat → Nat} {ad : Nat → Nat → Nat} {cn : Nat → Nat} {In : Nat → Int32} {Fn : Nat → Nat → Int32} : (wX cI QA zz g ad cn In Fn)[22]? = some ((g 34), .inl (cI, 2048, .inl (Fn 34))) := rfl
theorem xo_23 {cI QA : ClassId} {zz : Nat} {g : Nat → Nat} {ad : Nat → Nat → Nat} {cn : Nat → Nat} {In : Nat → Int32} {Fn : Nat → Nat → Int32} : (wX cI QA zz g ad cn In Fn)[23]? = some ((g 35), .inl (cI, 256, .inl (Fn 35))) := rfl
theorem xo_24 {cI QA : ClassId} {zz : Nat} {g : Nat → Nat} {ad : Nat → Nat → Nat} {cn : Nat → Nat} {In : Nat → Int32} {Fn : Nat → Nat → Int32} : (wX cI QA zz g ad cn In Fn)[24]? = some ((g 10), .inr (0, [.int (In 10), .ref (if cn 10 = 0 then zz else ad 2 0), .int (nI (cn 10))])) := rfl
theorem xo_25 {cI QA : ClassId} {zz : Nat} {g : Nat → Nat} {ad : Nat → Nat → Nat} {cn : Nat → Nat} {In : Nat → Int32} {Fn : Nat → Nat → Int32} : (wX cI QA zz g ad cn In Fn)[25]? = some ((g 11), .inr (0, [.int (In 11), .ref (if cn 11 = 0 then zz else ad 2 1), .int (nI (cn 11))])) := rfl
theorem xo_26 {cI QA : ClassId} {zz : Nat} {g : Nat → Nat} {ad : Nat → Nat → Nat} {cn : Nat → Nat} {In : Nat → Int32} {Fn : Nat → Nat → Int32} : (wX cI QA zz g ad cn In Fn)[26]? = some ((g 12), .inr (0, [.int (In 12), .ref (if cn 12 = 0 then zz else ad 2 2), .int (nI (cn 12))])) := rfl
theorem xo_27 {cI QA : ClassId} {zz : Nat} {g : Nat → Nat} {ad : Nat → Nat → Nat} {cn : Nat → Nat} {In : Nat → Int32} {Fn : Nat → Nat → Int32} : (wX cI QA zz g ad cn In Fn)[27]? = some ((g 13), .inr (0, [.int (In 13), .ref (if cn 13 = 0 then zz else ad 2 3), .int (nI (cn 13))])) := rfl
theorem xo_28 {cI QA : ClassId} {zz : Nat} {g : Nat → Nat} {ad : Nat → Nat → Nat} {cn : Nat → Nat} {In : Nat → Int32} {Fn : Nat → Nat → Int32} : (wX cI QA zz g ad cn In Fn)[28]? = some ((g 14), .inr (0, [.int (In 14), .ref (if cn 14 = 0 then zz else ad 2 4), .int (nI (cn 14))])) := rfl
theorem xo_29 {cI QA : ClassId} {zz : Nat} {g : Nat → Nat} {ad : Nat → Nat → Nat} {cn : Nat → Nat} {In : Nat → Int32} {Fn : Nat → Nat → Int32} : (wX cI QA zz g ad cn In Fn)[29]? = some ((g 15), .inr (0, [.int (In 15), .ref (if cn 15 = 0 then zz else ad 2 5), .int (nI (cn 15))])) := rfl
theorem xf_0 {cI QA : ClassId} {zz : Nat} {g : Nat → Nat} {ad : Nat → Nat → Nat} {cn : Nat → Nat} {In : Nat → Int32} {Fn : Nat → Nat → Int32} {k : Nat} (hk : k < (cn 10)) : (wX cI QA zz g ad cn In Fn)[(fxX cI QA zz g ad cn In Fn).length + (famO (fsX cI QA zz g ad cn In Fn) 0 + k)]? = some ((ad 10 k), .inr (2, [.int (Fn 100 k), .int (Fn 101 k), .int (Fn 102 k), .int (Fn 103 k), .int (Fn 104 k), .int (Fn 105 k), .int (Fn 106 k), .int (Fn 107 k), .int (Fn 108 k), .int (Fn 109 k), .ref (ad 5 (ad 3 k))])) := fxW_get (p := ((cn 10), e0X cI QA zz g ad cn In Fn)) rfl hk
theorem xf_1 {cI QA : ClassId} {zz : Nat} {g : Nat → Nat} {ad : Nat → Nat → Nat} {cn : Nat → Nat} {In : Nat → Int32} {Fn : Nat → Nat → Int32} {k : Nat} (hk : k < (cn 11)) : (wX cI QA zz g ad cn In Fn)[(fxX cI QA zz g ad cn In Fn).length + (famO (fsX cI QA zz g ad cn In Fn) 1 + k)]? = some ((ad 11 k), .inr (3, [.int (Fn 120 k), .int (Fn 121 k), .int (Fn 122 k), .int (Fn 123 k), .int (Fn 124 k), .int (Fn 125 k), .int (Fn 126 k), .int (Fn 127 k), .int (Fn 128 k), .int (Fn 129 k)])) := fxW_get (p := ((cn 11), e1X cI QA zz g ad cn In Fn)) rfl hk
theorem xf_2 {cI QA : ClassId} {zz : Nat} {g : Nat → Nat} {ad : Nat → Nat → Nat} {cn : Nat → Nat} {In : Nat → Int32} {Fn : Nat → Nat → Int32} {k : Nat} (hk : k < (cn 12)) : (wX cI QA zz g ad cn In Fn)[(fxX cI QA zz g ad cn In Fn).length + (famO (fsX cI QA zz g ad cn In Fn) 2 + k)]? = some ((ad 12 k), .inr (1, [.ref (ad 1 k), .int (Fn 141 k), .int (Fn 142 k), .int (Fn 143 k), .int (Fn 144 k), .int (Fn 145 k), .int (Fn 146 k), .int (Fn 147 k)])) := fxW_get (p := ((cn 12), e2X cI QA zz g ad cn In Fn)) rfl hk
theorem xf_3 {cI QA : ClassId} {zz : Nat} {g : Nat → Nat} {ad : Nat → Nat → Nat} {cn : Nat → Nat} {In : Nat → Int32} {Fn : Nat → Nat → Int32} {k : Nat} (hk : k < (cn 13)) : (wX cI QA zz g ad cn In Fn)[(fxX cI QA zz g ad cn In Fn).length + (famO (fsX cI QA zz g ad cn In Fn) 3 + k)]? = some ((ad 13 k), .inr (5, [.int (Fn 160 k), .int (Fn 161 k), .int (Fn 162 k), .int (Fn 163 k), .int (Fn 164 k)])) := fxW_get (p := ((cn 13), e3X cI QA zz g ad cn In Fn)) rfl hk
theorem xf_4 {cI QA : ClassId} {zz : Nat} {g : Nat → Nat} {ad : Nat → Nat → Nat} {cn : Nat → Nat} {In : Nat → Int32} {Fn : Nat → Nat → Int32} {k : Nat} (hk : k < (cn 14)) : (wX cI QA zz g ad cn In Fn)[(fxX cI QA zz g ad cn In Fn).length + (famO (fsX cI QA zz g ad cn In Fn) 4 + k)]? = some ((ad 14 k), .inr (7, [.int (Fn 170 k), .int (Fn 171 k), .int (Fn 172 k)])) := fxW_get (p := ((cn 14), e4X cI QA zz g ad cn In Fn)) rfl hk
theorem xf_5 {cI QA : ClassId} {zz : Nat} {g : Nat → Nat} {ad : Nat → Nat → Nat} {cn : Nat → Nat} {In : Nat → Int32} {Fn : Nat → Nat → Int32} {k : Nat} (hk : k < (cn 15)) : (wX cI QA zz g ad cn In Fn)[(fxX cI QA zz g ad cn In Fn).length + (famO (fsX cI QA zz g ad cn In Fn) 5 + k)]? = some ((ad 15 k), .inr (4, [.int (Fn 180 k), .int (Fn 181 k), .int (Fn 182 k)])) := fxW_get (p := ((cn 15), e5X cI QA zz g ad cn In Fn)) rfl hk
theorem xf_6 {cI QA : ClassId} {zz : Nat} {g : Nat → Nat} {ad : Nat → Nat → Nat} {cn : Nat → Nat} {In : Nat → Int32} {Fn : Nat → Nat → Int32} {k : Nat} (hk : k < (cn 12)) : (wX cI QA zz g ad cn In Fn)[(fxX cI QA zz g ad cn In Fn).length + (famO (fsX cI QA zz g ad cn In Fn) 6 + k)]? = some ((ad 1 k), .inl (cI, 12, .inl (gA (Fn 150) 12 k))) := fxW_get (p := ((cn 12), e6X cI QA zz g ad cn In Fn)) rfl hk
theorem xf_7 {cI QA : ClassId} {zz : Nat} {g : Nat → Nat} {ad : Nat → Nat → Nat} {cn : Nat → Nat} {In : Nat → Int32} {Fn : Nat → Nat → Int32} {k : Nat} (hk : k < (cn 6)) : (wX cI QA zz g ad cn In Fn)[(fxX cI QA zz g ad cn In Fn).length + (famO (fsX cI QA zz g ad cn In Fn) 7 + k)]? = some ((ad 5 k), .inr (10, [.ref (ad 60 k), .ref (ad 61 k), .ref (ad 62 k), .ref (ad 63 k), .ref (ad 64 k), .int (Fn 195 k), .int (Fn 196 k), .int (Fn 197 k), .int (Fn 198 k)])) := fxW_get (p := ((cn 6), e7X cI QA zz g ad cn In Fn)) rfl hk
theorem xf_8 {cI QA : ClassId} {zz : Nat} {g : Nat → Nat} {ad : Nat → Nat → Nat} {cn : Nat → Nat} {In : Nat → Int32} {Fn : Nat → Nat → Int32} {k : Nat} (hk : k < (cn 6)) : (wX cI QA zz g ad cn In Fn)[(fxX cI QA zz g ad cn In Fn).length + (famO (fsX cI QA zz g ad cn In Fn) 8 + k)]? = some ((ad 60 k), .inl (cI, (Fn 199 k).toInt.toNat, .inl (gA (Fn 301) 200 k))) := fxW_get (p := ((cn 6), e8X cI QA zz g ad cn In Fn)) rfl hk
theorem xf_9 {cI QA : ClassId} {zz : Nat} {g : Nat → Nat} {ad : Nat → Nat → Nat} {cn : Nat → Nat} {In : Nat → Int32} {Fn : Nat → Nat → Int32} {k : Nat} (hk : k < (cn 6)) : (wX cI QA zz g ad cn In Fn)[(fxX cI QA zz g ad cn In Fn).length + (famO (fsX cI QA zz g ad cn In Fn) 9 + k)]? = some ((ad 61 k), .inl (cI, 12, .inl (gA (Fn 302) 12 k))) := fxW_get (p := ((cn 6), e9X cI QA zz g ad cn In Fn)) rfl hk
theorem xf_10 {cI QA : ClassId} {zz : Nat} {g : Nat → Nat} {ad : Nat → Nat → Nat} {cn : Nat → Nat} {In : Nat → Int32} {Fn : Nat → Nat → Int32} {k : Nat} (hk : k < (cn 6)) : (wX cI QA zz g ad cn In Fn)[(fxX cI QA zz g ad cn In Fn).length + (famO (fsX cI QA zz g ad cn In Fn) 10 + k)]? = some ((ad 62 k), .inl (cI, 12, .inl (gA (Fn 303) 12 k))) := fxW_get (p := ((cn 6), e10X cI QA zz g ad cn In Fn)) rfl hk
theorem xf_11 {cI QA : ClassId} {zz : Nat} {g : Nat → Nat} {ad : Nat → Nat → Nat} {cn : Nat → Nat} {In : Nat → Int32} {Fn : Nat → Nat → Int32} {k : Nat} (hk : k < (cn 6)) : (wX cI QA zz g ad cn In Fn)[(fxX cI QA zz g ad cn In Fn).length + (famO (fsX cI QA zz g ad cn In Fn) 11 + k)]? = some ((ad 63 k), .inl (cI, 12, .inl (gA (Fn 304) 12 k))) := fxW_get (p := ((cn 6), e11X cI QA zz g ad cn In Fn)) rfl hk
theorem xf_12 {cI QA : ClassId} {zz : Nat} {g : Nat → Nat} {ad : Nat → Nat → Nat} {cn : Nat → Nat} {In : Nat → Int32} {Fn : Nat → Nat → Int32} {k : Nat} (hk : k < (cn 6)) : (wX cI QA zz g ad cn In Fn)[(fxX cI QA zz g ad cn In Fn).length + (famO (fsX cI QA zz g ad cn In Fn) 12 + k)]? = some ((ad 64 k), .inl (cI, 32, .inl (gA (Fn 305) 32 k))) := fxW_get (p := ((cn 6), e12X cI QA zz g ad cn In Fn)) rfl hk
theorem xf_13 {cI QA : ClassId} {zz : Nat} {g : Nat → Nat} {ad : Nat → Nat → Nat} {cn : Nat → Nat} {In : Nat → Int32} {Fn : Nat → Nat → Int32} {k : Nat} (hk : k < (min 1 (cn 10))) : (wX cI QA zz g ad cn In Fn)[(fxX cI QA zz g ad cn In Fn).length + (famO (fsX cI QA zz g ad cn In Fn) 13 + k)]? = some (ad 2 0, .inl (QA, cn 20, .inr (.inr (.inr (.inr (fun i => if i < cn 10 then some (ad 10 i) else none)))))) := fxW_get (p := ((min 1 (cn 10)), e13X cI QA zz g ad cn In Fn)) rfl hk
theorem xf_14 {cI QA : ClassId} {zz : Nat} {g : Nat → Nat} {ad : Nat → Nat → Nat} {cn : Nat → Nat} {In : Nat → Int32} {Fn : Nat → Nat → Int32} {k : Nat} (hk : k < (min 1 (cn 11))) : (wX cI QA zz g ad cn In Fn)[(fxX cI QA zz g ad cn In Fn).length + (famO (fsX cI QA zz g ad cn In Fn) 14 + k)]? = some (ad 2 1, .inl (QA, cn 21, .inr (.inr (.inr (.inr (fun i => if i < cn 11 then some (ad 11 i) else none)))))) := fxW_get (p := ((min 1 (cn 11)), e14X cI QA zz g ad cn In Fn)) rfl hk
theorem xf_15 {cI QA : ClassId} {zz : Nat} {g : Nat → Nat} {ad : Nat → Nat → Nat} {cn : Nat → Nat} {In : Nat → Int32} {Fn : Nat → Nat → Int32} {k : Nat} (hk : k < (min 1 (cn 12))) : (wX cI QA zz g ad cn In Fn)[(fxX cI QA zz g ad cn In Fn).length + (famO (fsX cI QA zz g ad cn In Fn) 15 + k)]? = some (ad 2 2, .inl (QA, cn 22, .inr (.inr (.inr (.inr (fun i => if i < cn 12 then some (ad 12 i) else none)))))) := fxW_get (p := ((min 1 (cn 12)), e15X cI QA zz g ad cn In Fn)) rfl hk
theorem xf_16 {cI QA : ClassId} {zz : Nat} {g : Nat → Nat} {ad : Nat → Nat → Nat} {cn : Nat → Nat} {In : Nat → Int32} {Fn : Nat → Nat → Int32} {k : Nat} (hk : k < (min 1 (cn 13))) : (wX cI QA zz g ad cn In Fn)[(fxX cI QA zz g ad cn In Fn).length + (famO (fsX cI QA zz g ad cn In Fn) 16 + k)]? = some (ad 2 3, .inl (QA, cn 23, .inr (.inr (.inr (.inr (fun i => if i < cn 13 then some (ad 13 i) else none)))))) := fxW_get (p := ((min 1 (cn 13)), e16X cI QA zz g ad cn In Fn)) rfl hk
theorem xf_17 {cI QA : ClassId} {zz : Nat} {g : Nat → Nat} {ad : Nat → Nat → Nat} {cn : Nat → Nat} {In : Nat → Int32} {Fn : Nat → Nat → Int32} {k : Nat} (hk : k < (min 1 (cn 14))) : (wX cI QA zz g ad cn In Fn)[(fxX cI QA zz g ad cn In Fn).length + (famO (fsX cI QA zz g ad cn In Fn) 17 + k)]? = some (ad 2 4, .inl (QA, cn 24, .inr (.inr (.inr (.inr (fun i => if i < cn 14 then some (ad 14 i) else none)))))) := fxW_get (p := ((min 1 (cn 14)), e17X cI QA zz g ad cn In Fn)) rfl hk
theorem xf_18 {cI QA : ClassId} {zz : Nat} {g : Nat → Nat} {ad : Nat → Nat → Nat} {cn : Nat → Nat} {In : Nat → Int32} {Fn : Nat → Nat → Int32} {k : Nat} (hk : k < (min 1 (cn 15))) : (wX cI QA zz g ad cn In Fn)[(fxX cI QA zz g ad cn In Fn).length + (famO (fsX cI QA zz g ad cn In Fn) 18 + k)]? = some (ad 2 5, .inl (QA, cn 25, .inr (.inr (.inr (.inr (fun i => if i < cn 15 then some (ad 15 i) else none)))))) := fxW_get (p := ((min 1 (cn 15)), e18X cI QA zz g ad cn In Fn)) rfl hk
theorem xs_104 {cI QA : ClassId} {zz : Nat} {g : Nat → Nat} {ad : Nat → Nat → Nat} {cn : Nat → Nat} {In : Nat → Int32} {Fn : Nat → Nat → Int32} {k : Nat} {x : Int32} (hk : k < (cn 10)) : (wX cI QA zz g ad cn In Fn).set ((fxX cI QA zz g ad cn In Fn).length + (famO (fsX cI QA zz g ad cn In Fn) 0 + k)) ((ad 10 k), .inr (2, [.int (Fn 100 k), .int (Fn 101 k), .int (Fn 102 k), .int (Fn 103 k), .int (Fn 104 k), .int (Fn 105 k), .int (Fn 106 k), .int (Fn 107 k), .int (Fn 108 k), .int (Fn 109 k), .ref (ad 5 (ad 3 k))].set 4 (.int x))) = wX cI QA zz g ad cn In (va_up Fn 104 (upd (Fn 104) k x)) := by
  have h : e0X cI QA zz g ad cn In (va_up Fn 104 (upd (Fn 104) k x)) = va_up (e0X cI QA zz g ad cn In Fn) k ((ad 10 k), .inr (2, [.int (Fn 100 k), .int (Fn 101 k), .int (Fn 102 k), .int (Fn 103 k), .int (Fn 104 k), .int (Fn 105 k), .int (Fn 106 k), .int (Fn 107 k), .int (Fn 108 k), .int (Fn 109 k), .ref (ad 5 (ad 3 k))].set 4 (.int x))) := funext fun j => by
    by_cases q : j = k
    · subst q; simp [e0X, va_up, upd]
    · simp [e0X, va_up, upd, q]
  unfold wX
  rw [fxW_set (p := ((cn 10), e0X cI QA zz g ad cn In Fn)) rfl hk]
  exact congrArg (fun f => fxX cI QA zz g ad cn In Fn ++ famW ((fsX cI QA zz g ad cn In Fn).set 0 ((cn 10), f))) h.symm
theorem xs_105 {cI QA : ClassId} {zz : Nat} {g : Nat → Nat} {ad : Nat → Nat → Nat} {cn : Nat → Nat} {In : Nat → Int32} {Fn : Nat → Nat → Int32} {k : Nat} {x : Int32} (hk : k < (cn 10)) : (wX cI QA zz g ad cn In Fn).set ((fxX cI QA zz g ad cn In Fn).length + (famO (fsX cI QA zz g ad cn In Fn) 0 + k)) ((ad 10 k), .inr (2, [.int (Fn 100 k), .int (Fn 101 k), .int (Fn 102 k), .int (Fn 103 k), .int (Fn 104 k), .int (Fn 105 k), .int (Fn 106 k), .int (Fn 107 k), .int (Fn 108 k), .int (Fn 109 k), .ref (ad 5 (ad 3 k))].set 5 (.int x))) = wX cI QA zz g ad cn In (va_up Fn 105 (upd (Fn 105) k x)) := by
  have h : e0X cI QA zz g ad cn In (va_up Fn 105 (upd (Fn 105) k x)) = va_up (e0X cI QA zz g ad cn In Fn) k ((ad 10 k), .inr (2, [.int (Fn 100 k), .int (Fn 101 k), .int (Fn 102 k), .int (Fn 103 k), .int (Fn 104 k), .int (Fn 105 k), .int (Fn 106 k), .int (Fn 107 k), .int (Fn 108 k), .int (Fn 109 k), .ref (ad 5 (ad 3 k))].set 5 (.int x))) := funext fun j => by
    by_cases q : j = k
    · subst q; simp [e0X, va_up, upd]
    · simp [e0X, va_up, upd, q]
  unfold wX
  rw [fxW_set (p := ((cn 10), e0X cI QA zz g ad cn In Fn)) rfl hk]
  exact congrArg (fun f => fxX cI QA zz g ad cn In Fn ++ famW ((fsX cI QA zz g ad cn In Fn).set 0 ((cn 10), f))) h.symm
theorem xs_106 {cI QA : ClassId} {zz : Nat} {g : Nat → Nat} {ad : Nat → Nat → Nat} {cn : Nat → Nat} {In : Nat → Int32} {Fn : Nat → Nat → Int32} {k : Nat} {x : Int32} (hk : k < (cn 10)) : (wX cI QA zz g ad cn In Fn).set ((fxX cI QA zz g ad cn In Fn).length + (famO (fsX cI QA zz g ad cn In Fn) 0 + k)) ((ad 10 k), .inr (2, [.int (Fn 100 k), .int (Fn 101 k), .int (Fn 102 k), .int (Fn 103 k), .int (Fn 104 k), .int (Fn 105 k), .int (Fn 106 k), .int (Fn 107 k), .int (Fn 108 k), .int (Fn 109 k), .ref (ad 5 (ad 3 k))].set 6 (.int x))) = wX cI QA zz g ad cn In (va_up Fn 106 (upd (Fn 106) k x)) := by
  have h : e0X cI QA zz g ad cn In (va_up Fn 106 (upd (Fn 106) k x)) = va_up (e0X cI QA zz g ad cn In Fn) k ((ad 10 k), .inr (2, [.int (Fn 100 k), .int (Fn 101 k), .int (Fn 102 k), .int (Fn 103 k), .int (Fn 104 k), .int (Fn 105 k), .int (Fn 106 k), .int (Fn 107 k), .int (Fn 108 k), .int (Fn 109 k), .ref (ad 5 (ad 3 k))].set 6 (.int x))) := funext fun j => by
    by_cases q : j = k
    · subst q; simp [e0X, va_up, upd]
    · simp [e0X, va_up, upd, q]
  unfold wX
  rw [fxW_set (p := ((cn 10), e0X cI QA zz g ad cn In Fn)) rfl hk]
  exact congrArg (fun f => fxX cI QA zz g ad cn In Fn ++ famW ((fsX cI QA zz g ad cn In Fn).set 0 ((cn 10), f))) h.symm
theorem xs_107 {cI QA : ClassId} {zz : Nat} {g : Nat → Nat} {ad : Nat → Nat → Nat} {cn : Nat → Nat} {In : Nat → Int32} {Fn : Nat → Nat → Int32} {k : Nat} {x : Int32} (hk : k < (cn 10)) : (wX cI QA zz g ad cn In Fn).set ((fxX cI QA zz g ad cn In Fn).length + (famO (fsX cI QA zz g ad cn In Fn) 0 + k)) ((ad 10 k), .inr (2, [.int (Fn 100 k), .int (Fn 101 k), .int (Fn 102 k), .int (Fn 103 k), .int (Fn 104 k), .int (Fn 105 k), .int (Fn 106 k), .int (Fn 107 k), .int (Fn 108 k), .int (Fn 109 k), .ref (ad 5 (ad 3 k))].set 7 (.int x))) = wX cI QA zz g ad cn In (va_up Fn 107 (upd (Fn 107) k x)) := by
  have h : e0X cI QA zz g ad cn In (va_up Fn 107 (upd (Fn 107) k x)) = va_up (e0X cI QA zz g ad cn In Fn) k ((ad 10 k), .inr (2, [.int (Fn 100 k), .int (Fn 101 k), .int (Fn 102 k), .int (Fn 103 k), .int (Fn 104 k), .int (Fn 105 k), .int (Fn 106 k), .int (Fn 107 k), .int (Fn 108 k), .int (Fn 109 k), .ref (ad 5 (ad 3 k))].set 7 (.int x))) := funext fun j => by
    by_cases q : j = k
    · subst q; simp [e0X, va_up, upd]
    · simp [e0X, va_up, upd, q]
  unfold wX
  rw [fxW_set (p := ((cn 10), e0X cI QA zz g ad cn In Fn)) rfl hk]
  exact congrArg (fun f => fxX cI QA zz g ad cn In Fn ++ famW ((fsX cI QA zz g ad cn In Fn).set 0 ((cn 10), f))) h.symm
theorem xs_108 {cI QA : ClassId} {zz : Nat} {g : Nat → Nat} {ad : Nat → Nat → Nat} {cn : Nat → Nat} {In : Nat → Int32} {Fn : Nat → Nat → Int32} {k : Nat} {x : Int32} (hk : k < (cn 10)) : (wX cI QA zz g ad cn In Fn).set ((fxX cI QA zz g ad cn In Fn).length + (famO (fsX cI QA zz g ad cn In Fn) 0 + k)) ((ad 10 k), .inr (2, [.int (Fn 100 k), .int (Fn 101 k), .int (Fn 102 k), .int (Fn 103 k), .int (Fn 104 k), .int (Fn 105 k), .int (Fn 106 k), .int (Fn 107 k), .int (Fn 108 k), .int (Fn 109 k), .ref (ad 5 (ad 3 k))].set 8 (.int x))) = wX cI QA zz g ad cn In (va_up Fn 108 (upd (Fn 108) k x)) := by
  have h : e0X cI QA zz g ad cn In (va_up Fn 108 (upd (Fn 108) k x)) = va_up (e0X cI QA zz g ad cn In Fn) k ((ad 10 k), .inr (2, [.int (Fn 100 k), .int (Fn 101 k), .int (Fn 102 k), .int (Fn 103 k), .int (Fn 104 k), .int (Fn 105 k), .int (Fn 106 k), .int (Fn 107 k), .int (Fn 108 k), .int (Fn 109 k), .ref (ad 5 (ad 3 k))].set 8 (.int x))) := funext fun j => by
    by_cases q : j = k
    · subst q; simp [e0X, va_up, upd]
    · simp [e0X, va_up, upd, q]
  unfold wX
  rw [fxW_set (p := ((cn 10), e0X cI QA zz g ad cn In Fn)) rfl hk]
  exact congrArg (fun f => fxX cI QA zz g ad cn In Fn ++ famW ((fsX cI QA zz g ad cn In Fn).set 0 ((cn 10), f))) h.symm
theorem xs_109 {cI QA : ClassId} {zz : Nat} {g : Nat → Nat} {ad : Nat → Nat → Nat} {cn : Nat → Nat} {In : Nat → Int32} {Fn : Nat → Nat → Int32} {k : Nat} {x : Int32} (hk : k < (cn 10)) : (wX cI QA zz g ad cn In Fn).set ((fxX cI QA zz g ad cn In Fn).length + (famO (fsX cI QA zz g ad cn In Fn) 0 + k)) ((ad 10 k), .inr (2, [.int (Fn 100 k), .int (Fn 101 k), .int (Fn 102 k), .int (Fn 103 k), .int (Fn 104 k), .int (Fn 105 k), .int (Fn 106 k), .int (Fn 107 k), .int (Fn 108 k), .int (Fn 109 k), .ref (ad 5 (ad 3 k))].set 9 (.int x))) = wX cI QA zz g ad cn In (va_up Fn 109 (upd (Fn 109) k x)) := by
  have h : e0X cI QA zz g ad cn In (va_up Fn 109 (upd (Fn 109) k x)) = va_up (e0X cI QA zz g ad cn In Fn) k ((ad 10 k), .inr (2, [.int (Fn 100 k), .int (Fn 101 k), .int (Fn 102 k), .int (Fn 103 k), .int (Fn 104 k), .int (Fn 105 k), .int (Fn 106 k), .int (Fn 107 k), .int (Fn 108 k), .int (Fn 109 k), .ref (ad 5 (ad 3 k))].set 9 (.int x))) := funext fun j => by
    by_cases q : j = k
    · subst q; simp [e0X, va_up, upd]
    · simp [e0X, va_up, upd, q]
  unfold wX
  rw [fxW_set (p := ((cn 10), e0X cI QA zz g ad cn In Fn)) rfl hk]
  exact congrArg (fun f => fxX cI QA zz g ad cn In Fn ++ famW ((fsX cI QA zz g ad cn In Fn).set 0 ((cn 10), f))) h.symm
theorem xs_129 {cI QA : ClassId} {zz : Nat} {g : Nat → Nat} {ad : Nat → Nat → Nat} {cn : Nat → Nat} {In : Nat → Int32} {Fn : Nat → Nat → Int32} {k : Nat} {x : Int32} (hk : k < (cn 11)) : (wX cI QA zz g ad cn In Fn).set ((fxX cI QA zz g ad cn In Fn).length + (famO (fsX cI QA zz g ad cn In Fn) 1 + k)) ((ad 11 k), .inr (3, [.int (Fn 120 k), .int (Fn 121 k), .int (Fn 122 k), .int (Fn 123 k), .int (Fn 124 k), .int (Fn 125 k), .int (Fn 126 k), .int (Fn 127 k), .int (Fn 128 k), .int (Fn 129 k)].set 9 (.int x))) = wX cI QA zz g ad cn In (va_up Fn 129 (upd (Fn 129) k x)) := by
  have h : e1X cI QA zz g ad cn In (va_up Fn 129 (upd (Fn 129) k x)) = va_up (e1X cI QA zz g ad cn In Fn) k ((ad 11 k), .inr (3, [.int (Fn 120 k), .int (Fn 121 k), .int (Fn 122 k), .int (Fn 123 k), .int (Fn 124 k), .int (Fn 125 k), .int (Fn 126 k), .int (Fn 127 k), .int (Fn 128 k), .int (Fn 129 k)].set 9 (.int x))) := funext fun j => by
    by_cases q : j = k
    · subst q; simp [e1X, va_up, upd]
    · simp [e1X, va_up, upd, q]
  unfold wX
  rw [fxW_set (p := ((cn 11), e1X cI QA zz g ad cn In Fn)) rfl hk]
  exact congrArg (fun f => fxX cI QA zz g ad cn In Fn ++ famW ((fsX cI QA zz g ad cn In Fn).set 1 ((cn 11), f))) h.symm
theorem xs_143 {cI QA : ClassId} {zz : Nat} {g : Nat → Nat} {ad : Nat → Nat → Nat} {cn : Nat → Nat} {In : Nat → Int32} {Fn : Nat → Nat → Int32} {k : Nat} {x : Int32} (hk : k < (cn 12)) : (wX cI QA zz g ad cn In Fn).set ((fxX cI QA zz g ad cn In Fn).length + (famO (fsX cI QA zz g ad cn In Fn) 2 + k)) ((ad 12 k), .inr (1, [.ref (ad 1 k), .int (Fn 141 k), .int (Fn 142 k), .int (Fn 143 k), .int (Fn 144 k), .int (Fn 145 k), .int (Fn 146 k), .int (Fn 147 k)].set 3 (.int x))) = wX cI QA zz g ad cn In (va_up Fn 143 (upd (Fn 143) k x)) := by
  have h : e2X cI QA zz g ad cn In (va_up Fn 143 (upd (Fn 143) k x)) = va_up (e2X cI QA zz g ad cn In Fn) k ((ad 12 k), .inr (1, [.ref (ad 1 k), .int (Fn 141 k), .int (Fn 142 k), .int (Fn 143 k), .int (Fn 144 k), .int (Fn 145 k), .int (Fn 146 k), .int (Fn 147 k)].set 3 (.int x))) := funext fun j => by
    by_cases q : j = k
    · subst q; simp [e2X, va_up, upd]
    · simp [e2X, va_up, upd, q]
  unfold wX
  rw [fxW_set (p := ((cn 12), e2X cI QA zz g ad cn In Fn)) rfl hk]
  exact congrArg (fun f => fxX cI QA zz g ad cn In Fn ++ famW ((fsX cI QA zz g ad cn In Fn).set 2 ((cn 12), f))) h.symm
theorem xs_172 {cI QA : ClassId} {zz : Nat} {g : Nat → Nat} {ad : Nat → Nat → Nat} {cn : Nat → Nat} {In : Nat → Int32} {Fn : Nat → Nat → Int32} {k : Nat} {x : Int32} (hk : k < (cn 14)) : (wX cI QA zz g ad cn In Fn).set ((fxX cI QA zz g ad cn In Fn).length + (famO (fsX cI QA zz g ad cn In Fn) 4 + k)) ((ad 14 k), .inr (7, [.int (Fn 170 k), .int (Fn 171 k), .int (Fn 172 k)].set 2 (.int x))) = wX cI QA zz g ad cn In (va_up Fn 172 (upd (Fn 172) k x)) := by
  have h : e4X cI QA zz g ad cn In (va_up Fn 172 (upd (Fn 172) k x)) = va_up (e4X cI QA zz g ad cn In Fn) k ((ad 14 k), .inr (7, [.int (Fn 170 k), .int (Fn 171 k), .int (Fn 172 k)].set 2 (.int x))) := funext fun j => by
    by_cases q : j = k
    · subst q; simp [e4X, va_up, upd]
    · simp [e4X, va_up, upd, q]
  unfold wX
  rw [fxW_set (p := ((cn 14), e4X cI QA zz g ad cn In Fn)) rfl hk]
  exact congrArg (fun f => fxX cI QA zz g ad cn In Fn ++ famW ((fsX cI QA zz g ad cn In Fn).set 4 ((cn 14), f))) h.symm
theorem xs_195 {cI QA : ClassId} {zz : Nat} {g : Nat → Nat} {ad : Nat → Nat → Nat} {cn : Nat → Nat} {In : Nat → Int32} {Fn : Nat → Nat → Int32} {k : Nat} {x : Int32} (hk : k < (cn 6)) : (wX cI QA zz g ad cn In Fn).set ((fxX cI QA zz g ad cn In Fn).length + (famO (fsX cI QA zz g ad cn In Fn) 7 + k)) ((ad 5 k), .inr (10, [.ref (ad 60 k), .ref (ad 61 k), .ref (ad 62 k), .ref (ad 63 k), .ref (ad 64 k), .int (Fn 195 k), .int (Fn 196 k), .int (Fn 197 k), .int (Fn 198 k)].set 5 (.int x))) = wX cI QA zz g ad cn In (va_up Fn 195 (upd (Fn 195) k x)) := by
  have h : e7X cI QA zz g ad cn In (va_up Fn 195 (upd (Fn 195) k x)) = va_up (e7X cI QA zz g ad cn In Fn) k ((ad 5 k), .inr (10, [.ref (ad 60 k), .ref (ad 61 k), .ref (ad 62 k), .ref (ad 63 k), .ref (ad 64 k), .int (Fn 195 k), .int (Fn 196 k), .int (Fn 197 k), .int (Fn 198 k)].set 5 (.int x))) := funext fun j => by
    by_cases q : j = k
    · subst q; simp [e7X, va_up, upd]
    · simp [e7X, va_up, upd, q]
  unfold wX
  rw [fxW_set (p := ((cn 6), e7X cI QA zz g ad cn In Fn)) rfl hk]
  exact congrArg (fun f => fxX cI QA zz g ad cn In Fn ++ famW ((fsX cI QA zz g ad cn In Fn).set 7 ((cn 6), f))) h.symm
theorem xs_196 {cI QA : ClassId} {zz : Nat} {g : Nat → Nat} {ad : Nat → Nat → Nat} {cn : Nat → Nat} {In : Nat → Int32} {Fn : Nat → Nat → Int32} {k : Nat} {x : Int32} (hk : k < (cn 6)) : (wX cI QA zz g ad cn In Fn).set ((fxX cI QA zz g ad cn In Fn).length + (famO (fsX cI QA zz g ad cn In Fn) 7 + k)) ((ad 5 k), .inr (10, [.ref (ad 60 k), .ref (ad 61 k), .ref (ad 62 k), .ref (ad 63 k), .ref (ad 64 k), .int (Fn 195 k), .int (Fn 196 k), .int (Fn 197 k), .int (Fn 198 k)].set 6 (.int x))) = wX cI QA zz g ad cn In (va_up Fn 196 (upd (Fn 196) k x)) := by
  have h : e7X cI QA zz g ad cn In (va_up Fn 196 (upd (Fn 196) k x)) = va_up (e7X cI QA zz g ad cn In Fn) k ((ad 5 k), .inr (10, [.ref (ad 60 k), .ref (ad 61 k), .ref (ad 62 k), .ref (ad 63 k), .ref (ad 64 k), .int (Fn 195 k), .int (Fn 196 k), .int (Fn 197 k), .int (Fn 198 k)].set 6 (.int x))) := funext fun j => by
    by_cases q : j = k
    · subst q; simp [e7X, va_up, upd]
    · simp [e7X, va_up, upd, q]
  unfold wX
  rw [fxW_set (p := ((cn 6), e7X cI QA zz g ad cn In Fn)) rfl hk]
  exact congrArg (fun f => fxX cI QA zz g ad cn In Fn ++ famW ((fsX cI QA zz g ad cn In Fn).set 7 ((cn 6), f))) h.symm
theorem xs_197 {cI QA : ClassId} {zz : Nat} {g : Nat → Nat} {ad : Nat → Nat → Nat} {cn : Nat → Nat} {In : Nat → Int32} {Fn : Nat → Nat → Int32} {k : Nat} {x : Int32} (hk : k < (cn 6)) : (wX cI QA zz g ad cn In Fn).set ((fxX cI QA zz g ad cn In Fn).length + (famO (fsX cI QA zz g ad cn In Fn) 7 + k)) ((ad 5 k), .inr (10, [.ref (ad 60 k), .ref (ad 61 k), .ref (ad 62 k), .ref (ad 63 k), .ref (ad 64 k), .int (Fn 195 k), .int (Fn 196 k), .int (Fn 197 k), .int (Fn 198 k)].set 7 (.int x))) = wX cI QA zz g ad cn In (va_up Fn 197 (upd (Fn 197) k x)) := by
  have h : e7X cI QA zz g ad cn In (va_up Fn 197 (upd (Fn 197) k x)) = va_up (e7X cI QA zz g ad cn In Fn) k ((ad 5 k), .inr (10, [.ref (ad 60 k), .ref (ad 61 k), .ref (ad 62 k), .ref (ad 63 k), .ref (ad 64 k), .int (Fn 195 k), .int (Fn 196 k), .int (Fn 197 k), .int (Fn 198 k)].set 7 (.int x))) := funext fun j => by
    by_cases q : j = k
    · subst q; simp [e7X, va_up, upd]
    · simp [e7X, va_up, upd, q]
  unfold wX
  rw [fxW_set (p := ((cn 6), e7X cI QA zz g ad cn In Fn)) rfl hk]
  exact congrArg (fun f => fxX cI QA zz g ad cn In Fn ++ famW ((fsX cI QA zz g ad cn In Fn).set 7 ((cn 6), f))) h.symm
theorem xs_198 {cI QA : ClassId} {zz : Nat} {g : Nat → Nat} {ad : Nat → Nat → Nat} {cn : Nat → Nat} {In : Nat → Int32} {Fn : Nat → Nat → Int32} {k : Nat} {x : Int32} (hk : k < (cn 6)) : (wX cI QA zz g ad cn In Fn).set ((fxX cI QA zz g ad cn In Fn).length + (famO (fsX cI QA zz g ad cn In Fn) 7 + k)) ((ad 5 k), .inr (10, [.ref (ad 60 k), .ref (ad 61 k), .ref (ad 62 k), .ref (ad 63 k), .ref (ad 64 k), .int (Fn 195 k), .int (Fn 196 k), .int (Fn 197 k), .int (Fn 198 k)].set 8 (.int x))) = wX cI QA zz g ad cn In (va_up Fn 198 (upd (Fn 198) k x)) := by
  have h : e7X cI QA zz g ad cn In (va_up Fn 198 (upd (Fn 198) k x)) = va_up (e7X cI QA zz g ad cn In Fn) k ((ad 5 k), .inr (10, [.ref (ad 60 k), .ref (ad 61 k), .ref (ad 62 k), .ref (ad 63 k), .ref (ad 64 k), .int (Fn 195 k), .int (Fn 196 k), .int (Fn 197 k), .int (Fn 198 k)].set 8 (.int x))) := funext fun j => by
    by_cases q : j = k
    · subst q; simp [e7X, va_up, upd]
    · simp [e7X, va_up, upd, q]
  unfold wX
  rw [fxW_set (p := ((cn 6), e7X cI QA zz g ad cn In Fn)) rfl hk]
  exact congrArg (fun f => fxX cI QA zz g ad cn In Fn ++ famW ((fsX cI QA zz g ad cn In Fn).set 7 ((cn 6), f))) h.symm
theorem xsg_6 {cI QA : ClassId} {zz : Nat} {g : Nat → Nat} {ad : Nat → Nat → Nat} {cn : Nat → Nat} {In : Nat → Int32} {Fn : Nat → Nat → Int32} {k : Nat} {f : Nat → Int32} (hk : k < (cn 12)) (hf : ∀ i : Nat, 12 ≤ i → f i = 0) : (wX cI QA zz g ad cn In Fn).set ((fxX cI QA zz g ad cn In Fn).length + (famO (fsX cI QA zz g ad cn In Fn) 6 + k)) ((ad 1 k), .inl (cI, 12, .inl f)) = wX cI QA zz g ad cn In (va_up Fn 150 (flat (Fn 150) 12 k f)) := by
  have h : e6X cI QA zz g ad cn In (va_up Fn 150 (flat (Fn 150) 12 k f)) = va_up (e6X cI QA zz g ad cn In Fn) k ((ad 1 k), .inl (cI, 12, .inl f)) := funext fun j => by
    by_cases q : j = k
    · subst q; simp [e6X, va_up, gA_flat (F := Fn 150) (f := f) (st := 12) (k := j) (by decide) hf]
    · simp [e6X, va_up, q, gA_flat_ne (F := Fn 150) (f := f) (st := 12) (k := k) (by decide) q]
  unfold wX
  rw [fxW_set (p := ((cn 12), e6X cI QA zz g ad cn In Fn)) rfl hk]
  exact congrArg (fun f => fxX cI QA zz g ad cn In Fn ++ famW ((fsX cI QA zz g ad cn In Fn).set 6 ((cn 12), f))) h.symm
theorem xsg_8 {cI QA : ClassId} {zz : Nat} {g : Nat → Nat} {ad : Nat → Nat → Nat} {cn : Nat → Nat} {In : Nat → Int32} {Fn : Nat → Nat → Int32} {k : Nat} {f : Nat → Int32} (hk : k < (cn 6)) (hf : ∀ i : Nat, 200 ≤ i → f i = 0) : (wX cI QA zz g ad cn In Fn).set ((fxX cI QA zz g ad cn In Fn).length + (famO (fsX cI QA zz g ad cn In Fn) 8 + k)) ((ad 60 k), .inl (cI, (Fn 199 k).toInt.toNat, .inl f)) = wX cI QA zz g ad cn In (va_up Fn 301 (flat (Fn 301) 200 k f)) := by
  have h : e8X cI QA zz g ad cn In (va_up Fn 301 (flat (Fn 301) 200 k f)) = va_up (e8X cI QA zz g ad cn In Fn) k ((ad 60 k), .inl (cI, (Fn 199 k).toInt.toNat, .inl f)) := funext fun j => by
    by_cases q : j = k
    · subst q; simp [e8X, va_up, gA_flat (F := Fn 301) (f := f) (st := 200) (k := j) (by decide) hf]
    · simp [e8X, va_up, q, gA_flat_ne (F := Fn 301) (f := f) (st := 200) (k := k) (by decide) q]
  unfold wX
  rw [fxW_set (p := ((cn 6), e8X cI QA zz g ad cn In Fn)) rfl hk]
  exact congrArg (fun f => fxX cI QA zz g ad cn In Fn ++ famW ((fsX cI QA zz g ad cn In Fn).set 8 ((cn 6), f))) h.symm
theorem xsg_9 {cI QA : ClassId} {zz : Nat} {g : Nat → Nat} {ad : Nat → Nat → Nat} {cn : Nat → Nat} {In : Nat → Int32} {Fn : Nat → Nat → Int32} {k : Nat} {f : Nat → Int32} (hk : k < (cn 6)) (hf : ∀ i : Nat, 12 ≤ i → f i = 0) : (wX cI QA zz g ad cn In Fn).set ((fxX cI QA zz g ad cn In Fn).length + (famO (fsX cI QA zz g ad cn In Fn) 9 + k)) ((ad 61 k), .inl (cI, 12, .inl f)) = wX cI QA zz g ad cn In (va_up Fn 302 (flat (Fn 302) 12 k f)) := by
  have h : e9X cI QA zz g ad cn In (va_up Fn 302 (flat (Fn 302) 12 k f)) = va_up (e9X cI QA zz g ad cn In Fn) k ((ad 61 k), .inl (cI, 12, .inl f)) := funext fun j => by
    by_cases q : j = k
    · subst q; simp [e9X, va_up, gA_flat (F := Fn 302) (f := f) (st := 12) (k := j) (by decide) hf]
    · simp [e9X, va_up, q, gA_flat_ne (F := Fn 302) (f := f) (st := 12) (k := k) (by decide) q]
  unfold wX
  rw [fxW_set (p := ((cn 6), e9X cI QA zz g ad cn In Fn)) rfl hk]
  exact congrArg (fun f => fxX cI QA zz g ad cn In Fn ++ famW ((fsX cI QA zz g ad cn In Fn).set 9 ((cn 6), f))) h.symm
theorem xsg_10 {cI QA : ClassId} {zz : Nat} {g : Nat → Nat} {ad : Nat → Nat → Nat} {cn : Nat → Nat} {In : Nat → Int32} {Fn : Nat → Nat → Int32} {k : Nat} {f : Nat → Int32} (hk : k < (cn 6)) (hf : ∀ i : Nat, 12 ≤ i → f i = 0) : (wX cI QA zz g ad cn In Fn).set ((fxX cI QA zz g ad cn In Fn).length + (famO (fsX cI QA zz g ad cn In Fn) 10 + k)) ((ad 62 k), .inl (cI, 12, .inl f)) = wX cI QA zz g ad cn In (va_up Fn 303 (flat (Fn 303) 12 k f)) := by
  have h : e10X cI QA zz g ad cn In (va_up Fn 303 (flat (Fn 303) 12 k f)) = va_up (e10X cI QA zz g ad cn In Fn) k ((ad 62 k), .inl (cI, 12, .inl f)) := funext fun j => by
    by_cases q : j = k
    · subst q; simp [e10X, va_up, gA_flat (F := Fn 303) (f := f) (st := 12) (k := j) (by decide) hf]
    · simp [e10X, va_up, q, gA_flat_ne (F := Fn 303) (f := f) (st := 12) (k := k) (by decide) q]
  unfold wX
  rw [fxW_set (p := ((cn 6), e10X cI QA zz g ad cn In Fn)) rfl hk]
  exact congrArg (fun f => fxX cI QA zz g ad cn In Fn ++ famW ((fsX cI QA zz g ad cn In Fn).set 10 ((cn 6), f))) h.symm
theorem xsg_11 {cI QA : ClassId} {zz : Nat} {g : Nat → Nat} {ad : Nat → Nat → Nat} {cn : Nat → Nat} {In : Nat → Int32} {Fn : Nat → Nat → Int32} {k : Nat} {f : Nat → Int32} (hk : k < (cn 6)) (hf : ∀ i : Nat, 12 ≤ i → f i = 0) : (wX cI QA zz g ad cn In Fn).set ((fxX cI QA zz g ad cn In Fn).length + (famO (fsX cI QA zz g ad cn In Fn) 11 + k)) ((ad 63 k), .inl (cI, 12, .inl f)) = wX cI QA zz g ad cn In (va_up Fn 304 (flat (Fn 304) 12 k f)) := by
  have h : e11X cI QA zz g ad cn In (va_up Fn 304 (flat (Fn 304) 12 k f)) = va_up (e11X cI QA zz g ad cn In Fn) k ((ad 63 k), .inl (cI, 12, .inl f)) := funext fun j => by
    by_cases q : j = k
    · subst q; simp [e11X, va_up, gA_flat (F := Fn 304) (f := f) (st := 12) (k := j) (by decide) hf]
    · simp [e11X, va_up, q, gA_flat_ne (F := Fn 304) (f := f) (st := 12) (k := k) (by decide) q]
  unfold wX
  rw [fxW_set (p := ((cn 6), e11X cI QA zz g ad cn In Fn)) rfl hk]
  exact congrArg (fun f => fxX cI QA zz g ad cn In Fn ++ famW ((fsX cI QA zz g ad cn In Fn).set 11 ((cn 6), f))) h.symm
theorem xsg_12 {cI QA : ClassId} {zz : Nat} {g : Nat → Nat} {ad : Nat → Nat → Nat} {cn : Nat → Nat} {In : Nat → Int32} {Fn : Nat → Nat → Int32} {k : Nat} {f : Nat → Int32} (hk : k < (cn 6)) (hf : ∀ i : Nat, 32 ≤ i → f i = 0) : (wX cI QA zz g ad cn In Fn).set ((fxX cI QA zz g ad cn In Fn).length + (famO (fsX cI QA zz g ad cn In Fn) 12 + k)) ((ad 64 k), .inl (cI, 32, .inl f)) = wX cI QA zz g ad cn In (va_up Fn 305 (flat (Fn 305) 32 k f)) := by
  have h : e12X cI QA zz g ad cn In (va_up Fn 305 (flat (Fn 305) 32 k f)) = va_up (e12X cI QA zz g ad cn In Fn) k ((ad 64 k), .inl (cI, 32, .inl f)) := funext fun j => by
    by_cases q : j = k
    · subst q; simp [e12X, va_up, gA_flat (F := Fn 305) (f := f) (st := 32) (k := j) (by decide) hf]
    · simp [e12X, va_up, q, gA_flat_ne (F := Fn 305) (f := f) (st := 32) (k := k) (by decide) q]
  unfold wX
  rw [fxW_set (p := ((cn 6), e12X cI QA zz g ad cn In Fn)) rfl hk]
  exact congrArg (fun f => fxX cI QA zz g ad cn In Fn ++ famW ((fsX cI QA zz g ad cn In Fn).set 12 ((cn 6), f))) h.symm
theorem xsf_0_0 {cI QA : ClassId} {zz : Nat} {g : Nat → Nat} {ad : Nat → Nat → Nat} {cn : Nat → Nat} {In : Nat → Int32} {Fn : Nat → Nat → Int32} {x : Nat} : (wX cI QA zz g ad cn In Fn).set 0 ((g 0), .inr (12, [.int (nI (cn 0)), .int (nI (cn 1)), .int (nI (cn 2)), .int (nI (cn 5)), .ref (ad 5 (ad 4 0)), .ref (g 5), .ref (g 6), .ref (g 7), .ref (g 8), .ref (g 9), .ref (g 10), .ref (g 11), .ref (g 12), .ref (g 13), .ref (g 14), .ref (g 15)].set 0 (.int (nI x)))) = wX cI QA zz g ad (va_up cn 0 x) In Fn := rfl
theorem xsf_0_1 {cI QA : ClassId} {zz : Nat} {g : Nat → Nat} {ad : Nat → Nat → Nat} {cn : Nat → Nat} {In : Nat → Int32} {Fn : Nat → Nat → Int32} {x : Nat} : (wX cI QA zz g ad cn In Fn).set 0 ((g 0), .inr (12, [.int (nI (cn 0)), .int (nI (cn 1)), .int (nI (cn 2)), .int (nI (cn 5)), .ref (ad 5 (ad 4 0)), .ref (g 5), .ref (g 6), .ref (g 7), .ref (g 8), .ref (g 9), .ref (g 10), .ref (g 11), .ref (g 12), .ref (g 13), .ref (g 14), .ref (g 15)].set 1 (.int (nI x)))) = wX cI QA zz g ad (va_up cn 1 x) In Fn := rfl
theorem xsf_0_2 {cI QA : ClassId} {zz : Nat} {g : Nat → Nat} {ad : Nat → Nat → Nat} {cn : Nat → Nat} {In : Nat → Int32} {Fn : Nat → Nat → Int32} {x : Nat} : (wX cI QA zz g ad cn In Fn).set 0 ((g 0), .inr (12, [.int (nI (cn 0)), .int (nI (cn 1)), .int (nI (cn 2)), .int (nI (cn 5)), .ref (ad 5 (ad 4 0)), .ref (g 5), .ref (g 6), .ref (g 7), .ref (g 8), .ref (g 9), .ref (g 10), .ref (g 11), .ref (g 12), .ref (g 13), .ref (g 14), .ref (g 15)].set 2 (.int (nI x)))) = wX cI QA zz g ad (va_up cn 2 x) In Fn := rfl
theorem xsf_0_3 {cI QA : ClassId} {zz : Nat} {g : Nat → Nat} {ad : Nat → Nat → Nat} {cn : Nat → Nat} {In : Nat → Int32} {Fn : Nat → Nat → Int32} {x : Nat} : (wX cI QA zz g ad cn In Fn).set 0 ((g 0), .inr (12, [.int (nI (cn 0)), .int (nI (cn 1)), .int (nI (cn 2)), .int (nI (cn 5)), .ref (ad 5 (ad 4 0)), .ref (g 5), .ref (g 6), .ref (g 7), .ref (g 8), .ref (g 9), .ref (g 10), .ref (g 11), .ref (g 12), .ref (g 13), .ref (g 14), .ref (g 15)].set 3 (.int (nI x)))) = wX cI QA zz g ad (va_up cn 5 x) In Fn := rfl
theorem xsf_1_1 {cI QA : ClassId} {zz : Nat} {g : Nat → Nat} {ad : Nat → Nat → Nat} {cn : Nat → Nat} {In : Nat → Int32} {Fn : Nat → Nat → Int32} {x : Nat} : (wX cI QA zz g ad cn In Fn).set 1 ((g 5), .inr (9, [.ref (g 40), .int (nI (cn 3))].set 1 (.int (nI x)))) = wX cI QA zz g ad (va_up cn 3 x) In Fn := rfl
theorem xsa_2 {cI QA : ClassId} {zz : Nat} {g : Nat → Nat} {ad : Nat → Nat → Nat} {cn : Nat → Nat} {In : Nat → Int32} {Fn : Nat → Nat → Int32} {f : Nat → Int32} : (wX cI QA zz g ad cn In Fn).set 2 ((g 40), .inl (cI, 200, .inl f)) = wX cI QA zz g ad cn In (va_up Fn 40 f) := rfl
theorem xsf_3_2 {cI QA : ClassId} {zz : Nat} {g : Nat → Nat} {ad : Nat → Nat → Nat} {cn : Nat → Nat} {In : Nat → Int32} {Fn : Nat → Nat → Int32} {x : Int32} : (wX cI QA zz g ad cn In Fn).set 3 ((g 6), .inr (6, [.ref (ad 4 2), .ref (ad 5 (ad 4 1)), .int (In 30), .int (nI (cn 31)), .int (nI (cn 32)), .int (In 33)].set 2 (.int x))) = wX cI QA zz g ad cn (va_up In 30 x) Fn := rfl
theorem xsf_3_3 {cI QA : ClassId} {zz : Nat} {g : Nat → Nat} {ad : Nat → Nat → Nat} {cn : Nat → Nat} {In : Nat → Int32} {Fn : Nat → Nat → Int32} {x : Nat} : (wX cI QA zz g ad cn In Fn).set 3 ((g 6), .inr (6, [.ref (ad 4 2), .ref (ad 5 (ad 4 1)), .int (In 30), .int (nI (cn 31)), .int (nI (cn 32)), .int (In 33)].set 3 (.int (nI x)))) = wX cI QA zz g ad (va_up cn 31 x) In Fn := rfl
theorem xsf_3_4 {cI QA : ClassId} {zz : Nat} {g : Nat → Nat} {ad : Nat → Nat → Nat} {cn : Nat → Nat} {In : Nat → Int32} {Fn : Nat → Nat → Int32} {x : Nat} : (wX cI QA zz g ad cn In Fn).set 3 ((g 6), .inr (6, [.ref (ad 4 2), .ref (ad 5 (ad 4 1)), .int (In 30), .int (nI (cn 31)), .int (nI (cn 32)), .int (In 33)].set 4 (.int (nI x)))) = wX cI QA zz g ad (va_up cn 32 x) In Fn := rfl
theorem xsf_3_5 {cI QA : ClassId} {zz : Nat} {g : Nat → Nat} {ad : Nat → Nat → Nat} {cn : Nat → Nat} {In : Nat → Int32} {Fn : Nat → Nat → Int32} {x : Int32} : (wX cI QA zz g ad cn In Fn).set 3 ((g 6), .inr (6, [.ref (ad 4 2), .ref (ad 5 (ad 4 1)), .int (In 30), .int (nI (cn 31)), .int (nI (cn 32)), .int (In 33)].set 5 (.int x))) = wX cI QA zz g ad cn (va_up In 33 x) Fn := rfl
theorem xsa_5 {cI QA : ClassId} {zz : Nat} {g : Nat → Nat} {ad : Nat → Nat → Nat} {cn : Nat → Nat} {In : Nat → Int32} {Fn : Nat → Nat → Int32} {f : Nat → Int32} : (wX cI QA zz g ad cn In Fn).set 5 ((g 7), .inl (cI, 11, .inl f)) = wX cI QA zz g ad cn In (va_up Fn 7 f) := rfl
theorem xsa_7 {cI QA : ClassId} {zz : Nat} {g : Nat → Nat} {ad : Nat → Nat → Nat} {cn : Nat → Nat} {In : Nat → Int32} {Fn : Nat → Nat → Int32} {f : Nat → Int32} : (wX cI QA zz g ad cn In Fn).set 7 ((g 20), .inl (cI, 58, .inl f)) = wX cI QA zz g ad cn In (va_up Fn 20 f) := rfl
theorem xsr_7 {cI QA : ClassId} {zz : Nat} {g : Nat → Nat} {ad : Nat → Nat → Nat} {cn : Nat → Nat} {In : Nat → Int32} {Fn : Nat → Nat → Int32} : (wX cI QA zz g ad cn In Fn).set 7 ((g 20), .inl (cI, 58, .inl (Fn 20))) = wX cI QA zz g ad cn In Fn := rfl
theorem xsa_8 {cI QA : ClassId} {zz : Nat} {g : Nat → Nat} {ad : Nat → Nat → Nat} {cn : Nat → Nat} {In : Nat → Int32} {Fn : Nat → Nat → Int32} {f : Nat → Int32} : (wX cI QA zz g ad cn In Fn).set 8 ((g 21), .inl (cI, 24, .inl f)) = wX cI QA zz g ad cn In (va_up Fn 21 f) := rfl
theorem xsr_8 {cI QA : ClassId} {zz : Nat} {g : Nat → Nat} {ad : Nat → Nat → Nat} {cn : Nat → Nat} {In : Nat → Int32} {Fn : Nat → Nat → Int32} : (wX cI QA zz g ad cn In Fn).set 8 ((g 21), .inl (cI, 24, .inl (Fn 21))) = wX cI QA zz g ad cn In Fn := rfl
theorem xsa_9 {cI QA : ClassId} {zz : Nat} {g : Nat → Nat} {ad : Nat → Nat → Nat} {cn : Nat → Nat} {In : Nat → Int32} {Fn : Nat → Nat → Int32} {f : Nat → Int32} : (wX cI QA zz g ad cn In Fn).set 9 ((g 22), .inl (cI, 400, .inl f)) = wX cI QA zz g ad cn In (va_up Fn 22 f) := rfl
theorem xsr_9 {cI QA : ClassId} {zz : Nat} {g : Nat → Nat} {ad : Nat → Nat → Nat} {cn : Nat → Nat} {In : Nat → Int32} {Fn : Nat → Nat → Int32} : (wX cI QA zz g ad cn In Fn).set 9 ((g 22), .inl (cI, 400, .inl (Fn 22))) = wX cI QA zz g ad cn In Fn := rfl
theorem xsa_10 {cI QA : ClassId} {zz : Nat} {g : Nat → Nat} {ad : Nat → Nat → Nat} {cn : Nat → Nat} {In : Nat → Int32} {Fn : Nat → Nat → Int32} {f : Nat → Int32} : (wX cI QA zz g ad cn In Fn).set 10 ((g 23), .inl (cI, 400, .inl f)) = wX cI QA zz g ad cn In (va_up Fn 23 f) := rfl
theorem xsr_10 {cI QA : ClassId} {zz : Nat} {g : Nat → Nat} {ad : Nat → Nat → Nat} {cn : Nat → Nat} {In : Nat → Int32} {Fn : Nat → Nat → Int32} : (wX cI QA zz g ad cn In Fn).set 10 ((g 23), .inl (cI, 400, .inl (Fn 23))) = wX cI QA zz g ad cn In Fn := rfl
theorem xsa_11 {cI QA : ClassId} {zz : Nat} {g : Nat → Nat} {ad : Nat → Nat → Nat} {cn : Nat → Nat} {In : Nat → Int32} {Fn : Nat → Nat → Int32} {f : Nat → Int32} : (wX cI QA zz g ad cn In Fn).set 11 ((g 24), .inl (cI, 10, .inl f)) = wX cI QA zz g ad cn In (va_up Fn 24 f) := rfl
theorem xsr_11 {cI QA : ClassId} {zz : Nat} {g : Nat → Nat} {ad : Nat → Nat → Nat} {cn : Nat → Nat} {In : Nat → Int32} {Fn : Nat → Nat → Int32} : (wX cI QA zz g ad cn In Fn).set 11 ((g 24), .inl (cI, 10, .inl (Fn 24))) = wX cI QA zz g ad cn In Fn := rfl
theorem xsa_12 {cI QA : ClassId} {zz : Nat} {g : Nat → Nat} {ad : Nat → Nat → Nat} {cn : Nat → Nat} {In : Nat → Int32} {Fn : Nat → Nat → Int32} {f : Nat → Int32} : (wX cI QA zz g ad cn In Fn).set 12 ((g 25), .inl (cI, 10, .inl f)) = wX cI QA zz g ad cn In (va_up Fn 25 f) := rfl
theorem xsr_12 {cI QA : ClassId} {zz : Nat} {g : Nat → Nat} {ad : Nat → Nat → Nat} {cn : Nat → Nat} {In : Nat → Int32} {Fn : Nat → Nat → Int32} : (wX cI QA zz g ad cn In Fn).set 12 ((g 25), .inl (cI, 10, .inl (Fn 25))) = wX cI QA zz g ad cn In Fn := rfl
theorem xsa_13 {cI QA : ClassId} {zz : Nat} {g : Nat → Nat} {ad : Nat → Nat → Nat} {cn : Nat → Nat} {In : Nat → Int32} {Fn : Nat → Nat → Int32} {f : Nat → Int32} : (wX cI QA zz g ad cn In Fn).set 13 ((g 26), .inl (cI, 232, .inl f)) = wX cI QA zz g ad cn In (va_up Fn 26 f) := rfl
theorem xsr_13 {cI QA : ClassId} {zz : Nat} {g : Nat → Nat} {ad : Nat → Nat → Nat} {cn : Nat → Nat} {In : Nat → Int32} {Fn : Nat → Nat → Int32} : (wX cI QA zz g ad cn In Fn).set 13 ((g 26), .inl (cI, 232, .inl (Fn 26))) = wX cI QA zz g ad cn In Fn := rfl
theorem xsa_14 {cI QA : ClassId} {zz : Nat} {g : Nat → Nat} {ad : Nat → Nat → Nat} {cn : Nat → Nat} {In : Nat → Int32} {Fn : Nat → Nat → Int32} {f : Nat → Int32} : (wX cI QA zz g ad cn In Fn).set 14 ((g 27), .inl (cI, 3, .inl f)) = wX cI QA zz g ad cn In (va_up Fn 27 f) := rfl
theorem xsa_15 {cI QA : ClassId} {zz : Nat} {g : Nat → Nat} {ad : Nat → Nat → Nat} {cn : Nat → Nat} {In : Nat → Int32} {Fn : Nat → Nat → Int32} {f : Nat → Int32} : (wX cI QA zz g ad cn In Fn).set 15 ((g 28), .inl (cI, 1200, .inl f)) = wX cI QA zz g ad cn In (va_up Fn 28 f) := rfl
theorem xsa_16 {cI QA : ClassId} {zz : Nat} {g : Nat → Nat} {ad : Nat → Nat → Nat} {cn : Nat → Nat} {In : Nat → Int32} {Fn : Nat → Nat → Int32} {f : Nat → Int32} : (wX cI QA zz g ad cn In Fn).set 16 ((g 29), .inl (cI, 400, .inl f)) = wX cI QA zz g ad cn In (va_up Fn 29 f) := rfl
theorem xsf_17_6 {cI QA : ClassId} {zz : Nat} {g : Nat → Nat} {ad : Nat → Nat → Nat} {cn : Nat → Nat} {In : Nat → Int32} {Fn : Nat → Nat → Int32} {x : Nat} : (wX cI QA zz g ad cn In Fn).set 17 ((g 9), .inr (11, [.ref (g 30), .ref (g 31), .ref (g 32), .ref (g 33), .ref (g 34), .ref (g 35), .int (nI (cn 4))].set 6 (.int (nI x)))) = wX cI QA zz g ad (va_up cn 4 x) In Fn := rfl
theorem xsa_18 {cI QA : ClassId} {zz : Nat} {g : Nat → Nat} {ad : Nat → Nat → Nat} {cn : Nat → Nat} {In : Nat → Int32} {Fn : Nat → Nat → Int32} {f : Nat → Int32} : (wX cI QA zz g ad cn In Fn).set 18 ((g 30), .inl (cI, 8, .inl f)) = wX cI QA zz g ad cn In (va_up Fn 30 f) := rfl
theorem xsa_19 {cI QA : ClassId} {zz : Nat} {g : Nat → Nat} {ad : Nat → Nat → Nat} {cn : Nat → Nat} {In : Nat → Int32} {Fn : Nat → Nat → Int32} {f : Nat → Int32} : (wX cI QA zz g ad cn In Fn).set 19 ((g 31), .inl (cI, 8, .inl f)) = wX cI QA zz g ad cn In (va_up Fn 31 f) := rfl
theorem xsa_20 {cI QA : ClassId} {zz : Nat} {g : Nat → Nat} {ad : Nat → Nat → Nat} {cn : Nat → Nat} {In : Nat → Int32} {Fn : Nat → Nat → Int32} {f : Nat → Int32} : (wX cI QA zz g ad cn In Fn).set 20 ((g 32), .inl (cI, 8, .inl f)) = wX cI QA zz g ad cn In (va_up Fn 32 f) := rfl
theorem xsa_21 {cI QA : ClassId} {zz : Nat} {g : Nat → Nat} {ad : Nat → Nat → Nat} {cn : Nat → Nat} {In : Nat → Int32} {Fn : Nat → Nat → Int32} {f : Nat → Int32} : (wX cI QA zz g ad cn In Fn).set 21 ((g 33), .inl (cI, 8, .inl f)) = wX cI QA zz g ad cn In (va_up Fn 33 f) := rfl
theorem xsa_22 {cI QA : ClassId} {zz : Nat} {g : Nat → Nat} {ad : Nat → Nat → Nat} {cn : Nat → Nat} {In : Nat → Int32} {Fn : Nat → Nat → Int32} {f : Nat → Int32} : (wX cI QA zz g ad cn In Fn).set 22 ((g 34), .inl (cI, 2048, .inl f)) = wX cI QA zz g ad cn In (va_up Fn 34 f) := rfl
theorem xsa_23 {cI QA : ClassId} {zz : Nat} {g : Nat → Nat} {ad : Nat → Nat → Nat} {cn : Nat → Nat} {In : Nat → Int32} {Fn : Nat → Nat → Int32} {f : Nat → Int32} : (wX cI QA zz g ad cn In Fn).set 23 ((g 35), .inl (cI, 256, .inl f)) = wX cI QA zz g ad cn In (va_up Fn 35 f) := rfl
end

section
/-- the class's counts' bounds -/
abbrev CBX (cn : Nat → Nat) : Prop := cn 0 ≤ 399 ∧ cn 1 ≤ 3 ∧ cn 2 ≤ 20 ∧ cn 3 ≤ 200 ∧ cn 4 ≤ 8 ∧ cn 5 ≤ 40 ∧ cn 10 ≤ 10 ∧ cn 11 ≤ 60 ∧ cn 12 ≤ 10 ∧ cn 13 ≤ 40 ∧ cn 14 ≤ 10 ∧ cn 15 ≤ 60 ∧ cn 10 ≤ cn 20 ∧ cn 11 ≤ cn 21 ∧ cn 12 ≤ cn 22 ∧ cn 13 ≤ cn 23 ∧ cn 14 ≤ cn 24 ∧ cn 15 ≤ cn 25 ∧ cn 20 ≤ 100 ∧ cn 21 ≤ 100 ∧ cn 22 ≤ 100 ∧ cn 23 ≤ 100 ∧ cn 24 ≤ 100 ∧ cn 25 ≤ 100
/-- the same, out of sight -/
def CBXh (cn : Nat → Nat) : Prop := CBX cn
theorem xclass {D : va_G} {tys : List (ClassId × FieldType)} {s : State} (hK : va_K D vwCl tys s) {ci : Nat} {C : String} {T : u_T} {N : Nat} (hc : vwCl[ci]? = some (C, T, N)) : ClassAt s C (D.1 ci) := by
  obtain ⟨hS, hfc, kC, hkC, hkind⟩ := hK.1 ci _ hc
  exact ⟨hfc, kC, hkC, hkind⟩
/-- what Tables.at tells -/
def atM (f : Nat → Int32) (n : Nat) (i : Int32) : Int32 := if 0 ≤ i.toInt ∧ i.toInt < (n : Int) then f i.toNatClampNeg else 0
theorem gA_z {F : Nat → Int32} {st k : Nat} : ∀ i : Nat, st ≤ i → gA F st k i = 0 := fun i hi => if_neg (by omega)
theorem upd_z {f : Nat → Int32} {st : Nat} {v x : Int32} (hv : v.toInt.toNat < st) (hf : ∀ i : Nat, st ≤ i → f i = 0) : ∀ i : Nat, st ≤ i → upd f v.toNatClampNeg x i = 0 := fun i hi => by
  have e : v.toNatClampNeg = v.toInt.toNat := rfl
  unfold upd
  rw [if_neg (by omega)]
  exact hf i hi
/-- what Tables.put leaves -/
def putM (f : Nat → Int32) (n : Nat) (i x : Int32) : Nat → Int32 := if 0 ≤ i.toInt ∧ i.toInt < (n : Int) then upd f i.toNatClampNeg x else f
section XRUN
variable {p : Program} {l : Launch} {e : Env} {R : Room} {s : State} {m : MethodId} {args : Array Value} {below : List Frame} {meth : Method} {c : Code} {H : Heap} {locs : List Loc} {cells slots : Nat} {Q : State → Prop}
variable {cc b : ByteArray} {nL n idx k d mc ms pc sz : Nat} {own : String} {y : MethodName} {ret : Option FieldType} {As rest st : List Value} {ls : Array Slot} {D : va_G} {cI cB cZ : ClassId} {ws wc : va_W} {Qc : Array Value → State → Outcome → State → Prop} {a : Nat} {ci : Nat} {fs : List Value} {free : Addr → Prop} {z q v : Nat} {bt : Nat → Int32} {A : Nat → Prop}
theorem runV_rxa (S : SF p m c cc nL s args own) (hM : Met l y (CWS y b n ret) (RM d 0 0) (PBrx (.ref a :: As) D cI cB cZ z q v bt ws) Qc 0 0 free) (cal : CalV own idx y b n ret k) (hK : KK D cI cB cZ s) (hXS : XS D z q v bt A s s.heap) (hS : va_S A s.heap H locs) (hP : va_P D vwCl ws H) (q0 : Nat) (he : ws[q0]? = some (a, .inr (ci, fs))) {qc : vw_C} (hc : vwCl[ci]? = some qc) (hqc : qc.1 = y.cls) (hR : d + 1 ≤ R.frames ∧ 8 + (n + 11) + 40 * d ≤ R.locals) (hf : cells + 0 ≤ R.cells ∧ slots + 0 ≤ R.slots) (hn : As.length = k) (hsize : ls.size = nL) (hst : st = As.reverse ++ .ref a :: rest) (hW : (rest.map fun v => v.category).sum ≤ 8) (hdg : decode cc pc = .ok (.invokevirtual idx, 3)) :
    CallRun p l e R s m args below meth c H locs cells slots 0 0 (F0 m pc ls st) rest (Qc (.ref a :: As).toArray) free :=
  W.runV (C := y.cls) S hM (cwV k S.2.2.2.2 cal.good rfl rfl rfl ⟨rfl, cal.2⟩ hR) ⟨PBrx_blind, (by have h := va_recv hK.1 hP hc he; rw [hqc] at h; exact h), fun U hU hW => ⟨rfl, by rw [hU]; exact hP, hK.warm hW, by rw [hU]; exact hXS.call hS (fun _ h => h.elim) hW⟩⟩ rfl hn hsize hst (lv_room hW) hdg hf
theorem runV_xa (S : SF p m c cc nL s args own) (hM : Met l y (CWS y b n ret) (RM d mc ms) (PBx (.ref a :: As) D cI cB cZ z q v bt ws H.size) Qc mc ms free) (cal : CalV own idx y b n ret k) (hK : KK D cI cB cZ s) (hXS : XS D z q v bt A s s.heap) (hS : va_S A s.heap H locs) (hF : ∀ x, va_A ws H.size x → A x) (hP : va_P D vwCl ws H) (hD : va_D A ws) (q0 : Nat) (he : ws[q0]? = some (a, .inr (ci, fs))) {qc : vw_C} (hc : vwCl[ci]? = some qc) (hqc : qc.1 = y.cls) (hR : d + 1 ≤ R.frames ∧ 8 + (n + 11) + 40 * d ≤ R.locals) (hf : cells + mc ≤ R.cells ∧ slots + ms ≤ R.slots) (hn : As.length = k) (hsize : ls.size = nL) (hst : st = As.reverse ++ .ref a :: rest) (hW : (rest.map fun v => v.category).sum ≤ 8) (hdg : decode cc pc = .ok (.invokevirtual idx, 3)) :
    va_Run p l e R s m args below meth c H locs cells slots mc ms (F0 m pc ls st) rest (Qc (.ref a :: As).toArray) free :=
  va_runV (C := y.cls) S hM (cwV k S.2.2.2.2 cal.good rfl rfl rfl ⟨rfl, cal.2⟩ hR) ⟨PBx_blind, (by have h := va_recv hK.1 hP hc he; rw [hqc] at h; exact h), fun U hU hW => ⟨rfl, by rw [hU], by rw [hU]; exact hP, hK.warm hW, hD.weaken (fun _ _ _ _ => trivial), by rw [hU]; exact hXS.call hS hF hW⟩⟩ rfl hn hsize hst (lv_room hW) hdg hf
end XRUN
theorem CBX.n {cn : Nat → Nat} {k v : Nat} (h : CBX cn) (hk : k ∉ [0, 1, 2, 3, 4, 5, 10, 11, 12, 13, 14, 15, 20, 21, 22, 23, 24, 25]) : CBX (va_up cn k v) := by
  have e : ∀ j ∈ [0, 1, 2, 3, 4, 5, 10, 11, 12, 13, 14, 15, 20, 21, 22, 23, 24, 25], va_up cn k v j = cn j := fun j hj => va_up_ne _ _ (fun q => hk (q ▸ hj))
  unfold CBX
  rw [e 0 (by decide), e 1 (by decide), e 2 (by decide), e 3 (by decide), e 4 (by decide), e 5 (by decide), e 10 (by decide), e 11 (by decide), e 12 (by decide), e 13 (by decide), e 14 (by decide), e 15 (by decide), e 20 (by decide), e 21 (by decide), e 22 (by decide), e 23 (by decide), e 24 (by decide), e 25 (by decide)]
  exact h
theorem CBX.cg {cn c2 : Nat → Nat} (h : CBX cn) (e0 : c2 0 = cn 0) (e1 : c2 1 = cn 1) (e2 : c2 2 = cn 2) (e3 : c2 3 = cn 3) (e4 : c2 4 = cn 4) (e5 : c2 5 = cn 5) (e10 : c2 10 = cn 10) (e11 : c2 11 = cn 11) (e12 : c2 12 = cn 12) (e13 : c2 13 = cn 13) (e14 : c2 14 = cn 14) (e15 : c2 15 = cn 15) (e20 : c2 20 = cn 20) (e21 : c2 21 = cn 21) (e22 : c2 22 = cn 22) (e23 : c2 23 = cn 23) (e24 : c2 24 = cn 24) (e25 : c2 25 = cn 25) : CBX c2 := by
  unfold CBX
  rw [e0, e1, e2, e3, e4, e5, e10, e11, e12, e13, e14, e15, e20, e21, e22, e23, e24, e25]
  exact h
theorem CBX.u1 {cn : Nat → Nat} {v : Nat} (h : CBX cn) (b1 : v ≤ 3) : CBX (va_up cn 1 v) := ⟨h.1, b1, h.2.2.1, h.2.2.2.1, h.2.2.2.2.1, h.2.2.2.2.2.1, h.2.2.2.2.2.2.1, h.2.2.2.2.2.2.2.1, h.2.2.2.2.2.2.2.2.1, h.2.2.2.2.2.2.2.2.2.1, h.2.2.2.2.2.2.2.2.2.2.1, h.2.2.2.2.2.2.2.2.2.2.2.1, h.2.2.2.2.2.2.2.2.2.2.2.2.1, h.2.2.2.2.2.2.2.2.2.2.2.2.2.1, h.2.2.2.2.2.2.2.2.2.2.2.2.2.2.1, h.2.2.2.2.2.2.2.2.2.2.2.2.2.2.2.1, h.2.2.2.2.2.2.2.2.2.2.2.2.2.2.2.2.1, h.2.2.2.2.2.2.2.2.2.2.2.2.2.2.2.2.2.1, h.2.2.2.2.2.2.2.2.2.2.2.2.2.2.2.2.2.2.1, h.2.2.2.2.2.2.2.2.2.2.2.2.2.2.2.2.2.2.2.1, h.2.2.2.2.2.2.2.2.2.2.2.2.2.2.2.2.2.2.2.2.1, h.2.2.2.2.2.2.2.2.2.2.2.2.2.2.2.2.2.2.2.2.2.1, h.2.2.2.2.2.2.2.2.2.2.2.2.2.2.2.2.2.2.2.2.2.2.1, h.2.2.2.2.2.2.2.2.2.2.2.2.2.2.2.2.2.2.2.2.2.2.2⟩
theorem CBX.u2 {cn : Nat → Nat} {v : Nat} (h : CBX cn) (b1 : v ≤ 20) : CBX (va_up cn 2 v) := ⟨h.1, h.2.1, b1, h.2.2.2.1, h.2.2.2.2.1, h.2.2.2.2.2.1, h.2.2.2.2.2.2.1, h.2.2.2.2.2.2.2.1, h.2.2.2.2.2.2.2.2.1, h.2.2.2.2.2.2.2.2.2.1, h.2.2.2.2.2.2.2.2.2.2.1, h.2.2.2.2.2.2.2.2.2.2.2.1, h.2.2.2.2.2.2.2.2.2.2.2.2.1, h.2.2.2.2.2.2.2.2.2.2.2.2.2.1, h.2.2.2.2.2.2.2.2.2.2.2.2.2.2.1, h.2.2.2.2.2.2.2.2.2.2.2.2.2.2.2.1, h.2.2.2.2.2.2.2.2.2.2.2.2.2.2.2.2.1, h.2.2.2.2.2.2.2.2.2.2.2.2.2.2.2.2.2.1, h.2.2.2.2.2.2.2.2.2.2.2.2.2.2.2.2.2.2.1, h.2.2.2.2.2.2.2.2.2.2.2.2.2.2.2.2.2.2.2.1, h.2.2.2.2.2.2.2.2.2.2.2.2.2.2.2.2.2.2.2.2.1, h.2.2.2.2.2.2.2.2.2.2.2.2.2.2.2.2.2.2.2.2.2.1, h.2.2.2.2.2.2.2.2.2.2.2.2.2.2.2.2.2.2.2.2.2.2.1, h.2.2.2.2.2.2.2.2.2.2.2.2.2.2.2.2.2.2.2.2.2.2.2⟩
theorem CBX.u3 {cn : Nat → Nat} {v : Nat} (h : CBX cn) (b1 : v ≤ 200) : CBX (va_up cn 3 v) := ⟨h.1, h.2.1, h.2.2.1, b1, h.2.2.2.2.1, h.2.2.2.2.2.1, h.2.2.2.2.2.2.1, h.2.2.2.2.2.2.2.1, h.2.2.2.2.2.2.2.2.1, h.2.2.2.2.2.2.2.2.2.1, h.2.2.2.2.2.2.2.2.2.2.1, h.2.2.2.2.2.2.2.2.2.2.2.1, h.2.2.2.2.2.2.2.2.2.2.2.2.1, h.2.2.2.2.2.2.2.2.2.2.2.2.2.1, h.2.2.2.2.2.2.2.2.2.2.2.2.2.2.1, h.2.2.2.2.2.2.2.2.2.2.2.2.2.2.2.1, h.2.2.2.2.2.2.2.2.2.2.2.2.2.2.2.2.1, h.2.2.2.2.2.2.2.2.2.2.2.2.2.2.2.2.2.1, h.2.2.2.2.2.2.2.2.2.2.2.2.2.2.2.2.2.2.1, h.2.2.2.2.2.2.2.2.2.2.2.2.2.2.2.2.2.2.2.1, h.2.2.2.2.2.2.2.2.2.2.2.2.2.2.2.2.2.2.2.2.1, h.2.2.2.2.2.2.2.2.2.2.2.2.2.2.2.2.2.2.2.2.2.1, h.2.2.2.2.2.2.2.2.2.2.2.2.2.2.2.2.2.2.2.2.2.2.1, h.2.2.2.2.2.2.2.2.2.2.2.2.2.2.2.2.2.2.2.2.2.2.2⟩
theorem CBX.u4 {cn : Nat → Nat} {v : Nat} (h : CBX cn) (b1 : v ≤ 8) : CBX (va_up cn 4 v) := ⟨h.1, h.2.1, h.2.2.1, h.2.2.2.1, b1, h.2.2.2.2.2.1, h.2.2.2.2.2.2.1, h.2.2.2.2.2.2.2.1, h.2.2.2.2.2.2.2.2.1, h.2.2.2.2.2.2.2.2.2.1, h.2.2.2.2.2.2.2.2.2.2.1, h.2.2.2.2.2.2.2.2.2.2.2.1, h.2.2.2.2.2.2.2.2.2.2.2.2.1, h.2.2.2.2.2.2.2.2.2.2.2.2.2.1, h.2.2.2.2.2.2.2.2.2.2.2.2.2.2.1, h.2.2.2.2.2.2.2.2.2.2.2.2.2.2.2.1, h.2.2.2.2.2.2.2.2.2.2.2.2.2.2.2.2.1, h.2.2.2.2.2.2.2.2.2.2.2.2.2.2.2.2.2.1, h.2.2.2.2.2.2.2.2.2.2.2.2.2.2.2.2.2.2.1, h.2.2.2.2.2.2.2.2.2.2.2.2.2.2.2.2.2.2.2.1, h.2.2.2.2.2.2.2.2.2.2.2.2.2.2.2.2.2.2.2.2.1, h.2.2.2.2.2.2.2.2.2.2.2.2.2.2.2.2.2.2.2.2.2.1, h.2.2.2.2.2.2.2.2.2.2.2.2.2.2.2.2.2.2.2.2.2.2.1, h.2.2.2.2.2.2.2.2.2.2.2.2.2.2.2.2.2.2.2.2.2.2.2⟩
theorem CBX.u5 {cn : Nat → Nat} {v : Nat} (h : CBX cn) (b1 : v ≤ 40) : CBX (va_up cn 5 v) := ⟨h.1, h.2.1, h.2.2.1, h.2.2.2.1, h.2.2.2.2.1, b1, h.2.2.2.2.2.2.1, h.2.2.2.2.2.2.2.1, h.2.2.2.2.2.2.2.2.1, h.2.2.2.2.2.2.2.2.2.1, h.2.2.2.2.2.2.2.2.2.2.1, h.2.2.2.2.2.2.2.2.2.2.2.1, h.2.2.2.2.2.2.2.2.2.2.2.2.1, h.2.2.2.2.2.2.2.2.2.2.2.2.2.1, h.2.2.2.2.2.2.2.2.2.2.2.2.2.2.1, h.2.2.2.2.2.2.2.2.2.2.2.2.2.2.2.1, h.2.2.2.2.2.2.2.2.2.2.2.2.2.2.2.2.1, h.2.2.2.2.2.2.2.2.2.2.2.2.2.2.2.2.2.1, h.2.2.2.2.2.2.2.2.2.2.2.2.2.2.2.2.2.2.1, h.2.2.2.2.2.2.2.2.2.2.2.2.2.2.2.2.2.2.2.1, h.2.2.2.2.2.2.2.2.2.2.2.2.2.2.2.2.2.2.2.2.1, h.2.2.2.2.2.2.2.2.2.2.2.2.2.2.2.2.2.2.2.2.2.1, h.2.2.2.2.2.2.2.2.2.2.2.2.2.2.2.2.2.2.2.2.2.2.1, h.2.2.2.2.2.2.2.2.2.2.2.2.2.2.2.2.2.2.2.2.2.2.2⟩
theorem xl_0 {cI QA : ClassId} {zz : Nat} {g : Nat → Nat} {ad : Nat → Nat → Nat} {cn : Nat → Nat} {In : Nat → Int32} {Fn : Nat → Nat → Int32} (h : 0 < cn 10) : (wX cI QA zz g ad cn In Fn)[24]? = some (g 10, .inr (0, [.int (In 10), .ref (ad 2 0), .int (nI (cn 10))])) := by
  rw [xo_24, if_neg (by omega)]
theorem xl_1 {cI QA : ClassId} {zz : Nat} {g : Nat → Nat} {ad : Nat → Nat → Nat} {cn : Nat → Nat} {In : Nat → Int32} {Fn : Nat → Nat → Int32} (h : 0 < cn 11) : (wX cI QA zz g ad cn In Fn)[25]? = some (g 11, .inr (0, [.int (In 11), .ref (ad 2 1), .int (nI (cn 11))])) := by
  rw [xo_25, if_neg (by omega)]
theorem xl_2 {cI QA : ClassId} {zz : Nat} {g : Nat → Nat} {ad : Nat → Nat → Nat} {cn : Nat → Nat} {In : Nat → Int32} {Fn : Nat → Nat → Int32} (h : 0 < cn 12) : (wX cI QA zz g ad cn In Fn)[26]? = some (g 12, .inr (0, [.int (In 12), .ref (ad 2 2), .int (nI (cn 12))])) := by
  rw [xo_26, if_neg (by omega)]
theorem xl_3 {cI QA : ClassId} {zz : Nat} {g : Nat → Nat} {ad : Nat → Nat → Nat} {cn : Nat → Nat} {In : Nat → Int32} {Fn : Nat → Nat → Int32} (h : 0 < cn 13) : (wX cI QA zz g ad cn In Fn)[27]? = some (g 13, .inr (0, [.int (In 13), .ref (ad 2 3), .int (nI (cn 13))])) := by
  rw [xo_27, if_neg (by omega)]
theorem xl_4 {cI QA : ClassId} {zz : Nat} {g : Nat → Nat} {ad : Nat → Nat → Nat} {cn : Nat → Nat} {In : Nat → Int32} {Fn : Nat → Nat → Int32} (h : 0 < cn 14) : (wX cI QA zz g ad cn In Fn)[28]? = some (g 14, .inr (0, [.int (In 14), .ref (ad 2 4), .int (nI (cn 14))])) := by
  rw [xo_28, if_neg (by omega)]
theorem xl_5 {cI QA : ClassId} {zz : Nat} {g : Nat → Nat} {ad : Nat → Nat → Nat} {cn : Nat → Nat} {In : Nat → Int32} {Fn : Nat → Nat → Int32} (h : 0 < cn 15) : (wX cI QA zz g ad cn In Fn)[29]? = some (g 15, .inr (0, [.int (In 15), .ref (ad 2 5), .int (nI (cn 15))])) := by
  rw [xo_29, if_neg (by omega)]
theorem min200 {a : Nat} (h : a < 2 ^ 31) : (if (200 : Int32) < nI a then (200 : Int32) else nI a) = nI (min 200 a) := by
  have t := nI_toInt h
  by_cases q : 200 < a
  · rw [if_pos (Int32.lt_iff_toInt_lt.mpr (by rw [t]; show (200 : Int) < _; omega)), Nat.min_eq_left (by omega)]; rfl
  · rw [if_neg (fun w => by have w := Int32.lt_iff_toInt_lt.mp w; rw [t] at w; have e : (200 : Int32).toInt = 200 := rfl; omega), Nat.min_eq_right (by omega)]
theorem min200b {a : Nat} (h : a ≤ 200) : (if (200 : Int32) < nI a then (200 : Int32) else nI a) = nI a := by
  rw [min200 (by omega), Nat.min_eq_right h]

set_option maxRecDepth 100000 in
theorem kS_RX11_80 : CalS RX11 80 yX11_within cX11_within 3 (some .boolean) 3 := ⟨⟨wk2_4 4 rfl rfl, wk2_4 5 rfl rfl, wk1_0 1 rfl rfl, wk2_4 6 rfl rfl⟩, ⟨nmh_0.1, nmh_0.2, pd_26⟩⟩
set_option maxRecDepth 100000 in
theorem hin_RJx4a65c : ∀ w ∈ u_ws RJx4a65c TJx4a65c 3, w ∈ wT := hin_all (C := RJx4a65c) (T := TJx4a65c) (n := 3) (hin_s (hin_s (hin_s (fun k hk => absurd hk (Nat.not_lt_zero k)) (wk1_19 5 rfl rfl)) (wk1_19 1 rfl rfl)) (wk1_19 3 rfl rfl))
set_option maxRecDepth 100000 in
theorem gf_RJx4a65c_48 {p : Program} {l : Launch} {e : Env} {R : Room} {s : State} {m : MethodId} {args : Array Value} {below : List Frame} {meth : Method} {c : Code} {H : Heap} {locs : List Loc} {cells slots : Nat} {Q : State → Prop} {cc : ByteArray} {nL pc : Nat} {D : va_G} {cI cB cZ : ClassId} {ws : va_W} {rest : List Value} {ls : Array Slot} {a : Nat} {fs : List Value} {v : Value} (S : SF p m c cc nL s args RJx4a65c) (hK : KK D cI cB cZ s) (hP : va_P D vwCl ws H) (q0 : Nat) (he : ws[q0]? = some (a, .inr (0, fs))) (hv : fs[2]? = some v) (hdg : decode cc pc = .ok (.getfield 48, 3)) (kk : W p l e R s m args below meth c H locs cells slots Q (F0 m (pc + 3) ls (v :: rest))) : W p l e R s m args below meth c H locs cells slots Q (F0 m pc ls (.ref a :: rest)) :=
  va_get (C := RJx4a65c) (T := TJx4a65c) (N := 3) S.1 S.2.1 S.2.2.2.2 hin_RJx4a65c S.2.2.2.1 hK.1 hP q0 he rfl 2 (by decide) (S.2.2.2.2 _ (wk1_18 9 rfl rfl)) (fun _ h9 => h9) hv hdg kk
set_option maxRecDepth 100000 in
theorem kS_RJ15_105 : CalS RJ15 105 yJ3_checkIndex_8e157 cJ3_checkIndex_8e157 3 (some .int) 3 := ⟨⟨wk2_15 8 rfl rfl, wk2_15 9 rfl rfl, wk1_1 6 rfl rfl, wk2_15 10 rfl rfl⟩, ⟨nmh_25.1, nmh_25.2, pd_37⟩⟩
set_option maxRecDepth 100000 in
theorem gf_RJx4a65c_9 {p : Program} {l : Launch} {e : Env} {R : Room} {s : State} {m : MethodId} {args : Array Value} {below : List Frame} {meth : Method} {c : Code} {H : Heap} {locs : List Loc} {cells slots : Nat} {Q : State → Prop} {cc : ByteArray} {nL pc : Nat} {D : va_G} {cI cB cZ : ClassId} {ws : va_W} {rest : List Value} {ls : Array Slot} {a : Nat} {fs : List Value} {v : Value} (S : SF p m c cc nL s args RJx4a65c) (hK : KK D cI cB cZ s) (hP : va_P D vwCl ws H) (q0 : Nat) (he : ws[q0]? = some (a, .inr (0, fs))) (hv : fs[1]? = some v) (hdg : decode cc pc = .ok (.getfield 9, 3)) (kk : W p l e R s m args below meth c H locs cells slots Q (F0 m (pc + 3) ls (v :: rest))) : W p l e R s m args below meth c H locs cells slots Q (F0 m pc ls (.ref a :: rest)) :=
  va_get (C := RJx4a65c) (T := TJx4a65c) (N := 3) S.1 S.2.1 S.2.2.2.2 hin_RJx4a65c S.2.2.2.1 hK.1 hP q0 he rfl 1 (by decide) (S.2.2.2.2 _ (wk1_18 8 rfl rfl)) (fun _ h9 => h9) hv hdg kk
set_option maxRecDepth 100000 in
theorem kS_RJx4a65c_118 : CalS RJx4a65c 118 yJ15_checkIndex_7cf53 cJ15_checkIndex_7cf53 2 (some .int) 2 := ⟨⟨wk2_15 5 rfl rfl, wk2_15 6 rfl rfl, wk1_1 5 rfl rfl, wk2_15 7 rfl rfl⟩, ⟨nmh_23.1, nmh_23.2, pd_17⟩⟩
set_option maxRecDepth 100000 in
theorem kV_RJx4a65c_123 : CalV RJx4a65c 123 yJx4a65c_elementData_915e3 cJx4a65c_elementData_915e3 2 (some (.object "java/lang/Object")) 1 := ⟨⟨wk2_15 11 rfl rfl, wk2_16 0 rfl rfl, wk2_16 1 rfl rfl, wk1_1 0 rfl rfl, wk2_16 2 rfl rfl⟩, ⟨nmh_21.1, nmh_21.2, pd_13⟩⟩
set_option maxRecDepth 100000 in
theorem kS_RX11_99 : CalS RX11 99 yX11_isDay cX11_isDay 1 (some .boolean) 1 := ⟨⟨wk2_4 1 rfl rfl, wk2_4 2 rfl rfl, wk1_0 1 rfl rfl, wk2_4 3 rfl rfl⟩, ⟨nmh_0.1, nmh_0.2, pd_15⟩⟩
set_option maxRecDepth 100000 in
theorem hin_RX11 : ∀ w ∈ u_ws RX11 TX11 16, w ∈ wT := hin_all (C := RX11) (T := TX11) (n := 16) (hin_s (hin_s (hin_s (hin_s (hin_s (hin_s (hin_s (hin_s (hin_s (hin_s (hin_s (hin_s (hin_s (hin_s (hin_s (hin_s (fun k hk => absurd hk (Nat.not_lt_zero k)) (wk2_1 0 rfl rfl)) (wk2_1 2 rfl rfl)) (wk2_1 4 rfl rfl)) (wk2_1 6 rfl rfl)) (wk2_1 8 rfl rfl)) (wk2_1 10 rfl rfl)) (wk2_2 0 rfl rfl)) (wk2_2 2 rfl rfl)) (wk2_2 4 rfl rfl)) (wk2_2 6 rfl rfl)) (wk2_2 8 rfl rfl)) (wk2_2 10 rfl rfl)) (wk2_3 0 rfl rfl)) (wk2_3 2 rfl rfl)) (wk2_3 4 rfl rfl)) (wk2_3 6 rfl rfl))
set_option maxRecDepth 100000 in
theorem gf_RX11_103 {p : Program} {l : Launch} {e : Env} {R : Room} {s : State} {m : MethodId} {args : Array Value} {below : List Frame} {meth : Method} {c : Code} {H : Heap} {locs : List Loc} {cells slots : Nat} {Q : State → Prop} {cc : ByteArray} {nL pc : Nat} {D : va_G} {cI cB cZ : ClassId} {ws : va_W} {rest : List Value} {ls : Array Slot} {a : Nat} {fs : List Value} {v : Value} (S : SF p m c cc nL s args RX11) (hK : KK D cI cB cZ s) (hP : va_P D vwCl ws H) (q0 : Nat) (he : ws[q0]? = some (a, .inr (12, fs))) (hv : fs[0]? = some v) (hdg : decode cc pc = .ok (.getfield 103, 3)) (kk : W p l e R s m args below meth c H locs cells slots Q (F0 m (pc + 3) ls (v :: rest))) : W p l e R s m args below meth c H locs cells slots Q (F0 m pc ls (.ref a :: rest)) :=
  va_get (C := RX11) (T := TX11) (N := 16) S.1 S.2.1 S.2.2.2.2 hin_RX11 S.2.2.2.1 hK.1 hP q0 he rfl 0 (by decide) (S.2.2.2.2 _ (wk1_19 8 rfl rfl)) (fun _ h9 => h9) hv hdg kk
set_option maxRecDepth 100000 in
theorem pf_RX11_103 {p : Program} {l : Launch} {e : Env} {R : Room} {s : State} {m : MethodId} {args : Array Value} {below : List Frame} {meth : Method} {c : Code} {H : Heap} {locs : List Loc} {cells slots : Nat} {Q : State → Prop} {cc : ByteArray} {nL pc : Nat} {D : va_G} {cI cB cZ : ClassId} {ws : va_W} {rest : List Value} {ls : Array Slot} {a : Nat} {fs : List Value} {v : Value} {A : Nat → Prop} {H0 : Heap} (S : SF p m c cc nL s args RX11) (hK : KK D cI cB cZ s) (hP : va_P D vwCl ws H) (hD : va_D A ws) (hS : va_S A H0 H locs) (q0 : Nat) (he : ws[q0]? = some (a, .inr (12, fs))) (hl : 0 < fs.length) (hn : narrow (tyX11 0) v = v) (hfit : fits (tyX11 0) v = true) (hdg : decode cc pc = .ok (.putfield 103, 3)) (kk : ∀ (H1 : Heap) (locs1 : List Loc), va_P D vwCl (ws.set q0 (a, .inr (12, fs.set 0 v))) H1 → va_D A (ws.set q0 (a, .inr (12, fs.set 0 v))) → va_S A H0 H1 locs1 → W p l e R s m args below meth c H1 locs1 cells slots Q (F0 m (pc + 3) ls rest)) : W p l e R s m args below meth c H locs cells slots Q (F0 m pc ls (v :: .ref a :: rest)) :=
  va_put (C := RX11) (T := TX11) (N := 16) S.1 S.2.1 S.2.2.2.2 hin_RX11 tyX11 tyX11_ok nmX11 S.2.2.2.1 hK.1 hP hD hS q0 he rfl 0 (by decide) (S.2.2.2.2 _ (wk1_19 8 rfl rfl)) (fun _ h9 => h9) rfl (tyX11_ok 0 (by decide)) hn hfit hl hdg kk
noncomputable def sxX11_within_16 : List UInt8 := []
theorem shX11_within_0 : cX11_within.data.toList.drop 0 = 26 :: 27 :: 161 :: 0 :: 12 :: 26 :: 28 :: 163 :: 0 :: 7 :: 4 :: 167 :: 0 :: 4 :: 3 :: 172 :: sxX11_within_16 := rfl
noncomputable def sxX11_isDay_9 : List UInt8 := []
theorem shX11_isDay_0 : cX11_isDay.data.toList.drop 0 = 26 :: 3 :: 17 :: 1 :: 143 :: 184 :: 0 :: 80 :: 172 :: sxX11_isDay_9 := rfl
noncomputable def sxJx4a65c_size_8abf5_5 : List UInt8 := []
theorem shJx4a65c_size_8abf5_0 : cJx4a65c_size_8abf5.data.toList.drop 0 = 42 :: 180 :: 0 :: 48 :: 172 :: sxJx4a65c_size_8abf5_5 := rfl
noncomputable def sxJ3_checkIndex_8e157_18 : List UInt8 := []
theorem shJ3_checkIndex_8e157_0 : cJ3_checkIndex_8e157.data.toList.drop 0 = 26 :: 155 :: 0 :: 8 :: 26 :: 27 :: 161 :: 0 :: 10 :: 44 :: 26 :: 27 :: 184 :: 0 :: 95 :: 191 :: 26 :: 172 :: sxJ3_checkIndex_8e157_18 := rfl
noncomputable def sxJ15_checkIndex_7cf53_7 : List UInt8 := []
theorem shJ15_checkIndex_7cf53_0 : cJ15_checkIndex_7cf53.data.toList.drop 0 = 26 :: 27 :: 1 :: 184 :: 0 :: 105 :: 172 :: sxJ15_checkIndex_7cf53_7 := rfl
noncomputable def sxJx4a65c_elementData_915e3_7 : List UInt8 := []
theorem shJx4a65c_elementData_915e3_0 : cJx4a65c_elementData_915e3.data.toList.drop 0 = 42 :: 180 :: 0 :: 9 :: 27 :: 50 :: 176 :: sxJx4a65c_elementData_915e3_7 := rfl
noncomputable def sxJx4a65c_get_915e3_15 : List UInt8 := []
theorem shJx4a65c_get_915e3_0 : cJx4a65c_get_915e3.data.toList.drop 0 = 27 :: 42 :: 180 :: 0 :: 48 :: 184 :: 0 :: 118 :: 87 :: 42 :: 27 :: 182 :: 0 :: 123 :: 176 :: sxJx4a65c_get_915e3_15 := rfl
noncomputable def sxX7_at_18 : List UInt8 := []
theorem shX7_at_0 : cX7_at.data.toList.drop 0 = 27 :: 155 :: 0 :: 9 :: 27 :: 42 :: 190 :: 161 :: 0 :: 7 :: 3 :: 167 :: 0 :: 6 :: 42 :: 27 :: 46 :: 172 :: sxX7_at_18 := rfl
noncomputable def sxX7_put_15 : List UInt8 := []
theorem shX7_put_0 : cX7_put.data.toList.drop 0 = 27 :: 155 :: 0 :: 13 :: 27 :: 42 :: 190 :: 162 :: 0 :: 7 :: 42 :: 27 :: 28 :: 79 :: 177 :: sxX7_put_15 := rfl
noncomputable def sxX7_tell_29 : List UInt8 := []
noncomputable def sxX7_tell_24 : List UInt8 := 27 :: 28 :: 79 :: 4 :: 172 :: sxX7_tell_29
theorem shX7_tell_0 : cX7_tell.data.toList.drop 0 = 27 :: 155 :: 0 :: 20 :: 27 :: 42 :: 190 :: 162 :: 0 :: 14 :: 28 :: 29 :: 161 :: 0 :: 9 :: 28 :: 21 :: 4 :: 164 :: 0 :: 5 :: 3 :: 172 :: 42 :: sxX7_tell_24 := rfl
theorem shX7_tell_24 : cX7_tell.data.toList.drop 24 = 27 :: 28 :: 79 :: 4 :: 172 :: sxX7_tell_29 := aq_24 shX7_tell_0
theorem dX7_tell_21 : decode cX7_tell 21 = .ok (.iconst 0, 1) := oc_3 21 (aq_21 shX7_tell_0)
theorem dX7_tell_22 : decode cX7_tell 22 = .ok (.ireturn, 1) := oc_172 22 (aq_22 shX7_tell_0)
noncomputable def sxX11_now_24 : List UInt8 := []
theorem shX11_now_0 : cX11_now.data.toList.drop 0 = 27 :: 184 :: 0 :: 99 :: 153 :: 0 :: 11 :: 27 :: 42 :: 180 :: 0 :: 103 :: 162 :: 0 :: 5 :: 3 :: 172 :: 42 :: 27 :: 181 :: 0 :: 103 :: 4 :: 172 :: sxX11_now_24 := rfl
set_option maxRecDepth 100000 in
set_option maxHeartbeats 4000000 in
theorem q_l_within (l : Launch) (D : va_G) (cI cB cZ : ClassId) (v0 v1 v2 : Int32) : Met l yX11_within (CWS yX11_within cX11_within 3 (some .boolean)) (RM 0 0 0) (PBr [.int v0, .int v1, .int v2] D cI cB cZ []) (vp_Si (fun r => (r = 1 ∧ (v1.toInt ≤ v0.toInt ∧ v0.toInt ≤ v2.toInt)) ∨ (r = 0 ∧ ¬ (v1.toInt ≤ v0.toInt ∧ v0.toInt ≤ v2.toInt)))) 0 0 (fun _ => False) := by
  refine en_r rfl pn_RX11 (Nat.le_of_ble_eq_true rfl) (fun p e s m below meth c hx hb hml hown S hr hlocks hnm hP hK hS ls hl => ?_)
  have hP : va_P D vwCl [] s.heap := hP
  have hl : lv_has ls 3 [(0, .int v0), (1, .int v1), (2, .int v2)] := hl
  refine lv_iload_n hx hb (oc_26 0 shX11_within_0) rfl (lvA0 hl) ?_
  refine lv_iload_n hx hb (oc_27 1 (aq_1 shX11_within_0)) rfl (lvA1 hl) ?_
  refine lv_icmp_lt (tgt := 14) hx hb (oc_161 2 (aq_2 shX11_within_0) sgw_0_12) rfl (fun c_1 => ?_) (fun c_1 => ?_)
  ·
    have tc_1 : (v0.toInt : Int) < v1.toInt := Int32.lt_iff_toInt_lt.mp c_1
    refine lv_iconst (v := 0) hx hb (oc_3 14 (aq_14 shX11_within_0)) kic_0 ?_
    exact W.zret (v := 0) hx hb hr rfl (fun t ht hW => ⟨0, rfl, (Or.inr ⟨rfl, by omega⟩), ht⟩) (fun _ h => absurd h List.not_mem_nil) (oc_172 15 (aq_15 shX11_within_0))
  ·
    have tc_1 : (v1.toInt : Int) ≤ v0.toInt := Int32.le_iff_toInt_le.mp (Int32.not_lt.mp c_1)
    refine lv_iload_n hx hb (oc_26 5 (aq_5 shX11_within_0)) rfl (lvA0 hl) ?_
    refine lv_iload_n hx hb (oc_28 6 (aq_6 shX11_within_0)) rfl (lvA2 hl) ?_
    refine lv_icmp_gt (tgt := 14) hx hb (oc_163 7 (aq_7 shX11_within_0) sgw_0_7) rfl (fun c_2 => ?_) (fun c_2 => ?_)
    ·
      have tc_2 : (v2.toInt : Int) < v0.toInt := Int32.lt_iff_toInt_lt.mp c_2
      refine lv_iconst (v := 0) hx hb (oc_3 14 (aq_14 shX11_within_0)) kic_0 ?_
      exact W.zret (v := 0) hx hb hr rfl (fun t ht hW => ⟨0, rfl, (Or.inr ⟨rfl, by omega⟩), ht⟩) (fun _ h => absurd h List.not_mem_nil) (oc_172 15 (aq_15 shX11_within_0))
    ·
      have tc_2 : (v0.toInt : Int) ≤ v2.toInt := Int32.le_iff_toInt_le.mp (Int32.not_lt.mp c_2)
      refine lv_iconst (v := 1) hx hb (oc_4 10 (aq_10 shX11_within_0)) kic_1 ?_
      refine lv_goto (tgt := 15) hx hb (oc_167 11 (aq_11 shX11_within_0) sgw_0_4) rfl ?_
      exact W.zret (v := 1) hx hb hr rfl (fun t ht hW => ⟨1, rfl, (Or.inl ⟨rfl, by omega⟩), ht⟩) (fun _ h => absurd h List.not_mem_nil) (oc_172 15 (aq_15 shX11_within_0))
set_option maxRecDepth 100000 in
set_option maxHeartbeats 4000000 in
theorem q_l_isDay (l : Launch) (D : va_G) (cI cB cZ : ClassId) (v0 : Int32) : Met l yX11_isDay (CWS yX11_isDay cX11_isDay 1 (some .boolean)) (RM 1 0 0) (PBr [.int v0] D cI cB cZ []) (vp_Si (fun r => (r = 1 ∧ (0 ≤ v0.toInt ∧ v0.toInt ≤ 399)) ∨ (r = 0 ∧ ¬ (0 ≤ v0.toInt ∧ v0.toInt ≤ 399)))) 0 0 (fun _ => False) := by
  refine en_r rfl pn_RX11 (Nat.le_of_ble_eq_true rfl) (fun p e s m below meth c hx hb hml hown S hr hlocks hnm hP hK hS ls hl => ?_)
  have hP : va_P D vwCl [] s.heap := hP
  have hl : lv_has ls 1 [(0, .int v0)] := hl
  refine lv_iload_n hx hb (oc_26 0 shX11_isDay_0) rfl (lvA0 hl) ?_
  refine lv_iconst (v := 0) hx hb (oc_3 1 (aq_1 shX11_isDay_0)) kic_0 ?_
  refine lv_sipush (v := 399) hx hb (oc_17 2 (aq_2 shX11_isDay_0) sgw_1_143) (by decide) ?_
  refine vp_callSi (runS_r (As := [.int v0, .int 0, .int 399]) (rest := []) S (q_l_within l D cI cB cZ v0 0 399) kS_RX11_80 hK hP [] rfl ⟨Nat.le_of_ble_eq_true rfl, Nat.le_of_ble_eq_true rfl⟩ ⟨Nat.le_of_ble_eq_true rfl, Nat.le_of_ble_eq_true rfl⟩ rfl hl.1 rfl (Nat.le_of_ble_eq_true rfl) (oc_184 5 (aq_5 shX11_isDay_0) uw_0_80)) (fun r_1 h_2 => ?_)
  rcases h_2 with ⟨rfl, h_2⟩ | ⟨rfl, h_2⟩
  ·
    have h_2 : 0 ≤ v0.toInt ∧ v0.toInt ≤ 399 := h_2
    exact W.zret (v := 1) hx hb hr rfl (fun t ht hW => ⟨1, rfl, (Or.inl ⟨rfl, by omega⟩), ht⟩) (fun _ h => absurd h List.not_mem_nil) (oc_172 8 (aq_8 shX11_isDay_0))
  ·
    have h_2 : ¬ (0 ≤ v0.toInt ∧ v0.toInt ≤ 399) := h_2
    exact W.zret (v := 0) hx hb hr rfl (fun t ht hW => ⟨0, rfl, (Or.inr ⟨rfl, by omega⟩), ht⟩) (fun _ h => absurd h List.not_mem_nil) (oc_172 8 (aq_8 shX11_isDay_0))
set_option maxRecDepth 100000 in
set_option maxHeartbeats 4000000 in
theorem q_l_size (l : Launch) (D : va_G) (cI cB cZ : ClassId) (x z : Nat) (mc n : Int32) : Met l yJx4a65c_size_8abf5 (CWS yJx4a65c_size_8abf5 cJx4a65c_size_8abf5 1 (some .int)) (RM 0 0 0) (PBr [.ref x] D cI cB cZ [(x, .inr (0, [.int mc, .ref z, .int n]))]) (vp_Si (fun r => r = n)) 0 0 (fun _ => False) := by
  refine en_r rfl pn_RJx4a65c (Nat.le_of_ble_eq_true rfl) (fun p e s m below meth c hx hb hml hown S hr hlocks hnm hP hK hS ls hl => ?_)
  have hP : va_P D vwCl [(x, .inr (0, [.int mc, .ref z, .int n]))] s.heap := hP
  have hl : lv_has ls 1 [(0, .ref x)] := hl
  refine lv_aload_n hx hb (oc_42 0 shJx4a65c_size_8abf5_0) rfl (lvA0 hl) ?_
  refine gf_RJx4a65c_48 S hK hP 0 rfl (v := .int n) rfl (oc_180 1 (aq_1 shJx4a65c_size_8abf5_0) uw_0_48) ?_
  exact W.iret (v := n) hx hb hr (fun t ht hW => ⟨n, rfl, rfl, ht⟩) (fun _ h => absurd h List.not_mem_nil) (oc_172 4 (aq_4 shJx4a65c_size_8abf5_0))
set_option maxRecDepth 100000 in
set_option maxHeartbeats 4000000 in
theorem q_l_chk3 (l : Launch) (D : va_G) (cI cB cZ : ClassId) (k0 n : Nat) (hk : k0 < n) (hn : n < 2147483648) : Met l yJ3_checkIndex_8e157 (CWS yJ3_checkIndex_8e157 cJ3_checkIndex_8e157 3 (some .int)) (RM 0 0 0) (PBr [.int (nI k0), .int (nI n), .null] D cI cB cZ []) (vp_Si (fun r => r = nI k0)) 0 0 (fun _ => False) := by
  refine en_r rfl pn_RJ3 (Nat.le_of_ble_eq_true rfl) (fun p e s m below meth c hx hb hml hown S hr hlocks hnm hP hK hS ls hl => ?_)
  have hP : va_P D vwCl [] s.heap := hP
  have hl : lv_has ls 3 [(0, .int (nI k0)), (1, .int (nI n)), (2, .null)] := hl
  have tk := nI_toInt (n := k0) (by omega)
  have tn := nI_toInt (n := n) (by omega)
  refine lv_iload_n hx hb (oc_26 0 shJ3_checkIndex_8e157_0) rfl (lvA0 hl) ?_
  refine lv_if_lt (tgt := 9) hx hb (oc_155 1 (aq_1 shJ3_checkIndex_8e157_0) sgw_0_8) rfl (fun c_1 => False.elim (by have tc_1 : ((nI k0).toInt : Int) < 0 := Int32.lt_iff_toInt_lt.mp c_1; omega)) (fun c_1 => ?_)
  have tc_1 : (0 : Int) ≤ (nI k0).toInt := Int32.le_iff_toInt_le.mp (Int32.not_lt.mp c_1)
  refine lv_iload_n hx hb (oc_26 4 (aq_4 shJ3_checkIndex_8e157_0)) rfl (lvA0 hl) ?_
  refine lv_iload_n hx hb (oc_27 5 (aq_5 shJ3_checkIndex_8e157_0)) rfl (lvA1 hl) ?_
  refine lv_icmp_lt (tgt := 16) hx hb (oc_161 6 (aq_6 shJ3_checkIndex_8e157_0) sgw_0_10) rfl (fun c_2 => ?_) (fun c_2 => False.elim (by have tc_2 : ((nI n).toInt : Int) ≤ (nI k0).toInt := Int32.le_iff_toInt_le.mp (Int32.not_lt.mp c_2); omega))
  have tc_2 : ((nI k0).toInt : Int) < (nI n).toInt := Int32.lt_iff_toInt_lt.mp c_2
  refine lv_iload_n hx hb (oc_26 16 (aq_16 shJ3_checkIndex_8e157_0)) rfl (lvA0 hl) ?_
  exact W.iret (v := (nI k0)) hx hb hr (fun t ht hW => ⟨(nI k0), rfl, rfl, ht⟩) (fun _ h => absurd h List.not_mem_nil) (oc_172 17 (aq_17 shJ3_checkIndex_8e157_0))
set_option maxRecDepth 100000 in
set_option maxHeartbeats 4000000 in
theorem q_l_chk (l : Launch) (D : va_G) (cI cB cZ : ClassId) (k0 n : Nat) (hk : k0 < n) (hn : n < 2147483648) : Met l yJ15_checkIndex_7cf53 (CWS yJ15_checkIndex_7cf53 cJ15_checkIndex_7cf53 2 (some .int)) (RM 1 0 0) (PBr [.int (nI k0), .int (nI n)] D cI cB cZ []) (vp_Si (fun r => r = nI k0)) 0 0 (fun _ => False) := by
  refine en_r rfl pn_RJ15 (Nat.le_of_ble_eq_true rfl) (fun p e s m below meth c hx hb hml hown S hr hlocks hnm hP hK hS ls hl => ?_)
  have hP : va_P D vwCl [] s.heap := hP
  have hl : lv_has ls 2 [(0, .int (nI k0)), (1, .int (nI n))] := hl
  refine lv_iload_n hx hb (oc_26 0 shJ15_checkIndex_7cf53_0) rfl (lvA0 hl) ?_
  refine lv_iload_n hx hb (oc_27 1 (aq_1 shJ15_checkIndex_7cf53_0)) rfl (lvA1 hl) ?_
  refine lv_null hx hb (oc_1 2 (aq_2 shJ15_checkIndex_7cf53_0)) ?_
  refine vp_callSi (runS_r (As := [.int (nI k0), .int (nI n), .null]) (rest := []) S (q_l_chk3 l D cI cB cZ k0 n (by omega) (by omega)) kS_RJ15_105 hK hP [] rfl ⟨Nat.le_of_ble_eq_true rfl, Nat.le_of_ble_eq_true rfl⟩ ⟨Nat.le_of_ble_eq_true rfl, Nat.le_of_ble_eq_true rfl⟩ rfl hl.1 rfl (Nat.le_of_ble_eq_true rfl) (oc_184 3 (aq_3 shJ15_checkIndex_7cf53_0) uw_0_105)) (fun r_1 h_2 => ?_)
  subst h_2
  exact W.iret (v := (nI k0)) hx hb hr (fun t ht hW => ⟨(nI k0), rfl, rfl, ht⟩) (fun _ h => absurd h List.not_mem_nil) (oc_172 6 (aq_6 shJ15_checkIndex_7cf53_0))
set_option maxRecDepth 100000 in
set_option maxHeartbeats 4000000 in
theorem q_l_elem (l : Launch) (D : va_G) (cI cB cZ : ClassId) (zz qq vv : Nat) (bt : Nat → Int32) (x z c0 n k0 o : Nat) (mc : Int32) (rf : Nat → Option Nat) (hk : k0 < c0) (ho : rf k0 = some o) (hc : c0 < 2147483648) : Met l yJx4a65c_elementData_915e3 (CWS yJx4a65c_elementData_915e3 cJx4a65c_elementData_915e3 2 (some (.object "java/lang/Object"))) (RM 0 0 0) (PBrx [.ref x, .int (nI k0)] D cI cB cZ zz qq vv bt [(x, .inr (0, [.int mc, .ref z, .int (nI n)])), (z, .inl (D.1 99, c0, .inr (.inr (.inr (.inr rf)))))]) (va_Sq (fun r => r = some o)) 0 0 (fun _ => False) := by
  refine en_rx rfl pn_RJx4a65c (Nat.le_of_ble_eq_true rfl) (fun p e s m below meth c hx hb hml hown S hr hlocks hnm hP hK hXS hS ls hl => ?_)
  have hP : va_P D vwCl [(x, .inr (0, [.int mc, .ref z, .int (nI n)])), (z, .inl (D.1 99, c0, .inr (.inr (.inr (.inr rf)))))] s.heap := hP
  have hl : lv_has ls 2 [(0, .ref x), (1, .int (nI k0))] := hl
  refine lv_aload_n hx hb (oc_42 0 shJx4a65c_elementData_915e3_0) rfl (lvA0 hl) ?_
  refine gf_RJx4a65c_9 S hK hP 0 rfl (v := .ref z) rfl (oc_180 1 (aq_1 shJx4a65c_elementData_915e3_0) uw_0_9) ?_
  refine lv_iload_n hx hb (oc_27 4 (aq_4 shJx4a65c_elementData_915e3_0)) rfl (lvA1 hl) ?_
  refine va_aldq hx hb hXS.2.2.2.2.2.2.2.2.1 hP 1 0 rfl rfl (vp_in_nI (by omega) (by omega)) (oc_50 5 (aq_5 shJx4a65c_elementData_915e3_0)) ?_
  rw [show rf (nI k0).toNatClampNeg = some o by rw [nI_clamp (by omega)]; exact ho]
  exact W.aret (v := .ref o) hx hb hr (Or.inl ⟨_, rfl⟩) (Or.inr ⟨_, rfl⟩) (fun t ht hW => ⟨some o, rfl, rfl, ht⟩) (fun _ h => absurd h List.not_mem_nil) (oc_176 6 (aq_6 shJx4a65c_elementData_915e3_0))
set_option maxRecDepth 100000 in
set_option maxHeartbeats 4000000 in
theorem q_l_get (l : Launch) (D : va_G) (cI cB cZ : ClassId) (zz qq vv : Nat) (bt : Nat → Int32) (x z c0 n k0 o : Nat) (mc : Int32) (rf : Nat → Option Nat) (hk : k0 < n) (ho : rf k0 = some o) (hn : n ≤ c0) (hc : c0 < 2147483648) : Met l yJx4a65c_get_915e3 (CWS yJx4a65c_get_915e3 cJx4a65c_get_915e3 2 (some (.object "java/lang/Object"))) (RM 2 0 0) (PBrx [.ref x, .int (nI k0)] D cI cB cZ zz qq vv bt [(x, .inr (0, [.int mc, .ref z, .int (nI n)])), (z, .inl (D.1 99, c0, .inr (.inr (.inr (.inr rf)))))]) (va_Sq (fun r => r = some o)) 0 0 (fun _ => False) := by
  refine en_rx rfl pn_RJx4a65c (Nat.le_of_ble_eq_true rfl) (fun p e s m below meth c hx hb hml hown S hr hlocks hnm hP hK hXS hS ls hl => ?_)
  have hP : va_P D vwCl [(x, .inr (0, [.int mc, .ref z, .int (nI n)])), (z, .inl (D.1 99, c0, .inr (.inr (.inr (.inr rf)))))] s.heap := hP
  have hl : lv_has ls 2 [(0, .ref x), (1, .int (nI k0))] := hl
  refine lv_iload_n hx hb (oc_27 0 shJx4a65c_get_915e3_0) rfl (lvA1 hl) ?_
  refine lv_aload_n hx hb (oc_42 1 (aq_1 shJx4a65c_get_915e3_0)) rfl (lvA0 hl) ?_
  refine gf_RJx4a65c_48 S hK hP 0 rfl (v := .int (nI n)) rfl (oc_180 2 (aq_2 shJx4a65c_get_915e3_0) uw_0_48) ?_
  refine vp_callSi (runS_r (As := [.int (nI k0), .int (nI n)]) (rest := []) S (q_l_chk l D cI cB cZ k0 n (by omega) (by omega)) kS_RJx4a65c_118 hK hP [] rfl ⟨Nat.le_of_ble_eq_true rfl, Nat.le_of_ble_eq_true rfl⟩ ⟨Nat.le_of_ble_eq_true rfl, Nat.le_of_ble_eq_true rfl⟩ rfl hl.1 rfl (Nat.le_of_ble_eq_true rfl) (oc_184 5 (aq_5 shJx4a65c_get_915e3_0) uw_0_118)) (fun r_1 h_2 => ?_)
  subst h_2
  refine lv_pop hx hb (oc_87 8 (aq_8 shJx4a65c_get_915e3_0)) rfl ?_
  refine lv_aload_n hx hb (oc_42 9 (aq_9 shJx4a65c_get_915e3_0)) rfl (lvA0 hl) ?_
  refine lv_iload_n hx hb (oc_27 10 (aq_10 shJx4a65c_get_915e3_0)) rfl (lvA1 hl) ?_
  refine va_csq (runV_rx (As := [.int (nI k0)]) (rest := []) S (q_l_elem l D cI cB cZ zz qq vv bt x z c0 n k0 o mc rf (by omega) ho (by omega)) kV_RJx4a65c_123 hK hXS hS hP [0, 1] rfl (va_recv hK.1 hP (q0 := 0) (ci := 0) rfl rfl) ⟨Nat.le_of_ble_eq_true rfl, Nat.le_of_ble_eq_true rfl⟩ ⟨Nat.le_of_ble_eq_true rfl, Nat.le_of_ble_eq_true rfl⟩ rfl hl.1 rfl (Nat.le_of_ble_eq_true rfl) (oc_182 11 (aq_11 shJx4a65c_get_915e3_0) uw_0_123)) (fun r_3 h_4 => ?_)
  subst h_4
  exact W.aret (v := .ref o) hx hb hr (Or.inl ⟨_, rfl⟩) (Or.inr ⟨_, rfl⟩) (fun t ht hW => ⟨some o, rfl, rfl, ht⟩) (fun _ h => absurd h List.not_mem_nil) (oc_176 14 (aq_14 shJx4a65c_get_915e3_0))
set_option maxRecDepth 100000 in
set_option maxHeartbeats 4000000 in
theorem q_l_at (l : Launch) (D : va_G) (cI cB cZ : ClassId) (a n : Nat) (f : Nat → Int32) (v0 : Int32) (hn : n < 2147483648) : Met l yX7_at (CWS yX7_at cX7_at 2 (some .int)) (RM 0 0 0) (PBr [.ref a, .int v0] D cI cB cZ [(a, .inl (cI, n, .inl f))]) (vp_Si (fun r => r = atM f n v0)) 0 0 (fun _ => False) := by
  refine en_r rfl pn_RX7 (Nat.le_of_ble_eq_true rfl) (fun p e s m below meth c hx hb hml hown S hr hlocks hnm hP hK hS ls hl => ?_)
  have hP : va_P D vwCl [(a, .inl (cI, n, .inl f))] s.heap := hP
  have hl : lv_has ls 2 [(0, .ref a), (1, .int v0)] := hl
  have tn : (nI n).toInt = (n : Int) := nI_toInt (by omega)
  refine lv_iload_n hx hb (oc_27 0 shX7_at_0) rfl (lvA1 hl) ?_
  refine lv_if_lt (tgt := 10) hx hb (oc_155 1 (aq_1 shX7_at_0) sgw_0_9) rfl (fun c_1 => ?_) (fun c_1 => ?_)
  ·
    have tc_1 : (v0.toInt : Int) < 0 := Int32.lt_iff_toInt_lt.mp c_1
    refine lv_iconst (v := 0) hx hb (oc_3 10 (aq_10 shX7_at_0)) kic_0 ?_
    refine lv_goto (tgt := 17) hx hb (oc_167 11 (aq_11 shX7_at_0) sgw_0_6) rfl ?_
    exact W.iret (v := 0) hx hb hr (fun t ht hW => ⟨0, rfl, (if_neg (by omega)).symm, ht⟩) (fun _ h => absurd h List.not_mem_nil) (oc_172 17 (aq_17 shX7_at_0))
  ·
    have tc_1 : (0 : Int) ≤ v0.toInt := Int32.le_iff_toInt_le.mp (Int32.not_lt.mp c_1)
    refine lv_iload_n hx hb (oc_27 4 (aq_4 shX7_at_0)) rfl (lvA1 hl) ?_
    refine lv_aload_n hx hb (oc_42 5 (aq_5 shX7_at_0)) rfl (lvA0 hl) ?_
    refine va_alen hx hb hK.1 hP 0 0 rfl rfl (v := (nI n)) rfl (oc_190 6 (aq_6 shX7_at_0)) ?_
    refine lv_icmp_lt (tgt := 14) hx hb (oc_161 7 (aq_7 shX7_at_0) sgw_0_7) rfl (fun c_2 => ?_) (fun c_2 => ?_)
    ·
      have tc_2 : (v0.toInt : Int) < (nI n).toInt := Int32.lt_iff_toInt_lt.mp c_2
      refine lv_aload_n hx hb (oc_42 14 (aq_14 shX7_at_0)) rfl (lvA0 hl) ?_
      refine lv_iload_n hx hb (oc_27 15 (aq_15 shX7_at_0)) rfl (lvA1 hl) ?_
      refine va_iald hx hb hK.1 hP 0 0 rfl rfl (vp_in_iff.mpr ⟨by omega, by omega⟩) (oc_46 16 (aq_16 shX7_at_0)) ?_
      exact W.iret (v := (f v0.toNatClampNeg)) hx hb hr (fun t ht hW => ⟨(f v0.toNatClampNeg), rfl, (if_pos (by omega)).symm, ht⟩) (fun _ h => absurd h List.not_mem_nil) (oc_172 17 (aq_17 shX7_at_0))
    ·
      have tc_2 : ((nI n).toInt : Int) ≤ v0.toInt := Int32.le_iff_toInt_le.mp (Int32.not_lt.mp c_2)
      refine lv_iconst (v := 0) hx hb (oc_3 10 (aq_10 shX7_at_0)) kic_0 ?_
      refine lv_goto (tgt := 17) hx hb (oc_167 11 (aq_11 shX7_at_0) sgw_0_6) rfl ?_
      exact W.iret (v := 0) hx hb hr (fun t ht hW => ⟨0, rfl, (if_neg (by omega)).symm, ht⟩) (fun _ h => absurd h List.not_mem_nil) (oc_172 17 (aq_17 shX7_at_0))
set_option maxRecDepth 100000 in
set_option maxHeartbeats 4000000 in
theorem q_l_put (l : Launch) (D : va_G) (cI cB cZ : ClassId) (a n : Nat) (f : Nat → Int32) (v0 v1 : Int32) (sz : Nat) (hn : n < 2147483648) : Met l yX7_put (CWS yX7_put cX7_put 3 none) (RM 0 0 0) (PBw [.ref a, .int v0, .int v1] D cI cB cZ [(a, .inl (cI, n, .inl f))] sz) (va_Qv (fun (u : Nat → Int32) => u = putM f n v0 v1) (fun (u : Nat → Int32) (t : State) => va_P D vwCl [(a, .inl (cI, n, .inl u))] t.heap ∧ va_D (va_A [(a, .inl (cI, n, .inl f))] sz) [(a, .inl (cI, n, .inl u))]) (va_A [(a, .inl (cI, n, .inl f))] sz)) 0 0 (va_A [(a, .inl (cI, n, .inl f))] sz) := by
  refine en_w (fun A => (va_Qv (fun (u : Nat → Int32) => u = putM f n v0 v1) (fun (u : Nat → Int32) (t : State) => va_P D vwCl [(a, .inl (cI, n, .inl u))] t.heap ∧ va_D A [(a, .inl (cI, n, .inl u))]) A)) rfl rfl pn_RX7 (Nat.le_of_ble_eq_true rfl) (fun p e s m below meth c A hx hb hml hown S hr hlocks hnm hA hP hK hD hS ls hl => ?_)
  have hP : va_P D vwCl [(a, .inl (cI, n, .inl f))] s.heap := hP
  have hD : va_D A [(a, .inl (cI, n, .inl f))] := hD
  have hl : lv_has ls 3 [(0, .ref a), (1, .int v0), (2, .int v1)] := hl
  have tn : (nI n).toInt = (n : Int) := nI_toInt (by omega)
  refine lv_iload_n hx hb (oc_27 0 shX7_put_0) rfl (lvA1 hl) ?_
  refine lv_if_lt (tgt := 14) hx hb (oc_155 1 (aq_1 shX7_put_0) sgw_0_13) rfl (fun c_1 => ?_) (fun c_1 => ?_)
  ·
    have tc_1 : (v0.toInt : Int) < 0 := Int32.lt_iff_toInt_lt.mp c_1
    have hP9 := hP.sub (ws' := [(a, .inl (cI, n, .inl f))]) [0] rfl
    have hD9 := hD.sub (ws' := [(a, .inl (cI, n, .inl f))]) [0] (by decide) rfl
    exact W.vret hx hb hr (fun t ht hW => ⟨⟨f, rfl, (if_neg (by omega)).symm, by rw [ht]; exact hP9, hD9⟩, hS.F ht⟩) hS.2.2 (oc_177 14 (aq_14 shX7_put_0))
  ·
    have tc_1 : (0 : Int) ≤ v0.toInt := Int32.le_iff_toInt_le.mp (Int32.not_lt.mp c_1)
    refine lv_iload_n hx hb (oc_27 4 (aq_4 shX7_put_0)) rfl (lvA1 hl) ?_
    refine lv_aload_n hx hb (oc_42 5 (aq_5 shX7_put_0)) rfl (lvA0 hl) ?_
    refine va_alen hx hb hK.1 hP 0 0 rfl rfl (v := (nI n)) rfl (oc_190 6 (aq_6 shX7_put_0)) ?_
    refine lv_icmp_ge (tgt := 14) hx hb (oc_162 7 (aq_7 shX7_put_0) sgw_0_7) rfl (fun c_2 => ?_) (fun c_2 => ?_)
    ·
      have tc_2 : ((nI n).toInt : Int) ≤ v0.toInt := Int32.le_iff_toInt_le.mp c_2
      have hP9 := hP.sub (ws' := [(a, .inl (cI, n, .inl f))]) [0] rfl
      have hD9 := hD.sub (ws' := [(a, .inl (cI, n, .inl f))]) [0] (by decide) rfl
      exact W.vret hx hb hr (fun t ht hW => ⟨⟨f, rfl, (if_neg (by omega)).symm, by rw [ht]; exact hP9, hD9⟩, hS.F ht⟩) hS.2.2 (oc_177 14 (aq_14 shX7_put_0))
    ·
      have tc_2 : (v0.toInt : Int) < (nI n).toInt := Int32.lt_iff_toInt_lt.mp (Int32.not_le.mp c_2)
      refine lv_aload_n hx hb (oc_42 10 (aq_10 shX7_put_0)) rfl (lvA0 hl) ?_
      refine lv_iload_n hx hb (oc_27 11 (aq_11 shX7_put_0)) rfl (lvA1 hl) ?_
      refine lv_iload_n hx hb (oc_28 12 (aq_12 shX7_put_0)) rfl (lvA2 hl) ?_
      refine va_iast hx hb hK.1 hP hD hS 0 0 rfl rfl (vp_in_iff.mpr ⟨by omega, by omega⟩) (oc_79 13 (aq_13 shX7_put_0)) (fun H locs hP hD hS => ?_)
      have hP : va_P D vwCl [(a, .inl (cI, n, .inl (upd f v0.toNatClampNeg v1)))] H := hP
      have hD : va_D A [(a, .inl (cI, n, .inl (upd f v0.toNatClampNeg v1)))] := hD
      have hP9 := hP.sub (ws' := [(a, .inl (cI, n, .inl (upd f v0.toNatClampNeg v1)))]) [0] rfl
      have hD9 := hD.sub (ws' := [(a, .inl (cI, n, .inl (upd f v0.toNatClampNeg v1)))]) [0] (by decide) rfl
      exact W.vret hx hb hr (fun t ht hW => ⟨⟨(upd f v0.toNatClampNeg v1), rfl, (if_pos (by omega)).symm, by rw [ht]; exact hP9, hD9⟩, hS.F ht⟩) hS.2.2 (oc_177 14 (aq_14 shX7_put_0))
set_option maxRecDepth 100000 in
set_option maxHeartbeats 4000000 in
theorem q_l_tell (l : Launch) (D : va_G) (cI cB cZ : ClassId) (a n : Nat) (f : Nat → Int32) (v0 v1 v2 v3 : Int32) (sz : Nat) (hn : n < 2147483648) : Met l yX7_tell (CWS yX7_tell cX7_tell 5 (some .boolean)) (RM 0 0 0) (PBw [.ref a, .int v0, .int v1, .int v2, .int v3] D cI cB cZ [(a, .inl (cI, n, .inl f))] sz) (va_Qi (fun (r : Int32) (u : Nat → Int32) => (r = 1 ∧ (0 ≤ v0.toInt ∧ v0.toInt < (n : Int) ∧ v2.toInt ≤ v1.toInt ∧ v1.toInt ≤ v3.toInt) ∧ upd f v0.toNatClampNeg v1 = u) ∨ (r = 0 ∧ ¬ (0 ≤ v0.toInt ∧ v0.toInt < (n : Int) ∧ v2.toInt ≤ v1.toInt ∧ v1.toInt ≤ v3.toInt) ∧ f = u)) (fun (u : Nat → Int32) (t : State) => va_P D vwCl [(a, .inl (cI, n, .inl u))] t.heap ∧ va_D (va_A [(a, .inl (cI, n, .inl f))] sz) [(a, .inl (cI, n, .inl u))]) (va_A [(a, .inl (cI, n, .inl f))] sz)) 0 0 (va_A [(a, .inl (cI, n, .inl f))] sz) := by
  refine en_w (fun A => (va_Qi (fun (r : Int32) (u : Nat → Int32) => (r = 1 ∧ (0 ≤ v0.toInt ∧ v0.toInt < (n : Int) ∧ v2.toInt ≤ v1.toInt ∧ v1.toInt ≤ v3.toInt) ∧ upd f v0.toNatClampNeg v1 = u) ∨ (r = 0 ∧ ¬ (0 ≤ v0.toInt ∧ v0.toInt < (n : Int) ∧ v2.toInt ≤ v1.toInt ∧ v1.toInt ≤ v3.toInt) ∧ f = u)) (fun (u : Nat → Int32) (t : State) => va_P D vwCl [(a, .inl (cI, n, .inl u))] t.heap ∧ va_D A [(a, .inl (cI, n, .inl u))]) A)) rfl rfl pn_RX7 (Nat.le_of_ble_eq_true rfl) (fun p e s m below meth c A hx hb hml hown S hr hlocks hnm hA hP hK hD hS ls hl => ?_)
  have hP : va_P D vwCl [(a, .inl (cI, n, .inl f))] s.heap := hP
  have hD : va_D A [(a, .inl (cI, n, .inl f))] := hD
  have hl : lv_has ls 5 [(0, .ref a), (1, .int v0), (2, .int v1), (3, .int v2), (4, .int v3)] := hl
  have tn : (nI n).toInt = (n : Int) := nI_toInt (by omega)
  refine lv_iload_n hx hb (oc_27 0 shX7_tell_0) rfl (lvA1 hl) ?_
  refine lv_if_lt (tgt := 21) hx hb (oc_155 1 (aq_1 shX7_tell_0) sgw_0_20) rfl (fun c_1 => ?_) (fun c_1 => ?_)
  ·
    have tc_1 : (v0.toInt : Int) < 0 := Int32.lt_iff_toInt_lt.mp c_1
    refine lv_iconst (v := 0) hx hb dX7_tell_21 kic_0 ?_
    have hP9 := hP.sub (ws' := [(a, .inl (cI, n, .inl f))]) [0] rfl
    have hD9 := hD.sub (ws' := [(a, .inl (cI, n, .inl f))]) [0] (by decide) rfl
    exact W.zret (v := 0) hx hb hr rfl (fun t ht hW => ⟨⟨0, f, rfl, (Or.inr ⟨rfl, by omega, rfl⟩), by rw [ht]; exact hP9, hD9⟩, hS.F ht⟩) hS.2.2 dX7_tell_22
  ·
    have tc_1 : (0 : Int) ≤ v0.toInt := Int32.le_iff_toInt_le.mp (Int32.not_lt.mp c_1)
    refine lv_iload_n hx hb (oc_27 4 (aq_4 shX7_tell_0)) rfl (lvA1 hl) ?_
    refine lv_aload_n hx hb (oc_42 5 (aq_5 shX7_tell_0)) rfl (lvA0 hl) ?_
    refine va_alen hx hb hK.1 hP 0 0 rfl rfl (v := (nI n)) rfl (oc_190 6 (aq_6 shX7_tell_0)) ?_
    refine lv_icmp_ge (tgt := 21) hx hb (oc_162 7 (aq_7 shX7_tell_0) sgw_0_14) rfl (fun c_2 => ?_) (fun c_2 => ?_)
    ·
      have tc_2 : ((nI n).toInt : Int) ≤ v0.toInt := Int32.le_iff_toInt_le.mp c_2
      refine lv_iconst (v := 0) hx hb dX7_tell_21 kic_0 ?_
      have hP9 := hP.sub (ws' := [(a, .inl (cI, n, .inl f))]) [0] rfl
      have hD9 := hD.sub (ws' := [(a, .inl (cI, n, .inl f))]) [0] (by decide) rfl
      exact W.zret (v := 0) hx hb hr rfl (fun t ht hW => ⟨⟨0, f, rfl, (Or.inr ⟨rfl, by omega, rfl⟩), by rw [ht]; exact hP9, hD9⟩, hS.F ht⟩) hS.2.2 dX7_tell_22
    ·
      have tc_2 : (v0.toInt : Int) < (nI n).toInt := Int32.lt_iff_toInt_lt.mp (Int32.not_le.mp c_2)
      refine lv_iload_n hx hb (oc_28 10 (aq_10 shX7_tell_0)) rfl (lvA2 hl) ?_
      refine lv_iload_n hx hb (oc_29 11 (aq_11 shX7_tell_0)) rfl (lvA3 hl) ?_
      refine lv_icmp_lt (tgt := 21) hx hb (oc_161 12 (aq_12 shX7_tell_0) sgw_0_9) rfl (fun c_3 => ?_) (fun c_3 => ?_)
      ·
        have tc_3 : (v1.toInt : Int) < v2.toInt := Int32.lt_iff_toInt_lt.mp c_3
        refine lv_iconst (v := 0) hx hb dX7_tell_21 kic_0 ?_
        have hP9 := hP.sub (ws' := [(a, .inl (cI, n, .inl f))]) [0] rfl
        have hD9 := hD.sub (ws' := [(a, .inl (cI, n, .inl f))]) [0] (by decide) rfl
        exact W.zret (v := 0) hx hb hr rfl (fun t ht hW => ⟨⟨0, f, rfl, (Or.inr ⟨rfl, by omega, rfl⟩), by rw [ht]; exact hP9, hD9⟩, hS.F ht⟩) hS.2.2 dX7_tell_22
      ·
        have tc_3 : (v2.toInt : Int) ≤ v1.toInt := Int32.le_iff_toInt_le.mp (Int32.not_lt.mp c_3)
        refine lv_iload_n hx hb (oc_28 15 (aq_15 shX7_tell_0)) rfl (lvA2 hl) ?_
        refine lv_iload hx hb (oc_21 16 (aq_16 shX7_tell_0) ub_4) (lvA4 hl) ?_
        refine lv_icmp_le (tgt := 23) hx hb (oc_164 18 (aq_18 shX7_tell_0) sgw_0_5) rfl (fun c_4 => ?_) (fun c_4 => ?_)
        ·
          have tc_4 : (v1.toInt : Int) ≤ v3.toInt := Int32.le_iff_toInt_le.mp c_4
          refine lv_aload_n hx hb (oc_42 23 (aq_23 shX7_tell_0)) rfl (lvA0 hl) ?_
          refine lv_iload_n hx hb (oc_27 24 shX7_tell_24) rfl (lvA1 hl) ?_
          refine lv_iload_n hx hb (oc_28 25 (aq_1 shX7_tell_24)) rfl (lvA2 hl) ?_
          refine va_iast hx hb hK.1 hP hD hS 0 0 rfl rfl (vp_in_iff.mpr ⟨by omega, by omega⟩) (oc_79 26 (aq_2 shX7_tell_24)) (fun H locs hP hD hS => ?_)
          have hP : va_P D vwCl [(a, .inl (cI, n, .inl (upd f v0.toNatClampNeg v1)))] H := hP
          have hD : va_D A [(a, .inl (cI, n, .inl (upd f v0.toNatClampNeg v1)))] := hD
          refine lv_iconst (v := 1) hx hb (oc_4 27 (aq_3 shX7_tell_24)) kic_1 ?_
          have hP9 := hP.sub (ws' := [(a, .inl (cI, n, .inl (upd f v0.toNatClampNeg v1)))]) [0] rfl
          have hD9 := hD.sub (ws' := [(a, .inl (cI, n, .inl (upd f v0.toNatClampNeg v1)))]) [0] (by decide) rfl
          exact W.zret (v := 1) hx hb hr rfl (fun t ht hW => ⟨⟨1, (upd f v0.toNatClampNeg v1), rfl, (Or.inl ⟨rfl, by omega, rfl⟩), by rw [ht]; exact hP9, hD9⟩, hS.F ht⟩) hS.2.2 (oc_172 28 (aq_4 shX7_tell_24))
        ·
          have tc_4 : (v3.toInt : Int) < v1.toInt := Int32.lt_iff_toInt_lt.mp (Int32.not_le.mp c_4)
          refine lv_iconst (v := 0) hx hb dX7_tell_21 kic_0 ?_
          have hP9 := hP.sub (ws' := [(a, .inl (cI, n, .inl f))]) [0] rfl
          have hD9 := hD.sub (ws' := [(a, .inl (cI, n, .inl f))]) [0] (by decide) rfl
          exact W.zret (v := 0) hx hb hr rfl (fun t ht hW => ⟨⟨0, f, rfl, (Or.inr ⟨rfl, by omega, rfl⟩), by rw [ht]; exact hP9, hD9⟩, hS.F ht⟩) hS.2.2 dX7_tell_22
set_option maxRecDepth 100000 in
set_option maxHeartbeats 4000000 in
theorem q_Xnow (l : Launch) (D : va_G) (cI cB cZ : ClassId) (zz qq vv : Nat) (bt : Nat → Int32) (g : Nat → Nat) (ad : Nat → Nat → Nat) (cn : Nat → Nat) (In : Nat → Int32) (Fn : Nat → Nat → Int32) (v0 : Int32) (sz : Nat) (hB : CBX cn) : Met l yX11_now (CWS yX11_now cX11_now 2 (some .boolean)) (RM 2 0 0) (PBx [.ref (g 0), .int v0] D cI cB cZ zz qq vv bt (wX cI (D.1 99) zz g ad cn In Fn) sz) (va_Qi (fun (r : Int32) (u : (Nat → Nat) × (Nat → Int32) × (Nat → Nat → Int32)) => (fun r c2 I2 F2 => (∀ k : Nat, k ∉ [] → I2 k = In k) ∧ ((r = 1 ∧ ((cn 0 : Int) ≤ v0.toInt ∧ v0.toInt ≤ 399) ∧ (va_up cn 0 v0.toInt.toNat) = c2 ∧ Fn = F2) ∨ (r = 0 ∧ (¬ ((cn 0 : Int) ≤ v0.toInt ∧ v0.toInt ≤ 399)) ∧ cn = c2 ∧ Fn = F2))) r u.1 u.2.1 u.2.2) (fun (u : (Nat → Nat) × (Nat → Int32) × (Nat → Nat → Int32)) (t : State) => va_P D vwCl (wX cI (D.1 99) zz g ad u.1 u.2.1 u.2.2) t.heap ∧ va_D (va_A (wX cI (D.1 99) zz g ad cn In Fn) sz) (wX cI (D.1 99) zz g ad u.1 u.2.1 u.2.2)) (va_A (wX cI (D.1 99) zz g ad cn In Fn) sz)) 0 0 (va_A (wX cI (D.1 99) zz g ad cn In Fn) sz) := by
  refine en_x (fun A => (va_Qi (fun (r : Int32) (u : (Nat → Nat) × (Nat → Int32) × (Nat → Nat → Int32)) => (fun (r : Int32) (c2 : Nat → Nat) (I2 : Nat → Int32) (F2 : Nat → Nat → Int32) => (∀ k : Nat, k ∉ [] → I2 k = In k) ∧ ((r = 1 ∧ ((cn 0 : Int) ≤ v0.toInt ∧ v0.toInt ≤ 399) ∧ (va_up cn 0 v0.toInt.toNat) = c2 ∧ Fn = F2) ∨ (r = 0 ∧ (¬ ((cn 0 : Int) ≤ v0.toInt ∧ v0.toInt ≤ 399)) ∧ cn = c2 ∧ Fn = F2))) r u.1 u.2.1 u.2.2) (fun (u : (Nat → Nat) × (Nat → Int32) × (Nat → Nat → Int32)) (t : State) => va_P D vwCl (wX cI (D.1 99) zz g ad u.1 u.2.1 u.2.2) t.heap ∧ va_D A (wX cI (D.1 99) zz g ad u.1 u.2.1 u.2.2)) A)) rfl rfl pn_RX11 (Nat.le_of_ble_eq_true rfl) (fun p e s m below meth c A hx hb hml hown S hr hlocks hnm hA hP hK hD hXS hS ls hl => ?_)
  have hl : lv_has ls 2 [(0, .ref (g 0)), (1, .int v0)] := hl
  have hb_cn : Hid (CBX cn) := hB
  replace hB : CBXh cn := hB
  refine lv_iload_n hx hb (oc_27 0 shX11_now_0) rfl (lvA1 hl) ?_
  refine vp_callSi (runS_r (As := [.int v0]) (rest := []) S (q_l_isDay l D cI cB cZ v0) kS_RX11_99 hK hP [] rfl ⟨Nat.le_of_ble_eq_true rfl, Nat.le_of_ble_eq_true rfl⟩ ⟨Nat.le_of_ble_eq_true rfl, Nat.le_of_ble_eq_true rfl⟩ rfl hl.1 rfl (Nat.le_of_ble_eq_true rfl) (oc_184 1 (aq_1 shX11_now_0) uw_0_99)) (fun r_1 h_2 => ?_)
  rcases h_2 with ⟨rfl, h_2⟩ | ⟨rfl, h_2⟩
  ·
    have h_2 : 0 ≤ v0.toInt ∧ v0.toInt ≤ 399 := h_2
    refine lv_if_eq (tgt := 15) hx hb (oc_153 4 (aq_4 shX11_now_0) sgw_0_11) rfl (fun h => absurd h cq_eq_1_0) (fun _ => ?_)
    refine lv_iload_n hx hb (oc_27 7 (aq_7 shX11_now_0)) rfl (lvA1 hl) ?_
    refine lv_aload_n hx hb (oc_42 8 (aq_8 shX11_now_0)) rfl (lvA0 hl) ?_
    refine gf_RX11_103 S hK hP 0 xo_0 (v := .int (nI (cn 0))) rfl (oc_180 9 (aq_9 shX11_now_0) uw_0_103) ?_
    have : (nI (cn 0)).toInt = (((cn 0) : Nat) : Int) := nI_toInt (by (first | omega | (have zz0 := Hid.u hb_cn; omega)))
    refine lv_icmp_ge (tgt := 17) hx hb (oc_162 12 (aq_12 shX11_now_0) sgw_0_5) rfl (fun c_3 => ?_) (fun c_3 => ?_)
    ·
      have tc_3 : ((nI (cn 0)).toInt : Int) ≤ v0.toInt := Int32.le_iff_toInt_le.mp c_3
      obtain ⟨d0, hd0, rfl⟩ := nI_of (x := v0) (fun q => by have := Int32.lt_iff_toInt_lt.mp q; have e : (0 : Int32).toInt = 0 := rfl; (first | omega | (have zz0 := Hid.u hb_cn; omega)))
      have td0 : (nI d0).toInt = (d0 : Int) := nI_toInt hd0
      have zd0 : (nI d0).toInt.toNat = d0 := by (first | omega | (have zz0 := Hid.u hb_cn; omega))
      refine lv_aload_n hx hb (oc_42 17 (aq_17 shX11_now_0)) rfl (lvA0 hl) ?_
      refine lv_iload_n hx hb (oc_27 18 (aq_18 shX11_now_0)) rfl (lvA1 hl) ?_
      refine pf_RX11_103 S hK hP hD hS 0 xo_0 (v := .int (nI d0)) (Nat.le_of_ble_eq_true rfl) rfl rfl (oc_181 19 (aq_19 shX11_now_0) uw_0_103) (fun H locs hP hD hS => ?_)
      have hP : va_P D vwCl (wX cI (D.1 99) zz g ad (va_up cn 0 d0) In Fn) H := va_P_eq (xsf_0_0) hP
      have hD : va_D A (wX cI (D.1 99) zz g ad (va_up cn 0 d0) In Fn) := va_D_eq (xsf_0_0) hD
      refine lv_iconst (v := 1) hx hb (oc_4 22 (aq_22 shX11_now_0)) kic_1 ?_
      exact W.zret (v := 1) hx hb hr rfl (fun t ht hW => ⟨⟨1, ((va_up cn 0 d0), In, Fn), rfl, ⟨(show Fr [0] [] [] cn In Fn (va_up cn 0 d0) In Fn from Fr.mo (Fr.c 0 (Fr.rf (cn := cn) (In := In) (Fn := Fn))) (sbl rfl) (sbl rfl) (sbl rfl)).2.1, (Or.inl ⟨rfl, (by first | trivial | (first | omega | (have zz0 := Hid.u hb_cn; omega)) | (simp only [zd0]; (first | omega | (have zz0 := Hid.u hb_cn; omega)))), (by first | rfl | simp only [zd0] | simp only [zd0, zd1]), (by first | rfl | simp only [zd0] | simp only [zd0, zd1])⟩)⟩, by rw [ht]; exact hP, hD⟩, hS.F ht⟩) hS.2.2 (oc_172 23 (aq_23 shX11_now_0))
    ·
      have tc_3 : (v0.toInt : Int) < (nI (cn 0)).toInt := Int32.lt_iff_toInt_lt.mp (Int32.not_le.mp c_3)
      refine lv_iconst (v := 0) hx hb (oc_3 15 (aq_15 shX11_now_0)) kic_0 ?_
      exact W.zret (v := 0) hx hb hr rfl (fun t ht hW => ⟨⟨0, (cn, In, Fn), rfl, ⟨(show Fr [0] [] [] cn In Fn cn In Fn from Fr.mo (Fr.rf (cn := cn) (In := In) (Fn := Fn)) (sbl rfl) (sbl rfl) (sbl rfl)).2.1, (Or.inr ⟨rfl, (by first | trivial | (first | omega | (have zz0 := Hid.u hb_cn; omega)) | (simp only [zd0]; (first | omega | (have zz0 := Hid.u hb_cn; omega)))), (by first | rfl | simp only [zd0] | simp only [zd0, zd1]), (by first | rfl | simp only [zd0] | simp only [zd0, zd1])⟩)⟩, by rw [ht]; exact hP, hD⟩, hS.F ht⟩) hS.2.2 (oc_172 16 (aq_16 shX11_now_0))
  ·
    have h_2 : ¬ (0 ≤ v0.toInt ∧ v0.toInt ≤ 399) := h_2
    refine lv_if_eq (tgt := 15) hx hb (oc_153 4 (aq_4 shX11_now_0) sgw_0_11) rfl (fun _ => ?_) (fun h => absurd h cq_eq_0_0)
    refine lv_iconst (v := 0) hx hb (oc_3 15 (aq_15 shX11_now_0)) kic_0 ?_
    exact W.zret (v := 0) hx hb hr rfl (fun t ht hW => ⟨⟨0, (cn, In, Fn), rfl, ⟨(show Fr [0] [] [] cn In Fn cn In Fn from Fr.mo (Fr.rf (cn := cn) (In := In) (Fn := Fn)) (sbl rfl) (sbl rfl) (sbl rfl)).2.1, (Or.inr ⟨rfl, (by first | trivial | (first | omega | (have zz0 := Hid.u hb_cn; omega)) | (simp only [zd0]; (first | omega | (have zz0 := Hid.u hb_cn; omega)))), (by first | rfl | simp only [zd0] | simp only [zd0, zd1]), (by first | rfl | simp only [zd0] | simp only [zd0, zd1])⟩)⟩, by rw [ht]; exact hP, hD⟩, hS.F ht⟩) hS.2.2 (oc_172 16 (aq_16 shX11_now_0))
end

section
set_option maxRecDepth 100000 in
theorem gf_RX11_47 {p : Program} {l : Launch} {e : Env} {R : Room} {s : State} {m : MethodId} {args : Array Value} {below : List Frame} {meth : Method} {c : Code} {H : Heap} {locs : List Loc} {cells slots : Nat} {Q : State → Prop} {cc : ByteArray} {nL pc : Nat} {D : va_G} {cI cB cZ : ClassId} {ws : va_W} {rest : List Value} {ls : Array Slot} {a : Nat} {fs : List Value} {v : Value} (S : SF p m c cc nL s args RX11) (hK : KK D cI cB cZ s) (hP : va_P D vwCl ws H) (q0 : Nat) (he : ws[q0]? = some (a, .inr (12, fs))) (hv : fs[8]? = some v) (hdg : decode cc pc = .ok (.getfield 47, 3)) (kk : W p l e R s m args below meth c H locs cells slots Q (F0 m (pc + 3) ls (v :: rest))) : W p l e R s m args below meth c H locs cells slots Q (F0 m pc ls (.ref a :: rest)) :=
  va_get (C := RX11) (T := TX11) (N := 16) S.1 S.2.1 S.2.2.2.2 hin_RX11 S.2.2.2.1 hK.1 hP q0 he rfl 8 (by decide) (S.2.2.2.2 _ (wk2_0 4 rfl rfl)) (fun _ h9 => h9) hv hdg kk
set_option maxRecDepth 100000 in
theorem hin_RX7 : ∀ w ∈ u_ws RX7 TX7 10, w ∈ wT := hin_all (C := RX7) (T := TX7) (n := 10) (hin_s (hin_s (hin_s (hin_s (hin_s (hin_s (hin_s (hin_s (hin_s (hin_s (fun k hk => absurd hk (Nat.not_lt_zero k)) (wk1_13 1 rfl rfl)) (wk1_13 3 rfl rfl)) (wk1_13 5 rfl rfl)) (wk1_13 7 rfl rfl)) (wk1_13 9 rfl rfl)) (wk1_13 11 rfl rfl)) (wk1_14 1 rfl rfl)) (wk1_14 3 rfl rfl)) (wk1_14 5 rfl rfl)) (wk1_14 7 rfl rfl))
set_option maxRecDepth 100000 in
theorem gf_RX11_174 {p : Program} {l : Launch} {e : Env} {R : Room} {s : State} {m : MethodId} {args : Array Value} {below : List Frame} {meth : Method} {c : Code} {H : Heap} {locs : List Loc} {cells slots : Nat} {Q : State → Prop} {cc : ByteArray} {nL pc : Nat} {D : va_G} {cI cB cZ : ClassId} {ws : va_W} {rest : List Value} {ls : Array Slot} {a : Nat} {fs : List Value} {v : Value} (S : SF p m c cc nL s args RX11) (hK : KK D cI cB cZ s) (hP : va_P D vwCl ws H) (q0 : Nat) (he : ws[q0]? = some (a, .inr (8, fs))) (hv : fs[0]? = some v) (hdg : decode cc pc = .ok (.getfield 174, 3)) (kk : W p l e R s m args below meth c H locs cells slots Q (F0 m (pc + 3) ls (v :: rest))) : W p l e R s m args below meth c H locs cells slots Q (F0 m pc ls (.ref a :: rest)) :=
  va_get (C := RX7) (T := TX7) (N := 10) S.1 S.2.1 S.2.2.2.2 hin_RX7 S.2.2.2.1 hK.1 hP q0 he rfl 0 (by decide) (S.2.2.2.2 _ (wk1_11 6 rfl rfl)) (fun _ h9 => h9) hv hdg kk
set_option maxRecDepth 100000 in
theorem kS_RX11_177 : CalS RX11 177 yX7_tell cX7_tell 5 (some .boolean) 5 := ⟨⟨wk3_18 7 rfl rfl, wk3_18 8 rfl rfl, wk1_0 7 rfl rfl, wk3_18 9 rfl rfl⟩, ⟨nmh_8.1, nmh_8.2, pd_70⟩⟩
set_option maxRecDepth 100000 in
theorem gf_RX11_467 {p : Program} {l : Launch} {e : Env} {R : Room} {s : State} {m : MethodId} {args : Array Value} {below : List Frame} {meth : Method} {c : Code} {H : Heap} {locs : List Loc} {cells slots : Nat} {Q : State → Prop} {cc : ByteArray} {nL pc : Nat} {D : va_G} {cI cB cZ : ClassId} {ws : va_W} {rest : List Value} {ls : Array Slot} {a : Nat} {fs : List Value} {v : Value} (S : SF p m c cc nL s args RX11) (hK : KK D cI cB cZ s) (hP : va_P D vwCl ws H) (q0 : Nat) (he : ws[q0]? = some (a, .inr (8, fs))) (hv : fs[1]? = some v) (hdg : decode cc pc = .ok (.getfield 467, 3)) (kk : W p l e R s m args below meth c H locs cells slots Q (F0 m (pc + 3) ls (v :: rest))) : W p l e R s m args below meth c H locs cells slots Q (F0 m pc ls (.ref a :: rest)) :=
  va_get (C := RX7) (T := TX7) (N := 10) S.1 S.2.1 S.2.2.2.2 hin_RX7 S.2.2.2.1 hK.1 hP q0 he rfl 1 (by decide) (S.2.2.2.2 _ (wk1_11 8 rfl rfl)) (fun _ h9 => h9) hv hdg kk
set_option maxRecDepth 100000 in
theorem gf_RX11_486 {p : Program} {l : Launch} {e : Env} {R : Room} {s : State} {m : MethodId} {args : Array Value} {below : List Frame} {meth : Method} {c : Code} {H : Heap} {locs : List Loc} {cells slots : Nat} {Q : State → Prop} {cc : ByteArray} {nL pc : Nat} {D : va_G} {cI cB cZ : ClassId} {ws : va_W} {rest : List Value} {ls : Array Slot} {a : Nat} {fs : List Value} {v : Value} (S : SF p m c cc nL s args RX11) (hK : KK D cI cB cZ s) (hP : va_P D vwCl ws H) (q0 : Nat) (he : ws[q0]? = some (a, .inr (8, fs))) (hv : fs[2]? = some v) (hdg : decode cc pc = .ok (.getfield 486, 3)) (kk : W p l e R s m args below meth c H locs cells slots Q (F0 m (pc + 3) ls (v :: rest))) : W p l e R s m args below meth c H locs cells slots Q (F0 m pc ls (.ref a :: rest)) :=
  va_get (C := RX7) (T := TX7) (N := 10) S.1 S.2.1 S.2.2.2.2 hin_RX7 S.2.2.2.1 hK.1 hP q0 he rfl 2 (by decide) (S.2.2.2.2 _ (wk1_11 10 rfl rfl)) (fun _ h9 => h9) hv hdg kk
set_option maxRecDepth 100000 in
theorem gf_RX11_492 {p : Program} {l : Launch} {e : Env} {R : Room} {s : State} {m : MethodId} {args : Array Value} {below : List Frame} {meth : Method} {c : Code} {H : Heap} {locs : List Loc} {cells slots : Nat} {Q : State → Prop} {cc : ByteArray} {nL pc : Nat} {D : va_G} {cI cB cZ : ClassId} {ws : va_W} {rest : List Value} {ls : Array Slot} {a : Nat} {fs : List Value} {v : Value} (S : SF p m c cc nL s args RX11) (hK : KK D cI cB cZ s) (hP : va_P D vwCl ws H) (q0 : Nat) (he : ws[q0]? = some (a, .inr (8, fs))) (hv : fs[3]? = some v) (hdg : decode cc pc = .ok (.getfield 492, 3)) (kk : W p l e R s m args below meth c H locs cells slots Q (F0 m (pc + 3) ls (v :: rest))) : W p l e R s m args below meth c H locs cells slots Q (F0 m pc ls (.ref a :: rest)) :=
  va_get (C := RX7) (T := TX7) (N := 10) S.1 S.2.1 S.2.2.2.2 hin_RX7 S.2.2.2.1 hK.1 hP q0 he rfl 3 (by decide) (S.2.2.2.2 _ (wk1_12 0 rfl rfl)) (fun _ h9 => h9) hv hdg kk
set_option maxRecDepth 100000 in
theorem gf_RX11_426 {p : Program} {l : Launch} {e : Env} {R : Room} {s : State} {m : MethodId} {args : Array Value} {below : List Frame} {meth : Method} {c : Code} {H : Heap} {locs : List Loc} {cells slots : Nat} {Q : State → Prop} {cc : ByteArray} {nL pc : Nat} {D : va_G} {cI cB cZ : ClassId} {ws : va_W} {rest : List Value} {ls : Array Slot} {a : Nat} {fs : List Value} {v : Value} (S : SF p m c cc nL s args RX11) (hK : KK D cI cB cZ s) (hP : va_P D vwCl ws H) (q0 : Nat) (he : ws[q0]? = some (a, .inr (8, fs))) (hv : fs[4]? = some v) (hdg : decode cc pc = .ok (.getfield 426, 3)) (kk : W p l e R s m args below meth c H locs cells slots Q (F0 m (pc + 3) ls (v :: rest))) : W p l e R s m args below meth c H locs cells slots Q (F0 m pc ls (.ref a :: rest)) :=
  va_get (C := RX7) (T := TX7) (N := 10) S.1 S.2.1 S.2.2.2.2 hin_RX7 S.2.2.2.1 hK.1 hP q0 he rfl 4 (by decide) (S.2.2.2.2 _ (wk1_12 2 rfl rfl)) (fun _ h9 => h9) hv hdg kk
set_option maxRecDepth 100000 in
theorem gf_RX11_435 {p : Program} {l : Launch} {e : Env} {R : Room} {s : State} {m : MethodId} {args : Array Value} {below : List Frame} {meth : Method} {c : Code} {H : Heap} {locs : List Loc} {cells slots : Nat} {Q : State → Prop} {cc : ByteArray} {nL pc : Nat} {D : va_G} {cI cB cZ : ClassId} {ws : va_W} {rest : List Value} {ls : Array Slot} {a : Nat} {fs : List Value} {v : Value} (S : SF p m c cc nL s args RX11) (hK : KK D cI cB cZ s) (hP : va_P D vwCl ws H) (q0 : Nat) (he : ws[q0]? = some (a, .inr (8, fs))) (hv : fs[5]? = some v) (hdg : decode cc pc = .ok (.getfield 435, 3)) (kk : W p l e R s m args below meth c H locs cells slots Q (F0 m (pc + 3) ls (v :: rest))) : W p l e R s m args below meth c H locs cells slots Q (F0 m pc ls (.ref a :: rest)) :=
  va_get (C := RX7) (T := TX7) (N := 10) S.1 S.2.1 S.2.2.2.2 hin_RX7 S.2.2.2.1 hK.1 hP q0 he rfl 5 (by decide) (S.2.2.2.2 _ (wk1_12 4 rfl rfl)) (fun _ h9 => h9) hv hdg kk
set_option maxRecDepth 100000 in
theorem gf_RX11_429 {p : Program} {l : Launch} {e : Env} {R : Room} {s : State} {m : MethodId} {args : Array Value} {below : List Frame} {meth : Method} {c : Code} {H : Heap} {locs : List Loc} {cells slots : Nat} {Q : State → Prop} {cc : ByteArray} {nL pc : Nat} {D : va_G} {cI cB cZ : ClassId} {ws : va_W} {rest : List Value} {ls : Array Slot} {a : Nat} {fs : List Value} {v : Value} (S : SF p m c cc nL s args RX11) (hK : KK D cI cB cZ s) (hP : va_P D vwCl ws H) (q0 : Nat) (he : ws[q0]? = some (a, .inr (8, fs))) (hv : fs[6]? = some v) (hdg : decode cc pc = .ok (.getfield 429, 3)) (kk : W p l e R s m args below meth c H locs cells slots Q (F0 m (pc + 3) ls (v :: rest))) : W p l e R s m args below meth c H locs cells slots Q (F0 m pc ls (.ref a :: rest)) :=
  va_get (C := RX7) (T := TX7) (N := 10) S.1 S.2.1 S.2.2.2.2 hin_RX7 S.2.2.2.1 hK.1 hP q0 he rfl 6 (by decide) (S.2.2.2.2 _ (wk1_12 6 rfl rfl)) (fun _ h9 => h9) hv hdg kk
set_option maxRecDepth 100000 in
theorem gf_RX11_311 {p : Program} {l : Launch} {e : Env} {R : Room} {s : State} {m : MethodId} {args : Array Value} {below : List Frame} {meth : Method} {c : Code} {H : Heap} {locs : List Loc} {cells slots : Nat} {Q : State → Prop} {cc : ByteArray} {nL pc : Nat} {D : va_G} {cI cB cZ : ClassId} {ws : va_W} {rest : List Value} {ls : Array Slot} {a : Nat} {fs : List Value} {v : Value} (S : SF p m c cc nL s args RX11) (hK : KK D cI cB cZ s) (hP : va_P D vwCl ws H) (q0 : Nat) (he : ws[q0]? = some (a, .inr (12, fs))) (hv : fs[1]? = some v) (hdg : decode cc pc = .ok (.getfield 311, 3)) (kk : W p l e R s m args below meth c H locs cells slots Q (F0 m (pc + 3) ls (v :: rest))) : W p l e R s m args below meth c H locs cells slots Q (F0 m pc ls (.ref a :: rest)) :=
  va_get (C := RX11) (T := TX11) (N := 16) S.1 S.2.1 S.2.2.2.2 hin_RX11 S.2.2.2.1 hK.1 hP q0 he rfl 1 (by decide) (S.2.2.2.2 _ (wk1_19 9 rfl rfl)) (fun _ h9 => h9) hv hdg kk
set_option maxRecDepth 100000 in
theorem gf_RX11_314 {p : Program} {l : Launch} {e : Env} {R : Room} {s : State} {m : MethodId} {args : Array Value} {below : List Frame} {meth : Method} {c : Code} {H : Heap} {locs : List Loc} {cells slots : Nat} {Q : State → Prop} {cc : ByteArray} {nL pc : Nat} {D : va_G} {cI cB cZ : ClassId} {ws : va_W} {rest : List Value} {ls : Array Slot} {a : Nat} {fs : List Value} {v : Value} (S : SF p m c cc nL s args RX11) (hK : KK D cI cB cZ s) (hP : va_P D vwCl ws H) (q0 : Nat) (he : ws[q0]? = some (a, .inr (8, fs))) (hv : fs[7]? = some v) (hdg : decode cc pc = .ok (.getfield 314, 3)) (kk : W p l e R s m args below meth c H locs cells slots Q (F0 m (pc + 3) ls (v :: rest))) : W p l e R s m args below meth c H locs cells slots Q (F0 m pc ls (.ref a :: rest)) :=
  va_get (C := RX7) (T := TX7) (N := 10) S.1 S.2.1 S.2.2.2.2 hin_RX7 S.2.2.2.1 hK.1 hP q0 he rfl 7 (by decide) (S.2.2.2.2 _ (wk1_12 8 rfl rfl)) (fun _ h9 => h9) hv hdg kk
set_option maxRecDepth 100000 in
theorem kS_RX11_184 : CalS RX11 184 yX7_put cX7_put 3 none 3 := ⟨⟨wk4_0 7 rfl rfl, wk3_1 11 rfl rfl, wk1_0 7 rfl rfl, wk3_2 0 rfl rfl⟩, ⟨nmh_8.1, nmh_8.2, pd_69⟩⟩
set_option maxRecDepth 100000 in
theorem pf_RX11_311 {p : Program} {l : Launch} {e : Env} {R : Room} {s : State} {m : MethodId} {args : Array Value} {below : List Frame} {meth : Method} {c : Code} {H : Heap} {locs : List Loc} {cells slots : Nat} {Q : State → Prop} {cc : ByteArray} {nL pc : Nat} {D : va_G} {cI cB cZ : ClassId} {ws : va_W} {rest : List Value} {ls : Array Slot} {a : Nat} {fs : List Value} {v : Value} {A : Nat → Prop} {H0 : Heap} (S : SF p m c cc nL s args RX11) (hK : KK D cI cB cZ s) (hP : va_P D vwCl ws H) (hD : va_D A ws) (hS : va_S A H0 H locs) (q0 : Nat) (he : ws[q0]? = some (a, .inr (12, fs))) (hl : 1 < fs.length) (hn : narrow (tyX11 1) v = v) (hfit : fits (tyX11 1) v = true) (hdg : decode cc pc = .ok (.putfield 311, 3)) (kk : ∀ (H1 : Heap) (locs1 : List Loc), va_P D vwCl (ws.set q0 (a, .inr (12, fs.set 1 v))) H1 → va_D A (ws.set q0 (a, .inr (12, fs.set 1 v))) → va_S A H0 H1 locs1 → W p l e R s m args below meth c H1 locs1 cells slots Q (F0 m (pc + 3) ls rest)) : W p l e R s m args below meth c H locs cells slots Q (F0 m pc ls (v :: .ref a :: rest)) :=
  va_put (C := RX11) (T := TX11) (N := 16) S.1 S.2.1 S.2.2.2.2 hin_RX11 tyX11 tyX11_ok nmX11 S.2.2.2.1 hK.1 hP hD hS q0 he rfl 1 (by decide) (S.2.2.2.2 _ (wk1_19 9 rfl rfl)) (fun _ h9 => h9) rfl (tyX11_ok 1 (by decide)) hn hfit hl hdg kk
set_option maxRecDepth 100000 in
theorem gf_RX11_502 {p : Program} {l : Launch} {e : Env} {R : Room} {s : State} {m : MethodId} {args : Array Value} {below : List Frame} {meth : Method} {c : Code} {H : Heap} {locs : List Loc} {cells slots : Nat} {Q : State → Prop} {cc : ByteArray} {nL pc : Nat} {D : va_G} {cI cB cZ : ClassId} {ws : va_W} {rest : List Value} {ls : Array Slot} {a : Nat} {fs : List Value} {v : Value} (S : SF p m c cc nL s args RX11) (hK : KK D cI cB cZ s) (hP : va_P D vwCl ws H) (q0 : Nat) (he : ws[q0]? = some (a, .inr (12, fs))) (hv : fs[2]? = some v) (hdg : decode cc pc = .ok (.getfield 502, 3)) (kk : W p l e R s m args below meth c H locs cells slots Q (F0 m (pc + 3) ls (v :: rest))) : W p l e R s m args below meth c H locs cells slots Q (F0 m pc ls (.ref a :: rest)) :=
  va_get (C := RX11) (T := TX11) (N := 16) S.1 S.2.1 S.2.2.2.2 hin_RX11 S.2.2.2.1 hK.1 hP q0 he rfl 2 (by decide) (S.2.2.2.2 _ (wk1_19 10 rfl rfl)) (fun _ h9 => h9) hv hdg kk
set_option maxRecDepth 100000 in
theorem pf_RX11_502 {p : Program} {l : Launch} {e : Env} {R : Room} {s : State} {m : MethodId} {args : Array Value} {below : List Frame} {meth : Method} {c : Code} {H : Heap} {locs : List Loc} {cells slots : Nat} {Q : State → Prop} {cc : ByteArray} {nL pc : Nat} {D : va_G} {cI cB cZ : ClassId} {ws : va_W} {rest : List Value} {ls : Array Slot} {a : Nat} {fs : List Value} {v : Value} {A : Nat → Prop} {H0 : Heap} (S : SF p m c cc nL s args RX11) (hK : KK D cI cB cZ s) (hP : va_P D vwCl ws H) (hD : va_D A ws) (hS : va_S A H0 H locs) (q0 : Nat) (he : ws[q0]? = some (a, .inr (12, fs))) (hl : 2 < fs.length) (hn : narrow (tyX11 2) v = v) (hfit : fits (tyX11 2) v = true) (hdg : decode cc pc = .ok (.putfield 502, 3)) (kk : ∀ (H1 : Heap) (locs1 : List Loc), va_P D vwCl (ws.set q0 (a, .inr (12, fs.set 2 v))) H1 → va_D A (ws.set q0 (a, .inr (12, fs.set 2 v))) → va_S A H0 H1 locs1 → W p l e R s m args below meth c H1 locs1 cells slots Q (F0 m (pc + 3) ls rest)) : W p l e R s m args below meth c H locs cells slots Q (F0 m pc ls (v :: .ref a :: rest)) :=
  va_put (C := RX11) (T := TX11) (N := 16) S.1 S.2.1 S.2.2.2.2 hin_RX11 tyX11 tyX11_ok nmX11 S.2.2.2.1 hK.1 hP hD hS q0 he rfl 2 (by decide) (S.2.2.2.2 _ (wk1_19 10 rfl rfl)) (fun _ h9 => h9) rfl (tyX11_ok 2 (by decide)) hn hfit hl hdg kk
set_option maxRecDepth 100000 in
theorem gf_RX11_321 {p : Program} {l : Launch} {e : Env} {R : Room} {s : State} {m : MethodId} {args : Array Value} {below : List Frame} {meth : Method} {c : Code} {H : Heap} {locs : List Loc} {cells slots : Nat} {Q : State → Prop} {cc : ByteArray} {nL pc : Nat} {D : va_G} {cI cB cZ : ClassId} {ws : va_W} {rest : List Value} {ls : Array Slot} {a : Nat} {fs : List Value} {v : Value} (S : SF p m c cc nL s args RX11) (hK : KK D cI cB cZ s) (hP : va_P D vwCl ws H) (q0 : Nat) (he : ws[q0]? = some (a, .inr (8, fs))) (hv : fs[8]? = some v) (hdg : decode cc pc = .ok (.getfield 321, 3)) (kk : W p l e R s m args below meth c H locs cells slots Q (F0 m (pc + 3) ls (v :: rest))) : W p l e R s m args below meth c H locs cells slots Q (F0 m pc ls (.ref a :: rest)) :=
  va_get (C := RX7) (T := TX7) (N := 10) S.1 S.2.1 S.2.2.2.2 hin_RX7 S.2.2.2.1 hK.1 hP q0 he rfl 8 (by decide) (S.2.2.2.2 _ (wk1_12 10 rfl rfl)) (fun _ h9 => h9) hv hdg kk
set_option maxRecDepth 100000 in
theorem kS_RX11_192 : CalS RX11 192 yX7_at cX7_at 2 (some .int) 2 := ⟨⟨wk4_0 8 rfl rfl, wk3_1 8 rfl rfl, wk1_0 7 rfl rfl, wk3_1 9 rfl rfl⟩, ⟨nmh_8.1, nmh_8.2, pd_67⟩⟩
set_option maxRecDepth 100000 in
theorem kV_RX11_317 : CalV RX11 317 yX11_isOff cX11_isOff 3 (some .boolean) 2 := ⟨⟨wk4_14 5 rfl rfl, wk4_14 7 rfl rfl, wT_sel 38 _ rfl rfl rfl, wk1_0 1 rfl rfl, wk4_14 8 rfl rfl⟩, ⟨nmh_0.1, nmh_0.2, pd_21⟩⟩
set_option maxRecDepth 100000 in
theorem kV_RX11_470 : CalV RX11 470 yX11_savedFrom cX11_savedFrom 5 (some .int) 2 := ⟨⟨wk5_16 9 rfl rfl, wk5_16 11 rfl rfl, wT_sel 58 _ rfl rfl rfl, wk1_0 1 rfl rfl, wk5_17 0 rfl rfl⟩, ⟨nmh_0.1, nmh_0.2, pd_17⟩⟩
set_option maxRecDepth 100000 in
theorem gf_RX7_45 {p : Program} {l : Launch} {e : Env} {R : Room} {s : State} {m : MethodId} {args : Array Value} {below : List Frame} {meth : Method} {c : Code} {H : Heap} {locs : List Loc} {cells slots : Nat} {Q : State → Prop} {cc : ByteArray} {nL pc : Nat} {D : va_G} {cI cB cZ : ClassId} {ws : va_W} {rest : List Value} {ls : Array Slot} {a : Nat} {fs : List Value} {v : Value} (S : SF p m c cc nL s args RX7) (hK : KK D cI cB cZ s) (hP : va_P D vwCl ws H) (q0 : Nat) (he : ws[q0]? = some (a, .inr (8, fs))) (hv : fs[9]? = some v) (hdg : decode cc pc = .ok (.getfield 45, 3)) (kk : W p l e R s m args below meth c H locs cells slots Q (F0 m (pc + 3) ls (v :: rest))) : W p l e R s m args below meth c H locs cells slots Q (F0 m pc ls (.ref a :: rest)) :=
  va_get (C := RX7) (T := TX7) (N := 10) S.1 S.2.1 S.2.2.2.2 hin_RX7 S.2.2.2.1 hK.1 hP q0 he rfl 9 (by decide) (S.2.2.2.2 _ (wk1_12 11 rfl rfl)) (fun _ h9 => h9) hv hdg kk
set_option maxRecDepth 100000 in
theorem kS_RX7_48 : CalS RX7 48 yX7_at cX7_at 2 (some .int) 2 := ⟨⟨wk3_1 7 rfl rfl, wk3_1 8 rfl rfl, wk1_0 7 rfl rfl, wk3_1 9 rfl rfl⟩, ⟨nmh_8.1, nmh_8.2, pd_67⟩⟩
set_option maxRecDepth 100000 in
theorem kS_RX7_52 : CalS RX7 52 yX7_put cX7_put 3 none 3 := ⟨⟨wk3_1 10 rfl rfl, wk3_1 11 rfl rfl, wk1_0 7 rfl rfl, wk3_2 0 rfl rfl⟩, ⟨nmh_8.1, nmh_8.2, pd_69⟩⟩
set_option maxRecDepth 100000 in
theorem gf_RX11_517 {p : Program} {l : Launch} {e : Env} {R : Room} {s : State} {m : MethodId} {args : Array Value} {below : List Frame} {meth : Method} {c : Code} {H : Heap} {locs : List Loc} {cells slots : Nat} {Q : State → Prop} {cc : ByteArray} {nL pc : Nat} {D : va_G} {cI cB cZ : ClassId} {ws : va_W} {rest : List Value} {ls : Array Slot} {a : Nat} {fs : List Value} {v : Value} (S : SF p m c cc nL s args RX11) (hK : KK D cI cB cZ s) (hP : va_P D vwCl ws H) (q0 : Nat) (he : ws[q0]? = some (a, .inr (12, fs))) (hv : fs[3]? = some v) (hdg : decode cc pc = .ok (.getfield 517, 3)) (kk : W p l e R s m args below meth c H locs cells slots Q (F0 m (pc + 3) ls (v :: rest))) : W p l e R s m args below meth c H locs cells slots Q (F0 m pc ls (.ref a :: rest)) :=
  va_get (C := RX11) (T := TX11) (N := 16) S.1 S.2.1 S.2.2.2.2 hin_RX11 S.2.2.2.1 hK.1 hP q0 he rfl 3 (by decide) (S.2.2.2.2 _ (wk1_19 11 rfl rfl)) (fun _ h9 => h9) hv hdg kk
set_option maxRecDepth 100000 in
theorem kV_RX11_144 : CalV RX11 144 yX7_change cX7_change 3 none 2 := ⟨⟨wk3_1 3 rfl rfl, wk3_1 4 rfl rfl, wk3_1 5 rfl rfl, wk1_0 7 rfl rfl, wk3_1 6 rfl rfl⟩, ⟨nmh_8.1, nmh_8.2, pd_20⟩⟩
set_option maxRecDepth 100000 in
theorem pf_RX11_517 {p : Program} {l : Launch} {e : Env} {R : Room} {s : State} {m : MethodId} {args : Array Value} {below : List Frame} {meth : Method} {c : Code} {H : Heap} {locs : List Loc} {cells slots : Nat} {Q : State → Prop} {cc : ByteArray} {nL pc : Nat} {D : va_G} {cI cB cZ : ClassId} {ws : va_W} {rest : List Value} {ls : Array Slot} {a : Nat} {fs : List Value} {v : Value} {A : Nat → Prop} {H0 : Heap} (S : SF p m c cc nL s args RX11) (hK : KK D cI cB cZ s) (hP : va_P D vwCl ws H) (hD : va_D A ws) (hS : va_S A H0 H locs) (q0 : Nat) (he : ws[q0]? = some (a, .inr (12, fs))) (hl : 3 < fs.length) (hn : narrow (tyX11 3) v = v) (hfit : fits (tyX11 3) v = true) (hdg : decode cc pc = .ok (.putfield 517, 3)) (kk : ∀ (H1 : Heap) (locs1 : List Loc), va_P D vwCl (ws.set q0 (a, .inr (12, fs.set 3 v))) H1 → va_D A (ws.set q0 (a, .inr (12, fs.set 3 v))) → va_S A H0 H1 locs1 → W p l e R s m args below meth c H1 locs1 cells slots Q (F0 m (pc + 3) ls rest)) : W p l e R s m args below meth c H locs cells slots Q (F0 m pc ls (v :: .ref a :: rest)) :=
  va_put (C := RX11) (T := TX11) (N := 16) S.1 S.2.1 S.2.2.2.2 hin_RX11 tyX11 tyX11_ok nmX11 S.2.2.2.1 hK.1 hP hD hS q0 he rfl 3 (by decide) (S.2.2.2.2 _ (wk1_19 11 rfl rfl)) (fun _ h9 => h9) rfl (tyX11_ok 3 (by decide)) hn hfit hl hdg kk
set_option maxRecDepth 100000 in
theorem gf_RX11_520 {p : Program} {l : Launch} {e : Env} {R : Room} {s : State} {m : MethodId} {args : Array Value} {below : List Frame} {meth : Method} {c : Code} {H : Heap} {locs : List Loc} {cells slots : Nat} {Q : State → Prop} {cc : ByteArray} {nL pc : Nat} {D : va_G} {cI cB cZ : ClassId} {ws : va_W} {rest : List Value} {ls : Array Slot} {a : Nat} {fs : List Value} {v : Value} (S : SF p m c cc nL s args RX11) (hK : KK D cI cB cZ s) (hP : va_P D vwCl ws H) (q0 : Nat) (he : ws[q0]? = some (a, .inr (8, fs))) (hv : fs[9]? = some v) (hdg : decode cc pc = .ok (.getfield 520, 3)) (kk : W p l e R s m args below meth c H locs cells slots Q (F0 m (pc + 3) ls (v :: rest))) : W p l e R s m args below meth c H locs cells slots Q (F0 m pc ls (.ref a :: rest)) :=
  va_get (C := RX7) (T := TX7) (N := 10) S.1 S.2.1 S.2.2.2.2 hin_RX7 S.2.2.2.1 hK.1 hP q0 he rfl 9 (by decide) (S.2.2.2.2 _ (wk1_13 0 rfl rfl)) (fun _ h9 => h9) hv hdg kk
set_option maxRecDepth 100000 in
theorem hin_RX8 : ∀ w ∈ u_ws RX8 TX8 2, w ∈ wT := hin_all (C := RX8) (T := TX8) (n := 2) (hin_s (hin_s (fun k hk => absurd hk (Nat.not_lt_zero k)) (wk1_7 0 rfl rfl)) (wk1_7 2 rfl rfl))
set_option maxRecDepth 100000 in
theorem gf_RX8_13 {p : Program} {l : Launch} {e : Env} {R : Room} {s : State} {m : MethodId} {args : Array Value} {below : List Frame} {meth : Method} {c : Code} {H : Heap} {locs : List Loc} {cells slots : Nat} {Q : State → Prop} {cc : ByteArray} {nL pc : Nat} {D : va_G} {cI cB cZ : ClassId} {ws : va_W} {rest : List Value} {ls : Array Slot} {a : Nat} {fs : List Value} {v : Value} (S : SF p m c cc nL s args RX8) (hK : KK D cI cB cZ s) (hP : va_P D vwCl ws H) (q0 : Nat) (he : ws[q0]? = some (a, .inr (9, fs))) (hv : fs[1]? = some v) (hdg : decode cc pc = .ok (.getfield 13, 3)) (kk : W p l e R s m args below meth c H locs cells slots Q (F0 m (pc + 3) ls (v :: rest))) : W p l e R s m args below meth c H locs cells slots Q (F0 m pc ls (.ref a :: rest)) :=
  va_get (C := RX8) (T := TX8) (N := 2) S.1 S.2.1 S.2.2.2.2 hin_RX8 S.2.2.2.1 hK.1 hP q0 he rfl 1 (by decide) (S.2.2.2.2 _ (wk1_6 11 rfl rfl)) (fun _ h9 => h9) hv hdg kk
theorem cq_lt_24_0 : ¬((24 : Int32) < 0) := by decide
set_option maxRecDepth 100000 in
theorem gf_RX8_9 {p : Program} {l : Launch} {e : Env} {R : Room} {s : State} {m : MethodId} {args : Array Value} {below : List Frame} {meth : Method} {c : Code} {H : Heap} {locs : List Loc} {cells slots : Nat} {Q : State → Prop} {cc : ByteArray} {nL pc : Nat} {D : va_G} {cI cB cZ : ClassId} {ws : va_W} {rest : List Value} {ls : Array Slot} {a : Nat} {fs : List Value} {v : Value} (S : SF p m c cc nL s args RX8) (hK : KK D cI cB cZ s) (hP : va_P D vwCl ws H) (q0 : Nat) (he : ws[q0]? = some (a, .inr (9, fs))) (hv : fs[0]? = some v) (hdg : decode cc pc = .ok (.getfield 9, 3)) (kk : W p l e R s m args below meth c H locs cells slots Q (F0 m (pc + 3) ls (v :: rest))) : W p l e R s m args below meth c H locs cells slots Q (F0 m pc ls (.ref a :: rest)) :=
  va_get (C := RX8) (T := TX8) (N := 2) S.1 S.2.1 S.2.2.2.2 hin_RX8 S.2.2.2.1 hK.1 hP q0 he rfl 0 (by decide) (S.2.2.2.2 _ (wk1_6 9 rfl rfl)) (fun _ h9 => h9) hv hdg kk
set_option maxRecDepth 100000 in
theorem kS_RX8_17 : CalS RX8 17 yX7_put cX7_put 3 none 3 := ⟨⟨wk3_3 9 rfl rfl, wk3_1 11 rfl rfl, wk1_0 7 rfl rfl, wk3_2 0 rfl rfl⟩, ⟨nmh_8.1, nmh_8.2, pd_69⟩⟩
set_option maxRecDepth 100000 in
theorem pf_RX8_13 {p : Program} {l : Launch} {e : Env} {R : Room} {s : State} {m : MethodId} {args : Array Value} {below : List Frame} {meth : Method} {c : Code} {H : Heap} {locs : List Loc} {cells slots : Nat} {Q : State → Prop} {cc : ByteArray} {nL pc : Nat} {D : va_G} {cI cB cZ : ClassId} {ws : va_W} {rest : List Value} {ls : Array Slot} {a : Nat} {fs : List Value} {v : Value} {A : Nat → Prop} {H0 : Heap} (S : SF p m c cc nL s args RX8) (hK : KK D cI cB cZ s) (hP : va_P D vwCl ws H) (hD : va_D A ws) (hS : va_S A H0 H locs) (q0 : Nat) (he : ws[q0]? = some (a, .inr (9, fs))) (hl : 1 < fs.length) (hn : narrow (tyX8 1) v = v) (hfit : fits (tyX8 1) v = true) (hdg : decode cc pc = .ok (.putfield 13, 3)) (kk : ∀ (H1 : Heap) (locs1 : List Loc), va_P D vwCl (ws.set q0 (a, .inr (9, fs.set 1 v))) H1 → va_D A (ws.set q0 (a, .inr (9, fs.set 1 v))) → va_S A H0 H1 locs1 → W p l e R s m args below meth c H1 locs1 cells slots Q (F0 m (pc + 3) ls rest)) : W p l e R s m args below meth c H locs cells slots Q (F0 m pc ls (v :: .ref a :: rest)) :=
  va_put (C := RX8) (T := TX8) (N := 2) S.1 S.2.1 S.2.2.2.2 hin_RX8 tyX8 tyX8_ok nmX8 S.2.2.2.1 hK.1 hP hD hS q0 he rfl 1 (by decide) (S.2.2.2.2 _ (wk1_6 11 rfl rfl)) (fun _ h9 => h9) rfl (tyX8_ok 1 (by decide)) hn hfit hl hdg kk
theorem cq_lt_16_0 : ¬((16 : Int32) < 0) := by decide
theorem cq_lt_8_0 : ¬((8 : Int32) < 0) := by decide
theorem cq_lt_m8_0 : ¬¬((-8 : Int32) < (0)) := by decide
set_option maxRecDepth 100000 in
theorem kS_RX8_29 : CalS RX8 29 yX7_at cX7_at 2 (some .int) 2 := ⟨⟨wk4_12 11 rfl rfl, wk3_1 8 rfl rfl, wk1_0 7 rfl rfl, wk3_1 9 rfl rfl⟩, ⟨nmh_8.1, nmh_8.2, pd_67⟩⟩
theorem cq_le_4_0 : ¬((4 : Int32) ≤ 0) := by decide
set_option maxRecDepth 100000 in
theorem kV_RX8_33 : CalV RX8 33 yX8_at cX8_at 2 (some .int) 1 := ⟨⟨wk6_7 10 rfl rfl, wk4_12 8 rfl rfl, wk4_12 9 rfl rfl, wk1_0 4 rfl rfl, wk4_12 10 rfl rfl⟩, ⟨nmh_9.1, nmh_9.2, pd_8⟩⟩
theorem cq_le_4_1 : ¬((4 : Int32) ≤ 1) := by decide
theorem cq_le_4_2 : ¬((4 : Int32) ≤ 2) := by decide
theorem cq_le_4_3 : ¬((4 : Int32) ≤ 3) := by decide
theorem cq_le_4_4 : ¬¬((4 : Int32) ≤ 4) := by decide
set_option maxRecDepth 100000 in
theorem gf_RX11_21 {p : Program} {l : Launch} {e : Env} {R : Room} {s : State} {m : MethodId} {args : Array Value} {below : List Frame} {meth : Method} {c : Code} {H : Heap} {locs : List Loc} {cells slots : Nat} {Q : State → Prop} {cc : ByteArray} {nL pc : Nat} {D : va_G} {cI cB cZ : ClassId} {ws : va_W} {rest : List Value} {ls : Array Slot} {a : Nat} {fs : List Value} {v : Value} (S : SF p m c cc nL s args RX11) (hK : KK D cI cB cZ s) (hP : va_P D vwCl ws H) (q0 : Nat) (he : ws[q0]? = some (a, .inr (12, fs))) (hv : fs[5]? = some v) (hdg : decode cc pc = .ok (.getfield 21, 3)) (kk : W p l e R s m args below meth c H locs cells slots Q (F0 m (pc + 3) ls (v :: rest))) : W p l e R s m args below meth c H locs cells slots Q (F0 m pc ls (.ref a :: rest)) :=
  va_get (C := RX11) (T := TX11) (N := 16) S.1 S.2.1 S.2.2.2.2 hin_RX11 S.2.2.2.1 hK.1 hP q0 he rfl 5 (by decide) (S.2.2.2.2 _ (wk2_0 1 rfl rfl)) (fun _ h9 => h9) hv hdg kk
set_option maxRecDepth 100000 in
theorem kV_RX11_152 : CalV RX11 152 yX8_length cX8_length 1 (some .int) 0 := ⟨⟨wk3_3 1 rfl rfl, wk3_3 2 rfl rfl, wk3_3 3 rfl rfl, wk1_0 4 rfl rfl, wk3_3 4 rfl rfl⟩, ⟨nmh_9.1, nmh_9.2, pd_1⟩⟩
set_option maxRecDepth 100000 in
theorem kV_RX11_153 : CalV RX11 153 yX8_add cX8_add 3 none 1 := ⟨⟨wk3_3 5 rfl rfl, wk3_3 6 rfl rfl, wk3_3 7 rfl rfl, wk1_0 4 rfl rfl, wk3_3 8 rfl rfl⟩, ⟨nmh_9.1, nmh_9.2, pd_14⟩⟩
set_option maxRecDepth 100000 in
theorem kV_RX11_489 : CalV RX11 489 yX11_sets cX11_sets 3 (some .boolean) 2 := ⟨⟨wk6_0 7 rfl rfl, wk6_0 9 rfl rfl, wT_sel 60 _ rfl rfl rfl, wk1_0 1 rfl rfl, wk6_0 10 rfl rfl⟩, ⟨nmh_0.1, nmh_0.2, pd_21⟩⟩
noncomputable def sxX11_price_17 : List UInt8 := []
theorem shX11_price_0 : cX11_price.data.toList.drop 0 = 42 :: 180 :: 0 :: 47 :: 180 :: 0 :: 174 :: 27 :: 28 :: 3 :: 17 :: 3 :: 232 :: 184 :: 0 :: 177 :: 172 :: sxX11_price_17 := rfl
theorem dX11_price_16 : decode cX11_price 16 = .ok (.ireturn, 1) := oc_172 16 (aq_16 shX11_price_0)
noncomputable def sxX11_thefts_17 : List UInt8 := []
theorem shX11_thefts_0 : cX11_thefts.data.toList.drop 0 = 42 :: 180 :: 0 :: 47 :: 180 :: 1 :: 211 :: 27 :: 28 :: 3 :: 17 :: 3 :: 232 :: 184 :: 0 :: 177 :: 172 :: sxX11_thefts_17 := rfl
theorem dX11_thefts_16 : decode cX11_thefts 16 = .ok (.ireturn, 1) := oc_172 16 (aq_16 shX11_thefts_0)
noncomputable def sxX11_degrees_17 : List UInt8 := []
theorem shX11_degrees_0 : cX11_degrees.data.toList.drop 0 = 42 :: 180 :: 0 :: 47 :: 180 :: 1 :: 230 :: 27 :: 28 :: 16 :: 216 :: 16 :: 40 :: 184 :: 0 :: 177 :: 172 :: sxX11_degrees_17 := rfl
theorem dX11_degrees_16 : decode cX11_degrees 16 = .ok (.ireturn, 1) := oc_172 16 (aq_16 shX11_degrees_0)
noncomputable def sxX11_feast_17 : List UInt8 := []
theorem shX11_feast_0 : cX11_feast.data.toList.drop 0 = 42 :: 180 :: 0 :: 47 :: 180 :: 1 :: 236 :: 27 :: 28 :: 3 :: 17 :: 1 :: 44 :: 184 :: 0 :: 177 :: 172 :: sxX11_feast_17 := rfl
theorem dX11_feast_16 : decode cX11_feast 16 = .ok (.ireturn, 1) := oc_172 16 (aq_16 shX11_feast_0)
noncomputable def sxX11_use_15 : List UInt8 := []
theorem shX11_use_0 : cX11_use.data.toList.drop 0 = 42 :: 180 :: 0 :: 47 :: 180 :: 1 :: 170 :: 27 :: 28 :: 3 :: 6 :: 184 :: 0 :: 177 :: 172 :: sxX11_use_15 := rfl
theorem dX11_use_14 : decode cX11_use 14 = .ok (.ireturn, 1) := oc_172 14 (aq_14 shX11_use_0)
noncomputable def sxX11_most_16 : List UInt8 := []
theorem shX11_most_0 : cX11_most.data.toList.drop 0 = 42 :: 180 :: 0 :: 47 :: 180 :: 1 :: 179 :: 27 :: 28 :: 3 :: 18 :: 222 :: 184 :: 0 :: 177 :: 172 :: sxX11_most_16 := rfl
theorem dX11_most_15 : decode cX11_most 15 = .ok (.ireturn, 1) := oc_172 15 (aq_15 shX11_most_0)
noncomputable def sxX11_rate_61 : List UInt8 := []
noncomputable def sxX11_rate_49 : List UInt8 := 184 :: 0 :: 177 :: 153 :: 0 :: 7 :: 4 :: 167 :: 0 :: 4 :: 3 :: 172 :: sxX11_rate_61
noncomputable def sxX11_rate_24 : List UInt8 := 54 :: 4 :: 21 :: 4 :: 153 :: 0 :: 31 :: 42 :: 180 :: 0 :: 47 :: 180 :: 1 :: 173 :: 27 :: 16 :: 58 :: 104 :: 28 :: 96 :: 29 :: 3 :: 17 :: 3 :: 232 :: sxX11_rate_49
theorem shX11_rate_0 : cX11_rate.data.toList.drop 0 = 27 :: 3 :: 6 :: 184 :: 0 :: 80 :: 153 :: 0 :: 17 :: 28 :: 3 :: 16 :: 57 :: 184 :: 0 :: 80 :: 153 :: 0 :: 7 :: 4 :: 167 :: 0 :: 4 :: 3 :: sxX11_rate_24 := rfl
theorem shX11_rate_24 : cX11_rate.data.toList.drop 24 = 54 :: 4 :: 21 :: 4 :: 153 :: 0 :: 31 :: 42 :: 180 :: 0 :: 47 :: 180 :: 1 :: 173 :: 27 :: 16 :: 58 :: 104 :: 28 :: 96 :: 29 :: 3 :: 17 :: 3 :: 232 :: sxX11_rate_49 := aq_24 shX11_rate_0
theorem shX11_rate_49 : cX11_rate.data.toList.drop 49 = 184 :: 0 :: 177 :: 153 :: 0 :: 7 :: 4 :: 167 :: 0 :: 4 :: 3 :: 172 :: sxX11_rate_61 := aq_25 shX11_rate_24
theorem dX11_rate_6 : decode cX11_rate 6 = .ok (.ifCond .eq 17, 3) := oc_153 6 (aq_6 shX11_rate_0) sgw_0_17
theorem dX11_rate_16 : decode cX11_rate 16 = .ok (.ifCond .eq 7, 3) := oc_153 16 (aq_16 shX11_rate_0) sgw_0_7
theorem dX11_rate_24 : decode cX11_rate 24 = .ok (.istore 4, 2) := oc_54 24 shX11_rate_24 ub_4
theorem dX11_rate_26 : decode cX11_rate 26 = .ok (.iload 4, 2) := oc_21 26 (aq_2 shX11_rate_24) ub_4
theorem dX11_rate_28 : decode cX11_rate 28 = .ok (.ifCond .eq 31, 3) := oc_153 28 (aq_4 shX11_rate_24) sgw_0_31
theorem dX11_rate_52 : decode cX11_rate 52 = .ok (.ifCond .eq 7, 3) := oc_153 52 (aq_3 shX11_rate_49) sgw_0_7
theorem dX11_rate_60 : decode cX11_rate 60 = .ok (.ireturn, 1) := oc_172 60 (aq_11 shX11_rate_49)
theorem dX11_rate_59 : decode cX11_rate 59 = .ok (.iconst 0, 1) := oc_3 59 (aq_10 shX11_rate_49)
theorem dX11_rate_23 : decode cX11_rate 23 = .ok (.iconst 0, 1) := oc_3 23 (aq_23 shX11_rate_0)
noncomputable def sxX11_lorry_54 : List UInt8 := []
noncomputable def sxX11_lorry_51 : List UInt8 := 4 :: 100 :: 172 :: sxX11_lorry_54
noncomputable def sxX11_lorry_26 : List UInt8 := 180 :: 1 :: 58 :: 42 :: 180 :: 1 :: 55 :: 27 :: 184 :: 0 :: 184 :: 42 :: 89 :: 180 :: 1 :: 55 :: 4 :: 96 :: 181 :: 1 :: 55 :: 42 :: 180 :: 1 :: 55 :: sxX11_lorry_51
theorem shX11_lorry_0 : cX11_lorry.data.toList.drop 0 = 27 :: 16 :: 20 :: 17 :: 7 :: 208 :: 184 :: 0 :: 80 :: 153 :: 0 :: 11 :: 42 :: 180 :: 1 :: 55 :: 6 :: 161 :: 0 :: 5 :: 2 :: 172 :: 42 :: 180 :: 0 :: 47 :: sxX11_lorry_26 := rfl
theorem shX11_lorry_26 : cX11_lorry.data.toList.drop 26 = 180 :: 1 :: 58 :: 42 :: 180 :: 1 :: 55 :: 27 :: 184 :: 0 :: 184 :: 42 :: 89 :: 180 :: 1 :: 55 :: 4 :: 96 :: 181 :: 1 :: 55 :: 42 :: 180 :: 1 :: 55 :: sxX11_lorry_51 := aq_26 shX11_lorry_0
theorem shX11_lorry_51 : cX11_lorry.data.toList.drop 51 = 4 :: 100 :: 172 :: sxX11_lorry_54 := aq_25 shX11_lorry_26
theorem dX11_lorry_9 : decode cX11_lorry 9 = .ok (.ifCond .eq 11, 3) := oc_153 9 (aq_9 shX11_lorry_0) sgw_0_11
theorem dX11_lorry_20 : decode cX11_lorry 20 = .ok (.iconst (-1), 1) := oc_2 20 (aq_20 shX11_lorry_0)
theorem dX11_lorry_21 : decode cX11_lorry 21 = .ok (.ireturn, 1) := oc_172 21 (aq_21 shX11_lorry_0)
noncomputable def sxX11_drum_28 : List UInt8 := []
noncomputable def sxX11_drum_25 : List UInt8 := 4 :: 100 :: 172 :: sxX11_drum_28
theorem shX11_drum_0 : cX11_drum.data.toList.drop 0 = 42 :: 180 :: 1 :: 246 :: 16 :: 20 :: 161 :: 0 :: 5 :: 2 :: 172 :: 42 :: 89 :: 180 :: 1 :: 246 :: 4 :: 96 :: 181 :: 1 :: 246 :: 42 :: 180 :: 1 :: 246 :: sxX11_drum_25 := rfl
theorem shX11_drum_25 : cX11_drum.data.toList.drop 25 = 4 :: 100 :: 172 :: sxX11_drum_28 := aq_25 shX11_drum_0
noncomputable def sxX11_isOff_26 : List UInt8 := []
noncomputable def sxX11_isOff_24 : List UInt8 := 3 :: 172 :: sxX11_isOff_26
theorem shX11_isOff_0 : cX11_isOff.data.toList.drop 0 = 42 :: 180 :: 0 :: 47 :: 180 :: 1 :: 65 :: 27 :: 17 :: 1 :: 144 :: 104 :: 28 :: 96 :: 184 :: 0 :: 192 :: 153 :: 0 :: 7 :: 4 :: 167 :: 0 :: 4 :: sxX11_isOff_24 := rfl
theorem shX11_isOff_24 : cX11_isOff.data.toList.drop 24 = 3 :: 172 :: sxX11_isOff_26 := aq_24 shX11_isOff_0
theorem dX11_isOff_25 : decode cX11_isOff 25 = .ok (.ireturn, 1) := oc_172 25 (aq_1 shX11_isOff_24)
noncomputable def sxX11_off_61 : List UInt8 := []
noncomputable def sxX11_off_48 : List UInt8 := 153 :: 0 :: 7 :: 4 :: 167 :: 0 :: 4 :: 3 :: 184 :: 0 :: 184 :: 4 :: 172 :: sxX11_off_61
noncomputable def sxX11_off_24 : List UInt8 := 182 :: 1 :: 61 :: 29 :: 160 :: 0 :: 5 :: 3 :: 172 :: 42 :: 180 :: 0 :: 47 :: 180 :: 1 :: 65 :: 27 :: 17 :: 1 :: 144 :: 104 :: 28 :: 96 :: 29 :: sxX11_off_48
theorem shX11_off_0 : cX11_off.data.toList.drop 0 = 27 :: 3 :: 42 :: 180 :: 1 :: 55 :: 4 :: 100 :: 184 :: 0 :: 80 :: 153 :: 0 :: 20 :: 28 :: 184 :: 0 :: 99 :: 153 :: 0 :: 13 :: 42 :: 27 :: 28 :: sxX11_off_24 := rfl
theorem shX11_off_24 : cX11_off.data.toList.drop 24 = 182 :: 1 :: 61 :: 29 :: 160 :: 0 :: 5 :: 3 :: 172 :: 42 :: 180 :: 0 :: 47 :: 180 :: 1 :: 65 :: 27 :: 17 :: 1 :: 144 :: 104 :: 28 :: 96 :: 29 :: sxX11_off_48 := aq_24 shX11_off_0
theorem shX11_off_48 : cX11_off.data.toList.drop 48 = 153 :: 0 :: 7 :: 4 :: 167 :: 0 :: 4 :: 3 :: 184 :: 0 :: 184 :: 4 :: 172 :: sxX11_off_61 := aq_24 shX11_off_24
theorem dX11_off_11 : decode cX11_off 11 = .ok (.ifCond .eq 20, 3) := oc_153 11 (aq_11 shX11_off_0) sgw_0_20
theorem dX11_off_18 : decode cX11_off 18 = .ok (.ifCond .eq 13, 3) := oc_153 18 (aq_18 shX11_off_0) sgw_0_13
theorem dX11_off_27 : decode cX11_off 27 = .ok (.iload_n 3, 1) := oc_29 27 (aq_3 shX11_off_24)
theorem dX11_off_28 : decode cX11_off 28 = .ok (.if_icmp .ne 5, 3) := oc_160 28 (aq_4 shX11_off_24) sgw_0_5
theorem dX11_off_56 : decode cX11_off 56 = .ok (.invokestatic 184, 3) := oc_184 56 (aq_8 shX11_off_48) uw_0_184
theorem dX11_off_59 : decode cX11_off 59 = .ok (.iconst 1, 1) := oc_4 59 (aq_11 shX11_off_48)
theorem dX11_off_60 : decode cX11_off 60 = .ok (.ireturn, 1) := oc_172 60 (aq_12 shX11_off_48)
theorem dX11_off_31 : decode cX11_off 31 = .ok (.iconst 0, 1) := oc_3 31 (aq_7 shX11_off_24)
theorem dX11_off_32 : decode cX11_off 32 = .ok (.ireturn, 1) := oc_172 32 (aq_8 shX11_off_24)
noncomputable def sxX11_savedFrom_39 : List UInt8 := []
noncomputable def sxX11_savedFrom_25 : List UInt8 := 112 :: 184 :: 0 :: 192 :: 96 :: 62 :: 132 :: 4 :: 1 :: 167 :: 255 :: 227 :: 29 :: 172 :: sxX11_savedFrom_39
theorem shX11_savedFrom_0 : cX11_savedFrom.data.toList.drop 0 = 3 :: 62 :: 3 :: 54 :: 4 :: 21 :: 4 :: 28 :: 162 :: 0 :: 29 :: 29 :: 42 :: 180 :: 0 :: 47 :: 180 :: 1 :: 211 :: 27 :: 21 :: 4 :: 96 :: 16 :: 24 :: sxX11_savedFrom_25 := rfl
theorem shX11_savedFrom_25 : cX11_savedFrom.data.toList.drop 25 = 112 :: 184 :: 0 :: 192 :: 96 :: 62 :: 132 :: 4 :: 1 :: 167 :: 255 :: 227 :: 29 :: 172 :: sxX11_savedFrom_39 := aq_25 shX11_savedFrom_0
noncomputable def sxX11_lock_81 : List UInt8 := []
noncomputable def sxX11_lock_74 : List UInt8 := 29 :: 167 :: 0 :: 5 :: 21 :: 4 :: 172 :: sxX11_lock_81
noncomputable def sxX11_lock_48 : List UInt8 := 54 :: 6 :: 21 :: 6 :: 21 :: 4 :: 164 :: 0 :: 10 :: 21 :: 5 :: 62 :: 21 :: 6 :: 54 :: 4 :: 132 :: 5 :: 1 :: 167 :: 255 :: 223 :: 28 :: 154 :: 0 :: 7 :: sxX11_lock_74
noncomputable def sxX11_lock_24 : List UInt8 := 3 :: 27 :: 182 :: 1 :: 214 :: 54 :: 4 :: 4 :: 54 :: 5 :: 21 :: 5 :: 16 :: 24 :: 162 :: 0 :: 32 :: 42 :: 21 :: 5 :: 27 :: 182 :: 1 :: 214 :: sxX11_lock_48
theorem shX11_lock_0 : cX11_lock.data.toList.drop 0 = 27 :: 4 :: 16 :: 12 :: 184 :: 0 :: 80 :: 153 :: 0 :: 12 :: 28 :: 3 :: 4 :: 184 :: 0 :: 80 :: 154 :: 0 :: 5 :: 2 :: 172 :: 3 :: 62 :: 42 :: sxX11_lock_24 := rfl
theorem shX11_lock_24 : cX11_lock.data.toList.drop 24 = 3 :: 27 :: 182 :: 1 :: 214 :: 54 :: 4 :: 4 :: 54 :: 5 :: 21 :: 5 :: 16 :: 24 :: 162 :: 0 :: 32 :: 42 :: 21 :: 5 :: 27 :: 182 :: 1 :: 214 :: sxX11_lock_48 := aq_24 shX11_lock_0
theorem shX11_lock_48 : cX11_lock.data.toList.drop 48 = 54 :: 6 :: 21 :: 6 :: 21 :: 4 :: 164 :: 0 :: 10 :: 21 :: 5 :: 62 :: 21 :: 6 :: 54 :: 4 :: 132 :: 5 :: 1 :: 167 :: 255 :: 223 :: 28 :: 154 :: 0 :: 7 :: sxX11_lock_74 := aq_24 shX11_lock_24
theorem shX11_lock_74 : cX11_lock.data.toList.drop 74 = 29 :: 167 :: 0 :: 5 :: 21 :: 4 :: 172 :: sxX11_lock_81 := aq_26 shX11_lock_48
noncomputable def sxX7_change_19 : List UInt8 := []
theorem shX7_change_0 : cX7_change.data.toList.drop 0 = 42 :: 180 :: 0 :: 45 :: 27 :: 42 :: 180 :: 0 :: 45 :: 27 :: 184 :: 0 :: 48 :: 28 :: 96 :: 184 :: 0 :: 52 :: 177 :: sxX7_change_19 := rfl
noncomputable def sxX11_spill_59 : List UInt8 := []
noncomputable def sxX11_spill_49 : List UInt8 := 4 :: 96 :: 181 :: 2 :: 5 :: 42 :: 180 :: 2 :: 5 :: 172 :: sxX11_spill_59
noncomputable def sxX11_spill_24 : List UInt8 := 180 :: 2 :: 5 :: 16 :: 40 :: 161 :: 0 :: 5 :: 2 :: 172 :: 42 :: 180 :: 0 :: 47 :: 27 :: 28 :: 116 :: 182 :: 0 :: 144 :: 42 :: 89 :: 180 :: 2 :: 5 :: sxX11_spill_49
theorem shX11_spill_0 : cX11_spill.data.toList.drop 0 = 27 :: 3 :: 42 :: 180 :: 0 :: 103 :: 184 :: 0 :: 80 :: 153 :: 0 :: 23 :: 28 :: 4 :: 17 :: 1 :: 144 :: 184 :: 0 :: 80 :: 153 :: 0 :: 12 :: 42 :: sxX11_spill_24 := rfl
theorem shX11_spill_24 : cX11_spill.data.toList.drop 24 = 180 :: 2 :: 5 :: 16 :: 40 :: 161 :: 0 :: 5 :: 2 :: 172 :: 42 :: 180 :: 0 :: 47 :: 27 :: 28 :: 116 :: 182 :: 0 :: 144 :: 42 :: 89 :: 180 :: 2 :: 5 :: sxX11_spill_49 := aq_24 shX11_spill_0
theorem shX11_spill_49 : cX11_spill.data.toList.drop 49 = 4 :: 96 :: 181 :: 2 :: 5 :: 42 :: 180 :: 2 :: 5 :: 172 :: sxX11_spill_59 := aq_25 shX11_spill_24
theorem dX11_spill_9 : decode cX11_spill 9 = .ok (.ifCond .eq 23, 3) := oc_153 9 (aq_9 shX11_spill_0) sgw_0_23
theorem dX11_spill_20 : decode cX11_spill 20 = .ok (.ifCond .eq 12, 3) := oc_153 20 (aq_20 shX11_spill_0) sgw_0_12
theorem dX11_spill_32 : decode cX11_spill 32 = .ok (.iconst (-1), 1) := oc_2 32 (aq_8 shX11_spill_24)
theorem dX11_spill_33 : decode cX11_spill 33 = .ok (.ireturn, 1) := oc_172 33 (aq_9 shX11_spill_24)
noncomputable def sxX11_stock_42 : List UInt8 := []
noncomputable def sxX11_stock_25 : List UInt8 := 180 :: 2 :: 8 :: 29 :: 184 :: 0 :: 192 :: 96 :: 61 :: 132 :: 3 :: 1 :: 167 :: 255 :: 234 :: 28 :: 172 :: sxX11_stock_42
theorem shX11_stock_0 : cX11_stock.data.toList.drop 0 = 27 :: 184 :: 0 :: 99 :: 154 :: 0 :: 7 :: 19 :: 1 :: 207 :: 172 :: 3 :: 61 :: 3 :: 62 :: 29 :: 27 :: 163 :: 0 :: 23 :: 28 :: 42 :: 180 :: 0 :: 47 :: sxX11_stock_25 := rfl
theorem shX11_stock_25 : cX11_stock.data.toList.drop 25 = 180 :: 2 :: 8 :: 29 :: 184 :: 0 :: 192 :: 96 :: 61 :: 132 :: 3 :: 1 :: 167 :: 255 :: 234 :: 28 :: 172 :: sxX11_stock_42 := aq_25 shX11_stock_0
noncomputable def sxX11_below_57 : List UInt8 := []
noncomputable def sxX11_below_48 : List UInt8 := 132 :: 3 :: 1 :: 167 :: 255 :: 224 :: 16 :: 254 :: 172 :: sxX11_below_57
noncomputable def sxX11_below_24 : List UInt8 := 163 :: 0 :: 30 :: 28 :: 42 :: 180 :: 0 :: 47 :: 180 :: 2 :: 8 :: 29 :: 184 :: 0 :: 192 :: 96 :: 61 :: 28 :: 27 :: 162 :: 0 :: 5 :: 29 :: 172 :: sxX11_below_48
theorem shX11_below_0 : cX11_below.data.toList.drop 0 = 27 :: 17 :: 216 :: 240 :: 17 :: 39 :: 16 :: 184 :: 0 :: 80 :: 154 :: 0 :: 5 :: 2 :: 172 :: 3 :: 61 :: 3 :: 62 :: 29 :: 42 :: 180 :: 0 :: 103 :: sxX11_below_24 := rfl
theorem shX11_below_24 : cX11_below.data.toList.drop 24 = 163 :: 0 :: 30 :: 28 :: 42 :: 180 :: 0 :: 47 :: 180 :: 2 :: 8 :: 29 :: 184 :: 0 :: 192 :: 96 :: 61 :: 28 :: 27 :: 162 :: 0 :: 5 :: 29 :: 172 :: sxX11_below_48 := aq_24 shX11_below_0
theorem shX11_below_48 : cX11_below.data.toList.drop 48 = 132 :: 3 :: 1 :: 167 :: 255 :: 224 :: 16 :: 254 :: 172 :: sxX11_below_57 := aq_24 shX11_below_24
noncomputable def sxX8_length_5 : List UInt8 := []
theorem shX8_length_0 : cX8_length.data.toList.drop 0 = 42 :: 180 :: 0 :: 13 :: 172 :: sxX8_length_5 := rfl
noncomputable def sxX8_add_48 : List UInt8 := []
noncomputable def sxX8_add_25 : List UInt8 := 42 :: 42 :: 180 :: 0 :: 13 :: 4 :: 96 :: 17 :: 0 :: 200 :: 184 :: 0 :: 23 :: 181 :: 0 :: 13 :: 132 :: 2 :: 248 :: 167 :: 255 :: 215 :: 177 :: sxX8_add_48
theorem shX8_add_0 : cX8_add.data.toList.drop 0 = 16 :: 24 :: 61 :: 28 :: 155 :: 0 :: 43 :: 42 :: 180 :: 0 :: 9 :: 42 :: 180 :: 0 :: 13 :: 27 :: 28 :: 122 :: 17 :: 0 :: 255 :: 126 :: 184 :: 0 :: 17 :: sxX8_add_25 := rfl
theorem shX8_add_25 : cX8_add.data.toList.drop 25 = 42 :: 42 :: 180 :: 0 :: 13 :: 4 :: 96 :: 17 :: 0 :: 200 :: 184 :: 0 :: 23 :: 181 :: 0 :: 13 :: 132 :: 2 :: 248 :: 167 :: 255 :: 215 :: 177 :: sxX8_add_48 := aq_25 shX8_add_0
theorem dX8_add_3 : decode cX8_add 3 = .ok (.iload_n 2, 1) := oc_28 3 (aq_3 shX8_add_0)
theorem dX8_add_4 : decode cX8_add 4 = .ok (.ifCond .lt 43, 3) := oc_155 4 (aq_4 shX8_add_0) sgw_0_43
theorem dX8_add_7 : decode cX8_add 7 = .ok (.aload_n 0, 1) := oc_42 7 (aq_7 shX8_add_0)
theorem dX8_add_8 : decode cX8_add 8 = .ok (.getfield 9, 3) := oc_180 8 (aq_8 shX8_add_0) uw_0_9
theorem dX8_add_11 : decode cX8_add 11 = .ok (.aload_n 0, 1) := oc_42 11 (aq_11 shX8_add_0)
theorem dX8_add_12 : decode cX8_add 12 = .ok (.getfield 13, 3) := oc_180 12 (aq_12 shX8_add_0) uw_0_13
theorem dX8_add_15 : decode cX8_add 15 = .ok (.iload_n 1, 1) := oc_27 15 (aq_15 shX8_add_0)
theorem dX8_add_16 : decode cX8_add 16 = .ok (.iload_n 2, 1) := oc_28 16 (aq_16 shX8_add_0)
theorem dX8_add_17 : decode cX8_add 17 = .ok (.ishr, 1) := oc_122 17 (aq_17 shX8_add_0)
theorem dX8_add_18 : decode cX8_add 18 = .ok (.sipush 255, 3) := oc_17 18 (aq_18 shX8_add_0) sgw_0_255
theorem dX8_add_21 : decode cX8_add 21 = .ok (.iand, 1) := oc_126 21 (aq_21 shX8_add_0)
theorem dX8_add_22 : decode cX8_add 22 = .ok (.invokestatic 17, 3) := oc_184 22 (aq_22 shX8_add_0) uw_0_17
theorem dX8_add_25 : decode cX8_add 25 = .ok (.aload_n 0, 1) := oc_42 25 shX8_add_25
theorem dX8_add_26 : decode cX8_add 26 = .ok (.aload_n 0, 1) := oc_42 26 (aq_1 shX8_add_25)
theorem dX8_add_27 : decode cX8_add 27 = .ok (.getfield 13, 3) := oc_180 27 (aq_2 shX8_add_25) uw_0_13
theorem dX8_add_30 : decode cX8_add 30 = .ok (.iconst 1, 1) := oc_4 30 (aq_5 shX8_add_25)
theorem dX8_add_31 : decode cX8_add 31 = .ok (.iadd, 1) := oc_96 31 (aq_6 shX8_add_25)
theorem dX8_add_32 : decode cX8_add 32 = .ok (.sipush 200, 3) := oc_17 32 (aq_7 shX8_add_25) sgw_0_200
theorem dX8_add_35 : decode cX8_add 35 = .ok (.invokestatic 23, 3) := oc_184 35 (aq_10 shX8_add_25) uw_0_23
theorem dX8_add_38 : decode cX8_add 38 = .ok (.putfield 13, 3) := oc_181 38 (aq_13 shX8_add_25) uw_0_13
theorem dX8_add_41 : decode cX8_add 41 = .ok (.iinc 2 (-8), 3) := oc_132 41 (aq_16 shX8_add_25) ub_2 sgb_248
theorem dX8_add_44 : decode cX8_add 44 = .ok (.goto (-41), 3) := oc_167 44 (aq_19 shX8_add_25) sgw_255_215
noncomputable def sxX8_clear_6 : List UInt8 := []
theorem shX8_clear_0 : cX8_clear.data.toList.drop 0 = 42 :: 3 :: 181 :: 0 :: 13 :: 177 :: sxX8_clear_6 := rfl
noncomputable def sxX8_at_9 : List UInt8 := []
theorem shX8_at_0 : cX8_at.data.toList.drop 0 = 42 :: 180 :: 0 :: 9 :: 27 :: 184 :: 0 :: 29 :: 172 :: sxX8_at_9 := rfl
noncomputable def sxX8_number_32 : List UInt8 := []
noncomputable def sxX8_number_24 : List UInt8 := 132 :: 3 :: 1 :: 167 :: 255 :: 233 :: 28 :: 172 :: sxX8_number_32
theorem shX8_number_0 : cX8_number.data.toList.drop 0 = 3 :: 61 :: 3 :: 62 :: 29 :: 7 :: 162 :: 0 :: 24 :: 28 :: 16 :: 8 :: 120 :: 42 :: 7 :: 27 :: 104 :: 29 :: 96 :: 182 :: 0 :: 33 :: 128 :: 61 :: sxX8_number_24 := rfl
theorem shX8_number_24 : cX8_number.data.toList.drop 24 = 132 :: 3 :: 1 :: 167 :: 255 :: 233 :: 28 :: 172 :: sxX8_number_32 := aq_24 shX8_number_0
theorem dX8_number_4 : decode cX8_number 4 = .ok (.iload_n 3, 1) := oc_29 4 (aq_4 shX8_number_0)
theorem dX8_number_5 : decode cX8_number 5 = .ok (.iconst 4, 1) := oc_7 5 (aq_5 shX8_number_0)
theorem dX8_number_6 : decode cX8_number 6 = .ok (.if_icmp .ge 24, 3) := oc_162 6 (aq_6 shX8_number_0) sgw_0_24
theorem dX8_number_9 : decode cX8_number 9 = .ok (.iload_n 2, 1) := oc_28 9 (aq_9 shX8_number_0)
theorem dX8_number_10 : decode cX8_number 10 = .ok (.bipush 8, 2) := oc_16 10 (aq_10 shX8_number_0) sgb_8
theorem dX8_number_12 : decode cX8_number 12 = .ok (.ishl, 1) := oc_120 12 (aq_12 shX8_number_0)
theorem dX8_number_13 : decode cX8_number 13 = .ok (.aload_n 0, 1) := oc_42 13 (aq_13 shX8_number_0)
theorem dX8_number_14 : decode cX8_number 14 = .ok (.iconst 4, 1) := oc_7 14 (aq_14 shX8_number_0)
theorem dX8_number_15 : decode cX8_number 15 = .ok (.iload_n 1, 1) := oc_27 15 (aq_15 shX8_number_0)
theorem dX8_number_16 : decode cX8_number 16 = .ok (.imul, 1) := oc_104 16 (aq_16 shX8_number_0)
theorem dX8_number_17 : decode cX8_number 17 = .ok (.iload_n 3, 1) := oc_29 17 (aq_17 shX8_number_0)
theorem dX8_number_18 : decode cX8_number 18 = .ok (.iadd, 1) := oc_96 18 (aq_18 shX8_number_0)
theorem dX8_number_19 : decode cX8_number 19 = .ok (.invokevirtual 33, 3) := oc_182 19 (aq_19 shX8_number_0) uw_0_33
theorem dX8_number_22 : decode cX8_number 22 = .ok (.ior, 1) := oc_128 22 (aq_22 shX8_number_0)
theorem dX8_number_23 : decode cX8_number 23 = .ok (.istore_n 2, 1) := oc_61 23 (aq_23 shX8_number_0)
theorem dX8_number_24 : decode cX8_number 24 = .ok (.iinc 3 1, 3) := oc_132 24 shX8_number_24 ub_3 sgb_1
theorem dX8_number_27 : decode cX8_number 27 = .ok (.goto (-23), 3) := oc_167 27 (aq_3 shX8_number_24) sgw_255_233
noncomputable def sxX11_feed_68 : List UInt8 := []
noncomputable def sxX11_feed_51 : List UInt8 := 42 :: 180 :: 0 :: 21 :: 21 :: 5 :: 182 :: 0 :: 153 :: 42 :: 180 :: 0 :: 21 :: 182 :: 0 :: 152 :: 172 :: sxX11_feed_68
noncomputable def sxX11_feed_26 : List UInt8 := 42 :: 180 :: 0 :: 21 :: 28 :: 182 :: 0 :: 153 :: 42 :: 180 :: 0 :: 21 :: 29 :: 182 :: 0 :: 153 :: 42 :: 180 :: 0 :: 21 :: 21 :: 4 :: 182 :: 0 :: 153 :: sxX11_feed_51
theorem shX11_feed_0 : cX11_feed.data.toList.drop 0 = 42 :: 180 :: 0 :: 21 :: 182 :: 0 :: 152 :: 16 :: 20 :: 96 :: 17 :: 0 :: 200 :: 164 :: 0 :: 5 :: 2 :: 172 :: 42 :: 180 :: 0 :: 21 :: 27 :: 182 :: 0 :: 153 :: sxX11_feed_26 := rfl
theorem shX11_feed_26 : cX11_feed.data.toList.drop 26 = 42 :: 180 :: 0 :: 21 :: 28 :: 182 :: 0 :: 153 :: 42 :: 180 :: 0 :: 21 :: 29 :: 182 :: 0 :: 153 :: 42 :: 180 :: 0 :: 21 :: 21 :: 4 :: 182 :: 0 :: 153 :: sxX11_feed_51 := aq_26 shX11_feed_0
theorem shX11_feed_51 : cX11_feed.data.toList.drop 51 = 42 :: 180 :: 0 :: 21 :: 21 :: 5 :: 182 :: 0 :: 153 :: 42 :: 180 :: 0 :: 21 :: 182 :: 0 :: 152 :: 172 :: sxX11_feed_68 := aq_25 shX11_feed_26
noncomputable def sxX11_sets_21 : List UInt8 := []
theorem shX11_sets_0 : cX11_sets.data.toList.drop 0 = 42 :: 180 :: 0 :: 47 :: 180 :: 1 :: 230 :: 27 :: 184 :: 0 :: 192 :: 28 :: 162 :: 0 :: 7 :: 4 :: 167 :: 0 :: 4 :: 3 :: 172 :: sxX11_sets_21 := rfl
theorem dX11_sets_20 : decode cX11_sets 20 = .ok (.ireturn, 1) := oc_172 20 (aq_20 shX11_sets_0)
noncomputable def sxX11_first_49 : List UInt8 := []
noncomputable def sxX11_first_26 : List UInt8 := 162 :: 0 :: 20 :: 42 :: 29 :: 28 :: 182 :: 1 :: 233 :: 154 :: 0 :: 5 :: 29 :: 172 :: 132 :: 3 :: 1 :: 167 :: 255 :: 235 :: 16 :: 254 :: 172 :: sxX11_first_49
theorem shX11_first_0 : cX11_first.data.toList.drop 0 = 27 :: 184 :: 0 :: 99 :: 153 :: 0 :: 14 :: 28 :: 16 :: 216 :: 16 :: 41 :: 184 :: 0 :: 80 :: 154 :: 0 :: 5 :: 2 :: 172 :: 27 :: 62 :: 29 :: 17 :: 1 :: 144 :: sxX11_first_26 := rfl
theorem shX11_first_26 : cX11_first.data.toList.drop 26 = 162 :: 0 :: 20 :: 42 :: 29 :: 28 :: 182 :: 1 :: 233 :: 154 :: 0 :: 5 :: 29 :: 172 :: 132 :: 3 :: 1 :: 167 :: 255 :: 235 :: 16 :: 254 :: 172 :: sxX11_first_49 := aq_26 shX11_first_0
theorem dX11_first_4 : decode cX11_first 4 = .ok (.ifCond .eq 14, 3) := oc_153 4 (aq_4 shX11_first_0) sgw_0_14
theorem dX11_first_15 : decode cX11_first 15 = .ok (.ifCond .ne 5, 3) := oc_154 15 (aq_15 shX11_first_0) sgw_0_5
theorem dX11_first_18 : decode cX11_first 18 = .ok (.iconst (-1), 1) := oc_2 18 (aq_18 shX11_first_0)
theorem dX11_first_19 : decode cX11_first 19 = .ok (.ireturn, 1) := oc_172 19 (aq_19 shX11_first_0)
noncomputable def sxX11_isText_28 : List UInt8 := []
noncomputable def sxX11_isText_26 : List UInt8 := 3 :: 172 :: sxX11_isText_28
theorem shX11_isText_0 : cX11_isText.data.toList.drop 0 = 27 :: 4 :: 17 :: 0 :: 160 :: 184 :: 0 :: 80 :: 153 :: 0 :: 18 :: 27 :: 42 :: 180 :: 0 :: 21 :: 182 :: 0 :: 152 :: 163 :: 0 :: 7 :: 4 :: 167 :: 0 :: 4 :: sxX11_isText_26 := rfl
theorem shX11_isText_26 : cX11_isText.data.toList.drop 26 = 3 :: 172 :: sxX11_isText_28 := aq_26 shX11_isText_0
set_option maxRecDepth 100000 in
set_option maxHeartbeats 4000000 in
theorem q_Xprice (l : Launch) (D : va_G) (cI cB cZ : ClassId) (zz qq vv : Nat) (bt : Nat → Int32) (g : Nat → Nat) (ad : Nat → Nat → Nat) (cn : Nat → Nat) (In : Nat → Int32) (Fn : Nat → Nat → Int32) (v0 v1 : Int32) (sz : Nat) (hB : CBX cn) : Met l yX11_price (CWS yX11_price cX11_price 3 (some .boolean)) (RM 1 0 0) (PBx [.ref (g 0), .int v0, .int v1] D cI cB cZ zz qq vv bt (wX cI (D.1 99) zz g ad cn In Fn) sz) (va_Qi (fun (r : Int32) (u : (Nat → Nat) × (Nat → Int32) × (Nat → Nat → Int32)) => (fun r c2 I2 F2 => Fr [] [] [20] cn In Fn c2 I2 F2 ∧ CBX c2 ∧ (True)) r u.1 u.2.1 u.2.2) (fun (u : (Nat → Nat) × (Nat → Int32) × (Nat → Nat → Int32)) (t : State) => va_P D vwCl (wX cI (D.1 99) zz g ad u.1 u.2.1 u.2.2) t.heap ∧ va_D (va_A (wX cI (D.1 99) zz g ad cn In Fn) sz) (wX cI (D.1 99) zz g ad u.1 u.2.1 u.2.2)) (va_A (wX cI (D.1 99) zz g ad cn In Fn) sz)) 0 0 (va_A (wX cI (D.1 99) zz g ad cn In Fn) sz) := by
  refine en_x (fun A => (va_Qi (fun (r : Int32) (u : (Nat → Nat) × (Nat → Int32) × (Nat → Nat → Int32)) => (fun (r : Int32) (c2 : Nat → Nat) (I2 : Nat → Int32) (F2 : Nat → Nat → Int32) => Fr [] [] [20] cn In Fn c2 I2 F2 ∧ CBX c2 ∧ (True)) r u.1 u.2.1 u.2.2) (fun (u : (Nat → Nat) × (Nat → Int32) × (Nat → Nat → Int32)) (t : State) => va_P D vwCl (wX cI (D.1 99) zz g ad u.1 u.2.1 u.2.2) t.heap ∧ va_D A (wX cI (D.1 99) zz g ad u.1 u.2.1 u.2.2)) A)) rfl rfl pn_RX11 (Nat.le_of_ble_eq_true rfl) (fun p e s m below meth c A hx hb hml hown S hr hlocks hnm hA hP hK hD hXS hS ls hl => ?_)
  have hl : lv_has ls 3 [(0, .ref (g 0)), (1, .int v0), (2, .int v1)] := hl
  have hb_cn : Hid (CBX cn) := hB
  replace hB : CBXh cn := hB
  refine lv_aload_n hx hb (oc_42 0 shX11_price_0) rfl (lvA0 hl) ?_
  refine gf_RX11_47 S hK hP 0 xo_0 (v := .ref (g 8)) rfl (oc_180 1 (aq_1 shX11_price_0) uw_0_47) ?_
  refine gf_RX11_174 S hK hP 6 xo_6 (v := .ref (g 20)) rfl (oc_180 4 (aq_4 shX11_price_0) uw_0_174) ?_
  refine lv_iload_n hx hb (oc_27 7 (aq_7 shX11_price_0)) rfl (lvA1 hl) ?_
  refine lv_iload_n hx hb (oc_28 8 (aq_8 shX11_price_0)) rfl (lvA2 hl) ?_
  refine lv_iconst (v := 0) hx hb (oc_3 9 (aq_9 shX11_price_0)) kic_0 ?_
  refine lv_sipush (v := 1000) hx hb (oc_17 10 (aq_10 shX11_price_0) sgw_3_232) (by decide) ?_
  have hFc := va_free (wc := [((g 20), .inl (cI, 58, .inl (Fn 20)))]) hD hS hA [7] (one_im xo_7)
  refine va_calli (runS_w (As := [.ref (g 20), .int v0, .int v1, .int 0, .int 1000]) (rest := []) S (q_l_tell l D cI cB cZ (g 20) 58 (Fn 20) v0 v1 0 1000 s.heap.size (by (first | omega | (have zz0 := Hid.u hb_cn; omega)))) kS_RX11_177 hK hP hD [7] (one_is xo_7) (one_im xo_7) rfl ⟨Nat.le_of_ble_eq_true rfl, Nat.le_of_ble_eq_true rfl⟩ ⟨Nat.le_of_ble_eq_true rfl, Nat.le_of_ble_eq_true rfl⟩ rfl hl.1 rfl (Nat.le_of_ble_eq_true rfl) (oc_184 13 (aq_13 shX11_price_0) uw_0_177)) hS (fun q _ h => hFc q h) hFc (fun r_1 u_3 t H1 locs ht hvm h_2 hB1 hz1 hk1 hS => ?_)
  obtain ⟨hP1, hD1⟩ := hB1
  rw [ht] at hP1
  obtain ⟨hP, hD⟩ := wset1 hP hD xo_7 hk1 hP1
  rcases h_2 with ⟨rfl, h_2, rfl⟩ | ⟨rfl, h_2, rfl⟩
  ·
    have h_2 : 0 ≤ v0.toInt ∧ v0.toInt < (58 : Int) ∧ 0 ≤ v1.toInt ∧ v1.toInt ≤ 1000 := h_2
    generalize H1 = H at hP hS ⊢
    have hP : va_P D vwCl (wX cI (D.1 99) zz g ad cn In (va_up Fn 20 (upd (Fn 20) v0.toNatClampNeg v1))) H := va_P_eq xsa_7 hP
    have hD : va_D A (wX cI (D.1 99) zz g ad cn In (va_up Fn 20 (upd (Fn 20) v0.toNatClampNeg v1))) := va_D_eq xsa_7 hD
    exact W.zret (v := 1) hx hb hr rfl (fun t ht hW => ⟨⟨1, (cn, In, (va_up Fn 20 (upd (Fn 20) v0.toNatClampNeg v1))), rfl, ⟨(Fr.mo (Fr.f 20 Fr.rf) (sbl rfl) (sbl rfl) (sbl rfl)), hB, trivial⟩, by rw [ht]; exact hP, hD⟩, hS.F ht⟩) hS.2.2 dX11_price_16
  ·
    have h_2 : ¬ (0 ≤ v0.toInt ∧ v0.toInt < (58 : Int) ∧ 0 ≤ v1.toInt ∧ v1.toInt ≤ 1000) := h_2
    generalize H1 = H at hP hS ⊢
    have hP : va_P D vwCl (wX cI (D.1 99) zz g ad cn In Fn) H := va_P_eq xsr_7 hP
    have hD : va_D A (wX cI (D.1 99) zz g ad cn In Fn) := va_D_eq xsr_7 hD
    exact W.zret (v := 0) hx hb hr rfl (fun t ht hW => ⟨⟨0, (cn, In, Fn), rfl, ⟨(Fr.mo Fr.rf (sbl rfl) (sbl rfl) (sbl rfl)), hB, trivial⟩, by rw [ht]; exact hP, hD⟩, hS.F ht⟩) hS.2.2 dX11_price_16
set_option maxRecDepth 100000 in
set_option maxHeartbeats 4000000 in
theorem q_Xthefts (l : Launch) (D : va_G) (cI cB cZ : ClassId) (zz qq vv : Nat) (bt : Nat → Int32) (g : Nat → Nat) (ad : Nat → Nat → Nat) (cn : Nat → Nat) (In : Nat → Int32) (Fn : Nat → Nat → Int32) (v0 v1 : Int32) (sz : Nat) (hB : CBX cn) : Met l yX11_thefts (CWS yX11_thefts cX11_thefts 3 (some .boolean)) (RM 1 0 0) (PBx [.ref (g 0), .int v0, .int v1] D cI cB cZ zz qq vv bt (wX cI (D.1 99) zz g ad cn In Fn) sz) (va_Qi (fun (r : Int32) (u : (Nat → Nat) × (Nat → Int32) × (Nat → Nat → Int32)) => (fun r c2 I2 F2 => Fr [] [] [21] cn In Fn c2 I2 F2 ∧ CBX c2 ∧ (True)) r u.1 u.2.1 u.2.2) (fun (u : (Nat → Nat) × (Nat → Int32) × (Nat → Nat → Int32)) (t : State) => va_P D vwCl (wX cI (D.1 99) zz g ad u.1 u.2.1 u.2.2) t.heap ∧ va_D (va_A (wX cI (D.1 99) zz g ad cn In Fn) sz) (wX cI (D.1 99) zz g ad u.1 u.2.1 u.2.2)) (va_A (wX cI (D.1 99) zz g ad cn In Fn) sz)) 0 0 (va_A (wX cI (D.1 99) zz g ad cn In Fn) sz) := by
  refine en_x (fun A => (va_Qi (fun (r : Int32) (u : (Nat → Nat) × (Nat → Int32) × (Nat → Nat → Int32)) => (fun (r : Int32) (c2 : Nat → Nat) (I2 : Nat → Int32) (F2 : Nat → Nat → Int32) => Fr [] [] [21] cn In Fn c2 I2 F2 ∧ CBX c2 ∧ (True)) r u.1 u.2.1 u.2.2) (fun (u : (Nat → Nat) × (Nat → Int32) × (Nat → Nat → Int32)) (t : State) => va_P D vwCl (wX cI (D.1 99) zz g ad u.1 u.2.1 u.2.2) t.heap ∧ va_D A (wX cI (D.1 99) zz g ad u.1 u.2.1 u.2.2)) A)) rfl rfl pn_RX11 (Nat.le_of_ble_eq_true rfl) (fun p e s m below meth c A hx hb hml hown S hr hlocks hnm hA hP hK hD hXS hS ls hl => ?_)
  have hl : lv_has ls 3 [(0, .ref (g 0)), (1, .int v0), (2, .int v1)] := hl
  have hb_cn : Hid (CBX cn) := hB
  replace hB : CBXh cn := hB
  refine lv_aload_n hx hb (oc_42 0 shX11_thefts_0) rfl (lvA0 hl) ?_
  refine gf_RX11_47 S hK hP 0 xo_0 (v := .ref (g 8)) rfl (oc_180 1 (aq_1 shX11_thefts_0) uw_0_47) ?_
  refine gf_RX11_467 S hK hP 6 xo_6 (v := .ref (g 21)) rfl (oc_180 4 (aq_4 shX11_thefts_0) uw_1_211) ?_
  refine lv_iload_n hx hb (oc_27 7 (aq_7 shX11_thefts_0)) rfl (lvA1 hl) ?_
  refine lv_iload_n hx hb (oc_28 8 (aq_8 shX11_thefts_0)) rfl (lvA2 hl) ?_
  refine lv_iconst (v := 0) hx hb (oc_3 9 (aq_9 shX11_thefts_0)) kic_0 ?_
  refine lv_sipush (v := 1000) hx hb (oc_17 10 (aq_10 shX11_thefts_0) sgw_3_232) (by decide) ?_
  have hFc := va_free (wc := [((g 21), .inl (cI, 24, .inl (Fn 21)))]) hD hS hA [8] (one_im xo_8)
  refine va_calli (runS_w (As := [.ref (g 21), .int v0, .int v1, .int 0, .int 1000]) (rest := []) S (q_l_tell l D cI cB cZ (g 21) 24 (Fn 21) v0 v1 0 1000 s.heap.size (by (first | omega | (have zz0 := Hid.u hb_cn; omega)))) kS_RX11_177 hK hP hD [8] (one_is xo_8) (one_im xo_8) rfl ⟨Nat.le_of_ble_eq_true rfl, Nat.le_of_ble_eq_true rfl⟩ ⟨Nat.le_of_ble_eq_true rfl, Nat.le_of_ble_eq_true rfl⟩ rfl hl.1 rfl (Nat.le_of_ble_eq_true rfl) (oc_184 13 (aq_13 shX11_thefts_0) uw_0_177)) hS (fun q _ h => hFc q h) hFc (fun r_1 u_3 t H1 locs ht hvm h_2 hB1 hz1 hk1 hS => ?_)
  obtain ⟨hP1, hD1⟩ := hB1
  rw [ht] at hP1
  obtain ⟨hP, hD⟩ := wset1 hP hD xo_8 hk1 hP1
  rcases h_2 with ⟨rfl, h_2, rfl⟩ | ⟨rfl, h_2, rfl⟩
  ·
    have h_2 : 0 ≤ v0.toInt ∧ v0.toInt < (24 : Int) ∧ 0 ≤ v1.toInt ∧ v1.toInt ≤ 1000 := h_2
    generalize H1 = H at hP hS ⊢
    have hP : va_P D vwCl (wX cI (D.1 99) zz g ad cn In (va_up Fn 21 (upd (Fn 21) v0.toNatClampNeg v1))) H := va_P_eq xsa_8 hP
    have hD : va_D A (wX cI (D.1 99) zz g ad cn In (va_up Fn 21 (upd (Fn 21) v0.toNatClampNeg v1))) := va_D_eq xsa_8 hD
    exact W.zret (v := 1) hx hb hr rfl (fun t ht hW => ⟨⟨1, (cn, In, (va_up Fn 21 (upd (Fn 21) v0.toNatClampNeg v1))), rfl, ⟨(Fr.mo (Fr.f 21 Fr.rf) (sbl rfl) (sbl rfl) (sbl rfl)), hB, trivial⟩, by rw [ht]; exact hP, hD⟩, hS.F ht⟩) hS.2.2 dX11_thefts_16
  ·
    have h_2 : ¬ (0 ≤ v0.toInt ∧ v0.toInt < (24 : Int) ∧ 0 ≤ v1.toInt ∧ v1.toInt ≤ 1000) := h_2
    generalize H1 = H at hP hS ⊢
    have hP : va_P D vwCl (wX cI (D.1 99) zz g ad cn In Fn) H := va_P_eq xsr_8 hP
    have hD : va_D A (wX cI (D.1 99) zz g ad cn In Fn) := va_D_eq xsr_8 hD
    exact W.zret (v := 0) hx hb hr rfl (fun t ht hW => ⟨⟨0, (cn, In, Fn), rfl, ⟨(Fr.mo Fr.rf (sbl rfl) (sbl rfl) (sbl rfl)), hB, trivial⟩, by rw [ht]; exact hP, hD⟩, hS.F ht⟩) hS.2.2 dX11_thefts_16
set_option maxRecDepth 100000 in
set_option maxHeartbeats 4000000 in
theorem q_Xdegrees (l : Launch) (D : va_G) (cI cB cZ : ClassId) (zz qq vv : Nat) (bt : Nat → Int32) (g : Nat → Nat) (ad : Nat → Nat → Nat) (cn : Nat → Nat) (In : Nat → Int32) (Fn : Nat → Nat → Int32) (v0 v1 : Int32) (sz : Nat) (hB : CBX cn) : Met l yX11_degrees (CWS yX11_degrees cX11_degrees 3 (some .boolean)) (RM 1 0 0) (PBx [.ref (g 0), .int v0, .int v1] D cI cB cZ zz qq vv bt (wX cI (D.1 99) zz g ad cn In Fn) sz) (va_Qi (fun (r : Int32) (u : (Nat → Nat) × (Nat → Int32) × (Nat → Nat → Int32)) => (fun r c2 I2 F2 => Fr [] [] [22] cn In Fn c2 I2 F2 ∧ CBX c2 ∧ (True)) r u.1 u.2.1 u.2.2) (fun (u : (Nat → Nat) × (Nat → Int32) × (Nat → Nat → Int32)) (t : State) => va_P D vwCl (wX cI (D.1 99) zz g ad u.1 u.2.1 u.2.2) t.heap ∧ va_D (va_A (wX cI (D.1 99) zz g ad cn In Fn) sz) (wX cI (D.1 99) zz g ad u.1 u.2.1 u.2.2)) (va_A (wX cI (D.1 99) zz g ad cn In Fn) sz)) 0 0 (va_A (wX cI (D.1 99) zz g ad cn In Fn) sz) := by
  refine en_x (fun A => (va_Qi (fun (r : Int32) (u : (Nat → Nat) × (Nat → Int32) × (Nat → Nat → Int32)) => (fun (r : Int32) (c2 : Nat → Nat) (I2 : Nat → Int32) (F2 : Nat → Nat → Int32) => Fr [] [] [22] cn In Fn c2 I2 F2 ∧ CBX c2 ∧ (True)) r u.1 u.2.1 u.2.2) (fun (u : (Nat → Nat) × (Nat → Int32) × (Nat → Nat → Int32)) (t : State) => va_P D vwCl (wX cI (D.1 99) zz g ad u.1 u.2.1 u.2.2) t.heap ∧ va_D A (wX cI (D.1 99) zz g ad u.1 u.2.1 u.2.2)) A)) rfl rfl pn_RX11 (Nat.le_of_ble_eq_true rfl) (fun p e s m below meth c A hx hb hml hown S hr hlocks hnm hA hP hK hD hXS hS ls hl => ?_)
  have hl : lv_has ls 3 [(0, .ref (g 0)), (1, .int v0), (2, .int v1)] := hl
  have hb_cn : Hid (CBX cn) := hB
  replace hB : CBXh cn := hB
  refine lv_aload_n hx hb (oc_42 0 shX11_degrees_0) rfl (lvA0 hl) ?_
  refine gf_RX11_47 S hK hP 0 xo_0 (v := .ref (g 8)) rfl (oc_180 1 (aq_1 shX11_degrees_0) uw_0_47) ?_
  refine gf_RX11_486 S hK hP 6 xo_6 (v := .ref (g 22)) rfl (oc_180 4 (aq_4 shX11_degrees_0) uw_1_230) ?_
  refine lv_iload_n hx hb (oc_27 7 (aq_7 shX11_degrees_0)) rfl (lvA1 hl) ?_
  refine lv_iload_n hx hb (oc_28 8 (aq_8 shX11_degrees_0)) rfl (lvA2 hl) ?_
  refine lv_bipush (v := (-40)) hx hb (oc_16 9 (aq_9 shX11_degrees_0) sgb_216) kbc_m40 ?_
  refine lv_bipush (v := 40) hx hb (oc_16 11 (aq_11 shX11_degrees_0) sgb_40) kbc_40 ?_
  have hFc := va_free (wc := [((g 22), .inl (cI, 400, .inl (Fn 22)))]) hD hS hA [9] (one_im xo_9)
  refine va_calli (runS_w (As := [.ref (g 22), .int v0, .int v1, .int (-40), .int 40]) (rest := []) S (q_l_tell l D cI cB cZ (g 22) 400 (Fn 22) v0 v1 (-40) 40 s.heap.size (by (first | omega | (have zz0 := Hid.u hb_cn; omega)))) kS_RX11_177 hK hP hD [9] (one_is xo_9) (one_im xo_9) rfl ⟨Nat.le_of_ble_eq_true rfl, Nat.le_of_ble_eq_true rfl⟩ ⟨Nat.le_of_ble_eq_true rfl, Nat.le_of_ble_eq_true rfl⟩ rfl hl.1 rfl (Nat.le_of_ble_eq_true rfl) (oc_184 13 (aq_13 shX11_degrees_0) uw_0_177)) hS (fun q _ h => hFc q h) hFc (fun r_1 u_3 t H1 locs ht hvm h_2 hB1 hz1 hk1 hS => ?_)
  obtain ⟨hP1, hD1⟩ := hB1
  rw [ht] at hP1
  obtain ⟨hP, hD⟩ := wset1 hP hD xo_9 hk1 hP1
  rcases h_2 with ⟨rfl, h_2, rfl⟩ | ⟨rfl, h_2, rfl⟩
  ·
    have h_2 : 0 ≤ v0.toInt ∧ v0.toInt < (400 : Int) ∧ (-40) ≤ v1.toInt ∧ v1.toInt ≤ 40 := h_2
    generalize H1 = H at hP hS ⊢
    have hP : va_P D vwCl (wX cI (D.1 99) zz g ad cn In (va_up Fn 22 (upd (Fn 22) v0.toNatClampNeg v1))) H := va_P_eq xsa_9 hP
    have hD : va_D A (wX cI (D.1 99) zz g ad cn In (va_up Fn 22 (upd (Fn 22) v0.toNatClampNeg v1))) := va_D_eq xsa_9 hD
    exact W.zret (v := 1) hx hb hr rfl (fun t ht hW => ⟨⟨1, (cn, In, (va_up Fn 22 (upd (Fn 22) v0.toNatClampNeg v1))), rfl, ⟨(Fr.mo (Fr.f 22 Fr.rf) (sbl rfl) (sbl rfl) (sbl rfl)), hB, trivial⟩, by rw [ht]; exact hP, hD⟩, hS.F ht⟩) hS.2.2 dX11_degrees_16
  ·
    have h_2 : ¬ (0 ≤ v0.toInt ∧ v0.toInt < (400 : Int) ∧ (-40) ≤ v1.toInt ∧ v1.toInt ≤ 40) := h_2
    generalize H1 = H at hP hS ⊢
    have hP : va_P D vwCl (wX cI (D.1 99) zz g ad cn In Fn) H := va_P_eq xsr_9 hP
    have hD : va_D A (wX cI (D.1 99) zz g ad cn In Fn) := va_D_eq xsr_9 hD
    exact W.zret (v := 0) hx hb hr rfl (fun t ht hW => ⟨⟨0, (cn, In, Fn), rfl, ⟨(Fr.mo Fr.rf (sbl rfl) (sbl rfl) (sbl rfl)), hB, trivial⟩, by rw [ht]; exact hP, hD⟩, hS.F ht⟩) hS.2.2 dX11_degrees_16
set_option maxRecDepth 100000 in
set_option maxHeartbeats 4000000 in
theorem q_Xfeast (l : Launch) (D : va_G) (cI cB cZ : ClassId) (zz qq vv : Nat) (bt : Nat → Int32) (g : Nat → Nat) (ad : Nat → Nat → Nat) (cn : Nat → Nat) (In : Nat → Int32) (Fn : Nat → Nat → Int32) (v0 v1 : Int32) (sz : Nat) (hB : CBX cn) : Met l yX11_feast (CWS yX11_feast cX11_feast 3 (some .boolean)) (RM 1 0 0) (PBx [.ref (g 0), .int v0, .int v1] D cI cB cZ zz qq vv bt (wX cI (D.1 99) zz g ad cn In Fn) sz) (va_Qi (fun (r : Int32) (u : (Nat → Nat) × (Nat → Int32) × (Nat → Nat → Int32)) => (fun r c2 I2 F2 => Fr [] [] [23] cn In Fn c2 I2 F2 ∧ CBX c2 ∧ (True)) r u.1 u.2.1 u.2.2) (fun (u : (Nat → Nat) × (Nat → Int32) × (Nat → Nat → Int32)) (t : State) => va_P D vwCl (wX cI (D.1 99) zz g ad u.1 u.2.1 u.2.2) t.heap ∧ va_D (va_A (wX cI (D.1 99) zz g ad cn In Fn) sz) (wX cI (D.1 99) zz g ad u.1 u.2.1 u.2.2)) (va_A (wX cI (D.1 99) zz g ad cn In Fn) sz)) 0 0 (va_A (wX cI (D.1 99) zz g ad cn In Fn) sz) := by
  refine en_x (fun A => (va_Qi (fun (r : Int32) (u : (Nat → Nat) × (Nat → Int32) × (Nat → Nat → Int32)) => (fun (r : Int32) (c2 : Nat → Nat) (I2 : Nat → Int32) (F2 : Nat → Nat → Int32) => Fr [] [] [23] cn In Fn c2 I2 F2 ∧ CBX c2 ∧ (True)) r u.1 u.2.1 u.2.2) (fun (u : (Nat → Nat) × (Nat → Int32) × (Nat → Nat → Int32)) (t : State) => va_P D vwCl (wX cI (D.1 99) zz g ad u.1 u.2.1 u.2.2) t.heap ∧ va_D A (wX cI (D.1 99) zz g ad u.1 u.2.1 u.2.2)) A)) rfl rfl pn_RX11 (Nat.le_of_ble_eq_true rfl) (fun p e s m below meth c A hx hb hml hown S hr hlocks hnm hA hP hK hD hXS hS ls hl => ?_)
  have hl : lv_has ls 3 [(0, .ref (g 0)), (1, .int v0), (2, .int v1)] := hl
  have hb_cn : Hid (CBX cn) := hB
  replace hB : CBXh cn := hB
  refine lv_aload_n hx hb (oc_42 0 shX11_feast_0) rfl (lvA0 hl) ?_
  refine gf_RX11_47 S hK hP 0 xo_0 (v := .ref (g 8)) rfl (oc_180 1 (aq_1 shX11_feast_0) uw_0_47) ?_
  refine gf_RX11_492 S hK hP 6 xo_6 (v := .ref (g 23)) rfl (oc_180 4 (aq_4 shX11_feast_0) uw_1_236) ?_
  refine lv_iload_n hx hb (oc_27 7 (aq_7 shX11_feast_0)) rfl (lvA1 hl) ?_
  refine lv_iload_n hx hb (oc_28 8 (aq_8 shX11_feast_0)) rfl (lvA2 hl) ?_
  refine lv_iconst (v := 0) hx hb (oc_3 9 (aq_9 shX11_feast_0)) kic_0 ?_
  refine lv_sipush (v := 300) hx hb (oc_17 10 (aq_10 shX11_feast_0) sgw_1_44) (by decide) ?_
  have hFc := va_free (wc := [((g 23), .inl (cI, 400, .inl (Fn 23)))]) hD hS hA [10] (one_im xo_10)
  refine va_calli (runS_w (As := [.ref (g 23), .int v0, .int v1, .int 0, .int 300]) (rest := []) S (q_l_tell l D cI cB cZ (g 23) 400 (Fn 23) v0 v1 0 300 s.heap.size (by (first | omega | (have zz0 := Hid.u hb_cn; omega)))) kS_RX11_177 hK hP hD [10] (one_is xo_10) (one_im xo_10) rfl ⟨Nat.le_of_ble_eq_true rfl, Nat.le_of_ble_eq_true rfl⟩ ⟨Nat.le_of_ble_eq_true rfl, Nat.le_of_ble_eq_true rfl⟩ rfl hl.1 rfl (Nat.le_of_ble_eq_true rfl) (oc_184 13 (aq_13 shX11_feast_0) uw_0_177)) hS (fun q _ h => hFc q h) hFc (fun r_1 u_3 t H1 locs ht hvm h_2 hB1 hz1 hk1 hS => ?_)
  obtain ⟨hP1, hD1⟩ := hB1
  rw [ht] at hP1
  obtain ⟨hP, hD⟩ := wset1 hP hD xo_10 hk1 hP1
  rcases h_2 with ⟨rfl, h_2, rfl⟩ | ⟨rfl, h_2, rfl⟩
  ·
    have h_2 : 0 ≤ v0.toInt ∧ v0.toInt < (400 : Int) ∧ 0 ≤ v1.toInt ∧ v1.toInt ≤ 300 := h_2
    generalize H1 = H at hP hS ⊢
    have hP : va_P D vwCl (wX cI (D.1 99) zz g ad cn In (va_up Fn 23 (upd (Fn 23) v0.toNatClampNeg v1))) H := va_P_eq xsa_10 hP
    have hD : va_D A (wX cI (D.1 99) zz g ad cn In (va_up Fn 23 (upd (Fn 23) v0.toNatClampNeg v1))) := va_D_eq xsa_10 hD
    exact W.zret (v := 1) hx hb hr rfl (fun t ht hW => ⟨⟨1, (cn, In, (va_up Fn 23 (upd (Fn 23) v0.toNatClampNeg v1))), rfl, ⟨(Fr.mo (Fr.f 23 Fr.rf) (sbl rfl) (sbl rfl) (sbl rfl)), hB, trivial⟩, by rw [ht]; exact hP, hD⟩, hS.F ht⟩) hS.2.2 dX11_feast_16
  ·
    have h_2 : ¬ (0 ≤ v0.toInt ∧ v0.toInt < (400 : Int) ∧ 0 ≤ v1.toInt ∧ v1.toInt ≤ 300) := h_2
    generalize H1 = H at hP hS ⊢
    have hP : va_P D vwCl (wX cI (D.1 99) zz g ad cn In Fn) H := va_P_eq xsr_10 hP
    have hD : va_D A (wX cI (D.1 99) zz g ad cn In Fn) := va_D_eq xsr_10 hD
    exact W.zret (v := 0) hx hb hr rfl (fun t ht hW => ⟨⟨0, (cn, In, Fn), rfl, ⟨(Fr.mo Fr.rf (sbl rfl) (sbl rfl) (sbl rfl)), hB, trivial⟩, by rw [ht]; exact hP, hD⟩, hS.F ht⟩) hS.2.2 dX11_feast_16
set_option maxRecDepth 100000 in
set_option maxHeartbeats 4000000 in
theorem q_Xuse (l : Launch) (D : va_G) (cI cB cZ : ClassId) (zz qq vv : Nat) (bt : Nat → Int32) (g : Nat → Nat) (ad : Nat → Nat → Nat) (cn : Nat → Nat) (In : Nat → Int32) (Fn : Nat → Nat → Int32) (v0 v1 : Int32) (sz : Nat) (hB : CBX cn) : Met l yX11_use (CWS yX11_use cX11_use 3 (some .boolean)) (RM 1 0 0) (PBx [.ref (g 0), .int v0, .int v1] D cI cB cZ zz qq vv bt (wX cI (D.1 99) zz g ad cn In Fn) sz) (va_Qi (fun (r : Int32) (u : (Nat → Nat) × (Nat → Int32) × (Nat → Nat → Int32)) => (fun r c2 I2 F2 => Fr [] [] [24] cn In Fn c2 I2 F2 ∧ CBX c2 ∧ (True)) r u.1 u.2.1 u.2.2) (fun (u : (Nat → Nat) × (Nat → Int32) × (Nat → Nat → Int32)) (t : State) => va_P D vwCl (wX cI (D.1 99) zz g ad u.1 u.2.1 u.2.2) t.heap ∧ va_D (va_A (wX cI (D.1 99) zz g ad cn In Fn) sz) (wX cI (D.1 99) zz g ad u.1 u.2.1 u.2.2)) (va_A (wX cI (D.1 99) zz g ad cn In Fn) sz)) 0 0 (va_A (wX cI (D.1 99) zz g ad cn In Fn) sz) := by
  refine en_x (fun A => (va_Qi (fun (r : Int32) (u : (Nat → Nat) × (Nat → Int32) × (Nat → Nat → Int32)) => (fun (r : Int32) (c2 : Nat → Nat) (I2 : Nat → Int32) (F2 : Nat → Nat → Int32) => Fr [] [] [24] cn In Fn c2 I2 F2 ∧ CBX c2 ∧ (True)) r u.1 u.2.1 u.2.2) (fun (u : (Nat → Nat) × (Nat → Int32) × (Nat → Nat → Int32)) (t : State) => va_P D vwCl (wX cI (D.1 99) zz g ad u.1 u.2.1 u.2.2) t.heap ∧ va_D A (wX cI (D.1 99) zz g ad u.1 u.2.1 u.2.2)) A)) rfl rfl pn_RX11 (Nat.le_of_ble_eq_true rfl) (fun p e s m below meth c A hx hb hml hown S hr hlocks hnm hA hP hK hD hXS hS ls hl => ?_)
  have hl : lv_has ls 3 [(0, .ref (g 0)), (1, .int v0), (2, .int v1)] := hl
  have hb_cn : Hid (CBX cn) := hB
  replace hB : CBXh cn := hB
  refine lv_aload_n hx hb (oc_42 0 shX11_use_0) rfl (lvA0 hl) ?_
  refine gf_RX11_47 S hK hP 0 xo_0 (v := .ref (g 8)) rfl (oc_180 1 (aq_1 shX11_use_0) uw_0_47) ?_
  refine gf_RX11_426 S hK hP 6 xo_6 (v := .ref (g 24)) rfl (oc_180 4 (aq_4 shX11_use_0) uw_1_170) ?_
  refine lv_iload_n hx hb (oc_27 7 (aq_7 shX11_use_0)) rfl (lvA1 hl) ?_
  refine lv_iload_n hx hb (oc_28 8 (aq_8 shX11_use_0)) rfl (lvA2 hl) ?_
  refine lv_iconst (v := 0) hx hb (oc_3 9 (aq_9 shX11_use_0)) kic_0 ?_
  refine lv_iconst (v := 3) hx hb (oc_6 10 (aq_10 shX11_use_0)) kic_3 ?_
  have hFc := va_free (wc := [((g 24), .inl (cI, 10, .inl (Fn 24)))]) hD hS hA [11] (one_im xo_11)
  refine va_calli (runS_w (As := [.ref (g 24), .int v0, .int v1, .int 0, .int 3]) (rest := []) S (q_l_tell l D cI cB cZ (g 24) 10 (Fn 24) v0 v1 0 3 s.heap.size (by (first | omega | (have zz0 := Hid.u hb_cn; omega)))) kS_RX11_177 hK hP hD [11] (one_is xo_11) (one_im xo_11) rfl ⟨Nat.le_of_ble_eq_true rfl, Nat.le_of_ble_eq_true rfl⟩ ⟨Nat.le_of_ble_eq_true rfl, Nat.le_of_ble_eq_true rfl⟩ rfl hl.1 rfl (Nat.le_of_ble_eq_true rfl) (oc_184 11 (aq_11 shX11_use_0) uw_0_177)) hS (fun q _ h => hFc q h) hFc (fun r_1 u_3 t H1 locs ht hvm h_2 hB1 hz1 hk1 hS => ?_)
  obtain ⟨hP1, hD1⟩ := hB1
  rw [ht] at hP1
  obtain ⟨hP, hD⟩ := wset1 hP hD xo_11 hk1 hP1
  rcases h_2 with ⟨rfl, h_2, rfl⟩ | ⟨rfl, h_2, rfl⟩
  ·
    have h_2 : 0 ≤ v0.toInt ∧ v0.toInt < (10 : Int) ∧ 0 ≤ v1.toInt ∧ v1.toInt ≤ 3 := h_2
    generalize H1 = H at hP hS ⊢
    have hP : va_P D vwCl (wX cI (D.1 99) zz g ad cn In (va_up Fn 24 (upd (Fn 24) v0.toNatClampNeg v1))) H := va_P_eq xsa_11 hP
    have hD : va_D A (wX cI (D.1 99) zz g ad cn In (va_up Fn 24 (upd (Fn 24) v0.toNatClampNeg v1))) := va_D_eq xsa_11 hD
    exact W.zret (v := 1) hx hb hr rfl (fun t ht hW => ⟨⟨1, (cn, In, (va_up Fn 24 (upd (Fn 24) v0.toNatClampNeg v1))), rfl, ⟨(Fr.mo (Fr.f 24 Fr.rf) (sbl rfl) (sbl rfl) (sbl rfl)), hB, trivial⟩, by rw [ht]; exact hP, hD⟩, hS.F ht⟩) hS.2.2 dX11_use_14
  ·
    have h_2 : ¬ (0 ≤ v0.toInt ∧ v0.toInt < (10 : Int) ∧ 0 ≤ v1.toInt ∧ v1.toInt ≤ 3) := h_2
    generalize H1 = H at hP hS ⊢
    have hP : va_P D vwCl (wX cI (D.1 99) zz g ad cn In Fn) H := va_P_eq xsr_11 hP
    have hD : va_D A (wX cI (D.1 99) zz g ad cn In Fn) := va_D_eq xsr_11 hD
    exact W.zret (v := 0) hx hb hr rfl (fun t ht hW => ⟨⟨0, (cn, In, Fn), rfl, ⟨(Fr.mo Fr.rf (sbl rfl) (sbl rfl) (sbl rfl)), hB, trivial⟩, by rw [ht]; exact hP, hD⟩, hS.F ht⟩) hS.2.2 dX11_use_14
set_option maxRecDepth 100000 in
set_option maxHeartbeats 4000000 in
theorem q_Xmost (l : Launch) (D : va_G) (cI cB cZ : ClassId) (zz qq vv : Nat) (bt : Nat → Int32) (g : Nat → Nat) (ad : Nat → Nat → Nat) (cn : Nat → Nat) (In : Nat → Int32) (Fn : Nat → Nat → Int32) (v0 v1 : Int32) (sz : Nat) (hB : CBX cn) : Met l yX11_most (CWS yX11_most cX11_most 3 (some .boolean)) (RM 1 0 0) (PBx [.ref (g 0), .int v0, .int v1] D cI cB cZ zz qq vv bt (wX cI (D.1 99) zz g ad cn In Fn) sz) (va_Qi (fun (r : Int32) (u : (Nat → Nat) × (Nat → Int32) × (Nat → Nat → Int32)) => (fun r c2 I2 F2 => Fr [] [] [25] cn In Fn c2 I2 F2 ∧ CBX c2 ∧ (True)) r u.1 u.2.1 u.2.2) (fun (u : (Nat → Nat) × (Nat → Int32) × (Nat → Nat → Int32)) (t : State) => va_P D vwCl (wX cI (D.1 99) zz g ad u.1 u.2.1 u.2.2) t.heap ∧ va_D (va_A (wX cI (D.1 99) zz g ad cn In Fn) sz) (wX cI (D.1 99) zz g ad u.1 u.2.1 u.2.2)) (va_A (wX cI (D.1 99) zz g ad cn In Fn) sz)) 0 0 (va_A (wX cI (D.1 99) zz g ad cn In Fn) sz) := by
  refine en_x (fun A => (va_Qi (fun (r : Int32) (u : (Nat → Nat) × (Nat → Int32) × (Nat → Nat → Int32)) => (fun (r : Int32) (c2 : Nat → Nat) (I2 : Nat → Int32) (F2 : Nat → Nat → Int32) => Fr [] [] [25] cn In Fn c2 I2 F2 ∧ CBX c2 ∧ (True)) r u.1 u.2.1 u.2.2) (fun (u : (Nat → Nat) × (Nat → Int32) × (Nat → Nat → Int32)) (t : State) => va_P D vwCl (wX cI (D.1 99) zz g ad u.1 u.2.1 u.2.2) t.heap ∧ va_D A (wX cI (D.1 99) zz g ad u.1 u.2.1 u.2.2)) A)) rfl rfl pn_RX11 (Nat.le_of_ble_eq_true rfl) (fun p e s m below meth c A hx hb hml hown S hr hlocks hnm hA hP hK hD hXS hS ls hl => ?_)
  have hl : lv_has ls 3 [(0, .ref (g 0)), (1, .int v0), (2, .int v1)] := hl
  have hb_cn : Hid (CBX cn) := hB
  replace hB : CBXh cn := hB
  refine lv_aload_n hx hb (oc_42 0 shX11_most_0) rfl (lvA0 hl) ?_
  refine gf_RX11_47 S hK hP 0 xo_0 (v := .ref (g 8)) rfl (oc_180 1 (aq_1 shX11_most_0) uw_0_47) ?_
  refine gf_RX11_435 S hK hP 6 xo_6 (v := .ref (g 25)) rfl (oc_180 4 (aq_4 shX11_most_0) uw_1_179) ?_
  refine lv_iload_n hx hb (oc_27 7 (aq_7 shX11_most_0)) rfl (lvA1 hl) ?_
  refine lv_iload_n hx hb (oc_28 8 (aq_8 shX11_most_0)) rfl (lvA2 hl) ?_
  refine lv_iconst (v := 0) hx hb (oc_3 9 (aq_9 shX11_most_0)) kic_0 ?_
  refine lv_ldc (v := 100000) hx hb hown (S.2.2.2.2 _ (wk4_3 2 rfl rfl)) (oc_18 10 (aq_10 shX11_most_0) ub_222) ?_
  have hFc := va_free (wc := [((g 25), .inl (cI, 10, .inl (Fn 25)))]) hD hS hA [12] (one_im xo_12)
  refine va_calli (runS_w (As := [.ref (g 25), .int v0, .int v1, .int 0, .int 100000]) (rest := []) S (q_l_tell l D cI cB cZ (g 25) 10 (Fn 25) v0 v1 0 100000 s.heap.size (by (first | omega | (have zz0 := Hid.u hb_cn; omega)))) kS_RX11_177 hK hP hD [12] (one_is xo_12) (one_im xo_12) rfl ⟨Nat.le_of_ble_eq_true rfl, Nat.le_of_ble_eq_true rfl⟩ ⟨Nat.le_of_ble_eq_true rfl, Nat.le_of_ble_eq_true rfl⟩ rfl hl.1 rfl (Nat.le_of_ble_eq_true rfl) (oc_184 12 (aq_12 shX11_most_0) uw_0_177)) hS (fun q _ h => hFc q h) hFc (fun r_1 u_3 t H1 locs ht hvm h_2 hB1 hz1 hk1 hS => ?_)
  obtain ⟨hP1, hD1⟩ := hB1
  rw [ht] at hP1
  obtain ⟨hP, hD⟩ := wset1 hP hD xo_12 hk1 hP1
  rcases h_2 with ⟨rfl, h_2, rfl⟩ | ⟨rfl, h_2, rfl⟩
  ·
    have h_2 : 0 ≤ v0.toInt ∧ v0.toInt < (10 : Int) ∧ 0 ≤ v1.toInt ∧ v1.toInt ≤ 100000 := h_2
    generalize H1 = H at hP hS ⊢
    have hP : va_P D vwCl (wX cI (D.1 99) zz g ad cn In (va_up Fn 25 (upd (Fn 25) v0.toNatClampNeg v1))) H := va_P_eq xsa_12 hP
    have hD : va_D A (wX cI (D.1 99) zz g ad cn In (va_up Fn 25 (upd (Fn 25) v0.toNatClampNeg v1))) := va_D_eq xsa_12 hD
    exact W.zret (v := 1) hx hb hr rfl (fun t ht hW => ⟨⟨1, (cn, In, (va_up Fn 25 (upd (Fn 25) v0.toNatClampNeg v1))), rfl, ⟨(Fr.mo (Fr.f 25 Fr.rf) (sbl rfl) (sbl rfl) (sbl rfl)), hB, trivial⟩, by rw [ht]; exact hP, hD⟩, hS.F ht⟩) hS.2.2 dX11_most_15
  ·
    have h_2 : ¬ (0 ≤ v0.toInt ∧ v0.toInt < (10 : Int) ∧ 0 ≤ v1.toInt ∧ v1.toInt ≤ 100000) := h_2
    generalize H1 = H at hP hS ⊢
    have hP : va_P D vwCl (wX cI (D.1 99) zz g ad cn In Fn) H := va_P_eq xsr_12 hP
    have hD : va_D A (wX cI (D.1 99) zz g ad cn In Fn) := va_D_eq xsr_12 hD
    exact W.zret (v := 0) hx hb hr rfl (fun t ht hW => ⟨⟨0, (cn, In, Fn), rfl, ⟨(Fr.mo Fr.rf (sbl rfl) (sbl rfl) (sbl rfl)), hB, trivial⟩, by rw [ht]; exact hP, hD⟩, hS.F ht⟩) hS.2.2 dX11_most_15
set_option maxRecDepth 100000 in
set_option maxHeartbeats 4000000 in
theorem q_Xrate (l : Launch) (D : va_G) (cI cB cZ : ClassId) (zz qq vv : Nat) (bt : Nat → Int32) (g : Nat → Nat) (ad : Nat → Nat → Nat) (cn : Nat → Nat) (In : Nat → Int32) (Fn : Nat → Nat → Int32) (v0 v1 v2 : Int32) (sz : Nat) (hB : CBX cn) : Met l yX11_rate (CWS yX11_rate cX11_rate 5 (some .boolean)) (RM 1 0 0) (PBx [.ref (g 0), .int v0, .int v1, .int v2] D cI cB cZ zz qq vv bt (wX cI (D.1 99) zz g ad cn In Fn) sz) (va_Qi (fun (r : Int32) (u : (Nat → Nat) × (Nat → Int32) × (Nat → Nat → Int32)) => (fun r c2 I2 F2 => Fr [] [] [26] cn In Fn c2 I2 F2 ∧ CBX c2 ∧ (True)) r u.1 u.2.1 u.2.2) (fun (u : (Nat → Nat) × (Nat → Int32) × (Nat → Nat → Int32)) (t : State) => va_P D vwCl (wX cI (D.1 99) zz g ad u.1 u.2.1 u.2.2) t.heap ∧ va_D (va_A (wX cI (D.1 99) zz g ad cn In Fn) sz) (wX cI (D.1 99) zz g ad u.1 u.2.1 u.2.2)) (va_A (wX cI (D.1 99) zz g ad cn In Fn) sz)) 0 0 (va_A (wX cI (D.1 99) zz g ad cn In Fn) sz) := by
  refine en_x (fun A => (va_Qi (fun (r : Int32) (u : (Nat → Nat) × (Nat → Int32) × (Nat → Nat → Int32)) => (fun (r : Int32) (c2 : Nat → Nat) (I2 : Nat → Int32) (F2 : Nat → Nat → Int32) => Fr [] [] [26] cn In Fn c2 I2 F2 ∧ CBX c2 ∧ (True)) r u.1 u.2.1 u.2.2) (fun (u : (Nat → Nat) × (Nat → Int32) × (Nat → Nat → Int32)) (t : State) => va_P D vwCl (wX cI (D.1 99) zz g ad u.1 u.2.1 u.2.2) t.heap ∧ va_D A (wX cI (D.1 99) zz g ad u.1 u.2.1 u.2.2)) A)) rfl rfl pn_RX11 (Nat.le_of_ble_eq_true rfl) (fun p e s m below meth c A hx hb hml hown S hr hlocks hnm hA hP hK hD hXS hS ls hl => ?_)
  have hl : lv_has ls 5 [(0, .ref (g 0)), (1, .int v0), (2, .int v1), (3, .int v2)] := hl
  have hb_cn : Hid (CBX cn) := hB
  replace hB : CBXh cn := hB
  refine lv_iload_n hx hb (oc_27 0 shX11_rate_0) rfl (lvA1 hl) ?_
  refine lv_iconst (v := 0) hx hb (oc_3 1 (aq_1 shX11_rate_0)) kic_0 ?_
  refine lv_iconst (v := 3) hx hb (oc_6 2 (aq_2 shX11_rate_0)) kic_3 ?_
  refine vp_callSi (runS_r (As := [.int v0, .int 0, .int 3]) (rest := []) S (q_l_within l D cI cB cZ v0 0 3) kS_RX11_80 hK hP [] rfl ⟨Nat.le_of_ble_eq_true rfl, Nat.le_of_ble_eq_true rfl⟩ ⟨Nat.le_of_ble_eq_true rfl, Nat.le_of_ble_eq_true rfl⟩ rfl hl.1 rfl (Nat.le_of_ble_eq_true rfl) (oc_184 3 (aq_3 shX11_rate_0) uw_0_80)) (fun r_1 h_2 => ?_)
  rcases h_2 with ⟨rfl, h_2⟩ | ⟨rfl, h_2⟩
  ·
    have h_2 : 0 ≤ v0.toInt ∧ v0.toInt ≤ 3 := h_2
    refine lv_if_eq (tgt := 23) hx hb dX11_rate_6 rfl (fun h => absurd h cq_eq_1_0) (fun _ => ?_)
    refine lv_iload_n hx hb (oc_28 9 (aq_9 shX11_rate_0)) rfl (lvA2 hl) ?_
    refine lv_iconst (v := 0) hx hb (oc_3 10 (aq_10 shX11_rate_0)) kic_0 ?_
    refine lv_bipush (v := 57) hx hb (oc_16 11 (aq_11 shX11_rate_0) sgb_57) kbc_57 ?_
    refine vp_callSi (runS_r (As := [.int v1, .int 0, .int 57]) (rest := []) S (q_l_within l D cI cB cZ v1 0 57) kS_RX11_80 hK hP [] rfl ⟨Nat.le_of_ble_eq_true rfl, Nat.le_of_ble_eq_true rfl⟩ ⟨Nat.le_of_ble_eq_true rfl, Nat.le_of_ble_eq_true rfl⟩ rfl hl.1 rfl (Nat.le_of_ble_eq_true rfl) (oc_184 13 (aq_13 shX11_rate_0) uw_0_80)) (fun r_3 h_4 => ?_)
    rcases h_4 with ⟨rfl, h_4⟩ | ⟨rfl, h_4⟩
    ·
      have h_4 : 0 ≤ v1.toInt ∧ v1.toInt ≤ 57 := h_4
      refine lv_if_eq (tgt := 23) hx hb dX11_rate_16 rfl (fun h => absurd h cq_eq_1_0) (fun _ => ?_)
      refine lv_iconst (v := 1) hx hb (oc_4 19 (aq_19 shX11_rate_0)) kic_1 ?_
      refine lv_goto (tgt := 24) hx hb (oc_167 20 (aq_20 shX11_rate_0) sgw_0_4) rfl ?_
      refine lv_istore (lv' := [(4, .int 1), (0, .ref (g 0)), (1, .int v0), (2, .int v1), (3, .int v2)]) hx hb dX11_rate_24 hl (ltb rfl) rfl (fun ls hl => ?_)
      refine lv_iload hx hb dX11_rate_26 (lvA0 hl) ?_
      refine lv_if_eq (tgt := 59) hx hb dX11_rate_28 rfl (fun h => absurd h cq_eq_1_0) (fun _ => ?_)
      obtain ⟨d0, hd0, rfl⟩ := nI_of (x := v0) (fun q => by have := Int32.lt_iff_toInt_lt.mp q; have e : (0 : Int32).toInt = 0 := rfl; (first | omega | (have zz0 := Hid.u hb_cn; omega)))
      have td0 : (nI d0).toInt = (d0 : Int) := nI_toInt hd0
      have zd0 : (nI d0).toInt.toNat = d0 := by (first | omega | (have zz0 := Hid.u hb_cn; omega))
      obtain ⟨d1, hd1, rfl⟩ := nI_of (x := v1) (fun q => by have := Int32.lt_iff_toInt_lt.mp q; have e : (0 : Int32).toInt = 0 := rfl; (first | omega | (have zz0 := Hid.u hb_cn; omega)))
      have td1 : (nI d1).toInt = (d1 : Int) := nI_toInt hd1
      have zd1 : (nI d1).toInt.toNat = d1 := by (first | omega | (have zz0 := Hid.u hb_cn; omega))
      refine lv_aload_n hx hb (oc_42 31 (aq_7 shX11_rate_24)) rfl (lvA1 hl) ?_
      refine gf_RX11_47 S hK hP 0 xo_0 (v := .ref (g 8)) rfl (oc_180 32 (aq_8 shX11_rate_24) uw_0_47) ?_
      refine gf_RX11_429 S hK hP 6 xo_6 (v := .ref (g 26)) rfl (oc_180 35 (aq_11 shX11_rate_24) uw_1_173) ?_
      refine lv_iload_n hx hb (oc_27 38 (aq_14 shX11_rate_24)) rfl (lvA2 hl) ?_
      refine lv_bipush (v := 58) hx hb (oc_16 39 (aq_15 shX11_rate_24) sgb_58) kbc_58 ?_
      refine lv_imul hx hb (oc_104 41 (aq_17 shX11_rate_24)) ?_
      refine lv_topi (fun y_5 ey_5 => ?_)
      obtain rfl : y_5 = (nI (d0 * 58)) := ey_5.trans (pk_mul d0 58)
      refine lv_iload_n hx hb (oc_28 42 (aq_18 shX11_rate_24)) rfl (lvA3 hl) ?_
      refine lv_iadd hx hb (oc_96 43 (aq_19 shX11_rate_24)) ?_
      refine lv_topi (fun y_6 ey_6 => ?_)
      obtain rfl : y_6 = (nI ((d0 * 58) + d1)) := ey_6.trans (nI_add (d0 * 58) d1)
      refine lv_iload_n hx hb (oc_29 44 (aq_20 shX11_rate_24)) rfl (lvA4 hl) ?_
      refine lv_iconst (v := 0) hx hb (oc_3 45 (aq_21 shX11_rate_24)) kic_0 ?_
      refine lv_sipush (v := 1000) hx hb (oc_17 46 (aq_22 shX11_rate_24) sgw_3_232) (by decide) ?_
      have hFc := va_free (wc := [((g 26), .inl (cI, 232, .inl (Fn 26)))]) hD hS hA [13] (one_im xo_13)
      refine va_calli (runS_w (As := [.ref (g 26), .int (nI ((d0 * 58) + d1)), .int v2, .int 0, .int 1000]) (rest := []) S (q_l_tell l D cI cB cZ (g 26) 232 (Fn 26) (nI ((d0 * 58) + d1)) v2 0 1000 s.heap.size (by (first | omega | (have zz0 := Hid.u hb_cn; omega)))) kS_RX11_177 hK hP hD [13] (one_is xo_13) (one_im xo_13) rfl ⟨Nat.le_of_ble_eq_true rfl, Nat.le_of_ble_eq_true rfl⟩ ⟨Nat.le_of_ble_eq_true rfl, Nat.le_of_ble_eq_true rfl⟩ rfl hl.1 rfl (Nat.le_of_ble_eq_true rfl) (oc_184 49 shX11_rate_49 uw_0_177)) hS (fun q _ h => hFc q h) hFc (fun r_7 u_9 t H1 locs ht hvm h_8 hB1 hz1 hk1 hS => ?_)
      obtain ⟨hP1, hD1⟩ := hB1
      rw [ht] at hP1
      obtain ⟨hP, hD⟩ := wset1 hP hD xo_13 hk1 hP1
      rcases h_8 with ⟨rfl, h_8, rfl⟩ | ⟨rfl, h_8, rfl⟩
      ·
        have h_8 : 0 ≤ (nI ((d0 * 58) + d1)).toInt ∧ (nI ((d0 * 58) + d1)).toInt < (232 : Int) ∧ 0 ≤ v2.toInt ∧ v2.toInt ≤ 1000 := h_8
        generalize H1 = H at hP hS ⊢
        have hP : va_P D vwCl (wX cI (D.1 99) zz g ad cn In (va_up Fn 26 (upd (Fn 26) (nI ((d0 * 58) + d1)).toNatClampNeg v2))) H := va_P_eq xsa_13 hP
        have hD : va_D A (wX cI (D.1 99) zz g ad cn In (va_up Fn 26 (upd (Fn 26) (nI ((d0 * 58) + d1)).toNatClampNeg v2))) := va_D_eq xsa_13 hD
        refine lv_if_eq (tgt := 59) hx hb dX11_rate_52 rfl (fun h => absurd h cq_eq_1_0) (fun _ => ?_)
        refine lv_iconst (v := 1) hx hb (oc_4 55 (aq_6 shX11_rate_49)) kic_1 ?_
        refine lv_goto (tgt := 60) hx hb (oc_167 56 (aq_7 shX11_rate_49) sgw_0_4) rfl ?_
        exact W.zret (v := 1) hx hb hr rfl (fun t ht hW => ⟨⟨1, (cn, In, (va_up Fn 26 (upd (Fn 26) (nI ((d0 * 58) + d1)).toNatClampNeg v2))), rfl, ⟨(Fr.mo (Fr.f 26 Fr.rf) (sbl rfl) (sbl rfl) (sbl rfl)), hB, trivial⟩, by rw [ht]; exact hP, hD⟩, hS.F ht⟩) hS.2.2 dX11_rate_60
      ·
        have h_8 : ¬ (0 ≤ (nI ((d0 * 58) + d1)).toInt ∧ (nI ((d0 * 58) + d1)).toInt < (232 : Int) ∧ 0 ≤ v2.toInt ∧ v2.toInt ≤ 1000) := h_8
        generalize H1 = H at hP hS ⊢
        have hP : va_P D vwCl (wX cI (D.1 99) zz g ad cn In Fn) H := va_P_eq xsr_13 hP
        have hD : va_D A (wX cI (D.1 99) zz g ad cn In Fn) := va_D_eq xsr_13 hD
        refine lv_if_eq (tgt := 59) hx hb dX11_rate_52 rfl (fun _ => ?_) (fun h => absurd h cq_eq_0_0)
        refine lv_iconst (v := 0) hx hb dX11_rate_59 kic_0 ?_
        exact W.zret (v := 0) hx hb hr rfl (fun t ht hW => ⟨⟨0, (cn, In, Fn), rfl, ⟨(Fr.mo Fr.rf (sbl rfl) (sbl rfl) (sbl rfl)), hB, trivial⟩, by rw [ht]; exact hP, hD⟩, hS.F ht⟩) hS.2.2 dX11_rate_60
    ·
      have h_4 : ¬ (0 ≤ v1.toInt ∧ v1.toInt ≤ 57) := h_4
      refine lv_if_eq (tgt := 23) hx hb dX11_rate_16 rfl (fun _ => ?_) (fun h => absurd h cq_eq_0_0)
      refine lv_iconst (v := 0) hx hb dX11_rate_23 kic_0 ?_
      refine lv_istore (lv' := [(4, .int 0), (0, .ref (g 0)), (1, .int v0), (2, .int v1), (3, .int v2)]) hx hb dX11_rate_24 hl (ltb rfl) rfl (fun ls hl => ?_)
      refine lv_iload hx hb dX11_rate_26 (lvA0 hl) ?_
      refine lv_if_eq (tgt := 59) hx hb dX11_rate_28 rfl (fun _ => ?_) (fun h => absurd h cq_eq_0_0)
      refine lv_iconst (v := 0) hx hb dX11_rate_59 kic_0 ?_
      exact W.zret (v := 0) hx hb hr rfl (fun t ht hW => ⟨⟨0, (cn, In, Fn), rfl, ⟨(Fr.mo Fr.rf (sbl rfl) (sbl rfl) (sbl rfl)), hB, trivial⟩, by rw [ht]; exact hP, hD⟩, hS.F ht⟩) hS.2.2 dX11_rate_60
  ·
    have h_2 : ¬ (0 ≤ v0.toInt ∧ v0.toInt ≤ 3) := h_2
    refine lv_if_eq (tgt := 23) hx hb dX11_rate_6 rfl (fun _ => ?_) (fun h => absurd h cq_eq_0_0)
    refine lv_iconst (v := 0) hx hb dX11_rate_23 kic_0 ?_
    refine lv_istore (lv' := [(4, .int 0), (0, .ref (g 0)), (1, .int v0), (2, .int v1), (3, .int v2)]) hx hb dX11_rate_24 hl (ltb rfl) rfl (fun ls hl => ?_)
    refine lv_iload hx hb dX11_rate_26 (lvA0 hl) ?_
    refine lv_if_eq (tgt := 59) hx hb dX11_rate_28 rfl (fun _ => ?_) (fun h => absurd h cq_eq_0_0)
    refine lv_iconst (v := 0) hx hb dX11_rate_59 kic_0 ?_
    exact W.zret (v := 0) hx hb hr rfl (fun t ht hW => ⟨⟨0, (cn, In, Fn), rfl, ⟨(Fr.mo Fr.rf (sbl rfl) (sbl rfl) (sbl rfl)), hB, trivial⟩, by rw [ht]; exact hP, hD⟩, hS.F ht⟩) hS.2.2 dX11_rate_60
set_option maxRecDepth 100000 in
set_option maxHeartbeats 4000000 in
theorem q_Xdrum (l : Launch) (D : va_G) (cI cB cZ : ClassId) (zz qq vv : Nat) (bt : Nat → Int32) (g : Nat → Nat) (ad : Nat → Nat → Nat) (cn : Nat → Nat) (In : Nat → Int32) (Fn : Nat → Nat → Int32)  (sz : Nat) (hB : CBX cn) : Met l yX11_drum (CWS yX11_drum cX11_drum 1 (some .int)) (RM 0 0 0) (PBx [.ref (g 0)] D cI cB cZ zz qq vv bt (wX cI (D.1 99) zz g ad cn In Fn) sz) (va_Qi (fun (r : Int32) (u : (Nat → Nat) × (Nat → Int32) × (Nat → Nat → Int32)) => (fun r c2 I2 F2 => Fr [2] [] [] cn In Fn c2 I2 F2 ∧ CBX c2 ∧ (True)) r u.1 u.2.1 u.2.2) (fun (u : (Nat → Nat) × (Nat → Int32) × (Nat → Nat → Int32)) (t : State) => va_P D vwCl (wX cI (D.1 99) zz g ad u.1 u.2.1 u.2.2) t.heap ∧ va_D (va_A (wX cI (D.1 99) zz g ad cn In Fn) sz) (wX cI (D.1 99) zz g ad u.1 u.2.1 u.2.2)) (va_A (wX cI (D.1 99) zz g ad cn In Fn) sz)) 0 0 (va_A (wX cI (D.1 99) zz g ad cn In Fn) sz) := by
  refine en_x (fun A => (va_Qi (fun (r : Int32) (u : (Nat → Nat) × (Nat → Int32) × (Nat → Nat → Int32)) => (fun (r : Int32) (c2 : Nat → Nat) (I2 : Nat → Int32) (F2 : Nat → Nat → Int32) => Fr [2] [] [] cn In Fn c2 I2 F2 ∧ CBX c2 ∧ (True)) r u.1 u.2.1 u.2.2) (fun (u : (Nat → Nat) × (Nat → Int32) × (Nat → Nat → Int32)) (t : State) => va_P D vwCl (wX cI (D.1 99) zz g ad u.1 u.2.1 u.2.2) t.heap ∧ va_D A (wX cI (D.1 99) zz g ad u.1 u.2.1 u.2.2)) A)) rfl rfl pn_RX11 (Nat.le_of_ble_eq_true rfl) (fun p e s m below meth c A hx hb hml hown S hr hlocks hnm hA hP hK hD hXS hS ls hl => ?_)
  have hl : lv_has ls 1 [(0, .ref (g 0))] := hl
  have hb_cn : Hid (CBX cn) := hB
  replace hB : CBXh cn := hB
  refine lv_aload_n hx hb (oc_42 0 shX11_drum_0) rfl (lvA0 hl) ?_
  refine gf_RX11_502 S hK hP 0 xo_0 (v := .int (nI (cn 2))) rfl (oc_180 1 (aq_1 shX11_drum_0) uw_1_246) ?_
  refine lv_bipush (v := 20) hx hb (oc_16 4 (aq_4 shX11_drum_0) sgb_20) kbc_20 ?_
  have : (nI (cn 2)).toInt = (((cn 2) : Nat) : Int) := nI_toInt (by (first | omega | (have zz0 := Hid.u hb_cn; omega)))
  refine lv_icmp_lt (tgt := 11) hx hb (oc_161 6 (aq_6 shX11_drum_0) sgw_0_5) rfl (fun c_1 => ?_) (fun c_1 => ?_)
  ·
    have tc_1 : ((nI (cn 2)).toInt : Int) < 20 := Int32.lt_iff_toInt_lt.mp c_1
    refine lv_aload_n hx hb (oc_42 11 (aq_11 shX11_drum_0)) rfl (lvA0 hl) ?_
    refine lv_dup hx hb (oc_89 12 (aq_12 shX11_drum_0)) rfl ?_
    refine gf_RX11_502 S hK hP 0 xo_0 (v := .int (nI (cn 2))) rfl (oc_180 13 (aq_13 shX11_drum_0) uw_1_246) ?_
    refine lv_iconst (v := 1) hx hb (oc_4 16 (aq_16 shX11_drum_0)) kic_1 ?_
    refine lv_iadd hx hb (oc_96 17 (aq_17 shX11_drum_0)) ?_
    refine lv_topi (fun y_2 ey_2 => ?_)
    obtain rfl : y_2 = (nI ((cn 2) + 1)) := ey_2.trans (nI_add (cn 2) 1)
    refine pf_RX11_502 S hK hP hD hS 0 xo_0 (v := .int (nI ((cn 2) + 1))) (Nat.le_of_ble_eq_true rfl) rfl rfl (oc_181 18 (aq_18 shX11_drum_0) uw_1_246) (fun H locs hP hD hS => ?_)
    have hP : va_P D vwCl (wX cI (D.1 99) zz g ad (va_up cn 2 ((cn 2) + 1)) In Fn) H := va_P_eq (xsf_0_2) hP
    have hD : va_D A (wX cI (D.1 99) zz g ad (va_up cn 2 ((cn 2) + 1)) In Fn) := va_D_eq (xsf_0_2) hD
    refine lv_aload_n hx hb (oc_42 21 (aq_21 shX11_drum_0)) rfl (lvA0 hl) ?_
    refine gf_RX11_502 S hK hP 0 xo_0 (v := .int (nI ((cn 2) + 1))) rfl (oc_180 22 (aq_22 shX11_drum_0) uw_1_246) ?_
    refine lv_iconst (v := 1) hx hb (oc_4 25 shX11_drum_25) kic_1 ?_
    refine lv_isub hx hb (oc_100 26 (aq_1 shX11_drum_25)) ?_
    exact W.iret (v := ((nI ((cn 2) + 1)) - 1)) hx hb hr (fun t ht hW => ⟨⟨((nI ((cn 2) + 1)) - 1), ((va_up cn 2 ((cn 2) + 1)), In, Fn), rfl, ⟨(Fr.mo (Fr.c 2 Fr.rf) (sbl rfl) (sbl rfl) (sbl rfl)), (CBX.u2 (v := ((cn 2) + 1)) hB (show ((cn 2) + 1) ≤ 20 by (first | omega | (have zz0 := Hid.u hb_cn; omega)))), trivial⟩, by rw [ht]; exact hP, hD⟩, hS.F ht⟩) hS.2.2 (oc_172 27 (aq_2 shX11_drum_25))
  ·
    have tc_1 : (20 : Int) ≤ (nI (cn 2)).toInt := Int32.le_iff_toInt_le.mp (Int32.not_lt.mp c_1)
    refine lv_iconst (v := (-1)) hx hb (oc_2 9 (aq_9 shX11_drum_0)) kic_m1 ?_
    exact W.iret (v := (-1)) hx hb hr (fun t ht hW => ⟨⟨(-1), (cn, In, Fn), rfl, ⟨(Fr.mo Fr.rf (sbl rfl) (sbl rfl) (sbl rfl)), hB, trivial⟩, by rw [ht]; exact hP, hD⟩, hS.F ht⟩) hS.2.2 (oc_172 10 (aq_10 shX11_drum_0))
set_option maxRecDepth 100000 in
set_option maxHeartbeats 4000000 in
theorem q_Xsaved (l : Launch) (D : va_G) (cI cB cZ : ClassId) (zz qq vv : Nat) (bt : Nat → Int32) (g : Nat → Nat) (ad : Nat → Nat → Nat) (cn : Nat → Nat) (In : Nat → Int32) (Fn : Nat → Nat → Int32) (v0 : Int32) (h0 : Nat) (hB : CBX cn) (hh : h0 ≤ 12) : Met l yX11_savedFrom (CWS yX11_savedFrom cX11_savedFrom 5 (some .int)) (RM 1 0 0) (PBrx [.ref (g 0), .int v0, .int (nI h0)] D cI cB cZ zz qq vv bt (wX cI (D.1 99) zz g ad cn In Fn)) (vp_Si (fun _ => True)) 0 0 (fun _ => False) := by
  refine en_rx rfl pn_RX11 (Nat.le_of_ble_eq_true rfl) (fun p e s m below meth c hx hb hml hown S hr hlocks hnm hP hK hXS hS ls hl => ?_)
  have hl : lv_has ls 5 [(0, .ref (g 0)), (1, .int v0), (2, .int (nI h0))] := hl
  have hb_cn : Hid (CBX cn) := hB
  replace hB : CBXh cn := hB
  refine lv_iconst (v := 0) hx hb (oc_3 0 shX11_savedFrom_0) kic_0 ?_
  refine lv_istore_n (lv' := [(3, .int 0), (0, .ref (g 0)), (1, .int v0), (2, .int (nI h0))]) hx hb (oc_62 1 (aq_1 shX11_savedFrom_0)) rfl hl (ltb rfl) rfl (fun ls hl => ?_)
  refine lv_iconst (v := 0) hx hb (oc_3 2 (aq_2 shX11_savedFrom_0)) kic_0 ?_
  refine lv_istore (lv' := [(4, .int 0), (3, .int 0), (0, .ref (g 0)), (1, .int v0), (2, .int (nI h0))]) hx hb (oc_54 3 (aq_3 shX11_savedFrom_0) ub_4) hl (ltb rfl) rfl (fun ls hl => ?_)
  have lp_5 : ∀ (n : Nat) (i5 : Nat) (x5_3 : Int32) , h0 - i5 < n → (i5 ≤ h0) → ∀ ls : Array Slot, lv_has ls 5 [(4, .int (nI i5)), (3, .int x5_3), (0, .ref (g 0)), (1, .int v0), (2, .int (nI h0))] → W p l e (RM 1 0 0) s m ([.ref (g 0), .int v0, .int (nI h0)]).toArray below meth c s.heap [] 0 0 (MQ below (vp_Si (fun _ => True)) ([.ref (g 0), .int v0, .int (nI h0)]).toArray s 0 0 (fun _ => False)) (F0 m 5 ls []) := by
    intro n5
    induction n5 with
    | zero => intros; (first | omega | (have zz0 := Hid.u hb_cn; omega))
    | succ n5 ih5 =>
      intro i5 x5_3 hmu5 hinv5 ls hl
      have hr5 := hinv5
      have ti5 : (nI i5).toInt = (i5 : Int) := nI_toInt (by (first | omega | (have zz0 := Hid.u hb_cn; omega)))
      refine lv_iload hx hb (oc_21 5 (aq_5 shX11_savedFrom_0) ub_4) (lvA0 hl) ?_
      refine lv_iload_n hx hb (oc_28 7 (aq_7 shX11_savedFrom_0)) rfl (lvA4 hl) ?_
      have : (nI h0).toInt = ((h0 : Nat) : Int) := nI_toInt (by (first | omega | (have zz0 := Hid.u hb_cn; omega)))
      refine lv_icmp_ge (tgt := 37) hx hb (oc_162 8 (aq_8 shX11_savedFrom_0) sgw_0_29) rfl (fun c_1 => ?_) (fun c_1 => ?_)
      ·
        have tc_1 : ((nI h0).toInt : Int) ≤ (nI i5).toInt := Int32.le_iff_toInt_le.mp c_1
        refine lv_iload_n hx hb (oc_29 37 (aq_12 shX11_savedFrom_25)) rfl (lvA1 hl) ?_
        exact W.iret (v := x5_3) hx hb hr (fun t ht hW => ⟨x5_3, rfl, trivial, ht⟩) (fun _ h => absurd h List.not_mem_nil) (oc_172 38 (aq_13 shX11_savedFrom_25))
      ·
        have tc_1 : ((nI i5).toInt : Int) < (nI h0).toInt := Int32.lt_iff_toInt_lt.mp (Int32.not_le.mp c_1)
        refine lv_iload_n hx hb (oc_29 11 (aq_11 shX11_savedFrom_0)) rfl (lvA1 hl) ?_
        refine lv_aload_n hx hb (oc_42 12 (aq_12 shX11_savedFrom_0)) rfl (lvA2 hl) ?_
        refine gf_RX11_47 S hK hP 0 xo_0 (v := .ref (g 8)) rfl (oc_180 13 (aq_13 shX11_savedFrom_0) uw_0_47) ?_
        refine gf_RX11_467 S hK hP 6 xo_6 (v := .ref (g 21)) rfl (oc_180 16 (aq_16 shX11_savedFrom_0) uw_1_211) ?_
        refine lv_iload_n hx hb (oc_27 19 (aq_19 shX11_savedFrom_0)) rfl (lvA3 hl) ?_
        refine lv_iload hx hb (oc_21 20 (aq_20 shX11_savedFrom_0) ub_4) (lvA0 hl) ?_
        refine lv_iadd hx hb (oc_96 22 (aq_22 shX11_savedFrom_0)) ?_
        refine lv_bipush (v := 24) hx hb (oc_16 23 (aq_23 shX11_savedFrom_0) sgb_24) kbc_24 ?_
        refine lv_irem hx hb (oc_112 25 shX11_savedFrom_25) (by decide) ?_
        refine vp_callSi (runS_r (As := [.ref (g 21), .int ((v0 + (nI i5)) - (v0 + (nI i5)) / 24 * 24)]) (rest := [.int x5_3]) S (q_l_at l D cI cB cZ (g 21) 24 (Fn 21) ((v0 + (nI i5)) - (v0 + (nI i5)) / 24 * 24) (by (first | omega | (have zz0 := Hid.u hb_cn; omega)))) kS_RX11_192 hK hP [8] (one_is xo_8) ⟨Nat.le_of_ble_eq_true rfl, Nat.le_of_ble_eq_true rfl⟩ ⟨Nat.le_of_ble_eq_true rfl, Nat.le_of_ble_eq_true rfl⟩ rfl hl.1 rfl (Nat.le_of_ble_eq_true rfl) (oc_184 26 (aq_1 shX11_savedFrom_25) uw_0_192)) (fun r_2 h_3 => ?_)
        subst h_3
        refine lv_iadd hx hb (oc_96 29 (aq_4 shX11_savedFrom_25)) ?_
        refine lv_istore_n (lv' := [(3, .int (x5_3 + (atM (Fn 21) 24 ((v0 + (nI i5)) - (v0 + (nI i5)) / 24 * 24)))), (4, .int (nI i5)), (0, .ref (g 0)), (1, .int v0), (2, .int (nI h0))]) hx hb (oc_62 30 (aq_5 shX11_savedFrom_25)) rfl hl (ltb rfl) rfl (fun ls hl => ?_)
        refine lv_iinc (v := (nI (i5 + 1))) (lv' := [(4, .int (nI (i5 + 1))), (3, .int (x5_3 + (atM (Fn 21) 24 ((v0 + (nI i5)) - (v0 + (nI i5)) / 24 * 24)))), (0, .ref (g 0)), (1, .int v0), (2, .int (nI h0))]) hx hb (oc_132 31 (aq_6 shX11_savedFrom_25) ub_4 sgb_1) hl (k := 1) rfl (nI_1 _) (ltb rfl) rfl (fun ls hl => ?_)
        refine lv_goto (tgt := 5) hx hb (oc_167 34 (aq_9 shX11_savedFrom_25) sgw_255_227) rfl ?_
        exact ih5 (i5 + 1) (x5_3 + (atM (Fn 21) 24 ((v0 + (nI i5)) - (v0 + (nI i5)) / 24 * 24))) (by (first | omega | (have zz0 := Hid.u hb_cn; omega))) (by (first | omega | (have zz0 := Hid.u hb_cn; omega))) ls (lv_sub hl [0, 1, 2, 3, 4] rfl)
  exact lp_5 _ 0 0 (Nat.lt_succ_self _) (by (first | omega | (have zz0 := Hid.u hb_cn; omega))) ls (lv_sub hl [0, 1, 2, 3, 4] rfl)
set_option maxRecDepth 100000 in
set_option maxHeartbeats 4000000 in
theorem q_Xlock (l : Launch) (D : va_G) (cI cB cZ : ClassId) (zz qq vv : Nat) (bt : Nat → Int32) (g : Nat → Nat) (ad : Nat → Nat → Nat) (cn : Nat → Nat) (In : Nat → Int32) (Fn : Nat → Nat → Int32) (v0 v1 : Int32) (hB : CBX cn) : Met l yX11_lock (CWS yX11_lock cX11_lock 7 (some .int)) (RM 2 0 0) (PBrx [.ref (g 0), .int v0, .int v1] D cI cB cZ zz qq vv bt (wX cI (D.1 99) zz g ad cn In Fn)) (vp_Si (fun _ => True)) 0 0 (fun _ => False) := by
  refine en_rx rfl pn_RX11 (Nat.le_of_ble_eq_true rfl) (fun p e s m below meth c hx hb hml hown S hr hlocks hnm hP hK hXS hS ls hl => ?_)
  have hl : lv_has ls 7 [(0, .ref (g 0)), (1, .int v0), (2, .int v1)] := hl
  have hb_cn : Hid (CBX cn) := hB
  replace hB : CBXh cn := hB
  refine lv_iload_n hx hb (oc_27 0 shX11_lock_0) rfl (lvA1 hl) ?_
  refine lv_iconst (v := 1) hx hb (oc_4 1 (aq_1 shX11_lock_0)) kic_1 ?_
  refine lv_bipush (v := 12) hx hb (oc_16 2 (aq_2 shX11_lock_0) sgb_12) kbc_12 ?_
  refine vp_callSi (runS_r (As := [.int v0, .int 1, .int 12]) (rest := []) S (q_l_within l D cI cB cZ v0 1 12) kS_RX11_80 hK hP [] rfl ⟨Nat.le_of_ble_eq_true rfl, Nat.le_of_ble_eq_true rfl⟩ ⟨Nat.le_of_ble_eq_true rfl, Nat.le_of_ble_eq_true rfl⟩ rfl hl.1 rfl (Nat.le_of_ble_eq_true rfl) (oc_184 4 (aq_4 shX11_lock_0) uw_0_80)) (fun r_1 h_2 => ?_)
  rcases h_2 with ⟨rfl, h_2⟩ | ⟨rfl, h_2⟩
  ·
    have h_2 : 1 ≤ v0.toInt ∧ v0.toInt ≤ 12 := h_2
    refine lv_if_eq (tgt := 19) hx hb (oc_153 7 (aq_7 shX11_lock_0) sgw_0_12) rfl (fun h => absurd h cq_eq_1_0) (fun _ => ?_)
    refine lv_iload_n hx hb (oc_28 10 (aq_10 shX11_lock_0)) rfl (lvA2 hl) ?_
    refine lv_iconst (v := 0) hx hb (oc_3 11 (aq_11 shX11_lock_0)) kic_0 ?_
    refine lv_iconst (v := 1) hx hb (oc_4 12 (aq_12 shX11_lock_0)) kic_1 ?_
    refine vp_callSi (runS_r (As := [.int v1, .int 0, .int 1]) (rest := []) S (q_l_within l D cI cB cZ v1 0 1) kS_RX11_80 hK hP [] rfl ⟨Nat.le_of_ble_eq_true rfl, Nat.le_of_ble_eq_true rfl⟩ ⟨Nat.le_of_ble_eq_true rfl, Nat.le_of_ble_eq_true rfl⟩ rfl hl.1 rfl (Nat.le_of_ble_eq_true rfl) (oc_184 13 (aq_13 shX11_lock_0) uw_0_80)) (fun r_3 h_4 => ?_)
    rcases h_4 with ⟨rfl, h_4⟩ | ⟨rfl, h_4⟩
    ·
      have h_4 : 0 ≤ v1.toInt ∧ v1.toInt ≤ 1 := h_4
      refine lv_if_ne (tgt := 21) hx hb (oc_154 16 (aq_16 shX11_lock_0) sgw_0_5) rfl (fun _ => ?_) (fun h => absurd h cq_eq_1_0)
      obtain ⟨d0, hd0, rfl⟩ := nI_of (x := v0) (fun q => by have := Int32.lt_iff_toInt_lt.mp q; have e : (0 : Int32).toInt = 0 := rfl; (first | omega | (have zz0 := Hid.u hb_cn; omega)))
      have td0 : (nI d0).toInt = (d0 : Int) := nI_toInt hd0
      have zd0 : (nI d0).toInt.toNat = d0 := by (first | omega | (have zz0 := Hid.u hb_cn; omega))
      refine lv_iconst (v := 0) hx hb (oc_3 21 (aq_21 shX11_lock_0)) kic_0 ?_
      refine lv_istore_n (lv' := [(3, .int 0), (0, .ref (g 0)), (1, .int (nI d0)), (2, .int v1)]) hx hb (oc_62 22 (aq_22 shX11_lock_0)) rfl hl (ltb rfl) rfl (fun ls hl => ?_)
      refine lv_aload_n hx hb (oc_42 23 (aq_23 shX11_lock_0)) rfl (lvA1 hl) ?_
      refine lv_iconst (v := 0) hx hb (oc_3 24 shX11_lock_24) kic_0 ?_
      refine lv_iload_n hx hb (oc_27 25 (aq_1 shX11_lock_24)) rfl (lvA2 hl) ?_
      refine vp_callSi (runV_rxa (As := [.int 0, .int (nI d0)]) (rest := []) S (q_Xsaved l D cI cB cZ zz qq vv bt g ad cn In Fn 0 d0 hB (by (first | omega | (have zz0 := Hid.u hb_cn; omega)))) kV_RX11_470 hK hXS hS hP 0 xo_0 rfl rfl ⟨Nat.le_of_ble_eq_true rfl, Nat.le_of_ble_eq_true rfl⟩ ⟨Nat.le_of_ble_eq_true rfl, Nat.le_of_ble_eq_true rfl⟩ rfl hl.1 rfl (Nat.le_of_ble_eq_true rfl) (oc_182 26 (aq_2 shX11_lock_24) uw_1_214)) (fun r_5 h_6 => ?_)
      refine lv_istore (lv' := [(4, .int r_5), (3, .int 0), (0, .ref (g 0)), (1, .int (nI d0)), (2, .int v1)]) hx hb (oc_54 29 (aq_5 shX11_lock_24) ub_4) hl (ltb rfl) rfl (fun ls hl => ?_)
      refine lv_iconst (v := 1) hx hb (oc_4 31 (aq_7 shX11_lock_24)) kic_1 ?_
      refine lv_istore (lv' := [(5, .int 1), (4, .int r_5), (3, .int 0), (0, .ref (g 0)), (1, .int (nI d0)), (2, .int v1)]) hx hb (oc_54 32 (aq_8 shX11_lock_24) ub_5) hl (ltb rfl) rfl (fun ls hl => ?_)
      have lp_34 : ∀ (n : Nat) (i34 : Nat) (x34_3 : Int32) (x34_4 : Int32) , 24 - i34 < n → (i34 ≤ 24) → ∀ ls : Array Slot, lv_has ls 7 [(5, .int (nI i34)), (4, .int x34_4), (3, .int x34_3), (0, .ref (g 0)), (1, .int (nI d0)), (2, .int v1)] → W p l e (RM 2 0 0) s m ([.ref (g 0), .int (nI d0), .int v1]).toArray below meth c s.heap [] 0 0 (MQ below (vp_Si (fun _ => True)) ([.ref (g 0), .int (nI d0), .int v1]).toArray s 0 0 (fun _ => False)) (F0 m 34 ls []) := by
        intro n34
        induction n34 with
        | zero => intros; (first | omega | (have zz0 := Hid.u hb_cn; omega))
        | succ n34 ih34 =>
          intro i34 x34_3 x34_4 hmu34 hinv34 ls hl
          have hr34 := hinv34
          have ti34 : (nI i34).toInt = (i34 : Int) := nI_toInt (by (first | omega | (have zz0 := Hid.u hb_cn; omega)))
          refine lv_iload hx hb (oc_21 34 (aq_10 shX11_lock_24) ub_5) (lvA0 hl) ?_
          refine lv_bipush (v := 24) hx hb (oc_16 36 (aq_12 shX11_lock_24) sgb_24) kbc_24 ?_
          refine lv_icmp_ge (tgt := 70) hx hb (oc_162 38 (aq_14 shX11_lock_24) sgw_0_32) rfl (fun c_7 => ?_) (fun c_7 => ?_)
          ·
            have tc_7 : (24 : Int) ≤ (nI i34).toInt := Int32.le_iff_toInt_le.mp c_7
            refine lv_iload_n hx hb (oc_28 70 (aq_22 shX11_lock_48)) rfl (lvA5 hl) ?_
            refine lv_if_ne (tgt := 78) hx hb (oc_154 71 (aq_23 shX11_lock_48) sgw_0_7) rfl (fun c_8 => ?_) (fun c_8 => ?_)
            ·
              have tc_8 : (v1.toInt : Int) ≠ 0 := fun q => c_8 (Int32.toInt_inj.mp q)
              refine lv_iload hx hb (oc_21 78 (aq_4 shX11_lock_74) ub_4) (lvA1 hl) ?_
              exact W.iret (v := x34_4) hx hb hr (fun t ht hW => ⟨x34_4, rfl, trivial, ht⟩) (fun _ h => absurd h List.not_mem_nil) (oc_172 80 (aq_6 shX11_lock_74))
            ·
              have tc_8 : (v1.toInt : Int) = 0 := congrArg Int32.toInt c_8
              refine lv_iload_n hx hb (oc_29 74 shX11_lock_74) rfl (lvA2 hl) ?_
              refine lv_goto (tgt := 80) hx hb (oc_167 75 (aq_1 shX11_lock_74) sgw_0_5) rfl ?_
              exact W.iret (v := x34_3) hx hb hr (fun t ht hW => ⟨x34_3, rfl, trivial, ht⟩) (fun _ h => absurd h List.not_mem_nil) (oc_172 80 (aq_6 shX11_lock_74))
          ·
            have tc_7 : ((nI i34).toInt : Int) < 24 := Int32.lt_iff_toInt_lt.mp (Int32.not_le.mp c_7)
            refine lv_aload_n hx hb (oc_42 41 (aq_17 shX11_lock_24)) rfl (lvA3 hl) ?_
            refine lv_iload hx hb (oc_21 42 (aq_18 shX11_lock_24) ub_5) (lvA0 hl) ?_
            refine lv_iload_n hx hb (oc_27 44 (aq_20 shX11_lock_24)) rfl (lvA4 hl) ?_
            refine vp_callSi (runV_rxa (As := [.int (nI i34), .int (nI d0)]) (rest := []) S (q_Xsaved l D cI cB cZ zz qq vv bt g ad cn In Fn (nI i34) d0 hB (by (first | omega | (have zz0 := Hid.u hb_cn; omega)))) kV_RX11_470 hK hXS hS hP 0 xo_0 rfl rfl ⟨Nat.le_of_ble_eq_true rfl, Nat.le_of_ble_eq_true rfl⟩ ⟨Nat.le_of_ble_eq_true rfl, Nat.le_of_ble_eq_true rfl⟩ rfl hl.1 rfl (Nat.le_of_ble_eq_true rfl) (oc_182 45 (aq_21 shX11_lock_24) uw_1_214)) (fun r_9 h_10 => ?_)
            refine lv_istore (lv' := [(6, .int r_9), (5, .int (nI i34)), (4, .int x34_4), (3, .int x34_3), (0, .ref (g 0)), (1, .int (nI d0)), (2, .int v1)]) hx hb (oc_54 48 shX11_lock_48 ub_6) hl (ltb rfl) rfl (fun ls hl => ?_)
            refine lv_iload hx hb (oc_21 50 (aq_2 shX11_lock_48) ub_6) (lvA0 hl) ?_
            refine lv_iload hx hb (oc_21 52 (aq_4 shX11_lock_48) ub_4) (lvA2 hl) ?_
            refine lv_icmp_le (tgt := 64) hx hb (oc_164 54 (aq_6 shX11_lock_48) sgw_0_10) rfl (fun c_11 => ?_) (fun c_11 => ?_)
            ·
              have tc_11 : (r_9.toInt : Int) ≤ x34_4.toInt := Int32.le_iff_toInt_le.mp c_11
              refine lv_iinc (v := (nI (i34 + 1))) (lv' := [(5, .int (nI (i34 + 1))), (6, .int r_9), (4, .int x34_4), (3, .int x34_3), (0, .ref (g 0)), (1, .int (nI d0)), (2, .int v1)]) hx hb (oc_132 64 (aq_16 shX11_lock_48) ub_5 sgb_1) hl (k := 1) rfl (nI_1 _) (ltb rfl) rfl (fun ls hl => ?_)
              refine lv_goto (tgt := 34) hx hb (oc_167 67 (aq_19 shX11_lock_48) sgw_255_223) rfl ?_
              exact ih34 (i34 + 1) x34_3 x34_4 (by (first | omega | (have zz0 := Hid.u hb_cn; omega))) (by (first | omega | (have zz0 := Hid.u hb_cn; omega))) ls (lv_sub hl [0, 2, 3, 4, 5, 6] rfl)
            ·
              have tc_11 : (x34_4.toInt : Int) < r_9.toInt := Int32.lt_iff_toInt_lt.mp (Int32.not_le.mp c_11)
              refine lv_iload hx hb (oc_21 57 (aq_9 shX11_lock_48) ub_5) (lvA1 hl) ?_
              refine lv_istore_n (lv' := [(3, .int (nI i34)), (6, .int r_9), (5, .int (nI i34)), (4, .int x34_4), (0, .ref (g 0)), (1, .int (nI d0)), (2, .int v1)]) hx hb (oc_62 59 (aq_11 shX11_lock_48)) rfl hl (ltb rfl) rfl (fun ls hl => ?_)
              refine lv_iload hx hb (oc_21 60 (aq_12 shX11_lock_48) ub_6) (lvA1 hl) ?_
              refine lv_istore (lv' := [(4, .int r_9), (3, .int (nI i34)), (6, .int r_9), (5, .int (nI i34)), (0, .ref (g 0)), (1, .int (nI d0)), (2, .int v1)]) hx hb (oc_54 62 (aq_14 shX11_lock_48) ub_4) hl (ltb rfl) rfl (fun ls hl => ?_)
              refine lv_iinc (v := (nI (i34 + 1))) (lv' := [(5, .int (nI (i34 + 1))), (4, .int r_9), (3, .int (nI i34)), (6, .int r_9), (0, .ref (g 0)), (1, .int (nI d0)), (2, .int v1)]) hx hb (oc_132 64 (aq_16 shX11_lock_48) ub_5 sgb_1) hl (k := 3) rfl (nI_1 _) (ltb rfl) rfl (fun ls hl => ?_)
              refine lv_goto (tgt := 34) hx hb (oc_167 67 (aq_19 shX11_lock_48) sgw_255_223) rfl ?_
              exact ih34 (i34 + 1) (nI i34) r_9 (by (first | omega | (have zz0 := Hid.u hb_cn; omega))) (by (first | omega | (have zz0 := Hid.u hb_cn; omega))) ls (lv_sub hl [0, 1, 2, 4, 5, 6] rfl)
      exact lp_34 _ 1 0 r_5 (Nat.lt_succ_self _) (by (first | omega | (have zz0 := Hid.u hb_cn; omega))) ls (lv_sub hl [0, 1, 2, 3, 4, 5] rfl)
    ·
      have h_4 : ¬ (0 ≤ v1.toInt ∧ v1.toInt ≤ 1) := h_4
      refine lv_if_ne (tgt := 21) hx hb (oc_154 16 (aq_16 shX11_lock_0) sgw_0_5) rfl (fun h => absurd h cq_eq_0_0) (fun _ => ?_)
      refine lv_iconst (v := (-1)) hx hb (oc_2 19 (aq_19 shX11_lock_0)) kic_m1 ?_
      exact W.iret (v := (-1)) hx hb hr (fun t ht hW => ⟨(-1), rfl, trivial, ht⟩) (fun _ h => absurd h List.not_mem_nil) (oc_172 20 (aq_20 shX11_lock_0))
  ·
    have h_2 : ¬ (1 ≤ v0.toInt ∧ v0.toInt ≤ 12) := h_2
    refine lv_if_eq (tgt := 19) hx hb (oc_153 7 (aq_7 shX11_lock_0) sgw_0_12) rfl (fun _ => ?_) (fun h => absurd h cq_eq_0_0)
    refine lv_iconst (v := (-1)) hx hb (oc_2 19 (aq_19 shX11_lock_0)) kic_m1 ?_
    exact W.iret (v := (-1)) hx hb hr (fun t ht hW => ⟨(-1), rfl, trivial, ht⟩) (fun _ h => absurd h List.not_mem_nil) (oc_172 20 (aq_20 shX11_lock_0))
set_option maxRecDepth 100000 in
set_option maxHeartbeats 4000000 in
theorem q_Xchange (l : Launch) (D : va_G) (cI cB cZ : ClassId) (zz qq vv : Nat) (bt : Nat → Int32) (g : Nat → Nat) (ad : Nat → Nat → Nat) (cn : Nat → Nat) (In : Nat → Int32) (Fn : Nat → Nat → Int32) (v0 v1 : Int32) (sz : Nat) (hB : CBX cn) : Met l yX7_change (CWS yX7_change cX7_change 3 none) (RM 1 0 0) (PBx [.ref (g 8), .int v0, .int v1] D cI cB cZ zz qq vv bt (wX cI (D.1 99) zz g ad cn In Fn) sz) (va_Qv (fun (u : (Nat → Nat) × (Nat → Int32) × (Nat → Nat → Int32)) => (fun c2 I2 F2 => (∀ k : Nat, k ∉ [] → I2 k = In k) ∧ (((True) ∧ cn = c2 ∧ (va_up Fn 29 (putM (Fn 29) 400 v0 (atM (Fn 29) 400 v0 + v1))) = F2))) u.1 u.2.1 u.2.2) (fun (u : (Nat → Nat) × (Nat → Int32) × (Nat → Nat → Int32)) (t : State) => va_P D vwCl (wX cI (D.1 99) zz g ad u.1 u.2.1 u.2.2) t.heap ∧ va_D (va_A (wX cI (D.1 99) zz g ad cn In Fn) sz) (wX cI (D.1 99) zz g ad u.1 u.2.1 u.2.2)) (va_A (wX cI (D.1 99) zz g ad cn In Fn) sz)) 0 0 (va_A (wX cI (D.1 99) zz g ad cn In Fn) sz) := by
  refine en_x (fun A => (va_Qv (fun (u : (Nat → Nat) × (Nat → Int32) × (Nat → Nat → Int32)) => (fun (c2 : Nat → Nat) (I2 : Nat → Int32) (F2 : Nat → Nat → Int32) => (∀ k : Nat, k ∉ [] → I2 k = In k) ∧ (((True) ∧ cn = c2 ∧ (va_up Fn 29 (putM (Fn 29) 400 v0 (atM (Fn 29) 400 v0 + v1))) = F2))) u.1 u.2.1 u.2.2) (fun (u : (Nat → Nat) × (Nat → Int32) × (Nat → Nat → Int32)) (t : State) => va_P D vwCl (wX cI (D.1 99) zz g ad u.1 u.2.1 u.2.2) t.heap ∧ va_D A (wX cI (D.1 99) zz g ad u.1 u.2.1 u.2.2)) A)) rfl rfl pn_RX7 (Nat.le_of_ble_eq_true rfl) (fun p e s m below meth c A hx hb hml hown S hr hlocks hnm hA hP hK hD hXS hS ls hl => ?_)
  have hl : lv_has ls 3 [(0, .ref (g 8)), (1, .int v0), (2, .int v1)] := hl
  have hb_cn : Hid (CBX cn) := hB
  replace hB : CBXh cn := hB
  refine lv_aload_n hx hb (oc_42 0 shX7_change_0) rfl (lvA0 hl) ?_
  refine gf_RX7_45 S hK hP 6 xo_6 (v := .ref (g 29)) rfl (oc_180 1 (aq_1 shX7_change_0) uw_0_45) ?_
  refine lv_iload_n hx hb (oc_27 4 (aq_4 shX7_change_0)) rfl (lvA1 hl) ?_
  refine lv_aload_n hx hb (oc_42 5 (aq_5 shX7_change_0)) rfl (lvA0 hl) ?_
  refine gf_RX7_45 S hK hP 6 xo_6 (v := .ref (g 29)) rfl (oc_180 6 (aq_6 shX7_change_0) uw_0_45) ?_
  refine lv_iload_n hx hb (oc_27 9 (aq_9 shX7_change_0)) rfl (lvA1 hl) ?_
  refine vp_callSi (runS_r (As := [.ref (g 29), .int v0]) (rest := [.int v0, .ref (g 29)]) S (q_l_at l D cI cB cZ (g 29) 400 (Fn 29) v0 (by (first | omega | (have zz0 := Hid.u hb_cn; omega)))) kS_RX7_48 hK hP [16] (one_is xo_16) ⟨Nat.le_of_ble_eq_true rfl, Nat.le_of_ble_eq_true rfl⟩ ⟨Nat.le_of_ble_eq_true rfl, Nat.le_of_ble_eq_true rfl⟩ rfl hl.1 rfl (Nat.le_of_ble_eq_true rfl) (oc_184 10 (aq_10 shX7_change_0) uw_0_48)) (fun r_1 h_2 => ?_)
  subst h_2
  refine lv_iload_n hx hb (oc_28 13 (aq_13 shX7_change_0)) rfl (lvA2 hl) ?_
  refine lv_iadd hx hb (oc_96 14 (aq_14 shX7_change_0)) ?_
  have hFc := va_free (wc := [((g 29), .inl (cI, 400, .inl (Fn 29)))]) hD hS hA [16] (one_im xo_16)
  refine va_callv (runS_w (As := [.ref (g 29), .int v0, .int ((atM (Fn 29) 400 v0) + v1)]) (rest := []) S (q_l_put l D cI cB cZ (g 29) 400 (Fn 29) v0 ((atM (Fn 29) 400 v0) + v1) s.heap.size (by (first | omega | (have zz0 := Hid.u hb_cn; omega)))) kS_RX7_52 hK hP hD [16] (one_is xo_16) (one_im xo_16) rfl ⟨Nat.le_of_ble_eq_true rfl, Nat.le_of_ble_eq_true rfl⟩ ⟨Nat.le_of_ble_eq_true rfl, Nat.le_of_ble_eq_true rfl⟩ rfl hl.1 rfl (Nat.le_of_ble_eq_true rfl) (oc_184 15 (aq_15 shX7_change_0) uw_0_52)) hS (fun q _ h => hFc q h) hFc (fun u_5 t H1 locs ht hvm h_4 hB1 hz1 hk1 hS => ?_)
  obtain ⟨hP1, hD1⟩ := hB1
  rw [ht] at hP1
  obtain ⟨hP, hD⟩ := wset1 hP hD xo_16 hk1 hP1
  obtain rfl : u_5 = (putM (Fn 29) 400 v0 ((atM (Fn 29) 400 v0) + v1)) := h_4
  generalize H1 = H at hP hS ⊢
  have hP : va_P D vwCl (wX cI (D.1 99) zz g ad cn In (va_up Fn 29 (putM (Fn 29) 400 v0 ((atM (Fn 29) 400 v0) + v1)))) H := va_P_eq xsa_16 hP
  have hD : va_D A (wX cI (D.1 99) zz g ad cn In (va_up Fn 29 (putM (Fn 29) 400 v0 ((atM (Fn 29) 400 v0) + v1)))) := va_D_eq xsa_16 hD
  exact W.vret hx hb hr (fun t ht hW => ⟨⟨(cn, In, (va_up Fn 29 (putM (Fn 29) 400 v0 ((atM (Fn 29) 400 v0) + v1)))), rfl, ⟨(show Fr [] [] [29] cn In Fn cn In (va_up Fn 29 (putM (Fn 29) 400 v0 ((atM (Fn 29) 400 v0) + v1))) from Fr.mo (Fr.f 29 (Fr.rf (cn := cn) (In := In) (Fn := Fn))) (sbl rfl) (sbl rfl) (sbl rfl)).2.1, ⟨(by first | trivial | (first | omega | (have zz0 := Hid.u hb_cn; omega)) | (simp only [zd0]; (first | omega | (have zz0 := Hid.u hb_cn; omega)))), (by first | rfl | simp only [zd0] | simp only [zd0, zd1]), (by first | rfl | simp only [zd0] | simp only [zd0, zd1])⟩⟩, by rw [ht]; exact hP, hD⟩, hS.F ht⟩) hS.2.2 (oc_177 18 (aq_18 shX7_change_0))
set_option maxRecDepth 100000 in
set_option maxHeartbeats 4000000 in
theorem q_Xspill (l : Launch) (D : va_G) (cI cB cZ : ClassId) (zz qq vv : Nat) (bt : Nat → Int32) (g : Nat → Nat) (ad : Nat → Nat → Nat) (cn : Nat → Nat) (In : Nat → Int32) (Fn : Nat → Nat → Int32) (v0 v1 : Int32) (sz : Nat) (hB : CBX cn) : Met l yX11_spill (CWS yX11_spill cX11_spill 3 (some .int)) (RM 2 0 0) (PBx [.ref (g 0), .int v0, .int v1] D cI cB cZ zz qq vv bt (wX cI (D.1 99) zz g ad cn In Fn) sz) (va_Qi (fun (r : Int32) (u : (Nat → Nat) × (Nat → Int32) × (Nat → Nat → Int32)) => (fun r c2 I2 F2 => Fr [5] [] [29] cn In Fn c2 I2 F2 ∧ CBX c2 ∧ (True)) r u.1 u.2.1 u.2.2) (fun (u : (Nat → Nat) × (Nat → Int32) × (Nat → Nat → Int32)) (t : State) => va_P D vwCl (wX cI (D.1 99) zz g ad u.1 u.2.1 u.2.2) t.heap ∧ va_D (va_A (wX cI (D.1 99) zz g ad cn In Fn) sz) (wX cI (D.1 99) zz g ad u.1 u.2.1 u.2.2)) (va_A (wX cI (D.1 99) zz g ad cn In Fn) sz)) 0 0 (va_A (wX cI (D.1 99) zz g ad cn In Fn) sz) := by
  refine en_x (fun A => (va_Qi (fun (r : Int32) (u : (Nat → Nat) × (Nat → Int32) × (Nat → Nat → Int32)) => (fun (r : Int32) (c2 : Nat → Nat) (I2 : Nat → Int32) (F2 : Nat → Nat → Int32) => Fr [5] [] [29] cn In Fn c2 I2 F2 ∧ CBX c2 ∧ (True)) r u.1 u.2.1 u.2.2) (fun (u : (Nat → Nat) × (Nat → Int32) × (Nat → Nat → Int32)) (t : State) => va_P D vwCl (wX cI (D.1 99) zz g ad u.1 u.2.1 u.2.2) t.heap ∧ va_D A (wX cI (D.1 99) zz g ad u.1 u.2.1 u.2.2)) A)) rfl rfl pn_RX11 (Nat.le_of_ble_eq_true rfl) (fun p e s m below meth c A hx hb hml hown S hr hlocks hnm hA hP hK hD hXS hS ls hl => ?_)
  have hl : lv_has ls 3 [(0, .ref (g 0)), (1, .int v0), (2, .int v1)] := hl
  have hb_cn : Hid (CBX cn) := hB
  replace hB : CBXh cn := hB
  refine lv_iload_n hx hb (oc_27 0 shX11_spill_0) rfl (lvA1 hl) ?_
  refine lv_iconst (v := 0) hx hb (oc_3 1 (aq_1 shX11_spill_0)) kic_0 ?_
  refine lv_aload_n hx hb (oc_42 2 (aq_2 shX11_spill_0)) rfl (lvA0 hl) ?_
  refine gf_RX11_103 S hK hP 0 xo_0 (v := .int (nI (cn 0))) rfl (oc_180 3 (aq_3 shX11_spill_0) uw_0_103) ?_
  refine vp_callSi (runS_r (As := [.int v0, .int 0, .int (nI (cn 0))]) (rest := []) S (q_l_within l D cI cB cZ v0 0 (nI (cn 0))) kS_RX11_80 hK hP [] rfl ⟨Nat.le_of_ble_eq_true rfl, Nat.le_of_ble_eq_true rfl⟩ ⟨Nat.le_of_ble_eq_true rfl, Nat.le_of_ble_eq_true rfl⟩ rfl hl.1 rfl (Nat.le_of_ble_eq_true rfl) (oc_184 6 (aq_6 shX11_spill_0) uw_0_80)) (fun r_1 h_2 => ?_)
  have : (nI (cn 0)).toInt = (((cn 0) : Nat) : Int) := nI_toInt (by (first | omega | (have zz0 := Hid.u hb_cn; omega)))
  rcases h_2 with ⟨rfl, h_2⟩ | ⟨rfl, h_2⟩
  ·
    have h_2 : 0 ≤ v0.toInt ∧ v0.toInt ≤ (nI (cn 0)).toInt := h_2
    refine lv_if_eq (tgt := 32) hx hb dX11_spill_9 rfl (fun h => absurd h cq_eq_1_0) (fun _ => ?_)
    refine lv_iload_n hx hb (oc_28 12 (aq_12 shX11_spill_0)) rfl (lvA2 hl) ?_
    refine lv_iconst (v := 1) hx hb (oc_4 13 (aq_13 shX11_spill_0)) kic_1 ?_
    refine lv_sipush (v := 400) hx hb (oc_17 14 (aq_14 shX11_spill_0) sgw_1_144) (by decide) ?_
    refine vp_callSi (runS_r (As := [.int v1, .int 1, .int 400]) (rest := []) S (q_l_within l D cI cB cZ v1 1 400) kS_RX11_80 hK hP [] rfl ⟨Nat.le_of_ble_eq_true rfl, Nat.le_of_ble_eq_true rfl⟩ ⟨Nat.le_of_ble_eq_true rfl, Nat.le_of_ble_eq_true rfl⟩ rfl hl.1 rfl (Nat.le_of_ble_eq_true rfl) (oc_184 17 (aq_17 shX11_spill_0) uw_0_80)) (fun r_3 h_4 => ?_)
    rcases h_4 with ⟨rfl, h_4⟩ | ⟨rfl, h_4⟩
    ·
      have h_4 : 1 ≤ v1.toInt ∧ v1.toInt ≤ 400 := h_4
      refine lv_if_eq (tgt := 32) hx hb dX11_spill_20 rfl (fun h => absurd h cq_eq_1_0) (fun _ => ?_)
      refine lv_aload_n hx hb (oc_42 23 (aq_23 shX11_spill_0)) rfl (lvA0 hl) ?_
      refine gf_RX11_517 S hK hP 0 xo_0 (v := .int (nI (cn 5))) rfl (oc_180 24 shX11_spill_24 uw_2_5) ?_
      refine lv_bipush (v := 40) hx hb (oc_16 27 (aq_3 shX11_spill_24) sgb_40) kbc_40 ?_
      have : (nI (cn 5)).toInt = (((cn 5) : Nat) : Int) := nI_toInt (by (first | omega | (have zz0 := Hid.u hb_cn; omega)))
      refine lv_icmp_lt (tgt := 34) hx hb (oc_161 29 (aq_5 shX11_spill_24) sgw_0_5) rfl (fun c_5 => ?_) (fun c_5 => ?_)
      ·
        have tc_5 : ((nI (cn 5)).toInt : Int) < 40 := Int32.lt_iff_toInt_lt.mp c_5
        refine lv_aload_n hx hb (oc_42 34 (aq_10 shX11_spill_24)) rfl (lvA0 hl) ?_
        refine gf_RX11_47 S hK hP 0 xo_0 (v := .ref (g 8)) rfl (oc_180 35 (aq_11 shX11_spill_24) uw_0_47) ?_
        refine lv_iload_n hx hb (oc_27 38 (aq_14 shX11_spill_24)) rfl (lvA1 hl) ?_
        refine lv_iload_n hx hb (oc_28 39 (aq_15 shX11_spill_24)) rfl (lvA2 hl) ?_
        refine lv_ineg hx hb (oc_116 40 (aq_16 shX11_spill_24)) ?_
        have hFc := free_all hD hS hA
        refine va_callv (runV_xa (As := [.int v0, .int (-v1)]) (rest := []) S (q_Xchange l D cI cB cZ zz qq vv bt g ad cn In Fn v0 (-v1) s.heap.size hB) kV_RX11_144 hK hXS hS hFc hP hD 6 xo_6 rfl rfl ⟨Nat.le_of_ble_eq_true rfl, Nat.le_of_ble_eq_true rfl⟩ ⟨Nat.le_of_ble_eq_true rfl, Nat.le_of_ble_eq_true rfl⟩ rfl hl.1 rfl (Nat.le_of_ble_eq_true rfl) (oc_182 41 (aq_17 shX11_spill_24) uw_0_144)) hS (fun q _ h => hFc q h) hFc (fun u t H1 locs ht hvm wh_7 hB1 hz1 hk1 hS => ?_)
        obtain ⟨cn7, In7, Fn7⟩ := u
        obtain ⟨hP1, hD1⟩ := hB1
        rw [ht] at hP1
        have vh_7 : (fun c2 I2 F2 => (∀ k : Nat, k ∉ [] → I2 k = In k) ∧ (((True) ∧ cn = c2 ∧ (va_up Fn 29 (putM ((Fn 29)) 400 v0 (atM ((Fn 29)) 400 v0 + (-v1)))) = F2))) cn7 In7 Fn7 := wh_7
        obtain ⟨hI7_, vh_7⟩ := vh_7
        obtain ⟨h_7, rfl, rfl⟩ := vh_7
        obtain rfl : In = In7 := (funext (fun k => hI7_ k List.not_mem_nil)).symm
        have hP : va_P D vwCl (wX cI (D.1 99) zz g ad cn In (va_up Fn 29 (putM ((Fn 29)) 400 v0 (atM ((Fn 29)) 400 v0 + (-v1))))) H1 := hP1
        have hD : va_D A (wX cI (D.1 99) zz g ad cn In (va_up Fn 29 (putM ((Fn 29)) 400 v0 (atM ((Fn 29)) 400 v0 + (-v1))))) := hD1.weaken (fun _ _ _ h => hFc _ h)
        generalize H1 = H at hP hS ⊢
        refine lv_aload_n hx hb (oc_42 44 (aq_20 shX11_spill_24)) rfl (lvA0 hl) ?_
        refine lv_dup hx hb (oc_89 45 (aq_21 shX11_spill_24)) rfl ?_
        refine gf_RX11_517 S hK hP 0 xo_0 (v := .int (nI (cn 5))) rfl (oc_180 46 (aq_22 shX11_spill_24) uw_2_5) ?_
        refine lv_iconst (v := 1) hx hb (oc_4 49 shX11_spill_49) kic_1 ?_
        refine lv_iadd hx hb (oc_96 50 (aq_1 shX11_spill_49)) ?_
        refine lv_topi (fun y_8 ey_8 => ?_)
        obtain rfl : y_8 = (nI ((cn 5) + 1)) := ey_8.trans (nI_add (cn 5) 1)
        refine pf_RX11_517 S hK hP hD hS 0 xo_0 (v := .int (nI ((cn 5) + 1))) (Nat.le_of_ble_eq_true rfl) rfl rfl (oc_181 51 (aq_2 shX11_spill_49) uw_2_5) (fun H locs hP hD hS => ?_)
        have hP : va_P D vwCl (wX cI (D.1 99) zz g ad (va_up cn 5 ((cn 5) + 1)) In (va_up Fn 29 (putM ((Fn 29)) 400 v0 (atM ((Fn 29)) 400 v0 + (-v1))))) H := va_P_eq (xsf_0_3) hP
        have hD : va_D A (wX cI (D.1 99) zz g ad (va_up cn 5 ((cn 5) + 1)) In (va_up Fn 29 (putM ((Fn 29)) 400 v0 (atM ((Fn 29)) 400 v0 + (-v1))))) := va_D_eq (xsf_0_3) hD
        refine lv_aload_n hx hb (oc_42 54 (aq_5 shX11_spill_49)) rfl (lvA0 hl) ?_
        refine gf_RX11_517 S hK hP 0 xo_0 (v := .int (nI ((cn 5) + 1))) rfl (oc_180 55 (aq_6 shX11_spill_49) uw_2_5) ?_
        exact W.iret (v := (nI ((cn 5) + 1))) hx hb hr (fun t ht hW => ⟨⟨(nI ((cn 5) + 1)), ((va_up cn 5 ((cn 5) + 1)), In, (va_up Fn 29 (putM ((Fn 29)) 400 v0 (atM ((Fn 29)) 400 v0 + (-v1))))), rfl, ⟨(Fr.mo (Fr.f 29 (Fr.c 5 Fr.rf)) (sbl rfl) (sbl rfl) (sbl rfl)), (CBX.u5 (v := ((cn 5) + 1)) hB (show ((cn 5) + 1) ≤ 40 by (first | omega | (have zz0 := Hid.u hb_cn; omega)))), trivial⟩, by rw [ht]; exact hP, hD⟩, hS.F ht⟩) hS.2.2 (oc_172 58 (aq_9 shX11_spill_49))
      ·
        have tc_5 : (40 : Int) ≤ (nI (cn 5)).toInt := Int32.le_iff_toInt_le.mp (Int32.not_lt.mp c_5)
        refine lv_iconst (v := (-1)) hx hb dX11_spill_32 kic_m1 ?_
        exact W.iret (v := (-1)) hx hb hr (fun t ht hW => ⟨⟨(-1), (cn, In, Fn), rfl, ⟨(Fr.mo Fr.rf (sbl rfl) (sbl rfl) (sbl rfl)), hB, trivial⟩, by rw [ht]; exact hP, hD⟩, hS.F ht⟩) hS.2.2 dX11_spill_33
    ·
      have h_4 : ¬ (1 ≤ v1.toInt ∧ v1.toInt ≤ 400) := h_4
      refine lv_if_eq (tgt := 32) hx hb dX11_spill_20 rfl (fun _ => ?_) (fun h => absurd h cq_eq_0_0)
      refine lv_iconst (v := (-1)) hx hb dX11_spill_32 kic_m1 ?_
      exact W.iret (v := (-1)) hx hb hr (fun t ht hW => ⟨⟨(-1), (cn, In, Fn), rfl, ⟨(Fr.mo Fr.rf (sbl rfl) (sbl rfl) (sbl rfl)), hB, trivial⟩, by rw [ht]; exact hP, hD⟩, hS.F ht⟩) hS.2.2 dX11_spill_33
  ·
    have h_2 : ¬ (0 ≤ v0.toInt ∧ v0.toInt ≤ (nI (cn 0)).toInt) := h_2
    refine lv_if_eq (tgt := 32) hx hb dX11_spill_9 rfl (fun _ => ?_) (fun h => absurd h cq_eq_0_0)
    refine lv_iconst (v := (-1)) hx hb dX11_spill_32 kic_m1 ?_
    exact W.iret (v := (-1)) hx hb hr (fun t ht hW => ⟨⟨(-1), (cn, In, Fn), rfl, ⟨(Fr.mo Fr.rf (sbl rfl) (sbl rfl) (sbl rfl)), hB, trivial⟩, by rw [ht]; exact hP, hD⟩, hS.F ht⟩) hS.2.2 dX11_spill_33
set_option maxRecDepth 100000 in
set_option maxHeartbeats 4000000 in
theorem q_Xstock (l : Launch) (D : va_G) (cI cB cZ : ClassId) (zz qq vv : Nat) (bt : Nat → Int32) (g : Nat → Nat) (ad : Nat → Nat → Nat) (cn : Nat → Nat) (In : Nat → Int32) (Fn : Nat → Nat → Int32) (v0 : Int32) (hB : CBX cn) : Met l yX11_stock (CWS yX11_stock cX11_stock 4 (some .int)) (RM 2 0 0) (PBrx [.ref (g 0), .int v0] D cI cB cZ zz qq vv bt (wX cI (D.1 99) zz g ad cn In Fn)) (vp_Si (fun _ => True)) 0 0 (fun _ => False) := by
  refine en_rx rfl pn_RX11 (Nat.le_of_ble_eq_true rfl) (fun p e s m below meth c hx hb hml hown S hr hlocks hnm hP hK hXS hS ls hl => ?_)
  have hl : lv_has ls 4 [(0, .ref (g 0)), (1, .int v0)] := hl
  have hb_cn : Hid (CBX cn) := hB
  replace hB : CBXh cn := hB
  refine lv_iload_n hx hb (oc_27 0 shX11_stock_0) rfl (lvA1 hl) ?_
  refine vp_callSi (runS_r (As := [.int v0]) (rest := []) S (q_l_isDay l D cI cB cZ v0) kS_RX11_99 hK hP [] rfl ⟨Nat.le_of_ble_eq_true rfl, Nat.le_of_ble_eq_true rfl⟩ ⟨Nat.le_of_ble_eq_true rfl, Nat.le_of_ble_eq_true rfl⟩ rfl hl.1 rfl (Nat.le_of_ble_eq_true rfl) (oc_184 1 (aq_1 shX11_stock_0) uw_0_99)) (fun r_1 h_2 => ?_)
  rcases h_2 with ⟨rfl, h_2⟩ | ⟨rfl, h_2⟩
  ·
    have h_2 : 0 ≤ v0.toInt ∧ v0.toInt ≤ 399 := h_2
    refine lv_if_ne (tgt := 11) hx hb (oc_154 4 (aq_4 shX11_stock_0) sgw_0_7) rfl (fun _ => ?_) (fun h => absurd h cq_eq_1_0)
    obtain ⟨d0, hd0, rfl⟩ := nI_of (x := v0) (fun q => by have := Int32.lt_iff_toInt_lt.mp q; have e : (0 : Int32).toInt = 0 := rfl; (first | omega | (have zz0 := Hid.u hb_cn; omega)))
    have td0 : (nI d0).toInt = (d0 : Int) := nI_toInt hd0
    have zd0 : (nI d0).toInt.toNat = d0 := by (first | omega | (have zz0 := Hid.u hb_cn; omega))
    refine lv_iconst (v := 0) hx hb (oc_3 11 (aq_11 shX11_stock_0)) kic_0 ?_
    refine lv_istore_n (lv' := [(2, .int 0), (0, .ref (g 0)), (1, .int (nI d0))]) hx hb (oc_61 12 (aq_12 shX11_stock_0)) rfl hl (ltb rfl) rfl (fun ls hl => ?_)
    refine lv_iconst (v := 0) hx hb (oc_3 13 (aq_13 shX11_stock_0)) kic_0 ?_
    refine lv_istore_n (lv' := [(3, .int 0), (2, .int 0), (0, .ref (g 0)), (1, .int (nI d0))]) hx hb (oc_62 14 (aq_14 shX11_stock_0)) rfl hl (ltb rfl) rfl (fun ls hl => ?_)
    have lp_15 : ∀ (n : Nat) (i15 : Nat) (x15_2 : Int32) , d0 + 1 - i15 < n → (i15 ≤ d0 + 1) → ∀ ls : Array Slot, lv_has ls 4 [(3, .int (nI i15)), (2, .int x15_2), (0, .ref (g 0)), (1, .int (nI d0))] → W p l e (RM 2 0 0) s m ([.ref (g 0), .int (nI d0)]).toArray below meth c s.heap [] 0 0 (MQ below (vp_Si (fun _ => True)) ([.ref (g 0), .int (nI d0)]).toArray s 0 0 (fun _ => False)) (F0 m 15 ls []) := by
      intro n15
      induction n15 with
      | zero => intros; (first | omega | (have zz0 := Hid.u hb_cn; omega))
      | succ n15 ih15 =>
        intro i15 x15_2 hmu15 hinv15 ls hl
        have hr15 := hinv15
        have ti15 : (nI i15).toInt = (i15 : Int) := nI_toInt (by (first | omega | (have zz0 := Hid.u hb_cn; omega)))
        refine lv_iload_n hx hb (oc_29 15 (aq_15 shX11_stock_0)) rfl (lvA0 hl) ?_
        refine lv_iload_n hx hb (oc_27 16 (aq_16 shX11_stock_0)) rfl (lvA3 hl) ?_
        refine lv_icmp_gt (tgt := 40) hx hb (oc_163 17 (aq_17 shX11_stock_0) sgw_0_23) rfl (fun c_3 => ?_) (fun c_3 => ?_)
        ·
          have tc_3 : ((nI d0).toInt : Int) < (nI i15).toInt := Int32.lt_iff_toInt_lt.mp c_3
          refine lv_iload_n hx hb (oc_28 40 (aq_15 shX11_stock_25)) rfl (lvA1 hl) ?_
          exact W.iret (v := x15_2) hx hb hr (fun t ht hW => ⟨x15_2, rfl, trivial, ht⟩) (fun _ h => absurd h List.not_mem_nil) (oc_172 41 (aq_16 shX11_stock_25))
        ·
          have tc_3 : ((nI i15).toInt : Int) ≤ (nI d0).toInt := Int32.le_iff_toInt_le.mp (Int32.not_lt.mp c_3)
          refine lv_iload_n hx hb (oc_28 20 (aq_20 shX11_stock_0)) rfl (lvA1 hl) ?_
          refine lv_aload_n hx hb (oc_42 21 (aq_21 shX11_stock_0)) rfl (lvA2 hl) ?_
          refine gf_RX11_47 S hK hP 0 xo_0 (v := .ref (g 8)) rfl (oc_180 22 (aq_22 shX11_stock_0) uw_0_47) ?_
          refine gf_RX11_520 S hK hP 6 xo_6 (v := .ref (g 29)) rfl (oc_180 25 shX11_stock_25 uw_2_8) ?_
          refine lv_iload_n hx hb (oc_29 28 (aq_3 shX11_stock_25)) rfl (lvA0 hl) ?_
          refine vp_callSi (runS_r (As := [.ref (g 29), .int (nI i15)]) (rest := [.int x15_2]) S (q_l_at l D cI cB cZ (g 29) 400 (Fn 29) (nI i15) (by (first | omega | (have zz0 := Hid.u hb_cn; omega)))) kS_RX11_192 hK hP [16] (one_is xo_16) ⟨Nat.le_of_ble_eq_true rfl, Nat.le_of_ble_eq_true rfl⟩ ⟨Nat.le_of_ble_eq_true rfl, Nat.le_of_ble_eq_true rfl⟩ rfl hl.1 rfl (Nat.le_of_ble_eq_true rfl) (oc_184 29 (aq_4 shX11_stock_25) uw_0_192)) (fun r_4 h_5 => ?_)
          subst h_5
          refine lv_iadd hx hb (oc_96 32 (aq_7 shX11_stock_25)) ?_
          refine lv_istore_n (lv' := [(2, .int (x15_2 + (atM (Fn 29) 400 (nI i15)))), (3, .int (nI i15)), (0, .ref (g 0)), (1, .int (nI d0))]) hx hb (oc_61 33 (aq_8 shX11_stock_25)) rfl hl (ltb rfl) rfl (fun ls hl => ?_)
          refine lv_iinc (v := (nI (i15 + 1))) (lv' := [(3, .int (nI (i15 + 1))), (2, .int (x15_2 + (atM (Fn 29) 400 (nI i15)))), (0, .ref (g 0)), (1, .int (nI d0))]) hx hb (oc_132 34 (aq_9 shX11_stock_25) ub_3 sgb_1) hl (k := 1) rfl (nI_1 _) (ltb rfl) rfl (fun ls hl => ?_)
          refine lv_goto (tgt := 15) hx hb (oc_167 37 (aq_12 shX11_stock_25) sgw_255_234) rfl ?_
          exact ih15 (i15 + 1) (x15_2 + (atM (Fn 29) 400 (nI i15))) (by (first | omega | (have zz0 := Hid.u hb_cn; omega))) (by (first | omega | (have zz0 := Hid.u hb_cn; omega))) ls (lv_sub hl [0, 1, 2, 3] rfl)
    exact lp_15 _ 0 0 (Nat.lt_succ_self _) (by (first | omega | (have zz0 := Hid.u hb_cn; omega))) ls (lv_sub hl [0, 1, 2, 3] rfl)
  ·
    have h_2 : ¬ (0 ≤ v0.toInt ∧ v0.toInt ≤ 399) := h_2
    refine lv_if_ne (tgt := 11) hx hb (oc_154 4 (aq_4 shX11_stock_0) sgw_0_7) rfl (fun h => absurd h cq_eq_0_0) (fun _ => ?_)
    refine lv_ldcw (v := (-1000000)) hx hb hown (S.2.2.2.2 _ (wk5_15 4 rfl rfl)) (oc_19 7 (aq_7 shX11_stock_0) uw_1_207) ?_
    exact W.iret (v := (-1000000)) hx hb hr (fun t ht hW => ⟨(-1000000), rfl, trivial, ht⟩) (fun _ h => absurd h List.not_mem_nil) (oc_172 10 (aq_10 shX11_stock_0))
set_option maxRecDepth 100000 in
set_option maxHeartbeats 4000000 in
theorem q_Xbelow (l : Launch) (D : va_G) (cI cB cZ : ClassId) (zz qq vv : Nat) (bt : Nat → Int32) (g : Nat → Nat) (ad : Nat → Nat → Nat) (cn : Nat → Nat) (In : Nat → Int32) (Fn : Nat → Nat → Int32) (v0 : Int32) (hB : CBX cn) : Met l yX11_below (CWS yX11_below cX11_below 4 (some .int)) (RM 2 0 0) (PBrx [.ref (g 0), .int v0] D cI cB cZ zz qq vv bt (wX cI (D.1 99) zz g ad cn In Fn)) (vp_Si (fun _ => True)) 0 0 (fun _ => False) := by
  refine en_rx rfl pn_RX11 (Nat.le_of_ble_eq_true rfl) (fun p e s m below meth c hx hb hml hown S hr hlocks hnm hP hK hXS hS ls hl => ?_)
  have hl : lv_has ls 4 [(0, .ref (g 0)), (1, .int v0)] := hl
  have hb_cn : Hid (CBX cn) := hB
  replace hB : CBXh cn := hB
  refine lv_iload_n hx hb (oc_27 0 shX11_below_0) rfl (lvA1 hl) ?_
  refine lv_sipush (v := (-10000)) hx hb (oc_17 1 (aq_1 shX11_below_0) sgw_216_240) (by decide) ?_
  refine lv_sipush (v := 10000) hx hb (oc_17 4 (aq_4 shX11_below_0) sgw_39_16) (by decide) ?_
  refine vp_callSi (runS_r (As := [.int v0, .int (-10000), .int 10000]) (rest := []) S (q_l_within l D cI cB cZ v0 (-10000) 10000) kS_RX11_80 hK hP [] rfl ⟨Nat.le_of_ble_eq_true rfl, Nat.le_of_ble_eq_true rfl⟩ ⟨Nat.le_of_ble_eq_true rfl, Nat.le_of_ble_eq_true rfl⟩ rfl hl.1 rfl (Nat.le_of_ble_eq_true rfl) (oc_184 7 (aq_7 shX11_below_0) uw_0_80)) (fun r_1 h_2 => ?_)
  rcases h_2 with ⟨rfl, h_2⟩ | ⟨rfl, h_2⟩
  ·
    have h_2 : (-10000) ≤ v0.toInt ∧ v0.toInt ≤ 10000 := h_2
    refine lv_if_ne (tgt := 15) hx hb (oc_154 10 (aq_10 shX11_below_0) sgw_0_5) rfl (fun _ => ?_) (fun h => absurd h cq_eq_1_0)
    refine lv_iconst (v := 0) hx hb (oc_3 15 (aq_15 shX11_below_0)) kic_0 ?_
    refine lv_istore_n (lv' := [(2, .int 0), (0, .ref (g 0)), (1, .int v0)]) hx hb (oc_61 16 (aq_16 shX11_below_0)) rfl hl (ltb rfl) rfl (fun ls hl => ?_)
    refine lv_iconst (v := 0) hx hb (oc_3 17 (aq_17 shX11_below_0)) kic_0 ?_
    refine lv_istore_n (lv' := [(3, .int 0), (2, .int 0), (0, .ref (g 0)), (1, .int v0)]) hx hb (oc_62 18 (aq_18 shX11_below_0)) rfl hl (ltb rfl) rfl (fun ls hl => ?_)
    have lp_19 : ∀ (n : Nat) (i19 : Nat) (x19_2 : Int32) , cn 0 + 1 - i19 < n → (i19 ≤ cn 0 + 1) → ∀ ls : Array Slot, lv_has ls 4 [(3, .int (nI i19)), (2, .int x19_2), (0, .ref (g 0)), (1, .int v0)] → W p l e (RM 2 0 0) s m ([.ref (g 0), .int v0]).toArray below meth c s.heap [] 0 0 (MQ below (vp_Si (fun _ => True)) ([.ref (g 0), .int v0]).toArray s 0 0 (fun _ => False)) (F0 m 19 ls []) := by
      intro n19
      induction n19 with
      | zero => intros; (first | omega | (have zz0 := Hid.u hb_cn; omega))
      | succ n19 ih19 =>
        intro i19 x19_2 hmu19 hinv19 ls hl
        have hr19 := hinv19
        have ti19 : (nI i19).toInt = (i19 : Int) := nI_toInt (by (first | omega | (have zz0 := Hid.u hb_cn; omega)))
        refine lv_iload_n hx hb (oc_29 19 (aq_19 shX11_below_0)) rfl (lvA0 hl) ?_
        refine lv_aload_n hx hb (oc_42 20 (aq_20 shX11_below_0)) rfl (lvA2 hl) ?_
        refine gf_RX11_103 S hK hP 0 xo_0 (v := .int (nI (cn 0))) rfl (oc_180 21 (aq_21 shX11_below_0) uw_0_103) ?_
        have : (nI (cn 0)).toInt = (((cn 0) : Nat) : Int) := nI_toInt (by (first | omega | (have zz0 := Hid.u hb_cn; omega)))
        refine lv_icmp_gt (tgt := 54) hx hb (oc_163 24 shX11_below_24 sgw_0_30) rfl (fun c_3 => ?_) (fun c_3 => ?_)
        ·
          have tc_3 : ((nI (cn 0)).toInt : Int) < (nI i19).toInt := Int32.lt_iff_toInt_lt.mp c_3
          refine lv_bipush (v := (-2)) hx hb (oc_16 54 (aq_6 shX11_below_48) sgb_254) kbc_m2 ?_
          exact W.iret (v := (-2)) hx hb hr (fun t ht hW => ⟨(-2), rfl, trivial, ht⟩) (fun _ h => absurd h List.not_mem_nil) (oc_172 56 (aq_8 shX11_below_48))
        ·
          have tc_3 : ((nI i19).toInt : Int) ≤ (nI (cn 0)).toInt := Int32.le_iff_toInt_le.mp (Int32.not_lt.mp c_3)
          refine lv_iload_n hx hb (oc_28 27 (aq_3 shX11_below_24)) rfl (lvA1 hl) ?_
          refine lv_aload_n hx hb (oc_42 28 (aq_4 shX11_below_24)) rfl (lvA2 hl) ?_
          refine gf_RX11_47 S hK hP 0 xo_0 (v := .ref (g 8)) rfl (oc_180 29 (aq_5 shX11_below_24) uw_0_47) ?_
          refine gf_RX11_520 S hK hP 6 xo_6 (v := .ref (g 29)) rfl (oc_180 32 (aq_8 shX11_below_24) uw_2_8) ?_
          refine lv_iload_n hx hb (oc_29 35 (aq_11 shX11_below_24)) rfl (lvA0 hl) ?_
          refine vp_callSi (runS_r (As := [.ref (g 29), .int (nI i19)]) (rest := [.int x19_2]) S (q_l_at l D cI cB cZ (g 29) 400 (Fn 29) (nI i19) (by (first | omega | (have zz0 := Hid.u hb_cn; omega)))) kS_RX11_192 hK hP [16] (one_is xo_16) ⟨Nat.le_of_ble_eq_true rfl, Nat.le_of_ble_eq_true rfl⟩ ⟨Nat.le_of_ble_eq_true rfl, Nat.le_of_ble_eq_true rfl⟩ rfl hl.1 rfl (Nat.le_of_ble_eq_true rfl) (oc_184 36 (aq_12 shX11_below_24) uw_0_192)) (fun r_4 h_5 => ?_)
          subst h_5
          refine lv_iadd hx hb (oc_96 39 (aq_15 shX11_below_24)) ?_
          refine lv_istore_n (lv' := [(2, .int (x19_2 + (atM (Fn 29) 400 (nI i19)))), (3, .int (nI i19)), (0, .ref (g 0)), (1, .int v0)]) hx hb (oc_61 40 (aq_16 shX11_below_24)) rfl hl (ltb rfl) rfl (fun ls hl => ?_)
          refine lv_iload_n hx hb (oc_28 41 (aq_17 shX11_below_24)) rfl (lvA0 hl) ?_
          refine lv_iload_n hx hb (oc_27 42 (aq_18 shX11_below_24)) rfl (lvA3 hl) ?_
          refine lv_icmp_ge (tgt := 48) hx hb (oc_162 43 (aq_19 shX11_below_24) sgw_0_5) rfl (fun c_6 => ?_) (fun c_6 => ?_)
          ·
            have tc_6 : (v0.toInt : Int) ≤ (x19_2 + (atM (Fn 29) 400 (nI i19))).toInt := Int32.le_iff_toInt_le.mp c_6
            refine lv_iinc (v := (nI (i19 + 1))) (lv' := [(3, .int (nI (i19 + 1))), (2, .int (x19_2 + (atM (Fn 29) 400 (nI i19)))), (0, .ref (g 0)), (1, .int v0)]) hx hb (oc_132 48 shX11_below_48 ub_3 sgb_1) hl (k := 1) rfl (nI_1 _) (ltb rfl) rfl (fun ls hl => ?_)
            refine lv_goto (tgt := 19) hx hb (oc_167 51 (aq_3 shX11_below_48) sgw_255_224) rfl ?_
            exact ih19 (i19 + 1) (x19_2 + (atM (Fn 29) 400 (nI i19))) (by (first | omega | (have zz0 := Hid.u hb_cn; omega))) (by (first | omega | (have zz0 := Hid.u hb_cn; omega))) ls (lv_sub hl [0, 1, 2, 3] rfl)
          ·
            have tc_6 : ((x19_2 + (atM (Fn 29) 400 (nI i19))).toInt : Int) < v0.toInt := Int32.lt_iff_toInt_lt.mp (Int32.not_le.mp c_6)
            refine lv_iload_n hx hb (oc_29 46 (aq_22 shX11_below_24)) rfl (lvA1 hl) ?_
            exact W.iret (v := (nI i19)) hx hb hr (fun t ht hW => ⟨(nI i19), rfl, trivial, ht⟩) (fun _ h => absurd h List.not_mem_nil) (oc_172 47 (aq_23 shX11_below_24))
    exact lp_19 _ 0 0 (Nat.lt_succ_self _) (by (first | omega | (have zz0 := Hid.u hb_cn; omega))) ls (lv_sub hl [0, 1, 2, 3] rfl)
  ·
    have h_2 : ¬ ((-10000) ≤ v0.toInt ∧ v0.toInt ≤ 10000) := h_2
    refine lv_if_ne (tgt := 15) hx hb (oc_154 10 (aq_10 shX11_below_0) sgw_0_5) rfl (fun h => absurd h cq_eq_0_0) (fun _ => ?_)
    refine lv_iconst (v := (-1)) hx hb (oc_2 13 (aq_13 shX11_below_0)) kic_m1 ?_
    exact W.iret (v := (-1)) hx hb hr (fun t ht hW => ⟨(-1), rfl, trivial, ht⟩) (fun _ h => absurd h List.not_mem_nil) (oc_172 14 (aq_14 shX11_below_0))
set_option maxRecDepth 100000 in
set_option maxHeartbeats 4000000 in
theorem q_Xlength (l : Launch) (D : va_G) (cI cB cZ : ClassId) (zz qq vv : Nat) (bt : Nat → Int32) (g : Nat → Nat) (ad : Nat → Nat → Nat) (cn : Nat → Nat) (In : Nat → Int32) (Fn : Nat → Nat → Int32)  (hB : CBX cn) : Met l yX8_length (CWS yX8_length cX8_length 1 (some .int)) (RM 0 0 0) (PBrx [.ref (g 5)] D cI cB cZ zz qq vv bt (wX cI (D.1 99) zz g ad cn In Fn)) (vp_Si (fun r => r = nI (cn 3))) 0 0 (fun _ => False) := by
  refine en_rx rfl pn_RX8 (Nat.le_of_ble_eq_true rfl) (fun p e s m below meth c hx hb hml hown S hr hlocks hnm hP hK hXS hS ls hl => ?_)
  have hl : lv_has ls 1 [(0, .ref (g 5))] := hl
  have hb_cn : Hid (CBX cn) := hB
  replace hB : CBXh cn := hB
  refine lv_aload_n hx hb (oc_42 0 shX8_length_0) rfl (lvA0 hl) ?_
  refine gf_RX8_13 S hK hP 1 xo_1 (v := .int (nI (cn 3))) rfl (oc_180 1 (aq_1 shX8_length_0) uw_0_13) ?_
  exact W.iret (v := (nI (cn 3))) hx hb hr (fun t ht hW => ⟨(nI (cn 3)), rfl, rfl, ht⟩) (fun _ h => absurd h List.not_mem_nil) (oc_172 4 (aq_4 shX8_length_0))
set_option maxRecDepth 100000 in
set_option maxHeartbeats 4000000 in
theorem q_Xtadd (l : Launch) (D : va_G) (cI cB cZ : ClassId) (zz qq vv : Nat) (bt : Nat → Int32) (g : Nat → Nat) (ad : Nat → Nat → Nat) (cn : Nat → Nat) (In : Nat → Int32) (Fn : Nat → Nat → Int32) (v0 : Int32) (sz : Nat) (hB : CBX cn) (h4 : cn 3 + 4 ≤ 200) : Met l yX8_add (CWS yX8_add cX8_add 3 none) (RM 1 0 0) (PBx [.ref (g 5), .int v0] D cI cB cZ zz qq vv bt (wX cI (D.1 99) zz g ad cn In Fn) sz) (va_Qv (fun (u : (Nat → Nat) × (Nat → Int32) × (Nat → Nat → Int32)) => (fun c2 I2 F2 => Fr [3] [] [40] cn In Fn c2 I2 F2 ∧ CBX c2 ∧ (c2 3 = cn 3 + 4)) u.1 u.2.1 u.2.2) (fun (u : (Nat → Nat) × (Nat → Int32) × (Nat → Nat → Int32)) (t : State) => va_P D vwCl (wX cI (D.1 99) zz g ad u.1 u.2.1 u.2.2) t.heap ∧ va_D (va_A (wX cI (D.1 99) zz g ad cn In Fn) sz) (wX cI (D.1 99) zz g ad u.1 u.2.1 u.2.2)) (va_A (wX cI (D.1 99) zz g ad cn In Fn) sz)) 0 0 (va_A (wX cI (D.1 99) zz g ad cn In Fn) sz) := by
  refine en_x (fun A => (va_Qv (fun (u : (Nat → Nat) × (Nat → Int32) × (Nat → Nat → Int32)) => (fun (c2 : Nat → Nat) (I2 : Nat → Int32) (F2 : Nat → Nat → Int32) => Fr [3] [] [40] cn In Fn c2 I2 F2 ∧ CBX c2 ∧ (c2 3 = cn 3 + 4)) u.1 u.2.1 u.2.2) (fun (u : (Nat → Nat) × (Nat → Int32) × (Nat → Nat → Int32)) (t : State) => va_P D vwCl (wX cI (D.1 99) zz g ad u.1 u.2.1 u.2.2) t.heap ∧ va_D A (wX cI (D.1 99) zz g ad u.1 u.2.1 u.2.2)) A)) rfl rfl pn_RX8 (Nat.le_of_ble_eq_true rfl) (fun p e s m below meth c A hx hb hml hown S hr hlocks hnm hA hP hK hD hXS hS ls hl => ?_)
  have hl : lv_has ls 3 [(0, .ref (g 5)), (1, .int v0)] := hl
  have hb_cn : Hid (CBX cn) := hB
  replace hB : CBXh cn := hB
  refine lv_bipush (v := 24) hx hb (oc_16 0 shX8_add_0 sgb_24) kbc_24 ?_
  refine lv_istore_n (lv' := [(2, .int 24), (0, .ref (g 5)), (1, .int v0)]) hx hb (oc_61 2 (aq_2 shX8_add_0)) rfl hl (ltb rfl) rfl (fun ls hl => ?_)
  refine lv_iload_n hx hb dX8_add_3 rfl (lvA0 hl) ?_
  refine lv_if_lt (tgt := 47) hx hb dX8_add_4 rfl (fun h => absurd h cq_lt_24_0) (fun _ => ?_)
  refine lv_aload_n hx hb dX8_add_7 rfl (lvA1 hl) ?_
  refine gf_RX8_9 S hK hP 1 xo_1 (v := .ref (g 40)) rfl dX8_add_8 ?_
  refine lv_aload_n hx hb dX8_add_11 rfl (lvA1 hl) ?_
  refine gf_RX8_13 S hK hP 1 xo_1 (v := .int (nI (cn 3))) rfl dX8_add_12 ?_
  refine lv_iload_n hx hb dX8_add_15 rfl (lvA2 hl) ?_
  refine lv_iload_n hx hb dX8_add_16 rfl (lvA0 hl) ?_
  refine lv_ishr hx hb dX8_add_17 ?_
  refine lv_sipush (v := 255) hx hb dX8_add_18 (by decide) ?_
  refine lv_iand hx hb dX8_add_21 ?_
  have hFc := va_free (wc := [((g 40), .inl (cI, 200, .inl (Fn 40)))]) hD hS hA [2] (one_im xo_2)
  refine va_callv (runS_w (As := [.ref (g 40), .int (nI (cn 3)), .int ((v0 >>> (24 &&& 31)) &&& 255)]) (rest := []) S (q_l_put l D cI cB cZ (g 40) 200 (Fn 40) (nI (cn 3)) ((v0 >>> (24 &&& 31)) &&& 255) s.heap.size (by (first | omega | (have zz0 := Hid.u hb_cn; omega)))) kS_RX8_17 hK hP hD [2] (one_is xo_2) (one_im xo_2) rfl ⟨Nat.le_of_ble_eq_true rfl, Nat.le_of_ble_eq_true rfl⟩ ⟨Nat.le_of_ble_eq_true rfl, Nat.le_of_ble_eq_true rfl⟩ rfl hl.1 rfl (Nat.le_of_ble_eq_true rfl) dX8_add_22) hS (fun q _ h => hFc q h) hFc (fun u_3 t H1 locs ht hvm h_2 hB1 hz1 hk1 hS => ?_)
  obtain ⟨hP1, hD1⟩ := hB1
  rw [ht] at hP1
  obtain ⟨hP, hD⟩ := wset1 hP hD xo_2 hk1 hP1
  obtain rfl : u_3 = (putM (Fn 40) 200 (nI (cn 3)) ((v0 >>> (24 &&& 31)) &&& 255)) := h_2
  generalize H1 = H at hP hS ⊢
  have hP : va_P D vwCl (wX cI (D.1 99) zz g ad cn In (va_up Fn 40 (putM (Fn 40) 200 (nI (cn 3)) ((v0 >>> (24 &&& 31)) &&& 255)))) H := va_P_eq xsa_2 hP
  have hD : va_D A (wX cI (D.1 99) zz g ad cn In (va_up Fn 40 (putM (Fn 40) 200 (nI (cn 3)) ((v0 >>> (24 &&& 31)) &&& 255)))) := va_D_eq xsa_2 hD
  refine lv_aload_n hx hb dX8_add_25 rfl (lvA1 hl) ?_
  refine lv_aload_n hx hb dX8_add_26 rfl (lvA1 hl) ?_
  refine gf_RX8_13 S hK hP 1 xo_1 (v := .int (nI (cn 3))) rfl dX8_add_27 ?_
  refine lv_iconst (v := 1) hx hb dX8_add_30 kic_1 ?_
  refine lv_iadd hx hb dX8_add_31 ?_
  refine lv_topi (fun y_4 ey_4 => ?_)
  obtain rfl : y_4 = (nI ((cn 3) + 1)) := ey_4.trans (nI_add (cn 3) 1)
  refine lv_sipush (v := 200) hx hb dX8_add_32 (by decide) ?_
  refine va_mmin hx hb (by rw [hml]; exact hl.1.symm) hown (S.2.2.2.2 _ (wk3_3 10 rfl rfl)) (S.2.2.2.2 _ (wk2_13 10 rfl rfl)) (S.2.2.2.2 _ (wk1_0 3 rfl rfl)) (S.2.2.2.2 _ (wk2_13 11 rfl rfl)) (Nat.le_of_ble_eq_true rfl) (Nat.le_of_ble_eq_true rfl) (Nat.le_of_ble_eq_true rfl) (Nat.le_of_ble_eq_true rfl) dX8_add_35 ?_
  refine lv_topi (fun y_5 ey_5 => ?_)
  obtain rfl : y_5 = (nI ((cn 3) + 1)) := ey_5.trans (min200b (by (first | omega | (have zz0 := Hid.u hb_cn; omega))))
  refine pf_RX8_13 S hK hP hD hS 1 xo_1 (v := .int (nI ((cn 3) + 1))) (Nat.le_of_ble_eq_true rfl) rfl rfl dX8_add_38 (fun H locs hP hD hS => ?_)
  have hP : va_P D vwCl (wX cI (D.1 99) zz g ad (va_up cn 3 ((cn 3) + 1)) In (va_up Fn 40 (putM (Fn 40) 200 (nI (cn 3)) ((v0 >>> (24 &&& 31)) &&& 255)))) H := va_P_eq (xsf_1_1) hP
  have hD : va_D A (wX cI (D.1 99) zz g ad (va_up cn 3 ((cn 3) + 1)) In (va_up Fn 40 (putM (Fn 40) 200 (nI (cn 3)) ((v0 >>> (24 &&& 31)) &&& 255)))) := va_D_eq (xsf_1_1) hD
  refine lv_iinc (v := 16) (lv' := [(2, .int 16), (0, .ref (g 5)), (1, .int v0)]) hx hb dX8_add_41 hl (k := 0) rfl (by decide) (ltb rfl) rfl (fun ls hl => ?_)
  refine lv_goto (tgt := 3) hx hb dX8_add_44 rfl ?_
  refine lv_iload_n hx hb dX8_add_3 rfl (lvA0 hl) ?_
  refine lv_if_lt (tgt := 47) hx hb dX8_add_4 rfl (fun h => absurd h cq_lt_16_0) (fun _ => ?_)
  refine lv_aload_n hx hb dX8_add_7 rfl (lvA1 hl) ?_
  refine gf_RX8_9 S hK hP 1 xo_1 (v := .ref (g 40)) rfl dX8_add_8 ?_
  refine lv_aload_n hx hb dX8_add_11 rfl (lvA1 hl) ?_
  refine gf_RX8_13 S hK hP 1 xo_1 (v := .int (nI ((cn 3) + 1))) rfl dX8_add_12 ?_
  refine lv_iload_n hx hb dX8_add_15 rfl (lvA2 hl) ?_
  refine lv_iload_n hx hb dX8_add_16 rfl (lvA0 hl) ?_
  refine lv_ishr hx hb dX8_add_17 ?_
  refine lv_sipush (v := 255) hx hb dX8_add_18 (by decide) ?_
  refine lv_iand hx hb dX8_add_21 ?_
  have hFc := va_free (wc := [((g 40), .inl (cI, 200, .inl (putM (Fn 40) 200 (nI (cn 3)) ((v0 >>> (24 &&& 31)) &&& 255))))]) hD hS hA [2] (one_im xo_2)
  refine va_callv (runS_w (As := [.ref (g 40), .int (nI ((cn 3) + 1)), .int ((v0 >>> (16 &&& 31)) &&& 255)]) (rest := []) S (q_l_put l D cI cB cZ (g 40) 200 (putM (Fn 40) 200 (nI (cn 3)) ((v0 >>> (24 &&& 31)) &&& 255)) (nI ((cn 3) + 1)) ((v0 >>> (16 &&& 31)) &&& 255) H.size (by (first | omega | (have zz0 := Hid.u hb_cn; omega)))) kS_RX8_17 hK hP hD [2] (one_is xo_2) (one_im xo_2) rfl ⟨Nat.le_of_ble_eq_true rfl, Nat.le_of_ble_eq_true rfl⟩ ⟨Nat.le_of_ble_eq_true rfl, Nat.le_of_ble_eq_true rfl⟩ rfl hl.1 rfl (Nat.le_of_ble_eq_true rfl) dX8_add_22) hS (fun q _ h => hFc q h) hFc (fun u_8 t H1 locs ht hvm h_7 hB1 hz1 hk1 hS => ?_)
  obtain ⟨hP1, hD1⟩ := hB1
  rw [ht] at hP1
  obtain ⟨hP, hD⟩ := wset1 hP hD xo_2 hk1 hP1
  obtain rfl : u_8 = (putM (putM (Fn 40) 200 (nI (cn 3)) ((v0 >>> (24 &&& 31)) &&& 255)) 200 (nI ((cn 3) + 1)) ((v0 >>> (16 &&& 31)) &&& 255)) := h_7
  generalize H1 = H at hP hS ⊢
  have hP : va_P D vwCl (wX cI (D.1 99) zz g ad (va_up cn 3 ((cn 3) + 1)) In (va_up (va_up Fn 40 (putM (Fn 40) 200 (nI (cn 3)) ((v0 >>> (24 &&& 31)) &&& 255))) 40 (putM (putM (Fn 40) 200 (nI (cn 3)) ((v0 >>> (24 &&& 31)) &&& 255)) 200 (nI ((cn 3) + 1)) ((v0 >>> (16 &&& 31)) &&& 255)))) H := va_P_eq xsa_2 hP
  have hD : va_D A (wX cI (D.1 99) zz g ad (va_up cn 3 ((cn 3) + 1)) In (va_up (va_up Fn 40 (putM (Fn 40) 200 (nI (cn 3)) ((v0 >>> (24 &&& 31)) &&& 255))) 40 (putM (putM (Fn 40) 200 (nI (cn 3)) ((v0 >>> (24 &&& 31)) &&& 255)) 200 (nI ((cn 3) + 1)) ((v0 >>> (16 &&& 31)) &&& 255)))) := va_D_eq xsa_2 hD
  refine lv_aload_n hx hb dX8_add_25 rfl (lvA1 hl) ?_
  refine lv_aload_n hx hb dX8_add_26 rfl (lvA1 hl) ?_
  refine gf_RX8_13 S hK hP 1 xo_1 (v := .int (nI ((cn 3) + 1))) rfl dX8_add_27 ?_
  refine lv_iconst (v := 1) hx hb dX8_add_30 kic_1 ?_
  refine lv_iadd hx hb dX8_add_31 ?_
  refine lv_topi (fun y_9 ey_9 => ?_)
  obtain rfl : y_9 = (nI (((cn 3) + 1) + 1)) := ey_9.trans (nI_add ((cn 3) + 1) 1)
  refine lv_sipush (v := 200) hx hb dX8_add_32 (by decide) ?_
  refine va_mmin hx hb (by rw [hml]; exact hl.1.symm) hown (S.2.2.2.2 _ (wk3_3 10 rfl rfl)) (S.2.2.2.2 _ (wk2_13 10 rfl rfl)) (S.2.2.2.2 _ (wk1_0 3 rfl rfl)) (S.2.2.2.2 _ (wk2_13 11 rfl rfl)) (Nat.le_of_ble_eq_true rfl) (Nat.le_of_ble_eq_true rfl) (Nat.le_of_ble_eq_true rfl) (Nat.le_of_ble_eq_true rfl) dX8_add_35 ?_
  refine lv_topi (fun y_10 ey_10 => ?_)
  obtain rfl : y_10 = (nI (((cn 3) + 1) + 1)) := ey_10.trans (min200b (by (first | omega | (have zz0 := Hid.u hb_cn; omega))))
  refine pf_RX8_13 S hK hP hD hS 1 xo_1 (v := .int (nI (((cn 3) + 1) + 1))) (Nat.le_of_ble_eq_true rfl) rfl rfl dX8_add_38 (fun H locs hP hD hS => ?_)
  have hP : va_P D vwCl (wX cI (D.1 99) zz g ad (va_up (va_up cn 3 ((cn 3) + 1)) 3 (((cn 3) + 1) + 1)) In (va_up (va_up Fn 40 (putM (Fn 40) 200 (nI (cn 3)) ((v0 >>> (24 &&& 31)) &&& 255))) 40 (putM (putM (Fn 40) 200 (nI (cn 3)) ((v0 >>> (24 &&& 31)) &&& 255)) 200 (nI ((cn 3) + 1)) ((v0 >>> (16 &&& 31)) &&& 255)))) H := va_P_eq (xsf_1_1) hP
  have hD : va_D A (wX cI (D.1 99) zz g ad (va_up (va_up cn 3 ((cn 3) + 1)) 3 (((cn 3) + 1) + 1)) In (va_up (va_up Fn 40 (putM (Fn 40) 200 (nI (cn 3)) ((v0 >>> (24 &&& 31)) &&& 255))) 40 (putM (putM (Fn 40) 200 (nI (cn 3)) ((v0 >>> (24 &&& 31)) &&& 255)) 200 (nI ((cn 3) + 1)) ((v0 >>> (16 &&& 31)) &&& 255)))) := va_D_eq (xsf_1_1) hD
  refine lv_iinc (v := 8) (lv' := [(2, .int 8), (0, .ref (g 5)), (1, .int v0)]) hx hb dX8_add_41 hl (k := 0) rfl (by decide) (ltb rfl) rfl (fun ls hl => ?_)
  refine lv_goto (tgt := 3) hx hb dX8_add_44 rfl ?_
  refine lv_iload_n hx hb dX8_add_3 rfl (lvA0 hl) ?_
  refine lv_if_lt (tgt := 47) hx hb dX8_add_4 rfl (fun h => absurd h cq_lt_8_0) (fun _ => ?_)
  refine lv_aload_n hx hb dX8_add_7 rfl (lvA1 hl) ?_
  refine gf_RX8_9 S hK hP 1 xo_1 (v := .ref (g 40)) rfl dX8_add_8 ?_
  refine lv_aload_n hx hb dX8_add_11 rfl (lvA1 hl) ?_
  refine gf_RX8_13 S hK hP 1 xo_1 (v := .int (nI (((cn 3) + 1) + 1))) rfl dX8_add_12 ?_
  refine lv_iload_n hx hb dX8_add_15 rfl (lvA2 hl) ?_
  refine lv_iload_n hx hb dX8_add_16 rfl (lvA0 hl) ?_
  refine lv_ishr hx hb dX8_add_17 ?_
  refine lv_sipush (v := 255) hx hb dX8_add_18 (by decide) ?_
  refine lv_iand hx hb dX8_add_21 ?_
  have hFc := va_free (wc := [((g 40), .inl (cI, 200, .inl (putM (putM (Fn 40) 200 (nI (cn 3)) ((v0 >>> (24 &&& 31)) &&& 255)) 200 (nI ((cn 3) + 1)) ((v0 >>> (16 &&& 31)) &&& 255))))]) hD hS hA [2] (one_im xo_2)
  refine va_callv (runS_w (As := [.ref (g 40), .int (nI (((cn 3) + 1) + 1)), .int ((v0 >>> (8 &&& 31)) &&& 255)]) (rest := []) S (q_l_put l D cI cB cZ (g 40) 200 (putM (putM (Fn 40) 200 (nI (cn 3)) ((v0 >>> (24 &&& 31)) &&& 255)) 200 (nI ((cn 3) + 1)) ((v0 >>> (16 &&& 31)) &&& 255)) (nI (((cn 3) + 1) + 1)) ((v0 >>> (8 &&& 31)) &&& 255) H.size (by (first | omega | (have zz0 := Hid.u hb_cn; omega)))) kS_RX8_17 hK hP hD [2] (one_is xo_2) (one_im xo_2) rfl ⟨Nat.le_of_ble_eq_true rfl, Nat.le_of_ble_eq_true rfl⟩ ⟨Nat.le_of_ble_eq_true rfl, Nat.le_of_ble_eq_true rfl⟩ rfl hl.1 rfl (Nat.le_of_ble_eq_true rfl) dX8_add_22) hS (fun q _ h => hFc q h) hFc (fun u_13 t H1 locs ht hvm h_12 hB1 hz1 hk1 hS => ?_)
  obtain ⟨hP1, hD1⟩ := hB1
  rw [ht] at hP1
  obtain ⟨hP, hD⟩ := wset1 hP hD xo_2 hk1 hP1
  obtain rfl : u_13 = (putM (putM (putM (Fn 40) 200 (nI (cn 3)) ((v0 >>> (24 &&& 31)) &&& 255)) 200 (nI ((cn 3) + 1)) ((v0 >>> (16 &&& 31)) &&& 255)) 200 (nI (((cn 3) + 1) + 1)) ((v0 >>> (8 &&& 31)) &&& 255)) := h_12
  generalize H1 = H at hP hS ⊢
  have hP : va_P D vwCl (wX cI (D.1 99) zz g ad (va_up (va_up cn 3 ((cn 3) + 1)) 3 (((cn 3) + 1) + 1)) In (va_up (va_up (va_up Fn 40 (putM (Fn 40) 200 (nI (cn 3)) ((v0 >>> (24 &&& 31)) &&& 255))) 40 (putM (putM (Fn 40) 200 (nI (cn 3)) ((v0 >>> (24 &&& 31)) &&& 255)) 200 (nI ((cn 3) + 1)) ((v0 >>> (16 &&& 31)) &&& 255))) 40 (putM (putM (putM (Fn 40) 200 (nI (cn 3)) ((v0 >>> (24 &&& 31)) &&& 255)) 200 (nI ((cn 3) + 1)) ((v0 >>> (16 &&& 31)) &&& 255)) 200 (nI (((cn 3) + 1) + 1)) ((v0 >>> (8 &&& 31)) &&& 255)))) H := va_P_eq xsa_2 hP
  have hD : va_D A (wX cI (D.1 99) zz g ad (va_up (va_up cn 3 ((cn 3) + 1)) 3 (((cn 3) + 1) + 1)) In (va_up (va_up (va_up Fn 40 (putM (Fn 40) 200 (nI (cn 3)) ((v0 >>> (24 &&& 31)) &&& 255))) 40 (putM (putM (Fn 40) 200 (nI (cn 3)) ((v0 >>> (24 &&& 31)) &&& 255)) 200 (nI ((cn 3) + 1)) ((v0 >>> (16 &&& 31)) &&& 255))) 40 (putM (putM (putM (Fn 40) 200 (nI (cn 3)) ((v0 >>> (24 &&& 31)) &&& 255)) 200 (nI ((cn 3) + 1)) ((v0 >>> (16 &&& 31)) &&& 255)) 200 (nI (((cn 3) + 1) + 1)) ((v0 >>> (8 &&& 31)) &&& 255)))) := va_D_eq xsa_2 hD
  refine lv_aload_n hx hb dX8_add_25 rfl (lvA1 hl) ?_
  refine lv_aload_n hx hb dX8_add_26 rfl (lvA1 hl) ?_
  refine gf_RX8_13 S hK hP 1 xo_1 (v := .int (nI (((cn 3) + 1) + 1))) rfl dX8_add_27 ?_
  refine lv_iconst (v := 1) hx hb dX8_add_30 kic_1 ?_
  refine lv_iadd hx hb dX8_add_31 ?_
  refine lv_topi (fun y_14 ey_14 => ?_)
  obtain rfl : y_14 = (nI ((((cn 3) + 1) + 1) + 1)) := ey_14.trans (nI_add (((cn 3) + 1) + 1) 1)
  refine lv_sipush (v := 200) hx hb dX8_add_32 (by decide) ?_
  refine va_mmin hx hb (by rw [hml]; exact hl.1.symm) hown (S.2.2.2.2 _ (wk3_3 10 rfl rfl)) (S.2.2.2.2 _ (wk2_13 10 rfl rfl)) (S.2.2.2.2 _ (wk1_0 3 rfl rfl)) (S.2.2.2.2 _ (wk2_13 11 rfl rfl)) (Nat.le_of_ble_eq_true rfl) (Nat.le_of_ble_eq_true rfl) (Nat.le_of_ble_eq_true rfl) (Nat.le_of_ble_eq_true rfl) dX8_add_35 ?_
  refine lv_topi (fun y_15 ey_15 => ?_)
  obtain rfl : y_15 = (nI ((((cn 3) + 1) + 1) + 1)) := ey_15.trans (min200b (by (first | omega | (have zz0 := Hid.u hb_cn; omega))))
  refine pf_RX8_13 S hK hP hD hS 1 xo_1 (v := .int (nI ((((cn 3) + 1) + 1) + 1))) (Nat.le_of_ble_eq_true rfl) rfl rfl dX8_add_38 (fun H locs hP hD hS => ?_)
  have hP : va_P D vwCl (wX cI (D.1 99) zz g ad (va_up (va_up (va_up cn 3 ((cn 3) + 1)) 3 (((cn 3) + 1) + 1)) 3 ((((cn 3) + 1) + 1) + 1)) In (va_up (va_up (va_up Fn 40 (putM (Fn 40) 200 (nI (cn 3)) ((v0 >>> (24 &&& 31)) &&& 255))) 40 (putM (putM (Fn 40) 200 (nI (cn 3)) ((v0 >>> (24 &&& 31)) &&& 255)) 200 (nI ((cn 3) + 1)) ((v0 >>> (16 &&& 31)) &&& 255))) 40 (putM (putM (putM (Fn 40) 200 (nI (cn 3)) ((v0 >>> (24 &&& 31)) &&& 255)) 200 (nI ((cn 3) + 1)) ((v0 >>> (16 &&& 31)) &&& 255)) 200 (nI (((cn 3) + 1) + 1)) ((v0 >>> (8 &&& 31)) &&& 255)))) H := va_P_eq (xsf_1_1) hP
  have hD : va_D A (wX cI (D.1 99) zz g ad (va_up (va_up (va_up cn 3 ((cn 3) + 1)) 3 (((cn 3) + 1) + 1)) 3 ((((cn 3) + 1) + 1) + 1)) In (va_up (va_up (va_up Fn 40 (putM (Fn 40) 200 (nI (cn 3)) ((v0 >>> (24 &&& 31)) &&& 255))) 40 (putM (putM (Fn 40) 200 (nI (cn 3)) ((v0 >>> (24 &&& 31)) &&& 255)) 200 (nI ((cn 3) + 1)) ((v0 >>> (16 &&& 31)) &&& 255))) 40 (putM (putM (putM (Fn 40) 200 (nI (cn 3)) ((v0 >>> (24 &&& 31)) &&& 255)) 200 (nI ((cn 3) + 1)) ((v0 >>> (16 &&& 31)) &&& 255)) 200 (nI (((cn 3) + 1) + 1)) ((v0 >>> (8 &&& 31)) &&& 255)))) := va_D_eq (xsf_1_1) hD
  refine lv_iinc (v := 0) (lv' := [(2, .int 0), (0, .ref (g 5)), (1, .int v0)]) hx hb dX8_add_41 hl (k := 0) rfl (by decide) (ltb rfl) rfl (fun ls hl => ?_)
  refine lv_goto (tgt := 3) hx hb dX8_add_44 rfl ?_
  refine lv_iload_n hx hb dX8_add_3 rfl (lvA0 hl) ?_
  refine lv_if_lt (tgt := 47) hx hb dX8_add_4 rfl (fun h => absurd h cq_lt_0_0) (fun _ => ?_)
  refine lv_aload_n hx hb dX8_add_7 rfl (lvA1 hl) ?_
  refine gf_RX8_9 S hK hP 1 xo_1 (v := .ref (g 40)) rfl dX8_add_8 ?_
  refine lv_aload_n hx hb dX8_add_11 rfl (lvA1 hl) ?_
  refine gf_RX8_13 S hK hP 1 xo_1 (v := .int (nI ((((cn 3) + 1) + 1) + 1))) rfl dX8_add_12 ?_
  refine lv_iload_n hx hb dX8_add_15 rfl (lvA2 hl) ?_
  refine lv_iload_n hx hb dX8_add_16 rfl (lvA0 hl) ?_
  refine lv_ishr hx hb dX8_add_17 ?_
  refine lv_sipush (v := 255) hx hb dX8_add_18 (by decide) ?_
  refine lv_iand hx hb dX8_add_21 ?_
  have hFc := va_free (wc := [((g 40), .inl (cI, 200, .inl (putM (putM (putM (Fn 40) 200 (nI (cn 3)) ((v0 >>> (24 &&& 31)) &&& 255)) 200 (nI ((cn 3) + 1)) ((v0 >>> (16 &&& 31)) &&& 255)) 200 (nI (((cn 3) + 1) + 1)) ((v0 >>> (8 &&& 31)) &&& 255))))]) hD hS hA [2] (one_im xo_2)
  refine va_callv (runS_w (As := [.ref (g 40), .int (nI ((((cn 3) + 1) + 1) + 1)), .int ((v0 >>> (0 &&& 31)) &&& 255)]) (rest := []) S (q_l_put l D cI cB cZ (g 40) 200 (putM (putM (putM (Fn 40) 200 (nI (cn 3)) ((v0 >>> (24 &&& 31)) &&& 255)) 200 (nI ((cn 3) + 1)) ((v0 >>> (16 &&& 31)) &&& 255)) 200 (nI (((cn 3) + 1) + 1)) ((v0 >>> (8 &&& 31)) &&& 255)) (nI ((((cn 3) + 1) + 1) + 1)) ((v0 >>> (0 &&& 31)) &&& 255) H.size (by (first | omega | (have zz0 := Hid.u hb_cn; omega)))) kS_RX8_17 hK hP hD [2] (one_is xo_2) (one_im xo_2) rfl ⟨Nat.le_of_ble_eq_true rfl, Nat.le_of_ble_eq_true rfl⟩ ⟨Nat.le_of_ble_eq_true rfl, Nat.le_of_ble_eq_true rfl⟩ rfl hl.1 rfl (Nat.le_of_ble_eq_true rfl) dX8_add_22) hS (fun q _ h => hFc q h) hFc (fun u_18 t H1 locs ht hvm h_17 hB1 hz1 hk1 hS => ?_)
  obtain ⟨hP1, hD1⟩ := hB1
  rw [ht] at hP1
  obtain ⟨hP, hD⟩ := wset1 hP hD xo_2 hk1 hP1
  obtain rfl : u_18 = (putM (putM (putM (putM (Fn 40) 200 (nI (cn 3)) ((v0 >>> (24 &&& 31)) &&& 255)) 200 (nI ((cn 3) + 1)) ((v0 >>> (16 &&& 31)) &&& 255)) 200 (nI (((cn 3) + 1) + 1)) ((v0 >>> (8 &&& 31)) &&& 255)) 200 (nI ((((cn 3) + 1) + 1) + 1)) ((v0 >>> (0 &&& 31)) &&& 255)) := h_17
  generalize H1 = H at hP hS ⊢
  have hP : va_P D vwCl (wX cI (D.1 99) zz g ad (va_up (va_up (va_up cn 3 ((cn 3) + 1)) 3 (((cn 3) + 1) + 1)) 3 ((((cn 3) + 1) + 1) + 1)) In (va_up (va_up (va_up (va_up Fn 40 (putM (Fn 40) 200 (nI (cn 3)) ((v0 >>> (24 &&& 31)) &&& 255))) 40 (putM (putM (Fn 40) 200 (nI (cn 3)) ((v0 >>> (24 &&& 31)) &&& 255)) 200 (nI ((cn 3) + 1)) ((v0 >>> (16 &&& 31)) &&& 255))) 40 (putM (putM (putM (Fn 40) 200 (nI (cn 3)) ((v0 >>> (24 &&& 31)) &&& 255)) 200 (nI ((cn 3) + 1)) ((v0 >>> (16 &&& 31)) &&& 255)) 200 (nI (((cn 3) + 1) + 1)) ((v0 >>> (8 &&& 31)) &&& 255))) 40 (putM (putM (putM (putM (Fn 40) 200 (nI (cn 3)) ((v0 >>> (24 &&& 31)) &&& 255)) 200 (nI ((cn 3) + 1)) ((v0 >>> (16 &&& 31)) &&& 255)) 200 (nI (((cn 3) + 1) + 1)) ((v0 >>> (8 &&& 31)) &&& 255)) 200 (nI ((((cn 3) + 1) + 1) + 1)) ((v0 >>> (0 &&& 31)) &&& 255)))) H := va_P_eq xsa_2 hP
  have hD : va_D A (wX cI (D.1 99) zz g ad (va_up (va_up (va_up cn 3 ((cn 3) + 1)) 3 (((cn 3) + 1) + 1)) 3 ((((cn 3) + 1) + 1) + 1)) In (va_up (va_up (va_up (va_up Fn 40 (putM (Fn 40) 200 (nI (cn 3)) ((v0 >>> (24 &&& 31)) &&& 255))) 40 (putM (putM (Fn 40) 200 (nI (cn 3)) ((v0 >>> (24 &&& 31)) &&& 255)) 200 (nI ((cn 3) + 1)) ((v0 >>> (16 &&& 31)) &&& 255))) 40 (putM (putM (putM (Fn 40) 200 (nI (cn 3)) ((v0 >>> (24 &&& 31)) &&& 255)) 200 (nI ((cn 3) + 1)) ((v0 >>> (16 &&& 31)) &&& 255)) 200 (nI (((cn 3) + 1) + 1)) ((v0 >>> (8 &&& 31)) &&& 255))) 40 (putM (putM (putM (putM (Fn 40) 200 (nI (cn 3)) ((v0 >>> (24 &&& 31)) &&& 255)) 200 (nI ((cn 3) + 1)) ((v0 >>> (16 &&& 31)) &&& 255)) 200 (nI (((cn 3) + 1) + 1)) ((v0 >>> (8 &&& 31)) &&& 255)) 200 (nI ((((cn 3) + 1) + 1) + 1)) ((v0 >>> (0 &&& 31)) &&& 255)))) := va_D_eq xsa_2 hD
  refine lv_aload_n hx hb dX8_add_25 rfl (lvA1 hl) ?_
  refine lv_aload_n hx hb dX8_add_26 rfl (lvA1 hl) ?_
  refine gf_RX8_13 S hK hP 1 xo_1 (v := .int (nI ((((cn 3) + 1) + 1) + 1))) rfl dX8_add_27 ?_
  refine lv_iconst (v := 1) hx hb dX8_add_30 kic_1 ?_
  refine lv_iadd hx hb dX8_add_31 ?_
  refine lv_topi (fun y_19 ey_19 => ?_)
  obtain rfl : y_19 = (nI (((((cn 3) + 1) + 1) + 1) + 1)) := ey_19.trans (nI_add ((((cn 3) + 1) + 1) + 1) 1)
  refine lv_sipush (v := 200) hx hb dX8_add_32 (by decide) ?_
  refine va_mmin hx hb (by rw [hml]; exact hl.1.symm) hown (S.2.2.2.2 _ (wk3_3 10 rfl rfl)) (S.2.2.2.2 _ (wk2_13 10 rfl rfl)) (S.2.2.2.2 _ (wk1_0 3 rfl rfl)) (S.2.2.2.2 _ (wk2_13 11 rfl rfl)) (Nat.le_of_ble_eq_true rfl) (Nat.le_of_ble_eq_true rfl) (Nat.le_of_ble_eq_true rfl) (Nat.le_of_ble_eq_true rfl) dX8_add_35 ?_
  refine lv_topi (fun y_20 ey_20 => ?_)
  obtain rfl : y_20 = (nI (((((cn 3) + 1) + 1) + 1) + 1)) := ey_20.trans (min200b (by (first | omega | (have zz0 := Hid.u hb_cn; omega))))
  refine pf_RX8_13 S hK hP hD hS 1 xo_1 (v := .int (nI (((((cn 3) + 1) + 1) + 1) + 1))) (Nat.le_of_ble_eq_true rfl) rfl rfl dX8_add_38 (fun H locs hP hD hS => ?_)
  have hP : va_P D vwCl (wX cI (D.1 99) zz g ad (va_up (va_up (va_up (va_up cn 3 ((cn 3) + 1)) 3 (((cn 3) + 1) + 1)) 3 ((((cn 3) + 1) + 1) + 1)) 3 (((((cn 3) + 1) + 1) + 1) + 1)) In (va_up (va_up (va_up (va_up Fn 40 (putM (Fn 40) 200 (nI (cn 3)) ((v0 >>> (24 &&& 31)) &&& 255))) 40 (putM (putM (Fn 40) 200 (nI (cn 3)) ((v0 >>> (24 &&& 31)) &&& 255)) 200 (nI ((cn 3) + 1)) ((v0 >>> (16 &&& 31)) &&& 255))) 40 (putM (putM (putM (Fn 40) 200 (nI (cn 3)) ((v0 >>> (24 &&& 31)) &&& 255)) 200 (nI ((cn 3) + 1)) ((v0 >>> (16 &&& 31)) &&& 255)) 200 (nI (((cn 3) + 1) + 1)) ((v0 >>> (8 &&& 31)) &&& 255))) 40 (putM (putM (putM (putM (Fn 40) 200 (nI (cn 3)) ((v0 >>> (24 &&& 31)) &&& 255)) 200 (nI ((cn 3) + 1)) ((v0 >>> (16 &&& 31)) &&& 255)) 200 (nI (((cn 3) + 1) + 1)) ((v0 >>> (8 &&& 31)) &&& 255)) 200 (nI ((((cn 3) + 1) + 1) + 1)) ((v0 >>> (0 &&& 31)) &&& 255)))) H := va_P_eq (xsf_1_1) hP
  have hD : va_D A (wX cI (D.1 99) zz g ad (va_up (va_up (va_up (va_up cn 3 ((cn 3) + 1)) 3 (((cn 3) + 1) + 1)) 3 ((((cn 3) + 1) + 1) + 1)) 3 (((((cn 3) + 1) + 1) + 1) + 1)) In (va_up (va_up (va_up (va_up Fn 40 (putM (Fn 40) 200 (nI (cn 3)) ((v0 >>> (24 &&& 31)) &&& 255))) 40 (putM (putM (Fn 40) 200 (nI (cn 3)) ((v0 >>> (24 &&& 31)) &&& 255)) 200 (nI ((cn 3) + 1)) ((v0 >>> (16 &&& 31)) &&& 255))) 40 (putM (putM (putM (Fn 40) 200 (nI (cn 3)) ((v0 >>> (24 &&& 31)) &&& 255)) 200 (nI ((cn 3) + 1)) ((v0 >>> (16 &&& 31)) &&& 255)) 200 (nI (((cn 3) + 1) + 1)) ((v0 >>> (8 &&& 31)) &&& 255))) 40 (putM (putM (putM (putM (Fn 40) 200 (nI (cn 3)) ((v0 >>> (24 &&& 31)) &&& 255)) 200 (nI ((cn 3) + 1)) ((v0 >>> (16 &&& 31)) &&& 255)) 200 (nI (((cn 3) + 1) + 1)) ((v0 >>> (8 &&& 31)) &&& 255)) 200 (nI ((((cn 3) + 1) + 1) + 1)) ((v0 >>> (0 &&& 31)) &&& 255)))) := va_D_eq (xsf_1_1) hD
  refine lv_iinc (v := (-8)) (lv' := [(2, .int (-8)), (0, .ref (g 5)), (1, .int v0)]) hx hb dX8_add_41 hl (k := 0) rfl (by decide) (ltb rfl) rfl (fun ls hl => ?_)
  refine lv_goto (tgt := 3) hx hb dX8_add_44 rfl ?_
  refine lv_iload_n hx hb dX8_add_3 rfl (lvA0 hl) ?_
  refine lv_if_lt (tgt := 47) hx hb dX8_add_4 rfl (fun _ => ?_) (fun h => absurd h cq_lt_m8_0)
  exact W.vret hx hb hr (fun t ht hW => ⟨⟨((va_up (va_up (va_up (va_up cn 3 ((cn 3) + 1)) 3 (((cn 3) + 1) + 1)) 3 ((((cn 3) + 1) + 1) + 1)) 3 (((((cn 3) + 1) + 1) + 1) + 1)), In, (va_up (va_up (va_up (va_up Fn 40 (putM (Fn 40) 200 (nI (cn 3)) ((v0 >>> (24 &&& 31)) &&& 255))) 40 (putM (putM (Fn 40) 200 (nI (cn 3)) ((v0 >>> (24 &&& 31)) &&& 255)) 200 (nI ((cn 3) + 1)) ((v0 >>> (16 &&& 31)) &&& 255))) 40 (putM (putM (putM (Fn 40) 200 (nI (cn 3)) ((v0 >>> (24 &&& 31)) &&& 255)) 200 (nI ((cn 3) + 1)) ((v0 >>> (16 &&& 31)) &&& 255)) 200 (nI (((cn 3) + 1) + 1)) ((v0 >>> (8 &&& 31)) &&& 255))) 40 (putM (putM (putM (putM (Fn 40) 200 (nI (cn 3)) ((v0 >>> (24 &&& 31)) &&& 255)) 200 (nI ((cn 3) + 1)) ((v0 >>> (16 &&& 31)) &&& 255)) 200 (nI (((cn 3) + 1) + 1)) ((v0 >>> (8 &&& 31)) &&& 255)) 200 (nI ((((cn 3) + 1) + 1) + 1)) ((v0 >>> (0 &&& 31)) &&& 255)))), rfl, ⟨(Fr.mo (Fr.f 40 (Fr.f 40 (Fr.f 40 (Fr.f 40 (Fr.c 3 (Fr.c 3 (Fr.c 3 (Fr.c 3 Fr.rf)))))))) (sbl rfl) (sbl rfl) (sbl rfl)), (CBX.cg (c2 := (va_up (va_up (va_up (va_up cn 3 ((cn 3) + 1)) 3 (((cn 3) + 1) + 1)) 3 ((((cn 3) + 1) + 1) + 1)) 3 (((((cn 3) + 1) + 1) + 1) + 1))) (CBX.u3 (v := (((((cn 3) + 1) + 1) + 1) + 1)) hB (show (((((cn 3) + 1) + 1) + 1) + 1) ≤ 200 by (first | omega | (have zz0 := Hid.u hb_cn; omega)))) rfl rfl rfl rfl rfl rfl rfl rfl rfl rfl rfl rfl rfl rfl rfl rfl rfl rfl), (by show (va_up (va_up (va_up (va_up cn 3 ((cn 3) + 1)) 3 (((cn 3) + 1) + 1)) 3 ((((cn 3) + 1) + 1) + 1)) 3 (((((cn 3) + 1) + 1) + 1) + 1)) 3 = cn 3 + 4; rfl)⟩, by rw [ht]; exact hP, hD⟩, hS.F ht⟩) hS.2.2 (oc_177 47 (aq_22 shX8_add_25))
set_option maxRecDepth 100000 in
set_option maxHeartbeats 4000000 in
theorem q_Xclear (l : Launch) (D : va_G) (cI cB cZ : ClassId) (zz qq vv : Nat) (bt : Nat → Int32) (g : Nat → Nat) (ad : Nat → Nat → Nat) (cn : Nat → Nat) (In : Nat → Int32) (Fn : Nat → Nat → Int32)  (sz : Nat) (hB : CBX cn) : Met l yX8_clear (CWS yX8_clear cX8_clear 1 none) (RM 0 0 0) (PBx [.ref (g 5)] D cI cB cZ zz qq vv bt (wX cI (D.1 99) zz g ad cn In Fn) sz) (va_Qv (fun (u : (Nat → Nat) × (Nat → Int32) × (Nat → Nat → Int32)) => (fun c2 I2 F2 => Fr [3] [] [] cn In Fn c2 I2 F2 ∧ CBX c2 ∧ (c2 3 = 0)) u.1 u.2.1 u.2.2) (fun (u : (Nat → Nat) × (Nat → Int32) × (Nat → Nat → Int32)) (t : State) => va_P D vwCl (wX cI (D.1 99) zz g ad u.1 u.2.1 u.2.2) t.heap ∧ va_D (va_A (wX cI (D.1 99) zz g ad cn In Fn) sz) (wX cI (D.1 99) zz g ad u.1 u.2.1 u.2.2)) (va_A (wX cI (D.1 99) zz g ad cn In Fn) sz)) 0 0 (va_A (wX cI (D.1 99) zz g ad cn In Fn) sz) := by
  refine en_x (fun A => (va_Qv (fun (u : (Nat → Nat) × (Nat → Int32) × (Nat → Nat → Int32)) => (fun (c2 : Nat → Nat) (I2 : Nat → Int32) (F2 : Nat → Nat → Int32) => Fr [3] [] [] cn In Fn c2 I2 F2 ∧ CBX c2 ∧ (c2 3 = 0)) u.1 u.2.1 u.2.2) (fun (u : (Nat → Nat) × (Nat → Int32) × (Nat → Nat → Int32)) (t : State) => va_P D vwCl (wX cI (D.1 99) zz g ad u.1 u.2.1 u.2.2) t.heap ∧ va_D A (wX cI (D.1 99) zz g ad u.1 u.2.1 u.2.2)) A)) rfl rfl pn_RX8 (Nat.le_of_ble_eq_true rfl) (fun p e s m below meth c A hx hb hml hown S hr hlocks hnm hA hP hK hD hXS hS ls hl => ?_)
  have hl : lv_has ls 1 [(0, .ref (g 5))] := hl
  have hb_cn : Hid (CBX cn) := hB
  replace hB : CBXh cn := hB
  refine lv_aload_n hx hb (oc_42 0 shX8_clear_0) rfl (lvA0 hl) ?_
  refine lv_iconst (v := 0) hx hb (oc_3 1 (aq_1 shX8_clear_0)) kic_0 ?_
  refine pf_RX8_13 S hK hP hD hS 1 xo_1 (v := .int 0) (Nat.le_of_ble_eq_true rfl) rfl rfl (oc_181 2 (aq_2 shX8_clear_0) uw_0_13) (fun H locs hP hD hS => ?_)
  have hP : va_P D vwCl (wX cI (D.1 99) zz g ad (va_up cn 3 0) In Fn) H := va_P_eq (xsf_1_1) hP
  have hD : va_D A (wX cI (D.1 99) zz g ad (va_up cn 3 0) In Fn) := va_D_eq (xsf_1_1) hD
  exact W.vret hx hb hr (fun t ht hW => ⟨⟨((va_up cn 3 0), In, Fn), rfl, ⟨(Fr.mo (Fr.c 3 Fr.rf) (sbl rfl) (sbl rfl) (sbl rfl)), (CBX.u3 (v := 0) hB (show 0 ≤ 200 by (first | omega | (have zz0 := Hid.u hb_cn; omega)))), (by show (va_up cn 3 0) 3 = 0; rfl)⟩, by rw [ht]; exact hP, hD⟩, hS.F ht⟩) hS.2.2 (oc_177 5 (aq_5 shX8_clear_0))
set_option maxRecDepth 100000 in
set_option maxHeartbeats 4000000 in
theorem q_Xtat (l : Launch) (D : va_G) (cI cB cZ : ClassId) (zz qq vv : Nat) (bt : Nat → Int32) (g : Nat → Nat) (ad : Nat → Nat → Nat) (cn : Nat → Nat) (In : Nat → Int32) (Fn : Nat → Nat → Int32) (v0 : Int32) (hB : CBX cn) : Met l yX8_at (CWS yX8_at cX8_at 2 (some .int)) (RM 1 0 0) (PBrx [.ref (g 5), .int v0] D cI cB cZ zz qq vv bt (wX cI (D.1 99) zz g ad cn In Fn)) (vp_Si (fun _ => True)) 0 0 (fun _ => False) := by
  refine en_rx rfl pn_RX8 (Nat.le_of_ble_eq_true rfl) (fun p e s m below meth c hx hb hml hown S hr hlocks hnm hP hK hXS hS ls hl => ?_)
  have hl : lv_has ls 2 [(0, .ref (g 5)), (1, .int v0)] := hl
  have hb_cn : Hid (CBX cn) := hB
  replace hB : CBXh cn := hB
  refine lv_aload_n hx hb (oc_42 0 shX8_at_0) rfl (lvA0 hl) ?_
  refine gf_RX8_9 S hK hP 1 xo_1 (v := .ref (g 40)) rfl (oc_180 1 (aq_1 shX8_at_0) uw_0_9) ?_
  refine lv_iload_n hx hb (oc_27 4 (aq_4 shX8_at_0)) rfl (lvA1 hl) ?_
  refine vp_callSi (runS_r (As := [.ref (g 40), .int v0]) (rest := []) S (q_l_at l D cI cB cZ (g 40) 200 (Fn 40) v0 (by (first | omega | (have zz0 := Hid.u hb_cn; omega)))) kS_RX8_29 hK hP [2] (one_is xo_2) ⟨Nat.le_of_ble_eq_true rfl, Nat.le_of_ble_eq_true rfl⟩ ⟨Nat.le_of_ble_eq_true rfl, Nat.le_of_ble_eq_true rfl⟩ rfl hl.1 rfl (Nat.le_of_ble_eq_true rfl) (oc_184 5 (aq_5 shX8_at_0) uw_0_29)) (fun r_1 h_2 => ?_)
  subst h_2
  exact W.iret (v := (atM (Fn 40) 200 v0)) hx hb hr (fun t ht hW => ⟨(atM (Fn 40) 200 v0), rfl, trivial, ht⟩) (fun _ h => absurd h List.not_mem_nil) (oc_172 8 (aq_8 shX8_at_0))
set_option maxRecDepth 100000 in
set_option maxHeartbeats 4000000 in
theorem q_Xnumber (l : Launch) (D : va_G) (cI cB cZ : ClassId) (zz qq vv : Nat) (bt : Nat → Int32) (g : Nat → Nat) (ad : Nat → Nat → Nat) (cn : Nat → Nat) (In : Nat → Int32) (Fn : Nat → Nat → Int32) (v0 : Int32) (hB : CBX cn) : Met l yX8_number (CWS yX8_number cX8_number 4 (some .int)) (RM 2 0 0) (PBrx [.ref (g 5), .int v0] D cI cB cZ zz qq vv bt (wX cI (D.1 99) zz g ad cn In Fn)) (vp_Si (fun _ => True)) 0 0 (fun _ => False) := by
  refine en_rx rfl pn_RX8 (Nat.le_of_ble_eq_true rfl) (fun p e s m below meth c hx hb hml hown S hr hlocks hnm hP hK hXS hS ls hl => ?_)
  have hl : lv_has ls 4 [(0, .ref (g 5)), (1, .int v0)] := hl
  have hb_cn : Hid (CBX cn) := hB
  replace hB : CBXh cn := hB
  refine lv_iconst (v := 0) hx hb (oc_3 0 shX8_number_0) kic_0 ?_
  refine lv_istore_n (lv' := [(2, .int 0), (0, .ref (g 5)), (1, .int v0)]) hx hb (oc_61 1 (aq_1 shX8_number_0)) rfl hl (ltb rfl) rfl (fun ls hl => ?_)
  refine lv_iconst (v := 0) hx hb (oc_3 2 (aq_2 shX8_number_0)) kic_0 ?_
  refine lv_istore_n (lv' := [(3, .int 0), (2, .int 0), (0, .ref (g 5)), (1, .int v0)]) hx hb (oc_62 3 (aq_3 shX8_number_0)) rfl hl (ltb rfl) rfl (fun ls hl => ?_)
  refine lv_iload_n hx hb dX8_number_4 rfl (lvA0 hl) ?_
  refine lv_iconst (v := 4) hx hb dX8_number_5 kic_4 ?_
  refine lv_icmp_ge (tgt := 30) hx hb dX8_number_6 rfl (fun h => absurd h cq_le_4_0) (fun _ => ?_)
  refine lv_iload_n hx hb dX8_number_9 rfl (lvA1 hl) ?_
  refine lv_bipush (v := 8) hx hb dX8_number_10 kbc_8 ?_
  refine lv_ishl hx hb dX8_number_12 ?_
  refine lv_topi (fun y_1 ey_1 => ?_)
  obtain rfl : y_1 = 0 := ey_1.trans (by decide)
  refine lv_aload_n hx hb dX8_number_13 rfl (lvA2 hl) ?_
  refine lv_iconst (v := 4) hx hb dX8_number_14 kic_4 ?_
  refine lv_iload_n hx hb dX8_number_15 rfl (lvA3 hl) ?_
  refine lv_imul hx hb dX8_number_16 ?_
  refine lv_iload_n hx hb dX8_number_17 rfl (lvA0 hl) ?_
  refine lv_iadd hx hb dX8_number_18 ?_
  refine vp_callSi (runV_rxa (As := [.int ((4 * v0) + 0)]) (rest := [.int 0]) S (q_Xtat l D cI cB cZ zz qq vv bt g ad cn In Fn ((4 * v0) + 0) hB) kV_RX8_33 hK hXS hS hP 1 xo_1 rfl rfl ⟨Nat.le_of_ble_eq_true rfl, Nat.le_of_ble_eq_true rfl⟩ ⟨Nat.le_of_ble_eq_true rfl, Nat.le_of_ble_eq_true rfl⟩ rfl hl.1 rfl (Nat.le_of_ble_eq_true rfl) dX8_number_19) (fun r_2 h_3 => ?_)
  refine lv_ior hx hb dX8_number_22 ?_
  refine lv_istore_n (lv' := [(2, .int (0 ||| r_2)), (3, .int 0), (0, .ref (g 5)), (1, .int v0)]) hx hb dX8_number_23 rfl hl (ltb rfl) rfl (fun ls hl => ?_)
  refine lv_iinc (v := 1) (lv' := [(3, .int 1), (2, .int (0 ||| r_2)), (0, .ref (g 5)), (1, .int v0)]) hx hb dX8_number_24 hl (k := 1) rfl (by decide) (ltb rfl) rfl (fun ls hl => ?_)
  refine lv_goto (tgt := 4) hx hb dX8_number_27 rfl ?_
  refine lv_iload_n hx hb dX8_number_4 rfl (lvA0 hl) ?_
  refine lv_iconst (v := 4) hx hb dX8_number_5 kic_4 ?_
  refine lv_icmp_ge (tgt := 30) hx hb dX8_number_6 rfl (fun h => absurd h cq_le_4_1) (fun _ => ?_)
  refine lv_iload_n hx hb dX8_number_9 rfl (lvA1 hl) ?_
  refine lv_bipush (v := 8) hx hb dX8_number_10 kbc_8 ?_
  refine lv_ishl hx hb dX8_number_12 ?_
  refine lv_aload_n hx hb dX8_number_13 rfl (lvA2 hl) ?_
  refine lv_iconst (v := 4) hx hb dX8_number_14 kic_4 ?_
  refine lv_iload_n hx hb dX8_number_15 rfl (lvA3 hl) ?_
  refine lv_imul hx hb dX8_number_16 ?_
  refine lv_iload_n hx hb dX8_number_17 rfl (lvA0 hl) ?_
  refine lv_iadd hx hb dX8_number_18 ?_
  refine vp_callSi (runV_rxa (As := [.int ((4 * v0) + 1)]) (rest := [.int ((0 ||| r_2) <<< (8 &&& 31))]) S (q_Xtat l D cI cB cZ zz qq vv bt g ad cn In Fn ((4 * v0) + 1) hB) kV_RX8_33 hK hXS hS hP 1 xo_1 rfl rfl ⟨Nat.le_of_ble_eq_true rfl, Nat.le_of_ble_eq_true rfl⟩ ⟨Nat.le_of_ble_eq_true rfl, Nat.le_of_ble_eq_true rfl⟩ rfl hl.1 rfl (Nat.le_of_ble_eq_true rfl) dX8_number_19) (fun r_4 h_5 => ?_)
  refine lv_ior hx hb dX8_number_22 ?_
  refine lv_istore_n (lv' := [(2, .int (((0 ||| r_2) <<< (8 &&& 31)) ||| r_4)), (3, .int 1), (0, .ref (g 5)), (1, .int v0)]) hx hb dX8_number_23 rfl hl (ltb rfl) rfl (fun ls hl => ?_)
  refine lv_iinc (v := 2) (lv' := [(3, .int 2), (2, .int (((0 ||| r_2) <<< (8 &&& 31)) ||| r_4)), (0, .ref (g 5)), (1, .int v0)]) hx hb dX8_number_24 hl (k := 1) rfl (by decide) (ltb rfl) rfl (fun ls hl => ?_)
  refine lv_goto (tgt := 4) hx hb dX8_number_27 rfl ?_
  refine lv_iload_n hx hb dX8_number_4 rfl (lvA0 hl) ?_
  refine lv_iconst (v := 4) hx hb dX8_number_5 kic_4 ?_
  refine lv_icmp_ge (tgt := 30) hx hb dX8_number_6 rfl (fun h => absurd h cq_le_4_2) (fun _ => ?_)
  refine lv_iload_n hx hb dX8_number_9 rfl (lvA1 hl) ?_
  refine lv_bipush (v := 8) hx hb dX8_number_10 kbc_8 ?_
  refine lv_ishl hx hb dX8_number_12 ?_
  refine lv_aload_n hx hb dX8_number_13 rfl (lvA2 hl) ?_
  refine lv_iconst (v := 4) hx hb dX8_number_14 kic_4 ?_
  refine lv_iload_n hx hb dX8_number_15 rfl (lvA3 hl) ?_
  refine lv_imul hx hb dX8_number_16 ?_
  refine lv_iload_n hx hb dX8_number_17 rfl (lvA0 hl) ?_
  refine lv_iadd hx hb dX8_number_18 ?_
  refine vp_callSi (runV_rxa (As := [.int ((4 * v0) + 2)]) (rest := [.int ((((0 ||| r_2) <<< (8 &&& 31)) ||| r_4) <<< (8 &&& 31))]) S (q_Xtat l D cI cB cZ zz qq vv bt g ad cn In Fn ((4 * v0) + 2) hB) kV_RX8_33 hK hXS hS hP 1 xo_1 rfl rfl ⟨Nat.le_of_ble_eq_true rfl, Nat.le_of_ble_eq_true rfl⟩ ⟨Nat.le_of_ble_eq_true rfl, Nat.le_of_ble_eq_true rfl⟩ rfl hl.1 rfl (Nat.le_of_ble_eq_true rfl) dX8_number_19) (fun r_6 h_7 => ?_)
  refine lv_ior hx hb dX8_number_22 ?_
  refine lv_istore_n (lv' := [(2, .int (((((0 ||| r_2) <<< (8 &&& 31)) ||| r_4) <<< (8 &&& 31)) ||| r_6)), (3, .int 2), (0, .ref (g 5)), (1, .int v0)]) hx hb dX8_number_23 rfl hl (ltb rfl) rfl (fun ls hl => ?_)
  refine lv_iinc (v := 3) (lv' := [(3, .int 3), (2, .int (((((0 ||| r_2) <<< (8 &&& 31)) ||| r_4) <<< (8 &&& 31)) ||| r_6)), (0, .ref (g 5)), (1, .int v0)]) hx hb dX8_number_24 hl (k := 1) rfl (by decide) (ltb rfl) rfl (fun ls hl => ?_)
  refine lv_goto (tgt := 4) hx hb dX8_number_27 rfl ?_
  refine lv_iload_n hx hb dX8_number_4 rfl (lvA0 hl) ?_
  refine lv_iconst (v := 4) hx hb dX8_number_5 kic_4 ?_
  refine lv_icmp_ge (tgt := 30) hx hb dX8_number_6 rfl (fun h => absurd h cq_le_4_3) (fun _ => ?_)
  refine lv_iload_n hx hb dX8_number_9 rfl (lvA1 hl) ?_
  refine lv_bipush (v := 8) hx hb dX8_number_10 kbc_8 ?_
  refine lv_ishl hx hb dX8_number_12 ?_
  refine lv_aload_n hx hb dX8_number_13 rfl (lvA2 hl) ?_
  refine lv_iconst (v := 4) hx hb dX8_number_14 kic_4 ?_
  refine lv_iload_n hx hb dX8_number_15 rfl (lvA3 hl) ?_
  refine lv_imul hx hb dX8_number_16 ?_
  refine lv_iload_n hx hb dX8_number_17 rfl (lvA0 hl) ?_
  refine lv_iadd hx hb dX8_number_18 ?_
  refine vp_callSi (runV_rxa (As := [.int ((4 * v0) + 3)]) (rest := [.int ((((((0 ||| r_2) <<< (8 &&& 31)) ||| r_4) <<< (8 &&& 31)) ||| r_6) <<< (8 &&& 31))]) S (q_Xtat l D cI cB cZ zz qq vv bt g ad cn In Fn ((4 * v0) + 3) hB) kV_RX8_33 hK hXS hS hP 1 xo_1 rfl rfl ⟨Nat.le_of_ble_eq_true rfl, Nat.le_of_ble_eq_true rfl⟩ ⟨Nat.le_of_ble_eq_true rfl, Nat.le_of_ble_eq_true rfl⟩ rfl hl.1 rfl (Nat.le_of_ble_eq_true rfl) dX8_number_19) (fun r_8 h_9 => ?_)
  refine lv_ior hx hb dX8_number_22 ?_
  refine lv_istore_n (lv' := [(2, .int (((((((0 ||| r_2) <<< (8 &&& 31)) ||| r_4) <<< (8 &&& 31)) ||| r_6) <<< (8 &&& 31)) ||| r_8)), (3, .int 3), (0, .ref (g 5)), (1, .int v0)]) hx hb dX8_number_23 rfl hl (ltb rfl) rfl (fun ls hl => ?_)
  refine lv_iinc (v := 4) (lv' := [(3, .int 4), (2, .int (((((((0 ||| r_2) <<< (8 &&& 31)) ||| r_4) <<< (8 &&& 31)) ||| r_6) <<< (8 &&& 31)) ||| r_8)), (0, .ref (g 5)), (1, .int v0)]) hx hb dX8_number_24 hl (k := 1) rfl (by decide) (ltb rfl) rfl (fun ls hl => ?_)
  refine lv_goto (tgt := 4) hx hb dX8_number_27 rfl ?_
  refine lv_iload_n hx hb dX8_number_4 rfl (lvA0 hl) ?_
  refine lv_iconst (v := 4) hx hb dX8_number_5 kic_4 ?_
  refine lv_icmp_ge (tgt := 30) hx hb dX8_number_6 rfl (fun _ => ?_) (fun h => absurd h cq_le_4_4)
  refine lv_iload_n hx hb (oc_28 30 (aq_6 shX8_number_24)) rfl (lvA1 hl) ?_
  exact W.iret (v := (((((((0 ||| r_2) <<< (8 &&& 31)) ||| r_4) <<< (8 &&& 31)) ||| r_6) <<< (8 &&& 31)) ||| r_8)) hx hb hr (fun t ht hW => ⟨(((((((0 ||| r_2) <<< (8 &&& 31)) ||| r_4) <<< (8 &&& 31)) ||| r_6) <<< (8 &&& 31)) ||| r_8), rfl, trivial, ht⟩) (fun _ h => absurd h List.not_mem_nil) (oc_172 31 (aq_7 shX8_number_24))
set_option maxRecDepth 100000 in
set_option maxHeartbeats 4000000 in
theorem q_Xfeed (l : Launch) (D : va_G) (cI cB cZ : ClassId) (zz qq vv : Nat) (bt : Nat → Int32) (g : Nat → Nat) (ad : Nat → Nat → Nat) (cn : Nat → Nat) (In : Nat → Int32) (Fn : Nat → Nat → Int32) (v0 v1 v2 v3 v4 : Int32) (sz : Nat) (hB : CBX cn) : Met l yX11_feed (CWS yX11_feed cX11_feed 6 (some .int)) (RM 2 0 0) (PBx [.ref (g 0), .int v0, .int v1, .int v2, .int v3, .int v4] D cI cB cZ zz qq vv bt (wX cI (D.1 99) zz g ad cn In Fn) sz) (va_Qi (fun (r : Int32) (u : (Nat → Nat) × (Nat → Int32) × (Nat → Nat → Int32)) => (fun r c2 I2 F2 => Fr [3] [] [40] cn In Fn c2 I2 F2 ∧ CBX c2 ∧ (True)) r u.1 u.2.1 u.2.2) (fun (u : (Nat → Nat) × (Nat → Int32) × (Nat → Nat → Int32)) (t : State) => va_P D vwCl (wX cI (D.1 99) zz g ad u.1 u.2.1 u.2.2) t.heap ∧ va_D (va_A (wX cI (D.1 99) zz g ad cn In Fn) sz) (wX cI (D.1 99) zz g ad u.1 u.2.1 u.2.2)) (va_A (wX cI (D.1 99) zz g ad cn In Fn) sz)) 0 0 (va_A (wX cI (D.1 99) zz g ad cn In Fn) sz) := by
  refine en_x (fun A => (va_Qi (fun (r : Int32) (u : (Nat → Nat) × (Nat → Int32) × (Nat → Nat → Int32)) => (fun (r : Int32) (c2 : Nat → Nat) (I2 : Nat → Int32) (F2 : Nat → Nat → Int32) => Fr [3] [] [40] cn In Fn c2 I2 F2 ∧ CBX c2 ∧ (True)) r u.1 u.2.1 u.2.2) (fun (u : (Nat → Nat) × (Nat → Int32) × (Nat → Nat → Int32)) (t : State) => va_P D vwCl (wX cI (D.1 99) zz g ad u.1 u.2.1 u.2.2) t.heap ∧ va_D A (wX cI (D.1 99) zz g ad u.1 u.2.1 u.2.2)) A)) rfl rfl pn_RX11 (Nat.le_of_ble_eq_true rfl) (fun p e s m below meth c A hx hb hml hown S hr hlocks hnm hA hP hK hD hXS hS ls hl => ?_)
  have hl : lv_has ls 6 [(0, .ref (g 0)), (1, .int v0), (2, .int v1), (3, .int v2), (4, .int v3), (5, .int v4)] := hl
  have hb_cn : Hid (CBX cn) := hB
  replace hB : CBXh cn := hB
  refine lv_aload_n hx hb (oc_42 0 shX11_feed_0) rfl (lvA0 hl) ?_
  refine gf_RX11_21 S hK hP 0 xo_0 (v := .ref (g 5)) rfl (oc_180 1 (aq_1 shX11_feed_0) uw_0_21) ?_
  refine vp_callSi (runV_rxa (As := []) (rest := []) S (q_Xlength l D cI cB cZ zz qq vv bt g ad cn In Fn  hB) kV_RX11_152 hK hXS hS hP 1 xo_1 rfl rfl ⟨Nat.le_of_ble_eq_true rfl, Nat.le_of_ble_eq_true rfl⟩ ⟨Nat.le_of_ble_eq_true rfl, Nat.le_of_ble_eq_true rfl⟩ rfl hl.1 rfl (Nat.le_of_ble_eq_true rfl) (oc_182 4 (aq_4 shX11_feed_0) uw_0_152)) (fun r_1 h_2 => ?_)
  subst h_2
  refine lv_bipush (v := 20) hx hb (oc_16 7 (aq_7 shX11_feed_0) sgb_20) kbc_20 ?_
  refine lv_iadd hx hb (oc_96 9 (aq_9 shX11_feed_0)) ?_
  refine lv_topi (fun y_3 ey_3 => ?_)
  obtain rfl : y_3 = (nI (((cn 3)) + 20)) := ey_3.trans (nI_add ((cn 3)) 20)
  refine lv_sipush (v := 200) hx hb (oc_17 10 (aq_10 shX11_feed_0) sgw_0_200) (by decide) ?_
  have : (nI (((cn 3)) + 20)).toInt = (((((cn 3)) + 20) : Nat) : Int) := nI_toInt (by (first | omega | (have zz0 := Hid.u hb_cn; omega)))
  refine lv_icmp_le (tgt := 18) hx hb (oc_164 13 (aq_13 shX11_feed_0) sgw_0_5) rfl (fun c_4 => ?_) (fun c_4 => ?_)
  ·
    have tc_4 : ((nI (((cn 3)) + 20)).toInt : Int) ≤ 200 := Int32.le_iff_toInt_le.mp c_4
    refine lv_aload_n hx hb (oc_42 18 (aq_18 shX11_feed_0)) rfl (lvA0 hl) ?_
    refine gf_RX11_21 S hK hP 0 xo_0 (v := .ref (g 5)) rfl (oc_180 19 (aq_19 shX11_feed_0) uw_0_21) ?_
    refine lv_iload_n hx hb (oc_27 22 (aq_22 shX11_feed_0)) rfl (lvA1 hl) ?_
    have hFc := free_all hD hS hA
    refine va_callv (runV_xa (As := [.int v0]) (rest := []) S (q_Xtadd l D cI cB cZ zz qq vv bt g ad cn In Fn v0 s.heap.size hB (by (first | omega | (have zz0 := Hid.u hb_cn; omega)))) kV_RX11_153 hK hXS hS hFc hP hD 1 xo_1 rfl rfl ⟨Nat.le_of_ble_eq_true rfl, Nat.le_of_ble_eq_true rfl⟩ ⟨Nat.le_of_ble_eq_true rfl, Nat.le_of_ble_eq_true rfl⟩ rfl hl.1 rfl (Nat.le_of_ble_eq_true rfl) (oc_182 23 (aq_23 shX11_feed_0) uw_0_153)) hS (fun q _ h => hFc q h) hFc (fun u t H1 locs ht hvm wh_6 hB1 hz1 hk1 hS => ?_)
    obtain ⟨cn6, In6, Fn6⟩ := u
    obtain ⟨hP1, hD1⟩ := hB1
    rw [ht] at hP1
    have hP : va_P D vwCl (wX cI (D.1 99) zz g ad cn6 In6 Fn6) H1 := hP1
    have hD : va_D A (wX cI (D.1 99) zz g ad cn6 In6 Fn6) := hD1.weaken (fun _ _ _ h => hFc _ h)
    generalize H1 = H at hP hS ⊢
    have vh_6 : (fun c2 I2 F2 => Fr [3] [] [40] cn In Fn c2 I2 F2 ∧ CBX c2 ∧ (c2 3 = (cn 3) + 4)) cn6 In6 Fn6 := wh_6
    obtain ⟨hfc6, hIn6, h_6⟩ := vh_6
    obtain rfl : In = In6 := (funext (fun k => hfc6.2.1 k List.not_mem_nil)).symm
    have hf6 : Fr [3] [] [40] cn In Fn cn6 In Fn6 := Fr.mo (Fr.tr (Fr.rf (cn := cn) (In := In) (Fn := Fn)) hfc6) (sbl rfl) (sbl rfl) (sbl rfl)
    have hb_cn6 : Hid (CBX cn6) := hIn6
    replace hIn6 : CBXh cn6 := hIn6
    have : cn6 6 = (cn 6) := hfc6.1 6 (nml rfl)
    have : cn6 31 = (cn 31) := hfc6.1 31 (nml rfl)
    have : cn6 32 = (cn 32) := hfc6.1 32 (nml rfl)
    have hq_cn6 : Hid (cn6 0 = (cn 0) ∧ cn6 1 = (cn 1) ∧ cn6 2 = (cn 2) ∧ cn6 4 = (cn 4) ∧ cn6 5 = (cn 5) ∧ cn6 10 = (cn 10) ∧ cn6 11 = (cn 11) ∧ cn6 12 = (cn 12) ∧ cn6 13 = (cn 13) ∧ cn6 14 = (cn 14) ∧ cn6 15 = (cn 15) ∧ cn6 20 = (cn 20) ∧ cn6 21 = (cn 21) ∧ cn6 22 = (cn 22) ∧ cn6 23 = (cn 23) ∧ cn6 24 = (cn 24) ∧ cn6 25 = (cn 25)) := Hid.i (p := cn6 0 = (cn 0) ∧ cn6 1 = (cn 1) ∧ cn6 2 = (cn 2) ∧ cn6 4 = (cn 4) ∧ cn6 5 = (cn 5) ∧ cn6 10 = (cn 10) ∧ cn6 11 = (cn 11) ∧ cn6 12 = (cn 12) ∧ cn6 13 = (cn 13) ∧ cn6 14 = (cn 14) ∧ cn6 15 = (cn 15) ∧ cn6 20 = (cn 20) ∧ cn6 21 = (cn 21) ∧ cn6 22 = (cn 22) ∧ cn6 23 = (cn 23) ∧ cn6 24 = (cn 24) ∧ cn6 25 = (cn 25)) ⟨hfc6.1 0 (nml rfl), hfc6.1 1 (nml rfl), hfc6.1 2 (nml rfl), hfc6.1 4 (nml rfl), hfc6.1 5 (nml rfl), hfc6.1 10 (nml rfl), hfc6.1 11 (nml rfl), hfc6.1 12 (nml rfl), hfc6.1 13 (nml rfl), hfc6.1 14 (nml rfl), hfc6.1 15 (nml rfl), hfc6.1 20 (nml rfl), hfc6.1 21 (nml rfl), hfc6.1 22 (nml rfl), hfc6.1 23 (nml rfl), hfc6.1 24 (nml rfl), hfc6.1 25 (nml rfl)⟩
    refine lv_aload_n hx hb (oc_42 26 shX11_feed_26) rfl (lvA0 hl) ?_
    refine gf_RX11_21 S hK hP 0 xo_0 (v := .ref (g 5)) rfl (oc_180 27 (aq_1 shX11_feed_26) uw_0_21) ?_
    refine lv_iload_n hx hb (oc_28 30 (aq_4 shX11_feed_26)) rfl (lvA2 hl) ?_
    have hFc := free_all hD hS hA
    refine va_callv (runV_xa (As := [.int v1]) (rest := []) S (q_Xtadd l D cI cB cZ zz qq vv bt g ad cn6 In Fn6 v1 H.size hIn6 (by (first | omega | (have zz0 := Hid.u hb_cn; have zz1 := Hid.u hb_cn6; have zz2 := Hid.u hq_cn6; omega)))) kV_RX11_153 hK hXS hS hFc hP hD 1 xo_1 rfl rfl ⟨Nat.le_of_ble_eq_true rfl, Nat.le_of_ble_eq_true rfl⟩ ⟨Nat.le_of_ble_eq_true rfl, Nat.le_of_ble_eq_true rfl⟩ rfl hl.1 rfl (Nat.le_of_ble_eq_true rfl) (oc_182 31 (aq_5 shX11_feed_26) uw_0_153)) hS (fun q _ h => hFc q h) hFc (fun u t H1 locs ht hvm wh_8 hB1 hz1 hk1 hS => ?_)
    obtain ⟨cn8, In8, Fn8⟩ := u
    obtain ⟨hP1, hD1⟩ := hB1
    rw [ht] at hP1
    have hP : va_P D vwCl (wX cI (D.1 99) zz g ad cn8 In8 Fn8) H1 := hP1
    have hD : va_D A (wX cI (D.1 99) zz g ad cn8 In8 Fn8) := hD1.weaken (fun _ _ _ h => hFc _ h)
    generalize H1 = H at hP hS ⊢
    have vh_8 : (fun c2 I2 F2 => Fr [3] [] [40] cn6 In Fn6 c2 I2 F2 ∧ CBX c2 ∧ (c2 3 = (cn6 3) + 4)) cn8 In8 Fn8 := wh_8
    obtain ⟨hfc8, hIn8, h_8⟩ := vh_8
    obtain rfl : In = In8 := (funext (fun k => hfc8.2.1 k List.not_mem_nil)).symm
    have hf8 : Fr [3] [] [40] cn In Fn cn8 In Fn8 := Fr.mo (Fr.tr hf6 hfc8) (sbl rfl) (sbl rfl) (sbl rfl)
    have hb_cn8 : Hid (CBX cn8) := hIn8
    replace hIn8 : CBXh cn8 := hIn8
    have : cn8 6 = (cn6 6) := hfc8.1 6 (nml rfl)
    have : cn8 31 = (cn6 31) := hfc8.1 31 (nml rfl)
    have : cn8 32 = (cn6 32) := hfc8.1 32 (nml rfl)
    have hq_cn8 : Hid (cn8 0 = (cn6 0) ∧ cn8 1 = (cn6 1) ∧ cn8 2 = (cn6 2) ∧ cn8 4 = (cn6 4) ∧ cn8 5 = (cn6 5) ∧ cn8 10 = (cn6 10) ∧ cn8 11 = (cn6 11) ∧ cn8 12 = (cn6 12) ∧ cn8 13 = (cn6 13) ∧ cn8 14 = (cn6 14) ∧ cn8 15 = (cn6 15) ∧ cn8 20 = (cn6 20) ∧ cn8 21 = (cn6 21) ∧ cn8 22 = (cn6 22) ∧ cn8 23 = (cn6 23) ∧ cn8 24 = (cn6 24) ∧ cn8 25 = (cn6 25)) := Hid.i (p := cn8 0 = (cn6 0) ∧ cn8 1 = (cn6 1) ∧ cn8 2 = (cn6 2) ∧ cn8 4 = (cn6 4) ∧ cn8 5 = (cn6 5) ∧ cn8 10 = (cn6 10) ∧ cn8 11 = (cn6 11) ∧ cn8 12 = (cn6 12) ∧ cn8 13 = (cn6 13) ∧ cn8 14 = (cn6 14) ∧ cn8 15 = (cn6 15) ∧ cn8 20 = (cn6 20) ∧ cn8 21 = (cn6 21) ∧ cn8 22 = (cn6 22) ∧ cn8 23 = (cn6 23) ∧ cn8 24 = (cn6 24) ∧ cn8 25 = (cn6 25)) ⟨hfc8.1 0 (nml rfl), hfc8.1 1 (nml rfl), hfc8.1 2 (nml rfl), hfc8.1 4 (nml rfl), hfc8.1 5 (nml rfl), hfc8.1 10 (nml rfl), hfc8.1 11 (nml rfl), hfc8.1 12 (nml rfl), hfc8.1 13 (nml rfl), hfc8.1 14 (nml rfl), hfc8.1 15 (nml rfl), hfc8.1 20 (nml rfl), hfc8.1 21 (nml rfl), hfc8.1 22 (nml rfl), hfc8.1 23 (nml rfl), hfc8.1 24 (nml rfl), hfc8.1 25 (nml rfl)⟩
    refine lv_aload_n hx hb (oc_42 34 (aq_8 shX11_feed_26)) rfl (lvA0 hl) ?_
    refine gf_RX11_21 S hK hP 0 xo_0 (v := .ref (g 5)) rfl (oc_180 35 (aq_9 shX11_feed_26) uw_0_21) ?_
    refine lv_iload_n hx hb (oc_29 38 (aq_12 shX11_feed_26)) rfl (lvA3 hl) ?_
    have hFc := free_all hD hS hA
    refine va_callv (runV_xa (As := [.int v2]) (rest := []) S (q_Xtadd l D cI cB cZ zz qq vv bt g ad cn8 In Fn8 v2 H.size hIn8 (by (first | omega | (have zz0 := Hid.u hb_cn; have zz1 := Hid.u hb_cn6; have zz2 := Hid.u hb_cn8; have zz3 := Hid.u hq_cn6; have zz4 := Hid.u hq_cn8; omega)))) kV_RX11_153 hK hXS hS hFc hP hD 1 xo_1 rfl rfl ⟨Nat.le_of_ble_eq_true rfl, Nat.le_of_ble_eq_true rfl⟩ ⟨Nat.le_of_ble_eq_true rfl, Nat.le_of_ble_eq_true rfl⟩ rfl hl.1 rfl (Nat.le_of_ble_eq_true rfl) (oc_182 39 (aq_13 shX11_feed_26) uw_0_153)) hS (fun q _ h => hFc q h) hFc (fun u t H1 locs ht hvm wh_10 hB1 hz1 hk1 hS => ?_)
    obtain ⟨cn10, In10, Fn10⟩ := u
    obtain ⟨hP1, hD1⟩ := hB1
    rw [ht] at hP1
    have hP : va_P D vwCl (wX cI (D.1 99) zz g ad cn10 In10 Fn10) H1 := hP1
    have hD : va_D A (wX cI (D.1 99) zz g ad cn10 In10 Fn10) := hD1.weaken (fun _ _ _ h => hFc _ h)
    generalize H1 = H at hP hS ⊢
    have vh_10 : (fun c2 I2 F2 => Fr [3] [] [40] cn8 In Fn8 c2 I2 F2 ∧ CBX c2 ∧ (c2 3 = (cn8 3) + 4)) cn10 In10 Fn10 := wh_10
    obtain ⟨hfc10, hIn10, h_10⟩ := vh_10
    obtain rfl : In = In10 := (funext (fun k => hfc10.2.1 k List.not_mem_nil)).symm
    have hf10 : Fr [3] [] [40] cn In Fn cn10 In Fn10 := Fr.mo (Fr.tr hf8 hfc10) (sbl rfl) (sbl rfl) (sbl rfl)
    have hb_cn10 : Hid (CBX cn10) := hIn10
    replace hIn10 : CBXh cn10 := hIn10
    have : cn10 6 = (cn8 6) := hfc10.1 6 (nml rfl)
    have : cn10 31 = (cn8 31) := hfc10.1 31 (nml rfl)
    have : cn10 32 = (cn8 32) := hfc10.1 32 (nml rfl)
    have hq_cn10 : Hid (cn10 0 = (cn8 0) ∧ cn10 1 = (cn8 1) ∧ cn10 2 = (cn8 2) ∧ cn10 4 = (cn8 4) ∧ cn10 5 = (cn8 5) ∧ cn10 10 = (cn8 10) ∧ cn10 11 = (cn8 11) ∧ cn10 12 = (cn8 12) ∧ cn10 13 = (cn8 13) ∧ cn10 14 = (cn8 14) ∧ cn10 15 = (cn8 15) ∧ cn10 20 = (cn8 20) ∧ cn10 21 = (cn8 21) ∧ cn10 22 = (cn8 22) ∧ cn10 23 = (cn8 23) ∧ cn10 24 = (cn8 24) ∧ cn10 25 = (cn8 25)) := Hid.i (p := cn10 0 = (cn8 0) ∧ cn10 1 = (cn8 1) ∧ cn10 2 = (cn8 2) ∧ cn10 4 = (cn8 4) ∧ cn10 5 = (cn8 5) ∧ cn10 10 = (cn8 10) ∧ cn10 11 = (cn8 11) ∧ cn10 12 = (cn8 12) ∧ cn10 13 = (cn8 13) ∧ cn10 14 = (cn8 14) ∧ cn10 15 = (cn8 15) ∧ cn10 20 = (cn8 20) ∧ cn10 21 = (cn8 21) ∧ cn10 22 = (cn8 22) ∧ cn10 23 = (cn8 23) ∧ cn10 24 = (cn8 24) ∧ cn10 25 = (cn8 25)) ⟨hfc10.1 0 (nml rfl), hfc10.1 1 (nml rfl), hfc10.1 2 (nml rfl), hfc10.1 4 (nml rfl), hfc10.1 5 (nml rfl), hfc10.1 10 (nml rfl), hfc10.1 11 (nml rfl), hfc10.1 12 (nml rfl), hfc10.1 13 (nml rfl), hfc10.1 14 (nml rfl), hfc10.1 15 (nml rfl), hfc10.1 20 (nml rfl), hfc10.1 21 (nml rfl), hfc10.1 22 (nml rfl), hfc10.1 23 (nml rfl), hfc10.1 24 (nml rfl), hfc10.1 25 (nml rfl)⟩
    refine lv_aload_n hx hb (oc_42 42 (aq_16 shX11_feed_26)) rfl (lvA0 hl) ?_
    refine gf_RX11_21 S hK hP 0 xo_0 (v := .ref (g 5)) rfl (oc_180 43 (aq_17 shX11_feed_26) uw_0_21) ?_
    refine lv_iload hx hb (oc_21 46 (aq_20 shX11_feed_26) ub_4) (lvA4 hl) ?_
    have hFc := free_all hD hS hA
    refine va_callv (runV_xa (As := [.int v3]) (rest := []) S (q_Xtadd l D cI cB cZ zz qq vv bt g ad cn10 In Fn10 v3 H.size hIn10 (by (first | omega | (have zz0 := Hid.u hb_cn; have zz1 := Hid.u hb_cn10; have zz2 := Hid.u hb_cn6; have zz3 := Hid.u hb_cn8; have zz4 := Hid.u hq_cn10; have zz5 := Hid.u hq_cn6; have zz6 := Hid.u hq_cn8; omega)))) kV_RX11_153 hK hXS hS hFc hP hD 1 xo_1 rfl rfl ⟨Nat.le_of_ble_eq_true rfl, Nat.le_of_ble_eq_true rfl⟩ ⟨Nat.le_of_ble_eq_true rfl, Nat.le_of_ble_eq_true rfl⟩ rfl hl.1 rfl (Nat.le_of_ble_eq_true rfl) (oc_182 48 (aq_22 shX11_feed_26) uw_0_153)) hS (fun q _ h => hFc q h) hFc (fun u t H1 locs ht hvm wh_12 hB1 hz1 hk1 hS => ?_)
    obtain ⟨cn12, In12, Fn12⟩ := u
    obtain ⟨hP1, hD1⟩ := hB1
    rw [ht] at hP1
    have hP : va_P D vwCl (wX cI (D.1 99) zz g ad cn12 In12 Fn12) H1 := hP1
    have hD : va_D A (wX cI (D.1 99) zz g ad cn12 In12 Fn12) := hD1.weaken (fun _ _ _ h => hFc _ h)
    generalize H1 = H at hP hS ⊢
    have vh_12 : (fun c2 I2 F2 => Fr [3] [] [40] cn10 In Fn10 c2 I2 F2 ∧ CBX c2 ∧ (c2 3 = (cn10 3) + 4)) cn12 In12 Fn12 := wh_12
    obtain ⟨hfc12, hIn12, h_12⟩ := vh_12
    obtain rfl : In = In12 := (funext (fun k => hfc12.2.1 k List.not_mem_nil)).symm
    have hf12 : Fr [3] [] [40] cn In Fn cn12 In Fn12 := Fr.mo (Fr.tr hf10 hfc12) (sbl rfl) (sbl rfl) (sbl rfl)
    have hb_cn12 : Hid (CBX cn12) := hIn12
    replace hIn12 : CBXh cn12 := hIn12
    have : cn12 6 = (cn10 6) := hfc12.1 6 (nml rfl)
    have : cn12 31 = (cn10 31) := hfc12.1 31 (nml rfl)
    have : cn12 32 = (cn10 32) := hfc12.1 32 (nml rfl)
    have hq_cn12 : Hid (cn12 0 = (cn10 0) ∧ cn12 1 = (cn10 1) ∧ cn12 2 = (cn10 2) ∧ cn12 4 = (cn10 4) ∧ cn12 5 = (cn10 5) ∧ cn12 10 = (cn10 10) ∧ cn12 11 = (cn10 11) ∧ cn12 12 = (cn10 12) ∧ cn12 13 = (cn10 13) ∧ cn12 14 = (cn10 14) ∧ cn12 15 = (cn10 15) ∧ cn12 20 = (cn10 20) ∧ cn12 21 = (cn10 21) ∧ cn12 22 = (cn10 22) ∧ cn12 23 = (cn10 23) ∧ cn12 24 = (cn10 24) ∧ cn12 25 = (cn10 25)) := Hid.i (p := cn12 0 = (cn10 0) ∧ cn12 1 = (cn10 1) ∧ cn12 2 = (cn10 2) ∧ cn12 4 = (cn10 4) ∧ cn12 5 = (cn10 5) ∧ cn12 10 = (cn10 10) ∧ cn12 11 = (cn10 11) ∧ cn12 12 = (cn10 12) ∧ cn12 13 = (cn10 13) ∧ cn12 14 = (cn10 14) ∧ cn12 15 = (cn10 15) ∧ cn12 20 = (cn10 20) ∧ cn12 21 = (cn10 21) ∧ cn12 22 = (cn10 22) ∧ cn12 23 = (cn10 23) ∧ cn12 24 = (cn10 24) ∧ cn12 25 = (cn10 25)) ⟨hfc12.1 0 (nml rfl), hfc12.1 1 (nml rfl), hfc12.1 2 (nml rfl), hfc12.1 4 (nml rfl), hfc12.1 5 (nml rfl), hfc12.1 10 (nml rfl), hfc12.1 11 (nml rfl), hfc12.1 12 (nml rfl), hfc12.1 13 (nml rfl), hfc12.1 14 (nml rfl), hfc12.1 15 (nml rfl), hfc12.1 20 (nml rfl), hfc12.1 21 (nml rfl), hfc12.1 22 (nml rfl), hfc12.1 23 (nml rfl), hfc12.1 24 (nml rfl), hfc12.1 25 (nml rfl)⟩
    refine lv_aload_n hx hb (oc_42 51 shX11_feed_51) rfl (lvA0 hl) ?_
    refine gf_RX11_21 S hK hP 0 xo_0 (v := .ref (g 5)) rfl (oc_180 52 (aq_1 shX11_feed_51) uw_0_21) ?_
    refine lv_iload hx hb (oc_21 55 (aq_4 shX11_feed_51) ub_5) (lvA5 hl) ?_
    have hFc := free_all hD hS hA
    refine va_callv (runV_xa (As := [.int v4]) (rest := []) S (q_Xtadd l D cI cB cZ zz qq vv bt g ad cn12 In Fn12 v4 H.size hIn12 (by (first | omega | (have zz0 := Hid.u hb_cn; have zz1 := Hid.u hb_cn10; have zz2 := Hid.u hb_cn12; have zz3 := Hid.u hb_cn6; have zz4 := Hid.u hb_cn8; have zz5 := Hid.u hq_cn10; have zz6 := Hid.u hq_cn12; have zz7 := Hid.u hq_cn6; have zz8 := Hid.u hq_cn8; omega)))) kV_RX11_153 hK hXS hS hFc hP hD 1 xo_1 rfl rfl ⟨Nat.le_of_ble_eq_true rfl, Nat.le_of_ble_eq_true rfl⟩ ⟨Nat.le_of_ble_eq_true rfl, Nat.le_of_ble_eq_true rfl⟩ rfl hl.1 rfl (Nat.le_of_ble_eq_true rfl) (oc_182 57 (aq_6 shX11_feed_51) uw_0_153)) hS (fun q _ h => hFc q h) hFc (fun u t H1 locs ht hvm wh_14 hB1 hz1 hk1 hS => ?_)
    obtain ⟨cn14, In14, Fn14⟩ := u
    obtain ⟨hP1, hD1⟩ := hB1
    rw [ht] at hP1
    have hP : va_P D vwCl (wX cI (D.1 99) zz g ad cn14 In14 Fn14) H1 := hP1
    have hD : va_D A (wX cI (D.1 99) zz g ad cn14 In14 Fn14) := hD1.weaken (fun _ _ _ h => hFc _ h)
    generalize H1 = H at hP hS ⊢
    have vh_14 : (fun c2 I2 F2 => Fr [3] [] [40] cn12 In Fn12 c2 I2 F2 ∧ CBX c2 ∧ (c2 3 = (cn12 3) + 4)) cn14 In14 Fn14 := wh_14
    obtain ⟨hfc14, hIn14, h_14⟩ := vh_14
    obtain rfl : In = In14 := (funext (fun k => hfc14.2.1 k List.not_mem_nil)).symm
    have hf14 : Fr [3] [] [40] cn In Fn cn14 In Fn14 := Fr.mo (Fr.tr hf12 hfc14) (sbl rfl) (sbl rfl) (sbl rfl)
    have hb_cn14 : Hid (CBX cn14) := hIn14
    replace hIn14 : CBXh cn14 := hIn14
    have : cn14 6 = (cn12 6) := hfc14.1 6 (nml rfl)
    have : cn14 31 = (cn12 31) := hfc14.1 31 (nml rfl)
    have : cn14 32 = (cn12 32) := hfc14.1 32 (nml rfl)
    have hq_cn14 : Hid (cn14 0 = (cn12 0) ∧ cn14 1 = (cn12 1) ∧ cn14 2 = (cn12 2) ∧ cn14 4 = (cn12 4) ∧ cn14 5 = (cn12 5) ∧ cn14 10 = (cn12 10) ∧ cn14 11 = (cn12 11) ∧ cn14 12 = (cn12 12) ∧ cn14 13 = (cn12 13) ∧ cn14 14 = (cn12 14) ∧ cn14 15 = (cn12 15) ∧ cn14 20 = (cn12 20) ∧ cn14 21 = (cn12 21) ∧ cn14 22 = (cn12 22) ∧ cn14 23 = (cn12 23) ∧ cn14 24 = (cn12 24) ∧ cn14 25 = (cn12 25)) := Hid.i (p := cn14 0 = (cn12 0) ∧ cn14 1 = (cn12 1) ∧ cn14 2 = (cn12 2) ∧ cn14 4 = (cn12 4) ∧ cn14 5 = (cn12 5) ∧ cn14 10 = (cn12 10) ∧ cn14 11 = (cn12 11) ∧ cn14 12 = (cn12 12) ∧ cn14 13 = (cn12 13) ∧ cn14 14 = (cn12 14) ∧ cn14 15 = (cn12 15) ∧ cn14 20 = (cn12 20) ∧ cn14 21 = (cn12 21) ∧ cn14 22 = (cn12 22) ∧ cn14 23 = (cn12 23) ∧ cn14 24 = (cn12 24) ∧ cn14 25 = (cn12 25)) ⟨hfc14.1 0 (nml rfl), hfc14.1 1 (nml rfl), hfc14.1 2 (nml rfl), hfc14.1 4 (nml rfl), hfc14.1 5 (nml rfl), hfc14.1 10 (nml rfl), hfc14.1 11 (nml rfl), hfc14.1 12 (nml rfl), hfc14.1 13 (nml rfl), hfc14.1 14 (nml rfl), hfc14.1 15 (nml rfl), hfc14.1 20 (nml rfl), hfc14.1 21 (nml rfl), hfc14.1 22 (nml rfl), hfc14.1 23 (nml rfl), hfc14.1 24 (nml rfl), hfc14.1 25 (nml rfl)⟩
    refine lv_aload_n hx hb (oc_42 60 (aq_9 shX11_feed_51)) rfl (lvA0 hl) ?_
    refine gf_RX11_21 S hK hP 0 xo_0 (v := .ref (g 5)) rfl (oc_180 61 (aq_10 shX11_feed_51) uw_0_21) ?_
    refine vp_callSi (runV_rxa (As := []) (rest := []) S (q_Xlength l D cI cB cZ zz qq vv bt g ad cn14 In Fn14  hIn14) kV_RX11_152 hK hXS hS hP 1 xo_1 rfl rfl ⟨Nat.le_of_ble_eq_true rfl, Nat.le_of_ble_eq_true rfl⟩ ⟨Nat.le_of_ble_eq_true rfl, Nat.le_of_ble_eq_true rfl⟩ rfl hl.1 rfl (Nat.le_of_ble_eq_true rfl) (oc_182 64 (aq_13 shX11_feed_51) uw_0_152)) (fun r_15 h_16 => ?_)
    subst h_16
    exact W.iret (v := (nI ((cn14 3)))) hx hb hr (fun t ht hW => ⟨⟨(nI ((cn14 3))), (cn14, In, Fn14), rfl, ⟨(Fr.mo hf14 (sbl rfl) (sbl rfl) (sbl rfl)), hIn14, trivial⟩, by rw [ht]; exact hP, hD⟩, hS.F ht⟩) hS.2.2 (oc_172 67 (aq_16 shX11_feed_51))
  ·
    have tc_4 : (200 : Int) < (nI (((cn 3)) + 20)).toInt := Int32.lt_iff_toInt_lt.mp (Int32.not_le.mp c_4)
    refine lv_iconst (v := (-1)) hx hb (oc_2 16 (aq_16 shX11_feed_0)) kic_m1 ?_
    exact W.iret (v := (-1)) hx hb hr (fun t ht hW => ⟨⟨(-1), (cn, In, Fn), rfl, ⟨(Fr.mo Fr.rf (sbl rfl) (sbl rfl) (sbl rfl)), hB, trivial⟩, by rw [ht]; exact hP, hD⟩, hS.F ht⟩) hS.2.2 (oc_172 17 (aq_17 shX11_feed_0))
set_option maxRecDepth 100000 in
set_option maxHeartbeats 4000000 in
theorem q_Xsets (l : Launch) (D : va_G) (cI cB cZ : ClassId) (zz qq vv : Nat) (bt : Nat → Int32) (g : Nat → Nat) (ad : Nat → Nat → Nat) (cn : Nat → Nat) (In : Nat → Int32) (Fn : Nat → Nat → Int32) (v0 v1 : Int32) (hB : CBX cn) : Met l yX11_sets (CWS yX11_sets cX11_sets 3 (some .boolean)) (RM 1 0 0) (PBrx [.ref (g 0), .int v0, .int v1] D cI cB cZ zz qq vv bt (wX cI (D.1 99) zz g ad cn In Fn)) (vp_Si (fun _ => True)) 0 0 (fun _ => False) := by
  refine en_rx rfl pn_RX11 (Nat.le_of_ble_eq_true rfl) (fun p e s m below meth c hx hb hml hown S hr hlocks hnm hP hK hXS hS ls hl => ?_)
  have hl : lv_has ls 3 [(0, .ref (g 0)), (1, .int v0), (2, .int v1)] := hl
  have hb_cn : Hid (CBX cn) := hB
  replace hB : CBXh cn := hB
  refine lv_aload_n hx hb (oc_42 0 shX11_sets_0) rfl (lvA0 hl) ?_
  refine gf_RX11_47 S hK hP 0 xo_0 (v := .ref (g 8)) rfl (oc_180 1 (aq_1 shX11_sets_0) uw_0_47) ?_
  refine gf_RX11_486 S hK hP 6 xo_6 (v := .ref (g 22)) rfl (oc_180 4 (aq_4 shX11_sets_0) uw_1_230) ?_
  refine lv_iload_n hx hb (oc_27 7 (aq_7 shX11_sets_0)) rfl (lvA1 hl) ?_
  refine vp_callSi (runS_r (As := [.ref (g 22), .int v0]) (rest := []) S (q_l_at l D cI cB cZ (g 22) 400 (Fn 22) v0 (by (first | omega | (have zz0 := Hid.u hb_cn; omega)))) kS_RX11_192 hK hP [9] (one_is xo_9) ⟨Nat.le_of_ble_eq_true rfl, Nat.le_of_ble_eq_true rfl⟩ ⟨Nat.le_of_ble_eq_true rfl, Nat.le_of_ble_eq_true rfl⟩ rfl hl.1 rfl (Nat.le_of_ble_eq_true rfl) (oc_184 8 (aq_8 shX11_sets_0) uw_0_192)) (fun r_1 h_2 => ?_)
  subst h_2
  refine lv_iload_n hx hb (oc_28 11 (aq_11 shX11_sets_0)) rfl (lvA2 hl) ?_
  refine lv_icmp_ge (tgt := 19) hx hb (oc_162 12 (aq_12 shX11_sets_0) sgw_0_7) rfl (fun c_3 => ?_) (fun c_3 => ?_)
  ·
    have tc_3 : (v1.toInt : Int) ≤ (atM (Fn 22) 400 v0).toInt := Int32.le_iff_toInt_le.mp c_3
    refine lv_iconst (v := 0) hx hb (oc_3 19 (aq_19 shX11_sets_0)) kic_0 ?_
    exact W.zret (v := 0) hx hb hr rfl (fun t ht hW => ⟨0, rfl, trivial, ht⟩) (fun _ h => absurd h List.not_mem_nil) dX11_sets_20
  ·
    have tc_3 : ((atM (Fn 22) 400 v0).toInt : Int) < v1.toInt := Int32.lt_iff_toInt_lt.mp (Int32.not_le.mp c_3)
    refine lv_iconst (v := 1) hx hb (oc_4 15 (aq_15 shX11_sets_0)) kic_1 ?_
    refine lv_goto (tgt := 20) hx hb (oc_167 16 (aq_16 shX11_sets_0) sgw_0_4) rfl ?_
    exact W.zret (v := 1) hx hb hr rfl (fun t ht hW => ⟨1, rfl, trivial, ht⟩) (fun _ h => absurd h List.not_mem_nil) dX11_sets_20
set_option maxRecDepth 100000 in
set_option maxHeartbeats 4000000 in
theorem q_Xfirst (l : Launch) (D : va_G) (cI cB cZ : ClassId) (zz qq vv : Nat) (bt : Nat → Int32) (g : Nat → Nat) (ad : Nat → Nat → Nat) (cn : Nat → Nat) (In : Nat → Int32) (Fn : Nat → Nat → Int32) (v0 v1 : Int32) (hB : CBX cn) : Met l yX11_first (CWS yX11_first cX11_first 4 (some .int)) (RM 2 0 0) (PBrx [.ref (g 0), .int v0, .int v1] D cI cB cZ zz qq vv bt (wX cI (D.1 99) zz g ad cn In Fn)) (vp_Si (fun _ => True)) 0 0 (fun _ => False) := by
  refine en_rx rfl pn_RX11 (Nat.le_of_ble_eq_true rfl) (fun p e s m below meth c hx hb hml hown S hr hlocks hnm hP hK hXS hS ls hl => ?_)
  have hl : lv_has ls 4 [(0, .ref (g 0)), (1, .int v0), (2, .int v1)] := hl
  have hb_cn : Hid (CBX cn) := hB
  replace hB : CBXh cn := hB
  refine lv_iload_n hx hb (oc_27 0 shX11_first_0) rfl (lvA1 hl) ?_
  refine vp_callSi (runS_r (As := [.int v0]) (rest := []) S (q_l_isDay l D cI cB cZ v0) kS_RX11_99 hK hP [] rfl ⟨Nat.le_of_ble_eq_true rfl, Nat.le_of_ble_eq_true rfl⟩ ⟨Nat.le_of_ble_eq_true rfl, Nat.le_of_ble_eq_true rfl⟩ rfl hl.1 rfl (Nat.le_of_ble_eq_true rfl) (oc_184 1 (aq_1 shX11_first_0) uw_0_99)) (fun r_1 h_2 => ?_)
  rcases h_2 with ⟨rfl, h_2⟩ | ⟨rfl, h_2⟩
  ·
    have h_2 : 0 ≤ v0.toInt ∧ v0.toInt ≤ 399 := h_2
    refine lv_if_eq (tgt := 18) hx hb dX11_first_4 rfl (fun h => absurd h cq_eq_1_0) (fun _ => ?_)
    refine lv_iload_n hx hb (oc_28 7 (aq_7 shX11_first_0)) rfl (lvA2 hl) ?_
    refine lv_bipush (v := (-40)) hx hb (oc_16 8 (aq_8 shX11_first_0) sgb_216) kbc_m40 ?_
    refine lv_bipush (v := 41) hx hb (oc_16 10 (aq_10 shX11_first_0) sgb_41) kbc_41 ?_
    refine vp_callSi (runS_r (As := [.int v1, .int (-40), .int 41]) (rest := []) S (q_l_within l D cI cB cZ v1 (-40) 41) kS_RX11_80 hK hP [] rfl ⟨Nat.le_of_ble_eq_true rfl, Nat.le_of_ble_eq_true rfl⟩ ⟨Nat.le_of_ble_eq_true rfl, Nat.le_of_ble_eq_true rfl⟩ rfl hl.1 rfl (Nat.le_of_ble_eq_true rfl) (oc_184 12 (aq_12 shX11_first_0) uw_0_80)) (fun r_3 h_4 => ?_)
    rcases h_4 with ⟨rfl, h_4⟩ | ⟨rfl, h_4⟩
    ·
      have h_4 : (-40) ≤ v1.toInt ∧ v1.toInt ≤ 41 := h_4
      refine lv_if_ne (tgt := 20) hx hb dX11_first_15 rfl (fun _ => ?_) (fun h => absurd h cq_eq_1_0)
      obtain ⟨d0, hd0, rfl⟩ := nI_of (x := v0) (fun q => by have := Int32.lt_iff_toInt_lt.mp q; have e : (0 : Int32).toInt = 0 := rfl; (first | omega | (have zz0 := Hid.u hb_cn; omega)))
      have td0 : (nI d0).toInt = (d0 : Int) := nI_toInt hd0
      have zd0 : (nI d0).toInt.toNat = d0 := by (first | omega | (have zz0 := Hid.u hb_cn; omega))
      refine lv_iload_n hx hb (oc_27 20 (aq_20 shX11_first_0)) rfl (lvA1 hl) ?_
      refine lv_istore_n (lv' := [(3, .int (nI d0)), (0, .ref (g 0)), (1, .int (nI d0)), (2, .int v1)]) hx hb (oc_62 21 (aq_21 shX11_first_0)) rfl hl (ltb rfl) rfl (fun ls hl => ?_)
      have lp_22 : ∀ (n : Nat) (i22 : Nat) , 400 - i22 < n → (i22 ≤ 400) → ∀ ls : Array Slot, lv_has ls 4 [(3, .int (nI i22)), (0, .ref (g 0)), (1, .int (nI d0)), (2, .int v1)] → W p l e (RM 2 0 0) s m ([.ref (g 0), .int (nI d0), .int v1]).toArray below meth c s.heap [] 0 0 (MQ below (vp_Si (fun _ => True)) ([.ref (g 0), .int (nI d0), .int v1]).toArray s 0 0 (fun _ => False)) (F0 m 22 ls []) := by
        intro n22
        induction n22 with
        | zero => intros; (first | omega | (have zz0 := Hid.u hb_cn; omega))
        | succ n22 ih22 =>
          intro i22 hmu22 hinv22 ls hl
          have hr22 := hinv22
          have ti22 : (nI i22).toInt = (i22 : Int) := nI_toInt (by (first | omega | (have zz0 := Hid.u hb_cn; omega)))
          refine lv_iload_n hx hb (oc_29 22 (aq_22 shX11_first_0)) rfl (lvA0 hl) ?_
          refine lv_sipush (v := 400) hx hb (oc_17 23 (aq_23 shX11_first_0) sgw_1_144) (by decide) ?_
          refine lv_icmp_ge (tgt := 46) hx hb (oc_162 26 shX11_first_26 sgw_0_20) rfl (fun c_5 => ?_) (fun c_5 => ?_)
          ·
            have tc_5 : (400 : Int) ≤ (nI i22).toInt := Int32.le_iff_toInt_le.mp c_5
            refine lv_bipush (v := (-2)) hx hb (oc_16 46 (aq_20 shX11_first_26) sgb_254) kbc_m2 ?_
            exact W.iret (v := (-2)) hx hb hr (fun t ht hW => ⟨(-2), rfl, trivial, ht⟩) (fun _ h => absurd h List.not_mem_nil) (oc_172 48 (aq_22 shX11_first_26))
          ·
            have tc_5 : ((nI i22).toInt : Int) < 400 := Int32.lt_iff_toInt_lt.mp (Int32.not_le.mp c_5)
            refine lv_aload_n hx hb (oc_42 29 (aq_3 shX11_first_26)) rfl (lvA1 hl) ?_
            refine lv_iload_n hx hb (oc_29 30 (aq_4 shX11_first_26)) rfl (lvA0 hl) ?_
            refine lv_iload_n hx hb (oc_28 31 (aq_5 shX11_first_26)) rfl (lvA3 hl) ?_
            refine vp_callSi (runV_rxa (As := [.int (nI i22), .int v1]) (rest := []) S (q_Xsets l D cI cB cZ zz qq vv bt g ad cn In Fn (nI i22) v1 hB) kV_RX11_489 hK hXS hS hP 0 xo_0 rfl rfl ⟨Nat.le_of_ble_eq_true rfl, Nat.le_of_ble_eq_true rfl⟩ ⟨Nat.le_of_ble_eq_true rfl, Nat.le_of_ble_eq_true rfl⟩ rfl hl.1 rfl (Nat.le_of_ble_eq_true rfl) (oc_182 32 (aq_6 shX11_first_26) uw_1_233)) (fun r_6 h_7 => ?_)
            refine lv_if_ne (tgt := 40) hx hb (oc_154 35 (aq_9 shX11_first_26) sgw_0_5) rfl (fun c_8 => ?_) (fun c_8 => ?_)
            ·
              have tc_8 : (r_6.toInt : Int) ≠ 0 := fun q => c_8 (Int32.toInt_inj.mp q)
              refine lv_iinc (v := (nI (i22 + 1))) (lv' := [(3, .int (nI (i22 + 1))), (0, .ref (g 0)), (1, .int (nI d0)), (2, .int v1)]) hx hb (oc_132 40 (aq_14 shX11_first_26) ub_3 sgb_1) hl (k := 0) rfl (nI_1 _) (ltb rfl) rfl (fun ls hl => ?_)
              refine lv_goto (tgt := 22) hx hb (oc_167 43 (aq_17 shX11_first_26) sgw_255_235) rfl ?_
              exact ih22 (i22 + 1) (by (first | omega | (have zz0 := Hid.u hb_cn; omega))) (by (first | omega | (have zz0 := Hid.u hb_cn; omega))) ls (lv_sub hl [0, 1, 2, 3] rfl)
            ·
              have tc_8 : (r_6.toInt : Int) = 0 := congrArg Int32.toInt c_8
              refine lv_iload_n hx hb (oc_29 38 (aq_12 shX11_first_26)) rfl (lvA0 hl) ?_
              exact W.iret (v := (nI i22)) hx hb hr (fun t ht hW => ⟨(nI i22), rfl, trivial, ht⟩) (fun _ h => absurd h List.not_mem_nil) (oc_172 39 (aq_13 shX11_first_26))
      exact lp_22 _ d0 (Nat.lt_succ_self _) (by (first | omega | (have zz0 := Hid.u hb_cn; omega))) ls (lv_sub hl [0, 1, 2, 3] rfl)
    ·
      have h_4 : ¬ ((-40) ≤ v1.toInt ∧ v1.toInt ≤ 41) := h_4
      refine lv_if_ne (tgt := 20) hx hb dX11_first_15 rfl (fun h => absurd h cq_eq_0_0) (fun _ => ?_)
      refine lv_iconst (v := (-1)) hx hb dX11_first_18 kic_m1 ?_
      exact W.iret (v := (-1)) hx hb hr (fun t ht hW => ⟨(-1), rfl, trivial, ht⟩) (fun _ h => absurd h List.not_mem_nil) dX11_first_19
  ·
    have h_2 : ¬ (0 ≤ v0.toInt ∧ v0.toInt ≤ 399) := h_2
    refine lv_if_eq (tgt := 18) hx hb dX11_first_4 rfl (fun _ => ?_) (fun h => absurd h cq_eq_0_0)
    refine lv_iconst (v := (-1)) hx hb dX11_first_18 kic_m1 ?_
    exact W.iret (v := (-1)) hx hb hr (fun t ht hW => ⟨(-1), rfl, trivial, ht⟩) (fun _ h => absurd h List.not_mem_nil) dX11_first_19
set_option maxRecDepth 100000 in
set_option maxHeartbeats 4000000 in
theorem q_XisText (l : Launch) (D : va_G) (cI cB cZ : ClassId) (zz qq vv : Nat) (bt : Nat → Int32) (g : Nat → Nat) (ad : Nat → Nat → Nat) (cn : Nat → Nat) (In : Nat → Int32) (Fn : Nat → Nat → Int32) (v0 : Int32) (hB : CBX cn) : Met l yX11_isText (CWS yX11_isText cX11_isText 2 (some .boolean)) (RM 1 0 0) (PBrx [.ref (g 0), .int v0] D cI cB cZ zz qq vv bt (wX cI (D.1 99) zz g ad cn In Fn)) (vp_Si (fun r => (r = 1 ∧ (1 ≤ v0.toInt ∧ v0.toInt ≤ 160 ∧ v0.toInt ≤ (cn 3 : Int))) ∨ (r = 0 ∧ ¬ (1 ≤ v0.toInt ∧ v0.toInt ≤ 160 ∧ v0.toInt ≤ (cn 3 : Int))))) 0 0 (fun _ => False) := by
  refine en_rx rfl pn_RX11 (Nat.le_of_ble_eq_true rfl) (fun p e s m below meth c hx hb hml hown S hr hlocks hnm hP hK hXS hS ls hl => ?_)
  have hl : lv_has ls 2 [(0, .ref (g 0)), (1, .int v0)] := hl
  have hb_cn : Hid (CBX cn) := hB
  replace hB : CBXh cn := hB
  refine lv_iload_n hx hb (oc_27 0 shX11_isText_0) rfl (lvA1 hl) ?_
  refine lv_iconst (v := 1) hx hb (oc_4 1 (aq_1 shX11_isText_0)) kic_1 ?_
  refine lv_sipush (v := 160) hx hb (oc_17 2 (aq_2 shX11_isText_0) sgw_0_160) (by decide) ?_
  refine vp_callSi (runS_r (As := [.int v0, .int 1, .int 160]) (rest := []) S (q_l_within l D cI cB cZ v0 1 160) kS_RX11_80 hK hP [] rfl ⟨Nat.le_of_ble_eq_true rfl, Nat.le_of_ble_eq_true rfl⟩ ⟨Nat.le_of_ble_eq_true rfl, Nat.le_of_ble_eq_true rfl⟩ rfl hl.1 rfl (Nat.le_of_ble_eq_true rfl) (oc_184 5 (aq_5 shX11_isText_0) uw_0_80)) (fun r_1 h_2 => ?_)
  rcases h_2 with ⟨rfl, h_2⟩ | ⟨rfl, h_2⟩
  ·
    have h_2 : 1 ≤ v0.toInt ∧ v0.toInt ≤ 160 := h_2
    refine lv_if_eq (tgt := 26) hx hb (oc_153 8 (aq_8 shX11_isText_0) sgw_0_18) rfl (fun h => absurd h cq_eq_1_0) (fun _ => ?_)
    refine lv_iload_n hx hb (oc_27 11 (aq_11 shX11_isText_0)) rfl (lvA1 hl) ?_
    refine lv_aload_n hx hb (oc_42 12 (aq_12 shX11_isText_0)) rfl (lvA0 hl) ?_
    refine gf_RX11_21 S hK hP 0 xo_0 (v := .ref (g 5)) rfl (oc_180 13 (aq_13 shX11_isText_0) uw_0_21) ?_
    refine vp_callSi (runV_rxa (As := []) (rest := [.int v0]) S (q_Xlength l D cI cB cZ zz qq vv bt g ad cn In Fn  hB) kV_RX11_152 hK hXS hS hP 1 xo_1 rfl rfl ⟨Nat.le_of_ble_eq_true rfl, Nat.le_of_ble_eq_true rfl⟩ ⟨Nat.le_of_ble_eq_true rfl, Nat.le_of_ble_eq_true rfl⟩ rfl hl.1 rfl (Nat.le_of_ble_eq_true rfl) (oc_182 16 (aq_16 shX11_isText_0) uw_0_152)) (fun r_3 h_4 => ?_)
    subst h_4
    have : (nI ((cn 3))).toInt = ((((cn 3)) : Nat) : Int) := nI_toInt (by (first | omega | (have zz0 := Hid.u hb_cn; omega)))
    refine lv_icmp_gt (tgt := 26) hx hb (oc_163 19 (aq_19 shX11_isText_0) sgw_0_7) rfl (fun c_5 => ?_) (fun c_5 => ?_)
    ·
      have tc_5 : ((nI ((cn 3))).toInt : Int) < v0.toInt := Int32.lt_iff_toInt_lt.mp c_5
      refine lv_iconst (v := 0) hx hb (oc_3 26 shX11_isText_26) kic_0 ?_
      exact W.zret (v := 0) hx hb hr rfl (fun t ht hW => ⟨0, rfl, (Or.inr ⟨rfl, by (first | omega | (have zz0 := Hid.u hb_cn; omega))⟩), ht⟩) (fun _ h => absurd h List.not_mem_nil) (oc_172 27 (aq_1 shX11_isText_26))
    ·
      have tc_5 : (v0.toInt : Int) ≤ (nI ((cn 3))).toInt := Int32.le_iff_toInt_le.mp (Int32.not_lt.mp c_5)
      refine lv_iconst (v := 1) hx hb (oc_4 22 (aq_22 shX11_isText_0)) kic_1 ?_
      refine lv_goto (tgt := 27) hx hb (oc_167 23 (aq_23 shX11_isText_0) sgw_0_4) rfl ?_
      exact W.zret (v := 1) hx hb hr rfl (fun t ht hW => ⟨1, rfl, (Or.inl ⟨rfl, by (first | omega | (have zz0 := Hid.u hb_cn; omega))⟩), ht⟩) (fun _ h => absurd h List.not_mem_nil) (oc_172 27 (aq_1 shX11_isText_26))
  ·
    have h_2 : ¬ (1 ≤ v0.toInt ∧ v0.toInt ≤ 160) := h_2
    refine lv_if_eq (tgt := 26) hx hb (oc_153 8 (aq_8 shX11_isText_0) sgw_0_18) rfl (fun _ => ?_) (fun h => absurd h cq_eq_0_0)
    refine lv_iconst (v := 0) hx hb (oc_3 26 shX11_isText_26) kic_0 ?_
    exact W.zret (v := 0) hx hb hr rfl (fun t ht hW => ⟨0, rfl, (Or.inr ⟨rfl, by (first | omega | (have zz0 := Hid.u hb_cn; omega))⟩), ht⟩) (fun _ h => absurd h List.not_mem_nil) (oc_172 27 (aq_1 shX11_isText_26))
end
