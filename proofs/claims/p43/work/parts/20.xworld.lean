/-- the cells of a family -/
def fam {α : Type} (n : Nat) (f : Nat → α) : List α := (List.range n).map f
theorem fam_len {α : Type} {n : Nat} {f : Nat → α} : (fam n f).length = n := by simp [fam]
theorem fam_get {α : Type} {n k : Nat} {f : Nat → α} (h : k < n) : (fam n f)[k]? = some (f k) := by simp [fam, h]
theorem fam_set {α : Type} {n k : Nat} {f : Nat → α} {v : α} : (fam n f).set k v = fam n (va_up f k v) := by
  apply List.ext_getElem
  · simp [fam]
  · intro i h1 h2
    simp only [fam, List.getElem_set, List.getElem_map, List.getElem_range, va_up]
    by_cases e : i = k
    · subst e; simp
    · rw [if_neg (fun q => e q.symm), if_neg e]
theorem fam_succ {α : Type} {n : Nat} {f : Nat → α} : fam (n + 1) f = fam n f ++ [f n] := by simp [fam, List.range_succ]
theorem fam_cg {α : Type} {n : Nat} {f g : Nat → α} (h : ∀ k : Nat, k < n → f k = g k) : fam n f = fam n g := List.map_congr_left (fun k hk => h k (List.mem_range.mp hk))
def famW {α : Type} : List (Nat × (Nat → α)) → List α
  | [] => []
  | p :: r => fam p.1 p.2 ++ famW r
def famO {α : Type} : List (Nat × (Nat → α)) → Nat → Nat
  | [], _ => 0
  | _ :: _, 0 => 0
  | p :: r, i + 1 => p.1 + famO r i
theorem famW_get {α : Type} : ∀ {fs : List (Nat × (Nat → α))} {i k : Nat} {p : Nat × (Nat → α)}, fs[i]? = some p → k < p.1 → (famW fs)[famO fs i + k]? = some (p.2 k)
  | [], i, k, p, h, _ => by simp at h
  | q :: r, 0, k, p, h, hk => by
    simp at h; subst h
    rw [famW, famO, Nat.zero_add, List.getElem?_append_left (by rw [fam_len]; exact hk)]
    exact fam_get hk
  | q :: r, i + 1, k, p, h, hk => by
    simp at h
    rw [famW, famO, List.getElem?_append_right (by rw [fam_len]; omega), fam_len, show q.1 + famO r i + k - q.1 = famO r i + k by omega]
    exact famW_get h hk
theorem famW_set {α : Type} {v : α} : ∀ {fs : List (Nat × (Nat → α))} {i k : Nat} {p : Nat × (Nat → α)}, fs[i]? = some p → k < p.1 → (famW fs).set (famO fs i + k) v = famW (fs.set i (p.1, va_up p.2 k v))
  | [], i, k, p, h, _ => by simp at h
  | q :: r, 0, k, p, h, hk => by
    simp at h; subst h
    rw [famW, famO, Nat.zero_add, List.set_append_left _ _ (by rw [fam_len]; exact hk), fam_set]
    rfl
  | q :: r, i + 1, k, p, h, hk => by
    simp at h
    rw [famW, famO, List.set_append_right _ _ (by rw [fam_len]; omega), fam_len, show q.1 + famO r i + k - q.1 = famO r i + k by omega, famW_set h hk]
    rfl
theorem fxW_get {α : Type} {fx : List α} {fs : List (Nat × (Nat → α))} {i k : Nat} {p : Nat × (Nat → α)} (h : fs[i]? = some p) (hk : k < p.1) : (fx ++ famW fs)[fx.length + (famO fs i + k)]? = some (p.2 k) := by
  rw [List.getElem?_append_right (by omega), show fx.length + (famO fs i + k) - fx.length = famO fs i + k by omega]
  exact famW_get h hk
theorem fxW_set {α : Type} {fx : List α} {fs : List (Nat × (Nat → α))} {i k : Nat} {p : Nat × (Nat → α)} {v : α} (h : fs[i]? = some p) (hk : k < p.1) : (fx ++ famW fs).set (fx.length + (famO fs i + k)) v = fx ++ famW (fs.set i (p.1, va_up p.2 k v)) := by
  rw [List.set_append_right _ _ (by omega), show fx.length + (famO fs i + k) - fx.length = famO fs i + k by omega, famW_set h hk]
/-- the k-th of a family's arrays, st places each, laid one behind the other -/
def gA (F : Nat → Int32) (st k : Nat) : Nat → Int32 := fun i => if i < st then F (st * k + i) else 0
def flat (F : Nat → Int32) (st k : Nat) (f : Nat → Int32) : Nat → Int32 := fun j => if j / st = k then f (j % st) else F j
theorem gA_flat {F f : Nat → Int32} {st k : Nat} (h0 : 0 < st) (hf : ∀ i : Nat, st ≤ i → f i = 0) : gA (flat F st k f) st k = f := by
  funext i
  unfold gA flat
  by_cases q : i < st
  · rw [if_pos q, if_pos (by rw [Nat.mul_add_div h0, Nat.div_eq_of_lt q]; omega), Nat.mul_add_mod, Nat.mod_eq_of_lt q]
  · rw [if_neg q, hf i (by omega)]
theorem gA_flat_ne {F f : Nat → Int32} {st k k2 : Nat} (h0 : 0 < st) (hk : k2 ≠ k) : gA (flat F st k f) st k2 = gA F st k2 := by
  funext i
  unfold gA flat
  by_cases q : i < st
  · rw [if_pos q, if_pos q, if_neg (by rw [Nat.mul_add_div h0, Nat.div_eq_of_lt q]; omega)]
  · rw [if_neg q, if_neg q]
theorem va_P_eq {D : va_G} {cl : List vw_C} {w1 w2 : va_W} {H : Heap} (e : w1 = w2) (h : va_P D cl w1 H) : va_P D cl w2 H := e ▸ h
theorem va_D_eq {A : Nat → Prop} {w1 w2 : va_W} (e : w1 = w2) (h : va_D A w1) : va_D A w2 := e ▸ h
/-- one cell that a callee has changed, put back into its world -/
theorem wset1 {D : va_G} {cl : List vw_C} {A0 : Nat → Prop} {ws : va_W} {q0 a : Nat} {e e' : va_E} {H H1 : Heap} (hP : va_P D cl ws H) (hD : va_D A0 ws) (h0 : ws[q0]? = some (a, e)) (hk : ∀ q : Nat, q < H.size → ¬ va_A [(a, e)] H.size q → H1[q]? = H[q]?) (hP1 : va_P D cl [(a, e')] H1) : va_P D cl (ws.set q0 (a, e')) H1 ∧ va_D A0 (ws.set q0 (a, e')) := by
  refine ⟨fun i q hq => ?_, hD.set h0⟩
  rw [List.getElem?_set] at hq
  by_cases z : q0 = i
  · rw [if_pos z] at hq
    split at hq
    · obtain rfl := Option.some.inj hq
      exact hP1 0 _ rfl
    · cases hq
  · rw [if_neg z] at hq
    have hat := hP i q hq
    have hne : q.1 ≠ a := fun w => z (hD.1 q0 i (a, e) q h0 hq w.symm)
    refine hat.kept (hk q.1 hat.lt (fun w => ?_))
    rcases w with ⟨k, e2, w⟩ | w
    · have : k = 0 := by
        by_cases k0 : k = 0
        · exact k0
        · rw [List.getElem?_eq_none (by simp; omega)] at w; cases w
      subst this
      have w := congrArg (fun o => o.map Prod.fst) w
      simp at w
      exact hne w.symm
    · have := hat.lt; omega
theorem one_is {α : Type} {ws : List α} {i : Nat} {c : α} (h : ws[i]? = some c) : [i].filterMap (fun i => ws[i]?) = [c] := by simp [h]
theorem one_im {α : Type} {ws : List α} {i : Nat} {c : α} (h : ws[i]? = some c) : [i].map (fun i => ws[i]?) = [c].map some := by simp [h]
theorem two_is {α : Type} {ws : List α} {i j : Nat} {c d : α} (h : ws[i]? = some c) (h2 : ws[j]? = some d) : [i, j].filterMap (fun i => ws[i]?) = [c, d] := by simp [h, h2]
/-- the class's fixed cells -/
def fxX (cI QA : ClassId) (zz : Nat) (g : Nat → Nat) (ad : Nat → Nat → Nat) (cn : Nat → Nat) (In : Nat → Int32) (Fn : Nat → Nat → Int32) : va_W := [((g 0), .inr (12, [.int (nI (cn 0)), .int (nI (cn 1)), .int (nI (cn 2)), .int (nI (cn 5)), .ref (ad 5 (ad 4 0)), .ref (g 5), .ref (g 6), .ref (g 7), .ref (g 8), .ref (g 9), .ref (g 10), .ref (g 11), .ref (g 12), .ref (g 13), .ref (g 14), .ref (g 15)])), ((g 5), .inr (9, [.ref (g 40), .int (nI (cn 3))])), ((g 40), .inl (cI, 200, .inl (Fn 40))), ((g 6), .inr (6, [.ref (ad 4 2), .ref (ad 5 (ad 4 1)), .int (In 30), .int (nI (cn 31)), .int (nI (cn 32)), .int (In 33)])), ((ad 6 0), .inl (cI, 0, .inl (Fn 41))), ((g 7), .inl (cI, 11, .inl (Fn 7))), ((g 8), .inr (8, [.ref (g 20), .ref (g 21), .ref (g 22), .ref (g 23), .ref (g 24), .ref (g 25), .ref (g 26), .ref (g 27), .ref (g 28), .ref (g 29)])), ((g 20), .inl (cI, 58, .inl (Fn 20))), ((g 21), .inl (cI, 24, .inl (Fn 21))), ((g 22), .inl (cI, 400, .inl (Fn 22))), ((g 23), .inl (cI, 400, .inl (Fn 23))), ((g 24), .inl (cI, 10, .inl (Fn 24))), ((g 25), .inl (cI, 10, .inl (Fn 25))), ((g 26), .inl (cI, 232, .inl (Fn 26))), ((g 27), .inl (cI, 3, .inl (Fn 27))), ((g 28), .inl (cI, 1200, .inl (Fn 28))), ((g 29), .inl (cI, 400, .inl (Fn 29))), ((g 9), .inr (11, [.ref (g 30), .ref (g 31), .ref (g 32), .ref (g 33), .ref (g 34), .ref (g 35), .int (nI (cn 4))])), ((g 30), .inl (cI, 8, .inl (Fn 30))), ((g 31), .inl (cI, 8, .inl (Fn 31))), ((g 32), .inl (cI, 8, .inl (Fn 32))), ((g 33), .inl (cI, 8, .inl (Fn 33))), ((g 34), .inl (cI, 2048, .inl (Fn 34))), ((g 35), .inl (cI, 256, .inl (Fn 35))), ((g 10), .inr (0, [.int (In 10), .ref (if cn 10 = 0 then zz else ad 2 0), .int (nI (cn 10))])), ((g 11), .inr (0, [.int (In 11), .ref (if cn 11 = 0 then zz else ad 2 1), .int (nI (cn 11))])), ((g 12), .inr (0, [.int (In 12), .ref (if cn 12 = 0 then zz else ad 2 2), .int (nI (cn 12))])), ((g 13), .inr (0, [.int (In 13), .ref (if cn 13 = 0 then zz else ad 2 3), .int (nI (cn 13))])), ((g 14), .inr (0, [.int (In 14), .ref (if cn 14 = 0 then zz else ad 2 4), .int (nI (cn 14))])), ((g 15), .inr (0, [.int (In 15), .ref (if cn 15 = 0 then zz else ad 2 5), .int (nI (cn 15))]))]
def e0X (cI QA : ClassId) (zz : Nat) (g : Nat → Nat) (ad : Nat → Nat → Nat) (cn : Nat → Nat) (In : Nat → Int32) (Fn : Nat → Nat → Int32) (k : Nat) : Nat × va_E := ((ad 10 k), .inr (2, [.int (Fn 100 k), .int (Fn 101 k), .int (Fn 102 k), .int (Fn 103 k), .int (Fn 104 k), .int (Fn 105 k), .int (Fn 106 k), .int (Fn 107 k), .int (Fn 108 k), .int (Fn 109 k), .ref (ad 5 (ad 3 k))]))
def e1X (cI QA : ClassId) (zz : Nat) (g : Nat → Nat) (ad : Nat → Nat → Nat) (cn : Nat → Nat) (In : Nat → Int32) (Fn : Nat → Nat → Int32) (k : Nat) : Nat × va_E := ((ad 11 k), .inr (3, [.int (Fn 120 k), .int (Fn 121 k), .int (Fn 122 k), .int (Fn 123 k), .int (Fn 124 k), .int (Fn 125 k), .int (Fn 126 k), .int (Fn 127 k), .int (Fn 128 k), .int (Fn 129 k)]))
def e2X (cI QA : ClassId) (zz : Nat) (g : Nat → Nat) (ad : Nat → Nat → Nat) (cn : Nat → Nat) (In : Nat → Int32) (Fn : Nat → Nat → Int32) (k : Nat) : Nat × va_E := ((ad 12 k), .inr (1, [.ref (ad 1 k), .int (Fn 141 k), .int (Fn 142 k), .int (Fn 143 k), .int (Fn 144 k), .int (Fn 145 k), .int (Fn 146 k), .int (Fn 147 k)]))
def e3X (cI QA : ClassId) (zz : Nat) (g : Nat → Nat) (ad : Nat → Nat → Nat) (cn : Nat → Nat) (In : Nat → Int32) (Fn : Nat → Nat → Int32) (k : Nat) : Nat × va_E := ((ad 13 k), .inr (5, [.int (Fn 160 k), .int (Fn 161 k), .int (Fn 162 k), .int (Fn 163 k), .int (Fn 164 k)]))
def e4X (cI QA : ClassId) (zz : Nat) (g : Nat → Nat) (ad : Nat → Nat → Nat) (cn : Nat → Nat) (In : Nat → Int32) (Fn : Nat → Nat → Int32) (k : Nat) : Nat × va_E := ((ad 14 k), .inr (7, [.int (Fn 170 k), .int (Fn 171 k), .int (Fn 172 k)]))
def e5X (cI QA : ClassId) (zz : Nat) (g : Nat → Nat) (ad : Nat → Nat → Nat) (cn : Nat → Nat) (In : Nat → Int32) (Fn : Nat → Nat → Int32) (k : Nat) : Nat × va_E := ((ad 15 k), .inr (4, [.int (Fn 180 k), .int (Fn 181 k), .int (Fn 182 k)]))
def e6X (cI QA : ClassId) (zz : Nat) (g : Nat → Nat) (ad : Nat → Nat → Nat) (cn : Nat → Nat) (In : Nat → Int32) (Fn : Nat → Nat → Int32) (k : Nat) : Nat × va_E := ((ad 1 k), .inl (cI, 12, .inl (gA (Fn 150) 12 k)))
def e7X (cI QA : ClassId) (zz : Nat) (g : Nat → Nat) (ad : Nat → Nat → Nat) (cn : Nat → Nat) (In : Nat → Int32) (Fn : Nat → Nat → Int32) (k : Nat) : Nat × va_E := ((ad 5 k), .inr (10, [.ref (ad 60 k), .ref (ad 61 k), .ref (ad 62 k), .ref (ad 63 k), .ref (ad 64 k), .int (Fn 195 k), .int (Fn 196 k), .int (Fn 197 k), .int (Fn 198 k)]))
def e8X (cI QA : ClassId) (zz : Nat) (g : Nat → Nat) (ad : Nat → Nat → Nat) (cn : Nat → Nat) (In : Nat → Int32) (Fn : Nat → Nat → Int32) (k : Nat) : Nat × va_E := ((ad 60 k), .inl (cI, (Fn 199 k).toInt.toNat, .inl (gA (Fn 301) 200 k)))
def e9X (cI QA : ClassId) (zz : Nat) (g : Nat → Nat) (ad : Nat → Nat → Nat) (cn : Nat → Nat) (In : Nat → Int32) (Fn : Nat → Nat → Int32) (k : Nat) : Nat × va_E := ((ad 61 k), .inl (cI, 12, .inl (gA (Fn 302) 12 k)))
def e10X (cI QA : ClassId) (zz : Nat) (g : Nat → Nat) (ad : Nat → Nat → Nat) (cn : Nat → Nat) (In : Nat → Int32) (Fn : Nat → Nat → Int32) (k : Nat) : Nat × va_E := ((ad 62 k), .inl (cI, 12, .inl (gA (Fn 303) 12 k)))
def e11X (cI QA : ClassId) (zz : Nat) (g : Nat → Nat) (ad : Nat → Nat → Nat) (cn : Nat → Nat) (In : Nat → Int32) (Fn : Nat → Nat → Int32) (k : Nat) : Nat × va_E := ((ad 63 k), .inl (cI, 12, .inl (gA (Fn 304) 12 k)))
def e12X (cI QA : ClassId) (zz : Nat) (g : Nat → Nat) (ad : Nat → Nat → Nat) (cn : Nat → Nat) (In : Nat → Int32) (Fn : Nat → Nat → Int32) (k : Nat) : Nat × va_E := ((ad 64 k), .inl (cI, 32, .inl (gA (Fn 305) 32 k)))
def e13X (cI QA : ClassId) (zz : Nat) (g : Nat → Nat) (ad : Nat → Nat → Nat) (cn : Nat → Nat) (In : Nat → Int32) (Fn : Nat → Nat → Int32) (k : Nat) : Nat × va_E := (ad 2 0, .inl (QA, cn 20, .inr (.inr (.inr (.inr (fun i => if i < cn 10 then some (ad 10 i) else none))))))
def e14X (cI QA : ClassId) (zz : Nat) (g : Nat → Nat) (ad : Nat → Nat → Nat) (cn : Nat → Nat) (In : Nat → Int32) (Fn : Nat → Nat → Int32) (k : Nat) : Nat × va_E := (ad 2 1, .inl (QA, cn 21, .inr (.inr (.inr (.inr (fun i => if i < cn 11 then some (ad 11 i) else none))))))
def e15X (cI QA : ClassId) (zz : Nat) (g : Nat → Nat) (ad : Nat → Nat → Nat) (cn : Nat → Nat) (In : Nat → Int32) (Fn : Nat → Nat → Int32) (k : Nat) : Nat × va_E := (ad 2 2, .inl (QA, cn 22, .inr (.inr (.inr (.inr (fun i => if i < cn 12 then some (ad 12 i) else none))))))
def e16X (cI QA : ClassId) (zz : Nat) (g : Nat → Nat) (ad : Nat → Nat → Nat) (cn : Nat → Nat) (In : Nat → Int32) (Fn : Nat → Nat → Int32) (k : Nat) : Nat × va_E := (ad 2 3, .inl (QA, cn 23, .inr (.inr (.inr (.inr (fun i => if i < cn 13 then some (ad 13 i) else none))))))
def e17X (cI QA : ClassId) (zz : Nat) (g : Nat → Nat) (ad : Nat → Nat → Nat) (cn : Nat → Nat) (In : Nat → Int32) (Fn : Nat → Nat → Int32) (k : Nat) : Nat × va_E := (ad 2 4, .inl (QA, cn 24, .inr (.inr (.inr (.inr (fun i => if i < cn 14 then some (ad 14 i) else none))))))
def e18X (cI QA : ClassId) (zz : Nat) (g : Nat → Nat) (ad : Nat → Nat → Nat) (cn : Nat → Nat) (In : Nat → Int32) (Fn : Nat → Nat → Int32) (k : Nat) : Nat × va_E := (ad 2 5, .inl (QA, cn 25, .inr (.inr (.inr (.inr (fun i => if i < cn 15 then some (ad 15 i) else none))))))
def fsX (cI QA : ClassId) (zz : Nat) (g : Nat → Nat) (ad : Nat → Nat → Nat) (cn : Nat → Nat) (In : Nat → Int32) (Fn : Nat → Nat → Int32) : List (Nat × (Nat → Nat × va_E)) := [((cn 10), e0X cI QA zz g ad cn In Fn), ((cn 11), e1X cI QA zz g ad cn In Fn), ((cn 12), e2X cI QA zz g ad cn In Fn), ((cn 13), e3X cI QA zz g ad cn In Fn), ((cn 14), e4X cI QA zz g ad cn In Fn), ((cn 15), e5X cI QA zz g ad cn In Fn), ((cn 12), e6X cI QA zz g ad cn In Fn), ((cn 6), e7X cI QA zz g ad cn In Fn), ((cn 6), e8X cI QA zz g ad cn In Fn), ((cn 6), e9X cI QA zz g ad cn In Fn), ((cn 6), e10X cI QA zz g ad cn In Fn), ((cn 6), e11X cI QA zz g ad cn In Fn), ((cn 6), e12X cI QA zz g ad cn In Fn), ((min 1 (cn 10)), e13X cI QA zz g ad cn In Fn), ((min 1 (cn 11)), e14X cI QA zz g ad cn In Fn), ((min 1 (cn 12)), e15X cI QA zz g ad cn In Fn), ((min 1 (cn 13)), e16X cI QA zz g ad cn In Fn), ((min 1 (cn 14)), e17X cI QA zz g ad cn In Fn), ((min 1 (cn 15)), e18X cI QA zz g ad cn In Fn)]
/-- the class's whole world -/
def wX (cI QA : ClassId) (zz : Nat) (g : Nat → Nat) (ad : Nat → Nat → Nat) (cn : Nat → Nat) (In : Nat → Int32) (Fn : Nat → Nat → Int32) : va_W := fxX cI QA zz g ad cn In Fn ++ famW (fsX cI QA zz g ad cn In Fn)
theorem xo_0 {cI QA : ClassId} {zz : Nat} {g : Nat → Nat} {ad : Nat → Nat → Nat} {cn : Nat → Nat} {In : Nat → Int32} {Fn : Nat → Nat → Int32} : (wX cI QA zz g ad cn In Fn)[0]? = some ((g 0), .inr (12, [.int (nI (cn 0)), .int (nI (cn 1)), .int (nI (cn 2)), .int (nI (cn 5)), .ref (ad 5 (ad 4 0)), .ref (g 5), .ref (g 6), .ref (g 7), .ref (g 8), .ref (g 9), .ref (g 10), .ref (g 11), .ref (g 12), .ref (g 13), .ref (g 14), .ref (g 15)])) := rfl
theorem xo_1 {cI QA : ClassId} {zz : Nat} {g : Nat → Nat} {ad : Nat → Nat → Nat} {cn : Nat → Nat} {In : Nat → Int32} {Fn : Nat → Nat → Int32} : (wX cI QA zz g ad cn In Fn)[1]? = some ((g 5), .inr (9, [.ref (g 40), .int (nI (cn 3))])) := rfl
theorem xo_2 {cI QA : ClassId} {zz : Nat} {g : Nat → Nat} {ad : Nat → Nat → Nat} {cn : Nat → Nat} {In : Nat → Int32} {Fn : Nat → Nat → Int32} : (wX cI QA zz g ad cn In Fn)[2]? = some ((g 40), .inl (cI, 200, .inl (Fn 40))) := rfl
theorem xo_3 {cI QA : ClassId} {zz : Nat} {g : Nat → Nat} {ad : Nat → Nat → Nat} {cn : Nat → Nat} {In : Nat → Int32} {Fn : Nat → Nat → Int32} : (wX cI QA zz g ad cn In Fn)[3]? = some ((g 6), .inr (6, [.ref (ad 4 2), .ref (ad 5 (ad 4 1)), .int (In 30), .int (nI (cn 31)), .int (nI (cn 32)), .int (In 33)])) := rfl
theorem xo_5 {cI QA : ClassId} {zz : Nat} {g : Nat → Nat} {ad : Nat → Nat → Nat} {cn : Nat → Nat} {In : Nat → Int32} {Fn : Nat → Nat → Int32} : (wX cI QA zz g ad cn In Fn)[5]? = some ((g 7), .inl (cI, 11, .inl (Fn 7))) := rfl
theorem xo_6 {cI QA : ClassId} {zz : Nat} {g : Nat → Nat} {ad : Nat → Nat → Nat} {cn : Nat → Nat} {In : Nat → Int32} {Fn : Nat → Nat → Int32} : (wX cI QA zz g ad cn In Fn)[6]? = some ((g 8), .inr (8, [.ref (g 20), .ref (g 21), .ref (g 22), .ref (g 23), .ref (g 24), .ref (g 25), .ref (g 26), .ref (g 27), .ref (g 28), .ref (g 29)])) := rfl
theorem xo_7 {cI QA : ClassId} {zz : Nat} {g : Nat → Nat} {ad : Nat → Nat → Nat} {cn : Nat → Nat} {In : Nat → Int32} {Fn : Nat → Nat → Int32} : (wX cI QA zz g ad cn In Fn)[7]? = some ((g 20), .inl (cI, 58, .inl (Fn 20))) := rfl
theorem xo_8 {cI QA : ClassId} {zz : Nat} {g : Nat → Nat} {ad : Nat → Nat → Nat} {cn : Nat → Nat} {In : Nat → Int32} {Fn : Nat → Nat → Int32} : (wX cI QA zz g ad cn In Fn)[8]? = some ((g 21), .inl (cI, 24, .inl (Fn 21))) := rfl
theorem xo_9 {cI QA : ClassId} {zz : Nat} {g : Nat → Nat} {ad : Nat → Nat → Nat} {cn : Nat → Nat} {In : Nat → Int32} {Fn : Nat → Nat → Int32} : (wX cI QA zz g ad cn In Fn)[9]? = some ((g 22), .inl (cI, 400, .inl (Fn 22))) := rfl
theorem xo_10 {cI QA : ClassId} {zz : Nat} {g : Nat → Nat} {ad : Nat → Nat → Nat} {cn : Nat → Nat} {In : Nat → Int32} {Fn : Nat → Nat → Int32} : (wX cI QA zz g ad cn In Fn)[10]? = some ((g 23), .inl (cI, 400, .inl (Fn 23))) := rfl
theorem xo_11 {cI QA : ClassId} {zz : Nat} {g : Nat → Nat} {ad : Nat → Nat → Nat} {cn : Nat → Nat} {In : Nat → Int32} {Fn : Nat → Nat → Int32} : (wX cI QA zz g ad cn In Fn)[11]? = some ((g 24), .inl (cI, 10, .inl (Fn 24))) := rfl
theorem xo_12 {cI QA : ClassId} {zz : Nat} {g : Nat → Nat} {ad : Nat → Nat → Nat} {cn : Nat → Nat} {In : Nat → Int32} {Fn : Nat → Nat → Int32} : (wX cI QA zz g ad cn In Fn)[12]? = some ((g 25), .inl (cI, 10, .inl (Fn 25))) := rfl
theorem xo_13 {cI QA : ClassId} {zz : Nat} {g : Nat → Nat} {ad : Nat → Nat → Nat} {cn : Nat → Nat} {In : Nat → Int32} {Fn : Nat → Nat → Int32} : (wX cI QA zz g ad cn In Fn)[13]? = some ((g 26), .inl (cI, 232, .inl (Fn 26))) := rfl
theorem xo_14 {cI QA : ClassId} {zz : Nat} {g : Nat → Nat} {ad : Nat → Nat → Nat} {cn : Nat → Nat} {In : Nat → Int32} {Fn : Nat → Nat → Int32} : (wX cI QA zz g ad cn In Fn)[14]? = some ((g 27), .inl (cI, 3, .inl (Fn 27))) := rfl
theorem xo_15 {cI QA : ClassId} {zz : Nat} {g : Nat → Nat} {ad : Nat → Nat → Nat} {cn : Nat → Nat} {In : Nat → Int32} {Fn : Nat → Nat → Int32} : (wX cI QA zz g ad cn In Fn)[15]? = some ((g 28), .inl (cI, 1200, .inl (Fn 28))) := rfl
theorem xo_16 {cI QA : ClassId} {zz : Nat} {g : Nat → Nat} {ad : Nat → Nat → Nat} {cn : Nat → Nat} {In : Nat → Int32} {Fn : Nat → Nat → Int32} : (wX cI QA zz g ad cn In Fn)[16]? = some ((g 29), .inl (cI, 400, .inl (Fn 29))) := rfl
theorem xo_17 {cI QA : ClassId} {zz : Nat} {g : Nat → Nat} {ad : Nat → Nat → Nat} {cn : Nat → Nat} {In : Nat → Int32} {Fn : Nat → Nat → Int32} : (wX cI QA zz g ad cn In Fn)[17]? = some ((g 9), .inr (11, [.ref (g 30), .ref (g 31), .ref (g 32), .ref (g 33), .ref (g 34), .ref (g 35), .int (nI (cn 4))])) := rfl
theorem xo_18 {cI QA : ClassId} {zz : Nat} {g : Nat → Nat} {ad : Nat → Nat → Nat} {cn : Nat → Nat} {In : Nat → Int32} {Fn : Nat → Nat → Int32} : (wX cI QA zz g ad cn In Fn)[18]? = some ((g 30), .inl (cI, 8, .inl (Fn 30))) := rfl
theorem xo_19 {cI QA : ClassId} {zz : Nat} {g : Nat → Nat} {ad : Nat → Nat → Nat} {cn : Nat → Nat} {In : Nat → Int32} {Fn : Nat → Nat → Int32} : (wX cI QA zz g ad cn In Fn)[19]? = some ((g 31), .inl (cI, 8, .inl (Fn 31))) := rfl
theorem xo_20 {cI QA : ClassId} {zz : Nat} {g : Nat → Nat} {ad : Nat → Nat → Nat} {cn : Nat → Nat} {In : Nat → Int32} {Fn : Nat → Nat → Int32} : (wX cI QA zz g ad cn In Fn)[20]? = some ((g 32), .inl (cI, 8, .inl (Fn 32))) := rfl
theorem xo_21 {cI QA : ClassId} {zz : Nat} {g : Nat → Nat} {ad : Nat → Nat → Nat} {cn : Nat → Nat} {In : Nat → Int32} {Fn : Nat → Nat → Int32} : (wX cI QA zz g ad cn In Fn)[21]? = some ((g 33), .inl (cI, 8, .inl (Fn 33))) := rfl
theorem xo_22 {cI QA : ClassId} {zz : Nat} {g : Nat → Nat} {ad : Nat → Nat → Nat} {cn : Nat → Nat} {In : Nat → Int32} {Fn : Nat → Nat → Int32} : (wX cI QA zz g ad cn In Fn)[22]? = some ((g 34), .inl (cI, 2048, .inl (Fn 34))) := rfl
theorem xo_23 {cI QA : ClassId} {zz : Nat} {g : Nat → Nat} {ad : Nat → Nat → Nat} {cn : Nat → Nat} {In : Nat → Int32} {Fn : Nat → Nat → Int32} : (wX cI QA zz g ad cn In Fn)[23]? = some ((g 35), .inl (cI, 256, .inl (Fn 35))) := rfl
theorem xo_24 {cI QA : ClassId} {zz : Nat} {g : Nat → Nat} {ad : Nat → Nat → Nat} {cn : Nat → Nat} {In : Nat → Int32} {Fn : Nat → Nat → Int32} : (wX cI QA zz g ad cn In Fn)[24]? = some ((g 10), .inr (0, [.int (In 10), .ref (if cn 10 = 0 then zz else ad 2 0), .int (nI (cn 10))])) := rfl
theorem xo_25 {cI QA : ClassId} {zz : Nat} {g : Nat → Nat} {ad : Nat → Nat → Nat} {cn : Nat → Nat} {In : Nat → Int32} {Fn : Nat → Nat → Int32} : (wX cI QA zz g ad cn In Fn)[25]? = some ((g 11), .inr (0, [.int (In 11), .ref (if cn 11 = 0 then zz else ad 2 1), .int (nI (cn 11))])) := rfl
theorem xo_26 {cI QA : ClassId} {zz : Nat} {g : Nat → Nat} {ad : Nat → Nat → Nat} {cn : Nat → Nat} {In : Nat → Int32} {Fn : Nat → Nat → Int32} : (wX cI QA zz g ad cn In Fn)[26]? = some ((g 12), .inr (0, [.int (In 12), .ref (if cn 12 = 0 then zz else ad 2 2), .int (nI (cn 12))])) := rfl
theorem xo_27 {cI QA : ClassId} {zz : Nat} {g : Nat → Nat} {ad : Nat → Nat → Nat} {cn : Nat → Nat} {In : Nat → Int32} {Fn : Nat → Nat → Int32} : (wX cI QA zz g ad cn In Fn)[27]? = some ((g 13), .inr (0, [.int (In 13), .ref (if cn 13 = 0 then zz else ad 2 3), .int (nI (cn 13))])) := rfl
theorem xo_28 {cI QA : ClassId} {zz : Nat} {g : Nat → Nat} {ad : Nat → Nat → Nat} {cn : Nat → Nat} {In : Nat → Int32} {Fn : Nat → Nat → Int32} : (wX cI QA zz g ad cn In Fn)[28]? = some ((g 14), .inr (0, [.int (In 14), .ref (if cn 14 = 0 then zz else ad 2 4), .int (nI (cn 14))])) := rfl
theorem xo_29 {cI QA : ClassId} {zz : Nat} {g : Nat → Nat} {ad : Nat → Nat → Nat} {cn : Nat → Nat} {In : Nat → Int32} {Fn : Nat → Nat → Int32} : (wX cI QA zz g ad cn In Fn)[29]? = some ((g 15), .inr (0, [.int (In 15), .ref (if cn 15 = 0 then zz else ad 2 5), .int (nI (cn 15))])) := rfl
theorem xf_0 {cI QA : ClassId} {zz : Nat} {g : Nat → Nat} {ad : Nat → Nat → Nat} {cn : Nat → Nat} {In : Nat → Int32} {Fn : Nat → Nat → Int32} {k : Nat} (hk : k < (cn 10)) : (wX cI QA zz g ad cn In Fn)[(fxX cI QA zz g ad cn In Fn).length + (famO (fsX cI QA zz g ad cn In Fn) 0 + k)]? = some ((ad 10 k), .inr (2, [.int (Fn 100 k), .int (Fn 101 k), .int (Fn 102 k), .int (Fn 103 k), .int (Fn 104 k), .int (Fn 105 k), .int (Fn 106 k), .int (Fn 107 k), .int (Fn 108 k), .int (Fn 109 k), .ref (ad 5 (ad 3 k))])) := fxW_get (p := ((cn 10), e0X cI QA zz g ad cn In Fn)) rfl hk
theorem xf_1 {cI QA : ClassId} {zz : Nat} {g : Nat → Nat} {ad : Nat → Nat → Nat} {cn : Nat → Nat} {In : Nat → Int32} {Fn : Nat → Nat → Int32} {k : Nat} (hk : k < (cn 11)) : (wX cI QA zz g ad cn In Fn)[(fxX cI QA zz g ad cn In Fn).length + (famO (fsX cI QA zz g ad cn In Fn) 1 + k)]? = some ((ad 11 k), .inr (3, [.int (Fn 120 k), .int (Fn 121 k), .int (Fn 122 k), .int (Fn 123 k), .int (Fn 124 k), .int (Fn 125 k), .int (Fn 126 k), .int (Fn 127 k), .int (Fn 128 k), .int (Fn 129 k)])) := fxW_get (p := ((cn 11), e1X cI QA zz g ad cn In Fn)) rfl hk
theorem xf_2 {cI QA : ClassId} {zz : Nat} {g : Nat → Nat} {ad : Nat → Nat → Nat} {cn : Nat → Nat} {In : Nat → Int32} {Fn : Nat → Nat → Int32} {k : Nat} (hk : k < (cn 12)) : (wX cI QA zz g ad cn In Fn)[(fxX cI QA zz g ad cn In Fn).length + (famO (fsX cI QA zz g ad cn In Fn) 2 + k)]? = some ((ad 12 k), .inr (1, [.ref (ad 1 k), .int (Fn 141 k), .int (Fn 142 k), .int (Fn 143 k), .int (Fn 144 k), .int (Fn 145 k), .int (Fn 146 k), .int (Fn 147 k)])) := fxW_get (p := ((cn 12), e2X cI QA zz g ad cn In Fn)) rfl hk
theorem xf_3 {cI QA : ClassId} {zz : Nat} {g : Nat → Nat} {ad : Nat → Nat → Nat} {cn : Nat → Nat} {In : Nat → Int32} {Fn : Nat → Nat → Int32} {k : Nat} (hk : k < (cn 13)) : (wX cI QA zz g ad cn In Fn)[(fxX cI QA zz g ad cn In Fn).length + (famO (fsX cI QA zz g ad cn In Fn) 3 + k)]? = some ((ad 13 k), .inr (5, [.int (Fn 160 k), .int (Fn 161 k), .int (Fn 162 k), .int (Fn 163 k), .int (Fn 164 k)])) := fxW_get (p := ((cn 13), e3X cI QA zz g ad cn In Fn)) rfl hk
theorem xf_4 {cI QA : ClassId} {zz : Nat} {g : Nat → Nat} {ad : Nat → Nat → Nat} {cn : Nat → Nat} {In : Nat → Int32} {Fn : Nat → Nat → Int32} {k : Nat} (hk : k < (cn 14)) : (wX cI QA zz g ad cn In Fn)[(fxX cI QA zz g ad cn In Fn).length + (famO (fsX cI QA zz g ad cn In Fn) 4 + k)]? = some ((ad 14 k), .inr (7, [.int (Fn 170 k), .int (Fn 171 k), .int (Fn 172 k)])) := fxW_get (p := ((cn 14), e4X cI QA zz g ad cn In Fn)) rfl hk
theorem xf_5 {cI QA : ClassId} {zz : Nat} {g : Nat → Nat} {ad : Nat → Nat → Nat} {cn : Nat → Nat} {In : Nat → Int32} {Fn : Nat → Nat → Int32} {k : Nat} (hk : k < (cn 15)) : (wX cI QA zz g ad cn In Fn)[(fxX cI QA zz g ad cn In Fn).length + (famO (fsX cI QA zz g ad cn In Fn) 5 + k)]? = some ((ad 15 k), .inr (4, [.int (Fn 180 k), .int (Fn 181 k), .int (Fn 182 k)])) := fxW_get (p := ((cn 15), e5X cI QA zz g ad cn In Fn)) rfl hk
theorem xf_6 {cI QA : ClassId} {zz : Nat} {g : Nat → Nat} {ad : Nat → Nat → Nat} {cn : Nat → Nat} {In : Nat → Int32} {Fn : Nat → Nat → Int32} {k : Nat} (hk : k < (cn 12)) : (wX cI QA zz g ad cn In Fn)[(fxX cI QA zz g ad cn In Fn).length + (famO (fsX cI QA zz g ad cn In Fn) 6 + k)]? = some ((ad 1 k), .inl (cI, 12, .inl (gA (Fn 150) 12 k))) := fxW_get (p := ((cn 12), e6X cI QA zz g ad cn In Fn)) rfl hk
theorem xf_7 {cI QA : ClassId} {zz : Nat} {g : Nat → Nat} {ad : Nat → Nat → Nat} {cn : Nat → Nat} {In : Nat → Int32} {Fn : Nat → Nat → Int32} {k : Nat} (hk : k < (cn 6)) : (wX cI QA zz g ad cn In Fn)[(fxX cI QA zz g ad cn In Fn).length + (famO (fsX cI QA zz g ad cn In Fn) 7 + k)]? = some ((ad 5 k), .inr (10, [.ref (ad 60 k), .ref (ad 61 k), .ref (ad 62 k), .ref (ad 63 k), .ref (ad 64 k), .int (Fn 195 k), .int (Fn 196 k), .int (Fn 197 k), .int (Fn 198 k)])) := fxW_get (p := ((cn 6), e7X cI QA zz g ad cn In Fn)) rfl hk
theorem xf_8 {cI QA : ClassId} {zz : Nat} {g : Nat → Nat} {ad : Nat → Nat → Nat} {cn : Nat → Nat} {In : Nat → Int32} {Fn : Nat → Nat → Int32} {k : Nat} (hk : k < (cn 6)) : (wX cI QA zz g ad cn In Fn)[(fxX cI QA zz g ad cn In Fn).length + (famO (fsX cI QA zz g ad cn In Fn) 8 + k)]? = some ((ad 60 k), .inl (cI, (Fn 199 k).toInt.toNat, .inl (gA (Fn 301) 200 k))) := fxW_get (p := ((cn 6), e8X cI QA zz g ad cn In Fn)) rfl hk
theorem xf_9 {cI QA : ClassId} {zz : Nat} {g : Nat → Nat} {ad : Nat → Nat → Nat} {cn : Nat → Nat} {In : Nat → Int32} {Fn : Nat → Nat → Int32} {k : Nat} (hk : k < (cn 6)) : (wX cI QA zz g ad cn In Fn)[(fxX cI QA zz g ad cn In Fn).length + (famO (fsX cI QA zz g ad cn In Fn) 9 + k)]? = some ((ad 61 k), .inl (cI, 12, .inl (gA (Fn 302) 12 k))) := fxW_get (p := ((cn 6), e9X cI QA zz g ad cn In Fn)) rfl hk
theorem xf_10 {cI QA : ClassId} {zz : Nat} {g : Nat → Nat} {ad : Nat → Nat → Nat} {cn : Nat → Nat} {In : Nat → Int32} {Fn : Nat → Nat → Int32} {k : Nat} (hk : k < (cn 6)) : (wX cI QA zz g ad cn In Fn)[(fxX cI QA zz g ad cn In Fn).length + (famO (fsX cI QA zz g ad cn In Fn) 10 + k)]? = some ((ad 62 k), .inl (cI, 12, .inl (gA (Fn 303) 12 k))) := fxW_get (p := ((cn 6), e10X cI QA zz g ad cn In Fn)) rfl hk
theorem xf_11 {cI QA : ClassId} {zz : Nat} {g : Nat → Nat} {ad : Nat → Nat → Nat} {cn : Nat → Nat} {In : Nat → Int32} {Fn : Nat → Nat → Int32} {k : Nat} (hk : k < (cn 6)) : (wX cI QA zz g ad cn In Fn)[(fxX cI QA zz g ad cn In Fn).length + (famO (fsX cI QA zz g ad cn In Fn) 11 + k)]? = some ((ad 63 k), .inl (cI, 12, .inl (gA (Fn 304) 12 k))) := fxW_get (p := ((cn 6), e11X cI QA zz g ad cn In Fn)) rfl hk
theorem xf_12 {cI QA : ClassId} {zz : Nat} {g : Nat → Nat} {ad : Nat → Nat → Nat} {cn : Nat → Nat} {In : Nat → Int32} {Fn : Nat → Nat → Int32} {k : Nat} (hk : k < (cn 6)) : (wX cI QA zz g ad cn In Fn)[(fxX cI QA zz g ad cn In Fn).length + (famO (fsX cI QA zz g ad cn In Fn) 12 + k)]? = some ((ad 64 k), .inl (cI, 32, .inl (gA (Fn 305) 32 k))) := fxW_get (p := ((cn 6), e12X cI QA zz g ad cn In Fn)) rfl hk
theorem xf_13 {cI QA : ClassId} {zz : Nat} {g : Nat → Nat} {ad : Nat → Nat → Nat} {cn : Nat → Nat} {In : Nat → Int32} {Fn : Nat → Nat → Int32} {k : Nat} (hk : k < (min 1 (cn 10))) : (wX cI QA zz g ad cn In Fn)[(fxX cI QA zz g ad cn In Fn).length + (famO (fsX cI QA zz g ad cn In Fn) 13 + k)]? = some (ad 2 0, .inl (QA, cn 20, .inr (.inr (.inr (.inr (fun i => if i < cn 10 then some (ad 10 i) else none)))))) := fxW_get (p := ((min 1 (cn 10)), e13X cI QA zz g ad cn In Fn)) rfl hk
theorem xf_14 {cI QA : ClassId} {zz : Nat} {g : Nat → Nat} {ad : Nat → Nat → Nat} {cn : Nat → Nat} {In : Nat → Int32} {Fn : Nat → Nat → Int32} {k : Nat} (hk : k < (min 1 (cn 11))) : (wX cI QA zz g ad cn In Fn)[(fxX cI QA zz g ad cn In Fn).length + (famO (fsX cI QA zz g ad cn In Fn) 14 + k)]? = some (ad 2 1, .inl (QA, cn 21, .inr (.inr (.inr (.inr (fun i => if i < cn 11 then some (ad 11 i) else none)))))) := fxW_get (p := ((min 1 (cn 11)), e14X cI QA zz g ad cn In Fn)) rfl hk
theorem xf_15 {cI QA : ClassId} {zz : Nat} {g : Nat → Nat} {ad : Nat → Nat → Nat} {cn : Nat → Nat} {In : Nat → Int32} {Fn : Nat → Nat → Int32} {k : Nat} (hk : k < (min 1 (cn 12))) : (wX cI QA zz g ad cn In Fn)[(fxX cI QA zz g ad cn In Fn).length + (famO (fsX cI QA zz g ad cn In Fn) 15 + k)]? = some (ad 2 2, .inl (QA, cn 22, .inr (.inr (.inr (.inr (fun i => if i < cn 12 then some (ad 12 i) else none)))))) := fxW_get (p := ((min 1 (cn 12)), e15X cI QA zz g ad cn In Fn)) rfl hk
theorem xf_16 {cI QA : ClassId} {zz : Nat} {g : Nat → Nat} {ad : Nat → Nat → Nat} {cn : Nat → Nat} {In : Nat → Int32} {Fn : Nat → Nat → Int32} {k : Nat} (hk : k < (min 1 (cn 13))) : (wX cI QA zz g ad cn In Fn)[(fxX cI QA zz g ad cn In Fn).length + (famO (fsX cI QA zz g ad cn In Fn) 16 + k)]? = some (ad 2 3, .inl (QA, cn 23, .inr (.inr (.inr (.inr (fun i => if i < cn 13 then some (ad 13 i) else none)))))) := fxW_get (p := ((min 1 (cn 13)), e16X cI QA zz g ad cn In Fn)) rfl hk
theorem xf_17 {cI QA : ClassId} {zz : Nat} {g : Nat → Nat} {ad : Nat → Nat → Nat} {cn : Nat → Nat} {In : Nat → Int32} {Fn : Nat → Nat → Int32} {k : Nat} (hk : k < (min 1 (cn 14))) : (wX cI QA zz g ad cn In Fn)[(fxX cI QA zz g ad cn In Fn).length + (famO (fsX cI QA zz g ad cn In Fn) 17 + k)]? = some (ad 2 4, .inl (QA, cn 24, .inr (.inr (.inr (.inr (fun i => if i < cn 14 then some (ad 14 i) else none)))))) := fxW_get (p := ((min 1 (cn 14)), e17X cI QA zz g ad cn In Fn)) rfl hk
theorem xf_18 {cI QA : ClassId} {zz : Nat} {g : Nat → Nat} {ad : Nat → Nat → Nat} {cn : Nat → Nat} {In : Nat → Int32} {Fn : Nat → Nat → Int32} {k : Nat} (hk : k < (min 1 (cn 15))) : (wX cI QA zz g ad cn In Fn)[(fxX cI QA zz g ad cn In Fn).length + (famO (fsX cI QA zz g ad cn In Fn) 18 + k)]? = some (ad 2 5, .inl (QA, cn 25, .inr (.inr (.inr (.inr (fun i => if i < cn 15 then some (ad 15 i) else none)))))) := fxW_get (p := ((min 1 (cn 15)), e18X cI QA zz g ad cn In Fn)) rfl hk
theorem xs_104 {cI QA : ClassId} {zz : Nat} {g : Nat → Nat} {ad : Nat → Nat → Nat} {cn : Nat → Nat} {In : Nat → Int32} {Fn : Nat → Nat → Int32} {k : Nat} {x : Int32} (hk : k < (cn 10)) : (wX cI QA zz g ad cn In Fn).set ((fxX cI QA zz g ad cn In Fn).length + (famO (fsX cI QA zz g ad cn In Fn) 0 + k)) ((ad 10 k), .inr (2, [.int (Fn 100 k), .int (Fn 101 k), .int (Fn 102 k), .int (Fn 103 k), .int (Fn 104 k), .int (Fn 105 k), .int (Fn 106 k), .int (Fn 107 k), .int (Fn 108 k), .int (Fn 109 k), .ref (ad 5 (ad 3 k))].set 4 (.int x))) = wX cI QA zz g ad cn In (va_up Fn 104 (upd (Fn 104) k x)) := by
  have h : e0X cI QA zz g ad cn In (va_up Fn 104 (upd (Fn 104) k x)) = va_up (e0X cI QA zz g ad cn In Fn) k ((ad 10 k), .inr (2, [.int (Fn 100 k), .int (Fn 101 k), .int (Fn 102 k), .int (Fn 103 k), .int (Fn 104 k), .int (Fn 105 k), .int (Fn 106 k), .int (Fn 107 k), .int (Fn 108 k), .int (Fn 109 k), .ref (ad 5 (ad 3 k))].set 4 (.int x))) := funext fun j => by
    by_cases q : j = k
    · subst q; simp [e0X, va_up, upd]
    · simp [e0X, va_up, upd, q]
  unfold wX
  rw [fxW_set (p := ((cn 10), e0X cI QA zz g ad cn In Fn)) rfl hk]
  exact congrArg (fun f => fxX cI QA zz g ad cn In Fn ++ famW ((fsX cI QA zz g ad cn In Fn).set 0 ((cn 10), f))) h.symm
theorem xs_105 {cI QA : ClassId} {zz : Nat} {g : Nat → Nat} {ad : Nat → Nat → Nat} {cn : Nat → Nat} {In : Nat → Int32} {Fn : Nat → Nat → Int32} {k : Nat} {x : Int32} (hk : k < (cn 10)) : (wX cI QA zz g ad cn In Fn).set ((fxX cI QA zz g ad cn In Fn).length + (famO (fsX cI QA zz g ad cn In Fn) 0 + k)) ((ad 10 k), .inr (2, [.int (Fn 100 k), .int (Fn 101 k), .int (Fn 102 k), .int (Fn 103 k), .int (Fn 104 k), .int (Fn 105 k), .int (Fn 106 k), .int (Fn 107 k), .int (Fn 108 k), .int (Fn 109 k), .ref (ad 5 (ad 3 k))].set 5 (.int x))) = wX cI QA zz g ad cn In (va_up Fn 105 (upd (Fn 105) k x)) := by
  have h : e0X cI QA zz g ad cn In (va_up Fn 105 (upd (Fn 105) k x)) = va_up (e0X cI QA zz g ad cn In Fn) k ((ad 10 k), .inr (2, [.int (Fn 100 k), .int (Fn 101 k), .int (Fn 102 k), .int (Fn 103 k), .int (Fn 104 k), .int (Fn 105 k), .int (Fn 106 k), .int (Fn 107 k), .int (Fn 108 k), .int (Fn 109 k), .ref (ad 5 (ad 3 k))].set 5 (.int x))) := funext fun j => by
    by_cases q : j = k
    · subst q; simp [e0X, va_up, upd]
    · simp [e0X, va_up, upd, q]
  unfold wX
  rw [fxW_set (p := ((cn 10), e0X cI QA zz g ad cn In Fn)) rfl hk]
  exact congrArg (fun f => fxX cI QA zz g ad cn In Fn ++ famW ((fsX cI QA zz g ad cn In Fn).set 0 ((cn 10), f))) h.symm
theorem xs_106 {cI QA : ClassId} {zz : Nat} {g : Nat → Nat} {ad : Nat → Nat → Nat} {cn : Nat → Nat} {In : Nat → Int32} {Fn : Nat → Nat → Int32} {k : Nat} {x : Int32} (hk : k < (cn 10)) : (wX cI QA zz g ad cn In Fn).set ((fxX cI QA zz g ad cn In Fn).length + (famO (fsX cI QA zz g ad cn In Fn) 0 + k)) ((ad 10 k), .inr (2, [.int (Fn 100 k), .int (Fn 101 k), .int (Fn 102 k), .int (Fn 103 k), .int (Fn 104 k), .int (Fn 105 k), .int (Fn 106 k), .int (Fn 107 k), .int (Fn 108 k), .int (Fn 109 k), .ref (ad 5 (ad 3 k))].set 6 (.int x))) = wX cI QA zz g ad cn In (va_up Fn 106 (upd (Fn 106) k x)) := by
  have h : e0X cI QA zz g ad cn In (va_up Fn 106 (upd (Fn 106) k x)) = va_up (e0X cI QA zz g ad cn In Fn) k ((ad 10 k), .inr (2, [.int (Fn 100 k), .int (Fn 101 k), .int (Fn 102 k), .int (Fn 103 k), .int (Fn 104 k), .int (Fn 105 k), .int (Fn 106 k), .int (Fn 107 k), .int (Fn 108 k), .int (Fn 109 k), .ref (ad 5 (ad 3 k))].set 6 (.int x))) := funext fun j => by
    by_cases q : j = k
    · subst q; simp [e0X, va_up, upd]
    · simp [e0X, va_up, upd, q]
  unfold wX
  rw [fxW_set (p := ((cn 10), e0X cI QA zz g ad cn In Fn)) rfl hk]
  exact congrArg (fun f => fxX cI QA zz g ad cn In Fn ++ famW ((fsX cI QA zz g ad cn In Fn).set 0 ((cn 10), f))) h.symm
theorem xs_107 {cI QA : ClassId} {zz : Nat} {g : Nat → Nat} {ad : Nat → Nat → Nat} {cn : Nat → Nat} {In : Nat → Int32} {Fn : Nat → Nat → Int32} {k : Nat} {x : Int32} (hk : k < (cn 10)) : (wX cI QA zz g ad cn In Fn).set ((fxX cI QA zz g ad cn In Fn).length + (famO (fsX cI QA zz g ad cn In Fn) 0 + k)) ((ad 10 k), .inr (2, [.int (Fn 100 k), .int (Fn 101 k), .int (Fn 102 k), .int (Fn 103 k), .int (Fn 104 k), .int (Fn 105 k), .int (Fn 106 k), .int (Fn 107 k), .int (Fn 108 k), .int (Fn 109 k), .ref (ad 5 (ad 3 k))].set 7 (.int x))) = wX cI QA zz g ad cn In (va_up Fn 107 (upd (Fn 107) k x)) := by
  have h : e0X cI QA zz g ad cn In (va_up Fn 107 (upd (Fn 107) k x)) = va_up (e0X cI QA zz g ad cn In Fn) k ((ad 10 k), .inr (2, [.int (Fn 100 k), .int (Fn 101 k), .int (Fn 102 k), .int (Fn 103 k), .int (Fn 104 k), .int (Fn 105 k), .int (Fn 106 k), .int (Fn 107 k), .int (Fn 108 k), .int (Fn 109 k), .ref (ad 5 (ad 3 k))].set 7 (.int x))) := funext fun j => by
    by_cases q : j = k
    · subst q; simp [e0X, va_up, upd]
    · simp [e0X, va_up, upd, q]
  unfold wX
  rw [fxW_set (p := ((cn 10), e0X cI QA zz g ad cn In Fn)) rfl hk]
  exact congrArg (fun f => fxX cI QA zz g ad cn In Fn ++ famW ((fsX cI QA zz g ad cn In Fn).set 0 ((cn 10), f))) h.symm
theorem xs_108 {cI QA : ClassId} {zz : Nat} {g : Nat → Nat} {ad : Nat → Nat → Nat} {cn : Nat → Nat} {In : Nat → Int32} {Fn : Nat → Nat → Int32} {k : Nat} {x : Int32} (hk : k < (cn 10)) : (wX cI QA zz g ad cn In Fn).set ((fxX cI QA zz g ad cn In Fn).length + (famO (fsX cI QA zz g ad cn In Fn) 0 + k)) ((ad 10 k), .inr (2, [.int (Fn 100 k), .int (Fn 101 k), .int (Fn 102 k), .int (Fn 103 k), .int (Fn 104 k), .int (Fn 105 k), .int (Fn 106 k), .int (Fn 107 k), .int (Fn 108 k), .int (Fn 109 k), .ref (ad 5 (ad 3 k))].set 8 (.int x))) = wX cI QA zz g ad cn In (va_up Fn 108 (upd (Fn 108) k x)) := by
  have h : e0X cI QA zz g ad cn In (va_up Fn 108 (upd (Fn 108) k x)) = va_up (e0X cI QA zz g ad cn In Fn) k ((ad 10 k), .inr (2, [.int (Fn 100 k), .int (Fn 101 k), .int (Fn 102 k), .int (Fn 103 k), .int (Fn 104 k), .int (Fn 105 k), .int (Fn 106 k), .int (Fn 107 k), .int (Fn 108 k), .int (Fn 109 k), .ref (ad 5 (ad 3 k))].set 8 (.int x))) := funext fun j => by
    by_cases q : j = k
    · subst q; simp [e0X, va_up, upd]
    · simp [e0X, va_up, upd, q]
  unfold wX
  rw [fxW_set (p := ((cn 10), e0X cI QA zz g ad cn In Fn)) rfl hk]
  exact congrArg (fun f => fxX cI QA zz g ad cn In Fn ++ famW ((fsX cI QA zz g ad cn In Fn).set 0 ((cn 10), f))) h.symm
theorem xs_109 {cI QA : ClassId} {zz : Nat} {g : Nat → Nat} {ad : Nat → Nat → Nat} {cn : Nat → Nat} {In : Nat → Int32} {Fn : Nat → Nat → Int32} {k : Nat} {x : Int32} (hk : k < (cn 10)) : (wX cI QA zz g ad cn In Fn).set ((fxX cI QA zz g ad cn In Fn).length + (famO (fsX cI QA zz g ad cn In Fn) 0 + k)) ((ad 10 k), .inr (2, [.int (Fn 100 k), .int (Fn 101 k), .int (Fn 102 k), .int (Fn 103 k), .int (Fn 104 k), .int (Fn 105 k), .int (Fn 106 k), .int (Fn 107 k), .int (Fn 108 k), .int (Fn 109 k), .ref (ad 5 (ad 3 k))].set 9 (.int x))) = wX cI QA zz g ad cn In (va_up Fn 109 (upd (Fn 109) k x)) := by
  have h : e0X cI QA zz g ad cn In (va_up Fn 109 (upd (Fn 109) k x)) = va_up (e0X cI QA zz g ad cn In Fn) k ((ad 10 k), .inr (2, [.int (Fn 100 k), .int (Fn 101 k), .int (Fn 102 k), .int (Fn 103 k), .int (Fn 104 k), .int (Fn 105 k), .int (Fn 106 k), .int (Fn 107 k), .int (Fn 108 k), .int (Fn 109 k), .ref (ad 5 (ad 3 k))].set 9 (.int x))) := funext fun j => by
    by_cases q : j = k
    · subst q; simp [e0X, va_up, upd]
    · simp [e0X, va_up, upd, q]
  unfold wX
  rw [fxW_set (p := ((cn 10), e0X cI QA zz g ad cn In Fn)) rfl hk]
  exact congrArg (fun f => fxX cI QA zz g ad cn In Fn ++ famW ((fsX cI QA zz g ad cn In Fn).set 0 ((cn 10), f))) h.symm
theorem xs_129 {cI QA : ClassId} {zz : Nat} {g : Nat → Nat} {ad : Nat → Nat → Nat} {cn : Nat → Nat} {In : Nat → Int32} {Fn : Nat → Nat → Int32} {k : Nat} {x : Int32} (hk : k < (cn 11)) : (wX cI QA zz g ad cn In Fn).set ((fxX cI QA zz g ad cn In Fn).length + (famO (fsX cI QA zz g ad cn In Fn) 1 + k)) ((ad 11 k), .inr (3, [.int (Fn 120 k), .int (Fn 121 k), .int (Fn 122 k), .int (Fn 123 k), .int (Fn 124 k), .int (Fn 125 k), .int (Fn 126 k), .int (Fn 127 k), .int (Fn 128 k), .int (Fn 129 k)].set 9 (.int x))) = wX cI QA zz g ad cn In (va_up Fn 129 (upd (Fn 129) k x)) := by
  have h : e1X cI QA zz g ad cn In (va_up Fn 129 (upd (Fn 129) k x)) = va_up (e1X cI QA zz g ad cn In Fn) k ((ad 11 k), .inr (3, [.int (Fn 120 k), .int (Fn 121 k), .int (Fn 122 k), .int (Fn 123 k), .int (Fn 124 k), .int (Fn 125 k), .int (Fn 126 k), .int (Fn 127 k), .int (Fn 128 k), .int (Fn 129 k)].set 9 (.int x))) := funext fun j => by
    by_cases q : j = k
    · subst q; simp [e1X, va_up, upd]
    · simp [e1X, va_up, upd, q]
  unfold wX
  rw [fxW_set (p := ((cn 11), e1X cI QA zz g ad cn In Fn)) rfl hk]
  exact congrArg (fun f => fxX cI QA zz g ad cn In Fn ++ famW ((fsX cI QA zz g ad cn In Fn).set 1 ((cn 11), f))) h.symm
theorem xs_143 {cI QA : ClassId} {zz : Nat} {g : Nat → Nat} {ad : Nat → Nat → Nat} {cn : Nat → Nat} {In : Nat → Int32} {Fn : Nat → Nat → Int32} {k : Nat} {x : Int32} (hk : k < (cn 12)) : (wX cI QA zz g ad cn In Fn).set ((fxX cI QA zz g ad cn In Fn).length + (famO (fsX cI QA zz g ad cn In Fn) 2 + k)) ((ad 12 k), .inr (1, [.ref (ad 1 k), .int (Fn 141 k), .int (Fn 142 k), .int (Fn 143 k), .int (Fn 144 k), .int (Fn 145 k), .int (Fn 146 k), .int (Fn 147 k)].set 3 (.int x))) = wX cI QA zz g ad cn In (va_up Fn 143 (upd (Fn 143) k x)) := by
  have h : e2X cI QA zz g ad cn In (va_up Fn 143 (upd (Fn 143) k x)) = va_up (e2X cI QA zz g ad cn In Fn) k ((ad 12 k), .inr (1, [.ref (ad 1 k), .int (Fn 141 k), .int (Fn 142 k), .int (Fn 143 k), .int (Fn 144 k), .int (Fn 145 k), .int (Fn 146 k), .int (Fn 147 k)].set 3 (.int x))) := funext fun j => by
    by_cases q : j = k
    · subst q; simp [e2X, va_up, upd]
    · simp [e2X, va_up, upd, q]
  unfold wX
  rw [fxW_set (p := ((cn 12), e2X cI QA zz g ad cn In Fn)) rfl hk]
  exact congrArg (fun f => fxX cI QA zz g ad cn In Fn ++ famW ((fsX cI QA zz g ad cn In Fn).set 2 ((cn 12), f))) h.symm
theorem xs_172 {cI QA : ClassId} {zz : Nat} {g : Nat → Nat} {ad : Nat → Nat → Nat} {cn : Nat → Nat} {In : Nat → Int32} {Fn : Nat → Nat → Int32} {k : Nat} {x : Int32} (hk : k < (cn 14)) : (wX cI QA zz g ad cn In Fn).set ((fxX cI QA zz g ad cn In Fn).length + (famO (fsX cI QA zz g ad cn In Fn) 4 + k)) ((ad 14 k), .inr (7, [.int (Fn 170 k), .int (Fn 171 k), .int (Fn 172 k)].set 2 (.int x))) = wX cI QA zz g ad cn In (va_up Fn 172 (upd (Fn 172) k x)) := by
  have h : e4X cI QA zz g ad cn In (va_up Fn 172 (upd (Fn 172) k x)) = va_up (e4X cI QA zz g ad cn In Fn) k ((ad 14 k), .inr (7, [.int (Fn 170 k), .int (Fn 171 k), .int (Fn 172 k)].set 2 (.int x))) := funext fun j => by
    by_cases q : j = k
    · subst q; simp [e4X, va_up, upd]
    · simp [e4X, va_up, upd, q]
  unfold wX
  rw [fxW_set (p := ((cn 14), e4X cI QA zz g ad cn In Fn)) rfl hk]
  exact congrArg (fun f => fxX cI QA zz g ad cn In Fn ++ famW ((fsX cI QA zz g ad cn In Fn).set 4 ((cn 14), f))) h.symm
theorem xs_195 {cI QA : ClassId} {zz : Nat} {g : Nat → Nat} {ad : Nat → Nat → Nat} {cn : Nat → Nat} {In : Nat → Int32} {Fn : Nat → Nat → Int32} {k : Nat} {x : Int32} (hk : k < (cn 6)) : (wX cI QA zz g ad cn In Fn).set ((fxX cI QA zz g ad cn In Fn).length + (famO (fsX cI QA zz g ad cn In Fn) 7 + k)) ((ad 5 k), .inr (10, [.ref (ad 60 k), .ref (ad 61 k), .ref (ad 62 k), .ref (ad 63 k), .ref (ad 64 k), .int (Fn 195 k), .int (Fn 196 k), .int (Fn 197 k), .int (Fn 198 k)].set 5 (.int x))) = wX cI QA zz g ad cn In (va_up Fn 195 (upd (Fn 195) k x)) := by
  have h : e7X cI QA zz g ad cn In (va_up Fn 195 (upd (Fn 195) k x)) = va_up (e7X cI QA zz g ad cn In Fn) k ((ad 5 k), .inr (10, [.ref (ad 60 k), .ref (ad 61 k), .ref (ad 62 k), .ref (ad 63 k), .ref (ad 64 k), .int (Fn 195 k), .int (Fn 196 k), .int (Fn 197 k), .int (Fn 198 k)].set 5 (.int x))) := funext fun j => by
    by_cases q : j = k
    · subst q; simp [e7X, va_up, upd]
    · simp [e7X, va_up, upd, q]
  unfold wX
  rw [fxW_set (p := ((cn 6), e7X cI QA zz g ad cn In Fn)) rfl hk]
  exact congrArg (fun f => fxX cI QA zz g ad cn In Fn ++ famW ((fsX cI QA zz g ad cn In Fn).set 7 ((cn 6), f))) h.symm
theorem xs_196 {cI QA : ClassId} {zz : Nat} {g : Nat → Nat} {ad : Nat → Nat → Nat} {cn : Nat → Nat} {In : Nat → Int32} {Fn : Nat → Nat → Int32} {k : Nat} {x : Int32} (hk : k < (cn 6)) : (wX cI QA zz g ad cn In Fn).set ((fxX cI QA zz g ad cn In Fn).length + (famO (fsX cI QA zz g ad cn In Fn) 7 + k)) ((ad 5 k), .inr (10, [.ref (ad 60 k), .ref (ad 61 k), .ref (ad 62 k), .ref (ad 63 k), .ref (ad 64 k), .int (Fn 195 k), .int (Fn 196 k), .int (Fn 197 k), .int (Fn 198 k)].set 6 (.int x))) = wX cI QA zz g ad cn In (va_up Fn 196 (upd (Fn 196) k x)) := by
  have h : e7X cI QA zz g ad cn In (va_up Fn 196 (upd (Fn 196) k x)) = va_up (e7X cI QA zz g ad cn In Fn) k ((ad 5 k), .inr (10, [.ref (ad 60 k), .ref (ad 61 k), .ref (ad 62 k), .ref (ad 63 k), .ref (ad 64 k), .int (Fn 195 k), .int (Fn 196 k), .int (Fn 197 k), .int (Fn 198 k)].set 6 (.int x))) := funext fun j => by
    by_cases q : j = k
    · subst q; simp [e7X, va_up, upd]
    · simp [e7X, va_up, upd, q]
  unfold wX
  rw [fxW_set (p := ((cn 6), e7X cI QA zz g ad cn In Fn)) rfl hk]
  exact congrArg (fun f => fxX cI QA zz g ad cn In Fn ++ famW ((fsX cI QA zz g ad cn In Fn).set 7 ((cn 6), f))) h.symm
theorem xs_197 {cI QA : ClassId} {zz : Nat} {g : Nat → Nat} {ad : Nat → Nat → Nat} {cn : Nat → Nat} {In : Nat → Int32} {Fn : Nat → Nat → Int32} {k : Nat} {x : Int32} (hk : k < (cn 6)) : (wX cI QA zz g ad cn In Fn).set ((fxX cI QA zz g ad cn In Fn).length + (famO (fsX cI QA zz g ad cn In Fn) 7 + k)) ((ad 5 k), .inr (10, [.ref (ad 60 k), .ref (ad 61 k), .ref (ad 62 k), .ref (ad 63 k), .ref (ad 64 k), .int (Fn 195 k), .int (Fn 196 k), .int (Fn 197 k), .int (Fn 198 k)].set 7 (.int x))) = wX cI QA zz g ad cn In (va_up Fn 197 (upd (Fn 197) k x)) := by
  have h : e7X cI QA zz g ad cn In (va_up Fn 197 (upd (Fn 197) k x)) = va_up (e7X cI QA zz g ad cn In Fn) k ((ad 5 k), .inr (10, [.ref (ad 60 k), .ref (ad 61 k), .ref (ad 62 k), .ref (ad 63 k), .ref (ad 64 k), .int (Fn 195 k), .int (Fn 196 k), .int (Fn 197 k), .int (Fn 198 k)].set 7 (.int x))) := funext fun j => by
    by_cases q : j = k
    · subst q; simp [e7X, va_up, upd]
    · simp [e7X, va_up, upd, q]
  unfold wX
  rw [fxW_set (p := ((cn 6), e7X cI QA zz g ad cn In Fn)) rfl hk]
  exact congrArg (fun f => fxX cI QA zz g ad cn In Fn ++ famW ((fsX cI QA zz g ad cn In Fn).set 7 ((cn 6), f))) h.symm
theorem xs_198 {cI QA : ClassId} {zz : Nat} {g : Nat → Nat} {ad : Nat → Nat → Nat} {cn : Nat → Nat} {In : Nat → Int32} {Fn : Nat → Nat → Int32} {k : Nat} {x : Int32} (hk : k < (cn 6)) : (wX cI QA zz g ad cn In Fn).set ((fxX cI QA zz g ad cn In Fn).length + (famO (fsX cI QA zz g ad cn In Fn) 7 + k)) ((ad 5 k), .inr (10, [.ref (ad 60 k), .ref (ad 61 k), .ref (ad 62 k), .ref (ad 63 k), .ref (ad 64 k), .int (Fn 195 k), .int (Fn 196 k), .int (Fn 197 k), .int (Fn 198 k)].set 8 (.int x))) = wX cI QA zz g ad cn In (va_up Fn 198 (upd (Fn 198) k x)) := by
  have h : e7X cI QA zz g ad cn In (va_up Fn 198 (upd (Fn 198) k x)) = va_up (e7X cI QA zz g ad cn In Fn) k ((ad 5 k), .inr (10, [.ref (ad 60 k), .ref (ad 61 k), .ref (ad 62 k), .ref (ad 63 k), .ref (ad 64 k), .int (Fn 195 k), .int (Fn 196 k), .int (Fn 197 k), .int (Fn 198 k)].set 8 (.int x))) := funext fun j => by
    by_cases q : j = k
    · subst q; simp [e7X, va_up, upd]
    · simp [e7X, va_up, upd, q]
  unfold wX
  rw [fxW_set (p := ((cn 6), e7X cI QA zz g ad cn In Fn)) rfl hk]
  exact congrArg (fun f => fxX cI QA zz g ad cn In Fn ++ famW ((fsX cI QA zz g ad cn In Fn).set 7 ((cn 6), f))) h.symm
theorem xsg_6 {cI QA : ClassId} {zz : Nat} {g : Nat → Nat} {ad : Nat → Nat → Nat} {cn : Nat → Nat} {In : Nat → Int32} {Fn : Nat → Nat → Int32} {k : Nat} {f : Nat → Int32} (hk : k < (cn 12)) (hf : ∀ i : Nat, 12 ≤ i → f i = 0) : (wX cI QA zz g ad cn In Fn).set ((fxX cI QA zz g ad cn In Fn).length + (famO (fsX cI QA zz g ad cn In Fn) 6 + k)) ((ad 1 k), .inl (cI, 12, .inl f)) = wX cI QA zz g ad cn In (va_up Fn 150 (flat (Fn 150) 12 k f)) := by
  have h : e6X cI QA zz g ad cn In (va_up Fn 150 (flat (Fn 150) 12 k f)) = va_up (e6X cI QA zz g ad cn In Fn) k ((ad 1 k), .inl (cI, 12, .inl f)) := funext fun j => by
    by_cases q : j = k
    · subst q; simp [e6X, va_up, gA_flat (F := Fn 150) (f := f) (st := 12) (k := j) (by decide) hf]
    · simp [e6X, va_up, q, gA_flat_ne (F := Fn 150) (f := f) (st := 12) (k := k) (by decide) q]
  unfold wX
  rw [fxW_set (p := ((cn 12), e6X cI QA zz g ad cn In Fn)) rfl hk]
  exact congrArg (fun f => fxX cI QA zz g ad cn In Fn ++ famW ((fsX cI QA zz g ad cn In Fn).set 6 ((cn 12), f))) h.symm
theorem xsg_8 {cI QA : ClassId} {zz : Nat} {g : Nat → Nat} {ad : Nat → Nat → Nat} {cn : Nat → Nat} {In : Nat → Int32} {Fn : Nat → Nat → Int32} {k : Nat} {f : Nat → Int32} (hk : k < (cn 6)) (hf : ∀ i : Nat, 200 ≤ i → f i = 0) : (wX cI QA zz g ad cn In Fn).set ((fxX cI QA zz g ad cn In Fn).length + (famO (fsX cI QA zz g ad cn In Fn) 8 + k)) ((ad 60 k), .inl (cI, (Fn 199 k).toInt.toNat, .inl f)) = wX cI QA zz g ad cn In (va_up Fn 301 (flat (Fn 301) 200 k f)) := by
  have h : e8X cI QA zz g ad cn In (va_up Fn 301 (flat (Fn 301) 200 k f)) = va_up (e8X cI QA zz g ad cn In Fn) k ((ad 60 k), .inl (cI, (Fn 199 k).toInt.toNat, .inl f)) := funext fun j => by
    by_cases q : j = k
    · subst q; simp [e8X, va_up, gA_flat (F := Fn 301) (f := f) (st := 200) (k := j) (by decide) hf]
    · simp [e8X, va_up, q, gA_flat_ne (F := Fn 301) (f := f) (st := 200) (k := k) (by decide) q]
  unfold wX
  rw [fxW_set (p := ((cn 6), e8X cI QA zz g ad cn In Fn)) rfl hk]
  exact congrArg (fun f => fxX cI QA zz g ad cn In Fn ++ famW ((fsX cI QA zz g ad cn In Fn).set 8 ((cn 6), f))) h.symm
theorem xsg_9 {cI QA : ClassId} {zz : Nat} {g : Nat → Nat} {ad : Nat → Nat → Nat} {cn : Nat → Nat} {In : Nat → Int32} {Fn : Nat → Nat → Int32} {k : Nat} {f : Nat → Int32} (hk : k < (cn 6)) (hf : ∀ i : Nat, 12 ≤ i → f i = 0) : (wX cI QA zz g ad cn In Fn).set ((fxX cI QA zz g ad cn In Fn).length + (famO (fsX cI QA zz g ad cn In Fn) 9 + k)) ((ad 61 k), .inl (cI, 12, .inl f)) = wX cI QA zz g ad cn In (va_up Fn 302 (flat (Fn 302) 12 k f)) := by
  have h : e9X cI QA zz g ad cn In (va_up Fn 302 (flat (Fn 302) 12 k f)) = va_up (e9X cI QA zz g ad cn In Fn) k ((ad 61 k), .inl (cI, 12, .inl f)) := funext fun j => by
    by_cases q : j = k
    · subst q; simp [e9X, va_up, gA_flat (F := Fn 302) (f := f) (st := 12) (k := j) (by decide) hf]
    · simp [e9X, va_up, q, gA_flat_ne (F := Fn 302) (f := f) (st := 12) (k := k) (by decide) q]
  unfold wX
  rw [fxW_set (p := ((cn 6), e9X cI QA zz g ad cn In Fn)) rfl hk]
  exact congrArg (fun f => fxX cI QA zz g ad cn In Fn ++ famW ((fsX cI QA zz g ad cn In Fn).set 9 ((cn 6), f))) h.symm
theorem xsg_10 {cI QA : ClassId} {zz : Nat} {g : Nat → Nat} {ad : Nat → Nat → Nat} {cn : Nat → Nat} {In : Nat → Int32} {Fn : Nat → Nat → Int32} {k : Nat} {f : Nat → Int32} (hk : k < (cn 6)) (hf : ∀ i : Nat, 12 ≤ i → f i = 0) : (wX cI QA zz g ad cn In Fn).set ((fxX cI QA zz g ad cn In Fn).length + (famO (fsX cI QA zz g ad cn In Fn) 10 + k)) ((ad 62 k), .inl (cI, 12, .inl f)) = wX cI QA zz g ad cn In (va_up Fn 303 (flat (Fn 303) 12 k f)) := by
  have h : e10X cI QA zz g ad cn In (va_up Fn 303 (flat (Fn 303) 12 k f)) = va_up (e10X cI QA zz g ad cn In Fn) k ((ad 62 k), .inl (cI, 12, .inl f)) := funext fun j => by
    by_cases q : j = k
    · subst q; simp [e10X, va_up, gA_flat (F := Fn 303) (f := f) (st := 12) (k := j) (by decide) hf]
    · simp [e10X, va_up, q, gA_flat_ne (F := Fn 303) (f := f) (st := 12) (k := k) (by decide) q]
  unfold wX
  rw [fxW_set (p := ((cn 6), e10X cI QA zz g ad cn In Fn)) rfl hk]
  exact congrArg (fun f => fxX cI QA zz g ad cn In Fn ++ famW ((fsX cI QA zz g ad cn In Fn).set 10 ((cn 6), f))) h.symm
theorem xsg_11 {cI QA : ClassId} {zz : Nat} {g : Nat → Nat} {ad : Nat → Nat → Nat} {cn : Nat → Nat} {In : Nat → Int32} {Fn : Nat → Nat → Int32} {k : Nat} {f : Nat → Int32} (hk : k < (cn 6)) (hf : ∀ i : Nat, 12 ≤ i → f i = 0) : (wX cI QA zz g ad cn In Fn).set ((fxX cI QA zz g ad cn In Fn).length + (famO (fsX cI QA zz g ad cn In Fn) 11 + k)) ((ad 63 k), .inl (cI, 12, .inl f)) = wX cI QA zz g ad cn In (va_up Fn 304 (flat (Fn 304) 12 k f)) := by
  have h : e11X cI QA zz g ad cn In (va_up Fn 304 (flat (Fn 304) 12 k f)) = va_up (e11X cI QA zz g ad cn In Fn) k ((ad 63 k), .inl (cI, 12, .inl f)) := funext fun j => by
    by_cases q : j = k
    · subst q; simp [e11X, va_up, gA_flat (F := Fn 304) (f := f) (st := 12) (k := j) (by decide) hf]
    · simp [e11X, va_up, q, gA_flat_ne (F := Fn 304) (f := f) (st := 12) (k := k) (by decide) q]
  unfold wX
  rw [fxW_set (p := ((cn 6), e11X cI QA zz g ad cn In Fn)) rfl hk]
  exact congrArg (fun f => fxX cI QA zz g ad cn In Fn ++ famW ((fsX cI QA zz g ad cn In Fn).set 11 ((cn 6), f))) h.symm
theorem xsg_12 {cI QA : ClassId} {zz : Nat} {g : Nat → Nat} {ad : Nat → Nat → Nat} {cn : Nat → Nat} {In : Nat → Int32} {Fn : Nat → Nat → Int32} {k : Nat} {f : Nat → Int32} (hk : k < (cn 6)) (hf : ∀ i : Nat, 32 ≤ i → f i = 0) : (wX cI QA zz g ad cn In Fn).set ((fxX cI QA zz g ad cn In Fn).length + (famO (fsX cI QA zz g ad cn In Fn) 12 + k)) ((ad 64 k), .inl (cI, 32, .inl f)) = wX cI QA zz g ad cn In (va_up Fn 305 (flat (Fn 305) 32 k f)) := by
  have h : e12X cI QA zz g ad cn In (va_up Fn 305 (flat (Fn 305) 32 k f)) = va_up (e12X cI QA zz g ad cn In Fn) k ((ad 64 k), .inl (cI, 32, .inl f)) := funext fun j => by
    by_cases q : j = k
    · subst q; simp [e12X, va_up, gA_flat (F := Fn 305) (f := f) (st := 32) (k := j) (by decide) hf]
    · simp [e12X, va_up, q, gA_flat_ne (F := Fn 305) (f := f) (st := 32) (k := k) (by decide) q]
  unfold wX
  rw [fxW_set (p := ((cn 6), e12X cI QA zz g ad cn In Fn)) rfl hk]
  exact congrArg (fun f => fxX cI QA zz g ad cn In Fn ++ famW ((fsX cI QA zz g ad cn In Fn).set 12 ((cn 6), f))) h.symm
theorem xsf_0_0 {cI QA : ClassId} {zz : Nat} {g : Nat → Nat} {ad : Nat → Nat → Nat} {cn : Nat → Nat} {In : Nat → Int32} {Fn : Nat → Nat → Int32} {x : Nat} : (wX cI QA zz g ad cn In Fn).set 0 ((g 0), .inr (12, [.int (nI (cn 0)), .int (nI (cn 1)), .int (nI (cn 2)), .int (nI (cn 5)), .ref (ad 5 (ad 4 0)), .ref (g 5), .ref (g 6), .ref (g 7), .ref (g 8), .ref (g 9), .ref (g 10), .ref (g 11), .ref (g 12), .ref (g 13), .ref (g 14), .ref (g 15)].set 0 (.int (nI x)))) = wX cI QA zz g ad (va_up cn 0 x) In Fn := rfl
theorem xsf_0_1 {cI QA : ClassId} {zz : Nat} {g : Nat → Nat} {ad : Nat → Nat → Nat} {cn : Nat → Nat} {In : Nat → Int32} {Fn : Nat → Nat → Int32} {x : Nat} : (wX cI QA zz g ad cn In Fn).set 0 ((g 0), .inr (12, [.int (nI (cn 0)), .int (nI (cn 1)), .int (nI (cn 2)), .int (nI (cn 5)), .ref (ad 5 (ad 4 0)), .ref (g 5), .ref (g 6), .ref (g 7), .ref (g 8), .ref (g 9), .ref (g 10), .ref (g 11), .ref (g 12), .ref (g 13), .ref (g 14), .ref (g 15)].set 1 (.int (nI x)))) = wX cI QA zz g ad (va_up cn 1 x) In Fn := rfl
theorem xsf_0_2 {cI QA : ClassId} {zz : Nat} {g : Nat → Nat} {ad : Nat → Nat → Nat} {cn : Nat → Nat} {In : Nat → Int32} {Fn : Nat → Nat → Int32} {x : Nat} : (wX cI QA zz g ad cn In Fn).set 0 ((g 0), .inr (12, [.int (nI (cn 0)), .int (nI (cn 1)), .int (nI (cn 2)), .int (nI (cn 5)), .ref (ad 5 (ad 4 0)), .ref (g 5), .ref (g 6), .ref (g 7), .ref (g 8), .ref (g 9), .ref (g 10), .ref (g 11), .ref (g 12), .ref (g 13), .ref (g 14), .ref (g 15)].set 2 (.int (nI x)))) = wX cI QA zz g ad (va_up cn 2 x) In Fn := rfl
theorem xsf_0_3 {cI QA : ClassId} {zz : Nat} {g : Nat → Nat} {ad : Nat → Nat → Nat} {cn : Nat → Nat} {In : Nat → Int32} {Fn : Nat → Nat → Int32} {x : Nat} : (wX cI QA zz g ad cn In Fn).set 0 ((g 0), .inr (12, [.int (nI (cn 0)), .int (nI (cn 1)), .int (nI (cn 2)), .int (nI (cn 5)), .ref (ad 5 (ad 4 0)), .ref (g 5), .ref (g 6), .ref (g 7), .ref (g 8), .ref (g 9), .ref (g 10), .ref (g 11), .ref (g 12), .ref (g 13), .ref (g 14), .ref (g 15)].set 3 (.int (nI x)))) = wX cI QA zz g ad (va_up cn 5 x) In Fn := rfl
theorem xsf_1_1 {cI QA : ClassId} {zz : Nat} {g : Nat → Nat} {ad : Nat → Nat → Nat} {cn : Nat → Nat} {In : Nat → Int32} {Fn : Nat → Nat → Int32} {x : Nat} : (wX cI QA zz g ad cn In Fn).set 1 ((g 5), .inr (9, [.ref (g 40), .int (nI (cn 3))].set 1 (.int (nI x)))) = wX cI QA zz g ad (va_up cn 3 x) In Fn := rfl
theorem xsa_2 {cI QA : ClassId} {zz : Nat} {g : Nat → Nat} {ad : Nat → Nat → Nat} {cn : Nat → Nat} {In : Nat → Int32} {Fn : Nat → Nat → Int32} {f : Nat → Int32} : (wX cI QA zz g ad cn In Fn).set 2 ((g 40), .inl (cI, 200, .inl f)) = wX cI QA zz g ad cn In (va_up Fn 40 f) := rfl
theorem xsf_3_2 {cI QA : ClassId} {zz : Nat} {g : Nat → Nat} {ad : Nat → Nat → Nat} {cn : Nat → Nat} {In : Nat → Int32} {Fn : Nat → Nat → Int32} {x : Int32} : (wX cI QA zz g ad cn In Fn).set 3 ((g 6), .inr (6, [.ref (ad 4 2), .ref (ad 5 (ad 4 1)), .int (In 30), .int (nI (cn 31)), .int (nI (cn 32)), .int (In 33)].set 2 (.int x))) = wX cI QA zz g ad cn (va_up In 30 x) Fn := rfl
theorem xsf_3_3 {cI QA : ClassId} {zz : Nat} {g : Nat → Nat} {ad : Nat → Nat → Nat} {cn : Nat → Nat} {In : Nat → Int32} {Fn : Nat → Nat → Int32} {x : Nat} : (wX cI QA zz g ad cn In Fn).set 3 ((g 6), .inr (6, [.ref (ad 4 2), .ref (ad 5 (ad 4 1)), .int (In 30), .int (nI (cn 31)), .int (nI (cn 32)), .int (In 33)].set 3 (.int (nI x)))) = wX cI QA zz g ad (va_up cn 31 x) In Fn := rfl
theorem xsf_3_4 {cI QA : ClassId} {zz : Nat} {g : Nat → Nat} {ad : Nat → Nat → Nat} {cn : Nat → Nat} {In : Nat → Int32} {Fn : Nat → Nat → Int32} {x : Nat} : (wX cI QA zz g ad cn In Fn).set 3 ((g 6), .inr (6, [.ref (ad 4 2), .ref (ad 5 (ad 4 1)), .int (In 30), .int (nI (cn 31)), .int (nI (cn 32)), .int (In 33)].set 4 (.int (nI x)))) = wX cI QA zz g ad (va_up cn 32 x) In Fn := rfl
theorem xsf_3_5 {cI QA : ClassId} {zz : Nat} {g : Nat → Nat} {ad : Nat → Nat → Nat} {cn : Nat → Nat} {In : Nat → Int32} {Fn : Nat → Nat → Int32} {x : Int32} : (wX cI QA zz g ad cn In Fn).set 3 ((g 6), .inr (6, [.ref (ad 4 2), .ref (ad 5 (ad 4 1)), .int (In 30), .int (nI (cn 31)), .int (nI (cn 32)), .int (In 33)].set 5 (.int x))) = wX cI QA zz g ad cn (va_up In 33 x) Fn := rfl
theorem xsa_5 {cI QA : ClassId} {zz : Nat} {g : Nat → Nat} {ad : Nat → Nat → Nat} {cn : Nat → Nat} {In : Nat → Int32} {Fn : Nat → Nat → Int32} {f : Nat → Int32} : (wX cI QA zz g ad cn In Fn).set 5 ((g 7), .inl (cI, 11, .inl f)) = wX cI QA zz g ad cn In (va_up Fn 7 f) := rfl
theorem xsa_7 {cI QA : ClassId} {zz : Nat} {g : Nat → Nat} {ad : Nat → Nat → Nat} {cn : Nat → Nat} {In : Nat → Int32} {Fn : Nat → Nat → Int32} {f : Nat → Int32} : (wX cI QA zz g ad cn In Fn).set 7 ((g 20), .inl (cI, 58, .inl f)) = wX cI QA zz g ad cn In (va_up Fn 20 f) := rfl
theorem xsr_7 {cI QA : ClassId} {zz : Nat} {g : Nat → Nat} {ad : Nat → Nat → Nat} {cn : Nat → Nat} {In : Nat → Int32} {Fn : Nat → Nat → Int32} : (wX cI QA zz g ad cn In Fn).set 7 ((g 20), .inl (cI, 58, .inl (Fn 20))) = wX cI QA zz g ad cn In Fn := rfl
theorem xsa_8 {cI QA : ClassId} {zz : Nat} {g : Nat → Nat} {ad : Nat → Nat → Nat} {cn : Nat → Nat} {In : Nat → Int32} {Fn : Nat → Nat → Int32} {f : Nat → Int32} : (wX cI QA zz g ad cn In Fn).set 8 ((g 21), .inl (cI, 24, .inl f)) = wX cI QA zz g ad cn In (va_up Fn 21 f) := rfl
theorem xsr_8 {cI QA : ClassId} {zz : Nat} {g : Nat → Nat} {ad : Nat → Nat → Nat} {cn : Nat → Nat} {In : Nat → Int32} {Fn : Nat → Nat → Int32} : (wX cI QA zz g ad cn In Fn).set 8 ((g 21), .inl (cI, 24, .inl (Fn 21))) = wX cI QA zz g ad cn In Fn := rfl
theorem xsa_9 {cI QA : ClassId} {zz : Nat} {g : Nat → Nat} {ad : Nat → Nat → Nat} {cn : Nat → Nat} {In : Nat → Int32} {Fn : Nat → Nat → Int32} {f : Nat → Int32} : (wX cI QA zz g ad cn In Fn).set 9 ((g 22), .inl (cI, 400, .inl f)) = wX cI QA zz g ad cn In (va_up Fn 22 f) := rfl
theorem xsr_9 {cI QA : ClassId} {zz : Nat} {g : Nat → Nat} {ad : Nat → Nat → Nat} {cn : Nat → Nat} {In : Nat → Int32} {Fn : Nat → Nat → Int32} : (wX cI QA zz g ad cn In Fn).set 9 ((g 22), .inl (cI, 400, .inl (Fn 22))) = wX cI QA zz g ad cn In Fn := rfl
theorem xsa_10 {cI QA : ClassId} {zz : Nat} {g : Nat → Nat} {ad : Nat → Nat → Nat} {cn : Nat → Nat} {In : Nat → Int32} {Fn : Nat → Nat → Int32} {f : Nat → Int32} : (wX cI QA zz g ad cn In Fn).set 10 ((g 23), .inl (cI, 400, .inl f)) = wX cI QA zz g ad cn In (va_up Fn 23 f) := rfl
theorem xsr_10 {cI QA : ClassId} {zz : Nat} {g : Nat → Nat} {ad : Nat → Nat → Nat} {cn : Nat → Nat} {In : Nat → Int32} {Fn : Nat → Nat → Int32} : (wX cI QA zz g ad cn In Fn).set 10 ((g 23), .inl (cI, 400, .inl (Fn 23))) = wX cI QA zz g ad cn In Fn := rfl
theorem xsa_11 {cI QA : ClassId} {zz : Nat} {g : Nat → Nat} {ad : Nat → Nat → Nat} {cn : Nat → Nat} {In : Nat → Int32} {Fn : Nat → Nat → Int32} {f : Nat → Int32} : (wX cI QA zz g ad cn In Fn).set 11 ((g 24), .inl (cI, 10, .inl f)) = wX cI QA zz g ad cn In (va_up Fn 24 f) := rfl
theorem xsr_11 {cI QA : ClassId} {zz : Nat} {g : Nat → Nat} {ad : Nat → Nat → Nat} {cn : Nat → Nat} {In : Nat → Int32} {Fn : Nat → Nat → Int32} : (wX cI QA zz g ad cn In Fn).set 11 ((g 24), .inl (cI, 10, .inl (Fn 24))) = wX cI QA zz g ad cn In Fn := rfl
theorem xsa_12 {cI QA : ClassId} {zz : Nat} {g : Nat → Nat} {ad : Nat → Nat → Nat} {cn : Nat → Nat} {In : Nat → Int32} {Fn : Nat → Nat → Int32} {f : Nat → Int32} : (wX cI QA zz g ad cn In Fn).set 12 ((g 25), .inl (cI, 10, .inl f)) = wX cI QA zz g ad cn In (va_up Fn 25 f) := rfl
theorem xsr_12 {cI QA : ClassId} {zz : Nat} {g : Nat → Nat} {ad : Nat → Nat → Nat} {cn : Nat → Nat} {In : Nat → Int32} {Fn : Nat → Nat → Int32} : (wX cI QA zz g ad cn In Fn).set 12 ((g 25), .inl (cI, 10, .inl (Fn 25))) = wX cI QA zz g ad cn In Fn := rfl
theorem xsa_13 {cI QA : ClassId} {zz : Nat} {g : Nat → Nat} {ad : Nat → Nat → Nat} {cn : Nat → Nat} {In : Nat → Int32} {Fn : Nat → Nat → Int32} {f : Nat → Int32} : (wX cI QA zz g ad cn In Fn).set 13 ((g 26), .inl (cI, 232, .inl f)) = wX cI QA zz g ad cn In (va_up Fn 26 f) := rfl
theorem xsr_13 {cI QA : ClassId} {zz : Nat} {g : Nat → Nat} {ad : Nat → Nat → Nat} {cn : Nat → Nat} {In : Nat → Int32} {Fn : Nat → Nat → Int32} : (wX cI QA zz g ad cn In Fn).set 13 ((g 26), .inl (cI, 232, .inl (Fn 26))) = wX cI QA zz g ad cn In Fn := rfl
theorem xsa_14 {cI QA : ClassId} {zz : Nat} {g : Nat → Nat} {ad : Nat → Nat → Nat} {cn : Nat → Nat} {In : Nat → Int32} {Fn : Nat → Nat → Int32} {f : Nat → Int32} : (wX cI QA zz g ad cn In Fn).set 14 ((g 27), .inl (cI, 3, .inl f)) = wX cI QA zz g ad cn In (va_up Fn 27 f) := rfl
theorem xsa_15 {cI QA : ClassId} {zz : Nat} {g : Nat → Nat} {ad : Nat → Nat → Nat} {cn : Nat → Nat} {In : Nat → Int32} {Fn : Nat → Nat → Int32} {f : Nat → Int32} : (wX cI QA zz g ad cn In Fn).set 15 ((g 28), .inl (cI, 1200, .inl f)) = wX cI QA zz g ad cn In (va_up Fn 28 f) := rfl
theorem xsa_16 {cI QA : ClassId} {zz : Nat} {g : Nat → Nat} {ad : Nat → Nat → Nat} {cn : Nat → Nat} {In : Nat → Int32} {Fn : Nat → Nat → Int32} {f : Nat → Int32} : (wX cI QA zz g ad cn In Fn).set 16 ((g 29), .inl (cI, 400, .inl f)) = wX cI QA zz g ad cn In (va_up Fn 29 f) := rfl
theorem xsf_17_6 {cI QA : ClassId} {zz : Nat} {g : Nat → Nat} {ad : Nat → Nat → Nat} {cn : Nat → Nat} {In : Nat → Int32} {Fn : Nat → Nat → Int32} {x : Nat} : (wX cI QA zz g ad cn In Fn).set 17 ((g 9), .inr (11, [.ref (g 30), .ref (g 31), .ref (g 32), .ref (g 33), .ref (g 34), .ref (g 35), .int (nI (cn 4))].set 6 (.int (nI x)))) = wX cI QA zz g ad (va_up cn 4 x) In Fn := rfl
theorem xsa_18 {cI QA : ClassId} {zz : Nat} {g : Nat → Nat} {ad : Nat → Nat → Nat} {cn : Nat → Nat} {In : Nat → Int32} {Fn : Nat → Nat → Int32} {f : Nat → Int32} : (wX cI QA zz g ad cn In Fn).set 18 ((g 30), .inl (cI, 8, .inl f)) = wX cI QA zz g ad cn In (va_up Fn 30 f) := rfl
theorem xsa_19 {cI QA : ClassId} {zz : Nat} {g : Nat → Nat} {ad : Nat → Nat → Nat} {cn : Nat → Nat} {In : Nat → Int32} {Fn : Nat → Nat → Int32} {f : Nat → Int32} : (wX cI QA zz g ad cn In Fn).set 19 ((g 31), .inl (cI, 8, .inl f)) = wX cI QA zz g ad cn In (va_up Fn 31 f) := rfl
theorem xsa_20 {cI QA : ClassId} {zz : Nat} {g : Nat → Nat} {ad : Nat → Nat → Nat} {cn : Nat → Nat} {In : Nat → Int32} {Fn : Nat → Nat → Int32} {f : Nat → Int32} : (wX cI QA zz g ad cn In Fn).set 20 ((g 32), .inl (cI, 8, .inl f)) = wX cI QA zz g ad cn In (va_up Fn 32 f) := rfl
theorem xsa_21 {cI QA : ClassId} {zz : Nat} {g : Nat → Nat} {ad : Nat → Nat → Nat} {cn : Nat → Nat} {In : Nat → Int32} {Fn : Nat → Nat → Int32} {f : Nat → Int32} : (wX cI QA zz g ad cn In Fn).set 21 ((g 33), .inl (cI, 8, .inl f)) = wX cI QA zz g ad cn In (va_up Fn 33 f) := rfl
theorem xsa_22 {cI QA : ClassId} {zz : Nat} {g : Nat → Nat} {ad : Nat → Nat → Nat} {cn : Nat → Nat} {In : Nat → Int32} {Fn : Nat → Nat → Int32} {f : Nat → Int32} : (wX cI QA zz g ad cn In Fn).set 22 ((g 34), .inl (cI, 2048, .inl f)) = wX cI QA zz g ad cn In (va_up Fn 34 f) := rfl
theorem xsa_23 {cI QA : ClassId} {zz : Nat} {g : Nat → Nat} {ad : Nat → Nat → Nat} {cn : Nat → Nat} {In : Nat → Int32} {Fn : Nat → Nat → Int32} {f : Nat → Int32} : (wX cI QA zz g ad cn In Fn).set 23 ((g 35), .inl (cI, 256, .inl f)) = wX cI QA zz g ad cn In (va_up Fn 35 f) := rfl
