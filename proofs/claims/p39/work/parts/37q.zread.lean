/-- the byte at p, -1 behind the end -/
def pk (b : Nat → Int32) (n p : Nat) : Int32 := if p < n then b p else -1
abbrev OutT : Type := List (Nat × Nat)
abbrev ResT : Type := Except Nat (Nat × OutT)
def resB (x : ResT) (g : Nat → OutT → ResT) : ResT :=
  match x with
  | .error e => .error e
  | .ok z => g z.1 z.2
/-- digits, at most f of them -/
def numL (b : Nat → Int32) (n : Nat) : Nat → Nat → Nat → Nat × Nat
  | 0, p, v => (p, v)
  | f + 1, p, v => if 48 ≤ (pk b n p).toInt ∧ (pk b n p).toInt ≤ 57 then numL b n f (p + 1) (10 * v + ((pk b n p).toInt.toNat - 48)) else (p, v)
def ltr (c : Int32) : Option Nat := if c = 113 then some 0 else if c = 102 then some 1 else if c = 97 then some 2 else if c = 100 then some 3 else if c = 119 then some 4 else if c = 103 then some 5 else if c = 107 then some 6 else if c = 109 then some 7 else if c = 115 then some 8 else if c = 111 then some 9 else if c = 110 then some 10 else none
def tms (c : Int32) : Option Nat := if c = 42 then some 5 else if c = 47 then some 6 else if c = 37 then some 7 else none
def pls (c : Int32) : Option Nat := if c = 43 then some 3 else if c = 45 then some 4 else none
/-- a number or a letter -/
def atmL (b : Nat → Int32) (n p : Nat) (o : OutT) : ResT :=
  if 48 ≤ (pk b n p).toInt ∧ (pk b n p).toInt ≤ 57 then
    (if 48 ≤ (pk b n (numL b n 6 p 0).1).toInt ∧ (pk b n (numL b n 6 p 0).1).toInt ≤ 57 then .error (2000 + (numL b n 6 p 0).1) else .ok ((numL b n 6 p 0).1, o ++ [(1, (numL b n 6 p 0).2)]))
  else match ltr (pk b n p) with
    | some l => .ok (p + 1, o ++ [(2, l)])
    | none => .error (1000 + p)
abbrev SumT : Type := Option (Nat → OutT → ResT)
/-- a factor: S reads a sum in brackets; none: too deep -/
def facL (b : Nat → Int32) (n : Nat) (S : SumT) (p : Nat) (o : OutT) : ResT :=
  if pk b n p = 91 then
    match S with
    | none => .error (5000 + p)
    | some s => resB (s (p + 1) o) (fun q o' => if pk b n q = 93 then .ok (q + 1, o') else .error (1000 + q))
  else atmL b n p o
def trmL (b : Nat → Int32) (n : Nat) (S : SumT) : Nat → Nat → OutT → ResT
  | 0, p, o => .ok (p, o)
  | f + 1, p, o =>
    match tms (pk b n p) with
    | none => .ok (p, o)
    | some t => resB (facL b n S (p + 1) o) (fun q o' => trmL b n S f q (o' ++ [(t, 0)]))
def trm (b : Nat → Int32) (n : Nat) (S : SumT) (p : Nat) (o : OutT) : ResT := resB (facL b n S p o) (fun q o' => trmL b n S (n + 1) q o')
def smL (b : Nat → Int32) (n : Nat) (S : SumT) : Nat → Nat → OutT → ResT
  | 0, p, o => .ok (p, o)
  | f + 1, p, o =>
    match pls (pk b n p) with
    | none => .ok (p, o)
    | some t => resB (trm b n S (p + 1) o) (fun q o' => smL b n S f q (o' ++ [(t, 0)]))
def sm1 (b : Nat → Int32) (n : Nat) (S : SumT) (p : Nat) (o : OutT) : ResT := resB (trm b n S p o) (fun q o' => smL b n S (n + 1) q o')
/-- what reads a sum with k levels left -/
def smK (b : Nat → Int32) (n : Nat) : Nat → SumT
  | 0 => none
  | k + 1 => some (sm1 b n (smK b n k))
def o1 (ti : Option Nat) : OutT := ti.toList.map (fun x => (x, 0))
abbrev LevT : Type := List (Option Nat × Option Nat)
/-- the reference's way: levels of waiting signs, the innermost first; m: a factor is to be read -/
def rm (b : Nat → Int32) (n : Nat) : Nat → Nat → Bool → LevT → Nat → OutT → ResT
  | 0, _, _, _, p, o => .ok (p, o)
  | f + 1, k, m, L, p, o =>
    if m = true then
      (if pk b n p = 91 then (if k = 0 then .error (5000 + p) else rm b n f (k - 1) true ((none, none) :: L) (p + 1) o)
      else resB (atmL b n p o) (fun q o' => rm b n f k false L q o'))
    else match L with
      | [] => .ok (p, o)
      | z :: L' =>
        match tms (pk b n p) with
        | some t => rm b n f k true ((z.1, some t) :: L') (p + 1) (o ++ o1 z.2)
        | none =>
          match pls (pk b n p) with
          | some t => rm b n f k true ((some t, none) :: L') (p + 1) (o ++ o1 z.2 ++ o1 z.1)
          | none => if L' = [] then .ok (p, o ++ o1 z.2 ++ o1 z.1) else if pk b n p = 93 then rm b n f (k + 1) false L' (p + 1) (o ++ o1 z.2 ++ o1 z.1) else .error (1000 + p)
/-- what is left to do behind a sum -/
def finL (b : Nat → Int32) (n k : Nat) (L : LevT) (q : Nat) (o : OutT) : ResT :=
  if L = [] then .ok (q, o) else if pk b n q = 93 then rm b n (n + 1) (k + 1) false L (q + 1) o else .error (1000 + q)
section PARS
variable {b : Nat → Int32} {n : Nat} {S : SumT}
theorem resB_assoc {x : ResT} {g h : Nat → OutT → ResT} : resB (resB x g) h = resB x (fun q o => resB (g q o) h) := by cases x <;> rfl
theorem resB_cg {x : ResT} {g h : Nat → OutT → ResT} (e : ∀ z : Nat × OutT, x = .ok z → g z.1 z.2 = h z.1 z.2) : resB x g = resB x h := by
  cases x with
  | error e' => rfl
  | ok z => exact e z rfl
theorem resB_ok {x : ResT} {g : Nat → OutT → ResT} {z : Nat × OutT} (h : resB x g = .ok z) : ∃ y : Nat × OutT, x = .ok y ∧ g y.1 y.2 = .ok z := by
  cases x with
  | error e => cases h
  | ok y => exact ⟨y, rfl, h⟩
def Mono (S : SumT) : Prop := ∀ s, S = some s → ∀ (p : Nat) (o : OutT) (z : Nat × OutT), s p o = .ok z → p ≤ z.1
theorem pke_out {p : Nat} (h : n ≤ p) : pk b n p = -1 := if_neg (by omega)
theorem pke_in {p : Nat} {c : Int32} (h : pk b n p = c) (hc : c ≠ -1) : p < n := Classical.byContradiction fun q => hc (h.symm.trans (pke_out (by omega)))
theorem num_adv : ∀ (f p v : Nat), p ≤ (numL b n f p v).1
  | 0, _, _ => Nat.le_refl _
  | f + 1, p, v => by
    unfold numL
    split
    · exact Nat.le_trans (Nat.le_succ p) (num_adv f (p + 1) _)
    · exact Nat.le_refl _
theorem atm_adv {p : Nat} {o : OutT} {z : Nat × OutT} (h : atmL b n p o = .ok z) : p < z.1 := by
  unfold atmL at h
  split at h
  · next hd =>
    split at h
    · cases h
    · have e := Except.ok.inj h
      rw [← e]
      show p < (numL b n (5 + 1) p 0).1
      unfold numL
      rw [if_pos hd]
      exact num_adv 5 (p + 1) _
  · split at h
    · have e := Except.ok.inj h
      rw [← e]
      exact Nat.lt_succ_self p
    · cases h
theorem fac_adv (hS : Mono S) {p : Nat} {o : OutT} {z : Nat × OutT} (h : facL b n S p o = .ok z) : p < z.1 := by
  unfold facL at h
  split at h
  · cases S with
    | none => cases h
    | some s =>
      obtain ⟨y, h1, h2⟩ := resB_ok h
      have a := hS s rfl (p + 1) o y h1
      split at h2
      · have e2 := Except.ok.inj h2
        rw [← e2]
        show p < y.1 + 1
        omega
      · cases h2
  · exact atm_adv h
theorem trmL_adv (hS : Mono S) : ∀ (f p : Nat) (o : OutT) (z : Nat × OutT), trmL b n S f p o = .ok z → p ≤ z.1
  | 0, p, o, z, h => by
    have e : (p, o) = z := Except.ok.inj h
    rw [← e]
    exact Nat.le_refl _
  | f + 1, p, o, z, h => by
    unfold trmL at h
    split at h
    · have e : (p, o) = z := Except.ok.inj h
      rw [← e]
      exact Nat.le_refl _
    · obtain ⟨y, h1, h2⟩ := resB_ok h
      have a := fac_adv hS h1
      have c := trmL_adv hS f _ _ _ h2
      omega
theorem trm_adv (hS : Mono S) {p : Nat} {o : OutT} {z : Nat × OutT} (h : trm b n S p o = .ok z) : p < z.1 := by
  obtain ⟨y, h1, h2⟩ := resB_ok h
  have a := fac_adv hS h1
  have c := trmL_adv hS _ _ _ _ h2
  omega
theorem smL_adv (hS : Mono S) : ∀ (f p : Nat) (o : OutT) (z : Nat × OutT), smL b n S f p o = .ok z → p ≤ z.1
  | 0, p, o, z, h => by
    have e : (p, o) = z := Except.ok.inj h
    rw [← e]
    exact Nat.le_refl _
  | f + 1, p, o, z, h => by
    unfold smL at h
    split at h
    · have e : (p, o) = z := Except.ok.inj h
      rw [← e]
      exact Nat.le_refl _
    · obtain ⟨y, h1, h2⟩ := resB_ok h
      have a := trm_adv hS h1
      have c := smL_adv hS f _ _ _ h2
      omega
theorem sm1_adv (hS : Mono S) {p : Nat} {o : OutT} {z : Nat × OutT} (h : sm1 b n S p o = .ok z) : p < z.1 := by
  obtain ⟨y, h1, h2⟩ := resB_ok h
  have a := trm_adv hS h1
  have c := smL_adv hS _ _ _ _ h2
  omega
theorem smK_mono : ∀ k : Nat, Mono (smK b n k)
  | 0 => fun s h => by cases h
  | k + 1 => fun s h p o z e => by
    have q := Option.some.inj h
    rw [← q] at e
    exact Nat.le_of_lt (sm1_adv (smK_mono k) e)
theorem atm_in {p : Nat} {o : OutT} {z : Nat × OutT} (h : atmL b n p o = .ok z) : p < n := Classical.byContradiction fun q => by
  have e : pk b n p = -1 := pke_out (by omega)
  unfold atmL at h
  rw [e] at h
  have l : ltr (-1) = none := by decide
  rw [if_neg (by decide), l] at h
  cases h
/-- behind a factor: the rest of the term, of the sum, and what stands around -/
def aft (b : Nat → Int32) (n k : Nat) (pl ti : Option Nat) (L : LevT) (p : Nat) (o : OutT) : ResT := resB (trmL b n (smK b n k) (n + 1) p (o ++ o1 ti)) (fun q o' => resB (smL b n (smK b n k) (n + 1) q (o' ++ o1 pl)) (fun q o' => finL b n k L q o'))
def AC (b : Nat → Int32) (n p : Nat) : Prop := ∀ (f k : Nat) (pl ti : Option Nat) (L : LevT) (o : OutT), n < f + p → 0 < f →
  rm b n f k true ((pl, ti) :: L) p o = resB (facL b n (smK b n k) p o) (fun q o' => aft b n k pl ti L q o') ∧ rm b n f k false ((pl, ti) :: L) p o = aft b n k pl ti L p o
end PARS
def rel (c : Int32) : Option Nat := if c = 60 then some 8 else if c = 62 then some 9 else if c = 61 then some 10 else none
/-- a comparison with k levels left -/
def cmpK (b : Nat → Int32) (n k p : Nat) (o : OutT) : ResT := resB (sm1 b n (smK b n k) p o) (fun q o' =>
  match rel (pk b n q) with
  | none => .error (1000 + q)
  | some r => resB (sm1 b n (smK b n k) (q + 1) o') (fun q o' => .ok (q, o' ++ [(r, 0)])))
/-- the jump at j goes to where the steps end -/
def aim (o : OutT) (j : Nat) : OutT := o.set j ((o[j]?.getD (0, 0)).1, o.length)
def aimO (o : OutT) : Option Nat → OutT
  | none => o
  | some j => aim o j
abbrev PceT : Type := Nat → OutT → ResT
def ptL (b : Nat → Int32) (n : Nat) (P : PceT) : Nat → Nat → OutT → ResT
  | 0, p, o => .ok (p, o)
  | f + 1, p, o => if pk b n p = 38 then resB (P (p + 1) (o ++ [(12, 0)])) (fun q o' => ptL b n P f q (aim o' o.length)) else .ok (p, o)
def ptK (b : Nat → Int32) (n : Nat) (P : PceT) (p : Nat) (o : OutT) : ResT := resB (P p o) (fun q o' => ptL b n P (n + 1) q o')
def cdL (b : Nat → Int32) (n : Nat) (P : PceT) : Nat → Nat → OutT → ResT
  | 0, p, o => .ok (p, o)
  | f + 1, p, o => if pk b n p = 124 then resB (ptK b n P (p + 1) (o ++ [(13, 0)])) (fun q o' => cdL b n P f q (aim o' o.length)) else .ok (p, o)
def cdK (b : Nat → Int32) (n : Nat) (P : PceT) (p : Nat) (o : OutT) : ResT := resB (ptK b n P p o) (fun q o' => cdL b n P (n + 1) q o')
def shut (b : Nat → Int32) (n q : Nat) (o : OutT) : ResT := if pk b n q = 41 then .ok (q + 1, o) else .error (1000 + q)
/-- a piece with k levels left -/
def pcK (b : Nat → Int32) (n : Nat) : Nat → PceT
  | 0, p, o => if pk b n p = 33 then .error (5000 + p) else if pk b n p = 40 then .error (5000 + p) else cmpK b n 0 p o
  | k + 1, p, o => if pk b n p = 33 then resB (pcK b n k (p + 1) o) (fun q o' => .ok (q, o' ++ [(11, 0)])) else if pk b n p = 40 then resB (cdK b n (pcK b n k) (p + 1) o) (fun q o' => shut b n q o') else cmpK b n (k + 1) p o
/-- levels of a condition, the innermost first: its | and its & that wait, and the ! ahead of the piece -/
abbrev CevT : Type := List (Option Nat × Option Nat × Nat)
def nots (m : Nat) : OutT := List.replicate m (11, 0)
/-- the reference's way; m: a piece is to be read -/
def cm (b : Nat → Int32) (n : Nat) : Nat → Nat → Bool → CevT → Nat → OutT → ResT
  | 0, _, _, _, p, o => .ok (p, o)
  | f + 1, k, m, L, p, o =>
    match L with
    | [] => .ok (p, o)
    | z :: L' =>
      if m = true then
        (if pk b n p = 33 then (if k = 0 then .error (5000 + p) else cm b n f (k - 1) true ((z.1, z.2.1, z.2.2 + 1) :: L') (p + 1) o)
        else if pk b n p = 40 then (if k = 0 then .error (5000 + p) else cm b n f (k - 1) true ((none, none, 0) :: z :: L') (p + 1) o)
        else resB (cmpK b n k p o) (fun q o' => cm b n f k false (z :: L') q o'))
      else
        (if pk b n p = 41 then
          (if L' = [] then .ok (p + 1, aimO (aimO (o ++ nots z.2.2) z.2.1) z.1) else cm b n f (k + z.2.2 + 1) false L' (p + 1) (aimO (aimO (o ++ nots z.2.2) z.2.1) z.1))
        else if pk b n p = 38 then cm b n f (k + z.2.2) true ((z.1, some (o ++ nots z.2.2).length, 0) :: L') (p + 1) (aimO (o ++ nots z.2.2) z.2.1 ++ [(12, 0)])
        else if pk b n p = 124 then cm b n f (k + z.2.2) true ((some (o ++ nots z.2.2).length, none, 0) :: L') (p + 1) (aimO (aimO (o ++ nots z.2.2) z.2.1) z.1 ++ [(13, 0)])
        else .error (1000 + p))
section PARC
variable {b : Nat → Int32} {n : Nat} {P : PceT}
theorem aim_len (o : OutT) (j : Nat) : (aim o j).length = o.length := List.length_set
theorem aimO_len (o : OutT) (j : Option Nat) : (aimO o j).length = o.length := by
  cases j with
  | none => rfl
  | some j => exact aim_len o j
def MonP (P : PceT) : Prop := ∀ (p : Nat) (o : OutT) (z : Nat × OutT), P p o = .ok z → p < z.1
theorem cmp_adv {k p : Nat} {o : OutT} {z : Nat × OutT} (h : cmpK b n k p o = .ok z) : p < z.1 := by
  obtain ⟨y, h1, h2⟩ := resB_ok h
  have a := sm1_adv (smK_mono k) h1
  split at h2
  · cases h2
  · obtain ⟨x, h3, h4⟩ := resB_ok h2
    have c := sm1_adv (smK_mono k) h3
    have e : (x.1, x.2 ++ _) = z := Except.ok.inj h4
    rw [← e]
    show p < x.1
    omega
theorem ptL_adv (hP : MonP P) : ∀ (f p : Nat) (o : OutT) (z : Nat × OutT), ptL b n P f p o = .ok z → p ≤ z.1
  | 0, p, o, z, h => by
    have e : (p, o) = z := Except.ok.inj h
    rw [← e]
    exact Nat.le_refl _
  | f + 1, p, o, z, h => by
    unfold ptL at h
    split at h
    · obtain ⟨y, h1, h2⟩ := resB_ok h
      have a := hP _ _ _ h1
      have c := ptL_adv hP f _ _ _ h2
      omega
    · have e : (p, o) = z := Except.ok.inj h
      rw [← e]
      exact Nat.le_refl _
theorem ptK_adv (hP : MonP P) {p : Nat} {o : OutT} {z : Nat × OutT} (h : ptK b n P p o = .ok z) : p < z.1 := by
  obtain ⟨y, h1, h2⟩ := resB_ok h
  have a := hP _ _ _ h1
  have c := ptL_adv hP _ _ _ _ h2
  omega
theorem cdL_adv (hP : MonP P) : ∀ (f p : Nat) (o : OutT) (z : Nat × OutT), cdL b n P f p o = .ok z → p ≤ z.1
  | 0, p, o, z, h => by
    have e : (p, o) = z := Except.ok.inj h
    rw [← e]
    exact Nat.le_refl _
  | f + 1, p, o, z, h => by
    unfold cdL at h
    split at h
    · obtain ⟨y, h1, h2⟩ := resB_ok h
      have a := ptK_adv hP h1
      have c := cdL_adv hP f _ _ _ h2
      omega
    · have e : (p, o) = z := Except.ok.inj h
      rw [← e]
      exact Nat.le_refl _
theorem cdK_adv (hP : MonP P) {p : Nat} {o : OutT} {z : Nat × OutT} (h : cdK b n P p o = .ok z) : p < z.1 := by
  obtain ⟨y, h1, h2⟩ := resB_ok h
  have a := ptK_adv hP h1
  have c := cdL_adv hP _ _ _ _ h2
  omega
theorem shut_adv {q : Nat} {o : OutT} {z : Nat × OutT} (h : shut b n q o = .ok z) : q < z.1 := by
  unfold shut at h
  split at h
  · have e : (q + 1, o) = z := Except.ok.inj h
    rw [← e]
    exact Nat.lt_succ_self q
  · cases h
theorem pcK_adv : ∀ k : Nat, MonP (pcK b n k)
  | 0, p, o, z, h => by
    unfold pcK at h
    split at h
    · cases h
    · split at h
      · cases h
      · exact cmp_adv h
  | k + 1, p, o, z, h => by
    unfold pcK at h
    split at h
    · obtain ⟨y, h1, h2⟩ := resB_ok h
      have a := pcK_adv k _ _ _ h1
      have e : (y.1, y.2 ++ _) = z := Except.ok.inj h2
      rw [← e]
      show p < y.1
      omega
    · split at h
      · obtain ⟨y, h1, h2⟩ := resB_ok h
        have a := cdK_adv (pcK_adv k) h1
        have c := shut_adv h2
        omega
      · exact cmp_adv h
theorem sm1_in {S : SumT} {p : Nat} {o : OutT} {z : Nat × OutT} (h : sm1 b n S p o = .ok z) : p < n := by
  obtain ⟨y, h1, h2⟩ := resB_ok h
  obtain ⟨x, h3, h4⟩ := resB_ok h1
  unfold facL at h3
  split at h3
  · next c => exact pke_in c (by decide)
  · exact atm_in h3
theorem cmp_in {k p : Nat} {o : OutT} {z : Nat × OutT} (h : cmpK b n k p o = .ok z) : p < n := by
  obtain ⟨y, h1, h2⟩ := resB_ok h
  exact sm1_in h1
theorem ptL_ir (hP : MonP P) : ∀ (f g p : Nat) (o : OutT), n ≤ f + p → n ≤ g + p → ptL b n P f p o = ptL b n P g p o
  | 0, 0, _, _, _, _ => rfl
  | 0, g + 1, p, o, h, _ => by
    unfold ptL
    rw [pke_out (by omega), if_neg (by decide)]
  | f + 1, 0, p, o, _, h => by
    unfold ptL
    rw [pke_out (by omega), if_neg (by decide)]
  | f + 1, g + 1, p, o, h1, h2 => by
    unfold ptL
    split
    · exact resB_cg (fun z e => ptL_ir hP f g _ _ (by have a := hP _ _ _ e; omega) (by have a := hP _ _ _ e; omega))
    · rfl
theorem cdL_ir (hP : MonP P) : ∀ (f g p : Nat) (o : OutT), n ≤ f + p → n ≤ g + p → cdL b n P f p o = cdL b n P g p o
  | 0, 0, _, _, _, _ => rfl
  | 0, g + 1, p, o, h, _ => by
    unfold cdL
    rw [pke_out (by omega), if_neg (by decide)]
  | f + 1, 0, p, o, _, h => by
    unfold cdL
    rw [pke_out (by omega), if_neg (by decide)]
  | f + 1, g + 1, p, o, h1, h2 => by
    unfold cdL
    split
    · exact resB_cg (fun z e => cdL_ir hP f g _ _ (by have a := ptK_adv hP e; omega) (by have a := ptK_adv hP e; omega))
    · rfl
theorem cm_t {f k : Nat} {r a : Option Nat} {m : Nat} {L : CevT} {p : Nat} {o : OutT} : cm b n (f + 1) k true ((r, a, m) :: L) p o = (if pk b n p = 33 then (if k = 0 then .error (5000 + p) else cm b n f (k - 1) true ((r, a, m + 1) :: L) (p + 1) o)
        else if pk b n p = 40 then (if k = 0 then .error (5000 + p) else cm b n f (k - 1) true ((none, none, 0) :: (r, a, m) :: L) (p + 1) o)
        else resB (cmpK b n k p o) (fun q o' => cm b n f k false ((r, a, m) :: L) q o')) := rfl
theorem cm_f {f k : Nat} {r a : Option Nat} {m : Nat} {L : CevT} {p : Nat} {o : OutT} : cm b n (f + 1) k false ((r, a, m) :: L) p o = (if pk b n p = 41 then
          (if L = [] then .ok (p + 1, aimO (aimO (o ++ nots m) a) r) else cm b n f (k + m + 1) false L (p + 1) (aimO (aimO (o ++ nots m) a) r))
        else if pk b n p = 38 then cm b n f (k + m) true ((r, some (o ++ nots m).length, 0) :: L) (p + 1) (aimO (o ++ nots m) a ++ [(12, 0)])
        else if pk b n p = 124 then cm b n f (k + m) true ((some (o ++ nots m).length, none, 0) :: L) (p + 1) (aimO (aimO (o ++ nots m) a) r ++ [(13, 0)])
        else .error (1000 + p)) := rfl
/-- what closes a level, and all that is behind it -/
def clo (b : Nat → Int32) (n k : Nat) (L : CevT) (q : Nat) (o : OutT) : ResT := if pk b n q = 41 then (if L = [] then .ok (q + 1, o) else cm b n (n + 1) (k + 1) false L (q + 1) o) else .error (1000 + q)
/-- behind a piece: the rest of the part, of the condition, and what stands around -/
def afc (b : Nat → Int32) (n k : Nat) (r a : Option Nat) (m : Nat) (L : CevT) (p : Nat) (o : OutT) : ResT := resB (ptL b n (pcK b n (k + m)) (n + 1) p (aimO (o ++ nots m) a)) (fun q o' => resB (cdL b n (pcK b n (k + m)) (n + 1) q (aimO o' r)) (fun q o' => clo b n (k + m) L q o'))
def CC (b : Nat → Int32) (n p : Nat) : Prop := ∀ (f k : Nat) (r a : Option Nat) (m : Nat) (L : CevT) (o : OutT), n < f + p → 0 < f →
  cm b n f k true ((r, a, m) :: L) p o = resB (pcK b n k p o) (fun q o' => afc b n k r a m L q o') ∧ cm b n f k false ((r, a, m) :: L) p o = afc b n k r a m L p o
theorem nots_0 (o : OutT) : o ++ nots 0 = o := List.append_nil o
theorem nots_s (o : OutT) (m : Nat) : o ++ nots (m + 1) = (o ++ [(11, 0)]) ++ nots m := by
  rw [List.append_assoc]
  rfl
theorem cc_step {p : Nat} (IH : p < n → ∀ p' : Nat, p < p' → CC b n p') : CC b n p := by
  intro f k r a m L o h2 h3
  obtain ⟨f, rfl⟩ : ∃ g, f = g + 1 := ⟨f - 1, by omega⟩
  constructor
  · rw [cm_t]
    by_cases c : pk b n p = 33
    · have hp := pke_in c (by decide)
      rw [if_pos c]
      cases k with
      | zero =>
        rw [if_pos rfl]
        unfold pcK
        rw [if_pos c]
        rfl
      | succ k =>
        rw [if_neg (Nat.succ_ne_zero k)]
        show cm b n f k true ((r, a, m + 1) :: L) (p + 1) o = _
        rw [(IH hp (p + 1) (by omega) f k r a (m + 1) L o (by omega) (by omega)).1]
        conv => rhs; unfold pcK
        rw [if_pos c, resB_assoc]
        refine resB_cg (fun z e => ?_)
        show afc b n k r a (m + 1) L z.1 z.2 = afc b n (k + 1) r a m L z.1 (z.2 ++ [(11, 0)])
        unfold afc
        rw [nots_s, show k + (m + 1) = k + 1 + m by omega]
    · rw [if_neg c]
      by_cases d : pk b n p = 40
      · have hp := pke_in d (by decide)
        rw [if_pos d]
        cases k with
        | zero =>
          rw [if_pos rfl]
          unfold pcK
          rw [if_neg c, if_pos d]
          rfl
        | succ k =>
          rw [if_neg (Nat.succ_ne_zero k)]
          show cm b n f k true ((none, none, 0) :: (r, a, m) :: L) (p + 1) o = _
          rw [(IH hp (p + 1) (by omega) f k none none 0 ((r, a, m) :: L) o (by omega) (by omega)).1]
          conv => rhs; unfold pcK
          rw [if_neg c, if_pos d]
          unfold cdK ptK
          rw [resB_assoc, resB_assoc, resB_assoc]
          refine resB_cg (fun z e => ?_)
          have a1 := pcK_adv k _ _ _ e
          show afc b n k none none 0 ((r, a, m) :: L) z.1 z.2 = _
          conv => lhs; unfold afc
          rw [nots_0, Nat.add_zero]
          refine resB_cg (fun y e2 => ?_)
          have a2 := ptL_adv (pcK_adv k) _ _ _ _ e2
          refine resB_cg (fun x e3 => ?_)
          have a3 := cdL_adv (pcK_adv k) _ _ _ _ e3
          show clo b n k ((r, a, m) :: L) x.1 x.2 = resB (shut b n x.1 x.2) _
          unfold clo shut
          by_cases g : pk b n x.1 = 41
          · rw [if_pos g, if_pos g, if_neg (List.cons_ne_nil _ _)]
            exact (IH hp (x.1 + 1) (by omega) (n + 1) (k + 1) r a m L x.2 (by omega) (by omega)).2
          · rw [if_neg g, if_neg g]
            rfl
      · rw [if_neg d]
        have ep : pcK b n k p o = cmpK b n k p o := by
          cases k with
          | zero => unfold pcK; rw [if_neg c, if_neg d]
          | succ k => unfold pcK; rw [if_neg c, if_neg d]
        rw [ep]
        refine resB_cg (fun z e => ?_)
        have hp := cmp_in e
        have a1 := cmp_adv e
        exact (IH hp z.1 a1 f k r a m L z.2 (by omega) (by omega)).2
  · rw [cm_f]
    unfold afc
    have hm := pcK_adv (b := b) (n := n) (k + m)
    by_cases c : pk b n p = 41
    · rw [if_pos c]
      have e1 : ptL b n (pcK b n (k + m)) (n + 1) p (aimO (o ++ nots m) a) = .ok (p, aimO (o ++ nots m) a) := by unfold ptL; rw [if_neg (by rw [c]; decide)]
      rw [e1]
      show _ = resB (cdL b n (pcK b n (k + m)) (n + 1) p (aimO (aimO (o ++ nots m) a) r)) _
      have e2 : cdL b n (pcK b n (k + m)) (n + 1) p (aimO (aimO (o ++ nots m) a) r) = .ok (p, aimO (aimO (o ++ nots m) a) r) := by unfold cdL; rw [if_neg (by rw [c]; decide)]
      rw [e2]
      show _ = clo b n (k + m) L p (aimO (aimO (o ++ nots m) a) r)
      unfold clo
      rw [if_pos c]
      by_cases hL : L = []
      · rw [if_pos hL, if_pos hL]
      · rw [if_neg hL, if_neg hL]
        have hp := pke_in c (by decide)
        cases L with
        | nil => exact absurd rfl hL
        | cons z L =>
          obtain ⟨r', a', m'⟩ := z
          rw [(IH hp (p + 1) (by omega) f (k + m + 1) r' a' m' L _ (by omega) (by omega)).2, (IH hp (p + 1) (by omega) (n + 1) (k + m + 1) r' a' m' L _ (by omega) (by omega)).2]
    · rw [if_neg c]
      by_cases d : pk b n p = 38
      · have hp := pke_in d (by decide)
        rw [if_pos d, (IH hp (p + 1) (by omega) f (k + m) r (some (o ++ nots m).length) 0 L _ (by omega) (by omega)).1]
        conv => rhs; unfold ptL
        rw [if_pos d, resB_assoc, aimO_len]
        refine resB_cg (fun z e => ?_)
        have a1 := hm _ _ _ e
        unfold afc
        rw [nots_0, Nat.add_zero, ptL_ir hm (n + 1) n z.1 _ (by omega) (by omega)]
        rfl
      · rw [if_neg d]
        have e1 : ptL b n (pcK b n (k + m)) (n + 1) p (aimO (o ++ nots m) a) = .ok (p, aimO (o ++ nots m) a) := by unfold ptL; rw [if_neg d]
        rw [e1]
        show _ = resB (cdL b n (pcK b n (k + m)) (n + 1) p (aimO (aimO (o ++ nots m) a) r)) _
        by_cases g : pk b n p = 124
        · have hp := pke_in g (by decide)
          rw [if_pos g, (IH hp (p + 1) (by omega) f (k + m) (some (o ++ nots m).length) none 0 L _ (by omega) (by omega)).1]
          conv => rhs; unfold cdL
          rw [if_pos g, aimO_len, aimO_len]
          unfold ptK
          rw [resB_assoc, resB_assoc]
          refine resB_cg (fun z e => ?_)
          have a1 := hm _ _ _ e
          unfold afc
          rw [nots_0, Nat.add_zero]
          refine resB_cg (fun y e2 => ?_)
          have a2 := ptL_adv hm _ _ _ _ e2
          rw [cdL_ir hm (n + 1) n y.1 _ (by omega) (by omega)]
          rfl
        · rw [if_neg g]
          have e2 : cdL b n (pcK b n (k + m)) (n + 1) p (aimO (aimO (o ++ nots m) a) r) = .ok (p, aimO (aimO (o ++ nots m) a) r) := by unfold cdL; rw [if_neg g]
          rw [e2]
          show _ = clo b n (k + m) L p (aimO (aimO (o ++ nots m) a) r)
          unfold clo
          rw [if_neg c]
theorem cc : ∀ N p : Nat, n ≤ p + N → CC b n p
  | 0, p, h => cc_step (fun q => absurd q (by omega))
  | N + 1, p, h => cc_step (fun q p' hp => cc N p' (by omega))
end PARC
section PARV
variable {b : Nat → Int32} {n : Nat}
/-- what comes of a state in which a factor is to be read -/
def VT (b : Nat → Int32) (n k : Nat) (pl ti : Option Nat) (L : LevT) (p : Nat) (o : OutT) : ResT := resB (facL b n (smK b n k) p o) (fun q o' => aft b n k pl ti L q o')
variable {k p t : Nat} {pl ti : Option Nat} {L : LevT} {o : OutT}
/-- what comes of a state in which a piece is to be read -/
def WT (b : Nat → Int32) (n k : Nat) (r a : Option Nat) (m : Nat) (L : CevT) (p : Nat) (o : OutT) : ResT := resB (pcK b n k p o) (fun q o' => afc b n k r a m L q o')
variable {r a : Option Nat} {m : Nat} {M : CevT}
end PARV
/-- no byte makes more than one step -/
def LenP (P : PceT) : Prop := ∀ (p : Nat) (o : OutT) (z : Nat × OutT), P p o = .ok z → z.2.length + p ≤ o.length + z.1 ∧ o.length ≤ z.2.length
def LenS (S : SumT) : Prop := ∀ s, S = some s → LenP s
section PARN
variable {b : Nat → Int32} {n : Nat} {S : SumT} {P : PceT}
theorem app_len (o : OutT) (z : Nat × Nat) : (o ++ [z]).length = o.length + 1 := by simp
end PARN
/-- the steps of a text, as the class keeps them -/
def SAYx (T : Nat) (Fn : Nat → Nat → Int32) (o : OutT) : Prop := Fn 195 T = nI o.length ∧ ∀ (i : Nat) (z : Nat × Nat), o[i]? = some z → z.1 ≤ 13 ∧ z.2 < 1048576 ∧ gA (Fn 301) 200 T i = nI (z.1 * 1048576 + z.2)
theorem stp_or {k a : Nat} (hk : k ≤ 13) (ha : a < 1048576) : (nI k <<< (20 &&& 31)) ||| nI a = nI (k * 1048576 + a) := by
  have e : nI k <<< (20 &&& 31) = nI (k * 1048576) := by
    have : ∀ j : Fin 14, nI j.val <<< (20 &&& 31) = nI (j.val * 1048576) := by decide +kernel
    exact this ⟨k, by omega⟩
  rw [e]
  apply Int32.toBitVec_inj.mp
  apply BitVec.eq_of_toNat_eq
  have q : ∀ m : Nat, m < 2 ^ 31 → (nI m).toBitVec.toNat = m := fun m hm => Nat.mod_eq_of_lt (by omega)
  rw [Int32.toBitVec_or, BitVec.toNat_or, q _ (by omega), q _ (by omega), q _ (by omega)]
  have r := Nat.two_pow_add_eq_or_of_lt (i := 20) (b := a) (by omega) k
  rw [Nat.mul_comm k]
  exact r.symm
/-- the class's reader stands where x says: text T, its end N -/
def ZSo (T N : Nat) (c : Nat → Nat) (I : Nat → Int32) (F : Nat → Nat → Int32) : ResT → Prop
  | .ok z => I 33 = 0 ∧ c 31 = z.1 ∧ c 32 = N ∧ z.1 ≤ N ∧ SAYx T F z.2 ∧ z.2.length ≤ z.1
  | .error e => I 33 = nI e ∧ 0 < e ∧ e < 10000 ∧ c 32 = c 31
/-- what fail(k) leaves -/
def FLR (k : Nat) (c : Nat → Nat) (I : Nat → Int32) (c2 : Nat → Nat) (I2 : Nat → Int32) : Prop := c2 31 = c 31 ∧ ((I 33 = 0 ∧ I2 33 = nI (1000 * k + c 31) ∧ c2 32 = c 31) ∨ (¬ I 33 = 0 ∧ I2 33 = I 33 ∧ c2 32 = c 32))
section ZSS
variable {T N : Nat} {c c2 : Nat → Nat} {I I2 : Nat → Int32} {F F2 : Nat → Nat → Int32} {x : ResT}
theorem SAYx.cg {o : OutT} (h : SAYx T F o) (e1 : F2 195 = F 195) (e2 : F2 301 = F 301) : SAYx T F2 o := by
  unfold SAYx at *
  rw [e1, e2]
  exact h
theorem ZSo.cg (h : ZSo T N c I F x) (h31 : c2 31 = c 31) (h32 : c2 32 = c 32) (h33 : I2 33 = I 33) (e1 : F2 195 = F 195) (e2 : F2 301 = F 301) : ZSo T N c2 I2 F2 x := by
  cases x with
  | error e =>
    obtain ⟨a1, a2, a3, a4⟩ := h
    exact ⟨h33.trans a1, a2, a3, by omega⟩
  | ok z =>
    obtain ⟨a1, a2, a3, a4, a5, a6⟩ := h
    exact ⟨h33.trans a1, by omega, by omega, a4, a5.cg e1 e2, a6⟩
def addR (T : Nat) (k a : Int32) (F F2 : Nat → Nat → Int32) : Prop := F2 195 = upd (F 195) T (F 195 T + 1) ∧ (0 ≤ (F 195 T).toInt → (F 195 T).toInt < (F 199 T).toInt → F2 301 = flat (F 301) 200 T (upd (gA (F 301) 200 T) (F 195 T).toNatClampNeg ((k <<< (20 &&& 31)) ||| a)))
theorem ap_len (o : OutT) (z : Nat × Nat) : (o ++ [z]).length = o.length + 1 := by simp
theorem SAYx.add {o : OutT} {k a : Nat} (h : SAYx T F o) (hl : o.length < N) (hN : N ≤ 160) (e9 : F 199 T = nI N) (hk : k ≤ 13) (ha : a < 1048576) (r : addR T (nI k) (nI a) F F2) : SAYx T F2 (o ++ [(k, a)]) := by
  obtain ⟨h1, h2⟩ := h
  obtain ⟨r1, r2⟩ := r
  have t1 : (F 195 T).toInt = (o.length : Int) := by rw [h1, nI_toInt (by omega)]
  have t2 : (F 199 T).toInt = (N : Int) := by rw [e9, nI_toInt (by omega)]
  have r2 := r2 (by omega) (by omega)
  have tc : (F 195 T).toNatClampNeg = o.length := by show (F 195 T).toInt.toNat = o.length; omega
  rw [tc, stp_or hk ha] at r2
  refine ⟨?_, fun i z hi => ?_⟩
  · rw [r1, ap_len]
    show upd (F 195) T (F 195 T + 1) T = nI (o.length + 1)
    unfold upd
    rw [if_pos rfl, h1]
    exact nI_1 _
  · rw [r2, gA_flat (by decide) (fun j hj => by
      unfold upd gA
      rw [if_neg (by omega), if_neg (by omega)])]
    rw [List.getElem?_append] at hi
    unfold upd
    by_cases q : i < o.length
    · rw [if_pos q] at hi
      rw [if_neg (by omega)]
      exact h2 i z hi
    · rw [if_neg q] at hi
      have q2 : i = o.length := Classical.byContradiction fun w => by
        rw [List.getElem?_eq_none (by simp; omega)] at hi
        cases hi
      subst q2
      rw [Nat.sub_self] at hi
      have e : (k, a) = z := Option.some.inj hi
      rw [← e, if_pos rfl]
      exact ⟨hk, ha, rfl⟩
theorem ZSo.add {k a : Nat} (h : ZSo T N c I F x) (hw : ∀ z : Nat × OutT, x = .ok z → z.2.length + 1 ≤ z.1) (hN : N ≤ 160) (e9 : F 199 T = nI N) (hk : k ≤ 13) (ha : a < 1048576) (r : addR T (nI k) (nI a) F F2) : ZSo T N c I F2 (resB x (fun q o => .ok (q, o ++ [(k, a)]))) := by
  cases x with
  | error e => exact h
  | ok z =>
    obtain ⟨a1, a2, a3, a4, a5, a6⟩ := h
    have w := hw z rfl
    exact ⟨a1, a2, a3, a4, a5.add (by omega) hN e9 hk ha r, by show (z.2 ++ [_]).length ≤ z.1; rw [ap_len]; exact w⟩
def aimR (T j : Nat) (F F2 : Nat → Nat → Int32) : Prop := ∀ m : Nat, (F 199 T).toInt = (m : Int) → j < m → m ≤ 160 → F2 301 = flat (F 301) 200 T (upd (gA (F 301) 200 T) j ((gA (F 301) 200 T j &&& (-1048576)) ||| F 195 T))
end ZSS
def SL (s : Nat) (x : ResT) : Prop := ∀ z : Nat × OutT, x = .ok z → z.2.length + s ≤ z.1
def fInc : PceT := fun q o => .ok (q + 1, o)
def fAdd (k a : Nat) : PceT := fun q o => .ok (q, o ++ [(k, a)])
def fErr (k : Nat) : PceT := fun q _ => .error (1000 * k + q)
def fTk (b : Nat → Int32) (n : Nat) (s : Int32) : PceT := fun q o => if pk b n q = s then .ok (q + 1, o) else .error (1000 + q)
def fRel (b : Nat → Int32) (n : Nat) : PceT := fun q o => match rel (pk b n q) with
  | none => .error (1000 + q)
  | some _ => .ok (q + 1, o)
def fPt (P : PceT) (k : Nat) : PceT := fun q o => resB (P (q + 1) (o ++ [(k, 0)])) (fun q' o' => .ok (q', aim o' o.length))
/-- the byte that peek tells -/
def pkS (c : Nat → Nat) (b : Nat → Int32) : Int32 := if c 31 < c 32 then b (c 31) else -1
def FLRv (v0 : Int32) (c : Nat → Nat) (I : Nat → Int32) (c2 : Nat → Nat) (I2 : Nat → Int32) : Prop := c2 31 = c 31 ∧ ((I 33 = 0 ∧ I2 33 = 1000 * v0 + nI (c 31) ∧ c2 32 = c 31) ∨ (¬ I 33 = 0 ∧ I2 33 = I 33 ∧ c2 32 = c 32))
def TKR (v0 : Int32) (b : Nat → Int32) (c : Nat → Nat) (I : Nat → Int32) (c2 : Nat → Nat) (I2 : Nat → Int32) : Prop := (c 31 < c 32 ∧ b (c 31) = v0 ∧ c2 31 = c 31 + 1 ∧ c2 32 = c 32 ∧ I2 33 = I 33) ∨ (¬ (c 31 < c 32 ∧ b (c 31) = v0) ∧ FLRv 1 c I c2 I2)
def RLR (r : Int32) (b : Nat → Int32) (c : Nat → Nat) (I : Nat → Int32) (c2 : Nat → Nat) (I2 : Nat → Int32) : Prop := (∃ t : Nat, c 31 < c 32 ∧ rel (b (c 31)) = some t ∧ r = nI t ∧ c2 31 = c 31 + 1 ∧ c2 32 = c 32 ∧ I2 33 = I 33) ∨ (¬ (c 31 < c 32 ∧ ¬ rel (b (c 31)) = none) ∧ FLRv 1 c I c2 I2)
def aimRv (T : Nat) (v0 : Int32) (F F2 : Nat → Nat → Int32) : Prop := ∀ j : Nat, v0 = nI j → aimR T j F F2
theorem SL.add {s k a : Nat} {x : ResT} (h : SL (s + 1) x) : SL s (resB x (fAdd k a)) := fun z e => by
  cases x with
  | error e' => cases e
  | ok y =>
    have q := h y rfl
    have w : (y.1, y.2 ++ [(k, a)]) = z := Except.ok.inj e
    rw [← w]
    show (y.2 ++ [(k, a)]).length + s ≤ y.1
    rw [app_len]
    omega
section ZSX
variable {T N k : Nat} {c c2 : Nat → Nat} {I I2 : Nat → Int32} {F F2 : Nat → Nat → Int32} {x : ResT} {b : Nat → Int32} {S : SumT} {P : PceT} {s v0 v1 r : Int32}
theorem ZSo.lt (h : ZSo T N c I F x) (l : c 31 < c 32) : ∃ z : Nat × OutT, x = .ok z ∧ c 31 = z.1 ∧ c 32 = N := by
  cases x with
  | error e => have a := h.2.2.2; omega
  | ok z => exact ⟨z, rfl, h.2.1, h.2.2.1⟩
end ZSX
section GO
variable {b : Nat → Int32} {n t : Nat} {S : SumT} {P : PceT} {y : ResT}
end GO
/-- the string's bytes are those of the letters -/
def BTL (bt : Nat → Int32) : Prop := bt 0 = 113 ∧ bt 1 = 102 ∧ bt 2 = 97 ∧ bt 3 = 100 ∧ bt 4 = 119 ∧ bt 5 = 103 ∧ bt 6 = 107 ∧ bt 7 = 109 ∧ bt 8 = 115 ∧ bt 9 = 111 ∧ bt 10 = 110
def IXP (bt : Nat → Int32) (v0 r : Int32) : Prop := (r = -1 ∧ ∀ j : Nat, j < 11 → ¬ bt j = v0.toInt8.toInt32) ∨ ∃ j : Nat, j < 11 ∧ r = nI j ∧ bt j = v0.toInt8.toInt32
/-- but for text T the class's texts are as they were -/
def KPT (T : Nat) (G F : Nat → Nat → Int32) : Prop := ∀ k : Nat, ¬ k = T → F 195 k = G 195 k ∧ F 198 k = G 198 k ∧ gA (F 301) 200 k = gA (G 301) 200 k ∧ gA (F 302) 12 k = gA (G 302) 12 k ∧ gA (F 303) 12 k = gA (G 303) 12 k ∧ gA (F 304) 12 k = gA (G 304) 12 k
/-- the class's reader stands where x says, and what it has not read is as it was -/
def ZS (G : Nat → Nat → Int32) (T N : Nat) (c : Nat → Nat) (I : Nat → Int32) (F : Nat → Nat → Int32) (x : ResT) : Prop := ZSo T N c I F x ∧ KPT T G F
section KPTS
theorem gA_ne {f w : Nat → Int32} {st T k : Nat} (hs : 0 < st) (h : ¬ k = T) : gA (flat f st T w) st k = gA f st k := funext fun j => by
  unfold gA flat
  by_cases q : j < st
  · rw [if_pos q, if_pos q, if_neg (by
      intro e
      have d : (st * k + j) / st = k := by rw [Nat.mul_add_div hs, Nat.div_eq_of_lt q, Nat.add_zero]
      omega)]
  · rw [if_neg q, if_neg q]
variable {G F F2 F3 : Nat → Nat → Int32} {T N k a j : Nat} {c c2 : Nat → Nat} {I I2 : Nat → Int32} {x : ResT} {b : Nat → Int32} {v0 v1 r s : Int32} {S : SumT} {P : PceT}
theorem KPT.rf : KPT T G G := fun _ _ => ⟨rfl, rfl, rfl, rfl, rfl, rfl⟩
theorem KPT.tr (h : KPT T G F) (h2 : KPT T F F2) : KPT T G F2 := fun k hk => by
  obtain ⟨a1, a2, a3, a4, a5, a6⟩ := h k hk
  obtain ⟨b1, b2, b3, b4, b5, b6⟩ := h2 k hk
  exact ⟨b1.trans a1, b2.trans a2, b3.trans a3, b4.trans a4, b5.trans a5, b6.trans a6⟩
theorem KPT.of (e195 : F2 195 = F 195 ∨ ∃ v, F2 195 = upd (F 195) T v) (e198 : F2 198 = F 198 ∨ ∃ v, F2 198 = upd (F 198) T v) (e301 : F2 301 = F 301 ∨ ∃ w, F2 301 = flat (F 301) 200 T w) (e302 : F2 302 = F 302 ∨ ∃ w, F2 302 = flat (F 302) 12 T w) (e303 : F2 303 = F 303 ∨ ∃ w, F2 303 = flat (F 303) 12 T w) (e304 : F2 304 = F 304 ∨ ∃ w, F2 304 = flat (F 304) 12 T w) : KPT T F F2 := fun k hk => by
  have u : ∀ {f g : Nat → Int32}, (g = f ∨ ∃ v, g = upd f T v) → g k = f k := fun h => by
    rcases h with h | ⟨v, h⟩
    · rw [h]
    · rw [h]
      exact if_neg hk
  have w : ∀ {f g : Nat → Int32} {st : Nat}, 0 < st → (g = f ∨ ∃ v, g = flat f st T v) → gA g st k = gA f st k := fun hs h => by
    rcases h with h | ⟨v, h⟩
    · rw [h]
    · rw [h]
      exact gA_ne hs hk
  exact ⟨u e195, u e198, w (by decide) e301, w (by decide) e302, w (by decide) e303, w (by decide) e304⟩
theorem ZS.lt (h : ZS G T N c I F x) (l : c 31 < c 32) : ∃ z : Nat × OutT, x = .ok z ∧ c 31 = z.1 ∧ c 32 = N := ZSo.lt h.1 l
end KPTS
/-- what a rule of the grammar keeps and reads -/
def RDZ (y : MethodName) (b : ByteArray) (n : Nat) (l : Launch) (D : va_G) (cI cB cZ : ClassId) (zz qq vv : Nat) (bt : Nat → Int32) (g : Nat → Nat) (o : Int32) (d : Nat) (SP : (Nat → Int32) → Nat → PceT) : Prop := ∀ (ad : Nat → Nat → Nat) (cn : Nat → Nat) (In : Nat → Int32) (Fn : Nat → Nat → Int32) (G : Nat → Nat → Int32) (bb : Nat → Int32) (N : Nat) (x : ResT) (sz : Nat), CBX cn → ad 4 2 = g 40 → ad 4 1 < cn 6 → cn 31 ≤ cn 32 → cn 32 ≤ 160 → (Fn 199 (ad 4 1)).toInt ≤ 160 → (Fn 199 (ad 4 1) = nI N) → (N ≤ 160) → (Fn 40 = bb) → (∀ k : Nat, k < 160 → 0 ≤ (bb k).toInt ∧ (bb k).toInt ≤ 255) → (ZS G (ad 4 1) N cn In Fn x) → Met l y (CWS y b n none) (RM d 0 0) (PBx [.ref (g 6), .int o] D cI cB cZ zz qq vv bt (wX cI (D.1 99) zz g ad cn In Fn) sz) (va_Qv (fun (u : (Nat → Nat) × (Nat → Int32) × (Nat → Nat → Int32)) => (fun c2 I2 F2 => Fr [31, 32] [33] [195, 301] cn In Fn c2 I2 F2 ∧ CBX c2 ∧ ((cn 31 ≤ c2 31 ∧ c2 31 ≤ c2 32 ∧ c2 32 ≤ cn 32) ∧ ZS G (ad 4 1) N c2 I2 F2 (resB x (SP bb N)))) u.1 u.2.1 u.2.2) (fun (u : (Nat → Nat) × (Nat → Int32) × (Nat → Nat → Int32)) (t : State) => va_P D vwCl (wX cI (D.1 99) zz g ad u.1 u.2.1 u.2.2) t.heap ∧ va_D (va_A (wX cI (D.1 99) zz g ad cn In Fn) sz) (wX cI (D.1 99) zz g ad u.1 u.2.1 u.2.2)) (va_A (wX cI (D.1 99) zz g ad cn In Fn) sz)) 0 0 (va_A (wX cI (D.1 99) zz g ad cn In Fn) sz)



