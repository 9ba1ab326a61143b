/-- the byte at p, -1 behind the end -/
def pk (b : Nat → Int32) (n p : Nat) : Int32 := if p < n then b p else -1
abbrev OutT : Type := List (Nat × Nat)
abbrev ResT : Type := Except Nat (Nat × OutT)
def resB (x : ResT) (g : Nat → OutT → ResT) : ResT :=
  match x with
  | .error e => .error e
  | .ok z => g z.1 z.2
/-- digits, at most f of them -/
def numL (b : Nat → Int32) (n : Nat) : Nat → Nat → Nat → Nat × Nat
  | 0, p, v => (p, v)
  | f + 1, p, v => if 48 ≤ (pk b n p).toInt ∧ (pk b n p).toInt ≤ 57 then numL b n f (p + 1) (10 * v + ((pk b n p).toInt.toNat - 48)) else (p, v)
def ltr (c : Int32) : Option Nat := if c = 113 then some 0 else if c = 102 then some 1 else if c = 97 then some 2 else if c = 100 then some 3 else if c = 119 then some 4 else if c = 103 then some 5 else if c = 107 then some 6 else if c = 109 then some 7 else if c = 115 then some 8 else if c = 111 then some 9 else if c = 110 then some 10 else none
def tms (c : Int32) : Option Nat := if c = 42 then some 5 else if c = 47 then some 6 else if c = 37 then some 7 else none
def pls (c : Int32) : Option Nat := if c = 43 then some 3 else if c = 45 then some 4 else none
/-- a number or a letter -/
def atmL (b : Nat → Int32) (n p : Nat) (o : OutT) : ResT :=
  if 48 ≤ (pk b n p).toInt ∧ (pk b n p).toInt ≤ 57 then
    (if 48 ≤ (pk b n (numL b n 6 p 0).1).toInt ∧ (pk b n (numL b n 6 p 0).1).toInt ≤ 57 then .error (2000 + (numL b n 6 p 0).1) else .ok ((numL b n 6 p 0).1, o ++ [(1, (numL b n 6 p 0).2)]))
  else match ltr (pk b n p) with
    | some l => .ok (p + 1, o ++ [(2, l)])
    | none => .error (1000 + p)
abbrev SumT : Type := Option (Nat → OutT → ResT)
/-- a factor: S reads a sum in brackets; none: too deep -/
def facL (b : Nat → Int32) (n : Nat) (S : SumT) (p : Nat) (o : OutT) : ResT :=
  if pk b n p = 91 then
    match S with
    | none => .error (5000 + p)
    | some s => resB (s (p + 1) o) (fun q o' => if pk b n q = 93 then .ok (q + 1, o') else .error (1000 + q))
  else atmL b n p o
def trmL (b : Nat → Int32) (n : Nat) (S : SumT) : Nat → Nat → OutT → ResT
  | 0, p, o => .ok (p, o)
  | f + 1, p, o =>
    match tms (pk b n p) with
    | none => .ok (p, o)
    | some t => resB (facL b n S (p + 1) o) (fun q o' => trmL b n S f q (o' ++ [(t, 0)]))
def trm (b : Nat → Int32) (n : Nat) (S : SumT) (p : Nat) (o : OutT) : ResT := resB (facL b n S p o) (fun q o' => trmL b n S (n + 1) q o')
def smL (b : Nat → Int32) (n : Nat) (S : SumT) : Nat → Nat → OutT → ResT
  | 0, p, o => .ok (p, o)
  | f + 1, p, o =>
    match pls (pk b n p) with
    | none => .ok (p, o)
    | some t => resB (trm b n S (p + 1) o) (fun q o' => smL b n S f q (o' ++ [(t, 0)]))
def sm1 (b : Nat → Int32) (n : Nat) (S : SumT) (p : Nat) (o : OutT) : ResT := resB (trm b n S p o) (fun q o' => smL b n S (n + 1) q o')
/-- what reads a sum with k levels left -/
def smK (b : Nat → Int32) (n : Nat) : Nat → SumT
  | 0 => none
  | k + 1 => some (sm1 b n (smK b n k))
def o1 (ti : Option Nat) : OutT := ti.toList.map (fun x => (x, 0))
abbrev LevT : Type := List (Option Nat × Option Nat)
/-- the reference's way: levels of waiting signs, the innermost first; m: a factor is to be read -/
def rm (b : Nat → Int32) (n : Nat) : Nat → Nat → Bool → LevT → Nat → OutT → ResT
  | 0, _, _, _, p, o => .ok (p, o)
  | f + 1, k, m, L, p, o =>
    if m = true then
      (if pk b n p = 91 then (if k = 0 then .error (5000 + p) else rm b n f (k - 1) true ((none, none) :: L) (p + 1) o)
      else resB (atmL b n p o) (fun q o' => rm b n f k false L q o'))
    else match L with
      | [] => .ok (p, o)
      | z :: L' =>
        match tms (pk b n p) with
        | some t => rm b n f k true ((z.1, some t) :: L') (p + 1) (o ++ o1 z.2)
        | none =>
          match pls (pk b n p) with
          | some t => rm b n f k true ((some t, none) :: L') (p + 1) (o ++ o1 z.2 ++ o1 z.1)
          | none => if L' = [] then .ok (p, o ++ o1 z.2 ++ o1 z.1) else if pk b n p = 93 then rm b n f (k + 1) false L' (p + 1) (o ++ o1 z.2 ++ o1 z.1) else .error (1000 + p)
/-- what is left to do behind a sum -/
def finL (b : Nat → Int32) (n k : Nat) (L : LevT) (q : Nat) (o : OutT) : ResT :=
  if L = [] then .ok (q, o) else if pk b n q = 93 then rm b n (n + 1) (k + 1) false L (q + 1) o else .error (1000 + q)
section PARS
variable {b : Nat → Int32} {n : Nat} {S : SumT}
theorem resB_assoc {x : ResT} {g h : Nat → OutT → ResT} : resB (resB x g) h = resB x (fun q o => resB (g q o) h) := by cases x <;> rfl
theorem resB_cg {x : ResT} {g h : Nat → OutT → ResT} (e : ∀ z : Nat × OutT, x = .ok z → g z.1 z.2 = h z.1 z.2) : resB x g = resB x h := by
  cases x with
  | error e' => rfl
  | ok z => exact e z rfl
theorem resB_ok {x : ResT} {g : Nat → OutT → ResT} {z : Nat × OutT} (h : resB x g = .ok z) : ∃ y : Nat × OutT, x = .ok y ∧ g y.1 y.2 = .ok z := by
  cases x with
  | error e => cases h
  | ok y => exact ⟨y, rfl, h⟩
def Mono (S : SumT) : Prop := ∀ s, S = some s → ∀ (p : Nat) (o : OutT) (z : Nat × OutT), s p o = .ok z → p ≤ z.1
theorem pke_out {p : Nat} (h : n ≤ p) : pk b n p = -1 := if_neg (by omega)
theorem pke_in {p : Nat} {c : Int32} (h : pk b n p = c) (hc : c ≠ -1) : p < n := Classical.byContradiction fun q => hc (h.symm.trans (pke_out (by omega)))
theorem num_adv : ∀ (f p v : Nat), p ≤ (numL b n f p v).1
  | 0, _, _ => Nat.le_refl _
  | f + 1, p, v => by
    unfold numL
    split
    · exact Nat.le_trans (Nat.le_succ p) (num_adv f (p + 1) _)
    · exact Nat.le_refl _
theorem atm_adv {p : Nat} {o : OutT} {z : Nat × OutT} (h : atmL b n p o = .ok z) : p < z.1 := by
  unfold atmL at h
  split at h
  · next hd =>
    split at h
    · cases h
    · have e := Except.ok.inj h
      rw [← e]
      show p < (numL b n (5 + 1) p 0).1
      unfold numL
      rw [if_pos hd]
      exact num_adv 5 (p + 1) _
  · split at h
    · have e := Except.ok.inj h
      rw [← e]
      exact Nat.lt_succ_self p
    · cases h
theorem fac_adv (hS : Mono S) {p : Nat} {o : OutT} {z : Nat × OutT} (h : facL b n S p o = .ok z) : p < z.1 := by
  unfold facL at h
  split at h
  · cases S with
    | none => cases h
    | some s =>
      obtain ⟨y, h1, h2⟩ := resB_ok h
      have a := hS s rfl (p + 1) o y h1
      split at h2
      · have e2 := Except.ok.inj h2
        rw [← e2]
        show p < y.1 + 1
        omega
      · cases h2
  · exact atm_adv h
theorem trmL_adv (hS : Mono S) : ∀ (f p : Nat) (o : OutT) (z : Nat × OutT), trmL b n S f p o = .ok z → p ≤ z.1
  | 0, p, o, z, h => by
    have e : (p, o) = z := Except.ok.inj h
    rw [← e]
    exact Nat.le_refl _
  | f + 1, p, o, z, h => by
    unfold trmL at h
    split at h
    · have e : (p, o) = z := Except.ok.inj h
      rw [← e]
      exact Nat.le_refl _
    · obtain ⟨y, h1, h2⟩ := resB_ok h
      have a := fac_adv hS h1
      have c := trmL_adv hS f _ _ _ h2
      omega
theorem trm_adv (hS : Mono S) {p : Nat} {o : OutT} {z : Nat × OutT} (h : trm b n S p o = .ok z) : p < z.1 := by
  obtain ⟨y, h1, h2⟩ := resB_ok h
  have a := fac_adv hS h1
  have c := trmL_adv hS _ _ _ _ h2
  omega
theorem smL_adv (hS : Mono S) : ∀ (f p : Nat) (o : OutT) (z : Nat × OutT), smL b n S f p o = .ok z → p ≤ z.1
  | 0, p, o, z, h => by
    have e : (p, o) = z := Except.ok.inj h
    rw [← e]
    exact Nat.le_refl _
  | f + 1, p, o, z, h => by
    unfold smL at h
    split at h
    · have e : (p, o) = z := Except.ok.inj h
      rw [← e]
      exact Nat.le_refl _
    · obtain ⟨y, h1, h2⟩ := resB_ok h
      have a := trm_adv hS h1
      have c := smL_adv hS f _ _ _ h2
      omega
theorem sm1_adv (hS : Mono S) {p : Nat} {o : OutT} {z : Nat × OutT} (h : sm1 b n S p o = .ok z) : p < z.1 := by
  obtain ⟨y, h1, h2⟩ := resB_ok h
  have a := trm_adv hS h1
  have c := smL_adv hS _ _ _ _ h2
  omega
theorem smK_mono : ∀ k : Nat, Mono (smK b n k)
  | 0 => fun s h => by cases h
  | k + 1 => fun s h p o z e => by
    have q := Option.some.inj h
    rw [← q] at e
    exact Nat.le_of_lt (sm1_adv (smK_mono k) e)
theorem tms_out : tms (-1) = none := by decide
theorem pls_out : pls (-1) = none := by decide
theorem tms_in {p t : Nat} (h : tms (pk b n p) = some t) : p < n := Classical.byContradiction fun q => by
  rw [pke_out (by omega), tms_out] at h
  cases h
theorem pls_in {p t : Nat} (h : pls (pk b n p) = some t) : p < n := Classical.byContradiction fun q => by
  rw [pke_out (by omega), pls_out] at h
  cases h
theorem atm_in {p : Nat} {o : OutT} {z : Nat × OutT} (h : atmL b n p o = .ok z) : p < n := Classical.byContradiction fun q => by
  have e : pk b n p = -1 := pke_out (by omega)
  unfold atmL at h
  rw [e] at h
  have l : ltr (-1) = none := by decide
  rw [if_neg (by decide), l] at h
  cases h
/-- the loops' counters don't matter, once they are great enough -/
theorem trmL_ir (hS : Mono S) : ∀ (f g p : Nat) (o : OutT), n ≤ f + p → n ≤ g + p → trmL b n S f p o = trmL b n S g p o
  | 0, 0, _, _, _, _ => rfl
  | 0, g + 1, p, o, h, _ => by
    unfold trmL
    rw [pke_out (by omega), tms_out]
  | f + 1, 0, p, o, _, h => by
    unfold trmL
    rw [pke_out (by omega), tms_out]
  | f + 1, g + 1, p, o, h1, h2 => by
    unfold trmL
    split
    · rfl
    · exact resB_cg (fun z e => trmL_ir hS f g _ _ (by have a := fac_adv hS e; omega) (by have a := fac_adv hS e; omega))
theorem smL_ir (hS : Mono S) : ∀ (f g p : Nat) (o : OutT), n ≤ f + p → n ≤ g + p → smL b n S f p o = smL b n S g p o
  | 0, 0, _, _, _, _ => rfl
  | 0, g + 1, p, o, h, _ => by
    unfold smL
    rw [pke_out (by omega), pls_out]
  | f + 1, 0, p, o, _, h => by
    unfold smL
    rw [pke_out (by omega), pls_out]
  | f + 1, g + 1, p, o, h1, h2 => by
    unfold smL
    split
    · rfl
    · exact resB_cg (fun z e => smL_ir hS f g _ _ (by have a := trm_adv hS e; omega) (by have a := trm_adv hS e; omega))
theorem rm_t {f k : Nat} {L : LevT} {p : Nat} {o : OutT} : rm b n (f + 1) k true L p o = (if pk b n p = 91 then (if k = 0 then .error (5000 + p) else rm b n f (k - 1) true ((none, none) :: L) (p + 1) o) else resB (atmL b n p o) (fun q o' => rm b n f k false L q o')) := rfl
theorem rm_f {f k : Nat} {pl ti : Option Nat} {L : LevT} {p : Nat} {o : OutT} : rm b n (f + 1) k false ((pl, ti) :: L) p o = (match tms (pk b n p) with
        | some t => rm b n f k true ((pl, some t) :: L) (p + 1) (o ++ o1 ti)
        | none =>
          match pls (pk b n p) with
          | some t => rm b n f k true ((some t, none) :: L) (p + 1) (o ++ o1 ti ++ o1 pl)
          | none => if L = [] then .ok (p, o ++ o1 ti ++ o1 pl) else if pk b n p = 93 then rm b n f (k + 1) false L (p + 1) (o ++ o1 ti ++ o1 pl) else .error (1000 + p)) := rfl
/-- behind a factor: the rest of the term, of the sum, and what stands around -/
def aft (b : Nat → Int32) (n k : Nat) (pl ti : Option Nat) (L : LevT) (p : Nat) (o : OutT) : ResT := resB (trmL b n (smK b n k) (n + 1) p (o ++ o1 ti)) (fun q o' => resB (smL b n (smK b n k) (n + 1) q (o' ++ o1 pl)) (fun q o' => finL b n k L q o'))
def AC (b : Nat → Int32) (n p : Nat) : Prop := ∀ (f k : Nat) (pl ti : Option Nat) (L : LevT) (o : OutT), n < f + p → 0 < f →
  rm b n f k true ((pl, ti) :: L) p o = resB (facL b n (smK b n k) p o) (fun q o' => aft b n k pl ti L q o') ∧ rm b n f k false ((pl, ti) :: L) p o = aft b n k pl ti L p o
theorem o1_n : ∀ o : OutT, o ++ o1 none = o := fun o => List.append_nil o
theorem ac_step {p : Nat} (IH : p < n → ∀ p' : Nat, p < p' → AC b n p') : AC b n p := by
  intro f k pl ti L o h2 h3
  obtain ⟨f, rfl⟩ : ∃ g, f = g + 1 := ⟨f - 1, by omega⟩
  have hm := smK_mono (b := b) (n := n) k
  constructor
  · rw [rm_t]
    unfold facL
    by_cases c : pk b n p = 91
    · have hp := pke_in c (by decide)
      rw [if_pos c, if_pos c]
      cases k with
      | zero => rfl
      | succ k =>
        rw [if_neg (Nat.succ_ne_zero k)]
        show rm b n f k true ((none, none) :: (pl, ti) :: L) (p + 1) o = resB (resB (sm1 b n (smK b n k) (p + 1) o) _) _
        rw [(IH hp (p + 1) (by omega) f k none none ((pl, ti) :: L) o (by omega) (by omega)).1]
        unfold sm1 trm
        rw [resB_assoc, resB_assoc, resB_assoc]
        refine resB_cg (fun z e => ?_)
        show aft b n k none none ((pl, ti) :: L) z.1 z.2 = _
        have a := fac_adv (smK_mono k) e
        unfold aft
        rw [o1_n]
        refine resB_cg (fun y e2 => ?_)
        have a2 := trmL_adv (smK_mono k) _ _ _ _ e2
        rw [o1_n]
        refine resB_cg (fun x e3 => ?_)
        have a3 := smL_adv (smK_mono k) _ _ _ _ e3
        unfold finL
        rw [if_neg (List.cons_ne_nil _ _)]
        by_cases d : pk b n x.1 = 93
        · rw [if_pos d, if_pos d]
          exact (IH hp (x.1 + 1) (by omega) (n + 1) (k + 1) pl ti L x.2 (by omega) (by omega)).2
        · rw [if_neg d, if_neg d]
          rfl
    · rw [if_neg c, if_neg c]
      refine resB_cg (fun z e => ?_)
      have hp := atm_in e
      have a := atm_adv e
      exact (IH hp z.1 a f k pl ti L z.2 (by omega) (by omega)).2
  · rw [rm_f]
    unfold aft
    cases ct : tms (pk b n p) with
    | some t =>
      have hp := tms_in ct
      dsimp only
      rw [(IH hp (p + 1) (by omega) f k pl (some t) L (o ++ o1 ti) (by omega) (by omega)).1]
      conv => rhs; unfold trmL
      rw [ct]
      dsimp only
      rw [resB_assoc]
      refine resB_cg (fun z e => ?_)
      have a := fac_adv hm e
      unfold aft
      rw [trmL_ir hm (n + 1) n z.1 (z.2 ++ o1 (some t)) (by omega) (by omega)]
      rfl
    | none =>
      dsimp only
      have et : trmL b n (smK b n k) (n + 1) p (o ++ o1 ti) = .ok (p, o ++ o1 ti) := by
        unfold trmL
        rw [ct]
      rw [et]
      show _ = resB (smL b n (smK b n k) (n + 1) p (o ++ o1 ti ++ o1 pl)) _
      cases cp : pls (pk b n p) with
      | some t =>
        have hp := pls_in cp
        dsimp only
        rw [(IH hp (p + 1) (by omega) f k (some t) none L (o ++ o1 ti ++ o1 pl) (by omega) (by omega)).1]
        conv => rhs; unfold smL
        rw [cp]
        dsimp only
        unfold trm
        rw [resB_assoc, resB_assoc]
        refine resB_cg (fun z e => ?_)
        have a := fac_adv hm e
        unfold aft
        rw [o1_n]
        refine resB_cg (fun y e2 => ?_)
        have a2 := trmL_adv hm _ _ _ _ e2
        rw [smL_ir hm (n + 1) n y.1 (y.2 ++ o1 (some t)) (by omega) (by omega)]
        rfl
      | none =>
        dsimp only
        have es : smL b n (smK b n k) (n + 1) p (o ++ o1 ti ++ o1 pl) = .ok (p, o ++ o1 ti ++ o1 pl) := by
          unfold smL
          rw [cp]
        rw [es]
        show _ = finL b n k L p (o ++ o1 ti ++ o1 pl)
        unfold finL
        by_cases hL : L = []
        · rw [if_pos hL, if_pos hL]
        · rw [if_neg hL, if_neg hL]
          by_cases d : pk b n p = 93
          · have hp := pke_in d (by decide)
            rw [if_pos d, if_pos d]
            cases L with
            | nil => exact absurd rfl hL
            | cons z L =>
              obtain ⟨pl', ti'⟩ := z
              rw [(IH hp (p + 1) (by omega) f (k + 1) pl' ti' L _ (by omega) (by omega)).2, (IH hp (p + 1) (by omega) (n + 1) (k + 1) pl' ti' L _ (by omega) (by omega)).2]
          · rw [if_neg d, if_neg d]
theorem ac : ∀ N p : Nat, n ≤ p + N → AC b n p
  | 0, p, h => ac_step (fun q => absurd q (by omega))
  | N + 1, p, h => ac_step (fun q p' hp => ac N p' (by omega))
/-- the reference's way reads what the class's reads -/
theorem rm_sm {f k p : Nat} {o : OutT} (h : n < f + p) (h0 : 0 < f) : rm b n f k true [(none, none)] p o = sm1 b n (smK b n k) p o := by
  rw [(ac (n - p) p (by omega) f k none none [] o h h0).1]
  unfold sm1 trm
  rw [resB_assoc]
  refine resB_cg (fun z e => ?_)
  unfold aft
  rw [o1_n]
  refine resB_cg (fun y e2 => ?_)
  rw [o1_n]
  cases smL b n (smK b n k) (n + 1) y.1 y.2 with
  | error e => rfl
  | ok x => rfl
end PARS
def rel (c : Int32) : Option Nat := if c = 60 then some 8 else if c = 62 then some 9 else if c = 61 then some 10 else none
/-- a comparison with k levels left -/
def cmpK (b : Nat → Int32) (n k p : Nat) (o : OutT) : ResT := resB (sm1 b n (smK b n k) p o) (fun q o' =>
  match rel (pk b n q) with
  | none => .error (1000 + q)
  | some r => resB (sm1 b n (smK b n k) (q + 1) o') (fun q o' => .ok (q, o' ++ [(r, 0)])))
/-- the jump at j goes to where the steps end -/
def aim (o : OutT) (j : Nat) : OutT := o.set j ((o[j]?.getD (0, 0)).1, o.length)
def aimO (o : OutT) : Option Nat → OutT
  | none => o
  | some j => aim o j
abbrev PceT : Type := Nat → OutT → ResT
def ptL (b : Nat → Int32) (n : Nat) (P : PceT) : Nat → Nat → OutT → ResT
  | 0, p, o => .ok (p, o)
  | f + 1, p, o => if pk b n p = 38 then resB (P (p + 1) (o ++ [(12, 0)])) (fun q o' => ptL b n P f q (aim o' o.length)) else .ok (p, o)
def ptK (b : Nat → Int32) (n : Nat) (P : PceT) (p : Nat) (o : OutT) : ResT := resB (P p o) (fun q o' => ptL b n P (n + 1) q o')
def cdL (b : Nat → Int32) (n : Nat) (P : PceT) : Nat → Nat → OutT → ResT
  | 0, p, o => .ok (p, o)
  | f + 1, p, o => if pk b n p = 124 then resB (ptK b n P (p + 1) (o ++ [(13, 0)])) (fun q o' => cdL b n P f q (aim o' o.length)) else .ok (p, o)
def cdK (b : Nat → Int32) (n : Nat) (P : PceT) (p : Nat) (o : OutT) : ResT := resB (ptK b n P p o) (fun q o' => cdL b n P (n + 1) q o')
def shut (b : Nat → Int32) (n q : Nat) (o : OutT) : ResT := if pk b n q = 41 then .ok (q + 1, o) else .error (1000 + q)
/-- a piece with k levels left -/
def pcK (b : Nat → Int32) (n : Nat) : Nat → PceT
  | 0, p, o => if pk b n p = 33 then .error (5000 + p) else if pk b n p = 40 then .error (5000 + p) else cmpK b n 0 p o
  | k + 1, p, o => if pk b n p = 33 then resB (pcK b n k (p + 1) o) (fun q o' => .ok (q, o' ++ [(11, 0)])) else if pk b n p = 40 then resB (cdK b n (pcK b n k) (p + 1) o) (fun q o' => shut b n q o') else cmpK b n (k + 1) p o
/-- levels of a condition, the innermost first: its | and its & that wait, and the ! ahead of the piece -/
abbrev CevT : Type := List (Option Nat × Option Nat × Nat)
def nots (m : Nat) : OutT := List.replicate m (11, 0)
/-- the reference's way; m: a piece is to be read -/
def cm (b : Nat → Int32) (n : Nat) : Nat → Nat → Bool → CevT → Nat → OutT → ResT
  | 0, _, _, _, p, o => .ok (p, o)
  | f + 1, k, m, L, p, o =>
    match L with
    | [] => .ok (p, o)
    | z :: L' =>
      if m = true then
        (if pk b n p = 33 then (if k = 0 then .error (5000 + p) else cm b n f (k - 1) true ((z.1, z.2.1, z.2.2 + 1) :: L') (p + 1) o)
        else if pk b n p = 40 then (if k = 0 then .error (5000 + p) else cm b n f (k - 1) true ((none, none, 0) :: z :: L') (p + 1) o)
        else resB (cmpK b n k p o) (fun q o' => cm b n f k false (z :: L') q o'))
      else
        (if pk b n p = 41 then
          (if L' = [] then .ok (p + 1, aimO (aimO (o ++ nots z.2.2) z.2.1) z.1) else cm b n f (k + z.2.2 + 1) false L' (p + 1) (aimO (aimO (o ++ nots z.2.2) z.2.1) z.1))
        else if pk b n p = 38 then cm b n f (k + z.2.2) true ((z.1, some (o ++ nots z.2.2).length, 0) :: L') (p + 1) (aimO (o ++ nots z.2.2) z.2.1 ++ [(12, 0)])
        else if pk b n p = 124 then cm b n f (k + z.2.2) true ((some (o ++ nots z.2.2).length, none, 0) :: L') (p + 1) (aimO (aimO (o ++ nots z.2.2) z.2.1) z.1 ++ [(13, 0)])
        else .error (1000 + p))
section PARC
variable {b : Nat → Int32} {n : Nat} {P : PceT}
theorem aim_len (o : OutT) (j : Nat) : (aim o j).length = o.length := List.length_set
theorem aimO_len (o : OutT) (j : Option Nat) : (aimO o j).length = o.length := by
  cases j with
  | none => rfl
  | some j => exact aim_len o j
def MonP (P : PceT) : Prop := ∀ (p : Nat) (o : OutT) (z : Nat × OutT), P p o = .ok z → p < z.1
theorem cmp_adv {k p : Nat} {o : OutT} {z : Nat × OutT} (h : cmpK b n k p o = .ok z) : p < z.1 := by
  obtain ⟨y, h1, h2⟩ := resB_ok h
  have a := sm1_adv (smK_mono k) h1
  split at h2
  · cases h2
  · obtain ⟨x, h3, h4⟩ := resB_ok h2
    have c := sm1_adv (smK_mono k) h3
    have e : (x.1, x.2 ++ _) = z := Except.ok.inj h4
    rw [← e]
    show p < x.1
    omega
theorem ptL_adv (hP : MonP P) : ∀ (f p : Nat) (o : OutT) (z : Nat × OutT), ptL b n P f p o = .ok z → p ≤ z.1
  | 0, p, o, z, h => by
    have e : (p, o) = z := Except.ok.inj h
    rw [← e]
    exact Nat.le_refl _
  | f + 1, p, o, z, h => by
    unfold ptL at h
    split at h
    · obtain ⟨y, h1, h2⟩ := resB_ok h
      have a := hP _ _ _ h1
      have c := ptL_adv hP f _ _ _ h2
      omega
    · have e : (p, o) = z := Except.ok.inj h
      rw [← e]
      exact Nat.le_refl _
theorem ptK_adv (hP : MonP P) {p : Nat} {o : OutT} {z : Nat × OutT} (h : ptK b n P p o = .ok z) : p < z.1 := by
  obtain ⟨y, h1, h2⟩ := resB_ok h
  have a := hP _ _ _ h1
  have c := ptL_adv hP _ _ _ _ h2
  omega
theorem cdL_adv (hP : MonP P) : ∀ (f p : Nat) (o : OutT) (z : Nat × OutT), cdL b n P f p o = .ok z → p ≤ z.1
  | 0, p, o, z, h => by
    have e : (p, o) = z := Except.ok.inj h
    rw [← e]
    exact Nat.le_refl _
  | f + 1, p, o, z, h => by
    unfold cdL at h
    split at h
    · obtain ⟨y, h1, h2⟩ := resB_ok h
      have a := ptK_adv hP h1
      have c := cdL_adv hP f _ _ _ h2
      omega
    · have e : (p, o) = z := Except.ok.inj h
      rw [← e]
      exact Nat.le_refl _
theorem cdK_adv (hP : MonP P) {p : Nat} {o : OutT} {z : Nat × OutT} (h : cdK b n P p o = .ok z) : p < z.1 := by
  obtain ⟨y, h1, h2⟩ := resB_ok h
  have a := ptK_adv hP h1
  have c := cdL_adv hP _ _ _ _ h2
  omega
theorem shut_adv {q : Nat} {o : OutT} {z : Nat × OutT} (h : shut b n q o = .ok z) : q < z.1 := by
  unfold shut at h
  split at h
  · have e : (q + 1, o) = z := Except.ok.inj h
    rw [← e]
    exact Nat.lt_succ_self q
  · cases h
theorem pcK_adv : ∀ k : Nat, MonP (pcK b n k)
  | 0, p, o, z, h => by
    unfold pcK at h
    split at h
    · cases h
    · split at h
      · cases h
      · exact cmp_adv h
  | k + 1, p, o, z, h => by
    unfold pcK at h
    split at h
    · obtain ⟨y, h1, h2⟩ := resB_ok h
      have a := pcK_adv k _ _ _ h1
      have e : (y.1, y.2 ++ _) = z := Except.ok.inj h2
      rw [← e]
      show p < y.1
      omega
    · split at h
      · obtain ⟨y, h1, h2⟩ := resB_ok h
        have a := cdK_adv (pcK_adv k) h1
        have c := shut_adv h2
        omega
      · exact cmp_adv h
theorem sm1_in {S : SumT} {p : Nat} {o : OutT} {z : Nat × OutT} (h : sm1 b n S p o = .ok z) : p < n := by
  obtain ⟨y, h1, h2⟩ := resB_ok h
  obtain ⟨x, h3, h4⟩ := resB_ok h1
  unfold facL at h3
  split at h3
  · next c => exact pke_in c (by decide)
  · exact atm_in h3
theorem cmp_in {k p : Nat} {o : OutT} {z : Nat × OutT} (h : cmpK b n k p o = .ok z) : p < n := by
  obtain ⟨y, h1, h2⟩ := resB_ok h
  exact sm1_in h1
theorem ptL_ir (hP : MonP P) : ∀ (f g p : Nat) (o : OutT), n ≤ f + p → n ≤ g + p → ptL b n P f p o = ptL b n P g p o
  | 0, 0, _, _, _, _ => rfl
  | 0, g + 1, p, o, h, _ => by
    unfold ptL
    rw [pke_out (by omega), if_neg (by decide)]
  | f + 1, 0, p, o, _, h => by
    unfold ptL
    rw [pke_out (by omega), if_neg (by decide)]
  | f + 1, g + 1, p, o, h1, h2 => by
    unfold ptL
    split
    · exact resB_cg (fun z e => ptL_ir hP f g _ _ (by have a := hP _ _ _ e; omega) (by have a := hP _ _ _ e; omega))
    · rfl
theorem cdL_ir (hP : MonP P) : ∀ (f g p : Nat) (o : OutT), n ≤ f + p → n ≤ g + p → cdL b n P f p o = cdL b n P g p o
  | 0, 0, _, _, _, _ => rfl
  | 0, g + 1, p, o, h, _ => by
    unfold cdL
    rw [pke_out (by omega), if_neg (by decide)]
  | f + 1, 0, p, o, _, h => by
    unfold cdL
    rw [pke_out (by omega), if_neg (by decide)]
  | f + 1, g + 1, p, o, h1, h2 => by
    unfold cdL
    split
    · exact resB_cg (fun z e => cdL_ir hP f g _ _ (by have a := ptK_adv hP e; omega) (by have a := ptK_adv hP e; omega))
    · rfl
theorem cm_t {f k : Nat} {r a : Option Nat} {m : Nat} {L : CevT} {p : Nat} {o : OutT} : cm b n (f + 1) k true ((r, a, m) :: L) p o = (if pk b n p = 33 then (if k = 0 then .error (5000 + p) else cm b n f (k - 1) true ((r, a, m + 1) :: L) (p + 1) o)
        else if pk b n p = 40 then (if k = 0 then .error (5000 + p) else cm b n f (k - 1) true ((none, none, 0) :: (r, a, m) :: L) (p + 1) o)
        else resB (cmpK b n k p o) (fun q o' => cm b n f k false ((r, a, m) :: L) q o')) := rfl
theorem cm_f {f k : Nat} {r a : Option Nat} {m : Nat} {L : CevT} {p : Nat} {o : OutT} : cm b n (f + 1) k false ((r, a, m) :: L) p o = (if pk b n p = 41 then
          (if L = [] then .ok (p + 1, aimO (aimO (o ++ nots m) a) r) else cm b n f (k + m + 1) false L (p + 1) (aimO (aimO (o ++ nots m) a) r))
        else if pk b n p = 38 then cm b n f (k + m) true ((r, some (o ++ nots m).length, 0) :: L) (p + 1) (aimO (o ++ nots m) a ++ [(12, 0)])
        else if pk b n p = 124 then cm b n f (k + m) true ((some (o ++ nots m).length, none, 0) :: L) (p + 1) (aimO (aimO (o ++ nots m) a) r ++ [(13, 0)])
        else .error (1000 + p)) := rfl
/-- what closes a level, and all that is behind it -/
def clo (b : Nat → Int32) (n k : Nat) (L : CevT) (q : Nat) (o : OutT) : ResT := if pk b n q = 41 then (if L = [] then .ok (q + 1, o) else cm b n (n + 1) (k + 1) false L (q + 1) o) else .error (1000 + q)
/-- behind a piece: the rest of the part, of the condition, and what stands around -/
def afc (b : Nat → Int32) (n k : Nat) (r a : Option Nat) (m : Nat) (L : CevT) (p : Nat) (o : OutT) : ResT := resB (ptL b n (pcK b n (k + m)) (n + 1) p (aimO (o ++ nots m) a)) (fun q o' => resB (cdL b n (pcK b n (k + m)) (n + 1) q (aimO o' r)) (fun q o' => clo b n (k + m) L q o'))
def CC (b : Nat → Int32) (n p : Nat) : Prop := ∀ (f k : Nat) (r a : Option Nat) (m : Nat) (L : CevT) (o : OutT), n < f + p → 0 < f →
  cm b n f k true ((r, a, m) :: L) p o = resB (pcK b n k p o) (fun q o' => afc b n k r a m L q o') ∧ cm b n f k false ((r, a, m) :: L) p o = afc b n k r a m L p o
theorem nots_0 (o : OutT) : o ++ nots 0 = o := List.append_nil o
theorem nots_s (o : OutT) (m : Nat) : o ++ nots (m + 1) = (o ++ [(11, 0)]) ++ nots m := by
  rw [List.append_assoc]
  rfl
theorem cc_step {p : Nat} (IH : p < n → ∀ p' : Nat, p < p' → CC b n p') : CC b n p := by
  intro f k r a m L o h2 h3
  obtain ⟨f, rfl⟩ : ∃ g, f = g + 1 := ⟨f - 1, by omega⟩
  constructor
  · rw [cm_t]
    by_cases c : pk b n p = 33
    · have hp := pke_in c (by decide)
      rw [if_pos c]
      cases k with
      | zero =>
        rw [if_pos rfl]
        unfold pcK
        rw [if_pos c]
        rfl
      | succ k =>
        rw [if_neg (Nat.succ_ne_zero k)]
        show cm b n f k true ((r, a, m + 1) :: L) (p + 1) o = _
        rw [(IH hp (p + 1) (by omega) f k r a (m + 1) L o (by omega) (by omega)).1]
        conv => rhs; unfold pcK
        rw [if_pos c, resB_assoc]
        refine resB_cg (fun z e => ?_)
        show afc b n k r a (m + 1) L z.1 z.2 = afc b n (k + 1) r a m L z.1 (z.2 ++ [(11, 0)])
        unfold afc
        rw [nots_s, show k + (m + 1) = k + 1 + m by omega]
    · rw [if_neg c]
      by_cases d : pk b n p = 40
      · have hp := pke_in d (by decide)
        rw [if_pos d]
        cases k with
        | zero =>
          rw [if_pos rfl]
          unfold pcK
          rw [if_neg c, if_pos d]
          rfl
        | succ k =>
          rw [if_neg (Nat.succ_ne_zero k)]
          show cm b n f k true ((none, none, 0) :: (r, a, m) :: L) (p + 1) o = _
          rw [(IH hp (p + 1) (by omega) f k none none 0 ((r, a, m) :: L) o (by omega) (by omega)).1]
          conv => rhs; unfold pcK
          rw [if_neg c, if_pos d]
          unfold cdK ptK
          rw [resB_assoc, resB_assoc, resB_assoc]
          refine resB_cg (fun z e => ?_)
          have a1 := pcK_adv k _ _ _ e
          show afc b n k none none 0 ((r, a, m) :: L) z.1 z.2 = _
          conv => lhs; unfold afc
          rw [nots_0, Nat.add_zero]
          refine resB_cg (fun y e2 => ?_)
          have a2 := ptL_adv (pcK_adv k) _ _ _ _ e2
          refine resB_cg (fun x e3 => ?_)
          have a3 := cdL_adv (pcK_adv k) _ _ _ _ e3
          show clo b n k ((r, a, m) :: L) x.1 x.2 = resB (shut b n x.1 x.2) _
          unfold clo shut
          by_cases g : pk b n x.1 = 41
          · rw [if_pos g, if_pos g, if_neg (List.cons_ne_nil _ _)]
            exact (IH hp (x.1 + 1) (by omega) (n + 1) (k + 1) r a m L x.2 (by omega) (by omega)).2
          · rw [if_neg g, if_neg g]
            rfl
      · rw [if_neg d]
        have ep : pcK b n k p o = cmpK b n k p o := by
          cases k with
          | zero => unfold pcK; rw [if_neg c, if_neg d]
          | succ k => unfold pcK; rw [if_neg c, if_neg d]
        rw [ep]
        refine resB_cg (fun z e => ?_)
        have hp := cmp_in e
        have a1 := cmp_adv e
        exact (IH hp z.1 a1 f k r a m L z.2 (by omega) (by omega)).2
  · rw [cm_f]
    unfold afc
    have hm := pcK_adv (b := b) (n := n) (k + m)
    by_cases c : pk b n p = 41
    · rw [if_pos c]
      have e1 : ptL b n (pcK b n (k + m)) (n + 1) p (aimO (o ++ nots m) a) = .ok (p, aimO (o ++ nots m) a) := by unfold ptL; rw [if_neg (by rw [c]; decide)]
      rw [e1]
      show _ = resB (cdL b n (pcK b n (k + m)) (n + 1) p (aimO (aimO (o ++ nots m) a) r)) _
      have e2 : cdL b n (pcK b n (k + m)) (n + 1) p (aimO (aimO (o ++ nots m) a) r) = .ok (p, aimO (aimO (o ++ nots m) a) r) := by unfold cdL; rw [if_neg (by rw [c]; decide)]
      rw [e2]
      show _ = clo b n (k + m) L p (aimO (aimO (o ++ nots m) a) r)
      unfold clo
      rw [if_pos c]
      by_cases hL : L = []
      · rw [if_pos hL, if_pos hL]
      · rw [if_neg hL, if_neg hL]
        have hp := pke_in c (by decide)
        cases L with
        | nil => exact absurd rfl hL
        | cons z L =>
          obtain ⟨r', a', m'⟩ := z
          rw [(IH hp (p + 1) (by omega) f (k + m + 1) r' a' m' L _ (by omega) (by omega)).2, (IH hp (p + 1) (by omega) (n + 1) (k + m + 1) r' a' m' L _ (by omega) (by omega)).2]
    · rw [if_neg c]
      by_cases d : pk b n p = 38
      · have hp := pke_in d (by decide)
        rw [if_pos d, (IH hp (p + 1) (by omega) f (k + m) r (some (o ++ nots m).length) 0 L _ (by omega) (by omega)).1]
        conv => rhs; unfold ptL
        rw [if_pos d, resB_assoc, aimO_len]
        refine resB_cg (fun z e => ?_)
        have a1 := hm _ _ _ e
        unfold afc
        rw [nots_0, Nat.add_zero, ptL_ir hm (n + 1) n z.1 _ (by omega) (by omega)]
        rfl
      · rw [if_neg d]
        have e1 : ptL b n (pcK b n (k + m)) (n + 1) p (aimO (o ++ nots m) a) = .ok (p, aimO (o ++ nots m) a) := by unfold ptL; rw [if_neg d]
        rw [e1]
        show _ = resB (cdL b n (pcK b n (k + m)) (n + 1) p (aimO (aimO (o ++ nots m) a) r)) _
        by_cases g : pk b n p = 124
        · have hp := pke_in g (by decide)
          rw [if_pos g, (IH hp (p + 1) (by omega) f (k + m) (some (o ++ nots m).length) none 0 L _ (by omega) (by omega)).1]
          conv => rhs; unfold cdL
          rw [if_pos g, aimO_len, aimO_len]
          unfold ptK
          rw [resB_assoc, resB_assoc]
          refine resB_cg (fun z e => ?_)
          have a1 := hm _ _ _ e
          unfold afc
          rw [nots_0, Nat.add_zero]
          refine resB_cg (fun y e2 => ?_)
          have a2 := ptL_adv hm _ _ _ _ e2
          rw [cdL_ir hm (n + 1) n y.1 _ (by omega) (by omega)]
          rfl
        · rw [if_neg g]
          have e2 : cdL b n (pcK b n (k + m)) (n + 1) p (aimO (aimO (o ++ nots m) a) r) = .ok (p, aimO (aimO (o ++ nots m) a) r) := by unfold cdL; rw [if_neg g]
          rw [e2]
          show _ = clo b n (k + m) L p (aimO (aimO (o ++ nots m) a) r)
          unfold clo
          rw [if_neg c]
theorem cc : ∀ N p : Nat, n ≤ p + N → CC b n p
  | 0, p, h => cc_step (fun q => absurd q (by omega))
  | N + 1, p, h => cc_step (fun q p' hp => cc N p' (by omega))
/-- the reference's way reads what the class's reads -/
theorem cm_cd {f k p : Nat} {o : OutT} (h : n < f + p) (h0 : 0 < f) : cm b n f k true [(none, none, 0)] p o = resB (cdK b n (pcK b n k) p o) (fun q o' => shut b n q o') := by
  rw [(cc (n - p) p (by omega) f k none none 0 [] o h h0).1]
  unfold cdK ptK
  rw [resB_assoc, resB_assoc]
  refine resB_cg (fun z e => ?_)
  unfold afc
  rw [nots_0]
  refine resB_cg (fun y e2 => ?_)
  refine resB_cg (fun x e3 => ?_)
  show clo b n k [] x.1 x.2 = shut b n x.1 x.2
  unfold clo shut
  by_cases g : pk b n x.1 = 41
  · rw [if_pos g, if_pos g, if_pos rfl]
  · rw [if_neg g, if_neg g]
end PARC
section PARV
variable {b : Nat → Int32} {n : Nat}
theorem acx (p : Nat) : AC b n p := ac (n - p) p (by omega)
/-- what comes of a state in which a factor is to be read -/
def VT (b : Nat → Int32) (n k : Nat) (pl ti : Option Nat) (L : LevT) (p : Nat) (o : OutT) : ResT := resB (facL b n (smK b n k) p o) (fun q o' => aft b n k pl ti L q o')
variable {k p t : Nat} {pl ti : Option Nat} {L : LevT} {o : OutT}
theorem VT_e : VT b n k pl ti L p o = rm b n (n + 2) k true ((pl, ti) :: L) p o := ((acx p (n + 2) k pl ti L o (by omega) (by omega)).1).symm
theorem aft_e : aft b n k pl ti L p o = rm b n (n + 2) k false ((pl, ti) :: L) p o := ((acx p (n + 2) k pl ti L o (by omega) (by omega)).2).symm
theorem VT_0 (h : pk b n p = 91) : VT b n 0 pl ti L p o = .error (5000 + p) := by
  rw [VT_e, rm_t, if_pos h, if_pos rfl]
theorem VT_s (h : pk b n p = 91) : VT b n (k + 1) pl ti L p o = VT b n k none none ((pl, ti) :: L) (p + 1) o := by
  rw [VT_e, rm_t, if_pos h, if_neg (Nat.succ_ne_zero k)]
  exact (acx (p + 1) (n + 1) k none none ((pl, ti) :: L) o (by omega) (by omega)).1
theorem VT_a (h : ¬ pk b n p = 91) : VT b n k pl ti L p o = resB (atmL b n p o) (fun q o' => aft b n k pl ti L q o') := by
  unfold VT facL
  rw [if_neg h]
theorem VF_t (h : tms (pk b n p) = some t) : aft b n k pl ti L p o = VT b n k pl (some t) L (p + 1) (o ++ o1 ti) := by
  rw [aft_e, rm_f, h]
  exact (acx (p + 1) (n + 1) k pl (some t) L (o ++ o1 ti) (by omega) (by omega)).1
theorem VF_p (h : tms (pk b n p) = none) (h2 : pls (pk b n p) = some t) : aft b n k pl ti L p o = VT b n k (some t) none L (p + 1) (o ++ o1 ti ++ o1 pl) := by
  rw [aft_e, rm_f, h, h2]
  exact (acx (p + 1) (n + 1) k (some t) none L (o ++ o1 ti ++ o1 pl) (by omega) (by omega)).1
theorem VF_f (h : tms (pk b n p) = none) (h2 : pls (pk b n p) = none) : aft b n k pl ti [] p o = .ok (p, o ++ o1 ti ++ o1 pl) := by
  rw [aft_e, rm_f, h, h2]
  exact if_pos rfl
theorem VF_c {pl' ti' : Option Nat} (h : pk b n p = 93) : aft b n k pl ti ((pl', ti') :: L) p o = aft b n (k + 1) pl' ti' L (p + 1) (o ++ o1 ti ++ o1 pl) := by
  rw [aft_e, rm_f, h, show tms 93 = none by decide, show pls 93 = none by decide]
  dsimp only
  rw [if_neg (List.cons_ne_nil _ _), if_pos rfl]
  exact (acx (p + 1) (n + 1) (k + 1) pl' ti' L (o ++ o1 ti ++ o1 pl) (by omega) (by omega)).2
theorem VF_e {z : Option Nat × Option Nat} (h : tms (pk b n p) = none) (h2 : pls (pk b n p) = none) (h3 : ¬ pk b n p = 93) : aft b n k pl ti (z :: L) p o = .error (1000 + p) := by
  rw [aft_e, rm_f, h, h2]
  dsimp only
  rw [if_neg (List.cons_ne_nil _ _), if_neg h3]
theorem VT_sm : VT b n k none none [] p o = sm1 b n (smK b n k) p o := by
  rw [VT_e]
  exact rm_sm (by omega) (by omega)
theorem ccx (p : Nat) : CC b n p := cc (n - p) p (by omega)
/-- what comes of a state in which a piece is to be read -/
def WT (b : Nat → Int32) (n k : Nat) (r a : Option Nat) (m : Nat) (L : CevT) (p : Nat) (o : OutT) : ResT := resB (pcK b n k p o) (fun q o' => afc b n k r a m L q o')
variable {r a : Option Nat} {m : Nat} {M : CevT}
theorem WT_e : WT b n k r a m M p o = cm b n (n + 2) k true ((r, a, m) :: M) p o := ((ccx p (n + 2) k r a m M o (by omega) (by omega)).1).symm
theorem afc_e : afc b n k r a m M p o = cm b n (n + 2) k false ((r, a, m) :: M) p o := ((ccx p (n + 2) k r a m M o (by omega) (by omega)).2).symm
theorem WT_n0 (h : pk b n p = 33) : WT b n 0 r a m M p o = .error (5000 + p) := by
  rw [WT_e, cm_t, if_pos h, if_pos rfl]
theorem WT_ns (h : pk b n p = 33) : WT b n (k + 1) r a m M p o = WT b n k r a (m + 1) M (p + 1) o := by
  rw [WT_e, cm_t, if_pos h, if_neg (Nat.succ_ne_zero k)]
  exact (ccx (p + 1) (n + 1) k r a (m + 1) M o (by omega) (by omega)).1
theorem WT_b0 (h : pk b n p = 40) : WT b n 0 r a m M p o = .error (5000 + p) := by
  rw [WT_e, cm_t, if_neg (by rw [h]; decide), if_pos h, if_pos rfl]
theorem WT_bs (h : pk b n p = 40) : WT b n (k + 1) r a m M p o = WT b n k none none 0 ((r, a, m) :: M) (p + 1) o := by
  rw [WT_e, cm_t, if_neg (by rw [h]; decide), if_pos h, if_neg (Nat.succ_ne_zero k)]
  exact (ccx (p + 1) (n + 1) k none none 0 ((r, a, m) :: M) o (by omega) (by omega)).1
theorem WT_c (h : ¬ pk b n p = 33) (h2 : ¬ pk b n p = 40) : WT b n k r a m M p o = resB (cmpK b n k p o) (fun q o' => afc b n k r a m M q o') := by
  rw [WT_e, cm_t, if_neg h, if_neg h2]
  refine resB_cg (fun z e => ?_)
  have q := cmp_adv e
  exact (ccx z.1 (n + 1) k r a m M z.2 (by omega) (by omega)).2
theorem WF_a (h : pk b n p = 38) : afc b n k r a m M p o = WT b n (k + m) r (some (o ++ nots m).length) 0 M (p + 1) (aimO (o ++ nots m) a ++ [(12, 0)]) := by
  rw [afc_e, cm_f, if_neg (by rw [h]; decide), if_pos h]
  exact (ccx (p + 1) (n + 1) (k + m) r (some (o ++ nots m).length) 0 M _ (by omega) (by omega)).1
theorem WF_o (h : pk b n p = 124) : afc b n k r a m M p o = WT b n (k + m) (some (o ++ nots m).length) none 0 M (p + 1) (aimO (aimO (o ++ nots m) a) r ++ [(13, 0)]) := by
  rw [afc_e, cm_f, if_neg (by rw [h]; decide), if_neg (by rw [h]; decide), if_pos h]
  exact (ccx (p + 1) (n + 1) (k + m) (some (o ++ nots m).length) none 0 M _ (by omega) (by omega)).1
theorem WF_f (h : pk b n p = 41) : afc b n k r a m [] p o = .ok (p + 1, aimO (aimO (o ++ nots m) a) r) := by
  rw [afc_e, cm_f, if_pos h, if_pos rfl]
theorem WF_c {r' a' : Option Nat} {m' : Nat} (h : pk b n p = 41) : afc b n k r a m ((r', a', m') :: M) p o = afc b n (k + m + 1) r' a' m' M (p + 1) (aimO (aimO (o ++ nots m) a) r) := by
  rw [afc_e, cm_f, if_pos h, if_neg (List.cons_ne_nil _ _)]
  exact (ccx (p + 1) (n + 1) (k + m + 1) r' a' m' M _ (by omega) (by omega)).2
theorem WF_e (h1 : ¬ pk b n p = 41) (h2 : ¬ pk b n p = 38) (h3 : ¬ pk b n p = 124) : afc b n k r a m M p o = .error (1000 + p) := by
  rw [afc_e, cm_f, if_neg h1, if_neg h2, if_neg h3]
theorem WT_cd : WT b n k none none 0 [] p o = resB (cdK b n (pcK b n k) p o) (fun q o' => shut b n q o') := by
  rw [WT_e]
  exact cm_cd (by omega) (by omega)
end PARV
/-- no byte makes more than one step -/
def LenP (P : PceT) : Prop := ∀ (p : Nat) (o : OutT) (z : Nat × OutT), P p o = .ok z → z.2.length + p ≤ o.length + z.1 ∧ o.length ≤ z.2.length
def LenS (S : SumT) : Prop := ∀ s, S = some s → LenP s
section PARN
variable {b : Nat → Int32} {n : Nat} {S : SumT} {P : PceT}
theorem app_len (o : OutT) (z : Nat × Nat) : (o ++ [z]).length = o.length + 1 := by simp
theorem atm_len : LenP (atmL b n) := fun p o z h => by
  have a := atm_adv h
  unfold atmL at h
  split at h
  · split at h
    · cases h
    · have e : (_, o ++ [_]) = z := Except.ok.inj h
      rw [← e] at a ⊢
      have a : p < (numL b n 6 p 0).1 := a
      show (o ++ [_]).length + p ≤ o.length + (numL b n 6 p 0).1 ∧ o.length ≤ (o ++ [_]).length
      rw [app_len]
      omega
  · split at h
    · have e : (p + 1, o ++ [_]) = z := Except.ok.inj h
      rw [← e]
      show (o ++ [_]).length + p ≤ o.length + (p + 1) ∧ o.length ≤ (o ++ [_]).length
      rw [app_len]
      omega
    · cases h
theorem fac_len (hS : LenS S) : LenP (facL b n S) := fun p o z h => by
  unfold facL at h
  split at h
  · cases S with
    | none => cases h
    | some s =>
      obtain ⟨y, h1, h2⟩ := resB_ok h
      have a := hS s rfl (p + 1) o y h1
      split at h2
      · have e : (y.1 + 1, y.2) = z := Except.ok.inj h2
        rw [← e]
        show y.2.length + p ≤ o.length + (y.1 + 1) ∧ o.length ≤ y.2.length
        omega
      · cases h2
  · exact atm_len p o z h
theorem trmL_len (hS : LenS S) : ∀ f : Nat, LenP (trmL b n S f)
  | 0, p, o, z, h => by
    have e : (p, o) = z := Except.ok.inj h
    rw [← e]
    exact ⟨Nat.le_refl _, Nat.le_refl _⟩
  | f + 1, p, o, z, h => by
    unfold trmL at h
    split at h
    · have e : (p, o) = z := Except.ok.inj h
      rw [← e]
      exact ⟨Nat.le_refl _, Nat.le_refl _⟩
    · obtain ⟨y, h1, h2⟩ := resB_ok h
      have a := fac_len hS _ _ _ h1
      have c := trmL_len hS f _ _ _ h2
      rw [app_len] at c
      omega
theorem trm_len (hS : LenS S) : LenP (trm b n S) := fun p o z h => by
  obtain ⟨y, h1, h2⟩ := resB_ok h
  have a := fac_len hS _ _ _ h1
  have c := trmL_len hS _ _ _ _ h2
  omega
theorem smL_len (hS : LenS S) : ∀ f : Nat, LenP (smL b n S f)
  | 0, p, o, z, h => by
    have e : (p, o) = z := Except.ok.inj h
    rw [← e]
    exact ⟨Nat.le_refl _, Nat.le_refl _⟩
  | f + 1, p, o, z, h => by
    unfold smL at h
    split at h
    · have e : (p, o) = z := Except.ok.inj h
      rw [← e]
      exact ⟨Nat.le_refl _, Nat.le_refl _⟩
    · obtain ⟨y, h1, h2⟩ := resB_ok h
      have a := trm_len hS _ _ _ h1
      have c := smL_len hS f _ _ _ h2
      rw [app_len] at c
      omega
theorem sm1_len (hS : LenS S) : LenP (sm1 b n S) := fun p o z h => by
  obtain ⟨y, h1, h2⟩ := resB_ok h
  have a := trm_len hS _ _ _ h1
  have c := smL_len hS _ _ _ _ h2
  omega
theorem smK_len : ∀ k : Nat, LenS (smK b n k)
  | 0 => fun s h => by cases h
  | k + 1 => fun s h => by
    have q := Option.some.inj h
    rw [← q]
    exact sm1_len (smK_len k)
theorem cmp_len (k : Nat) : LenP (cmpK b n k) := fun p o z h => by
  obtain ⟨y, h1, h2⟩ := resB_ok h
  have a := sm1_len (smK_len k) _ _ _ h1
  split at h2
  · cases h2
  · obtain ⟨x, h3, h4⟩ := resB_ok h2
    have c := sm1_len (smK_len k) _ _ _ h3
    have e : (x.1, x.2 ++ [_]) = z := Except.ok.inj h4
    rw [← e]
    show (x.2 ++ [_]).length + p ≤ o.length + x.1 ∧ o.length ≤ (x.2 ++ [_]).length
    rw [app_len]
    omega
theorem ptL_len (hP : LenP P) : ∀ f : Nat, LenP (ptL b n P f)
  | 0, p, o, z, h => by
    have e : (p, o) = z := Except.ok.inj h
    rw [← e]
    exact ⟨Nat.le_refl _, Nat.le_refl _⟩
  | f + 1, p, o, z, h => by
    unfold ptL at h
    split at h
    · obtain ⟨y, h1, h2⟩ := resB_ok h
      have a := hP _ _ _ h1
      have c := ptL_len hP f _ _ _ h2
      rw [app_len] at a
      rw [aim_len] at c
      omega
    · have e : (p, o) = z := Except.ok.inj h
      rw [← e]
      exact ⟨Nat.le_refl _, Nat.le_refl _⟩
theorem ptK_len (hP : LenP P) : LenP (ptK b n P) := fun p o z h => by
  obtain ⟨y, h1, h2⟩ := resB_ok h
  have a := hP _ _ _ h1
  have c := ptL_len hP _ _ _ _ h2
  omega
theorem cdL_len (hP : LenP P) : ∀ f : Nat, LenP (cdL b n P f)
  | 0, p, o, z, h => by
    have e : (p, o) = z := Except.ok.inj h
    rw [← e]
    exact ⟨Nat.le_refl _, Nat.le_refl _⟩
  | f + 1, p, o, z, h => by
    unfold cdL at h
    split at h
    · obtain ⟨y, h1, h2⟩ := resB_ok h
      have a := ptK_len hP _ _ _ h1
      have c := cdL_len hP f _ _ _ h2
      rw [app_len] at a
      rw [aim_len] at c
      omega
    · have e : (p, o) = z := Except.ok.inj h
      rw [← e]
      exact ⟨Nat.le_refl _, Nat.le_refl _⟩
theorem cdK_len (hP : LenP P) : LenP (cdK b n P) := fun p o z h => by
  obtain ⟨y, h1, h2⟩ := resB_ok h
  have a := ptK_len hP _ _ _ h1
  have c := cdL_len hP _ _ _ _ h2
  omega
theorem pcK_len : ∀ k : Nat, LenP (pcK b n k)
  | 0, p, o, z, h => by
    unfold pcK at h
    split at h
    · cases h
    · split at h
      · cases h
      · exact cmp_len 0 p o z h
  | k + 1, p, o, z, h => by
    unfold pcK at h
    split at h
    · obtain ⟨y, h1, h2⟩ := resB_ok h
      have a := pcK_len k _ _ _ h1
      have e : (y.1, y.2 ++ [_]) = z := Except.ok.inj h2
      rw [← e]
      show (y.2 ++ [_]).length + p ≤ o.length + y.1 ∧ o.length ≤ (y.2 ++ [_]).length
      rw [app_len]
      omega
    · split at h
      · obtain ⟨y, h1, h2⟩ := resB_ok h
        have a := cdK_len (pcK_len k) _ _ _ h1
        unfold shut at h2
        split at h2
        · have e : (y.1 + 1, y.2) = z := Except.ok.inj h2
          rw [← e]
          show y.2.length + p ≤ o.length + (y.1 + 1) ∧ o.length ≤ y.2.length
          omega
        · cases h2
      · exact cmp_len (k + 1) p o z h
end PARN
/-- the steps of a text, as the class keeps them -/
def SAYx (T : Nat) (Fn : Nat → Nat → Int32) (o : OutT) : Prop := Fn 195 T = nI o.length ∧ ∀ (i : Nat) (z : Nat × Nat), o[i]? = some z → z.1 ≤ 13 ∧ z.2 < 1048576 ∧ gA (Fn 301) 200 T i = nI (z.1 * 1048576 + z.2)
theorem stp_or {k a : Nat} (hk : k ≤ 13) (ha : a < 1048576) : (nI k <<< (20 &&& 31)) ||| nI a = nI (k * 1048576 + a) := by
  have e : nI k <<< (20 &&& 31) = nI (k * 1048576) := by
    have : ∀ j : Fin 14, nI j.val <<< (20 &&& 31) = nI (j.val * 1048576) := by decide +kernel
    exact this ⟨k, by omega⟩
  rw [e]
  apply Int32.toBitVec_inj.mp
  apply BitVec.eq_of_toNat_eq
  have q : ∀ m : Nat, m < 2 ^ 31 → (nI m).toBitVec.toNat = m := fun m hm => Nat.mod_eq_of_lt (by omega)
  rw [Int32.toBitVec_or, BitVec.toNat_or, q _ (by omega), q _ (by omega), q _ (by omega)]
  have r := Nat.two_pow_add_eq_or_of_lt (i := 20) (b := a) (by omega) k
  rw [Nat.mul_comm k]
  exact r.symm
theorem stp_and {k a c : Nat} (hk : k ≤ 13) (ha : a < 1048576) (hc : c < 1048576) : (nI (k * 1048576 + a) &&& (-1048576)) ||| nI c = nI (k * 1048576 + c) := by
  have e : nI (k * 1048576 + a) &&& (-1048576) = nI (k * 1048576) := by
    apply Int32.toBitVec_inj.mp
    apply BitVec.eq_of_toNat_eq
    have q : ∀ m : Nat, m < 2 ^ 31 → (nI m).toBitVec.toNat = m := fun m hm => Nat.mod_eq_of_lt (by omega)
    rw [Int32.toBitVec_and, BitVec.toNat_and, q _ (by omega), q _ (by omega)]
    have z : (-1048576 : Int32).toBitVec.toNat = 4096 * 2 ^ 20 - 2 ^ 20 := rfl
    have y : k * 1048576 + a = 2 ^ 20 * k + a := by omega
    have y2 : k * 1048576 = 2 ^ 20 * k + 0 := Nat.mul_comm k 1048576
    have y3 : 4096 * 2 ^ 20 - 2 ^ 20 = 2 ^ 20 * 4095 + 0 := rfl
    rw [z, y]
    apply Nat.eq_of_testBit_eq
    intro i
    rw [Nat.testBit_and, Nat.testBit_two_pow_mul_add _ (by omega), y2, Nat.testBit_two_pow_mul_add _ (by decide), y3, Nat.testBit_two_pow_mul_add _ (by decide)]
    by_cases h : i < 20
    · rw [if_pos h, if_pos h, if_pos h, Nat.zero_testBit, Bool.and_false]
    · rw [if_neg h, if_neg h, if_neg h]
      by_cases g : i - 20 < 12
      · have : ∀ j : Fin 12, (4095 : Nat).testBit j.val = true := by decide
        rw [this ⟨i - 20, g⟩, Bool.and_true]
      · have l : k < 2 ^ (i - 20) := Nat.lt_of_lt_of_le (show k < 2 ^ 12 by omega) (Nat.pow_le_pow_right (by decide) (by omega))
        rw [Nat.testBit_lt_two_pow l, Bool.false_and]
  rw [e]
  apply Int32.toBitVec_inj.mp
  apply BitVec.eq_of_toNat_eq
  have q : ∀ m : Nat, m < 2 ^ 31 → (nI m).toBitVec.toNat = m := fun m hm => Nat.mod_eq_of_lt (by omega)
  rw [Int32.toBitVec_or, BitVec.toNat_or, q _ (by omega), q _ (by omega), q _ (by omega)]
  have r := Nat.two_pow_add_eq_or_of_lt (i := 20) (b := c) (by omega) k
  rw [Nat.mul_comm k]
  exact r.symm
/-- the class's reader stands where x says: text T, its end N -/
def ZSo (T N : Nat) (c : Nat → Nat) (I : Nat → Int32) (F : Nat → Nat → Int32) : ResT → Prop
  | .ok z => I 33 = 0 ∧ c 31 = z.1 ∧ c 32 = N ∧ z.1 ≤ N ∧ SAYx T F z.2 ∧ z.2.length ≤ z.1
  | .error e => I 33 = nI e ∧ 0 < e ∧ e < 10000 ∧ c 32 = c 31
/-- what fail(k) leaves -/
def FLR (k : Nat) (c : Nat → Nat) (I : Nat → Int32) (c2 : Nat → Nat) (I2 : Nat → Int32) : Prop := c2 31 = c 31 ∧ ((I 33 = 0 ∧ I2 33 = nI (1000 * k + c 31) ∧ c2 32 = c 31) ∨ (¬ I 33 = 0 ∧ I2 33 = I 33 ∧ c2 32 = c 32))
section ZSS
variable {T N : Nat} {c c2 : Nat → Nat} {I I2 : Nat → Int32} {F F2 : Nat → Nat → Int32} {x : ResT}
theorem SAYx.cg {o : OutT} (h : SAYx T F o) (e1 : F2 195 = F 195) (e2 : F2 301 = F 301) : SAYx T F2 o := by
  unfold SAYx at *
  rw [e1, e2]
  exact h
theorem ZSo.cg (h : ZSo T N c I F x) (h31 : c2 31 = c 31) (h32 : c2 32 = c 32) (h33 : I2 33 = I 33) (e1 : F2 195 = F 195) (e2 : F2 301 = F 301) : ZSo T N c2 I2 F2 x := by
  cases x with
  | error e =>
    obtain ⟨a1, a2, a3, a4⟩ := h
    exact ⟨h33.trans a1, a2, a3, by omega⟩
  | ok z =>
    obtain ⟨a1, a2, a3, a4, a5, a6⟩ := h
    exact ⟨h33.trans a1, by omega, by omega, a4, a5.cg e1 e2, a6⟩
theorem ZSo.fail {k : Nat} (hk : 1 ≤ k ∧ k ≤ 5) (hN : N ≤ 160) (h : ZSo T N c I F x) (f : FLR k c I c2 I2) : ZSo T N c2 I2 F2 (resB x (fun q _ => .error (1000 * k + q))) := by
  obtain ⟨f1, f2⟩ := f
  cases x with
  | error e =>
    obtain ⟨a1, a2, a3, a4⟩ := h
    rcases f2 with ⟨b1, b2, b3⟩ | ⟨b1, b2, b3⟩
    · have q := a1.symm.trans b1
      have q := congrArg Int32.toInt q
      rw [nI_toInt (by omega)] at q
      have z : (0 : Int32).toInt = 0 := rfl
      omega
    · exact ⟨b2.trans a1, a2, a3, by omega⟩
  | ok z =>
    obtain ⟨a1, a2, a3, a4, a5, a6⟩ := h
    rcases f2 with ⟨b1, b2, b3⟩ | ⟨b1, b2, b3⟩
    · exact ⟨by rw [b2, a2], by omega, by omega, by omega⟩
    · exact absurd a1 b1
/-- a byte was read -/
theorem ZSo.inc {z : Nat × OutT} (h : ZSo T N c I F (.ok z)) (hz : z.1 < N) (h31 : c2 31 = c 31 + 1) (h32 : c2 32 = c 32) : ZSo T N c2 I F (.ok (z.1 + 1, z.2)) := by
  obtain ⟨a1, a2, a3, a4, a5, a6⟩ := h
  exact ⟨a1, by show c2 31 = z.1 + 1; omega, by omega, hz, a5, by show z.2.length ≤ z.1 + 1; omega⟩
def addR (T : Nat) (k a : Int32) (F F2 : Nat → Nat → Int32) : Prop := F2 195 = upd (F 195) T (F 195 T + 1) ∧ (0 ≤ (F 195 T).toInt → (F 195 T).toInt < (F 199 T).toInt → F2 301 = flat (F 301) 200 T (upd (gA (F 301) 200 T) (F 195 T).toNatClampNeg ((k <<< (20 &&& 31)) ||| a)))
theorem ap_len (o : OutT) (z : Nat × Nat) : (o ++ [z]).length = o.length + 1 := by simp
theorem SAYx.add {o : OutT} {k a : Nat} (h : SAYx T F o) (hl : o.length < N) (hN : N ≤ 160) (e9 : F 199 T = nI N) (hk : k ≤ 13) (ha : a < 1048576) (r : addR T (nI k) (nI a) F F2) : SAYx T F2 (o ++ [(k, a)]) := by
  obtain ⟨h1, h2⟩ := h
  obtain ⟨r1, r2⟩ := r
  have t1 : (F 195 T).toInt = (o.length : Int) := by rw [h1, nI_toInt (by omega)]
  have t2 : (F 199 T).toInt = (N : Int) := by rw [e9, nI_toInt (by omega)]
  have r2 := r2 (by omega) (by omega)
  have tc : (F 195 T).toNatClampNeg = o.length := by show (F 195 T).toInt.toNat = o.length; omega
  rw [tc, stp_or hk ha] at r2
  refine ⟨?_, fun i z hi => ?_⟩
  · rw [r1, ap_len]
    show upd (F 195) T (F 195 T + 1) T = nI (o.length + 1)
    unfold upd
    rw [if_pos rfl, h1]
    exact nI_1 _
  · rw [r2, gA_flat (by decide) (fun j hj => by
      unfold upd gA
      rw [if_neg (by omega), if_neg (by omega)])]
    rw [List.getElem?_append] at hi
    unfold upd
    by_cases q : i < o.length
    · rw [if_pos q] at hi
      rw [if_neg (by omega)]
      exact h2 i z hi
    · rw [if_neg q] at hi
      have q2 : i = o.length := Classical.byContradiction fun w => by
        rw [List.getElem?_eq_none (by simp; omega)] at hi
        cases hi
      subst q2
      rw [Nat.sub_self] at hi
      have e : (k, a) = z := Option.some.inj hi
      rw [← e, if_pos rfl]
      exact ⟨hk, ha, rfl⟩
theorem ZSo.add {k a : Nat} (h : ZSo T N c I F x) (hw : ∀ z : Nat × OutT, x = .ok z → z.2.length + 1 ≤ z.1) (hN : N ≤ 160) (e9 : F 199 T = nI N) (hk : k ≤ 13) (ha : a < 1048576) (r : addR T (nI k) (nI a) F F2) : ZSo T N c I F2 (resB x (fun q o => .ok (q, o ++ [(k, a)]))) := by
  cases x with
  | error e => exact h
  | ok z =>
    obtain ⟨a1, a2, a3, a4, a5, a6⟩ := h
    have w := hw z rfl
    exact ⟨a1, a2, a3, a4, a5.add (by omega) hN e9 hk ha r, by show (z.2 ++ [_]).length ≤ z.1; rw [ap_len]; exact w⟩
def aimR (T j : Nat) (F F2 : Nat → Nat → Int32) : Prop := ∀ m : Nat, (F 199 T).toInt = (m : Int) → j < m → m ≤ 160 → F2 301 = flat (F 301) 200 T (upd (gA (F 301) 200 T) j ((gA (F 301) 200 T j &&& (-1048576)) ||| F 195 T))
theorem SAYx.pt {o : OutT} {j : Nat} (h : SAYx T F o) (hl : o.length ≤ N) (hj : j < o.length) (hN : N ≤ 160) (e9 : F 199 T = nI N) (e1 : F2 195 = F 195) (r : aimR T j F F2) : SAYx T F2 (aim o j) := by
  obtain ⟨h1, h2⟩ := h
  have t2 : (F 199 T).toInt = (N : Int) := by rw [e9, nI_toInt (by omega)]
  have r2 := r N t2 (by omega) hN
  obtain ⟨y, hy⟩ : ∃ y, o[j]? = some y := ⟨o[j], List.getElem?_eq_getElem hj⟩
  have g := h2 j y hy
  rw [g.2.2, h1, stp_and g.1 g.2.1 (by omega)] at r2
  unfold aim
  rw [hy]
  refine ⟨?_, fun i z hi => ?_⟩
  · rw [e1, List.length_set]
    exact h1
  · rw [r2, gA_flat (by decide) (fun q hq => by
      unfold upd gA
      rw [if_neg (by omega), if_neg (by omega)])]
    rw [List.getElem?_set] at hi
    unfold upd
    by_cases q : j = i
    · rw [if_pos q] at hi
      rw [if_pos q.symm]
      rw [if_pos hj] at hi
      have e := Option.some.inj hi
      rw [← e]
      exact ⟨g.1, by show o.length < 1048576; omega, rfl⟩
    · rw [if_neg q] at hi
      rw [if_neg (fun w => q w.symm)]
      exact h2 i z hi
end ZSS
def SL (s : Nat) (x : ResT) : Prop := ∀ z : Nat × OutT, x = .ok z → z.2.length + s ≤ z.1
def fInc : PceT := fun q o => .ok (q + 1, o)
def fAdd (k a : Nat) : PceT := fun q o => .ok (q, o ++ [(k, a)])
def fErr (k : Nat) : PceT := fun q _ => .error (1000 * k + q)
def fTk (b : Nat → Int32) (n : Nat) (s : Int32) : PceT := fun q o => if pk b n q = s then .ok (q + 1, o) else .error (1000 + q)
def fRel (b : Nat → Int32) (n : Nat) : PceT := fun q o => match rel (pk b n q) with
  | none => .error (1000 + q)
  | some _ => .ok (q + 1, o)
def fPt (P : PceT) (k : Nat) : PceT := fun q o => resB (P (q + 1) (o ++ [(k, 0)])) (fun q' o' => .ok (q', aim o' o.length))
/-- the byte that peek tells -/
def pkS (c : Nat → Nat) (b : Nat → Int32) : Int32 := if c 31 < c 32 then b (c 31) else -1
theorem pkS_of {c : Nat → Nat} {b : Nat → Int32} {r : Int32} (h : (c 31 < c 32 ∧ r = b (c 31)) ∨ (c 32 ≤ c 31 ∧ r.toInt = -1)) : r = pkS c b := by
  unfold pkS
  rcases h with ⟨h1, h2⟩ | ⟨h1, h2⟩
  · rw [if_pos h1]; exact h2
  · rw [if_neg (by omega)]; exact Int32.toInt_inj.mp h2
theorem pkS_lt {c : Nat → Nat} {b : Nat → Int32} (h : 0 ≤ (pkS c b).toInt) : c 31 < c 32 := Classical.byContradiction fun q => by
  unfold pkS at h
  rw [if_neg q] at h
  exact absurd h (by decide)
def FLRv (v0 : Int32) (c : Nat → Nat) (I : Nat → Int32) (c2 : Nat → Nat) (I2 : Nat → Int32) : Prop := c2 31 = c 31 ∧ ((I 33 = 0 ∧ I2 33 = 1000 * v0 + nI (c 31) ∧ c2 32 = c 31) ∨ (¬ I 33 = 0 ∧ I2 33 = I 33 ∧ c2 32 = c 32))
def TKR (v0 : Int32) (b : Nat → Int32) (c : Nat → Nat) (I : Nat → Int32) (c2 : Nat → Nat) (I2 : Nat → Int32) : Prop := (c 31 < c 32 ∧ b (c 31) = v0 ∧ c2 31 = c 31 + 1 ∧ c2 32 = c 32 ∧ I2 33 = I 33) ∨ (¬ (c 31 < c 32 ∧ b (c 31) = v0) ∧ FLRv 1 c I c2 I2)
def RLR (r : Int32) (b : Nat → Int32) (c : Nat → Nat) (I : Nat → Int32) (c2 : Nat → Nat) (I2 : Nat → Int32) : Prop := (∃ t : Nat, c 31 < c 32 ∧ rel (b (c 31)) = some t ∧ r = nI t ∧ c2 31 = c 31 + 1 ∧ c2 32 = c 32 ∧ I2 33 = I 33) ∨ (¬ (c 31 < c 32 ∧ ¬ rel (b (c 31)) = none) ∧ FLRv 1 c I c2 I2)
def aimRv (T : Nat) (v0 : Int32) (F F2 : Nat → Nat → Int32) : Prop := ∀ j : Nat, v0 = nI j → aimR T j F F2
theorem aimRv_of {T : Nat} {v0 : Int32} {F F2 : Nat → Nat → Int32} (e : F2 301 = flat (F 301) 200 T (putM (gA (F 301) 200 T) (F 199 T).toInt.toNat v0 ((atM (gA (F 301) 200 T) (F 199 T).toInt.toNat v0 &&& (-1048576)) ||| F 195 T))) : aimRv T v0 F F2 := fun j hj m hm h1 h2 => by
  subst hj
  have t : (nI j).toInt = (j : Int) := nI_toInt (by omega)
  rw [e]
  unfold putM atM
  rw [if_pos ⟨by omega, by omega⟩, if_pos ⟨by omega, by omega⟩, nI_clamp (by omega)]
theorem SL.inc {s : Nat} {x : ResT} (h : SL s x) : SL (s + 1) (resB x fInc) := fun z e => by
  cases x with
  | error e' => cases e
  | ok y =>
    have q := h y rfl
    have w : (y.1 + 1, y.2) = z := Except.ok.inj e
    rw [← w]
    show y.2.length + (s + 1) ≤ y.1 + 1
    omega
theorem SL.rule {s : Nat} {x : ResT} {P : PceT} (hP : LenP P) (h : SL s x) : SL s (resB x P) := fun z e => by
  cases x with
  | error e' => cases e
  | ok y =>
    have q := h y rfl
    have w := hP y.1 y.2 z e
    omega
theorem SL.add {s k a : Nat} {x : ResT} (h : SL (s + 1) x) : SL s (resB x (fAdd k a)) := fun z e => by
  cases x with
  | error e' => cases e
  | ok y =>
    have q := h y rfl
    have w : (y.1, y.2 ++ [(k, a)]) = z := Except.ok.inj e
    rw [← w]
    show (y.2 ++ [(k, a)]).length + s ≤ y.1
    rw [app_len]
    omega
theorem SL.rel {s n : Nat} {b : Nat → Int32} {x : ResT} (h : SL s x) : SL (s + 1) (resB x (fRel b n)) := fun z e => by
  cases x with
  | error e' => cases e
  | ok y =>
    have q := h y rfl
    have e2 : fRel b n y.1 y.2 = .ok z := e
    unfold fRel at e2
    split at e2
    · cases e2
    · have w : (y.1 + 1, y.2) = z := Except.ok.inj e2
      rw [← w]
      show y.2.length + (s + 1) ≤ y.1 + 1
      omega
theorem resB_z {z : Nat × OutT} {g : Nat → OutT → ResT} : resB (.ok z) g = g z.1 z.2 := rfl
section ZSX
variable {T N k : Nat} {c c2 : Nat → Nat} {I I2 : Nat → Int32} {F F2 : Nat → Nat → Int32} {x : ResT} {b : Nat → Int32} {S : SumT} {P : PceT} {s v0 v1 r : Int32}
theorem ZSo.sl (h : ZSo T N c I F x) : SL 0 x := fun z e => by
  subst e
  exact h.2.2.2.2.2
theorem ZSo.lt (h : ZSo T N c I F x) (l : c 31 < c 32) : ∃ z : Nat × OutT, x = .ok z ∧ c 31 = z.1 ∧ c 32 = N := by
  cases x with
  | error e => have a := h.2.2.2; omega
  | ok z => exact ⟨z, rfl, h.2.1, h.2.2.1⟩
theorem ZSo.pkx (h : ZSo T N c I F x) {z : Nat × OutT} (e : x = .ok z) : pk b N z.1 = pkS c b := by
  subst e
  obtain ⟨-, a2, a3, -⟩ := h
  unfold pk pkS
  rw [a2, a3]
theorem ZSo.endx (h : ZSo T N c I F x) (g : c 32 ≤ c 31) {z : Nat × OutT} (e : x = .ok z) : pk b N z.1 = -1 := by
  subst e
  obtain ⟨-, a2, a3, -⟩ := h
  exact pke_out (by omega)
theorem ZSo.incx (h : ZSo T N c I F x) (l : c 31 < c 32) (h31 : c2 31 = c 31 + 1) (h32 : c2 32 = c 32) (h33 : I2 33 = I 33) (e1 : F2 195 = F 195) (e2 : F2 301 = F 301) : ZSo T N c2 I2 F2 (resB x fInc) := by
  cases x with
  | error e => have a := h.2.2.2; omega
  | ok z =>
    obtain ⟨a1, a2, a3, a4, a5, a6⟩ := h
    exact ⟨h33.trans a1, by show c2 31 = z.1 + 1; omega, by omega, by show z.1 + 1 ≤ N; omega, a5.cg e1 e2, by show z.2.length ≤ z.1 + 1; omega⟩
theorem FLRv.kk (hv : v0 = nI k) (h : FLRv v0 c I c2 I2) : FLR k c I c2 I2 := by
  subst hv
  have e : (1000 : Int32) * nI k + nI (c 31) = nI (1000 * k + c 31) := by
    rw [show (1000 : Int32) = nI 1000 by decide, pk_mul, nI_add]
  unfold FLRv at h
  rw [e] at h
  exact h
theorem ZSo.failv (hv : v0 = nI k) (hk : 1 ≤ k ∧ k ≤ 5) (hN : N ≤ 160) (h : ZSo T N c I F x) (f : FLRv v0 c I c2 I2) : ZSo T N c2 I2 F2 (resB x (fErr k)) := ZSo.fail hk hN h (FLRv.kk hv f)
theorem ZSo.tk (hs : s ≠ -1) (hN : N ≤ 160) (h : ZSo T N c I F x) (t : TKR s b c I c2 I2) (e1 : F2 195 = F 195) (e2 : F2 301 = F 301) : ZSo T N c2 I2 F2 (resB x (fTk b N s)) := by
  rcases t with ⟨t1, t2, t3, t4, t5⟩ | ⟨t1, t2⟩
  · have g := h.incx t1 t3 t4 t5 e1 e2
    cases x with
    | error e => exact g
    | ok z =>
      have w : pk b N z.1 = s := (h.pkx rfl).trans (by unfold pkS; rw [if_pos t1]; exact t2)
      show ZSo T N c2 I2 F2 (if pk b N z.1 = s then _ else _)
      rw [if_pos w]
      exact g
  · have g := ZSo.failv (F2 := F2) (k := 1) rfl (by decide) hN h t2
    cases x with
    | error e => exact g
    | ok z =>
      have w : ¬ pk b N z.1 = s := fun q => by
        have q := (h.pkx rfl).symm.trans q
        unfold pkS at q
        split at q
        · next l => exact t1 ⟨l, q⟩
        · exact hs q.symm
      show ZSo T N c2 I2 F2 (if pk b N z.1 = s then _ else _)
      rw [if_neg w]
      exact g
theorem ZSo.relx (hN : N ≤ 160) (h : ZSo T N c I F x) (t : RLR r b c I c2 I2) (e1 : F2 195 = F 195) (e2 : F2 301 = F 301) : ZSo T N c2 I2 F2 (resB x (fRel b N)) := by
  rcases t with ⟨j, t1, t2, t3, t4, t5, t6⟩ | ⟨t1, t2⟩
  · have g := h.incx t1 t4 t5 t6 e1 e2
    cases x with
    | error e => exact g
    | ok z =>
      have w : rel (pk b N z.1) = some j := (congrArg rel ((h.pkx rfl).trans (by unfold pkS; rw [if_pos t1]))).trans t2
      show ZSo T N c2 I2 F2 (fRel b N z.1 z.2)
      unfold fRel
      rw [w]
      exact g
  · have g := ZSo.failv (F2 := F2) (k := 1) rfl (by decide) hN h t2
    cases x with
    | error e => exact g
    | ok z =>
      have w : rel (pk b N z.1) = none := by
        rw [h.pkx rfl]
        unfold pkS
        split
        · next l => exact Classical.byContradiction fun q => t1 ⟨l, q⟩
        · decide
      show ZSo T N c2 I2 F2 (fRel b N z.1 z.2)
      unfold fRel
      rw [w]
      exact g
theorem ZSo.relr (h : ZSo T N c I F x) (t : RLR r b c I c2 I2) : ∀ z : Nat × OutT, x = .ok z → ∀ j : Nat, rel (pk b N z.1) = some j → r = nI j := fun z e j hj => by
  rw [h.pkx e] at hj
  unfold pkS at hj
  rcases t with ⟨i, t1, t2, t3, -⟩ | ⟨t1, -⟩
  · rw [if_pos t1, t2] at hj
    rw [← Option.some.inj hj]
    exact t3
  · split at hj
    · next l => exact absurd ⟨l, by rw [hj]; exact fun q => by cases q⟩ t1
    · have w : rel (-1) = none := by decide
      rw [w] at hj
      cases hj
theorem ZSo.er {y : ResT} (h : ZSo T N c I F x) (hx : ∀ z : Nat × OutT, ¬ x = .ok z) (hy : ∀ e : Nat, x = .error e → y = .error e) (h31 : c2 31 = c 31) (h32 : c2 32 = c 32) (h33 : I2 33 = I 33) : ZSo T N c2 I2 F2 y := by
  cases x with
  | error e =>
    rw [hy e rfl]
    obtain ⟨a1, a2, a3, a4⟩ := h
    exact ⟨h33.trans a1, a2, a3, by omega⟩
  | ok z => exact absurd rfl (hx z)
theorem ZSo.addx {a : Nat} (h : ZSo T N c I F x) (sl : SL 1 x) (hN : N ≤ 160) (e9 : F 199 T = nI N) (hk : v0 = nI k ∧ k ≤ 13) (ha : v1 = nI a ∧ a < 1048576) (q : addR T v0 v1 F F2) (h31 : c2 31 = c 31) (h32 : c2 32 = c 32) (h33 : I2 33 = I 33) : ZSo T N c2 I2 F2 (resB x (fAdd k a)) := by
  obtain ⟨rfl, hk⟩ := hk
  obtain ⟨rfl, ha⟩ := ha
  have g := ZSo.add h (fun z e => sl z e) hN e9 hk ha q
  exact g.cg h31 h32 h33 rfl rfl
theorem ZSo.addj (h : ZSo T N c I F x) (q : r = F 195 T) : ∀ z : Nat × OutT, x = .ok z → r = nI z.2.length := fun z e => by
  subst e
  exact q.trans h.2.2.2.2.1.1
theorem ZSo.cmp (hN : N ≤ 160) (h : ZSo T N c I F (resB (resB (resB x (sm1 b N S)) (fRel b N)) (sm1 b N S))) (hr : ∀ z : Nat × OutT, resB x (sm1 b N S) = .ok z → ∀ j : Nat, rel (pk b N z.1) = some j → r = nI j) (sl : SL 1 (resB (resB (resB x (sm1 b N S)) (fRel b N)) (sm1 b N S))) (e9 : F 199 T = nI N) (q : addR T r 0 F F2) (h31 : c2 31 = c 31) (h32 : c2 32 = c 32) (h33 : I2 33 = I 33) : ZSo T N c2 I2 F2 (resB x (fun p o => resB (sm1 b N S p o) (fun q o' =>
  match rel (pk b N q) with
  | none => .error (1000 + q)
  | some t => resB (sm1 b N S (q + 1) o') (fun q o' => .ok (q, o' ++ [(t, 0)]))))) := by
  cases x with
  | error e => exact ZSo.er h (fun z w => by cases w) (fun e' w => w) h31 h32 h33
  | ok z =>
    have h' : ZSo T N c I F (resB (resB (sm1 b N S z.1 z.2) (fRel b N)) (sm1 b N S)) := h
    have sl' : SL 1 (resB (resB (sm1 b N S z.1 z.2) (fRel b N)) (sm1 b N S)) := sl
    have hr' : ∀ y : Nat × OutT, sm1 b N S z.1 z.2 = .ok y → ∀ j : Nat, rel (pk b N y.1) = some j → r = nI j := hr
    rw [resB_z]
    cases e : sm1 b N S z.1 z.2 with
    | error e' =>
      rw [e] at h'
      exact ZSo.er h' (fun z w => by cases w) (fun e' w => w) h31 h32 h33
    | ok y =>
      rw [e] at h' sl'
      have h2 : ZSo T N c I F (resB (fRel b N y.1 y.2) (sm1 b N S)) := h'
      have sl2 : SL 1 (resB (fRel b N y.1 y.2) (sm1 b N S)) := sl'
      unfold fRel at h2 sl2
      show ZSo T N c2 I2 F2 (match rel (pk b N y.1) with
        | none => .error (1000 + y.1)
        | some t => resB (sm1 b N S (y.1 + 1) y.2) (fun q o' => .ok (q, o' ++ [(t, 0)])))
      cases e2 : rel (pk b N y.1) with
      | none =>
        rw [e2] at h2
        exact ZSo.er h2 (fun z w => by cases w) (fun e' w => w) h31 h32 h33
      | some t =>
        rw [e2] at h2 sl2
        have e3 := hr' y e t e2
        have t13 : t ≤ 13 := by
          unfold rel at e2
          split at e2
          · rw [← Option.some.inj e2]; decide
          · split at e2
            · rw [← Option.some.inj e2]; decide
            · split at e2
              · rw [← Option.some.inj e2]; decide
              · cases e2
        exact ZSo.addx h2 sl2 hN e9 ⟨e3, t13⟩ ⟨show (0 : Int32) = nI 0 by decide, by decide⟩ q h31 h32 h33
theorem ZSo.aimx (hN : N ≤ 160) (hP : LenP P) (h : ZSo T N c I F (resB (resB (resB x fInc) (fAdd k 0)) P)) (hj : ∀ z : Nat × OutT, x = .ok z → v0 = nI z.2.length) (e9 : F 199 T = nI N) (q : aimRv T v0 F F2) (e1 : F2 195 = F 195) (h31 : c2 31 = c 31) (h32 : c2 32 = c 32) (h33 : I2 33 = I 33) : ZSo T N c2 I2 F2 (resB x (fPt P k)) := by
  cases x with
  | error e => exact ZSo.er h (fun z w => by cases w) (fun e' w => w) h31 h32 h33
  | ok z =>
    have h' : ZSo T N c I F (P (z.1 + 1) (z.2 ++ [(k, 0)])) := h
    rw [resB_z]
    unfold fPt
    cases e : P (z.1 + 1) (z.2 ++ [(k, 0)]) with
    | error e' =>
      rw [e] at h'
      exact ZSo.er h' (fun z w => by cases w) (fun e' w => w) h31 h32 h33
    | ok y =>
      have w := (hP _ _ _ e).2
      rw [app_len] at w
      rw [e] at h'
      obtain ⟨a1, a2, a3, a4, a5, a6⟩ := h'
      exact ⟨h33.trans a1, by show c2 31 = y.1; omega, by omega, a4, a5.pt (by omega) (by omega) hN e9 e1 (q _ (hj z rfl)), by show (aim y.2 z.2.length).length ≤ y.1; rw [aim_len]; exact a6⟩
end ZSX
section GO
variable {b : Nat → Int32} {n t : Nat} {S : SumT} {P : PceT} {y : ResT}
theorem trm_go (hS : Mono S) (hk : ∀ z : Nat × OutT, y = .ok z → tms (pk b n z.1) = some t) : resB (resB (resB (resB y fInc) (facL b n S)) (fAdd t 0)) (trmL b n S (n + 1)) = resB y (trmL b n S (n + 1)) := by
  cases y with
  | error e => rfl
  | ok z =>
    have c := hk z rfl
    show resB (resB (facL b n S (z.1 + 1) z.2) (fAdd t 0)) (trmL b n S (n + 1)) = trmL b n S (n + 1) z.1 z.2
    conv => rhs; unfold trmL
    rw [c, resB_assoc]
    exact resB_cg (fun q e => trmL_ir hS (n + 1) n q.1 _ (by omega) (by omega))
theorem trm_end (hk : ∀ z : Nat × OutT, y = .ok z → tms (pk b n z.1) = none) : resB y (trmL b n S (n + 1)) = y := by
  cases y with
  | error e => rfl
  | ok z =>
    show trmL b n S (n + 1) z.1 z.2 = .ok z
    unfold trmL
    rw [hk z rfl]
theorem sm_go (hS : Mono S) (hk : ∀ z : Nat × OutT, y = .ok z → pls (pk b n z.1) = some t) : resB (resB (resB (resB y fInc) (trm b n S)) (fAdd t 0)) (smL b n S (n + 1)) = resB y (smL b n S (n + 1)) := by
  cases y with
  | error e => rfl
  | ok z =>
    have c := hk z rfl
    show resB (resB (trm b n S (z.1 + 1) z.2) (fAdd t 0)) (smL b n S (n + 1)) = smL b n S (n + 1) z.1 z.2
    conv => rhs; unfold smL
    rw [c, resB_assoc]
    exact resB_cg (fun q e => smL_ir hS (n + 1) n q.1 _ (by omega) (by omega))
theorem sm_end (hk : ∀ z : Nat × OutT, y = .ok z → pls (pk b n z.1) = none) : resB y (smL b n S (n + 1)) = y := by
  cases y with
  | error e => rfl
  | ok z =>
    show smL b n S (n + 1) z.1 z.2 = .ok z
    unfold smL
    rw [hk z rfl]
theorem pt_go (hP : MonP P) (hk : ∀ z : Nat × OutT, y = .ok z → pk b n z.1 = 38) : resB (resB y (fPt P 12)) (ptL b n P (n + 1)) = resB y (ptL b n P (n + 1)) := by
  cases y with
  | error e => rfl
  | ok z =>
    have c := hk z rfl
    rw [resB_z, resB_z]
    unfold fPt
    conv => rhs; unfold ptL
    rw [if_pos c, resB_assoc]
    exact resB_cg (fun q e => ptL_ir hP (n + 1) n q.1 _ (by omega) (by omega))
theorem pt_end (hk : ∀ z : Nat × OutT, y = .ok z → ¬ pk b n z.1 = 38) : resB y (ptL b n P (n + 1)) = y := by
  cases y with
  | error e => rfl
  | ok z =>
    show ptL b n P (n + 1) z.1 z.2 = .ok z
    unfold ptL
    rw [if_neg (hk z rfl)]
theorem cd_go (hP : MonP P) (hk : ∀ z : Nat × OutT, y = .ok z → pk b n z.1 = 124) : resB (resB y (fPt (ptK b n P) 13)) (cdL b n P (n + 1)) = resB y (cdL b n P (n + 1)) := by
  cases y with
  | error e => rfl
  | ok z =>
    have c := hk z rfl
    rw [resB_z, resB_z]
    unfold fPt
    conv => rhs; unfold cdL
    rw [if_pos c, resB_assoc]
    exact resB_cg (fun q e => cdL_ir hP (n + 1) n q.1 _ (by omega) (by omega))
theorem cd_end (hk : ∀ z : Nat × OutT, y = .ok z → ¬ pk b n z.1 = 124) : resB y (cdL b n P (n + 1)) = y := by
  cases y with
  | error e => rfl
  | ok z =>
    show cdL b n P (n + 1) z.1 z.2 = .ok z
    unfold cdL
    rw [if_neg (hk z rfl)]
theorem atm_num {p q f v : Nat} {o : OutT} (e : numL b n f q v = numL b n 6 p 0) (hf : f = 0 ∨ ¬ (48 ≤ (pk b n q).toInt ∧ (pk b n q).toInt ≤ 57)) (hd : 48 ≤ (pk b n p).toInt ∧ (pk b n p).toInt ≤ 57) : atmL b n p o = if 48 ≤ (pk b n q).toInt ∧ (pk b n q).toInt ≤ 57 then .error (2000 + q) else .ok (q, o ++ [(1, v)]) := by
  have e2 : numL b n 6 p 0 = (q, v) := by
    rw [← e]
    cases f with
    | zero => rfl
    | succ f =>
      unfold numL
      rw [if_neg (by rcases hf with h | h; cases h; exact h)]
  unfold atmL
  rw [if_pos hd, e2]
theorem num_step {p f v : Nat} (hd : 48 ≤ (pk b n p).toInt ∧ (pk b n p).toInt ≤ 57) : numL b n f (p + 1) (10 * v + ((pk b n p).toInt.toNat - 48)) = numL b n (f + 1) p v := by
  conv => rhs; unfold numL
  rw [if_pos hd]
end GO
theorem dig_add {a : Nat} {P : Int32} (h : 48 ≤ P.toInt ∧ P.toInt ≤ 57) : nI a + P - 48 = nI (a + (P.toInt.toNat - 48)) := by
  have e : P = nI (48 + (P.toInt.toNat - 48)) := by
    apply Int32.toInt_inj.mp
    rw [nI_toInt (by omega)]
    omega
  generalize P.toInt.toNat - 48 = k at e
  rw [e, nI_add, show a + (48 + k) = 48 + (a + k) by omega, ← nI_add, show nI 48 = (48 : Int32) by decide, Int32.add_comm]
  exact Int32.add_sub_cancel _ _
/-- the string's bytes are those of the letters -/
def BTL (bt : Nat → Int32) : Prop := bt 0 = 113 ∧ bt 1 = 102 ∧ bt 2 = 97 ∧ bt 3 = 100 ∧ bt 4 = 119 ∧ bt 5 = 103 ∧ bt 6 = 107 ∧ bt 7 = 109 ∧ bt 8 = 115 ∧ bt 9 = 111 ∧ bt 10 = 110
def IXP (bt : Nat → Int32) (v0 r : Int32) : Prop := (r = -1 ∧ ∀ j : Nat, j < 11 → ¬ bt j = v0.toInt8.toInt32) ∨ ∃ j : Nat, j < 11 ∧ r = nI j ∧ bt j = v0.toInt8.toInt32
theorem byte_of {v : Int32} {k : Int} (h0 : 0 ≤ v.toInt ∧ v.toInt ≤ 255) (hk : 0 ≤ k ∧ k ≤ 127) (h : v.toInt8.toInt32.toInt = k) : v.toInt = k := by
  have e : v.toInt8.toInt32.toInt = v.toInt.bmod 256 := by
    rw [Int8.toInt_toInt32, Int32.toInt_toInt8]
  rw [e] at h
  have b := Int.bmod_def v.toInt 256
  rw [h] at b
  split at b <;> omega
theorem ltr_ix {bt : Nat → Int32} {v0 r : Int32} (hbt : BTL bt) (h0 : 0 ≤ v0.toInt ∧ v0.toInt ≤ 255) (h : IXP bt v0 r) : (r = -1 ∧ ltr v0 = none) ∨ ∃ j : Nat, j < 11 ∧ r = nI j ∧ ltr v0 = some j := by
  obtain ⟨b0, b1, b2, b3, b4, b5, b6, b7, b8, b9, b10⟩ := hbt
  rcases h with ⟨h1, h2⟩ | ⟨j, hj, h1, h2⟩
  · refine Or.inl ⟨h1, ?_⟩
    have g : ∀ (j : Nat) (k : Int32), j < 11 → bt j = k → k.toInt8.toInt32 = k → ¬ v0 = k := fun j k hj hb hk q => h2 j hj (by rw [hb, q, hk])
    unfold ltr
    rw [if_neg (g 0 _ (by decide) b0 (by decide)), if_neg (g 1 _ (by decide) b1 (by decide)), if_neg (g 2 _ (by decide) b2 (by decide)), if_neg (g 3 _ (by decide) b3 (by decide)), if_neg (g 4 _ (by decide) b4 (by decide)), if_neg (g 5 _ (by decide) b5 (by decide)), if_neg (g 6 _ (by decide) b6 (by decide)), if_neg (g 7 _ (by decide) b7 (by decide)), if_neg (g 8 _ (by decide) b8 (by decide)), if_neg (g 9 _ (by decide) b9 (by decide)), if_neg (g 10 _ (by decide) b10 (by decide))]
  · refine Or.inr ⟨j, hj, h1, ?_⟩
    have g : ∀ k : Int32, bt j = k → 0 ≤ k.toInt ∧ k.toInt ≤ 127 → v0 = k := fun k hb hk => Int32.toInt_inj.mp (byte_of h0 hk (by rw [← h2, hb]))
    match j, hj with
    | 0, _ => rw [g _ b0 (by decide)]; decide
    | 1, _ => rw [g _ b1 (by decide)]; decide
    | 2, _ => rw [g _ b2 (by decide)]; decide
    | 3, _ => rw [g _ b3 (by decide)]; decide
    | 4, _ => rw [g _ b4 (by decide)]; decide
    | 5, _ => rw [g _ b5 (by decide)]; decide
    | 6, _ => rw [g _ b6 (by decide)]; decide
    | 7, _ => rw [g _ b7 (by decide)]; decide
    | 8, _ => rw [g _ b8 (by decide)]; decide
    | 9, _ => rw [g _ b9 (by decide)]; decide
    | 10, _ => rw [g _ b10 (by decide)]; decide
theorem i2c_id {r : Int32} (h : 0 ≤ r.toInt ∧ r.toInt ≤ 255) : (r.toUInt32 % 65536).toInt32 = r := by
  apply Int32.toBitVec_inj.mp
  apply BitVec.eq_of_toNat_eq
  have e : r.toInt = r.toBitVec.toInt := rfl
  have w := BitVec.toInt_eq_toNat_cond r.toBitVec
  show (r.toBitVec % (65536 : UInt32).toBitVec).toNat = r.toBitVec.toNat
  rw [BitVec.toNat_umod]
  have z : (65536 : UInt32).toBitVec.toNat = 65536 := rfl
  rw [z]
  have l := r.toBitVec.isLt
  apply Nat.mod_eq_of_lt
  split at w <;> omega
/-- but for text T the class's texts are as they were -/
def KPT (T : Nat) (G F : Nat → Nat → Int32) : Prop := ∀ k : Nat, ¬ k = T → F 195 k = G 195 k ∧ F 198 k = G 198 k ∧ gA (F 301) 200 k = gA (G 301) 200 k ∧ gA (F 302) 12 k = gA (G 302) 12 k ∧ gA (F 303) 12 k = gA (G 303) 12 k ∧ gA (F 304) 12 k = gA (G 304) 12 k
/-- the class's reader stands where x says, and what it has not read is as it was -/
def ZS (G : Nat → Nat → Int32) (T N : Nat) (c : Nat → Nat) (I : Nat → Int32) (F : Nat → Nat → Int32) (x : ResT) : Prop := ZSo T N c I F x ∧ KPT T G F
section KPTS
theorem gA_ne {f w : Nat → Int32} {st T k : Nat} (hs : 0 < st) (h : ¬ k = T) : gA (flat f st T w) st k = gA f st k := funext fun j => by
  unfold gA flat
  by_cases q : j < st
  · rw [if_pos q, if_pos q, if_neg (by
      intro e
      have d : (st * k + j) / st = k := by rw [Nat.mul_add_div hs, Nat.div_eq_of_lt q, Nat.add_zero]
      omega)]
  · rw [if_neg q, if_neg q]
variable {G F F2 F3 : Nat → Nat → Int32} {T N k a j : Nat} {c c2 : Nat → Nat} {I I2 : Nat → Int32} {x : ResT} {b : Nat → Int32} {v0 v1 r s : Int32} {S : SumT} {P : PceT}
theorem KPT.rf : KPT T G G := fun _ _ => ⟨rfl, rfl, rfl, rfl, rfl, rfl⟩
theorem KPT.tr (h : KPT T G F) (h2 : KPT T F F2) : KPT T G F2 := fun k hk => by
  obtain ⟨a1, a2, a3, a4, a5, a6⟩ := h k hk
  obtain ⟨b1, b2, b3, b4, b5, b6⟩ := h2 k hk
  exact ⟨b1.trans a1, b2.trans a2, b3.trans a3, b4.trans a4, b5.trans a5, b6.trans a6⟩
theorem KPT.of (e195 : F2 195 = F 195 ∨ ∃ v, F2 195 = upd (F 195) T v) (e198 : F2 198 = F 198 ∨ ∃ v, F2 198 = upd (F 198) T v) (e301 : F2 301 = F 301 ∨ ∃ w, F2 301 = flat (F 301) 200 T w) (e302 : F2 302 = F 302 ∨ ∃ w, F2 302 = flat (F 302) 12 T w) (e303 : F2 303 = F 303 ∨ ∃ w, F2 303 = flat (F 303) 12 T w) (e304 : F2 304 = F 304 ∨ ∃ w, F2 304 = flat (F 304) 12 T w) : KPT T F F2 := fun k hk => by
  have u : ∀ {f g : Nat → Int32}, (g = f ∨ ∃ v, g = upd f T v) → g k = f k := fun h => by
    rcases h with h | ⟨v, h⟩
    · rw [h]
    · rw [h]
      exact if_neg hk
  have w : ∀ {f g : Nat → Int32} {st : Nat}, 0 < st → (g = f ∨ ∃ v, g = flat f st T v) → gA g st k = gA f st k := fun hs h => by
    rcases h with h | ⟨v, h⟩
    · rw [h]
    · rw [h]
      exact gA_ne hs hk
  exact ⟨u e195, u e198, w (by decide) e301, w (by decide) e302, w (by decide) e303, w (by decide) e304⟩
theorem ZS.sl (h : ZS G T N c I F x) : SL 0 x := ZSo.sl h.1
theorem ZS.lt (h : ZS G T N c I F x) (l : c 31 < c 32) : ∃ z : Nat × OutT, x = .ok z ∧ c 31 = z.1 ∧ c 32 = N := ZSo.lt h.1 l
theorem ZS.pkx (h : ZS G T N c I F x) {z : Nat × OutT} (e : x = .ok z) : pk b N z.1 = pkS c b := ZSo.pkx h.1 e
theorem ZS.endx (h : ZS G T N c I F x) (g : c 32 ≤ c 31) {z : Nat × OutT} (e : x = .ok z) : pk b N z.1 = -1 := ZSo.endx h.1 g e
theorem ZS.incx (h : ZS G T N c I F x) (l : c 31 < c 32) (h31 : c2 31 = c 31 + 1) (h32 : c2 32 = c 32) (h33 : I2 33 = I 33) : ZS G T N c2 I2 F (resB x fInc) := ⟨ZSo.incx h.1 l h31 h32 h33 rfl rfl, h.2⟩
theorem ZS.failv (hv : v0 = nI k) (hk : 1 ≤ k ∧ k ≤ 5) (hN : N ≤ 160) (h : ZS G T N c I F x) (f : FLRv v0 c I c2 I2) : ZS G T N c2 I2 F (resB x (fErr k)) := ⟨ZSo.failv hv hk hN h.1 f, h.2⟩
theorem ZS.tk (hs : s ≠ -1) (hN : N ≤ 160) (h : ZS G T N c I F x) (t : TKR s b c I c2 I2) : ZS G T N c2 I2 F (resB x (fTk b N s)) := ⟨ZSo.tk hs hN h.1 t rfl rfl, h.2⟩
theorem ZS.relx (hN : N ≤ 160) (h : ZS G T N c I F x) (t : RLR r b c I c2 I2) : ZS G T N c2 I2 F (resB x (fRel b N)) := ⟨ZSo.relx hN h.1 t rfl rfl, h.2⟩
theorem ZS.relr (h : ZS G T N c I F x) (t : RLR r b c I c2 I2) : ∀ z : Nat × OutT, x = .ok z → ∀ j : Nat, rel (pk b N z.1) = some j → r = nI j := ZSo.relr h.1 t
theorem ZS.er {y : ResT} (kp : KPT T F F2) (h : ZS G T N c I F x) (hx : ∀ z : Nat × OutT, ¬ x = .ok z) (hy : ∀ e : Nat, x = .error e → y = .error e) (h31 : c2 31 = c 31) (h32 : c2 32 = c 32) (h33 : I2 33 = I 33) : ZS G T N c2 I2 F2 y := ⟨ZSo.er h.1 hx hy h31 h32 h33, h.2.tr kp⟩
theorem ZS.addx {a : Nat} (kp : KPT T F F2) (h : ZS G T N c I F x) (sl : SL 1 x) (hN : N ≤ 160) (e9 : F 199 T = nI N) (hk : v0 = nI k ∧ k ≤ 13) (ha : v1 = nI a ∧ a < 1048576) (q : addR T v0 v1 F F2) (h31 : c2 31 = c 31) (h32 : c2 32 = c 32) (h33 : I2 33 = I 33) : ZS G T N c2 I2 F2 (resB x (fAdd k a)) := ⟨ZSo.addx h.1 sl hN e9 hk ha q h31 h32 h33, h.2.tr kp⟩
theorem ZS.addj (h : ZS G T N c I F x) (q : r = F 195 T) : ∀ z : Nat × OutT, x = .ok z → r = nI z.2.length := ZSo.addj h.1 q
theorem ZS.cgx (kp : KPT T F F2) (h : ZS G T N c I F x) (h31 : c2 31 = c 31) (h32 : c2 32 = c 32) (h33 : I2 33 = I 33) (e1 : F2 195 = F 195) (e2 : F2 301 = F 301) : ZS G T N c2 I2 F2 x := ⟨ZSo.cg h.1 h31 h32 h33 e1 e2, h.2.tr kp⟩
theorem ZS.cmp (kp : KPT T F F2) (hN : N ≤ 160) (h : ZS G T N c I F (resB (resB (resB x (sm1 b N S)) (fRel b N)) (sm1 b N S))) (hr : ∀ z : Nat × OutT, resB x (sm1 b N S) = .ok z → ∀ j : Nat, rel (pk b N z.1) = some j → r = nI j) (sl : SL 1 (resB (resB (resB x (sm1 b N S)) (fRel b N)) (sm1 b N S))) (e9 : F 199 T = nI N) (q : addR T r 0 F F2) (h31 : c2 31 = c 31) (h32 : c2 32 = c 32) (h33 : I2 33 = I 33) : ZS G T N c2 I2 F2 (resB x (fun p o => resB (sm1 b N S p o) (fun q o' =>
  match rel (pk b N q) with
  | none => .error (1000 + q)
  | some t => resB (sm1 b N S (q + 1) o') (fun q o' => .ok (q, o' ++ [(t, 0)]))))) := ⟨ZSo.cmp hN h.1 hr sl e9 q h31 h32 h33, h.2.tr kp⟩
theorem ZS.aimx (kp : KPT T F F2) (hN : N ≤ 160) (hP : LenP P) (h : ZS G T N c I F (resB (resB (resB x fInc) (fAdd k 0)) P)) (hj : ∀ z : Nat × OutT, x = .ok z → v0 = nI z.2.length) (e9 : F 199 T = nI N) (q : aimRv T v0 F F2) (e1 : F2 195 = F 195) (h31 : c2 31 = c 31) (h32 : c2 32 = c 32) (h33 : I2 33 = I 33) : ZS G T N c2 I2 F2 (resB x (fPt P k)) := ⟨ZSo.aimx hN hP h.1 hj e9 q e1 h31 h32 h33, h.2.tr kp⟩
end KPTS
/-- what a rule of the grammar keeps and reads -/
def RDZ (y : MethodName) (b : ByteArray) (n : Nat) (l : Launch) (D : va_G) (cI cB cZ : ClassId) (zz qq vv : Nat) (bt : Nat → Int32) (g : Nat → Nat) (o : Int32) (d : Nat) (SP : (Nat → Int32) → Nat → PceT) : Prop := ∀ (ad : Nat → Nat → Nat) (cn : Nat → Nat) (In : Nat → Int32) (Fn : Nat → Nat → Int32) (G : Nat → Nat → Int32) (bb : Nat → Int32) (N : Nat) (x : ResT) (sz : Nat), CBX cn → ad 4 2 = g 40 → ad 4 1 < cn 6 → cn 31 ≤ cn 32 → cn 32 ≤ 160 → (Fn 199 (ad 4 1)).toInt ≤ 160 → (Fn 199 (ad 4 1) = nI N) → (N ≤ 160) → (Fn 40 = bb) → (∀ k : Nat, k < 160 → 0 ≤ (bb k).toInt ∧ (bb k).toInt ≤ 255) → (ZS G (ad 4 1) N cn In Fn x) → Met l y (CWS y b n none) (RM d 0 0) (PBx [.ref (g 6), .int o] D cI cB cZ zz qq vv bt (wX cI (D.1 99) zz g ad cn In Fn) sz) (va_Qv (fun (u : (Nat → Nat) × (Nat → Int32) × (Nat → Nat → Int32)) => (fun c2 I2 F2 => Fr [31, 32] [33] [195, 301] cn In Fn c2 I2 F2 ∧ CBX c2 ∧ ((cn 31 ≤ c2 31 ∧ c2 31 ≤ c2 32 ∧ c2 32 ≤ cn 32) ∧ ZS G (ad 4 1) N c2 I2 F2 (resB x (SP bb N)))) u.1 u.2.1 u.2.2) (fun (u : (Nat → Nat) × (Nat → Int32) × (Nat → Nat → Int32)) (t : State) => va_P D vwCl (wX cI (D.1 99) zz g ad u.1 u.2.1 u.2.2) t.heap ∧ va_D (va_A (wX cI (D.1 99) zz g ad cn In Fn) sz) (wX cI (D.1 99) zz g ad u.1 u.2.1 u.2.2)) (va_A (wX cI (D.1 99) zz g ad cn In Fn) sz)) 0 0 (va_A (wX cI (D.1 99) zz g ad cn In Fn) sz)



set_option maxRecDepth 100000 in
set_option maxHeartbeats 4000000 in
theorem q_Zfail (l : Launch) (D : va_G) (cI cB cZ : ClassId) (zz qq vv : Nat) (bt : Nat → Int32) (g : Nat → Nat) (ad : Nat → Nat → Nat) (cn : Nat → Nat) (In : Nat → Int32) (Fn : Nat → Nat → Int32) (v0 : Int32) (sz : Nat) (hB : CBX cn) (hR : ad 4 2 = g 40) (h1 : ad 4 1 < cn 6) (h3 : cn 31 ≤ cn 32) (h4 : cn 32 ≤ 160) : Met l yX5_fail (CWS yX5_fail cX5_fail 2 none) (RM 0 0 0) (PBx [.ref (g 6), .int v0] D cI cB cZ zz qq vv bt (wX cI (D.1 99) zz g ad cn In Fn) sz) (va_Qv (fun (u : (Nat → Nat) × (Nat → Int32) × (Nat → Nat → Int32)) => (fun c2 I2 F2 => Fr [32] [33] [] cn In Fn c2 I2 F2 ∧ CBX c2 ∧ ((c2 31 = cn 31 ∧ cn 31 ≤ c2 32 ∧ c2 32 ≤ cn 32) ∧ FLRv v0 cn In c2 I2)) u.1 u.2.1 u.2.2) (fun (u : (Nat → Nat) × (Nat → Int32) × (Nat → Nat → Int32)) (t : State) => va_P D vwCl (wX cI (D.1 99) zz g ad u.1 u.2.1 u.2.2) t.heap ∧ va_D (va_A (wX cI (D.1 99) zz g ad cn In Fn) sz) (wX cI (D.1 99) zz g ad u.1 u.2.1 u.2.2)) (va_A (wX cI (D.1 99) zz g ad cn In Fn) sz)) 0 0 (va_A (wX cI (D.1 99) zz g ad cn In Fn) sz) := by
  refine en_x (fun A => (va_Qv (fun (u : (Nat → Nat) × (Nat → Int32) × (Nat → Nat → Int32)) => (fun (c2 : Nat → Nat) (I2 : Nat → Int32) (F2 : Nat → Nat → Int32) => Fr [32] [33] [] cn In Fn c2 I2 F2 ∧ CBX c2 ∧ ((c2 31 = cn 31 ∧ cn 31 ≤ c2 32 ∧ c2 32 ≤ cn 32) ∧ FLRv v0 cn In c2 I2)) u.1 u.2.1 u.2.2) (fun (u : (Nat → Nat) × (Nat → Int32) × (Nat → Nat → Int32)) (t : State) => va_P D vwCl (wX cI (D.1 99) zz g ad u.1 u.2.1 u.2.2) t.heap ∧ va_D A (wX cI (D.1 99) zz g ad u.1 u.2.1 u.2.2)) A)) rfl rfl pn_RX5 (Nat.le_of_ble_eq_true rfl) (fun p e s m below meth c A hx hb hml hown S hr hlocks hnm hA hP hK hD hXS hS ls hl => ?_)
  have hl : lv_has ls 2 [(0, .ref (g 6)), (1, .int v0)] := hl
  replace hB : CBXh cn := hB
  refine lv_aload_n hx hb (oc_42 0 shX5_fail_0) rfl (lvA0 hl) ?_
  refine gf_RX5_37 S hK hP 3 xo_3 (v := .int (In 33)) rfl (oc_180 1 (aq_1 shX5_fail_0) uw_0_37) ?_
  refine lv_if_ne (tgt := 29) hx hb (oc_154 4 (aq_4 shX5_fail_0) sgw_0_25) rfl (fun c_1 => ?_) (fun c_1 => ?_)
  ·
    have tc_1 : ((In 33).toInt : Int) ≠ 0 := fun q => c_1 (Int32.toInt_inj.mp q)
    exact W.vret hx hb hr (fun t ht hW => ⟨⟨(cn, In, Fn), rfl, ⟨(Fr.mo Fr.rf (sbl rfl) (sbl rfl) (sbl rfl)), hB, (by show (cn 31 = cn 31 ∧ cn 31 ≤ cn 32 ∧ cn 32 ≤ cn 32) ∧ FLRv v0 cn In cn In; exact ⟨by show (cn 31) = cn 31 ∧ cn 31 ≤ (cn 32) ∧ (cn 32) ≤ cn 32; omega, (by first | exact ⟨rfl, Or.inr ⟨fun q => tc_1 (congrArg Int32.toInt q), rfl, rfl⟩⟩ | exact ⟨rfl, Or.inl ⟨Int32.toInt_inj.mp tc_1, rfl, rfl⟩⟩)⟩)⟩, by rw [ht]; exact hP, hD⟩, hS.F ht⟩) hS.2.2 dX5_fail_29
  ·
    have tc_1 : ((In 33).toInt : Int) = 0 := congrArg Int32.toInt c_1
    refine lv_aload_n hx hb (oc_42 7 (aq_7 shX5_fail_0)) rfl (lvA0 hl) ?_
    refine lv_sipush (v := 1000) hx hb (oc_17 8 (aq_8 shX5_fail_0) sgw_3_232) (by decide) ?_
    refine lv_iload_n hx hb (oc_27 11 (aq_11 shX5_fail_0)) rfl (lvA1 hl) ?_
    refine lv_imul hx hb (oc_104 12 (aq_12 shX5_fail_0)) ?_
    refine lv_aload_n hx hb (oc_42 13 (aq_13 shX5_fail_0)) rfl (lvA0 hl) ?_
    refine gf_RX5_31 S hK hP 3 xo_3 (v := .int (nI (cn 31))) rfl (oc_180 14 (aq_14 shX5_fail_0) uw_0_31) ?_
    refine lv_iadd hx hb (oc_96 17 (aq_17 shX5_fail_0)) ?_
    refine pf_RX5_37 S hK hP hD hS 3 xo_3 (v := .int ((1000 * v0) + (nI (cn 31)))) (Nat.le_of_ble_eq_true rfl) rfl rfl (oc_181 18 (aq_18 shX5_fail_0) uw_0_37) (fun H locs hP hD hS => ?_)
    have hP : va_P D vwCl (wX cI (D.1 99) zz g ad cn (va_up In 33 ((1000 * v0) + (nI (cn 31)))) Fn) H := va_P_eq (xsf_3_5) hP
    have hD : va_D A (wX cI (D.1 99) zz g ad cn (va_up In 33 ((1000 * v0) + (nI (cn 31)))) Fn) := va_D_eq (xsf_3_5) hD
    refine lv_aload_n hx hb (oc_42 21 (aq_21 shX5_fail_0)) rfl (lvA0 hl) ?_
    refine lv_aload_n hx hb (oc_42 22 (aq_22 shX5_fail_0)) rfl (lvA0 hl) ?_
    refine gf_RX5_31 S hK hP 3 xo_3 (v := .int (nI (cn 31))) rfl (oc_180 23 (aq_23 shX5_fail_0) uw_0_31) ?_
    refine pf_RX5_34 S hK hP hD hS 3 xo_3 (v := .int (nI (cn 31))) (Nat.le_of_ble_eq_true rfl) rfl rfl (oc_181 26 shX5_fail_26 uw_0_34) (fun H locs hP hD hS => ?_)
    have hP : va_P D vwCl (wX cI (D.1 99) zz g ad (va_up cn 32 (cn 31)) (va_up In 33 ((1000 * v0) + (nI (cn 31)))) Fn) H := va_P_eq (xsf_3_4) hP
    have hD : va_D A (wX cI (D.1 99) zz g ad (va_up cn 32 (cn 31)) (va_up In 33 ((1000 * v0) + (nI (cn 31)))) Fn) := va_D_eq (xsf_3_4) hD
    exact W.vret hx hb hr (fun t ht hW => ⟨⟨((va_up cn 32 (cn 31)), (va_up In 33 ((1000 * v0) + (nI (cn 31)))), Fn), rfl, ⟨(Fr.mo (Fr.i 33 (Fr.c 32 Fr.rf)) (sbl rfl) (sbl rfl) (sbl rfl)), (CBX.n (k := 32) (v := (cn 31)) hB (by decide)), (by show ((va_up cn 32 (cn 31)) 31 = cn 31 ∧ cn 31 ≤ (va_up cn 32 (cn 31)) 32 ∧ (va_up cn 32 (cn 31)) 32 ≤ cn 32) ∧ FLRv v0 cn In (va_up cn 32 (cn 31)) (va_up In 33 ((1000 * v0) + (nI (cn 31)))); exact ⟨by show (cn 31) = cn 31 ∧ cn 31 ≤ (cn 31) ∧ (cn 31) ≤ cn 32; omega, (by first | exact ⟨rfl, Or.inr ⟨fun q => tc_1 (congrArg Int32.toInt q), rfl, rfl⟩⟩ | exact ⟨rfl, Or.inl ⟨Int32.toInt_inj.mp tc_1, rfl, rfl⟩⟩)⟩)⟩, by rw [ht]; exact hP, hD⟩, hS.F ht⟩) hS.2.2 dX5_fail_29
set_option maxRecDepth 100000 in
set_option maxHeartbeats 4000000 in
theorem q_Ztake (l : Launch) (D : va_G) (cI cB cZ : ClassId) (zz qq vv : Nat) (bt : Nat → Int32) (g : Nat → Nat) (ad : Nat → Nat → Nat) (cn : Nat → Nat) (In : Nat → Int32) (Fn : Nat → Nat → Int32) (v0 : Int32) (sz : Nat) (hB : CBX cn) (hR : ad 4 2 = g 40) (h1 : ad 4 1 < cn 6) (h3 : cn 31 ≤ cn 32) (h4 : cn 32 ≤ 160) (h7 : 0 ≤ v0.toInt) : Met l yX5_take (CWS yX5_take cX5_take 2 none) (RM 1 0 0) (PBx [.ref (g 6), .int v0] D cI cB cZ zz qq vv bt (wX cI (D.1 99) zz g ad cn In Fn) sz) (va_Qv (fun (u : (Nat → Nat) × (Nat → Int32) × (Nat → Nat → Int32)) => (fun c2 I2 F2 => Fr [31, 32] [33] [] cn In Fn c2 I2 F2 ∧ CBX c2 ∧ ((cn 31 ≤ c2 31 ∧ c2 31 ≤ c2 32 ∧ c2 32 ≤ cn 32) ∧ TKR v0 (Fn 40) cn In c2 I2)) u.1 u.2.1 u.2.2) (fun (u : (Nat → Nat) × (Nat → Int32) × (Nat → Nat → Int32)) (t : State) => va_P D vwCl (wX cI (D.1 99) zz g ad u.1 u.2.1 u.2.2) t.heap ∧ va_D (va_A (wX cI (D.1 99) zz g ad cn In Fn) sz) (wX cI (D.1 99) zz g ad u.1 u.2.1 u.2.2)) (va_A (wX cI (D.1 99) zz g ad cn In Fn) sz)) 0 0 (va_A (wX cI (D.1 99) zz g ad cn In Fn) sz) := by
  refine en_x (fun A => (va_Qv (fun (u : (Nat → Nat) × (Nat → Int32) × (Nat → Nat → Int32)) => (fun (c2 : Nat → Nat) (I2 : Nat → Int32) (F2 : Nat → Nat → Int32) => Fr [31, 32] [33] [] cn In Fn c2 I2 F2 ∧ CBX c2 ∧ ((cn 31 ≤ c2 31 ∧ c2 31 ≤ c2 32 ∧ c2 32 ≤ cn 32) ∧ TKR v0 (Fn 40) cn In c2 I2)) u.1 u.2.1 u.2.2) (fun (u : (Nat → Nat) × (Nat → Int32) × (Nat → Nat → Int32)) (t : State) => va_P D vwCl (wX cI (D.1 99) zz g ad u.1 u.2.1 u.2.2) t.heap ∧ va_D A (wX cI (D.1 99) zz g ad u.1 u.2.1 u.2.2)) A)) rfl rfl pn_RX5 (Nat.le_of_ble_eq_true rfl) (fun p e s m below meth c A hx hb hml hown S hr hlocks hnm hA hP hK hD hXS hS ls hl => ?_)
  have hl : lv_has ls 2 [(0, .ref (g 6)), (1, .int v0)] := hl
  replace hB : CBXh cn := hB
  refine lv_aload_n hx hb (oc_42 0 shX5_take_0) rfl (lvA0 hl) ?_
  refine vp_callSi (runV_rxa (As := []) (rest := []) S (q_Rpeek l D cI cB cZ zz qq vv bt g ad cn In Fn  hB (by omega) (by omega) (by omega) (by omega)) kV_RX5_43 hK hXS hS hP 3 xo_3 rfl rfl ⟨Nat.le_of_ble_eq_true rfl, Nat.le_of_ble_eq_true rfl⟩ ⟨Nat.le_of_ble_eq_true rfl, Nat.le_of_ble_eq_true rfl⟩ rfl hl.1 rfl (Nat.le_of_ble_eq_true rfl) (oc_182 1 (aq_1 shX5_take_0) uw_0_43)) (fun r_1 h_2 => ?_)
  refine lv_iload_n hx hb (oc_27 4 (aq_4 shX5_take_0)) rfl (lvA1 hl) ?_
  refine lv_icmp_ne (tgt := 21) hx hb (oc_160 5 (aq_5 shX5_take_0) sgw_0_16) rfl (fun c_3 => ?_) (fun c_3 => ?_)
  ·
    have tc_3 : (r_1.toInt : Int) ≠ v0.toInt := fun q => c_3 (Int32.toInt_inj.mp q)
    refine lv_aload_n hx hb (oc_42 21 (aq_21 shX5_take_0)) rfl (lvA0 hl) ?_
    refine lv_iconst (v := 1) hx hb (oc_4 22 (aq_22 shX5_take_0)) kic_1 ?_
    have hFc := free_all hD hS hA
    refine va_callv (runV_xa (As := [.int 1]) (rest := []) S (q_Zfail l D cI cB cZ zz qq vv bt g ad cn In Fn 1 s.heap.size hB (by omega) (by omega) (by omega) (by omega)) kV_RX5_47 hK hXS hS hFc hP hD 3 xo_3 rfl rfl ⟨Nat.le_of_ble_eq_true rfl, Nat.le_of_ble_eq_true rfl⟩ ⟨Nat.le_of_ble_eq_true rfl, Nat.le_of_ble_eq_true rfl⟩ rfl hl.1 rfl (Nat.le_of_ble_eq_true rfl) (oc_182 23 (aq_23 shX5_take_0) uw_0_47)) hS (fun q _ h => hFc q h) hFc (fun u t H1 locs ht hvm wh_5 hB1 hz1 hk1 hS => ?_)
    obtain ⟨cn5, In5, Fn5⟩ := u
    obtain ⟨hP1, hD1⟩ := hB1
    rw [ht] at hP1
    have hP : va_P D vwCl (wX cI (D.1 99) zz g ad cn5 In5 Fn5) H1 := hP1
    have hD : va_D A (wX cI (D.1 99) zz g ad cn5 In5 Fn5) := hD1.weaken (fun _ _ _ h => hFc _ h)
    generalize H1 = H at hP hS ⊢
    have vh_5 : (fun c2 I2 F2 => Fr [32] [33] [] cn In Fn c2 I2 F2 ∧ CBX c2 ∧ ((c2 31 = (cn 31) ∧ (cn 31) ≤ c2 32 ∧ c2 32 ≤ (cn 32)) ∧ FLRv 1 cn In c2 I2)) cn5 In5 Fn5 := wh_5
    obtain ⟨hfc5, hIn5, h_5⟩ := vh_5
    obtain rfl : Fn = Fn5 := (funext (fun k => hfc5.2.2 k List.not_mem_nil)).symm
    have hf5 : Fr [31, 32] [33] [] cn In Fn cn5 In5 Fn := Fr.mo (Fr.tr (Fr.rf (cn := cn) (In := In) (Fn := Fn)) hfc5) (sbl rfl) (sbl rfl) (sbl rfl)
    replace hIn5 : CBXh cn5 := hIn5
    have : cn5 6 = (cn 6) := hfc5.1 6 (nml rfl)
    have : cn5 31 = (cn 31) := hfc5.1 31 (nml rfl)
    exact W.vret hx hb hr (fun t ht hW => ⟨⟨(cn5, In5, Fn), rfl, ⟨(Fr.mo hf5 (sbl rfl) (sbl rfl) (sbl rfl)), hIn5, (by show (cn 31 ≤ cn5 31 ∧ cn5 31 ≤ cn5 32 ∧ cn5 32 ≤ cn 32) ∧ TKR v0 (Fn 40) cn In cn5 In5; exact ⟨by show cn 31 ≤ (cn5 31) ∧ (cn5 31) ≤ (cn5 32) ∧ (cn5 32) ≤ cn 32; omega, Or.inr ⟨fun q => (by rcases h_2 with ⟨p1, p2⟩ | ⟨p1, p2⟩ <;> first | exact c_3 (p2.trans q.2) | (have := q.1; omega)), h_5.2⟩⟩)⟩, by rw [ht]; exact hP, hD⟩, hS.F ht⟩) hS.2.2 dX5_take_26
  ·
    have tc_3 : (r_1.toInt : Int) = v0.toInt := congrArg Int32.toInt c_3
    refine lv_aload_n hx hb (oc_42 8 (aq_8 shX5_take_0)) rfl (lvA0 hl) ?_
    refine lv_dup hx hb (oc_89 9 (aq_9 shX5_take_0)) rfl ?_
    refine gf_RX5_31 S hK hP 3 xo_3 (v := .int (nI (cn 31))) rfl (oc_180 10 (aq_10 shX5_take_0) uw_0_31) ?_
    refine lv_iconst (v := 1) hx hb (oc_4 13 (aq_13 shX5_take_0)) kic_1 ?_
    refine lv_iadd hx hb (oc_96 14 (aq_14 shX5_take_0)) ?_
    refine lv_topi (fun y_6 ey_6 => ?_)
    obtain rfl : y_6 = (nI ((cn 31) + 1)) := ey_6.trans (nI_add (cn 31) 1)
    refine pf_RX5_31 S hK hP hD hS 3 xo_3 (v := .int (nI ((cn 31) + 1))) (Nat.le_of_ble_eq_true rfl) rfl rfl (oc_181 15 (aq_15 shX5_take_0) uw_0_31) (fun H locs hP hD hS => ?_)
    have hP : va_P D vwCl (wX cI (D.1 99) zz g ad (va_up cn 31 ((cn 31) + 1)) In Fn) H := va_P_eq (xsf_3_3) hP
    have hD : va_D A (wX cI (D.1 99) zz g ad (va_up cn 31 ((cn 31) + 1)) In Fn) := va_D_eq (xsf_3_3) hD
    refine lv_goto (tgt := 26) hx hb (oc_167 18 (aq_18 shX5_take_0) sgw_0_8) rfl ?_
    exact W.vret hx hb hr (fun t ht hW => ⟨⟨((va_up cn 31 ((cn 31) + 1)), In, Fn), rfl, ⟨(Fr.mo (Fr.c 31 Fr.rf) (sbl rfl) (sbl rfl) (sbl rfl)), (CBX.n (k := 31) (v := ((cn 31) + 1)) hB (by decide)), (by show (cn 31 ≤ (va_up cn 31 ((cn 31) + 1)) 31 ∧ (va_up cn 31 ((cn 31) + 1)) 31 ≤ (va_up cn 31 ((cn 31) + 1)) 32 ∧ (va_up cn 31 ((cn 31) + 1)) 32 ≤ cn 32) ∧ TKR v0 (Fn 40) cn In (va_up cn 31 ((cn 31) + 1)) In; exact ⟨by show cn 31 ≤ ((cn 31) + 1) ∧ ((cn 31) + 1) ≤ (cn 32) ∧ (cn 32) ≤ cn 32; omega, (by rcases h_2 with ⟨p1, p2⟩ | ⟨p1, p2⟩ <;> first | exact Or.inl ⟨p1, p2.symm.trans c_3, rfl, rfl, rfl⟩ | (exfalso; omega))⟩)⟩, by rw [ht]; exact hP, hD⟩, hS.F ht⟩) hS.2.2 dX5_take_26
set_option maxRecDepth 100000 in
set_option maxHeartbeats 4000000 in
theorem q_Zopens_y (l : Launch) (D : va_G) (cI cB cZ : ClassId) (zz qq vv : Nat) (bt : Nat → Int32) (g : Nat → Nat) (ad : Nat → Nat → Nat) (cn : Nat → Nat) (In : Nat → Int32) (Fn : Nat → Nat → Int32) (v0 : Int32) (sz : Nat) (hB : CBX cn) (hR : ad 4 2 = g 40) (h1 : ad 4 1 < cn 6) (h3 : cn 31 ≤ cn 32) (h4 : cn 32 ≤ 160) (h5 : cn 31 < cn 32) (h6 : v0.toInt < 6) : Met l yX5_opens (CWS yX5_opens cX5_opens 2 (some .boolean)) (RM 1 0 0) (PBx [.ref (g 6), .int v0] D cI cB cZ zz qq vv bt (wX cI (D.1 99) zz g ad cn In Fn) sz) (va_Qi (fun (r : Int32) (u : (Nat → Nat) × (Nat → Int32) × (Nat → Nat → Int32)) => (fun r c2 I2 F2 => Fr [31, 32] [33] [] cn In Fn c2 I2 F2 ∧ CBX c2 ∧ (((cn 31 ≤ c2 31 ∧ c2 31 ≤ c2 32 ∧ c2 32 ≤ cn 32) ∧ c2 31 = cn 31 + 1 ∧ c2 32 = cn 32 ∧ I2 33 = In 33) ∧ r = 1)) r u.1 u.2.1 u.2.2) (fun (u : (Nat → Nat) × (Nat → Int32) × (Nat → Nat → Int32)) (t : State) => va_P D vwCl (wX cI (D.1 99) zz g ad u.1 u.2.1 u.2.2) t.heap ∧ va_D (va_A (wX cI (D.1 99) zz g ad cn In Fn) sz) (wX cI (D.1 99) zz g ad u.1 u.2.1 u.2.2)) (va_A (wX cI (D.1 99) zz g ad cn In Fn) sz)) 0 0 (va_A (wX cI (D.1 99) zz g ad cn In Fn) sz) := by
  refine en_x (fun A => (va_Qi (fun (r : Int32) (u : (Nat → Nat) × (Nat → Int32) × (Nat → Nat → Int32)) => (fun (r : Int32) (c2 : Nat → Nat) (I2 : Nat → Int32) (F2 : Nat → Nat → Int32) => Fr [31, 32] [33] [] cn In Fn c2 I2 F2 ∧ CBX c2 ∧ (((cn 31 ≤ c2 31 ∧ c2 31 ≤ c2 32 ∧ c2 32 ≤ cn 32) ∧ c2 31 = cn 31 + 1 ∧ c2 32 = cn 32 ∧ I2 33 = In 33) ∧ r = 1)) r u.1 u.2.1 u.2.2) (fun (u : (Nat → Nat) × (Nat → Int32) × (Nat → Nat → Int32)) (t : State) => va_P D vwCl (wX cI (D.1 99) zz g ad u.1 u.2.1 u.2.2) t.heap ∧ va_D A (wX cI (D.1 99) zz g ad u.1 u.2.1 u.2.2)) A)) rfl rfl pn_RX5 (Nat.le_of_ble_eq_true rfl) (fun p e s m below meth c A hx hb hml hown S hr hlocks hnm hA hP hK hD hXS hS ls hl => ?_)
  have hl : lv_has ls 2 [(0, .ref (g 6)), (1, .int v0)] := hl
  replace hB : CBXh cn := hB
  refine lv_iload_n hx hb dX5_opens_0 rfl (lvA1 hl) ?_
  refine lv_bipush (v := 6) hx hb dX5_opens_1 kbc_6 ?_
  refine lv_icmp_lt (tgt := 13) hx hb dX5_opens_3 rfl (fun c_1 => ?_) (fun c_1 => False.elim (by have tc_1 : (6 : Int) ≤ v0.toInt := Int32.le_iff_toInt_le.mp (Int32.not_lt.mp c_1); omega))
  have tc_1 : (v0.toInt : Int) < 6 := Int32.lt_iff_toInt_lt.mp c_1
  refine lv_aload_n hx hb (oc_42 13 (aq_13 shX5_opens_0)) rfl (lvA0 hl) ?_
  refine lv_dup hx hb (oc_89 14 (aq_14 shX5_opens_0)) rfl ?_
  refine gf_RX5_31 S hK hP 3 xo_3 (v := .int (nI (cn 31))) rfl (oc_180 15 (aq_15 shX5_opens_0) uw_0_31) ?_
  refine lv_iconst (v := 1) hx hb (oc_4 18 (aq_18 shX5_opens_0)) kic_1 ?_
  refine lv_iadd hx hb (oc_96 19 (aq_19 shX5_opens_0)) ?_
  refine lv_topi (fun y_2 ey_2 => ?_)
  obtain rfl : y_2 = (nI ((cn 31) + 1)) := ey_2.trans (nI_add (cn 31) 1)
  refine pf_RX5_31 S hK hP hD hS 3 xo_3 (v := .int (nI ((cn 31) + 1))) (Nat.le_of_ble_eq_true rfl) rfl rfl (oc_181 20 (aq_20 shX5_opens_0) uw_0_31) (fun H locs hP hD hS => ?_)
  have hP : va_P D vwCl (wX cI (D.1 99) zz g ad (va_up cn 31 ((cn 31) + 1)) In Fn) H := va_P_eq (xsf_3_3) hP
  have hD : va_D A (wX cI (D.1 99) zz g ad (va_up cn 31 ((cn 31) + 1)) In Fn) := va_D_eq (xsf_3_3) hD
  refine lv_iconst (v := 1) hx hb (oc_4 23 (aq_23 shX5_opens_0)) kic_1 ?_
  exact W.zret (v := 1) hx hb hr rfl (fun t ht hW => ⟨⟨1, ((va_up cn 31 ((cn 31) + 1)), In, Fn), rfl, ⟨(Fr.mo (Fr.c 31 Fr.rf) (sbl rfl) (sbl rfl) (sbl rfl)), (CBX.n (k := 31) (v := ((cn 31) + 1)) hB (by decide)), (by show ((cn 31 ≤ (va_up cn 31 ((cn 31) + 1)) 31 ∧ (va_up cn 31 ((cn 31) + 1)) 31 ≤ (va_up cn 31 ((cn 31) + 1)) 32 ∧ (va_up cn 31 ((cn 31) + 1)) 32 ≤ cn 32) ∧ (va_up cn 31 ((cn 31) + 1)) 31 = cn 31 + 1 ∧ (va_up cn 31 ((cn 31) + 1)) 32 = cn 32 ∧ In 33 = In 33) ∧ 1 = 1; exact ⟨⟨by show cn 31 ≤ ((cn 31) + 1) ∧ ((cn 31) + 1) ≤ (cn 32) ∧ (cn 32) ≤ cn 32; omega, rfl, rfl, rfl⟩, rfl⟩)⟩, by rw [ht]; exact hP, hD⟩, hS.F ht⟩) hS.2.2 (oc_172 24 shX5_opens_24)
set_option maxRecDepth 100000 in
set_option maxHeartbeats 4000000 in
theorem q_Zopens_n (l : Launch) (D : va_G) (cI cB cZ : ClassId) (zz qq vv : Nat) (bt : Nat → Int32) (g : Nat → Nat) (ad : Nat → Nat → Nat) (cn : Nat → Nat) (In : Nat → Int32) (Fn : Nat → Nat → Int32) (v0 : Int32) (sz : Nat) (hB : CBX cn) (hR : ad 4 2 = g 40) (h1 : ad 4 1 < cn 6) (h3 : cn 31 ≤ cn 32) (h4 : cn 32 ≤ 160) (h5 : cn 31 < cn 32) (h6 : 6 ≤ v0.toInt) : Met l yX5_opens (CWS yX5_opens cX5_opens 2 (some .boolean)) (RM 1 0 0) (PBx [.ref (g 6), .int v0] D cI cB cZ zz qq vv bt (wX cI (D.1 99) zz g ad cn In Fn) sz) (va_Qi (fun (r : Int32) (u : (Nat → Nat) × (Nat → Int32) × (Nat → Nat → Int32)) => (fun r c2 I2 F2 => Fr [31, 32] [33] [] cn In Fn c2 I2 F2 ∧ CBX c2 ∧ (((cn 31 ≤ c2 31 ∧ c2 31 ≤ c2 32 ∧ c2 32 ≤ cn 32) ∧ FLRv 5 cn In c2 I2) ∧ r = 0)) r u.1 u.2.1 u.2.2) (fun (u : (Nat → Nat) × (Nat → Int32) × (Nat → Nat → Int32)) (t : State) => va_P D vwCl (wX cI (D.1 99) zz g ad u.1 u.2.1 u.2.2) t.heap ∧ va_D (va_A (wX cI (D.1 99) zz g ad cn In Fn) sz) (wX cI (D.1 99) zz g ad u.1 u.2.1 u.2.2)) (va_A (wX cI (D.1 99) zz g ad cn In Fn) sz)) 0 0 (va_A (wX cI (D.1 99) zz g ad cn In Fn) sz) := by
  refine en_x (fun A => (va_Qi (fun (r : Int32) (u : (Nat → Nat) × (Nat → Int32) × (Nat → Nat → Int32)) => (fun (r : Int32) (c2 : Nat → Nat) (I2 : Nat → Int32) (F2 : Nat → Nat → Int32) => Fr [31, 32] [33] [] cn In Fn c2 I2 F2 ∧ CBX c2 ∧ (((cn 31 ≤ c2 31 ∧ c2 31 ≤ c2 32 ∧ c2 32 ≤ cn 32) ∧ FLRv 5 cn In c2 I2) ∧ r = 0)) r u.1 u.2.1 u.2.2) (fun (u : (Nat → Nat) × (Nat → Int32) × (Nat → Nat → Int32)) (t : State) => va_P D vwCl (wX cI (D.1 99) zz g ad u.1 u.2.1 u.2.2) t.heap ∧ va_D A (wX cI (D.1 99) zz g ad u.1 u.2.1 u.2.2)) A)) rfl rfl pn_RX5 (Nat.le_of_ble_eq_true rfl) (fun p e s m below meth c A hx hb hml hown S hr hlocks hnm hA hP hK hD hXS hS ls hl => ?_)
  have hl : lv_has ls 2 [(0, .ref (g 6)), (1, .int v0)] := hl
  replace hB : CBXh cn := hB
  refine lv_iload_n hx hb dX5_opens_0 rfl (lvA1 hl) ?_
  refine lv_bipush (v := 6) hx hb dX5_opens_1 kbc_6 ?_
  refine lv_icmp_lt (tgt := 13) hx hb dX5_opens_3 rfl (fun c_1 => False.elim (by have tc_1 : (v0.toInt : Int) < 6 := Int32.lt_iff_toInt_lt.mp c_1; omega)) (fun c_1 => ?_)
  have tc_1 : (6 : Int) ≤ v0.toInt := Int32.le_iff_toInt_le.mp (Int32.not_lt.mp c_1)
  refine lv_aload_n hx hb (oc_42 6 (aq_6 shX5_opens_0)) rfl (lvA0 hl) ?_
  refine lv_iconst (v := 5) hx hb (oc_8 7 (aq_7 shX5_opens_0)) kic_5 ?_
  have hFc := free_all hD hS hA
  refine va_callv (runV_xa (As := [.int 5]) (rest := []) S (q_Zfail l D cI cB cZ zz qq vv bt g ad cn In Fn 5 s.heap.size hB (by omega) (by omega) (by omega) (by omega)) kV_RX5_47 hK hXS hS hFc hP hD 3 xo_3 rfl rfl ⟨Nat.le_of_ble_eq_true rfl, Nat.le_of_ble_eq_true rfl⟩ ⟨Nat.le_of_ble_eq_true rfl, Nat.le_of_ble_eq_true rfl⟩ rfl hl.1 rfl (Nat.le_of_ble_eq_true rfl) (oc_182 8 (aq_8 shX5_opens_0) uw_0_47)) hS (fun q _ h => hFc q h) hFc (fun u t H1 locs ht hvm wh_3 hB1 hz1 hk1 hS => ?_)
  obtain ⟨cn3, In3, Fn3⟩ := u
  obtain ⟨hP1, hD1⟩ := hB1
  rw [ht] at hP1
  have hP : va_P D vwCl (wX cI (D.1 99) zz g ad cn3 In3 Fn3) H1 := hP1
  have hD : va_D A (wX cI (D.1 99) zz g ad cn3 In3 Fn3) := hD1.weaken (fun _ _ _ h => hFc _ h)
  generalize H1 = H at hP hS ⊢
  have vh_3 : (fun c2 I2 F2 => Fr [32] [33] [] cn In Fn c2 I2 F2 ∧ CBX c2 ∧ ((c2 31 = (cn 31) ∧ (cn 31) ≤ c2 32 ∧ c2 32 ≤ (cn 32)) ∧ FLRv 5 cn In c2 I2)) cn3 In3 Fn3 := wh_3
  obtain ⟨hfc3, hIn3, h_3⟩ := vh_3
  obtain rfl : Fn = Fn3 := (funext (fun k => hfc3.2.2 k List.not_mem_nil)).symm
  have hf3 : Fr [31, 32] [33] [] cn In Fn cn3 In3 Fn := Fr.mo (Fr.tr (Fr.rf (cn := cn) (In := In) (Fn := Fn)) hfc3) (sbl rfl) (sbl rfl) (sbl rfl)
  replace hIn3 : CBXh cn3 := hIn3
  have : cn3 6 = (cn 6) := hfc3.1 6 (nml rfl)
  have : cn3 31 = (cn 31) := hfc3.1 31 (nml rfl)
  refine lv_iconst (v := 0) hx hb (oc_3 11 (aq_11 shX5_opens_0)) kic_0 ?_
  exact W.zret (v := 0) hx hb hr rfl (fun t ht hW => ⟨⟨0, (cn3, In3, Fn), rfl, ⟨(Fr.mo hf3 (sbl rfl) (sbl rfl) (sbl rfl)), hIn3, (by show ((cn 31 ≤ cn3 31 ∧ cn3 31 ≤ cn3 32 ∧ cn3 32 ≤ cn 32) ∧ FLRv 5 cn In cn3 In3) ∧ 0 = 0; exact ⟨⟨by show cn 31 ≤ (cn3 31) ∧ (cn3 31) ≤ (cn3 32) ∧ (cn3 32) ≤ cn 32; omega, h_3.2⟩, rfl⟩)⟩, by rw [ht]; exact hP, hD⟩, hS.F ht⟩) hS.2.2 (oc_172 12 (aq_12 shX5_opens_0))
set_option maxRecDepth 100000 in
set_option maxHeartbeats 4000000 in
theorem q_ZreadRelation (l : Launch) (D : va_G) (cI cB cZ : ClassId) (zz qq vv : Nat) (bt : Nat → Int32) (g : Nat → Nat) (ad : Nat → Nat → Nat) (cn : Nat → Nat) (In : Nat → Int32) (Fn : Nat → Nat → Int32)  (sz : Nat) (hB : CBX cn) (hR : ad 4 2 = g 40) (h1 : ad 4 1 < cn 6) (h3 : cn 31 ≤ cn 32) (h4 : cn 32 ≤ 160) : Met l yX5_readRelation (CWS yX5_readRelation cX5_readRelation 2 (some .int)) (RM 1 0 0) (PBx [.ref (g 6)] D cI cB cZ zz qq vv bt (wX cI (D.1 99) zz g ad cn In Fn) sz) (va_Qi (fun (r : Int32) (u : (Nat → Nat) × (Nat → Int32) × (Nat → Nat → Int32)) => (fun r c2 I2 F2 => Fr [31, 32] [33] [] cn In Fn c2 I2 F2 ∧ CBX c2 ∧ ((cn 31 ≤ c2 31 ∧ c2 31 ≤ c2 32 ∧ c2 32 ≤ cn 32) ∧ RLR r (Fn 40) cn In c2 I2)) r u.1 u.2.1 u.2.2) (fun (u : (Nat → Nat) × (Nat → Int32) × (Nat → Nat → Int32)) (t : State) => va_P D vwCl (wX cI (D.1 99) zz g ad u.1 u.2.1 u.2.2) t.heap ∧ va_D (va_A (wX cI (D.1 99) zz g ad cn In Fn) sz) (wX cI (D.1 99) zz g ad u.1 u.2.1 u.2.2)) (va_A (wX cI (D.1 99) zz g ad cn In Fn) sz)) 0 0 (va_A (wX cI (D.1 99) zz g ad cn In Fn) sz) := by
  refine en_x (fun A => (va_Qi (fun (r : Int32) (u : (Nat → Nat) × (Nat → Int32) × (Nat → Nat → Int32)) => (fun (r : Int32) (c2 : Nat → Nat) (I2 : Nat → Int32) (F2 : Nat → Nat → Int32) => Fr [31, 32] [33] [] cn In Fn c2 I2 F2 ∧ CBX c2 ∧ ((cn 31 ≤ c2 31 ∧ c2 31 ≤ c2 32 ∧ c2 32 ≤ cn 32) ∧ RLR r (Fn 40) cn In c2 I2)) r u.1 u.2.1 u.2.2) (fun (u : (Nat → Nat) × (Nat → Int32) × (Nat → Nat → Int32)) (t : State) => va_P D vwCl (wX cI (D.1 99) zz g ad u.1 u.2.1 u.2.2) t.heap ∧ va_D A (wX cI (D.1 99) zz g ad u.1 u.2.1 u.2.2)) A)) rfl rfl pn_RX5 (Nat.le_of_ble_eq_true rfl) (fun p e s m below meth c A hx hb hml hown S hr hlocks hnm hA hP hK hD hXS hS ls hl => ?_)
  have hl : lv_has ls 2 [(0, .ref (g 6))] := hl
  replace hB : CBXh cn := hB
  refine lv_aload_n hx hb (oc_42 0 shX5_readRelation_0) rfl (lvA0 hl) ?_
  refine vp_callSi (runV_rxa (As := []) (rest := []) S (q_Rpeek l D cI cB cZ zz qq vv bt g ad cn In Fn  hB (by omega) (by omega) (by omega) (by omega)) kV_RX5_43 hK hXS hS hP 3 xo_3 rfl rfl ⟨Nat.le_of_ble_eq_true rfl, Nat.le_of_ble_eq_true rfl⟩ ⟨Nat.le_of_ble_eq_true rfl, Nat.le_of_ble_eq_true rfl⟩ rfl hl.1 rfl (Nat.le_of_ble_eq_true rfl) (oc_182 1 (aq_1 shX5_readRelation_0) uw_0_43)) (fun r_1 h_2 => ?_)
  refine lv_istore_n (lv' := [(1, .int r_1), (0, .ref (g 6))]) hx hb (oc_60 4 (aq_4 shX5_readRelation_0)) rfl hl (ltb rfl) rfl (fun ls hl => ?_)
  refine lv_iload_n hx hb (oc_27 5 (aq_5 shX5_readRelation_0)) rfl (lvA0 hl) ?_
  refine lv_bipush (v := 60) hx hb (oc_16 6 (aq_6 shX5_readRelation_0) sgb_60) kbc_60 ?_
  refine lv_icmp_eq (tgt := 23) hx hb (oc_159 8 (aq_8 shX5_readRelation_0) sgw_0_15) rfl (fun c_3 => ?_) (fun c_3 => ?_)
  ·
    have tc_3 : (r_1.toInt : Int) = 60 := congrArg Int32.toInt c_3
    refine lv_aload_n hx hb dX5_readRelation_23 rfl (lvA1 hl) ?_
    refine lv_dup hx hb dX5_readRelation_24 rfl ?_
    refine gf_RX5_31 S hK hP 3 xo_3 (v := .int (nI (cn 31))) rfl dX5_readRelation_25 ?_
    refine lv_iconst (v := 1) hx hb dX5_readRelation_28 kic_1 ?_
    refine lv_iadd hx hb dX5_readRelation_29 ?_
    refine lv_topi (fun y_4 ey_4 => ?_)
    obtain rfl : y_4 = (nI ((cn 31) + 1)) := ey_4.trans (nI_add (cn 31) 1)
    refine pf_RX5_31 S hK hP hD hS 3 xo_3 (v := .int (nI ((cn 31) + 1))) (Nat.le_of_ble_eq_true rfl) rfl rfl dX5_readRelation_30 (fun H locs hP hD hS => ?_)
    have hP : va_P D vwCl (wX cI (D.1 99) zz g ad (va_up cn 31 ((cn 31) + 1)) In Fn) H := va_P_eq (xsf_3_3) hP
    have hD : va_D A (wX cI (D.1 99) zz g ad (va_up cn 31 ((cn 31) + 1)) In Fn) := va_D_eq (xsf_3_3) hD
    refine lv_goto (tgt := 41) hx hb dX5_readRelation_33 rfl ?_
    refine lv_iload_n hx hb dX5_readRelation_41 rfl (lvA0 hl) ?_
    refine lv_bipush (v := 60) hx hb dX5_readRelation_42 kbc_60 ?_
    refine lv_icmp_ne (tgt := 52) hx hb dX5_readRelation_44 rfl (fun c_5 => False.elim (by have tc_5 : (r_1.toInt : Int) ≠ 60 := fun q => c_5 (Int32.toInt_inj.mp q); omega)) (fun c_5 => ?_)
    have tc_5 : (r_1.toInt : Int) = 60 := congrArg Int32.toInt c_5
    refine lv_bipush (v := 8) hx hb dX5_readRelation_47 kbc_8 ?_
    refine lv_goto (tgt := 65) hx hb dX5_readRelation_49 rfl ?_
    exact W.iret (v := 8) hx hb hr (fun t ht hW => ⟨⟨8, ((va_up cn 31 ((cn 31) + 1)), In, Fn), rfl, ⟨(Fr.mo (Fr.c 31 Fr.rf) (sbl rfl) (sbl rfl) (sbl rfl)), (CBX.n (k := 31) (v := ((cn 31) + 1)) hB (by decide)), (by show (cn 31 ≤ (va_up cn 31 ((cn 31) + 1)) 31 ∧ (va_up cn 31 ((cn 31) + 1)) 31 ≤ (va_up cn 31 ((cn 31) + 1)) 32 ∧ (va_up cn 31 ((cn 31) + 1)) 32 ≤ cn 32) ∧ RLR 8 (Fn 40) cn In (va_up cn 31 ((cn 31) + 1)) In; exact ⟨by show cn 31 ≤ ((cn 31) + 1) ∧ ((cn 31) + 1) ≤ (cn 32) ∧ (cn 32) ≤ cn 32; omega, (by rcases h_2 with ⟨p1, p2⟩ | ⟨p1, p2⟩ <;> first | (exfalso; omega) | exact Or.inl ⟨8, p1, (by rw [← p2, show r_1 = 60 by assumption]; decide), (by decide), rfl, rfl, rfl⟩)⟩)⟩, by rw [ht]; exact hP, hD⟩, hS.F ht⟩) hS.2.2 dX5_readRelation_65
  ·
    have tc_3 : (r_1.toInt : Int) ≠ 60 := fun q => c_3 (Int32.toInt_inj.mp q)
    refine lv_iload_n hx hb (oc_27 11 (aq_11 shX5_readRelation_0)) rfl (lvA0 hl) ?_
    refine lv_bipush (v := 62) hx hb (oc_16 12 (aq_12 shX5_readRelation_0) sgb_62) kbc_62 ?_
    refine lv_icmp_eq (tgt := 23) hx hb (oc_159 14 (aq_14 shX5_readRelation_0) sgw_0_9) rfl (fun c_6 => ?_) (fun c_6 => ?_)
    ·
      have tc_6 : (r_1.toInt : Int) = 62 := congrArg Int32.toInt c_6
      refine lv_aload_n hx hb dX5_readRelation_23 rfl (lvA1 hl) ?_
      refine lv_dup hx hb dX5_readRelation_24 rfl ?_
      refine gf_RX5_31 S hK hP 3 xo_3 (v := .int (nI (cn 31))) rfl dX5_readRelation_25 ?_
      refine lv_iconst (v := 1) hx hb dX5_readRelation_28 kic_1 ?_
      refine lv_iadd hx hb dX5_readRelation_29 ?_
      refine lv_topi (fun y_7 ey_7 => ?_)
      obtain rfl : y_7 = (nI ((cn 31) + 1)) := ey_7.trans (nI_add (cn 31) 1)
      refine pf_RX5_31 S hK hP hD hS 3 xo_3 (v := .int (nI ((cn 31) + 1))) (Nat.le_of_ble_eq_true rfl) rfl rfl dX5_readRelation_30 (fun H locs hP hD hS => ?_)
      have hP : va_P D vwCl (wX cI (D.1 99) zz g ad (va_up cn 31 ((cn 31) + 1)) In Fn) H := va_P_eq (xsf_3_3) hP
      have hD : va_D A (wX cI (D.1 99) zz g ad (va_up cn 31 ((cn 31) + 1)) In Fn) := va_D_eq (xsf_3_3) hD
      refine lv_goto (tgt := 41) hx hb dX5_readRelation_33 rfl ?_
      refine lv_iload_n hx hb dX5_readRelation_41 rfl (lvA0 hl) ?_
      refine lv_bipush (v := 60) hx hb dX5_readRelation_42 kbc_60 ?_
      refine lv_icmp_ne (tgt := 52) hx hb dX5_readRelation_44 rfl (fun c_8 => ?_) (fun c_8 => False.elim (by have tc_8 : (r_1.toInt : Int) = 60 := congrArg Int32.toInt c_8; omega))
      have tc_8 : (r_1.toInt : Int) ≠ 60 := fun q => c_8 (Int32.toInt_inj.mp q)
      refine lv_iload_n hx hb dX5_readRelation_52 rfl (lvA0 hl) ?_
      refine lv_bipush (v := 62) hx hb dX5_readRelation_53 kbc_62 ?_
      refine lv_icmp_ne (tgt := 63) hx hb dX5_readRelation_55 rfl (fun c_9 => False.elim (by have tc_9 : (r_1.toInt : Int) ≠ 62 := fun q => c_9 (Int32.toInt_inj.mp q); omega)) (fun c_9 => ?_)
      have tc_9 : (r_1.toInt : Int) = 62 := congrArg Int32.toInt c_9
      refine lv_bipush (v := 9) hx hb dX5_readRelation_58 kbc_9 ?_
      refine lv_goto (tgt := 65) hx hb dX5_readRelation_60 rfl ?_
      exact W.iret (v := 9) hx hb hr (fun t ht hW => ⟨⟨9, ((va_up cn 31 ((cn 31) + 1)), In, Fn), rfl, ⟨(Fr.mo (Fr.c 31 Fr.rf) (sbl rfl) (sbl rfl) (sbl rfl)), (CBX.n (k := 31) (v := ((cn 31) + 1)) hB (by decide)), (by show (cn 31 ≤ (va_up cn 31 ((cn 31) + 1)) 31 ∧ (va_up cn 31 ((cn 31) + 1)) 31 ≤ (va_up cn 31 ((cn 31) + 1)) 32 ∧ (va_up cn 31 ((cn 31) + 1)) 32 ≤ cn 32) ∧ RLR 9 (Fn 40) cn In (va_up cn 31 ((cn 31) + 1)) In; exact ⟨by show cn 31 ≤ ((cn 31) + 1) ∧ ((cn 31) + 1) ≤ (cn 32) ∧ (cn 32) ≤ cn 32; omega, (by rcases h_2 with ⟨p1, p2⟩ | ⟨p1, p2⟩ <;> first | (exfalso; omega) | exact Or.inl ⟨9, p1, (by rw [← p2, show r_1 = 62 by assumption]; decide), (by decide), rfl, rfl, rfl⟩)⟩)⟩, by rw [ht]; exact hP, hD⟩, hS.F ht⟩) hS.2.2 dX5_readRelation_65
    ·
      have tc_6 : (r_1.toInt : Int) ≠ 62 := fun q => c_6 (Int32.toInt_inj.mp q)
      refine lv_iload_n hx hb (oc_27 17 (aq_17 shX5_readRelation_0)) rfl (lvA0 hl) ?_
      refine lv_bipush (v := 61) hx hb (oc_16 18 (aq_18 shX5_readRelation_0) sgb_61) kbc_61 ?_
      refine lv_icmp_ne (tgt := 36) hx hb (oc_160 20 (aq_20 shX5_readRelation_0) sgw_0_16) rfl (fun c_10 => ?_) (fun c_10 => ?_)
      ·
        have tc_10 : (r_1.toInt : Int) ≠ 61 := fun q => c_10 (Int32.toInt_inj.mp q)
        refine lv_aload_n hx hb (oc_42 36 (aq_12 shX5_readRelation_24)) rfl (lvA1 hl) ?_
        refine lv_iconst (v := 1) hx hb (oc_4 37 (aq_13 shX5_readRelation_24)) kic_1 ?_
        have hFc := free_all hD hS hA
        refine va_callv (runV_xa (As := [.int 1]) (rest := []) S (q_Zfail l D cI cB cZ zz qq vv bt g ad cn In Fn 1 s.heap.size hB (by omega) (by omega) (by omega) (by omega)) kV_RX5_47 hK hXS hS hFc hP hD 3 xo_3 rfl rfl ⟨Nat.le_of_ble_eq_true rfl, Nat.le_of_ble_eq_true rfl⟩ ⟨Nat.le_of_ble_eq_true rfl, Nat.le_of_ble_eq_true rfl⟩ rfl hl.1 rfl (Nat.le_of_ble_eq_true rfl) (oc_182 38 (aq_14 shX5_readRelation_24) uw_0_47)) hS (fun q _ h => hFc q h) hFc (fun u t H1 locs ht hvm wh_12 hB1 hz1 hk1 hS => ?_)
        obtain ⟨cn12, In12, Fn12⟩ := u
        obtain ⟨hP1, hD1⟩ := hB1
        rw [ht] at hP1
        have hP : va_P D vwCl (wX cI (D.1 99) zz g ad cn12 In12 Fn12) H1 := hP1
        have hD : va_D A (wX cI (D.1 99) zz g ad cn12 In12 Fn12) := hD1.weaken (fun _ _ _ h => hFc _ h)
        generalize H1 = H at hP hS ⊢
        have vh_12 : (fun c2 I2 F2 => Fr [32] [33] [] cn In Fn c2 I2 F2 ∧ CBX c2 ∧ ((c2 31 = (cn 31) ∧ (cn 31) ≤ c2 32 ∧ c2 32 ≤ (cn 32)) ∧ FLRv 1 cn In c2 I2)) cn12 In12 Fn12 := wh_12
        obtain ⟨hfc12, hIn12, h_12⟩ := vh_12
        obtain rfl : Fn = Fn12 := (funext (fun k => hfc12.2.2 k List.not_mem_nil)).symm
        have hf12 : Fr [31, 32] [33] [] cn In Fn cn12 In12 Fn := Fr.mo (Fr.tr (Fr.rf (cn := cn) (In := In) (Fn := Fn)) hfc12) (sbl rfl) (sbl rfl) (sbl rfl)
        replace hIn12 : CBXh cn12 := hIn12
        have : cn12 6 = (cn 6) := hfc12.1 6 (nml rfl)
        have : cn12 31 = (cn 31) := hfc12.1 31 (nml rfl)
        refine lv_iload_n hx hb dX5_readRelation_41 rfl (lvA0 hl) ?_
        refine lv_bipush (v := 60) hx hb dX5_readRelation_42 kbc_60 ?_
        refine lv_icmp_ne (tgt := 52) hx hb dX5_readRelation_44 rfl (fun c_13 => ?_) (fun c_13 => ?_)
        ·
          have tc_13 : (r_1.toInt : Int) ≠ 60 := fun q => c_13 (Int32.toInt_inj.mp q)
          refine lv_iload_n hx hb dX5_readRelation_52 rfl (lvA0 hl) ?_
          refine lv_bipush (v := 62) hx hb dX5_readRelation_53 kbc_62 ?_
          refine lv_icmp_ne (tgt := 63) hx hb dX5_readRelation_55 rfl (fun c_14 => ?_) (fun c_14 => ?_)
          ·
            have tc_14 : (r_1.toInt : Int) ≠ 62 := fun q => c_14 (Int32.toInt_inj.mp q)
            refine lv_bipush (v := 10) hx hb dX5_readRelation_63 kbc_10 ?_
            exact W.iret (v := 10) hx hb hr (fun t ht hW => ⟨⟨10, (cn12, In12, Fn), rfl, ⟨(Fr.mo hf12 (sbl rfl) (sbl rfl) (sbl rfl)), hIn12, (by show (cn 31 ≤ cn12 31 ∧ cn12 31 ≤ cn12 32 ∧ cn12 32 ≤ cn 32) ∧ RLR 10 (Fn 40) cn In cn12 In12; exact ⟨by show cn 31 ≤ (cn12 31) ∧ (cn12 31) ≤ (cn12 32) ∧ (cn12 32) ≤ cn 32; omega, (by first | (exfalso; omega) | exact Or.inr ⟨fun q => (by rcases h_2 with ⟨p1, p2⟩ | ⟨p1, p2⟩ <;> first | exact q.2 (by rw [← p2]; unfold rel; rw [if_neg (by assumption), if_neg (by assumption), if_neg (by assumption)]) | (have := q.1; omega)), h_12.2⟩)⟩)⟩, by rw [ht]; exact hP, hD⟩, hS.F ht⟩) hS.2.2 dX5_readRelation_65
          ·
            have tc_14 : (r_1.toInt : Int) = 62 := congrArg Int32.toInt c_14
            refine lv_bipush (v := 9) hx hb dX5_readRelation_58 kbc_9 ?_
            refine lv_goto (tgt := 65) hx hb dX5_readRelation_60 rfl ?_
            exact W.iret (v := 9) hx hb hr (fun t ht hW => ⟨⟨9, (cn12, In12, Fn), rfl, ⟨(Fr.mo hf12 (sbl rfl) (sbl rfl) (sbl rfl)), hIn12, (by show (cn 31 ≤ cn12 31 ∧ cn12 31 ≤ cn12 32 ∧ cn12 32 ≤ cn 32) ∧ RLR 9 (Fn 40) cn In cn12 In12; exact ⟨by show cn 31 ≤ (cn12 31) ∧ (cn12 31) ≤ (cn12 32) ∧ (cn12 32) ≤ cn 32; omega, (by first | (exfalso; omega) | exact Or.inr ⟨fun q => (by rcases h_2 with ⟨p1, p2⟩ | ⟨p1, p2⟩ <;> first | exact q.2 (by rw [← p2]; unfold rel; rw [if_neg (by assumption), if_neg (by assumption), if_neg (by assumption)]) | (have := q.1; omega)), h_12.2⟩)⟩)⟩, by rw [ht]; exact hP, hD⟩, hS.F ht⟩) hS.2.2 dX5_readRelation_65
        ·
          have tc_13 : (r_1.toInt : Int) = 60 := congrArg Int32.toInt c_13
          refine lv_bipush (v := 8) hx hb dX5_readRelation_47 kbc_8 ?_
          refine lv_goto (tgt := 65) hx hb dX5_readRelation_49 rfl ?_
          exact W.iret (v := 8) hx hb hr (fun t ht hW => ⟨⟨8, (cn12, In12, Fn), rfl, ⟨(Fr.mo hf12 (sbl rfl) (sbl rfl) (sbl rfl)), hIn12, (by show (cn 31 ≤ cn12 31 ∧ cn12 31 ≤ cn12 32 ∧ cn12 32 ≤ cn 32) ∧ RLR 8 (Fn 40) cn In cn12 In12; exact ⟨by show cn 31 ≤ (cn12 31) ∧ (cn12 31) ≤ (cn12 32) ∧ (cn12 32) ≤ cn 32; omega, (by first | (exfalso; omega) | exact Or.inr ⟨fun q => (by rcases h_2 with ⟨p1, p2⟩ | ⟨p1, p2⟩ <;> first | exact q.2 (by rw [← p2]; unfold rel; rw [if_neg (by assumption), if_neg (by assumption), if_neg (by assumption)]) | (have := q.1; omega)), h_12.2⟩)⟩)⟩, by rw [ht]; exact hP, hD⟩, hS.F ht⟩) hS.2.2 dX5_readRelation_65
      ·
        have tc_10 : (r_1.toInt : Int) = 61 := congrArg Int32.toInt c_10
        refine lv_aload_n hx hb dX5_readRelation_23 rfl (lvA1 hl) ?_
        refine lv_dup hx hb dX5_readRelation_24 rfl ?_
        refine gf_RX5_31 S hK hP 3 xo_3 (v := .int (nI (cn 31))) rfl dX5_readRelation_25 ?_
        refine lv_iconst (v := 1) hx hb dX5_readRelation_28 kic_1 ?_
        refine lv_iadd hx hb dX5_readRelation_29 ?_
        refine lv_topi (fun y_15 ey_15 => ?_)
        obtain rfl : y_15 = (nI ((cn 31) + 1)) := ey_15.trans (nI_add (cn 31) 1)
        refine pf_RX5_31 S hK hP hD hS 3 xo_3 (v := .int (nI ((cn 31) + 1))) (Nat.le_of_ble_eq_true rfl) rfl rfl dX5_readRelation_30 (fun H locs hP hD hS => ?_)
        have hP : va_P D vwCl (wX cI (D.1 99) zz g ad (va_up cn 31 ((cn 31) + 1)) In Fn) H := va_P_eq (xsf_3_3) hP
        have hD : va_D A (wX cI (D.1 99) zz g ad (va_up cn 31 ((cn 31) + 1)) In Fn) := va_D_eq (xsf_3_3) hD
        refine lv_goto (tgt := 41) hx hb dX5_readRelation_33 rfl ?_
        refine lv_iload_n hx hb dX5_readRelation_41 rfl (lvA0 hl) ?_
        refine lv_bipush (v := 60) hx hb dX5_readRelation_42 kbc_60 ?_
        refine lv_icmp_ne (tgt := 52) hx hb dX5_readRelation_44 rfl (fun c_16 => ?_) (fun c_16 => False.elim (by have tc_16 : (r_1.toInt : Int) = 60 := congrArg Int32.toInt c_16; omega))
        have tc_16 : (r_1.toInt : Int) ≠ 60 := fun q => c_16 (Int32.toInt_inj.mp q)
        refine lv_iload_n hx hb dX5_readRelation_52 rfl (lvA0 hl) ?_
        refine lv_bipush (v := 62) hx hb dX5_readRelation_53 kbc_62 ?_
        refine lv_icmp_ne (tgt := 63) hx hb dX5_readRelation_55 rfl (fun c_17 => ?_) (fun c_17 => False.elim (by have tc_17 : (r_1.toInt : Int) = 62 := congrArg Int32.toInt c_17; omega))
        have tc_17 : (r_1.toInt : Int) ≠ 62 := fun q => c_17 (Int32.toInt_inj.mp q)
        refine lv_bipush (v := 10) hx hb dX5_readRelation_63 kbc_10 ?_
        exact W.iret (v := 10) hx hb hr (fun t ht hW => ⟨⟨10, ((va_up cn 31 ((cn 31) + 1)), In, Fn), rfl, ⟨(Fr.mo (Fr.c 31 Fr.rf) (sbl rfl) (sbl rfl) (sbl rfl)), (CBX.n (k := 31) (v := ((cn 31) + 1)) hB (by decide)), (by show (cn 31 ≤ (va_up cn 31 ((cn 31) + 1)) 31 ∧ (va_up cn 31 ((cn 31) + 1)) 31 ≤ (va_up cn 31 ((cn 31) + 1)) 32 ∧ (va_up cn 31 ((cn 31) + 1)) 32 ≤ cn 32) ∧ RLR 10 (Fn 40) cn In (va_up cn 31 ((cn 31) + 1)) In; exact ⟨by show cn 31 ≤ ((cn 31) + 1) ∧ ((cn 31) + 1) ≤ (cn 32) ∧ (cn 32) ≤ cn 32; omega, (by rcases h_2 with ⟨p1, p2⟩ | ⟨p1, p2⟩ <;> first | (exfalso; omega) | exact Or.inl ⟨10, p1, (by rw [← p2, show r_1 = 61 by assumption]; decide), (by decide), rfl, rfl, rfl⟩)⟩)⟩, by rw [ht]; exact hP, hD⟩, hS.F ht⟩) hS.2.2 dX5_readRelation_65
set_option maxRecDepth 100000 in
set_option maxHeartbeats 4000000 in
theorem q_Zadd (l : Launch) (D : va_G) (cI cB cZ : ClassId) (zz qq vv : Nat) (bt : Nat → Int32) (g : Nat → Nat) (ad : Nat → Nat → Nat) (cn : Nat → Nat) (In : Nat → Int32) (Fn : Nat → Nat → Int32) (k0 : Nat) (v0 v1 : Int32) (sz : Nat) (hB : CBX cn) (hk : k0 < cn 6) (h9 : (Fn 199 k0).toInt ≤ 160) : Met l yX9_add (CWS yX9_add cX9_add 3 (some .int)) (RM 0 0 0) (PBx [.ref (ad 5 k0), .int v0, .int v1] D cI cB cZ zz qq vv bt (wX cI (D.1 99) zz g ad cn In Fn) sz) (va_Qi (fun (r : Int32) (u : (Nat → Nat) × (Nat → Int32) × (Nat → Nat → Int32)) => (fun r c2 I2 F2 => Fr [] [] [195, 301] cn In Fn c2 I2 F2 ∧ CBX c2 ∧ (addR k0 v0 v1 Fn F2 ∧ r = (Fn 195) k0 ∧ KPT k0 Fn F2)) r u.1 u.2.1 u.2.2) (fun (u : (Nat → Nat) × (Nat → Int32) × (Nat → Nat → Int32)) (t : State) => va_P D vwCl (wX cI (D.1 99) zz g ad u.1 u.2.1 u.2.2) t.heap ∧ va_D (va_A (wX cI (D.1 99) zz g ad cn In Fn) sz) (wX cI (D.1 99) zz g ad u.1 u.2.1 u.2.2)) (va_A (wX cI (D.1 99) zz g ad cn In Fn) sz)) 0 0 (va_A (wX cI (D.1 99) zz g ad cn In Fn) sz) := by
  refine en_x (fun A => (va_Qi (fun (r : Int32) (u : (Nat → Nat) × (Nat → Int32) × (Nat → Nat → Int32)) => (fun (r : Int32) (c2 : Nat → Nat) (I2 : Nat → Int32) (F2 : Nat → Nat → Int32) => Fr [] [] [195, 301] cn In Fn c2 I2 F2 ∧ CBX c2 ∧ (addR k0 v0 v1 Fn F2 ∧ r = (Fn 195) k0 ∧ KPT k0 Fn F2)) r u.1 u.2.1 u.2.2) (fun (u : (Nat → Nat) × (Nat → Int32) × (Nat → Nat → Int32)) (t : State) => va_P D vwCl (wX cI (D.1 99) zz g ad u.1 u.2.1 u.2.2) t.heap ∧ va_D A (wX cI (D.1 99) zz g ad u.1 u.2.1 u.2.2)) A)) rfl rfl pn_RX9 (Nat.le_of_ble_eq_true rfl) (fun p e s m below meth c A hx hb hml hown S hr hlocks hnm hA hP hK hD hXS hS ls hl => ?_)
  have hl : lv_has ls 3 [(0, .ref (ad 5 k0)), (1, .int v0), (2, .int v1)] := hl
  have hb_cn : Hid (CBX cn) := hB
  replace hB : CBXh cn := hB
  refine lv_aload_n hx hb (oc_42 0 shX9_add_0) rfl (lvA0 hl) ?_
  refine gf_RX9_33 S hK hP _ (xf_7 hk) (v := .int ((Fn 195) k0)) rfl (oc_180 1 (aq_1 shX9_add_0) uw_0_33) ?_
  refine lv_if_lt (tgt := 34) hx hb (oc_155 4 (aq_4 shX9_add_0) sgw_0_30) rfl (fun c_1 => ?_) (fun c_1 => ?_)
  ·
    have tc_1 : (((Fn 195) k0).toInt : Int) < 0 := Int32.lt_iff_toInt_lt.mp c_1
    refine lv_aload_n hx hb dX9_add_34 rfl (lvA0 hl) ?_
    refine lv_dup hx hb dX9_add_35 rfl ?_
    refine gf_RX9_33 S hK hP _ (xf_7 hk) (v := .int ((Fn 195) k0)) rfl dX9_add_36 ?_
    refine lv_iconst (v := 1) hx hb dX9_add_39 kic_1 ?_
    refine lv_iadd hx hb dX9_add_40 ?_
    refine pf_RX9_33 S hK hP hD hS _ (xf_7 hk) (v := .int (((Fn 195) k0) + 1)) (Nat.le_of_ble_eq_true rfl) rfl rfl dX9_add_41 (fun H locs hP hD hS => ?_)
    have hP : va_P D vwCl (wX cI (D.1 99) zz g ad cn In (va_up Fn 195 (upd (Fn 195) k0 (((Fn 195) k0) + 1)))) H := va_P_eq (xs_195 (by (first | omega | (have zz0 := Hid.u hb_cn; omega)))) hP
    have hD : va_D A (wX cI (D.1 99) zz g ad cn In (va_up Fn 195 (upd (Fn 195) k0 (((Fn 195) k0) + 1)))) := va_D_eq (xs_195 (by (first | omega | (have zz0 := Hid.u hb_cn; omega)))) hD
    refine lv_aload_n hx hb dX9_add_44 rfl (lvA0 hl) ?_
    refine gf_RX9_33 S hK hP _ (xf_7 hk) (v := .int ((upd (Fn 195) k0 (((Fn 195) k0) + 1)) k0)) rfl dX9_add_45 ?_
    refine lv_iconst (v := 1) hx hb dX9_add_48 kic_1 ?_
    refine lv_isub hx hb dX9_add_49 ?_
    exact W.iret (v := (((upd (Fn 195) k0 (((Fn 195) k0) + 1)) k0) - 1)) hx hb hr (fun t ht hW => ⟨⟨(((upd (Fn 195) k0 (((Fn 195) k0) + 1)) k0) - 1), (cn, In, (va_up Fn 195 (upd (Fn 195) k0 (((Fn 195) k0) + 1)))), rfl, ⟨(Fr.mo (Fr.f 195 Fr.rf) (sbl rfl) (sbl rfl) (sbl rfl)), hB, (by show addR k0 v0 v1 Fn (va_up Fn 195 (upd (Fn 195) k0 (((Fn 195) k0) + 1))) ∧ (((upd (Fn 195) k0 (((Fn 195) k0) + 1)) k0) - 1) = (Fn 195) k0 ∧ KPT k0 Fn (va_up Fn 195 (upd (Fn 195) k0 (((Fn 195) k0) + 1))); exact ⟨⟨rfl, fun q1 q2 => (by first | rfl | (exfalso; (first | omega | (have zz0 := Hid.u hb_cn; omega))))⟩, (by rw [upd_self]; exact Int32.add_sub_cancel _ _), KPT.of (Or.inr ⟨_, rfl⟩) (Or.inl rfl) (by first | exact Or.inl rfl | exact Or.inr ⟨_, rfl⟩) (Or.inl rfl) (Or.inl rfl) (Or.inl rfl)⟩)⟩, by rw [ht]; exact hP, hD⟩, hS.F ht⟩) hS.2.2 dX9_add_50
  ·
    have tc_1 : (0 : Int) ≤ ((Fn 195) k0).toInt := Int32.le_iff_toInt_le.mp (Int32.not_lt.mp c_1)
    refine lv_aload_n hx hb (oc_42 7 (aq_7 shX9_add_0)) rfl (lvA0 hl) ?_
    refine gf_RX9_33 S hK hP _ (xf_7 hk) (v := .int ((Fn 195) k0)) rfl (oc_180 8 (aq_8 shX9_add_0) uw_0_33) ?_
    refine lv_aload_n hx hb (oc_42 11 (aq_11 shX9_add_0)) rfl (lvA0 hl) ?_
    refine gf_RX9_17 S hK hP _ (xf_7 hk) (v := .ref (ad 60 k0)) rfl (oc_180 12 (aq_12 shX9_add_0) uw_0_17) ?_
    refine va_alen hx hb hK.1 hP _ 0 (xf_8 hk) rfl (v := (nI ((Fn 199) k0).toInt.toNat)) rfl (oc_190 15 (aq_15 shX9_add_0)) ?_
    have : (nI (((Fn 199) k0).toInt.toNat)).toInt = ((((Fn 199) k0).toInt.toNat : Nat) : Int) := nI_toInt (by (first | omega | (have zz0 := Hid.u hb_cn; omega)))
    refine lv_icmp_ge (tgt := 34) hx hb (oc_162 16 (aq_16 shX9_add_0) sgw_0_18) rfl (fun c_2 => ?_) (fun c_2 => ?_)
    ·
      have tc_2 : ((nI ((Fn 199) k0).toInt.toNat).toInt : Int) ≤ ((Fn 195) k0).toInt := Int32.le_iff_toInt_le.mp c_2
      refine lv_aload_n hx hb dX9_add_34 rfl (lvA0 hl) ?_
      refine lv_dup hx hb dX9_add_35 rfl ?_
      refine gf_RX9_33 S hK hP _ (xf_7 hk) (v := .int ((Fn 195) k0)) rfl dX9_add_36 ?_
      refine lv_iconst (v := 1) hx hb dX9_add_39 kic_1 ?_
      refine lv_iadd hx hb dX9_add_40 ?_
      refine pf_RX9_33 S hK hP hD hS _ (xf_7 hk) (v := .int (((Fn 195) k0) + 1)) (Nat.le_of_ble_eq_true rfl) rfl rfl dX9_add_41 (fun H locs hP hD hS => ?_)
      have hP : va_P D vwCl (wX cI (D.1 99) zz g ad cn In (va_up Fn 195 (upd (Fn 195) k0 (((Fn 195) k0) + 1)))) H := va_P_eq (xs_195 (by (first | omega | (have zz0 := Hid.u hb_cn; omega)))) hP
      have hD : va_D A (wX cI (D.1 99) zz g ad cn In (va_up Fn 195 (upd (Fn 195) k0 (((Fn 195) k0) + 1)))) := va_D_eq (xs_195 (by (first | omega | (have zz0 := Hid.u hb_cn; omega)))) hD
      refine lv_aload_n hx hb dX9_add_44 rfl (lvA0 hl) ?_
      refine gf_RX9_33 S hK hP _ (xf_7 hk) (v := .int ((upd (Fn 195) k0 (((Fn 195) k0) + 1)) k0)) rfl dX9_add_45 ?_
      refine lv_iconst (v := 1) hx hb dX9_add_48 kic_1 ?_
      refine lv_isub hx hb dX9_add_49 ?_
      exact W.iret (v := (((upd (Fn 195) k0 (((Fn 195) k0) + 1)) k0) - 1)) hx hb hr (fun t ht hW => ⟨⟨(((upd (Fn 195) k0 (((Fn 195) k0) + 1)) k0) - 1), (cn, In, (va_up Fn 195 (upd (Fn 195) k0 (((Fn 195) k0) + 1)))), rfl, ⟨(Fr.mo (Fr.f 195 Fr.rf) (sbl rfl) (sbl rfl) (sbl rfl)), hB, (by show addR k0 v0 v1 Fn (va_up Fn 195 (upd (Fn 195) k0 (((Fn 195) k0) + 1))) ∧ (((upd (Fn 195) k0 (((Fn 195) k0) + 1)) k0) - 1) = (Fn 195) k0 ∧ KPT k0 Fn (va_up Fn 195 (upd (Fn 195) k0 (((Fn 195) k0) + 1))); exact ⟨⟨rfl, fun q1 q2 => (by first | rfl | (exfalso; (first | omega | (have zz0 := Hid.u hb_cn; omega))))⟩, (by rw [upd_self]; exact Int32.add_sub_cancel _ _), KPT.of (Or.inr ⟨_, rfl⟩) (Or.inl rfl) (by first | exact Or.inl rfl | exact Or.inr ⟨_, rfl⟩) (Or.inl rfl) (Or.inl rfl) (Or.inl rfl)⟩)⟩, by rw [ht]; exact hP, hD⟩, hS.F ht⟩) hS.2.2 dX9_add_50
    ·
      have tc_2 : (((Fn 195) k0).toInt : Int) < (nI ((Fn 199) k0).toInt.toNat).toInt := Int32.lt_iff_toInt_lt.mp (Int32.not_le.mp c_2)
      refine lv_aload_n hx hb (oc_42 19 (aq_19 shX9_add_0)) rfl (lvA0 hl) ?_
      refine gf_RX9_17 S hK hP _ (xf_7 hk) (v := .ref (ad 60 k0)) rfl (oc_180 20 (aq_20 shX9_add_0) uw_0_17) ?_
      refine lv_aload_n hx hb (oc_42 23 (aq_23 shX9_add_0)) rfl (lvA0 hl) ?_
      refine gf_RX9_33 S hK hP _ (xf_7 hk) (v := .int ((Fn 195) k0)) rfl (oc_180 24 shX9_add_24 uw_0_33) ?_
      refine lv_iload_n hx hb (oc_27 27 (aq_3 shX9_add_24)) rfl (lvA1 hl) ?_
      refine lv_bipush (v := 20) hx hb (oc_16 28 (aq_4 shX9_add_24) sgb_20) kbc_20 ?_
      refine lv_ishl hx hb (oc_120 30 (aq_6 shX9_add_24)) ?_
      refine lv_iload_n hx hb (oc_28 31 (aq_7 shX9_add_24)) rfl (lvA2 hl) ?_
      refine lv_ior hx hb (oc_128 32 (aq_8 shX9_add_24)) ?_
      refine va_iast hx hb hK.1 hP hD hS _ 0 (xf_8 hk) rfl (vp_in_iff.mpr ⟨by (first | omega | (have zz0 := Hid.u hb_cn; omega)), by (first | omega | (have zz0 := Hid.u hb_cn; omega))⟩) (oc_79 33 (aq_9 shX9_add_24)) (fun H locs hP hD hS => ?_)
      have hP : va_P D vwCl (wX cI (D.1 99) zz g ad cn In (va_up Fn 301 (flat (Fn 301) 200 k0 (upd (gA (Fn 301) 200 k0) ((Fn 195) k0).toNatClampNeg ((v0 <<< (20 &&& 31)) ||| v1))))) H := va_P_eq (xsg_8 hk (upd_z (by (first | omega | (have zz0 := Hid.u hb_cn; omega))) gA_z)) hP
      have hD : va_D A (wX cI (D.1 99) zz g ad cn In (va_up Fn 301 (flat (Fn 301) 200 k0 (upd (gA (Fn 301) 200 k0) ((Fn 195) k0).toNatClampNeg ((v0 <<< (20 &&& 31)) ||| v1))))) := va_D_eq (xsg_8 hk (upd_z (by (first | omega | (have zz0 := Hid.u hb_cn; omega))) gA_z)) hD
      refine lv_aload_n hx hb dX9_add_34 rfl (lvA0 hl) ?_
      refine lv_dup hx hb dX9_add_35 rfl ?_
      refine gf_RX9_33 S hK hP _ (xf_7 hk) (v := .int ((Fn 195) k0)) rfl dX9_add_36 ?_
      refine lv_iconst (v := 1) hx hb dX9_add_39 kic_1 ?_
      refine lv_iadd hx hb dX9_add_40 ?_
      refine pf_RX9_33 S hK hP hD hS _ (xf_7 hk) (v := .int (((Fn 195) k0) + 1)) (Nat.le_of_ble_eq_true rfl) rfl rfl dX9_add_41 (fun H locs hP hD hS => ?_)
      have hP : va_P D vwCl (wX cI (D.1 99) zz g ad cn In (va_up (va_up Fn 301 (flat (Fn 301) 200 k0 (upd (gA (Fn 301) 200 k0) ((Fn 195) k0).toNatClampNeg ((v0 <<< (20 &&& 31)) ||| v1)))) 195 (upd (Fn 195) k0 (((Fn 195) k0) + 1)))) H := va_P_eq (xs_195 (by (first | omega | (have zz0 := Hid.u hb_cn; omega)))) hP
      have hD : va_D A (wX cI (D.1 99) zz g ad cn In (va_up (va_up Fn 301 (flat (Fn 301) 200 k0 (upd (gA (Fn 301) 200 k0) ((Fn 195) k0).toNatClampNeg ((v0 <<< (20 &&& 31)) ||| v1)))) 195 (upd (Fn 195) k0 (((Fn 195) k0) + 1)))) := va_D_eq (xs_195 (by (first | omega | (have zz0 := Hid.u hb_cn; omega)))) hD
      refine lv_aload_n hx hb dX9_add_44 rfl (lvA0 hl) ?_
      refine gf_RX9_33 S hK hP _ (xf_7 hk) (v := .int ((upd (Fn 195) k0 (((Fn 195) k0) + 1)) k0)) rfl dX9_add_45 ?_
      refine lv_iconst (v := 1) hx hb dX9_add_48 kic_1 ?_
      refine lv_isub hx hb dX9_add_49 ?_
      exact W.iret (v := (((upd (Fn 195) k0 (((Fn 195) k0) + 1)) k0) - 1)) hx hb hr (fun t ht hW => ⟨⟨(((upd (Fn 195) k0 (((Fn 195) k0) + 1)) k0) - 1), (cn, In, (va_up (va_up Fn 301 (flat (Fn 301) 200 k0 (upd (gA (Fn 301) 200 k0) ((Fn 195) k0).toNatClampNeg ((v0 <<< (20 &&& 31)) ||| v1)))) 195 (upd (Fn 195) k0 (((Fn 195) k0) + 1)))), rfl, ⟨(Fr.mo (Fr.f 195 (Fr.f 301 Fr.rf)) (sbl rfl) (sbl rfl) (sbl rfl)), hB, (by show addR k0 v0 v1 Fn (va_up (va_up Fn 301 (flat (Fn 301) 200 k0 (upd (gA (Fn 301) 200 k0) ((Fn 195) k0).toNatClampNeg ((v0 <<< (20 &&& 31)) ||| v1)))) 195 (upd (Fn 195) k0 (((Fn 195) k0) + 1))) ∧ (((upd (Fn 195) k0 (((Fn 195) k0) + 1)) k0) - 1) = (Fn 195) k0 ∧ KPT k0 Fn (va_up (va_up Fn 301 (flat (Fn 301) 200 k0 (upd (gA (Fn 301) 200 k0) ((Fn 195) k0).toNatClampNeg ((v0 <<< (20 &&& 31)) ||| v1)))) 195 (upd (Fn 195) k0 (((Fn 195) k0) + 1))); exact ⟨⟨rfl, fun q1 q2 => (by first | rfl | (exfalso; (first | omega | (have zz0 := Hid.u hb_cn; omega))))⟩, (by rw [upd_self]; exact Int32.add_sub_cancel _ _), KPT.of (Or.inr ⟨_, rfl⟩) (Or.inl rfl) (by first | exact Or.inl rfl | exact Or.inr ⟨_, rfl⟩) (Or.inl rfl) (Or.inl rfl) (Or.inl rfl)⟩)⟩, by rw [ht]; exact hP, hD⟩, hS.F ht⟩) hS.2.2 dX9_add_50
set_option maxRecDepth 100000 in
set_option maxHeartbeats 4000000 in
theorem q_Zaim (l : Launch) (D : va_G) (cI cB cZ : ClassId) (zz qq vv : Nat) (bt : Nat → Int32) (g : Nat → Nat) (ad : Nat → Nat → Nat) (cn : Nat → Nat) (In : Nat → Int32) (Fn : Nat → Nat → Int32) (k0 : Nat) (v0 : Int32) (sz : Nat) (hB : CBX cn) (hk : k0 < cn 6) (h9 : (Fn 199 k0).toInt ≤ 160) : Met l yX9_aim (CWS yX9_aim cX9_aim 2 none) (RM 1 0 0) (PBx [.ref (ad 5 k0), .int v0] D cI cB cZ zz qq vv bt (wX cI (D.1 99) zz g ad cn In Fn) sz) (va_Qv (fun (u : (Nat → Nat) × (Nat → Int32) × (Nat → Nat → Int32)) => (fun c2 I2 F2 => Fr [] [] [301] cn In Fn c2 I2 F2 ∧ CBX c2 ∧ (aimRv k0 v0 Fn F2 ∧ KPT k0 Fn F2)) u.1 u.2.1 u.2.2) (fun (u : (Nat → Nat) × (Nat → Int32) × (Nat → Nat → Int32)) (t : State) => va_P D vwCl (wX cI (D.1 99) zz g ad u.1 u.2.1 u.2.2) t.heap ∧ va_D (va_A (wX cI (D.1 99) zz g ad cn In Fn) sz) (wX cI (D.1 99) zz g ad u.1 u.2.1 u.2.2)) (va_A (wX cI (D.1 99) zz g ad cn In Fn) sz)) 0 0 (va_A (wX cI (D.1 99) zz g ad cn In Fn) sz) := by
  refine en_x (fun A => (va_Qv (fun (u : (Nat → Nat) × (Nat → Int32) × (Nat → Nat → Int32)) => (fun (c2 : Nat → Nat) (I2 : Nat → Int32) (F2 : Nat → Nat → Int32) => Fr [] [] [301] cn In Fn c2 I2 F2 ∧ CBX c2 ∧ (aimRv k0 v0 Fn F2 ∧ KPT k0 Fn F2)) u.1 u.2.1 u.2.2) (fun (u : (Nat → Nat) × (Nat → Int32) × (Nat → Nat → Int32)) (t : State) => va_P D vwCl (wX cI (D.1 99) zz g ad u.1 u.2.1 u.2.2) t.heap ∧ va_D A (wX cI (D.1 99) zz g ad u.1 u.2.1 u.2.2)) A)) rfl rfl pn_RX9 (Nat.le_of_ble_eq_true rfl) (fun p e s m below meth c A hx hb hml hown S hr hlocks hnm hA hP hK hD hXS hS ls hl => ?_)
  have hl : lv_has ls 2 [(0, .ref (ad 5 k0)), (1, .int v0)] := hl
  have hb_cn : Hid (CBX cn) := hB
  replace hB : CBXh cn := hB
  refine lv_aload_n hx hb (oc_42 0 shX9_aim_0) rfl (lvA0 hl) ?_
  refine gf_RX9_17 S hK hP _ (xf_7 hk) (v := .ref (ad 60 k0)) rfl (oc_180 1 (aq_1 shX9_aim_0) uw_0_17) ?_
  refine lv_iload_n hx hb (oc_27 4 (aq_4 shX9_aim_0)) rfl (lvA1 hl) ?_
  refine lv_aload_n hx hb (oc_42 5 (aq_5 shX9_aim_0)) rfl (lvA0 hl) ?_
  refine gf_RX9_17 S hK hP _ (xf_7 hk) (v := .ref (ad 60 k0)) rfl (oc_180 6 (aq_6 shX9_aim_0) uw_0_17) ?_
  refine lv_iload_n hx hb (oc_27 9 (aq_9 shX9_aim_0)) rfl (lvA1 hl) ?_
  refine vp_callSi (runS_r (As := [.ref (ad 60 k0), .int v0]) (rest := [.int v0, .ref (ad 60 k0)]) S (q_l_at l D cI cB cZ (ad 60 k0) (((Fn 199) k0).toInt.toNat) (gA (Fn 301) 200 k0) v0 (i32n _)) kS_RX9_37 hK hP _ (one_is (xf_8 hk)) ⟨Nat.le_of_ble_eq_true rfl, Nat.le_of_ble_eq_true rfl⟩ ⟨Nat.le_of_ble_eq_true rfl, Nat.le_of_ble_eq_true rfl⟩ rfl hl.1 rfl (Nat.le_of_ble_eq_true rfl) (oc_184 10 (aq_10 shX9_aim_0) uw_0_37)) (fun r_1 h_2 => ?_)
  subst h_2
  refine lv_ldc (v := (-1048576)) hx hb hown (S.2.2.2.2 _ (wk3_17 2 rfl rfl)) (oc_18 13 (aq_13 shX9_aim_0) ub_43) ?_
  refine lv_iand hx hb (oc_126 15 (aq_15 shX9_aim_0)) ?_
  refine lv_aload_n hx hb (oc_42 16 (aq_16 shX9_aim_0)) rfl (lvA0 hl) ?_
  refine gf_RX9_33 S hK hP _ (xf_7 hk) (v := .int ((Fn 195) k0)) rfl (oc_180 17 (aq_17 shX9_aim_0) uw_0_33) ?_
  refine lv_ior hx hb (oc_128 20 (aq_20 shX9_aim_0)) ?_
  have hFc := va_free (wc := [((ad 60 k0), .inl (cI, ((Fn 199) k0).toInt.toNat, .inl (gA (Fn 301) 200 k0)))]) hD hS hA _ (one_im (xf_8 hk))
  refine va_callv (runS_w (As := [.ref (ad 60 k0), .int v0, .int (((atM (gA (Fn 301) 200 k0) (((Fn 199) k0).toInt.toNat) v0) &&& (-1048576)) ||| ((Fn 195) k0))]) (rest := []) S (q_l_put l D cI cB cZ (ad 60 k0) (((Fn 199) k0).toInt.toNat) (gA (Fn 301) 200 k0) v0 (((atM (gA (Fn 301) 200 k0) (((Fn 199) k0).toInt.toNat) v0) &&& (-1048576)) ||| ((Fn 195) k0)) s.heap.size (i32n _)) kS_RX9_44 hK hP hD _ (one_is (xf_8 hk)) (one_im (xf_8 hk)) rfl ⟨Nat.le_of_ble_eq_true rfl, Nat.le_of_ble_eq_true rfl⟩ ⟨Nat.le_of_ble_eq_true rfl, Nat.le_of_ble_eq_true rfl⟩ rfl hl.1 rfl (Nat.le_of_ble_eq_true rfl) (oc_184 21 (aq_21 shX9_aim_0) uw_0_44)) hS (fun q _ h => hFc q h) hFc (fun u_5 t H1 locs ht hvm h_4 hB1 hz1 hk1 hS => ?_)
  obtain ⟨hP1, hD1⟩ := hB1
  rw [ht] at hP1
  obtain ⟨hP, hD⟩ := wset1 hP hD (xf_8 hk) hk1 hP1
  obtain rfl : u_5 = (putM (gA (Fn 301) 200 k0) ((Fn 199) k0).toInt.toNat v0 (((atM (gA (Fn 301) 200 k0) (((Fn 199) k0).toInt.toNat) v0) &&& (-1048576)) ||| ((Fn 195) k0))) := h_4
  generalize H1 = H at hP hS ⊢
  have hP : va_P D vwCl (wX cI (D.1 99) zz g ad cn In (va_up Fn 301 (flat (Fn 301) 200 k0 (putM (gA (Fn 301) 200 k0) ((Fn 199) k0).toInt.toNat v0 (((atM (gA (Fn 301) 200 k0) (((Fn 199) k0).toInt.toNat) v0) &&& (-1048576)) ||| ((Fn 195) k0)))))) H := va_P_eq (xsg_8 (by (first | omega | (have zz0 := Hid.u hb_cn; omega))) (putM_z (by (first | omega | (have zz0 := Hid.u hb_cn; omega))) gA_z)) hP
  have hD : va_D A (wX cI (D.1 99) zz g ad cn In (va_up Fn 301 (flat (Fn 301) 200 k0 (putM (gA (Fn 301) 200 k0) ((Fn 199) k0).toInt.toNat v0 (((atM (gA (Fn 301) 200 k0) (((Fn 199) k0).toInt.toNat) v0) &&& (-1048576)) ||| ((Fn 195) k0)))))) := va_D_eq (xsg_8 (by (first | omega | (have zz0 := Hid.u hb_cn; omega))) (putM_z (by (first | omega | (have zz0 := Hid.u hb_cn; omega))) gA_z)) hD
  exact W.vret hx hb hr (fun t ht hW => ⟨⟨(cn, In, (va_up Fn 301 (flat (Fn 301) 200 k0 (putM (gA (Fn 301) 200 k0) ((Fn 199) k0).toInt.toNat v0 (((atM (gA (Fn 301) 200 k0) (((Fn 199) k0).toInt.toNat) v0) &&& (-1048576)) ||| ((Fn 195) k0)))))), rfl, ⟨(Fr.mo (Fr.f 301 Fr.rf) (sbl rfl) (sbl rfl) (sbl rfl)), hB, (by show aimRv k0 v0 Fn (va_up Fn 301 (flat (Fn 301) 200 k0 (putM (gA (Fn 301) 200 k0) ((Fn 199) k0).toInt.toNat v0 (((atM (gA (Fn 301) 200 k0) (((Fn 199) k0).toInt.toNat) v0) &&& (-1048576)) ||| ((Fn 195) k0))))) ∧ KPT k0 Fn (va_up Fn 301 (flat (Fn 301) 200 k0 (putM (gA (Fn 301) 200 k0) ((Fn 199) k0).toInt.toNat v0 (((atM (gA (Fn 301) 200 k0) (((Fn 199) k0).toInt.toNat) v0) &&& (-1048576)) ||| ((Fn 195) k0))))); exact ⟨aimRv_of rfl, KPT.of (Or.inl rfl) (Or.inl rfl) (Or.inr ⟨_, rfl⟩) (Or.inl rfl) (Or.inl rfl) (Or.inl rfl)⟩)⟩, by rw [ht]; exact hP, hD⟩, hS.F ht⟩) hS.2.2 (oc_177 24 shX9_aim_24)
set_option maxRecDepth 100000 in
set_option maxHeartbeats 4000000 in
theorem q_z_indexOfChar (l : Launch) (D : va_G) (cI cB cZ : ClassId) (zz qq vv : Nat) (bt : Nat → Int32) (v0 : Int32) : Met l yJ1_indexOfChar_4cfef (CWS yJ1_indexOfChar_4cfef cJ1_indexOfChar_4cfef 6 (some .int)) (RM 0 0 0) (PBrx [.ref vv, .int v0, .int 0, .int 11] D cI cB cZ zz qq vv bt []) (vp_Si (fun r => IXP bt v0 r)) 0 0 (fun _ => False) := by
  refine en_rx rfl pn_RJ1 (Nat.le_of_ble_eq_true rfl) (fun p e s m below meth c hx hb hml hown S hr hlocks hnm hP hK hXS hS ls hl => ?_)
  have hP : va_P D vwCl [] s.heap := hP
  have hl : lv_has ls 6 [(0, .ref vv), (1, .int v0), (2, .int 0), (3, .int 11)] := hl
  refine lv_iload_n hx hb (oc_27 0 shJ1_indexOfChar_4cfef_0) rfl (lvA1 hl) ?_
  refine lv_i2b (v := v0.toInt8.toInt32) hx hb (oc_145 1 (aq_1 shJ1_indexOfChar_4cfef_0)) rfl ?_
  refine lv_istore (lv' := [(4, .int v0.toInt8.toInt32), (0, .ref vv), (1, .int v0), (2, .int 0), (3, .int 11)]) hx hb (oc_54 2 (aq_2 shJ1_indexOfChar_4cfef_0) ub_4) hl (ltb rfl) rfl (fun ls hl => ?_)
  refine lv_iload_n hx hb (oc_28 4 (aq_4 shJ1_indexOfChar_4cfef_0)) rfl (lvA3 hl) ?_
  refine lv_istore (lv' := [(5, .int 0), (4, .int v0.toInt8.toInt32), (0, .ref vv), (1, .int v0), (2, .int 0), (3, .int 11)]) hx hb (oc_54 5 (aq_5 shJ1_indexOfChar_4cfef_0) ub_5) hl (ltb rfl) rfl (fun ls hl => ?_)
  have lp_7 : ∀ (n i : Nat), 11 + 1 ≤ i + n → i ≤ 11 → (∀ j : Nat, j < i → ¬ bt j = v0.toInt8.toInt32) → ∀ ls : Array Slot, lv_has ls 6 [(5, .int (nI i)), (4, .int v0.toInt8.toInt32), (0, .ref vv), (1, .int v0), (2, .int 0), (3, .int 11)] → W p l e (RM 0 0 0) s m ([.ref vv, .int v0, .int 0, .int 11]).toArray below meth c s.heap [] 0 0 (MQ below (vp_Si (fun r => IXP bt v0 r)) ([.ref vv, .int v0, .int 0, .int 11]).toArray s 0 0 (fun _ => False)) (F0 m 7 ls []) := by
    intro n
    induction n with
    | zero => intro i h1 h2; exact absurd h1 (by omega)
    | succ n ih =>
      intro i hn1 hi hinv ls hl
      have ti : (nI i).toInt = (i : Int) := nI_toInt (by omega)
      refine lv_iload hx hb (oc_21 7 (aq_7 shJ1_indexOfChar_4cfef_0) ub_5) (lvA0 hl) ?_
      refine lv_iload_n hx hb (oc_29 9 (aq_9 shJ1_indexOfChar_4cfef_0)) rfl (lvA5 hl) ?_
      refine lv_icmp_ge (tgt := 31) hx hb (oc_162 10 (aq_10 shJ1_indexOfChar_4cfef_0) sgw_0_21) rfl (fun c_1 => ?_) (fun c_1 => ?_)
      ·
        have tc_1 : (11 : Int) ≤ (nI i).toInt := Int32.le_iff_toInt_le.mp c_1
        refine lv_iconst (v := (-1)) hx hb (oc_2 31 (aq_7 shJ1_indexOfChar_4cfef_24)) kic_m1 ?_
        exact W.iret (v := (-1)) hx hb hr (fun t ht hW => ⟨(-1), rfl, (Or.inl ⟨rfl, fun j hj => hinv j (by omega)⟩), ht⟩) (fun _ h => absurd h List.not_mem_nil) (oc_172 32 (aq_8 shJ1_indexOfChar_4cfef_24))
      ·
        have tc_1 : ((nI i).toInt : Int) < 11 := Int32.lt_iff_toInt_lt.mp (Int32.not_le.mp c_1)
        refine lv_aload_n hx hb (oc_42 13 (aq_13 shJ1_indexOfChar_4cfef_0)) rfl (lvA2 hl) ?_
        refine lv_iload hx hb (oc_21 14 (aq_14 shJ1_indexOfChar_4cfef_0) ub_5) (lvA0 hl) ?_
        refine va_tb hx hb hXS.2.2.2.2.2.2.1 hS (vp_in_iff.mpr ⟨by omega, by omega⟩) rfl (oc_51 16 (aq_16 shJ1_indexOfChar_4cfef_0)) ?_
        refine lv_iload hx hb (oc_21 17 (aq_17 shJ1_indexOfChar_4cfef_0) ub_4) (lvA1 hl) ?_
        refine lv_icmp_ne (tgt := 25) hx hb (oc_160 19 (aq_19 shJ1_indexOfChar_4cfef_0) sgw_0_6) rfl (fun c_2 => ?_) (fun c_2 => ?_)
        ·
          have tc_2 : ((bt (nI i).toNatClampNeg).toInt : Int) ≠ v0.toInt8.toInt32.toInt := fun q => c_2 (Int32.toInt_inj.mp q)
          refine lv_iinc (v := (nI (i + 1))) (lv' := [(5, .int (nI (i + 1))), (4, .int v0.toInt8.toInt32), (0, .ref vv), (1, .int v0), (2, .int 0), (3, .int 11)]) hx hb (oc_132 25 (aq_1 shJ1_indexOfChar_4cfef_24) ub_5 sgb_1) hl (k := 0) rfl (nI_1 _) (ltb rfl) rfl (fun ls hl => ?_)
          refine lv_goto (tgt := 7) hx hb (oc_167 28 (aq_4 shJ1_indexOfChar_4cfef_24) sgw_255_235) rfl ?_
          exact ih (i + 1) (by omega) (by omega) (fun j hj => (by by_cases q : j = i <;> first | (subst q; rw [nI_clamp (by omega)] at c_2; exact c_2) | exact hinv j (by omega))) ls (lv_sub hl [0, 1, 2, 3, 4, 5] rfl)
        ·
          have tc_2 : ((bt (nI i).toNatClampNeg).toInt : Int) = v0.toInt8.toInt32.toInt := congrArg Int32.toInt c_2
          refine lv_iload hx hb (oc_21 22 (aq_22 shJ1_indexOfChar_4cfef_0) ub_5) (lvA0 hl) ?_
          exact W.iret (v := (nI i)) hx hb hr (fun t ht hW => ⟨(nI i), rfl, (Or.inr ⟨i, by omega, rfl, (by rw [nI_clamp (by omega)] at c_2; exact c_2)⟩), ht⟩) (fun _ h => absurd h List.not_mem_nil) (oc_172 24 shJ1_indexOfChar_4cfef_24)
  exact lp_7 (11 + 1) 0 (by omega) (by omega) (fun j hj => absurd hj (by omega)) ls (lv_sub hl [0, 1, 2, 3, 4, 5] rfl)
set_option maxRecDepth 100000 in
set_option maxHeartbeats 4000000 in
theorem q_z_lat1Index (l : Launch) (D : va_G) (cI cB cZ : ClassId) (zz qq vv : Nat) (bt : Nat → Int32) (v0 : Int32) (hv9 : 0 ≤ v0.toInt ∧ v0.toInt ≤ 255) : Met l yJ1_indexOf_4cfef (CWS yJ1_indexOf_4cfef cJ1_indexOf_4cfef 4 (some .int)) (RM 1 0 0) (PBrx [.ref vv, .int v0, .int 0, .int 11] D cI cB cZ zz qq vv bt []) (vp_Si (fun r => IXP bt v0 r)) 0 0 (fun _ => False) := by
  refine en_rx rfl pn_RJ1 (Nat.le_of_ble_eq_true rfl) (fun p e s m below meth c hx hb hml hown S hr hlocks hnm hP hK hXS hS ls hl => ?_)
  have hP : va_P D vwCl [] s.heap := hP
  have hl : lv_has ls 4 [(0, .ref vv), (1, .int v0), (2, .int 0), (3, .int 11)] := hl
  refine lv_iload_n hx hb (oc_27 0 shJ1_indexOf_4cfef_0) rfl (lvA1 hl) ?_
  refine vp_callSi (runS_r (As := [.int v0]) (rest := []) S (q_s_canEncode l D cI cB cZ v0) kS_RJ1_88 hK hP [] rfl ⟨Nat.le_of_ble_eq_true rfl, Nat.le_of_ble_eq_true rfl⟩ ⟨Nat.le_of_ble_eq_true rfl, Nat.le_of_ble_eq_true rfl⟩ rfl hl.1 rfl (Nat.le_of_ble_eq_true rfl) (oc_184 1 (aq_1 shJ1_indexOf_4cfef_0) uw_0_88)) (fun r_1 h_2 => ?_)
  rcases h_2 with ⟨rfl, h_2⟩ | ⟨rfl, h_2⟩
  ·
    have h_2 : 0 ≤ v0.toInt ∧ v0.toInt ≤ 255 := h_2
    refine lv_if_ne (tgt := 9) hx hb dJ1_indexOf_4cfef_4 rfl (fun _ => ?_) (fun h => absurd h cq_eq_1_0)
    refine lv_iload_n hx hb (oc_28 9 (aq_9 shJ1_indexOf_4cfef_0)) rfl (lvA2 hl) ?_
    refine lv_iconst (v := 0) hx hb (oc_3 10 (aq_10 shJ1_indexOf_4cfef_0)) kic_0 ?_
    refine va_mmax hx hb (by rw [hml]; exact hl.1.symm) hown (S.2.2.2.2 _ (wk3_9 0 rfl rfl)) (S.2.2.2.2 _ (wk1_3 6 rfl rfl)) (S.2.2.2.2 _ (wk1_0 3 rfl rfl)) (S.2.2.2.2 _ (wk1_3 7 rfl rfl)) (Nat.le_of_ble_eq_true rfl) (Nat.le_of_ble_eq_true rfl) (Nat.le_of_ble_eq_true rfl) (Nat.le_of_ble_eq_true rfl) (oc_184 11 (aq_11 shJ1_indexOf_4cfef_0) uw_0_92) ?_
    refine lv_topi (fun y_3 ey_3 => ?_)
    obtain rfl : y_3 = 0 := ey_3.trans (by decide)
    refine lv_istore_n (lv' := [(2, .int 0), (0, .ref vv), (1, .int v0), (3, .int 11)]) hx hb (oc_61 14 (aq_14 shJ1_indexOf_4cfef_0)) rfl hl (ltb rfl) rfl (fun ls hl => ?_)
    refine lv_iload_n hx hb (oc_29 15 (aq_15 shJ1_indexOf_4cfef_0)) rfl (lvA3 hl) ?_
    refine lv_aload_n hx hb (oc_42 16 (aq_16 shJ1_indexOf_4cfef_0)) rfl (lvA1 hl) ?_
    refine va_tlen hx hb hXS.2.2.2.2.2.2.1 hS (v := 11) rfl (oc_190 17 (aq_17 shJ1_indexOf_4cfef_0)) ?_
    refine va_mmin hx hb (by rw [hml]; exact hl.1.symm) hown (S.2.2.2.2 _ (wk3_9 1 rfl rfl)) (S.2.2.2.2 _ (wk2_13 10 rfl rfl)) (S.2.2.2.2 _ (wk1_0 3 rfl rfl)) (S.2.2.2.2 _ (wk2_13 11 rfl rfl)) (Nat.le_of_ble_eq_true rfl) (Nat.le_of_ble_eq_true rfl) (Nat.le_of_ble_eq_true rfl) (Nat.le_of_ble_eq_true rfl) (oc_184 18 (aq_18 shJ1_indexOf_4cfef_0) uw_0_38) ?_
    refine lv_topi (fun y_4 ey_4 => ?_)
    obtain rfl : y_4 = 11 := ey_4.trans (by decide)
    refine lv_istore_n (lv' := [(3, .int 11), (2, .int 0), (0, .ref vv), (1, .int v0)]) hx hb (oc_62 21 (aq_21 shJ1_indexOf_4cfef_0)) rfl hl (ltb rfl) rfl (fun ls hl => ?_)
    refine lv_iload_n hx hb (oc_28 22 (aq_22 shJ1_indexOf_4cfef_0)) rfl (lvA1 hl) ?_
    refine lv_iload_n hx hb (oc_29 23 (aq_23 shJ1_indexOf_4cfef_0)) rfl (lvA0 hl) ?_
    refine lv_icmp_lt (tgt := 29) hx hb (oc_161 24 shJ1_indexOf_4cfef_24 sgw_0_5) rfl (fun _ => ?_) (fun h => absurd h cq_lt_0_11)
    refine lv_aload_n hx hb (oc_42 29 (aq_5 shJ1_indexOf_4cfef_24)) rfl (lvA2 hl) ?_
    refine lv_iload_n hx hb (oc_27 30 (aq_6 shJ1_indexOf_4cfef_24)) rfl (lvA3 hl) ?_
    refine lv_iload_n hx hb (oc_28 31 (aq_7 shJ1_indexOf_4cfef_24)) rfl (lvA1 hl) ?_
    refine lv_iload_n hx hb (oc_29 32 (aq_8 shJ1_indexOf_4cfef_24)) rfl (lvA0 hl) ?_
    refine vp_callSi (runS_rx (As := [.ref vv, .int v0, .int 0, .int 11]) (rest := []) S (q_z_indexOfChar l D cI cB cZ zz qq vv bt v0) kS_RJ1_95 hK hXS hS hP [] rfl ⟨Nat.le_of_ble_eq_true rfl, Nat.le_of_ble_eq_true rfl⟩ ⟨Nat.le_of_ble_eq_true rfl, Nat.le_of_ble_eq_true rfl⟩ rfl hl.1 rfl (Nat.le_of_ble_eq_true rfl) (oc_184 33 (aq_9 shJ1_indexOf_4cfef_24) uw_0_95)) (fun r_5 h_6 => ?_)
    exact W.iret (v := r_5) hx hb hr (fun t ht hW => ⟨r_5, rfl, (by first | assumption | (exfalso; omega)), ht⟩) (fun _ h => absurd h List.not_mem_nil) (oc_172 36 (aq_12 shJ1_indexOf_4cfef_24))
  ·
    have h_2 : ¬ (0 ≤ v0.toInt ∧ v0.toInt ≤ 255) := h_2
    refine lv_if_ne (tgt := 9) hx hb dJ1_indexOf_4cfef_4 rfl (fun h => absurd h cq_eq_0_0) (fun _ => ?_)
    refine lv_iconst (v := (-1)) hx hb (oc_2 7 (aq_7 shJ1_indexOf_4cfef_0)) kic_m1 ?_
    exact W.iret (v := (-1)) hx hb hr (fun t ht hW => ⟨(-1), rfl, (by first | assumption | (exfalso; omega)), ht⟩) (fun _ h => absurd h List.not_mem_nil) (oc_172 8 (aq_8 shJ1_indexOf_4cfef_0))
set_option maxRecDepth 100000 in
set_option maxHeartbeats 4000000 in
theorem q_z_strIndex2 (l : Launch) (D : va_G) (cI cB cZ : ClassId) (zz qq vv : Nat) (bt : Nat → Int32) (v0 : Int32) (hv9 : 0 ≤ v0.toInt ∧ v0.toInt ≤ 255) : Met l yJ0_indexOf_7cf53 (CWS yJ0_indexOf_7cf53 cJ0_indexOf_7cf53 3 (some .int)) (RM 2 0 0) (PBrx [.ref qq, .int v0, .int 0] D cI cB cZ zz qq vv bt []) (vp_Si (fun r => IXP bt v0 r)) 0 0 (fun _ => False) := by
  refine en_rx rfl pn_RJ0 (Nat.le_of_ble_eq_true rfl) (fun p e s m below meth c hx hb hml hown S hr hlocks hnm hP hK hXS hS ls hl => ?_)
  have hP : va_P D vwCl [] s.heap := hP
  have hl : lv_has ls 3 [(0, .ref qq), (1, .int v0), (2, .int 0)] := hl
  refine lv_aload_n hx hb (oc_42 0 shJ0_indexOf_7cf53_0) rfl (lvA0 hl) ?_
  refine vp_callSi (runV_rx (As := []) (rest := []) S (q_s_isLatin1 l D cI cB cZ zz qq vv bt ) kV_RJ0_492 hK hXS hS hP [] rfl (va_Orecv hXS.2.2.2.1 hS) ⟨Nat.le_of_ble_eq_true rfl, Nat.le_of_ble_eq_true rfl⟩ ⟨Nat.le_of_ble_eq_true rfl, Nat.le_of_ble_eq_true rfl⟩ rfl hl.1 rfl (Nat.le_of_ble_eq_true rfl) (oc_182 1 (aq_1 shJ0_indexOf_7cf53_0) uw_1_236)) (fun r_1 h_2 => ?_)
  subst h_2
  refine lv_if_eq (tgt := 23) hx hb (oc_153 4 (aq_4 shJ0_indexOf_7cf53_0) sgw_0_19) rfl (fun h => absurd h cq_eq_1_0) (fun _ => ?_)
  refine lv_aload_n hx hb (oc_42 7 (aq_7 shJ0_indexOf_7cf53_0)) rfl (lvA0 hl) ?_
  refine vk_getf hx hb hXS.2.2.2.2.2.1 hS hown (S.2.2.2.2 _ (wk9_13 4 rfl rfl)) (fun _ h9 => h9) (oc_180 8 (aq_8 shJ0_indexOf_7cf53_0) uw_0_9) ?_
  refine lv_iload_n hx hb (oc_27 11 (aq_11 shJ0_indexOf_7cf53_0)) rfl (lvA1 hl) ?_
  refine lv_iload_n hx hb (oc_28 12 (aq_12 shJ0_indexOf_7cf53_0)) rfl (lvA2 hl) ?_
  refine lv_aload_n hx hb (oc_42 13 (aq_13 shJ0_indexOf_7cf53_0)) rfl (lvA0 hl) ?_
  refine vp_callSi (runV_rx (As := []) (rest := [.int 0, .int v0, .ref vv]) S (q_s_strLen l D cI cB cZ zz qq vv bt ) kV_RJ0_505 hK hXS hS hP [] rfl (va_Orecv hXS.2.2.2.1 hS) ⟨Nat.le_of_ble_eq_true rfl, Nat.le_of_ble_eq_true rfl⟩ ⟨Nat.le_of_ble_eq_true rfl, Nat.le_of_ble_eq_true rfl⟩ rfl hl.1 rfl (Nat.le_of_ble_eq_true rfl) (oc_182 14 (aq_14 shJ0_indexOf_7cf53_0) uw_1_249)) (fun r_3 h_4 => ?_)
  subst h_4
  refine vp_callSi (runS_rx (As := [.ref vv, .int v0, .int 0, .int 11]) (rest := []) S (q_z_lat1Index l D cI cB cZ zz qq vv bt v0 hv9) kS_RJ0_637 hK hXS hS hP [] rfl ⟨Nat.le_of_ble_eq_true rfl, Nat.le_of_ble_eq_true rfl⟩ ⟨Nat.le_of_ble_eq_true rfl, Nat.le_of_ble_eq_true rfl⟩ rfl hl.1 rfl (Nat.le_of_ble_eq_true rfl) (oc_184 17 (aq_17 shJ0_indexOf_7cf53_0) uw_2_125)) (fun r_5 h_6 => ?_)
  refine lv_goto (tgt := 36) hx hb (oc_167 20 (aq_20 shJ0_indexOf_7cf53_0) sgw_0_16) rfl ?_
  exact W.iret (v := r_5) hx hb hr (fun t ht hW => ⟨r_5, rfl, (by assumption), ht⟩) (fun _ h => absurd h List.not_mem_nil) (oc_172 36 (aq_12 shJ0_indexOf_7cf53_24))
set_option maxRecDepth 100000 in
set_option maxHeartbeats 4000000 in
theorem q_z_strIndex (l : Launch) (D : va_G) (cI cB cZ : ClassId) (zz qq vv : Nat) (bt : Nat → Int32) (v0 : Int32) (hv9 : 0 ≤ v0.toInt ∧ v0.toInt ≤ 255) : Met l yJ0_indexOf_0f7a4 (CWS yJ0_indexOf_0f7a4 cJ0_indexOf_0f7a4 2 (some .int)) (RM 3 0 0) (PBrx [.ref qq, .int v0] D cI cB cZ zz qq vv bt []) (vp_Si (fun r => IXP bt v0 r)) 0 0 (fun _ => False) := by
  refine en_rx rfl pn_RJ0 (Nat.le_of_ble_eq_true rfl) (fun p e s m below meth c hx hb hml hown S hr hlocks hnm hP hK hXS hS ls hl => ?_)
  have hP : va_P D vwCl [] s.heap := hP
  have hl : lv_has ls 2 [(0, .ref qq), (1, .int v0)] := hl
  refine lv_aload_n hx hb (oc_42 0 shJ0_indexOf_0f7a4_0) rfl (lvA0 hl) ?_
  refine lv_iload_n hx hb (oc_27 1 (aq_1 shJ0_indexOf_0f7a4_0)) rfl (lvA1 hl) ?_
  refine lv_iconst (v := 0) hx hb (oc_3 2 (aq_2 shJ0_indexOf_0f7a4_0)) kic_0 ?_
  refine vp_callSi (runV_rx (As := [.int v0, .int 0]) (rest := []) S (q_z_strIndex2 l D cI cB cZ zz qq vv bt v0 hv9) kV_RJ0_633 hK hXS hS hP [] rfl (va_Orecv hXS.2.2.2.1 hS) ⟨Nat.le_of_ble_eq_true rfl, Nat.le_of_ble_eq_true rfl⟩ ⟨Nat.le_of_ble_eq_true rfl, Nat.le_of_ble_eq_true rfl⟩ rfl hl.1 rfl (Nat.le_of_ble_eq_true rfl) (oc_182 3 (aq_3 shJ0_indexOf_0f7a4_0) uw_2_121)) (fun r_1 h_2 => ?_)
  exact W.iret (v := r_1) hx hb hr (fun t ht hW => ⟨r_1, rfl, (by assumption), ht⟩) (fun _ h => absurd h List.not_mem_nil) (oc_172 6 (aq_6 shJ0_indexOf_0f7a4_0))
set_option maxRecDepth 100000 in
set_option maxHeartbeats 4000000 in
theorem q_ZreadNumber (l : Launch) (D : va_G) (cI cB cZ : ClassId) (zz qq vv : Nat) (bt : Nat → Int32) (g : Nat → Nat) (ad : Nat → Nat → Nat) (cn : Nat → Nat) (In : Nat → Int32) (Fn : Nat → Nat → Int32) (G : Nat → Nat → Int32) (bb : Nat → Int32) (N : Nat) (x : ResT) (sz : Nat) (hB : CBX cn) (hR : ad 4 2 = g 40) (h1 : ad 4 1 < cn 6) (h3 : cn 31 ≤ cn 32) (h4 : cn 32 ≤ 160) (h9 : (Fn 199 (ad 4 1)).toInt ≤ 160) (he9 : Fn 199 (ad 4 1) = nI N) (hN : N ≤ 160) (heb : Fn 40 = bb) (hby : ∀ k : Nat, k < 160 → 0 ≤ (bb k).toInt ∧ (bb k).toInt ≤ 255) (hz : ZS G (ad 4 1) N cn In Fn x) (hdig : 48 ≤ (pkS cn bb).toInt ∧ (pkS cn bb).toInt ≤ 57) : Met l yX5_readNumber (CWS yX5_readNumber cX5_readNumber 3 none) (RM 1 0 0) (PBx [.ref (g 6)] D cI cB cZ zz qq vv bt (wX cI (D.1 99) zz g ad cn In Fn) sz) (va_Qv (fun (u : (Nat → Nat) × (Nat → Int32) × (Nat → Nat → Int32)) => (fun c2 I2 F2 => Fr [31, 32] [33] [195, 301] cn In Fn c2 I2 F2 ∧ CBX c2 ∧ ((cn 31 ≤ c2 31 ∧ c2 31 ≤ c2 32 ∧ c2 32 ≤ cn 32) ∧ ZS G (ad 4 1) N c2 I2 F2 (resB x (atmL bb N)))) u.1 u.2.1 u.2.2) (fun (u : (Nat → Nat) × (Nat → Int32) × (Nat → Nat → Int32)) (t : State) => va_P D vwCl (wX cI (D.1 99) zz g ad u.1 u.2.1 u.2.2) t.heap ∧ va_D (va_A (wX cI (D.1 99) zz g ad cn In Fn) sz) (wX cI (D.1 99) zz g ad u.1 u.2.1 u.2.2)) (va_A (wX cI (D.1 99) zz g ad cn In Fn) sz)) 0 0 (va_A (wX cI (D.1 99) zz g ad cn In Fn) sz) := by
  refine en_x (fun A => (va_Qv (fun (u : (Nat → Nat) × (Nat → Int32) × (Nat → Nat → Int32)) => (fun (c2 : Nat → Nat) (I2 : Nat → Int32) (F2 : Nat → Nat → Int32) => Fr [31, 32] [33] [195, 301] cn In Fn c2 I2 F2 ∧ CBX c2 ∧ ((cn 31 ≤ c2 31 ∧ c2 31 ≤ c2 32 ∧ c2 32 ≤ cn 32) ∧ ZS G (ad 4 1) N c2 I2 F2 (resB x (atmL bb N)))) u.1 u.2.1 u.2.2) (fun (u : (Nat → Nat) × (Nat → Int32) × (Nat → Nat → Int32)) (t : State) => va_P D vwCl (wX cI (D.1 99) zz g ad u.1 u.2.1 u.2.2) t.heap ∧ va_D A (wX cI (D.1 99) zz g ad u.1 u.2.1 u.2.2)) A)) rfl rfl pn_RX5 (Nat.le_of_ble_eq_true rfl) (fun p e s m below meth c A hx hb hml hown S hr hlocks hnm hA hP hK hD hXS hS ls hl => ?_)
  have hl : lv_has ls 3 [(0, .ref (g 6))] := hl
  replace hB : CBXh cn := hB
  obtain ⟨z, ex0, hz31, hz32⟩ := ZS.lt hz (pkS_lt (c := cn) (b := bb) (by omega))
  have hz0 : ZS G (ad 4 1) N cn In Fn (.ok z) := by rw [← ex0]; exact hz
  refine lv_iconst (v := 0) hx hb (oc_3 0 shX5_readNumber_0) kic_0 ?_
  refine lv_istore_n (lv' := [(1, .int 0), (0, .ref (g 6))]) hx hb (oc_60 1 (aq_1 shX5_readNumber_0)) rfl hl (ltb rfl) rfl (fun ls hl => ?_)
  refine lv_iconst (v := 0) hx hb (oc_3 2 (aq_2 shX5_readNumber_0)) kic_0 ?_
  refine lv_istore_n (lv' := [(2, .int 0), (1, .int 0), (0, .ref (g 6))]) hx hb (oc_61 3 (aq_3 shX5_readNumber_0)) rfl hl (ltb rfl) rfl (fun ls hl => ?_)
  have lp_4 : ∀ (n : Nat) (i4 : Nat) (v4 : Nat) (c4 : Nat → Nat) (I4 : Nat → Int32) (F4 : Nat → Nat → Int32) (H : Heap) (locs : List Loc) , 6 - i4 < n → (i4 ≤ 6 ∧ Fr [31, 32] [33] [195, 301] cn In Fn c4 I4 F4 ∧ CBX c4 ∧ (cn 31 ≤ c4 31 ∧ c4 31 ≤ c4 32 ∧ c4 32 ≤ cn 32) ∧ (ZS G (ad 4 1) N c4 I4 F4 (.ok (c4 31, z.2)) ∧ numL bb N (6 - i4) (c4 31) v4 = numL bb N 6 z.1 0 ∧ v4 + 1 ≤ 10 ^ i4)) → va_P D vwCl (wX cI (D.1 99) zz g ad c4 I4 F4) H → va_D A (wX cI (D.1 99) zz g ad c4 I4 F4) → va_S A s.heap H locs → ∀ ls : Array Slot, lv_has ls 3 [(2, .int (nI i4)), (1, .int (nI v4)), (0, .ref (g 6))] → W p l e (RM 1 0 0) s m ([.ref (g 6)]).toArray below meth c H locs 0 0 (MQ below (va_Qv (fun (u : (Nat → Nat) × (Nat → Int32) × (Nat → Nat → Int32)) => (fun c2 I2 F2 => Fr [31, 32] [33] [195, 301] cn In Fn c2 I2 F2 ∧ CBX c2 ∧ ((cn 31 ≤ c2 31 ∧ c2 31 ≤ c2 32 ∧ c2 32 ≤ cn 32) ∧ ZS G (ad 4 1) N c2 I2 F2 (resB x (atmL bb N)))) u.1 u.2.1 u.2.2) (fun (u : (Nat → Nat) × (Nat → Int32) × (Nat → Nat → Int32)) (t : State) => va_P D vwCl (wX cI (D.1 99) zz g ad u.1 u.2.1 u.2.2) t.heap ∧ va_D A (wX cI (D.1 99) zz g ad u.1 u.2.1 u.2.2)) A) ([.ref (g 6)]).toArray s 0 0 A) (F0 m 4 ls []) := by
    intro n4
    induction n4 with
    | zero => intros; omega
    | succ n4 ih4 =>
      intro i4 v4 c4 I4 F4 H locs hmu4 hinv4 hP hD hS ls hl
      obtain ⟨hr4, hfr4, hI4, hx4_0, hx4_1⟩ := hinv4
      have ti4 : (nI i4).toInt = (i4 : Int) := nI_toInt (by omega)
      replace hI4 : CBXh c4 := hI4
      have : c4 6 = cn 6 := hfr4.1 6 (nml rfl)
      obtain ⟨hz_4, en_4, hv_4⟩ := hx4_1
      refine lv_iload_n hx hb (oc_28 4 (aq_4 shX5_readNumber_0)) rfl (lvA0 hl) ?_
      refine lv_bipush (v := 6) hx hb (oc_16 5 (aq_5 shX5_readNumber_0) sgb_6) kbc_6 ?_
      refine lv_icmp_ge (tgt := 49) hx hb (oc_162 7 (aq_7 shX5_readNumber_0) sgw_0_42) rfl (fun c_1 => ?_) (fun c_1 => ?_)
      ·
        have tc_1 : (6 : Int) ≤ (nI i4).toInt := Int32.le_iff_toInt_le.mp c_1
        refine lv_aload_n hx hb dX5_readNumber_49 rfl (lvA2 hl) ?_
        refine vp_callSi (runV_rxa (As := []) (rest := []) S (q_Rpeek l D cI cB cZ zz qq vv bt g ad c4 I4 F4  hI4 (by omega) (by omega) (by omega) (by omega)) kV_RX5_43 hK hXS hS hP 3 xo_3 rfl rfl ⟨Nat.le_of_ble_eq_true rfl, Nat.le_of_ble_eq_true rfl⟩ ⟨Nat.le_of_ble_eq_true rfl, Nat.le_of_ble_eq_true rfl⟩ rfl hl.1 rfl (Nat.le_of_ble_eq_true rfl) dX5_readNumber_50) (fun r_2 h_3 => ?_)
        rw [((hfr4.2.2 40 (nml rfl)).trans heb)] at h_3
        obtain rfl : r_2 = pkS c4 bb := pkS_of h_3
        refine vp_callSi (runS_r (As := [.int (pkS c4 bb)]) (rest := []) S (q_l_isDigit l D cI cB cZ (pkS c4 bb)) kS_RX5_106 hK hP [] rfl ⟨Nat.le_of_ble_eq_true rfl, Nat.le_of_ble_eq_true rfl⟩ ⟨Nat.le_of_ble_eq_true rfl, Nat.le_of_ble_eq_true rfl⟩ rfl hl.1 rfl (Nat.le_of_ble_eq_true rfl) dX5_readNumber_53) (fun r_4 h_5 => ?_)
        rcases h_5 with ⟨rfl, h_5⟩ | ⟨rfl, h_5⟩
        ·
          have h_5 : 48 ≤ (pkS c4 bb).toInt ∧ (pkS c4 bb).toInt ≤ 57 := h_5
          refine lv_if_eq (tgt := 64) hx hb dX5_readNumber_56 rfl (fun h => absurd h cq_eq_1_0) (fun _ => ?_)
          refine lv_aload_n hx hb dX5_readNumber_59 rfl (lvA2 hl) ?_
          refine lv_iconst (v := 2) hx hb dX5_readNumber_60 kic_2 ?_
          have hFc := free_all hD hS hA
          refine va_callv (runV_xa (As := [.int 2]) (rest := []) S (q_Zfail l D cI cB cZ zz qq vv bt g ad c4 I4 F4 2 H.size hI4 (by omega) (by omega) (by omega) (by omega)) kV_RX5_47 hK hXS hS hFc hP hD 3 xo_3 rfl rfl ⟨Nat.le_of_ble_eq_true rfl, Nat.le_of_ble_eq_true rfl⟩ ⟨Nat.le_of_ble_eq_true rfl, Nat.le_of_ble_eq_true rfl⟩ rfl hl.1 rfl (Nat.le_of_ble_eq_true rfl) dX5_readNumber_61) hS (fun q _ h => hFc q h) hFc (fun u t H1 locs ht hvm wh_7 hB1 hz1 hk1 hS => ?_)
          obtain ⟨cn7, In7, Fn7⟩ := u
          obtain ⟨hP1, hD1⟩ := hB1
          rw [ht] at hP1
          have hP : va_P D vwCl (wX cI (D.1 99) zz g ad cn7 In7 Fn7) H1 := hP1
          have hD : va_D A (wX cI (D.1 99) zz g ad cn7 In7 Fn7) := hD1.weaken (fun _ _ _ h => hFc _ h)
          generalize H1 = H at hP hS ⊢
          have vh_7 : (fun c2 I2 F2 => Fr [32] [33] [] c4 I4 F4 c2 I2 F2 ∧ CBX c2 ∧ ((c2 31 = (c4 31) ∧ (c4 31) ≤ c2 32 ∧ c2 32 ≤ (c4 32)) ∧ FLRv 2 c4 I4 c2 I2)) cn7 In7 Fn7 := wh_7
          obtain ⟨hfc7, hIn7, h_7⟩ := vh_7
          obtain rfl : F4 = Fn7 := (funext (fun k => hfc7.2.2 k List.not_mem_nil)).symm
          have hf7 : Fr [31, 32] [33] [195, 301] cn In Fn cn7 In7 F4 := Fr.mo (Fr.tr hfr4 hfc7) (sbl rfl) (sbl rfl) (sbl rfl)
          replace hIn7 : CBXh cn7 := hIn7
          have : cn7 6 = (c4 6) := hfc7.1 6 (nml rfl)
          have : cn7 31 = (c4 31) := hfc7.1 31 (nml rfl)
          have hz_7 : ZS G (ad 4 1) N cn7 In7 F4 (resB (.ok (c4 31, z.2)) (fErr 2)) := ZS.failv (k := 2) (by decide) (by decide) hN hz_4 h_7.2
          have e1 : pk bb N (c4 31) = pkS c4 bb := ZS.pkx hz_4 rfl
          have ea := atm_num (o := z.2) en_4 (by first | exact Or.inl (by omega) | exact Or.inr (by rw [e1]; omega)) (by rw [ZS.pkx (b := bb) hz0 rfl]; exact hdig)
          have p6 := Nat.pow_le_pow_right (n := 10) (by decide) (show i4 ≤ 6 by omega)
          rw [if_pos (by rw [e1]; omega)] at ea
          refine lv_aload_n hx hb dX5_readNumber_64 rfl (lvA2 hl) ?_
          refine gf_RX5_20 S hK hP 3 xo_3 (v := .ref (ad 5 (ad 4 1))) rfl dX5_readNumber_65 ?_
          refine lv_iconst (v := 1) hx hb dX5_readNumber_68 kic_1 ?_
          refine lv_iload_n hx hb dX5_readNumber_69 rfl (lvA1 hl) ?_
          have hFc := free_all hD hS hA
          refine va_calli (runV_xa (As := [.int 1, .int (nI v4)]) (rest := []) S (q_Zadd l D cI cB cZ zz qq vv bt g ad cn7 In7 F4 (ad 4 1) 1 (nI v4) H.size hIn7 (by omega) (by rw [hf7.2.2 199 (nml rfl)]; exact h9)) kV_RX5_75 hK hXS hS hFc hP hD _ (xf_7 (show (ad 4 1) < (cn7 6) by omega)) rfl rfl ⟨Nat.le_of_ble_eq_true rfl, Nat.le_of_ble_eq_true rfl⟩ ⟨Nat.le_of_ble_eq_true rfl, Nat.le_of_ble_eq_true rfl⟩ rfl hl.1 rfl (Nat.le_of_ble_eq_true rfl) dX5_readNumber_70) hS (fun q _ h => hFc q h) hFc (fun r_9 u t H1 locs ht hvm wh_10 hB1 hz1 hk1 hS => ?_)
          obtain ⟨cn10, In10, Fn10⟩ := u
          obtain ⟨hP1, hD1⟩ := hB1
          rw [ht] at hP1
          have hP : va_P D vwCl (wX cI (D.1 99) zz g ad cn10 In10 Fn10) H1 := hP1
          have hD : va_D A (wX cI (D.1 99) zz g ad cn10 In10 Fn10) := hD1.weaken (fun _ _ _ h => hFc _ h)
          generalize H1 = H at hP hS ⊢
          have vh_10 : (fun r c2 I2 F2 => Fr [] [] [195, 301] cn7 In7 F4 c2 I2 F2 ∧ CBX c2 ∧ (addR (ad 4 1) 1 (nI v4) F4 F2 ∧ r = ((F4 195)) (ad 4 1) ∧ KPT (ad 4 1) F4 F2)) r_9 cn10 In10 Fn10 := wh_10
          obtain ⟨hfc10, hIn10, h_10⟩ := vh_10
          obtain rfl : cn7 = cn10 := (funext (fun k => hfc10.1 k List.not_mem_nil)).symm
          obtain rfl : In7 = In10 := (funext (fun k => hfc10.2.1 k List.not_mem_nil)).symm
          have hf10 : Fr [31, 32] [33] [195, 301] cn In Fn cn7 In7 Fn10 := Fr.mo (Fr.tr hf7 hfc10) (sbl rfl) (sbl rfl) (sbl rfl)
          replace hIn10 : CBXh cn7 := hIn10
          have hz_10 : ZS G (ad 4 1) N cn7 In7 Fn10 ((resB (.ok (c4 31, z.2)) (fErr 2))) := ZS.er h_10.2.2 hz_7 (fun z w => by cases w) (fun e w => w) (hfc10.1 31 (nml rfl)) (hfc10.1 32 (nml rfl)) (hfc10.2.1 33 (nml rfl))
          refine lv_pop hx hb dX5_readNumber_73 rfl ?_
          exact W.vret hx hb hr (fun t ht hW => ⟨⟨(cn7, In7, Fn10), rfl, ⟨(Fr.mo hf10 (sbl rfl) (sbl rfl) (sbl rfl)), hIn10, (by show (cn 31 ≤ cn7 31 ∧ cn7 31 ≤ cn7 32 ∧ cn7 32 ≤ cn 32) ∧ ZS G (ad 4 1) N cn7 In7 Fn10 (resB x (atmL bb N)); exact ⟨by show cn 31 ≤ (cn7 31) ∧ (cn7 31) ≤ (cn7 32) ∧ (cn7 32) ≤ cn 32; omega, (by rw [ex0]; show ZS _ _ _ _ _ _ (atmL bb N z.1 z.2); rw [ea]; exact hz_10)⟩)⟩, by rw [ht]; exact hP, hD⟩, hS.F ht⟩) hS.2.2 dX5_readNumber_74
        ·
          have h_5 : ¬ (48 ≤ (pkS c4 bb).toInt ∧ (pkS c4 bb).toInt ≤ 57) := h_5
          refine lv_if_eq (tgt := 64) hx hb dX5_readNumber_56 rfl (fun _ => ?_) (fun h => absurd h cq_eq_0_0)
          have e1 : pk bb N (c4 31) = pkS c4 bb := ZS.pkx hz_4 rfl
          have ea := atm_num (o := z.2) en_4 (by first | exact Or.inl (by omega) | exact Or.inr (by rw [e1]; omega)) (by rw [ZS.pkx (b := bb) hz0 rfl]; exact hdig)
          have p6 := Nat.pow_le_pow_right (n := 10) (by decide) (show i4 ≤ 6 by omega)
          rw [if_neg (by rw [e1]; omega)] at ea
          have el : z.1 < c4 31 := atm_adv ea
          have sl_4 : SL 1 (.ok (c4 31, z.2) : ResT) := fun y w => by
            have w : (c4 31, z.2) = y := Except.ok.inj w
            rw [← w]
            have a6 : z.2.length ≤ z.1 := hz0.1.2.2.2.2.2
            show z.2.length + 1 ≤ c4 31
            omega
          refine lv_aload_n hx hb dX5_readNumber_64 rfl (lvA2 hl) ?_
          refine gf_RX5_20 S hK hP 3 xo_3 (v := .ref (ad 5 (ad 4 1))) rfl dX5_readNumber_65 ?_
          refine lv_iconst (v := 1) hx hb dX5_readNumber_68 kic_1 ?_
          refine lv_iload_n hx hb dX5_readNumber_69 rfl (lvA1 hl) ?_
          have hFc := free_all hD hS hA
          refine va_calli (runV_xa (As := [.int 1, .int (nI v4)]) (rest := []) S (q_Zadd l D cI cB cZ zz qq vv bt g ad c4 I4 F4 (ad 4 1) 1 (nI v4) H.size hI4 (by omega) (by rw [hfr4.2.2 199 (nml rfl)]; exact h9)) kV_RX5_75 hK hXS hS hFc hP hD _ (xf_7 (show (ad 4 1) < (c4 6) by omega)) rfl rfl ⟨Nat.le_of_ble_eq_true rfl, Nat.le_of_ble_eq_true rfl⟩ ⟨Nat.le_of_ble_eq_true rfl, Nat.le_of_ble_eq_true rfl⟩ rfl hl.1 rfl (Nat.le_of_ble_eq_true rfl) dX5_readNumber_70) hS (fun q _ h => hFc q h) hFc (fun r_12 u t H1 locs ht hvm wh_13 hB1 hz1 hk1 hS => ?_)
          obtain ⟨cn13, In13, Fn13⟩ := u
          obtain ⟨hP1, hD1⟩ := hB1
          rw [ht] at hP1
          have hP : va_P D vwCl (wX cI (D.1 99) zz g ad cn13 In13 Fn13) H1 := hP1
          have hD : va_D A (wX cI (D.1 99) zz g ad cn13 In13 Fn13) := hD1.weaken (fun _ _ _ h => hFc _ h)
          generalize H1 = H at hP hS ⊢
          have vh_13 : (fun r c2 I2 F2 => Fr [] [] [195, 301] c4 I4 F4 c2 I2 F2 ∧ CBX c2 ∧ (addR (ad 4 1) 1 (nI v4) F4 F2 ∧ r = ((F4 195)) (ad 4 1) ∧ KPT (ad 4 1) F4 F2)) r_12 cn13 In13 Fn13 := wh_13
          obtain ⟨hfc13, hIn13, h_13⟩ := vh_13
          obtain rfl : c4 = cn13 := (funext (fun k => hfc13.1 k List.not_mem_nil)).symm
          obtain rfl : I4 = In13 := (funext (fun k => hfc13.2.1 k List.not_mem_nil)).symm
          have hf13 : Fr [31, 32] [33] [195, 301] cn In Fn c4 I4 Fn13 := Fr.mo (Fr.tr hfr4 hfc13) (sbl rfl) (sbl rfl) (sbl rfl)
          replace hIn13 : CBXh c4 := hIn13
          have hj_13 := ZS.addj hz_4 h_13.2.1
          have hz_13 : ZS G (ad 4 1) N c4 I4 Fn13 (resB (.ok (c4 31, z.2)) (fAdd 1 v4)) := ZS.addx h_13.2.2 hz_4 sl_4 hN ((congrFun (hfc13.2.2 199 (nml rfl)) _).symm.trans ((congrFun (hf13.2.2 199 (nml rfl)) _).trans he9)) ⟨(by decide), by decide⟩ ⟨rfl, by omega⟩ h_13.1 (hfc13.1 31 (nml rfl)) (hfc13.1 32 (nml rfl)) (hfc13.2.1 33 (nml rfl))
          refine lv_pop hx hb dX5_readNumber_73 rfl ?_
          exact W.vret hx hb hr (fun t ht hW => ⟨⟨(c4, I4, Fn13), rfl, ⟨(Fr.mo hf13 (sbl rfl) (sbl rfl) (sbl rfl)), hIn13, (by show (cn 31 ≤ c4 31 ∧ c4 31 ≤ c4 32 ∧ c4 32 ≤ cn 32) ∧ ZS G (ad 4 1) N c4 I4 Fn13 (resB x (atmL bb N)); exact ⟨by show cn 31 ≤ (c4 31) ∧ (c4 31) ≤ (c4 32) ∧ (c4 32) ≤ cn 32; omega, (by rw [ex0]; show ZS _ _ _ _ _ _ (atmL bb N z.1 z.2); rw [ea]; exact hz_13)⟩)⟩, by rw [ht]; exact hP, hD⟩, hS.F ht⟩) hS.2.2 dX5_readNumber_74
      ·
        have tc_1 : ((nI i4).toInt : Int) < 6 := Int32.lt_iff_toInt_lt.mp (Int32.not_le.mp c_1)
        refine lv_aload_n hx hb (oc_42 10 (aq_10 shX5_readNumber_0)) rfl (lvA2 hl) ?_
        refine vp_callSi (runV_rxa (As := []) (rest := []) S (q_Rpeek l D cI cB cZ zz qq vv bt g ad c4 I4 F4  hI4 (by omega) (by omega) (by omega) (by omega)) kV_RX5_43 hK hXS hS hP 3 xo_3 rfl rfl ⟨Nat.le_of_ble_eq_true rfl, Nat.le_of_ble_eq_true rfl⟩ ⟨Nat.le_of_ble_eq_true rfl, Nat.le_of_ble_eq_true rfl⟩ rfl hl.1 rfl (Nat.le_of_ble_eq_true rfl) (oc_182 11 (aq_11 shX5_readNumber_0) uw_0_43)) (fun r_15 h_16 => ?_)
        rw [((hfr4.2.2 40 (nml rfl)).trans heb)] at h_16
        obtain rfl : r_15 = pkS c4 bb := pkS_of h_16
        refine vp_callSi (runS_r (As := [.int (pkS c4 bb)]) (rest := []) S (q_l_isDigit l D cI cB cZ (pkS c4 bb)) kS_RX5_106 hK hP [] rfl ⟨Nat.le_of_ble_eq_true rfl, Nat.le_of_ble_eq_true rfl⟩ ⟨Nat.le_of_ble_eq_true rfl, Nat.le_of_ble_eq_true rfl⟩ rfl hl.1 rfl (Nat.le_of_ble_eq_true rfl) (oc_184 14 (aq_14 shX5_readNumber_0) uw_0_106)) (fun r_17 h_18 => ?_)
        rcases h_18 with ⟨rfl, h_18⟩ | ⟨rfl, h_18⟩
        ·
          have h_18 : 48 ≤ (pkS c4 bb).toInt ∧ (pkS c4 bb).toInt ≤ 57 := h_18
          refine lv_if_eq (tgt := 49) hx hb dX5_readNumber_17 rfl (fun h => absurd h cq_eq_1_0) (fun _ => ?_)
          refine lv_bipush (v := 10) hx hb (oc_16 20 (aq_20 shX5_readNumber_0) sgb_10) kbc_10 ?_
          refine lv_iload_n hx hb (oc_27 22 (aq_22 shX5_readNumber_0)) rfl (lvA1 hl) ?_
          refine lv_imul hx hb (oc_104 23 (aq_23 shX5_readNumber_0)) ?_
          refine lv_topi (fun y_19 ey_19 => ?_)
          obtain rfl : y_19 = (nI (10 * v4)) := ey_19.trans (pk_mul 10 v4)
          refine lv_aload_n hx hb (oc_42 24 shX5_readNumber_24) rfl (lvA2 hl) ?_
          refine vp_callSi (runV_rxa (As := []) (rest := [.int (nI (10 * v4))]) S (q_Rpeek l D cI cB cZ zz qq vv bt g ad c4 I4 F4  hI4 (by omega) (by omega) (by omega) (by omega)) kV_RX5_43 hK hXS hS hP 3 xo_3 rfl rfl ⟨Nat.le_of_ble_eq_true rfl, Nat.le_of_ble_eq_true rfl⟩ ⟨Nat.le_of_ble_eq_true rfl, Nat.le_of_ble_eq_true rfl⟩ rfl hl.1 rfl (Nat.le_of_ble_eq_true rfl) (oc_182 25 (aq_1 shX5_readNumber_24) uw_0_43)) (fun r_20 h_21 => ?_)
          rw [((hfr4.2.2 40 (nml rfl)).trans heb)] at h_21
          obtain rfl : r_20 = pkS c4 bb := pkS_of h_21
          refine lv_iadd hx hb (oc_96 28 (aq_4 shX5_readNumber_24)) ?_
          refine lv_bipush (v := 48) hx hb (oc_16 29 (aq_5 shX5_readNumber_24) sgb_48) kbc_48 ?_
          refine lv_isub hx hb (oc_100 31 (aq_7 shX5_readNumber_24)) ?_
          refine lv_topi (fun y_22 ey_22 => ?_)
          obtain rfl : y_22 = (nI (10 * v4 + ((pkS c4 bb).toInt.toNat - 48))) := ey_22.trans (dig_add (by omega))
          refine lv_istore_n (lv' := [(1, .int (nI (10 * v4 + ((pkS c4 bb).toInt.toNat - 48)))), (2, .int (nI i4)), (0, .ref (g 6))]) hx hb (oc_60 32 (aq_8 shX5_readNumber_24)) rfl hl (ltb rfl) rfl (fun ls hl => ?_)
          refine lv_aload_n hx hb (oc_42 33 (aq_9 shX5_readNumber_24)) rfl (lvA2 hl) ?_
          refine lv_dup hx hb (oc_89 34 (aq_10 shX5_readNumber_24)) rfl ?_
          refine gf_RX5_31 S hK hP 3 xo_3 (v := .int (nI (c4 31))) rfl (oc_180 35 (aq_11 shX5_readNumber_24) uw_0_31) ?_
          refine lv_iconst (v := 1) hx hb (oc_4 38 (aq_14 shX5_readNumber_24)) kic_1 ?_
          refine lv_iadd hx hb (oc_96 39 (aq_15 shX5_readNumber_24)) ?_
          refine lv_topi (fun y_23 ey_23 => ?_)
          obtain rfl : y_23 = (nI ((c4 31) + 1)) := ey_23.trans (nI_add (c4 31) 1)
          refine pf_RX5_31 S hK hP hD hS 3 xo_3 (v := .int (nI ((c4 31) + 1))) (Nat.le_of_ble_eq_true rfl) rfl rfl (oc_181 40 (aq_16 shX5_readNumber_24) uw_0_31) (fun H locs hP hD hS => ?_)
          have hP : va_P D vwCl (wX cI (D.1 99) zz g ad (va_up c4 31 ((c4 31) + 1)) I4 F4) H := va_P_eq (xsf_3_3) hP
          have hD : va_D A (wX cI (D.1 99) zz g ad (va_up c4 31 ((c4 31) + 1)) I4 F4) := va_D_eq (xsf_3_3) hD
          have hz_23 : ZS G (ad 4 1) N (va_up c4 31 ((c4 31) + 1)) I4 F4 (resB (.ok (c4 31, z.2)) fInc) := ZS.incx hz_4 (by omega) rfl rfl rfl
          refine lv_iinc (v := (nI (i4 + 1))) (lv' := [(2, .int (nI (i4 + 1))), (1, .int (nI (10 * v4 + ((pkS c4 bb).toInt.toNat - 48)))), (0, .ref (g 6))]) hx hb (oc_132 43 (aq_19 shX5_readNumber_24) ub_2 sgb_1) hl (k := 1) rfl (nI_1 _) (ltb rfl) rfl (fun ls hl => ?_)
          refine lv_goto (tgt := 4) hx hb (oc_167 46 (aq_22 shX5_readNumber_24) sgw_255_214) rfl ?_
          exact ih4 (i4 + 1) (10 * v4 + ((pkS c4 bb).toInt.toNat - 48)) (va_up c4 31 ((c4 31) + 1)) I4 F4 _ _ (by omega) ⟨(by omega), (Fr.mo (Fr.c 31 hfr4) (sbl rfl) (sbl rfl) (sbl rfl)), (CBX.n (k := 31) (v := ((c4 31) + 1)) hI4 (by decide)), (show cn 31 ≤ ((c4 31) + 1) ∧ ((c4 31) + 1) ≤ (c4 32) ∧ (c4 32) ≤ cn 32 by omega), ⟨hz_23, (by have e1 : pk bb N (c4 31) = pkS c4 bb := ZS.pkx hz_4 rfl; have e2 := num_step (b := bb) (n := N) (p := c4 31) (f := 6 - (i4 + 1)) (v := v4) (by rw [e1]; omega); rw [e1, show 6 - (i4 + 1) + 1 = 6 - i4 by omega] at e2; exact e2.trans en_4), (by rw [Nat.pow_succ]; omega)⟩⟩ hP hD hS ls (lv_sub hl [0, 1, 2] rfl)
        ·
          have h_18 : ¬ (48 ≤ (pkS c4 bb).toInt ∧ (pkS c4 bb).toInt ≤ 57) := h_18
          refine lv_if_eq (tgt := 49) hx hb dX5_readNumber_17 rfl (fun _ => ?_) (fun h => absurd h cq_eq_0_0)
          refine lv_aload_n hx hb dX5_readNumber_49 rfl (lvA2 hl) ?_
          refine vp_callSi (runV_rxa (As := []) (rest := []) S (q_Rpeek l D cI cB cZ zz qq vv bt g ad c4 I4 F4  hI4 (by omega) (by omega) (by omega) (by omega)) kV_RX5_43 hK hXS hS hP 3 xo_3 rfl rfl ⟨Nat.le_of_ble_eq_true rfl, Nat.le_of_ble_eq_true rfl⟩ ⟨Nat.le_of_ble_eq_true rfl, Nat.le_of_ble_eq_true rfl⟩ rfl hl.1 rfl (Nat.le_of_ble_eq_true rfl) dX5_readNumber_50) (fun r_25 h_26 => ?_)
          rw [((hfr4.2.2 40 (nml rfl)).trans heb)] at h_26
          obtain rfl : r_25 = pkS c4 bb := pkS_of h_26
          refine vp_callSi (runS_r (As := [.int (pkS c4 bb)]) (rest := []) S (q_l_isDigit l D cI cB cZ (pkS c4 bb)) kS_RX5_106 hK hP [] rfl ⟨Nat.le_of_ble_eq_true rfl, Nat.le_of_ble_eq_true rfl⟩ ⟨Nat.le_of_ble_eq_true rfl, Nat.le_of_ble_eq_true rfl⟩ rfl hl.1 rfl (Nat.le_of_ble_eq_true rfl) dX5_readNumber_53) (fun r_27 h_28 => ?_)
          rcases h_28 with ⟨rfl, h_28⟩ | ⟨rfl, h_28⟩
          ·
            have h_28 : 48 ≤ (pkS c4 bb).toInt ∧ (pkS c4 bb).toInt ≤ 57 := h_28
            refine lv_if_eq (tgt := 64) hx hb dX5_readNumber_56 rfl (fun h => absurd h cq_eq_1_0) (fun _ => ?_)
            refine lv_aload_n hx hb dX5_readNumber_59 rfl (lvA2 hl) ?_
            refine lv_iconst (v := 2) hx hb dX5_readNumber_60 kic_2 ?_
            have hFc := free_all hD hS hA
            refine va_callv (runV_xa (As := [.int 2]) (rest := []) S (q_Zfail l D cI cB cZ zz qq vv bt g ad c4 I4 F4 2 H.size hI4 (by omega) (by omega) (by omega) (by omega)) kV_RX5_47 hK hXS hS hFc hP hD 3 xo_3 rfl rfl ⟨Nat.le_of_ble_eq_true rfl, Nat.le_of_ble_eq_true rfl⟩ ⟨Nat.le_of_ble_eq_true rfl, Nat.le_of_ble_eq_true rfl⟩ rfl hl.1 rfl (Nat.le_of_ble_eq_true rfl) dX5_readNumber_61) hS (fun q _ h => hFc q h) hFc (fun u t H1 locs ht hvm wh_30 hB1 hz1 hk1 hS => ?_)
            obtain ⟨cn30, In30, Fn30⟩ := u
            obtain ⟨hP1, hD1⟩ := hB1
            rw [ht] at hP1
            have hP : va_P D vwCl (wX cI (D.1 99) zz g ad cn30 In30 Fn30) H1 := hP1
            have hD : va_D A (wX cI (D.1 99) zz g ad cn30 In30 Fn30) := hD1.weaken (fun _ _ _ h => hFc _ h)
            generalize H1 = H at hP hS ⊢
            have vh_30 : (fun c2 I2 F2 => Fr [32] [33] [] c4 I4 F4 c2 I2 F2 ∧ CBX c2 ∧ ((c2 31 = (c4 31) ∧ (c4 31) ≤ c2 32 ∧ c2 32 ≤ (c4 32)) ∧ FLRv 2 c4 I4 c2 I2)) cn30 In30 Fn30 := wh_30
            obtain ⟨hfc30, hIn30, h_30⟩ := vh_30
            obtain rfl : F4 = Fn30 := (funext (fun k => hfc30.2.2 k List.not_mem_nil)).symm
            have hf30 : Fr [31, 32] [33] [195, 301] cn In Fn cn30 In30 F4 := Fr.mo (Fr.tr hfr4 hfc30) (sbl rfl) (sbl rfl) (sbl rfl)
            replace hIn30 : CBXh cn30 := hIn30
            have : cn30 6 = (c4 6) := hfc30.1 6 (nml rfl)
            have : cn30 31 = (c4 31) := hfc30.1 31 (nml rfl)
            have hz_30 : ZS G (ad 4 1) N cn30 In30 F4 (resB (.ok (c4 31, z.2)) (fErr 2)) := ZS.failv (k := 2) (by decide) (by decide) hN hz_4 h_30.2
            have e1 : pk bb N (c4 31) = pkS c4 bb := ZS.pkx hz_4 rfl
            have ea := atm_num (o := z.2) en_4 (by first | exact Or.inl (by omega) | exact Or.inr (by rw [e1]; omega)) (by rw [ZS.pkx (b := bb) hz0 rfl]; exact hdig)
            have p6 := Nat.pow_le_pow_right (n := 10) (by decide) (show i4 ≤ 6 by omega)
            rw [if_pos (by rw [e1]; omega)] at ea
            refine lv_aload_n hx hb dX5_readNumber_64 rfl (lvA2 hl) ?_
            refine gf_RX5_20 S hK hP 3 xo_3 (v := .ref (ad 5 (ad 4 1))) rfl dX5_readNumber_65 ?_
            refine lv_iconst (v := 1) hx hb dX5_readNumber_68 kic_1 ?_
            refine lv_iload_n hx hb dX5_readNumber_69 rfl (lvA1 hl) ?_
            have hFc := free_all hD hS hA
            refine va_calli (runV_xa (As := [.int 1, .int (nI v4)]) (rest := []) S (q_Zadd l D cI cB cZ zz qq vv bt g ad cn30 In30 F4 (ad 4 1) 1 (nI v4) H.size hIn30 (by omega) (by rw [hf30.2.2 199 (nml rfl)]; exact h9)) kV_RX5_75 hK hXS hS hFc hP hD _ (xf_7 (show (ad 4 1) < (cn30 6) by omega)) rfl rfl ⟨Nat.le_of_ble_eq_true rfl, Nat.le_of_ble_eq_true rfl⟩ ⟨Nat.le_of_ble_eq_true rfl, Nat.le_of_ble_eq_true rfl⟩ rfl hl.1 rfl (Nat.le_of_ble_eq_true rfl) dX5_readNumber_70) hS (fun q _ h => hFc q h) hFc (fun r_32 u t H1 locs ht hvm wh_33 hB1 hz1 hk1 hS => ?_)
            obtain ⟨cn33, In33, Fn33⟩ := u
            obtain ⟨hP1, hD1⟩ := hB1
            rw [ht] at hP1
            have hP : va_P D vwCl (wX cI (D.1 99) zz g ad cn33 In33 Fn33) H1 := hP1
            have hD : va_D A (wX cI (D.1 99) zz g ad cn33 In33 Fn33) := hD1.weaken (fun _ _ _ h => hFc _ h)
            generalize H1 = H at hP hS ⊢
            have vh_33 : (fun r c2 I2 F2 => Fr [] [] [195, 301] cn30 In30 F4 c2 I2 F2 ∧ CBX c2 ∧ (addR (ad 4 1) 1 (nI v4) F4 F2 ∧ r = ((F4 195)) (ad 4 1) ∧ KPT (ad 4 1) F4 F2)) r_32 cn33 In33 Fn33 := wh_33
            obtain ⟨hfc33, hIn33, h_33⟩ := vh_33
            obtain rfl : cn30 = cn33 := (funext (fun k => hfc33.1 k List.not_mem_nil)).symm
            obtain rfl : In30 = In33 := (funext (fun k => hfc33.2.1 k List.not_mem_nil)).symm
            have hf33 : Fr [31, 32] [33] [195, 301] cn In Fn cn30 In30 Fn33 := Fr.mo (Fr.tr hf30 hfc33) (sbl rfl) (sbl rfl) (sbl rfl)
            replace hIn33 : CBXh cn30 := hIn33
            have hz_33 : ZS G (ad 4 1) N cn30 In30 Fn33 ((resB (.ok (c4 31, z.2)) (fErr 2))) := ZS.er h_33.2.2 hz_30 (fun z w => by cases w) (fun e w => w) (hfc33.1 31 (nml rfl)) (hfc33.1 32 (nml rfl)) (hfc33.2.1 33 (nml rfl))
            refine lv_pop hx hb dX5_readNumber_73 rfl ?_
            exact W.vret hx hb hr (fun t ht hW => ⟨⟨(cn30, In30, Fn33), rfl, ⟨(Fr.mo hf33 (sbl rfl) (sbl rfl) (sbl rfl)), hIn33, (by show (cn 31 ≤ cn30 31 ∧ cn30 31 ≤ cn30 32 ∧ cn30 32 ≤ cn 32) ∧ ZS G (ad 4 1) N cn30 In30 Fn33 (resB x (atmL bb N)); exact ⟨by show cn 31 ≤ (cn30 31) ∧ (cn30 31) ≤ (cn30 32) ∧ (cn30 32) ≤ cn 32; omega, (by rw [ex0]; show ZS _ _ _ _ _ _ (atmL bb N z.1 z.2); rw [ea]; exact hz_33)⟩)⟩, by rw [ht]; exact hP, hD⟩, hS.F ht⟩) hS.2.2 dX5_readNumber_74
          ·
            have h_28 : ¬ (48 ≤ (pkS c4 bb).toInt ∧ (pkS c4 bb).toInt ≤ 57) := h_28
            refine lv_if_eq (tgt := 64) hx hb dX5_readNumber_56 rfl (fun _ => ?_) (fun h => absurd h cq_eq_0_0)
            have e1 : pk bb N (c4 31) = pkS c4 bb := ZS.pkx hz_4 rfl
            have ea := atm_num (o := z.2) en_4 (by first | exact Or.inl (by omega) | exact Or.inr (by rw [e1]; omega)) (by rw [ZS.pkx (b := bb) hz0 rfl]; exact hdig)
            have p6 := Nat.pow_le_pow_right (n := 10) (by decide) (show i4 ≤ 6 by omega)
            rw [if_neg (by rw [e1]; omega)] at ea
            have el : z.1 < c4 31 := atm_adv ea
            have sl_4 : SL 1 (.ok (c4 31, z.2) : ResT) := fun y w => by
              have w : (c4 31, z.2) = y := Except.ok.inj w
              rw [← w]
              have a6 : z.2.length ≤ z.1 := hz0.1.2.2.2.2.2
              show z.2.length + 1 ≤ c4 31
              omega
            refine lv_aload_n hx hb dX5_readNumber_64 rfl (lvA2 hl) ?_
            refine gf_RX5_20 S hK hP 3 xo_3 (v := .ref (ad 5 (ad 4 1))) rfl dX5_readNumber_65 ?_
            refine lv_iconst (v := 1) hx hb dX5_readNumber_68 kic_1 ?_
            refine lv_iload_n hx hb dX5_readNumber_69 rfl (lvA1 hl) ?_
            have hFc := free_all hD hS hA
            refine va_calli (runV_xa (As := [.int 1, .int (nI v4)]) (rest := []) S (q_Zadd l D cI cB cZ zz qq vv bt g ad c4 I4 F4 (ad 4 1) 1 (nI v4) H.size hI4 (by omega) (by rw [hfr4.2.2 199 (nml rfl)]; exact h9)) kV_RX5_75 hK hXS hS hFc hP hD _ (xf_7 (show (ad 4 1) < (c4 6) by omega)) rfl rfl ⟨Nat.le_of_ble_eq_true rfl, Nat.le_of_ble_eq_true rfl⟩ ⟨Nat.le_of_ble_eq_true rfl, Nat.le_of_ble_eq_true rfl⟩ rfl hl.1 rfl (Nat.le_of_ble_eq_true rfl) dX5_readNumber_70) hS (fun q _ h => hFc q h) hFc (fun r_35 u t H1 locs ht hvm wh_36 hB1 hz1 hk1 hS => ?_)
            obtain ⟨cn36, In36, Fn36⟩ := u
            obtain ⟨hP1, hD1⟩ := hB1
            rw [ht] at hP1
            have hP : va_P D vwCl (wX cI (D.1 99) zz g ad cn36 In36 Fn36) H1 := hP1
            have hD : va_D A (wX cI (D.1 99) zz g ad cn36 In36 Fn36) := hD1.weaken (fun _ _ _ h => hFc _ h)
            generalize H1 = H at hP hS ⊢
            have vh_36 : (fun r c2 I2 F2 => Fr [] [] [195, 301] c4 I4 F4 c2 I2 F2 ∧ CBX c2 ∧ (addR (ad 4 1) 1 (nI v4) F4 F2 ∧ r = ((F4 195)) (ad 4 1) ∧ KPT (ad 4 1) F4 F2)) r_35 cn36 In36 Fn36 := wh_36
            obtain ⟨hfc36, hIn36, h_36⟩ := vh_36
            obtain rfl : c4 = cn36 := (funext (fun k => hfc36.1 k List.not_mem_nil)).symm
            obtain rfl : I4 = In36 := (funext (fun k => hfc36.2.1 k List.not_mem_nil)).symm
            have hf36 : Fr [31, 32] [33] [195, 301] cn In Fn c4 I4 Fn36 := Fr.mo (Fr.tr hfr4 hfc36) (sbl rfl) (sbl rfl) (sbl rfl)
            replace hIn36 : CBXh c4 := hIn36
            have hj_36 := ZS.addj hz_4 h_36.2.1
            have hz_36 : ZS G (ad 4 1) N c4 I4 Fn36 (resB (.ok (c4 31, z.2)) (fAdd 1 v4)) := ZS.addx h_36.2.2 hz_4 sl_4 hN ((congrFun (hfc36.2.2 199 (nml rfl)) _).symm.trans ((congrFun (hf36.2.2 199 (nml rfl)) _).trans he9)) ⟨(by decide), by decide⟩ ⟨rfl, by omega⟩ h_36.1 (hfc36.1 31 (nml rfl)) (hfc36.1 32 (nml rfl)) (hfc36.2.1 33 (nml rfl))
            refine lv_pop hx hb dX5_readNumber_73 rfl ?_
            exact W.vret hx hb hr (fun t ht hW => ⟨⟨(c4, I4, Fn36), rfl, ⟨(Fr.mo hf36 (sbl rfl) (sbl rfl) (sbl rfl)), hIn36, (by show (cn 31 ≤ c4 31 ∧ c4 31 ≤ c4 32 ∧ c4 32 ≤ cn 32) ∧ ZS G (ad 4 1) N c4 I4 Fn36 (resB x (atmL bb N)); exact ⟨by show cn 31 ≤ (c4 31) ∧ (c4 31) ≤ (c4 32) ∧ (c4 32) ≤ cn 32; omega, (by rw [ex0]; show ZS _ _ _ _ _ _ (atmL bb N z.1 z.2); rw [ea]; exact hz_36)⟩)⟩, by rw [ht]; exact hP, hD⟩, hS.F ht⟩) hS.2.2 dX5_readNumber_74
  exact lp_4 _ 0 0 cn In Fn _ _ (Nat.lt_succ_self _) ⟨(by omega), (Fr.mo Fr.rf (sbl rfl) (sbl rfl) (sbl rfl)), hB, (show cn 31 ≤ (cn 31) ∧ (cn 31) ≤ (cn 32) ∧ (cn 32) ≤ cn 32 by omega), ⟨(by have e : z = (cn 31, z.2) := Prod.ext hz31.symm rfl; rw [← e]; exact hz0), (by rw [hz31]), (by decide)⟩⟩ hP hD hS ls (lv_sub hl [0, 1, 2] rfl)
set_option maxRecDepth 100000 in
set_option maxHeartbeats 4000000 in
theorem gq_ZreadFactor6 (l : Launch) (D : va_G) (cI cB cZ : ClassId) (zz qq vv : Nat) (bt : Nat → Int32) (g : Nat → Nat) (o : Int32) (hbt : BTL bt) (ho : 6 ≤ o.toInt) : RDZ yX5_readFactor cX5_readFactor 4 l D cI cB cZ zz qq vv bt g o (4) (fun bb N => facL bb N (smK bb N 0)) := by
  intro ad cn In Fn G bb N x sz hB hR h1 h3 h4 h9 he9 hN heb hby hz
  refine Met.ofW (cc := cX5_readFactor) (maxL := 4) (ret := none) (by decide) rfl ?_
  intro p e s m args below meth c s₁ B hml hv
  obtain ⟨rfl, hsz, hP, hK, hD0, hXS⟩ := hv
  have hx := B.exec
  have hb := B.bytes
  have hr := B.returns
  have hts := atoms_spec (ws := (CWS yX5_readFactor cX5_readFactor 4 none)) B.pre
  have hown : s.vm.findClass RX5 = some m.cls := findClass_of_methodNamed B.named
  have hlocks := B.notSynchronized
  have S : SF p m c cX5_readFactor 4 s ([.ref (g 6), .int o]).toArray RX5 := ⟨hx, hb, hml, hown, fun w h => hts w (List.mem_cons_of_mem _ h)⟩
  subst hsz
  have hD := hD0.self (sz := s.heap.size)
  generalize hAe : va_A (wX cI (D.1 99) zz g ad cn In Fn) s.heap.size = A at hD hXS ⊢
  have hA : ∀ q : Nat, s.heap.size ≤ q → A q := fun q h => by rw [← hAe]; exact Or.inr h
  have hS : va_S A s.heap s.heap [] := va_S.rf
  have hl := lv_entry ([.ref (g 6), .int o]) (n := 4) (Nat.le_of_ble_eq_true rfl)
  rw [lg_entry_eq]
  generalize (lg_sl ([.ref (g 6), .int o]) ++ List.replicate (4 - (lg_sl ([.ref (g 6), .int o])).length) Slot.unset).toArray = ls at hl ⊢
  have hl : lv_has ls 4 [(0, .ref (g 6)), (1, .int o)] := hl
  replace hB : CBXh cn := hB
  have sl := ZS.sl hz
  refine lv_aload_n hx hb dX5_readFactor_0 rfl (lvA0 hl) ?_
  refine vp_callSi (runV_rxa (As := []) (rest := []) S (q_Rpeek l D cI cB cZ zz qq vv bt g ad cn In Fn  hB (by omega) (by omega) (by omega) (by omega)) kV_RX5_43 hK hXS hS hP 3 xo_3 rfl rfl ⟨Nat.le_of_ble_eq_true rfl, Nat.le_of_ble_eq_true rfl⟩ ⟨Nat.le_of_ble_eq_true rfl, Nat.le_of_ble_eq_true rfl⟩ rfl hl.1 rfl (Nat.le_of_ble_eq_true rfl) dX5_readFactor_1) (fun r_1 h_2 => ?_)
  rw [heb] at h_2
  obtain rfl : r_1 = pkS cn bb := pkS_of h_2
  refine lv_istore_n (lv' := [(2, .int (pkS cn bb)), (0, .ref (g 6)), (1, .int o)]) hx hb dX5_readFactor_4 rfl hl (ltb rfl) rfl (fun ls hl => ?_)
  refine lv_iload_n hx hb dX5_readFactor_5 rfl (lvA0 hl) ?_
  refine lv_iconst (v := (-1)) hx hb dX5_readFactor_6 kic_m1 ?_
  refine lv_icmp_ne (tgt := 14) hx hb dX5_readFactor_7 rfl (fun c_3 => ?_) (fun c_3 => ?_)
  ·
    have tc_3 : ((pkS cn bb).toInt : Int) ≠ (-1) := fun q => c_3 (Int32.toInt_inj.mp q)
    refine va_ldcS hx hb hown hXS.2.2.2.2.2.2.2.1.2 dX5_readFactor_14 ?_
    refine lv_iload_n hx hb dX5_readFactor_16 rfl (lvA0 hl) ?_
    have hby9 : 0 ≤ (pkS cn bb).toInt ∧ (pkS cn bb).toInt ≤ 255 := by unfold pkS; rw [if_pos (by omega)]; exact hby _ (by omega)
    refine lv_i2c (v := (pkS cn bb)) hx hb dX5_readFactor_17 (i2c_id hby9) ?_
    refine vp_callSi (runV_rx (As := [.int (pkS cn bb)]) (rest := []) S (q_z_strIndex l D cI cB cZ zz qq vv bt (pkS cn bb) hby9) kV_RX5_100 hK hXS hS hP [] rfl (va_Orecv hXS.2.2.2.1 hS) ⟨Nat.le_of_ble_eq_true rfl, Nat.le_of_ble_eq_true rfl⟩ ⟨Nat.le_of_ble_eq_true rfl, Nat.le_of_ble_eq_true rfl⟩ rfl hl.1 rfl (Nat.le_of_ble_eq_true rfl) dX5_readFactor_18) (fun r_4 h_5 => ?_)
    have hix := ltr_ix hbt hby9 h_5
    refine lv_istore_n (lv' := [(3, .int r_4), (2, .int (pkS cn bb)), (0, .ref (g 6)), (1, .int o)]) hx hb dX5_readFactor_21 rfl hl (ltb rfl) rfl (fun ls hl => ?_)
    refine lv_iload_n hx hb dX5_readFactor_22 rfl (lvA1 hl) ?_
    refine lv_bipush (v := 91) hx hb dX5_readFactor_23 kbc_91 ?_
    refine lv_icmp_ne (tgt := 52) hx hb dX5_readFactor_25 rfl (fun c_6 => ?_) (fun c_6 => ?_)
    ·
      have tc_6 : ((pkS cn bb).toInt : Int) ≠ 91 := fun q => c_6 (Int32.toInt_inj.mp q)
      refine lv_iload_n hx hb dX5_readFactor_52 rfl (lvA1 hl) ?_
      refine vp_callSi (runS_r (As := [.int (pkS cn bb)]) (rest := []) S (q_l_isDigit l D cI cB cZ (pkS cn bb)) kS_RX5_106 hK hP [] rfl ⟨Nat.le_of_ble_eq_true rfl, Nat.le_of_ble_eq_true rfl⟩ ⟨Nat.le_of_ble_eq_true rfl, Nat.le_of_ble_eq_true rfl⟩ rfl hl.1 rfl (Nat.le_of_ble_eq_true rfl) dX5_readFactor_53) (fun r_7 h_8 => ?_)
      rcases h_8 with ⟨rfl, h_8⟩ | ⟨rfl, h_8⟩
      ·
        have h_8 : 48 ≤ (pkS cn bb).toInt ∧ (pkS cn bb).toInt ≤ 57 := h_8
        refine lv_if_eq (tgt := 66) hx hb dX5_readFactor_56 rfl (fun h => absurd h cq_eq_1_0) (fun _ => ?_)
        refine lv_aload_n hx hb dX5_readFactor_59 rfl (lvA2 hl) ?_
        have hFc := free_all hD hS hA
        refine va_callv (runV_xa (As := []) (rest := []) S (q_ZreadNumber l D cI cB cZ zz qq vv bt g ad cn In Fn G bb N x s.heap.size hB (by omega) (by omega) (by omega) (by omega) h9 he9 hN heb hby hz (by omega)) kV_RX5_109 hK hXS hS hFc hP hD 3 xo_3 rfl rfl ⟨Nat.le_of_ble_eq_true rfl, Nat.le_of_ble_eq_true rfl⟩ ⟨Nat.le_of_ble_eq_true rfl, Nat.le_of_ble_eq_true rfl⟩ rfl hl.1 rfl (Nat.le_of_ble_eq_true rfl) dX5_readFactor_60) hS (fun q _ h => hFc q h) hFc (fun u t H1 locs ht hvm wh_10 hB1 hz1 hk1 hS => ?_)
        obtain ⟨cn10, In10, Fn10⟩ := u
        obtain ⟨hP1, hD1⟩ := hB1
        rw [ht] at hP1
        have hP : va_P D vwCl (wX cI (D.1 99) zz g ad cn10 In10 Fn10) H1 := hP1
        have hD : va_D A (wX cI (D.1 99) zz g ad cn10 In10 Fn10) := hD1.weaken (fun _ _ _ h => hFc _ h)
        generalize H1 = H at hP hS ⊢
        have vh_10 : (fun c2 I2 F2 => Fr [31, 32] [33] [195, 301] cn In Fn c2 I2 F2 ∧ CBX c2 ∧ (((cn 31) ≤ c2 31 ∧ c2 31 ≤ c2 32 ∧ c2 32 ≤ (cn 32)) ∧ ZS G (ad 4 1) N c2 I2 F2 (resB x (atmL bb N)))) cn10 In10 Fn10 := wh_10
        obtain ⟨hfc10, hIn10, h_10⟩ := vh_10
        have hf10 : Fr [31, 32] [33] [195, 301] cn In Fn cn10 In10 Fn10 := Fr.mo (Fr.tr (Fr.rf (cn := cn) (In := In) (Fn := Fn)) hfc10) (sbl rfl) (sbl rfl) (sbl rfl)
        replace hIn10 : CBXh cn10 := hIn10
        have : cn10 6 = (cn 6) := hfc10.1 6 (nml rfl)
        have hz_10 : ZS G (ad 4 1) N cn10 In10 Fn10 (resB x (atmL bb N)) := h_10.2
        obtain ⟨x_10, ex_10⟩ : ∃ y : ResT, y = resB x (atmL bb N) := ⟨_, rfl⟩
        rw [← ex_10] at hz_10
        have sl_10 : SL 0 x_10 := by rw [ex_10]; exact SL.rule atm_len sl
        refine lv_goto (tgt := 98) hx hb dX5_readFactor_63 rfl ?_
        exact W.vret hx hb hr (fun t ht hW => ⟨⟨(cn10, In10, Fn10), rfl, ⟨(Fr.mo hf10 (sbl rfl) (sbl rfl) (sbl rfl)), hIn10, (by show (cn 31 ≤ cn10 31 ∧ cn10 31 ≤ cn10 32 ∧ cn10 32 ≤ cn 32) ∧ ZS G (ad 4 1) N cn10 In10 Fn10 (resB x (facL bb N (smK bb N 0))); exact ⟨by show cn 31 ≤ (cn10 31) ∧ (cn10 31) ≤ (cn10 32) ∧ (cn10 32) ≤ cn 32; omega, (by first | (exfalso; omega) | (subst ex_10; cases x with | error e0 => exact hz_10 | ok z => (have e1 := ZS.pkx (b := bb) hz rfl; show ZS _ _ _ _ _ _ (facL bb N (smK bb N 0) z.1 z.2); unfold facL; rw [if_neg (fun q => absurd (e1.symm.trans q) (by assumption))]; exact hz_10)))⟩)⟩, by rw [ht]; exact hP, hD⟩, hS.F ht⟩) hS.2.2 dX5_readFactor_98
      ·
        have h_8 : ¬ (48 ≤ (pkS cn bb).toInt ∧ (pkS cn bb).toInt ≤ 57) := h_8
        refine lv_if_eq (tgt := 66) hx hb dX5_readFactor_56 rfl (fun _ => ?_) (fun h => absurd h cq_eq_0_0)
        refine lv_iload_n hx hb dX5_readFactor_66 rfl (lvA0 hl) ?_
        refine lv_if_lt (tgt := 93) hx hb dX5_readFactor_67 rfl (fun c_12 => ?_) (fun c_12 => ?_)
        ·
          have tc_12 : (r_4.toInt : Int) < 0 := Int32.lt_iff_toInt_lt.mp c_12
          refine lv_aload_n hx hb dX5_readFactor_93 rfl (lvA2 hl) ?_
          refine lv_iconst (v := 1) hx hb dX5_readFactor_94 kic_1 ?_
          have hFc := free_all hD hS hA
          refine va_callv (runV_xa (As := [.int 1]) (rest := []) S (q_Zfail l D cI cB cZ zz qq vv bt g ad cn In Fn 1 s.heap.size hB (by omega) (by omega) (by omega) (by omega)) kV_RX5_47 hK hXS hS hFc hP hD 3 xo_3 rfl rfl ⟨Nat.le_of_ble_eq_true rfl, Nat.le_of_ble_eq_true rfl⟩ ⟨Nat.le_of_ble_eq_true rfl, Nat.le_of_ble_eq_true rfl⟩ rfl hl.1 rfl (Nat.le_of_ble_eq_true rfl) dX5_readFactor_95) hS (fun q _ h => hFc q h) hFc (fun u t H1 locs ht hvm wh_14 hB1 hz1 hk1 hS => ?_)
          obtain ⟨cn14, In14, Fn14⟩ := u
          obtain ⟨hP1, hD1⟩ := hB1
          rw [ht] at hP1
          have hP : va_P D vwCl (wX cI (D.1 99) zz g ad cn14 In14 Fn14) H1 := hP1
          have hD : va_D A (wX cI (D.1 99) zz g ad cn14 In14 Fn14) := hD1.weaken (fun _ _ _ h => hFc _ h)
          generalize H1 = H at hP hS ⊢
          have vh_14 : (fun c2 I2 F2 => Fr [32] [33] [] cn In Fn c2 I2 F2 ∧ CBX c2 ∧ ((c2 31 = (cn 31) ∧ (cn 31) ≤ c2 32 ∧ c2 32 ≤ (cn 32)) ∧ FLRv 1 cn In c2 I2)) cn14 In14 Fn14 := wh_14
          obtain ⟨hfc14, hIn14, h_14⟩ := vh_14
          obtain rfl : Fn = Fn14 := (funext (fun k => hfc14.2.2 k List.not_mem_nil)).symm
          have hf14 : Fr [31, 32] [33] [195, 301] cn In Fn cn14 In14 Fn := Fr.mo (Fr.tr (Fr.rf (cn := cn) (In := In) (Fn := Fn)) hfc14) (sbl rfl) (sbl rfl) (sbl rfl)
          replace hIn14 : CBXh cn14 := hIn14
          have : cn14 6 = (cn 6) := hfc14.1 6 (nml rfl)
          have : cn14 31 = (cn 31) := hfc14.1 31 (nml rfl)
          have hz_14 : ZS G (ad 4 1) N cn14 In14 Fn (resB x (fErr 1)) := ZS.failv (k := 1) (by decide) (by decide) hN hz h_14.2
          obtain ⟨x_14, ex_14⟩ : ∃ y : ResT, y = resB x (fErr 1) := ⟨_, rfl⟩
          rw [← ex_14] at hz_14
          exact W.vret hx hb hr (fun t ht hW => ⟨⟨(cn14, In14, Fn), rfl, ⟨(Fr.mo hf14 (sbl rfl) (sbl rfl) (sbl rfl)), hIn14, (by show (cn 31 ≤ cn14 31 ∧ cn14 31 ≤ cn14 32 ∧ cn14 32 ≤ cn 32) ∧ ZS G (ad 4 1) N cn14 In14 Fn (resB x (facL bb N (smK bb N 0))); exact ⟨by show cn 31 ≤ (cn14 31) ∧ (cn14 31) ≤ (cn14 32) ∧ (cn14 32) ≤ cn 32; omega, (by first | (exfalso; omega) | (subst ex_14; cases x with | error e0 => exact hz_14 | ok z => (have e1 := ZS.pkx (b := bb) hz rfl; show ZS _ _ _ _ _ _ (facL bb N (smK bb N 0) z.1 z.2); unfold facL; rw [if_neg (fun q => absurd (e1.symm.trans q) (by assumption))]; unfold atmL; rw [if_neg (by rw [e1]; omega), show ltr (pk bb N z.1) = none from (congrArg ltr e1).trans (by first | (rw [show pkS cn bb = -1 by assumption]; decide) | (rcases hix with ⟨q1, q2⟩ | ⟨j9, q1, q2, q3⟩ <;> first | exact q2 | (exfalso; have q4 := congrArg Int32.toInt q2; rw [nI_toInt (by omega)] at q4; omega)))]; exact hz_14)))⟩)⟩, by rw [ht]; exact hP, hD⟩, hS.F ht⟩) hS.2.2 dX5_readFactor_98
        ·
          have tc_12 : (0 : Int) ≤ r_4.toInt := Int32.le_iff_toInt_le.mp (Int32.not_lt.mp c_12)
          refine lv_aload_n hx hb dX5_readFactor_70 rfl (lvA2 hl) ?_
          refine lv_dup hx hb dX5_readFactor_71 rfl ?_
          refine gf_RX5_31 S hK hP 3 xo_3 (v := .int (nI (cn 31))) rfl dX5_readFactor_72 ?_
          refine lv_iconst (v := 1) hx hb dX5_readFactor_75 kic_1 ?_
          refine lv_iadd hx hb dX5_readFactor_76 ?_
          refine lv_topi (fun y_16 ey_16 => ?_)
          obtain rfl : y_16 = (nI ((cn 31) + 1)) := ey_16.trans (nI_add (cn 31) 1)
          refine pf_RX5_31 S hK hP hD hS 3 xo_3 (v := .int (nI ((cn 31) + 1))) (Nat.le_of_ble_eq_true rfl) rfl rfl dX5_readFactor_77 (fun H locs hP hD hS => ?_)
          have hP : va_P D vwCl (wX cI (D.1 99) zz g ad (va_up cn 31 ((cn 31) + 1)) In Fn) H := va_P_eq (xsf_3_3) hP
          have hD : va_D A (wX cI (D.1 99) zz g ad (va_up cn 31 ((cn 31) + 1)) In Fn) := va_D_eq (xsf_3_3) hD
          have hz_16 : ZS G (ad 4 1) N (va_up cn 31 ((cn 31) + 1)) In Fn (resB x fInc) := ZS.incx hz (by omega) rfl rfl rfl
          obtain ⟨x_16, ex_16⟩ : ∃ y : ResT, y = resB x fInc := ⟨_, rfl⟩
          rw [← ex_16] at hz_16
          have sl_16 : SL 1 x_16 := by rw [ex_16]; exact SL.inc sl
          obtain ⟨l9, hl9, er9, el9⟩ : ∃ j : Nat, j < 11 ∧ r_4 = nI j ∧ ltr (pkS cn bb) = some j := by
            rcases hix with ⟨q1, q2⟩ | q1
            · exfalso; have q4 := congrArg Int32.toInt q1; have q5 : (-1 : Int32).toInt = -1 := rfl; omega
            · exact q1
          refine lv_aload_n hx hb dX5_readFactor_80 rfl (lvA2 hl) ?_
          refine gf_RX5_20 S hK hP 3 xo_3 (v := .ref (ad 5 (ad 4 1))) rfl dX5_readFactor_81 ?_
          refine lv_iconst (v := 2) hx hb dX5_readFactor_84 kic_2 ?_
          refine lv_iload_n hx hb dX5_readFactor_85 rfl (lvA0 hl) ?_
          have hFc := free_all hD hS hA
          refine va_calli (runV_xa (As := [.int 2, .int r_4]) (rest := []) S (q_Zadd l D cI cB cZ zz qq vv bt g ad (va_up cn 31 ((cn 31) + 1)) In Fn (ad 4 1) 2 r_4 H.size (CBX.n (k := 31) (v := ((cn 31) + 1)) hB (by decide)) (show (ad 4 1) < (cn 6) by omega) h9) kV_RX5_75 hK hXS hS hFc hP hD _ (xf_7 (show (ad 4 1) < (cn 6) by omega)) rfl rfl ⟨Nat.le_of_ble_eq_true rfl, Nat.le_of_ble_eq_true rfl⟩ ⟨Nat.le_of_ble_eq_true rfl, Nat.le_of_ble_eq_true rfl⟩ rfl hl.1 rfl (Nat.le_of_ble_eq_true rfl) dX5_readFactor_86) hS (fun q _ h => hFc q h) hFc (fun r_18 u t H1 locs ht hvm wh_19 hB1 hz1 hk1 hS => ?_)
          obtain ⟨cn19, In19, Fn19⟩ := u
          obtain ⟨hP1, hD1⟩ := hB1
          rw [ht] at hP1
          have hP : va_P D vwCl (wX cI (D.1 99) zz g ad cn19 In19 Fn19) H1 := hP1
          have hD : va_D A (wX cI (D.1 99) zz g ad cn19 In19 Fn19) := hD1.weaken (fun _ _ _ h => hFc _ h)
          generalize H1 = H at hP hS ⊢
          have vh_19 : (fun r c2 I2 F2 => Fr [] [] [195, 301] (va_up cn 31 ((cn 31) + 1)) In Fn c2 I2 F2 ∧ CBX c2 ∧ (addR (ad 4 1) 2 r_4 Fn F2 ∧ r = ((Fn 195)) (ad 4 1) ∧ KPT (ad 4 1) Fn F2)) r_18 cn19 In19 Fn19 := wh_19
          obtain ⟨hfc19, hIn19, h_19⟩ := vh_19
          obtain rfl : In = In19 := (funext (fun k => hfc19.2.1 k List.not_mem_nil)).symm
          have hf19 : Fr [31, 32] [33] [195, 301] cn In Fn cn19 In Fn19 := Fr.mo (Fr.tr (Fr.c 31 (Fr.rf (cn := cn) (In := In) (Fn := Fn))) hfc19) (sbl rfl) (sbl rfl) (sbl rfl)
          replace hIn19 : CBXh cn19 := hIn19
          have : cn19 6 = (cn 6) := hfc19.1 6 (nml rfl)
          have : cn19 31 = ((cn 31) + 1) := hfc19.1 31 (nml rfl)
          have : cn19 32 = (cn 32) := hfc19.1 32 (nml rfl)
          have hj_19 := ZS.addj hz_16 h_19.2.1
          have hz_19 : ZS G (ad 4 1) N cn19 In Fn19 (resB x_16 (fAdd 2 l9)) := ZS.addx h_19.2.2 hz_16 sl_16 hN ((congrFun (hfc19.2.2 199 (nml rfl)) _).symm.trans ((congrFun (hf19.2.2 199 (nml rfl)) _).trans he9)) ⟨(by decide), by decide⟩ ⟨er9, by omega⟩ h_19.1 (hfc19.1 31 (nml rfl)) (hfc19.1 32 (nml rfl)) (hfc19.2.1 33 (nml rfl))
          obtain ⟨x_19, ex_19⟩ : ∃ y : ResT, y = resB x_16 (fAdd 2 l9) := ⟨_, rfl⟩
          rw [← ex_19] at hz_19
          have sl_19 : SL 0 x_19 := by rw [ex_19]; exact SL.add sl_16
          refine lv_pop hx hb dX5_readFactor_89 rfl ?_
          refine lv_goto (tgt := 98) hx hb dX5_readFactor_90 rfl ?_
          exact W.vret hx hb hr (fun t ht hW => ⟨⟨(cn19, In, Fn19), rfl, ⟨(Fr.mo hf19 (sbl rfl) (sbl rfl) (sbl rfl)), hIn19, (by show (cn 31 ≤ cn19 31 ∧ cn19 31 ≤ cn19 32 ∧ cn19 32 ≤ cn 32) ∧ ZS G (ad 4 1) N cn19 In Fn19 (resB x (facL bb N (smK bb N 0))); exact ⟨by show cn 31 ≤ (cn19 31) ∧ (cn19 31) ≤ (cn19 32) ∧ (cn19 32) ≤ cn 32; omega, (by first | (exfalso; omega) | (subst ex_16 ex_19; cases x with | error e0 => exact hz_19 | ok z => (have e1 := ZS.pkx (b := bb) hz rfl; show ZS _ _ _ _ _ _ (facL bb N (smK bb N 0) z.1 z.2); unfold facL; rw [if_neg (fun q => absurd (e1.symm.trans q) (by assumption))]; unfold atmL; rw [if_neg (by rw [e1]; omega), show ltr (pk bb N z.1) = some l9 from (congrArg ltr e1).trans el9]; exact hz_19)))⟩)⟩, by rw [ht]; exact hP, hD⟩, hS.F ht⟩) hS.2.2 dX5_readFactor_98
    ·
      have tc_6 : ((pkS cn bb).toInt : Int) = 91 := congrArg Int32.toInt c_6
      refine lv_aload_n hx hb dX5_readFactor_28 rfl (lvA2 hl) ?_
      refine lv_iload_n hx hb dX5_readFactor_29 rfl (lvA3 hl) ?_
      have hFc := free_all hD hS hA
      refine va_calli (runV_xa (As := [.int o]) (rest := []) S (q_Zopens_n l D cI cB cZ zz qq vv bt g ad cn In Fn o s.heap.size hB (by omega) (by omega) (by omega) (by omega) (by omega) ho) kV_RX5_85 hK hXS hS hFc hP hD 3 xo_3 rfl rfl ⟨Nat.le_of_ble_eq_true rfl, Nat.le_of_ble_eq_true rfl⟩ ⟨Nat.le_of_ble_eq_true rfl, Nat.le_of_ble_eq_true rfl⟩ rfl hl.1 rfl (Nat.le_of_ble_eq_true rfl) dX5_readFactor_30) hS (fun q _ h => hFc q h) hFc (fun r_21 u t H1 locs ht hvm wh_22 hB1 hz1 hk1 hS => ?_)
      obtain ⟨cn22, In22, Fn22⟩ := u
      obtain ⟨hP1, hD1⟩ := hB1
      rw [ht] at hP1
      have hP : va_P D vwCl (wX cI (D.1 99) zz g ad cn22 In22 Fn22) H1 := hP1
      have hD : va_D A (wX cI (D.1 99) zz g ad cn22 In22 Fn22) := hD1.weaken (fun _ _ _ h => hFc _ h)
      generalize H1 = H at hP hS ⊢
      have vh_22 : (fun r c2 I2 F2 => Fr [31, 32] [33] [] cn In Fn c2 I2 F2 ∧ CBX c2 ∧ ((((cn 31) ≤ c2 31 ∧ c2 31 ≤ c2 32 ∧ c2 32 ≤ (cn 32)) ∧ FLRv 5 cn In c2 I2) ∧ r = 0)) r_21 cn22 In22 Fn22 := wh_22
      obtain ⟨hfc22, hIn22, h_22⟩ := vh_22
      obtain rfl : Fn = Fn22 := (funext (fun k => hfc22.2.2 k List.not_mem_nil)).symm
      have hf22 : Fr [31, 32] [33] [195, 301] cn In Fn cn22 In22 Fn := Fr.mo (Fr.tr (Fr.rf (cn := cn) (In := In) (Fn := Fn)) hfc22) (sbl rfl) (sbl rfl) (sbl rfl)
      replace hIn22 : CBXh cn22 := hIn22
      have : cn22 6 = (cn 6) := hfc22.1 6 (nml rfl)
      obtain ⟨h_22, rfl⟩ := h_22
      have hz_22 : ZS G (ad 4 1) N cn22 In22 Fn (resB x (fErr 5)) := ZS.failv (k := 5) (by decide) (by decide) hN hz h_22.2
      obtain ⟨x_22, ex_22⟩ : ∃ y : ResT, y = resB x (fErr 5) := ⟨_, rfl⟩
      rw [← ex_22] at hz_22
      refine lv_if_eq (tgt := 98) hx hb dX5_readFactor_33 rfl (fun _ => ?_) (fun h => absurd h cq_eq_0_0)
      exact W.vret hx hb hr (fun t ht hW => ⟨⟨(cn22, In22, Fn), rfl, ⟨(Fr.mo hf22 (sbl rfl) (sbl rfl) (sbl rfl)), hIn22, (by show (cn 31 ≤ cn22 31 ∧ cn22 31 ≤ cn22 32 ∧ cn22 32 ≤ cn 32) ∧ ZS G (ad 4 1) N cn22 In22 Fn (resB x (facL bb N (smK bb N 0))); exact ⟨by show cn 31 ≤ (cn22 31) ∧ (cn22 31) ≤ (cn22 32) ∧ (cn22 32) ≤ cn 32; omega, (by first | (exfalso; omega) | (subst ex_22; cases x with | error e0 => exact hz_22 | ok z => (have e1 := ZS.pkx (b := bb) hz rfl; rw [show pkS cn bb = 91 by assumption] at e1; show ZS _ _ _ _ _ _ (facL bb N (smK bb N 0) z.1 z.2); unfold facL; rw [if_pos e1]; exact hz_22)))⟩)⟩, by rw [ht]; exact hP, hD⟩, hS.F ht⟩) hS.2.2 dX5_readFactor_98
  ·
    have tc_3 : ((pkS cn bb).toInt : Int) = (-1) := congrArg Int32.toInt c_3
    refine lv_iconst (v := (-1)) hx hb dX5_readFactor_10 kic_m1 ?_
    refine lv_goto (tgt := 21) hx hb dX5_readFactor_11 rfl ?_
    refine lv_istore_n (lv' := [(3, .int (-1)), (2, .int (pkS cn bb)), (0, .ref (g 6)), (1, .int o)]) hx hb dX5_readFactor_21 rfl hl (ltb rfl) rfl (fun ls hl => ?_)
    refine lv_iload_n hx hb dX5_readFactor_22 rfl (lvA1 hl) ?_
    refine lv_bipush (v := 91) hx hb dX5_readFactor_23 kbc_91 ?_
    refine lv_icmp_ne (tgt := 52) hx hb dX5_readFactor_25 rfl (fun c_24 => ?_) (fun c_24 => False.elim (by have tc_24 : ((pkS cn bb).toInt : Int) = 91 := congrArg Int32.toInt c_24; omega))
    have tc_24 : ((pkS cn bb).toInt : Int) ≠ 91 := fun q => c_24 (Int32.toInt_inj.mp q)
    refine lv_iload_n hx hb dX5_readFactor_52 rfl (lvA1 hl) ?_
    refine vp_callSi (runS_r (As := [.int (pkS cn bb)]) (rest := []) S (q_l_isDigit l D cI cB cZ (pkS cn bb)) kS_RX5_106 hK hP [] rfl ⟨Nat.le_of_ble_eq_true rfl, Nat.le_of_ble_eq_true rfl⟩ ⟨Nat.le_of_ble_eq_true rfl, Nat.le_of_ble_eq_true rfl⟩ rfl hl.1 rfl (Nat.le_of_ble_eq_true rfl) dX5_readFactor_53) (fun r_25 h_26 => ?_)
    rcases h_26 with ⟨rfl, h_26⟩ | ⟨rfl, h_26⟩
    ·
      have h_26 : 48 ≤ (pkS cn bb).toInt ∧ (pkS cn bb).toInt ≤ 57 := h_26
      exfalso; omega
    ·
      have h_26 : ¬ (48 ≤ (pkS cn bb).toInt ∧ (pkS cn bb).toInt ≤ 57) := h_26
      refine lv_if_eq (tgt := 66) hx hb dX5_readFactor_56 rfl (fun _ => ?_) (fun h => absurd h cq_eq_0_0)
      refine lv_iload_n hx hb dX5_readFactor_66 rfl (lvA0 hl) ?_
      refine lv_if_lt (tgt := 93) hx hb dX5_readFactor_67 rfl (fun _ => ?_) (fun h => absurd h cq_lt_m1_0)
      refine lv_aload_n hx hb dX5_readFactor_93 rfl (lvA2 hl) ?_
      refine lv_iconst (v := 1) hx hb dX5_readFactor_94 kic_1 ?_
      have hFc := free_all hD hS hA
      refine va_callv (runV_xa (As := [.int 1]) (rest := []) S (q_Zfail l D cI cB cZ zz qq vv bt g ad cn In Fn 1 s.heap.size hB (by omega) (by omega) (by omega) (by omega)) kV_RX5_47 hK hXS hS hFc hP hD 3 xo_3 rfl rfl ⟨Nat.le_of_ble_eq_true rfl, Nat.le_of_ble_eq_true rfl⟩ ⟨Nat.le_of_ble_eq_true rfl, Nat.le_of_ble_eq_true rfl⟩ rfl hl.1 rfl (Nat.le_of_ble_eq_true rfl) dX5_readFactor_95) hS (fun q _ h => hFc q h) hFc (fun u t H1 locs ht hvm wh_28 hB1 hz1 hk1 hS => ?_)
      obtain ⟨cn28, In28, Fn28⟩ := u
      obtain ⟨hP1, hD1⟩ := hB1
      rw [ht] at hP1
      have hP : va_P D vwCl (wX cI (D.1 99) zz g ad cn28 In28 Fn28) H1 := hP1
      have hD : va_D A (wX cI (D.1 99) zz g ad cn28 In28 Fn28) := hD1.weaken (fun _ _ _ h => hFc _ h)
      generalize H1 = H at hP hS ⊢
      have vh_28 : (fun c2 I2 F2 => Fr [32] [33] [] cn In Fn c2 I2 F2 ∧ CBX c2 ∧ ((c2 31 = (cn 31) ∧ (cn 31) ≤ c2 32 ∧ c2 32 ≤ (cn 32)) ∧ FLRv 1 cn In c2 I2)) cn28 In28 Fn28 := wh_28
      obtain ⟨hfc28, hIn28, h_28⟩ := vh_28
      obtain rfl : Fn = Fn28 := (funext (fun k => hfc28.2.2 k List.not_mem_nil)).symm
      have hf28 : Fr [31, 32] [33] [195, 301] cn In Fn cn28 In28 Fn := Fr.mo (Fr.tr (Fr.rf (cn := cn) (In := In) (Fn := Fn)) hfc28) (sbl rfl) (sbl rfl) (sbl rfl)
      replace hIn28 : CBXh cn28 := hIn28
      have : cn28 6 = (cn 6) := hfc28.1 6 (nml rfl)
      have : cn28 31 = (cn 31) := hfc28.1 31 (nml rfl)
      have hz_28 : ZS G (ad 4 1) N cn28 In28 Fn (resB x (fErr 1)) := ZS.failv (k := 1) (by decide) (by decide) hN hz h_28.2
      obtain ⟨x_28, ex_28⟩ : ∃ y : ResT, y = resB x (fErr 1) := ⟨_, rfl⟩
      rw [← ex_28] at hz_28
      exact W.vret hx hb hr (fun t ht hW => ⟨⟨(cn28, In28, Fn), rfl, ⟨(Fr.mo hf28 (sbl rfl) (sbl rfl) (sbl rfl)), hIn28, (by show (cn 31 ≤ cn28 31 ∧ cn28 31 ≤ cn28 32 ∧ cn28 32 ≤ cn 32) ∧ ZS G (ad 4 1) N cn28 In28 Fn (resB x (facL bb N (smK bb N 0))); exact ⟨by show cn 31 ≤ (cn28 31) ∧ (cn28 31) ≤ (cn28 32) ∧ (cn28 32) ≤ cn 32; omega, (by first | (exfalso; omega) | (subst ex_28; cases x with | error e0 => exact hz_28 | ok z => (have e1 := ZS.pkx (b := bb) hz rfl; show ZS _ _ _ _ _ _ (facL bb N (smK bb N 0) z.1 z.2); unfold facL; rw [if_neg (fun q => absurd (e1.symm.trans q) (by assumption))]; unfold atmL; rw [if_neg (by rw [e1]; omega), show ltr (pk bb N z.1) = none from (congrArg ltr e1).trans (by first | (rw [show pkS cn bb = -1 by assumption]; decide) | (rcases hix with ⟨q1, q2⟩ | ⟨j9, q1, q2, q3⟩ <;> first | exact q2 | (exfalso; have q4 := congrArg Int32.toInt q2; rw [nI_toInt (by omega)] at q4; omega)))]; exact hz_28)))⟩)⟩, by rw [ht]; exact hP, hD⟩, hS.F ht⟩) hS.2.2 dX5_readFactor_98
set_option maxRecDepth 100000 in
set_option maxHeartbeats 4000000 in
theorem gq_ZreadFactor (l : Launch) (D : va_G) (cI cB cZ : ClassId) (zz qq vv : Nat) (bt : Nat → Int32) (g : Nat → Nat) (o : Int32) (hbt : BTL bt) (d k : Nat) (ho : o.toInt < 6) (hd : 4 ≤ d ∧ d ≤ 60) (hSq : RDZ yX5_readSum cX5_readSum 3 l D cI cB cZ zz qq vv bt g (o + 1) d (fun bb N => sm1 bb N (smK bb N k))) : RDZ yX5_readFactor cX5_readFactor 4 l D cI cB cZ zz qq vv bt g o (d + 1) (fun bb N => facL bb N (smK bb N (k + 1))) := by
  intro ad cn In Fn G bb N x sz hB hR h1 h3 h4 h9 he9 hN heb hby hz
  refine Met.ofW (cc := cX5_readFactor) (maxL := 4) (ret := none) (by decide) rfl ?_
  intro p e s m args below meth c s₁ B hml hv
  obtain ⟨rfl, hsz, hP, hK, hD0, hXS⟩ := hv
  have hx := B.exec
  have hb := B.bytes
  have hr := B.returns
  have hts := atoms_spec (ws := (CWS yX5_readFactor cX5_readFactor 4 none)) B.pre
  have hown : s.vm.findClass RX5 = some m.cls := findClass_of_methodNamed B.named
  have hlocks := B.notSynchronized
  have S : SF p m c cX5_readFactor 4 s ([.ref (g 6), .int o]).toArray RX5 := ⟨hx, hb, hml, hown, fun w h => hts w (List.mem_cons_of_mem _ h)⟩
  subst hsz
  have hD := hD0.self (sz := s.heap.size)
  generalize hAe : va_A (wX cI (D.1 99) zz g ad cn In Fn) s.heap.size = A at hD hXS ⊢
  have hA : ∀ q : Nat, s.heap.size ≤ q → A q := fun q h => by rw [← hAe]; exact Or.inr h
  have hS : va_S A s.heap s.heap [] := va_S.rf
  have hl := lv_entry ([.ref (g 6), .int o]) (n := 4) (Nat.le_of_ble_eq_true rfl)
  rw [lg_entry_eq]
  generalize (lg_sl ([.ref (g 6), .int o]) ++ List.replicate (4 - (lg_sl ([.ref (g 6), .int o])).length) Slot.unset).toArray = ls at hl ⊢
  have hl : lv_has ls 4 [(0, .ref (g 6)), (1, .int o)] := hl
  replace hB : CBXh cn := hB
  have sl := ZS.sl hz
  refine lv_aload_n hx hb dX5_readFactor_0 rfl (lvA0 hl) ?_
  refine vp_callSi (runV_rxa (As := []) (rest := []) S (q_Rpeek l D cI cB cZ zz qq vv bt g ad cn In Fn  hB (by omega) (by omega) (by omega) (by omega)) kV_RX5_43 hK hXS hS hP 3 xo_3 rfl rfl ⟨(by show 0 + 1 ≤ d + 1; omega), (by show 8 + (1 + 11) + 40 * 0 ≤ 40 * (d + 1); omega)⟩ ⟨Nat.le_of_ble_eq_true rfl, Nat.le_of_ble_eq_true rfl⟩ rfl hl.1 rfl (Nat.le_of_ble_eq_true rfl) dX5_readFactor_1) (fun r_1 h_2 => ?_)
  rw [heb] at h_2
  obtain rfl : r_1 = pkS cn bb := pkS_of h_2
  refine lv_istore_n (lv' := [(2, .int (pkS cn bb)), (0, .ref (g 6)), (1, .int o)]) hx hb dX5_readFactor_4 rfl hl (ltb rfl) rfl (fun ls hl => ?_)
  refine lv_iload_n hx hb dX5_readFactor_5 rfl (lvA0 hl) ?_
  refine lv_iconst (v := (-1)) hx hb dX5_readFactor_6 kic_m1 ?_
  refine lv_icmp_ne (tgt := 14) hx hb dX5_readFactor_7 rfl (fun c_3 => ?_) (fun c_3 => ?_)
  ·
    have tc_3 : ((pkS cn bb).toInt : Int) ≠ (-1) := fun q => c_3 (Int32.toInt_inj.mp q)
    refine va_ldcS hx hb hown hXS.2.2.2.2.2.2.2.1.2 dX5_readFactor_14 ?_
    refine lv_iload_n hx hb dX5_readFactor_16 rfl (lvA0 hl) ?_
    have hby9 : 0 ≤ (pkS cn bb).toInt ∧ (pkS cn bb).toInt ≤ 255 := by unfold pkS; rw [if_pos (by omega)]; exact hby _ (by omega)
    refine lv_i2c (v := (pkS cn bb)) hx hb dX5_readFactor_17 (i2c_id hby9) ?_
    refine vp_callSi (runV_rx (As := [.int (pkS cn bb)]) (rest := []) S (q_z_strIndex l D cI cB cZ zz qq vv bt (pkS cn bb) hby9) kV_RX5_100 hK hXS hS hP [] rfl (va_Orecv hXS.2.2.2.1 hS) ⟨(by show 3 + 1 ≤ d + 1; omega), (by show 8 + (2 + 11) + 40 * 3 ≤ 40 * (d + 1); omega)⟩ ⟨Nat.le_of_ble_eq_true rfl, Nat.le_of_ble_eq_true rfl⟩ rfl hl.1 rfl (Nat.le_of_ble_eq_true rfl) dX5_readFactor_18) (fun r_4 h_5 => ?_)
    have hix := ltr_ix hbt hby9 h_5
    refine lv_istore_n (lv' := [(3, .int r_4), (2, .int (pkS cn bb)), (0, .ref (g 6)), (1, .int o)]) hx hb dX5_readFactor_21 rfl hl (ltb rfl) rfl (fun ls hl => ?_)
    refine lv_iload_n hx hb dX5_readFactor_22 rfl (lvA1 hl) ?_
    refine lv_bipush (v := 91) hx hb dX5_readFactor_23 kbc_91 ?_
    refine lv_icmp_ne (tgt := 52) hx hb dX5_readFactor_25 rfl (fun c_6 => ?_) (fun c_6 => ?_)
    ·
      have tc_6 : ((pkS cn bb).toInt : Int) ≠ 91 := fun q => c_6 (Int32.toInt_inj.mp q)
      refine lv_iload_n hx hb dX5_readFactor_52 rfl (lvA1 hl) ?_
      refine vp_callSi (runS_r (As := [.int (pkS cn bb)]) (rest := []) S (q_l_isDigit l D cI cB cZ (pkS cn bb)) kS_RX5_106 hK hP [] rfl ⟨(by show 0 + 1 ≤ d + 1; omega), (by show 8 + (1 + 11) + 40 * 0 ≤ 40 * (d + 1); omega)⟩ ⟨Nat.le_of_ble_eq_true rfl, Nat.le_of_ble_eq_true rfl⟩ rfl hl.1 rfl (Nat.le_of_ble_eq_true rfl) dX5_readFactor_53) (fun r_7 h_8 => ?_)
      rcases h_8 with ⟨rfl, h_8⟩ | ⟨rfl, h_8⟩
      ·
        have h_8 : 48 ≤ (pkS cn bb).toInt ∧ (pkS cn bb).toInt ≤ 57 := h_8
        refine lv_if_eq (tgt := 66) hx hb dX5_readFactor_56 rfl (fun h => absurd h cq_eq_1_0) (fun _ => ?_)
        refine lv_aload_n hx hb dX5_readFactor_59 rfl (lvA2 hl) ?_
        have hFc := free_all hD hS hA
        refine va_callv (runV_xa (As := []) (rest := []) S (q_ZreadNumber l D cI cB cZ zz qq vv bt g ad cn In Fn G bb N x s.heap.size hB (by omega) (by omega) (by omega) (by omega) h9 he9 hN heb hby hz (by omega)) kV_RX5_109 hK hXS hS hFc hP hD 3 xo_3 rfl rfl ⟨(by show 1 + 1 ≤ d + 1; omega), (by show 8 + (3 + 11) + 40 * 1 ≤ 40 * (d + 1); omega)⟩ ⟨Nat.le_of_ble_eq_true rfl, Nat.le_of_ble_eq_true rfl⟩ rfl hl.1 rfl (Nat.le_of_ble_eq_true rfl) dX5_readFactor_60) hS (fun q _ h => hFc q h) hFc (fun u t H1 locs ht hvm wh_10 hB1 hz1 hk1 hS => ?_)
        obtain ⟨cn10, In10, Fn10⟩ := u
        obtain ⟨hP1, hD1⟩ := hB1
        rw [ht] at hP1
        have hP : va_P D vwCl (wX cI (D.1 99) zz g ad cn10 In10 Fn10) H1 := hP1
        have hD : va_D A (wX cI (D.1 99) zz g ad cn10 In10 Fn10) := hD1.weaken (fun _ _ _ h => hFc _ h)
        generalize H1 = H at hP hS ⊢
        have vh_10 : (fun c2 I2 F2 => Fr [31, 32] [33] [195, 301] cn In Fn c2 I2 F2 ∧ CBX c2 ∧ (((cn 31) ≤ c2 31 ∧ c2 31 ≤ c2 32 ∧ c2 32 ≤ (cn 32)) ∧ ZS G (ad 4 1) N c2 I2 F2 (resB x (atmL bb N)))) cn10 In10 Fn10 := wh_10
        obtain ⟨hfc10, hIn10, h_10⟩ := vh_10
        have hf10 : Fr [31, 32] [33] [195, 301] cn In Fn cn10 In10 Fn10 := Fr.mo (Fr.tr (Fr.rf (cn := cn) (In := In) (Fn := Fn)) hfc10) (sbl rfl) (sbl rfl) (sbl rfl)
        replace hIn10 : CBXh cn10 := hIn10
        have : cn10 6 = (cn 6) := hfc10.1 6 (nml rfl)
        have hz_10 : ZS G (ad 4 1) N cn10 In10 Fn10 (resB x (atmL bb N)) := h_10.2
        obtain ⟨x_10, ex_10⟩ : ∃ y : ResT, y = resB x (atmL bb N) := ⟨_, rfl⟩
        rw [← ex_10] at hz_10
        have sl_10 : SL 0 x_10 := by rw [ex_10]; exact SL.rule atm_len sl
        refine lv_goto (tgt := 98) hx hb dX5_readFactor_63 rfl ?_
        exact W.vret hx hb hr (fun t ht hW => ⟨⟨(cn10, In10, Fn10), rfl, ⟨(Fr.mo hf10 (sbl rfl) (sbl rfl) (sbl rfl)), hIn10, (by show (cn 31 ≤ cn10 31 ∧ cn10 31 ≤ cn10 32 ∧ cn10 32 ≤ cn 32) ∧ ZS G (ad 4 1) N cn10 In10 Fn10 (resB x (facL bb N (smK bb N (k + 1)))); exact ⟨by show cn 31 ≤ (cn10 31) ∧ (cn10 31) ≤ (cn10 32) ∧ (cn10 32) ≤ cn 32; omega, (by first | (exfalso; omega) | (subst ex_10; cases x with | error e0 => exact hz_10 | ok z => (have e1 := ZS.pkx (b := bb) hz rfl; show ZS _ _ _ _ _ _ (facL bb N (smK bb N (k + 1)) z.1 z.2); unfold facL; rw [if_neg (fun q => absurd (e1.symm.trans q) (by assumption))]; exact hz_10)))⟩)⟩, by rw [ht]; exact hP, hD⟩, hS.F ht⟩) hS.2.2 dX5_readFactor_98
      ·
        have h_8 : ¬ (48 ≤ (pkS cn bb).toInt ∧ (pkS cn bb).toInt ≤ 57) := h_8
        refine lv_if_eq (tgt := 66) hx hb dX5_readFactor_56 rfl (fun _ => ?_) (fun h => absurd h cq_eq_0_0)
        refine lv_iload_n hx hb dX5_readFactor_66 rfl (lvA0 hl) ?_
        refine lv_if_lt (tgt := 93) hx hb dX5_readFactor_67 rfl (fun c_12 => ?_) (fun c_12 => ?_)
        ·
          have tc_12 : (r_4.toInt : Int) < 0 := Int32.lt_iff_toInt_lt.mp c_12
          refine lv_aload_n hx hb dX5_readFactor_93 rfl (lvA2 hl) ?_
          refine lv_iconst (v := 1) hx hb dX5_readFactor_94 kic_1 ?_
          have hFc := free_all hD hS hA
          refine va_callv (runV_xa (As := [.int 1]) (rest := []) S (q_Zfail l D cI cB cZ zz qq vv bt g ad cn In Fn 1 s.heap.size hB (by omega) (by omega) (by omega) (by omega)) kV_RX5_47 hK hXS hS hFc hP hD 3 xo_3 rfl rfl ⟨(by show 0 + 1 ≤ d + 1; omega), (by show 8 + (2 + 11) + 40 * 0 ≤ 40 * (d + 1); omega)⟩ ⟨Nat.le_of_ble_eq_true rfl, Nat.le_of_ble_eq_true rfl⟩ rfl hl.1 rfl (Nat.le_of_ble_eq_true rfl) dX5_readFactor_95) hS (fun q _ h => hFc q h) hFc (fun u t H1 locs ht hvm wh_14 hB1 hz1 hk1 hS => ?_)
          obtain ⟨cn14, In14, Fn14⟩ := u
          obtain ⟨hP1, hD1⟩ := hB1
          rw [ht] at hP1
          have hP : va_P D vwCl (wX cI (D.1 99) zz g ad cn14 In14 Fn14) H1 := hP1
          have hD : va_D A (wX cI (D.1 99) zz g ad cn14 In14 Fn14) := hD1.weaken (fun _ _ _ h => hFc _ h)
          generalize H1 = H at hP hS ⊢
          have vh_14 : (fun c2 I2 F2 => Fr [32] [33] [] cn In Fn c2 I2 F2 ∧ CBX c2 ∧ ((c2 31 = (cn 31) ∧ (cn 31) ≤ c2 32 ∧ c2 32 ≤ (cn 32)) ∧ FLRv 1 cn In c2 I2)) cn14 In14 Fn14 := wh_14
          obtain ⟨hfc14, hIn14, h_14⟩ := vh_14
          obtain rfl : Fn = Fn14 := (funext (fun k => hfc14.2.2 k List.not_mem_nil)).symm
          have hf14 : Fr [31, 32] [33] [195, 301] cn In Fn cn14 In14 Fn := Fr.mo (Fr.tr (Fr.rf (cn := cn) (In := In) (Fn := Fn)) hfc14) (sbl rfl) (sbl rfl) (sbl rfl)
          replace hIn14 : CBXh cn14 := hIn14
          have : cn14 6 = (cn 6) := hfc14.1 6 (nml rfl)
          have : cn14 31 = (cn 31) := hfc14.1 31 (nml rfl)
          have hz_14 : ZS G (ad 4 1) N cn14 In14 Fn (resB x (fErr 1)) := ZS.failv (k := 1) (by decide) (by decide) hN hz h_14.2
          obtain ⟨x_14, ex_14⟩ : ∃ y : ResT, y = resB x (fErr 1) := ⟨_, rfl⟩
          rw [← ex_14] at hz_14
          exact W.vret hx hb hr (fun t ht hW => ⟨⟨(cn14, In14, Fn), rfl, ⟨(Fr.mo hf14 (sbl rfl) (sbl rfl) (sbl rfl)), hIn14, (by show (cn 31 ≤ cn14 31 ∧ cn14 31 ≤ cn14 32 ∧ cn14 32 ≤ cn 32) ∧ ZS G (ad 4 1) N cn14 In14 Fn (resB x (facL bb N (smK bb N (k + 1)))); exact ⟨by show cn 31 ≤ (cn14 31) ∧ (cn14 31) ≤ (cn14 32) ∧ (cn14 32) ≤ cn 32; omega, (by first | (exfalso; omega) | (subst ex_14; cases x with | error e0 => exact hz_14 | ok z => (have e1 := ZS.pkx (b := bb) hz rfl; show ZS _ _ _ _ _ _ (facL bb N (smK bb N (k + 1)) z.1 z.2); unfold facL; rw [if_neg (fun q => absurd (e1.symm.trans q) (by assumption))]; unfold atmL; rw [if_neg (by rw [e1]; omega), show ltr (pk bb N z.1) = none from (congrArg ltr e1).trans (by first | (rw [show pkS cn bb = -1 by assumption]; decide) | (rcases hix with ⟨q1, q2⟩ | ⟨j9, q1, q2, q3⟩ <;> first | exact q2 | (exfalso; have q4 := congrArg Int32.toInt q2; rw [nI_toInt (by omega)] at q4; omega)))]; exact hz_14)))⟩)⟩, by rw [ht]; exact hP, hD⟩, hS.F ht⟩) hS.2.2 dX5_readFactor_98
        ·
          have tc_12 : (0 : Int) ≤ r_4.toInt := Int32.le_iff_toInt_le.mp (Int32.not_lt.mp c_12)
          refine lv_aload_n hx hb dX5_readFactor_70 rfl (lvA2 hl) ?_
          refine lv_dup hx hb dX5_readFactor_71 rfl ?_
          refine gf_RX5_31 S hK hP 3 xo_3 (v := .int (nI (cn 31))) rfl dX5_readFactor_72 ?_
          refine lv_iconst (v := 1) hx hb dX5_readFactor_75 kic_1 ?_
          refine lv_iadd hx hb dX5_readFactor_76 ?_
          refine lv_topi (fun y_16 ey_16 => ?_)
          obtain rfl : y_16 = (nI ((cn 31) + 1)) := ey_16.trans (nI_add (cn 31) 1)
          refine pf_RX5_31 S hK hP hD hS 3 xo_3 (v := .int (nI ((cn 31) + 1))) (Nat.le_of_ble_eq_true rfl) rfl rfl dX5_readFactor_77 (fun H locs hP hD hS => ?_)
          have hP : va_P D vwCl (wX cI (D.1 99) zz g ad (va_up cn 31 ((cn 31) + 1)) In Fn) H := va_P_eq (xsf_3_3) hP
          have hD : va_D A (wX cI (D.1 99) zz g ad (va_up cn 31 ((cn 31) + 1)) In Fn) := va_D_eq (xsf_3_3) hD
          have hz_16 : ZS G (ad 4 1) N (va_up cn 31 ((cn 31) + 1)) In Fn (resB x fInc) := ZS.incx hz (by omega) rfl rfl rfl
          obtain ⟨x_16, ex_16⟩ : ∃ y : ResT, y = resB x fInc := ⟨_, rfl⟩
          rw [← ex_16] at hz_16
          have sl_16 : SL 1 x_16 := by rw [ex_16]; exact SL.inc sl
          obtain ⟨l9, hl9, er9, el9⟩ : ∃ j : Nat, j < 11 ∧ r_4 = nI j ∧ ltr (pkS cn bb) = some j := by
            rcases hix with ⟨q1, q2⟩ | q1
            · exfalso; have q4 := congrArg Int32.toInt q1; have q5 : (-1 : Int32).toInt = -1 := rfl; omega
            · exact q1
          refine lv_aload_n hx hb dX5_readFactor_80 rfl (lvA2 hl) ?_
          refine gf_RX5_20 S hK hP 3 xo_3 (v := .ref (ad 5 (ad 4 1))) rfl dX5_readFactor_81 ?_
          refine lv_iconst (v := 2) hx hb dX5_readFactor_84 kic_2 ?_
          refine lv_iload_n hx hb dX5_readFactor_85 rfl (lvA0 hl) ?_
          have hFc := free_all hD hS hA
          refine va_calli (runV_xa (As := [.int 2, .int r_4]) (rest := []) S (q_Zadd l D cI cB cZ zz qq vv bt g ad (va_up cn 31 ((cn 31) + 1)) In Fn (ad 4 1) 2 r_4 H.size (CBX.n (k := 31) (v := ((cn 31) + 1)) hB (by decide)) (show (ad 4 1) < (cn 6) by omega) h9) kV_RX5_75 hK hXS hS hFc hP hD _ (xf_7 (show (ad 4 1) < (cn 6) by omega)) rfl rfl ⟨(by show 0 + 1 ≤ d + 1; omega), (by show 8 + (3 + 11) + 40 * 0 ≤ 40 * (d + 1); omega)⟩ ⟨Nat.le_of_ble_eq_true rfl, Nat.le_of_ble_eq_true rfl⟩ rfl hl.1 rfl (Nat.le_of_ble_eq_true rfl) dX5_readFactor_86) hS (fun q _ h => hFc q h) hFc (fun r_18 u t H1 locs ht hvm wh_19 hB1 hz1 hk1 hS => ?_)
          obtain ⟨cn19, In19, Fn19⟩ := u
          obtain ⟨hP1, hD1⟩ := hB1
          rw [ht] at hP1
          have hP : va_P D vwCl (wX cI (D.1 99) zz g ad cn19 In19 Fn19) H1 := hP1
          have hD : va_D A (wX cI (D.1 99) zz g ad cn19 In19 Fn19) := hD1.weaken (fun _ _ _ h => hFc _ h)
          generalize H1 = H at hP hS ⊢
          have vh_19 : (fun r c2 I2 F2 => Fr [] [] [195, 301] (va_up cn 31 ((cn 31) + 1)) In Fn c2 I2 F2 ∧ CBX c2 ∧ (addR (ad 4 1) 2 r_4 Fn F2 ∧ r = ((Fn 195)) (ad 4 1) ∧ KPT (ad 4 1) Fn F2)) r_18 cn19 In19 Fn19 := wh_19
          obtain ⟨hfc19, hIn19, h_19⟩ := vh_19
          obtain rfl : In = In19 := (funext (fun k => hfc19.2.1 k List.not_mem_nil)).symm
          have hf19 : Fr [31, 32] [33] [195, 301] cn In Fn cn19 In Fn19 := Fr.mo (Fr.tr (Fr.c 31 (Fr.rf (cn := cn) (In := In) (Fn := Fn))) hfc19) (sbl rfl) (sbl rfl) (sbl rfl)
          replace hIn19 : CBXh cn19 := hIn19
          have : cn19 6 = (cn 6) := hfc19.1 6 (nml rfl)
          have : cn19 31 = ((cn 31) + 1) := hfc19.1 31 (nml rfl)
          have : cn19 32 = (cn 32) := hfc19.1 32 (nml rfl)
          have hj_19 := ZS.addj hz_16 h_19.2.1
          have hz_19 : ZS G (ad 4 1) N cn19 In Fn19 (resB x_16 (fAdd 2 l9)) := ZS.addx h_19.2.2 hz_16 sl_16 hN ((congrFun (hfc19.2.2 199 (nml rfl)) _).symm.trans ((congrFun (hf19.2.2 199 (nml rfl)) _).trans he9)) ⟨(by decide), by decide⟩ ⟨er9, by omega⟩ h_19.1 (hfc19.1 31 (nml rfl)) (hfc19.1 32 (nml rfl)) (hfc19.2.1 33 (nml rfl))
          obtain ⟨x_19, ex_19⟩ : ∃ y : ResT, y = resB x_16 (fAdd 2 l9) := ⟨_, rfl⟩
          rw [← ex_19] at hz_19
          have sl_19 : SL 0 x_19 := by rw [ex_19]; exact SL.add sl_16
          refine lv_pop hx hb dX5_readFactor_89 rfl ?_
          refine lv_goto (tgt := 98) hx hb dX5_readFactor_90 rfl ?_
          exact W.vret hx hb hr (fun t ht hW => ⟨⟨(cn19, In, Fn19), rfl, ⟨(Fr.mo hf19 (sbl rfl) (sbl rfl) (sbl rfl)), hIn19, (by show (cn 31 ≤ cn19 31 ∧ cn19 31 ≤ cn19 32 ∧ cn19 32 ≤ cn 32) ∧ ZS G (ad 4 1) N cn19 In Fn19 (resB x (facL bb N (smK bb N (k + 1)))); exact ⟨by show cn 31 ≤ (cn19 31) ∧ (cn19 31) ≤ (cn19 32) ∧ (cn19 32) ≤ cn 32; omega, (by first | (exfalso; omega) | (subst ex_16 ex_19; cases x with | error e0 => exact hz_19 | ok z => (have e1 := ZS.pkx (b := bb) hz rfl; show ZS _ _ _ _ _ _ (facL bb N (smK bb N (k + 1)) z.1 z.2); unfold facL; rw [if_neg (fun q => absurd (e1.symm.trans q) (by assumption))]; unfold atmL; rw [if_neg (by rw [e1]; omega), show ltr (pk bb N z.1) = some l9 from (congrArg ltr e1).trans el9]; exact hz_19)))⟩)⟩, by rw [ht]; exact hP, hD⟩, hS.F ht⟩) hS.2.2 dX5_readFactor_98
    ·
      have tc_6 : ((pkS cn bb).toInt : Int) = 91 := congrArg Int32.toInt c_6
      refine lv_aload_n hx hb dX5_readFactor_28 rfl (lvA2 hl) ?_
      refine lv_iload_n hx hb dX5_readFactor_29 rfl (lvA3 hl) ?_
      have hFc := free_all hD hS hA
      refine va_calli (runV_xa (As := [.int o]) (rest := []) S (q_Zopens_y l D cI cB cZ zz qq vv bt g ad cn In Fn o s.heap.size hB (by omega) (by omega) (by omega) (by omega) (by omega) ho) kV_RX5_85 hK hXS hS hFc hP hD 3 xo_3 rfl rfl ⟨(by show 1 + 1 ≤ d + 1; omega), (by show 8 + (2 + 11) + 40 * 1 ≤ 40 * (d + 1); omega)⟩ ⟨Nat.le_of_ble_eq_true rfl, Nat.le_of_ble_eq_true rfl⟩ rfl hl.1 rfl (Nat.le_of_ble_eq_true rfl) dX5_readFactor_30) hS (fun q _ h => hFc q h) hFc (fun r_21 u t H1 locs ht hvm wh_22 hB1 hz1 hk1 hS => ?_)
      obtain ⟨cn22, In22, Fn22⟩ := u
      obtain ⟨hP1, hD1⟩ := hB1
      rw [ht] at hP1
      have hP : va_P D vwCl (wX cI (D.1 99) zz g ad cn22 In22 Fn22) H1 := hP1
      have hD : va_D A (wX cI (D.1 99) zz g ad cn22 In22 Fn22) := hD1.weaken (fun _ _ _ h => hFc _ h)
      generalize H1 = H at hP hS ⊢
      have vh_22 : (fun r c2 I2 F2 => Fr [31, 32] [33] [] cn In Fn c2 I2 F2 ∧ CBX c2 ∧ ((((cn 31) ≤ c2 31 ∧ c2 31 ≤ c2 32 ∧ c2 32 ≤ (cn 32)) ∧ c2 31 = (cn 31) + 1 ∧ c2 32 = (cn 32) ∧ I2 33 = (In 33)) ∧ r = 1)) r_21 cn22 In22 Fn22 := wh_22
      obtain ⟨hfc22, hIn22, h_22⟩ := vh_22
      obtain rfl : Fn = Fn22 := (funext (fun k => hfc22.2.2 k List.not_mem_nil)).symm
      have hf22 : Fr [31, 32] [33] [195, 301] cn In Fn cn22 In22 Fn := Fr.mo (Fr.tr (Fr.rf (cn := cn) (In := In) (Fn := Fn)) hfc22) (sbl rfl) (sbl rfl) (sbl rfl)
      replace hIn22 : CBXh cn22 := hIn22
      have : cn22 6 = (cn 6) := hfc22.1 6 (nml rfl)
      obtain ⟨h_22, rfl⟩ := h_22
      have hz_22 : ZS G (ad 4 1) N cn22 In22 Fn (resB x fInc) := ZS.incx hz (by omega) h_22.2.1 h_22.2.2.1 h_22.2.2.2
      obtain ⟨x_22, ex_22⟩ : ∃ y : ResT, y = resB x fInc := ⟨_, rfl⟩
      rw [← ex_22] at hz_22
      have sl_22 : SL 1 x_22 := by rw [ex_22]; exact SL.inc sl
      refine lv_if_eq (tgt := 98) hx hb dX5_readFactor_33 rfl (fun h => absurd h cq_eq_1_0) (fun _ => ?_)
      refine lv_aload_n hx hb (oc_42 36 (aq_11 shX5_readFactor_25)) rfl (lvA2 hl) ?_
      refine lv_iload_n hx hb (oc_27 37 (aq_12 shX5_readFactor_25)) rfl (lvA3 hl) ?_
      refine lv_iconst (v := 1) hx hb (oc_4 38 (aq_13 shX5_readFactor_25)) kic_1 ?_
      refine lv_iadd hx hb (oc_96 39 (aq_14 shX5_readFactor_25)) ?_
      have hFc := free_all hD hS hA
      refine va_callv (runV_xa (As := [.int (o + 1)]) (rest := []) S (hSq ad cn22 In22 Fn G bb N x_22 H.size hIn22 (by omega) (by omega) (by omega) (by omega) (by rw [hf22.2.2 199 (nml rfl)]; exact h9) ((congrFun (hf22.2.2 199 (nml rfl)) _).trans he9) hN ((hf22.2.2 40 (nml rfl)).trans heb) hby hz_22) kV_RX5_56 hK hXS hS hFc hP hD 3 xo_3 rfl rfl ⟨(by show d + 1 ≤ d + 1; omega), (by show 8 + (3 + 11) + 40 * d ≤ 40 * (d + 1); omega)⟩ ⟨Nat.le_of_ble_eq_true rfl, Nat.le_of_ble_eq_true rfl⟩ rfl hl.1 rfl (Nat.le_of_ble_eq_true rfl) (oc_182 40 (aq_15 shX5_readFactor_25) uw_0_56)) hS (fun q _ h => hFc q h) hFc (fun u t H1 locs ht hvm wh_25 hB1 hz1 hk1 hS => ?_)
      obtain ⟨cn25, In25, Fn25⟩ := u
      obtain ⟨hP1, hD1⟩ := hB1
      rw [ht] at hP1
      have hP : va_P D vwCl (wX cI (D.1 99) zz g ad cn25 In25 Fn25) H1 := hP1
      have hD : va_D A (wX cI (D.1 99) zz g ad cn25 In25 Fn25) := hD1.weaken (fun _ _ _ h => hFc _ h)
      generalize H1 = H at hP hS ⊢
      have vh_25 : (fun c2 I2 F2 => Fr [31, 32] [33] [195, 301] cn22 In22 Fn c2 I2 F2 ∧ CBX c2 ∧ (((cn22 31) ≤ c2 31 ∧ c2 31 ≤ c2 32 ∧ c2 32 ≤ (cn22 32)) ∧ ZS G (ad 4 1) N c2 I2 F2 (resB x_22 (sm1 bb N (smK bb N k))))) cn25 In25 Fn25 := wh_25
      obtain ⟨hfc25, hIn25, h_25⟩ := vh_25
      have hf25 : Fr [31, 32] [33] [195, 301] cn In Fn cn25 In25 Fn25 := Fr.mo (Fr.tr hf22 hfc25) (sbl rfl) (sbl rfl) (sbl rfl)
      replace hIn25 : CBXh cn25 := hIn25
      have : cn25 6 = (cn22 6) := hfc25.1 6 (nml rfl)
      have hz_25 : ZS G (ad 4 1) N cn25 In25 Fn25 (resB x_22 (sm1 bb N (smK bb N k))) := h_25.2
      obtain ⟨x_25, ex_25⟩ : ∃ y : ResT, y = resB x_22 (sm1 bb N (smK bb N k)) := ⟨_, rfl⟩
      rw [← ex_25] at hz_25
      have sl_25 : SL 1 x_25 := by rw [ex_25]; exact SL.rule (sm1_len (smK_len _)) sl_22
      refine lv_aload_n hx hb (oc_42 43 (aq_18 shX5_readFactor_25)) rfl (lvA2 hl) ?_
      refine lv_bipush (v := 93) hx hb (oc_16 44 (aq_19 shX5_readFactor_25) sgb_93) kbc_93 ?_
      have hFc := free_all hD hS hA
      refine va_callv (runV_xa (As := [.int 93]) (rest := []) S (q_Ztake l D cI cB cZ zz qq vv bt g ad cn25 In25 Fn25 93 H.size hIn25 (by omega) (by omega) (by omega) (by omega) (by decide)) kV_RX5_62 hK hXS hS hFc hP hD 3 xo_3 rfl rfl ⟨(by show 1 + 1 ≤ d + 1; omega), (by show 8 + (2 + 11) + 40 * 1 ≤ 40 * (d + 1); omega)⟩ ⟨Nat.le_of_ble_eq_true rfl, Nat.le_of_ble_eq_true rfl⟩ rfl hl.1 rfl (Nat.le_of_ble_eq_true rfl) (oc_182 46 (aq_21 shX5_readFactor_25) uw_0_62)) hS (fun q _ h => hFc q h) hFc (fun u t H1 locs ht hvm wh_28 hB1 hz1 hk1 hS => ?_)
      obtain ⟨cn28, In28, Fn28⟩ := u
      obtain ⟨hP1, hD1⟩ := hB1
      rw [ht] at hP1
      have hP : va_P D vwCl (wX cI (D.1 99) zz g ad cn28 In28 Fn28) H1 := hP1
      have hD : va_D A (wX cI (D.1 99) zz g ad cn28 In28 Fn28) := hD1.weaken (fun _ _ _ h => hFc _ h)
      generalize H1 = H at hP hS ⊢
      have vh_28 : (fun c2 I2 F2 => Fr [31, 32] [33] [] cn25 In25 Fn25 c2 I2 F2 ∧ CBX c2 ∧ (((cn25 31) ≤ c2 31 ∧ c2 31 ≤ c2 32 ∧ c2 32 ≤ (cn25 32)) ∧ TKR 93 ((Fn25 40)) cn25 In25 c2 I2)) cn28 In28 Fn28 := wh_28
      obtain ⟨hfc28, hIn28, h_28⟩ := vh_28
      obtain rfl : Fn25 = Fn28 := (funext (fun k => hfc28.2.2 k List.not_mem_nil)).symm
      have hf28 : Fr [31, 32] [33] [195, 301] cn In Fn cn28 In28 Fn25 := Fr.mo (Fr.tr hf25 hfc28) (sbl rfl) (sbl rfl) (sbl rfl)
      replace hIn28 : CBXh cn28 := hIn28
      have : cn28 6 = (cn25 6) := hfc28.1 6 (nml rfl)
      rw [((hf28.2.2 40 (nml rfl)).trans heb)] at h_28
      have hz_28 : ZS G (ad 4 1) N cn28 In28 Fn25 (resB x_25 (fTk bb N 93)) := ZS.tk (by decide) hN hz_25 h_28.2
      obtain ⟨x_28, ex_28⟩ : ∃ y : ResT, y = resB x_25 (fTk bb N 93) := ⟨_, rfl⟩
      rw [← ex_28] at hz_28
      refine lv_goto (tgt := 98) hx hb (oc_167 49 shX5_readFactor_49 sgw_0_49) rfl ?_
      exact W.vret hx hb hr (fun t ht hW => ⟨⟨(cn28, In28, Fn25), rfl, ⟨(Fr.mo hf28 (sbl rfl) (sbl rfl) (sbl rfl)), hIn28, (by show (cn 31 ≤ cn28 31 ∧ cn28 31 ≤ cn28 32 ∧ cn28 32 ≤ cn 32) ∧ ZS G (ad 4 1) N cn28 In28 Fn25 (resB x (facL bb N (smK bb N (k + 1)))); exact ⟨by show cn 31 ≤ (cn28 31) ∧ (cn28 31) ≤ (cn28 32) ∧ (cn28 32) ≤ cn 32; omega, (by first | (exfalso; omega) | (subst ex_22 ex_25 ex_28; cases x with | error e0 => exact hz_28 | ok z => (have e1 := ZS.pkx (b := bb) hz rfl; rw [show pkS cn bb = 91 by assumption] at e1; show ZS _ _ _ _ _ _ (facL bb N (smK bb N (k + 1)) z.1 z.2); unfold facL; rw [if_pos e1]; exact hz_28)))⟩)⟩, by rw [ht]; exact hP, hD⟩, hS.F ht⟩) hS.2.2 dX5_readFactor_98
  ·
    have tc_3 : ((pkS cn bb).toInt : Int) = (-1) := congrArg Int32.toInt c_3
    refine lv_iconst (v := (-1)) hx hb dX5_readFactor_10 kic_m1 ?_
    refine lv_goto (tgt := 21) hx hb dX5_readFactor_11 rfl ?_
    refine lv_istore_n (lv' := [(3, .int (-1)), (2, .int (pkS cn bb)), (0, .ref (g 6)), (1, .int o)]) hx hb dX5_readFactor_21 rfl hl (ltb rfl) rfl (fun ls hl => ?_)
    refine lv_iload_n hx hb dX5_readFactor_22 rfl (lvA1 hl) ?_
    refine lv_bipush (v := 91) hx hb dX5_readFactor_23 kbc_91 ?_
    refine lv_icmp_ne (tgt := 52) hx hb dX5_readFactor_25 rfl (fun c_30 => ?_) (fun c_30 => False.elim (by have tc_30 : ((pkS cn bb).toInt : Int) = 91 := congrArg Int32.toInt c_30; omega))
    have tc_30 : ((pkS cn bb).toInt : Int) ≠ 91 := fun q => c_30 (Int32.toInt_inj.mp q)
    refine lv_iload_n hx hb dX5_readFactor_52 rfl (lvA1 hl) ?_
    refine vp_callSi (runS_r (As := [.int (pkS cn bb)]) (rest := []) S (q_l_isDigit l D cI cB cZ (pkS cn bb)) kS_RX5_106 hK hP [] rfl ⟨(by show 0 + 1 ≤ d + 1; omega), (by show 8 + (1 + 11) + 40 * 0 ≤ 40 * (d + 1); omega)⟩ ⟨Nat.le_of_ble_eq_true rfl, Nat.le_of_ble_eq_true rfl⟩ rfl hl.1 rfl (Nat.le_of_ble_eq_true rfl) dX5_readFactor_53) (fun r_31 h_32 => ?_)
    rcases h_32 with ⟨rfl, h_32⟩ | ⟨rfl, h_32⟩
    ·
      have h_32 : 48 ≤ (pkS cn bb).toInt ∧ (pkS cn bb).toInt ≤ 57 := h_32
      exfalso; omega
    ·
      have h_32 : ¬ (48 ≤ (pkS cn bb).toInt ∧ (pkS cn bb).toInt ≤ 57) := h_32
      refine lv_if_eq (tgt := 66) hx hb dX5_readFactor_56 rfl (fun _ => ?_) (fun h => absurd h cq_eq_0_0)
      refine lv_iload_n hx hb dX5_readFactor_66 rfl (lvA0 hl) ?_
      refine lv_if_lt (tgt := 93) hx hb dX5_readFactor_67 rfl (fun _ => ?_) (fun h => absurd h cq_lt_m1_0)
      refine lv_aload_n hx hb dX5_readFactor_93 rfl (lvA2 hl) ?_
      refine lv_iconst (v := 1) hx hb dX5_readFactor_94 kic_1 ?_
      have hFc := free_all hD hS hA
      refine va_callv (runV_xa (As := [.int 1]) (rest := []) S (q_Zfail l D cI cB cZ zz qq vv bt g ad cn In Fn 1 s.heap.size hB (by omega) (by omega) (by omega) (by omega)) kV_RX5_47 hK hXS hS hFc hP hD 3 xo_3 rfl rfl ⟨(by show 0 + 1 ≤ d + 1; omega), (by show 8 + (2 + 11) + 40 * 0 ≤ 40 * (d + 1); omega)⟩ ⟨Nat.le_of_ble_eq_true rfl, Nat.le_of_ble_eq_true rfl⟩ rfl hl.1 rfl (Nat.le_of_ble_eq_true rfl) dX5_readFactor_95) hS (fun q _ h => hFc q h) hFc (fun u t H1 locs ht hvm wh_34 hB1 hz1 hk1 hS => ?_)
      obtain ⟨cn34, In34, Fn34⟩ := u
      obtain ⟨hP1, hD1⟩ := hB1
      rw [ht] at hP1
      have hP : va_P D vwCl (wX cI (D.1 99) zz g ad cn34 In34 Fn34) H1 := hP1
      have hD : va_D A (wX cI (D.1 99) zz g ad cn34 In34 Fn34) := hD1.weaken (fun _ _ _ h => hFc _ h)
      generalize H1 = H at hP hS ⊢
      have vh_34 : (fun c2 I2 F2 => Fr [32] [33] [] cn In Fn c2 I2 F2 ∧ CBX c2 ∧ ((c2 31 = (cn 31) ∧ (cn 31) ≤ c2 32 ∧ c2 32 ≤ (cn 32)) ∧ FLRv 1 cn In c2 I2)) cn34 In34 Fn34 := wh_34
      obtain ⟨hfc34, hIn34, h_34⟩ := vh_34
      obtain rfl : Fn = Fn34 := (funext (fun k => hfc34.2.2 k List.not_mem_nil)).symm
      have hf34 : Fr [31, 32] [33] [195, 301] cn In Fn cn34 In34 Fn := Fr.mo (Fr.tr (Fr.rf (cn := cn) (In := In) (Fn := Fn)) hfc34) (sbl rfl) (sbl rfl) (sbl rfl)
      replace hIn34 : CBXh cn34 := hIn34
      have : cn34 6 = (cn 6) := hfc34.1 6 (nml rfl)
      have : cn34 31 = (cn 31) := hfc34.1 31 (nml rfl)
      have hz_34 : ZS G (ad 4 1) N cn34 In34 Fn (resB x (fErr 1)) := ZS.failv (k := 1) (by decide) (by decide) hN hz h_34.2
      obtain ⟨x_34, ex_34⟩ : ∃ y : ResT, y = resB x (fErr 1) := ⟨_, rfl⟩
      rw [← ex_34] at hz_34
      exact W.vret hx hb hr (fun t ht hW => ⟨⟨(cn34, In34, Fn), rfl, ⟨(Fr.mo hf34 (sbl rfl) (sbl rfl) (sbl rfl)), hIn34, (by show (cn 31 ≤ cn34 31 ∧ cn34 31 ≤ cn34 32 ∧ cn34 32 ≤ cn 32) ∧ ZS G (ad 4 1) N cn34 In34 Fn (resB x (facL bb N (smK bb N (k + 1)))); exact ⟨by show cn 31 ≤ (cn34 31) ∧ (cn34 31) ≤ (cn34 32) ∧ (cn34 32) ≤ cn 32; omega, (by first | (exfalso; omega) | (subst ex_34; cases x with | error e0 => exact hz_34 | ok z => (have e1 := ZS.pkx (b := bb) hz rfl; show ZS _ _ _ _ _ _ (facL bb N (smK bb N (k + 1)) z.1 z.2); unfold facL; rw [if_neg (fun q => absurd (e1.symm.trans q) (by assumption))]; unfold atmL; rw [if_neg (by rw [e1]; omega), show ltr (pk bb N z.1) = none from (congrArg ltr e1).trans (by first | (rw [show pkS cn bb = -1 by assumption]; decide) | (rcases hix with ⟨q1, q2⟩ | ⟨j9, q1, q2, q3⟩ <;> first | exact q2 | (exfalso; have q4 := congrArg Int32.toInt q2; rw [nI_toInt (by omega)] at q4; omega)))]; exact hz_34)))⟩)⟩, by rw [ht]; exact hP, hD⟩, hS.F ht⟩) hS.2.2 dX5_readFactor_98
set_option maxRecDepth 100000 in
set_option maxHeartbeats 4000000 in
theorem gq_ZreadTerm (l : Launch) (D : va_G) (cI cB cZ : ClassId) (zz qq vv : Nat) (bt : Nat → Int32) (g : Nat → Nat) (o : Int32) (d k : Nat) (hd : 4 ≤ d ∧ d ≤ 60) (hSq : RDZ yX5_readFactor cX5_readFactor 4 l D cI cB cZ zz qq vv bt g o d (fun bb N => facL bb N (smK bb N k))) : RDZ yX5_readTerm cX5_readTerm 3 l D cI cB cZ zz qq vv bt g o (d + 1) (fun bb N => trm bb N (smK bb N k)) := by
  intro ad cn In Fn G bb N x sz hB hR h1 h3 h4 h9 he9 hN heb hby hz
  refine Met.ofW (cc := cX5_readTerm) (maxL := 3) (ret := none) (by decide) rfl ?_
  intro p e s m args below meth c s₁ B hml hv
  obtain ⟨rfl, hsz, hP, hK, hD0, hXS⟩ := hv
  have hx := B.exec
  have hb := B.bytes
  have hr := B.returns
  have hts := atoms_spec (ws := (CWS yX5_readTerm cX5_readTerm 3 none)) B.pre
  have hown : s.vm.findClass RX5 = some m.cls := findClass_of_methodNamed B.named
  have hlocks := B.notSynchronized
  have S : SF p m c cX5_readTerm 3 s ([.ref (g 6), .int o]).toArray RX5 := ⟨hx, hb, hml, hown, fun w h => hts w (List.mem_cons_of_mem _ h)⟩
  subst hsz
  have hD := hD0.self (sz := s.heap.size)
  generalize hAe : va_A (wX cI (D.1 99) zz g ad cn In Fn) s.heap.size = A at hD hXS ⊢
  have hA : ∀ q : Nat, s.heap.size ≤ q → A q := fun q h => by rw [← hAe]; exact Or.inr h
  have hS : va_S A s.heap s.heap [] := va_S.rf
  have hl := lv_entry ([.ref (g 6), .int o]) (n := 3) (Nat.le_of_ble_eq_true rfl)
  rw [lg_entry_eq]
  generalize (lg_sl ([.ref (g 6), .int o]) ++ List.replicate (3 - (lg_sl ([.ref (g 6), .int o])).length) Slot.unset).toArray = ls at hl ⊢
  have hl : lv_has ls 3 [(0, .ref (g 6)), (1, .int o)] := hl
  replace hB : CBXh cn := hB
  have sl := ZS.sl hz
  refine lv_aload_n hx hb (oc_42 0 shX5_readTerm_0) rfl (lvA0 hl) ?_
  refine lv_iload_n hx hb (oc_27 1 (aq_1 shX5_readTerm_0)) rfl (lvA1 hl) ?_
  have hFc := free_all hD hS hA
  refine va_callv (runV_xa (As := [.int o]) (rest := []) S (hSq ad cn In Fn G bb N x s.heap.size hB (by omega) (by omega) (by omega) (by omega) h9 he9 hN heb hby hz) kV_RX5_95 hK hXS hS hFc hP hD 3 xo_3 rfl rfl ⟨(by show d + 1 ≤ d + 1; omega), (by show 8 + (4 + 11) + 40 * d ≤ 40 * (d + 1); omega)⟩ ⟨Nat.le_of_ble_eq_true rfl, Nat.le_of_ble_eq_true rfl⟩ rfl hl.1 rfl (Nat.le_of_ble_eq_true rfl) (oc_182 2 (aq_2 shX5_readTerm_0) uw_0_95)) hS (fun q _ h => hFc q h) hFc (fun u t H1 locs ht hvm wh_2 hB1 hz1 hk1 hS => ?_)
  obtain ⟨cn2, In2, Fn2⟩ := u
  obtain ⟨hP1, hD1⟩ := hB1
  rw [ht] at hP1
  have hP : va_P D vwCl (wX cI (D.1 99) zz g ad cn2 In2 Fn2) H1 := hP1
  have hD : va_D A (wX cI (D.1 99) zz g ad cn2 In2 Fn2) := hD1.weaken (fun _ _ _ h => hFc _ h)
  generalize H1 = H at hP hS ⊢
  have vh_2 : (fun c2 I2 F2 => Fr [31, 32] [33] [195, 301] cn In Fn c2 I2 F2 ∧ CBX c2 ∧ (((cn 31) ≤ c2 31 ∧ c2 31 ≤ c2 32 ∧ c2 32 ≤ (cn 32)) ∧ ZS G (ad 4 1) N c2 I2 F2 (resB x (facL bb N (smK bb N k))))) cn2 In2 Fn2 := wh_2
  obtain ⟨hfc2, hIn2, h_2⟩ := vh_2
  have hf2 : Fr [31, 32] [33] [195, 301] cn In Fn cn2 In2 Fn2 := Fr.mo (Fr.tr (Fr.rf (cn := cn) (In := In) (Fn := Fn)) hfc2) (sbl rfl) (sbl rfl) (sbl rfl)
  replace hIn2 : CBXh cn2 := hIn2
  have : cn2 6 = (cn 6) := hfc2.1 6 (nml rfl)
  have hz_2 : ZS G (ad 4 1) N cn2 In2 Fn2 (resB x (facL bb N (smK bb N k))) := h_2.2
  obtain ⟨x_2, ex_2⟩ : ∃ y : ResT, y = resB x (facL bb N (smK bb N k)) := ⟨_, rfl⟩
  rw [← ex_2] at hz_2
  have sl_2 : SL 0 x_2 := by rw [ex_2]; exact SL.rule (fac_len (smK_len _)) sl
  have lp_5 : ∀ (n : Nat)  (c5 : Nat → Nat) (I5 : Nat → Int32) (F5 : Nat → Nat → Int32) (H : Heap) (locs : List Loc) , c5 32 - c5 31 < n → (Fr [31, 32] [33] [195, 301] cn In Fn c5 I5 F5 ∧ CBX c5 ∧ (cn 31 ≤ c5 31 ∧ c5 31 ≤ c5 32 ∧ c5 32 ≤ cn 32) ∧ (∃ y : ResT, ZS G (ad 4 1) N c5 I5 F5 y ∧ resB x (trm bb N (smK bb N k)) = resB y (trmL bb N (smK bb N k) (N + 1)))) → va_P D vwCl (wX cI (D.1 99) zz g ad c5 I5 F5) H → va_D A (wX cI (D.1 99) zz g ad c5 I5 F5) → va_S A s.heap H locs → ∀ ls : Array Slot, lv_has ls 3 [(0, .ref (g 6)), (1, .int o)] → W p l e (RM (d + 1) 0 0) s m ([.ref (g 6), .int o]).toArray below meth c H locs 0 0 (MQ below (va_Qv (fun (u : (Nat → Nat) × (Nat → Int32) × (Nat → Nat → Int32)) => (fun c2 I2 F2 => Fr [31, 32] [33] [195, 301] cn In Fn c2 I2 F2 ∧ CBX c2 ∧ ((cn 31 ≤ c2 31 ∧ c2 31 ≤ c2 32 ∧ c2 32 ≤ cn 32) ∧ ZS G (ad 4 1) N c2 I2 F2 (resB x (trm bb N (smK bb N k))))) u.1 u.2.1 u.2.2) (fun (u : (Nat → Nat) × (Nat → Int32) × (Nat → Nat → Int32)) (t : State) => va_P D vwCl (wX cI (D.1 99) zz g ad u.1 u.2.1 u.2.2) t.heap ∧ va_D A (wX cI (D.1 99) zz g ad u.1 u.2.1 u.2.2)) A) ([.ref (g 6), .int o]).toArray s 0 0 A) (F0 m 5 ls []) := by
    intro n5
    induction n5 with
    | zero => intros; omega
    | succ n5 ih5 =>
      intro  c5 I5 F5 H locs hmu5 hinv5 hP hD hS ls hl
      obtain ⟨hfr5, hI5, hx5_0, hx5_1⟩ := hinv5
      replace hI5 : CBXh c5 := hI5
      have : c5 6 = cn 6 := hfr5.1 6 (nml rfl)
      obtain ⟨x_5, hz_5, e_5⟩ := hx5_1
      have sl_5 := ZS.sl hz_5
      refine lv_aload_n hx hb (oc_42 5 (aq_5 shX5_readTerm_0)) rfl (lvA0 hl) ?_
      refine gf_RX5_31 S hK hP 3 xo_3 (v := .int (nI (c5 31))) rfl (oc_180 6 (aq_6 shX5_readTerm_0) uw_0_31) ?_
      refine lv_aload_n hx hb (oc_42 9 (aq_9 shX5_readTerm_0)) rfl (lvA0 hl) ?_
      refine gf_RX5_34 S hK hP 3 xo_3 (v := .int (nI (c5 32))) rfl (oc_180 10 (aq_10 shX5_readTerm_0) uw_0_34) ?_
      have : (nI (c5 31)).toInt = (((c5 31) : Nat) : Int) := nI_toInt (by omega)
      have : (nI (c5 32)).toInt = (((c5 32) : Nat) : Int) := nI_toInt (by omega)
      refine lv_icmp_ge (tgt := 98) hx hb (oc_162 13 (aq_13 shX5_readTerm_0) sgw_0_85) rfl (fun c_4 => ?_) (fun c_4 => ?_)
      ·
        have tc_4 : ((nI (c5 32)).toInt : Int) ≤ (nI (c5 31)).toInt := Int32.le_iff_toInt_le.mp c_4
        exact W.vret hx hb hr (fun t ht hW => ⟨⟨(c5, I5, F5), rfl, ⟨(Fr.mo hfr5 (sbl rfl) (sbl rfl) (sbl rfl)), hI5, (by show (cn 31 ≤ c5 31 ∧ c5 31 ≤ c5 32 ∧ c5 32 ≤ cn 32) ∧ ZS G (ad 4 1) N c5 I5 F5 (resB x (trm bb N (smK bb N k))); exact ⟨by show cn 31 ≤ (c5 31) ∧ (c5 31) ≤ (c5 32) ∧ (c5 32) ≤ cn 32; omega, (by show ZS _ _ _ _ _ _ (resB x (trm bb N (smK bb N k))); rw [e_5, trm_end (fun z e => (by first | (rw [ZS.endx (b := bb) hz_5 (by omega) e]; decide) | (rw [ZS.pkx (b := bb) hz_5 e]; unfold tms; rw [if_neg (by assumption), if_neg (by assumption), if_neg (by assumption)])))]; exact hz_5)⟩)⟩, by rw [ht]; exact hP, hD⟩, hS.F ht⟩) hS.2.2 dX5_readTerm_98
      ·
        have tc_4 : ((nI (c5 31)).toInt : Int) < (nI (c5 32)).toInt := Int32.lt_iff_toInt_lt.mp (Int32.not_le.mp c_4)
        refine lv_aload_n hx hb (oc_42 16 (aq_16 shX5_readTerm_0)) rfl (lvA0 hl) ?_
        refine vp_callSi (runV_rxa (As := []) (rest := []) S (q_Rpeek l D cI cB cZ zz qq vv bt g ad c5 I5 F5  hI5 (by omega) (by omega) (by omega) (by omega)) kV_RX5_43 hK hXS hS hP 3 xo_3 rfl rfl ⟨(by show 0 + 1 ≤ d + 1; omega), (by show 8 + (1 + 11) + 40 * 0 ≤ 40 * (d + 1); omega)⟩ ⟨Nat.le_of_ble_eq_true rfl, Nat.le_of_ble_eq_true rfl⟩ rfl hl.1 rfl (Nat.le_of_ble_eq_true rfl) (oc_182 17 (aq_17 shX5_readTerm_0) uw_0_43)) (fun r_5 h_6 => ?_)
        rw [((hfr5.2.2 40 (nml rfl)).trans heb)] at h_6
        obtain rfl : r_5 = pkS c5 bb := pkS_of h_6
        refine lv_bipush (v := 42) hx hb (oc_16 20 (aq_20 shX5_readTerm_0) sgb_42) kbc_42 ?_
        refine lv_icmp_eq (tgt := 43) hx hb (oc_159 22 (aq_22 shX5_readTerm_0) sgw_0_21) rfl (fun c_7 => ?_) (fun c_7 => ?_)
        ·
          have tc_7 : ((pkS c5 bb).toInt : Int) = 42 := congrArg Int32.toInt c_7
          refine lv_aload_n hx hb dX5_readTerm_43 rfl (lvA0 hl) ?_
          refine vp_callSi (runV_rxa (As := []) (rest := []) S (q_Rpeek l D cI cB cZ zz qq vv bt g ad c5 I5 F5  hI5 (by omega) (by omega) (by omega) (by omega)) kV_RX5_43 hK hXS hS hP 3 xo_3 rfl rfl ⟨(by show 0 + 1 ≤ d + 1; omega), (by show 8 + (1 + 11) + 40 * 0 ≤ 40 * (d + 1); omega)⟩ ⟨Nat.le_of_ble_eq_true rfl, Nat.le_of_ble_eq_true rfl⟩ rfl hl.1 rfl (Nat.le_of_ble_eq_true rfl) dX5_readTerm_44) (fun r_8 h_9 => ?_)
          rw [((hfr5.2.2 40 (nml rfl)).trans heb)] at h_9
          obtain rfl : r_8 = pkS c5 bb := pkS_of h_9
          refine lv_istore_n (lv' := [(2, .int (pkS c5 bb)), (0, .ref (g 6)), (1, .int o)]) hx hb dX5_readTerm_47 rfl hl (ltb rfl) rfl (fun ls hl => ?_)
          refine lv_aload_n hx hb dX5_readTerm_48 rfl (lvA1 hl) ?_
          refine lv_dup hx hb dX5_readTerm_49 rfl ?_
          refine gf_RX5_31 S hK hP 3 xo_3 (v := .int (nI (c5 31))) rfl dX5_readTerm_50 ?_
          refine lv_iconst (v := 1) hx hb dX5_readTerm_53 kic_1 ?_
          refine lv_iadd hx hb dX5_readTerm_54 ?_
          refine lv_topi (fun y_10 ey_10 => ?_)
          obtain rfl : y_10 = (nI ((c5 31) + 1)) := ey_10.trans (nI_add (c5 31) 1)
          refine pf_RX5_31 S hK hP hD hS 3 xo_3 (v := .int (nI ((c5 31) + 1))) (Nat.le_of_ble_eq_true rfl) rfl rfl dX5_readTerm_55 (fun H locs hP hD hS => ?_)
          have hP : va_P D vwCl (wX cI (D.1 99) zz g ad (va_up c5 31 ((c5 31) + 1)) I5 F5) H := va_P_eq (xsf_3_3) hP
          have hD : va_D A (wX cI (D.1 99) zz g ad (va_up c5 31 ((c5 31) + 1)) I5 F5) := va_D_eq (xsf_3_3) hD
          have hz_10 : ZS G (ad 4 1) N (va_up c5 31 ((c5 31) + 1)) I5 F5 (resB x_5 fInc) := ZS.incx hz_5 (by omega) rfl rfl rfl
          obtain ⟨x_10, ex_10⟩ : ∃ y : ResT, y = resB x_5 fInc := ⟨_, rfl⟩
          rw [← ex_10] at hz_10
          have sl_10 : SL 1 x_10 := by rw [ex_10]; exact SL.inc sl_5
          refine lv_aload_n hx hb dX5_readTerm_58 rfl (lvA1 hl) ?_
          refine lv_iload_n hx hb dX5_readTerm_59 rfl (lvA2 hl) ?_
          have hFc := free_all hD hS hA
          refine va_callv (runV_xa (As := [.int o]) (rest := []) S (hSq ad (va_up c5 31 ((c5 31) + 1)) I5 F5 G bb N x_10 H.size (CBX.n (k := 31) (v := ((c5 31) + 1)) hI5 (by decide)) (show ad 4 2 = g 40 by omega) (show ad 4 1 < (c5 6) by omega) (show ((c5 31) + 1) ≤ (c5 32) by omega) (show (c5 32) ≤ 160 by omega) (by rw [hfr5.2.2 199 (nml rfl)]; exact h9) ((congrFun (hfr5.2.2 199 (nml rfl)) _).trans he9) hN ((hfr5.2.2 40 (nml rfl)).trans heb) hby hz_10) kV_RX5_95 hK hXS hS hFc hP hD 3 xo_3 rfl rfl ⟨(by show d + 1 ≤ d + 1; omega), (by show 8 + (4 + 11) + 40 * d ≤ 40 * (d + 1); omega)⟩ ⟨Nat.le_of_ble_eq_true rfl, Nat.le_of_ble_eq_true rfl⟩ rfl hl.1 rfl (Nat.le_of_ble_eq_true rfl) dX5_readTerm_60) hS (fun q _ h => hFc q h) hFc (fun u t H1 locs ht hvm wh_13 hB1 hz1 hk1 hS => ?_)
          obtain ⟨cn13, In13, Fn13⟩ := u
          obtain ⟨hP1, hD1⟩ := hB1
          rw [ht] at hP1
          have hP : va_P D vwCl (wX cI (D.1 99) zz g ad cn13 In13 Fn13) H1 := hP1
          have hD : va_D A (wX cI (D.1 99) zz g ad cn13 In13 Fn13) := hD1.weaken (fun _ _ _ h => hFc _ h)
          generalize H1 = H at hP hS ⊢
          have vh_13 : (fun c2 I2 F2 => Fr [31, 32] [33] [195, 301] (va_up c5 31 ((c5 31) + 1)) I5 F5 c2 I2 F2 ∧ CBX c2 ∧ ((((c5 31) + 1) ≤ c2 31 ∧ c2 31 ≤ c2 32 ∧ c2 32 ≤ (c5 32)) ∧ ZS G (ad 4 1) N c2 I2 F2 (resB x_10 (facL bb N (smK bb N k))))) cn13 In13 Fn13 := wh_13
          obtain ⟨hfc13, hIn13, h_13⟩ := vh_13
          have hf13 : Fr [31, 32] [33] [195, 301] cn In Fn cn13 In13 Fn13 := Fr.mo (Fr.tr (Fr.c 31 hfr5) hfc13) (sbl rfl) (sbl rfl) (sbl rfl)
          replace hIn13 : CBXh cn13 := hIn13
          have : cn13 6 = (c5 6) := hfc13.1 6 (nml rfl)
          have hz_13 : ZS G (ad 4 1) N cn13 In13 Fn13 (resB x_10 (facL bb N (smK bb N k))) := h_13.2
          obtain ⟨x_13, ex_13⟩ : ∃ y : ResT, y = resB x_10 (facL bb N (smK bb N k)) := ⟨_, rfl⟩
          rw [← ex_13] at hz_13
          have sl_13 : SL 1 x_13 := by rw [ex_13]; exact SL.rule (fac_len (smK_len _)) sl_10
          refine lv_aload_n hx hb dX5_readTerm_63 rfl (lvA1 hl) ?_
          refine gf_RX5_20 S hK hP 3 xo_3 (v := .ref (ad 5 (ad 4 1))) rfl dX5_readTerm_64 ?_
          refine lv_iload_n hx hb dX5_readTerm_67 rfl (lvA0 hl) ?_
          refine lv_bipush (v := 42) hx hb dX5_readTerm_68 kbc_42 ?_
          refine lv_icmp_ne (tgt := 77) hx hb dX5_readTerm_70 rfl (fun c_15 => False.elim (by have tc_15 : ((pkS c5 bb).toInt : Int) ≠ 42 := fun q => c_15 (Int32.toInt_inj.mp q); omega)) (fun c_15 => ?_)
          have tc_15 : ((pkS c5 bb).toInt : Int) = 42 := congrArg Int32.toInt c_15
          refine lv_iconst (v := 5) hx hb dX5_readTerm_73 kic_5 ?_
          refine lv_goto (tgt := 90) hx hb dX5_readTerm_74 rfl ?_
          refine lv_iconst (v := 0) hx hb dX5_readTerm_90 kic_0 ?_
          have hFc := free_all hD hS hA
          refine va_calli (runV_xa (As := [.int 5, .int 0]) (rest := []) S (q_Zadd l D cI cB cZ zz qq vv bt g ad cn13 In13 Fn13 (ad 4 1) 5 0 H.size hIn13 (by omega) (by rw [hf13.2.2 199 (nml rfl)]; exact h9)) kV_RX5_75 hK hXS hS hFc hP hD _ (xf_7 (show (ad 4 1) < (cn13 6) by omega)) rfl rfl ⟨(by show 0 + 1 ≤ d + 1; omega), (by show 8 + (3 + 11) + 40 * 0 ≤ 40 * (d + 1); omega)⟩ ⟨Nat.le_of_ble_eq_true rfl, Nat.le_of_ble_eq_true rfl⟩ rfl hl.1 rfl (Nat.le_of_ble_eq_true rfl) dX5_readTerm_91) hS (fun q _ h => hFc q h) hFc (fun r_16 u t H1 locs ht hvm wh_17 hB1 hz1 hk1 hS => ?_)
          obtain ⟨cn17, In17, Fn17⟩ := u
          obtain ⟨hP1, hD1⟩ := hB1
          rw [ht] at hP1
          have hP : va_P D vwCl (wX cI (D.1 99) zz g ad cn17 In17 Fn17) H1 := hP1
          have hD : va_D A (wX cI (D.1 99) zz g ad cn17 In17 Fn17) := hD1.weaken (fun _ _ _ h => hFc _ h)
          generalize H1 = H at hP hS ⊢
          have vh_17 : (fun r c2 I2 F2 => Fr [] [] [195, 301] cn13 In13 Fn13 c2 I2 F2 ∧ CBX c2 ∧ (addR (ad 4 1) 5 0 Fn13 F2 ∧ r = ((Fn13 195)) (ad 4 1) ∧ KPT (ad 4 1) Fn13 F2)) r_16 cn17 In17 Fn17 := wh_17
          obtain ⟨hfc17, hIn17, h_17⟩ := vh_17
          obtain rfl : cn13 = cn17 := (funext (fun k => hfc17.1 k List.not_mem_nil)).symm
          obtain rfl : In13 = In17 := (funext (fun k => hfc17.2.1 k List.not_mem_nil)).symm
          have hf17 : Fr [31, 32] [33] [195, 301] cn In Fn cn13 In13 Fn17 := Fr.mo (Fr.tr hf13 hfc17) (sbl rfl) (sbl rfl) (sbl rfl)
          replace hIn17 : CBXh cn13 := hIn17
          have hj_17 := ZS.addj hz_13 h_17.2.1
          have hz_17 : ZS G (ad 4 1) N cn13 In13 Fn17 (resB x_13 (fAdd 5 0)) := ZS.addx h_17.2.2 hz_13 sl_13 hN ((congrFun (hfc17.2.2 199 (nml rfl)) _).symm.trans ((congrFun (hf17.2.2 199 (nml rfl)) _).trans he9)) ⟨(by decide), by decide⟩ ⟨(by decide), by omega⟩ h_17.1 (hfc17.1 31 (nml rfl)) (hfc17.1 32 (nml rfl)) (hfc17.2.1 33 (nml rfl))
          obtain ⟨x_17, ex_17⟩ : ∃ y : ResT, y = resB x_13 (fAdd 5 0) := ⟨_, rfl⟩
          rw [← ex_17] at hz_17
          have sl_17 : SL 0 x_17 := by rw [ex_17]; exact SL.add sl_13
          refine lv_pop hx hb dX5_readTerm_94 rfl ?_
          refine lv_goto (tgt := 5) hx hb dX5_readTerm_95 rfl ?_
          exact ih5  cn13 In13 Fn17 _ _ (show (cn13 32) - (cn13 31) < n5 by omega) ⟨(Fr.mo hf17 (sbl rfl) (sbl rfl) (sbl rfl)), hIn17, (show cn 31 ≤ (cn13 31) ∧ (cn13 31) ≤ (cn13 32) ∧ (cn13 32) ≤ cn 32 by omega), ⟨_, hz_17, (by rw [ex_17, ex_13, ex_10]; exact e_5.trans (trm_go (smK_mono _) (fun z e => (by rw [ZS.pkx (b := bb) hz_5 e]; first | (rw [show pkS c5 bb = 42 by assumption]; decide) | (exfalso; omega)))).symm)⟩⟩ hP hD hS ls (lv_sub hl [1, 2] rfl)
        ·
          have tc_7 : ((pkS c5 bb).toInt : Int) ≠ 42 := fun q => c_7 (Int32.toInt_inj.mp q)
          refine lv_aload_n hx hb (oc_42 25 shX5_readTerm_25) rfl (lvA0 hl) ?_
          refine vp_callSi (runV_rxa (As := []) (rest := []) S (q_Rpeek l D cI cB cZ zz qq vv bt g ad c5 I5 F5  hI5 (by omega) (by omega) (by omega) (by omega)) kV_RX5_43 hK hXS hS hP 3 xo_3 rfl rfl ⟨(by show 0 + 1 ≤ d + 1; omega), (by show 8 + (1 + 11) + 40 * 0 ≤ 40 * (d + 1); omega)⟩ ⟨Nat.le_of_ble_eq_true rfl, Nat.le_of_ble_eq_true rfl⟩ rfl hl.1 rfl (Nat.le_of_ble_eq_true rfl) (oc_182 26 (aq_1 shX5_readTerm_25) uw_0_43)) (fun r_19 h_20 => ?_)
          rw [((hfr5.2.2 40 (nml rfl)).trans heb)] at h_20
          obtain rfl : r_19 = pkS c5 bb := pkS_of h_20
          refine lv_bipush (v := 47) hx hb (oc_16 29 (aq_4 shX5_readTerm_25) sgb_47) kbc_47 ?_
          refine lv_icmp_eq (tgt := 43) hx hb (oc_159 31 (aq_6 shX5_readTerm_25) sgw_0_12) rfl (fun c_21 => ?_) (fun c_21 => ?_)
          ·
            have tc_21 : ((pkS c5 bb).toInt : Int) = 47 := congrArg Int32.toInt c_21
            refine lv_aload_n hx hb dX5_readTerm_43 rfl (lvA0 hl) ?_
            refine vp_callSi (runV_rxa (As := []) (rest := []) S (q_Rpeek l D cI cB cZ zz qq vv bt g ad c5 I5 F5  hI5 (by omega) (by omega) (by omega) (by omega)) kV_RX5_43 hK hXS hS hP 3 xo_3 rfl rfl ⟨(by show 0 + 1 ≤ d + 1; omega), (by show 8 + (1 + 11) + 40 * 0 ≤ 40 * (d + 1); omega)⟩ ⟨Nat.le_of_ble_eq_true rfl, Nat.le_of_ble_eq_true rfl⟩ rfl hl.1 rfl (Nat.le_of_ble_eq_true rfl) dX5_readTerm_44) (fun r_22 h_23 => ?_)
            rw [((hfr5.2.2 40 (nml rfl)).trans heb)] at h_23
            obtain rfl : r_22 = pkS c5 bb := pkS_of h_23
            refine lv_istore_n (lv' := [(2, .int (pkS c5 bb)), (0, .ref (g 6)), (1, .int o)]) hx hb dX5_readTerm_47 rfl hl (ltb rfl) rfl (fun ls hl => ?_)
            refine lv_aload_n hx hb dX5_readTerm_48 rfl (lvA1 hl) ?_
            refine lv_dup hx hb dX5_readTerm_49 rfl ?_
            refine gf_RX5_31 S hK hP 3 xo_3 (v := .int (nI (c5 31))) rfl dX5_readTerm_50 ?_
            refine lv_iconst (v := 1) hx hb dX5_readTerm_53 kic_1 ?_
            refine lv_iadd hx hb dX5_readTerm_54 ?_
            refine lv_topi (fun y_24 ey_24 => ?_)
            obtain rfl : y_24 = (nI ((c5 31) + 1)) := ey_24.trans (nI_add (c5 31) 1)
            refine pf_RX5_31 S hK hP hD hS 3 xo_3 (v := .int (nI ((c5 31) + 1))) (Nat.le_of_ble_eq_true rfl) rfl rfl dX5_readTerm_55 (fun H locs hP hD hS => ?_)
            have hP : va_P D vwCl (wX cI (D.1 99) zz g ad (va_up c5 31 ((c5 31) + 1)) I5 F5) H := va_P_eq (xsf_3_3) hP
            have hD : va_D A (wX cI (D.1 99) zz g ad (va_up c5 31 ((c5 31) + 1)) I5 F5) := va_D_eq (xsf_3_3) hD
            have hz_24 : ZS G (ad 4 1) N (va_up c5 31 ((c5 31) + 1)) I5 F5 (resB x_5 fInc) := ZS.incx hz_5 (by omega) rfl rfl rfl
            obtain ⟨x_24, ex_24⟩ : ∃ y : ResT, y = resB x_5 fInc := ⟨_, rfl⟩
            rw [← ex_24] at hz_24
            have sl_24 : SL 1 x_24 := by rw [ex_24]; exact SL.inc sl_5
            refine lv_aload_n hx hb dX5_readTerm_58 rfl (lvA1 hl) ?_
            refine lv_iload_n hx hb dX5_readTerm_59 rfl (lvA2 hl) ?_
            have hFc := free_all hD hS hA
            refine va_callv (runV_xa (As := [.int o]) (rest := []) S (hSq ad (va_up c5 31 ((c5 31) + 1)) I5 F5 G bb N x_24 H.size (CBX.n (k := 31) (v := ((c5 31) + 1)) hI5 (by decide)) (show ad 4 2 = g 40 by omega) (show ad 4 1 < (c5 6) by omega) (show ((c5 31) + 1) ≤ (c5 32) by omega) (show (c5 32) ≤ 160 by omega) (by rw [hfr5.2.2 199 (nml rfl)]; exact h9) ((congrFun (hfr5.2.2 199 (nml rfl)) _).trans he9) hN ((hfr5.2.2 40 (nml rfl)).trans heb) hby hz_24) kV_RX5_95 hK hXS hS hFc hP hD 3 xo_3 rfl rfl ⟨(by show d + 1 ≤ d + 1; omega), (by show 8 + (4 + 11) + 40 * d ≤ 40 * (d + 1); omega)⟩ ⟨Nat.le_of_ble_eq_true rfl, Nat.le_of_ble_eq_true rfl⟩ rfl hl.1 rfl (Nat.le_of_ble_eq_true rfl) dX5_readTerm_60) hS (fun q _ h => hFc q h) hFc (fun u t H1 locs ht hvm wh_27 hB1 hz1 hk1 hS => ?_)
            obtain ⟨cn27, In27, Fn27⟩ := u
            obtain ⟨hP1, hD1⟩ := hB1
            rw [ht] at hP1
            have hP : va_P D vwCl (wX cI (D.1 99) zz g ad cn27 In27 Fn27) H1 := hP1
            have hD : va_D A (wX cI (D.1 99) zz g ad cn27 In27 Fn27) := hD1.weaken (fun _ _ _ h => hFc _ h)
            generalize H1 = H at hP hS ⊢
            have vh_27 : (fun c2 I2 F2 => Fr [31, 32] [33] [195, 301] (va_up c5 31 ((c5 31) + 1)) I5 F5 c2 I2 F2 ∧ CBX c2 ∧ ((((c5 31) + 1) ≤ c2 31 ∧ c2 31 ≤ c2 32 ∧ c2 32 ≤ (c5 32)) ∧ ZS G (ad 4 1) N c2 I2 F2 (resB x_24 (facL bb N (smK bb N k))))) cn27 In27 Fn27 := wh_27
            obtain ⟨hfc27, hIn27, h_27⟩ := vh_27
            have hf27 : Fr [31, 32] [33] [195, 301] cn In Fn cn27 In27 Fn27 := Fr.mo (Fr.tr (Fr.c 31 hfr5) hfc27) (sbl rfl) (sbl rfl) (sbl rfl)
            replace hIn27 : CBXh cn27 := hIn27
            have : cn27 6 = (c5 6) := hfc27.1 6 (nml rfl)
            have hz_27 : ZS G (ad 4 1) N cn27 In27 Fn27 (resB x_24 (facL bb N (smK bb N k))) := h_27.2
            obtain ⟨x_27, ex_27⟩ : ∃ y : ResT, y = resB x_24 (facL bb N (smK bb N k)) := ⟨_, rfl⟩
            rw [← ex_27] at hz_27
            have sl_27 : SL 1 x_27 := by rw [ex_27]; exact SL.rule (fac_len (smK_len _)) sl_24
            refine lv_aload_n hx hb dX5_readTerm_63 rfl (lvA1 hl) ?_
            refine gf_RX5_20 S hK hP 3 xo_3 (v := .ref (ad 5 (ad 4 1))) rfl dX5_readTerm_64 ?_
            refine lv_iload_n hx hb dX5_readTerm_67 rfl (lvA0 hl) ?_
            refine lv_bipush (v := 42) hx hb dX5_readTerm_68 kbc_42 ?_
            refine lv_icmp_ne (tgt := 77) hx hb dX5_readTerm_70 rfl (fun c_29 => ?_) (fun c_29 => False.elim (by have tc_29 : ((pkS c5 bb).toInt : Int) = 42 := congrArg Int32.toInt c_29; omega))
            have tc_29 : ((pkS c5 bb).toInt : Int) ≠ 42 := fun q => c_29 (Int32.toInt_inj.mp q)
            refine lv_iload_n hx hb dX5_readTerm_77 rfl (lvA0 hl) ?_
            refine lv_bipush (v := 47) hx hb dX5_readTerm_78 kbc_47 ?_
            refine lv_icmp_ne (tgt := 88) hx hb dX5_readTerm_80 rfl (fun c_30 => False.elim (by have tc_30 : ((pkS c5 bb).toInt : Int) ≠ 47 := fun q => c_30 (Int32.toInt_inj.mp q); omega)) (fun c_30 => ?_)
            have tc_30 : ((pkS c5 bb).toInt : Int) = 47 := congrArg Int32.toInt c_30
            refine lv_bipush (v := 6) hx hb dX5_readTerm_83 kbc_6 ?_
            refine lv_goto (tgt := 90) hx hb dX5_readTerm_85 rfl ?_
            refine lv_iconst (v := 0) hx hb dX5_readTerm_90 kic_0 ?_
            have hFc := free_all hD hS hA
            refine va_calli (runV_xa (As := [.int 6, .int 0]) (rest := []) S (q_Zadd l D cI cB cZ zz qq vv bt g ad cn27 In27 Fn27 (ad 4 1) 6 0 H.size hIn27 (by omega) (by rw [hf27.2.2 199 (nml rfl)]; exact h9)) kV_RX5_75 hK hXS hS hFc hP hD _ (xf_7 (show (ad 4 1) < (cn27 6) by omega)) rfl rfl ⟨(by show 0 + 1 ≤ d + 1; omega), (by show 8 + (3 + 11) + 40 * 0 ≤ 40 * (d + 1); omega)⟩ ⟨Nat.le_of_ble_eq_true rfl, Nat.le_of_ble_eq_true rfl⟩ rfl hl.1 rfl (Nat.le_of_ble_eq_true rfl) dX5_readTerm_91) hS (fun q _ h => hFc q h) hFc (fun r_31 u t H1 locs ht hvm wh_32 hB1 hz1 hk1 hS => ?_)
            obtain ⟨cn32, In32, Fn32⟩ := u
            obtain ⟨hP1, hD1⟩ := hB1
            rw [ht] at hP1
            have hP : va_P D vwCl (wX cI (D.1 99) zz g ad cn32 In32 Fn32) H1 := hP1
            have hD : va_D A (wX cI (D.1 99) zz g ad cn32 In32 Fn32) := hD1.weaken (fun _ _ _ h => hFc _ h)
            generalize H1 = H at hP hS ⊢
            have vh_32 : (fun r c2 I2 F2 => Fr [] [] [195, 301] cn27 In27 Fn27 c2 I2 F2 ∧ CBX c2 ∧ (addR (ad 4 1) 6 0 Fn27 F2 ∧ r = ((Fn27 195)) (ad 4 1) ∧ KPT (ad 4 1) Fn27 F2)) r_31 cn32 In32 Fn32 := wh_32
            obtain ⟨hfc32, hIn32, h_32⟩ := vh_32
            obtain rfl : cn27 = cn32 := (funext (fun k => hfc32.1 k List.not_mem_nil)).symm
            obtain rfl : In27 = In32 := (funext (fun k => hfc32.2.1 k List.not_mem_nil)).symm
            have hf32 : Fr [31, 32] [33] [195, 301] cn In Fn cn27 In27 Fn32 := Fr.mo (Fr.tr hf27 hfc32) (sbl rfl) (sbl rfl) (sbl rfl)
            replace hIn32 : CBXh cn27 := hIn32
            have hj_32 := ZS.addj hz_27 h_32.2.1
            have hz_32 : ZS G (ad 4 1) N cn27 In27 Fn32 (resB x_27 (fAdd 6 0)) := ZS.addx h_32.2.2 hz_27 sl_27 hN ((congrFun (hfc32.2.2 199 (nml rfl)) _).symm.trans ((congrFun (hf32.2.2 199 (nml rfl)) _).trans he9)) ⟨(by decide), by decide⟩ ⟨(by decide), by omega⟩ h_32.1 (hfc32.1 31 (nml rfl)) (hfc32.1 32 (nml rfl)) (hfc32.2.1 33 (nml rfl))
            obtain ⟨x_32, ex_32⟩ : ∃ y : ResT, y = resB x_27 (fAdd 6 0) := ⟨_, rfl⟩
            rw [← ex_32] at hz_32
            have sl_32 : SL 0 x_32 := by rw [ex_32]; exact SL.add sl_27
            refine lv_pop hx hb dX5_readTerm_94 rfl ?_
            refine lv_goto (tgt := 5) hx hb dX5_readTerm_95 rfl ?_
            exact ih5  cn27 In27 Fn32 _ _ (show (cn27 32) - (cn27 31) < n5 by omega) ⟨(Fr.mo hf32 (sbl rfl) (sbl rfl) (sbl rfl)), hIn32, (show cn 31 ≤ (cn27 31) ∧ (cn27 31) ≤ (cn27 32) ∧ (cn27 32) ≤ cn 32 by omega), ⟨_, hz_32, (by rw [ex_32, ex_27, ex_24]; exact e_5.trans (trm_go (smK_mono _) (fun z e => (by rw [ZS.pkx (b := bb) hz_5 e]; first | (rw [show pkS c5 bb = 47 by assumption]; decide) | (exfalso; omega)))).symm)⟩⟩ hP hD hS ls (lv_sub hl [1, 2] rfl)
          ·
            have tc_21 : ((pkS c5 bb).toInt : Int) ≠ 47 := fun q => c_21 (Int32.toInt_inj.mp q)
            refine lv_aload_n hx hb (oc_42 34 (aq_9 shX5_readTerm_25)) rfl (lvA0 hl) ?_
            refine vp_callSi (runV_rxa (As := []) (rest := []) S (q_Rpeek l D cI cB cZ zz qq vv bt g ad c5 I5 F5  hI5 (by omega) (by omega) (by omega) (by omega)) kV_RX5_43 hK hXS hS hP 3 xo_3 rfl rfl ⟨(by show 0 + 1 ≤ d + 1; omega), (by show 8 + (1 + 11) + 40 * 0 ≤ 40 * (d + 1); omega)⟩ ⟨Nat.le_of_ble_eq_true rfl, Nat.le_of_ble_eq_true rfl⟩ rfl hl.1 rfl (Nat.le_of_ble_eq_true rfl) (oc_182 35 (aq_10 shX5_readTerm_25) uw_0_43)) (fun r_34 h_35 => ?_)
            rw [((hfr5.2.2 40 (nml rfl)).trans heb)] at h_35
            obtain rfl : r_34 = pkS c5 bb := pkS_of h_35
            refine lv_bipush (v := 37) hx hb (oc_16 38 (aq_13 shX5_readTerm_25) sgb_37) kbc_37 ?_
            refine lv_icmp_ne (tgt := 98) hx hb (oc_160 40 (aq_15 shX5_readTerm_25) sgw_0_58) rfl (fun c_36 => ?_) (fun c_36 => ?_)
            ·
              have tc_36 : ((pkS c5 bb).toInt : Int) ≠ 37 := fun q => c_36 (Int32.toInt_inj.mp q)
              exact W.vret hx hb hr (fun t ht hW => ⟨⟨(c5, I5, F5), rfl, ⟨(Fr.mo hfr5 (sbl rfl) (sbl rfl) (sbl rfl)), hI5, (by show (cn 31 ≤ c5 31 ∧ c5 31 ≤ c5 32 ∧ c5 32 ≤ cn 32) ∧ ZS G (ad 4 1) N c5 I5 F5 (resB x (trm bb N (smK bb N k))); exact ⟨by show cn 31 ≤ (c5 31) ∧ (c5 31) ≤ (c5 32) ∧ (c5 32) ≤ cn 32; omega, (by show ZS _ _ _ _ _ _ (resB x (trm bb N (smK bb N k))); rw [e_5, trm_end (fun z e => (by first | (rw [ZS.endx (b := bb) hz_5 (by omega) e]; decide) | (rw [ZS.pkx (b := bb) hz_5 e]; unfold tms; rw [if_neg (by assumption), if_neg (by assumption), if_neg (by assumption)])))]; exact hz_5)⟩)⟩, by rw [ht]; exact hP, hD⟩, hS.F ht⟩) hS.2.2 dX5_readTerm_98
            ·
              have tc_36 : ((pkS c5 bb).toInt : Int) = 37 := congrArg Int32.toInt c_36
              refine lv_aload_n hx hb dX5_readTerm_43 rfl (lvA0 hl) ?_
              refine vp_callSi (runV_rxa (As := []) (rest := []) S (q_Rpeek l D cI cB cZ zz qq vv bt g ad c5 I5 F5  hI5 (by omega) (by omega) (by omega) (by omega)) kV_RX5_43 hK hXS hS hP 3 xo_3 rfl rfl ⟨(by show 0 + 1 ≤ d + 1; omega), (by show 8 + (1 + 11) + 40 * 0 ≤ 40 * (d + 1); omega)⟩ ⟨Nat.le_of_ble_eq_true rfl, Nat.le_of_ble_eq_true rfl⟩ rfl hl.1 rfl (Nat.le_of_ble_eq_true rfl) dX5_readTerm_44) (fun r_37 h_38 => ?_)
              rw [((hfr5.2.2 40 (nml rfl)).trans heb)] at h_38
              obtain rfl : r_37 = pkS c5 bb := pkS_of h_38
              refine lv_istore_n (lv' := [(2, .int (pkS c5 bb)), (0, .ref (g 6)), (1, .int o)]) hx hb dX5_readTerm_47 rfl hl (ltb rfl) rfl (fun ls hl => ?_)
              refine lv_aload_n hx hb dX5_readTerm_48 rfl (lvA1 hl) ?_
              refine lv_dup hx hb dX5_readTerm_49 rfl ?_
              refine gf_RX5_31 S hK hP 3 xo_3 (v := .int (nI (c5 31))) rfl dX5_readTerm_50 ?_
              refine lv_iconst (v := 1) hx hb dX5_readTerm_53 kic_1 ?_
              refine lv_iadd hx hb dX5_readTerm_54 ?_
              refine lv_topi (fun y_39 ey_39 => ?_)
              obtain rfl : y_39 = (nI ((c5 31) + 1)) := ey_39.trans (nI_add (c5 31) 1)
              refine pf_RX5_31 S hK hP hD hS 3 xo_3 (v := .int (nI ((c5 31) + 1))) (Nat.le_of_ble_eq_true rfl) rfl rfl dX5_readTerm_55 (fun H locs hP hD hS => ?_)
              have hP : va_P D vwCl (wX cI (D.1 99) zz g ad (va_up c5 31 ((c5 31) + 1)) I5 F5) H := va_P_eq (xsf_3_3) hP
              have hD : va_D A (wX cI (D.1 99) zz g ad (va_up c5 31 ((c5 31) + 1)) I5 F5) := va_D_eq (xsf_3_3) hD
              have hz_39 : ZS G (ad 4 1) N (va_up c5 31 ((c5 31) + 1)) I5 F5 (resB x_5 fInc) := ZS.incx hz_5 (by omega) rfl rfl rfl
              obtain ⟨x_39, ex_39⟩ : ∃ y : ResT, y = resB x_5 fInc := ⟨_, rfl⟩
              rw [← ex_39] at hz_39
              have sl_39 : SL 1 x_39 := by rw [ex_39]; exact SL.inc sl_5
              refine lv_aload_n hx hb dX5_readTerm_58 rfl (lvA1 hl) ?_
              refine lv_iload_n hx hb dX5_readTerm_59 rfl (lvA2 hl) ?_
              have hFc := free_all hD hS hA
              refine va_callv (runV_xa (As := [.int o]) (rest := []) S (hSq ad (va_up c5 31 ((c5 31) + 1)) I5 F5 G bb N x_39 H.size (CBX.n (k := 31) (v := ((c5 31) + 1)) hI5 (by decide)) (show ad 4 2 = g 40 by omega) (show ad 4 1 < (c5 6) by omega) (show ((c5 31) + 1) ≤ (c5 32) by omega) (show (c5 32) ≤ 160 by omega) (by rw [hfr5.2.2 199 (nml rfl)]; exact h9) ((congrFun (hfr5.2.2 199 (nml rfl)) _).trans he9) hN ((hfr5.2.2 40 (nml rfl)).trans heb) hby hz_39) kV_RX5_95 hK hXS hS hFc hP hD 3 xo_3 rfl rfl ⟨(by show d + 1 ≤ d + 1; omega), (by show 8 + (4 + 11) + 40 * d ≤ 40 * (d + 1); omega)⟩ ⟨Nat.le_of_ble_eq_true rfl, Nat.le_of_ble_eq_true rfl⟩ rfl hl.1 rfl (Nat.le_of_ble_eq_true rfl) dX5_readTerm_60) hS (fun q _ h => hFc q h) hFc (fun u t H1 locs ht hvm wh_42 hB1 hz1 hk1 hS => ?_)
              obtain ⟨cn42, In42, Fn42⟩ := u
              obtain ⟨hP1, hD1⟩ := hB1
              rw [ht] at hP1
              have hP : va_P D vwCl (wX cI (D.1 99) zz g ad cn42 In42 Fn42) H1 := hP1
              have hD : va_D A (wX cI (D.1 99) zz g ad cn42 In42 Fn42) := hD1.weaken (fun _ _ _ h => hFc _ h)
              generalize H1 = H at hP hS ⊢
              have vh_42 : (fun c2 I2 F2 => Fr [31, 32] [33] [195, 301] (va_up c5 31 ((c5 31) + 1)) I5 F5 c2 I2 F2 ∧ CBX c2 ∧ ((((c5 31) + 1) ≤ c2 31 ∧ c2 31 ≤ c2 32 ∧ c2 32 ≤ (c5 32)) ∧ ZS G (ad 4 1) N c2 I2 F2 (resB x_39 (facL bb N (smK bb N k))))) cn42 In42 Fn42 := wh_42
              obtain ⟨hfc42, hIn42, h_42⟩ := vh_42
              have hf42 : Fr [31, 32] [33] [195, 301] cn In Fn cn42 In42 Fn42 := Fr.mo (Fr.tr (Fr.c 31 hfr5) hfc42) (sbl rfl) (sbl rfl) (sbl rfl)
              replace hIn42 : CBXh cn42 := hIn42
              have : cn42 6 = (c5 6) := hfc42.1 6 (nml rfl)
              have hz_42 : ZS G (ad 4 1) N cn42 In42 Fn42 (resB x_39 (facL bb N (smK bb N k))) := h_42.2
              obtain ⟨x_42, ex_42⟩ : ∃ y : ResT, y = resB x_39 (facL bb N (smK bb N k)) := ⟨_, rfl⟩
              rw [← ex_42] at hz_42
              have sl_42 : SL 1 x_42 := by rw [ex_42]; exact SL.rule (fac_len (smK_len _)) sl_39
              refine lv_aload_n hx hb dX5_readTerm_63 rfl (lvA1 hl) ?_
              refine gf_RX5_20 S hK hP 3 xo_3 (v := .ref (ad 5 (ad 4 1))) rfl dX5_readTerm_64 ?_
              refine lv_iload_n hx hb dX5_readTerm_67 rfl (lvA0 hl) ?_
              refine lv_bipush (v := 42) hx hb dX5_readTerm_68 kbc_42 ?_
              refine lv_icmp_ne (tgt := 77) hx hb dX5_readTerm_70 rfl (fun c_44 => ?_) (fun c_44 => False.elim (by have tc_44 : ((pkS c5 bb).toInt : Int) = 42 := congrArg Int32.toInt c_44; omega))
              have tc_44 : ((pkS c5 bb).toInt : Int) ≠ 42 := fun q => c_44 (Int32.toInt_inj.mp q)
              refine lv_iload_n hx hb dX5_readTerm_77 rfl (lvA0 hl) ?_
              refine lv_bipush (v := 47) hx hb dX5_readTerm_78 kbc_47 ?_
              refine lv_icmp_ne (tgt := 88) hx hb dX5_readTerm_80 rfl (fun c_45 => ?_) (fun c_45 => False.elim (by have tc_45 : ((pkS c5 bb).toInt : Int) = 47 := congrArg Int32.toInt c_45; omega))
              have tc_45 : ((pkS c5 bb).toInt : Int) ≠ 47 := fun q => c_45 (Int32.toInt_inj.mp q)
              refine lv_bipush (v := 7) hx hb dX5_readTerm_88 kbc_7 ?_
              refine lv_iconst (v := 0) hx hb dX5_readTerm_90 kic_0 ?_
              have hFc := free_all hD hS hA
              refine va_calli (runV_xa (As := [.int 7, .int 0]) (rest := []) S (q_Zadd l D cI cB cZ zz qq vv bt g ad cn42 In42 Fn42 (ad 4 1) 7 0 H.size hIn42 (by omega) (by rw [hf42.2.2 199 (nml rfl)]; exact h9)) kV_RX5_75 hK hXS hS hFc hP hD _ (xf_7 (show (ad 4 1) < (cn42 6) by omega)) rfl rfl ⟨(by show 0 + 1 ≤ d + 1; omega), (by show 8 + (3 + 11) + 40 * 0 ≤ 40 * (d + 1); omega)⟩ ⟨Nat.le_of_ble_eq_true rfl, Nat.le_of_ble_eq_true rfl⟩ rfl hl.1 rfl (Nat.le_of_ble_eq_true rfl) dX5_readTerm_91) hS (fun q _ h => hFc q h) hFc (fun r_46 u t H1 locs ht hvm wh_47 hB1 hz1 hk1 hS => ?_)
              obtain ⟨cn47, In47, Fn47⟩ := u
              obtain ⟨hP1, hD1⟩ := hB1
              rw [ht] at hP1
              have hP : va_P D vwCl (wX cI (D.1 99) zz g ad cn47 In47 Fn47) H1 := hP1
              have hD : va_D A (wX cI (D.1 99) zz g ad cn47 In47 Fn47) := hD1.weaken (fun _ _ _ h => hFc _ h)
              generalize H1 = H at hP hS ⊢
              have vh_47 : (fun r c2 I2 F2 => Fr [] [] [195, 301] cn42 In42 Fn42 c2 I2 F2 ∧ CBX c2 ∧ (addR (ad 4 1) 7 0 Fn42 F2 ∧ r = ((Fn42 195)) (ad 4 1) ∧ KPT (ad 4 1) Fn42 F2)) r_46 cn47 In47 Fn47 := wh_47
              obtain ⟨hfc47, hIn47, h_47⟩ := vh_47
              obtain rfl : cn42 = cn47 := (funext (fun k => hfc47.1 k List.not_mem_nil)).symm
              obtain rfl : In42 = In47 := (funext (fun k => hfc47.2.1 k List.not_mem_nil)).symm
              have hf47 : Fr [31, 32] [33] [195, 301] cn In Fn cn42 In42 Fn47 := Fr.mo (Fr.tr hf42 hfc47) (sbl rfl) (sbl rfl) (sbl rfl)
              replace hIn47 : CBXh cn42 := hIn47
              have hj_47 := ZS.addj hz_42 h_47.2.1
              have hz_47 : ZS G (ad 4 1) N cn42 In42 Fn47 (resB x_42 (fAdd 7 0)) := ZS.addx h_47.2.2 hz_42 sl_42 hN ((congrFun (hfc47.2.2 199 (nml rfl)) _).symm.trans ((congrFun (hf47.2.2 199 (nml rfl)) _).trans he9)) ⟨(by decide), by decide⟩ ⟨(by decide), by omega⟩ h_47.1 (hfc47.1 31 (nml rfl)) (hfc47.1 32 (nml rfl)) (hfc47.2.1 33 (nml rfl))
              obtain ⟨x_47, ex_47⟩ : ∃ y : ResT, y = resB x_42 (fAdd 7 0) := ⟨_, rfl⟩
              rw [← ex_47] at hz_47
              have sl_47 : SL 0 x_47 := by rw [ex_47]; exact SL.add sl_42
              refine lv_pop hx hb dX5_readTerm_94 rfl ?_
              refine lv_goto (tgt := 5) hx hb dX5_readTerm_95 rfl ?_
              exact ih5  cn42 In42 Fn47 _ _ (show (cn42 32) - (cn42 31) < n5 by omega) ⟨(Fr.mo hf47 (sbl rfl) (sbl rfl) (sbl rfl)), hIn47, (show cn 31 ≤ (cn42 31) ∧ (cn42 31) ≤ (cn42 32) ∧ (cn42 32) ≤ cn 32 by omega), ⟨_, hz_47, (by rw [ex_47, ex_42, ex_39]; exact e_5.trans (trm_go (smK_mono _) (fun z e => (by rw [ZS.pkx (b := bb) hz_5 e]; first | (rw [show pkS c5 bb = 37 by assumption]; decide) | (exfalso; omega)))).symm)⟩⟩ hP hD hS ls (lv_sub hl [1, 2] rfl)
  exact lp_5 _  cn2 In2 Fn2 _ _ (Nat.lt_succ_self _) ⟨(Fr.mo hf2 (sbl rfl) (sbl rfl) (sbl rfl)), hIn2, (show cn 31 ≤ (cn2 31) ∧ (cn2 31) ≤ (cn2 32) ∧ (cn2 32) ≤ cn 32 by omega), ⟨_, hz_2, (by rw [ex_2]; exact resB_assoc.symm)⟩⟩ hP hD hS ls (lv_sub hl [0, 1] rfl)
set_option maxRecDepth 100000 in
set_option maxHeartbeats 4000000 in
theorem gq_ZreadSum (l : Launch) (D : va_G) (cI cB cZ : ClassId) (zz qq vv : Nat) (bt : Nat → Int32) (g : Nat → Nat) (o : Int32) (d k : Nat) (hd : 4 ≤ d ∧ d ≤ 60) (hSq : RDZ yX5_readTerm cX5_readTerm 3 l D cI cB cZ zz qq vv bt g o d (fun bb N => trm bb N (smK bb N k))) : RDZ yX5_readSum cX5_readSum 3 l D cI cB cZ zz qq vv bt g o (d + 1) (fun bb N => sm1 bb N (smK bb N k)) := by
  intro ad cn In Fn G bb N x sz hB hR h1 h3 h4 h9 he9 hN heb hby hz
  refine Met.ofW (cc := cX5_readSum) (maxL := 3) (ret := none) (by decide) rfl ?_
  intro p e s m args below meth c s₁ B hml hv
  obtain ⟨rfl, hsz, hP, hK, hD0, hXS⟩ := hv
  have hx := B.exec
  have hb := B.bytes
  have hr := B.returns
  have hts := atoms_spec (ws := (CWS yX5_readSum cX5_readSum 3 none)) B.pre
  have hown : s.vm.findClass RX5 = some m.cls := findClass_of_methodNamed B.named
  have hlocks := B.notSynchronized
  have S : SF p m c cX5_readSum 3 s ([.ref (g 6), .int o]).toArray RX5 := ⟨hx, hb, hml, hown, fun w h => hts w (List.mem_cons_of_mem _ h)⟩
  subst hsz
  have hD := hD0.self (sz := s.heap.size)
  generalize hAe : va_A (wX cI (D.1 99) zz g ad cn In Fn) s.heap.size = A at hD hXS ⊢
  have hA : ∀ q : Nat, s.heap.size ≤ q → A q := fun q h => by rw [← hAe]; exact Or.inr h
  have hS : va_S A s.heap s.heap [] := va_S.rf
  have hl := lv_entry ([.ref (g 6), .int o]) (n := 3) (Nat.le_of_ble_eq_true rfl)
  rw [lg_entry_eq]
  generalize (lg_sl ([.ref (g 6), .int o]) ++ List.replicate (3 - (lg_sl ([.ref (g 6), .int o])).length) Slot.unset).toArray = ls at hl ⊢
  have hl : lv_has ls 3 [(0, .ref (g 6)), (1, .int o)] := hl
  replace hB : CBXh cn := hB
  have sl := ZS.sl hz
  refine lv_aload_n hx hb (oc_42 0 shX5_readSum_0) rfl (lvA0 hl) ?_
  refine lv_iload_n hx hb (oc_27 1 (aq_1 shX5_readSum_0)) rfl (lvA1 hl) ?_
  have hFc := free_all hD hS hA
  refine va_callv (runV_xa (As := [.int o]) (rest := []) S (hSq ad cn In Fn G bb N x s.heap.size hB (by omega) (by omega) (by omega) (by omega) h9 he9 hN heb hby hz) kV_RX5_92 hK hXS hS hFc hP hD 3 xo_3 rfl rfl ⟨(by show d + 1 ≤ d + 1; omega), (by show 8 + (3 + 11) + 40 * d ≤ 40 * (d + 1); omega)⟩ ⟨Nat.le_of_ble_eq_true rfl, Nat.le_of_ble_eq_true rfl⟩ rfl hl.1 rfl (Nat.le_of_ble_eq_true rfl) (oc_182 2 (aq_2 shX5_readSum_0) uw_0_92)) hS (fun q _ h => hFc q h) hFc (fun u t H1 locs ht hvm wh_2 hB1 hz1 hk1 hS => ?_)
  obtain ⟨cn2, In2, Fn2⟩ := u
  obtain ⟨hP1, hD1⟩ := hB1
  rw [ht] at hP1
  have hP : va_P D vwCl (wX cI (D.1 99) zz g ad cn2 In2 Fn2) H1 := hP1
  have hD : va_D A (wX cI (D.1 99) zz g ad cn2 In2 Fn2) := hD1.weaken (fun _ _ _ h => hFc _ h)
  generalize H1 = H at hP hS ⊢
  have vh_2 : (fun c2 I2 F2 => Fr [31, 32] [33] [195, 301] cn In Fn c2 I2 F2 ∧ CBX c2 ∧ (((cn 31) ≤ c2 31 ∧ c2 31 ≤ c2 32 ∧ c2 32 ≤ (cn 32)) ∧ ZS G (ad 4 1) N c2 I2 F2 (resB x (trm bb N (smK bb N k))))) cn2 In2 Fn2 := wh_2
  obtain ⟨hfc2, hIn2, h_2⟩ := vh_2
  have hf2 : Fr [31, 32] [33] [195, 301] cn In Fn cn2 In2 Fn2 := Fr.mo (Fr.tr (Fr.rf (cn := cn) (In := In) (Fn := Fn)) hfc2) (sbl rfl) (sbl rfl) (sbl rfl)
  replace hIn2 : CBXh cn2 := hIn2
  have : cn2 6 = (cn 6) := hfc2.1 6 (nml rfl)
  have hz_2 : ZS G (ad 4 1) N cn2 In2 Fn2 (resB x (trm bb N (smK bb N k))) := h_2.2
  obtain ⟨x_2, ex_2⟩ : ∃ y : ResT, y = resB x (trm bb N (smK bb N k)) := ⟨_, rfl⟩
  rw [← ex_2] at hz_2
  have sl_2 : SL 0 x_2 := by rw [ex_2]; exact SL.rule (trm_len (smK_len _)) sl
  have lp_5 : ∀ (n : Nat)  (c5 : Nat → Nat) (I5 : Nat → Int32) (F5 : Nat → Nat → Int32) (H : Heap) (locs : List Loc) , c5 32 - c5 31 < n → (Fr [31, 32] [33] [195, 301] cn In Fn c5 I5 F5 ∧ CBX c5 ∧ (cn 31 ≤ c5 31 ∧ c5 31 ≤ c5 32 ∧ c5 32 ≤ cn 32) ∧ (∃ y : ResT, ZS G (ad 4 1) N c5 I5 F5 y ∧ resB x (sm1 bb N (smK bb N k)) = resB y (smL bb N (smK bb N k) (N + 1)))) → va_P D vwCl (wX cI (D.1 99) zz g ad c5 I5 F5) H → va_D A (wX cI (D.1 99) zz g ad c5 I5 F5) → va_S A s.heap H locs → ∀ ls : Array Slot, lv_has ls 3 [(0, .ref (g 6)), (1, .int o)] → W p l e (RM (d + 1) 0 0) s m ([.ref (g 6), .int o]).toArray below meth c H locs 0 0 (MQ below (va_Qv (fun (u : (Nat → Nat) × (Nat → Int32) × (Nat → Nat → Int32)) => (fun c2 I2 F2 => Fr [31, 32] [33] [195, 301] cn In Fn c2 I2 F2 ∧ CBX c2 ∧ ((cn 31 ≤ c2 31 ∧ c2 31 ≤ c2 32 ∧ c2 32 ≤ cn 32) ∧ ZS G (ad 4 1) N c2 I2 F2 (resB x (sm1 bb N (smK bb N k))))) u.1 u.2.1 u.2.2) (fun (u : (Nat → Nat) × (Nat → Int32) × (Nat → Nat → Int32)) (t : State) => va_P D vwCl (wX cI (D.1 99) zz g ad u.1 u.2.1 u.2.2) t.heap ∧ va_D A (wX cI (D.1 99) zz g ad u.1 u.2.1 u.2.2)) A) ([.ref (g 6), .int o]).toArray s 0 0 A) (F0 m 5 ls []) := by
    intro n5
    induction n5 with
    | zero => intros; omega
    | succ n5 ih5 =>
      intro  c5 I5 F5 H locs hmu5 hinv5 hP hD hS ls hl
      obtain ⟨hfr5, hI5, hx5_0, hx5_1⟩ := hinv5
      replace hI5 : CBXh c5 := hI5
      have : c5 6 = cn 6 := hfr5.1 6 (nml rfl)
      obtain ⟨x_5, hz_5, e_5⟩ := hx5_1
      have sl_5 := ZS.sl hz_5
      refine lv_aload_n hx hb (oc_42 5 (aq_5 shX5_readSum_0)) rfl (lvA0 hl) ?_
      refine gf_RX5_31 S hK hP 3 xo_3 (v := .int (nI (c5 31))) rfl (oc_180 6 (aq_6 shX5_readSum_0) uw_0_31) ?_
      refine lv_aload_n hx hb (oc_42 9 (aq_9 shX5_readSum_0)) rfl (lvA0 hl) ?_
      refine gf_RX5_34 S hK hP 3 xo_3 (v := .int (nI (c5 32))) rfl (oc_180 10 (aq_10 shX5_readSum_0) uw_0_34) ?_
      have : (nI (c5 31)).toInt = (((c5 31) : Nat) : Int) := nI_toInt (by omega)
      have : (nI (c5 32)).toInt = (((c5 32) : Nat) : Int) := nI_toInt (by omega)
      refine lv_icmp_ge (tgt := 77) hx hb (oc_162 13 (aq_13 shX5_readSum_0) sgw_0_64) rfl (fun c_4 => ?_) (fun c_4 => ?_)
      ·
        have tc_4 : ((nI (c5 32)).toInt : Int) ≤ (nI (c5 31)).toInt := Int32.le_iff_toInt_le.mp c_4
        exact W.vret hx hb hr (fun t ht hW => ⟨⟨(c5, I5, F5), rfl, ⟨(Fr.mo hfr5 (sbl rfl) (sbl rfl) (sbl rfl)), hI5, (by show (cn 31 ≤ c5 31 ∧ c5 31 ≤ c5 32 ∧ c5 32 ≤ cn 32) ∧ ZS G (ad 4 1) N c5 I5 F5 (resB x (sm1 bb N (smK bb N k))); exact ⟨by show cn 31 ≤ (c5 31) ∧ (c5 31) ≤ (c5 32) ∧ (c5 32) ≤ cn 32; omega, (by show ZS _ _ _ _ _ _ (resB x (sm1 bb N (smK bb N k))); rw [e_5, sm_end (fun z e => (by first | (rw [ZS.endx (b := bb) hz_5 (by omega) e]; decide) | (rw [ZS.pkx (b := bb) hz_5 e]; unfold pls; rw [if_neg (by assumption), if_neg (by assumption)])))]; exact hz_5)⟩)⟩, by rw [ht]; exact hP, hD⟩, hS.F ht⟩) hS.2.2 dX5_readSum_77
      ·
        have tc_4 : ((nI (c5 31)).toInt : Int) < (nI (c5 32)).toInt := Int32.lt_iff_toInt_lt.mp (Int32.not_le.mp c_4)
        refine lv_aload_n hx hb (oc_42 16 (aq_16 shX5_readSum_0)) rfl (lvA0 hl) ?_
        refine vp_callSi (runV_rxa (As := []) (rest := []) S (q_Rpeek l D cI cB cZ zz qq vv bt g ad c5 I5 F5  hI5 (by omega) (by omega) (by omega) (by omega)) kV_RX5_43 hK hXS hS hP 3 xo_3 rfl rfl ⟨(by show 0 + 1 ≤ d + 1; omega), (by show 8 + (1 + 11) + 40 * 0 ≤ 40 * (d + 1); omega)⟩ ⟨Nat.le_of_ble_eq_true rfl, Nat.le_of_ble_eq_true rfl⟩ rfl hl.1 rfl (Nat.le_of_ble_eq_true rfl) (oc_182 17 (aq_17 shX5_readSum_0) uw_0_43)) (fun r_5 h_6 => ?_)
        rw [((hfr5.2.2 40 (nml rfl)).trans heb)] at h_6
        obtain rfl : r_5 = pkS c5 bb := pkS_of h_6
        refine lv_bipush (v := 43) hx hb (oc_16 20 (aq_20 shX5_readSum_0) sgb_43) kbc_43 ?_
        refine lv_icmp_eq (tgt := 34) hx hb (oc_159 22 (aq_22 shX5_readSum_0) sgw_0_12) rfl (fun c_7 => ?_) (fun c_7 => ?_)
        ·
          have tc_7 : ((pkS c5 bb).toInt : Int) = 43 := congrArg Int32.toInt c_7
          refine lv_aload_n hx hb dX5_readSum_34 rfl (lvA0 hl) ?_
          refine vp_callSi (runV_rxa (As := []) (rest := []) S (q_Rpeek l D cI cB cZ zz qq vv bt g ad c5 I5 F5  hI5 (by omega) (by omega) (by omega) (by omega)) kV_RX5_43 hK hXS hS hP 3 xo_3 rfl rfl ⟨(by show 0 + 1 ≤ d + 1; omega), (by show 8 + (1 + 11) + 40 * 0 ≤ 40 * (d + 1); omega)⟩ ⟨Nat.le_of_ble_eq_true rfl, Nat.le_of_ble_eq_true rfl⟩ rfl hl.1 rfl (Nat.le_of_ble_eq_true rfl) dX5_readSum_35) (fun r_8 h_9 => ?_)
          rw [((hfr5.2.2 40 (nml rfl)).trans heb)] at h_9
          obtain rfl : r_8 = pkS c5 bb := pkS_of h_9
          refine lv_bipush (v := 43) hx hb dX5_readSum_38 kbc_43 ?_
          refine lv_icmp_ne (tgt := 47) hx hb dX5_readSum_40 rfl (fun c_10 => False.elim (by have tc_10 : ((pkS c5 bb).toInt : Int) ≠ 43 := fun q => c_10 (Int32.toInt_inj.mp q); omega)) (fun c_10 => ?_)
          have tc_10 : ((pkS c5 bb).toInt : Int) = 43 := congrArg Int32.toInt c_10
          refine lv_iconst (v := 3) hx hb (oc_6 43 (aq_18 shX5_readSum_25)) kic_3 ?_
          refine lv_goto (tgt := 48) hx hb (oc_167 44 (aq_19 shX5_readSum_25) sgw_0_4) rfl ?_
          refine lv_istore_n (lv' := [(2, .int 3), (0, .ref (g 6)), (1, .int o)]) hx hb dX5_readSum_48 rfl hl (ltb rfl) rfl (fun ls hl => ?_)
          refine lv_aload_n hx hb dX5_readSum_49 rfl (lvA1 hl) ?_
          refine lv_dup hx hb dX5_readSum_50 rfl ?_
          refine gf_RX5_31 S hK hP 3 xo_3 (v := .int (nI (c5 31))) rfl dX5_readSum_51 ?_
          refine lv_iconst (v := 1) hx hb dX5_readSum_54 kic_1 ?_
          refine lv_iadd hx hb dX5_readSum_55 ?_
          refine lv_topi (fun y_11 ey_11 => ?_)
          obtain rfl : y_11 = (nI ((c5 31) + 1)) := ey_11.trans (nI_add (c5 31) 1)
          refine pf_RX5_31 S hK hP hD hS 3 xo_3 (v := .int (nI ((c5 31) + 1))) (Nat.le_of_ble_eq_true rfl) rfl rfl dX5_readSum_56 (fun H locs hP hD hS => ?_)
          have hP : va_P D vwCl (wX cI (D.1 99) zz g ad (va_up c5 31 ((c5 31) + 1)) I5 F5) H := va_P_eq (xsf_3_3) hP
          have hD : va_D A (wX cI (D.1 99) zz g ad (va_up c5 31 ((c5 31) + 1)) I5 F5) := va_D_eq (xsf_3_3) hD
          have hz_11 : ZS G (ad 4 1) N (va_up c5 31 ((c5 31) + 1)) I5 F5 (resB x_5 fInc) := ZS.incx hz_5 (by omega) rfl rfl rfl
          obtain ⟨x_11, ex_11⟩ : ∃ y : ResT, y = resB x_5 fInc := ⟨_, rfl⟩
          rw [← ex_11] at hz_11
          have sl_11 : SL 1 x_11 := by rw [ex_11]; exact SL.inc sl_5
          refine lv_aload_n hx hb dX5_readSum_59 rfl (lvA1 hl) ?_
          refine lv_iload_n hx hb dX5_readSum_60 rfl (lvA2 hl) ?_
          have hFc := free_all hD hS hA
          refine va_callv (runV_xa (As := [.int o]) (rest := []) S (hSq ad (va_up c5 31 ((c5 31) + 1)) I5 F5 G bb N x_11 H.size (CBX.n (k := 31) (v := ((c5 31) + 1)) hI5 (by decide)) (show ad 4 2 = g 40 by omega) (show ad 4 1 < (c5 6) by omega) (show ((c5 31) + 1) ≤ (c5 32) by omega) (show (c5 32) ≤ 160 by omega) (by rw [hfr5.2.2 199 (nml rfl)]; exact h9) ((congrFun (hfr5.2.2 199 (nml rfl)) _).trans he9) hN ((hfr5.2.2 40 (nml rfl)).trans heb) hby hz_11) kV_RX5_92 hK hXS hS hFc hP hD 3 xo_3 rfl rfl ⟨(by show d + 1 ≤ d + 1; omega), (by show 8 + (3 + 11) + 40 * d ≤ 40 * (d + 1); omega)⟩ ⟨Nat.le_of_ble_eq_true rfl, Nat.le_of_ble_eq_true rfl⟩ rfl hl.1 rfl (Nat.le_of_ble_eq_true rfl) dX5_readSum_61) hS (fun q _ h => hFc q h) hFc (fun u t H1 locs ht hvm wh_14 hB1 hz1 hk1 hS => ?_)
          obtain ⟨cn14, In14, Fn14⟩ := u
          obtain ⟨hP1, hD1⟩ := hB1
          rw [ht] at hP1
          have hP : va_P D vwCl (wX cI (D.1 99) zz g ad cn14 In14 Fn14) H1 := hP1
          have hD : va_D A (wX cI (D.1 99) zz g ad cn14 In14 Fn14) := hD1.weaken (fun _ _ _ h => hFc _ h)
          generalize H1 = H at hP hS ⊢
          have vh_14 : (fun c2 I2 F2 => Fr [31, 32] [33] [195, 301] (va_up c5 31 ((c5 31) + 1)) I5 F5 c2 I2 F2 ∧ CBX c2 ∧ ((((c5 31) + 1) ≤ c2 31 ∧ c2 31 ≤ c2 32 ∧ c2 32 ≤ (c5 32)) ∧ ZS G (ad 4 1) N c2 I2 F2 (resB x_11 (trm bb N (smK bb N k))))) cn14 In14 Fn14 := wh_14
          obtain ⟨hfc14, hIn14, h_14⟩ := vh_14
          have hf14 : Fr [31, 32] [33] [195, 301] cn In Fn cn14 In14 Fn14 := Fr.mo (Fr.tr (Fr.c 31 hfr5) hfc14) (sbl rfl) (sbl rfl) (sbl rfl)
          replace hIn14 : CBXh cn14 := hIn14
          have : cn14 6 = (c5 6) := hfc14.1 6 (nml rfl)
          have hz_14 : ZS G (ad 4 1) N cn14 In14 Fn14 (resB x_11 (trm bb N (smK bb N k))) := h_14.2
          obtain ⟨x_14, ex_14⟩ : ∃ y : ResT, y = resB x_11 (trm bb N (smK bb N k)) := ⟨_, rfl⟩
          rw [← ex_14] at hz_14
          have sl_14 : SL 1 x_14 := by rw [ex_14]; exact SL.rule (trm_len (smK_len _)) sl_11
          refine lv_aload_n hx hb dX5_readSum_64 rfl (lvA1 hl) ?_
          refine gf_RX5_20 S hK hP 3 xo_3 (v := .ref (ad 5 (ad 4 1))) rfl dX5_readSum_65 ?_
          refine lv_iload_n hx hb dX5_readSum_68 rfl (lvA0 hl) ?_
          refine lv_iconst (v := 0) hx hb dX5_readSum_69 kic_0 ?_
          have hFc := free_all hD hS hA
          refine va_calli (runV_xa (As := [.int 3, .int 0]) (rest := []) S (q_Zadd l D cI cB cZ zz qq vv bt g ad cn14 In14 Fn14 (ad 4 1) 3 0 H.size hIn14 (by omega) (by rw [hf14.2.2 199 (nml rfl)]; exact h9)) kV_RX5_75 hK hXS hS hFc hP hD _ (xf_7 (show (ad 4 1) < (cn14 6) by omega)) rfl rfl ⟨(by show 0 + 1 ≤ d + 1; omega), (by show 8 + (3 + 11) + 40 * 0 ≤ 40 * (d + 1); omega)⟩ ⟨Nat.le_of_ble_eq_true rfl, Nat.le_of_ble_eq_true rfl⟩ rfl hl.1 rfl (Nat.le_of_ble_eq_true rfl) dX5_readSum_70) hS (fun q _ h => hFc q h) hFc (fun r_16 u t H1 locs ht hvm wh_17 hB1 hz1 hk1 hS => ?_)
          obtain ⟨cn17, In17, Fn17⟩ := u
          obtain ⟨hP1, hD1⟩ := hB1
          rw [ht] at hP1
          have hP : va_P D vwCl (wX cI (D.1 99) zz g ad cn17 In17 Fn17) H1 := hP1
          have hD : va_D A (wX cI (D.1 99) zz g ad cn17 In17 Fn17) := hD1.weaken (fun _ _ _ h => hFc _ h)
          generalize H1 = H at hP hS ⊢
          have vh_17 : (fun r c2 I2 F2 => Fr [] [] [195, 301] cn14 In14 Fn14 c2 I2 F2 ∧ CBX c2 ∧ (addR (ad 4 1) 3 0 Fn14 F2 ∧ r = ((Fn14 195)) (ad 4 1) ∧ KPT (ad 4 1) Fn14 F2)) r_16 cn17 In17 Fn17 := wh_17
          obtain ⟨hfc17, hIn17, h_17⟩ := vh_17
          obtain rfl : cn14 = cn17 := (funext (fun k => hfc17.1 k List.not_mem_nil)).symm
          obtain rfl : In14 = In17 := (funext (fun k => hfc17.2.1 k List.not_mem_nil)).symm
          have hf17 : Fr [31, 32] [33] [195, 301] cn In Fn cn14 In14 Fn17 := Fr.mo (Fr.tr hf14 hfc17) (sbl rfl) (sbl rfl) (sbl rfl)
          replace hIn17 : CBXh cn14 := hIn17
          have hj_17 := ZS.addj hz_14 h_17.2.1
          have hz_17 : ZS G (ad 4 1) N cn14 In14 Fn17 (resB x_14 (fAdd 3 0)) := ZS.addx h_17.2.2 hz_14 sl_14 hN ((congrFun (hfc17.2.2 199 (nml rfl)) _).symm.trans ((congrFun (hf17.2.2 199 (nml rfl)) _).trans he9)) ⟨(by decide), by decide⟩ ⟨(by decide), by omega⟩ h_17.1 (hfc17.1 31 (nml rfl)) (hfc17.1 32 (nml rfl)) (hfc17.2.1 33 (nml rfl))
          obtain ⟨x_17, ex_17⟩ : ∃ y : ResT, y = resB x_14 (fAdd 3 0) := ⟨_, rfl⟩
          rw [← ex_17] at hz_17
          have sl_17 : SL 0 x_17 := by rw [ex_17]; exact SL.add sl_14
          refine lv_pop hx hb dX5_readSum_73 rfl ?_
          refine lv_goto (tgt := 5) hx hb dX5_readSum_74 rfl ?_
          exact ih5  cn14 In14 Fn17 _ _ (show (cn14 32) - (cn14 31) < n5 by omega) ⟨(Fr.mo hf17 (sbl rfl) (sbl rfl) (sbl rfl)), hIn17, (show cn 31 ≤ (cn14 31) ∧ (cn14 31) ≤ (cn14 32) ∧ (cn14 32) ≤ cn 32 by omega), ⟨_, hz_17, (by rw [ex_17, ex_14, ex_11]; exact e_5.trans (sm_go (smK_mono _) (fun z e => (by rw [ZS.pkx (b := bb) hz_5 e]; first | (rw [show pkS c5 bb = 43 by assumption]; decide) | (exfalso; omega)))).symm)⟩⟩ hP hD hS ls (lv_sub hl [1, 2] rfl)
        ·
          have tc_7 : ((pkS c5 bb).toInt : Int) ≠ 43 := fun q => c_7 (Int32.toInt_inj.mp q)
          refine lv_aload_n hx hb (oc_42 25 shX5_readSum_25) rfl (lvA0 hl) ?_
          refine vp_callSi (runV_rxa (As := []) (rest := []) S (q_Rpeek l D cI cB cZ zz qq vv bt g ad c5 I5 F5  hI5 (by omega) (by omega) (by omega) (by omega)) kV_RX5_43 hK hXS hS hP 3 xo_3 rfl rfl ⟨(by show 0 + 1 ≤ d + 1; omega), (by show 8 + (1 + 11) + 40 * 0 ≤ 40 * (d + 1); omega)⟩ ⟨Nat.le_of_ble_eq_true rfl, Nat.le_of_ble_eq_true rfl⟩ rfl hl.1 rfl (Nat.le_of_ble_eq_true rfl) (oc_182 26 (aq_1 shX5_readSum_25) uw_0_43)) (fun r_19 h_20 => ?_)
          rw [((hfr5.2.2 40 (nml rfl)).trans heb)] at h_20
          obtain rfl : r_19 = pkS c5 bb := pkS_of h_20
          refine lv_bipush (v := 45) hx hb (oc_16 29 (aq_4 shX5_readSum_25) sgb_45) kbc_45 ?_
          refine lv_icmp_ne (tgt := 77) hx hb (oc_160 31 (aq_6 shX5_readSum_25) sgw_0_46) rfl (fun c_21 => ?_) (fun c_21 => ?_)
          ·
            have tc_21 : ((pkS c5 bb).toInt : Int) ≠ 45 := fun q => c_21 (Int32.toInt_inj.mp q)
            exact W.vret hx hb hr (fun t ht hW => ⟨⟨(c5, I5, F5), rfl, ⟨(Fr.mo hfr5 (sbl rfl) (sbl rfl) (sbl rfl)), hI5, (by show (cn 31 ≤ c5 31 ∧ c5 31 ≤ c5 32 ∧ c5 32 ≤ cn 32) ∧ ZS G (ad 4 1) N c5 I5 F5 (resB x (sm1 bb N (smK bb N k))); exact ⟨by show cn 31 ≤ (c5 31) ∧ (c5 31) ≤ (c5 32) ∧ (c5 32) ≤ cn 32; omega, (by show ZS _ _ _ _ _ _ (resB x (sm1 bb N (smK bb N k))); rw [e_5, sm_end (fun z e => (by first | (rw [ZS.endx (b := bb) hz_5 (by omega) e]; decide) | (rw [ZS.pkx (b := bb) hz_5 e]; unfold pls; rw [if_neg (by assumption), if_neg (by assumption)])))]; exact hz_5)⟩)⟩, by rw [ht]; exact hP, hD⟩, hS.F ht⟩) hS.2.2 dX5_readSum_77
          ·
            have tc_21 : ((pkS c5 bb).toInt : Int) = 45 := congrArg Int32.toInt c_21
            refine lv_aload_n hx hb dX5_readSum_34 rfl (lvA0 hl) ?_
            refine vp_callSi (runV_rxa (As := []) (rest := []) S (q_Rpeek l D cI cB cZ zz qq vv bt g ad c5 I5 F5  hI5 (by omega) (by omega) (by omega) (by omega)) kV_RX5_43 hK hXS hS hP 3 xo_3 rfl rfl ⟨(by show 0 + 1 ≤ d + 1; omega), (by show 8 + (1 + 11) + 40 * 0 ≤ 40 * (d + 1); omega)⟩ ⟨Nat.le_of_ble_eq_true rfl, Nat.le_of_ble_eq_true rfl⟩ rfl hl.1 rfl (Nat.le_of_ble_eq_true rfl) dX5_readSum_35) (fun r_22 h_23 => ?_)
            rw [((hfr5.2.2 40 (nml rfl)).trans heb)] at h_23
            obtain rfl : r_22 = pkS c5 bb := pkS_of h_23
            refine lv_bipush (v := 43) hx hb dX5_readSum_38 kbc_43 ?_
            refine lv_icmp_ne (tgt := 47) hx hb dX5_readSum_40 rfl (fun c_24 => ?_) (fun c_24 => False.elim (by have tc_24 : ((pkS c5 bb).toInt : Int) = 43 := congrArg Int32.toInt c_24; omega))
            have tc_24 : ((pkS c5 bb).toInt : Int) ≠ 43 := fun q => c_24 (Int32.toInt_inj.mp q)
            refine lv_iconst (v := 4) hx hb (oc_7 47 (aq_22 shX5_readSum_25)) kic_4 ?_
            refine lv_istore_n (lv' := [(2, .int 4), (0, .ref (g 6)), (1, .int o)]) hx hb dX5_readSum_48 rfl hl (ltb rfl) rfl (fun ls hl => ?_)
            refine lv_aload_n hx hb dX5_readSum_49 rfl (lvA1 hl) ?_
            refine lv_dup hx hb dX5_readSum_50 rfl ?_
            refine gf_RX5_31 S hK hP 3 xo_3 (v := .int (nI (c5 31))) rfl dX5_readSum_51 ?_
            refine lv_iconst (v := 1) hx hb dX5_readSum_54 kic_1 ?_
            refine lv_iadd hx hb dX5_readSum_55 ?_
            refine lv_topi (fun y_25 ey_25 => ?_)
            obtain rfl : y_25 = (nI ((c5 31) + 1)) := ey_25.trans (nI_add (c5 31) 1)
            refine pf_RX5_31 S hK hP hD hS 3 xo_3 (v := .int (nI ((c5 31) + 1))) (Nat.le_of_ble_eq_true rfl) rfl rfl dX5_readSum_56 (fun H locs hP hD hS => ?_)
            have hP : va_P D vwCl (wX cI (D.1 99) zz g ad (va_up c5 31 ((c5 31) + 1)) I5 F5) H := va_P_eq (xsf_3_3) hP
            have hD : va_D A (wX cI (D.1 99) zz g ad (va_up c5 31 ((c5 31) + 1)) I5 F5) := va_D_eq (xsf_3_3) hD
            have hz_25 : ZS G (ad 4 1) N (va_up c5 31 ((c5 31) + 1)) I5 F5 (resB x_5 fInc) := ZS.incx hz_5 (by omega) rfl rfl rfl
            obtain ⟨x_25, ex_25⟩ : ∃ y : ResT, y = resB x_5 fInc := ⟨_, rfl⟩
            rw [← ex_25] at hz_25
            have sl_25 : SL 1 x_25 := by rw [ex_25]; exact SL.inc sl_5
            refine lv_aload_n hx hb dX5_readSum_59 rfl (lvA1 hl) ?_
            refine lv_iload_n hx hb dX5_readSum_60 rfl (lvA2 hl) ?_
            have hFc := free_all hD hS hA
            refine va_callv (runV_xa (As := [.int o]) (rest := []) S (hSq ad (va_up c5 31 ((c5 31) + 1)) I5 F5 G bb N x_25 H.size (CBX.n (k := 31) (v := ((c5 31) + 1)) hI5 (by decide)) (show ad 4 2 = g 40 by omega) (show ad 4 1 < (c5 6) by omega) (show ((c5 31) + 1) ≤ (c5 32) by omega) (show (c5 32) ≤ 160 by omega) (by rw [hfr5.2.2 199 (nml rfl)]; exact h9) ((congrFun (hfr5.2.2 199 (nml rfl)) _).trans he9) hN ((hfr5.2.2 40 (nml rfl)).trans heb) hby hz_25) kV_RX5_92 hK hXS hS hFc hP hD 3 xo_3 rfl rfl ⟨(by show d + 1 ≤ d + 1; omega), (by show 8 + (3 + 11) + 40 * d ≤ 40 * (d + 1); omega)⟩ ⟨Nat.le_of_ble_eq_true rfl, Nat.le_of_ble_eq_true rfl⟩ rfl hl.1 rfl (Nat.le_of_ble_eq_true rfl) dX5_readSum_61) hS (fun q _ h => hFc q h) hFc (fun u t H1 locs ht hvm wh_28 hB1 hz1 hk1 hS => ?_)
            obtain ⟨cn28, In28, Fn28⟩ := u
            obtain ⟨hP1, hD1⟩ := hB1
            rw [ht] at hP1
            have hP : va_P D vwCl (wX cI (D.1 99) zz g ad cn28 In28 Fn28) H1 := hP1
            have hD : va_D A (wX cI (D.1 99) zz g ad cn28 In28 Fn28) := hD1.weaken (fun _ _ _ h => hFc _ h)
            generalize H1 = H at hP hS ⊢
            have vh_28 : (fun c2 I2 F2 => Fr [31, 32] [33] [195, 301] (va_up c5 31 ((c5 31) + 1)) I5 F5 c2 I2 F2 ∧ CBX c2 ∧ ((((c5 31) + 1) ≤ c2 31 ∧ c2 31 ≤ c2 32 ∧ c2 32 ≤ (c5 32)) ∧ ZS G (ad 4 1) N c2 I2 F2 (resB x_25 (trm bb N (smK bb N k))))) cn28 In28 Fn28 := wh_28
            obtain ⟨hfc28, hIn28, h_28⟩ := vh_28
            have hf28 : Fr [31, 32] [33] [195, 301] cn In Fn cn28 In28 Fn28 := Fr.mo (Fr.tr (Fr.c 31 hfr5) hfc28) (sbl rfl) (sbl rfl) (sbl rfl)
            replace hIn28 : CBXh cn28 := hIn28
            have : cn28 6 = (c5 6) := hfc28.1 6 (nml rfl)
            have hz_28 : ZS G (ad 4 1) N cn28 In28 Fn28 (resB x_25 (trm bb N (smK bb N k))) := h_28.2
            obtain ⟨x_28, ex_28⟩ : ∃ y : ResT, y = resB x_25 (trm bb N (smK bb N k)) := ⟨_, rfl⟩
            rw [← ex_28] at hz_28
            have sl_28 : SL 1 x_28 := by rw [ex_28]; exact SL.rule (trm_len (smK_len _)) sl_25
            refine lv_aload_n hx hb dX5_readSum_64 rfl (lvA1 hl) ?_
            refine gf_RX5_20 S hK hP 3 xo_3 (v := .ref (ad 5 (ad 4 1))) rfl dX5_readSum_65 ?_
            refine lv_iload_n hx hb dX5_readSum_68 rfl (lvA0 hl) ?_
            refine lv_iconst (v := 0) hx hb dX5_readSum_69 kic_0 ?_
            have hFc := free_all hD hS hA
            refine va_calli (runV_xa (As := [.int 4, .int 0]) (rest := []) S (q_Zadd l D cI cB cZ zz qq vv bt g ad cn28 In28 Fn28 (ad 4 1) 4 0 H.size hIn28 (by omega) (by rw [hf28.2.2 199 (nml rfl)]; exact h9)) kV_RX5_75 hK hXS hS hFc hP hD _ (xf_7 (show (ad 4 1) < (cn28 6) by omega)) rfl rfl ⟨(by show 0 + 1 ≤ d + 1; omega), (by show 8 + (3 + 11) + 40 * 0 ≤ 40 * (d + 1); omega)⟩ ⟨Nat.le_of_ble_eq_true rfl, Nat.le_of_ble_eq_true rfl⟩ rfl hl.1 rfl (Nat.le_of_ble_eq_true rfl) dX5_readSum_70) hS (fun q _ h => hFc q h) hFc (fun r_30 u t H1 locs ht hvm wh_31 hB1 hz1 hk1 hS => ?_)
            obtain ⟨cn31, In31, Fn31⟩ := u
            obtain ⟨hP1, hD1⟩ := hB1
            rw [ht] at hP1
            have hP : va_P D vwCl (wX cI (D.1 99) zz g ad cn31 In31 Fn31) H1 := hP1
            have hD : va_D A (wX cI (D.1 99) zz g ad cn31 In31 Fn31) := hD1.weaken (fun _ _ _ h => hFc _ h)
            generalize H1 = H at hP hS ⊢
            have vh_31 : (fun r c2 I2 F2 => Fr [] [] [195, 301] cn28 In28 Fn28 c2 I2 F2 ∧ CBX c2 ∧ (addR (ad 4 1) 4 0 Fn28 F2 ∧ r = ((Fn28 195)) (ad 4 1) ∧ KPT (ad 4 1) Fn28 F2)) r_30 cn31 In31 Fn31 := wh_31
            obtain ⟨hfc31, hIn31, h_31⟩ := vh_31
            obtain rfl : cn28 = cn31 := (funext (fun k => hfc31.1 k List.not_mem_nil)).symm
            obtain rfl : In28 = In31 := (funext (fun k => hfc31.2.1 k List.not_mem_nil)).symm
            have hf31 : Fr [31, 32] [33] [195, 301] cn In Fn cn28 In28 Fn31 := Fr.mo (Fr.tr hf28 hfc31) (sbl rfl) (sbl rfl) (sbl rfl)
            replace hIn31 : CBXh cn28 := hIn31
            have hj_31 := ZS.addj hz_28 h_31.2.1
            have hz_31 : ZS G (ad 4 1) N cn28 In28 Fn31 (resB x_28 (fAdd 4 0)) := ZS.addx h_31.2.2 hz_28 sl_28 hN ((congrFun (hfc31.2.2 199 (nml rfl)) _).symm.trans ((congrFun (hf31.2.2 199 (nml rfl)) _).trans he9)) ⟨(by decide), by decide⟩ ⟨(by decide), by omega⟩ h_31.1 (hfc31.1 31 (nml rfl)) (hfc31.1 32 (nml rfl)) (hfc31.2.1 33 (nml rfl))
            obtain ⟨x_31, ex_31⟩ : ∃ y : ResT, y = resB x_28 (fAdd 4 0) := ⟨_, rfl⟩
            rw [← ex_31] at hz_31
            have sl_31 : SL 0 x_31 := by rw [ex_31]; exact SL.add sl_28
            refine lv_pop hx hb dX5_readSum_73 rfl ?_
            refine lv_goto (tgt := 5) hx hb dX5_readSum_74 rfl ?_
            exact ih5  cn28 In28 Fn31 _ _ (show (cn28 32) - (cn28 31) < n5 by omega) ⟨(Fr.mo hf31 (sbl rfl) (sbl rfl) (sbl rfl)), hIn31, (show cn 31 ≤ (cn28 31) ∧ (cn28 31) ≤ (cn28 32) ∧ (cn28 32) ≤ cn 32 by omega), ⟨_, hz_31, (by rw [ex_31, ex_28, ex_25]; exact e_5.trans (sm_go (smK_mono _) (fun z e => (by rw [ZS.pkx (b := bb) hz_5 e]; first | (rw [show pkS c5 bb = 45 by assumption]; decide) | (exfalso; omega)))).symm)⟩⟩ hP hD hS ls (lv_sub hl [1, 2] rfl)
  exact lp_5 _  cn2 In2 Fn2 _ _ (Nat.lt_succ_self _) ⟨(Fr.mo hf2 (sbl rfl) (sbl rfl) (sbl rfl)), hIn2, (show cn 31 ≤ (cn2 31) ∧ (cn2 31) ≤ (cn2 32) ∧ (cn2 32) ≤ cn 32 by omega), ⟨_, hz_2, (by rw [ex_2]; exact resB_assoc.symm)⟩⟩ hP hD hS ls (lv_sub hl [0, 1] rfl)
set_option maxRecDepth 100000 in
set_option maxHeartbeats 4000000 in
theorem gq_ZreadPiece6 (l : Launch) (D : va_G) (cI cB cZ : ClassId) (zz qq vv : Nat) (bt : Nat → Int32) (g : Nat → Nat) (o : Int32) (d : Nat) (ho : 6 ≤ o.toInt) (hd : 4 ≤ d ∧ d ≤ 60) (hSq : RDZ yX5_readSum cX5_readSum 3 l D cI cB cZ zz qq vv bt g o d (fun bb N => sm1 bb N (smK bb N 0))) : RDZ yX5_readPiece cX5_readPiece 4 l D cI cB cZ zz qq vv bt g o (d + 1) (fun bb N => pcK bb N 0) := by
  intro ad cn In Fn G bb N x sz hB hR h1 h3 h4 h9 he9 hN heb hby hz
  refine Met.ofW (cc := cX5_readPiece) (maxL := 4) (ret := none) (by decide) rfl ?_
  intro p e s m args below meth c s₁ B hml hv
  obtain ⟨rfl, hsz, hP, hK, hD0, hXS⟩ := hv
  have hx := B.exec
  have hb := B.bytes
  have hr := B.returns
  have hts := atoms_spec (ws := (CWS yX5_readPiece cX5_readPiece 4 none)) B.pre
  have hown : s.vm.findClass RX5 = some m.cls := findClass_of_methodNamed B.named
  have hlocks := B.notSynchronized
  have S : SF p m c cX5_readPiece 4 s ([.ref (g 6), .int o]).toArray RX5 := ⟨hx, hb, hml, hown, fun w h => hts w (List.mem_cons_of_mem _ h)⟩
  subst hsz
  have hD := hD0.self (sz := s.heap.size)
  generalize hAe : va_A (wX cI (D.1 99) zz g ad cn In Fn) s.heap.size = A at hD hXS ⊢
  have hA : ∀ q : Nat, s.heap.size ≤ q → A q := fun q h => by rw [← hAe]; exact Or.inr h
  have hS : va_S A s.heap s.heap [] := va_S.rf
  have hl := lv_entry ([.ref (g 6), .int o]) (n := 4) (Nat.le_of_ble_eq_true rfl)
  rw [lg_entry_eq]
  generalize (lg_sl ([.ref (g 6), .int o]) ++ List.replicate (4 - (lg_sl ([.ref (g 6), .int o])).length) Slot.unset).toArray = ls at hl ⊢
  have hl : lv_has ls 4 [(0, .ref (g 6)), (1, .int o)] := hl
  replace hB : CBXh cn := hB
  have sl := ZS.sl hz
  refine lv_aload_n hx hb dX5_readPiece_0 rfl (lvA0 hl) ?_
  refine vp_callSi (runV_rxa (As := []) (rest := []) S (q_Rpeek l D cI cB cZ zz qq vv bt g ad cn In Fn  hB (by omega) (by omega) (by omega) (by omega)) kV_RX5_43 hK hXS hS hP 3 xo_3 rfl rfl ⟨(by show 0 + 1 ≤ d + 1; omega), (by show 8 + (1 + 11) + 40 * 0 ≤ 40 * (d + 1); omega)⟩ ⟨Nat.le_of_ble_eq_true rfl, Nat.le_of_ble_eq_true rfl⟩ rfl hl.1 rfl (Nat.le_of_ble_eq_true rfl) dX5_readPiece_1) (fun r_1 h_2 => ?_)
  rw [heb] at h_2
  obtain rfl : r_1 = pkS cn bb := pkS_of h_2
  refine lv_istore_n (lv' := [(2, .int (pkS cn bb)), (0, .ref (g 6)), (1, .int o)]) hx hb dX5_readPiece_4 rfl hl (ltb rfl) rfl (fun ls hl => ?_)
  refine lv_iload_n hx hb dX5_readPiece_5 rfl (lvA0 hl) ?_
  refine lv_bipush (v := 33) hx hb dX5_readPiece_6 kbc_33 ?_
  refine lv_icmp_ne (tgt := 40) hx hb dX5_readPiece_8 rfl (fun c_3 => ?_) (fun c_3 => ?_)
  ·
    have tc_3 : ((pkS cn bb).toInt : Int) ≠ 33 := fun q => c_3 (Int32.toInt_inj.mp q)
    refine lv_iload_n hx hb dX5_readPiece_40 rfl (lvA0 hl) ?_
    refine lv_bipush (v := 40) hx hb dX5_readPiece_41 kbc_40 ?_
    refine lv_icmp_ne (tgt := 70) hx hb dX5_readPiece_43 rfl (fun c_4 => ?_) (fun c_4 => ?_)
    ·
      have tc_4 : ((pkS cn bb).toInt : Int) ≠ 40 := fun q => c_4 (Int32.toInt_inj.mp q)
      refine lv_aload_n hx hb dX5_readPiece_70 rfl (lvA1 hl) ?_
      refine lv_iload_n hx hb dX5_readPiece_71 rfl (lvA2 hl) ?_
      have hFc := free_all hD hS hA
      refine va_callv (runV_xa (As := [.int o]) (rest := []) S (hSq ad cn In Fn G bb N x s.heap.size hB (by omega) (by omega) (by omega) (by omega) h9 he9 hN heb hby hz) kV_RX5_56 hK hXS hS hFc hP hD 3 xo_3 rfl rfl ⟨(by show d + 1 ≤ d + 1; omega), (by show 8 + (3 + 11) + 40 * d ≤ 40 * (d + 1); omega)⟩ ⟨Nat.le_of_ble_eq_true rfl, Nat.le_of_ble_eq_true rfl⟩ rfl hl.1 rfl (Nat.le_of_ble_eq_true rfl) dX5_readPiece_72) hS (fun q _ h => hFc q h) hFc (fun u t H1 locs ht hvm wh_6 hB1 hz1 hk1 hS => ?_)
      obtain ⟨cn6, In6, Fn6⟩ := u
      obtain ⟨hP1, hD1⟩ := hB1
      rw [ht] at hP1
      have hP : va_P D vwCl (wX cI (D.1 99) zz g ad cn6 In6 Fn6) H1 := hP1
      have hD : va_D A (wX cI (D.1 99) zz g ad cn6 In6 Fn6) := hD1.weaken (fun _ _ _ h => hFc _ h)
      generalize H1 = H at hP hS ⊢
      have vh_6 : (fun c2 I2 F2 => Fr [31, 32] [33] [195, 301] cn In Fn c2 I2 F2 ∧ CBX c2 ∧ (((cn 31) ≤ c2 31 ∧ c2 31 ≤ c2 32 ∧ c2 32 ≤ (cn 32)) ∧ ZS G (ad 4 1) N c2 I2 F2 (resB x (sm1 bb N (smK bb N 0))))) cn6 In6 Fn6 := wh_6
      obtain ⟨hfc6, hIn6, h_6⟩ := vh_6
      have hf6 : Fr [31, 32] [33] [195, 301] cn In Fn cn6 In6 Fn6 := Fr.mo (Fr.tr (Fr.rf (cn := cn) (In := In) (Fn := Fn)) hfc6) (sbl rfl) (sbl rfl) (sbl rfl)
      replace hIn6 : CBXh cn6 := hIn6
      have : cn6 6 = (cn 6) := hfc6.1 6 (nml rfl)
      have hz_6 : ZS G (ad 4 1) N cn6 In6 Fn6 (resB x (sm1 bb N (smK bb N 0))) := h_6.2
      obtain ⟨x_6, ex_6⟩ : ∃ y : ResT, y = resB x (sm1 bb N (smK bb N 0)) := ⟨_, rfl⟩
      rw [← ex_6] at hz_6
      have sl_6 : SL 0 x_6 := by rw [ex_6]; exact SL.rule (sm1_len (smK_len _)) sl
      refine lv_aload_n hx hb dX5_readPiece_75 rfl (lvA1 hl) ?_
      have hFc := free_all hD hS hA
      refine va_calli (runV_xa (As := []) (rest := []) S (q_ZreadRelation l D cI cB cZ zz qq vv bt g ad cn6 In6 Fn6  H.size hIn6 (by omega) (by omega) (by omega) (by omega)) kV_RX5_89 hK hXS hS hFc hP hD 3 xo_3 rfl rfl ⟨(by show 1 + 1 ≤ d + 1; omega), (by show 8 + (2 + 11) + 40 * 1 ≤ 40 * (d + 1); omega)⟩ ⟨Nat.le_of_ble_eq_true rfl, Nat.le_of_ble_eq_true rfl⟩ rfl hl.1 rfl (Nat.le_of_ble_eq_true rfl) dX5_readPiece_76) hS (fun q _ h => hFc q h) hFc (fun r_8 u t H1 locs ht hvm wh_9 hB1 hz1 hk1 hS => ?_)
      obtain ⟨cn9, In9, Fn9⟩ := u
      obtain ⟨hP1, hD1⟩ := hB1
      rw [ht] at hP1
      have hP : va_P D vwCl (wX cI (D.1 99) zz g ad cn9 In9 Fn9) H1 := hP1
      have hD : va_D A (wX cI (D.1 99) zz g ad cn9 In9 Fn9) := hD1.weaken (fun _ _ _ h => hFc _ h)
      generalize H1 = H at hP hS ⊢
      have vh_9 : (fun r c2 I2 F2 => Fr [31, 32] [33] [] cn6 In6 Fn6 c2 I2 F2 ∧ CBX c2 ∧ (((cn6 31) ≤ c2 31 ∧ c2 31 ≤ c2 32 ∧ c2 32 ≤ (cn6 32)) ∧ RLR r ((Fn6 40)) cn6 In6 c2 I2)) r_8 cn9 In9 Fn9 := wh_9
      obtain ⟨hfc9, hIn9, h_9⟩ := vh_9
      obtain rfl : Fn6 = Fn9 := (funext (fun k => hfc9.2.2 k List.not_mem_nil)).symm
      have hf9 : Fr [31, 32] [33] [195, 301] cn In Fn cn9 In9 Fn6 := Fr.mo (Fr.tr hf6 hfc9) (sbl rfl) (sbl rfl) (sbl rfl)
      replace hIn9 : CBXh cn9 := hIn9
      have : cn9 6 = (cn6 6) := hfc9.1 6 (nml rfl)
      rw [((hf9.2.2 40 (nml rfl)).trans heb)] at h_9
      have hrr := ZS.relr hz_6 h_9.2
      have hz_9 : ZS G (ad 4 1) N cn9 In9 Fn6 (resB x_6 (fRel bb N)) := ZS.relx hN hz_6 h_9.2
      obtain ⟨x_9, ex_9⟩ : ∃ y : ResT, y = resB x_6 (fRel bb N) := ⟨_, rfl⟩
      rw [← ex_9] at hz_9
      have sl_9 : SL 1 x_9 := by rw [ex_9]; exact SL.rel sl_6
      refine lv_istore_n (lv' := [(3, .int r_8), (2, .int (pkS cn bb)), (0, .ref (g 6)), (1, .int o)]) hx hb dX5_readPiece_79 rfl hl (ltb rfl) rfl (fun ls hl => ?_)
      refine lv_aload_n hx hb dX5_readPiece_80 rfl (lvA2 hl) ?_
      refine lv_iload_n hx hb dX5_readPiece_81 rfl (lvA3 hl) ?_
      have hFc := free_all hD hS hA
      refine va_callv (runV_xa (As := [.int o]) (rest := []) S (hSq ad cn9 In9 Fn6 G bb N x_9 H.size hIn9 (by omega) (by omega) (by omega) (by omega) (by rw [hf9.2.2 199 (nml rfl)]; exact h9) ((congrFun (hf9.2.2 199 (nml rfl)) _).trans he9) hN ((hf9.2.2 40 (nml rfl)).trans heb) hby hz_9) kV_RX5_56 hK hXS hS hFc hP hD 3 xo_3 rfl rfl ⟨(by show d + 1 ≤ d + 1; omega), (by show 8 + (3 + 11) + 40 * d ≤ 40 * (d + 1); omega)⟩ ⟨Nat.le_of_ble_eq_true rfl, Nat.le_of_ble_eq_true rfl⟩ rfl hl.1 rfl (Nat.le_of_ble_eq_true rfl) dX5_readPiece_82) hS (fun q _ h => hFc q h) hFc (fun u t H1 locs ht hvm wh_12 hB1 hz1 hk1 hS => ?_)
      obtain ⟨cn12, In12, Fn12⟩ := u
      obtain ⟨hP1, hD1⟩ := hB1
      rw [ht] at hP1
      have hP : va_P D vwCl (wX cI (D.1 99) zz g ad cn12 In12 Fn12) H1 := hP1
      have hD : va_D A (wX cI (D.1 99) zz g ad cn12 In12 Fn12) := hD1.weaken (fun _ _ _ h => hFc _ h)
      generalize H1 = H at hP hS ⊢
      have vh_12 : (fun c2 I2 F2 => Fr [31, 32] [33] [195, 301] cn9 In9 Fn6 c2 I2 F2 ∧ CBX c2 ∧ (((cn9 31) ≤ c2 31 ∧ c2 31 ≤ c2 32 ∧ c2 32 ≤ (cn9 32)) ∧ ZS G (ad 4 1) N c2 I2 F2 (resB x_9 (sm1 bb N (smK bb N 0))))) cn12 In12 Fn12 := wh_12
      obtain ⟨hfc12, hIn12, h_12⟩ := vh_12
      have hf12 : Fr [31, 32] [33] [195, 301] cn In Fn cn12 In12 Fn12 := Fr.mo (Fr.tr hf9 hfc12) (sbl rfl) (sbl rfl) (sbl rfl)
      replace hIn12 : CBXh cn12 := hIn12
      have : cn12 6 = (cn9 6) := hfc12.1 6 (nml rfl)
      have hz_12 : ZS G (ad 4 1) N cn12 In12 Fn12 (resB x_9 (sm1 bb N (smK bb N 0))) := h_12.2
      obtain ⟨x_12, ex_12⟩ : ∃ y : ResT, y = resB x_9 (sm1 bb N (smK bb N 0)) := ⟨_, rfl⟩
      rw [← ex_12] at hz_12
      have sl_12 : SL 1 x_12 := by rw [ex_12]; exact SL.rule (sm1_len (smK_len _)) sl_9
      refine lv_aload_n hx hb dX5_readPiece_85 rfl (lvA2 hl) ?_
      refine gf_RX5_20 S hK hP 3 xo_3 (v := .ref (ad 5 (ad 4 1))) rfl dX5_readPiece_86 ?_
      refine lv_iload_n hx hb dX5_readPiece_89 rfl (lvA0 hl) ?_
      refine lv_iconst (v := 0) hx hb dX5_readPiece_90 kic_0 ?_
      have hFc := free_all hD hS hA
      refine va_calli (runV_xa (As := [.int r_8, .int 0]) (rest := []) S (q_Zadd l D cI cB cZ zz qq vv bt g ad cn12 In12 Fn12 (ad 4 1) r_8 0 H.size hIn12 (by omega) (by rw [hf12.2.2 199 (nml rfl)]; exact h9)) kV_RX5_75 hK hXS hS hFc hP hD _ (xf_7 (show (ad 4 1) < (cn12 6) by omega)) rfl rfl ⟨(by show 0 + 1 ≤ d + 1; omega), (by show 8 + (3 + 11) + 40 * 0 ≤ 40 * (d + 1); omega)⟩ ⟨Nat.le_of_ble_eq_true rfl, Nat.le_of_ble_eq_true rfl⟩ rfl hl.1 rfl (Nat.le_of_ble_eq_true rfl) dX5_readPiece_91) hS (fun q _ h => hFc q h) hFc (fun r_14 u t H1 locs ht hvm wh_15 hB1 hz1 hk1 hS => ?_)
      obtain ⟨cn15, In15, Fn15⟩ := u
      obtain ⟨hP1, hD1⟩ := hB1
      rw [ht] at hP1
      have hP : va_P D vwCl (wX cI (D.1 99) zz g ad cn15 In15 Fn15) H1 := hP1
      have hD : va_D A (wX cI (D.1 99) zz g ad cn15 In15 Fn15) := hD1.weaken (fun _ _ _ h => hFc _ h)
      generalize H1 = H at hP hS ⊢
      have vh_15 : (fun r c2 I2 F2 => Fr [] [] [195, 301] cn12 In12 Fn12 c2 I2 F2 ∧ CBX c2 ∧ (addR (ad 4 1) r_8 0 Fn12 F2 ∧ r = ((Fn12 195)) (ad 4 1) ∧ KPT (ad 4 1) Fn12 F2)) r_14 cn15 In15 Fn15 := wh_15
      obtain ⟨hfc15, hIn15, h_15⟩ := vh_15
      obtain rfl : cn12 = cn15 := (funext (fun k => hfc15.1 k List.not_mem_nil)).symm
      obtain rfl : In12 = In15 := (funext (fun k => hfc15.2.1 k List.not_mem_nil)).symm
      have hf15 : Fr [31, 32] [33] [195, 301] cn In Fn cn12 In12 Fn15 := Fr.mo (Fr.tr hf12 hfc15) (sbl rfl) (sbl rfl) (sbl rfl)
      replace hIn15 : CBXh cn12 := hIn15
      have hq9 := hz_12
      rw [ex_12, ex_9, ex_6] at hq9
      have sq9 := sl_12
      rw [ex_12, ex_9, ex_6] at sq9
      have hz_15 : ZS G (ad 4 1) N cn12 In12 Fn15 (resB x (cmpK bb N 0)) := ZS.cmp h_15.2.2 hN hq9 (fun z e => hrr z (by rw [ex_6]; exact e)) sq9 ((congrFun (hfc15.2.2 199 (nml rfl)) _).symm.trans ((congrFun (hf15.2.2 199 (nml rfl)) _).trans he9)) h_15.1 (hfc15.1 31 (nml rfl)) (hfc15.1 32 (nml rfl)) (hfc15.2.1 33 (nml rfl))
      obtain ⟨x_15, ex_15⟩ : ∃ y : ResT, y = resB x (cmpK bb N 0) := ⟨_, rfl⟩
      rw [← ex_15] at hz_15
      refine lv_pop hx hb dX5_readPiece_94 rfl ?_
      exact W.vret hx hb hr (fun t ht hW => ⟨⟨(cn12, In12, Fn15), rfl, ⟨(Fr.mo hf15 (sbl rfl) (sbl rfl) (sbl rfl)), hIn15, (by show (cn 31 ≤ cn12 31 ∧ cn12 31 ≤ cn12 32 ∧ cn12 32 ≤ cn 32) ∧ ZS G (ad 4 1) N cn12 In12 Fn15 (resB x (pcK bb N 0)); exact ⟨by show cn 31 ≤ (cn12 31) ∧ (cn12 31) ≤ (cn12 32) ∧ (cn12 32) ≤ cn 32; omega, (by first | (exfalso; omega) | (subst ex_6 ex_9 ex_12 ex_15; cases x with | error e0 => exact hz_15 | ok z => (have e1 := ZS.pkx (b := bb) hz rfl; show ZS _ _ _ _ _ _ (pcK bb N 0 z.1 z.2); unfold pcK; rw [if_neg (fun q => absurd (e1.symm.trans q) (by assumption)), if_neg (fun q => absurd (e1.symm.trans q) (by assumption))]; exact hz_15)))⟩)⟩, by rw [ht]; exact hP, hD⟩, hS.F ht⟩) hS.2.2 dX5_readPiece_95
    ·
      have tc_4 : ((pkS cn bb).toInt : Int) = 40 := congrArg Int32.toInt c_4
      refine lv_aload_n hx hb dX5_readPiece_46 rfl (lvA1 hl) ?_
      refine lv_iload_n hx hb dX5_readPiece_47 rfl (lvA2 hl) ?_
      have hFc := free_all hD hS hA
      refine va_calli (runV_xa (As := [.int o]) (rest := []) S (q_Zopens_n l D cI cB cZ zz qq vv bt g ad cn In Fn o s.heap.size hB (by omega) (by omega) (by omega) (by omega) (by omega) ho) kV_RX5_85 hK hXS hS hFc hP hD 3 xo_3 rfl rfl ⟨(by show 1 + 1 ≤ d + 1; omega), (by show 8 + (2 + 11) + 40 * 1 ≤ 40 * (d + 1); omega)⟩ ⟨Nat.le_of_ble_eq_true rfl, Nat.le_of_ble_eq_true rfl⟩ rfl hl.1 rfl (Nat.le_of_ble_eq_true rfl) dX5_readPiece_48) hS (fun q _ h => hFc q h) hFc (fun r_17 u t H1 locs ht hvm wh_18 hB1 hz1 hk1 hS => ?_)
      obtain ⟨cn18, In18, Fn18⟩ := u
      obtain ⟨hP1, hD1⟩ := hB1
      rw [ht] at hP1
      have hP : va_P D vwCl (wX cI (D.1 99) zz g ad cn18 In18 Fn18) H1 := hP1
      have hD : va_D A (wX cI (D.1 99) zz g ad cn18 In18 Fn18) := hD1.weaken (fun _ _ _ h => hFc _ h)
      generalize H1 = H at hP hS ⊢
      have vh_18 : (fun r c2 I2 F2 => Fr [31, 32] [33] [] cn In Fn c2 I2 F2 ∧ CBX c2 ∧ ((((cn 31) ≤ c2 31 ∧ c2 31 ≤ c2 32 ∧ c2 32 ≤ (cn 32)) ∧ FLRv 5 cn In c2 I2) ∧ r = 0)) r_17 cn18 In18 Fn18 := wh_18
      obtain ⟨hfc18, hIn18, h_18⟩ := vh_18
      obtain rfl : Fn = Fn18 := (funext (fun k => hfc18.2.2 k List.not_mem_nil)).symm
      have hf18 : Fr [31, 32] [33] [195, 301] cn In Fn cn18 In18 Fn := Fr.mo (Fr.tr (Fr.rf (cn := cn) (In := In) (Fn := Fn)) hfc18) (sbl rfl) (sbl rfl) (sbl rfl)
      replace hIn18 : CBXh cn18 := hIn18
      have : cn18 6 = (cn 6) := hfc18.1 6 (nml rfl)
      obtain ⟨h_18, rfl⟩ := h_18
      have hz_18 : ZS G (ad 4 1) N cn18 In18 Fn (resB x (fErr 5)) := ZS.failv (k := 5) (by decide) (by decide) hN hz h_18.2
      obtain ⟨x_18, ex_18⟩ : ∃ y : ResT, y = resB x (fErr 5) := ⟨_, rfl⟩
      rw [← ex_18] at hz_18
      refine lv_if_eq (tgt := 95) hx hb dX5_readPiece_51 rfl (fun _ => ?_) (fun h => absurd h cq_eq_0_0)
      exact W.vret hx hb hr (fun t ht hW => ⟨⟨(cn18, In18, Fn), rfl, ⟨(Fr.mo hf18 (sbl rfl) (sbl rfl) (sbl rfl)), hIn18, (by show (cn 31 ≤ cn18 31 ∧ cn18 31 ≤ cn18 32 ∧ cn18 32 ≤ cn 32) ∧ ZS G (ad 4 1) N cn18 In18 Fn (resB x (pcK bb N 0)); exact ⟨by show cn 31 ≤ (cn18 31) ∧ (cn18 31) ≤ (cn18 32) ∧ (cn18 32) ≤ cn 32; omega, (by first | (exfalso; omega) | (subst ex_18; cases x with | error e0 => exact hz_18 | ok z => (have e1 := ZS.pkx (b := bb) hz rfl; show ZS _ _ _ _ _ _ (pcK bb N 0 z.1 z.2); unfold pcK; (first | rw [if_pos (e1.trans (show pkS cn bb = 33 by assumption))] | rw [if_neg (fun q => absurd (e1.symm.trans q) (by assumption)), if_pos (e1.trans (show pkS cn bb = 40 by assumption))]); exact hz_18)))⟩)⟩, by rw [ht]; exact hP, hD⟩, hS.F ht⟩) hS.2.2 dX5_readPiece_95
  ·
    have tc_3 : ((pkS cn bb).toInt : Int) = 33 := congrArg Int32.toInt c_3
    refine lv_aload_n hx hb dX5_readPiece_11 rfl (lvA1 hl) ?_
    refine lv_iload_n hx hb dX5_readPiece_12 rfl (lvA2 hl) ?_
    have hFc := free_all hD hS hA
    refine va_calli (runV_xa (As := [.int o]) (rest := []) S (q_Zopens_n l D cI cB cZ zz qq vv bt g ad cn In Fn o s.heap.size hB (by omega) (by omega) (by omega) (by omega) (by omega) ho) kV_RX5_85 hK hXS hS hFc hP hD 3 xo_3 rfl rfl ⟨(by show 1 + 1 ≤ d + 1; omega), (by show 8 + (2 + 11) + 40 * 1 ≤ 40 * (d + 1); omega)⟩ ⟨Nat.le_of_ble_eq_true rfl, Nat.le_of_ble_eq_true rfl⟩ rfl hl.1 rfl (Nat.le_of_ble_eq_true rfl) dX5_readPiece_13) hS (fun q _ h => hFc q h) hFc (fun r_20 u t H1 locs ht hvm wh_21 hB1 hz1 hk1 hS => ?_)
    obtain ⟨cn21, In21, Fn21⟩ := u
    obtain ⟨hP1, hD1⟩ := hB1
    rw [ht] at hP1
    have hP : va_P D vwCl (wX cI (D.1 99) zz g ad cn21 In21 Fn21) H1 := hP1
    have hD : va_D A (wX cI (D.1 99) zz g ad cn21 In21 Fn21) := hD1.weaken (fun _ _ _ h => hFc _ h)
    generalize H1 = H at hP hS ⊢
    have vh_21 : (fun r c2 I2 F2 => Fr [31, 32] [33] [] cn In Fn c2 I2 F2 ∧ CBX c2 ∧ ((((cn 31) ≤ c2 31 ∧ c2 31 ≤ c2 32 ∧ c2 32 ≤ (cn 32)) ∧ FLRv 5 cn In c2 I2) ∧ r = 0)) r_20 cn21 In21 Fn21 := wh_21
    obtain ⟨hfc21, hIn21, h_21⟩ := vh_21
    obtain rfl : Fn = Fn21 := (funext (fun k => hfc21.2.2 k List.not_mem_nil)).symm
    have hf21 : Fr [31, 32] [33] [195, 301] cn In Fn cn21 In21 Fn := Fr.mo (Fr.tr (Fr.rf (cn := cn) (In := In) (Fn := Fn)) hfc21) (sbl rfl) (sbl rfl) (sbl rfl)
    replace hIn21 : CBXh cn21 := hIn21
    have : cn21 6 = (cn 6) := hfc21.1 6 (nml rfl)
    obtain ⟨h_21, rfl⟩ := h_21
    have hz_21 : ZS G (ad 4 1) N cn21 In21 Fn (resB x (fErr 5)) := ZS.failv (k := 5) (by decide) (by decide) hN hz h_21.2
    obtain ⟨x_21, ex_21⟩ : ∃ y : ResT, y = resB x (fErr 5) := ⟨_, rfl⟩
    rw [← ex_21] at hz_21
    refine lv_if_eq (tgt := 95) hx hb dX5_readPiece_16 rfl (fun _ => ?_) (fun h => absurd h cq_eq_0_0)
    exact W.vret hx hb hr (fun t ht hW => ⟨⟨(cn21, In21, Fn), rfl, ⟨(Fr.mo hf21 (sbl rfl) (sbl rfl) (sbl rfl)), hIn21, (by show (cn 31 ≤ cn21 31 ∧ cn21 31 ≤ cn21 32 ∧ cn21 32 ≤ cn 32) ∧ ZS G (ad 4 1) N cn21 In21 Fn (resB x (pcK bb N 0)); exact ⟨by show cn 31 ≤ (cn21 31) ∧ (cn21 31) ≤ (cn21 32) ∧ (cn21 32) ≤ cn 32; omega, (by first | (exfalso; omega) | (subst ex_21; cases x with | error e0 => exact hz_21 | ok z => (have e1 := ZS.pkx (b := bb) hz rfl; show ZS _ _ _ _ _ _ (pcK bb N 0 z.1 z.2); unfold pcK; (first | rw [if_pos (e1.trans (show pkS cn bb = 33 by assumption))] | rw [if_neg (fun q => absurd (e1.symm.trans q) (by assumption)), if_pos (e1.trans (show pkS cn bb = 40 by assumption))]); exact hz_21)))⟩)⟩, by rw [ht]; exact hP, hD⟩, hS.F ht⟩) hS.2.2 dX5_readPiece_95
set_option maxRecDepth 100000 in
set_option maxHeartbeats 4000000 in
theorem gq_ZreadPiece (l : Launch) (D : va_G) (cI cB cZ : ClassId) (zz qq vv : Nat) (bt : Nat → Int32) (g : Nat → Nat) (o : Int32) (d de df k : Nat) (ho : o.toInt < 6) (hd : 4 ≤ d ∧ d ≤ 60 ∧ de ≤ d ∧ df ≤ d) (hSq : RDZ yX5_readSum cX5_readSum 3 l D cI cB cZ zz qq vv bt g o d (fun bb N => sm1 bb N (smK bb N (k + 1)))) (hP9 : RDZ yX5_readPiece cX5_readPiece 4 l D cI cB cZ zz qq vv bt g (o + 1) de (fun bb N => pcK bb N k)) (hC9 : RDZ yX5_readCondition cX5_readCondition 3 l D cI cB cZ zz qq vv bt g (o + 1) df (fun bb N => cdK bb N (pcK bb N k))) : RDZ yX5_readPiece cX5_readPiece 4 l D cI cB cZ zz qq vv bt g o (d + 1) (fun bb N => pcK bb N (k + 1)) := by
  intro ad cn In Fn G bb N x sz hB hR h1 h3 h4 h9 he9 hN heb hby hz
  refine Met.ofW (cc := cX5_readPiece) (maxL := 4) (ret := none) (by decide) rfl ?_
  intro p e s m args below meth c s₁ B hml hv
  obtain ⟨rfl, hsz, hP, hK, hD0, hXS⟩ := hv
  have hx := B.exec
  have hb := B.bytes
  have hr := B.returns
  have hts := atoms_spec (ws := (CWS yX5_readPiece cX5_readPiece 4 none)) B.pre
  have hown : s.vm.findClass RX5 = some m.cls := findClass_of_methodNamed B.named
  have hlocks := B.notSynchronized
  have S : SF p m c cX5_readPiece 4 s ([.ref (g 6), .int o]).toArray RX5 := ⟨hx, hb, hml, hown, fun w h => hts w (List.mem_cons_of_mem _ h)⟩
  subst hsz
  have hD := hD0.self (sz := s.heap.size)
  generalize hAe : va_A (wX cI (D.1 99) zz g ad cn In Fn) s.heap.size = A at hD hXS ⊢
  have hA : ∀ q : Nat, s.heap.size ≤ q → A q := fun q h => by rw [← hAe]; exact Or.inr h
  have hS : va_S A s.heap s.heap [] := va_S.rf
  have hl := lv_entry ([.ref (g 6), .int o]) (n := 4) (Nat.le_of_ble_eq_true rfl)
  rw [lg_entry_eq]
  generalize (lg_sl ([.ref (g 6), .int o]) ++ List.replicate (4 - (lg_sl ([.ref (g 6), .int o])).length) Slot.unset).toArray = ls at hl ⊢
  have hl : lv_has ls 4 [(0, .ref (g 6)), (1, .int o)] := hl
  replace hB : CBXh cn := hB
  have sl := ZS.sl hz
  refine lv_aload_n hx hb dX5_readPiece_0 rfl (lvA0 hl) ?_
  refine vp_callSi (runV_rxa (As := []) (rest := []) S (q_Rpeek l D cI cB cZ zz qq vv bt g ad cn In Fn  hB (by omega) (by omega) (by omega) (by omega)) kV_RX5_43 hK hXS hS hP 3 xo_3 rfl rfl ⟨(by show 0 + 1 ≤ d + 1; omega), (by show 8 + (1 + 11) + 40 * 0 ≤ 40 * (d + 1); omega)⟩ ⟨Nat.le_of_ble_eq_true rfl, Nat.le_of_ble_eq_true rfl⟩ rfl hl.1 rfl (Nat.le_of_ble_eq_true rfl) dX5_readPiece_1) (fun r_1 h_2 => ?_)
  rw [heb] at h_2
  obtain rfl : r_1 = pkS cn bb := pkS_of h_2
  refine lv_istore_n (lv' := [(2, .int (pkS cn bb)), (0, .ref (g 6)), (1, .int o)]) hx hb dX5_readPiece_4 rfl hl (ltb rfl) rfl (fun ls hl => ?_)
  refine lv_iload_n hx hb dX5_readPiece_5 rfl (lvA0 hl) ?_
  refine lv_bipush (v := 33) hx hb dX5_readPiece_6 kbc_33 ?_
  refine lv_icmp_ne (tgt := 40) hx hb dX5_readPiece_8 rfl (fun c_3 => ?_) (fun c_3 => ?_)
  ·
    have tc_3 : ((pkS cn bb).toInt : Int) ≠ 33 := fun q => c_3 (Int32.toInt_inj.mp q)
    refine lv_iload_n hx hb dX5_readPiece_40 rfl (lvA0 hl) ?_
    refine lv_bipush (v := 40) hx hb dX5_readPiece_41 kbc_40 ?_
    refine lv_icmp_ne (tgt := 70) hx hb dX5_readPiece_43 rfl (fun c_4 => ?_) (fun c_4 => ?_)
    ·
      have tc_4 : ((pkS cn bb).toInt : Int) ≠ 40 := fun q => c_4 (Int32.toInt_inj.mp q)
      refine lv_aload_n hx hb dX5_readPiece_70 rfl (lvA1 hl) ?_
      refine lv_iload_n hx hb dX5_readPiece_71 rfl (lvA2 hl) ?_
      have hFc := free_all hD hS hA
      refine va_callv (runV_xa (As := [.int o]) (rest := []) S (hSq ad cn In Fn G bb N x s.heap.size hB (by omega) (by omega) (by omega) (by omega) h9 he9 hN heb hby hz) kV_RX5_56 hK hXS hS hFc hP hD 3 xo_3 rfl rfl ⟨(by show d + 1 ≤ d + 1; omega), (by show 8 + (3 + 11) + 40 * d ≤ 40 * (d + 1); omega)⟩ ⟨Nat.le_of_ble_eq_true rfl, Nat.le_of_ble_eq_true rfl⟩ rfl hl.1 rfl (Nat.le_of_ble_eq_true rfl) dX5_readPiece_72) hS (fun q _ h => hFc q h) hFc (fun u t H1 locs ht hvm wh_6 hB1 hz1 hk1 hS => ?_)
      obtain ⟨cn6, In6, Fn6⟩ := u
      obtain ⟨hP1, hD1⟩ := hB1
      rw [ht] at hP1
      have hP : va_P D vwCl (wX cI (D.1 99) zz g ad cn6 In6 Fn6) H1 := hP1
      have hD : va_D A (wX cI (D.1 99) zz g ad cn6 In6 Fn6) := hD1.weaken (fun _ _ _ h => hFc _ h)
      generalize H1 = H at hP hS ⊢
      have vh_6 : (fun c2 I2 F2 => Fr [31, 32] [33] [195, 301] cn In Fn c2 I2 F2 ∧ CBX c2 ∧ (((cn 31) ≤ c2 31 ∧ c2 31 ≤ c2 32 ∧ c2 32 ≤ (cn 32)) ∧ ZS G (ad 4 1) N c2 I2 F2 (resB x (sm1 bb N (smK bb N (k + 1)))))) cn6 In6 Fn6 := wh_6
      obtain ⟨hfc6, hIn6, h_6⟩ := vh_6
      have hf6 : Fr [31, 32] [33] [195, 301] cn In Fn cn6 In6 Fn6 := Fr.mo (Fr.tr (Fr.rf (cn := cn) (In := In) (Fn := Fn)) hfc6) (sbl rfl) (sbl rfl) (sbl rfl)
      replace hIn6 : CBXh cn6 := hIn6
      have : cn6 6 = (cn 6) := hfc6.1 6 (nml rfl)
      have hz_6 : ZS G (ad 4 1) N cn6 In6 Fn6 (resB x (sm1 bb N (smK bb N (k + 1)))) := h_6.2
      obtain ⟨x_6, ex_6⟩ : ∃ y : ResT, y = resB x (sm1 bb N (smK bb N (k + 1))) := ⟨_, rfl⟩
      rw [← ex_6] at hz_6
      have sl_6 : SL 0 x_6 := by rw [ex_6]; exact SL.rule (sm1_len (smK_len _)) sl
      refine lv_aload_n hx hb dX5_readPiece_75 rfl (lvA1 hl) ?_
      have hFc := free_all hD hS hA
      refine va_calli (runV_xa (As := []) (rest := []) S (q_ZreadRelation l D cI cB cZ zz qq vv bt g ad cn6 In6 Fn6  H.size hIn6 (by omega) (by omega) (by omega) (by omega)) kV_RX5_89 hK hXS hS hFc hP hD 3 xo_3 rfl rfl ⟨(by show 1 + 1 ≤ d + 1; omega), (by show 8 + (2 + 11) + 40 * 1 ≤ 40 * (d + 1); omega)⟩ ⟨Nat.le_of_ble_eq_true rfl, Nat.le_of_ble_eq_true rfl⟩ rfl hl.1 rfl (Nat.le_of_ble_eq_true rfl) dX5_readPiece_76) hS (fun q _ h => hFc q h) hFc (fun r_8 u t H1 locs ht hvm wh_9 hB1 hz1 hk1 hS => ?_)
      obtain ⟨cn9, In9, Fn9⟩ := u
      obtain ⟨hP1, hD1⟩ := hB1
      rw [ht] at hP1
      have hP : va_P D vwCl (wX cI (D.1 99) zz g ad cn9 In9 Fn9) H1 := hP1
      have hD : va_D A (wX cI (D.1 99) zz g ad cn9 In9 Fn9) := hD1.weaken (fun _ _ _ h => hFc _ h)
      generalize H1 = H at hP hS ⊢
      have vh_9 : (fun r c2 I2 F2 => Fr [31, 32] [33] [] cn6 In6 Fn6 c2 I2 F2 ∧ CBX c2 ∧ (((cn6 31) ≤ c2 31 ∧ c2 31 ≤ c2 32 ∧ c2 32 ≤ (cn6 32)) ∧ RLR r ((Fn6 40)) cn6 In6 c2 I2)) r_8 cn9 In9 Fn9 := wh_9
      obtain ⟨hfc9, hIn9, h_9⟩ := vh_9
      obtain rfl : Fn6 = Fn9 := (funext (fun k => hfc9.2.2 k List.not_mem_nil)).symm
      have hf9 : Fr [31, 32] [33] [195, 301] cn In Fn cn9 In9 Fn6 := Fr.mo (Fr.tr hf6 hfc9) (sbl rfl) (sbl rfl) (sbl rfl)
      replace hIn9 : CBXh cn9 := hIn9
      have : cn9 6 = (cn6 6) := hfc9.1 6 (nml rfl)
      rw [((hf9.2.2 40 (nml rfl)).trans heb)] at h_9
      have hrr := ZS.relr hz_6 h_9.2
      have hz_9 : ZS G (ad 4 1) N cn9 In9 Fn6 (resB x_6 (fRel bb N)) := ZS.relx hN hz_6 h_9.2
      obtain ⟨x_9, ex_9⟩ : ∃ y : ResT, y = resB x_6 (fRel bb N) := ⟨_, rfl⟩
      rw [← ex_9] at hz_9
      have sl_9 : SL 1 x_9 := by rw [ex_9]; exact SL.rel sl_6
      refine lv_istore_n (lv' := [(3, .int r_8), (2, .int (pkS cn bb)), (0, .ref (g 6)), (1, .int o)]) hx hb dX5_readPiece_79 rfl hl (ltb rfl) rfl (fun ls hl => ?_)
      refine lv_aload_n hx hb dX5_readPiece_80 rfl (lvA2 hl) ?_
      refine lv_iload_n hx hb dX5_readPiece_81 rfl (lvA3 hl) ?_
      have hFc := free_all hD hS hA
      refine va_callv (runV_xa (As := [.int o]) (rest := []) S (hSq ad cn9 In9 Fn6 G bb N x_9 H.size hIn9 (by omega) (by omega) (by omega) (by omega) (by rw [hf9.2.2 199 (nml rfl)]; exact h9) ((congrFun (hf9.2.2 199 (nml rfl)) _).trans he9) hN ((hf9.2.2 40 (nml rfl)).trans heb) hby hz_9) kV_RX5_56 hK hXS hS hFc hP hD 3 xo_3 rfl rfl ⟨(by show d + 1 ≤ d + 1; omega), (by show 8 + (3 + 11) + 40 * d ≤ 40 * (d + 1); omega)⟩ ⟨Nat.le_of_ble_eq_true rfl, Nat.le_of_ble_eq_true rfl⟩ rfl hl.1 rfl (Nat.le_of_ble_eq_true rfl) dX5_readPiece_82) hS (fun q _ h => hFc q h) hFc (fun u t H1 locs ht hvm wh_12 hB1 hz1 hk1 hS => ?_)
      obtain ⟨cn12, In12, Fn12⟩ := u
      obtain ⟨hP1, hD1⟩ := hB1
      rw [ht] at hP1
      have hP : va_P D vwCl (wX cI (D.1 99) zz g ad cn12 In12 Fn12) H1 := hP1
      have hD : va_D A (wX cI (D.1 99) zz g ad cn12 In12 Fn12) := hD1.weaken (fun _ _ _ h => hFc _ h)
      generalize H1 = H at hP hS ⊢
      have vh_12 : (fun c2 I2 F2 => Fr [31, 32] [33] [195, 301] cn9 In9 Fn6 c2 I2 F2 ∧ CBX c2 ∧ (((cn9 31) ≤ c2 31 ∧ c2 31 ≤ c2 32 ∧ c2 32 ≤ (cn9 32)) ∧ ZS G (ad 4 1) N c2 I2 F2 (resB x_9 (sm1 bb N (smK bb N (k + 1)))))) cn12 In12 Fn12 := wh_12
      obtain ⟨hfc12, hIn12, h_12⟩ := vh_12
      have hf12 : Fr [31, 32] [33] [195, 301] cn In Fn cn12 In12 Fn12 := Fr.mo (Fr.tr hf9 hfc12) (sbl rfl) (sbl rfl) (sbl rfl)
      replace hIn12 : CBXh cn12 := hIn12
      have : cn12 6 = (cn9 6) := hfc12.1 6 (nml rfl)
      have hz_12 : ZS G (ad 4 1) N cn12 In12 Fn12 (resB x_9 (sm1 bb N (smK bb N (k + 1)))) := h_12.2
      obtain ⟨x_12, ex_12⟩ : ∃ y : ResT, y = resB x_9 (sm1 bb N (smK bb N (k + 1))) := ⟨_, rfl⟩
      rw [← ex_12] at hz_12
      have sl_12 : SL 1 x_12 := by rw [ex_12]; exact SL.rule (sm1_len (smK_len _)) sl_9
      refine lv_aload_n hx hb dX5_readPiece_85 rfl (lvA2 hl) ?_
      refine gf_RX5_20 S hK hP 3 xo_3 (v := .ref (ad 5 (ad 4 1))) rfl dX5_readPiece_86 ?_
      refine lv_iload_n hx hb dX5_readPiece_89 rfl (lvA0 hl) ?_
      refine lv_iconst (v := 0) hx hb dX5_readPiece_90 kic_0 ?_
      have hFc := free_all hD hS hA
      refine va_calli (runV_xa (As := [.int r_8, .int 0]) (rest := []) S (q_Zadd l D cI cB cZ zz qq vv bt g ad cn12 In12 Fn12 (ad 4 1) r_8 0 H.size hIn12 (by omega) (by rw [hf12.2.2 199 (nml rfl)]; exact h9)) kV_RX5_75 hK hXS hS hFc hP hD _ (xf_7 (show (ad 4 1) < (cn12 6) by omega)) rfl rfl ⟨(by show 0 + 1 ≤ d + 1; omega), (by show 8 + (3 + 11) + 40 * 0 ≤ 40 * (d + 1); omega)⟩ ⟨Nat.le_of_ble_eq_true rfl, Nat.le_of_ble_eq_true rfl⟩ rfl hl.1 rfl (Nat.le_of_ble_eq_true rfl) dX5_readPiece_91) hS (fun q _ h => hFc q h) hFc (fun r_14 u t H1 locs ht hvm wh_15 hB1 hz1 hk1 hS => ?_)
      obtain ⟨cn15, In15, Fn15⟩ := u
      obtain ⟨hP1, hD1⟩ := hB1
      rw [ht] at hP1
      have hP : va_P D vwCl (wX cI (D.1 99) zz g ad cn15 In15 Fn15) H1 := hP1
      have hD : va_D A (wX cI (D.1 99) zz g ad cn15 In15 Fn15) := hD1.weaken (fun _ _ _ h => hFc _ h)
      generalize H1 = H at hP hS ⊢
      have vh_15 : (fun r c2 I2 F2 => Fr [] [] [195, 301] cn12 In12 Fn12 c2 I2 F2 ∧ CBX c2 ∧ (addR (ad 4 1) r_8 0 Fn12 F2 ∧ r = ((Fn12 195)) (ad 4 1) ∧ KPT (ad 4 1) Fn12 F2)) r_14 cn15 In15 Fn15 := wh_15
      obtain ⟨hfc15, hIn15, h_15⟩ := vh_15
      obtain rfl : cn12 = cn15 := (funext (fun k => hfc15.1 k List.not_mem_nil)).symm
      obtain rfl : In12 = In15 := (funext (fun k => hfc15.2.1 k List.not_mem_nil)).symm
      have hf15 : Fr [31, 32] [33] [195, 301] cn In Fn cn12 In12 Fn15 := Fr.mo (Fr.tr hf12 hfc15) (sbl rfl) (sbl rfl) (sbl rfl)
      replace hIn15 : CBXh cn12 := hIn15
      have hq9 := hz_12
      rw [ex_12, ex_9, ex_6] at hq9
      have sq9 := sl_12
      rw [ex_12, ex_9, ex_6] at sq9
      have hz_15 : ZS G (ad 4 1) N cn12 In12 Fn15 (resB x (cmpK bb N (k + 1))) := ZS.cmp h_15.2.2 hN hq9 (fun z e => hrr z (by rw [ex_6]; exact e)) sq9 ((congrFun (hfc15.2.2 199 (nml rfl)) _).symm.trans ((congrFun (hf15.2.2 199 (nml rfl)) _).trans he9)) h_15.1 (hfc15.1 31 (nml rfl)) (hfc15.1 32 (nml rfl)) (hfc15.2.1 33 (nml rfl))
      obtain ⟨x_15, ex_15⟩ : ∃ y : ResT, y = resB x (cmpK bb N (k + 1)) := ⟨_, rfl⟩
      rw [← ex_15] at hz_15
      refine lv_pop hx hb dX5_readPiece_94 rfl ?_
      exact W.vret hx hb hr (fun t ht hW => ⟨⟨(cn12, In12, Fn15), rfl, ⟨(Fr.mo hf15 (sbl rfl) (sbl rfl) (sbl rfl)), hIn15, (by show (cn 31 ≤ cn12 31 ∧ cn12 31 ≤ cn12 32 ∧ cn12 32 ≤ cn 32) ∧ ZS G (ad 4 1) N cn12 In12 Fn15 (resB x (pcK bb N (k + 1))); exact ⟨by show cn 31 ≤ (cn12 31) ∧ (cn12 31) ≤ (cn12 32) ∧ (cn12 32) ≤ cn 32; omega, (by first | (exfalso; omega) | (subst ex_6 ex_9 ex_12 ex_15; cases x with | error e0 => exact hz_15 | ok z => (have e1 := ZS.pkx (b := bb) hz rfl; show ZS _ _ _ _ _ _ (pcK bb N (k + 1) z.1 z.2); unfold pcK; rw [if_neg (fun q => absurd (e1.symm.trans q) (by assumption)), if_neg (fun q => absurd (e1.symm.trans q) (by assumption))]; exact hz_15)))⟩)⟩, by rw [ht]; exact hP, hD⟩, hS.F ht⟩) hS.2.2 dX5_readPiece_95
    ·
      have tc_4 : ((pkS cn bb).toInt : Int) = 40 := congrArg Int32.toInt c_4
      refine lv_aload_n hx hb dX5_readPiece_46 rfl (lvA1 hl) ?_
      refine lv_iload_n hx hb dX5_readPiece_47 rfl (lvA2 hl) ?_
      have hFc := free_all hD hS hA
      refine va_calli (runV_xa (As := [.int o]) (rest := []) S (q_Zopens_y l D cI cB cZ zz qq vv bt g ad cn In Fn o s.heap.size hB (by omega) (by omega) (by omega) (by omega) (by omega) ho) kV_RX5_85 hK hXS hS hFc hP hD 3 xo_3 rfl rfl ⟨(by show 1 + 1 ≤ d + 1; omega), (by show 8 + (2 + 11) + 40 * 1 ≤ 40 * (d + 1); omega)⟩ ⟨Nat.le_of_ble_eq_true rfl, Nat.le_of_ble_eq_true rfl⟩ rfl hl.1 rfl (Nat.le_of_ble_eq_true rfl) dX5_readPiece_48) hS (fun q _ h => hFc q h) hFc (fun r_17 u t H1 locs ht hvm wh_18 hB1 hz1 hk1 hS => ?_)
      obtain ⟨cn18, In18, Fn18⟩ := u
      obtain ⟨hP1, hD1⟩ := hB1
      rw [ht] at hP1
      have hP : va_P D vwCl (wX cI (D.1 99) zz g ad cn18 In18 Fn18) H1 := hP1
      have hD : va_D A (wX cI (D.1 99) zz g ad cn18 In18 Fn18) := hD1.weaken (fun _ _ _ h => hFc _ h)
      generalize H1 = H at hP hS ⊢
      have vh_18 : (fun r c2 I2 F2 => Fr [31, 32] [33] [] cn In Fn c2 I2 F2 ∧ CBX c2 ∧ ((((cn 31) ≤ c2 31 ∧ c2 31 ≤ c2 32 ∧ c2 32 ≤ (cn 32)) ∧ c2 31 = (cn 31) + 1 ∧ c2 32 = (cn 32) ∧ I2 33 = (In 33)) ∧ r = 1)) r_17 cn18 In18 Fn18 := wh_18
      obtain ⟨hfc18, hIn18, h_18⟩ := vh_18
      obtain rfl : Fn = Fn18 := (funext (fun k => hfc18.2.2 k List.not_mem_nil)).symm
      have hf18 : Fr [31, 32] [33] [195, 301] cn In Fn cn18 In18 Fn := Fr.mo (Fr.tr (Fr.rf (cn := cn) (In := In) (Fn := Fn)) hfc18) (sbl rfl) (sbl rfl) (sbl rfl)
      replace hIn18 : CBXh cn18 := hIn18
      have : cn18 6 = (cn 6) := hfc18.1 6 (nml rfl)
      obtain ⟨h_18, rfl⟩ := h_18
      have hz_18 : ZS G (ad 4 1) N cn18 In18 Fn (resB x fInc) := ZS.incx hz (by omega) h_18.2.1 h_18.2.2.1 h_18.2.2.2
      obtain ⟨x_18, ex_18⟩ : ∃ y : ResT, y = resB x fInc := ⟨_, rfl⟩
      rw [← ex_18] at hz_18
      have sl_18 : SL 1 x_18 := by rw [ex_18]; exact SL.inc sl
      refine lv_if_eq (tgt := 95) hx hb dX5_readPiece_51 rfl (fun h => absurd h cq_eq_1_0) (fun _ => ?_)
      refine lv_aload_n hx hb (oc_42 54 (aq_3 shX5_readPiece_51)) rfl (lvA1 hl) ?_
      refine lv_iload_n hx hb (oc_27 55 (aq_4 shX5_readPiece_51)) rfl (lvA2 hl) ?_
      refine lv_iconst (v := 1) hx hb (oc_4 56 (aq_5 shX5_readPiece_51)) kic_1 ?_
      refine lv_iadd hx hb (oc_96 57 (aq_6 shX5_readPiece_51)) ?_
      have hFc := free_all hD hS hA
      refine va_callv (runV_xa (As := [.int (o + 1)]) (rest := []) S (hC9 ad cn18 In18 Fn G bb N x_18 H.size hIn18 (by omega) (by omega) (by omega) (by omega) (by rw [hf18.2.2 199 (nml rfl)]; exact h9) ((congrFun (hf18.2.2 199 (nml rfl)) _).trans he9) hN ((hf18.2.2 40 (nml rfl)).trans heb) hby hz_18) kV_RX5_66 hK hXS hS hFc hP hD 3 xo_3 rfl rfl ⟨(by show df + 1 ≤ d + 1; omega), (by show 8 + (3 + 11) + 40 * df ≤ 40 * (d + 1); omega)⟩ ⟨Nat.le_of_ble_eq_true rfl, Nat.le_of_ble_eq_true rfl⟩ rfl hl.1 rfl (Nat.le_of_ble_eq_true rfl) (oc_182 58 (aq_7 shX5_readPiece_51) uw_0_66)) hS (fun q _ h => hFc q h) hFc (fun u t H1 locs ht hvm wh_21 hB1 hz1 hk1 hS => ?_)
      obtain ⟨cn21, In21, Fn21⟩ := u
      obtain ⟨hP1, hD1⟩ := hB1
      rw [ht] at hP1
      have hP : va_P D vwCl (wX cI (D.1 99) zz g ad cn21 In21 Fn21) H1 := hP1
      have hD : va_D A (wX cI (D.1 99) zz g ad cn21 In21 Fn21) := hD1.weaken (fun _ _ _ h => hFc _ h)
      generalize H1 = H at hP hS ⊢
      have vh_21 : (fun c2 I2 F2 => Fr [31, 32] [33] [195, 301] cn18 In18 Fn c2 I2 F2 ∧ CBX c2 ∧ (((cn18 31) ≤ c2 31 ∧ c2 31 ≤ c2 32 ∧ c2 32 ≤ (cn18 32)) ∧ ZS G (ad 4 1) N c2 I2 F2 (resB x_18 (cdK bb N (pcK bb N k))))) cn21 In21 Fn21 := wh_21
      obtain ⟨hfc21, hIn21, h_21⟩ := vh_21
      have hf21 : Fr [31, 32] [33] [195, 301] cn In Fn cn21 In21 Fn21 := Fr.mo (Fr.tr hf18 hfc21) (sbl rfl) (sbl rfl) (sbl rfl)
      replace hIn21 : CBXh cn21 := hIn21
      have : cn21 6 = (cn18 6) := hfc21.1 6 (nml rfl)
      have hz_21 : ZS G (ad 4 1) N cn21 In21 Fn21 (resB x_18 (cdK bb N (pcK bb N k))) := h_21.2
      obtain ⟨x_21, ex_21⟩ : ∃ y : ResT, y = resB x_18 (cdK bb N (pcK bb N k)) := ⟨_, rfl⟩
      rw [← ex_21] at hz_21
      have sl_21 : SL 1 x_21 := by rw [ex_21]; exact SL.rule (cdK_len (pcK_len _)) sl_18
      refine lv_aload_n hx hb (oc_42 61 (aq_10 shX5_readPiece_51)) rfl (lvA1 hl) ?_
      refine lv_bipush (v := 41) hx hb (oc_16 62 (aq_11 shX5_readPiece_51) sgb_41) kbc_41 ?_
      have hFc := free_all hD hS hA
      refine va_callv (runV_xa (As := [.int 41]) (rest := []) S (q_Ztake l D cI cB cZ zz qq vv bt g ad cn21 In21 Fn21 41 H.size hIn21 (by omega) (by omega) (by omega) (by omega) (by decide)) kV_RX5_62 hK hXS hS hFc hP hD 3 xo_3 rfl rfl ⟨(by show 1 + 1 ≤ d + 1; omega), (by show 8 + (2 + 11) + 40 * 1 ≤ 40 * (d + 1); omega)⟩ ⟨Nat.le_of_ble_eq_true rfl, Nat.le_of_ble_eq_true rfl⟩ rfl hl.1 rfl (Nat.le_of_ble_eq_true rfl) (oc_182 64 (aq_13 shX5_readPiece_51) uw_0_62)) hS (fun q _ h => hFc q h) hFc (fun u t H1 locs ht hvm wh_24 hB1 hz1 hk1 hS => ?_)
      obtain ⟨cn24, In24, Fn24⟩ := u
      obtain ⟨hP1, hD1⟩ := hB1
      rw [ht] at hP1
      have hP : va_P D vwCl (wX cI (D.1 99) zz g ad cn24 In24 Fn24) H1 := hP1
      have hD : va_D A (wX cI (D.1 99) zz g ad cn24 In24 Fn24) := hD1.weaken (fun _ _ _ h => hFc _ h)
      generalize H1 = H at hP hS ⊢
      have vh_24 : (fun c2 I2 F2 => Fr [31, 32] [33] [] cn21 In21 Fn21 c2 I2 F2 ∧ CBX c2 ∧ (((cn21 31) ≤ c2 31 ∧ c2 31 ≤ c2 32 ∧ c2 32 ≤ (cn21 32)) ∧ TKR 41 ((Fn21 40)) cn21 In21 c2 I2)) cn24 In24 Fn24 := wh_24
      obtain ⟨hfc24, hIn24, h_24⟩ := vh_24
      obtain rfl : Fn21 = Fn24 := (funext (fun k => hfc24.2.2 k List.not_mem_nil)).symm
      have hf24 : Fr [31, 32] [33] [195, 301] cn In Fn cn24 In24 Fn21 := Fr.mo (Fr.tr hf21 hfc24) (sbl rfl) (sbl rfl) (sbl rfl)
      replace hIn24 : CBXh cn24 := hIn24
      have : cn24 6 = (cn21 6) := hfc24.1 6 (nml rfl)
      rw [((hf24.2.2 40 (nml rfl)).trans heb)] at h_24
      have hz_24 : ZS G (ad 4 1) N cn24 In24 Fn21 (resB x_21 (fTk bb N 41)) := ZS.tk (by decide) hN hz_21 h_24.2
      obtain ⟨x_24, ex_24⟩ : ∃ y : ResT, y = resB x_21 (fTk bb N 41) := ⟨_, rfl⟩
      rw [← ex_24] at hz_24
      refine lv_goto (tgt := 95) hx hb (oc_167 67 (aq_16 shX5_readPiece_51) sgw_0_28) rfl ?_
      exact W.vret hx hb hr (fun t ht hW => ⟨⟨(cn24, In24, Fn21), rfl, ⟨(Fr.mo hf24 (sbl rfl) (sbl rfl) (sbl rfl)), hIn24, (by show (cn 31 ≤ cn24 31 ∧ cn24 31 ≤ cn24 32 ∧ cn24 32 ≤ cn 32) ∧ ZS G (ad 4 1) N cn24 In24 Fn21 (resB x (pcK bb N (k + 1))); exact ⟨by show cn 31 ≤ (cn24 31) ∧ (cn24 31) ≤ (cn24 32) ∧ (cn24 32) ≤ cn 32; omega, (by first | (exfalso; omega) | (subst ex_18 ex_21 ex_24; cases x with | error e0 => exact hz_24 | ok z => (have e1 := ZS.pkx (b := bb) hz rfl; show ZS _ _ _ _ _ _ (pcK bb N (k + 1) z.1 z.2); unfold pcK; rw [if_neg (fun q => absurd (e1.symm.trans q) (by assumption)), if_pos (e1.trans (show pkS cn bb = 40 by assumption))]; exact hz_24)))⟩)⟩, by rw [ht]; exact hP, hD⟩, hS.F ht⟩) hS.2.2 dX5_readPiece_95
  ·
    have tc_3 : ((pkS cn bb).toInt : Int) = 33 := congrArg Int32.toInt c_3
    refine lv_aload_n hx hb dX5_readPiece_11 rfl (lvA1 hl) ?_
    refine lv_iload_n hx hb dX5_readPiece_12 rfl (lvA2 hl) ?_
    have hFc := free_all hD hS hA
    refine va_calli (runV_xa (As := [.int o]) (rest := []) S (q_Zopens_y l D cI cB cZ zz qq vv bt g ad cn In Fn o s.heap.size hB (by omega) (by omega) (by omega) (by omega) (by omega) ho) kV_RX5_85 hK hXS hS hFc hP hD 3 xo_3 rfl rfl ⟨(by show 1 + 1 ≤ d + 1; omega), (by show 8 + (2 + 11) + 40 * 1 ≤ 40 * (d + 1); omega)⟩ ⟨Nat.le_of_ble_eq_true rfl, Nat.le_of_ble_eq_true rfl⟩ rfl hl.1 rfl (Nat.le_of_ble_eq_true rfl) dX5_readPiece_13) hS (fun q _ h => hFc q h) hFc (fun r_26 u t H1 locs ht hvm wh_27 hB1 hz1 hk1 hS => ?_)
    obtain ⟨cn27, In27, Fn27⟩ := u
    obtain ⟨hP1, hD1⟩ := hB1
    rw [ht] at hP1
    have hP : va_P D vwCl (wX cI (D.1 99) zz g ad cn27 In27 Fn27) H1 := hP1
    have hD : va_D A (wX cI (D.1 99) zz g ad cn27 In27 Fn27) := hD1.weaken (fun _ _ _ h => hFc _ h)
    generalize H1 = H at hP hS ⊢
    have vh_27 : (fun r c2 I2 F2 => Fr [31, 32] [33] [] cn In Fn c2 I2 F2 ∧ CBX c2 ∧ ((((cn 31) ≤ c2 31 ∧ c2 31 ≤ c2 32 ∧ c2 32 ≤ (cn 32)) ∧ c2 31 = (cn 31) + 1 ∧ c2 32 = (cn 32) ∧ I2 33 = (In 33)) ∧ r = 1)) r_26 cn27 In27 Fn27 := wh_27
    obtain ⟨hfc27, hIn27, h_27⟩ := vh_27
    obtain rfl : Fn = Fn27 := (funext (fun k => hfc27.2.2 k List.not_mem_nil)).symm
    have hf27 : Fr [31, 32] [33] [195, 301] cn In Fn cn27 In27 Fn := Fr.mo (Fr.tr (Fr.rf (cn := cn) (In := In) (Fn := Fn)) hfc27) (sbl rfl) (sbl rfl) (sbl rfl)
    replace hIn27 : CBXh cn27 := hIn27
    have : cn27 6 = (cn 6) := hfc27.1 6 (nml rfl)
    obtain ⟨h_27, rfl⟩ := h_27
    have hz_27 : ZS G (ad 4 1) N cn27 In27 Fn (resB x fInc) := ZS.incx hz (by omega) h_27.2.1 h_27.2.2.1 h_27.2.2.2
    obtain ⟨x_27, ex_27⟩ : ∃ y : ResT, y = resB x fInc := ⟨_, rfl⟩
    rw [← ex_27] at hz_27
    have sl_27 : SL 1 x_27 := by rw [ex_27]; exact SL.inc sl
    refine lv_if_eq (tgt := 95) hx hb dX5_readPiece_16 rfl (fun h => absurd h cq_eq_1_0) (fun _ => ?_)
    refine lv_aload_n hx hb (oc_42 19 (aq_19 shX5_readPiece_0)) rfl (lvA1 hl) ?_
    refine lv_iload_n hx hb (oc_27 20 (aq_20 shX5_readPiece_0)) rfl (lvA2 hl) ?_
    refine lv_iconst (v := 1) hx hb (oc_4 21 (aq_21 shX5_readPiece_0)) kic_1 ?_
    refine lv_iadd hx hb (oc_96 22 (aq_22 shX5_readPiece_0)) ?_
    have hFc := free_all hD hS hA
    refine va_callv (runV_xa (As := [.int (o + 1)]) (rest := []) S (hP9 ad cn27 In27 Fn G bb N x_27 H.size hIn27 (by omega) (by omega) (by omega) (by omega) (by rw [hf27.2.2 199 (nml rfl)]; exact h9) ((congrFun (hf27.2.2 199 (nml rfl)) _).trans he9) hN ((hf27.2.2 40 (nml rfl)).trans heb) hby hz_27) kV_RX5_82 hK hXS hS hFc hP hD 3 xo_3 rfl rfl ⟨(by show de + 1 ≤ d + 1; omega), (by show 8 + (4 + 11) + 40 * de ≤ 40 * (d + 1); omega)⟩ ⟨Nat.le_of_ble_eq_true rfl, Nat.le_of_ble_eq_true rfl⟩ rfl hl.1 rfl (Nat.le_of_ble_eq_true rfl) (oc_182 23 (aq_23 shX5_readPiece_0) uw_0_82)) hS (fun q _ h => hFc q h) hFc (fun u t H1 locs ht hvm wh_30 hB1 hz1 hk1 hS => ?_)
    obtain ⟨cn30, In30, Fn30⟩ := u
    obtain ⟨hP1, hD1⟩ := hB1
    rw [ht] at hP1
    have hP : va_P D vwCl (wX cI (D.1 99) zz g ad cn30 In30 Fn30) H1 := hP1
    have hD : va_D A (wX cI (D.1 99) zz g ad cn30 In30 Fn30) := hD1.weaken (fun _ _ _ h => hFc _ h)
    generalize H1 = H at hP hS ⊢
    have vh_30 : (fun c2 I2 F2 => Fr [31, 32] [33] [195, 301] cn27 In27 Fn c2 I2 F2 ∧ CBX c2 ∧ (((cn27 31) ≤ c2 31 ∧ c2 31 ≤ c2 32 ∧ c2 32 ≤ (cn27 32)) ∧ ZS G (ad 4 1) N c2 I2 F2 (resB x_27 (pcK bb N k)))) cn30 In30 Fn30 := wh_30
    obtain ⟨hfc30, hIn30, h_30⟩ := vh_30
    have hf30 : Fr [31, 32] [33] [195, 301] cn In Fn cn30 In30 Fn30 := Fr.mo (Fr.tr hf27 hfc30) (sbl rfl) (sbl rfl) (sbl rfl)
    replace hIn30 : CBXh cn30 := hIn30
    have : cn30 6 = (cn27 6) := hfc30.1 6 (nml rfl)
    have hz_30 : ZS G (ad 4 1) N cn30 In30 Fn30 (resB x_27 (pcK bb N k)) := h_30.2
    obtain ⟨x_30, ex_30⟩ : ∃ y : ResT, y = resB x_27 (pcK bb N k) := ⟨_, rfl⟩
    rw [← ex_30] at hz_30
    have sl_30 : SL 1 x_30 := by rw [ex_30]; exact SL.rule (pcK_len _) sl_27
    refine lv_aload_n hx hb (oc_42 26 shX5_readPiece_26) rfl (lvA1 hl) ?_
    refine gf_RX5_20 S hK hP 3 xo_3 (v := .ref (ad 5 (ad 4 1))) rfl (oc_180 27 (aq_1 shX5_readPiece_26) uw_0_20) ?_
    refine lv_bipush (v := 11) hx hb (oc_16 30 (aq_4 shX5_readPiece_26) sgb_11) kbc_11 ?_
    refine lv_iconst (v := 0) hx hb (oc_3 32 (aq_6 shX5_readPiece_26)) kic_0 ?_
    have hFc := free_all hD hS hA
    refine va_calli (runV_xa (As := [.int 11, .int 0]) (rest := []) S (q_Zadd l D cI cB cZ zz qq vv bt g ad cn30 In30 Fn30 (ad 4 1) 11 0 H.size hIn30 (by omega) (by rw [hf30.2.2 199 (nml rfl)]; exact h9)) kV_RX5_75 hK hXS hS hFc hP hD _ (xf_7 (show (ad 4 1) < (cn30 6) by omega)) rfl rfl ⟨(by show 0 + 1 ≤ d + 1; omega), (by show 8 + (3 + 11) + 40 * 0 ≤ 40 * (d + 1); omega)⟩ ⟨Nat.le_of_ble_eq_true rfl, Nat.le_of_ble_eq_true rfl⟩ rfl hl.1 rfl (Nat.le_of_ble_eq_true rfl) (oc_182 33 (aq_7 shX5_readPiece_26) uw_0_75)) hS (fun q _ h => hFc q h) hFc (fun r_32 u t H1 locs ht hvm wh_33 hB1 hz1 hk1 hS => ?_)
    obtain ⟨cn33, In33, Fn33⟩ := u
    obtain ⟨hP1, hD1⟩ := hB1
    rw [ht] at hP1
    have hP : va_P D vwCl (wX cI (D.1 99) zz g ad cn33 In33 Fn33) H1 := hP1
    have hD : va_D A (wX cI (D.1 99) zz g ad cn33 In33 Fn33) := hD1.weaken (fun _ _ _ h => hFc _ h)
    generalize H1 = H at hP hS ⊢
    have vh_33 : (fun r c2 I2 F2 => Fr [] [] [195, 301] cn30 In30 Fn30 c2 I2 F2 ∧ CBX c2 ∧ (addR (ad 4 1) 11 0 Fn30 F2 ∧ r = ((Fn30 195)) (ad 4 1) ∧ KPT (ad 4 1) Fn30 F2)) r_32 cn33 In33 Fn33 := wh_33
    obtain ⟨hfc33, hIn33, h_33⟩ := vh_33
    obtain rfl : cn30 = cn33 := (funext (fun k => hfc33.1 k List.not_mem_nil)).symm
    obtain rfl : In30 = In33 := (funext (fun k => hfc33.2.1 k List.not_mem_nil)).symm
    have hf33 : Fr [31, 32] [33] [195, 301] cn In Fn cn30 In30 Fn33 := Fr.mo (Fr.tr hf30 hfc33) (sbl rfl) (sbl rfl) (sbl rfl)
    replace hIn33 : CBXh cn30 := hIn33
    have hj_33 := ZS.addj hz_30 h_33.2.1
    have hz_33 : ZS G (ad 4 1) N cn30 In30 Fn33 (resB x_30 (fAdd 11 0)) := ZS.addx h_33.2.2 hz_30 sl_30 hN ((congrFun (hfc33.2.2 199 (nml rfl)) _).symm.trans ((congrFun (hf33.2.2 199 (nml rfl)) _).trans he9)) ⟨(by decide), by decide⟩ ⟨(by decide), by omega⟩ h_33.1 (hfc33.1 31 (nml rfl)) (hfc33.1 32 (nml rfl)) (hfc33.2.1 33 (nml rfl))
    obtain ⟨x_33, ex_33⟩ : ∃ y : ResT, y = resB x_30 (fAdd 11 0) := ⟨_, rfl⟩
    rw [← ex_33] at hz_33
    have sl_33 : SL 0 x_33 := by rw [ex_33]; exact SL.add sl_30
    refine lv_pop hx hb (oc_87 36 (aq_10 shX5_readPiece_26)) rfl ?_
    refine lv_goto (tgt := 95) hx hb (oc_167 37 (aq_11 shX5_readPiece_26) sgw_0_58) rfl ?_
    exact W.vret hx hb hr (fun t ht hW => ⟨⟨(cn30, In30, Fn33), rfl, ⟨(Fr.mo hf33 (sbl rfl) (sbl rfl) (sbl rfl)), hIn33, (by show (cn 31 ≤ cn30 31 ∧ cn30 31 ≤ cn30 32 ∧ cn30 32 ≤ cn 32) ∧ ZS G (ad 4 1) N cn30 In30 Fn33 (resB x (pcK bb N (k + 1))); exact ⟨by show cn 31 ≤ (cn30 31) ∧ (cn30 31) ≤ (cn30 32) ∧ (cn30 32) ≤ cn 32; omega, (by first | (exfalso; omega) | (subst ex_27 ex_30 ex_33; cases x with | error e0 => exact hz_33 | ok z => (have e1 := ZS.pkx (b := bb) hz rfl; show ZS _ _ _ _ _ _ (pcK bb N (k + 1) z.1 z.2); unfold pcK; rw [if_pos (e1.trans (show pkS cn bb = 33 by assumption))]; exact hz_33)))⟩)⟩, by rw [ht]; exact hP, hD⟩, hS.F ht⟩) hS.2.2 dX5_readPiece_95
set_option maxRecDepth 100000 in
set_option maxHeartbeats 4000000 in
theorem gq_ZreadPart (l : Launch) (D : va_G) (cI cB cZ : ClassId) (zz qq vv : Nat) (bt : Nat → Int32) (g : Nat → Nat) (o : Int32) (d k : Nat) (hd : 4 ≤ d ∧ d ≤ 60) (hSq : RDZ yX5_readPiece cX5_readPiece 4 l D cI cB cZ zz qq vv bt g o d (fun bb N => pcK bb N k)) : RDZ yX5_readPart cX5_readPart 3 l D cI cB cZ zz qq vv bt g o (d + 1) (fun bb N => ptK bb N (pcK bb N k)) := by
  intro ad cn In Fn G bb N x sz hB hR h1 h3 h4 h9 he9 hN heb hby hz
  refine Met.ofW (cc := cX5_readPart) (maxL := 3) (ret := none) (by decide) rfl ?_
  intro p e s m args below meth c s₁ B hml hv
  obtain ⟨rfl, hsz, hP, hK, hD0, hXS⟩ := hv
  have hx := B.exec
  have hb := B.bytes
  have hr := B.returns
  have hts := atoms_spec (ws := (CWS yX5_readPart cX5_readPart 3 none)) B.pre
  have hown : s.vm.findClass RX5 = some m.cls := findClass_of_methodNamed B.named
  have hlocks := B.notSynchronized
  have S : SF p m c cX5_readPart 3 s ([.ref (g 6), .int o]).toArray RX5 := ⟨hx, hb, hml, hown, fun w h => hts w (List.mem_cons_of_mem _ h)⟩
  subst hsz
  have hD := hD0.self (sz := s.heap.size)
  generalize hAe : va_A (wX cI (D.1 99) zz g ad cn In Fn) s.heap.size = A at hD hXS ⊢
  have hA : ∀ q : Nat, s.heap.size ≤ q → A q := fun q h => by rw [← hAe]; exact Or.inr h
  have hS : va_S A s.heap s.heap [] := va_S.rf
  have hl := lv_entry ([.ref (g 6), .int o]) (n := 3) (Nat.le_of_ble_eq_true rfl)
  rw [lg_entry_eq]
  generalize (lg_sl ([.ref (g 6), .int o]) ++ List.replicate (3 - (lg_sl ([.ref (g 6), .int o])).length) Slot.unset).toArray = ls at hl ⊢
  have hl : lv_has ls 3 [(0, .ref (g 6)), (1, .int o)] := hl
  replace hB : CBXh cn := hB
  have sl := ZS.sl hz
  refine lv_aload_n hx hb (oc_42 0 shX5_readPart_0) rfl (lvA0 hl) ?_
  refine lv_iload_n hx hb (oc_27 1 (aq_1 shX5_readPart_0)) rfl (lvA1 hl) ?_
  have hFc := free_all hD hS hA
  refine va_callv (runV_xa (As := [.int o]) (rest := []) S (hSq ad cn In Fn G bb N x s.heap.size hB (by omega) (by omega) (by omega) (by omega) h9 he9 hN heb hby hz) kV_RX5_82 hK hXS hS hFc hP hD 3 xo_3 rfl rfl ⟨(by show d + 1 ≤ d + 1; omega), (by show 8 + (4 + 11) + 40 * d ≤ 40 * (d + 1); omega)⟩ ⟨Nat.le_of_ble_eq_true rfl, Nat.le_of_ble_eq_true rfl⟩ rfl hl.1 rfl (Nat.le_of_ble_eq_true rfl) (oc_182 2 (aq_2 shX5_readPart_0) uw_0_82)) hS (fun q _ h => hFc q h) hFc (fun u t H1 locs ht hvm wh_2 hB1 hz1 hk1 hS => ?_)
  obtain ⟨cn2, In2, Fn2⟩ := u
  obtain ⟨hP1, hD1⟩ := hB1
  rw [ht] at hP1
  have hP : va_P D vwCl (wX cI (D.1 99) zz g ad cn2 In2 Fn2) H1 := hP1
  have hD : va_D A (wX cI (D.1 99) zz g ad cn2 In2 Fn2) := hD1.weaken (fun _ _ _ h => hFc _ h)
  generalize H1 = H at hP hS ⊢
  have vh_2 : (fun c2 I2 F2 => Fr [31, 32] [33] [195, 301] cn In Fn c2 I2 F2 ∧ CBX c2 ∧ (((cn 31) ≤ c2 31 ∧ c2 31 ≤ c2 32 ∧ c2 32 ≤ (cn 32)) ∧ ZS G (ad 4 1) N c2 I2 F2 (resB x (pcK bb N k)))) cn2 In2 Fn2 := wh_2
  obtain ⟨hfc2, hIn2, h_2⟩ := vh_2
  have hf2 : Fr [31, 32] [33] [195, 301] cn In Fn cn2 In2 Fn2 := Fr.mo (Fr.tr (Fr.rf (cn := cn) (In := In) (Fn := Fn)) hfc2) (sbl rfl) (sbl rfl) (sbl rfl)
  replace hIn2 : CBXh cn2 := hIn2
  have : cn2 6 = (cn 6) := hfc2.1 6 (nml rfl)
  have hz_2 : ZS G (ad 4 1) N cn2 In2 Fn2 (resB x (pcK bb N k)) := h_2.2
  obtain ⟨x_2, ex_2⟩ : ∃ y : ResT, y = resB x (pcK bb N k) := ⟨_, rfl⟩
  rw [← ex_2] at hz_2
  have sl_2 : SL 0 x_2 := by rw [ex_2]; exact SL.rule (pcK_len _) sl
  have lp_5 : ∀ (n : Nat)  (c5 : Nat → Nat) (I5 : Nat → Int32) (F5 : Nat → Nat → Int32) (H : Heap) (locs : List Loc) , c5 32 - c5 31 < n → (Fr [31, 32] [33] [195, 301] cn In Fn c5 I5 F5 ∧ CBX c5 ∧ (cn 31 ≤ c5 31 ∧ c5 31 ≤ c5 32 ∧ c5 32 ≤ cn 32) ∧ (∃ y : ResT, ZS G (ad 4 1) N c5 I5 F5 y ∧ resB x (ptK bb N (pcK bb N k)) = resB y (ptL bb N (pcK bb N k) (N + 1)))) → va_P D vwCl (wX cI (D.1 99) zz g ad c5 I5 F5) H → va_D A (wX cI (D.1 99) zz g ad c5 I5 F5) → va_S A s.heap H locs → ∀ ls : Array Slot, lv_has ls 3 [(0, .ref (g 6)), (1, .int o)] → W p l e (RM (d + 1) 0 0) s m ([.ref (g 6), .int o]).toArray below meth c H locs 0 0 (MQ below (va_Qv (fun (u : (Nat → Nat) × (Nat → Int32) × (Nat → Nat → Int32)) => (fun c2 I2 F2 => Fr [31, 32] [33] [195, 301] cn In Fn c2 I2 F2 ∧ CBX c2 ∧ ((cn 31 ≤ c2 31 ∧ c2 31 ≤ c2 32 ∧ c2 32 ≤ cn 32) ∧ ZS G (ad 4 1) N c2 I2 F2 (resB x (ptK bb N (pcK bb N k))))) u.1 u.2.1 u.2.2) (fun (u : (Nat → Nat) × (Nat → Int32) × (Nat → Nat → Int32)) (t : State) => va_P D vwCl (wX cI (D.1 99) zz g ad u.1 u.2.1 u.2.2) t.heap ∧ va_D A (wX cI (D.1 99) zz g ad u.1 u.2.1 u.2.2)) A) ([.ref (g 6), .int o]).toArray s 0 0 A) (F0 m 5 ls []) := by
    intro n5
    induction n5 with
    | zero => intros; omega
    | succ n5 ih5 =>
      intro  c5 I5 F5 H locs hmu5 hinv5 hP hD hS ls hl
      obtain ⟨hfr5, hI5, hx5_0, hx5_1⟩ := hinv5
      replace hI5 : CBXh c5 := hI5
      have : c5 6 = cn 6 := hfr5.1 6 (nml rfl)
      obtain ⟨x_5, hz_5, e_5⟩ := hx5_1
      have sl_5 := ZS.sl hz_5
      refine lv_aload_n hx hb (oc_42 5 (aq_5 shX5_readPart_0)) rfl (lvA0 hl) ?_
      refine gf_RX5_31 S hK hP 3 xo_3 (v := .int (nI (c5 31))) rfl (oc_180 6 (aq_6 shX5_readPart_0) uw_0_31) ?_
      refine lv_aload_n hx hb (oc_42 9 (aq_9 shX5_readPart_0)) rfl (lvA0 hl) ?_
      refine gf_RX5_34 S hK hP 3 xo_3 (v := .int (nI (c5 32))) rfl (oc_180 10 (aq_10 shX5_readPart_0) uw_0_34) ?_
      have : (nI (c5 31)).toInt = (((c5 31) : Nat) : Int) := nI_toInt (by omega)
      have : (nI (c5 32)).toInt = (((c5 32) : Nat) : Int) := nI_toInt (by omega)
      refine lv_icmp_ge (tgt := 62) hx hb (oc_162 13 (aq_13 shX5_readPart_0) sgw_0_49) rfl (fun c_4 => ?_) (fun c_4 => ?_)
      ·
        have tc_4 : ((nI (c5 32)).toInt : Int) ≤ (nI (c5 31)).toInt := Int32.le_iff_toInt_le.mp c_4
        exact W.vret hx hb hr (fun t ht hW => ⟨⟨(c5, I5, F5), rfl, ⟨(Fr.mo hfr5 (sbl rfl) (sbl rfl) (sbl rfl)), hI5, (by show (cn 31 ≤ c5 31 ∧ c5 31 ≤ c5 32 ∧ c5 32 ≤ cn 32) ∧ ZS G (ad 4 1) N c5 I5 F5 (resB x (ptK bb N (pcK bb N k))); exact ⟨by show cn 31 ≤ (c5 31) ∧ (c5 31) ≤ (c5 32) ∧ (c5 32) ≤ cn 32; omega, (by show ZS _ _ _ _ _ _ (resB x (ptK bb N (pcK bb N k))); rw [e_5, pt_end (fun z e => (by first | (rw [ZS.endx (b := bb) hz_5 (by omega) e]; decide) | (rw [ZS.pkx (b := bb) hz_5 e]; assumption)))]; exact hz_5)⟩)⟩, by rw [ht]; exact hP, hD⟩, hS.F ht⟩) hS.2.2 dX5_readPart_62
      ·
        have tc_4 : ((nI (c5 31)).toInt : Int) < (nI (c5 32)).toInt := Int32.lt_iff_toInt_lt.mp (Int32.not_le.mp c_4)
        refine lv_aload_n hx hb (oc_42 16 (aq_16 shX5_readPart_0)) rfl (lvA0 hl) ?_
        refine vp_callSi (runV_rxa (As := []) (rest := []) S (q_Rpeek l D cI cB cZ zz qq vv bt g ad c5 I5 F5  hI5 (by omega) (by omega) (by omega) (by omega)) kV_RX5_43 hK hXS hS hP 3 xo_3 rfl rfl ⟨(by show 0 + 1 ≤ d + 1; omega), (by show 8 + (1 + 11) + 40 * 0 ≤ 40 * (d + 1); omega)⟩ ⟨Nat.le_of_ble_eq_true rfl, Nat.le_of_ble_eq_true rfl⟩ rfl hl.1 rfl (Nat.le_of_ble_eq_true rfl) (oc_182 17 (aq_17 shX5_readPart_0) uw_0_43)) (fun r_5 h_6 => ?_)
        rw [((hfr5.2.2 40 (nml rfl)).trans heb)] at h_6
        obtain rfl : r_5 = pkS c5 bb := pkS_of h_6
        refine lv_bipush (v := 38) hx hb (oc_16 20 (aq_20 shX5_readPart_0) sgb_38) kbc_38 ?_
        refine lv_icmp_ne (tgt := 62) hx hb (oc_160 22 (aq_22 shX5_readPart_0) sgw_0_40) rfl (fun c_7 => ?_) (fun c_7 => ?_)
        ·
          have tc_7 : ((pkS c5 bb).toInt : Int) ≠ 38 := fun q => c_7 (Int32.toInt_inj.mp q)
          exact W.vret hx hb hr (fun t ht hW => ⟨⟨(c5, I5, F5), rfl, ⟨(Fr.mo hfr5 (sbl rfl) (sbl rfl) (sbl rfl)), hI5, (by show (cn 31 ≤ c5 31 ∧ c5 31 ≤ c5 32 ∧ c5 32 ≤ cn 32) ∧ ZS G (ad 4 1) N c5 I5 F5 (resB x (ptK bb N (pcK bb N k))); exact ⟨by show cn 31 ≤ (c5 31) ∧ (c5 31) ≤ (c5 32) ∧ (c5 32) ≤ cn 32; omega, (by show ZS _ _ _ _ _ _ (resB x (ptK bb N (pcK bb N k))); rw [e_5, pt_end (fun z e => (by first | (rw [ZS.endx (b := bb) hz_5 (by omega) e]; decide) | (rw [ZS.pkx (b := bb) hz_5 e]; assumption)))]; exact hz_5)⟩)⟩, by rw [ht]; exact hP, hD⟩, hS.F ht⟩) hS.2.2 dX5_readPart_62
        ·
          have tc_7 : ((pkS c5 bb).toInt : Int) = 38 := congrArg Int32.toInt c_7
          refine lv_aload_n hx hb (oc_42 25 shX5_readPart_25) rfl (lvA0 hl) ?_
          refine lv_dup hx hb (oc_89 26 (aq_1 shX5_readPart_25)) rfl ?_
          refine gf_RX5_31 S hK hP 3 xo_3 (v := .int (nI (c5 31))) rfl (oc_180 27 (aq_2 shX5_readPart_25) uw_0_31) ?_
          refine lv_iconst (v := 1) hx hb (oc_4 30 (aq_5 shX5_readPart_25)) kic_1 ?_
          refine lv_iadd hx hb (oc_96 31 (aq_6 shX5_readPart_25)) ?_
          refine lv_topi (fun y_8 ey_8 => ?_)
          obtain rfl : y_8 = (nI ((c5 31) + 1)) := ey_8.trans (nI_add (c5 31) 1)
          refine pf_RX5_31 S hK hP hD hS 3 xo_3 (v := .int (nI ((c5 31) + 1))) (Nat.le_of_ble_eq_true rfl) rfl rfl (oc_181 32 (aq_7 shX5_readPart_25) uw_0_31) (fun H locs hP hD hS => ?_)
          have hP : va_P D vwCl (wX cI (D.1 99) zz g ad (va_up c5 31 ((c5 31) + 1)) I5 F5) H := va_P_eq (xsf_3_3) hP
          have hD : va_D A (wX cI (D.1 99) zz g ad (va_up c5 31 ((c5 31) + 1)) I5 F5) := va_D_eq (xsf_3_3) hD
          have hz_8 : ZS G (ad 4 1) N (va_up c5 31 ((c5 31) + 1)) I5 F5 (resB x_5 fInc) := ZS.incx hz_5 (by omega) rfl rfl rfl
          obtain ⟨x_8, ex_8⟩ : ∃ y : ResT, y = resB x_5 fInc := ⟨_, rfl⟩
          rw [← ex_8] at hz_8
          have sl_8 : SL 1 x_8 := by rw [ex_8]; exact SL.inc sl_5
          refine lv_aload_n hx hb (oc_42 35 (aq_10 shX5_readPart_25)) rfl (lvA0 hl) ?_
          refine gf_RX5_20 S hK hP 3 xo_3 (v := .ref (ad 5 (ad 4 1))) rfl (oc_180 36 (aq_11 shX5_readPart_25) uw_0_20) ?_
          refine lv_bipush (v := 12) hx hb (oc_16 39 (aq_14 shX5_readPart_25) sgb_12) kbc_12 ?_
          refine lv_iconst (v := 0) hx hb (oc_3 41 (aq_16 shX5_readPart_25)) kic_0 ?_
          have hFc := free_all hD hS hA
          refine va_calli (runV_xa (As := [.int 12, .int 0]) (rest := []) S (q_Zadd l D cI cB cZ zz qq vv bt g ad (va_up c5 31 ((c5 31) + 1)) I5 F5 (ad 4 1) 12 0 H.size (CBX.n (k := 31) (v := ((c5 31) + 1)) hI5 (by decide)) (show (ad 4 1) < (c5 6) by omega) (by rw [hfr5.2.2 199 (nml rfl)]; exact h9)) kV_RX5_75 hK hXS hS hFc hP hD _ (xf_7 (show (ad 4 1) < (c5 6) by omega)) rfl rfl ⟨(by show 0 + 1 ≤ d + 1; omega), (by show 8 + (3 + 11) + 40 * 0 ≤ 40 * (d + 1); omega)⟩ ⟨Nat.le_of_ble_eq_true rfl, Nat.le_of_ble_eq_true rfl⟩ rfl hl.1 rfl (Nat.le_of_ble_eq_true rfl) (oc_182 42 (aq_17 shX5_readPart_25) uw_0_75)) hS (fun q _ h => hFc q h) hFc (fun r_10 u t H1 locs ht hvm wh_11 hB1 hz1 hk1 hS => ?_)
          obtain ⟨cn11, In11, Fn11⟩ := u
          obtain ⟨hP1, hD1⟩ := hB1
          rw [ht] at hP1
          have hP : va_P D vwCl (wX cI (D.1 99) zz g ad cn11 In11 Fn11) H1 := hP1
          have hD : va_D A (wX cI (D.1 99) zz g ad cn11 In11 Fn11) := hD1.weaken (fun _ _ _ h => hFc _ h)
          generalize H1 = H at hP hS ⊢
          have vh_11 : (fun r c2 I2 F2 => Fr [] [] [195, 301] (va_up c5 31 ((c5 31) + 1)) I5 F5 c2 I2 F2 ∧ CBX c2 ∧ (addR (ad 4 1) 12 0 F5 F2 ∧ r = ((F5 195)) (ad 4 1) ∧ KPT (ad 4 1) F5 F2)) r_10 cn11 In11 Fn11 := wh_11
          obtain ⟨hfc11, hIn11, h_11⟩ := vh_11
          obtain rfl : I5 = In11 := (funext (fun k => hfc11.2.1 k List.not_mem_nil)).symm
          have hf11 : Fr [31, 32] [33] [195, 301] cn In Fn cn11 I5 Fn11 := Fr.mo (Fr.tr (Fr.c 31 hfr5) hfc11) (sbl rfl) (sbl rfl) (sbl rfl)
          replace hIn11 : CBXh cn11 := hIn11
          have : cn11 6 = (c5 6) := hfc11.1 6 (nml rfl)
          have : cn11 31 = ((c5 31) + 1) := hfc11.1 31 (nml rfl)
          have : cn11 32 = (c5 32) := hfc11.1 32 (nml rfl)
          have hj_11 := ZS.addj hz_8 h_11.2.1
          have hz_11 : ZS G (ad 4 1) N cn11 I5 Fn11 (resB x_8 (fAdd 12 0)) := ZS.addx h_11.2.2 hz_8 sl_8 hN ((congrFun (hfc11.2.2 199 (nml rfl)) _).symm.trans ((congrFun (hf11.2.2 199 (nml rfl)) _).trans he9)) ⟨(by decide), by decide⟩ ⟨(by decide), by omega⟩ h_11.1 (hfc11.1 31 (nml rfl)) (hfc11.1 32 (nml rfl)) (hfc11.2.1 33 (nml rfl))
          obtain ⟨x_11, ex_11⟩ : ∃ y : ResT, y = resB x_8 (fAdd 12 0) := ⟨_, rfl⟩
          rw [← ex_11] at hz_11
          have sl_11 : SL 0 x_11 := by rw [ex_11]; exact SL.add sl_8
          refine lv_istore_n (lv' := [(2, .int r_10), (0, .ref (g 6)), (1, .int o)]) hx hb (oc_61 45 (aq_20 shX5_readPart_25)) rfl hl (ltb rfl) rfl (fun ls hl => ?_)
          refine lv_aload_n hx hb (oc_42 46 (aq_21 shX5_readPart_25)) rfl (lvA1 hl) ?_
          refine lv_iload_n hx hb (oc_27 47 (aq_22 shX5_readPart_25)) rfl (lvA2 hl) ?_
          have hFc := free_all hD hS hA
          refine va_callv (runV_xa (As := [.int o]) (rest := []) S (hSq ad cn11 I5 Fn11 G bb N x_11 H.size hIn11 (by omega) (by omega) (by omega) (by omega) (by rw [hf11.2.2 199 (nml rfl)]; exact h9) ((congrFun (hf11.2.2 199 (nml rfl)) _).trans he9) hN ((hf11.2.2 40 (nml rfl)).trans heb) hby hz_11) kV_RX5_82 hK hXS hS hFc hP hD 3 xo_3 rfl rfl ⟨(by show d + 1 ≤ d + 1; omega), (by show 8 + (4 + 11) + 40 * d ≤ 40 * (d + 1); omega)⟩ ⟨Nat.le_of_ble_eq_true rfl, Nat.le_of_ble_eq_true rfl⟩ rfl hl.1 rfl (Nat.le_of_ble_eq_true rfl) (oc_182 48 (aq_23 shX5_readPart_25) uw_0_82)) hS (fun q _ h => hFc q h) hFc (fun u t H1 locs ht hvm wh_14 hB1 hz1 hk1 hS => ?_)
          obtain ⟨cn14, In14, Fn14⟩ := u
          obtain ⟨hP1, hD1⟩ := hB1
          rw [ht] at hP1
          have hP : va_P D vwCl (wX cI (D.1 99) zz g ad cn14 In14 Fn14) H1 := hP1
          have hD : va_D A (wX cI (D.1 99) zz g ad cn14 In14 Fn14) := hD1.weaken (fun _ _ _ h => hFc _ h)
          generalize H1 = H at hP hS ⊢
          have vh_14 : (fun c2 I2 F2 => Fr [31, 32] [33] [195, 301] cn11 I5 Fn11 c2 I2 F2 ∧ CBX c2 ∧ (((cn11 31) ≤ c2 31 ∧ c2 31 ≤ c2 32 ∧ c2 32 ≤ (cn11 32)) ∧ ZS G (ad 4 1) N c2 I2 F2 (resB x_11 (pcK bb N k)))) cn14 In14 Fn14 := wh_14
          obtain ⟨hfc14, hIn14, h_14⟩ := vh_14
          have hf14 : Fr [31, 32] [33] [195, 301] cn In Fn cn14 In14 Fn14 := Fr.mo (Fr.tr hf11 hfc14) (sbl rfl) (sbl rfl) (sbl rfl)
          replace hIn14 : CBXh cn14 := hIn14
          have : cn14 6 = (cn11 6) := hfc14.1 6 (nml rfl)
          have hz_14 : ZS G (ad 4 1) N cn14 In14 Fn14 (resB x_11 (pcK bb N k)) := h_14.2
          obtain ⟨x_14, ex_14⟩ : ∃ y : ResT, y = resB x_11 (pcK bb N k) := ⟨_, rfl⟩
          rw [← ex_14] at hz_14
          have sl_14 : SL 0 x_14 := by rw [ex_14]; exact SL.rule (pcK_len _) sl_11
          refine lv_aload_n hx hb (oc_42 51 shX5_readPart_51) rfl (lvA1 hl) ?_
          refine gf_RX5_20 S hK hP 3 xo_3 (v := .ref (ad 5 (ad 4 1))) rfl (oc_180 52 (aq_1 shX5_readPart_51) uw_0_20) ?_
          refine lv_iload_n hx hb (oc_28 55 (aq_4 shX5_readPart_51)) rfl (lvA0 hl) ?_
          have hFc := free_all hD hS hA
          refine va_callv (runV_xa (As := [.int r_10]) (rest := []) S (q_Zaim l D cI cB cZ zz qq vv bt g ad cn14 In14 Fn14 (ad 4 1) r_10 H.size hIn14 (by omega) (by rw [hf14.2.2 199 (nml rfl)]; exact h9)) kV_RX5_79 hK hXS hS hFc hP hD _ (xf_7 (show (ad 4 1) < (cn14 6) by omega)) rfl rfl ⟨(by show 1 + 1 ≤ d + 1; omega), (by show 8 + (2 + 11) + 40 * 1 ≤ 40 * (d + 1); omega)⟩ ⟨Nat.le_of_ble_eq_true rfl, Nat.le_of_ble_eq_true rfl⟩ rfl hl.1 rfl (Nat.le_of_ble_eq_true rfl) (oc_182 56 (aq_5 shX5_readPart_51) uw_0_79)) hS (fun q _ h => hFc q h) hFc (fun u t H1 locs ht hvm wh_17 hB1 hz1 hk1 hS => ?_)
          obtain ⟨cn17, In17, Fn17⟩ := u
          obtain ⟨hP1, hD1⟩ := hB1
          rw [ht] at hP1
          have hP : va_P D vwCl (wX cI (D.1 99) zz g ad cn17 In17 Fn17) H1 := hP1
          have hD : va_D A (wX cI (D.1 99) zz g ad cn17 In17 Fn17) := hD1.weaken (fun _ _ _ h => hFc _ h)
          generalize H1 = H at hP hS ⊢
          have vh_17 : (fun c2 I2 F2 => Fr [] [] [301] cn14 In14 Fn14 c2 I2 F2 ∧ CBX c2 ∧ (aimRv (ad 4 1) r_10 Fn14 F2 ∧ KPT (ad 4 1) Fn14 F2)) cn17 In17 Fn17 := wh_17
          obtain ⟨hfc17, hIn17, h_17⟩ := vh_17
          obtain rfl : cn14 = cn17 := (funext (fun k => hfc17.1 k List.not_mem_nil)).symm
          obtain rfl : In14 = In17 := (funext (fun k => hfc17.2.1 k List.not_mem_nil)).symm
          have hf17 : Fr [31, 32] [33] [195, 301] cn In Fn cn14 In14 Fn17 := Fr.mo (Fr.tr hf14 hfc17) (sbl rfl) (sbl rfl) (sbl rfl)
          replace hIn17 : CBXh cn14 := hIn17
          have hq9 := hz_14
          rw [ex_14, ex_11, ex_8] at hq9
          have hz_17 : ZS G (ad 4 1) N cn14 In14 Fn17 (resB x_5 (fPt (pcK bb N k) 12)) := ZS.aimx h_17.2 hN (pcK_len _) hq9 (fun z e => hj_11 (z.1 + 1, z.2) (by rw [ex_8, e]; rfl)) ((congrFun (hfc17.2.2 199 (nml rfl)) _).symm.trans ((congrFun (hf17.2.2 199 (nml rfl)) _).trans he9)) h_17.1 (hfc17.2.2 195 (nml rfl)) (hfc17.1 31 (nml rfl)) (hfc17.1 32 (nml rfl)) (hfc17.2.1 33 (nml rfl))
          obtain ⟨x_17, ex_17⟩ : ∃ y : ResT, y = resB x_5 (fPt (pcK bb N k) 12) := ⟨_, rfl⟩
          rw [← ex_17] at hz_17
          refine lv_goto (tgt := 5) hx hb (oc_167 59 (aq_8 shX5_readPart_51) sgw_255_202) rfl ?_
          exact ih5  cn14 In14 Fn17 _ _ (show (cn14 32) - (cn14 31) < n5 by omega) ⟨(Fr.mo hf17 (sbl rfl) (sbl rfl) (sbl rfl)), hIn17, (show cn 31 ≤ (cn14 31) ∧ (cn14 31) ≤ (cn14 32) ∧ (cn14 32) ≤ cn 32 by omega), ⟨_, hz_17, (by rw [ex_17]; exact e_5.trans (pt_go (pcK_adv _) (fun z e => (by rw [ZS.pkx (b := bb) hz_5 e]; assumption))).symm)⟩⟩ hP hD hS ls (lv_sub hl [1, 2] rfl)
  exact lp_5 _  cn2 In2 Fn2 _ _ (Nat.lt_succ_self _) ⟨(Fr.mo hf2 (sbl rfl) (sbl rfl) (sbl rfl)), hIn2, (show cn 31 ≤ (cn2 31) ∧ (cn2 31) ≤ (cn2 32) ∧ (cn2 32) ≤ cn 32 by omega), ⟨_, hz_2, (by rw [ex_2]; exact resB_assoc.symm)⟩⟩ hP hD hS ls (lv_sub hl [0, 1] rfl)
set_option maxRecDepth 100000 in
set_option maxHeartbeats 4000000 in
theorem gq_ZreadCondition (l : Launch) (D : va_G) (cI cB cZ : ClassId) (zz qq vv : Nat) (bt : Nat → Int32) (g : Nat → Nat) (o : Int32) (d k : Nat) (hd : 4 ≤ d ∧ d ≤ 60) (hSq : RDZ yX5_readPart cX5_readPart 3 l D cI cB cZ zz qq vv bt g o d (fun bb N => ptK bb N (pcK bb N k))) : RDZ yX5_readCondition cX5_readCondition 3 l D cI cB cZ zz qq vv bt g o (d + 1) (fun bb N => cdK bb N (pcK bb N k)) := by
  intro ad cn In Fn G bb N x sz hB hR h1 h3 h4 h9 he9 hN heb hby hz
  refine Met.ofW (cc := cX5_readCondition) (maxL := 3) (ret := none) (by decide) rfl ?_
  intro p e s m args below meth c s₁ B hml hv
  obtain ⟨rfl, hsz, hP, hK, hD0, hXS⟩ := hv
  have hx := B.exec
  have hb := B.bytes
  have hr := B.returns
  have hts := atoms_spec (ws := (CWS yX5_readCondition cX5_readCondition 3 none)) B.pre
  have hown : s.vm.findClass RX5 = some m.cls := findClass_of_methodNamed B.named
  have hlocks := B.notSynchronized
  have S : SF p m c cX5_readCondition 3 s ([.ref (g 6), .int o]).toArray RX5 := ⟨hx, hb, hml, hown, fun w h => hts w (List.mem_cons_of_mem _ h)⟩
  subst hsz
  have hD := hD0.self (sz := s.heap.size)
  generalize hAe : va_A (wX cI (D.1 99) zz g ad cn In Fn) s.heap.size = A at hD hXS ⊢
  have hA : ∀ q : Nat, s.heap.size ≤ q → A q := fun q h => by rw [← hAe]; exact Or.inr h
  have hS : va_S A s.heap s.heap [] := va_S.rf
  have hl := lv_entry ([.ref (g 6), .int o]) (n := 3) (Nat.le_of_ble_eq_true rfl)
  rw [lg_entry_eq]
  generalize (lg_sl ([.ref (g 6), .int o]) ++ List.replicate (3 - (lg_sl ([.ref (g 6), .int o])).length) Slot.unset).toArray = ls at hl ⊢
  have hl : lv_has ls 3 [(0, .ref (g 6)), (1, .int o)] := hl
  replace hB : CBXh cn := hB
  have sl := ZS.sl hz
  refine lv_aload_n hx hb (oc_42 0 shX5_readCondition_0) rfl (lvA0 hl) ?_
  refine lv_iload_n hx hb (oc_27 1 (aq_1 shX5_readCondition_0)) rfl (lvA1 hl) ?_
  have hFc := free_all hD hS hA
  refine va_callv (runV_xa (As := [.int o]) (rest := []) S (hSq ad cn In Fn G bb N x s.heap.size hB (by omega) (by omega) (by omega) (by omega) h9 he9 hN heb hby hz) kV_RX5_72 hK hXS hS hFc hP hD 3 xo_3 rfl rfl ⟨(by show d + 1 ≤ d + 1; omega), (by show 8 + (3 + 11) + 40 * d ≤ 40 * (d + 1); omega)⟩ ⟨Nat.le_of_ble_eq_true rfl, Nat.le_of_ble_eq_true rfl⟩ rfl hl.1 rfl (Nat.le_of_ble_eq_true rfl) (oc_182 2 (aq_2 shX5_readCondition_0) uw_0_72)) hS (fun q _ h => hFc q h) hFc (fun u t H1 locs ht hvm wh_2 hB1 hz1 hk1 hS => ?_)
  obtain ⟨cn2, In2, Fn2⟩ := u
  obtain ⟨hP1, hD1⟩ := hB1
  rw [ht] at hP1
  have hP : va_P D vwCl (wX cI (D.1 99) zz g ad cn2 In2 Fn2) H1 := hP1
  have hD : va_D A (wX cI (D.1 99) zz g ad cn2 In2 Fn2) := hD1.weaken (fun _ _ _ h => hFc _ h)
  generalize H1 = H at hP hS ⊢
  have vh_2 : (fun c2 I2 F2 => Fr [31, 32] [33] [195, 301] cn In Fn c2 I2 F2 ∧ CBX c2 ∧ (((cn 31) ≤ c2 31 ∧ c2 31 ≤ c2 32 ∧ c2 32 ≤ (cn 32)) ∧ ZS G (ad 4 1) N c2 I2 F2 (resB x (ptK bb N (pcK bb N k))))) cn2 In2 Fn2 := wh_2
  obtain ⟨hfc2, hIn2, h_2⟩ := vh_2
  have hf2 : Fr [31, 32] [33] [195, 301] cn In Fn cn2 In2 Fn2 := Fr.mo (Fr.tr (Fr.rf (cn := cn) (In := In) (Fn := Fn)) hfc2) (sbl rfl) (sbl rfl) (sbl rfl)
  replace hIn2 : CBXh cn2 := hIn2
  have : cn2 6 = (cn 6) := hfc2.1 6 (nml rfl)
  have hz_2 : ZS G (ad 4 1) N cn2 In2 Fn2 (resB x (ptK bb N (pcK bb N k))) := h_2.2
  obtain ⟨x_2, ex_2⟩ : ∃ y : ResT, y = resB x (ptK bb N (pcK bb N k)) := ⟨_, rfl⟩
  rw [← ex_2] at hz_2
  have sl_2 : SL 0 x_2 := by rw [ex_2]; exact SL.rule (ptK_len (pcK_len _)) sl
  have lp_5 : ∀ (n : Nat)  (c5 : Nat → Nat) (I5 : Nat → Int32) (F5 : Nat → Nat → Int32) (H : Heap) (locs : List Loc) , c5 32 - c5 31 < n → (Fr [31, 32] [33] [195, 301] cn In Fn c5 I5 F5 ∧ CBX c5 ∧ (cn 31 ≤ c5 31 ∧ c5 31 ≤ c5 32 ∧ c5 32 ≤ cn 32) ∧ (∃ y : ResT, ZS G (ad 4 1) N c5 I5 F5 y ∧ resB x (cdK bb N (pcK bb N k)) = resB y (cdL bb N (pcK bb N k) (N + 1)))) → va_P D vwCl (wX cI (D.1 99) zz g ad c5 I5 F5) H → va_D A (wX cI (D.1 99) zz g ad c5 I5 F5) → va_S A s.heap H locs → ∀ ls : Array Slot, lv_has ls 3 [(0, .ref (g 6)), (1, .int o)] → W p l e (RM (d + 1) 0 0) s m ([.ref (g 6), .int o]).toArray below meth c H locs 0 0 (MQ below (va_Qv (fun (u : (Nat → Nat) × (Nat → Int32) × (Nat → Nat → Int32)) => (fun c2 I2 F2 => Fr [31, 32] [33] [195, 301] cn In Fn c2 I2 F2 ∧ CBX c2 ∧ ((cn 31 ≤ c2 31 ∧ c2 31 ≤ c2 32 ∧ c2 32 ≤ cn 32) ∧ ZS G (ad 4 1) N c2 I2 F2 (resB x (cdK bb N (pcK bb N k))))) u.1 u.2.1 u.2.2) (fun (u : (Nat → Nat) × (Nat → Int32) × (Nat → Nat → Int32)) (t : State) => va_P D vwCl (wX cI (D.1 99) zz g ad u.1 u.2.1 u.2.2) t.heap ∧ va_D A (wX cI (D.1 99) zz g ad u.1 u.2.1 u.2.2)) A) ([.ref (g 6), .int o]).toArray s 0 0 A) (F0 m 5 ls []) := by
    intro n5
    induction n5 with
    | zero => intros; omega
    | succ n5 ih5 =>
      intro  c5 I5 F5 H locs hmu5 hinv5 hP hD hS ls hl
      obtain ⟨hfr5, hI5, hx5_0, hx5_1⟩ := hinv5
      replace hI5 : CBXh c5 := hI5
      have : c5 6 = cn 6 := hfr5.1 6 (nml rfl)
      obtain ⟨x_5, hz_5, e_5⟩ := hx5_1
      have sl_5 := ZS.sl hz_5
      refine lv_aload_n hx hb (oc_42 5 (aq_5 shX5_readCondition_0)) rfl (lvA0 hl) ?_
      refine gf_RX5_31 S hK hP 3 xo_3 (v := .int (nI (c5 31))) rfl (oc_180 6 (aq_6 shX5_readCondition_0) uw_0_31) ?_
      refine lv_aload_n hx hb (oc_42 9 (aq_9 shX5_readCondition_0)) rfl (lvA0 hl) ?_
      refine gf_RX5_34 S hK hP 3 xo_3 (v := .int (nI (c5 32))) rfl (oc_180 10 (aq_10 shX5_readCondition_0) uw_0_34) ?_
      have : (nI (c5 31)).toInt = (((c5 31) : Nat) : Int) := nI_toInt (by omega)
      have : (nI (c5 32)).toInt = (((c5 32) : Nat) : Int) := nI_toInt (by omega)
      refine lv_icmp_ge (tgt := 62) hx hb (oc_162 13 (aq_13 shX5_readCondition_0) sgw_0_49) rfl (fun c_4 => ?_) (fun c_4 => ?_)
      ·
        have tc_4 : ((nI (c5 32)).toInt : Int) ≤ (nI (c5 31)).toInt := Int32.le_iff_toInt_le.mp c_4
        exact W.vret hx hb hr (fun t ht hW => ⟨⟨(c5, I5, F5), rfl, ⟨(Fr.mo hfr5 (sbl rfl) (sbl rfl) (sbl rfl)), hI5, (by show (cn 31 ≤ c5 31 ∧ c5 31 ≤ c5 32 ∧ c5 32 ≤ cn 32) ∧ ZS G (ad 4 1) N c5 I5 F5 (resB x (cdK bb N (pcK bb N k))); exact ⟨by show cn 31 ≤ (c5 31) ∧ (c5 31) ≤ (c5 32) ∧ (c5 32) ≤ cn 32; omega, (by show ZS _ _ _ _ _ _ (resB x (cdK bb N (pcK bb N k))); rw [e_5, cd_end (fun z e => (by first | (rw [ZS.endx (b := bb) hz_5 (by omega) e]; decide) | (rw [ZS.pkx (b := bb) hz_5 e]; assumption)))]; exact hz_5)⟩)⟩, by rw [ht]; exact hP, hD⟩, hS.F ht⟩) hS.2.2 dX5_readCondition_62
      ·
        have tc_4 : ((nI (c5 31)).toInt : Int) < (nI (c5 32)).toInt := Int32.lt_iff_toInt_lt.mp (Int32.not_le.mp c_4)
        refine lv_aload_n hx hb (oc_42 16 (aq_16 shX5_readCondition_0)) rfl (lvA0 hl) ?_
        refine vp_callSi (runV_rxa (As := []) (rest := []) S (q_Rpeek l D cI cB cZ zz qq vv bt g ad c5 I5 F5  hI5 (by omega) (by omega) (by omega) (by omega)) kV_RX5_43 hK hXS hS hP 3 xo_3 rfl rfl ⟨(by show 0 + 1 ≤ d + 1; omega), (by show 8 + (1 + 11) + 40 * 0 ≤ 40 * (d + 1); omega)⟩ ⟨Nat.le_of_ble_eq_true rfl, Nat.le_of_ble_eq_true rfl⟩ rfl hl.1 rfl (Nat.le_of_ble_eq_true rfl) (oc_182 17 (aq_17 shX5_readCondition_0) uw_0_43)) (fun r_5 h_6 => ?_)
        rw [((hfr5.2.2 40 (nml rfl)).trans heb)] at h_6
        obtain rfl : r_5 = pkS c5 bb := pkS_of h_6
        refine lv_bipush (v := 124) hx hb (oc_16 20 (aq_20 shX5_readCondition_0) sgb_124) kbc_124 ?_
        refine lv_icmp_ne (tgt := 62) hx hb (oc_160 22 (aq_22 shX5_readCondition_0) sgw_0_40) rfl (fun c_7 => ?_) (fun c_7 => ?_)
        ·
          have tc_7 : ((pkS c5 bb).toInt : Int) ≠ 124 := fun q => c_7 (Int32.toInt_inj.mp q)
          exact W.vret hx hb hr (fun t ht hW => ⟨⟨(c5, I5, F5), rfl, ⟨(Fr.mo hfr5 (sbl rfl) (sbl rfl) (sbl rfl)), hI5, (by show (cn 31 ≤ c5 31 ∧ c5 31 ≤ c5 32 ∧ c5 32 ≤ cn 32) ∧ ZS G (ad 4 1) N c5 I5 F5 (resB x (cdK bb N (pcK bb N k))); exact ⟨by show cn 31 ≤ (c5 31) ∧ (c5 31) ≤ (c5 32) ∧ (c5 32) ≤ cn 32; omega, (by show ZS _ _ _ _ _ _ (resB x (cdK bb N (pcK bb N k))); rw [e_5, cd_end (fun z e => (by first | (rw [ZS.endx (b := bb) hz_5 (by omega) e]; decide) | (rw [ZS.pkx (b := bb) hz_5 e]; assumption)))]; exact hz_5)⟩)⟩, by rw [ht]; exact hP, hD⟩, hS.F ht⟩) hS.2.2 dX5_readCondition_62
        ·
          have tc_7 : ((pkS c5 bb).toInt : Int) = 124 := congrArg Int32.toInt c_7
          refine lv_aload_n hx hb (oc_42 25 shX5_readCondition_25) rfl (lvA0 hl) ?_
          refine lv_dup hx hb (oc_89 26 (aq_1 shX5_readCondition_25)) rfl ?_
          refine gf_RX5_31 S hK hP 3 xo_3 (v := .int (nI (c5 31))) rfl (oc_180 27 (aq_2 shX5_readCondition_25) uw_0_31) ?_
          refine lv_iconst (v := 1) hx hb (oc_4 30 (aq_5 shX5_readCondition_25)) kic_1 ?_
          refine lv_iadd hx hb (oc_96 31 (aq_6 shX5_readCondition_25)) ?_
          refine lv_topi (fun y_8 ey_8 => ?_)
          obtain rfl : y_8 = (nI ((c5 31) + 1)) := ey_8.trans (nI_add (c5 31) 1)
          refine pf_RX5_31 S hK hP hD hS 3 xo_3 (v := .int (nI ((c5 31) + 1))) (Nat.le_of_ble_eq_true rfl) rfl rfl (oc_181 32 (aq_7 shX5_readCondition_25) uw_0_31) (fun H locs hP hD hS => ?_)
          have hP : va_P D vwCl (wX cI (D.1 99) zz g ad (va_up c5 31 ((c5 31) + 1)) I5 F5) H := va_P_eq (xsf_3_3) hP
          have hD : va_D A (wX cI (D.1 99) zz g ad (va_up c5 31 ((c5 31) + 1)) I5 F5) := va_D_eq (xsf_3_3) hD
          have hz_8 : ZS G (ad 4 1) N (va_up c5 31 ((c5 31) + 1)) I5 F5 (resB x_5 fInc) := ZS.incx hz_5 (by omega) rfl rfl rfl
          obtain ⟨x_8, ex_8⟩ : ∃ y : ResT, y = resB x_5 fInc := ⟨_, rfl⟩
          rw [← ex_8] at hz_8
          have sl_8 : SL 1 x_8 := by rw [ex_8]; exact SL.inc sl_5
          refine lv_aload_n hx hb (oc_42 35 (aq_10 shX5_readCondition_25)) rfl (lvA0 hl) ?_
          refine gf_RX5_20 S hK hP 3 xo_3 (v := .ref (ad 5 (ad 4 1))) rfl (oc_180 36 (aq_11 shX5_readCondition_25) uw_0_20) ?_
          refine lv_bipush (v := 13) hx hb (oc_16 39 (aq_14 shX5_readCondition_25) sgb_13) kbc_13 ?_
          refine lv_iconst (v := 0) hx hb (oc_3 41 (aq_16 shX5_readCondition_25)) kic_0 ?_
          have hFc := free_all hD hS hA
          refine va_calli (runV_xa (As := [.int 13, .int 0]) (rest := []) S (q_Zadd l D cI cB cZ zz qq vv bt g ad (va_up c5 31 ((c5 31) + 1)) I5 F5 (ad 4 1) 13 0 H.size (CBX.n (k := 31) (v := ((c5 31) + 1)) hI5 (by decide)) (show (ad 4 1) < (c5 6) by omega) (by rw [hfr5.2.2 199 (nml rfl)]; exact h9)) kV_RX5_75 hK hXS hS hFc hP hD _ (xf_7 (show (ad 4 1) < (c5 6) by omega)) rfl rfl ⟨(by show 0 + 1 ≤ d + 1; omega), (by show 8 + (3 + 11) + 40 * 0 ≤ 40 * (d + 1); omega)⟩ ⟨Nat.le_of_ble_eq_true rfl, Nat.le_of_ble_eq_true rfl⟩ rfl hl.1 rfl (Nat.le_of_ble_eq_true rfl) (oc_182 42 (aq_17 shX5_readCondition_25) uw_0_75)) hS (fun q _ h => hFc q h) hFc (fun r_10 u t H1 locs ht hvm wh_11 hB1 hz1 hk1 hS => ?_)
          obtain ⟨cn11, In11, Fn11⟩ := u
          obtain ⟨hP1, hD1⟩ := hB1
          rw [ht] at hP1
          have hP : va_P D vwCl (wX cI (D.1 99) zz g ad cn11 In11 Fn11) H1 := hP1
          have hD : va_D A (wX cI (D.1 99) zz g ad cn11 In11 Fn11) := hD1.weaken (fun _ _ _ h => hFc _ h)
          generalize H1 = H at hP hS ⊢
          have vh_11 : (fun r c2 I2 F2 => Fr [] [] [195, 301] (va_up c5 31 ((c5 31) + 1)) I5 F5 c2 I2 F2 ∧ CBX c2 ∧ (addR (ad 4 1) 13 0 F5 F2 ∧ r = ((F5 195)) (ad 4 1) ∧ KPT (ad 4 1) F5 F2)) r_10 cn11 In11 Fn11 := wh_11
          obtain ⟨hfc11, hIn11, h_11⟩ := vh_11
          obtain rfl : I5 = In11 := (funext (fun k => hfc11.2.1 k List.not_mem_nil)).symm
          have hf11 : Fr [31, 32] [33] [195, 301] cn In Fn cn11 I5 Fn11 := Fr.mo (Fr.tr (Fr.c 31 hfr5) hfc11) (sbl rfl) (sbl rfl) (sbl rfl)
          replace hIn11 : CBXh cn11 := hIn11
          have : cn11 6 = (c5 6) := hfc11.1 6 (nml rfl)
          have : cn11 31 = ((c5 31) + 1) := hfc11.1 31 (nml rfl)
          have : cn11 32 = (c5 32) := hfc11.1 32 (nml rfl)
          have hj_11 := ZS.addj hz_8 h_11.2.1
          have hz_11 : ZS G (ad 4 1) N cn11 I5 Fn11 (resB x_8 (fAdd 13 0)) := ZS.addx h_11.2.2 hz_8 sl_8 hN ((congrFun (hfc11.2.2 199 (nml rfl)) _).symm.trans ((congrFun (hf11.2.2 199 (nml rfl)) _).trans he9)) ⟨(by decide), by decide⟩ ⟨(by decide), by omega⟩ h_11.1 (hfc11.1 31 (nml rfl)) (hfc11.1 32 (nml rfl)) (hfc11.2.1 33 (nml rfl))
          obtain ⟨x_11, ex_11⟩ : ∃ y : ResT, y = resB x_8 (fAdd 13 0) := ⟨_, rfl⟩
          rw [← ex_11] at hz_11
          have sl_11 : SL 0 x_11 := by rw [ex_11]; exact SL.add sl_8
          refine lv_istore_n (lv' := [(2, .int r_10), (0, .ref (g 6)), (1, .int o)]) hx hb (oc_61 45 (aq_20 shX5_readCondition_25)) rfl hl (ltb rfl) rfl (fun ls hl => ?_)
          refine lv_aload_n hx hb (oc_42 46 (aq_21 shX5_readCondition_25)) rfl (lvA1 hl) ?_
          refine lv_iload_n hx hb (oc_27 47 (aq_22 shX5_readCondition_25)) rfl (lvA2 hl) ?_
          have hFc := free_all hD hS hA
          refine va_callv (runV_xa (As := [.int o]) (rest := []) S (hSq ad cn11 I5 Fn11 G bb N x_11 H.size hIn11 (by omega) (by omega) (by omega) (by omega) (by rw [hf11.2.2 199 (nml rfl)]; exact h9) ((congrFun (hf11.2.2 199 (nml rfl)) _).trans he9) hN ((hf11.2.2 40 (nml rfl)).trans heb) hby hz_11) kV_RX5_72 hK hXS hS hFc hP hD 3 xo_3 rfl rfl ⟨(by show d + 1 ≤ d + 1; omega), (by show 8 + (3 + 11) + 40 * d ≤ 40 * (d + 1); omega)⟩ ⟨Nat.le_of_ble_eq_true rfl, Nat.le_of_ble_eq_true rfl⟩ rfl hl.1 rfl (Nat.le_of_ble_eq_true rfl) (oc_182 48 (aq_23 shX5_readCondition_25) uw_0_72)) hS (fun q _ h => hFc q h) hFc (fun u t H1 locs ht hvm wh_14 hB1 hz1 hk1 hS => ?_)
          obtain ⟨cn14, In14, Fn14⟩ := u
          obtain ⟨hP1, hD1⟩ := hB1
          rw [ht] at hP1
          have hP : va_P D vwCl (wX cI (D.1 99) zz g ad cn14 In14 Fn14) H1 := hP1
          have hD : va_D A (wX cI (D.1 99) zz g ad cn14 In14 Fn14) := hD1.weaken (fun _ _ _ h => hFc _ h)
          generalize H1 = H at hP hS ⊢
          have vh_14 : (fun c2 I2 F2 => Fr [31, 32] [33] [195, 301] cn11 I5 Fn11 c2 I2 F2 ∧ CBX c2 ∧ (((cn11 31) ≤ c2 31 ∧ c2 31 ≤ c2 32 ∧ c2 32 ≤ (cn11 32)) ∧ ZS G (ad 4 1) N c2 I2 F2 (resB x_11 (ptK bb N (pcK bb N k))))) cn14 In14 Fn14 := wh_14
          obtain ⟨hfc14, hIn14, h_14⟩ := vh_14
          have hf14 : Fr [31, 32] [33] [195, 301] cn In Fn cn14 In14 Fn14 := Fr.mo (Fr.tr hf11 hfc14) (sbl rfl) (sbl rfl) (sbl rfl)
          replace hIn14 : CBXh cn14 := hIn14
          have : cn14 6 = (cn11 6) := hfc14.1 6 (nml rfl)
          have hz_14 : ZS G (ad 4 1) N cn14 In14 Fn14 (resB x_11 (ptK bb N (pcK bb N k))) := h_14.2
          obtain ⟨x_14, ex_14⟩ : ∃ y : ResT, y = resB x_11 (ptK bb N (pcK bb N k)) := ⟨_, rfl⟩
          rw [← ex_14] at hz_14
          have sl_14 : SL 0 x_14 := by rw [ex_14]; exact SL.rule (ptK_len (pcK_len _)) sl_11
          refine lv_aload_n hx hb (oc_42 51 shX5_readCondition_51) rfl (lvA1 hl) ?_
          refine gf_RX5_20 S hK hP 3 xo_3 (v := .ref (ad 5 (ad 4 1))) rfl (oc_180 52 (aq_1 shX5_readCondition_51) uw_0_20) ?_
          refine lv_iload_n hx hb (oc_28 55 (aq_4 shX5_readCondition_51)) rfl (lvA0 hl) ?_
          have hFc := free_all hD hS hA
          refine va_callv (runV_xa (As := [.int r_10]) (rest := []) S (q_Zaim l D cI cB cZ zz qq vv bt g ad cn14 In14 Fn14 (ad 4 1) r_10 H.size hIn14 (by omega) (by rw [hf14.2.2 199 (nml rfl)]; exact h9)) kV_RX5_79 hK hXS hS hFc hP hD _ (xf_7 (show (ad 4 1) < (cn14 6) by omega)) rfl rfl ⟨(by show 1 + 1 ≤ d + 1; omega), (by show 8 + (2 + 11) + 40 * 1 ≤ 40 * (d + 1); omega)⟩ ⟨Nat.le_of_ble_eq_true rfl, Nat.le_of_ble_eq_true rfl⟩ rfl hl.1 rfl (Nat.le_of_ble_eq_true rfl) (oc_182 56 (aq_5 shX5_readCondition_51) uw_0_79)) hS (fun q _ h => hFc q h) hFc (fun u t H1 locs ht hvm wh_17 hB1 hz1 hk1 hS => ?_)
          obtain ⟨cn17, In17, Fn17⟩ := u
          obtain ⟨hP1, hD1⟩ := hB1
          rw [ht] at hP1
          have hP : va_P D vwCl (wX cI (D.1 99) zz g ad cn17 In17 Fn17) H1 := hP1
          have hD : va_D A (wX cI (D.1 99) zz g ad cn17 In17 Fn17) := hD1.weaken (fun _ _ _ h => hFc _ h)
          generalize H1 = H at hP hS ⊢
          have vh_17 : (fun c2 I2 F2 => Fr [] [] [301] cn14 In14 Fn14 c2 I2 F2 ∧ CBX c2 ∧ (aimRv (ad 4 1) r_10 Fn14 F2 ∧ KPT (ad 4 1) Fn14 F2)) cn17 In17 Fn17 := wh_17
          obtain ⟨hfc17, hIn17, h_17⟩ := vh_17
          obtain rfl : cn14 = cn17 := (funext (fun k => hfc17.1 k List.not_mem_nil)).symm
          obtain rfl : In14 = In17 := (funext (fun k => hfc17.2.1 k List.not_mem_nil)).symm
          have hf17 : Fr [31, 32] [33] [195, 301] cn In Fn cn14 In14 Fn17 := Fr.mo (Fr.tr hf14 hfc17) (sbl rfl) (sbl rfl) (sbl rfl)
          replace hIn17 : CBXh cn14 := hIn17
          have hq9 := hz_14
          rw [ex_14, ex_11, ex_8] at hq9
          have hz_17 : ZS G (ad 4 1) N cn14 In14 Fn17 (resB x_5 (fPt (ptK bb N (pcK bb N k)) 13)) := ZS.aimx h_17.2 hN (ptK_len (pcK_len _)) hq9 (fun z e => hj_11 (z.1 + 1, z.2) (by rw [ex_8, e]; rfl)) ((congrFun (hfc17.2.2 199 (nml rfl)) _).symm.trans ((congrFun (hf17.2.2 199 (nml rfl)) _).trans he9)) h_17.1 (hfc17.2.2 195 (nml rfl)) (hfc17.1 31 (nml rfl)) (hfc17.1 32 (nml rfl)) (hfc17.2.1 33 (nml rfl))
          obtain ⟨x_17, ex_17⟩ : ∃ y : ResT, y = resB x_5 (fPt (ptK bb N (pcK bb N k)) 13) := ⟨_, rfl⟩
          rw [← ex_17] at hz_17
          refine lv_goto (tgt := 5) hx hb (oc_167 59 (aq_8 shX5_readCondition_51) sgw_255_202) rfl ?_
          exact ih5  cn14 In14 Fn17 _ _ (show (cn14 32) - (cn14 31) < n5 by omega) ⟨(Fr.mo hf17 (sbl rfl) (sbl rfl) (sbl rfl)), hIn17, (show cn 31 ≤ (cn14 31) ∧ (cn14 31) ≤ (cn14 32) ∧ (cn14 32) ≤ cn 32 by omega), ⟨_, hz_17, (by rw [ex_17]; exact e_5.trans (cd_go (pcK_adv _) (fun z e => (by rw [ZS.pkx (b := bb) hz_5 e]; assumption))).symm)⟩⟩ hP hD hS ls (lv_sub hl [1, 2] rfl)
  exact lp_5 _  cn2 In2 Fn2 _ _ (Nat.lt_succ_self _) ⟨(Fr.mo hf2 (sbl rfl) (sbl rfl) (sbl rfl)), hIn2, (show cn 31 ≤ (cn2 31) ∧ (cn2 31) ≤ (cn2 32) ∧ (cn2 32) ≤ cn 32 by omega), ⟨_, hz_2, (by rw [ex_2]; exact resB_assoc.symm)⟩⟩ hP hD hS ls (lv_sub hl [0, 1] rfl)
