/-- sums over a set's numbers -/
def mxI (f : Nat → Int32) (s : Int32) : Nat → Int32
  | 0 => 0
  | n + 1 => if (s >>> (nI n &&& 31)) &&& 1 = 0 then mxI f s n else mxI f s n + f n
/-- a set's numbers below n -/
def mskI (s : Int32) : Nat → Int32
  | 0 => 0
  | n + 1 => if (s >>> (nI n &&& 31)) &&& 1 = 0 then mskI s n else mskI s n ^^^ 1 <<< (nI n &&& 31)
section MXS
theorem sh_md {n : Nat} (hn : n < 32) : (nI n &&& 31 : Int32).toBitVec.smod 32 = BitVec.ofNat 32 n := by
  have h : ∀ i : Fin 32, (nI i.val &&& 31 : Int32).toBitVec.smod 32 = BitVec.ofNat 32 i.val := by decide +kernel
  exact h ⟨n, hn⟩
variable {f g : Nat → Int32} {s x y z : Int32} {n : Nat}
theorem shr_bv (hn : n < 32) : (x >>> (nI n &&& 31)).toBitVec = x.toBitVec.sshiftRight n := by
  show x.toBitVec.sshiftRight' ((nI n &&& 31 : Int32).toBitVec.smod 32) = _
  rw [sh_md hn]
  show x.toBitVec.sshiftRight (BitVec.ofNat 32 n).toNat = _
  rw [BitVec.toNat_ofNat, Nat.mod_eq_of_lt (by omega)]
theorem shl_bv (hn : n < 32) : ((1 : Int32) <<< (nI n &&& 31)).toBitVec = 1#32 <<< n := by
  show (1 : Int32).toBitVec <<< ((nI n &&& 31 : Int32).toBitVec.smod 32) = _
  rw [sh_md hn]
  show 1#32 <<< (BitVec.ofNat 32 n).toNat = _
  rw [BitVec.toNat_ofNat, Nat.mod_eq_of_lt (by omega)]
theorem bit_f (hn : n < 32) (h : x.toBitVec.getLsbD n = false) : (x >>> (nI n &&& 31)) &&& 1 = 0 := by
  apply Int32.toBitVec_inj.mp
  rw [Int32.toBitVec_and, shr_bv hn]
  apply BitVec.eq_of_getLsbD_eq
  intro i hi
  rw [BitVec.getLsbD_and]
  by_cases q : i = 0
  · subst q
    have e : (x.toBitVec.sshiftRight n).getLsbD 0 = false := by
      rw [BitVec.getLsbD_sshiftRight, Nat.add_zero, if_pos hn, h]
      rfl
    rw [e]
    rfl
  · have e : (1 : Int32).toBitVec.getLsbD i = false := by
      show (1#32).getLsbD i = false
      rw [BitVec.getLsbD_one, decide_eq_false q, Bool.and_false]
    rw [e, Bool.and_false]
    exact (BitVec.getLsbD_zero (w := 32)).symm
theorem bit_t (hn : n < 32) (h : x.toBitVec.getLsbD n = true) : (x >>> (nI n &&& 31)) &&& 1 = 1 := by
  apply Int32.toBitVec_inj.mp
  rw [Int32.toBitVec_and, shr_bv hn]
  apply BitVec.eq_of_getLsbD_eq
  intro i hi
  rw [BitVec.getLsbD_and]
  by_cases q : i = 0
  · subst q
    have e : (x.toBitVec.sshiftRight n).getLsbD 0 = true := by
      rw [BitVec.getLsbD_sshiftRight, Nat.add_zero, if_pos hn, h]
      rfl
    rw [e]
    rfl
  · have e : (1 : Int32).toBitVec.getLsbD i = false := by
      show (1#32).getLsbD i = false
      rw [BitVec.getLsbD_one, decide_eq_false q, Bool.and_false]
    rw [e, Bool.and_false]
theorem bit_c (hn : n < 32) : (x.toBitVec.getLsbD n = false ∧ (x >>> (nI n &&& 31)) &&& 1 = 0) ∨ (x.toBitVec.getLsbD n = true ∧ (x >>> (nI n &&& 31)) &&& 1 = 1) := by
  cases h : x.toBitVec.getLsbD n with
  | false => exact Or.inl ⟨rfl, bit_f hn h⟩
  | true => exact Or.inr ⟨rfl, bit_t hn h⟩
theorem bit_0 (hn : n < 32) (h : ¬ (x >>> (nI n &&& 31)) &&& 1 = 1) : (x >>> (nI n &&& 31)) &&& 1 = 0 := by
  rcases bit_c (x := x) hn with ⟨_, q⟩ | ⟨_, q⟩
  · exact q
  · exact absurd q h
theorem mskI_b {j : Nat} (hj : j < 32) : ∀ n : Nat, n ≤ 32 → (mskI s n).toBitVec.getLsbD j = (decide (j < n) && s.toBitVec.getLsbD j)
  | 0, _ => by
    show (0#32).getLsbD j = _
    rw [BitVec.getLsbD_zero]
    rfl
  | n + 1, h => by
    have ih := mskI_b hj n (by omega)
    show (if (s >>> (nI n &&& 31)) &&& 1 = 0 then mskI s n else mskI s n ^^^ 1 <<< (nI n &&& 31)).toBitVec.getLsbD j = _
    rcases bit_c (x := s) (n := n) (by omega) with ⟨b, q⟩ | ⟨b, q⟩
    · rw [if_pos q, ih]
      by_cases e : j = n
      · subst e
        rw [b, Bool.and_false, Bool.and_false]
      · rw [show decide (j < n + 1) = decide (j < n) from decide_eq_decide.mpr (by omega)]
    · rw [if_neg (by rw [q]; decide), Int32.toBitVec_xor, BitVec.getLsbD_xor, ih, shl_bv (by omega), BitVec.getLsbD_shiftLeft]
      by_cases e : j = n
      · subst e
        have e1 : decide (j < j) = false := decide_eq_false (Nat.lt_irrefl j)
        rw [e1, b, Nat.sub_self, decide_eq_true hj, decide_eq_true (Nat.lt_succ_self j)]
        rfl
      · rw [show decide (j < n + 1) = decide (j < n) from decide_eq_decide.mpr (by omega)]
        have e2 : (decide (j < 32) && !decide (j < n) && (1#32).getLsbD (j - n)) = false := by
          by_cases l : j < n
          · rw [decide_eq_true l, Bool.not_true, Bool.and_false, Bool.false_and]
          · have e3 : (1#32).getLsbD (j - n) = false := by
              rw [BitVec.getLsbD_one, decide_eq_false (show ¬ j - n = 0 by omega), Bool.and_false]
            rw [e3, Bool.and_false]
        rw [e2, Bool.xor_false]
theorem mskI_n (hn : n < 32) : (mskI s n >>> (nI n &&& 31)) &&& 1 = 0 := bit_f hn (by
  rw [mskI_b hn n (by omega), decide_eq_false (Nat.lt_irrefl n), Bool.false_and])
theorem mskI_20 (h0 : 0 ≤ s.toInt) (h1 : s.toInt < 1048576) : mskI s 20 = s := by
  apply Int32.toBitVec_inj.mp
  apply BitVec.eq_of_getLsbD_eq
  intro j hj
  rw [mskI_b hj 20 (by decide)]
  by_cases q : j < 20
  · rw [decide_eq_true q, Bool.true_and]
  · rw [decide_eq_false q, Bool.false_and]
    have e : s.toBitVec.toNat < 2 ^ 20 := by
      have t : s.toInt = s.toBitVec.toInt := rfl
      have t2 := BitVec.toInt_eq_toNat_cond s.toBitVec
      have t3 := s.toBitVec.isLt
      split at t2 <;> omega
    show false = s.toBitVec.toNat.testBit j
    exact (Nat.testBit_lt_two_pow (Nat.lt_of_lt_of_le e (Nat.pow_le_pow_right (by decide) (by omega)))).symm
theorem mskI_s {b : Int32} (h : ¬ (s >>> (nI n &&& 31)) &&& 1 = 0) (e : b = mskI s n) : b ^^^ 1 <<< (nI n &&& 31) = mskI s (n + 1) := by
  rw [e]
  exact (if_neg h).symm
theorem mskI_k {b : Int32} (h : (s >>> (nI n &&& 31)) &&& 1 = 0) (e : b = mskI s n) : b = mskI s (n + 1) := e.trans (if_pos h).symm
theorem mxI_k (h : (s >>> (nI n &&& 31)) &&& 1 = 0) (e : x = mxI f s n) : x = mxI f s (n + 1) := e.trans (if_pos h).symm
theorem mxI_s (h : ¬ (s >>> (nI n &&& 31)) &&& 1 = 0) (e : x = mxI f s n) (ey : f n = y) : x + y = mxI f s (n + 1) := by
  rw [e, ← ey]
  exact (if_neg h).symm
theorem mxI_1 (h : ¬ (s >>> (nI n &&& 31)) &&& 1 = 0) (e : x = mxI f s n) (ey : f n = y) : x + 1 * y = mxI f s (n + 1) := by
  rw [Int32.one_mul]
  exact mxI_s h e ey
theorem mxI_2 (h : ¬ (s >>> (nI n &&& 31)) &&& 1 = 0) (e : x = mxI f s n) (ey : f n = y * z) : x + 1 * y * z = mxI f s (n + 1) := by
  rw [Int32.one_mul]
  exact mxI_s h e ey
theorem mxI_b (hn : n < 32) (e : x = mxI (fun _ => 1) s n) : x + ((s >>> (nI n &&& 31)) &&& 1) = mxI (fun _ => 1) s (n + 1) := by
  rcases bit_c (x := s) hn with ⟨_, q⟩ | ⟨_, q⟩
  · rw [q, Int32.add_zero]
    exact mxI_k q e
  · rw [q]
    exact mxI_s (by rw [q]; decide) e rfl
theorem mxI_cg : ∀ n : Nat, (∀ i : Nat, i < n → ¬ (s >>> (nI i &&& 31)) &&& 1 = 0 → f i = g i) → mxI f s n = mxI g s n
  | 0, _ => rfl
  | n + 1, h => by
    have ih := mxI_cg n (fun i hi hb => h i (Nat.lt_succ_of_lt hi) hb)
    show (if _ then _ else _) = if _ then _ else _
    by_cases q : (s >>> (nI n &&& 31)) &&& 1 = 0
    · rw [if_pos q, if_pos q, ih]
    · rw [if_neg q, if_neg q, ih, h n (Nat.lt_succ_self n) q]
end MXS
/-- a batch's letters -/
def lfb (q f a d n w : Int32) : Nat → Int32 := fun i => if i = 10 then n else lfx q f a d 0 0 0 w i
/-- what a set's loads are together: litres, water, acid, how many -/
def mxL (fl fw fa fp : Nat → Int32) (s : Int32) (d : Nat) : Nat → Int32 := lfb (mxI fl s 20) (if mxI fl s 20 = 0 then 0 else mxI (fun i => fl i * fw i) s 20 / mxI fl s 20) (if mxI fl s 20 = 0 then 0 else mxI (fun i => fl i * fa i) s 20 / mxI fl s 20) (nI d) (mxI (fun _ => 1) s 20) (fp (d / 7))
theorem lfb_of {G : Nat → Int32} {q f a n w : Int32} {d : Nat} (hd : d < 2 ^ 31) : cut (upd (upd (upd (upd (upd (upd (upd (upd (upd (upd (upd G 3 (nI d)) 4 (nI ((nI d).toInt.toNat / 7))) 5 (nI ((nI d).toInt.toNat % 7))) 9 w) 6 0) 7 0) 8 0) 0 q) 1 f) 2 a) 10 n) = cut (lfb q f a (nI d) n w) := funext fun i => by
  unfold cut
  by_cases h : i < 11
  · rw [if_pos h, if_pos h]
    rcases (by omega : i = 0 ∨ i = 1 ∨ i = 2 ∨ i = 3 ∨ i = 4 ∨ i = 5 ∨ i = 6 ∨ i = 7 ∨ i = 8 ∨ i = 9 ∨ i = 10) with rfl | rfl | rfl | rfl | rfl | rfl | rfl | rfl | rfl | rfl | rfl <;> rfl
  · rw [if_neg h, if_neg h]
theorem lfb_mo {G : Nat → Int32} {q f a n w : Int32} {d : Nat} (hd : d < 2 ^ 31) : cut (upd (upd (upd (upd (upd (upd (upd (upd (upd (upd (upd G 0 q) 1 f) 2 a) 3 (nI d)) 4 (nI (d / 7))) 5 (nI (d % 7))) 6 0) 7 0) 8 0) 9 w) 10 n) = cut (lfb q f a (nI d) n w) := funext fun i => by
  unfold cut
  by_cases h : i < 11
  · rw [if_pos h, if_pos h]
    rcases (by omega : i = 0 ∨ i = 1 ∨ i = 2 ∨ i = 3 ∨ i = 4 ∨ i = 5 ∨ i = 6 ∨ i = 7 ∨ i = 8 ∨ i = 9 ∨ i = 10) with rfl | rfl | rfl | rfl | rfl | rfl | rfl | rfl | rfl | rfl | rfl
    · rfl
    · rfl
    · rfl
    · rfl
    · show nI (d / 7) = nI ((nI d).toInt.toNat / 7)
      rw [nI_tn hd]
    · show nI (d % 7) = nI ((nI d).toInt.toNat % 7)
      rw [nI_tn hd]
    · rfl
    · rfl
    · rfl
    · rfl
    · rfl
  · rw [if_neg h, if_neg h]
theorem FTX.un {o : OutT} {f : Nat → Int32} {cl : ClsT} {h r r2 : Int32} (a : FTX o f cl h r) (b : FTX o f cl h r2) : r = r2 := by
  rcases a with ⟨j, z, a1, a2, a3, a4⟩ | ⟨a1, a2⟩ <;> rcases b with ⟨k, w, b1, b2, b3, b4⟩ | ⟨b1, b2⟩
  · rcases Nat.lt_trichotomy j k with q | q | q
    · exact absurd a2 (b3 j z q a1)
    · rw [a4, b4, q]
    · exact absurd b2 (a3 k w q b1)
  · exact absurd a2 (b1 j z a1)
  · exact absurd b2 (a1 k w b1)
  · rw [a2, b2]
/-- a number is in a set -/
def inS (s : Int32) (i : Nat) : Prop := ¬ (s >>> (nI i &&& 31)) &&& 1 = 0
/-- the law's text, the loads' marks and the batches of both are the same -/
def TXL (ad : Nat → Nat → Nat) (cn : Nat → Nat) (Fn F3 : Nat → Nat → Int32) : Prop := (∃ (o : OutT) (cl : ClsT), XTy (ad 4 0) Fn 108 o cl ∧ MTx F3 10 o cl) ∧ (∀ i : Nat, i < cn 11 → (Fn 129 i = 0 ↔ F3 15 i = -1)) ∧ ∀ j : Nat, j < cn 12 → (Fn 144 j = F3 64 j ∧ Fn 147 j = F3 65 j) ∧ (Fn 146 j = mxI (Fn 122) (Fn 144 j) 20 ∧ Fn 141 j = mxI (fun i => Fn 122 i * Fn 123 i) (Fn 144 j) 20 ∧ Fn 142 j = mxI (fun i => Fn 122 i * Fn 124 i) (Fn 144 j) 20) ∧ ∀ i : Nat, i < 20 → inS (Fn 144 j) i → i < cn 11
section TXLS
variable {ad a2 : Nat → Nat → Nat} {cn c2 : Nat → Nat} {Fn F2 F3 F4 : Nat → Nat → Int32} {T U N n : Nat} {o : OutT} {cl : ClsT} {ld : Int32}
theorem mxL_cg {fl fw fa gl gw ga p : Nat → Int32} {s : Int32} {d : Nat} (h : ∀ i : Nat, i < 20 → inS s i → fl i = gl i ∧ fw i = gw i ∧ fa i = ga i) : mxL fl fw fa p s d = mxL gl gw ga p s d := by
  have h1 : mxI fl s 20 = mxI gl s 20 := mxI_cg 20 (fun i hi hb => (h i hi hb).1)
  have h2 : mxI (fun i => fl i * fw i) s 20 = mxI (fun i => gl i * gw i) s 20 := mxI_cg 20 (fun i hi hb => by
    show fl i * fw i = gl i * gw i
    rw [(h i hi hb).1, (h i hi hb).2.1])
  have h3 : mxI (fun i => fl i * fa i) s 20 = mxI (fun i => gl i * ga i) s 20 := mxI_cg 20 (fun i hi hb => by
    show fl i * fa i = gl i * ga i
    rw [(h i hi hb).1, (h i hi hb).2.2])
  unfold mxL
  rw [h1, h2, h3]
/-- nothing of it is touched, but for texts that the law hasn't -/
theorem TXL.keep (h : TXL ad cn Fn F3) (hT : ad 4 0 < cn 6) (kp : KPT (cn 6) Fn F2) (e199 : ∀ T : Nat, T < cn 6 → F2 199 T = Fn 199 T) (h4 : a2 4 0 = ad 4 0) (e11 : c2 11 = cn 11) (e12 : c2 12 = cn 12) (f : ∀ k : Nat, k ∈ [122, 123, 124, 129, 141, 142, 144, 146, 147] → F2 k = Fn k) (gm : ∀ (o : OutT) (cl : ClsT), o.length ≤ 160 → cl.length ≤ 12 → MTx F3 10 o cl → MTx F4 10 o cl) (g : ∀ k : Nat, k ∈ [15, 64, 65] → F4 k = F3 k) : TXL a2 c2 F2 F4 := by
  obtain ⟨⟨o, cl, hx, hm⟩, hb, hs⟩ := h
  refine ⟨⟨o, cl, ?_, gm _ _ hx.1.2.2.1 hx.1.2.2.2 hm⟩, ?_, ?_⟩
  · rw [h4]
    exact hx.kp kp (by omega) (e199 _ hT)
  · rw [e11, f 129 (by decide), g 15 (by decide)]
    exact hb
  · rw [e11, e12, f 122 (by decide), f 123 (by decide), f 124 (by decide), f 141 (by decide), f 142 (by decide), f 144 (by decide), f 146 (by decide), f 147 (by decide), g 64 (by decide), g 65 (by decide)]
    exact hs
theorem TXL.cg (h : TXL ad cn Fn F3) (h4 : a2 4 0 = ad 4 0) (e11 : c2 11 = cn 11) (e12 : c2 12 = cn 12) (f : ∀ k : Nat, k ∈ [122, 123, 124, 129, 141, 142, 144, 146, 147, 195, 198, 199, 301, 302, 303, 304] → F2 k = Fn k) (g : ∀ k : Nat, k ∈ [15, 32, 33, 34, 35, 36, 64, 65] → F4 k = F3 k) : TXL a2 c2 F2 F4 := by
  obtain ⟨⟨o, cl, hx, hm⟩, hb, hs⟩ := h
  refine ⟨⟨o, cl, ?_, hm.cf (g _ (by decide)) (g _ (by decide)) (g _ (by decide)) (g _ (by decide)) (g _ (by decide))⟩, ?_, ?_⟩
  · rw [h4]
    exact hx.cg (f _ (by decide)) (f _ (by decide)) (f _ (by decide)) (f _ (by decide)) (f _ (by decide)) (f _ (by decide)) (f _ (by decide))
  · rw [e11, f 129 (by decide), g 15 (by decide)]
    exact hb
  · rw [e11, e12, f 122 (by decide), f 123 (by decide), f 124 (by decide), f 141 (by decide), f 142 (by decide), f 144 (by decide), f 146 (by decide), f 147 (by decide), g 64 (by decide), g 65 (by decide)]
    exact hs
/-- a load more -/
theorem TXL.fet {v2 v3 v4 : Int32} (h : TXL ad cn Fn F3) (h4 : a2 4 0 = ad 4 0) (e11 : c2 11 = cn 11 + 1) (e12 : c2 12 = cn 12) (e122 : F2 122 = upd (Fn 122) (cn 11) v2) (e123 : F2 123 = upd (Fn 123) (cn 11) v3) (e124 : F2 124 = upd (Fn 124) (cn 11) v4) (e129 : F2 129 = upd (Fn 129) (cn 11) 0) (f : ∀ k : Nat, k ∈ [141, 142, 144, 146, 147, 195, 198, 199, 301, 302, 303, 304] → F2 k = Fn k) (g15 : F4 15 = upd (F3 15) (cn 11) (-1)) (g : ∀ k : Nat, k ∈ [32, 33, 34, 35, 36, 64, 65] → F4 k = F3 k) : TXL a2 c2 F2 F4 := by
  obtain ⟨⟨o, cl, hx, hm⟩, hb, hs⟩ := h
  have u : ∀ {w : Nat → Int32} {x : Int32} {j : Nat}, j < cn 11 → upd w (cn 11) x j = w j := fun hj => if_neg (by omega)
  refine ⟨⟨o, cl, ?_, hm.cf (g _ (by decide)) (g _ (by decide)) (g _ (by decide)) (g _ (by decide)) (g _ (by decide))⟩, fun i hi => ?_, fun j hj => ?_⟩
  · rw [h4]
    exact hx.cg (f _ (by decide)) (f _ (by decide)) (f _ (by decide)) (f _ (by decide)) (f _ (by decide)) (f _ (by decide)) (f _ (by decide))
  · rw [e11] at hi
    rw [e129, g15]
    by_cases q : i = cn 11
    · subst q
      rw [upd_self, upd_self]
      exact ⟨fun _ => rfl, fun _ => rfl⟩
    · rw [u (by omega), u (by omega)]
      exact hb i (by omega)
  · rw [e12] at hj
    obtain ⟨a, ⟨b1, b2, b3⟩, c⟩ := hs j hj
    rw [e11, e122, e123, e124, f 141 (by decide), f 142 (by decide), f 144 (by decide), f 146 (by decide), f 147 (by decide), g 64 (by decide), g 65 (by decide)]
    refine ⟨a, ⟨b1.trans (mxI_cg 20 (fun i hi w => ?_)), b2.trans (mxI_cg 20 (fun i hi w => ?_)), b3.trans (mxI_cg 20 (fun i hi w => ?_))⟩, fun i hi w => Nat.lt_succ_of_lt (c i hi w)⟩
    · exact (u (c i hi w)).symm
    · show Fn 122 i * Fn 123 i = upd (Fn 122) (cn 11) v2 i * upd (Fn 123) (cn 11) v3 i
      rw [u (c i hi w), u (c i hi w)]
    · show Fn 122 i * Fn 124 i = upd (Fn 122) (cn 11) v2 i * upd (Fn 124) (cn 11) v4 i
      rw [u (c i hi w), u (c i hi w)]
/-- the law told anew -/
theorem TXL.law {p9 : Nat} {bb : Nat → Int32} (h : TXL ad cn Fn F3) (e199 : F2 199 = upd (Fn 199) (cn 6) (nI N)) (hN : N ≤ 160) (h4 : a2 4 0 = cn 6) (hx9 : XTx (cn 6) F2 o cl) (hl : o.length ≤ N) (htx : txV bb n 108 = .ok (p9, o, cl)) (hm9 : MTx F4 10 o cl) (e11 : c2 11 = cn 11) (e12 : c2 12 = cn 12) (f : ∀ k : Nat, k ∈ [122, 123, 124, 129, 141, 142, 144, 146, 147] → F2 k = Fn k) (g : ∀ k : Nat, k ∈ [15, 64, 65] → F4 k = F3 k) : TXL a2 c2 F2 F4 := by
  obtain ⟨-, hb, hs⟩ := h
  refine ⟨⟨o, cl, ?_, hm9⟩, ?_, ?_⟩
  · rw [h4]
    exact ⟨hx9, ⟨N, by rw [e199, upd_self], hN, hl⟩, txV_gd htx⟩
  · rw [e11, f 129 (by decide), g 15 (by decide)]
    exact hb
  · rw [e11, e12, f 122 (by decide), f 123 (by decide), f 124 (by decide), f 141 (by decide), f 142 (by decide), f 144 (by decide), f 146 (by decide), f 147 (by decide), g 64 (by decide), g 65 (by decide)]
    exact hs
/-- a batch more -/
theorem TXL.bat {v x : Int32} (h : TXL ad cn Fn F3) (h4 : a2 4 0 = ad 4 0) (e11 : c2 11 = cn 11) (e12 : c2 12 = cn 12 + 1) (hm : cn 12 < 10) (hv : ∀ i : Nat, i < 20 → inS v i → i < cn 11) (f : ∀ k : Nat, k ∈ [122, 123, 124, 195, 198, 199, 301, 302, 303, 304] → F2 k = Fn k) (f129 : ∀ k : Nat, F2 129 k = if k < cn 11 ∧ k < 20 ∧ ¬ (v >>> (nI k &&& 31)) &&& 1 = 0 then 1 else Fn 129 k) (f141 : F2 141 = upd (Fn 141) (cn 12) (mxI (fun i => Fn 122 i * Fn 123 i) v 20)) (f142 : F2 142 = upd (Fn 142) (cn 12) (mxI (fun i => Fn 122 i * Fn 124 i) v 20)) (f144 : F2 144 = upd (Fn 144) (cn 12) v) (f146 : F2 146 = upd (Fn 146) (cn 12) (mxI (Fn 122) v 20)) (f147 : F2 147 = upd (Fn 147) (cn 12) x) (g : ∀ k : Nat, k ∈ [32, 33, 34, 35, 36] → F4 k = F3 k) (g15 : ∀ k : Nat, F4 15 k = if k < 20 ∧ ¬ (v >>> (nI k &&& 31)) &&& 1 = 0 then nI (cn 12) else F3 15 k) (g64 : F4 64 = upd (F3 64) (cn 12) v) (g65 : F4 65 = upd (F3 65) (cn 12) x) : TXL a2 c2 F2 F4 := by
  obtain ⟨⟨o, cl, hx, hM⟩, hb, hs⟩ := h
  refine ⟨⟨o, cl, ?_, hM.cf (g _ (by decide)) (g _ (by decide)) (g _ (by decide)) (g _ (by decide)) (g _ (by decide))⟩, fun i hi => ?_, fun j hj => ?_⟩
  · rw [h4]
    exact hx.cg (f _ (by decide)) (f _ (by decide)) (f _ (by decide)) (f _ (by decide)) (f _ (by decide)) (f _ (by decide)) (f _ (by decide))
  · rw [e11] at hi
    rw [f129, g15]
    by_cases q : i < 20 ∧ ¬ (v >>> (nI i &&& 31)) &&& 1 = 0
    · rw [if_pos ⟨hi, q⟩, if_pos q]
      constructor
      · intro w
        exact absurd w (by decide)
      · intro w
        have t := congrArg Int32.toInt w
        rw [nI_toInt (by omega)] at t
        have t1 : (-1 : Int32).toInt = -1 := rfl
        omega
    · rw [if_neg (fun w => q w.2), if_neg q]
      exact hb i hi
  · rw [e12] at hj
    rw [e11, f 122 (by decide), f 123 (by decide), f 124 (by decide), f141, f142, f144, f146, f147, g64, g65]
    by_cases q : j = cn 12
    · subst q
      rw [upd_self, upd_self, upd_self, upd_self, upd_self, upd_self, upd_self]
      exact ⟨⟨rfl, rfl⟩, ⟨rfl, rfl, rfl⟩, hv⟩
    · have u : ∀ {w : Nat → Int32} {y : Int32}, upd w (cn 12) y j = w j := if_neg q
      rw [u, u, u, u, u, u, u]
      exact hs j (by omega)
theorem TXL.start {g f : Nat → Nat → Int32} (h11 : cn 11 = 0) (h12 : cn 12 = 0) (h195 : g 195 (ad 4 0) = 0) (h198 : g 198 (ad 4 0) = 0) (h199 : g 199 (ad 4 0) = 0) (hz : f 33 10 = 0) : TXL ad cn g f := by
  refine ⟨⟨[], [], ⟨⟨⟨h195, fun i z hi => ?_⟩, ⟨h198, fun j z hj => ?_⟩, Nat.zero_le _, Nat.zero_le _⟩, ⟨0, h199, Nat.zero_le _, Nat.le_refl _⟩, fun z hz => ?_⟩, ⟨hz, fun i z hi => ?_, fun j z hj => ?_⟩⟩, fun i hi => ?_, fun j hj => ?_⟩
  · rw [List.getElem?_nil] at hi; cases hi
  · rw [List.getElem?_nil] at hj; cases hj
  · cases hz
  · rw [List.getElem?_nil] at hi; cases hi
  · rw [List.getElem?_nil] at hj; cases hj
  · omega
  · omega
end TXLS
theorem ifcg9 {p q : Prop} [Decidable p] [Decidable q] {x y : Int32} (h : p ↔ q) : (if p then x else y) = if q then x else y := by
  by_cases a : p
  · rw [if_pos a, if_pos (h.mp a)]
  · rw [if_neg a, if_neg (fun b => a (h.mpr b))]



set_option maxRecDepth 100000 in
set_option maxHeartbeats 4000000 in
theorem q_WcanLoad (l : Launch) (D : va_G) (cI cB cZ : ClassId) (zz qq vv : Nat) (bt : Nat → Int32) (g : Nat → Nat) (ad : Nat → Nat → Nat) (cn : Nat → Nat) (In : Nat → Int32) (Fn : Nat → Nat → Int32) (k0 : Nat) (hB : CBX cn) (hk : k0 < cn 11) : Met l yX11_canBeBatched (CWS yX11_canBeBatched cX11_canBeBatched 2 (some .boolean)) (RM 0 0 0) (PBrx [.ref (g 0), .ref (ad 11 k0)] D cI cB cZ zz qq vv bt (wX cI (D.1 99) zz g ad cn In Fn)) (vp_Si (fun r => (r = 1 ∧ Fn 129 k0 = 0 ∧ (Fn 125 k0).toInt ≤ (cn 0 : Int)) ∨ (r = 0 ∧ ¬ (Fn 129 k0 = 0 ∧ (Fn 125 k0).toInt ≤ (cn 0 : Int))))) 0 0 (fun _ => False) := by
  refine en_rx rfl pn_RX11 (Nat.le_of_ble_eq_true rfl) (fun p e s m below meth c hx hb hml hown S hr hlocks hnm hP hK hXS hS ls hl => ?_)
  have hl : lv_has ls 2 [(0, .ref (g 0)), (1, .ref (ad 11 k0))] := hl
  have hb_cn : Hid (CBX cn) := hB
  replace hB : CBXh cn := hB
  refine lv_aload_n hx hb (oc_43 0 shX11_canBeBatched_0) rfl (lvA1 hl) ?_
  refine lv_ifnull hx hb (oc_198 1 (aq_1 shX11_canBeBatched_0) sgw_0_25) ?_
  refine lv_aload_n hx hb (oc_43 4 (aq_4 shX11_canBeBatched_0)) rfl (lvA1 hl) ?_
  refine gf_RX11_349 S hK hP _ (xf_1 hk) (v := .int ((Fn 129) k0)) rfl (oc_180 5 (aq_5 shX11_canBeBatched_0) uw_1_93) ?_
  refine lv_if_ne (tgt := 26) hx hb (oc_154 8 (aq_8 shX11_canBeBatched_0) sgw_0_18) rfl (fun c_1 => ?_) (fun c_1 => ?_)
  ·
    have tc_1 : (((Fn 129) k0).toInt : Int) ≠ 0 := fun q => c_1 (Int32.toInt_inj.mp q)
    refine lv_iconst (v := 0) hx hb dX11_canBeBatched_26 kic_0 ?_
    exact W.zret (v := 0) hx hb hr rfl (fun t ht hW => ⟨0, rfl, (Or.inr ⟨rfl, fun q9 => by first | exact absurd q9.1 (by assumption) | (have q8 := q9.2; (first | omega | (have zz0 := Hid.u hb_cn; omega))) | (have q8 := congrArg Int32.toInt q9.1; (first | omega | (have zz0 := Hid.u hb_cn; omega)))⟩), ht⟩) (fun _ h => absurd h List.not_mem_nil) dX11_canBeBatched_27
  ·
    have tc_1 : (((Fn 129) k0).toInt : Int) = 0 := congrArg Int32.toInt c_1
    refine lv_aload_n hx hb (oc_43 11 (aq_11 shX11_canBeBatched_0)) rfl (lvA1 hl) ?_
    refine gf_RX11_235 S hK hP _ (xf_1 hk) (v := .int ((Fn 125) k0)) rfl (oc_180 12 (aq_12 shX11_canBeBatched_0) uw_0_235) ?_
    refine lv_aload_n hx hb (oc_42 15 (aq_15 shX11_canBeBatched_0)) rfl (lvA0 hl) ?_
    refine gf_RX11_103 S hK hP 0 xo_0 (v := .int (nI (cn 0))) rfl (oc_180 16 (aq_16 shX11_canBeBatched_0) uw_0_103) ?_
    have : (nI (cn 0)).toInt = (((cn 0) : Nat) : Int) := nI_toInt (by (first | omega | (have zz0 := Hid.u hb_cn; omega)))
    refine lv_icmp_gt (tgt := 26) hx hb (oc_163 19 (aq_19 shX11_canBeBatched_0) sgw_0_7) rfl (fun c_2 => ?_) (fun c_2 => ?_)
    ·
      have tc_2 : ((nI (cn 0)).toInt : Int) < ((Fn 125) k0).toInt := Int32.lt_iff_toInt_lt.mp c_2
      refine lv_iconst (v := 0) hx hb dX11_canBeBatched_26 kic_0 ?_
      exact W.zret (v := 0) hx hb hr rfl (fun t ht hW => ⟨0, rfl, (Or.inr ⟨rfl, fun q9 => by first | exact absurd q9.1 (by assumption) | (have q8 := q9.2; (first | omega | (have zz0 := Hid.u hb_cn; omega))) | (have q8 := congrArg Int32.toInt q9.1; (first | omega | (have zz0 := Hid.u hb_cn; omega)))⟩), ht⟩) (fun _ h => absurd h List.not_mem_nil) dX11_canBeBatched_27
    ·
      have tc_2 : (((Fn 125) k0).toInt : Int) ≤ (nI (cn 0)).toInt := Int32.le_iff_toInt_le.mp (Int32.not_lt.mp c_2)
      refine lv_iconst (v := 1) hx hb (oc_4 22 (aq_22 shX11_canBeBatched_0)) kic_1 ?_
      refine lv_goto (tgt := 27) hx hb (oc_167 23 (aq_23 shX11_canBeBatched_0) sgw_0_4) rfl ?_
      exact W.zret (v := 1) hx hb hr rfl (fun t ht hW => ⟨1, rfl, (Or.inl ⟨rfl, (by first | assumption | exact Int32.toInt_inj.mp (by assumption)), by (first | omega | (have zz0 := Hid.u hb_cn; omega))⟩), ht⟩) (fun _ h => absurd h List.not_mem_nil) dX11_canBeBatched_27
set_option maxRecDepth 100000 in
set_option maxHeartbeats 4000000 in
theorem q_WlettersOfLaw (l : Launch) (D : va_G) (cI cB cZ : ClassId) (zz qq vv : Nat) (bt : Nat → Int32) (g : Nat → Nat) (ad : Nat → Nat → Nat) (cn : Nat → Nat) (In : Nat → Int32) (Fn : Nat → Nat → Int32)  (sz : Nat) (hB : CBX cn) (hbt : BTL bt) : Met l yX11_lettersOfLaw (CWS yX11_lettersOfLaw cX11_lettersOfLaw 1 none) (RM 6 0 0) (PBx [.ref (g 0)] D cI cB cZ zz qq vv bt (wX cI (D.1 99) zz g ad cn In Fn) sz) (va_Qv (fun (u : (Nat → Nat) × (Nat → Int32) × (Nat → Nat → Int32)) => (fun c2 I2 F2 => Fr [] [] [7] cn In Fn c2 I2 F2 ∧ CBX c2 ∧ (F2 7 = upd (upd (upd (upd (upd (upd (upd (Fn 7) 3 (nI (cn 0))) 4 (nI ((nI (cn 0)).toInt.toNat / 7))) 5 (nI ((nI (cn 0)).toInt.toNat % 7))) 9 (Fn 20 ((nI (cn 0)).toInt.toNat / 7))) 6 0) 7 0) 8 0)) u.1 u.2.1 u.2.2) (fun (u : (Nat → Nat) × (Nat → Int32) × (Nat → Nat → Int32)) (t : State) => va_P D vwCl (wX cI (D.1 99) zz g ad u.1 u.2.1 u.2.2) t.heap ∧ va_D (va_A (wX cI (D.1 99) zz g ad cn In Fn) sz) (wX cI (D.1 99) zz g ad u.1 u.2.1 u.2.2)) (va_A (wX cI (D.1 99) zz g ad cn In Fn) sz)) 0 0 (va_A (wX cI (D.1 99) zz g ad cn In Fn) sz) := by
  refine en_x (fun A => (va_Qv (fun (u : (Nat → Nat) × (Nat → Int32) × (Nat → Nat → Int32)) => (fun (c2 : Nat → Nat) (I2 : Nat → Int32) (F2 : Nat → Nat → Int32) => Fr [] [] [7] cn In Fn c2 I2 F2 ∧ CBX c2 ∧ (F2 7 = upd (upd (upd (upd (upd (upd (upd (Fn 7) 3 (nI (cn 0))) 4 (nI ((nI (cn 0)).toInt.toNat / 7))) 5 (nI ((nI (cn 0)).toInt.toNat % 7))) 9 (Fn 20 ((nI (cn 0)).toInt.toNat / 7))) 6 0) 7 0) 8 0)) u.1 u.2.1 u.2.2) (fun (u : (Nat → Nat) × (Nat → Int32) × (Nat → Nat → Int32)) (t : State) => va_P D vwCl (wX cI (D.1 99) zz g ad u.1 u.2.1 u.2.2) t.heap ∧ va_D A (wX cI (D.1 99) zz g ad u.1 u.2.1 u.2.2)) A)) rfl rfl pn_RX11 (Nat.le_of_ble_eq_true rfl) (fun p e s m below meth c A hx hb hml hown S hr hlocks hnm hA hP hK hD hXS hS ls hl => ?_)
  have hl : lv_has ls 1 [(0, .ref (g 0))] := hl
  have hb_cn : Hid (CBX cn) := hB
  replace hB : CBXh cn := hB
  refine lv_aload_n hx hb (oc_42 0 shX11_lettersOfLaw_0) rfl (lvA0 hl) ?_
  refine lv_aload_n hx hb (oc_42 1 (aq_1 shX11_lettersOfLaw_0)) rfl (lvA0 hl) ?_
  refine gf_RX11_103 S hK hP 0 xo_0 (v := .int (nI (cn 0))) rfl (oc_180 2 (aq_2 shX11_lettersOfLaw_0) uw_0_103) ?_
  have hFc := free_all hD hS hA
  refine va_callv (runV_xa (As := [.int (nI (cn 0))]) (rest := []) S (q_WlettersOfDay l D cI cB cZ zz qq vv bt g ad cn In Fn (nI (cn 0)) s.heap.size hB hbt (by rw [nI_toInt (by (first | omega | (have zz0 := Hid.u hb_cn; omega)))]; (first | omega | (have zz0 := Hid.u hb_cn; omega)))) kV_RX11_199 hK hXS hS hFc hP hD 0 xo_0 rfl rfl ⟨Nat.le_of_ble_eq_true rfl, Nat.le_of_ble_eq_true rfl⟩ ⟨Nat.le_of_ble_eq_true rfl, Nat.le_of_ble_eq_true rfl⟩ rfl hl.1 rfl (Nat.le_of_ble_eq_true rfl) (oc_182 5 (aq_5 shX11_lettersOfLaw_0) uw_0_199)) hS (fun q _ h => hFc q h) hFc (fun u t H1 locs ht hvm wh_2 hB1 hz1 hk1 hS => ?_)
  obtain ⟨cn2, In2, Fn2⟩ := u
  obtain ⟨hP1, hD1⟩ := hB1
  rw [ht] at hP1
  have hP : va_P D vwCl (wX cI (D.1 99) zz g ad cn2 In2 Fn2) H1 := hP1
  have hD : va_D A (wX cI (D.1 99) zz g ad cn2 In2 Fn2) := hD1.weaken (fun _ _ _ h => hFc _ h)
  generalize H1 = H at hP hS ⊢
  have vh_2 : (fun c2 I2 F2 => Fr [] [] [7] cn In Fn c2 I2 F2 ∧ CBX c2 ∧ (F2 7 = upd (upd (upd (upd ((Fn 7)) 3 (nI (cn 0))) 4 (nI ((nI (cn 0)).toInt.toNat / 7))) 5 (nI ((nI (cn 0)).toInt.toNat % 7))) 9 ((Fn 20) ((nI (cn 0)).toInt.toNat / 7)))) cn2 In2 Fn2 := wh_2
  obtain ⟨hfc2, hIn2, h_2⟩ := vh_2
  obtain rfl : cn = cn2 := (funext (fun k => hfc2.1 k List.not_mem_nil)).symm
  obtain rfl : In = In2 := (funext (fun k => hfc2.2.1 k List.not_mem_nil)).symm
  have hf2 : Fr [] [] [7] cn In Fn cn In Fn2 := Fr.mo (Fr.tr (Fr.rf (cn := cn) (In := In) (Fn := Fn)) hfc2) (sbl rfl) (sbl rfl) (sbl rfl)
  replace hIn2 : CBXh cn := hIn2
  refine lv_aload_n hx hb (oc_42 8 (aq_8 shX11_lettersOfLaw_0)) rfl (lvA0 hl) ?_
  refine lv_bipush (v := 107) hx hb (oc_16 9 (aq_9 shX11_lettersOfLaw_0) sgb_107) kbc_107 ?_
  refine lv_iconst (v := 0) hx hb (oc_3 11 (aq_11 shX11_lettersOfLaw_0)) kic_0 ?_
  have hFc := free_all hD hS hA
  refine va_callv (runV_xa (As := [.int 107, .int 0]) (rest := []) S (q_Wletter l D cI cB cZ zz qq vv bt g ad cn In Fn2 107 0 6 H.size hIn2 hbt (by decide) (by decide)) kV_RX11_188 hK hXS hS hFc hP hD 0 xo_0 rfl rfl ⟨Nat.le_of_ble_eq_true rfl, Nat.le_of_ble_eq_true rfl⟩ ⟨Nat.le_of_ble_eq_true rfl, Nat.le_of_ble_eq_true rfl⟩ rfl hl.1 rfl (Nat.le_of_ble_eq_true rfl) (oc_182 12 (aq_12 shX11_lettersOfLaw_0) uw_0_188)) hS (fun q _ h => hFc q h) hFc (fun u t H1 locs ht hvm wh_4 hB1 hz1 hk1 hS => ?_)
  obtain ⟨cn4, In4, Fn4⟩ := u
  obtain ⟨hP1, hD1⟩ := hB1
  rw [ht] at hP1
  have hP : va_P D vwCl (wX cI (D.1 99) zz g ad cn4 In4 Fn4) H1 := hP1
  have hD : va_D A (wX cI (D.1 99) zz g ad cn4 In4 Fn4) := hD1.weaken (fun _ _ _ h => hFc _ h)
  generalize H1 = H at hP hS ⊢
  have vh_4 : (fun c2 I2 F2 => Fr [] [] [7] cn In Fn2 c2 I2 F2 ∧ CBX c2 ∧ (F2 7 = upd ((Fn2 7)) 6 0)) cn4 In4 Fn4 := wh_4
  obtain ⟨hfc4, hIn4, h_4⟩ := vh_4
  obtain rfl : cn = cn4 := (funext (fun k => hfc4.1 k List.not_mem_nil)).symm
  obtain rfl : In = In4 := (funext (fun k => hfc4.2.1 k List.not_mem_nil)).symm
  have hf4 : Fr [] [] [7] cn In Fn cn In Fn4 := Fr.mo (Fr.tr hf2 hfc4) (sbl rfl) (sbl rfl) (sbl rfl)
  replace hIn4 : CBXh cn := hIn4
  rw [h_2] at h_4
  refine lv_aload_n hx hb (oc_42 15 (aq_15 shX11_lettersOfLaw_0)) rfl (lvA0 hl) ?_
  refine lv_bipush (v := 109) hx hb (oc_16 16 (aq_16 shX11_lettersOfLaw_0) sgb_109) kbc_109 ?_
  refine lv_iconst (v := 0) hx hb (oc_3 18 (aq_18 shX11_lettersOfLaw_0)) kic_0 ?_
  have hFc := free_all hD hS hA
  refine va_callv (runV_xa (As := [.int 109, .int 0]) (rest := []) S (q_Wletter l D cI cB cZ zz qq vv bt g ad cn In Fn4 109 0 7 H.size hIn4 hbt (by decide) (by decide)) kV_RX11_188 hK hXS hS hFc hP hD 0 xo_0 rfl rfl ⟨Nat.le_of_ble_eq_true rfl, Nat.le_of_ble_eq_true rfl⟩ ⟨Nat.le_of_ble_eq_true rfl, Nat.le_of_ble_eq_true rfl⟩ rfl hl.1 rfl (Nat.le_of_ble_eq_true rfl) (oc_182 19 (aq_19 shX11_lettersOfLaw_0) uw_0_188)) hS (fun q _ h => hFc q h) hFc (fun u t H1 locs ht hvm wh_6 hB1 hz1 hk1 hS => ?_)
  obtain ⟨cn6, In6, Fn6⟩ := u
  obtain ⟨hP1, hD1⟩ := hB1
  rw [ht] at hP1
  have hP : va_P D vwCl (wX cI (D.1 99) zz g ad cn6 In6 Fn6) H1 := hP1
  have hD : va_D A (wX cI (D.1 99) zz g ad cn6 In6 Fn6) := hD1.weaken (fun _ _ _ h => hFc _ h)
  generalize H1 = H at hP hS ⊢
  have vh_6 : (fun c2 I2 F2 => Fr [] [] [7] cn In Fn4 c2 I2 F2 ∧ CBX c2 ∧ (F2 7 = upd ((Fn4 7)) 7 0)) cn6 In6 Fn6 := wh_6
  obtain ⟨hfc6, hIn6, h_6⟩ := vh_6
  obtain rfl : cn = cn6 := (funext (fun k => hfc6.1 k List.not_mem_nil)).symm
  obtain rfl : In = In6 := (funext (fun k => hfc6.2.1 k List.not_mem_nil)).symm
  have hf6 : Fr [] [] [7] cn In Fn cn In Fn6 := Fr.mo (Fr.tr hf4 hfc6) (sbl rfl) (sbl rfl) (sbl rfl)
  replace hIn6 : CBXh cn := hIn6
  rw [h_4] at h_6
  refine lv_aload_n hx hb (oc_42 22 (aq_22 shX11_lettersOfLaw_0)) rfl (lvA0 hl) ?_
  refine lv_bipush (v := 115) hx hb (oc_16 23 (aq_23 shX11_lettersOfLaw_0) sgb_115) kbc_115 ?_
  refine lv_iconst (v := 0) hx hb (oc_3 25 shX11_lettersOfLaw_25) kic_0 ?_
  have hFc := free_all hD hS hA
  refine va_callv (runV_xa (As := [.int 115, .int 0]) (rest := []) S (q_Wletter l D cI cB cZ zz qq vv bt g ad cn In Fn6 115 0 8 H.size hIn6 hbt (by decide) (by decide)) kV_RX11_188 hK hXS hS hFc hP hD 0 xo_0 rfl rfl ⟨Nat.le_of_ble_eq_true rfl, Nat.le_of_ble_eq_true rfl⟩ ⟨Nat.le_of_ble_eq_true rfl, Nat.le_of_ble_eq_true rfl⟩ rfl hl.1 rfl (Nat.le_of_ble_eq_true rfl) (oc_182 26 (aq_1 shX11_lettersOfLaw_25) uw_0_188)) hS (fun q _ h => hFc q h) hFc (fun u t H1 locs ht hvm wh_8 hB1 hz1 hk1 hS => ?_)
  obtain ⟨cn8, In8, Fn8⟩ := u
  obtain ⟨hP1, hD1⟩ := hB1
  rw [ht] at hP1
  have hP : va_P D vwCl (wX cI (D.1 99) zz g ad cn8 In8 Fn8) H1 := hP1
  have hD : va_D A (wX cI (D.1 99) zz g ad cn8 In8 Fn8) := hD1.weaken (fun _ _ _ h => hFc _ h)
  generalize H1 = H at hP hS ⊢
  have vh_8 : (fun c2 I2 F2 => Fr [] [] [7] cn In Fn6 c2 I2 F2 ∧ CBX c2 ∧ (F2 7 = upd ((Fn6 7)) 8 0)) cn8 In8 Fn8 := wh_8
  obtain ⟨hfc8, hIn8, h_8⟩ := vh_8
  obtain rfl : cn = cn8 := (funext (fun k => hfc8.1 k List.not_mem_nil)).symm
  obtain rfl : In = In8 := (funext (fun k => hfc8.2.1 k List.not_mem_nil)).symm
  have hf8 : Fr [] [] [7] cn In Fn cn In Fn8 := Fr.mo (Fr.tr hf6 hfc8) (sbl rfl) (sbl rfl) (sbl rfl)
  replace hIn8 : CBXh cn := hIn8
  rw [h_6] at h_8
  exact W.vret hx hb hr (fun t ht hW => ⟨⟨(cn, In, Fn8), rfl, ⟨(Fr.mo hf8 (sbl rfl) (sbl rfl) (sbl rfl)), hIn8, (by show Fn8 7 = upd (upd (upd (upd (upd (upd (upd (Fn 7) 3 (nI (cn 0))) 4 (nI ((nI (cn 0)).toInt.toNat / 7))) 5 (nI ((nI (cn 0)).toInt.toNat % 7))) 9 (Fn 20 ((nI (cn 0)).toInt.toNat / 7))) 6 0) 7 0) 8 0; exact h_8)⟩, by rw [ht]; exact hP, hD⟩, hS.F ht⟩) hS.2.2 (oc_177 29 (aq_4 shX11_lettersOfLaw_25))
set_option maxRecDepth 100000 in
set_option maxHeartbeats 4000000 in
theorem q_WbrokenClause (l : Launch) (D : va_G) (cI cB cZ : ClassId) (zz qq vv : Nat) (bt : Nat → Int32) (g : Nat → Nat) (ad : Nat → Nat → Nat) (cn : Nat → Nat) (In : Nat → Int32) (Fn : Nat → Nat → Int32) (bo w : Nat) (x1 x2 x3 x4 x5 x6 x7 : Int32) (o : OutT) (cl : ClsT) (ws : va_W) (sz : Nat) (hB : CBX cn) (hT : (∀ k : Nat, k < cn 10 → ad 3 k < cn 6) ∧ ad 4 0 < cn 6 ∧ ad 4 1 < cn 6) (hbt : BTL bt) (hX : XTy (ad 4 0) Fn 108 o cl) : Met l yX11_brokenClause (CWS yX11_brokenClause cX11_brokenClause 2 (some .int)) (RM 5 0 0) (PBx [.ref (g 0), .ref bo] D cI cB cZ zz qq vv bt ((wX cI (D.1 99) zz g ad cn In Fn) ++ (([(bo, .inr (1, [.ref w, .int x1, .int x2, .int x3, .int x4, .int x5, .int x6, .int x7]))] : va_W) ++ ws)) sz) (va_Qi (fun (r : Int32) (u : (Nat → Nat → Nat) × (Nat → Nat) × (Nat → Int32) × (Nat → Nat → Int32)) => (fun r a2 c2 I2 F2 => ad = a2 ∧ cn = c2 ∧ In = I2 ∧ (∀ k, k ∉ [7, 196, 197, 305] → F2 k = Fn k) ∧ FTX o (cut (upd (upd (upd (upd (Fn 7) 0 x6) 1 (if x6 = 0 then 0 else x1 / x6)) 2 (if x6 = 0 then 0 else x2 / x6)) 10 x5)) cl 0 r) r u.1 u.2.1 u.2.2.1 u.2.2.2) (fun (u : (Nat → Nat → Nat) × (Nat → Nat) × (Nat → Int32) × (Nat → Nat → Int32)) (t : State) => va_P D vwCl ((wX cI (D.1 99) zz g u.1 u.2.1 u.2.2.1 u.2.2.2) ++ (([(bo, .inr (1, [.ref w, .int x1, .int x2, .int x3, .int x4, .int x5, .int x6, .int x7]))] : va_W) ++ ws)) t.heap ∧ va_D (va_A ((wX cI (D.1 99) zz g ad cn In Fn) ++ (([(bo, .inr (1, [.ref w, .int x1, .int x2, .int x3, .int x4, .int x5, .int x6, .int x7]))] : va_W) ++ ws)) sz) ((wX cI (D.1 99) zz g u.1 u.2.1 u.2.2.1 u.2.2.2) ++ (([(bo, .inr (1, [.ref w, .int x1, .int x2, .int x3, .int x4, .int x5, .int x6, .int x7]))] : va_W) ++ ws))) (va_A ((wX cI (D.1 99) zz g ad cn In Fn) ++ (([(bo, .inr (1, [.ref w, .int x1, .int x2, .int x3, .int x4, .int x5, .int x6, .int x7]))] : va_W) ++ ws)) sz)) 0 0 (va_A ((wX cI (D.1 99) zz g ad cn In Fn) ++ (([(bo, .inr (1, [.ref w, .int x1, .int x2, .int x3, .int x4, .int x5, .int x6, .int x7]))] : va_W) ++ ws)) sz) := by
  refine en_x (fun A => (va_Qi (fun (r : Int32) (u : (Nat → Nat → Nat) × (Nat → Nat) × (Nat → Int32) × (Nat → Nat → Int32)) => (fun (r : Int32) (a2 : Nat → Nat → Nat) (c2 : Nat → Nat) (I2 : Nat → Int32) (F2 : Nat → Nat → Int32) => ad = a2 ∧ cn = c2 ∧ In = I2 ∧ (∀ k, k ∉ [7, 196, 197, 305] → F2 k = Fn k) ∧ FTX o (cut (upd (upd (upd (upd (Fn 7) 0 x6) 1 (if x6 = 0 then 0 else x1 / x6)) 2 (if x6 = 0 then 0 else x2 / x6)) 10 x5)) cl 0 r) r u.1 u.2.1 u.2.2.1 u.2.2.2) (fun (u : (Nat → Nat → Nat) × (Nat → Nat) × (Nat → Int32) × (Nat → Nat → Int32)) (t : State) => va_P D vwCl ((wX cI (D.1 99) zz g u.1 u.2.1 u.2.2.1 u.2.2.2) ++ (([(bo, .inr (1, [.ref w, .int x1, .int x2, .int x3, .int x4, .int x5, .int x6, .int x7]))] : va_W) ++ ws)) t.heap ∧ va_D A ((wX cI (D.1 99) zz g u.1 u.2.1 u.2.2.1 u.2.2.2) ++ (([(bo, .inr (1, [.ref w, .int x1, .int x2, .int x3, .int x4, .int x5, .int x6, .int x7]))] : va_W) ++ ws))) A)) rfl rfl pn_RX11 (Nat.le_of_ble_eq_true rfl) (fun p e s m below meth c A hx hb hml hown S hr hlocks hnm hA hP hK hD hXS hS ls hl => ?_)
  have hl : lv_has ls 2 [(0, .ref (g 0)), (1, .ref bo)] := hl
  refine lv_aload_n hx hb (oc_42 0 shX11_brokenClause_0) rfl (lvA0 hl) ?_
  refine lv_bipush (v := 113) hx hb (oc_16 1 (aq_1 shX11_brokenClause_0) sgb_113) kbc_113 ?_
  refine lv_aload_n hx hb (oc_43 3 (aq_3 shX11_brokenClause_0)) rfl (lvA1 hl) ?_
  refine gf_RX11_342 S hK hP _ (exr (m := 0) rfl) (v := .int x6) rfl (oc_180 4 (aq_4 shX11_brokenClause_0) uw_1_86) ?_
  have hFc := free_all (exD hD) hS hA
  refine va_callv (runV_xa (As := [.int 113, .int x6]) (rest := []) S (q_Wletter l D cI cB cZ zz qq vv bt g ad cn In Fn 113 x6 0 s.heap.size hB hbt (by decide) (by decide)) kV_RX11_188 hK hXS hS hFc (exP hP) (exD hD) 0 xo_0 rfl rfl ⟨Nat.le_of_ble_eq_true rfl, Nat.le_of_ble_eq_true rfl⟩ ⟨Nat.le_of_ble_eq_true rfl, Nat.le_of_ble_eq_true rfl⟩ rfl hl.1 rfl (Nat.le_of_ble_eq_true rfl) (oc_182 7 (aq_7 shX11_brokenClause_0) uw_0_188)) hS (fun q _ h => hFc q h) hFc (fun u t H1 locs ht hvm wh_2 hB1 hz1 hk1 hS => ?_)
  obtain ⟨cn2, In2, Fn2⟩ := u
  obtain ⟨hP1, hD1⟩ := hB1
  rw [ht] at hP1
  obtain ⟨hP, hD⟩ := exjoinL hP hD hk1 hFc hP1 hD1
  have hP : va_P D vwCl ((wX cI (D.1 99) zz g ad cn2 In2 Fn2) ++ (([(bo, .inr (1, [.ref w, .int x1, .int x2, .int x3, .int x4, .int x5, .int x6, .int x7]))] : va_W) ++ ws)) H1 := hP
  have hD : va_D A ((wX cI (D.1 99) zz g ad cn2 In2 Fn2) ++ (([(bo, .inr (1, [.ref w, .int x1, .int x2, .int x3, .int x4, .int x5, .int x6, .int x7]))] : va_W) ++ ws)) := hD
  generalize H1 = H at hP hS ⊢
  have vh_2 : (fun c2 I2 F2 => Fr [] [] [7] cn In Fn c2 I2 F2 ∧ CBX c2 ∧ (F2 7 = upd ((Fn 7)) 0 x6)) cn2 In2 Fn2 := wh_2
  obtain ⟨hfc2, hIn2, h_2⟩ := vh_2
  obtain rfl : cn = cn2 := (funext (fun k => hfc2.1 k List.not_mem_nil)).symm
  obtain rfl : In = In2 := (funext (fun k => hfc2.2.1 k List.not_mem_nil)).symm
  have hf2 : Fr [] [] [7, 196, 197, 305] cn In Fn cn In Fn2 := Fr.mo (Fr.tr (Fr.rf (cn := cn) (In := In) (Fn := Fn)) hfc2) (sbl rfl) (sbl rfl) (sbl rfl)
  refine lv_aload_n hx hb (oc_42 10 (aq_10 shX11_brokenClause_0)) rfl (lvA0 hl) ?_
  refine lv_bipush (v := 102) hx hb (oc_16 11 (aq_11 shX11_brokenClause_0) sgb_102) kbc_102 ?_
  refine lv_aload_n hx hb (oc_43 13 (aq_13 shX11_brokenClause_0)) rfl (lvA1 hl) ?_
  refine vp_callSi (runV_r (As := []) (rest := [.int 102, .ref (g 0)]) S (q_l_water l D cI cB cZ bo w x1 x2 x3 x4 x5 x6 x7) kV_RX11_343 hK hP _ (one_is (exr (m := 0) rfl)) _ (exr (m := 0) rfl) rfl rfl ⟨Nat.le_of_ble_eq_true rfl, Nat.le_of_ble_eq_true rfl⟩ ⟨Nat.le_of_ble_eq_true rfl, Nat.le_of_ble_eq_true rfl⟩ rfl hl.1 rfl (Nat.le_of_ble_eq_true rfl) (oc_182 14 (aq_14 shX11_brokenClause_0) uw_1_87)) (fun r_3 h_4 => ?_)
  subst h_4
  have hFc := free_all (exD hD) hS hA
  refine va_callv (runV_xa (As := [.int 102, .int (if x6 = 0 then 0 else x1 / x6)]) (rest := []) S (q_Wletter l D cI cB cZ zz qq vv bt g ad cn In Fn2 102 (if x6 = 0 then 0 else x1 / x6) 1 H.size hIn2 hbt (by decide) (by decide)) kV_RX11_188 hK hXS hS hFc (exP hP) (exD hD) 0 xo_0 rfl rfl ⟨Nat.le_of_ble_eq_true rfl, Nat.le_of_ble_eq_true rfl⟩ ⟨Nat.le_of_ble_eq_true rfl, Nat.le_of_ble_eq_true rfl⟩ rfl hl.1 rfl (Nat.le_of_ble_eq_true rfl) (oc_182 17 (aq_17 shX11_brokenClause_0) uw_0_188)) hS (fun q _ h => hFc q h) hFc (fun u t H1 locs ht hvm wh_6 hB1 hz1 hk1 hS => ?_)
  obtain ⟨cn6, In6, Fn6⟩ := u
  obtain ⟨hP1, hD1⟩ := hB1
  rw [ht] at hP1
  obtain ⟨hP, hD⟩ := exjoinL hP hD hk1 hFc hP1 hD1
  have hP : va_P D vwCl ((wX cI (D.1 99) zz g ad cn6 In6 Fn6) ++ (([(bo, .inr (1, [.ref w, .int x1, .int x2, .int x3, .int x4, .int x5, .int x6, .int x7]))] : va_W) ++ ws)) H1 := hP
  have hD : va_D A ((wX cI (D.1 99) zz g ad cn6 In6 Fn6) ++ (([(bo, .inr (1, [.ref w, .int x1, .int x2, .int x3, .int x4, .int x5, .int x6, .int x7]))] : va_W) ++ ws)) := hD
  generalize H1 = H at hP hS ⊢
  have vh_6 : (fun c2 I2 F2 => Fr [] [] [7] cn In Fn2 c2 I2 F2 ∧ CBX c2 ∧ (F2 7 = upd ((Fn2 7)) 1 (if x6 = 0 then 0 else x1 / x6))) cn6 In6 Fn6 := wh_6
  obtain ⟨hfc6, hIn6, h_6⟩ := vh_6
  obtain rfl : cn = cn6 := (funext (fun k => hfc6.1 k List.not_mem_nil)).symm
  obtain rfl : In = In6 := (funext (fun k => hfc6.2.1 k List.not_mem_nil)).symm
  have hf6 : Fr [] [] [7, 196, 197, 305] cn In Fn cn In Fn6 := Fr.mo (Fr.tr hf2 hfc6) (sbl rfl) (sbl rfl) (sbl rfl)
  rw [h_2] at h_6
  refine lv_aload_n hx hb (oc_42 20 (aq_20 shX11_brokenClause_0)) rfl (lvA0 hl) ?_
  refine lv_bipush (v := 97) hx hb (oc_16 21 (aq_21 shX11_brokenClause_0) sgb_97) kbc_97 ?_
  refine lv_aload_n hx hb (oc_43 23 (aq_23 shX11_brokenClause_0)) rfl (lvA1 hl) ?_
  refine vp_callSi (runV_r (As := []) (rest := [.int 97, .ref (g 0)]) S (q_l_acid l D cI cB cZ bo w x1 x2 x3 x4 x5 x6 x7) kV_RX11_345 hK hP _ (one_is (exr (m := 0) rfl)) _ (exr (m := 0) rfl) rfl rfl ⟨Nat.le_of_ble_eq_true rfl, Nat.le_of_ble_eq_true rfl⟩ ⟨Nat.le_of_ble_eq_true rfl, Nat.le_of_ble_eq_true rfl⟩ rfl hl.1 rfl (Nat.le_of_ble_eq_true rfl) (oc_182 24 shX11_brokenClause_24 uw_1_89)) (fun r_7 h_8 => ?_)
  subst h_8
  have hFc := free_all (exD hD) hS hA
  refine va_callv (runV_xa (As := [.int 97, .int (if x6 = 0 then 0 else x2 / x6)]) (rest := []) S (q_Wletter l D cI cB cZ zz qq vv bt g ad cn In Fn6 97 (if x6 = 0 then 0 else x2 / x6) 2 H.size hIn6 hbt (by decide) (by decide)) kV_RX11_188 hK hXS hS hFc (exP hP) (exD hD) 0 xo_0 rfl rfl ⟨Nat.le_of_ble_eq_true rfl, Nat.le_of_ble_eq_true rfl⟩ ⟨Nat.le_of_ble_eq_true rfl, Nat.le_of_ble_eq_true rfl⟩ rfl hl.1 rfl (Nat.le_of_ble_eq_true rfl) (oc_182 27 (aq_3 shX11_brokenClause_24) uw_0_188)) hS (fun q _ h => hFc q h) hFc (fun u t H1 locs ht hvm wh_10 hB1 hz1 hk1 hS => ?_)
  obtain ⟨cn10, In10, Fn10⟩ := u
  obtain ⟨hP1, hD1⟩ := hB1
  rw [ht] at hP1
  obtain ⟨hP, hD⟩ := exjoinL hP hD hk1 hFc hP1 hD1
  have hP : va_P D vwCl ((wX cI (D.1 99) zz g ad cn10 In10 Fn10) ++ (([(bo, .inr (1, [.ref w, .int x1, .int x2, .int x3, .int x4, .int x5, .int x6, .int x7]))] : va_W) ++ ws)) H1 := hP
  have hD : va_D A ((wX cI (D.1 99) zz g ad cn10 In10 Fn10) ++ (([(bo, .inr (1, [.ref w, .int x1, .int x2, .int x3, .int x4, .int x5, .int x6, .int x7]))] : va_W) ++ ws)) := hD
  generalize H1 = H at hP hS ⊢
  have vh_10 : (fun c2 I2 F2 => Fr [] [] [7] cn In Fn6 c2 I2 F2 ∧ CBX c2 ∧ (F2 7 = upd ((Fn6 7)) 2 (if x6 = 0 then 0 else x2 / x6))) cn10 In10 Fn10 := wh_10
  obtain ⟨hfc10, hIn10, h_10⟩ := vh_10
  obtain rfl : cn = cn10 := (funext (fun k => hfc10.1 k List.not_mem_nil)).symm
  obtain rfl : In = In10 := (funext (fun k => hfc10.2.1 k List.not_mem_nil)).symm
  have hf10 : Fr [] [] [7, 196, 197, 305] cn In Fn cn In Fn10 := Fr.mo (Fr.tr hf6 hfc10) (sbl rfl) (sbl rfl) (sbl rfl)
  rw [h_6] at h_10
  refine lv_aload_n hx hb (oc_42 30 (aq_6 shX11_brokenClause_24)) rfl (lvA0 hl) ?_
  refine lv_bipush (v := 110) hx hb (oc_16 31 (aq_7 shX11_brokenClause_24) sgb_110) kbc_110 ?_
  refine lv_aload_n hx hb (oc_43 33 (aq_9 shX11_brokenClause_24)) rfl (lvA1 hl) ?_
  refine gf_RX11_347 S hK hP _ (exr (m := 0) rfl) (v := .int x5) rfl (oc_180 34 (aq_10 shX11_brokenClause_24) uw_1_91) ?_
  have hFc := free_all (exD hD) hS hA
  refine va_callv (runV_xa (As := [.int 110, .int x5]) (rest := []) S (q_Wletter l D cI cB cZ zz qq vv bt g ad cn In Fn10 110 x5 10 H.size hIn10 hbt (by decide) (by decide)) kV_RX11_188 hK hXS hS hFc (exP hP) (exD hD) 0 xo_0 rfl rfl ⟨Nat.le_of_ble_eq_true rfl, Nat.le_of_ble_eq_true rfl⟩ ⟨Nat.le_of_ble_eq_true rfl, Nat.le_of_ble_eq_true rfl⟩ rfl hl.1 rfl (Nat.le_of_ble_eq_true rfl) (oc_182 37 (aq_13 shX11_brokenClause_24) uw_0_188)) hS (fun q _ h => hFc q h) hFc (fun u t H1 locs ht hvm wh_12 hB1 hz1 hk1 hS => ?_)
  obtain ⟨cn12, In12, Fn12⟩ := u
  obtain ⟨hP1, hD1⟩ := hB1
  rw [ht] at hP1
  obtain ⟨hP, hD⟩ := exjoinL hP hD hk1 hFc hP1 hD1
  have hP : va_P D vwCl ((wX cI (D.1 99) zz g ad cn12 In12 Fn12) ++ (([(bo, .inr (1, [.ref w, .int x1, .int x2, .int x3, .int x4, .int x5, .int x6, .int x7]))] : va_W) ++ ws)) H1 := hP
  have hD : va_D A ((wX cI (D.1 99) zz g ad cn12 In12 Fn12) ++ (([(bo, .inr (1, [.ref w, .int x1, .int x2, .int x3, .int x4, .int x5, .int x6, .int x7]))] : va_W) ++ ws)) := hD
  generalize H1 = H at hP hS ⊢
  have vh_12 : (fun c2 I2 F2 => Fr [] [] [7] cn In Fn10 c2 I2 F2 ∧ CBX c2 ∧ (F2 7 = upd ((Fn10 7)) 10 x5)) cn12 In12 Fn12 := wh_12
  obtain ⟨hfc12, hIn12, h_12⟩ := vh_12
  obtain rfl : cn = cn12 := (funext (fun k => hfc12.1 k List.not_mem_nil)).symm
  obtain rfl : In = In12 := (funext (fun k => hfc12.2.1 k List.not_mem_nil)).symm
  have hf12 : Fr [] [] [7, 196, 197, 305] cn In Fn cn In Fn12 := Fr.mo (Fr.tr hf10 hfc12) (sbl rfl) (sbl rfl) (sbl rfl)
  rw [h_10] at h_12
  refine lv_aload_n hx hb (oc_42 40 (aq_16 shX11_brokenClause_24)) rfl (lvA0 hl) ?_
  refine gf_RX11_12 S hK hP _ (exl xo_0) (v := .ref (ad 5 (ad 4 0))) rfl (oc_180 41 (aq_17 shX11_brokenClause_24) uw_0_12) ?_
  refine lv_iconst (v := 0) hx hb (oc_3 44 (aq_20 shX11_brokenClause_24)) kic_0 ?_
  refine lv_aload_n hx hb (oc_42 45 (aq_21 shX11_brokenClause_24)) rfl (lvA0 hl) ?_
  refine gf_RX11_40 S hK hP _ (exl xo_0) (v := .ref (g 7)) rfl (oc_180 46 (aq_22 shX11_brokenClause_24) uw_0_40) ?_
  have hFc := free_all (exD hD) hS hA
  refine va_calli (runV_xa (As := [.int 0, .ref (g 7)]) (rest := []) S (q_WfirstThat l D cI cB cZ zz qq vv bt g ad cn In Fn12 (ad 4 0) 0 108 o cl H.size hIn12 hT.2.1 (hX.cg (hf12.2.2 195 (nml rfl)) (hf12.2.2 301 (nml rfl)) (hf12.2.2 198 (nml rfl)) (hf12.2.2 302 (nml rfl)) (hf12.2.2 303 (nml rfl)) (hf12.2.2 304 (nml rfl)) (hf12.2.2 199 (nml rfl)))) kV_RX11_218 hK hXS hS hFc (exP hP) (exD hD) _ (xf_7 hT.2.1) rfl rfl ⟨Nat.le_of_ble_eq_true rfl, Nat.le_of_ble_eq_true rfl⟩ ⟨Nat.le_of_ble_eq_true rfl, Nat.le_of_ble_eq_true rfl⟩ rfl hl.1 rfl (Nat.le_of_ble_eq_true rfl) (oc_182 49 shX11_brokenClause_49 uw_0_218)) hS (fun q _ h => hFc q h) hFc (fun r_13 u t H1 locs ht hvm wh_14 hB1 hz1 hk1 hS => ?_)
  obtain ⟨cn14, In14, Fn14⟩ := u
  obtain ⟨hP1, hD1⟩ := hB1
  rw [ht] at hP1
  obtain ⟨hP, hD⟩ := exjoinL hP hD hk1 hFc hP1 hD1
  have hP : va_P D vwCl ((wX cI (D.1 99) zz g ad cn14 In14 Fn14) ++ (([(bo, .inr (1, [.ref w, .int x1, .int x2, .int x3, .int x4, .int x5, .int x6, .int x7]))] : va_W) ++ ws)) H1 := hP
  have hD : va_D A ((wX cI (D.1 99) zz g ad cn14 In14 Fn14) ++ (([(bo, .inr (1, [.ref w, .int x1, .int x2, .int x3, .int x4, .int x5, .int x6, .int x7]))] : va_W) ++ ws)) := hD
  generalize H1 = H at hP hS ⊢
  have vh_14 : (fun r c2 I2 F2 => Fr [] [] [196, 197, 305] cn In Fn12 c2 I2 F2 ∧ CBX c2 ∧ (FTX o (cut ((Fn12 7))) cl 0 r)) r_13 cn14 In14 Fn14 := wh_14
  obtain ⟨hfc14, hIn14, h_14⟩ := vh_14
  obtain rfl : cn = cn14 := (funext (fun k => hfc14.1 k List.not_mem_nil)).symm
  obtain rfl : In = In14 := (funext (fun k => hfc14.2.1 k List.not_mem_nil)).symm
  have hf14 : Fr [] [] [7, 196, 197, 305] cn In Fn cn In Fn14 := Fr.mo (Fr.tr hf12 hfc14) (sbl rfl) (sbl rfl) (sbl rfl)
  rw [h_12] at h_14
  exact W.iret (v := r_13) hx hb hr (fun t ht hW => ⟨⟨r_13, (ad, cn, In, Fn14), rfl, ⟨rfl, rfl, rfl, (show Fr [] [] [7, 196, 197, 305] cn In Fn cn In Fn14 from (Fr.mo hf14 (sbl rfl) (sbl rfl) (sbl rfl))).2.2, h_14⟩, by rw [ht]; exact hP, hD⟩, hS.F ht⟩) hS.2.2 (oc_172 52 (aq_3 shX11_brokenClause_49))
set_option maxRecDepth 100000 in
set_option maxHeartbeats 4000000 in
theorem q_Wmixed (l : Launch) (D : va_G) (cI cB cZ : ClassId) (zz qq vv : Nat) (bt : Nat → Int32) (g : Nat → Nat) (ad : Nat → Nat → Nat) (cn : Nat → Nat) (In : Nat → Int32) (Fn : Nat → Nat → Int32) (v0 : Int32) (sz : Nat) (hB : CBX cn) (hv : 0 ≤ v0.toInt ∧ v0.toInt < 1048576) : Met l yX11_mixed (CWS yX11_mixed cX11_mixed 5 (some (.object "OilHome$Batch"))) (RM 4 2 20) (PBx [.ref (g 0), .int v0] D cI cB cZ zz qq vv bt (wX cI (D.1 99) zz g ad cn In Fn) sz) (va_Qq (fun (r : Option Nat) (u : (Nat → Nat → Nat) × (Nat → Nat) × (Nat → Int32) × (Nat → Nat → Int32) × va_W) => (fun r a2 c2 I2 F2 W2 => ad = a2 ∧ cn = c2 ∧ In = I2 ∧ Fn = F2 ∧ ((r = none ∧ W2 = [] ∧ ¬ (∀ i : Nat, i < 20 → ¬ (v0 >>> (nI i &&& 31)) &&& 1 = 0 → i < cn 11 ∧ Fn 129 i = 0 ∧ (Fn 125 i).toInt ≤ (cn 0 : Int))) ∨ ((∀ i : Nat, i < 20 → ¬ (v0 >>> (nI i &&& 31)) &&& 1 = 0 → i < cn 11 ∧ Fn 129 i = 0 ∧ (Fn 125 i).toInt ≤ (cn 0 : Int)) ∧ ∃ (bo w : Nat), r = some bo ∧ W2 = ([(bo, .inr (1, [.ref w, .int (mxI (fun i => Fn 122 i * Fn 123 i) v0 20), .int (mxI (fun i => Fn 122 i * Fn 124 i) v0 20), .int 0, .int v0, .int (mxI (fun _ => 1) v0 20), .int (mxI (Fn 122) v0 20), .int 0])), (w, .inl (cI, 12, .inl (fun _ => 0)))] : va_W)))) r u.1 u.2.1 u.2.2.1 u.2.2.2.1 u.2.2.2.2) (fun (u : (Nat → Nat → Nat) × (Nat → Nat) × (Nat → Int32) × (Nat → Nat → Int32) × va_W) (t : State) => va_P D vwCl (wX cI (D.1 99) zz g u.1 u.2.1 u.2.2.1 u.2.2.2.1 ++ u.2.2.2.2) t.heap ∧ va_D (va_A (wX cI (D.1 99) zz g ad cn In Fn) sz) (wX cI (D.1 99) zz g u.1 u.2.1 u.2.2.1 u.2.2.2.1 ++ u.2.2.2.2)) (va_A (wX cI (D.1 99) zz g ad cn In Fn) sz)) 2 20 (va_A (wX cI (D.1 99) zz g ad cn In Fn) sz) := by
  refine en_x (fun A => (va_Qq (fun (r : Option Nat) (u : (Nat → Nat → Nat) × (Nat → Nat) × (Nat → Int32) × (Nat → Nat → Int32) × va_W) => (fun (r : Option Nat) (a2 : Nat → Nat → Nat) (c2 : Nat → Nat) (I2 : Nat → Int32) (F2 : Nat → Nat → Int32) (W2 : va_W) => ad = a2 ∧ cn = c2 ∧ In = I2 ∧ Fn = F2 ∧ ((r = none ∧ W2 = [] ∧ ¬ (∀ i : Nat, i < 20 → ¬ (v0 >>> (nI i &&& 31)) &&& 1 = 0 → i < cn 11 ∧ Fn 129 i = 0 ∧ (Fn 125 i).toInt ≤ (cn 0 : Int))) ∨ ((∀ i : Nat, i < 20 → ¬ (v0 >>> (nI i &&& 31)) &&& 1 = 0 → i < cn 11 ∧ Fn 129 i = 0 ∧ (Fn 125 i).toInt ≤ (cn 0 : Int)) ∧ ∃ (bo w : Nat), r = some bo ∧ W2 = ([(bo, .inr (1, [.ref w, .int (mxI (fun i => Fn 122 i * Fn 123 i) v0 20), .int (mxI (fun i => Fn 122 i * Fn 124 i) v0 20), .int 0, .int v0, .int (mxI (fun _ => 1) v0 20), .int (mxI (Fn 122) v0 20), .int 0])), (w, .inl (cI, 12, .inl (fun _ => 0)))] : va_W)))) r u.1 u.2.1 u.2.2.1 u.2.2.2.1 u.2.2.2.2) (fun (u : (Nat → Nat → Nat) × (Nat → Nat) × (Nat → Int32) × (Nat → Nat → Int32) × va_W) (t : State) => va_P D vwCl (wX cI (D.1 99) zz g u.1 u.2.1 u.2.2.1 u.2.2.2.1 ++ u.2.2.2.2) t.heap ∧ va_D A (wX cI (D.1 99) zz g u.1 u.2.1 u.2.2.1 u.2.2.2.1 ++ u.2.2.2.2)) A)) rfl rfl pn_RX11 (Nat.le_of_ble_eq_true rfl) (fun p e s m below meth c A hx hb hml hown S hr hlocks hnm hA hP hK hD hXS hS ls hl => ?_)
  have hl : lv_has ls 5 [(0, .ref (g 0)), (1, .int v0)] := hl
  refine va_new (ci := 1) (fs := [.null, .int 0, .int 0, .int 0, .int 0, .int 0, .int 0, .int 0]) (C := RX0) (T := TX0) (N := 8) hx hb S.2.2.2.2 hin_RX0 tyX0 tyX0_ok hown (S.2.2.2.2 _ (wk4_17 7 rfl rfl)) (S.2.2.2.2 _ (wk4_17 8 rfl rfl)) (S.2.2.2.2 _ (wk1_1 11 rfl rfl)) hK.1 hP hD hS hA rfl (by decide +kernel) (Nat.le_of_ble_eq_true rfl) (Nat.le_of_ble_eq_true rfl) (oc_187 0 shX11_mixed_0 uw_0_95) (fun q0 H hP hD hS => ?_)
  have hP : va_P D vwCl ((wX cI (D.1 99) zz g ad cn In Fn) ++ ([(q0, .inr (1, [.null, .int 0, .int 0, .int 0, .int 0, .int 0, .int 0, .int 0]))] : va_W)) H := hP
  have hD : va_D A ((wX cI (D.1 99) zz g ad cn In Fn) ++ ([(q0, .inr (1, [.null, .int 0, .int 0, .int 0, .int 0, .int 0, .int 0, .int 0]))] : va_W)) := hD
  refine lv_dup hx hb (oc_89 3 (aq_3 shX11_mixed_0)) rfl ?_
  have hFc := va_free (wc := [(q0, .inr (1, [.null, .int 0, .int 0, .int 0, .int 0, .int 0, .int 0, .int 0]))]) hD hS hA [_] (one_im (exr (m := 0) rfl))
  refine va_callv (runIN_w (As := []) (rest := [.ref q0]) S (q_l_Batch l D cI cB cZ q0 H.size) hK.2.2.2 ⟨⟨wk4_17 10 rfl rfl, wk1_1 11 rfl rfl, wk4_17 11 rfl rfl⟩, rfl, by decide, by decide, by decide +kernel⟩ hK hP hD [_] (one_is (exr (m := 0) rfl)) (one_im (exr (m := 0) rfl)) rfl ⟨Nat.le_of_ble_eq_true rfl, Nat.le_of_ble_eq_true rfl⟩ ⟨Nat.le_of_ble_eq_true rfl, Nat.le_of_ble_eq_true rfl⟩ rfl hl.1 rfl (Nat.le_of_ble_eq_true rfl) (oc_183 4 (aq_4 shX11_mixed_0) uw_1_97)) hS (fun q _ h => hFc q h) hFc (fun u_1 t H1 locs ht hvm h_2 hB1 hz1 hk1 hS => ?_)
  obtain ⟨hP1, hD1⟩ := hB1
  rw [ht] at hP1
  obtain ⟨hP, hD⟩ := exjoin hP hD hk1 hFc hP1 hD1
  generalize H1 = H at hP hS ⊢
  have hP : va_P D vwCl ((wX cI (D.1 99) zz g ad cn In Fn) ++ ([(q0, .inr (1, [.ref u_1, .int 0, .int 0, .int 0, .int 0, .int 0, .int 0, .int 0])), (u_1, .inl (cI, 12, .inl (fun _ => 0)))] : va_W)) H := hP
  have hD : va_D A ((wX cI (D.1 99) zz g ad cn In Fn) ++ ([(q0, .inr (1, [.ref u_1, .int 0, .int 0, .int 0, .int 0, .int 0, .int 0, .int 0])), (u_1, .inl (cI, 12, .inl (fun _ => 0)))] : va_W)) := hD
  refine lv_astore_n (lv' := [(2, .ref q0), (0, .ref (g 0)), (1, .int v0)]) hx hb (oc_77 7 (aq_7 shX11_mixed_0)) rfl hl (ltb rfl) rfl (fun ls hl => ?_)
  refine lv_iconst (v := 0) hx hb (oc_3 8 (aq_8 shX11_mixed_0)) kic_0 ?_
  refine lv_istore_n (lv' := [(3, .int 0), (2, .ref q0), (0, .ref (g 0)), (1, .int v0)]) hx hb (oc_62 9 (aq_9 shX11_mixed_0)) rfl hl (ltb rfl) rfl (fun ls hl => ?_)
  have lp_10 : ∀ (n : Nat) (i10 : Nat) (b10_01 : Int32) (b10_02 : Int32) (b10_04 : Int32) (b10_05 : Int32) (b10_06 : Int32) (H : Heap) (locs : List Loc) , 20 - i10 < n → (i10 ≤ 20 ∧ Fr [] [] [] cn In Fn cn In Fn ∧ (b10_01 = mxI (fun i => Fn 122 i * Fn 123 i) v0 i10) ∧ (b10_02 = mxI (fun i => Fn 122 i * Fn 124 i) v0 i10) ∧ (b10_04 = mskI v0 i10) ∧ (b10_05 = mxI (fun _ => 1) v0 i10) ∧ (b10_06 = mxI (Fn 122) v0 i10) ∧ (∀ i : Nat, i < i10 → ¬ (v0 >>> (nI i &&& 31)) &&& 1 = 0 → i < cn 11 ∧ Fn 129 i = 0 ∧ (Fn 125 i).toInt ≤ (cn 0 : Int))) → va_P D vwCl ((wX cI (D.1 99) zz g ad cn In Fn) ++ ([(q0, .inr (1, [.ref u_1, .int b10_01, .int b10_02, .int 0, .int b10_04, .int b10_05, .int b10_06, .int 0])), (u_1, .inl (cI, 12, .inl (fun _ => 0)))] : va_W)) H → va_D A ((wX cI (D.1 99) zz g ad cn In Fn) ++ ([(q0, .inr (1, [.ref u_1, .int b10_01, .int b10_02, .int 0, .int b10_04, .int b10_05, .int b10_06, .int 0])), (u_1, .inl (cI, 12, .inl (fun _ => 0)))] : va_W)) → va_S A s.heap H locs → ∀ ls : Array Slot, lv_has ls 5 [(3, .int (nI i10)), (2, .ref q0), (0, .ref (g 0)), (1, .int v0)] → W p l e (RM 4 2 20) s m ([.ref (g 0), .int v0]).toArray below meth c H locs 2 20 (MQ below (va_Qq (fun (r : Option Nat) (u : (Nat → Nat → Nat) × (Nat → Nat) × (Nat → Int32) × (Nat → Nat → Int32) × va_W) => (fun r a2 c2 I2 F2 W2 => ad = a2 ∧ cn = c2 ∧ In = I2 ∧ Fn = F2 ∧ ((r = none ∧ W2 = [] ∧ ¬ (∀ i : Nat, i < 20 → ¬ (v0 >>> (nI i &&& 31)) &&& 1 = 0 → i < cn 11 ∧ Fn 129 i = 0 ∧ (Fn 125 i).toInt ≤ (cn 0 : Int))) ∨ ((∀ i : Nat, i < 20 → ¬ (v0 >>> (nI i &&& 31)) &&& 1 = 0 → i < cn 11 ∧ Fn 129 i = 0 ∧ (Fn 125 i).toInt ≤ (cn 0 : Int)) ∧ ∃ (bo w : Nat), r = some bo ∧ W2 = ([(bo, .inr (1, [.ref w, .int (mxI (fun i => Fn 122 i * Fn 123 i) v0 20), .int (mxI (fun i => Fn 122 i * Fn 124 i) v0 20), .int 0, .int v0, .int (mxI (fun _ => 1) v0 20), .int (mxI (Fn 122) v0 20), .int 0])), (w, .inl (cI, 12, .inl (fun _ => 0)))] : va_W)))) r u.1 u.2.1 u.2.2.1 u.2.2.2.1 u.2.2.2.2) (fun (u : (Nat → Nat → Nat) × (Nat → Nat) × (Nat → Int32) × (Nat → Nat → Int32) × va_W) (t : State) => va_P D vwCl (wX cI (D.1 99) zz g u.1 u.2.1 u.2.2.1 u.2.2.2.1 ++ u.2.2.2.2) t.heap ∧ va_D A (wX cI (D.1 99) zz g u.1 u.2.1 u.2.2.1 u.2.2.2.1 ++ u.2.2.2.2)) A) ([.ref (g 0), .int v0]).toArray s 2 20 A) (F0 m 10 ls []) := by
    intro n10
    induction n10 with
    | zero => intros; omega
    | succ n10 ih10 =>
      intro i10 b10_01 b10_02 b10_04 b10_05 b10_06  H locs hmu10 hinv10 hP hD hS ls hl
      obtain ⟨hr10, hfr10, hx10_0, hx10_1, hx10_2, hx10_3, hx10_4, hx10_5⟩ := hinv10
      have ti10 : (nI i10).toInt = (i10 : Int) := nI_toInt (by omega)
      refine lv_iload_n hx hb (oc_29 10 (aq_10 shX11_mixed_0)) rfl (lvA0 hl) ?_
      refine lv_bipush (v := 20) hx hb (oc_16 11 (aq_11 shX11_mixed_0) sgb_20) kbc_20 ?_
      refine lv_icmp_ge (tgt := 63) hx hb (oc_162 13 (aq_13 shX11_mixed_0) sgw_0_50) rfl (fun c_3 => ?_) (fun c_3 => ?_)
      ·
        have tc_3 : (20 : Int) ≤ (nI i10).toInt := Int32.le_iff_toInt_le.mp c_3
        refine lv_aload_n hx hb (oc_44 63 (aq_15 shX11_mixed_48)) rfl (lvA1 hl) ?_
        have e9 : i10 = 20 := by omega
        subst e9
        rw [mskI_20 hv.1 hv.2] at hx10_2
        rw [hx10_0, hx10_1, hx10_2, hx10_3, hx10_4] at hP hD
        exact W.aret (v := .ref q0) hx hb hr (Or.inl ⟨_, rfl⟩) (Or.inr ⟨_, rfl⟩) (fun t ht hW => ⟨⟨some q0, (ad, cn, In, Fn, ([(q0, .inr (1, [.ref u_1, .int (mxI (fun i => Fn 122 i * Fn 123 i) v0 20), .int (mxI (fun i => Fn 122 i * Fn 124 i) v0 20), .int 0, .int v0, .int (mxI (fun _ => 1) v0 20), .int (mxI (Fn 122) v0 20), .int 0])), (u_1, .inl (cI, 12, .inl (fun _ => 0)))] : va_W)), rfl, ⟨rfl, rfl, rfl, rfl, Or.inr ⟨hx10_5, q0, u_1, rfl, rfl⟩⟩, by rw [ht]; exact hP, hD⟩, hS.F ht⟩) hS.2.2 (oc_176 64 (aq_16 shX11_mixed_48))
      ·
        have tc_3 : ((nI i10).toInt : Int) < 20 := Int32.lt_iff_toInt_lt.mp (Int32.not_le.mp c_3)
        refine lv_iload_n hx hb (oc_27 16 (aq_16 shX11_mixed_0)) rfl (lvA3 hl) ?_
        refine lv_iload_n hx hb (oc_29 17 (aq_17 shX11_mixed_0)) rfl (lvA0 hl) ?_
        refine lv_ishr hx hb (oc_122 18 (aq_18 shX11_mixed_0)) ?_
        refine lv_iconst (v := 1) hx hb (oc_4 19 (aq_19 shX11_mixed_0)) kic_1 ?_
        refine lv_iand hx hb (oc_126 20 (aq_20 shX11_mixed_0)) ?_
        refine lv_if_ne (tgt := 27) hx hb (oc_154 21 (aq_21 shX11_mixed_0) sgw_0_6) rfl (fun c_4 => ?_) (fun c_4 => ?_)
        ·
          have tc_4 : (((v0 >>> ((nI i10) &&& 31)) &&& 1).toInt : Int) ≠ 0 := fun q => c_4 (Int32.toInt_inj.mp q)
          refine lv_aload_n hx hb (oc_42 27 (aq_3 shX11_mixed_24)) rfl (lvA2 hl) ?_
          refine lv_iload_n hx hb (oc_29 28 (aq_4 shX11_mixed_24)) rfl (lvA0 hl) ?_
          refine va_csq (runV_rxa (As := [.int (nI i10)]) (rest := []) S (q_XloadAt l D cI cB cZ zz qq vv bt g ad cn In Fn (nI i10) hB) kV_RX11_148 hK hXS hS (exP hP) 0 xo_0 rfl rfl ⟨Nat.le_of_ble_eq_true rfl, Nat.le_of_ble_eq_true rfl⟩ ⟨Nat.le_of_ble_eq_true rfl, Nat.le_of_ble_eq_true rfl⟩ rfl hl.1 rfl (Nat.le_of_ble_eq_true rfl) (oc_182 29 (aq_5 shX11_mixed_24) uw_0_148)) (fun r_5 h_6 => ?_)
          rcases h_6 with ⟨m9, em9, hm9, rfl⟩ | ⟨hm9, rfl⟩
          ·
            obtain rfl : i10 = m9 := (by omega)
            refine lv_astore (lv' := [(4, .ref (ad 11 i10)), (3, .int (nI i10)), (2, .ref q0), (0, .ref (g 0)), (1, .int v0)]) hx hb dX11_mixed_32 hl (ltb rfl) rfl (fun ls hl => ?_)
            refine lv_aload hx hb dX11_mixed_34 (lvA0 hl) ?_
            refine lv_ifnull hx hb dX11_mixed_36 ?_
            refine lv_aload_n hx hb (oc_42 39 (aq_15 shX11_mixed_24)) rfl (lvA3 hl) ?_
            refine lv_aload hx hb (oc_25 40 (aq_16 shX11_mixed_24) ub_4) (lvA0 hl) ?_
            refine vp_callSi (runV_rxa (As := [.ref (ad 11 i10)]) (rest := []) S (q_WcanLoad l D cI cB cZ zz qq vv bt g ad cn In Fn i10 hB (by omega)) kV_RX11_354 hK hXS hS (exP hP) 0 xo_0 rfl rfl ⟨Nat.le_of_ble_eq_true rfl, Nat.le_of_ble_eq_true rfl⟩ ⟨Nat.le_of_ble_eq_true rfl, Nat.le_of_ble_eq_true rfl⟩ rfl hl.1 rfl (Nat.le_of_ble_eq_true rfl) (oc_182 42 (aq_18 shX11_mixed_24) uw_1_98)) (fun r_7 h_8 => ?_)
            rcases h_8 with ⟨rfl, h_8⟩ | ⟨rfl, h_8⟩
            ·
              refine lv_if_ne (tgt := 50) hx hb dX11_mixed_45 rfl (fun _ => ?_) (fun h => absurd h cq_eq_1_0)
              refine lv_aload_n hx hb (oc_44 50 (aq_2 shX11_mixed_48)) rfl (lvA2 hl) ?_
              refine lv_iload_n hx hb (oc_29 51 (aq_3 shX11_mixed_48)) rfl (lvA1 hl) ?_
              refine lv_aload hx hb (oc_25 52 (aq_4 shX11_mixed_48) ub_4) (lvA0 hl) ?_
              have hFc := free_all hD hS hA
              refine va_callv (runV_xa (As := [.int (nI i10), .ref (ad 11 i10)]) (rest := []) S (q_Eflip l D cI cB cZ zz qq vv bt g ad cn In Fn q0 u_1 b10_01 b10_02 0 b10_04 b10_05 b10_06 0 (nI i10) i10 (([(u_1, .inl (cI, 12, .inl (fun _ => 0)))] : va_W)) H.size hB (by omega)) kV_RX11_358 hK hXS hS hFc hP hD _ (exr (m := 0) rfl) rfl rfl ⟨Nat.le_of_ble_eq_true rfl, Nat.le_of_ble_eq_true rfl⟩ ⟨Nat.le_of_ble_eq_true rfl, Nat.le_of_ble_eq_true rfl⟩ rfl hl.1 rfl (Nat.le_of_ble_eq_true rfl) (oc_182 54 (aq_6 shX11_mixed_48) uw_1_102)) hS (fun q _ h => hFc q h) hFc (fun u8 t H1 locs ht hvm h8 hB1 hz1 hk1 hS => ?_)
              obtain ⟨hP1, hD1⟩ := hB1
              rw [ht] at hP1
              obtain ⟨a8, c8, I8, F8, W8⟩ := u8
              obtain ⟨rfl, rfl, rfl, rfl, sg8, hsg8, rfl⟩ := h8
              have hP : va_P D vwCl ((wX cI (D.1 99) zz g ad cn In Fn) ++ ([(q0, .inr (1, [.ref u_1, .int (b10_01 + sg8 * ((Fn 122) i10) * ((Fn 123) i10)), .int (b10_02 + sg8 * ((Fn 122) i10) * ((Fn 124) i10)), .int 0, .int (b10_04 ^^^ 1 <<< ((nI i10) &&& 31)), .int (b10_05 + sg8), .int (b10_06 + sg8 * ((Fn 122) i10)), .int 0])), (u_1, .inl (cI, 12, .inl (fun _ => 0)))] : va_W)) H1 := hP1
              have hD : va_D A ((wX cI (D.1 99) zz g ad cn In Fn) ++ ([(q0, .inr (1, [.ref u_1, .int (b10_01 + sg8 * ((Fn 122) i10) * ((Fn 123) i10)), .int (b10_02 + sg8 * ((Fn 122) i10) * ((Fn 124) i10)), .int 0, .int (b10_04 ^^^ 1 <<< ((nI i10) &&& 31)), .int (b10_05 + sg8), .int (b10_06 + sg8 * ((Fn 122) i10)), .int 0])), (u_1, .inl (cI, 12, .inl (fun _ => 0)))] : va_W)) := hD1.weaken (fun _ _ _ h => hFc _ h)
              generalize H1 = H at hP hS ⊢
              obtain rfl : sg8 = 1 := hsg8.elim (fun q9 => absurd (by rw [hx10_2]; exact mskI_n (by omega)) q9.2) (fun q9 => q9.1)
              refine lv_iinc (v := (nI (i10 + 1))) (lv' := [(3, .int (nI (i10 + 1))), (4, .ref (ad 11 i10)), (2, .ref q0), (0, .ref (g 0)), (1, .int v0)]) hx hb dX11_mixed_57 hl (k := 1) rfl (nI_1 _) (ltb rfl) rfl (fun ls hl => ?_)
              refine lv_goto (tgt := 10) hx hb dX11_mixed_60 rfl ?_
              exact ih10 (i10 + 1) (b10_01 + 1 * ((Fn 122) i10) * ((Fn 123) i10)) (b10_02 + 1 * ((Fn 122) i10) * ((Fn 124) i10)) (b10_04 ^^^ 1 <<< ((nI i10) &&& 31)) (b10_05 + 1) (b10_06 + 1 * ((Fn 122) i10))  _ _ (by omega) ⟨(by omega), (Fr.mo hfr10 (sbl rfl) (sbl rfl) (sbl rfl)), (mxI_2 (by first | assumption | exact fun q => absurd (congrArg Int32.toInt q) (by assumption)) hx10_0 rfl), (mxI_2 (by first | assumption | exact fun q => absurd (congrArg Int32.toInt q) (by assumption)) hx10_1 rfl), (mskI_s (by first | assumption | exact fun q => absurd (congrArg Int32.toInt q) (by assumption)) hx10_2), (mxI_s (by first | assumption | exact fun q => absurd (congrArg Int32.toInt q) (by assumption)) hx10_3 rfl), (mxI_1 (by first | assumption | exact fun q => absurd (congrArg Int32.toInt q) (by assumption)) hx10_4 rfl), (fun i hi hb9 => if q9 : i < i10 then hx10_5 i q9 hb9 else (by obtain rfl : i = i10 := (by omega); exact ⟨by omega, h_8⟩))⟩ hP hD hS ls (lv_sub hl [0, 2, 3, 4] rfl)
            ·
              refine lv_if_ne (tgt := 50) hx hb dX11_mixed_45 rfl (fun h => absurd h cq_eq_0_0) (fun _ => ?_)
              refine lv_null hx hb dX11_mixed_48 ?_
              have hP := exP hP
              have hD := exD hD
              have hP : va_P D vwCl ((wX cI (D.1 99) zz g ad cn In Fn) ++ ([] : va_W)) H := va_P_eq (List.append_nil _).symm hP
              have hD : va_D A ((wX cI (D.1 99) zz g ad cn In Fn) ++ ([] : va_W)) := va_D_eq (List.append_nil _).symm hD
              exact W.aret (v := .null) hx hb hr (Or.inl ⟨_, rfl⟩) (Or.inl rfl) (fun t ht hW => ⟨⟨none, (ad, cn, In, Fn, ([] : va_W)), rfl, ⟨rfl, rfl, rfl, rfl, Or.inl ⟨rfl, rfl, fun q9 => absurd (q9 i10 (by omega) (by first | assumption | exact fun q => absurd (congrArg Int32.toInt q) (by assumption))).2 h_8⟩⟩, by rw [ht]; exact hP, hD⟩, hS.F ht⟩) hS.2.2 dX11_mixed_49
          ·
            refine lv_astoreN (lv' := [(4, .null), (3, .int (nI i10)), (2, .ref q0), (0, .ref (g 0)), (1, .int v0)]) hx hb dX11_mixed_32 hl (ltb rfl) rfl (fun ls hl => ?_)
            refine lv_aloadN hx hb dX11_mixed_34 (lvA0 hl) ?_
            refine lv_ifnullN (tgt := 48) hx hb dX11_mixed_36 rfl ?_
            refine lv_null hx hb dX11_mixed_48 ?_
            have hP := exP hP
            have hD := exD hD
            have hP : va_P D vwCl ((wX cI (D.1 99) zz g ad cn In Fn) ++ ([] : va_W)) H := va_P_eq (List.append_nil _).symm hP
            have hD : va_D A ((wX cI (D.1 99) zz g ad cn In Fn) ++ ([] : va_W)) := va_D_eq (List.append_nil _).symm hD
            exact W.aret (v := .null) hx hb hr (Or.inl ⟨_, rfl⟩) (Or.inl rfl) (fun t ht hW => ⟨⟨none, (ad, cn, In, Fn, ([] : va_W)), rfl, ⟨rfl, rfl, rfl, rfl, Or.inl ⟨rfl, rfl, fun q9 => by have q8 := (q9 i10 (by omega) (by first | assumption | exact fun q => absurd (congrArg Int32.toInt q) (by assumption))).1; omega⟩⟩, by rw [ht]; exact hP, hD⟩, hS.F ht⟩) hS.2.2 dX11_mixed_49
        ·
          have tc_4 : (((v0 >>> ((nI i10) &&& 31)) &&& 1).toInt : Int) = 0 := congrArg Int32.toInt c_4
          refine lv_goto (tgt := 57) hx hb (oc_167 24 shX11_mixed_24 sgw_0_33) rfl ?_
          refine lv_iinc (v := (nI (i10 + 1))) (lv' := [(3, .int (nI (i10 + 1))), (2, .ref q0), (0, .ref (g 0)), (1, .int v0)]) hx hb dX11_mixed_57 hl (k := 0) rfl (nI_1 _) (ltb rfl) rfl (fun ls hl => ?_)
          refine lv_goto (tgt := 10) hx hb dX11_mixed_60 rfl ?_
          exact ih10 (i10 + 1) b10_01 b10_02 b10_04 b10_05 b10_06  _ _ (by omega) ⟨(by omega), (Fr.mo hfr10 (sbl rfl) (sbl rfl) (sbl rfl)), (mxI_k (by first | assumption | exact Int32.toInt_inj.mp (by assumption)) hx10_0), (mxI_k (by first | assumption | exact Int32.toInt_inj.mp (by assumption)) hx10_1), (mskI_k (by first | assumption | exact Int32.toInt_inj.mp (by assumption)) hx10_2), (mxI_k (by first | assumption | exact Int32.toInt_inj.mp (by assumption)) hx10_3), (mxI_k (by first | assumption | exact Int32.toInt_inj.mp (by assumption)) hx10_4), (fun i hi hb9 => if q9 : i < i10 then hx10_5 i q9 hb9 else absurd (by rw [show i = i10 by omega]; exact (by first | assumption | exact Int32.toInt_inj.mp (by assumption))) hb9)⟩ hP hD hS ls (lv_sub hl [0, 1, 2, 3] rfl)
  exact lp_10 _ 0 0 0 0 0 0  _ _ (Nat.lt_succ_self _) ⟨(by omega), (Fr.mo Fr.rf (sbl rfl) (sbl rfl) (sbl rfl)), rfl, rfl, rfl, rfl, rfl, (fun i hi => absurd hi (Nat.not_lt_zero i))⟩ hP hD hS ls (lv_sub hl [0, 1, 2, 3] rfl)
set_option maxRecDepth 100000 in
set_option maxHeartbeats 4000000 in
theorem q_Wkeep (l : Launch) (D : va_G) (cI cB cZ : ClassId) (zz qq vv : Nat) (bt : Nat → Int32) (g : Nat → Nat) (ad : Nat → Nat → Nat) (cn : Nat → Nat) (In : Nat → Int32) (Fn : Nat → Nat → Int32) (bo w : Nat) (x1 x2 x3 x4 x5 x6 x7 : Int32) (f : Nat → Int32) (sz : Nat) (hB : CBX cn) (h12 : cn 12 < 10) (hf0 : ∀ i : Nat, 12 ≤ i → f i = 0) : Met l yX11_keep (CWS yX11_keep cX11_keep 4 none) (RM 8 1 100) (PBx [.ref (g 0), .ref bo] D cI cB cZ zz qq vv bt ((wX cI (D.1 99) zz g ad cn In Fn) ++ ([(bo, .inr (1, [.ref w, .int x1, .int x2, .int x3, .int x4, .int x5, .int x6, .int x7])), (w, .inl (cI, 12, .inl f))] : va_W)) sz) (va_Qv (fun (u : (Nat → Nat → Nat) × (Nat → Nat) × (Nat → Int32) × (Nat → Nat → Int32)) => (fun a2 c2 I2 F2 => ∃ (Fb : Nat → Nat → Int32), (∀ k, k ∉ [129] → Fb k = Fn k) ∧ (∀ k : Nat, Fb 129 k = if k < cn 11 ∧ k < 20 ∧ ¬ (x4 >>> (nI k &&& 31)) &&& 1 = 0 then 1 else Fn 129 k) ∧ ∃ (z c : Nat) (y : Int32), (cn 12 < c ∧ c ≤ 100) ∧ (adO (adO (adO ad 12 (cn 12) bo) 1 (cn 12) w) 2 2 z) = a2 ∧ (va_up (va_up cn 12 ((cn 12) + 1)) 22 c) = c2 ∧ (va_up In 12 y) = I2 ∧ (va_up (va_up (va_up (va_up (va_up (va_up (va_up (va_up (va_up Fb 29 (putM (Fb 29) 400 (nI (cn 0)) (atM (Fb 29) 400 (nI (cn 0)) + -x6))) 141 (upd ((va_up Fb 29 (putM (Fb 29) 400 (nI (cn 0)) (atM (Fb 29) 400 (nI (cn 0)) + -x6))) 141) (cn 12) x1)) 142 (upd ((va_up Fb 29 (putM (Fb 29) 400 (nI (cn 0)) (atM (Fb 29) 400 (nI (cn 0)) + -x6))) 142) (cn 12) x2)) 143 (upd ((va_up Fb 29 (putM (Fb 29) 400 (nI (cn 0)) (atM (Fb 29) 400 (nI (cn 0)) + -x6))) 143) (cn 12) x3)) 144 (upd ((va_up Fb 29 (putM (Fb 29) 400 (nI (cn 0)) (atM (Fb 29) 400 (nI (cn 0)) + -x6))) 144) (cn 12) x4)) 145 (upd ((va_up Fb 29 (putM (Fb 29) 400 (nI (cn 0)) (atM (Fb 29) 400 (nI (cn 0)) + -x6))) 145) (cn 12) x5)) 146 (upd ((va_up Fb 29 (putM (Fb 29) 400 (nI (cn 0)) (atM (Fb 29) 400 (nI (cn 0)) + -x6))) 146) (cn 12) x6)) 147 (upd ((va_up Fb 29 (putM (Fb 29) 400 (nI (cn 0)) (atM (Fb 29) 400 (nI (cn 0)) + -x6))) 147) (cn 12) (nI (cn 0)))) 150 (flat ((va_up Fb 29 (putM (Fb 29) 400 (nI (cn 0)) (atM (Fb 29) 400 (nI (cn 0)) + -x6))) 150) 12 (cn 12) f)) = F2) u.1 u.2.1 u.2.2.1 u.2.2.2) (fun (u : (Nat → Nat → Nat) × (Nat → Nat) × (Nat → Int32) × (Nat → Nat → Int32)) (t : State) => va_P D vwCl (wX cI (D.1 99) zz g u.1 u.2.1 u.2.2.1 u.2.2.2) t.heap ∧ va_D (va_A ((wX cI (D.1 99) zz g ad cn In Fn) ++ ([(bo, .inr (1, [.ref w, .int x1, .int x2, .int x3, .int x4, .int x5, .int x6, .int x7])), (w, .inl (cI, 12, .inl f))] : va_W)) sz) (wX cI (D.1 99) zz g u.1 u.2.1 u.2.2.1 u.2.2.2)) (va_A ((wX cI (D.1 99) zz g ad cn In Fn) ++ ([(bo, .inr (1, [.ref w, .int x1, .int x2, .int x3, .int x4, .int x5, .int x6, .int x7])), (w, .inl (cI, 12, .inl f))] : va_W)) sz)) 1 100 (va_A ((wX cI (D.1 99) zz g ad cn In Fn) ++ ([(bo, .inr (1, [.ref w, .int x1, .int x2, .int x3, .int x4, .int x5, .int x6, .int x7])), (w, .inl (cI, 12, .inl f))] : va_W)) sz) := by
  refine en_x (fun A => (va_Qv (fun (u : (Nat → Nat → Nat) × (Nat → Nat) × (Nat → Int32) × (Nat → Nat → Int32)) => (fun (a2 : Nat → Nat → Nat) (c2 : Nat → Nat) (I2 : Nat → Int32) (F2 : Nat → Nat → Int32) => ∃ (Fb : Nat → Nat → Int32), (∀ k, k ∉ [129] → Fb k = Fn k) ∧ (∀ k : Nat, Fb 129 k = if k < cn 11 ∧ k < 20 ∧ ¬ (x4 >>> (nI k &&& 31)) &&& 1 = 0 then 1 else Fn 129 k) ∧ ∃ (z c : Nat) (y : Int32), (cn 12 < c ∧ c ≤ 100) ∧ (adO (adO (adO ad 12 (cn 12) bo) 1 (cn 12) w) 2 2 z) = a2 ∧ (va_up (va_up cn 12 ((cn 12) + 1)) 22 c) = c2 ∧ (va_up In 12 y) = I2 ∧ (va_up (va_up (va_up (va_up (va_up (va_up (va_up (va_up (va_up Fb 29 (putM (Fb 29) 400 (nI (cn 0)) (atM (Fb 29) 400 (nI (cn 0)) + -x6))) 141 (upd ((va_up Fb 29 (putM (Fb 29) 400 (nI (cn 0)) (atM (Fb 29) 400 (nI (cn 0)) + -x6))) 141) (cn 12) x1)) 142 (upd ((va_up Fb 29 (putM (Fb 29) 400 (nI (cn 0)) (atM (Fb 29) 400 (nI (cn 0)) + -x6))) 142) (cn 12) x2)) 143 (upd ((va_up Fb 29 (putM (Fb 29) 400 (nI (cn 0)) (atM (Fb 29) 400 (nI (cn 0)) + -x6))) 143) (cn 12) x3)) 144 (upd ((va_up Fb 29 (putM (Fb 29) 400 (nI (cn 0)) (atM (Fb 29) 400 (nI (cn 0)) + -x6))) 144) (cn 12) x4)) 145 (upd ((va_up Fb 29 (putM (Fb 29) 400 (nI (cn 0)) (atM (Fb 29) 400 (nI (cn 0)) + -x6))) 145) (cn 12) x5)) 146 (upd ((va_up Fb 29 (putM (Fb 29) 400 (nI (cn 0)) (atM (Fb 29) 400 (nI (cn 0)) + -x6))) 146) (cn 12) x6)) 147 (upd ((va_up Fb 29 (putM (Fb 29) 400 (nI (cn 0)) (atM (Fb 29) 400 (nI (cn 0)) + -x6))) 147) (cn 12) (nI (cn 0)))) 150 (flat ((va_up Fb 29 (putM (Fb 29) 400 (nI (cn 0)) (atM (Fb 29) 400 (nI (cn 0)) + -x6))) 150) 12 (cn 12) f)) = F2) u.1 u.2.1 u.2.2.1 u.2.2.2) (fun (u : (Nat → Nat → Nat) × (Nat → Nat) × (Nat → Int32) × (Nat → Nat → Int32)) (t : State) => va_P D vwCl (wX cI (D.1 99) zz g u.1 u.2.1 u.2.2.1 u.2.2.2) t.heap ∧ va_D A (wX cI (D.1 99) zz g u.1 u.2.1 u.2.2.1 u.2.2.2)) A)) rfl rfl pn_RX11 (Nat.le_of_ble_eq_true rfl) (fun p e s m below meth c A hx hb hml hown S hr hlocks hnm hA hP hK hD hXS hS ls hl => ?_)
  have hl : lv_has ls 4 [(0, .ref (g 0)), (1, .ref bo)] := hl
  refine lv_iconst (v := 0) hx hb (oc_3 0 shX11_keep_0) kic_0 ?_
  refine lv_istore_n (lv' := [(2, .int 0), (0, .ref (g 0)), (1, .ref bo)]) hx hb (oc_61 1 (aq_1 shX11_keep_0)) rfl hl (ltb rfl) rfl (fun ls hl => ?_)
  have lp_2 : ∀ (n : Nat) (i2 : Nat) (Fw : Nat → Nat → Int32) (H : Heap) (locs : List Loc) , 20 - i2 < n → (i2 ≤ 20 ∧ Fr [] [] [129] cn In Fn cn In Fw ∧ CBX cn ∧ (∀ k : Nat, Fw 129 k = if k < cn 11 ∧ k < i2 ∧ ¬ (x4 >>> (nI k &&& 31)) &&& 1 = 0 then 1 else Fn 129 k)) → va_P D vwCl ((wX cI (D.1 99) zz g ad cn In Fw) ++ ([(bo, .inr (1, [.ref w, .int x1, .int x2, .int x3, .int x4, .int x5, .int x6, .int x7])), (w, .inl (cI, 12, .inl f))] : va_W)) H → va_D A ((wX cI (D.1 99) zz g ad cn In Fw) ++ ([(bo, .inr (1, [.ref w, .int x1, .int x2, .int x3, .int x4, .int x5, .int x6, .int x7])), (w, .inl (cI, 12, .inl f))] : va_W)) → va_S A s.heap H locs → ∀ ls : Array Slot, lv_has ls 4 [(2, .int (nI i2)), (0, .ref (g 0)), (1, .ref bo)] → W p l e (RM 8 1 100) s m ([.ref (g 0), .ref bo]).toArray below meth c H locs 0 0 (MQ below (va_Qv (fun (u : (Nat → Nat → Nat) × (Nat → Nat) × (Nat → Int32) × (Nat → Nat → Int32)) => (fun a2 c2 I2 F2 => ∃ (Fb : Nat → Nat → Int32), (∀ k, k ∉ [129] → Fb k = Fn k) ∧ (∀ k : Nat, Fb 129 k = if k < cn 11 ∧ k < 20 ∧ ¬ (x4 >>> (nI k &&& 31)) &&& 1 = 0 then 1 else Fn 129 k) ∧ ∃ (z c : Nat) (y : Int32), (cn 12 < c ∧ c ≤ 100) ∧ (adO (adO (adO ad 12 (cn 12) bo) 1 (cn 12) w) 2 2 z) = a2 ∧ (va_up (va_up cn 12 ((cn 12) + 1)) 22 c) = c2 ∧ (va_up In 12 y) = I2 ∧ (va_up (va_up (va_up (va_up (va_up (va_up (va_up (va_up (va_up Fb 29 (putM (Fb 29) 400 (nI (cn 0)) (atM (Fb 29) 400 (nI (cn 0)) + -x6))) 141 (upd ((va_up Fb 29 (putM (Fb 29) 400 (nI (cn 0)) (atM (Fb 29) 400 (nI (cn 0)) + -x6))) 141) (cn 12) x1)) 142 (upd ((va_up Fb 29 (putM (Fb 29) 400 (nI (cn 0)) (atM (Fb 29) 400 (nI (cn 0)) + -x6))) 142) (cn 12) x2)) 143 (upd ((va_up Fb 29 (putM (Fb 29) 400 (nI (cn 0)) (atM (Fb 29) 400 (nI (cn 0)) + -x6))) 143) (cn 12) x3)) 144 (upd ((va_up Fb 29 (putM (Fb 29) 400 (nI (cn 0)) (atM (Fb 29) 400 (nI (cn 0)) + -x6))) 144) (cn 12) x4)) 145 (upd ((va_up Fb 29 (putM (Fb 29) 400 (nI (cn 0)) (atM (Fb 29) 400 (nI (cn 0)) + -x6))) 145) (cn 12) x5)) 146 (upd ((va_up Fb 29 (putM (Fb 29) 400 (nI (cn 0)) (atM (Fb 29) 400 (nI (cn 0)) + -x6))) 146) (cn 12) x6)) 147 (upd ((va_up Fb 29 (putM (Fb 29) 400 (nI (cn 0)) (atM (Fb 29) 400 (nI (cn 0)) + -x6))) 147) (cn 12) (nI (cn 0)))) 150 (flat ((va_up Fb 29 (putM (Fb 29) 400 (nI (cn 0)) (atM (Fb 29) 400 (nI (cn 0)) + -x6))) 150) 12 (cn 12) f)) = F2) u.1 u.2.1 u.2.2.1 u.2.2.2) (fun (u : (Nat → Nat → Nat) × (Nat → Nat) × (Nat → Int32) × (Nat → Nat → Int32)) (t : State) => va_P D vwCl (wX cI (D.1 99) zz g u.1 u.2.1 u.2.2.1 u.2.2.2) t.heap ∧ va_D A (wX cI (D.1 99) zz g u.1 u.2.1 u.2.2.1 u.2.2.2)) A) ([.ref (g 0), .ref bo]).toArray s 1 100 A) (F0 m 2 ls []) := by
    intro n2
    induction n2 with
    | zero => intros; omega
    | succ n2 ih2 =>
      intro i2 Fw H locs hmu2 hinv2 hP hD hS ls hl
      obtain ⟨hr2, hfr2, hI2, hx2_0⟩ := hinv2
      have ti2 : (nI i2).toInt = (i2 : Int) := nI_toInt (by omega)
      refine lv_iload_n hx hb (oc_28 2 (aq_2 shX11_keep_0)) rfl (lvA0 hl) ?_
      refine lv_bipush (v := 20) hx hb (oc_16 3 (aq_3 shX11_keep_0) sgb_20) kbc_20 ?_
      refine lv_icmp_ge (tgt := 37) hx hb (oc_162 5 (aq_5 shX11_keep_0) sgw_0_32) rfl (fun c_1 => ?_) (fun c_1 => ?_)
      ·
        have tc_1 : (20 : Int) ≤ (nI i2).toInt := Int32.le_iff_toInt_le.mp c_1
        refine lv_aload_n hx hb (oc_43 37 (aq_11 shX11_keep_26)) rfl (lvA2 hl) ?_
        refine lv_aload_n hx hb (oc_42 38 (aq_12 shX11_keep_26)) rfl (lvA1 hl) ?_
        refine gf_RX11_103 S hK hP _ (exl xo_0) (v := .int (nI (cn 0))) rfl (oc_180 39 (aq_13 shX11_keep_26) uw_0_103) ?_
        refine pf_RX11_381 S hK hP hD hS _ (exr (m := 0) rfl) (v := .int (nI (cn 0))) (Nat.le_of_ble_eq_true rfl) rfl rfl (oc_181 42 (aq_16 shX11_keep_26) uw_1_125) (fun H locs hP hD hS => ?_)
        have hP : va_P D vwCl ((wX cI (D.1 99) zz g ad cn In Fw) ++ ([(bo, .inr (1, [.ref w, .int x1, .int x2, .int x3, .int x4, .int x5, .int x6, .int (nI (cn 0))])), (w, .inl (cI, 12, .inl f))] : va_W)) H := va_P_eq (exs_r rfl) hP
        have hD : va_D A ((wX cI (D.1 99) zz g ad cn In Fw) ++ ([(bo, .inr (1, [.ref w, .int x1, .int x2, .int x3, .int x4, .int x5, .int x6, .int (nI (cn 0))])), (w, .inl (cI, 12, .inl f))] : va_W)) := va_D_eq (exs_r rfl) hD
        refine lv_aload_n hx hb (oc_42 45 (aq_19 shX11_keep_26)) rfl (lvA1 hl) ?_
        refine gf_RX11_47 S hK hP _ (exl xo_0) (v := .ref (g 8)) rfl (oc_180 46 (aq_20 shX11_keep_26) uw_0_47) ?_
        refine lv_aload_n hx hb (oc_42 49 (aq_23 shX11_keep_26)) rfl (lvA1 hl) ?_
        refine gf_RX11_103 S hK hP _ (exl xo_0) (v := .int (nI (cn 0))) rfl (oc_180 50 shX11_keep_50 uw_0_103) ?_
        refine lv_aload_n hx hb (oc_43 53 (aq_3 shX11_keep_50)) rfl (lvA2 hl) ?_
        refine gf_RX11_342 S hK hP _ (exr (m := 0) rfl) (v := .int x6) rfl (oc_180 54 (aq_4 shX11_keep_50) uw_1_86) ?_
        refine lv_ineg hx hb (oc_116 57 (aq_7 shX11_keep_50)) ?_
        have hFc := free_all (exD hD) hS hA
        refine va_callv (runV_xa (As := [.int (nI (cn 0)), .int (-x6)]) (rest := []) S (q_Xchange l D cI cB cZ zz qq vv bt g ad cn In Fw (nI (cn 0)) (-x6) H.size hI2) kV_RX11_144 hK hXS hS hFc (exP hP) (exD hD) 6 xo_6 rfl rfl ⟨Nat.le_of_ble_eq_true rfl, Nat.le_of_ble_eq_true rfl⟩ ⟨Nat.le_of_ble_eq_true rfl, Nat.le_of_ble_eq_true rfl⟩ rfl hl.1 rfl (Nat.le_of_ble_eq_true rfl) (oc_182 58 (aq_8 shX11_keep_50) uw_0_144)) hS (fun q _ h => hFc q h) hFc (fun u t H1 locs ht hvm wh_3 hB1 hz1 hk1 hS => ?_)
        obtain ⟨cn3, In3, Fn3⟩ := u
        obtain ⟨hP1, hD1⟩ := hB1
        rw [ht] at hP1
        have vh_3 : (fun c2 I2 F2 => (∀ k : Nat, k ∉ [] → I2 k = In k) ∧ (((True) ∧ cn = c2 ∧ (va_up Fw 29 (putM ((Fw 29)) 400 (nI (cn 0)) (atM ((Fw 29)) 400 (nI (cn 0)) + (-x6)))) = F2))) cn3 In3 Fn3 := wh_3
        obtain ⟨hI3_, vh_3⟩ := vh_3
        obtain ⟨h_3, rfl, rfl⟩ := vh_3
        obtain rfl : In = In3 := (funext (fun k => hI3_ k List.not_mem_nil)).symm
        obtain ⟨hP, hD⟩ := exjoinL hP hD hk1 hFc hP1 hD1
        have hP : va_P D vwCl ((wX cI (D.1 99) zz g ad cn In (va_up Fw 29 (putM ((Fw 29)) 400 (nI (cn 0)) (atM ((Fw 29)) 400 (nI (cn 0)) + (-x6))))) ++ ([(bo, .inr (1, [.ref w, .int x1, .int x2, .int x3, .int x4, .int x5, .int x6, .int (nI (cn 0))])), (w, .inl (cI, 12, .inl f))] : va_W)) H1 := hP
        have hD : va_D A ((wX cI (D.1 99) zz g ad cn In (va_up Fw 29 (putM ((Fw 29)) 400 (nI (cn 0)) (atM ((Fw 29)) 400 (nI (cn 0)) + (-x6))))) ++ ([(bo, .inr (1, [.ref w, .int x1, .int x2, .int x3, .int x4, .int x5, .int x6, .int (nI (cn 0))])), (w, .inl (cI, 12, .inl f))] : va_W)) := hD
        generalize H1 = H at hP hS ⊢
        refine lv_aload_n hx hb (oc_42 61 (aq_11 shX11_keep_50)) rfl (lvA1 hl) ?_
        refine gf_RX11_68 S hK hP _ (exl xo_0) (v := .ref (g 12)) rfl (oc_180 62 (aq_12 shX11_keep_50) uw_0_68) ?_
        refine lv_aload_n hx hb (oc_43 65 (aq_15 shX11_keep_50)) rfl (lvA2 hl) ?_
        rcases Nat.eq_zero_or_pos (cn 12) with hz0 | hz0
        ·
          have hi9 : (wX cI (D.1 99) zz g ad cn In (va_up Fw 29 (putM ((Fw 29)) 400 (nI (cn 0)) (atM ((Fw 29)) 400 (nI (cn 0)) + (-x6)))))[26]? = _ := xlz_2 hz0
          have hp2P := pick2P hP (exl hi9) (exr (m := 0) rfl)
          have hp2D := pick2D hD (exl hi9) (exr (m := 0) rfl) (ne_ex hi9)
          have hFc := free_all hp2D hS hA
          refine va_calli (runV_xa (As := [.ref bo]) (rest := []) S (q_l_addZB l D cI cB cZ zz qq vv bt (g 12) bo (In 12) x1 x2 x3 x4 x5 x6 (nI (cn 0)) w H.size) kV_RX11_110 hK hXS hS hFc hp2P hp2D 0 rfl rfl rfl ⟨Nat.le_of_ble_eq_true rfl, Nat.le_of_ble_eq_true rfl⟩ ⟨Nat.le_of_ble_eq_true rfl, Nat.le_of_ble_eq_true rfl⟩ rfl hl.1 rfl (Nat.le_of_ble_eq_true rfl) dX11_keep_66) hS (fun q _ h => hFc q h) hFc (fun r3 u3 t H1 locs ht hvm h3 hB1 hz1 hk1 hS => ?_)
          obtain ⟨hP1, hD1⟩ := hB1
          rw [ht] at hP1
          obtain rfl : r3 = 1 := h3
          obtain ⟨hP, hD⟩ := add0_join hP hD hi9 rfl hk1 hFc hP1 hD1 rfl (xuB (z := u3) (c := 10) (y := (In 12) + 1) (q := bo) (qs := w) (f := f) (x1 := x1) (x2 := x2) (x3 := x3) (x4 := x4) (x5 := x5) (x6 := x6) (x7 := (nI (cn 0))) hz0 hf0)
          have hP : va_P D vwCl (wX cI (D.1 99) zz g (adO (adO (adO ad 12 (cn 12) bo) 1 (cn 12) w) 2 2 u3) (va_up (va_up cn 12 ((cn 12) + 1)) 22 10) (va_up In 12 ((In 12) + 1)) (va_up (va_up (va_up (va_up (va_up (va_up (va_up (va_up (va_up Fw 29 (putM ((Fw 29)) 400 (nI (cn 0)) (atM ((Fw 29)) 400 (nI (cn 0)) + (-x6)))) 141 (upd ((va_up Fw 29 (putM ((Fw 29)) 400 (nI (cn 0)) (atM ((Fw 29)) 400 (nI (cn 0)) + (-x6)))) 141) (cn 12) x1)) 142 (upd ((va_up Fw 29 (putM ((Fw 29)) 400 (nI (cn 0)) (atM ((Fw 29)) 400 (nI (cn 0)) + (-x6)))) 142) (cn 12) x2)) 143 (upd ((va_up Fw 29 (putM ((Fw 29)) 400 (nI (cn 0)) (atM ((Fw 29)) 400 (nI (cn 0)) + (-x6)))) 143) (cn 12) x3)) 144 (upd ((va_up Fw 29 (putM ((Fw 29)) 400 (nI (cn 0)) (atM ((Fw 29)) 400 (nI (cn 0)) + (-x6)))) 144) (cn 12) x4)) 145 (upd ((va_up Fw 29 (putM ((Fw 29)) 400 (nI (cn 0)) (atM ((Fw 29)) 400 (nI (cn 0)) + (-x6)))) 145) (cn 12) x5)) 146 (upd ((va_up Fw 29 (putM ((Fw 29)) 400 (nI (cn 0)) (atM ((Fw 29)) 400 (nI (cn 0)) + (-x6)))) 146) (cn 12) x6)) 147 (upd ((va_up Fw 29 (putM ((Fw 29)) 400 (nI (cn 0)) (atM ((Fw 29)) 400 (nI (cn 0)) + (-x6)))) 147) (cn 12) (nI (cn 0)))) 150 (flat ((va_up Fw 29 (putM ((Fw 29)) 400 (nI (cn 0)) (atM ((Fw 29)) 400 (nI (cn 0)) + (-x6)))) 150) 12 (cn 12) f))) H1 := hP
          have hD : va_D A (wX cI (D.1 99) zz g (adO (adO (adO ad 12 (cn 12) bo) 1 (cn 12) w) 2 2 u3) (va_up (va_up cn 12 ((cn 12) + 1)) 22 10) (va_up In 12 ((In 12) + 1)) (va_up (va_up (va_up (va_up (va_up (va_up (va_up (va_up (va_up Fw 29 (putM ((Fw 29)) 400 (nI (cn 0)) (atM ((Fw 29)) 400 (nI (cn 0)) + (-x6)))) 141 (upd ((va_up Fw 29 (putM ((Fw 29)) 400 (nI (cn 0)) (atM ((Fw 29)) 400 (nI (cn 0)) + (-x6)))) 141) (cn 12) x1)) 142 (upd ((va_up Fw 29 (putM ((Fw 29)) 400 (nI (cn 0)) (atM ((Fw 29)) 400 (nI (cn 0)) + (-x6)))) 142) (cn 12) x2)) 143 (upd ((va_up Fw 29 (putM ((Fw 29)) 400 (nI (cn 0)) (atM ((Fw 29)) 400 (nI (cn 0)) + (-x6)))) 143) (cn 12) x3)) 144 (upd ((va_up Fw 29 (putM ((Fw 29)) 400 (nI (cn 0)) (atM ((Fw 29)) 400 (nI (cn 0)) + (-x6)))) 144) (cn 12) x4)) 145 (upd ((va_up Fw 29 (putM ((Fw 29)) 400 (nI (cn 0)) (atM ((Fw 29)) 400 (nI (cn 0)) + (-x6)))) 145) (cn 12) x5)) 146 (upd ((va_up Fw 29 (putM ((Fw 29)) 400 (nI (cn 0)) (atM ((Fw 29)) 400 (nI (cn 0)) + (-x6)))) 146) (cn 12) x6)) 147 (upd ((va_up Fw 29 (putM ((Fw 29)) 400 (nI (cn 0)) (atM ((Fw 29)) 400 (nI (cn 0)) + (-x6)))) 147) (cn 12) (nI (cn 0)))) 150 (flat ((va_up Fw 29 (putM ((Fw 29)) 400 (nI (cn 0)) (atM ((Fw 29)) 400 (nI (cn 0)) + (-x6)))) 150) 12 (cn 12) f))) := hD
          generalize H1 = H at hP hS ⊢
          refine W.widen (k := 1) (n := 100) (Nat.le_of_ble_eq_true rfl) (Nat.le_of_ble_eq_true rfl) ?_
          refine lv_pop hx hb dX11_keep_69 rfl ?_
          have hFr9 := (hfr2.2.2)
          have hK9 : ∀ k : Nat, Fw 129 k = if k < cn 11 ∧ k < 20 ∧ ¬ (x4 >>> (nI k &&& 31)) &&& 1 = 0 then 1 else Fn 129 k := fun k => (hx2_0 k).trans (ifcg9 ⟨fun w => ⟨w.1, by omega, w.2.2⟩, fun w => ⟨w.1, by omega, w.2.2⟩⟩)
          exact W.vret hx hb hr (fun t ht hW => ⟨⟨((adO (adO (adO ad 12 (cn 12) bo) 1 (cn 12) w) 2 2 u3), (va_up (va_up cn 12 ((cn 12) + 1)) 22 10), (va_up In 12 ((In 12) + 1)), (va_up (va_up (va_up (va_up (va_up (va_up (va_up (va_up (va_up Fw 29 (putM ((Fw 29)) 400 (nI (cn 0)) (atM ((Fw 29)) 400 (nI (cn 0)) + (-x6)))) 141 (upd ((va_up Fw 29 (putM ((Fw 29)) 400 (nI (cn 0)) (atM ((Fw 29)) 400 (nI (cn 0)) + (-x6)))) 141) (cn 12) x1)) 142 (upd ((va_up Fw 29 (putM ((Fw 29)) 400 (nI (cn 0)) (atM ((Fw 29)) 400 (nI (cn 0)) + (-x6)))) 142) (cn 12) x2)) 143 (upd ((va_up Fw 29 (putM ((Fw 29)) 400 (nI (cn 0)) (atM ((Fw 29)) 400 (nI (cn 0)) + (-x6)))) 143) (cn 12) x3)) 144 (upd ((va_up Fw 29 (putM ((Fw 29)) 400 (nI (cn 0)) (atM ((Fw 29)) 400 (nI (cn 0)) + (-x6)))) 144) (cn 12) x4)) 145 (upd ((va_up Fw 29 (putM ((Fw 29)) 400 (nI (cn 0)) (atM ((Fw 29)) 400 (nI (cn 0)) + (-x6)))) 145) (cn 12) x5)) 146 (upd ((va_up Fw 29 (putM ((Fw 29)) 400 (nI (cn 0)) (atM ((Fw 29)) 400 (nI (cn 0)) + (-x6)))) 146) (cn 12) x6)) 147 (upd ((va_up Fw 29 (putM ((Fw 29)) 400 (nI (cn 0)) (atM ((Fw 29)) 400 (nI (cn 0)) + (-x6)))) 147) (cn 12) (nI (cn 0)))) 150 (flat ((va_up Fw 29 (putM ((Fw 29)) 400 (nI (cn 0)) (atM ((Fw 29)) 400 (nI (cn 0)) + (-x6)))) 150) 12 (cn 12) f))), rfl, ⟨Fw, hFr9, hK9, u3, 10, ((In 12) + 1), ⟨by omega, by omega⟩, rfl, rfl, rfl, rfl⟩, by rw [ht]; exact hP, hD⟩, hS.F ht⟩) hS.2.2 dX11_keep_70
        ·
          have hi9 : (wX cI (D.1 99) zz g ad cn In (va_up Fw 29 (putM ((Fw 29)) 400 (nI (cn 0)) (atM ((Fw 29)) 400 (nI (cn 0)) + (-x6)))))[26]? = _ := xl_2 hz0
          have hj9 : (wX cI (D.1 99) zz g ad cn In (va_up Fw 29 (putM ((Fw 29)) 400 (nI (cn 0)) (atM ((Fw 29)) 400 (nI (cn 0)) + (-x6)))))[_]? = _ := xf_15 (k := 0) (show 0 < min 1 (cn 12) by omega)
          obtain ⟨ws9, hp1, hp2⟩ := pickG (W := ((wX cI (D.1 99) zz g ad cn In (va_up Fw 29 (putM ((Fw 29)) 400 (nI (cn 0)) (atM ((Fw 29)) 400 (nI (cn 0)) + (-x6))))) ++ ([(bo, .inr (1, [.ref w, .int x1, .int x2, .int x3, .int x4, .int x5, .int x6, .int (nI (cn 0))])), (w, .inl (cI, 12, .inl f))] : va_W))) (exl hi9) (exl hj9) (exr (m := 0) rfl) (xij (by decide)) (ne_ex hi9) (ne_ex hj9)
          have hP9 := va_P_perm hp1 hP
          have hD9 := va_D_perm hp1 hD
          have hFc := free_all hD9 hS hA
          refine va_calli (runV_xa (As := [.ref bo]) (rest := []) S (q_l_addGB l D cI cB cZ zz qq vv bt (cn 22) (g 12) (ad 2 2) (cn 12) bo (In 12) (ad 12) x1 x2 x3 x4 x5 x6 (nI (cn 0)) w ws9 H.size (by omega) (by omega) hz0 (by omega) (fun i hi => ⟨_, g_mem (hp1.mem_iff.mp (List.mem_of_getElem? (exl (xf_2 (k := i) hi)))) (by decide)⟩)) kV_RX11_110 hK hXS hS hFc hP9 hD9 0 rfl rfl rfl ⟨Nat.le_of_ble_eq_true rfl, Nat.le_of_ble_eq_true rfl⟩ ⟨Nat.le_of_ble_eq_true rfl, Nat.le_of_ble_eq_true rfl⟩ rfl hl.1 rfl (Nat.le_of_ble_eq_true rfl) dX11_keep_66) hS (fun q _ h => hFc q h) hFc (fun r3 u3 t H1 locs ht hvm h3 hB1 hz1 hk1 hS => ?_)
          obtain ⟨hP1, hD1⟩ := hB1
          rw [ht] at hP1
          obtain ⟨hr3, h3⟩ := h3
          obtain rfl : r3 = 1 := hr3
          obtain ⟨ua3, uc3⟩ := u3
          have hu3 : cn 12 < uc3 ∧ uc3 ≤ 100 := h3
          obtain ⟨hP, hD⟩ := addG_join hp2 hi9 hj9 hP1 hD1 hFc (xaddB (z := ua3) (c := uc3) (y := (In 12) + 1) (q := bo) (qs := w) (f := f) (x1 := x1) (x2 := x2) (x3 := x3) (x4 := x4) (x5 := x5) (x6 := x6) (x7 := (nI (cn 0))) hz0 hf0)
          have hP : va_P D vwCl (wX cI (D.1 99) zz g (adO (adO (adO ad 12 (cn 12) bo) 1 (cn 12) w) 2 2 ua3) (va_up (va_up cn 12 ((cn 12) + 1)) 22 uc3) (va_up In 12 ((In 12) + 1)) (va_up (va_up (va_up (va_up (va_up (va_up (va_up (va_up (va_up Fw 29 (putM ((Fw 29)) 400 (nI (cn 0)) (atM ((Fw 29)) 400 (nI (cn 0)) + (-x6)))) 141 (upd ((va_up Fw 29 (putM ((Fw 29)) 400 (nI (cn 0)) (atM ((Fw 29)) 400 (nI (cn 0)) + (-x6)))) 141) (cn 12) x1)) 142 (upd ((va_up Fw 29 (putM ((Fw 29)) 400 (nI (cn 0)) (atM ((Fw 29)) 400 (nI (cn 0)) + (-x6)))) 142) (cn 12) x2)) 143 (upd ((va_up Fw 29 (putM ((Fw 29)) 400 (nI (cn 0)) (atM ((Fw 29)) 400 (nI (cn 0)) + (-x6)))) 143) (cn 12) x3)) 144 (upd ((va_up Fw 29 (putM ((Fw 29)) 400 (nI (cn 0)) (atM ((Fw 29)) 400 (nI (cn 0)) + (-x6)))) 144) (cn 12) x4)) 145 (upd ((va_up Fw 29 (putM ((Fw 29)) 400 (nI (cn 0)) (atM ((Fw 29)) 400 (nI (cn 0)) + (-x6)))) 145) (cn 12) x5)) 146 (upd ((va_up Fw 29 (putM ((Fw 29)) 400 (nI (cn 0)) (atM ((Fw 29)) 400 (nI (cn 0)) + (-x6)))) 146) (cn 12) x6)) 147 (upd ((va_up Fw 29 (putM ((Fw 29)) 400 (nI (cn 0)) (atM ((Fw 29)) 400 (nI (cn 0)) + (-x6)))) 147) (cn 12) (nI (cn 0)))) 150 (flat ((va_up Fw 29 (putM ((Fw 29)) 400 (nI (cn 0)) (atM ((Fw 29)) 400 (nI (cn 0)) + (-x6)))) 150) 12 (cn 12) f))) H1 := hP
          have hD : va_D A (wX cI (D.1 99) zz g (adO (adO (adO ad 12 (cn 12) bo) 1 (cn 12) w) 2 2 ua3) (va_up (va_up cn 12 ((cn 12) + 1)) 22 uc3) (va_up In 12 ((In 12) + 1)) (va_up (va_up (va_up (va_up (va_up (va_up (va_up (va_up (va_up Fw 29 (putM ((Fw 29)) 400 (nI (cn 0)) (atM ((Fw 29)) 400 (nI (cn 0)) + (-x6)))) 141 (upd ((va_up Fw 29 (putM ((Fw 29)) 400 (nI (cn 0)) (atM ((Fw 29)) 400 (nI (cn 0)) + (-x6)))) 141) (cn 12) x1)) 142 (upd ((va_up Fw 29 (putM ((Fw 29)) 400 (nI (cn 0)) (atM ((Fw 29)) 400 (nI (cn 0)) + (-x6)))) 142) (cn 12) x2)) 143 (upd ((va_up Fw 29 (putM ((Fw 29)) 400 (nI (cn 0)) (atM ((Fw 29)) 400 (nI (cn 0)) + (-x6)))) 143) (cn 12) x3)) 144 (upd ((va_up Fw 29 (putM ((Fw 29)) 400 (nI (cn 0)) (atM ((Fw 29)) 400 (nI (cn 0)) + (-x6)))) 144) (cn 12) x4)) 145 (upd ((va_up Fw 29 (putM ((Fw 29)) 400 (nI (cn 0)) (atM ((Fw 29)) 400 (nI (cn 0)) + (-x6)))) 145) (cn 12) x5)) 146 (upd ((va_up Fw 29 (putM ((Fw 29)) 400 (nI (cn 0)) (atM ((Fw 29)) 400 (nI (cn 0)) + (-x6)))) 146) (cn 12) x6)) 147 (upd ((va_up Fw 29 (putM ((Fw 29)) 400 (nI (cn 0)) (atM ((Fw 29)) 400 (nI (cn 0)) + (-x6)))) 147) (cn 12) (nI (cn 0)))) 150 (flat ((va_up Fw 29 (putM ((Fw 29)) 400 (nI (cn 0)) (atM ((Fw 29)) 400 (nI (cn 0)) + (-x6)))) 150) 12 (cn 12) f))) := hD
          generalize H1 = H at hP hS ⊢
          refine lv_pop hx hb dX11_keep_69 rfl ?_
          have hFr9 := (hfr2.2.2)
          have hK9 : ∀ k : Nat, Fw 129 k = if k < cn 11 ∧ k < 20 ∧ ¬ (x4 >>> (nI k &&& 31)) &&& 1 = 0 then 1 else Fn 129 k := fun k => (hx2_0 k).trans (ifcg9 ⟨fun w => ⟨w.1, by omega, w.2.2⟩, fun w => ⟨w.1, by omega, w.2.2⟩⟩)
          exact W.vret hx hb hr (fun t ht hW => ⟨⟨((adO (adO (adO ad 12 (cn 12) bo) 1 (cn 12) w) 2 2 ua3), (va_up (va_up cn 12 ((cn 12) + 1)) 22 uc3), (va_up In 12 ((In 12) + 1)), (va_up (va_up (va_up (va_up (va_up (va_up (va_up (va_up (va_up Fw 29 (putM ((Fw 29)) 400 (nI (cn 0)) (atM ((Fw 29)) 400 (nI (cn 0)) + (-x6)))) 141 (upd ((va_up Fw 29 (putM ((Fw 29)) 400 (nI (cn 0)) (atM ((Fw 29)) 400 (nI (cn 0)) + (-x6)))) 141) (cn 12) x1)) 142 (upd ((va_up Fw 29 (putM ((Fw 29)) 400 (nI (cn 0)) (atM ((Fw 29)) 400 (nI (cn 0)) + (-x6)))) 142) (cn 12) x2)) 143 (upd ((va_up Fw 29 (putM ((Fw 29)) 400 (nI (cn 0)) (atM ((Fw 29)) 400 (nI (cn 0)) + (-x6)))) 143) (cn 12) x3)) 144 (upd ((va_up Fw 29 (putM ((Fw 29)) 400 (nI (cn 0)) (atM ((Fw 29)) 400 (nI (cn 0)) + (-x6)))) 144) (cn 12) x4)) 145 (upd ((va_up Fw 29 (putM ((Fw 29)) 400 (nI (cn 0)) (atM ((Fw 29)) 400 (nI (cn 0)) + (-x6)))) 145) (cn 12) x5)) 146 (upd ((va_up Fw 29 (putM ((Fw 29)) 400 (nI (cn 0)) (atM ((Fw 29)) 400 (nI (cn 0)) + (-x6)))) 146) (cn 12) x6)) 147 (upd ((va_up Fw 29 (putM ((Fw 29)) 400 (nI (cn 0)) (atM ((Fw 29)) 400 (nI (cn 0)) + (-x6)))) 147) (cn 12) (nI (cn 0)))) 150 (flat ((va_up Fw 29 (putM ((Fw 29)) 400 (nI (cn 0)) (atM ((Fw 29)) 400 (nI (cn 0)) + (-x6)))) 150) 12 (cn 12) f))), rfl, ⟨Fw, hFr9, hK9, ua3, uc3, ((In 12) + 1), ⟨by omega, by omega⟩, rfl, rfl, rfl, rfl⟩, by rw [ht]; exact hP, hD⟩, hS.F ht⟩) hS.2.2 dX11_keep_70
      ·
        have tc_1 : ((nI i2).toInt : Int) < 20 := Int32.lt_iff_toInt_lt.mp (Int32.not_le.mp c_1)
        refine lv_aload_n hx hb (oc_42 8 (aq_8 shX11_keep_0)) rfl (lvA1 hl) ?_
        refine lv_iload_n hx hb (oc_28 9 (aq_9 shX11_keep_0)) rfl (lvA0 hl) ?_
        refine va_csq (runV_rxa (As := [.int (nI i2)]) (rest := []) S (q_XloadAt l D cI cB cZ zz qq vv bt g ad cn In Fw (nI i2) hI2) kV_RX11_148 hK hXS hS (exP hP) 0 xo_0 rfl rfl ⟨Nat.le_of_ble_eq_true rfl, Nat.le_of_ble_eq_true rfl⟩ ⟨Nat.le_of_ble_eq_true rfl, Nat.le_of_ble_eq_true rfl⟩ rfl hl.1 rfl (Nat.le_of_ble_eq_true rfl) (oc_182 10 (aq_10 shX11_keep_0) uw_0_148)) (fun r_5 h_6 => ?_)
        rcases h_6 with ⟨m9, em9, hm9, rfl⟩ | ⟨hm9, rfl⟩
        ·
          obtain rfl : i2 = m9 := (by omega)
          refine lv_astore_n (lv' := [(3, .ref (ad 11 i2)), (2, .int (nI i2)), (0, .ref (g 0)), (1, .ref bo)]) hx hb dX11_keep_13 rfl hl (ltb rfl) rfl (fun ls hl => ?_)
          refine lv_aload_n hx hb dX11_keep_14 rfl (lvA0 hl) ?_
          refine lv_ifnull hx hb dX11_keep_15 ?_
          refine lv_aload_n hx hb (oc_43 18 (aq_18 shX11_keep_0)) rfl (lvA3 hl) ?_
          refine lv_iload_n hx hb (oc_28 19 (aq_19 shX11_keep_0)) rfl (lvA1 hl) ?_
          refine vp_callSi (runV_r (As := [.int (nI i2)]) (rest := []) S (q_l_has l D cI cB cZ bo w x1 x2 x3 x4 x5 x6 x7 (nI i2)) kV_RX11_378 hK hP _ (one_is (exr (m := 0) rfl)) _ (exr (m := 0) rfl) rfl rfl ⟨Nat.le_of_ble_eq_true rfl, Nat.le_of_ble_eq_true rfl⟩ ⟨Nat.le_of_ble_eq_true rfl, Nat.le_of_ble_eq_true rfl⟩ rfl hl.1 rfl (Nat.le_of_ble_eq_true rfl) (oc_182 20 (aq_20 shX11_keep_0) uw_1_122)) (fun r_7 h_8 => ?_)
          rcases h_8 with ⟨rfl, h_8⟩ | ⟨rfl, h_8⟩
          ·
            refine lv_if_eq (tgt := 31) hx hb dX11_keep_23 rfl (fun h => absurd h cq_eq_1_0) (fun _ => ?_)
            refine lv_aload_n hx hb (oc_45 26 shX11_keep_26) rfl (lvA0 hl) ?_
            refine lv_iconst (v := 1) hx hb (oc_4 27 (aq_1 shX11_keep_26)) kic_1 ?_
            refine pf_RX11_349 S hK hP hD hS _ (exl (xf_1 (by omega))) (v := .int 1) (Nat.le_of_ble_eq_true rfl) rfl rfl (oc_181 28 (aq_2 shX11_keep_26) uw_1_93) (fun H locs hP hD hS => ?_)
            have hP : va_P D vwCl ((wX cI (D.1 99) zz g ad cn In (va_up Fw 129 (upd (Fw 129) i2 1))) ++ ([(bo, .inr (1, [.ref w, .int x1, .int x2, .int x3, .int x4, .int x5, .int x6, .int x7])), (w, .inl (cI, 12, .inl f))] : va_W)) H := va_P_eq (exs_l (xf_1 (by omega)) (xs_129 (by omega))) hP
            have hD : va_D A ((wX cI (D.1 99) zz g ad cn In (va_up Fw 129 (upd (Fw 129) i2 1))) ++ ([(bo, .inr (1, [.ref w, .int x1, .int x2, .int x3, .int x4, .int x5, .int x6, .int x7])), (w, .inl (cI, 12, .inl f))] : va_W)) := va_D_eq (exs_l (xf_1 (by omega)) (xs_129 (by omega))) hD
            refine lv_iinc (v := (nI (i2 + 1))) (lv' := [(2, .int (nI (i2 + 1))), (3, .ref (ad 11 i2)), (0, .ref (g 0)), (1, .ref bo)]) hx hb dX11_keep_31 hl (k := 1) rfl (nI_1 _) (ltb rfl) rfl (fun ls hl => ?_)
            refine lv_goto (tgt := 2) hx hb dX11_keep_34 rfl ?_
            exact ih2 (i2 + 1) (va_up Fw 129 (upd (Fw 129) i2 1)) _ _ (by omega) ⟨(by omega), (Fr.mo (Fr.f 129 hfr2) (sbl rfl) (sbl rfl) (sbl rfl)), hI2, (fun k => if q9 : k = i2 then (by subst q9; show upd (Fw 129) k 1 k = _; rw [upd_self, if_pos ⟨by omega, by omega, h_8⟩]) else (by show upd (Fw 129) i2 1 k = _; rw [show upd (Fw 129) i2 1 k = Fw 129 k from if_neg q9, hx2_0 k]; exact ifcg9 ⟨fun w => ⟨w.1, by omega, w.2.2⟩, fun w => ⟨w.1, by omega, w.2.2⟩⟩))⟩ hP hD hS ls (lv_sub hl [0, 2, 3] rfl)
          ·
            refine lv_if_eq (tgt := 31) hx hb dX11_keep_23 rfl (fun _ => ?_) (fun h => absurd h cq_eq_0_0)
            refine lv_iinc (v := (nI (i2 + 1))) (lv' := [(2, .int (nI (i2 + 1))), (3, .ref (ad 11 i2)), (0, .ref (g 0)), (1, .ref bo)]) hx hb dX11_keep_31 hl (k := 1) rfl (nI_1 _) (ltb rfl) rfl (fun ls hl => ?_)
            refine lv_goto (tgt := 2) hx hb dX11_keep_34 rfl ?_
            exact ih2 (i2 + 1) Fw _ _ (by omega) ⟨(by omega), (Fr.mo hfr2 (sbl rfl) (sbl rfl) (sbl rfl)), hI2, (fun k => (hx2_0 k).trans (ifcg9 ⟨fun w => ⟨w.1, by omega, w.2.2⟩, fun w => ⟨w.1, by have q9 : ¬ k = i2 := (fun e9 => by subst e9; exact w.2.2 h_8); omega, w.2.2⟩⟩))⟩ hP hD hS ls (lv_sub hl [0, 2, 3] rfl)
        ·
          refine lv_astore_nN (lv' := [(3, .null), (2, .int (nI i2)), (0, .ref (g 0)), (1, .ref bo)]) hx hb dX11_keep_13 rfl hl (ltb rfl) rfl (fun ls hl => ?_)
          refine lv_aload_nN hx hb dX11_keep_14 rfl (lvA0 hl) ?_
          refine lv_ifnullN (tgt := 31) hx hb dX11_keep_15 rfl ?_
          refine lv_iinc (v := (nI (i2 + 1))) (lv' := [(2, .int (nI (i2 + 1))), (3, .null), (0, .ref (g 0)), (1, .ref bo)]) hx hb dX11_keep_31 hl (k := 1) rfl (nI_1 _) (ltb rfl) rfl (fun ls hl => ?_)
          refine lv_goto (tgt := 2) hx hb dX11_keep_34 rfl ?_
          exact ih2 (i2 + 1) Fw _ _ (by omega) ⟨(by omega), (Fr.mo hfr2 (sbl rfl) (sbl rfl) (sbl rfl)), hI2, (fun k => (hx2_0 k).trans (ifcg9 ⟨fun w => ⟨w.1, by omega, w.2.2⟩, fun w => ⟨w.1, by omega, w.2.2⟩⟩))⟩ hP hD hS ls (lv_sub hl [0, 2, 3] rfl)
  exact lp_2 _ 0 Fn _ _ (Nat.lt_succ_self _) ⟨(by omega), (Fr.mo Fr.rf (sbl rfl) (sbl rfl) (sbl rfl)), hB, (fun k => (if_neg (fun w => absurd w.2.1 (Nat.not_lt_zero k))).symm)⟩ hP hD hS ls (lv_sub hl [0, 1, 2] rfl)
set_option maxRecDepth 100000 in
set_option maxHeartbeats 4000000 in
theorem q_Vbatch (l : Launch) (D : va_G) (cI cB cZ : ClassId) (zz qq vv : Nat) (bt : Nat → Int32) (g : Nat → Nat) (ad : Nat → Nat → Nat) (cn : Nat → Nat) (In : Nat → Int32) (Fn : Nat → Nat → Int32) (v0 : Int32) (o : OutT) (cl : ClsT) (sz : Nat) (hB : CBX cn) (hT : (∀ k : Nat, k < cn 10 → ad 3 k < cn 6) ∧ ad 4 0 < cn 6 ∧ ad 4 1 < cn 6) (hbt : BTL bt) (hX : XTy (ad 4 0) Fn 108 o cl) : Met l yX11_batch (CWS yX11_batch cX11_batch 4 (some .int)) (RM 9 3 120) (PBx [.ref (g 0), .int v0] D cI cB cZ zz qq vv bt (wX cI (D.1 99) zz g ad cn In Fn) sz) (va_Qi (fun (r : Int32) (u : (Nat → Nat → Nat) × (Nat → Nat) × (Nat → Int32) × (Nat → Nat → Int32)) => (fun r a2 c2 I2 F2 => ∃ (Fb : Nat → Nat → Int32), (∀ k, k ∉ [7, 129, 196, 197, 305] → Fb k = Fn k) ∧ ((ad = a2 ∧ cn = c2 ∧ In = I2 ∧ Fb = F2 ∧ F2 129 = Fn 129 ∧ ((¬ ((1 ≤ v0.toInt ∧ v0.toInt ≤ 1048575) ∧ cn 12 < 10 ∧ (∀ i : Nat, i < 20 → ¬ (v0 >>> (nI i &&& 31)) &&& 1 = 0 → i < cn 11 ∧ Fn 129 i = 0 ∧ (Fn 125 i).toInt ≤ (cn 0 : Int))) ∧ r = -1) ∨ (((1 ≤ v0.toInt ∧ v0.toInt ≤ 1048575) ∧ cn 12 < 10 ∧ (∀ i : Nat, i < 20 → ¬ (v0 >>> (nI i &&& 31)) &&& 1 = 0 → i < cn 11 ∧ Fn 129 i = 0 ∧ (Fn 125 i).toInt ≤ (cn 0 : Int))) ∧ ∃ rr : Int32, FTX o (cut (mxL (Fn 122) (Fn 123) (Fn 124) (Fn 20) v0 (cn 0))) cl 0 rr ∧ ¬ rr = -1 ∧ r = -10 - rr))) ∨ ((((1 ≤ v0.toInt ∧ v0.toInt ≤ 1048575) ∧ cn 12 < 10 ∧ (∀ i : Nat, i < 20 → ¬ (v0 >>> (nI i &&& 31)) &&& 1 = 0 → i < cn 11 ∧ Fn 129 i = 0 ∧ (Fn 125 i).toInt ≤ (cn 0 : Int))) ∧ FTX o (cut (mxL (Fn 122) (Fn 123) (Fn 124) (Fn 20) v0 (cn 0))) cl 0 (-1)) ∧ r = nI (cn 12) ∧ cn 12 < 10 ∧ (∀ k : Nat, Fb 129 k = if k < cn 11 ∧ k < 20 ∧ ¬ (v0 >>> (nI k &&& 31)) &&& 1 = 0 then 1 else Fn 129 k) ∧ ∃ (q qs z c : Nat) (y : Int32), (cn 12 < c ∧ c ≤ 100) ∧ (adO (adO (adO ad 12 (cn 12) q) 1 (cn 12) qs) 2 2 z) = a2 ∧ (va_up (va_up cn 12 ((cn 12) + 1)) 22 c) = c2 ∧ (va_up In 12 y) = I2 ∧ (va_up (va_up (va_up (va_up (va_up (va_up (va_up (va_up (va_up Fb 29 (putM (Fb 29) 400 (nI (cn 0)) (atM (Fb 29) 400 (nI (cn 0)) + -(mxI (Fn 122) v0 20)))) 141 (upd ((va_up Fb 29 (putM (Fb 29) 400 (nI (cn 0)) (atM (Fb 29) 400 (nI (cn 0)) + -(mxI (Fn 122) v0 20)))) 141) (cn 12) (mxI (fun i => Fn 122 i * Fn 123 i) v0 20))) 142 (upd ((va_up Fb 29 (putM (Fb 29) 400 (nI (cn 0)) (atM (Fb 29) 400 (nI (cn 0)) + -(mxI (Fn 122) v0 20)))) 142) (cn 12) (mxI (fun i => Fn 122 i * Fn 124 i) v0 20))) 143 (upd ((va_up Fb 29 (putM (Fb 29) 400 (nI (cn 0)) (atM (Fb 29) 400 (nI (cn 0)) + -(mxI (Fn 122) v0 20)))) 143) (cn 12) 0)) 144 (upd ((va_up Fb 29 (putM (Fb 29) 400 (nI (cn 0)) (atM (Fb 29) 400 (nI (cn 0)) + -(mxI (Fn 122) v0 20)))) 144) (cn 12) v0)) 145 (upd ((va_up Fb 29 (putM (Fb 29) 400 (nI (cn 0)) (atM (Fb 29) 400 (nI (cn 0)) + -(mxI (Fn 122) v0 20)))) 145) (cn 12) (mxI (fun _ => 1) v0 20))) 146 (upd ((va_up Fb 29 (putM (Fb 29) 400 (nI (cn 0)) (atM (Fb 29) 400 (nI (cn 0)) + -(mxI (Fn 122) v0 20)))) 146) (cn 12) (mxI (Fn 122) v0 20))) 147 (upd ((va_up Fb 29 (putM (Fb 29) 400 (nI (cn 0)) (atM (Fb 29) 400 (nI (cn 0)) + -(mxI (Fn 122) v0 20)))) 147) (cn 12) (nI (cn 0)))) 150 (flat ((va_up Fb 29 (putM (Fb 29) 400 (nI (cn 0)) (atM (Fb 29) 400 (nI (cn 0)) + -(mxI (Fn 122) v0 20)))) 150) 12 (cn 12) (fun _ => 0))) = F2))) r u.1 u.2.1 u.2.2.1 u.2.2.2) (fun (u : (Nat → Nat → Nat) × (Nat → Nat) × (Nat → Int32) × (Nat → Nat → Int32)) (t : State) => va_P D vwCl (wX cI (D.1 99) zz g u.1 u.2.1 u.2.2.1 u.2.2.2) t.heap ∧ va_D (va_A (wX cI (D.1 99) zz g ad cn In Fn) sz) (wX cI (D.1 99) zz g u.1 u.2.1 u.2.2.1 u.2.2.2)) (va_A (wX cI (D.1 99) zz g ad cn In Fn) sz)) 3 120 (va_A (wX cI (D.1 99) zz g ad cn In Fn) sz) := by
  refine en_x (fun A => (va_Qi (fun (r : Int32) (u : (Nat → Nat → Nat) × (Nat → Nat) × (Nat → Int32) × (Nat → Nat → Int32)) => (fun (r : Int32) (a2 : Nat → Nat → Nat) (c2 : Nat → Nat) (I2 : Nat → Int32) (F2 : Nat → Nat → Int32) => ∃ (Fb : Nat → Nat → Int32), (∀ k, k ∉ [7, 129, 196, 197, 305] → Fb k = Fn k) ∧ ((ad = a2 ∧ cn = c2 ∧ In = I2 ∧ Fb = F2 ∧ F2 129 = Fn 129 ∧ ((¬ ((1 ≤ v0.toInt ∧ v0.toInt ≤ 1048575) ∧ cn 12 < 10 ∧ (∀ i : Nat, i < 20 → ¬ (v0 >>> (nI i &&& 31)) &&& 1 = 0 → i < cn 11 ∧ Fn 129 i = 0 ∧ (Fn 125 i).toInt ≤ (cn 0 : Int))) ∧ r = -1) ∨ (((1 ≤ v0.toInt ∧ v0.toInt ≤ 1048575) ∧ cn 12 < 10 ∧ (∀ i : Nat, i < 20 → ¬ (v0 >>> (nI i &&& 31)) &&& 1 = 0 → i < cn 11 ∧ Fn 129 i = 0 ∧ (Fn 125 i).toInt ≤ (cn 0 : Int))) ∧ ∃ rr : Int32, FTX o (cut (mxL (Fn 122) (Fn 123) (Fn 124) (Fn 20) v0 (cn 0))) cl 0 rr ∧ ¬ rr = -1 ∧ r = -10 - rr))) ∨ ((((1 ≤ v0.toInt ∧ v0.toInt ≤ 1048575) ∧ cn 12 < 10 ∧ (∀ i : Nat, i < 20 → ¬ (v0 >>> (nI i &&& 31)) &&& 1 = 0 → i < cn 11 ∧ Fn 129 i = 0 ∧ (Fn 125 i).toInt ≤ (cn 0 : Int))) ∧ FTX o (cut (mxL (Fn 122) (Fn 123) (Fn 124) (Fn 20) v0 (cn 0))) cl 0 (-1)) ∧ r = nI (cn 12) ∧ cn 12 < 10 ∧ (∀ k : Nat, Fb 129 k = if k < cn 11 ∧ k < 20 ∧ ¬ (v0 >>> (nI k &&& 31)) &&& 1 = 0 then 1 else Fn 129 k) ∧ ∃ (q qs z c : Nat) (y : Int32), (cn 12 < c ∧ c ≤ 100) ∧ (adO (adO (adO ad 12 (cn 12) q) 1 (cn 12) qs) 2 2 z) = a2 ∧ (va_up (va_up cn 12 ((cn 12) + 1)) 22 c) = c2 ∧ (va_up In 12 y) = I2 ∧ (va_up (va_up (va_up (va_up (va_up (va_up (va_up (va_up (va_up Fb 29 (putM (Fb 29) 400 (nI (cn 0)) (atM (Fb 29) 400 (nI (cn 0)) + -(mxI (Fn 122) v0 20)))) 141 (upd ((va_up Fb 29 (putM (Fb 29) 400 (nI (cn 0)) (atM (Fb 29) 400 (nI (cn 0)) + -(mxI (Fn 122) v0 20)))) 141) (cn 12) (mxI (fun i => Fn 122 i * Fn 123 i) v0 20))) 142 (upd ((va_up Fb 29 (putM (Fb 29) 400 (nI (cn 0)) (atM (Fb 29) 400 (nI (cn 0)) + -(mxI (Fn 122) v0 20)))) 142) (cn 12) (mxI (fun i => Fn 122 i * Fn 124 i) v0 20))) 143 (upd ((va_up Fb 29 (putM (Fb 29) 400 (nI (cn 0)) (atM (Fb 29) 400 (nI (cn 0)) + -(mxI (Fn 122) v0 20)))) 143) (cn 12) 0)) 144 (upd ((va_up Fb 29 (putM (Fb 29) 400 (nI (cn 0)) (atM (Fb 29) 400 (nI (cn 0)) + -(mxI (Fn 122) v0 20)))) 144) (cn 12) v0)) 145 (upd ((va_up Fb 29 (putM (Fb 29) 400 (nI (cn 0)) (atM (Fb 29) 400 (nI (cn 0)) + -(mxI (Fn 122) v0 20)))) 145) (cn 12) (mxI (fun _ => 1) v0 20))) 146 (upd ((va_up Fb 29 (putM (Fb 29) 400 (nI (cn 0)) (atM (Fb 29) 400 (nI (cn 0)) + -(mxI (Fn 122) v0 20)))) 146) (cn 12) (mxI (Fn 122) v0 20))) 147 (upd ((va_up Fb 29 (putM (Fb 29) 400 (nI (cn 0)) (atM (Fb 29) 400 (nI (cn 0)) + -(mxI (Fn 122) v0 20)))) 147) (cn 12) (nI (cn 0)))) 150 (flat ((va_up Fb 29 (putM (Fb 29) 400 (nI (cn 0)) (atM (Fb 29) 400 (nI (cn 0)) + -(mxI (Fn 122) v0 20)))) 150) 12 (cn 12) (fun _ => 0))) = F2))) r u.1 u.2.1 u.2.2.1 u.2.2.2) (fun (u : (Nat → Nat → Nat) × (Nat → Nat) × (Nat → Int32) × (Nat → Nat → Int32)) (t : State) => va_P D vwCl (wX cI (D.1 99) zz g u.1 u.2.1 u.2.2.1 u.2.2.2) t.heap ∧ va_D A (wX cI (D.1 99) zz g u.1 u.2.1 u.2.2.1 u.2.2.2)) A)) rfl rfl pn_RX11 (Nat.le_of_ble_eq_true rfl) (fun p e s m below meth c A hx hb hml hown S hr hlocks hnm hA hP hK hD hXS hS ls hl => ?_)
  have hl : lv_has ls 4 [(0, .ref (g 0)), (1, .int v0)] := hl
  refine lv_iload_n hx hb (oc_27 0 shX11_batch_0) rfl (lvA1 hl) ?_
  refine lv_iconst (v := 1) hx hb (oc_4 1 (aq_1 shX11_batch_0)) kic_1 ?_
  refine lv_ldcw (v := 1048575) hx hb hown (S.2.2.2.2 _ (wk4_17 2 rfl rfl)) (oc_19 2 (aq_2 shX11_batch_0) uw_1_106) ?_
  refine vp_callSi (runS_r (As := [.int v0, .int 1, .int 1048575]) (rest := []) S (q_l_within l D cI cB cZ v0 1 1048575) kS_RX11_80 hK hP [] rfl ⟨Nat.le_of_ble_eq_true rfl, Nat.le_of_ble_eq_true rfl⟩ ⟨Nat.le_of_ble_eq_true rfl, Nat.le_of_ble_eq_true rfl⟩ rfl hl.1 rfl (Nat.le_of_ble_eq_true rfl) (oc_184 5 (aq_5 shX11_batch_0) uw_0_80)) (fun r_1 h_2 => ?_)
  rcases h_2 with ⟨rfl, h_2⟩ | ⟨rfl, h_2⟩
  ·
    have h_2 : 1 ≤ v0.toInt ∧ v0.toInt ≤ 1048575 := h_2
    refine lv_if_eq (tgt := 23) hx hb dX11_batch_8 rfl (fun h => absurd h cq_eq_1_0) (fun _ => ?_)
    refine lv_aload_n hx hb (oc_42 11 (aq_11 shX11_batch_0)) rfl (lvA0 hl) ?_
    refine gf_RX11_68 S hK hP 0 xo_0 (v := .ref (g 12)) rfl (oc_180 12 (aq_12 shX11_batch_0) uw_0_68) ?_
    refine vp_callSi (runV_r (As := []) (rest := []) S (q_l_size l D cI cB cZ (g 12) (if (cn 12) = 0 then zz else ad 2 2) (In 12) (nI (cn 12))) kV_RX11_84 hK hP [26] (one_is xo_26) 26 xo_26 rfl rfl ⟨Nat.le_of_ble_eq_true rfl, Nat.le_of_ble_eq_true rfl⟩ ⟨Nat.le_of_ble_eq_true rfl, Nat.le_of_ble_eq_true rfl⟩ rfl hl.1 rfl (Nat.le_of_ble_eq_true rfl) (oc_182 15 (aq_15 shX11_batch_0) uw_0_84)) (fun r_3 h_4 => ?_)
    subst h_4
    refine lv_bipush (v := 10) hx hb (oc_16 18 (aq_18 shX11_batch_0) sgb_10) kbc_10 ?_
    have : (nI (cn 12)).toInt = (((cn 12) : Nat) : Int) := nI_toInt (by omega)
    refine lv_icmp_lt (tgt := 25) hx hb (oc_161 20 (aq_20 shX11_batch_0) sgw_0_5) rfl (fun c_5 => ?_) (fun c_5 => ?_)
    ·
      have tc_5 : ((nI (cn 12)).toInt : Int) < 10 := Int32.lt_iff_toInt_lt.mp c_5
      refine lv_aload_n hx hb (oc_42 25 (aq_1 shX11_batch_24)) rfl (lvA0 hl) ?_
      refine lv_iload_n hx hb (oc_27 26 (aq_2 shX11_batch_24)) rfl (lvA1 hl) ?_
      have hFc := free_all hD hS hA
      refine va_callq (runV_xa (As := [.int v0]) (rest := []) S (q_Wmixed l D cI cB cZ zz qq vv bt g ad cn In Fn v0 s.heap.size hB ⟨by omega, by omega⟩) kV_RX11_363 hK hXS hS hFc hP hD 0 xo_0 rfl rfl ⟨Nat.le_of_ble_eq_true rfl, Nat.le_of_ble_eq_true rfl⟩ ⟨Nat.le_of_ble_eq_true rfl, Nat.le_of_ble_eq_true rfl⟩ rfl hl.1 rfl (Nat.le_of_ble_eq_true rfl) (oc_182 27 (aq_3 shX11_batch_24) uw_1_107)) hS (fun q _ h => hFc q h) hFc (fun r5 u5 t H1 locs ht hvm h5 hB1 hz1 hk1 hS => ?_)
      obtain ⟨hP1, hD1⟩ := hB1
      rw [ht] at hP1
      obtain ⟨a5, c5, I5, F5, W5⟩ := u5
      obtain ⟨rfl, rfl, rfl, rfl, h5⟩ := h5
      rcases h5 with ⟨rfl, rfl, h5⟩ | ⟨h5, bo5, w5, rfl, rfl⟩
      ·
        rw [List.append_nil] at hP1 hD1
        have hP : va_P D vwCl (wX cI (D.1 99) zz g ad cn In Fn) H1 := hP1
        have hD : va_D A (wX cI (D.1 99) zz g ad cn In Fn) := hD1.weaken (fun _ _ _ h => hFc _ h)
        generalize H1 = H at hP hS ⊢
        refine lv_astore_nN (lv' := [(2, .null), (0, .ref (g 0)), (1, .int v0)]) hx hb dX11_batch_30 rfl hl (ltb rfl) rfl (fun ls hl => ?_)
        refine lv_aload_nN hx hb dX11_batch_31 rfl (lvA0 hl) ?_
        refine lv_ifnonnullN hx hb dX11_batch_32 ?_
        refine lv_iconst (v := (-1)) hx hb (oc_2 35 (aq_11 shX11_batch_24)) kic_m1 ?_
        refine W.widen (k := 3) (n := 120) (Nat.le_of_ble_eq_true rfl) (Nat.le_of_ble_eq_true rfl) ?_
        exact W.iret (v := (-1)) hx hb hr (fun t ht hW => ⟨⟨(-1), (ad, cn, In, Fn), rfl, ⟨Fn, (Fr.mo (show Fr [] [] [] cn In Fn cn In Fn from Fr.rf) (sbl rfl) (sbl rfl) (sbl rfl) : Fr [] [] [7, 129, 196, 197, 305] cn In Fn cn In Fn).2.2, Or.inl ⟨rfl, rfl, rfl, rfl, rfl, Or.inl ⟨fun q9 => h5 q9.2.2, rfl⟩⟩⟩, by rw [ht]; exact hP, hD⟩, hS.F ht⟩) hS.2.2 (oc_172 36 (aq_12 shX11_batch_24))
      ·
        have hP : va_P D vwCl ((wX cI (D.1 99) zz g ad cn In Fn) ++ ([(bo5, .inr (1, [.ref w5, .int (mxI (fun i => Fn 122 i * Fn 123 i) v0 20), .int (mxI (fun i => Fn 122 i * Fn 124 i) v0 20), .int 0, .int v0, .int (mxI (fun _ => 1) v0 20), .int (mxI (Fn 122) v0 20), .int 0])), (w5, .inl (cI, 12, .inl (fun _ => 0)))] : va_W)) H1 := hP1
        have hD : va_D A ((wX cI (D.1 99) zz g ad cn In Fn) ++ ([(bo5, .inr (1, [.ref w5, .int (mxI (fun i => Fn 122 i * Fn 123 i) v0 20), .int (mxI (fun i => Fn 122 i * Fn 124 i) v0 20), .int 0, .int v0, .int (mxI (fun _ => 1) v0 20), .int (mxI (Fn 122) v0 20), .int 0])), (w5, .inl (cI, 12, .inl (fun _ => 0)))] : va_W)) := hD1.weaken (fun _ _ _ h => hFc _ h)
        generalize H1 = H at hP hS ⊢
        refine lv_astore_n (lv' := [(2, .ref bo5), (0, .ref (g 0)), (1, .int v0)]) hx hb dX11_batch_30 rfl hl (ltb rfl) rfl (fun ls hl => ?_)
        refine lv_aload_n hx hb dX11_batch_31 rfl (lvA0 hl) ?_
        refine lv_ifnonnull (tgt := 37) hx hb dX11_batch_32 rfl ?_
        refine lv_aload_n hx hb (oc_42 37 (aq_13 shX11_batch_24)) rfl (lvA1 hl) ?_
        have hFc := free_all (exD hD) hS hA
        refine va_callv (runV_xa (As := []) (rest := []) S (q_WlettersOfLaw l D cI cB cZ zz qq vv bt g ad cn In Fn  H.size hB hbt) kV_RX11_367 hK hXS hS hFc (exP hP) (exD hD) 0 xo_0 rfl rfl ⟨Nat.le_of_ble_eq_true rfl, Nat.le_of_ble_eq_true rfl⟩ ⟨Nat.le_of_ble_eq_true rfl, Nat.le_of_ble_eq_true rfl⟩ rfl hl.1 rfl (Nat.le_of_ble_eq_true rfl) (oc_182 38 (aq_14 shX11_batch_24) uw_1_111)) hS (fun q _ h => hFc q h) hFc (fun u t H1 locs ht hvm wh_8 hB1 hz1 hk1 hS => ?_)
        obtain ⟨cn8, In8, Fn8⟩ := u
        obtain ⟨hP1, hD1⟩ := hB1
        rw [ht] at hP1
        obtain ⟨hP, hD⟩ := exjoinL hP hD hk1 hFc hP1 hD1
        have hP : va_P D vwCl ((wX cI (D.1 99) zz g ad cn8 In8 Fn8) ++ ([(bo5, .inr (1, [.ref w5, .int (mxI (fun i => Fn 122 i * Fn 123 i) v0 20), .int (mxI (fun i => Fn 122 i * Fn 124 i) v0 20), .int 0, .int v0, .int (mxI (fun _ => 1) v0 20), .int (mxI (Fn 122) v0 20), .int 0])), (w5, .inl (cI, 12, .inl (fun _ => 0)))] : va_W)) H1 := hP
        have hD : va_D A ((wX cI (D.1 99) zz g ad cn8 In8 Fn8) ++ ([(bo5, .inr (1, [.ref w5, .int (mxI (fun i => Fn 122 i * Fn 123 i) v0 20), .int (mxI (fun i => Fn 122 i * Fn 124 i) v0 20), .int 0, .int v0, .int (mxI (fun _ => 1) v0 20), .int (mxI (Fn 122) v0 20), .int 0])), (w5, .inl (cI, 12, .inl (fun _ => 0)))] : va_W)) := hD
        generalize H1 = H at hP hS ⊢
        have vh_8 : (fun c2 I2 F2 => Fr [] [] [7] cn In Fn c2 I2 F2 ∧ CBX c2 ∧ (F2 7 = upd (upd (upd (upd (upd (upd (upd ((Fn 7)) 3 (nI ((cn 0)))) 4 (nI ((nI ((cn 0))).toInt.toNat / 7))) 5 (nI ((nI ((cn 0))).toInt.toNat % 7))) 9 ((Fn 20) ((nI ((cn 0))).toInt.toNat / 7))) 6 0) 7 0) 8 0)) cn8 In8 Fn8 := wh_8
        obtain ⟨hfc8, hIn8, h_8⟩ := vh_8
        obtain rfl : cn = cn8 := (funext (fun k => hfc8.1 k List.not_mem_nil)).symm
        obtain rfl : In = In8 := (funext (fun k => hfc8.2.1 k List.not_mem_nil)).symm
        have hf8 : Fr [] [] [7, 129, 196, 197, 305] cn In Fn cn In Fn8 := Fr.mo (Fr.tr (Fr.rf (cn := cn) (In := In) (Fn := Fn)) hfc8) (sbl rfl) (sbl rfl) (sbl rfl)
        refine lv_aload_n hx hb (oc_42 41 (aq_17 shX11_batch_24)) rfl (lvA1 hl) ?_
        refine lv_aload_n hx hb (oc_44 42 (aq_18 shX11_batch_24)) rfl (lvA0 hl) ?_
        have hFc := free_all hD hS hA
        refine va_calli (runV_xa (As := [.ref bo5]) (rest := []) S (q_WbrokenClause l D cI cB cZ zz qq vv bt g ad cn In Fn8 bo5 w5 (mxI (fun i => Fn 122 i * Fn 123 i) v0 20) (mxI (fun i => Fn 122 i * Fn 124 i) v0 20) 0 v0 (mxI (fun _ => 1) v0 20) (mxI (Fn 122) v0 20) 0 o cl (([(w5, .inl (cI, 12, .inl (fun _ => 0)))] : va_W)) H.size hIn8 hT hbt (hX.cg (hf8.2.2 195 (nml rfl)) (hf8.2.2 301 (nml rfl)) (hf8.2.2 198 (nml rfl)) (hf8.2.2 302 (nml rfl)) (hf8.2.2 303 (nml rfl)) (hf8.2.2 304 (nml rfl)) (hf8.2.2 199 (nml rfl)))) kV_RX11_370 hK hXS hS hFc hP hD _ (exl xo_0) rfl rfl ⟨Nat.le_of_ble_eq_true rfl, Nat.le_of_ble_eq_true rfl⟩ ⟨Nat.le_of_ble_eq_true rfl, Nat.le_of_ble_eq_true rfl⟩ rfl hl.1 rfl (Nat.le_of_ble_eq_true rfl) (oc_182 43 (aq_19 shX11_batch_24) uw_1_114)) hS (fun q _ h => hFc q h) hFc (fun r8 u8 t H1 locs ht hvm h8 hB1 hz1 hk1 hS => ?_)
        obtain ⟨hP1, hD1⟩ := hB1
        rw [ht] at hP1
        obtain ⟨a8, c8, I8, F8⟩ := u8
        obtain ⟨rfl, rfl, rfl, h8, hft8⟩ := h8
        have hf8 : Fr [] [] [7, 129, 196, 197, 305] cn In Fn cn In F8 := Fr.mo (Fr.tr hf8 (show Fr [] [] [7, 196, 197, 305] cn In Fn8 cn In F8 from ⟨fun _ _ => rfl, fun _ _ => rfl, h8⟩)) (sbl rfl) (sbl rfl) (sbl rfl)
        have hP : va_P D vwCl ((wX cI (D.1 99) zz g ad cn In F8) ++ ([(bo5, .inr (1, [.ref w5, .int (mxI (fun i => Fn 122 i * Fn 123 i) v0 20), .int (mxI (fun i => Fn 122 i * Fn 124 i) v0 20), .int 0, .int v0, .int (mxI (fun _ => 1) v0 20), .int (mxI (Fn 122) v0 20), .int 0])), (w5, .inl (cI, 12, .inl (fun _ => 0)))] : va_W)) H1 := hP1
        have hD : va_D A ((wX cI (D.1 99) zz g ad cn In F8) ++ ([(bo5, .inr (1, [.ref w5, .int (mxI (fun i => Fn 122 i * Fn 123 i) v0 20), .int (mxI (fun i => Fn 122 i * Fn 124 i) v0 20), .int 0, .int v0, .int (mxI (fun _ => 1) v0 20), .int (mxI (Fn 122) v0 20), .int 0])), (w5, .inl (cI, 12, .inl (fun _ => 0)))] : va_W)) := hD1.weaken (fun _ _ _ h => hFc _ h)
        generalize H1 = H at hP hS ⊢
        refine lv_istore_n (lv' := [(3, .int r8), (2, .ref bo5), (0, .ref (g 0)), (1, .int v0)]) hx hb (oc_62 46 (aq_22 shX11_batch_24)) rfl hl (ltb rfl) rfl (fun ls hl => ?_)
        refine lv_iload_n hx hb (oc_29 47 (aq_23 shX11_batch_24)) rfl (lvA0 hl) ?_
        refine lv_iconst (v := (-1)) hx hb (oc_2 48 shX11_batch_48) kic_m1 ?_
        refine lv_icmp_eq (tgt := 57) hx hb (oc_159 49 (aq_1 shX11_batch_48) sgw_0_8) rfl (fun c_10 => ?_) (fun c_10 => ?_)
        ·
          have tc_10 : (r8.toInt : Int) = (-1) := congrArg Int32.toInt c_10
          refine lv_aload_n hx hb (oc_42 57 (aq_9 shX11_batch_48)) rfl (lvA2 hl) ?_
          refine lv_aload_n hx hb (oc_44 58 (aq_10 shX11_batch_48)) rfl (lvA1 hl) ?_
          have hFc := free_all hD hS hA
          refine va_callv (runV_xa (As := [.ref bo5]) (rest := []) S (q_Wkeep l D cI cB cZ zz qq vv bt g ad cn In F8 bo5 w5 (mxI (fun i => Fn 122 i * Fn 123 i) v0 20) (mxI (fun i => Fn 122 i * Fn 124 i) v0 20) 0 v0 (mxI (fun _ => 1) v0 20) (mxI (Fn 122) v0 20) 0 (fun _ => 0) H.size hIn8 (by omega) (fun _ _ => rfl)) kV_RX11_374 hK hXS hS hFc hP hD _ (exl xo_0) rfl rfl ⟨Nat.le_of_ble_eq_true rfl, Nat.le_of_ble_eq_true rfl⟩ ⟨Nat.le_of_ble_eq_true rfl, Nat.le_of_ble_eq_true rfl⟩ rfl hl.1 rfl (Nat.le_of_ble_eq_true rfl) (oc_182 59 (aq_11 shX11_batch_48) uw_1_118)) hS (fun q _ h => hFc q h) hFc (fun u10 t H1 locs ht hvm h10 hB1 hz1 hk1 hS => ?_)
          obtain ⟨hP1, hD1⟩ := hB1
          rw [ht] at hP1
          obtain ⟨a10, c10, I10, F10⟩ := u10
          obtain ⟨G10, hG10, hKb10, z10, k10, y10, hk10, rfl, rfl, rfl, rfl⟩ := h10
          have hf10 : Fr [] [] [7, 129, 196, 197, 305] cn In Fn cn In G10 := Fr.mo (Fr.tr hf8 (show Fr [] [] [129] cn In F8 cn In G10 from ⟨fun _ _ => rfl, fun _ _ => rfl, hG10⟩)) (sbl rfl) (sbl rfl) (sbl rfl)
          have hP : va_P D vwCl (wX cI (D.1 99) zz g (adO (adO (adO ad 12 (cn 12) bo5) 1 (cn 12) w5) 2 2 z10) (va_up (va_up cn 12 ((cn 12) + 1)) 22 k10) (va_up In 12 y10) (va_up (va_up (va_up (va_up (va_up (va_up (va_up (va_up (va_up G10 29 (putM (G10 29) 400 (nI (cn 0)) (atM (G10 29) 400 (nI (cn 0)) + -(mxI (Fn 122) v0 20)))) 141 (upd ((va_up G10 29 (putM (G10 29) 400 (nI (cn 0)) (atM (G10 29) 400 (nI (cn 0)) + -(mxI (Fn 122) v0 20)))) 141) (cn 12) (mxI (fun i => Fn 122 i * Fn 123 i) v0 20))) 142 (upd ((va_up G10 29 (putM (G10 29) 400 (nI (cn 0)) (atM (G10 29) 400 (nI (cn 0)) + -(mxI (Fn 122) v0 20)))) 142) (cn 12) (mxI (fun i => Fn 122 i * Fn 124 i) v0 20))) 143 (upd ((va_up G10 29 (putM (G10 29) 400 (nI (cn 0)) (atM (G10 29) 400 (nI (cn 0)) + -(mxI (Fn 122) v0 20)))) 143) (cn 12) 0)) 144 (upd ((va_up G10 29 (putM (G10 29) 400 (nI (cn 0)) (atM (G10 29) 400 (nI (cn 0)) + -(mxI (Fn 122) v0 20)))) 144) (cn 12) v0)) 145 (upd ((va_up G10 29 (putM (G10 29) 400 (nI (cn 0)) (atM (G10 29) 400 (nI (cn 0)) + -(mxI (Fn 122) v0 20)))) 145) (cn 12) (mxI (fun _ => 1) v0 20))) 146 (upd ((va_up G10 29 (putM (G10 29) 400 (nI (cn 0)) (atM (G10 29) 400 (nI (cn 0)) + -(mxI (Fn 122) v0 20)))) 146) (cn 12) (mxI (Fn 122) v0 20))) 147 (upd ((va_up G10 29 (putM (G10 29) 400 (nI (cn 0)) (atM (G10 29) 400 (nI (cn 0)) + -(mxI (Fn 122) v0 20)))) 147) (cn 12) (nI (cn 0)))) 150 (flat ((va_up G10 29 (putM (G10 29) 400 (nI (cn 0)) (atM (G10 29) 400 (nI (cn 0)) + -(mxI (Fn 122) v0 20)))) 150) 12 (cn 12) (fun _ => 0)))) H1 := hP1
          have hD : va_D A (wX cI (D.1 99) zz g (adO (adO (adO ad 12 (cn 12) bo5) 1 (cn 12) w5) 2 2 z10) (va_up (va_up cn 12 ((cn 12) + 1)) 22 k10) (va_up In 12 y10) (va_up (va_up (va_up (va_up (va_up (va_up (va_up (va_up (va_up G10 29 (putM (G10 29) 400 (nI (cn 0)) (atM (G10 29) 400 (nI (cn 0)) + -(mxI (Fn 122) v0 20)))) 141 (upd ((va_up G10 29 (putM (G10 29) 400 (nI (cn 0)) (atM (G10 29) 400 (nI (cn 0)) + -(mxI (Fn 122) v0 20)))) 141) (cn 12) (mxI (fun i => Fn 122 i * Fn 123 i) v0 20))) 142 (upd ((va_up G10 29 (putM (G10 29) 400 (nI (cn 0)) (atM (G10 29) 400 (nI (cn 0)) + -(mxI (Fn 122) v0 20)))) 142) (cn 12) (mxI (fun i => Fn 122 i * Fn 124 i) v0 20))) 143 (upd ((va_up G10 29 (putM (G10 29) 400 (nI (cn 0)) (atM (G10 29) 400 (nI (cn 0)) + -(mxI (Fn 122) v0 20)))) 143) (cn 12) 0)) 144 (upd ((va_up G10 29 (putM (G10 29) 400 (nI (cn 0)) (atM (G10 29) 400 (nI (cn 0)) + -(mxI (Fn 122) v0 20)))) 144) (cn 12) v0)) 145 (upd ((va_up G10 29 (putM (G10 29) 400 (nI (cn 0)) (atM (G10 29) 400 (nI (cn 0)) + -(mxI (Fn 122) v0 20)))) 145) (cn 12) (mxI (fun _ => 1) v0 20))) 146 (upd ((va_up G10 29 (putM (G10 29) 400 (nI (cn 0)) (atM (G10 29) 400 (nI (cn 0)) + -(mxI (Fn 122) v0 20)))) 146) (cn 12) (mxI (Fn 122) v0 20))) 147 (upd ((va_up G10 29 (putM (G10 29) 400 (nI (cn 0)) (atM (G10 29) 400 (nI (cn 0)) + -(mxI (Fn 122) v0 20)))) 147) (cn 12) (nI (cn 0)))) 150 (flat ((va_up G10 29 (putM (G10 29) 400 (nI (cn 0)) (atM (G10 29) 400 (nI (cn 0)) + -(mxI (Fn 122) v0 20)))) 150) 12 (cn 12) (fun _ => 0)))) := hD1.weaken (fun _ _ _ h => hFc _ h)
          generalize H1 = H at hP hS ⊢
          refine lv_aload_n hx hb (oc_42 62 (aq_14 shX11_batch_48)) rfl (lvA2 hl) ?_
          refine gf_RX11_68 S hK hP 0 xo_0 (v := .ref (g 12)) rfl (oc_180 63 (aq_15 shX11_batch_48) uw_0_68) ?_
          refine vp_callSi (runV_r (As := []) (rest := []) S (q_l_size l D cI cB cZ (g 12) (if ((cn 12) + 1) = 0 then zz else (adO (adO (adO ad 12 (cn 12) bo5) 1 (cn 12) w5) 2 2 z10) 2 2) y10 (nI ((cn 12) + 1))) kV_RX11_84 hK hP [26] (one_is xo_26) 26 xo_26 rfl rfl ⟨Nat.le_of_ble_eq_true rfl, Nat.le_of_ble_eq_true rfl⟩ ⟨Nat.le_of_ble_eq_true rfl, Nat.le_of_ble_eq_true rfl⟩ rfl hl.1 rfl (Nat.le_of_ble_eq_true rfl) (oc_182 66 (aq_18 shX11_batch_48) uw_0_84)) (fun r_12 h_13 => ?_)
          subst h_13
          refine lv_iconst (v := 1) hx hb (oc_4 69 (aq_21 shX11_batch_48)) kic_1 ?_
          refine lv_isub hx hb (oc_100 70 (aq_22 shX11_batch_48)) ?_
          refine lv_topi (fun y_14 ey_14 => ?_)
          obtain rfl : y_14 = (nI (cn 12)) := ey_14.trans (nI_sub (b := 1) (by omega))
          have hft9 : FTX o (cut (mxL (Fn 122) (Fn 123) (Fn 124) (Fn 20) v0 (cn 0))) cl 0 (-1) := (by have q8 : r8 = -1 := (by first | assumption | exact Int32.toInt_inj.mp (by assumption)); rw [← q8]; exact (by have q9 := hft8; rw [h_8, lfb_of (d := cn 0) (by omega), show (nI (cn 0)).toInt.toNat = cn 0 from nI_tn (by omega)] at q9; exact q9))
          have hk9 : ∀ k : Nat, G10 129 k = if k < cn 11 ∧ k < 20 ∧ ¬ (v0 >>> (nI k &&& 31)) &&& 1 = 0 then 1 else Fn 129 k := fun k => by rw [hKb10 k, (show F8 129 = Fn 129 from (h8 129 (by decide)).trans (hfc8.2.2 129 (nml rfl)))]
          exact W.iret (v := (nI (cn 12))) hx hb hr (fun t ht hW => ⟨⟨(nI (cn 12)), ((adO (adO (adO ad 12 (cn 12) bo5) 1 (cn 12) w5) 2 2 z10), (va_up (va_up cn 12 ((cn 12) + 1)) 22 k10), (va_up In 12 y10), (va_up (va_up (va_up (va_up (va_up (va_up (va_up (va_up (va_up G10 29 (putM (G10 29) 400 (nI (cn 0)) (atM (G10 29) 400 (nI (cn 0)) + -(mxI (Fn 122) v0 20)))) 141 (upd ((va_up G10 29 (putM (G10 29) 400 (nI (cn 0)) (atM (G10 29) 400 (nI (cn 0)) + -(mxI (Fn 122) v0 20)))) 141) (cn 12) (mxI (fun i => Fn 122 i * Fn 123 i) v0 20))) 142 (upd ((va_up G10 29 (putM (G10 29) 400 (nI (cn 0)) (atM (G10 29) 400 (nI (cn 0)) + -(mxI (Fn 122) v0 20)))) 142) (cn 12) (mxI (fun i => Fn 122 i * Fn 124 i) v0 20))) 143 (upd ((va_up G10 29 (putM (G10 29) 400 (nI (cn 0)) (atM (G10 29) 400 (nI (cn 0)) + -(mxI (Fn 122) v0 20)))) 143) (cn 12) 0)) 144 (upd ((va_up G10 29 (putM (G10 29) 400 (nI (cn 0)) (atM (G10 29) 400 (nI (cn 0)) + -(mxI (Fn 122) v0 20)))) 144) (cn 12) v0)) 145 (upd ((va_up G10 29 (putM (G10 29) 400 (nI (cn 0)) (atM (G10 29) 400 (nI (cn 0)) + -(mxI (Fn 122) v0 20)))) 145) (cn 12) (mxI (fun _ => 1) v0 20))) 146 (upd ((va_up G10 29 (putM (G10 29) 400 (nI (cn 0)) (atM (G10 29) 400 (nI (cn 0)) + -(mxI (Fn 122) v0 20)))) 146) (cn 12) (mxI (Fn 122) v0 20))) 147 (upd ((va_up G10 29 (putM (G10 29) 400 (nI (cn 0)) (atM (G10 29) 400 (nI (cn 0)) + -(mxI (Fn 122) v0 20)))) 147) (cn 12) (nI (cn 0)))) 150 (flat ((va_up G10 29 (putM (G10 29) 400 (nI (cn 0)) (atM (G10 29) 400 (nI (cn 0)) + -(mxI (Fn 122) v0 20)))) 150) 12 (cn 12) (fun _ => 0)))), rfl, ⟨G10, ((hf10).2.2), Or.inr ⟨⟨⟨⟨by omega, by omega⟩, by omega, h5⟩, hft9⟩, rfl, by omega, hk9, bo5, w5, z10, k10, y10, hk10, rfl, rfl, rfl, rfl⟩⟩, by rw [ht]; exact hP, hD⟩, hS.F ht⟩) hS.2.2 (oc_172 71 (aq_23 shX11_batch_48))
        ·
          have tc_10 : (r8.toInt : Int) ≠ (-1) := fun q => c_10 (Int32.toInt_inj.mp q)
          refine lv_bipush (v := (-10)) hx hb (oc_16 52 (aq_4 shX11_batch_48) sgb_246) kbc_m10 ?_
          refine lv_iload_n hx hb (oc_29 54 (aq_6 shX11_batch_48)) rfl (lvA0 hl) ?_
          refine lv_isub hx hb (oc_100 55 (aq_7 shX11_batch_48)) ?_
          have hP := exP hP
          have hD := exD hD
          refine W.widen (k := 3) (n := 120) (Nat.le_of_ble_eq_true rfl) (Nat.le_of_ble_eq_true rfl) ?_
          exact W.iret (v := ((-10) - r8)) hx hb hr (fun t ht hW => ⟨⟨((-10) - r8), (ad, cn, In, F8), rfl, ⟨F8, (Fr.mo (show Fr [] [] [7, 129, 196, 197, 305] cn In Fn cn In F8 from hf8) (sbl rfl) (sbl rfl) (sbl rfl) : Fr [] [] [7, 129, 196, 197, 305] cn In Fn cn In F8).2.2, Or.inl ⟨rfl, rfl, rfl, rfl, (show F8 129 = Fn 129 from (h8 129 (by decide)).trans (hfc8.2.2 129 (nml rfl))), Or.inr ⟨⟨⟨by omega, by omega⟩, by omega, h5⟩, _, (by have q9 := hft8; rw [h_8, lfb_of (d := cn 0) (by omega), show (nI (cn 0)).toInt.toNat = cn 0 from nI_tn (by omega)] at q9; exact q9), (by first | assumption | exact fun q => absurd (congrArg Int32.toInt q) (by assumption)), rfl⟩⟩⟩, by rw [ht]; exact hP, hD⟩, hS.F ht⟩) hS.2.2 (oc_172 56 (aq_8 shX11_batch_48))
    ·
      have tc_5 : (10 : Int) ≤ (nI (cn 12)).toInt := Int32.le_iff_toInt_le.mp (Int32.not_lt.mp c_5)
      refine lv_iconst (v := (-1)) hx hb dX11_batch_23 kic_m1 ?_
      refine W.widen (k := 3) (n := 120) (Nat.le_of_ble_eq_true rfl) (Nat.le_of_ble_eq_true rfl) ?_
      exact W.iret (v := (-1)) hx hb hr (fun t ht hW => ⟨⟨(-1), (ad, cn, In, Fn), rfl, ⟨Fn, (Fr.mo (show Fr [] [] [] cn In Fn cn In Fn from Fr.rf) (sbl rfl) (sbl rfl) (sbl rfl) : Fr [] [] [7, 129, 196, 197, 305] cn In Fn cn In Fn).2.2, Or.inl ⟨rfl, rfl, rfl, rfl, rfl, Or.inl ⟨fun q9 => by omega, rfl⟩⟩⟩, by rw [ht]; exact hP, hD⟩, hS.F ht⟩) hS.2.2 dX11_batch_24
  ·
    have h_2 : ¬ (1 ≤ v0.toInt ∧ v0.toInt ≤ 1048575) := h_2
    refine lv_if_eq (tgt := 23) hx hb dX11_batch_8 rfl (fun _ => ?_) (fun h => absurd h cq_eq_0_0)
    refine lv_iconst (v := (-1)) hx hb dX11_batch_23 kic_m1 ?_
    refine W.widen (k := 3) (n := 120) (Nat.le_of_ble_eq_true rfl) (Nat.le_of_ble_eq_true rfl) ?_
    exact W.iret (v := (-1)) hx hb hr (fun t ht hW => ⟨⟨(-1), (ad, cn, In, Fn), rfl, ⟨Fn, (Fr.mo (show Fr [] [] [] cn In Fn cn In Fn from Fr.rf) (sbl rfl) (sbl rfl) (sbl rfl) : Fr [] [] [7, 129, 196, 197, 305] cn In Fn cn In Fn).2.2, Or.inl ⟨rfl, rfl, rfl, rfl, rfl, Or.inl ⟨fun q9 => by omega, rfl⟩⟩⟩, by rw [ht]; exact hP, hD⟩, hS.F ht⟩) hS.2.2 dX11_batch_24
