/-- Pascal's numbers -/
def bn : Nat → Nat → Nat
  | _, 0 => 1
  | 0, _ + 1 => 0
  | n + 1, k + 1 => bn n k + bn n (k + 1)
theorem bn_0 (n : Nat) : bn n 0 = 1 := by cases n <;> rfl
theorem bn_s (n k : Nat) : bn (n + 1) (k + 1) = bn n k + bn n (k + 1) := rfl
theorem bn_big : ∀ n k : Nat, n < k → bn n k = 0
  | 0, k + 1, _ => rfl
  | n + 1, k + 1, h => by rw [bn_s, bn_big n k (by omega), bn_big n (k + 1) (by omega)]
theorem bn_h {A B C E n k : Nat} (i1 : A * (k + 1) = C * (n + 1)) (i2 : B * (k + 1 + 1) = E * (n + 1)) (s : A = C + E) : (A + B) * (k + 1 + 1) = A * (n + 1 + 1) := by
  have t : A * (n + 1) = C * (n + 1) + E * (n + 1) := by rw [s, Nat.add_mul]
  have u : A * (k + 1 + 1) = A * (k + 1) + A := Nat.mul_succ _ _
  have v : A * (n + 1 + 1) = A * (n + 1) + A := Nat.mul_succ _ _
  rw [Nat.add_mul, i2, u, v, i1, t]
  omega
theorem bn_ab : ∀ n k : Nat, bn (n + 1) (k + 1) * (k + 1) = bn n k * (n + 1)
  | 0, 0 => rfl
  | 0, k + 1 => by rw [bn_big (0 + 1) (k + 1 + 1) (by omega), bn_big 0 (k + 1) (by omega), Nat.zero_mul, Nat.zero_mul]
  | n + 1, 0 => by
    have ih := bn_ab n 0
    have s : bn (n + 1 + 1) (0 + 1) = bn (n + 1) 0 + bn (n + 1) (0 + 1) := bn_s (n + 1) 0
    rw [bn_0] at ih s
    rw [s, bn_0]
    omega
  | n + 1, k + 1 => bn_h (bn_ab n k) (bn_ab n (k + 1)) (bn_s n k)
theorem bn_st {n i : Nat} (h : i ≤ n) : bn n i * (n - i) = bn n (i + 1) * (i + 1) := by
  have a := bn_ab n i
  rw [bn_s, Nat.add_mul] at a
  have e : bn n i * (n + 1) = bn n i * (n - i) + bn n i * (i + 1) := by rw [← Nat.mul_add, show n - i + (i + 1) = n + 1 by omega]
  omega
def fc : Nat → Nat
  | 0 => 1
  | n + 1 => (n + 1) * fc n
theorem fc_pos : ∀ n : Nat, 0 < fc n
  | 0 => Nat.one_pos
  | n + 1 => Nat.mul_pos (Nat.succ_pos n) (fc_pos n)
theorem bn_fc : ∀ a b : Nat, bn (a + b) a * (fc a * fc b) = fc (a + b)
  | 0, b => by
    rw [Nat.zero_add, bn_0]
    show 1 * (1 * fc b) = fc b
    omega
  | a + 1, b => by
    have i := bn_fc a b
    have s := bn_ab (a + b) a
    rw [show a + 1 + b = a + b + 1 by omega]
    show bn (a + b + 1) (a + 1) * ((a + 1) * fc a * fc b) = (a + b + 1) * fc (a + b)
    have e1 : bn (a + b + 1) (a + 1) * ((a + 1) * fc a * fc b) = (bn (a + b + 1) (a + 1) * (a + 1)) * (fc a * fc b) := by ac_rfl
    have e2 : (a + b + 1) * (bn (a + b) a * (fc a * fc b)) = (bn (a + b) a * (a + b + 1)) * (fc a * fc b) := by ac_rfl
    rw [e1, ← i, e2, s]
theorem bn_sym {n k : Nat} (h : k ≤ n) : bn n k = bn n (n - k) := by
  obtain ⟨b, rfl⟩ : ∃ b, n = k + b := ⟨n - k, by omega⟩
  have i := bn_fc k b
  have j := bn_fc b k
  rw [Nat.add_comm b k, Nat.mul_comm (fc b)] at j
  rw [show k + b - k = b by omega]
  exact Nat.eq_of_mul_eq_mul_right (Nat.mul_pos (fc_pos k) (fc_pos b)) (i.trans j.symm)
theorem bn_min {n k : Nat} (h : k ≤ n) : bn n (min k (n - k)) = bn n k := by
  rcases Nat.le_total k (n - k) with q | q
  · rw [Nat.min_eq_left q]
  · rw [Nat.min_eq_right q, ← bn_sym h]
theorem bn_pos : ∀ n k : Nat, k ≤ n → 0 < bn n k
  | n, 0, _ => by rw [bn_0]; exact Nat.one_pos
  | n + 1, k + 1, h => by rw [bn_s]; have := bn_pos n k (by omega); omega
theorem bn_up : ∀ n k : Nat, bn n k ≤ bn (n + 1) k
  | n, 0 => by rw [bn_0, bn_0]; exact Nat.le_refl 1
  | n, k + 1 => by rw [bn_s n k]; omega
theorem bn_mo {n j : Nat} : ∀ m : Nat, bn n j ≤ bn (m + n) j
  | 0 => by rw [Nat.zero_add]; exact Nat.le_refl _
  | m + 1 => by rw [show m + 1 + n = m + n + 1 by omega]; exact Nat.le_trans (bn_mo m) (bn_up _ _)
theorem bn_mul : ∀ m i n j : Nat, bn m i * bn n j ≤ bn (m + n) (i + j)
  | m, 0, n, j => by rw [bn_0, Nat.one_mul, Nat.zero_add]; exact bn_mo m
  | 0, i + 1, n, j => by rw [bn_big 0 (i + 1) (by omega), Nat.zero_mul]; exact Nat.zero_le _
  | m + 1, i + 1, n, j => by
    have a := bn_mul m i n j
    have b := bn_mul m (i + 1) n j
    rw [show i + 1 + j = i + j + 1 by omega] at b
    rw [bn_s, Nat.add_mul, show m + 1 + n = m + n + 1 by omega, show i + 1 + j = i + j + 1 by omega, bn_s]
    omega
theorem chD_bn (d : Nat) : ∀ q : Nat, chD d q = bn (d + q) q
  | 0 => (bn_0 _).symm
  | q + 1 => by
    show chD d q * (d + (q + 1)) / (q + 1) = bn (d + q + 1) (q + 1)
    rw [chD_bn d q, show d + (q + 1) = d + q + 1 by omega, ← bn_ab, Nat.mul_div_cancel _ (by omega)]
theorem bn_K {n : Nat} (hn : n ≤ 60) (k : Nat) : bn n k ≤ 118264581564861424 := by
  by_cases q : k ≤ n
  · have e := chD_bn (n - k) k
    rw [show n - k + k = n by omega] at e
    rw [← e]
    have : ∀ d : Fin 61, ∀ q : Fin 61, d.val + q.val ≤ 60 → chD d.val q.val ≤ 118264581564861424 := by decide +kernel
    exact this ⟨n - k, by omega⟩ ⟨k, by omega⟩ (by show n - k + k ≤ 60; omega)
  · rw [bn_big n k (by omega)]; omega
theorem bn_b {n k j : Nat} (hn : n ≤ 60) (hj : j ≤ 61) : bn n k * j < 2 ^ 63 := by
  have := Nat.mul_le_mul (bn_K hn k) hj
  omega
theorem bn_lt {n k : Nat} (hn : n ≤ 60) : bn n k < 2 ^ 63 := by
  have := bn_K hn k
  omega
/-- the four factors' number, the same for both -/
theorem bn_tri (i a b d : Nat) : bn (i + a) i * bn (b + d) b * bn (i + a + (b + d)) (i + a) * (fc i * fc a * (fc b * fc d)) = fc (i + a + (b + d)) := by
  have e1 := bn_fc i a
  have e2 := bn_fc b d
  have e3 := bn_fc (i + a) (b + d)
  rw [← e1, ← e2] at e3
  have e : bn (i + a) i * bn (b + d) b * bn (i + a + (b + d)) (i + a) * (fc i * fc a * (fc b * fc d)) = bn (i + a + (b + d)) (i + a) * (bn (i + a) i * (fc i * fc a) * (bn (b + d) b * (fc b * fc d))) := by ac_rfl
  exact e.trans e3
/-- the sum of n of f from b on -/
def hsum (f : Nat → Nat) (b : Nat) : Nat → Nat
  | 0 => 0
  | n + 1 => hsum f b n + f (b + n)
theorem hs_1 {x : Int64} {f : Nat → Nat} {b i t : Nat} (hb : b ≤ i) (h : x = lN (hsum f b (i - b))) (ht : f i = t) : x + lN t = lN (hsum f b (i + 1 - b)) := by
  obtain ⟨n, rfl⟩ : ∃ n, i = b + n := ⟨i - b, by omega⟩
  rw [show b + n - b = n by omega] at h
  rw [show b + n + 1 - b = n + 1 by omega, h, lN_add, ← ht]
  rfl
theorem hs_K {f : Nat → Nat} {b K : Nat} : ∀ n : Nat, (∀ j : Nat, j < n → f (b + j) ≤ K) → hsum f b n ≤ n * K
  | 0, _ => Nat.zero_le _
  | n + 1, h => by
    have a := hs_K n (fun j hj => h j (by omega))
    have c := h n (by omega)
    rw [Nat.succ_mul]
    show hsum f b n + f (b + n) ≤ n * K + K
    omega
theorem hs_lt {f : Nat → Nat} {b n : Nat} (hn : n ≤ 61) (h : ∀ j : Nat, j < n → f (b + j) ≤ 118264581564861424) : hsum f b n < 2 ^ 63 := by
  have a := hs_K n h
  have c := Nat.mul_le_mul_right 118264581564861424 hn
  omega
theorem hs_z {f : Nat → Nat} {b n : Nat} : ∀ m : Nat, (∀ j : Nat, n ≤ j → j < n + m → f (b + j) = 0) → hsum f b (n + m) = hsum f b n
  | 0, _ => rfl
  | m + 1, h => by
    show hsum f b (n + m) + f (b + (n + m)) = hsum f b n
    rw [hs_z m (fun j h1 h2 => h j h1 (by omega)), h (n + m) (by omega) (by omega)]
    omega
theorem hs_mul {f h : Nat → Nat} {b x y : Nat} : ∀ n : Nat, (∀ j : Nat, j < n → f (b + j) * x = h (b + j) * y) → hsum f b n * x = hsum h b n * y
  | 0, _ => by show 0 * x = 0 * y; rw [Nat.zero_mul, Nat.zero_mul]
  | n + 1, e => by
    show (hsum f b n + f (b + n)) * x = (hsum h b n + h (b + n)) * y
    rw [Nat.add_mul, Nat.add_mul, hs_mul n (fun j hj => e j (by omega)), e n (by omega)]
/-- n over v; 0 where v is below 0 -/
def bz (n : Nat) (v : Int32) : Nat := if 0 ≤ v.toInt then bn n v.toInt.toNat else 0
theorem bz_n {n d : Nat} (h : d < 2 ^ 31) : bz n (nI d) = bn n d := by
  unfold bz
  have t : (nI d).toInt = (d : Int) := nI_toInt h
  rw [t, if_pos (by omega)]
  rfl
theorem bz_0 {n : Nat} {v : Int32} (h : v.toInt < 0 ∨ (n : Int) < v.toInt) : bz n v = 0 := by
  unfold bz
  split
  · exact bn_big _ _ (by omega)
  · rfl
theorem bz_K {n : Nat} (hn : n ≤ 60) (v : Int32) : bz n v ≤ 118264581564861424 := by
  unfold bz
  split
  · exact bn_K hn _
  · omega
theorem bz_lt {n : Nat} {v : Int32} (hn : n ≤ 60) : bz n v < 2 ^ 63 := by
  have := bz_K hn v
  omega
def tC (m g N i : Nat) : Nat := bn m i * bn (N - m) (g - i)
def tR (m g N q : Nat) : Nat := bz g (nI q) * bz (N - g) (nI m - nI q)
theorem sub_z {m q n : Nat} (hm : m ≤ 60) (hq : q ≤ 60) : bz n (nI m - nI q) = if q ≤ m then bn n (m - q) else 0 := by
  have t1 : (nI m).toInt = (m : Int) := nI_toInt (by omega)
  have t2 : (nI q).toInt = (q : Int) := nI_toInt (by omega)
  have e : (nI m - nI q).toInt = (m : Int) - q := by
    rw [Int32.toInt_sub, t1, t2]
    exact Int.bmod_eq_of_le (by show -(2 ^ 31 : Int) ≤ (m : Int) - q; omega) (by show (m : Int) - q < (2 ^ 31 : Int); omega)
  unfold bz
  rw [e]
  by_cases h : q ≤ m
  · rw [if_pos h, if_pos (by omega), show ((m : Int) - q).toNat = m - q by omega]
  · rw [if_neg h, if_neg (by omega)]
theorem tR_eq {m g N q : Nat} (hm : m ≤ 60) (hq : q ≤ 60) : tR m g N q = bn g q * (if q ≤ m then bn (N - g) (m - q) else 0) := by
  unfold tR
  rw [bz_n (by omega), sub_z hm hq]
theorem tC_K {m g N : Nat} (hN : N ≤ 60) (hm : m ≤ N) (i : Nat) : tC m g N i ≤ 118264581564861424 := by
  have a := bn_mul m i (N - m) (g - i)
  rw [show m + (N - m) = N by omega] at a
  exact Nat.le_trans a (bn_K hN _)
theorem tR_K {m g N : Nat} (hN : N ≤ 60) (hm : m ≤ N) (hg : g ≤ N) {q : Nat} (hq : q ≤ 60) : tR m g N q ≤ 118264581564861424 := by
  rw [tR_eq (by omega) hq]
  split
  · have a := bn_mul g q (N - g) (m - q)
    rw [show g + (N - g) = N by omega] at a
    exact Nat.le_trans a (bn_K hN _)
  · omega
theorem t_eq {m g N i : Nat} (hN : N ≤ 60) (hm : m ≤ N) (hg : g ≤ N) (h1 : i ≤ m) (h2 : i ≤ g) : tC m g N i * bn N m = tR m g N i * bn N g := by
  rw [tR_eq (by omega) (by omega), if_pos h1]
  unfold tC
  by_cases q : g - i ≤ N - m
  · obtain ⟨a, rfl⟩ : ∃ a, m = i + a := ⟨m - i, by omega⟩
    obtain ⟨b, rfl⟩ : ∃ b, g = i + b := ⟨g - i, by omega⟩
    obtain ⟨d, rfl⟩ : ∃ d, N = i + a + (b + d) := ⟨N - (i + a) - b, by omega⟩
    have e1 := bn_tri i a b d
    have e2 := bn_tri i b a d
    rw [show i + a + (b + d) - (i + a) = b + d by omega, show i + b - i = b by omega, show i + a + (b + d) - (i + b) = a + d by omega, show i + a - i = a by omega]
    rw [show i + b + (a + d) = i + a + (b + d) by omega] at e2
    have e3 : fc i * fc b * (fc a * fc d) = fc i * fc a * (fc b * fc d) := by ac_rfl
    rw [e3] at e2
    exact Nat.eq_of_mul_eq_mul_right (Nat.mul_pos (Nat.mul_pos (fc_pos i) (fc_pos a)) (Nat.mul_pos (fc_pos b) (fc_pos d))) (e1.trans e2.symm)
  · rw [bn_big (N - m) (g - i) (by omega), bn_big (N - g) (m - i) (by omega)]
    simp
theorem od_frac {S A T B : Nat} (hA : 0 < A) (hB : 0 < B) (e : S * B = T * A) : S / Nat.gcd S A = T / Nat.gcd T B ∧ A / Nat.gcd S A = B / Nat.gcd T B := by
  have g : Nat.gcd S A * B = Nat.gcd T B * A := by
    rw [← Nat.gcd_mul_right, ← Nat.gcd_mul_right, e, Nat.mul_comm A B]
  constructor
  · rw [← Nat.mul_div_mul_right S (Nat.gcd S A) hB, ← Nat.mul_div_mul_right T (Nat.gcd T B) hA, e, g]
  · rw [← Nat.mul_div_mul_right A (Nat.gcd S A) hB, ← Nat.mul_div_mul_right B (Nat.gcd T B) hA, Nat.mul_comm A B, g]
def ODD (S A b : Nat) (w : Int32) (r : Int64) : Prop := (w = 2 ∧ r = lN b) ∨ (¬ w = 2 ∧ w = 0 ∧ r = lN (S / Nat.gcd S A)) ∨ (¬ w = 2 ∧ ¬ w = 0 ∧ r = lN (A / Nat.gcd S A))
/-- the class's odds -/
def ODX (m g b N : Nat) (w : Int32) (r : Int64) : Prop := ODD (hsum (tC m g N) b (min g m + 1 - b)) (bn N g) b w r
/-- the reference's -/
def ODM (m g b N : Nat) (w : Int32) (r : Int64) : Prop := ODD (hsum (tR m g N) b (g + 1 - b)) (bz N (nI m)) b w r
theorem ODD.un {S A T B b : Nat} {w : Int32} {r r2 : Int64} (e1 : S / Nat.gcd S A = T / Nat.gcd T B) (e2 : A / Nat.gcd S A = B / Nat.gcd T B) (h : ODD S A b w r) (h2 : ODD T B b w r2) : r = r2 := by
  rcases h with ⟨a, h⟩ | ⟨a, a2, h⟩ | ⟨a, a2, h⟩ <;> rcases h2 with ⟨c, h2⟩ | ⟨c, c2, h2⟩ | ⟨c, c2, h2⟩
  · rw [h, h2]
  · exact absurd a c
  · exact absurd a c
  · exact absurd c a
  · rw [h, h2, e1]
  · exact absurd a2 c2
  · exact absurd c a
  · exact absurd c2 a2
  · rw [h, h2, e2]
theorem ODX_eq {m g b N : Nat} {w : Int32} {r r2 : Int64} (hN : N ≤ 60) (hm : m ≤ N) (hg : g ≤ N) (hb : b ≤ m) (hb2 : b ≤ g) (h : ODX m g b N w r) (h2 : ODM m g b N w r2) : r = r2 := by
  have eB : bz N (nI m) = bn N m := bz_n (by omega)
  have z : hsum (tR m g N) b (g + 1 - b) = hsum (tR m g N) b (min g m + 1 - b) := by
    have := hs_z (f := tR m g N) (b := b) (n := min g m + 1 - b) (g - min g m) (fun j h1 h2 => by
      rw [tR_eq (by omega) (by omega), if_neg (by omega), Nat.mul_zero])
    rw [show min g m + 1 - b + (g - min g m) = g + 1 - b by omega] at this
    exact this
  unfold ODX at h
  unfold ODM at h2
  rw [eB, z] at h2
  obtain ⟨e1, e2⟩ := od_frac (bn_pos N g hg) (bn_pos N m hm) (hs_mul (f := tC m g N) (h := tR m g N) (b := b) (min g m + 1 - b) (fun j hj => t_eq hN hm hg (by omega) (by omega)))
  exact ODD.un e1 e2 h h2
theorem gcd_lt {S A : Nat} (h0 : 0 < A) (h : A < 2 ^ 63) : Nat.gcd S A < 2 ^ 63 := Nat.lt_of_le_of_lt (Nat.gcd_le_right S h0) h
theorem gcd_nz {S A : Nat} (h0 : 0 < A) (h : A < 2 ^ 63) : ¬ lN (Nat.gcd S A) = 0 := lN_ne (Nat.gcd_pos_of_pos_right S h0) (gcd_lt h0 h)
theorem dvS {X S A : Nat} (hX : X < 2 ^ 63) (h0 : 0 < A) (h : A < 2 ^ 63) : lN X / lN (Nat.gcd S A) = lN (X / Nat.gcd S A) := lN_div hX (gcd_lt h0 h)
/-- the divisor's loop -/
def GC (S B : Nat) (x y : Int64) : Prop := ∃ a b : Nat, x = lN a ∧ y = lN b ∧ a < 2 ^ 63 ∧ b < 2 ^ 63 ∧ Nat.gcd a b = Nat.gcd S B
theorem lN_z {b : Nat} (hb : b < 2 ^ 63) (h : lN b = 0) : b = 0 := Classical.byContradiction fun q => lN_ne (by omega) hb h
theorem GC.st {S B : Nat} {x y : Int64} (h : GC S B x y) (hy : ¬ y = 0) : GC S B y (x - x / y * y) := by
  obtain ⟨a, b, rfl, rfl, ha, hb, e⟩ := h
  have b0 : 0 < b := Nat.pos_of_ne_zero (fun q => hy (by rw [q]; rfl))
  have l := Nat.mod_lt a b0
  refine ⟨b, a % b, rfl, pk_lRem ha b0 hb, hb, by omega, ?_⟩
  rw [Nat.gcd_comm, ← Nat.gcd_rec, Nat.gcd_comm, e]
theorem GC.fin {S B : Nat} {x y : Int64} (h : GC S B x y) (hy : y = 0) : x = lN (Nat.gcd S B) := by
  obtain ⟨a, b, rfl, rfl, ha, hb, e⟩ := h
  have b0 := lN_z hb hy
  rw [b0, Nat.gcd_zero_right] at e
  rw [e]
/-- the class's: it ends within 200 steps -/
def DVG (S B i : Nat) (x y : Int64) : Prop := ∃ a b : Nat, x = lN a ∧ y = lN b ∧ a < 2 ^ 63 ∧ b < 2 ^ 63 ∧ Nat.gcd a b = Nat.gcd S B ∧ (i = 0 ∨ (b < a ∧ a * b * 2 ^ (i - 1) ≤ 2 ^ 126))
theorem mod_half {a b : Nat} (h : b < a) (h0 : 0 < b) : 2 * (a % b) ≤ a := by
  have e := Nat.div_add_mod a b
  have l := Nat.mod_lt a h0
  have d : 1 ≤ a / b := Nat.div_pos (by omega) h0
  have m := Nat.mul_le_mul_left b d
  omega
theorem DVG.st {S B i : Nat} {x y : Int64} (h : DVG S B i x y) (hy : ¬ y = 0) : DVG S B (i + 1) y (x - x / y * y) := by
  obtain ⟨a, b, rfl, rfl, ha, hb, e, p⟩ := h
  have b0 : 0 < b := Nat.pos_of_ne_zero (fun q => hy (by rw [q]; rfl))
  have l := Nat.mod_lt a b0
  refine ⟨b, a % b, rfl, pk_lRem ha b0 hb, hb, by omega, ?_, Or.inr ⟨l, ?_⟩⟩
  · rw [Nat.gcd_comm, ← Nat.gcd_rec, Nat.gcd_comm, e]
  · rw [show i + 1 - 1 = i by omega]
    rcases p with rfl | ⟨p1, p2⟩
    · have := Nat.mul_le_mul (show b ≤ 2 ^ 63 by omega) (show a % b ≤ 2 ^ 63 by omega)
      omega
    · by_cases i0 : i = 0
      · subst i0
        have := Nat.mul_le_mul (show b ≤ 2 ^ 63 by omega) (show a % b ≤ 2 ^ 63 by omega)
        omega
      · obtain ⟨j, rfl⟩ : ∃ j, i = j + 1 := ⟨i - 1, by omega⟩
        rw [show j + 1 - 1 = j by omega] at p2
        have hh := mod_half p1 b0
        have k := Nat.mul_le_mul_right (2 ^ j) (Nat.mul_le_mul_left b hh)
        have e1 : b * (a % b) * 2 ^ (j + 1) = b * (2 * (a % b)) * 2 ^ j := by rw [Nat.pow_succ]; ac_rfl
        rw [e1]
        rw [Nat.mul_comm b a] at k
        exact Nat.le_trans k p2
theorem DVG.fin {S B i : Nat} {x y : Int64} (h : DVG S B i x y) (q : i = 200 ∨ y = 0) : x = lN (Nat.gcd S B) := by
  obtain ⟨a, b, rfl, rfl, ha, hb, e, p⟩ := h
  have b0 : b = 0 := by
    rcases q with rfl | q
    · rcases p with p | ⟨p1, p2⟩
      · omega
      · refine Classical.byContradiction fun w => ?_
        have m := Nat.mul_le_mul (show 1 ≤ a by omega) (show 1 ≤ b by omega)
        have m2 := Nat.mul_le_mul_right (2 ^ (200 - 1)) m
        have c : ¬ (1 * 1 * 2 ^ (200 - 1) ≤ 2 ^ 126) := by decide
        exact c (Nat.le_trans m2 p2)
    · exact lN_z hb q
  rw [b0, Nat.gcd_zero_right] at e
  rw [e]
/-- how many of the first n -/
def sN (f : Nat → Nat) : Nat → Nat
  | 0 => 0
  | n + 1 => sN f n + f n
theorem sN_y {f : Nat → Nat} {n i : Nat} (h : n = sN f i) (hf : f i = 1) : n + 1 = sN f (i + 1) := by
  show n + 1 = sN f i + f i
  rw [← h, hf]
theorem sN_n {f : Nat → Nat} {n i : Nat} (h : n = sN f i) (hf : f i = 0) : n = sN f (i + 1) := by
  show n = sN f i + f i
  rw [← h, hf, Nat.add_zero]
theorem sN_b {f : Nat → Nat} (h : ∀ i : Nat, f i ≤ 1) : ∀ n : Nat, sN f n ≤ n
  | 0 => Nat.le_refl 0
  | n + 1 => by
    have a := sN_b h n
    have b := h n
    show sN f n + f n ≤ n + 1
    omega
theorem sN_le {f g : Nat → Nat} (h : ∀ i : Nat, f i ≤ g i) : ∀ n : Nat, sN f n ≤ sN g n
  | 0 => Nat.le_refl 0
  | n + 1 => by
    have a := sN_le h n
    have b := h n
    show sN f n + f n ≤ sN g n + g n
    omega
theorem sN_eq {f g : Nat → Nat} : ∀ n : Nat, (∀ i : Nat, i < n → f i = g i) → sN f n = sN g n
  | 0, _ => rfl
  | n + 1, h => by
    show sN f n + f n = sN g n + g n
    rw [sN_eq n (fun i hi => h i (by omega)), h n (by omega)]
theorem if1 {p : Prop} [Decidable p] : (if p then (1 : Nat) else 0) ≤ 1 := by split <;> omega
theorem ifle {p q : Prop} [Decidable p] [Decidable q] (h : p → q) : (if p then (1 : Nat) else 0) ≤ (if q then 1 else 0) := by
  by_cases hp : p
  · rw [if_pos hp, if_pos (h hp)]; exact Nat.le_refl 1
  · rw [if_neg hp]; exact Nat.zero_le _
theorem ifcg {p q : Prop} [Decidable p] [Decidable q] (h : p ↔ q) : (if p then (1 : Nat) else 0) = (if q then 1 else 0) := by
  by_cases hp : p
  · rw [if_pos hp, if_pos (h.mp hp)]
  · rw [if_neg hp, if_neg (fun w => hp (h.mpr w))]



set_option maxRecDepth 100000 in
set_option maxHeartbeats 4000000 in
theorem q_Echoose (l : Launch) (D : va_G) (cI cB cZ : ClassId) (n0 k0 : Nat) (hn : n0 ≤ 60) (hk : k0 ≤ 60) : Met l yX11_choose (CWS yX11_choose cX11_choose 6 (some .long)) (RM 1 0 0) (PBr [.int (nI n0), .int (nI k0)] D cI cB cZ []) (vp_Sl (fun r => r = lN (bn n0 k0))) 0 0 (fun _ => False) := by
  refine en_r rfl pn_RX11 (Nat.le_of_ble_eq_true rfl) (fun p e s m below meth c hx hb hml hown S hr hlocks hnm hP hK hS ls hl => ?_)
  have hl : lv_has ls 6 [(0, .int (nI n0)), (1, .int (nI k0))] := hl
  refine lv_iload_n hx hb (oc_27 0 shX11_choose_0) rfl (lvA1 hl) ?_
  have : (nI k0).toInt = ((k0 : Nat) : Int) := nI_toInt (by omega)
  refine lv_if_lt (tgt := 9) hx hb (oc_155 1 (aq_1 shX11_choose_0) sgw_0_8) rfl (fun c_1 => False.elim (by have tc_1 : ((nI k0).toInt : Int) < 0 := Int32.lt_iff_toInt_lt.mp c_1; omega)) (fun c_1 => ?_)
  have tc_1 : (0 : Int) ≤ (nI k0).toInt := Int32.le_iff_toInt_le.mp (Int32.not_lt.mp c_1)
  refine lv_iload_n hx hb (oc_27 4 (aq_4 shX11_choose_0)) rfl (lvA1 hl) ?_
  refine lv_iload_n hx hb (oc_26 5 (aq_5 shX11_choose_0)) rfl (lvA0 hl) ?_
  have : (nI n0).toInt = ((n0 : Nat) : Int) := nI_toInt (by omega)
  refine lv_icmp_le (tgt := 11) hx hb (oc_164 6 (aq_6 shX11_choose_0) sgw_0_5) rfl (fun c_2 => ?_) (fun c_2 => ?_)
  ·
    have tc_2 : ((nI k0).toInt : Int) ≤ (nI n0).toInt := Int32.le_iff_toInt_le.mp c_2
    refine lv_lconst (v := 1) hx hb (oc_10 11 (aq_11 shX11_choose_0)) (by decide) ?_
    refine lv_lstore_n (lv' := [(2, .long 1), (0, .int (nI n0)), (1, .int (nI k0))]) hx hb (oc_65 12 (aq_12 shX11_choose_0)) rfl hl (ltb rfl) rfl (fun ls hl => ?_)
    refine lv_iload_n hx hb (oc_27 13 (aq_13 shX11_choose_0)) rfl (lvA2 hl) ?_
    refine lv_iload_n hx hb (oc_26 14 (aq_14 shX11_choose_0)) rfl (lvA1 hl) ?_
    refine lv_iload_n hx hb (oc_27 15 (aq_15 shX11_choose_0)) rfl (lvA2 hl) ?_
    refine lv_isub hx hb (oc_100 16 (aq_16 shX11_choose_0)) ?_
    refine lv_topi (fun y_3 ey_3 => ?_)
    obtain rfl : y_3 = (nI (n0 - k0)) := ey_3.trans (nI_sub (by omega))
    refine va_mmin hx hb (by rw [hml]; exact hl.1.symm) hown (S.2.2.2.2 _ (wk4_3 7 rfl rfl)) (S.2.2.2.2 _ (wk2_13 10 rfl rfl)) (S.2.2.2.2 _ (wk1_0 3 rfl rfl)) (S.2.2.2.2 _ (wk2_13 11 rfl rfl)) (Nat.le_of_ble_eq_true rfl) (Nat.le_of_ble_eq_true rfl) (Nat.le_of_ble_eq_true rfl) (Nat.le_of_ble_eq_true rfl) (oc_184 17 (aq_17 shX11_choose_0) uw_0_227) ?_
    refine lv_topi (fun y_4 ey_4 => ?_)
    obtain rfl : y_4 = (nI (min k0 (n0 - k0))) := ey_4.trans (minNI (by omega) (by omega))
    refine lv_istore (lv' := [(4, .int (nI (min k0 (n0 - k0)))), (2, .long 1), (0, .int (nI n0)), (1, .int (nI k0))]) hx hb (oc_54 20 (aq_20 shX11_choose_0) ub_4) hl (ltb rfl) rfl (fun ls hl => ?_)
    refine lv_iconst (v := 0) hx hb (oc_3 22 (aq_22 shX11_choose_0)) kic_0 ?_
    refine lv_istore (lv' := [(5, .int 0), (4, .int (nI (min k0 (n0 - k0)))), (2, .long 1), (0, .int (nI n0)), (1, .int (nI k0))]) hx hb (oc_54 23 (aq_23 shX11_choose_0) ub_5) hl (ltb rfl) rfl (fun ls hl => ?_)
    have lp_25 : ∀ (n : Nat) (i25 : Nat) (x25_2 : Int64) , min k0 (n0 - k0) - i25 < n → (i25 ≤ min k0 (n0 - k0) ∧ (x25_2 = lN (bn n0 i25))) → ∀ ls : Array Slot, lv_has ls 6 [(5, .int (nI i25)), (4, .int (nI (min k0 (n0 - k0)))), (2, .long x25_2), (0, .int (nI n0)), (1, .int (nI k0))] → W p l e (RM 1 0 0) s m ([.int (nI n0), .int (nI k0)]).toArray below meth c s.heap [] 0 0 (MQ below (vp_Sl (fun r => r = lN (bn n0 k0))) ([.int (nI n0), .int (nI k0)]).toArray s 0 0 (fun _ => False)) (F0 m 25 ls []) := by
      intro n25
      induction n25 with
      | zero => intros; omega
      | succ n25 ih25 =>
        intro i25 x25_2 hmu25 hinv25 ls hl
        obtain ⟨hr25, hx25_0⟩ := hinv25
        have ti25 : (nI i25).toInt = (i25 : Int) := nI_toInt (by omega)
        subst hx25_0
        refine lv_iload hx hb (oc_21 25 shX11_choose_25 ub_5) (lvA0 hl) ?_
        refine lv_iload hx hb (oc_21 27 (aq_2 shX11_choose_25) ub_4) (lvA1 hl) ?_
        have : (nI (min k0 (n0 - k0))).toInt = (((min k0 (n0 - k0)) : Nat) : Int) := nI_toInt (by omega)
        refine lv_icmp_ge (tgt := 52) hx hb (oc_162 29 (aq_4 shX11_choose_25) sgw_0_23) rfl (fun c_5 => ?_) (fun c_5 => ?_)
        ·
          have tc_5 : ((nI (min k0 (n0 - k0))).toInt : Int) ≤ (nI i25).toInt := Int32.le_iff_toInt_le.mp c_5
          refine lv_lload_n hx hb (oc_32 52 (aq_3 shX11_choose_49)) rfl (lvA2 hl) ?_
          exact W.lret (v := (lN (bn n0 i25))) hx hb hr (fun t ht hW => ⟨(lN (bn n0 i25)), rfl, (by rw [show i25 = min k0 (n0 - k0) by omega]; exact congrArg lN (bn_min (by omega))), ht⟩) (fun _ h => absurd h List.not_mem_nil) (oc_173 53 (aq_4 shX11_choose_49))
        ·
          have tc_5 : ((nI i25).toInt : Int) < (nI (min k0 (n0 - k0))).toInt := Int32.lt_iff_toInt_lt.mp (Int32.not_le.mp c_5)
          refine lv_lload_n hx hb (oc_32 32 (aq_7 shX11_choose_25)) rfl (lvA2 hl) ?_
          refine lv_iload_n hx hb (oc_26 33 (aq_8 shX11_choose_25)) rfl (lvA3 hl) ?_
          refine lv_iload hx hb (oc_21 34 (aq_9 shX11_choose_25) ub_5) (lvA0 hl) ?_
          refine lv_isub hx hb (oc_100 36 (aq_11 shX11_choose_25)) ?_
          refine lv_topi (fun y_6 ey_6 => ?_)
          obtain rfl : y_6 = (nI (n0 - i25)) := ey_6.trans (nI_sub (by omega))
          refine lv_i2l (v := (lN (n0 - i25))) hx hb (oc_133 37 (aq_12 shX11_choose_25)) (nI_l (by omega)) ?_
          refine lv_lmul hx hb (oc_105 38 (aq_13 shX11_choose_25)) ?_
          refine lv_topl (fun y_7 ey_7 => ?_)
          obtain rfl : y_7 = (lN ((bn n0 i25) * (n0 - i25))) := ey_7.trans (lN_mul _ _)
          refine lv_iload hx hb (oc_21 39 (aq_14 shX11_choose_25) ub_5) (lvA0 hl) ?_
          refine lv_iconst (v := 1) hx hb (oc_4 41 (aq_16 shX11_choose_25)) kic_1 ?_
          refine lv_iadd hx hb (oc_96 42 (aq_17 shX11_choose_25)) ?_
          refine lv_topi (fun y_8 ey_8 => ?_)
          obtain rfl : y_8 = (nI (i25 + 1)) := ey_8.trans (nI_add i25 1)
          refine lv_i2l (v := (lN (i25 + 1))) hx hb (oc_133 43 (aq_18 shX11_choose_25)) (nI_l (by omega)) ?_
          refine lv_ldiv hx hb (oc_109 44 (aq_19 shX11_choose_25)) (lN_ne (by omega) (by omega)) ?_
          refine lv_topl (fun y_9 ey_9 => ?_)
          obtain rfl : y_9 = (lN (bn n0 (i25 + 1))) := ey_9.trans (by rw [bn_st (by omega)]; exact (lN_div (bn_b hn (by omega)) (by omega)).trans (by rw [Nat.mul_div_cancel _ (by omega)]))
          refine lv_lstore_n (lv' := [(2, .long (lN (bn n0 (i25 + 1)))), (5, .int (nI i25)), (4, .int (nI (min k0 (n0 - k0)))), (0, .int (nI n0)), (1, .int (nI k0))]) hx hb (oc_65 45 (aq_20 shX11_choose_25)) rfl hl (ltb rfl) rfl (fun ls hl => ?_)
          refine lv_iinc (v := (nI (i25 + 1))) (lv' := [(5, .int (nI (i25 + 1))), (2, .long (lN (bn n0 (i25 + 1)))), (4, .int (nI (min k0 (n0 - k0)))), (0, .int (nI n0)), (1, .int (nI k0))]) hx hb (oc_132 46 (aq_21 shX11_choose_25) ub_5 sgb_1) hl (k := 1) rfl (nI_1 _) (ltb rfl) rfl (fun ls hl => ?_)
          refine lv_goto (tgt := 25) hx hb (oc_167 49 shX11_choose_49 sgw_255_232) rfl ?_
          exact ih25 (i25 + 1) (lN (bn n0 (i25 + 1))) (by omega) ⟨(by omega), rfl⟩ ls (lv_sub hl [0, 2, 1, 3, 4] rfl)
    exact lp_25 _ 0 1 (Nat.lt_succ_self _) ⟨(by omega), (by rw [bn_0] <;> rfl)⟩ ls (lv_sub hl [0, 1, 2, 3, 4] rfl)
  ·
    have tc_2 : ((nI n0).toInt : Int) < (nI k0).toInt := Int32.lt_iff_toInt_lt.mp (Int32.not_le.mp c_2)
    refine lv_lconst (v := 0) hx hb (oc_9 9 (aq_9 shX11_choose_0)) (by decide) ?_
    exact W.lret (v := 0) hx hb hr (fun t ht hW => ⟨0, rfl, (by rw [bn_big n0 k0 (by omega)] <;> rfl), ht⟩) (fun _ h => absurd h List.not_mem_nil) (oc_173 10 (aq_10 shX11_choose_0))
set_option maxRecDepth 100000 in
set_option maxHeartbeats 4000000 in
theorem q_choose9 (l : Launch) (D : va_G) (cI cB cZ : ClassId) (n0 : Nat) (v1 : Int32) (hn : n0 ≤ 60) : Met l yX12_choose (CWS yX12_choose cX12_choose 5 (some .long)) (RM 0 0 0) (PBr [.int (nI n0), .int v1] D cI cB cZ []) (vp_Sl (fun r => r = lN (bz n0 v1))) 0 0 (fun _ => False) := by
  refine en_r rfl pn_RX12 (Nat.le_of_ble_eq_true rfl) (fun p e s m below meth c hx hb hml hown S hr hlocks hnm hP hK hS ls hl => ?_)
  have hl : lv_has ls 5 [(0, .int (nI n0)), (1, .int v1)] := hl
  refine lv_iload_n hx hb (oc_27 0 shX12_choose_0) rfl (lvA1 hl) ?_
  refine lv_if_lt (tgt := 9) hx hb (oc_155 1 (aq_1 shX12_choose_0) sgw_0_8) rfl (fun c_1 => ?_) (fun c_1 => ?_)
  ·
    have tc_1 : (v1.toInt : Int) < 0 := Int32.lt_iff_toInt_lt.mp c_1
    refine lv_lconst (v := 0) hx hb dX12_choose_9 (by decide) ?_
    exact W.lret (v := 0) hx hb hr (fun t ht hW => ⟨0, rfl, (by rw [bz_0 (by omega)] <;> rfl), ht⟩) (fun _ h => absurd h List.not_mem_nil) dX12_choose_10
  ·
    have tc_1 : (0 : Int) ≤ v1.toInt := Int32.le_iff_toInt_le.mp (Int32.not_lt.mp c_1)
    refine lv_iload_n hx hb (oc_27 4 (aq_4 shX12_choose_0)) rfl (lvA1 hl) ?_
    refine lv_iload_n hx hb (oc_26 5 (aq_5 shX12_choose_0)) rfl (lvA0 hl) ?_
    have : (nI n0).toInt = ((n0 : Nat) : Int) := nI_toInt (by omega)
    refine lv_icmp_le (tgt := 11) hx hb (oc_164 6 (aq_6 shX12_choose_0) sgw_0_5) rfl (fun c_2 => ?_) (fun c_2 => ?_)
    ·
      have tc_2 : (v1.toInt : Int) ≤ (nI n0).toInt := Int32.le_iff_toInt_le.mp c_2
      obtain ⟨d0, hd0, rfl⟩ := nI_of (x := v1) (fun q => by have := Int32.lt_iff_toInt_lt.mp q; have e : (0 : Int32).toInt = 0 := rfl; omega)
      have td0 : (nI d0).toInt = (d0 : Int) := nI_toInt hd0
      have zd0 : (nI d0).toInt.toNat = d0 := by omega
      refine lv_lconst (v := 1) hx hb (oc_10 11 (aq_11 shX12_choose_0)) (by decide) ?_
      refine lv_lstore_n (lv' := [(2, .long 1), (0, .int (nI n0)), (1, .int (nI d0))]) hx hb (oc_65 12 (aq_12 shX12_choose_0)) rfl hl (ltb rfl) rfl (fun ls hl => ?_)
      refine lv_iconst (v := 1) hx hb (oc_4 13 (aq_13 shX12_choose_0)) kic_1 ?_
      refine lv_istore (lv' := [(4, .int 1), (2, .long 1), (0, .int (nI n0)), (1, .int (nI d0))]) hx hb (oc_54 14 (aq_14 shX12_choose_0) ub_4) hl (ltb rfl) rfl (fun ls hl => ?_)
      have lp_16 : ∀ (n : Nat) (i16 : Nat) (x16_2 : Int64) , d0 + 1 - i16 < n → ((1 ≤ i16 ∧ i16 ≤ d0 + 1) ∧ (x16_2 = lN (chD (n0 - d0) (i16 - 1)))) → ∀ ls : Array Slot, lv_has ls 5 [(4, .int (nI i16)), (2, .long x16_2), (0, .int (nI n0)), (1, .int (nI d0))] → W p l e (RM 0 0 0) s m ([.int (nI n0), .int (nI d0)]).toArray below meth c s.heap [] 0 0 (MQ below (vp_Sl (fun r => r = lN (bz n0 (nI d0)))) ([.int (nI n0), .int (nI d0)]).toArray s 0 0 (fun _ => False)) (F0 m 16 ls []) := by
        intro n16
        induction n16 with
        | zero => intros; omega
        | succ n16 ih16 =>
          intro i16 x16_2 hmu16 hinv16 ls hl
          obtain ⟨hr16, hx16_0⟩ := hinv16
          have ti16 : (nI i16).toInt = (i16 : Int) := nI_toInt (by omega)
          obtain ⟨j0, hj0⟩ : ∃ j0, i16 = j0 + 1 := ⟨i16 - 1, by omega⟩
          rw [show i16 - 1 = j0 by omega] at hx16_0
          subst hx16_0
          refine lv_iload hx hb (oc_21 16 (aq_16 shX12_choose_0) ub_4) (lvA0 hl) ?_
          refine lv_iload_n hx hb (oc_27 18 (aq_18 shX12_choose_0)) rfl (lvA3 hl) ?_
          refine lv_icmp_gt (tgt := 42) hx hb (oc_163 19 (aq_19 shX12_choose_0) sgw_0_23) rfl (fun c_3 => ?_) (fun c_3 => ?_)
          ·
            have tc_3 : ((nI d0).toInt : Int) < (nI i16).toInt := Int32.lt_iff_toInt_lt.mp c_3
            refine lv_lload_n hx hb (oc_32 42 (aq_18 shX12_choose_24)) rfl (lvA1 hl) ?_
            exact W.lret (v := (lN (chD (n0 - d0) j0))) hx hb hr (fun t ht hW => ⟨(lN (chD (n0 - d0) j0)), rfl, (by rw [show j0 = d0 by omega, chD_bn, show n0 - d0 + d0 = n0 by omega, bz_n (by omega)]), ht⟩) (fun _ h => absurd h List.not_mem_nil) (oc_173 43 (aq_19 shX12_choose_24))
          ·
            have tc_3 : ((nI i16).toInt : Int) ≤ (nI d0).toInt := Int32.le_iff_toInt_le.mp (Int32.not_lt.mp c_3)
            refine lv_lload_n hx hb (oc_32 22 (aq_22 shX12_choose_0)) rfl (lvA1 hl) ?_
            refine lv_iload_n hx hb (oc_26 23 (aq_23 shX12_choose_0)) rfl (lvA2 hl) ?_
            refine lv_iload_n hx hb (oc_27 24 shX12_choose_24) rfl (lvA3 hl) ?_
            refine lv_isub hx hb (oc_100 25 (aq_1 shX12_choose_24)) ?_
            refine lv_topi (fun y_4 ey_4 => ?_)
            obtain rfl : y_4 = (nI (n0 - d0)) := ey_4.trans (nI_sub (by omega))
            refine lv_iload hx hb (oc_21 26 (aq_2 shX12_choose_24) ub_4) (lvA0 hl) ?_
            refine lv_iadd hx hb (oc_96 28 (aq_4 shX12_choose_24)) ?_
            refine lv_topi (fun y_5 ey_5 => ?_)
            obtain rfl : y_5 = (nI ((n0 - d0) + i16)) := ey_5.trans (nI_add (n0 - d0) i16)
            refine lv_i2l (v := (lN ((n0 - d0) + i16))) hx hb (oc_133 29 (aq_5 shX12_choose_24)) (nI_l (by omega)) ?_
            refine lv_lmul hx hb (oc_105 30 (aq_6 shX12_choose_24)) ?_
            refine lv_topl (fun y_6 ey_6 => ?_)
            obtain rfl : y_6 = (lN ((chD (n0 - d0) j0) * ((n0 - d0) + i16))) := ey_6.trans (lN_mul _ _)
            refine lv_iload hx hb (oc_21 31 (aq_7 shX12_choose_24) ub_4) (lvA0 hl) ?_
            refine lv_i2l (v := (lN i16)) hx hb (oc_133 33 (aq_9 shX12_choose_24)) (nI_l (by omega)) ?_
            refine lv_ldiv hx hb (oc_109 34 (aq_10 shX12_choose_24)) (lN_ne (by omega) (by omega)) ?_
            refine lv_topl (fun y_7 ey_7 => ?_)
            obtain rfl : y_7 = (lN (chD (n0 - d0) (j0 + 1))) := ey_7.trans (by have q := chD_ok (d := n0 - d0) (q := j0) (by omega); rw [hj0]; exact lN_div q.2 (by omega))
            refine lv_lstore_n (lv' := [(2, .long (lN (chD (n0 - d0) (j0 + 1)))), (4, .int (nI i16)), (0, .int (nI n0)), (1, .int (nI d0))]) hx hb (oc_65 35 (aq_11 shX12_choose_24)) rfl hl (ltb rfl) rfl (fun ls hl => ?_)
            refine lv_iinc (v := (nI (i16 + 1))) (lv' := [(4, .int (nI (i16 + 1))), (2, .long (lN (chD (n0 - d0) (j0 + 1)))), (0, .int (nI n0)), (1, .int (nI d0))]) hx hb (oc_132 36 (aq_12 shX12_choose_24) ub_4 sgb_1) hl (k := 1) rfl (nI_1 _) (ltb rfl) rfl (fun ls hl => ?_)
            refine lv_goto (tgt := 16) hx hb (oc_167 39 (aq_15 shX12_choose_24) sgw_255_233) rfl ?_
            exact ih16 (i16 + 1) (lN (chD (n0 - d0) (j0 + 1))) (by omega) ⟨(by omega), (by rw [hj0]; rfl)⟩ ls (lv_sub hl [0, 1, 2, 3] rfl)
      exact lp_16 _ 1 1 (Nat.lt_succ_self _) ⟨(by omega), (show (1 : Int64) = lN (chD (n0 - d0) 0) from rfl)⟩ ls (lv_sub hl [0, 1, 2, 3] rfl)
    ·
      have tc_2 : ((nI n0).toInt : Int) < v1.toInt := Int32.lt_iff_toInt_lt.mp (Int32.not_le.mp c_2)
      refine lv_lconst (v := 0) hx hb dX12_choose_9 (by decide) ?_
      exact W.lret (v := 0) hx hb hr (fun t ht hW => ⟨0, rfl, (by rw [bz_0 (by omega)] <;> rfl), ht⟩) (fun _ h => absurd h List.not_mem_nil) dX12_choose_10
set_option maxRecDepth 100000 in
set_option maxHeartbeats 4000000 in
theorem q_Edivisor (l : Launch) (D : va_G) (cI cB cZ : ClassId) (v0 v1 : Int64) (s0 t0 : Nat) (h0 : v0 = lN s0) (h1 : v1 = lN t0) (hs : s0 < 2 ^ 63) (ht : t0 < 2 ^ 63) : Met l yX11_divisor (CWS yX11_divisor cX11_divisor 7 (some .long)) (RM 0 0 0) (PBr [.long v0, .long v1] D cI cB cZ []) (vp_Sl (fun r => r = lN (Nat.gcd s0 t0))) 0 0 (fun _ => False) := by
  refine en_r rfl pn_RX11 (Nat.le_of_ble_eq_true rfl) (fun p e s m below meth c hx hb hml hown S hr hlocks hnm hP hK hS ls hl => ?_)
  have hl : lv_has ls 7 [(0, .long v0), (2, .long v1)] := hl
  refine lv_iconst (v := 0) hx hb (oc_3 0 shX11_divisor_0) kic_0 ?_
  refine lv_istore (lv' := [(4, .int 0), (0, .long v0), (2, .long v1)]) hx hb (oc_54 1 (aq_1 shX11_divisor_0) ub_4) hl (ltb rfl) rfl (fun ls hl => ?_)
  have lp_3 : ∀ (n : Nat) (i3 : Nat) (x3_0 : Int64) (x3_2 : Int64) , 200 - i3 < n → (i3 ≤ 200 ∧ (DVG s0 t0 i3 x3_0 x3_2)) → ∀ ls : Array Slot, lv_has ls 7 [(4, .int (nI i3)), (0, .long x3_0), (2, .long x3_2)] → W p l e (RM 0 0 0) s m ([.long v0, .long v1]).toArray below meth c s.heap [] 0 0 (MQ below (vp_Sl (fun r => r = lN (Nat.gcd s0 t0))) ([.long v0, .long v1]).toArray s 0 0 (fun _ => False)) (F0 m 3 ls []) := by
    intro n3
    induction n3 with
    | zero => intros; omega
    | succ n3 ih3 =>
      intro i3 x3_0 x3_2 hmu3 hinv3 ls hl
      obtain ⟨hr3, hx3_0⟩ := hinv3
      have ti3 : (nI i3).toInt = (i3 : Int) := nI_toInt (by omega)
      refine lv_iload hx hb (oc_21 3 (aq_3 shX11_divisor_0) ub_4) (lvA0 hl) ?_
      refine lv_sipush (v := 200) hx hb (oc_17 5 (aq_5 shX11_divisor_0) sgw_0_200) (by decide) ?_
      refine lv_icmp_ge (tgt := 33) hx hb (oc_162 8 (aq_8 shX11_divisor_0) sgw_0_25) rfl (fun c_1 => ?_) (fun c_1 => ?_)
      ·
        have tc_1 : (200 : Int) ≤ (nI i3).toInt := Int32.le_iff_toInt_le.mp c_1
        refine lv_lload_n hx hb dX11_divisor_33 rfl (lvA1 hl) ?_
        exact W.lret (v := x3_0) hx hb hr (fun t ht hW => ⟨x3_0, rfl, (DVG.fin hx3_0 (by first | exact Or.inl (by omega) | exact Or.inr (Iff.mp (by assumption) (by assumption)))), ht⟩) (fun _ h => absurd h List.not_mem_nil) dX11_divisor_34
      ·
        have tc_1 : ((nI i3).toInt : Int) < 200 := Int32.lt_iff_toInt_lt.mp (Int32.not_le.mp c_1)
        refine lv_lload_n hx hb (oc_32 11 (aq_11 shX11_divisor_0)) rfl (lvA2 hl) ?_
        refine lv_lconst (v := 0) hx hb (oc_9 12 (aq_12 shX11_divisor_0)) (by decide) ?_
        refine W.lcmp hx hb (oc_148 13 (aq_13 shX11_divisor_0)) ?_
        refine lv_topi (fun y_2 ey_2 => ?_)
        have zy_2 : y_2 = 0 ↔ x3_2 = 0 := lcmp0 ey_2
        refine lv_if_eq (tgt := 33) hx hb (oc_153 14 (aq_14 shX11_divisor_0) sgw_0_19) rfl (fun c_3 => ?_) (fun c_3 => ?_)
        ·
          have tc_3 : (y_2.toInt : Int) = 0 := congrArg Int32.toInt c_3
          refine lv_lload_n hx hb dX11_divisor_33 rfl (lvA1 hl) ?_
          exact W.lret (v := x3_0) hx hb hr (fun t ht hW => ⟨x3_0, rfl, (DVG.fin hx3_0 (by first | exact Or.inl (by omega) | exact Or.inr (Iff.mp (by assumption) (by assumption)))), ht⟩) (fun _ h => absurd h List.not_mem_nil) dX11_divisor_34
        ·
          have tc_3 : (y_2.toInt : Int) ≠ 0 := fun q => c_3 (Int32.toInt_inj.mp q)
          refine lv_lload_n hx hb (oc_30 17 (aq_17 shX11_divisor_0)) rfl (lvA1 hl) ?_
          refine lv_lload_n hx hb (oc_32 18 (aq_18 shX11_divisor_0)) rfl (lvA2 hl) ?_
          refine lv_lrem hx hb (oc_113 19 (aq_19 shX11_divisor_0)) (fun q => absurd (Iff.mpr (by assumption) q) (by assumption)) ?_
          refine lv_lstore (lv' := [(5, .long (x3_0 - x3_0 / x3_2 * x3_2)), (4, .int (nI i3)), (0, .long x3_0), (2, .long x3_2)]) hx hb (oc_55 20 (aq_20 shX11_divisor_0) ub_5) hl (ltb rfl) rfl (fun ls hl => ?_)
          refine lv_lload_n hx hb (oc_32 22 (aq_22 shX11_divisor_0)) rfl (lvA3 hl) ?_
          refine lv_lstore_n (lv' := [(0, .long x3_2), (5, .long (x3_0 - x3_0 / x3_2 * x3_2)), (4, .int (nI i3)), (2, .long x3_2)]) hx hb (oc_63 23 (aq_23 shX11_divisor_0)) rfl hl (ltb rfl) rfl (fun ls hl => ?_)
          refine lv_lload hx hb (oc_22 24 shX11_divisor_24 ub_5) (lvA1 hl) ?_
          refine lv_lstore_n (lv' := [(2, .long (x3_0 - x3_0 / x3_2 * x3_2)), (0, .long x3_2), (5, .long (x3_0 - x3_0 / x3_2 * x3_2)), (4, .int (nI i3))]) hx hb (oc_65 26 (aq_2 shX11_divisor_24)) rfl hl (ltb rfl) rfl (fun ls hl => ?_)
          refine lv_iinc (v := (nI (i3 + 1))) (lv' := [(4, .int (nI (i3 + 1))), (2, .long (x3_0 - x3_0 / x3_2 * x3_2)), (0, .long x3_2), (5, .long (x3_0 - x3_0 / x3_2 * x3_2))]) hx hb (oc_132 27 (aq_3 shX11_divisor_24) ub_4 sgb_1) hl (k := 3) rfl (nI_1 _) (ltb rfl) rfl (fun ls hl => ?_)
          refine lv_goto (tgt := 3) hx hb (oc_167 30 (aq_6 shX11_divisor_24) sgw_255_229) rfl ?_
          exact ih3 (i3 + 1) x3_2 (x3_0 - x3_0 / x3_2 * x3_2) (by omega) ⟨(by omega), (DVG.st hx3_0 (fun q => absurd (Iff.mpr (by assumption) q) (by assumption)))⟩ ls (lv_sub hl [0, 2, 1] rfl)
  exact lp_3 _ 0 v0 v1 (Nat.lt_succ_self _) ⟨(by omega), ⟨s0, t0, h0, h1, hs, ht, rfl, Or.inl rfl⟩⟩ ls (lv_sub hl [0, 1, 2] rfl)
set_option maxRecDepth 100000 in
set_option maxHeartbeats 4000000 in
theorem q_Eodds (l : Launch) (D : va_G) (cI cB cZ : ClassId) (a0 o0 b0 l0 : Nat) (v4 : Int32) (ha : a0 ≤ l0) (ho : o0 ≤ l0) (hl0 : l0 ≤ 60) (hb0 : b0 ≤ a0 ∧ b0 ≤ o0) : Met l yX11_odds (CWS yX11_odds cX11_odds 11 (some .long)) (RM 2 0 0) (PBr [.int (nI a0), .int (nI o0), .int (nI b0), .int (nI l0), .int v4] D cI cB cZ []) (vp_Sl (fun r => ODX a0 o0 b0 l0 v4 r)) 0 0 (fun _ => False) := by
  refine en_r rfl pn_RX11 (Nat.le_of_ble_eq_true rfl) (fun p e s m below meth c hx hb hml hown S hr hlocks hnm hP hK hS ls hl => ?_)
  have hl : lv_has ls 11 [(0, .int (nI a0)), (1, .int (nI o0)), (2, .int (nI b0)), (3, .int (nI l0)), (4, .int v4)] := hl
  refine lv_iload hx hb (oc_21 0 shX11_odds_0 ub_4) (lvA4 hl) ?_
  refine lv_iconst (v := 2) hx hb (oc_5 2 (aq_2 shX11_odds_0)) kic_2 ?_
  refine lv_icmp_ne (tgt := 9) hx hb (oc_160 3 (aq_3 shX11_odds_0) sgw_0_6) rfl (fun c_1 => ?_) (fun c_1 => ?_)
  ·
    have tc_1 : (v4.toInt : Int) ≠ 2 := fun q => c_1 (Int32.toInt_inj.mp q)
    refine lv_lconst (v := 0) hx hb (oc_9 9 (aq_9 shX11_odds_0)) (by decide) ?_
    refine lv_lstore (lv' := [(5, .long 0), (0, .int (nI a0)), (1, .int (nI o0)), (2, .int (nI b0)), (3, .int (nI l0)), (4, .int v4)]) hx hb (oc_55 10 (aq_10 shX11_odds_0) ub_5) hl (ltb rfl) rfl (fun ls hl => ?_)
    refine lv_iload_n hx hb (oc_28 12 (aq_12 shX11_odds_0)) rfl (lvA3 hl) ?_
    refine lv_istore (lv' := [(7, .int (nI b0)), (5, .long 0), (0, .int (nI a0)), (1, .int (nI o0)), (2, .int (nI b0)), (3, .int (nI l0)), (4, .int v4)]) hx hb (oc_54 13 (aq_13 shX11_odds_0) ub_7) hl (ltb rfl) rfl (fun ls hl => ?_)
    have lp_15 : ∀ (n : Nat) (i15 : Nat) (x15_5 : Int64) , 61 - i15 < n → ((b0 ≤ i15 ∧ i15 ≤ 61 ∧ i15 ≤ min o0 a0 + 1) ∧ (x15_5 = lN (hsum (tC a0 o0 l0) b0 (i15 - b0)))) → ∀ ls : Array Slot, lv_has ls 11 [(7, .int (nI i15)), (5, .long x15_5), (0, .int (nI a0)), (1, .int (nI o0)), (2, .int (nI b0)), (3, .int (nI l0)), (4, .int v4)] → W p l e (RM 2 0 0) s m ([.int (nI a0), .int (nI o0), .int (nI b0), .int (nI l0), .int v4]).toArray below meth c s.heap [] 0 0 (MQ below (vp_Sl (fun r => ODX a0 o0 b0 l0 v4 r)) ([.int (nI a0), .int (nI o0), .int (nI b0), .int (nI l0), .int v4]).toArray s 0 0 (fun _ => False)) (F0 m 15 ls []) := by
      intro n15
      induction n15 with
      | zero => intros; omega
      | succ n15 ih15 =>
        intro i15 x15_5 hmu15 hinv15 ls hl
        obtain ⟨hr15, hx15_0⟩ := hinv15
        have ti15 : (nI i15).toInt = (i15 : Int) := nI_toInt (by omega)
        refine lv_iload hx hb (oc_21 15 (aq_15 shX11_odds_0) ub_7) (lvA0 hl) ?_
        refine lv_iload_n hx hb (oc_27 17 (aq_17 shX11_odds_0)) rfl (lvA3 hl) ?_
        have : (nI o0).toInt = ((o0 : Nat) : Int) := nI_toInt (by omega)
        refine lv_icmp_gt (tgt := 55) hx hb (oc_163 18 (aq_18 shX11_odds_0) sgw_0_37) rfl (fun c_2 => ?_) (fun c_2 => ?_)
        ·
          have tc_2 : ((nI o0).toInt : Int) < (nI i15).toInt := Int32.lt_iff_toInt_lt.mp c_2
          refine lv_iload_n hx hb dX11_odds_55 rfl (lvA5 hl) ?_
          refine lv_iload_n hx hb dX11_odds_56 rfl (lvA3 hl) ?_
          refine vp_callSl (runS_r (As := [.int (nI l0), .int (nI o0)]) (rest := []) S (q_Echoose l D cI cB cZ l0 o0 (by omega) (by omega)) kS_RX11_246 hK hP [] rfl ⟨Nat.le_of_ble_eq_true rfl, Nat.le_of_ble_eq_true rfl⟩ ⟨Nat.le_of_ble_eq_true rfl, Nat.le_of_ble_eq_true rfl⟩ rfl hl.1 rfl (Nat.le_of_ble_eq_true rfl) dX11_odds_57) (fun r_3 h_4 => ?_)
          subst h_4
          refine lv_lstore (lv' := [(7, .long (lN (bn l0 o0))), (5, .long x15_5), (0, .int (nI a0)), (1, .int (nI o0)), (2, .int (nI b0)), (3, .int (nI l0)), (4, .int v4)]) hx hb dX11_odds_60 hl (ltb rfl) rfl (fun ls hl => ?_)
          refine lv_lload hx hb dX11_odds_62 (lvA1 hl) ?_
          refine lv_lload hx hb dX11_odds_64 (lvA0 hl) ?_
          refine vp_callSl (runS_r (As := [.long x15_5, .long (lN (bn l0 o0))]) (rest := []) S (q_Edivisor l D cI cB cZ x15_5 (lN (bn l0 o0)) (hsum (tC a0 o0 l0) b0 (i15 - b0)) (bn l0 o0) hx15_0 rfl (hs_lt (by omega) (fun j _ => tC_K hl0 ha _)) (bn_lt hl0)) kS_RX11_250 hK hP [] rfl ⟨Nat.le_of_ble_eq_true rfl, Nat.le_of_ble_eq_true rfl⟩ ⟨Nat.le_of_ble_eq_true rfl, Nat.le_of_ble_eq_true rfl⟩ rfl hl.1 rfl (Nat.le_of_ble_eq_true rfl) dX11_odds_66) (fun r_5 h_6 => ?_)
          subst h_6
          refine lv_lstore (lv' := [(9, .long (lN (Nat.gcd (hsum (tC a0 o0 l0) b0 (i15 - b0)) (bn l0 o0)))), (7, .long (lN (bn l0 o0))), (5, .long x15_5), (0, .int (nI a0)), (1, .int (nI o0)), (2, .int (nI b0)), (3, .int (nI l0)), (4, .int v4)]) hx hb dX11_odds_69 hl (ltb rfl) rfl (fun ls hl => ?_)
          refine lv_lload hx hb dX11_odds_71 (lvA0 hl) ?_
          refine lv_lconst (v := 0) hx hb dX11_odds_73 (by decide) ?_
          refine W.lcmp hx hb dX11_odds_74 ?_
          refine lv_topi (fun y_7 ey_7 => ?_)
          have zy_7 : y_7 = 0 ↔ (lN (Nat.gcd (hsum (tC a0 o0 l0) b0 (i15 - b0)) (bn l0 o0))) = 0 := lcmp0 ey_7
          refine lv_if_ne (tgt := 82) hx hb dX11_odds_75 rfl (fun c_8 => ?_) (fun c_8 => ?_)
          ·
            have tc_8 : (y_7.toInt : Int) ≠ 0 := fun q => c_8 (Int32.toInt_inj.mp q)
            refine lv_iload hx hb dX11_odds_82 (lvA7 hl) ?_
            refine lv_if_ne (tgt := 95) hx hb dX11_odds_84 rfl (fun c_9 => ?_) (fun c_9 => ?_)
            ·
              have tc_9 : (v4.toInt : Int) ≠ 0 := fun q => c_9 (Int32.toInt_inj.mp q)
              refine lv_lload hx hb dX11_odds_95 (lvA1 hl) ?_
              refine lv_lload hx hb dX11_odds_97 (lvA0 hl) ?_
              refine lv_ldiv hx hb dX11_odds_99 (fun q => absurd (Iff.mpr (by assumption) q) (by assumption)) ?_
              exact W.lret (v := ((lN (bn l0 o0)) / (lN (Nat.gcd (hsum (tC a0 o0 l0) b0 (i15 - b0)) (bn l0 o0))))) hx hb hr (fun t ht hW => ⟨((lN (bn l0 o0)) / (lN (Nat.gcd (hsum (tC a0 o0 l0) b0 (i15 - b0)) (bn l0 o0)))), rfl, (Or.inr (Or.inr ⟨by assumption, by assumption, by have e9 : i15 = min o0 a0 + 1 := (by omega); rw [e9]; exact dvS (bn_lt hl0) (bn_pos l0 o0 ho) (bn_lt hl0)⟩)), ht⟩) (fun _ h => absurd h List.not_mem_nil) dX11_odds_100
            ·
              have tc_9 : (v4.toInt : Int) = 0 := congrArg Int32.toInt c_9
              refine lv_lload hx hb dX11_odds_87 (lvA2 hl) ?_
              refine lv_lload hx hb dX11_odds_89 (lvA0 hl) ?_
              refine lv_ldiv hx hb dX11_odds_91 (fun q => absurd (Iff.mpr (by assumption) q) (by assumption)) ?_
              refine lv_goto (tgt := 100) hx hb dX11_odds_92 rfl ?_
              exact W.lret (v := (x15_5 / (lN (Nat.gcd (hsum (tC a0 o0 l0) b0 (i15 - b0)) (bn l0 o0))))) hx hb hr (fun t ht hW => ⟨(x15_5 / (lN (Nat.gcd (hsum (tC a0 o0 l0) b0 (i15 - b0)) (bn l0 o0)))), rfl, (Or.inr (Or.inl ⟨by assumption, by assumption, by have e9 : i15 = min o0 a0 + 1 := (by omega); rw [hx15_0, e9]; exact dvS (hs_lt (by omega) (fun j _ => tC_K hl0 ha _)) (bn_pos l0 o0 ho) (bn_lt hl0)⟩)), ht⟩) (fun _ h => absurd h List.not_mem_nil) dX11_odds_100
          ·
            have tc_8 : (y_7.toInt : Int) = 0 := congrArg Int32.toInt c_8
            refine lv_ldc2 (v := (-1)) hx hb hown (S.2.2.2.2 _ (wk4_5 1 rfl rfl)) dX11_odds_78 ?_
            exact W.lret (v := (-1)) hx hb hr (fun t ht hW => ⟨(-1), rfl, (False.elim (gcd_nz (bn_pos l0 o0 ho) (bn_lt hl0) (Iff.mp (by assumption) (by assumption)))), ht⟩) (fun _ h => absurd h List.not_mem_nil) dX11_odds_81
        ·
          have tc_2 : ((nI i15).toInt : Int) ≤ (nI o0).toInt := Int32.le_iff_toInt_le.mp (Int32.not_lt.mp c_2)
          refine lv_iload hx hb (oc_21 21 (aq_21 shX11_odds_0) ub_7) (lvA0 hl) ?_
          refine lv_iload_n hx hb (oc_26 23 (aq_23 shX11_odds_0)) rfl (lvA2 hl) ?_
          have : (nI a0).toInt = ((a0 : Nat) : Int) := nI_toInt (by omega)
          refine lv_icmp_gt (tgt := 55) hx hb (oc_163 24 shX11_odds_24 sgw_0_31) rfl (fun c_10 => ?_) (fun c_10 => ?_)
          ·
            have tc_10 : ((nI a0).toInt : Int) < (nI i15).toInt := Int32.lt_iff_toInt_lt.mp c_10
            refine lv_iload_n hx hb dX11_odds_55 rfl (lvA5 hl) ?_
            refine lv_iload_n hx hb dX11_odds_56 rfl (lvA3 hl) ?_
            refine vp_callSl (runS_r (As := [.int (nI l0), .int (nI o0)]) (rest := []) S (q_Echoose l D cI cB cZ l0 o0 (by omega) (by omega)) kS_RX11_246 hK hP [] rfl ⟨Nat.le_of_ble_eq_true rfl, Nat.le_of_ble_eq_true rfl⟩ ⟨Nat.le_of_ble_eq_true rfl, Nat.le_of_ble_eq_true rfl⟩ rfl hl.1 rfl (Nat.le_of_ble_eq_true rfl) dX11_odds_57) (fun r_11 h_12 => ?_)
            subst h_12
            refine lv_lstore (lv' := [(7, .long (lN (bn l0 o0))), (5, .long x15_5), (0, .int (nI a0)), (1, .int (nI o0)), (2, .int (nI b0)), (3, .int (nI l0)), (4, .int v4)]) hx hb dX11_odds_60 hl (ltb rfl) rfl (fun ls hl => ?_)
            refine lv_lload hx hb dX11_odds_62 (lvA1 hl) ?_
            refine lv_lload hx hb dX11_odds_64 (lvA0 hl) ?_
            refine vp_callSl (runS_r (As := [.long x15_5, .long (lN (bn l0 o0))]) (rest := []) S (q_Edivisor l D cI cB cZ x15_5 (lN (bn l0 o0)) (hsum (tC a0 o0 l0) b0 (i15 - b0)) (bn l0 o0) hx15_0 rfl (hs_lt (by omega) (fun j _ => tC_K hl0 ha _)) (bn_lt hl0)) kS_RX11_250 hK hP [] rfl ⟨Nat.le_of_ble_eq_true rfl, Nat.le_of_ble_eq_true rfl⟩ ⟨Nat.le_of_ble_eq_true rfl, Nat.le_of_ble_eq_true rfl⟩ rfl hl.1 rfl (Nat.le_of_ble_eq_true rfl) dX11_odds_66) (fun r_13 h_14 => ?_)
            subst h_14
            refine lv_lstore (lv' := [(9, .long (lN (Nat.gcd (hsum (tC a0 o0 l0) b0 (i15 - b0)) (bn l0 o0)))), (7, .long (lN (bn l0 o0))), (5, .long x15_5), (0, .int (nI a0)), (1, .int (nI o0)), (2, .int (nI b0)), (3, .int (nI l0)), (4, .int v4)]) hx hb dX11_odds_69 hl (ltb rfl) rfl (fun ls hl => ?_)
            refine lv_lload hx hb dX11_odds_71 (lvA0 hl) ?_
            refine lv_lconst (v := 0) hx hb dX11_odds_73 (by decide) ?_
            refine W.lcmp hx hb dX11_odds_74 ?_
            refine lv_topi (fun y_15 ey_15 => ?_)
            have zy_15 : y_15 = 0 ↔ (lN (Nat.gcd (hsum (tC a0 o0 l0) b0 (i15 - b0)) (bn l0 o0))) = 0 := lcmp0 ey_15
            refine lv_if_ne (tgt := 82) hx hb dX11_odds_75 rfl (fun c_16 => ?_) (fun c_16 => ?_)
            ·
              have tc_16 : (y_15.toInt : Int) ≠ 0 := fun q => c_16 (Int32.toInt_inj.mp q)
              refine lv_iload hx hb dX11_odds_82 (lvA7 hl) ?_
              refine lv_if_ne (tgt := 95) hx hb dX11_odds_84 rfl (fun c_17 => ?_) (fun c_17 => ?_)
              ·
                have tc_17 : (v4.toInt : Int) ≠ 0 := fun q => c_17 (Int32.toInt_inj.mp q)
                refine lv_lload hx hb dX11_odds_95 (lvA1 hl) ?_
                refine lv_lload hx hb dX11_odds_97 (lvA0 hl) ?_
                refine lv_ldiv hx hb dX11_odds_99 (fun q => absurd (Iff.mpr (by assumption) q) (by assumption)) ?_
                exact W.lret (v := ((lN (bn l0 o0)) / (lN (Nat.gcd (hsum (tC a0 o0 l0) b0 (i15 - b0)) (bn l0 o0))))) hx hb hr (fun t ht hW => ⟨((lN (bn l0 o0)) / (lN (Nat.gcd (hsum (tC a0 o0 l0) b0 (i15 - b0)) (bn l0 o0)))), rfl, (Or.inr (Or.inr ⟨by assumption, by assumption, by have e9 : i15 = min o0 a0 + 1 := (by omega); rw [e9]; exact dvS (bn_lt hl0) (bn_pos l0 o0 ho) (bn_lt hl0)⟩)), ht⟩) (fun _ h => absurd h List.not_mem_nil) dX11_odds_100
              ·
                have tc_17 : (v4.toInt : Int) = 0 := congrArg Int32.toInt c_17
                refine lv_lload hx hb dX11_odds_87 (lvA2 hl) ?_
                refine lv_lload hx hb dX11_odds_89 (lvA0 hl) ?_
                refine lv_ldiv hx hb dX11_odds_91 (fun q => absurd (Iff.mpr (by assumption) q) (by assumption)) ?_
                refine lv_goto (tgt := 100) hx hb dX11_odds_92 rfl ?_
                exact W.lret (v := (x15_5 / (lN (Nat.gcd (hsum (tC a0 o0 l0) b0 (i15 - b0)) (bn l0 o0))))) hx hb hr (fun t ht hW => ⟨(x15_5 / (lN (Nat.gcd (hsum (tC a0 o0 l0) b0 (i15 - b0)) (bn l0 o0)))), rfl, (Or.inr (Or.inl ⟨by assumption, by assumption, by have e9 : i15 = min o0 a0 + 1 := (by omega); rw [hx15_0, e9]; exact dvS (hs_lt (by omega) (fun j _ => tC_K hl0 ha _)) (bn_pos l0 o0 ho) (bn_lt hl0)⟩)), ht⟩) (fun _ h => absurd h List.not_mem_nil) dX11_odds_100
            ·
              have tc_16 : (y_15.toInt : Int) = 0 := congrArg Int32.toInt c_16
              refine lv_ldc2 (v := (-1)) hx hb hown (S.2.2.2.2 _ (wk4_5 1 rfl rfl)) dX11_odds_78 ?_
              exact W.lret (v := (-1)) hx hb hr (fun t ht hW => ⟨(-1), rfl, (False.elim (gcd_nz (bn_pos l0 o0 ho) (bn_lt hl0) (Iff.mp (by assumption) (by assumption)))), ht⟩) (fun _ h => absurd h List.not_mem_nil) dX11_odds_81
          ·
            have tc_10 : ((nI i15).toInt : Int) ≤ (nI a0).toInt := Int32.le_iff_toInt_le.mp (Int32.not_lt.mp c_10)
            refine lv_lload hx hb (oc_22 27 (aq_3 shX11_odds_24) ub_5) (lvA1 hl) ?_
            refine lv_iload_n hx hb (oc_26 29 (aq_5 shX11_odds_24)) rfl (lvA2 hl) ?_
            refine lv_iload hx hb (oc_21 30 (aq_6 shX11_odds_24) ub_7) (lvA0 hl) ?_
            refine vp_callSl (runS_r (As := [.int (nI a0), .int (nI i15)]) (rest := [.long x15_5]) S (q_Echoose l D cI cB cZ a0 i15 (by omega) (by omega)) kS_RX11_246 hK hP [] rfl ⟨Nat.le_of_ble_eq_true rfl, Nat.le_of_ble_eq_true rfl⟩ ⟨Nat.le_of_ble_eq_true rfl, Nat.le_of_ble_eq_true rfl⟩ rfl hl.1 rfl (Nat.le_of_ble_eq_true rfl) (oc_184 32 (aq_8 shX11_odds_24) uw_0_246)) (fun r_18 h_19 => ?_)
            subst h_19
            refine lv_iload_n hx hb (oc_29 35 (aq_11 shX11_odds_24)) rfl (lvA5 hl) ?_
            refine lv_iload_n hx hb (oc_26 36 (aq_12 shX11_odds_24)) rfl (lvA2 hl) ?_
            refine lv_isub hx hb (oc_100 37 (aq_13 shX11_odds_24)) ?_
            refine lv_topi (fun y_20 ey_20 => ?_)
            obtain rfl : y_20 = (nI (l0 - a0)) := ey_20.trans (nI_sub (by omega))
            refine lv_iload_n hx hb (oc_27 38 (aq_14 shX11_odds_24)) rfl (lvA3 hl) ?_
            refine lv_iload hx hb (oc_21 39 (aq_15 shX11_odds_24) ub_7) (lvA0 hl) ?_
            refine lv_isub hx hb (oc_100 41 (aq_17 shX11_odds_24)) ?_
            refine lv_topi (fun y_21 ey_21 => ?_)
            obtain rfl : y_21 = (nI (o0 - i15)) := ey_21.trans (nI_sub (by omega))
            refine vp_callSl (runS_r (As := [.int (nI (l0 - a0)), .int (nI (o0 - i15))]) (rest := [.long (lN (bn a0 i15)), .long x15_5]) S (q_Echoose l D cI cB cZ (l0 - a0) (o0 - i15) (by omega) (by omega)) kS_RX11_246 hK hP [] rfl ⟨Nat.le_of_ble_eq_true rfl, Nat.le_of_ble_eq_true rfl⟩ ⟨Nat.le_of_ble_eq_true rfl, Nat.le_of_ble_eq_true rfl⟩ rfl hl.1 rfl (Nat.le_of_ble_eq_true rfl) (oc_184 42 (aq_18 shX11_odds_24) uw_0_246)) (fun r_22 h_23 => ?_)
            subst h_23
            refine lv_lmul hx hb (oc_105 45 (aq_21 shX11_odds_24)) ?_
            refine lv_topl (fun y_24 ey_24 => ?_)
            obtain rfl : y_24 = (lN ((bn a0 i15) * (bn (l0 - a0) (o0 - i15)))) := ey_24.trans (lN_mul _ _)
            refine lv_ladd hx hb (oc_97 46 (aq_22 shX11_odds_24)) ?_
            refine lv_lstore (lv' := [(5, .long (x15_5 + (lN ((bn a0 i15) * (bn (l0 - a0) (o0 - i15)))))), (7, .int (nI i15)), (0, .int (nI a0)), (1, .int (nI o0)), (2, .int (nI b0)), (3, .int (nI l0)), (4, .int v4)]) hx hb (oc_55 47 (aq_23 shX11_odds_24) ub_5) hl (ltb rfl) rfl (fun ls hl => ?_)
            refine lv_iinc (v := (nI (i15 + 1))) (lv' := [(7, .int (nI (i15 + 1))), (5, .long (x15_5 + (lN ((bn a0 i15) * (bn (l0 - a0) (o0 - i15)))))), (0, .int (nI a0)), (1, .int (nI o0)), (2, .int (nI b0)), (3, .int (nI l0)), (4, .int v4)]) hx hb (oc_132 49 shX11_odds_49 ub_7 sgb_1) hl (k := 1) rfl (nI_1 _) (ltb rfl) rfl (fun ls hl => ?_)
            refine lv_goto (tgt := 15) hx hb (oc_167 52 (aq_3 shX11_odds_49) sgw_255_219) rfl ?_
            exact ih15 (i15 + 1) (x15_5 + (lN ((bn a0 i15) * (bn (l0 - a0) (o0 - i15))))) (by omega) ⟨(by omega), (hs_1 (by omega) hx15_0 rfl)⟩ ls (lv_sub hl [0, 1, 2, 3, 4, 5, 6] rfl)
    exact lp_15 _ b0 0 (Nat.lt_succ_self _) ⟨(by omega), (by rw [Nat.sub_self] <;> rfl)⟩ ls (lv_sub hl [0, 1, 2, 3, 4, 5, 6] rfl)
  ·
    have tc_1 : (v4.toInt : Int) = 2 := congrArg Int32.toInt c_1
    refine lv_iload_n hx hb (oc_28 6 (aq_6 shX11_odds_0)) rfl (lvA2 hl) ?_
    refine lv_i2l (v := (lN b0)) hx hb (oc_133 7 (aq_7 shX11_odds_0)) (nI_l (by omega)) ?_
    exact W.lret (v := (lN b0)) hx hb hr (fun t ht hW => ⟨(lN b0), rfl, (Or.inl ⟨by assumption, rfl⟩), ht⟩) (fun _ h => absurd h List.not_mem_nil) (oc_173 8 (aq_8 shX11_odds_0))
set_option maxRecDepth 100000 in
set_option maxHeartbeats 4000000 in
theorem q_byLot9 (l : Launch) (D : va_G) (cI cB cZ : ClassId) (g : Nat → Nat) (cn : Nat → Nat) (In : Nat → Int32) (Fn : Nat → Nat → Int32) (a0 o0 b0 : Nat) (v3 : Int32) (hI : IM cn Fn) (ha : a0 ≤ cn 2) (ho : o0 ≤ cn 2) (hb0 : b0 ≤ o0) : Met l yX12_byLot (CWS yX12_byLot cX12_byLot 15 (some .long)) (RM 1 0 0) (PBr [.ref (g 100), .int (nI a0), .int (nI o0), .int (nI b0), .int v3] D cI cB cZ (wM cI cB cZ g cn In Fn)) (vp_Sl (fun r => ODM a0 o0 b0 (cn 2) v3 r)) 0 0 (fun _ => False) := by
  refine en_r rfl pn_RX12 (Nat.le_of_ble_eq_true rfl) (fun p e s m below meth c hx hb hml hown S hr hlocks hnm hP hK hS ls hl => ?_)
  have hl : lv_has ls 15 [(0, .ref (g 100)), (1, .int (nI a0)), (2, .int (nI o0)), (3, .int (nI b0)), (4, .int v3)] := hl
  have hi_cn : Hid (CB cn) := hI.b
  refine lv_iload hx hb (oc_21 0 shX12_byLot_0 ub_4) (lvA4 hl) ?_
  refine lv_iconst (v := 2) hx hb (oc_5 2 (aq_2 shX12_byLot_0)) kic_2 ?_
  refine lv_icmp_ne (tgt := 9) hx hb (oc_160 3 (aq_3 shX12_byLot_0) sgw_0_6) rfl (fun c_1 => ?_) (fun c_1 => ?_)
  ·
    have tc_1 : (v3.toInt : Int) ≠ 2 := fun q => c_1 (Int32.toInt_inj.mp q)
    refine lv_lconst (v := 0) hx hb (oc_9 9 (aq_9 shX12_byLot_0)) (by decide) ?_
    refine lv_lstore (lv' := [(5, .long 0), (0, .ref (g 100)), (1, .int (nI a0)), (2, .int (nI o0)), (3, .int (nI b0)), (4, .int v3)]) hx hb (oc_55 10 (aq_10 shX12_byLot_0) ub_5) hl (ltb rfl) rfl (fun ls hl => ?_)
    refine lv_iload_n hx hb (oc_29 12 (aq_12 shX12_byLot_0)) rfl (lvA4 hl) ?_
    refine lv_istore (lv' := [(7, .int (nI b0)), (5, .long 0), (0, .ref (g 100)), (1, .int (nI a0)), (2, .int (nI o0)), (3, .int (nI b0)), (4, .int v3)]) hx hb (oc_54 13 (aq_13 shX12_byLot_0) ub_7) hl (ltb rfl) rfl (fun ls hl => ?_)
    have lp_15 : ∀ (n : Nat) (i15 : Nat) (x15_5 : Int64) , o0 + 1 - i15 < n → ((b0 ≤ i15 ∧ i15 ≤ o0 + 1) ∧ (x15_5 = lN (hsum (tR a0 o0 (cn 2)) b0 (i15 - b0)))) → ∀ ls : Array Slot, lv_has ls 15 [(7, .int (nI i15)), (5, .long x15_5), (0, .ref (g 100)), (1, .int (nI a0)), (2, .int (nI o0)), (3, .int (nI b0)), (4, .int v3)] → W p l e (RM 1 0 0) s m ([.ref (g 100), .int (nI a0), .int (nI o0), .int (nI b0), .int v3]).toArray below meth c s.heap [] 0 0 (MQ below (vp_Sl (fun r => ODM a0 o0 b0 (cn 2) v3 r)) ([.ref (g 100), .int (nI a0), .int (nI o0), .int (nI b0), .int v3]).toArray s 0 0 (fun _ => False)) (F0 m 15 ls []) := by
      intro n15
      induction n15 with
      | zero => intros; (first | omega | (have zz0 := Hid.u hi_cn; omega))
      | succ n15 ih15 =>
        intro i15 x15_5 hmu15 hinv15 ls hl
        obtain ⟨hr15, hx15_0⟩ := hinv15
        have ti15 : (nI i15).toInt = (i15 : Int) := nI_toInt (by (first | omega | (have zz0 := Hid.u hi_cn; omega)))
        refine lv_iload hx hb (oc_21 15 (aq_15 shX12_byLot_0) ub_7) (lvA0 hl) ?_
        refine lv_iload_n hx hb (oc_28 17 (aq_17 shX12_byLot_0)) rfl (lvA4 hl) ?_
        have : (nI o0).toInt = ((o0 : Nat) : Int) := nI_toInt (by (first | omega | (have zz0 := Hid.u hi_cn; omega)))
        refine lv_icmp_gt (tgt := 52) hx hb (oc_163 18 (aq_18 shX12_byLot_0) sgw_0_34) rfl (fun c_2 => ?_) (fun c_2 => ?_)
        ·
          have tc_2 : ((nI o0).toInt : Int) < (nI i15).toInt := Int32.lt_iff_toInt_lt.mp c_2
          refine lv_aload_n hx hb (oc_42 52 (aq_3 shX12_byLot_49)) rfl (lvA2 hl) ?_
          refine gM_208 S hK hP (v := .int (nI (cn 2))) rfl (oc_180 53 (aq_4 shX12_byLot_49) uw_0_208) ?_
          refine lv_iload_n hx hb (oc_27 56 (aq_7 shX12_byLot_49)) rfl (lvA3 hl) ?_
          refine vp_callSl (runS_r (As := [.int (nI (cn 2)), .int (nI a0)]) (rest := []) S (q_choose9 l D cI cB cZ (cn 2) (nI a0) (by (first | omega | (have zz0 := Hid.u hi_cn; omega)))) kS_RX12_344 hK hP [] rfl ⟨Nat.le_of_ble_eq_true rfl, Nat.le_of_ble_eq_true rfl⟩ ⟨Nat.le_of_ble_eq_true rfl, Nat.le_of_ble_eq_true rfl⟩ rfl hl.1 rfl (Nat.le_of_ble_eq_true rfl) (oc_184 57 (aq_8 shX12_byLot_49) uw_1_88)) (fun r_3 h_4 => ?_)
          subst h_4
          have hz : ¬ lN (bz (cn 2) (nI a0)) = 0 := lN_ne (by rw [bz_n (by (first | omega | (have zz0 := Hid.u hi_cn; omega)))]; exact bn_pos _ _ ha) (bz_lt (by (first | omega | (have zz0 := Hid.u hi_cn; omega))))
          refine lv_lstore (lv' := [(7, .long (lN (bz (cn 2) (nI a0)))), (5, .long x15_5), (0, .ref (g 100)), (1, .int (nI a0)), (2, .int (nI o0)), (3, .int (nI b0)), (4, .int v3)]) hx hb (oc_55 60 (aq_11 shX12_byLot_49) ub_7) hl (ltb rfl) rfl (fun ls hl => ?_)
          refine lv_lload hx hb (oc_22 62 (aq_13 shX12_byLot_49) ub_5) (lvA1 hl) ?_
          refine lv_lstore (lv' := [(9, .long x15_5), (7, .long (lN (bz (cn 2) (nI a0)))), (5, .long x15_5), (0, .ref (g 100)), (1, .int (nI a0)), (2, .int (nI o0)), (3, .int (nI b0)), (4, .int v3)]) hx hb (oc_55 64 (aq_15 shX12_byLot_49) ub_9) hl (ltb rfl) rfl (fun ls hl => ?_)
          refine lv_lload hx hb (oc_22 66 (aq_17 shX12_byLot_49) ub_7) (lvA1 hl) ?_
          refine lv_lstore (lv' := [(11, .long (lN (bz (cn 2) (nI a0)))), (9, .long x15_5), (7, .long (lN (bz (cn 2) (nI a0)))), (5, .long x15_5), (0, .ref (g 100)), (1, .int (nI a0)), (2, .int (nI o0)), (3, .int (nI b0)), (4, .int v3)]) hx hb (oc_55 68 (aq_19 shX12_byLot_49) ub_11) hl (ltb rfl) rfl (fun ls hl => ?_)
          have lp_70 : ∀ (n : Nat) (x70_9 : Int64) (x70_11 : Int64) , x70_11.toInt.natAbs < n → ((¬ x70_9 = 0 ∨ ¬ x70_11 = 0) ∧ (GC (hsum (tR a0 o0 (cn 2)) b0 (i15 - b0)) (bz (cn 2) (nI a0)) x70_9 x70_11)) → ∀ ls : Array Slot, lv_has ls 15 [(11, .long x70_11), (9, .long x70_9), (7, .long (lN (bz (cn 2) (nI a0)))), (5, .long x15_5), (0, .ref (g 100)), (1, .int (nI a0)), (2, .int (nI o0)), (3, .int (nI b0)), (4, .int v3)] → W p l e (RM 1 0 0) s m ([.ref (g 100), .int (nI a0), .int (nI o0), .int (nI b0), .int v3]).toArray below meth c s.heap [] 0 0 (MQ below (vp_Sl (fun r => ODM a0 o0 b0 (cn 2) v3 r)) ([.ref (g 100), .int (nI a0), .int (nI o0), .int (nI b0), .int v3]).toArray s 0 0 (fun _ => False)) (F0 m 70 ls []) := by
            intro n70
            induction n70 with
            | zero => intros; (first | omega | (have zz0 := Hid.u hi_cn; omega))
            | succ n70 ih70 =>
              intro x70_9 x70_11 hmu70 hinv70 ls hl
              obtain ⟨hx70_0, hx70_1⟩ := hinv70
              refine lv_lload hx hb (oc_22 70 (aq_21 shX12_byLot_49) ub_11) (lvA0 hl) ?_
              refine lv_lconst (v := 0) hx hb (oc_9 72 (aq_23 shX12_byLot_49)) (by decide) ?_
              refine W.lcmp hx hb (oc_148 73 shX12_byLot_73) ?_
              refine lv_topi (fun y_5 ey_5 => ?_)
              have zy_5 : y_5 = 0 ↔ x70_11 = 0 := lcmp0 ey_5
              refine lv_if_eq (tgt := 95) hx hb (oc_153 74 (aq_1 shX12_byLot_73) sgw_0_21) rfl (fun c_6 => ?_) (fun c_6 => ?_)
              ·
                have tc_6 : (y_5.toInt : Int) = 0 := congrArg Int32.toInt c_6
                have hxx : ¬ x70_9 = 0 := hx70_0.resolve_right (fun q => q (Iff.mp (by assumption) (by assumption)))
                refine lv_iload hx hb (oc_21 95 (aq_22 shX12_byLot_73) ub_4) (lvA8 hl) ?_
                refine lv_if_ne (tgt := 108) hx hb (oc_154 97 shX12_byLot_97 sgw_0_11) rfl (fun c_7 => ?_) (fun c_7 => ?_)
                ·
                  have tc_7 : (v3.toInt : Int) ≠ 0 := fun q => c_7 (Int32.toInt_inj.mp q)
                  refine lv_lload hx hb (oc_22 108 (aq_11 shX12_byLot_97) ub_7) (lvA2 hl) ?_
                  refine lv_lload hx hb (oc_22 110 (aq_13 shX12_byLot_97) ub_9) (lvA1 hl) ?_
                  refine lv_ldiv hx hb (oc_109 112 (aq_15 shX12_byLot_97)) hxx ?_
                  exact W.lret (v := ((lN (bz (cn 2) (nI a0))) / x70_9)) hx hb hr (fun t ht hW => ⟨((lN (bz (cn 2) (nI a0))) / x70_9), rfl, (Or.inr (Or.inr ⟨by assumption, by assumption, by have e9 : i15 = o0 + 1 := (by (first | omega | (have zz0 := Hid.u hi_cn; omega))); have g9 := GC.fin hx70_1 (Iff.mp (by assumption) (by assumption)); rw [g9, e9]; exact dvS (bz_lt (by (first | omega | (have zz0 := Hid.u hi_cn; omega)))) (by rw [bz_n (by (first | omega | (have zz0 := Hid.u hi_cn; omega)))]; exact bn_pos _ _ ha) (bz_lt (by (first | omega | (have zz0 := Hid.u hi_cn; omega))))⟩)), ht⟩) (fun _ h => absurd h List.not_mem_nil) dX12_byLot_113
                ·
                  have tc_7 : (v3.toInt : Int) = 0 := congrArg Int32.toInt c_7
                  refine lv_lload hx hb (oc_22 100 (aq_3 shX12_byLot_97) ub_5) (lvA3 hl) ?_
                  refine lv_lload hx hb (oc_22 102 (aq_5 shX12_byLot_97) ub_9) (lvA1 hl) ?_
                  refine lv_ldiv hx hb (oc_109 104 (aq_7 shX12_byLot_97)) hxx ?_
                  refine lv_goto (tgt := 113) hx hb (oc_167 105 (aq_8 shX12_byLot_97) sgw_0_8) rfl ?_
                  exact W.lret (v := (x15_5 / x70_9)) hx hb hr (fun t ht hW => ⟨(x15_5 / x70_9), rfl, (Or.inr (Or.inl ⟨by assumption, by assumption, by have e9 : i15 = o0 + 1 := (by (first | omega | (have zz0 := Hid.u hi_cn; omega))); have g9 := GC.fin hx70_1 (Iff.mp (by assumption) (by assumption)); rw [g9, hx15_0, e9]; exact dvS (hs_lt (by (first | omega | (have zz0 := Hid.u hi_cn; omega))) (fun j hj => tR_K (by (first | omega | (have zz0 := Hid.u hi_cn; omega))) ha ho (by (first | omega | (have zz0 := Hid.u hi_cn; omega))))) (by rw [bz_n (by (first | omega | (have zz0 := Hid.u hi_cn; omega)))]; exact bn_pos _ _ ha) (bz_lt (by (first | omega | (have zz0 := Hid.u hi_cn; omega))))⟩)), ht⟩) (fun _ h => absurd h List.not_mem_nil) dX12_byLot_113
              ·
                have tc_6 : (y_5.toInt : Int) ≠ 0 := fun q => c_6 (Int32.toInt_inj.mp q)
                refine lv_lload hx hb (oc_22 77 (aq_4 shX12_byLot_73) ub_9) (lvA1 hl) ?_
                refine lv_lload hx hb (oc_22 79 (aq_6 shX12_byLot_73) ub_11) (lvA0 hl) ?_
                refine lv_lrem hx hb (oc_113 81 (aq_8 shX12_byLot_73)) (fun q => absurd (Iff.mpr (by assumption) q) (by assumption)) ?_
                have hlt := lrem_lt (x := x70_9) (y := x70_11) (fun q => absurd (Iff.mpr (by assumption) q) (by assumption))
                refine lv_lstore (lv' := [(13, .long (x70_9 - x70_9 / x70_11 * x70_11)), (11, .long x70_11), (9, .long x70_9), (7, .long (lN (bz (cn 2) (nI a0)))), (5, .long x15_5), (0, .ref (g 100)), (1, .int (nI a0)), (2, .int (nI o0)), (3, .int (nI b0)), (4, .int v3)]) hx hb (oc_55 82 (aq_9 shX12_byLot_73) ub_13) hl (ltb rfl) rfl (fun ls hl => ?_)
                refine lv_lload hx hb (oc_22 84 (aq_11 shX12_byLot_73) ub_11) (lvA1 hl) ?_
                refine lv_lstore (lv' := [(9, .long x70_11), (13, .long (x70_9 - x70_9 / x70_11 * x70_11)), (11, .long x70_11), (7, .long (lN (bz (cn 2) (nI a0)))), (5, .long x15_5), (0, .ref (g 100)), (1, .int (nI a0)), (2, .int (nI o0)), (3, .int (nI b0)), (4, .int v3)]) hx hb (oc_55 86 (aq_13 shX12_byLot_73) ub_9) hl (ltb rfl) rfl (fun ls hl => ?_)
                refine lv_lload hx hb (oc_22 88 (aq_15 shX12_byLot_73) ub_13) (lvA1 hl) ?_
                refine lv_lstore (lv' := [(11, .long (x70_9 - x70_9 / x70_11 * x70_11)), (9, .long x70_11), (13, .long (x70_9 - x70_9 / x70_11 * x70_11)), (7, .long (lN (bz (cn 2) (nI a0)))), (5, .long x15_5), (0, .ref (g 100)), (1, .int (nI a0)), (2, .int (nI o0)), (3, .int (nI b0)), (4, .int v3)]) hx hb (oc_55 90 (aq_17 shX12_byLot_73) ub_11) hl (ltb rfl) rfl (fun ls hl => ?_)
                refine lv_goto (tgt := 70) hx hb (oc_167 92 (aq_19 shX12_byLot_73) sgw_255_234) rfl ?_
                exact ih70 x70_11 (x70_9 - x70_9 / x70_11 * x70_11) (by (first | omega | (have zz0 := Hid.u hi_cn; omega))) ⟨(Or.inl (fun q => absurd (Iff.mpr (by assumption) q) (by assumption))), (GC.st hx70_1 (fun q => absurd (Iff.mpr (by assumption) q) (by assumption)))⟩ ls (lv_sub hl [0, 1, 3, 4, 5, 6, 7, 8, 9] rfl)
          exact lp_70 _ x15_5 (lN (bz (cn 2) (nI a0))) (Nat.lt_succ_self _) ⟨(Or.inr hz), ⟨_, _, hx15_0, rfl, hs_lt (by (first | omega | (have zz0 := Hid.u hi_cn; omega))) (fun j hj => tR_K (by (first | omega | (have zz0 := Hid.u hi_cn; omega))) ha ho (by (first | omega | (have zz0 := Hid.u hi_cn; omega)))), bz_lt (by (first | omega | (have zz0 := Hid.u hi_cn; omega))), rfl⟩⟩ ls (lv_sub hl [0, 1, 2, 3, 4, 5, 6, 7, 8] rfl)
        ·
          have tc_2 : ((nI i15).toInt : Int) ≤ (nI o0).toInt := Int32.le_iff_toInt_le.mp (Int32.not_lt.mp c_2)
          refine lv_lload hx hb (oc_22 21 (aq_21 shX12_byLot_0) ub_5) (lvA1 hl) ?_
          refine lv_iload_n hx hb (oc_28 23 (aq_23 shX12_byLot_0)) rfl (lvA4 hl) ?_
          refine lv_iload hx hb (oc_21 24 shX12_byLot_24 ub_7) (lvA0 hl) ?_
          refine vp_callSl (runS_r (As := [.int (nI o0), .int (nI i15)]) (rest := [.long x15_5]) S (q_choose9 l D cI cB cZ o0 (nI i15) (by (first | omega | (have zz0 := Hid.u hi_cn; omega)))) kS_RX12_344 hK hP [] rfl ⟨Nat.le_of_ble_eq_true rfl, Nat.le_of_ble_eq_true rfl⟩ ⟨Nat.le_of_ble_eq_true rfl, Nat.le_of_ble_eq_true rfl⟩ rfl hl.1 rfl (Nat.le_of_ble_eq_true rfl) (oc_184 26 (aq_2 shX12_byLot_24) uw_1_88)) (fun r_8 h_9 => ?_)
          subst h_9
          refine lv_aload_n hx hb (oc_42 29 (aq_5 shX12_byLot_24)) rfl (lvA2 hl) ?_
          refine gM_208 S hK hP (v := .int (nI (cn 2))) rfl (oc_180 30 (aq_6 shX12_byLot_24) uw_0_208) ?_
          refine lv_iload_n hx hb (oc_28 33 (aq_9 shX12_byLot_24)) rfl (lvA4 hl) ?_
          refine lv_isub hx hb (oc_100 34 (aq_10 shX12_byLot_24)) ?_
          refine lv_topi (fun y_10 ey_10 => ?_)
          obtain rfl : y_10 = (nI (cn 2 - o0)) := ey_10.trans (nI_sub (by (first | omega | (have zz0 := Hid.u hi_cn; omega))))
          refine lv_iload_n hx hb (oc_27 35 (aq_11 shX12_byLot_24)) rfl (lvA3 hl) ?_
          refine lv_iload hx hb (oc_21 36 (aq_12 shX12_byLot_24) ub_7) (lvA0 hl) ?_
          refine lv_isub hx hb (oc_100 38 (aq_14 shX12_byLot_24)) ?_
          refine vp_callSl (runS_r (As := [.int (nI (cn 2 - o0)), .int ((nI a0) - (nI i15))]) (rest := [.long (lN (bz o0 (nI i15))), .long x15_5]) S (q_choose9 l D cI cB cZ (cn 2 - o0) ((nI a0) - (nI i15)) (by (first | omega | (have zz0 := Hid.u hi_cn; omega)))) kS_RX12_344 hK hP [] rfl ⟨Nat.le_of_ble_eq_true rfl, Nat.le_of_ble_eq_true rfl⟩ ⟨Nat.le_of_ble_eq_true rfl, Nat.le_of_ble_eq_true rfl⟩ rfl hl.1 rfl (Nat.le_of_ble_eq_true rfl) (oc_184 39 (aq_15 shX12_byLot_24) uw_1_88)) (fun r_11 h_12 => ?_)
          subst h_12
          refine lv_lmul hx hb (oc_105 42 (aq_18 shX12_byLot_24)) ?_
          refine lv_topl (fun y_13 ey_13 => ?_)
          obtain rfl : y_13 = (lN ((bz o0 (nI i15)) * (bz (cn 2 - o0) ((nI a0) - (nI i15))))) := ey_13.trans (lN_mul _ _)
          refine lv_ladd hx hb (oc_97 43 (aq_19 shX12_byLot_24)) ?_
          refine lv_lstore (lv' := [(5, .long (x15_5 + (lN ((bz o0 (nI i15)) * (bz (cn 2 - o0) ((nI a0) - (nI i15))))))), (7, .int (nI i15)), (0, .ref (g 100)), (1, .int (nI a0)), (2, .int (nI o0)), (3, .int (nI b0)), (4, .int v3)]) hx hb (oc_55 44 (aq_20 shX12_byLot_24) ub_5) hl (ltb rfl) rfl (fun ls hl => ?_)
          refine lv_iinc (v := (nI (i15 + 1))) (lv' := [(7, .int (nI (i15 + 1))), (5, .long (x15_5 + (lN ((bz o0 (nI i15)) * (bz (cn 2 - o0) ((nI a0) - (nI i15))))))), (0, .ref (g 100)), (1, .int (nI a0)), (2, .int (nI o0)), (3, .int (nI b0)), (4, .int v3)]) hx hb (oc_132 46 (aq_22 shX12_byLot_24) ub_7 sgb_1) hl (k := 1) rfl (nI_1 _) (ltb rfl) rfl (fun ls hl => ?_)
          refine lv_goto (tgt := 15) hx hb (oc_167 49 shX12_byLot_49 sgw_255_222) rfl ?_
          exact ih15 (i15 + 1) (x15_5 + (lN ((bz o0 (nI i15)) * (bz (cn 2 - o0) ((nI a0) - (nI i15)))))) (by (first | omega | (have zz0 := Hid.u hi_cn; omega))) ⟨(by (first | omega | (have zz0 := Hid.u hi_cn; omega))), (hs_1 (by (first | omega | (have zz0 := Hid.u hi_cn; omega))) hx15_0 rfl)⟩ ls (lv_sub hl [0, 1, 2, 3, 4, 5, 6] rfl)
    exact lp_15 _ b0 0 (Nat.lt_succ_self _) ⟨(by (first | omega | (have zz0 := Hid.u hi_cn; omega))), (by rw [Nat.sub_self] <;> rfl)⟩ ls (lv_sub hl [0, 1, 2, 3, 4, 5, 6] rfl)
  ·
    have tc_1 : (v3.toInt : Int) = 2 := congrArg Int32.toInt c_1
    refine lv_iload_n hx hb (oc_29 6 (aq_6 shX12_byLot_0)) rfl (lvA3 hl) ?_
    refine lv_i2l (v := (lN b0)) hx hb (oc_133 7 (aq_7 shX12_byLot_0)) (nI_l (by (first | omega | (have zz0 := Hid.u hi_cn; omega)))) ?_
    exact W.lret (v := (lN b0)) hx hb hr (fun t ht hW => ⟨(lN b0), rfl, (Or.inl ⟨by assumption, rfl⟩), ht⟩) (fun _ h => absurd h List.not_mem_nil) (oc_173 8 (aq_8 shX12_byLot_0))
set_option maxRecDepth 100000 in
set_option maxHeartbeats 4000000 in
theorem q_Echeat (l : Launch) (D : va_G) (cI cB cZ : ClassId) (zz qq vv : Nat) (bt : Nat → Int32) (g : Nat → Nat) (ad : Nat → Nat → Nat) (cn : Nat → Nat) (In : Nat → Int32) (Fn : Nat → Nat → Int32) (v0 v1 v2 : Int32) (hB : CBX cn) : Met l yX11_cheat (CWS yX11_cheat cX11_cheat 10 (some .long)) (RM 4 0 0) (PBrx [.ref (g 0), .int v0, .int v1, .int v2] D cI cB cZ zz qq vv bt (wX cI (D.1 99) zz g ad cn In Fn)) (vp_Sl (fun r => ((0 ≤ v0.toInt ∧ v0.toInt < (cn 10 : Int) ∧ 0 ≤ v1.toInt ∧ v1.toInt ≤ 1000 ∧ 0 ≤ v2.toInt ∧ v2.toInt ≤ 2) ∧ ODX (sN (fun i9 => if v1.toInt ≤ ((Fn 123) i9).toInt then 1 else 0) (cn 11)) (sN (fun i9 => if (Fn 120) i9 = v0 then 1 else 0) (cn 11)) (sN (fun i9 => if (Fn 120) i9 = v0 ∧ v1.toInt ≤ ((Fn 123) i9).toInt then 1 else 0) (cn 11)) (cn 11) v2 r) ∨ (¬ (0 ≤ v0.toInt ∧ v0.toInt < (cn 10 : Int) ∧ 0 ≤ v1.toInt ∧ v1.toInt ≤ 1000 ∧ 0 ≤ v2.toInt ∧ v2.toInt ≤ 2) ∧ r = -1))) 0 0 (fun _ => False) := by
  refine en_rx rfl pn_RX11 (Nat.le_of_ble_eq_true rfl) (fun p e s m below meth c hx hb hml hown S hr hlocks hnm hP hK hXS hS ls hl => ?_)
  have hl : lv_has ls 10 [(0, .ref (g 0)), (1, .int v0), (2, .int v1), (3, .int v2)] := hl
  have hb_cn : Hid (CBX cn) := hB
  replace hB : CBXh cn := hB
  refine lv_aload_n hx hb (oc_42 0 shX11_cheat_0) rfl (lvA0 hl) ?_
  refine lv_iload_n hx hb (oc_27 1 (aq_1 shX11_cheat_0)) rfl (lvA1 hl) ?_
  refine va_csq (runV_rxa (As := [.int v0]) (rest := []) S (q_XkitchenAt l D cI cB cZ zz qq vv bt g ad cn In Fn v0 hB) kV_RX11_114 hK hXS hS hP 0 xo_0 rfl rfl ⟨Nat.le_of_ble_eq_true rfl, Nat.le_of_ble_eq_true rfl⟩ ⟨Nat.le_of_ble_eq_true rfl, Nat.le_of_ble_eq_true rfl⟩ rfl hl.1 rfl (Nat.le_of_ble_eq_true rfl) (oc_182 2 (aq_2 shX11_cheat_0) uw_0_114)) (fun r_1 h_2 => ?_)
  rcases h_2 with ⟨mr_1, er_1, hr_1, rfl⟩ | ⟨hr_1, rfl⟩
  ·
    refine lv_ifnull hx hb dX11_cheat_5 ?_
    refine lv_iload_n hx hb (oc_28 8 (aq_8 shX11_cheat_0)) rfl (lvA2 hl) ?_
    refine lv_iconst (v := 0) hx hb (oc_3 9 (aq_9 shX11_cheat_0)) kic_0 ?_
    refine lv_sipush (v := 1000) hx hb (oc_17 10 (aq_10 shX11_cheat_0) sgw_3_232) (by decide) ?_
    refine vp_callSi (runS_r (As := [.int v1, .int 0, .int 1000]) (rest := []) S (q_l_within l D cI cB cZ v1 0 1000) kS_RX11_80 hK hP [] rfl ⟨Nat.le_of_ble_eq_true rfl, Nat.le_of_ble_eq_true rfl⟩ ⟨Nat.le_of_ble_eq_true rfl, Nat.le_of_ble_eq_true rfl⟩ rfl hl.1 rfl (Nat.le_of_ble_eq_true rfl) (oc_184 13 (aq_13 shX11_cheat_0) uw_0_80)) (fun r_3 h_4 => ?_)
    rcases h_4 with ⟨rfl, h_4⟩ | ⟨rfl, h_4⟩
    ·
      have h_4 : 0 ≤ v1.toInt ∧ v1.toInt ≤ 1000 := h_4
      refine lv_if_eq (tgt := 28) hx hb dX11_cheat_16 rfl (fun h => absurd h cq_eq_1_0) (fun _ => ?_)
      refine lv_iload_n hx hb (oc_29 19 (aq_19 shX11_cheat_0)) rfl (lvA3 hl) ?_
      refine lv_iconst (v := 0) hx hb (oc_3 20 (aq_20 shX11_cheat_0)) kic_0 ?_
      refine lv_iconst (v := 2) hx hb (oc_5 21 (aq_21 shX11_cheat_0)) kic_2 ?_
      refine vp_callSi (runS_r (As := [.int v2, .int 0, .int 2]) (rest := []) S (q_l_within l D cI cB cZ v2 0 2) kS_RX11_80 hK hP [] rfl ⟨Nat.le_of_ble_eq_true rfl, Nat.le_of_ble_eq_true rfl⟩ ⟨Nat.le_of_ble_eq_true rfl, Nat.le_of_ble_eq_true rfl⟩ rfl hl.1 rfl (Nat.le_of_ble_eq_true rfl) (oc_184 22 (aq_22 shX11_cheat_0) uw_0_80)) (fun r_5 h_6 => ?_)
      rcases h_6 with ⟨rfl, h_6⟩ | ⟨rfl, h_6⟩
      ·
        have h_6 : 0 ≤ v2.toInt ∧ v2.toInt ≤ 2 := h_6
        refine lv_if_ne (tgt := 32) hx hb dX11_cheat_25 rfl (fun _ => ?_) (fun h => absurd h cq_eq_1_0)
        refine lv_iconst (v := 0) hx hb (oc_3 32 (aq_7 shX11_cheat_25)) kic_0 ?_
        refine lv_istore (lv' := [(4, .int 0), (0, .ref (g 0)), (1, .int v0), (2, .int v1), (3, .int v2)]) hx hb (oc_54 33 (aq_8 shX11_cheat_25) ub_4) hl (ltb rfl) rfl (fun ls hl => ?_)
        refine lv_iconst (v := 0) hx hb (oc_3 35 (aq_10 shX11_cheat_25)) kic_0 ?_
        refine lv_istore (lv' := [(5, .int 0), (4, .int 0), (0, .ref (g 0)), (1, .int v0), (2, .int v1), (3, .int v2)]) hx hb (oc_54 36 (aq_11 shX11_cheat_25) ub_5) hl (ltb rfl) rfl (fun ls hl => ?_)
        refine lv_iconst (v := 0) hx hb (oc_3 38 (aq_13 shX11_cheat_25)) kic_0 ?_
        refine lv_istore (lv' := [(6, .int 0), (5, .int 0), (4, .int 0), (0, .ref (g 0)), (1, .int v0), (2, .int v1), (3, .int v2)]) hx hb (oc_54 39 (aq_14 shX11_cheat_25) ub_6) hl (ltb rfl) rfl (fun ls hl => ?_)
        refine lv_iconst (v := 0) hx hb (oc_3 41 (aq_16 shX11_cheat_25)) kic_0 ?_
        refine lv_istore (lv' := [(7, .int 0), (6, .int 0), (5, .int 0), (4, .int 0), (0, .ref (g 0)), (1, .int v0), (2, .int v1), (3, .int v2)]) hx hb (oc_54 42 (aq_17 shX11_cheat_25) ub_7) hl (ltb rfl) rfl (fun ls hl => ?_)
        have lp_44 : ∀ (n : Nat) (i44 : Nat) (n3 : Nat) (n4 : Nat) (n5 : Nat) , cn 11 - i44 < n → (i44 ≤ cn 11 ∧ (n3 ≤ i44 ∧ n4 ≤ i44 ∧ n5 ≤ n3 ∧ n5 ≤ n4) ∧ (n3 = sN (fun i9 => if v1.toInt ≤ ((Fn 123) i9).toInt then 1 else 0) i44) ∧ (n4 = sN (fun i9 => if (Fn 120) i9 = v0 then 1 else 0) i44) ∧ (n5 = sN (fun i9 => if (Fn 120) i9 = v0 ∧ v1.toInt ≤ ((Fn 123) i9).toInt then 1 else 0) i44)) → ∀ ls : Array Slot, lv_has ls 10 [(7, .int (nI i44)), (6, .int (nI n5)), (5, .int (nI n4)), (4, .int (nI n3)), (0, .ref (g 0)), (1, .int v0), (2, .int v1), (3, .int v2)] → W p l e (RM 4 0 0) s m ([.ref (g 0), .int v0, .int v1, .int v2]).toArray below meth c s.heap [] 0 0 (MQ below (vp_Sl (fun r => ((0 ≤ v0.toInt ∧ v0.toInt < (cn 10 : Int) ∧ 0 ≤ v1.toInt ∧ v1.toInt ≤ 1000 ∧ 0 ≤ v2.toInt ∧ v2.toInt ≤ 2) ∧ ODX (sN (fun i9 => if v1.toInt ≤ ((Fn 123) i9).toInt then 1 else 0) (cn 11)) (sN (fun i9 => if (Fn 120) i9 = v0 then 1 else 0) (cn 11)) (sN (fun i9 => if (Fn 120) i9 = v0 ∧ v1.toInt ≤ ((Fn 123) i9).toInt then 1 else 0) (cn 11)) (cn 11) v2 r) ∨ (¬ (0 ≤ v0.toInt ∧ v0.toInt < (cn 10 : Int) ∧ 0 ≤ v1.toInt ∧ v1.toInt ≤ 1000 ∧ 0 ≤ v2.toInt ∧ v2.toInt ≤ 2) ∧ r = -1))) ([.ref (g 0), .int v0, .int v1, .int v2]).toArray s 0 0 (fun _ => False)) (F0 m 44 ls []) := by
          intro n44
          induction n44 with
          | zero => intros; (first | omega | (have zz0 := Hid.u hb_cn; omega))
          | succ n44 ih44 =>
            intro i44 n3 n4 n5 hmu44 hinv44 ls hl
            obtain ⟨hr44, hx44_0, hx44_1, hx44_2, hx44_3⟩ := hinv44
            have ti44 : (nI i44).toInt = (i44 : Int) := nI_toInt (by (first | omega | (have zz0 := Hid.u hb_cn; omega)))
            refine lv_iload hx hb (oc_21 44 (aq_19 shX11_cheat_25) ub_7) (lvA0 hl) ?_
            refine lv_aload_n hx hb (oc_42 46 (aq_21 shX11_cheat_25)) rfl (lvA4 hl) ?_
            refine gf_RX11_65 S hK hP 0 xo_0 (v := .ref (g 11)) rfl (oc_180 47 (aq_22 shX11_cheat_25) uw_0_65) ?_
            refine vp_callSi (runV_r (As := []) (rest := [.int (nI i44)]) S (q_l_size l D cI cB cZ (g 11) (if (cn 11) = 0 then zz else ad 2 1) (In 11) (nI (cn 11))) kV_RX11_84 hK hP [25] (one_is xo_25) 25 xo_25 rfl rfl ⟨Nat.le_of_ble_eq_true rfl, Nat.le_of_ble_eq_true rfl⟩ ⟨Nat.le_of_ble_eq_true rfl, Nat.le_of_ble_eq_true rfl⟩ rfl hl.1 rfl (Nat.le_of_ble_eq_true rfl) (oc_182 50 shX11_cheat_50 uw_0_84)) (fun r_7 h_8 => ?_)
            subst h_8
            have : (nI (cn 11)).toInt = (((cn 11) : Nat) : Int) := nI_toInt (by (first | omega | (have zz0 := Hid.u hb_cn; omega)))
            refine lv_icmp_ge (tgt := 150) hx hb (oc_162 53 (aq_3 shX11_cheat_50) sgw_0_97) rfl (fun c_9 => ?_) (fun c_9 => ?_)
            ·
              have tc_9 : ((nI (cn 11)).toInt : Int) ≤ (nI i44).toInt := Int32.le_iff_toInt_le.mp c_9
              refine lv_iload hx hb (oc_21 150 shX11_cheat_150 ub_4) (lvA3 hl) ?_
              refine lv_iload hx hb (oc_21 152 (aq_2 shX11_cheat_150) ub_5) (lvA2 hl) ?_
              refine lv_iload hx hb (oc_21 154 (aq_4 shX11_cheat_150) ub_6) (lvA1 hl) ?_
              refine lv_aload_n hx hb (oc_42 156 (aq_6 shX11_cheat_150)) rfl (lvA4 hl) ?_
              refine gf_RX11_65 S hK hP 0 xo_0 (v := .ref (g 11)) rfl (oc_180 157 (aq_7 shX11_cheat_150) uw_0_65) ?_
              refine vp_callSi (runV_r (As := []) (rest := [.int (nI n5), .int (nI n4), .int (nI n3)]) S (q_l_size l D cI cB cZ (g 11) (if (cn 11) = 0 then zz else ad 2 1) (In 11) (nI (cn 11))) kV_RX11_84 hK hP [25] (one_is xo_25) 25 xo_25 rfl rfl ⟨Nat.le_of_ble_eq_true rfl, Nat.le_of_ble_eq_true rfl⟩ ⟨Nat.le_of_ble_eq_true rfl, Nat.le_of_ble_eq_true rfl⟩ rfl hl.1 rfl (Nat.le_of_ble_eq_true rfl) (oc_182 160 (aq_10 shX11_cheat_150) uw_0_84)) (fun r_10 h_11 => ?_)
              subst h_11
              refine lv_iload_n hx hb (oc_29 163 (aq_13 shX11_cheat_150)) rfl (lvA7 hl) ?_
              refine vp_callSl (runS_r (As := [.int (nI n3), .int (nI n4), .int (nI n5), .int (nI (cn 11)), .int v2]) (rest := []) S (q_Eodds l D cI cB cZ n3 n4 n5 (cn 11) v2 (by (first | omega | (have zz0 := Hid.u hb_cn; omega))) (by (first | omega | (have zz0 := Hid.u hb_cn; omega))) (by (first | omega | (have zz0 := Hid.u hb_cn; omega))) ⟨by (first | omega | (have zz0 := Hid.u hb_cn; omega)), by (first | omega | (have zz0 := Hid.u hb_cn; omega))⟩) kS_RX11_256 hK hP [] rfl ⟨Nat.le_of_ble_eq_true rfl, Nat.le_of_ble_eq_true rfl⟩ ⟨Nat.le_of_ble_eq_true rfl, Nat.le_of_ble_eq_true rfl⟩ rfl hl.1 rfl (Nat.le_of_ble_eq_true rfl) (oc_184 164 (aq_14 shX11_cheat_150) uw_1_0)) (fun r_12 h_13 => ?_)
              exact W.lret (v := r_12) hx hb hr (fun t ht hW => ⟨r_12, rfl, (Or.inl ⟨by (first | omega | (have zz0 := Hid.u hb_cn; omega)), by have e9 : i44 = cn 11 := (by (first | omega | (have zz0 := Hid.u hb_cn; omega))); have h9 := h_13; rw [hx44_1, hx44_2, hx44_3, e9] at h9; exact h9⟩), ht⟩) (fun _ h => absurd h List.not_mem_nil) (oc_173 167 (aq_17 shX11_cheat_150))
            ·
              have tc_9 : ((nI i44).toInt : Int) < (nI (cn 11)).toInt := Int32.lt_iff_toInt_lt.mp (Int32.not_le.mp c_9)
              refine lv_aload_n hx hb (oc_42 56 (aq_6 shX11_cheat_50)) rfl (lvA4 hl) ?_
              refine gf_RX11_65 S hK hP 0 xo_0 (v := .ref (g 11)) rfl (oc_180 57 (aq_7 shX11_cheat_50) uw_0_65) ?_
              refine lv_iload hx hb (oc_21 60 (aq_10 shX11_cheat_50) ub_7) (lvA0 hl) ?_
              refine va_csq (runV_rx (As := [.int (nI i44)]) (rest := []) S (q_l_get l D cI cB cZ zz qq vv bt (g 11) (ad 2 1) (cn 21) (cn 11) i44 (ad 11 i44) (In 11) (fun i => if i < (cn 11) then some (ad 11 i) else none) (by (first | omega | (have zz0 := Hid.u hb_cn; omega))) (if_pos (by (first | omega | (have zz0 := Hid.u hb_cn; omega)))) (by (first | omega | (have zz0 := Hid.u hb_cn; omega))) (by (first | omega | (have zz0 := Hid.u hb_cn; omega)))) kV_RX11_87 hK hXS hS hP _ (two_is (xl_1 (by (first | omega | (have zz0 := Hid.u hb_cn; omega)))) (xf_14 (k := 0) (by (first | omega | (have zz0 := Hid.u hb_cn; omega))))) (va_recv hK.1 hP (ci := 0) rfl xo_25) ⟨Nat.le_of_ble_eq_true rfl, Nat.le_of_ble_eq_true rfl⟩ ⟨Nat.le_of_ble_eq_true rfl, Nat.le_of_ble_eq_true rfl⟩ rfl hl.1 rfl (Nat.le_of_ble_eq_true rfl) (oc_182 62 (aq_12 shX11_cheat_50) uw_0_87)) (fun r_14 h_15 => ?_)
              subst h_15
              have kf_1 : i44 < cn 11 := by (first | omega | (have zz0 := Hid.u hb_cn; omega))
              refine va_castS hx hb hown (S.2.2.2.2 _ (wk2_17 0 rfl rfl)) (xclass hK.1 (ci := 3) rfl) (va_recv hK.1 hP (ci := 3) rfl (xf_1 kf_1)) (oc_192 65 (aq_15 shX11_cheat_50) uw_0_93) ?_
              refine lv_astore (lv' := [(8, .ref (ad 11 i44)), (7, .int (nI i44)), (6, .int (nI n5)), (5, .int (nI n4)), (4, .int (nI n3)), (0, .ref (g 0)), (1, .int v0), (2, .int v1), (3, .int v2)]) hx hb (oc_58 68 (aq_18 shX11_cheat_50) ub_8) hl (ltb rfl) rfl (fun ls hl => ?_)
              refine lv_aload hx hb (oc_25 70 (aq_20 shX11_cheat_50) ub_8) (lvA0 hl) ?_
              refine gf_RX11_205 S hK hP _ (xf_1 kf_1) (v := .int ((Fn 123) i44)) rfl (oc_180 72 (aq_22 shX11_cheat_50) uw_0_205) ?_
              refine lv_iload_n hx hb (oc_28 75 shX11_cheat_75) rfl (lvA7 hl) ?_
              refine lv_icmp_lt (tgt := 83) hx hb (oc_161 76 (aq_1 shX11_cheat_75) sgw_0_7) rfl (fun c_16 => ?_) (fun c_16 => ?_)
              ·
                have tc_16 : (((Fn 123) i44).toInt : Int) < v1.toInt := Int32.lt_iff_toInt_lt.mp c_16
                refine lv_iconst (v := 0) hx hb (oc_3 83 (aq_8 shX11_cheat_75)) kic_0 ?_
                refine lv_istore (lv' := [(9, .int 0), (8, .ref (ad 11 i44)), (7, .int (nI i44)), (6, .int (nI n5)), (5, .int (nI n4)), (4, .int (nI n3)), (0, .ref (g 0)), (1, .int v0), (2, .int v1), (3, .int v2)]) hx hb dX11_cheat_84 hl (ltb rfl) rfl (fun ls hl => ?_)
                refine lv_iload hx hb dX11_cheat_86 (lvA5 hl) ?_
                refine lv_iload hx hb dX11_cheat_88 (lvA0 hl) ?_
                refine lv_if_eq (tgt := 97) hx hb dX11_cheat_90 rfl (fun _ => ?_) (fun h => absurd h cq_eq_0_0)
                refine lv_iconst (v := 0) hx hb (oc_3 97 (aq_22 shX11_cheat_75)) kic_0 ?_
                refine lv_iadd hx hb dX11_cheat_98 ?_
                refine lv_topi (fun y_17 ey_17 => ?_)
                obtain rfl : y_17 = (nI (n3 + 0)) := ey_17.trans (nI_add n3 0)
                refine lv_istore (lv' := [(4, .int (nI (n3 + 0))), (9, .int 0), (8, .ref (ad 11 i44)), (7, .int (nI i44)), (6, .int (nI n5)), (5, .int (nI n4)), (0, .ref (g 0)), (1, .int v0), (2, .int v1), (3, .int v2)]) hx hb dX11_cheat_99 hl (ltb rfl) rfl (fun ls hl => ?_)
                refine lv_iload hx hb dX11_cheat_101 (lvA5 hl) ?_
                refine lv_aload hx hb dX11_cheat_103 (lvA2 hl) ?_
                refine gf_RX11_211 S hK hP _ (xf_1 kf_1) (v := .int ((Fn 120) i44)) rfl dX11_cheat_105 ?_
                refine lv_iload_n hx hb dX11_cheat_108 rfl (lvA7 hl) ?_
                refine lv_icmp_ne (tgt := 116) hx hb dX11_cheat_109 rfl (fun c_18 => ?_) (fun c_18 => ?_)
                ·
                  have tc_18 : (((Fn 120) i44).toInt : Int) ≠ v0.toInt := fun q => c_18 (Int32.toInt_inj.mp q)
                  refine lv_iconst (v := 0) hx hb dX11_cheat_116 kic_0 ?_
                  refine lv_iadd hx hb dX11_cheat_117 ?_
                  refine lv_topi (fun y_19 ey_19 => ?_)
                  obtain rfl : y_19 = (nI (n4 + 0)) := ey_19.trans (nI_add n4 0)
                  refine lv_istore (lv' := [(5, .int (nI (n4 + 0))), (4, .int (nI (n3 + 0))), (9, .int 0), (8, .ref (ad 11 i44)), (7, .int (nI i44)), (6, .int (nI n5)), (0, .ref (g 0)), (1, .int v0), (2, .int v1), (3, .int v2)]) hx hb dX11_cheat_118 hl (ltb rfl) rfl (fun ls hl => ?_)
                  refine lv_iload hx hb dX11_cheat_120 (lvA5 hl) ?_
                  refine lv_aload hx hb dX11_cheat_122 (lvA3 hl) ?_
                  refine gf_RX11_211 S hK hP _ (xf_1 kf_1) (v := .int ((Fn 120) i44)) rfl dX11_cheat_124 ?_
                  refine lv_iload_n hx hb dX11_cheat_127 rfl (lvA7 hl) ?_
                  refine lv_icmp_ne (tgt := 140) hx hb dX11_cheat_128 rfl (fun c_20 => ?_) (fun c_20 => ?_)
                  ·
                    have tc_20 : (((Fn 120) i44).toInt : Int) ≠ v0.toInt := fun q => c_20 (Int32.toInt_inj.mp q)
                    refine lv_iconst (v := 0) hx hb dX11_cheat_140 kic_0 ?_
                    refine lv_iadd hx hb dX11_cheat_141 ?_
                    refine lv_topi (fun y_21 ey_21 => ?_)
                    obtain rfl : y_21 = (nI (n5 + 0)) := ey_21.trans (nI_add n5 0)
                    refine lv_istore (lv' := [(6, .int (nI (n5 + 0))), (5, .int (nI (n4 + 0))), (4, .int (nI (n3 + 0))), (9, .int 0), (8, .ref (ad 11 i44)), (7, .int (nI i44)), (0, .ref (g 0)), (1, .int v0), (2, .int v1), (3, .int v2)]) hx hb dX11_cheat_142 hl (ltb rfl) rfl (fun ls hl => ?_)
                    refine lv_iinc (v := (nI (i44 + 1))) (lv' := [(7, .int (nI (i44 + 1))), (6, .int (nI (n5 + 0))), (5, .int (nI (n4 + 0))), (4, .int (nI (n3 + 0))), (9, .int 0), (8, .ref (ad 11 i44)), (0, .ref (g 0)), (1, .int v0), (2, .int v1), (3, .int v2)]) hx hb dX11_cheat_144 hl (k := 5) rfl (nI_1 _) (ltb rfl) rfl (fun ls hl => ?_)
                    refine lv_goto (tgt := 44) hx hb dX11_cheat_147 rfl ?_
                    exact ih44 (i44 + 1) (n3 + 0) (n4 + 0) (n5 + 0) (by (first | omega | (have zz0 := Hid.u hb_cn; omega))) ⟨(by (first | omega | (have zz0 := Hid.u hb_cn; omega))), ⟨by (first | omega | (have zz0 := Hid.u hb_cn; omega)), by (first | omega | (have zz0 := Hid.u hb_cn; omega)), by (first | omega | (have zz0 := Hid.u hb_cn; omega)), by (first | omega | (have zz0 := Hid.u hb_cn; omega))⟩, (sN_n hx44_1 (if_neg (fun q9 => by (first | omega | (have zz0 := Hid.u hb_cn; omega))))), (sN_n hx44_2 (if_neg (fun q9 => by exact absurd q9 (by assumption)))), (sN_n hx44_3 (if_neg (fun q9 => by first | (first | omega | (have zz0 := Hid.u hb_cn; omega)) | exact absurd q9 (by assumption) | exact absurd q9.1 (by assumption) | (have q8 := q9.2; (first | omega | (have zz0 := Hid.u hb_cn; omega))))))⟩ ls (lv_sub hl [0, 1, 2, 3, 6, 7, 8, 9] rfl)
                  ·
                    have tc_20 : (((Fn 120) i44).toInt : Int) = v0.toInt := congrArg Int32.toInt c_20
                    refine lv_iload hx hb dX11_cheat_131 (lvA2 hl) ?_
                    refine lv_if_eq (tgt := 140) hx hb dX11_cheat_133 rfl (fun _ => ?_) (fun h => absurd h cq_eq_0_0)
                    refine lv_iconst (v := 0) hx hb dX11_cheat_140 kic_0 ?_
                    refine lv_iadd hx hb dX11_cheat_141 ?_
                    refine lv_topi (fun y_22 ey_22 => ?_)
                    obtain rfl : y_22 = (nI (n5 + 0)) := ey_22.trans (nI_add n5 0)
                    refine lv_istore (lv' := [(6, .int (nI (n5 + 0))), (5, .int (nI (n4 + 0))), (4, .int (nI (n3 + 0))), (9, .int 0), (8, .ref (ad 11 i44)), (7, .int (nI i44)), (0, .ref (g 0)), (1, .int v0), (2, .int v1), (3, .int v2)]) hx hb dX11_cheat_142 hl (ltb rfl) rfl (fun ls hl => ?_)
                    refine lv_iinc (v := (nI (i44 + 1))) (lv' := [(7, .int (nI (i44 + 1))), (6, .int (nI (n5 + 0))), (5, .int (nI (n4 + 0))), (4, .int (nI (n3 + 0))), (9, .int 0), (8, .ref (ad 11 i44)), (0, .ref (g 0)), (1, .int v0), (2, .int v1), (3, .int v2)]) hx hb dX11_cheat_144 hl (k := 5) rfl (nI_1 _) (ltb rfl) rfl (fun ls hl => ?_)
                    refine lv_goto (tgt := 44) hx hb dX11_cheat_147 rfl ?_
                    exact ih44 (i44 + 1) (n3 + 0) (n4 + 0) (n5 + 0) (by (first | omega | (have zz0 := Hid.u hb_cn; omega))) ⟨(by (first | omega | (have zz0 := Hid.u hb_cn; omega))), ⟨by (first | omega | (have zz0 := Hid.u hb_cn; omega)), by (first | omega | (have zz0 := Hid.u hb_cn; omega)), by (first | omega | (have zz0 := Hid.u hb_cn; omega)), by (first | omega | (have zz0 := Hid.u hb_cn; omega))⟩, (sN_n hx44_1 (if_neg (fun q9 => by (first | omega | (have zz0 := Hid.u hb_cn; omega))))), (sN_n hx44_2 (if_neg (fun q9 => by exact absurd q9 (by assumption)))), (sN_n hx44_3 (if_neg (fun q9 => by first | (first | omega | (have zz0 := Hid.u hb_cn; omega)) | exact absurd q9 (by assumption) | exact absurd q9.1 (by assumption) | (have q8 := q9.2; (first | omega | (have zz0 := Hid.u hb_cn; omega))))))⟩ ls (lv_sub hl [0, 1, 2, 3, 6, 7, 8, 9] rfl)
                ·
                  have tc_18 : (((Fn 120) i44).toInt : Int) = v0.toInt := congrArg Int32.toInt c_18
                  refine lv_iconst (v := 1) hx hb dX11_cheat_112 kic_1 ?_
                  refine lv_goto (tgt := 117) hx hb dX11_cheat_113 rfl ?_
                  refine lv_iadd hx hb dX11_cheat_117 ?_
                  refine lv_topi (fun y_23 ey_23 => ?_)
                  obtain rfl : y_23 = (nI (n4 + 1)) := ey_23.trans (nI_add n4 1)
                  refine lv_istore (lv' := [(5, .int (nI (n4 + 1))), (4, .int (nI (n3 + 0))), (9, .int 0), (8, .ref (ad 11 i44)), (7, .int (nI i44)), (6, .int (nI n5)), (0, .ref (g 0)), (1, .int v0), (2, .int v1), (3, .int v2)]) hx hb dX11_cheat_118 hl (ltb rfl) rfl (fun ls hl => ?_)
                  refine lv_iload hx hb dX11_cheat_120 (lvA5 hl) ?_
                  refine lv_aload hx hb dX11_cheat_122 (lvA3 hl) ?_
                  refine gf_RX11_211 S hK hP _ (xf_1 kf_1) (v := .int ((Fn 120) i44)) rfl dX11_cheat_124 ?_
                  refine lv_iload_n hx hb dX11_cheat_127 rfl (lvA7 hl) ?_
                  refine lv_icmp_ne (tgt := 140) hx hb dX11_cheat_128 rfl (fun c_24 => ?_) (fun c_24 => ?_)
                  ·
                    have tc_24 : (((Fn 120) i44).toInt : Int) ≠ v0.toInt := fun q => c_24 (Int32.toInt_inj.mp q)
                    refine lv_iconst (v := 0) hx hb dX11_cheat_140 kic_0 ?_
                    refine lv_iadd hx hb dX11_cheat_141 ?_
                    refine lv_topi (fun y_25 ey_25 => ?_)
                    obtain rfl : y_25 = (nI (n5 + 0)) := ey_25.trans (nI_add n5 0)
                    refine lv_istore (lv' := [(6, .int (nI (n5 + 0))), (5, .int (nI (n4 + 1))), (4, .int (nI (n3 + 0))), (9, .int 0), (8, .ref (ad 11 i44)), (7, .int (nI i44)), (0, .ref (g 0)), (1, .int v0), (2, .int v1), (3, .int v2)]) hx hb dX11_cheat_142 hl (ltb rfl) rfl (fun ls hl => ?_)
                    refine lv_iinc (v := (nI (i44 + 1))) (lv' := [(7, .int (nI (i44 + 1))), (6, .int (nI (n5 + 0))), (5, .int (nI (n4 + 1))), (4, .int (nI (n3 + 0))), (9, .int 0), (8, .ref (ad 11 i44)), (0, .ref (g 0)), (1, .int v0), (2, .int v1), (3, .int v2)]) hx hb dX11_cheat_144 hl (k := 5) rfl (nI_1 _) (ltb rfl) rfl (fun ls hl => ?_)
                    refine lv_goto (tgt := 44) hx hb dX11_cheat_147 rfl ?_
                    exact ih44 (i44 + 1) (n3 + 0) (n4 + 1) (n5 + 0) (by (first | omega | (have zz0 := Hid.u hb_cn; omega))) ⟨(by (first | omega | (have zz0 := Hid.u hb_cn; omega))), ⟨by (first | omega | (have zz0 := Hid.u hb_cn; omega)), by (first | omega | (have zz0 := Hid.u hb_cn; omega)), by (first | omega | (have zz0 := Hid.u hb_cn; omega)), by (first | omega | (have zz0 := Hid.u hb_cn; omega))⟩, (sN_n hx44_1 (if_neg (fun q9 => by (first | omega | (have zz0 := Hid.u hb_cn; omega))))), (sN_y hx44_2 (if_pos (by assumption))), (sN_n hx44_3 (if_neg (fun q9 => by first | (first | omega | (have zz0 := Hid.u hb_cn; omega)) | exact absurd q9 (by assumption) | exact absurd q9.1 (by assumption) | (have q8 := q9.2; (first | omega | (have zz0 := Hid.u hb_cn; omega))))))⟩ ls (lv_sub hl [0, 1, 2, 3, 6, 7, 8, 9] rfl)
                  ·
                    have tc_24 : (((Fn 120) i44).toInt : Int) = v0.toInt := congrArg Int32.toInt c_24
                    refine lv_iload hx hb dX11_cheat_131 (lvA2 hl) ?_
                    refine lv_if_eq (tgt := 140) hx hb dX11_cheat_133 rfl (fun _ => ?_) (fun h => absurd h cq_eq_0_0)
                    refine lv_iconst (v := 0) hx hb dX11_cheat_140 kic_0 ?_
                    refine lv_iadd hx hb dX11_cheat_141 ?_
                    refine lv_topi (fun y_26 ey_26 => ?_)
                    obtain rfl : y_26 = (nI (n5 + 0)) := ey_26.trans (nI_add n5 0)
                    refine lv_istore (lv' := [(6, .int (nI (n5 + 0))), (5, .int (nI (n4 + 1))), (4, .int (nI (n3 + 0))), (9, .int 0), (8, .ref (ad 11 i44)), (7, .int (nI i44)), (0, .ref (g 0)), (1, .int v0), (2, .int v1), (3, .int v2)]) hx hb dX11_cheat_142 hl (ltb rfl) rfl (fun ls hl => ?_)
                    refine lv_iinc (v := (nI (i44 + 1))) (lv' := [(7, .int (nI (i44 + 1))), (6, .int (nI (n5 + 0))), (5, .int (nI (n4 + 1))), (4, .int (nI (n3 + 0))), (9, .int 0), (8, .ref (ad 11 i44)), (0, .ref (g 0)), (1, .int v0), (2, .int v1), (3, .int v2)]) hx hb dX11_cheat_144 hl (k := 5) rfl (nI_1 _) (ltb rfl) rfl (fun ls hl => ?_)
                    refine lv_goto (tgt := 44) hx hb dX11_cheat_147 rfl ?_
                    exact ih44 (i44 + 1) (n3 + 0) (n4 + 1) (n5 + 0) (by (first | omega | (have zz0 := Hid.u hb_cn; omega))) ⟨(by (first | omega | (have zz0 := Hid.u hb_cn; omega))), ⟨by (first | omega | (have zz0 := Hid.u hb_cn; omega)), by (first | omega | (have zz0 := Hid.u hb_cn; omega)), by (first | omega | (have zz0 := Hid.u hb_cn; omega)), by (first | omega | (have zz0 := Hid.u hb_cn; omega))⟩, (sN_n hx44_1 (if_neg (fun q9 => by (first | omega | (have zz0 := Hid.u hb_cn; omega))))), (sN_y hx44_2 (if_pos (by assumption))), (sN_n hx44_3 (if_neg (fun q9 => by first | (first | omega | (have zz0 := Hid.u hb_cn; omega)) | exact absurd q9 (by assumption) | exact absurd q9.1 (by assumption) | (have q8 := q9.2; (first | omega | (have zz0 := Hid.u hb_cn; omega))))))⟩ ls (lv_sub hl [0, 1, 2, 3, 6, 7, 8, 9] rfl)
              ·
                have tc_16 : (v1.toInt : Int) ≤ ((Fn 123) i44).toInt := Int32.le_iff_toInt_le.mp (Int32.not_lt.mp c_16)
                refine lv_iconst (v := 1) hx hb (oc_4 79 (aq_4 shX11_cheat_75)) kic_1 ?_
                refine lv_goto (tgt := 84) hx hb (oc_167 80 (aq_5 shX11_cheat_75) sgw_0_4) rfl ?_
                refine lv_istore (lv' := [(9, .int 1), (8, .ref (ad 11 i44)), (7, .int (nI i44)), (6, .int (nI n5)), (5, .int (nI n4)), (4, .int (nI n3)), (0, .ref (g 0)), (1, .int v0), (2, .int v1), (3, .int v2)]) hx hb dX11_cheat_84 hl (ltb rfl) rfl (fun ls hl => ?_)
                refine lv_iload hx hb dX11_cheat_86 (lvA5 hl) ?_
                refine lv_iload hx hb dX11_cheat_88 (lvA0 hl) ?_
                refine lv_if_eq (tgt := 97) hx hb dX11_cheat_90 rfl (fun h => absurd h cq_eq_1_0) (fun _ => ?_)
                refine lv_iconst (v := 1) hx hb (oc_4 93 (aq_18 shX11_cheat_75)) kic_1 ?_
                refine lv_goto (tgt := 98) hx hb (oc_167 94 (aq_19 shX11_cheat_75) sgw_0_4) rfl ?_
                refine lv_iadd hx hb dX11_cheat_98 ?_
                refine lv_topi (fun y_27 ey_27 => ?_)
                obtain rfl : y_27 = (nI (n3 + 1)) := ey_27.trans (nI_add n3 1)
                refine lv_istore (lv' := [(4, .int (nI (n3 + 1))), (9, .int 1), (8, .ref (ad 11 i44)), (7, .int (nI i44)), (6, .int (nI n5)), (5, .int (nI n4)), (0, .ref (g 0)), (1, .int v0), (2, .int v1), (3, .int v2)]) hx hb dX11_cheat_99 hl (ltb rfl) rfl (fun ls hl => ?_)
                refine lv_iload hx hb dX11_cheat_101 (lvA5 hl) ?_
                refine lv_aload hx hb dX11_cheat_103 (lvA2 hl) ?_
                refine gf_RX11_211 S hK hP _ (xf_1 kf_1) (v := .int ((Fn 120) i44)) rfl dX11_cheat_105 ?_
                refine lv_iload_n hx hb dX11_cheat_108 rfl (lvA7 hl) ?_
                refine lv_icmp_ne (tgt := 116) hx hb dX11_cheat_109 rfl (fun c_28 => ?_) (fun c_28 => ?_)
                ·
                  have tc_28 : (((Fn 120) i44).toInt : Int) ≠ v0.toInt := fun q => c_28 (Int32.toInt_inj.mp q)
                  refine lv_iconst (v := 0) hx hb dX11_cheat_116 kic_0 ?_
                  refine lv_iadd hx hb dX11_cheat_117 ?_
                  refine lv_topi (fun y_29 ey_29 => ?_)
                  obtain rfl : y_29 = (nI (n4 + 0)) := ey_29.trans (nI_add n4 0)
                  refine lv_istore (lv' := [(5, .int (nI (n4 + 0))), (4, .int (nI (n3 + 1))), (9, .int 1), (8, .ref (ad 11 i44)), (7, .int (nI i44)), (6, .int (nI n5)), (0, .ref (g 0)), (1, .int v0), (2, .int v1), (3, .int v2)]) hx hb dX11_cheat_118 hl (ltb rfl) rfl (fun ls hl => ?_)
                  refine lv_iload hx hb dX11_cheat_120 (lvA5 hl) ?_
                  refine lv_aload hx hb dX11_cheat_122 (lvA3 hl) ?_
                  refine gf_RX11_211 S hK hP _ (xf_1 kf_1) (v := .int ((Fn 120) i44)) rfl dX11_cheat_124 ?_
                  refine lv_iload_n hx hb dX11_cheat_127 rfl (lvA7 hl) ?_
                  refine lv_icmp_ne (tgt := 140) hx hb dX11_cheat_128 rfl (fun c_30 => ?_) (fun c_30 => ?_)
                  ·
                    have tc_30 : (((Fn 120) i44).toInt : Int) ≠ v0.toInt := fun q => c_30 (Int32.toInt_inj.mp q)
                    refine lv_iconst (v := 0) hx hb dX11_cheat_140 kic_0 ?_
                    refine lv_iadd hx hb dX11_cheat_141 ?_
                    refine lv_topi (fun y_31 ey_31 => ?_)
                    obtain rfl : y_31 = (nI (n5 + 0)) := ey_31.trans (nI_add n5 0)
                    refine lv_istore (lv' := [(6, .int (nI (n5 + 0))), (5, .int (nI (n4 + 0))), (4, .int (nI (n3 + 1))), (9, .int 1), (8, .ref (ad 11 i44)), (7, .int (nI i44)), (0, .ref (g 0)), (1, .int v0), (2, .int v1), (3, .int v2)]) hx hb dX11_cheat_142 hl (ltb rfl) rfl (fun ls hl => ?_)
                    refine lv_iinc (v := (nI (i44 + 1))) (lv' := [(7, .int (nI (i44 + 1))), (6, .int (nI (n5 + 0))), (5, .int (nI (n4 + 0))), (4, .int (nI (n3 + 1))), (9, .int 1), (8, .ref (ad 11 i44)), (0, .ref (g 0)), (1, .int v0), (2, .int v1), (3, .int v2)]) hx hb dX11_cheat_144 hl (k := 5) rfl (nI_1 _) (ltb rfl) rfl (fun ls hl => ?_)
                    refine lv_goto (tgt := 44) hx hb dX11_cheat_147 rfl ?_
                    exact ih44 (i44 + 1) (n3 + 1) (n4 + 0) (n5 + 0) (by (first | omega | (have zz0 := Hid.u hb_cn; omega))) ⟨(by (first | omega | (have zz0 := Hid.u hb_cn; omega))), ⟨by (first | omega | (have zz0 := Hid.u hb_cn; omega)), by (first | omega | (have zz0 := Hid.u hb_cn; omega)), by (first | omega | (have zz0 := Hid.u hb_cn; omega)), by (first | omega | (have zz0 := Hid.u hb_cn; omega))⟩, (sN_y hx44_1 (if_pos (by (first | omega | (have zz0 := Hid.u hb_cn; omega))))), (sN_n hx44_2 (if_neg (fun q9 => by exact absurd q9 (by assumption)))), (sN_n hx44_3 (if_neg (fun q9 => by first | (first | omega | (have zz0 := Hid.u hb_cn; omega)) | exact absurd q9 (by assumption) | exact absurd q9.1 (by assumption) | (have q8 := q9.2; (first | omega | (have zz0 := Hid.u hb_cn; omega))))))⟩ ls (lv_sub hl [0, 1, 2, 3, 6, 7, 8, 9] rfl)
                  ·
                    have tc_30 : (((Fn 120) i44).toInt : Int) = v0.toInt := congrArg Int32.toInt c_30
                    refine lv_iload hx hb dX11_cheat_131 (lvA2 hl) ?_
                    refine lv_if_eq (tgt := 140) hx hb dX11_cheat_133 rfl (fun h => absurd h cq_eq_1_0) (fun _ => ?_)
                    refine lv_iconst (v := 1) hx hb dX11_cheat_136 kic_1 ?_
                    refine lv_goto (tgt := 141) hx hb dX11_cheat_137 rfl ?_
                    refine lv_iadd hx hb dX11_cheat_141 ?_
                    refine lv_topi (fun y_32 ey_32 => ?_)
                    obtain rfl : y_32 = (nI (n5 + 1)) := ey_32.trans (nI_add n5 1)
                    refine lv_istore (lv' := [(6, .int (nI (n5 + 1))), (5, .int (nI (n4 + 0))), (4, .int (nI (n3 + 1))), (9, .int 1), (8, .ref (ad 11 i44)), (7, .int (nI i44)), (0, .ref (g 0)), (1, .int v0), (2, .int v1), (3, .int v2)]) hx hb dX11_cheat_142 hl (ltb rfl) rfl (fun ls hl => ?_)
                    refine lv_iinc (v := (nI (i44 + 1))) (lv' := [(7, .int (nI (i44 + 1))), (6, .int (nI (n5 + 1))), (5, .int (nI (n4 + 0))), (4, .int (nI (n3 + 1))), (9, .int 1), (8, .ref (ad 11 i44)), (0, .ref (g 0)), (1, .int v0), (2, .int v1), (3, .int v2)]) hx hb dX11_cheat_144 hl (k := 5) rfl (nI_1 _) (ltb rfl) rfl (fun ls hl => ?_)
                    refine lv_goto (tgt := 44) hx hb dX11_cheat_147 rfl ?_
                    exact ih44 (i44 + 1) (n3 + 1) (n4 + 0) (n5 + 1) (by (first | omega | (have zz0 := Hid.u hb_cn; omega))) ⟨(by (first | omega | (have zz0 := Hid.u hb_cn; omega))), ⟨by (first | omega | (have zz0 := Hid.u hb_cn; omega)), by (first | omega | (have zz0 := Hid.u hb_cn; omega)), by (first | omega | (have zz0 := Hid.u hb_cn; omega)), by (first | omega | (have zz0 := Hid.u hb_cn; omega))⟩, (sN_y hx44_1 (if_pos (by (first | omega | (have zz0 := Hid.u hb_cn; omega))))), (sN_n hx44_2 (if_neg (fun q9 => by exact absurd q9 (by assumption)))), (sN_y hx44_3 (if_pos ⟨by assumption, by (first | omega | (have zz0 := Hid.u hb_cn; omega))⟩))⟩ ls (lv_sub hl [0, 1, 2, 3, 6, 7, 8, 9] rfl)
                ·
                  have tc_28 : (((Fn 120) i44).toInt : Int) = v0.toInt := congrArg Int32.toInt c_28
                  refine lv_iconst (v := 1) hx hb dX11_cheat_112 kic_1 ?_
                  refine lv_goto (tgt := 117) hx hb dX11_cheat_113 rfl ?_
                  refine lv_iadd hx hb dX11_cheat_117 ?_
                  refine lv_topi (fun y_33 ey_33 => ?_)
                  obtain rfl : y_33 = (nI (n4 + 1)) := ey_33.trans (nI_add n4 1)
                  refine lv_istore (lv' := [(5, .int (nI (n4 + 1))), (4, .int (nI (n3 + 1))), (9, .int 1), (8, .ref (ad 11 i44)), (7, .int (nI i44)), (6, .int (nI n5)), (0, .ref (g 0)), (1, .int v0), (2, .int v1), (3, .int v2)]) hx hb dX11_cheat_118 hl (ltb rfl) rfl (fun ls hl => ?_)
                  refine lv_iload hx hb dX11_cheat_120 (lvA5 hl) ?_
                  refine lv_aload hx hb dX11_cheat_122 (lvA3 hl) ?_
                  refine gf_RX11_211 S hK hP _ (xf_1 kf_1) (v := .int ((Fn 120) i44)) rfl dX11_cheat_124 ?_
                  refine lv_iload_n hx hb dX11_cheat_127 rfl (lvA7 hl) ?_
                  refine lv_icmp_ne (tgt := 140) hx hb dX11_cheat_128 rfl (fun c_34 => ?_) (fun c_34 => ?_)
                  ·
                    have tc_34 : (((Fn 120) i44).toInt : Int) ≠ v0.toInt := fun q => c_34 (Int32.toInt_inj.mp q)
                    refine lv_iconst (v := 0) hx hb dX11_cheat_140 kic_0 ?_
                    refine lv_iadd hx hb dX11_cheat_141 ?_
                    refine lv_topi (fun y_35 ey_35 => ?_)
                    obtain rfl : y_35 = (nI (n5 + 0)) := ey_35.trans (nI_add n5 0)
                    refine lv_istore (lv' := [(6, .int (nI (n5 + 0))), (5, .int (nI (n4 + 1))), (4, .int (nI (n3 + 1))), (9, .int 1), (8, .ref (ad 11 i44)), (7, .int (nI i44)), (0, .ref (g 0)), (1, .int v0), (2, .int v1), (3, .int v2)]) hx hb dX11_cheat_142 hl (ltb rfl) rfl (fun ls hl => ?_)
                    refine lv_iinc (v := (nI (i44 + 1))) (lv' := [(7, .int (nI (i44 + 1))), (6, .int (nI (n5 + 0))), (5, .int (nI (n4 + 1))), (4, .int (nI (n3 + 1))), (9, .int 1), (8, .ref (ad 11 i44)), (0, .ref (g 0)), (1, .int v0), (2, .int v1), (3, .int v2)]) hx hb dX11_cheat_144 hl (k := 5) rfl (nI_1 _) (ltb rfl) rfl (fun ls hl => ?_)
                    refine lv_goto (tgt := 44) hx hb dX11_cheat_147 rfl ?_
                    exact ih44 (i44 + 1) (n3 + 1) (n4 + 1) (n5 + 0) (by (first | omega | (have zz0 := Hid.u hb_cn; omega))) ⟨(by (first | omega | (have zz0 := Hid.u hb_cn; omega))), ⟨by (first | omega | (have zz0 := Hid.u hb_cn; omega)), by (first | omega | (have zz0 := Hid.u hb_cn; omega)), by (first | omega | (have zz0 := Hid.u hb_cn; omega)), by (first | omega | (have zz0 := Hid.u hb_cn; omega))⟩, (sN_y hx44_1 (if_pos (by (first | omega | (have zz0 := Hid.u hb_cn; omega))))), (sN_y hx44_2 (if_pos (by assumption))), (sN_n hx44_3 (if_neg (fun q9 => by first | (first | omega | (have zz0 := Hid.u hb_cn; omega)) | exact absurd q9 (by assumption) | exact absurd q9.1 (by assumption) | (have q8 := q9.2; (first | omega | (have zz0 := Hid.u hb_cn; omega))))))⟩ ls (lv_sub hl [0, 1, 2, 3, 6, 7, 8, 9] rfl)
                  ·
                    have tc_34 : (((Fn 120) i44).toInt : Int) = v0.toInt := congrArg Int32.toInt c_34
                    refine lv_iload hx hb dX11_cheat_131 (lvA2 hl) ?_
                    refine lv_if_eq (tgt := 140) hx hb dX11_cheat_133 rfl (fun h => absurd h cq_eq_1_0) (fun _ => ?_)
                    refine lv_iconst (v := 1) hx hb dX11_cheat_136 kic_1 ?_
                    refine lv_goto (tgt := 141) hx hb dX11_cheat_137 rfl ?_
                    refine lv_iadd hx hb dX11_cheat_141 ?_
                    refine lv_topi (fun y_36 ey_36 => ?_)
                    obtain rfl : y_36 = (nI (n5 + 1)) := ey_36.trans (nI_add n5 1)
                    refine lv_istore (lv' := [(6, .int (nI (n5 + 1))), (5, .int (nI (n4 + 1))), (4, .int (nI (n3 + 1))), (9, .int 1), (8, .ref (ad 11 i44)), (7, .int (nI i44)), (0, .ref (g 0)), (1, .int v0), (2, .int v1), (3, .int v2)]) hx hb dX11_cheat_142 hl (ltb rfl) rfl (fun ls hl => ?_)
                    refine lv_iinc (v := (nI (i44 + 1))) (lv' := [(7, .int (nI (i44 + 1))), (6, .int (nI (n5 + 1))), (5, .int (nI (n4 + 1))), (4, .int (nI (n3 + 1))), (9, .int 1), (8, .ref (ad 11 i44)), (0, .ref (g 0)), (1, .int v0), (2, .int v1), (3, .int v2)]) hx hb dX11_cheat_144 hl (k := 5) rfl (nI_1 _) (ltb rfl) rfl (fun ls hl => ?_)
                    refine lv_goto (tgt := 44) hx hb dX11_cheat_147 rfl ?_
                    exact ih44 (i44 + 1) (n3 + 1) (n4 + 1) (n5 + 1) (by (first | omega | (have zz0 := Hid.u hb_cn; omega))) ⟨(by (first | omega | (have zz0 := Hid.u hb_cn; omega))), ⟨by (first | omega | (have zz0 := Hid.u hb_cn; omega)), by (first | omega | (have zz0 := Hid.u hb_cn; omega)), by (first | omega | (have zz0 := Hid.u hb_cn; omega)), by (first | omega | (have zz0 := Hid.u hb_cn; omega))⟩, (sN_y hx44_1 (if_pos (by (first | omega | (have zz0 := Hid.u hb_cn; omega))))), (sN_y hx44_2 (if_pos (by assumption))), (sN_y hx44_3 (if_pos ⟨by assumption, by (first | omega | (have zz0 := Hid.u hb_cn; omega))⟩))⟩ ls (lv_sub hl [0, 1, 2, 3, 6, 7, 8, 9] rfl)
        exact lp_44 _ 0 0 0 0 (Nat.lt_succ_self _) ⟨(by (first | omega | (have zz0 := Hid.u hb_cn; omega))), ⟨by (first | omega | (have zz0 := Hid.u hb_cn; omega)), by (first | omega | (have zz0 := Hid.u hb_cn; omega)), by (first | omega | (have zz0 := Hid.u hb_cn; omega)), by (first | omega | (have zz0 := Hid.u hb_cn; omega))⟩, rfl, rfl, rfl⟩ ls (lv_sub hl [0, 1, 2, 3, 4, 5, 6, 7] rfl)
      ·
        have h_6 : ¬ (0 ≤ v2.toInt ∧ v2.toInt ≤ 2) := h_6
        refine lv_if_ne (tgt := 32) hx hb dX11_cheat_25 rfl (fun h => absurd h cq_eq_0_0) (fun _ => ?_)
        refine lv_ldc2 (v := (-1)) hx hb hown (S.2.2.2.2 _ (wk4_5 1 rfl rfl)) dX11_cheat_28 ?_
        exact W.lret (v := (-1)) hx hb hr (fun t ht hW => ⟨(-1), rfl, (Or.inr ⟨by (first | omega | (have zz0 := Hid.u hb_cn; omega)), rfl⟩), ht⟩) (fun _ h => absurd h List.not_mem_nil) dX11_cheat_31
    ·
      have h_4 : ¬ (0 ≤ v1.toInt ∧ v1.toInt ≤ 1000) := h_4
      refine lv_if_eq (tgt := 28) hx hb dX11_cheat_16 rfl (fun _ => ?_) (fun h => absurd h cq_eq_0_0)
      refine lv_ldc2 (v := (-1)) hx hb hown (S.2.2.2.2 _ (wk4_5 1 rfl rfl)) dX11_cheat_28 ?_
      exact W.lret (v := (-1)) hx hb hr (fun t ht hW => ⟨(-1), rfl, (Or.inr ⟨by (first | omega | (have zz0 := Hid.u hb_cn; omega)), rfl⟩), ht⟩) (fun _ h => absurd h List.not_mem_nil) dX11_cheat_31
  ·
    refine lv_ifnullN (tgt := 28) hx hb dX11_cheat_5 rfl ?_
    refine lv_ldc2 (v := (-1)) hx hb hown (S.2.2.2.2 _ (wk4_5 1 rfl rfl)) dX11_cheat_28 ?_
    exact W.lret (v := (-1)) hx hb hr (fun t ht hW => ⟨(-1), rfl, (Or.inr ⟨by (first | omega | (have zz0 := Hid.u hb_cn; omega)), rfl⟩), ht⟩) (fun _ h => absurd h List.not_mem_nil) dX11_cheat_31
set_option maxRecDepth 100000 in
set_option maxHeartbeats 4000000 in
theorem q_cheat9 (l : Launch) (D : va_G) (cI cB cZ : ClassId) (g : Nat → Nat) (cn : Nat → Nat) (In : Nat → Int32) (Fn : Nat → Nat → Int32) (v0 v1 v2 : Int32) (hI : IM cn Fn) : Met l yX12_cheat (CWS yX12_cheat cX12_cheat 9 (some .long)) (RM 2 0 0) (PBr [.ref (g 100), .int v0, .int v1, .int v2] D cI cB cZ (wM cI cB cZ g cn In Fn)) (vp_Sl (fun r => ((0 ≤ v0.toInt ∧ v0.toInt < (cn 1 : Int) ∧ 0 ≤ v1.toInt ∧ v1.toInt ≤ 1000 ∧ 0 ≤ v2.toInt ∧ v2.toInt ≤ 2) ∧ ODM (sN (fun i9 => if v1.toInt ≤ ((Fn 11) i9).toInt then 1 else 0) (cn 2)) (sN (fun i9 => if (Fn 8) i9 = v0 then 1 else 0) (cn 2)) (sN (fun i9 => if (Fn 8) i9 = v0 ∧ v1.toInt ≤ ((Fn 11) i9).toInt then 1 else 0) (cn 2)) (cn 2) v2 r) ∨ (¬ (0 ≤ v0.toInt ∧ v0.toInt < (cn 1 : Int) ∧ 0 ≤ v1.toInt ∧ v1.toInt ≤ 1000 ∧ 0 ≤ v2.toInt ∧ v2.toInt ≤ 2) ∧ r = -1))) 0 0 (fun _ => False) := by
  refine en_r rfl pn_RX12 (Nat.le_of_ble_eq_true rfl) (fun p e s m below meth c hx hb hml hown S hr hlocks hnm hP hK hS ls hl => ?_)
  have hl : lv_has ls 9 [(0, .ref (g 100)), (1, .int v0), (2, .int v1), (3, .int v2)] := hl
  have hi_cn : Hid (CB cn) := hI.b
  refine lv_aload_n hx hb (oc_42 0 shX12_cheat_0) rfl (lvA0 hl) ?_
  refine lv_iload_n hx hb (oc_27 1 (aq_1 shX12_cheat_0)) rfl (lvA1 hl) ?_
  refine vp_callSi (runV_ra (As := [.int v0]) (rest := []) S (q_isKitchen l D cI cB cZ g cn In Fn v0 hI) kV_RX12_218 hK hP 0 rfl rfl rfl ⟨Nat.le_of_ble_eq_true rfl, Nat.le_of_ble_eq_true rfl⟩ ⟨Nat.le_of_ble_eq_true rfl, Nat.le_of_ble_eq_true rfl⟩ rfl hl.1 rfl (Nat.le_of_ble_eq_true rfl) (oc_182 2 (aq_2 shX12_cheat_0) uw_0_218)) (fun r_1 h_2 => ?_)
  rcases h_2 with ⟨rfl, h_2⟩ | ⟨rfl, h_2⟩
  ·
    have h_2 : 0 ≤ v0.toInt ∧ v0.toInt < ((cn 1) : Int) := h_2
    refine lv_if_eq (tgt := 28) hx hb dX12_cheat_5 rfl (fun h => absurd h cq_eq_1_0) (fun _ => ?_)
    refine lv_iload_n hx hb (oc_28 8 (aq_8 shX12_cheat_0)) rfl (lvA2 hl) ?_
    refine lv_iconst (v := 0) hx hb (oc_3 9 (aq_9 shX12_cheat_0)) kic_0 ?_
    refine lv_sipush (v := 1000) hx hb (oc_17 10 (aq_10 shX12_cheat_0) sgw_3_232) (by decide) ?_
    refine vp_callSi (runS_r (As := [.int v1, .int 0, .int 1000]) (rest := []) S (q_in l D cI cB cZ v1 0 1000 ) kS_RX12_214 hK hP [] rfl ⟨Nat.le_of_ble_eq_true rfl, Nat.le_of_ble_eq_true rfl⟩ ⟨Nat.le_of_ble_eq_true rfl, Nat.le_of_ble_eq_true rfl⟩ rfl hl.1 rfl (Nat.le_of_ble_eq_true rfl) (oc_184 13 (aq_13 shX12_cheat_0) uw_0_214)) (fun r_3 h_4 => ?_)
    rcases h_4 with ⟨rfl, h_4⟩ | ⟨rfl, h_4⟩
    ·
      have h_4 : 0 ≤ v1.toInt ∧ v1.toInt ≤ 1000 := h_4
      refine lv_if_eq (tgt := 28) hx hb dX12_cheat_16 rfl (fun h => absurd h cq_eq_1_0) (fun _ => ?_)
      refine lv_iload_n hx hb (oc_29 19 (aq_19 shX12_cheat_0)) rfl (lvA3 hl) ?_
      refine lv_iconst (v := 0) hx hb (oc_3 20 (aq_20 shX12_cheat_0)) kic_0 ?_
      refine lv_iconst (v := 2) hx hb (oc_5 21 (aq_21 shX12_cheat_0)) kic_2 ?_
      refine vp_callSi (runS_r (As := [.int v2, .int 0, .int 2]) (rest := []) S (q_in l D cI cB cZ v2 0 2 ) kS_RX12_214 hK hP [] rfl ⟨Nat.le_of_ble_eq_true rfl, Nat.le_of_ble_eq_true rfl⟩ ⟨Nat.le_of_ble_eq_true rfl, Nat.le_of_ble_eq_true rfl⟩ rfl hl.1 rfl (Nat.le_of_ble_eq_true rfl) (oc_184 22 (aq_22 shX12_cheat_0) uw_0_214)) (fun r_5 h_6 => ?_)
      rcases h_6 with ⟨rfl, h_6⟩ | ⟨rfl, h_6⟩
      ·
        have h_6 : 0 ≤ v2.toInt ∧ v2.toInt ≤ 2 := h_6
        refine lv_if_ne (tgt := 32) hx hb dX12_cheat_25 rfl (fun _ => ?_) (fun h => absurd h cq_eq_1_0)
        refine lv_iconst (v := 0) hx hb (oc_3 32 (aq_7 shX12_cheat_25)) kic_0 ?_
        refine lv_istore (lv' := [(4, .int 0), (0, .ref (g 100)), (1, .int v0), (2, .int v1), (3, .int v2)]) hx hb (oc_54 33 (aq_8 shX12_cheat_25) ub_4) hl (ltb rfl) rfl (fun ls hl => ?_)
        refine lv_iconst (v := 0) hx hb (oc_3 35 (aq_10 shX12_cheat_25)) kic_0 ?_
        refine lv_istore (lv' := [(5, .int 0), (4, .int 0), (0, .ref (g 100)), (1, .int v0), (2, .int v1), (3, .int v2)]) hx hb (oc_54 36 (aq_11 shX12_cheat_25) ub_5) hl (ltb rfl) rfl (fun ls hl => ?_)
        refine lv_iconst (v := 0) hx hb (oc_3 38 (aq_13 shX12_cheat_25)) kic_0 ?_
        refine lv_istore (lv' := [(6, .int 0), (5, .int 0), (4, .int 0), (0, .ref (g 100)), (1, .int v0), (2, .int v1), (3, .int v2)]) hx hb (oc_54 39 (aq_14 shX12_cheat_25) ub_6) hl (ltb rfl) rfl (fun ls hl => ?_)
        refine lv_iconst (v := 0) hx hb (oc_3 41 (aq_16 shX12_cheat_25)) kic_0 ?_
        refine lv_istore (lv' := [(7, .int 0), (6, .int 0), (5, .int 0), (4, .int 0), (0, .ref (g 100)), (1, .int v0), (2, .int v1), (3, .int v2)]) hx hb (oc_54 42 (aq_17 shX12_cheat_25) ub_7) hl (ltb rfl) rfl (fun ls hl => ?_)
        have lp_44 : ∀ (n : Nat) (i44 : Nat) (n3 : Nat) (n4 : Nat) (n5 : Nat) , cn 2 - i44 < n → (i44 ≤ cn 2 ∧ (n3 ≤ i44 ∧ n4 ≤ i44 ∧ n5 ≤ n3 ∧ n5 ≤ n4) ∧ (n3 = sN (fun i9 => if v1.toInt ≤ ((Fn 11) i9).toInt then 1 else 0) i44) ∧ (n4 = sN (fun i9 => if (Fn 8) i9 = v0 then 1 else 0) i44) ∧ (n5 = sN (fun i9 => if (Fn 8) i9 = v0 ∧ v1.toInt ≤ ((Fn 11) i9).toInt then 1 else 0) i44)) → ∀ ls : Array Slot, lv_has ls 9 [(7, .int (nI i44)), (6, .int (nI n5)), (5, .int (nI n4)), (4, .int (nI n3)), (0, .ref (g 100)), (1, .int v0), (2, .int v1), (3, .int v2)] → W p l e (RM 2 0 0) s m ([.ref (g 100), .int v0, .int v1, .int v2]).toArray below meth c s.heap [] 0 0 (MQ below (vp_Sl (fun r => ((0 ≤ v0.toInt ∧ v0.toInt < (cn 1 : Int) ∧ 0 ≤ v1.toInt ∧ v1.toInt ≤ 1000 ∧ 0 ≤ v2.toInt ∧ v2.toInt ≤ 2) ∧ ODM (sN (fun i9 => if v1.toInt ≤ ((Fn 11) i9).toInt then 1 else 0) (cn 2)) (sN (fun i9 => if (Fn 8) i9 = v0 then 1 else 0) (cn 2)) (sN (fun i9 => if (Fn 8) i9 = v0 ∧ v1.toInt ≤ ((Fn 11) i9).toInt then 1 else 0) (cn 2)) (cn 2) v2 r) ∨ (¬ (0 ≤ v0.toInt ∧ v0.toInt < (cn 1 : Int) ∧ 0 ≤ v1.toInt ∧ v1.toInt ≤ 1000 ∧ 0 ≤ v2.toInt ∧ v2.toInt ≤ 2) ∧ r = -1))) ([.ref (g 100), .int v0, .int v1, .int v2]).toArray s 0 0 (fun _ => False)) (F0 m 44 ls []) := by
          intro n44
          induction n44 with
          | zero => intros; (first | omega | (have zz0 := Hid.u hi_cn; omega))
          | succ n44 ih44 =>
            intro i44 n3 n4 n5 hmu44 hinv44 ls hl
            obtain ⟨hr44, hx44_0, hx44_1, hx44_2, hx44_3⟩ := hinv44
            have ti44 : (nI i44).toInt = (i44 : Int) := nI_toInt (by (first | omega | (have zz0 := Hid.u hi_cn; omega)))
            refine lv_iload hx hb (oc_21 44 (aq_19 shX12_cheat_25) ub_7) (lvA0 hl) ?_
            refine lv_aload_n hx hb (oc_42 46 (aq_21 shX12_cheat_25)) rfl (lvA4 hl) ?_
            refine gM_208 S hK hP (v := .int (nI (cn 2))) rfl (oc_180 47 (aq_22 shX12_cheat_25) uw_0_208) ?_
            have : (nI (cn 2)).toInt = (((cn 2) : Nat) : Int) := nI_toInt (by (first | omega | (have zz0 := Hid.u hi_cn; omega)))
            refine lv_icmp_ge (tgt := 139) hx hb (oc_162 50 shX12_cheat_50 sgw_0_89) rfl (fun c_7 => ?_) (fun c_7 => ?_)
            ·
              have tc_7 : ((nI (cn 2)).toInt : Int) ≤ (nI i44).toInt := Int32.le_iff_toInt_le.mp c_7
              refine lv_aload_n hx hb (oc_42 139 (aq_14 shX12_cheat_125)) rfl (lvA4 hl) ?_
              refine lv_iload hx hb (oc_21 140 (aq_15 shX12_cheat_125) ub_4) (lvA3 hl) ?_
              refine lv_iload hx hb (oc_21 142 (aq_17 shX12_cheat_125) ub_5) (lvA2 hl) ?_
              refine lv_iload hx hb (oc_21 144 (aq_19 shX12_cheat_125) ub_6) (lvA1 hl) ?_
              refine lv_iload_n hx hb (oc_29 146 (aq_21 shX12_cheat_125)) rfl (lvA7 hl) ?_
              refine vp_callSl (runV_ra (As := [.int (nI n3), .int (nI n4), .int (nI n5), .int v2]) (rest := []) S (q_byLot9 l D cI cB cZ g cn In Fn n3 n4 n5 v2 hI (by (first | omega | (have zz0 := Hid.u hi_cn; omega))) (by (first | omega | (have zz0 := Hid.u hi_cn; omega))) (by (first | omega | (have zz0 := Hid.u hi_cn; omega)))) kV_RX12_353 hK hP 0 rfl rfl rfl ⟨Nat.le_of_ble_eq_true rfl, Nat.le_of_ble_eq_true rfl⟩ ⟨Nat.le_of_ble_eq_true rfl, Nat.le_of_ble_eq_true rfl⟩ rfl hl.1 rfl (Nat.le_of_ble_eq_true rfl) (oc_182 147 (aq_22 shX12_cheat_125) uw_1_97)) (fun r_8 h_9 => ?_)
              exact W.lret (v := r_8) hx hb hr (fun t ht hW => ⟨r_8, rfl, (Or.inl ⟨by (first | omega | (have zz0 := Hid.u hi_cn; omega)), by have e9 : i44 = cn 2 := (by (first | omega | (have zz0 := Hid.u hi_cn; omega))); have h9 := h_9; rw [hx44_1, hx44_2, hx44_3, e9] at h9; exact h9⟩), ht⟩) (fun _ h => absurd h List.not_mem_nil) (oc_173 150 shX12_cheat_150)
            ·
              have tc_7 : ((nI i44).toInt : Int) < (nI (cn 2)).toInt := Int32.lt_iff_toInt_lt.mp (Int32.not_le.mp c_7)
              refine lv_aload_n hx hb (oc_42 53 (aq_3 shX12_cheat_50)) rfl (lvA4 hl) ?_
              refine gM_34 S hK hP (v := .ref (g 11)) rfl (oc_180 54 (aq_4 shX12_cheat_50) uw_0_34) ?_
              refine lv_iload hx hb (oc_21 57 (aq_7 shX12_cheat_50) ub_7) (lvA0 hl) ?_
              have kb_1 : i44 < 60 := by (first | omega | (have zz0 := Hid.u hi_cn; omega))
              refine ldM_11 hx hb hK hP (x := ((Fn 11) i44)) (vp_in_nI kb_1 (ltb rfl)) (nI_clamp (Nat.lt_trans kb_1 (ltb rfl))) rfl (oc_46 59 (aq_9 shX12_cheat_50)) ?_
              refine lv_iload_n hx hb (oc_28 60 (aq_10 shX12_cheat_50)) rfl (lvA6 hl) ?_
              refine lv_icmp_lt (tgt := 68) hx hb (oc_161 61 (aq_11 shX12_cheat_50) sgw_0_7) rfl (fun c_10 => ?_) (fun c_10 => ?_)
              ·
                have tc_10 : (((Fn 11) i44).toInt : Int) < v1.toInt := Int32.lt_iff_toInt_lt.mp c_10
                refine lv_iconst (v := 0) hx hb (oc_3 68 (aq_18 shX12_cheat_50)) kic_0 ?_
                refine lv_istore (lv' := [(8, .int 0), (7, .int (nI i44)), (6, .int (nI n5)), (5, .int (nI n4)), (4, .int (nI n3)), (0, .ref (g 100)), (1, .int v0), (2, .int v1), (3, .int v2)]) hx hb dX12_cheat_69 hl (ltb rfl) rfl (fun ls hl => ?_)
                refine lv_iload hx hb dX12_cheat_71 (lvA4 hl) ?_
                refine lv_iload hx hb dX12_cheat_73 (lvA0 hl) ?_
                refine lv_if_eq (tgt := 82) hx hb dX12_cheat_75 rfl (fun _ => ?_) (fun h => absurd h cq_eq_0_0)
                refine lv_iconst (v := 0) hx hb (oc_3 82 (aq_7 shX12_cheat_75)) kic_0 ?_
                refine lv_iadd hx hb dX12_cheat_83 ?_
                refine lv_topi (fun y_11 ey_11 => ?_)
                obtain rfl : y_11 = (nI (n3 + 0)) := ey_11.trans (nI_add n3 0)
                refine lv_istore (lv' := [(4, .int (nI (n3 + 0))), (8, .int 0), (7, .int (nI i44)), (6, .int (nI n5)), (5, .int (nI n4)), (0, .ref (g 100)), (1, .int v0), (2, .int v1), (3, .int v2)]) hx hb dX12_cheat_84 hl (ltb rfl) rfl (fun ls hl => ?_)
                refine lv_iload hx hb dX12_cheat_86 (lvA4 hl) ?_
                refine lv_aload_n hx hb dX12_cheat_88 rfl (lvA5 hl) ?_
                refine gM_25 S hK hP (v := .ref (g 8)) rfl dX12_cheat_89 ?_
                refine lv_iload hx hb dX12_cheat_92 (lvA2 hl) ?_
                refine ldM_8 hx hb hK hP (x := ((Fn 8) i44)) (vp_in_nI kb_1 (ltb rfl)) (nI_clamp (Nat.lt_trans kb_1 (ltb rfl))) rfl dX12_cheat_94 ?_
                refine lv_iload_n hx hb dX12_cheat_95 rfl (lvA6 hl) ?_
                refine lv_icmp_ne (tgt := 103) hx hb dX12_cheat_96 rfl (fun c_12 => ?_) (fun c_12 => ?_)
                ·
                  have tc_12 : (((Fn 8) i44).toInt : Int) ≠ v0.toInt := fun q => c_12 (Int32.toInt_inj.mp q)
                  refine lv_iconst (v := 0) hx hb dX12_cheat_103 kic_0 ?_
                  refine lv_iadd hx hb dX12_cheat_104 ?_
                  refine lv_topi (fun y_13 ey_13 => ?_)
                  obtain rfl : y_13 = (nI (n4 + 0)) := ey_13.trans (nI_add n4 0)
                  refine lv_istore (lv' := [(5, .int (nI (n4 + 0))), (4, .int (nI (n3 + 0))), (8, .int 0), (7, .int (nI i44)), (6, .int (nI n5)), (0, .ref (g 100)), (1, .int v0), (2, .int v1), (3, .int v2)]) hx hb dX12_cheat_105 hl (ltb rfl) rfl (fun ls hl => ?_)
                  refine lv_iload hx hb dX12_cheat_107 (lvA4 hl) ?_
                  refine lv_iload hx hb dX12_cheat_109 (lvA2 hl) ?_
                  refine lv_if_eq (tgt := 129) hx hb dX12_cheat_111 rfl (fun _ => ?_) (fun h => absurd h cq_eq_0_0)
                  refine lv_iconst (v := 0) hx hb dX12_cheat_129 kic_0 ?_
                  refine lv_iadd hx hb dX12_cheat_130 ?_
                  refine lv_topi (fun y_14 ey_14 => ?_)
                  obtain rfl : y_14 = (nI (n5 + 0)) := ey_14.trans (nI_add n5 0)
                  refine lv_istore (lv' := [(6, .int (nI (n5 + 0))), (5, .int (nI (n4 + 0))), (4, .int (nI (n3 + 0))), (8, .int 0), (7, .int (nI i44)), (0, .ref (g 100)), (1, .int v0), (2, .int v1), (3, .int v2)]) hx hb dX12_cheat_131 hl (ltb rfl) rfl (fun ls hl => ?_)
                  refine lv_iinc (v := (nI (i44 + 1))) (lv' := [(7, .int (nI (i44 + 1))), (6, .int (nI (n5 + 0))), (5, .int (nI (n4 + 0))), (4, .int (nI (n3 + 0))), (8, .int 0), (0, .ref (g 100)), (1, .int v0), (2, .int v1), (3, .int v2)]) hx hb dX12_cheat_133 hl (k := 4) rfl (nI_1 _) (ltb rfl) rfl (fun ls hl => ?_)
                  refine lv_goto (tgt := 44) hx hb dX12_cheat_136 rfl ?_
                  exact ih44 (i44 + 1) (n3 + 0) (n4 + 0) (n5 + 0) (by (first | omega | (have zz0 := Hid.u hi_cn; omega))) ⟨(by (first | omega | (have zz0 := Hid.u hi_cn; omega))), ⟨by (first | omega | (have zz0 := Hid.u hi_cn; omega)), by (first | omega | (have zz0 := Hid.u hi_cn; omega)), by (first | omega | (have zz0 := Hid.u hi_cn; omega)), by (first | omega | (have zz0 := Hid.u hi_cn; omega))⟩, (sN_n hx44_1 (if_neg (fun q9 => by (first | omega | (have zz0 := Hid.u hi_cn; omega))))), (sN_n hx44_2 (if_neg (fun q9 => by exact absurd q9 (by assumption)))), (sN_n hx44_3 (if_neg (fun q9 => by first | (first | omega | (have zz0 := Hid.u hi_cn; omega)) | exact absurd q9 (by assumption) | exact absurd q9.1 (by assumption) | (have q8 := q9.2; (first | omega | (have zz0 := Hid.u hi_cn; omega))))))⟩ ls (lv_sub hl [0, 1, 2, 3, 5, 6, 7, 8] rfl)
                ·
                  have tc_12 : (((Fn 8) i44).toInt : Int) = v0.toInt := congrArg Int32.toInt c_12
                  refine lv_iconst (v := 1) hx hb dX12_cheat_99 kic_1 ?_
                  refine lv_goto (tgt := 104) hx hb dX12_cheat_100 rfl ?_
                  refine lv_iadd hx hb dX12_cheat_104 ?_
                  refine lv_topi (fun y_15 ey_15 => ?_)
                  obtain rfl : y_15 = (nI (n4 + 1)) := ey_15.trans (nI_add n4 1)
                  refine lv_istore (lv' := [(5, .int (nI (n4 + 1))), (4, .int (nI (n3 + 0))), (8, .int 0), (7, .int (nI i44)), (6, .int (nI n5)), (0, .ref (g 100)), (1, .int v0), (2, .int v1), (3, .int v2)]) hx hb dX12_cheat_105 hl (ltb rfl) rfl (fun ls hl => ?_)
                  refine lv_iload hx hb dX12_cheat_107 (lvA4 hl) ?_
                  refine lv_iload hx hb dX12_cheat_109 (lvA2 hl) ?_
                  refine lv_if_eq (tgt := 129) hx hb dX12_cheat_111 rfl (fun _ => ?_) (fun h => absurd h cq_eq_0_0)
                  refine lv_iconst (v := 0) hx hb dX12_cheat_129 kic_0 ?_
                  refine lv_iadd hx hb dX12_cheat_130 ?_
                  refine lv_topi (fun y_16 ey_16 => ?_)
                  obtain rfl : y_16 = (nI (n5 + 0)) := ey_16.trans (nI_add n5 0)
                  refine lv_istore (lv' := [(6, .int (nI (n5 + 0))), (5, .int (nI (n4 + 1))), (4, .int (nI (n3 + 0))), (8, .int 0), (7, .int (nI i44)), (0, .ref (g 100)), (1, .int v0), (2, .int v1), (3, .int v2)]) hx hb dX12_cheat_131 hl (ltb rfl) rfl (fun ls hl => ?_)
                  refine lv_iinc (v := (nI (i44 + 1))) (lv' := [(7, .int (nI (i44 + 1))), (6, .int (nI (n5 + 0))), (5, .int (nI (n4 + 1))), (4, .int (nI (n3 + 0))), (8, .int 0), (0, .ref (g 100)), (1, .int v0), (2, .int v1), (3, .int v2)]) hx hb dX12_cheat_133 hl (k := 4) rfl (nI_1 _) (ltb rfl) rfl (fun ls hl => ?_)
                  refine lv_goto (tgt := 44) hx hb dX12_cheat_136 rfl ?_
                  exact ih44 (i44 + 1) (n3 + 0) (n4 + 1) (n5 + 0) (by (first | omega | (have zz0 := Hid.u hi_cn; omega))) ⟨(by (first | omega | (have zz0 := Hid.u hi_cn; omega))), ⟨by (first | omega | (have zz0 := Hid.u hi_cn; omega)), by (first | omega | (have zz0 := Hid.u hi_cn; omega)), by (first | omega | (have zz0 := Hid.u hi_cn; omega)), by (first | omega | (have zz0 := Hid.u hi_cn; omega))⟩, (sN_n hx44_1 (if_neg (fun q9 => by (first | omega | (have zz0 := Hid.u hi_cn; omega))))), (sN_y hx44_2 (if_pos (by assumption))), (sN_n hx44_3 (if_neg (fun q9 => by first | (first | omega | (have zz0 := Hid.u hi_cn; omega)) | exact absurd q9 (by assumption) | exact absurd q9.1 (by assumption) | (have q8 := q9.2; (first | omega | (have zz0 := Hid.u hi_cn; omega))))))⟩ ls (lv_sub hl [0, 1, 2, 3, 5, 6, 7, 8] rfl)
              ·
                have tc_10 : (v1.toInt : Int) ≤ ((Fn 11) i44).toInt := Int32.le_iff_toInt_le.mp (Int32.not_lt.mp c_10)
                refine lv_iconst (v := 1) hx hb (oc_4 64 (aq_14 shX12_cheat_50)) kic_1 ?_
                refine lv_goto (tgt := 69) hx hb (oc_167 65 (aq_15 shX12_cheat_50) sgw_0_4) rfl ?_
                refine lv_istore (lv' := [(8, .int 1), (7, .int (nI i44)), (6, .int (nI n5)), (5, .int (nI n4)), (4, .int (nI n3)), (0, .ref (g 100)), (1, .int v0), (2, .int v1), (3, .int v2)]) hx hb dX12_cheat_69 hl (ltb rfl) rfl (fun ls hl => ?_)
                refine lv_iload hx hb dX12_cheat_71 (lvA4 hl) ?_
                refine lv_iload hx hb dX12_cheat_73 (lvA0 hl) ?_
                refine lv_if_eq (tgt := 82) hx hb dX12_cheat_75 rfl (fun h => absurd h cq_eq_1_0) (fun _ => ?_)
                refine lv_iconst (v := 1) hx hb (oc_4 78 (aq_3 shX12_cheat_75)) kic_1 ?_
                refine lv_goto (tgt := 83) hx hb (oc_167 79 (aq_4 shX12_cheat_75) sgw_0_4) rfl ?_
                refine lv_iadd hx hb dX12_cheat_83 ?_
                refine lv_topi (fun y_17 ey_17 => ?_)
                obtain rfl : y_17 = (nI (n3 + 1)) := ey_17.trans (nI_add n3 1)
                refine lv_istore (lv' := [(4, .int (nI (n3 + 1))), (8, .int 1), (7, .int (nI i44)), (6, .int (nI n5)), (5, .int (nI n4)), (0, .ref (g 100)), (1, .int v0), (2, .int v1), (3, .int v2)]) hx hb dX12_cheat_84 hl (ltb rfl) rfl (fun ls hl => ?_)
                refine lv_iload hx hb dX12_cheat_86 (lvA4 hl) ?_
                refine lv_aload_n hx hb dX12_cheat_88 rfl (lvA5 hl) ?_
                refine gM_25 S hK hP (v := .ref (g 8)) rfl dX12_cheat_89 ?_
                refine lv_iload hx hb dX12_cheat_92 (lvA2 hl) ?_
                refine ldM_8 hx hb hK hP (x := ((Fn 8) i44)) (vp_in_nI kb_1 (ltb rfl)) (nI_clamp (Nat.lt_trans kb_1 (ltb rfl))) rfl dX12_cheat_94 ?_
                refine lv_iload_n hx hb dX12_cheat_95 rfl (lvA6 hl) ?_
                refine lv_icmp_ne (tgt := 103) hx hb dX12_cheat_96 rfl (fun c_18 => ?_) (fun c_18 => ?_)
                ·
                  have tc_18 : (((Fn 8) i44).toInt : Int) ≠ v0.toInt := fun q => c_18 (Int32.toInt_inj.mp q)
                  refine lv_iconst (v := 0) hx hb dX12_cheat_103 kic_0 ?_
                  refine lv_iadd hx hb dX12_cheat_104 ?_
                  refine lv_topi (fun y_19 ey_19 => ?_)
                  obtain rfl : y_19 = (nI (n4 + 0)) := ey_19.trans (nI_add n4 0)
                  refine lv_istore (lv' := [(5, .int (nI (n4 + 0))), (4, .int (nI (n3 + 1))), (8, .int 1), (7, .int (nI i44)), (6, .int (nI n5)), (0, .ref (g 100)), (1, .int v0), (2, .int v1), (3, .int v2)]) hx hb dX12_cheat_105 hl (ltb rfl) rfl (fun ls hl => ?_)
                  refine lv_iload hx hb dX12_cheat_107 (lvA4 hl) ?_
                  refine lv_iload hx hb dX12_cheat_109 (lvA2 hl) ?_
                  refine lv_if_eq (tgt := 129) hx hb dX12_cheat_111 rfl (fun h => absurd h cq_eq_1_0) (fun _ => ?_)
                  refine lv_aload_n hx hb dX12_cheat_114 rfl (lvA5 hl) ?_
                  refine gM_25 S hK hP (v := .ref (g 8)) rfl dX12_cheat_115 ?_
                  refine lv_iload hx hb dX12_cheat_118 (lvA3 hl) ?_
                  refine ldM_8 hx hb hK hP (x := ((Fn 8) i44)) (vp_in_nI kb_1 (ltb rfl)) (nI_clamp (Nat.lt_trans kb_1 (ltb rfl))) rfl dX12_cheat_120 ?_
                  refine lv_iload_n hx hb dX12_cheat_121 rfl (lvA6 hl) ?_
                  refine lv_icmp_ne (tgt := 129) hx hb dX12_cheat_122 rfl (fun c_20 => ?_) (fun c_20 => ?_)
                  ·
                    have tc_20 : (((Fn 8) i44).toInt : Int) ≠ v0.toInt := fun q => c_20 (Int32.toInt_inj.mp q)
                    refine lv_iconst (v := 0) hx hb dX12_cheat_129 kic_0 ?_
                    refine lv_iadd hx hb dX12_cheat_130 ?_
                    refine lv_topi (fun y_21 ey_21 => ?_)
                    obtain rfl : y_21 = (nI (n5 + 0)) := ey_21.trans (nI_add n5 0)
                    refine lv_istore (lv' := [(6, .int (nI (n5 + 0))), (5, .int (nI (n4 + 0))), (4, .int (nI (n3 + 1))), (8, .int 1), (7, .int (nI i44)), (0, .ref (g 100)), (1, .int v0), (2, .int v1), (3, .int v2)]) hx hb dX12_cheat_131 hl (ltb rfl) rfl (fun ls hl => ?_)
                    refine lv_iinc (v := (nI (i44 + 1))) (lv' := [(7, .int (nI (i44 + 1))), (6, .int (nI (n5 + 0))), (5, .int (nI (n4 + 0))), (4, .int (nI (n3 + 1))), (8, .int 1), (0, .ref (g 100)), (1, .int v0), (2, .int v1), (3, .int v2)]) hx hb dX12_cheat_133 hl (k := 4) rfl (nI_1 _) (ltb rfl) rfl (fun ls hl => ?_)
                    refine lv_goto (tgt := 44) hx hb dX12_cheat_136 rfl ?_
                    exact ih44 (i44 + 1) (n3 + 1) (n4 + 0) (n5 + 0) (by (first | omega | (have zz0 := Hid.u hi_cn; omega))) ⟨(by (first | omega | (have zz0 := Hid.u hi_cn; omega))), ⟨by (first | omega | (have zz0 := Hid.u hi_cn; omega)), by (first | omega | (have zz0 := Hid.u hi_cn; omega)), by (first | omega | (have zz0 := Hid.u hi_cn; omega)), by (first | omega | (have zz0 := Hid.u hi_cn; omega))⟩, (sN_y hx44_1 (if_pos (by (first | omega | (have zz0 := Hid.u hi_cn; omega))))), (sN_n hx44_2 (if_neg (fun q9 => by exact absurd q9 (by assumption)))), (sN_n hx44_3 (if_neg (fun q9 => by first | (first | omega | (have zz0 := Hid.u hi_cn; omega)) | exact absurd q9 (by assumption) | exact absurd q9.1 (by assumption) | (have q8 := q9.2; (first | omega | (have zz0 := Hid.u hi_cn; omega))))))⟩ ls (lv_sub hl [0, 1, 2, 3, 5, 6, 7, 8] rfl)
                  ·
                    have tc_20 : (((Fn 8) i44).toInt : Int) = v0.toInt := congrArg Int32.toInt c_20
                    refine lv_iconst (v := 1) hx hb dX12_cheat_125 kic_1 ?_
                    refine lv_goto (tgt := 130) hx hb dX12_cheat_126 rfl ?_
                    refine lv_iadd hx hb dX12_cheat_130 ?_
                    refine lv_topi (fun y_22 ey_22 => ?_)
                    obtain rfl : y_22 = (nI (n5 + 1)) := ey_22.trans (nI_add n5 1)
                    refine lv_istore (lv' := [(6, .int (nI (n5 + 1))), (5, .int (nI (n4 + 0))), (4, .int (nI (n3 + 1))), (8, .int 1), (7, .int (nI i44)), (0, .ref (g 100)), (1, .int v0), (2, .int v1), (3, .int v2)]) hx hb dX12_cheat_131 hl (ltb rfl) rfl (fun ls hl => ?_)
                    refine lv_iinc (v := (nI (i44 + 1))) (lv' := [(7, .int (nI (i44 + 1))), (6, .int (nI (n5 + 1))), (5, .int (nI (n4 + 0))), (4, .int (nI (n3 + 1))), (8, .int 1), (0, .ref (g 100)), (1, .int v0), (2, .int v1), (3, .int v2)]) hx hb dX12_cheat_133 hl (k := 4) rfl (nI_1 _) (ltb rfl) rfl (fun ls hl => ?_)
                    refine lv_goto (tgt := 44) hx hb dX12_cheat_136 rfl ?_
                    exact ih44 (i44 + 1) (n3 + 1) (n4 + 0) (n5 + 1) (by (first | omega | (have zz0 := Hid.u hi_cn; omega))) ⟨(by (first | omega | (have zz0 := Hid.u hi_cn; omega))), ⟨by (first | omega | (have zz0 := Hid.u hi_cn; omega)), by (first | omega | (have zz0 := Hid.u hi_cn; omega)), by (first | omega | (have zz0 := Hid.u hi_cn; omega)), by (first | omega | (have zz0 := Hid.u hi_cn; omega))⟩, (sN_y hx44_1 (if_pos (by (first | omega | (have zz0 := Hid.u hi_cn; omega))))), (sN_n hx44_2 (if_neg (fun q9 => by exact absurd q9 (by assumption)))), (sN_y hx44_3 (if_pos ⟨by assumption, by (first | omega | (have zz0 := Hid.u hi_cn; omega))⟩))⟩ ls (lv_sub hl [0, 1, 2, 3, 5, 6, 7, 8] rfl)
                ·
                  have tc_18 : (((Fn 8) i44).toInt : Int) = v0.toInt := congrArg Int32.toInt c_18
                  refine lv_iconst (v := 1) hx hb dX12_cheat_99 kic_1 ?_
                  refine lv_goto (tgt := 104) hx hb dX12_cheat_100 rfl ?_
                  refine lv_iadd hx hb dX12_cheat_104 ?_
                  refine lv_topi (fun y_23 ey_23 => ?_)
                  obtain rfl : y_23 = (nI (n4 + 1)) := ey_23.trans (nI_add n4 1)
                  refine lv_istore (lv' := [(5, .int (nI (n4 + 1))), (4, .int (nI (n3 + 1))), (8, .int 1), (7, .int (nI i44)), (6, .int (nI n5)), (0, .ref (g 100)), (1, .int v0), (2, .int v1), (3, .int v2)]) hx hb dX12_cheat_105 hl (ltb rfl) rfl (fun ls hl => ?_)
                  refine lv_iload hx hb dX12_cheat_107 (lvA4 hl) ?_
                  refine lv_iload hx hb dX12_cheat_109 (lvA2 hl) ?_
                  refine lv_if_eq (tgt := 129) hx hb dX12_cheat_111 rfl (fun h => absurd h cq_eq_1_0) (fun _ => ?_)
                  refine lv_aload_n hx hb dX12_cheat_114 rfl (lvA5 hl) ?_
                  refine gM_25 S hK hP (v := .ref (g 8)) rfl dX12_cheat_115 ?_
                  refine lv_iload hx hb dX12_cheat_118 (lvA3 hl) ?_
                  refine ldM_8 hx hb hK hP (x := ((Fn 8) i44)) (vp_in_nI kb_1 (ltb rfl)) (nI_clamp (Nat.lt_trans kb_1 (ltb rfl))) rfl dX12_cheat_120 ?_
                  refine lv_iload_n hx hb dX12_cheat_121 rfl (lvA6 hl) ?_
                  refine lv_icmp_ne (tgt := 129) hx hb dX12_cheat_122 rfl (fun c_24 => ?_) (fun c_24 => ?_)
                  ·
                    have tc_24 : (((Fn 8) i44).toInt : Int) ≠ v0.toInt := fun q => c_24 (Int32.toInt_inj.mp q)
                    refine lv_iconst (v := 0) hx hb dX12_cheat_129 kic_0 ?_
                    refine lv_iadd hx hb dX12_cheat_130 ?_
                    refine lv_topi (fun y_25 ey_25 => ?_)
                    obtain rfl : y_25 = (nI (n5 + 0)) := ey_25.trans (nI_add n5 0)
                    refine lv_istore (lv' := [(6, .int (nI (n5 + 0))), (5, .int (nI (n4 + 1))), (4, .int (nI (n3 + 1))), (8, .int 1), (7, .int (nI i44)), (0, .ref (g 100)), (1, .int v0), (2, .int v1), (3, .int v2)]) hx hb dX12_cheat_131 hl (ltb rfl) rfl (fun ls hl => ?_)
                    refine lv_iinc (v := (nI (i44 + 1))) (lv' := [(7, .int (nI (i44 + 1))), (6, .int (nI (n5 + 0))), (5, .int (nI (n4 + 1))), (4, .int (nI (n3 + 1))), (8, .int 1), (0, .ref (g 100)), (1, .int v0), (2, .int v1), (3, .int v2)]) hx hb dX12_cheat_133 hl (k := 4) rfl (nI_1 _) (ltb rfl) rfl (fun ls hl => ?_)
                    refine lv_goto (tgt := 44) hx hb dX12_cheat_136 rfl ?_
                    exact ih44 (i44 + 1) (n3 + 1) (n4 + 1) (n5 + 0) (by (first | omega | (have zz0 := Hid.u hi_cn; omega))) ⟨(by (first | omega | (have zz0 := Hid.u hi_cn; omega))), ⟨by (first | omega | (have zz0 := Hid.u hi_cn; omega)), by (first | omega | (have zz0 := Hid.u hi_cn; omega)), by (first | omega | (have zz0 := Hid.u hi_cn; omega)), by (first | omega | (have zz0 := Hid.u hi_cn; omega))⟩, (sN_y hx44_1 (if_pos (by (first | omega | (have zz0 := Hid.u hi_cn; omega))))), (sN_y hx44_2 (if_pos (by assumption))), (sN_n hx44_3 (if_neg (fun q9 => by first | (first | omega | (have zz0 := Hid.u hi_cn; omega)) | exact absurd q9 (by assumption) | exact absurd q9.1 (by assumption) | (have q8 := q9.2; (first | omega | (have zz0 := Hid.u hi_cn; omega))))))⟩ ls (lv_sub hl [0, 1, 2, 3, 5, 6, 7, 8] rfl)
                  ·
                    have tc_24 : (((Fn 8) i44).toInt : Int) = v0.toInt := congrArg Int32.toInt c_24
                    refine lv_iconst (v := 1) hx hb dX12_cheat_125 kic_1 ?_
                    refine lv_goto (tgt := 130) hx hb dX12_cheat_126 rfl ?_
                    refine lv_iadd hx hb dX12_cheat_130 ?_
                    refine lv_topi (fun y_26 ey_26 => ?_)
                    obtain rfl : y_26 = (nI (n5 + 1)) := ey_26.trans (nI_add n5 1)
                    refine lv_istore (lv' := [(6, .int (nI (n5 + 1))), (5, .int (nI (n4 + 1))), (4, .int (nI (n3 + 1))), (8, .int 1), (7, .int (nI i44)), (0, .ref (g 100)), (1, .int v0), (2, .int v1), (3, .int v2)]) hx hb dX12_cheat_131 hl (ltb rfl) rfl (fun ls hl => ?_)
                    refine lv_iinc (v := (nI (i44 + 1))) (lv' := [(7, .int (nI (i44 + 1))), (6, .int (nI (n5 + 1))), (5, .int (nI (n4 + 1))), (4, .int (nI (n3 + 1))), (8, .int 1), (0, .ref (g 100)), (1, .int v0), (2, .int v1), (3, .int v2)]) hx hb dX12_cheat_133 hl (k := 4) rfl (nI_1 _) (ltb rfl) rfl (fun ls hl => ?_)
                    refine lv_goto (tgt := 44) hx hb dX12_cheat_136 rfl ?_
                    exact ih44 (i44 + 1) (n3 + 1) (n4 + 1) (n5 + 1) (by (first | omega | (have zz0 := Hid.u hi_cn; omega))) ⟨(by (first | omega | (have zz0 := Hid.u hi_cn; omega))), ⟨by (first | omega | (have zz0 := Hid.u hi_cn; omega)), by (first | omega | (have zz0 := Hid.u hi_cn; omega)), by (first | omega | (have zz0 := Hid.u hi_cn; omega)), by (first | omega | (have zz0 := Hid.u hi_cn; omega))⟩, (sN_y hx44_1 (if_pos (by (first | omega | (have zz0 := Hid.u hi_cn; omega))))), (sN_y hx44_2 (if_pos (by assumption))), (sN_y hx44_3 (if_pos ⟨by assumption, by (first | omega | (have zz0 := Hid.u hi_cn; omega))⟩))⟩ ls (lv_sub hl [0, 1, 2, 3, 5, 6, 7, 8] rfl)
        exact lp_44 _ 0 0 0 0 (Nat.lt_succ_self _) ⟨(by (first | omega | (have zz0 := Hid.u hi_cn; omega))), ⟨by (first | omega | (have zz0 := Hid.u hi_cn; omega)), by (first | omega | (have zz0 := Hid.u hi_cn; omega)), by (first | omega | (have zz0 := Hid.u hi_cn; omega)), by (first | omega | (have zz0 := Hid.u hi_cn; omega))⟩, rfl, rfl, rfl⟩ ls (lv_sub hl [0, 1, 2, 3, 4, 5, 6, 7] rfl)
      ·
        have h_6 : ¬ (0 ≤ v2.toInt ∧ v2.toInt ≤ 2) := h_6
        refine lv_if_ne (tgt := 32) hx hb dX12_cheat_25 rfl (fun h => absurd h cq_eq_0_0) (fun _ => ?_)
        refine lv_ldc2 (v := (-1)) hx hb hown (S.2.2.2.2 _ (wk8_6 5 rfl rfl)) dX12_cheat_28 ?_
        exact W.lret (v := (-1)) hx hb hr (fun t ht hW => ⟨(-1), rfl, (Or.inr ⟨by (first | omega | (have zz0 := Hid.u hi_cn; omega)), rfl⟩), ht⟩) (fun _ h => absurd h List.not_mem_nil) dX12_cheat_31
    ·
      have h_4 : ¬ (0 ≤ v1.toInt ∧ v1.toInt ≤ 1000) := h_4
      refine lv_if_eq (tgt := 28) hx hb dX12_cheat_16 rfl (fun _ => ?_) (fun h => absurd h cq_eq_0_0)
      refine lv_ldc2 (v := (-1)) hx hb hown (S.2.2.2.2 _ (wk8_6 5 rfl rfl)) dX12_cheat_28 ?_
      exact W.lret (v := (-1)) hx hb hr (fun t ht hW => ⟨(-1), rfl, (Or.inr ⟨by (first | omega | (have zz0 := Hid.u hi_cn; omega)), rfl⟩), ht⟩) (fun _ h => absurd h List.not_mem_nil) dX12_cheat_31
  ·
    have h_2 : ¬ (0 ≤ v0.toInt ∧ v0.toInt < ((cn 1) : Int)) := h_2
    refine lv_if_eq (tgt := 28) hx hb dX12_cheat_5 rfl (fun _ => ?_) (fun h => absurd h cq_eq_0_0)
    refine lv_ldc2 (v := (-1)) hx hb hown (S.2.2.2.2 _ (wk8_6 5 rfl rfl)) dX12_cheat_28 ?_
    exact W.lret (v := (-1)) hx hb hr (fun t ht hW => ⟨(-1), rfl, (Or.inr ⟨by (first | omega | (have zz0 := Hid.u hi_cn; omega)), rfl⟩), ht⟩) (fun _ h => absurd h List.not_mem_nil) dX12_cheat_31
