/-- Pascal's numbers -/
def bn : Nat → Nat → Nat
  | _, 0 => 1
  | 0, _ + 1 => 0
  | n + 1, k + 1 => bn n k + bn n (k + 1)
theorem bn_0 (n : Nat) : bn n 0 = 1 := by cases n <;> rfl
theorem bn_s (n k : Nat) : bn (n + 1) (k + 1) = bn n k + bn n (k + 1) := rfl
theorem bn_big : ∀ n k : Nat, n < k → bn n k = 0
  | 0, k + 1, _ => rfl
  | n + 1, k + 1, h => by rw [bn_s, bn_big n k (by omega), bn_big n (k + 1) (by omega)]
theorem bn_h {A B C E n k : Nat} (i1 : A * (k + 1) = C * (n + 1)) (i2 : B * (k + 1 + 1) = E * (n + 1)) (s : A = C + E) : (A + B) * (k + 1 + 1) = A * (n + 1 + 1) := by
  have t : A * (n + 1) = C * (n + 1) + E * (n + 1) := by rw [s, Nat.add_mul]
  have u : A * (k + 1 + 1) = A * (k + 1) + A := Nat.mul_succ _ _
  have v : A * (n + 1 + 1) = A * (n + 1) + A := Nat.mul_succ _ _
  rw [Nat.add_mul, i2, u, v, i1, t]
  omega
theorem bn_ab : ∀ n k : Nat, bn (n + 1) (k + 1) * (k + 1) = bn n k * (n + 1)
  | 0, 0 => rfl
  | 0, k + 1 => by rw [bn_big (0 + 1) (k + 1 + 1) (by omega), bn_big 0 (k + 1) (by omega), Nat.zero_mul, Nat.zero_mul]
  | n + 1, 0 => by
    have ih := bn_ab n 0
    have s : bn (n + 1 + 1) (0 + 1) = bn (n + 1) 0 + bn (n + 1) (0 + 1) := bn_s (n + 1) 0
    rw [bn_0] at ih s
    rw [s, bn_0]
    omega
  | n + 1, k + 1 => bn_h (bn_ab n k) (bn_ab n (k + 1)) (bn_s n k)
theorem bn_st {n i : Nat} (h : i ≤ n) : bn n i * (n - i) = bn n (i + 1) * (i + 1) := by
  have a := bn_ab n i
  rw [bn_s, Nat.add_mul] at a
  have e : bn n i * (n + 1) = bn n i * (n - i) + bn n i * (i + 1) := by rw [← Nat.mul_add, show n - i + (i + 1) = n + 1 by omega]
  omega
def fc : Nat → Nat
  | 0 => 1
  | n + 1 => (n + 1) * fc n
theorem fc_pos : ∀ n : Nat, 0 < fc n
  | 0 => Nat.one_pos
  | n + 1 => Nat.mul_pos (Nat.succ_pos n) (fc_pos n)
theorem bn_fc : ∀ a b : Nat, bn (a + b) a * (fc a * fc b) = fc (a + b)
  | 0, b => by
    rw [Nat.zero_add, bn_0]
    show 1 * (1 * fc b) = fc b
    omega
  | a + 1, b => by
    have i := bn_fc a b
    have s := bn_ab (a + b) a
    rw [show a + 1 + b = a + b + 1 by omega]
    show bn (a + b + 1) (a + 1) * ((a + 1) * fc a * fc b) = (a + b + 1) * fc (a + b)
    have e1 : bn (a + b + 1) (a + 1) * ((a + 1) * fc a * fc b) = (bn (a + b + 1) (a + 1) * (a + 1)) * (fc a * fc b) := by ac_rfl
    have e2 : (a + b + 1) * (bn (a + b) a * (fc a * fc b)) = (bn (a + b) a * (a + b + 1)) * (fc a * fc b) := by ac_rfl
    rw [e1, ← i, e2, s]
theorem bn_sym {n k : Nat} (h : k ≤ n) : bn n k = bn n (n - k) := by
  obtain ⟨b, rfl⟩ : ∃ b, n = k + b := ⟨n - k, by omega⟩
  have i := bn_fc k b
  have j := bn_fc b k
  rw [Nat.add_comm b k, Nat.mul_comm (fc b)] at j
  rw [show k + b - k = b by omega]
  exact Nat.eq_of_mul_eq_mul_right (Nat.mul_pos (fc_pos k) (fc_pos b)) (i.trans j.symm)
theorem bn_min {n k : Nat} (h : k ≤ n) : bn n (min k (n - k)) = bn n k := by
  rcases Nat.le_total k (n - k) with q | q
  · rw [Nat.min_eq_left q]
  · rw [Nat.min_eq_right q, ← bn_sym h]
theorem bn_pos : ∀ n k : Nat, k ≤ n → 0 < bn n k
  | n, 0, _ => by rw [bn_0]; exact Nat.one_pos
  | n + 1, k + 1, h => by rw [bn_s]; have := bn_pos n k (by omega); omega
theorem bn_up : ∀ n k : Nat, bn n k ≤ bn (n + 1) k
  | n, 0 => by rw [bn_0, bn_0]; exact Nat.le_refl 1
  | n, k + 1 => by rw [bn_s n k]; omega
theorem bn_mo {n j : Nat} : ∀ m : Nat, bn n j ≤ bn (m + n) j
  | 0 => by rw [Nat.zero_add]; exact Nat.le_refl _
  | m + 1 => by rw [show m + 1 + n = m + n + 1 by omega]; exact Nat.le_trans (bn_mo m) (bn_up _ _)
theorem bn_mul : ∀ m i n j : Nat, bn m i * bn n j ≤ bn (m + n) (i + j)
  | m, 0, n, j => by rw [bn_0, Nat.one_mul, Nat.zero_add]; exact bn_mo m
  | 0, i + 1, n, j => by rw [bn_big 0 (i + 1) (by omega), Nat.zero_mul]; exact Nat.zero_le _
  | m + 1, i + 1, n, j => by
    have a := bn_mul m i n j
    have b := bn_mul m (i + 1) n j
    rw [show i + 1 + j = i + j + 1 by omega] at b
    rw [bn_s, Nat.add_mul, show m + 1 + n = m + n + 1 by omega, show i + 1 + j = i + j + 1 by omega, bn_s]
    omega
theorem chD_bn (d : Nat) : ∀ q : Nat, chD d q = bn (d + q) q
  | 0 => (bn_0 _).symm
  | q + 1 => by
    show chD d q * (d + (q + 1)) / (q + 1) = bn (d + q + 1) (q + 1)
    rw [chD_bn d q, show d + (q + 1) = d + q + 1 by omega, ← bn_ab, Nat.mul_div_cancel _ (by omega)]
theorem bn_K {n : Nat} (hn : n ≤ 60) (k : Nat) : bn n k ≤ 118264581564861424 := by
  by_cases q : k ≤ n
  · have e := chD_bn (n - k) k
    rw [show n - k + k = n by omega] at e
    rw [← e]
    have : ∀ d : Fin 61, ∀ q : Fin 61, d.val + q.val ≤ 60 → chD d.val q.val ≤ 118264581564861424 := by decide +kernel
    exact this ⟨n - k, by omega⟩ ⟨k, by omega⟩ (by show n - k + k ≤ 60; omega)
  · rw [bn_big n k (by omega)]; omega
theorem bn_b {n k j : Nat} (hn : n ≤ 60) (hj : j ≤ 61) : bn n k * j < 2 ^ 63 := by
  have := Nat.mul_le_mul (bn_K hn k) hj
  omega
theorem bn_lt {n k : Nat} (hn : n ≤ 60) : bn n k < 2 ^ 63 := by
  have := bn_K hn k
  omega
/-- the four factors' number, the same for both -/
theorem bn_tri (i a b d : Nat) : bn (i + a) i * bn (b + d) b * bn (i + a + (b + d)) (i + a) * (fc i * fc a * (fc b * fc d)) = fc (i + a + (b + d)) := by
  have e1 := bn_fc i a
  have e2 := bn_fc b d
  have e3 := bn_fc (i + a) (b + d)
  rw [← e1, ← e2] at e3
  have e : bn (i + a) i * bn (b + d) b * bn (i + a + (b + d)) (i + a) * (fc i * fc a * (fc b * fc d)) = bn (i + a + (b + d)) (i + a) * (bn (i + a) i * (fc i * fc a) * (bn (b + d) b * (fc b * fc d))) := by ac_rfl
  exact e.trans e3
/-- the sum of n of f from b on -/
def hsum (f : Nat → Nat) (b : Nat) : Nat → Nat
  | 0 => 0
  | n + 1 => hsum f b n + f (b + n)
theorem hs_1 {x : Int64} {f : Nat → Nat} {b i t : Nat} (hb : b ≤ i) (h : x = lN (hsum f b (i - b))) (ht : f i = t) : x + lN t = lN (hsum f b (i + 1 - b)) := by
  obtain ⟨n, rfl⟩ : ∃ n, i = b + n := ⟨i - b, by omega⟩
  rw [show b + n - b = n by omega] at h
  rw [show b + n + 1 - b = n + 1 by omega, h, lN_add, ← ht]
  rfl
theorem hs_K {f : Nat → Nat} {b K : Nat} : ∀ n : Nat, (∀ j : Nat, j < n → f (b + j) ≤ K) → hsum f b n ≤ n * K
  | 0, _ => Nat.zero_le _
  | n + 1, h => by
    have a := hs_K n (fun j hj => h j (by omega))
    have c := h n (by omega)
    rw [Nat.succ_mul]
    show hsum f b n + f (b + n) ≤ n * K + K
    omega
theorem hs_lt {f : Nat → Nat} {b n : Nat} (hn : n ≤ 61) (h : ∀ j : Nat, j < n → f (b + j) ≤ 118264581564861424) : hsum f b n < 2 ^ 63 := by
  have a := hs_K n h
  have c := Nat.mul_le_mul_right 118264581564861424 hn
  omega
theorem hs_z {f : Nat → Nat} {b n : Nat} : ∀ m : Nat, (∀ j : Nat, n ≤ j → j < n + m → f (b + j) = 0) → hsum f b (n + m) = hsum f b n
  | 0, _ => rfl
  | m + 1, h => by
    show hsum f b (n + m) + f (b + (n + m)) = hsum f b n
    rw [hs_z m (fun j h1 h2 => h j h1 (by omega)), h (n + m) (by omega) (by omega)]
    omega
theorem hs_mul {f h : Nat → Nat} {b x y : Nat} : ∀ n : Nat, (∀ j : Nat, j < n → f (b + j) * x = h (b + j) * y) → hsum f b n * x = hsum h b n * y
  | 0, _ => by show 0 * x = 0 * y; rw [Nat.zero_mul, Nat.zero_mul]
  | n + 1, e => by
    show (hsum f b n + f (b + n)) * x = (hsum h b n + h (b + n)) * y
    rw [Nat.add_mul, Nat.add_mul, hs_mul n (fun j hj => e j (by omega)), e n (by omega)]
/-- n over v; 0 where v is below 0 -/
def bz (n : Nat) (v : Int32) : Nat := if 0 ≤ v.toInt then bn n v.toInt.toNat else 0
theorem bz_n {n d : Nat} (h : d < 2 ^ 31) : bz n (nI d) = bn n d := by
  unfold bz
  have t : (nI d).toInt = (d : Int) := nI_toInt h
  rw [t, if_pos (by omega)]
  rfl
theorem bz_0 {n : Nat} {v : Int32} (h : v.toInt < 0 ∨ (n : Int) < v.toInt) : bz n v = 0 := by
  unfold bz
  split
  · exact bn_big _ _ (by omega)
  · rfl
theorem bz_K {n : Nat} (hn : n ≤ 60) (v : Int32) : bz n v ≤ 118264581564861424 := by
  unfold bz
  split
  · exact bn_K hn _
  · omega
theorem bz_lt {n : Nat} {v : Int32} (hn : n ≤ 60) : bz n v < 2 ^ 63 := by
  have := bz_K hn v
  omega
def tC (m g N i : Nat) : Nat := bn m i * bn (N - m) (g - i)
def tR (m g N q : Nat) : Nat := bz g (nI q) * bz (N - g) (nI m - nI q)
theorem sub_z {m q n : Nat} (hm : m ≤ 60) (hq : q ≤ 60) : bz n (nI m - nI q) = if q ≤ m then bn n (m - q) else 0 := by
  have t1 : (nI m).toInt = (m : Int) := nI_toInt (by omega)
  have t2 : (nI q).toInt = (q : Int) := nI_toInt (by omega)
  have e : (nI m - nI q).toInt = (m : Int) - q := by
    rw [Int32.toInt_sub, t1, t2]
    exact Int.bmod_eq_of_le (by show -(2 ^ 31 : Int) ≤ (m : Int) - q; omega) (by show (m : Int) - q < (2 ^ 31 : Int); omega)
  unfold bz
  rw [e]
  by_cases h : q ≤ m
  · rw [if_pos h, if_pos (by omega), show ((m : Int) - q).toNat = m - q by omega]
  · rw [if_neg h, if_neg (by omega)]
theorem tR_eq {m g N q : Nat} (hm : m ≤ 60) (hq : q ≤ 60) : tR m g N q = bn g q * (if q ≤ m then bn (N - g) (m - q) else 0) := by
  unfold tR
  rw [bz_n (by omega), sub_z hm hq]
theorem tC_K {m g N : Nat} (hN : N ≤ 60) (hm : m ≤ N) (i : Nat) : tC m g N i ≤ 118264581564861424 := by
  have a := bn_mul m i (N - m) (g - i)
  rw [show m + (N - m) = N by omega] at a
  exact Nat.le_trans a (bn_K hN _)
theorem tR_K {m g N : Nat} (hN : N ≤ 60) (hm : m ≤ N) (hg : g ≤ N) {q : Nat} (hq : q ≤ 60) : tR m g N q ≤ 118264581564861424 := by
  rw [tR_eq (by omega) hq]
  split
  · have a := bn_mul g q (N - g) (m - q)
    rw [show g + (N - g) = N by omega] at a
    exact Nat.le_trans a (bn_K hN _)
  · omega
theorem t_eq {m g N i : Nat} (hN : N ≤ 60) (hm : m ≤ N) (hg : g ≤ N) (h1 : i ≤ m) (h2 : i ≤ g) : tC m g N i * bn N m = tR m g N i * bn N g := by
  rw [tR_eq (by omega) (by omega), if_pos h1]
  unfold tC
  by_cases q : g - i ≤ N - m
  · obtain ⟨a, rfl⟩ : ∃ a, m = i + a := ⟨m - i, by omega⟩
    obtain ⟨b, rfl⟩ : ∃ b, g = i + b := ⟨g - i, by omega⟩
    obtain ⟨d, rfl⟩ : ∃ d, N = i + a + (b + d) := ⟨N - (i + a) - b, by omega⟩
    have e1 := bn_tri i a b d
    have e2 := bn_tri i b a d
    rw [show i + a + (b + d) - (i + a) = b + d by omega, show i + b - i = b by omega, show i + a + (b + d) - (i + b) = a + d by omega, show i + a - i = a by omega]
    rw [show i + b + (a + d) = i + a + (b + d) by omega] at e2
    have e3 : fc i * fc b * (fc a * fc d) = fc i * fc a * (fc b * fc d) := by ac_rfl
    rw [e3] at e2
    exact Nat.eq_of_mul_eq_mul_right (Nat.mul_pos (Nat.mul_pos (fc_pos i) (fc_pos a)) (Nat.mul_pos (fc_pos b) (fc_pos d))) (e1.trans e2.symm)
  · rw [bn_big (N - m) (g - i) (by omega), bn_big (N - g) (m - i) (by omega)]
    simp
theorem od_frac {S A T B : Nat} (hA : 0 < A) (hB : 0 < B) (e : S * B = T * A) : S / Nat.gcd S A = T / Nat.gcd T B ∧ A / Nat.gcd S A = B / Nat.gcd T B := by
  have g : Nat.gcd S A * B = Nat.gcd T B * A := by
    rw [← Nat.gcd_mul_right, ← Nat.gcd_mul_right, e, Nat.mul_comm A B]
  constructor
  · rw [← Nat.mul_div_mul_right S (Nat.gcd S A) hB, ← Nat.mul_div_mul_right T (Nat.gcd T B) hA, e, g]
  · rw [← Nat.mul_div_mul_right A (Nat.gcd S A) hB, ← Nat.mul_div_mul_right B (Nat.gcd T B) hA, Nat.mul_comm A B, g]
def ODD (S A b : Nat) (w : Int32) (r : Int64) : Prop := (w = 2 ∧ r = lN b) ∨ (¬ w = 2 ∧ w = 0 ∧ r = lN (S / Nat.gcd S A)) ∨ (¬ w = 2 ∧ ¬ w = 0 ∧ r = lN (A / Nat.gcd S A))
/-- the class's odds -/
def ODX (m g b N : Nat) (w : Int32) (r : Int64) : Prop := ODD (hsum (tC m g N) b (min g m + 1 - b)) (bn N g) b w r
/-- the reference's -/
def ODM (m g b N : Nat) (w : Int32) (r : Int64) : Prop := ODD (hsum (tR m g N) b (g + 1 - b)) (bz N (nI m)) b w r
theorem ODD.un {S A T B b : Nat} {w : Int32} {r r2 : Int64} (e1 : S / Nat.gcd S A = T / Nat.gcd T B) (e2 : A / Nat.gcd S A = B / Nat.gcd T B) (h : ODD S A b w r) (h2 : ODD T B b w r2) : r = r2 := by
  rcases h with ⟨a, h⟩ | ⟨a, a2, h⟩ | ⟨a, a2, h⟩ <;> rcases h2 with ⟨c, h2⟩ | ⟨c, c2, h2⟩ | ⟨c, c2, h2⟩
  · rw [h, h2]
  · exact absurd a c
  · exact absurd a c
  · exact absurd c a
  · rw [h, h2, e1]
  · exact absurd a2 c2
  · exact absurd c a
  · exact absurd c2 a2
  · rw [h, h2, e2]
theorem ODX_eq {m g b N : Nat} {w : Int32} {r r2 : Int64} (hN : N ≤ 60) (hm : m ≤ N) (hg : g ≤ N) (hb : b ≤ m) (hb2 : b ≤ g) (h : ODX m g b N w r) (h2 : ODM m g b N w r2) : r = r2 := by
  have eB : bz N (nI m) = bn N m := bz_n (by omega)
  have z : hsum (tR m g N) b (g + 1 - b) = hsum (tR m g N) b (min g m + 1 - b) := by
    have := hs_z (f := tR m g N) (b := b) (n := min g m + 1 - b) (g - min g m) (fun j h1 h2 => by
      rw [tR_eq (by omega) (by omega), if_neg (by omega), Nat.mul_zero])
    rw [show min g m + 1 - b + (g - min g m) = g + 1 - b by omega] at this
    exact this
  unfold ODX at h
  unfold ODM at h2
  rw [eB, z] at h2
  obtain ⟨e1, e2⟩ := od_frac (bn_pos N g hg) (bn_pos N m hm) (hs_mul (f := tC m g N) (h := tR m g N) (b := b) (min g m + 1 - b) (fun j hj => t_eq hN hm hg (by omega) (by omega)))
  exact ODD.un e1 e2 h h2
theorem gcd_lt {S A : Nat} (h0 : 0 < A) (h : A < 2 ^ 63) : Nat.gcd S A < 2 ^ 63 := Nat.lt_of_le_of_lt (Nat.gcd_le_right S h0) h
theorem gcd_nz {S A : Nat} (h0 : 0 < A) (h : A < 2 ^ 63) : ¬ lN (Nat.gcd S A) = 0 := lN_ne (Nat.gcd_pos_of_pos_right S h0) (gcd_lt h0 h)
theorem dvS {X S A : Nat} (hX : X < 2 ^ 63) (h0 : 0 < A) (h : A < 2 ^ 63) : lN X / lN (Nat.gcd S A) = lN (X / Nat.gcd S A) := lN_div hX (gcd_lt h0 h)
/-- the divisor's loop -/
def GC (S B : Nat) (x y : Int64) : Prop := ∃ a b : Nat, x = lN a ∧ y = lN b ∧ a < 2 ^ 63 ∧ b < 2 ^ 63 ∧ Nat.gcd a b = Nat.gcd S B
theorem lN_z {b : Nat} (hb : b < 2 ^ 63) (h : lN b = 0) : b = 0 := Classical.byContradiction fun q => lN_ne (by omega) hb h
theorem GC.st {S B : Nat} {x y : Int64} (h : GC S B x y) (hy : ¬ y = 0) : GC S B y (x - x / y * y) := by
  obtain ⟨a, b, rfl, rfl, ha, hb, e⟩ := h
  have b0 : 0 < b := Nat.pos_of_ne_zero (fun q => hy (by rw [q]; rfl))
  have l := Nat.mod_lt a b0
  refine ⟨b, a % b, rfl, pk_lRem ha b0 hb, hb, by omega, ?_⟩
  rw [Nat.gcd_comm, ← Nat.gcd_rec, Nat.gcd_comm, e]
theorem GC.fin {S B : Nat} {x y : Int64} (h : GC S B x y) (hy : y = 0) : x = lN (Nat.gcd S B) := by
  obtain ⟨a, b, rfl, rfl, ha, hb, e⟩ := h
  have b0 := lN_z hb hy
  rw [b0, Nat.gcd_zero_right] at e
  rw [e]
/-- the class's: it ends within 200 steps -/
def DVG (S B i : Nat) (x y : Int64) : Prop := ∃ a b : Nat, x = lN a ∧ y = lN b ∧ a < 2 ^ 63 ∧ b < 2 ^ 63 ∧ Nat.gcd a b = Nat.gcd S B ∧ (i = 0 ∨ (b < a ∧ a * b * 2 ^ (i - 1) ≤ 2 ^ 126))
theorem mod_half {a b : Nat} (h : b < a) (h0 : 0 < b) : 2 * (a % b) ≤ a := by
  have e := Nat.div_add_mod a b
  have l := Nat.mod_lt a h0
  have d : 1 ≤ a / b := Nat.div_pos (by omega) h0
  have m := Nat.mul_le_mul_left b d
  omega
theorem DVG.st {S B i : Nat} {x y : Int64} (h : DVG S B i x y) (hy : ¬ y = 0) : DVG S B (i + 1) y (x - x / y * y) := by
  obtain ⟨a, b, rfl, rfl, ha, hb, e, p⟩ := h
  have b0 : 0 < b := Nat.pos_of_ne_zero (fun q => hy (by rw [q]; rfl))
  have l := Nat.mod_lt a b0
  refine ⟨b, a % b, rfl, pk_lRem ha b0 hb, hb, by omega, ?_, Or.inr ⟨l, ?_⟩⟩
  · rw [Nat.gcd_comm, ← Nat.gcd_rec, Nat.gcd_comm, e]
  · rw [show i + 1 - 1 = i by omega]
    rcases p with rfl | ⟨p1, p2⟩
    · have := Nat.mul_le_mul (show b ≤ 2 ^ 63 by omega) (show a % b ≤ 2 ^ 63 by omega)
      omega
    · by_cases i0 : i = 0
      · subst i0
        have := Nat.mul_le_mul (show b ≤ 2 ^ 63 by omega) (show a % b ≤ 2 ^ 63 by omega)
        omega
      · obtain ⟨j, rfl⟩ : ∃ j, i = j + 1 := ⟨i - 1, by omega⟩
        rw [show j + 1 - 1 = j by omega] at p2
        have hh := mod_half p1 b0
        have k := Nat.mul_le_mul_right (2 ^ j) (Nat.mul_le_mul_left b hh)
        have e1 : b * (a % b) * 2 ^ (j + 1) = b * (2 * (a % b)) * 2 ^ j := by rw [Nat.pow_succ]; ac_rfl
        rw [e1]
        rw [Nat.mul_comm b a] at k
        exact Nat.le_trans k p2
theorem DVG.fin {S B i : Nat} {x y : Int64} (h : DVG S B i x y) (q : i = 200 ∨ y = 0) : x = lN (Nat.gcd S B) := by
  obtain ⟨a, b, rfl, rfl, ha, hb, e, p⟩ := h
  have b0 : b = 0 := by
    rcases q with rfl | q
    · rcases p with p | ⟨p1, p2⟩
      · omega
      · refine Classical.byContradiction fun w => ?_
        have m := Nat.mul_le_mul (show 1 ≤ a by omega) (show 1 ≤ b by omega)
        have m2 := Nat.mul_le_mul_right (2 ^ (200 - 1)) m
        have c : ¬ (1 * 1 * 2 ^ (200 - 1) ≤ 2 ^ 126) := by decide
        exact c (Nat.le_trans m2 p2)
    · exact lN_z hb q
  rw [b0, Nat.gcd_zero_right] at e
  rw [e]
/-- how many of the first n -/
def sN (f : Nat → Nat) : Nat → Nat
  | 0 => 0
  | n + 1 => sN f n + f n
theorem sN_y {f : Nat → Nat} {n i : Nat} (h : n = sN f i) (hf : f i = 1) : n + 1 = sN f (i + 1) := by
  show n + 1 = sN f i + f i
  rw [← h, hf]
theorem sN_n {f : Nat → Nat} {n i : Nat} (h : n = sN f i) (hf : f i = 0) : n = sN f (i + 1) := by
  show n = sN f i + f i
  rw [← h, hf, Nat.add_zero]
theorem sN_b {f : Nat → Nat} (h : ∀ i : Nat, f i ≤ 1) : ∀ n : Nat, sN f n ≤ n
  | 0 => Nat.le_refl 0
  | n + 1 => by
    have a := sN_b h n
    have b := h n
    show sN f n + f n ≤ n + 1
    omega
theorem sN_le {f g : Nat → Nat} (h : ∀ i : Nat, f i ≤ g i) : ∀ n : Nat, sN f n ≤ sN g n
  | 0 => Nat.le_refl 0
  | n + 1 => by
    have a := sN_le h n
    have b := h n
    show sN f n + f n ≤ sN g n + g n
    omega
theorem sN_eq {f g : Nat → Nat} : ∀ n : Nat, (∀ i : Nat, i < n → f i = g i) → sN f n = sN g n
  | 0, _ => rfl
  | n + 1, h => by
    show sN f n + f n = sN g n + g n
    rw [sN_eq n (fun i hi => h i (by omega)), h n (by omega)]
theorem if1 {p : Prop} [Decidable p] : (if p then (1 : Nat) else 0) ≤ 1 := by split <;> omega
theorem ifle {p q : Prop} [Decidable p] [Decidable q] (h : p → q) : (if p then (1 : Nat) else 0) ≤ (if q then 1 else 0) := by
  by_cases hp : p
  · rw [if_pos hp, if_pos (h hp)]; exact Nat.le_refl 1
  · rw [if_neg hp]; exact Nat.zero_le _
theorem ifcg {p q : Prop} [Decidable p] [Decidable q] (h : p ↔ q) : (if p then (1 : Nat) else 0) = (if q then 1 else 0) := by
  by_cases hp : p
  · rw [if_pos hp, if_pos (h.mp hp)]
  · rw [if_neg hp, if_neg (fun w => hp (h.mpr w))]

set_option maxRecDepth 100000 in
theorem kS_RX11_246 : CalS RX11 246 yX11_choose cX11_choose 6 (some .long) 2 := ⟨⟨wT_tab 785 rfl rfl, wT_tab 786 rfl rfl, wT_tab 1 rfl rfl, wT_tab 787 rfl rfl⟩, ⟨by decide, by decide, by decide +kernel⟩⟩
set_option maxRecDepth 100000 in
theorem kS_RX11_250 : CalS RX11 250 yX11_divisor cX11_divisor 7 (some .long) 2 := ⟨⟨wT_tab 788 rfl rfl, wT_tab 789 rfl rfl, wT_tab 1 rfl rfl, wT_tab 790 rfl rfl⟩, ⟨by decide, by decide, by decide +kernel⟩⟩
set_option maxRecDepth 100000 in
theorem kS_RX12_344 : CalS RX12 344 yX12_choose cX12_choose 5 (some .long) 2 := ⟨⟨wT_tab 1766 rfl rfl, wT_tab 1767 rfl rfl, wT_tab 13 rfl rfl, wT_tab 1768 rfl rfl⟩, ⟨by decide, by decide, by decide +kernel⟩⟩
set_option maxRecDepth 100000 in
theorem kS_RX11_256 : CalS RX11 256 yX11_odds cX11_odds 11 (some .long) 5 := ⟨⟨wT_tab 782 rfl rfl, wT_tab 783 rfl rfl, wT_tab 1 rfl rfl, wT_tab 784 rfl rfl⟩, ⟨by decide, by decide, by decide +kernel⟩⟩
set_option maxRecDepth 100000 in
theorem kV_RX12_350 : CalV RX12 350 yX12_lacking cX12_lacking 3 (some .int) 0 := ⟨⟨wT_tab 1758 rfl rfl, wT_tab 1760 rfl rfl, wT_sel 92 _ rfl rfl rfl, wT_tab 13 rfl rfl, wT_tab 1761 rfl rfl⟩, ⟨by decide, by decide, by decide +kernel⟩⟩
set_option maxRecDepth 100000 in
theorem kV_RX12_353 : CalV RX12 353 yX12_byLot cX12_byLot 15 (some .long) 4 := ⟨⟨wT_tab 1762 rfl rfl, wT_tab 1764 rfl rfl, wT_sel 93 _ rfl rfl rfl, wT_tab 13 rfl rfl, wT_tab 1765 rfl rfl⟩, ⟨by decide, by decide, by decide +kernel⟩⟩
set_option maxRecDepth 100000 in
theorem gf_RX11_260 {p : Program} {l : Launch} {e : Env} {R : Room} {s : State} {m : MethodId} {args : Array Value} {below : List Frame} {meth : Method} {c : Code} {H : Heap} {locs : List Loc} {cells slots : Nat} {Q : State → Prop} {cc : ByteArray} {nL pc : Nat} {D : va_G} {cI cB cZ : ClassId} {ws : va_W} {rest : List Value} {ls : Array Slot} {a : Nat} {fs : List Value} {v : Value} (S : SF p m c cc nL s args RX11) (hK : KK D cI cB cZ s) (hP : va_P D vwCl ws H) (q0 : Nat) (he : ws[q0]? = some (a, .inr (2, fs))) (hv : fs[9]? = some v) (hdg : decode cc pc = .ok (.getfield 260, 3)) (kk : W p l e R s m args below meth c H locs cells slots Q (F0 m (pc + 3) ls (v :: rest))) : W p l e R s m args below meth c H locs cells slots Q (F0 m pc ls (.ref a :: rest)) :=
  va_get (C := RX1) (T := TX1) (N := 11) S.1 S.2.1 S.2.2.2.2 hin_RX1 S.2.2.2.1 hK.1 hP q0 he rfl 9 (by decide) (S.2.2.2.2 _ (wT_tab 328 rfl rfl)) (fun _ h9 => h9) hv hdg kk
set_option maxRecDepth 100000 in
theorem gM_95 {p : Program} {l : Launch} {e : Env} {R : Room} {s : State} {m : MethodId} {args : Array Value} {below : List Frame} {meth : Method} {c : Code} {H : Heap} {locs : List Loc} {cells slots : Nat} {Q : State → Prop} {cc : ByteArray} {nL pc : Nat} {D : va_G} {cI cB cZ : ClassId} {g cn : Nat → Nat} {In : Nat → Int32} {Fn : Nat → Nat → Int32} {rest : List Value} {ls : Array Slot} {v : Value} (S : SF p m c cc nL s args RX12) (hK : KK D cI cB cZ s) (hP : va_P D vwCl (wM cI cB cZ g cn In Fn) H) (hv : .ref (g 40) = v) (hdg : decode cc pc = .ok (.getfield 95, 3)) (kk : W p l e R s m args below meth c H locs cells slots Q (F0 m (pc + 3) ls (v :: rest))) : W p l e R s m args below meth c H locs cells slots Q (F0 m pc ls (.ref (g 100) :: rest)) :=
  va_get (C := RX12) (T := TX12) (N := 91) S.1 S.2.1 S.2.2.2.2 hin_RX12 S.2.2.2.1 hK.1 hP 0 rfl rfl 40 (by decide) (S.2.2.2.2 _ (wT_tab 1353 rfl rfl)) (fun _ h9 => h9) (congrArg some hv) hdg kk
set_option maxRecDepth 100000 in
theorem ldM_40 {p : Program} {l : Launch} {e : Env} {R : Room} {s : State} {m : MethodId} {args : Array Value} {below : List Frame} {meth : Method} {c : Code} {H : Heap} {locs : List Loc} {cells slots : Nat} {Q : State → Prop} {cc : ByteArray} {pc : Nat} {D : va_G} {cI cB cZ : ClassId} {g cn : Nat → Nat} {In : Nat → Int32} {Fn : Nat → Nat → Int32} {rest : List Value} {ls : Array Slot} {i : Int32} {ix : Nat} {x : Int32} (hx : p.tables.exec = Jvm.exec) (hb : c.code = cc) (hK : KK D cI cB cZ s) (hP : va_P D vwCl (wM cI cB cZ g cn In Fn) H) (hin : vp_in i 10) (hix : i.toNatClampNeg = ix) (hv : Fn 40 ix = x) (hdg : decode cc pc = .ok (.iaload, 1)) (kk : W p l e R s m args below meth c H locs cells slots Q (F0 m (pc + 1) ls (.int x :: rest))) : W p l e R s m args below meth c H locs cells slots Q (F0 m pc ls (.int i :: .ref (g 40) :: rest)) := by
  subst hix; subst hv
  exact va_iald hx hb hK.1 hP 29 0 rfl rfl hin hdg kk
set_option maxRecDepth 100000 in
theorem gf_RX11_205 {p : Program} {l : Launch} {e : Env} {R : Room} {s : State} {m : MethodId} {args : Array Value} {below : List Frame} {meth : Method} {c : Code} {H : Heap} {locs : List Loc} {cells slots : Nat} {Q : State → Prop} {cc : ByteArray} {nL pc : Nat} {D : va_G} {cI cB cZ : ClassId} {ws : va_W} {rest : List Value} {ls : Array Slot} {a : Nat} {fs : List Value} {v : Value} (S : SF p m c cc nL s args RX11) (hK : KK D cI cB cZ s) (hP : va_P D vwCl ws H) (q0 : Nat) (he : ws[q0]? = some (a, .inr (3, fs))) (hv : fs[3]? = some v) (hdg : decode cc pc = .ok (.getfield 205, 3)) (kk : W p l e R s m args below meth c H locs cells slots Q (F0 m (pc + 3) ls (v :: rest))) : W p l e R s m args below meth c H locs cells slots Q (F0 m pc ls (.ref a :: rest)) :=
  va_get (C := RX2) (T := TX2) (N := 10) S.1 S.2.1 S.2.2.2.2 hin_RX2 S.2.2.2.1 hK.1 hP q0 he rfl 3 (by decide) (S.2.2.2.2 _ (wT_tab 459 rfl rfl)) (fun _ h9 => h9) hv hdg kk
set_option maxRecDepth 100000 in
theorem gM_34 {p : Program} {l : Launch} {e : Env} {R : Room} {s : State} {m : MethodId} {args : Array Value} {below : List Frame} {meth : Method} {c : Code} {H : Heap} {locs : List Loc} {cells slots : Nat} {Q : State → Prop} {cc : ByteArray} {nL pc : Nat} {D : va_G} {cI cB cZ : ClassId} {g cn : Nat → Nat} {In : Nat → Int32} {Fn : Nat → Nat → Int32} {rest : List Value} {ls : Array Slot} {v : Value} (S : SF p m c cc nL s args RX12) (hK : KK D cI cB cZ s) (hP : va_P D vwCl (wM cI cB cZ g cn In Fn) H) (hv : .ref (g 11) = v) (hdg : decode cc pc = .ok (.getfield 34, 3)) (kk : W p l e R s m args below meth c H locs cells slots Q (F0 m (pc + 3) ls (v :: rest))) : W p l e R s m args below meth c H locs cells slots Q (F0 m pc ls (.ref (g 100) :: rest)) :=
  va_get (C := RX12) (T := TX12) (N := 91) S.1 S.2.1 S.2.2.2.2 hin_RX12 S.2.2.2.1 hK.1 hP 0 rfl rfl 11 (by decide) (S.2.2.2.2 _ (wT_tab 1324 rfl rfl)) (fun _ h9 => h9) (congrArg some hv) hdg kk
set_option maxRecDepth 100000 in
theorem ldM_11 {p : Program} {l : Launch} {e : Env} {R : Room} {s : State} {m : MethodId} {args : Array Value} {below : List Frame} {meth : Method} {c : Code} {H : Heap} {locs : List Loc} {cells slots : Nat} {Q : State → Prop} {cc : ByteArray} {pc : Nat} {D : va_G} {cI cB cZ : ClassId} {g cn : Nat → Nat} {In : Nat → Int32} {Fn : Nat → Nat → Int32} {rest : List Value} {ls : Array Slot} {i : Int32} {ix : Nat} {x : Int32} (hx : p.tables.exec = Jvm.exec) (hb : c.code = cc) (hK : KK D cI cB cZ s) (hP : va_P D vwCl (wM cI cB cZ g cn In Fn) H) (hin : vp_in i 60) (hix : i.toNatClampNeg = ix) (hv : Fn 11 ix = x) (hdg : decode cc pc = .ok (.iaload, 1)) (kk : W p l e R s m args below meth c H locs cells slots Q (F0 m (pc + 1) ls (.int x :: rest))) : W p l e R s m args below meth c H locs cells slots Q (F0 m pc ls (.int i :: .ref (g 11) :: rest)) := by
  subst hix; subst hv
  exact va_iald hx hb hK.1 hP 9 0 rfl rfl hin hdg kk
theorem dX11_choose_0 : decode cX11_choose 0 = .ok (.iload_n 1, 1) := by decide +kernel
theorem dX11_choose_1 : decode cX11_choose 1 = .ok (.ifCond .lt 8, 3) := by decide +kernel
theorem dX11_choose_4 : decode cX11_choose 4 = .ok (.iload_n 1, 1) := by decide +kernel
theorem dX11_choose_5 : decode cX11_choose 5 = .ok (.iload_n 0, 1) := by decide +kernel
theorem dX11_choose_6 : decode cX11_choose 6 = .ok (.if_icmp .le 5, 3) := by decide +kernel
theorem dX11_choose_11 : decode cX11_choose 11 = .ok (.lconst 1, 1) := by decide +kernel
theorem dX11_choose_12 : decode cX11_choose 12 = .ok (.lstore_n 2, 1) := by decide +kernel
theorem dX11_choose_13 : decode cX11_choose 13 = .ok (.iload_n 1, 1) := by decide +kernel
theorem dX11_choose_14 : decode cX11_choose 14 = .ok (.iload_n 0, 1) := by decide +kernel
theorem dX11_choose_15 : decode cX11_choose 15 = .ok (.iload_n 1, 1) := by decide +kernel
theorem dX11_choose_16 : decode cX11_choose 16 = .ok (.isub, 1) := by decide +kernel
theorem dX11_choose_17 : decode cX11_choose 17 = .ok (.invokestatic 227, 3) := by decide +kernel
theorem dX11_choose_20 : decode cX11_choose 20 = .ok (.istore 4, 2) := by decide +kernel
theorem dX11_choose_22 : decode cX11_choose 22 = .ok (.iconst 0, 1) := by decide +kernel
theorem dX11_choose_23 : decode cX11_choose 23 = .ok (.istore 5, 2) := by decide +kernel
theorem dX11_choose_25 : decode cX11_choose 25 = .ok (.iload 5, 2) := by decide +kernel
theorem dX11_choose_27 : decode cX11_choose 27 = .ok (.iload 4, 2) := by decide +kernel
theorem dX11_choose_29 : decode cX11_choose 29 = .ok (.if_icmp .ge 23, 3) := by decide +kernel
theorem dX11_choose_52 : decode cX11_choose 52 = .ok (.lload_n 2, 1) := by decide +kernel
theorem dX11_choose_53 : decode cX11_choose 53 = .ok (.lreturn, 1) := by decide +kernel
theorem dX11_choose_32 : decode cX11_choose 32 = .ok (.lload_n 2, 1) := by decide +kernel
theorem dX11_choose_33 : decode cX11_choose 33 = .ok (.iload_n 0, 1) := by decide +kernel
theorem dX11_choose_34 : decode cX11_choose 34 = .ok (.iload 5, 2) := by decide +kernel
theorem dX11_choose_36 : decode cX11_choose 36 = .ok (.isub, 1) := by decide +kernel
theorem dX11_choose_37 : decode cX11_choose 37 = .ok (.i2l, 1) := by decide +kernel
theorem dX11_choose_38 : decode cX11_choose 38 = .ok (.lmul, 1) := by decide +kernel
theorem dX11_choose_39 : decode cX11_choose 39 = .ok (.iload 5, 2) := by decide +kernel
theorem dX11_choose_41 : decode cX11_choose 41 = .ok (.iconst 1, 1) := by decide +kernel
theorem dX11_choose_42 : decode cX11_choose 42 = .ok (.iadd, 1) := by decide +kernel
theorem dX11_choose_43 : decode cX11_choose 43 = .ok (.i2l, 1) := by decide +kernel
theorem dX11_choose_44 : decode cX11_choose 44 = .ok (.ldiv, 1) := by decide +kernel
theorem dX11_choose_45 : decode cX11_choose 45 = .ok (.lstore_n 2, 1) := by decide +kernel
theorem dX11_choose_46 : decode cX11_choose 46 = .ok (.iinc 5 1, 3) := by decide +kernel
theorem dX11_choose_49 : decode cX11_choose 49 = .ok (.goto (-24), 3) := by decide +kernel
theorem dX11_choose_9 : decode cX11_choose 9 = .ok (.lconst 0, 1) := by decide +kernel
theorem dX11_choose_10 : decode cX11_choose 10 = .ok (.lreturn, 1) := by decide +kernel
theorem dX12_choose_0 : decode cX12_choose 0 = .ok (.iload_n 1, 1) := by decide +kernel
theorem dX12_choose_1 : decode cX12_choose 1 = .ok (.ifCond .lt 8, 3) := by decide +kernel
theorem dX12_choose_9 : decode cX12_choose 9 = .ok (.lconst 0, 1) := by decide +kernel
theorem dX12_choose_10 : decode cX12_choose 10 = .ok (.lreturn, 1) := by decide +kernel
theorem dX12_choose_4 : decode cX12_choose 4 = .ok (.iload_n 1, 1) := by decide +kernel
theorem dX12_choose_5 : decode cX12_choose 5 = .ok (.iload_n 0, 1) := by decide +kernel
theorem dX12_choose_6 : decode cX12_choose 6 = .ok (.if_icmp .le 5, 3) := by decide +kernel
theorem dX12_choose_11 : decode cX12_choose 11 = .ok (.lconst 1, 1) := by decide +kernel
theorem dX12_choose_12 : decode cX12_choose 12 = .ok (.lstore_n 2, 1) := by decide +kernel
theorem dX12_choose_13 : decode cX12_choose 13 = .ok (.iconst 1, 1) := by decide +kernel
theorem dX12_choose_14 : decode cX12_choose 14 = .ok (.istore 4, 2) := by decide +kernel
theorem dX12_choose_16 : decode cX12_choose 16 = .ok (.iload 4, 2) := by decide +kernel
theorem dX12_choose_18 : decode cX12_choose 18 = .ok (.iload_n 1, 1) := by decide +kernel
theorem dX12_choose_19 : decode cX12_choose 19 = .ok (.if_icmp .gt 23, 3) := by decide +kernel
theorem dX12_choose_42 : decode cX12_choose 42 = .ok (.lload_n 2, 1) := by decide +kernel
theorem dX12_choose_43 : decode cX12_choose 43 = .ok (.lreturn, 1) := by decide +kernel
theorem dX12_choose_22 : decode cX12_choose 22 = .ok (.lload_n 2, 1) := by decide +kernel
theorem dX12_choose_23 : decode cX12_choose 23 = .ok (.iload_n 0, 1) := by decide +kernel
theorem dX12_choose_24 : decode cX12_choose 24 = .ok (.iload_n 1, 1) := by decide +kernel
theorem dX12_choose_25 : decode cX12_choose 25 = .ok (.isub, 1) := by decide +kernel
theorem dX12_choose_26 : decode cX12_choose 26 = .ok (.iload 4, 2) := by decide +kernel
theorem dX12_choose_28 : decode cX12_choose 28 = .ok (.iadd, 1) := by decide +kernel
theorem dX12_choose_29 : decode cX12_choose 29 = .ok (.i2l, 1) := by decide +kernel
theorem dX12_choose_30 : decode cX12_choose 30 = .ok (.lmul, 1) := by decide +kernel
theorem dX12_choose_31 : decode cX12_choose 31 = .ok (.iload 4, 2) := by decide +kernel
theorem dX12_choose_33 : decode cX12_choose 33 = .ok (.i2l, 1) := by decide +kernel
theorem dX12_choose_34 : decode cX12_choose 34 = .ok (.ldiv, 1) := by decide +kernel
theorem dX12_choose_35 : decode cX12_choose 35 = .ok (.lstore_n 2, 1) := by decide +kernel
theorem dX12_choose_36 : decode cX12_choose 36 = .ok (.iinc 4 1, 3) := by decide +kernel
theorem dX12_choose_39 : decode cX12_choose 39 = .ok (.goto (-23), 3) := by decide +kernel
theorem dX11_divisor_0 : decode cX11_divisor 0 = .ok (.iconst 0, 1) := by decide +kernel
theorem dX11_divisor_1 : decode cX11_divisor 1 = .ok (.istore 4, 2) := by decide +kernel
theorem dX11_divisor_3 : decode cX11_divisor 3 = .ok (.iload 4, 2) := by decide +kernel
theorem dX11_divisor_5 : decode cX11_divisor 5 = .ok (.sipush 200, 3) := by decide +kernel
theorem dX11_divisor_8 : decode cX11_divisor 8 = .ok (.if_icmp .ge 25, 3) := by decide +kernel
theorem dX11_divisor_33 : decode cX11_divisor 33 = .ok (.lload_n 0, 1) := by decide +kernel
theorem dX11_divisor_34 : decode cX11_divisor 34 = .ok (.lreturn, 1) := by decide +kernel
theorem dX11_divisor_11 : decode cX11_divisor 11 = .ok (.lload_n 2, 1) := by decide +kernel
theorem dX11_divisor_12 : decode cX11_divisor 12 = .ok (.lconst 0, 1) := by decide +kernel
theorem dX11_divisor_13 : decode cX11_divisor 13 = .ok (.lcmp, 1) := by decide +kernel
theorem dX11_divisor_14 : decode cX11_divisor 14 = .ok (.ifCond .eq 19, 3) := by decide +kernel
theorem dX11_divisor_17 : decode cX11_divisor 17 = .ok (.lload_n 0, 1) := by decide +kernel
theorem dX11_divisor_18 : decode cX11_divisor 18 = .ok (.lload_n 2, 1) := by decide +kernel
theorem dX11_divisor_19 : decode cX11_divisor 19 = .ok (.lrem, 1) := by decide +kernel
theorem dX11_divisor_20 : decode cX11_divisor 20 = .ok (.lstore 5, 2) := by decide +kernel
theorem dX11_divisor_22 : decode cX11_divisor 22 = .ok (.lload_n 2, 1) := by decide +kernel
theorem dX11_divisor_23 : decode cX11_divisor 23 = .ok (.lstore_n 0, 1) := by decide +kernel
theorem dX11_divisor_24 : decode cX11_divisor 24 = .ok (.lload 5, 2) := by decide +kernel
theorem dX11_divisor_26 : decode cX11_divisor 26 = .ok (.lstore_n 2, 1) := by decide +kernel
theorem dX11_divisor_27 : decode cX11_divisor 27 = .ok (.iinc 4 1, 3) := by decide +kernel
theorem dX11_divisor_30 : decode cX11_divisor 30 = .ok (.goto (-27), 3) := by decide +kernel
theorem dX11_odds_0 : decode cX11_odds 0 = .ok (.iload 4, 2) := by decide +kernel
theorem dX11_odds_2 : decode cX11_odds 2 = .ok (.iconst 2, 1) := by decide +kernel
theorem dX11_odds_3 : decode cX11_odds 3 = .ok (.if_icmp .ne 6, 3) := by decide +kernel
theorem dX11_odds_9 : decode cX11_odds 9 = .ok (.lconst 0, 1) := by decide +kernel
theorem dX11_odds_10 : decode cX11_odds 10 = .ok (.lstore 5, 2) := by decide +kernel
theorem dX11_odds_12 : decode cX11_odds 12 = .ok (.iload_n 2, 1) := by decide +kernel
theorem dX11_odds_13 : decode cX11_odds 13 = .ok (.istore 7, 2) := by decide +kernel
theorem dX11_odds_15 : decode cX11_odds 15 = .ok (.iload 7, 2) := by decide +kernel
theorem dX11_odds_17 : decode cX11_odds 17 = .ok (.iload_n 1, 1) := by decide +kernel
theorem dX11_odds_18 : decode cX11_odds 18 = .ok (.if_icmp .gt 37, 3) := by decide +kernel
theorem dX11_odds_55 : decode cX11_odds 55 = .ok (.iload_n 3, 1) := by decide +kernel
theorem dX11_odds_56 : decode cX11_odds 56 = .ok (.iload_n 1, 1) := by decide +kernel
theorem dX11_odds_57 : decode cX11_odds 57 = .ok (.invokestatic 246, 3) := by decide +kernel
theorem dX11_odds_60 : decode cX11_odds 60 = .ok (.lstore 7, 2) := by decide +kernel
theorem dX11_odds_62 : decode cX11_odds 62 = .ok (.lload 5, 2) := by decide +kernel
theorem dX11_odds_64 : decode cX11_odds 64 = .ok (.lload 7, 2) := by decide +kernel
theorem dX11_odds_66 : decode cX11_odds 66 = .ok (.invokestatic 250, 3) := by decide +kernel
theorem dX11_odds_69 : decode cX11_odds 69 = .ok (.lstore 9, 2) := by decide +kernel
theorem dX11_odds_71 : decode cX11_odds 71 = .ok (.lload 9, 2) := by decide +kernel
theorem dX11_odds_73 : decode cX11_odds 73 = .ok (.lconst 0, 1) := by decide +kernel
theorem dX11_odds_74 : decode cX11_odds 74 = .ok (.lcmp, 1) := by decide +kernel
theorem dX11_odds_75 : decode cX11_odds 75 = .ok (.ifCond .ne 7, 3) := by decide +kernel
theorem dX11_odds_82 : decode cX11_odds 82 = .ok (.iload 4, 2) := by decide +kernel
theorem dX11_odds_84 : decode cX11_odds 84 = .ok (.ifCond .ne 11, 3) := by decide +kernel
theorem dX11_odds_95 : decode cX11_odds 95 = .ok (.lload 7, 2) := by decide +kernel
theorem dX11_odds_97 : decode cX11_odds 97 = .ok (.lload 9, 2) := by decide +kernel
theorem dX11_odds_99 : decode cX11_odds 99 = .ok (.ldiv, 1) := by decide +kernel
theorem dX11_odds_100 : decode cX11_odds 100 = .ok (.lreturn, 1) := by decide +kernel
theorem dX11_odds_87 : decode cX11_odds 87 = .ok (.lload 5, 2) := by decide +kernel
theorem dX11_odds_89 : decode cX11_odds 89 = .ok (.lload 9, 2) := by decide +kernel
theorem dX11_odds_91 : decode cX11_odds 91 = .ok (.ldiv, 1) := by decide +kernel
theorem dX11_odds_92 : decode cX11_odds 92 = .ok (.goto 8, 3) := by decide +kernel
theorem dX11_odds_78 : decode cX11_odds 78 = .ok (.ldc2_w 254, 3) := by decide +kernel
theorem dX11_odds_81 : decode cX11_odds 81 = .ok (.lreturn, 1) := by decide +kernel
theorem dX11_odds_21 : decode cX11_odds 21 = .ok (.iload 7, 2) := by decide +kernel
theorem dX11_odds_23 : decode cX11_odds 23 = .ok (.iload_n 0, 1) := by decide +kernel
theorem dX11_odds_24 : decode cX11_odds 24 = .ok (.if_icmp .gt 31, 3) := by decide +kernel
theorem dX11_odds_27 : decode cX11_odds 27 = .ok (.lload 5, 2) := by decide +kernel
theorem dX11_odds_29 : decode cX11_odds 29 = .ok (.iload_n 0, 1) := by decide +kernel
theorem dX11_odds_30 : decode cX11_odds 30 = .ok (.iload 7, 2) := by decide +kernel
theorem dX11_odds_32 : decode cX11_odds 32 = .ok (.invokestatic 246, 3) := by decide +kernel
theorem dX11_odds_35 : decode cX11_odds 35 = .ok (.iload_n 3, 1) := by decide +kernel
theorem dX11_odds_36 : decode cX11_odds 36 = .ok (.iload_n 0, 1) := by decide +kernel
theorem dX11_odds_37 : decode cX11_odds 37 = .ok (.isub, 1) := by decide +kernel
theorem dX11_odds_38 : decode cX11_odds 38 = .ok (.iload_n 1, 1) := by decide +kernel
theorem dX11_odds_39 : decode cX11_odds 39 = .ok (.iload 7, 2) := by decide +kernel
theorem dX11_odds_41 : decode cX11_odds 41 = .ok (.isub, 1) := by decide +kernel
theorem dX11_odds_42 : decode cX11_odds 42 = .ok (.invokestatic 246, 3) := by decide +kernel
theorem dX11_odds_45 : decode cX11_odds 45 = .ok (.lmul, 1) := by decide +kernel
theorem dX11_odds_46 : decode cX11_odds 46 = .ok (.ladd, 1) := by decide +kernel
theorem dX11_odds_47 : decode cX11_odds 47 = .ok (.lstore 5, 2) := by decide +kernel
theorem dX11_odds_49 : decode cX11_odds 49 = .ok (.iinc 7 1, 3) := by decide +kernel
theorem dX11_odds_52 : decode cX11_odds 52 = .ok (.goto (-37), 3) := by decide +kernel
theorem dX11_odds_6 : decode cX11_odds 6 = .ok (.iload_n 2, 1) := by decide +kernel
theorem dX11_odds_7 : decode cX11_odds 7 = .ok (.i2l, 1) := by decide +kernel
theorem dX11_odds_8 : decode cX11_odds 8 = .ok (.lreturn, 1) := by decide +kernel
theorem dX12_byLot_0 : decode cX12_byLot 0 = .ok (.iload 4, 2) := by decide +kernel
theorem dX12_byLot_2 : decode cX12_byLot 2 = .ok (.iconst 2, 1) := by decide +kernel
theorem dX12_byLot_3 : decode cX12_byLot 3 = .ok (.if_icmp .ne 6, 3) := by decide +kernel
theorem dX12_byLot_9 : decode cX12_byLot 9 = .ok (.lconst 0, 1) := by decide +kernel
theorem dX12_byLot_10 : decode cX12_byLot 10 = .ok (.lstore 5, 2) := by decide +kernel
theorem dX12_byLot_12 : decode cX12_byLot 12 = .ok (.iload_n 3, 1) := by decide +kernel
theorem dX12_byLot_13 : decode cX12_byLot 13 = .ok (.istore 7, 2) := by decide +kernel
theorem dX12_byLot_15 : decode cX12_byLot 15 = .ok (.iload 7, 2) := by decide +kernel
theorem dX12_byLot_17 : decode cX12_byLot 17 = .ok (.iload_n 2, 1) := by decide +kernel
theorem dX12_byLot_18 : decode cX12_byLot 18 = .ok (.if_icmp .gt 34, 3) := by decide +kernel
theorem dX12_byLot_52 : decode cX12_byLot 52 = .ok (.aload_n 0, 1) := by decide +kernel
theorem dX12_byLot_53 : decode cX12_byLot 53 = .ok (.getfield 208, 3) := by decide +kernel
theorem dX12_byLot_56 : decode cX12_byLot 56 = .ok (.iload_n 1, 1) := by decide +kernel
theorem dX12_byLot_57 : decode cX12_byLot 57 = .ok (.invokestatic 344, 3) := by decide +kernel
theorem dX12_byLot_60 : decode cX12_byLot 60 = .ok (.lstore 7, 2) := by decide +kernel
theorem dX12_byLot_62 : decode cX12_byLot 62 = .ok (.lload 5, 2) := by decide +kernel
theorem dX12_byLot_64 : decode cX12_byLot 64 = .ok (.lstore 9, 2) := by decide +kernel
theorem dX12_byLot_66 : decode cX12_byLot 66 = .ok (.lload 7, 2) := by decide +kernel
theorem dX12_byLot_68 : decode cX12_byLot 68 = .ok (.lstore 11, 2) := by decide +kernel
theorem dX12_byLot_70 : decode cX12_byLot 70 = .ok (.lload 11, 2) := by decide +kernel
theorem dX12_byLot_72 : decode cX12_byLot 72 = .ok (.lconst 0, 1) := by decide +kernel
theorem dX12_byLot_73 : decode cX12_byLot 73 = .ok (.lcmp, 1) := by decide +kernel
theorem dX12_byLot_74 : decode cX12_byLot 74 = .ok (.ifCond .eq 21, 3) := by decide +kernel
theorem dX12_byLot_95 : decode cX12_byLot 95 = .ok (.iload 4, 2) := by decide +kernel
theorem dX12_byLot_97 : decode cX12_byLot 97 = .ok (.ifCond .ne 11, 3) := by decide +kernel
theorem dX12_byLot_108 : decode cX12_byLot 108 = .ok (.lload 7, 2) := by decide +kernel
theorem dX12_byLot_110 : decode cX12_byLot 110 = .ok (.lload 9, 2) := by decide +kernel
theorem dX12_byLot_112 : decode cX12_byLot 112 = .ok (.ldiv, 1) := by decide +kernel
theorem dX12_byLot_113 : decode cX12_byLot 113 = .ok (.lreturn, 1) := by decide +kernel
theorem dX12_byLot_100 : decode cX12_byLot 100 = .ok (.lload 5, 2) := by decide +kernel
theorem dX12_byLot_102 : decode cX12_byLot 102 = .ok (.lload 9, 2) := by decide +kernel
theorem dX12_byLot_104 : decode cX12_byLot 104 = .ok (.ldiv, 1) := by decide +kernel
theorem dX12_byLot_105 : decode cX12_byLot 105 = .ok (.goto 8, 3) := by decide +kernel
theorem dX12_byLot_77 : decode cX12_byLot 77 = .ok (.lload 9, 2) := by decide +kernel
theorem dX12_byLot_79 : decode cX12_byLot 79 = .ok (.lload 11, 2) := by decide +kernel
theorem dX12_byLot_81 : decode cX12_byLot 81 = .ok (.lrem, 1) := by decide +kernel
theorem dX12_byLot_82 : decode cX12_byLot 82 = .ok (.lstore 13, 2) := by decide +kernel
theorem dX12_byLot_84 : decode cX12_byLot 84 = .ok (.lload 11, 2) := by decide +kernel
theorem dX12_byLot_86 : decode cX12_byLot 86 = .ok (.lstore 9, 2) := by decide +kernel
theorem dX12_byLot_88 : decode cX12_byLot 88 = .ok (.lload 13, 2) := by decide +kernel
theorem dX12_byLot_90 : decode cX12_byLot 90 = .ok (.lstore 11, 2) := by decide +kernel
theorem dX12_byLot_92 : decode cX12_byLot 92 = .ok (.goto (-22), 3) := by decide +kernel
theorem dX12_byLot_21 : decode cX12_byLot 21 = .ok (.lload 5, 2) := by decide +kernel
theorem dX12_byLot_23 : decode cX12_byLot 23 = .ok (.iload_n 2, 1) := by decide +kernel
theorem dX12_byLot_24 : decode cX12_byLot 24 = .ok (.iload 7, 2) := by decide +kernel
theorem dX12_byLot_26 : decode cX12_byLot 26 = .ok (.invokestatic 344, 3) := by decide +kernel
theorem dX12_byLot_29 : decode cX12_byLot 29 = .ok (.aload_n 0, 1) := by decide +kernel
theorem dX12_byLot_30 : decode cX12_byLot 30 = .ok (.getfield 208, 3) := by decide +kernel
theorem dX12_byLot_33 : decode cX12_byLot 33 = .ok (.iload_n 2, 1) := by decide +kernel
theorem dX12_byLot_34 : decode cX12_byLot 34 = .ok (.isub, 1) := by decide +kernel
theorem dX12_byLot_35 : decode cX12_byLot 35 = .ok (.iload_n 1, 1) := by decide +kernel
theorem dX12_byLot_36 : decode cX12_byLot 36 = .ok (.iload 7, 2) := by decide +kernel
theorem dX12_byLot_38 : decode cX12_byLot 38 = .ok (.isub, 1) := by decide +kernel
theorem dX12_byLot_39 : decode cX12_byLot 39 = .ok (.invokestatic 344, 3) := by decide +kernel
theorem dX12_byLot_42 : decode cX12_byLot 42 = .ok (.lmul, 1) := by decide +kernel
theorem dX12_byLot_43 : decode cX12_byLot 43 = .ok (.ladd, 1) := by decide +kernel
theorem dX12_byLot_44 : decode cX12_byLot 44 = .ok (.lstore 5, 2) := by decide +kernel
theorem dX12_byLot_46 : decode cX12_byLot 46 = .ok (.iinc 7 1, 3) := by decide +kernel
theorem dX12_byLot_49 : decode cX12_byLot 49 = .ok (.goto (-34), 3) := by decide +kernel
theorem dX12_byLot_6 : decode cX12_byLot 6 = .ok (.iload_n 3, 1) := by decide +kernel
theorem dX12_byLot_7 : decode cX12_byLot 7 = .ok (.i2l, 1) := by decide +kernel
theorem dX12_byLot_8 : decode cX12_byLot 8 = .ok (.lreturn, 1) := by decide +kernel
theorem dX12_lacking_0 : decode cX12_lacking 0 = .ok (.iconst 0, 1) := by decide +kernel
theorem dX12_lacking_1 : decode cX12_lacking 1 = .ok (.istore_n 1, 1) := by decide +kernel
theorem dX12_lacking_2 : decode cX12_lacking 2 = .ok (.iconst 0, 1) := by decide +kernel
theorem dX12_lacking_3 : decode cX12_lacking 3 = .ok (.istore_n 2, 1) := by decide +kernel
theorem dX12_lacking_4 : decode cX12_lacking 4 = .ok (.iload_n 2, 1) := by decide +kernel
theorem dX12_lacking_5 : decode cX12_lacking 5 = .ok (.aload_n 0, 1) := by decide +kernel
theorem dX12_lacking_6 : decode cX12_lacking 6 = .ok (.getfield 208, 3) := by decide +kernel
theorem dX12_lacking_9 : decode cX12_lacking 9 = .ok (.if_icmp .ge 26, 3) := by decide +kernel
theorem dX12_lacking_35 : decode cX12_lacking 35 = .ok (.iload_n 1, 1) := by decide +kernel
theorem dX12_lacking_36 : decode cX12_lacking 36 = .ok (.ireturn, 1) := by decide +kernel
theorem dX12_lacking_12 : decode cX12_lacking 12 = .ok (.iload_n 1, 1) := by decide +kernel
theorem dX12_lacking_13 : decode cX12_lacking 13 = .ok (.aload_n 0, 1) := by decide +kernel
theorem dX12_lacking_14 : decode cX12_lacking 14 = .ok (.getfield 43, 3) := by decide +kernel
theorem dX12_lacking_17 : decode cX12_lacking 17 = .ok (.iload_n 2, 1) := by decide +kernel
theorem dX12_lacking_18 : decode cX12_lacking 18 = .ok (.iaload, 1) := by decide +kernel
theorem dX12_lacking_19 : decode cX12_lacking 19 = .ok (.ifCond .le 7, 3) := by decide +kernel
theorem dX12_lacking_26 : decode cX12_lacking 26 = .ok (.iconst 0, 1) := by decide +kernel
theorem dX12_lacking_27 : decode cX12_lacking 27 = .ok (.iadd, 1) := by decide +kernel
theorem dX12_lacking_28 : decode cX12_lacking 28 = .ok (.istore_n 1, 1) := by decide +kernel
theorem dX12_lacking_29 : decode cX12_lacking 29 = .ok (.iinc 2 1, 3) := by decide +kernel
theorem dX12_lacking_32 : decode cX12_lacking 32 = .ok (.goto (-28), 3) := by decide +kernel
theorem dX12_lacking_22 : decode cX12_lacking 22 = .ok (.iconst 1, 1) := by decide +kernel
theorem dX12_lacking_23 : decode cX12_lacking 23 = .ok (.goto 4, 3) := by decide +kernel
theorem dX11_beyond_0 : decode cX11_beyond 0 = .ok (.iload_n 1, 1) := by decide +kernel
theorem dX11_beyond_1 : decode cX11_beyond 1 = .ok (.iconst 0, 1) := by decide +kernel
theorem dX11_beyond_2 : decode cX11_beyond 2 = .ok (.bipush 6, 2) := by decide +kernel
theorem dX11_beyond_4 : decode cX11_beyond 4 = .ok (.invokestatic 80, 3) := by decide +kernel
theorem dX11_beyond_7 : decode cX11_beyond 7 = .ok (.ifCond .eq 12, 3) := by decide +kernel
theorem dX11_beyond_10 : decode cX11_beyond 10 = .ok (.iload_n 2, 1) := by decide +kernel
theorem dX11_beyond_11 : decode cX11_beyond 11 = .ok (.iconst 0, 1) := by decide +kernel
theorem dX11_beyond_12 : decode cX11_beyond 12 = .ok (.iconst 2, 1) := by decide +kernel
theorem dX11_beyond_13 : decode cX11_beyond 13 = .ok (.invokestatic 80, 3) := by decide +kernel
theorem dX11_beyond_16 : decode cX11_beyond 16 = .ok (.ifCond .ne 7, 3) := by decide +kernel
theorem dX11_beyond_23 : decode cX11_beyond 23 = .ok (.iconst 0, 1) := by decide +kernel
theorem dX11_beyond_24 : decode cX11_beyond 24 = .ok (.istore_n 3, 1) := by decide +kernel
theorem dX11_beyond_25 : decode cX11_beyond 25 = .ok (.iconst 0, 1) := by decide +kernel
theorem dX11_beyond_26 : decode cX11_beyond 26 = .ok (.istore 4, 2) := by decide +kernel
theorem dX11_beyond_28 : decode cX11_beyond 28 = .ok (.iconst 0, 1) := by decide +kernel
theorem dX11_beyond_29 : decode cX11_beyond 29 = .ok (.istore 5, 2) := by decide +kernel
theorem dX11_beyond_31 : decode cX11_beyond 31 = .ok (.iconst 0, 1) := by decide +kernel
theorem dX11_beyond_32 : decode cX11_beyond 32 = .ok (.istore 6, 2) := by decide +kernel
theorem dX11_beyond_34 : decode cX11_beyond 34 = .ok (.iload 6, 2) := by decide +kernel
theorem dX11_beyond_36 : decode cX11_beyond 36 = .ok (.aload_n 0, 1) := by decide +kernel
theorem dX11_beyond_37 : decode cX11_beyond 37 = .ok (.getfield 65, 3) := by decide +kernel
theorem dX11_beyond_40 : decode cX11_beyond 40 = .ok (.invokevirtual 84, 3) := by decide +kernel
theorem dX11_beyond_43 : decode cX11_beyond 43 = .ok (.if_icmp .ge 96, 3) := by decide +kernel
theorem dX11_beyond_139 : decode cX11_beyond 139 = .ok (.iload_n 3, 1) := by decide +kernel
theorem dX11_beyond_140 : decode cX11_beyond 140 = .ok (.iload 4, 2) := by decide +kernel
theorem dX11_beyond_142 : decode cX11_beyond 142 = .ok (.iload 5, 2) := by decide +kernel
theorem dX11_beyond_144 : decode cX11_beyond 144 = .ok (.aload_n 0, 1) := by decide +kernel
theorem dX11_beyond_145 : decode cX11_beyond 145 = .ok (.getfield 65, 3) := by decide +kernel
theorem dX11_beyond_148 : decode cX11_beyond 148 = .ok (.invokevirtual 84, 3) := by decide +kernel
theorem dX11_beyond_151 : decode cX11_beyond 151 = .ok (.iload_n 2, 1) := by decide +kernel
theorem dX11_beyond_152 : decode cX11_beyond 152 = .ok (.invokestatic 256, 3) := by decide +kernel
theorem dX11_beyond_155 : decode cX11_beyond 155 = .ok (.lreturn, 1) := by decide +kernel
theorem dX11_beyond_46 : decode cX11_beyond 46 = .ok (.aload_n 0, 1) := by decide +kernel
theorem dX11_beyond_47 : decode cX11_beyond 47 = .ok (.getfield 65, 3) := by decide +kernel
theorem dX11_beyond_50 : decode cX11_beyond 50 = .ok (.iload 6, 2) := by decide +kernel
theorem dX11_beyond_52 : decode cX11_beyond 52 = .ok (.invokevirtual 87, 3) := by decide +kernel
theorem dX11_beyond_55 : decode cX11_beyond 55 = .ok (.checkcast 93, 3) := by decide +kernel
theorem dX11_beyond_58 : decode cX11_beyond 58 = .ok (.astore 7, 2) := by decide +kernel
theorem dX11_beyond_60 : decode cX11_beyond 60 = .ok (.aload 7, 2) := by decide +kernel
theorem dX11_beyond_62 : decode cX11_beyond 62 = .ok (.getfield 196, 3) := by decide +kernel
theorem dX11_beyond_65 : decode cX11_beyond 65 = .ok (.bipush 7, 2) := by decide +kernel
theorem dX11_beyond_67 : decode cX11_beyond 67 = .ok (.irem, 1) := by decide +kernel
theorem dX11_beyond_68 : decode cX11_beyond 68 = .ok (.iload_n 1, 1) := by decide +kernel
theorem dX11_beyond_69 : decode cX11_beyond 69 = .ok (.if_icmp .ne 7, 3) := by decide +kernel
theorem dX11_beyond_76 : decode cX11_beyond 76 = .ok (.iconst 0, 1) := by decide +kernel
theorem dX11_beyond_77 : decode cX11_beyond 77 = .ok (.istore 8, 2) := by decide +kernel
theorem dX11_beyond_79 : decode cX11_beyond 79 = .ok (.iload_n 3, 1) := by decide +kernel
theorem dX11_beyond_80 : decode cX11_beyond 80 = .ok (.aload 7, 2) := by decide +kernel
theorem dX11_beyond_82 : decode cX11_beyond 82 = .ok (.getfield 141, 3) := by decide +kernel
theorem dX11_beyond_85 : decode cX11_beyond 85 = .ok (.ifCond .le 7, 3) := by decide +kernel
theorem dX11_beyond_92 : decode cX11_beyond 92 = .ok (.iconst 0, 1) := by decide +kernel
theorem dX11_beyond_93 : decode cX11_beyond 93 = .ok (.iadd, 1) := by decide +kernel
theorem dX11_beyond_94 : decode cX11_beyond 94 = .ok (.istore_n 3, 1) := by decide +kernel
theorem dX11_beyond_95 : decode cX11_beyond 95 = .ok (.iload 4, 2) := by decide +kernel
theorem dX11_beyond_97 : decode cX11_beyond 97 = .ok (.iload 8, 2) := by decide +kernel
theorem dX11_beyond_99 : decode cX11_beyond 99 = .ok (.ifCond .eq 7, 3) := by decide +kernel
theorem dX11_beyond_106 : decode cX11_beyond 106 = .ok (.iconst 0, 1) := by decide +kernel
theorem dX11_beyond_107 : decode cX11_beyond 107 = .ok (.iadd, 1) := by decide +kernel
theorem dX11_beyond_108 : decode cX11_beyond 108 = .ok (.istore 4, 2) := by decide +kernel
theorem dX11_beyond_110 : decode cX11_beyond 110 = .ok (.iload 5, 2) := by decide +kernel
theorem dX11_beyond_112 : decode cX11_beyond 112 = .ok (.iload 8, 2) := by decide +kernel
theorem dX11_beyond_114 : decode cX11_beyond 114 = .ok (.ifCond .eq 15, 3) := by decide +kernel
theorem dX11_beyond_129 : decode cX11_beyond 129 = .ok (.iconst 0, 1) := by decide +kernel
theorem dX11_beyond_130 : decode cX11_beyond 130 = .ok (.iadd, 1) := by decide +kernel
theorem dX11_beyond_131 : decode cX11_beyond 131 = .ok (.istore 5, 2) := by decide +kernel
theorem dX11_beyond_133 : decode cX11_beyond 133 = .ok (.iinc 6 1, 3) := by decide +kernel
theorem dX11_beyond_136 : decode cX11_beyond 136 = .ok (.goto (-102), 3) := by decide +kernel
theorem dX11_beyond_88 : decode cX11_beyond 88 = .ok (.iconst 1, 1) := by decide +kernel
theorem dX11_beyond_89 : decode cX11_beyond 89 = .ok (.goto 4, 3) := by decide +kernel
theorem dX11_beyond_72 : decode cX11_beyond 72 = .ok (.iconst 1, 1) := by decide +kernel
theorem dX11_beyond_73 : decode cX11_beyond 73 = .ok (.goto 4, 3) := by decide +kernel
theorem dX11_beyond_102 : decode cX11_beyond 102 = .ok (.iconst 1, 1) := by decide +kernel
theorem dX11_beyond_103 : decode cX11_beyond 103 = .ok (.goto 4, 3) := by decide +kernel
theorem dX11_beyond_117 : decode cX11_beyond 117 = .ok (.aload 7, 2) := by decide +kernel
theorem dX11_beyond_119 : decode cX11_beyond 119 = .ok (.getfield 141, 3) := by decide +kernel
theorem dX11_beyond_122 : decode cX11_beyond 122 = .ok (.ifCond .le 7, 3) := by decide +kernel
theorem dX11_beyond_125 : decode cX11_beyond 125 = .ok (.iconst 1, 1) := by decide +kernel
theorem dX11_beyond_126 : decode cX11_beyond 126 = .ok (.goto 4, 3) := by decide +kernel
theorem dX11_beyond_19 : decode cX11_beyond 19 = .ok (.ldc2_w 254, 3) := by decide +kernel
theorem dX11_beyond_22 : decode cX11_beyond 22 = .ok (.lreturn, 1) := by decide +kernel
theorem dX12_beyond_0 : decode cX12_beyond 0 = .ok (.iload_n 1, 1) := by decide +kernel
theorem dX12_beyond_1 : decode cX12_beyond 1 = .ok (.iconst 0, 1) := by decide +kernel
theorem dX12_beyond_2 : decode cX12_beyond 2 = .ok (.bipush 6, 2) := by decide +kernel
theorem dX12_beyond_4 : decode cX12_beyond 4 = .ok (.invokestatic 214, 3) := by decide +kernel
theorem dX12_beyond_7 : decode cX12_beyond 7 = .ok (.ifCond .eq 12, 3) := by decide +kernel
theorem dX12_beyond_10 : decode cX12_beyond 10 = .ok (.iload_n 2, 1) := by decide +kernel
theorem dX12_beyond_11 : decode cX12_beyond 11 = .ok (.iconst 0, 1) := by decide +kernel
theorem dX12_beyond_12 : decode cX12_beyond 12 = .ok (.iconst 2, 1) := by decide +kernel
theorem dX12_beyond_13 : decode cX12_beyond 13 = .ok (.invokestatic 214, 3) := by decide +kernel
theorem dX12_beyond_16 : decode cX12_beyond 16 = .ok (.ifCond .ne 7, 3) := by decide +kernel
theorem dX12_beyond_23 : decode cX12_beyond 23 = .ok (.iconst 0, 1) := by decide +kernel
theorem dX12_beyond_24 : decode cX12_beyond 24 = .ok (.istore_n 3, 1) := by decide +kernel
theorem dX12_beyond_25 : decode cX12_beyond 25 = .ok (.iconst 0, 1) := by decide +kernel
theorem dX12_beyond_26 : decode cX12_beyond 26 = .ok (.istore 4, 2) := by decide +kernel
theorem dX12_beyond_28 : decode cX12_beyond 28 = .ok (.iconst 0, 1) := by decide +kernel
theorem dX12_beyond_29 : decode cX12_beyond 29 = .ok (.istore 5, 2) := by decide +kernel
theorem dX12_beyond_31 : decode cX12_beyond 31 = .ok (.iload 5, 2) := by decide +kernel
theorem dX12_beyond_33 : decode cX12_beyond 33 = .ok (.aload_n 0, 1) := by decide +kernel
theorem dX12_beyond_34 : decode cX12_beyond 34 = .ok (.getfield 208, 3) := by decide +kernel
theorem dX12_beyond_37 : decode cX12_beyond 37 = .ok (.if_icmp .ge 50, 3) := by decide +kernel
theorem dX12_beyond_87 : decode cX12_beyond 87 = .ok (.aload_n 0, 1) := by decide +kernel
theorem dX12_beyond_88 : decode cX12_beyond 88 = .ok (.aload_n 0, 1) := by decide +kernel
theorem dX12_beyond_89 : decode cX12_beyond 89 = .ok (.invokevirtual 350, 3) := by decide +kernel
theorem dX12_beyond_92 : decode cX12_beyond 92 = .ok (.iload_n 3, 1) := by decide +kernel
theorem dX12_beyond_93 : decode cX12_beyond 93 = .ok (.iload 4, 2) := by decide +kernel
theorem dX12_beyond_95 : decode cX12_beyond 95 = .ok (.iload_n 2, 1) := by decide +kernel
theorem dX12_beyond_96 : decode cX12_beyond 96 = .ok (.invokevirtual 353, 3) := by decide +kernel
theorem dX12_beyond_99 : decode cX12_beyond 99 = .ok (.lreturn, 1) := by decide +kernel
theorem dX12_beyond_40 : decode cX12_beyond 40 = .ok (.aload_n 0, 1) := by decide +kernel
theorem dX12_beyond_41 : decode cX12_beyond 41 = .ok (.getfield 28, 3) := by decide +kernel
theorem dX12_beyond_44 : decode cX12_beyond 44 = .ok (.iload 5, 2) := by decide +kernel
theorem dX12_beyond_46 : decode cX12_beyond 46 = .ok (.iaload, 1) := by decide +kernel
theorem dX12_beyond_47 : decode cX12_beyond 47 = .ok (.bipush 7, 2) := by decide +kernel
theorem dX12_beyond_49 : decode cX12_beyond 49 = .ok (.irem, 1) := by decide +kernel
theorem dX12_beyond_50 : decode cX12_beyond 50 = .ok (.iload_n 1, 1) := by decide +kernel
theorem dX12_beyond_51 : decode cX12_beyond 51 = .ok (.if_icmp .eq 6, 3) := by decide +kernel
theorem dX12_beyond_57 : decode cX12_beyond 57 = .ok (.iload_n 3, 1) := by decide +kernel
theorem dX12_beyond_58 : decode cX12_beyond 58 = .ok (.iconst 1, 1) := by decide +kernel
theorem dX12_beyond_59 : decode cX12_beyond 59 = .ok (.iadd, 1) := by decide +kernel
theorem dX12_beyond_60 : decode cX12_beyond 60 = .ok (.istore_n 3, 1) := by decide +kernel
theorem dX12_beyond_61 : decode cX12_beyond 61 = .ok (.iload 4, 2) := by decide +kernel
theorem dX12_beyond_63 : decode cX12_beyond 63 = .ok (.aload_n 0, 1) := by decide +kernel
theorem dX12_beyond_64 : decode cX12_beyond 64 = .ok (.getfield 43, 3) := by decide +kernel
theorem dX12_beyond_67 : decode cX12_beyond 67 = .ok (.iload 5, 2) := by decide +kernel
theorem dX12_beyond_69 : decode cX12_beyond 69 = .ok (.iaload, 1) := by decide +kernel
theorem dX12_beyond_70 : decode cX12_beyond 70 = .ok (.ifCond .le 7, 3) := by decide +kernel
theorem dX12_beyond_77 : decode cX12_beyond 77 = .ok (.iconst 0, 1) := by decide +kernel
theorem dX12_beyond_78 : decode cX12_beyond 78 = .ok (.iadd, 1) := by decide +kernel
theorem dX12_beyond_79 : decode cX12_beyond 79 = .ok (.istore 4, 2) := by decide +kernel
theorem dX12_beyond_81 : decode cX12_beyond 81 = .ok (.iinc 5 1, 3) := by decide +kernel
theorem dX12_beyond_84 : decode cX12_beyond 84 = .ok (.goto (-53), 3) := by decide +kernel
theorem dX12_beyond_73 : decode cX12_beyond 73 = .ok (.iconst 1, 1) := by decide +kernel
theorem dX12_beyond_74 : decode cX12_beyond 74 = .ok (.goto 4, 3) := by decide +kernel
theorem dX12_beyond_54 : decode cX12_beyond 54 = .ok (.goto 27, 3) := by decide +kernel
theorem dX12_beyond_19 : decode cX12_beyond 19 = .ok (.ldc2_w 348, 3) := by decide +kernel
theorem dX12_beyond_22 : decode cX12_beyond 22 = .ok (.lreturn, 1) := by decide +kernel
theorem dX11_streets_0 : decode cX11_streets 0 = .ok (.iload_n 1, 1) := by decide +kernel
theorem dX11_streets_1 : decode cX11_streets 1 = .ok (.iconst 0, 1) := by decide +kernel
theorem dX11_streets_2 : decode cX11_streets 2 = .ok (.bipush 9, 2) := by decide +kernel
theorem dX11_streets_4 : decode cX11_streets 4 = .ok (.invokestatic 80, 3) := by decide +kernel
theorem dX11_streets_7 : decode cX11_streets 7 = .ok (.ifCond .eq 12, 3) := by decide +kernel
theorem dX11_streets_10 : decode cX11_streets 10 = .ok (.iload_n 2, 1) := by decide +kernel
theorem dX11_streets_11 : decode cX11_streets 11 = .ok (.iconst 0, 1) := by decide +kernel
theorem dX11_streets_12 : decode cX11_streets 12 = .ok (.iconst 2, 1) := by decide +kernel
theorem dX11_streets_13 : decode cX11_streets 13 = .ok (.invokestatic 80, 3) := by decide +kernel
theorem dX11_streets_16 : decode cX11_streets 16 = .ok (.ifCond .ne 7, 3) := by decide +kernel
theorem dX11_streets_23 : decode cX11_streets 23 = .ok (.iconst 0, 1) := by decide +kernel
theorem dX11_streets_24 : decode cX11_streets 24 = .ok (.istore_n 3, 1) := by decide +kernel
theorem dX11_streets_25 : decode cX11_streets 25 = .ok (.iconst 0, 1) := by decide +kernel
theorem dX11_streets_26 : decode cX11_streets 26 = .ok (.istore 4, 2) := by decide +kernel
theorem dX11_streets_28 : decode cX11_streets 28 = .ok (.iconst 0, 1) := by decide +kernel
theorem dX11_streets_29 : decode cX11_streets 29 = .ok (.istore 5, 2) := by decide +kernel
theorem dX11_streets_31 : decode cX11_streets 31 = .ok (.iconst 0, 1) := by decide +kernel
theorem dX11_streets_32 : decode cX11_streets 32 = .ok (.istore 6, 2) := by decide +kernel
theorem dX11_streets_34 : decode cX11_streets 34 = .ok (.iload 6, 2) := by decide +kernel
theorem dX11_streets_36 : decode cX11_streets 36 = .ok (.aload_n 0, 1) := by decide +kernel
theorem dX11_streets_37 : decode cX11_streets 37 = .ok (.getfield 65, 3) := by decide +kernel
theorem dX11_streets_40 : decode cX11_streets 40 = .ok (.invokevirtual 84, 3) := by decide +kernel
theorem dX11_streets_43 : decode cX11_streets 43 = .ok (.if_icmp .ge 109, 3) := by decide +kernel
theorem dX11_streets_152 : decode cX11_streets 152 = .ok (.iload_n 3, 1) := by decide +kernel
theorem dX11_streets_153 : decode cX11_streets 153 = .ok (.iload 4, 2) := by decide +kernel
theorem dX11_streets_155 : decode cX11_streets 155 = .ok (.iload 5, 2) := by decide +kernel
theorem dX11_streets_157 : decode cX11_streets 157 = .ok (.aload_n 0, 1) := by decide +kernel
theorem dX11_streets_158 : decode cX11_streets 158 = .ok (.getfield 65, 3) := by decide +kernel
theorem dX11_streets_161 : decode cX11_streets 161 = .ok (.invokevirtual 84, 3) := by decide +kernel
theorem dX11_streets_164 : decode cX11_streets 164 = .ok (.iload_n 2, 1) := by decide +kernel
theorem dX11_streets_165 : decode cX11_streets 165 = .ok (.invokestatic 256, 3) := by decide +kernel
theorem dX11_streets_168 : decode cX11_streets 168 = .ok (.lreturn, 1) := by decide +kernel
theorem dX11_streets_46 : decode cX11_streets 46 = .ok (.aload_n 0, 1) := by decide +kernel
theorem dX11_streets_47 : decode cX11_streets 47 = .ok (.getfield 65, 3) := by decide +kernel
theorem dX11_streets_50 : decode cX11_streets 50 = .ok (.iload 6, 2) := by decide +kernel
theorem dX11_streets_52 : decode cX11_streets 52 = .ok (.invokevirtual 87, 3) := by decide +kernel
theorem dX11_streets_55 : decode cX11_streets 55 = .ok (.checkcast 93, 3) := by decide +kernel
theorem dX11_streets_58 : decode cX11_streets 58 = .ok (.astore 7, 2) := by decide +kernel
theorem dX11_streets_60 : decode cX11_streets 60 = .ok (.aload_n 0, 1) := by decide +kernel
theorem dX11_streets_61 : decode cX11_streets 61 = .ok (.aload 7, 2) := by decide +kernel
theorem dX11_streets_63 : decode cX11_streets 63 = .ok (.getfield 211, 3) := by decide +kernel
theorem dX11_streets_66 : decode cX11_streets 66 = .ok (.invokevirtual 114, 3) := by decide +kernel
theorem dX11_streets_69 : decode cX11_streets 69 = .ok (.astore 8, 2) := by decide +kernel
theorem dX11_streets_71 : decode cX11_streets 71 = .ok (.aload 8, 2) := by decide +kernel
theorem dX11_streets_73 : decode cX11_streets 73 = .ok (.ifnull 16, 3) := by decide +kernel
theorem dX11_streets_76 : decode cX11_streets 76 = .ok (.aload 8, 2) := by decide +kernel
theorem dX11_streets_78 : decode cX11_streets 78 = .ok (.getfield 260, 3) := by decide +kernel
theorem dX11_streets_81 : decode cX11_streets 81 = .ok (.iload_n 1, 1) := by decide +kernel
theorem dX11_streets_82 : decode cX11_streets 82 = .ok (.if_icmp .ne 7, 3) := by decide +kernel
theorem dX11_streets_89 : decode cX11_streets 89 = .ok (.iconst 0, 1) := by decide +kernel
theorem dX11_streets_90 : decode cX11_streets 90 = .ok (.istore 9, 2) := by decide +kernel
theorem dX11_streets_92 : decode cX11_streets 92 = .ok (.iload_n 3, 1) := by decide +kernel
theorem dX11_streets_93 : decode cX11_streets 93 = .ok (.aload 7, 2) := by decide +kernel
theorem dX11_streets_95 : decode cX11_streets 95 = .ok (.getfield 141, 3) := by decide +kernel
theorem dX11_streets_98 : decode cX11_streets 98 = .ok (.ifCond .le 7, 3) := by decide +kernel
theorem dX11_streets_105 : decode cX11_streets 105 = .ok (.iconst 0, 1) := by decide +kernel
theorem dX11_streets_106 : decode cX11_streets 106 = .ok (.iadd, 1) := by decide +kernel
theorem dX11_streets_107 : decode cX11_streets 107 = .ok (.istore_n 3, 1) := by decide +kernel
theorem dX11_streets_108 : decode cX11_streets 108 = .ok (.iload 4, 2) := by decide +kernel
theorem dX11_streets_110 : decode cX11_streets 110 = .ok (.iload 9, 2) := by decide +kernel
theorem dX11_streets_112 : decode cX11_streets 112 = .ok (.ifCond .eq 7, 3) := by decide +kernel
theorem dX11_streets_119 : decode cX11_streets 119 = .ok (.iconst 0, 1) := by decide +kernel
theorem dX11_streets_120 : decode cX11_streets 120 = .ok (.iadd, 1) := by decide +kernel
theorem dX11_streets_121 : decode cX11_streets 121 = .ok (.istore 4, 2) := by decide +kernel
theorem dX11_streets_123 : decode cX11_streets 123 = .ok (.iload 5, 2) := by decide +kernel
theorem dX11_streets_125 : decode cX11_streets 125 = .ok (.iload 9, 2) := by decide +kernel
theorem dX11_streets_127 : decode cX11_streets 127 = .ok (.ifCond .eq 15, 3) := by decide +kernel
theorem dX11_streets_142 : decode cX11_streets 142 = .ok (.iconst 0, 1) := by decide +kernel
theorem dX11_streets_143 : decode cX11_streets 143 = .ok (.iadd, 1) := by decide +kernel
theorem dX11_streets_144 : decode cX11_streets 144 = .ok (.istore 5, 2) := by decide +kernel
theorem dX11_streets_146 : decode cX11_streets 146 = .ok (.iinc 6 1, 3) := by decide +kernel
theorem dX11_streets_149 : decode cX11_streets 149 = .ok (.goto (-115), 3) := by decide +kernel
theorem dX11_streets_101 : decode cX11_streets 101 = .ok (.iconst 1, 1) := by decide +kernel
theorem dX11_streets_102 : decode cX11_streets 102 = .ok (.goto 4, 3) := by decide +kernel
theorem dX11_streets_85 : decode cX11_streets 85 = .ok (.iconst 1, 1) := by decide +kernel
theorem dX11_streets_86 : decode cX11_streets 86 = .ok (.goto 4, 3) := by decide +kernel
theorem dX11_streets_115 : decode cX11_streets 115 = .ok (.iconst 1, 1) := by decide +kernel
theorem dX11_streets_116 : decode cX11_streets 116 = .ok (.goto 4, 3) := by decide +kernel
theorem dX11_streets_130 : decode cX11_streets 130 = .ok (.aload 7, 2) := by decide +kernel
theorem dX11_streets_132 : decode cX11_streets 132 = .ok (.getfield 141, 3) := by decide +kernel
theorem dX11_streets_135 : decode cX11_streets 135 = .ok (.ifCond .le 7, 3) := by decide +kernel
theorem dX11_streets_138 : decode cX11_streets 138 = .ok (.iconst 1, 1) := by decide +kernel
theorem dX11_streets_139 : decode cX11_streets 139 = .ok (.goto 4, 3) := by decide +kernel
theorem dX11_streets_19 : decode cX11_streets 19 = .ok (.ldc2_w 254, 3) := by decide +kernel
theorem dX11_streets_22 : decode cX11_streets 22 = .ok (.lreturn, 1) := by decide +kernel
theorem dX12_streets_0 : decode cX12_streets 0 = .ok (.iload_n 1, 1) := by decide +kernel
theorem dX12_streets_1 : decode cX12_streets 1 = .ok (.iconst 0, 1) := by decide +kernel
theorem dX12_streets_2 : decode cX12_streets 2 = .ok (.bipush 9, 2) := by decide +kernel
theorem dX12_streets_4 : decode cX12_streets 4 = .ok (.invokestatic 214, 3) := by decide +kernel
theorem dX12_streets_7 : decode cX12_streets 7 = .ok (.ifCond .eq 12, 3) := by decide +kernel
theorem dX12_streets_10 : decode cX12_streets 10 = .ok (.iload_n 2, 1) := by decide +kernel
theorem dX12_streets_11 : decode cX12_streets 11 = .ok (.iconst 0, 1) := by decide +kernel
theorem dX12_streets_12 : decode cX12_streets 12 = .ok (.iconst 2, 1) := by decide +kernel
theorem dX12_streets_13 : decode cX12_streets 13 = .ok (.invokestatic 214, 3) := by decide +kernel
theorem dX12_streets_16 : decode cX12_streets 16 = .ok (.ifCond .ne 7, 3) := by decide +kernel
theorem dX12_streets_23 : decode cX12_streets 23 = .ok (.iconst 0, 1) := by decide +kernel
theorem dX12_streets_24 : decode cX12_streets 24 = .ok (.istore_n 3, 1) := by decide +kernel
theorem dX12_streets_25 : decode cX12_streets 25 = .ok (.iconst 0, 1) := by decide +kernel
theorem dX12_streets_26 : decode cX12_streets 26 = .ok (.istore 4, 2) := by decide +kernel
theorem dX12_streets_28 : decode cX12_streets 28 = .ok (.iconst 0, 1) := by decide +kernel
theorem dX12_streets_29 : decode cX12_streets 29 = .ok (.istore 5, 2) := by decide +kernel
theorem dX12_streets_31 : decode cX12_streets 31 = .ok (.iload 5, 2) := by decide +kernel
theorem dX12_streets_33 : decode cX12_streets 33 = .ok (.aload_n 0, 1) := by decide +kernel
theorem dX12_streets_34 : decode cX12_streets 34 = .ok (.getfield 208, 3) := by decide +kernel
theorem dX12_streets_37 : decode cX12_streets 37 = .ok (.if_icmp .ge 52, 3) := by decide +kernel
theorem dX12_streets_89 : decode cX12_streets 89 = .ok (.aload_n 0, 1) := by decide +kernel
theorem dX12_streets_90 : decode cX12_streets 90 = .ok (.aload_n 0, 1) := by decide +kernel
theorem dX12_streets_91 : decode cX12_streets 91 = .ok (.invokevirtual 350, 3) := by decide +kernel
theorem dX12_streets_94 : decode cX12_streets 94 = .ok (.iload_n 3, 1) := by decide +kernel
theorem dX12_streets_95 : decode cX12_streets 95 = .ok (.iload 4, 2) := by decide +kernel
theorem dX12_streets_97 : decode cX12_streets 97 = .ok (.iload_n 2, 1) := by decide +kernel
theorem dX12_streets_98 : decode cX12_streets 98 = .ok (.invokevirtual 353, 3) := by decide +kernel
theorem dX12_streets_101 : decode cX12_streets 101 = .ok (.lreturn, 1) := by decide +kernel
theorem dX12_streets_40 : decode cX12_streets 40 = .ok (.aload_n 0, 1) := by decide +kernel
theorem dX12_streets_41 : decode cX12_streets 41 = .ok (.getfield 95, 3) := by decide +kernel
theorem dX12_streets_44 : decode cX12_streets 44 = .ok (.aload_n 0, 1) := by decide +kernel
theorem dX12_streets_45 : decode cX12_streets 45 = .ok (.getfield 25, 3) := by decide +kernel
theorem dX12_streets_48 : decode cX12_streets 48 = .ok (.iload 5, 2) := by decide +kernel
theorem dX12_streets_50 : decode cX12_streets 50 = .ok (.iaload, 1) := by decide +kernel
theorem dX12_streets_51 : decode cX12_streets 51 = .ok (.iaload, 1) := by decide +kernel
theorem dX12_streets_52 : decode cX12_streets 52 = .ok (.iload_n 1, 1) := by decide +kernel
theorem dX12_streets_53 : decode cX12_streets 53 = .ok (.if_icmp .eq 6, 3) := by decide +kernel
theorem dX12_streets_59 : decode cX12_streets 59 = .ok (.iload_n 3, 1) := by decide +kernel
theorem dX12_streets_60 : decode cX12_streets 60 = .ok (.iconst 1, 1) := by decide +kernel
theorem dX12_streets_61 : decode cX12_streets 61 = .ok (.iadd, 1) := by decide +kernel
theorem dX12_streets_62 : decode cX12_streets 62 = .ok (.istore_n 3, 1) := by decide +kernel
theorem dX12_streets_63 : decode cX12_streets 63 = .ok (.iload 4, 2) := by decide +kernel
theorem dX12_streets_65 : decode cX12_streets 65 = .ok (.aload_n 0, 1) := by decide +kernel
theorem dX12_streets_66 : decode cX12_streets 66 = .ok (.getfield 43, 3) := by decide +kernel
theorem dX12_streets_69 : decode cX12_streets 69 = .ok (.iload 5, 2) := by decide +kernel
theorem dX12_streets_71 : decode cX12_streets 71 = .ok (.iaload, 1) := by decide +kernel
theorem dX12_streets_72 : decode cX12_streets 72 = .ok (.ifCond .le 7, 3) := by decide +kernel
theorem dX12_streets_79 : decode cX12_streets 79 = .ok (.iconst 0, 1) := by decide +kernel
theorem dX12_streets_80 : decode cX12_streets 80 = .ok (.iadd, 1) := by decide +kernel
theorem dX12_streets_81 : decode cX12_streets 81 = .ok (.istore 4, 2) := by decide +kernel
theorem dX12_streets_83 : decode cX12_streets 83 = .ok (.iinc 5 1, 3) := by decide +kernel
theorem dX12_streets_86 : decode cX12_streets 86 = .ok (.goto (-55), 3) := by decide +kernel
theorem dX12_streets_75 : decode cX12_streets 75 = .ok (.iconst 1, 1) := by decide +kernel
theorem dX12_streets_76 : decode cX12_streets 76 = .ok (.goto 4, 3) := by decide +kernel
theorem dX12_streets_56 : decode cX12_streets 56 = .ok (.goto 27, 3) := by decide +kernel
theorem dX12_streets_19 : decode cX12_streets 19 = .ok (.ldc2_w 348, 3) := by decide +kernel
theorem dX12_streets_22 : decode cX12_streets 22 = .ok (.lreturn, 1) := by decide +kernel
theorem dX11_cheat_0 : decode cX11_cheat 0 = .ok (.aload_n 0, 1) := by decide +kernel
theorem dX11_cheat_1 : decode cX11_cheat 1 = .ok (.iload_n 1, 1) := by decide +kernel
theorem dX11_cheat_2 : decode cX11_cheat 2 = .ok (.invokevirtual 114, 3) := by decide +kernel
theorem dX11_cheat_5 : decode cX11_cheat 5 = .ok (.ifnull 23, 3) := by decide +kernel
theorem dX11_cheat_8 : decode cX11_cheat 8 = .ok (.iload_n 2, 1) := by decide +kernel
theorem dX11_cheat_9 : decode cX11_cheat 9 = .ok (.iconst 0, 1) := by decide +kernel
theorem dX11_cheat_10 : decode cX11_cheat 10 = .ok (.sipush 1000, 3) := by decide +kernel
theorem dX11_cheat_13 : decode cX11_cheat 13 = .ok (.invokestatic 80, 3) := by decide +kernel
theorem dX11_cheat_16 : decode cX11_cheat 16 = .ok (.ifCond .eq 12, 3) := by decide +kernel
theorem dX11_cheat_19 : decode cX11_cheat 19 = .ok (.iload_n 3, 1) := by decide +kernel
theorem dX11_cheat_20 : decode cX11_cheat 20 = .ok (.iconst 0, 1) := by decide +kernel
theorem dX11_cheat_21 : decode cX11_cheat 21 = .ok (.iconst 2, 1) := by decide +kernel
theorem dX11_cheat_22 : decode cX11_cheat 22 = .ok (.invokestatic 80, 3) := by decide +kernel
theorem dX11_cheat_25 : decode cX11_cheat 25 = .ok (.ifCond .ne 7, 3) := by decide +kernel
theorem dX11_cheat_32 : decode cX11_cheat 32 = .ok (.iconst 0, 1) := by decide +kernel
theorem dX11_cheat_33 : decode cX11_cheat 33 = .ok (.istore 4, 2) := by decide +kernel
theorem dX11_cheat_35 : decode cX11_cheat 35 = .ok (.iconst 0, 1) := by decide +kernel
theorem dX11_cheat_36 : decode cX11_cheat 36 = .ok (.istore 5, 2) := by decide +kernel
theorem dX11_cheat_38 : decode cX11_cheat 38 = .ok (.iconst 0, 1) := by decide +kernel
theorem dX11_cheat_39 : decode cX11_cheat 39 = .ok (.istore 6, 2) := by decide +kernel
theorem dX11_cheat_41 : decode cX11_cheat 41 = .ok (.iconst 0, 1) := by decide +kernel
theorem dX11_cheat_42 : decode cX11_cheat 42 = .ok (.istore 7, 2) := by decide +kernel
theorem dX11_cheat_44 : decode cX11_cheat 44 = .ok (.iload 7, 2) := by decide +kernel
theorem dX11_cheat_46 : decode cX11_cheat 46 = .ok (.aload_n 0, 1) := by decide +kernel
theorem dX11_cheat_47 : decode cX11_cheat 47 = .ok (.getfield 65, 3) := by decide +kernel
theorem dX11_cheat_50 : decode cX11_cheat 50 = .ok (.invokevirtual 84, 3) := by decide +kernel
theorem dX11_cheat_53 : decode cX11_cheat 53 = .ok (.if_icmp .ge 97, 3) := by decide +kernel
theorem dX11_cheat_150 : decode cX11_cheat 150 = .ok (.iload 4, 2) := by decide +kernel
theorem dX11_cheat_152 : decode cX11_cheat 152 = .ok (.iload 5, 2) := by decide +kernel
theorem dX11_cheat_154 : decode cX11_cheat 154 = .ok (.iload 6, 2) := by decide +kernel
theorem dX11_cheat_156 : decode cX11_cheat 156 = .ok (.aload_n 0, 1) := by decide +kernel
theorem dX11_cheat_157 : decode cX11_cheat 157 = .ok (.getfield 65, 3) := by decide +kernel
theorem dX11_cheat_160 : decode cX11_cheat 160 = .ok (.invokevirtual 84, 3) := by decide +kernel
theorem dX11_cheat_163 : decode cX11_cheat 163 = .ok (.iload_n 3, 1) := by decide +kernel
theorem dX11_cheat_164 : decode cX11_cheat 164 = .ok (.invokestatic 256, 3) := by decide +kernel
theorem dX11_cheat_167 : decode cX11_cheat 167 = .ok (.lreturn, 1) := by decide +kernel
theorem dX11_cheat_56 : decode cX11_cheat 56 = .ok (.aload_n 0, 1) := by decide +kernel
theorem dX11_cheat_57 : decode cX11_cheat 57 = .ok (.getfield 65, 3) := by decide +kernel
theorem dX11_cheat_60 : decode cX11_cheat 60 = .ok (.iload 7, 2) := by decide +kernel
theorem dX11_cheat_62 : decode cX11_cheat 62 = .ok (.invokevirtual 87, 3) := by decide +kernel
theorem dX11_cheat_65 : decode cX11_cheat 65 = .ok (.checkcast 93, 3) := by decide +kernel
theorem dX11_cheat_68 : decode cX11_cheat 68 = .ok (.astore 8, 2) := by decide +kernel
theorem dX11_cheat_70 : decode cX11_cheat 70 = .ok (.aload 8, 2) := by decide +kernel
theorem dX11_cheat_72 : decode cX11_cheat 72 = .ok (.getfield 205, 3) := by decide +kernel
theorem dX11_cheat_75 : decode cX11_cheat 75 = .ok (.iload_n 2, 1) := by decide +kernel
theorem dX11_cheat_76 : decode cX11_cheat 76 = .ok (.if_icmp .lt 7, 3) := by decide +kernel
theorem dX11_cheat_83 : decode cX11_cheat 83 = .ok (.iconst 0, 1) := by decide +kernel
theorem dX11_cheat_84 : decode cX11_cheat 84 = .ok (.istore 9, 2) := by decide +kernel
theorem dX11_cheat_86 : decode cX11_cheat 86 = .ok (.iload 4, 2) := by decide +kernel
theorem dX11_cheat_88 : decode cX11_cheat 88 = .ok (.iload 9, 2) := by decide +kernel
theorem dX11_cheat_90 : decode cX11_cheat 90 = .ok (.ifCond .eq 7, 3) := by decide +kernel
theorem dX11_cheat_97 : decode cX11_cheat 97 = .ok (.iconst 0, 1) := by decide +kernel
theorem dX11_cheat_98 : decode cX11_cheat 98 = .ok (.iadd, 1) := by decide +kernel
theorem dX11_cheat_99 : decode cX11_cheat 99 = .ok (.istore 4, 2) := by decide +kernel
theorem dX11_cheat_101 : decode cX11_cheat 101 = .ok (.iload 5, 2) := by decide +kernel
theorem dX11_cheat_103 : decode cX11_cheat 103 = .ok (.aload 8, 2) := by decide +kernel
theorem dX11_cheat_105 : decode cX11_cheat 105 = .ok (.getfield 211, 3) := by decide +kernel
theorem dX11_cheat_108 : decode cX11_cheat 108 = .ok (.iload_n 1, 1) := by decide +kernel
theorem dX11_cheat_109 : decode cX11_cheat 109 = .ok (.if_icmp .ne 7, 3) := by decide +kernel
theorem dX11_cheat_116 : decode cX11_cheat 116 = .ok (.iconst 0, 1) := by decide +kernel
theorem dX11_cheat_117 : decode cX11_cheat 117 = .ok (.iadd, 1) := by decide +kernel
theorem dX11_cheat_118 : decode cX11_cheat 118 = .ok (.istore 5, 2) := by decide +kernel
theorem dX11_cheat_120 : decode cX11_cheat 120 = .ok (.iload 6, 2) := by decide +kernel
theorem dX11_cheat_122 : decode cX11_cheat 122 = .ok (.aload 8, 2) := by decide +kernel
theorem dX11_cheat_124 : decode cX11_cheat 124 = .ok (.getfield 211, 3) := by decide +kernel
theorem dX11_cheat_127 : decode cX11_cheat 127 = .ok (.iload_n 1, 1) := by decide +kernel
theorem dX11_cheat_128 : decode cX11_cheat 128 = .ok (.if_icmp .ne 12, 3) := by decide +kernel
theorem dX11_cheat_140 : decode cX11_cheat 140 = .ok (.iconst 0, 1) := by decide +kernel
theorem dX11_cheat_141 : decode cX11_cheat 141 = .ok (.iadd, 1) := by decide +kernel
theorem dX11_cheat_142 : decode cX11_cheat 142 = .ok (.istore 6, 2) := by decide +kernel
theorem dX11_cheat_144 : decode cX11_cheat 144 = .ok (.iinc 7 1, 3) := by decide +kernel
theorem dX11_cheat_147 : decode cX11_cheat 147 = .ok (.goto (-103), 3) := by decide +kernel
theorem dX11_cheat_131 : decode cX11_cheat 131 = .ok (.iload 9, 2) := by decide +kernel
theorem dX11_cheat_133 : decode cX11_cheat 133 = .ok (.ifCond .eq 7, 3) := by decide +kernel
theorem dX11_cheat_112 : decode cX11_cheat 112 = .ok (.iconst 1, 1) := by decide +kernel
theorem dX11_cheat_113 : decode cX11_cheat 113 = .ok (.goto 4, 3) := by decide +kernel
theorem dX11_cheat_79 : decode cX11_cheat 79 = .ok (.iconst 1, 1) := by decide +kernel
theorem dX11_cheat_80 : decode cX11_cheat 80 = .ok (.goto 4, 3) := by decide +kernel
theorem dX11_cheat_93 : decode cX11_cheat 93 = .ok (.iconst 1, 1) := by decide +kernel
theorem dX11_cheat_94 : decode cX11_cheat 94 = .ok (.goto 4, 3) := by decide +kernel
theorem dX11_cheat_136 : decode cX11_cheat 136 = .ok (.iconst 1, 1) := by decide +kernel
theorem dX11_cheat_137 : decode cX11_cheat 137 = .ok (.goto 4, 3) := by decide +kernel
theorem dX11_cheat_28 : decode cX11_cheat 28 = .ok (.ldc2_w 254, 3) := by decide +kernel
theorem dX11_cheat_31 : decode cX11_cheat 31 = .ok (.lreturn, 1) := by decide +kernel
theorem dX12_cheat_0 : decode cX12_cheat 0 = .ok (.aload_n 0, 1) := by decide +kernel
theorem dX12_cheat_1 : decode cX12_cheat 1 = .ok (.iload_n 1, 1) := by decide +kernel
theorem dX12_cheat_2 : decode cX12_cheat 2 = .ok (.invokevirtual 218, 3) := by decide +kernel
theorem dX12_cheat_5 : decode cX12_cheat 5 = .ok (.ifCond .eq 23, 3) := by decide +kernel
theorem dX12_cheat_8 : decode cX12_cheat 8 = .ok (.iload_n 2, 1) := by decide +kernel
theorem dX12_cheat_9 : decode cX12_cheat 9 = .ok (.iconst 0, 1) := by decide +kernel
theorem dX12_cheat_10 : decode cX12_cheat 10 = .ok (.sipush 1000, 3) := by decide +kernel
theorem dX12_cheat_13 : decode cX12_cheat 13 = .ok (.invokestatic 214, 3) := by decide +kernel
theorem dX12_cheat_16 : decode cX12_cheat 16 = .ok (.ifCond .eq 12, 3) := by decide +kernel
theorem dX12_cheat_19 : decode cX12_cheat 19 = .ok (.iload_n 3, 1) := by decide +kernel
theorem dX12_cheat_20 : decode cX12_cheat 20 = .ok (.iconst 0, 1) := by decide +kernel
theorem dX12_cheat_21 : decode cX12_cheat 21 = .ok (.iconst 2, 1) := by decide +kernel
theorem dX12_cheat_22 : decode cX12_cheat 22 = .ok (.invokestatic 214, 3) := by decide +kernel
theorem dX12_cheat_25 : decode cX12_cheat 25 = .ok (.ifCond .ne 7, 3) := by decide +kernel
theorem dX12_cheat_32 : decode cX12_cheat 32 = .ok (.iconst 0, 1) := by decide +kernel
theorem dX12_cheat_33 : decode cX12_cheat 33 = .ok (.istore 4, 2) := by decide +kernel
theorem dX12_cheat_35 : decode cX12_cheat 35 = .ok (.iconst 0, 1) := by decide +kernel
theorem dX12_cheat_36 : decode cX12_cheat 36 = .ok (.istore 5, 2) := by decide +kernel
theorem dX12_cheat_38 : decode cX12_cheat 38 = .ok (.iconst 0, 1) := by decide +kernel
theorem dX12_cheat_39 : decode cX12_cheat 39 = .ok (.istore 6, 2) := by decide +kernel
theorem dX12_cheat_41 : decode cX12_cheat 41 = .ok (.iconst 0, 1) := by decide +kernel
theorem dX12_cheat_42 : decode cX12_cheat 42 = .ok (.istore 7, 2) := by decide +kernel
theorem dX12_cheat_44 : decode cX12_cheat 44 = .ok (.iload 7, 2) := by decide +kernel
theorem dX12_cheat_46 : decode cX12_cheat 46 = .ok (.aload_n 0, 1) := by decide +kernel
theorem dX12_cheat_47 : decode cX12_cheat 47 = .ok (.getfield 208, 3) := by decide +kernel
theorem dX12_cheat_50 : decode cX12_cheat 50 = .ok (.if_icmp .ge 89, 3) := by decide +kernel
theorem dX12_cheat_139 : decode cX12_cheat 139 = .ok (.aload_n 0, 1) := by decide +kernel
theorem dX12_cheat_140 : decode cX12_cheat 140 = .ok (.iload 4, 2) := by decide +kernel
theorem dX12_cheat_142 : decode cX12_cheat 142 = .ok (.iload 5, 2) := by decide +kernel
theorem dX12_cheat_144 : decode cX12_cheat 144 = .ok (.iload 6, 2) := by decide +kernel
theorem dX12_cheat_146 : decode cX12_cheat 146 = .ok (.iload_n 3, 1) := by decide +kernel
theorem dX12_cheat_147 : decode cX12_cheat 147 = .ok (.invokevirtual 353, 3) := by decide +kernel
theorem dX12_cheat_150 : decode cX12_cheat 150 = .ok (.lreturn, 1) := by decide +kernel
theorem dX12_cheat_53 : decode cX12_cheat 53 = .ok (.aload_n 0, 1) := by decide +kernel
theorem dX12_cheat_54 : decode cX12_cheat 54 = .ok (.getfield 34, 3) := by decide +kernel
theorem dX12_cheat_57 : decode cX12_cheat 57 = .ok (.iload 7, 2) := by decide +kernel
theorem dX12_cheat_59 : decode cX12_cheat 59 = .ok (.iaload, 1) := by decide +kernel
theorem dX12_cheat_60 : decode cX12_cheat 60 = .ok (.iload_n 2, 1) := by decide +kernel
theorem dX12_cheat_61 : decode cX12_cheat 61 = .ok (.if_icmp .lt 7, 3) := by decide +kernel
theorem dX12_cheat_68 : decode cX12_cheat 68 = .ok (.iconst 0, 1) := by decide +kernel
theorem dX12_cheat_69 : decode cX12_cheat 69 = .ok (.istore 8, 2) := by decide +kernel
theorem dX12_cheat_71 : decode cX12_cheat 71 = .ok (.iload 4, 2) := by decide +kernel
theorem dX12_cheat_73 : decode cX12_cheat 73 = .ok (.iload 8, 2) := by decide +kernel
theorem dX12_cheat_75 : decode cX12_cheat 75 = .ok (.ifCond .eq 7, 3) := by decide +kernel
theorem dX12_cheat_82 : decode cX12_cheat 82 = .ok (.iconst 0, 1) := by decide +kernel
theorem dX12_cheat_83 : decode cX12_cheat 83 = .ok (.iadd, 1) := by decide +kernel
theorem dX12_cheat_84 : decode cX12_cheat 84 = .ok (.istore 4, 2) := by decide +kernel
theorem dX12_cheat_86 : decode cX12_cheat 86 = .ok (.iload 5, 2) := by decide +kernel
theorem dX12_cheat_88 : decode cX12_cheat 88 = .ok (.aload_n 0, 1) := by decide +kernel
theorem dX12_cheat_89 : decode cX12_cheat 89 = .ok (.getfield 25, 3) := by decide +kernel
theorem dX12_cheat_92 : decode cX12_cheat 92 = .ok (.iload 7, 2) := by decide +kernel
theorem dX12_cheat_94 : decode cX12_cheat 94 = .ok (.iaload, 1) := by decide +kernel
theorem dX12_cheat_95 : decode cX12_cheat 95 = .ok (.iload_n 1, 1) := by decide +kernel
theorem dX12_cheat_96 : decode cX12_cheat 96 = .ok (.if_icmp .ne 7, 3) := by decide +kernel
theorem dX12_cheat_103 : decode cX12_cheat 103 = .ok (.iconst 0, 1) := by decide +kernel
theorem dX12_cheat_104 : decode cX12_cheat 104 = .ok (.iadd, 1) := by decide +kernel
theorem dX12_cheat_105 : decode cX12_cheat 105 = .ok (.istore 5, 2) := by decide +kernel
theorem dX12_cheat_107 : decode cX12_cheat 107 = .ok (.iload 6, 2) := by decide +kernel
theorem dX12_cheat_109 : decode cX12_cheat 109 = .ok (.iload 8, 2) := by decide +kernel
theorem dX12_cheat_111 : decode cX12_cheat 111 = .ok (.ifCond .eq 18, 3) := by decide +kernel
theorem dX12_cheat_129 : decode cX12_cheat 129 = .ok (.iconst 0, 1) := by decide +kernel
theorem dX12_cheat_130 : decode cX12_cheat 130 = .ok (.iadd, 1) := by decide +kernel
theorem dX12_cheat_131 : decode cX12_cheat 131 = .ok (.istore 6, 2) := by decide +kernel
theorem dX12_cheat_133 : decode cX12_cheat 133 = .ok (.iinc 7 1, 3) := by decide +kernel
theorem dX12_cheat_136 : decode cX12_cheat 136 = .ok (.goto (-92), 3) := by decide +kernel
theorem dX12_cheat_99 : decode cX12_cheat 99 = .ok (.iconst 1, 1) := by decide +kernel
theorem dX12_cheat_100 : decode cX12_cheat 100 = .ok (.goto 4, 3) := by decide +kernel
theorem dX12_cheat_64 : decode cX12_cheat 64 = .ok (.iconst 1, 1) := by decide +kernel
theorem dX12_cheat_65 : decode cX12_cheat 65 = .ok (.goto 4, 3) := by decide +kernel
theorem dX12_cheat_78 : decode cX12_cheat 78 = .ok (.iconst 1, 1) := by decide +kernel
theorem dX12_cheat_79 : decode cX12_cheat 79 = .ok (.goto 4, 3) := by decide +kernel
theorem dX12_cheat_114 : decode cX12_cheat 114 = .ok (.aload_n 0, 1) := by decide +kernel
theorem dX12_cheat_115 : decode cX12_cheat 115 = .ok (.getfield 25, 3) := by decide +kernel
theorem dX12_cheat_118 : decode cX12_cheat 118 = .ok (.iload 7, 2) := by decide +kernel
theorem dX12_cheat_120 : decode cX12_cheat 120 = .ok (.iaload, 1) := by decide +kernel
theorem dX12_cheat_121 : decode cX12_cheat 121 = .ok (.iload_n 1, 1) := by decide +kernel
theorem dX12_cheat_122 : decode cX12_cheat 122 = .ok (.if_icmp .ne 7, 3) := by decide +kernel
theorem dX12_cheat_125 : decode cX12_cheat 125 = .ok (.iconst 1, 1) := by decide +kernel
theorem dX12_cheat_126 : decode cX12_cheat 126 = .ok (.goto 4, 3) := by decide +kernel
theorem dX12_cheat_28 : decode cX12_cheat 28 = .ok (.ldc2_w 348, 3) := by decide +kernel
theorem dX12_cheat_31 : decode cX12_cheat 31 = .ok (.lreturn, 1) := by decide +kernel
set_option maxRecDepth 100000 in
set_option maxHeartbeats 4000000 in
theorem q_Echoose (l : Launch) (D : va_G) (cI cB cZ : ClassId) (n0 k0 : Nat) (hn : n0 ≤ 60) (hk : k0 ≤ 60) : Met l yX11_choose (CWS yX11_choose cX11_choose 6 (some .long)) (RM 1 0 0) (PBr [.int (nI n0), .int (nI k0)] D cI cB cZ []) (vp_Sl (fun r => r = lN (bn n0 k0))) 0 0 (fun _ => False) := by
  refine Met.ofW (cc := cX11_choose) (maxL := 6) (ret := (some .long)) (by decide) rfl ?_
  intro p e s m args below meth c s₁ B hml hv
  obtain ⟨rfl, hP, hK⟩ := hv
  have hx := B.exec
  have hb := B.bytes
  have hr := B.returns
  have hts := atoms_spec (ws := (CWS yX11_choose cX11_choose 6 (some .long))) B.pre
  have hown : s.vm.findClass RX11 = some m.cls := findClass_of_methodNamed B.named
  have hlocks := B.notSynchronized
  have S : SF p m c cX11_choose 6 s ([.int (nI n0), .int (nI k0)]).toArray RX11 := ⟨hx, hb, hml, hown, fun w h => hts w (List.mem_cons_of_mem _ h)⟩
  have hl := lv_entry ([.int (nI n0), .int (nI k0)]) (n := 6) (Nat.le_of_ble_eq_true rfl)
  rw [lg_entry_eq]
  generalize (lg_sl ([.int (nI n0), .int (nI k0)]) ++ List.replicate (6 - (lg_sl ([.int (nI n0), .int (nI k0)])).length) Slot.unset).toArray = ls at hl ⊢
  have hl : lv_has ls 6 [(0, .int (nI n0)), (1, .int (nI k0))] := hl
  refine lv_iload_n hx hb dX11_choose_0 rfl (lv_at hl 1 rfl) ?_
  have : (nI k0).toInt = ((k0 : Nat) : Int) := nI_toInt (by omega)
  refine lv_if_lt (tgt := 9) hx hb dX11_choose_1 (by decide) (fun c_1 => False.elim (by have tc_1 : ((nI k0).toInt : Int) < 0 := Int32.lt_iff_toInt_lt.mp c_1; omega)) (fun c_1 => ?_)
  have tc_1 : (0 : Int) ≤ (nI k0).toInt := Int32.le_iff_toInt_le.mp (Int32.not_lt.mp c_1)
  refine lv_iload_n hx hb dX11_choose_4 rfl (lv_at hl 1 rfl) ?_
  refine lv_iload_n hx hb dX11_choose_5 rfl (lv_at hl 0 rfl) ?_
  have : (nI n0).toInt = ((n0 : Nat) : Int) := nI_toInt (by omega)
  refine lv_icmp_le (tgt := 11) hx hb dX11_choose_6 (by decide) (fun c_2 => ?_) (fun c_2 => ?_)
  ·
    have tc_2 : ((nI k0).toInt : Int) ≤ (nI n0).toInt := Int32.le_iff_toInt_le.mp c_2
    refine lv_lconst (v := 1) hx hb dX11_choose_11 (by decide) ?_
    refine lv_lstore_n (lv' := [(2, .long 1), (0, .int (nI n0)), (1, .int (nI k0))]) hx hb dX11_choose_12 rfl hl (by decide) rfl (fun ls hl => ?_)
    refine lv_iload_n hx hb dX11_choose_13 rfl (lv_at hl 2 rfl) ?_
    refine lv_iload_n hx hb dX11_choose_14 rfl (lv_at hl 1 rfl) ?_
    refine lv_iload_n hx hb dX11_choose_15 rfl (lv_at hl 2 rfl) ?_
    refine lv_isub hx hb dX11_choose_16 ?_
    refine lv_topi (fun y_3 ey_3 => ?_)
    obtain rfl : y_3 = (nI (n0 - k0)) := ey_3.trans (nI_sub (by omega))
    refine va_mmin hx hb (by rw [hml]; exact hl.1.symm) hown (S.2.2.2.2 _ (wT_tab 763 rfl rfl)) (S.2.2.2.2 _ (wT_tab 406 rfl rfl)) (S.2.2.2.2 _ (wT_tab 3 rfl rfl)) (S.2.2.2.2 _ (wT_tab 407 rfl rfl)) (Nat.le_of_ble_eq_true rfl) (Nat.le_of_ble_eq_true rfl) (Nat.le_of_ble_eq_true rfl) (Nat.le_of_ble_eq_true rfl) dX11_choose_17 ?_
    refine lv_topi (fun y_4 ey_4 => ?_)
    obtain rfl : y_4 = (nI (min k0 (n0 - k0))) := ey_4.trans (minNI (by omega) (by omega))
    refine lv_istore (lv' := [(4, .int (nI (min k0 (n0 - k0)))), (2, .long 1), (0, .int (nI n0)), (1, .int (nI k0))]) hx hb dX11_choose_20 hl (by decide) rfl (fun ls hl => ?_)
    refine lv_iconst (v := 0) hx hb dX11_choose_22 (by decide) ?_
    refine lv_istore (lv' := [(5, .int 0), (4, .int (nI (min k0 (n0 - k0)))), (2, .long 1), (0, .int (nI n0)), (1, .int (nI k0))]) hx hb dX11_choose_23 hl (by decide) rfl (fun ls hl => ?_)
    have lp_25 : ∀ (n : Nat) (i25 : Nat) (x25_2 : Int64) , min k0 (n0 - k0) - i25 < n → (i25 ≤ min k0 (n0 - k0) ∧ (x25_2 = lN (bn n0 i25))) → ∀ ls : Array Slot, lv_has ls 6 [(5, .int (nI i25)), (4, .int (nI (min k0 (n0 - k0)))), (2, .long x25_2), (0, .int (nI n0)), (1, .int (nI k0))] → W p l e (RM 1 0 0) s m ([.int (nI n0), .int (nI k0)]).toArray below meth c s.heap [] 0 0 (MQ below (vp_Sl (fun r => r = lN (bn n0 k0))) ([.int (nI n0), .int (nI k0)]).toArray s 0 0 (fun _ => False)) (F0 m 25 ls []) := by
      intro n25
      induction n25 with
      | zero => intros; omega
      | succ n25 ih25 =>
        intro i25 x25_2 hmu25 hinv25 ls hl
        obtain ⟨hr25, hx25_0⟩ := hinv25
        have ti25 : (nI i25).toInt = (i25 : Int) := nI_toInt (by omega)
        subst hx25_0
        refine lv_iload hx hb dX11_choose_25 (lv_at hl 0 rfl) ?_
        refine lv_iload hx hb dX11_choose_27 (lv_at hl 1 rfl) ?_
        have : (nI (min k0 (n0 - k0))).toInt = (((min k0 (n0 - k0)) : Nat) : Int) := nI_toInt (by omega)
        refine lv_icmp_ge (tgt := 52) hx hb dX11_choose_29 (by decide) (fun c_5 => ?_) (fun c_5 => ?_)
        ·
          have tc_5 : ((nI (min k0 (n0 - k0))).toInt : Int) ≤ (nI i25).toInt := Int32.le_iff_toInt_le.mp c_5
          refine lv_lload_n hx hb dX11_choose_52 rfl (lv_at hl 2 rfl) ?_
          exact W.lret (v := (lN (bn n0 i25))) hx hb hr (fun t ht hW => ⟨(lN (bn n0 i25)), rfl, (by rw [show i25 = min k0 (n0 - k0) by omega]; exact congrArg lN (bn_min (by omega))), ht⟩) (fun _ h => absurd h List.not_mem_nil) dX11_choose_53
        ·
          have tc_5 : ((nI i25).toInt : Int) < (nI (min k0 (n0 - k0))).toInt := Int32.lt_iff_toInt_lt.mp (Int32.not_le.mp c_5)
          refine lv_lload_n hx hb dX11_choose_32 rfl (lv_at hl 2 rfl) ?_
          refine lv_iload_n hx hb dX11_choose_33 rfl (lv_at hl 3 rfl) ?_
          refine lv_iload hx hb dX11_choose_34 (lv_at hl 0 rfl) ?_
          refine lv_isub hx hb dX11_choose_36 ?_
          refine lv_topi (fun y_6 ey_6 => ?_)
          obtain rfl : y_6 = (nI (n0 - i25)) := ey_6.trans (nI_sub (by omega))
          refine lv_i2l (v := (lN (n0 - i25))) hx hb dX11_choose_37 (nI_l (by omega)) ?_
          refine lv_lmul hx hb dX11_choose_38 ?_
          refine lv_topl (fun y_7 ey_7 => ?_)
          obtain rfl : y_7 = (lN ((bn n0 i25) * (n0 - i25))) := ey_7.trans (lN_mul _ _)
          refine lv_iload hx hb dX11_choose_39 (lv_at hl 0 rfl) ?_
          refine lv_iconst (v := 1) hx hb dX11_choose_41 (by decide) ?_
          refine lv_iadd hx hb dX11_choose_42 ?_
          refine lv_topi (fun y_8 ey_8 => ?_)
          obtain rfl : y_8 = (nI (i25 + 1)) := ey_8.trans (nI_add i25 1)
          refine lv_i2l (v := (lN (i25 + 1))) hx hb dX11_choose_43 (nI_l (by omega)) ?_
          refine lv_ldiv hx hb dX11_choose_44 (lN_ne (by omega) (by omega)) ?_
          refine lv_topl (fun y_9 ey_9 => ?_)
          obtain rfl : y_9 = (lN (bn n0 (i25 + 1))) := ey_9.trans (by rw [bn_st (by omega)]; exact (lN_div (bn_b hn (by omega)) (by omega)).trans (by rw [Nat.mul_div_cancel _ (by omega)]))
          refine lv_lstore_n (lv' := [(2, .long (lN (bn n0 (i25 + 1)))), (5, .int (nI i25)), (4, .int (nI (min k0 (n0 - k0)))), (0, .int (nI n0)), (1, .int (nI k0))]) hx hb dX11_choose_45 rfl hl (by decide) rfl (fun ls hl => ?_)
          refine lv_iinc (v := (nI (i25 + 1))) (lv' := [(5, .int (nI (i25 + 1))), (2, .long (lN (bn n0 (i25 + 1)))), (4, .int (nI (min k0 (n0 - k0)))), (0, .int (nI n0)), (1, .int (nI k0))]) hx hb dX11_choose_46 hl (k := 1) rfl (nI_1 _) (by decide) rfl (fun ls hl => ?_)
          refine lv_goto (tgt := 25) hx hb dX11_choose_49 (by decide) ?_
          exact ih25 (i25 + 1) (lN (bn n0 (i25 + 1))) (by omega) ⟨(by omega), rfl⟩ ls (lv_sub hl [0, 2, 1, 3, 4] rfl)
    exact lp_25 _ 0 1 (Nat.lt_succ_self _) ⟨(by omega), (by rw [bn_0] <;> rfl)⟩ ls (lv_sub hl [0, 1, 2, 3, 4] rfl)
  ·
    have tc_2 : ((nI n0).toInt : Int) < (nI k0).toInt := Int32.lt_iff_toInt_lt.mp (Int32.not_le.mp c_2)
    refine lv_lconst (v := 0) hx hb dX11_choose_9 (by decide) ?_
    exact W.lret (v := 0) hx hb hr (fun t ht hW => ⟨0, rfl, (by rw [bn_big n0 k0 (by omega)] <;> rfl), ht⟩) (fun _ h => absurd h List.not_mem_nil) dX11_choose_10
set_option maxRecDepth 100000 in
set_option maxHeartbeats 4000000 in
theorem q_choose9 (l : Launch) (D : va_G) (cI cB cZ : ClassId) (n0 : Nat) (v1 : Int32) (hn : n0 ≤ 60) : Met l yX12_choose (CWS yX12_choose cX12_choose 5 (some .long)) (RM 0 0 0) (PBr [.int (nI n0), .int v1] D cI cB cZ []) (vp_Sl (fun r => r = lN (bz n0 v1))) 0 0 (fun _ => False) := by
  refine Met.ofW (cc := cX12_choose) (maxL := 5) (ret := (some .long)) (by decide) rfl ?_
  intro p e s m args below meth c s₁ B hml hv
  obtain ⟨rfl, hP, hK⟩ := hv
  have hx := B.exec
  have hb := B.bytes
  have hr := B.returns
  have hts := atoms_spec (ws := (CWS yX12_choose cX12_choose 5 (some .long))) B.pre
  have hown : s.vm.findClass RX12 = some m.cls := findClass_of_methodNamed B.named
  have hlocks := B.notSynchronized
  have S : SF p m c cX12_choose 5 s ([.int (nI n0), .int v1]).toArray RX12 := ⟨hx, hb, hml, hown, fun w h => hts w (List.mem_cons_of_mem _ h)⟩
  have hl := lv_entry ([.int (nI n0), .int v1]) (n := 5) (Nat.le_of_ble_eq_true rfl)
  rw [lg_entry_eq]
  generalize (lg_sl ([.int (nI n0), .int v1]) ++ List.replicate (5 - (lg_sl ([.int (nI n0), .int v1])).length) Slot.unset).toArray = ls at hl ⊢
  have hl : lv_has ls 5 [(0, .int (nI n0)), (1, .int v1)] := hl
  refine lv_iload_n hx hb dX12_choose_0 rfl (lv_at hl 1 rfl) ?_
  refine lv_if_lt (tgt := 9) hx hb dX12_choose_1 (by decide) (fun c_1 => ?_) (fun c_1 => ?_)
  ·
    have tc_1 : (v1.toInt : Int) < 0 := Int32.lt_iff_toInt_lt.mp c_1
    refine lv_lconst (v := 0) hx hb dX12_choose_9 (by decide) ?_
    exact W.lret (v := 0) hx hb hr (fun t ht hW => ⟨0, rfl, (by rw [bz_0 (by omega)] <;> rfl), ht⟩) (fun _ h => absurd h List.not_mem_nil) dX12_choose_10
  ·
    have tc_1 : (0 : Int) ≤ v1.toInt := Int32.le_iff_toInt_le.mp (Int32.not_lt.mp c_1)
    refine lv_iload_n hx hb dX12_choose_4 rfl (lv_at hl 1 rfl) ?_
    refine lv_iload_n hx hb dX12_choose_5 rfl (lv_at hl 0 rfl) ?_
    have : (nI n0).toInt = ((n0 : Nat) : Int) := nI_toInt (by omega)
    refine lv_icmp_le (tgt := 11) hx hb dX12_choose_6 (by decide) (fun c_2 => ?_) (fun c_2 => ?_)
    ·
      have tc_2 : (v1.toInt : Int) ≤ (nI n0).toInt := Int32.le_iff_toInt_le.mp c_2
      obtain ⟨d0, hd0, rfl⟩ := nI_of (x := v1) (fun q => by have := Int32.lt_iff_toInt_lt.mp q; have e : (0 : Int32).toInt = 0 := rfl; omega)
      have td0 : (nI d0).toInt = (d0 : Int) := nI_toInt hd0
      have zd0 : (nI d0).toInt.toNat = d0 := by omega
      refine lv_lconst (v := 1) hx hb dX12_choose_11 (by decide) ?_
      refine lv_lstore_n (lv' := [(2, .long 1), (0, .int (nI n0)), (1, .int (nI d0))]) hx hb dX12_choose_12 rfl hl (by decide) rfl (fun ls hl => ?_)
      refine lv_iconst (v := 1) hx hb dX12_choose_13 (by decide) ?_
      refine lv_istore (lv' := [(4, .int 1), (2, .long 1), (0, .int (nI n0)), (1, .int (nI d0))]) hx hb dX12_choose_14 hl (by decide) rfl (fun ls hl => ?_)
      have lp_16 : ∀ (n : Nat) (i16 : Nat) (x16_2 : Int64) , d0 + 1 - i16 < n → ((1 ≤ i16 ∧ i16 ≤ d0 + 1) ∧ (x16_2 = lN (chD (n0 - d0) (i16 - 1)))) → ∀ ls : Array Slot, lv_has ls 5 [(4, .int (nI i16)), (2, .long x16_2), (0, .int (nI n0)), (1, .int (nI d0))] → W p l e (RM 0 0 0) s m ([.int (nI n0), .int (nI d0)]).toArray below meth c s.heap [] 0 0 (MQ below (vp_Sl (fun r => r = lN (bz n0 (nI d0)))) ([.int (nI n0), .int (nI d0)]).toArray s 0 0 (fun _ => False)) (F0 m 16 ls []) := by
        intro n16
        induction n16 with
        | zero => intros; omega
        | succ n16 ih16 =>
          intro i16 x16_2 hmu16 hinv16 ls hl
          obtain ⟨hr16, hx16_0⟩ := hinv16
          have ti16 : (nI i16).toInt = (i16 : Int) := nI_toInt (by omega)
          obtain ⟨j0, hj0⟩ : ∃ j0, i16 = j0 + 1 := ⟨i16 - 1, by omega⟩
          rw [show i16 - 1 = j0 by omega] at hx16_0
          subst hx16_0
          refine lv_iload hx hb dX12_choose_16 (lv_at hl 0 rfl) ?_
          refine lv_iload_n hx hb dX12_choose_18 rfl (lv_at hl 3 rfl) ?_
          refine lv_icmp_gt (tgt := 42) hx hb dX12_choose_19 (by decide) (fun c_3 => ?_) (fun c_3 => ?_)
          ·
            have tc_3 : ((nI d0).toInt : Int) < (nI i16).toInt := Int32.lt_iff_toInt_lt.mp c_3
            refine lv_lload_n hx hb dX12_choose_42 rfl (lv_at hl 1 rfl) ?_
            exact W.lret (v := (lN (chD (n0 - d0) j0))) hx hb hr (fun t ht hW => ⟨(lN (chD (n0 - d0) j0)), rfl, (by rw [show j0 = d0 by omega, chD_bn, show n0 - d0 + d0 = n0 by omega, bz_n (by omega)]), ht⟩) (fun _ h => absurd h List.not_mem_nil) dX12_choose_43
          ·
            have tc_3 : ((nI i16).toInt : Int) ≤ (nI d0).toInt := Int32.le_iff_toInt_le.mp (Int32.not_lt.mp c_3)
            refine lv_lload_n hx hb dX12_choose_22 rfl (lv_at hl 1 rfl) ?_
            refine lv_iload_n hx hb dX12_choose_23 rfl (lv_at hl 2 rfl) ?_
            refine lv_iload_n hx hb dX12_choose_24 rfl (lv_at hl 3 rfl) ?_
            refine lv_isub hx hb dX12_choose_25 ?_
            refine lv_topi (fun y_4 ey_4 => ?_)
            obtain rfl : y_4 = (nI (n0 - d0)) := ey_4.trans (nI_sub (by omega))
            refine lv_iload hx hb dX12_choose_26 (lv_at hl 0 rfl) ?_
            refine lv_iadd hx hb dX12_choose_28 ?_
            refine lv_topi (fun y_5 ey_5 => ?_)
            obtain rfl : y_5 = (nI ((n0 - d0) + i16)) := ey_5.trans (nI_add (n0 - d0) i16)
            refine lv_i2l (v := (lN ((n0 - d0) + i16))) hx hb dX12_choose_29 (nI_l (by omega)) ?_
            refine lv_lmul hx hb dX12_choose_30 ?_
            refine lv_topl (fun y_6 ey_6 => ?_)
            obtain rfl : y_6 = (lN ((chD (n0 - d0) j0) * ((n0 - d0) + i16))) := ey_6.trans (lN_mul _ _)
            refine lv_iload hx hb dX12_choose_31 (lv_at hl 0 rfl) ?_
            refine lv_i2l (v := (lN i16)) hx hb dX12_choose_33 (nI_l (by omega)) ?_
            refine lv_ldiv hx hb dX12_choose_34 (lN_ne (by omega) (by omega)) ?_
            refine lv_topl (fun y_7 ey_7 => ?_)
            obtain rfl : y_7 = (lN (chD (n0 - d0) (j0 + 1))) := ey_7.trans (by have q := chD_ok (d := n0 - d0) (q := j0) (by omega); rw [hj0]; exact lN_div q.2 (by omega))
            refine lv_lstore_n (lv' := [(2, .long (lN (chD (n0 - d0) (j0 + 1)))), (4, .int (nI i16)), (0, .int (nI n0)), (1, .int (nI d0))]) hx hb dX12_choose_35 rfl hl (by decide) rfl (fun ls hl => ?_)
            refine lv_iinc (v := (nI (i16 + 1))) (lv' := [(4, .int (nI (i16 + 1))), (2, .long (lN (chD (n0 - d0) (j0 + 1)))), (0, .int (nI n0)), (1, .int (nI d0))]) hx hb dX12_choose_36 hl (k := 1) rfl (nI_1 _) (by decide) rfl (fun ls hl => ?_)
            refine lv_goto (tgt := 16) hx hb dX12_choose_39 (by decide) ?_
            exact ih16 (i16 + 1) (lN (chD (n0 - d0) (j0 + 1))) (by omega) ⟨(by omega), (by rw [hj0]; rfl)⟩ ls (lv_sub hl [0, 1, 2, 3] rfl)
      exact lp_16 _ 1 1 (Nat.lt_succ_self _) ⟨(by omega), (show (1 : Int64) = lN (chD (n0 - d0) 0) from rfl)⟩ ls (lv_sub hl [0, 1, 2, 3] rfl)
    ·
      have tc_2 : ((nI n0).toInt : Int) < v1.toInt := Int32.lt_iff_toInt_lt.mp (Int32.not_le.mp c_2)
      refine lv_lconst (v := 0) hx hb dX12_choose_9 (by decide) ?_
      exact W.lret (v := 0) hx hb hr (fun t ht hW => ⟨0, rfl, (by rw [bz_0 (by omega)] <;> rfl), ht⟩) (fun _ h => absurd h List.not_mem_nil) dX12_choose_10
set_option maxRecDepth 100000 in
set_option maxHeartbeats 4000000 in
theorem q_Edivisor (l : Launch) (D : va_G) (cI cB cZ : ClassId) (v0 v1 : Int64) (s0 t0 : Nat) (h0 : v0 = lN s0) (h1 : v1 = lN t0) (hs : s0 < 2 ^ 63) (ht : t0 < 2 ^ 63) : Met l yX11_divisor (CWS yX11_divisor cX11_divisor 7 (some .long)) (RM 0 0 0) (PBr [.long v0, .long v1] D cI cB cZ []) (vp_Sl (fun r => r = lN (Nat.gcd s0 t0))) 0 0 (fun _ => False) := by
  refine Met.ofW (cc := cX11_divisor) (maxL := 7) (ret := (some .long)) (by decide) rfl ?_
  intro p e s m args below meth c s₁ B hml hv
  obtain ⟨rfl, hP, hK⟩ := hv
  have hx := B.exec
  have hb := B.bytes
  have hr := B.returns
  have hts := atoms_spec (ws := (CWS yX11_divisor cX11_divisor 7 (some .long))) B.pre
  have hown : s.vm.findClass RX11 = some m.cls := findClass_of_methodNamed B.named
  have hlocks := B.notSynchronized
  have S : SF p m c cX11_divisor 7 s ([.long v0, .long v1]).toArray RX11 := ⟨hx, hb, hml, hown, fun w h => hts w (List.mem_cons_of_mem _ h)⟩
  have hl := lv_entry ([.long v0, .long v1]) (n := 7) (Nat.le_of_ble_eq_true rfl)
  rw [lg_entry_eq]
  generalize (lg_sl ([.long v0, .long v1]) ++ List.replicate (7 - (lg_sl ([.long v0, .long v1])).length) Slot.unset).toArray = ls at hl ⊢
  have hl : lv_has ls 7 [(0, .long v0), (2, .long v1)] := hl
  refine lv_iconst (v := 0) hx hb dX11_divisor_0 (by decide) ?_
  refine lv_istore (lv' := [(4, .int 0), (0, .long v0), (2, .long v1)]) hx hb dX11_divisor_1 hl (by decide) rfl (fun ls hl => ?_)
  have lp_3 : ∀ (n : Nat) (i3 : Nat) (x3_0 : Int64) (x3_2 : Int64) , 200 - i3 < n → (i3 ≤ 200 ∧ (DVG s0 t0 i3 x3_0 x3_2)) → ∀ ls : Array Slot, lv_has ls 7 [(4, .int (nI i3)), (0, .long x3_0), (2, .long x3_2)] → W p l e (RM 0 0 0) s m ([.long v0, .long v1]).toArray below meth c s.heap [] 0 0 (MQ below (vp_Sl (fun r => r = lN (Nat.gcd s0 t0))) ([.long v0, .long v1]).toArray s 0 0 (fun _ => False)) (F0 m 3 ls []) := by
    intro n3
    induction n3 with
    | zero => intros; omega
    | succ n3 ih3 =>
      intro i3 x3_0 x3_2 hmu3 hinv3 ls hl
      obtain ⟨hr3, hx3_0⟩ := hinv3
      have ti3 : (nI i3).toInt = (i3 : Int) := nI_toInt (by omega)
      refine lv_iload hx hb dX11_divisor_3 (lv_at hl 0 rfl) ?_
      refine lv_sipush (v := 200) hx hb dX11_divisor_5 (by decide) ?_
      refine lv_icmp_ge (tgt := 33) hx hb dX11_divisor_8 (by decide) (fun c_1 => ?_) (fun c_1 => ?_)
      ·
        have tc_1 : (200 : Int) ≤ (nI i3).toInt := Int32.le_iff_toInt_le.mp c_1
        refine lv_lload_n hx hb dX11_divisor_33 rfl (lv_at hl 1 rfl) ?_
        exact W.lret (v := x3_0) hx hb hr (fun t ht hW => ⟨x3_0, rfl, (DVG.fin hx3_0 (by first | exact Or.inl (by omega) | exact Or.inr (Iff.mp (by assumption) (by assumption)))), ht⟩) (fun _ h => absurd h List.not_mem_nil) dX11_divisor_34
      ·
        have tc_1 : ((nI i3).toInt : Int) < 200 := Int32.lt_iff_toInt_lt.mp (Int32.not_le.mp c_1)
        refine lv_lload_n hx hb dX11_divisor_11 rfl (lv_at hl 2 rfl) ?_
        refine lv_lconst (v := 0) hx hb dX11_divisor_12 (by decide) ?_
        refine W.lcmp hx hb dX11_divisor_13 ?_
        refine lv_topi (fun y_2 ey_2 => ?_)
        have zy_2 : y_2 = 0 ↔ x3_2 = 0 := lcmp0 ey_2
        refine lv_if_eq (tgt := 33) hx hb dX11_divisor_14 (by decide) (fun c_3 => ?_) (fun c_3 => ?_)
        ·
          have tc_3 : (y_2.toInt : Int) = 0 := congrArg Int32.toInt c_3
          refine lv_lload_n hx hb dX11_divisor_33 rfl (lv_at hl 1 rfl) ?_
          exact W.lret (v := x3_0) hx hb hr (fun t ht hW => ⟨x3_0, rfl, (DVG.fin hx3_0 (by first | exact Or.inl (by omega) | exact Or.inr (Iff.mp (by assumption) (by assumption)))), ht⟩) (fun _ h => absurd h List.not_mem_nil) dX11_divisor_34
        ·
          have tc_3 : (y_2.toInt : Int) ≠ 0 := fun q => c_3 (Int32.toInt_inj.mp q)
          refine lv_lload_n hx hb dX11_divisor_17 rfl (lv_at hl 1 rfl) ?_
          refine lv_lload_n hx hb dX11_divisor_18 rfl (lv_at hl 2 rfl) ?_
          refine lv_lrem hx hb dX11_divisor_19 (fun q => absurd (Iff.mpr (by assumption) q) (by assumption)) ?_
          refine lv_lstore (lv' := [(5, .long (x3_0 - x3_0 / x3_2 * x3_2)), (4, .int (nI i3)), (0, .long x3_0), (2, .long x3_2)]) hx hb dX11_divisor_20 hl (by decide) rfl (fun ls hl => ?_)
          refine lv_lload_n hx hb dX11_divisor_22 rfl (lv_at hl 3 rfl) ?_
          refine lv_lstore_n (lv' := [(0, .long x3_2), (5, .long (x3_0 - x3_0 / x3_2 * x3_2)), (4, .int (nI i3)), (2, .long x3_2)]) hx hb dX11_divisor_23 rfl hl (by decide) rfl (fun ls hl => ?_)
          refine lv_lload hx hb dX11_divisor_24 (lv_at hl 1 rfl) ?_
          refine lv_lstore_n (lv' := [(2, .long (x3_0 - x3_0 / x3_2 * x3_2)), (0, .long x3_2), (5, .long (x3_0 - x3_0 / x3_2 * x3_2)), (4, .int (nI i3))]) hx hb dX11_divisor_26 rfl hl (by decide) rfl (fun ls hl => ?_)
          refine lv_iinc (v := (nI (i3 + 1))) (lv' := [(4, .int (nI (i3 + 1))), (2, .long (x3_0 - x3_0 / x3_2 * x3_2)), (0, .long x3_2), (5, .long (x3_0 - x3_0 / x3_2 * x3_2))]) hx hb dX11_divisor_27 hl (k := 3) rfl (nI_1 _) (by decide) rfl (fun ls hl => ?_)
          refine lv_goto (tgt := 3) hx hb dX11_divisor_30 (by decide) ?_
          exact ih3 (i3 + 1) x3_2 (x3_0 - x3_0 / x3_2 * x3_2) (by omega) ⟨(by omega), (DVG.st hx3_0 (fun q => absurd (Iff.mpr (by assumption) q) (by assumption)))⟩ ls (lv_sub hl [0, 2, 1] rfl)
  exact lp_3 _ 0 v0 v1 (Nat.lt_succ_self _) ⟨(by omega), ⟨s0, t0, h0, h1, hs, ht, rfl, Or.inl rfl⟩⟩ ls (lv_sub hl [0, 1, 2] rfl)
set_option maxRecDepth 100000 in
set_option maxHeartbeats 4000000 in
theorem q_Eodds (l : Launch) (D : va_G) (cI cB cZ : ClassId) (a0 o0 b0 l0 : Nat) (v4 : Int32) (ha : a0 ≤ l0) (ho : o0 ≤ l0) (hl0 : l0 ≤ 60) (hb0 : b0 ≤ a0 ∧ b0 ≤ o0) : Met l yX11_odds (CWS yX11_odds cX11_odds 11 (some .long)) (RM 2 0 0) (PBr [.int (nI a0), .int (nI o0), .int (nI b0), .int (nI l0), .int v4] D cI cB cZ []) (vp_Sl (fun r => ODX a0 o0 b0 l0 v4 r)) 0 0 (fun _ => False) := by
  refine Met.ofW (cc := cX11_odds) (maxL := 11) (ret := (some .long)) (by decide) rfl ?_
  intro p e s m args below meth c s₁ B hml hv
  obtain ⟨rfl, hP, hK⟩ := hv
  have hx := B.exec
  have hb := B.bytes
  have hr := B.returns
  have hts := atoms_spec (ws := (CWS yX11_odds cX11_odds 11 (some .long))) B.pre
  have hown : s.vm.findClass RX11 = some m.cls := findClass_of_methodNamed B.named
  have hlocks := B.notSynchronized
  have S : SF p m c cX11_odds 11 s ([.int (nI a0), .int (nI o0), .int (nI b0), .int (nI l0), .int v4]).toArray RX11 := ⟨hx, hb, hml, hown, fun w h => hts w (List.mem_cons_of_mem _ h)⟩
  have hl := lv_entry ([.int (nI a0), .int (nI o0), .int (nI b0), .int (nI l0), .int v4]) (n := 11) (Nat.le_of_ble_eq_true rfl)
  rw [lg_entry_eq]
  generalize (lg_sl ([.int (nI a0), .int (nI o0), .int (nI b0), .int (nI l0), .int v4]) ++ List.replicate (11 - (lg_sl ([.int (nI a0), .int (nI o0), .int (nI b0), .int (nI l0), .int v4])).length) Slot.unset).toArray = ls at hl ⊢
  have hl : lv_has ls 11 [(0, .int (nI a0)), (1, .int (nI o0)), (2, .int (nI b0)), (3, .int (nI l0)), (4, .int v4)] := hl
  refine lv_iload hx hb dX11_odds_0 (lv_at hl 4 rfl) ?_
  refine lv_iconst (v := 2) hx hb dX11_odds_2 (by decide) ?_
  refine lv_icmp_ne (tgt := 9) hx hb dX11_odds_3 (by decide) (fun c_1 => ?_) (fun c_1 => ?_)
  ·
    have tc_1 : (v4.toInt : Int) ≠ 2 := fun q => c_1 (Int32.toInt_inj.mp q)
    refine lv_lconst (v := 0) hx hb dX11_odds_9 (by decide) ?_
    refine lv_lstore (lv' := [(5, .long 0), (0, .int (nI a0)), (1, .int (nI o0)), (2, .int (nI b0)), (3, .int (nI l0)), (4, .int v4)]) hx hb dX11_odds_10 hl (by decide) rfl (fun ls hl => ?_)
    refine lv_iload_n hx hb dX11_odds_12 rfl (lv_at hl 3 rfl) ?_
    refine lv_istore (lv' := [(7, .int (nI b0)), (5, .long 0), (0, .int (nI a0)), (1, .int (nI o0)), (2, .int (nI b0)), (3, .int (nI l0)), (4, .int v4)]) hx hb dX11_odds_13 hl (by decide) rfl (fun ls hl => ?_)
    have lp_15 : ∀ (n : Nat) (i15 : Nat) (x15_5 : Int64) , 61 - i15 < n → ((b0 ≤ i15 ∧ i15 ≤ 61 ∧ i15 ≤ min o0 a0 + 1) ∧ (x15_5 = lN (hsum (tC a0 o0 l0) b0 (i15 - b0)))) → ∀ ls : Array Slot, lv_has ls 11 [(7, .int (nI i15)), (5, .long x15_5), (0, .int (nI a0)), (1, .int (nI o0)), (2, .int (nI b0)), (3, .int (nI l0)), (4, .int v4)] → W p l e (RM 2 0 0) s m ([.int (nI a0), .int (nI o0), .int (nI b0), .int (nI l0), .int v4]).toArray below meth c s.heap [] 0 0 (MQ below (vp_Sl (fun r => ODX a0 o0 b0 l0 v4 r)) ([.int (nI a0), .int (nI o0), .int (nI b0), .int (nI l0), .int v4]).toArray s 0 0 (fun _ => False)) (F0 m 15 ls []) := by
      intro n15
      induction n15 with
      | zero => intros; omega
      | succ n15 ih15 =>
        intro i15 x15_5 hmu15 hinv15 ls hl
        obtain ⟨hr15, hx15_0⟩ := hinv15
        have ti15 : (nI i15).toInt = (i15 : Int) := nI_toInt (by omega)
        refine lv_iload hx hb dX11_odds_15 (lv_at hl 0 rfl) ?_
        refine lv_iload_n hx hb dX11_odds_17 rfl (lv_at hl 3 rfl) ?_
        have : (nI o0).toInt = ((o0 : Nat) : Int) := nI_toInt (by omega)
        refine lv_icmp_gt (tgt := 55) hx hb dX11_odds_18 (by decide) (fun c_2 => ?_) (fun c_2 => ?_)
        ·
          have tc_2 : ((nI o0).toInt : Int) < (nI i15).toInt := Int32.lt_iff_toInt_lt.mp c_2
          refine lv_iload_n hx hb dX11_odds_55 rfl (lv_at hl 5 rfl) ?_
          refine lv_iload_n hx hb dX11_odds_56 rfl (lv_at hl 3 rfl) ?_
          refine vp_callSl (runS_r (As := [.int (nI l0), .int (nI o0)]) (rest := []) S (q_Echoose l D cI cB cZ l0 o0 (by omega) (by omega)) kS_RX11_246 hK hP [] rfl ⟨Nat.le_of_ble_eq_true rfl, Nat.le_of_ble_eq_true rfl⟩ ⟨Nat.le_of_ble_eq_true rfl, Nat.le_of_ble_eq_true rfl⟩ rfl hl.1 rfl (Nat.le_of_ble_eq_true rfl) dX11_odds_57) (fun r_3 h_4 => ?_)
          subst h_4
          refine lv_lstore (lv' := [(7, .long (lN (bn l0 o0))), (5, .long x15_5), (0, .int (nI a0)), (1, .int (nI o0)), (2, .int (nI b0)), (3, .int (nI l0)), (4, .int v4)]) hx hb dX11_odds_60 hl (by decide) rfl (fun ls hl => ?_)
          refine lv_lload hx hb dX11_odds_62 (lv_at hl 1 rfl) ?_
          refine lv_lload hx hb dX11_odds_64 (lv_at hl 0 rfl) ?_
          refine vp_callSl (runS_r (As := [.long x15_5, .long (lN (bn l0 o0))]) (rest := []) S (q_Edivisor l D cI cB cZ x15_5 (lN (bn l0 o0)) (hsum (tC a0 o0 l0) b0 (i15 - b0)) (bn l0 o0) hx15_0 rfl (hs_lt (by omega) (fun j _ => tC_K hl0 ha _)) (bn_lt hl0)) kS_RX11_250 hK hP [] rfl ⟨Nat.le_of_ble_eq_true rfl, Nat.le_of_ble_eq_true rfl⟩ ⟨Nat.le_of_ble_eq_true rfl, Nat.le_of_ble_eq_true rfl⟩ rfl hl.1 rfl (Nat.le_of_ble_eq_true rfl) dX11_odds_66) (fun r_5 h_6 => ?_)
          subst h_6
          refine lv_lstore (lv' := [(9, .long (lN (Nat.gcd (hsum (tC a0 o0 l0) b0 (i15 - b0)) (bn l0 o0)))), (7, .long (lN (bn l0 o0))), (5, .long x15_5), (0, .int (nI a0)), (1, .int (nI o0)), (2, .int (nI b0)), (3, .int (nI l0)), (4, .int v4)]) hx hb dX11_odds_69 hl (by decide) rfl (fun ls hl => ?_)
          refine lv_lload hx hb dX11_odds_71 (lv_at hl 0 rfl) ?_
          refine lv_lconst (v := 0) hx hb dX11_odds_73 (by decide) ?_
          refine W.lcmp hx hb dX11_odds_74 ?_
          refine lv_topi (fun y_7 ey_7 => ?_)
          have zy_7 : y_7 = 0 ↔ (lN (Nat.gcd (hsum (tC a0 o0 l0) b0 (i15 - b0)) (bn l0 o0))) = 0 := lcmp0 ey_7
          refine lv_if_ne (tgt := 82) hx hb dX11_odds_75 (by decide) (fun c_8 => ?_) (fun c_8 => ?_)
          ·
            have tc_8 : (y_7.toInt : Int) ≠ 0 := fun q => c_8 (Int32.toInt_inj.mp q)
            refine lv_iload hx hb dX11_odds_82 (lv_at hl 7 rfl) ?_
            refine lv_if_ne (tgt := 95) hx hb dX11_odds_84 (by decide) (fun c_9 => ?_) (fun c_9 => ?_)
            ·
              have tc_9 : (v4.toInt : Int) ≠ 0 := fun q => c_9 (Int32.toInt_inj.mp q)
              refine lv_lload hx hb dX11_odds_95 (lv_at hl 1 rfl) ?_
              refine lv_lload hx hb dX11_odds_97 (lv_at hl 0 rfl) ?_
              refine lv_ldiv hx hb dX11_odds_99 (fun q => absurd (Iff.mpr (by assumption) q) (by assumption)) ?_
              exact W.lret (v := ((lN (bn l0 o0)) / (lN (Nat.gcd (hsum (tC a0 o0 l0) b0 (i15 - b0)) (bn l0 o0))))) hx hb hr (fun t ht hW => ⟨((lN (bn l0 o0)) / (lN (Nat.gcd (hsum (tC a0 o0 l0) b0 (i15 - b0)) (bn l0 o0)))), rfl, (Or.inr (Or.inr ⟨by assumption, by assumption, by have e9 : i15 = min o0 a0 + 1 := (by omega); rw [e9]; exact dvS (bn_lt hl0) (bn_pos l0 o0 ho) (bn_lt hl0)⟩)), ht⟩) (fun _ h => absurd h List.not_mem_nil) dX11_odds_100
            ·
              have tc_9 : (v4.toInt : Int) = 0 := congrArg Int32.toInt c_9
              refine lv_lload hx hb dX11_odds_87 (lv_at hl 2 rfl) ?_
              refine lv_lload hx hb dX11_odds_89 (lv_at hl 0 rfl) ?_
              refine lv_ldiv hx hb dX11_odds_91 (fun q => absurd (Iff.mpr (by assumption) q) (by assumption)) ?_
              refine lv_goto (tgt := 100) hx hb dX11_odds_92 (by decide) ?_
              exact W.lret (v := (x15_5 / (lN (Nat.gcd (hsum (tC a0 o0 l0) b0 (i15 - b0)) (bn l0 o0))))) hx hb hr (fun t ht hW => ⟨(x15_5 / (lN (Nat.gcd (hsum (tC a0 o0 l0) b0 (i15 - b0)) (bn l0 o0)))), rfl, (Or.inr (Or.inl ⟨by assumption, by assumption, by have e9 : i15 = min o0 a0 + 1 := (by omega); rw [hx15_0, e9]; exact dvS (hs_lt (by omega) (fun j _ => tC_K hl0 ha _)) (bn_pos l0 o0 ho) (bn_lt hl0)⟩)), ht⟩) (fun _ h => absurd h List.not_mem_nil) dX11_odds_100
          ·
            have tc_8 : (y_7.toInt : Int) = 0 := congrArg Int32.toInt c_8
            refine lv_ldc2 (v := (-1)) hx hb hown (S.2.2.2.2 _ (wT_tab 781 rfl rfl)) dX11_odds_78 ?_
            exact W.lret (v := (-1)) hx hb hr (fun t ht hW => ⟨(-1), rfl, (False.elim (gcd_nz (bn_pos l0 o0 ho) (bn_lt hl0) (Iff.mp (by assumption) (by assumption)))), ht⟩) (fun _ h => absurd h List.not_mem_nil) dX11_odds_81
        ·
          have tc_2 : ((nI i15).toInt : Int) ≤ (nI o0).toInt := Int32.le_iff_toInt_le.mp (Int32.not_lt.mp c_2)
          refine lv_iload hx hb dX11_odds_21 (lv_at hl 0 rfl) ?_
          refine lv_iload_n hx hb dX11_odds_23 rfl (lv_at hl 2 rfl) ?_
          have : (nI a0).toInt = ((a0 : Nat) : Int) := nI_toInt (by omega)
          refine lv_icmp_gt (tgt := 55) hx hb dX11_odds_24 (by decide) (fun c_10 => ?_) (fun c_10 => ?_)
          ·
            have tc_10 : ((nI a0).toInt : Int) < (nI i15).toInt := Int32.lt_iff_toInt_lt.mp c_10
            refine lv_iload_n hx hb dX11_odds_55 rfl (lv_at hl 5 rfl) ?_
            refine lv_iload_n hx hb dX11_odds_56 rfl (lv_at hl 3 rfl) ?_
            refine vp_callSl (runS_r (As := [.int (nI l0), .int (nI o0)]) (rest := []) S (q_Echoose l D cI cB cZ l0 o0 (by omega) (by omega)) kS_RX11_246 hK hP [] rfl ⟨Nat.le_of_ble_eq_true rfl, Nat.le_of_ble_eq_true rfl⟩ ⟨Nat.le_of_ble_eq_true rfl, Nat.le_of_ble_eq_true rfl⟩ rfl hl.1 rfl (Nat.le_of_ble_eq_true rfl) dX11_odds_57) (fun r_11 h_12 => ?_)
            subst h_12
            refine lv_lstore (lv' := [(7, .long (lN (bn l0 o0))), (5, .long x15_5), (0, .int (nI a0)), (1, .int (nI o0)), (2, .int (nI b0)), (3, .int (nI l0)), (4, .int v4)]) hx hb dX11_odds_60 hl (by decide) rfl (fun ls hl => ?_)
            refine lv_lload hx hb dX11_odds_62 (lv_at hl 1 rfl) ?_
            refine lv_lload hx hb dX11_odds_64 (lv_at hl 0 rfl) ?_
            refine vp_callSl (runS_r (As := [.long x15_5, .long (lN (bn l0 o0))]) (rest := []) S (q_Edivisor l D cI cB cZ x15_5 (lN (bn l0 o0)) (hsum (tC a0 o0 l0) b0 (i15 - b0)) (bn l0 o0) hx15_0 rfl (hs_lt (by omega) (fun j _ => tC_K hl0 ha _)) (bn_lt hl0)) kS_RX11_250 hK hP [] rfl ⟨Nat.le_of_ble_eq_true rfl, Nat.le_of_ble_eq_true rfl⟩ ⟨Nat.le_of_ble_eq_true rfl, Nat.le_of_ble_eq_true rfl⟩ rfl hl.1 rfl (Nat.le_of_ble_eq_true rfl) dX11_odds_66) (fun r_13 h_14 => ?_)
            subst h_14
            refine lv_lstore (lv' := [(9, .long (lN (Nat.gcd (hsum (tC a0 o0 l0) b0 (i15 - b0)) (bn l0 o0)))), (7, .long (lN (bn l0 o0))), (5, .long x15_5), (0, .int (nI a0)), (1, .int (nI o0)), (2, .int (nI b0)), (3, .int (nI l0)), (4, .int v4)]) hx hb dX11_odds_69 hl (by decide) rfl (fun ls hl => ?_)
            refine lv_lload hx hb dX11_odds_71 (lv_at hl 0 rfl) ?_
            refine lv_lconst (v := 0) hx hb dX11_odds_73 (by decide) ?_
            refine W.lcmp hx hb dX11_odds_74 ?_
            refine lv_topi (fun y_15 ey_15 => ?_)
            have zy_15 : y_15 = 0 ↔ (lN (Nat.gcd (hsum (tC a0 o0 l0) b0 (i15 - b0)) (bn l0 o0))) = 0 := lcmp0 ey_15
            refine lv_if_ne (tgt := 82) hx hb dX11_odds_75 (by decide) (fun c_16 => ?_) (fun c_16 => ?_)
            ·
              have tc_16 : (y_15.toInt : Int) ≠ 0 := fun q => c_16 (Int32.toInt_inj.mp q)
              refine lv_iload hx hb dX11_odds_82 (lv_at hl 7 rfl) ?_
              refine lv_if_ne (tgt := 95) hx hb dX11_odds_84 (by decide) (fun c_17 => ?_) (fun c_17 => ?_)
              ·
                have tc_17 : (v4.toInt : Int) ≠ 0 := fun q => c_17 (Int32.toInt_inj.mp q)
                refine lv_lload hx hb dX11_odds_95 (lv_at hl 1 rfl) ?_
                refine lv_lload hx hb dX11_odds_97 (lv_at hl 0 rfl) ?_
                refine lv_ldiv hx hb dX11_odds_99 (fun q => absurd (Iff.mpr (by assumption) q) (by assumption)) ?_
                exact W.lret (v := ((lN (bn l0 o0)) / (lN (Nat.gcd (hsum (tC a0 o0 l0) b0 (i15 - b0)) (bn l0 o0))))) hx hb hr (fun t ht hW => ⟨((lN (bn l0 o0)) / (lN (Nat.gcd (hsum (tC a0 o0 l0) b0 (i15 - b0)) (bn l0 o0)))), rfl, (Or.inr (Or.inr ⟨by assumption, by assumption, by have e9 : i15 = min o0 a0 + 1 := (by omega); rw [e9]; exact dvS (bn_lt hl0) (bn_pos l0 o0 ho) (bn_lt hl0)⟩)), ht⟩) (fun _ h => absurd h List.not_mem_nil) dX11_odds_100
              ·
                have tc_17 : (v4.toInt : Int) = 0 := congrArg Int32.toInt c_17
                refine lv_lload hx hb dX11_odds_87 (lv_at hl 2 rfl) ?_
                refine lv_lload hx hb dX11_odds_89 (lv_at hl 0 rfl) ?_
                refine lv_ldiv hx hb dX11_odds_91 (fun q => absurd (Iff.mpr (by assumption) q) (by assumption)) ?_
                refine lv_goto (tgt := 100) hx hb dX11_odds_92 (by decide) ?_
                exact W.lret (v := (x15_5 / (lN (Nat.gcd (hsum (tC a0 o0 l0) b0 (i15 - b0)) (bn l0 o0))))) hx hb hr (fun t ht hW => ⟨(x15_5 / (lN (Nat.gcd (hsum (tC a0 o0 l0) b0 (i15 - b0)) (bn l0 o0)))), rfl, (Or.inr (Or.inl ⟨by assumption, by assumption, by have e9 : i15 = min o0 a0 + 1 := (by omega); rw [hx15_0, e9]; exact dvS (hs_lt (by omega) (fun j _ => tC_K hl0 ha _)) (bn_pos l0 o0 ho) (bn_lt hl0)⟩)), ht⟩) (fun _ h => absurd h List.not_mem_nil) dX11_odds_100
            ·
              have tc_16 : (y_15.toInt : Int) = 0 := congrArg Int32.toInt c_16
              refine lv_ldc2 (v := (-1)) hx hb hown (S.2.2.2.2 _ (wT_tab 781 rfl rfl)) dX11_odds_78 ?_
              exact W.lret (v := (-1)) hx hb hr (fun t ht hW => ⟨(-1), rfl, (False.elim (gcd_nz (bn_pos l0 o0 ho) (bn_lt hl0) (Iff.mp (by assumption) (by assumption)))), ht⟩) (fun _ h => absurd h List.not_mem_nil) dX11_odds_81
          ·
            have tc_10 : ((nI i15).toInt : Int) ≤ (nI a0).toInt := Int32.le_iff_toInt_le.mp (Int32.not_lt.mp c_10)
            refine lv_lload hx hb dX11_odds_27 (lv_at hl 1 rfl) ?_
            refine lv_iload_n hx hb dX11_odds_29 rfl (lv_at hl 2 rfl) ?_
            refine lv_iload hx hb dX11_odds_30 (lv_at hl 0 rfl) ?_
            refine vp_callSl (runS_r (As := [.int (nI a0), .int (nI i15)]) (rest := [.long x15_5]) S (q_Echoose l D cI cB cZ a0 i15 (by omega) (by omega)) kS_RX11_246 hK hP [] rfl ⟨Nat.le_of_ble_eq_true rfl, Nat.le_of_ble_eq_true rfl⟩ ⟨Nat.le_of_ble_eq_true rfl, Nat.le_of_ble_eq_true rfl⟩ rfl hl.1 rfl (Nat.le_of_ble_eq_true rfl) dX11_odds_32) (fun r_18 h_19 => ?_)
            subst h_19
            refine lv_iload_n hx hb dX11_odds_35 rfl (lv_at hl 5 rfl) ?_
            refine lv_iload_n hx hb dX11_odds_36 rfl (lv_at hl 2 rfl) ?_
            refine lv_isub hx hb dX11_odds_37 ?_
            refine lv_topi (fun y_20 ey_20 => ?_)
            obtain rfl : y_20 = (nI (l0 - a0)) := ey_20.trans (nI_sub (by omega))
            refine lv_iload_n hx hb dX11_odds_38 rfl (lv_at hl 3 rfl) ?_
            refine lv_iload hx hb dX11_odds_39 (lv_at hl 0 rfl) ?_
            refine lv_isub hx hb dX11_odds_41 ?_
            refine lv_topi (fun y_21 ey_21 => ?_)
            obtain rfl : y_21 = (nI (o0 - i15)) := ey_21.trans (nI_sub (by omega))
            refine vp_callSl (runS_r (As := [.int (nI (l0 - a0)), .int (nI (o0 - i15))]) (rest := [.long (lN (bn a0 i15)), .long x15_5]) S (q_Echoose l D cI cB cZ (l0 - a0) (o0 - i15) (by omega) (by omega)) kS_RX11_246 hK hP [] rfl ⟨Nat.le_of_ble_eq_true rfl, Nat.le_of_ble_eq_true rfl⟩ ⟨Nat.le_of_ble_eq_true rfl, Nat.le_of_ble_eq_true rfl⟩ rfl hl.1 rfl (Nat.le_of_ble_eq_true rfl) dX11_odds_42) (fun r_22 h_23 => ?_)
            subst h_23
            refine lv_lmul hx hb dX11_odds_45 ?_
            refine lv_topl (fun y_24 ey_24 => ?_)
            obtain rfl : y_24 = (lN ((bn a0 i15) * (bn (l0 - a0) (o0 - i15)))) := ey_24.trans (lN_mul _ _)
            refine lv_ladd hx hb dX11_odds_46 ?_
            refine lv_lstore (lv' := [(5, .long (x15_5 + (lN ((bn a0 i15) * (bn (l0 - a0) (o0 - i15)))))), (7, .int (nI i15)), (0, .int (nI a0)), (1, .int (nI o0)), (2, .int (nI b0)), (3, .int (nI l0)), (4, .int v4)]) hx hb dX11_odds_47 hl (by decide) rfl (fun ls hl => ?_)
            refine lv_iinc (v := (nI (i15 + 1))) (lv' := [(7, .int (nI (i15 + 1))), (5, .long (x15_5 + (lN ((bn a0 i15) * (bn (l0 - a0) (o0 - i15)))))), (0, .int (nI a0)), (1, .int (nI o0)), (2, .int (nI b0)), (3, .int (nI l0)), (4, .int v4)]) hx hb dX11_odds_49 hl (k := 1) rfl (nI_1 _) (by decide) rfl (fun ls hl => ?_)
            refine lv_goto (tgt := 15) hx hb dX11_odds_52 (by decide) ?_
            exact ih15 (i15 + 1) (x15_5 + (lN ((bn a0 i15) * (bn (l0 - a0) (o0 - i15))))) (by omega) ⟨(by omega), (hs_1 (by omega) hx15_0 rfl)⟩ ls (lv_sub hl [0, 1, 2, 3, 4, 5, 6] rfl)
    exact lp_15 _ b0 0 (Nat.lt_succ_self _) ⟨(by omega), (by rw [Nat.sub_self] <;> rfl)⟩ ls (lv_sub hl [0, 1, 2, 3, 4, 5, 6] rfl)
  ·
    have tc_1 : (v4.toInt : Int) = 2 := congrArg Int32.toInt c_1
    refine lv_iload_n hx hb dX11_odds_6 rfl (lv_at hl 2 rfl) ?_
    refine lv_i2l (v := (lN b0)) hx hb dX11_odds_7 (nI_l (by omega)) ?_
    exact W.lret (v := (lN b0)) hx hb hr (fun t ht hW => ⟨(lN b0), rfl, (Or.inl ⟨by assumption, rfl⟩), ht⟩) (fun _ h => absurd h List.not_mem_nil) dX11_odds_8
set_option maxRecDepth 100000 in
set_option maxHeartbeats 4000000 in
theorem q_byLot9 (l : Launch) (D : va_G) (cI cB cZ : ClassId) (g : Nat → Nat) (cn : Nat → Nat) (In : Nat → Int32) (Fn : Nat → Nat → Int32) (a0 o0 b0 : Nat) (v3 : Int32) (hI : IM cn Fn) (ha : a0 ≤ cn 2) (ho : o0 ≤ cn 2) (hb0 : b0 ≤ o0) : Met l yX12_byLot (CWS yX12_byLot cX12_byLot 15 (some .long)) (RM 1 0 0) (PBr [.ref (g 100), .int (nI a0), .int (nI o0), .int (nI b0), .int v3] D cI cB cZ (wM cI cB cZ g cn In Fn)) (vp_Sl (fun r => ODM a0 o0 b0 (cn 2) v3 r)) 0 0 (fun _ => False) := by
  refine Met.ofW (cc := cX12_byLot) (maxL := 15) (ret := (some .long)) (by decide) rfl ?_
  intro p e s m args below meth c s₁ B hml hv
  obtain ⟨rfl, hP, hK⟩ := hv
  have hx := B.exec
  have hb := B.bytes
  have hr := B.returns
  have hts := atoms_spec (ws := (CWS yX12_byLot cX12_byLot 15 (some .long))) B.pre
  have hown : s.vm.findClass RX12 = some m.cls := findClass_of_methodNamed B.named
  have hlocks := B.notSynchronized
  have S : SF p m c cX12_byLot 15 s ([.ref (g 100), .int (nI a0), .int (nI o0), .int (nI b0), .int v3]).toArray RX12 := ⟨hx, hb, hml, hown, fun w h => hts w (List.mem_cons_of_mem _ h)⟩
  have hl := lv_entry ([.ref (g 100), .int (nI a0), .int (nI o0), .int (nI b0), .int v3]) (n := 15) (Nat.le_of_ble_eq_true rfl)
  rw [lg_entry_eq]
  generalize (lg_sl ([.ref (g 100), .int (nI a0), .int (nI o0), .int (nI b0), .int v3]) ++ List.replicate (15 - (lg_sl ([.ref (g 100), .int (nI a0), .int (nI o0), .int (nI b0), .int v3])).length) Slot.unset).toArray = ls at hl ⊢
  have hl : lv_has ls 15 [(0, .ref (g 100)), (1, .int (nI a0)), (2, .int (nI o0)), (3, .int (nI b0)), (4, .int v3)] := hl
  have hi_cn := hI.b
  refine lv_iload hx hb dX12_byLot_0 (lv_at hl 4 rfl) ?_
  refine lv_iconst (v := 2) hx hb dX12_byLot_2 (by decide) ?_
  refine lv_icmp_ne (tgt := 9) hx hb dX12_byLot_3 (by decide) (fun c_1 => ?_) (fun c_1 => ?_)
  ·
    have tc_1 : (v3.toInt : Int) ≠ 2 := fun q => c_1 (Int32.toInt_inj.mp q)
    refine lv_lconst (v := 0) hx hb dX12_byLot_9 (by decide) ?_
    refine lv_lstore (lv' := [(5, .long 0), (0, .ref (g 100)), (1, .int (nI a0)), (2, .int (nI o0)), (3, .int (nI b0)), (4, .int v3)]) hx hb dX12_byLot_10 hl (by decide) rfl (fun ls hl => ?_)
    refine lv_iload_n hx hb dX12_byLot_12 rfl (lv_at hl 4 rfl) ?_
    refine lv_istore (lv' := [(7, .int (nI b0)), (5, .long 0), (0, .ref (g 100)), (1, .int (nI a0)), (2, .int (nI o0)), (3, .int (nI b0)), (4, .int v3)]) hx hb dX12_byLot_13 hl (by decide) rfl (fun ls hl => ?_)
    have lp_15 : ∀ (n : Nat) (i15 : Nat) (x15_5 : Int64) , o0 + 1 - i15 < n → ((b0 ≤ i15 ∧ i15 ≤ o0 + 1) ∧ (x15_5 = lN (hsum (tR a0 o0 (cn 2)) b0 (i15 - b0)))) → ∀ ls : Array Slot, lv_has ls 15 [(7, .int (nI i15)), (5, .long x15_5), (0, .ref (g 100)), (1, .int (nI a0)), (2, .int (nI o0)), (3, .int (nI b0)), (4, .int v3)] → W p l e (RM 1 0 0) s m ([.ref (g 100), .int (nI a0), .int (nI o0), .int (nI b0), .int v3]).toArray below meth c s.heap [] 0 0 (MQ below (vp_Sl (fun r => ODM a0 o0 b0 (cn 2) v3 r)) ([.ref (g 100), .int (nI a0), .int (nI o0), .int (nI b0), .int v3]).toArray s 0 0 (fun _ => False)) (F0 m 15 ls []) := by
      intro n15
      induction n15 with
      | zero => intros; omega
      | succ n15 ih15 =>
        intro i15 x15_5 hmu15 hinv15 ls hl
        obtain ⟨hr15, hx15_0⟩ := hinv15
        have ti15 : (nI i15).toInt = (i15 : Int) := nI_toInt (by omega)
        refine lv_iload hx hb dX12_byLot_15 (lv_at hl 0 rfl) ?_
        refine lv_iload_n hx hb dX12_byLot_17 rfl (lv_at hl 4 rfl) ?_
        have : (nI o0).toInt = ((o0 : Nat) : Int) := nI_toInt (by omega)
        refine lv_icmp_gt (tgt := 52) hx hb dX12_byLot_18 (by decide) (fun c_2 => ?_) (fun c_2 => ?_)
        ·
          have tc_2 : ((nI o0).toInt : Int) < (nI i15).toInt := Int32.lt_iff_toInt_lt.mp c_2
          refine lv_aload_n hx hb dX12_byLot_52 rfl (lv_at hl 2 rfl) ?_
          refine gM_208 S hK hP (v := .int (nI (cn 2))) rfl dX12_byLot_53 ?_
          refine lv_iload_n hx hb dX12_byLot_56 rfl (lv_at hl 3 rfl) ?_
          refine vp_callSl (runS_r (As := [.int (nI (cn 2)), .int (nI a0)]) (rest := []) S (q_choose9 l D cI cB cZ (cn 2) (nI a0) (by omega)) kS_RX12_344 hK hP [] rfl ⟨Nat.le_of_ble_eq_true rfl, Nat.le_of_ble_eq_true rfl⟩ ⟨Nat.le_of_ble_eq_true rfl, Nat.le_of_ble_eq_true rfl⟩ rfl hl.1 rfl (Nat.le_of_ble_eq_true rfl) dX12_byLot_57) (fun r_3 h_4 => ?_)
          subst h_4
          have hz : ¬ lN (bz (cn 2) (nI a0)) = 0 := lN_ne (by rw [bz_n (by omega)]; exact bn_pos _ _ ha) (bz_lt (by omega))
          refine lv_lstore (lv' := [(7, .long (lN (bz (cn 2) (nI a0)))), (5, .long x15_5), (0, .ref (g 100)), (1, .int (nI a0)), (2, .int (nI o0)), (3, .int (nI b0)), (4, .int v3)]) hx hb dX12_byLot_60 hl (by decide) rfl (fun ls hl => ?_)
          refine lv_lload hx hb dX12_byLot_62 (lv_at hl 1 rfl) ?_
          refine lv_lstore (lv' := [(9, .long x15_5), (7, .long (lN (bz (cn 2) (nI a0)))), (5, .long x15_5), (0, .ref (g 100)), (1, .int (nI a0)), (2, .int (nI o0)), (3, .int (nI b0)), (4, .int v3)]) hx hb dX12_byLot_64 hl (by decide) rfl (fun ls hl => ?_)
          refine lv_lload hx hb dX12_byLot_66 (lv_at hl 1 rfl) ?_
          refine lv_lstore (lv' := [(11, .long (lN (bz (cn 2) (nI a0)))), (9, .long x15_5), (7, .long (lN (bz (cn 2) (nI a0)))), (5, .long x15_5), (0, .ref (g 100)), (1, .int (nI a0)), (2, .int (nI o0)), (3, .int (nI b0)), (4, .int v3)]) hx hb dX12_byLot_68 hl (by decide) rfl (fun ls hl => ?_)
          have lp_70 : ∀ (n : Nat) (x70_9 : Int64) (x70_11 : Int64) , x70_11.toInt.natAbs < n → ((¬ x70_9 = 0 ∨ ¬ x70_11 = 0) ∧ (GC (hsum (tR a0 o0 (cn 2)) b0 (i15 - b0)) (bz (cn 2) (nI a0)) x70_9 x70_11)) → ∀ ls : Array Slot, lv_has ls 15 [(11, .long x70_11), (9, .long x70_9), (7, .long (lN (bz (cn 2) (nI a0)))), (5, .long x15_5), (0, .ref (g 100)), (1, .int (nI a0)), (2, .int (nI o0)), (3, .int (nI b0)), (4, .int v3)] → W p l e (RM 1 0 0) s m ([.ref (g 100), .int (nI a0), .int (nI o0), .int (nI b0), .int v3]).toArray below meth c s.heap [] 0 0 (MQ below (vp_Sl (fun r => ODM a0 o0 b0 (cn 2) v3 r)) ([.ref (g 100), .int (nI a0), .int (nI o0), .int (nI b0), .int v3]).toArray s 0 0 (fun _ => False)) (F0 m 70 ls []) := by
            intro n70
            induction n70 with
            | zero => intros; omega
            | succ n70 ih70 =>
              intro x70_9 x70_11 hmu70 hinv70 ls hl
              obtain ⟨hx70_0, hx70_1⟩ := hinv70
              refine lv_lload hx hb dX12_byLot_70 (lv_at hl 0 rfl) ?_
              refine lv_lconst (v := 0) hx hb dX12_byLot_72 (by decide) ?_
              refine W.lcmp hx hb dX12_byLot_73 ?_
              refine lv_topi (fun y_5 ey_5 => ?_)
              have zy_5 : y_5 = 0 ↔ x70_11 = 0 := lcmp0 ey_5
              refine lv_if_eq (tgt := 95) hx hb dX12_byLot_74 (by decide) (fun c_6 => ?_) (fun c_6 => ?_)
              ·
                have tc_6 : (y_5.toInt : Int) = 0 := congrArg Int32.toInt c_6
                have hxx : ¬ x70_9 = 0 := hx70_0.resolve_right (fun q => q (Iff.mp (by assumption) (by assumption)))
                refine lv_iload hx hb dX12_byLot_95 (lv_at hl 8 rfl) ?_
                refine lv_if_ne (tgt := 108) hx hb dX12_byLot_97 (by decide) (fun c_7 => ?_) (fun c_7 => ?_)
                ·
                  have tc_7 : (v3.toInt : Int) ≠ 0 := fun q => c_7 (Int32.toInt_inj.mp q)
                  refine lv_lload hx hb dX12_byLot_108 (lv_at hl 2 rfl) ?_
                  refine lv_lload hx hb dX12_byLot_110 (lv_at hl 1 rfl) ?_
                  refine lv_ldiv hx hb dX12_byLot_112 hxx ?_
                  exact W.lret (v := ((lN (bz (cn 2) (nI a0))) / x70_9)) hx hb hr (fun t ht hW => ⟨((lN (bz (cn 2) (nI a0))) / x70_9), rfl, (Or.inr (Or.inr ⟨by assumption, by assumption, by have e9 : i15 = o0 + 1 := (by omega); have g9 := GC.fin hx70_1 (Iff.mp (by assumption) (by assumption)); rw [g9, e9]; exact dvS (bz_lt (by omega)) (by rw [bz_n (by omega)]; exact bn_pos _ _ ha) (bz_lt (by omega))⟩)), ht⟩) (fun _ h => absurd h List.not_mem_nil) dX12_byLot_113
                ·
                  have tc_7 : (v3.toInt : Int) = 0 := congrArg Int32.toInt c_7
                  refine lv_lload hx hb dX12_byLot_100 (lv_at hl 3 rfl) ?_
                  refine lv_lload hx hb dX12_byLot_102 (lv_at hl 1 rfl) ?_
                  refine lv_ldiv hx hb dX12_byLot_104 hxx ?_
                  refine lv_goto (tgt := 113) hx hb dX12_byLot_105 (by decide) ?_
                  exact W.lret (v := (x15_5 / x70_9)) hx hb hr (fun t ht hW => ⟨(x15_5 / x70_9), rfl, (Or.inr (Or.inl ⟨by assumption, by assumption, by have e9 : i15 = o0 + 1 := (by omega); have g9 := GC.fin hx70_1 (Iff.mp (by assumption) (by assumption)); rw [g9, hx15_0, e9]; exact dvS (hs_lt (by omega) (fun j hj => tR_K (by omega) ha ho (by omega))) (by rw [bz_n (by omega)]; exact bn_pos _ _ ha) (bz_lt (by omega))⟩)), ht⟩) (fun _ h => absurd h List.not_mem_nil) dX12_byLot_113
              ·
                have tc_6 : (y_5.toInt : Int) ≠ 0 := fun q => c_6 (Int32.toInt_inj.mp q)
                refine lv_lload hx hb dX12_byLot_77 (lv_at hl 1 rfl) ?_
                refine lv_lload hx hb dX12_byLot_79 (lv_at hl 0 rfl) ?_
                refine lv_lrem hx hb dX12_byLot_81 (fun q => absurd (Iff.mpr (by assumption) q) (by assumption)) ?_
                have hlt := lrem_lt (x := x70_9) (y := x70_11) (fun q => absurd (Iff.mpr (by assumption) q) (by assumption))
                refine lv_lstore (lv' := [(13, .long (x70_9 - x70_9 / x70_11 * x70_11)), (11, .long x70_11), (9, .long x70_9), (7, .long (lN (bz (cn 2) (nI a0)))), (5, .long x15_5), (0, .ref (g 100)), (1, .int (nI a0)), (2, .int (nI o0)), (3, .int (nI b0)), (4, .int v3)]) hx hb dX12_byLot_82 hl (by decide) rfl (fun ls hl => ?_)
                refine lv_lload hx hb dX12_byLot_84 (lv_at hl 1 rfl) ?_
                refine lv_lstore (lv' := [(9, .long x70_11), (13, .long (x70_9 - x70_9 / x70_11 * x70_11)), (11, .long x70_11), (7, .long (lN (bz (cn 2) (nI a0)))), (5, .long x15_5), (0, .ref (g 100)), (1, .int (nI a0)), (2, .int (nI o0)), (3, .int (nI b0)), (4, .int v3)]) hx hb dX12_byLot_86 hl (by decide) rfl (fun ls hl => ?_)
                refine lv_lload hx hb dX12_byLot_88 (lv_at hl 1 rfl) ?_
                refine lv_lstore (lv' := [(11, .long (x70_9 - x70_9 / x70_11 * x70_11)), (9, .long x70_11), (13, .long (x70_9 - x70_9 / x70_11 * x70_11)), (7, .long (lN (bz (cn 2) (nI a0)))), (5, .long x15_5), (0, .ref (g 100)), (1, .int (nI a0)), (2, .int (nI o0)), (3, .int (nI b0)), (4, .int v3)]) hx hb dX12_byLot_90 hl (by decide) rfl (fun ls hl => ?_)
                refine lv_goto (tgt := 70) hx hb dX12_byLot_92 (by decide) ?_
                exact ih70 x70_11 (x70_9 - x70_9 / x70_11 * x70_11) (by omega) ⟨(Or.inl (fun q => absurd (Iff.mpr (by assumption) q) (by assumption))), (GC.st hx70_1 (fun q => absurd (Iff.mpr (by assumption) q) (by assumption)))⟩ ls (lv_sub hl [0, 1, 3, 4, 5, 6, 7, 8, 9] rfl)
          exact lp_70 _ x15_5 (lN (bz (cn 2) (nI a0))) (Nat.lt_succ_self _) ⟨(Or.inr hz), ⟨_, _, hx15_0, rfl, hs_lt (by omega) (fun j hj => tR_K (by omega) ha ho (by omega)), bz_lt (by omega), rfl⟩⟩ ls (lv_sub hl [0, 1, 2, 3, 4, 5, 6, 7, 8] rfl)
        ·
          have tc_2 : ((nI i15).toInt : Int) ≤ (nI o0).toInt := Int32.le_iff_toInt_le.mp (Int32.not_lt.mp c_2)
          refine lv_lload hx hb dX12_byLot_21 (lv_at hl 1 rfl) ?_
          refine lv_iload_n hx hb dX12_byLot_23 rfl (lv_at hl 4 rfl) ?_
          refine lv_iload hx hb dX12_byLot_24 (lv_at hl 0 rfl) ?_
          refine vp_callSl (runS_r (As := [.int (nI o0), .int (nI i15)]) (rest := [.long x15_5]) S (q_choose9 l D cI cB cZ o0 (nI i15) (by omega)) kS_RX12_344 hK hP [] rfl ⟨Nat.le_of_ble_eq_true rfl, Nat.le_of_ble_eq_true rfl⟩ ⟨Nat.le_of_ble_eq_true rfl, Nat.le_of_ble_eq_true rfl⟩ rfl hl.1 rfl (Nat.le_of_ble_eq_true rfl) dX12_byLot_26) (fun r_8 h_9 => ?_)
          subst h_9
          refine lv_aload_n hx hb dX12_byLot_29 rfl (lv_at hl 2 rfl) ?_
          refine gM_208 S hK hP (v := .int (nI (cn 2))) rfl dX12_byLot_30 ?_
          refine lv_iload_n hx hb dX12_byLot_33 rfl (lv_at hl 4 rfl) ?_
          refine lv_isub hx hb dX12_byLot_34 ?_
          refine lv_topi (fun y_10 ey_10 => ?_)
          obtain rfl : y_10 = (nI (cn 2 - o0)) := ey_10.trans (nI_sub (by omega))
          refine lv_iload_n hx hb dX12_byLot_35 rfl (lv_at hl 3 rfl) ?_
          refine lv_iload hx hb dX12_byLot_36 (lv_at hl 0 rfl) ?_
          refine lv_isub hx hb dX12_byLot_38 ?_
          refine vp_callSl (runS_r (As := [.int (nI (cn 2 - o0)), .int ((nI a0) - (nI i15))]) (rest := [.long (lN (bz o0 (nI i15))), .long x15_5]) S (q_choose9 l D cI cB cZ (cn 2 - o0) ((nI a0) - (nI i15)) (by omega)) kS_RX12_344 hK hP [] rfl ⟨Nat.le_of_ble_eq_true rfl, Nat.le_of_ble_eq_true rfl⟩ ⟨Nat.le_of_ble_eq_true rfl, Nat.le_of_ble_eq_true rfl⟩ rfl hl.1 rfl (Nat.le_of_ble_eq_true rfl) dX12_byLot_39) (fun r_11 h_12 => ?_)
          subst h_12
          refine lv_lmul hx hb dX12_byLot_42 ?_
          refine lv_topl (fun y_13 ey_13 => ?_)
          obtain rfl : y_13 = (lN ((bz o0 (nI i15)) * (bz (cn 2 - o0) ((nI a0) - (nI i15))))) := ey_13.trans (lN_mul _ _)
          refine lv_ladd hx hb dX12_byLot_43 ?_
          refine lv_lstore (lv' := [(5, .long (x15_5 + (lN ((bz o0 (nI i15)) * (bz (cn 2 - o0) ((nI a0) - (nI i15))))))), (7, .int (nI i15)), (0, .ref (g 100)), (1, .int (nI a0)), (2, .int (nI o0)), (3, .int (nI b0)), (4, .int v3)]) hx hb dX12_byLot_44 hl (by decide) rfl (fun ls hl => ?_)
          refine lv_iinc (v := (nI (i15 + 1))) (lv' := [(7, .int (nI (i15 + 1))), (5, .long (x15_5 + (lN ((bz o0 (nI i15)) * (bz (cn 2 - o0) ((nI a0) - (nI i15))))))), (0, .ref (g 100)), (1, .int (nI a0)), (2, .int (nI o0)), (3, .int (nI b0)), (4, .int v3)]) hx hb dX12_byLot_46 hl (k := 1) rfl (nI_1 _) (by decide) rfl (fun ls hl => ?_)
          refine lv_goto (tgt := 15) hx hb dX12_byLot_49 (by decide) ?_
          exact ih15 (i15 + 1) (x15_5 + (lN ((bz o0 (nI i15)) * (bz (cn 2 - o0) ((nI a0) - (nI i15)))))) (by omega) ⟨(by omega), (hs_1 (by omega) hx15_0 rfl)⟩ ls (lv_sub hl [0, 1, 2, 3, 4, 5, 6] rfl)
    exact lp_15 _ b0 0 (Nat.lt_succ_self _) ⟨(by omega), (by rw [Nat.sub_self] <;> rfl)⟩ ls (lv_sub hl [0, 1, 2, 3, 4, 5, 6] rfl)
  ·
    have tc_1 : (v3.toInt : Int) = 2 := congrArg Int32.toInt c_1
    refine lv_iload_n hx hb dX12_byLot_6 rfl (lv_at hl 3 rfl) ?_
    refine lv_i2l (v := (lN b0)) hx hb dX12_byLot_7 (nI_l (by omega)) ?_
    exact W.lret (v := (lN b0)) hx hb hr (fun t ht hW => ⟨(lN b0), rfl, (Or.inl ⟨by assumption, rfl⟩), ht⟩) (fun _ h => absurd h List.not_mem_nil) dX12_byLot_8
set_option maxRecDepth 100000 in
set_option maxHeartbeats 4000000 in
theorem q_lacking9 (l : Launch) (D : va_G) (cI cB cZ : ClassId) (g : Nat → Nat) (cn : Nat → Nat) (In : Nat → Int32) (Fn : Nat → Nat → Int32)  (hI : IM cn Fn) : Met l yX12_lacking (CWS yX12_lacking cX12_lacking 3 (some .int)) (RM 0 0 0) (PBr [.ref (g 100)] D cI cB cZ (wM cI cB cZ g cn In Fn)) (vp_Si (fun r => r = nI (sN (fun i9 => if 0 < ((Fn 14) i9).toInt then 1 else 0) (cn 2)))) 0 0 (fun _ => False) := by
  refine Met.ofW (cc := cX12_lacking) (maxL := 3) (ret := (some .int)) (by decide) rfl ?_
  intro p e s m args below meth c s₁ B hml hv
  obtain ⟨rfl, hP, hK⟩ := hv
  have hx := B.exec
  have hb := B.bytes
  have hr := B.returns
  have hts := atoms_spec (ws := (CWS yX12_lacking cX12_lacking 3 (some .int))) B.pre
  have hown : s.vm.findClass RX12 = some m.cls := findClass_of_methodNamed B.named
  have hlocks := B.notSynchronized
  have S : SF p m c cX12_lacking 3 s ([.ref (g 100)]).toArray RX12 := ⟨hx, hb, hml, hown, fun w h => hts w (List.mem_cons_of_mem _ h)⟩
  have hl := lv_entry ([.ref (g 100)]) (n := 3) (Nat.le_of_ble_eq_true rfl)
  rw [lg_entry_eq]
  generalize (lg_sl ([.ref (g 100)]) ++ List.replicate (3 - (lg_sl ([.ref (g 100)])).length) Slot.unset).toArray = ls at hl ⊢
  have hl : lv_has ls 3 [(0, .ref (g 100))] := hl
  have hi_cn := hI.b
  refine lv_iconst (v := 0) hx hb dX12_lacking_0 (by decide) ?_
  refine lv_istore_n (lv' := [(1, .int 0), (0, .ref (g 100))]) hx hb dX12_lacking_1 rfl hl (by decide) rfl (fun ls hl => ?_)
  refine lv_iconst (v := 0) hx hb dX12_lacking_2 (by decide) ?_
  refine lv_istore_n (lv' := [(2, .int 0), (1, .int 0), (0, .ref (g 100))]) hx hb dX12_lacking_3 rfl hl (by decide) rfl (fun ls hl => ?_)
  have lp_4 : ∀ (n : Nat) (i4 : Nat) (n1 : Nat) , cn 2 - i4 < n → (i4 ≤ cn 2 ∧ (n1 ≤ i4) ∧ (n1 = sN (fun i9 => if 0 < ((Fn 14) i9).toInt then 1 else 0) i4)) → ∀ ls : Array Slot, lv_has ls 3 [(2, .int (nI i4)), (1, .int (nI n1)), (0, .ref (g 100))] → W p l e (RM 0 0 0) s m ([.ref (g 100)]).toArray below meth c s.heap [] 0 0 (MQ below (vp_Si (fun r => r = nI (sN (fun i9 => if 0 < ((Fn 14) i9).toInt then 1 else 0) (cn 2)))) ([.ref (g 100)]).toArray s 0 0 (fun _ => False)) (F0 m 4 ls []) := by
    intro n4
    induction n4 with
    | zero => intros; omega
    | succ n4 ih4 =>
      intro i4 n1 hmu4 hinv4 ls hl
      obtain ⟨hr4, hx4_0, hx4_1⟩ := hinv4
      have ti4 : (nI i4).toInt = (i4 : Int) := nI_toInt (by omega)
      refine lv_iload_n hx hb dX12_lacking_4 rfl (lv_at hl 0 rfl) ?_
      refine lv_aload_n hx hb dX12_lacking_5 rfl (lv_at hl 2 rfl) ?_
      refine gM_208 S hK hP (v := .int (nI (cn 2))) rfl dX12_lacking_6 ?_
      have : (nI (cn 2)).toInt = (((cn 2) : Nat) : Int) := nI_toInt (by omega)
      refine lv_icmp_ge (tgt := 35) hx hb dX12_lacking_9 (by decide) (fun c_1 => ?_) (fun c_1 => ?_)
      ·
        have tc_1 : ((nI (cn 2)).toInt : Int) ≤ (nI i4).toInt := Int32.le_iff_toInt_le.mp c_1
        refine lv_iload_n hx hb dX12_lacking_35 rfl (lv_at hl 1 rfl) ?_
        exact W.iret (v := (nI n1)) hx hb hr (fun t ht hW => ⟨(nI n1), rfl, (by rw [hx4_1, show i4 = cn 2 by omega]), ht⟩) (fun _ h => absurd h List.not_mem_nil) dX12_lacking_36
      ·
        have tc_1 : ((nI i4).toInt : Int) < (nI (cn 2)).toInt := Int32.lt_iff_toInt_lt.mp (Int32.not_le.mp c_1)
        refine lv_iload_n hx hb dX12_lacking_12 rfl (lv_at hl 1 rfl) ?_
        refine lv_aload_n hx hb dX12_lacking_13 rfl (lv_at hl 2 rfl) ?_
        refine gM_43 S hK hP (v := .ref (g 14)) rfl dX12_lacking_14 ?_
        refine lv_iload_n hx hb dX12_lacking_17 rfl (lv_at hl 0 rfl) ?_
        refine ldM_14 hx hb hK hP (x := ((Fn 14) i4)) (vp_in_nI (by omega) (by decide)) (nI_clamp (by omega)) rfl dX12_lacking_18 ?_
        refine lv_if_le (tgt := 26) hx hb dX12_lacking_19 (by decide) (fun c_2 => ?_) (fun c_2 => ?_)
        ·
          have tc_2 : (((Fn 14) i4).toInt : Int) ≤ 0 := Int32.le_iff_toInt_le.mp c_2
          refine lv_iconst (v := 0) hx hb dX12_lacking_26 (by decide) ?_
          refine lv_iadd hx hb dX12_lacking_27 ?_
          refine lv_topi (fun y_3 ey_3 => ?_)
          obtain rfl : y_3 = (nI (n1 + 0)) := ey_3.trans (nI_add n1 0)
          refine lv_istore_n (lv' := [(1, .int (nI (n1 + 0))), (2, .int (nI i4)), (0, .ref (g 100))]) hx hb dX12_lacking_28 rfl hl (by decide) rfl (fun ls hl => ?_)
          refine lv_iinc (v := (nI (i4 + 1))) (lv' := [(2, .int (nI (i4 + 1))), (1, .int (nI (n1 + 0))), (0, .ref (g 100))]) hx hb dX12_lacking_29 hl (k := 1) rfl (nI_1 _) (by decide) rfl (fun ls hl => ?_)
          refine lv_goto (tgt := 4) hx hb dX12_lacking_32 (by decide) ?_
          exact ih4 (i4 + 1) (n1 + 0) (by omega) ⟨(by omega), (by omega), (sN_n hx4_1 (if_neg (fun q9 => by omega)))⟩ ls (lv_sub hl [0, 1, 2] rfl)
        ·
          have tc_2 : (0 : Int) < ((Fn 14) i4).toInt := Int32.lt_iff_toInt_lt.mp (Int32.not_le.mp c_2)
          refine lv_iconst (v := 1) hx hb dX12_lacking_22 (by decide) ?_
          refine lv_goto (tgt := 27) hx hb dX12_lacking_23 (by decide) ?_
          refine lv_iadd hx hb dX12_lacking_27 ?_
          refine lv_topi (fun y_4 ey_4 => ?_)
          obtain rfl : y_4 = (nI (n1 + 1)) := ey_4.trans (nI_add n1 1)
          refine lv_istore_n (lv' := [(1, .int (nI (n1 + 1))), (2, .int (nI i4)), (0, .ref (g 100))]) hx hb dX12_lacking_28 rfl hl (by decide) rfl (fun ls hl => ?_)
          refine lv_iinc (v := (nI (i4 + 1))) (lv' := [(2, .int (nI (i4 + 1))), (1, .int (nI (n1 + 1))), (0, .ref (g 100))]) hx hb dX12_lacking_29 hl (k := 1) rfl (nI_1 _) (by decide) rfl (fun ls hl => ?_)
          refine lv_goto (tgt := 4) hx hb dX12_lacking_32 (by decide) ?_
          exact ih4 (i4 + 1) (n1 + 1) (by omega) ⟨(by omega), (by omega), (sN_y hx4_1 (if_pos (by omega)))⟩ ls (lv_sub hl [0, 1, 2] rfl)
  exact lp_4 _ 0 0 (Nat.lt_succ_self _) ⟨(by omega), (by omega), rfl⟩ ls (lv_sub hl [0, 1, 2] rfl)
set_option maxRecDepth 100000 in
set_option maxHeartbeats 4000000 in
theorem q_Ebeyond (l : Launch) (D : va_G) (cI cB cZ : ClassId) (zz qq vv : Nat) (bt : Nat → Int32) (g : Nat → Nat) (ad : Nat → Nat → Nat) (cn : Nat → Nat) (In : Nat → Int32) (Fn : Nat → Nat → Int32) (v0 v1 : Int32) (hB : CBX cn) : Met l yX11_beyond (CWS yX11_beyond cX11_beyond 9 (some .long)) (RM 4 0 0) (PBrx [.ref (g 0), .int v0, .int v1] D cI cB cZ zz qq vv bt (wX cI (D.1 99) zz g ad cn In Fn)) (vp_Sl (fun r => ((0 ≤ v0.toInt ∧ v0.toInt ≤ 6 ∧ 0 ≤ v1.toInt ∧ v1.toInt ≤ 2) ∧ ODX (sN (fun i9 => if 0 < ((Fn 128) i9).toInt then 1 else 0) (cn 11)) (sN (fun i9 => if (Fn 121) i9 - (Fn 121) i9 / 7 * 7 = v0 then 1 else 0) (cn 11)) (sN (fun i9 => if (Fn 121) i9 - (Fn 121) i9 / 7 * 7 = v0 ∧ 0 < ((Fn 128) i9).toInt then 1 else 0) (cn 11)) (cn 11) v1 r) ∨ (¬ (0 ≤ v0.toInt ∧ v0.toInt ≤ 6 ∧ 0 ≤ v1.toInt ∧ v1.toInt ≤ 2) ∧ r = -1))) 0 0 (fun _ => False) := by
  refine Met.ofW (cc := cX11_beyond) (maxL := 9) (ret := (some .long)) (by decide) rfl ?_
  intro p e s m args below meth c s₁ B hml hv
  obtain ⟨rfl, hP, hK, hXS⟩ := hv
  have hS : va_S (fun _ => False) s.heap s.heap [] := va_S.rf
  have hx := B.exec
  have hb := B.bytes
  have hr := B.returns
  have hts := atoms_spec (ws := (CWS yX11_beyond cX11_beyond 9 (some .long))) B.pre
  have hown : s.vm.findClass RX11 = some m.cls := findClass_of_methodNamed B.named
  have hlocks := B.notSynchronized
  have S : SF p m c cX11_beyond 9 s ([.ref (g 0), .int v0, .int v1]).toArray RX11 := ⟨hx, hb, hml, hown, fun w h => hts w (List.mem_cons_of_mem _ h)⟩
  have hl := lv_entry ([.ref (g 0), .int v0, .int v1]) (n := 9) (Nat.le_of_ble_eq_true rfl)
  rw [lg_entry_eq]
  generalize (lg_sl ([.ref (g 0), .int v0, .int v1]) ++ List.replicate (9 - (lg_sl ([.ref (g 0), .int v0, .int v1])).length) Slot.unset).toArray = ls at hl ⊢
  have hl : lv_has ls 9 [(0, .ref (g 0)), (1, .int v0), (2, .int v1)] := hl
  refine lv_iload_n hx hb dX11_beyond_0 rfl (lv_at hl 1 rfl) ?_
  refine lv_iconst (v := 0) hx hb dX11_beyond_1 (by decide) ?_
  refine lv_bipush (v := 6) hx hb dX11_beyond_2 (by decide) ?_
  refine vp_callSi (runS_r (As := [.int v0, .int 0, .int 6]) (rest := []) S (q_l_within l D cI cB cZ v0 0 6) kS_RX11_80 hK hP [] rfl ⟨Nat.le_of_ble_eq_true rfl, Nat.le_of_ble_eq_true rfl⟩ ⟨Nat.le_of_ble_eq_true rfl, Nat.le_of_ble_eq_true rfl⟩ rfl hl.1 rfl (Nat.le_of_ble_eq_true rfl) dX11_beyond_4) (fun r_1 h_2 => ?_)
  rcases h_2 with ⟨rfl, h_2⟩ | ⟨rfl, h_2⟩
  ·
    have h_2 : 0 ≤ v0.toInt ∧ v0.toInt ≤ 6 := h_2
    refine lv_if_eq (tgt := 19) hx hb dX11_beyond_7 (by decide) (fun h => absurd h (by decide)) (fun _ => ?_)
    refine lv_iload_n hx hb dX11_beyond_10 rfl (lv_at hl 2 rfl) ?_
    refine lv_iconst (v := 0) hx hb dX11_beyond_11 (by decide) ?_
    refine lv_iconst (v := 2) hx hb dX11_beyond_12 (by decide) ?_
    refine vp_callSi (runS_r (As := [.int v1, .int 0, .int 2]) (rest := []) S (q_l_within l D cI cB cZ v1 0 2) kS_RX11_80 hK hP [] rfl ⟨Nat.le_of_ble_eq_true rfl, Nat.le_of_ble_eq_true rfl⟩ ⟨Nat.le_of_ble_eq_true rfl, Nat.le_of_ble_eq_true rfl⟩ rfl hl.1 rfl (Nat.le_of_ble_eq_true rfl) dX11_beyond_13) (fun r_3 h_4 => ?_)
    rcases h_4 with ⟨rfl, h_4⟩ | ⟨rfl, h_4⟩
    ·
      have h_4 : 0 ≤ v1.toInt ∧ v1.toInt ≤ 2 := h_4
      refine lv_if_ne (tgt := 23) hx hb dX11_beyond_16 (by decide) (fun _ => ?_) (fun h => absurd h (by decide))
      refine lv_iconst (v := 0) hx hb dX11_beyond_23 (by decide) ?_
      refine lv_istore_n (lv' := [(3, .int 0), (0, .ref (g 0)), (1, .int v0), (2, .int v1)]) hx hb dX11_beyond_24 rfl hl (by decide) rfl (fun ls hl => ?_)
      refine lv_iconst (v := 0) hx hb dX11_beyond_25 (by decide) ?_
      refine lv_istore (lv' := [(4, .int 0), (3, .int 0), (0, .ref (g 0)), (1, .int v0), (2, .int v1)]) hx hb dX11_beyond_26 hl (by decide) rfl (fun ls hl => ?_)
      refine lv_iconst (v := 0) hx hb dX11_beyond_28 (by decide) ?_
      refine lv_istore (lv' := [(5, .int 0), (4, .int 0), (3, .int 0), (0, .ref (g 0)), (1, .int v0), (2, .int v1)]) hx hb dX11_beyond_29 hl (by decide) rfl (fun ls hl => ?_)
      refine lv_iconst (v := 0) hx hb dX11_beyond_31 (by decide) ?_
      refine lv_istore (lv' := [(6, .int 0), (5, .int 0), (4, .int 0), (3, .int 0), (0, .ref (g 0)), (1, .int v0), (2, .int v1)]) hx hb dX11_beyond_32 hl (by decide) rfl (fun ls hl => ?_)
      have lp_34 : ∀ (n : Nat) (i34 : Nat) (n3 : Nat) (n4 : Nat) (n5 : Nat) , cn 11 - i34 < n → (i34 ≤ cn 11 ∧ (n3 ≤ i34 ∧ n4 ≤ i34 ∧ n5 ≤ n3 ∧ n5 ≤ n4) ∧ (n3 = sN (fun i9 => if 0 < ((Fn 128) i9).toInt then 1 else 0) i34) ∧ (n4 = sN (fun i9 => if (Fn 121) i9 - (Fn 121) i9 / 7 * 7 = v0 then 1 else 0) i34) ∧ (n5 = sN (fun i9 => if (Fn 121) i9 - (Fn 121) i9 / 7 * 7 = v0 ∧ 0 < ((Fn 128) i9).toInt then 1 else 0) i34)) → ∀ ls : Array Slot, lv_has ls 9 [(6, .int (nI i34)), (5, .int (nI n5)), (4, .int (nI n4)), (3, .int (nI n3)), (0, .ref (g 0)), (1, .int v0), (2, .int v1)] → W p l e (RM 4 0 0) s m ([.ref (g 0), .int v0, .int v1]).toArray below meth c s.heap [] 0 0 (MQ below (vp_Sl (fun r => ((0 ≤ v0.toInt ∧ v0.toInt ≤ 6 ∧ 0 ≤ v1.toInt ∧ v1.toInt ≤ 2) ∧ ODX (sN (fun i9 => if 0 < ((Fn 128) i9).toInt then 1 else 0) (cn 11)) (sN (fun i9 => if (Fn 121) i9 - (Fn 121) i9 / 7 * 7 = v0 then 1 else 0) (cn 11)) (sN (fun i9 => if (Fn 121) i9 - (Fn 121) i9 / 7 * 7 = v0 ∧ 0 < ((Fn 128) i9).toInt then 1 else 0) (cn 11)) (cn 11) v1 r) ∨ (¬ (0 ≤ v0.toInt ∧ v0.toInt ≤ 6 ∧ 0 ≤ v1.toInt ∧ v1.toInt ≤ 2) ∧ r = -1))) ([.ref (g 0), .int v0, .int v1]).toArray s 0 0 (fun _ => False)) (F0 m 34 ls []) := by
        intro n34
        induction n34 with
        | zero => intros; omega
        | succ n34 ih34 =>
          intro i34 n3 n4 n5 hmu34 hinv34 ls hl
          obtain ⟨hr34, hx34_0, hx34_1, hx34_2, hx34_3⟩ := hinv34
          have ti34 : (nI i34).toInt = (i34 : Int) := nI_toInt (by omega)
          refine lv_iload hx hb dX11_beyond_34 (lv_at hl 0 rfl) ?_
          refine lv_aload_n hx hb dX11_beyond_36 rfl (lv_at hl 4 rfl) ?_
          refine gf_RX11_65 S hK hP 0 xo_0 (v := .ref (g 11)) rfl dX11_beyond_37 ?_
          refine vp_callSi (runV_r (As := []) (rest := [.int (nI i34)]) S (q_l_size l D cI cB cZ (g 11) (if (cn 11) = 0 then zz else ad 2 1) (In 11) (nI (cn 11))) kV_RX11_84 hK hP [25] (one_is xo_25) 25 xo_25 rfl rfl ⟨Nat.le_of_ble_eq_true rfl, Nat.le_of_ble_eq_true rfl⟩ ⟨Nat.le_of_ble_eq_true rfl, Nat.le_of_ble_eq_true rfl⟩ rfl hl.1 rfl (Nat.le_of_ble_eq_true rfl) dX11_beyond_40) (fun r_5 h_6 => ?_)
          subst h_6
          have : (nI (cn 11)).toInt = (((cn 11) : Nat) : Int) := nI_toInt (by omega)
          refine lv_icmp_ge (tgt := 139) hx hb dX11_beyond_43 (by decide) (fun c_7 => ?_) (fun c_7 => ?_)
          ·
            have tc_7 : ((nI (cn 11)).toInt : Int) ≤ (nI i34).toInt := Int32.le_iff_toInt_le.mp c_7
            refine lv_iload_n hx hb dX11_beyond_139 rfl (lv_at hl 3 rfl) ?_
            refine lv_iload hx hb dX11_beyond_140 (lv_at hl 2 rfl) ?_
            refine lv_iload hx hb dX11_beyond_142 (lv_at hl 1 rfl) ?_
            refine lv_aload_n hx hb dX11_beyond_144 rfl (lv_at hl 4 rfl) ?_
            refine gf_RX11_65 S hK hP 0 xo_0 (v := .ref (g 11)) rfl dX11_beyond_145 ?_
            refine vp_callSi (runV_r (As := []) (rest := [.int (nI n5), .int (nI n4), .int (nI n3)]) S (q_l_size l D cI cB cZ (g 11) (if (cn 11) = 0 then zz else ad 2 1) (In 11) (nI (cn 11))) kV_RX11_84 hK hP [25] (one_is xo_25) 25 xo_25 rfl rfl ⟨Nat.le_of_ble_eq_true rfl, Nat.le_of_ble_eq_true rfl⟩ ⟨Nat.le_of_ble_eq_true rfl, Nat.le_of_ble_eq_true rfl⟩ rfl hl.1 rfl (Nat.le_of_ble_eq_true rfl) dX11_beyond_148) (fun r_8 h_9 => ?_)
            subst h_9
            refine lv_iload_n hx hb dX11_beyond_151 rfl (lv_at hl 6 rfl) ?_
            refine vp_callSl (runS_r (As := [.int (nI n3), .int (nI n4), .int (nI n5), .int (nI (cn 11)), .int v1]) (rest := []) S (q_Eodds l D cI cB cZ n3 n4 n5 (cn 11) v1 (by omega) (by omega) (by omega) ⟨by omega, by omega⟩) kS_RX11_256 hK hP [] rfl ⟨Nat.le_of_ble_eq_true rfl, Nat.le_of_ble_eq_true rfl⟩ ⟨Nat.le_of_ble_eq_true rfl, Nat.le_of_ble_eq_true rfl⟩ rfl hl.1 rfl (Nat.le_of_ble_eq_true rfl) dX11_beyond_152) (fun r_10 h_11 => ?_)
            exact W.lret (v := r_10) hx hb hr (fun t ht hW => ⟨r_10, rfl, (Or.inl ⟨by omega, by have e9 : i34 = cn 11 := (by omega); have h9 := h_11; rw [hx34_1, hx34_2, hx34_3, e9] at h9; exact h9⟩), ht⟩) (fun _ h => absurd h List.not_mem_nil) dX11_beyond_155
          ·
            have tc_7 : ((nI i34).toInt : Int) < (nI (cn 11)).toInt := Int32.lt_iff_toInt_lt.mp (Int32.not_le.mp c_7)
            refine lv_aload_n hx hb dX11_beyond_46 rfl (lv_at hl 4 rfl) ?_
            refine gf_RX11_65 S hK hP 0 xo_0 (v := .ref (g 11)) rfl dX11_beyond_47 ?_
            refine lv_iload hx hb dX11_beyond_50 (lv_at hl 0 rfl) ?_
            refine va_csq (runV_rx (As := [.int (nI i34)]) (rest := []) S (q_l_get l D cI cB cZ zz qq vv bt (g 11) (ad 2 1) (cn 21) (cn 11) i34 (ad 11 i34) (In 11) (fun i => if i < (cn 11) then some (ad 11 i) else none) (by omega) (if_pos (by omega)) (by omega) (by omega)) kV_RX11_87 hK hXS hS hP _ (two_is (xl_1 (by omega)) (xf_14 (k := 0) (by omega))) (va_recv hK.1 hP (ci := 0) rfl xo_25) ⟨Nat.le_of_ble_eq_true rfl, Nat.le_of_ble_eq_true rfl⟩ ⟨Nat.le_of_ble_eq_true rfl, Nat.le_of_ble_eq_true rfl⟩ rfl hl.1 rfl (Nat.le_of_ble_eq_true rfl) dX11_beyond_52) (fun r_12 h_13 => ?_)
            subst h_13
            refine va_castS hx hb hown (S.2.2.2.2 _ (wT_tab 444 rfl rfl)) (xclass hK.1 (ci := 3) rfl) (va_recv hK.1 hP (ci := 3) rfl (xf_1 (by omega))) dX11_beyond_55 ?_
            refine lv_astore (lv' := [(7, .ref (ad 11 i34)), (6, .int (nI i34)), (5, .int (nI n5)), (4, .int (nI n4)), (3, .int (nI n3)), (0, .ref (g 0)), (1, .int v0), (2, .int v1)]) hx hb dX11_beyond_58 hl (by decide) rfl (fun ls hl => ?_)
            refine lv_aload hx hb dX11_beyond_60 (lv_at hl 0 rfl) ?_
            refine gf_RX11_196 S hK hP _ (xf_1 (by omega)) (v := .int ((Fn 121) i34)) rfl dX11_beyond_62 ?_
            refine lv_bipush (v := 7) hx hb dX11_beyond_65 (by decide) ?_
            refine lv_irem hx hb dX11_beyond_67 (by decide) ?_
            refine lv_iload_n hx hb dX11_beyond_68 rfl (lv_at hl 6 rfl) ?_
            refine lv_icmp_ne (tgt := 76) hx hb dX11_beyond_69 (by decide) (fun c_14 => ?_) (fun c_14 => ?_)
            ·
              have tc_14 : ((((Fn 121) i34) - ((Fn 121) i34) / 7 * 7).toInt : Int) ≠ v0.toInt := fun q => c_14 (Int32.toInt_inj.mp q)
              refine lv_iconst (v := 0) hx hb dX11_beyond_76 (by decide) ?_
              refine lv_istore (lv' := [(8, .int 0), (7, .ref (ad 11 i34)), (6, .int (nI i34)), (5, .int (nI n5)), (4, .int (nI n4)), (3, .int (nI n3)), (0, .ref (g 0)), (1, .int v0), (2, .int v1)]) hx hb dX11_beyond_77 hl (by decide) rfl (fun ls hl => ?_)
              refine lv_iload_n hx hb dX11_beyond_79 rfl (lv_at hl 5 rfl) ?_
              refine lv_aload hx hb dX11_beyond_80 (lv_at hl 1 rfl) ?_
              refine gf_RX11_141 S hK hP _ (xf_1 (by omega)) (v := .int ((Fn 128) i34)) rfl dX11_beyond_82 ?_
              refine lv_if_le (tgt := 92) hx hb dX11_beyond_85 (by decide) (fun c_15 => ?_) (fun c_15 => ?_)
              ·
                have tc_15 : (((Fn 128) i34).toInt : Int) ≤ 0 := Int32.le_iff_toInt_le.mp c_15
                refine lv_iconst (v := 0) hx hb dX11_beyond_92 (by decide) ?_
                refine lv_iadd hx hb dX11_beyond_93 ?_
                refine lv_topi (fun y_16 ey_16 => ?_)
                obtain rfl : y_16 = (nI (n3 + 0)) := ey_16.trans (nI_add n3 0)
                refine lv_istore_n (lv' := [(3, .int (nI (n3 + 0))), (8, .int 0), (7, .ref (ad 11 i34)), (6, .int (nI i34)), (5, .int (nI n5)), (4, .int (nI n4)), (0, .ref (g 0)), (1, .int v0), (2, .int v1)]) hx hb dX11_beyond_94 rfl hl (by decide) rfl (fun ls hl => ?_)
                refine lv_iload hx hb dX11_beyond_95 (lv_at hl 5 rfl) ?_
                refine lv_iload hx hb dX11_beyond_97 (lv_at hl 1 rfl) ?_
                refine lv_if_eq (tgt := 106) hx hb dX11_beyond_99 (by decide) (fun _ => ?_) (fun h => absurd h (by decide))
                refine lv_iconst (v := 0) hx hb dX11_beyond_106 (by decide) ?_
                refine lv_iadd hx hb dX11_beyond_107 ?_
                refine lv_topi (fun y_17 ey_17 => ?_)
                obtain rfl : y_17 = (nI (n4 + 0)) := ey_17.trans (nI_add n4 0)
                refine lv_istore (lv' := [(4, .int (nI (n4 + 0))), (3, .int (nI (n3 + 0))), (8, .int 0), (7, .ref (ad 11 i34)), (6, .int (nI i34)), (5, .int (nI n5)), (0, .ref (g 0)), (1, .int v0), (2, .int v1)]) hx hb dX11_beyond_108 hl (by decide) rfl (fun ls hl => ?_)
                refine lv_iload hx hb dX11_beyond_110 (lv_at hl 5 rfl) ?_
                refine lv_iload hx hb dX11_beyond_112 (lv_at hl 2 rfl) ?_
                refine lv_if_eq (tgt := 129) hx hb dX11_beyond_114 (by decide) (fun _ => ?_) (fun h => absurd h (by decide))
                refine lv_iconst (v := 0) hx hb dX11_beyond_129 (by decide) ?_
                refine lv_iadd hx hb dX11_beyond_130 ?_
                refine lv_topi (fun y_18 ey_18 => ?_)
                obtain rfl : y_18 = (nI (n5 + 0)) := ey_18.trans (nI_add n5 0)
                refine lv_istore (lv' := [(5, .int (nI (n5 + 0))), (4, .int (nI (n4 + 0))), (3, .int (nI (n3 + 0))), (8, .int 0), (7, .ref (ad 11 i34)), (6, .int (nI i34)), (0, .ref (g 0)), (1, .int v0), (2, .int v1)]) hx hb dX11_beyond_131 hl (by decide) rfl (fun ls hl => ?_)
                refine lv_iinc (v := (nI (i34 + 1))) (lv' := [(6, .int (nI (i34 + 1))), (5, .int (nI (n5 + 0))), (4, .int (nI (n4 + 0))), (3, .int (nI (n3 + 0))), (8, .int 0), (7, .ref (ad 11 i34)), (0, .ref (g 0)), (1, .int v0), (2, .int v1)]) hx hb dX11_beyond_133 hl (k := 5) rfl (nI_1 _) (by decide) rfl (fun ls hl => ?_)
                refine lv_goto (tgt := 34) hx hb dX11_beyond_136 (by decide) ?_
                exact ih34 (i34 + 1) (n3 + 0) (n4 + 0) (n5 + 0) (by omega) ⟨(by omega), ⟨by omega, by omega, by omega, by omega⟩, (sN_n hx34_1 (if_neg (fun q9 => by omega))), (sN_n hx34_2 (if_neg (fun q9 => by exact absurd q9 (by assumption)))), (sN_n hx34_3 (if_neg (fun q9 => by first | omega | exact absurd q9 (by assumption) | exact absurd q9.1 (by assumption) | (have q8 := q9.2; omega))))⟩ ls (lv_sub hl [0, 1, 2, 3, 6, 7, 8] rfl)
              ·
                have tc_15 : (0 : Int) < ((Fn 128) i34).toInt := Int32.lt_iff_toInt_lt.mp (Int32.not_le.mp c_15)
                refine lv_iconst (v := 1) hx hb dX11_beyond_88 (by decide) ?_
                refine lv_goto (tgt := 93) hx hb dX11_beyond_89 (by decide) ?_
                refine lv_iadd hx hb dX11_beyond_93 ?_
                refine lv_topi (fun y_19 ey_19 => ?_)
                obtain rfl : y_19 = (nI (n3 + 1)) := ey_19.trans (nI_add n3 1)
                refine lv_istore_n (lv' := [(3, .int (nI (n3 + 1))), (8, .int 0), (7, .ref (ad 11 i34)), (6, .int (nI i34)), (5, .int (nI n5)), (4, .int (nI n4)), (0, .ref (g 0)), (1, .int v0), (2, .int v1)]) hx hb dX11_beyond_94 rfl hl (by decide) rfl (fun ls hl => ?_)
                refine lv_iload hx hb dX11_beyond_95 (lv_at hl 5 rfl) ?_
                refine lv_iload hx hb dX11_beyond_97 (lv_at hl 1 rfl) ?_
                refine lv_if_eq (tgt := 106) hx hb dX11_beyond_99 (by decide) (fun _ => ?_) (fun h => absurd h (by decide))
                refine lv_iconst (v := 0) hx hb dX11_beyond_106 (by decide) ?_
                refine lv_iadd hx hb dX11_beyond_107 ?_
                refine lv_topi (fun y_20 ey_20 => ?_)
                obtain rfl : y_20 = (nI (n4 + 0)) := ey_20.trans (nI_add n4 0)
                refine lv_istore (lv' := [(4, .int (nI (n4 + 0))), (3, .int (nI (n3 + 1))), (8, .int 0), (7, .ref (ad 11 i34)), (6, .int (nI i34)), (5, .int (nI n5)), (0, .ref (g 0)), (1, .int v0), (2, .int v1)]) hx hb dX11_beyond_108 hl (by decide) rfl (fun ls hl => ?_)
                refine lv_iload hx hb dX11_beyond_110 (lv_at hl 5 rfl) ?_
                refine lv_iload hx hb dX11_beyond_112 (lv_at hl 2 rfl) ?_
                refine lv_if_eq (tgt := 129) hx hb dX11_beyond_114 (by decide) (fun _ => ?_) (fun h => absurd h (by decide))
                refine lv_iconst (v := 0) hx hb dX11_beyond_129 (by decide) ?_
                refine lv_iadd hx hb dX11_beyond_130 ?_
                refine lv_topi (fun y_21 ey_21 => ?_)
                obtain rfl : y_21 = (nI (n5 + 0)) := ey_21.trans (nI_add n5 0)
                refine lv_istore (lv' := [(5, .int (nI (n5 + 0))), (4, .int (nI (n4 + 0))), (3, .int (nI (n3 + 1))), (8, .int 0), (7, .ref (ad 11 i34)), (6, .int (nI i34)), (0, .ref (g 0)), (1, .int v0), (2, .int v1)]) hx hb dX11_beyond_131 hl (by decide) rfl (fun ls hl => ?_)
                refine lv_iinc (v := (nI (i34 + 1))) (lv' := [(6, .int (nI (i34 + 1))), (5, .int (nI (n5 + 0))), (4, .int (nI (n4 + 0))), (3, .int (nI (n3 + 1))), (8, .int 0), (7, .ref (ad 11 i34)), (0, .ref (g 0)), (1, .int v0), (2, .int v1)]) hx hb dX11_beyond_133 hl (k := 5) rfl (nI_1 _) (by decide) rfl (fun ls hl => ?_)
                refine lv_goto (tgt := 34) hx hb dX11_beyond_136 (by decide) ?_
                exact ih34 (i34 + 1) (n3 + 1) (n4 + 0) (n5 + 0) (by omega) ⟨(by omega), ⟨by omega, by omega, by omega, by omega⟩, (sN_y hx34_1 (if_pos (by omega))), (sN_n hx34_2 (if_neg (fun q9 => by exact absurd q9 (by assumption)))), (sN_n hx34_3 (if_neg (fun q9 => by first | omega | exact absurd q9 (by assumption) | exact absurd q9.1 (by assumption) | (have q8 := q9.2; omega))))⟩ ls (lv_sub hl [0, 1, 2, 3, 6, 7, 8] rfl)
            ·
              have tc_14 : ((((Fn 121) i34) - ((Fn 121) i34) / 7 * 7).toInt : Int) = v0.toInt := congrArg Int32.toInt c_14
              refine lv_iconst (v := 1) hx hb dX11_beyond_72 (by decide) ?_
              refine lv_goto (tgt := 77) hx hb dX11_beyond_73 (by decide) ?_
              refine lv_istore (lv' := [(8, .int 1), (7, .ref (ad 11 i34)), (6, .int (nI i34)), (5, .int (nI n5)), (4, .int (nI n4)), (3, .int (nI n3)), (0, .ref (g 0)), (1, .int v0), (2, .int v1)]) hx hb dX11_beyond_77 hl (by decide) rfl (fun ls hl => ?_)
              refine lv_iload_n hx hb dX11_beyond_79 rfl (lv_at hl 5 rfl) ?_
              refine lv_aload hx hb dX11_beyond_80 (lv_at hl 1 rfl) ?_
              refine gf_RX11_141 S hK hP _ (xf_1 (by omega)) (v := .int ((Fn 128) i34)) rfl dX11_beyond_82 ?_
              refine lv_if_le (tgt := 92) hx hb dX11_beyond_85 (by decide) (fun c_22 => ?_) (fun c_22 => ?_)
              ·
                have tc_22 : (((Fn 128) i34).toInt : Int) ≤ 0 := Int32.le_iff_toInt_le.mp c_22
                refine lv_iconst (v := 0) hx hb dX11_beyond_92 (by decide) ?_
                refine lv_iadd hx hb dX11_beyond_93 ?_
                refine lv_topi (fun y_23 ey_23 => ?_)
                obtain rfl : y_23 = (nI (n3 + 0)) := ey_23.trans (nI_add n3 0)
                refine lv_istore_n (lv' := [(3, .int (nI (n3 + 0))), (8, .int 1), (7, .ref (ad 11 i34)), (6, .int (nI i34)), (5, .int (nI n5)), (4, .int (nI n4)), (0, .ref (g 0)), (1, .int v0), (2, .int v1)]) hx hb dX11_beyond_94 rfl hl (by decide) rfl (fun ls hl => ?_)
                refine lv_iload hx hb dX11_beyond_95 (lv_at hl 5 rfl) ?_
                refine lv_iload hx hb dX11_beyond_97 (lv_at hl 1 rfl) ?_
                refine lv_if_eq (tgt := 106) hx hb dX11_beyond_99 (by decide) (fun h => absurd h (by decide)) (fun _ => ?_)
                refine lv_iconst (v := 1) hx hb dX11_beyond_102 (by decide) ?_
                refine lv_goto (tgt := 107) hx hb dX11_beyond_103 (by decide) ?_
                refine lv_iadd hx hb dX11_beyond_107 ?_
                refine lv_topi (fun y_24 ey_24 => ?_)
                obtain rfl : y_24 = (nI (n4 + 1)) := ey_24.trans (nI_add n4 1)
                refine lv_istore (lv' := [(4, .int (nI (n4 + 1))), (3, .int (nI (n3 + 0))), (8, .int 1), (7, .ref (ad 11 i34)), (6, .int (nI i34)), (5, .int (nI n5)), (0, .ref (g 0)), (1, .int v0), (2, .int v1)]) hx hb dX11_beyond_108 hl (by decide) rfl (fun ls hl => ?_)
                refine lv_iload hx hb dX11_beyond_110 (lv_at hl 5 rfl) ?_
                refine lv_iload hx hb dX11_beyond_112 (lv_at hl 2 rfl) ?_
                refine lv_if_eq (tgt := 129) hx hb dX11_beyond_114 (by decide) (fun h => absurd h (by decide)) (fun _ => ?_)
                refine lv_aload hx hb dX11_beyond_117 (lv_at hl 3 rfl) ?_
                refine gf_RX11_141 S hK hP _ (xf_1 (by omega)) (v := .int ((Fn 128) i34)) rfl dX11_beyond_119 ?_
                refine lv_if_le (tgt := 129) hx hb dX11_beyond_122 (by decide) (fun c_25 => ?_) (fun c_25 => False.elim (by have tc_25 : (0 : Int) < ((Fn 128) i34).toInt := Int32.lt_iff_toInt_lt.mp (Int32.not_le.mp c_25); omega))
                have tc_25 : (((Fn 128) i34).toInt : Int) ≤ 0 := Int32.le_iff_toInt_le.mp c_25
                refine lv_iconst (v := 0) hx hb dX11_beyond_129 (by decide) ?_
                refine lv_iadd hx hb dX11_beyond_130 ?_
                refine lv_topi (fun y_26 ey_26 => ?_)
                obtain rfl : y_26 = (nI (n5 + 0)) := ey_26.trans (nI_add n5 0)
                refine lv_istore (lv' := [(5, .int (nI (n5 + 0))), (4, .int (nI (n4 + 1))), (3, .int (nI (n3 + 0))), (8, .int 1), (7, .ref (ad 11 i34)), (6, .int (nI i34)), (0, .ref (g 0)), (1, .int v0), (2, .int v1)]) hx hb dX11_beyond_131 hl (by decide) rfl (fun ls hl => ?_)
                refine lv_iinc (v := (nI (i34 + 1))) (lv' := [(6, .int (nI (i34 + 1))), (5, .int (nI (n5 + 0))), (4, .int (nI (n4 + 1))), (3, .int (nI (n3 + 0))), (8, .int 1), (7, .ref (ad 11 i34)), (0, .ref (g 0)), (1, .int v0), (2, .int v1)]) hx hb dX11_beyond_133 hl (k := 5) rfl (nI_1 _) (by decide) rfl (fun ls hl => ?_)
                refine lv_goto (tgt := 34) hx hb dX11_beyond_136 (by decide) ?_
                exact ih34 (i34 + 1) (n3 + 0) (n4 + 1) (n5 + 0) (by omega) ⟨(by omega), ⟨by omega, by omega, by omega, by omega⟩, (sN_n hx34_1 (if_neg (fun q9 => by omega))), (sN_y hx34_2 (if_pos (by assumption))), (sN_n hx34_3 (if_neg (fun q9 => by first | omega | exact absurd q9 (by assumption) | exact absurd q9.1 (by assumption) | (have q8 := q9.2; omega))))⟩ ls (lv_sub hl [0, 1, 2, 3, 6, 7, 8] rfl)
              ·
                have tc_22 : (0 : Int) < ((Fn 128) i34).toInt := Int32.lt_iff_toInt_lt.mp (Int32.not_le.mp c_22)
                refine lv_iconst (v := 1) hx hb dX11_beyond_88 (by decide) ?_
                refine lv_goto (tgt := 93) hx hb dX11_beyond_89 (by decide) ?_
                refine lv_iadd hx hb dX11_beyond_93 ?_
                refine lv_topi (fun y_27 ey_27 => ?_)
                obtain rfl : y_27 = (nI (n3 + 1)) := ey_27.trans (nI_add n3 1)
                refine lv_istore_n (lv' := [(3, .int (nI (n3 + 1))), (8, .int 1), (7, .ref (ad 11 i34)), (6, .int (nI i34)), (5, .int (nI n5)), (4, .int (nI n4)), (0, .ref (g 0)), (1, .int v0), (2, .int v1)]) hx hb dX11_beyond_94 rfl hl (by decide) rfl (fun ls hl => ?_)
                refine lv_iload hx hb dX11_beyond_95 (lv_at hl 5 rfl) ?_
                refine lv_iload hx hb dX11_beyond_97 (lv_at hl 1 rfl) ?_
                refine lv_if_eq (tgt := 106) hx hb dX11_beyond_99 (by decide) (fun h => absurd h (by decide)) (fun _ => ?_)
                refine lv_iconst (v := 1) hx hb dX11_beyond_102 (by decide) ?_
                refine lv_goto (tgt := 107) hx hb dX11_beyond_103 (by decide) ?_
                refine lv_iadd hx hb dX11_beyond_107 ?_
                refine lv_topi (fun y_28 ey_28 => ?_)
                obtain rfl : y_28 = (nI (n4 + 1)) := ey_28.trans (nI_add n4 1)
                refine lv_istore (lv' := [(4, .int (nI (n4 + 1))), (3, .int (nI (n3 + 1))), (8, .int 1), (7, .ref (ad 11 i34)), (6, .int (nI i34)), (5, .int (nI n5)), (0, .ref (g 0)), (1, .int v0), (2, .int v1)]) hx hb dX11_beyond_108 hl (by decide) rfl (fun ls hl => ?_)
                refine lv_iload hx hb dX11_beyond_110 (lv_at hl 5 rfl) ?_
                refine lv_iload hx hb dX11_beyond_112 (lv_at hl 2 rfl) ?_
                refine lv_if_eq (tgt := 129) hx hb dX11_beyond_114 (by decide) (fun h => absurd h (by decide)) (fun _ => ?_)
                refine lv_aload hx hb dX11_beyond_117 (lv_at hl 3 rfl) ?_
                refine gf_RX11_141 S hK hP _ (xf_1 (by omega)) (v := .int ((Fn 128) i34)) rfl dX11_beyond_119 ?_
                refine lv_if_le (tgt := 129) hx hb dX11_beyond_122 (by decide) (fun c_29 => False.elim (by have tc_29 : (((Fn 128) i34).toInt : Int) ≤ 0 := Int32.le_iff_toInt_le.mp c_29; omega)) (fun c_29 => ?_)
                have tc_29 : (0 : Int) < ((Fn 128) i34).toInt := Int32.lt_iff_toInt_lt.mp (Int32.not_le.mp c_29)
                refine lv_iconst (v := 1) hx hb dX11_beyond_125 (by decide) ?_
                refine lv_goto (tgt := 130) hx hb dX11_beyond_126 (by decide) ?_
                refine lv_iadd hx hb dX11_beyond_130 ?_
                refine lv_topi (fun y_30 ey_30 => ?_)
                obtain rfl : y_30 = (nI (n5 + 1)) := ey_30.trans (nI_add n5 1)
                refine lv_istore (lv' := [(5, .int (nI (n5 + 1))), (4, .int (nI (n4 + 1))), (3, .int (nI (n3 + 1))), (8, .int 1), (7, .ref (ad 11 i34)), (6, .int (nI i34)), (0, .ref (g 0)), (1, .int v0), (2, .int v1)]) hx hb dX11_beyond_131 hl (by decide) rfl (fun ls hl => ?_)
                refine lv_iinc (v := (nI (i34 + 1))) (lv' := [(6, .int (nI (i34 + 1))), (5, .int (nI (n5 + 1))), (4, .int (nI (n4 + 1))), (3, .int (nI (n3 + 1))), (8, .int 1), (7, .ref (ad 11 i34)), (0, .ref (g 0)), (1, .int v0), (2, .int v1)]) hx hb dX11_beyond_133 hl (k := 5) rfl (nI_1 _) (by decide) rfl (fun ls hl => ?_)
                refine lv_goto (tgt := 34) hx hb dX11_beyond_136 (by decide) ?_
                exact ih34 (i34 + 1) (n3 + 1) (n4 + 1) (n5 + 1) (by omega) ⟨(by omega), ⟨by omega, by omega, by omega, by omega⟩, (sN_y hx34_1 (if_pos (by omega))), (sN_y hx34_2 (if_pos (by assumption))), (sN_y hx34_3 (if_pos ⟨by assumption, by omega⟩))⟩ ls (lv_sub hl [0, 1, 2, 3, 6, 7, 8] rfl)
      exact lp_34 _ 0 0 0 0 (Nat.lt_succ_self _) ⟨(by omega), ⟨by omega, by omega, by omega, by omega⟩, rfl, rfl, rfl⟩ ls (lv_sub hl [0, 1, 2, 3, 4, 5, 6] rfl)
    ·
      have h_4 : ¬ (0 ≤ v1.toInt ∧ v1.toInt ≤ 2) := h_4
      refine lv_if_ne (tgt := 23) hx hb dX11_beyond_16 (by decide) (fun h => absurd h (by decide)) (fun _ => ?_)
      refine lv_ldc2 (v := (-1)) hx hb hown (S.2.2.2.2 _ (wT_tab 781 rfl rfl)) dX11_beyond_19 ?_
      exact W.lret (v := (-1)) hx hb hr (fun t ht hW => ⟨(-1), rfl, (Or.inr ⟨by omega, rfl⟩), ht⟩) (fun _ h => absurd h List.not_mem_nil) dX11_beyond_22
  ·
    have h_2 : ¬ (0 ≤ v0.toInt ∧ v0.toInt ≤ 6) := h_2
    refine lv_if_eq (tgt := 19) hx hb dX11_beyond_7 (by decide) (fun _ => ?_) (fun h => absurd h (by decide))
    refine lv_ldc2 (v := (-1)) hx hb hown (S.2.2.2.2 _ (wT_tab 781 rfl rfl)) dX11_beyond_19 ?_
    exact W.lret (v := (-1)) hx hb hr (fun t ht hW => ⟨(-1), rfl, (Or.inr ⟨by omega, rfl⟩), ht⟩) (fun _ h => absurd h List.not_mem_nil) dX11_beyond_22
set_option maxRecDepth 100000 in
set_option maxHeartbeats 4000000 in
theorem q_beyond9 (l : Launch) (D : va_G) (cI cB cZ : ClassId) (g : Nat → Nat) (cn : Nat → Nat) (In : Nat → Int32) (Fn : Nat → Nat → Int32) (v0 v1 : Int32) (hI : IM cn Fn) : Met l yX12_beyond (CWS yX12_beyond cX12_beyond 6 (some .long)) (RM 2 0 0) (PBr [.ref (g 100), .int v0, .int v1] D cI cB cZ (wM cI cB cZ g cn In Fn)) (vp_Sl (fun r => ((0 ≤ v0.toInt ∧ v0.toInt ≤ 6 ∧ 0 ≤ v1.toInt ∧ v1.toInt ≤ 2) ∧ ODM (sN (fun i9 => if 0 < ((Fn 14) i9).toInt then 1 else 0) (cn 2)) (sN (fun i9 => if (Fn 9) i9 - (Fn 9) i9 / 7 * 7 = v0 then 1 else 0) (cn 2)) (sN (fun i9 => if (Fn 9) i9 - (Fn 9) i9 / 7 * 7 = v0 ∧ 0 < ((Fn 14) i9).toInt then 1 else 0) (cn 2)) (cn 2) v1 r) ∨ (¬ (0 ≤ v0.toInt ∧ v0.toInt ≤ 6 ∧ 0 ≤ v1.toInt ∧ v1.toInt ≤ 2) ∧ r = -1))) 0 0 (fun _ => False) := by
  refine Met.ofW (cc := cX12_beyond) (maxL := 6) (ret := (some .long)) (by decide) rfl ?_
  intro p e s m args below meth c s₁ B hml hv
  obtain ⟨rfl, hP, hK⟩ := hv
  have hx := B.exec
  have hb := B.bytes
  have hr := B.returns
  have hts := atoms_spec (ws := (CWS yX12_beyond cX12_beyond 6 (some .long))) B.pre
  have hown : s.vm.findClass RX12 = some m.cls := findClass_of_methodNamed B.named
  have hlocks := B.notSynchronized
  have S : SF p m c cX12_beyond 6 s ([.ref (g 100), .int v0, .int v1]).toArray RX12 := ⟨hx, hb, hml, hown, fun w h => hts w (List.mem_cons_of_mem _ h)⟩
  have hl := lv_entry ([.ref (g 100), .int v0, .int v1]) (n := 6) (Nat.le_of_ble_eq_true rfl)
  rw [lg_entry_eq]
  generalize (lg_sl ([.ref (g 100), .int v0, .int v1]) ++ List.replicate (6 - (lg_sl ([.ref (g 100), .int v0, .int v1])).length) Slot.unset).toArray = ls at hl ⊢
  have hl : lv_has ls 6 [(0, .ref (g 100)), (1, .int v0), (2, .int v1)] := hl
  have hi_cn := hI.b
  refine lv_iload_n hx hb dX12_beyond_0 rfl (lv_at hl 1 rfl) ?_
  refine lv_iconst (v := 0) hx hb dX12_beyond_1 (by decide) ?_
  refine lv_bipush (v := 6) hx hb dX12_beyond_2 (by decide) ?_
  refine vp_callSi (runS_r (As := [.int v0, .int 0, .int 6]) (rest := []) S (q_in l D cI cB cZ v0 0 6 ) kS_RX12_214 hK hP [] rfl ⟨Nat.le_of_ble_eq_true rfl, Nat.le_of_ble_eq_true rfl⟩ ⟨Nat.le_of_ble_eq_true rfl, Nat.le_of_ble_eq_true rfl⟩ rfl hl.1 rfl (Nat.le_of_ble_eq_true rfl) dX12_beyond_4) (fun r_1 h_2 => ?_)
  rcases h_2 with ⟨rfl, h_2⟩ | ⟨rfl, h_2⟩
  ·
    have h_2 : 0 ≤ v0.toInt ∧ v0.toInt ≤ 6 := h_2
    refine lv_if_eq (tgt := 19) hx hb dX12_beyond_7 (by decide) (fun h => absurd h (by decide)) (fun _ => ?_)
    refine lv_iload_n hx hb dX12_beyond_10 rfl (lv_at hl 2 rfl) ?_
    refine lv_iconst (v := 0) hx hb dX12_beyond_11 (by decide) ?_
    refine lv_iconst (v := 2) hx hb dX12_beyond_12 (by decide) ?_
    refine vp_callSi (runS_r (As := [.int v1, .int 0, .int 2]) (rest := []) S (q_in l D cI cB cZ v1 0 2 ) kS_RX12_214 hK hP [] rfl ⟨Nat.le_of_ble_eq_true rfl, Nat.le_of_ble_eq_true rfl⟩ ⟨Nat.le_of_ble_eq_true rfl, Nat.le_of_ble_eq_true rfl⟩ rfl hl.1 rfl (Nat.le_of_ble_eq_true rfl) dX12_beyond_13) (fun r_3 h_4 => ?_)
    rcases h_4 with ⟨rfl, h_4⟩ | ⟨rfl, h_4⟩
    ·
      have h_4 : 0 ≤ v1.toInt ∧ v1.toInt ≤ 2 := h_4
      refine lv_if_ne (tgt := 23) hx hb dX12_beyond_16 (by decide) (fun _ => ?_) (fun h => absurd h (by decide))
      refine lv_iconst (v := 0) hx hb dX12_beyond_23 (by decide) ?_
      refine lv_istore_n (lv' := [(3, .int 0), (0, .ref (g 100)), (1, .int v0), (2, .int v1)]) hx hb dX12_beyond_24 rfl hl (by decide) rfl (fun ls hl => ?_)
      refine lv_iconst (v := 0) hx hb dX12_beyond_25 (by decide) ?_
      refine lv_istore (lv' := [(4, .int 0), (3, .int 0), (0, .ref (g 100)), (1, .int v0), (2, .int v1)]) hx hb dX12_beyond_26 hl (by decide) rfl (fun ls hl => ?_)
      refine lv_iconst (v := 0) hx hb dX12_beyond_28 (by decide) ?_
      refine lv_istore (lv' := [(5, .int 0), (4, .int 0), (3, .int 0), (0, .ref (g 100)), (1, .int v0), (2, .int v1)]) hx hb dX12_beyond_29 hl (by decide) rfl (fun ls hl => ?_)
      have lp_31 : ∀ (n : Nat) (i31 : Nat) (n3 : Nat) (n4 : Nat) , cn 2 - i31 < n → (i31 ≤ cn 2 ∧ (n3 ≤ i31 ∧ n4 ≤ n3) ∧ (n3 = sN (fun i9 => if (Fn 9) i9 - (Fn 9) i9 / 7 * 7 = v0 then 1 else 0) i31) ∧ (n4 = sN (fun i9 => if (Fn 9) i9 - (Fn 9) i9 / 7 * 7 = v0 ∧ 0 < ((Fn 14) i9).toInt then 1 else 0) i31)) → ∀ ls : Array Slot, lv_has ls 6 [(5, .int (nI i31)), (4, .int (nI n4)), (3, .int (nI n3)), (0, .ref (g 100)), (1, .int v0), (2, .int v1)] → W p l e (RM 2 0 0) s m ([.ref (g 100), .int v0, .int v1]).toArray below meth c s.heap [] 0 0 (MQ below (vp_Sl (fun r => ((0 ≤ v0.toInt ∧ v0.toInt ≤ 6 ∧ 0 ≤ v1.toInt ∧ v1.toInt ≤ 2) ∧ ODM (sN (fun i9 => if 0 < ((Fn 14) i9).toInt then 1 else 0) (cn 2)) (sN (fun i9 => if (Fn 9) i9 - (Fn 9) i9 / 7 * 7 = v0 then 1 else 0) (cn 2)) (sN (fun i9 => if (Fn 9) i9 - (Fn 9) i9 / 7 * 7 = v0 ∧ 0 < ((Fn 14) i9).toInt then 1 else 0) (cn 2)) (cn 2) v1 r) ∨ (¬ (0 ≤ v0.toInt ∧ v0.toInt ≤ 6 ∧ 0 ≤ v1.toInt ∧ v1.toInt ≤ 2) ∧ r = -1))) ([.ref (g 100), .int v0, .int v1]).toArray s 0 0 (fun _ => False)) (F0 m 31 ls []) := by
        intro n31
        induction n31 with
        | zero => intros; omega
        | succ n31 ih31 =>
          intro i31 n3 n4 hmu31 hinv31 ls hl
          obtain ⟨hr31, hx31_0, hx31_1, hx31_2⟩ := hinv31
          have ti31 : (nI i31).toInt = (i31 : Int) := nI_toInt (by omega)
          refine lv_iload hx hb dX12_beyond_31 (lv_at hl 0 rfl) ?_
          refine lv_aload_n hx hb dX12_beyond_33 rfl (lv_at hl 3 rfl) ?_
          refine gM_208 S hK hP (v := .int (nI (cn 2))) rfl dX12_beyond_34 ?_
          have : (nI (cn 2)).toInt = (((cn 2) : Nat) : Int) := nI_toInt (by omega)
          refine lv_icmp_ge (tgt := 87) hx hb dX12_beyond_37 (by decide) (fun c_5 => ?_) (fun c_5 => ?_)
          ·
            have tc_5 : ((nI (cn 2)).toInt : Int) ≤ (nI i31).toInt := Int32.le_iff_toInt_le.mp c_5
            refine lv_aload_n hx hb dX12_beyond_87 rfl (lv_at hl 3 rfl) ?_
            refine lv_aload_n hx hb dX12_beyond_88 rfl (lv_at hl 3 rfl) ?_
            refine vp_callSi (runV_ra (As := []) (rest := [.ref (g 100)]) S (q_lacking9 l D cI cB cZ g cn In Fn  hI) kV_RX12_350 hK hP 0 rfl rfl rfl ⟨Nat.le_of_ble_eq_true rfl, Nat.le_of_ble_eq_true rfl⟩ ⟨Nat.le_of_ble_eq_true rfl, Nat.le_of_ble_eq_true rfl⟩ rfl hl.1 rfl (Nat.le_of_ble_eq_true rfl) dX12_beyond_89) (fun r_6 h_7 => ?_)
            subst h_7
            have hs9 : sN (fun i9 => if 0 < ((Fn 14) i9).toInt then 1 else 0) (cn 2) ≤ cn 2 := sN_b (fun _ => if1) _
            refine lv_iload_n hx hb dX12_beyond_92 rfl (lv_at hl 2 rfl) ?_
            refine lv_iload hx hb dX12_beyond_93 (lv_at hl 1 rfl) ?_
            refine lv_iload_n hx hb dX12_beyond_95 rfl (lv_at hl 5 rfl) ?_
            refine vp_callSl (runV_ra (As := [.int (nI sN (fun i9 => if 0 < ((Fn 14) i9).toInt then 1 else 0) (cn 2)), .int (nI n3), .int (nI n4), .int v1]) (rest := []) S (q_byLot9 l D cI cB cZ g cn In Fn (sN (fun i9 => if 0 < ((Fn 14) i9).toInt then 1 else 0) (cn 2)) n3 n4 v1 hI (by omega) (by omega) (by omega)) kV_RX12_353 hK hP 0 rfl rfl rfl ⟨Nat.le_of_ble_eq_true rfl, Nat.le_of_ble_eq_true rfl⟩ ⟨Nat.le_of_ble_eq_true rfl, Nat.le_of_ble_eq_true rfl⟩ rfl hl.1 rfl (Nat.le_of_ble_eq_true rfl) dX12_beyond_96) (fun r_8 h_9 => ?_)
            exact W.lret (v := r_8) hx hb hr (fun t ht hW => ⟨r_8, rfl, (Or.inl ⟨by omega, by have e9 : i31 = cn 2 := (by omega); have h9 := h_9; rw [hx31_1, hx31_2, e9] at h9; exact h9⟩), ht⟩) (fun _ h => absurd h List.not_mem_nil) dX12_beyond_99
          ·
            have tc_5 : ((nI i31).toInt : Int) < (nI (cn 2)).toInt := Int32.lt_iff_toInt_lt.mp (Int32.not_le.mp c_5)
            refine lv_aload_n hx hb dX12_beyond_40 rfl (lv_at hl 3 rfl) ?_
            refine gM_28 S hK hP (v := .ref (g 9)) rfl dX12_beyond_41 ?_
            refine lv_iload hx hb dX12_beyond_44 (lv_at hl 0 rfl) ?_
            refine ldM_9 hx hb hK hP (x := ((Fn 9) i31)) (vp_in_nI (by omega) (by decide)) (nI_clamp (by omega)) rfl dX12_beyond_46 ?_
            refine lv_bipush (v := 7) hx hb dX12_beyond_47 (by decide) ?_
            refine lv_irem hx hb dX12_beyond_49 (by decide) ?_
            refine lv_iload_n hx hb dX12_beyond_50 rfl (lv_at hl 4 rfl) ?_
            refine lv_icmp_eq (tgt := 57) hx hb dX12_beyond_51 (by decide) (fun c_10 => ?_) (fun c_10 => ?_)
            ·
              have tc_10 : ((((Fn 9) i31) - ((Fn 9) i31) / 7 * 7).toInt : Int) = v0.toInt := congrArg Int32.toInt c_10
              refine lv_iload_n hx hb dX12_beyond_57 rfl (lv_at hl 2 rfl) ?_
              refine lv_iconst (v := 1) hx hb dX12_beyond_58 (by decide) ?_
              refine lv_iadd hx hb dX12_beyond_59 ?_
              refine lv_topi (fun y_11 ey_11 => ?_)
              obtain rfl : y_11 = (nI (n3 + 1)) := ey_11.trans (nI_add n3 1)
              refine lv_istore_n (lv' := [(3, .int (nI (n3 + 1))), (5, .int (nI i31)), (4, .int (nI n4)), (0, .ref (g 100)), (1, .int v0), (2, .int v1)]) hx hb dX12_beyond_60 rfl hl (by decide) rfl (fun ls hl => ?_)
              refine lv_iload hx hb dX12_beyond_61 (lv_at hl 2 rfl) ?_
              refine lv_aload_n hx hb dX12_beyond_63 rfl (lv_at hl 3 rfl) ?_
              refine gM_43 S hK hP (v := .ref (g 14)) rfl dX12_beyond_64 ?_
              refine lv_iload hx hb dX12_beyond_67 (lv_at hl 1 rfl) ?_
              refine ldM_14 hx hb hK hP (x := ((Fn 14) i31)) (vp_in_nI (by omega) (by decide)) (nI_clamp (by omega)) rfl dX12_beyond_69 ?_
              refine lv_if_le (tgt := 77) hx hb dX12_beyond_70 (by decide) (fun c_12 => ?_) (fun c_12 => ?_)
              ·
                have tc_12 : (((Fn 14) i31).toInt : Int) ≤ 0 := Int32.le_iff_toInt_le.mp c_12
                refine lv_iconst (v := 0) hx hb dX12_beyond_77 (by decide) ?_
                refine lv_iadd hx hb dX12_beyond_78 ?_
                refine lv_topi (fun y_13 ey_13 => ?_)
                obtain rfl : y_13 = (nI (n4 + 0)) := ey_13.trans (nI_add n4 0)
                refine lv_istore (lv' := [(4, .int (nI (n4 + 0))), (3, .int (nI (n3 + 1))), (5, .int (nI i31)), (0, .ref (g 100)), (1, .int v0), (2, .int v1)]) hx hb dX12_beyond_79 hl (by decide) rfl (fun ls hl => ?_)
                refine lv_iinc (v := (nI (i31 + 1))) (lv' := [(5, .int (nI (i31 + 1))), (4, .int (nI (n4 + 0))), (3, .int (nI (n3 + 1))), (0, .ref (g 100)), (1, .int v0), (2, .int v1)]) hx hb dX12_beyond_81 hl (k := 2) rfl (nI_1 _) (by decide) rfl (fun ls hl => ?_)
                refine lv_goto (tgt := 31) hx hb dX12_beyond_84 (by decide) ?_
                exact ih31 (i31 + 1) (n3 + 1) (n4 + 0) (by omega) ⟨(by omega), ⟨by omega, by omega⟩, (sN_y hx31_1 (if_pos (by assumption))), (sN_n hx31_2 (if_neg (fun q9 => by first | omega | exact absurd q9 (by assumption) | exact absurd q9.1 (by assumption) | (have q8 := q9.2; omega))))⟩ ls (lv_sub hl [0, 1, 2, 3, 4, 5] rfl)
              ·
                have tc_12 : (0 : Int) < ((Fn 14) i31).toInt := Int32.lt_iff_toInt_lt.mp (Int32.not_le.mp c_12)
                refine lv_iconst (v := 1) hx hb dX12_beyond_73 (by decide) ?_
                refine lv_goto (tgt := 78) hx hb dX12_beyond_74 (by decide) ?_
                refine lv_iadd hx hb dX12_beyond_78 ?_
                refine lv_topi (fun y_14 ey_14 => ?_)
                obtain rfl : y_14 = (nI (n4 + 1)) := ey_14.trans (nI_add n4 1)
                refine lv_istore (lv' := [(4, .int (nI (n4 + 1))), (3, .int (nI (n3 + 1))), (5, .int (nI i31)), (0, .ref (g 100)), (1, .int v0), (2, .int v1)]) hx hb dX12_beyond_79 hl (by decide) rfl (fun ls hl => ?_)
                refine lv_iinc (v := (nI (i31 + 1))) (lv' := [(5, .int (nI (i31 + 1))), (4, .int (nI (n4 + 1))), (3, .int (nI (n3 + 1))), (0, .ref (g 100)), (1, .int v0), (2, .int v1)]) hx hb dX12_beyond_81 hl (k := 2) rfl (nI_1 _) (by decide) rfl (fun ls hl => ?_)
                refine lv_goto (tgt := 31) hx hb dX12_beyond_84 (by decide) ?_
                exact ih31 (i31 + 1) (n3 + 1) (n4 + 1) (by omega) ⟨(by omega), ⟨by omega, by omega⟩, (sN_y hx31_1 (if_pos (by assumption))), (sN_y hx31_2 (if_pos ⟨by assumption, by omega⟩))⟩ ls (lv_sub hl [0, 1, 2, 3, 4, 5] rfl)
            ·
              have tc_10 : ((((Fn 9) i31) - ((Fn 9) i31) / 7 * 7).toInt : Int) ≠ v0.toInt := fun q => c_10 (Int32.toInt_inj.mp q)
              refine lv_goto (tgt := 81) hx hb dX12_beyond_54 (by decide) ?_
              refine lv_iinc (v := (nI (i31 + 1))) (lv' := [(5, .int (nI (i31 + 1))), (4, .int (nI n4)), (3, .int (nI n3)), (0, .ref (g 100)), (1, .int v0), (2, .int v1)]) hx hb dX12_beyond_81 hl (k := 0) rfl (nI_1 _) (by decide) rfl (fun ls hl => ?_)
              refine lv_goto (tgt := 31) hx hb dX12_beyond_84 (by decide) ?_
              exact ih31 (i31 + 1) n3 n4 (by omega) ⟨(by omega), ⟨by omega, by omega⟩, (sN_n hx31_1 (if_neg (fun q9 => by exact absurd q9 (by assumption)))), (sN_n hx31_2 (if_neg (fun q9 => by first | omega | exact absurd q9 (by assumption) | exact absurd q9.1 (by assumption) | (have q8 := q9.2; omega))))⟩ ls (lv_sub hl [0, 1, 2, 3, 4, 5] rfl)
      exact lp_31 _ 0 0 0 (Nat.lt_succ_self _) ⟨(by omega), ⟨by omega, by omega⟩, rfl, rfl⟩ ls (lv_sub hl [0, 1, 2, 3, 4, 5] rfl)
    ·
      have h_4 : ¬ (0 ≤ v1.toInt ∧ v1.toInt ≤ 2) := h_4
      refine lv_if_ne (tgt := 23) hx hb dX12_beyond_16 (by decide) (fun h => absurd h (by decide)) (fun _ => ?_)
      refine lv_ldc2 (v := (-1)) hx hb hown (S.2.2.2.2 _ (wT_tab 1757 rfl rfl)) dX12_beyond_19 ?_
      exact W.lret (v := (-1)) hx hb hr (fun t ht hW => ⟨(-1), rfl, (Or.inr ⟨by omega, rfl⟩), ht⟩) (fun _ h => absurd h List.not_mem_nil) dX12_beyond_22
  ·
    have h_2 : ¬ (0 ≤ v0.toInt ∧ v0.toInt ≤ 6) := h_2
    refine lv_if_eq (tgt := 19) hx hb dX12_beyond_7 (by decide) (fun _ => ?_) (fun h => absurd h (by decide))
    refine lv_ldc2 (v := (-1)) hx hb hown (S.2.2.2.2 _ (wT_tab 1757 rfl rfl)) dX12_beyond_19 ?_
    exact W.lret (v := (-1)) hx hb hr (fun t ht hW => ⟨(-1), rfl, (Or.inr ⟨by omega, rfl⟩), ht⟩) (fun _ h => absurd h List.not_mem_nil) dX12_beyond_22
set_option maxRecDepth 100000 in
set_option maxHeartbeats 4000000 in
theorem q_Estreets (l : Launch) (D : va_G) (cI cB cZ : ClassId) (zz qq vv : Nat) (bt : Nat → Int32) (g : Nat → Nat) (ad : Nat → Nat → Nat) (cn : Nat → Nat) (In : Nat → Int32) (Fn : Nat → Nat → Int32) (v0 v1 : Int32) (hB : CBX cn) : Met l yX11_streets (CWS yX11_streets cX11_streets 10 (some .long)) (RM 4 0 0) (PBrx [.ref (g 0), .int v0, .int v1] D cI cB cZ zz qq vv bt (wX cI (D.1 99) zz g ad cn In Fn)) (vp_Sl (fun r => ((0 ≤ v0.toInt ∧ v0.toInt ≤ 9 ∧ 0 ≤ v1.toInt ∧ v1.toInt ≤ 2) ∧ ODX (sN (fun i9 => if 0 < ((Fn 128) i9).toInt then 1 else 0) (cn 11)) (sN (fun i9 => if 0 ≤ ((Fn 120) i9).toInt ∧ ((Fn 120) i9).toInt < (cn 10 : Int) ∧ (Fn 109) ((Fn 120) i9).toInt.toNat = v0 then 1 else 0) (cn 11)) (sN (fun i9 => if (0 ≤ ((Fn 120) i9).toInt ∧ ((Fn 120) i9).toInt < (cn 10 : Int) ∧ (Fn 109) ((Fn 120) i9).toInt.toNat = v0) ∧ 0 < ((Fn 128) i9).toInt then 1 else 0) (cn 11)) (cn 11) v1 r) ∨ (¬ (0 ≤ v0.toInt ∧ v0.toInt ≤ 9 ∧ 0 ≤ v1.toInt ∧ v1.toInt ≤ 2) ∧ r = -1))) 0 0 (fun _ => False) := by
  refine Met.ofW (cc := cX11_streets) (maxL := 10) (ret := (some .long)) (by decide) rfl ?_
  intro p e s m args below meth c s₁ B hml hv
  obtain ⟨rfl, hP, hK, hXS⟩ := hv
  have hS : va_S (fun _ => False) s.heap s.heap [] := va_S.rf
  have hx := B.exec
  have hb := B.bytes
  have hr := B.returns
  have hts := atoms_spec (ws := (CWS yX11_streets cX11_streets 10 (some .long))) B.pre
  have hown : s.vm.findClass RX11 = some m.cls := findClass_of_methodNamed B.named
  have hlocks := B.notSynchronized
  have S : SF p m c cX11_streets 10 s ([.ref (g 0), .int v0, .int v1]).toArray RX11 := ⟨hx, hb, hml, hown, fun w h => hts w (List.mem_cons_of_mem _ h)⟩
  have hl := lv_entry ([.ref (g 0), .int v0, .int v1]) (n := 10) (Nat.le_of_ble_eq_true rfl)
  rw [lg_entry_eq]
  generalize (lg_sl ([.ref (g 0), .int v0, .int v1]) ++ List.replicate (10 - (lg_sl ([.ref (g 0), .int v0, .int v1])).length) Slot.unset).toArray = ls at hl ⊢
  have hl : lv_has ls 10 [(0, .ref (g 0)), (1, .int v0), (2, .int v1)] := hl
  refine lv_iload_n hx hb dX11_streets_0 rfl (lv_at hl 1 rfl) ?_
  refine lv_iconst (v := 0) hx hb dX11_streets_1 (by decide) ?_
  refine lv_bipush (v := 9) hx hb dX11_streets_2 (by decide) ?_
  refine vp_callSi (runS_r (As := [.int v0, .int 0, .int 9]) (rest := []) S (q_l_within l D cI cB cZ v0 0 9) kS_RX11_80 hK hP [] rfl ⟨Nat.le_of_ble_eq_true rfl, Nat.le_of_ble_eq_true rfl⟩ ⟨Nat.le_of_ble_eq_true rfl, Nat.le_of_ble_eq_true rfl⟩ rfl hl.1 rfl (Nat.le_of_ble_eq_true rfl) dX11_streets_4) (fun r_1 h_2 => ?_)
  rcases h_2 with ⟨rfl, h_2⟩ | ⟨rfl, h_2⟩
  ·
    have h_2 : 0 ≤ v0.toInt ∧ v0.toInt ≤ 9 := h_2
    refine lv_if_eq (tgt := 19) hx hb dX11_streets_7 (by decide) (fun h => absurd h (by decide)) (fun _ => ?_)
    refine lv_iload_n hx hb dX11_streets_10 rfl (lv_at hl 2 rfl) ?_
    refine lv_iconst (v := 0) hx hb dX11_streets_11 (by decide) ?_
    refine lv_iconst (v := 2) hx hb dX11_streets_12 (by decide) ?_
    refine vp_callSi (runS_r (As := [.int v1, .int 0, .int 2]) (rest := []) S (q_l_within l D cI cB cZ v1 0 2) kS_RX11_80 hK hP [] rfl ⟨Nat.le_of_ble_eq_true rfl, Nat.le_of_ble_eq_true rfl⟩ ⟨Nat.le_of_ble_eq_true rfl, Nat.le_of_ble_eq_true rfl⟩ rfl hl.1 rfl (Nat.le_of_ble_eq_true rfl) dX11_streets_13) (fun r_3 h_4 => ?_)
    rcases h_4 with ⟨rfl, h_4⟩ | ⟨rfl, h_4⟩
    ·
      have h_4 : 0 ≤ v1.toInt ∧ v1.toInt ≤ 2 := h_4
      refine lv_if_ne (tgt := 23) hx hb dX11_streets_16 (by decide) (fun _ => ?_) (fun h => absurd h (by decide))
      refine lv_iconst (v := 0) hx hb dX11_streets_23 (by decide) ?_
      refine lv_istore_n (lv' := [(3, .int 0), (0, .ref (g 0)), (1, .int v0), (2, .int v1)]) hx hb dX11_streets_24 rfl hl (by decide) rfl (fun ls hl => ?_)
      refine lv_iconst (v := 0) hx hb dX11_streets_25 (by decide) ?_
      refine lv_istore (lv' := [(4, .int 0), (3, .int 0), (0, .ref (g 0)), (1, .int v0), (2, .int v1)]) hx hb dX11_streets_26 hl (by decide) rfl (fun ls hl => ?_)
      refine lv_iconst (v := 0) hx hb dX11_streets_28 (by decide) ?_
      refine lv_istore (lv' := [(5, .int 0), (4, .int 0), (3, .int 0), (0, .ref (g 0)), (1, .int v0), (2, .int v1)]) hx hb dX11_streets_29 hl (by decide) rfl (fun ls hl => ?_)
      refine lv_iconst (v := 0) hx hb dX11_streets_31 (by decide) ?_
      refine lv_istore (lv' := [(6, .int 0), (5, .int 0), (4, .int 0), (3, .int 0), (0, .ref (g 0)), (1, .int v0), (2, .int v1)]) hx hb dX11_streets_32 hl (by decide) rfl (fun ls hl => ?_)
      have lp_34 : ∀ (n : Nat) (i34 : Nat) (n3 : Nat) (n4 : Nat) (n5 : Nat) , cn 11 - i34 < n → (i34 ≤ cn 11 ∧ (n3 ≤ i34 ∧ n4 ≤ i34 ∧ n5 ≤ n3 ∧ n5 ≤ n4) ∧ (n3 = sN (fun i9 => if 0 < ((Fn 128) i9).toInt then 1 else 0) i34) ∧ (n4 = sN (fun i9 => if 0 ≤ ((Fn 120) i9).toInt ∧ ((Fn 120) i9).toInt < (cn 10 : Int) ∧ (Fn 109) ((Fn 120) i9).toInt.toNat = v0 then 1 else 0) i34) ∧ (n5 = sN (fun i9 => if (0 ≤ ((Fn 120) i9).toInt ∧ ((Fn 120) i9).toInt < (cn 10 : Int) ∧ (Fn 109) ((Fn 120) i9).toInt.toNat = v0) ∧ 0 < ((Fn 128) i9).toInt then 1 else 0) i34)) → ∀ ls : Array Slot, lv_has ls 10 [(6, .int (nI i34)), (5, .int (nI n5)), (4, .int (nI n4)), (3, .int (nI n3)), (0, .ref (g 0)), (1, .int v0), (2, .int v1)] → W p l e (RM 4 0 0) s m ([.ref (g 0), .int v0, .int v1]).toArray below meth c s.heap [] 0 0 (MQ below (vp_Sl (fun r => ((0 ≤ v0.toInt ∧ v0.toInt ≤ 9 ∧ 0 ≤ v1.toInt ∧ v1.toInt ≤ 2) ∧ ODX (sN (fun i9 => if 0 < ((Fn 128) i9).toInt then 1 else 0) (cn 11)) (sN (fun i9 => if 0 ≤ ((Fn 120) i9).toInt ∧ ((Fn 120) i9).toInt < (cn 10 : Int) ∧ (Fn 109) ((Fn 120) i9).toInt.toNat = v0 then 1 else 0) (cn 11)) (sN (fun i9 => if (0 ≤ ((Fn 120) i9).toInt ∧ ((Fn 120) i9).toInt < (cn 10 : Int) ∧ (Fn 109) ((Fn 120) i9).toInt.toNat = v0) ∧ 0 < ((Fn 128) i9).toInt then 1 else 0) (cn 11)) (cn 11) v1 r) ∨ (¬ (0 ≤ v0.toInt ∧ v0.toInt ≤ 9 ∧ 0 ≤ v1.toInt ∧ v1.toInt ≤ 2) ∧ r = -1))) ([.ref (g 0), .int v0, .int v1]).toArray s 0 0 (fun _ => False)) (F0 m 34 ls []) := by
        intro n34
        induction n34 with
        | zero => intros; omega
        | succ n34 ih34 =>
          intro i34 n3 n4 n5 hmu34 hinv34 ls hl
          obtain ⟨hr34, hx34_0, hx34_1, hx34_2, hx34_3⟩ := hinv34
          have ti34 : (nI i34).toInt = (i34 : Int) := nI_toInt (by omega)
          refine lv_iload hx hb dX11_streets_34 (lv_at hl 0 rfl) ?_
          refine lv_aload_n hx hb dX11_streets_36 rfl (lv_at hl 4 rfl) ?_
          refine gf_RX11_65 S hK hP 0 xo_0 (v := .ref (g 11)) rfl dX11_streets_37 ?_
          refine vp_callSi (runV_r (As := []) (rest := [.int (nI i34)]) S (q_l_size l D cI cB cZ (g 11) (if (cn 11) = 0 then zz else ad 2 1) (In 11) (nI (cn 11))) kV_RX11_84 hK hP [25] (one_is xo_25) 25 xo_25 rfl rfl ⟨Nat.le_of_ble_eq_true rfl, Nat.le_of_ble_eq_true rfl⟩ ⟨Nat.le_of_ble_eq_true rfl, Nat.le_of_ble_eq_true rfl⟩ rfl hl.1 rfl (Nat.le_of_ble_eq_true rfl) dX11_streets_40) (fun r_5 h_6 => ?_)
          subst h_6
          have : (nI (cn 11)).toInt = (((cn 11) : Nat) : Int) := nI_toInt (by omega)
          refine lv_icmp_ge (tgt := 152) hx hb dX11_streets_43 (by decide) (fun c_7 => ?_) (fun c_7 => ?_)
          ·
            have tc_7 : ((nI (cn 11)).toInt : Int) ≤ (nI i34).toInt := Int32.le_iff_toInt_le.mp c_7
            refine lv_iload_n hx hb dX11_streets_152 rfl (lv_at hl 3 rfl) ?_
            refine lv_iload hx hb dX11_streets_153 (lv_at hl 2 rfl) ?_
            refine lv_iload hx hb dX11_streets_155 (lv_at hl 1 rfl) ?_
            refine lv_aload_n hx hb dX11_streets_157 rfl (lv_at hl 4 rfl) ?_
            refine gf_RX11_65 S hK hP 0 xo_0 (v := .ref (g 11)) rfl dX11_streets_158 ?_
            refine vp_callSi (runV_r (As := []) (rest := [.int (nI n5), .int (nI n4), .int (nI n3)]) S (q_l_size l D cI cB cZ (g 11) (if (cn 11) = 0 then zz else ad 2 1) (In 11) (nI (cn 11))) kV_RX11_84 hK hP [25] (one_is xo_25) 25 xo_25 rfl rfl ⟨Nat.le_of_ble_eq_true rfl, Nat.le_of_ble_eq_true rfl⟩ ⟨Nat.le_of_ble_eq_true rfl, Nat.le_of_ble_eq_true rfl⟩ rfl hl.1 rfl (Nat.le_of_ble_eq_true rfl) dX11_streets_161) (fun r_8 h_9 => ?_)
            subst h_9
            refine lv_iload_n hx hb dX11_streets_164 rfl (lv_at hl 6 rfl) ?_
            refine vp_callSl (runS_r (As := [.int (nI n3), .int (nI n4), .int (nI n5), .int (nI (cn 11)), .int v1]) (rest := []) S (q_Eodds l D cI cB cZ n3 n4 n5 (cn 11) v1 (by omega) (by omega) (by omega) ⟨by omega, by omega⟩) kS_RX11_256 hK hP [] rfl ⟨Nat.le_of_ble_eq_true rfl, Nat.le_of_ble_eq_true rfl⟩ ⟨Nat.le_of_ble_eq_true rfl, Nat.le_of_ble_eq_true rfl⟩ rfl hl.1 rfl (Nat.le_of_ble_eq_true rfl) dX11_streets_165) (fun r_10 h_11 => ?_)
            exact W.lret (v := r_10) hx hb hr (fun t ht hW => ⟨r_10, rfl, (Or.inl ⟨by omega, by have e9 : i34 = cn 11 := (by omega); have h9 := h_11; rw [hx34_1, hx34_2, hx34_3, e9] at h9; exact h9⟩), ht⟩) (fun _ h => absurd h List.not_mem_nil) dX11_streets_168
          ·
            have tc_7 : ((nI i34).toInt : Int) < (nI (cn 11)).toInt := Int32.lt_iff_toInt_lt.mp (Int32.not_le.mp c_7)
            refine lv_aload_n hx hb dX11_streets_46 rfl (lv_at hl 4 rfl) ?_
            refine gf_RX11_65 S hK hP 0 xo_0 (v := .ref (g 11)) rfl dX11_streets_47 ?_
            refine lv_iload hx hb dX11_streets_50 (lv_at hl 0 rfl) ?_
            refine va_csq (runV_rx (As := [.int (nI i34)]) (rest := []) S (q_l_get l D cI cB cZ zz qq vv bt (g 11) (ad 2 1) (cn 21) (cn 11) i34 (ad 11 i34) (In 11) (fun i => if i < (cn 11) then some (ad 11 i) else none) (by omega) (if_pos (by omega)) (by omega) (by omega)) kV_RX11_87 hK hXS hS hP _ (two_is (xl_1 (by omega)) (xf_14 (k := 0) (by omega))) (va_recv hK.1 hP (ci := 0) rfl xo_25) ⟨Nat.le_of_ble_eq_true rfl, Nat.le_of_ble_eq_true rfl⟩ ⟨Nat.le_of_ble_eq_true rfl, Nat.le_of_ble_eq_true rfl⟩ rfl hl.1 rfl (Nat.le_of_ble_eq_true rfl) dX11_streets_52) (fun r_12 h_13 => ?_)
            subst h_13
            refine va_castS hx hb hown (S.2.2.2.2 _ (wT_tab 444 rfl rfl)) (xclass hK.1 (ci := 3) rfl) (va_recv hK.1 hP (ci := 3) rfl (xf_1 (by omega))) dX11_streets_55 ?_
            refine lv_astore (lv' := [(7, .ref (ad 11 i34)), (6, .int (nI i34)), (5, .int (nI n5)), (4, .int (nI n4)), (3, .int (nI n3)), (0, .ref (g 0)), (1, .int v0), (2, .int v1)]) hx hb dX11_streets_58 hl (by decide) rfl (fun ls hl => ?_)
            refine lv_aload_n hx hb dX11_streets_60 rfl (lv_at hl 5 rfl) ?_
            refine lv_aload hx hb dX11_streets_61 (lv_at hl 0 rfl) ?_
            refine gf_RX11_211 S hK hP _ (xf_1 (by omega)) (v := .int ((Fn 120) i34)) rfl dX11_streets_63 ?_
            refine va_csq (runV_rxa (As := [.int ((Fn 120) i34)]) (rest := []) S (q_XkitchenAt l D cI cB cZ zz qq vv bt g ad cn In Fn ((Fn 120) i34) hB) kV_RX11_114 hK hXS hS hP 0 xo_0 rfl rfl ⟨Nat.le_of_ble_eq_true rfl, Nat.le_of_ble_eq_true rfl⟩ ⟨Nat.le_of_ble_eq_true rfl, Nat.le_of_ble_eq_true rfl⟩ rfl hl.1 rfl (Nat.le_of_ble_eq_true rfl) dX11_streets_66) (fun r_14 h_15 => ?_)
            rcases h_15 with ⟨mr_14, er_14, hr_14, rfl⟩ | ⟨hr_14, rfl⟩
            ·
              refine lv_astore (lv' := [(8, .ref (ad 10 mr_14)), (7, .ref (ad 11 i34)), (6, .int (nI i34)), (5, .int (nI n5)), (4, .int (nI n4)), (3, .int (nI n3)), (0, .ref (g 0)), (1, .int v0), (2, .int v1)]) hx hb dX11_streets_69 hl (by decide) rfl (fun ls hl => ?_)
              refine lv_aload hx hb dX11_streets_71 (lv_at hl 0 rfl) ?_
              refine lv_ifnull hx hb dX11_streets_73 ?_
              refine lv_aload hx hb dX11_streets_76 (lv_at hl 0 rfl) ?_
              refine gf_RX11_260 S hK hP _ (xf_0 (by omega)) (v := .int ((Fn 109) mr_14)) rfl dX11_streets_78 ?_
              refine lv_iload_n hx hb dX11_streets_81 rfl (lv_at hl 7 rfl) ?_
              refine lv_icmp_ne (tgt := 89) hx hb dX11_streets_82 (by decide) (fun c_16 => ?_) (fun c_16 => ?_)
              ·
                have tc_16 : (((Fn 109) mr_14).toInt : Int) ≠ v0.toInt := fun q => c_16 (Int32.toInt_inj.mp q)
                refine lv_iconst (v := 0) hx hb dX11_streets_89 (by decide) ?_
                refine lv_istore (lv' := [(9, .int 0), (8, .ref (ad 10 mr_14)), (7, .ref (ad 11 i34)), (6, .int (nI i34)), (5, .int (nI n5)), (4, .int (nI n4)), (3, .int (nI n3)), (0, .ref (g 0)), (1, .int v0), (2, .int v1)]) hx hb dX11_streets_90 hl (by decide) rfl (fun ls hl => ?_)
                refine lv_iload_n hx hb dX11_streets_92 rfl (lv_at hl 6 rfl) ?_
                refine lv_aload hx hb dX11_streets_93 (lv_at hl 2 rfl) ?_
                refine gf_RX11_141 S hK hP _ (xf_1 (by omega)) (v := .int ((Fn 128) i34)) rfl dX11_streets_95 ?_
                refine lv_if_le (tgt := 105) hx hb dX11_streets_98 (by decide) (fun c_17 => ?_) (fun c_17 => ?_)
                ·
                  have tc_17 : (((Fn 128) i34).toInt : Int) ≤ 0 := Int32.le_iff_toInt_le.mp c_17
                  refine lv_iconst (v := 0) hx hb dX11_streets_105 (by decide) ?_
                  refine lv_iadd hx hb dX11_streets_106 ?_
                  refine lv_topi (fun y_18 ey_18 => ?_)
                  obtain rfl : y_18 = (nI (n3 + 0)) := ey_18.trans (nI_add n3 0)
                  refine lv_istore_n (lv' := [(3, .int (nI (n3 + 0))), (9, .int 0), (8, .ref (ad 10 mr_14)), (7, .ref (ad 11 i34)), (6, .int (nI i34)), (5, .int (nI n5)), (4, .int (nI n4)), (0, .ref (g 0)), (1, .int v0), (2, .int v1)]) hx hb dX11_streets_107 rfl hl (by decide) rfl (fun ls hl => ?_)
                  refine lv_iload hx hb dX11_streets_108 (lv_at hl 6 rfl) ?_
                  refine lv_iload hx hb dX11_streets_110 (lv_at hl 1 rfl) ?_
                  refine lv_if_eq (tgt := 119) hx hb dX11_streets_112 (by decide) (fun _ => ?_) (fun h => absurd h (by decide))
                  refine lv_iconst (v := 0) hx hb dX11_streets_119 (by decide) ?_
                  refine lv_iadd hx hb dX11_streets_120 ?_
                  refine lv_topi (fun y_19 ey_19 => ?_)
                  obtain rfl : y_19 = (nI (n4 + 0)) := ey_19.trans (nI_add n4 0)
                  refine lv_istore (lv' := [(4, .int (nI (n4 + 0))), (3, .int (nI (n3 + 0))), (9, .int 0), (8, .ref (ad 10 mr_14)), (7, .ref (ad 11 i34)), (6, .int (nI i34)), (5, .int (nI n5)), (0, .ref (g 0)), (1, .int v0), (2, .int v1)]) hx hb dX11_streets_121 hl (by decide) rfl (fun ls hl => ?_)
                  refine lv_iload hx hb dX11_streets_123 (lv_at hl 6 rfl) ?_
                  refine lv_iload hx hb dX11_streets_125 (lv_at hl 2 rfl) ?_
                  refine lv_if_eq (tgt := 142) hx hb dX11_streets_127 (by decide) (fun _ => ?_) (fun h => absurd h (by decide))
                  refine lv_iconst (v := 0) hx hb dX11_streets_142 (by decide) ?_
                  refine lv_iadd hx hb dX11_streets_143 ?_
                  refine lv_topi (fun y_20 ey_20 => ?_)
                  obtain rfl : y_20 = (nI (n5 + 0)) := ey_20.trans (nI_add n5 0)
                  refine lv_istore (lv' := [(5, .int (nI (n5 + 0))), (4, .int (nI (n4 + 0))), (3, .int (nI (n3 + 0))), (9, .int 0), (8, .ref (ad 10 mr_14)), (7, .ref (ad 11 i34)), (6, .int (nI i34)), (0, .ref (g 0)), (1, .int v0), (2, .int v1)]) hx hb dX11_streets_144 hl (by decide) rfl (fun ls hl => ?_)
                  refine lv_iinc (v := (nI (i34 + 1))) (lv' := [(6, .int (nI (i34 + 1))), (5, .int (nI (n5 + 0))), (4, .int (nI (n4 + 0))), (3, .int (nI (n3 + 0))), (9, .int 0), (8, .ref (ad 10 mr_14)), (7, .ref (ad 11 i34)), (0, .ref (g 0)), (1, .int v0), (2, .int v1)]) hx hb dX11_streets_146 hl (k := 6) rfl (nI_1 _) (by decide) rfl (fun ls hl => ?_)
                  refine lv_goto (tgt := 34) hx hb dX11_streets_149 (by decide) ?_
                  exact ih34 (i34 + 1) (n3 + 0) (n4 + 0) (n5 + 0) (by omega) ⟨(by omega), ⟨by omega, by omega, by omega, by omega⟩, (sN_n hx34_1 (if_neg (fun q9 => by omega))), (sN_n hx34_2 (if_neg (fun q9 => by have q8 := q9.2.2; rw [show ((Fn 120) i34).toInt.toNat = mr_14 by omega] at q8; exact absurd q8 (by assumption)))), (sN_n hx34_3 (if_neg (fun q9 => by have q7 := q9.2; first | omega | (have q8 := q9.1.2.2; rw [show ((Fn 120) i34).toInt.toNat = mr_14 by omega] at q8; exact absurd q8 (by assumption)))))⟩ ls (lv_sub hl [0, 1, 2, 3, 7, 8, 9] rfl)
                ·
                  have tc_17 : (0 : Int) < ((Fn 128) i34).toInt := Int32.lt_iff_toInt_lt.mp (Int32.not_le.mp c_17)
                  refine lv_iconst (v := 1) hx hb dX11_streets_101 (by decide) ?_
                  refine lv_goto (tgt := 106) hx hb dX11_streets_102 (by decide) ?_
                  refine lv_iadd hx hb dX11_streets_106 ?_
                  refine lv_topi (fun y_21 ey_21 => ?_)
                  obtain rfl : y_21 = (nI (n3 + 1)) := ey_21.trans (nI_add n3 1)
                  refine lv_istore_n (lv' := [(3, .int (nI (n3 + 1))), (9, .int 0), (8, .ref (ad 10 mr_14)), (7, .ref (ad 11 i34)), (6, .int (nI i34)), (5, .int (nI n5)), (4, .int (nI n4)), (0, .ref (g 0)), (1, .int v0), (2, .int v1)]) hx hb dX11_streets_107 rfl hl (by decide) rfl (fun ls hl => ?_)
                  refine lv_iload hx hb dX11_streets_108 (lv_at hl 6 rfl) ?_
                  refine lv_iload hx hb dX11_streets_110 (lv_at hl 1 rfl) ?_
                  refine lv_if_eq (tgt := 119) hx hb dX11_streets_112 (by decide) (fun _ => ?_) (fun h => absurd h (by decide))
                  refine lv_iconst (v := 0) hx hb dX11_streets_119 (by decide) ?_
                  refine lv_iadd hx hb dX11_streets_120 ?_
                  refine lv_topi (fun y_22 ey_22 => ?_)
                  obtain rfl : y_22 = (nI (n4 + 0)) := ey_22.trans (nI_add n4 0)
                  refine lv_istore (lv' := [(4, .int (nI (n4 + 0))), (3, .int (nI (n3 + 1))), (9, .int 0), (8, .ref (ad 10 mr_14)), (7, .ref (ad 11 i34)), (6, .int (nI i34)), (5, .int (nI n5)), (0, .ref (g 0)), (1, .int v0), (2, .int v1)]) hx hb dX11_streets_121 hl (by decide) rfl (fun ls hl => ?_)
                  refine lv_iload hx hb dX11_streets_123 (lv_at hl 6 rfl) ?_
                  refine lv_iload hx hb dX11_streets_125 (lv_at hl 2 rfl) ?_
                  refine lv_if_eq (tgt := 142) hx hb dX11_streets_127 (by decide) (fun _ => ?_) (fun h => absurd h (by decide))
                  refine lv_iconst (v := 0) hx hb dX11_streets_142 (by decide) ?_
                  refine lv_iadd hx hb dX11_streets_143 ?_
                  refine lv_topi (fun y_23 ey_23 => ?_)
                  obtain rfl : y_23 = (nI (n5 + 0)) := ey_23.trans (nI_add n5 0)
                  refine lv_istore (lv' := [(5, .int (nI (n5 + 0))), (4, .int (nI (n4 + 0))), (3, .int (nI (n3 + 1))), (9, .int 0), (8, .ref (ad 10 mr_14)), (7, .ref (ad 11 i34)), (6, .int (nI i34)), (0, .ref (g 0)), (1, .int v0), (2, .int v1)]) hx hb dX11_streets_144 hl (by decide) rfl (fun ls hl => ?_)
                  refine lv_iinc (v := (nI (i34 + 1))) (lv' := [(6, .int (nI (i34 + 1))), (5, .int (nI (n5 + 0))), (4, .int (nI (n4 + 0))), (3, .int (nI (n3 + 1))), (9, .int 0), (8, .ref (ad 10 mr_14)), (7, .ref (ad 11 i34)), (0, .ref (g 0)), (1, .int v0), (2, .int v1)]) hx hb dX11_streets_146 hl (k := 6) rfl (nI_1 _) (by decide) rfl (fun ls hl => ?_)
                  refine lv_goto (tgt := 34) hx hb dX11_streets_149 (by decide) ?_
                  exact ih34 (i34 + 1) (n3 + 1) (n4 + 0) (n5 + 0) (by omega) ⟨(by omega), ⟨by omega, by omega, by omega, by omega⟩, (sN_y hx34_1 (if_pos (by omega))), (sN_n hx34_2 (if_neg (fun q9 => by have q8 := q9.2.2; rw [show ((Fn 120) i34).toInt.toNat = mr_14 by omega] at q8; exact absurd q8 (by assumption)))), (sN_n hx34_3 (if_neg (fun q9 => by have q7 := q9.2; first | omega | (have q8 := q9.1.2.2; rw [show ((Fn 120) i34).toInt.toNat = mr_14 by omega] at q8; exact absurd q8 (by assumption)))))⟩ ls (lv_sub hl [0, 1, 2, 3, 7, 8, 9] rfl)
              ·
                have tc_16 : (((Fn 109) mr_14).toInt : Int) = v0.toInt := congrArg Int32.toInt c_16
                refine lv_iconst (v := 1) hx hb dX11_streets_85 (by decide) ?_
                refine lv_goto (tgt := 90) hx hb dX11_streets_86 (by decide) ?_
                refine lv_istore (lv' := [(9, .int 1), (8, .ref (ad 10 mr_14)), (7, .ref (ad 11 i34)), (6, .int (nI i34)), (5, .int (nI n5)), (4, .int (nI n4)), (3, .int (nI n3)), (0, .ref (g 0)), (1, .int v0), (2, .int v1)]) hx hb dX11_streets_90 hl (by decide) rfl (fun ls hl => ?_)
                refine lv_iload_n hx hb dX11_streets_92 rfl (lv_at hl 6 rfl) ?_
                refine lv_aload hx hb dX11_streets_93 (lv_at hl 2 rfl) ?_
                refine gf_RX11_141 S hK hP _ (xf_1 (by omega)) (v := .int ((Fn 128) i34)) rfl dX11_streets_95 ?_
                refine lv_if_le (tgt := 105) hx hb dX11_streets_98 (by decide) (fun c_24 => ?_) (fun c_24 => ?_)
                ·
                  have tc_24 : (((Fn 128) i34).toInt : Int) ≤ 0 := Int32.le_iff_toInt_le.mp c_24
                  refine lv_iconst (v := 0) hx hb dX11_streets_105 (by decide) ?_
                  refine lv_iadd hx hb dX11_streets_106 ?_
                  refine lv_topi (fun y_25 ey_25 => ?_)
                  obtain rfl : y_25 = (nI (n3 + 0)) := ey_25.trans (nI_add n3 0)
                  refine lv_istore_n (lv' := [(3, .int (nI (n3 + 0))), (9, .int 1), (8, .ref (ad 10 mr_14)), (7, .ref (ad 11 i34)), (6, .int (nI i34)), (5, .int (nI n5)), (4, .int (nI n4)), (0, .ref (g 0)), (1, .int v0), (2, .int v1)]) hx hb dX11_streets_107 rfl hl (by decide) rfl (fun ls hl => ?_)
                  refine lv_iload hx hb dX11_streets_108 (lv_at hl 6 rfl) ?_
                  refine lv_iload hx hb dX11_streets_110 (lv_at hl 1 rfl) ?_
                  refine lv_if_eq (tgt := 119) hx hb dX11_streets_112 (by decide) (fun h => absurd h (by decide)) (fun _ => ?_)
                  refine lv_iconst (v := 1) hx hb dX11_streets_115 (by decide) ?_
                  refine lv_goto (tgt := 120) hx hb dX11_streets_116 (by decide) ?_
                  refine lv_iadd hx hb dX11_streets_120 ?_
                  refine lv_topi (fun y_26 ey_26 => ?_)
                  obtain rfl : y_26 = (nI (n4 + 1)) := ey_26.trans (nI_add n4 1)
                  refine lv_istore (lv' := [(4, .int (nI (n4 + 1))), (3, .int (nI (n3 + 0))), (9, .int 1), (8, .ref (ad 10 mr_14)), (7, .ref (ad 11 i34)), (6, .int (nI i34)), (5, .int (nI n5)), (0, .ref (g 0)), (1, .int v0), (2, .int v1)]) hx hb dX11_streets_121 hl (by decide) rfl (fun ls hl => ?_)
                  refine lv_iload hx hb dX11_streets_123 (lv_at hl 6 rfl) ?_
                  refine lv_iload hx hb dX11_streets_125 (lv_at hl 2 rfl) ?_
                  refine lv_if_eq (tgt := 142) hx hb dX11_streets_127 (by decide) (fun h => absurd h (by decide)) (fun _ => ?_)
                  refine lv_aload hx hb dX11_streets_130 (lv_at hl 4 rfl) ?_
                  refine gf_RX11_141 S hK hP _ (xf_1 (by omega)) (v := .int ((Fn 128) i34)) rfl dX11_streets_132 ?_
                  refine lv_if_le (tgt := 142) hx hb dX11_streets_135 (by decide) (fun c_27 => ?_) (fun c_27 => False.elim (by have tc_27 : (0 : Int) < ((Fn 128) i34).toInt := Int32.lt_iff_toInt_lt.mp (Int32.not_le.mp c_27); omega))
                  have tc_27 : (((Fn 128) i34).toInt : Int) ≤ 0 := Int32.le_iff_toInt_le.mp c_27
                  refine lv_iconst (v := 0) hx hb dX11_streets_142 (by decide) ?_
                  refine lv_iadd hx hb dX11_streets_143 ?_
                  refine lv_topi (fun y_28 ey_28 => ?_)
                  obtain rfl : y_28 = (nI (n5 + 0)) := ey_28.trans (nI_add n5 0)
                  refine lv_istore (lv' := [(5, .int (nI (n5 + 0))), (4, .int (nI (n4 + 1))), (3, .int (nI (n3 + 0))), (9, .int 1), (8, .ref (ad 10 mr_14)), (7, .ref (ad 11 i34)), (6, .int (nI i34)), (0, .ref (g 0)), (1, .int v0), (2, .int v1)]) hx hb dX11_streets_144 hl (by decide) rfl (fun ls hl => ?_)
                  refine lv_iinc (v := (nI (i34 + 1))) (lv' := [(6, .int (nI (i34 + 1))), (5, .int (nI (n5 + 0))), (4, .int (nI (n4 + 1))), (3, .int (nI (n3 + 0))), (9, .int 1), (8, .ref (ad 10 mr_14)), (7, .ref (ad 11 i34)), (0, .ref (g 0)), (1, .int v0), (2, .int v1)]) hx hb dX11_streets_146 hl (k := 6) rfl (nI_1 _) (by decide) rfl (fun ls hl => ?_)
                  refine lv_goto (tgt := 34) hx hb dX11_streets_149 (by decide) ?_
                  exact ih34 (i34 + 1) (n3 + 0) (n4 + 1) (n5 + 0) (by omega) ⟨(by omega), ⟨by omega, by omega, by omega, by omega⟩, (sN_n hx34_1 (if_neg (fun q9 => by omega))), (sN_y hx34_2 (if_pos ⟨by omega, by omega, by rw [show ((Fn 120) i34).toInt.toNat = mr_14 by omega]; assumption⟩)), (sN_n hx34_3 (if_neg (fun q9 => by have q7 := q9.2; first | omega | (have q8 := q9.1.2.2; rw [show ((Fn 120) i34).toInt.toNat = mr_14 by omega] at q8; exact absurd q8 (by assumption)))))⟩ ls (lv_sub hl [0, 1, 2, 3, 7, 8, 9] rfl)
                ·
                  have tc_24 : (0 : Int) < ((Fn 128) i34).toInt := Int32.lt_iff_toInt_lt.mp (Int32.not_le.mp c_24)
                  refine lv_iconst (v := 1) hx hb dX11_streets_101 (by decide) ?_
                  refine lv_goto (tgt := 106) hx hb dX11_streets_102 (by decide) ?_
                  refine lv_iadd hx hb dX11_streets_106 ?_
                  refine lv_topi (fun y_29 ey_29 => ?_)
                  obtain rfl : y_29 = (nI (n3 + 1)) := ey_29.trans (nI_add n3 1)
                  refine lv_istore_n (lv' := [(3, .int (nI (n3 + 1))), (9, .int 1), (8, .ref (ad 10 mr_14)), (7, .ref (ad 11 i34)), (6, .int (nI i34)), (5, .int (nI n5)), (4, .int (nI n4)), (0, .ref (g 0)), (1, .int v0), (2, .int v1)]) hx hb dX11_streets_107 rfl hl (by decide) rfl (fun ls hl => ?_)
                  refine lv_iload hx hb dX11_streets_108 (lv_at hl 6 rfl) ?_
                  refine lv_iload hx hb dX11_streets_110 (lv_at hl 1 rfl) ?_
                  refine lv_if_eq (tgt := 119) hx hb dX11_streets_112 (by decide) (fun h => absurd h (by decide)) (fun _ => ?_)
                  refine lv_iconst (v := 1) hx hb dX11_streets_115 (by decide) ?_
                  refine lv_goto (tgt := 120) hx hb dX11_streets_116 (by decide) ?_
                  refine lv_iadd hx hb dX11_streets_120 ?_
                  refine lv_topi (fun y_30 ey_30 => ?_)
                  obtain rfl : y_30 = (nI (n4 + 1)) := ey_30.trans (nI_add n4 1)
                  refine lv_istore (lv' := [(4, .int (nI (n4 + 1))), (3, .int (nI (n3 + 1))), (9, .int 1), (8, .ref (ad 10 mr_14)), (7, .ref (ad 11 i34)), (6, .int (nI i34)), (5, .int (nI n5)), (0, .ref (g 0)), (1, .int v0), (2, .int v1)]) hx hb dX11_streets_121 hl (by decide) rfl (fun ls hl => ?_)
                  refine lv_iload hx hb dX11_streets_123 (lv_at hl 6 rfl) ?_
                  refine lv_iload hx hb dX11_streets_125 (lv_at hl 2 rfl) ?_
                  refine lv_if_eq (tgt := 142) hx hb dX11_streets_127 (by decide) (fun h => absurd h (by decide)) (fun _ => ?_)
                  refine lv_aload hx hb dX11_streets_130 (lv_at hl 4 rfl) ?_
                  refine gf_RX11_141 S hK hP _ (xf_1 (by omega)) (v := .int ((Fn 128) i34)) rfl dX11_streets_132 ?_
                  refine lv_if_le (tgt := 142) hx hb dX11_streets_135 (by decide) (fun c_31 => False.elim (by have tc_31 : (((Fn 128) i34).toInt : Int) ≤ 0 := Int32.le_iff_toInt_le.mp c_31; omega)) (fun c_31 => ?_)
                  have tc_31 : (0 : Int) < ((Fn 128) i34).toInt := Int32.lt_iff_toInt_lt.mp (Int32.not_le.mp c_31)
                  refine lv_iconst (v := 1) hx hb dX11_streets_138 (by decide) ?_
                  refine lv_goto (tgt := 143) hx hb dX11_streets_139 (by decide) ?_
                  refine lv_iadd hx hb dX11_streets_143 ?_
                  refine lv_topi (fun y_32 ey_32 => ?_)
                  obtain rfl : y_32 = (nI (n5 + 1)) := ey_32.trans (nI_add n5 1)
                  refine lv_istore (lv' := [(5, .int (nI (n5 + 1))), (4, .int (nI (n4 + 1))), (3, .int (nI (n3 + 1))), (9, .int 1), (8, .ref (ad 10 mr_14)), (7, .ref (ad 11 i34)), (6, .int (nI i34)), (0, .ref (g 0)), (1, .int v0), (2, .int v1)]) hx hb dX11_streets_144 hl (by decide) rfl (fun ls hl => ?_)
                  refine lv_iinc (v := (nI (i34 + 1))) (lv' := [(6, .int (nI (i34 + 1))), (5, .int (nI (n5 + 1))), (4, .int (nI (n4 + 1))), (3, .int (nI (n3 + 1))), (9, .int 1), (8, .ref (ad 10 mr_14)), (7, .ref (ad 11 i34)), (0, .ref (g 0)), (1, .int v0), (2, .int v1)]) hx hb dX11_streets_146 hl (k := 6) rfl (nI_1 _) (by decide) rfl (fun ls hl => ?_)
                  refine lv_goto (tgt := 34) hx hb dX11_streets_149 (by decide) ?_
                  exact ih34 (i34 + 1) (n3 + 1) (n4 + 1) (n5 + 1) (by omega) ⟨(by omega), ⟨by omega, by omega, by omega, by omega⟩, (sN_y hx34_1 (if_pos (by omega))), (sN_y hx34_2 (if_pos ⟨by omega, by omega, by rw [show ((Fn 120) i34).toInt.toNat = mr_14 by omega]; assumption⟩)), (sN_y hx34_3 (if_pos ⟨⟨by omega, by omega, by rw [show ((Fn 120) i34).toInt.toNat = mr_14 by omega]; assumption⟩, by omega⟩))⟩ ls (lv_sub hl [0, 1, 2, 3, 7, 8, 9] rfl)
            ·
              refine lv_astoreN (lv' := [(8, .null), (7, .ref (ad 11 i34)), (6, .int (nI i34)), (5, .int (nI n5)), (4, .int (nI n4)), (3, .int (nI n3)), (0, .ref (g 0)), (1, .int v0), (2, .int v1)]) hx hb dX11_streets_69 hl (by decide) rfl (fun ls hl => ?_)
              refine lv_aloadN hx hb dX11_streets_71 (lv_at hl 0 rfl) ?_
              refine lv_ifnullN (tgt := 89) hx hb dX11_streets_73 (by decide) ?_
              refine lv_iconst (v := 0) hx hb dX11_streets_89 (by decide) ?_
              refine lv_istore (lv' := [(9, .int 0), (8, .null), (7, .ref (ad 11 i34)), (6, .int (nI i34)), (5, .int (nI n5)), (4, .int (nI n4)), (3, .int (nI n3)), (0, .ref (g 0)), (1, .int v0), (2, .int v1)]) hx hb dX11_streets_90 hl (by decide) rfl (fun ls hl => ?_)
              refine lv_iload_n hx hb dX11_streets_92 rfl (lv_at hl 6 rfl) ?_
              refine lv_aload hx hb dX11_streets_93 (lv_at hl 2 rfl) ?_
              refine gf_RX11_141 S hK hP _ (xf_1 (by omega)) (v := .int ((Fn 128) i34)) rfl dX11_streets_95 ?_
              refine lv_if_le (tgt := 105) hx hb dX11_streets_98 (by decide) (fun c_33 => ?_) (fun c_33 => ?_)
              ·
                have tc_33 : (((Fn 128) i34).toInt : Int) ≤ 0 := Int32.le_iff_toInt_le.mp c_33
                refine lv_iconst (v := 0) hx hb dX11_streets_105 (by decide) ?_
                refine lv_iadd hx hb dX11_streets_106 ?_
                refine lv_topi (fun y_34 ey_34 => ?_)
                obtain rfl : y_34 = (nI (n3 + 0)) := ey_34.trans (nI_add n3 0)
                refine lv_istore_n (lv' := [(3, .int (nI (n3 + 0))), (9, .int 0), (8, .null), (7, .ref (ad 11 i34)), (6, .int (nI i34)), (5, .int (nI n5)), (4, .int (nI n4)), (0, .ref (g 0)), (1, .int v0), (2, .int v1)]) hx hb dX11_streets_107 rfl hl (by decide) rfl (fun ls hl => ?_)
                refine lv_iload hx hb dX11_streets_108 (lv_at hl 6 rfl) ?_
                refine lv_iload hx hb dX11_streets_110 (lv_at hl 1 rfl) ?_
                refine lv_if_eq (tgt := 119) hx hb dX11_streets_112 (by decide) (fun _ => ?_) (fun h => absurd h (by decide))
                refine lv_iconst (v := 0) hx hb dX11_streets_119 (by decide) ?_
                refine lv_iadd hx hb dX11_streets_120 ?_
                refine lv_topi (fun y_35 ey_35 => ?_)
                obtain rfl : y_35 = (nI (n4 + 0)) := ey_35.trans (nI_add n4 0)
                refine lv_istore (lv' := [(4, .int (nI (n4 + 0))), (3, .int (nI (n3 + 0))), (9, .int 0), (8, .null), (7, .ref (ad 11 i34)), (6, .int (nI i34)), (5, .int (nI n5)), (0, .ref (g 0)), (1, .int v0), (2, .int v1)]) hx hb dX11_streets_121 hl (by decide) rfl (fun ls hl => ?_)
                refine lv_iload hx hb dX11_streets_123 (lv_at hl 6 rfl) ?_
                refine lv_iload hx hb dX11_streets_125 (lv_at hl 2 rfl) ?_
                refine lv_if_eq (tgt := 142) hx hb dX11_streets_127 (by decide) (fun _ => ?_) (fun h => absurd h (by decide))
                refine lv_iconst (v := 0) hx hb dX11_streets_142 (by decide) ?_
                refine lv_iadd hx hb dX11_streets_143 ?_
                refine lv_topi (fun y_36 ey_36 => ?_)
                obtain rfl : y_36 = (nI (n5 + 0)) := ey_36.trans (nI_add n5 0)
                refine lv_istore (lv' := [(5, .int (nI (n5 + 0))), (4, .int (nI (n4 + 0))), (3, .int (nI (n3 + 0))), (9, .int 0), (8, .null), (7, .ref (ad 11 i34)), (6, .int (nI i34)), (0, .ref (g 0)), (1, .int v0), (2, .int v1)]) hx hb dX11_streets_144 hl (by decide) rfl (fun ls hl => ?_)
                refine lv_iinc (v := (nI (i34 + 1))) (lv' := [(6, .int (nI (i34 + 1))), (5, .int (nI (n5 + 0))), (4, .int (nI (n4 + 0))), (3, .int (nI (n3 + 0))), (9, .int 0), (8, .null), (7, .ref (ad 11 i34)), (0, .ref (g 0)), (1, .int v0), (2, .int v1)]) hx hb dX11_streets_146 hl (k := 6) rfl (nI_1 _) (by decide) rfl (fun ls hl => ?_)
                refine lv_goto (tgt := 34) hx hb dX11_streets_149 (by decide) ?_
                exact ih34 (i34 + 1) (n3 + 0) (n4 + 0) (n5 + 0) (by omega) ⟨(by omega), ⟨by omega, by omega, by omega, by omega⟩, (sN_n hx34_1 (if_neg (fun q9 => by omega))), (sN_n hx34_2 (if_neg (fun q9 => by omega))), (sN_n hx34_3 (if_neg (fun q9 => by have q7 := q9.2; have q6 := q9.1; omega)))⟩ ls (lv_sub hl [0, 1, 2, 3, 7, 8, 9] rfl)
              ·
                have tc_33 : (0 : Int) < ((Fn 128) i34).toInt := Int32.lt_iff_toInt_lt.mp (Int32.not_le.mp c_33)
                refine lv_iconst (v := 1) hx hb dX11_streets_101 (by decide) ?_
                refine lv_goto (tgt := 106) hx hb dX11_streets_102 (by decide) ?_
                refine lv_iadd hx hb dX11_streets_106 ?_
                refine lv_topi (fun y_37 ey_37 => ?_)
                obtain rfl : y_37 = (nI (n3 + 1)) := ey_37.trans (nI_add n3 1)
                refine lv_istore_n (lv' := [(3, .int (nI (n3 + 1))), (9, .int 0), (8, .null), (7, .ref (ad 11 i34)), (6, .int (nI i34)), (5, .int (nI n5)), (4, .int (nI n4)), (0, .ref (g 0)), (1, .int v0), (2, .int v1)]) hx hb dX11_streets_107 rfl hl (by decide) rfl (fun ls hl => ?_)
                refine lv_iload hx hb dX11_streets_108 (lv_at hl 6 rfl) ?_
                refine lv_iload hx hb dX11_streets_110 (lv_at hl 1 rfl) ?_
                refine lv_if_eq (tgt := 119) hx hb dX11_streets_112 (by decide) (fun _ => ?_) (fun h => absurd h (by decide))
                refine lv_iconst (v := 0) hx hb dX11_streets_119 (by decide) ?_
                refine lv_iadd hx hb dX11_streets_120 ?_
                refine lv_topi (fun y_38 ey_38 => ?_)
                obtain rfl : y_38 = (nI (n4 + 0)) := ey_38.trans (nI_add n4 0)
                refine lv_istore (lv' := [(4, .int (nI (n4 + 0))), (3, .int (nI (n3 + 1))), (9, .int 0), (8, .null), (7, .ref (ad 11 i34)), (6, .int (nI i34)), (5, .int (nI n5)), (0, .ref (g 0)), (1, .int v0), (2, .int v1)]) hx hb dX11_streets_121 hl (by decide) rfl (fun ls hl => ?_)
                refine lv_iload hx hb dX11_streets_123 (lv_at hl 6 rfl) ?_
                refine lv_iload hx hb dX11_streets_125 (lv_at hl 2 rfl) ?_
                refine lv_if_eq (tgt := 142) hx hb dX11_streets_127 (by decide) (fun _ => ?_) (fun h => absurd h (by decide))
                refine lv_iconst (v := 0) hx hb dX11_streets_142 (by decide) ?_
                refine lv_iadd hx hb dX11_streets_143 ?_
                refine lv_topi (fun y_39 ey_39 => ?_)
                obtain rfl : y_39 = (nI (n5 + 0)) := ey_39.trans (nI_add n5 0)
                refine lv_istore (lv' := [(5, .int (nI (n5 + 0))), (4, .int (nI (n4 + 0))), (3, .int (nI (n3 + 1))), (9, .int 0), (8, .null), (7, .ref (ad 11 i34)), (6, .int (nI i34)), (0, .ref (g 0)), (1, .int v0), (2, .int v1)]) hx hb dX11_streets_144 hl (by decide) rfl (fun ls hl => ?_)
                refine lv_iinc (v := (nI (i34 + 1))) (lv' := [(6, .int (nI (i34 + 1))), (5, .int (nI (n5 + 0))), (4, .int (nI (n4 + 0))), (3, .int (nI (n3 + 1))), (9, .int 0), (8, .null), (7, .ref (ad 11 i34)), (0, .ref (g 0)), (1, .int v0), (2, .int v1)]) hx hb dX11_streets_146 hl (k := 6) rfl (nI_1 _) (by decide) rfl (fun ls hl => ?_)
                refine lv_goto (tgt := 34) hx hb dX11_streets_149 (by decide) ?_
                exact ih34 (i34 + 1) (n3 + 1) (n4 + 0) (n5 + 0) (by omega) ⟨(by omega), ⟨by omega, by omega, by omega, by omega⟩, (sN_y hx34_1 (if_pos (by omega))), (sN_n hx34_2 (if_neg (fun q9 => by omega))), (sN_n hx34_3 (if_neg (fun q9 => by have q7 := q9.2; have q6 := q9.1; omega)))⟩ ls (lv_sub hl [0, 1, 2, 3, 7, 8, 9] rfl)
      exact lp_34 _ 0 0 0 0 (Nat.lt_succ_self _) ⟨(by omega), ⟨by omega, by omega, by omega, by omega⟩, rfl, rfl, rfl⟩ ls (lv_sub hl [0, 1, 2, 3, 4, 5, 6] rfl)
    ·
      have h_4 : ¬ (0 ≤ v1.toInt ∧ v1.toInt ≤ 2) := h_4
      refine lv_if_ne (tgt := 23) hx hb dX11_streets_16 (by decide) (fun h => absurd h (by decide)) (fun _ => ?_)
      refine lv_ldc2 (v := (-1)) hx hb hown (S.2.2.2.2 _ (wT_tab 781 rfl rfl)) dX11_streets_19 ?_
      exact W.lret (v := (-1)) hx hb hr (fun t ht hW => ⟨(-1), rfl, (Or.inr ⟨by omega, rfl⟩), ht⟩) (fun _ h => absurd h List.not_mem_nil) dX11_streets_22
  ·
    have h_2 : ¬ (0 ≤ v0.toInt ∧ v0.toInt ≤ 9) := h_2
    refine lv_if_eq (tgt := 19) hx hb dX11_streets_7 (by decide) (fun _ => ?_) (fun h => absurd h (by decide))
    refine lv_ldc2 (v := (-1)) hx hb hown (S.2.2.2.2 _ (wT_tab 781 rfl rfl)) dX11_streets_19 ?_
    exact W.lret (v := (-1)) hx hb hr (fun t ht hW => ⟨(-1), rfl, (Or.inr ⟨by omega, rfl⟩), ht⟩) (fun _ h => absurd h List.not_mem_nil) dX11_streets_22
set_option maxRecDepth 100000 in
set_option maxHeartbeats 4000000 in
theorem q_streets9 (l : Launch) (D : va_G) (cI cB cZ : ClassId) (g : Nat → Nat) (cn : Nat → Nat) (In : Nat → Int32) (Fn : Nat → Nat → Int32) (v0 v1 : Int32) (hI : IM cn Fn) : Met l yX12_streets (CWS yX12_streets cX12_streets 6 (some .long)) (RM 2 0 0) (PBr [.ref (g 100), .int v0, .int v1] D cI cB cZ (wM cI cB cZ g cn In Fn)) (vp_Sl (fun r => ((0 ≤ v0.toInt ∧ v0.toInt ≤ 9 ∧ 0 ≤ v1.toInt ∧ v1.toInt ≤ 2) ∧ ODM (sN (fun i9 => if 0 < ((Fn 14) i9).toInt then 1 else 0) (cn 2)) (sN (fun i9 => if (Fn 40) ((Fn 8) i9).toInt.toNat = v0 then 1 else 0) (cn 2)) (sN (fun i9 => if (Fn 40) ((Fn 8) i9).toInt.toNat = v0 ∧ 0 < ((Fn 14) i9).toInt then 1 else 0) (cn 2)) (cn 2) v1 r) ∨ (¬ (0 ≤ v0.toInt ∧ v0.toInt ≤ 9 ∧ 0 ≤ v1.toInt ∧ v1.toInt ≤ 2) ∧ r = -1))) 0 0 (fun _ => False) := by
  refine Met.ofW (cc := cX12_streets) (maxL := 6) (ret := (some .long)) (by decide) rfl ?_
  intro p e s m args below meth c s₁ B hml hv
  obtain ⟨rfl, hP, hK⟩ := hv
  have hx := B.exec
  have hb := B.bytes
  have hr := B.returns
  have hts := atoms_spec (ws := (CWS yX12_streets cX12_streets 6 (some .long))) B.pre
  have hown : s.vm.findClass RX12 = some m.cls := findClass_of_methodNamed B.named
  have hlocks := B.notSynchronized
  have S : SF p m c cX12_streets 6 s ([.ref (g 100), .int v0, .int v1]).toArray RX12 := ⟨hx, hb, hml, hown, fun w h => hts w (List.mem_cons_of_mem _ h)⟩
  have hl := lv_entry ([.ref (g 100), .int v0, .int v1]) (n := 6) (Nat.le_of_ble_eq_true rfl)
  rw [lg_entry_eq]
  generalize (lg_sl ([.ref (g 100), .int v0, .int v1]) ++ List.replicate (6 - (lg_sl ([.ref (g 100), .int v0, .int v1])).length) Slot.unset).toArray = ls at hl ⊢
  have hl : lv_has ls 6 [(0, .ref (g 100)), (1, .int v0), (2, .int v1)] := hl
  have hi_cn := hI.b
  refine lv_iload_n hx hb dX12_streets_0 rfl (lv_at hl 1 rfl) ?_
  refine lv_iconst (v := 0) hx hb dX12_streets_1 (by decide) ?_
  refine lv_bipush (v := 9) hx hb dX12_streets_2 (by decide) ?_
  refine vp_callSi (runS_r (As := [.int v0, .int 0, .int 9]) (rest := []) S (q_in l D cI cB cZ v0 0 9 ) kS_RX12_214 hK hP [] rfl ⟨Nat.le_of_ble_eq_true rfl, Nat.le_of_ble_eq_true rfl⟩ ⟨Nat.le_of_ble_eq_true rfl, Nat.le_of_ble_eq_true rfl⟩ rfl hl.1 rfl (Nat.le_of_ble_eq_true rfl) dX12_streets_4) (fun r_1 h_2 => ?_)
  rcases h_2 with ⟨rfl, h_2⟩ | ⟨rfl, h_2⟩
  ·
    have h_2 : 0 ≤ v0.toInt ∧ v0.toInt ≤ 9 := h_2
    refine lv_if_eq (tgt := 19) hx hb dX12_streets_7 (by decide) (fun h => absurd h (by decide)) (fun _ => ?_)
    refine lv_iload_n hx hb dX12_streets_10 rfl (lv_at hl 2 rfl) ?_
    refine lv_iconst (v := 0) hx hb dX12_streets_11 (by decide) ?_
    refine lv_iconst (v := 2) hx hb dX12_streets_12 (by decide) ?_
    refine vp_callSi (runS_r (As := [.int v1, .int 0, .int 2]) (rest := []) S (q_in l D cI cB cZ v1 0 2 ) kS_RX12_214 hK hP [] rfl ⟨Nat.le_of_ble_eq_true rfl, Nat.le_of_ble_eq_true rfl⟩ ⟨Nat.le_of_ble_eq_true rfl, Nat.le_of_ble_eq_true rfl⟩ rfl hl.1 rfl (Nat.le_of_ble_eq_true rfl) dX12_streets_13) (fun r_3 h_4 => ?_)
    rcases h_4 with ⟨rfl, h_4⟩ | ⟨rfl, h_4⟩
    ·
      have h_4 : 0 ≤ v1.toInt ∧ v1.toInt ≤ 2 := h_4
      refine lv_if_ne (tgt := 23) hx hb dX12_streets_16 (by decide) (fun _ => ?_) (fun h => absurd h (by decide))
      refine lv_iconst (v := 0) hx hb dX12_streets_23 (by decide) ?_
      refine lv_istore_n (lv' := [(3, .int 0), (0, .ref (g 100)), (1, .int v0), (2, .int v1)]) hx hb dX12_streets_24 rfl hl (by decide) rfl (fun ls hl => ?_)
      refine lv_iconst (v := 0) hx hb dX12_streets_25 (by decide) ?_
      refine lv_istore (lv' := [(4, .int 0), (3, .int 0), (0, .ref (g 100)), (1, .int v0), (2, .int v1)]) hx hb dX12_streets_26 hl (by decide) rfl (fun ls hl => ?_)
      refine lv_iconst (v := 0) hx hb dX12_streets_28 (by decide) ?_
      refine lv_istore (lv' := [(5, .int 0), (4, .int 0), (3, .int 0), (0, .ref (g 100)), (1, .int v0), (2, .int v1)]) hx hb dX12_streets_29 hl (by decide) rfl (fun ls hl => ?_)
      have lp_31 : ∀ (n : Nat) (i31 : Nat) (n3 : Nat) (n4 : Nat) , cn 2 - i31 < n → (i31 ≤ cn 2 ∧ (n3 ≤ i31 ∧ n4 ≤ n3) ∧ (n3 = sN (fun i9 => if (Fn 40) ((Fn 8) i9).toInt.toNat = v0 then 1 else 0) i31) ∧ (n4 = sN (fun i9 => if (Fn 40) ((Fn 8) i9).toInt.toNat = v0 ∧ 0 < ((Fn 14) i9).toInt then 1 else 0) i31)) → ∀ ls : Array Slot, lv_has ls 6 [(5, .int (nI i31)), (4, .int (nI n4)), (3, .int (nI n3)), (0, .ref (g 100)), (1, .int v0), (2, .int v1)] → W p l e (RM 2 0 0) s m ([.ref (g 100), .int v0, .int v1]).toArray below meth c s.heap [] 0 0 (MQ below (vp_Sl (fun r => ((0 ≤ v0.toInt ∧ v0.toInt ≤ 9 ∧ 0 ≤ v1.toInt ∧ v1.toInt ≤ 2) ∧ ODM (sN (fun i9 => if 0 < ((Fn 14) i9).toInt then 1 else 0) (cn 2)) (sN (fun i9 => if (Fn 40) ((Fn 8) i9).toInt.toNat = v0 then 1 else 0) (cn 2)) (sN (fun i9 => if (Fn 40) ((Fn 8) i9).toInt.toNat = v0 ∧ 0 < ((Fn 14) i9).toInt then 1 else 0) (cn 2)) (cn 2) v1 r) ∨ (¬ (0 ≤ v0.toInt ∧ v0.toInt ≤ 9 ∧ 0 ≤ v1.toInt ∧ v1.toInt ≤ 2) ∧ r = -1))) ([.ref (g 100), .int v0, .int v1]).toArray s 0 0 (fun _ => False)) (F0 m 31 ls []) := by
        intro n31
        induction n31 with
        | zero => intros; omega
        | succ n31 ih31 =>
          intro i31 n3 n4 hmu31 hinv31 ls hl
          obtain ⟨hr31, hx31_0, hx31_1, hx31_2⟩ := hinv31
          have ti31 : (nI i31).toInt = (i31 : Int) := nI_toInt (by omega)
          refine lv_iload hx hb dX12_streets_31 (lv_at hl 0 rfl) ?_
          refine lv_aload_n hx hb dX12_streets_33 rfl (lv_at hl 3 rfl) ?_
          refine gM_208 S hK hP (v := .int (nI (cn 2))) rfl dX12_streets_34 ?_
          have : (nI (cn 2)).toInt = (((cn 2) : Nat) : Int) := nI_toInt (by omega)
          refine lv_icmp_ge (tgt := 89) hx hb dX12_streets_37 (by decide) (fun c_5 => ?_) (fun c_5 => ?_)
          ·
            have tc_5 : ((nI (cn 2)).toInt : Int) ≤ (nI i31).toInt := Int32.le_iff_toInt_le.mp c_5
            refine lv_aload_n hx hb dX12_streets_89 rfl (lv_at hl 3 rfl) ?_
            refine lv_aload_n hx hb dX12_streets_90 rfl (lv_at hl 3 rfl) ?_
            refine vp_callSi (runV_ra (As := []) (rest := [.ref (g 100)]) S (q_lacking9 l D cI cB cZ g cn In Fn  hI) kV_RX12_350 hK hP 0 rfl rfl rfl ⟨Nat.le_of_ble_eq_true rfl, Nat.le_of_ble_eq_true rfl⟩ ⟨Nat.le_of_ble_eq_true rfl, Nat.le_of_ble_eq_true rfl⟩ rfl hl.1 rfl (Nat.le_of_ble_eq_true rfl) dX12_streets_91) (fun r_6 h_7 => ?_)
            subst h_7
            have hs9 : sN (fun i9 => if 0 < ((Fn 14) i9).toInt then 1 else 0) (cn 2) ≤ cn 2 := sN_b (fun _ => if1) _
            refine lv_iload_n hx hb dX12_streets_94 rfl (lv_at hl 2 rfl) ?_
            refine lv_iload hx hb dX12_streets_95 (lv_at hl 1 rfl) ?_
            refine lv_iload_n hx hb dX12_streets_97 rfl (lv_at hl 5 rfl) ?_
            refine vp_callSl (runV_ra (As := [.int (nI sN (fun i9 => if 0 < ((Fn 14) i9).toInt then 1 else 0) (cn 2)), .int (nI n3), .int (nI n4), .int v1]) (rest := []) S (q_byLot9 l D cI cB cZ g cn In Fn (sN (fun i9 => if 0 < ((Fn 14) i9).toInt then 1 else 0) (cn 2)) n3 n4 v1 hI (by omega) (by omega) (by omega)) kV_RX12_353 hK hP 0 rfl rfl rfl ⟨Nat.le_of_ble_eq_true rfl, Nat.le_of_ble_eq_true rfl⟩ ⟨Nat.le_of_ble_eq_true rfl, Nat.le_of_ble_eq_true rfl⟩ rfl hl.1 rfl (Nat.le_of_ble_eq_true rfl) dX12_streets_98) (fun r_8 h_9 => ?_)
            exact W.lret (v := r_8) hx hb hr (fun t ht hW => ⟨r_8, rfl, (Or.inl ⟨by omega, by have e9 : i31 = cn 2 := (by omega); have h9 := h_9; rw [hx31_1, hx31_2, e9] at h9; exact h9⟩), ht⟩) (fun _ h => absurd h List.not_mem_nil) dX12_streets_101
          ·
            have tc_5 : ((nI i31).toInt : Int) < (nI (cn 2)).toInt := Int32.lt_iff_toInt_lt.mp (Int32.not_le.mp c_5)
            refine lv_aload_n hx hb dX12_streets_40 rfl (lv_at hl 3 rfl) ?_
            refine gM_95 S hK hP (v := .ref (g 40)) rfl dX12_streets_41 ?_
            refine lv_aload_n hx hb dX12_streets_44 rfl (lv_at hl 3 rfl) ?_
            refine gM_25 S hK hP (v := .ref (g 8)) rfl dX12_streets_45 ?_
            refine lv_iload hx hb dX12_streets_48 (lv_at hl 0 rfl) ?_
            obtain ⟨a_10, ha_10, ea_10⟩ := hI.e8 i31 (by omega)
            refine ldM_8 hx hb hK hP (x := (nI a_10)) (vp_in_nI (by omega) (by decide)) (nI_clamp (by omega)) ea_10 dX12_streets_50 ?_
            refine ldM_40 hx hb hK hP (x := ((Fn 40) a_10)) (vp_in_nI (by omega) (by decide)) (nI_clamp (by omega)) rfl dX12_streets_51 ?_
            refine lv_iload_n hx hb dX12_streets_52 rfl (lv_at hl 4 rfl) ?_
            refine lv_icmp_eq (tgt := 59) hx hb dX12_streets_53 (by decide) (fun c_11 => ?_) (fun c_11 => ?_)
            ·
              have tc_11 : (((Fn 40) a_10).toInt : Int) = v0.toInt := congrArg Int32.toInt c_11
              refine lv_iload_n hx hb dX12_streets_59 rfl (lv_at hl 2 rfl) ?_
              refine lv_iconst (v := 1) hx hb dX12_streets_60 (by decide) ?_
              refine lv_iadd hx hb dX12_streets_61 ?_
              refine lv_topi (fun y_12 ey_12 => ?_)
              obtain rfl : y_12 = (nI (n3 + 1)) := ey_12.trans (nI_add n3 1)
              refine lv_istore_n (lv' := [(3, .int (nI (n3 + 1))), (5, .int (nI i31)), (4, .int (nI n4)), (0, .ref (g 100)), (1, .int v0), (2, .int v1)]) hx hb dX12_streets_62 rfl hl (by decide) rfl (fun ls hl => ?_)
              refine lv_iload hx hb dX12_streets_63 (lv_at hl 2 rfl) ?_
              refine lv_aload_n hx hb dX12_streets_65 rfl (lv_at hl 3 rfl) ?_
              refine gM_43 S hK hP (v := .ref (g 14)) rfl dX12_streets_66 ?_
              refine lv_iload hx hb dX12_streets_69 (lv_at hl 1 rfl) ?_
              refine ldM_14 hx hb hK hP (x := ((Fn 14) i31)) (vp_in_nI (by omega) (by decide)) (nI_clamp (by omega)) rfl dX12_streets_71 ?_
              refine lv_if_le (tgt := 79) hx hb dX12_streets_72 (by decide) (fun c_13 => ?_) (fun c_13 => ?_)
              ·
                have tc_13 : (((Fn 14) i31).toInt : Int) ≤ 0 := Int32.le_iff_toInt_le.mp c_13
                refine lv_iconst (v := 0) hx hb dX12_streets_79 (by decide) ?_
                refine lv_iadd hx hb dX12_streets_80 ?_
                refine lv_topi (fun y_14 ey_14 => ?_)
                obtain rfl : y_14 = (nI (n4 + 0)) := ey_14.trans (nI_add n4 0)
                refine lv_istore (lv' := [(4, .int (nI (n4 + 0))), (3, .int (nI (n3 + 1))), (5, .int (nI i31)), (0, .ref (g 100)), (1, .int v0), (2, .int v1)]) hx hb dX12_streets_81 hl (by decide) rfl (fun ls hl => ?_)
                refine lv_iinc (v := (nI (i31 + 1))) (lv' := [(5, .int (nI (i31 + 1))), (4, .int (nI (n4 + 0))), (3, .int (nI (n3 + 1))), (0, .ref (g 100)), (1, .int v0), (2, .int v1)]) hx hb dX12_streets_83 hl (k := 2) rfl (nI_1 _) (by decide) rfl (fun ls hl => ?_)
                refine lv_goto (tgt := 31) hx hb dX12_streets_86 (by decide) ?_
                exact ih31 (i31 + 1) (n3 + 1) (n4 + 0) (by omega) ⟨(by omega), ⟨by omega, by omega⟩, (sN_y hx31_1 (if_pos (by rw [ea_10, nI_tn (by omega)]; assumption))), (sN_n hx31_2 (if_neg (fun q9 => by have q7 := q9.2; first | omega | (have q8 := q9.1; rw [ea_10, nI_tn (by omega)] at q8; exact absurd q8 (by assumption)))))⟩ ls (lv_sub hl [0, 1, 2, 3, 4, 5] rfl)
              ·
                have tc_13 : (0 : Int) < ((Fn 14) i31).toInt := Int32.lt_iff_toInt_lt.mp (Int32.not_le.mp c_13)
                refine lv_iconst (v := 1) hx hb dX12_streets_75 (by decide) ?_
                refine lv_goto (tgt := 80) hx hb dX12_streets_76 (by decide) ?_
                refine lv_iadd hx hb dX12_streets_80 ?_
                refine lv_topi (fun y_15 ey_15 => ?_)
                obtain rfl : y_15 = (nI (n4 + 1)) := ey_15.trans (nI_add n4 1)
                refine lv_istore (lv' := [(4, .int (nI (n4 + 1))), (3, .int (nI (n3 + 1))), (5, .int (nI i31)), (0, .ref (g 100)), (1, .int v0), (2, .int v1)]) hx hb dX12_streets_81 hl (by decide) rfl (fun ls hl => ?_)
                refine lv_iinc (v := (nI (i31 + 1))) (lv' := [(5, .int (nI (i31 + 1))), (4, .int (nI (n4 + 1))), (3, .int (nI (n3 + 1))), (0, .ref (g 100)), (1, .int v0), (2, .int v1)]) hx hb dX12_streets_83 hl (k := 2) rfl (nI_1 _) (by decide) rfl (fun ls hl => ?_)
                refine lv_goto (tgt := 31) hx hb dX12_streets_86 (by decide) ?_
                exact ih31 (i31 + 1) (n3 + 1) (n4 + 1) (by omega) ⟨(by omega), ⟨by omega, by omega⟩, (sN_y hx31_1 (if_pos (by rw [ea_10, nI_tn (by omega)]; assumption))), (sN_y hx31_2 (if_pos ⟨by rw [ea_10, nI_tn (by omega)]; assumption, by omega⟩))⟩ ls (lv_sub hl [0, 1, 2, 3, 4, 5] rfl)
            ·
              have tc_11 : (((Fn 40) a_10).toInt : Int) ≠ v0.toInt := fun q => c_11 (Int32.toInt_inj.mp q)
              refine lv_goto (tgt := 83) hx hb dX12_streets_56 (by decide) ?_
              refine lv_iinc (v := (nI (i31 + 1))) (lv' := [(5, .int (nI (i31 + 1))), (4, .int (nI n4)), (3, .int (nI n3)), (0, .ref (g 100)), (1, .int v0), (2, .int v1)]) hx hb dX12_streets_83 hl (k := 0) rfl (nI_1 _) (by decide) rfl (fun ls hl => ?_)
              refine lv_goto (tgt := 31) hx hb dX12_streets_86 (by decide) ?_
              exact ih31 (i31 + 1) n3 n4 (by omega) ⟨(by omega), ⟨by omega, by omega⟩, (sN_n hx31_1 (if_neg (fun q9 => by rw [ea_10, nI_tn (by omega)] at q9; exact absurd q9 (by assumption)))), (sN_n hx31_2 (if_neg (fun q9 => by have q7 := q9.2; first | omega | (have q8 := q9.1; rw [ea_10, nI_tn (by omega)] at q8; exact absurd q8 (by assumption)))))⟩ ls (lv_sub hl [0, 1, 2, 3, 4, 5] rfl)
      exact lp_31 _ 0 0 0 (Nat.lt_succ_self _) ⟨(by omega), ⟨by omega, by omega⟩, rfl, rfl⟩ ls (lv_sub hl [0, 1, 2, 3, 4, 5] rfl)
    ·
      have h_4 : ¬ (0 ≤ v1.toInt ∧ v1.toInt ≤ 2) := h_4
      refine lv_if_ne (tgt := 23) hx hb dX12_streets_16 (by decide) (fun h => absurd h (by decide)) (fun _ => ?_)
      refine lv_ldc2 (v := (-1)) hx hb hown (S.2.2.2.2 _ (wT_tab 1757 rfl rfl)) dX12_streets_19 ?_
      exact W.lret (v := (-1)) hx hb hr (fun t ht hW => ⟨(-1), rfl, (Or.inr ⟨by omega, rfl⟩), ht⟩) (fun _ h => absurd h List.not_mem_nil) dX12_streets_22
  ·
    have h_2 : ¬ (0 ≤ v0.toInt ∧ v0.toInt ≤ 9) := h_2
    refine lv_if_eq (tgt := 19) hx hb dX12_streets_7 (by decide) (fun _ => ?_) (fun h => absurd h (by decide))
    refine lv_ldc2 (v := (-1)) hx hb hown (S.2.2.2.2 _ (wT_tab 1757 rfl rfl)) dX12_streets_19 ?_
    exact W.lret (v := (-1)) hx hb hr (fun t ht hW => ⟨(-1), rfl, (Or.inr ⟨by omega, rfl⟩), ht⟩) (fun _ h => absurd h List.not_mem_nil) dX12_streets_22
set_option maxRecDepth 100000 in
set_option maxHeartbeats 4000000 in
theorem q_Echeat (l : Launch) (D : va_G) (cI cB cZ : ClassId) (zz qq vv : Nat) (bt : Nat → Int32) (g : Nat → Nat) (ad : Nat → Nat → Nat) (cn : Nat → Nat) (In : Nat → Int32) (Fn : Nat → Nat → Int32) (v0 v1 v2 : Int32) (hB : CBX cn) : Met l yX11_cheat (CWS yX11_cheat cX11_cheat 10 (some .long)) (RM 4 0 0) (PBrx [.ref (g 0), .int v0, .int v1, .int v2] D cI cB cZ zz qq vv bt (wX cI (D.1 99) zz g ad cn In Fn)) (vp_Sl (fun r => ((0 ≤ v0.toInt ∧ v0.toInt < (cn 10 : Int) ∧ 0 ≤ v1.toInt ∧ v1.toInt ≤ 1000 ∧ 0 ≤ v2.toInt ∧ v2.toInt ≤ 2) ∧ ODX (sN (fun i9 => if v1.toInt ≤ ((Fn 123) i9).toInt then 1 else 0) (cn 11)) (sN (fun i9 => if (Fn 120) i9 = v0 then 1 else 0) (cn 11)) (sN (fun i9 => if (Fn 120) i9 = v0 ∧ v1.toInt ≤ ((Fn 123) i9).toInt then 1 else 0) (cn 11)) (cn 11) v2 r) ∨ (¬ (0 ≤ v0.toInt ∧ v0.toInt < (cn 10 : Int) ∧ 0 ≤ v1.toInt ∧ v1.toInt ≤ 1000 ∧ 0 ≤ v2.toInt ∧ v2.toInt ≤ 2) ∧ r = -1))) 0 0 (fun _ => False) := by
  refine Met.ofW (cc := cX11_cheat) (maxL := 10) (ret := (some .long)) (by decide) rfl ?_
  intro p e s m args below meth c s₁ B hml hv
  obtain ⟨rfl, hP, hK, hXS⟩ := hv
  have hS : va_S (fun _ => False) s.heap s.heap [] := va_S.rf
  have hx := B.exec
  have hb := B.bytes
  have hr := B.returns
  have hts := atoms_spec (ws := (CWS yX11_cheat cX11_cheat 10 (some .long))) B.pre
  have hown : s.vm.findClass RX11 = some m.cls := findClass_of_methodNamed B.named
  have hlocks := B.notSynchronized
  have S : SF p m c cX11_cheat 10 s ([.ref (g 0), .int v0, .int v1, .int v2]).toArray RX11 := ⟨hx, hb, hml, hown, fun w h => hts w (List.mem_cons_of_mem _ h)⟩
  have hl := lv_entry ([.ref (g 0), .int v0, .int v1, .int v2]) (n := 10) (Nat.le_of_ble_eq_true rfl)
  rw [lg_entry_eq]
  generalize (lg_sl ([.ref (g 0), .int v0, .int v1, .int v2]) ++ List.replicate (10 - (lg_sl ([.ref (g 0), .int v0, .int v1, .int v2])).length) Slot.unset).toArray = ls at hl ⊢
  have hl : lv_has ls 10 [(0, .ref (g 0)), (1, .int v0), (2, .int v1), (3, .int v2)] := hl
  refine lv_aload_n hx hb dX11_cheat_0 rfl (lv_at hl 0 rfl) ?_
  refine lv_iload_n hx hb dX11_cheat_1 rfl (lv_at hl 1 rfl) ?_
  refine va_csq (runV_rxa (As := [.int v0]) (rest := []) S (q_XkitchenAt l D cI cB cZ zz qq vv bt g ad cn In Fn v0 hB) kV_RX11_114 hK hXS hS hP 0 xo_0 rfl rfl ⟨Nat.le_of_ble_eq_true rfl, Nat.le_of_ble_eq_true rfl⟩ ⟨Nat.le_of_ble_eq_true rfl, Nat.le_of_ble_eq_true rfl⟩ rfl hl.1 rfl (Nat.le_of_ble_eq_true rfl) dX11_cheat_2) (fun r_1 h_2 => ?_)
  rcases h_2 with ⟨mr_1, er_1, hr_1, rfl⟩ | ⟨hr_1, rfl⟩
  ·
    refine lv_ifnull hx hb dX11_cheat_5 ?_
    refine lv_iload_n hx hb dX11_cheat_8 rfl (lv_at hl 2 rfl) ?_
    refine lv_iconst (v := 0) hx hb dX11_cheat_9 (by decide) ?_
    refine lv_sipush (v := 1000) hx hb dX11_cheat_10 (by decide) ?_
    refine vp_callSi (runS_r (As := [.int v1, .int 0, .int 1000]) (rest := []) S (q_l_within l D cI cB cZ v1 0 1000) kS_RX11_80 hK hP [] rfl ⟨Nat.le_of_ble_eq_true rfl, Nat.le_of_ble_eq_true rfl⟩ ⟨Nat.le_of_ble_eq_true rfl, Nat.le_of_ble_eq_true rfl⟩ rfl hl.1 rfl (Nat.le_of_ble_eq_true rfl) dX11_cheat_13) (fun r_3 h_4 => ?_)
    rcases h_4 with ⟨rfl, h_4⟩ | ⟨rfl, h_4⟩
    ·
      have h_4 : 0 ≤ v1.toInt ∧ v1.toInt ≤ 1000 := h_4
      refine lv_if_eq (tgt := 28) hx hb dX11_cheat_16 (by decide) (fun h => absurd h (by decide)) (fun _ => ?_)
      refine lv_iload_n hx hb dX11_cheat_19 rfl (lv_at hl 3 rfl) ?_
      refine lv_iconst (v := 0) hx hb dX11_cheat_20 (by decide) ?_
      refine lv_iconst (v := 2) hx hb dX11_cheat_21 (by decide) ?_
      refine vp_callSi (runS_r (As := [.int v2, .int 0, .int 2]) (rest := []) S (q_l_within l D cI cB cZ v2 0 2) kS_RX11_80 hK hP [] rfl ⟨Nat.le_of_ble_eq_true rfl, Nat.le_of_ble_eq_true rfl⟩ ⟨Nat.le_of_ble_eq_true rfl, Nat.le_of_ble_eq_true rfl⟩ rfl hl.1 rfl (Nat.le_of_ble_eq_true rfl) dX11_cheat_22) (fun r_5 h_6 => ?_)
      rcases h_6 with ⟨rfl, h_6⟩ | ⟨rfl, h_6⟩
      ·
        have h_6 : 0 ≤ v2.toInt ∧ v2.toInt ≤ 2 := h_6
        refine lv_if_ne (tgt := 32) hx hb dX11_cheat_25 (by decide) (fun _ => ?_) (fun h => absurd h (by decide))
        refine lv_iconst (v := 0) hx hb dX11_cheat_32 (by decide) ?_
        refine lv_istore (lv' := [(4, .int 0), (0, .ref (g 0)), (1, .int v0), (2, .int v1), (3, .int v2)]) hx hb dX11_cheat_33 hl (by decide) rfl (fun ls hl => ?_)
        refine lv_iconst (v := 0) hx hb dX11_cheat_35 (by decide) ?_
        refine lv_istore (lv' := [(5, .int 0), (4, .int 0), (0, .ref (g 0)), (1, .int v0), (2, .int v1), (3, .int v2)]) hx hb dX11_cheat_36 hl (by decide) rfl (fun ls hl => ?_)
        refine lv_iconst (v := 0) hx hb dX11_cheat_38 (by decide) ?_
        refine lv_istore (lv' := [(6, .int 0), (5, .int 0), (4, .int 0), (0, .ref (g 0)), (1, .int v0), (2, .int v1), (3, .int v2)]) hx hb dX11_cheat_39 hl (by decide) rfl (fun ls hl => ?_)
        refine lv_iconst (v := 0) hx hb dX11_cheat_41 (by decide) ?_
        refine lv_istore (lv' := [(7, .int 0), (6, .int 0), (5, .int 0), (4, .int 0), (0, .ref (g 0)), (1, .int v0), (2, .int v1), (3, .int v2)]) hx hb dX11_cheat_42 hl (by decide) rfl (fun ls hl => ?_)
        have lp_44 : ∀ (n : Nat) (i44 : Nat) (n3 : Nat) (n4 : Nat) (n5 : Nat) , cn 11 - i44 < n → (i44 ≤ cn 11 ∧ (n3 ≤ i44 ∧ n4 ≤ i44 ∧ n5 ≤ n3 ∧ n5 ≤ n4) ∧ (n3 = sN (fun i9 => if v1.toInt ≤ ((Fn 123) i9).toInt then 1 else 0) i44) ∧ (n4 = sN (fun i9 => if (Fn 120) i9 = v0 then 1 else 0) i44) ∧ (n5 = sN (fun i9 => if (Fn 120) i9 = v0 ∧ v1.toInt ≤ ((Fn 123) i9).toInt then 1 else 0) i44)) → ∀ ls : Array Slot, lv_has ls 10 [(7, .int (nI i44)), (6, .int (nI n5)), (5, .int (nI n4)), (4, .int (nI n3)), (0, .ref (g 0)), (1, .int v0), (2, .int v1), (3, .int v2)] → W p l e (RM 4 0 0) s m ([.ref (g 0), .int v0, .int v1, .int v2]).toArray below meth c s.heap [] 0 0 (MQ below (vp_Sl (fun r => ((0 ≤ v0.toInt ∧ v0.toInt < (cn 10 : Int) ∧ 0 ≤ v1.toInt ∧ v1.toInt ≤ 1000 ∧ 0 ≤ v2.toInt ∧ v2.toInt ≤ 2) ∧ ODX (sN (fun i9 => if v1.toInt ≤ ((Fn 123) i9).toInt then 1 else 0) (cn 11)) (sN (fun i9 => if (Fn 120) i9 = v0 then 1 else 0) (cn 11)) (sN (fun i9 => if (Fn 120) i9 = v0 ∧ v1.toInt ≤ ((Fn 123) i9).toInt then 1 else 0) (cn 11)) (cn 11) v2 r) ∨ (¬ (0 ≤ v0.toInt ∧ v0.toInt < (cn 10 : Int) ∧ 0 ≤ v1.toInt ∧ v1.toInt ≤ 1000 ∧ 0 ≤ v2.toInt ∧ v2.toInt ≤ 2) ∧ r = -1))) ([.ref (g 0), .int v0, .int v1, .int v2]).toArray s 0 0 (fun _ => False)) (F0 m 44 ls []) := by
          intro n44
          induction n44 with
          | zero => intros; omega
          | succ n44 ih44 =>
            intro i44 n3 n4 n5 hmu44 hinv44 ls hl
            obtain ⟨hr44, hx44_0, hx44_1, hx44_2, hx44_3⟩ := hinv44
            have ti44 : (nI i44).toInt = (i44 : Int) := nI_toInt (by omega)
            refine lv_iload hx hb dX11_cheat_44 (lv_at hl 0 rfl) ?_
            refine lv_aload_n hx hb dX11_cheat_46 rfl (lv_at hl 4 rfl) ?_
            refine gf_RX11_65 S hK hP 0 xo_0 (v := .ref (g 11)) rfl dX11_cheat_47 ?_
            refine vp_callSi (runV_r (As := []) (rest := [.int (nI i44)]) S (q_l_size l D cI cB cZ (g 11) (if (cn 11) = 0 then zz else ad 2 1) (In 11) (nI (cn 11))) kV_RX11_84 hK hP [25] (one_is xo_25) 25 xo_25 rfl rfl ⟨Nat.le_of_ble_eq_true rfl, Nat.le_of_ble_eq_true rfl⟩ ⟨Nat.le_of_ble_eq_true rfl, Nat.le_of_ble_eq_true rfl⟩ rfl hl.1 rfl (Nat.le_of_ble_eq_true rfl) dX11_cheat_50) (fun r_7 h_8 => ?_)
            subst h_8
            have : (nI (cn 11)).toInt = (((cn 11) : Nat) : Int) := nI_toInt (by omega)
            refine lv_icmp_ge (tgt := 150) hx hb dX11_cheat_53 (by decide) (fun c_9 => ?_) (fun c_9 => ?_)
            ·
              have tc_9 : ((nI (cn 11)).toInt : Int) ≤ (nI i44).toInt := Int32.le_iff_toInt_le.mp c_9
              refine lv_iload hx hb dX11_cheat_150 (lv_at hl 3 rfl) ?_
              refine lv_iload hx hb dX11_cheat_152 (lv_at hl 2 rfl) ?_
              refine lv_iload hx hb dX11_cheat_154 (lv_at hl 1 rfl) ?_
              refine lv_aload_n hx hb dX11_cheat_156 rfl (lv_at hl 4 rfl) ?_
              refine gf_RX11_65 S hK hP 0 xo_0 (v := .ref (g 11)) rfl dX11_cheat_157 ?_
              refine vp_callSi (runV_r (As := []) (rest := [.int (nI n5), .int (nI n4), .int (nI n3)]) S (q_l_size l D cI cB cZ (g 11) (if (cn 11) = 0 then zz else ad 2 1) (In 11) (nI (cn 11))) kV_RX11_84 hK hP [25] (one_is xo_25) 25 xo_25 rfl rfl ⟨Nat.le_of_ble_eq_true rfl, Nat.le_of_ble_eq_true rfl⟩ ⟨Nat.le_of_ble_eq_true rfl, Nat.le_of_ble_eq_true rfl⟩ rfl hl.1 rfl (Nat.le_of_ble_eq_true rfl) dX11_cheat_160) (fun r_10 h_11 => ?_)
              subst h_11
              refine lv_iload_n hx hb dX11_cheat_163 rfl (lv_at hl 7 rfl) ?_
              refine vp_callSl (runS_r (As := [.int (nI n3), .int (nI n4), .int (nI n5), .int (nI (cn 11)), .int v2]) (rest := []) S (q_Eodds l D cI cB cZ n3 n4 n5 (cn 11) v2 (by omega) (by omega) (by omega) ⟨by omega, by omega⟩) kS_RX11_256 hK hP [] rfl ⟨Nat.le_of_ble_eq_true rfl, Nat.le_of_ble_eq_true rfl⟩ ⟨Nat.le_of_ble_eq_true rfl, Nat.le_of_ble_eq_true rfl⟩ rfl hl.1 rfl (Nat.le_of_ble_eq_true rfl) dX11_cheat_164) (fun r_12 h_13 => ?_)
              exact W.lret (v := r_12) hx hb hr (fun t ht hW => ⟨r_12, rfl, (Or.inl ⟨by omega, by have e9 : i44 = cn 11 := (by omega); have h9 := h_13; rw [hx44_1, hx44_2, hx44_3, e9] at h9; exact h9⟩), ht⟩) (fun _ h => absurd h List.not_mem_nil) dX11_cheat_167
            ·
              have tc_9 : ((nI i44).toInt : Int) < (nI (cn 11)).toInt := Int32.lt_iff_toInt_lt.mp (Int32.not_le.mp c_9)
              refine lv_aload_n hx hb dX11_cheat_56 rfl (lv_at hl 4 rfl) ?_
              refine gf_RX11_65 S hK hP 0 xo_0 (v := .ref (g 11)) rfl dX11_cheat_57 ?_
              refine lv_iload hx hb dX11_cheat_60 (lv_at hl 0 rfl) ?_
              refine va_csq (runV_rx (As := [.int (nI i44)]) (rest := []) S (q_l_get l D cI cB cZ zz qq vv bt (g 11) (ad 2 1) (cn 21) (cn 11) i44 (ad 11 i44) (In 11) (fun i => if i < (cn 11) then some (ad 11 i) else none) (by omega) (if_pos (by omega)) (by omega) (by omega)) kV_RX11_87 hK hXS hS hP _ (two_is (xl_1 (by omega)) (xf_14 (k := 0) (by omega))) (va_recv hK.1 hP (ci := 0) rfl xo_25) ⟨Nat.le_of_ble_eq_true rfl, Nat.le_of_ble_eq_true rfl⟩ ⟨Nat.le_of_ble_eq_true rfl, Nat.le_of_ble_eq_true rfl⟩ rfl hl.1 rfl (Nat.le_of_ble_eq_true rfl) dX11_cheat_62) (fun r_14 h_15 => ?_)
              subst h_15
              refine va_castS hx hb hown (S.2.2.2.2 _ (wT_tab 444 rfl rfl)) (xclass hK.1 (ci := 3) rfl) (va_recv hK.1 hP (ci := 3) rfl (xf_1 (by omega))) dX11_cheat_65 ?_
              refine lv_astore (lv' := [(8, .ref (ad 11 i44)), (7, .int (nI i44)), (6, .int (nI n5)), (5, .int (nI n4)), (4, .int (nI n3)), (0, .ref (g 0)), (1, .int v0), (2, .int v1), (3, .int v2)]) hx hb dX11_cheat_68 hl (by decide) rfl (fun ls hl => ?_)
              refine lv_aload hx hb dX11_cheat_70 (lv_at hl 0 rfl) ?_
              refine gf_RX11_205 S hK hP _ (xf_1 (by omega)) (v := .int ((Fn 123) i44)) rfl dX11_cheat_72 ?_
              refine lv_iload_n hx hb dX11_cheat_75 rfl (lv_at hl 7 rfl) ?_
              refine lv_icmp_lt (tgt := 83) hx hb dX11_cheat_76 (by decide) (fun c_16 => ?_) (fun c_16 => ?_)
              ·
                have tc_16 : (((Fn 123) i44).toInt : Int) < v1.toInt := Int32.lt_iff_toInt_lt.mp c_16
                refine lv_iconst (v := 0) hx hb dX11_cheat_83 (by decide) ?_
                refine lv_istore (lv' := [(9, .int 0), (8, .ref (ad 11 i44)), (7, .int (nI i44)), (6, .int (nI n5)), (5, .int (nI n4)), (4, .int (nI n3)), (0, .ref (g 0)), (1, .int v0), (2, .int v1), (3, .int v2)]) hx hb dX11_cheat_84 hl (by decide) rfl (fun ls hl => ?_)
                refine lv_iload hx hb dX11_cheat_86 (lv_at hl 5 rfl) ?_
                refine lv_iload hx hb dX11_cheat_88 (lv_at hl 0 rfl) ?_
                refine lv_if_eq (tgt := 97) hx hb dX11_cheat_90 (by decide) (fun _ => ?_) (fun h => absurd h (by decide))
                refine lv_iconst (v := 0) hx hb dX11_cheat_97 (by decide) ?_
                refine lv_iadd hx hb dX11_cheat_98 ?_
                refine lv_topi (fun y_17 ey_17 => ?_)
                obtain rfl : y_17 = (nI (n3 + 0)) := ey_17.trans (nI_add n3 0)
                refine lv_istore (lv' := [(4, .int (nI (n3 + 0))), (9, .int 0), (8, .ref (ad 11 i44)), (7, .int (nI i44)), (6, .int (nI n5)), (5, .int (nI n4)), (0, .ref (g 0)), (1, .int v0), (2, .int v1), (3, .int v2)]) hx hb dX11_cheat_99 hl (by decide) rfl (fun ls hl => ?_)
                refine lv_iload hx hb dX11_cheat_101 (lv_at hl 5 rfl) ?_
                refine lv_aload hx hb dX11_cheat_103 (lv_at hl 2 rfl) ?_
                refine gf_RX11_211 S hK hP _ (xf_1 (by omega)) (v := .int ((Fn 120) i44)) rfl dX11_cheat_105 ?_
                refine lv_iload_n hx hb dX11_cheat_108 rfl (lv_at hl 7 rfl) ?_
                refine lv_icmp_ne (tgt := 116) hx hb dX11_cheat_109 (by decide) (fun c_18 => ?_) (fun c_18 => ?_)
                ·
                  have tc_18 : (((Fn 120) i44).toInt : Int) ≠ v0.toInt := fun q => c_18 (Int32.toInt_inj.mp q)
                  refine lv_iconst (v := 0) hx hb dX11_cheat_116 (by decide) ?_
                  refine lv_iadd hx hb dX11_cheat_117 ?_
                  refine lv_topi (fun y_19 ey_19 => ?_)
                  obtain rfl : y_19 = (nI (n4 + 0)) := ey_19.trans (nI_add n4 0)
                  refine lv_istore (lv' := [(5, .int (nI (n4 + 0))), (4, .int (nI (n3 + 0))), (9, .int 0), (8, .ref (ad 11 i44)), (7, .int (nI i44)), (6, .int (nI n5)), (0, .ref (g 0)), (1, .int v0), (2, .int v1), (3, .int v2)]) hx hb dX11_cheat_118 hl (by decide) rfl (fun ls hl => ?_)
                  refine lv_iload hx hb dX11_cheat_120 (lv_at hl 5 rfl) ?_
                  refine lv_aload hx hb dX11_cheat_122 (lv_at hl 3 rfl) ?_
                  refine gf_RX11_211 S hK hP _ (xf_1 (by omega)) (v := .int ((Fn 120) i44)) rfl dX11_cheat_124 ?_
                  refine lv_iload_n hx hb dX11_cheat_127 rfl (lv_at hl 7 rfl) ?_
                  refine lv_icmp_ne (tgt := 140) hx hb dX11_cheat_128 (by decide) (fun c_20 => ?_) (fun c_20 => ?_)
                  ·
                    have tc_20 : (((Fn 120) i44).toInt : Int) ≠ v0.toInt := fun q => c_20 (Int32.toInt_inj.mp q)
                    refine lv_iconst (v := 0) hx hb dX11_cheat_140 (by decide) ?_
                    refine lv_iadd hx hb dX11_cheat_141 ?_
                    refine lv_topi (fun y_21 ey_21 => ?_)
                    obtain rfl : y_21 = (nI (n5 + 0)) := ey_21.trans (nI_add n5 0)
                    refine lv_istore (lv' := [(6, .int (nI (n5 + 0))), (5, .int (nI (n4 + 0))), (4, .int (nI (n3 + 0))), (9, .int 0), (8, .ref (ad 11 i44)), (7, .int (nI i44)), (0, .ref (g 0)), (1, .int v0), (2, .int v1), (3, .int v2)]) hx hb dX11_cheat_142 hl (by decide) rfl (fun ls hl => ?_)
                    refine lv_iinc (v := (nI (i44 + 1))) (lv' := [(7, .int (nI (i44 + 1))), (6, .int (nI (n5 + 0))), (5, .int (nI (n4 + 0))), (4, .int (nI (n3 + 0))), (9, .int 0), (8, .ref (ad 11 i44)), (0, .ref (g 0)), (1, .int v0), (2, .int v1), (3, .int v2)]) hx hb dX11_cheat_144 hl (k := 5) rfl (nI_1 _) (by decide) rfl (fun ls hl => ?_)
                    refine lv_goto (tgt := 44) hx hb dX11_cheat_147 (by decide) ?_
                    exact ih44 (i44 + 1) (n3 + 0) (n4 + 0) (n5 + 0) (by omega) ⟨(by omega), ⟨by omega, by omega, by omega, by omega⟩, (sN_n hx44_1 (if_neg (fun q9 => by omega))), (sN_n hx44_2 (if_neg (fun q9 => by exact absurd q9 (by assumption)))), (sN_n hx44_3 (if_neg (fun q9 => by first | omega | exact absurd q9 (by assumption) | exact absurd q9.1 (by assumption) | (have q8 := q9.2; omega))))⟩ ls (lv_sub hl [0, 1, 2, 3, 6, 7, 8, 9] rfl)
                  ·
                    have tc_20 : (((Fn 120) i44).toInt : Int) = v0.toInt := congrArg Int32.toInt c_20
                    refine lv_iload hx hb dX11_cheat_131 (lv_at hl 2 rfl) ?_
                    refine lv_if_eq (tgt := 140) hx hb dX11_cheat_133 (by decide) (fun _ => ?_) (fun h => absurd h (by decide))
                    refine lv_iconst (v := 0) hx hb dX11_cheat_140 (by decide) ?_
                    refine lv_iadd hx hb dX11_cheat_141 ?_
                    refine lv_topi (fun y_22 ey_22 => ?_)
                    obtain rfl : y_22 = (nI (n5 + 0)) := ey_22.trans (nI_add n5 0)
                    refine lv_istore (lv' := [(6, .int (nI (n5 + 0))), (5, .int (nI (n4 + 0))), (4, .int (nI (n3 + 0))), (9, .int 0), (8, .ref (ad 11 i44)), (7, .int (nI i44)), (0, .ref (g 0)), (1, .int v0), (2, .int v1), (3, .int v2)]) hx hb dX11_cheat_142 hl (by decide) rfl (fun ls hl => ?_)
                    refine lv_iinc (v := (nI (i44 + 1))) (lv' := [(7, .int (nI (i44 + 1))), (6, .int (nI (n5 + 0))), (5, .int (nI (n4 + 0))), (4, .int (nI (n3 + 0))), (9, .int 0), (8, .ref (ad 11 i44)), (0, .ref (g 0)), (1, .int v0), (2, .int v1), (3, .int v2)]) hx hb dX11_cheat_144 hl (k := 5) rfl (nI_1 _) (by decide) rfl (fun ls hl => ?_)
                    refine lv_goto (tgt := 44) hx hb dX11_cheat_147 (by decide) ?_
                    exact ih44 (i44 + 1) (n3 + 0) (n4 + 0) (n5 + 0) (by omega) ⟨(by omega), ⟨by omega, by omega, by omega, by omega⟩, (sN_n hx44_1 (if_neg (fun q9 => by omega))), (sN_n hx44_2 (if_neg (fun q9 => by exact absurd q9 (by assumption)))), (sN_n hx44_3 (if_neg (fun q9 => by first | omega | exact absurd q9 (by assumption) | exact absurd q9.1 (by assumption) | (have q8 := q9.2; omega))))⟩ ls (lv_sub hl [0, 1, 2, 3, 6, 7, 8, 9] rfl)
                ·
                  have tc_18 : (((Fn 120) i44).toInt : Int) = v0.toInt := congrArg Int32.toInt c_18
                  refine lv_iconst (v := 1) hx hb dX11_cheat_112 (by decide) ?_
                  refine lv_goto (tgt := 117) hx hb dX11_cheat_113 (by decide) ?_
                  refine lv_iadd hx hb dX11_cheat_117 ?_
                  refine lv_topi (fun y_23 ey_23 => ?_)
                  obtain rfl : y_23 = (nI (n4 + 1)) := ey_23.trans (nI_add n4 1)
                  refine lv_istore (lv' := [(5, .int (nI (n4 + 1))), (4, .int (nI (n3 + 0))), (9, .int 0), (8, .ref (ad 11 i44)), (7, .int (nI i44)), (6, .int (nI n5)), (0, .ref (g 0)), (1, .int v0), (2, .int v1), (3, .int v2)]) hx hb dX11_cheat_118 hl (by decide) rfl (fun ls hl => ?_)
                  refine lv_iload hx hb dX11_cheat_120 (lv_at hl 5 rfl) ?_
                  refine lv_aload hx hb dX11_cheat_122 (lv_at hl 3 rfl) ?_
                  refine gf_RX11_211 S hK hP _ (xf_1 (by omega)) (v := .int ((Fn 120) i44)) rfl dX11_cheat_124 ?_
                  refine lv_iload_n hx hb dX11_cheat_127 rfl (lv_at hl 7 rfl) ?_
                  refine lv_icmp_ne (tgt := 140) hx hb dX11_cheat_128 (by decide) (fun c_24 => ?_) (fun c_24 => ?_)
                  ·
                    have tc_24 : (((Fn 120) i44).toInt : Int) ≠ v0.toInt := fun q => c_24 (Int32.toInt_inj.mp q)
                    refine lv_iconst (v := 0) hx hb dX11_cheat_140 (by decide) ?_
                    refine lv_iadd hx hb dX11_cheat_141 ?_
                    refine lv_topi (fun y_25 ey_25 => ?_)
                    obtain rfl : y_25 = (nI (n5 + 0)) := ey_25.trans (nI_add n5 0)
                    refine lv_istore (lv' := [(6, .int (nI (n5 + 0))), (5, .int (nI (n4 + 1))), (4, .int (nI (n3 + 0))), (9, .int 0), (8, .ref (ad 11 i44)), (7, .int (nI i44)), (0, .ref (g 0)), (1, .int v0), (2, .int v1), (3, .int v2)]) hx hb dX11_cheat_142 hl (by decide) rfl (fun ls hl => ?_)
                    refine lv_iinc (v := (nI (i44 + 1))) (lv' := [(7, .int (nI (i44 + 1))), (6, .int (nI (n5 + 0))), (5, .int (nI (n4 + 1))), (4, .int (nI (n3 + 0))), (9, .int 0), (8, .ref (ad 11 i44)), (0, .ref (g 0)), (1, .int v0), (2, .int v1), (3, .int v2)]) hx hb dX11_cheat_144 hl (k := 5) rfl (nI_1 _) (by decide) rfl (fun ls hl => ?_)
                    refine lv_goto (tgt := 44) hx hb dX11_cheat_147 (by decide) ?_
                    exact ih44 (i44 + 1) (n3 + 0) (n4 + 1) (n5 + 0) (by omega) ⟨(by omega), ⟨by omega, by omega, by omega, by omega⟩, (sN_n hx44_1 (if_neg (fun q9 => by omega))), (sN_y hx44_2 (if_pos (by assumption))), (sN_n hx44_3 (if_neg (fun q9 => by first | omega | exact absurd q9 (by assumption) | exact absurd q9.1 (by assumption) | (have q8 := q9.2; omega))))⟩ ls (lv_sub hl [0, 1, 2, 3, 6, 7, 8, 9] rfl)
                  ·
                    have tc_24 : (((Fn 120) i44).toInt : Int) = v0.toInt := congrArg Int32.toInt c_24
                    refine lv_iload hx hb dX11_cheat_131 (lv_at hl 2 rfl) ?_
                    refine lv_if_eq (tgt := 140) hx hb dX11_cheat_133 (by decide) (fun _ => ?_) (fun h => absurd h (by decide))
                    refine lv_iconst (v := 0) hx hb dX11_cheat_140 (by decide) ?_
                    refine lv_iadd hx hb dX11_cheat_141 ?_
                    refine lv_topi (fun y_26 ey_26 => ?_)
                    obtain rfl : y_26 = (nI (n5 + 0)) := ey_26.trans (nI_add n5 0)
                    refine lv_istore (lv' := [(6, .int (nI (n5 + 0))), (5, .int (nI (n4 + 1))), (4, .int (nI (n3 + 0))), (9, .int 0), (8, .ref (ad 11 i44)), (7, .int (nI i44)), (0, .ref (g 0)), (1, .int v0), (2, .int v1), (3, .int v2)]) hx hb dX11_cheat_142 hl (by decide) rfl (fun ls hl => ?_)
                    refine lv_iinc (v := (nI (i44 + 1))) (lv' := [(7, .int (nI (i44 + 1))), (6, .int (nI (n5 + 0))), (5, .int (nI (n4 + 1))), (4, .int (nI (n3 + 0))), (9, .int 0), (8, .ref (ad 11 i44)), (0, .ref (g 0)), (1, .int v0), (2, .int v1), (3, .int v2)]) hx hb dX11_cheat_144 hl (k := 5) rfl (nI_1 _) (by decide) rfl (fun ls hl => ?_)
                    refine lv_goto (tgt := 44) hx hb dX11_cheat_147 (by decide) ?_
                    exact ih44 (i44 + 1) (n3 + 0) (n4 + 1) (n5 + 0) (by omega) ⟨(by omega), ⟨by omega, by omega, by omega, by omega⟩, (sN_n hx44_1 (if_neg (fun q9 => by omega))), (sN_y hx44_2 (if_pos (by assumption))), (sN_n hx44_3 (if_neg (fun q9 => by first | omega | exact absurd q9 (by assumption) | exact absurd q9.1 (by assumption) | (have q8 := q9.2; omega))))⟩ ls (lv_sub hl [0, 1, 2, 3, 6, 7, 8, 9] rfl)
              ·
                have tc_16 : (v1.toInt : Int) ≤ ((Fn 123) i44).toInt := Int32.le_iff_toInt_le.mp (Int32.not_lt.mp c_16)
                refine lv_iconst (v := 1) hx hb dX11_cheat_79 (by decide) ?_
                refine lv_goto (tgt := 84) hx hb dX11_cheat_80 (by decide) ?_
                refine lv_istore (lv' := [(9, .int 1), (8, .ref (ad 11 i44)), (7, .int (nI i44)), (6, .int (nI n5)), (5, .int (nI n4)), (4, .int (nI n3)), (0, .ref (g 0)), (1, .int v0), (2, .int v1), (3, .int v2)]) hx hb dX11_cheat_84 hl (by decide) rfl (fun ls hl => ?_)
                refine lv_iload hx hb dX11_cheat_86 (lv_at hl 5 rfl) ?_
                refine lv_iload hx hb dX11_cheat_88 (lv_at hl 0 rfl) ?_
                refine lv_if_eq (tgt := 97) hx hb dX11_cheat_90 (by decide) (fun h => absurd h (by decide)) (fun _ => ?_)
                refine lv_iconst (v := 1) hx hb dX11_cheat_93 (by decide) ?_
                refine lv_goto (tgt := 98) hx hb dX11_cheat_94 (by decide) ?_
                refine lv_iadd hx hb dX11_cheat_98 ?_
                refine lv_topi (fun y_27 ey_27 => ?_)
                obtain rfl : y_27 = (nI (n3 + 1)) := ey_27.trans (nI_add n3 1)
                refine lv_istore (lv' := [(4, .int (nI (n3 + 1))), (9, .int 1), (8, .ref (ad 11 i44)), (7, .int (nI i44)), (6, .int (nI n5)), (5, .int (nI n4)), (0, .ref (g 0)), (1, .int v0), (2, .int v1), (3, .int v2)]) hx hb dX11_cheat_99 hl (by decide) rfl (fun ls hl => ?_)
                refine lv_iload hx hb dX11_cheat_101 (lv_at hl 5 rfl) ?_
                refine lv_aload hx hb dX11_cheat_103 (lv_at hl 2 rfl) ?_
                refine gf_RX11_211 S hK hP _ (xf_1 (by omega)) (v := .int ((Fn 120) i44)) rfl dX11_cheat_105 ?_
                refine lv_iload_n hx hb dX11_cheat_108 rfl (lv_at hl 7 rfl) ?_
                refine lv_icmp_ne (tgt := 116) hx hb dX11_cheat_109 (by decide) (fun c_28 => ?_) (fun c_28 => ?_)
                ·
                  have tc_28 : (((Fn 120) i44).toInt : Int) ≠ v0.toInt := fun q => c_28 (Int32.toInt_inj.mp q)
                  refine lv_iconst (v := 0) hx hb dX11_cheat_116 (by decide) ?_
                  refine lv_iadd hx hb dX11_cheat_117 ?_
                  refine lv_topi (fun y_29 ey_29 => ?_)
                  obtain rfl : y_29 = (nI (n4 + 0)) := ey_29.trans (nI_add n4 0)
                  refine lv_istore (lv' := [(5, .int (nI (n4 + 0))), (4, .int (nI (n3 + 1))), (9, .int 1), (8, .ref (ad 11 i44)), (7, .int (nI i44)), (6, .int (nI n5)), (0, .ref (g 0)), (1, .int v0), (2, .int v1), (3, .int v2)]) hx hb dX11_cheat_118 hl (by decide) rfl (fun ls hl => ?_)
                  refine lv_iload hx hb dX11_cheat_120 (lv_at hl 5 rfl) ?_
                  refine lv_aload hx hb dX11_cheat_122 (lv_at hl 3 rfl) ?_
                  refine gf_RX11_211 S hK hP _ (xf_1 (by omega)) (v := .int ((Fn 120) i44)) rfl dX11_cheat_124 ?_
                  refine lv_iload_n hx hb dX11_cheat_127 rfl (lv_at hl 7 rfl) ?_
                  refine lv_icmp_ne (tgt := 140) hx hb dX11_cheat_128 (by decide) (fun c_30 => ?_) (fun c_30 => ?_)
                  ·
                    have tc_30 : (((Fn 120) i44).toInt : Int) ≠ v0.toInt := fun q => c_30 (Int32.toInt_inj.mp q)
                    refine lv_iconst (v := 0) hx hb dX11_cheat_140 (by decide) ?_
                    refine lv_iadd hx hb dX11_cheat_141 ?_
                    refine lv_topi (fun y_31 ey_31 => ?_)
                    obtain rfl : y_31 = (nI (n5 + 0)) := ey_31.trans (nI_add n5 0)
                    refine lv_istore (lv' := [(6, .int (nI (n5 + 0))), (5, .int (nI (n4 + 0))), (4, .int (nI (n3 + 1))), (9, .int 1), (8, .ref (ad 11 i44)), (7, .int (nI i44)), (0, .ref (g 0)), (1, .int v0), (2, .int v1), (3, .int v2)]) hx hb dX11_cheat_142 hl (by decide) rfl (fun ls hl => ?_)
                    refine lv_iinc (v := (nI (i44 + 1))) (lv' := [(7, .int (nI (i44 + 1))), (6, .int (nI (n5 + 0))), (5, .int (nI (n4 + 0))), (4, .int (nI (n3 + 1))), (9, .int 1), (8, .ref (ad 11 i44)), (0, .ref (g 0)), (1, .int v0), (2, .int v1), (3, .int v2)]) hx hb dX11_cheat_144 hl (k := 5) rfl (nI_1 _) (by decide) rfl (fun ls hl => ?_)
                    refine lv_goto (tgt := 44) hx hb dX11_cheat_147 (by decide) ?_
                    exact ih44 (i44 + 1) (n3 + 1) (n4 + 0) (n5 + 0) (by omega) ⟨(by omega), ⟨by omega, by omega, by omega, by omega⟩, (sN_y hx44_1 (if_pos (by omega))), (sN_n hx44_2 (if_neg (fun q9 => by exact absurd q9 (by assumption)))), (sN_n hx44_3 (if_neg (fun q9 => by first | omega | exact absurd q9 (by assumption) | exact absurd q9.1 (by assumption) | (have q8 := q9.2; omega))))⟩ ls (lv_sub hl [0, 1, 2, 3, 6, 7, 8, 9] rfl)
                  ·
                    have tc_30 : (((Fn 120) i44).toInt : Int) = v0.toInt := congrArg Int32.toInt c_30
                    refine lv_iload hx hb dX11_cheat_131 (lv_at hl 2 rfl) ?_
                    refine lv_if_eq (tgt := 140) hx hb dX11_cheat_133 (by decide) (fun h => absurd h (by decide)) (fun _ => ?_)
                    refine lv_iconst (v := 1) hx hb dX11_cheat_136 (by decide) ?_
                    refine lv_goto (tgt := 141) hx hb dX11_cheat_137 (by decide) ?_
                    refine lv_iadd hx hb dX11_cheat_141 ?_
                    refine lv_topi (fun y_32 ey_32 => ?_)
                    obtain rfl : y_32 = (nI (n5 + 1)) := ey_32.trans (nI_add n5 1)
                    refine lv_istore (lv' := [(6, .int (nI (n5 + 1))), (5, .int (nI (n4 + 0))), (4, .int (nI (n3 + 1))), (9, .int 1), (8, .ref (ad 11 i44)), (7, .int (nI i44)), (0, .ref (g 0)), (1, .int v0), (2, .int v1), (3, .int v2)]) hx hb dX11_cheat_142 hl (by decide) rfl (fun ls hl => ?_)
                    refine lv_iinc (v := (nI (i44 + 1))) (lv' := [(7, .int (nI (i44 + 1))), (6, .int (nI (n5 + 1))), (5, .int (nI (n4 + 0))), (4, .int (nI (n3 + 1))), (9, .int 1), (8, .ref (ad 11 i44)), (0, .ref (g 0)), (1, .int v0), (2, .int v1), (3, .int v2)]) hx hb dX11_cheat_144 hl (k := 5) rfl (nI_1 _) (by decide) rfl (fun ls hl => ?_)
                    refine lv_goto (tgt := 44) hx hb dX11_cheat_147 (by decide) ?_
                    exact ih44 (i44 + 1) (n3 + 1) (n4 + 0) (n5 + 1) (by omega) ⟨(by omega), ⟨by omega, by omega, by omega, by omega⟩, (sN_y hx44_1 (if_pos (by omega))), (sN_n hx44_2 (if_neg (fun q9 => by exact absurd q9 (by assumption)))), (sN_y hx44_3 (if_pos ⟨by assumption, by omega⟩))⟩ ls (lv_sub hl [0, 1, 2, 3, 6, 7, 8, 9] rfl)
                ·
                  have tc_28 : (((Fn 120) i44).toInt : Int) = v0.toInt := congrArg Int32.toInt c_28
                  refine lv_iconst (v := 1) hx hb dX11_cheat_112 (by decide) ?_
                  refine lv_goto (tgt := 117) hx hb dX11_cheat_113 (by decide) ?_
                  refine lv_iadd hx hb dX11_cheat_117 ?_
                  refine lv_topi (fun y_33 ey_33 => ?_)
                  obtain rfl : y_33 = (nI (n4 + 1)) := ey_33.trans (nI_add n4 1)
                  refine lv_istore (lv' := [(5, .int (nI (n4 + 1))), (4, .int (nI (n3 + 1))), (9, .int 1), (8, .ref (ad 11 i44)), (7, .int (nI i44)), (6, .int (nI n5)), (0, .ref (g 0)), (1, .int v0), (2, .int v1), (3, .int v2)]) hx hb dX11_cheat_118 hl (by decide) rfl (fun ls hl => ?_)
                  refine lv_iload hx hb dX11_cheat_120 (lv_at hl 5 rfl) ?_
                  refine lv_aload hx hb dX11_cheat_122 (lv_at hl 3 rfl) ?_
                  refine gf_RX11_211 S hK hP _ (xf_1 (by omega)) (v := .int ((Fn 120) i44)) rfl dX11_cheat_124 ?_
                  refine lv_iload_n hx hb dX11_cheat_127 rfl (lv_at hl 7 rfl) ?_
                  refine lv_icmp_ne (tgt := 140) hx hb dX11_cheat_128 (by decide) (fun c_34 => ?_) (fun c_34 => ?_)
                  ·
                    have tc_34 : (((Fn 120) i44).toInt : Int) ≠ v0.toInt := fun q => c_34 (Int32.toInt_inj.mp q)
                    refine lv_iconst (v := 0) hx hb dX11_cheat_140 (by decide) ?_
                    refine lv_iadd hx hb dX11_cheat_141 ?_
                    refine lv_topi (fun y_35 ey_35 => ?_)
                    obtain rfl : y_35 = (nI (n5 + 0)) := ey_35.trans (nI_add n5 0)
                    refine lv_istore (lv' := [(6, .int (nI (n5 + 0))), (5, .int (nI (n4 + 1))), (4, .int (nI (n3 + 1))), (9, .int 1), (8, .ref (ad 11 i44)), (7, .int (nI i44)), (0, .ref (g 0)), (1, .int v0), (2, .int v1), (3, .int v2)]) hx hb dX11_cheat_142 hl (by decide) rfl (fun ls hl => ?_)
                    refine lv_iinc (v := (nI (i44 + 1))) (lv' := [(7, .int (nI (i44 + 1))), (6, .int (nI (n5 + 0))), (5, .int (nI (n4 + 1))), (4, .int (nI (n3 + 1))), (9, .int 1), (8, .ref (ad 11 i44)), (0, .ref (g 0)), (1, .int v0), (2, .int v1), (3, .int v2)]) hx hb dX11_cheat_144 hl (k := 5) rfl (nI_1 _) (by decide) rfl (fun ls hl => ?_)
                    refine lv_goto (tgt := 44) hx hb dX11_cheat_147 (by decide) ?_
                    exact ih44 (i44 + 1) (n3 + 1) (n4 + 1) (n5 + 0) (by omega) ⟨(by omega), ⟨by omega, by omega, by omega, by omega⟩, (sN_y hx44_1 (if_pos (by omega))), (sN_y hx44_2 (if_pos (by assumption))), (sN_n hx44_3 (if_neg (fun q9 => by first | omega | exact absurd q9 (by assumption) | exact absurd q9.1 (by assumption) | (have q8 := q9.2; omega))))⟩ ls (lv_sub hl [0, 1, 2, 3, 6, 7, 8, 9] rfl)
                  ·
                    have tc_34 : (((Fn 120) i44).toInt : Int) = v0.toInt := congrArg Int32.toInt c_34
                    refine lv_iload hx hb dX11_cheat_131 (lv_at hl 2 rfl) ?_
                    refine lv_if_eq (tgt := 140) hx hb dX11_cheat_133 (by decide) (fun h => absurd h (by decide)) (fun _ => ?_)
                    refine lv_iconst (v := 1) hx hb dX11_cheat_136 (by decide) ?_
                    refine lv_goto (tgt := 141) hx hb dX11_cheat_137 (by decide) ?_
                    refine lv_iadd hx hb dX11_cheat_141 ?_
                    refine lv_topi (fun y_36 ey_36 => ?_)
                    obtain rfl : y_36 = (nI (n5 + 1)) := ey_36.trans (nI_add n5 1)
                    refine lv_istore (lv' := [(6, .int (nI (n5 + 1))), (5, .int (nI (n4 + 1))), (4, .int (nI (n3 + 1))), (9, .int 1), (8, .ref (ad 11 i44)), (7, .int (nI i44)), (0, .ref (g 0)), (1, .int v0), (2, .int v1), (3, .int v2)]) hx hb dX11_cheat_142 hl (by decide) rfl (fun ls hl => ?_)
                    refine lv_iinc (v := (nI (i44 + 1))) (lv' := [(7, .int (nI (i44 + 1))), (6, .int (nI (n5 + 1))), (5, .int (nI (n4 + 1))), (4, .int (nI (n3 + 1))), (9, .int 1), (8, .ref (ad 11 i44)), (0, .ref (g 0)), (1, .int v0), (2, .int v1), (3, .int v2)]) hx hb dX11_cheat_144 hl (k := 5) rfl (nI_1 _) (by decide) rfl (fun ls hl => ?_)
                    refine lv_goto (tgt := 44) hx hb dX11_cheat_147 (by decide) ?_
                    exact ih44 (i44 + 1) (n3 + 1) (n4 + 1) (n5 + 1) (by omega) ⟨(by omega), ⟨by omega, by omega, by omega, by omega⟩, (sN_y hx44_1 (if_pos (by omega))), (sN_y hx44_2 (if_pos (by assumption))), (sN_y hx44_3 (if_pos ⟨by assumption, by omega⟩))⟩ ls (lv_sub hl [0, 1, 2, 3, 6, 7, 8, 9] rfl)
        exact lp_44 _ 0 0 0 0 (Nat.lt_succ_self _) ⟨(by omega), ⟨by omega, by omega, by omega, by omega⟩, rfl, rfl, rfl⟩ ls (lv_sub hl [0, 1, 2, 3, 4, 5, 6, 7] rfl)
      ·
        have h_6 : ¬ (0 ≤ v2.toInt ∧ v2.toInt ≤ 2) := h_6
        refine lv_if_ne (tgt := 32) hx hb dX11_cheat_25 (by decide) (fun h => absurd h (by decide)) (fun _ => ?_)
        refine lv_ldc2 (v := (-1)) hx hb hown (S.2.2.2.2 _ (wT_tab 781 rfl rfl)) dX11_cheat_28 ?_
        exact W.lret (v := (-1)) hx hb hr (fun t ht hW => ⟨(-1), rfl, (Or.inr ⟨by omega, rfl⟩), ht⟩) (fun _ h => absurd h List.not_mem_nil) dX11_cheat_31
    ·
      have h_4 : ¬ (0 ≤ v1.toInt ∧ v1.toInt ≤ 1000) := h_4
      refine lv_if_eq (tgt := 28) hx hb dX11_cheat_16 (by decide) (fun _ => ?_) (fun h => absurd h (by decide))
      refine lv_ldc2 (v := (-1)) hx hb hown (S.2.2.2.2 _ (wT_tab 781 rfl rfl)) dX11_cheat_28 ?_
      exact W.lret (v := (-1)) hx hb hr (fun t ht hW => ⟨(-1), rfl, (Or.inr ⟨by omega, rfl⟩), ht⟩) (fun _ h => absurd h List.not_mem_nil) dX11_cheat_31
  ·
    refine lv_ifnullN (tgt := 28) hx hb dX11_cheat_5 (by decide) ?_
    refine lv_ldc2 (v := (-1)) hx hb hown (S.2.2.2.2 _ (wT_tab 781 rfl rfl)) dX11_cheat_28 ?_
    exact W.lret (v := (-1)) hx hb hr (fun t ht hW => ⟨(-1), rfl, (Or.inr ⟨by omega, rfl⟩), ht⟩) (fun _ h => absurd h List.not_mem_nil) dX11_cheat_31
set_option maxRecDepth 100000 in
set_option maxHeartbeats 4000000 in
theorem q_cheat9 (l : Launch) (D : va_G) (cI cB cZ : ClassId) (g : Nat → Nat) (cn : Nat → Nat) (In : Nat → Int32) (Fn : Nat → Nat → Int32) (v0 v1 v2 : Int32) (hI : IM cn Fn) : Met l yX12_cheat (CWS yX12_cheat cX12_cheat 9 (some .long)) (RM 2 0 0) (PBr [.ref (g 100), .int v0, .int v1, .int v2] D cI cB cZ (wM cI cB cZ g cn In Fn)) (vp_Sl (fun r => ((0 ≤ v0.toInt ∧ v0.toInt < (cn 1 : Int) ∧ 0 ≤ v1.toInt ∧ v1.toInt ≤ 1000 ∧ 0 ≤ v2.toInt ∧ v2.toInt ≤ 2) ∧ ODM (sN (fun i9 => if v1.toInt ≤ ((Fn 11) i9).toInt then 1 else 0) (cn 2)) (sN (fun i9 => if (Fn 8) i9 = v0 then 1 else 0) (cn 2)) (sN (fun i9 => if (Fn 8) i9 = v0 ∧ v1.toInt ≤ ((Fn 11) i9).toInt then 1 else 0) (cn 2)) (cn 2) v2 r) ∨ (¬ (0 ≤ v0.toInt ∧ v0.toInt < (cn 1 : Int) ∧ 0 ≤ v1.toInt ∧ v1.toInt ≤ 1000 ∧ 0 ≤ v2.toInt ∧ v2.toInt ≤ 2) ∧ r = -1))) 0 0 (fun _ => False) := by
  refine Met.ofW (cc := cX12_cheat) (maxL := 9) (ret := (some .long)) (by decide) rfl ?_
  intro p e s m args below meth c s₁ B hml hv
  obtain ⟨rfl, hP, hK⟩ := hv
  have hx := B.exec
  have hb := B.bytes
  have hr := B.returns
  have hts := atoms_spec (ws := (CWS yX12_cheat cX12_cheat 9 (some .long))) B.pre
  have hown : s.vm.findClass RX12 = some m.cls := findClass_of_methodNamed B.named
  have hlocks := B.notSynchronized
  have S : SF p m c cX12_cheat 9 s ([.ref (g 100), .int v0, .int v1, .int v2]).toArray RX12 := ⟨hx, hb, hml, hown, fun w h => hts w (List.mem_cons_of_mem _ h)⟩
  have hl := lv_entry ([.ref (g 100), .int v0, .int v1, .int v2]) (n := 9) (Nat.le_of_ble_eq_true rfl)
  rw [lg_entry_eq]
  generalize (lg_sl ([.ref (g 100), .int v0, .int v1, .int v2]) ++ List.replicate (9 - (lg_sl ([.ref (g 100), .int v0, .int v1, .int v2])).length) Slot.unset).toArray = ls at hl ⊢
  have hl : lv_has ls 9 [(0, .ref (g 100)), (1, .int v0), (2, .int v1), (3, .int v2)] := hl
  have hi_cn := hI.b
  refine lv_aload_n hx hb dX12_cheat_0 rfl (lv_at hl 0 rfl) ?_
  refine lv_iload_n hx hb dX12_cheat_1 rfl (lv_at hl 1 rfl) ?_
  refine vp_callSi (runV_ra (As := [.int v0]) (rest := []) S (q_isKitchen l D cI cB cZ g cn In Fn v0 hI) kV_RX12_218 hK hP 0 rfl rfl rfl ⟨Nat.le_of_ble_eq_true rfl, Nat.le_of_ble_eq_true rfl⟩ ⟨Nat.le_of_ble_eq_true rfl, Nat.le_of_ble_eq_true rfl⟩ rfl hl.1 rfl (Nat.le_of_ble_eq_true rfl) dX12_cheat_2) (fun r_1 h_2 => ?_)
  rcases h_2 with ⟨rfl, h_2⟩ | ⟨rfl, h_2⟩
  ·
    have h_2 : 0 ≤ v0.toInt ∧ v0.toInt < ((cn 1) : Int) := h_2
    refine lv_if_eq (tgt := 28) hx hb dX12_cheat_5 (by decide) (fun h => absurd h (by decide)) (fun _ => ?_)
    refine lv_iload_n hx hb dX12_cheat_8 rfl (lv_at hl 2 rfl) ?_
    refine lv_iconst (v := 0) hx hb dX12_cheat_9 (by decide) ?_
    refine lv_sipush (v := 1000) hx hb dX12_cheat_10 (by decide) ?_
    refine vp_callSi (runS_r (As := [.int v1, .int 0, .int 1000]) (rest := []) S (q_in l D cI cB cZ v1 0 1000 ) kS_RX12_214 hK hP [] rfl ⟨Nat.le_of_ble_eq_true rfl, Nat.le_of_ble_eq_true rfl⟩ ⟨Nat.le_of_ble_eq_true rfl, Nat.le_of_ble_eq_true rfl⟩ rfl hl.1 rfl (Nat.le_of_ble_eq_true rfl) dX12_cheat_13) (fun r_3 h_4 => ?_)
    rcases h_4 with ⟨rfl, h_4⟩ | ⟨rfl, h_4⟩
    ·
      have h_4 : 0 ≤ v1.toInt ∧ v1.toInt ≤ 1000 := h_4
      refine lv_if_eq (tgt := 28) hx hb dX12_cheat_16 (by decide) (fun h => absurd h (by decide)) (fun _ => ?_)
      refine lv_iload_n hx hb dX12_cheat_19 rfl (lv_at hl 3 rfl) ?_
      refine lv_iconst (v := 0) hx hb dX12_cheat_20 (by decide) ?_
      refine lv_iconst (v := 2) hx hb dX12_cheat_21 (by decide) ?_
      refine vp_callSi (runS_r (As := [.int v2, .int 0, .int 2]) (rest := []) S (q_in l D cI cB cZ v2 0 2 ) kS_RX12_214 hK hP [] rfl ⟨Nat.le_of_ble_eq_true rfl, Nat.le_of_ble_eq_true rfl⟩ ⟨Nat.le_of_ble_eq_true rfl, Nat.le_of_ble_eq_true rfl⟩ rfl hl.1 rfl (Nat.le_of_ble_eq_true rfl) dX12_cheat_22) (fun r_5 h_6 => ?_)
      rcases h_6 with ⟨rfl, h_6⟩ | ⟨rfl, h_6⟩
      ·
        have h_6 : 0 ≤ v2.toInt ∧ v2.toInt ≤ 2 := h_6
        refine lv_if_ne (tgt := 32) hx hb dX12_cheat_25 (by decide) (fun _ => ?_) (fun h => absurd h (by decide))
        refine lv_iconst (v := 0) hx hb dX12_cheat_32 (by decide) ?_
        refine lv_istore (lv' := [(4, .int 0), (0, .ref (g 100)), (1, .int v0), (2, .int v1), (3, .int v2)]) hx hb dX12_cheat_33 hl (by decide) rfl (fun ls hl => ?_)
        refine lv_iconst (v := 0) hx hb dX12_cheat_35 (by decide) ?_
        refine lv_istore (lv' := [(5, .int 0), (4, .int 0), (0, .ref (g 100)), (1, .int v0), (2, .int v1), (3, .int v2)]) hx hb dX12_cheat_36 hl (by decide) rfl (fun ls hl => ?_)
        refine lv_iconst (v := 0) hx hb dX12_cheat_38 (by decide) ?_
        refine lv_istore (lv' := [(6, .int 0), (5, .int 0), (4, .int 0), (0, .ref (g 100)), (1, .int v0), (2, .int v1), (3, .int v2)]) hx hb dX12_cheat_39 hl (by decide) rfl (fun ls hl => ?_)
        refine lv_iconst (v := 0) hx hb dX12_cheat_41 (by decide) ?_
        refine lv_istore (lv' := [(7, .int 0), (6, .int 0), (5, .int 0), (4, .int 0), (0, .ref (g 100)), (1, .int v0), (2, .int v1), (3, .int v2)]) hx hb dX12_cheat_42 hl (by decide) rfl (fun ls hl => ?_)
        have lp_44 : ∀ (n : Nat) (i44 : Nat) (n3 : Nat) (n4 : Nat) (n5 : Nat) , cn 2 - i44 < n → (i44 ≤ cn 2 ∧ (n3 ≤ i44 ∧ n4 ≤ i44 ∧ n5 ≤ n3 ∧ n5 ≤ n4) ∧ (n3 = sN (fun i9 => if v1.toInt ≤ ((Fn 11) i9).toInt then 1 else 0) i44) ∧ (n4 = sN (fun i9 => if (Fn 8) i9 = v0 then 1 else 0) i44) ∧ (n5 = sN (fun i9 => if (Fn 8) i9 = v0 ∧ v1.toInt ≤ ((Fn 11) i9).toInt then 1 else 0) i44)) → ∀ ls : Array Slot, lv_has ls 9 [(7, .int (nI i44)), (6, .int (nI n5)), (5, .int (nI n4)), (4, .int (nI n3)), (0, .ref (g 100)), (1, .int v0), (2, .int v1), (3, .int v2)] → W p l e (RM 2 0 0) s m ([.ref (g 100), .int v0, .int v1, .int v2]).toArray below meth c s.heap [] 0 0 (MQ below (vp_Sl (fun r => ((0 ≤ v0.toInt ∧ v0.toInt < (cn 1 : Int) ∧ 0 ≤ v1.toInt ∧ v1.toInt ≤ 1000 ∧ 0 ≤ v2.toInt ∧ v2.toInt ≤ 2) ∧ ODM (sN (fun i9 => if v1.toInt ≤ ((Fn 11) i9).toInt then 1 else 0) (cn 2)) (sN (fun i9 => if (Fn 8) i9 = v0 then 1 else 0) (cn 2)) (sN (fun i9 => if (Fn 8) i9 = v0 ∧ v1.toInt ≤ ((Fn 11) i9).toInt then 1 else 0) (cn 2)) (cn 2) v2 r) ∨ (¬ (0 ≤ v0.toInt ∧ v0.toInt < (cn 1 : Int) ∧ 0 ≤ v1.toInt ∧ v1.toInt ≤ 1000 ∧ 0 ≤ v2.toInt ∧ v2.toInt ≤ 2) ∧ r = -1))) ([.ref (g 100), .int v0, .int v1, .int v2]).toArray s 0 0 (fun _ => False)) (F0 m 44 ls []) := by
          intro n44
          induction n44 with
          | zero => intros; omega
          | succ n44 ih44 =>
            intro i44 n3 n4 n5 hmu44 hinv44 ls hl
            obtain ⟨hr44, hx44_0, hx44_1, hx44_2, hx44_3⟩ := hinv44
            have ti44 : (nI i44).toInt = (i44 : Int) := nI_toInt (by omega)
            refine lv_iload hx hb dX12_cheat_44 (lv_at hl 0 rfl) ?_
            refine lv_aload_n hx hb dX12_cheat_46 rfl (lv_at hl 4 rfl) ?_
            refine gM_208 S hK hP (v := .int (nI (cn 2))) rfl dX12_cheat_47 ?_
            have : (nI (cn 2)).toInt = (((cn 2) : Nat) : Int) := nI_toInt (by omega)
            refine lv_icmp_ge (tgt := 139) hx hb dX12_cheat_50 (by decide) (fun c_7 => ?_) (fun c_7 => ?_)
            ·
              have tc_7 : ((nI (cn 2)).toInt : Int) ≤ (nI i44).toInt := Int32.le_iff_toInt_le.mp c_7
              refine lv_aload_n hx hb dX12_cheat_139 rfl (lv_at hl 4 rfl) ?_
              refine lv_iload hx hb dX12_cheat_140 (lv_at hl 3 rfl) ?_
              refine lv_iload hx hb dX12_cheat_142 (lv_at hl 2 rfl) ?_
              refine lv_iload hx hb dX12_cheat_144 (lv_at hl 1 rfl) ?_
              refine lv_iload_n hx hb dX12_cheat_146 rfl (lv_at hl 7 rfl) ?_
              refine vp_callSl (runV_ra (As := [.int (nI n3), .int (nI n4), .int (nI n5), .int v2]) (rest := []) S (q_byLot9 l D cI cB cZ g cn In Fn n3 n4 n5 v2 hI (by omega) (by omega) (by omega)) kV_RX12_353 hK hP 0 rfl rfl rfl ⟨Nat.le_of_ble_eq_true rfl, Nat.le_of_ble_eq_true rfl⟩ ⟨Nat.le_of_ble_eq_true rfl, Nat.le_of_ble_eq_true rfl⟩ rfl hl.1 rfl (Nat.le_of_ble_eq_true rfl) dX12_cheat_147) (fun r_8 h_9 => ?_)
              exact W.lret (v := r_8) hx hb hr (fun t ht hW => ⟨r_8, rfl, (Or.inl ⟨by omega, by have e9 : i44 = cn 2 := (by omega); have h9 := h_9; rw [hx44_1, hx44_2, hx44_3, e9] at h9; exact h9⟩), ht⟩) (fun _ h => absurd h List.not_mem_nil) dX12_cheat_150
            ·
              have tc_7 : ((nI i44).toInt : Int) < (nI (cn 2)).toInt := Int32.lt_iff_toInt_lt.mp (Int32.not_le.mp c_7)
              refine lv_aload_n hx hb dX12_cheat_53 rfl (lv_at hl 4 rfl) ?_
              refine gM_34 S hK hP (v := .ref (g 11)) rfl dX12_cheat_54 ?_
              refine lv_iload hx hb dX12_cheat_57 (lv_at hl 0 rfl) ?_
              refine ldM_11 hx hb hK hP (x := ((Fn 11) i44)) (vp_in_nI (by omega) (by decide)) (nI_clamp (by omega)) rfl dX12_cheat_59 ?_
              refine lv_iload_n hx hb dX12_cheat_60 rfl (lv_at hl 6 rfl) ?_
              refine lv_icmp_lt (tgt := 68) hx hb dX12_cheat_61 (by decide) (fun c_10 => ?_) (fun c_10 => ?_)
              ·
                have tc_10 : (((Fn 11) i44).toInt : Int) < v1.toInt := Int32.lt_iff_toInt_lt.mp c_10
                refine lv_iconst (v := 0) hx hb dX12_cheat_68 (by decide) ?_
                refine lv_istore (lv' := [(8, .int 0), (7, .int (nI i44)), (6, .int (nI n5)), (5, .int (nI n4)), (4, .int (nI n3)), (0, .ref (g 100)), (1, .int v0), (2, .int v1), (3, .int v2)]) hx hb dX12_cheat_69 hl (by decide) rfl (fun ls hl => ?_)
                refine lv_iload hx hb dX12_cheat_71 (lv_at hl 4 rfl) ?_
                refine lv_iload hx hb dX12_cheat_73 (lv_at hl 0 rfl) ?_
                refine lv_if_eq (tgt := 82) hx hb dX12_cheat_75 (by decide) (fun _ => ?_) (fun h => absurd h (by decide))
                refine lv_iconst (v := 0) hx hb dX12_cheat_82 (by decide) ?_
                refine lv_iadd hx hb dX12_cheat_83 ?_
                refine lv_topi (fun y_11 ey_11 => ?_)
                obtain rfl : y_11 = (nI (n3 + 0)) := ey_11.trans (nI_add n3 0)
                refine lv_istore (lv' := [(4, .int (nI (n3 + 0))), (8, .int 0), (7, .int (nI i44)), (6, .int (nI n5)), (5, .int (nI n4)), (0, .ref (g 100)), (1, .int v0), (2, .int v1), (3, .int v2)]) hx hb dX12_cheat_84 hl (by decide) rfl (fun ls hl => ?_)
                refine lv_iload hx hb dX12_cheat_86 (lv_at hl 4 rfl) ?_
                refine lv_aload_n hx hb dX12_cheat_88 rfl (lv_at hl 5 rfl) ?_
                refine gM_25 S hK hP (v := .ref (g 8)) rfl dX12_cheat_89 ?_
                refine lv_iload hx hb dX12_cheat_92 (lv_at hl 2 rfl) ?_
                obtain ⟨a_12, ha_12, ea_12⟩ := hI.e8 i44 (by omega)
                refine ldM_8 hx hb hK hP (x := (nI a_12)) (vp_in_nI (by omega) (by decide)) (nI_clamp (by omega)) ea_12 dX12_cheat_94 ?_
                refine lv_iload_n hx hb dX12_cheat_95 rfl (lv_at hl 6 rfl) ?_
                have : (nI a_12).toInt = ((a_12 : Nat) : Int) := nI_toInt (by omega)
                refine lv_icmp_ne (tgt := 103) hx hb dX12_cheat_96 (by decide) (fun c_13 => ?_) (fun c_13 => ?_)
                ·
                  have tc_13 : ((nI a_12).toInt : Int) ≠ v0.toInt := fun q => c_13 (Int32.toInt_inj.mp q)
                  refine lv_iconst (v := 0) hx hb dX12_cheat_103 (by decide) ?_
                  refine lv_iadd hx hb dX12_cheat_104 ?_
                  refine lv_topi (fun y_14 ey_14 => ?_)
                  obtain rfl : y_14 = (nI (n4 + 0)) := ey_14.trans (nI_add n4 0)
                  refine lv_istore (lv' := [(5, .int (nI (n4 + 0))), (4, .int (nI (n3 + 0))), (8, .int 0), (7, .int (nI i44)), (6, .int (nI n5)), (0, .ref (g 100)), (1, .int v0), (2, .int v1), (3, .int v2)]) hx hb dX12_cheat_105 hl (by decide) rfl (fun ls hl => ?_)
                  refine lv_iload hx hb dX12_cheat_107 (lv_at hl 4 rfl) ?_
                  refine lv_iload hx hb dX12_cheat_109 (lv_at hl 2 rfl) ?_
                  refine lv_if_eq (tgt := 129) hx hb dX12_cheat_111 (by decide) (fun _ => ?_) (fun h => absurd h (by decide))
                  refine lv_iconst (v := 0) hx hb dX12_cheat_129 (by decide) ?_
                  refine lv_iadd hx hb dX12_cheat_130 ?_
                  refine lv_topi (fun y_15 ey_15 => ?_)
                  obtain rfl : y_15 = (nI (n5 + 0)) := ey_15.trans (nI_add n5 0)
                  refine lv_istore (lv' := [(6, .int (nI (n5 + 0))), (5, .int (nI (n4 + 0))), (4, .int (nI (n3 + 0))), (8, .int 0), (7, .int (nI i44)), (0, .ref (g 100)), (1, .int v0), (2, .int v1), (3, .int v2)]) hx hb dX12_cheat_131 hl (by decide) rfl (fun ls hl => ?_)
                  refine lv_iinc (v := (nI (i44 + 1))) (lv' := [(7, .int (nI (i44 + 1))), (6, .int (nI (n5 + 0))), (5, .int (nI (n4 + 0))), (4, .int (nI (n3 + 0))), (8, .int 0), (0, .ref (g 100)), (1, .int v0), (2, .int v1), (3, .int v2)]) hx hb dX12_cheat_133 hl (k := 4) rfl (nI_1 _) (by decide) rfl (fun ls hl => ?_)
                  refine lv_goto (tgt := 44) hx hb dX12_cheat_136 (by decide) ?_
                  exact ih44 (i44 + 1) (n3 + 0) (n4 + 0) (n5 + 0) (by omega) ⟨(by omega), ⟨by omega, by omega, by omega, by omega⟩, (sN_n hx44_1 (if_neg (fun q9 => by omega))), (sN_n hx44_2 (if_neg (fun q9 => by exact absurd q9 (by assumption)))), (sN_n hx44_3 (if_neg (fun q9 => by first | omega | exact absurd q9 (by assumption) | exact absurd q9.1 (by assumption) | (have q8 := q9.2; omega))))⟩ ls (lv_sub hl [0, 1, 2, 3, 5, 6, 7, 8] rfl)
                ·
                  have tc_13 : ((nI a_12).toInt : Int) = v0.toInt := congrArg Int32.toInt c_13
                  refine lv_iconst (v := 1) hx hb dX12_cheat_99 (by decide) ?_
                  refine lv_goto (tgt := 104) hx hb dX12_cheat_100 (by decide) ?_
                  refine lv_iadd hx hb dX12_cheat_104 ?_
                  refine lv_topi (fun y_16 ey_16 => ?_)
                  obtain rfl : y_16 = (nI (n4 + 1)) := ey_16.trans (nI_add n4 1)
                  refine lv_istore (lv' := [(5, .int (nI (n4 + 1))), (4, .int (nI (n3 + 0))), (8, .int 0), (7, .int (nI i44)), (6, .int (nI n5)), (0, .ref (g 100)), (1, .int v0), (2, .int v1), (3, .int v2)]) hx hb dX12_cheat_105 hl (by decide) rfl (fun ls hl => ?_)
                  refine lv_iload hx hb dX12_cheat_107 (lv_at hl 4 rfl) ?_
                  refine lv_iload hx hb dX12_cheat_109 (lv_at hl 2 rfl) ?_
                  refine lv_if_eq (tgt := 129) hx hb dX12_cheat_111 (by decide) (fun _ => ?_) (fun h => absurd h (by decide))
                  refine lv_iconst (v := 0) hx hb dX12_cheat_129 (by decide) ?_
                  refine lv_iadd hx hb dX12_cheat_130 ?_
                  refine lv_topi (fun y_17 ey_17 => ?_)
                  obtain rfl : y_17 = (nI (n5 + 0)) := ey_17.trans (nI_add n5 0)
                  refine lv_istore (lv' := [(6, .int (nI (n5 + 0))), (5, .int (nI (n4 + 1))), (4, .int (nI (n3 + 0))), (8, .int 0), (7, .int (nI i44)), (0, .ref (g 100)), (1, .int v0), (2, .int v1), (3, .int v2)]) hx hb dX12_cheat_131 hl (by decide) rfl (fun ls hl => ?_)
                  refine lv_iinc (v := (nI (i44 + 1))) (lv' := [(7, .int (nI (i44 + 1))), (6, .int (nI (n5 + 0))), (5, .int (nI (n4 + 1))), (4, .int (nI (n3 + 0))), (8, .int 0), (0, .ref (g 100)), (1, .int v0), (2, .int v1), (3, .int v2)]) hx hb dX12_cheat_133 hl (k := 4) rfl (nI_1 _) (by decide) rfl (fun ls hl => ?_)
                  refine lv_goto (tgt := 44) hx hb dX12_cheat_136 (by decide) ?_
                  exact ih44 (i44 + 1) (n3 + 0) (n4 + 1) (n5 + 0) (by omega) ⟨(by omega), ⟨by omega, by omega, by omega, by omega⟩, (sN_n hx44_1 (if_neg (fun q9 => by omega))), (sN_y hx44_2 (if_pos (by assumption))), (sN_n hx44_3 (if_neg (fun q9 => by first | omega | exact absurd q9 (by assumption) | exact absurd q9.1 (by assumption) | (have q8 := q9.2; omega))))⟩ ls (lv_sub hl [0, 1, 2, 3, 5, 6, 7, 8] rfl)
              ·
                have tc_10 : (v1.toInt : Int) ≤ ((Fn 11) i44).toInt := Int32.le_iff_toInt_le.mp (Int32.not_lt.mp c_10)
                refine lv_iconst (v := 1) hx hb dX12_cheat_64 (by decide) ?_
                refine lv_goto (tgt := 69) hx hb dX12_cheat_65 (by decide) ?_
                refine lv_istore (lv' := [(8, .int 1), (7, .int (nI i44)), (6, .int (nI n5)), (5, .int (nI n4)), (4, .int (nI n3)), (0, .ref (g 100)), (1, .int v0), (2, .int v1), (3, .int v2)]) hx hb dX12_cheat_69 hl (by decide) rfl (fun ls hl => ?_)
                refine lv_iload hx hb dX12_cheat_71 (lv_at hl 4 rfl) ?_
                refine lv_iload hx hb dX12_cheat_73 (lv_at hl 0 rfl) ?_
                refine lv_if_eq (tgt := 82) hx hb dX12_cheat_75 (by decide) (fun h => absurd h (by decide)) (fun _ => ?_)
                refine lv_iconst (v := 1) hx hb dX12_cheat_78 (by decide) ?_
                refine lv_goto (tgt := 83) hx hb dX12_cheat_79 (by decide) ?_
                refine lv_iadd hx hb dX12_cheat_83 ?_
                refine lv_topi (fun y_18 ey_18 => ?_)
                obtain rfl : y_18 = (nI (n3 + 1)) := ey_18.trans (nI_add n3 1)
                refine lv_istore (lv' := [(4, .int (nI (n3 + 1))), (8, .int 1), (7, .int (nI i44)), (6, .int (nI n5)), (5, .int (nI n4)), (0, .ref (g 100)), (1, .int v0), (2, .int v1), (3, .int v2)]) hx hb dX12_cheat_84 hl (by decide) rfl (fun ls hl => ?_)
                refine lv_iload hx hb dX12_cheat_86 (lv_at hl 4 rfl) ?_
                refine lv_aload_n hx hb dX12_cheat_88 rfl (lv_at hl 5 rfl) ?_
                refine gM_25 S hK hP (v := .ref (g 8)) rfl dX12_cheat_89 ?_
                refine lv_iload hx hb dX12_cheat_92 (lv_at hl 2 rfl) ?_
                obtain ⟨a_19, ha_19, ea_19⟩ := hI.e8 i44 (by omega)
                refine ldM_8 hx hb hK hP (x := (nI a_19)) (vp_in_nI (by omega) (by decide)) (nI_clamp (by omega)) ea_19 dX12_cheat_94 ?_
                refine lv_iload_n hx hb dX12_cheat_95 rfl (lv_at hl 6 rfl) ?_
                have : (nI a_19).toInt = ((a_19 : Nat) : Int) := nI_toInt (by omega)
                refine lv_icmp_ne (tgt := 103) hx hb dX12_cheat_96 (by decide) (fun c_20 => ?_) (fun c_20 => ?_)
                ·
                  have tc_20 : ((nI a_19).toInt : Int) ≠ v0.toInt := fun q => c_20 (Int32.toInt_inj.mp q)
                  refine lv_iconst (v := 0) hx hb dX12_cheat_103 (by decide) ?_
                  refine lv_iadd hx hb dX12_cheat_104 ?_
                  refine lv_topi (fun y_21 ey_21 => ?_)
                  obtain rfl : y_21 = (nI (n4 + 0)) := ey_21.trans (nI_add n4 0)
                  refine lv_istore (lv' := [(5, .int (nI (n4 + 0))), (4, .int (nI (n3 + 1))), (8, .int 1), (7, .int (nI i44)), (6, .int (nI n5)), (0, .ref (g 100)), (1, .int v0), (2, .int v1), (3, .int v2)]) hx hb dX12_cheat_105 hl (by decide) rfl (fun ls hl => ?_)
                  refine lv_iload hx hb dX12_cheat_107 (lv_at hl 4 rfl) ?_
                  refine lv_iload hx hb dX12_cheat_109 (lv_at hl 2 rfl) ?_
                  refine lv_if_eq (tgt := 129) hx hb dX12_cheat_111 (by decide) (fun h => absurd h (by decide)) (fun _ => ?_)
                  refine lv_aload_n hx hb dX12_cheat_114 rfl (lv_at hl 5 rfl) ?_
                  refine gM_25 S hK hP (v := .ref (g 8)) rfl dX12_cheat_115 ?_
                  refine lv_iload hx hb dX12_cheat_118 (lv_at hl 3 rfl) ?_
                  refine ldM_8 hx hb hK hP (x := (nI a_19)) (vp_in_nI (by omega) (by decide)) (nI_clamp (by omega)) ea_19 dX12_cheat_120 ?_
                  refine lv_iload_n hx hb dX12_cheat_121 rfl (lv_at hl 6 rfl) ?_
                  refine lv_icmp_ne (tgt := 129) hx hb dX12_cheat_122 (by decide) (fun c_22 => ?_) (fun c_22 => ?_)
                  ·
                    have tc_22 : ((nI a_19).toInt : Int) ≠ v0.toInt := fun q => c_22 (Int32.toInt_inj.mp q)
                    refine lv_iconst (v := 0) hx hb dX12_cheat_129 (by decide) ?_
                    refine lv_iadd hx hb dX12_cheat_130 ?_
                    refine lv_topi (fun y_23 ey_23 => ?_)
                    obtain rfl : y_23 = (nI (n5 + 0)) := ey_23.trans (nI_add n5 0)
                    refine lv_istore (lv' := [(6, .int (nI (n5 + 0))), (5, .int (nI (n4 + 0))), (4, .int (nI (n3 + 1))), (8, .int 1), (7, .int (nI i44)), (0, .ref (g 100)), (1, .int v0), (2, .int v1), (3, .int v2)]) hx hb dX12_cheat_131 hl (by decide) rfl (fun ls hl => ?_)
                    refine lv_iinc (v := (nI (i44 + 1))) (lv' := [(7, .int (nI (i44 + 1))), (6, .int (nI (n5 + 0))), (5, .int (nI (n4 + 0))), (4, .int (nI (n3 + 1))), (8, .int 1), (0, .ref (g 100)), (1, .int v0), (2, .int v1), (3, .int v2)]) hx hb dX12_cheat_133 hl (k := 4) rfl (nI_1 _) (by decide) rfl (fun ls hl => ?_)
                    refine lv_goto (tgt := 44) hx hb dX12_cheat_136 (by decide) ?_
                    exact ih44 (i44 + 1) (n3 + 1) (n4 + 0) (n5 + 0) (by omega) ⟨(by omega), ⟨by omega, by omega, by omega, by omega⟩, (sN_y hx44_1 (if_pos (by omega))), (sN_n hx44_2 (if_neg (fun q9 => by exact absurd q9 (by assumption)))), (sN_n hx44_3 (if_neg (fun q9 => by first | omega | exact absurd q9 (by assumption) | exact absurd q9.1 (by assumption) | (have q8 := q9.2; omega))))⟩ ls (lv_sub hl [0, 1, 2, 3, 5, 6, 7, 8] rfl)
                  ·
                    have tc_22 : ((nI a_19).toInt : Int) = v0.toInt := congrArg Int32.toInt c_22
                    refine lv_iconst (v := 1) hx hb dX12_cheat_125 (by decide) ?_
                    refine lv_goto (tgt := 130) hx hb dX12_cheat_126 (by decide) ?_
                    refine lv_iadd hx hb dX12_cheat_130 ?_
                    refine lv_topi (fun y_24 ey_24 => ?_)
                    obtain rfl : y_24 = (nI (n5 + 1)) := ey_24.trans (nI_add n5 1)
                    refine lv_istore (lv' := [(6, .int (nI (n5 + 1))), (5, .int (nI (n4 + 0))), (4, .int (nI (n3 + 1))), (8, .int 1), (7, .int (nI i44)), (0, .ref (g 100)), (1, .int v0), (2, .int v1), (3, .int v2)]) hx hb dX12_cheat_131 hl (by decide) rfl (fun ls hl => ?_)
                    refine lv_iinc (v := (nI (i44 + 1))) (lv' := [(7, .int (nI (i44 + 1))), (6, .int (nI (n5 + 1))), (5, .int (nI (n4 + 0))), (4, .int (nI (n3 + 1))), (8, .int 1), (0, .ref (g 100)), (1, .int v0), (2, .int v1), (3, .int v2)]) hx hb dX12_cheat_133 hl (k := 4) rfl (nI_1 _) (by decide) rfl (fun ls hl => ?_)
                    refine lv_goto (tgt := 44) hx hb dX12_cheat_136 (by decide) ?_
                    exact ih44 (i44 + 1) (n3 + 1) (n4 + 0) (n5 + 1) (by omega) ⟨(by omega), ⟨by omega, by omega, by omega, by omega⟩, (sN_y hx44_1 (if_pos (by omega))), (sN_n hx44_2 (if_neg (fun q9 => by exact absurd q9 (by assumption)))), (sN_y hx44_3 (if_pos ⟨by assumption, by omega⟩))⟩ ls (lv_sub hl [0, 1, 2, 3, 5, 6, 7, 8] rfl)
                ·
                  have tc_20 : ((nI a_19).toInt : Int) = v0.toInt := congrArg Int32.toInt c_20
                  refine lv_iconst (v := 1) hx hb dX12_cheat_99 (by decide) ?_
                  refine lv_goto (tgt := 104) hx hb dX12_cheat_100 (by decide) ?_
                  refine lv_iadd hx hb dX12_cheat_104 ?_
                  refine lv_topi (fun y_25 ey_25 => ?_)
                  obtain rfl : y_25 = (nI (n4 + 1)) := ey_25.trans (nI_add n4 1)
                  refine lv_istore (lv' := [(5, .int (nI (n4 + 1))), (4, .int (nI (n3 + 1))), (8, .int 1), (7, .int (nI i44)), (6, .int (nI n5)), (0, .ref (g 100)), (1, .int v0), (2, .int v1), (3, .int v2)]) hx hb dX12_cheat_105 hl (by decide) rfl (fun ls hl => ?_)
                  refine lv_iload hx hb dX12_cheat_107 (lv_at hl 4 rfl) ?_
                  refine lv_iload hx hb dX12_cheat_109 (lv_at hl 2 rfl) ?_
                  refine lv_if_eq (tgt := 129) hx hb dX12_cheat_111 (by decide) (fun h => absurd h (by decide)) (fun _ => ?_)
                  refine lv_aload_n hx hb dX12_cheat_114 rfl (lv_at hl 5 rfl) ?_
                  refine gM_25 S hK hP (v := .ref (g 8)) rfl dX12_cheat_115 ?_
                  refine lv_iload hx hb dX12_cheat_118 (lv_at hl 3 rfl) ?_
                  refine ldM_8 hx hb hK hP (x := (nI a_19)) (vp_in_nI (by omega) (by decide)) (nI_clamp (by omega)) ea_19 dX12_cheat_120 ?_
                  refine lv_iload_n hx hb dX12_cheat_121 rfl (lv_at hl 6 rfl) ?_
                  refine lv_icmp_ne (tgt := 129) hx hb dX12_cheat_122 (by decide) (fun c_26 => ?_) (fun c_26 => ?_)
                  ·
                    have tc_26 : ((nI a_19).toInt : Int) ≠ v0.toInt := fun q => c_26 (Int32.toInt_inj.mp q)
                    refine lv_iconst (v := 0) hx hb dX12_cheat_129 (by decide) ?_
                    refine lv_iadd hx hb dX12_cheat_130 ?_
                    refine lv_topi (fun y_27 ey_27 => ?_)
                    obtain rfl : y_27 = (nI (n5 + 0)) := ey_27.trans (nI_add n5 0)
                    refine lv_istore (lv' := [(6, .int (nI (n5 + 0))), (5, .int (nI (n4 + 1))), (4, .int (nI (n3 + 1))), (8, .int 1), (7, .int (nI i44)), (0, .ref (g 100)), (1, .int v0), (2, .int v1), (3, .int v2)]) hx hb dX12_cheat_131 hl (by decide) rfl (fun ls hl => ?_)
                    refine lv_iinc (v := (nI (i44 + 1))) (lv' := [(7, .int (nI (i44 + 1))), (6, .int (nI (n5 + 0))), (5, .int (nI (n4 + 1))), (4, .int (nI (n3 + 1))), (8, .int 1), (0, .ref (g 100)), (1, .int v0), (2, .int v1), (3, .int v2)]) hx hb dX12_cheat_133 hl (k := 4) rfl (nI_1 _) (by decide) rfl (fun ls hl => ?_)
                    refine lv_goto (tgt := 44) hx hb dX12_cheat_136 (by decide) ?_
                    exact ih44 (i44 + 1) (n3 + 1) (n4 + 1) (n5 + 0) (by omega) ⟨(by omega), ⟨by omega, by omega, by omega, by omega⟩, (sN_y hx44_1 (if_pos (by omega))), (sN_y hx44_2 (if_pos (by assumption))), (sN_n hx44_3 (if_neg (fun q9 => by first | omega | exact absurd q9 (by assumption) | exact absurd q9.1 (by assumption) | (have q8 := q9.2; omega))))⟩ ls (lv_sub hl [0, 1, 2, 3, 5, 6, 7, 8] rfl)
                  ·
                    have tc_26 : ((nI a_19).toInt : Int) = v0.toInt := congrArg Int32.toInt c_26
                    refine lv_iconst (v := 1) hx hb dX12_cheat_125 (by decide) ?_
                    refine lv_goto (tgt := 130) hx hb dX12_cheat_126 (by decide) ?_
                    refine lv_iadd hx hb dX12_cheat_130 ?_
                    refine lv_topi (fun y_28 ey_28 => ?_)
                    obtain rfl : y_28 = (nI (n5 + 1)) := ey_28.trans (nI_add n5 1)
                    refine lv_istore (lv' := [(6, .int (nI (n5 + 1))), (5, .int (nI (n4 + 1))), (4, .int (nI (n3 + 1))), (8, .int 1), (7, .int (nI i44)), (0, .ref (g 100)), (1, .int v0), (2, .int v1), (3, .int v2)]) hx hb dX12_cheat_131 hl (by decide) rfl (fun ls hl => ?_)
                    refine lv_iinc (v := (nI (i44 + 1))) (lv' := [(7, .int (nI (i44 + 1))), (6, .int (nI (n5 + 1))), (5, .int (nI (n4 + 1))), (4, .int (nI (n3 + 1))), (8, .int 1), (0, .ref (g 100)), (1, .int v0), (2, .int v1), (3, .int v2)]) hx hb dX12_cheat_133 hl (k := 4) rfl (nI_1 _) (by decide) rfl (fun ls hl => ?_)
                    refine lv_goto (tgt := 44) hx hb dX12_cheat_136 (by decide) ?_
                    exact ih44 (i44 + 1) (n3 + 1) (n4 + 1) (n5 + 1) (by omega) ⟨(by omega), ⟨by omega, by omega, by omega, by omega⟩, (sN_y hx44_1 (if_pos (by omega))), (sN_y hx44_2 (if_pos (by assumption))), (sN_y hx44_3 (if_pos ⟨by assumption, by omega⟩))⟩ ls (lv_sub hl [0, 1, 2, 3, 5, 6, 7, 8] rfl)
        exact lp_44 _ 0 0 0 0 (Nat.lt_succ_self _) ⟨(by omega), ⟨by omega, by omega, by omega, by omega⟩, rfl, rfl, rfl⟩ ls (lv_sub hl [0, 1, 2, 3, 4, 5, 6, 7] rfl)
      ·
        have h_6 : ¬ (0 ≤ v2.toInt ∧ v2.toInt ≤ 2) := h_6
        refine lv_if_ne (tgt := 32) hx hb dX12_cheat_25 (by decide) (fun h => absurd h (by decide)) (fun _ => ?_)
        refine lv_ldc2 (v := (-1)) hx hb hown (S.2.2.2.2 _ (wT_tab 1757 rfl rfl)) dX12_cheat_28 ?_
        exact W.lret (v := (-1)) hx hb hr (fun t ht hW => ⟨(-1), rfl, (Or.inr ⟨by omega, rfl⟩), ht⟩) (fun _ h => absurd h List.not_mem_nil) dX12_cheat_31
    ·
      have h_4 : ¬ (0 ≤ v1.toInt ∧ v1.toInt ≤ 1000) := h_4
      refine lv_if_eq (tgt := 28) hx hb dX12_cheat_16 (by decide) (fun _ => ?_) (fun h => absurd h (by decide))
      refine lv_ldc2 (v := (-1)) hx hb hown (S.2.2.2.2 _ (wT_tab 1757 rfl rfl)) dX12_cheat_28 ?_
      exact W.lret (v := (-1)) hx hb hr (fun t ht hW => ⟨(-1), rfl, (Or.inr ⟨by omega, rfl⟩), ht⟩) (fun _ h => absurd h List.not_mem_nil) dX12_cheat_31
  ·
    have h_2 : ¬ (0 ≤ v0.toInt ∧ v0.toInt < ((cn 1) : Int)) := h_2
    refine lv_if_eq (tgt := 28) hx hb dX12_cheat_5 (by decide) (fun _ => ?_) (fun h => absurd h (by decide))
    refine lv_ldc2 (v := (-1)) hx hb hown (S.2.2.2.2 _ (wT_tab 1757 rfl rfl)) dX12_cheat_28 ?_
    exact W.lret (v := (-1)) hx hb hr (fun t ht hW => ⟨(-1), rfl, (Or.inr ⟨by omega, rfl⟩), ht⟩) (fun _ h => absurd h List.not_mem_nil) dX12_cheat_31
