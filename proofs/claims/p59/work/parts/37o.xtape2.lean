/-- the four bytes of v behind n, as the class keeps them -/
def tpX (f : Nat → Int32) (n : Nat) (v : Int32) : Nat → Int32 := putM (putM (putM (putM f 200 (nI n) ((v >>> (24 &&& 31)) &&& 255)) 200 (nI (n + 1)) ((v >>> (16 &&& 31)) &&& 255)) 200 (nI (n + 1 + 1)) ((v >>> (8 &&& 31)) &&& 255)) 200 (nI (n + 1 + 1 + 1)) ((v >>> (0 &&& 31)) &&& 255)
/-- the same, as the reference keeps them -/
def tpM (f : Nat → Int32) (n : Nat) (v : Int32) : Nat → Int32 := upd (upd (upd (upd f n (vp_nar .byte (v >>> (24 &&& 31)).toInt8.toInt32)) (n + 1) (vp_nar .byte (v >>> (16 &&& 31)).toInt8.toInt32)) (n + 1 + 1) (vp_nar .byte (v >>> (8 &&& 31)).toInt8.toInt32)) (n + 1 + 1 + 1) (vp_nar .byte (v >>> (0 &&& 31)).toInt8.toInt32)
def tp5X (f : Nat → Int32) (n : Nat) (v0 v1 v2 v3 v4 : Int32) : Nat → Int32 := tpX (tpX (tpX (tpX (tpX f n v0) (n + 4) v1) (n + 4 + 4) v2) (n + 4 + 4 + 4) v3) (n + 4 + 4 + 4 + 4) v4
def tp5M (f : Nat → Int32) (n : Nat) (v0 v1 v2 v3 v4 : Int32) : Nat → Int32 := tpM (tpM (tpM (tpM (tpM f n v0) (n + 4) v1) (n + 4 + 4) v2) (n + 4 + 4 + 4) v3) (n + 4 + 4 + 4 + 4) v4
theorem byte_eq (x : Int32) : x &&& 255 = vp_nar .byte x.toInt8.toInt32 &&& 255 := by
  apply Int32.toBitVec_inj.mp
  show x.toBitVec &&& 255#32 = ((((x.toBitVec.signExtend 8).signExtend 32).signExtend 8).signExtend 32) &&& 255#32
  apply BitVec.eq_of_getLsbD_eq
  intro i hi
  have z : ∀ j : Fin 32, 8 ≤ j.val → (255#32).getLsbD j.val = false := by decide
  by_cases q : i < 8
  · simp only [BitVec.getLsbD_and, BitVec.getLsbD_signExtend]
    simp [q, hi, show i < 32 by omega]
  · simp only [BitVec.getLsbD_and]
    rw [z ⟨i, hi⟩ (by show 8 ≤ i; omega), Bool.and_false, Bool.and_false]
theorem tp_j {f h : Nat → Int32} {n : Nat} {v : Int32} (hn : n + 4 ≤ 200) (e : ∀ k : Nat, k < n → f k = h k &&& 255) : ∀ k : Nat, k < n + 4 → tpX f n v k = tpM h n v k &&& 255 := by
  intro k hk
  have P : ∀ (F : Nat → Int32) (m : Nat) (x : Int32), m < 200 → putM F 200 (nI m) x = upd F m x := fun F m x hm => by
    have t : (nI m).toInt = (m : Int) := nI_toInt (by omega)
    unfold putM
    rw [if_pos (by rw [t]; omega), nI_clamp (by omega)]
  unfold tpX tpM
  rw [P _ _ _ (by omega), P _ _ _ (by omega), P _ _ _ (by omega), P _ _ _ (by omega)]
  unfold upd
  by_cases q3 : k = n + 1 + 1 + 1
  · rw [if_pos q3, if_pos q3]; exact byte_eq _
  rw [if_neg q3, if_neg q3]
  by_cases q2 : k = n + 1 + 1
  · rw [if_pos q2, if_pos q2]; exact byte_eq _
  rw [if_neg q2, if_neg q2]
  by_cases q1 : k = n + 1
  · rw [if_pos q1, if_pos q1]; exact byte_eq _
  rw [if_neg q1, if_neg q1]
  by_cases q0 : k = n
  · rw [if_pos q0, if_pos q0]; exact byte_eq _
  rw [if_neg q0, if_neg q0]
  exact e k (by omega)
theorem tp5_j {f h : Nat → Int32} {n : Nat} {v0 v1 v2 v3 v4 : Int32} (hn : n + 20 ≤ 200) (e : ∀ k : Nat, k < n → f k = h k &&& 255) : ∀ k : Nat, k < n + 20 → tp5X f n v0 v1 v2 v3 v4 k = tp5M h n v0 v1 v2 v3 v4 k &&& 255 := by
  have e1 := tp_j (v := v0) (by omega) e
  have e2 := tp_j (v := v1) (by omega) e1
  have e3 := tp_j (v := v2) (by omega) e2
  have e4 := tp_j (v := v3) (by omega) e3
  have e5 := tp_j (v := v4) (by omega) e4
  intro k hk
  exact e5 k (by omega)
/-- where one is behind i stops -/
def dpx (x t : Nat → Int32) : Nat → Int32
  | 0 => 0
  | j + 1 => x (t j).toInt.toNat
def dst (W : Int32 → Int32 → Int32 → Int32 → Int32) (x y t : Nat → Int32) (j : Nat) : Int32 := W (dpx x t j) (dpx y t j) (x (t j).toInt.toNat) (y (t j).toInt.toNat)
def DOK (t : Nat → Int32) (N j : Nat) : Prop := 0 ≤ (t j).toInt ∧ (t j).toInt < (N : Int)
/-- the way through the n stops of the tape, or -1 -/
def DRV (W : Int32 → Int32 → Int32 → Int32 → Int32) (fin : Int32 → Int32 → Int32 → Int32) (x y t : Nat → Int32) (N n : Nat) (r : Int32) : Prop := ((∀ j : Nat, j < n → DOK t N j) ∧ r = fin (sg (dst W x y t) n) (dpx x t n) (dpx y t n)) ∨ ((∃ j : Nat, j < n ∧ ¬ DOK t N j) ∧ r = -1)
/-- the m bytes behind a as a number -/
def tnr (t : Nat → Int32) (a : Nat) : Nat → Int32
  | 0 => 0
  | m + 1 => (tnr t a m <<< (8 &&& 31)) ||| t (a + m)
theorem tnr_4 {t : Nat → Int32} {a : Nat} : tnr t a 4 = ((((((((0 : Int32) ||| t (a + 0)) <<< (8 &&& 31)) ||| t (a + 1)) <<< (8 &&& 31)) ||| t (a + 2)) <<< (8 &&& 31)) ||| t (a + 3)) := by
  have e : (0 : Int32) <<< (8 &&& 31) = 0 := by decide
  show (((((((((0 : Int32) <<< (8 &&& 31)) ||| t (a + 0)) <<< (8 &&& 31)) ||| t (a + 1)) <<< (8 &&& 31)) ||| t (a + 2)) <<< (8 &&& 31)) ||| t (a + 3)) = _
  rw [e]
theorem tnr_s {t : Nat → Int32} {a i : Nat} {x : Int32} (h1 : a ≤ i) (h : x = tnr t a (i - a)) : (x <<< (8 &&& 31)) ||| t i = tnr t a (i + 1 - a) := by
  obtain ⟨m, rfl⟩ : ∃ m, i = a + m := ⟨i - a, by omega⟩
  rw [show a + m - a = m by omega] at h
  rw [show a + m + 1 - a = m + 1 by omega, h]
  rfl
theorem tnr_eq {t t' : Nat → Int32} {a : Nat} : ∀ m : Nat, (∀ k : Nat, k < a + m → t k = t' k) → tnr t a m = tnr t' a m
  | 0, _ => rfl
  | m + 1, h => by
    show (tnr t a m <<< (8 &&& 31)) ||| t (a + m) = (tnr t' a m <<< (8 &&& 31)) ||| t' (a + m)
    rw [tnr_eq m (fun k hk => h k (by omega)), h (a + m) (by omega)]
/-- which part of the p-th row is wrong; -1: none -/
def wrp (day lit mis t : Nat → Int32) (i p : Nat) : Int32 := if tnr t (4 * p) 4 = nI i then (if tnr t (4 * (p + 1)) 4 = day i then (if tnr t (4 * (p + 2)) 4 = lit i then (if tnr t (4 * (p + 3)) 4 = mis i then -1 else 3) else 2) else 1) else 0
/-- the first wrong place from the i-th load and the place p on -/
def chk (kit day lit mis t : Nat → Int32) (v : Int32) (n4 : Nat) : Nat → Nat → Nat → Int32
  | 0, _, p => if p < n4 then nI p else -1
  | f + 1, i, p => if kit i = v then (if n4 ≤ p then nI n4 else if wrp day lit mis t i p = -1 then chk kit day lit mis t v n4 f (i + 1) (p + 4) else nI p + wrp day lit mis t i p) else chk kit day lit mis t v n4 f (i + 1) p
section WRP
variable {kit day lit mis t : Nat → Int32} {v R : Int32} {n4 i p N : Nat}
theorem wrp_0 (h : ¬ tnr t (4 * p) 4 = nI i) : wrp day lit mis t i p = 0 := if_neg h
theorem wrp_1 (h0 : tnr t (4 * p) 4 = nI i) (h : ¬ tnr t (4 * (p + 1)) 4 = day i) : wrp day lit mis t i p = 1 := (if_pos h0).trans (if_neg h)
theorem wrp_2 (h0 : tnr t (4 * p) 4 = nI i) (h1 : tnr t (4 * (p + 1)) 4 = day i) (h : ¬ tnr t (4 * (p + 2)) 4 = lit i) : wrp day lit mis t i p = 2 := (if_pos h0).trans ((if_pos h1).trans (if_neg h))
theorem wrp_3 (h0 : tnr t (4 * p) 4 = nI i) (h1 : tnr t (4 * (p + 1)) 4 = day i) (h2 : tnr t (4 * (p + 2)) 4 = lit i) (h : ¬ tnr t (4 * (p + 3)) 4 = mis i) : wrp day lit mis t i p = 3 := (if_pos h0).trans ((if_pos h1).trans ((if_pos h2).trans (if_neg h)))
theorem wrp_4 (h0 : tnr t (4 * p) 4 = nI i) (h1 : tnr t (4 * (p + 1)) 4 = day i) (h2 : tnr t (4 * (p + 2)) 4 = lit i) (h : tnr t (4 * (p + 3)) 4 = mis i) : wrp day lit mis t i p = -1 := (if_pos h0).trans ((if_pos h1).trans ((if_pos h2).trans (if_pos h)))
theorem chk_s (h : i < N) : chk kit day lit mis t v n4 (N - i) i p = (if kit i = v then (if n4 ≤ p then nI n4 else if wrp day lit mis t i p = -1 then chk kit day lit mis t v n4 (N - (i + 1)) (i + 1) (p + 4) else nI p + wrp day lit mis t i p) else chk kit day lit mis t v n4 (N - (i + 1)) (i + 1) p) := by
  obtain ⟨m, e⟩ : ∃ m, N - i = m + 1 := ⟨N - i - 1, by omega⟩
  rw [e, show N - (i + 1) = m by omega]
  rfl
theorem chk_no (h : i < N) (q : ¬ kit i = v) (e : chk kit day lit mis t v n4 (N - i) i p = R) : chk kit day lit mis t v n4 (N - (i + 1)) (i + 1) p = R := by rw [chk_s h, if_neg q] at e; exact e
theorem chk_go (h : i < N) (q : kit i = v) (w : p < n4) (u : wrp day lit mis t i p = -1) (e : chk kit day lit mis t v n4 (N - i) i p = R) : chk kit day lit mis t v n4 (N - (i + 1)) (i + 1) (p + 4) = R := by rw [chk_s h, if_pos q, if_neg (by omega), if_pos u] at e; exact e
theorem chk_full (h : i < N) (q : kit i = v) (w : n4 ≤ p) (e : chk kit day lit mis t v n4 (N - i) i p = R) : nI n4 = R := by rw [chk_s h, if_pos q, if_pos w] at e; exact e
theorem chk_wr (h : i < N) (q : kit i = v) (w : p < n4) (u : ¬ wrp day lit mis t i p = -1) (e : chk kit day lit mis t v n4 (N - i) i p = R) : nI p + wrp day lit mis t i p = R := by rw [chk_s h, if_pos q, if_neg (by omega), if_neg u] at e; exact e
theorem chk_end (h : N ≤ i) (e : chk kit day lit mis t v n4 (N - i) i p = R) : (if p < n4 then nI p else -1) = R := by rw [show N - i = 0 by omega] at e; exact e
theorem chk_w0 (h : i < N) (q : kit i = v) (w : p < n4) (u0 : ¬ tnr t (4 * p) 4 = nI i) (e : chk kit day lit mis t v n4 (N - i) i p = R) : nI p = R := by
  have e9 := chk_wr h q w (by rw [wrp_0 u0]; decide) e
  rw [wrp_0 u0, Int32.add_zero] at e9
  exact e9
theorem chk_w1 (h : i < N) (q : kit i = v) (w : p < n4) (u0 : tnr t (4 * p) 4 = nI i) (u1 : ¬ tnr t (4 * (p + 1)) 4 = day i) (e : chk kit day lit mis t v n4 (N - i) i p = R) : nI (p + 1) = R := by
  have e9 := chk_wr h q w (by rw [wrp_1 u0 u1]; decide) e
  rw [wrp_1 u0 u1] at e9
  exact (nI_add p 1).symm.trans e9
theorem chk_w2 (h : i < N) (q : kit i = v) (w : p < n4) (u0 : tnr t (4 * p) 4 = nI i) (u1 : tnr t (4 * (p + 1)) 4 = day i) (u2 : ¬ tnr t (4 * (p + 2)) 4 = lit i) (e : chk kit day lit mis t v n4 (N - i) i p = R) : nI (p + 2) = R := by
  have e9 := chk_wr h q w (by rw [wrp_2 u0 u1 u2]; decide) e
  rw [wrp_2 u0 u1 u2] at e9
  exact (nI_add p 2).symm.trans e9
theorem chk_w3 (h : i < N) (q : kit i = v) (w : p < n4) (u0 : tnr t (4 * p) 4 = nI i) (u1 : tnr t (4 * (p + 1)) 4 = day i) (u2 : tnr t (4 * (p + 2)) 4 = lit i) (u3 : ¬ tnr t (4 * (p + 3)) 4 = mis i) (e : chk kit day lit mis t v n4 (N - i) i p = R) : nI (p + 3) = R := by
  have e9 := chk_wr h q w (by rw [wrp_3 u0 u1 u2 u3]; decide) e
  rw [wrp_3 u0 u1 u2 u3] at e9
  exact (nI_add p 3).symm.trans e9
end WRP
theorem chk_eq {kit day lit mis t kit' day' lit' mis' t' : Nat → Int32} {v : Int32} {n4 N M : Nat} (e1 : ∀ k : Nat, k < N → kit k = kit' k) (e2 : ∀ k : Nat, k < N → day k = day' k) (e3 : ∀ k : Nat, k < N → lit k = lit' k) (e4 : ∀ k : Nat, k < N → mis k = mis' k) (et : ∀ k : Nat, k < M → t k = t' k) (hM : 4 * n4 ≤ M) (h4 : n4 % 4 = 0) : ∀ f i p : Nat, i + f = N → p % 4 = 0 → chk kit day lit mis t v n4 f i p = chk kit' day' lit' mis' t' v n4 f i p
  | 0, _, _, _, _ => rfl
  | f + 1, i, p, h, hp => by
    unfold chk
    rw [e1 i (by omega)]
    by_cases q : kit' i = v
    · rw [if_pos q, if_pos q]
      by_cases w : n4 ≤ p
      · rw [if_pos w, if_pos w]
      · rw [if_neg w, if_neg w]
        have ew : wrp day lit mis t i p = wrp day' lit' mis' t' i p := by
          unfold wrp
          rw [e2 i (by omega), e3 i (by omega), e4 i (by omega), tnr_eq (t := t) (t' := t') 4 (fun k hk => et k (by omega)), tnr_eq (t := t) (t' := t') (a := 4 * (p + 1)) 4 (fun k hk => et k (by omega)), tnr_eq (t := t) (t' := t') (a := 4 * (p + 2)) 4 (fun k hk => et k (by omega)), tnr_eq (t := t) (t' := t') (a := 4 * (p + 3)) 4 (fun k hk => et k (by omega))]
        rw [ew, chk_eq e1 e2 e3 e4 et hM h4 f (i + 1) (p + 4) (by omega) (by omega)]
    · rw [if_neg q, if_neg q]
      exact chk_eq e1 e2 e3 e4 et hM h4 f (i + 1) p (by omega) hp



set_option maxRecDepth 100000 in
set_option maxHeartbeats 4000000 in
theorem q_Etadd (l : Launch) (D : va_G) (cI cB cZ : ClassId) (zz qq vv : Nat) (bt : Nat → Int32) (g : Nat → Nat) (ad : Nat → Nat → Nat) (cn : Nat → Nat) (In : Nat → Int32) (Fn : Nat → Nat → Int32) (v0 : Int32) (sz : Nat) (hB : CBX cn) (h4 : cn 3 + 4 ≤ 200) : Met l yX8_add (CWS yX8_add cX8_add 3 none) (RM 1 0 0) (PBx [.ref (g 5), .int v0] D cI cB cZ zz qq vv bt (wX cI (D.1 99) zz g ad cn In Fn) sz) (va_Qv (fun (u : (Nat → Nat) × (Nat → Int32) × (Nat → Nat → Int32)) => (fun c2 I2 F2 => Fr [3] [] [40] cn In Fn c2 I2 F2 ∧ CBX c2 ∧ (c2 3 = cn 3 + 4 ∧ F2 40 = tpX (Fn 40) (cn 3) v0)) u.1 u.2.1 u.2.2) (fun (u : (Nat → Nat) × (Nat → Int32) × (Nat → Nat → Int32)) (t : State) => va_P D vwCl (wX cI (D.1 99) zz g ad u.1 u.2.1 u.2.2) t.heap ∧ va_D (va_A (wX cI (D.1 99) zz g ad cn In Fn) sz) (wX cI (D.1 99) zz g ad u.1 u.2.1 u.2.2)) (va_A (wX cI (D.1 99) zz g ad cn In Fn) sz)) 0 0 (va_A (wX cI (D.1 99) zz g ad cn In Fn) sz) := by
  refine en_x (fun A => (va_Qv (fun (u : (Nat → Nat) × (Nat → Int32) × (Nat → Nat → Int32)) => (fun (c2 : Nat → Nat) (I2 : Nat → Int32) (F2 : Nat → Nat → Int32) => Fr [3] [] [40] cn In Fn c2 I2 F2 ∧ CBX c2 ∧ (c2 3 = cn 3 + 4 ∧ F2 40 = tpX (Fn 40) (cn 3) v0)) u.1 u.2.1 u.2.2) (fun (u : (Nat → Nat) × (Nat → Int32) × (Nat → Nat → Int32)) (t : State) => va_P D vwCl (wX cI (D.1 99) zz g ad u.1 u.2.1 u.2.2) t.heap ∧ va_D A (wX cI (D.1 99) zz g ad u.1 u.2.1 u.2.2)) A)) rfl rfl pn_RX8 (Nat.le_of_ble_eq_true rfl) (fun p e s m below meth c A hx hb hml hown S hr hlocks hnm hA hP hK hD hXS hS ls hl => ?_)
  have hl : lv_has ls 3 [(0, .ref (g 5)), (1, .int v0)] := hl
  have hb_cn : Hid (CBX cn) := hB
  replace hB : CBXh cn := hB
  refine lv_bipush (v := 24) hx hb (oc_16 0 shX8_add_0 sgb_24) kbc_24 ?_
  refine lv_istore_n (lv' := [(2, .int 24), (0, .ref (g 5)), (1, .int v0)]) hx hb (oc_61 2 (aq_2 shX8_add_0)) rfl hl (ltb rfl) rfl (fun ls hl => ?_)
  refine lv_iload_n hx hb dX8_add_3 rfl (lvA0 hl) ?_
  refine lv_if_lt (tgt := 47) hx hb dX8_add_4 rfl (fun h => absurd h cq_lt_24_0) (fun _ => ?_)
  refine lv_aload_n hx hb dX8_add_7 rfl (lvA1 hl) ?_
  refine gf_RX8_9 S hK hP 1 xo_1 (v := .ref (g 40)) rfl dX8_add_8 ?_
  refine lv_aload_n hx hb dX8_add_11 rfl (lvA1 hl) ?_
  refine gf_RX8_13 S hK hP 1 xo_1 (v := .int (nI (cn 3))) rfl dX8_add_12 ?_
  refine lv_iload_n hx hb dX8_add_15 rfl (lvA2 hl) ?_
  refine lv_iload_n hx hb dX8_add_16 rfl (lvA0 hl) ?_
  refine lv_ishr hx hb dX8_add_17 ?_
  refine lv_sipush (v := 255) hx hb dX8_add_18 (by decide) ?_
  refine lv_iand hx hb dX8_add_21 ?_
  have hFc := va_free (wc := [((g 40), .inl (cI, 200, .inl (Fn 40)))]) hD hS hA [2] (one_im xo_2)
  refine va_callv (runS_w (As := [.ref (g 40), .int (nI (cn 3)), .int ((v0 >>> (24 &&& 31)) &&& 255)]) (rest := []) S (q_l_put l D cI cB cZ (g 40) 200 (Fn 40) (nI (cn 3)) ((v0 >>> (24 &&& 31)) &&& 255) s.heap.size (by (first | omega | (have zz0 := Hid.u hb_cn; omega)))) kS_RX8_17 hK hP hD [2] (one_is xo_2) (one_im xo_2) rfl ⟨Nat.le_of_ble_eq_true rfl, Nat.le_of_ble_eq_true rfl⟩ ⟨Nat.le_of_ble_eq_true rfl, Nat.le_of_ble_eq_true rfl⟩ rfl hl.1 rfl (Nat.le_of_ble_eq_true rfl) dX8_add_22) hS (fun q _ h => hFc q h) hFc (fun u_3 t H1 locs ht hvm h_2 hB1 hz1 hk1 hS => ?_)
  obtain ⟨hP1, hD1⟩ := hB1
  rw [ht] at hP1
  obtain ⟨hP, hD⟩ := wset1 hP hD xo_2 hk1 hP1
  obtain rfl : u_3 = (putM (Fn 40) 200 (nI (cn 3)) ((v0 >>> (24 &&& 31)) &&& 255)) := h_2
  generalize H1 = H at hP hS ⊢
  have hP : va_P D vwCl (wX cI (D.1 99) zz g ad cn In (va_up Fn 40 (putM (Fn 40) 200 (nI (cn 3)) ((v0 >>> (24 &&& 31)) &&& 255)))) H := va_P_eq xsa_2 hP
  have hD : va_D A (wX cI (D.1 99) zz g ad cn In (va_up Fn 40 (putM (Fn 40) 200 (nI (cn 3)) ((v0 >>> (24 &&& 31)) &&& 255)))) := va_D_eq xsa_2 hD
  refine lv_aload_n hx hb dX8_add_25 rfl (lvA1 hl) ?_
  refine lv_aload_n hx hb dX8_add_26 rfl (lvA1 hl) ?_
  refine gf_RX8_13 S hK hP 1 xo_1 (v := .int (nI (cn 3))) rfl dX8_add_27 ?_
  refine lv_iconst (v := 1) hx hb dX8_add_30 kic_1 ?_
  refine lv_iadd hx hb dX8_add_31 ?_
  refine lv_topi (fun y_4 ey_4 => ?_)
  obtain rfl : y_4 = (nI ((cn 3) + 1)) := ey_4.trans (nI_add (cn 3) 1)
  refine lv_sipush (v := 200) hx hb dX8_add_32 (by decide) ?_
  refine va_mmin hx hb (by rw [hml]; exact hl.1.symm) hown (S.2.2.2.2 _ (wk3_3 10 rfl rfl)) (S.2.2.2.2 _ (wk2_13 10 rfl rfl)) (S.2.2.2.2 _ (wk1_0 3 rfl rfl)) (S.2.2.2.2 _ (wk2_13 11 rfl rfl)) (Nat.le_of_ble_eq_true rfl) (Nat.le_of_ble_eq_true rfl) (Nat.le_of_ble_eq_true rfl) (Nat.le_of_ble_eq_true rfl) dX8_add_35 ?_
  refine lv_topi (fun y_5 ey_5 => ?_)
  obtain rfl : y_5 = (nI ((cn 3) + 1)) := ey_5.trans (min200b (by (first | omega | (have zz0 := Hid.u hb_cn; omega))))
  refine pf_RX8_13 S hK hP hD hS 1 xo_1 (v := .int (nI ((cn 3) + 1))) (Nat.le_of_ble_eq_true rfl) rfl rfl dX8_add_38 (fun H locs hP hD hS => ?_)
  have hP : va_P D vwCl (wX cI (D.1 99) zz g ad (va_up cn 3 ((cn 3) + 1)) In (va_up Fn 40 (putM (Fn 40) 200 (nI (cn 3)) ((v0 >>> (24 &&& 31)) &&& 255)))) H := va_P_eq (xsf_1_1) hP
  have hD : va_D A (wX cI (D.1 99) zz g ad (va_up cn 3 ((cn 3) + 1)) In (va_up Fn 40 (putM (Fn 40) 200 (nI (cn 3)) ((v0 >>> (24 &&& 31)) &&& 255)))) := va_D_eq (xsf_1_1) hD
  refine lv_iinc (v := 16) (lv' := [(2, .int 16), (0, .ref (g 5)), (1, .int v0)]) hx hb dX8_add_41 hl (k := 0) rfl (by decide) (ltb rfl) rfl (fun ls hl => ?_)
  refine lv_goto (tgt := 3) hx hb dX8_add_44 rfl ?_
  refine lv_iload_n hx hb dX8_add_3 rfl (lvA0 hl) ?_
  refine lv_if_lt (tgt := 47) hx hb dX8_add_4 rfl (fun h => absurd h cq_lt_16_0) (fun _ => ?_)
  refine lv_aload_n hx hb dX8_add_7 rfl (lvA1 hl) ?_
  refine gf_RX8_9 S hK hP 1 xo_1 (v := .ref (g 40)) rfl dX8_add_8 ?_
  refine lv_aload_n hx hb dX8_add_11 rfl (lvA1 hl) ?_
  refine gf_RX8_13 S hK hP 1 xo_1 (v := .int (nI ((cn 3) + 1))) rfl dX8_add_12 ?_
  refine lv_iload_n hx hb dX8_add_15 rfl (lvA2 hl) ?_
  refine lv_iload_n hx hb dX8_add_16 rfl (lvA0 hl) ?_
  refine lv_ishr hx hb dX8_add_17 ?_
  refine lv_sipush (v := 255) hx hb dX8_add_18 (by decide) ?_
  refine lv_iand hx hb dX8_add_21 ?_
  have hFc := va_free (wc := [((g 40), .inl (cI, 200, .inl (putM (Fn 40) 200 (nI (cn 3)) ((v0 >>> (24 &&& 31)) &&& 255))))]) hD hS hA [2] (one_im xo_2)
  refine va_callv (runS_w (As := [.ref (g 40), .int (nI ((cn 3) + 1)), .int ((v0 >>> (16 &&& 31)) &&& 255)]) (rest := []) S (q_l_put l D cI cB cZ (g 40) 200 (putM (Fn 40) 200 (nI (cn 3)) ((v0 >>> (24 &&& 31)) &&& 255)) (nI ((cn 3) + 1)) ((v0 >>> (16 &&& 31)) &&& 255) H.size (by (first | omega | (have zz0 := Hid.u hb_cn; omega)))) kS_RX8_17 hK hP hD [2] (one_is xo_2) (one_im xo_2) rfl ⟨Nat.le_of_ble_eq_true rfl, Nat.le_of_ble_eq_true rfl⟩ ⟨Nat.le_of_ble_eq_true rfl, Nat.le_of_ble_eq_true rfl⟩ rfl hl.1 rfl (Nat.le_of_ble_eq_true rfl) dX8_add_22) hS (fun q _ h => hFc q h) hFc (fun u_8 t H1 locs ht hvm h_7 hB1 hz1 hk1 hS => ?_)
  obtain ⟨hP1, hD1⟩ := hB1
  rw [ht] at hP1
  obtain ⟨hP, hD⟩ := wset1 hP hD xo_2 hk1 hP1
  obtain rfl : u_8 = (putM (putM (Fn 40) 200 (nI (cn 3)) ((v0 >>> (24 &&& 31)) &&& 255)) 200 (nI ((cn 3) + 1)) ((v0 >>> (16 &&& 31)) &&& 255)) := h_7
  generalize H1 = H at hP hS ⊢
  have hP : va_P D vwCl (wX cI (D.1 99) zz g ad (va_up cn 3 ((cn 3) + 1)) In (va_up (va_up Fn 40 (putM (Fn 40) 200 (nI (cn 3)) ((v0 >>> (24 &&& 31)) &&& 255))) 40 (putM (putM (Fn 40) 200 (nI (cn 3)) ((v0 >>> (24 &&& 31)) &&& 255)) 200 (nI ((cn 3) + 1)) ((v0 >>> (16 &&& 31)) &&& 255)))) H := va_P_eq xsa_2 hP
  have hD : va_D A (wX cI (D.1 99) zz g ad (va_up cn 3 ((cn 3) + 1)) In (va_up (va_up Fn 40 (putM (Fn 40) 200 (nI (cn 3)) ((v0 >>> (24 &&& 31)) &&& 255))) 40 (putM (putM (Fn 40) 200 (nI (cn 3)) ((v0 >>> (24 &&& 31)) &&& 255)) 200 (nI ((cn 3) + 1)) ((v0 >>> (16 &&& 31)) &&& 255)))) := va_D_eq xsa_2 hD
  refine lv_aload_n hx hb dX8_add_25 rfl (lvA1 hl) ?_
  refine lv_aload_n hx hb dX8_add_26 rfl (lvA1 hl) ?_
  refine gf_RX8_13 S hK hP 1 xo_1 (v := .int (nI ((cn 3) + 1))) rfl dX8_add_27 ?_
  refine lv_iconst (v := 1) hx hb dX8_add_30 kic_1 ?_
  refine lv_iadd hx hb dX8_add_31 ?_
  refine lv_topi (fun y_9 ey_9 => ?_)
  obtain rfl : y_9 = (nI (((cn 3) + 1) + 1)) := ey_9.trans (nI_add ((cn 3) + 1) 1)
  refine lv_sipush (v := 200) hx hb dX8_add_32 (by decide) ?_
  refine va_mmin hx hb (by rw [hml]; exact hl.1.symm) hown (S.2.2.2.2 _ (wk3_3 10 rfl rfl)) (S.2.2.2.2 _ (wk2_13 10 rfl rfl)) (S.2.2.2.2 _ (wk1_0 3 rfl rfl)) (S.2.2.2.2 _ (wk2_13 11 rfl rfl)) (Nat.le_of_ble_eq_true rfl) (Nat.le_of_ble_eq_true rfl) (Nat.le_of_ble_eq_true rfl) (Nat.le_of_ble_eq_true rfl) dX8_add_35 ?_
  refine lv_topi (fun y_10 ey_10 => ?_)
  obtain rfl : y_10 = (nI (((cn 3) + 1) + 1)) := ey_10.trans (min200b (by (first | omega | (have zz0 := Hid.u hb_cn; omega))))
  refine pf_RX8_13 S hK hP hD hS 1 xo_1 (v := .int (nI (((cn 3) + 1) + 1))) (Nat.le_of_ble_eq_true rfl) rfl rfl dX8_add_38 (fun H locs hP hD hS => ?_)
  have hP : va_P D vwCl (wX cI (D.1 99) zz g ad (va_up (va_up cn 3 ((cn 3) + 1)) 3 (((cn 3) + 1) + 1)) In (va_up (va_up Fn 40 (putM (Fn 40) 200 (nI (cn 3)) ((v0 >>> (24 &&& 31)) &&& 255))) 40 (putM (putM (Fn 40) 200 (nI (cn 3)) ((v0 >>> (24 &&& 31)) &&& 255)) 200 (nI ((cn 3) + 1)) ((v0 >>> (16 &&& 31)) &&& 255)))) H := va_P_eq (xsf_1_1) hP
  have hD : va_D A (wX cI (D.1 99) zz g ad (va_up (va_up cn 3 ((cn 3) + 1)) 3 (((cn 3) + 1) + 1)) In (va_up (va_up Fn 40 (putM (Fn 40) 200 (nI (cn 3)) ((v0 >>> (24 &&& 31)) &&& 255))) 40 (putM (putM (Fn 40) 200 (nI (cn 3)) ((v0 >>> (24 &&& 31)) &&& 255)) 200 (nI ((cn 3) + 1)) ((v0 >>> (16 &&& 31)) &&& 255)))) := va_D_eq (xsf_1_1) hD
  refine lv_iinc (v := 8) (lv' := [(2, .int 8), (0, .ref (g 5)), (1, .int v0)]) hx hb dX8_add_41 hl (k := 0) rfl (by decide) (ltb rfl) rfl (fun ls hl => ?_)
  refine lv_goto (tgt := 3) hx hb dX8_add_44 rfl ?_
  refine lv_iload_n hx hb dX8_add_3 rfl (lvA0 hl) ?_
  refine lv_if_lt (tgt := 47) hx hb dX8_add_4 rfl (fun h => absurd h cq_lt_8_0) (fun _ => ?_)
  refine lv_aload_n hx hb dX8_add_7 rfl (lvA1 hl) ?_
  refine gf_RX8_9 S hK hP 1 xo_1 (v := .ref (g 40)) rfl dX8_add_8 ?_
  refine lv_aload_n hx hb dX8_add_11 rfl (lvA1 hl) ?_
  refine gf_RX8_13 S hK hP 1 xo_1 (v := .int (nI (((cn 3) + 1) + 1))) rfl dX8_add_12 ?_
  refine lv_iload_n hx hb dX8_add_15 rfl (lvA2 hl) ?_
  refine lv_iload_n hx hb dX8_add_16 rfl (lvA0 hl) ?_
  refine lv_ishr hx hb dX8_add_17 ?_
  refine lv_sipush (v := 255) hx hb dX8_add_18 (by decide) ?_
  refine lv_iand hx hb dX8_add_21 ?_
  have hFc := va_free (wc := [((g 40), .inl (cI, 200, .inl (putM (putM (Fn 40) 200 (nI (cn 3)) ((v0 >>> (24 &&& 31)) &&& 255)) 200 (nI ((cn 3) + 1)) ((v0 >>> (16 &&& 31)) &&& 255))))]) hD hS hA [2] (one_im xo_2)
  refine va_callv (runS_w (As := [.ref (g 40), .int (nI (((cn 3) + 1) + 1)), .int ((v0 >>> (8 &&& 31)) &&& 255)]) (rest := []) S (q_l_put l D cI cB cZ (g 40) 200 (putM (putM (Fn 40) 200 (nI (cn 3)) ((v0 >>> (24 &&& 31)) &&& 255)) 200 (nI ((cn 3) + 1)) ((v0 >>> (16 &&& 31)) &&& 255)) (nI (((cn 3) + 1) + 1)) ((v0 >>> (8 &&& 31)) &&& 255) H.size (by (first | omega | (have zz0 := Hid.u hb_cn; omega)))) kS_RX8_17 hK hP hD [2] (one_is xo_2) (one_im xo_2) rfl ⟨Nat.le_of_ble_eq_true rfl, Nat.le_of_ble_eq_true rfl⟩ ⟨Nat.le_of_ble_eq_true rfl, Nat.le_of_ble_eq_true rfl⟩ rfl hl.1 rfl (Nat.le_of_ble_eq_true rfl) dX8_add_22) hS (fun q _ h => hFc q h) hFc (fun u_13 t H1 locs ht hvm h_12 hB1 hz1 hk1 hS => ?_)
  obtain ⟨hP1, hD1⟩ := hB1
  rw [ht] at hP1
  obtain ⟨hP, hD⟩ := wset1 hP hD xo_2 hk1 hP1
  obtain rfl : u_13 = (putM (putM (putM (Fn 40) 200 (nI (cn 3)) ((v0 >>> (24 &&& 31)) &&& 255)) 200 (nI ((cn 3) + 1)) ((v0 >>> (16 &&& 31)) &&& 255)) 200 (nI (((cn 3) + 1) + 1)) ((v0 >>> (8 &&& 31)) &&& 255)) := h_12
  generalize H1 = H at hP hS ⊢
  have hP : va_P D vwCl (wX cI (D.1 99) zz g ad (va_up (va_up cn 3 ((cn 3) + 1)) 3 (((cn 3) + 1) + 1)) In (va_up (va_up (va_up Fn 40 (putM (Fn 40) 200 (nI (cn 3)) ((v0 >>> (24 &&& 31)) &&& 255))) 40 (putM (putM (Fn 40) 200 (nI (cn 3)) ((v0 >>> (24 &&& 31)) &&& 255)) 200 (nI ((cn 3) + 1)) ((v0 >>> (16 &&& 31)) &&& 255))) 40 (putM (putM (putM (Fn 40) 200 (nI (cn 3)) ((v0 >>> (24 &&& 31)) &&& 255)) 200 (nI ((cn 3) + 1)) ((v0 >>> (16 &&& 31)) &&& 255)) 200 (nI (((cn 3) + 1) + 1)) ((v0 >>> (8 &&& 31)) &&& 255)))) H := va_P_eq xsa_2 hP
  have hD : va_D A (wX cI (D.1 99) zz g ad (va_up (va_up cn 3 ((cn 3) + 1)) 3 (((cn 3) + 1) + 1)) In (va_up (va_up (va_up Fn 40 (putM (Fn 40) 200 (nI (cn 3)) ((v0 >>> (24 &&& 31)) &&& 255))) 40 (putM (putM (Fn 40) 200 (nI (cn 3)) ((v0 >>> (24 &&& 31)) &&& 255)) 200 (nI ((cn 3) + 1)) ((v0 >>> (16 &&& 31)) &&& 255))) 40 (putM (putM (putM (Fn 40) 200 (nI (cn 3)) ((v0 >>> (24 &&& 31)) &&& 255)) 200 (nI ((cn 3) + 1)) ((v0 >>> (16 &&& 31)) &&& 255)) 200 (nI (((cn 3) + 1) + 1)) ((v0 >>> (8 &&& 31)) &&& 255)))) := va_D_eq xsa_2 hD
  refine lv_aload_n hx hb dX8_add_25 rfl (lvA1 hl) ?_
  refine lv_aload_n hx hb dX8_add_26 rfl (lvA1 hl) ?_
  refine gf_RX8_13 S hK hP 1 xo_1 (v := .int (nI (((cn 3) + 1) + 1))) rfl dX8_add_27 ?_
  refine lv_iconst (v := 1) hx hb dX8_add_30 kic_1 ?_
  refine lv_iadd hx hb dX8_add_31 ?_
  refine lv_topi (fun y_14 ey_14 => ?_)
  obtain rfl : y_14 = (nI ((((cn 3) + 1) + 1) + 1)) := ey_14.trans (nI_add (((cn 3) + 1) + 1) 1)
  refine lv_sipush (v := 200) hx hb dX8_add_32 (by decide) ?_
  refine va_mmin hx hb (by rw [hml]; exact hl.1.symm) hown (S.2.2.2.2 _ (wk3_3 10 rfl rfl)) (S.2.2.2.2 _ (wk2_13 10 rfl rfl)) (S.2.2.2.2 _ (wk1_0 3 rfl rfl)) (S.2.2.2.2 _ (wk2_13 11 rfl rfl)) (Nat.le_of_ble_eq_true rfl) (Nat.le_of_ble_eq_true rfl) (Nat.le_of_ble_eq_true rfl) (Nat.le_of_ble_eq_true rfl) dX8_add_35 ?_
  refine lv_topi (fun y_15 ey_15 => ?_)
  obtain rfl : y_15 = (nI ((((cn 3) + 1) + 1) + 1)) := ey_15.trans (min200b (by (first | omega | (have zz0 := Hid.u hb_cn; omega))))
  refine pf_RX8_13 S hK hP hD hS 1 xo_1 (v := .int (nI ((((cn 3) + 1) + 1) + 1))) (Nat.le_of_ble_eq_true rfl) rfl rfl dX8_add_38 (fun H locs hP hD hS => ?_)
  have hP : va_P D vwCl (wX cI (D.1 99) zz g ad (va_up (va_up (va_up cn 3 ((cn 3) + 1)) 3 (((cn 3) + 1) + 1)) 3 ((((cn 3) + 1) + 1) + 1)) In (va_up (va_up (va_up Fn 40 (putM (Fn 40) 200 (nI (cn 3)) ((v0 >>> (24 &&& 31)) &&& 255))) 40 (putM (putM (Fn 40) 200 (nI (cn 3)) ((v0 >>> (24 &&& 31)) &&& 255)) 200 (nI ((cn 3) + 1)) ((v0 >>> (16 &&& 31)) &&& 255))) 40 (putM (putM (putM (Fn 40) 200 (nI (cn 3)) ((v0 >>> (24 &&& 31)) &&& 255)) 200 (nI ((cn 3) + 1)) ((v0 >>> (16 &&& 31)) &&& 255)) 200 (nI (((cn 3) + 1) + 1)) ((v0 >>> (8 &&& 31)) &&& 255)))) H := va_P_eq (xsf_1_1) hP
  have hD : va_D A (wX cI (D.1 99) zz g ad (va_up (va_up (va_up cn 3 ((cn 3) + 1)) 3 (((cn 3) + 1) + 1)) 3 ((((cn 3) + 1) + 1) + 1)) In (va_up (va_up (va_up Fn 40 (putM (Fn 40) 200 (nI (cn 3)) ((v0 >>> (24 &&& 31)) &&& 255))) 40 (putM (putM (Fn 40) 200 (nI (cn 3)) ((v0 >>> (24 &&& 31)) &&& 255)) 200 (nI ((cn 3) + 1)) ((v0 >>> (16 &&& 31)) &&& 255))) 40 (putM (putM (putM (Fn 40) 200 (nI (cn 3)) ((v0 >>> (24 &&& 31)) &&& 255)) 200 (nI ((cn 3) + 1)) ((v0 >>> (16 &&& 31)) &&& 255)) 200 (nI (((cn 3) + 1) + 1)) ((v0 >>> (8 &&& 31)) &&& 255)))) := va_D_eq (xsf_1_1) hD
  refine lv_iinc (v := 0) (lv' := [(2, .int 0), (0, .ref (g 5)), (1, .int v0)]) hx hb dX8_add_41 hl (k := 0) rfl (by decide) (ltb rfl) rfl (fun ls hl => ?_)
  refine lv_goto (tgt := 3) hx hb dX8_add_44 rfl ?_
  refine lv_iload_n hx hb dX8_add_3 rfl (lvA0 hl) ?_
  refine lv_if_lt (tgt := 47) hx hb dX8_add_4 rfl (fun h => absurd h cq_lt_0_0) (fun _ => ?_)
  refine lv_aload_n hx hb dX8_add_7 rfl (lvA1 hl) ?_
  refine gf_RX8_9 S hK hP 1 xo_1 (v := .ref (g 40)) rfl dX8_add_8 ?_
  refine lv_aload_n hx hb dX8_add_11 rfl (lvA1 hl) ?_
  refine gf_RX8_13 S hK hP 1 xo_1 (v := .int (nI ((((cn 3) + 1) + 1) + 1))) rfl dX8_add_12 ?_
  refine lv_iload_n hx hb dX8_add_15 rfl (lvA2 hl) ?_
  refine lv_iload_n hx hb dX8_add_16 rfl (lvA0 hl) ?_
  refine lv_ishr hx hb dX8_add_17 ?_
  refine lv_sipush (v := 255) hx hb dX8_add_18 (by decide) ?_
  refine lv_iand hx hb dX8_add_21 ?_
  have hFc := va_free (wc := [((g 40), .inl (cI, 200, .inl (putM (putM (putM (Fn 40) 200 (nI (cn 3)) ((v0 >>> (24 &&& 31)) &&& 255)) 200 (nI ((cn 3) + 1)) ((v0 >>> (16 &&& 31)) &&& 255)) 200 (nI (((cn 3) + 1) + 1)) ((v0 >>> (8 &&& 31)) &&& 255))))]) hD hS hA [2] (one_im xo_2)
  refine va_callv (runS_w (As := [.ref (g 40), .int (nI ((((cn 3) + 1) + 1) + 1)), .int ((v0 >>> (0 &&& 31)) &&& 255)]) (rest := []) S (q_l_put l D cI cB cZ (g 40) 200 (putM (putM (putM (Fn 40) 200 (nI (cn 3)) ((v0 >>> (24 &&& 31)) &&& 255)) 200 (nI ((cn 3) + 1)) ((v0 >>> (16 &&& 31)) &&& 255)) 200 (nI (((cn 3) + 1) + 1)) ((v0 >>> (8 &&& 31)) &&& 255)) (nI ((((cn 3) + 1) + 1) + 1)) ((v0 >>> (0 &&& 31)) &&& 255) H.size (by (first | omega | (have zz0 := Hid.u hb_cn; omega)))) kS_RX8_17 hK hP hD [2] (one_is xo_2) (one_im xo_2) rfl ⟨Nat.le_of_ble_eq_true rfl, Nat.le_of_ble_eq_true rfl⟩ ⟨Nat.le_of_ble_eq_true rfl, Nat.le_of_ble_eq_true rfl⟩ rfl hl.1 rfl (Nat.le_of_ble_eq_true rfl) dX8_add_22) hS (fun q _ h => hFc q h) hFc (fun u_18 t H1 locs ht hvm h_17 hB1 hz1 hk1 hS => ?_)
  obtain ⟨hP1, hD1⟩ := hB1
  rw [ht] at hP1
  obtain ⟨hP, hD⟩ := wset1 hP hD xo_2 hk1 hP1
  obtain rfl : u_18 = (putM (putM (putM (putM (Fn 40) 200 (nI (cn 3)) ((v0 >>> (24 &&& 31)) &&& 255)) 200 (nI ((cn 3) + 1)) ((v0 >>> (16 &&& 31)) &&& 255)) 200 (nI (((cn 3) + 1) + 1)) ((v0 >>> (8 &&& 31)) &&& 255)) 200 (nI ((((cn 3) + 1) + 1) + 1)) ((v0 >>> (0 &&& 31)) &&& 255)) := h_17
  generalize H1 = H at hP hS ⊢
  have hP : va_P D vwCl (wX cI (D.1 99) zz g ad (va_up (va_up (va_up cn 3 ((cn 3) + 1)) 3 (((cn 3) + 1) + 1)) 3 ((((cn 3) + 1) + 1) + 1)) In (va_up (va_up (va_up (va_up Fn 40 (putM (Fn 40) 200 (nI (cn 3)) ((v0 >>> (24 &&& 31)) &&& 255))) 40 (putM (putM (Fn 40) 200 (nI (cn 3)) ((v0 >>> (24 &&& 31)) &&& 255)) 200 (nI ((cn 3) + 1)) ((v0 >>> (16 &&& 31)) &&& 255))) 40 (putM (putM (putM (Fn 40) 200 (nI (cn 3)) ((v0 >>> (24 &&& 31)) &&& 255)) 200 (nI ((cn 3) + 1)) ((v0 >>> (16 &&& 31)) &&& 255)) 200 (nI (((cn 3) + 1) + 1)) ((v0 >>> (8 &&& 31)) &&& 255))) 40 (putM (putM (putM (putM (Fn 40) 200 (nI (cn 3)) ((v0 >>> (24 &&& 31)) &&& 255)) 200 (nI ((cn 3) + 1)) ((v0 >>> (16 &&& 31)) &&& 255)) 200 (nI (((cn 3) + 1) + 1)) ((v0 >>> (8 &&& 31)) &&& 255)) 200 (nI ((((cn 3) + 1) + 1) + 1)) ((v0 >>> (0 &&& 31)) &&& 255)))) H := va_P_eq xsa_2 hP
  have hD : va_D A (wX cI (D.1 99) zz g ad (va_up (va_up (va_up cn 3 ((cn 3) + 1)) 3 (((cn 3) + 1) + 1)) 3 ((((cn 3) + 1) + 1) + 1)) In (va_up (va_up (va_up (va_up Fn 40 (putM (Fn 40) 200 (nI (cn 3)) ((v0 >>> (24 &&& 31)) &&& 255))) 40 (putM (putM (Fn 40) 200 (nI (cn 3)) ((v0 >>> (24 &&& 31)) &&& 255)) 200 (nI ((cn 3) + 1)) ((v0 >>> (16 &&& 31)) &&& 255))) 40 (putM (putM (putM (Fn 40) 200 (nI (cn 3)) ((v0 >>> (24 &&& 31)) &&& 255)) 200 (nI ((cn 3) + 1)) ((v0 >>> (16 &&& 31)) &&& 255)) 200 (nI (((cn 3) + 1) + 1)) ((v0 >>> (8 &&& 31)) &&& 255))) 40 (putM (putM (putM (putM (Fn 40) 200 (nI (cn 3)) ((v0 >>> (24 &&& 31)) &&& 255)) 200 (nI ((cn 3) + 1)) ((v0 >>> (16 &&& 31)) &&& 255)) 200 (nI (((cn 3) + 1) + 1)) ((v0 >>> (8 &&& 31)) &&& 255)) 200 (nI ((((cn 3) + 1) + 1) + 1)) ((v0 >>> (0 &&& 31)) &&& 255)))) := va_D_eq xsa_2 hD
  refine lv_aload_n hx hb dX8_add_25 rfl (lvA1 hl) ?_
  refine lv_aload_n hx hb dX8_add_26 rfl (lvA1 hl) ?_
  refine gf_RX8_13 S hK hP 1 xo_1 (v := .int (nI ((((cn 3) + 1) + 1) + 1))) rfl dX8_add_27 ?_
  refine lv_iconst (v := 1) hx hb dX8_add_30 kic_1 ?_
  refine lv_iadd hx hb dX8_add_31 ?_
  refine lv_topi (fun y_19 ey_19 => ?_)
  obtain rfl : y_19 = (nI (((((cn 3) + 1) + 1) + 1) + 1)) := ey_19.trans (nI_add ((((cn 3) + 1) + 1) + 1) 1)
  refine lv_sipush (v := 200) hx hb dX8_add_32 (by decide) ?_
  refine va_mmin hx hb (by rw [hml]; exact hl.1.symm) hown (S.2.2.2.2 _ (wk3_3 10 rfl rfl)) (S.2.2.2.2 _ (wk2_13 10 rfl rfl)) (S.2.2.2.2 _ (wk1_0 3 rfl rfl)) (S.2.2.2.2 _ (wk2_13 11 rfl rfl)) (Nat.le_of_ble_eq_true rfl) (Nat.le_of_ble_eq_true rfl) (Nat.le_of_ble_eq_true rfl) (Nat.le_of_ble_eq_true rfl) dX8_add_35 ?_
  refine lv_topi (fun y_20 ey_20 => ?_)
  obtain rfl : y_20 = (nI (((((cn 3) + 1) + 1) + 1) + 1)) := ey_20.trans (min200b (by (first | omega | (have zz0 := Hid.u hb_cn; omega))))
  refine pf_RX8_13 S hK hP hD hS 1 xo_1 (v := .int (nI (((((cn 3) + 1) + 1) + 1) + 1))) (Nat.le_of_ble_eq_true rfl) rfl rfl dX8_add_38 (fun H locs hP hD hS => ?_)
  have hP : va_P D vwCl (wX cI (D.1 99) zz g ad (va_up (va_up (va_up (va_up cn 3 ((cn 3) + 1)) 3 (((cn 3) + 1) + 1)) 3 ((((cn 3) + 1) + 1) + 1)) 3 (((((cn 3) + 1) + 1) + 1) + 1)) In (va_up (va_up (va_up (va_up Fn 40 (putM (Fn 40) 200 (nI (cn 3)) ((v0 >>> (24 &&& 31)) &&& 255))) 40 (putM (putM (Fn 40) 200 (nI (cn 3)) ((v0 >>> (24 &&& 31)) &&& 255)) 200 (nI ((cn 3) + 1)) ((v0 >>> (16 &&& 31)) &&& 255))) 40 (putM (putM (putM (Fn 40) 200 (nI (cn 3)) ((v0 >>> (24 &&& 31)) &&& 255)) 200 (nI ((cn 3) + 1)) ((v0 >>> (16 &&& 31)) &&& 255)) 200 (nI (((cn 3) + 1) + 1)) ((v0 >>> (8 &&& 31)) &&& 255))) 40 (putM (putM (putM (putM (Fn 40) 200 (nI (cn 3)) ((v0 >>> (24 &&& 31)) &&& 255)) 200 (nI ((cn 3) + 1)) ((v0 >>> (16 &&& 31)) &&& 255)) 200 (nI (((cn 3) + 1) + 1)) ((v0 >>> (8 &&& 31)) &&& 255)) 200 (nI ((((cn 3) + 1) + 1) + 1)) ((v0 >>> (0 &&& 31)) &&& 255)))) H := va_P_eq (xsf_1_1) hP
  have hD : va_D A (wX cI (D.1 99) zz g ad (va_up (va_up (va_up (va_up cn 3 ((cn 3) + 1)) 3 (((cn 3) + 1) + 1)) 3 ((((cn 3) + 1) + 1) + 1)) 3 (((((cn 3) + 1) + 1) + 1) + 1)) In (va_up (va_up (va_up (va_up Fn 40 (putM (Fn 40) 200 (nI (cn 3)) ((v0 >>> (24 &&& 31)) &&& 255))) 40 (putM (putM (Fn 40) 200 (nI (cn 3)) ((v0 >>> (24 &&& 31)) &&& 255)) 200 (nI ((cn 3) + 1)) ((v0 >>> (16 &&& 31)) &&& 255))) 40 (putM (putM (putM (Fn 40) 200 (nI (cn 3)) ((v0 >>> (24 &&& 31)) &&& 255)) 200 (nI ((cn 3) + 1)) ((v0 >>> (16 &&& 31)) &&& 255)) 200 (nI (((cn 3) + 1) + 1)) ((v0 >>> (8 &&& 31)) &&& 255))) 40 (putM (putM (putM (putM (Fn 40) 200 (nI (cn 3)) ((v0 >>> (24 &&& 31)) &&& 255)) 200 (nI ((cn 3) + 1)) ((v0 >>> (16 &&& 31)) &&& 255)) 200 (nI (((cn 3) + 1) + 1)) ((v0 >>> (8 &&& 31)) &&& 255)) 200 (nI ((((cn 3) + 1) + 1) + 1)) ((v0 >>> (0 &&& 31)) &&& 255)))) := va_D_eq (xsf_1_1) hD
  refine lv_iinc (v := (-8)) (lv' := [(2, .int (-8)), (0, .ref (g 5)), (1, .int v0)]) hx hb dX8_add_41 hl (k := 0) rfl (by decide) (ltb rfl) rfl (fun ls hl => ?_)
  refine lv_goto (tgt := 3) hx hb dX8_add_44 rfl ?_
  refine lv_iload_n hx hb dX8_add_3 rfl (lvA0 hl) ?_
  refine lv_if_lt (tgt := 47) hx hb dX8_add_4 rfl (fun _ => ?_) (fun h => absurd h cq_lt_m8_0)
  exact W.vret hx hb hr (fun t ht hW => ⟨⟨((va_up (va_up (va_up (va_up cn 3 ((cn 3) + 1)) 3 (((cn 3) + 1) + 1)) 3 ((((cn 3) + 1) + 1) + 1)) 3 (((((cn 3) + 1) + 1) + 1) + 1)), In, (va_up (va_up (va_up (va_up Fn 40 (putM (Fn 40) 200 (nI (cn 3)) ((v0 >>> (24 &&& 31)) &&& 255))) 40 (putM (putM (Fn 40) 200 (nI (cn 3)) ((v0 >>> (24 &&& 31)) &&& 255)) 200 (nI ((cn 3) + 1)) ((v0 >>> (16 &&& 31)) &&& 255))) 40 (putM (putM (putM (Fn 40) 200 (nI (cn 3)) ((v0 >>> (24 &&& 31)) &&& 255)) 200 (nI ((cn 3) + 1)) ((v0 >>> (16 &&& 31)) &&& 255)) 200 (nI (((cn 3) + 1) + 1)) ((v0 >>> (8 &&& 31)) &&& 255))) 40 (putM (putM (putM (putM (Fn 40) 200 (nI (cn 3)) ((v0 >>> (24 &&& 31)) &&& 255)) 200 (nI ((cn 3) + 1)) ((v0 >>> (16 &&& 31)) &&& 255)) 200 (nI (((cn 3) + 1) + 1)) ((v0 >>> (8 &&& 31)) &&& 255)) 200 (nI ((((cn 3) + 1) + 1) + 1)) ((v0 >>> (0 &&& 31)) &&& 255)))), rfl, ⟨(Fr.mo (Fr.f 40 (Fr.f 40 (Fr.f 40 (Fr.f 40 (Fr.c 3 (Fr.c 3 (Fr.c 3 (Fr.c 3 Fr.rf)))))))) (sbl rfl) (sbl rfl) (sbl rfl)), (CBX.cg (c2 := (va_up (va_up (va_up (va_up cn 3 ((cn 3) + 1)) 3 (((cn 3) + 1) + 1)) 3 ((((cn 3) + 1) + 1) + 1)) 3 (((((cn 3) + 1) + 1) + 1) + 1))) (CBX.u3 (v := (((((cn 3) + 1) + 1) + 1) + 1)) hB (show (((((cn 3) + 1) + 1) + 1) + 1) ≤ 200 by (first | omega | (have zz0 := Hid.u hb_cn; omega)))) rfl rfl rfl rfl rfl rfl rfl rfl rfl rfl rfl rfl rfl rfl rfl rfl rfl rfl), (by show (va_up (va_up (va_up (va_up cn 3 ((cn 3) + 1)) 3 (((cn 3) + 1) + 1)) 3 ((((cn 3) + 1) + 1) + 1)) 3 (((((cn 3) + 1) + 1) + 1) + 1)) 3 = cn 3 + 4 ∧ (va_up (va_up (va_up (va_up Fn 40 (putM (Fn 40) 200 (nI (cn 3)) ((v0 >>> (24 &&& 31)) &&& 255))) 40 (putM (putM (Fn 40) 200 (nI (cn 3)) ((v0 >>> (24 &&& 31)) &&& 255)) 200 (nI ((cn 3) + 1)) ((v0 >>> (16 &&& 31)) &&& 255))) 40 (putM (putM (putM (Fn 40) 200 (nI (cn 3)) ((v0 >>> (24 &&& 31)) &&& 255)) 200 (nI ((cn 3) + 1)) ((v0 >>> (16 &&& 31)) &&& 255)) 200 (nI (((cn 3) + 1) + 1)) ((v0 >>> (8 &&& 31)) &&& 255))) 40 (putM (putM (putM (putM (Fn 40) 200 (nI (cn 3)) ((v0 >>> (24 &&& 31)) &&& 255)) 200 (nI ((cn 3) + 1)) ((v0 >>> (16 &&& 31)) &&& 255)) 200 (nI (((cn 3) + 1) + 1)) ((v0 >>> (8 &&& 31)) &&& 255)) 200 (nI ((((cn 3) + 1) + 1) + 1)) ((v0 >>> (0 &&& 31)) &&& 255))) 40 = tpX (Fn 40) (cn 3) v0; exact ⟨rfl, rfl⟩)⟩, by rw [ht]; exact hP, hD⟩, hS.F ht⟩) hS.2.2 (oc_177 47 (aq_22 shX8_add_25))
set_option maxRecDepth 100000 in
set_option maxHeartbeats 4000000 in
theorem q_types9 (l : Launch) (D : va_G) (cI cB cZ : ClassId) (g : Nat → Nat) (cn : Nat → Nat) (In : Nat → Int32) (Fn : Nat → Nat → Int32) (v0 : Int32) (sz : Nat) (hI : IM cn Fn) (ht : cn 18 + 4 ≤ 200) : Met l yX12_types (CWS yX12_types cX12_types 3 none) (RM 0 0 0) (PBw [.ref (g 100), .int v0] D cI cB cZ (wM cI cB cZ g cn In Fn) sz) (va_Qv (fun (u : (Nat → Nat) × (Nat → Int32) × (Nat → Nat → Int32)) => (fun c2 I2 F2 => Fr [18] [] [17] cn In Fn c2 I2 F2 ∧ IM c2 F2 ∧ (c2 18 = cn 18 + 4 ∧ F2 17 = tpM (Fn 17) (cn 18) v0)) u.1 u.2.1 u.2.2) (fun (u : (Nat → Nat) × (Nat → Int32) × (Nat → Nat → Int32)) (t : State) => va_P D vwCl (wM cI cB cZ g u.1 u.2.1 u.2.2) t.heap ∧ va_D (va_A (wM cI cB cZ g cn In Fn) sz) (wM cI cB cZ g u.1 u.2.1 u.2.2)) (va_A (wM cI cB cZ g cn In Fn) sz)) 0 0 (va_A (wM cI cB cZ g cn In Fn) sz) := by
  refine en_w (fun A => (va_Qv (fun (u : (Nat → Nat) × (Nat → Int32) × (Nat → Nat → Int32)) => (fun (c2 : Nat → Nat) (I2 : Nat → Int32) (F2 : Nat → Nat → Int32) => Fr [18] [] [17] cn In Fn c2 I2 F2 ∧ IM c2 F2 ∧ (c2 18 = cn 18 + 4 ∧ F2 17 = tpM (Fn 17) (cn 18) v0)) u.1 u.2.1 u.2.2) (fun (u : (Nat → Nat) × (Nat → Int32) × (Nat → Nat → Int32)) (t : State) => va_P D vwCl (wM cI cB cZ g u.1 u.2.1 u.2.2) t.heap ∧ va_D A (wM cI cB cZ g u.1 u.2.1 u.2.2)) A)) rfl rfl pn_RX12 (Nat.le_of_ble_eq_true rfl) (fun p e s m below meth c A hx hb hml hown S hr hlocks hnm hA hP hK hD hS ls hl => ?_)
  have hl : lv_has ls 3 [(0, .ref (g 100)), (1, .int v0)] := hl
  have hi_cn : Hid (CB cn) := hI.b
  refine lv_iconst (v := 3) hx hb (oc_6 0 shX12_types_0) kic_3 ?_
  refine lv_istore_n (lv' := [(2, .int 3), (0, .ref (g 100)), (1, .int v0)]) hx hb (oc_61 1 (aq_1 shX12_types_0)) rfl hl (ltb rfl) rfl (fun ls hl => ?_)
  refine lv_iload_n hx hb dX12_types_2 rfl (lvA0 hl) ?_
  refine lv_if_lt (tgt := 38) hx hb dX12_types_3 rfl (fun h => absurd h cq_lt_3_0) (fun _ => ?_)
  refine lv_aload_n hx hb dX12_types_6 rfl (lvA1 hl) ?_
  refine gM_52 S hK hP (v := .ref (g 17)) rfl dX12_types_7 ?_
  refine lv_aload_n hx hb dX12_types_10 rfl (lvA1 hl) ?_
  refine gM_226 S hK hP (v := .int (nI (cn 18))) rfl dX12_types_11 ?_
  refine lv_iload_n hx hb dX12_types_14 rfl (lvA2 hl) ?_
  refine lv_bipush (v := 8) hx hb dX12_types_15 kbc_8 ?_
  refine lv_iload_n hx hb dX12_types_17 rfl (lvA0 hl) ?_
  refine lv_imul hx hb dX12_types_18 ?_
  refine lv_topi (fun y_1 ey_1 => ?_)
  obtain rfl : y_1 = 24 := ey_1.trans (by decide)
  refine lv_ishr hx hb dX12_types_19 ?_
  refine lv_i2b (v := (v0 >>> (24 &&& 31)).toInt8.toInt32) hx hb dX12_types_20 rfl ?_
  have kb_1 : (cn 18) < 200 := by (first | omega | (have zz0 := Hid.u hi_cn; omega))
  refine stM_17 hx hb hK hP hD hS (Fn2 := (va_up Fn 17 (upd (Fn 17) (cn 18) (vp_nar .byte (v0 >>> (24 &&& 31)).toInt8.toInt32)))) (vp_in_nI kb_1 (ltb rfl)) (nI_clamp (Nat.lt_trans kb_1 (ltb rfl))) rfl dX12_types_21 (fun H locs hP hD hS => ?_)
  refine lv_aload_n hx hb dX12_types_22 rfl (lvA1 hl) ?_
  refine lv_aload_n hx hb dX12_types_23 rfl (lvA1 hl) ?_
  refine gM_226 S hK hP (v := .int (nI (cn 18))) rfl dX12_types_24 ?_
  refine lv_iconst (v := 1) hx hb dX12_types_27 kic_1 ?_
  refine lv_iadd hx hb dX12_types_28 ?_
  refine lv_topi (fun y_2 ey_2 => ?_)
  obtain rfl : y_2 = (nI ((cn 18) + 1)) := ey_2.trans (nI_add (cn 18) 1)
  refine pM_226 S hK hP hD hS (a := ((cn 18) + 1)) (cn2 := (va_up cn 18 ((cn 18) + 1))) rfl rfl dX12_types_29 (fun H locs hP hD hS => ?_)
  refine lv_iinc (v := 2) (lv' := [(2, .int 2), (0, .ref (g 100)), (1, .int v0)]) hx hb dX12_types_32 hl (k := 0) rfl (by decide) (ltb rfl) rfl (fun ls hl => ?_)
  refine lv_goto (tgt := 2) hx hb dX12_types_35 rfl ?_
  refine lv_iload_n hx hb dX12_types_2 rfl (lvA0 hl) ?_
  refine lv_if_lt (tgt := 38) hx hb dX12_types_3 rfl (fun h => absurd h cq_lt_2_0) (fun _ => ?_)
  refine lv_aload_n hx hb dX12_types_6 rfl (lvA1 hl) ?_
  refine gM_52 S hK hP (v := .ref (g 17)) rfl dX12_types_7 ?_
  refine lv_aload_n hx hb dX12_types_10 rfl (lvA1 hl) ?_
  refine gM_226 S hK hP (v := .int (nI ((cn 18) + 1))) rfl dX12_types_11 ?_
  refine lv_iload_n hx hb dX12_types_14 rfl (lvA2 hl) ?_
  refine lv_bipush (v := 8) hx hb dX12_types_15 kbc_8 ?_
  refine lv_iload_n hx hb dX12_types_17 rfl (lvA0 hl) ?_
  refine lv_imul hx hb dX12_types_18 ?_
  refine lv_topi (fun y_3 ey_3 => ?_)
  obtain rfl : y_3 = 16 := ey_3.trans (by decide)
  refine lv_ishr hx hb dX12_types_19 ?_
  refine lv_i2b (v := (v0 >>> (16 &&& 31)).toInt8.toInt32) hx hb dX12_types_20 rfl ?_
  have kb_2 : ((cn 18) + 1) < 200 := by (first | omega | (have zz0 := Hid.u hi_cn; omega))
  refine stM_17 hx hb hK hP hD hS (Fn2 := (va_up Fn 17 (upd (upd (Fn 17) (cn 18) (vp_nar .byte (v0 >>> (24 &&& 31)).toInt8.toInt32)) ((cn 18) + 1) (vp_nar .byte (v0 >>> (16 &&& 31)).toInt8.toInt32)))) (vp_in_nI kb_2 (ltb rfl)) (nI_clamp (Nat.lt_trans kb_2 (ltb rfl))) (bx_uu _ _ _ _) dX12_types_21 (fun H locs hP hD hS => ?_)
  refine lv_aload_n hx hb dX12_types_22 rfl (lvA1 hl) ?_
  refine lv_aload_n hx hb dX12_types_23 rfl (lvA1 hl) ?_
  refine gM_226 S hK hP (v := .int (nI ((cn 18) + 1))) rfl dX12_types_24 ?_
  refine lv_iconst (v := 1) hx hb dX12_types_27 kic_1 ?_
  refine lv_iadd hx hb dX12_types_28 ?_
  refine lv_topi (fun y_4 ey_4 => ?_)
  obtain rfl : y_4 = (nI (((cn 18) + 1) + 1)) := ey_4.trans (nI_add ((cn 18) + 1) 1)
  refine pM_226 S hK hP hD hS (a := (((cn 18) + 1) + 1)) (cn2 := (va_up cn 18 (((cn 18) + 1) + 1))) rfl (bx_uu _ _ _ _) dX12_types_29 (fun H locs hP hD hS => ?_)
  refine lv_iinc (v := 1) (lv' := [(2, .int 1), (0, .ref (g 100)), (1, .int v0)]) hx hb dX12_types_32 hl (k := 0) rfl (by decide) (ltb rfl) rfl (fun ls hl => ?_)
  refine lv_goto (tgt := 2) hx hb dX12_types_35 rfl ?_
  refine lv_iload_n hx hb dX12_types_2 rfl (lvA0 hl) ?_
  refine lv_if_lt (tgt := 38) hx hb dX12_types_3 rfl (fun h => absurd h cq_lt_1_0) (fun _ => ?_)
  refine lv_aload_n hx hb dX12_types_6 rfl (lvA1 hl) ?_
  refine gM_52 S hK hP (v := .ref (g 17)) rfl dX12_types_7 ?_
  refine lv_aload_n hx hb dX12_types_10 rfl (lvA1 hl) ?_
  refine gM_226 S hK hP (v := .int (nI (((cn 18) + 1) + 1))) rfl dX12_types_11 ?_
  refine lv_iload_n hx hb dX12_types_14 rfl (lvA2 hl) ?_
  refine lv_bipush (v := 8) hx hb dX12_types_15 kbc_8 ?_
  refine lv_iload_n hx hb dX12_types_17 rfl (lvA0 hl) ?_
  refine lv_imul hx hb dX12_types_18 ?_
  refine lv_topi (fun y_5 ey_5 => ?_)
  obtain rfl : y_5 = 8 := ey_5.trans (by decide)
  refine lv_ishr hx hb dX12_types_19 ?_
  refine lv_i2b (v := (v0 >>> (8 &&& 31)).toInt8.toInt32) hx hb dX12_types_20 rfl ?_
  have kb_3 : (((cn 18) + 1) + 1) < 200 := by (first | omega | (have zz0 := Hid.u hi_cn; omega))
  refine stM_17 hx hb hK hP hD hS (Fn2 := (va_up Fn 17 (upd (upd (upd (Fn 17) (cn 18) (vp_nar .byte (v0 >>> (24 &&& 31)).toInt8.toInt32)) ((cn 18) + 1) (vp_nar .byte (v0 >>> (16 &&& 31)).toInt8.toInt32)) (((cn 18) + 1) + 1) (vp_nar .byte (v0 >>> (8 &&& 31)).toInt8.toInt32)))) (vp_in_nI kb_3 (ltb rfl)) (nI_clamp (Nat.lt_trans kb_3 (ltb rfl))) (bx_uu _ _ _ _) dX12_types_21 (fun H locs hP hD hS => ?_)
  refine lv_aload_n hx hb dX12_types_22 rfl (lvA1 hl) ?_
  refine lv_aload_n hx hb dX12_types_23 rfl (lvA1 hl) ?_
  refine gM_226 S hK hP (v := .int (nI (((cn 18) + 1) + 1))) rfl dX12_types_24 ?_
  refine lv_iconst (v := 1) hx hb dX12_types_27 kic_1 ?_
  refine lv_iadd hx hb dX12_types_28 ?_
  refine lv_topi (fun y_6 ey_6 => ?_)
  obtain rfl : y_6 = (nI ((((cn 18) + 1) + 1) + 1)) := ey_6.trans (nI_add (((cn 18) + 1) + 1) 1)
  refine pM_226 S hK hP hD hS (a := ((((cn 18) + 1) + 1) + 1)) (cn2 := (va_up cn 18 ((((cn 18) + 1) + 1) + 1))) rfl (bx_uu _ _ _ _) dX12_types_29 (fun H locs hP hD hS => ?_)
  refine lv_iinc (v := 0) (lv' := [(2, .int 0), (0, .ref (g 100)), (1, .int v0)]) hx hb dX12_types_32 hl (k := 0) rfl (by decide) (ltb rfl) rfl (fun ls hl => ?_)
  refine lv_goto (tgt := 2) hx hb dX12_types_35 rfl ?_
  refine lv_iload_n hx hb dX12_types_2 rfl (lvA0 hl) ?_
  refine lv_if_lt (tgt := 38) hx hb dX12_types_3 rfl (fun h => absurd h cq_lt_0_0) (fun _ => ?_)
  refine lv_aload_n hx hb dX12_types_6 rfl (lvA1 hl) ?_
  refine gM_52 S hK hP (v := .ref (g 17)) rfl dX12_types_7 ?_
  refine lv_aload_n hx hb dX12_types_10 rfl (lvA1 hl) ?_
  refine gM_226 S hK hP (v := .int (nI ((((cn 18) + 1) + 1) + 1))) rfl dX12_types_11 ?_
  refine lv_iload_n hx hb dX12_types_14 rfl (lvA2 hl) ?_
  refine lv_bipush (v := 8) hx hb dX12_types_15 kbc_8 ?_
  refine lv_iload_n hx hb dX12_types_17 rfl (lvA0 hl) ?_
  refine lv_imul hx hb dX12_types_18 ?_
  refine lv_topi (fun y_7 ey_7 => ?_)
  obtain rfl : y_7 = 0 := ey_7.trans (by decide)
  refine lv_ishr hx hb dX12_types_19 ?_
  refine lv_i2b (v := (v0 >>> (0 &&& 31)).toInt8.toInt32) hx hb dX12_types_20 rfl ?_
  have kb_4 : ((((cn 18) + 1) + 1) + 1) < 200 := by (first | omega | (have zz0 := Hid.u hi_cn; omega))
  refine stM_17 hx hb hK hP hD hS (Fn2 := (va_up Fn 17 (upd (upd (upd (upd (Fn 17) (cn 18) (vp_nar .byte (v0 >>> (24 &&& 31)).toInt8.toInt32)) ((cn 18) + 1) (vp_nar .byte (v0 >>> (16 &&& 31)).toInt8.toInt32)) (((cn 18) + 1) + 1) (vp_nar .byte (v0 >>> (8 &&& 31)).toInt8.toInt32)) ((((cn 18) + 1) + 1) + 1) (vp_nar .byte (v0 >>> (0 &&& 31)).toInt8.toInt32)))) (vp_in_nI kb_4 (ltb rfl)) (nI_clamp (Nat.lt_trans kb_4 (ltb rfl))) (bx_uu _ _ _ _) dX12_types_21 (fun H locs hP hD hS => ?_)
  refine lv_aload_n hx hb dX12_types_22 rfl (lvA1 hl) ?_
  refine lv_aload_n hx hb dX12_types_23 rfl (lvA1 hl) ?_
  refine gM_226 S hK hP (v := .int (nI ((((cn 18) + 1) + 1) + 1))) rfl dX12_types_24 ?_
  refine lv_iconst (v := 1) hx hb dX12_types_27 kic_1 ?_
  refine lv_iadd hx hb dX12_types_28 ?_
  refine lv_topi (fun y_8 ey_8 => ?_)
  obtain rfl : y_8 = (nI (((((cn 18) + 1) + 1) + 1) + 1)) := ey_8.trans (nI_add ((((cn 18) + 1) + 1) + 1) 1)
  refine pM_226 S hK hP hD hS (a := (((((cn 18) + 1) + 1) + 1) + 1)) (cn2 := (va_up cn 18 (((((cn 18) + 1) + 1) + 1) + 1))) rfl (bx_uu _ _ _ _) dX12_types_29 (fun H locs hP hD hS => ?_)
  refine lv_iinc (v := (-1)) (lv' := [(2, .int (-1)), (0, .ref (g 100)), (1, .int v0)]) hx hb dX12_types_32 hl (k := 0) rfl (by decide) (ltb rfl) rfl (fun ls hl => ?_)
  refine lv_goto (tgt := 2) hx hb dX12_types_35 rfl ?_
  refine lv_iload_n hx hb dX12_types_2 rfl (lvA0 hl) ?_
  refine lv_if_lt (tgt := 38) hx hb dX12_types_3 rfl (fun _ => ?_) (fun h => absurd h cq_lt_m1_0)
  exact W.vret hx hb hr (fun t ht hW => ⟨⟨((va_up cn 18 (((((cn 18) + 1) + 1) + 1) + 1)), In, (va_up Fn 17 (upd (upd (upd (upd (Fn 17) (cn 18) (vp_nar .byte (v0 >>> (24 &&& 31)).toInt8.toInt32)) ((cn 18) + 1) (vp_nar .byte (v0 >>> (16 &&& 31)).toInt8.toInt32)) (((cn 18) + 1) + 1) (vp_nar .byte (v0 >>> (8 &&& 31)).toInt8.toInt32)) ((((cn 18) + 1) + 1) + 1) (vp_nar .byte (v0 >>> (0 &&& 31)).toInt8.toInt32)))), rfl, ⟨(Fr.mo (Fr.f 17 (Fr.c 18 Fr.rf)) (sbl rfl) (sbl rfl) (sbl rfl)), (IM.fr (In := In) hI (Fr.f 17 (Fr.c 18 Fr.rf)) (by decide) (by decide)), (by show (va_up cn 18 (((((cn 18) + 1) + 1) + 1) + 1)) 18 = cn 18 + 4 ∧ (va_up Fn 17 (upd (upd (upd (upd (Fn 17) (cn 18) (vp_nar .byte (v0 >>> (24 &&& 31)).toInt8.toInt32)) ((cn 18) + 1) (vp_nar .byte (v0 >>> (16 &&& 31)).toInt8.toInt32)) (((cn 18) + 1) + 1) (vp_nar .byte (v0 >>> (8 &&& 31)).toInt8.toInt32)) ((((cn 18) + 1) + 1) + 1) (vp_nar .byte (v0 >>> (0 &&& 31)).toInt8.toInt32))) 17 = tpM (Fn 17) (cn 18) v0; exact ⟨by rw [va_up_self], rfl⟩)⟩, by rw [ht]; exact hP, hD⟩, hS.F ht⟩) hS.2.2 (oc_177 38 (aq_14 shX12_types_24))
set_option maxRecDepth 100000 in
set_option maxHeartbeats 4000000 in
theorem q_Yfeed (l : Launch) (D : va_G) (cI cB cZ : ClassId) (zz qq vv : Nat) (bt : Nat → Int32) (g : Nat → Nat) (ad : Nat → Nat → Nat) (cn : Nat → Nat) (In : Nat → Int32) (Fn : Nat → Nat → Int32) (v0 v1 v2 v3 v4 : Int32) (sz : Nat) (hB : CBX cn) : Met l yX11_feed (CWS yX11_feed cX11_feed 6 (some .int)) (RM 2 0 0) (PBx [.ref (g 0), .int v0, .int v1, .int v2, .int v3, .int v4] D cI cB cZ zz qq vv bt (wX cI (D.1 99) zz g ad cn In Fn) sz) (va_Qi (fun (r : Int32) (u : (Nat → Nat) × (Nat → Int32) × (Nat → Nat → Int32)) => (fun r c2 I2 F2 => Fr [3] [] [40] cn In Fn c2 I2 F2 ∧ CBX c2 ∧ ((cn 3 + 20 ≤ 200 ∧ c2 3 = cn 3 + 20 ∧ (r : Int32).toInt = (cn 3 : Int) + 20 ∧ F2 40 = tp5X (Fn 40) (cn 3) v0 v1 v2 v3 v4) ∨ (¬ cn 3 + 20 ≤ 200 ∧ c2 3 = cn 3 ∧ (r : Int32).toInt = -1 ∧ F2 40 = Fn 40))) r u.1 u.2.1 u.2.2) (fun (u : (Nat → Nat) × (Nat → Int32) × (Nat → Nat → Int32)) (t : State) => va_P D vwCl (wX cI (D.1 99) zz g ad u.1 u.2.1 u.2.2) t.heap ∧ va_D (va_A (wX cI (D.1 99) zz g ad cn In Fn) sz) (wX cI (D.1 99) zz g ad u.1 u.2.1 u.2.2)) (va_A (wX cI (D.1 99) zz g ad cn In Fn) sz)) 0 0 (va_A (wX cI (D.1 99) zz g ad cn In Fn) sz) := by
  refine en_x (fun A => (va_Qi (fun (r : Int32) (u : (Nat → Nat) × (Nat → Int32) × (Nat → Nat → Int32)) => (fun (r : Int32) (c2 : Nat → Nat) (I2 : Nat → Int32) (F2 : Nat → Nat → Int32) => Fr [3] [] [40] cn In Fn c2 I2 F2 ∧ CBX c2 ∧ ((cn 3 + 20 ≤ 200 ∧ c2 3 = cn 3 + 20 ∧ (r : Int32).toInt = (cn 3 : Int) + 20 ∧ F2 40 = tp5X (Fn 40) (cn 3) v0 v1 v2 v3 v4) ∨ (¬ cn 3 + 20 ≤ 200 ∧ c2 3 = cn 3 ∧ (r : Int32).toInt = -1 ∧ F2 40 = Fn 40))) r u.1 u.2.1 u.2.2) (fun (u : (Nat → Nat) × (Nat → Int32) × (Nat → Nat → Int32)) (t : State) => va_P D vwCl (wX cI (D.1 99) zz g ad u.1 u.2.1 u.2.2) t.heap ∧ va_D A (wX cI (D.1 99) zz g ad u.1 u.2.1 u.2.2)) A)) rfl rfl pn_RX11 (Nat.le_of_ble_eq_true rfl) (fun p e s m below meth c A hx hb hml hown S hr hlocks hnm hA hP hK hD hXS hS ls hl => ?_)
  have hl : lv_has ls 6 [(0, .ref (g 0)), (1, .int v0), (2, .int v1), (3, .int v2), (4, .int v3), (5, .int v4)] := hl
  have hb_cn : Hid (CBX cn) := hB
  replace hB : CBXh cn := hB
  refine lv_aload_n hx hb (oc_42 0 shX11_feed_0) rfl (lvA0 hl) ?_
  refine gf_RX11_21 S hK hP 0 xo_0 (v := .ref (g 5)) rfl (oc_180 1 (aq_1 shX11_feed_0) uw_0_21) ?_
  refine vp_callSi (runV_rxa (As := []) (rest := []) S (q_Xlength l D cI cB cZ zz qq vv bt g ad cn In Fn  hB) kV_RX11_152 hK hXS hS hP 1 xo_1 rfl rfl ⟨Nat.le_of_ble_eq_true rfl, Nat.le_of_ble_eq_true rfl⟩ ⟨Nat.le_of_ble_eq_true rfl, Nat.le_of_ble_eq_true rfl⟩ rfl hl.1 rfl (Nat.le_of_ble_eq_true rfl) (oc_182 4 (aq_4 shX11_feed_0) uw_0_152)) (fun r_1 h_2 => ?_)
  subst h_2
  refine lv_bipush (v := 20) hx hb (oc_16 7 (aq_7 shX11_feed_0) sgb_20) kbc_20 ?_
  refine lv_iadd hx hb (oc_96 9 (aq_9 shX11_feed_0)) ?_
  refine lv_topi (fun y_3 ey_3 => ?_)
  obtain rfl : y_3 = (nI (((cn 3)) + 20)) := ey_3.trans (nI_add ((cn 3)) 20)
  refine lv_sipush (v := 200) hx hb (oc_17 10 (aq_10 shX11_feed_0) sgw_0_200) (by decide) ?_
  have : (nI (((cn 3)) + 20)).toInt = (((((cn 3)) + 20) : Nat) : Int) := nI_toInt (by (first | omega | (have zz0 := Hid.u hb_cn; omega)))
  refine lv_icmp_le (tgt := 18) hx hb (oc_164 13 (aq_13 shX11_feed_0) sgw_0_5) rfl (fun c_4 => ?_) (fun c_4 => ?_)
  ·
    have tc_4 : ((nI (((cn 3)) + 20)).toInt : Int) ≤ 200 := Int32.le_iff_toInt_le.mp c_4
    refine lv_aload_n hx hb (oc_42 18 (aq_18 shX11_feed_0)) rfl (lvA0 hl) ?_
    refine gf_RX11_21 S hK hP 0 xo_0 (v := .ref (g 5)) rfl (oc_180 19 (aq_19 shX11_feed_0) uw_0_21) ?_
    refine lv_iload_n hx hb (oc_27 22 (aq_22 shX11_feed_0)) rfl (lvA1 hl) ?_
    have hFc := free_all hD hS hA
    refine va_callv (runV_xa (As := [.int v0]) (rest := []) S (q_Etadd l D cI cB cZ zz qq vv bt g ad cn In Fn v0 s.heap.size hB (by (first | omega | (have zz0 := Hid.u hb_cn; omega)))) kV_RX11_153 hK hXS hS hFc hP hD 1 xo_1 rfl rfl ⟨Nat.le_of_ble_eq_true rfl, Nat.le_of_ble_eq_true rfl⟩ ⟨Nat.le_of_ble_eq_true rfl, Nat.le_of_ble_eq_true rfl⟩ rfl hl.1 rfl (Nat.le_of_ble_eq_true rfl) (oc_182 23 (aq_23 shX11_feed_0) uw_0_153)) hS (fun q _ h => hFc q h) hFc (fun u t H1 locs ht hvm wh_6 hB1 hz1 hk1 hS => ?_)
    obtain ⟨cn6, In6, Fn6⟩ := u
    obtain ⟨hP1, hD1⟩ := hB1
    rw [ht] at hP1
    have hP : va_P D vwCl (wX cI (D.1 99) zz g ad cn6 In6 Fn6) H1 := hP1
    have hD : va_D A (wX cI (D.1 99) zz g ad cn6 In6 Fn6) := hD1.weaken (fun _ _ _ h => hFc _ h)
    generalize H1 = H at hP hS ⊢
    have vh_6 : (fun c2 I2 F2 => Fr [3] [] [40] cn In Fn c2 I2 F2 ∧ CBX c2 ∧ (c2 3 = (cn 3) + 4 ∧ F2 40 = tpX ((Fn 40)) ((cn 3)) v0)) cn6 In6 Fn6 := wh_6
    obtain ⟨hfc6, hIn6, h_6⟩ := vh_6
    obtain rfl : In = In6 := (funext (fun k => hfc6.2.1 k List.not_mem_nil)).symm
    have hf6 : Fr [3] [] [40] cn In Fn cn6 In Fn6 := Fr.mo (Fr.tr (Fr.rf (cn := cn) (In := In) (Fn := Fn)) hfc6) (sbl rfl) (sbl rfl) (sbl rfl)
    have hb_cn6 : Hid (CBX cn6) := hIn6
    replace hIn6 : CBXh cn6 := hIn6
    have : cn6 6 = (cn 6) := hfc6.1 6 (nml rfl)
    have : cn6 31 = (cn 31) := hfc6.1 31 (nml rfl)
    have : cn6 32 = (cn 32) := hfc6.1 32 (nml rfl)
    have hq_cn6 : Hid (cn6 0 = (cn 0) ∧ cn6 1 = (cn 1) ∧ cn6 2 = (cn 2) ∧ cn6 4 = (cn 4) ∧ cn6 5 = (cn 5) ∧ cn6 10 = (cn 10) ∧ cn6 11 = (cn 11) ∧ cn6 12 = (cn 12) ∧ cn6 13 = (cn 13) ∧ cn6 14 = (cn 14) ∧ cn6 15 = (cn 15) ∧ cn6 20 = (cn 20) ∧ cn6 21 = (cn 21) ∧ cn6 22 = (cn 22) ∧ cn6 23 = (cn 23) ∧ cn6 24 = (cn 24) ∧ cn6 25 = (cn 25)) := Hid.i (p := cn6 0 = (cn 0) ∧ cn6 1 = (cn 1) ∧ cn6 2 = (cn 2) ∧ cn6 4 = (cn 4) ∧ cn6 5 = (cn 5) ∧ cn6 10 = (cn 10) ∧ cn6 11 = (cn 11) ∧ cn6 12 = (cn 12) ∧ cn6 13 = (cn 13) ∧ cn6 14 = (cn 14) ∧ cn6 15 = (cn 15) ∧ cn6 20 = (cn 20) ∧ cn6 21 = (cn 21) ∧ cn6 22 = (cn 22) ∧ cn6 23 = (cn 23) ∧ cn6 24 = (cn 24) ∧ cn6 25 = (cn 25)) ⟨hfc6.1 0 (nml rfl), hfc6.1 1 (nml rfl), hfc6.1 2 (nml rfl), hfc6.1 4 (nml rfl), hfc6.1 5 (nml rfl), hfc6.1 10 (nml rfl), hfc6.1 11 (nml rfl), hfc6.1 12 (nml rfl), hfc6.1 13 (nml rfl), hfc6.1 14 (nml rfl), hfc6.1 15 (nml rfl), hfc6.1 20 (nml rfl), hfc6.1 21 (nml rfl), hfc6.1 22 (nml rfl), hfc6.1 23 (nml rfl), hfc6.1 24 (nml rfl), hfc6.1 25 (nml rfl)⟩
    refine lv_aload_n hx hb (oc_42 26 shX11_feed_26) rfl (lvA0 hl) ?_
    refine gf_RX11_21 S hK hP 0 xo_0 (v := .ref (g 5)) rfl (oc_180 27 (aq_1 shX11_feed_26) uw_0_21) ?_
    refine lv_iload_n hx hb (oc_28 30 (aq_4 shX11_feed_26)) rfl (lvA2 hl) ?_
    have hFc := free_all hD hS hA
    refine va_callv (runV_xa (As := [.int v1]) (rest := []) S (q_Etadd l D cI cB cZ zz qq vv bt g ad cn6 In Fn6 v1 H.size hIn6 (by (first | omega | (have zz0 := Hid.u hb_cn; have zz1 := Hid.u hb_cn6; have zz2 := Hid.u hq_cn6; omega)))) kV_RX11_153 hK hXS hS hFc hP hD 1 xo_1 rfl rfl ⟨Nat.le_of_ble_eq_true rfl, Nat.le_of_ble_eq_true rfl⟩ ⟨Nat.le_of_ble_eq_true rfl, Nat.le_of_ble_eq_true rfl⟩ rfl hl.1 rfl (Nat.le_of_ble_eq_true rfl) (oc_182 31 (aq_5 shX11_feed_26) uw_0_153)) hS (fun q _ h => hFc q h) hFc (fun u t H1 locs ht hvm wh_8 hB1 hz1 hk1 hS => ?_)
    obtain ⟨cn8, In8, Fn8⟩ := u
    obtain ⟨hP1, hD1⟩ := hB1
    rw [ht] at hP1
    have hP : va_P D vwCl (wX cI (D.1 99) zz g ad cn8 In8 Fn8) H1 := hP1
    have hD : va_D A (wX cI (D.1 99) zz g ad cn8 In8 Fn8) := hD1.weaken (fun _ _ _ h => hFc _ h)
    generalize H1 = H at hP hS ⊢
    have vh_8 : (fun c2 I2 F2 => Fr [3] [] [40] cn6 In Fn6 c2 I2 F2 ∧ CBX c2 ∧ (c2 3 = (cn6 3) + 4 ∧ F2 40 = tpX ((Fn6 40)) ((cn6 3)) v1)) cn8 In8 Fn8 := wh_8
    obtain ⟨hfc8, hIn8, h_8⟩ := vh_8
    obtain rfl : In = In8 := (funext (fun k => hfc8.2.1 k List.not_mem_nil)).symm
    have hf8 : Fr [3] [] [40] cn In Fn cn8 In Fn8 := Fr.mo (Fr.tr hf6 hfc8) (sbl rfl) (sbl rfl) (sbl rfl)
    have hb_cn8 : Hid (CBX cn8) := hIn8
    replace hIn8 : CBXh cn8 := hIn8
    have : cn8 6 = (cn6 6) := hfc8.1 6 (nml rfl)
    have : cn8 31 = (cn6 31) := hfc8.1 31 (nml rfl)
    have : cn8 32 = (cn6 32) := hfc8.1 32 (nml rfl)
    have hq_cn8 : Hid (cn8 0 = (cn6 0) ∧ cn8 1 = (cn6 1) ∧ cn8 2 = (cn6 2) ∧ cn8 4 = (cn6 4) ∧ cn8 5 = (cn6 5) ∧ cn8 10 = (cn6 10) ∧ cn8 11 = (cn6 11) ∧ cn8 12 = (cn6 12) ∧ cn8 13 = (cn6 13) ∧ cn8 14 = (cn6 14) ∧ cn8 15 = (cn6 15) ∧ cn8 20 = (cn6 20) ∧ cn8 21 = (cn6 21) ∧ cn8 22 = (cn6 22) ∧ cn8 23 = (cn6 23) ∧ cn8 24 = (cn6 24) ∧ cn8 25 = (cn6 25)) := Hid.i (p := cn8 0 = (cn6 0) ∧ cn8 1 = (cn6 1) ∧ cn8 2 = (cn6 2) ∧ cn8 4 = (cn6 4) ∧ cn8 5 = (cn6 5) ∧ cn8 10 = (cn6 10) ∧ cn8 11 = (cn6 11) ∧ cn8 12 = (cn6 12) ∧ cn8 13 = (cn6 13) ∧ cn8 14 = (cn6 14) ∧ cn8 15 = (cn6 15) ∧ cn8 20 = (cn6 20) ∧ cn8 21 = (cn6 21) ∧ cn8 22 = (cn6 22) ∧ cn8 23 = (cn6 23) ∧ cn8 24 = (cn6 24) ∧ cn8 25 = (cn6 25)) ⟨hfc8.1 0 (nml rfl), hfc8.1 1 (nml rfl), hfc8.1 2 (nml rfl), hfc8.1 4 (nml rfl), hfc8.1 5 (nml rfl), hfc8.1 10 (nml rfl), hfc8.1 11 (nml rfl), hfc8.1 12 (nml rfl), hfc8.1 13 (nml rfl), hfc8.1 14 (nml rfl), hfc8.1 15 (nml rfl), hfc8.1 20 (nml rfl), hfc8.1 21 (nml rfl), hfc8.1 22 (nml rfl), hfc8.1 23 (nml rfl), hfc8.1 24 (nml rfl), hfc8.1 25 (nml rfl)⟩
    refine lv_aload_n hx hb (oc_42 34 (aq_8 shX11_feed_26)) rfl (lvA0 hl) ?_
    refine gf_RX11_21 S hK hP 0 xo_0 (v := .ref (g 5)) rfl (oc_180 35 (aq_9 shX11_feed_26) uw_0_21) ?_
    refine lv_iload_n hx hb (oc_29 38 (aq_12 shX11_feed_26)) rfl (lvA3 hl) ?_
    have hFc := free_all hD hS hA
    refine va_callv (runV_xa (As := [.int v2]) (rest := []) S (q_Etadd l D cI cB cZ zz qq vv bt g ad cn8 In Fn8 v2 H.size hIn8 (by (first | omega | (have zz0 := Hid.u hb_cn; have zz1 := Hid.u hb_cn6; have zz2 := Hid.u hb_cn8; have zz3 := Hid.u hq_cn6; have zz4 := Hid.u hq_cn8; omega)))) kV_RX11_153 hK hXS hS hFc hP hD 1 xo_1 rfl rfl ⟨Nat.le_of_ble_eq_true rfl, Nat.le_of_ble_eq_true rfl⟩ ⟨Nat.le_of_ble_eq_true rfl, Nat.le_of_ble_eq_true rfl⟩ rfl hl.1 rfl (Nat.le_of_ble_eq_true rfl) (oc_182 39 (aq_13 shX11_feed_26) uw_0_153)) hS (fun q _ h => hFc q h) hFc (fun u t H1 locs ht hvm wh_10 hB1 hz1 hk1 hS => ?_)
    obtain ⟨cn10, In10, Fn10⟩ := u
    obtain ⟨hP1, hD1⟩ := hB1
    rw [ht] at hP1
    have hP : va_P D vwCl (wX cI (D.1 99) zz g ad cn10 In10 Fn10) H1 := hP1
    have hD : va_D A (wX cI (D.1 99) zz g ad cn10 In10 Fn10) := hD1.weaken (fun _ _ _ h => hFc _ h)
    generalize H1 = H at hP hS ⊢
    have vh_10 : (fun c2 I2 F2 => Fr [3] [] [40] cn8 In Fn8 c2 I2 F2 ∧ CBX c2 ∧ (c2 3 = (cn8 3) + 4 ∧ F2 40 = tpX ((Fn8 40)) ((cn8 3)) v2)) cn10 In10 Fn10 := wh_10
    obtain ⟨hfc10, hIn10, h_10⟩ := vh_10
    obtain rfl : In = In10 := (funext (fun k => hfc10.2.1 k List.not_mem_nil)).symm
    have hf10 : Fr [3] [] [40] cn In Fn cn10 In Fn10 := Fr.mo (Fr.tr hf8 hfc10) (sbl rfl) (sbl rfl) (sbl rfl)
    have hb_cn10 : Hid (CBX cn10) := hIn10
    replace hIn10 : CBXh cn10 := hIn10
    have : cn10 6 = (cn8 6) := hfc10.1 6 (nml rfl)
    have : cn10 31 = (cn8 31) := hfc10.1 31 (nml rfl)
    have : cn10 32 = (cn8 32) := hfc10.1 32 (nml rfl)
    have hq_cn10 : Hid (cn10 0 = (cn8 0) ∧ cn10 1 = (cn8 1) ∧ cn10 2 = (cn8 2) ∧ cn10 4 = (cn8 4) ∧ cn10 5 = (cn8 5) ∧ cn10 10 = (cn8 10) ∧ cn10 11 = (cn8 11) ∧ cn10 12 = (cn8 12) ∧ cn10 13 = (cn8 13) ∧ cn10 14 = (cn8 14) ∧ cn10 15 = (cn8 15) ∧ cn10 20 = (cn8 20) ∧ cn10 21 = (cn8 21) ∧ cn10 22 = (cn8 22) ∧ cn10 23 = (cn8 23) ∧ cn10 24 = (cn8 24) ∧ cn10 25 = (cn8 25)) := Hid.i (p := cn10 0 = (cn8 0) ∧ cn10 1 = (cn8 1) ∧ cn10 2 = (cn8 2) ∧ cn10 4 = (cn8 4) ∧ cn10 5 = (cn8 5) ∧ cn10 10 = (cn8 10) ∧ cn10 11 = (cn8 11) ∧ cn10 12 = (cn8 12) ∧ cn10 13 = (cn8 13) ∧ cn10 14 = (cn8 14) ∧ cn10 15 = (cn8 15) ∧ cn10 20 = (cn8 20) ∧ cn10 21 = (cn8 21) ∧ cn10 22 = (cn8 22) ∧ cn10 23 = (cn8 23) ∧ cn10 24 = (cn8 24) ∧ cn10 25 = (cn8 25)) ⟨hfc10.1 0 (nml rfl), hfc10.1 1 (nml rfl), hfc10.1 2 (nml rfl), hfc10.1 4 (nml rfl), hfc10.1 5 (nml rfl), hfc10.1 10 (nml rfl), hfc10.1 11 (nml rfl), hfc10.1 12 (nml rfl), hfc10.1 13 (nml rfl), hfc10.1 14 (nml rfl), hfc10.1 15 (nml rfl), hfc10.1 20 (nml rfl), hfc10.1 21 (nml rfl), hfc10.1 22 (nml rfl), hfc10.1 23 (nml rfl), hfc10.1 24 (nml rfl), hfc10.1 25 (nml rfl)⟩
    refine lv_aload_n hx hb (oc_42 42 (aq_16 shX11_feed_26)) rfl (lvA0 hl) ?_
    refine gf_RX11_21 S hK hP 0 xo_0 (v := .ref (g 5)) rfl (oc_180 43 (aq_17 shX11_feed_26) uw_0_21) ?_
    refine lv_iload hx hb (oc_21 46 (aq_20 shX11_feed_26) ub_4) (lvA4 hl) ?_
    have hFc := free_all hD hS hA
    refine va_callv (runV_xa (As := [.int v3]) (rest := []) S (q_Etadd l D cI cB cZ zz qq vv bt g ad cn10 In Fn10 v3 H.size hIn10 (by (first | omega | (have zz0 := Hid.u hb_cn; have zz1 := Hid.u hb_cn10; have zz2 := Hid.u hb_cn6; have zz3 := Hid.u hb_cn8; have zz4 := Hid.u hq_cn10; have zz5 := Hid.u hq_cn6; have zz6 := Hid.u hq_cn8; omega)))) kV_RX11_153 hK hXS hS hFc hP hD 1 xo_1 rfl rfl ⟨Nat.le_of_ble_eq_true rfl, Nat.le_of_ble_eq_true rfl⟩ ⟨Nat.le_of_ble_eq_true rfl, Nat.le_of_ble_eq_true rfl⟩ rfl hl.1 rfl (Nat.le_of_ble_eq_true rfl) (oc_182 48 (aq_22 shX11_feed_26) uw_0_153)) hS (fun q _ h => hFc q h) hFc (fun u t H1 locs ht hvm wh_12 hB1 hz1 hk1 hS => ?_)
    obtain ⟨cn12, In12, Fn12⟩ := u
    obtain ⟨hP1, hD1⟩ := hB1
    rw [ht] at hP1
    have hP : va_P D vwCl (wX cI (D.1 99) zz g ad cn12 In12 Fn12) H1 := hP1
    have hD : va_D A (wX cI (D.1 99) zz g ad cn12 In12 Fn12) := hD1.weaken (fun _ _ _ h => hFc _ h)
    generalize H1 = H at hP hS ⊢
    have vh_12 : (fun c2 I2 F2 => Fr [3] [] [40] cn10 In Fn10 c2 I2 F2 ∧ CBX c2 ∧ (c2 3 = (cn10 3) + 4 ∧ F2 40 = tpX ((Fn10 40)) ((cn10 3)) v3)) cn12 In12 Fn12 := wh_12
    obtain ⟨hfc12, hIn12, h_12⟩ := vh_12
    obtain rfl : In = In12 := (funext (fun k => hfc12.2.1 k List.not_mem_nil)).symm
    have hf12 : Fr [3] [] [40] cn In Fn cn12 In Fn12 := Fr.mo (Fr.tr hf10 hfc12) (sbl rfl) (sbl rfl) (sbl rfl)
    have hb_cn12 : Hid (CBX cn12) := hIn12
    replace hIn12 : CBXh cn12 := hIn12
    have : cn12 6 = (cn10 6) := hfc12.1 6 (nml rfl)
    have : cn12 31 = (cn10 31) := hfc12.1 31 (nml rfl)
    have : cn12 32 = (cn10 32) := hfc12.1 32 (nml rfl)
    have hq_cn12 : Hid (cn12 0 = (cn10 0) ∧ cn12 1 = (cn10 1) ∧ cn12 2 = (cn10 2) ∧ cn12 4 = (cn10 4) ∧ cn12 5 = (cn10 5) ∧ cn12 10 = (cn10 10) ∧ cn12 11 = (cn10 11) ∧ cn12 12 = (cn10 12) ∧ cn12 13 = (cn10 13) ∧ cn12 14 = (cn10 14) ∧ cn12 15 = (cn10 15) ∧ cn12 20 = (cn10 20) ∧ cn12 21 = (cn10 21) ∧ cn12 22 = (cn10 22) ∧ cn12 23 = (cn10 23) ∧ cn12 24 = (cn10 24) ∧ cn12 25 = (cn10 25)) := Hid.i (p := cn12 0 = (cn10 0) ∧ cn12 1 = (cn10 1) ∧ cn12 2 = (cn10 2) ∧ cn12 4 = (cn10 4) ∧ cn12 5 = (cn10 5) ∧ cn12 10 = (cn10 10) ∧ cn12 11 = (cn10 11) ∧ cn12 12 = (cn10 12) ∧ cn12 13 = (cn10 13) ∧ cn12 14 = (cn10 14) ∧ cn12 15 = (cn10 15) ∧ cn12 20 = (cn10 20) ∧ cn12 21 = (cn10 21) ∧ cn12 22 = (cn10 22) ∧ cn12 23 = (cn10 23) ∧ cn12 24 = (cn10 24) ∧ cn12 25 = (cn10 25)) ⟨hfc12.1 0 (nml rfl), hfc12.1 1 (nml rfl), hfc12.1 2 (nml rfl), hfc12.1 4 (nml rfl), hfc12.1 5 (nml rfl), hfc12.1 10 (nml rfl), hfc12.1 11 (nml rfl), hfc12.1 12 (nml rfl), hfc12.1 13 (nml rfl), hfc12.1 14 (nml rfl), hfc12.1 15 (nml rfl), hfc12.1 20 (nml rfl), hfc12.1 21 (nml rfl), hfc12.1 22 (nml rfl), hfc12.1 23 (nml rfl), hfc12.1 24 (nml rfl), hfc12.1 25 (nml rfl)⟩
    refine lv_aload_n hx hb (oc_42 51 shX11_feed_51) rfl (lvA0 hl) ?_
    refine gf_RX11_21 S hK hP 0 xo_0 (v := .ref (g 5)) rfl (oc_180 52 (aq_1 shX11_feed_51) uw_0_21) ?_
    refine lv_iload hx hb (oc_21 55 (aq_4 shX11_feed_51) ub_5) (lvA5 hl) ?_
    have hFc := free_all hD hS hA
    refine va_callv (runV_xa (As := [.int v4]) (rest := []) S (q_Etadd l D cI cB cZ zz qq vv bt g ad cn12 In Fn12 v4 H.size hIn12 (by (first | omega | (have zz0 := Hid.u hb_cn; have zz1 := Hid.u hb_cn10; have zz2 := Hid.u hb_cn12; have zz3 := Hid.u hb_cn6; have zz4 := Hid.u hb_cn8; have zz5 := Hid.u hq_cn10; have zz6 := Hid.u hq_cn12; have zz7 := Hid.u hq_cn6; have zz8 := Hid.u hq_cn8; omega)))) kV_RX11_153 hK hXS hS hFc hP hD 1 xo_1 rfl rfl ⟨Nat.le_of_ble_eq_true rfl, Nat.le_of_ble_eq_true rfl⟩ ⟨Nat.le_of_ble_eq_true rfl, Nat.le_of_ble_eq_true rfl⟩ rfl hl.1 rfl (Nat.le_of_ble_eq_true rfl) (oc_182 57 (aq_6 shX11_feed_51) uw_0_153)) hS (fun q _ h => hFc q h) hFc (fun u t H1 locs ht hvm wh_14 hB1 hz1 hk1 hS => ?_)
    obtain ⟨cn14, In14, Fn14⟩ := u
    obtain ⟨hP1, hD1⟩ := hB1
    rw [ht] at hP1
    have hP : va_P D vwCl (wX cI (D.1 99) zz g ad cn14 In14 Fn14) H1 := hP1
    have hD : va_D A (wX cI (D.1 99) zz g ad cn14 In14 Fn14) := hD1.weaken (fun _ _ _ h => hFc _ h)
    generalize H1 = H at hP hS ⊢
    have vh_14 : (fun c2 I2 F2 => Fr [3] [] [40] cn12 In Fn12 c2 I2 F2 ∧ CBX c2 ∧ (c2 3 = (cn12 3) + 4 ∧ F2 40 = tpX ((Fn12 40)) ((cn12 3)) v4)) cn14 In14 Fn14 := wh_14
    obtain ⟨hfc14, hIn14, h_14⟩ := vh_14
    obtain rfl : In = In14 := (funext (fun k => hfc14.2.1 k List.not_mem_nil)).symm
    have hf14 : Fr [3] [] [40] cn In Fn cn14 In Fn14 := Fr.mo (Fr.tr hf12 hfc14) (sbl rfl) (sbl rfl) (sbl rfl)
    have hb_cn14 : Hid (CBX cn14) := hIn14
    replace hIn14 : CBXh cn14 := hIn14
    have : cn14 6 = (cn12 6) := hfc14.1 6 (nml rfl)
    have : cn14 31 = (cn12 31) := hfc14.1 31 (nml rfl)
    have : cn14 32 = (cn12 32) := hfc14.1 32 (nml rfl)
    have hq_cn14 : Hid (cn14 0 = (cn12 0) ∧ cn14 1 = (cn12 1) ∧ cn14 2 = (cn12 2) ∧ cn14 4 = (cn12 4) ∧ cn14 5 = (cn12 5) ∧ cn14 10 = (cn12 10) ∧ cn14 11 = (cn12 11) ∧ cn14 12 = (cn12 12) ∧ cn14 13 = (cn12 13) ∧ cn14 14 = (cn12 14) ∧ cn14 15 = (cn12 15) ∧ cn14 20 = (cn12 20) ∧ cn14 21 = (cn12 21) ∧ cn14 22 = (cn12 22) ∧ cn14 23 = (cn12 23) ∧ cn14 24 = (cn12 24) ∧ cn14 25 = (cn12 25)) := Hid.i (p := cn14 0 = (cn12 0) ∧ cn14 1 = (cn12 1) ∧ cn14 2 = (cn12 2) ∧ cn14 4 = (cn12 4) ∧ cn14 5 = (cn12 5) ∧ cn14 10 = (cn12 10) ∧ cn14 11 = (cn12 11) ∧ cn14 12 = (cn12 12) ∧ cn14 13 = (cn12 13) ∧ cn14 14 = (cn12 14) ∧ cn14 15 = (cn12 15) ∧ cn14 20 = (cn12 20) ∧ cn14 21 = (cn12 21) ∧ cn14 22 = (cn12 22) ∧ cn14 23 = (cn12 23) ∧ cn14 24 = (cn12 24) ∧ cn14 25 = (cn12 25)) ⟨hfc14.1 0 (nml rfl), hfc14.1 1 (nml rfl), hfc14.1 2 (nml rfl), hfc14.1 4 (nml rfl), hfc14.1 5 (nml rfl), hfc14.1 10 (nml rfl), hfc14.1 11 (nml rfl), hfc14.1 12 (nml rfl), hfc14.1 13 (nml rfl), hfc14.1 14 (nml rfl), hfc14.1 15 (nml rfl), hfc14.1 20 (nml rfl), hfc14.1 21 (nml rfl), hfc14.1 22 (nml rfl), hfc14.1 23 (nml rfl), hfc14.1 24 (nml rfl), hfc14.1 25 (nml rfl)⟩
    refine lv_aload_n hx hb (oc_42 60 (aq_9 shX11_feed_51)) rfl (lvA0 hl) ?_
    refine gf_RX11_21 S hK hP 0 xo_0 (v := .ref (g 5)) rfl (oc_180 61 (aq_10 shX11_feed_51) uw_0_21) ?_
    refine vp_callSi (runV_rxa (As := []) (rest := []) S (q_Xlength l D cI cB cZ zz qq vv bt g ad cn14 In Fn14  hIn14) kV_RX11_152 hK hXS hS hP 1 xo_1 rfl rfl ⟨Nat.le_of_ble_eq_true rfl, Nat.le_of_ble_eq_true rfl⟩ ⟨Nat.le_of_ble_eq_true rfl, Nat.le_of_ble_eq_true rfl⟩ rfl hl.1 rfl (Nat.le_of_ble_eq_true rfl) (oc_182 64 (aq_13 shX11_feed_51) uw_0_152)) (fun r_15 h_16 => ?_)
    subst h_16
    exact W.iret (v := (nI ((cn14 3)))) hx hb hr (fun t ht hW => ⟨⟨(nI ((cn14 3))), (cn14, In, Fn14), rfl, ⟨(Fr.mo hf14 (sbl rfl) (sbl rfl) (sbl rfl)), hIn14, (by show (cn 3 + 20 ≤ 200 ∧ cn14 3 = cn 3 + 20 ∧ ((nI ((cn14 3))) : Int32).toInt = (cn 3 : Int) + 20 ∧ Fn14 40 = tp5X (Fn 40) (cn 3) v0 v1 v2 v3 v4) ∨ (¬ cn 3 + 20 ≤ 200 ∧ cn14 3 = cn 3 ∧ ((nI ((cn14 3))) : Int32).toInt = -1 ∧ Fn14 40 = Fn 40); have t9 : (nI ((cn14 3))).toInt = ((((cn14 3)) : Nat) : Int) := nI_toInt (by (first | omega | (have zz0 := Hid.u hb_cn; have zz1 := Hid.u hb_cn10; have zz2 := Hid.u hb_cn12; have zz3 := Hid.u hb_cn14; have zz4 := Hid.u hb_cn6; have zz5 := Hid.u hb_cn8; have zz6 := Hid.u hq_cn10; have zz7 := Hid.u hq_cn12; have zz8 := Hid.u hq_cn14; have zz9 := Hid.u hq_cn6; have zz10 := Hid.u hq_cn8; omega))); exact Or.inl ⟨by (first | omega | (have zz0 := Hid.u hb_cn; have zz1 := Hid.u hb_cn10; have zz2 := Hid.u hb_cn12; have zz3 := Hid.u hb_cn14; have zz4 := Hid.u hb_cn6; have zz5 := Hid.u hb_cn8; have zz6 := Hid.u hq_cn10; have zz7 := Hid.u hq_cn12; have zz8 := Hid.u hq_cn14; have zz9 := Hid.u hq_cn6; have zz10 := Hid.u hq_cn8; omega)), by (first | omega | (have zz0 := Hid.u hb_cn; have zz1 := Hid.u hb_cn10; have zz2 := Hid.u hb_cn12; have zz3 := Hid.u hb_cn14; have zz4 := Hid.u hb_cn6; have zz5 := Hid.u hb_cn8; have zz6 := Hid.u hq_cn10; have zz7 := Hid.u hq_cn12; have zz8 := Hid.u hq_cn14; have zz9 := Hid.u hq_cn6; have zz10 := Hid.u hq_cn8; omega)), by (first | omega | (have zz0 := Hid.u hb_cn; have zz1 := Hid.u hb_cn10; have zz2 := Hid.u hb_cn12; have zz3 := Hid.u hb_cn14; have zz4 := Hid.u hb_cn6; have zz5 := Hid.u hb_cn8; have zz6 := Hid.u hq_cn10; have zz7 := Hid.u hq_cn12; have zz8 := Hid.u hq_cn14; have zz9 := Hid.u hq_cn6; have zz10 := Hid.u hq_cn8; omega)), by rw [h_14.2, h_12.2, h_10.2, h_8.2, h_6.2, h_12.1, h_10.1, h_8.1, h_6.1] <;> rfl⟩)⟩, by rw [ht]; exact hP, hD⟩, hS.F ht⟩) hS.2.2 (oc_172 67 (aq_16 shX11_feed_51))
  ·
    have tc_4 : (200 : Int) < (nI (((cn 3)) + 20)).toInt := Int32.lt_iff_toInt_lt.mp (Int32.not_le.mp c_4)
    refine lv_iconst (v := (-1)) hx hb (oc_2 16 (aq_16 shX11_feed_0)) kic_m1 ?_
    exact W.iret (v := (-1)) hx hb hr (fun t ht hW => ⟨⟨(-1), (cn, In, Fn), rfl, ⟨(Fr.mo Fr.rf (sbl rfl) (sbl rfl) (sbl rfl)), hB, (by show (cn 3 + 20 ≤ 200 ∧ cn 3 = cn 3 + 20 ∧ ((-1) : Int32).toInt = (cn 3 : Int) + 20 ∧ Fn 40 = tp5X (Fn 40) (cn 3) v0 v1 v2 v3 v4) ∨ (¬ cn 3 + 20 ≤ 200 ∧ cn 3 = cn 3 ∧ ((-1) : Int32).toInt = -1 ∧ Fn 40 = Fn 40); exact Or.inr ⟨by (first | omega | (have zz0 := Hid.u hb_cn; omega)), rfl, rfl, rfl⟩)⟩, by rw [ht]; exact hP, hD⟩, hS.F ht⟩) hS.2.2 (oc_172 17 (aq_17 shX11_feed_0))
set_option maxRecDepth 100000 in
set_option maxHeartbeats 4000000 in
theorem q_feed9y (l : Launch) (D : va_G) (cI cB cZ : ClassId) (g : Nat → Nat) (cn : Nat → Nat) (In : Nat → Int32) (Fn : Nat → Nat → Int32) (v0 v1 v2 v3 v4 : Int32) (sz : Nat) (hI : IM cn Fn) (h18 : cn 18 ≤ 200) : Met l yX12_feed (CWS yX12_feed cX12_feed 6 (some .int)) (RM 1 0 0) (PBw [.ref (g 100), .int v0, .int v1, .int v2, .int v3, .int v4] D cI cB cZ (wM cI cB cZ g cn In Fn) sz) (va_Qi (fun (r : Int32) (u : (Nat → Nat) × (Nat → Int32) × (Nat → Nat → Int32)) => (fun r c2 I2 F2 => Fr [18] [] [17] cn In Fn c2 I2 F2 ∧ IM c2 F2 ∧ ((cn 18 + 20 ≤ 200 ∧ c2 18 = cn 18 + 20 ∧ (r : Int32).toInt = (cn 18 : Int) + 20 ∧ F2 17 = tp5M (Fn 17) (cn 18) v0 v1 v2 v3 v4) ∨ (¬ cn 18 + 20 ≤ 200 ∧ c2 18 = cn 18 ∧ (r : Int32).toInt = -1 ∧ F2 17 = Fn 17))) r u.1 u.2.1 u.2.2) (fun (u : (Nat → Nat) × (Nat → Int32) × (Nat → Nat → Int32)) (t : State) => va_P D vwCl (wM cI cB cZ g u.1 u.2.1 u.2.2) t.heap ∧ va_D (va_A (wM cI cB cZ g cn In Fn) sz) (wM cI cB cZ g u.1 u.2.1 u.2.2)) (va_A (wM cI cB cZ g cn In Fn) sz)) 0 0 (va_A (wM cI cB cZ g cn In Fn) sz) := by
  refine en_w (fun A => (va_Qi (fun (r : Int32) (u : (Nat → Nat) × (Nat → Int32) × (Nat → Nat → Int32)) => (fun (r : Int32) (c2 : Nat → Nat) (I2 : Nat → Int32) (F2 : Nat → Nat → Int32) => Fr [18] [] [17] cn In Fn c2 I2 F2 ∧ IM c2 F2 ∧ ((cn 18 + 20 ≤ 200 ∧ c2 18 = cn 18 + 20 ∧ (r : Int32).toInt = (cn 18 : Int) + 20 ∧ F2 17 = tp5M (Fn 17) (cn 18) v0 v1 v2 v3 v4) ∨ (¬ cn 18 + 20 ≤ 200 ∧ c2 18 = cn 18 ∧ (r : Int32).toInt = -1 ∧ F2 17 = Fn 17))) r u.1 u.2.1 u.2.2) (fun (u : (Nat → Nat) × (Nat → Int32) × (Nat → Nat → Int32)) (t : State) => va_P D vwCl (wM cI cB cZ g u.1 u.2.1 u.2.2) t.heap ∧ va_D A (wM cI cB cZ g u.1 u.2.1 u.2.2)) A)) rfl rfl pn_RX12 (Nat.le_of_ble_eq_true rfl) (fun p e s m below meth c A hx hb hml hown S hr hlocks hnm hA hP hK hD hS ls hl => ?_)
  have hl : lv_has ls 6 [(0, .ref (g 100)), (1, .int v0), (2, .int v1), (3, .int v2), (4, .int v3), (5, .int v4)] := hl
  have hi_cn : Hid (CB cn) := hI.b
  refine lv_aload_n hx hb (oc_42 0 shX12_feed_0) rfl (lvA0 hl) ?_
  refine gM_226 S hK hP (v := .int (nI (cn 18))) rfl (oc_180 1 (aq_1 shX12_feed_0) uw_0_226) ?_
  refine lv_bipush (v := 20) hx hb (oc_16 4 (aq_4 shX12_feed_0) sgb_20) kbc_20 ?_
  refine lv_iadd hx hb (oc_96 6 (aq_6 shX12_feed_0)) ?_
  refine lv_topi (fun y_1 ey_1 => ?_)
  obtain rfl : y_1 = (nI ((cn 18) + 20)) := ey_1.trans (nI_add (cn 18) 20)
  refine lv_sipush (v := 200) hx hb (oc_17 7 (aq_7 shX12_feed_0) sgw_0_200) (by decide) ?_
  have : (nI ((cn 18) + 20)).toInt = ((((cn 18) + 20) : Nat) : Int) := nI_toInt (by (first | omega | (have zz0 := Hid.u hi_cn; omega)))
  refine lv_icmp_le (tgt := 15) hx hb (oc_164 10 (aq_10 shX12_feed_0) sgw_0_5) rfl (fun c_2 => ?_) (fun c_2 => ?_)
  ·
    have tc_2 : ((nI ((cn 18) + 20)).toInt : Int) ≤ 200 := Int32.le_iff_toInt_le.mp c_2
    refine lv_aload_n hx hb (oc_42 15 (aq_15 shX12_feed_0)) rfl (lvA0 hl) ?_
    refine lv_iload_n hx hb (oc_27 16 (aq_16 shX12_feed_0)) rfl (lvA1 hl) ?_
    have hFc := free_all hD hS hA
    refine va_callv (runV_a (As := [.int v0]) (rest := []) S (q_types9 l D cI cB cZ g cn In Fn v0 s.heap.size hI (by (first | omega | (have zz0 := Hid.u hi_cn; omega)))) kV_RX12_229 hK hP hD 0 rfl rfl rfl ⟨Nat.le_of_ble_eq_true rfl, Nat.le_of_ble_eq_true rfl⟩ ⟨Nat.le_of_ble_eq_true rfl, Nat.le_of_ble_eq_true rfl⟩ rfl hl.1 rfl (Nat.le_of_ble_eq_true rfl) (oc_182 17 (aq_17 shX12_feed_0) uw_0_229)) hS (fun q _ h => hFc q h) hFc (fun u t H1 locs ht hvm wh_4 hB hz1 hk1 hS => ?_)
    obtain ⟨cn4, In4, Fn4⟩ := u
    obtain ⟨hP1, hD1⟩ := hB
    rw [ht] at hP1
    have hP : va_P D vwCl (wM cI cB cZ g cn4 In4 Fn4) H1 := hP1
    have hD : va_D A (wM cI cB cZ g cn4 In4 Fn4) := hD1.weaken (fun _ _ _ h => hFc _ h)
    generalize H1 = H at hP hS ⊢
    have vh_4 : (fun c2 I2 F2 => Fr [18] [] [17] cn In Fn c2 I2 F2 ∧ IM c2 F2 ∧ (c2 18 = (cn 18) + 4 ∧ F2 17 = tpM ((Fn 17)) ((cn 18)) v0)) cn4 In4 Fn4 := wh_4
    obtain ⟨hfc4, hIn4, h_4⟩ := vh_4
    obtain rfl : In = In4 := (funext (fun k => hfc4.2.1 k List.not_mem_nil)).symm
    have hf4 : Fr [18] [] [17] cn In Fn cn4 In Fn4 := Fr.mo (Fr.tr (Fr.rf (cn := cn) (In := In) (Fn := Fn)) hfc4) (sbl rfl) (sbl rfl) (sbl rfl)
    have hi_cn4 : Hid (CB cn4) := hIn4.b
    have hq_cn4 := Hid.i (frq_18_0_1_2_46_57_58_62_63_75_83_44 hf4)
    refine lv_aload_n hx hb (oc_42 20 (aq_20 shX12_feed_0)) rfl (lvA0 hl) ?_
    refine lv_iload_n hx hb (oc_28 21 (aq_21 shX12_feed_0)) rfl (lvA2 hl) ?_
    have hFc := free_all hD hS hA
    refine va_callv (runV_a (As := [.int v1]) (rest := []) S (q_types9 l D cI cB cZ g cn4 In Fn4 v1 H.size hIn4 (by (first | omega | (have zz0 := Hid.u hi_cn; have zz1 := Hid.u hi_cn4; have zz2 := Hid.u hq_cn4; omega)))) kV_RX12_229 hK hP hD 0 rfl rfl rfl ⟨Nat.le_of_ble_eq_true rfl, Nat.le_of_ble_eq_true rfl⟩ ⟨Nat.le_of_ble_eq_true rfl, Nat.le_of_ble_eq_true rfl⟩ rfl hl.1 rfl (Nat.le_of_ble_eq_true rfl) (oc_182 22 (aq_22 shX12_feed_0) uw_0_229)) hS (fun q _ h => hFc q h) hFc (fun u t H1 locs ht hvm wh_6 hB hz1 hk1 hS => ?_)
    obtain ⟨cn6, In6, Fn6⟩ := u
    obtain ⟨hP1, hD1⟩ := hB
    rw [ht] at hP1
    have hP : va_P D vwCl (wM cI cB cZ g cn6 In6 Fn6) H1 := hP1
    have hD : va_D A (wM cI cB cZ g cn6 In6 Fn6) := hD1.weaken (fun _ _ _ h => hFc _ h)
    generalize H1 = H at hP hS ⊢
    have vh_6 : (fun c2 I2 F2 => Fr [18] [] [17] cn4 In Fn4 c2 I2 F2 ∧ IM c2 F2 ∧ (c2 18 = (cn4 18) + 4 ∧ F2 17 = tpM ((Fn4 17)) ((cn4 18)) v1)) cn6 In6 Fn6 := wh_6
    obtain ⟨hfc6, hIn6, h_6⟩ := vh_6
    obtain rfl : In = In6 := (funext (fun k => hfc6.2.1 k List.not_mem_nil)).symm
    have hf6 : Fr [18] [] [17] cn In Fn cn6 In Fn6 := Fr.mo (Fr.tr hf4 hfc6) (sbl rfl) (sbl rfl) (sbl rfl)
    have hi_cn6 : Hid (CB cn6) := hIn6.b
    have hq_cn6 := Hid.i (frq_18_0_1_2_46_57_58_62_63_75_83_44 hf6)
    refine lv_aload_n hx hb (oc_42 25 shX12_feed_25) rfl (lvA0 hl) ?_
    refine lv_iload_n hx hb (oc_29 26 (aq_1 shX12_feed_25)) rfl (lvA3 hl) ?_
    have hFc := free_all hD hS hA
    refine va_callv (runV_a (As := [.int v2]) (rest := []) S (q_types9 l D cI cB cZ g cn6 In Fn6 v2 H.size hIn6 (by (first | omega | (have zz0 := Hid.u hi_cn; have zz1 := Hid.u hi_cn4; have zz2 := Hid.u hi_cn6; have zz3 := Hid.u hq_cn4; have zz4 := Hid.u hq_cn6; omega)))) kV_RX12_229 hK hP hD 0 rfl rfl rfl ⟨Nat.le_of_ble_eq_true rfl, Nat.le_of_ble_eq_true rfl⟩ ⟨Nat.le_of_ble_eq_true rfl, Nat.le_of_ble_eq_true rfl⟩ rfl hl.1 rfl (Nat.le_of_ble_eq_true rfl) (oc_182 27 (aq_2 shX12_feed_25) uw_0_229)) hS (fun q _ h => hFc q h) hFc (fun u t H1 locs ht hvm wh_8 hB hz1 hk1 hS => ?_)
    obtain ⟨cn8, In8, Fn8⟩ := u
    obtain ⟨hP1, hD1⟩ := hB
    rw [ht] at hP1
    have hP : va_P D vwCl (wM cI cB cZ g cn8 In8 Fn8) H1 := hP1
    have hD : va_D A (wM cI cB cZ g cn8 In8 Fn8) := hD1.weaken (fun _ _ _ h => hFc _ h)
    generalize H1 = H at hP hS ⊢
    have vh_8 : (fun c2 I2 F2 => Fr [18] [] [17] cn6 In Fn6 c2 I2 F2 ∧ IM c2 F2 ∧ (c2 18 = (cn6 18) + 4 ∧ F2 17 = tpM ((Fn6 17)) ((cn6 18)) v2)) cn8 In8 Fn8 := wh_8
    obtain ⟨hfc8, hIn8, h_8⟩ := vh_8
    obtain rfl : In = In8 := (funext (fun k => hfc8.2.1 k List.not_mem_nil)).symm
    have hf8 : Fr [18] [] [17] cn In Fn cn8 In Fn8 := Fr.mo (Fr.tr hf6 hfc8) (sbl rfl) (sbl rfl) (sbl rfl)
    have hi_cn8 : Hid (CB cn8) := hIn8.b
    have hq_cn8 := Hid.i (frq_18_0_1_2_46_57_58_62_63_75_83_44 hf8)
    refine lv_aload_n hx hb (oc_42 30 (aq_5 shX12_feed_25)) rfl (lvA0 hl) ?_
    refine lv_iload hx hb (oc_21 31 (aq_6 shX12_feed_25) ub_4) (lvA4 hl) ?_
    have hFc := free_all hD hS hA
    refine va_callv (runV_a (As := [.int v3]) (rest := []) S (q_types9 l D cI cB cZ g cn8 In Fn8 v3 H.size hIn8 (by (first | omega | (have zz0 := Hid.u hi_cn; have zz1 := Hid.u hi_cn4; have zz2 := Hid.u hi_cn6; have zz3 := Hid.u hi_cn8; have zz4 := Hid.u hq_cn4; have zz5 := Hid.u hq_cn6; have zz6 := Hid.u hq_cn8; omega)))) kV_RX12_229 hK hP hD 0 rfl rfl rfl ⟨Nat.le_of_ble_eq_true rfl, Nat.le_of_ble_eq_true rfl⟩ ⟨Nat.le_of_ble_eq_true rfl, Nat.le_of_ble_eq_true rfl⟩ rfl hl.1 rfl (Nat.le_of_ble_eq_true rfl) (oc_182 33 (aq_8 shX12_feed_25) uw_0_229)) hS (fun q _ h => hFc q h) hFc (fun u t H1 locs ht hvm wh_10 hB hz1 hk1 hS => ?_)
    obtain ⟨cn10, In10, Fn10⟩ := u
    obtain ⟨hP1, hD1⟩ := hB
    rw [ht] at hP1
    have hP : va_P D vwCl (wM cI cB cZ g cn10 In10 Fn10) H1 := hP1
    have hD : va_D A (wM cI cB cZ g cn10 In10 Fn10) := hD1.weaken (fun _ _ _ h => hFc _ h)
    generalize H1 = H at hP hS ⊢
    have vh_10 : (fun c2 I2 F2 => Fr [18] [] [17] cn8 In Fn8 c2 I2 F2 ∧ IM c2 F2 ∧ (c2 18 = (cn8 18) + 4 ∧ F2 17 = tpM ((Fn8 17)) ((cn8 18)) v3)) cn10 In10 Fn10 := wh_10
    obtain ⟨hfc10, hIn10, h_10⟩ := vh_10
    obtain rfl : In = In10 := (funext (fun k => hfc10.2.1 k List.not_mem_nil)).symm
    have hf10 : Fr [18] [] [17] cn In Fn cn10 In Fn10 := Fr.mo (Fr.tr hf8 hfc10) (sbl rfl) (sbl rfl) (sbl rfl)
    have hi_cn10 : Hid (CB cn10) := hIn10.b
    have hq_cn10 := Hid.i (frq_18_0_1_2_46_57_58_62_63_75_83_44 hf10)
    refine lv_aload_n hx hb (oc_42 36 (aq_11 shX12_feed_25)) rfl (lvA0 hl) ?_
    refine lv_iload hx hb (oc_21 37 (aq_12 shX12_feed_25) ub_5) (lvA5 hl) ?_
    have hFc := free_all hD hS hA
    refine va_callv (runV_a (As := [.int v4]) (rest := []) S (q_types9 l D cI cB cZ g cn10 In Fn10 v4 H.size hIn10 (by (first | omega | (have zz0 := Hid.u hi_cn; have zz1 := Hid.u hi_cn10; have zz2 := Hid.u hi_cn4; have zz3 := Hid.u hi_cn6; have zz4 := Hid.u hi_cn8; have zz5 := Hid.u hq_cn10; have zz6 := Hid.u hq_cn4; have zz7 := Hid.u hq_cn6; have zz8 := Hid.u hq_cn8; omega)))) kV_RX12_229 hK hP hD 0 rfl rfl rfl ⟨Nat.le_of_ble_eq_true rfl, Nat.le_of_ble_eq_true rfl⟩ ⟨Nat.le_of_ble_eq_true rfl, Nat.le_of_ble_eq_true rfl⟩ rfl hl.1 rfl (Nat.le_of_ble_eq_true rfl) (oc_182 39 (aq_14 shX12_feed_25) uw_0_229)) hS (fun q _ h => hFc q h) hFc (fun u t H1 locs ht hvm wh_12 hB hz1 hk1 hS => ?_)
    obtain ⟨cn12, In12, Fn12⟩ := u
    obtain ⟨hP1, hD1⟩ := hB
    rw [ht] at hP1
    have hP : va_P D vwCl (wM cI cB cZ g cn12 In12 Fn12) H1 := hP1
    have hD : va_D A (wM cI cB cZ g cn12 In12 Fn12) := hD1.weaken (fun _ _ _ h => hFc _ h)
    generalize H1 = H at hP hS ⊢
    have vh_12 : (fun c2 I2 F2 => Fr [18] [] [17] cn10 In Fn10 c2 I2 F2 ∧ IM c2 F2 ∧ (c2 18 = (cn10 18) + 4 ∧ F2 17 = tpM ((Fn10 17)) ((cn10 18)) v4)) cn12 In12 Fn12 := wh_12
    obtain ⟨hfc12, hIn12, h_12⟩ := vh_12
    obtain rfl : In = In12 := (funext (fun k => hfc12.2.1 k List.not_mem_nil)).symm
    have hf12 : Fr [18] [] [17] cn In Fn cn12 In Fn12 := Fr.mo (Fr.tr hf10 hfc12) (sbl rfl) (sbl rfl) (sbl rfl)
    have hi_cn12 : Hid (CB cn12) := hIn12.b
    have hq_cn12 := Hid.i (frq_18_0_1_2_46_57_58_62_63_75_83_44 hf12)
    refine lv_aload_n hx hb (oc_42 42 (aq_17 shX12_feed_25)) rfl (lvA0 hl) ?_
    refine gM_226 S hK hP (v := .int (nI (cn12 18))) rfl (oc_180 43 (aq_18 shX12_feed_25) uw_0_226) ?_
    exact W.iret (v := (nI (cn12 18))) hx hb hr (fun t ht hW => ⟨⟨(nI (cn12 18)), (cn12, In, Fn12), rfl, ⟨(Fr.mo hf12 (sbl rfl) (sbl rfl) (sbl rfl)), hIn12, (by show (cn 18 + 20 ≤ 200 ∧ cn12 18 = cn 18 + 20 ∧ ((nI (cn12 18)) : Int32).toInt = (cn 18 : Int) + 20 ∧ Fn12 17 = tp5M (Fn 17) (cn 18) v0 v1 v2 v3 v4) ∨ (¬ cn 18 + 20 ≤ 200 ∧ cn12 18 = cn 18 ∧ ((nI (cn12 18)) : Int32).toInt = -1 ∧ Fn12 17 = Fn 17); have t9 : (nI (cn12 18)).toInt = (((cn12 18) : Nat) : Int) := nI_toInt (by (first | omega | (have zz0 := Hid.u hi_cn; have zz1 := Hid.u hi_cn10; have zz2 := Hid.u hi_cn12; have zz3 := Hid.u hi_cn4; have zz4 := Hid.u hi_cn6; have zz5 := Hid.u hi_cn8; have zz6 := Hid.u hq_cn10; have zz7 := Hid.u hq_cn12; have zz8 := Hid.u hq_cn4; have zz9 := Hid.u hq_cn6; have zz10 := Hid.u hq_cn8; omega))); exact Or.inl ⟨by (first | omega | (have zz0 := Hid.u hi_cn; have zz1 := Hid.u hi_cn10; have zz2 := Hid.u hi_cn12; have zz3 := Hid.u hi_cn4; have zz4 := Hid.u hi_cn6; have zz5 := Hid.u hi_cn8; have zz6 := Hid.u hq_cn10; have zz7 := Hid.u hq_cn12; have zz8 := Hid.u hq_cn4; have zz9 := Hid.u hq_cn6; have zz10 := Hid.u hq_cn8; omega)), by (first | omega | (have zz0 := Hid.u hi_cn; have zz1 := Hid.u hi_cn10; have zz2 := Hid.u hi_cn12; have zz3 := Hid.u hi_cn4; have zz4 := Hid.u hi_cn6; have zz5 := Hid.u hi_cn8; have zz6 := Hid.u hq_cn10; have zz7 := Hid.u hq_cn12; have zz8 := Hid.u hq_cn4; have zz9 := Hid.u hq_cn6; have zz10 := Hid.u hq_cn8; omega)), by (first | omega | (have zz0 := Hid.u hi_cn; have zz1 := Hid.u hi_cn10; have zz2 := Hid.u hi_cn12; have zz3 := Hid.u hi_cn4; have zz4 := Hid.u hi_cn6; have zz5 := Hid.u hi_cn8; have zz6 := Hid.u hq_cn10; have zz7 := Hid.u hq_cn12; have zz8 := Hid.u hq_cn4; have zz9 := Hid.u hq_cn6; have zz10 := Hid.u hq_cn8; omega)), by rw [h_12.2, h_10.2, h_8.2, h_6.2, h_4.2, h_10.1, h_8.1, h_6.1, h_4.1] <;> rfl⟩)⟩, by rw [ht]; exact hP, hD⟩, hS.F ht⟩) hS.2.2 (oc_172 46 (aq_21 shX12_feed_25))
  ·
    have tc_2 : (200 : Int) < (nI ((cn 18) + 20)).toInt := Int32.lt_iff_toInt_lt.mp (Int32.not_le.mp c_2)
    refine lv_iconst (v := (-1)) hx hb (oc_2 13 (aq_13 shX12_feed_0)) kic_m1 ?_
    exact W.iret (v := (-1)) hx hb hr (fun t ht hW => ⟨⟨(-1), (cn, In, Fn), rfl, ⟨(Fr.mo Fr.rf (sbl rfl) (sbl rfl) (sbl rfl)), hI, (by show (cn 18 + 20 ≤ 200 ∧ cn 18 = cn 18 + 20 ∧ ((-1) : Int32).toInt = (cn 18 : Int) + 20 ∧ Fn 17 = tp5M (Fn 17) (cn 18) v0 v1 v2 v3 v4) ∨ (¬ cn 18 + 20 ≤ 200 ∧ cn 18 = cn 18 ∧ ((-1) : Int32).toInt = -1 ∧ Fn 17 = Fn 17); exact Or.inr ⟨by (first | omega | (have zz0 := Hid.u hi_cn; omega)), rfl, rfl, rfl⟩)⟩, by rw [ht]; exact hP, hD⟩, hS.F ht⟩) hS.2.2 (oc_172 14 (aq_14 shX12_feed_0))
set_option maxRecDepth 100000 in
set_option maxHeartbeats 4000000 in
theorem q_Etat (l : Launch) (D : va_G) (cI cB cZ : ClassId) (zz qq vv : Nat) (bt : Nat → Int32) (g : Nat → Nat) (ad : Nat → Nat → Nat) (cn : Nat → Nat) (In : Nat → Int32) (Fn : Nat → Nat → Int32) (k0 : Nat) (hB : CBX cn) (hk : k0 < 200) : Met l yX8_at (CWS yX8_at cX8_at 2 (some .int)) (RM 1 0 0) (PBrx [.ref (g 5), .int (nI k0)] D cI cB cZ zz qq vv bt (wX cI (D.1 99) zz g ad cn In Fn)) (vp_Si (fun r => r = (Fn 40) k0)) 0 0 (fun _ => False) := by
  refine en_rx rfl pn_RX8 (Nat.le_of_ble_eq_true rfl) (fun p e s m below meth c hx hb hml hown S hr hlocks hnm hP hK hXS hS ls hl => ?_)
  have hl : lv_has ls 2 [(0, .ref (g 5)), (1, .int (nI k0))] := hl
  have hb_cn : Hid (CBX cn) := hB
  replace hB : CBXh cn := hB
  refine lv_aload_n hx hb (oc_42 0 shX8_at_0) rfl (lvA0 hl) ?_
  refine gf_RX8_9 S hK hP 1 xo_1 (v := .ref (g 40)) rfl (oc_180 1 (aq_1 shX8_at_0) uw_0_9) ?_
  refine lv_iload_n hx hb (oc_27 4 (aq_4 shX8_at_0)) rfl (lvA1 hl) ?_
  refine vp_callSi (runS_r (As := [.ref (g 40), .int (nI k0)]) (rest := []) S (q_l_at l D cI cB cZ (g 40) 200 (Fn 40) (nI k0) (by (first | omega | (have zz0 := Hid.u hb_cn; omega)))) kS_RX8_29 hK hP [2] (one_is xo_2) ⟨Nat.le_of_ble_eq_true rfl, Nat.le_of_ble_eq_true rfl⟩ ⟨Nat.le_of_ble_eq_true rfl, Nat.le_of_ble_eq_true rfl⟩ rfl hl.1 rfl (Nat.le_of_ble_eq_true rfl) (oc_184 5 (aq_5 shX8_at_0) uw_0_29)) (fun r_1 h_2 => ?_)
  subst h_2
  exact W.iret (v := (atM (Fn 40) 200 (nI k0))) hx hb hr (fun t ht hW => ⟨(atM (Fn 40) 200 (nI k0)), rfl, (atM_i (by (first | omega | (have zz0 := Hid.u hb_cn; omega))) (by decide)), ht⟩) (fun _ h => absurd h List.not_mem_nil) (oc_172 8 (aq_8 shX8_at_0))
set_option maxRecDepth 100000 in
set_option maxHeartbeats 4000000 in
theorem q_Enumber (l : Launch) (D : va_G) (cI cB cZ : ClassId) (zz qq vv : Nat) (bt : Nat → Int32) (g : Nat → Nat) (ad : Nat → Nat → Nat) (cn : Nat → Nat) (In : Nat → Int32) (Fn : Nat → Nat → Int32) (k0 : Nat) (hB : CBX cn) (hk : 4 * k0 + 4 ≤ 200) : Met l yX8_number (CWS yX8_number cX8_number 4 (some .int)) (RM 2 0 0) (PBrx [.ref (g 5), .int (nI k0)] D cI cB cZ zz qq vv bt (wX cI (D.1 99) zz g ad cn In Fn)) (vp_Si (fun r => r = tnr (Fn 40) (4 * k0) 4)) 0 0 (fun _ => False) := by
  refine en_rx rfl pn_RX8 (Nat.le_of_ble_eq_true rfl) (fun p e s m below meth c hx hb hml hown S hr hlocks hnm hP hK hXS hS ls hl => ?_)
  have hl : lv_has ls 4 [(0, .ref (g 5)), (1, .int (nI k0))] := hl
  have hb_cn : Hid (CBX cn) := hB
  replace hB : CBXh cn := hB
  refine lv_iconst (v := 0) hx hb (oc_3 0 shX8_number_0) kic_0 ?_
  refine lv_istore_n (lv' := [(2, .int 0), (0, .ref (g 5)), (1, .int (nI k0))]) hx hb (oc_61 1 (aq_1 shX8_number_0)) rfl hl (ltb rfl) rfl (fun ls hl => ?_)
  refine lv_iconst (v := 0) hx hb (oc_3 2 (aq_2 shX8_number_0)) kic_0 ?_
  refine lv_istore_n (lv' := [(3, .int 0), (2, .int 0), (0, .ref (g 5)), (1, .int (nI k0))]) hx hb (oc_62 3 (aq_3 shX8_number_0)) rfl hl (ltb rfl) rfl (fun ls hl => ?_)
  refine lv_iload_n hx hb dX8_number_4 rfl (lvA0 hl) ?_
  refine lv_iconst (v := 4) hx hb dX8_number_5 kic_4 ?_
  refine lv_icmp_ge (tgt := 30) hx hb dX8_number_6 rfl (fun h => absurd h cq_le_4_0) (fun _ => ?_)
  refine lv_iload_n hx hb dX8_number_9 rfl (lvA1 hl) ?_
  refine lv_bipush (v := 8) hx hb dX8_number_10 kbc_8 ?_
  refine lv_ishl hx hb dX8_number_12 ?_
  refine lv_topi (fun y_1 ey_1 => ?_)
  obtain rfl : y_1 = 0 := ey_1.trans (by decide)
  refine lv_aload_n hx hb dX8_number_13 rfl (lvA2 hl) ?_
  refine lv_iconst (v := 4) hx hb dX8_number_14 kic_4 ?_
  refine lv_iload_n hx hb dX8_number_15 rfl (lvA3 hl) ?_
  refine lv_imul hx hb dX8_number_16 ?_
  refine lv_topi (fun y_2 ey_2 => ?_)
  obtain rfl : y_2 = (nI (4 * k0)) := ey_2.trans (pk_mul 4 k0)
  refine lv_iload_n hx hb dX8_number_17 rfl (lvA0 hl) ?_
  refine lv_iadd hx hb dX8_number_18 ?_
  refine lv_topi (fun y_3 ey_3 => ?_)
  obtain rfl : y_3 = (nI ((4 * k0) + 0)) := ey_3.trans (nI_add (4 * k0) 0)
  refine vp_callSi (runV_rxa (As := [.int (nI ((4 * k0) + 0))]) (rest := [.int 0]) S (q_Etat l D cI cB cZ zz qq vv bt g ad cn In Fn ((4 * k0) + 0) hB (by (first | omega | (have zz0 := Hid.u hb_cn; omega)))) kV_RX8_33 hK hXS hS hP 1 xo_1 rfl rfl ⟨Nat.le_of_ble_eq_true rfl, Nat.le_of_ble_eq_true rfl⟩ ⟨Nat.le_of_ble_eq_true rfl, Nat.le_of_ble_eq_true rfl⟩ rfl hl.1 rfl (Nat.le_of_ble_eq_true rfl) dX8_number_19) (fun r_4 h_5 => ?_)
  subst h_5
  refine lv_ior hx hb dX8_number_22 ?_
  refine lv_istore_n (lv' := [(2, .int (0 ||| (((Fn 40)) ((4 * k0) + 0)))), (3, .int 0), (0, .ref (g 5)), (1, .int (nI k0))]) hx hb dX8_number_23 rfl hl (ltb rfl) rfl (fun ls hl => ?_)
  refine lv_iinc (v := 1) (lv' := [(3, .int 1), (2, .int (0 ||| (((Fn 40)) ((4 * k0) + 0)))), (0, .ref (g 5)), (1, .int (nI k0))]) hx hb dX8_number_24 hl (k := 1) rfl (by decide) (ltb rfl) rfl (fun ls hl => ?_)
  refine lv_goto (tgt := 4) hx hb dX8_number_27 rfl ?_
  refine lv_iload_n hx hb dX8_number_4 rfl (lvA0 hl) ?_
  refine lv_iconst (v := 4) hx hb dX8_number_5 kic_4 ?_
  refine lv_icmp_ge (tgt := 30) hx hb dX8_number_6 rfl (fun h => absurd h cq_le_4_1) (fun _ => ?_)
  refine lv_iload_n hx hb dX8_number_9 rfl (lvA1 hl) ?_
  refine lv_bipush (v := 8) hx hb dX8_number_10 kbc_8 ?_
  refine lv_ishl hx hb dX8_number_12 ?_
  refine lv_aload_n hx hb dX8_number_13 rfl (lvA2 hl) ?_
  refine lv_iconst (v := 4) hx hb dX8_number_14 kic_4 ?_
  refine lv_iload_n hx hb dX8_number_15 rfl (lvA3 hl) ?_
  refine lv_imul hx hb dX8_number_16 ?_
  refine lv_topi (fun y_6 ey_6 => ?_)
  obtain rfl : y_6 = (nI (4 * k0)) := ey_6.trans (pk_mul 4 k0)
  refine lv_iload_n hx hb dX8_number_17 rfl (lvA0 hl) ?_
  refine lv_iadd hx hb dX8_number_18 ?_
  refine lv_topi (fun y_7 ey_7 => ?_)
  obtain rfl : y_7 = (nI ((4 * k0) + 1)) := ey_7.trans (nI_add (4 * k0) 1)
  refine vp_callSi (runV_rxa (As := [.int (nI ((4 * k0) + 1))]) (rest := [.int ((0 ||| (((Fn 40)) ((4 * k0) + 0))) <<< (8 &&& 31))]) S (q_Etat l D cI cB cZ zz qq vv bt g ad cn In Fn ((4 * k0) + 1) hB (by (first | omega | (have zz0 := Hid.u hb_cn; omega)))) kV_RX8_33 hK hXS hS hP 1 xo_1 rfl rfl ⟨Nat.le_of_ble_eq_true rfl, Nat.le_of_ble_eq_true rfl⟩ ⟨Nat.le_of_ble_eq_true rfl, Nat.le_of_ble_eq_true rfl⟩ rfl hl.1 rfl (Nat.le_of_ble_eq_true rfl) dX8_number_19) (fun r_8 h_9 => ?_)
  subst h_9
  refine lv_ior hx hb dX8_number_22 ?_
  refine lv_istore_n (lv' := [(2, .int (((0 ||| (((Fn 40)) ((4 * k0) + 0))) <<< (8 &&& 31)) ||| (((Fn 40)) ((4 * k0) + 1)))), (3, .int 1), (0, .ref (g 5)), (1, .int (nI k0))]) hx hb dX8_number_23 rfl hl (ltb rfl) rfl (fun ls hl => ?_)
  refine lv_iinc (v := 2) (lv' := [(3, .int 2), (2, .int (((0 ||| (((Fn 40)) ((4 * k0) + 0))) <<< (8 &&& 31)) ||| (((Fn 40)) ((4 * k0) + 1)))), (0, .ref (g 5)), (1, .int (nI k0))]) hx hb dX8_number_24 hl (k := 1) rfl (by decide) (ltb rfl) rfl (fun ls hl => ?_)
  refine lv_goto (tgt := 4) hx hb dX8_number_27 rfl ?_
  refine lv_iload_n hx hb dX8_number_4 rfl (lvA0 hl) ?_
  refine lv_iconst (v := 4) hx hb dX8_number_5 kic_4 ?_
  refine lv_icmp_ge (tgt := 30) hx hb dX8_number_6 rfl (fun h => absurd h cq_le_4_2) (fun _ => ?_)
  refine lv_iload_n hx hb dX8_number_9 rfl (lvA1 hl) ?_
  refine lv_bipush (v := 8) hx hb dX8_number_10 kbc_8 ?_
  refine lv_ishl hx hb dX8_number_12 ?_
  refine lv_aload_n hx hb dX8_number_13 rfl (lvA2 hl) ?_
  refine lv_iconst (v := 4) hx hb dX8_number_14 kic_4 ?_
  refine lv_iload_n hx hb dX8_number_15 rfl (lvA3 hl) ?_
  refine lv_imul hx hb dX8_number_16 ?_
  refine lv_topi (fun y_10 ey_10 => ?_)
  obtain rfl : y_10 = (nI (4 * k0)) := ey_10.trans (pk_mul 4 k0)
  refine lv_iload_n hx hb dX8_number_17 rfl (lvA0 hl) ?_
  refine lv_iadd hx hb dX8_number_18 ?_
  refine lv_topi (fun y_11 ey_11 => ?_)
  obtain rfl : y_11 = (nI ((4 * k0) + 2)) := ey_11.trans (nI_add (4 * k0) 2)
  refine vp_callSi (runV_rxa (As := [.int (nI ((4 * k0) + 2))]) (rest := [.int ((((0 ||| (((Fn 40)) ((4 * k0) + 0))) <<< (8 &&& 31)) ||| (((Fn 40)) ((4 * k0) + 1))) <<< (8 &&& 31))]) S (q_Etat l D cI cB cZ zz qq vv bt g ad cn In Fn ((4 * k0) + 2) hB (by (first | omega | (have zz0 := Hid.u hb_cn; omega)))) kV_RX8_33 hK hXS hS hP 1 xo_1 rfl rfl ⟨Nat.le_of_ble_eq_true rfl, Nat.le_of_ble_eq_true rfl⟩ ⟨Nat.le_of_ble_eq_true rfl, Nat.le_of_ble_eq_true rfl⟩ rfl hl.1 rfl (Nat.le_of_ble_eq_true rfl) dX8_number_19) (fun r_12 h_13 => ?_)
  subst h_13
  refine lv_ior hx hb dX8_number_22 ?_
  refine lv_istore_n (lv' := [(2, .int (((((0 ||| (((Fn 40)) ((4 * k0) + 0))) <<< (8 &&& 31)) ||| (((Fn 40)) ((4 * k0) + 1))) <<< (8 &&& 31)) ||| (((Fn 40)) ((4 * k0) + 2)))), (3, .int 2), (0, .ref (g 5)), (1, .int (nI k0))]) hx hb dX8_number_23 rfl hl (ltb rfl) rfl (fun ls hl => ?_)
  refine lv_iinc (v := 3) (lv' := [(3, .int 3), (2, .int (((((0 ||| (((Fn 40)) ((4 * k0) + 0))) <<< (8 &&& 31)) ||| (((Fn 40)) ((4 * k0) + 1))) <<< (8 &&& 31)) ||| (((Fn 40)) ((4 * k0) + 2)))), (0, .ref (g 5)), (1, .int (nI k0))]) hx hb dX8_number_24 hl (k := 1) rfl (by decide) (ltb rfl) rfl (fun ls hl => ?_)
  refine lv_goto (tgt := 4) hx hb dX8_number_27 rfl ?_
  refine lv_iload_n hx hb dX8_number_4 rfl (lvA0 hl) ?_
  refine lv_iconst (v := 4) hx hb dX8_number_5 kic_4 ?_
  refine lv_icmp_ge (tgt := 30) hx hb dX8_number_6 rfl (fun h => absurd h cq_le_4_3) (fun _ => ?_)
  refine lv_iload_n hx hb dX8_number_9 rfl (lvA1 hl) ?_
  refine lv_bipush (v := 8) hx hb dX8_number_10 kbc_8 ?_
  refine lv_ishl hx hb dX8_number_12 ?_
  refine lv_aload_n hx hb dX8_number_13 rfl (lvA2 hl) ?_
  refine lv_iconst (v := 4) hx hb dX8_number_14 kic_4 ?_
  refine lv_iload_n hx hb dX8_number_15 rfl (lvA3 hl) ?_
  refine lv_imul hx hb dX8_number_16 ?_
  refine lv_topi (fun y_14 ey_14 => ?_)
  obtain rfl : y_14 = (nI (4 * k0)) := ey_14.trans (pk_mul 4 k0)
  refine lv_iload_n hx hb dX8_number_17 rfl (lvA0 hl) ?_
  refine lv_iadd hx hb dX8_number_18 ?_
  refine lv_topi (fun y_15 ey_15 => ?_)
  obtain rfl : y_15 = (nI ((4 * k0) + 3)) := ey_15.trans (nI_add (4 * k0) 3)
  refine vp_callSi (runV_rxa (As := [.int (nI ((4 * k0) + 3))]) (rest := [.int ((((((0 ||| (((Fn 40)) ((4 * k0) + 0))) <<< (8 &&& 31)) ||| (((Fn 40)) ((4 * k0) + 1))) <<< (8 &&& 31)) ||| (((Fn 40)) ((4 * k0) + 2))) <<< (8 &&& 31))]) S (q_Etat l D cI cB cZ zz qq vv bt g ad cn In Fn ((4 * k0) + 3) hB (by (first | omega | (have zz0 := Hid.u hb_cn; omega)))) kV_RX8_33 hK hXS hS hP 1 xo_1 rfl rfl ⟨Nat.le_of_ble_eq_true rfl, Nat.le_of_ble_eq_true rfl⟩ ⟨Nat.le_of_ble_eq_true rfl, Nat.le_of_ble_eq_true rfl⟩ rfl hl.1 rfl (Nat.le_of_ble_eq_true rfl) dX8_number_19) (fun r_16 h_17 => ?_)
  subst h_17
  refine lv_ior hx hb dX8_number_22 ?_
  refine lv_istore_n (lv' := [(2, .int (((((((0 ||| (((Fn 40)) ((4 * k0) + 0))) <<< (8 &&& 31)) ||| (((Fn 40)) ((4 * k0) + 1))) <<< (8 &&& 31)) ||| (((Fn 40)) ((4 * k0) + 2))) <<< (8 &&& 31)) ||| (((Fn 40)) ((4 * k0) + 3)))), (3, .int 3), (0, .ref (g 5)), (1, .int (nI k0))]) hx hb dX8_number_23 rfl hl (ltb rfl) rfl (fun ls hl => ?_)
  refine lv_iinc (v := 4) (lv' := [(3, .int 4), (2, .int (((((((0 ||| (((Fn 40)) ((4 * k0) + 0))) <<< (8 &&& 31)) ||| (((Fn 40)) ((4 * k0) + 1))) <<< (8 &&& 31)) ||| (((Fn 40)) ((4 * k0) + 2))) <<< (8 &&& 31)) ||| (((Fn 40)) ((4 * k0) + 3)))), (0, .ref (g 5)), (1, .int (nI k0))]) hx hb dX8_number_24 hl (k := 1) rfl (by decide) (ltb rfl) rfl (fun ls hl => ?_)
  refine lv_goto (tgt := 4) hx hb dX8_number_27 rfl ?_
  refine lv_iload_n hx hb dX8_number_4 rfl (lvA0 hl) ?_
  refine lv_iconst (v := 4) hx hb dX8_number_5 kic_4 ?_
  refine lv_icmp_ge (tgt := 30) hx hb dX8_number_6 rfl (fun _ => ?_) (fun h => absurd h cq_le_4_4)
  refine lv_iload_n hx hb (oc_28 30 (aq_6 shX8_number_24)) rfl (lvA1 hl) ?_
  exact W.iret (v := (((((((0 ||| (((Fn 40)) ((4 * k0) + 0))) <<< (8 &&& 31)) ||| (((Fn 40)) ((4 * k0) + 1))) <<< (8 &&& 31)) ||| (((Fn 40)) ((4 * k0) + 2))) <<< (8 &&& 31)) ||| (((Fn 40)) ((4 * k0) + 3)))) hx hb hr (fun t ht hW => ⟨(((((((0 ||| (((Fn 40)) ((4 * k0) + 0))) <<< (8 &&& 31)) ||| (((Fn 40)) ((4 * k0) + 1))) <<< (8 &&& 31)) ||| (((Fn 40)) ((4 * k0) + 2))) <<< (8 &&& 31)) ||| (((Fn 40)) ((4 * k0) + 3))), rfl, tnr_4.symm, ht⟩) (fun _ h => absurd h List.not_mem_nil) (oc_172 31 (aq_7 shX8_number_24))
set_option maxRecDepth 100000 in
set_option maxHeartbeats 4000000 in
theorem q_tapeNumber9 (l : Launch) (D : va_G) (cI cB cZ : ClassId) (g : Nat → Nat) (cn : Nat → Nat) (In : Nat → Int32) (Fn : Nat → Nat → Int32) (k : Nat) (hI : IM cn Fn) (hk : 4 * k + 4 ≤ 200) : Met l yX12_tapeNumber (CWS yX12_tapeNumber cX12_tapeNumber 4 (some .int)) (RM 0 0 0) (PBr [.ref (g 100), .int (nI k)] D cI cB cZ (wM cI cB cZ g cn In Fn)) (vp_Si (fun r => r = tnr (fun i9 => Fn 17 i9 &&& 255) (4 * k) 4)) 0 0 (fun _ => False) := by
  refine en_r rfl pn_RX12 (Nat.le_of_ble_eq_true rfl) (fun p e s m below meth c hx hb hml hown S hr hlocks hnm hP hK hS ls hl => ?_)
  have hl : lv_has ls 4 [(0, .ref (g 100)), (1, .int (nI k))] := hl
  have hi_cn : Hid (CB cn) := hI.b
  refine lv_iconst (v := 0) hx hb (oc_3 0 shX12_tapeNumber_0) kic_0 ?_
  refine lv_istore_n (lv' := [(2, .int 0), (0, .ref (g 100)), (1, .int (nI k))]) hx hb (oc_61 1 (aq_1 shX12_tapeNumber_0)) rfl hl (ltb rfl) rfl (fun ls hl => ?_)
  refine lv_iconst (v := 4) hx hb (oc_7 2 (aq_2 shX12_tapeNumber_0)) kic_4 ?_
  refine lv_iload_n hx hb (oc_27 3 (aq_3 shX12_tapeNumber_0)) rfl (lvA2 hl) ?_
  refine lv_imul hx hb (oc_104 4 (aq_4 shX12_tapeNumber_0)) ?_
  refine lv_topi (fun y_1 ey_1 => ?_)
  obtain rfl : y_1 = (nI (4 * k)) := ey_1.trans (pk_mul 4 k)
  refine lv_istore_n (lv' := [(3, .int (nI (4 * k))), (2, .int 0), (0, .ref (g 100)), (1, .int (nI k))]) hx hb (oc_62 5 (aq_5 shX12_tapeNumber_0)) rfl hl (ltb rfl) rfl (fun ls hl => ?_)
  have lp_6 : ∀ (n : Nat) (i6 : Nat) (x6_2 : Int32) , 4 * k + 4 - i6 < n → (i6 ≤ 4 * k + 4 ∧ (4 * k ≤ i6 ∧ x6_2 = tnr (fun i9 => Fn 17 i9 &&& 255) (4 * k) (i6 - 4 * k))) → ∀ ls : Array Slot, lv_has ls 4 [(3, .int (nI i6)), (2, .int x6_2), (0, .ref (g 100)), (1, .int (nI k))] → W p l e (RM 0 0 0) s m ([.ref (g 100), .int (nI k)]).toArray below meth c s.heap [] 0 0 (MQ below (vp_Si (fun r => r = tnr (fun i9 => Fn 17 i9 &&& 255) (4 * k) 4)) ([.ref (g 100), .int (nI k)]).toArray s 0 0 (fun _ => False)) (F0 m 6 ls []) := by
    intro n6
    induction n6 with
    | zero => intros; (first | omega | (have zz0 := Hid.u hi_cn; omega))
    | succ n6 ih6 =>
      intro i6 x6_2 hmu6 hinv6 ls hl
      obtain ⟨hr6, hx6_0⟩ := hinv6
      have ti6 : (nI i6).toInt = (i6 : Int) := nI_toInt (by (first | omega | (have zz0 := Hid.u hi_cn; omega)))
      refine lv_iload_n hx hb (oc_29 6 (aq_6 shX12_tapeNumber_0)) rfl (lvA0 hl) ?_
      refine lv_iconst (v := 4) hx hb (oc_7 7 (aq_7 shX12_tapeNumber_0)) kic_4 ?_
      refine lv_iload_n hx hb (oc_27 8 (aq_8 shX12_tapeNumber_0)) rfl (lvA3 hl) ?_
      refine lv_imul hx hb (oc_104 9 (aq_9 shX12_tapeNumber_0)) ?_
      refine lv_topi (fun y_2 ey_2 => ?_)
      obtain rfl : y_2 = (nI (4 * k)) := ey_2.trans (pk_mul 4 k)
      refine lv_iconst (v := 4) hx hb (oc_7 10 (aq_10 shX12_tapeNumber_0)) kic_4 ?_
      refine lv_iadd hx hb (oc_96 11 (aq_11 shX12_tapeNumber_0)) ?_
      refine lv_topi (fun y_3 ey_3 => ?_)
      obtain rfl : y_3 = (nI ((4 * k) + 4)) := ey_3.trans (nI_add (4 * k) 4)
      have : (nI ((4 * k) + 4)).toInt = ((((4 * k) + 4) : Nat) : Int) := nI_toInt (by (first | omega | (have zz0 := Hid.u hi_cn; omega)))
      refine lv_icmp_ge (tgt := 37) hx hb (oc_162 12 (aq_12 shX12_tapeNumber_0) sgw_0_25) rfl (fun c_4 => ?_) (fun c_4 => ?_)
      ·
        have tc_4 : ((nI ((4 * k) + 4)).toInt : Int) ≤ (nI i6).toInt := Int32.le_iff_toInt_le.mp c_4
        refine lv_iload_n hx hb (oc_28 37 (aq_13 shX12_tapeNumber_24)) rfl (lvA1 hl) ?_
        exact W.iret (v := x6_2) hx hb hr (fun t ht hW => ⟨x6_2, rfl, (by have e9 : i6 = 4 * k + 4 := (by (first | omega | (have zz0 := Hid.u hi_cn; omega))); have h9 := hx6_0.2; rw [e9, show 4 * k + 4 - 4 * k = 4 by (first | omega | (have zz0 := Hid.u hi_cn; omega))] at h9; exact h9), ht⟩) (fun _ h => absurd h List.not_mem_nil) (oc_172 38 (aq_14 shX12_tapeNumber_24))
      ·
        have tc_4 : ((nI i6).toInt : Int) < (nI ((4 * k) + 4)).toInt := Int32.lt_iff_toInt_lt.mp (Int32.not_le.mp c_4)
        refine lv_iload_n hx hb (oc_28 15 (aq_15 shX12_tapeNumber_0)) rfl (lvA1 hl) ?_
        refine lv_bipush (v := 8) hx hb (oc_16 16 (aq_16 shX12_tapeNumber_0) sgb_8) kbc_8 ?_
        refine lv_ishl hx hb (oc_120 18 (aq_18 shX12_tapeNumber_0)) ?_
        refine lv_aload_n hx hb (oc_42 19 (aq_19 shX12_tapeNumber_0)) rfl (lvA2 hl) ?_
        refine gM_52 S hK hP (v := .ref (g 17)) rfl (oc_180 20 (aq_20 shX12_tapeNumber_0) uw_0_52) ?_
        refine lv_iload_n hx hb (oc_29 23 (aq_23 shX12_tapeNumber_0)) rfl (lvA0 hl) ?_
        have kb_1 : i6 < 200 := by (first | omega | (have zz0 := Hid.u hi_cn; omega))
        refine ldM_17 hx hb hK hP (x := ((Fn 17) i6)) (vp_in_nI kb_1 (ltb rfl)) (nI_clamp (Nat.lt_trans kb_1 (ltb rfl))) rfl (oc_51 24 shX12_tapeNumber_24) ?_
        refine lv_sipush (v := 255) hx hb (oc_17 25 (aq_1 shX12_tapeNumber_24) sgw_0_255) (by decide) ?_
        refine lv_iand hx hb (oc_126 28 (aq_4 shX12_tapeNumber_24)) ?_
        refine lv_ior hx hb (oc_128 29 (aq_5 shX12_tapeNumber_24)) ?_
        refine lv_istore_n (lv' := [(2, .int ((x6_2 <<< (8 &&& 31)) ||| (((Fn 17) i6) &&& 255))), (3, .int (nI i6)), (0, .ref (g 100)), (1, .int (nI k))]) hx hb (oc_61 30 (aq_6 shX12_tapeNumber_24)) rfl hl (ltb rfl) rfl (fun ls hl => ?_)
        refine lv_iinc (v := (nI (i6 + 1))) (lv' := [(3, .int (nI (i6 + 1))), (2, .int ((x6_2 <<< (8 &&& 31)) ||| (((Fn 17) i6) &&& 255))), (0, .ref (g 100)), (1, .int (nI k))]) hx hb (oc_132 31 (aq_7 shX12_tapeNumber_24) ub_3 sgb_1) hl (k := 1) rfl (nI_1 _) (ltb rfl) rfl (fun ls hl => ?_)
        refine lv_goto (tgt := 6) hx hb (oc_167 34 (aq_10 shX12_tapeNumber_24) sgw_255_228) rfl ?_
        exact ih6 (i6 + 1) ((x6_2 <<< (8 &&& 31)) ||| (((Fn 17) i6) &&& 255)) (by (first | omega | (have zz0 := Hid.u hi_cn; omega))) ⟨(by (first | omega | (have zz0 := Hid.u hi_cn; omega))), ⟨by (first | omega | (have zz0 := Hid.u hi_cn; omega)), tnr_s (t := (fun i9 => Fn 17 i9 &&& 255)) (a := 4 * k) (i := i6) hx6_0.1 hx6_0.2⟩⟩ ls (lv_sub hl [0, 1, 2, 3] rfl)
  exact lp_6 _ (4 * k) 0 (Nat.lt_succ_self _) ⟨(by (first | omega | (have zz0 := Hid.u hi_cn; omega))), ⟨by (first | omega | (have zz0 := Hid.u hi_cn; omega)), by rw [Nat.sub_self] <;> rfl⟩⟩ ls (lv_sub hl [0, 1, 2, 3] rfl)
set_option maxRecDepth 100000 in
set_option maxHeartbeats 4000000 in
theorem q_EwrongPart (l : Launch) (D : va_G) (cI cB cZ : ClassId) (zz qq vv : Nat) (bt : Nat → Int32) (g : Nat → Nat) (ad : Nat → Nat → Nat) (cn : Nat → Nat) (In : Nat → Int32) (Fn : Nat → Nat → Int32) (k0 p0 : Nat) (hB : CBX cn) (hk : k0 < cn 11) (hp : 4 * (p0 + 3) + 4 ≤ 200) : Met l yX11_wrongPart (CWS yX11_wrongPart cX11_wrongPart 4 (some .int)) (RM 3 0 0) (PBrx [.ref (g 0), .ref (ad 11 k0), .int (nI k0), .int (nI p0)] D cI cB cZ zz qq vv bt (wX cI (D.1 99) zz g ad cn In Fn)) (vp_Si (fun r => r = wrp (Fn 121) (Fn 122) (Fn 128) (Fn 40) k0 p0)) 0 0 (fun _ => False) := by
  refine en_rx rfl pn_RX11 (Nat.le_of_ble_eq_true rfl) (fun p e s m below meth c hx hb hml hown S hr hlocks hnm hP hK hXS hS ls hl => ?_)
  have hl : lv_has ls 4 [(0, .ref (g 0)), (1, .ref (ad 11 k0)), (2, .int (nI k0)), (3, .int (nI p0))] := hl
  have hb_cn : Hid (CBX cn) := hB
  replace hB : CBXh cn := hB
  refine lv_aload_n hx hb (oc_42 0 shX11_wrongPart_0) rfl (lvA0 hl) ?_
  refine gf_RX11_21 S hK hP 0 xo_0 (v := .ref (g 5)) rfl (oc_180 1 (aq_1 shX11_wrongPart_0) uw_0_21) ?_
  refine lv_iload_n hx hb (oc_29 4 (aq_4 shX11_wrongPart_0)) rfl (lvA3 hl) ?_
  refine vp_callSi (runV_rxa (As := [.int (nI p0)]) (rest := []) S (q_Enumber l D cI cB cZ zz qq vv bt g ad cn In Fn p0 hB (by (first | omega | (have zz0 := Hid.u hb_cn; omega)))) kV_RX11_530 hK hXS hS hP 1 xo_1 rfl rfl ⟨Nat.le_of_ble_eq_true rfl, Nat.le_of_ble_eq_true rfl⟩ ⟨Nat.le_of_ble_eq_true rfl, Nat.le_of_ble_eq_true rfl⟩ rfl hl.1 rfl (Nat.le_of_ble_eq_true rfl) (oc_182 5 (aq_5 shX11_wrongPart_0) uw_2_18)) (fun r_1 h_2 => ?_)
  subst h_2
  refine lv_iload_n hx hb (oc_28 8 (aq_8 shX11_wrongPart_0)) rfl (lvA2 hl) ?_
  have : (nI k0).toInt = ((k0 : Nat) : Int) := nI_toInt (by (first | omega | (have zz0 := Hid.u hb_cn; omega)))
  refine lv_icmp_eq (tgt := 14) hx hb (oc_159 9 (aq_9 shX11_wrongPart_0) sgw_0_5) rfl (fun c_3 => ?_) (fun c_3 => ?_)
  ·
    have tc_3 : ((tnr ((Fn 40)) (4 * p0) 4).toInt : Int) = (nI k0).toInt := congrArg Int32.toInt c_3
    refine lv_aload_n hx hb (oc_42 14 (aq_14 shX11_wrongPart_0)) rfl (lvA0 hl) ?_
    refine gf_RX11_21 S hK hP 0 xo_0 (v := .ref (g 5)) rfl (oc_180 15 (aq_15 shX11_wrongPart_0) uw_0_21) ?_
    refine lv_iload_n hx hb (oc_29 18 (aq_18 shX11_wrongPart_0)) rfl (lvA3 hl) ?_
    refine lv_iconst (v := 1) hx hb (oc_4 19 (aq_19 shX11_wrongPart_0)) kic_1 ?_
    refine lv_iadd hx hb (oc_96 20 (aq_20 shX11_wrongPart_0)) ?_
    refine lv_topi (fun y_4 ey_4 => ?_)
    obtain rfl : y_4 = (nI (p0 + 1)) := ey_4.trans (nI_add p0 1)
    refine vp_callSi (runV_rxa (As := [.int (nI (p0 + 1))]) (rest := []) S (q_Enumber l D cI cB cZ zz qq vv bt g ad cn In Fn (p0 + 1) hB (by (first | omega | (have zz0 := Hid.u hb_cn; omega)))) kV_RX11_530 hK hXS hS hP 1 xo_1 rfl rfl ⟨Nat.le_of_ble_eq_true rfl, Nat.le_of_ble_eq_true rfl⟩ ⟨Nat.le_of_ble_eq_true rfl, Nat.le_of_ble_eq_true rfl⟩ rfl hl.1 rfl (Nat.le_of_ble_eq_true rfl) (oc_182 21 (aq_21 shX11_wrongPart_0) uw_2_18)) (fun r_5 h_6 => ?_)
    subst h_6
    refine lv_aload_n hx hb (oc_43 24 shX11_wrongPart_24) rfl (lvA1 hl) ?_
    refine gf_RX11_196 S hK hP _ (xf_1 hk) (v := .int ((Fn 121) k0)) rfl (oc_180 25 (aq_1 shX11_wrongPart_24) uw_0_196) ?_
    refine lv_icmp_eq (tgt := 33) hx hb (oc_159 28 (aq_4 shX11_wrongPart_24) sgw_0_5) rfl (fun c_7 => ?_) (fun c_7 => ?_)
    ·
      have tc_7 : ((tnr ((Fn 40)) (4 * (p0 + 1)) 4).toInt : Int) = ((Fn 121) k0).toInt := congrArg Int32.toInt c_7
      refine lv_aload_n hx hb (oc_42 33 (aq_9 shX11_wrongPart_24)) rfl (lvA0 hl) ?_
      refine gf_RX11_21 S hK hP 0 xo_0 (v := .ref (g 5)) rfl (oc_180 34 (aq_10 shX11_wrongPart_24) uw_0_21) ?_
      refine lv_iload_n hx hb (oc_29 37 (aq_13 shX11_wrongPart_24)) rfl (lvA3 hl) ?_
      refine lv_iconst (v := 2) hx hb (oc_5 38 (aq_14 shX11_wrongPart_24)) kic_2 ?_
      refine lv_iadd hx hb (oc_96 39 (aq_15 shX11_wrongPart_24)) ?_
      refine lv_topi (fun y_8 ey_8 => ?_)
      obtain rfl : y_8 = (nI (p0 + 2)) := ey_8.trans (nI_add p0 2)
      refine vp_callSi (runV_rxa (As := [.int (nI (p0 + 2))]) (rest := []) S (q_Enumber l D cI cB cZ zz qq vv bt g ad cn In Fn (p0 + 2) hB (by (first | omega | (have zz0 := Hid.u hb_cn; omega)))) kV_RX11_530 hK hXS hS hP 1 xo_1 rfl rfl ⟨Nat.le_of_ble_eq_true rfl, Nat.le_of_ble_eq_true rfl⟩ ⟨Nat.le_of_ble_eq_true rfl, Nat.le_of_ble_eq_true rfl⟩ rfl hl.1 rfl (Nat.le_of_ble_eq_true rfl) (oc_182 40 (aq_16 shX11_wrongPart_24) uw_2_18)) (fun r_9 h_10 => ?_)
      subst h_10
      refine lv_aload_n hx hb (oc_43 43 (aq_19 shX11_wrongPart_24)) rfl (lvA1 hl) ?_
      refine gf_RX11_202 S hK hP _ (xf_1 hk) (v := .int ((Fn 122) k0)) rfl (oc_180 44 (aq_20 shX11_wrongPart_24) uw_0_202) ?_
      refine lv_icmp_eq (tgt := 52) hx hb (oc_159 47 (aq_23 shX11_wrongPart_24) sgw_0_5) rfl (fun c_11 => ?_) (fun c_11 => ?_)
      ·
        have tc_11 : ((tnr ((Fn 40)) (4 * (p0 + 2)) 4).toInt : Int) = ((Fn 122) k0).toInt := congrArg Int32.toInt c_11
        refine lv_aload_n hx hb (oc_42 52 (aq_2 shX11_wrongPart_50)) rfl (lvA0 hl) ?_
        refine gf_RX11_21 S hK hP 0 xo_0 (v := .ref (g 5)) rfl (oc_180 53 (aq_3 shX11_wrongPart_50) uw_0_21) ?_
        refine lv_iload_n hx hb (oc_29 56 (aq_6 shX11_wrongPart_50)) rfl (lvA3 hl) ?_
        refine lv_iconst (v := 3) hx hb (oc_6 57 (aq_7 shX11_wrongPart_50)) kic_3 ?_
        refine lv_iadd hx hb (oc_96 58 (aq_8 shX11_wrongPart_50)) ?_
        refine lv_topi (fun y_12 ey_12 => ?_)
        obtain rfl : y_12 = (nI (p0 + 3)) := ey_12.trans (nI_add p0 3)
        refine vp_callSi (runV_rxa (As := [.int (nI (p0 + 3))]) (rest := []) S (q_Enumber l D cI cB cZ zz qq vv bt g ad cn In Fn (p0 + 3) hB (by (first | omega | (have zz0 := Hid.u hb_cn; omega)))) kV_RX11_530 hK hXS hS hP 1 xo_1 rfl rfl ⟨Nat.le_of_ble_eq_true rfl, Nat.le_of_ble_eq_true rfl⟩ ⟨Nat.le_of_ble_eq_true rfl, Nat.le_of_ble_eq_true rfl⟩ rfl hl.1 rfl (Nat.le_of_ble_eq_true rfl) (oc_182 59 (aq_9 shX11_wrongPart_50) uw_2_18)) (fun r_13 h_14 => ?_)
        subst h_14
        refine lv_aload_n hx hb (oc_43 62 (aq_12 shX11_wrongPart_50)) rfl (lvA1 hl) ?_
        refine gf_RX11_141 S hK hP _ (xf_1 hk) (v := .int ((Fn 128) k0)) rfl (oc_180 63 (aq_13 shX11_wrongPart_50) uw_0_141) ?_
        refine lv_icmp_eq (tgt := 73) hx hb (oc_159 66 (aq_16 shX11_wrongPart_50) sgw_0_7) rfl (fun c_15 => ?_) (fun c_15 => ?_)
        ·
          have tc_15 : ((tnr ((Fn 40)) (4 * (p0 + 3)) 4).toInt : Int) = ((Fn 128) k0).toInt := congrArg Int32.toInt c_15
          refine lv_iconst (v := (-1)) hx hb (oc_2 73 (aq_23 shX11_wrongPart_50)) kic_m1 ?_
          exact W.iret (v := (-1)) hx hb hr (fun t ht hW => ⟨(-1), rfl, (wrp_4 (by assumption) (by assumption) (by assumption) (by assumption)).symm, ht⟩) (fun _ h => absurd h List.not_mem_nil) dX11_wrongPart_74
        ·
          have tc_15 : ((tnr ((Fn 40)) (4 * (p0 + 3)) 4).toInt : Int) ≠ ((Fn 128) k0).toInt := fun q => c_15 (Int32.toInt_inj.mp q)
          refine lv_iconst (v := 3) hx hb (oc_6 69 (aq_19 shX11_wrongPart_50)) kic_3 ?_
          refine lv_goto (tgt := 74) hx hb (oc_167 70 (aq_20 shX11_wrongPart_50) sgw_0_4) rfl ?_
          exact W.iret (v := 3) hx hb hr (fun t ht hW => ⟨3, rfl, (wrp_3 (by assumption) (by assumption) (by assumption) (by assumption)).symm, ht⟩) (fun _ h => absurd h List.not_mem_nil) dX11_wrongPart_74
      ·
        have tc_11 : ((tnr ((Fn 40)) (4 * (p0 + 2)) 4).toInt : Int) ≠ ((Fn 122) k0).toInt := fun q => c_11 (Int32.toInt_inj.mp q)
        refine lv_iconst (v := 2) hx hb (oc_5 50 shX11_wrongPart_50) kic_2 ?_
        exact W.iret (v := 2) hx hb hr (fun t ht hW => ⟨2, rfl, (wrp_2 (by assumption) (by assumption) (by assumption)).symm, ht⟩) (fun _ h => absurd h List.not_mem_nil) (oc_172 51 (aq_1 shX11_wrongPart_50))
    ·
      have tc_7 : ((tnr ((Fn 40)) (4 * (p0 + 1)) 4).toInt : Int) ≠ ((Fn 121) k0).toInt := fun q => c_7 (Int32.toInt_inj.mp q)
      refine lv_iconst (v := 1) hx hb (oc_4 31 (aq_7 shX11_wrongPart_24)) kic_1 ?_
      exact W.iret (v := 1) hx hb hr (fun t ht hW => ⟨1, rfl, (wrp_1 (by assumption) (by assumption)).symm, ht⟩) (fun _ h => absurd h List.not_mem_nil) (oc_172 32 (aq_8 shX11_wrongPart_24))
  ·
    have tc_3 : ((tnr ((Fn 40)) (4 * p0) 4).toInt : Int) ≠ (nI k0).toInt := fun q => c_3 (Int32.toInt_inj.mp q)
    refine lv_iconst (v := 0) hx hb (oc_3 12 (aq_12 shX11_wrongPart_0)) kic_0 ?_
    exact W.iret (v := 0) hx hb hr (fun t ht hW => ⟨0, rfl, (wrp_0 (by assumption)).symm, ht⟩) (fun _ h => absurd h List.not_mem_nil) (oc_172 13 (aq_13 shX11_wrongPart_0))
set_option maxRecDepth 100000 in
set_option maxHeartbeats 4000000 in
theorem q_EfirstWrong (l : Launch) (D : va_G) (cI cB cZ : ClassId) (zz qq vv : Nat) (bt : Nat → Int32) (g : Nat → Nat) (ad : Nat → Nat → Nat) (cn : Nat → Nat) (In : Nat → Int32) (Fn : Nat → Nat → Int32) (v0 : Int32) (n0 : Nat) (hB : CBX cn) (hn : n0 % 4 = 0 ∧ 4 * n0 ≤ 200) : Met l yX11_firstWrong (CWS yX11_firstWrong cX11_firstWrong 7 (some .int)) (RM 4 0 0) (PBrx [.ref (g 0), .int v0, .int (nI n0)] D cI cB cZ zz qq vv bt (wX cI (D.1 99) zz g ad cn In Fn)) (vp_Si (fun r => r = chk (Fn 120) (Fn 121) (Fn 122) (Fn 128) (Fn 40) v0 n0 (cn 11) 0 0)) 0 0 (fun _ => False) := by
  refine en_rx rfl pn_RX11 (Nat.le_of_ble_eq_true rfl) (fun p e s m below meth c hx hb hml hown S hr hlocks hnm hP hK hXS hS ls hl => ?_)
  have hl : lv_has ls 7 [(0, .ref (g 0)), (1, .int v0), (2, .int (nI n0))] := hl
  have hb_cn : Hid (CBX cn) := hB
  replace hB : CBXh cn := hB
  refine lv_iconst (v := 0) hx hb (oc_3 0 shX11_firstWrong_0) kic_0 ?_
  refine lv_istore_n (lv' := [(3, .int 0), (0, .ref (g 0)), (1, .int v0), (2, .int (nI n0))]) hx hb (oc_62 1 (aq_1 shX11_firstWrong_0)) rfl hl (ltb rfl) rfl (fun ls hl => ?_)
  refine lv_iconst (v := 0) hx hb (oc_3 2 (aq_2 shX11_firstWrong_0)) kic_0 ?_
  refine lv_istore (lv' := [(4, .int 0), (3, .int 0), (0, .ref (g 0)), (1, .int v0), (2, .int (nI n0))]) hx hb (oc_54 3 (aq_3 shX11_firstWrong_0) ub_4) hl (ltb rfl) rfl (fun ls hl => ?_)
  have lp_5 : ∀ (n : Nat) (i5 : Nat) (p5 : Nat) , cn 11 - i5 < n → (i5 ≤ cn 11 ∧ (p5 % 4 = 0 ∧ p5 ≤ n0) ∧ (chk (Fn 120) (Fn 121) (Fn 122) (Fn 128) (Fn 40) v0 n0 (cn 11 - i5) i5 p5 = chk (Fn 120) (Fn 121) (Fn 122) (Fn 128) (Fn 40) v0 n0 (cn 11) 0 0)) → ∀ ls : Array Slot, lv_has ls 7 [(4, .int (nI i5)), (3, .int (nI p5)), (0, .ref (g 0)), (1, .int v0), (2, .int (nI n0))] → W p l e (RM 4 0 0) s m ([.ref (g 0), .int v0, .int (nI n0)]).toArray below meth c s.heap [] 0 0 (MQ below (vp_Si (fun r => r = chk (Fn 120) (Fn 121) (Fn 122) (Fn 128) (Fn 40) v0 n0 (cn 11) 0 0)) ([.ref (g 0), .int v0, .int (nI n0)]).toArray s 0 0 (fun _ => False)) (F0 m 5 ls []) := by
    intro n5
    induction n5 with
    | zero => intros; (first | omega | (have zz0 := Hid.u hb_cn; omega))
    | succ n5 ih5 =>
      intro i5 p5 hmu5 hinv5 ls hl
      obtain ⟨hr5, hx5_0, hx5_1⟩ := hinv5
      have ti5 : (nI i5).toInt = (i5 : Int) := nI_toInt (by (first | omega | (have zz0 := Hid.u hb_cn; omega)))
      refine lv_iload hx hb (oc_21 5 (aq_5 shX11_firstWrong_0) ub_4) (lvA0 hl) ?_
      refine lv_aload_n hx hb (oc_42 7 (aq_7 shX11_firstWrong_0)) rfl (lvA2 hl) ?_
      refine gf_RX11_65 S hK hP 0 xo_0 (v := .ref (g 11)) rfl (oc_180 8 (aq_8 shX11_firstWrong_0) uw_0_65) ?_
      refine vp_callSi (runV_r (As := []) (rest := [.int (nI i5)]) S (q_l_size l D cI cB cZ (g 11) (if (cn 11) = 0 then zz else ad 2 1) (In 11) (nI (cn 11))) kV_RX11_84 hK hP [25] (one_is xo_25) 25 xo_25 rfl rfl ⟨Nat.le_of_ble_eq_true rfl, Nat.le_of_ble_eq_true rfl⟩ ⟨Nat.le_of_ble_eq_true rfl, Nat.le_of_ble_eq_true rfl⟩ rfl hl.1 rfl (Nat.le_of_ble_eq_true rfl) (oc_182 11 (aq_11 shX11_firstWrong_0) uw_0_84)) (fun r_1 h_2 => ?_)
      subst h_2
      have : (nI (cn 11)).toInt = (((cn 11) : Nat) : Int) := nI_toInt (by (first | omega | (have zz0 := Hid.u hb_cn; omega)))
      refine lv_icmp_ge (tgt := 81) hx hb (oc_162 14 (aq_14 shX11_firstWrong_0) sgw_0_67) rfl (fun c_3 => ?_) (fun c_3 => ?_)
      ·
        have tc_3 : ((nI (cn 11)).toInt : Int) ≤ (nI i5).toInt := Int32.le_iff_toInt_le.mp c_3
        refine lv_iload_n hx hb (oc_29 81 (aq_6 shX11_firstWrong_75)) rfl (lvA1 hl) ?_
        refine lv_iload_n hx hb (oc_28 82 (aq_7 shX11_firstWrong_75)) rfl (lvA4 hl) ?_
        have : (nI p5).toInt = ((p5 : Nat) : Int) := nI_toInt (by (first | omega | (have zz0 := Hid.u hb_cn; omega)))
        have : (nI n0).toInt = ((n0 : Nat) : Int) := nI_toInt (by (first | omega | (have zz0 := Hid.u hb_cn; omega)))
        refine lv_icmp_ge (tgt := 90) hx hb (oc_162 83 (aq_8 shX11_firstWrong_75) sgw_0_7) rfl (fun c_4 => ?_) (fun c_4 => ?_)
        ·
          have tc_4 : ((nI n0).toInt : Int) ≤ (nI p5).toInt := Int32.le_iff_toInt_le.mp c_4
          refine lv_iconst (v := (-1)) hx hb (oc_2 90 (aq_15 shX11_firstWrong_75)) kic_m1 ?_
          exact W.iret (v := (-1)) hx hb hr (fun t ht hW => ⟨(-1), rfl, (by have e9 := chk_end (by (first | omega | (have zz0 := Hid.u hb_cn; omega))) hx5_1; rw [if_neg (by (first | omega | (have zz0 := Hid.u hb_cn; omega)))] at e9; exact e9), ht⟩) (fun _ h => absurd h List.not_mem_nil) dX11_firstWrong_91
        ·
          have tc_4 : ((nI p5).toInt : Int) < (nI n0).toInt := Int32.lt_iff_toInt_lt.mp (Int32.not_le.mp c_4)
          refine lv_iload_n hx hb (oc_29 86 (aq_11 shX11_firstWrong_75)) rfl (lvA1 hl) ?_
          refine lv_goto (tgt := 91) hx hb (oc_167 87 (aq_12 shX11_firstWrong_75) sgw_0_4) rfl ?_
          exact W.iret (v := (nI p5)) hx hb hr (fun t ht hW => ⟨(nI p5), rfl, (by have e9 := chk_end (by (first | omega | (have zz0 := Hid.u hb_cn; omega))) hx5_1; rw [if_pos (by (first | omega | (have zz0 := Hid.u hb_cn; omega)))] at e9; exact e9), ht⟩) (fun _ h => absurd h List.not_mem_nil) dX11_firstWrong_91
      ·
        have tc_3 : ((nI i5).toInt : Int) < (nI (cn 11)).toInt := Int32.lt_iff_toInt_lt.mp (Int32.not_le.mp c_3)
        refine lv_aload_n hx hb (oc_42 17 (aq_17 shX11_firstWrong_0)) rfl (lvA2 hl) ?_
        refine gf_RX11_65 S hK hP 0 xo_0 (v := .ref (g 11)) rfl (oc_180 18 (aq_18 shX11_firstWrong_0) uw_0_65) ?_
        refine lv_iload hx hb (oc_21 21 (aq_21 shX11_firstWrong_0) ub_4) (lvA0 hl) ?_
        refine va_csq (runV_rx (As := [.int (nI i5)]) (rest := []) S (q_l_get l D cI cB cZ zz qq vv bt (g 11) (ad 2 1) (cn 21) (cn 11) i5 (ad 11 i5) (In 11) (fun i => if i < (cn 11) then some (ad 11 i) else none) (by (first | omega | (have zz0 := Hid.u hb_cn; omega))) (if_pos (by (first | omega | (have zz0 := Hid.u hb_cn; omega)))) (by (first | omega | (have zz0 := Hid.u hb_cn; omega))) (by (first | omega | (have zz0 := Hid.u hb_cn; omega)))) kV_RX11_87 hK hXS hS hP _ (two_is (xl_1 (by (first | omega | (have zz0 := Hid.u hb_cn; omega)))) (xf_14 (k := 0) (by (first | omega | (have zz0 := Hid.u hb_cn; omega))))) (va_recv hK.1 hP (ci := 0) rfl xo_25) ⟨Nat.le_of_ble_eq_true rfl, Nat.le_of_ble_eq_true rfl⟩ ⟨Nat.le_of_ble_eq_true rfl, Nat.le_of_ble_eq_true rfl⟩ rfl hl.1 rfl (Nat.le_of_ble_eq_true rfl) (oc_182 23 (aq_23 shX11_firstWrong_0) uw_0_87)) (fun r_5 h_6 => ?_)
        subst h_6
        have kf_1 : i5 < cn 11 := by (first | omega | (have zz0 := Hid.u hb_cn; omega))
        refine va_castS hx hb hown (S.2.2.2.2 _ (wk2_17 0 rfl rfl)) (xclass hK.1 (ci := 3) rfl) (va_recv hK.1 hP (ci := 3) rfl (xf_1 kf_1)) (oc_192 26 shX11_firstWrong_26 uw_0_93) ?_
        refine lv_astore (lv' := [(5, .ref (ad 11 i5)), (4, .int (nI i5)), (3, .int (nI p5)), (0, .ref (g 0)), (1, .int v0), (2, .int (nI n0))]) hx hb (oc_58 29 (aq_3 shX11_firstWrong_26) ub_5) hl (ltb rfl) rfl (fun ls hl => ?_)
        refine lv_aload hx hb (oc_25 31 (aq_5 shX11_firstWrong_26) ub_5) (lvA0 hl) ?_
        refine gf_RX11_211 S hK hP _ (xf_1 kf_1) (v := .int ((Fn 120) i5)) rfl (oc_180 33 (aq_7 shX11_firstWrong_26) uw_0_211) ?_
        refine lv_iload_n hx hb (oc_27 36 (aq_10 shX11_firstWrong_26)) rfl (lvA4 hl) ?_
        refine lv_icmp_eq (tgt := 43) hx hb (oc_159 37 (aq_11 shX11_firstWrong_26) sgw_0_6) rfl (fun c_7 => ?_) (fun c_7 => ?_)
        ·
          have tc_7 : (((Fn 120) i5).toInt : Int) = v0.toInt := congrArg Int32.toInt c_7
          refine lv_iload_n hx hb (oc_29 43 (aq_17 shX11_firstWrong_26)) rfl (lvA2 hl) ?_
          refine lv_iload_n hx hb (oc_28 44 (aq_18 shX11_firstWrong_26)) rfl (lvA5 hl) ?_
          have : (nI p5).toInt = ((p5 : Nat) : Int) := nI_toInt (by (first | omega | (have zz0 := Hid.u hb_cn; omega)))
          have : (nI n0).toInt = ((n0 : Nat) : Int) := nI_toInt (by (first | omega | (have zz0 := Hid.u hb_cn; omega)))
          refine lv_icmp_lt (tgt := 50) hx hb (oc_161 45 (aq_19 shX11_firstWrong_26) sgw_0_5) rfl (fun c_8 => ?_) (fun c_8 => ?_)
          ·
            have tc_8 : ((nI p5).toInt : Int) < (nI n0).toInt := Int32.lt_iff_toInt_lt.mp c_8
            refine lv_aload_n hx hb (oc_42 50 shX11_firstWrong_50) rfl (lvA3 hl) ?_
            refine lv_aload hx hb (oc_25 51 (aq_1 shX11_firstWrong_50) ub_5) (lvA0 hl) ?_
            refine lv_iload hx hb (oc_21 53 (aq_3 shX11_firstWrong_50) ub_4) (lvA1 hl) ?_
            refine lv_iload_n hx hb (oc_29 55 (aq_5 shX11_firstWrong_50)) rfl (lvA2 hl) ?_
            refine vp_callSi (runV_rxa (As := [.ref (ad 11 i5), .int (nI i5), .int (nI p5)]) (rest := []) S (q_EwrongPart l D cI cB cZ zz qq vv bt g ad cn In Fn i5 p5 hB (by (first | omega | (have zz0 := Hid.u hb_cn; omega))) (by (first | omega | (have zz0 := Hid.u hb_cn; omega)))) kV_RX11_526 hK hXS hS hP 0 xo_0 rfl rfl ⟨Nat.le_of_ble_eq_true rfl, Nat.le_of_ble_eq_true rfl⟩ ⟨Nat.le_of_ble_eq_true rfl, Nat.le_of_ble_eq_true rfl⟩ rfl hl.1 rfl (Nat.le_of_ble_eq_true rfl) (oc_182 56 (aq_6 shX11_firstWrong_50) uw_2_14)) (fun r_9 h_10 => ?_)
            subst h_10
            refine lv_istore (lv' := [(6, .int (wrp ((Fn 121)) ((Fn 122)) ((Fn 128)) ((Fn 40)) i5 p5)), (5, .ref (ad 11 i5)), (4, .int (nI i5)), (3, .int (nI p5)), (0, .ref (g 0)), (1, .int v0), (2, .int (nI n0))]) hx hb (oc_54 59 (aq_9 shX11_firstWrong_50) ub_6) hl (ltb rfl) rfl (fun ls hl => ?_)
            refine lv_iload hx hb (oc_21 61 (aq_11 shX11_firstWrong_50) ub_6) (lvA0 hl) ?_
            refine lv_iconst (v := (-1)) hx hb (oc_2 63 (aq_13 shX11_firstWrong_50)) kic_m1 ?_
            refine lv_icmp_eq (tgt := 72) hx hb (oc_159 64 (aq_14 shX11_firstWrong_50) sgw_0_8) rfl (fun c_11 => ?_) (fun c_11 => ?_)
            ·
              have tc_11 : ((wrp ((Fn 121)) ((Fn 122)) ((Fn 128)) ((Fn 40)) i5 p5).toInt : Int) = (-1) := congrArg Int32.toInt c_11
              refine lv_iinc (v := (nI (p5 + 4))) (lv' := [(3, .int (nI (p5 + 4))), (6, .int (wrp ((Fn 121)) ((Fn 122)) ((Fn 128)) ((Fn 40)) i5 p5)), (5, .ref (ad 11 i5)), (4, .int (nI i5)), (0, .ref (g 0)), (1, .int v0), (2, .int (nI n0))]) hx hb (oc_132 72 (aq_22 shX11_firstWrong_50) ub_3 sgb_4) hl (k := 3) rfl (nI_add _ 4) (ltb rfl) rfl (fun ls hl => ?_)
              refine lv_iinc (v := (nI (i5 + 1))) (lv' := [(4, .int (nI (i5 + 1))), (3, .int (nI (p5 + 4))), (6, .int (wrp ((Fn 121)) ((Fn 122)) ((Fn 128)) ((Fn 40)) i5 p5)), (5, .ref (ad 11 i5)), (0, .ref (g 0)), (1, .int v0), (2, .int (nI n0))]) hx hb dX11_firstWrong_75 hl (k := 3) rfl (nI_1 _) (ltb rfl) rfl (fun ls hl => ?_)
              refine lv_goto (tgt := 5) hx hb dX11_firstWrong_78 rfl ?_
              exact ih5 (i5 + 1) (p5 + 4) (by (first | omega | (have zz0 := Hid.u hb_cn; omega))) ⟨(by (first | omega | (have zz0 := Hid.u hb_cn; omega))), ⟨by (first | omega | (have zz0 := Hid.u hb_cn; omega)), by (first | omega | (have zz0 := Hid.u hb_cn; omega))⟩, (chk_go (by (first | omega | (have zz0 := Hid.u hb_cn; omega))) (by assumption) (by (first | omega | (have zz0 := Hid.u hb_cn; omega))) (by assumption) hx5_1)⟩ ls (lv_sub hl [0, 1, 4, 5, 6] rfl)
            ·
              have tc_11 : ((wrp ((Fn 121)) ((Fn 122)) ((Fn 128)) ((Fn 40)) i5 p5).toInt : Int) ≠ (-1) := fun q => c_11 (Int32.toInt_inj.mp q)
              refine lv_iload_n hx hb (oc_29 67 (aq_17 shX11_firstWrong_50)) rfl (lvA3 hl) ?_
              refine lv_iload hx hb (oc_21 68 (aq_18 shX11_firstWrong_50) ub_6) (lvA0 hl) ?_
              refine lv_iadd hx hb (oc_96 70 (aq_20 shX11_firstWrong_50)) ?_
              exact W.iret (v := ((nI p5) + (wrp ((Fn 121)) ((Fn 122)) ((Fn 128)) ((Fn 40)) i5 p5))) hx hb hr (fun t ht hW => ⟨((nI p5) + (wrp ((Fn 121)) ((Fn 122)) ((Fn 128)) ((Fn 40)) i5 p5)), rfl, (chk_wr (by (first | omega | (have zz0 := Hid.u hb_cn; omega))) (by assumption) (by (first | omega | (have zz0 := Hid.u hb_cn; omega))) (by assumption) hx5_1), ht⟩) (fun _ h => absurd h List.not_mem_nil) (oc_172 71 (aq_21 shX11_firstWrong_50))
          ·
            have tc_8 : ((nI n0).toInt : Int) ≤ (nI p5).toInt := Int32.le_iff_toInt_le.mp (Int32.not_lt.mp c_8)
            refine lv_iload_n hx hb (oc_28 48 (aq_22 shX11_firstWrong_26)) rfl (lvA5 hl) ?_
            exact W.iret (v := (nI n0)) hx hb hr (fun t ht hW => ⟨(nI n0), rfl, (chk_full (by (first | omega | (have zz0 := Hid.u hb_cn; omega))) (by assumption) (by (first | omega | (have zz0 := Hid.u hb_cn; omega))) hx5_1), ht⟩) (fun _ h => absurd h List.not_mem_nil) (oc_172 49 (aq_23 shX11_firstWrong_26))
        ·
          have tc_7 : (((Fn 120) i5).toInt : Int) ≠ v0.toInt := fun q => c_7 (Int32.toInt_inj.mp q)
          refine lv_goto (tgt := 75) hx hb (oc_167 40 (aq_14 shX11_firstWrong_26) sgw_0_35) rfl ?_
          refine lv_iinc (v := (nI (i5 + 1))) (lv' := [(4, .int (nI (i5 + 1))), (5, .ref (ad 11 i5)), (3, .int (nI p5)), (0, .ref (g 0)), (1, .int v0), (2, .int (nI n0))]) hx hb dX11_firstWrong_75 hl (k := 1) rfl (nI_1 _) (ltb rfl) rfl (fun ls hl => ?_)
          refine lv_goto (tgt := 5) hx hb dX11_firstWrong_78 rfl ?_
          exact ih5 (i5 + 1) p5 (by (first | omega | (have zz0 := Hid.u hb_cn; omega))) ⟨(by (first | omega | (have zz0 := Hid.u hb_cn; omega))), ⟨by (first | omega | (have zz0 := Hid.u hb_cn; omega)), by (first | omega | (have zz0 := Hid.u hb_cn; omega))⟩, (chk_no (by (first | omega | (have zz0 := Hid.u hb_cn; omega))) (by assumption) hx5_1)⟩ ls (lv_sub hl [0, 2, 3, 4, 5] rfl)
  exact lp_5 _ 0 0 (Nat.lt_succ_self _) ⟨(by (first | omega | (have zz0 := Hid.u hb_cn; omega))), ⟨by (first | omega | (have zz0 := Hid.u hb_cn; omega)), by (first | omega | (have zz0 := Hid.u hb_cn; omega))⟩, rfl⟩ ls (lv_sub hl [0, 1, 2, 3, 4] rfl)
set_option maxRecDepth 100000 in
set_option maxHeartbeats 4000000 in
theorem q_Ycheck (l : Launch) (D : va_G) (cI cB cZ : ClassId) (zz qq vv : Nat) (bt : Nat → Int32) (g : Nat → Nat) (ad : Nat → Nat → Nat) (cn : Nat → Nat) (In : Nat → Int32) (Fn : Nat → Nat → Int32) (v0 v1 : Int32) (sz : Nat) (hB : CBX cn) : Met l yX11_check (CWS yX11_check cX11_check 4 (some .int)) (RM 5 0 0) (PBx [.ref (g 0), .int v0, .int v1] D cI cB cZ zz qq vv bt (wX cI (D.1 99) zz g ad cn In Fn) sz) (va_Qi (fun (r : Int32) (u : (Nat → Nat) × (Nat → Int32) × (Nat → Nat → Int32)) => (fun r c2 I2 F2 => Fr [3] [] [] cn In Fn c2 I2 F2 ∧ CBX c2 ∧ (((0 ≤ v0.toInt ∧ v0.toInt < (cn 10 : Int) ∧ 0 ≤ v1.toInt ∧ 16 * v1.toInt ≤ (cn 3 : Int)) ∧ c2 3 = 0 ∧ r = chk (Fn 120) (Fn 121) (Fn 122) (Fn 128) (Fn 40) v0 (4 * v1.toInt.toNat) (cn 11) 0 0) ∨ (¬ (0 ≤ v0.toInt ∧ v0.toInt < (cn 10 : Int) ∧ 0 ≤ v1.toInt ∧ 16 * v1.toInt ≤ (cn 3 : Int)) ∧ c2 3 = cn 3 ∧ r = -2))) r u.1 u.2.1 u.2.2) (fun (u : (Nat → Nat) × (Nat → Int32) × (Nat → Nat → Int32)) (t : State) => va_P D vwCl (wX cI (D.1 99) zz g ad u.1 u.2.1 u.2.2) t.heap ∧ va_D (va_A (wX cI (D.1 99) zz g ad cn In Fn) sz) (wX cI (D.1 99) zz g ad u.1 u.2.1 u.2.2)) (va_A (wX cI (D.1 99) zz g ad cn In Fn) sz)) 0 0 (va_A (wX cI (D.1 99) zz g ad cn In Fn) sz) := by
  refine en_x (fun A => (va_Qi (fun (r : Int32) (u : (Nat → Nat) × (Nat → Int32) × (Nat → Nat → Int32)) => (fun (r : Int32) (c2 : Nat → Nat) (I2 : Nat → Int32) (F2 : Nat → Nat → Int32) => Fr [3] [] [] cn In Fn c2 I2 F2 ∧ CBX c2 ∧ (((0 ≤ v0.toInt ∧ v0.toInt < (cn 10 : Int) ∧ 0 ≤ v1.toInt ∧ 16 * v1.toInt ≤ (cn 3 : Int)) ∧ c2 3 = 0 ∧ r = chk (Fn 120) (Fn 121) (Fn 122) (Fn 128) (Fn 40) v0 (4 * v1.toInt.toNat) (cn 11) 0 0) ∨ (¬ (0 ≤ v0.toInt ∧ v0.toInt < (cn 10 : Int) ∧ 0 ≤ v1.toInt ∧ 16 * v1.toInt ≤ (cn 3 : Int)) ∧ c2 3 = cn 3 ∧ r = -2))) r u.1 u.2.1 u.2.2) (fun (u : (Nat → Nat) × (Nat → Int32) × (Nat → Nat → Int32)) (t : State) => va_P D vwCl (wX cI (D.1 99) zz g ad u.1 u.2.1 u.2.2) t.heap ∧ va_D A (wX cI (D.1 99) zz g ad u.1 u.2.1 u.2.2)) A)) rfl rfl pn_RX11 (Nat.le_of_ble_eq_true rfl) (fun p e s m below meth c A hx hb hml hown S hr hlocks hnm hA hP hK hD hXS hS ls hl => ?_)
  have hl : lv_has ls 4 [(0, .ref (g 0)), (1, .int v0), (2, .int v1)] := hl
  have hb_cn : Hid (CBX cn) := hB
  replace hB : CBXh cn := hB
  refine lv_aload_n hx hb (oc_42 0 shX11_check_0) rfl (lvA0 hl) ?_
  refine lv_iload_n hx hb (oc_27 1 (aq_1 shX11_check_0)) rfl (lvA1 hl) ?_
  refine va_csq (runV_rxa (As := [.int v0]) (rest := []) S (q_XkitchenAt l D cI cB cZ zz qq vv bt g ad cn In Fn v0 hB) kV_RX11_114 hK hXS hS hP 0 xo_0 rfl rfl ⟨Nat.le_of_ble_eq_true rfl, Nat.le_of_ble_eq_true rfl⟩ ⟨Nat.le_of_ble_eq_true rfl, Nat.le_of_ble_eq_true rfl⟩ rfl hl.1 rfl (Nat.le_of_ble_eq_true rfl) (oc_182 2 (aq_2 shX11_check_0) uw_0_114)) (fun r_1 h_2 => ?_)
  rcases h_2 with ⟨mr_1, er_1, hr_1, rfl⟩ | ⟨hr_1, rfl⟩
  ·
    refine lv_ifnull hx hb dX11_check_5 ?_
    refine lv_iload_n hx hb (oc_28 8 (aq_8 shX11_check_0)) rfl (lvA2 hl) ?_
    refine lv_if_lt (tgt := 26) hx hb (oc_155 9 (aq_9 shX11_check_0) sgw_0_17) rfl (fun c_3 => ?_) (fun c_3 => ?_)
    ·
      have tc_3 : (v1.toInt : Int) < 0 := Int32.lt_iff_toInt_lt.mp c_3
      refine lv_bipush (v := (-2)) hx hb dX11_check_26 kbc_m2 ?_
      exact W.iret (v := (-2)) hx hb hr (fun t ht hW => ⟨⟨(-2), (cn, In, Fn), rfl, ⟨(Fr.mo Fr.rf (sbl rfl) (sbl rfl) (sbl rfl)), hB, (by show ((0 ≤ v0.toInt ∧ v0.toInt < (cn 10 : Int) ∧ 0 ≤ v1.toInt ∧ 16 * v1.toInt ≤ (cn 3 : Int)) ∧ cn 3 = 0 ∧ (-2) = chk (Fn 120) (Fn 121) (Fn 122) (Fn 128) (Fn 40) v0 (4 * v1.toInt.toNat) (cn 11) 0 0) ∨ (¬ (0 ≤ v0.toInt ∧ v0.toInt < (cn 10 : Int) ∧ 0 ≤ v1.toInt ∧ 16 * v1.toInt ≤ (cn 3 : Int)) ∧ cn 3 = cn 3 ∧ (-2) = -2); exact Or.inr ⟨by (first | omega | (have zz0 := Hid.u hb_cn; omega)), rfl, rfl⟩)⟩, by rw [ht]; exact hP, hD⟩, hS.F ht⟩) hS.2.2 dX11_check_28
    ·
      have tc_3 : (0 : Int) ≤ v1.toInt := Int32.le_iff_toInt_le.mp (Int32.not_lt.mp c_3)
      refine lv_iload_n hx hb (oc_28 12 (aq_12 shX11_check_0)) rfl (lvA2 hl) ?_
      refine lv_aload_n hx hb (oc_42 13 (aq_13 shX11_check_0)) rfl (lvA0 hl) ?_
      refine gf_RX11_21 S hK hP 0 xo_0 (v := .ref (g 5)) rfl (oc_180 14 (aq_14 shX11_check_0) uw_0_21) ?_
      refine vp_callSi (runV_rxa (As := []) (rest := [.int v1]) S (q_Xlength l D cI cB cZ zz qq vv bt g ad cn In Fn  hB) kV_RX11_152 hK hXS hS hP 1 xo_1 rfl rfl ⟨Nat.le_of_ble_eq_true rfl, Nat.le_of_ble_eq_true rfl⟩ ⟨Nat.le_of_ble_eq_true rfl, Nat.le_of_ble_eq_true rfl⟩ rfl hl.1 rfl (Nat.le_of_ble_eq_true rfl) (oc_182 17 (aq_17 shX11_check_0) uw_0_152)) (fun r_4 h_5 => ?_)
      subst h_5
      refine lv_bipush (v := 16) hx hb (oc_16 20 (aq_20 shX11_check_0) sgb_16) kbc_16 ?_
      refine lv_idiv hx hb (oc_108 22 (aq_22 shX11_check_0)) (by decide) ?_
      refine lv_topi (fun y_6 ey_6 => ?_)
      obtain rfl : y_6 = (nI (((cn 3)) / 16)) := ey_6.trans (nI_div (by (first | omega | (have zz0 := Hid.u hb_cn; omega))) (by decide))
      have : (nI (((cn 3)) / 16)).toInt = (((((cn 3)) / 16) : Nat) : Int) := nI_toInt (by (first | omega | (have zz0 := Hid.u hb_cn; omega)))
      refine lv_icmp_le (tgt := 29) hx hb (oc_164 23 (aq_23 shX11_check_0) sgw_0_6) rfl (fun c_7 => ?_) (fun c_7 => ?_)
      ·
        have tc_7 : (v1.toInt : Int) ≤ (nI (((cn 3)) / 16)).toInt := Int32.le_iff_toInt_le.mp c_7
        obtain ⟨d1, hd1, rfl⟩ := nI_of (x := v1) (fun q => by have := Int32.lt_iff_toInt_lt.mp q; have e : (0 : Int32).toInt = 0 := rfl; (first | omega | (have zz0 := Hid.u hb_cn; omega)))
        have td1 : (nI d1).toInt = (d1 : Int) := nI_toInt hd1
        have zd1 : (nI d1).toInt.toNat = d1 := by (first | omega | (have zz0 := Hid.u hb_cn; omega))
        refine lv_aload_n hx hb (oc_42 29 (aq_3 shX11_check_26)) rfl (lvA0 hl) ?_
        refine lv_iload_n hx hb (oc_27 30 (aq_4 shX11_check_26)) rfl (lvA1 hl) ?_
        refine lv_iconst (v := 4) hx hb (oc_7 31 (aq_5 shX11_check_26)) kic_4 ?_
        refine lv_iload_n hx hb (oc_28 32 (aq_6 shX11_check_26)) rfl (lvA2 hl) ?_
        refine lv_imul hx hb (oc_104 33 (aq_7 shX11_check_26)) ?_
        refine lv_topi (fun y_8 ey_8 => ?_)
        obtain rfl : y_8 = (nI (4 * d1)) := ey_8.trans (pk_mul 4 d1)
        refine vp_callSi (runV_rxa (As := [.int v0, .int (nI (4 * d1))]) (rest := []) S (q_EfirstWrong l D cI cB cZ zz qq vv bt g ad cn In Fn v0 (4 * d1) hB ⟨by (first | omega | (have zz0 := Hid.u hb_cn; omega)), by (first | omega | (have zz0 := Hid.u hb_cn; omega))⟩) kV_RX11_523 hK hXS hS hP 0 xo_0 rfl rfl ⟨Nat.le_of_ble_eq_true rfl, Nat.le_of_ble_eq_true rfl⟩ ⟨Nat.le_of_ble_eq_true rfl, Nat.le_of_ble_eq_true rfl⟩ rfl hl.1 rfl (Nat.le_of_ble_eq_true rfl) (oc_182 34 (aq_8 shX11_check_26) uw_2_11)) (fun r_9 h_10 => ?_)
        refine lv_istore_n (lv' := [(3, .int r_9), (0, .ref (g 0)), (1, .int v0), (2, .int (nI d1))]) hx hb (oc_62 37 (aq_11 shX11_check_26)) rfl hl (ltb rfl) rfl (fun ls hl => ?_)
        refine lv_aload_n hx hb (oc_42 38 (aq_12 shX11_check_26)) rfl (lvA1 hl) ?_
        refine gf_RX11_21 S hK hP 0 xo_0 (v := .ref (g 5)) rfl (oc_180 39 (aq_13 shX11_check_26) uw_0_21) ?_
        have hFc := free_all hD hS hA
        refine va_callv (runV_xa (As := []) (rest := []) S (q_Xclear l D cI cB cZ zz qq vv bt g ad cn In Fn  s.heap.size hB) kV_RX11_162 hK hXS hS hFc hP hD 1 xo_1 rfl rfl ⟨Nat.le_of_ble_eq_true rfl, Nat.le_of_ble_eq_true rfl⟩ ⟨Nat.le_of_ble_eq_true rfl, Nat.le_of_ble_eq_true rfl⟩ rfl hl.1 rfl (Nat.le_of_ble_eq_true rfl) (oc_182 42 (aq_16 shX11_check_26) uw_0_162)) hS (fun q _ h => hFc q h) hFc (fun u t H1 locs ht hvm wh_12 hB1 hz1 hk1 hS => ?_)
        obtain ⟨cn12, In12, Fn12⟩ := u
        obtain ⟨hP1, hD1⟩ := hB1
        rw [ht] at hP1
        have hP : va_P D vwCl (wX cI (D.1 99) zz g ad cn12 In12 Fn12) H1 := hP1
        have hD : va_D A (wX cI (D.1 99) zz g ad cn12 In12 Fn12) := hD1.weaken (fun _ _ _ h => hFc _ h)
        generalize H1 = H at hP hS ⊢
        have vh_12 : (fun c2 I2 F2 => Fr [3] [] [] cn In Fn c2 I2 F2 ∧ CBX c2 ∧ (c2 3 = 0)) cn12 In12 Fn12 := wh_12
        obtain ⟨hfc12, hIn12, h_12⟩ := vh_12
        obtain rfl : In = In12 := (funext (fun k => hfc12.2.1 k List.not_mem_nil)).symm
        obtain rfl : Fn = Fn12 := (funext (fun k => hfc12.2.2 k List.not_mem_nil)).symm
        have hf12 : Fr [3] [] [] cn In Fn cn12 In Fn := Fr.mo (Fr.tr (Fr.rf (cn := cn) (In := In) (Fn := Fn)) hfc12) (sbl rfl) (sbl rfl) (sbl rfl)
        have hb_cn12 : Hid (CBX cn12) := hIn12
        replace hIn12 : CBXh cn12 := hIn12
        have : cn12 6 = (cn 6) := hfc12.1 6 (nml rfl)
        have : cn12 31 = (cn 31) := hfc12.1 31 (nml rfl)
        have : cn12 32 = (cn 32) := hfc12.1 32 (nml rfl)
        have hq_cn12 : Hid (cn12 0 = (cn 0) ∧ cn12 1 = (cn 1) ∧ cn12 2 = (cn 2) ∧ cn12 4 = (cn 4) ∧ cn12 5 = (cn 5) ∧ cn12 10 = (cn 10) ∧ cn12 11 = (cn 11) ∧ cn12 12 = (cn 12) ∧ cn12 13 = (cn 13) ∧ cn12 14 = (cn 14) ∧ cn12 15 = (cn 15) ∧ cn12 20 = (cn 20) ∧ cn12 21 = (cn 21) ∧ cn12 22 = (cn 22) ∧ cn12 23 = (cn 23) ∧ cn12 24 = (cn 24) ∧ cn12 25 = (cn 25)) := Hid.i (p := cn12 0 = (cn 0) ∧ cn12 1 = (cn 1) ∧ cn12 2 = (cn 2) ∧ cn12 4 = (cn 4) ∧ cn12 5 = (cn 5) ∧ cn12 10 = (cn 10) ∧ cn12 11 = (cn 11) ∧ cn12 12 = (cn 12) ∧ cn12 13 = (cn 13) ∧ cn12 14 = (cn 14) ∧ cn12 15 = (cn 15) ∧ cn12 20 = (cn 20) ∧ cn12 21 = (cn 21) ∧ cn12 22 = (cn 22) ∧ cn12 23 = (cn 23) ∧ cn12 24 = (cn 24) ∧ cn12 25 = (cn 25)) ⟨hfc12.1 0 (nml rfl), hfc12.1 1 (nml rfl), hfc12.1 2 (nml rfl), hfc12.1 4 (nml rfl), hfc12.1 5 (nml rfl), hfc12.1 10 (nml rfl), hfc12.1 11 (nml rfl), hfc12.1 12 (nml rfl), hfc12.1 13 (nml rfl), hfc12.1 14 (nml rfl), hfc12.1 15 (nml rfl), hfc12.1 20 (nml rfl), hfc12.1 21 (nml rfl), hfc12.1 22 (nml rfl), hfc12.1 23 (nml rfl), hfc12.1 24 (nml rfl), hfc12.1 25 (nml rfl)⟩
        refine lv_iload_n hx hb (oc_29 45 (aq_19 shX11_check_26)) rfl (lvA0 hl) ?_
        exact W.iret (v := r_9) hx hb hr (fun t ht hW => ⟨⟨r_9, (cn12, In, Fn), rfl, ⟨(Fr.mo hf12 (sbl rfl) (sbl rfl) (sbl rfl)), hIn12, (by show ((0 ≤ v0.toInt ∧ v0.toInt < (cn 10 : Int) ∧ 0 ≤ (nI d1).toInt ∧ 16 * (nI d1).toInt ≤ (cn 3 : Int)) ∧ cn12 3 = 0 ∧ r_9 = chk (Fn 120) (Fn 121) (Fn 122) (Fn 128) (Fn 40) v0 (4 * (nI d1).toInt.toNat) (cn 11) 0 0) ∨ (¬ (0 ≤ v0.toInt ∧ v0.toInt < (cn 10 : Int) ∧ 0 ≤ (nI d1).toInt ∧ 16 * (nI d1).toInt ≤ (cn 3 : Int)) ∧ cn12 3 = cn 3 ∧ r_9 = -2); exact Or.inl ⟨by (first | omega | (have zz0 := Hid.u hb_cn; have zz1 := Hid.u hb_cn12; have zz2 := Hid.u hq_cn12; omega)), by (first | omega | (have zz0 := Hid.u hb_cn; have zz1 := Hid.u hb_cn12; have zz2 := Hid.u hq_cn12; omega)), by rw [zd1]; exact h_10⟩)⟩, by rw [ht]; exact hP, hD⟩, hS.F ht⟩) hS.2.2 (oc_172 46 (aq_20 shX11_check_26))
      ·
        have tc_7 : ((nI (((cn 3)) / 16)).toInt : Int) < v1.toInt := Int32.lt_iff_toInt_lt.mp (Int32.not_le.mp c_7)
        refine lv_bipush (v := (-2)) hx hb dX11_check_26 kbc_m2 ?_
        exact W.iret (v := (-2)) hx hb hr (fun t ht hW => ⟨⟨(-2), (cn, In, Fn), rfl, ⟨(Fr.mo Fr.rf (sbl rfl) (sbl rfl) (sbl rfl)), hB, (by show ((0 ≤ v0.toInt ∧ v0.toInt < (cn 10 : Int) ∧ 0 ≤ v1.toInt ∧ 16 * v1.toInt ≤ (cn 3 : Int)) ∧ cn 3 = 0 ∧ (-2) = chk (Fn 120) (Fn 121) (Fn 122) (Fn 128) (Fn 40) v0 (4 * v1.toInt.toNat) (cn 11) 0 0) ∨ (¬ (0 ≤ v0.toInt ∧ v0.toInt < (cn 10 : Int) ∧ 0 ≤ v1.toInt ∧ 16 * v1.toInt ≤ (cn 3 : Int)) ∧ cn 3 = cn 3 ∧ (-2) = -2); exact Or.inr ⟨by (first | omega | (have zz0 := Hid.u hb_cn; omega)), rfl, rfl⟩)⟩, by rw [ht]; exact hP, hD⟩, hS.F ht⟩) hS.2.2 dX11_check_28
  ·
    refine lv_ifnullN (tgt := 26) hx hb dX11_check_5 rfl ?_
    refine lv_bipush (v := (-2)) hx hb dX11_check_26 kbc_m2 ?_
    exact W.iret (v := (-2)) hx hb hr (fun t ht hW => ⟨⟨(-2), (cn, In, Fn), rfl, ⟨(Fr.mo Fr.rf (sbl rfl) (sbl rfl) (sbl rfl)), hB, (by show ((0 ≤ v0.toInt ∧ v0.toInt < (cn 10 : Int) ∧ 0 ≤ v1.toInt ∧ 16 * v1.toInt ≤ (cn 3 : Int)) ∧ cn 3 = 0 ∧ (-2) = chk (Fn 120) (Fn 121) (Fn 122) (Fn 128) (Fn 40) v0 (4 * v1.toInt.toNat) (cn 11) 0 0) ∨ (¬ (0 ≤ v0.toInt ∧ v0.toInt < (cn 10 : Int) ∧ 0 ≤ v1.toInt ∧ 16 * v1.toInt ≤ (cn 3 : Int)) ∧ cn 3 = cn 3 ∧ (-2) = -2); exact Or.inr ⟨by (first | omega | (have zz0 := Hid.u hb_cn; omega)), rfl, rfl⟩)⟩, by rw [ht]; exact hP, hD⟩, hS.F ht⟩) hS.2.2 dX11_check_28
set_option maxRecDepth 100000 in
set_option maxHeartbeats 4000000 in
theorem q_check9y (l : Launch) (D : va_G) (cI cB cZ : ClassId) (g : Nat → Nat) (cn : Nat → Nat) (In : Nat → Int32) (Fn : Nat → Nat → Int32) (v0 v1 : Int32) (sz : Nat) (hI : IM cn Fn) (h18 : cn 18 ≤ 200) : Met l yX12_check (CWS yX12_check cX12_check 5 (some .int)) (RM 1 0 0) (PBw [.ref (g 100), .int v0, .int v1] D cI cB cZ (wM cI cB cZ g cn In Fn) sz) (va_Qi (fun (r : Int32) (u : (Nat → Nat) × (Nat → Int32) × (Nat → Nat → Int32)) => (fun r c2 I2 F2 => Fr [18] [] [] cn In Fn c2 I2 F2 ∧ IM c2 F2 ∧ (((0 ≤ v0.toInt ∧ v0.toInt < (cn 1 : Int) ∧ 0 ≤ v1.toInt ∧ 16 * v1.toInt ≤ (cn 18 : Int)) ∧ c2 18 = 0 ∧ r = chk (Fn 8) (Fn 9) (Fn 10) (Fn 14) (fun i9 => Fn 17 i9 &&& 255) v0 (4 * v1.toInt.toNat) (cn 2) 0 0) ∨ (¬ (0 ≤ v0.toInt ∧ v0.toInt < (cn 1 : Int) ∧ 0 ≤ v1.toInt ∧ 16 * v1.toInt ≤ (cn 18 : Int)) ∧ c2 18 = cn 18 ∧ r = -2))) r u.1 u.2.1 u.2.2) (fun (u : (Nat → Nat) × (Nat → Int32) × (Nat → Nat → Int32)) (t : State) => va_P D vwCl (wM cI cB cZ g u.1 u.2.1 u.2.2) t.heap ∧ va_D (va_A (wM cI cB cZ g cn In Fn) sz) (wM cI cB cZ g u.1 u.2.1 u.2.2)) (va_A (wM cI cB cZ g cn In Fn) sz)) 0 0 (va_A (wM cI cB cZ g cn In Fn) sz) := by
  refine en_w (fun A => (va_Qi (fun (r : Int32) (u : (Nat → Nat) × (Nat → Int32) × (Nat → Nat → Int32)) => (fun (r : Int32) (c2 : Nat → Nat) (I2 : Nat → Int32) (F2 : Nat → Nat → Int32) => Fr [18] [] [] cn In Fn c2 I2 F2 ∧ IM c2 F2 ∧ (((0 ≤ v0.toInt ∧ v0.toInt < (cn 1 : Int) ∧ 0 ≤ v1.toInt ∧ 16 * v1.toInt ≤ (cn 18 : Int)) ∧ c2 18 = 0 ∧ r = chk (Fn 8) (Fn 9) (Fn 10) (Fn 14) (fun i9 => Fn 17 i9 &&& 255) v0 (4 * v1.toInt.toNat) (cn 2) 0 0) ∨ (¬ (0 ≤ v0.toInt ∧ v0.toInt < (cn 1 : Int) ∧ 0 ≤ v1.toInt ∧ 16 * v1.toInt ≤ (cn 18 : Int)) ∧ c2 18 = cn 18 ∧ r = -2))) r u.1 u.2.1 u.2.2) (fun (u : (Nat → Nat) × (Nat → Int32) × (Nat → Nat → Int32)) (t : State) => va_P D vwCl (wM cI cB cZ g u.1 u.2.1 u.2.2) t.heap ∧ va_D A (wM cI cB cZ g u.1 u.2.1 u.2.2)) A)) rfl rfl pn_RX12 (Nat.le_of_ble_eq_true rfl) (fun p e s m below meth c A hx hb hml hown S hr hlocks hnm hA hP hK hD hS ls hl => ?_)
  have hl : lv_has ls 5 [(0, .ref (g 100)), (1, .int v0), (2, .int v1)] := hl
  have hi_cn : Hid (CB cn) := hI.b
  refine lv_aload_n hx hb dX12_check_0 rfl (lvA0 hl) ?_
  refine lv_iload_n hx hb dX12_check_1 rfl (lvA1 hl) ?_
  refine vp_callSi (runV_ra (As := [.int v0]) (rest := []) S (q_isKitchen l D cI cB cZ g cn In Fn v0 hI) kV_RX12_218 hK hP 0 rfl rfl rfl ⟨Nat.le_of_ble_eq_true rfl, Nat.le_of_ble_eq_true rfl⟩ ⟨Nat.le_of_ble_eq_true rfl, Nat.le_of_ble_eq_true rfl⟩ rfl hl.1 rfl (Nat.le_of_ble_eq_true rfl) dX12_check_2) (fun r_1 h_2 => ?_)
  rcases h_2 with ⟨rfl, h_2⟩ | ⟨rfl, h_2⟩
  ·
    have h_2 : 0 ≤ v0.toInt ∧ v0.toInt < ((cn 1) : Int) := h_2
    refine lv_if_eq (tgt := 23) hx hb dX12_check_5 rfl (fun h => absurd h cq_eq_1_0) (fun _ => ?_)
    refine lv_iload_n hx hb dX12_check_8 rfl (lvA2 hl) ?_
    refine lv_if_lt (tgt := 23) hx hb dX12_check_9 rfl (fun c_3 => ?_) (fun c_3 => ?_)
    ·
      have tc_3 : (v1.toInt : Int) < 0 := Int32.lt_iff_toInt_lt.mp c_3
      refine lv_bipush (v := (-2)) hx hb dX12_check_23 kbc_m2 ?_
      exact W.iret (v := (-2)) hx hb hr (fun t ht hW => ⟨⟨(-2), (cn, In, Fn), rfl, ⟨(Fr.mo Fr.rf (sbl rfl) (sbl rfl) (sbl rfl)), hI, (by show ((0 ≤ v0.toInt ∧ v0.toInt < (cn 1 : Int) ∧ 0 ≤ v1.toInt ∧ 16 * v1.toInt ≤ (cn 18 : Int)) ∧ cn 18 = 0 ∧ (-2) = chk (Fn 8) (Fn 9) (Fn 10) (Fn 14) (fun i9 => Fn 17 i9 &&& 255) v0 (4 * v1.toInt.toNat) (cn 2) 0 0) ∨ (¬ (0 ≤ v0.toInt ∧ v0.toInt < (cn 1 : Int) ∧ 0 ≤ v1.toInt ∧ 16 * v1.toInt ≤ (cn 18 : Int)) ∧ cn 18 = cn 18 ∧ (-2) = -2); exact Or.inr ⟨by (first | omega | (have zz0 := Hid.u hi_cn; omega)), rfl, rfl⟩)⟩, by rw [ht]; exact hP, hD⟩, hS.F ht⟩) hS.2.2 dX12_check_25
    ·
      have tc_3 : (0 : Int) ≤ v1.toInt := Int32.le_iff_toInt_le.mp (Int32.not_lt.mp c_3)
      refine lv_iload_n hx hb dX12_check_12 rfl (lvA2 hl) ?_
      refine lv_aload_n hx hb dX12_check_13 rfl (lvA0 hl) ?_
      refine gM_226 S hK hP (v := .int (nI (cn 18))) rfl dX12_check_14 ?_
      refine lv_bipush (v := 16) hx hb dX12_check_17 kbc_16 ?_
      refine lv_idiv hx hb dX12_check_19 (by decide) ?_
      refine lv_topi (fun y_4 ey_4 => ?_)
      obtain rfl : y_4 = (nI ((cn 18) / 16)) := ey_4.trans (nI_div (by (first | omega | (have zz0 := Hid.u hi_cn; omega))) (by decide))
      have : (nI ((cn 18) / 16)).toInt = ((((cn 18) / 16) : Nat) : Int) := nI_toInt (by (first | omega | (have zz0 := Hid.u hi_cn; omega)))
      refine lv_icmp_le (tgt := 26) hx hb dX12_check_20 rfl (fun c_5 => ?_) (fun c_5 => ?_)
      ·
        have tc_5 : (v1.toInt : Int) ≤ (nI ((cn 18) / 16)).toInt := Int32.le_iff_toInt_le.mp c_5
        obtain ⟨d1, hd1, rfl⟩ := nI_of (x := v1) (fun q => by have := Int32.lt_iff_toInt_lt.mp q; have e : (0 : Int32).toInt = 0 := rfl; (first | omega | (have zz0 := Hid.u hi_cn; omega)))
        have td1 : (nI d1).toInt = (d1 : Int) := nI_toInt hd1
        have zd1 : (nI d1).toInt.toNat = d1 := by (first | omega | (have zz0 := Hid.u hi_cn; omega))
        refine lv_aload_n hx hb dX12_check_26 rfl (lvA0 hl) ?_
        refine lv_iconst (v := 0) hx hb dX12_check_27 kic_0 ?_
        refine pM_226 S hK hP hD hS (a := 0) (cn2 := (va_up cn 18 0)) rfl rfl dX12_check_28 (fun H locs hP hD hS => ?_)
        refine lv_iconst (v := 0) hx hb dX12_check_31 kic_0 ?_
        refine lv_istore_n (lv' := [(3, .int 0), (0, .ref (g 100)), (1, .int v0), (2, .int (nI d1))]) hx hb dX12_check_32 rfl hl (ltb rfl) rfl (fun ls hl => ?_)
        refine lv_iconst (v := 0) hx hb dX12_check_33 kic_0 ?_
        refine lv_istore (lv' := [(4, .int 0), (3, .int 0), (0, .ref (g 100)), (1, .int v0), (2, .int (nI d1))]) hx hb dX12_check_34 hl (ltb rfl) rfl (fun ls hl => ?_)
        have lp_36 : ∀ (n : Nat) (i36 : Nat) (n36 : Nat) , cn 2 - i36 < n → (i36 ≤ cn 2 ∧ (n36 % 4 = 0 ∧ n36 ≤ 4 * d1) ∧ (chk (Fn 8) (Fn 9) (Fn 10) (Fn 14) (fun i9 => Fn 17 i9 &&& 255) v0 (4 * d1) (cn 2 - i36) i36 n36 = chk (Fn 8) (Fn 9) (Fn 10) (Fn 14) (fun i9 => Fn 17 i9 &&& 255) v0 (4 * d1) (cn 2) 0 0)) → ∀ ls : Array Slot, lv_has ls 5 [(4, .int (nI i36)), (3, .int (nI n36)), (0, .ref (g 100)), (1, .int v0), (2, .int (nI d1))] → W p l e (RM 1 0 0) s m ([.ref (g 100), .int v0, .int (nI d1)]).toArray below meth c H locs 0 0 (MQ below (va_Qi (fun (r : Int32) (u : (Nat → Nat) × (Nat → Int32) × (Nat → Nat → Int32)) => (fun r c2 I2 F2 => Fr [18] [] [] cn In Fn c2 I2 F2 ∧ IM c2 F2 ∧ (((0 ≤ v0.toInt ∧ v0.toInt < (cn 1 : Int) ∧ 0 ≤ (nI d1).toInt ∧ 16 * (nI d1).toInt ≤ (cn 18 : Int)) ∧ c2 18 = 0 ∧ r = chk (Fn 8) (Fn 9) (Fn 10) (Fn 14) (fun i9 => Fn 17 i9 &&& 255) v0 (4 * (nI d1).toInt.toNat) (cn 2) 0 0) ∨ (¬ (0 ≤ v0.toInt ∧ v0.toInt < (cn 1 : Int) ∧ 0 ≤ (nI d1).toInt ∧ 16 * (nI d1).toInt ≤ (cn 18 : Int)) ∧ c2 18 = cn 18 ∧ r = -2))) r u.1 u.2.1 u.2.2) (fun (u : (Nat → Nat) × (Nat → Int32) × (Nat → Nat → Int32)) (t : State) => va_P D vwCl (wM cI cB cZ g u.1 u.2.1 u.2.2) t.heap ∧ va_D A (wM cI cB cZ g u.1 u.2.1 u.2.2)) A) ([.ref (g 100), .int v0, .int (nI d1)]).toArray s 0 0 A) (F0 m 36 ls []) := by
          intro n36
          induction n36 with
          | zero => intros; (first | omega | (have zz0 := Hid.u hi_cn; omega))
          | succ n36 ih36 =>
            intro i36 n36 hmu36 hinv36 ls hl
            obtain ⟨hr36, hx36_0, hx36_1⟩ := hinv36
            have ti36 : (nI i36).toInt = (i36 : Int) := nI_toInt (by (first | omega | (have zz0 := Hid.u hi_cn; omega)))
            refine lv_iload hx hb dX12_check_36 (lvA0 hl) ?_
            refine lv_aload_n hx hb dX12_check_38 rfl (lvA2 hl) ?_
            refine gM_208 S hK hP (v := .int (nI (cn 2))) rfl dX12_check_39 ?_
            have : (nI (cn 2)).toInt = (((cn 2) : Nat) : Int) := nI_toInt (by (first | omega | (have zz0 := Hid.u hi_cn; omega)))
            refine lv_icmp_ge (tgt := 151) hx hb dX12_check_42 rfl (fun c_6 => ?_) (fun c_6 => ?_)
            ·
              have tc_6 : ((nI (cn 2)).toInt : Int) ≤ (nI i36).toInt := Int32.le_iff_toInt_le.mp c_6
              refine lv_iload_n hx hb dX12_check_151 rfl (lvA1 hl) ?_
              refine lv_iconst (v := 4) hx hb dX12_check_152 kic_4 ?_
              refine lv_iload_n hx hb dX12_check_153 rfl (lvA4 hl) ?_
              refine lv_imul hx hb dX12_check_154 ?_
              refine lv_topi (fun y_7 ey_7 => ?_)
              obtain rfl : y_7 = (nI (4 * d1)) := ey_7.trans (pk_mul 4 d1)
              have : (nI n36).toInt = ((n36 : Nat) : Int) := nI_toInt (by (first | omega | (have zz0 := Hid.u hi_cn; omega)))
              have : (nI (4 * d1)).toInt = (((4 * d1) : Nat) : Int) := nI_toInt (by (first | omega | (have zz0 := Hid.u hi_cn; omega)))
              refine lv_icmp_ge (tgt := 162) hx hb dX12_check_155 rfl (fun c_8 => ?_) (fun c_8 => ?_)
              ·
                have tc_8 : ((nI (4 * d1)).toInt : Int) ≤ (nI n36).toInt := Int32.le_iff_toInt_le.mp c_8
                refine lv_iconst (v := (-1)) hx hb dX12_check_162 kic_m1 ?_
                exact W.iret (v := (-1)) hx hb hr (fun t ht hW => ⟨⟨(-1), ((va_up cn 18 0), In, Fn), rfl, ⟨(Fr.mo (Fr.c 18 Fr.rf) (sbl rfl) (sbl rfl) (sbl rfl)), (IM.fr (In := In) hI (Fr.c 18 Fr.rf) (by decide) (by decide)), (by show ((0 ≤ v0.toInt ∧ v0.toInt < (cn 1 : Int) ∧ 0 ≤ (nI d1).toInt ∧ 16 * (nI d1).toInt ≤ (cn 18 : Int)) ∧ (va_up cn 18 0) 18 = 0 ∧ (-1) = chk (Fn 8) (Fn 9) (Fn 10) (Fn 14) (fun i9 => Fn 17 i9 &&& 255) v0 (4 * (nI d1).toInt.toNat) (cn 2) 0 0) ∨ (¬ (0 ≤ v0.toInt ∧ v0.toInt < (cn 1 : Int) ∧ 0 ≤ (nI d1).toInt ∧ 16 * (nI d1).toInt ≤ (cn 18 : Int)) ∧ (va_up cn 18 0) 18 = cn 18 ∧ (-1) = -2); exact Or.inl ⟨by (first | omega | (have zz0 := Hid.u hi_cn; omega)), rfl, by rw [zd1]; have e9 := chk_end (by (first | omega | (have zz0 := Hid.u hi_cn; omega))) hx36_1; rw [if_neg (by (first | omega | (have zz0 := Hid.u hi_cn; omega)))] at e9; exact e9⟩)⟩, by rw [ht]; exact hP, hD⟩, hS.F ht⟩) hS.2.2 dX12_check_163
              ·
                have tc_8 : ((nI n36).toInt : Int) < (nI (4 * d1)).toInt := Int32.lt_iff_toInt_lt.mp (Int32.not_le.mp c_8)
                refine lv_iload_n hx hb dX12_check_158 rfl (lvA1 hl) ?_
                refine lv_goto (tgt := 163) hx hb dX12_check_159 rfl ?_
                exact W.iret (v := (nI n36)) hx hb hr (fun t ht hW => ⟨⟨(nI n36), ((va_up cn 18 0), In, Fn), rfl, ⟨(Fr.mo (Fr.c 18 Fr.rf) (sbl rfl) (sbl rfl) (sbl rfl)), (IM.fr (In := In) hI (Fr.c 18 Fr.rf) (by decide) (by decide)), (by show ((0 ≤ v0.toInt ∧ v0.toInt < (cn 1 : Int) ∧ 0 ≤ (nI d1).toInt ∧ 16 * (nI d1).toInt ≤ (cn 18 : Int)) ∧ (va_up cn 18 0) 18 = 0 ∧ (nI n36) = chk (Fn 8) (Fn 9) (Fn 10) (Fn 14) (fun i9 => Fn 17 i9 &&& 255) v0 (4 * (nI d1).toInt.toNat) (cn 2) 0 0) ∨ (¬ (0 ≤ v0.toInt ∧ v0.toInt < (cn 1 : Int) ∧ 0 ≤ (nI d1).toInt ∧ 16 * (nI d1).toInt ≤ (cn 18 : Int)) ∧ (va_up cn 18 0) 18 = cn 18 ∧ (nI n36) = -2); exact Or.inl ⟨by (first | omega | (have zz0 := Hid.u hi_cn; omega)), rfl, by rw [zd1]; first | exact chk_w0 (by (first | omega | (have zz0 := Hid.u hi_cn; omega))) (by assumption) (by (first | omega | (have zz0 := Hid.u hi_cn; omega))) (by assumption) hx36_1 | (have e9 : n36 = 4 * d1 := (by (first | omega | (have zz0 := Hid.u hi_cn; omega))); rw [e9]; rw [e9] at hx36_1; exact chk_full (by (first | omega | (have zz0 := Hid.u hi_cn; omega))) (by assumption) (by (first | omega | (have zz0 := Hid.u hi_cn; omega))) hx36_1) | (have e9 := chk_end (by (first | omega | (have zz0 := Hid.u hi_cn; omega))) hx36_1; rw [if_pos (by (first | omega | (have zz0 := Hid.u hi_cn; omega)))] at e9; exact e9)⟩)⟩, by rw [ht]; exact hP, hD⟩, hS.F ht⟩) hS.2.2 dX12_check_163
            ·
              have tc_6 : ((nI i36).toInt : Int) < (nI (cn 2)).toInt := Int32.lt_iff_toInt_lt.mp (Int32.not_le.mp c_6)
              refine lv_aload_n hx hb dX12_check_45 rfl (lvA2 hl) ?_
              refine gM_25 S hK hP (v := .ref (g 8)) rfl dX12_check_46 ?_
              refine lv_iload hx hb dX12_check_49 (lvA0 hl) ?_
              have kb_1 : i36 < 60 := by (first | omega | (have zz0 := Hid.u hi_cn; omega))
              refine ldM_8 hx hb hK hP (x := ((Fn 8) i36)) (vp_in_nI kb_1 (ltb rfl)) (nI_clamp (Nat.lt_trans kb_1 (ltb rfl))) rfl dX12_check_51 ?_
              refine lv_iload_n hx hb dX12_check_52 rfl (lvA3 hl) ?_
              refine lv_icmp_eq (tgt := 59) hx hb dX12_check_53 rfl (fun c_9 => ?_) (fun c_9 => ?_)
              ·
                have tc_9 : (((Fn 8) i36).toInt : Int) = v0.toInt := congrArg Int32.toInt c_9
                refine lv_iload_n hx hb dX12_check_59 rfl (lvA1 hl) ?_
                refine lv_iconst (v := 4) hx hb dX12_check_60 kic_4 ?_
                refine lv_iload_n hx hb dX12_check_61 rfl (lvA4 hl) ?_
                refine lv_imul hx hb dX12_check_62 ?_
                refine lv_topi (fun y_10 ey_10 => ?_)
                obtain rfl : y_10 = (nI (4 * d1)) := ey_10.trans (pk_mul 4 d1)
                have : (nI n36).toInt = ((n36 : Nat) : Int) := nI_toInt (by (first | omega | (have zz0 := Hid.u hi_cn; omega)))
                have : (nI (4 * d1)).toInt = (((4 * d1) : Nat) : Int) := nI_toInt (by (first | omega | (have zz0 := Hid.u hi_cn; omega)))
                refine lv_icmp_eq (tgt := 76) hx hb dX12_check_63 rfl (fun c_11 => ?_) (fun c_11 => ?_)
                ·
                  have tc_11 : ((nI n36).toInt : Int) = (nI (4 * d1)).toInt := congrArg Int32.toInt c_11
                  refine lv_iload_n hx hb dX12_check_76 rfl (lvA1 hl) ?_
                  exact W.iret (v := (nI n36)) hx hb hr (fun t ht hW => ⟨⟨(nI n36), ((va_up cn 18 0), In, Fn), rfl, ⟨(Fr.mo (Fr.c 18 Fr.rf) (sbl rfl) (sbl rfl) (sbl rfl)), (IM.fr (In := In) hI (Fr.c 18 Fr.rf) (by decide) (by decide)), (by show ((0 ≤ v0.toInt ∧ v0.toInt < (cn 1 : Int) ∧ 0 ≤ (nI d1).toInt ∧ 16 * (nI d1).toInt ≤ (cn 18 : Int)) ∧ (va_up cn 18 0) 18 = 0 ∧ (nI n36) = chk (Fn 8) (Fn 9) (Fn 10) (Fn 14) (fun i9 => Fn 17 i9 &&& 255) v0 (4 * (nI d1).toInt.toNat) (cn 2) 0 0) ∨ (¬ (0 ≤ v0.toInt ∧ v0.toInt < (cn 1 : Int) ∧ 0 ≤ (nI d1).toInt ∧ 16 * (nI d1).toInt ≤ (cn 18 : Int)) ∧ (va_up cn 18 0) 18 = cn 18 ∧ (nI n36) = -2); exact Or.inl ⟨by (first | omega | (have zz0 := Hid.u hi_cn; omega)), rfl, by rw [zd1]; first | exact chk_w0 (by (first | omega | (have zz0 := Hid.u hi_cn; omega))) (by assumption) (by (first | omega | (have zz0 := Hid.u hi_cn; omega))) (by assumption) hx36_1 | (have e9 : n36 = 4 * d1 := (by (first | omega | (have zz0 := Hid.u hi_cn; omega))); rw [e9]; rw [e9] at hx36_1; exact chk_full (by (first | omega | (have zz0 := Hid.u hi_cn; omega))) (by assumption) (by (first | omega | (have zz0 := Hid.u hi_cn; omega))) hx36_1) | (have e9 := chk_end (by (first | omega | (have zz0 := Hid.u hi_cn; omega))) hx36_1; rw [if_pos (by (first | omega | (have zz0 := Hid.u hi_cn; omega)))] at e9; exact e9)⟩)⟩, by rw [ht]; exact hP, hD⟩, hS.F ht⟩) hS.2.2 dX12_check_77
                ·
                  have tc_11 : ((nI n36).toInt : Int) ≠ (nI (4 * d1)).toInt := fun q => c_11 (Int32.toInt_inj.mp q)
                  refine lv_aload_n hx hb dX12_check_66 rfl (lvA2 hl) ?_
                  refine lv_iload_n hx hb dX12_check_67 rfl (lvA1 hl) ?_
                  refine vp_callSi (runV_ra (As := [.int (nI n36)]) (rest := []) S (q_tapeNumber9 l D cI cB cZ g (va_up cn 18 0) In Fn n36 (IM.fr (In := In) hI (Fr.c 18 Fr.rf) (by decide) (by decide)) (show 4 * n36 + 4 ≤ 200 by (first | omega | (have zz0 := Hid.u hi_cn; omega)))) kV_RX12_481 hK hP 0 rfl rfl rfl ⟨Nat.le_of_ble_eq_true rfl, Nat.le_of_ble_eq_true rfl⟩ ⟨Nat.le_of_ble_eq_true rfl, Nat.le_of_ble_eq_true rfl⟩ rfl hl.1 rfl (Nat.le_of_ble_eq_true rfl) dX12_check_68) (fun r_12 h_13 => ?_)
                  subst h_13
                  refine lv_iload hx hb dX12_check_71 (lvA0 hl) ?_
                  refine lv_icmp_eq (tgt := 78) hx hb dX12_check_73 rfl (fun c_14 => ?_) (fun c_14 => ?_)
                  ·
                    have tc_14 : ((tnr (fun i9 => (Fn 17) i9 &&& 255) (4 * n36) 4).toInt : Int) = (nI i36).toInt := congrArg Int32.toInt c_14
                    refine lv_aload_n hx hb dX12_check_78 rfl (lvA2 hl) ?_
                    refine lv_iload_n hx hb dX12_check_79 rfl (lvA1 hl) ?_
                    refine lv_iconst (v := 1) hx hb dX12_check_80 kic_1 ?_
                    refine lv_iadd hx hb dX12_check_81 ?_
                    refine lv_topi (fun y_15 ey_15 => ?_)
                    obtain rfl : y_15 = (nI (n36 + 1)) := ey_15.trans (nI_add n36 1)
                    refine vp_callSi (runV_ra (As := [.int (nI (n36 + 1))]) (rest := []) S (q_tapeNumber9 l D cI cB cZ g (va_up cn 18 0) In Fn (n36 + 1) (IM.fr (In := In) hI (Fr.c 18 Fr.rf) (by decide) (by decide)) (show 4 * (n36 + 1) + 4 ≤ 200 by (first | omega | (have zz0 := Hid.u hi_cn; omega)))) kV_RX12_481 hK hP 0 rfl rfl rfl ⟨Nat.le_of_ble_eq_true rfl, Nat.le_of_ble_eq_true rfl⟩ ⟨Nat.le_of_ble_eq_true rfl, Nat.le_of_ble_eq_true rfl⟩ rfl hl.1 rfl (Nat.le_of_ble_eq_true rfl) dX12_check_82) (fun r_16 h_17 => ?_)
                    subst h_17
                    refine lv_aload_n hx hb dX12_check_85 rfl (lvA2 hl) ?_
                    refine gM_28 S hK hP (v := .ref (g 9)) rfl dX12_check_86 ?_
                    refine lv_iload hx hb dX12_check_89 (lvA0 hl) ?_
                    refine ldM_9 hx hb hK hP (x := ((Fn 9) i36)) (vp_in_nI kb_1 (ltb rfl)) (nI_clamp (Nat.lt_trans kb_1 (ltb rfl))) rfl dX12_check_91 ?_
                    refine lv_icmp_eq (tgt := 99) hx hb dX12_check_92 rfl (fun c_18 => ?_) (fun c_18 => ?_)
                    ·
                      have tc_18 : ((tnr (fun i9 => (Fn 17) i9 &&& 255) (4 * (n36 + 1)) 4).toInt : Int) = ((Fn 9) i36).toInt := congrArg Int32.toInt c_18
                      refine lv_aload_n hx hb dX12_check_99 rfl (lvA2 hl) ?_
                      refine lv_iload_n hx hb dX12_check_100 rfl (lvA1 hl) ?_
                      refine lv_iconst (v := 2) hx hb dX12_check_101 kic_2 ?_
                      refine lv_iadd hx hb dX12_check_102 ?_
                      refine lv_topi (fun y_19 ey_19 => ?_)
                      obtain rfl : y_19 = (nI (n36 + 2)) := ey_19.trans (nI_add n36 2)
                      refine vp_callSi (runV_ra (As := [.int (nI (n36 + 2))]) (rest := []) S (q_tapeNumber9 l D cI cB cZ g (va_up cn 18 0) In Fn (n36 + 2) (IM.fr (In := In) hI (Fr.c 18 Fr.rf) (by decide) (by decide)) (show 4 * (n36 + 2) + 4 ≤ 200 by (first | omega | (have zz0 := Hid.u hi_cn; omega)))) kV_RX12_481 hK hP 0 rfl rfl rfl ⟨Nat.le_of_ble_eq_true rfl, Nat.le_of_ble_eq_true rfl⟩ ⟨Nat.le_of_ble_eq_true rfl, Nat.le_of_ble_eq_true rfl⟩ rfl hl.1 rfl (Nat.le_of_ble_eq_true rfl) dX12_check_103) (fun r_20 h_21 => ?_)
                      subst h_21
                      refine lv_aload_n hx hb dX12_check_106 rfl (lvA2 hl) ?_
                      refine gM_31 S hK hP (v := .ref (g 10)) rfl dX12_check_107 ?_
                      refine lv_iload hx hb dX12_check_110 (lvA0 hl) ?_
                      refine ldM_10 hx hb hK hP (x := ((Fn 10) i36)) (vp_in_nI kb_1 (ltb rfl)) (nI_clamp (Nat.lt_trans kb_1 (ltb rfl))) rfl dX12_check_112 ?_
                      refine lv_icmp_eq (tgt := 120) hx hb dX12_check_113 rfl (fun c_22 => ?_) (fun c_22 => ?_)
                      ·
                        have tc_22 : ((tnr (fun i9 => (Fn 17) i9 &&& 255) (4 * (n36 + 2)) 4).toInt : Int) = ((Fn 10) i36).toInt := congrArg Int32.toInt c_22
                        refine lv_aload_n hx hb dX12_check_120 rfl (lvA2 hl) ?_
                        refine lv_iload_n hx hb dX12_check_121 rfl (lvA1 hl) ?_
                        refine lv_iconst (v := 3) hx hb dX12_check_122 kic_3 ?_
                        refine lv_iadd hx hb dX12_check_123 ?_
                        refine lv_topi (fun y_23 ey_23 => ?_)
                        obtain rfl : y_23 = (nI (n36 + 3)) := ey_23.trans (nI_add n36 3)
                        refine vp_callSi (runV_ra (As := [.int (nI (n36 + 3))]) (rest := []) S (q_tapeNumber9 l D cI cB cZ g (va_up cn 18 0) In Fn (n36 + 3) (IM.fr (In := In) hI (Fr.c 18 Fr.rf) (by decide) (by decide)) (show 4 * (n36 + 3) + 4 ≤ 200 by (first | omega | (have zz0 := Hid.u hi_cn; omega)))) kV_RX12_481 hK hP 0 rfl rfl rfl ⟨Nat.le_of_ble_eq_true rfl, Nat.le_of_ble_eq_true rfl⟩ ⟨Nat.le_of_ble_eq_true rfl, Nat.le_of_ble_eq_true rfl⟩ rfl hl.1 rfl (Nat.le_of_ble_eq_true rfl) dX12_check_124) (fun r_24 h_25 => ?_)
                        subst h_25
                        refine lv_aload_n hx hb dX12_check_127 rfl (lvA2 hl) ?_
                        refine gM_43 S hK hP (v := .ref (g 14)) rfl dX12_check_128 ?_
                        refine lv_iload hx hb dX12_check_131 (lvA0 hl) ?_
                        refine ldM_14 hx hb hK hP (x := ((Fn 14) i36)) (vp_in_nI kb_1 (ltb rfl)) (nI_clamp (Nat.lt_trans kb_1 (ltb rfl))) rfl dX12_check_133 ?_
                        refine lv_icmp_eq (tgt := 141) hx hb dX12_check_134 rfl (fun c_26 => ?_) (fun c_26 => ?_)
                        ·
                          have tc_26 : ((tnr (fun i9 => (Fn 17) i9 &&& 255) (4 * (n36 + 3)) 4).toInt : Int) = ((Fn 14) i36).toInt := congrArg Int32.toInt c_26
                          refine lv_iload_n hx hb dX12_check_141 rfl (lvA1 hl) ?_
                          refine lv_iconst (v := 4) hx hb dX12_check_142 kic_4 ?_
                          refine lv_iadd hx hb dX12_check_143 ?_
                          refine lv_topi (fun y_27 ey_27 => ?_)
                          obtain rfl : y_27 = (nI (n36 + 4)) := ey_27.trans (nI_add n36 4)
                          refine lv_istore_n (lv' := [(3, .int (nI (n36 + 4))), (4, .int (nI i36)), (0, .ref (g 100)), (1, .int v0), (2, .int (nI d1))]) hx hb dX12_check_144 rfl hl (ltb rfl) rfl (fun ls hl => ?_)
                          refine lv_iinc (v := (nI (i36 + 1))) (lv' := [(4, .int (nI (i36 + 1))), (3, .int (nI (n36 + 4))), (0, .ref (g 100)), (1, .int v0), (2, .int (nI d1))]) hx hb dX12_check_145 hl (k := 1) rfl (nI_1 _) (ltb rfl) rfl (fun ls hl => ?_)
                          refine lv_goto (tgt := 36) hx hb dX12_check_148 rfl ?_
                          exact ih36 (i36 + 1) (n36 + 4) (by (first | omega | (have zz0 := Hid.u hi_cn; omega))) ⟨(by (first | omega | (have zz0 := Hid.u hi_cn; omega))), ⟨by (first | omega | (have zz0 := Hid.u hi_cn; omega)), by (first | omega | (have zz0 := Hid.u hi_cn; omega))⟩, (chk_go (by (first | omega | (have zz0 := Hid.u hi_cn; omega))) (by assumption) (by (first | omega | (have zz0 := Hid.u hi_cn; omega))) (wrp_4 (by assumption) (by assumption) (by assumption) (by assumption)) hx36_1)⟩ ls (lv_sub hl [0, 1, 2, 3, 4] rfl)
                        ·
                          have tc_26 : ((tnr (fun i9 => (Fn 17) i9 &&& 255) (4 * (n36 + 3)) 4).toInt : Int) ≠ ((Fn 14) i36).toInt := fun q => c_26 (Int32.toInt_inj.mp q)
                          refine lv_iload_n hx hb dX12_check_137 rfl (lvA1 hl) ?_
                          refine lv_iconst (v := 3) hx hb dX12_check_138 kic_3 ?_
                          refine lv_iadd hx hb dX12_check_139 ?_
                          refine lv_topi (fun y_28 ey_28 => ?_)
                          obtain rfl : y_28 = (nI (n36 + 3)) := ey_28.trans (nI_add n36 3)
                          exact W.iret (v := (nI (n36 + 3))) hx hb hr (fun t ht hW => ⟨⟨(nI (n36 + 3)), ((va_up cn 18 0), In, Fn), rfl, ⟨(Fr.mo (Fr.c 18 Fr.rf) (sbl rfl) (sbl rfl) (sbl rfl)), (IM.fr (In := In) hI (Fr.c 18 Fr.rf) (by decide) (by decide)), (by show ((0 ≤ v0.toInt ∧ v0.toInt < (cn 1 : Int) ∧ 0 ≤ (nI d1).toInt ∧ 16 * (nI d1).toInt ≤ (cn 18 : Int)) ∧ (va_up cn 18 0) 18 = 0 ∧ (nI (n36 + 3)) = chk (Fn 8) (Fn 9) (Fn 10) (Fn 14) (fun i9 => Fn 17 i9 &&& 255) v0 (4 * (nI d1).toInt.toNat) (cn 2) 0 0) ∨ (¬ (0 ≤ v0.toInt ∧ v0.toInt < (cn 1 : Int) ∧ 0 ≤ (nI d1).toInt ∧ 16 * (nI d1).toInt ≤ (cn 18 : Int)) ∧ (va_up cn 18 0) 18 = cn 18 ∧ (nI (n36 + 3)) = -2); exact Or.inl ⟨by (first | omega | (have zz0 := Hid.u hi_cn; omega)), rfl, by rw [zd1]; exact chk_w3 (by (first | omega | (have zz0 := Hid.u hi_cn; omega))) (by assumption) (by (first | omega | (have zz0 := Hid.u hi_cn; omega))) (by assumption) (by assumption) (by assumption) (by assumption) hx36_1⟩)⟩, by rw [ht]; exact hP, hD⟩, hS.F ht⟩) hS.2.2 dX12_check_140
                      ·
                        have tc_22 : ((tnr (fun i9 => (Fn 17) i9 &&& 255) (4 * (n36 + 2)) 4).toInt : Int) ≠ ((Fn 10) i36).toInt := fun q => c_22 (Int32.toInt_inj.mp q)
                        refine lv_iload_n hx hb dX12_check_116 rfl (lvA1 hl) ?_
                        refine lv_iconst (v := 2) hx hb dX12_check_117 kic_2 ?_
                        refine lv_iadd hx hb dX12_check_118 ?_
                        refine lv_topi (fun y_29 ey_29 => ?_)
                        obtain rfl : y_29 = (nI (n36 + 2)) := ey_29.trans (nI_add n36 2)
                        exact W.iret (v := (nI (n36 + 2))) hx hb hr (fun t ht hW => ⟨⟨(nI (n36 + 2)), ((va_up cn 18 0), In, Fn), rfl, ⟨(Fr.mo (Fr.c 18 Fr.rf) (sbl rfl) (sbl rfl) (sbl rfl)), (IM.fr (In := In) hI (Fr.c 18 Fr.rf) (by decide) (by decide)), (by show ((0 ≤ v0.toInt ∧ v0.toInt < (cn 1 : Int) ∧ 0 ≤ (nI d1).toInt ∧ 16 * (nI d1).toInt ≤ (cn 18 : Int)) ∧ (va_up cn 18 0) 18 = 0 ∧ (nI (n36 + 2)) = chk (Fn 8) (Fn 9) (Fn 10) (Fn 14) (fun i9 => Fn 17 i9 &&& 255) v0 (4 * (nI d1).toInt.toNat) (cn 2) 0 0) ∨ (¬ (0 ≤ v0.toInt ∧ v0.toInt < (cn 1 : Int) ∧ 0 ≤ (nI d1).toInt ∧ 16 * (nI d1).toInt ≤ (cn 18 : Int)) ∧ (va_up cn 18 0) 18 = cn 18 ∧ (nI (n36 + 2)) = -2); exact Or.inl ⟨by (first | omega | (have zz0 := Hid.u hi_cn; omega)), rfl, by rw [zd1]; exact chk_w2 (by (first | omega | (have zz0 := Hid.u hi_cn; omega))) (by assumption) (by (first | omega | (have zz0 := Hid.u hi_cn; omega))) (by assumption) (by assumption) (by assumption) hx36_1⟩)⟩, by rw [ht]; exact hP, hD⟩, hS.F ht⟩) hS.2.2 dX12_check_119
                    ·
                      have tc_18 : ((tnr (fun i9 => (Fn 17) i9 &&& 255) (4 * (n36 + 1)) 4).toInt : Int) ≠ ((Fn 9) i36).toInt := fun q => c_18 (Int32.toInt_inj.mp q)
                      refine lv_iload_n hx hb dX12_check_95 rfl (lvA1 hl) ?_
                      refine lv_iconst (v := 1) hx hb dX12_check_96 kic_1 ?_
                      refine lv_iadd hx hb dX12_check_97 ?_
                      refine lv_topi (fun y_30 ey_30 => ?_)
                      obtain rfl : y_30 = (nI (n36 + 1)) := ey_30.trans (nI_add n36 1)
                      exact W.iret (v := (nI (n36 + 1))) hx hb hr (fun t ht hW => ⟨⟨(nI (n36 + 1)), ((va_up cn 18 0), In, Fn), rfl, ⟨(Fr.mo (Fr.c 18 Fr.rf) (sbl rfl) (sbl rfl) (sbl rfl)), (IM.fr (In := In) hI (Fr.c 18 Fr.rf) (by decide) (by decide)), (by show ((0 ≤ v0.toInt ∧ v0.toInt < (cn 1 : Int) ∧ 0 ≤ (nI d1).toInt ∧ 16 * (nI d1).toInt ≤ (cn 18 : Int)) ∧ (va_up cn 18 0) 18 = 0 ∧ (nI (n36 + 1)) = chk (Fn 8) (Fn 9) (Fn 10) (Fn 14) (fun i9 => Fn 17 i9 &&& 255) v0 (4 * (nI d1).toInt.toNat) (cn 2) 0 0) ∨ (¬ (0 ≤ v0.toInt ∧ v0.toInt < (cn 1 : Int) ∧ 0 ≤ (nI d1).toInt ∧ 16 * (nI d1).toInt ≤ (cn 18 : Int)) ∧ (va_up cn 18 0) 18 = cn 18 ∧ (nI (n36 + 1)) = -2); exact Or.inl ⟨by (first | omega | (have zz0 := Hid.u hi_cn; omega)), rfl, by rw [zd1]; exact chk_w1 (by (first | omega | (have zz0 := Hid.u hi_cn; omega))) (by assumption) (by (first | omega | (have zz0 := Hid.u hi_cn; omega))) (by assumption) (by assumption) hx36_1⟩)⟩, by rw [ht]; exact hP, hD⟩, hS.F ht⟩) hS.2.2 dX12_check_98
                  ·
                    have tc_14 : ((tnr (fun i9 => (Fn 17) i9 &&& 255) (4 * n36) 4).toInt : Int) ≠ (nI i36).toInt := fun q => c_14 (Int32.toInt_inj.mp q)
                    refine lv_iload_n hx hb dX12_check_76 rfl (lvA1 hl) ?_
                    exact W.iret (v := (nI n36)) hx hb hr (fun t ht hW => ⟨⟨(nI n36), ((va_up cn 18 0), In, Fn), rfl, ⟨(Fr.mo (Fr.c 18 Fr.rf) (sbl rfl) (sbl rfl) (sbl rfl)), (IM.fr (In := In) hI (Fr.c 18 Fr.rf) (by decide) (by decide)), (by show ((0 ≤ v0.toInt ∧ v0.toInt < (cn 1 : Int) ∧ 0 ≤ (nI d1).toInt ∧ 16 * (nI d1).toInt ≤ (cn 18 : Int)) ∧ (va_up cn 18 0) 18 = 0 ∧ (nI n36) = chk (Fn 8) (Fn 9) (Fn 10) (Fn 14) (fun i9 => Fn 17 i9 &&& 255) v0 (4 * (nI d1).toInt.toNat) (cn 2) 0 0) ∨ (¬ (0 ≤ v0.toInt ∧ v0.toInt < (cn 1 : Int) ∧ 0 ≤ (nI d1).toInt ∧ 16 * (nI d1).toInt ≤ (cn 18 : Int)) ∧ (va_up cn 18 0) 18 = cn 18 ∧ (nI n36) = -2); exact Or.inl ⟨by (first | omega | (have zz0 := Hid.u hi_cn; omega)), rfl, by rw [zd1]; first | exact chk_w0 (by (first | omega | (have zz0 := Hid.u hi_cn; omega))) (by assumption) (by (first | omega | (have zz0 := Hid.u hi_cn; omega))) (by assumption) hx36_1 | (have e9 : n36 = 4 * d1 := (by (first | omega | (have zz0 := Hid.u hi_cn; omega))); rw [e9]; rw [e9] at hx36_1; exact chk_full (by (first | omega | (have zz0 := Hid.u hi_cn; omega))) (by assumption) (by (first | omega | (have zz0 := Hid.u hi_cn; omega))) hx36_1) | (have e9 := chk_end (by (first | omega | (have zz0 := Hid.u hi_cn; omega))) hx36_1; rw [if_pos (by (first | omega | (have zz0 := Hid.u hi_cn; omega)))] at e9; exact e9)⟩)⟩, by rw [ht]; exact hP, hD⟩, hS.F ht⟩) hS.2.2 dX12_check_77
              ·
                have tc_9 : (((Fn 8) i36).toInt : Int) ≠ v0.toInt := fun q => c_9 (Int32.toInt_inj.mp q)
                refine lv_goto (tgt := 145) hx hb dX12_check_56 rfl ?_
                refine lv_iinc (v := (nI (i36 + 1))) (lv' := [(4, .int (nI (i36 + 1))), (3, .int (nI n36)), (0, .ref (g 100)), (1, .int v0), (2, .int (nI d1))]) hx hb dX12_check_145 hl (k := 0) rfl (nI_1 _) (ltb rfl) rfl (fun ls hl => ?_)
                refine lv_goto (tgt := 36) hx hb dX12_check_148 rfl ?_
                exact ih36 (i36 + 1) n36 (by (first | omega | (have zz0 := Hid.u hi_cn; omega))) ⟨(by (first | omega | (have zz0 := Hid.u hi_cn; omega))), ⟨by (first | omega | (have zz0 := Hid.u hi_cn; omega)), by (first | omega | (have zz0 := Hid.u hi_cn; omega))⟩, (chk_no (by (first | omega | (have zz0 := Hid.u hi_cn; omega))) (by assumption) hx36_1)⟩ ls (lv_sub hl [0, 1, 2, 3, 4] rfl)
        exact lp_36 _ 0 0 (Nat.lt_succ_self _) ⟨(by (first | omega | (have zz0 := Hid.u hi_cn; omega))), ⟨rfl, Nat.zero_le _⟩, rfl⟩ ls (lv_sub hl [0, 1, 2, 3, 4] rfl)
      ·
        have tc_5 : ((nI ((cn 18) / 16)).toInt : Int) < v1.toInt := Int32.lt_iff_toInt_lt.mp (Int32.not_le.mp c_5)
        refine lv_bipush (v := (-2)) hx hb dX12_check_23 kbc_m2 ?_
        exact W.iret (v := (-2)) hx hb hr (fun t ht hW => ⟨⟨(-2), (cn, In, Fn), rfl, ⟨(Fr.mo Fr.rf (sbl rfl) (sbl rfl) (sbl rfl)), hI, (by show ((0 ≤ v0.toInt ∧ v0.toInt < (cn 1 : Int) ∧ 0 ≤ v1.toInt ∧ 16 * v1.toInt ≤ (cn 18 : Int)) ∧ cn 18 = 0 ∧ (-2) = chk (Fn 8) (Fn 9) (Fn 10) (Fn 14) (fun i9 => Fn 17 i9 &&& 255) v0 (4 * v1.toInt.toNat) (cn 2) 0 0) ∨ (¬ (0 ≤ v0.toInt ∧ v0.toInt < (cn 1 : Int) ∧ 0 ≤ v1.toInt ∧ 16 * v1.toInt ≤ (cn 18 : Int)) ∧ cn 18 = cn 18 ∧ (-2) = -2); exact Or.inr ⟨by (first | omega | (have zz0 := Hid.u hi_cn; omega)), rfl, rfl⟩)⟩, by rw [ht]; exact hP, hD⟩, hS.F ht⟩) hS.2.2 dX12_check_25
  ·
    have h_2 : ¬ (0 ≤ v0.toInt ∧ v0.toInt < ((cn 1) : Int)) := h_2
    refine lv_if_eq (tgt := 23) hx hb dX12_check_5 rfl (fun _ => ?_) (fun h => absurd h cq_eq_0_0)
    refine lv_bipush (v := (-2)) hx hb dX12_check_23 kbc_m2 ?_
    exact W.iret (v := (-2)) hx hb hr (fun t ht hW => ⟨⟨(-2), (cn, In, Fn), rfl, ⟨(Fr.mo Fr.rf (sbl rfl) (sbl rfl) (sbl rfl)), hI, (by show ((0 ≤ v0.toInt ∧ v0.toInt < (cn 1 : Int) ∧ 0 ≤ v1.toInt ∧ 16 * v1.toInt ≤ (cn 18 : Int)) ∧ cn 18 = 0 ∧ (-2) = chk (Fn 8) (Fn 9) (Fn 10) (Fn 14) (fun i9 => Fn 17 i9 &&& 255) v0 (4 * v1.toInt.toNat) (cn 2) 0 0) ∨ (¬ (0 ≤ v0.toInt ∧ v0.toInt < (cn 1 : Int) ∧ 0 ≤ v1.toInt ∧ 16 * v1.toInt ≤ (cn 18 : Int)) ∧ cn 18 = cn 18 ∧ (-2) = -2); exact Or.inr ⟨by (first | omega | (have zz0 := Hid.u hi_cn; omega)), rfl, rfl⟩)⟩, by rw [ht]; exact hP, hD⟩, hS.F ht⟩) hS.2.2 dX12_check_25
