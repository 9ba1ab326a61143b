/-- the clauses that were read, as the class keeps them -/
def CLx (T : Nat) (F : Nat → Nat → Int32) (cl : ClsT) : Prop := F 198 T = nI cl.length ∧ ∀ (j : Nat) (z : Nat × Nat × Nat), cl[j]? = some z → gA (F 302) 12 T j = nI z.1 ∧ gA (F 303) 12 T j = nI z.2.1 ∧ gA (F 304) 12 T j = nI z.2.2
theorem putM_lt {f : Nat → Int32} {n i : Nat} {x : Int32} (h : i < n) (hn : n ≤ 100) : putM f n (nI i) x = upd f i x := by
  have t : (nI i).toInt = (i : Int) := nI_toInt (by omega)
  unfold putM
  rw [if_pos ⟨by omega, by omega⟩, nI_clamp (by omega)]
theorem gA_put {F : Nat → Int32} {T n j : Nat} {x : Int32} (h : n < 12) : gA (flat F 12 T (putM (gA F 12 T) 12 (nI n) x)) 12 T j = if j = n then x else gA F 12 T j := by
  rw [putM_lt h (by decide), gA_flat (by decide) (fun q hq => by
    unfold upd gA
    rw [if_neg (by omega), if_neg (by omega)])]
  rfl
theorem CLx.add {T a b d : Nat} {F F2 : Nat → Nat → Int32} {cl : ClsT} (h : CLx T F cl) (hl : cl.length < 12) (e302 : F2 302 = flat (F 302) 12 T (putM (gA (F 302) 12 T) 12 (nI cl.length) (nI a))) (e303 : F2 303 = flat (F 303) 12 T (putM (gA (F 303) 12 T) 12 (nI cl.length) (nI b))) (e304 : F2 304 = flat (F 304) 12 T (putM (gA (F 304) 12 T) 12 (nI cl.length) (nI d))) (e198 : F2 198 = upd (F 198) T (nI cl.length + 1)) : CLx T F2 (cl ++ [(a, b, d)]) := by
  obtain ⟨h1, h2⟩ := h
  refine ⟨by rw [e198, upd_self, nI_1, List.length_append]; rfl, fun j z hj => ?_⟩
  rw [e302, e303, e304, gA_put hl, gA_put hl, gA_put hl]
  rw [List.getElem?_append] at hj
  by_cases q : j < cl.length
  · rw [if_pos q] at hj
    rw [if_neg (by omega), if_neg (by omega), if_neg (by omega)]
    exact h2 j z hj
  · rw [if_neg q] at hj
    have q2 : j = cl.length := Classical.byContradiction fun w9 => by
      rw [List.getElem?_eq_none (by simp; omega)] at hj
      cases hj
    subst q2
    rw [Nat.sub_self] at hj
    have e : (a, b, d) = z := Option.some.inj hj
    rw [← e, if_pos rfl, if_pos rfl, if_pos rfl]
    exact ⟨rfl, rfl, rfl⟩
theorem CLx.cg {T : Nat} {F F2 : Nat → Nat → Int32} {cl : ClsT} (h : CLx T F cl) (e1 : F2 198 T = F 198 T) (e2 : F2 302 = F 302) (e3 : F2 303 = F 303) (e4 : F2 304 = F 304) : CLx T F2 cl := by
  unfold CLx
  rw [e1, e2, e3, e4]
  exact h
def clZ : ClvT → ResT
  | .error e => .error e
  | .ok z => .ok (z.1, z.2.1)
section CLZS
variable {bb : Nat → Int32} {n N nc p q T : Nat} {o u : OutT} {c cm : Nat → Nat} {I Im : Nat → Int32} {G F F0 Fm Fe : Nat → Nat → Int32} {cl : ClsT}
theorem CDV_z : resB (resB (fTk bb n 40 q u) (cdK bb n (pcK bb n 5))) (fTk bb n 41) = CDV bb n q u := by
  unfold CDV
  by_cases c : pk bb n q = 40
  · rw [if_pos c, WT_cd]
    have e : fTk bb n 40 q u = .ok (q + 1, u) := if_pos c
    rw [e]
    rfl
  · rw [if_neg c]
    have e : fTk bb n 40 q u = .error (1000 + q) := if_neg c
    rw [e]
    rfl
theorem cl_s (h : pk bb n p = 112) (h2 : ¬ nc = 12) : resB (resB (resB (resB (resB (.ok (p, o)) fInc) (sm1 bb n (smK bb n 6))) (fTk bb n 40)) (cdK bb n (pcK bb n 5))) (fTk bb n 41) = clZ (clV bb n 112 nc p o) := by
  show resB (resB (resB (sm1 bb n (smK bb n 6) (p + 1) o) (fTk bb n 40)) (cdK bb n (pcK bb n 5))) (fTk bb n 41) = _
  cases e : sm1 bb n (smK bb n 6) (p + 1) o with
  | error x => rw [clV_s h h2 e]; rfl
  | ok z =>
    obtain ⟨q, u⟩ := z
    show resB (resB (fTk bb n 40 q u) (cdK bb n (pcK bb n 5))) (fTk bb n 41) = _
    rw [CDV_z]
    cases e2 : CDV bb n q u with
    | error x => rw [clV_sc h h2 e e2]; rfl
    | ok y =>
      obtain ⟨q2, u2⟩ := y
      rw [clV_so h h2 e e2]
      rfl
theorem cl_l (h : pk bb n p = 108) (h2 : ¬ nc = 12) : resB (resB (resB (resB (.ok (p, o)) fInc) (fTk bb n 40)) (cdK bb n (pcK bb n 5))) (fTk bb n 41) = clZ (clV bb n 108 nc p o) := by
  show resB (resB (fTk bb n 40 (p + 1) o) (cdK bb n (pcK bb n 5))) (fTk bb n 41) = _
  rw [CDV_z]
  cases e2 : CDV bb n (p + 1) o with
  | error x => rw [clV_lc h h2 e2]; rfl
  | ok y =>
    obtain ⟨q2, u2⟩ := y
    rw [clV_lo h h2 e2]
    rfl
/-- behind a clause -/
def ZCL (G : Nat → Nat → Int32) (T N : Nat) (c : Nat → Nat) (I : Nat → Int32) (F : Nat → Nat → Int32) (cl : ClsT) (a : Nat) : ClvT → Prop
  | .error e => ZS G T N c I F (.error e)
  | .ok z => ZS G T N c I F (.ok (z.1, z.2.1)) ∧ CLx T F (cl ++ [(a, z.2.2, z.2.1.length)])
theorem ZCL.er {e : Nat} {w : ClvT} {a : Nat} (hw : w = .error e) (h : ZS G T N c I F (.error e)) : ZCL G T N c I F cl a w := by
  rw [hw]
  exact h
theorem ZCL.s (h : pk bb N p = 112) (hl : cl.length < 12) (hm : ZS G T N cm Im Fm (resB (resB (.ok (p, o)) fInc) (sm1 bb N (smK bb N 6)))) (he : ZS G T N c I F (resB (resB (resB (resB (resB (.ok (p, o)) fInc) (sm1 bb N (smK bb N 6))) (fTk bb N 40)) (cdK bb N (pcK bb N 5))) (fTk bb N 41))) (hcl : CLx T F0 cl) (e302 : F 302 = flat (F0 302) 12 T (putM (gA (F0 302) 12 T) 12 (nI cl.length) (nI o.length))) (e303 : F 303 = flat (F0 303) 12 T (putM (gA (F0 303) 12 T) 12 (nI cl.length) (Fm 195 T))) (e304 : F 304 = flat (F0 304) 12 T (putM (gA (F0 304) 12 T) 12 (nI cl.length) (F 195 T))) (e198 : F 198 = upd (F0 198) T (nI cl.length + 1)) : ZCL G T N c I F cl o.length (clV bb N 112 cl.length p o) := by
  have h2 : ¬ cl.length = 12 := by omega
  rw [cl_s h h2] at he
  cases e : clV bb N 112 cl.length p o with
  | error x =>
    rw [e] at he
    exact he
  | ok z =>
    rw [e] at he
    refine ⟨he, ?_⟩
    have hs : sm1 bb N (smK bb N 6) (p + 1) o = .error 0 ∨ True := Or.inr trivial
    cases e1 : sm1 bb N (smK bb N 6) (p + 1) o with
    | error x => rw [clV_s h h2 e1] at e; cases e
    | ok y =>
      obtain ⟨q, u⟩ := y
      have hm : ZS G T N cm Im Fm (sm1 bb N (smK bb N 6) (p + 1) o) := hm
      rw [e1] at hm
      cases e2 : CDV bb N q u with
      | error x => rw [clV_sc h h2 e1 e2] at e; cases e
      | ok w =>
        obtain ⟨q2, u2⟩ := w
        rw [clV_so h h2 e1 e2] at e
        have ez := Except.ok.inj e
        rw [← ez] at he ⊢
        have k1 : Fm 195 T = nI u.length := hm.1.2.2.2.2.1.1
        have k2 : F 195 T = nI u2.length := he.1.2.2.2.2.1.1
        rw [k1] at e303
        rw [k2] at e304
        exact hcl.add hl e302 e303 e304 e198
theorem ZCL.l (h : pk bb N p = 108) (hl : cl.length < 12) (hm : Fm 195 T = nI o.length) (he : ZS G T N c I F (resB (resB (resB (resB (.ok (p, o)) fInc) (fTk bb N 40)) (cdK bb N (pcK bb N 5))) (fTk bb N 41))) (hcl : CLx T F0 cl) (e302 : F 302 = flat (F0 302) 12 T (putM (gA (F0 302) 12 T) 12 (nI cl.length) (nI o.length))) (e303 : F 303 = flat (F0 303) 12 T (putM (gA (F0 303) 12 T) 12 (nI cl.length) (Fm 195 T))) (e304 : F 304 = flat (F0 304) 12 T (putM (gA (F0 304) 12 T) 12 (nI cl.length) (F 195 T))) (e198 : F 198 = upd (F0 198) T (nI cl.length + 1)) : ZCL G T N c I F cl o.length (clV bb N 108 cl.length p o) := by
  have h2 : ¬ cl.length = 12 := by omega
  rw [cl_l h h2] at he
  cases e : clV bb N 108 cl.length p o with
  | error x =>
    rw [e] at he
    exact he
  | ok z =>
    rw [e] at he
    refine ⟨he, ?_⟩
    cases e2 : CDV bb N (p + 1) o with
    | error x => rw [clV_lc h h2 e2] at e; cases e
    | ok w =>
      obtain ⟨q2, u2⟩ := w
      rw [clV_lo h h2 e2] at e
      have ez := Except.ok.inj e
      rw [← ez] at he ⊢
      have k2 : F 195 T = nI u2.length := he.1.2.2.2.2.1.1
      rw [hm] at e303
      rw [k2] at e304
      exact hcl.add hl e302 e303 e304 e198
theorem ZS.len {p : Nat} {o : OutT} (h : ZS G T N c I F (.ok (p, o))) : F 195 T = nI o.length := h.1.2.2.2.2.1.1
end CLZS
/-- a text as the class keeps it -/
def XTx (T : Nat) (F : Nat → Nat → Int32) (o : OutT) (cl : ClsT) : Prop := SAYx T F o ∧ CLx T F cl ∧ o.length ≤ 160 ∧ cl.length ≤ 12
/-- where the class's reading of a text stands -/
def ZTX (G : Nat → Nat → Int32) (bb : Nat → Int32) (N : Nat) (ld : Int32) (T : Nat) (c : Nat → Nat) (I : Nat → Int32) (F : Nat → Nat → Int32) : Prop := (∃ e9 : Nat, txV bb N ld = .error e9 ∧ ZS G T N c I F (.error e9)) ∨ ∃ (p9 : Nat) (o9 : OutT) (l9 : ClsT), txV bb N ld = txL bb N ld (N + 1) p9 o9 l9 ∧ ZS G T N c I F (.ok (p9, o9)) ∧ CLx T F l9 ∧ l9.length ≤ 12
/-- how it ends -/
def ZTE (G : Nat → Nat → Int32) (bb : Nat → Int32) (N : Nat) (ld : Int32) (T : Nat) (I : Nat → Int32) (F : Nat → Nat → Int32) : Prop := KPT T G F ∧ F 199 = upd (G 199) T (nI N) ∧ ((∃ e9 : Nat, txV bb N ld = .error e9 ∧ I 33 = nI e9 ∧ 0 < e9 ∧ e9 < 10000) ∨ ∃ z9 : Nat × OutT × ClsT, txV bb N ld = .ok z9 ∧ I 33 = 0 ∧ XTx T F z9.2.1 z9.2.2 ∧ z9.2.1.length ≤ N)
section ZTXS
variable {bb : Nat → Int32} {N T : Nat} {ld : Int32} {c : Nat → Nat} {I : Nat → Int32} {G F : Nat → Nat → Int32}
theorem pk_of {p : Nat} {r : Int32} (h31 : c 31 = p) (h32 : c 32 = N) (hb : F 40 = bb) (h : (c 31 < c 32 ∧ r = F 40 (c 31)) ∨ (c 32 ≤ c 31 ∧ r.toInt = -1)) : pk bb N p = r := by
  subst h31
  subst h32
  subst hb
  unfold pk
  rcases h with ⟨h1, h2⟩ | ⟨h1, h2⟩
  · rw [if_pos h1, h2]
  · rw [if_neg (by omega)]
    exact (Int32.toInt_inj.mp h2).symm
theorem ZTX.lt (h : ZTX G bb N ld T c I F) (l : c 31 < c 32) : ∃ (p9 : Nat) (o9 : OutT) (l9 : ClsT), txV bb N ld = txL bb N ld (N + 1) p9 o9 l9 ∧ ZS G T N c I F (.ok (p9, o9)) ∧ CLx T F l9 ∧ l9.length ≤ 12 := by
  rcases h with ⟨e, -, h⟩ | h
  · have a : c 32 = c 31 := h.1.2.2.2
    omega
  · exact h
theorem ZTX.fin (h : ZTX G bb N ld T c I F) (l : c 32 ≤ c 31) (hN : N ≤ 160) (hU : F 199 = upd (G 199) T (nI N)) : ZTE G bb N ld T I F := by
  rcases h with ⟨e, h1, h2⟩ | ⟨p, o, cl, h1, h2, h3, h4⟩
  · exact ⟨h2.2, hU, Or.inl ⟨e, h1, h2.1.1, h2.1.2.1, h2.1.2.2.1⟩⟩
  · obtain ⟨a1, a2, a3, a4, a5, a6⟩ := h2.1
    have a2 : c 31 = p := a2
    have a6 : o.length ≤ p := a6
    have a4 : p ≤ N := a4
    exact ⟨h2.2, hU, Or.inr ⟨(p, o, cl), h1.trans (txL_0 (by omega)), a1, ⟨a5, h3, by show o.length ≤ 160; omega, h4⟩, by show o.length ≤ N; omega⟩⟩
theorem ZTE.f {p : Nat} {o : OutT} {l9 : ClsT} (h1 : txV bb N ld = txL bb N ld (N + 1) p o l9) (h2 : p < N) (h3 : ¬ pk bb N p = 59) (h : ZS G T N c I F (.error (1000 * 1 + p))) (hU : F 199 = upd (G 199) T (nI N)) : ZTE G bb N ld T I F := ⟨h.2, hU, Or.inl ⟨_, h1.trans (txL_w h2 h3), h.1.1, h.1.2.1, h.1.2.2.1⟩⟩
theorem clV_12n {l : ClsT} {p : Nat} {o : OutT} {z : Nat × OutT × Nat} {x : Nat × Nat × Nat} (hc : l.length ≤ 12) (e : clV bb N ld l.length p o = .ok z) : (l ++ [x]).length ≤ 12 := by
  rw [List.length_append]
  show l.length + 1 ≤ 12
  by_cases q : l.length = 12
  · unfold clV at e
    split at e
    · first | (cases e; done) | (rw [if_pos q] at e; cases e)
    · cases e
  · omega
end ZTXS



set_option maxRecDepth 100000 in
set_option maxHeartbeats 4000000 in
theorem q_ZstartSum (l : Launch) (D : va_G) (cI cB cZ : ClassId) (zz qq vv : Nat) (bt : Nat → Int32) (g : Nat → Nat) (ad : Nat → Nat → Nat) (cn : Nat → Nat) (In : Nat → Int32) (Fn : Nat → Nat → Int32) (k0 : Nat) (sz : Nat) (hB : CBX cn) (hk : k0 < cn 6) : Met l yX9_startSum (CWS yX9_startSum cX9_startSum 1 none) (RM 1 0 0) (PBx [.ref (ad 5 k0)] D cI cB cZ zz qq vv bt (wX cI (D.1 99) zz g ad cn In Fn) sz) (va_Qv (fun (u : (Nat → Nat) × (Nat → Int32) × (Nat → Nat → Int32)) => (fun c2 I2 F2 => Fr [] [] [302] cn In Fn c2 I2 F2 ∧ CBX c2 ∧ ((F2 302 = flat (Fn 302) 12 k0 (putM (gA (Fn 302) 12 k0) 12 (Fn 198 k0) (Fn 195 k0))) ∧ KPT k0 Fn F2)) u.1 u.2.1 u.2.2) (fun (u : (Nat → Nat) × (Nat → Int32) × (Nat → Nat → Int32)) (t : State) => va_P D vwCl (wX cI (D.1 99) zz g ad u.1 u.2.1 u.2.2) t.heap ∧ va_D (va_A (wX cI (D.1 99) zz g ad cn In Fn) sz) (wX cI (D.1 99) zz g ad u.1 u.2.1 u.2.2)) (va_A (wX cI (D.1 99) zz g ad cn In Fn) sz)) 0 0 (va_A (wX cI (D.1 99) zz g ad cn In Fn) sz) := by
  refine en_x (fun A => (va_Qv (fun (u : (Nat → Nat) × (Nat → Int32) × (Nat → Nat → Int32)) => (fun (c2 : Nat → Nat) (I2 : Nat → Int32) (F2 : Nat → Nat → Int32) => Fr [] [] [302] cn In Fn c2 I2 F2 ∧ CBX c2 ∧ ((F2 302 = flat (Fn 302) 12 k0 (putM (gA (Fn 302) 12 k0) 12 (Fn 198 k0) (Fn 195 k0))) ∧ KPT k0 Fn F2)) u.1 u.2.1 u.2.2) (fun (u : (Nat → Nat) × (Nat → Int32) × (Nat → Nat → Int32)) (t : State) => va_P D vwCl (wX cI (D.1 99) zz g ad u.1 u.2.1 u.2.2) t.heap ∧ va_D A (wX cI (D.1 99) zz g ad u.1 u.2.1 u.2.2)) A)) rfl rfl pn_RX9 (Nat.le_of_ble_eq_true rfl) (fun p e s m below meth c A hx hb hml hown S hr hlocks hnm hA hP hK hD hXS hS ls hl => ?_)
  have hl : lv_has ls 1 [(0, .ref (ad 5 k0))] := hl
  have hb_cn : Hid (CBX cn) := hB
  replace hB : CBXh cn := hB
  refine lv_aload_n hx hb (oc_42 0 shX9_startSum_0) rfl (lvA0 hl) ?_
  refine gf_RX9_21 S hK hP _ (xf_7 hk) (v := .ref (ad 61 k0)) rfl (oc_180 1 (aq_1 shX9_startSum_0) uw_0_21) ?_
  refine lv_aload_n hx hb (oc_42 4 (aq_4 shX9_startSum_0)) rfl (lvA0 hl) ?_
  refine gf_RX9_48 S hK hP _ (xf_7 hk) (v := .int ((Fn 198) k0)) rfl (oc_180 5 (aq_5 shX9_startSum_0) uw_0_48) ?_
  refine lv_aload_n hx hb (oc_42 8 (aq_8 shX9_startSum_0)) rfl (lvA0 hl) ?_
  refine gf_RX9_33 S hK hP _ (xf_7 hk) (v := .int ((Fn 195) k0)) rfl (oc_180 9 (aq_9 shX9_startSum_0) uw_0_33) ?_
  have hFc := va_free (wc := [((ad 61 k0), .inl (cI, 12, .inl (gA (Fn 302) 12 k0)))]) hD hS hA _ (one_im (xf_9 hk))
  refine va_callv (runS_w (As := [.ref (ad 61 k0), .int ((Fn 198) k0), .int ((Fn 195) k0)]) (rest := []) S (q_l_put l D cI cB cZ (ad 61 k0) 12 (gA (Fn 302) 12 k0) ((Fn 198) k0) ((Fn 195) k0) s.heap.size (by (first | omega | (have zz0 := Hid.u hb_cn; omega)))) kS_RX9_44 hK hP hD _ (one_is (xf_9 hk)) (one_im (xf_9 hk)) rfl ⟨Nat.le_of_ble_eq_true rfl, Nat.le_of_ble_eq_true rfl⟩ ⟨Nat.le_of_ble_eq_true rfl, Nat.le_of_ble_eq_true rfl⟩ rfl hl.1 rfl (Nat.le_of_ble_eq_true rfl) (oc_184 12 (aq_12 shX9_startSum_0) uw_0_44)) hS (fun q _ h => hFc q h) hFc (fun u_3 t H1 locs ht hvm h_2 hB1 hz1 hk1 hS => ?_)
  obtain ⟨hP1, hD1⟩ := hB1
  rw [ht] at hP1
  obtain ⟨hP, hD⟩ := wset1 hP hD (xf_9 hk) hk1 hP1
  obtain rfl : u_3 = (putM (gA (Fn 302) 12 k0) 12 ((Fn 198) k0) ((Fn 195) k0)) := h_2
  generalize H1 = H at hP hS ⊢
  have hP : va_P D vwCl (wX cI (D.1 99) zz g ad cn In (va_up Fn 302 (flat (Fn 302) 12 k0 (putM (gA (Fn 302) 12 k0) 12 ((Fn 198) k0) ((Fn 195) k0))))) H := va_P_eq (xsg_9 (by (first | omega | (have zz0 := Hid.u hb_cn; omega))) (putM_z (by (first | omega | (have zz0 := Hid.u hb_cn; omega))) gA_z)) hP
  have hD : va_D A (wX cI (D.1 99) zz g ad cn In (va_up Fn 302 (flat (Fn 302) 12 k0 (putM (gA (Fn 302) 12 k0) 12 ((Fn 198) k0) ((Fn 195) k0))))) := va_D_eq (xsg_9 (by (first | omega | (have zz0 := Hid.u hb_cn; omega))) (putM_z (by (first | omega | (have zz0 := Hid.u hb_cn; omega))) gA_z)) hD
  exact W.vret hx hb hr (fun t ht hW => ⟨⟨(cn, In, (va_up Fn 302 (flat (Fn 302) 12 k0 (putM (gA (Fn 302) 12 k0) 12 ((Fn 198) k0) ((Fn 195) k0))))), rfl, ⟨(Fr.mo (Fr.f 302 Fr.rf) (sbl rfl) (sbl rfl) (sbl rfl)), hB, (by show ((va_up Fn 302 (flat (Fn 302) 12 k0 (putM (gA (Fn 302) 12 k0) 12 ((Fn 198) k0) ((Fn 195) k0)))) 302 = flat (Fn 302) 12 k0 (putM (gA (Fn 302) 12 k0) 12 (Fn 198 k0) (Fn 195 k0))) ∧ KPT k0 Fn (va_up Fn 302 (flat (Fn 302) 12 k0 (putM (gA (Fn 302) 12 k0) 12 ((Fn 198) k0) ((Fn 195) k0)))); exact ⟨rfl, KPT.of (Or.inl rfl) (Or.inl rfl) (Or.inl rfl) (Or.inr ⟨_, rfl⟩) (Or.inl rfl) (Or.inl rfl)⟩)⟩, by rw [ht]; exact hP, hD⟩, hS.F ht⟩) hS.2.2 (oc_177 15 (aq_15 shX9_startSum_0))
set_option maxRecDepth 100000 in
set_option maxHeartbeats 4000000 in
theorem q_ZstartCondition (l : Launch) (D : va_G) (cI cB cZ : ClassId) (zz qq vv : Nat) (bt : Nat → Int32) (g : Nat → Nat) (ad : Nat → Nat → Nat) (cn : Nat → Nat) (In : Nat → Int32) (Fn : Nat → Nat → Int32) (k0 : Nat) (sz : Nat) (hB : CBX cn) (hk : k0 < cn 6) : Met l yX9_startCondition (CWS yX9_startCondition cX9_startCondition 1 none) (RM 1 0 0) (PBx [.ref (ad 5 k0)] D cI cB cZ zz qq vv bt (wX cI (D.1 99) zz g ad cn In Fn) sz) (va_Qv (fun (u : (Nat → Nat) × (Nat → Int32) × (Nat → Nat → Int32)) => (fun c2 I2 F2 => Fr [] [] [303] cn In Fn c2 I2 F2 ∧ CBX c2 ∧ ((F2 303 = flat (Fn 303) 12 k0 (putM (gA (Fn 303) 12 k0) 12 (Fn 198 k0) (Fn 195 k0))) ∧ KPT k0 Fn F2)) u.1 u.2.1 u.2.2) (fun (u : (Nat → Nat) × (Nat → Int32) × (Nat → Nat → Int32)) (t : State) => va_P D vwCl (wX cI (D.1 99) zz g ad u.1 u.2.1 u.2.2) t.heap ∧ va_D (va_A (wX cI (D.1 99) zz g ad cn In Fn) sz) (wX cI (D.1 99) zz g ad u.1 u.2.1 u.2.2)) (va_A (wX cI (D.1 99) zz g ad cn In Fn) sz)) 0 0 (va_A (wX cI (D.1 99) zz g ad cn In Fn) sz) := by
  refine en_x (fun A => (va_Qv (fun (u : (Nat → Nat) × (Nat → Int32) × (Nat → Nat → Int32)) => (fun (c2 : Nat → Nat) (I2 : Nat → Int32) (F2 : Nat → Nat → Int32) => Fr [] [] [303] cn In Fn c2 I2 F2 ∧ CBX c2 ∧ ((F2 303 = flat (Fn 303) 12 k0 (putM (gA (Fn 303) 12 k0) 12 (Fn 198 k0) (Fn 195 k0))) ∧ KPT k0 Fn F2)) u.1 u.2.1 u.2.2) (fun (u : (Nat → Nat) × (Nat → Int32) × (Nat → Nat → Int32)) (t : State) => va_P D vwCl (wX cI (D.1 99) zz g ad u.1 u.2.1 u.2.2) t.heap ∧ va_D A (wX cI (D.1 99) zz g ad u.1 u.2.1 u.2.2)) A)) rfl rfl pn_RX9 (Nat.le_of_ble_eq_true rfl) (fun p e s m below meth c A hx hb hml hown S hr hlocks hnm hA hP hK hD hXS hS ls hl => ?_)
  have hl : lv_has ls 1 [(0, .ref (ad 5 k0))] := hl
  have hb_cn : Hid (CBX cn) := hB
  replace hB : CBXh cn := hB
  refine lv_aload_n hx hb (oc_42 0 shX9_startCondition_0) rfl (lvA0 hl) ?_
  refine gf_RX9_24 S hK hP _ (xf_7 hk) (v := .ref (ad 62 k0)) rfl (oc_180 1 (aq_1 shX9_startCondition_0) uw_0_24) ?_
  refine lv_aload_n hx hb (oc_42 4 (aq_4 shX9_startCondition_0)) rfl (lvA0 hl) ?_
  refine gf_RX9_48 S hK hP _ (xf_7 hk) (v := .int ((Fn 198) k0)) rfl (oc_180 5 (aq_5 shX9_startCondition_0) uw_0_48) ?_
  refine lv_aload_n hx hb (oc_42 8 (aq_8 shX9_startCondition_0)) rfl (lvA0 hl) ?_
  refine gf_RX9_33 S hK hP _ (xf_7 hk) (v := .int ((Fn 195) k0)) rfl (oc_180 9 (aq_9 shX9_startCondition_0) uw_0_33) ?_
  have hFc := va_free (wc := [((ad 62 k0), .inl (cI, 12, .inl (gA (Fn 303) 12 k0)))]) hD hS hA _ (one_im (xf_10 hk))
  refine va_callv (runS_w (As := [.ref (ad 62 k0), .int ((Fn 198) k0), .int ((Fn 195) k0)]) (rest := []) S (q_l_put l D cI cB cZ (ad 62 k0) 12 (gA (Fn 303) 12 k0) ((Fn 198) k0) ((Fn 195) k0) s.heap.size (by (first | omega | (have zz0 := Hid.u hb_cn; omega)))) kS_RX9_44 hK hP hD _ (one_is (xf_10 hk)) (one_im (xf_10 hk)) rfl ⟨Nat.le_of_ble_eq_true rfl, Nat.le_of_ble_eq_true rfl⟩ ⟨Nat.le_of_ble_eq_true rfl, Nat.le_of_ble_eq_true rfl⟩ rfl hl.1 rfl (Nat.le_of_ble_eq_true rfl) (oc_184 12 (aq_12 shX9_startCondition_0) uw_0_44)) hS (fun q _ h => hFc q h) hFc (fun u_3 t H1 locs ht hvm h_2 hB1 hz1 hk1 hS => ?_)
  obtain ⟨hP1, hD1⟩ := hB1
  rw [ht] at hP1
  obtain ⟨hP, hD⟩ := wset1 hP hD (xf_10 hk) hk1 hP1
  obtain rfl : u_3 = (putM (gA (Fn 303) 12 k0) 12 ((Fn 198) k0) ((Fn 195) k0)) := h_2
  generalize H1 = H at hP hS ⊢
  have hP : va_P D vwCl (wX cI (D.1 99) zz g ad cn In (va_up Fn 303 (flat (Fn 303) 12 k0 (putM (gA (Fn 303) 12 k0) 12 ((Fn 198) k0) ((Fn 195) k0))))) H := va_P_eq (xsg_10 (by (first | omega | (have zz0 := Hid.u hb_cn; omega))) (putM_z (by (first | omega | (have zz0 := Hid.u hb_cn; omega))) gA_z)) hP
  have hD : va_D A (wX cI (D.1 99) zz g ad cn In (va_up Fn 303 (flat (Fn 303) 12 k0 (putM (gA (Fn 303) 12 k0) 12 ((Fn 198) k0) ((Fn 195) k0))))) := va_D_eq (xsg_10 (by (first | omega | (have zz0 := Hid.u hb_cn; omega))) (putM_z (by (first | omega | (have zz0 := Hid.u hb_cn; omega))) gA_z)) hD
  exact W.vret hx hb hr (fun t ht hW => ⟨⟨(cn, In, (va_up Fn 303 (flat (Fn 303) 12 k0 (putM (gA (Fn 303) 12 k0) 12 ((Fn 198) k0) ((Fn 195) k0))))), rfl, ⟨(Fr.mo (Fr.f 303 Fr.rf) (sbl rfl) (sbl rfl) (sbl rfl)), hB, (by show ((va_up Fn 303 (flat (Fn 303) 12 k0 (putM (gA (Fn 303) 12 k0) 12 ((Fn 198) k0) ((Fn 195) k0)))) 303 = flat (Fn 303) 12 k0 (putM (gA (Fn 303) 12 k0) 12 (Fn 198 k0) (Fn 195 k0))) ∧ KPT k0 Fn (va_up Fn 303 (flat (Fn 303) 12 k0 (putM (gA (Fn 303) 12 k0) 12 ((Fn 198) k0) ((Fn 195) k0)))); exact ⟨rfl, KPT.of (Or.inl rfl) (Or.inl rfl) (Or.inl rfl) (Or.inl rfl) (Or.inr ⟨_, rfl⟩) (Or.inl rfl)⟩)⟩, by rw [ht]; exact hP, hD⟩, hS.F ht⟩) hS.2.2 (oc_177 15 (aq_15 shX9_startCondition_0))
set_option maxRecDepth 100000 in
set_option maxHeartbeats 4000000 in
theorem q_ZendClause (l : Launch) (D : va_G) (cI cB cZ : ClassId) (zz qq vv : Nat) (bt : Nat → Int32) (g : Nat → Nat) (ad : Nat → Nat → Nat) (cn : Nat → Nat) (In : Nat → Int32) (Fn : Nat → Nat → Int32) (k0 : Nat) (sz : Nat) (hB : CBX cn) (hk : k0 < cn 6) : Met l yX9_endClause (CWS yX9_endClause cX9_endClause 1 none) (RM 1 0 0) (PBx [.ref (ad 5 k0)] D cI cB cZ zz qq vv bt (wX cI (D.1 99) zz g ad cn In Fn) sz) (va_Qv (fun (u : (Nat → Nat) × (Nat → Int32) × (Nat → Nat → Int32)) => (fun c2 I2 F2 => Fr [] [] [198, 304] cn In Fn c2 I2 F2 ∧ CBX c2 ∧ ((F2 198 = upd (Fn 198) k0 (Fn 198 k0 + 1) ∧ F2 304 = flat (Fn 304) 12 k0 (putM (gA (Fn 304) 12 k0) 12 (Fn 198 k0) (Fn 195 k0))) ∧ KPT k0 Fn F2)) u.1 u.2.1 u.2.2) (fun (u : (Nat → Nat) × (Nat → Int32) × (Nat → Nat → Int32)) (t : State) => va_P D vwCl (wX cI (D.1 99) zz g ad u.1 u.2.1 u.2.2) t.heap ∧ va_D (va_A (wX cI (D.1 99) zz g ad cn In Fn) sz) (wX cI (D.1 99) zz g ad u.1 u.2.1 u.2.2)) (va_A (wX cI (D.1 99) zz g ad cn In Fn) sz)) 0 0 (va_A (wX cI (D.1 99) zz g ad cn In Fn) sz) := by
  refine en_x (fun A => (va_Qv (fun (u : (Nat → Nat) × (Nat → Int32) × (Nat → Nat → Int32)) => (fun (c2 : Nat → Nat) (I2 : Nat → Int32) (F2 : Nat → Nat → Int32) => Fr [] [] [198, 304] cn In Fn c2 I2 F2 ∧ CBX c2 ∧ ((F2 198 = upd (Fn 198) k0 (Fn 198 k0 + 1) ∧ F2 304 = flat (Fn 304) 12 k0 (putM (gA (Fn 304) 12 k0) 12 (Fn 198 k0) (Fn 195 k0))) ∧ KPT k0 Fn F2)) u.1 u.2.1 u.2.2) (fun (u : (Nat → Nat) × (Nat → Int32) × (Nat → Nat → Int32)) (t : State) => va_P D vwCl (wX cI (D.1 99) zz g ad u.1 u.2.1 u.2.2) t.heap ∧ va_D A (wX cI (D.1 99) zz g ad u.1 u.2.1 u.2.2)) A)) rfl rfl pn_RX9 (Nat.le_of_ble_eq_true rfl) (fun p e s m below meth c A hx hb hml hown S hr hlocks hnm hA hP hK hD hXS hS ls hl => ?_)
  have hl : lv_has ls 1 [(0, .ref (ad 5 k0))] := hl
  have hb_cn : Hid (CBX cn) := hB
  replace hB : CBXh cn := hB
  refine lv_aload_n hx hb (oc_42 0 shX9_endClause_0) rfl (lvA0 hl) ?_
  refine gf_RX9_27 S hK hP _ (xf_7 hk) (v := .ref (ad 63 k0)) rfl (oc_180 1 (aq_1 shX9_endClause_0) uw_0_27) ?_
  refine lv_aload_n hx hb (oc_42 4 (aq_4 shX9_endClause_0)) rfl (lvA0 hl) ?_
  refine gf_RX9_48 S hK hP _ (xf_7 hk) (v := .int ((Fn 198) k0)) rfl (oc_180 5 (aq_5 shX9_endClause_0) uw_0_48) ?_
  refine lv_aload_n hx hb (oc_42 8 (aq_8 shX9_endClause_0)) rfl (lvA0 hl) ?_
  refine gf_RX9_33 S hK hP _ (xf_7 hk) (v := .int ((Fn 195) k0)) rfl (oc_180 9 (aq_9 shX9_endClause_0) uw_0_33) ?_
  have hFc := va_free (wc := [((ad 63 k0), .inl (cI, 12, .inl (gA (Fn 304) 12 k0)))]) hD hS hA _ (one_im (xf_11 hk))
  refine va_callv (runS_w (As := [.ref (ad 63 k0), .int ((Fn 198) k0), .int ((Fn 195) k0)]) (rest := []) S (q_l_put l D cI cB cZ (ad 63 k0) 12 (gA (Fn 304) 12 k0) ((Fn 198) k0) ((Fn 195) k0) s.heap.size (by (first | omega | (have zz0 := Hid.u hb_cn; omega)))) kS_RX9_44 hK hP hD _ (one_is (xf_11 hk)) (one_im (xf_11 hk)) rfl ⟨Nat.le_of_ble_eq_true rfl, Nat.le_of_ble_eq_true rfl⟩ ⟨Nat.le_of_ble_eq_true rfl, Nat.le_of_ble_eq_true rfl⟩ rfl hl.1 rfl (Nat.le_of_ble_eq_true rfl) (oc_184 12 (aq_12 shX9_endClause_0) uw_0_44)) hS (fun q _ h => hFc q h) hFc (fun u_3 t H1 locs ht hvm h_2 hB1 hz1 hk1 hS => ?_)
  obtain ⟨hP1, hD1⟩ := hB1
  rw [ht] at hP1
  obtain ⟨hP, hD⟩ := wset1 hP hD (xf_11 hk) hk1 hP1
  obtain rfl : u_3 = (putM (gA (Fn 304) 12 k0) 12 ((Fn 198) k0) ((Fn 195) k0)) := h_2
  generalize H1 = H at hP hS ⊢
  have hP : va_P D vwCl (wX cI (D.1 99) zz g ad cn In (va_up Fn 304 (flat (Fn 304) 12 k0 (putM (gA (Fn 304) 12 k0) 12 ((Fn 198) k0) ((Fn 195) k0))))) H := va_P_eq (xsg_11 (by (first | omega | (have zz0 := Hid.u hb_cn; omega))) (putM_z (by (first | omega | (have zz0 := Hid.u hb_cn; omega))) gA_z)) hP
  have hD : va_D A (wX cI (D.1 99) zz g ad cn In (va_up Fn 304 (flat (Fn 304) 12 k0 (putM (gA (Fn 304) 12 k0) 12 ((Fn 198) k0) ((Fn 195) k0))))) := va_D_eq (xsg_11 (by (first | omega | (have zz0 := Hid.u hb_cn; omega))) (putM_z (by (first | omega | (have zz0 := Hid.u hb_cn; omega))) gA_z)) hD
  refine lv_aload_n hx hb (oc_42 15 (aq_15 shX9_endClause_0)) rfl (lvA0 hl) ?_
  refine lv_dup hx hb (oc_89 16 (aq_16 shX9_endClause_0)) rfl ?_
  refine gf_RX9_48 S hK hP _ (xf_7 hk) (v := .int ((Fn 198) k0)) rfl (oc_180 17 (aq_17 shX9_endClause_0) uw_0_48) ?_
  refine lv_iconst (v := 1) hx hb (oc_4 20 (aq_20 shX9_endClause_0)) kic_1 ?_
  refine lv_iadd hx hb (oc_96 21 (aq_21 shX9_endClause_0)) ?_
  refine pf_RX9_48 S hK hP hD hS _ (xf_7 hk) (v := .int (((Fn 198) k0) + 1)) (Nat.le_of_ble_eq_true rfl) rfl rfl (oc_181 22 (aq_22 shX9_endClause_0) uw_0_48) (fun H locs hP hD hS => ?_)
  have hP : va_P D vwCl (wX cI (D.1 99) zz g ad cn In (va_up (va_up Fn 304 (flat (Fn 304) 12 k0 (putM (gA (Fn 304) 12 k0) 12 ((Fn 198) k0) ((Fn 195) k0)))) 198 (upd (Fn 198) k0 (((Fn 198) k0) + 1)))) H := va_P_eq (xs_198 (by (first | omega | (have zz0 := Hid.u hb_cn; omega)))) hP
  have hD : va_D A (wX cI (D.1 99) zz g ad cn In (va_up (va_up Fn 304 (flat (Fn 304) 12 k0 (putM (gA (Fn 304) 12 k0) 12 ((Fn 198) k0) ((Fn 195) k0)))) 198 (upd (Fn 198) k0 (((Fn 198) k0) + 1)))) := va_D_eq (xs_198 (by (first | omega | (have zz0 := Hid.u hb_cn; omega)))) hD
  exact W.vret hx hb hr (fun t ht hW => ⟨⟨(cn, In, (va_up (va_up Fn 304 (flat (Fn 304) 12 k0 (putM (gA (Fn 304) 12 k0) 12 ((Fn 198) k0) ((Fn 195) k0)))) 198 (upd (Fn 198) k0 (((Fn 198) k0) + 1)))), rfl, ⟨(Fr.mo (Fr.f 198 (Fr.f 304 Fr.rf)) (sbl rfl) (sbl rfl) (sbl rfl)), hB, (by show ((va_up (va_up Fn 304 (flat (Fn 304) 12 k0 (putM (gA (Fn 304) 12 k0) 12 ((Fn 198) k0) ((Fn 195) k0)))) 198 (upd (Fn 198) k0 (((Fn 198) k0) + 1))) 198 = upd (Fn 198) k0 (Fn 198 k0 + 1) ∧ (va_up (va_up Fn 304 (flat (Fn 304) 12 k0 (putM (gA (Fn 304) 12 k0) 12 ((Fn 198) k0) ((Fn 195) k0)))) 198 (upd (Fn 198) k0 (((Fn 198) k0) + 1))) 304 = flat (Fn 304) 12 k0 (putM (gA (Fn 304) 12 k0) 12 (Fn 198 k0) (Fn 195 k0))) ∧ KPT k0 Fn (va_up (va_up Fn 304 (flat (Fn 304) 12 k0 (putM (gA (Fn 304) 12 k0) 12 ((Fn 198) k0) ((Fn 195) k0)))) 198 (upd (Fn 198) k0 (((Fn 198) k0) + 1))); exact ⟨⟨rfl, rfl⟩, KPT.of (Or.inl rfl) (Or.inr ⟨_, rfl⟩) (Or.inl rfl) (Or.inl rfl) (Or.inl rfl) (Or.inr ⟨_, rfl⟩)⟩)⟩, by rw [ht]; exact hP, hD⟩, hS.F ht⟩) hS.2.2 (oc_177 25 shX9_endClause_25)
set_option maxRecDepth 100000 in
set_option maxHeartbeats 4000000 in
theorem q_ZreadSum_0 (l : Launch) (D : va_G) (cI cB cZ : ClassId) (zz qq vv : Nat) (bt : Nat → Int32) (g : Nat → Nat) (ad : Nat → Nat → Nat) (cn : Nat → Nat) (In : Nat → Int32) (Fn : Nat → Nat → Int32) (G : Nat → Nat → Int32) (bb : Nat → Int32) (N : Nat) (x : ResT) (sz : Nat) (hB : CBX cn) (hR : ad 4 2 = g 40) (h1 : ad 4 1 < cn 6) (h3 : cn 31 ≤ cn 32) (h4 : cn 32 ≤ 160) (h9 : (Fn 199 (ad 4 1)).toInt ≤ 160) (hbt : BTL bt) (he9 : Fn 199 (ad 4 1) = nI N) (hN : N ≤ 160) (heb : Fn 40 = bb) (hby : ∀ k : Nat, k < 160 → 0 ≤ (bb k).toInt ∧ (bb k).toInt ≤ 255) (hz : ZS G (ad 4 1) N cn In Fn x) : Met l yX5_readSum (CWS yX5_readSum cX5_readSum 3 none) (RM 24 0 0) (PBx [.ref (g 6), .int 0] D cI cB cZ zz qq vv bt (wX cI (D.1 99) zz g ad cn In Fn) sz) (va_Qv (fun (u : (Nat → Nat) × (Nat → Int32) × (Nat → Nat → Int32)) => (fun c2 I2 F2 => Fr [31, 32] [33] [195, 301] cn In Fn c2 I2 F2 ∧ CBX c2 ∧ ((cn 31 ≤ c2 31 ∧ c2 31 ≤ c2 32 ∧ c2 32 ≤ cn 32) ∧ ZS G (ad 4 1) N c2 I2 F2 (resB x (sm1 bb N (smK bb N 6))))) u.1 u.2.1 u.2.2) (fun (u : (Nat → Nat) × (Nat → Int32) × (Nat → Nat → Int32)) (t : State) => va_P D vwCl (wX cI (D.1 99) zz g ad u.1 u.2.1 u.2.2) t.heap ∧ va_D (va_A (wX cI (D.1 99) zz g ad cn In Fn) sz) (wX cI (D.1 99) zz g ad u.1 u.2.1 u.2.2)) (va_A (wX cI (D.1 99) zz g ad cn In Fn) sz)) 0 0 (va_A (wX cI (D.1 99) zz g ad cn In Fn) sz) := by
  have f6 := gq_ZreadFactor6 l D cI cB cZ zz qq vv bt g 6 hbt (by decide)
  have t6 := gq_ZreadTerm l D cI cB cZ zz qq vv bt g 6 4 0 (by decide) f6
  have s6 := gq_ZreadSum l D cI cB cZ zz qq vv bt g 6 5 0 (by decide) t6
  have f5 := gq_ZreadFactor l D cI cB cZ zz qq vv bt g 5 hbt 6 0 (by decide) (by decide) (by rw [show (5 : Int32) + 1 = 6 by decide]; exact s6)
  have t5 := gq_ZreadTerm l D cI cB cZ zz qq vv bt g 5 7 1 (by decide) f5
  have s5 := gq_ZreadSum l D cI cB cZ zz qq vv bt g 5 8 1 (by decide) t5
  have f4 := gq_ZreadFactor l D cI cB cZ zz qq vv bt g 4 hbt 9 1 (by decide) (by decide) (by rw [show (4 : Int32) + 1 = 5 by decide]; exact s5)
  have t4 := gq_ZreadTerm l D cI cB cZ zz qq vv bt g 4 10 2 (by decide) f4
  have s4 := gq_ZreadSum l D cI cB cZ zz qq vv bt g 4 11 2 (by decide) t4
  have f3 := gq_ZreadFactor l D cI cB cZ zz qq vv bt g 3 hbt 12 2 (by decide) (by decide) (by rw [show (3 : Int32) + 1 = 4 by decide]; exact s4)
  have t3 := gq_ZreadTerm l D cI cB cZ zz qq vv bt g 3 13 3 (by decide) f3
  have s3 := gq_ZreadSum l D cI cB cZ zz qq vv bt g 3 14 3 (by decide) t3
  have f2 := gq_ZreadFactor l D cI cB cZ zz qq vv bt g 2 hbt 15 3 (by decide) (by decide) (by rw [show (2 : Int32) + 1 = 3 by decide]; exact s3)
  have t2 := gq_ZreadTerm l D cI cB cZ zz qq vv bt g 2 16 4 (by decide) f2
  have s2 := gq_ZreadSum l D cI cB cZ zz qq vv bt g 2 17 4 (by decide) t2
  have f1 := gq_ZreadFactor l D cI cB cZ zz qq vv bt g 1 hbt 18 4 (by decide) (by decide) (by rw [show (1 : Int32) + 1 = 2 by decide]; exact s2)
  have t1 := gq_ZreadTerm l D cI cB cZ zz qq vv bt g 1 19 5 (by decide) f1
  have s1 := gq_ZreadSum l D cI cB cZ zz qq vv bt g 1 20 5 (by decide) t1
  have f0 := gq_ZreadFactor l D cI cB cZ zz qq vv bt g 0 hbt 21 5 (by decide) (by decide) (by rw [show (0 : Int32) + 1 = 1 by decide]; exact s1)
  have t0 := gq_ZreadTerm l D cI cB cZ zz qq vv bt g 0 22 6 (by decide) f0
  have s0 := gq_ZreadSum l D cI cB cZ zz qq vv bt g 0 23 6 (by decide) t0
  exact s0 ad cn In Fn G bb N x sz hB hR h1 h3 h4 h9 he9 hN heb hby hz
set_option maxRecDepth 100000 in
set_option maxHeartbeats 4000000 in
theorem q_ZreadCondition_1 (l : Launch) (D : va_G) (cI cB cZ : ClassId) (zz qq vv : Nat) (bt : Nat → Int32) (g : Nat → Nat) (ad : Nat → Nat → Nat) (cn : Nat → Nat) (In : Nat → Int32) (Fn : Nat → Nat → Int32) (G : Nat → Nat → Int32) (bb : Nat → Int32) (N : Nat) (x : ResT) (sz : Nat) (hB : CBX cn) (hR : ad 4 2 = g 40) (h1 : ad 4 1 < cn 6) (h3 : cn 31 ≤ cn 32) (h4 : cn 32 ≤ 160) (h9 : (Fn 199 (ad 4 1)).toInt ≤ 160) (hbt : BTL bt) (he9 : Fn 199 (ad 4 1) = nI N) (hN : N ≤ 160) (heb : Fn 40 = bb) (hby : ∀ k : Nat, k < 160 → 0 ≤ (bb k).toInt ∧ (bb k).toInt ≤ 255) (hz : ZS G (ad 4 1) N cn In Fn x) : Met l yX5_readCondition (CWS yX5_readCondition cX5_readCondition 3 none) (RM 24 0 0) (PBx [.ref (g 6), .int 1] D cI cB cZ zz qq vv bt (wX cI (D.1 99) zz g ad cn In Fn) sz) (va_Qv (fun (u : (Nat → Nat) × (Nat → Int32) × (Nat → Nat → Int32)) => (fun c2 I2 F2 => Fr [31, 32] [33] [195, 301] cn In Fn c2 I2 F2 ∧ CBX c2 ∧ ((cn 31 ≤ c2 31 ∧ c2 31 ≤ c2 32 ∧ c2 32 ≤ cn 32) ∧ ZS G (ad 4 1) N c2 I2 F2 (resB x (cdK bb N (pcK bb N 5))))) u.1 u.2.1 u.2.2) (fun (u : (Nat → Nat) × (Nat → Int32) × (Nat → Nat → Int32)) (t : State) => va_P D vwCl (wX cI (D.1 99) zz g ad u.1 u.2.1 u.2.2) t.heap ∧ va_D (va_A (wX cI (D.1 99) zz g ad cn In Fn) sz) (wX cI (D.1 99) zz g ad u.1 u.2.1 u.2.2)) (va_A (wX cI (D.1 99) zz g ad cn In Fn) sz)) 0 0 (va_A (wX cI (D.1 99) zz g ad cn In Fn) sz) := by
  have f6 := gq_ZreadFactor6 l D cI cB cZ zz qq vv bt g 6 hbt (by decide)
  have t6 := gq_ZreadTerm l D cI cB cZ zz qq vv bt g 6 4 0 (by decide) f6
  have s6 := gq_ZreadSum l D cI cB cZ zz qq vv bt g 6 5 0 (by decide) t6
  have f5 := gq_ZreadFactor l D cI cB cZ zz qq vv bt g 5 hbt 6 0 (by decide) (by decide) (by rw [show (5 : Int32) + 1 = 6 by decide]; exact s6)
  have t5 := gq_ZreadTerm l D cI cB cZ zz qq vv bt g 5 7 1 (by decide) f5
  have s5 := gq_ZreadSum l D cI cB cZ zz qq vv bt g 5 8 1 (by decide) t5
  have f4 := gq_ZreadFactor l D cI cB cZ zz qq vv bt g 4 hbt 9 1 (by decide) (by decide) (by rw [show (4 : Int32) + 1 = 5 by decide]; exact s5)
  have t4 := gq_ZreadTerm l D cI cB cZ zz qq vv bt g 4 10 2 (by decide) f4
  have s4 := gq_ZreadSum l D cI cB cZ zz qq vv bt g 4 11 2 (by decide) t4
  have f3 := gq_ZreadFactor l D cI cB cZ zz qq vv bt g 3 hbt 12 2 (by decide) (by decide) (by rw [show (3 : Int32) + 1 = 4 by decide]; exact s4)
  have t3 := gq_ZreadTerm l D cI cB cZ zz qq vv bt g 3 13 3 (by decide) f3
  have s3 := gq_ZreadSum l D cI cB cZ zz qq vv bt g 3 14 3 (by decide) t3
  have f2 := gq_ZreadFactor l D cI cB cZ zz qq vv bt g 2 hbt 15 3 (by decide) (by decide) (by rw [show (2 : Int32) + 1 = 3 by decide]; exact s3)
  have t2 := gq_ZreadTerm l D cI cB cZ zz qq vv bt g 2 16 4 (by decide) f2
  have s2 := gq_ZreadSum l D cI cB cZ zz qq vv bt g 2 17 4 (by decide) t2
  have f1 := gq_ZreadFactor l D cI cB cZ zz qq vv bt g 1 hbt 18 4 (by decide) (by decide) (by rw [show (1 : Int32) + 1 = 2 by decide]; exact s2)
  have t1 := gq_ZreadTerm l D cI cB cZ zz qq vv bt g 1 19 5 (by decide) f1
  have s1 := gq_ZreadSum l D cI cB cZ zz qq vv bt g 1 20 5 (by decide) t1
  have f0 := gq_ZreadFactor l D cI cB cZ zz qq vv bt g 0 hbt 21 5 (by decide) (by decide) (by rw [show (0 : Int32) + 1 = 1 by decide]; exact s1)
  have t0 := gq_ZreadTerm l D cI cB cZ zz qq vv bt g 0 22 6 (by decide) f0
  have s0 := gq_ZreadSum l D cI cB cZ zz qq vv bt g 0 23 6 (by decide) t0
  have p6 := gq_ZreadPiece6 l D cI cB cZ zz qq vv bt g 6 6 (by decide) (by decide) s6
  have u6 := gq_ZreadPart l D cI cB cZ zz qq vv bt g 6 7 0 (by decide) p6
  have c6 := gq_ZreadCondition l D cI cB cZ zz qq vv bt g 6 8 0 (by decide) u6
  have p5 := gq_ZreadPiece l D cI cB cZ zz qq vv bt g 5 9 7 9 0 (by decide) (by decide) s5 (by rw [show (5 : Int32) + 1 = 6 by decide]; exact p6) (by rw [show (5 : Int32) + 1 = 6 by decide]; exact c6)
  have u5 := gq_ZreadPart l D cI cB cZ zz qq vv bt g 5 10 1 (by decide) p5
  have c5 := gq_ZreadCondition l D cI cB cZ zz qq vv bt g 5 11 1 (by decide) u5
  have p4 := gq_ZreadPiece l D cI cB cZ zz qq vv bt g 4 12 10 12 1 (by decide) (by decide) s4 (by rw [show (4 : Int32) + 1 = 5 by decide]; exact p5) (by rw [show (4 : Int32) + 1 = 5 by decide]; exact c5)
  have u4 := gq_ZreadPart l D cI cB cZ zz qq vv bt g 4 13 2 (by decide) p4
  have c4 := gq_ZreadCondition l D cI cB cZ zz qq vv bt g 4 14 2 (by decide) u4
  have p3 := gq_ZreadPiece l D cI cB cZ zz qq vv bt g 3 15 13 15 2 (by decide) (by decide) s3 (by rw [show (3 : Int32) + 1 = 4 by decide]; exact p4) (by rw [show (3 : Int32) + 1 = 4 by decide]; exact c4)
  have u3 := gq_ZreadPart l D cI cB cZ zz qq vv bt g 3 16 3 (by decide) p3
  have c3 := gq_ZreadCondition l D cI cB cZ zz qq vv bt g 3 17 3 (by decide) u3
  have p2 := gq_ZreadPiece l D cI cB cZ zz qq vv bt g 2 18 16 18 3 (by decide) (by decide) s2 (by rw [show (2 : Int32) + 1 = 3 by decide]; exact p3) (by rw [show (2 : Int32) + 1 = 3 by decide]; exact c3)
  have u2 := gq_ZreadPart l D cI cB cZ zz qq vv bt g 2 19 4 (by decide) p2
  have c2 := gq_ZreadCondition l D cI cB cZ zz qq vv bt g 2 20 4 (by decide) u2
  have p1 := gq_ZreadPiece l D cI cB cZ zz qq vv bt g 1 21 19 21 4 (by decide) (by decide) s1 (by rw [show (1 : Int32) + 1 = 2 by decide]; exact p2) (by rw [show (1 : Int32) + 1 = 2 by decide]; exact c2)
  have u1 := gq_ZreadPart l D cI cB cZ zz qq vv bt g 1 22 5 (by decide) p1
  have c1 := gq_ZreadCondition l D cI cB cZ zz qq vv bt g 1 23 5 (by decide) u1
  exact c1 ad cn In Fn G bb N x sz hB hR h1 h3 h4 h9 he9 hN heb hby hz
set_option maxRecDepth 100000 in
set_option maxHeartbeats 4000000 in
theorem q_ZreadClause (l : Launch) (D : va_G) (cI cB cZ : ClassId) (zz qq vv : Nat) (bt : Nat → Int32) (g : Nat → Nat) (ad : Nat → Nat → Nat) (cn : Nat → Nat) (In : Nat → Int32) (Fn : Nat → Nat → Int32) (G : Nat → Nat → Int32) (bb : Nat → Int32) (N p0 : Nat) (o0 : OutT) (cl : ClsT) (ld : Int32) (sz : Nat) (hB : CBX cn) (hR : ad 4 2 = g 40) (h1 : ad 4 1 < cn 6) (h3 : cn 31 ≤ cn 32) (h4 : cn 32 ≤ 160) (h9 : (Fn 199 (ad 4 1)).toInt ≤ 160) (he9 : Fn 199 (ad 4 1) = nI N) (hN : N ≤ 160) (heb : Fn 40 = bb) (hby : ∀ k : Nat, k < 160 → 0 ≤ (bb k).toInt ∧ (bb k).toInt ≤ 255) (hz : ZS G (ad 4 1) N cn In Fn (.ok (p0, o0))) (hcl : CLx (ad 4 1) Fn cl) (hc12 : cl.length ≤ 12) (hld : In 30 = ld) (h8 : 0 ≤ ld.toInt) (hl2 : ld = 112 ∨ ld = 108) (hbt : BTL bt) : Met l yX5_readClause (CWS yX5_readClause cX5_readClause 1 none) (RM 25 0 0) (PBx [.ref (g 6)] D cI cB cZ zz qq vv bt (wX cI (D.1 99) zz g ad cn In Fn) sz) (va_Qv (fun (u : (Nat → Nat) × (Nat → Int32) × (Nat → Nat → Int32)) => (fun c2 I2 F2 => Fr [31, 32] [33] [195, 198, 301, 302, 303, 304] cn In Fn c2 I2 F2 ∧ CBX c2 ∧ ((cn 31 ≤ c2 31 ∧ c2 31 ≤ c2 32 ∧ c2 32 ≤ cn 32) ∧ (∃ n : Nat, n ≤ 12 ∧ F2 198 = upd (Fn 198) (ad 4 1) (nI n)) ∧ ZCL G (ad 4 1) N c2 I2 F2 cl o0.length (clV bb N ld cl.length p0 o0))) u.1 u.2.1 u.2.2) (fun (u : (Nat → Nat) × (Nat → Int32) × (Nat → Nat → Int32)) (t : State) => va_P D vwCl (wX cI (D.1 99) zz g ad u.1 u.2.1 u.2.2) t.heap ∧ va_D (va_A (wX cI (D.1 99) zz g ad cn In Fn) sz) (wX cI (D.1 99) zz g ad u.1 u.2.1 u.2.2)) (va_A (wX cI (D.1 99) zz g ad cn In Fn) sz)) 0 0 (va_A (wX cI (D.1 99) zz g ad cn In Fn) sz) := by
  refine en_x (fun A => (va_Qv (fun (u : (Nat → Nat) × (Nat → Int32) × (Nat → Nat → Int32)) => (fun (c2 : Nat → Nat) (I2 : Nat → Int32) (F2 : Nat → Nat → Int32) => Fr [31, 32] [33] [195, 198, 301, 302, 303, 304] cn In Fn c2 I2 F2 ∧ CBX c2 ∧ ((cn 31 ≤ c2 31 ∧ c2 31 ≤ c2 32 ∧ c2 32 ≤ cn 32) ∧ (∃ n : Nat, n ≤ 12 ∧ F2 198 = upd (Fn 198) (ad 4 1) (nI n)) ∧ ZCL G (ad 4 1) N c2 I2 F2 cl o0.length (clV bb N ld cl.length p0 o0))) u.1 u.2.1 u.2.2) (fun (u : (Nat → Nat) × (Nat → Int32) × (Nat → Nat → Int32)) (t : State) => va_P D vwCl (wX cI (D.1 99) zz g ad u.1 u.2.1 u.2.2) t.heap ∧ va_D A (wX cI (D.1 99) zz g ad u.1 u.2.1 u.2.2)) A)) rfl rfl pn_RX5 (Nat.le_of_ble_eq_true rfl) (fun p e s m below meth c A hx hb hml hown S hr hlocks hnm hA hP hK hD hXS hS ls hl => ?_)
  have hl : lv_has ls 1 [(0, .ref (g 6))] := hl
  replace hB : CBXh cn := hB
  have hld9 : 0 ≤ (In 30).toInt := by rw [hld]; exact h8
  have sl := ZS.sl hz
  refine lv_aload_n hx hb (oc_42 0 shX5_readClause_0) rfl (lvA0 hl) ?_
  refine vp_callSi (runV_rxa (As := []) (rest := []) S (q_Rpeek l D cI cB cZ zz qq vv bt g ad cn In Fn  hB (by omega) (by omega) (by omega) (by omega)) kV_RX5_43 hK hXS hS hP 3 xo_3 rfl rfl ⟨Nat.le_of_ble_eq_true rfl, Nat.le_of_ble_eq_true rfl⟩ ⟨Nat.le_of_ble_eq_true rfl, Nat.le_of_ble_eq_true rfl⟩ rfl hl.1 rfl (Nat.le_of_ble_eq_true rfl) (oc_182 1 (aq_1 shX5_readClause_0) uw_0_43)) (fun r_1 h_2 => ?_)
  rw [heb] at h_2
  obtain rfl : r_1 = pkS cn bb := pkS_of h_2
  refine lv_aload_n hx hb (oc_42 4 (aq_4 shX5_readClause_0)) rfl (lvA0 hl) ?_
  refine gf_RX5_27 S hK hP 3 xo_3 (v := .int (In 30)) rfl (oc_180 5 (aq_5 shX5_readClause_0) uw_0_27) ?_
  refine lv_icmp_eq (tgt := 17) hx hb (oc_159 8 (aq_8 shX5_readClause_0) sgw_0_9) rfl (fun c_3 => ?_) (fun c_3 => ?_)
  ·
    have tc_3 : ((pkS cn bb).toInt : Int) = (In 30).toInt := congrArg Int32.toInt c_3
    refine lv_aload_n hx hb (oc_42 17 (aq_17 shX5_readClause_0)) rfl (lvA0 hl) ?_
    refine gf_RX5_20 S hK hP 3 xo_3 (v := .ref (ad 5 (ad 4 1))) rfl (oc_180 18 (aq_18 shX5_readClause_0) uw_0_20) ?_
    refine gf_RX5_50 S hK hP _ (xf_7 (show (ad 4 1) < (cn 6) by omega)) (v := .int ((Fn 198) (ad 4 1))) rfl (oc_180 21 (aq_21 shX5_readClause_0) uw_0_50) ?_
    refine lv_topi (fun y_4 ey_4 => ?_)
    obtain rfl : y_4 = (nI cl.length) := ey_4.trans hcl.1
    refine lv_bipush (v := 12) hx hb (oc_16 24 shX5_readClause_24 sgb_12) kbc_12 ?_
    have : (nI cl.length).toInt = ((cl.length : Nat) : Int) := nI_toInt (by omega)
    refine lv_icmp_lt (tgt := 35) hx hb (oc_161 26 (aq_2 shX5_readClause_24) sgw_0_9) rfl (fun c_5 => ?_) (fun c_5 => ?_)
    ·
      have tc_5 : ((nI cl.length).toInt : Int) < 12 := Int32.lt_iff_toInt_lt.mp c_5
      refine lv_aload_n hx hb (oc_42 35 (aq_11 shX5_readClause_24)) rfl (lvA0 hl) ?_
      refine lv_dup hx hb (oc_89 36 (aq_12 shX5_readClause_24)) rfl ?_
      refine gf_RX5_31 S hK hP 3 xo_3 (v := .int (nI (cn 31))) rfl (oc_180 37 (aq_13 shX5_readClause_24) uw_0_31) ?_
      refine lv_iconst (v := 1) hx hb (oc_4 40 (aq_16 shX5_readClause_24)) kic_1 ?_
      refine lv_iadd hx hb (oc_96 41 (aq_17 shX5_readClause_24)) ?_
      refine lv_topi (fun y_6 ey_6 => ?_)
      obtain rfl : y_6 = (nI ((cn 31) + 1)) := ey_6.trans (nI_add (cn 31) 1)
      refine pf_RX5_31 S hK hP hD hS 3 xo_3 (v := .int (nI ((cn 31) + 1))) (Nat.le_of_ble_eq_true rfl) rfl rfl (oc_181 42 (aq_18 shX5_readClause_24) uw_0_31) (fun H locs hP hD hS => ?_)
      have hP : va_P D vwCl (wX cI (D.1 99) zz g ad (va_up cn 31 ((cn 31) + 1)) In Fn) H := va_P_eq (xsf_3_3) hP
      have hD : va_D A (wX cI (D.1 99) zz g ad (va_up cn 31 ((cn 31) + 1)) In Fn) := va_D_eq (xsf_3_3) hD
      have hz_6 : ZS G (ad 4 1) N (va_up cn 31 ((cn 31) + 1)) In Fn (resB (.ok (p0, o0) : ResT) fInc) := ZS.incx hz (by omega) rfl rfl rfl
      obtain ⟨x_6, ex_6⟩ : ∃ y : ResT, y = resB (.ok (p0, o0) : ResT) fInc := ⟨_, rfl⟩
      rw [← ex_6] at hz_6
      have sl_6 : SL 1 x_6 := by rw [ex_6]; exact SL.inc sl
      refine lv_aload_n hx hb (oc_42 45 (aq_21 shX5_readClause_24)) rfl (lvA0 hl) ?_
      refine gf_RX5_20 S hK hP 3 xo_3 (v := .ref (ad 5 (ad 4 1))) rfl (oc_180 46 (aq_22 shX5_readClause_24) uw_0_20) ?_
      have hFc := free_all hD hS hA
      refine va_callv (runV_xa (As := []) (rest := []) S (q_ZstartSum l D cI cB cZ zz qq vv bt g ad (va_up cn 31 ((cn 31) + 1)) In Fn (ad 4 1) H.size (CBX.n (k := 31) (v := ((cn 31) + 1)) hB (by decide)) (show (ad 4 1) < (cn 6) by omega)) kV_RX5_53 hK hXS hS hFc hP hD _ (xf_7 (show (ad 4 1) < (cn 6) by omega)) rfl rfl ⟨Nat.le_of_ble_eq_true rfl, Nat.le_of_ble_eq_true rfl⟩ ⟨Nat.le_of_ble_eq_true rfl, Nat.le_of_ble_eq_true rfl⟩ rfl hl.1 rfl (Nat.le_of_ble_eq_true rfl) (oc_182 49 shX5_readClause_49 uw_0_53)) hS (fun q _ h => hFc q h) hFc (fun u t H1 locs ht hvm wh_9 hB1 hz1 hk1 hS => ?_)
      obtain ⟨cn9, In9, Fn9⟩ := u
      obtain ⟨hP1, hD1⟩ := hB1
      rw [ht] at hP1
      have hP : va_P D vwCl (wX cI (D.1 99) zz g ad cn9 In9 Fn9) H1 := hP1
      have hD : va_D A (wX cI (D.1 99) zz g ad cn9 In9 Fn9) := hD1.weaken (fun _ _ _ h => hFc _ h)
      generalize H1 = H at hP hS ⊢
      have vh_9 : (fun c2 I2 F2 => Fr [] [] [302] (va_up cn 31 ((cn 31) + 1)) In Fn c2 I2 F2 ∧ CBX c2 ∧ ((F2 302 = flat ((Fn 302)) 12 (ad 4 1) (putM (gA ((Fn 302)) 12 (ad 4 1)) 12 ((Fn 198) (ad 4 1)) ((Fn 195) (ad 4 1)))) ∧ KPT (ad 4 1) Fn F2)) cn9 In9 Fn9 := wh_9
      obtain ⟨hfc9, hIn9, h_9⟩ := vh_9
      obtain rfl : In = In9 := (funext (fun k => hfc9.2.1 k List.not_mem_nil)).symm
      have hf9 : Fr [31, 32] [33] [195, 198, 301, 302, 303, 304] cn In Fn cn9 In Fn9 := Fr.mo (Fr.tr (Fr.c 31 (Fr.rf (cn := cn) (In := In) (Fn := Fn))) hfc9) (sbl rfl) (sbl rfl) (sbl rfl)
      replace hIn9 : CBXh cn9 := hIn9
      have hT195_9 : Fn9 195 = (Fn 195) := hfc9.2.2 195 (nml rfl)
      have hT198_9 : Fn9 198 = (Fn 198) := hfc9.2.2 198 (nml rfl)
      have hT303_9 : Fn9 303 = (Fn 303) := hfc9.2.2 303 (nml rfl)
      have hT304_9 : Fn9 304 = (Fn 304) := hfc9.2.2 304 (nml rfl)
      have : cn9 6 = (cn 6) := hfc9.1 6 (nml rfl)
      have : cn9 31 = ((cn 31) + 1) := hfc9.1 31 (nml rfl)
      have : cn9 32 = (cn 32) := hfc9.1 32 (nml rfl)
      have hz9_9 : ZS G (ad 4 1) N cn9 In Fn9 (x_6) := ZS.cgx h_9.2 hz_6 (hfc9.1 31 (nml rfl)) (hfc9.1 32 (nml rfl)) (hfc9.2.1 33 (nml rfl)) (hfc9.2.2 195 (nml rfl)) (hfc9.2.2 301 (nml rfl))
      refine lv_aload_n hx hb (oc_42 52 (aq_3 shX5_readClause_49)) rfl (lvA0 hl) ?_
      refine gf_RX5_27 S hK hP 3 xo_3 (v := .int (In 30)) rfl (oc_180 53 (aq_4 shX5_readClause_49) uw_0_27) ?_
      refine lv_bipush (v := 112) hx hb (oc_16 56 (aq_7 shX5_readClause_49) sgb_112) kbc_112 ?_
      refine lv_icmp_ne (tgt := 66) hx hb (oc_160 58 (aq_9 shX5_readClause_49) sgw_0_8) rfl (fun c_10 => ?_) (fun c_10 => ?_)
      ·
        have tc_10 : ((In 30).toInt : Int) ≠ 112 := fun q => c_10 (Int32.toInt_inj.mp q)
        refine lv_aload_n hx hb dX5_readClause_66 rfl (lvA0 hl) ?_
        refine gf_RX5_20 S hK hP 3 xo_3 (v := .ref (ad 5 (ad 4 1))) rfl dX5_readClause_67 ?_
        have hFc := free_all hD hS hA
        refine va_callv (runV_xa (As := []) (rest := []) S (q_ZstartCondition l D cI cB cZ zz qq vv bt g ad cn9 In Fn9 (ad 4 1) H.size hIn9 (by omega)) kV_RX5_59 hK hXS hS hFc hP hD _ (xf_7 (show (ad 4 1) < (cn9 6) by omega)) rfl rfl ⟨Nat.le_of_ble_eq_true rfl, Nat.le_of_ble_eq_true rfl⟩ ⟨Nat.le_of_ble_eq_true rfl, Nat.le_of_ble_eq_true rfl⟩ rfl hl.1 rfl (Nat.le_of_ble_eq_true rfl) dX5_readClause_70) hS (fun q _ h => hFc q h) hFc (fun u t H1 locs ht hvm wh_12 hB1 hz1 hk1 hS => ?_)
        obtain ⟨cn12, In12, Fn12⟩ := u
        obtain ⟨hP1, hD1⟩ := hB1
        rw [ht] at hP1
        have hP : va_P D vwCl (wX cI (D.1 99) zz g ad cn12 In12 Fn12) H1 := hP1
        have hD : va_D A (wX cI (D.1 99) zz g ad cn12 In12 Fn12) := hD1.weaken (fun _ _ _ h => hFc _ h)
        generalize H1 = H at hP hS ⊢
        have vh_12 : (fun c2 I2 F2 => Fr [] [] [303] cn9 In Fn9 c2 I2 F2 ∧ CBX c2 ∧ ((F2 303 = flat ((Fn9 303)) 12 (ad 4 1) (putM (gA ((Fn9 303)) 12 (ad 4 1)) 12 ((Fn9 198) (ad 4 1)) ((Fn9 195) (ad 4 1)))) ∧ KPT (ad 4 1) Fn9 F2)) cn12 In12 Fn12 := wh_12
        obtain ⟨hfc12, hIn12, h_12⟩ := vh_12
        obtain rfl : cn9 = cn12 := (funext (fun k => hfc12.1 k List.not_mem_nil)).symm
        obtain rfl : In = In12 := (funext (fun k => hfc12.2.1 k List.not_mem_nil)).symm
        have hf12 : Fr [31, 32] [33] [195, 198, 301, 302, 303, 304] cn In Fn cn9 In Fn12 := Fr.mo (Fr.tr hf9 hfc12) (sbl rfl) (sbl rfl) (sbl rfl)
        replace hIn12 : CBXh cn9 := hIn12
        have hT195_12 : Fn12 195 = (Fn9 195) := hfc12.2.2 195 (nml rfl)
        have hT198_12 : Fn12 198 = (Fn9 198) := hfc12.2.2 198 (nml rfl)
        have hT302_12 : Fn12 302 = (Fn9 302) := hfc12.2.2 302 (nml rfl)
        have hT304_12 : Fn12 304 = (Fn9 304) := hfc12.2.2 304 (nml rfl)
        have hz9_12 : ZS G (ad 4 1) N cn9 In Fn12 (x_6) := ZS.cgx h_12.2 hz9_9 (hfc12.1 31 (nml rfl)) (hfc12.1 32 (nml rfl)) (hfc12.2.1 33 (nml rfl)) (hfc12.2.2 195 (nml rfl)) (hfc12.2.2 301 (nml rfl))
        refine lv_aload_n hx hb dX5_readClause_73 rfl (lvA0 hl) ?_
        refine lv_bipush (v := 40) hx hb dX5_readClause_74 kbc_40 ?_
        have hFc := free_all hD hS hA
        refine va_callv (runV_xa (As := [.int 40]) (rest := []) S (q_Ztake l D cI cB cZ zz qq vv bt g ad cn9 In Fn12 40 H.size hIn12 (by omega) (by omega) (by omega) (by omega) (by decide)) kV_RX5_62 hK hXS hS hFc hP hD 3 xo_3 rfl rfl ⟨Nat.le_of_ble_eq_true rfl, Nat.le_of_ble_eq_true rfl⟩ ⟨Nat.le_of_ble_eq_true rfl, Nat.le_of_ble_eq_true rfl⟩ rfl hl.1 rfl (Nat.le_of_ble_eq_true rfl) dX5_readClause_76) hS (fun q _ h => hFc q h) hFc (fun u t H1 locs ht hvm wh_14 hB1 hz1 hk1 hS => ?_)
        obtain ⟨cn14, In14, Fn14⟩ := u
        obtain ⟨hP1, hD1⟩ := hB1
        rw [ht] at hP1
        have hP : va_P D vwCl (wX cI (D.1 99) zz g ad cn14 In14 Fn14) H1 := hP1
        have hD : va_D A (wX cI (D.1 99) zz g ad cn14 In14 Fn14) := hD1.weaken (fun _ _ _ h => hFc _ h)
        generalize H1 = H at hP hS ⊢
        have vh_14 : (fun c2 I2 F2 => Fr [31, 32] [33] [] cn9 In Fn12 c2 I2 F2 ∧ CBX c2 ∧ (((cn9 31) ≤ c2 31 ∧ c2 31 ≤ c2 32 ∧ c2 32 ≤ (cn9 32)) ∧ TKR 40 ((Fn12 40)) cn9 In c2 I2)) cn14 In14 Fn14 := wh_14
        obtain ⟨hfc14, hIn14, h_14⟩ := vh_14
        obtain rfl : Fn12 = Fn14 := (funext (fun k => hfc14.2.2 k List.not_mem_nil)).symm
        have hf14 : Fr [31, 32] [33] [195, 198, 301, 302, 303, 304] cn In Fn cn14 In14 Fn12 := Fr.mo (Fr.tr hf12 hfc14) (sbl rfl) (sbl rfl) (sbl rfl)
        replace hIn14 : CBXh cn14 := hIn14
        have : cn14 6 = (cn9 6) := hfc14.1 6 (nml rfl)
        rw [((hf14.2.2 40 (nml rfl)).trans heb)] at h_14
        have hz_14 : ZS G (ad 4 1) N cn14 In14 Fn12 (resB x_6 (fTk bb N 40)) := ZS.tk (by decide) hN hz9_12 h_14.2
        obtain ⟨x_14, ex_14⟩ : ∃ y : ResT, y = resB x_6 (fTk bb N 40) := ⟨_, rfl⟩
        rw [← ex_14] at hz_14
        refine lv_aload_n hx hb dX5_readClause_79 rfl (lvA0 hl) ?_
        refine lv_iconst (v := 1) hx hb dX5_readClause_80 kic_1 ?_
        have hFc := free_all hD hS hA
        refine va_callv (runV_xa (As := [.int 1]) (rest := []) S (q_ZreadCondition_1 l D cI cB cZ zz qq vv bt g ad cn14 In14 Fn12 G bb N x_14 H.size hIn14 (by omega) (by omega) (by omega) (by omega) (by rw [hf14.2.2 199 (nml rfl)]; exact h9) hbt ((congrFun (hf14.2.2 199 (nml rfl)) _).trans he9) hN ((hf14.2.2 40 (nml rfl)).trans heb) hby hz_14) kV_RX5_66 hK hXS hS hFc hP hD 3 xo_3 rfl rfl ⟨Nat.le_of_ble_eq_true rfl, Nat.le_of_ble_eq_true rfl⟩ ⟨Nat.le_of_ble_eq_true rfl, Nat.le_of_ble_eq_true rfl⟩ rfl hl.1 rfl (Nat.le_of_ble_eq_true rfl) dX5_readClause_81) hS (fun q _ h => hFc q h) hFc (fun u t H1 locs ht hvm wh_17 hB1 hz1 hk1 hS => ?_)
        obtain ⟨cn17, In17, Fn17⟩ := u
        obtain ⟨hP1, hD1⟩ := hB1
        rw [ht] at hP1
        have hP : va_P D vwCl (wX cI (D.1 99) zz g ad cn17 In17 Fn17) H1 := hP1
        have hD : va_D A (wX cI (D.1 99) zz g ad cn17 In17 Fn17) := hD1.weaken (fun _ _ _ h => hFc _ h)
        generalize H1 = H at hP hS ⊢
        have vh_17 : (fun c2 I2 F2 => Fr [31, 32] [33] [195, 301] cn14 In14 Fn12 c2 I2 F2 ∧ CBX c2 ∧ (((cn14 31) ≤ c2 31 ∧ c2 31 ≤ c2 32 ∧ c2 32 ≤ (cn14 32)) ∧ ZS G (ad 4 1) N c2 I2 F2 (resB x_14 (cdK bb N (pcK bb N 5))))) cn17 In17 Fn17 := wh_17
        obtain ⟨hfc17, hIn17, h_17⟩ := vh_17
        have hf17 : Fr [31, 32] [33] [195, 198, 301, 302, 303, 304] cn In Fn cn17 In17 Fn17 := Fr.mo (Fr.tr hf14 hfc17) (sbl rfl) (sbl rfl) (sbl rfl)
        replace hIn17 : CBXh cn17 := hIn17
        have hT198_17 : Fn17 198 = (Fn12 198) := hfc17.2.2 198 (nml rfl)
        have hT302_17 : Fn17 302 = (Fn12 302) := hfc17.2.2 302 (nml rfl)
        have hT303_17 : Fn17 303 = (Fn12 303) := hfc17.2.2 303 (nml rfl)
        have hT304_17 : Fn17 304 = (Fn12 304) := hfc17.2.2 304 (nml rfl)
        have : cn17 6 = (cn14 6) := hfc17.1 6 (nml rfl)
        have hz_17 : ZS G (ad 4 1) N cn17 In17 Fn17 (resB x_14 (cdK bb N (pcK bb N 5))) := h_17.2
        obtain ⟨x_17, ex_17⟩ : ∃ y : ResT, y = resB x_14 (cdK bb N (pcK bb N 5)) := ⟨_, rfl⟩
        rw [← ex_17] at hz_17
        refine lv_aload_n hx hb dX5_readClause_84 rfl (lvA0 hl) ?_
        refine lv_bipush (v := 41) hx hb dX5_readClause_85 kbc_41 ?_
        have hFc := free_all hD hS hA
        refine va_callv (runV_xa (As := [.int 41]) (rest := []) S (q_Ztake l D cI cB cZ zz qq vv bt g ad cn17 In17 Fn17 41 H.size hIn17 (by omega) (by omega) (by omega) (by omega) (by decide)) kV_RX5_62 hK hXS hS hFc hP hD 3 xo_3 rfl rfl ⟨Nat.le_of_ble_eq_true rfl, Nat.le_of_ble_eq_true rfl⟩ ⟨Nat.le_of_ble_eq_true rfl, Nat.le_of_ble_eq_true rfl⟩ rfl hl.1 rfl (Nat.le_of_ble_eq_true rfl) dX5_readClause_87) hS (fun q _ h => hFc q h) hFc (fun u t H1 locs ht hvm wh_20 hB1 hz1 hk1 hS => ?_)
        obtain ⟨cn20, In20, Fn20⟩ := u
        obtain ⟨hP1, hD1⟩ := hB1
        rw [ht] at hP1
        have hP : va_P D vwCl (wX cI (D.1 99) zz g ad cn20 In20 Fn20) H1 := hP1
        have hD : va_D A (wX cI (D.1 99) zz g ad cn20 In20 Fn20) := hD1.weaken (fun _ _ _ h => hFc _ h)
        generalize H1 = H at hP hS ⊢
        have vh_20 : (fun c2 I2 F2 => Fr [31, 32] [33] [] cn17 In17 Fn17 c2 I2 F2 ∧ CBX c2 ∧ (((cn17 31) ≤ c2 31 ∧ c2 31 ≤ c2 32 ∧ c2 32 ≤ (cn17 32)) ∧ TKR 41 ((Fn17 40)) cn17 In17 c2 I2)) cn20 In20 Fn20 := wh_20
        obtain ⟨hfc20, hIn20, h_20⟩ := vh_20
        obtain rfl : Fn17 = Fn20 := (funext (fun k => hfc20.2.2 k List.not_mem_nil)).symm
        have hf20 : Fr [31, 32] [33] [195, 198, 301, 302, 303, 304] cn In Fn cn20 In20 Fn17 := Fr.mo (Fr.tr hf17 hfc20) (sbl rfl) (sbl rfl) (sbl rfl)
        replace hIn20 : CBXh cn20 := hIn20
        have : cn20 6 = (cn17 6) := hfc20.1 6 (nml rfl)
        rw [((hf20.2.2 40 (nml rfl)).trans heb)] at h_20
        have hz_20 : ZS G (ad 4 1) N cn20 In20 Fn17 (resB x_17 (fTk bb N 41)) := ZS.tk (by decide) hN hz_17 h_20.2
        obtain ⟨x_20, ex_20⟩ : ∃ y : ResT, y = resB x_17 (fTk bb N 41) := ⟨_, rfl⟩
        rw [← ex_20] at hz_20
        refine lv_aload_n hx hb dX5_readClause_90 rfl (lvA0 hl) ?_
        refine gf_RX5_20 S hK hP 3 xo_3 (v := .ref (ad 5 (ad 4 1))) rfl dX5_readClause_91 ?_
        have hFc := free_all hD hS hA
        refine va_callv (runV_xa (As := []) (rest := []) S (q_ZendClause l D cI cB cZ zz qq vv bt g ad cn20 In20 Fn17 (ad 4 1) H.size hIn20 (by omega)) kV_RX5_69 hK hXS hS hFc hP hD _ (xf_7 (show (ad 4 1) < (cn20 6) by omega)) rfl rfl ⟨Nat.le_of_ble_eq_true rfl, Nat.le_of_ble_eq_true rfl⟩ ⟨Nat.le_of_ble_eq_true rfl, Nat.le_of_ble_eq_true rfl⟩ rfl hl.1 rfl (Nat.le_of_ble_eq_true rfl) dX5_readClause_94) hS (fun q _ h => hFc q h) hFc (fun u t H1 locs ht hvm wh_23 hB1 hz1 hk1 hS => ?_)
        obtain ⟨cn23, In23, Fn23⟩ := u
        obtain ⟨hP1, hD1⟩ := hB1
        rw [ht] at hP1
        have hP : va_P D vwCl (wX cI (D.1 99) zz g ad cn23 In23 Fn23) H1 := hP1
        have hD : va_D A (wX cI (D.1 99) zz g ad cn23 In23 Fn23) := hD1.weaken (fun _ _ _ h => hFc _ h)
        generalize H1 = H at hP hS ⊢
        have vh_23 : (fun c2 I2 F2 => Fr [] [] [198, 304] cn20 In20 Fn17 c2 I2 F2 ∧ CBX c2 ∧ ((F2 198 = upd ((Fn17 198)) (ad 4 1) ((Fn17 198) (ad 4 1) + 1) ∧ F2 304 = flat ((Fn17 304)) 12 (ad 4 1) (putM (gA ((Fn17 304)) 12 (ad 4 1)) 12 ((Fn17 198) (ad 4 1)) ((Fn17 195) (ad 4 1)))) ∧ KPT (ad 4 1) Fn17 F2)) cn23 In23 Fn23 := wh_23
        obtain ⟨hfc23, hIn23, h_23⟩ := vh_23
        obtain rfl : cn20 = cn23 := (funext (fun k => hfc23.1 k List.not_mem_nil)).symm
        obtain rfl : In20 = In23 := (funext (fun k => hfc23.2.1 k List.not_mem_nil)).symm
        have hf23 : Fr [31, 32] [33] [195, 198, 301, 302, 303, 304] cn In Fn cn20 In20 Fn23 := Fr.mo (Fr.tr hf20 hfc23) (sbl rfl) (sbl rfl) (sbl rfl)
        replace hIn23 : CBXh cn20 := hIn23
        have hT195_23 : Fn23 195 = (Fn17 195) := hfc23.2.2 195 (nml rfl)
        have hT302_23 : Fn23 302 = (Fn17 302) := hfc23.2.2 302 (nml rfl)
        have hT303_23 : Fn23 303 = (Fn17 303) := hfc23.2.2 303 (nml rfl)
        have hz9_23 : ZS G (ad 4 1) N cn20 In20 Fn23 (x_20) := ZS.cgx h_23.2 hz_20 (hfc23.1 31 (nml rfl)) (hfc23.1 32 (nml rfl)) (hfc23.2.1 33 (nml rfl)) (hfc23.2.2 195 (nml rfl)) (hfc23.2.2 301 (nml rfl))
        have q302 : Fn23 302 = flat (Fn 302) 12 (ad 4 1) (putM (gA (Fn 302) 12 (ad 4 1)) 12 (nI cl.length) (nI o0.length)) := by simp only [h_9.1, hT195_9, hT198_9, hT303_9, hT304_9, hT195_12, hT198_12, hT302_12, hT304_12, hT198_17, hT302_17, hT303_17, hT304_17, hT195_23, hT302_23, hT303_23, hcl.1, ZS.len hz]
        have q303 : Fn23 303 = flat (Fn 303) 12 (ad 4 1) (putM (gA (Fn 303) 12 (ad 4 1)) 12 (nI cl.length) (Fn9 195 (ad 4 1))) := by simp only [h_12.1, hT195_9, hT198_9, hT303_9, hT304_9, hT195_12, hT198_12, hT302_12, hT304_12, hT198_17, hT302_17, hT303_17, hT304_17, hT195_23, hT302_23, hT303_23, hcl.1]
        have q304 : Fn23 304 = flat (Fn 304) 12 (ad 4 1) (putM (gA (Fn 304) 12 (ad 4 1)) 12 (nI cl.length) (Fn23 195 (ad 4 1))) := by rw [hfc23.2.2 195 (nml rfl)]; simp only [h_23.1.2, hT195_9, hT198_9, hT303_9, hT304_9, hT195_12, hT198_12, hT302_12, hT304_12, hT198_17, hT302_17, hT303_17, hT304_17, hT195_23, hT302_23, hT303_23, hcl.1]
        have q198 : Fn23 198 = upd (Fn 198) (ad 4 1) (nI cl.length + 1) := by simp only [h_23.1.1, hT195_9, hT198_9, hT303_9, hT304_9, hT195_12, hT198_12, hT302_12, hT304_12, hT198_17, hT302_17, hT303_17, hT304_17, hT195_23, hT302_23, hT303_23, hcl.1]
        have e1 : pk bb N p0 = pkS cn bb := ZS.pkx hz rfl
        have e2 := e1.trans ((show pkS cn bb = In 30 by assumption).trans hld)
        subst ex_6 ex_14 ex_17 ex_20
        have hl9 : ld = 108 := hl2.resolve_left (fun q9 => (show ¬ In 30 = 112 by assumption) (hld.trans q9))
        exact W.vret hx hb hr (fun t ht hW => ⟨⟨(cn20, In20, Fn23), rfl, ⟨(Fr.mo hf23 (sbl rfl) (sbl rfl) (sbl rfl)), hIn23, (by show (cn 31 ≤ cn20 31 ∧ cn20 31 ≤ cn20 32 ∧ cn20 32 ≤ cn 32) ∧ (∃ n : Nat, n ≤ 12 ∧ Fn23 198 = upd (Fn 198) (ad 4 1) (nI n)) ∧ ZCL G (ad 4 1) N cn20 In20 Fn23 cl o0.length (clV bb N ld cl.length p0 o0); exact ⟨by show cn 31 ≤ (cn20 31) ∧ (cn20 31) ≤ (cn20 32) ∧ (cn20 32) ≤ cn 32; omega, ⟨cl.length + 1, by omega, by rw [q198, nI_1]⟩, (by rw [hl9]; exact ZCL.l (Fm := Fn9) (e2.trans hl9) (by omega) (by simp only [hT195_9, hT198_9, hT303_9, hT304_9, hT195_12, hT198_12, hT302_12, hT304_12, hT198_17, hT302_17, hT303_17, hT304_17, hT195_23, hT302_23, hT303_23]; exact ZS.len hz) hz9_23 hcl q302 q303 q304 q198)⟩)⟩, by rw [ht]; exact hP, hD⟩, hS.F ht⟩) hS.2.2 dX5_readClause_97
      ·
        have tc_10 : ((In 30).toInt : Int) = 112 := congrArg Int32.toInt c_10
        have hl9 : ld = 112 := by rw [← hld]; assumption
        refine lv_aload_n hx hb (oc_42 61 (aq_12 shX5_readClause_49)) rfl (lvA0 hl) ?_
        refine lv_iconst (v := 0) hx hb (oc_3 62 (aq_13 shX5_readClause_49)) kic_0 ?_
        have hFc := free_all hD hS hA
        refine va_callv (runV_xa (As := [.int 0]) (rest := []) S (q_ZreadSum_0 l D cI cB cZ zz qq vv bt g ad cn9 In Fn9 G bb N x_6 H.size hIn9 (by omega) (by omega) (by omega) (by omega) (by rw [hf9.2.2 199 (nml rfl)]; exact h9) hbt ((congrFun (hf9.2.2 199 (nml rfl)) _).trans he9) hN ((hf9.2.2 40 (nml rfl)).trans heb) hby hz9_9) kV_RX5_56 hK hXS hS hFc hP hD 3 xo_3 rfl rfl ⟨Nat.le_of_ble_eq_true rfl, Nat.le_of_ble_eq_true rfl⟩ ⟨Nat.le_of_ble_eq_true rfl, Nat.le_of_ble_eq_true rfl⟩ rfl hl.1 rfl (Nat.le_of_ble_eq_true rfl) (oc_182 63 (aq_14 shX5_readClause_49) uw_0_56)) hS (fun q _ h => hFc q h) hFc (fun u t H1 locs ht hvm wh_25 hB1 hz1 hk1 hS => ?_)
        obtain ⟨cn25, In25, Fn25⟩ := u
        obtain ⟨hP1, hD1⟩ := hB1
        rw [ht] at hP1
        have hP : va_P D vwCl (wX cI (D.1 99) zz g ad cn25 In25 Fn25) H1 := hP1
        have hD : va_D A (wX cI (D.1 99) zz g ad cn25 In25 Fn25) := hD1.weaken (fun _ _ _ h => hFc _ h)
        generalize H1 = H at hP hS ⊢
        have vh_25 : (fun c2 I2 F2 => Fr [31, 32] [33] [195, 301] cn9 In Fn9 c2 I2 F2 ∧ CBX c2 ∧ (((cn9 31) ≤ c2 31 ∧ c2 31 ≤ c2 32 ∧ c2 32 ≤ (cn9 32)) ∧ ZS G (ad 4 1) N c2 I2 F2 (resB x_6 (sm1 bb N (smK bb N 6))))) cn25 In25 Fn25 := wh_25
        obtain ⟨hfc25, hIn25, h_25⟩ := vh_25
        have hf25 : Fr [31, 32] [33] [195, 198, 301, 302, 303, 304] cn In Fn cn25 In25 Fn25 := Fr.mo (Fr.tr hf9 hfc25) (sbl rfl) (sbl rfl) (sbl rfl)
        replace hIn25 : CBXh cn25 := hIn25
        have hT198_25 : Fn25 198 = (Fn9 198) := hfc25.2.2 198 (nml rfl)
        have hT302_25 : Fn25 302 = (Fn9 302) := hfc25.2.2 302 (nml rfl)
        have hT303_25 : Fn25 303 = (Fn9 303) := hfc25.2.2 303 (nml rfl)
        have hT304_25 : Fn25 304 = (Fn9 304) := hfc25.2.2 304 (nml rfl)
        have : cn25 6 = (cn9 6) := hfc25.1 6 (nml rfl)
        have hz_25 : ZS G (ad 4 1) N cn25 In25 Fn25 (resB x_6 (sm1 bb N (smK bb N 6))) := h_25.2
        obtain ⟨x_25, ex_25⟩ : ∃ y : ResT, y = resB x_6 (sm1 bb N (smK bb N 6)) := ⟨_, rfl⟩
        rw [← ex_25] at hz_25
        have sl_25 : SL 1 x_25 := by rw [ex_25]; exact SL.rule (sm1_len (smK_len _)) sl_6
        refine lv_aload_n hx hb dX5_readClause_66 rfl (lvA0 hl) ?_
        refine gf_RX5_20 S hK hP 3 xo_3 (v := .ref (ad 5 (ad 4 1))) rfl dX5_readClause_67 ?_
        have hFc := free_all hD hS hA
        refine va_callv (runV_xa (As := []) (rest := []) S (q_ZstartCondition l D cI cB cZ zz qq vv bt g ad cn25 In25 Fn25 (ad 4 1) H.size hIn25 (by omega)) kV_RX5_59 hK hXS hS hFc hP hD _ (xf_7 (show (ad 4 1) < (cn25 6) by omega)) rfl rfl ⟨Nat.le_of_ble_eq_true rfl, Nat.le_of_ble_eq_true rfl⟩ ⟨Nat.le_of_ble_eq_true rfl, Nat.le_of_ble_eq_true rfl⟩ rfl hl.1 rfl (Nat.le_of_ble_eq_true rfl) dX5_readClause_70) hS (fun q _ h => hFc q h) hFc (fun u t H1 locs ht hvm wh_28 hB1 hz1 hk1 hS => ?_)
        obtain ⟨cn28, In28, Fn28⟩ := u
        obtain ⟨hP1, hD1⟩ := hB1
        rw [ht] at hP1
        have hP : va_P D vwCl (wX cI (D.1 99) zz g ad cn28 In28 Fn28) H1 := hP1
        have hD : va_D A (wX cI (D.1 99) zz g ad cn28 In28 Fn28) := hD1.weaken (fun _ _ _ h => hFc _ h)
        generalize H1 = H at hP hS ⊢
        have vh_28 : (fun c2 I2 F2 => Fr [] [] [303] cn25 In25 Fn25 c2 I2 F2 ∧ CBX c2 ∧ ((F2 303 = flat ((Fn25 303)) 12 (ad 4 1) (putM (gA ((Fn25 303)) 12 (ad 4 1)) 12 ((Fn25 198) (ad 4 1)) ((Fn25 195) (ad 4 1)))) ∧ KPT (ad 4 1) Fn25 F2)) cn28 In28 Fn28 := wh_28
        obtain ⟨hfc28, hIn28, h_28⟩ := vh_28
        obtain rfl : cn25 = cn28 := (funext (fun k => hfc28.1 k List.not_mem_nil)).symm
        obtain rfl : In25 = In28 := (funext (fun k => hfc28.2.1 k List.not_mem_nil)).symm
        have hf28 : Fr [31, 32] [33] [195, 198, 301, 302, 303, 304] cn In Fn cn25 In25 Fn28 := Fr.mo (Fr.tr hf25 hfc28) (sbl rfl) (sbl rfl) (sbl rfl)
        replace hIn28 : CBXh cn25 := hIn28
        have hT195_28 : Fn28 195 = (Fn25 195) := hfc28.2.2 195 (nml rfl)
        have hT198_28 : Fn28 198 = (Fn25 198) := hfc28.2.2 198 (nml rfl)
        have hT302_28 : Fn28 302 = (Fn25 302) := hfc28.2.2 302 (nml rfl)
        have hT304_28 : Fn28 304 = (Fn25 304) := hfc28.2.2 304 (nml rfl)
        have hz9_28 : ZS G (ad 4 1) N cn25 In25 Fn28 (x_25) := ZS.cgx h_28.2 hz_25 (hfc28.1 31 (nml rfl)) (hfc28.1 32 (nml rfl)) (hfc28.2.1 33 (nml rfl)) (hfc28.2.2 195 (nml rfl)) (hfc28.2.2 301 (nml rfl))
        refine lv_aload_n hx hb dX5_readClause_73 rfl (lvA0 hl) ?_
        refine lv_bipush (v := 40) hx hb dX5_readClause_74 kbc_40 ?_
        have hFc := free_all hD hS hA
        refine va_callv (runV_xa (As := [.int 40]) (rest := []) S (q_Ztake l D cI cB cZ zz qq vv bt g ad cn25 In25 Fn28 40 H.size hIn28 (by omega) (by omega) (by omega) (by omega) (by decide)) kV_RX5_62 hK hXS hS hFc hP hD 3 xo_3 rfl rfl ⟨Nat.le_of_ble_eq_true rfl, Nat.le_of_ble_eq_true rfl⟩ ⟨Nat.le_of_ble_eq_true rfl, Nat.le_of_ble_eq_true rfl⟩ rfl hl.1 rfl (Nat.le_of_ble_eq_true rfl) dX5_readClause_76) hS (fun q _ h => hFc q h) hFc (fun u t H1 locs ht hvm wh_30 hB1 hz1 hk1 hS => ?_)
        obtain ⟨cn30, In30, Fn30⟩ := u
        obtain ⟨hP1, hD1⟩ := hB1
        rw [ht] at hP1
        have hP : va_P D vwCl (wX cI (D.1 99) zz g ad cn30 In30 Fn30) H1 := hP1
        have hD : va_D A (wX cI (D.1 99) zz g ad cn30 In30 Fn30) := hD1.weaken (fun _ _ _ h => hFc _ h)
        generalize H1 = H at hP hS ⊢
        have vh_30 : (fun c2 I2 F2 => Fr [31, 32] [33] [] cn25 In25 Fn28 c2 I2 F2 ∧ CBX c2 ∧ (((cn25 31) ≤ c2 31 ∧ c2 31 ≤ c2 32 ∧ c2 32 ≤ (cn25 32)) ∧ TKR 40 ((Fn28 40)) cn25 In25 c2 I2)) cn30 In30 Fn30 := wh_30
        obtain ⟨hfc30, hIn30, h_30⟩ := vh_30
        obtain rfl : Fn28 = Fn30 := (funext (fun k => hfc30.2.2 k List.not_mem_nil)).symm
        have hf30 : Fr [31, 32] [33] [195, 198, 301, 302, 303, 304] cn In Fn cn30 In30 Fn28 := Fr.mo (Fr.tr hf28 hfc30) (sbl rfl) (sbl rfl) (sbl rfl)
        replace hIn30 : CBXh cn30 := hIn30
        have : cn30 6 = (cn25 6) := hfc30.1 6 (nml rfl)
        rw [((hf30.2.2 40 (nml rfl)).trans heb)] at h_30
        have hz_30 : ZS G (ad 4 1) N cn30 In30 Fn28 (resB x_25 (fTk bb N 40)) := ZS.tk (by decide) hN hz9_28 h_30.2
        obtain ⟨x_30, ex_30⟩ : ∃ y : ResT, y = resB x_25 (fTk bb N 40) := ⟨_, rfl⟩
        rw [← ex_30] at hz_30
        refine lv_aload_n hx hb dX5_readClause_79 rfl (lvA0 hl) ?_
        refine lv_iconst (v := 1) hx hb dX5_readClause_80 kic_1 ?_
        have hFc := free_all hD hS hA
        refine va_callv (runV_xa (As := [.int 1]) (rest := []) S (q_ZreadCondition_1 l D cI cB cZ zz qq vv bt g ad cn30 In30 Fn28 G bb N x_30 H.size hIn30 (by omega) (by omega) (by omega) (by omega) (by rw [hf30.2.2 199 (nml rfl)]; exact h9) hbt ((congrFun (hf30.2.2 199 (nml rfl)) _).trans he9) hN ((hf30.2.2 40 (nml rfl)).trans heb) hby hz_30) kV_RX5_66 hK hXS hS hFc hP hD 3 xo_3 rfl rfl ⟨Nat.le_of_ble_eq_true rfl, Nat.le_of_ble_eq_true rfl⟩ ⟨Nat.le_of_ble_eq_true rfl, Nat.le_of_ble_eq_true rfl⟩ rfl hl.1 rfl (Nat.le_of_ble_eq_true rfl) dX5_readClause_81) hS (fun q _ h => hFc q h) hFc (fun u t H1 locs ht hvm wh_33 hB1 hz1 hk1 hS => ?_)
        obtain ⟨cn33, In33, Fn33⟩ := u
        obtain ⟨hP1, hD1⟩ := hB1
        rw [ht] at hP1
        have hP : va_P D vwCl (wX cI (D.1 99) zz g ad cn33 In33 Fn33) H1 := hP1
        have hD : va_D A (wX cI (D.1 99) zz g ad cn33 In33 Fn33) := hD1.weaken (fun _ _ _ h => hFc _ h)
        generalize H1 = H at hP hS ⊢
        have vh_33 : (fun c2 I2 F2 => Fr [31, 32] [33] [195, 301] cn30 In30 Fn28 c2 I2 F2 ∧ CBX c2 ∧ (((cn30 31) ≤ c2 31 ∧ c2 31 ≤ c2 32 ∧ c2 32 ≤ (cn30 32)) ∧ ZS G (ad 4 1) N c2 I2 F2 (resB x_30 (cdK bb N (pcK bb N 5))))) cn33 In33 Fn33 := wh_33
        obtain ⟨hfc33, hIn33, h_33⟩ := vh_33
        have hf33 : Fr [31, 32] [33] [195, 198, 301, 302, 303, 304] cn In Fn cn33 In33 Fn33 := Fr.mo (Fr.tr hf30 hfc33) (sbl rfl) (sbl rfl) (sbl rfl)
        replace hIn33 : CBXh cn33 := hIn33
        have hT198_33 : Fn33 198 = (Fn28 198) := hfc33.2.2 198 (nml rfl)
        have hT302_33 : Fn33 302 = (Fn28 302) := hfc33.2.2 302 (nml rfl)
        have hT303_33 : Fn33 303 = (Fn28 303) := hfc33.2.2 303 (nml rfl)
        have hT304_33 : Fn33 304 = (Fn28 304) := hfc33.2.2 304 (nml rfl)
        have : cn33 6 = (cn30 6) := hfc33.1 6 (nml rfl)
        have hz_33 : ZS G (ad 4 1) N cn33 In33 Fn33 (resB x_30 (cdK bb N (pcK bb N 5))) := h_33.2
        obtain ⟨x_33, ex_33⟩ : ∃ y : ResT, y = resB x_30 (cdK bb N (pcK bb N 5)) := ⟨_, rfl⟩
        rw [← ex_33] at hz_33
        refine lv_aload_n hx hb dX5_readClause_84 rfl (lvA0 hl) ?_
        refine lv_bipush (v := 41) hx hb dX5_readClause_85 kbc_41 ?_
        have hFc := free_all hD hS hA
        refine va_callv (runV_xa (As := [.int 41]) (rest := []) S (q_Ztake l D cI cB cZ zz qq vv bt g ad cn33 In33 Fn33 41 H.size hIn33 (by omega) (by omega) (by omega) (by omega) (by decide)) kV_RX5_62 hK hXS hS hFc hP hD 3 xo_3 rfl rfl ⟨Nat.le_of_ble_eq_true rfl, Nat.le_of_ble_eq_true rfl⟩ ⟨Nat.le_of_ble_eq_true rfl, Nat.le_of_ble_eq_true rfl⟩ rfl hl.1 rfl (Nat.le_of_ble_eq_true rfl) dX5_readClause_87) hS (fun q _ h => hFc q h) hFc (fun u t H1 locs ht hvm wh_36 hB1 hz1 hk1 hS => ?_)
        obtain ⟨cn36, In36, Fn36⟩ := u
        obtain ⟨hP1, hD1⟩ := hB1
        rw [ht] at hP1
        have hP : va_P D vwCl (wX cI (D.1 99) zz g ad cn36 In36 Fn36) H1 := hP1
        have hD : va_D A (wX cI (D.1 99) zz g ad cn36 In36 Fn36) := hD1.weaken (fun _ _ _ h => hFc _ h)
        generalize H1 = H at hP hS ⊢
        have vh_36 : (fun c2 I2 F2 => Fr [31, 32] [33] [] cn33 In33 Fn33 c2 I2 F2 ∧ CBX c2 ∧ (((cn33 31) ≤ c2 31 ∧ c2 31 ≤ c2 32 ∧ c2 32 ≤ (cn33 32)) ∧ TKR 41 ((Fn33 40)) cn33 In33 c2 I2)) cn36 In36 Fn36 := wh_36
        obtain ⟨hfc36, hIn36, h_36⟩ := vh_36
        obtain rfl : Fn33 = Fn36 := (funext (fun k => hfc36.2.2 k List.not_mem_nil)).symm
        have hf36 : Fr [31, 32] [33] [195, 198, 301, 302, 303, 304] cn In Fn cn36 In36 Fn33 := Fr.mo (Fr.tr hf33 hfc36) (sbl rfl) (sbl rfl) (sbl rfl)
        replace hIn36 : CBXh cn36 := hIn36
        have : cn36 6 = (cn33 6) := hfc36.1 6 (nml rfl)
        rw [((hf36.2.2 40 (nml rfl)).trans heb)] at h_36
        have hz_36 : ZS G (ad 4 1) N cn36 In36 Fn33 (resB x_33 (fTk bb N 41)) := ZS.tk (by decide) hN hz_33 h_36.2
        obtain ⟨x_36, ex_36⟩ : ∃ y : ResT, y = resB x_33 (fTk bb N 41) := ⟨_, rfl⟩
        rw [← ex_36] at hz_36
        refine lv_aload_n hx hb dX5_readClause_90 rfl (lvA0 hl) ?_
        refine gf_RX5_20 S hK hP 3 xo_3 (v := .ref (ad 5 (ad 4 1))) rfl dX5_readClause_91 ?_
        have hFc := free_all hD hS hA
        refine va_callv (runV_xa (As := []) (rest := []) S (q_ZendClause l D cI cB cZ zz qq vv bt g ad cn36 In36 Fn33 (ad 4 1) H.size hIn36 (by omega)) kV_RX5_69 hK hXS hS hFc hP hD _ (xf_7 (show (ad 4 1) < (cn36 6) by omega)) rfl rfl ⟨Nat.le_of_ble_eq_true rfl, Nat.le_of_ble_eq_true rfl⟩ ⟨Nat.le_of_ble_eq_true rfl, Nat.le_of_ble_eq_true rfl⟩ rfl hl.1 rfl (Nat.le_of_ble_eq_true rfl) dX5_readClause_94) hS (fun q _ h => hFc q h) hFc (fun u t H1 locs ht hvm wh_39 hB1 hz1 hk1 hS => ?_)
        obtain ⟨cn39, In39, Fn39⟩ := u
        obtain ⟨hP1, hD1⟩ := hB1
        rw [ht] at hP1
        have hP : va_P D vwCl (wX cI (D.1 99) zz g ad cn39 In39 Fn39) H1 := hP1
        have hD : va_D A (wX cI (D.1 99) zz g ad cn39 In39 Fn39) := hD1.weaken (fun _ _ _ h => hFc _ h)
        generalize H1 = H at hP hS ⊢
        have vh_39 : (fun c2 I2 F2 => Fr [] [] [198, 304] cn36 In36 Fn33 c2 I2 F2 ∧ CBX c2 ∧ ((F2 198 = upd ((Fn33 198)) (ad 4 1) ((Fn33 198) (ad 4 1) + 1) ∧ F2 304 = flat ((Fn33 304)) 12 (ad 4 1) (putM (gA ((Fn33 304)) 12 (ad 4 1)) 12 ((Fn33 198) (ad 4 1)) ((Fn33 195) (ad 4 1)))) ∧ KPT (ad 4 1) Fn33 F2)) cn39 In39 Fn39 := wh_39
        obtain ⟨hfc39, hIn39, h_39⟩ := vh_39
        obtain rfl : cn36 = cn39 := (funext (fun k => hfc39.1 k List.not_mem_nil)).symm
        obtain rfl : In36 = In39 := (funext (fun k => hfc39.2.1 k List.not_mem_nil)).symm
        have hf39 : Fr [31, 32] [33] [195, 198, 301, 302, 303, 304] cn In Fn cn36 In36 Fn39 := Fr.mo (Fr.tr hf36 hfc39) (sbl rfl) (sbl rfl) (sbl rfl)
        replace hIn39 : CBXh cn36 := hIn39
        have hT195_39 : Fn39 195 = (Fn33 195) := hfc39.2.2 195 (nml rfl)
        have hT302_39 : Fn39 302 = (Fn33 302) := hfc39.2.2 302 (nml rfl)
        have hT303_39 : Fn39 303 = (Fn33 303) := hfc39.2.2 303 (nml rfl)
        have hz9_39 : ZS G (ad 4 1) N cn36 In36 Fn39 (x_36) := ZS.cgx h_39.2 hz_36 (hfc39.1 31 (nml rfl)) (hfc39.1 32 (nml rfl)) (hfc39.2.1 33 (nml rfl)) (hfc39.2.2 195 (nml rfl)) (hfc39.2.2 301 (nml rfl))
        have q302 : Fn39 302 = flat (Fn 302) 12 (ad 4 1) (putM (gA (Fn 302) 12 (ad 4 1)) 12 (nI cl.length) (nI o0.length)) := by simp only [h_9.1, hT195_9, hT198_9, hT303_9, hT304_9, hT198_25, hT302_25, hT303_25, hT304_25, hT195_28, hT198_28, hT302_28, hT304_28, hT198_33, hT302_33, hT303_33, hT304_33, hT195_39, hT302_39, hT303_39, hcl.1, ZS.len hz]
        have q303 : Fn39 303 = flat (Fn 303) 12 (ad 4 1) (putM (gA (Fn 303) 12 (ad 4 1)) 12 (nI cl.length) (Fn25 195 (ad 4 1))) := by simp only [h_28.1, hT195_9, hT198_9, hT303_9, hT304_9, hT198_25, hT302_25, hT303_25, hT304_25, hT195_28, hT198_28, hT302_28, hT304_28, hT198_33, hT302_33, hT303_33, hT304_33, hT195_39, hT302_39, hT303_39, hcl.1]
        have q304 : Fn39 304 = flat (Fn 304) 12 (ad 4 1) (putM (gA (Fn 304) 12 (ad 4 1)) 12 (nI cl.length) (Fn39 195 (ad 4 1))) := by rw [hfc39.2.2 195 (nml rfl)]; simp only [h_39.1.2, hT195_9, hT198_9, hT303_9, hT304_9, hT198_25, hT302_25, hT303_25, hT304_25, hT195_28, hT198_28, hT302_28, hT304_28, hT198_33, hT302_33, hT303_33, hT304_33, hT195_39, hT302_39, hT303_39, hcl.1]
        have q198 : Fn39 198 = upd (Fn 198) (ad 4 1) (nI cl.length + 1) := by simp only [h_39.1.1, hT195_9, hT198_9, hT303_9, hT304_9, hT198_25, hT302_25, hT303_25, hT304_25, hT195_28, hT198_28, hT302_28, hT304_28, hT198_33, hT302_33, hT303_33, hT304_33, hT195_39, hT302_39, hT303_39, hcl.1]
        have e1 : pk bb N p0 = pkS cn bb := ZS.pkx hz rfl
        have e2 := e1.trans ((show pkS cn bb = In 30 by assumption).trans hld)
        subst ex_6 ex_25 ex_30 ex_33 ex_36
        exact W.vret hx hb hr (fun t ht hW => ⟨⟨(cn36, In36, Fn39), rfl, ⟨(Fr.mo hf39 (sbl rfl) (sbl rfl) (sbl rfl)), hIn39, (by show (cn 31 ≤ cn36 31 ∧ cn36 31 ≤ cn36 32 ∧ cn36 32 ≤ cn 32) ∧ (∃ n : Nat, n ≤ 12 ∧ Fn39 198 = upd (Fn 198) (ad 4 1) (nI n)) ∧ ZCL G (ad 4 1) N cn36 In36 Fn39 cl o0.length (clV bb N ld cl.length p0 o0); exact ⟨by show cn 31 ≤ (cn36 31) ∧ (cn36 31) ≤ (cn36 32) ∧ (cn36 32) ≤ cn 32; omega, ⟨cl.length + 1, by omega, by rw [q198, nI_1]⟩, (by rw [hl9]; exact ZCL.s (e2.trans hl9) (by omega) hz_25 hz9_39 hcl q302 q303 q304 q198)⟩)⟩, by rw [ht]; exact hP, hD⟩, hS.F ht⟩) hS.2.2 dX5_readClause_97
    ·
      have tc_5 : (12 : Int) ≤ (nI cl.length).toInt := Int32.le_iff_toInt_le.mp (Int32.not_lt.mp c_5)
      refine lv_aload_n hx hb (oc_42 29 (aq_5 shX5_readClause_24)) rfl (lvA0 hl) ?_
      refine lv_iconst (v := 4) hx hb (oc_7 30 (aq_6 shX5_readClause_24)) kic_4 ?_
      have hFc := free_all hD hS hA
      refine va_callv (runV_xa (As := [.int 4]) (rest := []) S (q_Zfail l D cI cB cZ zz qq vv bt g ad cn In Fn 4 s.heap.size hB (by omega) (by omega) (by omega) (by omega)) kV_RX5_47 hK hXS hS hFc hP hD 3 xo_3 rfl rfl ⟨Nat.le_of_ble_eq_true rfl, Nat.le_of_ble_eq_true rfl⟩ ⟨Nat.le_of_ble_eq_true rfl, Nat.le_of_ble_eq_true rfl⟩ rfl hl.1 rfl (Nat.le_of_ble_eq_true rfl) (oc_182 31 (aq_7 shX5_readClause_24) uw_0_47)) hS (fun q _ h => hFc q h) hFc (fun u t H1 locs ht hvm wh_41 hB1 hz1 hk1 hS => ?_)
      obtain ⟨cn41, In41, Fn41⟩ := u
      obtain ⟨hP1, hD1⟩ := hB1
      rw [ht] at hP1
      have hP : va_P D vwCl (wX cI (D.1 99) zz g ad cn41 In41 Fn41) H1 := hP1
      have hD : va_D A (wX cI (D.1 99) zz g ad cn41 In41 Fn41) := hD1.weaken (fun _ _ _ h => hFc _ h)
      generalize H1 = H at hP hS ⊢
      have vh_41 : (fun c2 I2 F2 => Fr [32] [33] [] cn In Fn c2 I2 F2 ∧ CBX c2 ∧ ((c2 31 = (cn 31) ∧ (cn 31) ≤ c2 32 ∧ c2 32 ≤ (cn 32)) ∧ FLRv 4 cn In c2 I2)) cn41 In41 Fn41 := wh_41
      obtain ⟨hfc41, hIn41, h_41⟩ := vh_41
      obtain rfl : Fn = Fn41 := (funext (fun k => hfc41.2.2 k List.not_mem_nil)).symm
      have hf41 : Fr [31, 32] [33] [195, 198, 301, 302, 303, 304] cn In Fn cn41 In41 Fn := Fr.mo (Fr.tr (Fr.rf (cn := cn) (In := In) (Fn := Fn)) hfc41) (sbl rfl) (sbl rfl) (sbl rfl)
      replace hIn41 : CBXh cn41 := hIn41
      have : cn41 6 = (cn 6) := hfc41.1 6 (nml rfl)
      have : cn41 31 = (cn 31) := hfc41.1 31 (nml rfl)
      have hz_41 : ZS G (ad 4 1) N cn41 In41 Fn (resB (.ok (p0, o0) : ResT) (fErr 4)) := ZS.failv (k := 4) (by decide) (by decide) hN hz h_41.2
      obtain ⟨x_41, ex_41⟩ : ∃ y : ResT, y = resB (.ok (p0, o0) : ResT) (fErr 4) := ⟨_, rfl⟩
      rw [← ex_41] at hz_41
      exact W.vret hx hb hr (fun t ht hW => ⟨⟨(cn41, In41, Fn), rfl, ⟨(Fr.mo hf41 (sbl rfl) (sbl rfl) (sbl rfl)), hIn41, (by show (cn 31 ≤ cn41 31 ∧ cn41 31 ≤ cn41 32 ∧ cn41 32 ≤ cn 32) ∧ (∃ n : Nat, n ≤ 12 ∧ Fn 198 = upd (Fn 198) (ad 4 1) (nI n)) ∧ ZCL G (ad 4 1) N cn41 In41 Fn cl o0.length (clV bb N ld cl.length p0 o0); exact ⟨by show cn 31 ≤ (cn41 31) ∧ (cn41 31) ≤ (cn41 32) ∧ (cn41 32) ≤ cn 32; omega, ⟨cl.length, hc12, upd_id9 hcl.1⟩, by subst ex_41; have e1 : pk bb N p0 = pkS cn bb := ZS.pkx hz rfl; exact ZCL.er (clV_12 (e1.trans ((show pkS cn bb = In 30 by assumption).trans hld)) (by omega)) hz_41⟩)⟩, by rw [ht]; exact hP, hD⟩, hS.F ht⟩) hS.2.2 (oc_177 34 (aq_10 shX5_readClause_24))
  ·
    have tc_3 : ((pkS cn bb).toInt : Int) ≠ (In 30).toInt := fun q => c_3 (Int32.toInt_inj.mp q)
    refine lv_aload_n hx hb (oc_42 11 (aq_11 shX5_readClause_0)) rfl (lvA0 hl) ?_
    refine lv_iconst (v := 1) hx hb (oc_4 12 (aq_12 shX5_readClause_0)) kic_1 ?_
    have hFc := free_all hD hS hA
    refine va_callv (runV_xa (As := [.int 1]) (rest := []) S (q_Zfail l D cI cB cZ zz qq vv bt g ad cn In Fn 1 s.heap.size hB (by omega) (by omega) (by omega) (by omega)) kV_RX5_47 hK hXS hS hFc hP hD 3 xo_3 rfl rfl ⟨Nat.le_of_ble_eq_true rfl, Nat.le_of_ble_eq_true rfl⟩ ⟨Nat.le_of_ble_eq_true rfl, Nat.le_of_ble_eq_true rfl⟩ rfl hl.1 rfl (Nat.le_of_ble_eq_true rfl) (oc_182 13 (aq_13 shX5_readClause_0) uw_0_47)) hS (fun q _ h => hFc q h) hFc (fun u t H1 locs ht hvm wh_44 hB1 hz1 hk1 hS => ?_)
    obtain ⟨cn44, In44, Fn44⟩ := u
    obtain ⟨hP1, hD1⟩ := hB1
    rw [ht] at hP1
    have hP : va_P D vwCl (wX cI (D.1 99) zz g ad cn44 In44 Fn44) H1 := hP1
    have hD : va_D A (wX cI (D.1 99) zz g ad cn44 In44 Fn44) := hD1.weaken (fun _ _ _ h => hFc _ h)
    generalize H1 = H at hP hS ⊢
    have vh_44 : (fun c2 I2 F2 => Fr [32] [33] [] cn In Fn c2 I2 F2 ∧ CBX c2 ∧ ((c2 31 = (cn 31) ∧ (cn 31) ≤ c2 32 ∧ c2 32 ≤ (cn 32)) ∧ FLRv 1 cn In c2 I2)) cn44 In44 Fn44 := wh_44
    obtain ⟨hfc44, hIn44, h_44⟩ := vh_44
    obtain rfl : Fn = Fn44 := (funext (fun k => hfc44.2.2 k List.not_mem_nil)).symm
    have hf44 : Fr [31, 32] [33] [195, 198, 301, 302, 303, 304] cn In Fn cn44 In44 Fn := Fr.mo (Fr.tr (Fr.rf (cn := cn) (In := In) (Fn := Fn)) hfc44) (sbl rfl) (sbl rfl) (sbl rfl)
    replace hIn44 : CBXh cn44 := hIn44
    have : cn44 6 = (cn 6) := hfc44.1 6 (nml rfl)
    have : cn44 31 = (cn 31) := hfc44.1 31 (nml rfl)
    have hz_44 : ZS G (ad 4 1) N cn44 In44 Fn (resB (.ok (p0, o0) : ResT) (fErr 1)) := ZS.failv (k := 1) (by decide) (by decide) hN hz h_44.2
    obtain ⟨x_44, ex_44⟩ : ∃ y : ResT, y = resB (.ok (p0, o0) : ResT) (fErr 1) := ⟨_, rfl⟩
    rw [← ex_44] at hz_44
    exact W.vret hx hb hr (fun t ht hW => ⟨⟨(cn44, In44, Fn), rfl, ⟨(Fr.mo hf44 (sbl rfl) (sbl rfl) (sbl rfl)), hIn44, (by show (cn 31 ≤ cn44 31 ∧ cn44 31 ≤ cn44 32 ∧ cn44 32 ≤ cn 32) ∧ (∃ n : Nat, n ≤ 12 ∧ Fn 198 = upd (Fn 198) (ad 4 1) (nI n)) ∧ ZCL G (ad 4 1) N cn44 In44 Fn cl o0.length (clV bb N ld cl.length p0 o0); exact ⟨by show cn 31 ≤ (cn44 31) ∧ (cn44 31) ≤ (cn44 32) ∧ (cn44 32) ≤ cn 32; omega, ⟨cl.length, hc12, upd_id9 hcl.1⟩, by subst ex_44; have e1 : pk bb N p0 = pkS cn bb := ZS.pkx hz rfl; exact ZCL.er (clV_w (fun q9 => (show ¬ pkS cn bb = In 30 by assumption) (e1.symm.trans (q9.trans hld.symm)))) hz_44⟩)⟩, by rw [ht]; exact hP, hD⟩, hS.F ht⟩) hS.2.2 (oc_177 16 (aq_16 shX5_readClause_0))
set_option maxRecDepth 100000 in
set_option maxHeartbeats 4000000 in
theorem q_Zread (l : Launch) (D : va_G) (cI cB cZ : ClassId) (zz qq vv : Nat) (bt : Nat → Int32) (g : Nat → Nat) (ad : Nat → Nat → Nat) (cn : Nat → Nat) (In : Nat → Int32) (Fn : Nat → Nat → Int32) (n0 : Nat) (v1 : Int32) (bb : Nat → Int32) (sz : Nat) (hB : CBX cn) (h0 : 1 ≤ n0 ∧ n0 ≤ 160) (h8 : 0 ≤ v1.toInt) (hl2 : v1 = 112 ∨ v1 = 108) (heb : Fn 40 = bb) (hby : ∀ k : Nat, k < 160 → 0 ≤ (bb k).toInt ∧ (bb k).toInt ≤ 255) (hbt : BTL bt) (hT : (∀ k : Nat, k < cn 10 → ad 3 k < cn 6) ∧ ad 4 0 < cn 6 ∧ ad 4 1 < cn 6) (hC : ∀ k : Nat, k < cn 6 → ∃ n : Nat, n ≤ 12 ∧ Fn 198 k = nI n) (hL : ∀ k : Nat, k < cn 6 → (Fn 199 k).toInt ≤ 160) : Met l yX5_read (CWS yX5_read cX5_read 4 (some (.object "OilHome$Text"))) (RM 26 6 237) (PBx [.ref (g 6), .ref (g 5), .int (nI n0), .int v1] D cI cB cZ zz qq vv bt (wX cI (D.1 99) zz g ad cn In Fn) sz) (va_Qq (fun (r : Option Nat) (u : (Nat → Nat → Nat) × (Nat → Nat) × (Nat → Int32) × (Nat → Nat → Int32)) => (fun r a2 c2 I2 F2 => Fr [6, 31, 32] [30, 33] [195, 196, 197, 198, 199, 301, 302, 303, 304, 305] cn In Fn c2 I2 F2 ∧ CBX c2 ∧ r = some (a2 5 (a2 4 1)) ∧ c2 6 = cn 6 + 1 ∧ a2 4 1 = cn 6 ∧ (∀ i k : Nat, i ∉ [4, 5, 60, 61, 62, 63, 64] → a2 i k = ad i k) ∧ a2 4 0 = ad 4 0 ∧ (∀ k : Nat, k < c2 6 → ∃ n : Nat, n ≤ 12 ∧ F2 198 k = nI n) ∧ (∀ k : Nat, k < c2 6 → (F2 199 k).toInt ≤ 160) ∧ ZTE Fn bb n0 v1 (cn 6) I2 F2) r u.1 u.2.1 u.2.2.1 u.2.2.2) (fun (u : (Nat → Nat → Nat) × (Nat → Nat) × (Nat → Int32) × (Nat → Nat → Int32)) (t : State) => va_P D vwCl (wX cI (D.1 99) zz g u.1 u.2.1 u.2.2.1 u.2.2.2) t.heap ∧ va_D (va_A (wX cI (D.1 99) zz g ad cn In Fn) sz) (wX cI (D.1 99) zz g u.1 u.2.1 u.2.2.1 u.2.2.2)) (va_A (wX cI (D.1 99) zz g ad cn In Fn) sz)) 6 237 (va_A (wX cI (D.1 99) zz g ad cn In Fn) sz) := by
  refine en_x (fun A => (va_Qq (fun (r : Option Nat) (u : (Nat → Nat → Nat) × (Nat → Nat) × (Nat → Int32) × (Nat → Nat → Int32)) => (fun (r : Option Nat) (a2 : Nat → Nat → Nat) (c2 : Nat → Nat) (I2 : Nat → Int32) (F2 : Nat → Nat → Int32) => Fr [6, 31, 32] [30, 33] [195, 196, 197, 198, 199, 301, 302, 303, 304, 305] cn In Fn c2 I2 F2 ∧ CBX c2 ∧ r = some (a2 5 (a2 4 1)) ∧ c2 6 = cn 6 + 1 ∧ a2 4 1 = cn 6 ∧ (∀ i k : Nat, i ∉ [4, 5, 60, 61, 62, 63, 64] → a2 i k = ad i k) ∧ a2 4 0 = ad 4 0 ∧ (∀ k : Nat, k < c2 6 → ∃ n : Nat, n ≤ 12 ∧ F2 198 k = nI n) ∧ (∀ k : Nat, k < c2 6 → (F2 199 k).toInt ≤ 160) ∧ ZTE Fn bb n0 v1 (cn 6) I2 F2) r u.1 u.2.1 u.2.2.1 u.2.2.2) (fun (u : (Nat → Nat → Nat) × (Nat → Nat) × (Nat → Int32) × (Nat → Nat → Int32)) (t : State) => va_P D vwCl (wX cI (D.1 99) zz g u.1 u.2.1 u.2.2.1 u.2.2.2) t.heap ∧ va_D A (wX cI (D.1 99) zz g u.1 u.2.1 u.2.2.1 u.2.2.2)) A)) rfl rfl pn_RX5 (Nat.le_of_ble_eq_true rfl) (fun p e s m below meth c A hx hb hml hown S hr hlocks hnm hA hP hK hD hXS hS ls hl => ?_)
  have hl : lv_has ls 4 [(0, .ref (g 6)), (1, .ref (g 5)), (2, .int (nI n0)), (3, .int v1)] := hl
  refine lv_aload_n hx hb (oc_42 0 shX5_read_0) rfl (lvA0 hl) ?_
  refine lv_aload_n hx hb (oc_43 1 (aq_1 shX5_read_0)) rfl (lvA1 hl) ?_
  refine gf_RX5_24 S hK hP 1 xo_1 (v := .ref (g 40)) rfl (oc_180 2 (aq_2 shX5_read_0) uw_0_24) ?_
  refine pf_RX5_9 S hK hP hD hS 3 xo_3 (v := .ref (g 40)) (Nat.le_of_ble_eq_true rfl) rfl rfl (oc_181 5 (aq_5 shX5_read_0) uw_0_9) (fun H locs hP hD hS => ?_)
  have hP : va_P D vwCl (wX cI (D.1 99) zz g (adO ad 4 2 (g 40)) cn In Fn) H := va_P_eq xR42 hP
  have hD : va_D A (wX cI (D.1 99) zz g (adO ad 4 2 (g 40)) cn In Fn) := va_D_eq xR42 hD
  refine lv_aload_n hx hb (oc_42 8 (aq_8 shX5_read_0)) rfl (lvA0 hl) ?_
  refine va_new (ci := 10) (fs := [.null, .null, .null, .null, .null, .int 0, .int 0, .int 0, .int 0]) (C := RX9) (T := TX9) (N := 9) hx hb S.2.2.2.2 hin_RX9 tyX9 tyX9_ok hown (S.2.2.2.2 _ (wk1_7 11 rfl rfl)) (S.2.2.2.2 _ (wk1_3 0 rfl rfl)) (S.2.2.2.2 _ (wk1_0 2 rfl rfl)) hK.1 hP hD hS hA rfl (by decide +kernel) (Nat.le_of_ble_eq_true rfl) (Nat.le_of_ble_eq_true rfl) (oc_187 9 (aq_9 shX5_read_0) uw_0_15) (fun q9 H hP hD hS => ?_)
  have hP : va_P D vwCl ((wX cI (D.1 99) zz g (adO ad 4 2 (g 40)) cn In Fn) ++ ([(q9, .inr (10, [.null, .null, .null, .null, .null, .int 0, .int 0, .int 0, .int 0]))] : va_W)) H := hP
  have hD : va_D A ((wX cI (D.1 99) zz g (adO ad 4 2 (g 40)) cn In Fn) ++ ([(q9, .inr (10, [.null, .null, .null, .null, .null, .int 0, .int 0, .int 0, .int 0]))] : va_W)) := hD
  refine lv_dup hx hb (oc_89 12 (aq_12 shX5_read_0)) rfl ?_
  refine lv_iload_n hx hb (oc_28 13 (aq_13 shX5_read_0)) rfl (lvA2 hl) ?_
  have hFc := va_free (wc := [(q9, .inr (10, [.null, .null, .null, .null, .null, .int 0, .int 0, .int 0, .int 0]))]) hD hS hA [_] (one_im (exr (m := 0) rfl))
  refine va_callv (runI_w (As := [.int (nI n0)]) (rest := [.ref q9, .ref (g 6)]) S (q_l_TextN l D cI cB cZ q9 n0 H.size (by omega)) kI_RX5_17 hK hP hD [_] (one_is (exr (m := 0) rfl)) (one_im (exr (m := 0) rfl)) rfl ⟨Nat.le_of_ble_eq_true rfl, Nat.le_of_ble_eq_true rfl⟩ ⟨Nat.le_of_ble_eq_true rfl, Nat.le_of_ble_eq_true rfl⟩ rfl hl.1 rfl (Nat.le_of_ble_eq_true rfl) (oc_183 14 (aq_14 shX5_read_0) uw_0_17)) hS (fun q _ h => hFc q h) hFc (fun u_1 t H1 locs ht hvm h_2 hB1 hz1 hk1 hS => ?_)
  obtain ⟨hP1, hD1⟩ := hB1
  rw [ht] at hP1
  obtain ⟨hP, hD⟩ := exjoin hP hD hk1 hFc hP1 hD1
  generalize H1 = H at hP hS ⊢
  have hP : va_P D vwCl ((wX cI (D.1 99) zz g (adO ad 4 2 (g 40)) cn In Fn) ++ ([(q9, .inr (10, [.ref (u_1 0), .ref (u_1 1), .ref (u_1 2), .ref (u_1 3), .ref (u_1 4), .int 0, .int 0, .int 0, .int 0])), ((u_1 0), .inl (cI, n0, .inl (fun _ => 0))), ((u_1 1), .inl (cI, 12, .inl (fun _ => 0))), ((u_1 2), .inl (cI, 12, .inl (fun _ => 0))), ((u_1 3), .inl (cI, 12, .inl (fun _ => 0))), ((u_1 4), .inl (cI, 32, .inl (fun _ => 0)))] : va_W)) H := hP
  have hD : va_D A ((wX cI (D.1 99) zz g (adO ad 4 2 (g 40)) cn In Fn) ++ ([(q9, .inr (10, [.ref (u_1 0), .ref (u_1 1), .ref (u_1 2), .ref (u_1 3), .ref (u_1 4), .int 0, .int 0, .int 0, .int 0])), ((u_1 0), .inl (cI, n0, .inl (fun _ => 0))), ((u_1 1), .inl (cI, 12, .inl (fun _ => 0))), ((u_1 2), .inl (cI, 12, .inl (fun _ => 0))), ((u_1 3), .inl (cI, 12, .inl (fun _ => 0))), ((u_1 4), .inl (cI, 32, .inl (fun _ => 0)))] : va_W)) := hD
  refine pf_RX5_20 S hK hP hD hS _ (exl xo_3) (v := .ref q9) (Nat.le_of_ble_eq_true rfl) rfl rfl (oc_181 17 (aq_17 shX5_read_0) uw_0_20) (fun H locs hP hD hS => ?_)
  have hP : va_P D vwCl (wX cI (D.1 99) zz g (adO (adO (adO (adO (adO (adO (adO (adO ad 4 2 (g 40)) 5 (cn 6) q9) 60 (cn 6) (u_1 0)) 61 (cn 6) (u_1 1)) 62 (cn 6) (u_1 2)) 63 (cn 6) (u_1 3)) 64 (cn 6) (u_1 4)) 4 1 (cn 6)) (va_up cn 6 (cn 6 + 1)) In (va_up (va_up (va_up (va_up (va_up (va_up (va_up (va_up (va_up (va_up Fn 195 (upd (Fn 195) (cn 6) 0)) 196 (upd (Fn 196) (cn 6) 0)) 197 (upd (Fn 197) (cn 6) 0)) 198 (upd (Fn 198) (cn 6) 0)) 199 (upd (Fn 199) (cn 6) (nI n0))) 301 (flat (Fn 301) 200 (cn 6) (fun _ => 0))) 302 (flat (Fn 302) 12 (cn 6) (fun _ => 0))) 303 (flat (Fn 303) 12 (cn 6) (fun _ => 0))) 304 (flat (Fn 304) 12 (cn 6) (fun _ => 0))) 305 (flat (Fn 305) 32 (cn 6) (fun _ => 0)))) H := va_P_perm (xaddT (ad := (adO ad 4 2 (g 40))) (qt := q9) (r0 := (u_1 0)) (r1 := (u_1 1)) (r2 := (u_1 2)) (r3 := (u_1 3)) (r4 := (u_1 4)) (n := n0) (fun k hk => by simpa [adO] using hT.1 k hk) (by simpa [adO] using hT.2.1) (by rw [nI_toInt (by omega)]; rfl)) (va_P_eq (exs_l xo_3 rfl) hP)
  have hD : va_D A (wX cI (D.1 99) zz g (adO (adO (adO (adO (adO (adO (adO (adO ad 4 2 (g 40)) 5 (cn 6) q9) 60 (cn 6) (u_1 0)) 61 (cn 6) (u_1 1)) 62 (cn 6) (u_1 2)) 63 (cn 6) (u_1 3)) 64 (cn 6) (u_1 4)) 4 1 (cn 6)) (va_up cn 6 (cn 6 + 1)) In (va_up (va_up (va_up (va_up (va_up (va_up (va_up (va_up (va_up (va_up Fn 195 (upd (Fn 195) (cn 6) 0)) 196 (upd (Fn 196) (cn 6) 0)) 197 (upd (Fn 197) (cn 6) 0)) 198 (upd (Fn 198) (cn 6) 0)) 199 (upd (Fn 199) (cn 6) (nI n0))) 301 (flat (Fn 301) 200 (cn 6) (fun _ => 0))) 302 (flat (Fn 302) 12 (cn 6) (fun _ => 0))) 303 (flat (Fn 303) 12 (cn 6) (fun _ => 0))) 304 (flat (Fn 304) 12 (cn 6) (fun _ => 0))) 305 (flat (Fn 305) 32 (cn 6) (fun _ => 0)))) := va_D_perm (xaddT (ad := (adO ad 4 2 (g 40))) (qt := q9) (r0 := (u_1 0)) (r1 := (u_1 1)) (r2 := (u_1 2)) (r3 := (u_1 3)) (r4 := (u_1 4)) (n := n0) (fun k hk => by simpa [adO] using hT.1 k hk) (by simpa [adO] using hT.2.1) (by rw [nI_toInt (by omega)]; rfl)) (va_D_eq (exs_l xo_3 rfl) hD)
  obtain ⟨a9, ha9⟩ : ∃ a : Nat → Nat → Nat, a = (adO (adO (adO (adO (adO (adO (adO (adO ad 4 2 (g 40)) 5 (cn 6) q9) 60 (cn 6) (u_1 0)) 61 (cn 6) (u_1 1)) 62 (cn 6) (u_1 2)) 63 (cn 6) (u_1 3)) 64 (cn 6) (u_1 4)) 4 1 (cn 6)) := ⟨_, rfl⟩
  rw [← ha9] at hP hD
  have hR : a9 4 2 = g 40 := by rw [ha9]; simp [adO]
  have h41 : a9 4 1 = cn 6 := by rw [ha9]; simp [adO]
  have h40 : a9 4 0 = ad 4 0 := by rw [ha9]; simp [adO]
  have h43 : ∀ k : Nat, a9 3 k = ad 3 k := fun k => by rw [ha9]; simp [adO]
  have hfa : ∀ i k : Nat, i ∉ [4, 5, 60, 61, 62, 63, 64] → a9 i k = ad i k := fun i k hi => by
    simp only [List.mem_cons, List.not_mem_nil, or_false, not_or] at hi
    rw [ha9]; simp [adO, hi]
  refine lv_aload_n hx hb (oc_42 20 (aq_20 shX5_read_0)) rfl (lvA0 hl) ?_
  refine lv_iload_n hx hb (oc_29 21 (aq_21 shX5_read_0)) rfl (lvA3 hl) ?_
  refine pf_RX5_27 S hK hP hD hS 3 xo_3 (v := .int v1) (Nat.le_of_ble_eq_true rfl) rfl rfl (oc_181 22 (aq_22 shX5_read_0) uw_0_27) (fun H locs hP hD hS => ?_)
  have hP : va_P D vwCl (wX cI (D.1 99) zz g a9 (va_up cn 6 (cn 6 + 1)) (va_up In 30 v1) (va_up (va_up (va_up (va_up (va_up (va_up (va_up (va_up (va_up (va_up Fn 195 (upd (Fn 195) (cn 6) 0)) 196 (upd (Fn 196) (cn 6) 0)) 197 (upd (Fn 197) (cn 6) 0)) 198 (upd (Fn 198) (cn 6) 0)) 199 (upd (Fn 199) (cn 6) (nI n0))) 301 (flat (Fn 301) 200 (cn 6) (fun _ => 0))) 302 (flat (Fn 302) 12 (cn 6) (fun _ => 0))) 303 (flat (Fn 303) 12 (cn 6) (fun _ => 0))) 304 (flat (Fn 304) 12 (cn 6) (fun _ => 0))) 305 (flat (Fn 305) 32 (cn 6) (fun _ => 0)))) H := va_P_eq xsf_3_2 hP
  have hD : va_D A (wX cI (D.1 99) zz g a9 (va_up cn 6 (cn 6 + 1)) (va_up In 30 v1) (va_up (va_up (va_up (va_up (va_up (va_up (va_up (va_up (va_up (va_up Fn 195 (upd (Fn 195) (cn 6) 0)) 196 (upd (Fn 196) (cn 6) 0)) 197 (upd (Fn 197) (cn 6) 0)) 198 (upd (Fn 198) (cn 6) 0)) 199 (upd (Fn 199) (cn 6) (nI n0))) 301 (flat (Fn 301) 200 (cn 6) (fun _ => 0))) 302 (flat (Fn 302) 12 (cn 6) (fun _ => 0))) 303 (flat (Fn 303) 12 (cn 6) (fun _ => 0))) 304 (flat (Fn 304) 12 (cn 6) (fun _ => 0))) 305 (flat (Fn 305) 32 (cn 6) (fun _ => 0)))) := va_D_eq xsf_3_2 hD
  refine lv_aload_n hx hb (oc_42 25 shX5_read_25) rfl (lvA0 hl) ?_
  refine lv_iconst (v := 0) hx hb (oc_3 26 (aq_1 shX5_read_25)) kic_0 ?_
  refine pf_RX5_31 S hK hP hD hS 3 xo_3 (v := .int 0) (Nat.le_of_ble_eq_true rfl) rfl rfl (oc_181 27 (aq_2 shX5_read_25) uw_0_31) (fun H locs hP hD hS => ?_)
  have hP : va_P D vwCl (wX cI (D.1 99) zz g a9 (va_up (va_up cn 6 (cn 6 + 1)) 31 0) (va_up In 30 v1) (va_up (va_up (va_up (va_up (va_up (va_up (va_up (va_up (va_up (va_up Fn 195 (upd (Fn 195) (cn 6) 0)) 196 (upd (Fn 196) (cn 6) 0)) 197 (upd (Fn 197) (cn 6) 0)) 198 (upd (Fn 198) (cn 6) 0)) 199 (upd (Fn 199) (cn 6) (nI n0))) 301 (flat (Fn 301) 200 (cn 6) (fun _ => 0))) 302 (flat (Fn 302) 12 (cn 6) (fun _ => 0))) 303 (flat (Fn 303) 12 (cn 6) (fun _ => 0))) 304 (flat (Fn 304) 12 (cn 6) (fun _ => 0))) 305 (flat (Fn 305) 32 (cn 6) (fun _ => 0)))) H := va_P_eq xsf_3_3 hP
  have hD : va_D A (wX cI (D.1 99) zz g a9 (va_up (va_up cn 6 (cn 6 + 1)) 31 0) (va_up In 30 v1) (va_up (va_up (va_up (va_up (va_up (va_up (va_up (va_up (va_up (va_up Fn 195 (upd (Fn 195) (cn 6) 0)) 196 (upd (Fn 196) (cn 6) 0)) 197 (upd (Fn 197) (cn 6) 0)) 198 (upd (Fn 198) (cn 6) 0)) 199 (upd (Fn 199) (cn 6) (nI n0))) 301 (flat (Fn 301) 200 (cn 6) (fun _ => 0))) 302 (flat (Fn 302) 12 (cn 6) (fun _ => 0))) 303 (flat (Fn 303) 12 (cn 6) (fun _ => 0))) 304 (flat (Fn 304) 12 (cn 6) (fun _ => 0))) 305 (flat (Fn 305) 32 (cn 6) (fun _ => 0)))) := va_D_eq xsf_3_3 hD
  refine lv_aload_n hx hb (oc_42 30 (aq_5 shX5_read_25)) rfl (lvA0 hl) ?_
  refine lv_iload_n hx hb (oc_28 31 (aq_6 shX5_read_25)) rfl (lvA2 hl) ?_
  refine pf_RX5_34 S hK hP hD hS 3 xo_3 (v := .int (nI n0)) (Nat.le_of_ble_eq_true rfl) rfl rfl (oc_181 32 (aq_7 shX5_read_25) uw_0_34) (fun H locs hP hD hS => ?_)
  have hP : va_P D vwCl (wX cI (D.1 99) zz g a9 (va_up (va_up (va_up cn 6 (cn 6 + 1)) 31 0) 32 n0) (va_up In 30 v1) (va_up (va_up (va_up (va_up (va_up (va_up (va_up (va_up (va_up (va_up Fn 195 (upd (Fn 195) (cn 6) 0)) 196 (upd (Fn 196) (cn 6) 0)) 197 (upd (Fn 197) (cn 6) 0)) 198 (upd (Fn 198) (cn 6) 0)) 199 (upd (Fn 199) (cn 6) (nI n0))) 301 (flat (Fn 301) 200 (cn 6) (fun _ => 0))) 302 (flat (Fn 302) 12 (cn 6) (fun _ => 0))) 303 (flat (Fn 303) 12 (cn 6) (fun _ => 0))) 304 (flat (Fn 304) 12 (cn 6) (fun _ => 0))) 305 (flat (Fn 305) 32 (cn 6) (fun _ => 0)))) H := va_P_eq xsf_3_4 hP
  have hD : va_D A (wX cI (D.1 99) zz g a9 (va_up (va_up (va_up cn 6 (cn 6 + 1)) 31 0) 32 n0) (va_up In 30 v1) (va_up (va_up (va_up (va_up (va_up (va_up (va_up (va_up (va_up (va_up Fn 195 (upd (Fn 195) (cn 6) 0)) 196 (upd (Fn 196) (cn 6) 0)) 197 (upd (Fn 197) (cn 6) 0)) 198 (upd (Fn 198) (cn 6) 0)) 199 (upd (Fn 199) (cn 6) (nI n0))) 301 (flat (Fn 301) 200 (cn 6) (fun _ => 0))) 302 (flat (Fn 302) 12 (cn 6) (fun _ => 0))) 303 (flat (Fn 303) 12 (cn 6) (fun _ => 0))) 304 (flat (Fn 304) 12 (cn 6) (fun _ => 0))) 305 (flat (Fn 305) 32 (cn 6) (fun _ => 0)))) := va_D_eq xsf_3_4 hD
  refine lv_aload_n hx hb (oc_42 35 (aq_10 shX5_read_25)) rfl (lvA0 hl) ?_
  refine lv_iconst (v := 0) hx hb (oc_3 36 (aq_11 shX5_read_25)) kic_0 ?_
  refine pf_RX5_37 S hK hP hD hS 3 xo_3 (v := .int 0) (Nat.le_of_ble_eq_true rfl) rfl rfl (oc_181 37 (aq_12 shX5_read_25) uw_0_37) (fun H locs hP hD hS => ?_)
  have hP : va_P D vwCl (wX cI (D.1 99) zz g a9 (va_up (va_up (va_up cn 6 (cn 6 + 1)) 31 0) 32 n0) (va_up (va_up In 30 v1) 33 0) (va_up (va_up (va_up (va_up (va_up (va_up (va_up (va_up (va_up (va_up Fn 195 (upd (Fn 195) (cn 6) 0)) 196 (upd (Fn 196) (cn 6) 0)) 197 (upd (Fn 197) (cn 6) 0)) 198 (upd (Fn 198) (cn 6) 0)) 199 (upd (Fn 199) (cn 6) (nI n0))) 301 (flat (Fn 301) 200 (cn 6) (fun _ => 0))) 302 (flat (Fn 302) 12 (cn 6) (fun _ => 0))) 303 (flat (Fn 303) 12 (cn 6) (fun _ => 0))) 304 (flat (Fn 304) 12 (cn 6) (fun _ => 0))) 305 (flat (Fn 305) 32 (cn 6) (fun _ => 0)))) H := va_P_eq xsf_3_5 hP
  have hD : va_D A (wX cI (D.1 99) zz g a9 (va_up (va_up (va_up cn 6 (cn 6 + 1)) 31 0) 32 n0) (va_up (va_up In 30 v1) 33 0) (va_up (va_up (va_up (va_up (va_up (va_up (va_up (va_up (va_up (va_up Fn 195 (upd (Fn 195) (cn 6) 0)) 196 (upd (Fn 196) (cn 6) 0)) 197 (upd (Fn 197) (cn 6) 0)) 198 (upd (Fn 198) (cn 6) 0)) 199 (upd (Fn 199) (cn 6) (nI n0))) 301 (flat (Fn 301) 200 (cn 6) (fun _ => 0))) 302 (flat (Fn 302) 12 (cn 6) (fun _ => 0))) 303 (flat (Fn 303) 12 (cn 6) (fun _ => 0))) 304 (flat (Fn 304) 12 (cn 6) (fun _ => 0))) 305 (flat (Fn 305) 32 (cn 6) (fun _ => 0)))) := va_D_eq xsf_3_5 hD
  refine lv_aload_n hx hb (oc_42 40 (aq_15 shX5_read_25)) rfl (lvA0 hl) ?_
  have hFc := free_all hD hS hA
  refine va_callv (runV_xa (As := []) (rest := []) S (q_ZreadClause l D cI cB cZ zz qq vv bt g a9 (va_up (va_up (va_up cn 6 (cn 6 + 1)) 31 0) 32 n0) (va_up (va_up In 30 v1) 33 0) (va_up (va_up (va_up (va_up (va_up (va_up (va_up (va_up (va_up (va_up Fn 195 (upd (Fn 195) (cn 6) 0)) 196 (upd (Fn 196) (cn 6) 0)) 197 (upd (Fn 197) (cn 6) 0)) 198 (upd (Fn 198) (cn 6) 0)) 199 (upd (Fn 199) (cn 6) (nI n0))) 301 (flat (Fn 301) 200 (cn 6) (fun _ => 0))) 302 (flat (Fn 302) 12 (cn 6) (fun _ => 0))) 303 (flat (Fn 303) 12 (cn 6) (fun _ => 0))) 304 (flat (Fn 304) 12 (cn 6) (fun _ => 0))) 305 (flat (Fn 305) 32 (cn 6) (fun _ => 0))) Fn bb n0 0 ([]) ([]) v1 H.size (CBX.n (k := 32) (v := n0) (CBX.n (k := 31) (v := 0) (CBX.n (k := 6) (v := (cn 6 + 1)) hB (by decide)) (by decide)) (by decide)) (show a9 4 2 = g 40 by omega) (show a9 4 1 < (cn 6 + 1) by omega) (show 0 ≤ n0 by omega) (show n0 ≤ 160 by omega) (by show (upd (Fn 199) (cn 6) (nI n0) (a9 4 1)).toInt ≤ 160; rw [h41, upd_self, nI_toInt (by omega)]; omega) (by show upd (Fn 199) (cn 6) (nI n0) (a9 4 1) = nI n0; rw [h41, upd_self]) (by omega) heb hby (by rw [h41]; exact ⟨⟨rfl, rfl, rfl, Nat.zero_le _, ⟨upd_self _ _ _, fun i z hi => by (rw [List.getElem?_nil] at hi; cases hi)⟩, Nat.le_refl _⟩, KPT.of (Or.inr ⟨0, rfl⟩) (Or.inr ⟨0, rfl⟩) (Or.inr ⟨fun _ => 0, rfl⟩) (Or.inr ⟨fun _ => 0, rfl⟩) (Or.inr ⟨fun _ => 0, rfl⟩) (Or.inr ⟨fun _ => 0, rfl⟩)⟩) (by rw [h41]; exact ⟨upd_self _ _ _, fun i z hi => by (rw [List.getElem?_nil] at hi; cases hi)⟩) (by decide) rfl h8 hl2 hbt) kV_RX5_40 hK hXS hS hFc hP hD 3 xo_3 rfl rfl ⟨Nat.le_of_ble_eq_true rfl, Nat.le_of_ble_eq_true rfl⟩ ⟨Nat.le_of_ble_eq_true rfl, Nat.le_of_ble_eq_true rfl⟩ rfl hl.1 rfl (Nat.le_of_ble_eq_true rfl) (oc_182 41 (aq_16 shX5_read_25) uw_0_40)) hS (fun q _ h => hFc q h) hFc (fun u t H1 locs ht hvm wh_4 hB1 hz1 hk1 hS => ?_)
  obtain ⟨cn4, In4, Fn4⟩ := u
  obtain ⟨hP1, hD1⟩ := hB1
  rw [ht] at hP1
  have hP : va_P D vwCl (wX cI (D.1 99) zz g a9 cn4 In4 Fn4) H1 := hP1
  have hD : va_D A (wX cI (D.1 99) zz g a9 cn4 In4 Fn4) := hD1.weaken (fun _ _ _ h => hFc _ h)
  generalize H1 = H at hP hS ⊢
  have vh_4 : (fun c2 I2 F2 => Fr [31, 32] [33] [195, 198, 301, 302, 303, 304] (va_up (va_up (va_up cn 6 (cn 6 + 1)) 31 0) 32 n0) (va_up (va_up In 30 v1) 33 0) (va_up (va_up (va_up (va_up (va_up (va_up (va_up (va_up (va_up (va_up Fn 195 (upd (Fn 195) (cn 6) 0)) 196 (upd (Fn 196) (cn 6) 0)) 197 (upd (Fn 197) (cn 6) 0)) 198 (upd (Fn 198) (cn 6) 0)) 199 (upd (Fn 199) (cn 6) (nI n0))) 301 (flat (Fn 301) 200 (cn 6) (fun _ => 0))) 302 (flat (Fn 302) 12 (cn 6) (fun _ => 0))) 303 (flat (Fn 303) 12 (cn 6) (fun _ => 0))) 304 (flat (Fn 304) 12 (cn 6) (fun _ => 0))) 305 (flat (Fn 305) 32 (cn 6) (fun _ => 0))) c2 I2 F2 ∧ CBX c2 ∧ ((0 ≤ c2 31 ∧ c2 31 ≤ c2 32 ∧ c2 32 ≤ n0) ∧ (∃ n : Nat, n ≤ 12 ∧ F2 198 = upd ((upd (Fn 198) (cn 6) 0)) (a9 4 1) (nI n)) ∧ ZCL Fn (a9 4 1) n0 c2 I2 F2 ([]) ([]).length (clV bb n0 v1 ([]).length 0 ([])))) cn4 In4 Fn4 := wh_4
  obtain ⟨hfc4, hIn4, h_4⟩ := vh_4
  have hf4 : Fr [6, 31, 32] [30, 33] [195, 196, 197, 198, 199, 301, 302, 303, 304, 305] cn In Fn cn4 In4 Fn4 := Fr.mo (Fr.tr (Fr.f 305 (Fr.f 304 (Fr.f 303 (Fr.f 302 (Fr.f 301 (Fr.f 199 (Fr.f 198 (Fr.f 197 (Fr.f 196 (Fr.f 195 (Fr.i 33 (Fr.i 30 (Fr.c 32 (Fr.c 31 (Fr.c 6 (Fr.rf (cn := cn) (In := In) (Fn := Fn))))))))))))))))) hfc4) (sbl rfl) (sbl rfl) (sbl rfl)
  have hTI30_4 : In4 30 = v1 := hfc4.2.1 30 (nml rfl)
  have hT199_4 : Fn4 199 = (upd (Fn 199) (cn 6) (nI n0)) := hfc4.2.2 199 (nml rfl)
  have : cn4 0 = (cn 0) := hfc4.1 0 (nml rfl)
  have : cn4 1 = (cn 1) := hfc4.1 1 (nml rfl)
  have : cn4 2 = (cn 2) := hfc4.1 2 (nml rfl)
  have : cn4 3 = (cn 3) := hfc4.1 3 (nml rfl)
  have : cn4 4 = (cn 4) := hfc4.1 4 (nml rfl)
  have : cn4 5 = (cn 5) := hfc4.1 5 (nml rfl)
  have : cn4 10 = (cn 10) := hfc4.1 10 (nml rfl)
  have : cn4 11 = (cn 11) := hfc4.1 11 (nml rfl)
  have : cn4 12 = (cn 12) := hfc4.1 12 (nml rfl)
  have : cn4 13 = (cn 13) := hfc4.1 13 (nml rfl)
  have : cn4 14 = (cn 14) := hfc4.1 14 (nml rfl)
  have : cn4 15 = (cn 15) := hfc4.1 15 (nml rfl)
  have : cn4 20 = (cn 20) := hfc4.1 20 (nml rfl)
  have : cn4 21 = (cn 21) := hfc4.1 21 (nml rfl)
  have : cn4 22 = (cn 22) := hfc4.1 22 (nml rfl)
  have : cn4 23 = (cn 23) := hfc4.1 23 (nml rfl)
  have : cn4 24 = (cn 24) := hfc4.1 24 (nml rfl)
  have : cn4 25 = (cn 25) := hfc4.1 25 (nml rfl)
  have : cn4 6 = (cn 6 + 1) := hfc4.1 6 (nml rfl)
  obtain ⟨h_4, ⟨n8, hn8, e8⟩, hZ8⟩ := h_4
  rw [h41] at hZ8
  have lp_44 : ∀ (n : Nat)  (c44 : Nat → Nat) (I44 : Nat → Int32) (F44 : Nat → Nat → Int32) (H : Heap) (locs : List Loc) , c44 32 - c44 31 < n → (Fr [6, 31, 32] [30, 33] [195, 196, 197, 198, 199, 301, 302, 303, 304, 305] cn In Fn c44 I44 F44 ∧ CBX c44 ∧ (c44 31 ≤ c44 32 ∧ c44 32 ≤ n0 ∧ c44 6 = cn 6 + 1) ∧ (I44 30 = v1) ∧ (F44 199 = upd (Fn 199) (cn 6) (nI n0)) ∧ (∃ n : Nat, n ≤ 12 ∧ F44 198 = upd (Fn 198) (cn 6) (nI n)) ∧ (ZTX Fn bb n0 v1 (cn 6) c44 I44 F44)) → va_P D vwCl (wX cI (D.1 99) zz g a9 c44 I44 F44) H → va_D A (wX cI (D.1 99) zz g a9 c44 I44 F44) → va_S A s.heap H locs → ∀ ls : Array Slot, lv_has ls 4 [(0, .ref (g 6)), (1, .ref (g 5)), (2, .int (nI n0)), (3, .int v1)] → W p l e (RM 26 6 237) s m ([.ref (g 6), .ref (g 5), .int (nI n0), .int v1]).toArray below meth c H locs 6 237 (MQ below (va_Qq (fun (r : Option Nat) (u : (Nat → Nat → Nat) × (Nat → Nat) × (Nat → Int32) × (Nat → Nat → Int32)) => (fun r a2 c2 I2 F2 => Fr [6, 31, 32] [30, 33] [195, 196, 197, 198, 199, 301, 302, 303, 304, 305] cn In Fn c2 I2 F2 ∧ CBX c2 ∧ r = some (a2 5 (a2 4 1)) ∧ c2 6 = cn 6 + 1 ∧ a2 4 1 = cn 6 ∧ (∀ i k : Nat, i ∉ [4, 5, 60, 61, 62, 63, 64] → a2 i k = ad i k) ∧ a2 4 0 = ad 4 0 ∧ (∀ k : Nat, k < c2 6 → ∃ n : Nat, n ≤ 12 ∧ F2 198 k = nI n) ∧ (∀ k : Nat, k < c2 6 → (F2 199 k).toInt ≤ 160) ∧ ZTE Fn bb n0 v1 (cn 6) I2 F2) r u.1 u.2.1 u.2.2.1 u.2.2.2) (fun (u : (Nat → Nat → Nat) × (Nat → Nat) × (Nat → Int32) × (Nat → Nat → Int32)) (t : State) => va_P D vwCl (wX cI (D.1 99) zz g u.1 u.2.1 u.2.2.1 u.2.2.2) t.heap ∧ va_D A (wX cI (D.1 99) zz g u.1 u.2.1 u.2.2.1 u.2.2.2)) A) ([.ref (g 6), .ref (g 5), .int (nI n0), .int v1]).toArray s 6 237 A) (F0 m 44 ls []) := by
    intro n44
    induction n44 with
    | zero => intros; omega
    | succ n44 ih44 =>
      intro  c44 I44 F44 H locs hmu44 hinv44 hP hD hS ls hl
      obtain ⟨hfr44, hI44, hx44_0, hx44_1, hx44_2, hx44_3, hx44_4⟩ := hinv44
      have : c44 0 = cn 0 := hfr44.1 0 (nml rfl)
      have : c44 1 = cn 1 := hfr44.1 1 (nml rfl)
      have : c44 2 = cn 2 := hfr44.1 2 (nml rfl)
      have : c44 3 = cn 3 := hfr44.1 3 (nml rfl)
      have : c44 4 = cn 4 := hfr44.1 4 (nml rfl)
      have : c44 5 = cn 5 := hfr44.1 5 (nml rfl)
      have : c44 10 = cn 10 := hfr44.1 10 (nml rfl)
      have : c44 11 = cn 11 := hfr44.1 11 (nml rfl)
      have : c44 12 = cn 12 := hfr44.1 12 (nml rfl)
      have : c44 13 = cn 13 := hfr44.1 13 (nml rfl)
      have : c44 14 = cn 14 := hfr44.1 14 (nml rfl)
      have : c44 15 = cn 15 := hfr44.1 15 (nml rfl)
      have : c44 20 = cn 20 := hfr44.1 20 (nml rfl)
      have : c44 21 = cn 21 := hfr44.1 21 (nml rfl)
      have : c44 22 = cn 22 := hfr44.1 22 (nml rfl)
      have : c44 23 = cn 23 := hfr44.1 23 (nml rfl)
      have : c44 24 = cn 24 := hfr44.1 24 (nml rfl)
      have : c44 25 = cn 25 := hfr44.1 25 (nml rfl)
      obtain ⟨n9, hn9, e9⟩ := hx44_3
      refine lv_aload_n hx hb (oc_42 44 (aq_19 shX5_read_25)) rfl (lvA0 hl) ?_
      refine gf_RX5_31 S hK hP 3 xo_3 (v := .int (nI (c44 31))) rfl (oc_180 45 (aq_20 shX5_read_25) uw_0_31) ?_
      refine lv_aload_n hx hb (oc_42 48 (aq_23 shX5_read_25)) rfl (lvA0 hl) ?_
      refine gf_RX5_34 S hK hP 3 xo_3 (v := .int (nI (c44 32))) rfl (oc_180 49 shX5_read_49 uw_0_34) ?_
      have : (nI (c44 31)).toInt = (((c44 31) : Nat) : Int) := nI_toInt (by omega)
      have : (nI (c44 32)).toInt = (((c44 32) : Nat) : Int) := nI_toInt (by omega)
      refine lv_icmp_ge (tgt := 81) hx hb (oc_162 52 (aq_3 shX5_read_49) sgw_0_29) rfl (fun c_5 => ?_) (fun c_5 => ?_)
      ·
        have tc_5 : ((nI (c44 32)).toInt : Int) ≤ (nI (c44 31)).toInt := Int32.le_iff_toInt_le.mp c_5
        refine lv_aload_n hx hb dX5_read_81 rfl (lvA0 hl) ?_
        refine gf_RX5_31 S hK hP 3 xo_3 (v := .int (nI (c44 31))) rfl dX5_read_82 ?_
        refine lv_aload_n hx hb dX5_read_85 rfl (lvA0 hl) ?_
        refine gf_RX5_34 S hK hP 3 xo_3 (v := .int (nI (c44 32))) rfl dX5_read_86 ?_
        refine lv_icmp_ge (tgt := 97) hx hb dX5_read_89 rfl (fun c_6 => ?_) (fun c_6 => ?_)
        ·
          have tc_6 : ((nI (c44 32)).toInt : Int) ≤ (nI (c44 31)).toInt := Int32.le_iff_toInt_le.mp c_6
          have hE9 : ZTE Fn bb n0 v1 (cn 6) I44 F44 := ZTX.fin hx44_4 (by omega) (by omega) hx44_2
          refine lv_aload_n hx hb dX5_read_97 rfl (lvA0 hl) ?_
          refine gf_RX5_20 S hK hP 3 xo_3 (v := .ref (a9 5 (a9 4 1))) rfl dX5_read_98 ?_
          exact W.aret (v := .ref (a9 5 (a9 4 1))) hx hb hr (Or.inl ⟨_, rfl⟩) (Or.inr ⟨_, rfl⟩) (fun t ht hW => ⟨⟨some (a9 5 (a9 4 1)), (a9, c44, I44, F44), rfl, ⟨(Fr.mo hfr44 (sbl rfl) (sbl rfl) (sbl rfl)), hI44, rfl, (by show (c44 6) = cn 6 + 1; omega), h41, hfa, h40, xtc_new hC (by show (c44 6) = cn 6 + 1; omega) hn9 e9, xsl_new hL (by show (c44 6) = cn 6 + 1; omega) (by omega) hx44_2, hE9⟩, by rw [ht]; exact hP, hD⟩, hS.F ht⟩) hS.2.2 dX5_read_101
        ·
          have tc_6 : ((nI (c44 31)).toInt : Int) < (nI (c44 32)).toInt := Int32.lt_iff_toInt_lt.mp (Int32.not_le.mp c_6)
          refine lv_aload_n hx hb dX5_read_92 rfl (lvA0 hl) ?_
          refine lv_iconst (v := 1) hx hb dX5_read_93 kic_1 ?_
          have hFc := free_all hD hS hA
          refine va_callv (runV_xa (As := [.int 1]) (rest := []) S (q_Zfail l D cI cB cZ zz qq vv bt g a9 c44 I44 F44 1 H.size hI44 (by omega) (by omega) (by omega) (by omega)) kV_RX5_47 hK hXS hS hFc hP hD 3 xo_3 rfl rfl ⟨Nat.le_of_ble_eq_true rfl, Nat.le_of_ble_eq_true rfl⟩ ⟨Nat.le_of_ble_eq_true rfl, Nat.le_of_ble_eq_true rfl⟩ rfl hl.1 rfl (Nat.le_of_ble_eq_true rfl) dX5_read_94) hS (fun q _ h => hFc q h) hFc (fun u t H1 locs ht hvm wh_8 hB1 hz1 hk1 hS => ?_)
          obtain ⟨cn8, In8, Fn8⟩ := u
          obtain ⟨hP1, hD1⟩ := hB1
          rw [ht] at hP1
          have hP : va_P D vwCl (wX cI (D.1 99) zz g a9 cn8 In8 Fn8) H1 := hP1
          have hD : va_D A (wX cI (D.1 99) zz g a9 cn8 In8 Fn8) := hD1.weaken (fun _ _ _ h => hFc _ h)
          generalize H1 = H at hP hS ⊢
          have vh_8 : (fun c2 I2 F2 => Fr [32] [33] [] c44 I44 F44 c2 I2 F2 ∧ CBX c2 ∧ ((c2 31 = (c44 31) ∧ (c44 31) ≤ c2 32 ∧ c2 32 ≤ (c44 32)) ∧ FLRv 1 c44 I44 c2 I2)) cn8 In8 Fn8 := wh_8
          obtain ⟨hfc8, hIn8, h_8⟩ := vh_8
          obtain rfl : F44 = Fn8 := (funext (fun k => hfc8.2.2 k List.not_mem_nil)).symm
          have hf8 : Fr [6, 31, 32] [30, 33] [195, 196, 197, 198, 199, 301, 302, 303, 304, 305] cn In Fn cn8 In8 F44 := Fr.mo (Fr.tr hfr44 hfc8) (sbl rfl) (sbl rfl) (sbl rfl)
          have hTI30_8 : In8 30 = (I44 30) := hfc8.2.1 30 (nml rfl)
          have : cn8 0 = (c44 0) := hfc8.1 0 (nml rfl)
          have : cn8 1 = (c44 1) := hfc8.1 1 (nml rfl)
          have : cn8 2 = (c44 2) := hfc8.1 2 (nml rfl)
          have : cn8 3 = (c44 3) := hfc8.1 3 (nml rfl)
          have : cn8 4 = (c44 4) := hfc8.1 4 (nml rfl)
          have : cn8 5 = (c44 5) := hfc8.1 5 (nml rfl)
          have : cn8 10 = (c44 10) := hfc8.1 10 (nml rfl)
          have : cn8 11 = (c44 11) := hfc8.1 11 (nml rfl)
          have : cn8 12 = (c44 12) := hfc8.1 12 (nml rfl)
          have : cn8 13 = (c44 13) := hfc8.1 13 (nml rfl)
          have : cn8 14 = (c44 14) := hfc8.1 14 (nml rfl)
          have : cn8 15 = (c44 15) := hfc8.1 15 (nml rfl)
          have : cn8 20 = (c44 20) := hfc8.1 20 (nml rfl)
          have : cn8 21 = (c44 21) := hfc8.1 21 (nml rfl)
          have : cn8 22 = (c44 22) := hfc8.1 22 (nml rfl)
          have : cn8 23 = (c44 23) := hfc8.1 23 (nml rfl)
          have : cn8 24 = (c44 24) := hfc8.1 24 (nml rfl)
          have : cn8 25 = (c44 25) := hfc8.1 25 (nml rfl)
          have : cn8 6 = (c44 6) := hfc8.1 6 (nml rfl)
          have : cn8 31 = (c44 31) := hfc8.1 31 (nml rfl)
          have hE9 : ZTE Fn bb n0 v1 (cn 6) In8 F44 := False.elim (by omega)
          refine lv_aload_n hx hb dX5_read_97 rfl (lvA0 hl) ?_
          refine gf_RX5_20 S hK hP 3 xo_3 (v := .ref (a9 5 (a9 4 1))) rfl dX5_read_98 ?_
          exact W.aret (v := .ref (a9 5 (a9 4 1))) hx hb hr (Or.inl ⟨_, rfl⟩) (Or.inr ⟨_, rfl⟩) (fun t ht hW => ⟨⟨some (a9 5 (a9 4 1)), (a9, cn8, In8, F44), rfl, ⟨(Fr.mo hf8 (sbl rfl) (sbl rfl) (sbl rfl)), hIn8, rfl, (by show (cn8 6) = cn 6 + 1; omega), h41, hfa, h40, xtc_new hC (by show (cn8 6) = cn 6 + 1; omega) hn9 e9, xsl_new hL (by show (cn8 6) = cn 6 + 1; omega) (by omega) hx44_2, hE9⟩, by rw [ht]; exact hP, hD⟩, hS.F ht⟩) hS.2.2 dX5_read_101
      ·
        have tc_5 : ((nI (c44 31)).toInt : Int) < (nI (c44 32)).toInt := Int32.lt_iff_toInt_lt.mp (Int32.not_le.mp c_5)
        have hlt7 : c44 31 < c44 32 := by omega
        obtain ⟨p7, o7, l7, hT7, hz7, hcl7, hc7⟩ := ZTX.lt hx44_4 hlt7
        have hp9 : c44 31 = p7 := hz7.1.2.1
        have hq32 : c44 32 = n0 := hz7.1.2.2.1
        have hp7 : p7 < n0 := by omega
        refine lv_aload_n hx hb (oc_42 55 (aq_6 shX5_read_49)) rfl (lvA0 hl) ?_
        refine vp_callSi (runV_rxa (As := []) (rest := []) S (q_Rpeek l D cI cB cZ zz qq vv bt g a9 c44 I44 F44  hI44 (by omega) (by omega) (by omega) (by omega)) kV_RX5_43 hK hXS hS hP 3 xo_3 rfl rfl ⟨Nat.le_of_ble_eq_true rfl, Nat.le_of_ble_eq_true rfl⟩ ⟨Nat.le_of_ble_eq_true rfl, Nat.le_of_ble_eq_true rfl⟩ rfl hl.1 rfl (Nat.le_of_ble_eq_true rfl) (oc_182 56 (aq_7 shX5_read_49) uw_0_43)) (fun r_9 h_10 => ?_)
        have hk7 : pk bb n0 p7 = r_9 := pk_of (F := F44) (hz7.1.2.1) (hz7.1.2.2.1) ((hfr44.2.2 40 (nml rfl)).trans heb) h_10
        refine lv_bipush (v := 59) hx hb (oc_16 59 (aq_10 shX5_read_49) sgb_59) kbc_59 ?_
        refine lv_icmp_ne (tgt := 81) hx hb (oc_160 61 (aq_12 shX5_read_49) sgw_0_20) rfl (fun c_11 => ?_) (fun c_11 => ?_)
        ·
          have tc_11 : (r_9.toInt : Int) ≠ 59 := fun q => c_11 (Int32.toInt_inj.mp q)
          refine lv_aload_n hx hb dX5_read_81 rfl (lvA0 hl) ?_
          refine gf_RX5_31 S hK hP 3 xo_3 (v := .int (nI (c44 31))) rfl dX5_read_82 ?_
          refine lv_aload_n hx hb dX5_read_85 rfl (lvA0 hl) ?_
          refine gf_RX5_34 S hK hP 3 xo_3 (v := .int (nI (c44 32))) rfl dX5_read_86 ?_
          refine lv_icmp_ge (tgt := 97) hx hb dX5_read_89 rfl (fun c_12 => ?_) (fun c_12 => ?_)
          ·
            have tc_12 : ((nI (c44 32)).toInt : Int) ≤ (nI (c44 31)).toInt := Int32.le_iff_toInt_le.mp c_12
            have hE9 : ZTE Fn bb n0 v1 (cn 6) I44 F44 := False.elim (by omega)
            refine lv_aload_n hx hb dX5_read_97 rfl (lvA0 hl) ?_
            refine gf_RX5_20 S hK hP 3 xo_3 (v := .ref (a9 5 (a9 4 1))) rfl dX5_read_98 ?_
            exact W.aret (v := .ref (a9 5 (a9 4 1))) hx hb hr (Or.inl ⟨_, rfl⟩) (Or.inr ⟨_, rfl⟩) (fun t ht hW => ⟨⟨some (a9 5 (a9 4 1)), (a9, c44, I44, F44), rfl, ⟨(Fr.mo hfr44 (sbl rfl) (sbl rfl) (sbl rfl)), hI44, rfl, (by show (c44 6) = cn 6 + 1; omega), h41, hfa, h40, xtc_new hC (by show (c44 6) = cn 6 + 1; omega) hn9 e9, xsl_new hL (by show (c44 6) = cn 6 + 1; omega) (by omega) hx44_2, hE9⟩, by rw [ht]; exact hP, hD⟩, hS.F ht⟩) hS.2.2 dX5_read_101
          ·
            have tc_12 : ((nI (c44 31)).toInt : Int) < (nI (c44 32)).toInt := Int32.lt_iff_toInt_lt.mp (Int32.not_le.mp c_12)
            refine lv_aload_n hx hb dX5_read_92 rfl (lvA0 hl) ?_
            refine lv_iconst (v := 1) hx hb dX5_read_93 kic_1 ?_
            have hFc := free_all hD hS hA
            refine va_callv (runV_xa (As := [.int 1]) (rest := []) S (q_Zfail l D cI cB cZ zz qq vv bt g a9 c44 I44 F44 1 H.size hI44 (by omega) (by omega) (by omega) (by omega)) kV_RX5_47 hK hXS hS hFc hP hD 3 xo_3 rfl rfl ⟨Nat.le_of_ble_eq_true rfl, Nat.le_of_ble_eq_true rfl⟩ ⟨Nat.le_of_ble_eq_true rfl, Nat.le_of_ble_eq_true rfl⟩ rfl hl.1 rfl (Nat.le_of_ble_eq_true rfl) dX5_read_94) hS (fun q _ h => hFc q h) hFc (fun u t H1 locs ht hvm wh_14 hB1 hz1 hk1 hS => ?_)
            obtain ⟨cn14, In14, Fn14⟩ := u
            obtain ⟨hP1, hD1⟩ := hB1
            rw [ht] at hP1
            have hP : va_P D vwCl (wX cI (D.1 99) zz g a9 cn14 In14 Fn14) H1 := hP1
            have hD : va_D A (wX cI (D.1 99) zz g a9 cn14 In14 Fn14) := hD1.weaken (fun _ _ _ h => hFc _ h)
            generalize H1 = H at hP hS ⊢
            have vh_14 : (fun c2 I2 F2 => Fr [32] [33] [] c44 I44 F44 c2 I2 F2 ∧ CBX c2 ∧ ((c2 31 = (c44 31) ∧ (c44 31) ≤ c2 32 ∧ c2 32 ≤ (c44 32)) ∧ FLRv 1 c44 I44 c2 I2)) cn14 In14 Fn14 := wh_14
            obtain ⟨hfc14, hIn14, h_14⟩ := vh_14
            obtain rfl : F44 = Fn14 := (funext (fun k => hfc14.2.2 k List.not_mem_nil)).symm
            have hf14 : Fr [6, 31, 32] [30, 33] [195, 196, 197, 198, 199, 301, 302, 303, 304, 305] cn In Fn cn14 In14 F44 := Fr.mo (Fr.tr hfr44 hfc14) (sbl rfl) (sbl rfl) (sbl rfl)
            have hTI30_14 : In14 30 = (I44 30) := hfc14.2.1 30 (nml rfl)
            have : cn14 0 = (c44 0) := hfc14.1 0 (nml rfl)
            have : cn14 1 = (c44 1) := hfc14.1 1 (nml rfl)
            have : cn14 2 = (c44 2) := hfc14.1 2 (nml rfl)
            have : cn14 3 = (c44 3) := hfc14.1 3 (nml rfl)
            have : cn14 4 = (c44 4) := hfc14.1 4 (nml rfl)
            have : cn14 5 = (c44 5) := hfc14.1 5 (nml rfl)
            have : cn14 10 = (c44 10) := hfc14.1 10 (nml rfl)
            have : cn14 11 = (c44 11) := hfc14.1 11 (nml rfl)
            have : cn14 12 = (c44 12) := hfc14.1 12 (nml rfl)
            have : cn14 13 = (c44 13) := hfc14.1 13 (nml rfl)
            have : cn14 14 = (c44 14) := hfc14.1 14 (nml rfl)
            have : cn14 15 = (c44 15) := hfc14.1 15 (nml rfl)
            have : cn14 20 = (c44 20) := hfc14.1 20 (nml rfl)
            have : cn14 21 = (c44 21) := hfc14.1 21 (nml rfl)
            have : cn14 22 = (c44 22) := hfc14.1 22 (nml rfl)
            have : cn14 23 = (c44 23) := hfc14.1 23 (nml rfl)
            have : cn14 24 = (c44 24) := hfc14.1 24 (nml rfl)
            have : cn14 25 = (c44 25) := hfc14.1 25 (nml rfl)
            have : cn14 6 = (c44 6) := hfc14.1 6 (nml rfl)
            have : cn14 31 = (c44 31) := hfc14.1 31 (nml rfl)
            have hE9 : ZTE Fn bb n0 v1 (cn 6) In14 F44 := ZTE.f hT7 hp7 (fun q9 => (show ¬ r_9 = 59 by assumption) (hk7.symm.trans q9)) (ZS.failv (k := 1) (by decide) (by decide) (by omega) hz7 h_14.2) hx44_2
            refine lv_aload_n hx hb dX5_read_97 rfl (lvA0 hl) ?_
            refine gf_RX5_20 S hK hP 3 xo_3 (v := .ref (a9 5 (a9 4 1))) rfl dX5_read_98 ?_
            exact W.aret (v := .ref (a9 5 (a9 4 1))) hx hb hr (Or.inl ⟨_, rfl⟩) (Or.inr ⟨_, rfl⟩) (fun t ht hW => ⟨⟨some (a9 5 (a9 4 1)), (a9, cn14, In14, F44), rfl, ⟨(Fr.mo hf14 (sbl rfl) (sbl rfl) (sbl rfl)), hIn14, rfl, (by show (cn14 6) = cn 6 + 1; omega), h41, hfa, h40, xtc_new hC (by show (cn14 6) = cn 6 + 1; omega) hn9 e9, xsl_new hL (by show (cn14 6) = cn 6 + 1; omega) (by omega) hx44_2, hE9⟩, by rw [ht]; exact hP, hD⟩, hS.F ht⟩) hS.2.2 dX5_read_101
        ·
          have tc_11 : (r_9.toInt : Int) = 59 := congrArg Int32.toInt c_11
          have hq7 : pk bb n0 p7 = 59 := hk7.trans (by assumption)
          refine lv_aload_n hx hb (oc_42 64 (aq_15 shX5_read_49)) rfl (lvA0 hl) ?_
          refine lv_dup hx hb (oc_89 65 (aq_16 shX5_read_49)) rfl ?_
          refine gf_RX5_31 S hK hP 3 xo_3 (v := .int (nI (c44 31))) rfl (oc_180 66 (aq_17 shX5_read_49) uw_0_31) ?_
          refine lv_iconst (v := 1) hx hb (oc_4 69 (aq_20 shX5_read_49)) kic_1 ?_
          refine lv_iadd hx hb (oc_96 70 (aq_21 shX5_read_49)) ?_
          refine lv_topi (fun y_15 ey_15 => ?_)
          obtain rfl : y_15 = (nI ((c44 31) + 1)) := ey_15.trans (nI_add (c44 31) 1)
          refine pf_RX5_31 S hK hP hD hS 3 xo_3 (v := .int (nI ((c44 31) + 1))) (Nat.le_of_ble_eq_true rfl) rfl rfl (oc_181 71 (aq_22 shX5_read_49) uw_0_31) (fun H locs hP hD hS => ?_)
          have hP : va_P D vwCl (wX cI (D.1 99) zz g a9 (va_up c44 31 ((c44 31) + 1)) I44 F44) H := va_P_eq xsf_3_3 hP
          have hD : va_D A (wX cI (D.1 99) zz g a9 (va_up c44 31 ((c44 31) + 1)) I44 F44) := va_D_eq xsf_3_3 hD
          refine lv_aload_n hx hb (oc_42 74 shX5_read_74) rfl (lvA0 hl) ?_
          have hFc := free_all hD hS hA
          refine va_callv (runV_xa (As := []) (rest := []) S (q_ZreadClause l D cI cB cZ zz qq vv bt g a9 (va_up c44 31 ((c44 31) + 1)) I44 F44 Fn bb n0 (p7 + 1) o7 l7 v1 H.size (CBX.n (k := 31) (v := ((c44 31) + 1)) hI44 (by decide)) (show a9 4 2 = g 40 by omega) (show a9 4 1 < (c44 6) by omega) (show ((c44 31) + 1) ≤ (c44 32) by omega) (show (c44 32) ≤ 160 by omega) (by rw [hx44_2, h41, upd_self, nI_toInt (by omega)]; omega) (by rw [hx44_2, h41, upd_self]) (by omega) ((hfr44.2.2 40 (nml rfl)).trans heb) hby (by rw [h41]; exact ZS.incx hz7 (by omega) rfl rfl rfl) (by rw [h41]; exact hcl7) hc7 hx44_1 h8 hl2 hbt) kV_RX5_40 hK hXS hS hFc hP hD 3 xo_3 rfl rfl ⟨Nat.le_of_ble_eq_true rfl, Nat.le_of_ble_eq_true rfl⟩ ⟨Nat.le_of_ble_eq_true rfl, Nat.le_of_ble_eq_true rfl⟩ rfl hl.1 rfl (Nat.le_of_ble_eq_true rfl) (oc_182 75 (aq_1 shX5_read_74) uw_0_40)) hS (fun q _ h => hFc q h) hFc (fun u t H1 locs ht hvm wh_17 hB1 hz1 hk1 hS => ?_)
          obtain ⟨cn17, In17, Fn17⟩ := u
          obtain ⟨hP1, hD1⟩ := hB1
          rw [ht] at hP1
          have hP : va_P D vwCl (wX cI (D.1 99) zz g a9 cn17 In17 Fn17) H1 := hP1
          have hD : va_D A (wX cI (D.1 99) zz g a9 cn17 In17 Fn17) := hD1.weaken (fun _ _ _ h => hFc _ h)
          generalize H1 = H at hP hS ⊢
          have vh_17 : (fun c2 I2 F2 => Fr [31, 32] [33] [195, 198, 301, 302, 303, 304] (va_up c44 31 ((c44 31) + 1)) I44 F44 c2 I2 F2 ∧ CBX c2 ∧ ((((c44 31) + 1) ≤ c2 31 ∧ c2 31 ≤ c2 32 ∧ c2 32 ≤ (c44 32)) ∧ (∃ n : Nat, n ≤ 12 ∧ F2 198 = upd ((F44 198)) (a9 4 1) (nI n)) ∧ ZCL Fn (a9 4 1) n0 c2 I2 F2 l7 o7.length (clV bb n0 v1 l7.length (p7 + 1) o7))) cn17 In17 Fn17 := wh_17
          obtain ⟨hfc17, hIn17, h_17⟩ := vh_17
          have hf17 : Fr [6, 31, 32] [30, 33] [195, 196, 197, 198, 199, 301, 302, 303, 304, 305] cn In Fn cn17 In17 Fn17 := Fr.mo (Fr.tr (Fr.c 31 hfr44) hfc17) (sbl rfl) (sbl rfl) (sbl rfl)
          have hTI30_17 : In17 30 = (I44 30) := hfc17.2.1 30 (nml rfl)
          have hT199_17 : Fn17 199 = (F44 199) := hfc17.2.2 199 (nml rfl)
          have : cn17 0 = (c44 0) := hfc17.1 0 (nml rfl)
          have : cn17 1 = (c44 1) := hfc17.1 1 (nml rfl)
          have : cn17 2 = (c44 2) := hfc17.1 2 (nml rfl)
          have : cn17 3 = (c44 3) := hfc17.1 3 (nml rfl)
          have : cn17 4 = (c44 4) := hfc17.1 4 (nml rfl)
          have : cn17 5 = (c44 5) := hfc17.1 5 (nml rfl)
          have : cn17 10 = (c44 10) := hfc17.1 10 (nml rfl)
          have : cn17 11 = (c44 11) := hfc17.1 11 (nml rfl)
          have : cn17 12 = (c44 12) := hfc17.1 12 (nml rfl)
          have : cn17 13 = (c44 13) := hfc17.1 13 (nml rfl)
          have : cn17 14 = (c44 14) := hfc17.1 14 (nml rfl)
          have : cn17 15 = (c44 15) := hfc17.1 15 (nml rfl)
          have : cn17 20 = (c44 20) := hfc17.1 20 (nml rfl)
          have : cn17 21 = (c44 21) := hfc17.1 21 (nml rfl)
          have : cn17 22 = (c44 22) := hfc17.1 22 (nml rfl)
          have : cn17 23 = (c44 23) := hfc17.1 23 (nml rfl)
          have : cn17 24 = (c44 24) := hfc17.1 24 (nml rfl)
          have : cn17 25 = (c44 25) := hfc17.1 25 (nml rfl)
          have : cn17 6 = (c44 6) := hfc17.1 6 (nml rfl)
          obtain ⟨h_17, ⟨n8, hn8, e8⟩, hZ8⟩ := h_17
          rw [h41] at hZ8
          refine lv_goto (tgt := 44) hx hb (oc_167 78 (aq_4 shX5_read_74) sgw_255_222) rfl ?_
          exact ih44  cn17 In17 Fn17 _ _ (show (cn17 32) - (cn17 31) < n44 by omega) ⟨(Fr.mo hf17 (sbl rfl) (sbl rfl) (sbl rfl)), hIn17, (show (cn17 31) ≤ (cn17 32) ∧ (cn17 32) ≤ n0 ∧ (cn17 6) = cn 6 + 1 by omega), (hTI30_17.trans hx44_1), (hT199_17.trans hx44_2), ⟨n8, hn8, by rw [e8, e9, h41, upd_upd9]⟩, (by cases e9 : clV bb n0 v1 l7.length (p7 + 1) o7 with | error x => (rw [e9] at hZ8; exact Or.inl ⟨x, hT7.trans (txL_e hp7 hq7 e9), hZ8⟩) | ok z => (rw [e9] at hZ8; exact Or.inr ⟨z.1, z.2.1, _, hT7.trans (txL_s hp7 hq7 e9), hZ8.1, hZ8.2, clV_12n hc7 e9⟩))⟩ hP hD hS ls (lv_sub hl [0, 1, 2, 3] rfl)
  exact lp_44 _  cn4 In4 Fn4 _ _ (Nat.lt_succ_self _) ⟨(Fr.mo hf4 (sbl rfl) (sbl rfl) (sbl rfl)), hIn4, (show (cn4 31) ≤ (cn4 32) ∧ (cn4 32) ≤ n0 ∧ (cn4 6) = cn 6 + 1 by omega), hTI30_4, hT199_4, ⟨n8, hn8, by rw [e8, h41, upd_upd9]⟩, (by have hZ8 : ZCL Fn (cn 6) n0 _ _ _ ([] : ClsT) 0 (clV bb n0 v1 0 0 []) := hZ8; cases e9 : clV bb n0 v1 0 0 [] with | error x => (rw [e9] at hZ8; exact Or.inl ⟨x, txV_e e9, hZ8⟩) | ok z => (rw [e9] at hZ8; exact Or.inr ⟨z.1, z.2.1, [(0, z.2.2, z.2.1.length)], txV_s e9, hZ8.1, hZ8.2, (show (1 : Nat) ≤ 12 by decide)⟩))⟩ hP hD hS ls (lv_sub hl [0, 1, 2, 3] rfl)
