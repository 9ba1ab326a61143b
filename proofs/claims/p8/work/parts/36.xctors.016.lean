set_option maxRecDepth 100000 in
set_option maxHeartbeats 4000000 in
theorem q_c_Model (l : Launch) (D : va_G) (cI cB cZ : ClassId) (x : Nat) (sz : Nat) : Met l yX12_init (CWS yX12_init cX12_init 2 none) (RM 2 64 8869) (PBw [.ref x] D cI cB cZ [(x, .inr (13, [.int 0, .int 0, .int 0, .null, .null, .null, .null, .null, .null, .null, .null, .null, .null, .null, .null, .null, .null, .null, .int 0, .int 0, .int 0, .int 0, .int 0, .int 0, .int 0, .int 0, .int 0, .null, .null, .null, .null, .null, .null, .null, .null, .null, .null, .null, .null, .null, .null, .null, .null, .null, .int 0, .int 0, .int 0, .null, .null, .null, .null, .null, .null, .null, .int 0, .int 0, .int 0, .int 0, .int 0, .null, .null, .null, .int 0, .int 0, .null, .null, .null, .null, .null, .null, .null, .int 0, .int 0, .int 0, .null, .int 0, .null, .null, .null, .null, .null, .null, .null, .int 0, .null, .null, .null, .null, .null, .null, .null]))] sz) (va_Qv (fun (u : Nat → Nat) => u 100 = x) (fun (u : Nat → Nat) (t : State) => va_P D vwCl [((u 100), .inr (13, [.int 0, .int 0, .int 0, .ref (u 3), .ref (u 4), .ref (u 5), .ref (u 6), .ref (u 7), .ref (u 8), .ref (u 9), .ref (u 10), .ref (u 11), .ref (u 12), .ref (u 13), .ref (u 14), .ref (u 15), .ref (u 16), .ref (u 17), .int 0, .int 0, .int 0, .int 0, .int 0, .int 0, .int 0, .int 0, .int 0, .ref (u 27), .ref (u 28), .ref (u 29), .ref (u 30), .ref (u 31), .ref (u 32), .ref (u 33), .ref (u 34), .ref (u 35), .ref (u 36), .ref (u 37), .ref (u 38), .ref (u 39), .ref (u 40), .ref (u 41), .ref (u 42), .ref (u 43), .int 0, .int 0, .int 0, .ref (u 47), .ref (u 48), .ref (u 49), .ref (u 50), .ref (u 51), .ref (u 52), .ref (u 53), .int 0, .int 0, .int 0, .int 0, .int 0, .ref (u 59), .ref (u 60), .ref (u 61), .int 0, .int 0, .ref (u 64), .ref (u 65), .ref (u 66), .ref (u 67), .ref (u 68), .ref (u 69), .ref (u 70), .int 0, .int 0, .int 0, .ref (u 74), .int 0, .ref (u 76), .ref (u 77), .ref (u 78), .ref (u 79), .ref (u 80), .ref (u 81), .ref (u 82), .int 0, .ref (u 84), .ref (u 85), .ref (u 86), .ref (u 87), .ref (u 88), .ref (u 89), .ref (u 90)])), ((u 3), .inl (cI, 10, .inl (fun _ => 0))), ((u 4), .inl (cI, 10, .inl (fun _ => 0))), ((u 5), .inl (cI, 10, .inl (fun _ => 0))), ((u 6), .inl (cI, 10, .inl (fun _ => 0))), ((u 7), .inl (cI, 10, .inl (fun _ => 0))), ((u 8), .inl (cI, 60, .inl (fun _ => 0))), ((u 9), .inl (cI, 60, .inl (fun _ => 0))), ((u 10), .inl (cI, 60, .inl (fun _ => 0))), ((u 11), .inl (cI, 60, .inl (fun _ => 0))), ((u 12), .inl (cI, 60, .inl (fun _ => 0))), ((u 13), .inl (cI, 60, .inl (fun _ => 0))), ((u 14), .inl (cI, 60, .inl (fun _ => 0))), ((u 15), .inl (cI, 60, .inl (fun _ => 0))), ((u 16), .inl (cI, 60, .inl (fun _ => 0))), ((u 17), .inl (cB, 200, .inl (fun _ => 0))), ((u 27), .inl (cI, 180, .inl (fun _ => 0))), ((u 28), .inl (cI, 180, .inl (fun _ => 0))), ((u 29), .inl (cI, 12, .inl (fun _ => 0))), ((u 30), .inl (cI, 12, .inl (fun _ => 0))), ((u 31), .inl (cI, 12, .inl (fun _ => 0))), ((u 32), .inl (cI, 1980, .inl (fun _ => 0))), ((u 33), .inl (cI, 11, .inl (fun _ => 0))), ((u 34), .inl (cI, 132, .inl (fun _ => 0))), ((u 35), .inl (cI, 132, .inl (fun _ => 0))), ((u 36), .inl (cI, 132, .inl (fun _ => 0))), ((u 37), .inl (cI, 180, .inl (fun _ => 0))), ((u 38), .inl (cI, 11, .inl (fun _ => 0))), ((u 39), .inl (cI, 58, .inl (fun _ => 0))), ((u 40), .inl (cI, 10, .inl (fun _ => 0))), ((u 41), .inl (cI, 400, .inl (fun _ => 0))), ((u 42), .inl (cI, 10, .inl (fun _ => 0))), ((u 43), .inl (cI, 2048, .inl (fun _ => 0))), ((u 47), .inl (cI, 3, .inl (fun _ => 0))), ((u 48), .inl (cI, 3, .inl (fun _ => 0))), ((u 49), .inl (cI, 3, .inl (fun _ => 0))), ((u 50), .inl (cI, 6, .inl (fun _ => 0))), ((u 51), .inl (cI, 6, .inl (fun _ => 0))), ((u 52), .inl (cI, 10, .inl (fun _ => 0))), ((u 53), .inl (cZ, 1200, .inl (fun _ => 0))), ((u 59), .inl (cI, 60, .inl (fun _ => 0))), ((u 60), .inl (cI, 60, .inl (fun _ => 0))), ((u 61), .inl (cI, 60, .inl (fun _ => 0))), ((u 64), .inl (cI, 10, .inl (fun _ => 0))), ((u 65), .inl (cI, 10, .inl (fun _ => 0))), ((u 66), .inl (cI, 40, .inl (fun _ => 0))), ((u 67), .inl (cI, 40, .inl (fun _ => 0))), ((u 68), .inl (cI, 40, .inl (fun _ => 0))), ((u 69), .inl (cI, 40, .inl (fun _ => 0))), ((u 70), .inl (cI, 40, .inl (fun _ => 0))), ((u 74), .inl (cI, 12, .inl (fun _ => 0))), ((u 76), .inl (cI, 10, .inl (fun _ => 0))), ((u 77), .inl (cI, 232, .inl (fun _ => 0))), ((u 78), .inl (cI, 10, .inl (fun _ => 0))), ((u 79), .inl (cI, 10, .inl (fun _ => 0))), ((u 80), .inl (cI, 120, .inl (fun _ => 0))), ((u 81), .inl (cI, 40, .inl (fun _ => 0))), ((u 82), .inl (cI, 40, .inl (fun _ => 0))), ((u 84), .inl (cI, 10, .inl (fun _ => 0))), ((u 85), .inl (cI, 10, .inl (fun _ => 0))), ((u 86), .inl (cI, 24, .inl (fun _ => 0))), ((u 87), .inl (cI, 10, .inl (fun _ => 0))), ((u 88), .inl (cI, 10, .inl (fun _ => 0))), ((u 89), .inl (cI, 10, .inl (fun _ => 0))), ((u 90), .inl (cI, 400, .inl (dgF 400)))] t.heap ∧ va_D (va_A [(x, .inr (13, [.int 0, .int 0, .int 0, .null, .null, .null, .null, .null, .null, .null, .null, .null, .null, .null, .null, .null, .null, .null, .int 0, .int 0, .int 0, .int 0, .int 0, .int 0, .int 0, .int 0, .int 0, .null, .null, .null, .null, .null, .null, .null, .null, .null, .null, .null, .null, .null, .null, .null, .null, .null, .int 0, .int 0, .int 0, .null, .null, .null, .null, .null, .null, .null, .int 0, .int 0, .int 0, .int 0, .int 0, .null, .null, .null, .int 0, .int 0, .null, .null, .null, .null, .null, .null, .null, .int 0, .int 0, .int 0, .null, .int 0, .null, .null, .null, .null, .null, .null, .null, .int 0, .null, .null, .null, .null, .null, .null, .null]))] sz) [((u 100), .inr (13, [.int 0, .int 0, .int 0, .ref (u 3), .ref (u 4), .ref (u 5), .ref (u 6), .ref (u 7), .ref (u 8), .ref (u 9), .ref (u 10), .ref (u 11), .ref (u 12), .ref (u 13), .ref (u 14), .ref (u 15), .ref (u 16), .ref (u 17), .int 0, .int 0, .int 0, .int 0, .int 0, .int 0, .int 0, .int 0, .int 0, .ref (u 27), .ref (u 28), .ref (u 29), .ref (u 30), .ref (u 31), .ref (u 32), .ref (u 33), .ref (u 34), .ref (u 35), .ref (u 36), .ref (u 37), .ref (u 38), .ref (u 39), .ref (u 40), .ref (u 41), .ref (u 42), .ref (u 43), .int 0, .int 0, .int 0, .ref (u 47), .ref (u 48), .ref (u 49), .ref (u 50), .ref (u 51), .ref (u 52), .ref (u 53), .int 0, .int 0, .int 0, .int 0, .int 0, .ref (u 59), .ref (u 60), .ref (u 61), .int 0, .int 0, .ref (u 64), .ref (u 65), .ref (u 66), .ref (u 67), .ref (u 68), .ref (u 69), .ref (u 70), .int 0, .int 0, .int 0, .ref (u 74), .int 0, .ref (u 76), .ref (u 77), .ref (u 78), .ref (u 79), .ref (u 80), .ref (u 81), .ref (u 82), .int 0, .ref (u 84), .ref (u 85), .ref (u 86), .ref (u 87), .ref (u 88), .ref (u 89), .ref (u 90)])), ((u 3), .inl (cI, 10, .inl (fun _ => 0))), ((u 4), .inl (cI, 10, .inl (fun _ => 0))), ((u 5), .inl (cI, 10, .inl (fun _ => 0))), ((u 6), .inl (cI, 10, .inl (fun _ => 0))), ((u 7), .inl (cI, 10, .inl (fun _ => 0))), ((u 8), .inl (cI, 60, .inl (fun _ => 0))), ((u 9), .inl (cI, 60, .inl (fun _ => 0))), ((u 10), .inl (cI, 60, .inl (fun _ => 0))), ((u 11), .inl (cI, 60, .inl (fun _ => 0))), ((u 12), .inl (cI, 60, .inl (fun _ => 0))), ((u 13), .inl (cI, 60, .inl (fun _ => 0))), ((u 14), .inl (cI, 60, .inl (fun _ => 0))), ((u 15), .inl (cI, 60, .inl (fun _ => 0))), ((u 16), .inl (cI, 60, .inl (fun _ => 0))), ((u 17), .inl (cB, 200, .inl (fun _ => 0))), ((u 27), .inl (cI, 180, .inl (fun _ => 0))), ((u 28), .inl (cI, 180, .inl (fun _ => 0))), ((u 29), .inl (cI, 12, .inl (fun _ => 0))), ((u 30), .inl (cI, 12, .inl (fun _ => 0))), ((u 31), .inl (cI, 12, .inl (fun _ => 0))), ((u 32), .inl (cI, 1980, .inl (fun _ => 0))), ((u 33), .inl (cI, 11, .inl (fun _ => 0))), ((u 34), .inl (cI, 132, .inl (fun _ => 0))), ((u 35), .inl (cI, 132, .inl (fun _ => 0))), ((u 36), .inl (cI, 132, .inl (fun _ => 0))), ((u 37), .inl (cI, 180, .inl (fun _ => 0))), ((u 38), .inl (cI, 11, .inl (fun _ => 0))), ((u 39), .inl (cI, 58, .inl (fun _ => 0))), ((u 40), .inl (cI, 10, .inl (fun _ => 0))), ((u 41), .inl (cI, 400, .inl (fun _ => 0))), ((u 42), .inl (cI, 10, .inl (fun _ => 0))), ((u 43), .inl (cI, 2048, .inl (fun _ => 0))), ((u 47), .inl (cI, 3, .inl (fun _ => 0))), ((u 48), .inl (cI, 3, .inl (fun _ => 0))), ((u 49), .inl (cI, 3, .inl (fun _ => 0))), ((u 50), .inl (cI, 6, .inl (fun _ => 0))), ((u 51), .inl (cI, 6, .inl (fun _ => 0))), ((u 52), .inl (cI, 10, .inl (fun _ => 0))), ((u 53), .inl (cZ, 1200, .inl (fun _ => 0))), ((u 59), .inl (cI, 60, .inl (fun _ => 0))), ((u 60), .inl (cI, 60, .inl (fun _ => 0))), ((u 61), .inl (cI, 60, .inl (fun _ => 0))), ((u 64), .inl (cI, 10, .inl (fun _ => 0))), ((u 65), .inl (cI, 10, .inl (fun _ => 0))), ((u 66), .inl (cI, 40, .inl (fun _ => 0))), ((u 67), .inl (cI, 40, .inl (fun _ => 0))), ((u 68), .inl (cI, 40, .inl (fun _ => 0))), ((u 69), .inl (cI, 40, .inl (fun _ => 0))), ((u 70), .inl (cI, 40, .inl (fun _ => 0))), ((u 74), .inl (cI, 12, .inl (fun _ => 0))), ((u 76), .inl (cI, 10, .inl (fun _ => 0))), ((u 77), .inl (cI, 232, .inl (fun _ => 0))), ((u 78), .inl (cI, 10, .inl (fun _ => 0))), ((u 79), .inl (cI, 10, .inl (fun _ => 0))), ((u 80), .inl (cI, 120, .inl (fun _ => 0))), ((u 81), .inl (cI, 40, .inl (fun _ => 0))), ((u 82), .inl (cI, 40, .inl (fun _ => 0))), ((u 84), .inl (cI, 10, .inl (fun _ => 0))), ((u 85), .inl (cI, 10, .inl (fun _ => 0))), ((u 86), .inl (cI, 24, .inl (fun _ => 0))), ((u 87), .inl (cI, 10, .inl (fun _ => 0))), ((u 88), .inl (cI, 10, .inl (fun _ => 0))), ((u 89), .inl (cI, 10, .inl (fun _ => 0))), ((u 90), .inl (cI, 400, .inl (dgF 400)))]) (va_A [(x, .inr (13, [.int 0, .int 0, .int 0, .null, .null, .null, .null, .null, .null, .null, .null, .null, .null, .null, .null, .null, .null, .null, .int 0, .int 0, .int 0, .int 0, .int 0, .int 0, .int 0, .int 0, .int 0, .null, .null, .null, .null, .null, .null, .null, .null, .null, .null, .null, .null, .null, .null, .null, .null, .null, .int 0, .int 0, .int 0, .null, .null, .null, .null, .null, .null, .null, .int 0, .int 0, .int 0, .int 0, .int 0, .null, .null, .null, .int 0, .int 0, .null, .null, .null, .null, .null, .null, .null, .int 0, .int 0, .int 0, .null, .int 0, .null, .null, .null, .null, .null, .null, .null, .int 0, .null, .null, .null, .null, .null, .null, .null]))] sz)) 64 8869 (va_A [(x, .inr (13, [.int 0, .int 0, .int 0, .null, .null, .null, .null, .null, .null, .null, .null, .null, .null, .null, .null, .null, .null, .null, .int 0, .int 0, .int 0, .int 0, .int 0, .int 0, .int 0, .int 0, .int 0, .null, .null, .null, .null, .null, .null, .null, .null, .null, .null, .null, .null, .null, .null, .null, .null, .null, .int 0, .int 0, .int 0, .null, .null, .null, .null, .null, .null, .null, .int 0, .int 0, .int 0, .int 0, .int 0, .null, .null, .null, .int 0, .int 0, .null, .null, .null, .null, .null, .null, .null, .int 0, .int 0, .int 0, .null, .int 0, .null, .null, .null, .null, .null, .null, .null, .int 0, .null, .null, .null, .null, .null, .null, .null]))] sz) := by
  refine Met.ofW (cc := cX12_init) (maxL := 2) (ret := none) (by decide) rfl ?_
  intro p e s m args below meth c s₁ B hml hv
  obtain ⟨rfl, hsz, hP, hK, hD0⟩ := hv
  have hx := B.exec
  have hb := B.bytes
  have hr := B.returns
  have hts := atoms_spec (ws := (CWS yX12_init cX12_init 2 none)) B.pre
  have hown : s.vm.findClass RX12 = some m.cls := findClass_of_methodNamed B.named
  have hlocks := B.notSynchronized
  have hin : meth.name = "<init>" := (name_of_methodNamed B.named B.method).1
  have S : SF p m c cX12_init 2 s ([.ref x]).toArray RX12 := ⟨hx, hb, hml, hown, fun w h => hts w (List.mem_cons_of_mem _ h)⟩
  subst hsz
  have hD := hD0.self (sz := s.heap.size)
  generalize hAe : va_A [(x, .inr (13, [.int 0, .int 0, .int 0, .null, .null, .null, .null, .null, .null, .null, .null, .null, .null, .null, .null, .null, .null, .null, .int 0, .int 0, .int 0, .int 0, .int 0, .int 0, .int 0, .int 0, .int 0, .null, .null, .null, .null, .null, .null, .null, .null, .null, .null, .null, .null, .null, .null, .null, .null, .null, .int 0, .int 0, .int 0, .null, .null, .null, .null, .null, .null, .null, .int 0, .int 0, .int 0, .int 0, .int 0, .null, .null, .null, .int 0, .int 0, .null, .null, .null, .null, .null, .null, .null, .int 0, .int 0, .int 0, .null, .int 0, .null, .null, .null, .null, .null, .null, .null, .int 0, .null, .null, .null, .null, .null, .null, .null]))] s.heap.size = A at hD ⊢
  have hA : ∀ q : Nat, s.heap.size ≤ q → A q := fun q h => by rw [← hAe]; exact Or.inr h
  have hS : va_S A s.heap s.heap [] := va_S.rf
  have hP : va_P D vwCl [(x, .inr (13, [.int 0, .int 0, .int 0, .null, .null, .null, .null, .null, .null, .null, .null, .null, .null, .null, .null, .null, .null, .null, .int 0, .int 0, .int 0, .int 0, .int 0, .int 0, .int 0, .int 0, .int 0, .null, .null, .null, .null, .null, .null, .null, .null, .null, .null, .null, .null, .null, .null, .null, .null, .null, .int 0, .int 0, .int 0, .null, .null, .null, .null, .null, .null, .null, .int 0, .int 0, .int 0, .int 0, .int 0, .null, .null, .null, .int 0, .int 0, .null, .null, .null, .null, .null, .null, .null, .int 0, .int 0, .int 0, .null, .int 0, .null, .null, .null, .null, .null, .null, .null, .int 0, .null, .null, .null, .null, .null, .null, .null]))] s.heap := hP
  have hD : va_D A [(x, .inr (13, [.int 0, .int 0, .int 0, .null, .null, .null, .null, .null, .null, .null, .null, .null, .null, .null, .null, .null, .null, .null, .int 0, .int 0, .int 0, .int 0, .int 0, .int 0, .int 0, .int 0, .int 0, .null, .null, .null, .null, .null, .null, .null, .null, .null, .null, .null, .null, .null, .null, .null, .null, .null, .int 0, .int 0, .int 0, .null, .null, .null, .null, .null, .null, .null, .int 0, .int 0, .int 0, .int 0, .int 0, .null, .null, .null, .int 0, .int 0, .null, .null, .null, .null, .null, .null, .null, .int 0, .int 0, .int 0, .null, .int 0, .null, .null, .null, .null, .null, .null, .null, .int 0, .null, .null, .null, .null, .null, .null, .null]))] := hD
  have hl := lv_entry ([.ref x]) (n := 2) (Nat.le_of_ble_eq_true rfl)
  rw [lg_entry_eq]
  generalize (lg_sl ([.ref x]) ++ List.replicate (2 - (lg_sl ([.ref x])).length) Slot.unset).toArray = ls at hl ⊢
  have hl : lv_has ls 2 [(0, .ref x)] := hl
  obtain ⟨f_0, hf_0⟩ : ∃ z : List Value, z = [.int 0, .int 0, .int 0, .null, .null, .null, .null, .null, .null, .null, .null, .null, .null, .null, .null, .null, .null, .null, .int 0, .int 0, .int 0, .int 0, .int 0, .int 0, .int 0, .int 0, .int 0, .null, .null, .null, .null, .null, .null, .null, .null, .null, .null, .null, .null, .null, .null, .null, .null, .null, .int 0, .int 0, .int 0, .null, .null, .null, .null, .null, .null, .null, .int 0, .int 0, .int 0, .int 0, .int 0, .null, .null, .null, .int 0, .int 0, .null, .null, .null, .null, .null, .null, .null, .int 0, .int 0, .int 0, .null, .int 0, .null, .null, .null, .null, .null, .null, .null, .int 0, .null, .null, .null, .null, .null, .null, .null] := ⟨_, rfl⟩
  have hn_0 : f_0.length = 91 := by rw [hf_0]; rfl
  rw [← hf_0] at hP hD
  obtain ⟨w_0, hw_0⟩ : ∃ z : va_W, z = [] := ⟨_, rfl⟩
  have hP : va_P D vwCl ((x, .inr (13, f_0)) :: w_0) s.heap := by rw [hw_0]; exact hP
  have hD : va_D A ((x, .inr (13, f_0)) :: w_0) := by rw [hw_0]; exact hD
  refine lv_aload_n hx hb dX12_init_0 rfl (lv_at hl 0 rfl) ?_
  refine W.objInit hx hb hown (S.2.2.2.2 _ (wk6_9 4 rfl rfl)) (S.2.2.2.2 _ (wk1_2 9 rfl rfl)) (S.2.2.2.2 _ (wk1_2 10 rfl rfl)) rfl (by rw [hml]; exact hl.1) rfl dX12_init_1 (Nat.le_of_ble_eq_true rfl) (Nat.le_of_ble_eq_true rfl) ?_
  refine W.eq (g2 := F0 m 4 ls []) rfl ?_
  refine lv_aload_n hx hb dX12_init_4 rfl (lv_at hl 0 rfl) ?_
  refine lv_bipush (v := 10) hx hb dX12_init_5 kbc_10 ?_
  refine newa_int S hK hP hD hS hA (N' := 10) (by decide) (by decide) (Nat.le_of_ble_eq_true rfl) (Nat.le_of_ble_eq_true rfl) (Nat.le_of_ble_eq_true rfl) dX12_init_7 (fun q7 H hP hD hS => ?_)
  have hP : va_P D vwCl ((x, .inr (13, f_0)) :: (w_0 ++ [(q7, .inl (cI, 10, .inl (fun _ => 0)))])) H := hP
  have hD : va_D A ((x, .inr (13, f_0)) :: (w_0 ++ [(q7, .inl (cI, 10, .inl (fun _ => 0)))])) := hD
  generalize hw_7 : (w_0 ++ [(q7, .inl (cI, 10, .inl (fun _ => 0)))]) = w_7 at hP hD
  refine pf_RX12_7 S hin hK hP hD hS 0 rfl (v := .ref q7) (by rw [hn_0]; decide) rfl rfl dX12_init_9 (fun H locs hP hD hS => ?_)
  have hP : va_P D vwCl ((x, .inr (13, (f_0.set 3 (.ref q7)))) :: w_7) H := hP
  have hD : va_D A ((x, .inr (13, (f_0.set 3 (.ref q7)))) :: w_7) := hD
  generalize hf_9 : (f_0.set 3 (.ref q7)) = f_9 at hP hD
  have hn_9 : f_9.length = 91 := by rw [← hf_9, List.length_set]; exact hn_0
  refine lv_aload_n hx hb dX12_init_12 rfl (lv_at hl 0 rfl) ?_
  refine lv_bipush (v := 10) hx hb dX12_init_13 kbc_10 ?_
  refine newa_int S hK hP hD hS hA (N' := 10) (by decide) (by decide) (Nat.le_of_ble_eq_true rfl) (Nat.le_of_ble_eq_true rfl) (Nat.le_of_ble_eq_true rfl) dX12_init_15 (fun q15 H hP hD hS => ?_)
  have hP : va_P D vwCl ((x, .inr (13, f_9)) :: (w_7 ++ [(q15, .inl (cI, 10, .inl (fun _ => 0)))])) H := hP
  have hD : va_D A ((x, .inr (13, f_9)) :: (w_7 ++ [(q15, .inl (cI, 10, .inl (fun _ => 0)))])) := hD
  generalize hw_15 : (w_7 ++ [(q15, .inl (cI, 10, .inl (fun _ => 0)))]) = w_15 at hP hD
  refine pf_RX12_13 S hin hK hP hD hS 0 rfl (v := .ref q15) (by rw [hn_9]; decide) rfl rfl dX12_init_17 (fun H locs hP hD hS => ?_)
  have hP : va_P D vwCl ((x, .inr (13, (f_9.set 4 (.ref q15)))) :: w_15) H := hP
  have hD : va_D A ((x, .inr (13, (f_9.set 4 (.ref q15)))) :: w_15) := hD
  generalize hf_17 : (f_9.set 4 (.ref q15)) = f_17 at hP hD
  have hn_17 : f_17.length = 91 := by rw [← hf_17, List.length_set]; exact hn_9
  refine lv_aload_n hx hb dX12_init_20 rfl (lv_at hl 0 rfl) ?_
  refine lv_bipush (v := 10) hx hb dX12_init_21 kbc_10 ?_
  refine newa_int S hK hP hD hS hA (N' := 10) (by decide) (by decide) (Nat.le_of_ble_eq_true rfl) (Nat.le_of_ble_eq_true rfl) (Nat.le_of_ble_eq_true rfl) dX12_init_23 (fun q23 H hP hD hS => ?_)
  have hP : va_P D vwCl ((x, .inr (13, f_17)) :: (w_15 ++ [(q23, .inl (cI, 10, .inl (fun _ => 0)))])) H := hP
  have hD : va_D A ((x, .inr (13, f_17)) :: (w_15 ++ [(q23, .inl (cI, 10, .inl (fun _ => 0)))])) := hD
  generalize hw_23 : (w_15 ++ [(q23, .inl (cI, 10, .inl (fun _ => 0)))]) = w_23 at hP hD
  refine pf_RX12_16 S hin hK hP hD hS 0 rfl (v := .ref q23) (by rw [hn_17]; decide) rfl rfl dX12_init_25 (fun H locs hP hD hS => ?_)
  have hP : va_P D vwCl ((x, .inr (13, (f_17.set 5 (.ref q23)))) :: w_23) H := hP
  have hD : va_D A ((x, .inr (13, (f_17.set 5 (.ref q23)))) :: w_23) := hD
  generalize hf_25 : (f_17.set 5 (.ref q23)) = f_25 at hP hD
  have hn_25 : f_25.length = 91 := by rw [← hf_25, List.length_set]; exact hn_17
  refine lv_aload_n hx hb dX12_init_28 rfl (lv_at hl 0 rfl) ?_
  refine lv_bipush (v := 10) hx hb dX12_init_29 kbc_10 ?_
  refine newa_int S hK hP hD hS hA (N' := 10) (by decide) (by decide) (Nat.le_of_ble_eq_true rfl) (Nat.le_of_ble_eq_true rfl) (Nat.le_of_ble_eq_true rfl) dX12_init_31 (fun q31 H hP hD hS => ?_)
  have hP : va_P D vwCl ((x, .inr (13, f_25)) :: (w_23 ++ [(q31, .inl (cI, 10, .inl (fun _ => 0)))])) H := hP
  have hD : va_D A ((x, .inr (13, f_25)) :: (w_23 ++ [(q31, .inl (cI, 10, .inl (fun _ => 0)))])) := hD
  generalize hw_31 : (w_23 ++ [(q31, .inl (cI, 10, .inl (fun _ => 0)))]) = w_31 at hP hD
  refine pf_RX12_19 S hin hK hP hD hS 0 rfl (v := .ref q31) (by rw [hn_25]; decide) rfl rfl dX12_init_33 (fun H locs hP hD hS => ?_)
  have hP : va_P D vwCl ((x, .inr (13, (f_25.set 6 (.ref q31)))) :: w_31) H := hP
  have hD : va_D A ((x, .inr (13, (f_25.set 6 (.ref q31)))) :: w_31) := hD
  generalize hf_33 : (f_25.set 6 (.ref q31)) = f_33 at hP hD
  have hn_33 : f_33.length = 91 := by rw [← hf_33, List.length_set]; exact hn_25
  refine lv_aload_n hx hb dX12_init_36 rfl (lv_at hl 0 rfl) ?_
  refine lv_bipush (v := 10) hx hb dX12_init_37 kbc_10 ?_
  refine newa_int S hK hP hD hS hA (N' := 10) (by decide) (by decide) (Nat.le_of_ble_eq_true rfl) (Nat.le_of_ble_eq_true rfl) (Nat.le_of_ble_eq_true rfl) dX12_init_39 (fun q39 H hP hD hS => ?_)
  have hP : va_P D vwCl ((x, .inr (13, f_33)) :: (w_31 ++ [(q39, .inl (cI, 10, .inl (fun _ => 0)))])) H := hP
  have hD : va_D A ((x, .inr (13, f_33)) :: (w_31 ++ [(q39, .inl (cI, 10, .inl (fun _ => 0)))])) := hD
  generalize hw_39 : (w_31 ++ [(q39, .inl (cI, 10, .inl (fun _ => 0)))]) = w_39 at hP hD
  refine pf_RX12_22 S hin hK hP hD hS 0 rfl (v := .ref q39) (by rw [hn_33]; decide) rfl rfl dX12_init_41 (fun H locs hP hD hS => ?_)
  have hP : va_P D vwCl ((x, .inr (13, (f_33.set 7 (.ref q39)))) :: w_39) H := hP
  have hD : va_D A ((x, .inr (13, (f_33.set 7 (.ref q39)))) :: w_39) := hD
  generalize hf_41 : (f_33.set 7 (.ref q39)) = f_41 at hP hD
  have hn_41 : f_41.length = 91 := by rw [← hf_41, List.length_set]; exact hn_33
  refine lv_aload_n hx hb dX12_init_44 rfl (lv_at hl 0 rfl) ?_
  refine lv_bipush (v := 60) hx hb dX12_init_45 kbc_60 ?_
  refine newa_int S hK hP hD hS hA (N' := 60) (by decide) (by decide) (Nat.le_of_ble_eq_true rfl) (Nat.le_of_ble_eq_true rfl) (Nat.le_of_ble_eq_true rfl) dX12_init_47 (fun q47 H hP hD hS => ?_)
  have hP : va_P D vwCl ((x, .inr (13, f_41)) :: (w_39 ++ [(q47, .inl (cI, 60, .inl (fun _ => 0)))])) H := hP
  have hD : va_D A ((x, .inr (13, f_41)) :: (w_39 ++ [(q47, .inl (cI, 60, .inl (fun _ => 0)))])) := hD
  generalize hw_47 : (w_39 ++ [(q47, .inl (cI, 60, .inl (fun _ => 0)))]) = w_47 at hP hD
  refine pf_RX12_25 S hin hK hP hD hS 0 rfl (v := .ref q47) (by rw [hn_41]; decide) rfl rfl dX12_init_49 (fun H locs hP hD hS => ?_)
  have hP : va_P D vwCl ((x, .inr (13, (f_41.set 8 (.ref q47)))) :: w_47) H := hP
  have hD : va_D A ((x, .inr (13, (f_41.set 8 (.ref q47)))) :: w_47) := hD
  generalize hf_49 : (f_41.set 8 (.ref q47)) = f_49 at hP hD
  have hn_49 : f_49.length = 91 := by rw [← hf_49, List.length_set]; exact hn_41
  refine lv_aload_n hx hb dX12_init_52 rfl (lv_at hl 0 rfl) ?_
  refine lv_bipush (v := 60) hx hb dX12_init_53 kbc_60 ?_
  refine newa_int S hK hP hD hS hA (N' := 60) (by decide) (by decide) (Nat.le_of_ble_eq_true rfl) (Nat.le_of_ble_eq_true rfl) (Nat.le_of_ble_eq_true rfl) dX12_init_55 (fun q55 H hP hD hS => ?_)
  have hP : va_P D vwCl ((x, .inr (13, f_49)) :: (w_47 ++ [(q55, .inl (cI, 60, .inl (fun _ => 0)))])) H := hP
  have hD : va_D A ((x, .inr (13, f_49)) :: (w_47 ++ [(q55, .inl (cI, 60, .inl (fun _ => 0)))])) := hD
  generalize hw_55 : (w_47 ++ [(q55, .inl (cI, 60, .inl (fun _ => 0)))]) = w_55 at hP hD
  refine pf_RX12_28 S hin hK hP hD hS 0 rfl (v := .ref q55) (by rw [hn_49]; decide) rfl rfl dX12_init_57 (fun H locs hP hD hS => ?_)
  have hP : va_P D vwCl ((x, .inr (13, (f_49.set 9 (.ref q55)))) :: w_55) H := hP
  have hD : va_D A ((x, .inr (13, (f_49.set 9 (.ref q55)))) :: w_55) := hD
  generalize hf_57 : (f_49.set 9 (.ref q55)) = f_57 at hP hD
  have hn_57 : f_57.length = 91 := by rw [← hf_57, List.length_set]; exact hn_49
  refine lv_aload_n hx hb dX12_init_60 rfl (lv_at hl 0 rfl) ?_
  refine lv_bipush (v := 60) hx hb dX12_init_61 kbc_60 ?_
  refine newa_int S hK hP hD hS hA (N' := 60) (by decide) (by decide) (Nat.le_of_ble_eq_true rfl) (Nat.le_of_ble_eq_true rfl) (Nat.le_of_ble_eq_true rfl) dX12_init_63 (fun q63 H hP hD hS => ?_)
  have hP : va_P D vwCl ((x, .inr (13, f_57)) :: (w_55 ++ [(q63, .inl (cI, 60, .inl (fun _ => 0)))])) H := hP
  have hD : va_D A ((x, .inr (13, f_57)) :: (w_55 ++ [(q63, .inl (cI, 60, .inl (fun _ => 0)))])) := hD
  obtain ⟨w_63, hw_63⟩ : ∃ z : va_W, z = [(q7, .inl (cI, 10, .inl (fun _ => 0))), (q15, .inl (cI, 10, .inl (fun _ => 0))), (q23, .inl (cI, 10, .inl (fun _ => 0))), (q31, .inl (cI, 10, .inl (fun _ => 0))), (q39, .inl (cI, 10, .inl (fun _ => 0))), (q47, .inl (cI, 60, .inl (fun _ => 0))), (q55, .inl (cI, 60, .inl (fun _ => 0))), (q63, .inl (cI, 60, .inl (fun _ => 0)))] := ⟨_, rfl⟩
  have ew : (w_55 ++ [(q63, .inl (cI, 60, .inl (fun _ => 0)))]) = w_63 := by rw [hw_63, ← hw_55, ← hw_47, ← hw_39, ← hw_31, ← hw_23, ← hw_15, ← hw_7, hw_0] <;> rfl
  rw [ew] at hP hD
  refine pf_RX12_31 S hin hK hP hD hS 0 rfl (v := .ref q63) (by rw [hn_57]; decide) rfl rfl dX12_init_65 (fun H locs hP hD hS => ?_)
  have hP : va_P D vwCl ((x, .inr (13, (f_57.set 10 (.ref q63)))) :: w_63) H := hP
  have hD : va_D A ((x, .inr (13, (f_57.set 10 (.ref q63)))) :: w_63) := hD
  obtain ⟨f_65, hf_65⟩ : ∃ z : List Value, z = [.int 0, .int 0, .int 0, .ref q7, .ref q15, .ref q23, .ref q31, .ref q39, .ref q47, .ref q55, .ref q63, .null, .null, .null, .null, .null, .null, .null, .int 0, .int 0, .int 0, .int 0, .int 0, .int 0, .int 0, .int 0, .int 0, .null, .null, .null, .null, .null, .null, .null, .null, .null, .null, .null, .null, .null, .null, .null, .null, .null, .int 0, .int 0, .int 0, .null, .null, .null, .null, .null, .null, .null, .int 0, .int 0, .int 0, .int 0, .int 0, .null, .null, .null, .int 0, .int 0, .null, .null, .null, .null, .null, .null, .null, .int 0, .int 0, .int 0, .null, .int 0, .null, .null, .null, .null, .null, .null, .null, .int 0, .null, .null, .null, .null, .null, .null, .null] := ⟨_, rfl⟩
  have ef : (f_57.set 10 (.ref q63)) = f_65 := by rw [hf_65, ← hf_57, ← hf_49, ← hf_41, ← hf_33, ← hf_25, ← hf_17, ← hf_9, hf_0] <;> rfl
  have hn_65 : f_65.length = 91 := by rw [← ef, List.length_set]; exact hn_57
  rw [ef] at hP hD
  refine lv_aload_n hx hb dX12_init_68 rfl (lv_at hl 0 rfl) ?_
  refine lv_bipush (v := 60) hx hb dX12_init_69 kbc_60 ?_
  refine newa_int S hK hP hD hS hA (N' := 60) (by decide) (by decide) (Nat.le_of_ble_eq_true rfl) (Nat.le_of_ble_eq_true rfl) (Nat.le_of_ble_eq_true rfl) dX12_init_71 (fun q71 H hP hD hS => ?_)
  have hP : va_P D vwCl ((x, .inr (13, f_65)) :: (w_63 ++ [(q71, .inl (cI, 60, .inl (fun _ => 0)))])) H := hP
  have hD : va_D A ((x, .inr (13, f_65)) :: (w_63 ++ [(q71, .inl (cI, 60, .inl (fun _ => 0)))])) := hD
  generalize hw_71 : (w_63 ++ [(q71, .inl (cI, 60, .inl (fun _ => 0)))]) = w_71 at hP hD
  refine pf_RX12_34 S hin hK hP hD hS 0 rfl (v := .ref q71) (by rw [hn_65]; decide) rfl rfl dX12_init_73 (fun H locs hP hD hS => ?_)
  have hP : va_P D vwCl ((x, .inr (13, (f_65.set 11 (.ref q71)))) :: w_71) H := hP
  have hD : va_D A ((x, .inr (13, (f_65.set 11 (.ref q71)))) :: w_71) := hD
  generalize hf_73 : (f_65.set 11 (.ref q71)) = f_73 at hP hD
  have hn_73 : f_73.length = 91 := by rw [← hf_73, List.length_set]; exact hn_65
  refine lv_aload_n hx hb dX12_init_76 rfl (lv_at hl 0 rfl) ?_
  refine lv_bipush (v := 60) hx hb dX12_init_77 kbc_60 ?_
  refine newa_int S hK hP hD hS hA (N' := 60) (by decide) (by decide) (Nat.le_of_ble_eq_true rfl) (Nat.le_of_ble_eq_true rfl) (Nat.le_of_ble_eq_true rfl) dX12_init_79 (fun q79 H hP hD hS => ?_)
  have hP : va_P D vwCl ((x, .inr (13, f_73)) :: (w_71 ++ [(q79, .inl (cI, 60, .inl (fun _ => 0)))])) H := hP
  have hD : va_D A ((x, .inr (13, f_73)) :: (w_71 ++ [(q79, .inl (cI, 60, .inl (fun _ => 0)))])) := hD
  generalize hw_79 : (w_71 ++ [(q79, .inl (cI, 60, .inl (fun _ => 0)))]) = w_79 at hP hD
  refine pf_RX12_37 S hin hK hP hD hS 0 rfl (v := .ref q79) (by rw [hn_73]; decide) rfl rfl dX12_init_81 (fun H locs hP hD hS => ?_)
  have hP : va_P D vwCl ((x, .inr (13, (f_73.set 12 (.ref q79)))) :: w_79) H := hP
  have hD : va_D A ((x, .inr (13, (f_73.set 12 (.ref q79)))) :: w_79) := hD
  generalize hf_81 : (f_73.set 12 (.ref q79)) = f_81 at hP hD
  have hn_81 : f_81.length = 91 := by rw [← hf_81, List.length_set]; exact hn_73
  refine lv_aload_n hx hb dX12_init_84 rfl (lv_at hl 0 rfl) ?_
  refine lv_bipush (v := 60) hx hb dX12_init_85 kbc_60 ?_
  refine newa_int S hK hP hD hS hA (N' := 60) (by decide) (by decide) (Nat.le_of_ble_eq_true rfl) (Nat.le_of_ble_eq_true rfl) (Nat.le_of_ble_eq_true rfl) dX12_init_87 (fun q87 H hP hD hS => ?_)
  have hP : va_P D vwCl ((x, .inr (13, f_81)) :: (w_79 ++ [(q87, .inl (cI, 60, .inl (fun _ => 0)))])) H := hP
  have hD : va_D A ((x, .inr (13, f_81)) :: (w_79 ++ [(q87, .inl (cI, 60, .inl (fun _ => 0)))])) := hD
  generalize hw_87 : (w_79 ++ [(q87, .inl (cI, 60, .inl (fun _ => 0)))]) = w_87 at hP hD
  refine pf_RX12_40 S hin hK hP hD hS 0 rfl (v := .ref q87) (by rw [hn_81]; decide) rfl rfl dX12_init_89 (fun H locs hP hD hS => ?_)
  have hP : va_P D vwCl ((x, .inr (13, (f_81.set 13 (.ref q87)))) :: w_87) H := hP
  have hD : va_D A ((x, .inr (13, (f_81.set 13 (.ref q87)))) :: w_87) := hD
  generalize hf_89 : (f_81.set 13 (.ref q87)) = f_89 at hP hD
  have hn_89 : f_89.length = 91 := by rw [← hf_89, List.length_set]; exact hn_81
  refine lv_aload_n hx hb dX12_init_92 rfl (lv_at hl 0 rfl) ?_
  refine lv_bipush (v := 60) hx hb dX12_init_93 kbc_60 ?_
  refine newa_int S hK hP hD hS hA (N' := 60) (by decide) (by decide) (Nat.le_of_ble_eq_true rfl) (Nat.le_of_ble_eq_true rfl) (Nat.le_of_ble_eq_true rfl) dX12_init_95 (fun q95 H hP hD hS => ?_)
  have hP : va_P D vwCl ((x, .inr (13, f_89)) :: (w_87 ++ [(q95, .inl (cI, 60, .inl (fun _ => 0)))])) H := hP
  have hD : va_D A ((x, .inr (13, f_89)) :: (w_87 ++ [(q95, .inl (cI, 60, .inl (fun _ => 0)))])) := hD
  generalize hw_95 : (w_87 ++ [(q95, .inl (cI, 60, .inl (fun _ => 0)))]) = w_95 at hP hD
  refine pf_RX12_43 S hin hK hP hD hS 0 rfl (v := .ref q95) (by rw [hn_89]; decide) rfl rfl dX12_init_97 (fun H locs hP hD hS => ?_)
  have hP : va_P D vwCl ((x, .inr (13, (f_89.set 14 (.ref q95)))) :: w_95) H := hP
  have hD : va_D A ((x, .inr (13, (f_89.set 14 (.ref q95)))) :: w_95) := hD
  generalize hf_97 : (f_89.set 14 (.ref q95)) = f_97 at hP hD
  have hn_97 : f_97.length = 91 := by rw [← hf_97, List.length_set]; exact hn_89
  refine lv_aload_n hx hb dX12_init_100 rfl (lv_at hl 0 rfl) ?_
  refine lv_bipush (v := 60) hx hb dX12_init_101 kbc_60 ?_
  refine newa_int S hK hP hD hS hA (N' := 60) (by decide) (by decide) (Nat.le_of_ble_eq_true rfl) (Nat.le_of_ble_eq_true rfl) (Nat.le_of_ble_eq_true rfl) dX12_init_103 (fun q103 H hP hD hS => ?_)
  have hP : va_P D vwCl ((x, .inr (13, f_97)) :: (w_95 ++ [(q103, .inl (cI, 60, .inl (fun _ => 0)))])) H := hP
  have hD : va_D A ((x, .inr (13, f_97)) :: (w_95 ++ [(q103, .inl (cI, 60, .inl (fun _ => 0)))])) := hD
  generalize hw_103 : (w_95 ++ [(q103, .inl (cI, 60, .inl (fun _ => 0)))]) = w_103 at hP hD
  refine pf_RX12_46 S hin hK hP hD hS 0 rfl (v := .ref q103) (by rw [hn_97]; decide) rfl rfl dX12_init_105 (fun H locs hP hD hS => ?_)
  have hP : va_P D vwCl ((x, .inr (13, (f_97.set 15 (.ref q103)))) :: w_103) H := hP
  have hD : va_D A ((x, .inr (13, (f_97.set 15 (.ref q103)))) :: w_103) := hD
  generalize hf_105 : (f_97.set 15 (.ref q103)) = f_105 at hP hD
  have hn_105 : f_105.length = 91 := by rw [← hf_105, List.length_set]; exact hn_97
  refine lv_aload_n hx hb dX12_init_108 rfl (lv_at hl 0 rfl) ?_
  refine lv_bipush (v := 60) hx hb dX12_init_109 kbc_60 ?_
  refine newa_int S hK hP hD hS hA (N' := 60) (by decide) (by decide) (Nat.le_of_ble_eq_true rfl) (Nat.le_of_ble_eq_true rfl) (Nat.le_of_ble_eq_true rfl) dX12_init_111 (fun q111 H hP hD hS => ?_)
  have hP : va_P D vwCl ((x, .inr (13, f_105)) :: (w_103 ++ [(q111, .inl (cI, 60, .inl (fun _ => 0)))])) H := hP
  have hD : va_D A ((x, .inr (13, f_105)) :: (w_103 ++ [(q111, .inl (cI, 60, .inl (fun _ => 0)))])) := hD
  generalize hw_111 : (w_103 ++ [(q111, .inl (cI, 60, .inl (fun _ => 0)))]) = w_111 at hP hD
  refine pf_RX12_49 S hin hK hP hD hS 0 rfl (v := .ref q111) (by rw [hn_105]; decide) rfl rfl dX12_init_113 (fun H locs hP hD hS => ?_)
  have hP : va_P D vwCl ((x, .inr (13, (f_105.set 16 (.ref q111)))) :: w_111) H := hP
  have hD : va_D A ((x, .inr (13, (f_105.set 16 (.ref q111)))) :: w_111) := hD
  generalize hf_113 : (f_105.set 16 (.ref q111)) = f_113 at hP hD
  have hn_113 : f_113.length = 91 := by rw [← hf_113, List.length_set]; exact hn_105
  refine lv_aload_n hx hb dX12_init_116 rfl (lv_at hl 0 rfl) ?_
  refine lv_sipush (v := 200) hx hb dX12_init_117 (by decide) ?_
  refine newa_byte S hK hP hD hS hA (N' := 200) (by decide) (by decide) (Nat.le_of_ble_eq_true rfl) (Nat.le_of_ble_eq_true rfl) (Nat.le_of_ble_eq_true rfl) dX12_init_120 (fun q120 H hP hD hS => ?_)
  have hP : va_P D vwCl ((x, .inr (13, f_113)) :: (w_111 ++ [(q120, .inl (cB, 200, .inl (fun _ => 0)))])) H := hP
  have hD : va_D A ((x, .inr (13, f_113)) :: (w_111 ++ [(q120, .inl (cB, 200, .inl (fun _ => 0)))])) := hD
  generalize hw_120 : (w_111 ++ [(q120, .inl (cB, 200, .inl (fun _ => 0)))]) = w_120 at hP hD
  refine pf_RX12_52 S hin hK hP hD hS 0 rfl (v := .ref q120) (by rw [hn_113]; decide) rfl rfl dX12_init_122 (fun H locs hP hD hS => ?_)
  have hP : va_P D vwCl ((x, .inr (13, (f_113.set 17 (.ref q120)))) :: w_120) H := hP
  have hD : va_D A ((x, .inr (13, (f_113.set 17 (.ref q120)))) :: w_120) := hD
  generalize hf_122 : (f_113.set 17 (.ref q120)) = f_122 at hP hD
  have hn_122 : f_122.length = 91 := by rw [← hf_122, List.length_set]; exact hn_113
  refine lv_aload_n hx hb dX12_init_125 rfl (lv_at hl 0 rfl) ?_
  refine lv_sipush (v := 180) hx hb dX12_init_126 (by decide) ?_
  refine newa_int S hK hP hD hS hA (N' := 180) (by decide) (by decide) (Nat.le_of_ble_eq_true rfl) (Nat.le_of_ble_eq_true rfl) (Nat.le_of_ble_eq_true rfl) dX12_init_129 (fun q129 H hP hD hS => ?_)
  have hP : va_P D vwCl ((x, .inr (13, f_122)) :: (w_120 ++ [(q129, .inl (cI, 180, .inl (fun _ => 0)))])) H := hP
  have hD : va_D A ((x, .inr (13, f_122)) :: (w_120 ++ [(q129, .inl (cI, 180, .inl (fun _ => 0)))])) := hD
  obtain ⟨w_129, hw_129⟩ : ∃ z : va_W, z = [(q7, .inl (cI, 10, .inl (fun _ => 0))), (q15, .inl (cI, 10, .inl (fun _ => 0))), (q23, .inl (cI, 10, .inl (fun _ => 0))), (q31, .inl (cI, 10, .inl (fun _ => 0))), (q39, .inl (cI, 10, .inl (fun _ => 0))), (q47, .inl (cI, 60, .inl (fun _ => 0))), (q55, .inl (cI, 60, .inl (fun _ => 0))), (q63, .inl (cI, 60, .inl (fun _ => 0))), (q71, .inl (cI, 60, .inl (fun _ => 0))), (q79, .inl (cI, 60, .inl (fun _ => 0))), (q87, .inl (cI, 60, .inl (fun _ => 0))), (q95, .inl (cI, 60, .inl (fun _ => 0))), (q103, .inl (cI, 60, .inl (fun _ => 0))), (q111, .inl (cI, 60, .inl (fun _ => 0))), (q120, .inl (cB, 200, .inl (fun _ => 0))), (q129, .inl (cI, 180, .inl (fun _ => 0)))] := ⟨_, rfl⟩
  have ew : (w_120 ++ [(q129, .inl (cI, 180, .inl (fun _ => 0)))]) = w_129 := by rw [hw_129, ← hw_120, ← hw_111, ← hw_103, ← hw_95, ← hw_87, ← hw_79, ← hw_71, hw_63] <;> rfl
  rw [ew] at hP hD
  refine pf_RX12_56 S hin hK hP hD hS 0 rfl (v := .ref q129) (by rw [hn_122]; decide) rfl rfl dX12_init_131 (fun H locs hP hD hS => ?_)
  have hP : va_P D vwCl ((x, .inr (13, (f_122.set 27 (.ref q129)))) :: w_129) H := hP
  have hD : va_D A ((x, .inr (13, (f_122.set 27 (.ref q129)))) :: w_129) := hD
  obtain ⟨f_131, hf_131⟩ : ∃ z : List Value, z = [.int 0, .int 0, .int 0, .ref q7, .ref q15, .ref q23, .ref q31, .ref q39, .ref q47, .ref q55, .ref q63, .ref q71, .ref q79, .ref q87, .ref q95, .ref q103, .ref q111, .ref q120, .int 0, .int 0, .int 0, .int 0, .int 0, .int 0, .int 0, .int 0, .int 0, .ref q129, .null, .null, .null, .null, .null, .null, .null, .null, .null, .null, .null, .null, .null, .null, .null, .null, .int 0, .int 0, .int 0, .null, .null, .null, .null, .null, .null, .null, .int 0, .int 0, .int 0, .int 0, .int 0, .null, .null, .null, .int 0, .int 0, .null, .null, .null, .null, .null, .null, .null, .int 0, .int 0, .int 0, .null, .int 0, .null, .null, .null, .null, .null, .null, .null, .int 0, .null, .null, .null, .null, .null, .null, .null] := ⟨_, rfl⟩
  have ef : (f_122.set 27 (.ref q129)) = f_131 := by rw [hf_131, ← hf_122, ← hf_113, ← hf_105, ← hf_97, ← hf_89, ← hf_81, ← hf_73, hf_65] <;> rfl
  have hn_131 : f_131.length = 91 := by rw [← ef, List.length_set]; exact hn_122
  rw [ef] at hP hD
  refine lv_aload_n hx hb dX12_init_134 rfl (lv_at hl 0 rfl) ?_
  refine lv_sipush (v := 180) hx hb dX12_init_135 (by decide) ?_
  refine newa_int S hK hP hD hS hA (N' := 180) (by decide) (by decide) (Nat.le_of_ble_eq_true rfl) (Nat.le_of_ble_eq_true rfl) (Nat.le_of_ble_eq_true rfl) dX12_init_138 (fun q138 H hP hD hS => ?_)
  have hP : va_P D vwCl ((x, .inr (13, f_131)) :: (w_129 ++ [(q138, .inl (cI, 180, .inl (fun _ => 0)))])) H := hP
  have hD : va_D A ((x, .inr (13, f_131)) :: (w_129 ++ [(q138, .inl (cI, 180, .inl (fun _ => 0)))])) := hD
  generalize hw_138 : (w_129 ++ [(q138, .inl (cI, 180, .inl (fun _ => 0)))]) = w_138 at hP hD
  refine pf_RX12_59 S hin hK hP hD hS 0 rfl (v := .ref q138) (by rw [hn_131]; decide) rfl rfl dX12_init_140 (fun H locs hP hD hS => ?_)
  have hP : va_P D vwCl ((x, .inr (13, (f_131.set 28 (.ref q138)))) :: w_138) H := hP
  have hD : va_D A ((x, .inr (13, (f_131.set 28 (.ref q138)))) :: w_138) := hD
  generalize hf_140 : (f_131.set 28 (.ref q138)) = f_140 at hP hD
  have hn_140 : f_140.length = 91 := by rw [← hf_140, List.length_set]; exact hn_131
  refine lv_aload_n hx hb dX12_init_143 rfl (lv_at hl 0 rfl) ?_
  refine lv_bipush (v := 12) hx hb dX12_init_144 kbc_12 ?_
  refine newa_int S hK hP hD hS hA (N' := 12) (by decide) (by decide) (Nat.le_of_ble_eq_true rfl) (Nat.le_of_ble_eq_true rfl) (Nat.le_of_ble_eq_true rfl) dX12_init_146 (fun q146 H hP hD hS => ?_)
  have hP : va_P D vwCl ((x, .inr (13, f_140)) :: (w_138 ++ [(q146, .inl (cI, 12, .inl (fun _ => 0)))])) H := hP
  have hD : va_D A ((x, .inr (13, f_140)) :: (w_138 ++ [(q146, .inl (cI, 12, .inl (fun _ => 0)))])) := hD
  generalize hw_146 : (w_138 ++ [(q146, .inl (cI, 12, .inl (fun _ => 0)))]) = w_146 at hP hD
  refine pf_RX12_62 S hin hK hP hD hS 0 rfl (v := .ref q146) (by rw [hn_140]; decide) rfl rfl dX12_init_148 (fun H locs hP hD hS => ?_)
  have hP : va_P D vwCl ((x, .inr (13, (f_140.set 29 (.ref q146)))) :: w_146) H := hP
  have hD : va_D A ((x, .inr (13, (f_140.set 29 (.ref q146)))) :: w_146) := hD
  generalize hf_148 : (f_140.set 29 (.ref q146)) = f_148 at hP hD
  have hn_148 : f_148.length = 91 := by rw [← hf_148, List.length_set]; exact hn_140
  refine lv_aload_n hx hb dX12_init_151 rfl (lv_at hl 0 rfl) ?_
  refine lv_bipush (v := 12) hx hb dX12_init_152 kbc_12 ?_
  refine newa_int S hK hP hD hS hA (N' := 12) (by decide) (by decide) (Nat.le_of_ble_eq_true rfl) (Nat.le_of_ble_eq_true rfl) (Nat.le_of_ble_eq_true rfl) dX12_init_154 (fun q154 H hP hD hS => ?_)
  have hP : va_P D vwCl ((x, .inr (13, f_148)) :: (w_146 ++ [(q154, .inl (cI, 12, .inl (fun _ => 0)))])) H := hP
  have hD : va_D A ((x, .inr (13, f_148)) :: (w_146 ++ [(q154, .inl (cI, 12, .inl (fun _ => 0)))])) := hD
  generalize hw_154 : (w_146 ++ [(q154, .inl (cI, 12, .inl (fun _ => 0)))]) = w_154 at hP hD
  refine pf_RX12_65 S hin hK hP hD hS 0 rfl (v := .ref q154) (by rw [hn_148]; decide) rfl rfl dX12_init_156 (fun H locs hP hD hS => ?_)
  have hP : va_P D vwCl ((x, .inr (13, (f_148.set 30 (.ref q154)))) :: w_154) H := hP
  have hD : va_D A ((x, .inr (13, (f_148.set 30 (.ref q154)))) :: w_154) := hD
  generalize hf_156 : (f_148.set 30 (.ref q154)) = f_156 at hP hD
  have hn_156 : f_156.length = 91 := by rw [← hf_156, List.length_set]; exact hn_148
  refine lv_aload_n hx hb dX12_init_159 rfl (lv_at hl 0 rfl) ?_
  refine lv_bipush (v := 12) hx hb dX12_init_160 kbc_12 ?_
  refine newa_int S hK hP hD hS hA (N' := 12) (by decide) (by decide) (Nat.le_of_ble_eq_true rfl) (Nat.le_of_ble_eq_true rfl) (Nat.le_of_ble_eq_true rfl) dX12_init_162 (fun q162 H hP hD hS => ?_)
  have hP : va_P D vwCl ((x, .inr (13, f_156)) :: (w_154 ++ [(q162, .inl (cI, 12, .inl (fun _ => 0)))])) H := hP
  have hD : va_D A ((x, .inr (13, f_156)) :: (w_154 ++ [(q162, .inl (cI, 12, .inl (fun _ => 0)))])) := hD
  generalize hw_162 : (w_154 ++ [(q162, .inl (cI, 12, .inl (fun _ => 0)))]) = w_162 at hP hD
  refine pf_RX12_68 S hin hK hP hD hS 0 rfl (v := .ref q162) (by rw [hn_156]; decide) rfl rfl dX12_init_164 (fun H locs hP hD hS => ?_)
  have hP : va_P D vwCl ((x, .inr (13, (f_156.set 31 (.ref q162)))) :: w_162) H := hP
  have hD : va_D A ((x, .inr (13, (f_156.set 31 (.ref q162)))) :: w_162) := hD
  generalize hf_164 : (f_156.set 31 (.ref q162)) = f_164 at hP hD
  have hn_164 : f_164.length = 91 := by rw [← hf_164, List.length_set]; exact hn_156
  refine lv_aload_n hx hb dX12_init_167 rfl (lv_at hl 0 rfl) ?_
  refine lv_sipush (v := 1980) hx hb dX12_init_168 (by decide) ?_
  refine newa_int S hK hP hD hS hA (N' := 1980) (by decide) (by decide) (Nat.le_of_ble_eq_true rfl) (Nat.le_of_ble_eq_true rfl) (Nat.le_of_ble_eq_true rfl) dX12_init_171 (fun q171 H hP hD hS => ?_)
  have hP : va_P D vwCl ((x, .inr (13, f_164)) :: (w_162 ++ [(q171, .inl (cI, 1980, .inl (fun _ => 0)))])) H := hP
  have hD : va_D A ((x, .inr (13, f_164)) :: (w_162 ++ [(q171, .inl (cI, 1980, .inl (fun _ => 0)))])) := hD
  generalize hw_171 : (w_162 ++ [(q171, .inl (cI, 1980, .inl (fun _ => 0)))]) = w_171 at hP hD
  refine pf_RX12_71 S hin hK hP hD hS 0 rfl (v := .ref q171) (by rw [hn_164]; decide) rfl rfl dX12_init_173 (fun H locs hP hD hS => ?_)
  have hP : va_P D vwCl ((x, .inr (13, (f_164.set 32 (.ref q171)))) :: w_171) H := hP
  have hD : va_D A ((x, .inr (13, (f_164.set 32 (.ref q171)))) :: w_171) := hD
  generalize hf_173 : (f_164.set 32 (.ref q171)) = f_173 at hP hD
  have hn_173 : f_173.length = 91 := by rw [← hf_173, List.length_set]; exact hn_164
  refine lv_aload_n hx hb dX12_init_176 rfl (lv_at hl 0 rfl) ?_
  refine lv_bipush (v := 11) hx hb dX12_init_177 kbc_11 ?_
  refine newa_int S hK hP hD hS hA (N' := 11) (by decide) (by decide) (Nat.le_of_ble_eq_true rfl) (Nat.le_of_ble_eq_true rfl) (Nat.le_of_ble_eq_true rfl) dX12_init_179 (fun q179 H hP hD hS => ?_)
  have hP : va_P D vwCl ((x, .inr (13, f_173)) :: (w_171 ++ [(q179, .inl (cI, 11, .inl (fun _ => 0)))])) H := hP
  have hD : va_D A ((x, .inr (13, f_173)) :: (w_171 ++ [(q179, .inl (cI, 11, .inl (fun _ => 0)))])) := hD
  generalize hw_179 : (w_171 ++ [(q179, .inl (cI, 11, .inl (fun _ => 0)))]) = w_179 at hP hD
  refine pf_RX12_74 S hin hK hP hD hS 0 rfl (v := .ref q179) (by rw [hn_173]; decide) rfl rfl dX12_init_181 (fun H locs hP hD hS => ?_)
  have hP : va_P D vwCl ((x, .inr (13, (f_173.set 33 (.ref q179)))) :: w_179) H := hP
  have hD : va_D A ((x, .inr (13, (f_173.set 33 (.ref q179)))) :: w_179) := hD
  generalize hf_181 : (f_173.set 33 (.ref q179)) = f_181 at hP hD
  have hn_181 : f_181.length = 91 := by rw [← hf_181, List.length_set]; exact hn_173
  refine lv_aload_n hx hb dX12_init_184 rfl (lv_at hl 0 rfl) ?_
  refine lv_sipush (v := 132) hx hb dX12_init_185 (by decide) ?_
  refine newa_int S hK hP hD hS hA (N' := 132) (by decide) (by decide) (Nat.le_of_ble_eq_true rfl) (Nat.le_of_ble_eq_true rfl) (Nat.le_of_ble_eq_true rfl) dX12_init_188 (fun q188 H hP hD hS => ?_)
  have hP : va_P D vwCl ((x, .inr (13, f_181)) :: (w_179 ++ [(q188, .inl (cI, 132, .inl (fun _ => 0)))])) H := hP
  have hD : va_D A ((x, .inr (13, f_181)) :: (w_179 ++ [(q188, .inl (cI, 132, .inl (fun _ => 0)))])) := hD
  generalize hw_188 : (w_179 ++ [(q188, .inl (cI, 132, .inl (fun _ => 0)))]) = w_188 at hP hD
  refine pf_RX12_77 S hin hK hP hD hS 0 rfl (v := .ref q188) (by rw [hn_181]; decide) rfl rfl dX12_init_190 (fun H locs hP hD hS => ?_)
  have hP : va_P D vwCl ((x, .inr (13, (f_181.set 34 (.ref q188)))) :: w_188) H := hP
  have hD : va_D A ((x, .inr (13, (f_181.set 34 (.ref q188)))) :: w_188) := hD
  generalize hf_190 : (f_181.set 34 (.ref q188)) = f_190 at hP hD
  have hn_190 : f_190.length = 91 := by rw [← hf_190, List.length_set]; exact hn_181
  refine lv_aload_n hx hb dX12_init_193 rfl (lv_at hl 0 rfl) ?_
  refine lv_sipush (v := 132) hx hb dX12_init_194 (by decide) ?_
  refine newa_int S hK hP hD hS hA (N' := 132) (by decide) (by decide) (Nat.le_of_ble_eq_true rfl) (Nat.le_of_ble_eq_true rfl) (Nat.le_of_ble_eq_true rfl) dX12_init_197 (fun q197 H hP hD hS => ?_)
  have hP : va_P D vwCl ((x, .inr (13, f_190)) :: (w_188 ++ [(q197, .inl (cI, 132, .inl (fun _ => 0)))])) H := hP
  have hD : va_D A ((x, .inr (13, f_190)) :: (w_188 ++ [(q197, .inl (cI, 132, .inl (fun _ => 0)))])) := hD
  obtain ⟨w_197, hw_197⟩ : ∃ z : va_W, z = [(q7, .inl (cI, 10, .inl (fun _ => 0))), (q15, .inl (cI, 10, .inl (fun _ => 0))), (q23, .inl (cI, 10, .inl (fun _ => 0))), (q31, .inl (cI, 10, .inl (fun _ => 0))), (q39, .inl (cI, 10, .inl (fun _ => 0))), (q47, .inl (cI, 60, .inl (fun _ => 0))), (q55, .inl (cI, 60, .inl (fun _ => 0))), (q63, .inl (cI, 60, .inl (fun _ => 0))), (q71, .inl (cI, 60, .inl (fun _ => 0))), (q79, .inl (cI, 60, .inl (fun _ => 0))), (q87, .inl (cI, 60, .inl (fun _ => 0))), (q95, .inl (cI, 60, .inl (fun _ => 0))), (q103, .inl (cI, 60, .inl (fun _ => 0))), (q111, .inl (cI, 60, .inl (fun _ => 0))), (q120, .inl (cB, 200, .inl (fun _ => 0))), (q129, .inl (cI, 180, .inl (fun _ => 0))), (q138, .inl (cI, 180, .inl (fun _ => 0))), (q146, .inl (cI, 12, .inl (fun _ => 0))), (q154, .inl (cI, 12, .inl (fun _ => 0))), (q162, .inl (cI, 12, .inl (fun _ => 0))), (q171, .inl (cI, 1980, .inl (fun _ => 0))), (q179, .inl (cI, 11, .inl (fun _ => 0))), (q188, .inl (cI, 132, .inl (fun _ => 0))), (q197, .inl (cI, 132, .inl (fun _ => 0)))] := ⟨_, rfl⟩
  have ew : (w_188 ++ [(q197, .inl (cI, 132, .inl (fun _ => 0)))]) = w_197 := by rw [hw_197, ← hw_188, ← hw_179, ← hw_171, ← hw_162, ← hw_154, ← hw_146, ← hw_138, hw_129] <;> rfl
  rw [ew] at hP hD
  refine pf_RX12_80 S hin hK hP hD hS 0 rfl (v := .ref q197) (by rw [hn_190]; decide) rfl rfl dX12_init_199 (fun H locs hP hD hS => ?_)
  have hP : va_P D vwCl ((x, .inr (13, (f_190.set 35 (.ref q197)))) :: w_197) H := hP
  have hD : va_D A ((x, .inr (13, (f_190.set 35 (.ref q197)))) :: w_197) := hD
  obtain ⟨f_199, hf_199⟩ : ∃ z : List Value, z = [.int 0, .int 0, .int 0, .ref q7, .ref q15, .ref q23, .ref q31, .ref q39, .ref q47, .ref q55, .ref q63, .ref q71, .ref q79, .ref q87, .ref q95, .ref q103, .ref q111, .ref q120, .int 0, .int 0, .int 0, .int 0, .int 0, .int 0, .int 0, .int 0, .int 0, .ref q129, .ref q138, .ref q146, .ref q154, .ref q162, .ref q171, .ref q179, .ref q188, .ref q197, .null, .null, .null, .null, .null, .null, .null, .null, .int 0, .int 0, .int 0, .null, .null, .null, .null, .null, .null, .null, .int 0, .int 0, .int 0, .int 0, .int 0, .null, .null, .null, .int 0, .int 0, .null, .null, .null, .null, .null, .null, .null, .int 0, .int 0, .int 0, .null, .int 0, .null, .null, .null, .null, .null, .null, .null, .int 0, .null, .null, .null, .null, .null, .null, .null] := ⟨_, rfl⟩
  have ef : (f_190.set 35 (.ref q197)) = f_199 := by rw [hf_199, ← hf_190, ← hf_181, ← hf_173, ← hf_164, ← hf_156, ← hf_148, ← hf_140, hf_131] <;> rfl
  have hn_199 : f_199.length = 91 := by rw [← ef, List.length_set]; exact hn_190
  rw [ef] at hP hD
  refine lv_aload_n hx hb dX12_init_202 rfl (lv_at hl 0 rfl) ?_
  refine lv_sipush (v := 132) hx hb dX12_init_203 (by decide) ?_
  refine newa_int S hK hP hD hS hA (N' := 132) (by decide) (by decide) (Nat.le_of_ble_eq_true rfl) (Nat.le_of_ble_eq_true rfl) (Nat.le_of_ble_eq_true rfl) dX12_init_206 (fun q206 H hP hD hS => ?_)
  have hP : va_P D vwCl ((x, .inr (13, f_199)) :: (w_197 ++ [(q206, .inl (cI, 132, .inl (fun _ => 0)))])) H := hP
  have hD : va_D A ((x, .inr (13, f_199)) :: (w_197 ++ [(q206, .inl (cI, 132, .inl (fun _ => 0)))])) := hD
  generalize hw_206 : (w_197 ++ [(q206, .inl (cI, 132, .inl (fun _ => 0)))]) = w_206 at hP hD
  refine pf_RX12_83 S hin hK hP hD hS 0 rfl (v := .ref q206) (by rw [hn_199]; decide) rfl rfl dX12_init_208 (fun H locs hP hD hS => ?_)
  have hP : va_P D vwCl ((x, .inr (13, (f_199.set 36 (.ref q206)))) :: w_206) H := hP
  have hD : va_D A ((x, .inr (13, (f_199.set 36 (.ref q206)))) :: w_206) := hD
  generalize hf_208 : (f_199.set 36 (.ref q206)) = f_208 at hP hD
  have hn_208 : f_208.length = 91 := by rw [← hf_208, List.length_set]; exact hn_199
  refine lv_aload_n hx hb dX12_init_211 rfl (lv_at hl 0 rfl) ?_
  refine lv_sipush (v := 180) hx hb dX12_init_212 (by decide) ?_
  refine newa_int S hK hP hD hS hA (N' := 180) (by decide) (by decide) (Nat.le_of_ble_eq_true rfl) (Nat.le_of_ble_eq_true rfl) (Nat.le_of_ble_eq_true rfl) dX12_init_215 (fun q215 H hP hD hS => ?_)
  have hP : va_P D vwCl ((x, .inr (13, f_208)) :: (w_206 ++ [(q215, .inl (cI, 180, .inl (fun _ => 0)))])) H := hP
  have hD : va_D A ((x, .inr (13, f_208)) :: (w_206 ++ [(q215, .inl (cI, 180, .inl (fun _ => 0)))])) := hD
  generalize hw_215 : (w_206 ++ [(q215, .inl (cI, 180, .inl (fun _ => 0)))]) = w_215 at hP hD
  refine pf_RX12_86 S hin hK hP hD hS 0 rfl (v := .ref q215) (by rw [hn_208]; decide) rfl rfl dX12_init_217 (fun H locs hP hD hS => ?_)
  have hP : va_P D vwCl ((x, .inr (13, (f_208.set 37 (.ref q215)))) :: w_215) H := hP
  have hD : va_D A ((x, .inr (13, (f_208.set 37 (.ref q215)))) :: w_215) := hD
  generalize hf_217 : (f_208.set 37 (.ref q215)) = f_217 at hP hD
  have hn_217 : f_217.length = 91 := by rw [← hf_217, List.length_set]; exact hn_208
  refine lv_aload_n hx hb dX12_init_220 rfl (lv_at hl 0 rfl) ?_
  refine lv_bipush (v := 11) hx hb dX12_init_221 kbc_11 ?_
  refine newa_int S hK hP hD hS hA (N' := 11) (by decide) (by decide) (Nat.le_of_ble_eq_true rfl) (Nat.le_of_ble_eq_true rfl) (Nat.le_of_ble_eq_true rfl) dX12_init_223 (fun q223 H hP hD hS => ?_)
  have hP : va_P D vwCl ((x, .inr (13, f_217)) :: (w_215 ++ [(q223, .inl (cI, 11, .inl (fun _ => 0)))])) H := hP
  have hD : va_D A ((x, .inr (13, f_217)) :: (w_215 ++ [(q223, .inl (cI, 11, .inl (fun _ => 0)))])) := hD
  generalize hw_223 : (w_215 ++ [(q223, .inl (cI, 11, .inl (fun _ => 0)))]) = w_223 at hP hD
  refine pf_RX12_89 S hin hK hP hD hS 0 rfl (v := .ref q223) (by rw [hn_217]; decide) rfl rfl dX12_init_225 (fun H locs hP hD hS => ?_)
  have hP : va_P D vwCl ((x, .inr (13, (f_217.set 38 (.ref q223)))) :: w_223) H := hP
  have hD : va_D A ((x, .inr (13, (f_217.set 38 (.ref q223)))) :: w_223) := hD
  generalize hf_225 : (f_217.set 38 (.ref q223)) = f_225 at hP hD
  have hn_225 : f_225.length = 91 := by rw [← hf_225, List.length_set]; exact hn_217
  refine lv_aload_n hx hb dX12_init_228 rfl (lv_at hl 0 rfl) ?_
  refine lv_bipush (v := 58) hx hb dX12_init_229 kbc_58 ?_
  refine newa_int S hK hP hD hS hA (N' := 58) (by decide) (by decide) (Nat.le_of_ble_eq_true rfl) (Nat.le_of_ble_eq_true rfl) (Nat.le_of_ble_eq_true rfl) dX12_init_231 (fun q231 H hP hD hS => ?_)
  have hP : va_P D vwCl ((x, .inr (13, f_225)) :: (w_223 ++ [(q231, .inl (cI, 58, .inl (fun _ => 0)))])) H := hP
  have hD : va_D A ((x, .inr (13, f_225)) :: (w_223 ++ [(q231, .inl (cI, 58, .inl (fun _ => 0)))])) := hD
  generalize hw_231 : (w_223 ++ [(q231, .inl (cI, 58, .inl (fun _ => 0)))]) = w_231 at hP hD
  refine pf_RX12_92 S hin hK hP hD hS 0 rfl (v := .ref q231) (by rw [hn_225]; decide) rfl rfl dX12_init_233 (fun H locs hP hD hS => ?_)
  have hP : va_P D vwCl ((x, .inr (13, (f_225.set 39 (.ref q231)))) :: w_231) H := hP
  have hD : va_D A ((x, .inr (13, (f_225.set 39 (.ref q231)))) :: w_231) := hD
  generalize hf_233 : (f_225.set 39 (.ref q231)) = f_233 at hP hD
  have hn_233 : f_233.length = 91 := by rw [← hf_233, List.length_set]; exact hn_225
  refine lv_aload_n hx hb dX12_init_236 rfl (lv_at hl 0 rfl) ?_
  refine lv_bipush (v := 10) hx hb dX12_init_237 kbc_10 ?_
  refine newa_int S hK hP hD hS hA (N' := 10) (by decide) (by decide) (Nat.le_of_ble_eq_true rfl) (Nat.le_of_ble_eq_true rfl) (Nat.le_of_ble_eq_true rfl) dX12_init_239 (fun q239 H hP hD hS => ?_)
  have hP : va_P D vwCl ((x, .inr (13, f_233)) :: (w_231 ++ [(q239, .inl (cI, 10, .inl (fun _ => 0)))])) H := hP
  have hD : va_D A ((x, .inr (13, f_233)) :: (w_231 ++ [(q239, .inl (cI, 10, .inl (fun _ => 0)))])) := hD
  generalize hw_239 : (w_231 ++ [(q239, .inl (cI, 10, .inl (fun _ => 0)))]) = w_239 at hP hD
  refine pf_RX12_95 S hin hK hP hD hS 0 rfl (v := .ref q239) (by rw [hn_233]; decide) rfl rfl dX12_init_241 (fun H locs hP hD hS => ?_)
  have hP : va_P D vwCl ((x, .inr (13, (f_233.set 40 (.ref q239)))) :: w_239) H := hP
  have hD : va_D A ((x, .inr (13, (f_233.set 40 (.ref q239)))) :: w_239) := hD
  generalize hf_241 : (f_233.set 40 (.ref q239)) = f_241 at hP hD
  have hn_241 : f_241.length = 91 := by rw [← hf_241, List.length_set]; exact hn_233
  refine lv_aload_n hx hb dX12_init_244 rfl (lv_at hl 0 rfl) ?_
  refine lv_sipush (v := 400) hx hb dX12_init_245 (by decide) ?_
  refine newa_int S hK hP hD hS hA (N' := 400) (by decide) (by decide) (Nat.le_of_ble_eq_true rfl) (Nat.le_of_ble_eq_true rfl) (Nat.le_of_ble_eq_true rfl) dX12_init_248 (fun q248 H hP hD hS => ?_)
  have hP : va_P D vwCl ((x, .inr (13, f_241)) :: (w_239 ++ [(q248, .inl (cI, 400, .inl (fun _ => 0)))])) H := hP
  have hD : va_D A ((x, .inr (13, f_241)) :: (w_239 ++ [(q248, .inl (cI, 400, .inl (fun _ => 0)))])) := hD
  generalize hw_248 : (w_239 ++ [(q248, .inl (cI, 400, .inl (fun _ => 0)))]) = w_248 at hP hD
  refine pf_RX12_98 S hin hK hP hD hS 0 rfl (v := .ref q248) (by rw [hn_241]; decide) rfl rfl dX12_init_250 (fun H locs hP hD hS => ?_)
  have hP : va_P D vwCl ((x, .inr (13, (f_241.set 41 (.ref q248)))) :: w_248) H := hP
  have hD : va_D A ((x, .inr (13, (f_241.set 41 (.ref q248)))) :: w_248) := hD
  generalize hf_250 : (f_241.set 41 (.ref q248)) = f_250 at hP hD
  have hn_250 : f_250.length = 91 := by rw [← hf_250, List.length_set]; exact hn_241
  refine lv_aload_n hx hb dX12_init_253 rfl (lv_at hl 0 rfl) ?_
  refine lv_bipush (v := 10) hx hb dX12_init_254 kbc_10 ?_
  refine newa_int S hK hP hD hS hA (N' := 10) (by decide) (by decide) (Nat.le_of_ble_eq_true rfl) (Nat.le_of_ble_eq_true rfl) (Nat.le_of_ble_eq_true rfl) dX12_init_256 (fun q256 H hP hD hS => ?_)
  have hP : va_P D vwCl ((x, .inr (13, f_250)) :: (w_248 ++ [(q256, .inl (cI, 10, .inl (fun _ => 0)))])) H := hP
  have hD : va_D A ((x, .inr (13, f_250)) :: (w_248 ++ [(q256, .inl (cI, 10, .inl (fun _ => 0)))])) := hD
  generalize hw_256 : (w_248 ++ [(q256, .inl (cI, 10, .inl (fun _ => 0)))]) = w_256 at hP hD
  refine pf_RX12_101 S hin hK hP hD hS 0 rfl (v := .ref q256) (by rw [hn_250]; decide) rfl rfl dX12_init_258 (fun H locs hP hD hS => ?_)
  have hP : va_P D vwCl ((x, .inr (13, (f_250.set 42 (.ref q256)))) :: w_256) H := hP
  have hD : va_D A ((x, .inr (13, (f_250.set 42 (.ref q256)))) :: w_256) := hD
  generalize hf_258 : (f_250.set 42 (.ref q256)) = f_258 at hP hD
  have hn_258 : f_258.length = 91 := by rw [← hf_258, List.length_set]; exact hn_250
  refine lv_aload_n hx hb dX12_init_261 rfl (lv_at hl 0 rfl) ?_
  refine lv_sipush (v := 2048) hx hb dX12_init_262 (by decide) ?_
  refine newa_int S hK hP hD hS hA (N' := 2048) (by decide) (by decide) (Nat.le_of_ble_eq_true rfl) (Nat.le_of_ble_eq_true rfl) (Nat.le_of_ble_eq_true rfl) dX12_init_265 (fun q265 H hP hD hS => ?_)
  have hP : va_P D vwCl ((x, .inr (13, f_258)) :: (w_256 ++ [(q265, .inl (cI, 2048, .inl (fun _ => 0)))])) H := hP
  have hD : va_D A ((x, .inr (13, f_258)) :: (w_256 ++ [(q265, .inl (cI, 2048, .inl (fun _ => 0)))])) := hD
  obtain ⟨w_265, hw_265⟩ : ∃ z : va_W, z = [(q7, .inl (cI, 10, .inl (fun _ => 0))), (q15, .inl (cI, 10, .inl (fun _ => 0))), (q23, .inl (cI, 10, .inl (fun _ => 0))), (q31, .inl (cI, 10, .inl (fun _ => 0))), (q39, .inl (cI, 10, .inl (fun _ => 0))), (q47, .inl (cI, 60, .inl (fun _ => 0))), (q55, .inl (cI, 60, .inl (fun _ => 0))), (q63, .inl (cI, 60, .inl (fun _ => 0))), (q71, .inl (cI, 60, .inl (fun _ => 0))), (q79, .inl (cI, 60, .inl (fun _ => 0))), (q87, .inl (cI, 60, .inl (fun _ => 0))), (q95, .inl (cI, 60, .inl (fun _ => 0))), (q103, .inl (cI, 60, .inl (fun _ => 0))), (q111, .inl (cI, 60, .inl (fun _ => 0))), (q120, .inl (cB, 200, .inl (fun _ => 0))), (q129, .inl (cI, 180, .inl (fun _ => 0))), (q138, .inl (cI, 180, .inl (fun _ => 0))), (q146, .inl (cI, 12, .inl (fun _ => 0))), (q154, .inl (cI, 12, .inl (fun _ => 0))), (q162, .inl (cI, 12, .inl (fun _ => 0))), (q171, .inl (cI, 1980, .inl (fun _ => 0))), (q179, .inl (cI, 11, .inl (fun _ => 0))), (q188, .inl (cI, 132, .inl (fun _ => 0))), (q197, .inl (cI, 132, .inl (fun _ => 0))), (q206, .inl (cI, 132, .inl (fun _ => 0))), (q215, .inl (cI, 180, .inl (fun _ => 0))), (q223, .inl (cI, 11, .inl (fun _ => 0))), (q231, .inl (cI, 58, .inl (fun _ => 0))), (q239, .inl (cI, 10, .inl (fun _ => 0))), (q248, .inl (cI, 400, .inl (fun _ => 0))), (q256, .inl (cI, 10, .inl (fun _ => 0))), (q265, .inl (cI, 2048, .inl (fun _ => 0)))] := ⟨_, rfl⟩
  have ew : (w_256 ++ [(q265, .inl (cI, 2048, .inl (fun _ => 0)))]) = w_265 := by rw [hw_265, ← hw_256, ← hw_248, ← hw_239, ← hw_231, ← hw_223, ← hw_215, ← hw_206, hw_197] <;> rfl
  rw [ew] at hP hD
  refine pf_RX12_104 S hin hK hP hD hS 0 rfl (v := .ref q265) (by rw [hn_258]; decide) rfl rfl dX12_init_267 (fun H locs hP hD hS => ?_)
  have hP : va_P D vwCl ((x, .inr (13, (f_258.set 43 (.ref q265)))) :: w_265) H := hP
  have hD : va_D A ((x, .inr (13, (f_258.set 43 (.ref q265)))) :: w_265) := hD
  obtain ⟨f_267, hf_267⟩ : ∃ z : List Value, z = [.int 0, .int 0, .int 0, .ref q7, .ref q15, .ref q23, .ref q31, .ref q39, .ref q47, .ref q55, .ref q63, .ref q71, .ref q79, .ref q87, .ref q95, .ref q103, .ref q111, .ref q120, .int 0, .int 0, .int 0, .int 0, .int 0, .int 0, .int 0, .int 0, .int 0, .ref q129, .ref q138, .ref q146, .ref q154, .ref q162, .ref q171, .ref q179, .ref q188, .ref q197, .ref q206, .ref q215, .ref q223, .ref q231, .ref q239, .ref q248, .ref q256, .ref q265, .int 0, .int 0, .int 0, .null, .null, .null, .null, .null, .null, .null, .int 0, .int 0, .int 0, .int 0, .int 0, .null, .null, .null, .int 0, .int 0, .null, .null, .null, .null, .null, .null, .null, .int 0, .int 0, .int 0, .null, .int 0, .null, .null, .null, .null, .null, .null, .null, .int 0, .null, .null, .null, .null, .null, .null, .null] := ⟨_, rfl⟩
  have ef : (f_258.set 43 (.ref q265)) = f_267 := by rw [hf_267, ← hf_258, ← hf_250, ← hf_241, ← hf_233, ← hf_225, ← hf_217, ← hf_208, hf_199] <;> rfl
  have hn_267 : f_267.length = 91 := by rw [← ef, List.length_set]; exact hn_258
  rw [ef] at hP hD
  refine lv_aload_n hx hb dX12_init_270 rfl (lv_at hl 0 rfl) ?_
  refine lv_iconst (v := 3) hx hb dX12_init_271 kic_3 ?_
  refine newa_int S hK hP hD hS hA (N' := 3) (by decide) (by decide) (Nat.le_of_ble_eq_true rfl) (Nat.le_of_ble_eq_true rfl) (Nat.le_of_ble_eq_true rfl) dX12_init_272 (fun q272 H hP hD hS => ?_)
  have hP : va_P D vwCl ((x, .inr (13, f_267)) :: (w_265 ++ [(q272, .inl (cI, 3, .inl (fun _ => 0)))])) H := hP
  have hD : va_D A ((x, .inr (13, f_267)) :: (w_265 ++ [(q272, .inl (cI, 3, .inl (fun _ => 0)))])) := hD
  generalize hw_272 : (w_265 ++ [(q272, .inl (cI, 3, .inl (fun _ => 0)))]) = w_272 at hP hD
  refine pf_RX12_107 S hin hK hP hD hS 0 rfl (v := .ref q272) (by rw [hn_267]; decide) rfl rfl dX12_init_274 (fun H locs hP hD hS => ?_)
  have hP : va_P D vwCl ((x, .inr (13, (f_267.set 47 (.ref q272)))) :: w_272) H := hP
  have hD : va_D A ((x, .inr (13, (f_267.set 47 (.ref q272)))) :: w_272) := hD
  generalize hf_274 : (f_267.set 47 (.ref q272)) = f_274 at hP hD
  have hn_274 : f_274.length = 91 := by rw [← hf_274, List.length_set]; exact hn_267
  refine lv_aload_n hx hb dX12_init_277 rfl (lv_at hl 0 rfl) ?_
  refine lv_iconst (v := 3) hx hb dX12_init_278 kic_3 ?_
  refine newa_int S hK hP hD hS hA (N' := 3) (by decide) (by decide) (Nat.le_of_ble_eq_true rfl) (Nat.le_of_ble_eq_true rfl) (Nat.le_of_ble_eq_true rfl) dX12_init_279 (fun q279 H hP hD hS => ?_)
  have hP : va_P D vwCl ((x, .inr (13, f_274)) :: (w_272 ++ [(q279, .inl (cI, 3, .inl (fun _ => 0)))])) H := hP
  have hD : va_D A ((x, .inr (13, f_274)) :: (w_272 ++ [(q279, .inl (cI, 3, .inl (fun _ => 0)))])) := hD
  generalize hw_279 : (w_272 ++ [(q279, .inl (cI, 3, .inl (fun _ => 0)))]) = w_279 at hP hD
  refine pf_RX12_110 S hin hK hP hD hS 0 rfl (v := .ref q279) (by rw [hn_274]; decide) rfl rfl dX12_init_281 (fun H locs hP hD hS => ?_)
  have hP : va_P D vwCl ((x, .inr (13, (f_274.set 48 (.ref q279)))) :: w_279) H := hP
  have hD : va_D A ((x, .inr (13, (f_274.set 48 (.ref q279)))) :: w_279) := hD
  generalize hf_281 : (f_274.set 48 (.ref q279)) = f_281 at hP hD
  have hn_281 : f_281.length = 91 := by rw [← hf_281, List.length_set]; exact hn_274
  refine lv_aload_n hx hb dX12_init_284 rfl (lv_at hl 0 rfl) ?_
  refine lv_iconst (v := 3) hx hb dX12_init_285 kic_3 ?_
  refine newa_int S hK hP hD hS hA (N' := 3) (by decide) (by decide) (Nat.le_of_ble_eq_true rfl) (Nat.le_of_ble_eq_true rfl) (Nat.le_of_ble_eq_true rfl) dX12_init_286 (fun q286 H hP hD hS => ?_)
  have hP : va_P D vwCl ((x, .inr (13, f_281)) :: (w_279 ++ [(q286, .inl (cI, 3, .inl (fun _ => 0)))])) H := hP
  have hD : va_D A ((x, .inr (13, f_281)) :: (w_279 ++ [(q286, .inl (cI, 3, .inl (fun _ => 0)))])) := hD
  generalize hw_286 : (w_279 ++ [(q286, .inl (cI, 3, .inl (fun _ => 0)))]) = w_286 at hP hD
  refine pf_RX12_113 S hin hK hP hD hS 0 rfl (v := .ref q286) (by rw [hn_281]; decide) rfl rfl dX12_init_288 (fun H locs hP hD hS => ?_)
  have hP : va_P D vwCl ((x, .inr (13, (f_281.set 49 (.ref q286)))) :: w_286) H := hP
  have hD : va_D A ((x, .inr (13, (f_281.set 49 (.ref q286)))) :: w_286) := hD
  generalize hf_288 : (f_281.set 49 (.ref q286)) = f_288 at hP hD
  have hn_288 : f_288.length = 91 := by rw [← hf_288, List.length_set]; exact hn_281
  refine lv_aload_n hx hb dX12_init_291 rfl (lv_at hl 0 rfl) ?_
  refine lv_bipush (v := 6) hx hb dX12_init_292 kbc_6 ?_
  refine newa_int S hK hP hD hS hA (N' := 6) (by decide) (by decide) (Nat.le_of_ble_eq_true rfl) (Nat.le_of_ble_eq_true rfl) (Nat.le_of_ble_eq_true rfl) dX12_init_294 (fun q294 H hP hD hS => ?_)
  have hP : va_P D vwCl ((x, .inr (13, f_288)) :: (w_286 ++ [(q294, .inl (cI, 6, .inl (fun _ => 0)))])) H := hP
  have hD : va_D A ((x, .inr (13, f_288)) :: (w_286 ++ [(q294, .inl (cI, 6, .inl (fun _ => 0)))])) := hD
  generalize hw_294 : (w_286 ++ [(q294, .inl (cI, 6, .inl (fun _ => 0)))]) = w_294 at hP hD
  refine pf_RX12_116 S hin hK hP hD hS 0 rfl (v := .ref q294) (by rw [hn_288]; decide) rfl rfl dX12_init_296 (fun H locs hP hD hS => ?_)
  have hP : va_P D vwCl ((x, .inr (13, (f_288.set 50 (.ref q294)))) :: w_294) H := hP
  have hD : va_D A ((x, .inr (13, (f_288.set 50 (.ref q294)))) :: w_294) := hD
  generalize hf_296 : (f_288.set 50 (.ref q294)) = f_296 at hP hD
  have hn_296 : f_296.length = 91 := by rw [← hf_296, List.length_set]; exact hn_288
  refine lv_aload_n hx hb dX12_init_299 rfl (lv_at hl 0 rfl) ?_
  refine lv_bipush (v := 6) hx hb dX12_init_300 kbc_6 ?_
  refine newa_int S hK hP hD hS hA (N' := 6) (by decide) (by decide) (Nat.le_of_ble_eq_true rfl) (Nat.le_of_ble_eq_true rfl) (Nat.le_of_ble_eq_true rfl) dX12_init_302 (fun q302 H hP hD hS => ?_)
  have hP : va_P D vwCl ((x, .inr (13, f_296)) :: (w_294 ++ [(q302, .inl (cI, 6, .inl (fun _ => 0)))])) H := hP
  have hD : va_D A ((x, .inr (13, f_296)) :: (w_294 ++ [(q302, .inl (cI, 6, .inl (fun _ => 0)))])) := hD
  generalize hw_302 : (w_294 ++ [(q302, .inl (cI, 6, .inl (fun _ => 0)))]) = w_302 at hP hD
  refine pf_RX12_119 S hin hK hP hD hS 0 rfl (v := .ref q302) (by rw [hn_296]; decide) rfl rfl dX12_init_304 (fun H locs hP hD hS => ?_)
  have hP : va_P D vwCl ((x, .inr (13, (f_296.set 51 (.ref q302)))) :: w_302) H := hP
  have hD : va_D A ((x, .inr (13, (f_296.set 51 (.ref q302)))) :: w_302) := hD
  generalize hf_304 : (f_296.set 51 (.ref q302)) = f_304 at hP hD
  have hn_304 : f_304.length = 91 := by rw [← hf_304, List.length_set]; exact hn_296
  refine lv_aload_n hx hb dX12_init_307 rfl (lv_at hl 0 rfl) ?_
  refine lv_bipush (v := 10) hx hb dX12_init_308 kbc_10 ?_
  refine newa_int S hK hP hD hS hA (N' := 10) (by decide) (by decide) (Nat.le_of_ble_eq_true rfl) (Nat.le_of_ble_eq_true rfl) (Nat.le_of_ble_eq_true rfl) dX12_init_310 (fun q310 H hP hD hS => ?_)
  have hP : va_P D vwCl ((x, .inr (13, f_304)) :: (w_302 ++ [(q310, .inl (cI, 10, .inl (fun _ => 0)))])) H := hP
  have hD : va_D A ((x, .inr (13, f_304)) :: (w_302 ++ [(q310, .inl (cI, 10, .inl (fun _ => 0)))])) := hD
  generalize hw_310 : (w_302 ++ [(q310, .inl (cI, 10, .inl (fun _ => 0)))]) = w_310 at hP hD
  refine pf_RX12_122 S hin hK hP hD hS 0 rfl (v := .ref q310) (by rw [hn_304]; decide) rfl rfl dX12_init_312 (fun H locs hP hD hS => ?_)
  have hP : va_P D vwCl ((x, .inr (13, (f_304.set 52 (.ref q310)))) :: w_310) H := hP
  have hD : va_D A ((x, .inr (13, (f_304.set 52 (.ref q310)))) :: w_310) := hD
  generalize hf_312 : (f_304.set 52 (.ref q310)) = f_312 at hP hD
  have hn_312 : f_312.length = 91 := by rw [← hf_312, List.length_set]; exact hn_304
  refine lv_aload_n hx hb dX12_init_315 rfl (lv_at hl 0 rfl) ?_
  refine lv_sipush (v := 1200) hx hb dX12_init_316 (by decide) ?_
  refine newa_boolean S hK hP hD hS hA (N' := 1200) (by decide) (by decide) (Nat.le_of_ble_eq_true rfl) (Nat.le_of_ble_eq_true rfl) (Nat.le_of_ble_eq_true rfl) dX12_init_319 (fun q319 H hP hD hS => ?_)
  have hP : va_P D vwCl ((x, .inr (13, f_312)) :: (w_310 ++ [(q319, .inl (cZ, 1200, .inl (fun _ => 0)))])) H := hP
  have hD : va_D A ((x, .inr (13, f_312)) :: (w_310 ++ [(q319, .inl (cZ, 1200, .inl (fun _ => 0)))])) := hD
  generalize hw_319 : (w_310 ++ [(q319, .inl (cZ, 1200, .inl (fun _ => 0)))]) = w_319 at hP hD
  refine pf_RX12_125 S hin hK hP hD hS 0 rfl (v := .ref q319) (by rw [hn_312]; decide) rfl rfl dX12_init_321 (fun H locs hP hD hS => ?_)
  have hP : va_P D vwCl ((x, .inr (13, (f_312.set 53 (.ref q319)))) :: w_319) H := hP
  have hD : va_D A ((x, .inr (13, (f_312.set 53 (.ref q319)))) :: w_319) := hD
  generalize hf_321 : (f_312.set 53 (.ref q319)) = f_321 at hP hD
  have hn_321 : f_321.length = 91 := by rw [← hf_321, List.length_set]; exact hn_312
  refine lv_aload_n hx hb dX12_init_324 rfl (lv_at hl 0 rfl) ?_
  refine lv_bipush (v := 60) hx hb dX12_init_325 kbc_60 ?_
  refine newa_int S hK hP hD hS hA (N' := 60) (by decide) (by decide) (Nat.le_of_ble_eq_true rfl) (Nat.le_of_ble_eq_true rfl) (Nat.le_of_ble_eq_true rfl) dX12_init_327 (fun q327 H hP hD hS => ?_)
  have hP : va_P D vwCl ((x, .inr (13, f_321)) :: (w_319 ++ [(q327, .inl (cI, 60, .inl (fun _ => 0)))])) H := hP
  have hD : va_D A ((x, .inr (13, f_321)) :: (w_319 ++ [(q327, .inl (cI, 60, .inl (fun _ => 0)))])) := hD
  obtain ⟨w_327, hw_327⟩ : ∃ z : va_W, z = [(q7, .inl (cI, 10, .inl (fun _ => 0))), (q15, .inl (cI, 10, .inl (fun _ => 0))), (q23, .inl (cI, 10, .inl (fun _ => 0))), (q31, .inl (cI, 10, .inl (fun _ => 0))), (q39, .inl (cI, 10, .inl (fun _ => 0))), (q47, .inl (cI, 60, .inl (fun _ => 0))), (q55, .inl (cI, 60, .inl (fun _ => 0))), (q63, .inl (cI, 60, .inl (fun _ => 0))), (q71, .inl (cI, 60, .inl (fun _ => 0))), (q79, .inl (cI, 60, .inl (fun _ => 0))), (q87, .inl (cI, 60, .inl (fun _ => 0))), (q95, .inl (cI, 60, .inl (fun _ => 0))), (q103, .inl (cI, 60, .inl (fun _ => 0))), (q111, .inl (cI, 60, .inl (fun _ => 0))), (q120, .inl (cB, 200, .inl (fun _ => 0))), (q129, .inl (cI, 180, .inl (fun _ => 0))), (q138, .inl (cI, 180, .inl (fun _ => 0))), (q146, .inl (cI, 12, .inl (fun _ => 0))), (q154, .inl (cI, 12, .inl (fun _ => 0))), (q162, .inl (cI, 12, .inl (fun _ => 0))), (q171, .inl (cI, 1980, .inl (fun _ => 0))), (q179, .inl (cI, 11, .inl (fun _ => 0))), (q188, .inl (cI, 132, .inl (fun _ => 0))), (q197, .inl (cI, 132, .inl (fun _ => 0))), (q206, .inl (cI, 132, .inl (fun _ => 0))), (q215, .inl (cI, 180, .inl (fun _ => 0))), (q223, .inl (cI, 11, .inl (fun _ => 0))), (q231, .inl (cI, 58, .inl (fun _ => 0))), (q239, .inl (cI, 10, .inl (fun _ => 0))), (q248, .inl (cI, 400, .inl (fun _ => 0))), (q256, .inl (cI, 10, .inl (fun _ => 0))), (q265, .inl (cI, 2048, .inl (fun _ => 0))), (q272, .inl (cI, 3, .inl (fun _ => 0))), (q279, .inl (cI, 3, .inl (fun _ => 0))), (q286, .inl (cI, 3, .inl (fun _ => 0))), (q294, .inl (cI, 6, .inl (fun _ => 0))), (q302, .inl (cI, 6, .inl (fun _ => 0))), (q310, .inl (cI, 10, .inl (fun _ => 0))), (q319, .inl (cZ, 1200, .inl (fun _ => 0))), (q327, .inl (cI, 60, .inl (fun _ => 0)))] := ⟨_, rfl⟩
  have ew : (w_319 ++ [(q327, .inl (cI, 60, .inl (fun _ => 0)))]) = w_327 := by rw [hw_327, ← hw_319, ← hw_310, ← hw_302, ← hw_294, ← hw_286, ← hw_279, ← hw_272, hw_265] <;> rfl
  rw [ew] at hP hD
  refine pf_RX12_129 S hin hK hP hD hS 0 rfl (v := .ref q327) (by rw [hn_321]; decide) rfl rfl dX12_init_329 (fun H locs hP hD hS => ?_)
  have hP : va_P D vwCl ((x, .inr (13, (f_321.set 59 (.ref q327)))) :: w_327) H := hP
  have hD : va_D A ((x, .inr (13, (f_321.set 59 (.ref q327)))) :: w_327) := hD
  obtain ⟨f_329, hf_329⟩ : ∃ z : List Value, z = [.int 0, .int 0, .int 0, .ref q7, .ref q15, .ref q23, .ref q31, .ref q39, .ref q47, .ref q55, .ref q63, .ref q71, .ref q79, .ref q87, .ref q95, .ref q103, .ref q111, .ref q120, .int 0, .int 0, .int 0, .int 0, .int 0, .int 0, .int 0, .int 0, .int 0, .ref q129, .ref q138, .ref q146, .ref q154, .ref q162, .ref q171, .ref q179, .ref q188, .ref q197, .ref q206, .ref q215, .ref q223, .ref q231, .ref q239, .ref q248, .ref q256, .ref q265, .int 0, .int 0, .int 0, .ref q272, .ref q279, .ref q286, .ref q294, .ref q302, .ref q310, .ref q319, .int 0, .int 0, .int 0, .int 0, .int 0, .ref q327, .null, .null, .int 0, .int 0, .null, .null, .null, .null, .null, .null, .null, .int 0, .int 0, .int 0, .null, .int 0, .null, .null, .null, .null, .null, .null, .null, .int 0, .null, .null, .null, .null, .null, .null, .null] := ⟨_, rfl⟩
  have ef : (f_321.set 59 (.ref q327)) = f_329 := by rw [hf_329, ← hf_321, ← hf_312, ← hf_304, ← hf_296, ← hf_288, ← hf_281, ← hf_274, hf_267] <;> rfl
  have hn_329 : f_329.length = 91 := by rw [← ef, List.length_set]; exact hn_321
  rw [ef] at hP hD
  refine lv_aload_n hx hb dX12_init_332 rfl (lv_at hl 0 rfl) ?_
  refine lv_bipush (v := 60) hx hb dX12_init_333 kbc_60 ?_
  refine newa_int S hK hP hD hS hA (N' := 60) (by decide) (by decide) (Nat.le_of_ble_eq_true rfl) (Nat.le_of_ble_eq_true rfl) (Nat.le_of_ble_eq_true rfl) dX12_init_335 (fun q335 H hP hD hS => ?_)
  have hP : va_P D vwCl ((x, .inr (13, f_329)) :: (w_327 ++ [(q335, .inl (cI, 60, .inl (fun _ => 0)))])) H := hP
  have hD : va_D A ((x, .inr (13, f_329)) :: (w_327 ++ [(q335, .inl (cI, 60, .inl (fun _ => 0)))])) := hD
  generalize hw_335 : (w_327 ++ [(q335, .inl (cI, 60, .inl (fun _ => 0)))]) = w_335 at hP hD
  refine pf_RX12_132 S hin hK hP hD hS 0 rfl (v := .ref q335) (by rw [hn_329]; decide) rfl rfl dX12_init_337 (fun H locs hP hD hS => ?_)
  have hP : va_P D vwCl ((x, .inr (13, (f_329.set 60 (.ref q335)))) :: w_335) H := hP
  have hD : va_D A ((x, .inr (13, (f_329.set 60 (.ref q335)))) :: w_335) := hD
  generalize hf_337 : (f_329.set 60 (.ref q335)) = f_337 at hP hD
  have hn_337 : f_337.length = 91 := by rw [← hf_337, List.length_set]; exact hn_329
  refine lv_aload_n hx hb dX12_init_340 rfl (lv_at hl 0 rfl) ?_
  refine lv_bipush (v := 60) hx hb dX12_init_341 kbc_60 ?_
  refine newa_int S hK hP hD hS hA (N' := 60) (by decide) (by decide) (Nat.le_of_ble_eq_true rfl) (Nat.le_of_ble_eq_true rfl) (Nat.le_of_ble_eq_true rfl) dX12_init_343 (fun q343 H hP hD hS => ?_)
  have hP : va_P D vwCl ((x, .inr (13, f_337)) :: (w_335 ++ [(q343, .inl (cI, 60, .inl (fun _ => 0)))])) H := hP
  have hD : va_D A ((x, .inr (13, f_337)) :: (w_335 ++ [(q343, .inl (cI, 60, .inl (fun _ => 0)))])) := hD
  generalize hw_343 : (w_335 ++ [(q343, .inl (cI, 60, .inl (fun _ => 0)))]) = w_343 at hP hD
  refine pf_RX12_135 S hin hK hP hD hS 0 rfl (v := .ref q343) (by rw [hn_337]; decide) rfl rfl dX12_init_345 (fun H locs hP hD hS => ?_)
  have hP : va_P D vwCl ((x, .inr (13, (f_337.set 61 (.ref q343)))) :: w_343) H := hP
  have hD : va_D A ((x, .inr (13, (f_337.set 61 (.ref q343)))) :: w_343) := hD
  generalize hf_345 : (f_337.set 61 (.ref q343)) = f_345 at hP hD
  have hn_345 : f_345.length = 91 := by rw [← hf_345, List.length_set]; exact hn_337
  refine lv_aload_n hx hb dX12_init_348 rfl (lv_at hl 0 rfl) ?_
  refine lv_bipush (v := 10) hx hb dX12_init_349 kbc_10 ?_
  refine newa_int S hK hP hD hS hA (N' := 10) (by decide) (by decide) (Nat.le_of_ble_eq_true rfl) (Nat.le_of_ble_eq_true rfl) (Nat.le_of_ble_eq_true rfl) dX12_init_351 (fun q351 H hP hD hS => ?_)
  have hP : va_P D vwCl ((x, .inr (13, f_345)) :: (w_343 ++ [(q351, .inl (cI, 10, .inl (fun _ => 0)))])) H := hP
  have hD : va_D A ((x, .inr (13, f_345)) :: (w_343 ++ [(q351, .inl (cI, 10, .inl (fun _ => 0)))])) := hD
  generalize hw_351 : (w_343 ++ [(q351, .inl (cI, 10, .inl (fun _ => 0)))]) = w_351 at hP hD
  refine pf_RX12_138 S hin hK hP hD hS 0 rfl (v := .ref q351) (by rw [hn_345]; decide) rfl rfl dX12_init_353 (fun H locs hP hD hS => ?_)
  have hP : va_P D vwCl ((x, .inr (13, (f_345.set 64 (.ref q351)))) :: w_351) H := hP
  have hD : va_D A ((x, .inr (13, (f_345.set 64 (.ref q351)))) :: w_351) := hD
  generalize hf_353 : (f_345.set 64 (.ref q351)) = f_353 at hP hD
  have hn_353 : f_353.length = 91 := by rw [← hf_353, List.length_set]; exact hn_345
  refine lv_aload_n hx hb dX12_init_356 rfl (lv_at hl 0 rfl) ?_
  refine lv_bipush (v := 10) hx hb dX12_init_357 kbc_10 ?_
  refine newa_int S hK hP hD hS hA (N' := 10) (by decide) (by decide) (Nat.le_of_ble_eq_true rfl) (Nat.le_of_ble_eq_true rfl) (Nat.le_of_ble_eq_true rfl) dX12_init_359 (fun q359 H hP hD hS => ?_)
  have hP : va_P D vwCl ((x, .inr (13, f_353)) :: (w_351 ++ [(q359, .inl (cI, 10, .inl (fun _ => 0)))])) H := hP
  have hD : va_D A ((x, .inr (13, f_353)) :: (w_351 ++ [(q359, .inl (cI, 10, .inl (fun _ => 0)))])) := hD
  generalize hw_359 : (w_351 ++ [(q359, .inl (cI, 10, .inl (fun _ => 0)))]) = w_359 at hP hD
  refine pf_RX12_141 S hin hK hP hD hS 0 rfl (v := .ref q359) (by rw [hn_353]; decide) rfl rfl dX12_init_361 (fun H locs hP hD hS => ?_)
  have hP : va_P D vwCl ((x, .inr (13, (f_353.set 65 (.ref q359)))) :: w_359) H := hP
  have hD : va_D A ((x, .inr (13, (f_353.set 65 (.ref q359)))) :: w_359) := hD
  generalize hf_361 : (f_353.set 65 (.ref q359)) = f_361 at hP hD
  have hn_361 : f_361.length = 91 := by rw [← hf_361, List.length_set]; exact hn_353
  refine lv_aload_n hx hb dX12_init_364 rfl (lv_at hl 0 rfl) ?_
  refine lv_bipush (v := 40) hx hb dX12_init_365 kbc_40 ?_
  refine newa_int S hK hP hD hS hA (N' := 40) (by decide) (by decide) (Nat.le_of_ble_eq_true rfl) (Nat.le_of_ble_eq_true rfl) (Nat.le_of_ble_eq_true rfl) dX12_init_367 (fun q367 H hP hD hS => ?_)
  have hP : va_P D vwCl ((x, .inr (13, f_361)) :: (w_359 ++ [(q367, .inl (cI, 40, .inl (fun _ => 0)))])) H := hP
  have hD : va_D A ((x, .inr (13, f_361)) :: (w_359 ++ [(q367, .inl (cI, 40, .inl (fun _ => 0)))])) := hD
  generalize hw_367 : (w_359 ++ [(q367, .inl (cI, 40, .inl (fun _ => 0)))]) = w_367 at hP hD
  refine pf_RX12_144 S hin hK hP hD hS 0 rfl (v := .ref q367) (by rw [hn_361]; decide) rfl rfl dX12_init_369 (fun H locs hP hD hS => ?_)
  have hP : va_P D vwCl ((x, .inr (13, (f_361.set 66 (.ref q367)))) :: w_367) H := hP
  have hD : va_D A ((x, .inr (13, (f_361.set 66 (.ref q367)))) :: w_367) := hD
  generalize hf_369 : (f_361.set 66 (.ref q367)) = f_369 at hP hD
  have hn_369 : f_369.length = 91 := by rw [← hf_369, List.length_set]; exact hn_361
  refine lv_aload_n hx hb dX12_init_372 rfl (lv_at hl 0 rfl) ?_
  refine lv_bipush (v := 40) hx hb dX12_init_373 kbc_40 ?_
  refine newa_int S hK hP hD hS hA (N' := 40) (by decide) (by decide) (Nat.le_of_ble_eq_true rfl) (Nat.le_of_ble_eq_true rfl) (Nat.le_of_ble_eq_true rfl) dX12_init_375 (fun q375 H hP hD hS => ?_)
  have hP : va_P D vwCl ((x, .inr (13, f_369)) :: (w_367 ++ [(q375, .inl (cI, 40, .inl (fun _ => 0)))])) H := hP
  have hD : va_D A ((x, .inr (13, f_369)) :: (w_367 ++ [(q375, .inl (cI, 40, .inl (fun _ => 0)))])) := hD
  generalize hw_375 : (w_367 ++ [(q375, .inl (cI, 40, .inl (fun _ => 0)))]) = w_375 at hP hD
  refine pf_RX12_147 S hin hK hP hD hS 0 rfl (v := .ref q375) (by rw [hn_369]; decide) rfl rfl dX12_init_377 (fun H locs hP hD hS => ?_)
  have hP : va_P D vwCl ((x, .inr (13, (f_369.set 67 (.ref q375)))) :: w_375) H := hP
  have hD : va_D A ((x, .inr (13, (f_369.set 67 (.ref q375)))) :: w_375) := hD
  generalize hf_377 : (f_369.set 67 (.ref q375)) = f_377 at hP hD
  have hn_377 : f_377.length = 91 := by rw [← hf_377, List.length_set]; exact hn_369
  refine lv_aload_n hx hb dX12_init_380 rfl (lv_at hl 0 rfl) ?_
  refine lv_bipush (v := 40) hx hb dX12_init_381 kbc_40 ?_
  refine newa_int S hK hP hD hS hA (N' := 40) (by decide) (by decide) (Nat.le_of_ble_eq_true rfl) (Nat.le_of_ble_eq_true rfl) (Nat.le_of_ble_eq_true rfl) dX12_init_383 (fun q383 H hP hD hS => ?_)
  have hP : va_P D vwCl ((x, .inr (13, f_377)) :: (w_375 ++ [(q383, .inl (cI, 40, .inl (fun _ => 0)))])) H := hP
  have hD : va_D A ((x, .inr (13, f_377)) :: (w_375 ++ [(q383, .inl (cI, 40, .inl (fun _ => 0)))])) := hD
  generalize hw_383 : (w_375 ++ [(q383, .inl (cI, 40, .inl (fun _ => 0)))]) = w_383 at hP hD
  refine pf_RX12_150 S hin hK hP hD hS 0 rfl (v := .ref q383) (by rw [hn_377]; decide) rfl rfl dX12_init_385 (fun H locs hP hD hS => ?_)
  have hP : va_P D vwCl ((x, .inr (13, (f_377.set 68 (.ref q383)))) :: w_383) H := hP
  have hD : va_D A ((x, .inr (13, (f_377.set 68 (.ref q383)))) :: w_383) := hD
  generalize hf_385 : (f_377.set 68 (.ref q383)) = f_385 at hP hD
  have hn_385 : f_385.length = 91 := by rw [← hf_385, List.length_set]; exact hn_377
  refine lv_aload_n hx hb dX12_init_388 rfl (lv_at hl 0 rfl) ?_
  refine lv_bipush (v := 40) hx hb dX12_init_389 kbc_40 ?_
  refine newa_int S hK hP hD hS hA (N' := 40) (by decide) (by decide) (Nat.le_of_ble_eq_true rfl) (Nat.le_of_ble_eq_true rfl) (Nat.le_of_ble_eq_true rfl) dX12_init_391 (fun q391 H hP hD hS => ?_)
  have hP : va_P D vwCl ((x, .inr (13, f_385)) :: (w_383 ++ [(q391, .inl (cI, 40, .inl (fun _ => 0)))])) H := hP
  have hD : va_D A ((x, .inr (13, f_385)) :: (w_383 ++ [(q391, .inl (cI, 40, .inl (fun _ => 0)))])) := hD
  obtain ⟨w_391, hw_391⟩ : ∃ z : va_W, z = [(q7, .inl (cI, 10, .inl (fun _ => 0))), (q15, .inl (cI, 10, .inl (fun _ => 0))), (q23, .inl (cI, 10, .inl (fun _ => 0))), (q31, .inl (cI, 10, .inl (fun _ => 0))), (q39, .inl (cI, 10, .inl (fun _ => 0))), (q47, .inl (cI, 60, .inl (fun _ => 0))), (q55, .inl (cI, 60, .inl (fun _ => 0))), (q63, .inl (cI, 60, .inl (fun _ => 0))), (q71, .inl (cI, 60, .inl (fun _ => 0))), (q79, .inl (cI, 60, .inl (fun _ => 0))), (q87, .inl (cI, 60, .inl (fun _ => 0))), (q95, .inl (cI, 60, .inl (fun _ => 0))), (q103, .inl (cI, 60, .inl (fun _ => 0))), (q111, .inl (cI, 60, .inl (fun _ => 0))), (q120, .inl (cB, 200, .inl (fun _ => 0))), (q129, .inl (cI, 180, .inl (fun _ => 0))), (q138, .inl (cI, 180, .inl (fun _ => 0))), (q146, .inl (cI, 12, .inl (fun _ => 0))), (q154, .inl (cI, 12, .inl (fun _ => 0))), (q162, .inl (cI, 12, .inl (fun _ => 0))), (q171, .inl (cI, 1980, .inl (fun _ => 0))), (q179, .inl (cI, 11, .inl (fun _ => 0))), (q188, .inl (cI, 132, .inl (fun _ => 0))), (q197, .inl (cI, 132, .inl (fun _ => 0))), (q206, .inl (cI, 132, .inl (fun _ => 0))), (q215, .inl (cI, 180, .inl (fun _ => 0))), (q223, .inl (cI, 11, .inl (fun _ => 0))), (q231, .inl (cI, 58, .inl (fun _ => 0))), (q239, .inl (cI, 10, .inl (fun _ => 0))), (q248, .inl (cI, 400, .inl (fun _ => 0))), (q256, .inl (cI, 10, .inl (fun _ => 0))), (q265, .inl (cI, 2048, .inl (fun _ => 0))), (q272, .inl (cI, 3, .inl (fun _ => 0))), (q279, .inl (cI, 3, .inl (fun _ => 0))), (q286, .inl (cI, 3, .inl (fun _ => 0))), (q294, .inl (cI, 6, .inl (fun _ => 0))), (q302, .inl (cI, 6, .inl (fun _ => 0))), (q310, .inl (cI, 10, .inl (fun _ => 0))), (q319, .inl (cZ, 1200, .inl (fun _ => 0))), (q327, .inl (cI, 60, .inl (fun _ => 0))), (q335, .inl (cI, 60, .inl (fun _ => 0))), (q343, .inl (cI, 60, .inl (fun _ => 0))), (q351, .inl (cI, 10, .inl (fun _ => 0))), (q359, .inl (cI, 10, .inl (fun _ => 0))), (q367, .inl (cI, 40, .inl (fun _ => 0))), (q375, .inl (cI, 40, .inl (fun _ => 0))), (q383, .inl (cI, 40, .inl (fun _ => 0))), (q391, .inl (cI, 40, .inl (fun _ => 0)))] := ⟨_, rfl⟩
  have ew : (w_383 ++ [(q391, .inl (cI, 40, .inl (fun _ => 0)))]) = w_391 := by rw [hw_391, ← hw_383, ← hw_375, ← hw_367, ← hw_359, ← hw_351, ← hw_343, ← hw_335, hw_327] <;> rfl
  rw [ew] at hP hD
  refine pf_RX12_153 S hin hK hP hD hS 0 rfl (v := .ref q391) (by rw [hn_385]; decide) rfl rfl dX12_init_393 (fun H locs hP hD hS => ?_)
  have hP : va_P D vwCl ((x, .inr (13, (f_385.set 69 (.ref q391)))) :: w_391) H := hP
  have hD : va_D A ((x, .inr (13, (f_385.set 69 (.ref q391)))) :: w_391) := hD
  obtain ⟨f_393, hf_393⟩ : ∃ z : List Value, z = [.int 0, .int 0, .int 0, .ref q7, .ref q15, .ref q23, .ref q31, .ref q39, .ref q47, .ref q55, .ref q63, .ref q71, .ref q79, .ref q87, .ref q95, .ref q103, .ref q111, .ref q120, .int 0, .int 0, .int 0, .int 0, .int 0, .int 0, .int 0, .int 0, .int 0, .ref q129, .ref q138, .ref q146, .ref q154, .ref q162, .ref q171, .ref q179, .ref q188, .ref q197, .ref q206, .ref q215, .ref q223, .ref q231, .ref q239, .ref q248, .ref q256, .ref q265, .int 0, .int 0, .int 0, .ref q272, .ref q279, .ref q286, .ref q294, .ref q302, .ref q310, .ref q319, .int 0, .int 0, .int 0, .int 0, .int 0, .ref q327, .ref q335, .ref q343, .int 0, .int 0, .ref q351, .ref q359, .ref q367, .ref q375, .ref q383, .ref q391, .null, .int 0, .int 0, .int 0, .null, .int 0, .null, .null, .null, .null, .null, .null, .null, .int 0, .null, .null, .null, .null, .null, .null, .null] := ⟨_, rfl⟩
  have ef : (f_385.set 69 (.ref q391)) = f_393 := by rw [hf_393, ← hf_385, ← hf_377, ← hf_369, ← hf_361, ← hf_353, ← hf_345, ← hf_337, hf_329] <;> rfl
  have hn_393 : f_393.length = 91 := by rw [← ef, List.length_set]; exact hn_385
  rw [ef] at hP hD
  refine lv_aload_n hx hb dX12_init_396 rfl (lv_at hl 0 rfl) ?_
  refine lv_bipush (v := 40) hx hb dX12_init_397 kbc_40 ?_
  refine newa_int S hK hP hD hS hA (N' := 40) (by decide) (by decide) (Nat.le_of_ble_eq_true rfl) (Nat.le_of_ble_eq_true rfl) (Nat.le_of_ble_eq_true rfl) dX12_init_399 (fun q399 H hP hD hS => ?_)
  have hP : va_P D vwCl ((x, .inr (13, f_393)) :: (w_391 ++ [(q399, .inl (cI, 40, .inl (fun _ => 0)))])) H := hP
  have hD : va_D A ((x, .inr (13, f_393)) :: (w_391 ++ [(q399, .inl (cI, 40, .inl (fun _ => 0)))])) := hD
  generalize hw_399 : (w_391 ++ [(q399, .inl (cI, 40, .inl (fun _ => 0)))]) = w_399 at hP hD
  refine pf_RX12_156 S hin hK hP hD hS 0 rfl (v := .ref q399) (by rw [hn_393]; decide) rfl rfl dX12_init_401 (fun H locs hP hD hS => ?_)
  have hP : va_P D vwCl ((x, .inr (13, (f_393.set 70 (.ref q399)))) :: w_399) H := hP
  have hD : va_D A ((x, .inr (13, (f_393.set 70 (.ref q399)))) :: w_399) := hD
  generalize hf_401 : (f_393.set 70 (.ref q399)) = f_401 at hP hD
  have hn_401 : f_401.length = 91 := by rw [← hf_401, List.length_set]; exact hn_393
  refine lv_aload_n hx hb dX12_init_404 rfl (lv_at hl 0 rfl) ?_
  refine lv_bipush (v := 12) hx hb dX12_init_405 kbc_12 ?_
  refine newa_int S hK hP hD hS hA (N' := 12) (by decide) (by decide) (Nat.le_of_ble_eq_true rfl) (Nat.le_of_ble_eq_true rfl) (Nat.le_of_ble_eq_true rfl) dX12_init_407 (fun q407 H hP hD hS => ?_)
  have hP : va_P D vwCl ((x, .inr (13, f_401)) :: (w_399 ++ [(q407, .inl (cI, 12, .inl (fun _ => 0)))])) H := hP
  have hD : va_D A ((x, .inr (13, f_401)) :: (w_399 ++ [(q407, .inl (cI, 12, .inl (fun _ => 0)))])) := hD
  generalize hw_407 : (w_399 ++ [(q407, .inl (cI, 12, .inl (fun _ => 0)))]) = w_407 at hP hD
  refine pf_RX12_159 S hin hK hP hD hS 0 rfl (v := .ref q407) (by rw [hn_401]; decide) rfl rfl dX12_init_409 (fun H locs hP hD hS => ?_)
  have hP : va_P D vwCl ((x, .inr (13, (f_401.set 74 (.ref q407)))) :: w_407) H := hP
  have hD : va_D A ((x, .inr (13, (f_401.set 74 (.ref q407)))) :: w_407) := hD
  generalize hf_409 : (f_401.set 74 (.ref q407)) = f_409 at hP hD
  have hn_409 : f_409.length = 91 := by rw [← hf_409, List.length_set]; exact hn_401
  refine lv_aload_n hx hb dX12_init_412 rfl (lv_at hl 0 rfl) ?_
  refine lv_bipush (v := 10) hx hb dX12_init_413 kbc_10 ?_
  refine newa_int S hK hP hD hS hA (N' := 10) (by decide) (by decide) (Nat.le_of_ble_eq_true rfl) (Nat.le_of_ble_eq_true rfl) (Nat.le_of_ble_eq_true rfl) dX12_init_415 (fun q415 H hP hD hS => ?_)
  have hP : va_P D vwCl ((x, .inr (13, f_409)) :: (w_407 ++ [(q415, .inl (cI, 10, .inl (fun _ => 0)))])) H := hP
  have hD : va_D A ((x, .inr (13, f_409)) :: (w_407 ++ [(q415, .inl (cI, 10, .inl (fun _ => 0)))])) := hD
  generalize hw_415 : (w_407 ++ [(q415, .inl (cI, 10, .inl (fun _ => 0)))]) = w_415 at hP hD
  refine pf_RX12_162 S hin hK hP hD hS 0 rfl (v := .ref q415) (by rw [hn_409]; decide) rfl rfl dX12_init_417 (fun H locs hP hD hS => ?_)
  have hP : va_P D vwCl ((x, .inr (13, (f_409.set 76 (.ref q415)))) :: w_415) H := hP
  have hD : va_D A ((x, .inr (13, (f_409.set 76 (.ref q415)))) :: w_415) := hD
  generalize hf_417 : (f_409.set 76 (.ref q415)) = f_417 at hP hD
  have hn_417 : f_417.length = 91 := by rw [← hf_417, List.length_set]; exact hn_409
  refine lv_aload_n hx hb dX12_init_420 rfl (lv_at hl 0 rfl) ?_
  refine lv_sipush (v := 232) hx hb dX12_init_421 (by decide) ?_
  refine newa_int S hK hP hD hS hA (N' := 232) (by decide) (by decide) (Nat.le_of_ble_eq_true rfl) (Nat.le_of_ble_eq_true rfl) (Nat.le_of_ble_eq_true rfl) dX12_init_424 (fun q424 H hP hD hS => ?_)
  have hP : va_P D vwCl ((x, .inr (13, f_417)) :: (w_415 ++ [(q424, .inl (cI, 232, .inl (fun _ => 0)))])) H := hP
  have hD : va_D A ((x, .inr (13, f_417)) :: (w_415 ++ [(q424, .inl (cI, 232, .inl (fun _ => 0)))])) := hD
  generalize hw_424 : (w_415 ++ [(q424, .inl (cI, 232, .inl (fun _ => 0)))]) = w_424 at hP hD
  refine pf_RX12_165 S hin hK hP hD hS 0 rfl (v := .ref q424) (by rw [hn_417]; decide) rfl rfl dX12_init_426 (fun H locs hP hD hS => ?_)
  have hP : va_P D vwCl ((x, .inr (13, (f_417.set 77 (.ref q424)))) :: w_424) H := hP
  have hD : va_D A ((x, .inr (13, (f_417.set 77 (.ref q424)))) :: w_424) := hD
  generalize hf_426 : (f_417.set 77 (.ref q424)) = f_426 at hP hD
  have hn_426 : f_426.length = 91 := by rw [← hf_426, List.length_set]; exact hn_417
  refine lv_aload_n hx hb dX12_init_429 rfl (lv_at hl 0 rfl) ?_
  refine lv_bipush (v := 10) hx hb dX12_init_430 kbc_10 ?_
  refine newa_int S hK hP hD hS hA (N' := 10) (by decide) (by decide) (Nat.le_of_ble_eq_true rfl) (Nat.le_of_ble_eq_true rfl) (Nat.le_of_ble_eq_true rfl) dX12_init_432 (fun q432 H hP hD hS => ?_)
  have hP : va_P D vwCl ((x, .inr (13, f_426)) :: (w_424 ++ [(q432, .inl (cI, 10, .inl (fun _ => 0)))])) H := hP
  have hD : va_D A ((x, .inr (13, f_426)) :: (w_424 ++ [(q432, .inl (cI, 10, .inl (fun _ => 0)))])) := hD
  generalize hw_432 : (w_424 ++ [(q432, .inl (cI, 10, .inl (fun _ => 0)))]) = w_432 at hP hD
  refine pf_RX12_168 S hin hK hP hD hS 0 rfl (v := .ref q432) (by rw [hn_426]; decide) rfl rfl dX12_init_434 (fun H locs hP hD hS => ?_)
  have hP : va_P D vwCl ((x, .inr (13, (f_426.set 78 (.ref q432)))) :: w_432) H := hP
  have hD : va_D A ((x, .inr (13, (f_426.set 78 (.ref q432)))) :: w_432) := hD
  generalize hf_434 : (f_426.set 78 (.ref q432)) = f_434 at hP hD
  have hn_434 : f_434.length = 91 := by rw [← hf_434, List.length_set]; exact hn_426
  refine lv_aload_n hx hb dX12_init_437 rfl (lv_at hl 0 rfl) ?_
  refine lv_bipush (v := 10) hx hb dX12_init_438 kbc_10 ?_
  refine newa_int S hK hP hD hS hA (N' := 10) (by decide) (by decide) (Nat.le_of_ble_eq_true rfl) (Nat.le_of_ble_eq_true rfl) (Nat.le_of_ble_eq_true rfl) dX12_init_440 (fun q440 H hP hD hS => ?_)
  have hP : va_P D vwCl ((x, .inr (13, f_434)) :: (w_432 ++ [(q440, .inl (cI, 10, .inl (fun _ => 0)))])) H := hP
  have hD : va_D A ((x, .inr (13, f_434)) :: (w_432 ++ [(q440, .inl (cI, 10, .inl (fun _ => 0)))])) := hD
  generalize hw_440 : (w_432 ++ [(q440, .inl (cI, 10, .inl (fun _ => 0)))]) = w_440 at hP hD
  refine pf_RX12_171 S hin hK hP hD hS 0 rfl (v := .ref q440) (by rw [hn_434]; decide) rfl rfl dX12_init_442 (fun H locs hP hD hS => ?_)
  have hP : va_P D vwCl ((x, .inr (13, (f_434.set 79 (.ref q440)))) :: w_440) H := hP
  have hD : va_D A ((x, .inr (13, (f_434.set 79 (.ref q440)))) :: w_440) := hD
  generalize hf_442 : (f_434.set 79 (.ref q440)) = f_442 at hP hD
  have hn_442 : f_442.length = 91 := by rw [← hf_442, List.length_set]; exact hn_434
  refine lv_aload_n hx hb dX12_init_445 rfl (lv_at hl 0 rfl) ?_
  refine lv_bipush (v := 120) hx hb dX12_init_446 kbc_120 ?_
  refine newa_int S hK hP hD hS hA (N' := 120) (by decide) (by decide) (Nat.le_of_ble_eq_true rfl) (Nat.le_of_ble_eq_true rfl) (Nat.le_of_ble_eq_true rfl) dX12_init_448 (fun q448 H hP hD hS => ?_)
  have hP : va_P D vwCl ((x, .inr (13, f_442)) :: (w_440 ++ [(q448, .inl (cI, 120, .inl (fun _ => 0)))])) H := hP
  have hD : va_D A ((x, .inr (13, f_442)) :: (w_440 ++ [(q448, .inl (cI, 120, .inl (fun _ => 0)))])) := hD
  generalize hw_448 : (w_440 ++ [(q448, .inl (cI, 120, .inl (fun _ => 0)))]) = w_448 at hP hD
  refine pf_RX12_174 S hin hK hP hD hS 0 rfl (v := .ref q448) (by rw [hn_442]; decide) rfl rfl dX12_init_450 (fun H locs hP hD hS => ?_)
  have hP : va_P D vwCl ((x, .inr (13, (f_442.set 80 (.ref q448)))) :: w_448) H := hP
  have hD : va_D A ((x, .inr (13, (f_442.set 80 (.ref q448)))) :: w_448) := hD
  generalize hf_450 : (f_442.set 80 (.ref q448)) = f_450 at hP hD
  have hn_450 : f_450.length = 91 := by rw [← hf_450, List.length_set]; exact hn_442
  refine lv_aload_n hx hb dX12_init_453 rfl (lv_at hl 0 rfl) ?_
  refine lv_bipush (v := 40) hx hb dX12_init_454 kbc_40 ?_
  refine newa_int S hK hP hD hS hA (N' := 40) (by decide) (by decide) (Nat.le_of_ble_eq_true rfl) (Nat.le_of_ble_eq_true rfl) (Nat.le_of_ble_eq_true rfl) dX12_init_456 (fun q456 H hP hD hS => ?_)
  have hP : va_P D vwCl ((x, .inr (13, f_450)) :: (w_448 ++ [(q456, .inl (cI, 40, .inl (fun _ => 0)))])) H := hP
  have hD : va_D A ((x, .inr (13, f_450)) :: (w_448 ++ [(q456, .inl (cI, 40, .inl (fun _ => 0)))])) := hD
  obtain ⟨w_456, hw_456⟩ : ∃ z : va_W, z = [(q7, .inl (cI, 10, .inl (fun _ => 0))), (q15, .inl (cI, 10, .inl (fun _ => 0))), (q23, .inl (cI, 10, .inl (fun _ => 0))), (q31, .inl (cI, 10, .inl (fun _ => 0))), (q39, .inl (cI, 10, .inl (fun _ => 0))), (q47, .inl (cI, 60, .inl (fun _ => 0))), (q55, .inl (cI, 60, .inl (fun _ => 0))), (q63, .inl (cI, 60, .inl (fun _ => 0))), (q71, .inl (cI, 60, .inl (fun _ => 0))), (q79, .inl (cI, 60, .inl (fun _ => 0))), (q87, .inl (cI, 60, .inl (fun _ => 0))), (q95, .inl (cI, 60, .inl (fun _ => 0))), (q103, .inl (cI, 60, .inl (fun _ => 0))), (q111, .inl (cI, 60, .inl (fun _ => 0))), (q120, .inl (cB, 200, .inl (fun _ => 0))), (q129, .inl (cI, 180, .inl (fun _ => 0))), (q138, .inl (cI, 180, .inl (fun _ => 0))), (q146, .inl (cI, 12, .inl (fun _ => 0))), (q154, .inl (cI, 12, .inl (fun _ => 0))), (q162, .inl (cI, 12, .inl (fun _ => 0))), (q171, .inl (cI, 1980, .inl (fun _ => 0))), (q179, .inl (cI, 11, .inl (fun _ => 0))), (q188, .inl (cI, 132, .inl (fun _ => 0))), (q197, .inl (cI, 132, .inl (fun _ => 0))), (q206, .inl (cI, 132, .inl (fun _ => 0))), (q215, .inl (cI, 180, .inl (fun _ => 0))), (q223, .inl (cI, 11, .inl (fun _ => 0))), (q231, .inl (cI, 58, .inl (fun _ => 0))), (q239, .inl (cI, 10, .inl (fun _ => 0))), (q248, .inl (cI, 400, .inl (fun _ => 0))), (q256, .inl (cI, 10, .inl (fun _ => 0))), (q265, .inl (cI, 2048, .inl (fun _ => 0))), (q272, .inl (cI, 3, .inl (fun _ => 0))), (q279, .inl (cI, 3, .inl (fun _ => 0))), (q286, .inl (cI, 3, .inl (fun _ => 0))), (q294, .inl (cI, 6, .inl (fun _ => 0))), (q302, .inl (cI, 6, .inl (fun _ => 0))), (q310, .inl (cI, 10, .inl (fun _ => 0))), (q319, .inl (cZ, 1200, .inl (fun _ => 0))), (q327, .inl (cI, 60, .inl (fun _ => 0))), (q335, .inl (cI, 60, .inl (fun _ => 0))), (q343, .inl (cI, 60, .inl (fun _ => 0))), (q351, .inl (cI, 10, .inl (fun _ => 0))), (q359, .inl (cI, 10, .inl (fun _ => 0))), (q367, .inl (cI, 40, .inl (fun _ => 0))), (q375, .inl (cI, 40, .inl (fun _ => 0))), (q383, .inl (cI, 40, .inl (fun _ => 0))), (q391, .inl (cI, 40, .inl (fun _ => 0))), (q399, .inl (cI, 40, .inl (fun _ => 0))), (q407, .inl (cI, 12, .inl (fun _ => 0))), (q415, .inl (cI, 10, .inl (fun _ => 0))), (q424, .inl (cI, 232, .inl (fun _ => 0))), (q432, .inl (cI, 10, .inl (fun _ => 0))), (q440, .inl (cI, 10, .inl (fun _ => 0))), (q448, .inl (cI, 120, .inl (fun _ => 0))), (q456, .inl (cI, 40, .inl (fun _ => 0)))] := ⟨_, rfl⟩
  have ew : (w_448 ++ [(q456, .inl (cI, 40, .inl (fun _ => 0)))]) = w_456 := by rw [hw_456, ← hw_448, ← hw_440, ← hw_432, ← hw_424, ← hw_415, ← hw_407, ← hw_399, hw_391] <;> rfl
  rw [ew] at hP hD
  refine pf_RX12_177 S hin hK hP hD hS 0 rfl (v := .ref q456) (by rw [hn_450]; decide) rfl rfl dX12_init_458 (fun H locs hP hD hS => ?_)
  have hP : va_P D vwCl ((x, .inr (13, (f_450.set 81 (.ref q456)))) :: w_456) H := hP
  have hD : va_D A ((x, .inr (13, (f_450.set 81 (.ref q456)))) :: w_456) := hD
  obtain ⟨f_458, hf_458⟩ : ∃ z : List Value, z = [.int 0, .int 0, .int 0, .ref q7, .ref q15, .ref q23, .ref q31, .ref q39, .ref q47, .ref q55, .ref q63, .ref q71, .ref q79, .ref q87, .ref q95, .ref q103, .ref q111, .ref q120, .int 0, .int 0, .int 0, .int 0, .int 0, .int 0, .int 0, .int 0, .int 0, .ref q129, .ref q138, .ref q146, .ref q154, .ref q162, .ref q171, .ref q179, .ref q188, .ref q197, .ref q206, .ref q215, .ref q223, .ref q231, .ref q239, .ref q248, .ref q256, .ref q265, .int 0, .int 0, .int 0, .ref q272, .ref q279, .ref q286, .ref q294, .ref q302, .ref q310, .ref q319, .int 0, .int 0, .int 0, .int 0, .int 0, .ref q327, .ref q335, .ref q343, .int 0, .int 0, .ref q351, .ref q359, .ref q367, .ref q375, .ref q383, .ref q391, .ref q399, .int 0, .int 0, .int 0, .ref q407, .int 0, .ref q415, .ref q424, .ref q432, .ref q440, .ref q448, .ref q456, .null, .int 0, .null, .null, .null, .null, .null, .null, .null] := ⟨_, rfl⟩
  have ef : (f_450.set 81 (.ref q456)) = f_458 := by rw [hf_458, ← hf_450, ← hf_442, ← hf_434, ← hf_426, ← hf_417, ← hf_409, ← hf_401, hf_393] <;> rfl
  have hn_458 : f_458.length = 91 := by rw [← ef, List.length_set]; exact hn_450
  rw [ef] at hP hD
  refine lv_aload_n hx hb dX12_init_461 rfl (lv_at hl 0 rfl) ?_
  refine lv_bipush (v := 40) hx hb dX12_init_462 kbc_40 ?_
  refine newa_int S hK hP hD hS hA (N' := 40) (by decide) (by decide) (Nat.le_of_ble_eq_true rfl) (Nat.le_of_ble_eq_true rfl) (Nat.le_of_ble_eq_true rfl) dX12_init_464 (fun q464 H hP hD hS => ?_)
  have hP : va_P D vwCl ((x, .inr (13, f_458)) :: (w_456 ++ [(q464, .inl (cI, 40, .inl (fun _ => 0)))])) H := hP
  have hD : va_D A ((x, .inr (13, f_458)) :: (w_456 ++ [(q464, .inl (cI, 40, .inl (fun _ => 0)))])) := hD
  generalize hw_464 : (w_456 ++ [(q464, .inl (cI, 40, .inl (fun _ => 0)))]) = w_464 at hP hD
  refine pf_RX12_180 S hin hK hP hD hS 0 rfl (v := .ref q464) (by rw [hn_458]; decide) rfl rfl dX12_init_466 (fun H locs hP hD hS => ?_)
  have hP : va_P D vwCl ((x, .inr (13, (f_458.set 82 (.ref q464)))) :: w_464) H := hP
  have hD : va_D A ((x, .inr (13, (f_458.set 82 (.ref q464)))) :: w_464) := hD
  generalize hf_466 : (f_458.set 82 (.ref q464)) = f_466 at hP hD
  have hn_466 : f_466.length = 91 := by rw [← hf_466, List.length_set]; exact hn_458
  refine lv_aload_n hx hb dX12_init_469 rfl (lv_at hl 0 rfl) ?_
  refine lv_bipush (v := 10) hx hb dX12_init_470 kbc_10 ?_
  refine newa_int S hK hP hD hS hA (N' := 10) (by decide) (by decide) (Nat.le_of_ble_eq_true rfl) (Nat.le_of_ble_eq_true rfl) (Nat.le_of_ble_eq_true rfl) dX12_init_472 (fun q472 H hP hD hS => ?_)
  have hP : va_P D vwCl ((x, .inr (13, f_466)) :: (w_464 ++ [(q472, .inl (cI, 10, .inl (fun _ => 0)))])) H := hP
  have hD : va_D A ((x, .inr (13, f_466)) :: (w_464 ++ [(q472, .inl (cI, 10, .inl (fun _ => 0)))])) := hD
  generalize hw_472 : (w_464 ++ [(q472, .inl (cI, 10, .inl (fun _ => 0)))]) = w_472 at hP hD
  refine pf_RX12_183 S hin hK hP hD hS 0 rfl (v := .ref q472) (by rw [hn_466]; decide) rfl rfl dX12_init_474 (fun H locs hP hD hS => ?_)
  have hP : va_P D vwCl ((x, .inr (13, (f_466.set 84 (.ref q472)))) :: w_472) H := hP
  have hD : va_D A ((x, .inr (13, (f_466.set 84 (.ref q472)))) :: w_472) := hD
  generalize hf_474 : (f_466.set 84 (.ref q472)) = f_474 at hP hD
  have hn_474 : f_474.length = 91 := by rw [← hf_474, List.length_set]; exact hn_466
  refine lv_aload_n hx hb dX12_init_477 rfl (lv_at hl 0 rfl) ?_
  refine lv_bipush (v := 10) hx hb dX12_init_478 kbc_10 ?_
  refine newa_int S hK hP hD hS hA (N' := 10) (by decide) (by decide) (Nat.le_of_ble_eq_true rfl) (Nat.le_of_ble_eq_true rfl) (Nat.le_of_ble_eq_true rfl) dX12_init_480 (fun q480 H hP hD hS => ?_)
  have hP : va_P D vwCl ((x, .inr (13, f_474)) :: (w_472 ++ [(q480, .inl (cI, 10, .inl (fun _ => 0)))])) H := hP
  have hD : va_D A ((x, .inr (13, f_474)) :: (w_472 ++ [(q480, .inl (cI, 10, .inl (fun _ => 0)))])) := hD
  generalize hw_480 : (w_472 ++ [(q480, .inl (cI, 10, .inl (fun _ => 0)))]) = w_480 at hP hD
  refine pf_RX12_186 S hin hK hP hD hS 0 rfl (v := .ref q480) (by rw [hn_474]; decide) rfl rfl dX12_init_482 (fun H locs hP hD hS => ?_)
  have hP : va_P D vwCl ((x, .inr (13, (f_474.set 85 (.ref q480)))) :: w_480) H := hP
  have hD : va_D A ((x, .inr (13, (f_474.set 85 (.ref q480)))) :: w_480) := hD
  generalize hf_482 : (f_474.set 85 (.ref q480)) = f_482 at hP hD
  have hn_482 : f_482.length = 91 := by rw [← hf_482, List.length_set]; exact hn_474
  refine lv_aload_n hx hb dX12_init_485 rfl (lv_at hl 0 rfl) ?_
  refine lv_bipush (v := 24) hx hb dX12_init_486 kbc_24 ?_
  refine newa_int S hK hP hD hS hA (N' := 24) (by decide) (by decide) (Nat.le_of_ble_eq_true rfl) (Nat.le_of_ble_eq_true rfl) (Nat.le_of_ble_eq_true rfl) dX12_init_488 (fun q488 H hP hD hS => ?_)
  have hP : va_P D vwCl ((x, .inr (13, f_482)) :: (w_480 ++ [(q488, .inl (cI, 24, .inl (fun _ => 0)))])) H := hP
  have hD : va_D A ((x, .inr (13, f_482)) :: (w_480 ++ [(q488, .inl (cI, 24, .inl (fun _ => 0)))])) := hD
  generalize hw_488 : (w_480 ++ [(q488, .inl (cI, 24, .inl (fun _ => 0)))]) = w_488 at hP hD
  refine pf_RX12_189 S hin hK hP hD hS 0 rfl (v := .ref q488) (by rw [hn_482]; decide) rfl rfl dX12_init_490 (fun H locs hP hD hS => ?_)
  have hP : va_P D vwCl ((x, .inr (13, (f_482.set 86 (.ref q488)))) :: w_488) H := hP
  have hD : va_D A ((x, .inr (13, (f_482.set 86 (.ref q488)))) :: w_488) := hD
  generalize hf_490 : (f_482.set 86 (.ref q488)) = f_490 at hP hD
  have hn_490 : f_490.length = 91 := by rw [← hf_490, List.length_set]; exact hn_482
  refine lv_aload_n hx hb dX12_init_493 rfl (lv_at hl 0 rfl) ?_
  refine lv_bipush (v := 10) hx hb dX12_init_494 kbc_10 ?_
  refine newa_int S hK hP hD hS hA (N' := 10) (by decide) (by decide) (Nat.le_of_ble_eq_true rfl) (Nat.le_of_ble_eq_true rfl) (Nat.le_of_ble_eq_true rfl) dX12_init_496 (fun q496 H hP hD hS => ?_)
  have hP : va_P D vwCl ((x, .inr (13, f_490)) :: (w_488 ++ [(q496, .inl (cI, 10, .inl (fun _ => 0)))])) H := hP
  have hD : va_D A ((x, .inr (13, f_490)) :: (w_488 ++ [(q496, .inl (cI, 10, .inl (fun _ => 0)))])) := hD
  generalize hw_496 : (w_488 ++ [(q496, .inl (cI, 10, .inl (fun _ => 0)))]) = w_496 at hP hD
  refine pf_RX12_192 S hin hK hP hD hS 0 rfl (v := .ref q496) (by rw [hn_490]; decide) rfl rfl dX12_init_498 (fun H locs hP hD hS => ?_)
  have hP : va_P D vwCl ((x, .inr (13, (f_490.set 87 (.ref q496)))) :: w_496) H := hP
  have hD : va_D A ((x, .inr (13, (f_490.set 87 (.ref q496)))) :: w_496) := hD
  generalize hf_498 : (f_490.set 87 (.ref q496)) = f_498 at hP hD
  have hn_498 : f_498.length = 91 := by rw [← hf_498, List.length_set]; exact hn_490
  refine lv_aload_n hx hb dX12_init_501 rfl (lv_at hl 0 rfl) ?_
  refine lv_bipush (v := 10) hx hb dX12_init_502 kbc_10 ?_
  refine newa_int S hK hP hD hS hA (N' := 10) (by decide) (by decide) (Nat.le_of_ble_eq_true rfl) (Nat.le_of_ble_eq_true rfl) (Nat.le_of_ble_eq_true rfl) dX12_init_504 (fun q504 H hP hD hS => ?_)
  have hP : va_P D vwCl ((x, .inr (13, f_498)) :: (w_496 ++ [(q504, .inl (cI, 10, .inl (fun _ => 0)))])) H := hP
  have hD : va_D A ((x, .inr (13, f_498)) :: (w_496 ++ [(q504, .inl (cI, 10, .inl (fun _ => 0)))])) := hD
  generalize hw_504 : (w_496 ++ [(q504, .inl (cI, 10, .inl (fun _ => 0)))]) = w_504 at hP hD
  refine pf_RX12_195 S hin hK hP hD hS 0 rfl (v := .ref q504) (by rw [hn_498]; decide) rfl rfl dX12_init_506 (fun H locs hP hD hS => ?_)
  have hP : va_P D vwCl ((x, .inr (13, (f_498.set 88 (.ref q504)))) :: w_504) H := hP
  have hD : va_D A ((x, .inr (13, (f_498.set 88 (.ref q504)))) :: w_504) := hD
  generalize hf_506 : (f_498.set 88 (.ref q504)) = f_506 at hP hD
  have hn_506 : f_506.length = 91 := by rw [← hf_506, List.length_set]; exact hn_498
  refine lv_aload_n hx hb dX12_init_509 rfl (lv_at hl 0 rfl) ?_
  refine lv_bipush (v := 10) hx hb dX12_init_510 kbc_10 ?_
  refine newa_int S hK hP hD hS hA (N' := 10) (by decide) (by decide) (Nat.le_of_ble_eq_true rfl) (Nat.le_of_ble_eq_true rfl) (Nat.le_of_ble_eq_true rfl) dX12_init_512 (fun q512 H hP hD hS => ?_)
  have hP : va_P D vwCl ((x, .inr (13, f_506)) :: (w_504 ++ [(q512, .inl (cI, 10, .inl (fun _ => 0)))])) H := hP
  have hD : va_D A ((x, .inr (13, f_506)) :: (w_504 ++ [(q512, .inl (cI, 10, .inl (fun _ => 0)))])) := hD
  generalize hw_512 : (w_504 ++ [(q512, .inl (cI, 10, .inl (fun _ => 0)))]) = w_512 at hP hD
  refine pf_RX12_198 S hin hK hP hD hS 0 rfl (v := .ref q512) (by rw [hn_506]; decide) rfl rfl dX12_init_514 (fun H locs hP hD hS => ?_)
  have hP : va_P D vwCl ((x, .inr (13, (f_506.set 89 (.ref q512)))) :: w_512) H := hP
  have hD : va_D A ((x, .inr (13, (f_506.set 89 (.ref q512)))) :: w_512) := hD
  generalize hf_514 : (f_506.set 89 (.ref q512)) = f_514 at hP hD
  have hn_514 : f_514.length = 91 := by rw [← hf_514, List.length_set]; exact hn_506
  refine lv_aload_n hx hb dX12_init_517 rfl (lv_at hl 0 rfl) ?_
  refine lv_sipush (v := 400) hx hb dX12_init_518 (by decide) ?_
  refine newa_int S hK hP hD hS hA (N' := 400) (by decide) (by decide) (Nat.le_of_ble_eq_true rfl) (Nat.le_of_ble_eq_true rfl) (Nat.le_of_ble_eq_true rfl) dX12_init_521 (fun q521 H hP hD hS => ?_)
  have hP : va_P D vwCl ((x, .inr (13, f_514)) :: (w_512 ++ [(q521, .inl (cI, 400, .inl (fun _ => 0)))])) H := hP
  have hD : va_D A ((x, .inr (13, f_514)) :: (w_512 ++ [(q521, .inl (cI, 400, .inl (fun _ => 0)))])) := hD
  obtain ⟨w_521, hw_521⟩ : ∃ z : va_W, z = [(q7, .inl (cI, 10, .inl (fun _ => 0))), (q15, .inl (cI, 10, .inl (fun _ => 0))), (q23, .inl (cI, 10, .inl (fun _ => 0))), (q31, .inl (cI, 10, .inl (fun _ => 0))), (q39, .inl (cI, 10, .inl (fun _ => 0))), (q47, .inl (cI, 60, .inl (fun _ => 0))), (q55, .inl (cI, 60, .inl (fun _ => 0))), (q63, .inl (cI, 60, .inl (fun _ => 0))), (q71, .inl (cI, 60, .inl (fun _ => 0))), (q79, .inl (cI, 60, .inl (fun _ => 0))), (q87, .inl (cI, 60, .inl (fun _ => 0))), (q95, .inl (cI, 60, .inl (fun _ => 0))), (q103, .inl (cI, 60, .inl (fun _ => 0))), (q111, .inl (cI, 60, .inl (fun _ => 0))), (q120, .inl (cB, 200, .inl (fun _ => 0))), (q129, .inl (cI, 180, .inl (fun _ => 0))), (q138, .inl (cI, 180, .inl (fun _ => 0))), (q146, .inl (cI, 12, .inl (fun _ => 0))), (q154, .inl (cI, 12, .inl (fun _ => 0))), (q162, .inl (cI, 12, .inl (fun _ => 0))), (q171, .inl (cI, 1980, .inl (fun _ => 0))), (q179, .inl (cI, 11, .inl (fun _ => 0))), (q188, .inl (cI, 132, .inl (fun _ => 0))), (q197, .inl (cI, 132, .inl (fun _ => 0))), (q206, .inl (cI, 132, .inl (fun _ => 0))), (q215, .inl (cI, 180, .inl (fun _ => 0))), (q223, .inl (cI, 11, .inl (fun _ => 0))), (q231, .inl (cI, 58, .inl (fun _ => 0))), (q239, .inl (cI, 10, .inl (fun _ => 0))), (q248, .inl (cI, 400, .inl (fun _ => 0))), (q256, .inl (cI, 10, .inl (fun _ => 0))), (q265, .inl (cI, 2048, .inl (fun _ => 0))), (q272, .inl (cI, 3, .inl (fun _ => 0))), (q279, .inl (cI, 3, .inl (fun _ => 0))), (q286, .inl (cI, 3, .inl (fun _ => 0))), (q294, .inl (cI, 6, .inl (fun _ => 0))), (q302, .inl (cI, 6, .inl (fun _ => 0))), (q310, .inl (cI, 10, .inl (fun _ => 0))), (q319, .inl (cZ, 1200, .inl (fun _ => 0))), (q327, .inl (cI, 60, .inl (fun _ => 0))), (q335, .inl (cI, 60, .inl (fun _ => 0))), (q343, .inl (cI, 60, .inl (fun _ => 0))), (q351, .inl (cI, 10, .inl (fun _ => 0))), (q359, .inl (cI, 10, .inl (fun _ => 0))), (q367, .inl (cI, 40, .inl (fun _ => 0))), (q375, .inl (cI, 40, .inl (fun _ => 0))), (q383, .inl (cI, 40, .inl (fun _ => 0))), (q391, .inl (cI, 40, .inl (fun _ => 0))), (q399, .inl (cI, 40, .inl (fun _ => 0))), (q407, .inl (cI, 12, .inl (fun _ => 0))), (q415, .inl (cI, 10, .inl (fun _ => 0))), (q424, .inl (cI, 232, .inl (fun _ => 0))), (q432, .inl (cI, 10, .inl (fun _ => 0))), (q440, .inl (cI, 10, .inl (fun _ => 0))), (q448, .inl (cI, 120, .inl (fun _ => 0))), (q456, .inl (cI, 40, .inl (fun _ => 0))), (q464, .inl (cI, 40, .inl (fun _ => 0))), (q472, .inl (cI, 10, .inl (fun _ => 0))), (q480, .inl (cI, 10, .inl (fun _ => 0))), (q488, .inl (cI, 24, .inl (fun _ => 0))), (q496, .inl (cI, 10, .inl (fun _ => 0))), (q504, .inl (cI, 10, .inl (fun _ => 0))), (q512, .inl (cI, 10, .inl (fun _ => 0))), (q521, .inl (cI, 400, .inl (fun _ => 0)))] := ⟨_, rfl⟩
  have ew : (w_512 ++ [(q521, .inl (cI, 400, .inl (fun _ => 0)))]) = w_521 := by rw [hw_521, ← hw_512, ← hw_504, ← hw_496, ← hw_488, ← hw_480, ← hw_472, ← hw_464, hw_456] <;> rfl
  rw [ew] at hP hD
  refine pf_RX12_201 S hin hK hP hD hS 0 rfl (v := .ref q521) (by rw [hn_514]; decide) rfl rfl dX12_init_523 (fun H locs hP hD hS => ?_)
  have hP : va_P D vwCl ((x, .inr (13, (f_514.set 90 (.ref q521)))) :: w_521) H := hP
  have hD : va_D A ((x, .inr (13, (f_514.set 90 (.ref q521)))) :: w_521) := hD
  obtain ⟨f_523, hf_523⟩ : ∃ z : List Value, z = [.int 0, .int 0, .int 0, .ref q7, .ref q15, .ref q23, .ref q31, .ref q39, .ref q47, .ref q55, .ref q63, .ref q71, .ref q79, .ref q87, .ref q95, .ref q103, .ref q111, .ref q120, .int 0, .int 0, .int 0, .int 0, .int 0, .int 0, .int 0, .int 0, .int 0, .ref q129, .ref q138, .ref q146, .ref q154, .ref q162, .ref q171, .ref q179, .ref q188, .ref q197, .ref q206, .ref q215, .ref q223, .ref q231, .ref q239, .ref q248, .ref q256, .ref q265, .int 0, .int 0, .int 0, .ref q272, .ref q279, .ref q286, .ref q294, .ref q302, .ref q310, .ref q319, .int 0, .int 0, .int 0, .int 0, .int 0, .ref q327, .ref q335, .ref q343, .int 0, .int 0, .ref q351, .ref q359, .ref q367, .ref q375, .ref q383, .ref q391, .ref q399, .int 0, .int 0, .int 0, .ref q407, .int 0, .ref q415, .ref q424, .ref q432, .ref q440, .ref q448, .ref q456, .ref q464, .int 0, .ref q472, .ref q480, .ref q488, .ref q496, .ref q504, .ref q512, .ref q521] := ⟨_, rfl⟩
  have ef : (f_514.set 90 (.ref q521)) = f_523 := by rw [hf_523, ← hf_514, ← hf_506, ← hf_498, ← hf_490, ← hf_482, ← hf_474, ← hf_466, hf_458] <;> rfl
  have hn_523 : f_523.length = 91 := by rw [← ef, List.length_set]; exact hn_514
  rw [ef] at hP hD
  refine lv_iconst (v := 0) hx hb dX12_init_526 kic_0 ?_
  refine lv_istore_n (lv' := [(1, .int 0), (0, .ref x)]) hx hb dX12_init_527 rfl hl (ltb rfl) rfl (fun ls hl => ?_)
  have eF : f_523 = [.int 0, .int 0, .int 0, .ref q7, .ref q15, .ref q23, .ref q31, .ref q39, .ref q47, .ref q55, .ref q63, .ref q71, .ref q79, .ref q87, .ref q95, .ref q103, .ref q111, .ref q120, .int 0, .int 0, .int 0, .int 0, .int 0, .int 0, .int 0, .int 0, .int 0, .ref q129, .ref q138, .ref q146, .ref q154, .ref q162, .ref q171, .ref q179, .ref q188, .ref q197, .ref q206, .ref q215, .ref q223, .ref q231, .ref q239, .ref q248, .ref q256, .ref q265, .int 0, .int 0, .int 0, .ref q272, .ref q279, .ref q286, .ref q294, .ref q302, .ref q310, .ref q319, .int 0, .int 0, .int 0, .int 0, .int 0, .ref q327, .ref q335, .ref q343, .int 0, .int 0, .ref q351, .ref q359, .ref q367, .ref q375, .ref q383, .ref q391, .ref q399, .int 0, .int 0, .int 0, .ref q407, .int 0, .ref q415, .ref q424, .ref q432, .ref q440, .ref q448, .ref q456, .ref q464, .int 0, .ref q472, .ref q480, .ref q488, .ref q496, .ref q504, .ref q512, .ref q521] := by rw [hf_523] <;> rfl
  have eW : w_521 = [(q7, .inl (cI, 10, .inl (fun _ => 0))), (q15, .inl (cI, 10, .inl (fun _ => 0))), (q23, .inl (cI, 10, .inl (fun _ => 0))), (q31, .inl (cI, 10, .inl (fun _ => 0))), (q39, .inl (cI, 10, .inl (fun _ => 0))), (q47, .inl (cI, 60, .inl (fun _ => 0))), (q55, .inl (cI, 60, .inl (fun _ => 0))), (q63, .inl (cI, 60, .inl (fun _ => 0))), (q71, .inl (cI, 60, .inl (fun _ => 0))), (q79, .inl (cI, 60, .inl (fun _ => 0))), (q87, .inl (cI, 60, .inl (fun _ => 0))), (q95, .inl (cI, 60, .inl (fun _ => 0))), (q103, .inl (cI, 60, .inl (fun _ => 0))), (q111, .inl (cI, 60, .inl (fun _ => 0))), (q120, .inl (cB, 200, .inl (fun _ => 0))), (q129, .inl (cI, 180, .inl (fun _ => 0))), (q138, .inl (cI, 180, .inl (fun _ => 0))), (q146, .inl (cI, 12, .inl (fun _ => 0))), (q154, .inl (cI, 12, .inl (fun _ => 0))), (q162, .inl (cI, 12, .inl (fun _ => 0))), (q171, .inl (cI, 1980, .inl (fun _ => 0))), (q179, .inl (cI, 11, .inl (fun _ => 0))), (q188, .inl (cI, 132, .inl (fun _ => 0))), (q197, .inl (cI, 132, .inl (fun _ => 0))), (q206, .inl (cI, 132, .inl (fun _ => 0))), (q215, .inl (cI, 180, .inl (fun _ => 0))), (q223, .inl (cI, 11, .inl (fun _ => 0))), (q231, .inl (cI, 58, .inl (fun _ => 0))), (q239, .inl (cI, 10, .inl (fun _ => 0))), (q248, .inl (cI, 400, .inl (fun _ => 0))), (q256, .inl (cI, 10, .inl (fun _ => 0))), (q265, .inl (cI, 2048, .inl (fun _ => 0))), (q272, .inl (cI, 3, .inl (fun _ => 0))), (q279, .inl (cI, 3, .inl (fun _ => 0))), (q286, .inl (cI, 3, .inl (fun _ => 0))), (q294, .inl (cI, 6, .inl (fun _ => 0))), (q302, .inl (cI, 6, .inl (fun _ => 0))), (q310, .inl (cI, 10, .inl (fun _ => 0))), (q319, .inl (cZ, 1200, .inl (fun _ => 0))), (q327, .inl (cI, 60, .inl (fun _ => 0))), (q335, .inl (cI, 60, .inl (fun _ => 0))), (q343, .inl (cI, 60, .inl (fun _ => 0))), (q351, .inl (cI, 10, .inl (fun _ => 0))), (q359, .inl (cI, 10, .inl (fun _ => 0))), (q367, .inl (cI, 40, .inl (fun _ => 0))), (q375, .inl (cI, 40, .inl (fun _ => 0))), (q383, .inl (cI, 40, .inl (fun _ => 0))), (q391, .inl (cI, 40, .inl (fun _ => 0))), (q399, .inl (cI, 40, .inl (fun _ => 0))), (q407, .inl (cI, 12, .inl (fun _ => 0))), (q415, .inl (cI, 10, .inl (fun _ => 0))), (q424, .inl (cI, 232, .inl (fun _ => 0))), (q432, .inl (cI, 10, .inl (fun _ => 0))), (q440, .inl (cI, 10, .inl (fun _ => 0))), (q448, .inl (cI, 120, .inl (fun _ => 0))), (q456, .inl (cI, 40, .inl (fun _ => 0))), (q464, .inl (cI, 40, .inl (fun _ => 0))), (q472, .inl (cI, 10, .inl (fun _ => 0))), (q480, .inl (cI, 10, .inl (fun _ => 0))), (q488, .inl (cI, 24, .inl (fun _ => 0))), (q496, .inl (cI, 10, .inl (fun _ => 0))), (q504, .inl (cI, 10, .inl (fun _ => 0))), (q512, .inl (cI, 10, .inl (fun _ => 0))), (q521, .inl (cI, 400, .inl (fun _ => 0)))] := by rw [hw_521] <;> rfl
  rw [eF, eW] at hP hD
  have hP : va_P D vwCl [(x, .inr (13, [.int 0, .int 0, .int 0, .ref q7, .ref q15, .ref q23, .ref q31, .ref q39, .ref q47, .ref q55, .ref q63, .ref q71, .ref q79, .ref q87, .ref q95, .ref q103, .ref q111, .ref q120, .int 0, .int 0, .int 0, .int 0, .int 0, .int 0, .int 0, .int 0, .int 0, .ref q129, .ref q138, .ref q146, .ref q154, .ref q162, .ref q171, .ref q179, .ref q188, .ref q197, .ref q206, .ref q215, .ref q223, .ref q231, .ref q239, .ref q248, .ref q256, .ref q265, .int 0, .int 0, .int 0, .ref q272, .ref q279, .ref q286, .ref q294, .ref q302, .ref q310, .ref q319, .int 0, .int 0, .int 0, .int 0, .int 0, .ref q327, .ref q335, .ref q343, .int 0, .int 0, .ref q351, .ref q359, .ref q367, .ref q375, .ref q383, .ref q391, .ref q399, .int 0, .int 0, .int 0, .ref q407, .int 0, .ref q415, .ref q424, .ref q432, .ref q440, .ref q448, .ref q456, .ref q464, .int 0, .ref q472, .ref q480, .ref q488, .ref q496, .ref q504, .ref q512, .ref q521])), (q7, .inl (cI, 10, .inl (fun _ => 0))), (q15, .inl (cI, 10, .inl (fun _ => 0))), (q23, .inl (cI, 10, .inl (fun _ => 0))), (q31, .inl (cI, 10, .inl (fun _ => 0))), (q39, .inl (cI, 10, .inl (fun _ => 0))), (q47, .inl (cI, 60, .inl (fun _ => 0))), (q55, .inl (cI, 60, .inl (fun _ => 0))), (q63, .inl (cI, 60, .inl (fun _ => 0))), (q71, .inl (cI, 60, .inl (fun _ => 0))), (q79, .inl (cI, 60, .inl (fun _ => 0))), (q87, .inl (cI, 60, .inl (fun _ => 0))), (q95, .inl (cI, 60, .inl (fun _ => 0))), (q103, .inl (cI, 60, .inl (fun _ => 0))), (q111, .inl (cI, 60, .inl (fun _ => 0))), (q120, .inl (cB, 200, .inl (fun _ => 0))), (q129, .inl (cI, 180, .inl (fun _ => 0))), (q138, .inl (cI, 180, .inl (fun _ => 0))), (q146, .inl (cI, 12, .inl (fun _ => 0))), (q154, .inl (cI, 12, .inl (fun _ => 0))), (q162, .inl (cI, 12, .inl (fun _ => 0))), (q171, .inl (cI, 1980, .inl (fun _ => 0))), (q179, .inl (cI, 11, .inl (fun _ => 0))), (q188, .inl (cI, 132, .inl (fun _ => 0))), (q197, .inl (cI, 132, .inl (fun _ => 0))), (q206, .inl (cI, 132, .inl (fun _ => 0))), (q215, .inl (cI, 180, .inl (fun _ => 0))), (q223, .inl (cI, 11, .inl (fun _ => 0))), (q231, .inl (cI, 58, .inl (fun _ => 0))), (q239, .inl (cI, 10, .inl (fun _ => 0))), (q248, .inl (cI, 400, .inl (fun _ => 0))), (q256, .inl (cI, 10, .inl (fun _ => 0))), (q265, .inl (cI, 2048, .inl (fun _ => 0))), (q272, .inl (cI, 3, .inl (fun _ => 0))), (q279, .inl (cI, 3, .inl (fun _ => 0))), (q286, .inl (cI, 3, .inl (fun _ => 0))), (q294, .inl (cI, 6, .inl (fun _ => 0))), (q302, .inl (cI, 6, .inl (fun _ => 0))), (q310, .inl (cI, 10, .inl (fun _ => 0))), (q319, .inl (cZ, 1200, .inl (fun _ => 0))), (q327, .inl (cI, 60, .inl (fun _ => 0))), (q335, .inl (cI, 60, .inl (fun _ => 0))), (q343, .inl (cI, 60, .inl (fun _ => 0))), (q351, .inl (cI, 10, .inl (fun _ => 0))), (q359, .inl (cI, 10, .inl (fun _ => 0))), (q367, .inl (cI, 40, .inl (fun _ => 0))), (q375, .inl (cI, 40, .inl (fun _ => 0))), (q383, .inl (cI, 40, .inl (fun _ => 0))), (q391, .inl (cI, 40, .inl (fun _ => 0))), (q399, .inl (cI, 40, .inl (fun _ => 0))), (q407, .inl (cI, 12, .inl (fun _ => 0))), (q415, .inl (cI, 10, .inl (fun _ => 0))), (q424, .inl (cI, 232, .inl (fun _ => 0))), (q432, .inl (cI, 10, .inl (fun _ => 0))), (q440, .inl (cI, 10, .inl (fun _ => 0))), (q448, .inl (cI, 120, .inl (fun _ => 0))), (q456, .inl (cI, 40, .inl (fun _ => 0))), (q464, .inl (cI, 40, .inl (fun _ => 0))), (q472, .inl (cI, 10, .inl (fun _ => 0))), (q480, .inl (cI, 10, .inl (fun _ => 0))), (q488, .inl (cI, 24, .inl (fun _ => 0))), (q496, .inl (cI, 10, .inl (fun _ => 0))), (q504, .inl (cI, 10, .inl (fun _ => 0))), (q512, .inl (cI, 10, .inl (fun _ => 0))), (q521, .inl (cI, 400, .inl (fun _ => 0)))] H := hP
  have hD : va_D A [(x, .inr (13, [.int 0, .int 0, .int 0, .ref q7, .ref q15, .ref q23, .ref q31, .ref q39, .ref q47, .ref q55, .ref q63, .ref q71, .ref q79, .ref q87, .ref q95, .ref q103, .ref q111, .ref q120, .int 0, .int 0, .int 0, .int 0, .int 0, .int 0, .int 0, .int 0, .int 0, .ref q129, .ref q138, .ref q146, .ref q154, .ref q162, .ref q171, .ref q179, .ref q188, .ref q197, .ref q206, .ref q215, .ref q223, .ref q231, .ref q239, .ref q248, .ref q256, .ref q265, .int 0, .int 0, .int 0, .ref q272, .ref q279, .ref q286, .ref q294, .ref q302, .ref q310, .ref q319, .int 0, .int 0, .int 0, .int 0, .int 0, .ref q327, .ref q335, .ref q343, .int 0, .int 0, .ref q351, .ref q359, .ref q367, .ref q375, .ref q383, .ref q391, .ref q399, .int 0, .int 0, .int 0, .ref q407, .int 0, .ref q415, .ref q424, .ref q432, .ref q440, .ref q448, .ref q456, .ref q464, .int 0, .ref q472, .ref q480, .ref q488, .ref q496, .ref q504, .ref q512, .ref q521])), (q7, .inl (cI, 10, .inl (fun _ => 0))), (q15, .inl (cI, 10, .inl (fun _ => 0))), (q23, .inl (cI, 10, .inl (fun _ => 0))), (q31, .inl (cI, 10, .inl (fun _ => 0))), (q39, .inl (cI, 10, .inl (fun _ => 0))), (q47, .inl (cI, 60, .inl (fun _ => 0))), (q55, .inl (cI, 60, .inl (fun _ => 0))), (q63, .inl (cI, 60, .inl (fun _ => 0))), (q71, .inl (cI, 60, .inl (fun _ => 0))), (q79, .inl (cI, 60, .inl (fun _ => 0))), (q87, .inl (cI, 60, .inl (fun _ => 0))), (q95, .inl (cI, 60, .inl (fun _ => 0))), (q103, .inl (cI, 60, .inl (fun _ => 0))), (q111, .inl (cI, 60, .inl (fun _ => 0))), (q120, .inl (cB, 200, .inl (fun _ => 0))), (q129, .inl (cI, 180, .inl (fun _ => 0))), (q138, .inl (cI, 180, .inl (fun _ => 0))), (q146, .inl (cI, 12, .inl (fun _ => 0))), (q154, .inl (cI, 12, .inl (fun _ => 0))), (q162, .inl (cI, 12, .inl (fun _ => 0))), (q171, .inl (cI, 1980, .inl (fun _ => 0))), (q179, .inl (cI, 11, .inl (fun _ => 0))), (q188, .inl (cI, 132, .inl (fun _ => 0))), (q197, .inl (cI, 132, .inl (fun _ => 0))), (q206, .inl (cI, 132, .inl (fun _ => 0))), (q215, .inl (cI, 180, .inl (fun _ => 0))), (q223, .inl (cI, 11, .inl (fun _ => 0))), (q231, .inl (cI, 58, .inl (fun _ => 0))), (q239, .inl (cI, 10, .inl (fun _ => 0))), (q248, .inl (cI, 400, .inl (fun _ => 0))), (q256, .inl (cI, 10, .inl (fun _ => 0))), (q265, .inl (cI, 2048, .inl (fun _ => 0))), (q272, .inl (cI, 3, .inl (fun _ => 0))), (q279, .inl (cI, 3, .inl (fun _ => 0))), (q286, .inl (cI, 3, .inl (fun _ => 0))), (q294, .inl (cI, 6, .inl (fun _ => 0))), (q302, .inl (cI, 6, .inl (fun _ => 0))), (q310, .inl (cI, 10, .inl (fun _ => 0))), (q319, .inl (cZ, 1200, .inl (fun _ => 0))), (q327, .inl (cI, 60, .inl (fun _ => 0))), (q335, .inl (cI, 60, .inl (fun _ => 0))), (q343, .inl (cI, 60, .inl (fun _ => 0))), (q351, .inl (cI, 10, .inl (fun _ => 0))), (q359, .inl (cI, 10, .inl (fun _ => 0))), (q367, .inl (cI, 40, .inl (fun _ => 0))), (q375, .inl (cI, 40, .inl (fun _ => 0))), (q383, .inl (cI, 40, .inl (fun _ => 0))), (q391, .inl (cI, 40, .inl (fun _ => 0))), (q399, .inl (cI, 40, .inl (fun _ => 0))), (q407, .inl (cI, 12, .inl (fun _ => 0))), (q415, .inl (cI, 10, .inl (fun _ => 0))), (q424, .inl (cI, 232, .inl (fun _ => 0))), (q432, .inl (cI, 10, .inl (fun _ => 0))), (q440, .inl (cI, 10, .inl (fun _ => 0))), (q448, .inl (cI, 120, .inl (fun _ => 0))), (q456, .inl (cI, 40, .inl (fun _ => 0))), (q464, .inl (cI, 40, .inl (fun _ => 0))), (q472, .inl (cI, 10, .inl (fun _ => 0))), (q480, .inl (cI, 10, .inl (fun _ => 0))), (q488, .inl (cI, 24, .inl (fun _ => 0))), (q496, .inl (cI, 10, .inl (fun _ => 0))), (q504, .inl (cI, 10, .inl (fun _ => 0))), (q512, .inl (cI, 10, .inl (fun _ => 0))), (q521, .inl (cI, 400, .inl (fun _ => 0)))] := hD
  have hP : va_P D vwCl [(x, .inr (13, [.int 0, .int 0, .int 0, .ref q7, .ref q15, .ref q23, .ref q31, .ref q39, .ref q47, .ref q55, .ref q63, .ref q71, .ref q79, .ref q87, .ref q95, .ref q103, .ref q111, .ref q120, .int 0, .int 0, .int 0, .int 0, .int 0, .int 0, .int 0, .int 0, .int 0, .ref q129, .ref q138, .ref q146, .ref q154, .ref q162, .ref q171, .ref q179, .ref q188, .ref q197, .ref q206, .ref q215, .ref q223, .ref q231, .ref q239, .ref q248, .ref q256, .ref q265, .int 0, .int 0, .int 0, .ref q272, .ref q279, .ref q286, .ref q294, .ref q302, .ref q310, .ref q319, .int 0, .int 0, .int 0, .int 0, .int 0, .ref q327, .ref q335, .ref q343, .int 0, .int 0, .ref q351, .ref q359, .ref q367, .ref q375, .ref q383, .ref q391, .ref q399, .int 0, .int 0, .int 0, .ref q407, .int 0, .ref q415, .ref q424, .ref q432, .ref q440, .ref q448, .ref q456, .ref q464, .int 0, .ref q472, .ref q480, .ref q488, .ref q496, .ref q504, .ref q512, .ref q521])), (q7, .inl (cI, 10, .inl (fun _ => 0))), (q15, .inl (cI, 10, .inl (fun _ => 0))), (q23, .inl (cI, 10, .inl (fun _ => 0))), (q31, .inl (cI, 10, .inl (fun _ => 0))), (q39, .inl (cI, 10, .inl (fun _ => 0))), (q47, .inl (cI, 60, .inl (fun _ => 0))), (q55, .inl (cI, 60, .inl (fun _ => 0))), (q63, .inl (cI, 60, .inl (fun _ => 0))), (q71, .inl (cI, 60, .inl (fun _ => 0))), (q79, .inl (cI, 60, .inl (fun _ => 0))), (q87, .inl (cI, 60, .inl (fun _ => 0))), (q95, .inl (cI, 60, .inl (fun _ => 0))), (q103, .inl (cI, 60, .inl (fun _ => 0))), (q111, .inl (cI, 60, .inl (fun _ => 0))), (q120, .inl (cB, 200, .inl (fun _ => 0))), (q129, .inl (cI, 180, .inl (fun _ => 0))), (q138, .inl (cI, 180, .inl (fun _ => 0))), (q146, .inl (cI, 12, .inl (fun _ => 0))), (q154, .inl (cI, 12, .inl (fun _ => 0))), (q162, .inl (cI, 12, .inl (fun _ => 0))), (q171, .inl (cI, 1980, .inl (fun _ => 0))), (q179, .inl (cI, 11, .inl (fun _ => 0))), (q188, .inl (cI, 132, .inl (fun _ => 0))), (q197, .inl (cI, 132, .inl (fun _ => 0))), (q206, .inl (cI, 132, .inl (fun _ => 0))), (q215, .inl (cI, 180, .inl (fun _ => 0))), (q223, .inl (cI, 11, .inl (fun _ => 0))), (q231, .inl (cI, 58, .inl (fun _ => 0))), (q239, .inl (cI, 10, .inl (fun _ => 0))), (q248, .inl (cI, 400, .inl (fun _ => 0))), (q256, .inl (cI, 10, .inl (fun _ => 0))), (q265, .inl (cI, 2048, .inl (fun _ => 0))), (q272, .inl (cI, 3, .inl (fun _ => 0))), (q279, .inl (cI, 3, .inl (fun _ => 0))), (q286, .inl (cI, 3, .inl (fun _ => 0))), (q294, .inl (cI, 6, .inl (fun _ => 0))), (q302, .inl (cI, 6, .inl (fun _ => 0))), (q310, .inl (cI, 10, .inl (fun _ => 0))), (q319, .inl (cZ, 1200, .inl (fun _ => 0))), (q327, .inl (cI, 60, .inl (fun _ => 0))), (q335, .inl (cI, 60, .inl (fun _ => 0))), (q343, .inl (cI, 60, .inl (fun _ => 0))), (q351, .inl (cI, 10, .inl (fun _ => 0))), (q359, .inl (cI, 10, .inl (fun _ => 0))), (q367, .inl (cI, 40, .inl (fun _ => 0))), (q375, .inl (cI, 40, .inl (fun _ => 0))), (q383, .inl (cI, 40, .inl (fun _ => 0))), (q391, .inl (cI, 40, .inl (fun _ => 0))), (q399, .inl (cI, 40, .inl (fun _ => 0))), (q407, .inl (cI, 12, .inl (fun _ => 0))), (q415, .inl (cI, 10, .inl (fun _ => 0))), (q424, .inl (cI, 232, .inl (fun _ => 0))), (q432, .inl (cI, 10, .inl (fun _ => 0))), (q440, .inl (cI, 10, .inl (fun _ => 0))), (q448, .inl (cI, 120, .inl (fun _ => 0))), (q456, .inl (cI, 40, .inl (fun _ => 0))), (q464, .inl (cI, 40, .inl (fun _ => 0))), (q472, .inl (cI, 10, .inl (fun _ => 0))), (q480, .inl (cI, 10, .inl (fun _ => 0))), (q488, .inl (cI, 24, .inl (fun _ => 0))), (q496, .inl (cI, 10, .inl (fun _ => 0))), (q504, .inl (cI, 10, .inl (fun _ => 0))), (q512, .inl (cI, 10, .inl (fun _ => 0))), (q521, .inl (cI, 400, .inl (dgF 0)))] H := by rw [dgF_0]; exact hP
  have hD : va_D A [(x, .inr (13, [.int 0, .int 0, .int 0, .ref q7, .ref q15, .ref q23, .ref q31, .ref q39, .ref q47, .ref q55, .ref q63, .ref q71, .ref q79, .ref q87, .ref q95, .ref q103, .ref q111, .ref q120, .int 0, .int 0, .int 0, .int 0, .int 0, .int 0, .int 0, .int 0, .int 0, .ref q129, .ref q138, .ref q146, .ref q154, .ref q162, .ref q171, .ref q179, .ref q188, .ref q197, .ref q206, .ref q215, .ref q223, .ref q231, .ref q239, .ref q248, .ref q256, .ref q265, .int 0, .int 0, .int 0, .ref q272, .ref q279, .ref q286, .ref q294, .ref q302, .ref q310, .ref q319, .int 0, .int 0, .int 0, .int 0, .int 0, .ref q327, .ref q335, .ref q343, .int 0, .int 0, .ref q351, .ref q359, .ref q367, .ref q375, .ref q383, .ref q391, .ref q399, .int 0, .int 0, .int 0, .ref q407, .int 0, .ref q415, .ref q424, .ref q432, .ref q440, .ref q448, .ref q456, .ref q464, .int 0, .ref q472, .ref q480, .ref q488, .ref q496, .ref q504, .ref q512, .ref q521])), (q7, .inl (cI, 10, .inl (fun _ => 0))), (q15, .inl (cI, 10, .inl (fun _ => 0))), (q23, .inl (cI, 10, .inl (fun _ => 0))), (q31, .inl (cI, 10, .inl (fun _ => 0))), (q39, .inl (cI, 10, .inl (fun _ => 0))), (q47, .inl (cI, 60, .inl (fun _ => 0))), (q55, .inl (cI, 60, .inl (fun _ => 0))), (q63, .inl (cI, 60, .inl (fun _ => 0))), (q71, .inl (cI, 60, .inl (fun _ => 0))), (q79, .inl (cI, 60, .inl (fun _ => 0))), (q87, .inl (cI, 60, .inl (fun _ => 0))), (q95, .inl (cI, 60, .inl (fun _ => 0))), (q103, .inl (cI, 60, .inl (fun _ => 0))), (q111, .inl (cI, 60, .inl (fun _ => 0))), (q120, .inl (cB, 200, .inl (fun _ => 0))), (q129, .inl (cI, 180, .inl (fun _ => 0))), (q138, .inl (cI, 180, .inl (fun _ => 0))), (q146, .inl (cI, 12, .inl (fun _ => 0))), (q154, .inl (cI, 12, .inl (fun _ => 0))), (q162, .inl (cI, 12, .inl (fun _ => 0))), (q171, .inl (cI, 1980, .inl (fun _ => 0))), (q179, .inl (cI, 11, .inl (fun _ => 0))), (q188, .inl (cI, 132, .inl (fun _ => 0))), (q197, .inl (cI, 132, .inl (fun _ => 0))), (q206, .inl (cI, 132, .inl (fun _ => 0))), (q215, .inl (cI, 180, .inl (fun _ => 0))), (q223, .inl (cI, 11, .inl (fun _ => 0))), (q231, .inl (cI, 58, .inl (fun _ => 0))), (q239, .inl (cI, 10, .inl (fun _ => 0))), (q248, .inl (cI, 400, .inl (fun _ => 0))), (q256, .inl (cI, 10, .inl (fun _ => 0))), (q265, .inl (cI, 2048, .inl (fun _ => 0))), (q272, .inl (cI, 3, .inl (fun _ => 0))), (q279, .inl (cI, 3, .inl (fun _ => 0))), (q286, .inl (cI, 3, .inl (fun _ => 0))), (q294, .inl (cI, 6, .inl (fun _ => 0))), (q302, .inl (cI, 6, .inl (fun _ => 0))), (q310, .inl (cI, 10, .inl (fun _ => 0))), (q319, .inl (cZ, 1200, .inl (fun _ => 0))), (q327, .inl (cI, 60, .inl (fun _ => 0))), (q335, .inl (cI, 60, .inl (fun _ => 0))), (q343, .inl (cI, 60, .inl (fun _ => 0))), (q351, .inl (cI, 10, .inl (fun _ => 0))), (q359, .inl (cI, 10, .inl (fun _ => 0))), (q367, .inl (cI, 40, .inl (fun _ => 0))), (q375, .inl (cI, 40, .inl (fun _ => 0))), (q383, .inl (cI, 40, .inl (fun _ => 0))), (q391, .inl (cI, 40, .inl (fun _ => 0))), (q399, .inl (cI, 40, .inl (fun _ => 0))), (q407, .inl (cI, 12, .inl (fun _ => 0))), (q415, .inl (cI, 10, .inl (fun _ => 0))), (q424, .inl (cI, 232, .inl (fun _ => 0))), (q432, .inl (cI, 10, .inl (fun _ => 0))), (q440, .inl (cI, 10, .inl (fun _ => 0))), (q448, .inl (cI, 120, .inl (fun _ => 0))), (q456, .inl (cI, 40, .inl (fun _ => 0))), (q464, .inl (cI, 40, .inl (fun _ => 0))), (q472, .inl (cI, 10, .inl (fun _ => 0))), (q480, .inl (cI, 10, .inl (fun _ => 0))), (q488, .inl (cI, 24, .inl (fun _ => 0))), (q496, .inl (cI, 10, .inl (fun _ => 0))), (q504, .inl (cI, 10, .inl (fun _ => 0))), (q512, .inl (cI, 10, .inl (fun _ => 0))), (q521, .inl (cI, 400, .inl (dgF 0)))] := by rw [dgF_0]; exact hD
  have lp_528 : ∀ (n i : Nat), 400 + 1 ≤ i + n → i ≤ 400 → ∀ (H : Heap) (locs : List Loc), va_P D vwCl [(x, .inr (13, [.int 0, .int 0, .int 0, .ref q7, .ref q15, .ref q23, .ref q31, .ref q39, .ref q47, .ref q55, .ref q63, .ref q71, .ref q79, .ref q87, .ref q95, .ref q103, .ref q111, .ref q120, .int 0, .int 0, .int 0, .int 0, .int 0, .int 0, .int 0, .int 0, .int 0, .ref q129, .ref q138, .ref q146, .ref q154, .ref q162, .ref q171, .ref q179, .ref q188, .ref q197, .ref q206, .ref q215, .ref q223, .ref q231, .ref q239, .ref q248, .ref q256, .ref q265, .int 0, .int 0, .int 0, .ref q272, .ref q279, .ref q286, .ref q294, .ref q302, .ref q310, .ref q319, .int 0, .int 0, .int 0, .int 0, .int 0, .ref q327, .ref q335, .ref q343, .int 0, .int 0, .ref q351, .ref q359, .ref q367, .ref q375, .ref q383, .ref q391, .ref q399, .int 0, .int 0, .int 0, .ref q407, .int 0, .ref q415, .ref q424, .ref q432, .ref q440, .ref q448, .ref q456, .ref q464, .int 0, .ref q472, .ref q480, .ref q488, .ref q496, .ref q504, .ref q512, .ref q521])), (q7, .inl (cI, 10, .inl (fun _ => 0))), (q15, .inl (cI, 10, .inl (fun _ => 0))), (q23, .inl (cI, 10, .inl (fun _ => 0))), (q31, .inl (cI, 10, .inl (fun _ => 0))), (q39, .inl (cI, 10, .inl (fun _ => 0))), (q47, .inl (cI, 60, .inl (fun _ => 0))), (q55, .inl (cI, 60, .inl (fun _ => 0))), (q63, .inl (cI, 60, .inl (fun _ => 0))), (q71, .inl (cI, 60, .inl (fun _ => 0))), (q79, .inl (cI, 60, .inl (fun _ => 0))), (q87, .inl (cI, 60, .inl (fun _ => 0))), (q95, .inl (cI, 60, .inl (fun _ => 0))), (q103, .inl (cI, 60, .inl (fun _ => 0))), (q111, .inl (cI, 60, .inl (fun _ => 0))), (q120, .inl (cB, 200, .inl (fun _ => 0))), (q129, .inl (cI, 180, .inl (fun _ => 0))), (q138, .inl (cI, 180, .inl (fun _ => 0))), (q146, .inl (cI, 12, .inl (fun _ => 0))), (q154, .inl (cI, 12, .inl (fun _ => 0))), (q162, .inl (cI, 12, .inl (fun _ => 0))), (q171, .inl (cI, 1980, .inl (fun _ => 0))), (q179, .inl (cI, 11, .inl (fun _ => 0))), (q188, .inl (cI, 132, .inl (fun _ => 0))), (q197, .inl (cI, 132, .inl (fun _ => 0))), (q206, .inl (cI, 132, .inl (fun _ => 0))), (q215, .inl (cI, 180, .inl (fun _ => 0))), (q223, .inl (cI, 11, .inl (fun _ => 0))), (q231, .inl (cI, 58, .inl (fun _ => 0))), (q239, .inl (cI, 10, .inl (fun _ => 0))), (q248, .inl (cI, 400, .inl (fun _ => 0))), (q256, .inl (cI, 10, .inl (fun _ => 0))), (q265, .inl (cI, 2048, .inl (fun _ => 0))), (q272, .inl (cI, 3, .inl (fun _ => 0))), (q279, .inl (cI, 3, .inl (fun _ => 0))), (q286, .inl (cI, 3, .inl (fun _ => 0))), (q294, .inl (cI, 6, .inl (fun _ => 0))), (q302, .inl (cI, 6, .inl (fun _ => 0))), (q310, .inl (cI, 10, .inl (fun _ => 0))), (q319, .inl (cZ, 1200, .inl (fun _ => 0))), (q327, .inl (cI, 60, .inl (fun _ => 0))), (q335, .inl (cI, 60, .inl (fun _ => 0))), (q343, .inl (cI, 60, .inl (fun _ => 0))), (q351, .inl (cI, 10, .inl (fun _ => 0))), (q359, .inl (cI, 10, .inl (fun _ => 0))), (q367, .inl (cI, 40, .inl (fun _ => 0))), (q375, .inl (cI, 40, .inl (fun _ => 0))), (q383, .inl (cI, 40, .inl (fun _ => 0))), (q391, .inl (cI, 40, .inl (fun _ => 0))), (q399, .inl (cI, 40, .inl (fun _ => 0))), (q407, .inl (cI, 12, .inl (fun _ => 0))), (q415, .inl (cI, 10, .inl (fun _ => 0))), (q424, .inl (cI, 232, .inl (fun _ => 0))), (q432, .inl (cI, 10, .inl (fun _ => 0))), (q440, .inl (cI, 10, .inl (fun _ => 0))), (q448, .inl (cI, 120, .inl (fun _ => 0))), (q456, .inl (cI, 40, .inl (fun _ => 0))), (q464, .inl (cI, 40, .inl (fun _ => 0))), (q472, .inl (cI, 10, .inl (fun _ => 0))), (q480, .inl (cI, 10, .inl (fun _ => 0))), (q488, .inl (cI, 24, .inl (fun _ => 0))), (q496, .inl (cI, 10, .inl (fun _ => 0))), (q504, .inl (cI, 10, .inl (fun _ => 0))), (q512, .inl (cI, 10, .inl (fun _ => 0))), (q521, .inl (cI, 400, .inl (dgF i)))] H → va_D A [(x, .inr (13, [.int 0, .int 0, .int 0, .ref q7, .ref q15, .ref q23, .ref q31, .ref q39, .ref q47, .ref q55, .ref q63, .ref q71, .ref q79, .ref q87, .ref q95, .ref q103, .ref q111, .ref q120, .int 0, .int 0, .int 0, .int 0, .int 0, .int 0, .int 0, .int 0, .int 0, .ref q129, .ref q138, .ref q146, .ref q154, .ref q162, .ref q171, .ref q179, .ref q188, .ref q197, .ref q206, .ref q215, .ref q223, .ref q231, .ref q239, .ref q248, .ref q256, .ref q265, .int 0, .int 0, .int 0, .ref q272, .ref q279, .ref q286, .ref q294, .ref q302, .ref q310, .ref q319, .int 0, .int 0, .int 0, .int 0, .int 0, .ref q327, .ref q335, .ref q343, .int 0, .int 0, .ref q351, .ref q359, .ref q367, .ref q375, .ref q383, .ref q391, .ref q399, .int 0, .int 0, .int 0, .ref q407, .int 0, .ref q415, .ref q424, .ref q432, .ref q440, .ref q448, .ref q456, .ref q464, .int 0, .ref q472, .ref q480, .ref q488, .ref q496, .ref q504, .ref q512, .ref q521])), (q7, .inl (cI, 10, .inl (fun _ => 0))), (q15, .inl (cI, 10, .inl (fun _ => 0))), (q23, .inl (cI, 10, .inl (fun _ => 0))), (q31, .inl (cI, 10, .inl (fun _ => 0))), (q39, .inl (cI, 10, .inl (fun _ => 0))), (q47, .inl (cI, 60, .inl (fun _ => 0))), (q55, .inl (cI, 60, .inl (fun _ => 0))), (q63, .inl (cI, 60, .inl (fun _ => 0))), (q71, .inl (cI, 60, .inl (fun _ => 0))), (q79, .inl (cI, 60, .inl (fun _ => 0))), (q87, .inl (cI, 60, .inl (fun _ => 0))), (q95, .inl (cI, 60, .inl (fun _ => 0))), (q103, .inl (cI, 60, .inl (fun _ => 0))), (q111, .inl (cI, 60, .inl (fun _ => 0))), (q120, .inl (cB, 200, .inl (fun _ => 0))), (q129, .inl (cI, 180, .inl (fun _ => 0))), (q138, .inl (cI, 180, .inl (fun _ => 0))), (q146, .inl (cI, 12, .inl (fun _ => 0))), (q154, .inl (cI, 12, .inl (fun _ => 0))), (q162, .inl (cI, 12, .inl (fun _ => 0))), (q171, .inl (cI, 1980, .inl (fun _ => 0))), (q179, .inl (cI, 11, .inl (fun _ => 0))), (q188, .inl (cI, 132, .inl (fun _ => 0))), (q197, .inl (cI, 132, .inl (fun _ => 0))), (q206, .inl (cI, 132, .inl (fun _ => 0))), (q215, .inl (cI, 180, .inl (fun _ => 0))), (q223, .inl (cI, 11, .inl (fun _ => 0))), (q231, .inl (cI, 58, .inl (fun _ => 0))), (q239, .inl (cI, 10, .inl (fun _ => 0))), (q248, .inl (cI, 400, .inl (fun _ => 0))), (q256, .inl (cI, 10, .inl (fun _ => 0))), (q265, .inl (cI, 2048, .inl (fun _ => 0))), (q272, .inl (cI, 3, .inl (fun _ => 0))), (q279, .inl (cI, 3, .inl (fun _ => 0))), (q286, .inl (cI, 3, .inl (fun _ => 0))), (q294, .inl (cI, 6, .inl (fun _ => 0))), (q302, .inl (cI, 6, .inl (fun _ => 0))), (q310, .inl (cI, 10, .inl (fun _ => 0))), (q319, .inl (cZ, 1200, .inl (fun _ => 0))), (q327, .inl (cI, 60, .inl (fun _ => 0))), (q335, .inl (cI, 60, .inl (fun _ => 0))), (q343, .inl (cI, 60, .inl (fun _ => 0))), (q351, .inl (cI, 10, .inl (fun _ => 0))), (q359, .inl (cI, 10, .inl (fun _ => 0))), (q367, .inl (cI, 40, .inl (fun _ => 0))), (q375, .inl (cI, 40, .inl (fun _ => 0))), (q383, .inl (cI, 40, .inl (fun _ => 0))), (q391, .inl (cI, 40, .inl (fun _ => 0))), (q399, .inl (cI, 40, .inl (fun _ => 0))), (q407, .inl (cI, 12, .inl (fun _ => 0))), (q415, .inl (cI, 10, .inl (fun _ => 0))), (q424, .inl (cI, 232, .inl (fun _ => 0))), (q432, .inl (cI, 10, .inl (fun _ => 0))), (q440, .inl (cI, 10, .inl (fun _ => 0))), (q448, .inl (cI, 120, .inl (fun _ => 0))), (q456, .inl (cI, 40, .inl (fun _ => 0))), (q464, .inl (cI, 40, .inl (fun _ => 0))), (q472, .inl (cI, 10, .inl (fun _ => 0))), (q480, .inl (cI, 10, .inl (fun _ => 0))), (q488, .inl (cI, 24, .inl (fun _ => 0))), (q496, .inl (cI, 10, .inl (fun _ => 0))), (q504, .inl (cI, 10, .inl (fun _ => 0))), (q512, .inl (cI, 10, .inl (fun _ => 0))), (q521, .inl (cI, 400, .inl (dgF i)))] → va_S A s.heap H locs → ∀ ls : Array Slot, lv_has ls 2 [(1, .int (nI i)), (0, .ref x)] → W p l e (RM 2 64 8869) s m ([.ref x]).toArray below meth c H locs 64 8869 (MQ below (va_Qv (fun (u : Nat → Nat) => u 100 = x) (fun (u : Nat → Nat) (t : State) => va_P D vwCl [((u 100), .inr (13, [.int 0, .int 0, .int 0, .ref (u 3), .ref (u 4), .ref (u 5), .ref (u 6), .ref (u 7), .ref (u 8), .ref (u 9), .ref (u 10), .ref (u 11), .ref (u 12), .ref (u 13), .ref (u 14), .ref (u 15), .ref (u 16), .ref (u 17), .int 0, .int 0, .int 0, .int 0, .int 0, .int 0, .int 0, .int 0, .int 0, .ref (u 27), .ref (u 28), .ref (u 29), .ref (u 30), .ref (u 31), .ref (u 32), .ref (u 33), .ref (u 34), .ref (u 35), .ref (u 36), .ref (u 37), .ref (u 38), .ref (u 39), .ref (u 40), .ref (u 41), .ref (u 42), .ref (u 43), .int 0, .int 0, .int 0, .ref (u 47), .ref (u 48), .ref (u 49), .ref (u 50), .ref (u 51), .ref (u 52), .ref (u 53), .int 0, .int 0, .int 0, .int 0, .int 0, .ref (u 59), .ref (u 60), .ref (u 61), .int 0, .int 0, .ref (u 64), .ref (u 65), .ref (u 66), .ref (u 67), .ref (u 68), .ref (u 69), .ref (u 70), .int 0, .int 0, .int 0, .ref (u 74), .int 0, .ref (u 76), .ref (u 77), .ref (u 78), .ref (u 79), .ref (u 80), .ref (u 81), .ref (u 82), .int 0, .ref (u 84), .ref (u 85), .ref (u 86), .ref (u 87), .ref (u 88), .ref (u 89), .ref (u 90)])), ((u 3), .inl (cI, 10, .inl (fun _ => 0))), ((u 4), .inl (cI, 10, .inl (fun _ => 0))), ((u 5), .inl (cI, 10, .inl (fun _ => 0))), ((u 6), .inl (cI, 10, .inl (fun _ => 0))), ((u 7), .inl (cI, 10, .inl (fun _ => 0))), ((u 8), .inl (cI, 60, .inl (fun _ => 0))), ((u 9), .inl (cI, 60, .inl (fun _ => 0))), ((u 10), .inl (cI, 60, .inl (fun _ => 0))), ((u 11), .inl (cI, 60, .inl (fun _ => 0))), ((u 12), .inl (cI, 60, .inl (fun _ => 0))), ((u 13), .inl (cI, 60, .inl (fun _ => 0))), ((u 14), .inl (cI, 60, .inl (fun _ => 0))), ((u 15), .inl (cI, 60, .inl (fun _ => 0))), ((u 16), .inl (cI, 60, .inl (fun _ => 0))), ((u 17), .inl (cB, 200, .inl (fun _ => 0))), ((u 27), .inl (cI, 180, .inl (fun _ => 0))), ((u 28), .inl (cI, 180, .inl (fun _ => 0))), ((u 29), .inl (cI, 12, .inl (fun _ => 0))), ((u 30), .inl (cI, 12, .inl (fun _ => 0))), ((u 31), .inl (cI, 12, .inl (fun _ => 0))), ((u 32), .inl (cI, 1980, .inl (fun _ => 0))), ((u 33), .inl (cI, 11, .inl (fun _ => 0))), ((u 34), .inl (cI, 132, .inl (fun _ => 0))), ((u 35), .inl (cI, 132, .inl (fun _ => 0))), ((u 36), .inl (cI, 132, .inl (fun _ => 0))), ((u 37), .inl (cI, 180, .inl (fun _ => 0))), ((u 38), .inl (cI, 11, .inl (fun _ => 0))), ((u 39), .inl (cI, 58, .inl (fun _ => 0))), ((u 40), .inl (cI, 10, .inl (fun _ => 0))), ((u 41), .inl (cI, 400, .inl (fun _ => 0))), ((u 42), .inl (cI, 10, .inl (fun _ => 0))), ((u 43), .inl (cI, 2048, .inl (fun _ => 0))), ((u 47), .inl (cI, 3, .inl (fun _ => 0))), ((u 48), .inl (cI, 3, .inl (fun _ => 0))), ((u 49), .inl (cI, 3, .inl (fun _ => 0))), ((u 50), .inl (cI, 6, .inl (fun _ => 0))), ((u 51), .inl (cI, 6, .inl (fun _ => 0))), ((u 52), .inl (cI, 10, .inl (fun _ => 0))), ((u 53), .inl (cZ, 1200, .inl (fun _ => 0))), ((u 59), .inl (cI, 60, .inl (fun _ => 0))), ((u 60), .inl (cI, 60, .inl (fun _ => 0))), ((u 61), .inl (cI, 60, .inl (fun _ => 0))), ((u 64), .inl (cI, 10, .inl (fun _ => 0))), ((u 65), .inl (cI, 10, .inl (fun _ => 0))), ((u 66), .inl (cI, 40, .inl (fun _ => 0))), ((u 67), .inl (cI, 40, .inl (fun _ => 0))), ((u 68), .inl (cI, 40, .inl (fun _ => 0))), ((u 69), .inl (cI, 40, .inl (fun _ => 0))), ((u 70), .inl (cI, 40, .inl (fun _ => 0))), ((u 74), .inl (cI, 12, .inl (fun _ => 0))), ((u 76), .inl (cI, 10, .inl (fun _ => 0))), ((u 77), .inl (cI, 232, .inl (fun _ => 0))), ((u 78), .inl (cI, 10, .inl (fun _ => 0))), ((u 79), .inl (cI, 10, .inl (fun _ => 0))), ((u 80), .inl (cI, 120, .inl (fun _ => 0))), ((u 81), .inl (cI, 40, .inl (fun _ => 0))), ((u 82), .inl (cI, 40, .inl (fun _ => 0))), ((u 84), .inl (cI, 10, .inl (fun _ => 0))), ((u 85), .inl (cI, 10, .inl (fun _ => 0))), ((u 86), .inl (cI, 24, .inl (fun _ => 0))), ((u 87), .inl (cI, 10, .inl (fun _ => 0))), ((u 88), .inl (cI, 10, .inl (fun _ => 0))), ((u 89), .inl (cI, 10, .inl (fun _ => 0))), ((u 90), .inl (cI, 400, .inl (dgF 400)))] t.heap ∧ va_D A [((u 100), .inr (13, [.int 0, .int 0, .int 0, .ref (u 3), .ref (u 4), .ref (u 5), .ref (u 6), .ref (u 7), .ref (u 8), .ref (u 9), .ref (u 10), .ref (u 11), .ref (u 12), .ref (u 13), .ref (u 14), .ref (u 15), .ref (u 16), .ref (u 17), .int 0, .int 0, .int 0, .int 0, .int 0, .int 0, .int 0, .int 0, .int 0, .ref (u 27), .ref (u 28), .ref (u 29), .ref (u 30), .ref (u 31), .ref (u 32), .ref (u 33), .ref (u 34), .ref (u 35), .ref (u 36), .ref (u 37), .ref (u 38), .ref (u 39), .ref (u 40), .ref (u 41), .ref (u 42), .ref (u 43), .int 0, .int 0, .int 0, .ref (u 47), .ref (u 48), .ref (u 49), .ref (u 50), .ref (u 51), .ref (u 52), .ref (u 53), .int 0, .int 0, .int 0, .int 0, .int 0, .ref (u 59), .ref (u 60), .ref (u 61), .int 0, .int 0, .ref (u 64), .ref (u 65), .ref (u 66), .ref (u 67), .ref (u 68), .ref (u 69), .ref (u 70), .int 0, .int 0, .int 0, .ref (u 74), .int 0, .ref (u 76), .ref (u 77), .ref (u 78), .ref (u 79), .ref (u 80), .ref (u 81), .ref (u 82), .int 0, .ref (u 84), .ref (u 85), .ref (u 86), .ref (u 87), .ref (u 88), .ref (u 89), .ref (u 90)])), ((u 3), .inl (cI, 10, .inl (fun _ => 0))), ((u 4), .inl (cI, 10, .inl (fun _ => 0))), ((u 5), .inl (cI, 10, .inl (fun _ => 0))), ((u 6), .inl (cI, 10, .inl (fun _ => 0))), ((u 7), .inl (cI, 10, .inl (fun _ => 0))), ((u 8), .inl (cI, 60, .inl (fun _ => 0))), ((u 9), .inl (cI, 60, .inl (fun _ => 0))), ((u 10), .inl (cI, 60, .inl (fun _ => 0))), ((u 11), .inl (cI, 60, .inl (fun _ => 0))), ((u 12), .inl (cI, 60, .inl (fun _ => 0))), ((u 13), .inl (cI, 60, .inl (fun _ => 0))), ((u 14), .inl (cI, 60, .inl (fun _ => 0))), ((u 15), .inl (cI, 60, .inl (fun _ => 0))), ((u 16), .inl (cI, 60, .inl (fun _ => 0))), ((u 17), .inl (cB, 200, .inl (fun _ => 0))), ((u 27), .inl (cI, 180, .inl (fun _ => 0))), ((u 28), .inl (cI, 180, .inl (fun _ => 0))), ((u 29), .inl (cI, 12, .inl (fun _ => 0))), ((u 30), .inl (cI, 12, .inl (fun _ => 0))), ((u 31), .inl (cI, 12, .inl (fun _ => 0))), ((u 32), .inl (cI, 1980, .inl (fun _ => 0))), ((u 33), .inl (cI, 11, .inl (fun _ => 0))), ((u 34), .inl (cI, 132, .inl (fun _ => 0))), ((u 35), .inl (cI, 132, .inl (fun _ => 0))), ((u 36), .inl (cI, 132, .inl (fun _ => 0))), ((u 37), .inl (cI, 180, .inl (fun _ => 0))), ((u 38), .inl (cI, 11, .inl (fun _ => 0))), ((u 39), .inl (cI, 58, .inl (fun _ => 0))), ((u 40), .inl (cI, 10, .inl (fun _ => 0))), ((u 41), .inl (cI, 400, .inl (fun _ => 0))), ((u 42), .inl (cI, 10, .inl (fun _ => 0))), ((u 43), .inl (cI, 2048, .inl (fun _ => 0))), ((u 47), .inl (cI, 3, .inl (fun _ => 0))), ((u 48), .inl (cI, 3, .inl (fun _ => 0))), ((u 49), .inl (cI, 3, .inl (fun _ => 0))), ((u 50), .inl (cI, 6, .inl (fun _ => 0))), ((u 51), .inl (cI, 6, .inl (fun _ => 0))), ((u 52), .inl (cI, 10, .inl (fun _ => 0))), ((u 53), .inl (cZ, 1200, .inl (fun _ => 0))), ((u 59), .inl (cI, 60, .inl (fun _ => 0))), ((u 60), .inl (cI, 60, .inl (fun _ => 0))), ((u 61), .inl (cI, 60, .inl (fun _ => 0))), ((u 64), .inl (cI, 10, .inl (fun _ => 0))), ((u 65), .inl (cI, 10, .inl (fun _ => 0))), ((u 66), .inl (cI, 40, .inl (fun _ => 0))), ((u 67), .inl (cI, 40, .inl (fun _ => 0))), ((u 68), .inl (cI, 40, .inl (fun _ => 0))), ((u 69), .inl (cI, 40, .inl (fun _ => 0))), ((u 70), .inl (cI, 40, .inl (fun _ => 0))), ((u 74), .inl (cI, 12, .inl (fun _ => 0))), ((u 76), .inl (cI, 10, .inl (fun _ => 0))), ((u 77), .inl (cI, 232, .inl (fun _ => 0))), ((u 78), .inl (cI, 10, .inl (fun _ => 0))), ((u 79), .inl (cI, 10, .inl (fun _ => 0))), ((u 80), .inl (cI, 120, .inl (fun _ => 0))), ((u 81), .inl (cI, 40, .inl (fun _ => 0))), ((u 82), .inl (cI, 40, .inl (fun _ => 0))), ((u 84), .inl (cI, 10, .inl (fun _ => 0))), ((u 85), .inl (cI, 10, .inl (fun _ => 0))), ((u 86), .inl (cI, 24, .inl (fun _ => 0))), ((u 87), .inl (cI, 10, .inl (fun _ => 0))), ((u 88), .inl (cI, 10, .inl (fun _ => 0))), ((u 89), .inl (cI, 10, .inl (fun _ => 0))), ((u 90), .inl (cI, 400, .inl (dgF 400)))]) A) ([.ref x]).toArray s 64 8869 A) (F0 m 528 ls []) := by
    intro n
    induction n with
    | zero => intro i h1 h2; exact absurd h1 (by omega)
    | succ n ih =>
      intro i hn1 hi H locs hP hD hS ls hl
      have ti : (nI i).toInt = (i : Int) := nI_toInt (by omega)
      refine lv_iload_n hx hb dX12_init_528 rfl (lv_at hl 0 rfl) ?_
      refine lv_sipush (v := 400) hx hb dX12_init_529 (by decide) ?_
      refine lv_icmp_ge (tgt := 549) hx hb dX12_init_532 rfl (fun c_1 => ?_) (fun c_1 => ?_)
      ·
        have tc_1 : (400 : Int) ≤ (nI i).toInt := Int32.le_iff_toInt_le.mp c_1
        obtain rfl : i = 400 := by omega
        have hP9 := hP.sub (ws' := [(x, .inr (13, [.int 0, .int 0, .int 0, .ref q7, .ref q15, .ref q23, .ref q31, .ref q39, .ref q47, .ref q55, .ref q63, .ref q71, .ref q79, .ref q87, .ref q95, .ref q103, .ref q111, .ref q120, .int 0, .int 0, .int 0, .int 0, .int 0, .int 0, .int 0, .int 0, .int 0, .ref q129, .ref q138, .ref q146, .ref q154, .ref q162, .ref q171, .ref q179, .ref q188, .ref q197, .ref q206, .ref q215, .ref q223, .ref q231, .ref q239, .ref q248, .ref q256, .ref q265, .int 0, .int 0, .int 0, .ref q272, .ref q279, .ref q286, .ref q294, .ref q302, .ref q310, .ref q319, .int 0, .int 0, .int 0, .int 0, .int 0, .ref q327, .ref q335, .ref q343, .int 0, .int 0, .ref q351, .ref q359, .ref q367, .ref q375, .ref q383, .ref q391, .ref q399, .int 0, .int 0, .int 0, .ref q407, .int 0, .ref q415, .ref q424, .ref q432, .ref q440, .ref q448, .ref q456, .ref q464, .int 0, .ref q472, .ref q480, .ref q488, .ref q496, .ref q504, .ref q512, .ref q521])), (q7, .inl (cI, 10, .inl (fun _ => 0))), (q15, .inl (cI, 10, .inl (fun _ => 0))), (q23, .inl (cI, 10, .inl (fun _ => 0))), (q31, .inl (cI, 10, .inl (fun _ => 0))), (q39, .inl (cI, 10, .inl (fun _ => 0))), (q47, .inl (cI, 60, .inl (fun _ => 0))), (q55, .inl (cI, 60, .inl (fun _ => 0))), (q63, .inl (cI, 60, .inl (fun _ => 0))), (q71, .inl (cI, 60, .inl (fun _ => 0))), (q79, .inl (cI, 60, .inl (fun _ => 0))), (q87, .inl (cI, 60, .inl (fun _ => 0))), (q95, .inl (cI, 60, .inl (fun _ => 0))), (q103, .inl (cI, 60, .inl (fun _ => 0))), (q111, .inl (cI, 60, .inl (fun _ => 0))), (q120, .inl (cB, 200, .inl (fun _ => 0))), (q129, .inl (cI, 180, .inl (fun _ => 0))), (q138, .inl (cI, 180, .inl (fun _ => 0))), (q146, .inl (cI, 12, .inl (fun _ => 0))), (q154, .inl (cI, 12, .inl (fun _ => 0))), (q162, .inl (cI, 12, .inl (fun _ => 0))), (q171, .inl (cI, 1980, .inl (fun _ => 0))), (q179, .inl (cI, 11, .inl (fun _ => 0))), (q188, .inl (cI, 132, .inl (fun _ => 0))), (q197, .inl (cI, 132, .inl (fun _ => 0))), (q206, .inl (cI, 132, .inl (fun _ => 0))), (q215, .inl (cI, 180, .inl (fun _ => 0))), (q223, .inl (cI, 11, .inl (fun _ => 0))), (q231, .inl (cI, 58, .inl (fun _ => 0))), (q239, .inl (cI, 10, .inl (fun _ => 0))), (q248, .inl (cI, 400, .inl (fun _ => 0))), (q256, .inl (cI, 10, .inl (fun _ => 0))), (q265, .inl (cI, 2048, .inl (fun _ => 0))), (q272, .inl (cI, 3, .inl (fun _ => 0))), (q279, .inl (cI, 3, .inl (fun _ => 0))), (q286, .inl (cI, 3, .inl (fun _ => 0))), (q294, .inl (cI, 6, .inl (fun _ => 0))), (q302, .inl (cI, 6, .inl (fun _ => 0))), (q310, .inl (cI, 10, .inl (fun _ => 0))), (q319, .inl (cZ, 1200, .inl (fun _ => 0))), (q327, .inl (cI, 60, .inl (fun _ => 0))), (q335, .inl (cI, 60, .inl (fun _ => 0))), (q343, .inl (cI, 60, .inl (fun _ => 0))), (q351, .inl (cI, 10, .inl (fun _ => 0))), (q359, .inl (cI, 10, .inl (fun _ => 0))), (q367, .inl (cI, 40, .inl (fun _ => 0))), (q375, .inl (cI, 40, .inl (fun _ => 0))), (q383, .inl (cI, 40, .inl (fun _ => 0))), (q391, .inl (cI, 40, .inl (fun _ => 0))), (q399, .inl (cI, 40, .inl (fun _ => 0))), (q407, .inl (cI, 12, .inl (fun _ => 0))), (q415, .inl (cI, 10, .inl (fun _ => 0))), (q424, .inl (cI, 232, .inl (fun _ => 0))), (q432, .inl (cI, 10, .inl (fun _ => 0))), (q440, .inl (cI, 10, .inl (fun _ => 0))), (q448, .inl (cI, 120, .inl (fun _ => 0))), (q456, .inl (cI, 40, .inl (fun _ => 0))), (q464, .inl (cI, 40, .inl (fun _ => 0))), (q472, .inl (cI, 10, .inl (fun _ => 0))), (q480, .inl (cI, 10, .inl (fun _ => 0))), (q488, .inl (cI, 24, .inl (fun _ => 0))), (q496, .inl (cI, 10, .inl (fun _ => 0))), (q504, .inl (cI, 10, .inl (fun _ => 0))), (q512, .inl (cI, 10, .inl (fun _ => 0))), (q521, .inl (cI, 400, .inl (dgF 400)))]) [0, 1, 2, 3, 4, 5, 6, 7, 8, 9, 10, 11, 12, 13, 14, 15, 16, 17, 18, 19, 20, 21, 22, 23, 24, 25, 26, 27, 28, 29, 30, 31, 32, 33, 34, 35, 36, 37, 38, 39, 40, 41, 42, 43, 44, 45, 46, 47, 48, 49, 50, 51, 52, 53, 54, 55, 56, 57, 58, 59, 60, 61, 62, 63, 64] rfl
        have hD9 := hD.sub (ws' := [(x, .inr (13, [.int 0, .int 0, .int 0, .ref q7, .ref q15, .ref q23, .ref q31, .ref q39, .ref q47, .ref q55, .ref q63, .ref q71, .ref q79, .ref q87, .ref q95, .ref q103, .ref q111, .ref q120, .int 0, .int 0, .int 0, .int 0, .int 0, .int 0, .int 0, .int 0, .int 0, .ref q129, .ref q138, .ref q146, .ref q154, .ref q162, .ref q171, .ref q179, .ref q188, .ref q197, .ref q206, .ref q215, .ref q223, .ref q231, .ref q239, .ref q248, .ref q256, .ref q265, .int 0, .int 0, .int 0, .ref q272, .ref q279, .ref q286, .ref q294, .ref q302, .ref q310, .ref q319, .int 0, .int 0, .int 0, .int 0, .int 0, .ref q327, .ref q335, .ref q343, .int 0, .int 0, .ref q351, .ref q359, .ref q367, .ref q375, .ref q383, .ref q391, .ref q399, .int 0, .int 0, .int 0, .ref q407, .int 0, .ref q415, .ref q424, .ref q432, .ref q440, .ref q448, .ref q456, .ref q464, .int 0, .ref q472, .ref q480, .ref q488, .ref q496, .ref q504, .ref q512, .ref q521])), (q7, .inl (cI, 10, .inl (fun _ => 0))), (q15, .inl (cI, 10, .inl (fun _ => 0))), (q23, .inl (cI, 10, .inl (fun _ => 0))), (q31, .inl (cI, 10, .inl (fun _ => 0))), (q39, .inl (cI, 10, .inl (fun _ => 0))), (q47, .inl (cI, 60, .inl (fun _ => 0))), (q55, .inl (cI, 60, .inl (fun _ => 0))), (q63, .inl (cI, 60, .inl (fun _ => 0))), (q71, .inl (cI, 60, .inl (fun _ => 0))), (q79, .inl (cI, 60, .inl (fun _ => 0))), (q87, .inl (cI, 60, .inl (fun _ => 0))), (q95, .inl (cI, 60, .inl (fun _ => 0))), (q103, .inl (cI, 60, .inl (fun _ => 0))), (q111, .inl (cI, 60, .inl (fun _ => 0))), (q120, .inl (cB, 200, .inl (fun _ => 0))), (q129, .inl (cI, 180, .inl (fun _ => 0))), (q138, .inl (cI, 180, .inl (fun _ => 0))), (q146, .inl (cI, 12, .inl (fun _ => 0))), (q154, .inl (cI, 12, .inl (fun _ => 0))), (q162, .inl (cI, 12, .inl (fun _ => 0))), (q171, .inl (cI, 1980, .inl (fun _ => 0))), (q179, .inl (cI, 11, .inl (fun _ => 0))), (q188, .inl (cI, 132, .inl (fun _ => 0))), (q197, .inl (cI, 132, .inl (fun _ => 0))), (q206, .inl (cI, 132, .inl (fun _ => 0))), (q215, .inl (cI, 180, .inl (fun _ => 0))), (q223, .inl (cI, 11, .inl (fun _ => 0))), (q231, .inl (cI, 58, .inl (fun _ => 0))), (q239, .inl (cI, 10, .inl (fun _ => 0))), (q248, .inl (cI, 400, .inl (fun _ => 0))), (q256, .inl (cI, 10, .inl (fun _ => 0))), (q265, .inl (cI, 2048, .inl (fun _ => 0))), (q272, .inl (cI, 3, .inl (fun _ => 0))), (q279, .inl (cI, 3, .inl (fun _ => 0))), (q286, .inl (cI, 3, .inl (fun _ => 0))), (q294, .inl (cI, 6, .inl (fun _ => 0))), (q302, .inl (cI, 6, .inl (fun _ => 0))), (q310, .inl (cI, 10, .inl (fun _ => 0))), (q319, .inl (cZ, 1200, .inl (fun _ => 0))), (q327, .inl (cI, 60, .inl (fun _ => 0))), (q335, .inl (cI, 60, .inl (fun _ => 0))), (q343, .inl (cI, 60, .inl (fun _ => 0))), (q351, .inl (cI, 10, .inl (fun _ => 0))), (q359, .inl (cI, 10, .inl (fun _ => 0))), (q367, .inl (cI, 40, .inl (fun _ => 0))), (q375, .inl (cI, 40, .inl (fun _ => 0))), (q383, .inl (cI, 40, .inl (fun _ => 0))), (q391, .inl (cI, 40, .inl (fun _ => 0))), (q399, .inl (cI, 40, .inl (fun _ => 0))), (q407, .inl (cI, 12, .inl (fun _ => 0))), (q415, .inl (cI, 10, .inl (fun _ => 0))), (q424, .inl (cI, 232, .inl (fun _ => 0))), (q432, .inl (cI, 10, .inl (fun _ => 0))), (q440, .inl (cI, 10, .inl (fun _ => 0))), (q448, .inl (cI, 120, .inl (fun _ => 0))), (q456, .inl (cI, 40, .inl (fun _ => 0))), (q464, .inl (cI, 40, .inl (fun _ => 0))), (q472, .inl (cI, 10, .inl (fun _ => 0))), (q480, .inl (cI, 10, .inl (fun _ => 0))), (q488, .inl (cI, 24, .inl (fun _ => 0))), (q496, .inl (cI, 10, .inl (fun _ => 0))), (q504, .inl (cI, 10, .inl (fun _ => 0))), (q512, .inl (cI, 10, .inl (fun _ => 0))), (q521, .inl (cI, 400, .inl (dgF 400)))]) [0, 1, 2, 3, 4, 5, 6, 7, 8, 9, 10, 11, 12, 13, 14, 15, 16, 17, 18, 19, 20, 21, 22, 23, 24, 25, 26, 27, 28, 29, 30, 31, 32, 33, 34, 35, 36, 37, 38, 39, 40, 41, 42, 43, 44, 45, 46, 47, 48, 49, 50, 51, 52, 53, 54, 55, 56, 57, 58, 59, 60, 61, 62, 63, 64] (by decide) rfl
        exact W.vret hx hb hr (fun t ht hW => ⟨⟨(fun k => ([0, 0, 0, q7, q15, q23, q31, q39, q47, q55, q63, q71, q79, q87, q95, q103, q111, q120, 0, 0, 0, 0, 0, 0, 0, 0, 0, q129, q138, q146, q154, q162, q171, q179, q188, q197, q206, q215, q223, q231, q239, q248, q256, q265, 0, 0, 0, q272, q279, q286, q294, q302, q310, q319, 0, 0, 0, 0, 0, q327, q335, q343, 0, 0, q351, q359, q367, q375, q383, q391, q399, 0, 0, 0, q407, 0, q415, q424, q432, q440, q448, q456, q464, 0, q472, q480, q488, q496, q504, q512, q521, 0, 0, 0, 0, 0, 0, 0, 0, 0, x] : List Nat).getD k 0), rfl, rfl, by rw [ht]; exact hP9, hD9⟩, hS.F ht⟩) hS.2.2 dX12_init_549
      ·
        have tc_1 : ((nI i).toInt : Int) < 400 := Int32.lt_iff_toInt_lt.mp (Int32.not_le.mp c_1)
        refine lv_aload_n hx hb dX12_init_535 rfl (lv_at hl 1 rfl) ?_
        refine gf_RX12_201 S hK hP 0 rfl (v := .ref q521) rfl dX12_init_536 ?_
        refine lv_iload_n hx hb dX12_init_539 rfl (lv_at hl 0 rfl) ?_
        refine lv_bipush (v := 15) hx hb dX12_init_540 kbc_15 ?_
        refine va_iast hx hb hK.1 hP hD hS 64 0 rfl rfl (vp_in_iff.mpr ⟨by omega, by omega⟩) dX12_init_542 (fun H locs hP hD hS => ?_)
        rw [nI_clamp (by omega), dgF_s] at hP hD
        have hP : va_P D vwCl [(x, .inr (13, [.int 0, .int 0, .int 0, .ref q7, .ref q15, .ref q23, .ref q31, .ref q39, .ref q47, .ref q55, .ref q63, .ref q71, .ref q79, .ref q87, .ref q95, .ref q103, .ref q111, .ref q120, .int 0, .int 0, .int 0, .int 0, .int 0, .int 0, .int 0, .int 0, .int 0, .ref q129, .ref q138, .ref q146, .ref q154, .ref q162, .ref q171, .ref q179, .ref q188, .ref q197, .ref q206, .ref q215, .ref q223, .ref q231, .ref q239, .ref q248, .ref q256, .ref q265, .int 0, .int 0, .int 0, .ref q272, .ref q279, .ref q286, .ref q294, .ref q302, .ref q310, .ref q319, .int 0, .int 0, .int 0, .int 0, .int 0, .ref q327, .ref q335, .ref q343, .int 0, .int 0, .ref q351, .ref q359, .ref q367, .ref q375, .ref q383, .ref q391, .ref q399, .int 0, .int 0, .int 0, .ref q407, .int 0, .ref q415, .ref q424, .ref q432, .ref q440, .ref q448, .ref q456, .ref q464, .int 0, .ref q472, .ref q480, .ref q488, .ref q496, .ref q504, .ref q512, .ref q521])), (q7, .inl (cI, 10, .inl (fun _ => 0))), (q15, .inl (cI, 10, .inl (fun _ => 0))), (q23, .inl (cI, 10, .inl (fun _ => 0))), (q31, .inl (cI, 10, .inl (fun _ => 0))), (q39, .inl (cI, 10, .inl (fun _ => 0))), (q47, .inl (cI, 60, .inl (fun _ => 0))), (q55, .inl (cI, 60, .inl (fun _ => 0))), (q63, .inl (cI, 60, .inl (fun _ => 0))), (q71, .inl (cI, 60, .inl (fun _ => 0))), (q79, .inl (cI, 60, .inl (fun _ => 0))), (q87, .inl (cI, 60, .inl (fun _ => 0))), (q95, .inl (cI, 60, .inl (fun _ => 0))), (q103, .inl (cI, 60, .inl (fun _ => 0))), (q111, .inl (cI, 60, .inl (fun _ => 0))), (q120, .inl (cB, 200, .inl (fun _ => 0))), (q129, .inl (cI, 180, .inl (fun _ => 0))), (q138, .inl (cI, 180, .inl (fun _ => 0))), (q146, .inl (cI, 12, .inl (fun _ => 0))), (q154, .inl (cI, 12, .inl (fun _ => 0))), (q162, .inl (cI, 12, .inl (fun _ => 0))), (q171, .inl (cI, 1980, .inl (fun _ => 0))), (q179, .inl (cI, 11, .inl (fun _ => 0))), (q188, .inl (cI, 132, .inl (fun _ => 0))), (q197, .inl (cI, 132, .inl (fun _ => 0))), (q206, .inl (cI, 132, .inl (fun _ => 0))), (q215, .inl (cI, 180, .inl (fun _ => 0))), (q223, .inl (cI, 11, .inl (fun _ => 0))), (q231, .inl (cI, 58, .inl (fun _ => 0))), (q239, .inl (cI, 10, .inl (fun _ => 0))), (q248, .inl (cI, 400, .inl (fun _ => 0))), (q256, .inl (cI, 10, .inl (fun _ => 0))), (q265, .inl (cI, 2048, .inl (fun _ => 0))), (q272, .inl (cI, 3, .inl (fun _ => 0))), (q279, .inl (cI, 3, .inl (fun _ => 0))), (q286, .inl (cI, 3, .inl (fun _ => 0))), (q294, .inl (cI, 6, .inl (fun _ => 0))), (q302, .inl (cI, 6, .inl (fun _ => 0))), (q310, .inl (cI, 10, .inl (fun _ => 0))), (q319, .inl (cZ, 1200, .inl (fun _ => 0))), (q327, .inl (cI, 60, .inl (fun _ => 0))), (q335, .inl (cI, 60, .inl (fun _ => 0))), (q343, .inl (cI, 60, .inl (fun _ => 0))), (q351, .inl (cI, 10, .inl (fun _ => 0))), (q359, .inl (cI, 10, .inl (fun _ => 0))), (q367, .inl (cI, 40, .inl (fun _ => 0))), (q375, .inl (cI, 40, .inl (fun _ => 0))), (q383, .inl (cI, 40, .inl (fun _ => 0))), (q391, .inl (cI, 40, .inl (fun _ => 0))), (q399, .inl (cI, 40, .inl (fun _ => 0))), (q407, .inl (cI, 12, .inl (fun _ => 0))), (q415, .inl (cI, 10, .inl (fun _ => 0))), (q424, .inl (cI, 232, .inl (fun _ => 0))), (q432, .inl (cI, 10, .inl (fun _ => 0))), (q440, .inl (cI, 10, .inl (fun _ => 0))), (q448, .inl (cI, 120, .inl (fun _ => 0))), (q456, .inl (cI, 40, .inl (fun _ => 0))), (q464, .inl (cI, 40, .inl (fun _ => 0))), (q472, .inl (cI, 10, .inl (fun _ => 0))), (q480, .inl (cI, 10, .inl (fun _ => 0))), (q488, .inl (cI, 24, .inl (fun _ => 0))), (q496, .inl (cI, 10, .inl (fun _ => 0))), (q504, .inl (cI, 10, .inl (fun _ => 0))), (q512, .inl (cI, 10, .inl (fun _ => 0))), (q521, .inl (cI, 400, .inl (dgF (i + 1))))] H := hP
        have hD : va_D A [(x, .inr (13, [.int 0, .int 0, .int 0, .ref q7, .ref q15, .ref q23, .ref q31, .ref q39, .ref q47, .ref q55, .ref q63, .ref q71, .ref q79, .ref q87, .ref q95, .ref q103, .ref q111, .ref q120, .int 0, .int 0, .int 0, .int 0, .int 0, .int 0, .int 0, .int 0, .int 0, .ref q129, .ref q138, .ref q146, .ref q154, .ref q162, .ref q171, .ref q179, .ref q188, .ref q197, .ref q206, .ref q215, .ref q223, .ref q231, .ref q239, .ref q248, .ref q256, .ref q265, .int 0, .int 0, .int 0, .ref q272, .ref q279, .ref q286, .ref q294, .ref q302, .ref q310, .ref q319, .int 0, .int 0, .int 0, .int 0, .int 0, .ref q327, .ref q335, .ref q343, .int 0, .int 0, .ref q351, .ref q359, .ref q367, .ref q375, .ref q383, .ref q391, .ref q399, .int 0, .int 0, .int 0, .ref q407, .int 0, .ref q415, .ref q424, .ref q432, .ref q440, .ref q448, .ref q456, .ref q464, .int 0, .ref q472, .ref q480, .ref q488, .ref q496, .ref q504, .ref q512, .ref q521])), (q7, .inl (cI, 10, .inl (fun _ => 0))), (q15, .inl (cI, 10, .inl (fun _ => 0))), (q23, .inl (cI, 10, .inl (fun _ => 0))), (q31, .inl (cI, 10, .inl (fun _ => 0))), (q39, .inl (cI, 10, .inl (fun _ => 0))), (q47, .inl (cI, 60, .inl (fun _ => 0))), (q55, .inl (cI, 60, .inl (fun _ => 0))), (q63, .inl (cI, 60, .inl (fun _ => 0))), (q71, .inl (cI, 60, .inl (fun _ => 0))), (q79, .inl (cI, 60, .inl (fun _ => 0))), (q87, .inl (cI, 60, .inl (fun _ => 0))), (q95, .inl (cI, 60, .inl (fun _ => 0))), (q103, .inl (cI, 60, .inl (fun _ => 0))), (q111, .inl (cI, 60, .inl (fun _ => 0))), (q120, .inl (cB, 200, .inl (fun _ => 0))), (q129, .inl (cI, 180, .inl (fun _ => 0))), (q138, .inl (cI, 180, .inl (fun _ => 0))), (q146, .inl (cI, 12, .inl (fun _ => 0))), (q154, .inl (cI, 12, .inl (fun _ => 0))), (q162, .inl (cI, 12, .inl (fun _ => 0))), (q171, .inl (cI, 1980, .inl (fun _ => 0))), (q179, .inl (cI, 11, .inl (fun _ => 0))), (q188, .inl (cI, 132, .inl (fun _ => 0))), (q197, .inl (cI, 132, .inl (fun _ => 0))), (q206, .inl (cI, 132, .inl (fun _ => 0))), (q215, .inl (cI, 180, .inl (fun _ => 0))), (q223, .inl (cI, 11, .inl (fun _ => 0))), (q231, .inl (cI, 58, .inl (fun _ => 0))), (q239, .inl (cI, 10, .inl (fun _ => 0))), (q248, .inl (cI, 400, .inl (fun _ => 0))), (q256, .inl (cI, 10, .inl (fun _ => 0))), (q265, .inl (cI, 2048, .inl (fun _ => 0))), (q272, .inl (cI, 3, .inl (fun _ => 0))), (q279, .inl (cI, 3, .inl (fun _ => 0))), (q286, .inl (cI, 3, .inl (fun _ => 0))), (q294, .inl (cI, 6, .inl (fun _ => 0))), (q302, .inl (cI, 6, .inl (fun _ => 0))), (q310, .inl (cI, 10, .inl (fun _ => 0))), (q319, .inl (cZ, 1200, .inl (fun _ => 0))), (q327, .inl (cI, 60, .inl (fun _ => 0))), (q335, .inl (cI, 60, .inl (fun _ => 0))), (q343, .inl (cI, 60, .inl (fun _ => 0))), (q351, .inl (cI, 10, .inl (fun _ => 0))), (q359, .inl (cI, 10, .inl (fun _ => 0))), (q367, .inl (cI, 40, .inl (fun _ => 0))), (q375, .inl (cI, 40, .inl (fun _ => 0))), (q383, .inl (cI, 40, .inl (fun _ => 0))), (q391, .inl (cI, 40, .inl (fun _ => 0))), (q399, .inl (cI, 40, .inl (fun _ => 0))), (q407, .inl (cI, 12, .inl (fun _ => 0))), (q415, .inl (cI, 10, .inl (fun _ => 0))), (q424, .inl (cI, 232, .inl (fun _ => 0))), (q432, .inl (cI, 10, .inl (fun _ => 0))), (q440, .inl (cI, 10, .inl (fun _ => 0))), (q448, .inl (cI, 120, .inl (fun _ => 0))), (q456, .inl (cI, 40, .inl (fun _ => 0))), (q464, .inl (cI, 40, .inl (fun _ => 0))), (q472, .inl (cI, 10, .inl (fun _ => 0))), (q480, .inl (cI, 10, .inl (fun _ => 0))), (q488, .inl (cI, 24, .inl (fun _ => 0))), (q496, .inl (cI, 10, .inl (fun _ => 0))), (q504, .inl (cI, 10, .inl (fun _ => 0))), (q512, .inl (cI, 10, .inl (fun _ => 0))), (q521, .inl (cI, 400, .inl (dgF (i + 1))))] := hD
        refine lv_iinc (v := (nI (i + 1))) (lv' := [(1, .int (nI (i + 1))), (0, .ref x)]) hx hb dX12_init_543 hl (k := 0) rfl (nI_1 _) (ltb rfl) rfl (fun ls hl => ?_)
        refine lv_goto (tgt := 528) hx hb dX12_init_546 rfl ?_
        exact ih (i + 1) (by omega) (by omega) _ _ hP hD hS ls (lv_sub hl [0, 1] rfl)
  exact lp_528 (400 + 1) 0 (by omega) (by omega) H locs hP hD hS ls (lv_sub hl [0, 1] rfl)

