theorem u1_at {c : ByteArray} {p : Nat} {x : UInt8} {r : List UInt8} (h : c.data.toList.drop p = x :: r) : (Jvm.ClassFile.Reader.u1 : Jvm.ClassFile.Decoder Nat) c p = .ok (x.toNat, p + 1) := by
  have hl : p < c.data.toList.length := by
    refine Classical.byContradiction fun q => ?_
    rw [List.drop_eq_nil_of_le (by omega)] at h
    cases h
  have hs : p < c.size := hl
  have hx : c[p] = x := by
    have e := List.drop_eq_getElem_cons hl
    rw [h] at e
    exact (List.cons.inj e).1.symm
  have e : ∀ (d : Decidable (p < c.size)), (@dite (Jvm.ClassFile.Decoder Nat) (p < c.size) d (fun _ => do set (p + 1); pure c[p].toNat) (fun _ => throw (Jvm.ClassFile.HasTruncated.truncated p))) c p = .ok (c[p].toNat, p + 1) := fun d => by
    cases d with
    | isTrue q => rfl
    | isFalse q => exact absurd hs q
  rw [← hx]
  exact e _
theorem rbd {α β : Type} {x : Jvm.ClassFile.Decoder α} {f : α → Jvm.ClassFile.Decoder β} {c : ByteArray} {p q : Nat} {a : α} (h : x c p = .ok (a, q)) : (x >>= f) c p = f a c q := by
  show Except.bind (x c p) _ = _
  rw [h]
  rfl
theorem rmd {α β : Type} {x : Jvm.ClassFile.Decoder α} {f : α → β} {c : ByteArray} {p q : Nat} {a : α} (h : x c p = .ok (a, q)) : (f <$> x) c p = .ok (f a, q) := by
  show Except.bind (x c p) _ = _
  rw [h]
  rfl
theorem u2_at {c : ByteArray} {p q q2 a b : Nat} (h0 : (Jvm.ClassFile.Reader.u1 : Jvm.ClassFile.Decoder Nat) c p = .ok (a, q)) (h1 : (Jvm.ClassFile.Reader.u1 : Jvm.ClassFile.Decoder Nat) c q = .ok (b, q2)) : (Jvm.ClassFile.Reader.u2 : Jvm.ClassFile.Decoder Nat) c p = .ok (a * 256 + b, q2) := (rbd h0).trans ((rbd h1).trans rfl)
theorem s1_at {c : ByteArray} {p q a : Nat} (h : (Jvm.ClassFile.Reader.u1 : Jvm.ClassFile.Decoder Nat) c p = .ok (a, q)) : (Jvm.ClassFile.Reader.s1 : Jvm.ClassFile.Decoder Int) c p = .ok (Jvm.ClassFile.Reader.signed 8 a, q) := rmd h
theorem s2_at {c : ByteArray} {p q a : Nat} (h : (Jvm.ClassFile.Reader.u2 : Jvm.ClassFile.Decoder Nat) c p = .ok (a, q)) : (Jvm.ClassFile.Reader.s2 : Jvm.ClassFile.Decoder Int) c p = .ok (Jvm.ClassFile.Reader.signed 16 a, q) := rmd h
theorem dcd {c : ByteArray} {p n : Nat} {i : Instr} (h : (Jvm.ClassFile.Decoder.instr p) c p = .ok (i, p + n)) : decode c p = .ok (i, n) := by
  show Except.bind ((Jvm.ClassFile.Decoder.instr p) c p) _ = _
  rw [h]
  show Except.ok (i, p + n - p) = Except.ok (i, n)
  rw [Nat.add_sub_cancel_left]
theorem dS {c : ByteArray} {p : Nat} {x : UInt8} {r : List UInt8} (h : c.data.toList.drop p = x :: r) : c.data.toList.drop (p + 1) = r := by
  rw [← List.tail_drop, h]
  rfl
theorem dSn {c : ByteArray} {p : Nat} {l : List UInt8} (k : Nat) (h : c.data.toList.drop p = l) : c.data.toList.drop (p + k) = l.drop k := by
  rw [← h, List.drop_drop]
theorem oc_1 {c : ByteArray} {p : Nat} {r : List UInt8} (h : c.data.toList.drop p = 1 :: r) : decode c p = .ok (.aconst_null, 1) := dcd (n := 1) ((rbd (u1_at h)).trans (rfl))
theorem oc_2 {c : ByteArray} {p : Nat} {r : List UInt8} (h : c.data.toList.drop p = 2 :: r) : decode c p = .ok (.iconst (-1), 1) := dcd (n := 1) ((rbd (u1_at h)).trans (rfl))
theorem oc_3 {c : ByteArray} {p : Nat} {r : List UInt8} (h : c.data.toList.drop p = 3 :: r) : decode c p = .ok (.iconst 0, 1) := dcd (n := 1) ((rbd (u1_at h)).trans (rfl))
theorem oc_4 {c : ByteArray} {p : Nat} {r : List UInt8} (h : c.data.toList.drop p = 4 :: r) : decode c p = .ok (.iconst 1, 1) := dcd (n := 1) ((rbd (u1_at h)).trans (rfl))
theorem oc_5 {c : ByteArray} {p : Nat} {r : List UInt8} (h : c.data.toList.drop p = 5 :: r) : decode c p = .ok (.iconst 2, 1) := dcd (n := 1) ((rbd (u1_at h)).trans (rfl))
theorem oc_6 {c : ByteArray} {p : Nat} {r : List UInt8} (h : c.data.toList.drop p = 6 :: r) : decode c p = .ok (.iconst 3, 1) := dcd (n := 1) ((rbd (u1_at h)).trans (rfl))
theorem oc_7 {c : ByteArray} {p : Nat} {r : List UInt8} (h : c.data.toList.drop p = 7 :: r) : decode c p = .ok (.iconst 4, 1) := dcd (n := 1) ((rbd (u1_at h)).trans (rfl))
theorem oc_8 {c : ByteArray} {p : Nat} {r : List UInt8} (h : c.data.toList.drop p = 8 :: r) : decode c p = .ok (.iconst 5, 1) := dcd (n := 1) ((rbd (u1_at h)).trans (rfl))
theorem oc_9 {c : ByteArray} {p : Nat} {r : List UInt8} (h : c.data.toList.drop p = 9 :: r) : decode c p = .ok (.lconst 0, 1) := dcd (n := 1) ((rbd (u1_at h)).trans (rfl))
theorem oc_10 {c : ByteArray} {p : Nat} {r : List UInt8} (h : c.data.toList.drop p = 10 :: r) : decode c p = .ok (.lconst 1, 1) := dcd (n := 1) ((rbd (u1_at h)).trans (rfl))
theorem oc_16 {c : ByteArray} {p : Nat} {b : UInt8} {r : List UInt8} (h : c.data.toList.drop p = 16 :: b :: r) : decode c p = .ok (.bipush (Jvm.ClassFile.Reader.signed 8 b.toNat), 2) := dcd (n := 2) ((rbd (u1_at h)).trans ((rbd (s1_at (u1_at (dS h)))).trans rfl))
theorem oc_17 {c : ByteArray} {p : Nat} {b b2 : UInt8} {r : List UInt8} (h : c.data.toList.drop p = 17 :: b :: b2 :: r) : decode c p = .ok (.sipush (Jvm.ClassFile.Reader.signed 16 (b.toNat * 256 + b2.toNat)), 3) := dcd (n := 3) ((rbd (u1_at h)).trans ((rbd (s2_at (u2_at (u1_at (dS h)) (u1_at (dS (dS h)))))).trans rfl))
theorem oc_18 {c : ByteArray} {p : Nat} {b : UInt8} {r : List UInt8} (h : c.data.toList.drop p = 18 :: b :: r) : decode c p = .ok (.ldc b.toNat, 2) := dcd (n := 2) ((rbd (u1_at h)).trans ((rbd (u1_at (dS h))).trans rfl))
theorem oc_19 {c : ByteArray} {p : Nat} {b b2 : UInt8} {r : List UInt8} (h : c.data.toList.drop p = 19 :: b :: b2 :: r) : decode c p = .ok (.ldc_w (b.toNat * 256 + b2.toNat), 3) := dcd (n := 3) ((rbd (u1_at h)).trans ((rbd (u2_at (u1_at (dS h)) (u1_at (dS (dS h))))).trans rfl))
theorem oc_20 {c : ByteArray} {p : Nat} {b b2 : UInt8} {r : List UInt8} (h : c.data.toList.drop p = 20 :: b :: b2 :: r) : decode c p = .ok (.ldc2_w (b.toNat * 256 + b2.toNat), 3) := dcd (n := 3) ((rbd (u1_at h)).trans ((rbd (u2_at (u1_at (dS h)) (u1_at (dS (dS h))))).trans rfl))
theorem oc_21 {c : ByteArray} {p : Nat} {b : UInt8} {r : List UInt8} (h : c.data.toList.drop p = 21 :: b :: r) : decode c p = .ok (.iload b.toNat, 2) := dcd (n := 2) ((rbd (u1_at h)).trans ((rbd (u1_at (dS h))).trans rfl))
theorem oc_22 {c : ByteArray} {p : Nat} {b : UInt8} {r : List UInt8} (h : c.data.toList.drop p = 22 :: b :: r) : decode c p = .ok (.lload b.toNat, 2) := dcd (n := 2) ((rbd (u1_at h)).trans ((rbd (u1_at (dS h))).trans rfl))
theorem oc_25 {c : ByteArray} {p : Nat} {b : UInt8} {r : List UInt8} (h : c.data.toList.drop p = 25 :: b :: r) : decode c p = .ok (.aload b.toNat, 2) := dcd (n := 2) ((rbd (u1_at h)).trans ((rbd (u1_at (dS h))).trans rfl))
theorem oc_26 {c : ByteArray} {p : Nat} {r : List UInt8} (h : c.data.toList.drop p = 26 :: r) : decode c p = .ok (.iload_n 0, 1) := dcd (n := 1) ((rbd (u1_at h)).trans (rfl))
theorem oc_27 {c : ByteArray} {p : Nat} {r : List UInt8} (h : c.data.toList.drop p = 27 :: r) : decode c p = .ok (.iload_n 1, 1) := dcd (n := 1) ((rbd (u1_at h)).trans (rfl))
theorem oc_28 {c : ByteArray} {p : Nat} {r : List UInt8} (h : c.data.toList.drop p = 28 :: r) : decode c p = .ok (.iload_n 2, 1) := dcd (n := 1) ((rbd (u1_at h)).trans (rfl))
theorem oc_29 {c : ByteArray} {p : Nat} {r : List UInt8} (h : c.data.toList.drop p = 29 :: r) : decode c p = .ok (.iload_n 3, 1) := dcd (n := 1) ((rbd (u1_at h)).trans (rfl))
theorem oc_30 {c : ByteArray} {p : Nat} {r : List UInt8} (h : c.data.toList.drop p = 30 :: r) : decode c p = .ok (.lload_n 0, 1) := dcd (n := 1) ((rbd (u1_at h)).trans (rfl))
theorem oc_32 {c : ByteArray} {p : Nat} {r : List UInt8} (h : c.data.toList.drop p = 32 :: r) : decode c p = .ok (.lload_n 2, 1) := dcd (n := 1) ((rbd (u1_at h)).trans (rfl))
theorem oc_42 {c : ByteArray} {p : Nat} {r : List UInt8} (h : c.data.toList.drop p = 42 :: r) : decode c p = .ok (.aload_n 0, 1) := dcd (n := 1) ((rbd (u1_at h)).trans (rfl))
theorem oc_43 {c : ByteArray} {p : Nat} {r : List UInt8} (h : c.data.toList.drop p = 43 :: r) : decode c p = .ok (.aload_n 1, 1) := dcd (n := 1) ((rbd (u1_at h)).trans (rfl))
theorem oc_44 {c : ByteArray} {p : Nat} {r : List UInt8} (h : c.data.toList.drop p = 44 :: r) : decode c p = .ok (.aload_n 2, 1) := dcd (n := 1) ((rbd (u1_at h)).trans (rfl))
theorem oc_45 {c : ByteArray} {p : Nat} {r : List UInt8} (h : c.data.toList.drop p = 45 :: r) : decode c p = .ok (.aload_n 3, 1) := dcd (n := 1) ((rbd (u1_at h)).trans (rfl))
theorem oc_46 {c : ByteArray} {p : Nat} {r : List UInt8} (h : c.data.toList.drop p = 46 :: r) : decode c p = .ok (.iaload, 1) := dcd (n := 1) ((rbd (u1_at h)).trans (rfl))
theorem oc_50 {c : ByteArray} {p : Nat} {r : List UInt8} (h : c.data.toList.drop p = 50 :: r) : decode c p = .ok (.aaload, 1) := dcd (n := 1) ((rbd (u1_at h)).trans (rfl))
theorem oc_51 {c : ByteArray} {p : Nat} {r : List UInt8} (h : c.data.toList.drop p = 51 :: r) : decode c p = .ok (.baload, 1) := dcd (n := 1) ((rbd (u1_at h)).trans (rfl))
theorem oc_54 {c : ByteArray} {p : Nat} {b : UInt8} {r : List UInt8} (h : c.data.toList.drop p = 54 :: b :: r) : decode c p = .ok (.istore b.toNat, 2) := dcd (n := 2) ((rbd (u1_at h)).trans ((rbd (u1_at (dS h))).trans rfl))
theorem oc_55 {c : ByteArray} {p : Nat} {b : UInt8} {r : List UInt8} (h : c.data.toList.drop p = 55 :: b :: r) : decode c p = .ok (.lstore b.toNat, 2) := dcd (n := 2) ((rbd (u1_at h)).trans ((rbd (u1_at (dS h))).trans rfl))
theorem oc_58 {c : ByteArray} {p : Nat} {b : UInt8} {r : List UInt8} (h : c.data.toList.drop p = 58 :: b :: r) : decode c p = .ok (.astore b.toNat, 2) := dcd (n := 2) ((rbd (u1_at h)).trans ((rbd (u1_at (dS h))).trans rfl))
theorem oc_60 {c : ByteArray} {p : Nat} {r : List UInt8} (h : c.data.toList.drop p = 60 :: r) : decode c p = .ok (.istore_n 1, 1) := dcd (n := 1) ((rbd (u1_at h)).trans (rfl))
theorem oc_61 {c : ByteArray} {p : Nat} {r : List UInt8} (h : c.data.toList.drop p = 61 :: r) : decode c p = .ok (.istore_n 2, 1) := dcd (n := 1) ((rbd (u1_at h)).trans (rfl))
theorem oc_62 {c : ByteArray} {p : Nat} {r : List UInt8} (h : c.data.toList.drop p = 62 :: r) : decode c p = .ok (.istore_n 3, 1) := dcd (n := 1) ((rbd (u1_at h)).trans (rfl))
theorem oc_63 {c : ByteArray} {p : Nat} {r : List UInt8} (h : c.data.toList.drop p = 63 :: r) : decode c p = .ok (.lstore_n 0, 1) := dcd (n := 1) ((rbd (u1_at h)).trans (rfl))
theorem oc_65 {c : ByteArray} {p : Nat} {r : List UInt8} (h : c.data.toList.drop p = 65 :: r) : decode c p = .ok (.lstore_n 2, 1) := dcd (n := 1) ((rbd (u1_at h)).trans (rfl))
theorem oc_76 {c : ByteArray} {p : Nat} {r : List UInt8} (h : c.data.toList.drop p = 76 :: r) : decode c p = .ok (.astore_n 1, 1) := dcd (n := 1) ((rbd (u1_at h)).trans (rfl))
theorem oc_77 {c : ByteArray} {p : Nat} {r : List UInt8} (h : c.data.toList.drop p = 77 :: r) : decode c p = .ok (.astore_n 2, 1) := dcd (n := 1) ((rbd (u1_at h)).trans (rfl))
theorem oc_78 {c : ByteArray} {p : Nat} {r : List UInt8} (h : c.data.toList.drop p = 78 :: r) : decode c p = .ok (.astore_n 3, 1) := dcd (n := 1) ((rbd (u1_at h)).trans (rfl))
theorem oc_79 {c : ByteArray} {p : Nat} {r : List UInt8} (h : c.data.toList.drop p = 79 :: r) : decode c p = .ok (.iastore, 1) := dcd (n := 1) ((rbd (u1_at h)).trans (rfl))
theorem oc_83 {c : ByteArray} {p : Nat} {r : List UInt8} (h : c.data.toList.drop p = 83 :: r) : decode c p = .ok (.aastore, 1) := dcd (n := 1) ((rbd (u1_at h)).trans (rfl))
theorem oc_84 {c : ByteArray} {p : Nat} {r : List UInt8} (h : c.data.toList.drop p = 84 :: r) : decode c p = .ok (.bastore, 1) := dcd (n := 1) ((rbd (u1_at h)).trans (rfl))
theorem oc_87 {c : ByteArray} {p : Nat} {r : List UInt8} (h : c.data.toList.drop p = 87 :: r) : decode c p = .ok (.pop, 1) := dcd (n := 1) ((rbd (u1_at h)).trans (rfl))
theorem oc_88 {c : ByteArray} {p : Nat} {r : List UInt8} (h : c.data.toList.drop p = 88 :: r) : decode c p = .ok (.pop2, 1) := dcd (n := 1) ((rbd (u1_at h)).trans (rfl))
theorem oc_89 {c : ByteArray} {p : Nat} {r : List UInt8} (h : c.data.toList.drop p = 89 :: r) : decode c p = .ok (.dup, 1) := dcd (n := 1) ((rbd (u1_at h)).trans (rfl))
theorem oc_90 {c : ByteArray} {p : Nat} {r : List UInt8} (h : c.data.toList.drop p = 90 :: r) : decode c p = .ok (.dup_x1, 1) := dcd (n := 1) ((rbd (u1_at h)).trans (rfl))
theorem oc_96 {c : ByteArray} {p : Nat} {r : List UInt8} (h : c.data.toList.drop p = 96 :: r) : decode c p = .ok (.iadd, 1) := dcd (n := 1) ((rbd (u1_at h)).trans (rfl))
theorem oc_97 {c : ByteArray} {p : Nat} {r : List UInt8} (h : c.data.toList.drop p = 97 :: r) : decode c p = .ok (.ladd, 1) := dcd (n := 1) ((rbd (u1_at h)).trans (rfl))
theorem oc_100 {c : ByteArray} {p : Nat} {r : List UInt8} (h : c.data.toList.drop p = 100 :: r) : decode c p = .ok (.isub, 1) := dcd (n := 1) ((rbd (u1_at h)).trans (rfl))
theorem oc_104 {c : ByteArray} {p : Nat} {r : List UInt8} (h : c.data.toList.drop p = 104 :: r) : decode c p = .ok (.imul, 1) := dcd (n := 1) ((rbd (u1_at h)).trans (rfl))
theorem oc_105 {c : ByteArray} {p : Nat} {r : List UInt8} (h : c.data.toList.drop p = 105 :: r) : decode c p = .ok (.lmul, 1) := dcd (n := 1) ((rbd (u1_at h)).trans (rfl))
theorem oc_108 {c : ByteArray} {p : Nat} {r : List UInt8} (h : c.data.toList.drop p = 108 :: r) : decode c p = .ok (.idiv, 1) := dcd (n := 1) ((rbd (u1_at h)).trans (rfl))
theorem oc_109 {c : ByteArray} {p : Nat} {r : List UInt8} (h : c.data.toList.drop p = 109 :: r) : decode c p = .ok (.ldiv, 1) := dcd (n := 1) ((rbd (u1_at h)).trans (rfl))
theorem oc_112 {c : ByteArray} {p : Nat} {r : List UInt8} (h : c.data.toList.drop p = 112 :: r) : decode c p = .ok (.irem, 1) := dcd (n := 1) ((rbd (u1_at h)).trans (rfl))
theorem oc_113 {c : ByteArray} {p : Nat} {r : List UInt8} (h : c.data.toList.drop p = 113 :: r) : decode c p = .ok (.lrem, 1) := dcd (n := 1) ((rbd (u1_at h)).trans (rfl))
theorem oc_116 {c : ByteArray} {p : Nat} {r : List UInt8} (h : c.data.toList.drop p = 116 :: r) : decode c p = .ok (.ineg, 1) := dcd (n := 1) ((rbd (u1_at h)).trans (rfl))
theorem oc_120 {c : ByteArray} {p : Nat} {r : List UInt8} (h : c.data.toList.drop p = 120 :: r) : decode c p = .ok (.ishl, 1) := dcd (n := 1) ((rbd (u1_at h)).trans (rfl))
theorem oc_122 {c : ByteArray} {p : Nat} {r : List UInt8} (h : c.data.toList.drop p = 122 :: r) : decode c p = .ok (.ishr, 1) := dcd (n := 1) ((rbd (u1_at h)).trans (rfl))
theorem oc_124 {c : ByteArray} {p : Nat} {r : List UInt8} (h : c.data.toList.drop p = 124 :: r) : decode c p = .ok (.iushr, 1) := dcd (n := 1) ((rbd (u1_at h)).trans (rfl))
theorem oc_126 {c : ByteArray} {p : Nat} {r : List UInt8} (h : c.data.toList.drop p = 126 :: r) : decode c p = .ok (.iand, 1) := dcd (n := 1) ((rbd (u1_at h)).trans (rfl))
theorem oc_128 {c : ByteArray} {p : Nat} {r : List UInt8} (h : c.data.toList.drop p = 128 :: r) : decode c p = .ok (.ior, 1) := dcd (n := 1) ((rbd (u1_at h)).trans (rfl))
theorem oc_130 {c : ByteArray} {p : Nat} {r : List UInt8} (h : c.data.toList.drop p = 130 :: r) : decode c p = .ok (.ixor, 1) := dcd (n := 1) ((rbd (u1_at h)).trans (rfl))
theorem oc_132 {c : ByteArray} {p : Nat} {b b2 : UInt8} {r : List UInt8} (h : c.data.toList.drop p = 132 :: b :: b2 :: r) : decode c p = .ok (.iinc b.toNat (Jvm.ClassFile.Reader.signed 8 b2.toNat), 3) := dcd (n := 3) ((rbd (u1_at h)).trans ((rbd (u1_at (dS h))).trans ((rbd (s1_at (u1_at (dS (dS h))))).trans rfl)))
theorem oc_133 {c : ByteArray} {p : Nat} {r : List UInt8} (h : c.data.toList.drop p = 133 :: r) : decode c p = .ok (.i2l, 1) := dcd (n := 1) ((rbd (u1_at h)).trans (rfl))
theorem oc_145 {c : ByteArray} {p : Nat} {r : List UInt8} (h : c.data.toList.drop p = 145 :: r) : decode c p = .ok (.i2b, 1) := dcd (n := 1) ((rbd (u1_at h)).trans (rfl))
theorem oc_146 {c : ByteArray} {p : Nat} {r : List UInt8} (h : c.data.toList.drop p = 146 :: r) : decode c p = .ok (.i2c, 1) := dcd (n := 1) ((rbd (u1_at h)).trans (rfl))
theorem oc_148 {c : ByteArray} {p : Nat} {r : List UInt8} (h : c.data.toList.drop p = 148 :: r) : decode c p = .ok (.lcmp, 1) := dcd (n := 1) ((rbd (u1_at h)).trans (rfl))
theorem oc_153 {c : ByteArray} {p : Nat} {b b2 : UInt8} {r : List UInt8} (h : c.data.toList.drop p = 153 :: b :: b2 :: r) : decode c p = .ok (.ifCond .eq (Jvm.ClassFile.Reader.signed 16 (b.toNat * 256 + b2.toNat)), 3) := dcd (n := 3) ((rbd (u1_at h)).trans ((rbd (s2_at (u2_at (u1_at (dS h)) (u1_at (dS (dS h)))))).trans rfl))
theorem oc_154 {c : ByteArray} {p : Nat} {b b2 : UInt8} {r : List UInt8} (h : c.data.toList.drop p = 154 :: b :: b2 :: r) : decode c p = .ok (.ifCond .ne (Jvm.ClassFile.Reader.signed 16 (b.toNat * 256 + b2.toNat)), 3) := dcd (n := 3) ((rbd (u1_at h)).trans ((rbd (s2_at (u2_at (u1_at (dS h)) (u1_at (dS (dS h)))))).trans rfl))
theorem oc_155 {c : ByteArray} {p : Nat} {b b2 : UInt8} {r : List UInt8} (h : c.data.toList.drop p = 155 :: b :: b2 :: r) : decode c p = .ok (.ifCond .lt (Jvm.ClassFile.Reader.signed 16 (b.toNat * 256 + b2.toNat)), 3) := dcd (n := 3) ((rbd (u1_at h)).trans ((rbd (s2_at (u2_at (u1_at (dS h)) (u1_at (dS (dS h)))))).trans rfl))
theorem oc_156 {c : ByteArray} {p : Nat} {b b2 : UInt8} {r : List UInt8} (h : c.data.toList.drop p = 156 :: b :: b2 :: r) : decode c p = .ok (.ifCond .ge (Jvm.ClassFile.Reader.signed 16 (b.toNat * 256 + b2.toNat)), 3) := dcd (n := 3) ((rbd (u1_at h)).trans ((rbd (s2_at (u2_at (u1_at (dS h)) (u1_at (dS (dS h)))))).trans rfl))
theorem oc_157 {c : ByteArray} {p : Nat} {b b2 : UInt8} {r : List UInt8} (h : c.data.toList.drop p = 157 :: b :: b2 :: r) : decode c p = .ok (.ifCond .gt (Jvm.ClassFile.Reader.signed 16 (b.toNat * 256 + b2.toNat)), 3) := dcd (n := 3) ((rbd (u1_at h)).trans ((rbd (s2_at (u2_at (u1_at (dS h)) (u1_at (dS (dS h)))))).trans rfl))
theorem oc_158 {c : ByteArray} {p : Nat} {b b2 : UInt8} {r : List UInt8} (h : c.data.toList.drop p = 158 :: b :: b2 :: r) : decode c p = .ok (.ifCond .le (Jvm.ClassFile.Reader.signed 16 (b.toNat * 256 + b2.toNat)), 3) := dcd (n := 3) ((rbd (u1_at h)).trans ((rbd (s2_at (u2_at (u1_at (dS h)) (u1_at (dS (dS h)))))).trans rfl))
theorem oc_159 {c : ByteArray} {p : Nat} {b b2 : UInt8} {r : List UInt8} (h : c.data.toList.drop p = 159 :: b :: b2 :: r) : decode c p = .ok (.if_icmp .eq (Jvm.ClassFile.Reader.signed 16 (b.toNat * 256 + b2.toNat)), 3) := dcd (n := 3) ((rbd (u1_at h)).trans ((rbd (s2_at (u2_at (u1_at (dS h)) (u1_at (dS (dS h)))))).trans rfl))
theorem oc_160 {c : ByteArray} {p : Nat} {b b2 : UInt8} {r : List UInt8} (h : c.data.toList.drop p = 160 :: b :: b2 :: r) : decode c p = .ok (.if_icmp .ne (Jvm.ClassFile.Reader.signed 16 (b.toNat * 256 + b2.toNat)), 3) := dcd (n := 3) ((rbd (u1_at h)).trans ((rbd (s2_at (u2_at (u1_at (dS h)) (u1_at (dS (dS h)))))).trans rfl))
theorem oc_161 {c : ByteArray} {p : Nat} {b b2 : UInt8} {r : List UInt8} (h : c.data.toList.drop p = 161 :: b :: b2 :: r) : decode c p = .ok (.if_icmp .lt (Jvm.ClassFile.Reader.signed 16 (b.toNat * 256 + b2.toNat)), 3) := dcd (n := 3) ((rbd (u1_at h)).trans ((rbd (s2_at (u2_at (u1_at (dS h)) (u1_at (dS (dS h)))))).trans rfl))
theorem oc_162 {c : ByteArray} {p : Nat} {b b2 : UInt8} {r : List UInt8} (h : c.data.toList.drop p = 162 :: b :: b2 :: r) : decode c p = .ok (.if_icmp .ge (Jvm.ClassFile.Reader.signed 16 (b.toNat * 256 + b2.toNat)), 3) := dcd (n := 3) ((rbd (u1_at h)).trans ((rbd (s2_at (u2_at (u1_at (dS h)) (u1_at (dS (dS h)))))).trans rfl))
theorem oc_163 {c : ByteArray} {p : Nat} {b b2 : UInt8} {r : List UInt8} (h : c.data.toList.drop p = 163 :: b :: b2 :: r) : decode c p = .ok (.if_icmp .gt (Jvm.ClassFile.Reader.signed 16 (b.toNat * 256 + b2.toNat)), 3) := dcd (n := 3) ((rbd (u1_at h)).trans ((rbd (s2_at (u2_at (u1_at (dS h)) (u1_at (dS (dS h)))))).trans rfl))
theorem oc_164 {c : ByteArray} {p : Nat} {b b2 : UInt8} {r : List UInt8} (h : c.data.toList.drop p = 164 :: b :: b2 :: r) : decode c p = .ok (.if_icmp .le (Jvm.ClassFile.Reader.signed 16 (b.toNat * 256 + b2.toNat)), 3) := dcd (n := 3) ((rbd (u1_at h)).trans ((rbd (s2_at (u2_at (u1_at (dS h)) (u1_at (dS (dS h)))))).trans rfl))
theorem oc_165 {c : ByteArray} {p : Nat} {b b2 : UInt8} {r : List UInt8} (h : c.data.toList.drop p = 165 :: b :: b2 :: r) : decode c p = .ok (.if_acmp .eq (Jvm.ClassFile.Reader.signed 16 (b.toNat * 256 + b2.toNat)), 3) := dcd (n := 3) ((rbd (u1_at h)).trans ((rbd (s2_at (u2_at (u1_at (dS h)) (u1_at (dS (dS h)))))).trans rfl))
theorem oc_166 {c : ByteArray} {p : Nat} {b b2 : UInt8} {r : List UInt8} (h : c.data.toList.drop p = 166 :: b :: b2 :: r) : decode c p = .ok (.if_acmp .ne (Jvm.ClassFile.Reader.signed 16 (b.toNat * 256 + b2.toNat)), 3) := dcd (n := 3) ((rbd (u1_at h)).trans ((rbd (s2_at (u2_at (u1_at (dS h)) (u1_at (dS (dS h)))))).trans rfl))
theorem oc_167 {c : ByteArray} {p : Nat} {b b2 : UInt8} {r : List UInt8} (h : c.data.toList.drop p = 167 :: b :: b2 :: r) : decode c p = .ok (.goto (Jvm.ClassFile.Reader.signed 16 (b.toNat * 256 + b2.toNat)), 3) := dcd (n := 3) ((rbd (u1_at h)).trans ((rbd (s2_at (u2_at (u1_at (dS h)) (u1_at (dS (dS h)))))).trans rfl))
theorem oc_172 {c : ByteArray} {p : Nat} {r : List UInt8} (h : c.data.toList.drop p = 172 :: r) : decode c p = .ok (.ireturn, 1) := dcd (n := 1) ((rbd (u1_at h)).trans (rfl))
theorem oc_173 {c : ByteArray} {p : Nat} {r : List UInt8} (h : c.data.toList.drop p = 173 :: r) : decode c p = .ok (.lreturn, 1) := dcd (n := 1) ((rbd (u1_at h)).trans (rfl))
theorem oc_176 {c : ByteArray} {p : Nat} {r : List UInt8} (h : c.data.toList.drop p = 176 :: r) : decode c p = .ok (.areturn, 1) := dcd (n := 1) ((rbd (u1_at h)).trans (rfl))
theorem oc_177 {c : ByteArray} {p : Nat} {r : List UInt8} (h : c.data.toList.drop p = 177 :: r) : decode c p = .ok (.return_, 1) := dcd (n := 1) ((rbd (u1_at h)).trans (rfl))
theorem oc_178 {c : ByteArray} {p : Nat} {b b2 : UInt8} {r : List UInt8} (h : c.data.toList.drop p = 178 :: b :: b2 :: r) : decode c p = .ok (.getstatic (b.toNat * 256 + b2.toNat), 3) := dcd (n := 3) ((rbd (u1_at h)).trans ((rbd (u2_at (u1_at (dS h)) (u1_at (dS (dS h))))).trans rfl))
theorem oc_180 {c : ByteArray} {p : Nat} {b b2 : UInt8} {r : List UInt8} (h : c.data.toList.drop p = 180 :: b :: b2 :: r) : decode c p = .ok (.getfield (b.toNat * 256 + b2.toNat), 3) := dcd (n := 3) ((rbd (u1_at h)).trans ((rbd (u2_at (u1_at (dS h)) (u1_at (dS (dS h))))).trans rfl))
theorem oc_181 {c : ByteArray} {p : Nat} {b b2 : UInt8} {r : List UInt8} (h : c.data.toList.drop p = 181 :: b :: b2 :: r) : decode c p = .ok (.putfield (b.toNat * 256 + b2.toNat), 3) := dcd (n := 3) ((rbd (u1_at h)).trans ((rbd (u2_at (u1_at (dS h)) (u1_at (dS (dS h))))).trans rfl))
theorem oc_182 {c : ByteArray} {p : Nat} {b b2 : UInt8} {r : List UInt8} (h : c.data.toList.drop p = 182 :: b :: b2 :: r) : decode c p = .ok (.invokevirtual (b.toNat * 256 + b2.toNat), 3) := dcd (n := 3) ((rbd (u1_at h)).trans ((rbd (u2_at (u1_at (dS h)) (u1_at (dS (dS h))))).trans rfl))
theorem oc_183 {c : ByteArray} {p : Nat} {b b2 : UInt8} {r : List UInt8} (h : c.data.toList.drop p = 183 :: b :: b2 :: r) : decode c p = .ok (.invokespecial (b.toNat * 256 + b2.toNat), 3) := dcd (n := 3) ((rbd (u1_at h)).trans ((rbd (u2_at (u1_at (dS h)) (u1_at (dS (dS h))))).trans rfl))
theorem oc_184 {c : ByteArray} {p : Nat} {b b2 : UInt8} {r : List UInt8} (h : c.data.toList.drop p = 184 :: b :: b2 :: r) : decode c p = .ok (.invokestatic (b.toNat * 256 + b2.toNat), 3) := dcd (n := 3) ((rbd (u1_at h)).trans ((rbd (u2_at (u1_at (dS h)) (u1_at (dS (dS h))))).trans rfl))
theorem oc_187 {c : ByteArray} {p : Nat} {b b2 : UInt8} {r : List UInt8} (h : c.data.toList.drop p = 187 :: b :: b2 :: r) : decode c p = .ok (.new (b.toNat * 256 + b2.toNat), 3) := dcd (n := 3) ((rbd (u1_at h)).trans ((rbd (u2_at (u1_at (dS h)) (u1_at (dS (dS h))))).trans rfl))
theorem oc_188_4 {c : ByteArray} {p : Nat} {r : List UInt8} (h : c.data.toList.drop p = 188 :: 4 :: r) : decode c p = .ok (.newarray .boolean, 2) := dcd (n := 2) ((rbd (u1_at h)).trans ((rbd (u1_at (dS h))).trans rfl))
theorem oc_188_8 {c : ByteArray} {p : Nat} {r : List UInt8} (h : c.data.toList.drop p = 188 :: 8 :: r) : decode c p = .ok (.newarray .byte, 2) := dcd (n := 2) ((rbd (u1_at h)).trans ((rbd (u1_at (dS h))).trans rfl))
theorem oc_188_10 {c : ByteArray} {p : Nat} {r : List UInt8} (h : c.data.toList.drop p = 188 :: 10 :: r) : decode c p = .ok (.newarray .int, 2) := dcd (n := 2) ((rbd (u1_at h)).trans ((rbd (u1_at (dS h))).trans rfl))
theorem oc_189 {c : ByteArray} {p : Nat} {b b2 : UInt8} {r : List UInt8} (h : c.data.toList.drop p = 189 :: b :: b2 :: r) : decode c p = .ok (.anewarray (b.toNat * 256 + b2.toNat), 3) := dcd (n := 3) ((rbd (u1_at h)).trans ((rbd (u2_at (u1_at (dS h)) (u1_at (dS (dS h))))).trans rfl))
theorem oc_190 {c : ByteArray} {p : Nat} {r : List UInt8} (h : c.data.toList.drop p = 190 :: r) : decode c p = .ok (.arraylength, 1) := dcd (n := 1) ((rbd (u1_at h)).trans (rfl))
theorem oc_191 {c : ByteArray} {p : Nat} {r : List UInt8} (h : c.data.toList.drop p = 191 :: r) : decode c p = .ok (.athrow, 1) := dcd (n := 1) ((rbd (u1_at h)).trans (rfl))
theorem oc_192 {c : ByteArray} {p : Nat} {b b2 : UInt8} {r : List UInt8} (h : c.data.toList.drop p = 192 :: b :: b2 :: r) : decode c p = .ok (.checkcast (b.toNat * 256 + b2.toNat), 3) := dcd (n := 3) ((rbd (u1_at h)).trans ((rbd (u2_at (u1_at (dS h)) (u1_at (dS (dS h))))).trans rfl))
theorem oc_198 {c : ByteArray} {p : Nat} {b b2 : UInt8} {r : List UInt8} (h : c.data.toList.drop p = 198 :: b :: b2 :: r) : decode c p = .ok (.ifnull (Jvm.ClassFile.Reader.signed 16 (b.toNat * 256 + b2.toNat)), 3) := dcd (n := 3) ((rbd (u1_at h)).trans ((rbd (s2_at (u2_at (u1_at (dS h)) (u1_at (dS (dS h)))))).trans rfl))
theorem oc_199 {c : ByteArray} {p : Nat} {b b2 : UInt8} {r : List UInt8} (h : c.data.toList.drop p = 199 :: b :: b2 :: r) : decode c p = .ok (.ifnonnull (Jvm.ClassFile.Reader.signed 16 (b.toNat * 256 + b2.toNat)), 3) := dcd (n := 3) ((rbd (u1_at h)).trans ((rbd (s2_at (u2_at (u1_at (dS h)) (u1_at (dS (dS h)))))).trans rfl))
