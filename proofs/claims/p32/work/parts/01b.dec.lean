theorem u1_at {c : ByteArray} {p : Nat} {x : UInt8} {r : List UInt8} (h : c.data.toList.drop p = x :: r) : (Jvm.ClassFile.Reader.u1 : Jvm.ClassFile.Decoder Nat) c p = .ok (x.toNat, p + 1) := by
  have hl : p < c.data.toList.length := by
    refine Classical.byContradiction fun q => ?_
    rw [List.drop_eq_nil_of_le (by omega)] at h
    cases h
  have hs : p < c.size := hl
  have hx : c[p] = x := by
    have e := List.drop_eq_getElem_cons hl
    rw [h] at e
    exact (List.cons.inj e).1.symm
  have e : ∀ (d : Decidable (p < c.size)), (@dite (Jvm.ClassFile.Decoder Nat) (p < c.size) d (fun _ => do set (p + 1); pure c[p].toNat) (fun _ => throw (Jvm.ClassFile.HasTruncated.truncated p))) c p = .ok (c[p].toNat, p + 1) := fun d => by
    cases d with
    | isTrue q => rfl
    | isFalse q => exact absurd hs q
  rw [← hx]
  exact e _
theorem rbd {α β : Type} {x : Jvm.ClassFile.Decoder α} {f : α → Jvm.ClassFile.Decoder β} {c : ByteArray} {p q : Nat} {a : α} (h : x c p = .ok (a, q)) : (x >>= f) c p = f a c q := by
  show Except.bind (x c p) _ = _
  rw [h]
  rfl
theorem rmd {α β : Type} {x : Jvm.ClassFile.Decoder α} {f : α → β} {c : ByteArray} {p q : Nat} {a : α} (h : x c p = .ok (a, q)) : (f <$> x) c p = .ok (f a, q) := by
  show Except.bind (x c p) _ = _
  rw [h]
  rfl
theorem u2_at {c : ByteArray} {p q q2 a b : Nat} (h0 : (Jvm.ClassFile.Reader.u1 : Jvm.ClassFile.Decoder Nat) c p = .ok (a, q)) (h1 : (Jvm.ClassFile.Reader.u1 : Jvm.ClassFile.Decoder Nat) c q = .ok (b, q2)) : (Jvm.ClassFile.Reader.u2 : Jvm.ClassFile.Decoder Nat) c p = .ok (a * 256 + b, q2) := (rbd h0).trans ((rbd h1).trans rfl)
theorem s1_at {c : ByteArray} {p q a : Nat} (h : (Jvm.ClassFile.Reader.u1 : Jvm.ClassFile.Decoder Nat) c p = .ok (a, q)) : (Jvm.ClassFile.Reader.s1 : Jvm.ClassFile.Decoder Int) c p = .ok (Jvm.ClassFile.Reader.signed 8 a, q) := rmd h
theorem s2_at {c : ByteArray} {p q a : Nat} (h : (Jvm.ClassFile.Reader.u2 : Jvm.ClassFile.Decoder Nat) c p = .ok (a, q)) : (Jvm.ClassFile.Reader.s2 : Jvm.ClassFile.Decoder Int) c p = .ok (Jvm.ClassFile.Reader.signed 16 a, q) := rmd h
theorem dcd {c : ByteArray} {p n : Nat} {i : Instr} (h : (Jvm.ClassFile.Decoder.instr p) c p = .ok (i, p + n)) : decode c p = .ok (i, n) := by
  show Except.bind ((Jvm.ClassFile.Decoder.instr p) c p) _ = _
  rw [h]
  show Except.ok (i, p + n - p) = Except.ok (i, n)
  rw [Nat.add_sub_cancel_left]
theorem dS {c : ByteArray} {p : Nat} {x : UInt8} {r : List UInt8} (h : c.data.toList.drop p = x :: r) : c.data.toList.drop (p + 1) = r := by
  rw [← List.tail_drop, h]
  rfl
theorem dSn {c : ByteArray} {p : Nat} {l : List UInt8} (k : Nat) (h : c.data.toList.drop p = l) : c.data.toList.drop (p + k) = l.drop k := by
  rw [← h, List.drop_drop]
theorem oc_1 {c : ByteArray} {p : Nat} {r : List UInt8} (h : c.data.toList.drop p = 1 :: r) : decode c p = .ok (.aconst_null, 1) := dcd (n := 1) ((rbd (u1_at h)).trans (rfl))
theorem oc_2 {c : ByteArray} {p : Nat} {r : List UInt8} (h : c.data.toList.drop p = 2 :: r) : decode c p = .ok (.iconst (-1), 1) := dcd (n := 1) ((rbd (u1_at h)).trans (rfl))
theorem oc_3 {c : ByteArray} {p : Nat} {r : List UInt8} (h : c.data.toList.drop p = 3 :: r) : decode c p = .ok (.iconst 0, 1) := dcd (n := 1) ((rbd (u1_at h)).trans (rfl))
theorem oc_4 {c : ByteArray} {p : Nat} {r : List UInt8} (h : c.data.toList.drop p = 4 :: r) : decode c p = .ok (.iconst 1, 1) := dcd (n := 1) ((rbd (u1_at h)).trans (rfl))
theorem oc_5 {c : ByteArray} {p : Nat} {r : List UInt8} (h : c.data.toList.drop p = 5 :: r) : decode c p = .ok (.iconst 2, 1) := dcd (n := 1) ((rbd (u1_at h)).trans (rfl))
theorem oc_6 {c : ByteArray} {p : Nat} {r : List UInt8} (h : c.data.toList.drop p = 6 :: r) : decode c p = .ok (.iconst 3, 1) := dcd (n := 1) ((rbd (u1_at h)).trans (rfl))
theorem oc_7 {c : ByteArray} {p : Nat} {r : List UInt8} (h : c.data.toList.drop p = 7 :: r) : decode c p = .ok (.iconst 4, 1) := dcd (n := 1) ((rbd (u1_at h)).trans (rfl))
theorem oc_8 {c : ByteArray} {p : Nat} {r : List UInt8} (h : c.data.toList.drop p = 8 :: r) : decode c p = .ok (.iconst 5, 1) := dcd (n := 1) ((rbd (u1_at h)).trans (rfl))
theorem oc_9 {c : ByteArray} {p : Nat} {r : List UInt8} (h : c.data.toList.drop p = 9 :: r) : decode c p = .ok (.lconst 0, 1) := dcd (n := 1) ((rbd (u1_at h)).trans (rfl))
theorem oc_10 {c : ByteArray} {p : Nat} {r : List UInt8} (h : c.data.toList.drop p = 10 :: r) : decode c p = .ok (.lconst 1, 1) := dcd (n := 1) ((rbd (u1_at h)).trans (rfl))
theorem oc_16 {c : ByteArray} {p : Nat} {b : UInt8} {z : Int} {r : List UInt8} (h : c.data.toList.drop p = 16 :: b :: r) (e : Jvm.ClassFile.Reader.signed 8 b.toNat = z) : decode c p = .ok (.bipush z, 2) := dcd (n := 2) ((rbd (u1_at h)).trans ((rbd (s1_at (u1_at (dS h)))).trans (congrArg (fun x => Except.ok (Instr.bipush x, p + 1 + 1)) e)))
theorem oc_17 {c : ByteArray} {p : Nat} {b b2 : UInt8} {z : Int} {r : List UInt8} (h : c.data.toList.drop p = 17 :: b :: b2 :: r) (e : Jvm.ClassFile.Reader.signed 16 (b.toNat * 256 + b2.toNat) = z) : decode c p = .ok (.sipush z, 3) := dcd (n := 3) ((rbd (u1_at h)).trans ((rbd (s2_at (u2_at (u1_at (dS h)) (u1_at (dS (dS h)))))).trans (congrArg (fun x => Except.ok (Instr.sipush x, p + 1 + 1 + 1)) e)))
theorem oc_18 {c : ByteArray} {p : Nat} {b : UInt8} {r : List UInt8} (h : c.data.toList.drop p = 18 :: b :: r) : decode c p = .ok (.ldc b.toNat, 2) := dcd (n := 2) ((rbd (u1_at h)).trans ((rbd (u1_at (dS h))).trans rfl))
theorem oc_19 {c : ByteArray} {p : Nat} {b b2 : UInt8} {r : List UInt8} (h : c.data.toList.drop p = 19 :: b :: b2 :: r) : decode c p = .ok (.ldc_w (b.toNat * 256 + b2.toNat), 3) := dcd (n := 3) ((rbd (u1_at h)).trans ((rbd (u2_at (u1_at (dS h)) (u1_at (dS (dS h))))).trans rfl))
theorem oc_20 {c : ByteArray} {p : Nat} {b b2 : UInt8} {r : List UInt8} (h : c.data.toList.drop p = 20 :: b :: b2 :: r) : decode c p = .ok (.ldc2_w (b.toNat * 256 + b2.toNat), 3) := dcd (n := 3) ((rbd (u1_at h)).trans ((rbd (u2_at (u1_at (dS h)) (u1_at (dS (dS h))))).trans rfl))
theorem oc_21 {c : ByteArray} {p : Nat} {b : UInt8} {r : List UInt8} (h : c.data.toList.drop p = 21 :: b :: r) : decode c p = .ok (.iload b.toNat, 2) := dcd (n := 2) ((rbd (u1_at h)).trans ((rbd (u1_at (dS h))).trans rfl))
theorem oc_22 {c : ByteArray} {p : Nat} {b : UInt8} {r : List UInt8} (h : c.data.toList.drop p = 22 :: b :: r) : decode c p = .ok (.lload b.toNat, 2) := dcd (n := 2) ((rbd (u1_at h)).trans ((rbd (u1_at (dS h))).trans rfl))
theorem oc_25 {c : ByteArray} {p : Nat} {b : UInt8} {r : List UInt8} (h : c.data.toList.drop p = 25 :: b :: r) : decode c p = .ok (.aload b.toNat, 2) := dcd (n := 2) ((rbd (u1_at h)).trans ((rbd (u1_at (dS h))).trans rfl))
theorem oc_26 {c : ByteArray} {p : Nat} {r : List UInt8} (h : c.data.toList.drop p = 26 :: r) : decode c p = .ok (.iload_n 0, 1) := dcd (n := 1) ((rbd (u1_at h)).trans (rfl))
theorem oc_27 {c : ByteArray} {p : Nat} {r : List UInt8} (h : c.data.toList.drop p = 27 :: r) : decode c p = .ok (.iload_n 1, 1) := dcd (n := 1) ((rbd (u1_at h)).trans (rfl))
theorem oc_28 {c : ByteArray} {p : Nat} {r : List UInt8} (h : c.data.toList.drop p = 28 :: r) : decode c p = .ok (.iload_n 2, 1) := dcd (n := 1) ((rbd (u1_at h)).trans (rfl))
theorem oc_29 {c : ByteArray} {p : Nat} {r : List UInt8} (h : c.data.toList.drop p = 29 :: r) : decode c p = .ok (.iload_n 3, 1) := dcd (n := 1) ((rbd (u1_at h)).trans (rfl))
theorem oc_30 {c : ByteArray} {p : Nat} {r : List UInt8} (h : c.data.toList.drop p = 30 :: r) : decode c p = .ok (.lload_n 0, 1) := dcd (n := 1) ((rbd (u1_at h)).trans (rfl))
theorem oc_32 {c : ByteArray} {p : Nat} {r : List UInt8} (h : c.data.toList.drop p = 32 :: r) : decode c p = .ok (.lload_n 2, 1) := dcd (n := 1) ((rbd (u1_at h)).trans (rfl))
theorem oc_42 {c : ByteArray} {p : Nat} {r : List UInt8} (h : c.data.toList.drop p = 42 :: r) : decode c p = .ok (.aload_n 0, 1) := dcd (n := 1) ((rbd (u1_at h)).trans (rfl))
theorem oc_43 {c : ByteArray} {p : Nat} {r : List UInt8} (h : c.data.toList.drop p = 43 :: r) : decode c p = .ok (.aload_n 1, 1) := dcd (n := 1) ((rbd (u1_at h)).trans (rfl))
theorem oc_44 {c : ByteArray} {p : Nat} {r : List UInt8} (h : c.data.toList.drop p = 44 :: r) : decode c p = .ok (.aload_n 2, 1) := dcd (n := 1) ((rbd (u1_at h)).trans (rfl))
theorem oc_45 {c : ByteArray} {p : Nat} {r : List UInt8} (h : c.data.toList.drop p = 45 :: r) : decode c p = .ok (.aload_n 3, 1) := dcd (n := 1) ((rbd (u1_at h)).trans (rfl))
theorem oc_46 {c : ByteArray} {p : Nat} {r : List UInt8} (h : c.data.toList.drop p = 46 :: r) : decode c p = .ok (.iaload, 1) := dcd (n := 1) ((rbd (u1_at h)).trans (rfl))
theorem oc_50 {c : ByteArray} {p : Nat} {r : List UInt8} (h : c.data.toList.drop p = 50 :: r) : decode c p = .ok (.aaload, 1) := dcd (n := 1) ((rbd (u1_at h)).trans (rfl))
theorem oc_51 {c : ByteArray} {p : Nat} {r : List UInt8} (h : c.data.toList.drop p = 51 :: r) : decode c p = .ok (.baload, 1) := dcd (n := 1) ((rbd (u1_at h)).trans (rfl))
theorem oc_54 {c : ByteArray} {p : Nat} {b : UInt8} {r : List UInt8} (h : c.data.toList.drop p = 54 :: b :: r) : decode c p = .ok (.istore b.toNat, 2) := dcd (n := 2) ((rbd (u1_at h)).trans ((rbd (u1_at (dS h))).trans rfl))
theorem oc_55 {c : ByteArray} {p : Nat} {b : UInt8} {r : List UInt8} (h : c.data.toList.drop p = 55 :: b :: r) : decode c p = .ok (.lstore b.toNat, 2) := dcd (n := 2) ((rbd (u1_at h)).trans ((rbd (u1_at (dS h))).trans rfl))
theorem oc_58 {c : ByteArray} {p : Nat} {b : UInt8} {r : List UInt8} (h : c.data.toList.drop p = 58 :: b :: r) : decode c p = .ok (.astore b.toNat, 2) := dcd (n := 2) ((rbd (u1_at h)).trans ((rbd (u1_at (dS h))).trans rfl))
theorem oc_60 {c : ByteArray} {p : Nat} {r : List UInt8} (h : c.data.toList.drop p = 60 :: r) : decode c p = .ok (.istore_n 1, 1) := dcd (n := 1) ((rbd (u1_at h)).trans (rfl))
theorem oc_61 {c : ByteArray} {p : Nat} {r : List UInt8} (h : c.data.toList.drop p = 61 :: r) : decode c p = .ok (.istore_n 2, 1) := dcd (n := 1) ((rbd (u1_at h)).trans (rfl))
theorem oc_62 {c : ByteArray} {p : Nat} {r : List UInt8} (h : c.data.toList.drop p = 62 :: r) : decode c p = .ok (.istore_n 3, 1) := dcd (n := 1) ((rbd (u1_at h)).trans (rfl))
theorem oc_63 {c : ByteArray} {p : Nat} {r : List UInt8} (h : c.data.toList.drop p = 63 :: r) : decode c p = .ok (.lstore_n 0, 1) := dcd (n := 1) ((rbd (u1_at h)).trans (rfl))
theorem oc_65 {c : ByteArray} {p : Nat} {r : List UInt8} (h : c.data.toList.drop p = 65 :: r) : decode c p = .ok (.lstore_n 2, 1) := dcd (n := 1) ((rbd (u1_at h)).trans (rfl))
theorem oc_76 {c : ByteArray} {p : Nat} {r : List UInt8} (h : c.data.toList.drop p = 76 :: r) : decode c p = .ok (.astore_n 1, 1) := dcd (n := 1) ((rbd (u1_at h)).trans (rfl))
theorem oc_77 {c : ByteArray} {p : Nat} {r : List UInt8} (h : c.data.toList.drop p = 77 :: r) : decode c p = .ok (.astore_n 2, 1) := dcd (n := 1) ((rbd (u1_at h)).trans (rfl))
theorem oc_78 {c : ByteArray} {p : Nat} {r : List UInt8} (h : c.data.toList.drop p = 78 :: r) : decode c p = .ok (.astore_n 3, 1) := dcd (n := 1) ((rbd (u1_at h)).trans (rfl))
theorem oc_79 {c : ByteArray} {p : Nat} {r : List UInt8} (h : c.data.toList.drop p = 79 :: r) : decode c p = .ok (.iastore, 1) := dcd (n := 1) ((rbd (u1_at h)).trans (rfl))
theorem oc_83 {c : ByteArray} {p : Nat} {r : List UInt8} (h : c.data.toList.drop p = 83 :: r) : decode c p = .ok (.aastore, 1) := dcd (n := 1) ((rbd (u1_at h)).trans (rfl))
theorem oc_84 {c : ByteArray} {p : Nat} {r : List UInt8} (h : c.data.toList.drop p = 84 :: r) : decode c p = .ok (.bastore, 1) := dcd (n := 1) ((rbd (u1_at h)).trans (rfl))
theorem oc_87 {c : ByteArray} {p : Nat} {r : List UInt8} (h : c.data.toList.drop p = 87 :: r) : decode c p = .ok (.pop, 1) := dcd (n := 1) ((rbd (u1_at h)).trans (rfl))
theorem oc_88 {c : ByteArray} {p : Nat} {r : List UInt8} (h : c.data.toList.drop p = 88 :: r) : decode c p = .ok (.pop2, 1) := dcd (n := 1) ((rbd (u1_at h)).trans (rfl))
theorem oc_89 {c : ByteArray} {p : Nat} {r : List UInt8} (h : c.data.toList.drop p = 89 :: r) : decode c p = .ok (.dup, 1) := dcd (n := 1) ((rbd (u1_at h)).trans (rfl))
theorem oc_90 {c : ByteArray} {p : Nat} {r : List UInt8} (h : c.data.toList.drop p = 90 :: r) : decode c p = .ok (.dup_x1, 1) := dcd (n := 1) ((rbd (u1_at h)).trans (rfl))
theorem oc_96 {c : ByteArray} {p : Nat} {r : List UInt8} (h : c.data.toList.drop p = 96 :: r) : decode c p = .ok (.iadd, 1) := dcd (n := 1) ((rbd (u1_at h)).trans (rfl))
theorem oc_97 {c : ByteArray} {p : Nat} {r : List UInt8} (h : c.data.toList.drop p = 97 :: r) : decode c p = .ok (.ladd, 1) := dcd (n := 1) ((rbd (u1_at h)).trans (rfl))
theorem oc_100 {c : ByteArray} {p : Nat} {r : List UInt8} (h : c.data.toList.drop p = 100 :: r) : decode c p = .ok (.isub, 1) := dcd (n := 1) ((rbd (u1_at h)).trans (rfl))
theorem oc_104 {c : ByteArray} {p : Nat} {r : List UInt8} (h : c.data.toList.drop p = 104 :: r) : decode c p = .ok (.imul, 1) := dcd (n := 1) ((rbd (u1_at h)).trans (rfl))
theorem oc_105 {c : ByteArray} {p : Nat} {r : List UInt8} (h : c.data.toList.drop p = 105 :: r) : decode c p = .ok (.lmul, 1) := dcd (n := 1) ((rbd (u1_at h)).trans (rfl))
theorem oc_108 {c : ByteArray} {p : Nat} {r : List UInt8} (h : c.data.toList.drop p = 108 :: r) : decode c p = .ok (.idiv, 1) := dcd (n := 1) ((rbd (u1_at h)).trans (rfl))
theorem oc_109 {c : ByteArray} {p : Nat} {r : List UInt8} (h : c.data.toList.drop p = 109 :: r) : decode c p = .ok (.ldiv, 1) := dcd (n := 1) ((rbd (u1_at h)).trans (rfl))
theorem oc_112 {c : ByteArray} {p : Nat} {r : List UInt8} (h : c.data.toList.drop p = 112 :: r) : decode c p = .ok (.irem, 1) := dcd (n := 1) ((rbd (u1_at h)).trans (rfl))
theorem oc_113 {c : ByteArray} {p : Nat} {r : List UInt8} (h : c.data.toList.drop p = 113 :: r) : decode c p = .ok (.lrem, 1) := dcd (n := 1) ((rbd (u1_at h)).trans (rfl))
theorem oc_116 {c : ByteArray} {p : Nat} {r : List UInt8} (h : c.data.toList.drop p = 116 :: r) : decode c p = .ok (.ineg, 1) := dcd (n := 1) ((rbd (u1_at h)).trans (rfl))
theorem oc_120 {c : ByteArray} {p : Nat} {r : List UInt8} (h : c.data.toList.drop p = 120 :: r) : decode c p = .ok (.ishl, 1) := dcd (n := 1) ((rbd (u1_at h)).trans (rfl))
theorem oc_122 {c : ByteArray} {p : Nat} {r : List UInt8} (h : c.data.toList.drop p = 122 :: r) : decode c p = .ok (.ishr, 1) := dcd (n := 1) ((rbd (u1_at h)).trans (rfl))
theorem oc_126 {c : ByteArray} {p : Nat} {r : List UInt8} (h : c.data.toList.drop p = 126 :: r) : decode c p = .ok (.iand, 1) := dcd (n := 1) ((rbd (u1_at h)).trans (rfl))
theorem oc_128 {c : ByteArray} {p : Nat} {r : List UInt8} (h : c.data.toList.drop p = 128 :: r) : decode c p = .ok (.ior, 1) := dcd (n := 1) ((rbd (u1_at h)).trans (rfl))
theorem oc_130 {c : ByteArray} {p : Nat} {r : List UInt8} (h : c.data.toList.drop p = 130 :: r) : decode c p = .ok (.ixor, 1) := dcd (n := 1) ((rbd (u1_at h)).trans (rfl))
theorem oc_132 {c : ByteArray} {p : Nat} {b b2 : UInt8} {z : Int} {r : List UInt8} (h : c.data.toList.drop p = 132 :: b :: b2 :: r) (e : Jvm.ClassFile.Reader.signed 8 b2.toNat = z) : decode c p = .ok (.iinc b.toNat z, 3) := dcd (n := 3) ((rbd (u1_at h)).trans ((rbd (u1_at (dS h))).trans ((rbd (s1_at (u1_at (dS (dS h))))).trans (congrArg (fun x => Except.ok (Instr.iinc b.toNat x, p + 1 + 1 + 1)) e))))
theorem oc_133 {c : ByteArray} {p : Nat} {r : List UInt8} (h : c.data.toList.drop p = 133 :: r) : decode c p = .ok (.i2l, 1) := dcd (n := 1) ((rbd (u1_at h)).trans (rfl))
theorem oc_145 {c : ByteArray} {p : Nat} {r : List UInt8} (h : c.data.toList.drop p = 145 :: r) : decode c p = .ok (.i2b, 1) := dcd (n := 1) ((rbd (u1_at h)).trans (rfl))
theorem oc_146 {c : ByteArray} {p : Nat} {r : List UInt8} (h : c.data.toList.drop p = 146 :: r) : decode c p = .ok (.i2c, 1) := dcd (n := 1) ((rbd (u1_at h)).trans (rfl))
theorem oc_148 {c : ByteArray} {p : Nat} {r : List UInt8} (h : c.data.toList.drop p = 148 :: r) : decode c p = .ok (.lcmp, 1) := dcd (n := 1) ((rbd (u1_at h)).trans (rfl))
theorem oc_153 {c : ByteArray} {p : Nat} {b b2 : UInt8} {z : Int} {r : List UInt8} (h : c.data.toList.drop p = 153 :: b :: b2 :: r) (e : Jvm.ClassFile.Reader.signed 16 (b.toNat * 256 + b2.toNat) = z) : decode c p = .ok (.ifCond .eq z, 3) := dcd (n := 3) ((rbd (u1_at h)).trans ((rbd (s2_at (u2_at (u1_at (dS h)) (u1_at (dS (dS h)))))).trans (congrArg (fun x => Except.ok (Instr.ifCond .eq x, p + 1 + 1 + 1)) e)))
theorem oc_154 {c : ByteArray} {p : Nat} {b b2 : UInt8} {z : Int} {r : List UInt8} (h : c.data.toList.drop p = 154 :: b :: b2 :: r) (e : Jvm.ClassFile.Reader.signed 16 (b.toNat * 256 + b2.toNat) = z) : decode c p = .ok (.ifCond .ne z, 3) := dcd (n := 3) ((rbd (u1_at h)).trans ((rbd (s2_at (u2_at (u1_at (dS h)) (u1_at (dS (dS h)))))).trans (congrArg (fun x => Except.ok (Instr.ifCond .ne x, p + 1 + 1 + 1)) e)))
theorem oc_155 {c : ByteArray} {p : Nat} {b b2 : UInt8} {z : Int} {r : List UInt8} (h : c.data.toList.drop p = 155 :: b :: b2 :: r) (e : Jvm.ClassFile.Reader.signed 16 (b.toNat * 256 + b2.toNat) = z) : decode c p = .ok (.ifCond .lt z, 3) := dcd (n := 3) ((rbd (u1_at h)).trans ((rbd (s2_at (u2_at (u1_at (dS h)) (u1_at (dS (dS h)))))).trans (congrArg (fun x => Except.ok (Instr.ifCond .lt x, p + 1 + 1 + 1)) e)))
theorem oc_156 {c : ByteArray} {p : Nat} {b b2 : UInt8} {z : Int} {r : List UInt8} (h : c.data.toList.drop p = 156 :: b :: b2 :: r) (e : Jvm.ClassFile.Reader.signed 16 (b.toNat * 256 + b2.toNat) = z) : decode c p = .ok (.ifCond .ge z, 3) := dcd (n := 3) ((rbd (u1_at h)).trans ((rbd (s2_at (u2_at (u1_at (dS h)) (u1_at (dS (dS h)))))).trans (congrArg (fun x => Except.ok (Instr.ifCond .ge x, p + 1 + 1 + 1)) e)))
theorem oc_157 {c : ByteArray} {p : Nat} {b b2 : UInt8} {z : Int} {r : List UInt8} (h : c.data.toList.drop p = 157 :: b :: b2 :: r) (e : Jvm.ClassFile.Reader.signed 16 (b.toNat * 256 + b2.toNat) = z) : decode c p = .ok (.ifCond .gt z, 3) := dcd (n := 3) ((rbd (u1_at h)).trans ((rbd (s2_at (u2_at (u1_at (dS h)) (u1_at (dS (dS h)))))).trans (congrArg (fun x => Except.ok (Instr.ifCond .gt x, p + 1 + 1 + 1)) e)))
theorem oc_158 {c : ByteArray} {p : Nat} {b b2 : UInt8} {z : Int} {r : List UInt8} (h : c.data.toList.drop p = 158 :: b :: b2 :: r) (e : Jvm.ClassFile.Reader.signed 16 (b.toNat * 256 + b2.toNat) = z) : decode c p = .ok (.ifCond .le z, 3) := dcd (n := 3) ((rbd (u1_at h)).trans ((rbd (s2_at (u2_at (u1_at (dS h)) (u1_at (dS (dS h)))))).trans (congrArg (fun x => Except.ok (Instr.ifCond .le x, p + 1 + 1 + 1)) e)))
theorem oc_159 {c : ByteArray} {p : Nat} {b b2 : UInt8} {z : Int} {r : List UInt8} (h : c.data.toList.drop p = 159 :: b :: b2 :: r) (e : Jvm.ClassFile.Reader.signed 16 (b.toNat * 256 + b2.toNat) = z) : decode c p = .ok (.if_icmp .eq z, 3) := dcd (n := 3) ((rbd (u1_at h)).trans ((rbd (s2_at (u2_at (u1_at (dS h)) (u1_at (dS (dS h)))))).trans (congrArg (fun x => Except.ok (Instr.if_icmp .eq x, p + 1 + 1 + 1)) e)))
theorem oc_160 {c : ByteArray} {p : Nat} {b b2 : UInt8} {z : Int} {r : List UInt8} (h : c.data.toList.drop p = 160 :: b :: b2 :: r) (e : Jvm.ClassFile.Reader.signed 16 (b.toNat * 256 + b2.toNat) = z) : decode c p = .ok (.if_icmp .ne z, 3) := dcd (n := 3) ((rbd (u1_at h)).trans ((rbd (s2_at (u2_at (u1_at (dS h)) (u1_at (dS (dS h)))))).trans (congrArg (fun x => Except.ok (Instr.if_icmp .ne x, p + 1 + 1 + 1)) e)))
theorem oc_161 {c : ByteArray} {p : Nat} {b b2 : UInt8} {z : Int} {r : List UInt8} (h : c.data.toList.drop p = 161 :: b :: b2 :: r) (e : Jvm.ClassFile.Reader.signed 16 (b.toNat * 256 + b2.toNat) = z) : decode c p = .ok (.if_icmp .lt z, 3) := dcd (n := 3) ((rbd (u1_at h)).trans ((rbd (s2_at (u2_at (u1_at (dS h)) (u1_at (dS (dS h)))))).trans (congrArg (fun x => Except.ok (Instr.if_icmp .lt x, p + 1 + 1 + 1)) e)))
theorem oc_162 {c : ByteArray} {p : Nat} {b b2 : UInt8} {z : Int} {r : List UInt8} (h : c.data.toList.drop p = 162 :: b :: b2 :: r) (e : Jvm.ClassFile.Reader.signed 16 (b.toNat * 256 + b2.toNat) = z) : decode c p = .ok (.if_icmp .ge z, 3) := dcd (n := 3) ((rbd (u1_at h)).trans ((rbd (s2_at (u2_at (u1_at (dS h)) (u1_at (dS (dS h)))))).trans (congrArg (fun x => Except.ok (Instr.if_icmp .ge x, p + 1 + 1 + 1)) e)))
theorem oc_163 {c : ByteArray} {p : Nat} {b b2 : UInt8} {z : Int} {r : List UInt8} (h : c.data.toList.drop p = 163 :: b :: b2 :: r) (e : Jvm.ClassFile.Reader.signed 16 (b.toNat * 256 + b2.toNat) = z) : decode c p = .ok (.if_icmp .gt z, 3) := dcd (n := 3) ((rbd (u1_at h)).trans ((rbd (s2_at (u2_at (u1_at (dS h)) (u1_at (dS (dS h)))))).trans (congrArg (fun x => Except.ok (Instr.if_icmp .gt x, p + 1 + 1 + 1)) e)))
theorem oc_164 {c : ByteArray} {p : Nat} {b b2 : UInt8} {z : Int} {r : List UInt8} (h : c.data.toList.drop p = 164 :: b :: b2 :: r) (e : Jvm.ClassFile.Reader.signed 16 (b.toNat * 256 + b2.toNat) = z) : decode c p = .ok (.if_icmp .le z, 3) := dcd (n := 3) ((rbd (u1_at h)).trans ((rbd (s2_at (u2_at (u1_at (dS h)) (u1_at (dS (dS h)))))).trans (congrArg (fun x => Except.ok (Instr.if_icmp .le x, p + 1 + 1 + 1)) e)))
theorem oc_165 {c : ByteArray} {p : Nat} {b b2 : UInt8} {z : Int} {r : List UInt8} (h : c.data.toList.drop p = 165 :: b :: b2 :: r) (e : Jvm.ClassFile.Reader.signed 16 (b.toNat * 256 + b2.toNat) = z) : decode c p = .ok (.if_acmp .eq z, 3) := dcd (n := 3) ((rbd (u1_at h)).trans ((rbd (s2_at (u2_at (u1_at (dS h)) (u1_at (dS (dS h)))))).trans (congrArg (fun x => Except.ok (Instr.if_acmp .eq x, p + 1 + 1 + 1)) e)))
theorem oc_166 {c : ByteArray} {p : Nat} {b b2 : UInt8} {z : Int} {r : List UInt8} (h : c.data.toList.drop p = 166 :: b :: b2 :: r) (e : Jvm.ClassFile.Reader.signed 16 (b.toNat * 256 + b2.toNat) = z) : decode c p = .ok (.if_acmp .ne z, 3) := dcd (n := 3) ((rbd (u1_at h)).trans ((rbd (s2_at (u2_at (u1_at (dS h)) (u1_at (dS (dS h)))))).trans (congrArg (fun x => Except.ok (Instr.if_acmp .ne x, p + 1 + 1 + 1)) e)))
theorem oc_167 {c : ByteArray} {p : Nat} {b b2 : UInt8} {z : Int} {r : List UInt8} (h : c.data.toList.drop p = 167 :: b :: b2 :: r) (e : Jvm.ClassFile.Reader.signed 16 (b.toNat * 256 + b2.toNat) = z) : decode c p = .ok (.goto z, 3) := dcd (n := 3) ((rbd (u1_at h)).trans ((rbd (s2_at (u2_at (u1_at (dS h)) (u1_at (dS (dS h)))))).trans (congrArg (fun x => Except.ok (Instr.goto x, p + 1 + 1 + 1)) e)))
theorem oc_172 {c : ByteArray} {p : Nat} {r : List UInt8} (h : c.data.toList.drop p = 172 :: r) : decode c p = .ok (.ireturn, 1) := dcd (n := 1) ((rbd (u1_at h)).trans (rfl))
theorem oc_173 {c : ByteArray} {p : Nat} {r : List UInt8} (h : c.data.toList.drop p = 173 :: r) : decode c p = .ok (.lreturn, 1) := dcd (n := 1) ((rbd (u1_at h)).trans (rfl))
theorem oc_176 {c : ByteArray} {p : Nat} {r : List UInt8} (h : c.data.toList.drop p = 176 :: r) : decode c p = .ok (.areturn, 1) := dcd (n := 1) ((rbd (u1_at h)).trans (rfl))
theorem oc_177 {c : ByteArray} {p : Nat} {r : List UInt8} (h : c.data.toList.drop p = 177 :: r) : decode c p = .ok (.return_, 1) := dcd (n := 1) ((rbd (u1_at h)).trans (rfl))
theorem oc_178 {c : ByteArray} {p : Nat} {b b2 : UInt8} {r : List UInt8} (h : c.data.toList.drop p = 178 :: b :: b2 :: r) : decode c p = .ok (.getstatic (b.toNat * 256 + b2.toNat), 3) := dcd (n := 3) ((rbd (u1_at h)).trans ((rbd (u2_at (u1_at (dS h)) (u1_at (dS (dS h))))).trans rfl))
theorem oc_180 {c : ByteArray} {p : Nat} {b b2 : UInt8} {r : List UInt8} (h : c.data.toList.drop p = 180 :: b :: b2 :: r) : decode c p = .ok (.getfield (b.toNat * 256 + b2.toNat), 3) := dcd (n := 3) ((rbd (u1_at h)).trans ((rbd (u2_at (u1_at (dS h)) (u1_at (dS (dS h))))).trans rfl))
theorem oc_181 {c : ByteArray} {p : Nat} {b b2 : UInt8} {r : List UInt8} (h : c.data.toList.drop p = 181 :: b :: b2 :: r) : decode c p = .ok (.putfield (b.toNat * 256 + b2.toNat), 3) := dcd (n := 3) ((rbd (u1_at h)).trans ((rbd (u2_at (u1_at (dS h)) (u1_at (dS (dS h))))).trans rfl))
theorem oc_182 {c : ByteArray} {p : Nat} {b b2 : UInt8} {r : List UInt8} (h : c.data.toList.drop p = 182 :: b :: b2 :: r) : decode c p = .ok (.invokevirtual (b.toNat * 256 + b2.toNat), 3) := dcd (n := 3) ((rbd (u1_at h)).trans ((rbd (u2_at (u1_at (dS h)) (u1_at (dS (dS h))))).trans rfl))
theorem oc_183 {c : ByteArray} {p : Nat} {b b2 : UInt8} {r : List UInt8} (h : c.data.toList.drop p = 183 :: b :: b2 :: r) : decode c p = .ok (.invokespecial (b.toNat * 256 + b2.toNat), 3) := dcd (n := 3) ((rbd (u1_at h)).trans ((rbd (u2_at (u1_at (dS h)) (u1_at (dS (dS h))))).trans rfl))
theorem oc_184 {c : ByteArray} {p : Nat} {b b2 : UInt8} {r : List UInt8} (h : c.data.toList.drop p = 184 :: b :: b2 :: r) : decode c p = .ok (.invokestatic (b.toNat * 256 + b2.toNat), 3) := dcd (n := 3) ((rbd (u1_at h)).trans ((rbd (u2_at (u1_at (dS h)) (u1_at (dS (dS h))))).trans rfl))
theorem oc_187 {c : ByteArray} {p : Nat} {b b2 : UInt8} {r : List UInt8} (h : c.data.toList.drop p = 187 :: b :: b2 :: r) : decode c p = .ok (.new (b.toNat * 256 + b2.toNat), 3) := dcd (n := 3) ((rbd (u1_at h)).trans ((rbd (u2_at (u1_at (dS h)) (u1_at (dS (dS h))))).trans rfl))
theorem oc_188_4 {c : ByteArray} {p : Nat} {r : List UInt8} (h : c.data.toList.drop p = 188 :: 4 :: r) : decode c p = .ok (.newarray .boolean, 2) := dcd (n := 2) ((rbd (u1_at h)).trans ((rbd (u1_at (dS h))).trans rfl))
theorem oc_188_8 {c : ByteArray} {p : Nat} {r : List UInt8} (h : c.data.toList.drop p = 188 :: 8 :: r) : decode c p = .ok (.newarray .byte, 2) := dcd (n := 2) ((rbd (u1_at h)).trans ((rbd (u1_at (dS h))).trans rfl))
theorem oc_188_10 {c : ByteArray} {p : Nat} {r : List UInt8} (h : c.data.toList.drop p = 188 :: 10 :: r) : decode c p = .ok (.newarray .int, 2) := dcd (n := 2) ((rbd (u1_at h)).trans ((rbd (u1_at (dS h))).trans rfl))
theorem oc_189 {c : ByteArray} {p : Nat} {b b2 : UInt8} {r : List UInt8} (h : c.data.toList.drop p = 189 :: b :: b2 :: r) : decode c p = .ok (.anewarray (b.toNat * 256 + b2.toNat), 3) := dcd (n := 3) ((rbd (u1_at h)).trans ((rbd (u2_at (u1_at (dS h)) (u1_at (dS (dS h))))).trans rfl))
theorem oc_190 {c : ByteArray} {p : Nat} {r : List UInt8} (h : c.data.toList.drop p = 190 :: r) : decode c p = .ok (.arraylength, 1) := dcd (n := 1) ((rbd (u1_at h)).trans (rfl))
theorem oc_192 {c : ByteArray} {p : Nat} {b b2 : UInt8} {r : List UInt8} (h : c.data.toList.drop p = 192 :: b :: b2 :: r) : decode c p = .ok (.checkcast (b.toNat * 256 + b2.toNat), 3) := dcd (n := 3) ((rbd (u1_at h)).trans ((rbd (u2_at (u1_at (dS h)) (u1_at (dS (dS h))))).trans rfl))
theorem oc_198 {c : ByteArray} {p : Nat} {b b2 : UInt8} {z : Int} {r : List UInt8} (h : c.data.toList.drop p = 198 :: b :: b2 :: r) (e : Jvm.ClassFile.Reader.signed 16 (b.toNat * 256 + b2.toNat) = z) : decode c p = .ok (.ifnull z, 3) := dcd (n := 3) ((rbd (u1_at h)).trans ((rbd (s2_at (u2_at (u1_at (dS h)) (u1_at (dS (dS h)))))).trans (congrArg (fun x => Except.ok (Instr.ifnull x, p + 1 + 1 + 1)) e)))
theorem oc_199 {c : ByteArray} {p : Nat} {b b2 : UInt8} {z : Int} {r : List UInt8} (h : c.data.toList.drop p = 199 :: b :: b2 :: r) (e : Jvm.ClassFile.Reader.signed 16 (b.toNat * 256 + b2.toNat) = z) : decode c p = .ok (.ifnonnull z, 3) := dcd (n := 3) ((rbd (u1_at h)).trans ((rbd (s2_at (u2_at (u1_at (dS h)) (u1_at (dS (dS h)))))).trans (congrArg (fun x => Except.ok (Instr.ifnonnull x, p + 1 + 1 + 1)) e)))
theorem sgb_1 : Jvm.ClassFile.Reader.signed 8 (1 : UInt8).toNat = 1 := by decide +kernel
theorem sgb_10 : Jvm.ClassFile.Reader.signed 8 (10 : UInt8).toNat = 10 := by decide +kernel
theorem sgb_100 : Jvm.ClassFile.Reader.signed 8 (100 : UInt8).toNat = 100 := by decide +kernel
theorem sgb_102 : Jvm.ClassFile.Reader.signed 8 (102 : UInt8).toNat = 102 := by decide +kernel
theorem sgb_103 : Jvm.ClassFile.Reader.signed 8 (103 : UInt8).toNat = 103 := by decide +kernel
theorem sgb_107 : Jvm.ClassFile.Reader.signed 8 (107 : UInt8).toNat = 107 := by decide +kernel
theorem sgb_108 : Jvm.ClassFile.Reader.signed 8 (108 : UInt8).toNat = 108 := by decide +kernel
theorem sgb_109 : Jvm.ClassFile.Reader.signed 8 (109 : UInt8).toNat = 109 := by decide +kernel
theorem sgb_11 : Jvm.ClassFile.Reader.signed 8 (11 : UInt8).toNat = 11 := by decide +kernel
theorem sgb_110 : Jvm.ClassFile.Reader.signed 8 (110 : UInt8).toNat = 110 := by decide +kernel
theorem sgb_111 : Jvm.ClassFile.Reader.signed 8 (111 : UInt8).toNat = 111 := by decide +kernel
theorem sgb_112 : Jvm.ClassFile.Reader.signed 8 (112 : UInt8).toNat = 112 := by decide +kernel
theorem sgb_113 : Jvm.ClassFile.Reader.signed 8 (113 : UInt8).toNat = 113 := by decide +kernel
theorem sgb_115 : Jvm.ClassFile.Reader.signed 8 (115 : UInt8).toNat = 115 := by decide +kernel
theorem sgb_119 : Jvm.ClassFile.Reader.signed 8 (119 : UInt8).toNat = 119 := by decide +kernel
theorem sgb_12 : Jvm.ClassFile.Reader.signed 8 (12 : UInt8).toNat = 12 := by decide +kernel
theorem sgb_120 : Jvm.ClassFile.Reader.signed 8 (120 : UInt8).toNat = 120 := by decide +kernel
theorem sgb_124 : Jvm.ClassFile.Reader.signed 8 (124 : UInt8).toNat = 124 := by decide +kernel
theorem sgb_13 : Jvm.ClassFile.Reader.signed 8 (13 : UInt8).toNat = 13 := by decide +kernel
theorem sgb_14 : Jvm.ClassFile.Reader.signed 8 (14 : UInt8).toNat = 14 := by decide +kernel
theorem sgb_15 : Jvm.ClassFile.Reader.signed 8 (15 : UInt8).toNat = 15 := by decide +kernel
theorem sgb_16 : Jvm.ClassFile.Reader.signed 8 (16 : UInt8).toNat = 16 := by decide +kernel
theorem sgb_19 : Jvm.ClassFile.Reader.signed 8 (19 : UInt8).toNat = 19 := by decide +kernel
theorem sgb_20 : Jvm.ClassFile.Reader.signed 8 (20 : UInt8).toNat = 20 := by decide +kernel
theorem sgb_216 : Jvm.ClassFile.Reader.signed 8 (216 : UInt8).toNat = -40 := by decide +kernel
theorem sgb_23 : Jvm.ClassFile.Reader.signed 8 (23 : UInt8).toNat = 23 := by decide +kernel
theorem sgb_24 : Jvm.ClassFile.Reader.signed 8 (24 : UInt8).toNat = 24 := by decide +kernel
theorem sgb_246 : Jvm.ClassFile.Reader.signed 8 (246 : UInt8).toNat = -10 := by decide +kernel
theorem sgb_248 : Jvm.ClassFile.Reader.signed 8 (248 : UInt8).toNat = -8 := by decide +kernel
theorem sgb_254 : Jvm.ClassFile.Reader.signed 8 (254 : UInt8).toNat = -2 := by decide +kernel
theorem sgb_255 : Jvm.ClassFile.Reader.signed 8 (255 : UInt8).toNat = -1 := by decide +kernel
theorem sgb_29 : Jvm.ClassFile.Reader.signed 8 (29 : UInt8).toNat = 29 := by decide +kernel
theorem sgb_30 : Jvm.ClassFile.Reader.signed 8 (30 : UInt8).toNat = 30 := by decide +kernel
theorem sgb_32 : Jvm.ClassFile.Reader.signed 8 (32 : UInt8).toNat = 32 := by decide +kernel
theorem sgb_33 : Jvm.ClassFile.Reader.signed 8 (33 : UInt8).toNat = 33 := by decide +kernel
theorem sgb_37 : Jvm.ClassFile.Reader.signed 8 (37 : UInt8).toNat = 37 := by decide +kernel
theorem sgb_38 : Jvm.ClassFile.Reader.signed 8 (38 : UInt8).toNat = 38 := by decide +kernel
theorem sgb_39 : Jvm.ClassFile.Reader.signed 8 (39 : UInt8).toNat = 39 := by decide +kernel
theorem sgb_4 : Jvm.ClassFile.Reader.signed 8 (4 : UInt8).toNat = 4 := by decide +kernel
theorem sgb_40 : Jvm.ClassFile.Reader.signed 8 (40 : UInt8).toNat = 40 := by decide +kernel
theorem sgb_41 : Jvm.ClassFile.Reader.signed 8 (41 : UInt8).toNat = 41 := by decide +kernel
theorem sgb_42 : Jvm.ClassFile.Reader.signed 8 (42 : UInt8).toNat = 42 := by decide +kernel
theorem sgb_43 : Jvm.ClassFile.Reader.signed 8 (43 : UInt8).toNat = 43 := by decide +kernel
theorem sgb_45 : Jvm.ClassFile.Reader.signed 8 (45 : UInt8).toNat = 45 := by decide +kernel
theorem sgb_47 : Jvm.ClassFile.Reader.signed 8 (47 : UInt8).toNat = 47 := by decide +kernel
theorem sgb_48 : Jvm.ClassFile.Reader.signed 8 (48 : UInt8).toNat = 48 := by decide +kernel
theorem sgb_49 : Jvm.ClassFile.Reader.signed 8 (49 : UInt8).toNat = 49 := by decide +kernel
theorem sgb_50 : Jvm.ClassFile.Reader.signed 8 (50 : UInt8).toNat = 50 := by decide +kernel
theorem sgb_57 : Jvm.ClassFile.Reader.signed 8 (57 : UInt8).toNat = 57 := by decide +kernel
theorem sgb_58 : Jvm.ClassFile.Reader.signed 8 (58 : UInt8).toNat = 58 := by decide +kernel
theorem sgb_59 : Jvm.ClassFile.Reader.signed 8 (59 : UInt8).toNat = 59 := by decide +kernel
theorem sgb_6 : Jvm.ClassFile.Reader.signed 8 (6 : UInt8).toNat = 6 := by decide +kernel
theorem sgb_60 : Jvm.ClassFile.Reader.signed 8 (60 : UInt8).toNat = 60 := by decide +kernel
theorem sgb_61 : Jvm.ClassFile.Reader.signed 8 (61 : UInt8).toNat = 61 := by decide +kernel
theorem sgb_62 : Jvm.ClassFile.Reader.signed 8 (62 : UInt8).toNat = 62 := by decide +kernel
theorem sgb_63 : Jvm.ClassFile.Reader.signed 8 (63 : UInt8).toNat = 63 := by decide +kernel
theorem sgb_7 : Jvm.ClassFile.Reader.signed 8 (7 : UInt8).toNat = 7 := by decide +kernel
theorem sgb_8 : Jvm.ClassFile.Reader.signed 8 (8 : UInt8).toNat = 8 := by decide +kernel
theorem sgb_9 : Jvm.ClassFile.Reader.signed 8 (9 : UInt8).toNat = 9 := by decide +kernel
theorem sgb_91 : Jvm.ClassFile.Reader.signed 8 (91 : UInt8).toNat = 91 := by decide +kernel
theorem sgb_93 : Jvm.ClassFile.Reader.signed 8 (93 : UInt8).toNat = 93 := by decide +kernel
theorem sgb_97 : Jvm.ClassFile.Reader.signed 8 (97 : UInt8).toNat = 97 := by decide +kernel
theorem sgb_99 : Jvm.ClassFile.Reader.signed 8 (99 : UInt8).toNat = 99 := by decide +kernel
theorem sgw_0_10 : Jvm.ClassFile.Reader.signed 16 ((0 : UInt8).toNat * 256 + (10 : UInt8).toNat) = 10 := by decide +kernel
theorem sgw_0_100 : Jvm.ClassFile.Reader.signed 16 ((0 : UInt8).toNat * 256 + (100 : UInt8).toNat) = 100 := by decide +kernel
theorem sgw_0_101 : Jvm.ClassFile.Reader.signed 16 ((0 : UInt8).toNat * 256 + (101 : UInt8).toNat) = 101 := by decide +kernel
theorem sgw_0_105 : Jvm.ClassFile.Reader.signed 16 ((0 : UInt8).toNat * 256 + (105 : UInt8).toNat) = 105 := by decide +kernel
theorem sgw_0_106 : Jvm.ClassFile.Reader.signed 16 ((0 : UInt8).toNat * 256 + (106 : UInt8).toNat) = 106 := by decide +kernel
theorem sgw_0_108 : Jvm.ClassFile.Reader.signed 16 ((0 : UInt8).toNat * 256 + (108 : UInt8).toNat) = 108 := by decide +kernel
theorem sgw_0_109 : Jvm.ClassFile.Reader.signed 16 ((0 : UInt8).toNat * 256 + (109 : UInt8).toNat) = 109 := by decide +kernel
theorem sgw_0_11 : Jvm.ClassFile.Reader.signed 16 ((0 : UInt8).toNat * 256 + (11 : UInt8).toNat) = 11 := by decide +kernel
theorem sgw_0_110 : Jvm.ClassFile.Reader.signed 16 ((0 : UInt8).toNat * 256 + (110 : UInt8).toNat) = 110 := by decide +kernel
theorem sgw_0_112 : Jvm.ClassFile.Reader.signed 16 ((0 : UInt8).toNat * 256 + (112 : UInt8).toNat) = 112 := by decide +kernel
theorem sgw_0_12 : Jvm.ClassFile.Reader.signed 16 ((0 : UInt8).toNat * 256 + (12 : UInt8).toNat) = 12 := by decide +kernel
theorem sgw_0_120 : Jvm.ClassFile.Reader.signed 16 ((0 : UInt8).toNat * 256 + (120 : UInt8).toNat) = 120 := by decide +kernel
theorem sgw_0_129 : Jvm.ClassFile.Reader.signed 16 ((0 : UInt8).toNat * 256 + (129 : UInt8).toNat) = 129 := by decide +kernel
theorem sgw_0_13 : Jvm.ClassFile.Reader.signed 16 ((0 : UInt8).toNat * 256 + (13 : UInt8).toNat) = 13 := by decide +kernel
theorem sgw_0_132 : Jvm.ClassFile.Reader.signed 16 ((0 : UInt8).toNat * 256 + (132 : UInt8).toNat) = 132 := by decide +kernel
theorem sgw_0_138 : Jvm.ClassFile.Reader.signed 16 ((0 : UInt8).toNat * 256 + (138 : UInt8).toNat) = 138 := by decide +kernel
theorem sgw_0_14 : Jvm.ClassFile.Reader.signed 16 ((0 : UInt8).toNat * 256 + (14 : UInt8).toNat) = 14 := by decide +kernel
theorem sgw_0_140 : Jvm.ClassFile.Reader.signed 16 ((0 : UInt8).toNat * 256 + (140 : UInt8).toNat) = 140 := by decide +kernel
theorem sgw_0_145 : Jvm.ClassFile.Reader.signed 16 ((0 : UInt8).toNat * 256 + (145 : UInt8).toNat) = 145 := by decide +kernel
theorem sgw_0_15 : Jvm.ClassFile.Reader.signed 16 ((0 : UInt8).toNat * 256 + (15 : UInt8).toNat) = 15 := by decide +kernel
theorem sgw_0_16 : Jvm.ClassFile.Reader.signed 16 ((0 : UInt8).toNat * 256 + (16 : UInt8).toNat) = 16 := by decide +kernel
theorem sgw_0_160 : Jvm.ClassFile.Reader.signed 16 ((0 : UInt8).toNat * 256 + (160 : UInt8).toNat) = 160 := by decide +kernel
theorem sgw_0_17 : Jvm.ClassFile.Reader.signed 16 ((0 : UInt8).toNat * 256 + (17 : UInt8).toNat) = 17 := by decide +kernel
theorem sgw_0_18 : Jvm.ClassFile.Reader.signed 16 ((0 : UInt8).toNat * 256 + (18 : UInt8).toNat) = 18 := by decide +kernel
theorem sgw_0_180 : Jvm.ClassFile.Reader.signed 16 ((0 : UInt8).toNat * 256 + (180 : UInt8).toNat) = 180 := by decide +kernel
theorem sgw_0_181 : Jvm.ClassFile.Reader.signed 16 ((0 : UInt8).toNat * 256 + (181 : UInt8).toNat) = 181 := by decide +kernel
theorem sgw_0_19 : Jvm.ClassFile.Reader.signed 16 ((0 : UInt8).toNat * 256 + (19 : UInt8).toNat) = 19 := by decide +kernel
theorem sgw_0_192 : Jvm.ClassFile.Reader.signed 16 ((0 : UInt8).toNat * 256 + (192 : UInt8).toNat) = 192 := by decide +kernel
theorem sgw_0_198 : Jvm.ClassFile.Reader.signed 16 ((0 : UInt8).toNat * 256 + (198 : UInt8).toNat) = 198 := by decide +kernel
theorem sgw_0_20 : Jvm.ClassFile.Reader.signed 16 ((0 : UInt8).toNat * 256 + (20 : UInt8).toNat) = 20 := by decide +kernel
theorem sgw_0_200 : Jvm.ClassFile.Reader.signed 16 ((0 : UInt8).toNat * 256 + (200 : UInt8).toNat) = 200 := by decide +kernel
theorem sgw_0_208 : Jvm.ClassFile.Reader.signed 16 ((0 : UInt8).toNat * 256 + (208 : UInt8).toNat) = 208 := by decide +kernel
theorem sgw_0_21 : Jvm.ClassFile.Reader.signed 16 ((0 : UInt8).toNat * 256 + (21 : UInt8).toNat) = 21 := by decide +kernel
theorem sgw_0_214 : Jvm.ClassFile.Reader.signed 16 ((0 : UInt8).toNat * 256 + (214 : UInt8).toNat) = 214 := by decide +kernel
theorem sgw_0_215 : Jvm.ClassFile.Reader.signed 16 ((0 : UInt8).toNat * 256 + (215 : UInt8).toNat) = 215 := by decide +kernel
theorem sgw_0_216 : Jvm.ClassFile.Reader.signed 16 ((0 : UInt8).toNat * 256 + (216 : UInt8).toNat) = 216 := by decide +kernel
theorem sgw_0_22 : Jvm.ClassFile.Reader.signed 16 ((0 : UInt8).toNat * 256 + (22 : UInt8).toNat) = 22 := by decide +kernel
theorem sgw_0_23 : Jvm.ClassFile.Reader.signed 16 ((0 : UInt8).toNat * 256 + (23 : UInt8).toNat) = 23 := by decide +kernel
theorem sgw_0_232 : Jvm.ClassFile.Reader.signed 16 ((0 : UInt8).toNat * 256 + (232 : UInt8).toNat) = 232 := by decide +kernel
theorem sgw_0_237 : Jvm.ClassFile.Reader.signed 16 ((0 : UInt8).toNat * 256 + (237 : UInt8).toNat) = 237 := by decide +kernel
theorem sgw_0_24 : Jvm.ClassFile.Reader.signed 16 ((0 : UInt8).toNat * 256 + (24 : UInt8).toNat) = 24 := by decide +kernel
theorem sgw_0_25 : Jvm.ClassFile.Reader.signed 16 ((0 : UInt8).toNat * 256 + (25 : UInt8).toNat) = 25 := by decide +kernel
theorem sgw_0_255 : Jvm.ClassFile.Reader.signed 16 ((0 : UInt8).toNat * 256 + (255 : UInt8).toNat) = 255 := by decide +kernel
theorem sgw_0_26 : Jvm.ClassFile.Reader.signed 16 ((0 : UInt8).toNat * 256 + (26 : UInt8).toNat) = 26 := by decide +kernel
theorem sgw_0_27 : Jvm.ClassFile.Reader.signed 16 ((0 : UInt8).toNat * 256 + (27 : UInt8).toNat) = 27 := by decide +kernel
theorem sgw_0_28 : Jvm.ClassFile.Reader.signed 16 ((0 : UInt8).toNat * 256 + (28 : UInt8).toNat) = 28 := by decide +kernel
theorem sgw_0_29 : Jvm.ClassFile.Reader.signed 16 ((0 : UInt8).toNat * 256 + (29 : UInt8).toNat) = 29 := by decide +kernel
theorem sgw_0_3 : Jvm.ClassFile.Reader.signed 16 ((0 : UInt8).toNat * 256 + (3 : UInt8).toNat) = 3 := by decide +kernel
theorem sgw_0_30 : Jvm.ClassFile.Reader.signed 16 ((0 : UInt8).toNat * 256 + (30 : UInt8).toNat) = 30 := by decide +kernel
theorem sgw_0_31 : Jvm.ClassFile.Reader.signed 16 ((0 : UInt8).toNat * 256 + (31 : UInt8).toNat) = 31 := by decide +kernel
theorem sgw_0_32 : Jvm.ClassFile.Reader.signed 16 ((0 : UInt8).toNat * 256 + (32 : UInt8).toNat) = 32 := by decide +kernel
theorem sgw_0_33 : Jvm.ClassFile.Reader.signed 16 ((0 : UInt8).toNat * 256 + (33 : UInt8).toNat) = 33 := by decide +kernel
theorem sgw_0_34 : Jvm.ClassFile.Reader.signed 16 ((0 : UInt8).toNat * 256 + (34 : UInt8).toNat) = 34 := by decide +kernel
theorem sgw_0_35 : Jvm.ClassFile.Reader.signed 16 ((0 : UInt8).toNat * 256 + (35 : UInt8).toNat) = 35 := by decide +kernel
theorem sgw_0_36 : Jvm.ClassFile.Reader.signed 16 ((0 : UInt8).toNat * 256 + (36 : UInt8).toNat) = 36 := by decide +kernel
theorem sgw_0_37 : Jvm.ClassFile.Reader.signed 16 ((0 : UInt8).toNat * 256 + (37 : UInt8).toNat) = 37 := by decide +kernel
theorem sgw_0_38 : Jvm.ClassFile.Reader.signed 16 ((0 : UInt8).toNat * 256 + (38 : UInt8).toNat) = 38 := by decide +kernel
theorem sgw_0_39 : Jvm.ClassFile.Reader.signed 16 ((0 : UInt8).toNat * 256 + (39 : UInt8).toNat) = 39 := by decide +kernel
theorem sgw_0_4 : Jvm.ClassFile.Reader.signed 16 ((0 : UInt8).toNat * 256 + (4 : UInt8).toNat) = 4 := by decide +kernel
theorem sgw_0_40 : Jvm.ClassFile.Reader.signed 16 ((0 : UInt8).toNat * 256 + (40 : UInt8).toNat) = 40 := by decide +kernel
theorem sgw_0_41 : Jvm.ClassFile.Reader.signed 16 ((0 : UInt8).toNat * 256 + (41 : UInt8).toNat) = 41 := by decide +kernel
theorem sgw_0_42 : Jvm.ClassFile.Reader.signed 16 ((0 : UInt8).toNat * 256 + (42 : UInt8).toNat) = 42 := by decide +kernel
theorem sgw_0_43 : Jvm.ClassFile.Reader.signed 16 ((0 : UInt8).toNat * 256 + (43 : UInt8).toNat) = 43 := by decide +kernel
theorem sgw_0_44 : Jvm.ClassFile.Reader.signed 16 ((0 : UInt8).toNat * 256 + (44 : UInt8).toNat) = 44 := by decide +kernel
theorem sgw_0_45 : Jvm.ClassFile.Reader.signed 16 ((0 : UInt8).toNat * 256 + (45 : UInt8).toNat) = 45 := by decide +kernel
theorem sgw_0_46 : Jvm.ClassFile.Reader.signed 16 ((0 : UInt8).toNat * 256 + (46 : UInt8).toNat) = 46 := by decide +kernel
theorem sgw_0_47 : Jvm.ClassFile.Reader.signed 16 ((0 : UInt8).toNat * 256 + (47 : UInt8).toNat) = 47 := by decide +kernel
theorem sgw_0_48 : Jvm.ClassFile.Reader.signed 16 ((0 : UInt8).toNat * 256 + (48 : UInt8).toNat) = 48 := by decide +kernel
theorem sgw_0_49 : Jvm.ClassFile.Reader.signed 16 ((0 : UInt8).toNat * 256 + (49 : UInt8).toNat) = 49 := by decide +kernel
theorem sgw_0_5 : Jvm.ClassFile.Reader.signed 16 ((0 : UInt8).toNat * 256 + (5 : UInt8).toNat) = 5 := by decide +kernel
theorem sgw_0_50 : Jvm.ClassFile.Reader.signed 16 ((0 : UInt8).toNat * 256 + (50 : UInt8).toNat) = 50 := by decide +kernel
theorem sgw_0_51 : Jvm.ClassFile.Reader.signed 16 ((0 : UInt8).toNat * 256 + (51 : UInt8).toNat) = 51 := by decide +kernel
theorem sgw_0_52 : Jvm.ClassFile.Reader.signed 16 ((0 : UInt8).toNat * 256 + (52 : UInt8).toNat) = 52 := by decide +kernel
theorem sgw_0_53 : Jvm.ClassFile.Reader.signed 16 ((0 : UInt8).toNat * 256 + (53 : UInt8).toNat) = 53 := by decide +kernel
theorem sgw_0_54 : Jvm.ClassFile.Reader.signed 16 ((0 : UInt8).toNat * 256 + (54 : UInt8).toNat) = 54 := by decide +kernel
theorem sgw_0_55 : Jvm.ClassFile.Reader.signed 16 ((0 : UInt8).toNat * 256 + (55 : UInt8).toNat) = 55 := by decide +kernel
theorem sgw_0_56 : Jvm.ClassFile.Reader.signed 16 ((0 : UInt8).toNat * 256 + (56 : UInt8).toNat) = 56 := by decide +kernel
theorem sgw_0_57 : Jvm.ClassFile.Reader.signed 16 ((0 : UInt8).toNat * 256 + (57 : UInt8).toNat) = 57 := by decide +kernel
theorem sgw_0_58 : Jvm.ClassFile.Reader.signed 16 ((0 : UInt8).toNat * 256 + (58 : UInt8).toNat) = 58 := by decide +kernel
theorem sgw_0_59 : Jvm.ClassFile.Reader.signed 16 ((0 : UInt8).toNat * 256 + (59 : UInt8).toNat) = 59 := by decide +kernel
theorem sgw_0_6 : Jvm.ClassFile.Reader.signed 16 ((0 : UInt8).toNat * 256 + (6 : UInt8).toNat) = 6 := by decide +kernel
theorem sgw_0_60 : Jvm.ClassFile.Reader.signed 16 ((0 : UInt8).toNat * 256 + (60 : UInt8).toNat) = 60 := by decide +kernel
theorem sgw_0_61 : Jvm.ClassFile.Reader.signed 16 ((0 : UInt8).toNat * 256 + (61 : UInt8).toNat) = 61 := by decide +kernel
theorem sgw_0_62 : Jvm.ClassFile.Reader.signed 16 ((0 : UInt8).toNat * 256 + (62 : UInt8).toNat) = 62 := by decide +kernel
theorem sgw_0_63 : Jvm.ClassFile.Reader.signed 16 ((0 : UInt8).toNat * 256 + (63 : UInt8).toNat) = 63 := by decide +kernel
theorem sgw_0_64 : Jvm.ClassFile.Reader.signed 16 ((0 : UInt8).toNat * 256 + (64 : UInt8).toNat) = 64 := by decide +kernel
theorem sgw_0_65 : Jvm.ClassFile.Reader.signed 16 ((0 : UInt8).toNat * 256 + (65 : UInt8).toNat) = 65 := by decide +kernel
theorem sgw_0_66 : Jvm.ClassFile.Reader.signed 16 ((0 : UInt8).toNat * 256 + (66 : UInt8).toNat) = 66 := by decide +kernel
theorem sgw_0_67 : Jvm.ClassFile.Reader.signed 16 ((0 : UInt8).toNat * 256 + (67 : UInt8).toNat) = 67 := by decide +kernel
theorem sgw_0_68 : Jvm.ClassFile.Reader.signed 16 ((0 : UInt8).toNat * 256 + (68 : UInt8).toNat) = 68 := by decide +kernel
theorem sgw_0_7 : Jvm.ClassFile.Reader.signed 16 ((0 : UInt8).toNat * 256 + (7 : UInt8).toNat) = 7 := by decide +kernel
theorem sgw_0_70 : Jvm.ClassFile.Reader.signed 16 ((0 : UInt8).toNat * 256 + (70 : UInt8).toNat) = 70 := by decide +kernel
theorem sgw_0_71 : Jvm.ClassFile.Reader.signed 16 ((0 : UInt8).toNat * 256 + (71 : UInt8).toNat) = 71 := by decide +kernel
theorem sgw_0_72 : Jvm.ClassFile.Reader.signed 16 ((0 : UInt8).toNat * 256 + (72 : UInt8).toNat) = 72 := by decide +kernel
theorem sgw_0_73 : Jvm.ClassFile.Reader.signed 16 ((0 : UInt8).toNat * 256 + (73 : UInt8).toNat) = 73 := by decide +kernel
theorem sgw_0_74 : Jvm.ClassFile.Reader.signed 16 ((0 : UInt8).toNat * 256 + (74 : UInt8).toNat) = 74 := by decide +kernel
theorem sgw_0_75 : Jvm.ClassFile.Reader.signed 16 ((0 : UInt8).toNat * 256 + (75 : UInt8).toNat) = 75 := by decide +kernel
theorem sgw_0_76 : Jvm.ClassFile.Reader.signed 16 ((0 : UInt8).toNat * 256 + (76 : UInt8).toNat) = 76 := by decide +kernel
theorem sgw_0_78 : Jvm.ClassFile.Reader.signed 16 ((0 : UInt8).toNat * 256 + (78 : UInt8).toNat) = 78 := by decide +kernel
theorem sgw_0_79 : Jvm.ClassFile.Reader.signed 16 ((0 : UInt8).toNat * 256 + (79 : UInt8).toNat) = 79 := by decide +kernel
theorem sgw_0_8 : Jvm.ClassFile.Reader.signed 16 ((0 : UInt8).toNat * 256 + (8 : UInt8).toNat) = 8 := by decide +kernel
theorem sgw_0_80 : Jvm.ClassFile.Reader.signed 16 ((0 : UInt8).toNat * 256 + (80 : UInt8).toNat) = 80 := by decide +kernel
theorem sgw_0_81 : Jvm.ClassFile.Reader.signed 16 ((0 : UInt8).toNat * 256 + (81 : UInt8).toNat) = 81 := by decide +kernel
theorem sgw_0_82 : Jvm.ClassFile.Reader.signed 16 ((0 : UInt8).toNat * 256 + (82 : UInt8).toNat) = 82 := by decide +kernel
theorem sgw_0_83 : Jvm.ClassFile.Reader.signed 16 ((0 : UInt8).toNat * 256 + (83 : UInt8).toNat) = 83 := by decide +kernel
theorem sgw_0_85 : Jvm.ClassFile.Reader.signed 16 ((0 : UInt8).toNat * 256 + (85 : UInt8).toNat) = 85 := by decide +kernel
theorem sgw_0_88 : Jvm.ClassFile.Reader.signed 16 ((0 : UInt8).toNat * 256 + (88 : UInt8).toNat) = 88 := by decide +kernel
theorem sgw_0_89 : Jvm.ClassFile.Reader.signed 16 ((0 : UInt8).toNat * 256 + (89 : UInt8).toNat) = 89 := by decide +kernel
theorem sgw_0_9 : Jvm.ClassFile.Reader.signed 16 ((0 : UInt8).toNat * 256 + (9 : UInt8).toNat) = 9 := by decide +kernel
theorem sgw_0_90 : Jvm.ClassFile.Reader.signed 16 ((0 : UInt8).toNat * 256 + (90 : UInt8).toNat) = 90 := by decide +kernel
theorem sgw_0_94 : Jvm.ClassFile.Reader.signed 16 ((0 : UInt8).toNat * 256 + (94 : UInt8).toNat) = 94 := by decide +kernel
theorem sgw_0_96 : Jvm.ClassFile.Reader.signed 16 ((0 : UInt8).toNat * 256 + (96 : UInt8).toNat) = 96 := by decide +kernel
theorem sgw_0_97 : Jvm.ClassFile.Reader.signed 16 ((0 : UInt8).toNat * 256 + (97 : UInt8).toNat) = 97 := by decide +kernel
theorem sgw_1_0 : Jvm.ClassFile.Reader.signed 16 ((1 : UInt8).toNat * 256 + (0 : UInt8).toNat) = 256 := by decide +kernel
theorem sgw_1_113 : Jvm.ClassFile.Reader.signed 16 ((1 : UInt8).toNat * 256 + (113 : UInt8).toNat) = 369 := by decide +kernel
theorem sgw_1_14 : Jvm.ClassFile.Reader.signed 16 ((1 : UInt8).toNat * 256 + (14 : UInt8).toNat) = 270 := by decide +kernel
theorem sgw_1_143 : Jvm.ClassFile.Reader.signed 16 ((1 : UInt8).toNat * 256 + (143 : UInt8).toNat) = 399 := by decide +kernel
theorem sgw_1_144 : Jvm.ClassFile.Reader.signed 16 ((1 : UInt8).toNat * 256 + (144 : UInt8).toNat) = 400 := by decide +kernel
theorem sgw_1_146 : Jvm.ClassFile.Reader.signed 16 ((1 : UInt8).toNat * 256 + (146 : UInt8).toNat) = 402 := by decide +kernel
theorem sgw_1_179 : Jvm.ClassFile.Reader.signed 16 ((1 : UInt8).toNat * 256 + (179 : UInt8).toNat) = 435 := by decide +kernel
theorem sgw_1_202 : Jvm.ClassFile.Reader.signed 16 ((1 : UInt8).toNat * 256 + (202 : UInt8).toNat) = 458 := by decide +kernel
theorem sgw_1_235 : Jvm.ClassFile.Reader.signed 16 ((1 : UInt8).toNat * 256 + (235 : UInt8).toNat) = 491 := by decide +kernel
theorem sgw_1_37 : Jvm.ClassFile.Reader.signed 16 ((1 : UInt8).toNat * 256 + (37 : UInt8).toNat) = 293 := by decide +kernel
theorem sgw_1_44 : Jvm.ClassFile.Reader.signed 16 ((1 : UInt8).toNat * 256 + (44 : UInt8).toNat) = 300 := by decide +kernel
theorem sgw_1_80 : Jvm.ClassFile.Reader.signed 16 ((1 : UInt8).toNat * 256 + (80 : UInt8).toNat) = 336 := by decide +kernel
theorem sgw_216_240 : Jvm.ClassFile.Reader.signed 16 ((216 : UInt8).toNat * 256 + (240 : UInt8).toNat) = -10000 := by decide +kernel
theorem sgw_247_50 : Jvm.ClassFile.Reader.signed 16 ((247 : UInt8).toNat * 256 + (50 : UInt8).toNat) = -2254 := by decide +kernel
theorem sgw_252_24 : Jvm.ClassFile.Reader.signed 16 ((252 : UInt8).toNat * 256 + (24 : UInt8).toNat) = -1000 := by decide +kernel
theorem sgw_255_106 : Jvm.ClassFile.Reader.signed 16 ((255 : UInt8).toNat * 256 + (106 : UInt8).toNat) = -150 := by decide +kernel
theorem sgw_255_112 : Jvm.ClassFile.Reader.signed 16 ((255 : UInt8).toNat * 256 + (112 : UInt8).toNat) = -144 := by decide +kernel
theorem sgw_255_125 : Jvm.ClassFile.Reader.signed 16 ((255 : UInt8).toNat * 256 + (125 : UInt8).toNat) = -131 := by decide +kernel
theorem sgw_255_135 : Jvm.ClassFile.Reader.signed 16 ((255 : UInt8).toNat * 256 + (135 : UInt8).toNat) = -121 := by decide +kernel
theorem sgw_255_141 : Jvm.ClassFile.Reader.signed 16 ((255 : UInt8).toNat * 256 + (141 : UInt8).toNat) = -115 := by decide +kernel
theorem sgw_255_144 : Jvm.ClassFile.Reader.signed 16 ((255 : UInt8).toNat * 256 + (144 : UInt8).toNat) = -112 := by decide +kernel
theorem sgw_255_146 : Jvm.ClassFile.Reader.signed 16 ((255 : UInt8).toNat * 256 + (146 : UInt8).toNat) = -110 := by decide +kernel
theorem sgw_255_149 : Jvm.ClassFile.Reader.signed 16 ((255 : UInt8).toNat * 256 + (149 : UInt8).toNat) = -107 := by decide +kernel
theorem sgw_255_152 : Jvm.ClassFile.Reader.signed 16 ((255 : UInt8).toNat * 256 + (152 : UInt8).toNat) = -104 := by decide +kernel
theorem sgw_255_153 : Jvm.ClassFile.Reader.signed 16 ((255 : UInt8).toNat * 256 + (153 : UInt8).toNat) = -103 := by decide +kernel
theorem sgw_255_154 : Jvm.ClassFile.Reader.signed 16 ((255 : UInt8).toNat * 256 + (154 : UInt8).toNat) = -102 := by decide +kernel
theorem sgw_255_156 : Jvm.ClassFile.Reader.signed 16 ((255 : UInt8).toNat * 256 + (156 : UInt8).toNat) = -100 := by decide +kernel
theorem sgw_255_161 : Jvm.ClassFile.Reader.signed 16 ((255 : UInt8).toNat * 256 + (161 : UInt8).toNat) = -95 := by decide +kernel
theorem sgw_255_163 : Jvm.ClassFile.Reader.signed 16 ((255 : UInt8).toNat * 256 + (163 : UInt8).toNat) = -93 := by decide +kernel
theorem sgw_255_164 : Jvm.ClassFile.Reader.signed 16 ((255 : UInt8).toNat * 256 + (164 : UInt8).toNat) = -92 := by decide +kernel
theorem sgw_255_166 : Jvm.ClassFile.Reader.signed 16 ((255 : UInt8).toNat * 256 + (166 : UInt8).toNat) = -90 := by decide +kernel
theorem sgw_255_175 : Jvm.ClassFile.Reader.signed 16 ((255 : UInt8).toNat * 256 + (175 : UInt8).toNat) = -81 := by decide +kernel
theorem sgw_255_177 : Jvm.ClassFile.Reader.signed 16 ((255 : UInt8).toNat * 256 + (177 : UInt8).toNat) = -79 := by decide +kernel
theorem sgw_255_179 : Jvm.ClassFile.Reader.signed 16 ((255 : UInt8).toNat * 256 + (179 : UInt8).toNat) = -77 := by decide +kernel
theorem sgw_255_180 : Jvm.ClassFile.Reader.signed 16 ((255 : UInt8).toNat * 256 + (180 : UInt8).toNat) = -76 := by decide +kernel
theorem sgw_255_181 : Jvm.ClassFile.Reader.signed 16 ((255 : UInt8).toNat * 256 + (181 : UInt8).toNat) = -75 := by decide +kernel
theorem sgw_255_182 : Jvm.ClassFile.Reader.signed 16 ((255 : UInt8).toNat * 256 + (182 : UInt8).toNat) = -74 := by decide +kernel
theorem sgw_255_183 : Jvm.ClassFile.Reader.signed 16 ((255 : UInt8).toNat * 256 + (183 : UInt8).toNat) = -73 := by decide +kernel
theorem sgw_255_184 : Jvm.ClassFile.Reader.signed 16 ((255 : UInt8).toNat * 256 + (184 : UInt8).toNat) = -72 := by decide +kernel
theorem sgw_255_186 : Jvm.ClassFile.Reader.signed 16 ((255 : UInt8).toNat * 256 + (186 : UInt8).toNat) = -70 := by decide +kernel
theorem sgw_255_187 : Jvm.ClassFile.Reader.signed 16 ((255 : UInt8).toNat * 256 + (187 : UInt8).toNat) = -69 := by decide +kernel
theorem sgw_255_191 : Jvm.ClassFile.Reader.signed 16 ((255 : UInt8).toNat * 256 + (191 : UInt8).toNat) = -65 := by decide +kernel
theorem sgw_255_193 : Jvm.ClassFile.Reader.signed 16 ((255 : UInt8).toNat * 256 + (193 : UInt8).toNat) = -63 := by decide +kernel
theorem sgw_255_194 : Jvm.ClassFile.Reader.signed 16 ((255 : UInt8).toNat * 256 + (194 : UInt8).toNat) = -62 := by decide +kernel
theorem sgw_255_195 : Jvm.ClassFile.Reader.signed 16 ((255 : UInt8).toNat * 256 + (195 : UInt8).toNat) = -61 := by decide +kernel
theorem sgw_255_196 : Jvm.ClassFile.Reader.signed 16 ((255 : UInt8).toNat * 256 + (196 : UInt8).toNat) = -60 := by decide +kernel
theorem sgw_255_197 : Jvm.ClassFile.Reader.signed 16 ((255 : UInt8).toNat * 256 + (197 : UInt8).toNat) = -59 := by decide +kernel
theorem sgw_255_198 : Jvm.ClassFile.Reader.signed 16 ((255 : UInt8).toNat * 256 + (198 : UInt8).toNat) = -58 := by decide +kernel
theorem sgw_255_199 : Jvm.ClassFile.Reader.signed 16 ((255 : UInt8).toNat * 256 + (199 : UInt8).toNat) = -57 := by decide +kernel
theorem sgw_255_200 : Jvm.ClassFile.Reader.signed 16 ((255 : UInt8).toNat * 256 + (200 : UInt8).toNat) = -56 := by decide +kernel
theorem sgw_255_201 : Jvm.ClassFile.Reader.signed 16 ((255 : UInt8).toNat * 256 + (201 : UInt8).toNat) = -55 := by decide +kernel
theorem sgw_255_202 : Jvm.ClassFile.Reader.signed 16 ((255 : UInt8).toNat * 256 + (202 : UInt8).toNat) = -54 := by decide +kernel
theorem sgw_255_203 : Jvm.ClassFile.Reader.signed 16 ((255 : UInt8).toNat * 256 + (203 : UInt8).toNat) = -53 := by decide +kernel
theorem sgw_255_205 : Jvm.ClassFile.Reader.signed 16 ((255 : UInt8).toNat * 256 + (205 : UInt8).toNat) = -51 := by decide +kernel
theorem sgw_255_206 : Jvm.ClassFile.Reader.signed 16 ((255 : UInt8).toNat * 256 + (206 : UInt8).toNat) = -50 := by decide +kernel
theorem sgw_255_207 : Jvm.ClassFile.Reader.signed 16 ((255 : UInt8).toNat * 256 + (207 : UInt8).toNat) = -49 := by decide +kernel
theorem sgw_255_208 : Jvm.ClassFile.Reader.signed 16 ((255 : UInt8).toNat * 256 + (208 : UInt8).toNat) = -48 := by decide +kernel
theorem sgw_255_209 : Jvm.ClassFile.Reader.signed 16 ((255 : UInt8).toNat * 256 + (209 : UInt8).toNat) = -47 := by decide +kernel
theorem sgw_255_210 : Jvm.ClassFile.Reader.signed 16 ((255 : UInt8).toNat * 256 + (210 : UInt8).toNat) = -46 := by decide +kernel
theorem sgw_255_211 : Jvm.ClassFile.Reader.signed 16 ((255 : UInt8).toNat * 256 + (211 : UInt8).toNat) = -45 := by decide +kernel
theorem sgw_255_213 : Jvm.ClassFile.Reader.signed 16 ((255 : UInt8).toNat * 256 + (213 : UInt8).toNat) = -43 := by decide +kernel
theorem sgw_255_214 : Jvm.ClassFile.Reader.signed 16 ((255 : UInt8).toNat * 256 + (214 : UInt8).toNat) = -42 := by decide +kernel
theorem sgw_255_215 : Jvm.ClassFile.Reader.signed 16 ((255 : UInt8).toNat * 256 + (215 : UInt8).toNat) = -41 := by decide +kernel
theorem sgw_255_217 : Jvm.ClassFile.Reader.signed 16 ((255 : UInt8).toNat * 256 + (217 : UInt8).toNat) = -39 := by decide +kernel
theorem sgw_255_218 : Jvm.ClassFile.Reader.signed 16 ((255 : UInt8).toNat * 256 + (218 : UInt8).toNat) = -38 := by decide +kernel
theorem sgw_255_219 : Jvm.ClassFile.Reader.signed 16 ((255 : UInt8).toNat * 256 + (219 : UInt8).toNat) = -37 := by decide +kernel
theorem sgw_255_220 : Jvm.ClassFile.Reader.signed 16 ((255 : UInt8).toNat * 256 + (220 : UInt8).toNat) = -36 := by decide +kernel
theorem sgw_255_221 : Jvm.ClassFile.Reader.signed 16 ((255 : UInt8).toNat * 256 + (221 : UInt8).toNat) = -35 := by decide +kernel
theorem sgw_255_222 : Jvm.ClassFile.Reader.signed 16 ((255 : UInt8).toNat * 256 + (222 : UInt8).toNat) = -34 := by decide +kernel
theorem sgw_255_223 : Jvm.ClassFile.Reader.signed 16 ((255 : UInt8).toNat * 256 + (223 : UInt8).toNat) = -33 := by decide +kernel
theorem sgw_255_224 : Jvm.ClassFile.Reader.signed 16 ((255 : UInt8).toNat * 256 + (224 : UInt8).toNat) = -32 := by decide +kernel
theorem sgw_255_225 : Jvm.ClassFile.Reader.signed 16 ((255 : UInt8).toNat * 256 + (225 : UInt8).toNat) = -31 := by decide +kernel
theorem sgw_255_226 : Jvm.ClassFile.Reader.signed 16 ((255 : UInt8).toNat * 256 + (226 : UInt8).toNat) = -30 := by decide +kernel
theorem sgw_255_227 : Jvm.ClassFile.Reader.signed 16 ((255 : UInt8).toNat * 256 + (227 : UInt8).toNat) = -29 := by decide +kernel
theorem sgw_255_228 : Jvm.ClassFile.Reader.signed 16 ((255 : UInt8).toNat * 256 + (228 : UInt8).toNat) = -28 := by decide +kernel
theorem sgw_255_229 : Jvm.ClassFile.Reader.signed 16 ((255 : UInt8).toNat * 256 + (229 : UInt8).toNat) = -27 := by decide +kernel
theorem sgw_255_230 : Jvm.ClassFile.Reader.signed 16 ((255 : UInt8).toNat * 256 + (230 : UInt8).toNat) = -26 := by decide +kernel
theorem sgw_255_232 : Jvm.ClassFile.Reader.signed 16 ((255 : UInt8).toNat * 256 + (232 : UInt8).toNat) = -24 := by decide +kernel
theorem sgw_255_233 : Jvm.ClassFile.Reader.signed 16 ((255 : UInt8).toNat * 256 + (233 : UInt8).toNat) = -23 := by decide +kernel
theorem sgw_255_234 : Jvm.ClassFile.Reader.signed 16 ((255 : UInt8).toNat * 256 + (234 : UInt8).toNat) = -22 := by decide +kernel
theorem sgw_255_235 : Jvm.ClassFile.Reader.signed 16 ((255 : UInt8).toNat * 256 + (235 : UInt8).toNat) = -21 := by decide +kernel
theorem sgw_255_238 : Jvm.ClassFile.Reader.signed 16 ((255 : UInt8).toNat * 256 + (238 : UInt8).toNat) = -18 := by decide +kernel
theorem sgw_255_239 : Jvm.ClassFile.Reader.signed 16 ((255 : UInt8).toNat * 256 + (239 : UInt8).toNat) = -17 := by decide +kernel
theorem sgw_255_241 : Jvm.ClassFile.Reader.signed 16 ((255 : UInt8).toNat * 256 + (241 : UInt8).toNat) = -15 := by decide +kernel
theorem sgw_255_244 : Jvm.ClassFile.Reader.signed 16 ((255 : UInt8).toNat * 256 + (244 : UInt8).toNat) = -12 := by decide +kernel
theorem sgw_255_40 : Jvm.ClassFile.Reader.signed 16 ((255 : UInt8).toNat * 256 + (40 : UInt8).toNat) = -216 := by decide +kernel
theorem sgw_255_41 : Jvm.ClassFile.Reader.signed 16 ((255 : UInt8).toNat * 256 + (41 : UInt8).toNat) = -215 := by decide +kernel
theorem sgw_255_78 : Jvm.ClassFile.Reader.signed 16 ((255 : UInt8).toNat * 256 + (78 : UInt8).toNat) = -178 := by decide +kernel
theorem sgw_2_101 : Jvm.ClassFile.Reader.signed 16 ((2 : UInt8).toNat * 256 + (101 : UInt8).toNat) = 613 := by decide +kernel
theorem sgw_2_154 : Jvm.ClassFile.Reader.signed 16 ((2 : UInt8).toNat * 256 + (154 : UInt8).toNat) = 666 := by decide +kernel
theorem sgw_2_197 : Jvm.ClassFile.Reader.signed 16 ((2 : UInt8).toNat * 256 + (197 : UInt8).toNat) = 709 := by decide +kernel
theorem sgw_2_22 : Jvm.ClassFile.Reader.signed 16 ((2 : UInt8).toNat * 256 + (22 : UInt8).toNat) = 534 := by decide +kernel
theorem sgw_2_35 : Jvm.ClassFile.Reader.signed 16 ((2 : UInt8).toNat * 256 + (35 : UInt8).toNat) = 547 := by decide +kernel
theorem sgw_2_68 : Jvm.ClassFile.Reader.signed 16 ((2 : UInt8).toNat * 256 + (68 : UInt8).toNat) = 580 := by decide +kernel
theorem sgw_39_16 : Jvm.ClassFile.Reader.signed 16 ((39 : UInt8).toNat * 256 + (16 : UInt8).toNat) = 10000 := by decide +kernel
theorem sgw_3_0 : Jvm.ClassFile.Reader.signed 16 ((3 : UInt8).toNat * 256 + (0 : UInt8).toNat) = 768 := by decide +kernel
theorem sgw_3_132 : Jvm.ClassFile.Reader.signed 16 ((3 : UInt8).toNat * 256 + (132 : UInt8).toNat) = 900 := by decide +kernel
theorem sgw_3_167 : Jvm.ClassFile.Reader.signed 16 ((3 : UInt8).toNat * 256 + (167 : UInt8).toNat) = 935 := by decide +kernel
theorem sgw_3_198 : Jvm.ClassFile.Reader.signed 16 ((3 : UInt8).toNat * 256 + (198 : UInt8).toNat) = 966 := by decide +kernel
theorem sgw_3_23 : Jvm.ClassFile.Reader.signed 16 ((3 : UInt8).toNat * 256 + (23 : UInt8).toNat) = 791 := by decide +kernel
theorem sgw_3_231 : Jvm.ClassFile.Reader.signed 16 ((3 : UInt8).toNat * 256 + (231 : UInt8).toNat) = 999 := by decide +kernel
theorem sgw_3_232 : Jvm.ClassFile.Reader.signed 16 ((3 : UInt8).toNat * 256 + (232 : UInt8).toNat) = 1000 := by decide +kernel
theorem sgw_3_56 : Jvm.ClassFile.Reader.signed 16 ((3 : UInt8).toNat * 256 + (56 : UInt8).toNat) = 824 := by decide +kernel
theorem sgw_3_99 : Jvm.ClassFile.Reader.signed 16 ((3 : UInt8).toNat * 256 + (99 : UInt8).toNat) = 867 := by decide +kernel
theorem sgw_4_130 : Jvm.ClassFile.Reader.signed 16 ((4 : UInt8).toNat * 256 + (130 : UInt8).toNat) = 1154 := by decide +kernel
theorem sgw_4_163 : Jvm.ClassFile.Reader.signed 16 ((4 : UInt8).toNat * 256 + (163 : UInt8).toNat) = 1187 := by decide +kernel
theorem sgw_4_176 : Jvm.ClassFile.Reader.signed 16 ((4 : UInt8).toNat * 256 + (176 : UInt8).toNat) = 1200 := by decide +kernel
theorem sgw_4_196 : Jvm.ClassFile.Reader.signed 16 ((4 : UInt8).toNat * 256 + (196 : UInt8).toNat) = 1220 := by decide +kernel
theorem sgw_4_229 : Jvm.ClassFile.Reader.signed 16 ((4 : UInt8).toNat * 256 + (229 : UInt8).toNat) = 1253 := by decide +kernel
theorem sgw_4_41 : Jvm.ClassFile.Reader.signed 16 ((4 : UInt8).toNat * 256 + (41 : UInt8).toNat) = 1065 := by decide +kernel
theorem sgw_4_64 : Jvm.ClassFile.Reader.signed 16 ((4 : UInt8).toNat * 256 + (64 : UInt8).toNat) = 1088 := by decide +kernel
theorem sgw_4_8 : Jvm.ClassFile.Reader.signed 16 ((4 : UInt8).toNat * 256 + (8 : UInt8).toNat) = 1032 := by decide +kernel
theorem sgw_4_97 : Jvm.ClassFile.Reader.signed 16 ((4 : UInt8).toNat * 256 + (97 : UInt8).toNat) = 1121 := by decide +kernel
theorem sgw_5_125 : Jvm.ClassFile.Reader.signed 16 ((5 : UInt8).toNat * 256 + (125 : UInt8).toNat) = 1405 := by decide +kernel
theorem sgw_5_138 : Jvm.ClassFile.Reader.signed 16 ((5 : UInt8).toNat * 256 + (138 : UInt8).toNat) = 1418 := by decide +kernel
theorem sgw_5_16 : Jvm.ClassFile.Reader.signed 16 ((5 : UInt8).toNat * 256 + (16 : UInt8).toNat) = 1296 := by decide +kernel
theorem sgw_5_171 : Jvm.ClassFile.Reader.signed 16 ((5 : UInt8).toNat * 256 + (171 : UInt8).toNat) = 1451 := by decide +kernel
theorem sgw_5_194 : Jvm.ClassFile.Reader.signed 16 ((5 : UInt8).toNat * 256 + (194 : UInt8).toNat) = 1474 := by decide +kernel
theorem sgw_5_217 : Jvm.ClassFile.Reader.signed 16 ((5 : UInt8).toNat * 256 + (217 : UInt8).toNat) = 1497 := by decide +kernel
theorem sgw_5_49 : Jvm.ClassFile.Reader.signed 16 ((5 : UInt8).toNat * 256 + (49 : UInt8).toNat) = 1329 := by decide +kernel
theorem sgw_5_72 : Jvm.ClassFile.Reader.signed 16 ((5 : UInt8).toNat * 256 + (72 : UInt8).toNat) = 1352 := by decide +kernel
theorem sgw_6_116 : Jvm.ClassFile.Reader.signed 16 ((6 : UInt8).toNat * 256 + (116 : UInt8).toNat) = 1652 := by decide +kernel
theorem sgw_6_149 : Jvm.ClassFile.Reader.signed 16 ((6 : UInt8).toNat * 256 + (149 : UInt8).toNat) = 1685 := by decide +kernel
theorem sgw_6_172 : Jvm.ClassFile.Reader.signed 16 ((6 : UInt8).toNat * 256 + (172 : UInt8).toNat) = 1708 := by decide +kernel
theorem sgw_6_205 : Jvm.ClassFile.Reader.signed 16 ((6 : UInt8).toNat * 256 + (205 : UInt8).toNat) = 1741 := by decide +kernel
theorem sgw_6_37 : Jvm.ClassFile.Reader.signed 16 ((6 : UInt8).toNat * 256 + (37 : UInt8).toNat) = 1573 := by decide +kernel
theorem sgw_6_4 : Jvm.ClassFile.Reader.signed 16 ((6 : UInt8).toNat * 256 + (4 : UInt8).toNat) = 1540 := by decide +kernel
theorem sgw_6_60 : Jvm.ClassFile.Reader.signed 16 ((6 : UInt8).toNat * 256 + (60 : UInt8).toNat) = 1596 := by decide +kernel
theorem sgw_6_93 : Jvm.ClassFile.Reader.signed 16 ((6 : UInt8).toNat * 256 + (93 : UInt8).toNat) = 1629 := by decide +kernel
theorem sgw_7_12 : Jvm.ClassFile.Reader.signed 16 ((7 : UInt8).toNat * 256 + (12 : UInt8).toNat) = 1804 := by decide +kernel
theorem sgw_7_120 : Jvm.ClassFile.Reader.signed 16 ((7 : UInt8).toNat * 256 + (120 : UInt8).toNat) = 1912 := by decide +kernel
theorem sgw_7_173 : Jvm.ClassFile.Reader.signed 16 ((7 : UInt8).toNat * 256 + (173 : UInt8).toNat) = 1965 := by decide +kernel
theorem sgw_7_188 : Jvm.ClassFile.Reader.signed 16 ((7 : UInt8).toNat * 256 + (188 : UInt8).toNat) = 1980 := by decide +kernel
theorem sgw_7_208 : Jvm.ClassFile.Reader.signed 16 ((7 : UInt8).toNat * 256 + (208 : UInt8).toNat) = 2000 := by decide +kernel
theorem sgw_7_87 : Jvm.ClassFile.Reader.signed 16 ((7 : UInt8).toNat * 256 + (87 : UInt8).toNat) = 1879 := by decide +kernel
theorem sgw_8_0 : Jvm.ClassFile.Reader.signed 16 ((8 : UInt8).toNat * 256 + (0 : UInt8).toNat) = 2048 := by decide +kernel
theorem sgw_8_203 : Jvm.ClassFile.Reader.signed 16 ((8 : UInt8).toNat * 256 + (203 : UInt8).toNat) = 2251 := by decide +kernel
