theorem u1_at {c : ByteArray} {p : Nat} {x : UInt8} {r : List UInt8} (h : c.data.toList.drop p = x :: r) : (Jvm.ClassFile.Reader.u1 : Jvm.ClassFile.Decoder Nat) c p = .ok (x.toNat, p + 1) := by
  have hl : p < c.data.toList.length := by
    refine Classical.byContradiction fun q => ?_
    rw [List.drop_eq_nil_of_le (by omega)] at h
    cases h
  have hs : p < c.size := hl
  have hx : c[p] = x := by
    have e := List.drop_eq_getElem_cons hl
    rw [h] at e
    exact (List.cons.inj e).1.symm
  have e : ∀ (d : Decidable (p < c.size)), (@dite (Jvm.ClassFile.Decoder Nat) (p < c.size) d (fun _ => do set (p + 1); pure c[p].toNat) (fun _ => throw (Jvm.ClassFile.HasTruncated.truncated p))) c p = .ok (c[p].toNat, p + 1) := fun d => by
    cases d with
    | isTrue q => rfl
    | isFalse q => exact absurd hs q
  rw [← hx]
  exact e _
theorem rbd {α β : Type} {x : Jvm.ClassFile.Decoder α} {f : α → Jvm.ClassFile.Decoder β} {c : ByteArray} {p q : Nat} {a : α} (h : x c p = .ok (a, q)) : (x >>= f) c p = f a c q := by
  show Except.bind (x c p) _ = _
  rw [h]
  rfl
theorem rmd {α β : Type} {x : Jvm.ClassFile.Decoder α} {f : α → β} {c : ByteArray} {p q : Nat} {a : α} (h : x c p = .ok (a, q)) : (f <$> x) c p = .ok (f a, q) := by
  show Except.bind (x c p) _ = _
  rw [h]
  rfl
theorem u2_at {c : ByteArray} {p q q2 a b : Nat} (h0 : (Jvm.ClassFile.Reader.u1 : Jvm.ClassFile.Decoder Nat) c p = .ok (a, q)) (h1 : (Jvm.ClassFile.Reader.u1 : Jvm.ClassFile.Decoder Nat) c q = .ok (b, q2)) : (Jvm.ClassFile.Reader.u2 : Jvm.ClassFile.Decoder Nat) c p = .ok (a * 256 + b, q2) := (rbd h0).trans ((rbd h1).trans rfl)
theorem s1_at {c : ByteArray} {p q a : Nat} (h : (Jvm.ClassFile.Reader.u1 : Jvm.ClassFile.Decoder Nat) c p = .ok (a, q)) : (Jvm.ClassFile.Reader.s1 : Jvm.ClassFile.Decoder Int) c p = .ok (Jvm.ClassFile.Reader.signed 8 a, q) := rmd h
theorem s2_at {c : ByteArray} {p q a : Nat} (h : (Jvm.ClassFile.Reader.u2 : Jvm.ClassFile.Decoder Nat) c p = .ok (a, q)) : (Jvm.ClassFile.Reader.s2 : Jvm.ClassFile.Decoder Int) c p = .ok (Jvm.ClassFile.Reader.signed 16 a, q) := rmd h
theorem dcd {c : ByteArray} {p n : Nat} {i : Instr} (h : (Jvm.ClassFile.Decoder.instr p) c p = .ok (i, p + n)) : decode c p = .ok (i, n) := by
  show Except.bind ((Jvm.ClassFile.Decoder.instr p) c p) _ = _
  rw [h]
  show Except.ok (i, p + n - p) = Except.ok (i, n)
  rw [Nat.add_sub_cancel_left]
theorem dS {c : ByteArray} {p : Nat} {x : UInt8} {r : List UInt8} (h : c.data.toList.drop p = x :: r) : c.data.toList.drop (p + 1) = r := by
  rw [← List.tail_drop, h]
  rfl
theorem dSn {c : ByteArray} {p : Nat} {l : List UInt8} (k : Nat) (h : c.data.toList.drop p = l) : c.data.toList.drop (p + k) = l.drop k := by
  rw [← h, List.drop_drop]
theorem oc_1 {c : ByteArray} (p : Nat) {r : List UInt8} (h : c.data.toList.drop p = 1 :: r) : decode c p = .ok (.aconst_null, 1) := dcd (n := 1) ((rbd (u1_at h)).trans (rfl))
theorem oc_2 {c : ByteArray} (p : Nat) {r : List UInt8} (h : c.data.toList.drop p = 2 :: r) : decode c p = .ok (.iconst (-1), 1) := dcd (n := 1) ((rbd (u1_at h)).trans (rfl))
theorem oc_3 {c : ByteArray} (p : Nat) {r : List UInt8} (h : c.data.toList.drop p = 3 :: r) : decode c p = .ok (.iconst 0, 1) := dcd (n := 1) ((rbd (u1_at h)).trans (rfl))
theorem oc_4 {c : ByteArray} (p : Nat) {r : List UInt8} (h : c.data.toList.drop p = 4 :: r) : decode c p = .ok (.iconst 1, 1) := dcd (n := 1) ((rbd (u1_at h)).trans (rfl))
theorem oc_5 {c : ByteArray} (p : Nat) {r : List UInt8} (h : c.data.toList.drop p = 5 :: r) : decode c p = .ok (.iconst 2, 1) := dcd (n := 1) ((rbd (u1_at h)).trans (rfl))
theorem oc_6 {c : ByteArray} (p : Nat) {r : List UInt8} (h : c.data.toList.drop p = 6 :: r) : decode c p = .ok (.iconst 3, 1) := dcd (n := 1) ((rbd (u1_at h)).trans (rfl))
theorem oc_7 {c : ByteArray} (p : Nat) {r : List UInt8} (h : c.data.toList.drop p = 7 :: r) : decode c p = .ok (.iconst 4, 1) := dcd (n := 1) ((rbd (u1_at h)).trans (rfl))
theorem oc_8 {c : ByteArray} (p : Nat) {r : List UInt8} (h : c.data.toList.drop p = 8 :: r) : decode c p = .ok (.iconst 5, 1) := dcd (n := 1) ((rbd (u1_at h)).trans (rfl))
theorem oc_9 {c : ByteArray} (p : Nat) {r : List UInt8} (h : c.data.toList.drop p = 9 :: r) : decode c p = .ok (.lconst 0, 1) := dcd (n := 1) ((rbd (u1_at h)).trans (rfl))
theorem oc_10 {c : ByteArray} (p : Nat) {r : List UInt8} (h : c.data.toList.drop p = 10 :: r) : decode c p = .ok (.lconst 1, 1) := dcd (n := 1) ((rbd (u1_at h)).trans (rfl))
theorem oc_16 {c : ByteArray} (p : Nat) {b : UInt8} {z : Int} {r : List UInt8} (h : c.data.toList.drop p = 16 :: b :: r) (e : Jvm.ClassFile.Reader.signed 8 b.toNat = z) : decode c p = .ok (.bipush z, 2) := dcd (n := 2) ((rbd (u1_at h)).trans ((rbd (s1_at (u1_at (dS h)))).trans (congrArg (fun x => Except.ok (Instr.bipush x, p + 1 + 1)) e)))
theorem oc_17 {c : ByteArray} (p : Nat) {b b2 : UInt8} {z : Int} {r : List UInt8} (h : c.data.toList.drop p = 17 :: b :: b2 :: r) (e : Jvm.ClassFile.Reader.signed 16 (b.toNat * 256 + b2.toNat) = z) : decode c p = .ok (.sipush z, 3) := dcd (n := 3) ((rbd (u1_at h)).trans ((rbd (s2_at (u2_at (u1_at (dS h)) (u1_at (dS (dS h)))))).trans (congrArg (fun x => Except.ok (Instr.sipush x, p + 1 + 1 + 1)) e)))
theorem oc_18 {c : ByteArray} (p : Nat) {b : UInt8} {n9 : Nat} {r : List UInt8} (h : c.data.toList.drop p = 18 :: b :: r) (e : b.toNat = n9) : decode c p = .ok (.ldc n9, 2) := dcd (n := 2) ((rbd (u1_at h)).trans ((rbd (u1_at (dS h))).trans (congrArg (fun x => Except.ok (Instr.ldc x, p + 1 + 1)) e)))
theorem oc_19 {c : ByteArray} (p : Nat) {b b2 : UInt8} {n9 : Nat} {r : List UInt8} (h : c.data.toList.drop p = 19 :: b :: b2 :: r) (e : b.toNat * 256 + b2.toNat = n9) : decode c p = .ok (.ldc_w n9, 3) := dcd (n := 3) ((rbd (u1_at h)).trans ((rbd (u2_at (u1_at (dS h)) (u1_at (dS (dS h))))).trans (congrArg (fun x => Except.ok (Instr.ldc_w x, p + 1 + 1 + 1)) e)))
theorem oc_20 {c : ByteArray} (p : Nat) {b b2 : UInt8} {n9 : Nat} {r : List UInt8} (h : c.data.toList.drop p = 20 :: b :: b2 :: r) (e : b.toNat * 256 + b2.toNat = n9) : decode c p = .ok (.ldc2_w n9, 3) := dcd (n := 3) ((rbd (u1_at h)).trans ((rbd (u2_at (u1_at (dS h)) (u1_at (dS (dS h))))).trans (congrArg (fun x => Except.ok (Instr.ldc2_w x, p + 1 + 1 + 1)) e)))
theorem oc_21 {c : ByteArray} (p : Nat) {b : UInt8} {n9 : Nat} {r : List UInt8} (h : c.data.toList.drop p = 21 :: b :: r) (e : b.toNat = n9) : decode c p = .ok (.iload n9, 2) := dcd (n := 2) ((rbd (u1_at h)).trans ((rbd (u1_at (dS h))).trans (congrArg (fun x => Except.ok (Instr.iload x, p + 1 + 1)) e)))
theorem oc_22 {c : ByteArray} (p : Nat) {b : UInt8} {n9 : Nat} {r : List UInt8} (h : c.data.toList.drop p = 22 :: b :: r) (e : b.toNat = n9) : decode c p = .ok (.lload n9, 2) := dcd (n := 2) ((rbd (u1_at h)).trans ((rbd (u1_at (dS h))).trans (congrArg (fun x => Except.ok (Instr.lload x, p + 1 + 1)) e)))
theorem oc_25 {c : ByteArray} (p : Nat) {b : UInt8} {n9 : Nat} {r : List UInt8} (h : c.data.toList.drop p = 25 :: b :: r) (e : b.toNat = n9) : decode c p = .ok (.aload n9, 2) := dcd (n := 2) ((rbd (u1_at h)).trans ((rbd (u1_at (dS h))).trans (congrArg (fun x => Except.ok (Instr.aload x, p + 1 + 1)) e)))
theorem oc_26 {c : ByteArray} (p : Nat) {r : List UInt8} (h : c.data.toList.drop p = 26 :: r) : decode c p = .ok (.iload_n 0, 1) := dcd (n := 1) ((rbd (u1_at h)).trans (rfl))
theorem oc_27 {c : ByteArray} (p : Nat) {r : List UInt8} (h : c.data.toList.drop p = 27 :: r) : decode c p = .ok (.iload_n 1, 1) := dcd (n := 1) ((rbd (u1_at h)).trans (rfl))
theorem oc_28 {c : ByteArray} (p : Nat) {r : List UInt8} (h : c.data.toList.drop p = 28 :: r) : decode c p = .ok (.iload_n 2, 1) := dcd (n := 1) ((rbd (u1_at h)).trans (rfl))
theorem oc_29 {c : ByteArray} (p : Nat) {r : List UInt8} (h : c.data.toList.drop p = 29 :: r) : decode c p = .ok (.iload_n 3, 1) := dcd (n := 1) ((rbd (u1_at h)).trans (rfl))
theorem oc_30 {c : ByteArray} (p : Nat) {r : List UInt8} (h : c.data.toList.drop p = 30 :: r) : decode c p = .ok (.lload_n 0, 1) := dcd (n := 1) ((rbd (u1_at h)).trans (rfl))
theorem oc_32 {c : ByteArray} (p : Nat) {r : List UInt8} (h : c.data.toList.drop p = 32 :: r) : decode c p = .ok (.lload_n 2, 1) := dcd (n := 1) ((rbd (u1_at h)).trans (rfl))
theorem oc_42 {c : ByteArray} (p : Nat) {r : List UInt8} (h : c.data.toList.drop p = 42 :: r) : decode c p = .ok (.aload_n 0, 1) := dcd (n := 1) ((rbd (u1_at h)).trans (rfl))
theorem oc_43 {c : ByteArray} (p : Nat) {r : List UInt8} (h : c.data.toList.drop p = 43 :: r) : decode c p = .ok (.aload_n 1, 1) := dcd (n := 1) ((rbd (u1_at h)).trans (rfl))
theorem oc_44 {c : ByteArray} (p : Nat) {r : List UInt8} (h : c.data.toList.drop p = 44 :: r) : decode c p = .ok (.aload_n 2, 1) := dcd (n := 1) ((rbd (u1_at h)).trans (rfl))
theorem oc_45 {c : ByteArray} (p : Nat) {r : List UInt8} (h : c.data.toList.drop p = 45 :: r) : decode c p = .ok (.aload_n 3, 1) := dcd (n := 1) ((rbd (u1_at h)).trans (rfl))
theorem oc_46 {c : ByteArray} (p : Nat) {r : List UInt8} (h : c.data.toList.drop p = 46 :: r) : decode c p = .ok (.iaload, 1) := dcd (n := 1) ((rbd (u1_at h)).trans (rfl))
theorem oc_50 {c : ByteArray} (p : Nat) {r : List UInt8} (h : c.data.toList.drop p = 50 :: r) : decode c p = .ok (.aaload, 1) := dcd (n := 1) ((rbd (u1_at h)).trans (rfl))
theorem oc_51 {c : ByteArray} (p : Nat) {r : List UInt8} (h : c.data.toList.drop p = 51 :: r) : decode c p = .ok (.baload, 1) := dcd (n := 1) ((rbd (u1_at h)).trans (rfl))
theorem oc_54 {c : ByteArray} (p : Nat) {b : UInt8} {n9 : Nat} {r : List UInt8} (h : c.data.toList.drop p = 54 :: b :: r) (e : b.toNat = n9) : decode c p = .ok (.istore n9, 2) := dcd (n := 2) ((rbd (u1_at h)).trans ((rbd (u1_at (dS h))).trans (congrArg (fun x => Except.ok (Instr.istore x, p + 1 + 1)) e)))
theorem oc_55 {c : ByteArray} (p : Nat) {b : UInt8} {n9 : Nat} {r : List UInt8} (h : c.data.toList.drop p = 55 :: b :: r) (e : b.toNat = n9) : decode c p = .ok (.lstore n9, 2) := dcd (n := 2) ((rbd (u1_at h)).trans ((rbd (u1_at (dS h))).trans (congrArg (fun x => Except.ok (Instr.lstore x, p + 1 + 1)) e)))
theorem oc_58 {c : ByteArray} (p : Nat) {b : UInt8} {n9 : Nat} {r : List UInt8} (h : c.data.toList.drop p = 58 :: b :: r) (e : b.toNat = n9) : decode c p = .ok (.astore n9, 2) := dcd (n := 2) ((rbd (u1_at h)).trans ((rbd (u1_at (dS h))).trans (congrArg (fun x => Except.ok (Instr.astore x, p + 1 + 1)) e)))
theorem oc_60 {c : ByteArray} (p : Nat) {r : List UInt8} (h : c.data.toList.drop p = 60 :: r) : decode c p = .ok (.istore_n 1, 1) := dcd (n := 1) ((rbd (u1_at h)).trans (rfl))
theorem oc_61 {c : ByteArray} (p : Nat) {r : List UInt8} (h : c.data.toList.drop p = 61 :: r) : decode c p = .ok (.istore_n 2, 1) := dcd (n := 1) ((rbd (u1_at h)).trans (rfl))
theorem oc_62 {c : ByteArray} (p : Nat) {r : List UInt8} (h : c.data.toList.drop p = 62 :: r) : decode c p = .ok (.istore_n 3, 1) := dcd (n := 1) ((rbd (u1_at h)).trans (rfl))
theorem oc_63 {c : ByteArray} (p : Nat) {r : List UInt8} (h : c.data.toList.drop p = 63 :: r) : decode c p = .ok (.lstore_n 0, 1) := dcd (n := 1) ((rbd (u1_at h)).trans (rfl))
theorem oc_65 {c : ByteArray} (p : Nat) {r : List UInt8} (h : c.data.toList.drop p = 65 :: r) : decode c p = .ok (.lstore_n 2, 1) := dcd (n := 1) ((rbd (u1_at h)).trans (rfl))
theorem oc_76 {c : ByteArray} (p : Nat) {r : List UInt8} (h : c.data.toList.drop p = 76 :: r) : decode c p = .ok (.astore_n 1, 1) := dcd (n := 1) ((rbd (u1_at h)).trans (rfl))
theorem oc_77 {c : ByteArray} (p : Nat) {r : List UInt8} (h : c.data.toList.drop p = 77 :: r) : decode c p = .ok (.astore_n 2, 1) := dcd (n := 1) ((rbd (u1_at h)).trans (rfl))
theorem oc_78 {c : ByteArray} (p : Nat) {r : List UInt8} (h : c.data.toList.drop p = 78 :: r) : decode c p = .ok (.astore_n 3, 1) := dcd (n := 1) ((rbd (u1_at h)).trans (rfl))
theorem oc_79 {c : ByteArray} (p : Nat) {r : List UInt8} (h : c.data.toList.drop p = 79 :: r) : decode c p = .ok (.iastore, 1) := dcd (n := 1) ((rbd (u1_at h)).trans (rfl))
theorem oc_83 {c : ByteArray} (p : Nat) {r : List UInt8} (h : c.data.toList.drop p = 83 :: r) : decode c p = .ok (.aastore, 1) := dcd (n := 1) ((rbd (u1_at h)).trans (rfl))
theorem oc_84 {c : ByteArray} (p : Nat) {r : List UInt8} (h : c.data.toList.drop p = 84 :: r) : decode c p = .ok (.bastore, 1) := dcd (n := 1) ((rbd (u1_at h)).trans (rfl))
theorem oc_87 {c : ByteArray} (p : Nat) {r : List UInt8} (h : c.data.toList.drop p = 87 :: r) : decode c p = .ok (.pop, 1) := dcd (n := 1) ((rbd (u1_at h)).trans (rfl))
theorem oc_88 {c : ByteArray} (p : Nat) {r : List UInt8} (h : c.data.toList.drop p = 88 :: r) : decode c p = .ok (.pop2, 1) := dcd (n := 1) ((rbd (u1_at h)).trans (rfl))
theorem oc_89 {c : ByteArray} (p : Nat) {r : List UInt8} (h : c.data.toList.drop p = 89 :: r) : decode c p = .ok (.dup, 1) := dcd (n := 1) ((rbd (u1_at h)).trans (rfl))
theorem oc_90 {c : ByteArray} (p : Nat) {r : List UInt8} (h : c.data.toList.drop p = 90 :: r) : decode c p = .ok (.dup_x1, 1) := dcd (n := 1) ((rbd (u1_at h)).trans (rfl))
theorem oc_96 {c : ByteArray} (p : Nat) {r : List UInt8} (h : c.data.toList.drop p = 96 :: r) : decode c p = .ok (.iadd, 1) := dcd (n := 1) ((rbd (u1_at h)).trans (rfl))
theorem oc_97 {c : ByteArray} (p : Nat) {r : List UInt8} (h : c.data.toList.drop p = 97 :: r) : decode c p = .ok (.ladd, 1) := dcd (n := 1) ((rbd (u1_at h)).trans (rfl))
theorem oc_100 {c : ByteArray} (p : Nat) {r : List UInt8} (h : c.data.toList.drop p = 100 :: r) : decode c p = .ok (.isub, 1) := dcd (n := 1) ((rbd (u1_at h)).trans (rfl))
theorem oc_104 {c : ByteArray} (p : Nat) {r : List UInt8} (h : c.data.toList.drop p = 104 :: r) : decode c p = .ok (.imul, 1) := dcd (n := 1) ((rbd (u1_at h)).trans (rfl))
theorem oc_105 {c : ByteArray} (p : Nat) {r : List UInt8} (h : c.data.toList.drop p = 105 :: r) : decode c p = .ok (.lmul, 1) := dcd (n := 1) ((rbd (u1_at h)).trans (rfl))
theorem oc_108 {c : ByteArray} (p : Nat) {r : List UInt8} (h : c.data.toList.drop p = 108 :: r) : decode c p = .ok (.idiv, 1) := dcd (n := 1) ((rbd (u1_at h)).trans (rfl))
theorem oc_109 {c : ByteArray} (p : Nat) {r : List UInt8} (h : c.data.toList.drop p = 109 :: r) : decode c p = .ok (.ldiv, 1) := dcd (n := 1) ((rbd (u1_at h)).trans (rfl))
theorem oc_112 {c : ByteArray} (p : Nat) {r : List UInt8} (h : c.data.toList.drop p = 112 :: r) : decode c p = .ok (.irem, 1) := dcd (n := 1) ((rbd (u1_at h)).trans (rfl))
theorem oc_113 {c : ByteArray} (p : Nat) {r : List UInt8} (h : c.data.toList.drop p = 113 :: r) : decode c p = .ok (.lrem, 1) := dcd (n := 1) ((rbd (u1_at h)).trans (rfl))
theorem oc_116 {c : ByteArray} (p : Nat) {r : List UInt8} (h : c.data.toList.drop p = 116 :: r) : decode c p = .ok (.ineg, 1) := dcd (n := 1) ((rbd (u1_at h)).trans (rfl))
theorem oc_120 {c : ByteArray} (p : Nat) {r : List UInt8} (h : c.data.toList.drop p = 120 :: r) : decode c p = .ok (.ishl, 1) := dcd (n := 1) ((rbd (u1_at h)).trans (rfl))
theorem oc_122 {c : ByteArray} (p : Nat) {r : List UInt8} (h : c.data.toList.drop p = 122 :: r) : decode c p = .ok (.ishr, 1) := dcd (n := 1) ((rbd (u1_at h)).trans (rfl))
theorem oc_126 {c : ByteArray} (p : Nat) {r : List UInt8} (h : c.data.toList.drop p = 126 :: r) : decode c p = .ok (.iand, 1) := dcd (n := 1) ((rbd (u1_at h)).trans (rfl))
theorem oc_128 {c : ByteArray} (p : Nat) {r : List UInt8} (h : c.data.toList.drop p = 128 :: r) : decode c p = .ok (.ior, 1) := dcd (n := 1) ((rbd (u1_at h)).trans (rfl))
theorem oc_130 {c : ByteArray} (p : Nat) {r : List UInt8} (h : c.data.toList.drop p = 130 :: r) : decode c p = .ok (.ixor, 1) := dcd (n := 1) ((rbd (u1_at h)).trans (rfl))
theorem oc_132 {c : ByteArray} (p : Nat) {b b2 : UInt8} {z : Int} {n9 : Nat} {r : List UInt8} (h : c.data.toList.drop p = 132 :: b :: b2 :: r) (e0 : b.toNat = n9) (e : Jvm.ClassFile.Reader.signed 8 b2.toNat = z) : decode c p = .ok (.iinc n9 z, 3) := by
  subst e0
  exact dcd (n := 3) ((rbd (u1_at h)).trans ((rbd (u1_at (dS h))).trans ((rbd (s1_at (u1_at (dS (dS h))))).trans (congrArg (fun x => Except.ok (Instr.iinc b.toNat x, p + 1 + 1 + 1)) e))))
theorem oc_133 {c : ByteArray} (p : Nat) {r : List UInt8} (h : c.data.toList.drop p = 133 :: r) : decode c p = .ok (.i2l, 1) := dcd (n := 1) ((rbd (u1_at h)).trans (rfl))
theorem oc_145 {c : ByteArray} (p : Nat) {r : List UInt8} (h : c.data.toList.drop p = 145 :: r) : decode c p = .ok (.i2b, 1) := dcd (n := 1) ((rbd (u1_at h)).trans (rfl))
theorem oc_146 {c : ByteArray} (p : Nat) {r : List UInt8} (h : c.data.toList.drop p = 146 :: r) : decode c p = .ok (.i2c, 1) := dcd (n := 1) ((rbd (u1_at h)).trans (rfl))
theorem oc_148 {c : ByteArray} (p : Nat) {r : List UInt8} (h : c.data.toList.drop p = 148 :: r) : decode c p = .ok (.lcmp, 1) := dcd (n := 1) ((rbd (u1_at h)).trans (rfl))
theorem oc_153 {c : ByteArray} (p : Nat) {b b2 : UInt8} {z : Int} {r : List UInt8} (h : c.data.toList.drop p = 153 :: b :: b2 :: r) (e : Jvm.ClassFile.Reader.signed 16 (b.toNat * 256 + b2.toNat) = z) : decode c p = .ok (.ifCond .eq z, 3) := dcd (n := 3) ((rbd (u1_at h)).trans ((rbd (s2_at (u2_at (u1_at (dS h)) (u1_at (dS (dS h)))))).trans (congrArg (fun x => Except.ok (Instr.ifCond .eq x, p + 1 + 1 + 1)) e)))
theorem oc_154 {c : ByteArray} (p : Nat) {b b2 : UInt8} {z : Int} {r : List UInt8} (h : c.data.toList.drop p = 154 :: b :: b2 :: r) (e : Jvm.ClassFile.Reader.signed 16 (b.toNat * 256 + b2.toNat) = z) : decode c p = .ok (.ifCond .ne z, 3) := dcd (n := 3) ((rbd (u1_at h)).trans ((rbd (s2_at (u2_at (u1_at (dS h)) (u1_at (dS (dS h)))))).trans (congrArg (fun x => Except.ok (Instr.ifCond .ne x, p + 1 + 1 + 1)) e)))
theorem oc_155 {c : ByteArray} (p : Nat) {b b2 : UInt8} {z : Int} {r : List UInt8} (h : c.data.toList.drop p = 155 :: b :: b2 :: r) (e : Jvm.ClassFile.Reader.signed 16 (b.toNat * 256 + b2.toNat) = z) : decode c p = .ok (.ifCond .lt z, 3) := dcd (n := 3) ((rbd (u1_at h)).trans ((rbd (s2_at (u2_at (u1_at (dS h)) (u1_at (dS (dS h)))))).trans (congrArg (fun x => Except.ok (Instr.ifCond .lt x, p + 1 + 1 + 1)) e)))
theorem oc_156 {c : ByteArray} (p : Nat) {b b2 : UInt8} {z : Int} {r : List UInt8} (h : c.data.toList.drop p = 156 :: b :: b2 :: r) (e : Jvm.ClassFile.Reader.signed 16 (b.toNat * 256 + b2.toNat) = z) : decode c p = .ok (.ifCond .ge z, 3) := dcd (n := 3) ((rbd (u1_at h)).trans ((rbd (s2_at (u2_at (u1_at (dS h)) (u1_at (dS (dS h)))))).trans (congrArg (fun x => Except.ok (Instr.ifCond .ge x, p + 1 + 1 + 1)) e)))
theorem oc_157 {c : ByteArray} (p : Nat) {b b2 : UInt8} {z : Int} {r : List UInt8} (h : c.data.toList.drop p = 157 :: b :: b2 :: r) (e : Jvm.ClassFile.Reader.signed 16 (b.toNat * 256 + b2.toNat) = z) : decode c p = .ok (.ifCond .gt z, 3) := dcd (n := 3) ((rbd (u1_at h)).trans ((rbd (s2_at (u2_at (u1_at (dS h)) (u1_at (dS (dS h)))))).trans (congrArg (fun x => Except.ok (Instr.ifCond .gt x, p + 1 + 1 + 1)) e)))
theorem oc_158 {c : ByteArray} (p : Nat) {b b2 : UInt8} {z : Int} {r : List UInt8} (h : c.data.toList.drop p = 158 :: b :: b2 :: r) (e : Jvm.ClassFile.Reader.signed 16 (b.toNat * 256 + b2.toNat) = z) : decode c p = .ok (.ifCond .le z, 3) := dcd (n := 3) ((rbd (u1_at h)).trans ((rbd (s2_at (u2_at (u1_at (dS h)) (u1_at (dS (dS h)))))).trans (congrArg (fun x => Except.ok (Instr.ifCond .le x, p + 1 + 1 + 1)) e)))
theorem oc_159 {c : ByteArray} (p : Nat) {b b2 : UInt8} {z : Int} {r : List UInt8} (h : c.data.toList.drop p = 159 :: b :: b2 :: r) (e : Jvm.ClassFile.Reader.signed 16 (b.toNat * 256 + b2.toNat) = z) : decode c p = .ok (.if_icmp .eq z, 3) := dcd (n := 3) ((rbd (u1_at h)).trans ((rbd (s2_at (u2_at (u1_at (dS h)) (u1_at (dS (dS h)))))).trans (congrArg (fun x => Except.ok (Instr.if_icmp .eq x, p + 1 + 1 + 1)) e)))
theorem oc_160 {c : ByteArray} (p : Nat) {b b2 : UInt8} {z : Int} {r : List UInt8} (h : c.data.toList.drop p = 160 :: b :: b2 :: r) (e : Jvm.ClassFile.Reader.signed 16 (b.toNat * 256 + b2.toNat) = z) : decode c p = .ok (.if_icmp .ne z, 3) := dcd (n := 3) ((rbd (u1_at h)).trans ((rbd (s2_at (u2_at (u1_at (dS h)) (u1_at (dS (dS h)))))).trans (congrArg (fun x => Except.ok (Instr.if_icmp .ne x, p + 1 + 1 + 1)) e)))
theorem oc_161 {c : ByteArray} (p : Nat) {b b2 : UInt8} {z : Int} {r : List UInt8} (h : c.data.toList.drop p = 161 :: b :: b2 :: r) (e : Jvm.ClassFile.Reader.signed 16 (b.toNat * 256 + b2.toNat) = z) : decode c p = .ok (.if_icmp .lt z, 3) := dcd (n := 3) ((rbd (u1_at h)).trans ((rbd (s2_at (u2_at (u1_at (dS h)) (u1_at (dS (dS h)))))).trans (congrArg (fun x => Except.ok (Instr.if_icmp .lt x, p + 1 + 1 + 1)) e)))
theorem oc_162 {c : ByteArray} (p : Nat) {b b2 : UInt8} {z : Int} {r : List UInt8} (h : c.data.toList.drop p = 162 :: b :: b2 :: r) (e : Jvm.ClassFile.Reader.signed 16 (b.toNat * 256 + b2.toNat) = z) : decode c p = .ok (.if_icmp .ge z, 3) := dcd (n := 3) ((rbd (u1_at h)).trans ((rbd (s2_at (u2_at (u1_at (dS h)) (u1_at (dS (dS h)))))).trans (congrArg (fun x => Except.ok (Instr.if_icmp .ge x, p + 1 + 1 + 1)) e)))
theorem oc_163 {c : ByteArray} (p : Nat) {b b2 : UInt8} {z : Int} {r : List UInt8} (h : c.data.toList.drop p = 163 :: b :: b2 :: r) (e : Jvm.ClassFile.Reader.signed 16 (b.toNat * 256 + b2.toNat) = z) : decode c p = .ok (.if_icmp .gt z, 3) := dcd (n := 3) ((rbd (u1_at h)).trans ((rbd (s2_at (u2_at (u1_at (dS h)) (u1_at (dS (dS h)))))).trans (congrArg (fun x => Except.ok (Instr.if_icmp .gt x, p + 1 + 1 + 1)) e)))
theorem oc_164 {c : ByteArray} (p : Nat) {b b2 : UInt8} {z : Int} {r : List UInt8} (h : c.data.toList.drop p = 164 :: b :: b2 :: r) (e : Jvm.ClassFile.Reader.signed 16 (b.toNat * 256 + b2.toNat) = z) : decode c p = .ok (.if_icmp .le z, 3) := dcd (n := 3) ((rbd (u1_at h)).trans ((rbd (s2_at (u2_at (u1_at (dS h)) (u1_at (dS (dS h)))))).trans (congrArg (fun x => Except.ok (Instr.if_icmp .le x, p + 1 + 1 + 1)) e)))
theorem oc_165 {c : ByteArray} (p : Nat) {b b2 : UInt8} {z : Int} {r : List UInt8} (h : c.data.toList.drop p = 165 :: b :: b2 :: r) (e : Jvm.ClassFile.Reader.signed 16 (b.toNat * 256 + b2.toNat) = z) : decode c p = .ok (.if_acmp .eq z, 3) := dcd (n := 3) ((rbd (u1_at h)).trans ((rbd (s2_at (u2_at (u1_at (dS h)) (u1_at (dS (dS h)))))).trans (congrArg (fun x => Except.ok (Instr.if_acmp .eq x, p + 1 + 1 + 1)) e)))
theorem oc_166 {c : ByteArray} (p : Nat) {b b2 : UInt8} {z : Int} {r : List UInt8} (h : c.data.toList.drop p = 166 :: b :: b2 :: r) (e : Jvm.ClassFile.Reader.signed 16 (b.toNat * 256 + b2.toNat) = z) : decode c p = .ok (.if_acmp .ne z, 3) := dcd (n := 3) ((rbd (u1_at h)).trans ((rbd (s2_at (u2_at (u1_at (dS h)) (u1_at (dS (dS h)))))).trans (congrArg (fun x => Except.ok (Instr.if_acmp .ne x, p + 1 + 1 + 1)) e)))
theorem oc_167 {c : ByteArray} (p : Nat) {b b2 : UInt8} {z : Int} {r : List UInt8} (h : c.data.toList.drop p = 167 :: b :: b2 :: r) (e : Jvm.ClassFile.Reader.signed 16 (b.toNat * 256 + b2.toNat) = z) : decode c p = .ok (.goto z, 3) := dcd (n := 3) ((rbd (u1_at h)).trans ((rbd (s2_at (u2_at (u1_at (dS h)) (u1_at (dS (dS h)))))).trans (congrArg (fun x => Except.ok (Instr.goto x, p + 1 + 1 + 1)) e)))
theorem oc_172 {c : ByteArray} (p : Nat) {r : List UInt8} (h : c.data.toList.drop p = 172 :: r) : decode c p = .ok (.ireturn, 1) := dcd (n := 1) ((rbd (u1_at h)).trans (rfl))
theorem oc_173 {c : ByteArray} (p : Nat) {r : List UInt8} (h : c.data.toList.drop p = 173 :: r) : decode c p = .ok (.lreturn, 1) := dcd (n := 1) ((rbd (u1_at h)).trans (rfl))
theorem oc_176 {c : ByteArray} (p : Nat) {r : List UInt8} (h : c.data.toList.drop p = 176 :: r) : decode c p = .ok (.areturn, 1) := dcd (n := 1) ((rbd (u1_at h)).trans (rfl))
theorem oc_177 {c : ByteArray} (p : Nat) {r : List UInt8} (h : c.data.toList.drop p = 177 :: r) : decode c p = .ok (.return_, 1) := dcd (n := 1) ((rbd (u1_at h)).trans (rfl))
theorem oc_178 {c : ByteArray} (p : Nat) {b b2 : UInt8} {n9 : Nat} {r : List UInt8} (h : c.data.toList.drop p = 178 :: b :: b2 :: r) (e : b.toNat * 256 + b2.toNat = n9) : decode c p = .ok (.getstatic n9, 3) := dcd (n := 3) ((rbd (u1_at h)).trans ((rbd (u2_at (u1_at (dS h)) (u1_at (dS (dS h))))).trans (congrArg (fun x => Except.ok (Instr.getstatic x, p + 1 + 1 + 1)) e)))
theorem oc_180 {c : ByteArray} (p : Nat) {b b2 : UInt8} {n9 : Nat} {r : List UInt8} (h : c.data.toList.drop p = 180 :: b :: b2 :: r) (e : b.toNat * 256 + b2.toNat = n9) : decode c p = .ok (.getfield n9, 3) := dcd (n := 3) ((rbd (u1_at h)).trans ((rbd (u2_at (u1_at (dS h)) (u1_at (dS (dS h))))).trans (congrArg (fun x => Except.ok (Instr.getfield x, p + 1 + 1 + 1)) e)))
theorem oc_181 {c : ByteArray} (p : Nat) {b b2 : UInt8} {n9 : Nat} {r : List UInt8} (h : c.data.toList.drop p = 181 :: b :: b2 :: r) (e : b.toNat * 256 + b2.toNat = n9) : decode c p = .ok (.putfield n9, 3) := dcd (n := 3) ((rbd (u1_at h)).trans ((rbd (u2_at (u1_at (dS h)) (u1_at (dS (dS h))))).trans (congrArg (fun x => Except.ok (Instr.putfield x, p + 1 + 1 + 1)) e)))
theorem oc_182 {c : ByteArray} (p : Nat) {b b2 : UInt8} {n9 : Nat} {r : List UInt8} (h : c.data.toList.drop p = 182 :: b :: b2 :: r) (e : b.toNat * 256 + b2.toNat = n9) : decode c p = .ok (.invokevirtual n9, 3) := dcd (n := 3) ((rbd (u1_at h)).trans ((rbd (u2_at (u1_at (dS h)) (u1_at (dS (dS h))))).trans (congrArg (fun x => Except.ok (Instr.invokevirtual x, p + 1 + 1 + 1)) e)))
theorem oc_183 {c : ByteArray} (p : Nat) {b b2 : UInt8} {n9 : Nat} {r : List UInt8} (h : c.data.toList.drop p = 183 :: b :: b2 :: r) (e : b.toNat * 256 + b2.toNat = n9) : decode c p = .ok (.invokespecial n9, 3) := dcd (n := 3) ((rbd (u1_at h)).trans ((rbd (u2_at (u1_at (dS h)) (u1_at (dS (dS h))))).trans (congrArg (fun x => Except.ok (Instr.invokespecial x, p + 1 + 1 + 1)) e)))
theorem oc_184 {c : ByteArray} (p : Nat) {b b2 : UInt8} {n9 : Nat} {r : List UInt8} (h : c.data.toList.drop p = 184 :: b :: b2 :: r) (e : b.toNat * 256 + b2.toNat = n9) : decode c p = .ok (.invokestatic n9, 3) := dcd (n := 3) ((rbd (u1_at h)).trans ((rbd (u2_at (u1_at (dS h)) (u1_at (dS (dS h))))).trans (congrArg (fun x => Except.ok (Instr.invokestatic x, p + 1 + 1 + 1)) e)))
theorem oc_187 {c : ByteArray} (p : Nat) {b b2 : UInt8} {n9 : Nat} {r : List UInt8} (h : c.data.toList.drop p = 187 :: b :: b2 :: r) (e : b.toNat * 256 + b2.toNat = n9) : decode c p = .ok (.new n9, 3) := dcd (n := 3) ((rbd (u1_at h)).trans ((rbd (u2_at (u1_at (dS h)) (u1_at (dS (dS h))))).trans (congrArg (fun x => Except.ok (Instr.new x, p + 1 + 1 + 1)) e)))
theorem oc_188_4 {c : ByteArray} (p : Nat) {r : List UInt8} (h : c.data.toList.drop p = 188 :: 4 :: r) : decode c p = .ok (.newarray .boolean, 2) := dcd (n := 2) ((rbd (u1_at h)).trans ((rbd (u1_at (dS h))).trans rfl))
theorem oc_188_8 {c : ByteArray} (p : Nat) {r : List UInt8} (h : c.data.toList.drop p = 188 :: 8 :: r) : decode c p = .ok (.newarray .byte, 2) := dcd (n := 2) ((rbd (u1_at h)).trans ((rbd (u1_at (dS h))).trans rfl))
theorem oc_188_10 {c : ByteArray} (p : Nat) {r : List UInt8} (h : c.data.toList.drop p = 188 :: 10 :: r) : decode c p = .ok (.newarray .int, 2) := dcd (n := 2) ((rbd (u1_at h)).trans ((rbd (u1_at (dS h))).trans rfl))
theorem oc_189 {c : ByteArray} (p : Nat) {b b2 : UInt8} {n9 : Nat} {r : List UInt8} (h : c.data.toList.drop p = 189 :: b :: b2 :: r) (e : b.toNat * 256 + b2.toNat = n9) : decode c p = .ok (.anewarray n9, 3) := dcd (n := 3) ((rbd (u1_at h)).trans ((rbd (u2_at (u1_at (dS h)) (u1_at (dS (dS h))))).trans (congrArg (fun x => Except.ok (Instr.anewarray x, p + 1 + 1 + 1)) e)))
theorem oc_190 {c : ByteArray} (p : Nat) {r : List UInt8} (h : c.data.toList.drop p = 190 :: r) : decode c p = .ok (.arraylength, 1) := dcd (n := 1) ((rbd (u1_at h)).trans (rfl))
theorem oc_192 {c : ByteArray} (p : Nat) {b b2 : UInt8} {n9 : Nat} {r : List UInt8} (h : c.data.toList.drop p = 192 :: b :: b2 :: r) (e : b.toNat * 256 + b2.toNat = n9) : decode c p = .ok (.checkcast n9, 3) := dcd (n := 3) ((rbd (u1_at h)).trans ((rbd (u2_at (u1_at (dS h)) (u1_at (dS (dS h))))).trans (congrArg (fun x => Except.ok (Instr.checkcast x, p + 1 + 1 + 1)) e)))
theorem oc_198 {c : ByteArray} (p : Nat) {b b2 : UInt8} {z : Int} {r : List UInt8} (h : c.data.toList.drop p = 198 :: b :: b2 :: r) (e : Jvm.ClassFile.Reader.signed 16 (b.toNat * 256 + b2.toNat) = z) : decode c p = .ok (.ifnull z, 3) := dcd (n := 3) ((rbd (u1_at h)).trans ((rbd (s2_at (u2_at (u1_at (dS h)) (u1_at (dS (dS h)))))).trans (congrArg (fun x => Except.ok (Instr.ifnull x, p + 1 + 1 + 1)) e)))
theorem oc_199 {c : ByteArray} (p : Nat) {b b2 : UInt8} {z : Int} {r : List UInt8} (h : c.data.toList.drop p = 199 :: b :: b2 :: r) (e : Jvm.ClassFile.Reader.signed 16 (b.toNat * 256 + b2.toNat) = z) : decode c p = .ok (.ifnonnull z, 3) := dcd (n := 3) ((rbd (u1_at h)).trans ((rbd (s2_at (u2_at (u1_at (dS h)) (u1_at (dS (dS h)))))).trans (congrArg (fun x => Except.ok (Instr.ifnonnull x, p + 1 + 1 + 1)) e)))
theorem sgb_1 : Jvm.ClassFile.Reader.signed 8 (1 : UInt8).toNat = 1 := by decide +kernel
theorem sgb_10 : Jvm.ClassFile.Reader.signed 8 (10 : UInt8).toNat = 10 := by decide +kernel
theorem sgb_100 : Jvm.ClassFile.Reader.signed 8 (100 : UInt8).toNat = 100 := by decide +kernel
theorem sgb_102 : Jvm.ClassFile.Reader.signed 8 (102 : UInt8).toNat = 102 := by decide +kernel
theorem sgb_103 : Jvm.ClassFile.Reader.signed 8 (103 : UInt8).toNat = 103 := by decide +kernel
theorem sgb_107 : Jvm.ClassFile.Reader.signed 8 (107 : UInt8).toNat = 107 := by decide +kernel
theorem sgb_108 : Jvm.ClassFile.Reader.signed 8 (108 : UInt8).toNat = 108 := by decide +kernel
theorem sgb_109 : Jvm.ClassFile.Reader.signed 8 (109 : UInt8).toNat = 109 := by decide +kernel
theorem sgb_11 : Jvm.ClassFile.Reader.signed 8 (11 : UInt8).toNat = 11 := by decide +kernel
theorem sgb_110 : Jvm.ClassFile.Reader.signed 8 (110 : UInt8).toNat = 110 := by decide +kernel
theorem sgb_111 : Jvm.ClassFile.Reader.signed 8 (111 : UInt8).toNat = 111 := by decide +kernel
theorem sgb_112 : Jvm.ClassFile.Reader.signed 8 (112 : UInt8).toNat = 112 := by decide +kernel
theorem sgb_113 : Jvm.ClassFile.Reader.signed 8 (113 : UInt8).toNat = 113 := by decide +kernel
theorem sgb_115 : Jvm.ClassFile.Reader.signed 8 (115 : UInt8).toNat = 115 := by decide +kernel
theorem sgb_119 : Jvm.ClassFile.Reader.signed 8 (119 : UInt8).toNat = 119 := by decide +kernel
theorem sgb_12 : Jvm.ClassFile.Reader.signed 8 (12 : UInt8).toNat = 12 := by decide +kernel
theorem sgb_120 : Jvm.ClassFile.Reader.signed 8 (120 : UInt8).toNat = 120 := by decide +kernel
theorem sgb_124 : Jvm.ClassFile.Reader.signed 8 (124 : UInt8).toNat = 124 := by decide +kernel
theorem sgb_13 : Jvm.ClassFile.Reader.signed 8 (13 : UInt8).toNat = 13 := by decide +kernel
theorem sgb_14 : Jvm.ClassFile.Reader.signed 8 (14 : UInt8).toNat = 14 := by decide +kernel
theorem sgb_15 : Jvm.ClassFile.Reader.signed 8 (15 : UInt8).toNat = 15 := by decide +kernel
theorem sgb_16 : Jvm.ClassFile.Reader.signed 8 (16 : UInt8).toNat = 16 := by decide +kernel
theorem sgb_19 : Jvm.ClassFile.Reader.signed 8 (19 : UInt8).toNat = 19 := by decide +kernel
theorem sgb_20 : Jvm.ClassFile.Reader.signed 8 (20 : UInt8).toNat = 20 := by decide +kernel
theorem sgb_216 : Jvm.ClassFile.Reader.signed 8 (216 : UInt8).toNat = -40 := by decide +kernel
theorem sgb_23 : Jvm.ClassFile.Reader.signed 8 (23 : UInt8).toNat = 23 := by decide +kernel
theorem sgb_24 : Jvm.ClassFile.Reader.signed 8 (24 : UInt8).toNat = 24 := by decide +kernel
theorem sgb_246 : Jvm.ClassFile.Reader.signed 8 (246 : UInt8).toNat = -10 := by decide +kernel
theorem sgb_248 : Jvm.ClassFile.Reader.signed 8 (248 : UInt8).toNat = -8 := by decide +kernel
theorem sgb_254 : Jvm.ClassFile.Reader.signed 8 (254 : UInt8).toNat = -2 := by decide +kernel
theorem sgb_255 : Jvm.ClassFile.Reader.signed 8 (255 : UInt8).toNat = -1 := by decide +kernel
theorem sgb_29 : Jvm.ClassFile.Reader.signed 8 (29 : UInt8).toNat = 29 := by decide +kernel
theorem sgb_30 : Jvm.ClassFile.Reader.signed 8 (30 : UInt8).toNat = 30 := by decide +kernel
theorem sgb_32 : Jvm.ClassFile.Reader.signed 8 (32 : UInt8).toNat = 32 := by decide +kernel
theorem sgb_33 : Jvm.ClassFile.Reader.signed 8 (33 : UInt8).toNat = 33 := by decide +kernel
theorem sgb_37 : Jvm.ClassFile.Reader.signed 8 (37 : UInt8).toNat = 37 := by decide +kernel
theorem sgb_38 : Jvm.ClassFile.Reader.signed 8 (38 : UInt8).toNat = 38 := by decide +kernel
theorem sgb_39 : Jvm.ClassFile.Reader.signed 8 (39 : UInt8).toNat = 39 := by decide +kernel
theorem sgb_4 : Jvm.ClassFile.Reader.signed 8 (4 : UInt8).toNat = 4 := by decide +kernel
theorem sgb_40 : Jvm.ClassFile.Reader.signed 8 (40 : UInt8).toNat = 40 := by decide +kernel
theorem sgb_41 : Jvm.ClassFile.Reader.signed 8 (41 : UInt8).toNat = 41 := by decide +kernel
theorem sgb_42 : Jvm.ClassFile.Reader.signed 8 (42 : UInt8).toNat = 42 := by decide +kernel
theorem sgb_43 : Jvm.ClassFile.Reader.signed 8 (43 : UInt8).toNat = 43 := by decide +kernel
theorem sgb_45 : Jvm.ClassFile.Reader.signed 8 (45 : UInt8).toNat = 45 := by decide +kernel
theorem sgb_47 : Jvm.ClassFile.Reader.signed 8 (47 : UInt8).toNat = 47 := by decide +kernel
theorem sgb_48 : Jvm.ClassFile.Reader.signed 8 (48 : UInt8).toNat = 48 := by decide +kernel
theorem sgb_49 : Jvm.ClassFile.Reader.signed 8 (49 : UInt8).toNat = 49 := by decide +kernel
theorem sgb_50 : Jvm.ClassFile.Reader.signed 8 (50 : UInt8).toNat = 50 := by decide +kernel
theorem sgb_57 : Jvm.ClassFile.Reader.signed 8 (57 : UInt8).toNat = 57 := by decide +kernel
theorem sgb_58 : Jvm.ClassFile.Reader.signed 8 (58 : UInt8).toNat = 58 := by decide +kernel
theorem sgb_59 : Jvm.ClassFile.Reader.signed 8 (59 : UInt8).toNat = 59 := by decide +kernel
theorem sgb_6 : Jvm.ClassFile.Reader.signed 8 (6 : UInt8).toNat = 6 := by decide +kernel
theorem sgb_60 : Jvm.ClassFile.Reader.signed 8 (60 : UInt8).toNat = 60 := by decide +kernel
theorem sgb_61 : Jvm.ClassFile.Reader.signed 8 (61 : UInt8).toNat = 61 := by decide +kernel
theorem sgb_62 : Jvm.ClassFile.Reader.signed 8 (62 : UInt8).toNat = 62 := by decide +kernel
theorem sgb_63 : Jvm.ClassFile.Reader.signed 8 (63 : UInt8).toNat = 63 := by decide +kernel
theorem sgb_7 : Jvm.ClassFile.Reader.signed 8 (7 : UInt8).toNat = 7 := by decide +kernel
theorem sgb_8 : Jvm.ClassFile.Reader.signed 8 (8 : UInt8).toNat = 8 := by decide +kernel
theorem sgb_9 : Jvm.ClassFile.Reader.signed 8 (9 : UInt8).toNat = 9 := by decide +kernel
theorem sgb_91 : Jvm.ClassFile.Reader.signed 8 (91 : UInt8).toNat = 91 := by decide +kernel
theorem sgb_93 : Jvm.ClassFile.Reader.signed 8 (93 : UInt8).toNat = 93 := by decide +kernel
theorem sgb_97 : Jvm.ClassFile.Reader.signed 8 (97 : UInt8).toNat = 97 := by decide +kernel
theorem sgb_99 : Jvm.ClassFile.Reader.signed 8 (99 : UInt8).toNat = 99 := by decide +kernel
theorem sgw_0_10 : Jvm.ClassFile.Reader.signed 16 ((0 : UInt8).toNat * 256 + (10 : UInt8).toNat) = 10 := by decide +kernel
theorem sgw_0_100 : Jvm.ClassFile.Reader.signed 16 ((0 : UInt8).toNat * 256 + (100 : UInt8).toNat) = 100 := by decide +kernel
theorem sgw_0_101 : Jvm.ClassFile.Reader.signed 16 ((0 : UInt8).toNat * 256 + (101 : UInt8).toNat) = 101 := by decide +kernel
theorem sgw_0_105 : Jvm.ClassFile.Reader.signed 16 ((0 : UInt8).toNat * 256 + (105 : UInt8).toNat) = 105 := by decide +kernel
theorem sgw_0_106 : Jvm.ClassFile.Reader.signed 16 ((0 : UInt8).toNat * 256 + (106 : UInt8).toNat) = 106 := by decide +kernel
theorem sgw_0_108 : Jvm.ClassFile.Reader.signed 16 ((0 : UInt8).toNat * 256 + (108 : UInt8).toNat) = 108 := by decide +kernel
theorem sgw_0_109 : Jvm.ClassFile.Reader.signed 16 ((0 : UInt8).toNat * 256 + (109 : UInt8).toNat) = 109 := by decide +kernel
theorem sgw_0_11 : Jvm.ClassFile.Reader.signed 16 ((0 : UInt8).toNat * 256 + (11 : UInt8).toNat) = 11 := by decide +kernel
theorem sgw_0_110 : Jvm.ClassFile.Reader.signed 16 ((0 : UInt8).toNat * 256 + (110 : UInt8).toNat) = 110 := by decide +kernel
theorem sgw_0_112 : Jvm.ClassFile.Reader.signed 16 ((0 : UInt8).toNat * 256 + (112 : UInt8).toNat) = 112 := by decide +kernel
theorem sgw_0_12 : Jvm.ClassFile.Reader.signed 16 ((0 : UInt8).toNat * 256 + (12 : UInt8).toNat) = 12 := by decide +kernel
theorem sgw_0_120 : Jvm.ClassFile.Reader.signed 16 ((0 : UInt8).toNat * 256 + (120 : UInt8).toNat) = 120 := by decide +kernel
theorem sgw_0_129 : Jvm.ClassFile.Reader.signed 16 ((0 : UInt8).toNat * 256 + (129 : UInt8).toNat) = 129 := by decide +kernel
theorem sgw_0_13 : Jvm.ClassFile.Reader.signed 16 ((0 : UInt8).toNat * 256 + (13 : UInt8).toNat) = 13 := by decide +kernel
theorem sgw_0_132 : Jvm.ClassFile.Reader.signed 16 ((0 : UInt8).toNat * 256 + (132 : UInt8).toNat) = 132 := by decide +kernel
theorem sgw_0_138 : Jvm.ClassFile.Reader.signed 16 ((0 : UInt8).toNat * 256 + (138 : UInt8).toNat) = 138 := by decide +kernel
theorem sgw_0_14 : Jvm.ClassFile.Reader.signed 16 ((0 : UInt8).toNat * 256 + (14 : UInt8).toNat) = 14 := by decide +kernel
theorem sgw_0_140 : Jvm.ClassFile.Reader.signed 16 ((0 : UInt8).toNat * 256 + (140 : UInt8).toNat) = 140 := by decide +kernel
theorem sgw_0_145 : Jvm.ClassFile.Reader.signed 16 ((0 : UInt8).toNat * 256 + (145 : UInt8).toNat) = 145 := by decide +kernel
theorem sgw_0_15 : Jvm.ClassFile.Reader.signed 16 ((0 : UInt8).toNat * 256 + (15 : UInt8).toNat) = 15 := by decide +kernel
theorem sgw_0_16 : Jvm.ClassFile.Reader.signed 16 ((0 : UInt8).toNat * 256 + (16 : UInt8).toNat) = 16 := by decide +kernel
theorem sgw_0_160 : Jvm.ClassFile.Reader.signed 16 ((0 : UInt8).toNat * 256 + (160 : UInt8).toNat) = 160 := by decide +kernel
theorem sgw_0_17 : Jvm.ClassFile.Reader.signed 16 ((0 : UInt8).toNat * 256 + (17 : UInt8).toNat) = 17 := by decide +kernel
theorem sgw_0_18 : Jvm.ClassFile.Reader.signed 16 ((0 : UInt8).toNat * 256 + (18 : UInt8).toNat) = 18 := by decide +kernel
theorem sgw_0_180 : Jvm.ClassFile.Reader.signed 16 ((0 : UInt8).toNat * 256 + (180 : UInt8).toNat) = 180 := by decide +kernel
theorem sgw_0_181 : Jvm.ClassFile.Reader.signed 16 ((0 : UInt8).toNat * 256 + (181 : UInt8).toNat) = 181 := by decide +kernel
theorem sgw_0_19 : Jvm.ClassFile.Reader.signed 16 ((0 : UInt8).toNat * 256 + (19 : UInt8).toNat) = 19 := by decide +kernel
theorem sgw_0_192 : Jvm.ClassFile.Reader.signed 16 ((0 : UInt8).toNat * 256 + (192 : UInt8).toNat) = 192 := by decide +kernel
theorem sgw_0_198 : Jvm.ClassFile.Reader.signed 16 ((0 : UInt8).toNat * 256 + (198 : UInt8).toNat) = 198 := by decide +kernel
theorem sgw_0_20 : Jvm.ClassFile.Reader.signed 16 ((0 : UInt8).toNat * 256 + (20 : UInt8).toNat) = 20 := by decide +kernel
theorem sgw_0_200 : Jvm.ClassFile.Reader.signed 16 ((0 : UInt8).toNat * 256 + (200 : UInt8).toNat) = 200 := by decide +kernel
theorem sgw_0_208 : Jvm.ClassFile.Reader.signed 16 ((0 : UInt8).toNat * 256 + (208 : UInt8).toNat) = 208 := by decide +kernel
theorem sgw_0_21 : Jvm.ClassFile.Reader.signed 16 ((0 : UInt8).toNat * 256 + (21 : UInt8).toNat) = 21 := by decide +kernel
theorem sgw_0_214 : Jvm.ClassFile.Reader.signed 16 ((0 : UInt8).toNat * 256 + (214 : UInt8).toNat) = 214 := by decide +kernel
theorem sgw_0_215 : Jvm.ClassFile.Reader.signed 16 ((0 : UInt8).toNat * 256 + (215 : UInt8).toNat) = 215 := by decide +kernel
theorem sgw_0_216 : Jvm.ClassFile.Reader.signed 16 ((0 : UInt8).toNat * 256 + (216 : UInt8).toNat) = 216 := by decide +kernel
theorem sgw_0_22 : Jvm.ClassFile.Reader.signed 16 ((0 : UInt8).toNat * 256 + (22 : UInt8).toNat) = 22 := by decide +kernel
theorem sgw_0_23 : Jvm.ClassFile.Reader.signed 16 ((0 : UInt8).toNat * 256 + (23 : UInt8).toNat) = 23 := by decide +kernel
theorem sgw_0_232 : Jvm.ClassFile.Reader.signed 16 ((0 : UInt8).toNat * 256 + (232 : UInt8).toNat) = 232 := by decide +kernel
theorem sgw_0_237 : Jvm.ClassFile.Reader.signed 16 ((0 : UInt8).toNat * 256 + (237 : UInt8).toNat) = 237 := by decide +kernel
theorem sgw_0_24 : Jvm.ClassFile.Reader.signed 16 ((0 : UInt8).toNat * 256 + (24 : UInt8).toNat) = 24 := by decide +kernel
theorem sgw_0_25 : Jvm.ClassFile.Reader.signed 16 ((0 : UInt8).toNat * 256 + (25 : UInt8).toNat) = 25 := by decide +kernel
theorem sgw_0_255 : Jvm.ClassFile.Reader.signed 16 ((0 : UInt8).toNat * 256 + (255 : UInt8).toNat) = 255 := by decide +kernel
theorem sgw_0_26 : Jvm.ClassFile.Reader.signed 16 ((0 : UInt8).toNat * 256 + (26 : UInt8).toNat) = 26 := by decide +kernel
theorem sgw_0_27 : Jvm.ClassFile.Reader.signed 16 ((0 : UInt8).toNat * 256 + (27 : UInt8).toNat) = 27 := by decide +kernel
theorem sgw_0_28 : Jvm.ClassFile.Reader.signed 16 ((0 : UInt8).toNat * 256 + (28 : UInt8).toNat) = 28 := by decide +kernel
theorem sgw_0_29 : Jvm.ClassFile.Reader.signed 16 ((0 : UInt8).toNat * 256 + (29 : UInt8).toNat) = 29 := by decide +kernel
theorem sgw_0_3 : Jvm.ClassFile.Reader.signed 16 ((0 : UInt8).toNat * 256 + (3 : UInt8).toNat) = 3 := by decide +kernel
theorem sgw_0_30 : Jvm.ClassFile.Reader.signed 16 ((0 : UInt8).toNat * 256 + (30 : UInt8).toNat) = 30 := by decide +kernel
theorem sgw_0_31 : Jvm.ClassFile.Reader.signed 16 ((0 : UInt8).toNat * 256 + (31 : UInt8).toNat) = 31 := by decide +kernel
theorem sgw_0_32 : Jvm.ClassFile.Reader.signed 16 ((0 : UInt8).toNat * 256 + (32 : UInt8).toNat) = 32 := by decide +kernel
theorem sgw_0_33 : Jvm.ClassFile.Reader.signed 16 ((0 : UInt8).toNat * 256 + (33 : UInt8).toNat) = 33 := by decide +kernel
theorem sgw_0_34 : Jvm.ClassFile.Reader.signed 16 ((0 : UInt8).toNat * 256 + (34 : UInt8).toNat) = 34 := by decide +kernel
theorem sgw_0_35 : Jvm.ClassFile.Reader.signed 16 ((0 : UInt8).toNat * 256 + (35 : UInt8).toNat) = 35 := by decide +kernel
theorem sgw_0_36 : Jvm.ClassFile.Reader.signed 16 ((0 : UInt8).toNat * 256 + (36 : UInt8).toNat) = 36 := by decide +kernel
theorem sgw_0_37 : Jvm.ClassFile.Reader.signed 16 ((0 : UInt8).toNat * 256 + (37 : UInt8).toNat) = 37 := by decide +kernel
theorem sgw_0_38 : Jvm.ClassFile.Reader.signed 16 ((0 : UInt8).toNat * 256 + (38 : UInt8).toNat) = 38 := by decide +kernel
theorem sgw_0_39 : Jvm.ClassFile.Reader.signed 16 ((0 : UInt8).toNat * 256 + (39 : UInt8).toNat) = 39 := by decide +kernel
theorem sgw_0_4 : Jvm.ClassFile.Reader.signed 16 ((0 : UInt8).toNat * 256 + (4 : UInt8).toNat) = 4 := by decide +kernel
theorem sgw_0_40 : Jvm.ClassFile.Reader.signed 16 ((0 : UInt8).toNat * 256 + (40 : UInt8).toNat) = 40 := by decide +kernel
theorem sgw_0_41 : Jvm.ClassFile.Reader.signed 16 ((0 : UInt8).toNat * 256 + (41 : UInt8).toNat) = 41 := by decide +kernel
theorem sgw_0_42 : Jvm.ClassFile.Reader.signed 16 ((0 : UInt8).toNat * 256 + (42 : UInt8).toNat) = 42 := by decide +kernel
theorem sgw_0_43 : Jvm.ClassFile.Reader.signed 16 ((0 : UInt8).toNat * 256 + (43 : UInt8).toNat) = 43 := by decide +kernel
theorem sgw_0_44 : Jvm.ClassFile.Reader.signed 16 ((0 : UInt8).toNat * 256 + (44 : UInt8).toNat) = 44 := by decide +kernel
theorem sgw_0_45 : Jvm.ClassFile.Reader.signed 16 ((0 : UInt8).toNat * 256 + (45 : UInt8).toNat) = 45 := by decide +kernel
theorem sgw_0_46 : Jvm.ClassFile.Reader.signed 16 ((0 : UInt8).toNat * 256 + (46 : UInt8).toNat) = 46 := by decide +kernel
theorem sgw_0_47 : Jvm.ClassFile.Reader.signed 16 ((0 : UInt8).toNat * 256 + (47 : UInt8).toNat) = 47 := by decide +kernel
theorem sgw_0_48 : Jvm.ClassFile.Reader.signed 16 ((0 : UInt8).toNat * 256 + (48 : UInt8).toNat) = 48 := by decide +kernel
theorem sgw_0_49 : Jvm.ClassFile.Reader.signed 16 ((0 : UInt8).toNat * 256 + (49 : UInt8).toNat) = 49 := by decide +kernel
theorem sgw_0_5 : Jvm.ClassFile.Reader.signed 16 ((0 : UInt8).toNat * 256 + (5 : UInt8).toNat) = 5 := by decide +kernel
theorem sgw_0_50 : Jvm.ClassFile.Reader.signed 16 ((0 : UInt8).toNat * 256 + (50 : UInt8).toNat) = 50 := by decide +kernel
theorem sgw_0_51 : Jvm.ClassFile.Reader.signed 16 ((0 : UInt8).toNat * 256 + (51 : UInt8).toNat) = 51 := by decide +kernel
theorem sgw_0_52 : Jvm.ClassFile.Reader.signed 16 ((0 : UInt8).toNat * 256 + (52 : UInt8).toNat) = 52 := by decide +kernel
theorem sgw_0_53 : Jvm.ClassFile.Reader.signed 16 ((0 : UInt8).toNat * 256 + (53 : UInt8).toNat) = 53 := by decide +kernel
theorem sgw_0_54 : Jvm.ClassFile.Reader.signed 16 ((0 : UInt8).toNat * 256 + (54 : UInt8).toNat) = 54 := by decide +kernel
theorem sgw_0_55 : Jvm.ClassFile.Reader.signed 16 ((0 : UInt8).toNat * 256 + (55 : UInt8).toNat) = 55 := by decide +kernel
theorem sgw_0_56 : Jvm.ClassFile.Reader.signed 16 ((0 : UInt8).toNat * 256 + (56 : UInt8).toNat) = 56 := by decide +kernel
theorem sgw_0_57 : Jvm.ClassFile.Reader.signed 16 ((0 : UInt8).toNat * 256 + (57 : UInt8).toNat) = 57 := by decide +kernel
theorem sgw_0_58 : Jvm.ClassFile.Reader.signed 16 ((0 : UInt8).toNat * 256 + (58 : UInt8).toNat) = 58 := by decide +kernel
theorem sgw_0_59 : Jvm.ClassFile.Reader.signed 16 ((0 : UInt8).toNat * 256 + (59 : UInt8).toNat) = 59 := by decide +kernel
theorem sgw_0_6 : Jvm.ClassFile.Reader.signed 16 ((0 : UInt8).toNat * 256 + (6 : UInt8).toNat) = 6 := by decide +kernel
theorem sgw_0_60 : Jvm.ClassFile.Reader.signed 16 ((0 : UInt8).toNat * 256 + (60 : UInt8).toNat) = 60 := by decide +kernel
theorem sgw_0_61 : Jvm.ClassFile.Reader.signed 16 ((0 : UInt8).toNat * 256 + (61 : UInt8).toNat) = 61 := by decide +kernel
theorem sgw_0_62 : Jvm.ClassFile.Reader.signed 16 ((0 : UInt8).toNat * 256 + (62 : UInt8).toNat) = 62 := by decide +kernel
theorem sgw_0_63 : Jvm.ClassFile.Reader.signed 16 ((0 : UInt8).toNat * 256 + (63 : UInt8).toNat) = 63 := by decide +kernel
theorem sgw_0_64 : Jvm.ClassFile.Reader.signed 16 ((0 : UInt8).toNat * 256 + (64 : UInt8).toNat) = 64 := by decide +kernel
theorem sgw_0_65 : Jvm.ClassFile.Reader.signed 16 ((0 : UInt8).toNat * 256 + (65 : UInt8).toNat) = 65 := by decide +kernel
theorem sgw_0_66 : Jvm.ClassFile.Reader.signed 16 ((0 : UInt8).toNat * 256 + (66 : UInt8).toNat) = 66 := by decide +kernel
theorem sgw_0_67 : Jvm.ClassFile.Reader.signed 16 ((0 : UInt8).toNat * 256 + (67 : UInt8).toNat) = 67 := by decide +kernel
theorem sgw_0_68 : Jvm.ClassFile.Reader.signed 16 ((0 : UInt8).toNat * 256 + (68 : UInt8).toNat) = 68 := by decide +kernel
theorem sgw_0_7 : Jvm.ClassFile.Reader.signed 16 ((0 : UInt8).toNat * 256 + (7 : UInt8).toNat) = 7 := by decide +kernel
theorem sgw_0_70 : Jvm.ClassFile.Reader.signed 16 ((0 : UInt8).toNat * 256 + (70 : UInt8).toNat) = 70 := by decide +kernel
theorem sgw_0_71 : Jvm.ClassFile.Reader.signed 16 ((0 : UInt8).toNat * 256 + (71 : UInt8).toNat) = 71 := by decide +kernel
theorem sgw_0_72 : Jvm.ClassFile.Reader.signed 16 ((0 : UInt8).toNat * 256 + (72 : UInt8).toNat) = 72 := by decide +kernel
theorem sgw_0_73 : Jvm.ClassFile.Reader.signed 16 ((0 : UInt8).toNat * 256 + (73 : UInt8).toNat) = 73 := by decide +kernel
theorem sgw_0_74 : Jvm.ClassFile.Reader.signed 16 ((0 : UInt8).toNat * 256 + (74 : UInt8).toNat) = 74 := by decide +kernel
theorem sgw_0_75 : Jvm.ClassFile.Reader.signed 16 ((0 : UInt8).toNat * 256 + (75 : UInt8).toNat) = 75 := by decide +kernel
theorem sgw_0_76 : Jvm.ClassFile.Reader.signed 16 ((0 : UInt8).toNat * 256 + (76 : UInt8).toNat) = 76 := by decide +kernel
theorem sgw_0_78 : Jvm.ClassFile.Reader.signed 16 ((0 : UInt8).toNat * 256 + (78 : UInt8).toNat) = 78 := by decide +kernel
theorem sgw_0_79 : Jvm.ClassFile.Reader.signed 16 ((0 : UInt8).toNat * 256 + (79 : UInt8).toNat) = 79 := by decide +kernel
theorem sgw_0_8 : Jvm.ClassFile.Reader.signed 16 ((0 : UInt8).toNat * 256 + (8 : UInt8).toNat) = 8 := by decide +kernel
theorem sgw_0_80 : Jvm.ClassFile.Reader.signed 16 ((0 : UInt8).toNat * 256 + (80 : UInt8).toNat) = 80 := by decide +kernel
theorem sgw_0_81 : Jvm.ClassFile.Reader.signed 16 ((0 : UInt8).toNat * 256 + (81 : UInt8).toNat) = 81 := by decide +kernel
theorem sgw_0_82 : Jvm.ClassFile.Reader.signed 16 ((0 : UInt8).toNat * 256 + (82 : UInt8).toNat) = 82 := by decide +kernel
theorem sgw_0_83 : Jvm.ClassFile.Reader.signed 16 ((0 : UInt8).toNat * 256 + (83 : UInt8).toNat) = 83 := by decide +kernel
theorem sgw_0_85 : Jvm.ClassFile.Reader.signed 16 ((0 : UInt8).toNat * 256 + (85 : UInt8).toNat) = 85 := by decide +kernel
theorem sgw_0_88 : Jvm.ClassFile.Reader.signed 16 ((0 : UInt8).toNat * 256 + (88 : UInt8).toNat) = 88 := by decide +kernel
theorem sgw_0_89 : Jvm.ClassFile.Reader.signed 16 ((0 : UInt8).toNat * 256 + (89 : UInt8).toNat) = 89 := by decide +kernel
theorem sgw_0_9 : Jvm.ClassFile.Reader.signed 16 ((0 : UInt8).toNat * 256 + (9 : UInt8).toNat) = 9 := by decide +kernel
theorem sgw_0_90 : Jvm.ClassFile.Reader.signed 16 ((0 : UInt8).toNat * 256 + (90 : UInt8).toNat) = 90 := by decide +kernel
theorem sgw_0_94 : Jvm.ClassFile.Reader.signed 16 ((0 : UInt8).toNat * 256 + (94 : UInt8).toNat) = 94 := by decide +kernel
theorem sgw_0_96 : Jvm.ClassFile.Reader.signed 16 ((0 : UInt8).toNat * 256 + (96 : UInt8).toNat) = 96 := by decide +kernel
theorem sgw_0_97 : Jvm.ClassFile.Reader.signed 16 ((0 : UInt8).toNat * 256 + (97 : UInt8).toNat) = 97 := by decide +kernel
theorem sgw_1_0 : Jvm.ClassFile.Reader.signed 16 ((1 : UInt8).toNat * 256 + (0 : UInt8).toNat) = 256 := by decide +kernel
theorem sgw_1_113 : Jvm.ClassFile.Reader.signed 16 ((1 : UInt8).toNat * 256 + (113 : UInt8).toNat) = 369 := by decide +kernel
theorem sgw_1_14 : Jvm.ClassFile.Reader.signed 16 ((1 : UInt8).toNat * 256 + (14 : UInt8).toNat) = 270 := by decide +kernel
theorem sgw_1_143 : Jvm.ClassFile.Reader.signed 16 ((1 : UInt8).toNat * 256 + (143 : UInt8).toNat) = 399 := by decide +kernel
theorem sgw_1_144 : Jvm.ClassFile.Reader.signed 16 ((1 : UInt8).toNat * 256 + (144 : UInt8).toNat) = 400 := by decide +kernel
theorem sgw_1_146 : Jvm.ClassFile.Reader.signed 16 ((1 : UInt8).toNat * 256 + (146 : UInt8).toNat) = 402 := by decide +kernel
theorem sgw_1_179 : Jvm.ClassFile.Reader.signed 16 ((1 : UInt8).toNat * 256 + (179 : UInt8).toNat) = 435 := by decide +kernel
theorem sgw_1_202 : Jvm.ClassFile.Reader.signed 16 ((1 : UInt8).toNat * 256 + (202 : UInt8).toNat) = 458 := by decide +kernel
theorem sgw_1_235 : Jvm.ClassFile.Reader.signed 16 ((1 : UInt8).toNat * 256 + (235 : UInt8).toNat) = 491 := by decide +kernel
theorem sgw_1_37 : Jvm.ClassFile.Reader.signed 16 ((1 : UInt8).toNat * 256 + (37 : UInt8).toNat) = 293 := by decide +kernel
theorem sgw_1_44 : Jvm.ClassFile.Reader.signed 16 ((1 : UInt8).toNat * 256 + (44 : UInt8).toNat) = 300 := by decide +kernel
theorem sgw_1_80 : Jvm.ClassFile.Reader.signed 16 ((1 : UInt8).toNat * 256 + (80 : UInt8).toNat) = 336 := by decide +kernel
theorem sgw_216_240 : Jvm.ClassFile.Reader.signed 16 ((216 : UInt8).toNat * 256 + (240 : UInt8).toNat) = -10000 := by decide +kernel
theorem sgw_247_50 : Jvm.ClassFile.Reader.signed 16 ((247 : UInt8).toNat * 256 + (50 : UInt8).toNat) = -2254 := by decide +kernel
theorem sgw_252_24 : Jvm.ClassFile.Reader.signed 16 ((252 : UInt8).toNat * 256 + (24 : UInt8).toNat) = -1000 := by decide +kernel
theorem sgw_255_106 : Jvm.ClassFile.Reader.signed 16 ((255 : UInt8).toNat * 256 + (106 : UInt8).toNat) = -150 := by decide +kernel
theorem sgw_255_112 : Jvm.ClassFile.Reader.signed 16 ((255 : UInt8).toNat * 256 + (112 : UInt8).toNat) = -144 := by decide +kernel
theorem sgw_255_125 : Jvm.ClassFile.Reader.signed 16 ((255 : UInt8).toNat * 256 + (125 : UInt8).toNat) = -131 := by decide +kernel
theorem sgw_255_135 : Jvm.ClassFile.Reader.signed 16 ((255 : UInt8).toNat * 256 + (135 : UInt8).toNat) = -121 := by decide +kernel
theorem sgw_255_141 : Jvm.ClassFile.Reader.signed 16 ((255 : UInt8).toNat * 256 + (141 : UInt8).toNat) = -115 := by decide +kernel
theorem sgw_255_144 : Jvm.ClassFile.Reader.signed 16 ((255 : UInt8).toNat * 256 + (144 : UInt8).toNat) = -112 := by decide +kernel
theorem sgw_255_146 : Jvm.ClassFile.Reader.signed 16 ((255 : UInt8).toNat * 256 + (146 : UInt8).toNat) = -110 := by decide +kernel
theorem sgw_255_149 : Jvm.ClassFile.Reader.signed 16 ((255 : UInt8).toNat * 256 + (149 : UInt8).toNat) = -107 := by decide +kernel
theorem sgw_255_152 : Jvm.ClassFile.Reader.signed 16 ((255 : UInt8).toNat * 256 + (152 : UInt8).toNat) = -104 := by decide +kernel
theorem sgw_255_153 : Jvm.ClassFile.Reader.signed 16 ((255 : UInt8).toNat * 256 + (153 : UInt8).toNat) = -103 := by decide +kernel
theorem sgw_255_154 : Jvm.ClassFile.Reader.signed 16 ((255 : UInt8).toNat * 256 + (154 : UInt8).toNat) = -102 := by decide +kernel
theorem sgw_255_156 : Jvm.ClassFile.Reader.signed 16 ((255 : UInt8).toNat * 256 + (156 : UInt8).toNat) = -100 := by decide +kernel
theorem sgw_255_161 : Jvm.ClassFile.Reader.signed 16 ((255 : UInt8).toNat * 256 + (161 : UInt8).toNat) = -95 := by decide +kernel
theorem sgw_255_163 : Jvm.ClassFile.Reader.signed 16 ((255 : UInt8).toNat * 256 + (163 : UInt8).toNat) = -93 := by decide +kernel
theorem sgw_255_164 : Jvm.ClassFile.Reader.signed 16 ((255 : UInt8).toNat * 256 + (164 : UInt8).toNat) = -92 := by decide +kernel
theorem sgw_255_166 : Jvm.ClassFile.Reader.signed 16 ((255 : UInt8).toNat * 256 + (166 : UInt8).toNat) = -90 := by decide +kernel
theorem sgw_255_175 : Jvm.ClassFile.Reader.signed 16 ((255 : UInt8).toNat * 256 + (175 : UInt8).toNat) = -81 := by decide +kernel
theorem sgw_255_177 : Jvm.ClassFile.Reader.signed 16 ((255 : UInt8).toNat * 256 + (177 : UInt8).toNat) = -79 := by decide +kernel
theorem sgw_255_179 : Jvm.ClassFile.Reader.signed 16 ((255 : UInt8).toNat * 256 + (179 : UInt8).toNat) = -77 := by decide +kernel
theorem sgw_255_180 : Jvm.ClassFile.Reader.signed 16 ((255 : UInt8).toNat * 256 + (180 : UInt8).toNat) = -76 := by decide +kernel
theorem sgw_255_181 : Jvm.ClassFile.Reader.signed 16 ((255 : UInt8).toNat * 256 + (181 : UInt8).toNat) = -75 := by decide +kernel
theorem sgw_255_182 : Jvm.ClassFile.Reader.signed 16 ((255 : UInt8).toNat * 256 + (182 : UInt8).toNat) = -74 := by decide +kernel
theorem sgw_255_183 : Jvm.ClassFile.Reader.signed 16 ((255 : UInt8).toNat * 256 + (183 : UInt8).toNat) = -73 := by decide +kernel
theorem sgw_255_184 : Jvm.ClassFile.Reader.signed 16 ((255 : UInt8).toNat * 256 + (184 : UInt8).toNat) = -72 := by decide +kernel
theorem sgw_255_186 : Jvm.ClassFile.Reader.signed 16 ((255 : UInt8).toNat * 256 + (186 : UInt8).toNat) = -70 := by decide +kernel
theorem sgw_255_187 : Jvm.ClassFile.Reader.signed 16 ((255 : UInt8).toNat * 256 + (187 : UInt8).toNat) = -69 := by decide +kernel
theorem sgw_255_191 : Jvm.ClassFile.Reader.signed 16 ((255 : UInt8).toNat * 256 + (191 : UInt8).toNat) = -65 := by decide +kernel
theorem sgw_255_193 : Jvm.ClassFile.Reader.signed 16 ((255 : UInt8).toNat * 256 + (193 : UInt8).toNat) = -63 := by decide +kernel
theorem sgw_255_194 : Jvm.ClassFile.Reader.signed 16 ((255 : UInt8).toNat * 256 + (194 : UInt8).toNat) = -62 := by decide +kernel
theorem sgw_255_195 : Jvm.ClassFile.Reader.signed 16 ((255 : UInt8).toNat * 256 + (195 : UInt8).toNat) = -61 := by decide +kernel
theorem sgw_255_196 : Jvm.ClassFile.Reader.signed 16 ((255 : UInt8).toNat * 256 + (196 : UInt8).toNat) = -60 := by decide +kernel
theorem sgw_255_197 : Jvm.ClassFile.Reader.signed 16 ((255 : UInt8).toNat * 256 + (197 : UInt8).toNat) = -59 := by decide +kernel
theorem sgw_255_198 : Jvm.ClassFile.Reader.signed 16 ((255 : UInt8).toNat * 256 + (198 : UInt8).toNat) = -58 := by decide +kernel
theorem sgw_255_199 : Jvm.ClassFile.Reader.signed 16 ((255 : UInt8).toNat * 256 + (199 : UInt8).toNat) = -57 := by decide +kernel
theorem sgw_255_200 : Jvm.ClassFile.Reader.signed 16 ((255 : UInt8).toNat * 256 + (200 : UInt8).toNat) = -56 := by decide +kernel
theorem sgw_255_201 : Jvm.ClassFile.Reader.signed 16 ((255 : UInt8).toNat * 256 + (201 : UInt8).toNat) = -55 := by decide +kernel
theorem sgw_255_202 : Jvm.ClassFile.Reader.signed 16 ((255 : UInt8).toNat * 256 + (202 : UInt8).toNat) = -54 := by decide +kernel
theorem sgw_255_203 : Jvm.ClassFile.Reader.signed 16 ((255 : UInt8).toNat * 256 + (203 : UInt8).toNat) = -53 := by decide +kernel
theorem sgw_255_205 : Jvm.ClassFile.Reader.signed 16 ((255 : UInt8).toNat * 256 + (205 : UInt8).toNat) = -51 := by decide +kernel
theorem sgw_255_206 : Jvm.ClassFile.Reader.signed 16 ((255 : UInt8).toNat * 256 + (206 : UInt8).toNat) = -50 := by decide +kernel
theorem sgw_255_207 : Jvm.ClassFile.Reader.signed 16 ((255 : UInt8).toNat * 256 + (207 : UInt8).toNat) = -49 := by decide +kernel
theorem sgw_255_208 : Jvm.ClassFile.Reader.signed 16 ((255 : UInt8).toNat * 256 + (208 : UInt8).toNat) = -48 := by decide +kernel
theorem sgw_255_209 : Jvm.ClassFile.Reader.signed 16 ((255 : UInt8).toNat * 256 + (209 : UInt8).toNat) = -47 := by decide +kernel
theorem sgw_255_210 : Jvm.ClassFile.Reader.signed 16 ((255 : UInt8).toNat * 256 + (210 : UInt8).toNat) = -46 := by decide +kernel
theorem sgw_255_211 : Jvm.ClassFile.Reader.signed 16 ((255 : UInt8).toNat * 256 + (211 : UInt8).toNat) = -45 := by decide +kernel
theorem sgw_255_213 : Jvm.ClassFile.Reader.signed 16 ((255 : UInt8).toNat * 256 + (213 : UInt8).toNat) = -43 := by decide +kernel
theorem sgw_255_214 : Jvm.ClassFile.Reader.signed 16 ((255 : UInt8).toNat * 256 + (214 : UInt8).toNat) = -42 := by decide +kernel
theorem sgw_255_215 : Jvm.ClassFile.Reader.signed 16 ((255 : UInt8).toNat * 256 + (215 : UInt8).toNat) = -41 := by decide +kernel
theorem sgw_255_217 : Jvm.ClassFile.Reader.signed 16 ((255 : UInt8).toNat * 256 + (217 : UInt8).toNat) = -39 := by decide +kernel
theorem sgw_255_218 : Jvm.ClassFile.Reader.signed 16 ((255 : UInt8).toNat * 256 + (218 : UInt8).toNat) = -38 := by decide +kernel
theorem sgw_255_219 : Jvm.ClassFile.Reader.signed 16 ((255 : UInt8).toNat * 256 + (219 : UInt8).toNat) = -37 := by decide +kernel
theorem sgw_255_220 : Jvm.ClassFile.Reader.signed 16 ((255 : UInt8).toNat * 256 + (220 : UInt8).toNat) = -36 := by decide +kernel
theorem sgw_255_221 : Jvm.ClassFile.Reader.signed 16 ((255 : UInt8).toNat * 256 + (221 : UInt8).toNat) = -35 := by decide +kernel
theorem sgw_255_222 : Jvm.ClassFile.Reader.signed 16 ((255 : UInt8).toNat * 256 + (222 : UInt8).toNat) = -34 := by decide +kernel
theorem sgw_255_223 : Jvm.ClassFile.Reader.signed 16 ((255 : UInt8).toNat * 256 + (223 : UInt8).toNat) = -33 := by decide +kernel
theorem sgw_255_224 : Jvm.ClassFile.Reader.signed 16 ((255 : UInt8).toNat * 256 + (224 : UInt8).toNat) = -32 := by decide +kernel
theorem sgw_255_225 : Jvm.ClassFile.Reader.signed 16 ((255 : UInt8).toNat * 256 + (225 : UInt8).toNat) = -31 := by decide +kernel
theorem sgw_255_226 : Jvm.ClassFile.Reader.signed 16 ((255 : UInt8).toNat * 256 + (226 : UInt8).toNat) = -30 := by decide +kernel
theorem sgw_255_227 : Jvm.ClassFile.Reader.signed 16 ((255 : UInt8).toNat * 256 + (227 : UInt8).toNat) = -29 := by decide +kernel
theorem sgw_255_228 : Jvm.ClassFile.Reader.signed 16 ((255 : UInt8).toNat * 256 + (228 : UInt8).toNat) = -28 := by decide +kernel
theorem sgw_255_229 : Jvm.ClassFile.Reader.signed 16 ((255 : UInt8).toNat * 256 + (229 : UInt8).toNat) = -27 := by decide +kernel
theorem sgw_255_230 : Jvm.ClassFile.Reader.signed 16 ((255 : UInt8).toNat * 256 + (230 : UInt8).toNat) = -26 := by decide +kernel
theorem sgw_255_232 : Jvm.ClassFile.Reader.signed 16 ((255 : UInt8).toNat * 256 + (232 : UInt8).toNat) = -24 := by decide +kernel
theorem sgw_255_233 : Jvm.ClassFile.Reader.signed 16 ((255 : UInt8).toNat * 256 + (233 : UInt8).toNat) = -23 := by decide +kernel
theorem sgw_255_234 : Jvm.ClassFile.Reader.signed 16 ((255 : UInt8).toNat * 256 + (234 : UInt8).toNat) = -22 := by decide +kernel
theorem sgw_255_235 : Jvm.ClassFile.Reader.signed 16 ((255 : UInt8).toNat * 256 + (235 : UInt8).toNat) = -21 := by decide +kernel
theorem sgw_255_238 : Jvm.ClassFile.Reader.signed 16 ((255 : UInt8).toNat * 256 + (238 : UInt8).toNat) = -18 := by decide +kernel
theorem sgw_255_239 : Jvm.ClassFile.Reader.signed 16 ((255 : UInt8).toNat * 256 + (239 : UInt8).toNat) = -17 := by decide +kernel
theorem sgw_255_241 : Jvm.ClassFile.Reader.signed 16 ((255 : UInt8).toNat * 256 + (241 : UInt8).toNat) = -15 := by decide +kernel
theorem sgw_255_244 : Jvm.ClassFile.Reader.signed 16 ((255 : UInt8).toNat * 256 + (244 : UInt8).toNat) = -12 := by decide +kernel
theorem sgw_255_40 : Jvm.ClassFile.Reader.signed 16 ((255 : UInt8).toNat * 256 + (40 : UInt8).toNat) = -216 := by decide +kernel
theorem sgw_255_41 : Jvm.ClassFile.Reader.signed 16 ((255 : UInt8).toNat * 256 + (41 : UInt8).toNat) = -215 := by decide +kernel
theorem sgw_255_78 : Jvm.ClassFile.Reader.signed 16 ((255 : UInt8).toNat * 256 + (78 : UInt8).toNat) = -178 := by decide +kernel
theorem sgw_2_101 : Jvm.ClassFile.Reader.signed 16 ((2 : UInt8).toNat * 256 + (101 : UInt8).toNat) = 613 := by decide +kernel
theorem sgw_2_156 : Jvm.ClassFile.Reader.signed 16 ((2 : UInt8).toNat * 256 + (156 : UInt8).toNat) = 668 := by decide +kernel
theorem sgw_2_197 : Jvm.ClassFile.Reader.signed 16 ((2 : UInt8).toNat * 256 + (197 : UInt8).toNat) = 709 := by decide +kernel
theorem sgw_2_22 : Jvm.ClassFile.Reader.signed 16 ((2 : UInt8).toNat * 256 + (22 : UInt8).toNat) = 534 := by decide +kernel
theorem sgw_2_35 : Jvm.ClassFile.Reader.signed 16 ((2 : UInt8).toNat * 256 + (35 : UInt8).toNat) = 547 := by decide +kernel
theorem sgw_2_68 : Jvm.ClassFile.Reader.signed 16 ((2 : UInt8).toNat * 256 + (68 : UInt8).toNat) = 580 := by decide +kernel
theorem sgw_39_16 : Jvm.ClassFile.Reader.signed 16 ((39 : UInt8).toNat * 256 + (16 : UInt8).toNat) = 10000 := by decide +kernel
theorem sgw_3_0 : Jvm.ClassFile.Reader.signed 16 ((3 : UInt8).toNat * 256 + (0 : UInt8).toNat) = 768 := by decide +kernel
theorem sgw_3_132 : Jvm.ClassFile.Reader.signed 16 ((3 : UInt8).toNat * 256 + (132 : UInt8).toNat) = 900 := by decide +kernel
theorem sgw_3_165 : Jvm.ClassFile.Reader.signed 16 ((3 : UInt8).toNat * 256 + (165 : UInt8).toNat) = 933 := by decide +kernel
theorem sgw_3_198 : Jvm.ClassFile.Reader.signed 16 ((3 : UInt8).toNat * 256 + (198 : UInt8).toNat) = 966 := by decide +kernel
theorem sgw_3_23 : Jvm.ClassFile.Reader.signed 16 ((3 : UInt8).toNat * 256 + (23 : UInt8).toNat) = 791 := by decide +kernel
theorem sgw_3_231 : Jvm.ClassFile.Reader.signed 16 ((3 : UInt8).toNat * 256 + (231 : UInt8).toNat) = 999 := by decide +kernel
theorem sgw_3_232 : Jvm.ClassFile.Reader.signed 16 ((3 : UInt8).toNat * 256 + (232 : UInt8).toNat) = 1000 := by decide +kernel
theorem sgw_3_56 : Jvm.ClassFile.Reader.signed 16 ((3 : UInt8).toNat * 256 + (56 : UInt8).toNat) = 824 := by decide +kernel
theorem sgw_3_99 : Jvm.ClassFile.Reader.signed 16 ((3 : UInt8).toNat * 256 + (99 : UInt8).toNat) = 867 := by decide +kernel
theorem sgw_4_130 : Jvm.ClassFile.Reader.signed 16 ((4 : UInt8).toNat * 256 + (130 : UInt8).toNat) = 1154 := by decide +kernel
theorem sgw_4_163 : Jvm.ClassFile.Reader.signed 16 ((4 : UInt8).toNat * 256 + (163 : UInt8).toNat) = 1187 := by decide +kernel
theorem sgw_4_176 : Jvm.ClassFile.Reader.signed 16 ((4 : UInt8).toNat * 256 + (176 : UInt8).toNat) = 1200 := by decide +kernel
theorem sgw_4_196 : Jvm.ClassFile.Reader.signed 16 ((4 : UInt8).toNat * 256 + (196 : UInt8).toNat) = 1220 := by decide +kernel
theorem sgw_4_229 : Jvm.ClassFile.Reader.signed 16 ((4 : UInt8).toNat * 256 + (229 : UInt8).toNat) = 1253 := by decide +kernel
theorem sgw_4_41 : Jvm.ClassFile.Reader.signed 16 ((4 : UInt8).toNat * 256 + (41 : UInt8).toNat) = 1065 := by decide +kernel
theorem sgw_4_64 : Jvm.ClassFile.Reader.signed 16 ((4 : UInt8).toNat * 256 + (64 : UInt8).toNat) = 1088 := by decide +kernel
theorem sgw_4_8 : Jvm.ClassFile.Reader.signed 16 ((4 : UInt8).toNat * 256 + (8 : UInt8).toNat) = 1032 := by decide +kernel
theorem sgw_4_97 : Jvm.ClassFile.Reader.signed 16 ((4 : UInt8).toNat * 256 + (97 : UInt8).toNat) = 1121 := by decide +kernel
theorem sgw_5_125 : Jvm.ClassFile.Reader.signed 16 ((5 : UInt8).toNat * 256 + (125 : UInt8).toNat) = 1405 := by decide +kernel
theorem sgw_5_138 : Jvm.ClassFile.Reader.signed 16 ((5 : UInt8).toNat * 256 + (138 : UInt8).toNat) = 1418 := by decide +kernel
theorem sgw_5_16 : Jvm.ClassFile.Reader.signed 16 ((5 : UInt8).toNat * 256 + (16 : UInt8).toNat) = 1296 := by decide +kernel
theorem sgw_5_171 : Jvm.ClassFile.Reader.signed 16 ((5 : UInt8).toNat * 256 + (171 : UInt8).toNat) = 1451 := by decide +kernel
theorem sgw_5_194 : Jvm.ClassFile.Reader.signed 16 ((5 : UInt8).toNat * 256 + (194 : UInt8).toNat) = 1474 := by decide +kernel
theorem sgw_5_217 : Jvm.ClassFile.Reader.signed 16 ((5 : UInt8).toNat * 256 + (217 : UInt8).toNat) = 1497 := by decide +kernel
theorem sgw_5_49 : Jvm.ClassFile.Reader.signed 16 ((5 : UInt8).toNat * 256 + (49 : UInt8).toNat) = 1329 := by decide +kernel
theorem sgw_5_72 : Jvm.ClassFile.Reader.signed 16 ((5 : UInt8).toNat * 256 + (72 : UInt8).toNat) = 1352 := by decide +kernel
theorem sgw_6_116 : Jvm.ClassFile.Reader.signed 16 ((6 : UInt8).toNat * 256 + (116 : UInt8).toNat) = 1652 := by decide +kernel
theorem sgw_6_149 : Jvm.ClassFile.Reader.signed 16 ((6 : UInt8).toNat * 256 + (149 : UInt8).toNat) = 1685 := by decide +kernel
theorem sgw_6_172 : Jvm.ClassFile.Reader.signed 16 ((6 : UInt8).toNat * 256 + (172 : UInt8).toNat) = 1708 := by decide +kernel
theorem sgw_6_205 : Jvm.ClassFile.Reader.signed 16 ((6 : UInt8).toNat * 256 + (205 : UInt8).toNat) = 1741 := by decide +kernel
theorem sgw_6_37 : Jvm.ClassFile.Reader.signed 16 ((6 : UInt8).toNat * 256 + (37 : UInt8).toNat) = 1573 := by decide +kernel
theorem sgw_6_4 : Jvm.ClassFile.Reader.signed 16 ((6 : UInt8).toNat * 256 + (4 : UInt8).toNat) = 1540 := by decide +kernel
theorem sgw_6_60 : Jvm.ClassFile.Reader.signed 16 ((6 : UInt8).toNat * 256 + (60 : UInt8).toNat) = 1596 := by decide +kernel
theorem sgw_6_93 : Jvm.ClassFile.Reader.signed 16 ((6 : UInt8).toNat * 256 + (93 : UInt8).toNat) = 1629 := by decide +kernel
theorem sgw_7_12 : Jvm.ClassFile.Reader.signed 16 ((7 : UInt8).toNat * 256 + (12 : UInt8).toNat) = 1804 := by decide +kernel
theorem sgw_7_120 : Jvm.ClassFile.Reader.signed 16 ((7 : UInt8).toNat * 256 + (120 : UInt8).toNat) = 1912 := by decide +kernel
theorem sgw_7_173 : Jvm.ClassFile.Reader.signed 16 ((7 : UInt8).toNat * 256 + (173 : UInt8).toNat) = 1965 := by decide +kernel
theorem sgw_7_188 : Jvm.ClassFile.Reader.signed 16 ((7 : UInt8).toNat * 256 + (188 : UInt8).toNat) = 1980 := by decide +kernel
theorem sgw_7_208 : Jvm.ClassFile.Reader.signed 16 ((7 : UInt8).toNat * 256 + (208 : UInt8).toNat) = 2000 := by decide +kernel
theorem sgw_7_87 : Jvm.ClassFile.Reader.signed 16 ((7 : UInt8).toNat * 256 + (87 : UInt8).toNat) = 1879 := by decide +kernel
theorem sgw_8_0 : Jvm.ClassFile.Reader.signed 16 ((8 : UInt8).toNat * 256 + (0 : UInt8).toNat) = 2048 := by decide +kernel
theorem sgw_8_203 : Jvm.ClassFile.Reader.signed 16 ((8 : UInt8).toNat * 256 + (203 : UInt8).toNat) = 2251 := by decide +kernel
theorem ub_1 : (1 : UInt8).toNat = 1 := rfl
theorem ub_10 : (10 : UInt8).toNat = 10 := rfl
theorem ub_11 : (11 : UInt8).toNat = 11 := rfl
theorem ub_110 : (110 : UInt8).toNat = 110 := rfl
theorem ub_13 : (13 : UInt8).toNat = 13 := rfl
theorem ub_2 : (2 : UInt8).toNat = 2 := rfl
theorem ub_200 : (200 : UInt8).toNat = 200 := rfl
theorem ub_222 : (222 : UInt8).toNat = 222 := rfl
theorem ub_3 : (3 : UInt8).toNat = 3 := rfl
theorem ub_32 : (32 : UInt8).toNat = 32 := rfl
theorem ub_4 : (4 : UInt8).toNat = 4 := rfl
theorem ub_43 : (43 : UInt8).toNat = 43 := rfl
theorem ub_5 : (5 : UInt8).toNat = 5 := rfl
theorem ub_6 : (6 : UInt8).toNat = 6 := rfl
theorem ub_62 : (62 : UInt8).toNat = 62 := rfl
theorem ub_7 : (7 : UInt8).toNat = 7 := rfl
theorem ub_8 : (8 : UInt8).toNat = 8 := rfl
theorem ub_9 : (9 : UInt8).toNat = 9 := rfl
theorem ub_98 : (98 : UInt8).toNat = 98 := rfl
theorem uw_0_1 : (0 : UInt8).toNat * 256 + (1 : UInt8).toNat = 1 := by decide +kernel
theorem uw_0_10 : (0 : UInt8).toNat * 256 + (10 : UInt8).toNat = 10 := by decide +kernel
theorem uw_0_100 : (0 : UInt8).toNat * 256 + (100 : UInt8).toNat = 100 := by decide +kernel
theorem uw_0_101 : (0 : UInt8).toNat * 256 + (101 : UInt8).toNat = 101 := by decide +kernel
theorem uw_0_102 : (0 : UInt8).toNat * 256 + (102 : UInt8).toNat = 102 := by decide +kernel
theorem uw_0_103 : (0 : UInt8).toNat * 256 + (103 : UInt8).toNat = 103 := by decide +kernel
theorem uw_0_104 : (0 : UInt8).toNat * 256 + (104 : UInt8).toNat = 104 := by decide +kernel
theorem uw_0_105 : (0 : UInt8).toNat * 256 + (105 : UInt8).toNat = 105 := by decide +kernel
theorem uw_0_106 : (0 : UInt8).toNat * 256 + (106 : UInt8).toNat = 106 := by decide +kernel
theorem uw_0_107 : (0 : UInt8).toNat * 256 + (107 : UInt8).toNat = 107 := by decide +kernel
theorem uw_0_108 : (0 : UInt8).toNat * 256 + (108 : UInt8).toNat = 108 := by decide +kernel
theorem uw_0_109 : (0 : UInt8).toNat * 256 + (109 : UInt8).toNat = 109 := by decide +kernel
theorem uw_0_11 : (0 : UInt8).toNat * 256 + (11 : UInt8).toNat = 11 := by decide +kernel
theorem uw_0_110 : (0 : UInt8).toNat * 256 + (110 : UInt8).toNat = 110 := by decide +kernel
theorem uw_0_111 : (0 : UInt8).toNat * 256 + (111 : UInt8).toNat = 111 := by decide +kernel
theorem uw_0_112 : (0 : UInt8).toNat * 256 + (112 : UInt8).toNat = 112 := by decide +kernel
theorem uw_0_113 : (0 : UInt8).toNat * 256 + (113 : UInt8).toNat = 113 := by decide +kernel
theorem uw_0_114 : (0 : UInt8).toNat * 256 + (114 : UInt8).toNat = 114 := by decide +kernel
theorem uw_0_115 : (0 : UInt8).toNat * 256 + (115 : UInt8).toNat = 115 := by decide +kernel
theorem uw_0_116 : (0 : UInt8).toNat * 256 + (116 : UInt8).toNat = 116 := by decide +kernel
theorem uw_0_118 : (0 : UInt8).toNat * 256 + (118 : UInt8).toNat = 118 := by decide +kernel
theorem uw_0_119 : (0 : UInt8).toNat * 256 + (119 : UInt8).toNat = 119 := by decide +kernel
theorem uw_0_12 : (0 : UInt8).toNat * 256 + (12 : UInt8).toNat = 12 := by decide +kernel
theorem uw_0_120 : (0 : UInt8).toNat * 256 + (120 : UInt8).toNat = 120 := by decide +kernel
theorem uw_0_121 : (0 : UInt8).toNat * 256 + (121 : UInt8).toNat = 121 := by decide +kernel
theorem uw_0_122 : (0 : UInt8).toNat * 256 + (122 : UInt8).toNat = 122 := by decide +kernel
theorem uw_0_123 : (0 : UInt8).toNat * 256 + (123 : UInt8).toNat = 123 := by decide +kernel
theorem uw_0_124 : (0 : UInt8).toNat * 256 + (124 : UInt8).toNat = 124 := by decide +kernel
theorem uw_0_125 : (0 : UInt8).toNat * 256 + (125 : UInt8).toNat = 125 := by decide +kernel
theorem uw_0_127 : (0 : UInt8).toNat * 256 + (127 : UInt8).toNat = 127 := by decide +kernel
theorem uw_0_128 : (0 : UInt8).toNat * 256 + (128 : UInt8).toNat = 128 := by decide +kernel
theorem uw_0_129 : (0 : UInt8).toNat * 256 + (129 : UInt8).toNat = 129 := by decide +kernel
theorem uw_0_13 : (0 : UInt8).toNat * 256 + (13 : UInt8).toNat = 13 := by decide +kernel
theorem uw_0_131 : (0 : UInt8).toNat * 256 + (131 : UInt8).toNat = 131 := by decide +kernel
theorem uw_0_132 : (0 : UInt8).toNat * 256 + (132 : UInt8).toNat = 132 := by decide +kernel
theorem uw_0_134 : (0 : UInt8).toNat * 256 + (134 : UInt8).toNat = 134 := by decide +kernel
theorem uw_0_135 : (0 : UInt8).toNat * 256 + (135 : UInt8).toNat = 135 := by decide +kernel
theorem uw_0_136 : (0 : UInt8).toNat * 256 + (136 : UInt8).toNat = 136 := by decide +kernel
theorem uw_0_137 : (0 : UInt8).toNat * 256 + (137 : UInt8).toNat = 137 := by decide +kernel
theorem uw_0_138 : (0 : UInt8).toNat * 256 + (138 : UInt8).toNat = 138 := by decide +kernel
theorem uw_0_139 : (0 : UInt8).toNat * 256 + (139 : UInt8).toNat = 139 := by decide +kernel
theorem uw_0_140 : (0 : UInt8).toNat * 256 + (140 : UInt8).toNat = 140 := by decide +kernel
theorem uw_0_141 : (0 : UInt8).toNat * 256 + (141 : UInt8).toNat = 141 := by decide +kernel
theorem uw_0_143 : (0 : UInt8).toNat * 256 + (143 : UInt8).toNat = 143 := by decide +kernel
theorem uw_0_144 : (0 : UInt8).toNat * 256 + (144 : UInt8).toNat = 144 := by decide +kernel
theorem uw_0_147 : (0 : UInt8).toNat * 256 + (147 : UInt8).toNat = 147 := by decide +kernel
theorem uw_0_148 : (0 : UInt8).toNat * 256 + (148 : UInt8).toNat = 148 := by decide +kernel
theorem uw_0_15 : (0 : UInt8).toNat * 256 + (15 : UInt8).toNat = 15 := by decide +kernel
theorem uw_0_150 : (0 : UInt8).toNat * 256 + (150 : UInt8).toNat = 150 := by decide +kernel
theorem uw_0_151 : (0 : UInt8).toNat * 256 + (151 : UInt8).toNat = 151 := by decide +kernel
theorem uw_0_152 : (0 : UInt8).toNat * 256 + (152 : UInt8).toNat = 152 := by decide +kernel
theorem uw_0_153 : (0 : UInt8).toNat * 256 + (153 : UInt8).toNat = 153 := by decide +kernel
theorem uw_0_155 : (0 : UInt8).toNat * 256 + (155 : UInt8).toNat = 155 := by decide +kernel
theorem uw_0_156 : (0 : UInt8).toNat * 256 + (156 : UInt8).toNat = 156 := by decide +kernel
theorem uw_0_158 : (0 : UInt8).toNat * 256 + (158 : UInt8).toNat = 158 := by decide +kernel
theorem uw_0_159 : (0 : UInt8).toNat * 256 + (159 : UInt8).toNat = 159 := by decide +kernel
theorem uw_0_16 : (0 : UInt8).toNat * 256 + (16 : UInt8).toNat = 16 := by decide +kernel
theorem uw_0_160 : (0 : UInt8).toNat * 256 + (160 : UInt8).toNat = 160 := by decide +kernel
theorem uw_0_161 : (0 : UInt8).toNat * 256 + (161 : UInt8).toNat = 161 := by decide +kernel
theorem uw_0_162 : (0 : UInt8).toNat * 256 + (162 : UInt8).toNat = 162 := by decide +kernel
theorem uw_0_164 : (0 : UInt8).toNat * 256 + (164 : UInt8).toNat = 164 := by decide +kernel
theorem uw_0_165 : (0 : UInt8).toNat * 256 + (165 : UInt8).toNat = 165 := by decide +kernel
theorem uw_0_168 : (0 : UInt8).toNat * 256 + (168 : UInt8).toNat = 168 := by decide +kernel
theorem uw_0_169 : (0 : UInt8).toNat * 256 + (169 : UInt8).toNat = 169 := by decide +kernel
theorem uw_0_17 : (0 : UInt8).toNat * 256 + (17 : UInt8).toNat = 17 := by decide +kernel
theorem uw_0_171 : (0 : UInt8).toNat * 256 + (171 : UInt8).toNat = 171 := by decide +kernel
theorem uw_0_173 : (0 : UInt8).toNat * 256 + (173 : UInt8).toNat = 173 := by decide +kernel
theorem uw_0_174 : (0 : UInt8).toNat * 256 + (174 : UInt8).toNat = 174 := by decide +kernel
theorem uw_0_177 : (0 : UInt8).toNat * 256 + (177 : UInt8).toNat = 177 := by decide +kernel
theorem uw_0_178 : (0 : UInt8).toNat * 256 + (178 : UInt8).toNat = 178 := by decide +kernel
theorem uw_0_18 : (0 : UInt8).toNat * 256 + (18 : UInt8).toNat = 18 := by decide +kernel
theorem uw_0_180 : (0 : UInt8).toNat * 256 + (180 : UInt8).toNat = 180 := by decide +kernel
theorem uw_0_181 : (0 : UInt8).toNat * 256 + (181 : UInt8).toNat = 181 := by decide +kernel
theorem uw_0_182 : (0 : UInt8).toNat * 256 + (182 : UInt8).toNat = 182 := by decide +kernel
theorem uw_0_183 : (0 : UInt8).toNat * 256 + (183 : UInt8).toNat = 183 := by decide +kernel
theorem uw_0_184 : (0 : UInt8).toNat * 256 + (184 : UInt8).toNat = 184 := by decide +kernel
theorem uw_0_185 : (0 : UInt8).toNat * 256 + (185 : UInt8).toNat = 185 := by decide +kernel
theorem uw_0_186 : (0 : UInt8).toNat * 256 + (186 : UInt8).toNat = 186 := by decide +kernel
theorem uw_0_188 : (0 : UInt8).toNat * 256 + (188 : UInt8).toNat = 188 := by decide +kernel
theorem uw_0_189 : (0 : UInt8).toNat * 256 + (189 : UInt8).toNat = 189 := by decide +kernel
theorem uw_0_19 : (0 : UInt8).toNat * 256 + (19 : UInt8).toNat = 19 := by decide +kernel
theorem uw_0_190 : (0 : UInt8).toNat * 256 + (190 : UInt8).toNat = 190 := by decide +kernel
theorem uw_0_192 : (0 : UInt8).toNat * 256 + (192 : UInt8).toNat = 192 := by decide +kernel
theorem uw_0_193 : (0 : UInt8).toNat * 256 + (193 : UInt8).toNat = 193 := by decide +kernel
theorem uw_0_194 : (0 : UInt8).toNat * 256 + (194 : UInt8).toNat = 194 := by decide +kernel
theorem uw_0_195 : (0 : UInt8).toNat * 256 + (195 : UInt8).toNat = 195 := by decide +kernel
theorem uw_0_196 : (0 : UInt8).toNat * 256 + (196 : UInt8).toNat = 196 := by decide +kernel
theorem uw_0_197 : (0 : UInt8).toNat * 256 + (197 : UInt8).toNat = 197 := by decide +kernel
theorem uw_0_198 : (0 : UInt8).toNat * 256 + (198 : UInt8).toNat = 198 := by decide +kernel
theorem uw_0_199 : (0 : UInt8).toNat * 256 + (199 : UInt8).toNat = 199 := by decide +kernel
theorem uw_0_2 : (0 : UInt8).toNat * 256 + (2 : UInt8).toNat = 2 := by decide +kernel
theorem uw_0_20 : (0 : UInt8).toNat * 256 + (20 : UInt8).toNat = 20 := by decide +kernel
theorem uw_0_201 : (0 : UInt8).toNat * 256 + (201 : UInt8).toNat = 201 := by decide +kernel
theorem uw_0_202 : (0 : UInt8).toNat * 256 + (202 : UInt8).toNat = 202 := by decide +kernel
theorem uw_0_204 : (0 : UInt8).toNat * 256 + (204 : UInt8).toNat = 204 := by decide +kernel
theorem uw_0_205 : (0 : UInt8).toNat * 256 + (205 : UInt8).toNat = 205 := by decide +kernel
theorem uw_0_206 : (0 : UInt8).toNat * 256 + (206 : UInt8).toNat = 206 := by decide +kernel
theorem uw_0_208 : (0 : UInt8).toNat * 256 + (208 : UInt8).toNat = 208 := by decide +kernel
theorem uw_0_209 : (0 : UInt8).toNat * 256 + (209 : UInt8).toNat = 209 := by decide +kernel
theorem uw_0_21 : (0 : UInt8).toNat * 256 + (21 : UInt8).toNat = 21 := by decide +kernel
theorem uw_0_210 : (0 : UInt8).toNat * 256 + (210 : UInt8).toNat = 210 := by decide +kernel
theorem uw_0_211 : (0 : UInt8).toNat * 256 + (211 : UInt8).toNat = 211 := by decide +kernel
theorem uw_0_213 : (0 : UInt8).toNat * 256 + (213 : UInt8).toNat = 213 := by decide +kernel
theorem uw_0_214 : (0 : UInt8).toNat * 256 + (214 : UInt8).toNat = 214 := by decide +kernel
theorem uw_0_217 : (0 : UInt8).toNat * 256 + (217 : UInt8).toNat = 217 := by decide +kernel
theorem uw_0_218 : (0 : UInt8).toNat * 256 + (218 : UInt8).toNat = 218 := by decide +kernel
theorem uw_0_22 : (0 : UInt8).toNat * 256 + (22 : UInt8).toNat = 22 := by decide +kernel
theorem uw_0_221 : (0 : UInt8).toNat * 256 + (221 : UInt8).toNat = 221 := by decide +kernel
theorem uw_0_222 : (0 : UInt8).toNat * 256 + (222 : UInt8).toNat = 222 := by decide +kernel
theorem uw_0_223 : (0 : UInt8).toNat * 256 + (223 : UInt8).toNat = 223 := by decide +kernel
theorem uw_0_225 : (0 : UInt8).toNat * 256 + (225 : UInt8).toNat = 225 := by decide +kernel
theorem uw_0_226 : (0 : UInt8).toNat * 256 + (226 : UInt8).toNat = 226 := by decide +kernel
theorem uw_0_227 : (0 : UInt8).toNat * 256 + (227 : UInt8).toNat = 227 := by decide +kernel
theorem uw_0_229 : (0 : UInt8).toNat * 256 + (229 : UInt8).toNat = 229 := by decide +kernel
theorem uw_0_23 : (0 : UInt8).toNat * 256 + (23 : UInt8).toNat = 23 := by decide +kernel
theorem uw_0_230 : (0 : UInt8).toNat * 256 + (230 : UInt8).toNat = 230 := by decide +kernel
theorem uw_0_232 : (0 : UInt8).toNat * 256 + (232 : UInt8).toNat = 232 := by decide +kernel
theorem uw_0_233 : (0 : UInt8).toNat * 256 + (233 : UInt8).toNat = 233 := by decide +kernel
theorem uw_0_234 : (0 : UInt8).toNat * 256 + (234 : UInt8).toNat = 234 := by decide +kernel
theorem uw_0_235 : (0 : UInt8).toNat * 256 + (235 : UInt8).toNat = 235 := by decide +kernel
theorem uw_0_236 : (0 : UInt8).toNat * 256 + (236 : UInt8).toNat = 236 := by decide +kernel
theorem uw_0_237 : (0 : UInt8).toNat * 256 + (237 : UInt8).toNat = 237 := by decide +kernel
theorem uw_0_238 : (0 : UInt8).toNat * 256 + (238 : UInt8).toNat = 238 := by decide +kernel
theorem uw_0_239 : (0 : UInt8).toNat * 256 + (239 : UInt8).toNat = 239 := by decide +kernel
theorem uw_0_24 : (0 : UInt8).toNat * 256 + (24 : UInt8).toNat = 24 := by decide +kernel
theorem uw_0_241 : (0 : UInt8).toNat * 256 + (241 : UInt8).toNat = 241 := by decide +kernel
theorem uw_0_242 : (0 : UInt8).toNat * 256 + (242 : UInt8).toNat = 242 := by decide +kernel
theorem uw_0_243 : (0 : UInt8).toNat * 256 + (243 : UInt8).toNat = 243 := by decide +kernel
theorem uw_0_245 : (0 : UInt8).toNat * 256 + (245 : UInt8).toNat = 245 := by decide +kernel
theorem uw_0_246 : (0 : UInt8).toNat * 256 + (246 : UInt8).toNat = 246 := by decide +kernel
theorem uw_0_249 : (0 : UInt8).toNat * 256 + (249 : UInt8).toNat = 249 := by decide +kernel
theorem uw_0_25 : (0 : UInt8).toNat * 256 + (25 : UInt8).toNat = 25 := by decide +kernel
theorem uw_0_250 : (0 : UInt8).toNat * 256 + (250 : UInt8).toNat = 250 := by decide +kernel
theorem uw_0_253 : (0 : UInt8).toNat * 256 + (253 : UInt8).toNat = 253 := by decide +kernel
theorem uw_0_254 : (0 : UInt8).toNat * 256 + (254 : UInt8).toNat = 254 := by decide +kernel
theorem uw_0_27 : (0 : UInt8).toNat * 256 + (27 : UInt8).toNat = 27 := by decide +kernel
theorem uw_0_28 : (0 : UInt8).toNat * 256 + (28 : UInt8).toNat = 28 := by decide +kernel
theorem uw_0_29 : (0 : UInt8).toNat * 256 + (29 : UInt8).toNat = 29 := by decide +kernel
theorem uw_0_3 : (0 : UInt8).toNat * 256 + (3 : UInt8).toNat = 3 := by decide +kernel
theorem uw_0_30 : (0 : UInt8).toNat * 256 + (30 : UInt8).toNat = 30 := by decide +kernel
theorem uw_0_31 : (0 : UInt8).toNat * 256 + (31 : UInt8).toNat = 31 := by decide +kernel
theorem uw_0_32 : (0 : UInt8).toNat * 256 + (32 : UInt8).toNat = 32 := by decide +kernel
theorem uw_0_33 : (0 : UInt8).toNat * 256 + (33 : UInt8).toNat = 33 := by decide +kernel
theorem uw_0_34 : (0 : UInt8).toNat * 256 + (34 : UInt8).toNat = 34 := by decide +kernel
theorem uw_0_36 : (0 : UInt8).toNat * 256 + (36 : UInt8).toNat = 36 := by decide +kernel
theorem uw_0_37 : (0 : UInt8).toNat * 256 + (37 : UInt8).toNat = 37 := by decide +kernel
theorem uw_0_38 : (0 : UInt8).toNat * 256 + (38 : UInt8).toNat = 38 := by decide +kernel
theorem uw_0_39 : (0 : UInt8).toNat * 256 + (39 : UInt8).toNat = 39 := by decide +kernel
theorem uw_0_40 : (0 : UInt8).toNat * 256 + (40 : UInt8).toNat = 40 := by decide +kernel
theorem uw_0_41 : (0 : UInt8).toNat * 256 + (41 : UInt8).toNat = 41 := by decide +kernel
theorem uw_0_42 : (0 : UInt8).toNat * 256 + (42 : UInt8).toNat = 42 := by decide +kernel
theorem uw_0_43 : (0 : UInt8).toNat * 256 + (43 : UInt8).toNat = 43 := by decide +kernel
theorem uw_0_44 : (0 : UInt8).toNat * 256 + (44 : UInt8).toNat = 44 := by decide +kernel
theorem uw_0_45 : (0 : UInt8).toNat * 256 + (45 : UInt8).toNat = 45 := by decide +kernel
theorem uw_0_46 : (0 : UInt8).toNat * 256 + (46 : UInt8).toNat = 46 := by decide +kernel
theorem uw_0_47 : (0 : UInt8).toNat * 256 + (47 : UInt8).toNat = 47 := by decide +kernel
theorem uw_0_48 : (0 : UInt8).toNat * 256 + (48 : UInt8).toNat = 48 := by decide +kernel
theorem uw_0_49 : (0 : UInt8).toNat * 256 + (49 : UInt8).toNat = 49 := by decide +kernel
theorem uw_0_5 : (0 : UInt8).toNat * 256 + (5 : UInt8).toNat = 5 := by decide +kernel
theorem uw_0_50 : (0 : UInt8).toNat * 256 + (50 : UInt8).toNat = 50 := by decide +kernel
theorem uw_0_51 : (0 : UInt8).toNat * 256 + (51 : UInt8).toNat = 51 := by decide +kernel
theorem uw_0_52 : (0 : UInt8).toNat * 256 + (52 : UInt8).toNat = 52 := by decide +kernel
theorem uw_0_53 : (0 : UInt8).toNat * 256 + (53 : UInt8).toNat = 53 := by decide +kernel
theorem uw_0_54 : (0 : UInt8).toNat * 256 + (54 : UInt8).toNat = 54 := by decide +kernel
theorem uw_0_55 : (0 : UInt8).toNat * 256 + (55 : UInt8).toNat = 55 := by decide +kernel
theorem uw_0_56 : (0 : UInt8).toNat * 256 + (56 : UInt8).toNat = 56 := by decide +kernel
theorem uw_0_58 : (0 : UInt8).toNat * 256 + (58 : UInt8).toNat = 58 := by decide +kernel
theorem uw_0_59 : (0 : UInt8).toNat * 256 + (59 : UInt8).toNat = 59 := by decide +kernel
theorem uw_0_60 : (0 : UInt8).toNat * 256 + (60 : UInt8).toNat = 60 := by decide +kernel
theorem uw_0_61 : (0 : UInt8).toNat * 256 + (61 : UInt8).toNat = 61 := by decide +kernel
theorem uw_0_62 : (0 : UInt8).toNat * 256 + (62 : UInt8).toNat = 62 := by decide +kernel
theorem uw_0_63 : (0 : UInt8).toNat * 256 + (63 : UInt8).toNat = 63 := by decide +kernel
theorem uw_0_64 : (0 : UInt8).toNat * 256 + (64 : UInt8).toNat = 64 := by decide +kernel
theorem uw_0_65 : (0 : UInt8).toNat * 256 + (65 : UInt8).toNat = 65 := by decide +kernel
theorem uw_0_66 : (0 : UInt8).toNat * 256 + (66 : UInt8).toNat = 66 := by decide +kernel
theorem uw_0_67 : (0 : UInt8).toNat * 256 + (67 : UInt8).toNat = 67 := by decide +kernel
theorem uw_0_68 : (0 : UInt8).toNat * 256 + (68 : UInt8).toNat = 68 := by decide +kernel
theorem uw_0_69 : (0 : UInt8).toNat * 256 + (69 : UInt8).toNat = 69 := by decide +kernel
theorem uw_0_7 : (0 : UInt8).toNat * 256 + (7 : UInt8).toNat = 7 := by decide +kernel
theorem uw_0_71 : (0 : UInt8).toNat * 256 + (71 : UInt8).toNat = 71 := by decide +kernel
theorem uw_0_72 : (0 : UInt8).toNat * 256 + (72 : UInt8).toNat = 72 := by decide +kernel
theorem uw_0_73 : (0 : UInt8).toNat * 256 + (73 : UInt8).toNat = 73 := by decide +kernel
theorem uw_0_74 : (0 : UInt8).toNat * 256 + (74 : UInt8).toNat = 74 := by decide +kernel
theorem uw_0_75 : (0 : UInt8).toNat * 256 + (75 : UInt8).toNat = 75 := by decide +kernel
theorem uw_0_76 : (0 : UInt8).toNat * 256 + (76 : UInt8).toNat = 76 := by decide +kernel
theorem uw_0_77 : (0 : UInt8).toNat * 256 + (77 : UInt8).toNat = 77 := by decide +kernel
theorem uw_0_78 : (0 : UInt8).toNat * 256 + (78 : UInt8).toNat = 78 := by decide +kernel
theorem uw_0_79 : (0 : UInt8).toNat * 256 + (79 : UInt8).toNat = 79 := by decide +kernel
theorem uw_0_80 : (0 : UInt8).toNat * 256 + (80 : UInt8).toNat = 80 := by decide +kernel
theorem uw_0_81 : (0 : UInt8).toNat * 256 + (81 : UInt8).toNat = 81 := by decide +kernel
theorem uw_0_82 : (0 : UInt8).toNat * 256 + (82 : UInt8).toNat = 82 := by decide +kernel
theorem uw_0_83 : (0 : UInt8).toNat * 256 + (83 : UInt8).toNat = 83 := by decide +kernel
theorem uw_0_84 : (0 : UInt8).toNat * 256 + (84 : UInt8).toNat = 84 := by decide +kernel
theorem uw_0_85 : (0 : UInt8).toNat * 256 + (85 : UInt8).toNat = 85 := by decide +kernel
theorem uw_0_86 : (0 : UInt8).toNat * 256 + (86 : UInt8).toNat = 86 := by decide +kernel
theorem uw_0_87 : (0 : UInt8).toNat * 256 + (87 : UInt8).toNat = 87 := by decide +kernel
theorem uw_0_88 : (0 : UInt8).toNat * 256 + (88 : UInt8).toNat = 88 := by decide +kernel
theorem uw_0_89 : (0 : UInt8).toNat * 256 + (89 : UInt8).toNat = 89 := by decide +kernel
theorem uw_0_9 : (0 : UInt8).toNat * 256 + (9 : UInt8).toNat = 9 := by decide +kernel
theorem uw_0_90 : (0 : UInt8).toNat * 256 + (90 : UInt8).toNat = 90 := by decide +kernel
theorem uw_0_91 : (0 : UInt8).toNat * 256 + (91 : UInt8).toNat = 91 := by decide +kernel
theorem uw_0_92 : (0 : UInt8).toNat * 256 + (92 : UInt8).toNat = 92 := by decide +kernel
theorem uw_0_93 : (0 : UInt8).toNat * 256 + (93 : UInt8).toNat = 93 := by decide +kernel
theorem uw_0_94 : (0 : UInt8).toNat * 256 + (94 : UInt8).toNat = 94 := by decide +kernel
theorem uw_0_95 : (0 : UInt8).toNat * 256 + (95 : UInt8).toNat = 95 := by decide +kernel
theorem uw_0_97 : (0 : UInt8).toNat * 256 + (97 : UInt8).toNat = 97 := by decide +kernel
theorem uw_0_98 : (0 : UInt8).toNat * 256 + (98 : UInt8).toNat = 98 := by decide +kernel
theorem uw_0_99 : (0 : UInt8).toNat * 256 + (99 : UInt8).toNat = 99 := by decide +kernel
theorem uw_1_0 : (1 : UInt8).toNat * 256 + (0 : UInt8).toNat = 256 := by decide +kernel
theorem uw_1_1 : (1 : UInt8).toNat * 256 + (1 : UInt8).toNat = 257 := by decide +kernel
theorem uw_1_10 : (1 : UInt8).toNat * 256 + (10 : UInt8).toNat = 266 := by decide +kernel
theorem uw_1_101 : (1 : UInt8).toNat * 256 + (101 : UInt8).toNat = 357 := by decide +kernel
theorem uw_1_102 : (1 : UInt8).toNat * 256 + (102 : UInt8).toNat = 358 := by decide +kernel
theorem uw_1_104 : (1 : UInt8).toNat * 256 + (104 : UInt8).toNat = 360 := by decide +kernel
theorem uw_1_106 : (1 : UInt8).toNat * 256 + (106 : UInt8).toNat = 362 := by decide +kernel
theorem uw_1_107 : (1 : UInt8).toNat * 256 + (107 : UInt8).toNat = 363 := by decide +kernel
theorem uw_1_108 : (1 : UInt8).toNat * 256 + (108 : UInt8).toNat = 364 := by decide +kernel
theorem uw_1_11 : (1 : UInt8).toNat * 256 + (11 : UInt8).toNat = 267 := by decide +kernel
theorem uw_1_111 : (1 : UInt8).toNat * 256 + (111 : UInt8).toNat = 367 := by decide +kernel
theorem uw_1_114 : (1 : UInt8).toNat * 256 + (114 : UInt8).toNat = 370 := by decide +kernel
theorem uw_1_115 : (1 : UInt8).toNat * 256 + (115 : UInt8).toNat = 371 := by decide +kernel
theorem uw_1_118 : (1 : UInt8).toNat * 256 + (118 : UInt8).toNat = 374 := by decide +kernel
theorem uw_1_121 : (1 : UInt8).toNat * 256 + (121 : UInt8).toNat = 377 := by decide +kernel
theorem uw_1_122 : (1 : UInt8).toNat * 256 + (122 : UInt8).toNat = 378 := by decide +kernel
theorem uw_1_124 : (1 : UInt8).toNat * 256 + (124 : UInt8).toNat = 380 := by decide +kernel
theorem uw_1_125 : (1 : UInt8).toNat * 256 + (125 : UInt8).toNat = 381 := by decide +kernel
theorem uw_1_126 : (1 : UInt8).toNat * 256 + (126 : UInt8).toNat = 382 := by decide +kernel
theorem uw_1_127 : (1 : UInt8).toNat * 256 + (127 : UInt8).toNat = 383 := by decide +kernel
theorem uw_1_129 : (1 : UInt8).toNat * 256 + (129 : UInt8).toNat = 385 := by decide +kernel
theorem uw_1_130 : (1 : UInt8).toNat * 256 + (130 : UInt8).toNat = 386 := by decide +kernel
theorem uw_1_132 : (1 : UInt8).toNat * 256 + (132 : UInt8).toNat = 388 := by decide +kernel
theorem uw_1_133 : (1 : UInt8).toNat * 256 + (133 : UInt8).toNat = 389 := by decide +kernel
theorem uw_1_135 : (1 : UInt8).toNat * 256 + (135 : UInt8).toNat = 391 := by decide +kernel
theorem uw_1_136 : (1 : UInt8).toNat * 256 + (136 : UInt8).toNat = 392 := by decide +kernel
theorem uw_1_139 : (1 : UInt8).toNat * 256 + (139 : UInt8).toNat = 395 := by decide +kernel
theorem uw_1_14 : (1 : UInt8).toNat * 256 + (14 : UInt8).toNat = 270 := by decide +kernel
theorem uw_1_142 : (1 : UInt8).toNat * 256 + (142 : UInt8).toNat = 398 := by decide +kernel
theorem uw_1_143 : (1 : UInt8).toNat * 256 + (143 : UInt8).toNat = 399 := by decide +kernel
theorem uw_1_145 : (1 : UInt8).toNat * 256 + (145 : UInt8).toNat = 401 := by decide +kernel
theorem uw_1_146 : (1 : UInt8).toNat * 256 + (146 : UInt8).toNat = 402 := by decide +kernel
theorem uw_1_148 : (1 : UInt8).toNat * 256 + (148 : UInt8).toNat = 404 := by decide +kernel
theorem uw_1_149 : (1 : UInt8).toNat * 256 + (149 : UInt8).toNat = 405 := by decide +kernel
theorem uw_1_151 : (1 : UInt8).toNat * 256 + (151 : UInt8).toNat = 407 := by decide +kernel
theorem uw_1_152 : (1 : UInt8).toNat * 256 + (152 : UInt8).toNat = 408 := by decide +kernel
theorem uw_1_154 : (1 : UInt8).toNat * 256 + (154 : UInt8).toNat = 410 := by decide +kernel
theorem uw_1_155 : (1 : UInt8).toNat * 256 + (155 : UInt8).toNat = 411 := by decide +kernel
theorem uw_1_157 : (1 : UInt8).toNat * 256 + (157 : UInt8).toNat = 413 := by decide +kernel
theorem uw_1_159 : (1 : UInt8).toNat * 256 + (159 : UInt8).toNat = 415 := by decide +kernel
theorem uw_1_160 : (1 : UInt8).toNat * 256 + (160 : UInt8).toNat = 416 := by decide +kernel
theorem uw_1_162 : (1 : UInt8).toNat * 256 + (162 : UInt8).toNat = 418 := by decide +kernel
theorem uw_1_163 : (1 : UInt8).toNat * 256 + (163 : UInt8).toNat = 419 := by decide +kernel
theorem uw_1_166 : (1 : UInt8).toNat * 256 + (166 : UInt8).toNat = 422 := by decide +kernel
theorem uw_1_169 : (1 : UInt8).toNat * 256 + (169 : UInt8).toNat = 425 := by decide +kernel
theorem uw_1_17 : (1 : UInt8).toNat * 256 + (17 : UInt8).toNat = 273 := by decide +kernel
theorem uw_1_170 : (1 : UInt8).toNat * 256 + (170 : UInt8).toNat = 426 := by decide +kernel
theorem uw_1_172 : (1 : UInt8).toNat * 256 + (172 : UInt8).toNat = 428 := by decide +kernel
theorem uw_1_173 : (1 : UInt8).toNat * 256 + (173 : UInt8).toNat = 429 := by decide +kernel
theorem uw_1_175 : (1 : UInt8).toNat * 256 + (175 : UInt8).toNat = 431 := by decide +kernel
theorem uw_1_176 : (1 : UInt8).toNat * 256 + (176 : UInt8).toNat = 432 := by decide +kernel
theorem uw_1_178 : (1 : UInt8).toNat * 256 + (178 : UInt8).toNat = 434 := by decide +kernel
theorem uw_1_179 : (1 : UInt8).toNat * 256 + (179 : UInt8).toNat = 435 := by decide +kernel
theorem uw_1_18 : (1 : UInt8).toNat * 256 + (18 : UInt8).toNat = 274 := by decide +kernel
theorem uw_1_182 : (1 : UInt8).toNat * 256 + (182 : UInt8).toNat = 438 := by decide +kernel
theorem uw_1_185 : (1 : UInt8).toNat * 256 + (185 : UInt8).toNat = 441 := by decide +kernel
theorem uw_1_188 : (1 : UInt8).toNat * 256 + (188 : UInt8).toNat = 444 := by decide +kernel
theorem uw_1_191 : (1 : UInt8).toNat * 256 + (191 : UInt8).toNat = 447 := by decide +kernel
theorem uw_1_194 : (1 : UInt8).toNat * 256 + (194 : UInt8).toNat = 450 := by decide +kernel
theorem uw_1_197 : (1 : UInt8).toNat * 256 + (197 : UInt8).toNat = 453 := by decide +kernel
theorem uw_1_2 : (1 : UInt8).toNat * 256 + (2 : UInt8).toNat = 258 := by decide +kernel
theorem uw_1_20 : (1 : UInt8).toNat * 256 + (20 : UInt8).toNat = 276 := by decide +kernel
theorem uw_1_200 : (1 : UInt8).toNat * 256 + (200 : UInt8).toNat = 456 := by decide +kernel
theorem uw_1_203 : (1 : UInt8).toNat * 256 + (203 : UInt8).toNat = 459 := by decide +kernel
theorem uw_1_204 : (1 : UInt8).toNat * 256 + (204 : UInt8).toNat = 460 := by decide +kernel
theorem uw_1_206 : (1 : UInt8).toNat * 256 + (206 : UInt8).toNat = 462 := by decide +kernel
theorem uw_1_207 : (1 : UInt8).toNat * 256 + (207 : UInt8).toNat = 463 := by decide +kernel
theorem uw_1_208 : (1 : UInt8).toNat * 256 + (208 : UInt8).toNat = 464 := by decide +kernel
theorem uw_1_209 : (1 : UInt8).toNat * 256 + (209 : UInt8).toNat = 465 := by decide +kernel
theorem uw_1_21 : (1 : UInt8).toNat * 256 + (21 : UInt8).toNat = 277 := by decide +kernel
theorem uw_1_211 : (1 : UInt8).toNat * 256 + (211 : UInt8).toNat = 467 := by decide +kernel
theorem uw_1_212 : (1 : UInt8).toNat * 256 + (212 : UInt8).toNat = 468 := by decide +kernel
theorem uw_1_213 : (1 : UInt8).toNat * 256 + (213 : UInt8).toNat = 469 := by decide +kernel
theorem uw_1_214 : (1 : UInt8).toNat * 256 + (214 : UInt8).toNat = 470 := by decide +kernel
theorem uw_1_216 : (1 : UInt8).toNat * 256 + (216 : UInt8).toNat = 472 := by decide +kernel
theorem uw_1_217 : (1 : UInt8).toNat * 256 + (217 : UInt8).toNat = 473 := by decide +kernel
theorem uw_1_219 : (1 : UInt8).toNat * 256 + (219 : UInt8).toNat = 475 := by decide +kernel
theorem uw_1_221 : (1 : UInt8).toNat * 256 + (221 : UInt8).toNat = 477 := by decide +kernel
theorem uw_1_222 : (1 : UInt8).toNat * 256 + (222 : UInt8).toNat = 478 := by decide +kernel
theorem uw_1_224 : (1 : UInt8).toNat * 256 + (224 : UInt8).toNat = 480 := by decide +kernel
theorem uw_1_225 : (1 : UInt8).toNat * 256 + (225 : UInt8).toNat = 481 := by decide +kernel
theorem uw_1_226 : (1 : UInt8).toNat * 256 + (226 : UInt8).toNat = 482 := by decide +kernel
theorem uw_1_23 : (1 : UInt8).toNat * 256 + (23 : UInt8).toNat = 279 := by decide +kernel
theorem uw_1_230 : (1 : UInt8).toNat * 256 + (230 : UInt8).toNat = 486 := by decide +kernel
theorem uw_1_233 : (1 : UInt8).toNat * 256 + (233 : UInt8).toNat = 489 := by decide +kernel
theorem uw_1_236 : (1 : UInt8).toNat * 256 + (236 : UInt8).toNat = 492 := by decide +kernel
theorem uw_1_239 : (1 : UInt8).toNat * 256 + (239 : UInt8).toNat = 495 := by decide +kernel
theorem uw_1_24 : (1 : UInt8).toNat * 256 + (24 : UInt8).toNat = 280 := by decide +kernel
theorem uw_1_242 : (1 : UInt8).toNat * 256 + (242 : UInt8).toNat = 498 := by decide +kernel
theorem uw_1_246 : (1 : UInt8).toNat * 256 + (246 : UInt8).toNat = 502 := by decide +kernel
theorem uw_1_249 : (1 : UInt8).toNat * 256 + (249 : UInt8).toNat = 505 := by decide +kernel
theorem uw_1_251 : (1 : UInt8).toNat * 256 + (251 : UInt8).toNat = 507 := by decide +kernel
theorem uw_1_252 : (1 : UInt8).toNat * 256 + (252 : UInt8).toNat = 508 := by decide +kernel
theorem uw_1_253 : (1 : UInt8).toNat * 256 + (253 : UInt8).toNat = 509 := by decide +kernel
theorem uw_1_26 : (1 : UInt8).toNat * 256 + (26 : UInt8).toNat = 282 := by decide +kernel
theorem uw_1_28 : (1 : UInt8).toNat * 256 + (28 : UInt8).toNat = 284 := by decide +kernel
theorem uw_1_29 : (1 : UInt8).toNat * 256 + (29 : UInt8).toNat = 285 := by decide +kernel
theorem uw_1_31 : (1 : UInt8).toNat * 256 + (31 : UInt8).toNat = 287 := by decide +kernel
theorem uw_1_32 : (1 : UInt8).toNat * 256 + (32 : UInt8).toNat = 288 := by decide +kernel
theorem uw_1_34 : (1 : UInt8).toNat * 256 + (34 : UInt8).toNat = 290 := by decide +kernel
theorem uw_1_35 : (1 : UInt8).toNat * 256 + (35 : UInt8).toNat = 291 := by decide +kernel
theorem uw_1_37 : (1 : UInt8).toNat * 256 + (37 : UInt8).toNat = 293 := by decide +kernel
theorem uw_1_38 : (1 : UInt8).toNat * 256 + (38 : UInt8).toNat = 294 := by decide +kernel
theorem uw_1_4 : (1 : UInt8).toNat * 256 + (4 : UInt8).toNat = 260 := by decide +kernel
theorem uw_1_40 : (1 : UInt8).toNat * 256 + (40 : UInt8).toNat = 296 := by decide +kernel
theorem uw_1_41 : (1 : UInt8).toNat * 256 + (41 : UInt8).toNat = 297 := by decide +kernel
theorem uw_1_43 : (1 : UInt8).toNat * 256 + (43 : UInt8).toNat = 299 := by decide +kernel
theorem uw_1_44 : (1 : UInt8).toNat * 256 + (44 : UInt8).toNat = 300 := by decide +kernel
theorem uw_1_47 : (1 : UInt8).toNat * 256 + (47 : UInt8).toNat = 303 := by decide +kernel
theorem uw_1_48 : (1 : UInt8).toNat * 256 + (48 : UInt8).toNat = 304 := by decide +kernel
theorem uw_1_5 : (1 : UInt8).toNat * 256 + (5 : UInt8).toNat = 261 := by decide +kernel
theorem uw_1_50 : (1 : UInt8).toNat * 256 + (50 : UInt8).toNat = 306 := by decide +kernel
theorem uw_1_52 : (1 : UInt8).toNat * 256 + (52 : UInt8).toNat = 308 := by decide +kernel
theorem uw_1_53 : (1 : UInt8).toNat * 256 + (53 : UInt8).toNat = 309 := by decide +kernel
theorem uw_1_55 : (1 : UInt8).toNat * 256 + (55 : UInt8).toNat = 311 := by decide +kernel
theorem uw_1_56 : (1 : UInt8).toNat * 256 + (56 : UInt8).toNat = 312 := by decide +kernel
theorem uw_1_58 : (1 : UInt8).toNat * 256 + (58 : UInt8).toNat = 314 := by decide +kernel
theorem uw_1_59 : (1 : UInt8).toNat * 256 + (59 : UInt8).toNat = 315 := by decide +kernel
theorem uw_1_61 : (1 : UInt8).toNat * 256 + (61 : UInt8).toNat = 317 := by decide +kernel
theorem uw_1_62 : (1 : UInt8).toNat * 256 + (62 : UInt8).toNat = 318 := by decide +kernel
theorem uw_1_65 : (1 : UInt8).toNat * 256 + (65 : UInt8).toNat = 321 := by decide +kernel
theorem uw_1_66 : (1 : UInt8).toNat * 256 + (66 : UInt8).toNat = 322 := by decide +kernel
theorem uw_1_68 : (1 : UInt8).toNat * 256 + (68 : UInt8).toNat = 324 := by decide +kernel
theorem uw_1_7 : (1 : UInt8).toNat * 256 + (7 : UInt8).toNat = 263 := by decide +kernel
theorem uw_1_71 : (1 : UInt8).toNat * 256 + (71 : UInt8).toNat = 327 := by decide +kernel
theorem uw_1_74 : (1 : UInt8).toNat * 256 + (74 : UInt8).toNat = 330 := by decide +kernel
theorem uw_1_75 : (1 : UInt8).toNat * 256 + (75 : UInt8).toNat = 331 := by decide +kernel
theorem uw_1_77 : (1 : UInt8).toNat * 256 + (77 : UInt8).toNat = 333 := by decide +kernel
theorem uw_1_78 : (1 : UInt8).toNat * 256 + (78 : UInt8).toNat = 334 := by decide +kernel
theorem uw_1_79 : (1 : UInt8).toNat * 256 + (79 : UInt8).toNat = 335 := by decide +kernel
theorem uw_1_8 : (1 : UInt8).toNat * 256 + (8 : UInt8).toNat = 264 := by decide +kernel
theorem uw_1_80 : (1 : UInt8).toNat * 256 + (80 : UInt8).toNat = 336 := by decide +kernel
theorem uw_1_82 : (1 : UInt8).toNat * 256 + (82 : UInt8).toNat = 338 := by decide +kernel
theorem uw_1_83 : (1 : UInt8).toNat * 256 + (83 : UInt8).toNat = 339 := by decide +kernel
theorem uw_1_85 : (1 : UInt8).toNat * 256 + (85 : UInt8).toNat = 341 := by decide +kernel
theorem uw_1_86 : (1 : UInt8).toNat * 256 + (86 : UInt8).toNat = 342 := by decide +kernel
theorem uw_1_87 : (1 : UInt8).toNat * 256 + (87 : UInt8).toNat = 343 := by decide +kernel
theorem uw_1_88 : (1 : UInt8).toNat * 256 + (88 : UInt8).toNat = 344 := by decide +kernel
theorem uw_1_89 : (1 : UInt8).toNat * 256 + (89 : UInt8).toNat = 345 := by decide +kernel
theorem uw_1_91 : (1 : UInt8).toNat * 256 + (91 : UInt8).toNat = 347 := by decide +kernel
theorem uw_1_92 : (1 : UInt8).toNat * 256 + (92 : UInt8).toNat = 348 := by decide +kernel
theorem uw_1_93 : (1 : UInt8).toNat * 256 + (93 : UInt8).toNat = 349 := by decide +kernel
theorem uw_1_94 : (1 : UInt8).toNat * 256 + (94 : UInt8).toNat = 350 := by decide +kernel
theorem uw_1_97 : (1 : UInt8).toNat * 256 + (97 : UInt8).toNat = 353 := by decide +kernel
theorem uw_1_98 : (1 : UInt8).toNat * 256 + (98 : UInt8).toNat = 354 := by decide +kernel
theorem uw_2_1 : (2 : UInt8).toNat * 256 + (1 : UInt8).toNat = 513 := by decide +kernel
theorem uw_2_11 : (2 : UInt8).toNat * 256 + (11 : UInt8).toNat = 523 := by decide +kernel
theorem uw_2_121 : (2 : UInt8).toNat * 256 + (121 : UInt8).toNat = 633 := by decide +kernel
theorem uw_2_125 : (2 : UInt8).toNat * 256 + (125 : UInt8).toNat = 637 := by decide +kernel
theorem uw_2_14 : (2 : UInt8).toNat * 256 + (14 : UInt8).toNat = 526 := by decide +kernel
theorem uw_2_18 : (2 : UInt8).toNat * 256 + (18 : UInt8).toNat = 530 := by decide +kernel
theorem uw_2_21 : (2 : UInt8).toNat * 256 + (21 : UInt8).toNat = 533 := by decide +kernel
theorem uw_2_24 : (2 : UInt8).toNat * 256 + (24 : UInt8).toNat = 536 := by decide +kernel
theorem uw_2_4 : (2 : UInt8).toNat * 256 + (4 : UInt8).toNat = 516 := by decide +kernel
theorem uw_2_5 : (2 : UInt8).toNat * 256 + (5 : UInt8).toNat = 517 := by decide +kernel
theorem uw_2_8 : (2 : UInt8).toNat * 256 + (8 : UInt8).toNat = 520 := by decide +kernel
theorem aq_1 {c : ByteArray} {p : Nat} {b0 : UInt8} {r : List UInt8} (h : c.data.toList.drop p = b0 :: r) : c.data.toList.drop (p + 1) = r := dSn 1 h
theorem aq_2 {c : ByteArray} {p : Nat} {b0 b1 : UInt8} {r : List UInt8} (h : c.data.toList.drop p = b0 :: b1 :: r) : c.data.toList.drop (p + 2) = r := dSn 2 h
theorem aq_3 {c : ByteArray} {p : Nat} {b0 b1 b2 : UInt8} {r : List UInt8} (h : c.data.toList.drop p = b0 :: b1 :: b2 :: r) : c.data.toList.drop (p + 3) = r := dSn 3 h
theorem aq_4 {c : ByteArray} {p : Nat} {b0 b1 b2 b3 : UInt8} {r : List UInt8} (h : c.data.toList.drop p = b0 :: b1 :: b2 :: b3 :: r) : c.data.toList.drop (p + 4) = r := dSn 4 h
theorem aq_5 {c : ByteArray} {p : Nat} {b0 b1 b2 b3 b4 : UInt8} {r : List UInt8} (h : c.data.toList.drop p = b0 :: b1 :: b2 :: b3 :: b4 :: r) : c.data.toList.drop (p + 5) = r := dSn 5 h
theorem aq_6 {c : ByteArray} {p : Nat} {b0 b1 b2 b3 b4 b5 : UInt8} {r : List UInt8} (h : c.data.toList.drop p = b0 :: b1 :: b2 :: b3 :: b4 :: b5 :: r) : c.data.toList.drop (p + 6) = r := dSn 6 h
theorem aq_7 {c : ByteArray} {p : Nat} {b0 b1 b2 b3 b4 b5 b6 : UInt8} {r : List UInt8} (h : c.data.toList.drop p = b0 :: b1 :: b2 :: b3 :: b4 :: b5 :: b6 :: r) : c.data.toList.drop (p + 7) = r := dSn 7 h
theorem aq_8 {c : ByteArray} {p : Nat} {b0 b1 b2 b3 b4 b5 b6 b7 : UInt8} {r : List UInt8} (h : c.data.toList.drop p = b0 :: b1 :: b2 :: b3 :: b4 :: b5 :: b6 :: b7 :: r) : c.data.toList.drop (p + 8) = r := dSn 8 h
theorem aq_9 {c : ByteArray} {p : Nat} {b0 b1 b2 b3 b4 b5 b6 b7 b8 : UInt8} {r : List UInt8} (h : c.data.toList.drop p = b0 :: b1 :: b2 :: b3 :: b4 :: b5 :: b6 :: b7 :: b8 :: r) : c.data.toList.drop (p + 9) = r := dSn 9 h
theorem aq_10 {c : ByteArray} {p : Nat} {b0 b1 b2 b3 b4 b5 b6 b7 b8 b9 : UInt8} {r : List UInt8} (h : c.data.toList.drop p = b0 :: b1 :: b2 :: b3 :: b4 :: b5 :: b6 :: b7 :: b8 :: b9 :: r) : c.data.toList.drop (p + 10) = r := dSn 10 h
theorem aq_11 {c : ByteArray} {p : Nat} {b0 b1 b2 b3 b4 b5 b6 b7 b8 b9 b10 : UInt8} {r : List UInt8} (h : c.data.toList.drop p = b0 :: b1 :: b2 :: b3 :: b4 :: b5 :: b6 :: b7 :: b8 :: b9 :: b10 :: r) : c.data.toList.drop (p + 11) = r := dSn 11 h
theorem aq_12 {c : ByteArray} {p : Nat} {b0 b1 b2 b3 b4 b5 b6 b7 b8 b9 b10 b11 : UInt8} {r : List UInt8} (h : c.data.toList.drop p = b0 :: b1 :: b2 :: b3 :: b4 :: b5 :: b6 :: b7 :: b8 :: b9 :: b10 :: b11 :: r) : c.data.toList.drop (p + 12) = r := dSn 12 h
theorem aq_13 {c : ByteArray} {p : Nat} {b0 b1 b2 b3 b4 b5 b6 b7 b8 b9 b10 b11 b12 : UInt8} {r : List UInt8} (h : c.data.toList.drop p = b0 :: b1 :: b2 :: b3 :: b4 :: b5 :: b6 :: b7 :: b8 :: b9 :: b10 :: b11 :: b12 :: r) : c.data.toList.drop (p + 13) = r := dSn 13 h
theorem aq_14 {c : ByteArray} {p : Nat} {b0 b1 b2 b3 b4 b5 b6 b7 b8 b9 b10 b11 b12 b13 : UInt8} {r : List UInt8} (h : c.data.toList.drop p = b0 :: b1 :: b2 :: b3 :: b4 :: b5 :: b6 :: b7 :: b8 :: b9 :: b10 :: b11 :: b12 :: b13 :: r) : c.data.toList.drop (p + 14) = r := dSn 14 h
theorem aq_15 {c : ByteArray} {p : Nat} {b0 b1 b2 b3 b4 b5 b6 b7 b8 b9 b10 b11 b12 b13 b14 : UInt8} {r : List UInt8} (h : c.data.toList.drop p = b0 :: b1 :: b2 :: b3 :: b4 :: b5 :: b6 :: b7 :: b8 :: b9 :: b10 :: b11 :: b12 :: b13 :: b14 :: r) : c.data.toList.drop (p + 15) = r := dSn 15 h
theorem aq_16 {c : ByteArray} {p : Nat} {b0 b1 b2 b3 b4 b5 b6 b7 b8 b9 b10 b11 b12 b13 b14 b15 : UInt8} {r : List UInt8} (h : c.data.toList.drop p = b0 :: b1 :: b2 :: b3 :: b4 :: b5 :: b6 :: b7 :: b8 :: b9 :: b10 :: b11 :: b12 :: b13 :: b14 :: b15 :: r) : c.data.toList.drop (p + 16) = r := dSn 16 h
theorem aq_17 {c : ByteArray} {p : Nat} {b0 b1 b2 b3 b4 b5 b6 b7 b8 b9 b10 b11 b12 b13 b14 b15 b16 : UInt8} {r : List UInt8} (h : c.data.toList.drop p = b0 :: b1 :: b2 :: b3 :: b4 :: b5 :: b6 :: b7 :: b8 :: b9 :: b10 :: b11 :: b12 :: b13 :: b14 :: b15 :: b16 :: r) : c.data.toList.drop (p + 17) = r := dSn 17 h
theorem aq_18 {c : ByteArray} {p : Nat} {b0 b1 b2 b3 b4 b5 b6 b7 b8 b9 b10 b11 b12 b13 b14 b15 b16 b17 : UInt8} {r : List UInt8} (h : c.data.toList.drop p = b0 :: b1 :: b2 :: b3 :: b4 :: b5 :: b6 :: b7 :: b8 :: b9 :: b10 :: b11 :: b12 :: b13 :: b14 :: b15 :: b16 :: b17 :: r) : c.data.toList.drop (p + 18) = r := dSn 18 h
theorem aq_19 {c : ByteArray} {p : Nat} {b0 b1 b2 b3 b4 b5 b6 b7 b8 b9 b10 b11 b12 b13 b14 b15 b16 b17 b18 : UInt8} {r : List UInt8} (h : c.data.toList.drop p = b0 :: b1 :: b2 :: b3 :: b4 :: b5 :: b6 :: b7 :: b8 :: b9 :: b10 :: b11 :: b12 :: b13 :: b14 :: b15 :: b16 :: b17 :: b18 :: r) : c.data.toList.drop (p + 19) = r := dSn 19 h
theorem aq_20 {c : ByteArray} {p : Nat} {b0 b1 b2 b3 b4 b5 b6 b7 b8 b9 b10 b11 b12 b13 b14 b15 b16 b17 b18 b19 : UInt8} {r : List UInt8} (h : c.data.toList.drop p = b0 :: b1 :: b2 :: b3 :: b4 :: b5 :: b6 :: b7 :: b8 :: b9 :: b10 :: b11 :: b12 :: b13 :: b14 :: b15 :: b16 :: b17 :: b18 :: b19 :: r) : c.data.toList.drop (p + 20) = r := dSn 20 h
theorem aq_21 {c : ByteArray} {p : Nat} {b0 b1 b2 b3 b4 b5 b6 b7 b8 b9 b10 b11 b12 b13 b14 b15 b16 b17 b18 b19 b20 : UInt8} {r : List UInt8} (h : c.data.toList.drop p = b0 :: b1 :: b2 :: b3 :: b4 :: b5 :: b6 :: b7 :: b8 :: b9 :: b10 :: b11 :: b12 :: b13 :: b14 :: b15 :: b16 :: b17 :: b18 :: b19 :: b20 :: r) : c.data.toList.drop (p + 21) = r := dSn 21 h
theorem aq_22 {c : ByteArray} {p : Nat} {b0 b1 b2 b3 b4 b5 b6 b7 b8 b9 b10 b11 b12 b13 b14 b15 b16 b17 b18 b19 b20 b21 : UInt8} {r : List UInt8} (h : c.data.toList.drop p = b0 :: b1 :: b2 :: b3 :: b4 :: b5 :: b6 :: b7 :: b8 :: b9 :: b10 :: b11 :: b12 :: b13 :: b14 :: b15 :: b16 :: b17 :: b18 :: b19 :: b20 :: b21 :: r) : c.data.toList.drop (p + 22) = r := dSn 22 h
theorem aq_23 {c : ByteArray} {p : Nat} {b0 b1 b2 b3 b4 b5 b6 b7 b8 b9 b10 b11 b12 b13 b14 b15 b16 b17 b18 b19 b20 b21 b22 : UInt8} {r : List UInt8} (h : c.data.toList.drop p = b0 :: b1 :: b2 :: b3 :: b4 :: b5 :: b6 :: b7 :: b8 :: b9 :: b10 :: b11 :: b12 :: b13 :: b14 :: b15 :: b16 :: b17 :: b18 :: b19 :: b20 :: b21 :: b22 :: r) : c.data.toList.drop (p + 23) = r := dSn 23 h
theorem aq_24 {c : ByteArray} {p : Nat} {b0 b1 b2 b3 b4 b5 b6 b7 b8 b9 b10 b11 b12 b13 b14 b15 b16 b17 b18 b19 b20 b21 b22 b23 : UInt8} {r : List UInt8} (h : c.data.toList.drop p = b0 :: b1 :: b2 :: b3 :: b4 :: b5 :: b6 :: b7 :: b8 :: b9 :: b10 :: b11 :: b12 :: b13 :: b14 :: b15 :: b16 :: b17 :: b18 :: b19 :: b20 :: b21 :: b22 :: b23 :: r) : c.data.toList.drop (p + 24) = r := dSn 24 h
theorem aq_25 {c : ByteArray} {p : Nat} {b0 b1 b2 b3 b4 b5 b6 b7 b8 b9 b10 b11 b12 b13 b14 b15 b16 b17 b18 b19 b20 b21 b22 b23 b24 : UInt8} {r : List UInt8} (h : c.data.toList.drop p = b0 :: b1 :: b2 :: b3 :: b4 :: b5 :: b6 :: b7 :: b8 :: b9 :: b10 :: b11 :: b12 :: b13 :: b14 :: b15 :: b16 :: b17 :: b18 :: b19 :: b20 :: b21 :: b22 :: b23 :: b24 :: r) : c.data.toList.drop (p + 25) = r := dSn 25 h
theorem aq_26 {c : ByteArray} {p : Nat} {b0 b1 b2 b3 b4 b5 b6 b7 b8 b9 b10 b11 b12 b13 b14 b15 b16 b17 b18 b19 b20 b21 b22 b23 b24 b25 : UInt8} {r : List UInt8} (h : c.data.toList.drop p = b0 :: b1 :: b2 :: b3 :: b4 :: b5 :: b6 :: b7 :: b8 :: b9 :: b10 :: b11 :: b12 :: b13 :: b14 :: b15 :: b16 :: b17 :: b18 :: b19 :: b20 :: b21 :: b22 :: b23 :: b24 :: b25 :: r) : c.data.toList.drop (p + 26) = r := dSn 26 h
