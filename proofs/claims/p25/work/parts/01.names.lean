theorem tm1 {w : Cond} (h : w ∈ tables_1_1) : w ∈ tables_1 := List.mem_append_left _ h
theorem tm2 {w : Cond} (h : w ∈ tables_1_2) : w ∈ tables_1 := List.mem_append_right _ (List.mem_append_left _ h)
theorem tm3 {w : Cond} (h : w ∈ tables_1_3) : w ∈ tables_1 := List.mem_append_right _ (List.mem_append_right _ (List.mem_append_left _ h))
theorem tm4 {w : Cond} (h : w ∈ tables_1_4) : w ∈ tables_1 := List.mem_append_right _ (List.mem_append_right _ (List.mem_append_right _ (List.mem_append_left _ h)))
theorem tm5 {w : Cond} (h : w ∈ tables_1_5) : w ∈ tables_1 := List.mem_append_right _ (List.mem_append_right _ (List.mem_append_right _ (List.mem_append_right _ (List.mem_append_left _ h))))
theorem tm6 {w : Cond} (h : w ∈ tables_1_6) : w ∈ tables_1 := List.mem_append_right _ (List.mem_append_right _ (List.mem_append_right _ (List.mem_append_right _ (List.mem_append_right _ (List.mem_append_left _ h)))))
theorem tm7 {w : Cond} (h : w ∈ tables_1_7) : w ∈ tables_1 := List.mem_append_right _ (List.mem_append_right _ (List.mem_append_right _ (List.mem_append_right _ (List.mem_append_right _ (List.mem_append_right _ (List.mem_append_left _ h))))))
theorem tm8 {w : Cond} (h : w ∈ tables_1_8) : w ∈ tables_1 := List.mem_append_right _ (List.mem_append_right _ (List.mem_append_right _ (List.mem_append_right _ (List.mem_append_right _ (List.mem_append_right _ (List.mem_append_right _ (List.mem_append_left _ h)))))))
theorem tm9 {w : Cond} (h : w ∈ tables_1_9) : w ∈ tables_1 := List.mem_append_right _ (List.mem_append_right _ (List.mem_append_right _ (List.mem_append_right _ (List.mem_append_right _ (List.mem_append_right _ (List.mem_append_right _ (List.mem_append_right _ (h))))))))
-- ===== PART A: goes FIRST, ahead of the names: the tables' words, and 'selects' of the private methods out of them =====
/-- a private method of a class that the tables say can be made, by its rows of tables_1 -/
def lw_okq (q : MethodName × Nat) : Prop := (q.1.cls ≠ "java/lang/invoke/MethodHandle" ∧ q.1.cls ≠ "java/lang/invoke/VarHandle") ∧ Cond.instantiable q.1.cls q.2 ∈ tables_1 ∧ Cond.privateMethod q.1 ∈ tables_1 ∧ Cond.instanceMethod q.1 ∈ tables_1
theorem nmh_0 : ("OilHome" : String) ≠ "java/lang/invoke/MethodHandle" ∧ ("OilHome" : String) ≠ "java/lang/invoke/VarHandle" := ⟨by decide +kernel, by decide +kernel⟩
theorem nmh_1 : ("OilHome$Batch" : String) ≠ "java/lang/invoke/MethodHandle" ∧ ("OilHome$Batch" : String) ≠ "java/lang/invoke/VarHandle" := ⟨by decide +kernel, by decide +kernel⟩
theorem nmh_2 : ("OilHome$Kitchen" : String) ≠ "java/lang/invoke/MethodHandle" ∧ ("OilHome$Kitchen" : String) ≠ "java/lang/invoke/VarHandle" := ⟨by decide +kernel, by decide +kernel⟩
theorem nmh_3 : ("OilHome$Load" : String) ≠ "java/lang/invoke/MethodHandle" ∧ ("OilHome$Load" : String) ≠ "java/lang/invoke/VarHandle" := ⟨by decide +kernel, by decide +kernel⟩
theorem nmh_4 : ("OilHome$Move" : String) ≠ "java/lang/invoke/MethodHandle" ∧ ("OilHome$Move" : String) ≠ "java/lang/invoke/VarHandle" := ⟨by decide +kernel, by decide +kernel⟩
theorem nmh_5 : ("OilHome$Proof" : String) ≠ "java/lang/invoke/MethodHandle" ∧ ("OilHome$Proof" : String) ≠ "java/lang/invoke/VarHandle" := ⟨by decide +kernel, by decide +kernel⟩
theorem nmh_6 : ("OilHome$Reader" : String) ≠ "java/lang/invoke/MethodHandle" ∧ ("OilHome$Reader" : String) ≠ "java/lang/invoke/VarHandle" := ⟨by decide +kernel, by decide +kernel⟩
theorem nmh_7 : ("OilHome$Sewer" : String) ≠ "java/lang/invoke/MethodHandle" ∧ ("OilHome$Sewer" : String) ≠ "java/lang/invoke/VarHandle" := ⟨by decide +kernel, by decide +kernel⟩
theorem nmh_8 : ("OilHome$Tables" : String) ≠ "java/lang/invoke/MethodHandle" ∧ ("OilHome$Tables" : String) ≠ "java/lang/invoke/VarHandle" := ⟨by decide +kernel, by decide +kernel⟩
theorem nmh_9 : ("OilHome$Tape" : String) ≠ "java/lang/invoke/MethodHandle" ∧ ("OilHome$Tape" : String) ≠ "java/lang/invoke/VarHandle" := ⟨by decide +kernel, by decide +kernel⟩
theorem nmh_10 : ("OilHome$Text" : String) ≠ "java/lang/invoke/MethodHandle" ∧ ("OilHome$Text" : String) ≠ "java/lang/invoke/VarHandle" := ⟨by decide +kernel, by decide +kernel⟩
theorem nmh_11 : ("OilHome$Ways" : String) ≠ "java/lang/invoke/MethodHandle" ∧ ("OilHome$Ways" : String) ≠ "java/lang/invoke/VarHandle" := ⟨by decide +kernel, by decide +kernel⟩
theorem nmh_13 : ("OilHomeModel" : String) ≠ "java/lang/invoke/MethodHandle" ∧ ("OilHomeModel" : String) ≠ "java/lang/invoke/VarHandle" := ⟨by decide +kernel, by decide +kernel⟩
theorem nmh_16 : ("java/lang/String" : String) ≠ "java/lang/invoke/MethodHandle" ∧ ("java/lang/String" : String) ≠ "java/lang/invoke/VarHandle" := ⟨by decide +kernel, by decide +kernel⟩
theorem nmh_17 : ("java/lang/StringLatin1" : String) ≠ "java/lang/invoke/MethodHandle" ∧ ("java/lang/StringLatin1" : String) ≠ "java/lang/invoke/VarHandle" := ⟨by decide +kernel, by decide +kernel⟩
theorem nmh_19 : ("java/util/AbstractCollection" : String) ≠ "java/lang/invoke/MethodHandle" ∧ ("java/util/AbstractCollection" : String) ≠ "java/lang/invoke/VarHandle" := ⟨by decide +kernel, by decide +kernel⟩
theorem nmh_20 : ("java/util/AbstractList" : String) ≠ "java/lang/invoke/MethodHandle" ∧ ("java/util/AbstractList" : String) ≠ "java/lang/invoke/VarHandle" := ⟨by decide +kernel, by decide +kernel⟩
theorem nmh_21 : ("java/util/ArrayList" : String) ≠ "java/lang/invoke/MethodHandle" ∧ ("java/util/ArrayList" : String) ≠ "java/lang/invoke/VarHandle" := ⟨by decide +kernel, by decide +kernel⟩
theorem nmh_22 : ("java/util/Arrays" : String) ≠ "java/lang/invoke/MethodHandle" ∧ ("java/util/Arrays" : String) ≠ "java/lang/invoke/VarHandle" := ⟨by decide +kernel, by decide +kernel⟩
theorem nmh_23 : ("java/util/Objects" : String) ≠ "java/lang/invoke/MethodHandle" ∧ ("java/util/Objects" : String) ≠ "java/lang/invoke/VarHandle" := ⟨by decide +kernel, by decide +kernel⟩
theorem nmh_24 : ("jdk/internal/util/ArraysSupport" : String) ≠ "java/lang/invoke/MethodHandle" ∧ ("jdk/internal/util/ArraysSupport" : String) ≠ "java/lang/invoke/VarHandle" := ⟨by decide +kernel, by decide +kernel⟩
theorem nmh_25 : ("jdk/internal/util/Preconditions" : String) ≠ "java/lang/invoke/MethodHandle" ∧ ("jdk/internal/util/Preconditions" : String) ≠ "java/lang/invoke/VarHandle" := ⟨by decide +kernel, by decide +kernel⟩
theorem lw_p0 : lw_okq (⟨"java/util/ArrayList", "add", "(Ljava/lang/Object;[Ljava/lang/Object;I)V"⟩, 3) := ⟨nmh_21, (tm1 (List.mem_of_getElem? (i := 211) rfl)), (tm2 (List.mem_of_getElem? (i := 119) rfl)), (tm2 (List.mem_of_getElem? (i := 120) rfl))⟩
theorem lw_p1 : lw_okq (⟨"java/util/ArrayList", "grow", "()[Ljava/lang/Object;"⟩, 3) := ⟨nmh_21, (tm1 (List.mem_of_getElem? (i := 211) rfl)), (tm2 (List.mem_of_getElem? (i := 123) rfl)), (tm2 (List.mem_of_getElem? (i := 124) rfl))⟩
theorem lw_p2 : lw_okq (⟨"java/util/ArrayList", "grow", "(I)[Ljava/lang/Object;"⟩, 3) := ⟨nmh_21, (tm1 (List.mem_of_getElem? (i := 211) rfl)), (tm2 (List.mem_of_getElem? (i := 127) rfl)), (tm2 (List.mem_of_getElem? (i := 128) rfl))⟩
theorem lw_p3 : lw_okq (⟨"OilHome", "kitchenAt", "(I)LOilHome$Kitchen;"⟩, 16) := ⟨nmh_0, (tm1 (List.mem_of_getElem? (i := 28) rfl)), (tm2 (List.mem_of_getElem? (i := 178) rfl)), (tm2 (List.mem_of_getElem? (i := 179) rfl))⟩
theorem lw_p4 : lw_okq (⟨"OilHome", "loadAt", "(I)LOilHome$Load;"⟩, 16) := ⟨nmh_0, (tm1 (List.mem_of_getElem? (i := 28) rfl)), (tm3 (List.mem_of_getElem? (i := 30) rfl)), (tm3 (List.mem_of_getElem? (i := 31) rfl))⟩
theorem lw_p5 : lw_okq (⟨"OilHome", "isText", "(I)Z"⟩, 16) := ⟨nmh_0, (tm1 (List.mem_of_getElem? (i := 28) rfl)), (tm3 (List.mem_of_getElem? (i := 52) rfl)), (tm3 (List.mem_of_getElem? (i := 53) rfl))⟩
theorem lw_p6 : lw_okq (⟨"OilHome$Reader", "readClause", "()V"⟩, 6) := ⟨nmh_6, (tm1 (List.mem_of_getElem? (i := 90) rfl)), (tm3 (List.mem_of_getElem? (i := 60) rfl)), (tm3 (List.mem_of_getElem? (i := 61) rfl))⟩
theorem lw_p7 : lw_okq (⟨"OilHome$Reader", "peek", "()I"⟩, 6) := ⟨nmh_6, (tm1 (List.mem_of_getElem? (i := 90) rfl)), (tm3 (List.mem_of_getElem? (i := 64) rfl)), (tm3 (List.mem_of_getElem? (i := 65) rfl))⟩
theorem lw_p8 : lw_okq (⟨"OilHome$Reader", "fail", "(I)V"⟩, 6) := ⟨nmh_6, (tm1 (List.mem_of_getElem? (i := 90) rfl)), (tm3 (List.mem_of_getElem? (i := 68) rfl)), (tm3 (List.mem_of_getElem? (i := 69) rfl))⟩
theorem lw_p9 : lw_okq (⟨"OilHome$Reader", "readSum", "(I)V"⟩, 6) := ⟨nmh_6, (tm1 (List.mem_of_getElem? (i := 90) rfl)), (tm3 (List.mem_of_getElem? (i := 77) rfl)), (tm3 (List.mem_of_getElem? (i := 78) rfl))⟩
theorem lw_p10 : lw_okq (⟨"OilHome$Reader", "readTerm", "(I)V"⟩, 6) := ⟨nmh_6, (tm1 (List.mem_of_getElem? (i := 90) rfl)), (tm3 (List.mem_of_getElem? (i := 81) rfl)), (tm3 (List.mem_of_getElem? (i := 82) rfl))⟩
theorem lw_p11 : lw_okq (⟨"OilHome$Reader", "readFactor", "(I)V"⟩, 6) := ⟨nmh_6, (tm1 (List.mem_of_getElem? (i := 90) rfl)), (tm3 (List.mem_of_getElem? (i := 85) rfl)), (tm3 (List.mem_of_getElem? (i := 86) rfl))⟩
theorem lw_p12 : lw_okq (⟨"OilHome$Reader", "opens", "(I)Z"⟩, 6) := ⟨nmh_6, (tm1 (List.mem_of_getElem? (i := 90) rfl)), (tm3 (List.mem_of_getElem? (i := 163) rfl)), (tm3 (List.mem_of_getElem? (i := 164) rfl))⟩
theorem lw_p13 : lw_okq (⟨"OilHome$Reader", "take", "(C)V"⟩, 6) := ⟨nmh_6, (tm1 (List.mem_of_getElem? (i := 90) rfl)), (tm3 (List.mem_of_getElem? (i := 167) rfl)), (tm3 (List.mem_of_getElem? (i := 168) rfl))⟩
theorem lw_p14 : lw_okq (⟨"OilHome$Reader", "readNumber", "()V"⟩, 6) := ⟨nmh_6, (tm1 (List.mem_of_getElem? (i := 90) rfl)), (tm3 (List.mem_of_getElem? (i := 174) rfl)), (tm3 (List.mem_of_getElem? (i := 175) rfl))⟩
theorem lw_p15 : lw_okq (⟨"OilHome$Reader", "readCondition", "(I)V"⟩, 6) := ⟨nmh_6, (tm1 (List.mem_of_getElem? (i := 90) rfl)), (tm3 (List.mem_of_getElem? (i := 186) rfl)), (tm3 (List.mem_of_getElem? (i := 187) rfl))⟩
def lw_privs_1 : List (MethodName × Nat) := [(⟨"java/util/ArrayList", "add", "(Ljava/lang/Object;[Ljava/lang/Object;I)V"⟩, 3), (⟨"java/util/ArrayList", "grow", "()[Ljava/lang/Object;"⟩, 3), (⟨"java/util/ArrayList", "grow", "(I)[Ljava/lang/Object;"⟩, 3), (⟨"OilHome", "kitchenAt", "(I)LOilHome$Kitchen;"⟩, 16), (⟨"OilHome", "loadAt", "(I)LOilHome$Load;"⟩, 16), (⟨"OilHome", "isText", "(I)Z"⟩, 16), (⟨"OilHome$Reader", "readClause", "()V"⟩, 6), (⟨"OilHome$Reader", "peek", "()I"⟩, 6), (⟨"OilHome$Reader", "fail", "(I)V"⟩, 6), (⟨"OilHome$Reader", "readSum", "(I)V"⟩, 6), (⟨"OilHome$Reader", "readTerm", "(I)V"⟩, 6), (⟨"OilHome$Reader", "readFactor", "(I)V"⟩, 6), (⟨"OilHome$Reader", "opens", "(I)Z"⟩, 6), (⟨"OilHome$Reader", "take", "(C)V"⟩, 6), (⟨"OilHome$Reader", "readNumber", "()V"⟩, 6), (⟨"OilHome$Reader", "readCondition", "(I)V"⟩, 6)]
theorem lw_r1 : ∀ q ∈ lw_privs_1, lw_okq q := List.forall_mem_cons.mpr ⟨lw_p0, List.forall_mem_cons.mpr ⟨lw_p1, List.forall_mem_cons.mpr ⟨lw_p2, List.forall_mem_cons.mpr ⟨lw_p3, List.forall_mem_cons.mpr ⟨lw_p4, List.forall_mem_cons.mpr ⟨lw_p5, List.forall_mem_cons.mpr ⟨lw_p6, List.forall_mem_cons.mpr ⟨lw_p7, List.forall_mem_cons.mpr ⟨lw_p8, List.forall_mem_cons.mpr ⟨lw_p9, List.forall_mem_cons.mpr ⟨lw_p10, List.forall_mem_cons.mpr ⟨lw_p11, List.forall_mem_cons.mpr ⟨lw_p12, List.forall_mem_cons.mpr ⟨lw_p13, List.forall_mem_cons.mpr ⟨lw_p14, List.forall_mem_cons.mpr ⟨lw_p15, fun _ h => absurd h List.not_mem_nil⟩⟩⟩⟩⟩⟩⟩⟩⟩⟩⟩⟩⟩⟩⟩⟩
theorem lw_p16 : lw_okq (⟨"OilHome$Reader", "readPart", "(I)V"⟩, 6) := ⟨nmh_6, (tm1 (List.mem_of_getElem? (i := 90) rfl)), (tm3 (List.mem_of_getElem? (i := 190) rfl)), (tm3 (List.mem_of_getElem? (i := 191) rfl))⟩
theorem lw_p17 : lw_okq (⟨"OilHome$Reader", "readPiece", "(I)V"⟩, 6) := ⟨nmh_6, (tm1 (List.mem_of_getElem? (i := 90) rfl)), (tm3 (List.mem_of_getElem? (i := 194) rfl)), (tm3 (List.mem_of_getElem? (i := 195) rfl))⟩
theorem lw_p18 : lw_okq (⟨"OilHome$Reader", "readRelation", "()I"⟩, 6) := ⟨nmh_6, (tm1 (List.mem_of_getElem? (i := 90) rfl)), (tm3 (List.mem_of_getElem? (i := 198) rfl)), (tm3 (List.mem_of_getElem? (i := 199) rfl))⟩
theorem lw_p19 : lw_okq (⟨"OilHome", "penceBy", "(LOilHome$Text;LOilHome$Load;)I"⟩, 16) := ⟨nmh_0, (tm1 (List.mem_of_getElem? (i := 28) rfl)), (tm3 (List.mem_of_getElem? (i := 231) rfl)), (tm3 (List.mem_of_getElem? (i := 232) rfl))⟩
theorem lw_p20 : lw_okq (⟨"OilHome", "lettersOfLoad", "(LOilHome$Load;)V"⟩, 16) := ⟨nmh_0, (tm1 (List.mem_of_getElem? (i := 28) rfl)), (tm3 (List.mem_of_getElem? (i := 235) rfl)), (tm3 (List.mem_of_getElem? (i := 236) rfl))⟩
theorem lw_p21 : lw_okq (⟨"OilHome", "lettersOfDay", "(I)V"⟩, 16) := ⟨nmh_0, (tm1 (List.mem_of_getElem? (i := 28) rfl)), (tm3 (List.mem_of_getElem? (i := 239) rfl)), (tm4 (List.mem_of_getElem? (i := 0) rfl))⟩
theorem lw_p22 : lw_okq (⟨"OilHome", "letter", "(CI)V"⟩, 16) := ⟨nmh_0, (tm1 (List.mem_of_getElem? (i := 28) rfl)), (tm4 (List.mem_of_getElem? (i := 3) rfl)), (tm4 (List.mem_of_getElem? (i := 4) rfl))⟩
theorem lw_p23 : lw_okq (⟨"OilHome$Text", "run", "(II[I)I"⟩, 9) := ⟨nmh_10, (tm1 (List.mem_of_getElem? (i := 36) rfl)), (tm4 (List.mem_of_getElem? (i := 14) rfl)), (tm4 (List.mem_of_getElem? (i := 15) rfl))⟩
theorem lw_p24 : lw_okq (⟨"OilHome$Text", "push", "(I)V"⟩, 9) := ⟨nmh_10, (tm1 (List.mem_of_getElem? (i := 36) rfl)), (tm4 (List.mem_of_getElem? (i := 19) rfl)), (tm4 (List.mem_of_getElem? (i := 20) rfl))⟩
theorem lw_p25 : lw_okq (⟨"OilHome$Text", "pop", "()I"⟩, 9) := ⟨nmh_10, (tm1 (List.mem_of_getElem? (i := 36) rfl)), (tm4 (List.mem_of_getElem? (i := 23) rfl)), (tm4 (List.mem_of_getElem? (i := 24) rfl))⟩
theorem lw_p26 : lw_okq (⟨"OilHome$Text", "decided", "(I)Z"⟩, 9) := ⟨nmh_10, (tm1 (List.mem_of_getElem? (i := 36) rfl)), (tm4 (List.mem_of_getElem? (i := 27) rfl)), (tm4 (List.mem_of_getElem? (i := 28) rfl))⟩
theorem lw_p27 : lw_okq (⟨"OilHome$Text", "reckon", "(III)I"⟩, 9) := ⟨nmh_10, (tm1 (List.mem_of_getElem? (i := 36) rfl)), (tm4 (List.mem_of_getElem? (i := 31) rfl)), (tm4 (List.mem_of_getElem? (i := 32) rfl))⟩
theorem lw_p28 : lw_okq (⟨"OilHome$Text", "divide", "(III)I"⟩, 9) := ⟨nmh_10, (tm1 (List.mem_of_getElem? (i := 36) rfl)), (tm4 (List.mem_of_getElem? (i := 35) rfl)), (tm4 (List.mem_of_getElem? (i := 36) rfl))⟩
theorem lw_p29 : lw_okq (⟨"OilHome", "penceTogether", "(IILOilHome$Text;)I"⟩, 16) := ⟨nmh_0, (tm1 (List.mem_of_getElem? (i := 28) rfl)), (tm4 (List.mem_of_getElem? (i := 50) rfl)), (tm4 (List.mem_of_getElem? (i := 51) rfl))⟩
theorem lw_p30 : lw_okq (⟨"OilHome", "startTrial", "(I)Z"⟩, 16) := ⟨nmh_0, (tm1 (List.mem_of_getElem? (i := 28) rfl)), (tm4 (List.mem_of_getElem? (i := 88) rfl)), (tm4 (List.mem_of_getElem? (i := 89) rfl))⟩
theorem lw_p31 : lw_okq (⟨"OilHome", "gatherStops", "(III)Z"⟩, 16) := ⟨nmh_0, (tm1 (List.mem_of_getElem? (i := 28) rfl)), (tm4 (List.mem_of_getElem? (i := 92) rfl)), (tm4 (List.mem_of_getElem? (i := 93) rfl))⟩
def lw_privs_2 : List (MethodName × Nat) := [(⟨"OilHome$Reader", "readPart", "(I)V"⟩, 6), (⟨"OilHome$Reader", "readPiece", "(I)V"⟩, 6), (⟨"OilHome$Reader", "readRelation", "()I"⟩, 6), (⟨"OilHome", "penceBy", "(LOilHome$Text;LOilHome$Load;)I"⟩, 16), (⟨"OilHome", "lettersOfLoad", "(LOilHome$Load;)V"⟩, 16), (⟨"OilHome", "lettersOfDay", "(I)V"⟩, 16), (⟨"OilHome", "letter", "(CI)V"⟩, 16), (⟨"OilHome$Text", "run", "(II[I)I"⟩, 9), (⟨"OilHome$Text", "push", "(I)V"⟩, 9), (⟨"OilHome$Text", "pop", "()I"⟩, 9), (⟨"OilHome$Text", "decided", "(I)Z"⟩, 9), (⟨"OilHome$Text", "reckon", "(III)I"⟩, 9), (⟨"OilHome$Text", "divide", "(III)I"⟩, 9), (⟨"OilHome", "penceTogether", "(IILOilHome$Text;)I"⟩, 16), (⟨"OilHome", "startTrial", "(I)Z"⟩, 16), (⟨"OilHome", "gatherStops", "(III)Z"⟩, 16)]
theorem lw_r2 : ∀ q ∈ lw_privs_2, lw_okq q := List.forall_mem_cons.mpr ⟨lw_p16, List.forall_mem_cons.mpr ⟨lw_p17, List.forall_mem_cons.mpr ⟨lw_p18, List.forall_mem_cons.mpr ⟨lw_p19, List.forall_mem_cons.mpr ⟨lw_p20, List.forall_mem_cons.mpr ⟨lw_p21, List.forall_mem_cons.mpr ⟨lw_p22, List.forall_mem_cons.mpr ⟨lw_p23, List.forall_mem_cons.mpr ⟨lw_p24, List.forall_mem_cons.mpr ⟨lw_p25, List.forall_mem_cons.mpr ⟨lw_p26, List.forall_mem_cons.mpr ⟨lw_p27, List.forall_mem_cons.mpr ⟨lw_p28, List.forall_mem_cons.mpr ⟨lw_p29, List.forall_mem_cons.mpr ⟨lw_p30, List.forall_mem_cons.mpr ⟨lw_p31, fun _ h => absurd h List.not_mem_nil⟩⟩⟩⟩⟩⟩⟩⟩⟩⟩⟩⟩⟩⟩⟩⟩
theorem lw_p32 : lw_okq (⟨"OilHome$Ways", "shortest", "(II)I"⟩, 7) := ⟨nmh_11, (tm1 (List.mem_of_getElem? (i := 180) rfl)), (tm4 (List.mem_of_getElem? (i := 109) rfl)), (tm4 (List.mem_of_getElem? (i := 110) rfl))⟩
theorem lw_p33 : lw_okq (⟨"OilHome$Ways", "through", "(III)I"⟩, 7) := ⟨nmh_11, (tm1 (List.mem_of_getElem? (i := 180) rfl)), (tm4 (List.mem_of_getElem? (i := 113) rfl)), (tm4 (List.mem_of_getElem? (i := 114) rfl))⟩
theorem lw_p34 : lw_okq (⟨"OilHome$Ways", "between", "(II)I"⟩, 7) := ⟨nmh_11, (tm1 (List.mem_of_getElem? (i := 180) rfl)), (tm4 (List.mem_of_getElem? (i := 117) rfl)), (tm4 (List.mem_of_getElem? (i := 118) rfl))⟩
theorem lw_p35 : lw_okq (⟨"OilHome$Ways", "nextStop", "(II)I"⟩, 7) := ⟨nmh_11, (tm1 (List.mem_of_getElem? (i := 180) rfl)), (tm4 (List.mem_of_getElem? (i := 140) rfl)), (tm4 (List.mem_of_getElem? (i := 141) rfl))⟩
theorem lw_p36 : lw_okq (⟨"OilHome", "drivenLength", "(I)I"⟩, 16) := ⟨nmh_0, (tm1 (List.mem_of_getElem? (i := 28) rfl)), (tm4 (List.mem_of_getElem? (i := 148) rfl)), (tm4 (List.mem_of_getElem? (i := 149) rfl))⟩
theorem lw_p37 : lw_okq (⟨"OilHome", "emptyStops", "(I)I"⟩, 16) := ⟨nmh_0, (tm1 (List.mem_of_getElem? (i := 28) rfl)), (tm4 (List.mem_of_getElem? (i := 162) rfl)), (tm4 (List.mem_of_getElem? (i := 163) rfl))⟩
theorem lw_p38 : lw_okq (⟨"OilHome", "isOff", "(II)Z"⟩, 16) := ⟨nmh_0, (tm1 (List.mem_of_getElem? (i := 28) rfl)), (tm4 (List.mem_of_getElem? (i := 174) rfl)), (tm4 (List.mem_of_getElem? (i := 175) rfl))⟩
theorem lw_p39 : lw_okq (⟨"OilHome", "bestShares", "(I)I"⟩, 16) := ⟨nmh_0, (tm1 (List.mem_of_getElem? (i := 28) rfl)), (tm4 (List.mem_of_getElem? (i := 182) rfl)), (tm4 (List.mem_of_getElem? (i := 183) rfl))⟩
theorem lw_p40 : lw_okq (⟨"OilHome", "sharedLength", "(II)I"⟩, 16) := ⟨nmh_0, (tm1 (List.mem_of_getElem? (i := 28) rfl)), (tm4 (List.mem_of_getElem? (i := 186) rfl)), (tm4 (List.mem_of_getElem? (i := 187) rfl))⟩
theorem lw_p41 : lw_okq (⟨"OilHome", "stopsOf", "(II)I"⟩, 16) := ⟨nmh_0, (tm1 (List.mem_of_getElem? (i := 28) rfl)), (tm4 (List.mem_of_getElem? (i := 190) rfl)), (tm4 (List.mem_of_getElem? (i := 191) rfl))⟩
theorem lw_p42 : lw_okq (⟨"OilHome", "lorryOf", "(II)I"⟩, 16) := ⟨nmh_0, (tm1 (List.mem_of_getElem? (i := 28) rfl)), (tm4 (List.mem_of_getElem? (i := 199) rfl)), (tm4 (List.mem_of_getElem? (i := 200) rfl))⟩
theorem lw_p43 : lw_okq (⟨"OilHome", "mixed", "(I)LOilHome$Batch;"⟩, 16) := ⟨nmh_0, (tm1 (List.mem_of_getElem? (i := 28) rfl)), (tm4 (List.mem_of_getElem? (i := 208) rfl)), (tm4 (List.mem_of_getElem? (i := 209) rfl))⟩
theorem lw_p44 : lw_okq (⟨"OilHome", "canBeBatched", "(LOilHome$Load;)Z"⟩, 16) := ⟨nmh_0, (tm1 (List.mem_of_getElem? (i := 28) rfl)), (tm5 (List.mem_of_getElem? (i := 7) rfl)), (tm5 (List.mem_of_getElem? (i := 8) rfl))⟩
theorem lw_p45 : lw_okq (⟨"OilHome", "lettersOfLaw", "()V"⟩, 16) := ⟨nmh_0, (tm1 (List.mem_of_getElem? (i := 28) rfl)), (tm5 (List.mem_of_getElem? (i := 19) rfl)), (tm5 (List.mem_of_getElem? (i := 20) rfl))⟩
theorem lw_p46 : lw_okq (⟨"OilHome", "brokenClause", "(LOilHome$Batch;)I"⟩, 16) := ⟨nmh_0, (tm1 (List.mem_of_getElem? (i := 28) rfl)), (tm5 (List.mem_of_getElem? (i := 23) rfl)), (tm5 (List.mem_of_getElem? (i := 24) rfl))⟩
theorem lw_p47 : lw_okq (⟨"OilHome", "keep", "(LOilHome$Batch;)V"⟩, 16) := ⟨nmh_0, (tm1 (List.mem_of_getElem? (i := 28) rfl)), (tm5 (List.mem_of_getElem? (i := 35) rfl)), (tm5 (List.mem_of_getElem? (i := 36) rfl))⟩
def lw_privs_3 : List (MethodName × Nat) := [(⟨"OilHome$Ways", "shortest", "(II)I"⟩, 7), (⟨"OilHome$Ways", "through", "(III)I"⟩, 7), (⟨"OilHome$Ways", "between", "(II)I"⟩, 7), (⟨"OilHome$Ways", "nextStop", "(II)I"⟩, 7), (⟨"OilHome", "drivenLength", "(I)I"⟩, 16), (⟨"OilHome", "emptyStops", "(I)I"⟩, 16), (⟨"OilHome", "isOff", "(II)Z"⟩, 16), (⟨"OilHome", "bestShares", "(I)I"⟩, 16), (⟨"OilHome", "sharedLength", "(II)I"⟩, 16), (⟨"OilHome", "stopsOf", "(II)I"⟩, 16), (⟨"OilHome", "lorryOf", "(II)I"⟩, 16), (⟨"OilHome", "mixed", "(I)LOilHome$Batch;"⟩, 16), (⟨"OilHome", "canBeBatched", "(LOilHome$Load;)Z"⟩, 16), (⟨"OilHome", "lettersOfLaw", "()V"⟩, 16), (⟨"OilHome", "brokenClause", "(LOilHome$Batch;)I"⟩, 16), (⟨"OilHome", "keep", "(LOilHome$Batch;)V"⟩, 16)]
theorem lw_r3 : ∀ q ∈ lw_privs_3, lw_okq q := List.forall_mem_cons.mpr ⟨lw_p32, List.forall_mem_cons.mpr ⟨lw_p33, List.forall_mem_cons.mpr ⟨lw_p34, List.forall_mem_cons.mpr ⟨lw_p35, List.forall_mem_cons.mpr ⟨lw_p36, List.forall_mem_cons.mpr ⟨lw_p37, List.forall_mem_cons.mpr ⟨lw_p38, List.forall_mem_cons.mpr ⟨lw_p39, List.forall_mem_cons.mpr ⟨lw_p40, List.forall_mem_cons.mpr ⟨lw_p41, List.forall_mem_cons.mpr ⟨lw_p42, List.forall_mem_cons.mpr ⟨lw_p43, List.forall_mem_cons.mpr ⟨lw_p44, List.forall_mem_cons.mpr ⟨lw_p45, List.forall_mem_cons.mpr ⟨lw_p46, List.forall_mem_cons.mpr ⟨lw_p47, fun _ h => absurd h List.not_mem_nil⟩⟩⟩⟩⟩⟩⟩⟩⟩⟩⟩⟩⟩⟩⟩⟩
theorem lw_p48 : lw_okq (⟨"OilHome", "batchAt", "(I)LOilHome$Batch;"⟩, 16) := ⟨nmh_0, (tm1 (List.mem_of_getElem? (i := 28) rfl)), (tm5 (List.mem_of_getElem? (i := 44) rfl)), (tm5 (List.mem_of_getElem? (i := 45) rfl))⟩
theorem lw_p49 : lw_okq (⟨"OilHome", "provenLitres", "(II)I"⟩, 16) := ⟨nmh_0, (tm1 (List.mem_of_getElem? (i := 28) rfl)), (tm5 (List.mem_of_getElem? (i := 48) rfl)), (tm5 (List.mem_of_getElem? (i := 49) rfl))⟩
theorem lw_p50 : lw_okq (⟨"OilHome", "firstProofBehind", "(III)LOilHome$Proof;"⟩, 16) := ⟨nmh_0, (tm1 (List.mem_of_getElem? (i := 28) rfl)), (tm5 (List.mem_of_getElem? (i := 52) rfl)), (tm5 (List.mem_of_getElem? (i := 53) rfl))⟩
theorem lw_p51 : lw_okq (⟨"OilHome", "gatherBlendable", "([I)I"⟩, 16) := ⟨nmh_0, (tm1 (List.mem_of_getElem? (i := 28) rfl)), (tm5 (List.mem_of_getElem? (i := 61) rfl)), (tm5 (List.mem_of_getElem? (i := 62) rfl))⟩
theorem lw_p52 : lw_okq (⟨"OilHome", "flipTo", "(LOilHome$Batch;I[I)V"⟩, 16) := ⟨nmh_0, (tm1 (List.mem_of_getElem? (i := 28) rfl)), (tm5 (List.mem_of_getElem? (i := 65) rfl)), (tm5 (List.mem_of_getElem? (i := 66) rfl))⟩
theorem lw_p53 : lw_okq (⟨"OilHome", "sharesWithEarlier", "(ILOilHome$Proof;)Z"⟩, 16) := ⟨nmh_0, (tm1 (List.mem_of_getElem? (i := 28) rfl)), (tm5 (List.mem_of_getElem? (i := 103) rfl)), (tm5 (List.mem_of_getElem? (i := 104) rfl))⟩
theorem lw_p54 : lw_okq (⟨"OilHome", "proofAt", "(I)LOilHome$Proof;"⟩, 16) := ⟨nmh_0, (tm1 (List.mem_of_getElem? (i := 28) rfl)), (tm5 (List.mem_of_getElem? (i := 119) rfl)), (tm5 (List.mem_of_getElem? (i := 120) rfl))⟩
theorem lw_p55 : lw_okq (⟨"OilHome", "boughtIn", "(II)I"⟩, 16) := ⟨nmh_0, (tm1 (List.mem_of_getElem? (i := 28) rfl)), (tm5 (List.mem_of_getElem? (i := 147) rfl)), (tm5 (List.mem_of_getElem? (i := 148) rfl))⟩
theorem lw_p56 : lw_okq (⟨"OilHome", "worthOf", "(II)I"⟩, 16) := ⟨nmh_0, (tm1 (List.mem_of_getElem? (i := 28) rfl)), (tm5 (List.mem_of_getElem? (i := 177) rfl)), (tm5 (List.mem_of_getElem? (i := 178) rfl))⟩
theorem lw_p57 : lw_okq (⟨"OilHome", "comers", "(I)I"⟩, 16) := ⟨nmh_0, (tm1 (List.mem_of_getElem? (i := 28) rfl)), (tm5 (List.mem_of_getElem? (i := 190) rfl)), (tm5 (List.mem_of_getElem? (i := 191) rfl))⟩
theorem lw_p58 : lw_okq (⟨"OilHome", "savedFrom", "(II)I"⟩, 16) := ⟨nmh_0, (tm1 (List.mem_of_getElem? (i := 28) rfl)), (tm5 (List.mem_of_getElem? (i := 202) rfl)), (tm5 (List.mem_of_getElem? (i := 203) rfl))⟩
theorem lw_p59 : lw_okq (⟨"OilHome", "isBeside", "(LOilHome$Kitchen;II)Z"⟩, 16) := ⟨nmh_0, (tm1 (List.mem_of_getElem? (i := 28) rfl)), (tm5 (List.mem_of_getElem? (i := 236) rfl)), (tm5 (List.mem_of_getElem? (i := 237) rfl))⟩
theorem lw_p60 : lw_okq (⟨"OilHome", "sets", "(II)Z"⟩, 16) := ⟨nmh_0, (tm1 (List.mem_of_getElem? (i := 28) rfl)), (tm6 (List.mem_of_getElem? (i := 8) rfl)), (tm6 (List.mem_of_getElem? (i := 9) rfl))⟩
theorem lw_p61 : lw_okq (⟨"OilHome", "feastedFill", "(LOilHome$Load;LOilHome$Kitchen;)I"⟩, 16) := ⟨nmh_0, (tm1 (List.mem_of_getElem? (i := 28) rfl)), (tm6 (List.mem_of_getElem? (i := 24) rfl)), (tm6 (List.mem_of_getElem? (i := 25) rfl))⟩
theorem lw_p62 : lw_okq (⟨"OilHome", "moveBy", "(II)LOilHome$Move;"⟩, 16) := ⟨nmh_0, (tm1 (List.mem_of_getElem? (i := 28) rfl)), (tm6 (List.mem_of_getElem? (i := 36) rfl)), (tm6 (List.mem_of_getElem? (i := 37) rfl))⟩
theorem lw_p63 : lw_okq (⟨"OilHome", "firstWrong", "(II)I"⟩, 16) := ⟨nmh_0, (tm1 (List.mem_of_getElem? (i := 28) rfl)), (tm6 (List.mem_of_getElem? (i := 83) rfl)), (tm6 (List.mem_of_getElem? (i := 84) rfl))⟩
def lw_privs_4 : List (MethodName × Nat) := [(⟨"OilHome", "batchAt", "(I)LOilHome$Batch;"⟩, 16), (⟨"OilHome", "provenLitres", "(II)I"⟩, 16), (⟨"OilHome", "firstProofBehind", "(III)LOilHome$Proof;"⟩, 16), (⟨"OilHome", "gatherBlendable", "([I)I"⟩, 16), (⟨"OilHome", "flipTo", "(LOilHome$Batch;I[I)V"⟩, 16), (⟨"OilHome", "sharesWithEarlier", "(ILOilHome$Proof;)Z"⟩, 16), (⟨"OilHome", "proofAt", "(I)LOilHome$Proof;"⟩, 16), (⟨"OilHome", "boughtIn", "(II)I"⟩, 16), (⟨"OilHome", "worthOf", "(II)I"⟩, 16), (⟨"OilHome", "comers", "(I)I"⟩, 16), (⟨"OilHome", "savedFrom", "(II)I"⟩, 16), (⟨"OilHome", "isBeside", "(LOilHome$Kitchen;II)Z"⟩, 16), (⟨"OilHome", "sets", "(II)Z"⟩, 16), (⟨"OilHome", "feastedFill", "(LOilHome$Load;LOilHome$Kitchen;)I"⟩, 16), (⟨"OilHome", "moveBy", "(II)LOilHome$Move;"⟩, 16), (⟨"OilHome", "firstWrong", "(II)I"⟩, 16)]
theorem lw_r4 : ∀ q ∈ lw_privs_4, lw_okq q := List.forall_mem_cons.mpr ⟨lw_p48, List.forall_mem_cons.mpr ⟨lw_p49, List.forall_mem_cons.mpr ⟨lw_p50, List.forall_mem_cons.mpr ⟨lw_p51, List.forall_mem_cons.mpr ⟨lw_p52, List.forall_mem_cons.mpr ⟨lw_p53, List.forall_mem_cons.mpr ⟨lw_p54, List.forall_mem_cons.mpr ⟨lw_p55, List.forall_mem_cons.mpr ⟨lw_p56, List.forall_mem_cons.mpr ⟨lw_p57, List.forall_mem_cons.mpr ⟨lw_p58, List.forall_mem_cons.mpr ⟨lw_p59, List.forall_mem_cons.mpr ⟨lw_p60, List.forall_mem_cons.mpr ⟨lw_p61, List.forall_mem_cons.mpr ⟨lw_p62, List.forall_mem_cons.mpr ⟨lw_p63, fun _ h => absurd h List.not_mem_nil⟩⟩⟩⟩⟩⟩⟩⟩⟩⟩⟩⟩⟩⟩⟩⟩
theorem lw_p64 : lw_okq (⟨"OilHome", "wrongPart", "(LOilHome$Load;II)I"⟩, 16) := ⟨nmh_0, (tm1 (List.mem_of_getElem? (i := 28) rfl)), (tm6 (List.mem_of_getElem? (i := 87) rfl)), (tm6 (List.mem_of_getElem? (i := 88) rfl))⟩
theorem lw_p65 : lw_okq (⟨"OilHome", "countOfAll", "(I)I"⟩, 16) := ⟨nmh_0, (tm1 (List.mem_of_getElem? (i := 28) rfl)), (tm6 (List.mem_of_getElem? (i := 100) rfl)), (tm6 (List.mem_of_getElem? (i := 101) rfl))⟩
theorem lw_p66 : lw_okq (⟨"OilHome", "countOfKitchen", "(LOilHome$Kitchen;I)I"⟩, 16) := ⟨nmh_0, (tm1 (List.mem_of_getElem? (i := 28) rfl)), (tm6 (List.mem_of_getElem? (i := 104) rfl)), (tm6 (List.mem_of_getElem? (i := 105) rfl))⟩
theorem lw_p67 : lw_okq (⟨"OilHomeModel", "isKitchen", "(I)Z"⟩, 91) := ⟨nmh_13, (tm6 (List.mem_of_getElem? (i := 108) rfl)), (tm7 (List.mem_of_getElem? (i := 164) rfl)), (tm7 (List.mem_of_getElem? (i := 165) rfl))⟩
theorem lw_p68 : lw_okq (⟨"OilHomeModel", "likelyOn", "(II)I"⟩, 91) := ⟨nmh_13, (tm6 (List.mem_of_getElem? (i := 108) rfl)), (tm7 (List.mem_of_getElem? (i := 168) rfl)), (tm7 (List.mem_of_getElem? (i := 169) rfl))⟩
theorem lw_p69 : lw_okq (⟨"OilHomeModel", "types", "(I)V"⟩, 91) := ⟨nmh_13, (tm6 (List.mem_of_getElem? (i := 108) rfl)), (tm7 (List.mem_of_getElem? (i := 180) rfl)), (tm7 (List.mem_of_getElem? (i := 181) rfl))⟩
theorem lw_p70 : lw_okq (⟨"OilHomeModel", "reads", "(II)I"⟩, 91) := ⟨nmh_13, (tm6 (List.mem_of_getElem? (i := 108) rfl)), (tm7 (List.mem_of_getElem? (i := 188) rfl)), (tm7 (List.mem_of_getElem? (i := 189) rfl))⟩
theorem lw_p71 : lw_okq (⟨"OilHomeModel", "readsClause", "(Z)Z"⟩, 91) := ⟨nmh_13, (tm6 (List.mem_of_getElem? (i := 108) rfl)), (tm7 (List.mem_of_getElem? (i := 192) rfl)), (tm7 (List.mem_of_getElem? (i := 193) rfl))⟩
theorem lw_p72 : lw_okq (⟨"OilHomeModel", "here", "()I"⟩, 91) := ⟨nmh_13, (tm6 (List.mem_of_getElem? (i := 108) rfl)), (tm7 (List.mem_of_getElem? (i := 196) rfl)), (tm7 (List.mem_of_getElem? (i := 197) rfl))⟩
theorem lw_p73 : lw_okq (⟨"OilHomeModel", "wrong", "(II)Z"⟩, 91) := ⟨nmh_13, (tm6 (List.mem_of_getElem? (i := 108) rfl)), (tm7 (List.mem_of_getElem? (i := 200) rfl)), (tm7 (List.mem_of_getElem? (i := 201) rfl))⟩
theorem lw_p74 : lw_okq (⟨"OilHomeModel", "readsSum", "()Z"⟩, 91) := ⟨nmh_13, (tm6 (List.mem_of_getElem? (i := 108) rfl)), (tm7 (List.mem_of_getElem? (i := 204) rfl)), (tm7 (List.mem_of_getElem? (i := 205) rfl))⟩
theorem lw_p75 : lw_okq (⟨"OilHomeModel", "readsFactor", "()Z"⟩, 91) := ⟨nmh_13, (tm6 (List.mem_of_getElem? (i := 108) rfl)), (tm7 (List.mem_of_getElem? (i := 208) rfl)), (tm7 (List.mem_of_getElem? (i := 209) rfl))⟩
theorem lw_p76 : lw_okq (⟨"OilHomeModel", "opens", "(I)Z"⟩, 91) := ⟨nmh_13, (tm6 (List.mem_of_getElem? (i := 108) rfl)), (tm7 (List.mem_of_getElem? (i := 212) rfl)), (tm7 (List.mem_of_getElem? (i := 213) rfl))⟩
theorem lw_p77 : lw_okq (⟨"OilHomeModel", "isDigit", "()Z"⟩, 91) := ⟨nmh_13, (tm6 (List.mem_of_getElem? (i := 108) rfl)), (tm7 (List.mem_of_getElem? (i := 217) rfl)), (tm7 (List.mem_of_getElem? (i := 218) rfl))⟩
theorem lw_p78 : lw_okq (⟨"OilHomeModel", "readsNumber", "()Z"⟩, 91) := ⟨nmh_13, (tm6 (List.mem_of_getElem? (i := 108) rfl)), (tm7 (List.mem_of_getElem? (i := 221) rfl)), (tm7 (List.mem_of_getElem? (i := 222) rfl))⟩
theorem lw_p79 : lw_okq (⟨"OilHomeModel", "says", "(II)V"⟩, 91) := ⟨nmh_13, (tm6 (List.mem_of_getElem? (i := 108) rfl)), (tm7 (List.mem_of_getElem? (i := 225) rfl)), (tm7 (List.mem_of_getElem? (i := 226) rfl))⟩
def lw_privs_5 : List (MethodName × Nat) := [(⟨"OilHome", "wrongPart", "(LOilHome$Load;II)I"⟩, 16), (⟨"OilHome", "countOfAll", "(I)I"⟩, 16), (⟨"OilHome", "countOfKitchen", "(LOilHome$Kitchen;I)I"⟩, 16), (⟨"OilHomeModel", "isKitchen", "(I)Z"⟩, 91), (⟨"OilHomeModel", "likelyOn", "(II)I"⟩, 91), (⟨"OilHomeModel", "types", "(I)V"⟩, 91), (⟨"OilHomeModel", "reads", "(II)I"⟩, 91), (⟨"OilHomeModel", "readsClause", "(Z)Z"⟩, 91), (⟨"OilHomeModel", "here", "()I"⟩, 91), (⟨"OilHomeModel", "wrong", "(II)Z"⟩, 91), (⟨"OilHomeModel", "readsSum", "()Z"⟩, 91), (⟨"OilHomeModel", "readsFactor", "()Z"⟩, 91), (⟨"OilHomeModel", "opens", "(I)Z"⟩, 91), (⟨"OilHomeModel", "isDigit", "()Z"⟩, 91), (⟨"OilHomeModel", "readsNumber", "()Z"⟩, 91), (⟨"OilHomeModel", "says", "(II)V"⟩, 91)]
theorem lw_r5 : ∀ q ∈ lw_privs_5, lw_okq q := List.forall_mem_cons.mpr ⟨lw_p64, List.forall_mem_cons.mpr ⟨lw_p65, List.forall_mem_cons.mpr ⟨lw_p66, List.forall_mem_cons.mpr ⟨lw_p67, List.forall_mem_cons.mpr ⟨lw_p68, List.forall_mem_cons.mpr ⟨lw_p69, List.forall_mem_cons.mpr ⟨lw_p70, List.forall_mem_cons.mpr ⟨lw_p71, List.forall_mem_cons.mpr ⟨lw_p72, List.forall_mem_cons.mpr ⟨lw_p73, List.forall_mem_cons.mpr ⟨lw_p74, List.forall_mem_cons.mpr ⟨lw_p75, List.forall_mem_cons.mpr ⟨lw_p76, List.forall_mem_cons.mpr ⟨lw_p77, List.forall_mem_cons.mpr ⟨lw_p78, List.forall_mem_cons.mpr ⟨lw_p79, fun _ h => absurd h List.not_mem_nil⟩⟩⟩⟩⟩⟩⟩⟩⟩⟩⟩⟩⟩⟩⟩⟩
theorem lw_p80 : lw_okq (⟨"OilHomeModel", "closesSums", "(Z)V"⟩, 91) := ⟨nmh_13, (tm6 (List.mem_of_getElem? (i := 108) rfl)), (tm7 (List.mem_of_getElem? (i := 235) rfl)), (tm7 (List.mem_of_getElem? (i := 236) rfl))⟩
theorem lw_p81 : lw_okq (⟨"OilHomeModel", "top", "()I"⟩, 91) := ⟨nmh_13, (tm6 (List.mem_of_getElem? (i := 108) rfl)), (tm7 (List.mem_of_getElem? (i := 239) rfl)), (tm8 (List.mem_of_getElem? (i := 0) rfl))⟩
theorem lw_p82 : lw_okq (⟨"OilHomeModel", "hasOpenSum", "(I)Z"⟩, 91) := ⟨nmh_13, (tm6 (List.mem_of_getElem? (i := 108) rfl)), (tm8 (List.mem_of_getElem? (i := 3) rfl)), (tm8 (List.mem_of_getElem? (i := 4) rfl))⟩
theorem lw_p83 : lw_okq (⟨"OilHomeModel", "readsCondition", "()Z"⟩, 91) := ⟨nmh_13, (tm6 (List.mem_of_getElem? (i := 108) rfl)), (tm8 (List.mem_of_getElem? (i := 7) rfl)), (tm8 (List.mem_of_getElem? (i := 8) rfl))⟩
theorem lw_p84 : lw_okq (⟨"OilHomeModel", "readsCompared", "()Z"⟩, 91) := ⟨nmh_13, (tm6 (List.mem_of_getElem? (i := 108) rfl)), (tm8 (List.mem_of_getElem? (i := 11) rfl)), (tm8 (List.mem_of_getElem? (i := 12) rfl))⟩
theorem lw_p85 : lw_okq (⟨"OilHomeModel", "endsPiece", "()V"⟩, 91) := ⟨nmh_13, (tm6 (List.mem_of_getElem? (i := 108) rfl)), (tm8 (List.mem_of_getElem? (i := 15) rfl)), (tm8 (List.mem_of_getElem? (i := 16) rfl))⟩
theorem lw_p86 : lw_okq (⟨"OilHomeModel", "lands", "(Z)V"⟩, 91) := ⟨nmh_13, (tm6 (List.mem_of_getElem? (i := 108) rfl)), (tm8 (List.mem_of_getElem? (i := 19) rfl)), (tm8 (List.mem_of_getElem? (i := 20) rfl))⟩
theorem lw_p87 : lw_okq (⟨"OilHomeModel", "jumps", "(I)V"⟩, 91) := ⟨nmh_13, (tm6 (List.mem_of_getElem? (i := 108) rfl)), (tm8 (List.mem_of_getElem? (i := 23) rfl)), (tm8 (List.mem_of_getElem? (i := 24) rfl))⟩
theorem lw_p88 : lw_okq (⟨"OilHomeModel", "takes", "(I)Z"⟩, 91) := ⟨nmh_13, (tm6 (List.mem_of_getElem? (i := 108) rfl)), (tm8 (List.mem_of_getElem? (i := 27) rfl)), (tm8 (List.mem_of_getElem? (i := 28) rfl))⟩
theorem lw_p89 : lw_okq (⟨"OilHomeModel", "isLoad", "(I)Z"⟩, 91) := ⟨nmh_13, (tm6 (List.mem_of_getElem? (i := 108) rfl)), (tm8 (List.mem_of_getElem? (i := 43) rfl)), (tm8 (List.mem_of_getElem? (i := 44) rfl))⟩
theorem lw_p90 : lw_okq (⟨"OilHomeModel", "penceFor", "(II)I"⟩, 91) := ⟨nmh_13, (tm6 (List.mem_of_getElem? (i := 108) rfl)), (tm8 (List.mem_of_getElem? (i := 47) rfl)), (tm8 (List.mem_of_getElem? (i := 48) rfl))⟩
theorem lw_p91 : lw_okq (⟨"OilHomeModel", "comesTo", "(II)I"⟩, 91) := ⟨nmh_13, (tm6 (List.mem_of_getElem? (i := 108) rfl)), (tm8 (List.mem_of_getElem? (i := 51) rfl)), (tm8 (List.mem_of_getElem? (i := 52) rfl))⟩
theorem lw_p92 : lw_okq (⟨"OilHomeModel", "lacking", "()I"⟩, 91) := ⟨nmh_13, (tm6 (List.mem_of_getElem? (i := 108) rfl)), (tm8 (List.mem_of_getElem? (i := 79) rfl)), (tm8 (List.mem_of_getElem? (i := 80) rfl))⟩
theorem lw_p93 : lw_okq (⟨"OilHomeModel", "byLot", "(IIII)J"⟩, 91) := ⟨nmh_13, (tm6 (List.mem_of_getElem? (i := 108) rfl)), (tm8 (List.mem_of_getElem? (i := 83) rfl)), (tm8 (List.mem_of_getElem? (i := 84) rfl))⟩
theorem lw_p94 : lw_okq (⟨"OilHomeModel", "feastedOf", "(I)I"⟩, 91) := ⟨nmh_13, (tm6 (List.mem_of_getElem? (i := 108) rfl)), (tm8 (List.mem_of_getElem? (i := 110) rfl)), (tm8 (List.mem_of_getElem? (i := 111) rfl))⟩
theorem lw_p95 : lw_okq (⟨"OilHomeModel", "lays", "(III)Z"⟩, 91) := ⟨nmh_13, (tm6 (List.mem_of_getElem? (i := 108) rfl)), (tm8 (List.mem_of_getElem? (i := 118) rfl)), (tm8 (List.mem_of_getElem? (i := 119) rfl))⟩
def lw_privs_6 : List (MethodName × Nat) := [(⟨"OilHomeModel", "closesSums", "(Z)V"⟩, 91), (⟨"OilHomeModel", "top", "()I"⟩, 91), (⟨"OilHomeModel", "hasOpenSum", "(I)Z"⟩, 91), (⟨"OilHomeModel", "readsCondition", "()Z"⟩, 91), (⟨"OilHomeModel", "readsCompared", "()Z"⟩, 91), (⟨"OilHomeModel", "endsPiece", "()V"⟩, 91), (⟨"OilHomeModel", "lands", "(Z)V"⟩, 91), (⟨"OilHomeModel", "jumps", "(I)V"⟩, 91), (⟨"OilHomeModel", "takes", "(I)Z"⟩, 91), (⟨"OilHomeModel", "isLoad", "(I)Z"⟩, 91), (⟨"OilHomeModel", "penceFor", "(II)I"⟩, 91), (⟨"OilHomeModel", "comesTo", "(II)I"⟩, 91), (⟨"OilHomeModel", "lacking", "()I"⟩, 91), (⟨"OilHomeModel", "byLot", "(IIII)J"⟩, 91), (⟨"OilHomeModel", "feastedOf", "(I)I"⟩, 91), (⟨"OilHomeModel", "lays", "(III)Z"⟩, 91)]
theorem lw_r6 : ∀ q ∈ lw_privs_6, lw_okq q := List.forall_mem_cons.mpr ⟨lw_p80, List.forall_mem_cons.mpr ⟨lw_p81, List.forall_mem_cons.mpr ⟨lw_p82, List.forall_mem_cons.mpr ⟨lw_p83, List.forall_mem_cons.mpr ⟨lw_p84, List.forall_mem_cons.mpr ⟨lw_p85, List.forall_mem_cons.mpr ⟨lw_p86, List.forall_mem_cons.mpr ⟨lw_p87, List.forall_mem_cons.mpr ⟨lw_p88, List.forall_mem_cons.mpr ⟨lw_p89, List.forall_mem_cons.mpr ⟨lw_p90, List.forall_mem_cons.mpr ⟨lw_p91, List.forall_mem_cons.mpr ⟨lw_p92, List.forall_mem_cons.mpr ⟨lw_p93, List.forall_mem_cons.mpr ⟨lw_p94, List.forall_mem_cons.mpr ⟨lw_p95, fun _ h => absurd h List.not_mem_nil⟩⟩⟩⟩⟩⟩⟩⟩⟩⟩⟩⟩⟩⟩⟩⟩
theorem lw_p96 : lw_okq (⟨"OilHomeModel", "goes", "()V"⟩, 91) := ⟨nmh_13, (tm6 (List.mem_of_getElem? (i := 108) rfl)), (tm8 (List.mem_of_getElem? (i := 122) rfl)), (tm8 (List.mem_of_getElem? (i := 123) rfl))⟩
theorem lw_p97 : lw_okq (⟨"OilHomeModel", "toDepot", "(I)I"⟩, 91) := ⟨nmh_13, (tm6 (List.mem_of_getElem? (i := 108) rfl)), (tm8 (List.mem_of_getElem? (i := 126) rfl)), (tm8 (List.mem_of_getElem? (i := 127) rfl))⟩
theorem lw_p98 : lw_okq (⟨"OilHomeModel", "way", "(II)I"⟩, 91) := ⟨nmh_13, (tm6 (List.mem_of_getElem? (i := 108) rfl)), (tm8 (List.mem_of_getElem? (i := 131) rfl)), (tm8 (List.mem_of_getElem? (i := 132) rfl))⟩
theorem lw_p99 : lw_okq (⟨"OilHomeModel", "nextOf", "(II)I"⟩, 91) := ⟨nmh_13, (tm6 (List.mem_of_getElem? (i := 108) rfl)), (tm8 (List.mem_of_getElem? (i := 138) rfl)), (tm8 (List.mem_of_getElem? (i := 139) rfl))⟩
theorem lw_p100 : lw_okq (⟨"OilHomeModel", "sharedBy", "(I)I"⟩, 91) := ⟨nmh_13, (tm6 (List.mem_of_getElem? (i := 108) rfl)), (tm8 (List.mem_of_getElem? (i := 154) rfl)), (tm8 (List.mem_of_getElem? (i := 155) rfl))⟩
theorem lw_p101 : lw_okq (⟨"OilHomeModel", "roundTo", "(I)I"⟩, 91) := ⟨nmh_13, (tm6 (List.mem_of_getElem? (i := 108) rfl)), (tm8 (List.mem_of_getElem? (i := 158) rfl)), (tm8 (List.mem_of_getElem? (i := 159) rfl))⟩
theorem lw_p102 : lw_okq (⟨"OilHomeModel", "goNights", "(III)Z"⟩, 91) := ⟨nmh_13, (tm6 (List.mem_of_getElem? (i := 108) rfl)), (tm8 (List.mem_of_getElem? (i := 166) rfl)), (tm8 (List.mem_of_getElem? (i := 167) rfl))⟩
theorem lw_p103 : lw_okq (⟨"OilHomeModel", "isDrum", "(I)Z"⟩, 91) := ⟨nmh_13, (tm6 (List.mem_of_getElem? (i := 108) rfl)), (tm8 (List.mem_of_getElem? (i := 178) rfl)), (tm8 (List.mem_of_getElem? (i := 179) rfl))⟩
theorem lw_p104 : lw_okq (⟨"OilHomeModel", "latest", "(II)I"⟩, 91) := ⟨nmh_13, (tm6 (List.mem_of_getElem? (i := 108) rfl)), (tm8 (List.mem_of_getElem? (i := 182) rfl)), (tm8 (List.mem_of_getElem? (i := 183) rfl))⟩
theorem lw_p105 : lw_okq (⟨"OilHomeModel", "isFree", "(I)Z"⟩, 91) := ⟨nmh_13, (tm6 (List.mem_of_getElem? (i := 108) rfl)), (tm8 (List.mem_of_getElem? (i := 203) rfl)), (tm8 (List.mem_of_getElem? (i := 204) rfl))⟩
theorem lw_p106 : lw_okq (⟨"OilHomeModel", "whyNot", "(I)I"⟩, 91) := ⟨nmh_13, (tm6 (List.mem_of_getElem? (i := 108) rfl)), (tm8 (List.mem_of_getElem? (i := 207) rfl)), (tm8 (List.mem_of_getElem? (i := 208) rfl))⟩
theorem lw_p107 : lw_okq (⟨"OilHomeModel", "mixes", "(I)V"⟩, 91) := ⟨nmh_13, (tm6 (List.mem_of_getElem? (i := 108) rfl)), (tm8 (List.mem_of_getElem? (i := 211) rfl)), (tm8 (List.mem_of_getElem? (i := 212) rfl))⟩
theorem lw_p108 : lw_okq (⟨"OilHomeModel", "isBatch", "(I)Z"⟩, 91) := ⟨nmh_13, (tm6 (List.mem_of_getElem? (i := 108) rfl)), (tm8 (List.mem_of_getElem? (i := 222) rfl)), (tm8 (List.mem_of_getElem? (i := 223) rfl))⟩
theorem lw_p109 : lw_okq (⟨"OilHomeModel", "litresOf", "(I)I"⟩, 91) := ⟨nmh_13, (tm6 (List.mem_of_getElem? (i := 108) rfl)), (tm8 (List.mem_of_getElem? (i := 226) rfl)), (tm8 (List.mem_of_getElem? (i := 227) rfl))⟩
theorem lw_p110 : lw_okq (⟨"OilHomeModel", "proved", "(II)I"⟩, 91) := ⟨nmh_13, (tm6 (List.mem_of_getElem? (i := 108) rfl)), (tm8 (List.mem_of_getElem? (i := 230) rfl)), (tm8 (List.mem_of_getElem? (i := 231) rfl))⟩
theorem lw_p111 : lw_okq (⟨"OilHomeModel", "loadAt", "(II)I"⟩, 91) := ⟨nmh_13, (tm6 (List.mem_of_getElem? (i := 108) rfl)), (tm9 (List.mem_of_getElem? (i := 14) rfl)), (tm9 (List.mem_of_getElem? (i := 15) rfl))⟩
def lw_privs_7 : List (MethodName × Nat) := [(⟨"OilHomeModel", "goes", "()V"⟩, 91), (⟨"OilHomeModel", "toDepot", "(I)I"⟩, 91), (⟨"OilHomeModel", "way", "(II)I"⟩, 91), (⟨"OilHomeModel", "nextOf", "(II)I"⟩, 91), (⟨"OilHomeModel", "sharedBy", "(I)I"⟩, 91), (⟨"OilHomeModel", "roundTo", "(I)I"⟩, 91), (⟨"OilHomeModel", "goNights", "(III)Z"⟩, 91), (⟨"OilHomeModel", "isDrum", "(I)Z"⟩, 91), (⟨"OilHomeModel", "latest", "(II)I"⟩, 91), (⟨"OilHomeModel", "isFree", "(I)Z"⟩, 91), (⟨"OilHomeModel", "whyNot", "(I)I"⟩, 91), (⟨"OilHomeModel", "mixes", "(I)V"⟩, 91), (⟨"OilHomeModel", "isBatch", "(I)Z"⟩, 91), (⟨"OilHomeModel", "litresOf", "(I)I"⟩, 91), (⟨"OilHomeModel", "proved", "(II)I"⟩, 91), (⟨"OilHomeModel", "loadAt", "(II)I"⟩, 91)]
theorem lw_r7 : ∀ q ∈ lw_privs_7, lw_okq q := List.forall_mem_cons.mpr ⟨lw_p96, List.forall_mem_cons.mpr ⟨lw_p97, List.forall_mem_cons.mpr ⟨lw_p98, List.forall_mem_cons.mpr ⟨lw_p99, List.forall_mem_cons.mpr ⟨lw_p100, List.forall_mem_cons.mpr ⟨lw_p101, List.forall_mem_cons.mpr ⟨lw_p102, List.forall_mem_cons.mpr ⟨lw_p103, List.forall_mem_cons.mpr ⟨lw_p104, List.forall_mem_cons.mpr ⟨lw_p105, List.forall_mem_cons.mpr ⟨lw_p106, List.forall_mem_cons.mpr ⟨lw_p107, List.forall_mem_cons.mpr ⟨lw_p108, List.forall_mem_cons.mpr ⟨lw_p109, List.forall_mem_cons.mpr ⟨lw_p110, List.forall_mem_cons.mpr ⟨lw_p111, fun _ h => absurd h List.not_mem_nil⟩⟩⟩⟩⟩⟩⟩⟩⟩⟩⟩⟩⟩⟩⟩⟩
theorem lw_p112 : lw_okq (⟨"OilHomeModel", "isProof", "(I)Z"⟩, 91) := ⟨nmh_13, (tm6 (List.mem_of_getElem? (i := 108) rfl)), (tm9 (List.mem_of_getElem? (i := 22) rfl)), (tm9 (List.mem_of_getElem? (i := 23) rfl))⟩
theorem lw_p113 : lw_okq (⟨"OilHomeModel", "stockOn", "(I)I"⟩, 91) := ⟨nmh_13, (tm6 (List.mem_of_getElem? (i := 108) rfl)), (tm9 (List.mem_of_getElem? (i := 62) rfl)), (tm9 (List.mem_of_getElem? (i := 63) rfl))⟩
theorem lw_p114 : lw_okq (⟨"OilHomeModel", "worthOf", "(II)I"⟩, 91) := ⟨nmh_13, (tm6 (List.mem_of_getElem? (i := 108) rfl)), (tm9 (List.mem_of_getElem? (i := 79) rfl)), (tm9 (List.mem_of_getElem? (i := 80) rfl))⟩
theorem lw_p115 : lw_okq (⟨"OilHomeModel", "comers", "(I)I"⟩, 91) := ⟨nmh_13, (tm6 (List.mem_of_getElem? (i := 108) rfl)), (tm9 (List.mem_of_getElem? (i := 83) rfl)), (tm9 (List.mem_of_getElem? (i := 84) rfl))⟩
theorem lw_p116 : lw_okq (⟨"OilHomeModel", "saves", "(II)I"⟩, 91) := ⟨nmh_13, (tm6 (List.mem_of_getElem? (i := 108) rfl)), (tm9 (List.mem_of_getElem? (i := 99) rfl)), (tm9 (List.mem_of_getElem? (i := 100) rfl))⟩
theorem lw_p117 : lw_okq (⟨"OilHomeModel", "tapeNumber", "(I)I"⟩, 91) := ⟨nmh_13, (tm6 (List.mem_of_getElem? (i := 108) rfl)), (tm9 (List.mem_of_getElem? (i := 131) rfl)), (tm9 (List.mem_of_getElem? (i := 132) rfl))⟩
def lw_privs_8 : List (MethodName × Nat) := [(⟨"OilHomeModel", "isProof", "(I)Z"⟩, 91), (⟨"OilHomeModel", "stockOn", "(I)I"⟩, 91), (⟨"OilHomeModel", "worthOf", "(II)I"⟩, 91), (⟨"OilHomeModel", "comers", "(I)I"⟩, 91), (⟨"OilHomeModel", "saves", "(II)I"⟩, 91), (⟨"OilHomeModel", "tapeNumber", "(I)I"⟩, 91)]
theorem lw_r8 : ∀ q ∈ lw_privs_8, lw_okq q := List.forall_mem_cons.mpr ⟨lw_p112, List.forall_mem_cons.mpr ⟨lw_p113, List.forall_mem_cons.mpr ⟨lw_p114, List.forall_mem_cons.mpr ⟨lw_p115, List.forall_mem_cons.mpr ⟨lw_p116, List.forall_mem_cons.mpr ⟨lw_p117, fun _ h => absurd h List.not_mem_nil⟩⟩⟩⟩⟩⟩
def lw_privs : List (MethodName × Nat) := lw_privs_1 ++ (lw_privs_2 ++ (lw_privs_3 ++ (lw_privs_4 ++ (lw_privs_5 ++ (lw_privs_6 ++ (lw_privs_7 ++ (lw_privs_8)))))))
def lw_tbl : List Cond := k2_sels lw_privs ++ tables_1
theorem lw_privs_ok : ∀ q ∈ lw_privs, lw_okq q := by
  show ∀ q ∈ lw_privs_1 ++ (lw_privs_2 ++ (lw_privs_3 ++ (lw_privs_4 ++ (lw_privs_5 ++ (lw_privs_6 ++ (lw_privs_7 ++ (lw_privs_8))))))), lw_okq q
  exact List.forall_mem_append.mpr ⟨lw_r1, List.forall_mem_append.mpr ⟨lw_r2, List.forall_mem_append.mpr ⟨lw_r3, List.forall_mem_append.mpr ⟨lw_r4, List.forall_mem_append.mpr ⟨lw_r5, List.forall_mem_append.mpr ⟨lw_r6, List.forall_mem_append.mpr ⟨lw_r7, lw_r8⟩⟩⟩⟩⟩⟩⟩

/-- the words that every contract here is proved over: all good ones of the tables -/
def wT : List Cond := lw_tbl.filter goodWord
theorem wT_in {w : Cond} (h : w ∈ lw_tbl) (g : goodWord w = true) : w ∈ wT := List.mem_filter.mpr ⟨h, g⟩
theorem wT_lw {w : Cond} (h : w ∈ wT) : w ∈ lw_tbl := (List.mem_filter.mp h).1
theorem wT_good {w : Cond} (h : w ∈ wT) : (w.onTables && w.keeps) = true ∨ ∃ ty, w = .arrayClass ty := good_of_word (List.mem_filter.mp h).2
theorem wT_tab {w : Cond} (i : Nat) (h : tables_1[i]? = some w) (g : goodWord w = true) : w ∈ wT := wT_in (List.mem_append_right _ (List.mem_of_getElem? h)) g
theorem wT_sel {w : Cond} (i : Nat) (q : MethodName × Nat) (h : lw_privs[i]? = some q) (e : Cond.selects q.1.cls q.1 q.1 = w) (g : goodWord w = true) : w ∈ wT := wT_in (List.mem_append_left _ (List.mem_map.mpr ⟨q, List.mem_of_getElem? h, e⟩)) g
theorem wT_t1 {w : Cond} (i : Nat) (h : tables_1_1[i]? = some w) (g : goodWord w = true) : w ∈ wT := wT_in (List.mem_append_right _ (tm1 (List.mem_of_getElem? h))) g
theorem wT_t2 {w : Cond} (i : Nat) (h : tables_1_2[i]? = some w) (g : goodWord w = true) : w ∈ wT := wT_in (List.mem_append_right _ (tm2 (List.mem_of_getElem? h))) g
theorem wT_t3 {w : Cond} (i : Nat) (h : tables_1_3[i]? = some w) (g : goodWord w = true) : w ∈ wT := wT_in (List.mem_append_right _ (tm3 (List.mem_of_getElem? h))) g
theorem wT_t4 {w : Cond} (i : Nat) (h : tables_1_4[i]? = some w) (g : goodWord w = true) : w ∈ wT := wT_in (List.mem_append_right _ (tm4 (List.mem_of_getElem? h))) g
theorem wT_t5 {w : Cond} (i : Nat) (h : tables_1_5[i]? = some w) (g : goodWord w = true) : w ∈ wT := wT_in (List.mem_append_right _ (tm5 (List.mem_of_getElem? h))) g
theorem wT_t6 {w : Cond} (i : Nat) (h : tables_1_6[i]? = some w) (g : goodWord w = true) : w ∈ wT := wT_in (List.mem_append_right _ (tm6 (List.mem_of_getElem? h))) g
theorem wT_t7 {w : Cond} (i : Nat) (h : tables_1_7[i]? = some w) (g : goodWord w = true) : w ∈ wT := wT_in (List.mem_append_right _ (tm7 (List.mem_of_getElem? h))) g
theorem wT_t8 {w : Cond} (i : Nat) (h : tables_1_8[i]? = some w) (g : goodWord w = true) : w ∈ wT := wT_in (List.mem_append_right _ (tm8 (List.mem_of_getElem? h))) g
theorem wT_t9 {w : Cond} (i : Nat) (h : tables_1_9[i]? = some w) (g : goodWord w = true) : w ∈ wT := wT_in (List.mem_append_right _ (tm9 (List.mem_of_getElem? h))) g

def RX0 : String := "OilHome$Batch"
def TX0 : u_T := fun k => match k with
  | 0 => ("OilHome$Batch", "samples", "[I", true)
  | 1 => ("OilHome$Batch", "waterSum", "I", false)
  | 2 => ("OilHome$Batch", "acidSum", "I", false)
  | 3 => ("OilHome$Batch", "sampled", "I", false)
  | 4 => ("OilHome$Batch", "set", "I", false)
  | 5 => ("OilHome$Batch", "loads", "I", false)
  | 6 => ("OilHome$Batch", "litres", "I", false)
  | _ => ("OilHome$Batch", "day", "I", false)
def tyX0 : Nat → FieldType := fun k => match k with
  | 0 => .array .int
  | 1 => .int
  | 2 => .int
  | 3 => .int
  | 4 => .int
  | 5 => .int
  | 6 => .int
  | _ => .int
abbrev wsX00 : List Cond := u_ws RX0 TX0 8
theorem nmX0 : ∀ a, a < 8 → ∀ b, b < 8 → a ≠ b → (TX0 a).2.1 ≠ (TX0 b).2.1 := by decide +kernel
theorem tyX0_ok : ∀ k, k < 8 → parseFieldDescriptor (TX0 k).2.2.1 = some (tyX0 k) := by decide +kernel
abbrev cX0_init : ByteArray := prog_2_method_1_code
def yX0_init : MethodName := ⟨RX0, "<init>", "()V"⟩
abbrev cX0_has : ByteArray := prog_2_method_2_code
def yX0_has : MethodName := ⟨RX0, "has", "(I)Z"⟩
abbrev cX0_flip : ByteArray := prog_2_method_3_code
def yX0_flip : MethodName := ⟨RX0, "flip", "(ILOilHome$Load;)V"⟩
abbrev cX0_water : ByteArray := prog_2_method_4_code
def yX0_water : MethodName := ⟨RX0, "water", "()I"⟩
abbrev cX0_acid : ByteArray := prog_2_method_5_code
def yX0_acid : MethodName := ⟨RX0, "acid", "()I"⟩
abbrev cX0_addSample : ByteArray := prog_2_method_6_code
def yX0_addSample : MethodName := ⟨RX0, "addSample", "(I)V"⟩
abbrev cX0_samplesFrom : ByteArray := prog_2_method_7_code
def yX0_samplesFrom : MethodName := ⟨RX0, "samplesFrom", "(I)I"⟩
def RX1 : String := "OilHome$Kitchen"
def TX1 : u_T := fun k => match k with
  | 0 => ("OilHome$Kitchen", "x", "I", true)
  | 1 => ("OilHome$Kitchen", "y", "I", true)
  | 2 => ("OilHome$Kitchen", "litres", "I", true)
  | 3 => ("OilHome$Kitchen", "drum", "I", true)
  | 4 => ("OilHome$Kitchen", "emptied", "I", false)
  | 5 => ("OilHome$Kitchen", "trial", "I", false)
  | 6 => ("OilHome$Kitchen", "fetched", "I", false)
  | 7 => ("OilHome$Kitchen", "least", "I", false)
  | 8 => ("OilHome$Kitchen", "rival", "I", false)
  | 9 => ("OilHome$Kitchen", "street", "I", false)
  | _ => ("OilHome$Kitchen", "contract", "LOilHome$Text;", false)
def tyX1 : Nat → FieldType := fun k => match k with
  | 0 => .int
  | 1 => .int
  | 2 => .int
  | 3 => .int
  | 4 => .int
  | 5 => .int
  | 6 => .int
  | 7 => .int
  | 8 => .int
  | 9 => .int
  | _ => .object "OilHome$Text"
abbrev wsX10 : List Cond := u_ws RX1 TX1 11
theorem nmX1 : ∀ a, a < 11 → ∀ b, b < 11 → a ≠ b → (TX1 a).2.1 ≠ (TX1 b).2.1 := by decide +kernel
theorem tyX1_ok : ∀ k, k < 11 → parseFieldDescriptor (TX1 k).2.2.1 = some (tyX1 k) := by decide +kernel
abbrev cX1_init : ByteArray := prog_3_method_1_code
def yX1_init : MethodName := ⟨RX1, "<init>", "(IIII)V"⟩
abbrev cX1_fillOn : ByteArray := prog_3_method_2_code
def yX1_fillOn : MethodName := ⟨RX1, "fillOn", "(II)I"⟩
abbrev cX1_comesFor : ByteArray := prog_3_method_3_code
def yX1_comesFor : MethodName := ⟨RX1, "comesFor", "(I)Z"⟩
def RX2 : String := "OilHome$Load"
def TX2 : u_T := fun k => match k with
  | 0 => ("OilHome$Load", "kitchen", "I", true)
  | 1 => ("OilHome$Load", "day", "I", true)
  | 2 => ("OilHome$Load", "litres", "I", true)
  | 3 => ("OilHome$Load", "water", "I", true)
  | 4 => ("OilHome$Load", "acid", "I", true)
  | 5 => ("OilHome$Load", "told", "I", true)
  | 6 => ("OilHome$Load", "since", "I", false)
  | 7 => ("OilHome$Load", "ahead", "I", false)
  | 8 => ("OilHome$Load", "lacking", "I", false)
  | _ => ("OilHome$Load", "batched", "Z", false)
def tyX2 : Nat → FieldType := fun k => match k with
  | 0 => .int
  | 1 => .int
  | 2 => .int
  | 3 => .int
  | 4 => .int
  | 5 => .int
  | 6 => .int
  | 7 => .int
  | 8 => .int
  | _ => .boolean
abbrev wsX20 : List Cond := u_ws RX2 TX2 10
theorem nmX2 : ∀ a, a < 10 → ∀ b, b < 10 → a ≠ b → (TX2 a).2.1 ≠ (TX2 b).2.1 := by decide +kernel
theorem tyX2_ok : ∀ k, k < 10 → parseFieldDescriptor (TX2 k).2.2.1 = some (tyX2 k) := by decide +kernel
abbrev cX2_init : ByteArray := prog_4_method_1_code
def yX2_init : MethodName := ⟨RX2, "<init>", "(IIIIII)V"⟩
abbrev cX2_shortOf : ByteArray := prog_4_method_2_code
def yX2_shortOf : MethodName := ⟨RX2, "shortOf", "(I)I"⟩
def RX3 : String := "OilHome$Move"
def TX3 : u_T := fun k => match k with
  | 0 => ("OilHome$Move", "drum", "I", true)
  | 1 => ("OilHome$Move", "kitchen", "I", true)
  | _ => ("OilHome$Move", "day", "I", true)
def tyX3 : Nat → FieldType := fun k => match k with
  | 0 => .int
  | 1 => .int
  | _ => .int
abbrev wsX30 : List Cond := u_ws RX3 TX3 3
theorem nmX3 : ∀ a, a < 3 → ∀ b, b < 3 → a ≠ b → (TX3 a).2.1 ≠ (TX3 b).2.1 := by decide +kernel
theorem tyX3_ok : ∀ k, k < 3 → parseFieldDescriptor (TX3 k).2.2.1 = some (tyX3 k) := by decide +kernel
abbrev cX3_init : ByteArray := prog_5_method_1_code
def yX3_init : MethodName := ⟨RX3, "<init>", "(III)V"⟩
def RX4 : String := "OilHome$Proof"
def TX4 : u_T := fun k => match k with
  | 0 => ("OilHome$Proof", "batch", "I", true)
  | 1 => ("OilHome$Proof", "from", "I", true)
  | 2 => ("OilHome$Proof", "to", "I", true)
  | 3 => ("OilHome$Proof", "buyer", "I", true)
  | _ => ("OilHome$Proof", "day", "I", true)
def tyX4 : Nat → FieldType := fun k => match k with
  | 0 => .int
  | 1 => .int
  | 2 => .int
  | 3 => .int
  | _ => .int
abbrev wsX40 : List Cond := u_ws RX4 TX4 5
theorem nmX4 : ∀ a, a < 5 → ∀ b, b < 5 → a ≠ b → (TX4 a).2.1 ≠ (TX4 b).2.1 := by decide +kernel
theorem tyX4_ok : ∀ k, k < 5 → parseFieldDescriptor (TX4 k).2.2.1 = some (tyX4 k) := by decide +kernel
abbrev cX4_init : ByteArray := prog_6_method_1_code
def yX4_init : MethodName := ⟨RX4, "<init>", "(IIIII)V"⟩
abbrev cX4_litres : ByteArray := prog_6_method_2_code
def yX4_litres : MethodName := ⟨RX4, "litres", "()I"⟩
def RX5 : String := "OilHome$Reader"
def TX5 : u_T := fun k => match k with
  | 0 => ("OilHome$Reader", "bytes", "[I", false)
  | 1 => ("OilHome$Reader", "text", "LOilHome$Text;", false)
  | 2 => ("OilHome$Reader", "lead", "I", false)
  | 3 => ("OilHome$Reader", "place", "I", false)
  | 4 => ("OilHome$Reader", "end", "I", false)
  | _ => ("OilHome$Reader", "fault", "I", false)
def tyX5 : Nat → FieldType := fun k => match k with
  | 0 => .array .int
  | 1 => .object "OilHome$Text"
  | 2 => .int
  | 3 => .int
  | 4 => .int
  | _ => .int
abbrev wsX50 : List Cond := u_ws RX5 TX5 6
theorem nmX5 : ∀ a, a < 6 → ∀ b, b < 6 → a ≠ b → (TX5 a).2.1 ≠ (TX5 b).2.1 := by decide +kernel
theorem tyX5_ok : ∀ k, k < 6 → parseFieldDescriptor (TX5 k).2.2.1 = some (tyX5 k) := by decide +kernel
abbrev cX5_init : ByteArray := prog_7_method_1_code
def yX5_init : MethodName := ⟨RX5, "<init>", "()V"⟩
abbrev cX5_read : ByteArray := prog_7_method_2_code
def yX5_read : MethodName := ⟨RX5, "read", "(LOilHome$Tape;IC)LOilHome$Text;"⟩
abbrev cX5_peek : ByteArray := prog_7_method_3_code
def yX5_peek : MethodName := ⟨RX5, "peek", "()I"⟩
abbrev cX5_fail : ByteArray := prog_7_method_4_code
def yX5_fail : MethodName := ⟨RX5, "fail", "(I)V"⟩
abbrev cX5_take : ByteArray := prog_7_method_5_code
def yX5_take : MethodName := ⟨RX5, "take", "(C)V"⟩
abbrev cX5_opens : ByteArray := prog_7_method_6_code
def yX5_opens : MethodName := ⟨RX5, "opens", "(I)Z"⟩
abbrev cX5_readClause : ByteArray := prog_7_method_7_code
def yX5_readClause : MethodName := ⟨RX5, "readClause", "()V"⟩
abbrev cX5_readCondition : ByteArray := prog_7_method_8_code
def yX5_readCondition : MethodName := ⟨RX5, "readCondition", "(I)V"⟩
abbrev cX5_readPart : ByteArray := prog_7_method_9_code
def yX5_readPart : MethodName := ⟨RX5, "readPart", "(I)V"⟩
abbrev cX5_readPiece : ByteArray := prog_7_method_10_code
def yX5_readPiece : MethodName := ⟨RX5, "readPiece", "(I)V"⟩
abbrev cX5_readRelation : ByteArray := prog_7_method_11_code
def yX5_readRelation : MethodName := ⟨RX5, "readRelation", "()I"⟩
abbrev cX5_readSum : ByteArray := prog_7_method_12_code
def yX5_readSum : MethodName := ⟨RX5, "readSum", "(I)V"⟩
abbrev cX5_readTerm : ByteArray := prog_7_method_13_code
def yX5_readTerm : MethodName := ⟨RX5, "readTerm", "(I)V"⟩
abbrev cX5_readFactor : ByteArray := prog_7_method_14_code
def yX5_readFactor : MethodName := ⟨RX5, "readFactor", "(I)V"⟩
abbrev cX5_isDigit : ByteArray := prog_7_method_15_code
def yX5_isDigit : MethodName := ⟨RX5, "isDigit", "(I)Z"⟩
abbrev cX5_readNumber : ByteArray := prog_7_method_16_code
def yX5_readNumber : MethodName := ⟨RX5, "readNumber", "()V"⟩
def RX6 : String := "OilHome$Sewer"
def TX6 : u_T := fun k => match k with
  | 0 => ("OilHome$Sewer", "x", "I", true)
  | 1 => ("OilHome$Sewer", "y", "I", true)
  | _ => ("OilHome$Sewer", "times", "I", false)
def tyX6 : Nat → FieldType := fun k => match k with
  | 0 => .int
  | 1 => .int
  | _ => .int
abbrev wsX60 : List Cond := u_ws RX6 TX6 3
theorem nmX6 : ∀ a, a < 3 → ∀ b, b < 3 → a ≠ b → (TX6 a).2.1 ≠ (TX6 b).2.1 := by decide +kernel
theorem tyX6_ok : ∀ k, k < 3 → parseFieldDescriptor (TX6 k).2.2.1 = some (tyX6 k) := by decide +kernel
abbrev cX6_init : ByteArray := prog_8_method_1_code
def yX6_init : MethodName := ⟨RX6, "<init>", "(II)V"⟩
def RX7 : String := "OilHome$Tables"
def TX7 : u_T := fun k => match k with
  | 0 => ("OilHome$Tables", "prices", "[I", true)
  | 1 => ("OilHome$Tables", "thefts", "[I", true)
  | 2 => ("OilHome$Tables", "degrees", "[I", true)
  | 3 => ("OilHome$Tables", "feasts", "[I", true)
  | 4 => ("OilHome$Tables", "uses", "[I", true)
  | 5 => ("OilHome$Tables", "mosts", "[I", true)
  | 6 => ("OilHome$Tables", "rates", "[I", true)
  | 7 => ("OilHome$Tables", "takes", "[I", true)
  | 8 => ("OilHome$Tables", "off", "[I", true)
  | _ => ("OilHome$Tables", "changes", "[I", true)
def tyX7 : Nat → FieldType := fun k => match k with
  | 0 => .array .int
  | 1 => .array .int
  | 2 => .array .int
  | 3 => .array .int
  | 4 => .array .int
  | 5 => .array .int
  | 6 => .array .int
  | 7 => .array .int
  | 8 => .array .int
  | _ => .array .int
abbrev wsX70 : List Cond := u_ws RX7 TX7 10
theorem nmX7 : ∀ a, a < 10 → ∀ b, b < 10 → a ≠ b → (TX7 a).2.1 ≠ (TX7 b).2.1 := by decide +kernel
theorem tyX7_ok : ∀ k, k < 10 → parseFieldDescriptor (TX7 k).2.2.1 = some (tyX7 k) := by decide +kernel
abbrev cX7_init : ByteArray := prog_9_method_1_code
def yX7_init : MethodName := ⟨RX7, "<init>", "()V"⟩
abbrev cX7_at : ByteArray := prog_9_method_2_code
def yX7_at : MethodName := ⟨RX7, "at", "([II)I"⟩
abbrev cX7_put : ByteArray := prog_9_method_3_code
def yX7_put : MethodName := ⟨RX7, "put", "([III)V"⟩
abbrev cX7_tell : ByteArray := prog_9_method_4_code
def yX7_tell : MethodName := ⟨RX7, "tell", "([IIIII)Z"⟩
abbrev cX7_change : ByteArray := prog_9_method_5_code
def yX7_change : MethodName := ⟨RX7, "change", "(II)V"⟩
def RX8 : String := "OilHome$Tape"
def TX8 : u_T := fun k => match k with
  | 0 => ("OilHome$Tape", "bytes", "[I", true)
  | _ => ("OilHome$Tape", "length", "I", false)
def tyX8 : Nat → FieldType := fun k => match k with
  | 0 => .array .int
  | _ => .int
abbrev wsX80 : List Cond := u_ws RX8 TX8 2
theorem nmX8 : ∀ a, a < 2 → ∀ b, b < 2 → a ≠ b → (TX8 a).2.1 ≠ (TX8 b).2.1 := by decide +kernel
theorem tyX8_ok : ∀ k, k < 2 → parseFieldDescriptor (TX8 k).2.2.1 = some (tyX8 k) := by decide +kernel
abbrev cX8_init : ByteArray := prog_10_method_1_code
def yX8_init : MethodName := ⟨RX8, "<init>", "()V"⟩
abbrev cX8_length : ByteArray := prog_10_method_2_code
def yX8_length : MethodName := ⟨RX8, "length", "()I"⟩
abbrev cX8_clear : ByteArray := prog_10_method_3_code
def yX8_clear : MethodName := ⟨RX8, "clear", "()V"⟩
abbrev cX8_add : ByteArray := prog_10_method_4_code
def yX8_add : MethodName := ⟨RX8, "add", "(I)V"⟩
abbrev cX8_at : ByteArray := prog_10_method_5_code
def yX8_at : MethodName := ⟨RX8, "at", "(I)I"⟩
abbrev cX8_number : ByteArray := prog_10_method_6_code
def yX8_number : MethodName := ⟨RX8, "number", "(I)I"⟩
def RX9 : String := "OilHome$Text"
def TX9 : u_T := fun k => match k with
  | 0 => ("OilHome$Text", "steps", "[I", true)
  | 1 => ("OilHome$Text", "sumFrom", "[I", true)
  | 2 => ("OilHome$Text", "conditionFrom", "[I", true)
  | 3 => ("OilHome$Text", "conditionTo", "[I", true)
  | 4 => ("OilHome$Text", "stack", "[I", true)
  | 5 => ("OilHome$Text", "length", "I", false)
  | 6 => ("OilHome$Text", "top", "I", false)
  | 7 => ("OilHome$Text", "refused", "Z", false)
  | _ => ("OilHome$Text", "clauses", "I", false)
def tyX9 : Nat → FieldType := fun k => match k with
  | 0 => .array .int
  | 1 => .array .int
  | 2 => .array .int
  | 3 => .array .int
  | 4 => .array .int
  | 5 => .int
  | 6 => .int
  | 7 => .boolean
  | _ => .int
abbrev wsX90 : List Cond := u_ws RX9 TX9 9
theorem nmX9 : ∀ a, a < 9 → ∀ b, b < 9 → a ≠ b → (TX9 a).2.1 ≠ (TX9 b).2.1 := by decide +kernel
theorem tyX9_ok : ∀ k, k < 9 → parseFieldDescriptor (TX9 k).2.2.1 = some (tyX9 k) := by decide +kernel
abbrev cX9_init : ByteArray := prog_11_method_1_code
def yX9_init : MethodName := ⟨RX9, "<init>", "(I)V"⟩
abbrev cX9_add : ByteArray := prog_11_method_2_code
def yX9_add : MethodName := ⟨RX9, "add", "(II)I"⟩
abbrev cX9_aim : ByteArray := prog_11_method_3_code
def yX9_aim : MethodName := ⟨RX9, "aim", "(I)V"⟩
abbrev cX9_startSum : ByteArray := prog_11_method_4_code
def yX9_startSum : MethodName := ⟨RX9, "startSum", "()V"⟩
abbrev cX9_startCondition : ByteArray := prog_11_method_5_code
def yX9_startCondition : MethodName := ⟨RX9, "startCondition", "()V"⟩
abbrev cX9_endClause : ByteArray := prog_11_method_6_code
def yX9_endClause : MethodName := ⟨RX9, "endClause", "()V"⟩
abbrev cX9_firstThat : ByteArray := prog_11_method_7_code
def yX9_firstThat : MethodName := ⟨RX9, "firstThat", "(Z[I)I"⟩
abbrev cX9_sum : ByteArray := prog_11_method_8_code
def yX9_sum : MethodName := ⟨RX9, "sum", "(I[I)I"⟩
abbrev cX9_run : ByteArray := prog_11_method_9_code
def yX9_run : MethodName := ⟨RX9, "run", "(II[I)I"⟩
abbrev cX9_decided : ByteArray := prog_11_method_10_code
def yX9_decided : MethodName := ⟨RX9, "decided", "(I)Z"⟩
abbrev cX9_reckon : ByteArray := prog_11_method_11_code
def yX9_reckon : MethodName := ⟨RX9, "reckon", "(III)I"⟩
abbrev cX9_divide : ByteArray := prog_11_method_12_code
def yX9_divide : MethodName := ⟨RX9, "divide", "(III)I"⟩
abbrev cX9_push : ByteArray := prog_11_method_13_code
def yX9_push : MethodName := ⟨RX9, "push", "(I)V"⟩
abbrev cX9_pop : ByteArray := prog_11_method_14_code
def yX9_pop : MethodName := ⟨RX9, "pop", "()I"⟩
def RX10 : String := "OilHome$Ways"
def TX10 : u_T := fun k => match k with
  | 0 => ("OilHome$Ways", "kitchens", "[I", true)
  | 1 => ("OilHome$Ways", "fills", "[I", true)
  | 2 => ("OilHome$Ways", "xs", "[I", true)
  | 3 => ("OilHome$Ways", "ys", "[I", true)
  | 4 => ("OilHome$Ways", "rests", "[I", true)
  | 5 => ("OilHome$Ways", "rounds", "[I", true)
  | _ => ("OilHome$Ways", "count", "I", false)
def tyX10 : Nat → FieldType := fun k => match k with
  | 0 => .array .int
  | 1 => .array .int
  | 2 => .array .int
  | 3 => .array .int
  | 4 => .array .int
  | 5 => .array .int
  | _ => .int
abbrev wsX100 : List Cond := u_ws RX10 TX10 7
theorem nmX10 : ∀ a, a < 7 → ∀ b, b < 7 → a ≠ b → (TX10 a).2.1 ≠ (TX10 b).2.1 := by decide +kernel
theorem tyX10_ok : ∀ k, k < 7 → parseFieldDescriptor (TX10 k).2.2.1 = some (tyX10 k) := by decide +kernel
abbrev cX10_init : ByteArray := prog_12_method_1_code
def yX10_init : MethodName := ⟨RX10, "<init>", "()V"⟩
abbrev cX10_way : ByteArray := prog_12_method_2_code
def yX10_way : MethodName := ⟨RX10, "way", "(IIII)I"⟩
abbrev cX10_clear : ByteArray := prog_12_method_3_code
def yX10_clear : MethodName := ⟨RX10, "clear", "()V"⟩
abbrev cX10_add : ByteArray := prog_12_method_4_code
def yX10_add : MethodName := ⟨RX10, "add", "(ILOilHome$Kitchen;I)V"⟩
abbrev cX10_between : ByteArray := prog_12_method_5_code
def yX10_between : MethodName := ⟨RX10, "between", "(II)I"⟩
abbrev cX10_solve : ByteArray := prog_12_method_6_code
def yX10_solve : MethodName := ⟨RX10, "solve", "()V"⟩
abbrev cX10_through : ByteArray := prog_12_method_7_code
def yX10_through : MethodName := ⟨RX10, "through", "(III)I"⟩
abbrev cX10_shortest : ByteArray := prog_12_method_8_code
def yX10_shortest : MethodName := ⟨RX10, "shortest", "(II)I"⟩
abbrev cX10_lengthOf : ByteArray := prog_12_method_9_code
def yX10_lengthOf : MethodName := ⟨RX10, "lengthOf", "(I)I"⟩
abbrev cX10_wholeLength : ByteArray := prog_12_method_10_code
def yX10_wholeLength : MethodName := ⟨RX10, "wholeLength", "()I"⟩
abbrev cX10_fillOf : ByteArray := prog_12_method_11_code
def yX10_fillOf : MethodName := ⟨RX10, "fillOf", "(I)I"⟩
abbrev cX10_nextStop : ByteArray := prog_12_method_12_code
def yX10_nextStop : MethodName := ⟨RX10, "nextStop", "(II)I"⟩
abbrev cX10_kitchenInRow : ByteArray := prog_12_method_13_code
def yX10_kitchenInRow : MethodName := ⟨RX10, "kitchenInRow", "(I)I"⟩
def RX11 : String := "OilHome"
def TX11 : u_T := fun k => match k with
  | 0 => ("OilHome", "today", "I", false)
  | 1 => ("OilHome", "lorries", "I", false)
  | 2 => ("OilHome", "drums", "I", false)
  | 3 => ("OilHome", "spills", "I", false)
  | 4 => ("OilHome", "law", "LOilHome$Text;", false)
  | 5 => ("OilHome", "tape", "LOilHome$Tape;", true)
  | 6 => ("OilHome", "reader", "LOilHome$Reader;", true)
  | 7 => ("OilHome", "letters", "[I", true)
  | 8 => ("OilHome", "tables", "LOilHome$Tables;", true)
  | 9 => ("OilHome", "ways", "LOilHome$Ways;", true)
  | 10 => ("OilHome", "kitchens", "Ljava/util/ArrayList;", true)
  | 11 => ("OilHome", "loads", "Ljava/util/ArrayList;", true)
  | 12 => ("OilHome", "batches", "Ljava/util/ArrayList;", true)
  | 13 => ("OilHome", "proofs", "Ljava/util/ArrayList;", true)
  | 14 => ("OilHome", "sewers", "Ljava/util/ArrayList;", true)
  | _ => ("OilHome", "moves", "Ljava/util/ArrayList;", true)
def tyX11 : Nat → FieldType := fun k => match k with
  | 0 => .int
  | 1 => .int
  | 2 => .int
  | 3 => .int
  | 4 => .object "OilHome$Text"
  | 5 => .object "OilHome$Tape"
  | 6 => .object "OilHome$Reader"
  | 7 => .array .int
  | 8 => .object "OilHome$Tables"
  | 9 => .object "OilHome$Ways"
  | 10 => .object "java/util/ArrayList"
  | 11 => .object "java/util/ArrayList"
  | 12 => .object "java/util/ArrayList"
  | 13 => .object "java/util/ArrayList"
  | 14 => .object "java/util/ArrayList"
  | _ => .object "java/util/ArrayList"
abbrev wsX110 : List Cond := u_ws RX11 TX11 16
theorem nmX11 : ∀ a, a < 16 → ∀ b, b < 16 → a ≠ b → (TX11 a).2.1 ≠ (TX11 b).2.1 := by decide +kernel
theorem tyX11_ok : ∀ k, k < 16 → parseFieldDescriptor (TX11 k).2.2.1 = some (tyX11 k) := by decide +kernel
abbrev cX11_init : ByteArray := prog_1_method_1_code
def yX11_init : MethodName := ⟨RX11, "<init>", "()V"⟩
abbrev cX11_within : ByteArray := prog_1_method_2_code
def yX11_within : MethodName := ⟨RX11, "within", "(III)Z"⟩
abbrev cX11_isDay : ByteArray := prog_1_method_3_code
def yX11_isDay : MethodName := ⟨RX11, "isDay", "(I)Z"⟩
abbrev cX11_kitchenAt : ByteArray := prog_1_method_4_code
def yX11_kitchenAt : MethodName := ⟨RX11, "kitchenAt", "(I)LOilHome$Kitchen;"⟩
abbrev cX11_loadAt : ByteArray := prog_1_method_5_code
def yX11_loadAt : MethodName := ⟨RX11, "loadAt", "(I)LOilHome$Load;"⟩
abbrev cX11_batchAt : ByteArray := prog_1_method_6_code
def yX11_batchAt : MethodName := ⟨RX11, "batchAt", "(I)LOilHome$Batch;"⟩
abbrev cX11_proofAt : ByteArray := prog_1_method_7_code
def yX11_proofAt : MethodName := ⟨RX11, "proofAt", "(I)LOilHome$Proof;"⟩
abbrev cX11_now : ByteArray := prog_1_method_8_code
def yX11_now : MethodName := ⟨RX11, "now", "(I)Z"⟩
abbrev cX11_kitchen : ByteArray := prog_1_method_9_code
def yX11_kitchen : MethodName := ⟨RX11, "kitchen", "(IIII)I"⟩
abbrev cX11_likely : ByteArray := prog_1_method_10_code
def yX11_likely : MethodName := ⟨RX11, "likely", "(II)I"⟩
abbrev cX11_fetch : ByteArray := prog_1_method_11_code
def yX11_fetch : MethodName := ⟨RX11, "fetch", "(IIIIII)I"⟩
abbrev cX11_missing : ByteArray := prog_1_method_12_code
def yX11_missing : MethodName := ⟨RX11, "missing", "(I)I"⟩
abbrev cX11_feed : ByteArray := prog_1_method_13_code
def yX11_feed : MethodName := ⟨RX11, "feed", "(IIIII)I"⟩
abbrev cX11_isText : ByteArray := prog_1_method_14_code
def yX11_isText : MethodName := ⟨RX11, "isText", "(I)Z"⟩
abbrev cX11_contract : ByteArray := prog_1_method_15_code
def yX11_contract : MethodName := ⟨RX11, "contract", "(II)I"⟩
abbrev cX11_law : ByteArray := prog_1_method_16_code
def yX11_law : MethodName := ⟨RX11, "law", "(I)I"⟩
abbrev cX11_price : ByteArray := prog_1_method_17_code
def yX11_price : MethodName := ⟨RX11, "price", "(II)Z"⟩
abbrev cX11_letter : ByteArray := prog_1_method_18_code
def yX11_letter : MethodName := ⟨RX11, "letter", "(CI)V"⟩
abbrev cX11_lettersOfDay : ByteArray := prog_1_method_19_code
def yX11_lettersOfDay : MethodName := ⟨RX11, "lettersOfDay", "(I)V"⟩
abbrev cX11_lettersOfLoad : ByteArray := prog_1_method_20_code
def yX11_lettersOfLoad : MethodName := ⟨RX11, "lettersOfLoad", "(LOilHome$Load;)V"⟩
abbrev cX11_penceBy : ByteArray := prog_1_method_21_code
def yX11_penceBy : MethodName := ⟨RX11, "penceBy", "(LOilHome$Text;LOilHome$Load;)I"⟩
abbrev cX11_penceTogether : ByteArray := prog_1_method_22_code
def yX11_penceTogether : MethodName := ⟨RX11, "penceTogether", "(IILOilHome$Text;)I"⟩
abbrev cX11_pence : ByteArray := prog_1_method_23_code
def yX11_pence : MethodName := ⟨RX11, "pence", "(I)I"⟩
abbrev cX11_paid : ByteArray := prog_1_method_24_code
def yX11_paid : MethodName := ⟨RX11, "paid", "(II)I"⟩
abbrev cX11_asIf : ByteArray := prog_1_method_25_code
def yX11_asIf : MethodName := ⟨RX11, "asIf", "(II)I"⟩
abbrev cX11_choose : ByteArray := prog_1_method_26_code
def yX11_choose : MethodName := ⟨RX11, "choose", "(II)J"⟩
abbrev cX11_divisor : ByteArray := prog_1_method_27_code
def yX11_divisor : MethodName := ⟨RX11, "divisor", "(JJ)J"⟩
abbrev cX11_odds : ByteArray := prog_1_method_28_code
def yX11_odds : MethodName := ⟨RX11, "odds", "(IIIII)J"⟩
abbrev cX11_beyond : ByteArray := prog_1_method_29_code
def yX11_beyond : MethodName := ⟨RX11, "beyond", "(II)J"⟩
abbrev cX11_street : ByteArray := prog_1_method_30_code
def yX11_street : MethodName := ⟨RX11, "street", "(II)Z"⟩
abbrev cX11_streets : ByteArray := prog_1_method_31_code
def yX11_streets : MethodName := ⟨RX11, "streets", "(II)J"⟩
abbrev cX11_cheat : ByteArray := prog_1_method_32_code
def yX11_cheat : MethodName := ⟨RX11, "cheat", "(III)J"⟩
abbrev cX11_startTrial : ByteArray := prog_1_method_33_code
def yX11_startTrial : MethodName := ⟨RX11, "startTrial", "(I)Z"⟩
abbrev cX11_gatherStops : ByteArray := prog_1_method_34_code
def yX11_gatherStops : MethodName := ⟨RX11, "gatherStops", "(III)Z"⟩
abbrev cX11_round : ByteArray := prog_1_method_35_code
def yX11_round : MethodName := ⟨RX11, "round", "(III)I"⟩
abbrev cX11_driven : ByteArray := prog_1_method_36_code
def yX11_driven : MethodName := ⟨RX11, "driven", "(I)I"⟩
abbrev cX11_drivenLength : ByteArray := prog_1_method_37_code
def yX11_drivenLength : MethodName := ⟨RX11, "drivenLength", "(I)I"⟩
abbrev cX11_nights : ByteArray := prog_1_method_38_code
def yX11_nights : MethodName := ⟨RX11, "nights", "(IIII)I"⟩
abbrev cX11_emptyStops : ByteArray := prog_1_method_39_code
def yX11_emptyStops : MethodName := ⟨RX11, "emptyStops", "(I)I"⟩
abbrev cX11_lorry : ByteArray := prog_1_method_40_code
def yX11_lorry : MethodName := ⟨RX11, "lorry", "(I)I"⟩
abbrev cX11_off : ByteArray := prog_1_method_41_code
def yX11_off : MethodName := ⟨RX11, "off", "(IIZ)Z"⟩
abbrev cX11_isOff : ByteArray := prog_1_method_42_code
def yX11_isOff : MethodName := ⟨RX11, "isOff", "(II)Z"⟩
abbrev cX11_shared : ByteArray := prog_1_method_43_code
def yX11_shared : MethodName := ⟨RX11, "shared", "(III)I"⟩
abbrev cX11_bestShares : ByteArray := prog_1_method_44_code
def yX11_bestShares : MethodName := ⟨RX11, "bestShares", "(I)I"⟩
abbrev cX11_sharedLength : ByteArray := prog_1_method_45_code
def yX11_sharedLength : MethodName := ⟨RX11, "sharedLength", "(II)I"⟩
abbrev cX11_stopsOf : ByteArray := prog_1_method_46_code
def yX11_stopsOf : MethodName := ⟨RX11, "stopsOf", "(II)I"⟩
abbrev cX11_lorryOf : ByteArray := prog_1_method_47_code
def yX11_lorryOf : MethodName := ⟨RX11, "lorryOf", "(II)I"⟩
abbrev cX11_lettersOfLaw : ByteArray := prog_1_method_48_code
def yX11_lettersOfLaw : MethodName := ⟨RX11, "lettersOfLaw", "()V"⟩
abbrev cX11_brokenClause : ByteArray := prog_1_method_49_code
def yX11_brokenClause : MethodName := ⟨RX11, "brokenClause", "(LOilHome$Batch;)I"⟩
abbrev cX11_canBeBatched : ByteArray := prog_1_method_50_code
def yX11_canBeBatched : MethodName := ⟨RX11, "canBeBatched", "(LOilHome$Load;)Z"⟩
abbrev cX11_mixed : ByteArray := prog_1_method_51_code
def yX11_mixed : MethodName := ⟨RX11, "mixed", "(I)LOilHome$Batch;"⟩
abbrev cX11_batch : ByteArray := prog_1_method_52_code
def yX11_batch : MethodName := ⟨RX11, "batch", "(I)I"⟩
abbrev cX11_keep : ByteArray := prog_1_method_53_code
def yX11_keep : MethodName := ⟨RX11, "keep", "(LOilHome$Batch;)V"⟩
abbrev cX11_batchIs : ByteArray := prog_1_method_54_code
def yX11_batchIs : MethodName := ⟨RX11, "batchIs", "(II)I"⟩
abbrev cX11_gatherBlendable : ByteArray := prog_1_method_55_code
def yX11_gatherBlendable : MethodName := ⟨RX11, "gatherBlendable", "([I)I"⟩
abbrev cX11_blend : ByteArray := prog_1_method_56_code
def yX11_blend : MethodName := ⟨RX11, "blend", "()I"⟩
abbrev cX11_flipTo : ByteArray := prog_1_method_57_code
def yX11_flipTo : MethodName := ⟨RX11, "flipTo", "(LOilHome$Batch;I[I)V"⟩
abbrev cX11_proof : ByteArray := prog_1_method_58_code
def yX11_proof : MethodName := ⟨RX11, "proof", "(IIII)I"⟩
abbrev cX11_sharesWithEarlier : ByteArray := prog_1_method_59_code
def yX11_sharesWithEarlier : MethodName := ⟨RX11, "sharesWithEarlier", "(ILOilHome$Proof;)Z"⟩
abbrev cX11_twice : ByteArray := prog_1_method_60_code
def yX11_twice : MethodName := ⟨RX11, "twice", "(I)I"⟩
abbrev cX11_firstProofBehind : ByteArray := prog_1_method_61_code
def yX11_firstProofBehind : MethodName := ⟨RX11, "firstProofBehind", "(III)LOilHome$Proof;"⟩
abbrev cX11_provenLitres : ByteArray := prog_1_method_62_code
def yX11_provenLitres : MethodName := ⟨RX11, "provenLitres", "(II)I"⟩
abbrev cX11_bought : ByteArray := prog_1_method_63_code
def yX11_bought : MethodName := ⟨RX11, "bought", "(II)I"⟩
abbrev cX11_whence : ByteArray := prog_1_method_64_code
def yX11_whence : MethodName := ⟨RX11, "whence", "(II)I"⟩
abbrev cX11_audit : ByteArray := prog_1_method_65_code
def yX11_audit : MethodName := ⟨RX11, "audit", "(II)I"⟩
abbrev cX11_use : ByteArray := prog_1_method_66_code
def yX11_use : MethodName := ⟨RX11, "use", "(II)Z"⟩
abbrev cX11_rate : ByteArray := prog_1_method_67_code
def yX11_rate : MethodName := ⟨RX11, "rate", "(III)Z"⟩
abbrev cX11_tax : ByteArray := prog_1_method_68_code
def yX11_tax : MethodName := ⟨RX11, "tax", "(I)I"⟩
abbrev cX11_most : ByteArray := prog_1_method_69_code
def yX11_most : MethodName := ⟨RX11, "most", "(II)Z"⟩
abbrev cX11_overdrawn : ByteArray := prog_1_method_70_code
def yX11_overdrawn : MethodName := ⟨RX11, "overdrawn", "(I)I"⟩
abbrev cX11_boughtIn : ByteArray := prog_1_method_71_code
def yX11_boughtIn : MethodName := ⟨RX11, "boughtIn", "(II)I"⟩
abbrev cX11_sample : ByteArray := prog_1_method_72_code
def yX11_sample : MethodName := ⟨RX11, "sample", "(II)I"⟩
abbrev cX11_claim : ByteArray := prog_1_method_73_code
def yX11_claim : MethodName := ⟨RX11, "claim", "(III)I"⟩
abbrev cX11_offers : ByteArray := prog_1_method_74_code
def yX11_offers : MethodName := ⟨RX11, "offers", "(III)Z"⟩
abbrev cX11_worthOf : ByteArray := prog_1_method_75_code
def yX11_worthOf : MethodName := ⟨RX11, "worthOf", "(II)I"⟩
abbrev cX11_comers : ByteArray := prog_1_method_76_code
def yX11_comers : MethodName := ⟨RX11, "comers", "(I)I"⟩
abbrev cX11_worth : ByteArray := prog_1_method_77_code
def yX11_worth : MethodName := ⟨RX11, "worth", "(II)I"⟩
abbrev cX11_offer : ByteArray := prog_1_method_78_code
def yX11_offer : MethodName := ⟨RX11, "offer", "(II)I"⟩
abbrev cX11_thefts : ByteArray := prog_1_method_79_code
def yX11_thefts : MethodName := ⟨RX11, "thefts", "(II)Z"⟩
abbrev cX11_savedFrom : ByteArray := prog_1_method_80_code
def yX11_savedFrom : MethodName := ⟨RX11, "savedFrom", "(II)I"⟩
abbrev cX11_lock : ByteArray := prog_1_method_81_code
def yX11_lock : MethodName := ⟨RX11, "lock", "(II)I"⟩
abbrev cX11_sewer : ByteArray := prog_1_method_82_code
def yX11_sewer : MethodName := ⟨RX11, "sewer", "(II)I"⟩
abbrev cX11_blocked : ByteArray := prog_1_method_83_code
def yX11_blocked : MethodName := ⟨RX11, "blocked", "(I)I"⟩
abbrev cX11_isBeside : ByteArray := prog_1_method_84_code
def yX11_isBeside : MethodName := ⟨RX11, "isBeside", "(LOilHome$Kitchen;II)Z"⟩
abbrev cX11_beside : ByteArray := prog_1_method_85_code
def yX11_beside : MethodName := ⟨RX11, "beside", "(II)I"⟩
abbrev cX11_degrees : ByteArray := prog_1_method_86_code
def yX11_degrees : MethodName := ⟨RX11, "degrees", "(II)Z"⟩
abbrev cX11_sets : ByteArray := prog_1_method_87_code
def yX11_sets : MethodName := ⟨RX11, "sets", "(II)Z"⟩
abbrev cX11_late : ByteArray := prog_1_method_88_code
def yX11_late : MethodName := ⟨RX11, "late", "(II)I"⟩
abbrev cX11_first : ByteArray := prog_1_method_89_code
def yX11_first : MethodName := ⟨RX11, "first", "(II)I"⟩
abbrev cX11_feast : ByteArray := prog_1_method_90_code
def yX11_feast : MethodName := ⟨RX11, "feast", "(II)Z"⟩
abbrev cX11_feastedFill : ByteArray := prog_1_method_91_code
def yX11_feastedFill : MethodName := ⟨RX11, "feastedFill", "(LOilHome$Load;LOilHome$Kitchen;)I"⟩
abbrev cX11_feasted : ByteArray := prog_1_method_92_code
def yX11_feasted : MethodName := ⟨RX11, "feasted", "(II)I"⟩
abbrev cX11_drum : ByteArray := prog_1_method_93_code
def yX11_drum : MethodName := ⟨RX11, "drum", "()I"⟩
abbrev cX11_moveBy : ByteArray := prog_1_method_94_code
def yX11_moveBy : MethodName := ⟨RX11, "moveBy", "(II)LOilHome$Move;"⟩
abbrev cX11_moves : ByteArray := prog_1_method_95_code
def yX11_moves : MethodName := ⟨RX11, "moves", "(III)Z"⟩
abbrev cX11_stood : ByteArray := prog_1_method_96_code
def yX11_stood : MethodName := ⟨RX11, "stood", "(II)I"⟩
abbrev cX11_stale : ByteArray := prog_1_method_97_code
def yX11_stale : MethodName := ⟨RX11, "stale", "(I)I"⟩
abbrev cX11_spill : ByteArray := prog_1_method_98_code
def yX11_spill : MethodName := ⟨RX11, "spill", "(II)I"⟩
abbrev cX11_stock : ByteArray := prog_1_method_99_code
def yX11_stock : MethodName := ⟨RX11, "stock", "(I)I"⟩
abbrev cX11_below : ByteArray := prog_1_method_100_code
def yX11_below : MethodName := ⟨RX11, "below", "(I)I"⟩
abbrev cX11_check : ByteArray := prog_1_method_101_code
def yX11_check : MethodName := ⟨RX11, "check", "(II)I"⟩
abbrev cX11_firstWrong : ByteArray := prog_1_method_102_code
def yX11_firstWrong : MethodName := ⟨RX11, "firstWrong", "(II)I"⟩
abbrev cX11_wrongPart : ByteArray := prog_1_method_103_code
def yX11_wrongPart : MethodName := ⟨RX11, "wrongPart", "(LOilHome$Load;II)I"⟩
abbrev cX11_count : ByteArray := prog_1_method_104_code
def yX11_count : MethodName := ⟨RX11, "count", "(I)I"⟩
abbrev cX11_countOfKitchen : ByteArray := prog_1_method_105_code
def yX11_countOfKitchen : MethodName := ⟨RX11, "countOfKitchen", "(LOilHome$Kitchen;I)I"⟩
abbrev cX11_countOfAll : ByteArray := prog_1_method_106_code
def yX11_countOfAll : MethodName := ⟨RX11, "countOfAll", "(I)I"⟩
def RX12 : String := "OilHomeModel"
def TX12 : u_T := fun k => match k with
  | 0 => ("OilHomeModel", "now", "I", false)
  | 1 => ("OilHomeModel", "kitchens", "I", false)
  | 2 => ("OilHomeModel", "loads", "I", false)
  | 3 => ("OilHomeModel", "xs", "[I", true)
  | 4 => ("OilHomeModel", "ys", "[I", true)
  | 5 => ("OilHomeModel", "litresADay", "[I", true)
  | 6 => ("OilHomeModel", "drumOf", "[I", true)
  | 7 => ("OilHomeModel", "emptied", "[I", true)
  | 8 => ("OilHomeModel", "loadKitchen", "[I", true)
  | 9 => ("OilHomeModel", "loadDay", "[I", true)
  | 10 => ("OilHomeModel", "loadLitres", "[I", true)
  | 11 => ("OilHomeModel", "loadWater", "[I", true)
  | 12 => ("OilHomeModel", "loadAcid", "[I", true)
  | 13 => ("OilHomeModel", "loadTold", "[I", true)
  | 14 => ("OilHomeModel", "loadMissing", "[I", true)
  | 15 => ("OilHomeModel", "loadBatch", "[I", true)
  | 16 => ("OilHomeModel", "loadFrom", "[I", true)
  | 17 => ("OilHomeModel", "tape", "[B", true)
  | 18 => ("OilHomeModel", "taped", "I", false)
  | 19 => ("OilHomeModel", "place0", "I", false)
  | 20 => ("OilHomeModel", "length0", "I", false)
  | 21 => ("OilHomeModel", "fault", "I", false)
  | 22 => ("OilHomeModel", "open", "I", false)
  | 23 => ("OilHomeModel", "codeMany", "I", false)
  | 24 => ("OilHomeModel", "waiting", "I", false)
  | 25 => ("OilHomeModel", "saidMany", "I", false)
  | 26 => ("OilHomeModel", "number0", "I", false)
  | 27 => ("OilHomeModel", "said", "[I", true)
  | 28 => ("OilHomeModel", "waits", "[I", true)
  | 29 => ("OilHomeModel", "saidFrom", "[I", true)
  | 30 => ("OilHomeModel", "saidHalf", "[I", true)
  | 31 => ("OilHomeModel", "saidTo", "[I", true)
  | 32 => ("OilHomeModel", "codes", "[I", true)
  | 33 => ("OilHomeModel", "clauseMany", "[I", true)
  | 34 => ("OilHomeModel", "codeFrom", "[I", true)
  | 35 => ("OilHomeModel", "codeHalf", "[I", true)
  | 36 => ("OilHomeModel", "codeTo", "[I", true)
  | 37 => ("OilHomeModel", "stack", "[I", true)
  | 38 => ("OilHomeModel", "facts", "[I", true)
  | 39 => ("OilHomeModel", "prices", "[I", true)
  | 40 => ("OilHomeModel", "streetOf", "[I", true)
  | 41 => ("OilHomeModel", "feastOn", "[I", true)
  | 42 => ("OilHomeModel", "asked", "[I", true)
  | 43 => ("OilHomeModel", "shortest", "[I", true)
  | 44 => ("OilHomeModel", "askedMany", "I", false)
  | 45 => ("OilHomeModel", "roundLength", "I", false)
  | 46 => ("OilHomeModel", "lorries", "I", false)
  | 47 => ("OilHomeModel", "takes", "[I", true)
  | 48 => ("OilHomeModel", "loaded", "[I", true)
  | 49 => ("OilHomeModel", "lorrySet", "[I", true)
  | 50 => ("OilHomeModel", "lorryRow", "[I", true)
  | 51 => ("OilHomeModel", "bestRow", "[I", true)
  | 52 => ("OilHomeModel", "emptiedWas", "[I", true)
  | 53 => ("OilHomeModel", "isOff", "[Z", true)
  | 54 => ("OilHomeModel", "nightLengths", "I", false)
  | 55 => ("OilHomeModel", "nightLitres", "I", false)
  | 56 => ("OilHomeModel", "nightKitchens", "I", false)
  | 57 => ("OilHomeModel", "drums", "I", false)
  | 58 => ("OilHomeModel", "drumMoves", "I", false)
  | 59 => ("OilHomeModel", "moveDrum", "[I", true)
  | 60 => ("OilHomeModel", "moveTo", "[I", true)
  | 61 => ("OilHomeModel", "moveDay", "[I", true)
  | 62 => ("OilHomeModel", "batches", "I", false)
  | 63 => ("OilHomeModel", "proofs", "I", false)
  | 64 => ("OilHomeModel", "batchLoads", "[I", true)
  | 65 => ("OilHomeModel", "batchDay", "[I", true)
  | 66 => ("OilHomeModel", "proofDay", "[I", true)
  | 67 => ("OilHomeModel", "proofBatch", "[I", true)
  | 68 => ("OilHomeModel", "proofFrom", "[I", true)
  | 69 => ("OilHomeModel", "proofTo", "[I", true)
  | 70 => ("OilHomeModel", "proofBuyer", "[I", true)
  | 71 => ("OilHomeModel", "mixed", "I", false)
  | 72 => ("OilHomeModel", "mixedWater", "I", false)
  | 73 => ("OilHomeModel", "mixedAcid", "I", false)
  | 74 => ("OilHomeModel", "frees", "[I", true)
  | 75 => ("OilHomeModel", "spills", "I", false)
  | 76 => ("OilHomeModel", "useOf", "[I", true)
  | 77 => ("OilHomeModel", "rates", "[I", true)
  | 78 => ("OilHomeModel", "mostOf", "[I", true)
  | 79 => ("OilHomeModel", "sampleMany", "[I", true)
  | 80 => ("OilHomeModel", "samples", "[I", true)
  | 81 => ("OilHomeModel", "spillDay", "[I", true)
  | 82 => ("OilHomeModel", "spillLitres", "[I", true)
  | 83 => ("OilHomeModel", "sewers", "I", false)
  | 84 => ("OilHomeModel", "leastOf", "[I", true)
  | 85 => ("OilHomeModel", "rivalOf", "[I", true)
  | 86 => ("OilHomeModel", "theftsAt", "[I", true)
  | 87 => ("OilHomeModel", "sewerX", "[I", true)
  | 88 => ("OilHomeModel", "sewerY", "[I", true)
  | 89 => ("OilHomeModel", "blockedOf", "[I", true)
  | _ => ("OilHomeModel", "degreesOf", "[I", true)
def tyX12 : Nat → FieldType := fun k => match k with
  | 0 => .int
  | 1 => .int
  | 2 => .int
  | 3 => .array .int
  | 4 => .array .int
  | 5 => .array .int
  | 6 => .array .int
  | 7 => .array .int
  | 8 => .array .int
  | 9 => .array .int
  | 10 => .array .int
  | 11 => .array .int
  | 12 => .array .int
  | 13 => .array .int
  | 14 => .array .int
  | 15 => .array .int
  | 16 => .array .int
  | 17 => .array .byte
  | 18 => .int
  | 19 => .int
  | 20 => .int
  | 21 => .int
  | 22 => .int
  | 23 => .int
  | 24 => .int
  | 25 => .int
  | 26 => .int
  | 27 => .array .int
  | 28 => .array .int
  | 29 => .array .int
  | 30 => .array .int
  | 31 => .array .int
  | 32 => .array .int
  | 33 => .array .int
  | 34 => .array .int
  | 35 => .array .int
  | 36 => .array .int
  | 37 => .array .int
  | 38 => .array .int
  | 39 => .array .int
  | 40 => .array .int
  | 41 => .array .int
  | 42 => .array .int
  | 43 => .array .int
  | 44 => .int
  | 45 => .int
  | 46 => .int
  | 47 => .array .int
  | 48 => .array .int
  | 49 => .array .int
  | 50 => .array .int
  | 51 => .array .int
  | 52 => .array .int
  | 53 => .array .boolean
  | 54 => .int
  | 55 => .int
  | 56 => .int
  | 57 => .int
  | 58 => .int
  | 59 => .array .int
  | 60 => .array .int
  | 61 => .array .int
  | 62 => .int
  | 63 => .int
  | 64 => .array .int
  | 65 => .array .int
  | 66 => .array .int
  | 67 => .array .int
  | 68 => .array .int
  | 69 => .array .int
  | 70 => .array .int
  | 71 => .int
  | 72 => .int
  | 73 => .int
  | 74 => .array .int
  | 75 => .int
  | 76 => .array .int
  | 77 => .array .int
  | 78 => .array .int
  | 79 => .array .int
  | 80 => .array .int
  | 81 => .array .int
  | 82 => .array .int
  | 83 => .int
  | 84 => .array .int
  | 85 => .array .int
  | 86 => .array .int
  | 87 => .array .int
  | 88 => .array .int
  | 89 => .array .int
  | _ => .array .int
abbrev wsX120 : List Cond := u_ws RX12 TX12 91
theorem nmX12 : ∀ a, a < 91 → ∀ b, b < 91 → a ≠ b → (TX12 a).2.1 ≠ (TX12 b).2.1 := by decide +kernel
theorem tyX12_ok : ∀ k, k < 91 → parseFieldDescriptor (TX12 k).2.2.1 = some (tyX12 k) := by decide +kernel
abbrev cX12_init : ByteArray := prog_14_method_1_code
def yX12_init : MethodName := ⟨RX12, "<init>", "()V"⟩
abbrev cX12_in : ByteArray := prog_14_method_2_code
def yX12_in : MethodName := ⟨RX12, "in", "(III)Z"⟩
abbrev cX12_isDay : ByteArray := prog_14_method_3_code
def yX12_isDay : MethodName := ⟨RX12, "isDay", "(I)Z"⟩
abbrev cX12_isKitchen : ByteArray := prog_14_method_4_code
def yX12_isKitchen : MethodName := ⟨RX12, "isKitchen", "(I)Z"⟩
abbrev cX12_isLoad : ByteArray := prog_14_method_5_code
def yX12_isLoad : MethodName := ⟨RX12, "isLoad", "(I)Z"⟩
abbrev cX12_now : ByteArray := prog_14_method_6_code
def yX12_now : MethodName := ⟨RX12, "now", "(I)Z"⟩
abbrev cX12_kitchen : ByteArray := prog_14_method_7_code
def yX12_kitchen : MethodName := ⟨RX12, "kitchen", "(IIII)I"⟩
abbrev cX12_likelyOn : ByteArray := prog_14_method_8_code
def yX12_likelyOn : MethodName := ⟨RX12, "likelyOn", "(II)I"⟩
abbrev cX12_likely : ByteArray := prog_14_method_9_code
def yX12_likely : MethodName := ⟨RX12, "likely", "(II)I"⟩
abbrev cX12_fetch : ByteArray := prog_14_method_10_code
def yX12_fetch : MethodName := ⟨RX12, "fetch", "(IIIIII)I"⟩
abbrev cX12_types : ByteArray := prog_14_method_11_code
def yX12_types : MethodName := ⟨RX12, "types", "(I)V"⟩
abbrev cX12_feed : ByteArray := prog_14_method_12_code
def yX12_feed : MethodName := ⟨RX12, "feed", "(IIIII)I"⟩
abbrev cX12_here : ByteArray := prog_14_method_13_code
def yX12_here : MethodName := ⟨RX12, "here", "()I"⟩
abbrev cX12_isDigit : ByteArray := prog_14_method_14_code
def yX12_isDigit : MethodName := ⟨RX12, "isDigit", "()Z"⟩
abbrev cX12_wrong : ByteArray := prog_14_method_15_code
def yX12_wrong : MethodName := ⟨RX12, "wrong", "(II)Z"⟩
abbrev cX12_takes : ByteArray := prog_14_method_16_code
def yX12_takes : MethodName := ⟨RX12, "takes", "(I)Z"⟩
abbrev cX12_readsNumber : ByteArray := prog_14_method_17_code
def yX12_readsNumber : MethodName := ⟨RX12, "readsNumber", "()Z"⟩
abbrev cX12_says : ByteArray := prog_14_method_18_code
def yX12_says : MethodName := ⟨RX12, "says", "(II)V"⟩
abbrev cX12_opens : ByteArray := prog_14_method_19_code
def yX12_opens : MethodName := ⟨RX12, "opens", "(I)Z"⟩
abbrev cX12_top : ByteArray := prog_14_method_20_code
def yX12_top : MethodName := ⟨RX12, "top", "()I"⟩
abbrev cX12_factOf : ByteArray := prog_14_method_21_code
def yX12_factOf : MethodName := ⟨RX12, "factOf", "(I)I"⟩
abbrev cX12_sumSign : ByteArray := prog_14_method_22_code
def yX12_sumSign : MethodName := ⟨RX12, "sumSign", "(I)I"⟩
abbrev cX12_closesSums : ByteArray := prog_14_method_23_code
def yX12_closesSums : MethodName := ⟨RX12, "closesSums", "(Z)V"⟩
abbrev cX12_readsFactor : ByteArray := prog_14_method_24_code
def yX12_readsFactor : MethodName := ⟨RX12, "readsFactor", "()Z"⟩
abbrev cX12_hasOpenSum : ByteArray := prog_14_method_25_code
def yX12_hasOpenSum : MethodName := ⟨RX12, "hasOpenSum", "(I)Z"⟩
abbrev cX12_readsSum : ByteArray := prog_14_method_26_code
def yX12_readsSum : MethodName := ⟨RX12, "readsSum", "()Z"⟩
abbrev cX12_endsPiece : ByteArray := prog_14_method_27_code
def yX12_endsPiece : MethodName := ⟨RX12, "endsPiece", "()V"⟩
abbrev cX12_lands : ByteArray := prog_14_method_28_code
def yX12_lands : MethodName := ⟨RX12, "lands", "(Z)V"⟩
abbrev cX12_jumps : ByteArray := prog_14_method_29_code
def yX12_jumps : MethodName := ⟨RX12, "jumps", "(I)V"⟩
abbrev cX12_readsCompared : ByteArray := prog_14_method_30_code
def yX12_readsCompared : MethodName := ⟨RX12, "readsCompared", "()Z"⟩
abbrev cX12_readsCondition : ByteArray := prog_14_method_31_code
def yX12_readsCondition : MethodName := ⟨RX12, "readsCondition", "()Z"⟩
abbrev cX12_readsClause : ByteArray := prog_14_method_32_code
def yX12_readsClause : MethodName := ⟨RX12, "readsClause", "(Z)Z"⟩
abbrev cX12_reads : ByteArray := prog_14_method_33_code
def yX12_reads : MethodName := ⟨RX12, "reads", "(II)I"⟩
abbrev cX12_contract : ByteArray := prog_14_method_34_code
def yX12_contract : MethodName := ⟨RX12, "contract", "(II)I"⟩
abbrev cX12_law : ByteArray := prog_14_method_35_code
def yX12_law : MethodName := ⟨RX12, "law", "(I)I"⟩
abbrev cX12_reckon : ByteArray := prog_14_method_36_code
def yX12_reckon : MethodName := ⟨RX12, "reckon", "(III)I"⟩
abbrev cX12_comesTo : ByteArray := prog_14_method_37_code
def yX12_comesTo : MethodName := ⟨RX12, "comesTo", "(II)I"⟩
abbrev cX12_price : ByteArray := prog_14_method_38_code
def yX12_price : MethodName := ⟨RX12, "price", "(II)Z"⟩
abbrev cX12_penceFor : ByteArray := prog_14_method_39_code
def yX12_penceFor : MethodName := ⟨RX12, "penceFor", "(II)I"⟩
abbrev cX12_pence : ByteArray := prog_14_method_40_code
def yX12_pence : MethodName := ⟨RX12, "pence", "(I)I"⟩
abbrev cX12_paid : ByteArray := prog_14_method_41_code
def yX12_paid : MethodName := ⟨RX12, "paid", "(II)I"⟩
abbrev cX12_asIf : ByteArray := prog_14_method_42_code
def yX12_asIf : MethodName := ⟨RX12, "asIf", "(II)I"⟩
abbrev cX12_missing : ByteArray := prog_14_method_43_code
def yX12_missing : MethodName := ⟨RX12, "missing", "(I)I"⟩
abbrev cX12_choose : ByteArray := prog_14_method_44_code
def yX12_choose : MethodName := ⟨RX12, "choose", "(II)J"⟩
abbrev cX12_byLot : ByteArray := prog_14_method_45_code
def yX12_byLot : MethodName := ⟨RX12, "byLot", "(IIII)J"⟩
abbrev cX12_lacking : ByteArray := prog_14_method_46_code
def yX12_lacking : MethodName := ⟨RX12, "lacking", "()I"⟩
abbrev cX12_beyond : ByteArray := prog_14_method_47_code
def yX12_beyond : MethodName := ⟨RX12, "beyond", "(II)J"⟩
abbrev cX12_street : ByteArray := prog_14_method_48_code
def yX12_street : MethodName := ⟨RX12, "street", "(II)Z"⟩
abbrev cX12_streets : ByteArray := prog_14_method_49_code
def yX12_streets : MethodName := ⟨RX12, "streets", "(II)J"⟩
abbrev cX12_cheat : ByteArray := prog_14_method_50_code
def yX12_cheat : MethodName := ⟨RX12, "cheat", "(III)J"⟩
abbrev cX12_feast : ByteArray := prog_14_method_51_code
def yX12_feast : MethodName := ⟨RX12, "feast", "(II)Z"⟩
abbrev cX12_feastedOf : ByteArray := prog_14_method_52_code
def yX12_feastedOf : MethodName := ⟨RX12, "feastedOf", "(I)I"⟩
abbrev cX12_feasted : ByteArray := prog_14_method_53_code
def yX12_feasted : MethodName := ⟨RX12, "feasted", "(II)I"⟩
abbrev cX12_apart : ByteArray := prog_14_method_54_code
def yX12_apart : MethodName := ⟨RX12, "apart", "(IIII)I"⟩
abbrev cX12_toDepot : ByteArray := prog_14_method_55_code
def yX12_toDepot : MethodName := ⟨RX12, "toDepot", "(I)I"⟩
abbrev cX12_way : ByteArray := prog_14_method_56_code
def yX12_way : MethodName := ⟨RX12, "way", "(II)I"⟩
abbrev cX12_goes : ByteArray := prog_14_method_57_code
def yX12_goes : MethodName := ⟨RX12, "goes", "()V"⟩
abbrev cX12_nextOf : ByteArray := prog_14_method_58_code
def yX12_nextOf : MethodName := ⟨RX12, "nextOf", "(II)I"⟩
abbrev cX12_lays : ByteArray := prog_14_method_59_code
def yX12_lays : MethodName := ⟨RX12, "lays", "(III)Z"⟩
abbrev cX12_round : ByteArray := prog_14_method_60_code
def yX12_round : MethodName := ⟨RX12, "round", "(III)I"⟩
abbrev cX12_lorry : ByteArray := prog_14_method_61_code
def yX12_lorry : MethodName := ⟨RX12, "lorry", "(I)I"⟩
abbrev cX12_off : ByteArray := prog_14_method_62_code
def yX12_off : MethodName := ⟨RX12, "off", "(IIZ)Z"⟩
abbrev cX12_roundTo : ByteArray := prog_14_method_63_code
def yX12_roundTo : MethodName := ⟨RX12, "roundTo", "(I)I"⟩
abbrev cX12_sharedBy : ByteArray := prog_14_method_64_code
def yX12_sharedBy : MethodName := ⟨RX12, "sharedBy", "(I)I"⟩
abbrev cX12_shared : ByteArray := prog_14_method_65_code
def yX12_shared : MethodName := ⟨RX12, "shared", "(III)I"⟩
abbrev cX12_goNights : ByteArray := prog_14_method_66_code
def yX12_goNights : MethodName := ⟨RX12, "goNights", "(III)Z"⟩
abbrev cX12_nights : ByteArray := prog_14_method_67_code
def yX12_nights : MethodName := ⟨RX12, "nights", "(IIII)I"⟩
abbrev cX12_drum : ByteArray := prog_14_method_68_code
def yX12_drum : MethodName := ⟨RX12, "drum", "()I"⟩
abbrev cX12_isDrum : ByteArray := prog_14_method_69_code
def yX12_isDrum : MethodName := ⟨RX12, "isDrum", "(I)Z"⟩
abbrev cX12_latest : ByteArray := prog_14_method_70_code
def yX12_latest : MethodName := ⟨RX12, "latest", "(II)I"⟩
abbrev cX12_moves : ByteArray := prog_14_method_71_code
def yX12_moves : MethodName := ⟨RX12, "moves", "(III)Z"⟩
abbrev cX12_stood : ByteArray := prog_14_method_72_code
def yX12_stood : MethodName := ⟨RX12, "stood", "(II)I"⟩
abbrev cX12_stale : ByteArray := prog_14_method_73_code
def yX12_stale : MethodName := ⟨RX12, "stale", "(I)I"⟩
abbrev cX12_driven : ByteArray := prog_14_method_74_code
def yX12_driven : MethodName := ⟨RX12, "driven", "(I)I"⟩
abbrev cX12_mixes : ByteArray := prog_14_method_75_code
def yX12_mixes : MethodName := ⟨RX12, "mixes", "(I)V"⟩
abbrev cX12_bits : ByteArray := prog_14_method_76_code
def yX12_bits : MethodName := ⟨RX12, "bits", "(I)I"⟩
abbrev cX12_whyNot : ByteArray := prog_14_method_77_code
def yX12_whyNot : MethodName := ⟨RX12, "whyNot", "(I)I"⟩
abbrev cX12_isFree : ByteArray := prog_14_method_78_code
def yX12_isFree : MethodName := ⟨RX12, "isFree", "(I)Z"⟩
abbrev cX12_batch : ByteArray := prog_14_method_79_code
def yX12_batch : MethodName := ⟨RX12, "batch", "(I)I"⟩
abbrev cX12_isBatch : ByteArray := prog_14_method_80_code
def yX12_isBatch : MethodName := ⟨RX12, "isBatch", "(I)Z"⟩
abbrev cX12_litresOf : ByteArray := prog_14_method_81_code
def yX12_litresOf : MethodName := ⟨RX12, "litresOf", "(I)I"⟩
abbrev cX12_proved : ByteArray := prog_14_method_82_code
def yX12_proved : MethodName := ⟨RX12, "proved", "(II)I"⟩
abbrev cX12_batchIs : ByteArray := prog_14_method_83_code
def yX12_batchIs : MethodName := ⟨RX12, "batchIs", "(II)I"⟩
abbrev cX12_blend : ByteArray := prog_14_method_84_code
def yX12_blend : MethodName := ⟨RX12, "blend", "()I"⟩
abbrev cX12_proof : ByteArray := prog_14_method_85_code
def yX12_proof : MethodName := ⟨RX12, "proof", "(IIII)I"⟩
abbrev cX12_twice : ByteArray := prog_14_method_86_code
def yX12_twice : MethodName := ⟨RX12, "twice", "(I)I"⟩
abbrev cX12_bought : ByteArray := prog_14_method_87_code
def yX12_bought : MethodName := ⟨RX12, "bought", "(II)I"⟩
abbrev cX12_loadAt : ByteArray := prog_14_method_88_code
def yX12_loadAt : MethodName := ⟨RX12, "loadAt", "(II)I"⟩
abbrev cX12_whence : ByteArray := prog_14_method_89_code
def yX12_whence : MethodName := ⟨RX12, "whence", "(II)I"⟩
abbrev cX12_isProof : ByteArray := prog_14_method_90_code
def yX12_isProof : MethodName := ⟨RX12, "isProof", "(I)Z"⟩
abbrev cX12_audit : ByteArray := prog_14_method_91_code
def yX12_audit : MethodName := ⟨RX12, "audit", "(II)I"⟩
abbrev cX12_use : ByteArray := prog_14_method_92_code
def yX12_use : MethodName := ⟨RX12, "use", "(II)Z"⟩
abbrev cX12_rate : ByteArray := prog_14_method_93_code
def yX12_rate : MethodName := ⟨RX12, "rate", "(III)Z"⟩
abbrev cX12_tax : ByteArray := prog_14_method_94_code
def yX12_tax : MethodName := ⟨RX12, "tax", "(I)I"⟩
abbrev cX12_most : ByteArray := prog_14_method_95_code
def yX12_most : MethodName := ⟨RX12, "most", "(II)Z"⟩
abbrev cX12_overdrawn : ByteArray := prog_14_method_96_code
def yX12_overdrawn : MethodName := ⟨RX12, "overdrawn", "(I)I"⟩
abbrev cX12_sample : ByteArray := prog_14_method_97_code
def yX12_sample : MethodName := ⟨RX12, "sample", "(II)I"⟩
abbrev cX12_claim : ByteArray := prog_14_method_98_code
def yX12_claim : MethodName := ⟨RX12, "claim", "(III)I"⟩
abbrev cX12_spill : ByteArray := prog_14_method_99_code
def yX12_spill : MethodName := ⟨RX12, "spill", "(II)I"⟩
abbrev cX12_stockOn : ByteArray := prog_14_method_100_code
def yX12_stockOn : MethodName := ⟨RX12, "stockOn", "(I)I"⟩
abbrev cX12_stock : ByteArray := prog_14_method_101_code
def yX12_stock : MethodName := ⟨RX12, "stock", "(I)I"⟩
abbrev cX12_below : ByteArray := prog_14_method_102_code
def yX12_below : MethodName := ⟨RX12, "below", "(I)I"⟩
abbrev cX12_offers : ByteArray := prog_14_method_103_code
def yX12_offers : MethodName := ⟨RX12, "offers", "(III)Z"⟩
abbrev cX12_comers : ByteArray := prog_14_method_104_code
def yX12_comers : MethodName := ⟨RX12, "comers", "(I)I"⟩
abbrev cX12_worthOf : ByteArray := prog_14_method_105_code
def yX12_worthOf : MethodName := ⟨RX12, "worthOf", "(II)I"⟩
abbrev cX12_worth : ByteArray := prog_14_method_106_code
def yX12_worth : MethodName := ⟨RX12, "worth", "(II)I"⟩
abbrev cX12_offer : ByteArray := prog_14_method_107_code
def yX12_offer : MethodName := ⟨RX12, "offer", "(II)I"⟩
abbrev cX12_thefts : ByteArray := prog_14_method_108_code
def yX12_thefts : MethodName := ⟨RX12, "thefts", "(II)Z"⟩
abbrev cX12_saves : ByteArray := prog_14_method_109_code
def yX12_saves : MethodName := ⟨RX12, "saves", "(II)I"⟩
abbrev cX12_lock : ByteArray := prog_14_method_110_code
def yX12_lock : MethodName := ⟨RX12, "lock", "(II)I"⟩
abbrev cX12_sewer : ByteArray := prog_14_method_111_code
def yX12_sewer : MethodName := ⟨RX12, "sewer", "(II)I"⟩
abbrev cX12_blocked : ByteArray := prog_14_method_112_code
def yX12_blocked : MethodName := ⟨RX12, "blocked", "(I)I"⟩
abbrev cX12_beside : ByteArray := prog_14_method_113_code
def yX12_beside : MethodName := ⟨RX12, "beside", "(II)I"⟩
abbrev cX12_degrees : ByteArray := prog_14_method_114_code
def yX12_degrees : MethodName := ⟨RX12, "degrees", "(II)Z"⟩
abbrev cX12_late : ByteArray := prog_14_method_115_code
def yX12_late : MethodName := ⟨RX12, "late", "(II)I"⟩
abbrev cX12_first : ByteArray := prog_14_method_116_code
def yX12_first : MethodName := ⟨RX12, "first", "(II)I"⟩
abbrev cX12_tapeNumber : ByteArray := prog_14_method_117_code
def yX12_tapeNumber : MethodName := ⟨RX12, "tapeNumber", "(I)I"⟩
abbrev cX12_check : ByteArray := prog_14_method_118_code
def yX12_check : MethodName := ⟨RX12, "check", "(II)I"⟩
abbrev cX12_count : ByteArray := prog_14_method_119_code
def yX12_count : MethodName := ⟨RX12, "count", "(I)I"⟩
def RJx145de : String := "java/io/Serializable"
def TJx145de : u_T := fun k => match k with
  | _ => ("", "", "", false)
def tyJx145de : Nat → FieldType := fun k => match k with
  | _ => .int
abbrev wsJx145de0 : List Cond := u_ws RJx145de TJx145de 0
theorem nmJx145de : ∀ a, a < 0 → ∀ b, b < 0 → a ≠ b → (TJx145de a).2.1 ≠ (TJx145de b).2.1 := by decide +kernel
theorem tyJx145de_ok : ∀ k, k < 0 → parseFieldDescriptor (TJx145de k).2.2.1 = some (tyJx145de k) := by decide +kernel
def RJx9f9b0 : String := "java/lang/CharSequence"
def TJx9f9b0 : u_T := fun k => match k with
  | _ => ("", "", "", false)
def tyJx9f9b0 : Nat → FieldType := fun k => match k with
  | _ => .int
abbrev wsJx9f9b00 : List Cond := u_ws RJx9f9b0 TJx9f9b0 0
theorem nmJx9f9b0 : ∀ a, a < 0 → ∀ b, b < 0 → a ≠ b → (TJx9f9b0 a).2.1 ≠ (TJx9f9b0 b).2.1 := by decide +kernel
theorem tyJx9f9b0_ok : ∀ k, k < 0 → parseFieldDescriptor (TJx9f9b0 k).2.2.1 = some (tyJx9f9b0 k) := by decide +kernel
def RJ11 : String := "java/lang/Character"
def TJ11 : u_T := fun k => match k with
  | _ => ("", "", "", false)
def tyJ11 : Nat → FieldType := fun k => match k with
  | _ => .int
abbrev wsJ110 : List Cond := u_ws RJ11 TJ11 0
theorem nmJ11 : ∀ a, a < 0 → ∀ b, b < 0 → a ≠ b → (TJ11 a).2.1 ≠ (TJ11 b).2.1 := by decide +kernel
theorem tyJ11_ok : ∀ k, k < 0 → parseFieldDescriptor (TJ11 k).2.2.1 = some (tyJ11 k) := by decide +kernel
abbrev cJ11_isValidCodePoint_9a6ad : ByteArray := prog_17_method_11_code
def yJ11_isValidCodePoint_9a6ad : MethodName := ⟨RJ11, "isValidCodePoint", "(I)Z"⟩
abbrev cJ11_highSurrogate_5068e : ByteArray := prog_17_method_28_code
def yJ11_highSurrogate_5068e : MethodName := ⟨RJ11, "highSurrogate", "(I)C"⟩
abbrev cJ11_lowSurrogate_5068e : ByteArray := prog_17_method_29_code
def yJ11_lowSurrogate_5068e : MethodName := ⟨RJ11, "lowSurrogate", "(I)C"⟩
def RJx8e188 : String := "java/lang/Cloneable"
def TJx8e188 : u_T := fun k => match k with
  | _ => ("", "", "", false)
def tyJx8e188 : Nat → FieldType := fun k => match k with
  | _ => .int
abbrev wsJx8e1880 : List Cond := u_ws RJx8e188 TJx8e188 0
theorem nmJx8e188 : ∀ a, a < 0 → ∀ b, b < 0 → a ≠ b → (TJx8e188 a).2.1 ≠ (TJx8e188 b).2.1 := by decide +kernel
theorem tyJx8e188_ok : ∀ k, k < 0 → parseFieldDescriptor (TJx8e188 k).2.2.1 = some (tyJx8e188 k) := by decide +kernel
def RJxb160c : String := "java/lang/Comparable"
def TJxb160c : u_T := fun k => match k with
  | _ => ("", "", "", false)
def tyJxb160c : Nat → FieldType := fun k => match k with
  | _ => .int
abbrev wsJxb160c0 : List Cond := u_ws RJxb160c TJxb160c 0
theorem nmJxb160c : ∀ a, a < 0 → ∀ b, b < 0 → a ≠ b → (TJxb160c a).2.1 ≠ (TJxb160c b).2.1 := by decide +kernel
theorem tyJxb160c_ok : ∀ k, k < 0 → parseFieldDescriptor (TJxb160c k).2.2.1 = some (tyJxb160c k) := by decide +kernel
def RJxab1ab : String := "java/lang/Iterable"
def TJxab1ab : u_T := fun k => match k with
  | _ => ("", "", "", false)
def tyJxab1ab : Nat → FieldType := fun k => match k with
  | _ => .int
abbrev wsJxab1ab0 : List Cond := u_ws RJxab1ab TJxab1ab 0
theorem nmJxab1ab : ∀ a, a < 0 → ∀ b, b < 0 → a ≠ b → (TJxab1ab a).2.1 ≠ (TJxab1ab b).2.1 := by decide +kernel
theorem tyJxab1ab_ok : ∀ k, k < 0 → parseFieldDescriptor (TJxab1ab k).2.2.1 = some (tyJxab1ab k) := by decide +kernel
def RJ9 : String := "java/lang/Math"
def TJ9 : u_T := fun k => match k with
  | _ => ("", "", "", false)
def tyJ9 : Nat → FieldType := fun k => match k with
  | _ => .int
abbrev wsJ90 : List Cond := u_ws RJ9 TJ9 0
theorem nmJ9 : ∀ a, a < 0 → ∀ b, b < 0 → a ≠ b → (TJ9 a).2.1 ≠ (TJ9 b).2.1 := by decide +kernel
theorem tyJ9_ok : ∀ k, k < 0 → parseFieldDescriptor (TJ9 k).2.2.1 = some (tyJ9 k) := by decide +kernel
abbrev cJ9_abs_0f7a4 : ByteArray := prog_21_method_59_code
def yJ9_abs_0f7a4 : MethodName := ⟨RJ9, "abs", "(I)I"⟩
abbrev cJ9_max_7cf53 : ByteArray := prog_21_method_65_code
def yJ9_max_7cf53 : MethodName := ⟨RJ9, "max", "(II)I"⟩
abbrev cJ9_min_7cf53 : ByteArray := prog_21_method_69_code
def yJ9_min_7cf53 : MethodName := ⟨RJ9, "min", "(II)I"⟩
def RJ0 : String := "java/lang/String"
def TJ0 : u_T := fun k => match k with
  | _ => ("", "", "", false)
def tyJ0 : Nat → FieldType := fun k => match k with
  | _ => .int
abbrev wsJ00 : List Cond := u_ws RJ0 TJ0 0
theorem nmJ0 : ∀ a, a < 0 → ∀ b, b < 0 → a ≠ b → (TJ0 a).2.1 ≠ (TJ0 b).2.1 := by decide +kernel
theorem tyJ0_ok : ∀ k, k < 0 → parseFieldDescriptor (TJ0 k).2.2.1 = some (tyJ0 k) := by decide +kernel
abbrev cJ0_length_8abf5 : ByteArray := prog_22_method_54_code
def yJ0_length_8abf5 : MethodName := ⟨RJ0, "length", "()I"⟩
abbrev cJ0_indexOf_0f7a4 : ByteArray := prog_22_method_79_code
def yJ0_indexOf_0f7a4 : MethodName := ⟨RJ0, "indexOf", "(I)I"⟩
abbrev cJ0_indexOf_7cf53 : ByteArray := prog_22_method_80_code
def yJ0_indexOf_7cf53 : MethodName := ⟨RJ0, "indexOf", "(II)I"⟩
abbrev cJ0_coder_7d493 : ByteArray := prog_22_method_152_code
def yJ0_coder_7d493 : MethodName := ⟨RJ0, "coder", "()B"⟩
abbrev cJ0_isLatin1_aae02 : ByteArray := prog_22_method_154_code
def yJ0_isLatin1_aae02 : MethodName := ⟨RJ0, "isLatin1", "()Z"⟩
abbrev cJ0_checkBoundsBeginEnd_23922 : ByteArray := prog_22_method_158_code
def yJ0_checkBoundsBeginEnd_23922 : MethodName := ⟨RJ0, "checkBoundsBeginEnd", "(III)V"⟩
def RJ1 : String := "java/lang/StringLatin1"
def TJ1 : u_T := fun k => match k with
  | _ => ("", "", "", false)
def tyJ1 : Nat → FieldType := fun k => match k with
  | _ => .int
abbrev wsJ10 : List Cond := u_ws RJ1 TJ1 0
theorem nmJ1 : ∀ a, a < 0 → ∀ b, b < 0 → a ≠ b → (TJ1 a).2.1 ≠ (TJ1 b).2.1 := by decide +kernel
theorem tyJ1_ok : ∀ k, k < 0 → parseFieldDescriptor (TJ1 k).2.2.1 = some (tyJ1 k) := by decide +kernel
abbrev cJ1_canEncode_9a6ad : ByteArray := prog_23_method_4_code
def yJ1_canEncode_9a6ad : MethodName := ⟨RJ1, "canEncode", "(I)Z"⟩
abbrev cJ1_indexOf_4cfef : ByteArray := prog_23_method_22_code
def yJ1_indexOf_4cfef : MethodName := ⟨RJ1, "indexOf", "([BIII)I"⟩
abbrev cJ1_indexOfChar_4cfef : ByteArray := prog_23_method_23_code
def yJ1_indexOfChar_4cfef : MethodName := ⟨RJ1, "indexOfChar", "([BIII)I"⟩
def RJ2 : String := "java/lang/StringUTF16"
def TJ2 : u_T := fun k => match k with
  | _ => ("", "", "", false)
def tyJ2 : Nat → FieldType := fun k => match k with
  | _ => .int
abbrev wsJ20 : List Cond := u_ws RJ2 TJ2 0
theorem nmJ2 : ∀ a, a < 0 → ∀ b, b < 0 → a ≠ b → (TJ2 a).2.1 ≠ (TJ2 b).2.1 := by decide +kernel
theorem tyJ2_ok : ∀ k, k < 0 → parseFieldDescriptor (TJ2 k).2.2.1 = some (tyJ2 k) := by decide +kernel
abbrev cJ2_getChar_3b067 : ByteArray := prog_24_method_5_code
def yJ2_getChar_3b067 : MethodName := ⟨RJ2, "getChar", "([BI)C"⟩
abbrev cJ2_length_9d52b : ByteArray := prog_24_method_6_code
def yJ2_length_9d52b : MethodName := ⟨RJ2, "length", "([B)I"⟩
abbrev cJ2_indexOf_4cfef : ByteArray := prog_24_method_40_code
def yJ2_indexOf_4cfef : MethodName := ⟨RJ2, "indexOf", "([BIII)I"⟩
abbrev cJ2_indexOfChar_4cfef : ByteArray := prog_24_method_47_code
def yJ2_indexOfChar_4cfef : MethodName := ⟨RJ2, "indexOfChar", "([BIII)I"⟩
abbrev cJ2_indexOfCharUnsafe_4cfef : ByteArray := prog_24_method_48_code
def yJ2_indexOfCharUnsafe_4cfef : MethodName := ⟨RJ2, "indexOfCharUnsafe", "([BIII)I"⟩
abbrev cJ2_indexOfSupplementary_4cfef : ByteArray := prog_24_method_49_code
def yJ2_indexOfSupplementary_4cfef : MethodName := ⟨RJ2, "indexOfSupplementary", "([BIII)I"⟩
abbrev cJ2_checkBoundsBeginEnd_d044e : ByteArray := prog_24_method_93_code
def yJ2_checkBoundsBeginEnd_d044e : MethodName := ⟨RJ2, "checkBoundsBeginEnd", "(II[B)V"⟩
def RJ10 : String := "java/lang/System"
def TJ10 : u_T := fun k => match k with
  | _ => ("", "", "", false)
def tyJ10 : Nat → FieldType := fun k => match k with
  | _ => .int
abbrev wsJ100 : List Cond := u_ws RJ10 TJ10 0
theorem nmJ10 : ∀ a, a < 0 → ∀ b, b < 0 → a ≠ b → (TJ10 a).2.1 ≠ (TJ10 b).2.1 := by decide +kernel
theorem tyJ10_ok : ∀ k, k < 0 → parseFieldDescriptor (TJ10 k).2.2.1 = some (tyJ10 k) := by decide +kernel
def RJxfd54e : String := "java/lang/constant/Constable"
def TJxfd54e : u_T := fun k => match k with
  | _ => ("", "", "", false)
def tyJxfd54e : Nat → FieldType := fun k => match k with
  | _ => .int
abbrev wsJxfd54e0 : List Cond := u_ws RJxfd54e TJxfd54e 0
theorem nmJxfd54e : ∀ a, a < 0 → ∀ b, b < 0 → a ≠ b → (TJxfd54e a).2.1 ≠ (TJxfd54e b).2.1 := by decide +kernel
theorem tyJxfd54e_ok : ∀ k, k < 0 → parseFieldDescriptor (TJxfd54e k).2.2.1 = some (tyJxfd54e k) := by decide +kernel
def RJx3cf43 : String := "java/lang/constant/ConstantDesc"
def TJx3cf43 : u_T := fun k => match k with
  | _ => ("", "", "", false)
def tyJx3cf43 : Nat → FieldType := fun k => match k with
  | _ => .int
abbrev wsJx3cf430 : List Cond := u_ws RJx3cf43 TJx3cf43 0
theorem nmJx3cf43 : ∀ a, a < 0 → ∀ b, b < 0 → a ≠ b → (TJx3cf43 a).2.1 ≠ (TJx3cf43 b).2.1 := by decide +kernel
theorem tyJx3cf43_ok : ∀ k, k < 0 → parseFieldDescriptor (TJx3cf43 k).2.2.1 = some (tyJx3cf43 k) := by decide +kernel
def RJxa1e45 : String := "java/util/AbstractCollection"
def TJxa1e45 : u_T := fun k => match k with
  | _ => ("", "", "", false)
def tyJxa1e45 : Nat → FieldType := fun k => match k with
  | _ => .int
abbrev wsJxa1e450 : List Cond := u_ws RJxa1e45 TJxa1e45 0
theorem nmJxa1e45 : ∀ a, a < 0 → ∀ b, b < 0 → a ≠ b → (TJxa1e45 a).2.1 ≠ (TJxa1e45 b).2.1 := by decide +kernel
theorem tyJxa1e45_ok : ∀ k, k < 0 → parseFieldDescriptor (TJxa1e45 k).2.2.1 = some (tyJxa1e45 k) := by decide +kernel
abbrev cJxa1e45_init_da8c8 : ByteArray := prog_28_method_1_code
def yJxa1e45_init_da8c8 : MethodName := ⟨RJxa1e45, "<init>", "()V"⟩
def RJxc12de : String := "java/util/AbstractList"
def TJxc12de : u_T := fun k => match k with
  | _ => ("", "", "", false)
def tyJxc12de : Nat → FieldType := fun k => match k with
  | _ => .int
abbrev wsJxc12de0 : List Cond := u_ws RJxc12de TJxc12de 0
theorem nmJxc12de : ∀ a, a < 0 → ∀ b, b < 0 → a ≠ b → (TJxc12de a).2.1 ≠ (TJxc12de b).2.1 := by decide +kernel
theorem tyJxc12de_ok : ∀ k, k < 0 → parseFieldDescriptor (TJxc12de k).2.2.1 = some (tyJxc12de k) := by decide +kernel
abbrev cJxc12de_init_da8c8 : ByteArray := prog_29_method_1_code
def yJxc12de_init_da8c8 : MethodName := ⟨RJxc12de, "<init>", "()V"⟩
def RJx4a65c : String := "java/util/ArrayList"
def TJx4a65c : u_T := fun k => match k with
  | 0 => ("java/util/AbstractList", "modCount", "I", false)
  | 1 => ("java/util/ArrayList", "elementData", "[Ljava/lang/Object;", false)
  | _ => ("java/util/ArrayList", "size", "I", false)
def tyJx4a65c : Nat → FieldType := fun k => match k with
  | 0 => .int
  | 1 => .array (.object "java/lang/Object")
  | _ => .int
abbrev wsJx4a65c0 : List Cond := u_ws RJx4a65c TJx4a65c 3
theorem nmJx4a65c : ∀ a, a < 3 → ∀ b, b < 3 → a ≠ b → (TJx4a65c a).2.1 ≠ (TJx4a65c b).2.1 := by decide +kernel
theorem tyJx4a65c_ok : ∀ k, k < 3 → parseFieldDescriptor (TJx4a65c k).2.2.1 = some (tyJx4a65c k) := by decide +kernel
abbrev cJx4a65c_init_da8c8 : ByteArray := prog_30_method_2_code
def yJx4a65c_init_da8c8 : MethodName := ⟨RJx4a65c, "<init>", "()V"⟩
abbrev cJx4a65c_grow_92f84 : ByteArray := prog_30_method_6_code
def yJx4a65c_grow_92f84 : MethodName := ⟨RJx4a65c, "grow", "(I)[Ljava/lang/Object;"⟩
abbrev cJx4a65c_grow_d5877 : ByteArray := prog_30_method_7_code
def yJx4a65c_grow_d5877 : MethodName := ⟨RJx4a65c, "grow", "()[Ljava/lang/Object;"⟩
abbrev cJx4a65c_size_8abf5 : ByteArray := prog_30_method_8_code
def yJx4a65c_size_8abf5 : MethodName := ⟨RJx4a65c, "size", "()I"⟩
abbrev cJx4a65c_elementData_915e3 : ByteArray := prog_30_method_18_code
def yJx4a65c_elementData_915e3 : MethodName := ⟨RJx4a65c, "elementData", "(I)Ljava/lang/Object;"⟩
abbrev cJx4a65c_get_915e3 : ByteArray := prog_30_method_20_code
def yJx4a65c_get_915e3 : MethodName := ⟨RJx4a65c, "get", "(I)Ljava/lang/Object;"⟩
abbrev cJx4a65c_add_72be8 : ByteArray := prog_30_method_24_code
def yJx4a65c_add_72be8 : MethodName := ⟨RJx4a65c, "add", "(Ljava/lang/Object;[Ljava/lang/Object;I)V"⟩
abbrev cJx4a65c_add_9ea2d : ByteArray := prog_30_method_25_code
def yJx4a65c_add_9ea2d : MethodName := ⟨RJx4a65c, "add", "(Ljava/lang/Object;)Z"⟩
def RJ7 : String := "java/util/Arrays"
def TJ7 : u_T := fun k => match k with
  | _ => ("", "", "", false)
def tyJ7 : Nat → FieldType := fun k => match k with
  | _ => .int
abbrev wsJ70 : List Cond := u_ws RJ7 TJ7 0
theorem nmJ7 : ∀ a, a < 0 → ∀ b, b < 0 → a ≠ b → (TJ7 a).2.1 ≠ (TJ7 b).2.1 := by decide +kernel
theorem tyJ7_ok : ∀ k, k < 0 → parseFieldDescriptor (TJ7 k).2.2.1 = some (tyJ7 k) := by decide +kernel
abbrev cJ7_fill_53178 : ByteArray := prog_31_method_103_code
def yJ7_fill_53178 : MethodName := ⟨RJ7, "fill", "([II)V"⟩
abbrev cJ7_copyOf_1904c : ByteArray := prog_31_method_119_code
def yJ7_copyOf_1904c : MethodName := ⟨RJ7, "copyOf", "([Ljava/lang/Object;I)[Ljava/lang/Object;"⟩
abbrev cJ7_copyOf_6403c : ByteArray := prog_31_method_120_code
def yJ7_copyOf_6403c : MethodName := ⟨RJ7, "copyOf", "([Ljava/lang/Object;ILjava/lang/Class;)[Ljava/lang/Object;"⟩
def RJx5ef63 : String := "java/util/Collection"
def TJx5ef63 : u_T := fun k => match k with
  | _ => ("", "", "", false)
def tyJx5ef63 : Nat → FieldType := fun k => match k with
  | _ => .int
abbrev wsJx5ef630 : List Cond := u_ws RJx5ef63 TJx5ef63 0
theorem nmJx5ef63 : ∀ a, a < 0 → ∀ b, b < 0 → a ≠ b → (TJx5ef63 a).2.1 ≠ (TJx5ef63 b).2.1 := by decide +kernel
theorem tyJx5ef63_ok : ∀ k, k < 0 → parseFieldDescriptor (TJx5ef63 k).2.2.1 = some (tyJx5ef63 k) := by decide +kernel
def RJxbd725 : String := "java/util/List"
def TJxbd725 : u_T := fun k => match k with
  | _ => ("", "", "", false)
def tyJxbd725 : Nat → FieldType := fun k => match k with
  | _ => .int
abbrev wsJxbd7250 : List Cond := u_ws RJxbd725 TJxbd725 0
theorem nmJxbd725 : ∀ a, a < 0 → ∀ b, b < 0 → a ≠ b → (TJxbd725 a).2.1 ≠ (TJxbd725 b).2.1 := by decide +kernel
theorem tyJxbd725_ok : ∀ k, k < 0 → parseFieldDescriptor (TJxbd725 k).2.2.1 = some (tyJxbd725 k) := by decide +kernel
def RJ15 : String := "java/util/Objects"
def TJ15 : u_T := fun k => match k with
  | _ => ("", "", "", false)
def tyJ15 : Nat → FieldType := fun k => match k with
  | _ => .int
abbrev wsJ150 : List Cond := u_ws RJ15 TJ15 0
theorem nmJ15 : ∀ a, a < 0 → ∀ b, b < 0 → a ≠ b → (TJ15 a).2.1 ≠ (TJ15 b).2.1 := by decide +kernel
theorem tyJ15_ok : ∀ k, k < 0 → parseFieldDescriptor (TJ15 k).2.2.1 = some (tyJ15 k) := by decide +kernel
abbrev cJ15_checkIndex_7cf53 : ByteArray := prog_34_method_17_code
def yJ15_checkIndex_7cf53 : MethodName := ⟨RJ15, "checkIndex", "(II)I"⟩
def RJxf0a74 : String := "java/util/RandomAccess"
def TJxf0a74 : u_T := fun k => match k with
  | _ => ("", "", "", false)
def tyJxf0a74 : Nat → FieldType := fun k => match k with
  | _ => .int
abbrev wsJxf0a740 : List Cond := u_ws RJxf0a74 TJxf0a74 0
theorem nmJxf0a74 : ∀ a, a < 0 → ∀ b, b < 0 → a ≠ b → (TJxf0a74 a).2.1 ≠ (TJxf0a74 b).2.1 := by decide +kernel
theorem tyJxf0a74_ok : ∀ k, k < 0 → parseFieldDescriptor (TJxf0a74 k).2.2.1 = some (tyJxf0a74 k) := by decide +kernel
def RJxa66e6 : String := "java/util/SequencedCollection"
def TJxa66e6 : u_T := fun k => match k with
  | _ => ("", "", "", false)
def tyJxa66e6 : Nat → FieldType := fun k => match k with
  | _ => .int
abbrev wsJxa66e60 : List Cond := u_ws RJxa66e6 TJxa66e6 0
theorem nmJxa66e6 : ∀ a, a < 0 → ∀ b, b < 0 → a ≠ b → (TJxa66e6 a).2.1 ≠ (TJxa66e6 b).2.1 := by decide +kernel
theorem tyJxa66e6_ok : ∀ k, k < 0 → parseFieldDescriptor (TJxa66e6 k).2.2.1 = some (tyJxa66e6 k) := by decide +kernel
def RJ8 : String := "jdk/internal/util/ArraysSupport"
def TJ8 : u_T := fun k => match k with
  | _ => ("", "", "", false)
def tyJ8 : Nat → FieldType := fun k => match k with
  | _ => .int
abbrev wsJ80 : List Cond := u_ws RJ8 TJ8 0
theorem nmJ8 : ∀ a, a < 0 → ∀ b, b < 0 → a ≠ b → (TJ8 a).2.1 ≠ (TJ8 b).2.1 := by decide +kernel
theorem tyJ8_ok : ∀ k, k < 0 → parseFieldDescriptor (TJ8 k).2.2.1 = some (tyJ8 k) := by decide +kernel
abbrev cJ8_newLength_cabcc : ByteArray := prog_37_method_27_code
def yJ8_newLength_cabcc : MethodName := ⟨RJ8, "newLength", "(III)I"⟩
abbrev cJ8_hugeLength_7cf53 : ByteArray := prog_37_method_28_code
def yJ8_hugeLength_7cf53 : MethodName := ⟨RJ8, "hugeLength", "(II)I"⟩
def RJ3 : String := "jdk/internal/util/Preconditions"
def TJ3 : u_T := fun k => match k with
  | _ => ("", "", "", false)
def tyJ3 : Nat → FieldType := fun k => match k with
  | _ => .int
abbrev wsJ30 : List Cond := u_ws RJ3 TJ3 0
theorem nmJ3 : ∀ a, a < 0 → ∀ b, b < 0 → a ≠ b → (TJ3 a).2.1 ≠ (TJ3 b).2.1 := by decide +kernel
theorem tyJ3_ok : ∀ k, k < 0 → parseFieldDescriptor (TJ3 k).2.2.1 = some (tyJ3 k) := by decide +kernel
abbrev cJ3_checkIndex_8e157 : ByteArray := prog_38_method_11_code
def yJ3_checkIndex_8e157 : MethodName := ⟨RJ3, "checkIndex", "(IILjava/util/function/BiFunction;)I"⟩
abbrev cJ3_checkFromToIndex_8c36e : ByteArray := prog_38_method_12_code
def yJ3_checkFromToIndex_8c36e : MethodName := ⟨RJ3, "checkFromToIndex", "(IIILjava/util/function/BiFunction;)I"⟩
def RL : String := "OilHomeLaw"
abbrev cL_law : ByteArray := code
def yL_law : MethodName := ⟨RL, "law", "([I)Z"⟩
abbrev vwCl : List vw_C := [(RJx4a65c, TJx4a65c, 3), (RX0, TX0, 8), (RX1, TX1, 11), (RX2, TX2, 10), (RX3, TX3, 3), (RX4, TX4, 5), (RX5, TX5, 6), (RX6, TX6, 3), (RX7, TX7, 10), (RX8, TX8, 2), (RX9, TX9, 9), (RX10, TX10, 7), (RX11, TX11, 16), (RX12, TX12, 91)]
