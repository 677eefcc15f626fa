section
-- ===== PART A: goes FIRST, ahead of the names: the tables' words, and 'selects' of the private methods out of them =====
/-- a private method of a class that the tables say can be made, by its rows of tables_1 -/
def lw_okq (q : MethodName × Nat) : Prop := (q.1.cls ≠ "java/lang/invoke/MethodHandle" ∧ q.1.cls ≠ "java/lang/invoke/VarHandle") ∧ Cond.instantiable q.1.cls q.2 ∈ tables_1 ∧ Cond.privateMethod q.1 ∈ tables_1 ∧ Cond.instanceMethod q.1 ∈ tables_1
theorem lw_p0 : lw_okq (⟨"FalseParity$Reader", "begin", "()V"⟩, 7) := ⟨⟨by decide +kernel, by decide +kernel⟩, List.mem_of_getElem? (i := 42) (by decide +kernel), List.mem_of_getElem? (i := 300) (by decide +kernel), List.mem_of_getElem? (i := 301) (by decide +kernel)⟩
theorem lw_p1 : lw_okq (⟨"FalseParity$Reader", "beginsToken", "(I)Z"⟩, 7) := ⟨⟨by decide +kernel, by decide +kernel⟩, List.mem_of_getElem? (i := 42) (by decide +kernel), List.mem_of_getElem? (i := 308) (by decide +kernel), List.mem_of_getElem? (i := 309) (by decide +kernel)⟩
theorem lw_p2 : lw_okq (⟨"FalseParity$Reader", "accepts", "(I)Z"⟩, 7) := ⟨⟨by decide +kernel, by decide +kernel⟩, List.mem_of_getElem? (i := 42) (by decide +kernel), List.mem_of_getElem? (i := 316) (by decide +kernel), List.mem_of_getElem? (i := 317) (by decide +kernel)⟩
theorem lw_p3 : lw_okq (⟨"FalseParity$Reader", "beginsItem", "(I)Z"⟩, 7) := ⟨⟨by decide +kernel, by decide +kernel⟩, List.mem_of_getElem? (i := 42) (by decide +kernel), List.mem_of_getElem? (i := 320) (by decide +kernel), List.mem_of_getElem? (i := 321) (by decide +kernel)⟩
theorem lw_p4 : lw_okq (⟨"FalseParity$Reader", "canBegin", "(I)Z"⟩, 7) := ⟨⟨by decide +kernel, by decide +kernel⟩, List.mem_of_getElem? (i := 42) (by decide +kernel), List.mem_of_getElem? (i := 324) (by decide +kernel), List.mem_of_getElem? (i := 325) (by decide +kernel)⟩
theorem lw_p5 : lw_okq (⟨"FalseParity$Reader", "numbersOfItem", "()I"⟩, 7) := ⟨⟨by decide +kernel, by decide +kernel⟩, List.mem_of_getElem? (i := 42) (by decide +kernel), List.mem_of_getElem? (i := 328) (by decide +kernel), List.mem_of_getElem? (i := 329) (by decide +kernel)⟩
theorem lw_p6 : lw_okq (⟨"FalseParity$Reader", "numberAt", "(I)I"⟩, 7) := ⟨⟨by decide +kernel, by decide +kernel⟩, List.mem_of_getElem? (i := 42) (by decide +kernel), List.mem_of_getElem? (i := 332) (by decide +kernel), List.mem_of_getElem? (i := 333) (by decide +kernel)⟩
theorem lw_p7 : lw_okq (⟨"FalseParity$Reader", "acceptsNumber", "(I)Z"⟩, 7) := ⟨⟨by decide +kernel, by decide +kernel⟩, List.mem_of_getElem? (i := 42) (by decide +kernel), List.mem_of_getElem? (i := 339) (by decide +kernel), List.mem_of_getElem? (i := 340) (by decide +kernel)⟩
theorem lw_p8 : lw_okq (⟨"FalseParity$Reader", "leastNumber", "()I"⟩, 7) := ⟨⟨by decide +kernel, by decide +kernel⟩, List.mem_of_getElem? (i := 42) (by decide +kernel), List.mem_of_getElem? (i := 343) (by decide +kernel), List.mem_of_getElem? (i := 344) (by decide +kernel)⟩
theorem lw_p9 : lw_okq (⟨"FalseParity$Reader", "mostNumber", "()I"⟩, 7) := ⟨⟨by decide +kernel, by decide +kernel⟩, List.mem_of_getElem? (i := 42) (by decide +kernel), List.mem_of_getElem? (i := 347) (by decide +kernel), List.mem_of_getElem? (i := 348) (by decide +kernel)⟩
theorem lw_p10 : lw_okq (⟨"FalseParity$Reader", "mostOfNote", "()I"⟩, 7) := ⟨⟨by decide +kernel, by decide +kernel⟩, List.mem_of_getElem? (i := 42) (by decide +kernel), List.mem_of_getElem? (i := 351) (by decide +kernel), List.mem_of_getElem? (i := 352) (by decide +kernel)⟩
theorem lw_p11 : lw_okq (⟨"FalseParity$Reader", "store", "(I)V"⟩, 7) := ⟨⟨by decide +kernel, by decide +kernel⟩, List.mem_of_getElem? (i := 42) (by decide +kernel), List.mem_of_getElem? (i := 355) (by decide +kernel), List.mem_of_getElem? (i := 356) (by decide +kernel)⟩
theorem lw_p12 : lw_okq (⟨"FalseParity$Reader", "storeOfNote", "(II)V"⟩, 7) := ⟨⟨by decide +kernel, by decide +kernel⟩, List.mem_of_getElem? (i := 42) (by decide +kernel), List.mem_of_getElem? (i := 359) (by decide +kernel), List.mem_of_getElem? (i := 360) (by decide +kernel)⟩
theorem lw_p13 : lw_okq (⟨"FalseParity$Reader", "endsItem", "()Z"⟩, 7) := ⟨⟨by decide +kernel, by decide +kernel⟩, List.mem_of_getElem? (i := 42) (by decide +kernel), List.mem_of_getElem? (i := 363) (by decide +kernel), List.mem_of_getElem? (i := 364) (by decide +kernel)⟩
theorem lw_p14 : lw_okq (⟨"FalseParity$Paths", "takersByLooks", "(I)I"⟩, 2) := ⟨⟨by decide +kernel, by decide +kernel⟩, List.mem_of_getElem? (i := 169) (by decide +kernel), List.mem_of_getElem? (i := 427) (by decide +kernel), List.mem_of_getElem? (i := 428) (by decide +kernel)⟩
theorem lw_p15 : lw_okq (⟨"FalseParity", "purse", "(I)I"⟩, 10) := ⟨⟨by decide +kernel, by decide +kernel⟩, List.mem_of_getElem? (i := 17) (by decide +kernel), List.mem_of_getElem? (i := 444) (by decide +kernel), List.mem_of_getElem? (i := 445) (by decide +kernel)⟩
def lw_privs_1 : List (MethodName × Nat) := [(⟨"FalseParity$Reader", "begin", "()V"⟩, 7), (⟨"FalseParity$Reader", "beginsToken", "(I)Z"⟩, 7), (⟨"FalseParity$Reader", "accepts", "(I)Z"⟩, 7), (⟨"FalseParity$Reader", "beginsItem", "(I)Z"⟩, 7), (⟨"FalseParity$Reader", "canBegin", "(I)Z"⟩, 7), (⟨"FalseParity$Reader", "numbersOfItem", "()I"⟩, 7), (⟨"FalseParity$Reader", "numberAt", "(I)I"⟩, 7), (⟨"FalseParity$Reader", "acceptsNumber", "(I)Z"⟩, 7), (⟨"FalseParity$Reader", "leastNumber", "()I"⟩, 7), (⟨"FalseParity$Reader", "mostNumber", "()I"⟩, 7), (⟨"FalseParity$Reader", "mostOfNote", "()I"⟩, 7), (⟨"FalseParity$Reader", "store", "(I)V"⟩, 7), (⟨"FalseParity$Reader", "storeOfNote", "(II)V"⟩, 7), (⟨"FalseParity$Reader", "endsItem", "()Z"⟩, 7), (⟨"FalseParity$Paths", "takersByLooks", "(I)I"⟩, 2), (⟨"FalseParity", "purse", "(I)I"⟩, 10)]
theorem lw_r1 : ∀ q ∈ lw_privs_1, lw_okq q := List.forall_mem_cons.mpr ⟨lw_p0, List.forall_mem_cons.mpr ⟨lw_p1, List.forall_mem_cons.mpr ⟨lw_p2, List.forall_mem_cons.mpr ⟨lw_p3, List.forall_mem_cons.mpr ⟨lw_p4, List.forall_mem_cons.mpr ⟨lw_p5, List.forall_mem_cons.mpr ⟨lw_p6, List.forall_mem_cons.mpr ⟨lw_p7, List.forall_mem_cons.mpr ⟨lw_p8, List.forall_mem_cons.mpr ⟨lw_p9, List.forall_mem_cons.mpr ⟨lw_p10, List.forall_mem_cons.mpr ⟨lw_p11, List.forall_mem_cons.mpr ⟨lw_p12, List.forall_mem_cons.mpr ⟨lw_p13, List.forall_mem_cons.mpr ⟨lw_p14, List.forall_mem_cons.mpr ⟨lw_p15, fun _ h => absurd h List.not_mem_nil⟩⟩⟩⟩⟩⟩⟩⟩⟩⟩⟩⟩⟩⟩⟩⟩
theorem lw_p16 : lw_okq (⟨"FalseParity$Board", "falseNotes", "()I"⟩, 5) := ⟨⟨by decide +kernel, by decide +kernel⟩, List.mem_of_getElem? (i := 205) (by decide +kernel), List.mem_of_getElem? (i := 478) (by decide +kernel), List.mem_of_getElem? (i := 479) (by decide +kernel)⟩
theorem lw_p17 : lw_okq (⟨"FalseParity$Paths", "choices", "(II)I"⟩, 2) := ⟨⟨by decide +kernel, by decide +kernel⟩, List.mem_of_getElem? (i := 169) (by decide +kernel), List.mem_of_getElem? (i := 568) (by decide +kernel), List.mem_of_getElem? (i := 569) (by decide +kernel)⟩
theorem lw_p18 : lw_okq (⟨"FalseParity$Paths", "hasParityBehind", "(II)Z"⟩, 2) := ⟨⟨by decide +kernel, by decide +kernel⟩, List.mem_of_getElem? (i := 169) (by decide +kernel), List.mem_of_getElem? (i := 572) (by decide +kernel), List.mem_of_getElem? (i := 573) (by decide +kernel)⟩
theorem lw_p19 : lw_okq (⟨"FalseParity$Paths", "lowestOther", "(II)I"⟩, 2) := ⟨⟨by decide +kernel, by decide +kernel⟩, List.mem_of_getElem? (i := 169) (by decide +kernel), List.mem_of_getElem? (i := 583) (by decide +kernel), List.mem_of_getElem? (i := 584) (by decide +kernel)⟩
theorem lw_p20 : lw_okq (⟨"FalseParity$Marks", "fits", "(I)Z"⟩, 5) := ⟨⟨by decide +kernel, by decide +kernel⟩, List.mem_of_getElem? (i := 182) (by decide +kernel), List.mem_of_getElem? (i := 626) (by decide +kernel), List.mem_of_getElem? (i := 627) (by decide +kernel)⟩
theorem lw_p21 : lw_okq (⟨"FalseParity$Marks", "wouldTake", "(II)I"⟩, 5) := ⟨⟨by decide +kernel, by decide +kernel⟩, List.mem_of_getElem? (i := 182) (by decide +kernel), List.mem_of_getElem? (i := 630) (by decide +kernel), List.mem_of_getElem? (i := 631) (by decide +kernel)⟩
theorem lw_p22 : lw_okq (⟨"FalseParity$Marks", "howManyTakenBy", "(I)I"⟩, 5) := ⟨⟨by decide +kernel, by decide +kernel⟩, List.mem_of_getElem? (i := 182) (by decide +kernel), List.mem_of_getElem? (i := 652) (by decide +kernel), List.mem_of_getElem? (i := 653) (by decide +kernel)⟩
theorem lw_p23 : lw_okq (⟨"FalseParity$Board", "fits", "(I)Z"⟩, 5) := ⟨⟨by decide +kernel, by decide +kernel⟩, List.mem_of_getElem? (i := 205) (by decide +kernel), List.mem_of_getElem? (i := 679) (by decide +kernel), List.mem_of_getElem? (i := 680) (by decide +kernel)⟩
theorem lw_p24 : lw_okq (⟨"FalseParity$Board", "isBetter", "(II)Z"⟩, 5) := ⟨⟨by decide +kernel, by decide +kernel⟩, List.mem_of_getElem? (i := 205) (by decide +kernel), List.mem_of_getElem? (i := 693) (by decide +kernel), List.mem_of_getElem? (i := 694) (by decide +kernel)⟩
theorem lw_p25 : lw_okq (⟨"FalseParity$Kinds", "asNote", "(I)I"⟩, 3) := ⟨⟨by decide +kernel, by decide +kernel⟩, List.mem_of_getElem? (i := 228) (by decide +kernel), List.mem_of_getElem? (i := 707) (by decide +kernel), List.mem_of_getElem? (i := 708) (by decide +kernel)⟩
theorem lw_p26 : lw_okq (⟨"FalseParity$Kinds", "asTwenty", "(I)I"⟩, 3) := ⟨⟨by decide +kernel, by decide +kernel⟩, List.mem_of_getElem? (i := 228) (by decide +kernel), List.mem_of_getElem? (i := 711) (by decide +kernel), List.mem_of_getElem? (i := 712) (by decide +kernel)⟩
theorem lw_p27 : lw_okq (⟨"FalseParity$Kinds", "asQueen", "(I)I"⟩, 3) := ⟨⟨by decide +kernel, by decide +kernel⟩, List.mem_of_getElem? (i := 228) (by decide +kernel), List.mem_of_getElem? (i := 717) (by decide +kernel), List.mem_of_getElem? (i := 718) (by decide +kernel)⟩
theorem lw_p28 : lw_okq (⟨"FalseParity$Kinds", "asAccent", "(I)I"⟩, 3) := ⟨⟨by decide +kernel, by decide +kernel⟩, List.mem_of_getElem? (i := 228) (by decide +kernel), List.mem_of_getElem? (i := 723) (by decide +kernel), List.mem_of_getElem? (i := 724) (by decide +kernel)⟩
theorem lw_p29 : lw_okq (⟨"FalseParity$Kinds", "asNose", "(I)I"⟩, 3) := ⟨⟨by decide +kernel, by decide +kernel⟩, List.mem_of_getElem? (i := 228) (by decide +kernel), List.mem_of_getElem? (i := 728) (by decide +kernel), List.mem_of_getElem? (i := 729) (by decide +kernel)⟩
theorem lw_p30 : lw_okq (⟨"FalseParity$Kinds", "asPaper", "(I)I"⟩, 3) := ⟨⟨by decide +kernel, by decide +kernel⟩, List.mem_of_getElem? (i := 228) (by decide +kernel), List.mem_of_getElem? (i := 733) (by decide +kernel), List.mem_of_getElem? (i := 734) (by decide +kernel)⟩
theorem lw_p31 : lw_okq (⟨"FalseParityModel", "begins", "()V"⟩, 28) := ⟨⟨by decide +kernel, by decide +kernel⟩, List.mem_of_getElem? (i := 775) (by decide +kernel), List.mem_of_getElem? (i := 781) (by decide +kernel), List.mem_of_getElem? (i := 782) (by decide +kernel)⟩
def lw_privs_2 : List (MethodName × Nat) := [(⟨"FalseParity$Board", "falseNotes", "()I"⟩, 5), (⟨"FalseParity$Paths", "choices", "(II)I"⟩, 2), (⟨"FalseParity$Paths", "hasParityBehind", "(II)Z"⟩, 2), (⟨"FalseParity$Paths", "lowestOther", "(II)I"⟩, 2), (⟨"FalseParity$Marks", "fits", "(I)Z"⟩, 5), (⟨"FalseParity$Marks", "wouldTake", "(II)I"⟩, 5), (⟨"FalseParity$Marks", "howManyTakenBy", "(I)I"⟩, 5), (⟨"FalseParity$Board", "fits", "(I)Z"⟩, 5), (⟨"FalseParity$Board", "isBetter", "(II)Z"⟩, 5), (⟨"FalseParity$Kinds", "asNote", "(I)I"⟩, 3), (⟨"FalseParity$Kinds", "asTwenty", "(I)I"⟩, 3), (⟨"FalseParity$Kinds", "asQueen", "(I)I"⟩, 3), (⟨"FalseParity$Kinds", "asAccent", "(I)I"⟩, 3), (⟨"FalseParity$Kinds", "asNose", "(I)I"⟩, 3), (⟨"FalseParity$Kinds", "asPaper", "(I)I"⟩, 3), (⟨"FalseParityModel", "begins", "()V"⟩, 28)]
theorem lw_r2 : ∀ q ∈ lw_privs_2, lw_okq q := List.forall_mem_cons.mpr ⟨lw_p16, List.forall_mem_cons.mpr ⟨lw_p17, List.forall_mem_cons.mpr ⟨lw_p18, List.forall_mem_cons.mpr ⟨lw_p19, List.forall_mem_cons.mpr ⟨lw_p20, List.forall_mem_cons.mpr ⟨lw_p21, List.forall_mem_cons.mpr ⟨lw_p22, List.forall_mem_cons.mpr ⟨lw_p23, List.forall_mem_cons.mpr ⟨lw_p24, List.forall_mem_cons.mpr ⟨lw_p25, List.forall_mem_cons.mpr ⟨lw_p26, List.forall_mem_cons.mpr ⟨lw_p27, List.forall_mem_cons.mpr ⟨lw_p28, List.forall_mem_cons.mpr ⟨lw_p29, List.forall_mem_cons.mpr ⟨lw_p30, List.forall_mem_cons.mpr ⟨lw_p31, fun _ h => absurd h List.not_mem_nil⟩⟩⟩⟩⟩⟩⟩⟩⟩⟩⟩⟩⟩⟩⟩⟩
theorem lw_p32 : lw_okq (⟨"FalseParityModel", "settles", "()V"⟩, 28) := ⟨⟨by decide +kernel, by decide +kernel⟩, List.mem_of_getElem? (i := 775) (by decide +kernel), List.mem_of_getElem? (i := 785) (by decide +kernel), List.mem_of_getElem? (i := 786) (by decide +kernel)⟩
theorem lw_p33 : lw_okq (⟨"FalseParityModel", "advances", "()V"⟩, 28) := ⟨⟨by decide +kernel, by decide +kernel⟩, List.mem_of_getElem? (i := 775) (by decide +kernel), List.mem_of_getElem? (i := 890) (by decide +kernel), List.mem_of_getElem? (i := 891) (by decide +kernel)⟩
theorem lw_p34 : lw_okq (⟨"FalseParityModel", "letterAt", "(I)I"⟩, 28) := ⟨⟨by decide +kernel, by decide +kernel⟩, List.mem_of_getElem? (i := 775) (by decide +kernel), List.mem_of_getElem? (i := 894) (by decide +kernel), List.mem_of_getElem? (i := 895) (by decide +kernel)⟩
theorem lw_p35 : lw_okq (⟨"FalseParityModel", "isWell", "()Z"⟩, 28) := ⟨⟨by decide +kernel, by decide +kernel⟩, List.mem_of_getElem? (i := 775) (by decide +kernel), List.mem_of_getElem? (i := 898) (by decide +kernel), List.mem_of_getElem? (i := 899) (by decide +kernel)⟩
theorem lw_p36 : lw_okq (⟨"FalseParityModel", "mayBegin", "()Z"⟩, 28) := ⟨⟨by decide +kernel, by decide +kernel⟩, List.mem_of_getElem? (i := 775) (by decide +kernel), List.mem_of_getElem? (i := 902) (by decide +kernel), List.mem_of_getElem? (i := 903) (by decide +kernel)⟩
theorem lw_p37 : lw_okq (⟨"FalseParityModel", "takes", "(Z)I"⟩, 28) := ⟨⟨by decide +kernel, by decide +kernel⟩, List.mem_of_getElem? (i := 775) (by decide +kernel), List.mem_of_getElem? (i := 906) (by decide +kernel), List.mem_of_getElem? (i := 907) (by decide +kernel)⟩
theorem lw_p38 : lw_okq (⟨"FalseParityModel", "readsItem", "(I)V"⟩, 28) := ⟨⟨by decide +kernel, by decide +kernel⟩, List.mem_of_getElem? (i := 775) (by decide +kernel), List.mem_of_getElem? (i := 910) (by decide +kernel), List.mem_of_getElem? (i := 911) (by decide +kernel)⟩
theorem lw_p39 : lw_okq (⟨"FalseParityModel", "number", "(II)I"⟩, 28) := ⟨⟨by decide +kernel, by decide +kernel⟩, List.mem_of_getElem? (i := 775) (by decide +kernel), List.mem_of_getElem? (i := 914) (by decide +kernel), List.mem_of_getElem? (i := 915) (by decide +kernel)⟩
theorem lw_p40 : lw_okq (⟨"FalseParityModel", "isNote", "(I)Z"⟩, 28) := ⟨⟨by decide +kernel, by decide +kernel⟩, List.mem_of_getElem? (i := 775) (by decide +kernel), List.mem_of_getElem? (i := 922) (by decide +kernel), List.mem_of_getElem? (i := 923) (by decide +kernel)⟩
theorem lw_p41 : lw_okq (⟨"FalseParityModel", "hasParity", "(I)Z"⟩, 28) := ⟨⟨by decide +kernel, by decide +kernel⟩, List.mem_of_getElem? (i := 775) (by decide +kernel), List.mem_of_getElem? (i := 926) (by decide +kernel), List.mem_of_getElem? (i := 927) (by decide +kernel)⟩
theorem lw_p42 : lw_okq (⟨"FalseParityModel", "takers", "(IZ)I"⟩, 28) := ⟨⟨by decide +kernel, by decide +kernel⟩, List.mem_of_getElem? (i := 775) (by decide +kernel), List.mem_of_getElem? (i := 930) (by decide +kernel), List.mem_of_getElem? (i := 931) (by decide +kernel)⟩
theorem lw_p43 : lw_okq (⟨"FalseParityModel", "isPerson", "(I)Z"⟩, 28) := ⟨⟨by decide +kernel, by decide +kernel⟩, List.mem_of_getElem? (i := 775) (by decide +kernel), List.mem_of_getElem? (i := 938) (by decide +kernel), List.mem_of_getElem? (i := 939) (by decide +kernel)⟩
theorem lw_p44 : lw_okq (⟨"FalseParityModel", "isAway", "(I)Z"⟩, 28) := ⟨⟨by decide +kernel, by decide +kernel⟩, List.mem_of_getElem? (i := 775) (by decide +kernel), List.mem_of_getElem? (i := 942) (by decide +kernel), List.mem_of_getElem? (i := 943) (by decide +kernel)⟩
theorem lw_p45 : lw_okq (⟨"FalseParityModel", "worthOfAll", "(Z)I"⟩, 28) := ⟨⟨by decide +kernel, by decide +kernel⟩, List.mem_of_getElem? (i := 775) (by decide +kernel), List.mem_of_getElem? (i := 950) (by decide +kernel), List.mem_of_getElem? (i := 951) (by decide +kernel)⟩
theorem lw_p46 : lw_okq (⟨"FalseParityModel", "notes", "()V"⟩, 28) := ⟨⟨by decide +kernel, by decide +kernel⟩, List.mem_of_getElem? (i := 775) (by decide +kernel), List.mem_of_getElem? (i := 958) (by decide +kernel), List.mem_of_getElem? (i := 959) (by decide +kernel)⟩
theorem lw_p47 : lw_okq (⟨"FalseParityModel", "mayBe", "(II)Z"⟩, 28) := ⟨⟨by decide +kernel, by decide +kernel⟩, List.mem_of_getElem? (i := 775) (by decide +kernel), List.mem_of_getElem? (i := 1004) (by decide +kernel), List.mem_of_getElem? (i := 1005) (by decide +kernel)⟩
def lw_privs_3 : List (MethodName × Nat) := [(⟨"FalseParityModel", "settles", "()V"⟩, 28), (⟨"FalseParityModel", "advances", "()V"⟩, 28), (⟨"FalseParityModel", "letterAt", "(I)I"⟩, 28), (⟨"FalseParityModel", "isWell", "()Z"⟩, 28), (⟨"FalseParityModel", "mayBegin", "()Z"⟩, 28), (⟨"FalseParityModel", "takes", "(Z)I"⟩, 28), (⟨"FalseParityModel", "readsItem", "(I)V"⟩, 28), (⟨"FalseParityModel", "number", "(II)I"⟩, 28), (⟨"FalseParityModel", "isNote", "(I)Z"⟩, 28), (⟨"FalseParityModel", "hasParity", "(I)Z"⟩, 28), (⟨"FalseParityModel", "takers", "(IZ)I"⟩, 28), (⟨"FalseParityModel", "isPerson", "(I)Z"⟩, 28), (⟨"FalseParityModel", "isAway", "(I)Z"⟩, 28), (⟨"FalseParityModel", "worthOfAll", "(Z)I"⟩, 28), (⟨"FalseParityModel", "notes", "()V"⟩, 28), (⟨"FalseParityModel", "mayBe", "(II)Z"⟩, 28)]
theorem lw_r3 : ∀ q ∈ lw_privs_3, lw_okq q := List.forall_mem_cons.mpr ⟨lw_p32, List.forall_mem_cons.mpr ⟨lw_p33, List.forall_mem_cons.mpr ⟨lw_p34, List.forall_mem_cons.mpr ⟨lw_p35, List.forall_mem_cons.mpr ⟨lw_p36, List.forall_mem_cons.mpr ⟨lw_p37, List.forall_mem_cons.mpr ⟨lw_p38, List.forall_mem_cons.mpr ⟨lw_p39, List.forall_mem_cons.mpr ⟨lw_p40, List.forall_mem_cons.mpr ⟨lw_p41, List.forall_mem_cons.mpr ⟨lw_p42, List.forall_mem_cons.mpr ⟨lw_p43, List.forall_mem_cons.mpr ⟨lw_p44, List.forall_mem_cons.mpr ⟨lw_p45, List.forall_mem_cons.mpr ⟨lw_p46, List.forall_mem_cons.mpr ⟨lw_p47, fun _ h => absurd h List.not_mem_nil⟩⟩⟩⟩⟩⟩⟩⟩⟩⟩⟩⟩⟩⟩⟩⟩
theorem lw_p48 : lw_okq (⟨"FalseParityModel", "worthOf", "(IZ)I"⟩, 28) := ⟨⟨by decide +kernel, by decide +kernel⟩, List.mem_of_getElem? (i := 775) (by decide +kernel), List.mem_of_getElem? (i := 1028) (by decide +kernel), List.mem_of_getElem? (i := 1029) (by decide +kernel)⟩
def lw_privs_4 : List (MethodName × Nat) := [(⟨"FalseParityModel", "worthOf", "(IZ)I"⟩, 28)]
theorem lw_r4 : ∀ q ∈ lw_privs_4, lw_okq q := List.forall_mem_cons.mpr ⟨lw_p48, fun _ h => absurd h List.not_mem_nil⟩
def lw_privs : List (MethodName × Nat) := lw_privs_1 ++ (lw_privs_2 ++ (lw_privs_3 ++ (lw_privs_4)))
def lw_tbl : List Cond := k2_sels lw_privs ++ tables_1
theorem lw_privs_ok : ∀ q ∈ lw_privs, lw_okq q := by
  show ∀ q ∈ lw_privs_1 ++ (lw_privs_2 ++ (lw_privs_3 ++ (lw_privs_4))), lw_okq q
  exact List.forall_mem_append.mpr ⟨lw_r1, List.forall_mem_append.mpr ⟨lw_r2, List.forall_mem_append.mpr ⟨lw_r3, lw_r4⟩⟩⟩
end
section
def RX0 : String := "FalseParity$Board"
def TX0 : u_T := fun k => match k with
  | 0 => ("FalseParity$Board", "told", "LFalseParity$Country;", true)
  | 1 => ("FalseParity$Board", "now", "LFalseParity$Now;", true)
  | 2 => ("FalseParity$Board", "uses", "[I", true)
  | 3 => ("FalseParity$Board", "ins", "[I", true)
  | _ => ("FalseParity$Board", "heard", "I", false)
def tyX0 : Nat → FieldType := fun k => match k with
  | 0 => .object "FalseParity$Country"
  | 1 => .object "FalseParity$Now"
  | 2 => .array .int
  | 3 => .array .int
  | _ => .int
abbrev wsX00 : List Cond := u_ws RX0 TX0 5
theorem nmX0 : ∀ a, a < 5 → ∀ b, b < 5 → a ≠ b → (TX0 a).2.1 ≠ (TX0 b).2.1 := by decide +kernel
theorem tyX0_ok : ∀ k, k < 5 → parseFieldDescriptor (TX0 k).2.2.1 = some (tyX0 k) := by decide +kernel
abbrev cX0_init : ByteArray := prog_2_method_1_code
def yX0_init : MethodName := ⟨RX0, "<init>", "(LFalseParity$Country;LFalseParity$Now;)V"⟩
abbrev cX0_empty : ByteArray := prog_2_method_2_code
def yX0_empty : MethodName := ⟨RX0, "empty", "()V"⟩
abbrev cX0_add : ByteArray := prog_2_method_3_code
def yX0_add : MethodName := ⟨RX0, "add", "(II)I"⟩
abbrev cX0_possibleYears : ByteArray := prog_2_method_4_code
def yX0_possibleYears : MethodName := ⟨RX0, "possibleYears", "()I"⟩
abbrev cX0_fits : ByteArray := prog_2_method_5_code
def yX0_fits : MethodName := ⟨RX0, "fits", "(I)Z"⟩
abbrev cX0_worthOfAll : ByteArray := prog_2_method_6_code
def yX0_worthOfAll : MethodName := ⟨RX0, "worthOfAll", "()I"⟩
abbrev cX0_worthOfFalse : ByteArray := prog_2_method_7_code
def yX0_worthOfFalse : MethodName := ⟨RX0, "worthOfFalse", "()I"⟩
abbrev cX0_worthOf : ByteArray := prog_2_method_8_code
def yX0_worthOf : MethodName := ⟨RX0, "worthOf", "(I)I"⟩
abbrev cX0_bestSet : ByteArray := prog_2_method_9_code
def yX0_bestSet : MethodName := ⟨RX0, "bestSet", "()I"⟩
abbrev cX0_isBetter : ByteArray := prog_2_method_10_code
def yX0_isBetter : MethodName := ⟨RX0, "isBetter", "(II)Z"⟩
abbrev cX0_falseNotes : ByteArray := prog_2_method_11_code
def yX0_falseNotes : MethodName := ⟨RX0, "falseNotes", "()I"⟩
def RX1 : String := "FalseParity$Country"
def TX1 : u_T := fun k => match k with
  | 0 => ("FalseParity$Country", "looks", "[I", true)
  | 1 => ("FalseParity$Country", "worth", "[I", true)
  | 2 => ("FalseParity$Country", "marks", "[I", true)
  | 3 => ("FalseParity$Country", "holders", "[I", true)
  | 4 => ("FalseParity$Country", "people", "I", false)
  | 5 => ("FalseParity$Country", "notes", "I", false)
  | 6 => ("FalseParity$Country", "board", "I", false)
  | _ => ("FalseParity$Country", "share", "I", false)
def tyX1 : Nat → FieldType := fun k => match k with
  | 0 => .array .int
  | 1 => .array .int
  | 2 => .array .int
  | 3 => .array .int
  | 4 => .int
  | 5 => .int
  | 6 => .int
  | _ => .int
abbrev wsX10 : List Cond := u_ws RX1 TX1 8
theorem nmX1 : ∀ a, a < 8 → ∀ b, b < 8 → a ≠ b → (TX1 a).2.1 ≠ (TX1 b).2.1 := by decide +kernel
theorem tyX1_ok : ∀ k, k < 8 → parseFieldDescriptor (TX1 k).2.2.1 = some (tyX1 k) := by decide +kernel
abbrev cX1_init : ByteArray := prog_3_method_1_code
def yX1_init : MethodName := ⟨RX1, "<init>", "()V"⟩
abbrev cX1_empty : ByteArray := prog_3_method_2_code
def yX1_empty : MethodName := ⟨RX1, "empty", "()V"⟩
abbrev cX1_copyFrom : ByteArray := prog_3_method_3_code
def yX1_copyFrom : MethodName := ⟨RX1, "copyFrom", "(LFalseParity$Country;)V"⟩
abbrev cX1_hasPerson : ByteArray := prog_3_method_4_code
def yX1_hasPerson : MethodName := ⟨RX1, "hasPerson", "(I)Z"⟩
abbrev cX1_hasNote : ByteArray := prog_3_method_5_code
def yX1_hasNote : MethodName := ⟨RX1, "hasNote", "(I)Z"⟩
abbrev cX1_isFalse : ByteArray := prog_3_method_6_code
def yX1_isFalse : MethodName := ⟨RX1, "isFalse", "(I)Z"⟩
def RX2 : String := "FalseParity$History"
def TX2 : u_T := fun k => match k with
  | 0 => ("FalseParity$History", "rows", "[I", true)
  | 1 => ("FalseParity$History", "next", "I", false)
  | _ => ("FalseParity$History", "known", "I", false)
def tyX2 : Nat → FieldType := fun k => match k with
  | 0 => .array .int
  | 1 => .int
  | _ => .int
abbrev wsX20 : List Cond := u_ws RX2 TX2 3
theorem nmX2 : ∀ a, a < 3 → ∀ b, b < 3 → a ≠ b → (TX2 a).2.1 ≠ (TX2 b).2.1 := by decide +kernel
theorem tyX2_ok : ∀ k, k < 3 → parseFieldDescriptor (TX2 k).2.2.1 = some (tyX2 k) := by decide +kernel
abbrev cX2_init : ByteArray := prog_4_method_1_code
def yX2_init : MethodName := ⟨RX2, "<init>", "()V"⟩
abbrev cX2_empty : ByteArray := prog_4_method_2_code
def yX2_empty : MethodName := ⟨RX2, "empty", "()V"⟩
abbrev cX2_push : ByteArray := prog_4_method_3_code
def yX2_push : MethodName := ⟨RX2, "push", "(LFalseParity$Now;)V"⟩
abbrev cX2_pop : ByteArray := prog_4_method_4_code
def yX2_pop : MethodName := ⟨RX2, "pop", "(LFalseParity$Now;)V"⟩
def RX3 : String := "FalseParity$Images"
def TX3 : u_T := fun k => match k with
  | 0 => ("FalseParity$Images", "rows", "[I", true)
  | _ => ("FalseParity$Images", "stored", "I", false)
def tyX3 : Nat → FieldType := fun k => match k with
  | 0 => .array .int
  | _ => .int
abbrev wsX30 : List Cond := u_ws RX3 TX3 2
theorem nmX3 : ∀ a, a < 2 → ∀ b, b < 2 → a ≠ b → (TX3 a).2.1 ≠ (TX3 b).2.1 := by decide +kernel
theorem tyX3_ok : ∀ k, k < 2 → parseFieldDescriptor (TX3 k).2.2.1 = some (tyX3 k) := by decide +kernel
abbrev cX3_init : ByteArray := prog_5_method_1_code
def yX3_init : MethodName := ⟨RX3, "<init>", "()V"⟩
abbrev cX3_empty : ByteArray := prog_5_method_2_code
def yX3_empty : MethodName := ⟨RX3, "empty", "()V"⟩
abbrev cX3_has : ByteArray := prog_5_method_3_code
def yX3_has : MethodName := ⟨RX3, "has", "(I)Z"⟩
abbrev cX3_store : ByteArray := prog_5_method_4_code
def yX3_store : MethodName := ⟨RX3, "store", "(ILFalseParity$Now;)V"⟩
abbrev cX3_restore : ByteArray := prog_5_method_5_code
def yX3_restore : MethodName := ⟨RX3, "restore", "(ILFalseParity$Now;)V"⟩
def RX4 : String := "FalseParity$Kinds"
def TX4 : u_T := fun k => match k with
  | 0 => ("FalseParity$Kinds", "told", "LFalseParity$Country;", true)
  | 1 => ("FalseParity$Kinds", "now", "LFalseParity$Now;", true)
  | _ => ("FalseParity$Kinds", "trace", "J", false)
def tyX4 : Nat → FieldType := fun k => match k with
  | 0 => .object "FalseParity$Country"
  | 1 => .object "FalseParity$Now"
  | _ => .long
abbrev wsX40 : List Cond := u_ws RX4 TX4 3
theorem nmX4 : ∀ a, a < 3 → ∀ b, b < 3 → a ≠ b → (TX4 a).2.1 ≠ (TX4 b).2.1 := by decide +kernel
theorem tyX4_ok : ∀ k, k < 3 → parseFieldDescriptor (TX4 k).2.2.1 = some (tyX4 k) := by decide +kernel
abbrev cX4_init : ByteArray := prog_6_method_1_code
def yX4_init : MethodName := ⟨RX4, "<init>", "(LFalseParity$Country;LFalseParity$Now;)V"⟩
abbrev cX4_rateAs : ByteArray := prog_6_method_2_code
def yX4_rateAs : MethodName := ⟨RX4, "rateAs", "(II)I"⟩
abbrev cX4_asNote : ByteArray := prog_6_method_3_code
def yX4_asNote : MethodName := ⟨RX4, "asNote", "(I)I"⟩
abbrev cX4_asTwenty : ByteArray := prog_6_method_4_code
def yX4_asTwenty : MethodName := ⟨RX4, "asTwenty", "(I)I"⟩
abbrev cX4_asQueen : ByteArray := prog_6_method_5_code
def yX4_asQueen : MethodName := ⟨RX4, "asQueen", "(I)I"⟩
abbrev cX4_asAccent : ByteArray := prog_6_method_6_code
def yX4_asAccent : MethodName := ⟨RX4, "asAccent", "(I)I"⟩
abbrev cX4_asNose : ByteArray := prog_6_method_7_code
def yX4_asNose : MethodName := ⟨RX4, "asNose", "(I)I"⟩
abbrev cX4_asPaper : ByteArray := prog_6_method_8_code
def yX4_asPaper : MethodName := ⟨RX4, "asPaper", "(I)I"⟩
def RX5 : String := "FalseParity$Marks"
def TX5 : u_T := fun k => match k with
  | 0 => ("FalseParity$Marks", "told", "LFalseParity$Country;", true)
  | 1 => ("FalseParity$Marks", "now", "LFalseParity$Now;", true)
  | 2 => ("FalseParity$Marks", "persons", "[I", true)
  | 3 => ("FalseParity$Marks", "tooks", "[I", true)
  | _ => ("FalseParity$Marks", "seen", "I", false)
def tyX5 : Nat → FieldType := fun k => match k with
  | 0 => .object "FalseParity$Country"
  | 1 => .object "FalseParity$Now"
  | 2 => .array .int
  | 3 => .array .int
  | _ => .int
abbrev wsX50 : List Cond := u_ws RX5 TX5 5
theorem nmX5 : ∀ a, a < 5 → ∀ b, b < 5 → a ≠ b → (TX5 a).2.1 ≠ (TX5 b).2.1 := by decide +kernel
theorem tyX5_ok : ∀ k, k < 5 → parseFieldDescriptor (TX5 k).2.2.1 = some (tyX5 k) := by decide +kernel
abbrev cX5_init : ByteArray := prog_7_method_1_code
def yX5_init : MethodName := ⟨RX5, "<init>", "(LFalseParity$Country;LFalseParity$Now;)V"⟩
abbrev cX5_empty : ByteArray := prog_7_method_2_code
def yX5_empty : MethodName := ⟨RX5, "empty", "()V"⟩
abbrev cX5_add : ByteArray := prog_7_method_3_code
def yX5_add : MethodName := ⟨RX5, "add", "(II)I"⟩
abbrev cX5_howMany : ByteArray := prog_7_method_4_code
def yX5_howMany : MethodName := ⟨RX5, "howMany", "()I"⟩
abbrev cX5_least : ByteArray := prog_7_method_5_code
def yX5_least : MethodName := ⟨RX5, "least", "()I"⟩
abbrev cX5_inAll : ByteArray := prog_7_method_6_code
def yX5_inAll : MethodName := ⟨RX5, "inAll", "()I"⟩
abbrev cX5_bestPerson : ByteArray := prog_7_method_7_code
def yX5_bestPerson : MethodName := ⟨RX5, "bestPerson", "()I"⟩
abbrev cX5_howManyTakenBy : ByteArray := prog_7_method_8_code
def yX5_howManyTakenBy : MethodName := ⟨RX5, "howManyTakenBy", "(I)I"⟩
abbrev cX5_fits : ByteArray := prog_7_method_9_code
def yX5_fits : MethodName := ⟨RX5, "fits", "(I)Z"⟩
abbrev cX5_wouldTake : ByteArray := prog_7_method_10_code
def yX5_wouldTake : MethodName := ⟨RX5, "wouldTake", "(II)I"⟩
def RX6 : String := "FalseParity$Now"
def TX6 : u_T := fun k => match k with
  | _ => ("FalseParity$Now", "row", "[I", true)
def tyX6 : Nat → FieldType := fun k => match k with
  | _ => .array .int
abbrev wsX60 : List Cond := u_ws RX6 TX6 1
theorem nmX6 : ∀ a, a < 1 → ∀ b, b < 1 → a ≠ b → (TX6 a).2.1 ≠ (TX6 b).2.1 := by decide +kernel
theorem tyX6_ok : ∀ k, k < 1 → parseFieldDescriptor (TX6 k).2.2.1 = some (tyX6 k) := by decide +kernel
abbrev cX6_init : ByteArray := prog_8_method_1_code
def yX6_init : MethodName := ⟨RX6, "<init>", "()V"⟩
abbrev cX6_begin : ByteArray := prog_8_method_2_code
def yX6_begin : MethodName := ⟨RX6, "begin", "(LFalseParity$Country;)V"⟩
abbrev cX6_copyTo : ByteArray := prog_8_method_3_code
def yX6_copyTo : MethodName := ⟨RX6, "copyTo", "([II)V"⟩
abbrev cX6_copyFrom : ByteArray := prog_8_method_4_code
def yX6_copyFrom : MethodName := ⟨RX6, "copyFrom", "([II)V"⟩
abbrev cX6_holder : ByteArray := prog_8_method_5_code
def yX6_holder : MethodName := ⟨RX6, "holder", "(I)I"⟩
abbrev cX6_uses : ByteArray := prog_8_method_6_code
def yX6_uses : MethodName := ⟨RX6, "uses", "(I)I"⟩
abbrev cX6_looks : ByteArray := prog_8_method_7_code
def yX6_looks : MethodName := ⟨RX6, "looks", "(I)I"⟩
abbrev cX6_parity : ByteArray := prog_8_method_8_code
def yX6_parity : MethodName := ⟨RX6, "parity", "()I"⟩
abbrev cX6_away : ByteArray := prog_8_method_9_code
def yX6_away : MethodName := ⟨RX6, "away", "()I"⟩
abbrev cX6_refused : ByteArray := prog_8_method_10_code
def yX6_refused : MethodName := ⟨RX6, "refused", "()I"⟩
abbrev cX6_hasParity : ByteArray := prog_8_method_11_code
def yX6_hasParity : MethodName := ⟨RX6, "hasParity", "(I)Z"⟩
abbrev cX6_isAway : ByteArray := prog_8_method_12_code
def yX6_isAway : MethodName := ⟨RX6, "isAway", "(I)Z"⟩
abbrev cX6_take : ByteArray := prog_8_method_13_code
def yX6_take : MethodName := ⟨RX6, "take", "(II)V"⟩
abbrev cX6_giveParity : ByteArray := prog_8_method_14_code
def yX6_giveParity : MethodName := ⟨RX6, "giveParity", "(I)V"⟩
abbrev cX6_refuse : ByteArray := prog_8_method_15_code
def yX6_refuse : MethodName := ⟨RX6, "refuse", "(I)V"⟩
abbrev cX6_teach : ByteArray := prog_8_method_16_code
def yX6_teach : MethodName := ⟨RX6, "teach", "(II)V"⟩
abbrev cX6_turnAway : ByteArray := prog_8_method_17_code
def yX6_turnAway : MethodName := ⟨RX6, "turnAway", "(I)V"⟩
def RX7 : String := "FalseParity$Paths"
def TX7 : u_T := fun k => match k with
  | 0 => ("FalseParity$Paths", "told", "LFalseParity$Country;", true)
  | _ => ("FalseParity$Paths", "now", "LFalseParity$Now;", true)
def tyX7 : Nat → FieldType := fun k => match k with
  | 0 => .object "FalseParity$Country"
  | _ => .object "FalseParity$Now"
abbrev wsX70 : List Cond := u_ws RX7 TX7 2
theorem nmX7 : ∀ a, a < 2 → ∀ b, b < 2 → a ≠ b → (TX7 a).2.1 ≠ (TX7 b).2.1 := by decide +kernel
theorem tyX7_ok : ∀ k, k < 2 → parseFieldDescriptor (TX7 k).2.2.1 = some (tyX7 k) := by decide +kernel
abbrev cX7_init : ByteArray := prog_9_method_1_code
def yX7_init : MethodName := ⟨RX7, "<init>", "(LFalseParity$Country;LFalseParity$Now;)V"⟩
abbrev cX7_takers : ByteArray := prog_9_method_2_code
def yX7_takers : MethodName := ⟨RX7, "takers", "(I)I"⟩
abbrev cX7_takes : ByteArray := prog_9_method_3_code
def yX7_takes : MethodName := ⟨RX7, "takes", "(II)Z"⟩
abbrev cX7_neededForParity : ByteArray := prog_9_method_4_code
def yX7_neededForParity : MethodName := ⟨RX7, "neededForParity", "(I)I"⟩
abbrev cX7_canGoOn : ByteArray := prog_9_method_5_code
def yX7_canGoOn : MethodName := ⟨RX7, "canGoOn", "(II)Z"⟩
abbrev cX7_personOfRow : ByteArray := prog_9_method_6_code
def yX7_personOfRow : MethodName := ⟨RX7, "personOfRow", "(II)I"⟩
abbrev cX7_lowestOther : ByteArray := prog_9_method_7_code
def yX7_lowestOther : MethodName := ⟨RX7, "lowestOther", "(II)I"⟩
abbrev cX7_most : ByteArray := prog_9_method_8_code
def yX7_most : MethodName := ⟨RX7, "most", "(I)I"⟩
abbrev cX7_waysTaken : ByteArray := prog_9_method_9_code
def yX7_waysTaken : MethodName := ⟨RX7, "waysTaken", "(II)I"⟩
abbrev cX7_waysAtAll : ByteArray := prog_9_method_10_code
def yX7_waysAtAll : MethodName := ⟨RX7, "waysAtAll", "(I)I"⟩
abbrev cX7_choices : ByteArray := prog_9_method_11_code
def yX7_choices : MethodName := ⟨RX7, "choices", "(II)I"⟩
abbrev cX7_hasParityBehind : ByteArray := prog_9_method_12_code
def yX7_hasParityBehind : MethodName := ⟨RX7, "hasParityBehind", "(II)Z"⟩
abbrev cX7_takersByLooks : ByteArray := prog_9_method_13_code
def yX7_takersByLooks : MethodName := ⟨RX7, "takersByLooks", "(I)I"⟩
def RX8 : String := "FalseParity$Reader"
def TX8 : u_T := fun k => match k with
  | 0 => ("FalseParity$Reader", "text", "LFalseParity$Text;", true)
  | 1 => ("FalseParity$Reader", "draft", "LFalseParity$Country;", true)
  | 2 => ("FalseParity$Reader", "items", "I", false)
  | 3 => ("FalseParity$Reader", "item", "I", false)
  | 4 => ("FalseParity$Reader", "numbers", "I", false)
  | 5 => ("FalseParity$Reader", "boardTold", "Z", false)
  | _ => ("FalseParity$Reader", "shareTold", "Z", false)
def tyX8 : Nat → FieldType := fun k => match k with
  | 0 => .object "FalseParity$Text"
  | 1 => .object "FalseParity$Country"
  | 2 => .int
  | 3 => .int
  | 4 => .int
  | 5 => .boolean
  | _ => .boolean
abbrev wsX80 : List Cond := u_ws RX8 TX8 7
theorem nmX8 : ∀ a, a < 7 → ∀ b, b < 7 → a ≠ b → (TX8 a).2.1 ≠ (TX8 b).2.1 := by decide +kernel
theorem tyX8_ok : ∀ k, k < 7 → parseFieldDescriptor (TX8 k).2.2.1 = some (tyX8 k) := by decide +kernel
abbrev cX8_init : ByteArray := prog_10_method_1_code
def yX8_init : MethodName := ⟨RX8, "<init>", "(LFalseParity$Text;)V"⟩
abbrev cX8_read : ByteArray := prog_10_method_2_code
def yX8_read : MethodName := ⟨RX8, "read", "()I"⟩
abbrev cX8_begin : ByteArray := prog_10_method_3_code
def yX8_begin : MethodName := ⟨RX8, "begin", "()V"⟩
abbrev cX8_beginsToken : ByteArray := prog_10_method_4_code
def yX8_beginsToken : MethodName := ⟨RX8, "beginsToken", "(I)Z"⟩
abbrev cX8_accepts : ByteArray := prog_10_method_5_code
def yX8_accepts : MethodName := ⟨RX8, "accepts", "(I)Z"⟩
abbrev cX8_beginsItem : ByteArray := prog_10_method_6_code
def yX8_beginsItem : MethodName := ⟨RX8, "beginsItem", "(I)Z"⟩
abbrev cX8_canBegin : ByteArray := prog_10_method_7_code
def yX8_canBegin : MethodName := ⟨RX8, "canBegin", "(I)Z"⟩
abbrev cX8_numbersOfItem : ByteArray := prog_10_method_8_code
def yX8_numbersOfItem : MethodName := ⟨RX8, "numbersOfItem", "()I"⟩
abbrev cX8_numberAt : ByteArray := prog_10_method_9_code
def yX8_numberAt : MethodName := ⟨RX8, "numberAt", "(I)I"⟩
abbrev cX8_acceptsNumber : ByteArray := prog_10_method_10_code
def yX8_acceptsNumber : MethodName := ⟨RX8, "acceptsNumber", "(I)Z"⟩
abbrev cX8_leastNumber : ByteArray := prog_10_method_11_code
def yX8_leastNumber : MethodName := ⟨RX8, "leastNumber", "()I"⟩
abbrev cX8_mostNumber : ByteArray := prog_10_method_12_code
def yX8_mostNumber : MethodName := ⟨RX8, "mostNumber", "()I"⟩
abbrev cX8_mostOfNote : ByteArray := prog_10_method_13_code
def yX8_mostOfNote : MethodName := ⟨RX8, "mostOfNote", "()I"⟩
abbrev cX8_store : ByteArray := prog_10_method_14_code
def yX8_store : MethodName := ⟨RX8, "store", "(I)V"⟩
abbrev cX8_storeOfNote : ByteArray := prog_10_method_15_code
def yX8_storeOfNote : MethodName := ⟨RX8, "storeOfNote", "(II)V"⟩
abbrev cX8_endsItem : ByteArray := prog_10_method_16_code
def yX8_endsItem : MethodName := ⟨RX8, "endsItem", "()Z"⟩
def RX9 : String := "FalseParity$Text"
def TX9 : u_T := fun k => match k with
  | 0 => ("FalseParity$Text", "letters", "[I", true)
  | _ => ("FalseParity$Text", "length", "I", false)
def tyX9 : Nat → FieldType := fun k => match k with
  | 0 => .array .int
  | _ => .int
abbrev wsX90 : List Cond := u_ws RX9 TX9 2
theorem nmX9 : ∀ a, a < 2 → ∀ b, b < 2 → a ≠ b → (TX9 a).2.1 ≠ (TX9 b).2.1 := by decide +kernel
theorem tyX9_ok : ∀ k, k < 2 → parseFieldDescriptor (TX9 k).2.2.1 = some (tyX9 k) := by decide +kernel
abbrev cX9_init : ByteArray := prog_11_method_1_code
def yX9_init : MethodName := ⟨RX9, "<init>", "()V"⟩
abbrev cX9_add : ByteArray := prog_11_method_2_code
def yX9_add : MethodName := ⟨RX9, "add", "(I)I"⟩
abbrev cX9_empty : ByteArray := prog_11_method_3_code
def yX9_empty : MethodName := ⟨RX9, "empty", "()I"⟩
abbrev cX9_hasDigit : ByteArray := prog_11_method_4_code
def yX9_hasDigit : MethodName := ⟨RX9, "hasDigit", "(I)Z"⟩
def RX10 : String := "FalseParity"
def TX10 : u_T := fun k => match k with
  | 0 => ("FalseParity", "text", "LFalseParity$Text;", true)
  | 1 => ("FalseParity", "reader", "LFalseParity$Reader;", true)
  | 2 => ("FalseParity", "told", "LFalseParity$Country;", true)
  | 3 => ("FalseParity", "now", "LFalseParity$Now;", true)
  | 4 => ("FalseParity", "history", "LFalseParity$History;", true)
  | 5 => ("FalseParity", "images", "LFalseParity$Images;", true)
  | 6 => ("FalseParity", "paths", "LFalseParity$Paths;", true)
  | 7 => ("FalseParity", "marks", "LFalseParity$Marks;", true)
  | 8 => ("FalseParity", "board", "LFalseParity$Board;", true)
  | _ => ("FalseParity", "kinds", "LFalseParity$Kinds;", true)
def tyX10 : Nat → FieldType := fun k => match k with
  | 0 => .object "FalseParity$Text"
  | 1 => .object "FalseParity$Reader"
  | 2 => .object "FalseParity$Country"
  | 3 => .object "FalseParity$Now"
  | 4 => .object "FalseParity$History"
  | 5 => .object "FalseParity$Images"
  | 6 => .object "FalseParity$Paths"
  | 7 => .object "FalseParity$Marks"
  | 8 => .object "FalseParity$Board"
  | _ => .object "FalseParity$Kinds"
abbrev wsX100 : List Cond := u_ws RX10 TX10 10
theorem nmX10 : ∀ a, a < 10 → ∀ b, b < 10 → a ≠ b → (TX10 a).2.1 ≠ (TX10 b).2.1 := by decide +kernel
theorem tyX10_ok : ∀ k, k < 10 → parseFieldDescriptor (TX10 k).2.2.1 = some (tyX10 k) := by decide +kernel
abbrev cX10_init : ByteArray := prog_1_method_1_code
def yX10_init : MethodName := ⟨RX10, "<init>", "()V"⟩
abbrev cX10_type : ByteArray := prog_1_method_2_code
def yX10_type : MethodName := ⟨RX10, "type", "(I)I"⟩
abbrev cX10_clear : ByteArray := prog_1_method_3_code
def yX10_clear : MethodName := ⟨RX10, "clear", "()I"⟩
abbrev cX10_country : ByteArray := prog_1_method_4_code
def yX10_country : MethodName := ⟨RX10, "country", "()I"⟩
abbrev cX10_note : ByteArray := prog_1_method_5_code
def yX10_note : MethodName := ⟨RX10, "note", "(II)I"⟩
abbrev cX10_person : ByteArray := prog_1_method_6_code
def yX10_person : MethodName := ⟨RX10, "person", "(II)I"⟩
abbrev cX10_now : ByteArray := prog_1_method_7_code
def yX10_now : MethodName := ⟨RX10, "now", "(I)I"⟩
abbrev cX10_passes : ByteArray := prog_1_method_8_code
def yX10_passes : MethodName := ⟨RX10, "passes", "(II)I"⟩
abbrev cX10_teaches : ByteArray := prog_1_method_9_code
def yX10_teaches : MethodName := ⟨RX10, "teaches", "(II)I"⟩
abbrev cX10_sends : ByteArray := prog_1_method_10_code
def yX10_sends : MethodName := ⟨RX10, "sends", "(II)I"⟩
abbrev cX10_undo : ByteArray := prog_1_method_11_code
def yX10_undo : MethodName := ⟨RX10, "undo", "()I"⟩
abbrev cX10_soonest : ByteArray := prog_1_method_12_code
def yX10_soonest : MethodName := ⟨RX10, "soonest", "(II)I"⟩
abbrev cX10_till : ByteArray := prog_1_method_13_code
def yX10_till : MethodName := ⟨RX10, "till", "(I)I"⟩
abbrev cX10_odds : ByteArray := prog_1_method_14_code
def yX10_odds : MethodName := ⟨RX10, "odds", "(III)I"⟩
abbrev cX10_saw : ByteArray := prog_1_method_15_code
def yX10_saw : MethodName := ⟨RX10, "saw", "(II)I"⟩
abbrev cX10_canBe : ByteArray := prog_1_method_16_code
def yX10_canBe : MethodName := ⟨RX10, "canBe", "(I)I"⟩
abbrev cX10_show : ByteArray := prog_1_method_17_code
def yX10_show : MethodName := ⟨RX10, "show", "()I"⟩
abbrev cX10_hears : ByteArray := prog_1_method_18_code
def yX10_hears : MethodName := ⟨RX10, "hears", "(II)I"⟩
abbrev cX10_forget : ByteArray := prog_1_method_19_code
def yX10_forget : MethodName := ⟨RX10, "forget", "()I"⟩
abbrev cX10_years : ByteArray := prog_1_method_20_code
def yX10_years : MethodName := ⟨RX10, "years", "()I"⟩
abbrev cX10_letIn : ByteArray := prog_1_method_21_code
def yX10_letIn : MethodName := ⟨RX10, "letIn", "(I)I"⟩
abbrev cX10_rate : ByteArray := prog_1_method_22_code
def yX10_rate : MethodName := ⟨RX10, "rate", "(II)I"⟩
abbrev cX10_keep : ByteArray := prog_1_method_23_code
def yX10_keep : MethodName := ⟨RX10, "keep", "(I)I"⟩
abbrev cX10_back : ByteArray := prog_1_method_24_code
def yX10_back : MethodName := ⟨RX10, "back", "(I)I"⟩
abbrev cX10_count : ByteArray := prog_1_method_25_code
def yX10_count : MethodName := ⟨RX10, "count", "(I)I"⟩
abbrev cX10_trace : ByteArray := prog_1_method_26_code
def yX10_trace : MethodName := ⟨RX10, "trace", "()J"⟩
abbrev cX10_purse : ByteArray := prog_1_method_27_code
def yX10_purse : MethodName := ⟨RX10, "purse", "(I)I"⟩
abbrev cX10_isYesOrNo : ByteArray := prog_1_method_28_code
def yX10_isYesOrNo : MethodName := ⟨RX10, "isYesOrNo", "(I)Z"⟩
abbrev cX10_isImage : ByteArray := prog_1_method_29_code
def yX10_isImage : MethodName := ⟨RX10, "isImage", "(I)Z"⟩
abbrev cX10_hasBit : ByteArray := prog_1_method_30_code
def yX10_hasBit : MethodName := ⟨RX10, "hasBit", "(II)Z"⟩
abbrev cX10_inLeastTerms : ByteArray := prog_1_method_31_code
def yX10_inLeastTerms : MethodName := ⟨RX10, "inLeastTerms", "(III)I"⟩
def RX11 : String := "FalseParityModel"
def TX11 : u_T := fun k => match k with
  | 0 => ("FalseParityModel", "thrown", "I", false)
  | 1 => ("FalseParityModel", "trace", "J", false)
  | 2 => ("FalseParityModel", "text", "[I", true)
  | 3 => ("FalseParityModel", "typed", "I", false)
  | 4 => ("FalseParityModel", "next", "I", false)
  | 5 => ("FalseParityModel", "token", "I", false)
  | 6 => ("FalseParityModel", "place", "I", false)
  | 7 => ("FalseParityModel", "value", "I", false)
  | 8 => ("FalseParityModel", "fault", "I", false)
  | 9 => ("FalseParityModel", "many", "[I", true)
  | 10 => ("FalseParityModel", "told", "I", false)
  | 11 => ("FalseParityModel", "looks", "[I", true)
  | 12 => ("FalseParityModel", "worth", "[I", true)
  | 13 => ("FalseParityModel", "marks", "[I", true)
  | 14 => ("FalseParityModel", "holder", "[I", true)
  | 15 => ("FalseParityModel", "s", "[I", true)
  | 16 => ("FalseParityModel", "kept", "[I", true)
  | 17 => ("FalseParityModel", "isKept", "[Z", true)
  | 18 => ("FalseParityModel", "undos", "[I", true)
  | 19 => ("FalseParityModel", "undoMany", "I", false)
  | 20 => ("FalseParityModel", "sawBy", "[I", true)
  | 21 => ("FalseParityModel", "sawIs", "[I", true)
  | 22 => ("FalseParityModel", "sawMany", "I", false)
  | 23 => ("FalseParityModel", "heardUses", "[I", true)
  | 24 => ("FalseParityModel", "heardIs", "[I", true)
  | 25 => ("FalseParityModel", "heard", "I", false)
  | 26 => ("FalseParityModel", "ways", "[I", true)
  | _ => ("FalseParityModel", "others", "[I", true)
def tyX11 : Nat → FieldType := fun k => match k with
  | 0 => .int
  | 1 => .long
  | 2 => .array .int
  | 3 => .int
  | 4 => .int
  | 5 => .int
  | 6 => .int
  | 7 => .int
  | 8 => .int
  | 9 => .array .int
  | 10 => .int
  | 11 => .array .int
  | 12 => .array .int
  | 13 => .array .int
  | 14 => .array .int
  | 15 => .array .int
  | 16 => .array .int
  | 17 => .array .boolean
  | 18 => .array .int
  | 19 => .int
  | 20 => .array .int
  | 21 => .array .int
  | 22 => .int
  | 23 => .array .int
  | 24 => .array .int
  | 25 => .int
  | 26 => .array .int
  | _ => .array .int
abbrev wsX110 : List Cond := u_ws RX11 TX11 28
theorem nmX11 : ∀ a, a < 28 → ∀ b, b < 28 → a ≠ b → (TX11 a).2.1 ≠ (TX11 b).2.1 := by decide +kernel
theorem tyX11_ok : ∀ k, k < 28 → parseFieldDescriptor (TX11 k).2.2.1 = some (tyX11 k) := by decide +kernel
abbrev cX11_init : ByteArray := prog_13_method_1_code
def yX11_init : MethodName := ⟨RX11, "<init>", "()V"⟩
abbrev cX11_in : ByteArray := prog_13_method_3_code
def yX11_in : MethodName := ⟨RX11, "in", "(III)Z"⟩
abbrev cX11_ones : ByteArray := prog_13_method_4_code
def yX11_ones : MethodName := ⟨RX11, "ones", "(I)I"⟩
abbrev cX11_type : ByteArray := prog_13_method_5_code
def yX11_type : MethodName := ⟨RX11, "type", "(I)I"⟩
abbrev cX11_clear : ByteArray := prog_13_method_6_code
def yX11_clear : MethodName := ⟨RX11, "clear", "()I"⟩
abbrev cX11_letterAt : ByteArray := prog_13_method_7_code
def yX11_letterAt : MethodName := ⟨RX11, "letterAt", "(I)I"⟩
abbrev cX11_advances : ByteArray := prog_13_method_8_code
def yX11_advances : MethodName := ⟨RX11, "advances", "()V"⟩
abbrev cX11_isWell : ByteArray := prog_13_method_9_code
def yX11_isWell : MethodName := ⟨RX11, "isWell", "()Z"⟩
abbrev cX11_takes : ByteArray := prog_13_method_10_code
def yX11_takes : MethodName := ⟨RX11, "takes", "(Z)I"⟩
abbrev cX11_number : ByteArray := prog_13_method_11_code
def yX11_number : MethodName := ⟨RX11, "number", "(II)I"⟩
abbrev cX11_begins : ByteArray := prog_13_method_12_code
def yX11_begins : MethodName := ⟨RX11, "begins", "()V"⟩
abbrev cX11_mayBegin : ByteArray := prog_13_method_13_code
def yX11_mayBegin : MethodName := ⟨RX11, "mayBegin", "()Z"⟩
abbrev cX11_readsItem : ByteArray := prog_13_method_14_code
def yX11_readsItem : MethodName := ⟨RX11, "readsItem", "(I)V"⟩
abbrev cX11_country : ByteArray := prog_13_method_15_code
def yX11_country : MethodName := ⟨RX11, "country", "()I"⟩
abbrev cX11_settles : ByteArray := prog_13_method_16_code
def yX11_settles : MethodName := ⟨RX11, "settles", "()V"⟩
abbrev cX11_isPerson : ByteArray := prog_13_method_17_code
def yX11_isPerson : MethodName := ⟨RX11, "isPerson", "(I)Z"⟩
abbrev cX11_isNote : ByteArray := prog_13_method_18_code
def yX11_isNote : MethodName := ⟨RX11, "isNote", "(I)Z"⟩
abbrev cX11_isAway : ByteArray := prog_13_method_19_code
def yX11_isAway : MethodName := ⟨RX11, "isAway", "(I)Z"⟩
abbrev cX11_hasParity : ByteArray := prog_13_method_20_code
def yX11_hasParity : MethodName := ⟨RX11, "hasParity", "(I)Z"⟩
abbrev cX11_takers : ByteArray := prog_13_method_21_code
def yX11_takers : MethodName := ⟨RX11, "takers", "(IZ)I"⟩
abbrev cX11_note : ByteArray := prog_13_method_22_code
def yX11_note : MethodName := ⟨RX11, "note", "(II)I"⟩
abbrev cX11_person : ByteArray := prog_13_method_23_code
def yX11_person : MethodName := ⟨RX11, "person", "(II)I"⟩
abbrev cX11_worthOfAll : ByteArray := prog_13_method_24_code
def yX11_worthOfAll : MethodName := ⟨RX11, "worthOfAll", "(Z)I"⟩
abbrev cX11_now : ByteArray := prog_13_method_25_code
def yX11_now : MethodName := ⟨RX11, "now", "(I)I"⟩
abbrev cX11_notes : ByteArray := prog_13_method_26_code
def yX11_notes : MethodName := ⟨RX11, "notes", "()V"⟩
abbrev cX11_passes : ByteArray := prog_13_method_27_code
def yX11_passes : MethodName := ⟨RX11, "passes", "(II)I"⟩
abbrev cX11_teaches : ByteArray := prog_13_method_28_code
def yX11_teaches : MethodName := ⟨RX11, "teaches", "(II)I"⟩
abbrev cX11_sends : ByteArray := prog_13_method_29_code
def yX11_sends : MethodName := ⟨RX11, "sends", "(II)I"⟩
abbrev cX11_undo : ByteArray := prog_13_method_30_code
def yX11_undo : MethodName := ⟨RX11, "undo", "()I"⟩
abbrev cX11_passings : ByteArray := prog_13_method_31_code
def yX11_passings : MethodName := ⟨RX11, "passings", "(II)I"⟩
abbrev cX11_soonest : ByteArray := prog_13_method_32_code
def yX11_soonest : MethodName := ⟨RX11, "soonest", "(II)I"⟩
abbrev cX11_till : ByteArray := prog_13_method_33_code
def yX11_till : MethodName := ⟨RX11, "till", "(I)I"⟩
abbrev cX11_gcd : ByteArray := prog_13_method_34_code
def yX11_gcd : MethodName := ⟨RX11, "gcd", "(II)I"⟩
abbrev cX11_odds : ByteArray := prog_13_method_35_code
def yX11_odds : MethodName := ⟨RX11, "odds", "(III)I"⟩
abbrev cX11_saw : ByteArray := prog_13_method_36_code
def yX11_saw : MethodName := ⟨RX11, "saw", "(II)I"⟩
abbrev cX11_mayBe : ByteArray := prog_13_method_37_code
def yX11_mayBe : MethodName := ⟨RX11, "mayBe", "(II)Z"⟩
abbrev cX11_canBe : ByteArray := prog_13_method_38_code
def yX11_canBe : MethodName := ⟨RX11, "canBe", "(I)I"⟩
abbrev cX11_show : ByteArray := prog_13_method_39_code
def yX11_show : MethodName := ⟨RX11, "show", "()I"⟩
abbrev cX11_hears : ByteArray := prog_13_method_40_code
def yX11_hears : MethodName := ⟨RX11, "hears", "(II)I"⟩
abbrev cX11_forget : ByteArray := prog_13_method_41_code
def yX11_forget : MethodName := ⟨RX11, "forget", "()I"⟩
abbrev cX11_years : ByteArray := prog_13_method_42_code
def yX11_years : MethodName := ⟨RX11, "years", "()I"⟩
abbrev cX11_worthOf : ByteArray := prog_13_method_43_code
def yX11_worthOf : MethodName := ⟨RX11, "worthOf", "(IZ)I"⟩
abbrev cX11_letIn : ByteArray := prog_13_method_44_code
def yX11_letIn : MethodName := ⟨RX11, "letIn", "(I)I"⟩
abbrev cX11_rate : ByteArray := prog_13_method_45_code
def yX11_rate : MethodName := ⟨RX11, "rate", "(II)I"⟩
abbrev cX11_keep : ByteArray := prog_13_method_46_code
def yX11_keep : MethodName := ⟨RX11, "keep", "(I)I"⟩
abbrev cX11_back : ByteArray := prog_13_method_47_code
def yX11_back : MethodName := ⟨RX11, "back", "(I)I"⟩
abbrev cX11_count : ByteArray := prog_13_method_48_code
def yX11_count : MethodName := ⟨RX11, "count", "(I)I"⟩
abbrev cX11_trace : ByteArray := prog_13_method_49_code
def yX11_trace : MethodName := ⟨RX11, "trace", "()J"⟩
def RJ6 : String := "java/lang/Integer"
def TJ6 : u_T := fun k => match k with
  | _ => ("", "", "", false)
def tyJ6 : Nat → FieldType := fun k => match k with
  | _ => .int
abbrev wsJ60 : List Cond := u_ws RJ6 TJ6 0
theorem nmJ6 : ∀ a, a < 0 → ∀ b, b < 0 → a ≠ b → (TJ6 a).2.1 ≠ (TJ6 b).2.1 := by decide +kernel
theorem tyJ6_ok : ∀ k, k < 0 → parseFieldDescriptor (TJ6 k).2.2.1 = some (tyJ6 k) := by decide +kernel
abbrev cJ6_bitCount_0f7a4 : ByteArray := prog_14_method_49_code
def yJ6_bitCount_0f7a4 : MethodName := ⟨RJ6, "bitCount", "(I)I"⟩
def RJ9 : String := "java/lang/Math"
def TJ9 : u_T := fun k => match k with
  | _ => ("", "", "", false)
def tyJ9 : Nat → FieldType := fun k => match k with
  | _ => .int
abbrev wsJ90 : List Cond := u_ws RJ9 TJ9 0
theorem nmJ9 : ∀ a, a < 0 → ∀ b, b < 0 → a ≠ b → (TJ9 a).2.1 ≠ (TJ9 b).2.1 := by decide +kernel
theorem tyJ9_ok : ∀ k, k < 0 → parseFieldDescriptor (TJ9 k).2.2.1 = some (tyJ9 k) := by decide +kernel
abbrev cJ9_max_7cf53 : ByteArray := prog_15_method_65_code
def yJ9_max_7cf53 : MethodName := ⟨RJ9, "max", "(II)I"⟩
abbrev cJ9_min_7cf53 : ByteArray := prog_15_method_69_code
def yJ9_min_7cf53 : MethodName := ⟨RJ9, "min", "(II)I"⟩
def RJ10 : String := "java/lang/System"
def TJ10 : u_T := fun k => match k with
  | _ => ("", "", "", false)
def tyJ10 : Nat → FieldType := fun k => match k with
  | _ => .int
abbrev wsJ100 : List Cond := u_ws RJ10 TJ10 0
theorem nmJ10 : ∀ a, a < 0 → ∀ b, b < 0 → a ≠ b → (TJ10 a).2.1 ≠ (TJ10 b).2.1 := by decide +kernel
theorem tyJ10_ok : ∀ k, k < 0 → parseFieldDescriptor (TJ10 k).2.2.1 = some (tyJ10 k) := by decide +kernel
def RL : String := "FalseParityLaw"
abbrev cL_law : ByteArray := code
abbrev vwCl : List vw_C := [(RX0, TX0, 5), (RX1, TX1, 8), (RX2, TX2, 3), (RX3, TX3, 2), (RX4, TX4, 3), (RX5, TX5, 5), (RX6, TX6, 1), (RX7, TX7, 2), (RX8, TX8, 7), (RX9, TX9, 2), (RX10, TX10, 10), (RX11, TX11, 28)]
end
section
def gw : List Cond := lw_tbl.filter goodWord
def isNest : Cond → Bool
  | .fieldLinkNest .. => true
  | .methodLinkNest .. => true
  | _ => false
def nwl : List Cond := lw_tbl.filter isNest
theorem wmi {w : Cond} (i : Nat) (h : lw_tbl[i]? = some w) (g : goodWord w = true) : w ∈ gw := List.mem_filter.mpr ⟨List.mem_of_getElem? h, g⟩
theorem wni {w : Cond} (i : Nat) (h : lw_tbl[i]? = some w) (g : isNest w = true) : w ∈ nwl := List.mem_filter.mpr ⟨List.mem_of_getElem? h, g⟩
theorem wm_0 : Cond.selects "FalseParity$Reader" ({ cls := "FalseParity$Reader", name := "begin", desc := "()V" } : MethodName) ({ cls := "FalseParity$Reader", name := "begin", desc := "()V" } : MethodName) ∈ gw := wmi 0 (by decide +kernel) rfl
theorem wm_1 : Cond.selects "FalseParity$Reader" ({ cls := "FalseParity$Reader", name := "beginsToken", desc := "(I)Z" } : MethodName) ({ cls := "FalseParity$Reader", name := "beginsToken", desc := "(I)Z" } : MethodName) ∈ gw := wmi 1 (by decide +kernel) rfl
theorem wm_2 : Cond.selects "FalseParity$Reader" ({ cls := "FalseParity$Reader", name := "accepts", desc := "(I)Z" } : MethodName) ({ cls := "FalseParity$Reader", name := "accepts", desc := "(I)Z" } : MethodName) ∈ gw := wmi 2 (by decide +kernel) rfl
theorem wm_3 : Cond.selects "FalseParity$Reader" ({ cls := "FalseParity$Reader", name := "beginsItem", desc := "(I)Z" } : MethodName) ({ cls := "FalseParity$Reader", name := "beginsItem", desc := "(I)Z" } : MethodName) ∈ gw := wmi 3 (by decide +kernel) rfl
theorem wm_4 : Cond.selects "FalseParity$Reader" ({ cls := "FalseParity$Reader", name := "canBegin", desc := "(I)Z" } : MethodName) ({ cls := "FalseParity$Reader", name := "canBegin", desc := "(I)Z" } : MethodName) ∈ gw := wmi 4 (by decide +kernel) rfl
theorem wm_5 : Cond.selects "FalseParity$Reader" ({ cls := "FalseParity$Reader", name := "numbersOfItem", desc := "()I" } : MethodName) ({ cls := "FalseParity$Reader", name := "numbersOfItem", desc := "()I" } : MethodName) ∈ gw := wmi 5 (by decide +kernel) rfl
theorem wm_6 : Cond.selects "FalseParity$Reader" ({ cls := "FalseParity$Reader", name := "numberAt", desc := "(I)I" } : MethodName) ({ cls := "FalseParity$Reader", name := "numberAt", desc := "(I)I" } : MethodName) ∈ gw := wmi 6 (by decide +kernel) rfl
theorem wm_7 : Cond.selects "FalseParity$Reader" ({ cls := "FalseParity$Reader", name := "acceptsNumber", desc := "(I)Z" } : MethodName) ({ cls := "FalseParity$Reader", name := "acceptsNumber", desc := "(I)Z" } : MethodName) ∈ gw := wmi 7 (by decide +kernel) rfl
theorem wm_8 : Cond.selects "FalseParity$Reader" ({ cls := "FalseParity$Reader", name := "leastNumber", desc := "()I" } : MethodName) ({ cls := "FalseParity$Reader", name := "leastNumber", desc := "()I" } : MethodName) ∈ gw := wmi 8 (by decide +kernel) rfl
theorem wm_9 : Cond.selects "FalseParity$Reader" ({ cls := "FalseParity$Reader", name := "mostNumber", desc := "()I" } : MethodName) ({ cls := "FalseParity$Reader", name := "mostNumber", desc := "()I" } : MethodName) ∈ gw := wmi 9 (by decide +kernel) rfl
theorem wm_10 : Cond.selects "FalseParity$Reader" ({ cls := "FalseParity$Reader", name := "mostOfNote", desc := "()I" } : MethodName) ({ cls := "FalseParity$Reader", name := "mostOfNote", desc := "()I" } : MethodName) ∈ gw := wmi 10 (by decide +kernel) rfl
theorem wm_11 : Cond.selects "FalseParity$Reader" ({ cls := "FalseParity$Reader", name := "store", desc := "(I)V" } : MethodName) ({ cls := "FalseParity$Reader", name := "store", desc := "(I)V" } : MethodName) ∈ gw := wmi 11 (by decide +kernel) rfl
theorem wm_12 : Cond.selects "FalseParity$Reader" ({ cls := "FalseParity$Reader", name := "storeOfNote", desc := "(II)V" } : MethodName) ({ cls := "FalseParity$Reader", name := "storeOfNote", desc := "(II)V" } : MethodName) ∈ gw := wmi 12 (by decide +kernel) rfl
theorem wm_13 : Cond.selects "FalseParity$Reader" ({ cls := "FalseParity$Reader", name := "endsItem", desc := "()Z" } : MethodName) ({ cls := "FalseParity$Reader", name := "endsItem", desc := "()Z" } : MethodName) ∈ gw := wmi 13 (by decide +kernel) rfl
theorem wm_14 : Cond.selects "FalseParity$Paths" ({ cls := "FalseParity$Paths", name := "takersByLooks", desc := "(I)I" } : MethodName) ({ cls := "FalseParity$Paths", name := "takersByLooks", desc := "(I)I" } : MethodName) ∈ gw := wmi 14 (by decide +kernel) rfl
theorem wm_15 : Cond.selects "FalseParity" ({ cls := "FalseParity", name := "purse", desc := "(I)I" } : MethodName) ({ cls := "FalseParity", name := "purse", desc := "(I)I" } : MethodName) ∈ gw := wmi 15 (by decide +kernel) rfl
theorem wm_16 : Cond.selects "FalseParity$Board" ({ cls := "FalseParity$Board", name := "falseNotes", desc := "()I" } : MethodName) ({ cls := "FalseParity$Board", name := "falseNotes", desc := "()I" } : MethodName) ∈ gw := wmi 16 (by decide +kernel) rfl
theorem wm_17 : Cond.selects "FalseParity$Paths" ({ cls := "FalseParity$Paths", name := "choices", desc := "(II)I" } : MethodName) ({ cls := "FalseParity$Paths", name := "choices", desc := "(II)I" } : MethodName) ∈ gw := wmi 17 (by decide +kernel) rfl
theorem wm_18 : Cond.selects "FalseParity$Paths" ({ cls := "FalseParity$Paths", name := "hasParityBehind", desc := "(II)Z" } : MethodName) ({ cls := "FalseParity$Paths", name := "hasParityBehind", desc := "(II)Z" } : MethodName) ∈ gw := wmi 18 (by decide +kernel) rfl
theorem wm_19 : Cond.selects "FalseParity$Paths" ({ cls := "FalseParity$Paths", name := "lowestOther", desc := "(II)I" } : MethodName) ({ cls := "FalseParity$Paths", name := "lowestOther", desc := "(II)I" } : MethodName) ∈ gw := wmi 19 (by decide +kernel) rfl
theorem wm_20 : Cond.selects "FalseParity$Marks" ({ cls := "FalseParity$Marks", name := "fits", desc := "(I)Z" } : MethodName) ({ cls := "FalseParity$Marks", name := "fits", desc := "(I)Z" } : MethodName) ∈ gw := wmi 20 (by decide +kernel) rfl
theorem wm_21 : Cond.selects "FalseParity$Marks" ({ cls := "FalseParity$Marks", name := "wouldTake", desc := "(II)I" } : MethodName) ({ cls := "FalseParity$Marks", name := "wouldTake", desc := "(II)I" } : MethodName) ∈ gw := wmi 21 (by decide +kernel) rfl
theorem wm_22 : Cond.selects "FalseParity$Marks" ({ cls := "FalseParity$Marks", name := "howManyTakenBy", desc := "(I)I" } : MethodName) ({ cls := "FalseParity$Marks", name := "howManyTakenBy", desc := "(I)I" } : MethodName) ∈ gw := wmi 22 (by decide +kernel) rfl
theorem wm_23 : Cond.selects "FalseParity$Board" ({ cls := "FalseParity$Board", name := "fits", desc := "(I)Z" } : MethodName) ({ cls := "FalseParity$Board", name := "fits", desc := "(I)Z" } : MethodName) ∈ gw := wmi 23 (by decide +kernel) rfl
theorem wm_24 : Cond.selects "FalseParity$Board" ({ cls := "FalseParity$Board", name := "isBetter", desc := "(II)Z" } : MethodName) ({ cls := "FalseParity$Board", name := "isBetter", desc := "(II)Z" } : MethodName) ∈ gw := wmi 24 (by decide +kernel) rfl
theorem wm_25 : Cond.selects "FalseParity$Kinds" ({ cls := "FalseParity$Kinds", name := "asNote", desc := "(I)I" } : MethodName) ({ cls := "FalseParity$Kinds", name := "asNote", desc := "(I)I" } : MethodName) ∈ gw := wmi 25 (by decide +kernel) rfl
theorem wm_26 : Cond.selects "FalseParity$Kinds" ({ cls := "FalseParity$Kinds", name := "asTwenty", desc := "(I)I" } : MethodName) ({ cls := "FalseParity$Kinds", name := "asTwenty", desc := "(I)I" } : MethodName) ∈ gw := wmi 26 (by decide +kernel) rfl
theorem wm_27 : Cond.selects "FalseParity$Kinds" ({ cls := "FalseParity$Kinds", name := "asQueen", desc := "(I)I" } : MethodName) ({ cls := "FalseParity$Kinds", name := "asQueen", desc := "(I)I" } : MethodName) ∈ gw := wmi 27 (by decide +kernel) rfl
theorem wm_28 : Cond.selects "FalseParity$Kinds" ({ cls := "FalseParity$Kinds", name := "asAccent", desc := "(I)I" } : MethodName) ({ cls := "FalseParity$Kinds", name := "asAccent", desc := "(I)I" } : MethodName) ∈ gw := wmi 28 (by decide +kernel) rfl
theorem wm_29 : Cond.selects "FalseParity$Kinds" ({ cls := "FalseParity$Kinds", name := "asNose", desc := "(I)I" } : MethodName) ({ cls := "FalseParity$Kinds", name := "asNose", desc := "(I)I" } : MethodName) ∈ gw := wmi 29 (by decide +kernel) rfl
theorem wm_30 : Cond.selects "FalseParity$Kinds" ({ cls := "FalseParity$Kinds", name := "asPaper", desc := "(I)I" } : MethodName) ({ cls := "FalseParity$Kinds", name := "asPaper", desc := "(I)I" } : MethodName) ∈ gw := wmi 30 (by decide +kernel) rfl
theorem wm_31 : Cond.selects "FalseParityModel" ({ cls := "FalseParityModel", name := "begins", desc := "()V" } : MethodName) ({ cls := "FalseParityModel", name := "begins", desc := "()V" } : MethodName) ∈ gw := wmi 31 (by decide +kernel) rfl
theorem wm_32 : Cond.selects "FalseParityModel" ({ cls := "FalseParityModel", name := "settles", desc := "()V" } : MethodName) ({ cls := "FalseParityModel", name := "settles", desc := "()V" } : MethodName) ∈ gw := wmi 32 (by decide +kernel) rfl
theorem wm_33 : Cond.selects "FalseParityModel" ({ cls := "FalseParityModel", name := "advances", desc := "()V" } : MethodName) ({ cls := "FalseParityModel", name := "advances", desc := "()V" } : MethodName) ∈ gw := wmi 33 (by decide +kernel) rfl
theorem wm_34 : Cond.selects "FalseParityModel" ({ cls := "FalseParityModel", name := "letterAt", desc := "(I)I" } : MethodName) ({ cls := "FalseParityModel", name := "letterAt", desc := "(I)I" } : MethodName) ∈ gw := wmi 34 (by decide +kernel) rfl
theorem wm_35 : Cond.selects "FalseParityModel" ({ cls := "FalseParityModel", name := "isWell", desc := "()Z" } : MethodName) ({ cls := "FalseParityModel", name := "isWell", desc := "()Z" } : MethodName) ∈ gw := wmi 35 (by decide +kernel) rfl
theorem wm_36 : Cond.selects "FalseParityModel" ({ cls := "FalseParityModel", name := "mayBegin", desc := "()Z" } : MethodName) ({ cls := "FalseParityModel", name := "mayBegin", desc := "()Z" } : MethodName) ∈ gw := wmi 36 (by decide +kernel) rfl
theorem wm_37 : Cond.selects "FalseParityModel" ({ cls := "FalseParityModel", name := "takes", desc := "(Z)I" } : MethodName) ({ cls := "FalseParityModel", name := "takes", desc := "(Z)I" } : MethodName) ∈ gw := wmi 37 (by decide +kernel) rfl
theorem wm_38 : Cond.selects "FalseParityModel" ({ cls := "FalseParityModel", name := "readsItem", desc := "(I)V" } : MethodName) ({ cls := "FalseParityModel", name := "readsItem", desc := "(I)V" } : MethodName) ∈ gw := wmi 38 (by decide +kernel) rfl
theorem wm_39 : Cond.selects "FalseParityModel" ({ cls := "FalseParityModel", name := "number", desc := "(II)I" } : MethodName) ({ cls := "FalseParityModel", name := "number", desc := "(II)I" } : MethodName) ∈ gw := wmi 39 (by decide +kernel) rfl
theorem wm_40 : Cond.selects "FalseParityModel" ({ cls := "FalseParityModel", name := "isNote", desc := "(I)Z" } : MethodName) ({ cls := "FalseParityModel", name := "isNote", desc := "(I)Z" } : MethodName) ∈ gw := wmi 40 (by decide +kernel) rfl
theorem wm_41 : Cond.selects "FalseParityModel" ({ cls := "FalseParityModel", name := "hasParity", desc := "(I)Z" } : MethodName) ({ cls := "FalseParityModel", name := "hasParity", desc := "(I)Z" } : MethodName) ∈ gw := wmi 41 (by decide +kernel) rfl
theorem wm_42 : Cond.selects "FalseParityModel" ({ cls := "FalseParityModel", name := "takers", desc := "(IZ)I" } : MethodName) ({ cls := "FalseParityModel", name := "takers", desc := "(IZ)I" } : MethodName) ∈ gw := wmi 42 (by decide +kernel) rfl
theorem wm_43 : Cond.selects "FalseParityModel" ({ cls := "FalseParityModel", name := "isPerson", desc := "(I)Z" } : MethodName) ({ cls := "FalseParityModel", name := "isPerson", desc := "(I)Z" } : MethodName) ∈ gw := wmi 43 (by decide +kernel) rfl
theorem wm_44 : Cond.selects "FalseParityModel" ({ cls := "FalseParityModel", name := "isAway", desc := "(I)Z" } : MethodName) ({ cls := "FalseParityModel", name := "isAway", desc := "(I)Z" } : MethodName) ∈ gw := wmi 44 (by decide +kernel) rfl
theorem wm_45 : Cond.selects "FalseParityModel" ({ cls := "FalseParityModel", name := "worthOfAll", desc := "(Z)I" } : MethodName) ({ cls := "FalseParityModel", name := "worthOfAll", desc := "(Z)I" } : MethodName) ∈ gw := wmi 45 (by decide +kernel) rfl
theorem wm_46 : Cond.selects "FalseParityModel" ({ cls := "FalseParityModel", name := "notes", desc := "()V" } : MethodName) ({ cls := "FalseParityModel", name := "notes", desc := "()V" } : MethodName) ∈ gw := wmi 46 (by decide +kernel) rfl
theorem wm_47 : Cond.selects "FalseParityModel" ({ cls := "FalseParityModel", name := "mayBe", desc := "(II)Z" } : MethodName) ({ cls := "FalseParityModel", name := "mayBe", desc := "(II)Z" } : MethodName) ∈ gw := wmi 47 (by decide +kernel) rfl
theorem wm_48 : Cond.selects "FalseParityModel" ({ cls := "FalseParityModel", name := "worthOf", desc := "(IZ)I" } : MethodName) ({ cls := "FalseParityModel", name := "worthOf", desc := "(IZ)I" } : MethodName) ∈ gw := wmi 48 (by decide +kernel) rfl
theorem wm_49 : Cond.initialized "FalseParityLaw" ∈ gw := wmi 49 (by decide +kernel) rfl
theorem wm_50 : Cond.initialized "FalseParity" ∈ gw := wmi 50 (by decide +kernel) rfl
theorem wm_51 : Cond.initialized "FalseParity$Text" ∈ gw := wmi 51 (by decide +kernel) rfl
theorem wm_52 : Cond.initialized "FalseParity$Reader" ∈ gw := wmi 52 (by decide +kernel) rfl
theorem wm_53 : Cond.initialized "FalseParity$Country" ∈ gw := wmi 53 (by decide +kernel) rfl
theorem wm_54 : Cond.initialized "FalseParity$Now" ∈ gw := wmi 54 (by decide +kernel) rfl
theorem wm_55 : Cond.initialized "FalseParity$History" ∈ gw := wmi 55 (by decide +kernel) rfl
theorem wm_56 : Cond.initialized "FalseParity$Images" ∈ gw := wmi 56 (by decide +kernel) rfl
theorem wm_57 : Cond.initialized "FalseParity$Paths" ∈ gw := wmi 57 (by decide +kernel) rfl
theorem wm_58 : Cond.initialized "FalseParity$Marks" ∈ gw := wmi 58 (by decide +kernel) rfl
theorem wm_59 : Cond.initialized "FalseParity$Board" ∈ gw := wmi 59 (by decide +kernel) rfl
theorem wm_60 : Cond.initialized "FalseParity$Kinds" ∈ gw := wmi 60 (by decide +kernel) rfl
theorem wm_61 : Cond.initialized "FalseParityModel" ∈ gw := wmi 61 (by decide +kernel) rfl
theorem wm_62 : Cond.initialized "java/lang/Math" ∈ gw := wmi 62 (by decide +kernel) rfl
theorem wm_63 : Cond.initialized "java/lang/System" ∈ gw := wmi 63 (by decide +kernel) rfl
theorem wm_64 : Cond.initialized "java/lang/Integer" ∈ gw := wmi 64 (by decide +kernel) rfl
theorem wm_65 : Cond.classLink "FalseParityLaw" (7 : Nat) "FalseParity" ∈ gw := wmi 65 (by decide +kernel) rfl
theorem wm_66 : Cond.instantiable "FalseParity" (10 : Nat) ∈ gw := wmi 66 (by decide +kernel) rfl
theorem wm_67 : Cond.methodLink "FalseParityLaw" (9 : Nat) ({ cls := "FalseParity", name := "<init>", desc := "()V" } : MethodName) ∈ gw := wmi 67 (by decide +kernel) rfl
theorem wm_68 : Cond.instanceMethod ({ cls := "FalseParity", name := "<init>", desc := "()V" } : MethodName) ∈ gw := wmi 68 (by decide +kernel) rfl
theorem wm_69 : Cond.code ({ cls := "FalseParity", name := "<init>", desc := "()V" } : MethodName) prog_1_method_1_code (1 : Nat) (Option.none : Option FieldType) ∈ gw := wmi 69 (by decide +kernel) rfl
theorem wm_70 : Cond.methodLink "FalseParity" (1 : Nat) ({ cls := "java/lang/Object", name := "<init>", desc := "()V" } : MethodName) ∈ gw := wmi 70 (by decide +kernel) rfl
theorem wm_71 : Cond.instanceMethod ({ cls := "java/lang/Object", name := "<init>", desc := "()V" } : MethodName) ∈ gw := wmi 71 (by decide +kernel) rfl
theorem wm_72 : Cond.code ({ cls := "java/lang/Object", name := "<init>", desc := "()V" } : MethodName) object_method_1_code (1 : Nat) (Option.none : Option FieldType) ∈ gw := wmi 72 (by decide +kernel) rfl
theorem wm_73 : Cond.classLink "FalseParity" (7 : Nat) "FalseParity$Text" ∈ gw := wmi 73 (by decide +kernel) rfl
theorem wm_74 : Cond.instantiable "FalseParity$Text" (2 : Nat) ∈ gw := wmi 74 (by decide +kernel) rfl
theorem wn_75 : Cond.methodLinkNest "FalseParity" (9 : Nat) ({ cls := "FalseParity$Text", name := "<init>", desc := "()V" } : MethodName) "FalseParity" ∈ nwl := wni 75 (by decide +kernel) rfl
theorem wm_76 : Cond.instanceMethod ({ cls := "FalseParity$Text", name := "<init>", desc := "()V" } : MethodName) ∈ gw := wmi 76 (by decide +kernel) rfl
theorem wm_77 : Cond.code ({ cls := "FalseParity$Text", name := "<init>", desc := "()V" } : MethodName) prog_11_method_1_code (1 : Nat) (Option.none : Option FieldType) ∈ gw := wmi 77 (by decide +kernel) rfl
theorem wm_78 : Cond.methodLink "FalseParity$Text" (3 : Nat) ({ cls := "java/lang/Object", name := "<init>", desc := "()V" } : MethodName) ∈ gw := wmi 78 (by decide +kernel) rfl
theorem wm_79 : Cond.fieldLink "FalseParity$Text" (9 : Nat) "FalseParity$Text" "letters" "[I" ∈ gw := wmi 79 (by decide +kernel) rfl
theorem wn_80 : Cond.fieldLinkNest "FalseParity$Reader" (60 : Nat) "FalseParity$Text" "letters" "[I" "FalseParity" ∈ nwl := wni 80 (by decide +kernel) rfl
theorem wm_81 : Cond.fieldLink "FalseParity$Text" (15 : Nat) "FalseParity$Text" "length" "I" ∈ gw := wmi 81 (by decide +kernel) rfl
theorem wn_82 : Cond.fieldLinkNest "FalseParity$Reader" (25 : Nat) "FalseParity$Text" "length" "I" "FalseParity" ∈ nwl := wni 82 (by decide +kernel) rfl
theorem wn_83 : Cond.fieldLinkNest "FalseParity" (282 : Nat) "FalseParity$Text" "length" "I" "FalseParity" ∈ nwl := wni 83 (by decide +kernel) rfl
theorem wm_84 : Cond.laysFinal "FalseParity$Text" "FalseParity$Text" "letters" "[I" ∈ gw := wmi 84 (by decide +kernel) rfl
theorem wm_86 : Cond.lays "FalseParity$Text" "FalseParity$Text" "length" "I" ∈ gw := wmi 86 (by decide +kernel) rfl
theorem wm_89 : Cond.arrayClass FieldType.int ∈ gw := wmi 89 (by decide +kernel) rfl
theorem wm_90 : Cond.classLink "FalseParity" (16 : Nat) "FalseParity$Reader" ∈ gw := wmi 90 (by decide +kernel) rfl
theorem wm_91 : Cond.instantiable "FalseParity$Reader" (7 : Nat) ∈ gw := wmi 91 (by decide +kernel) rfl
theorem wm_92 : Cond.methodLink "FalseParity" (18 : Nat) ({ cls := "FalseParity$Reader", name := "<init>", desc := "(LFalseParity$Text;)V" } : MethodName) ∈ gw := wmi 92 (by decide +kernel) rfl
theorem wm_93 : Cond.instanceMethod ({ cls := "FalseParity$Reader", name := "<init>", desc := "(LFalseParity$Text;)V" } : MethodName) ∈ gw := wmi 93 (by decide +kernel) rfl
theorem wm_94 : Cond.code ({ cls := "FalseParity$Reader", name := "<init>", desc := "(LFalseParity$Text;)V" } : MethodName) prog_10_method_1_code (2 : Nat) (Option.none : Option FieldType) ∈ gw := wmi 94 (by decide +kernel) rfl
theorem wm_95 : Cond.methodLink "FalseParity$Reader" (3 : Nat) ({ cls := "java/lang/Object", name := "<init>", desc := "()V" } : MethodName) ∈ gw := wmi 95 (by decide +kernel) rfl
theorem wm_96 : Cond.classLink "FalseParity$Reader" (9 : Nat) "FalseParity$Country" ∈ gw := wmi 96 (by decide +kernel) rfl
theorem wm_97 : Cond.instantiable "FalseParity$Country" (8 : Nat) ∈ gw := wmi 97 (by decide +kernel) rfl
theorem wn_98 : Cond.methodLinkNest "FalseParity$Reader" (11 : Nat) ({ cls := "FalseParity$Country", name := "<init>", desc := "()V" } : MethodName) "FalseParity" ∈ nwl := wni 98 (by decide +kernel) rfl
theorem wm_99 : Cond.instanceMethod ({ cls := "FalseParity$Country", name := "<init>", desc := "()V" } : MethodName) ∈ gw := wmi 99 (by decide +kernel) rfl
theorem wm_100 : Cond.code ({ cls := "FalseParity$Country", name := "<init>", desc := "()V" } : MethodName) prog_3_method_1_code (1 : Nat) (Option.none : Option FieldType) ∈ gw := wmi 100 (by decide +kernel) rfl
theorem wm_101 : Cond.methodLink "FalseParity$Country" (3 : Nat) ({ cls := "java/lang/Object", name := "<init>", desc := "()V" } : MethodName) ∈ gw := wmi 101 (by decide +kernel) rfl
theorem wm_102 : Cond.fieldLink "FalseParity$Country" (9 : Nat) "FalseParity$Country" "looks" "[I" ∈ gw := wmi 102 (by decide +kernel) rfl
theorem wn_103 : Cond.fieldLinkNest "FalseParity$Now" (26 : Nat) "FalseParity$Country" "looks" "[I" "FalseParity" ∈ nwl := wni 103 (by decide +kernel) rfl
theorem wn_104 : Cond.fieldLinkNest "FalseParity$Reader" (110 : Nat) "FalseParity$Country" "looks" "[I" "FalseParity" ∈ nwl := wni 104 (by decide +kernel) rfl
theorem wm_105 : Cond.fieldLink "FalseParity$Country" (15 : Nat) "FalseParity$Country" "worth" "[I" ∈ gw := wmi 105 (by decide +kernel) rfl
theorem wn_106 : Cond.fieldLinkNest "FalseParity$Kinds" (43 : Nat) "FalseParity$Country" "worth" "[I" "FalseParity" ∈ nwl := wni 106 (by decide +kernel) rfl
theorem wn_107 : Cond.fieldLinkNest "FalseParity" (113 : Nat) "FalseParity$Country" "worth" "[I" "FalseParity" ∈ nwl := wni 107 (by decide +kernel) rfl
theorem wn_108 : Cond.fieldLinkNest "FalseParity$Board" (56 : Nat) "FalseParity$Country" "worth" "[I" "FalseParity" ∈ nwl := wni 108 (by decide +kernel) rfl
theorem wn_109 : Cond.fieldLinkNest "FalseParity$Reader" (123 : Nat) "FalseParity$Country" "worth" "[I" "FalseParity" ∈ nwl := wni 109 (by decide +kernel) rfl
theorem wm_110 : Cond.fieldLink "FalseParity$Country" (18 : Nat) "FalseParity$Country" "marks" "[I" ∈ gw := wmi 110 (by decide +kernel) rfl
theorem wn_111 : Cond.fieldLinkNest "FalseParity$Kinds" (58 : Nat) "FalseParity$Country" "marks" "[I" "FalseParity" ∈ nwl := wni 111 (by decide +kernel) rfl
theorem wn_112 : Cond.fieldLinkNest "FalseParity" (117 : Nat) "FalseParity$Country" "marks" "[I" "FalseParity" ∈ nwl := wni 112 (by decide +kernel) rfl
theorem wn_113 : Cond.fieldLinkNest "FalseParity$Paths" (69 : Nat) "FalseParity$Country" "marks" "[I" "FalseParity" ∈ nwl := wni 113 (by decide +kernel) rfl
theorem wn_114 : Cond.fieldLinkNest "FalseParity$Reader" (126 : Nat) "FalseParity$Country" "marks" "[I" "FalseParity" ∈ nwl := wni 114 (by decide +kernel) rfl
theorem wm_115 : Cond.fieldLink "FalseParity$Country" (21 : Nat) "FalseParity$Country" "holders" "[I" ∈ gw := wmi 115 (by decide +kernel) rfl
theorem wn_116 : Cond.fieldLinkNest "FalseParity$Now" (15 : Nat) "FalseParity$Country" "holders" "[I" "FalseParity" ∈ nwl := wni 116 (by decide +kernel) rfl
theorem wn_117 : Cond.fieldLinkNest "FalseParity$Reader" (129 : Nat) "FalseParity$Country" "holders" "[I" "FalseParity" ∈ nwl := wni 117 (by decide +kernel) rfl
theorem wm_118 : Cond.fieldLink "FalseParity$Country" (31 : Nat) "FalseParity$Country" "people" "I" ∈ gw := wmi 118 (by decide +kernel) rfl
theorem wn_119 : Cond.fieldLinkNest "FalseParity$Paths" (25 : Nat) "FalseParity$Country" "people" "I" "FalseParity" ∈ nwl := wni 119 (by decide +kernel) rfl
theorem wn_120 : Cond.fieldLinkNest "FalseParity$Marks" (38 : Nat) "FalseParity$Country" "people" "I" "FalseParity" ∈ nwl := wni 120 (by decide +kernel) rfl
theorem wn_121 : Cond.fieldLinkNest "FalseParity$Reader" (85 : Nat) "FalseParity$Country" "people" "I" "FalseParity" ∈ nwl := wni 121 (by decide +kernel) rfl
theorem wn_122 : Cond.fieldLinkNest "FalseParity" (273 : Nat) "FalseParity$Country" "people" "I" "FalseParity" ∈ nwl := wni 122 (by decide +kernel) rfl
theorem wm_123 : Cond.fieldLink "FalseParity$Country" (34 : Nat) "FalseParity$Country" "notes" "I" ∈ gw := wmi 123 (by decide +kernel) rfl
theorem wn_124 : Cond.fieldLinkNest "FalseParity$Reader" (88 : Nat) "FalseParity$Country" "notes" "I" "FalseParity" ∈ nwl := wni 124 (by decide +kernel) rfl
theorem wn_125 : Cond.fieldLinkNest "FalseParity$Board" (47 : Nat) "FalseParity$Country" "notes" "I" "FalseParity" ∈ nwl := wni 125 (by decide +kernel) rfl
theorem wn_126 : Cond.fieldLinkNest "FalseParity" (276 : Nat) "FalseParity$Country" "notes" "I" "FalseParity" ∈ nwl := wni 126 (by decide +kernel) rfl
theorem wm_127 : Cond.fieldLink "FalseParity$Country" (24 : Nat) "FalseParity$Country" "board" "I" ∈ gw := wmi 127 (by decide +kernel) rfl
theorem wn_128 : Cond.fieldLinkNest "FalseParity$Paths" (42 : Nat) "FalseParity$Country" "board" "I" "FalseParity" ∈ nwl := wni 128 (by decide +kernel) rfl
theorem wn_129 : Cond.fieldLinkNest "FalseParity" (181 : Nat) "FalseParity$Country" "board" "I" "FalseParity" ∈ nwl := wni 129 (by decide +kernel) rfl
theorem wn_130 : Cond.fieldLinkNest "FalseParity$Reader" (117 : Nat) "FalseParity$Country" "board" "I" "FalseParity" ∈ nwl := wni 130 (by decide +kernel) rfl
theorem wm_131 : Cond.fieldLink "FalseParity$Country" (28 : Nat) "FalseParity$Country" "share" "I" ∈ gw := wmi 131 (by decide +kernel) rfl
theorem wn_132 : Cond.fieldLinkNest "FalseParity$Board" (62 : Nat) "FalseParity$Country" "share" "I" "FalseParity" ∈ nwl := wni 132 (by decide +kernel) rfl
theorem wn_133 : Cond.fieldLinkNest "FalseParity$Reader" (120 : Nat) "FalseParity$Country" "share" "I" "FalseParity" ∈ nwl := wni 133 (by decide +kernel) rfl
theorem wn_134 : Cond.fieldLinkNest "FalseParity" (279 : Nat) "FalseParity$Country" "share" "I" "FalseParity" ∈ nwl := wni 134 (by decide +kernel) rfl
theorem wm_135 : Cond.laysFinal "FalseParity$Country" "FalseParity$Country" "looks" "[I" ∈ gw := wmi 135 (by decide +kernel) rfl
theorem wm_137 : Cond.laysFinal "FalseParity$Country" "FalseParity$Country" "worth" "[I" ∈ gw := wmi 137 (by decide +kernel) rfl
theorem wm_139 : Cond.laysFinal "FalseParity$Country" "FalseParity$Country" "marks" "[I" ∈ gw := wmi 139 (by decide +kernel) rfl
theorem wm_141 : Cond.laysFinal "FalseParity$Country" "FalseParity$Country" "holders" "[I" ∈ gw := wmi 141 (by decide +kernel) rfl
theorem wm_143 : Cond.lays "FalseParity$Country" "FalseParity$Country" "people" "I" ∈ gw := wmi 143 (by decide +kernel) rfl
theorem wm_145 : Cond.lays "FalseParity$Country" "FalseParity$Country" "notes" "I" ∈ gw := wmi 145 (by decide +kernel) rfl
theorem wm_147 : Cond.lays "FalseParity$Country" "FalseParity$Country" "board" "I" ∈ gw := wmi 147 (by decide +kernel) rfl
theorem wm_149 : Cond.lays "FalseParity$Country" "FalseParity$Country" "share" "I" ∈ gw := wmi 149 (by decide +kernel) rfl
theorem wm_152 : Cond.fieldLink "FalseParity$Reader" (18 : Nat) "FalseParity$Reader" "text" "LFalseParity$Text;" ∈ gw := wmi 152 (by decide +kernel) rfl
theorem wm_153 : Cond.fieldLink "FalseParity$Reader" (12 : Nat) "FalseParity$Reader" "draft" "LFalseParity$Country;" ∈ gw := wmi 153 (by decide +kernel) rfl
theorem wn_154 : Cond.fieldLinkNest "FalseParity" (94 : Nat) "FalseParity$Reader" "draft" "LFalseParity$Country;" "FalseParity" ∈ nwl := wni 154 (by decide +kernel) rfl
theorem wm_155 : Cond.fieldLink "FalseParity$Reader" (41 : Nat) "FalseParity$Reader" "items" "I" ∈ gw := wmi 155 (by decide +kernel) rfl
theorem wm_156 : Cond.fieldLink "FalseParity$Reader" (38 : Nat) "FalseParity$Reader" "item" "I" ∈ gw := wmi 156 (by decide +kernel) rfl
theorem wm_157 : Cond.fieldLink "FalseParity$Reader" (47 : Nat) "FalseParity$Reader" "numbers" "I" ∈ gw := wmi 157 (by decide +kernel) rfl
theorem wm_158 : Cond.fieldLink "FalseParity$Reader" (50 : Nat) "FalseParity$Reader" "boardTold" "Z" ∈ gw := wmi 158 (by decide +kernel) rfl
theorem wm_159 : Cond.fieldLink "FalseParity$Reader" (54 : Nat) "FalseParity$Reader" "shareTold" "Z" ∈ gw := wmi 159 (by decide +kernel) rfl
theorem wm_160 : Cond.laysFinal "FalseParity$Reader" "FalseParity$Reader" "text" "LFalseParity$Text;" ∈ gw := wmi 160 (by decide +kernel) rfl
theorem wm_162 : Cond.laysFinal "FalseParity$Reader" "FalseParity$Reader" "draft" "LFalseParity$Country;" ∈ gw := wmi 162 (by decide +kernel) rfl
theorem wm_164 : Cond.lays "FalseParity$Reader" "FalseParity$Reader" "items" "I" ∈ gw := wmi 164 (by decide +kernel) rfl
theorem wm_166 : Cond.lays "FalseParity$Reader" "FalseParity$Reader" "item" "I" ∈ gw := wmi 166 (by decide +kernel) rfl
theorem wm_168 : Cond.lays "FalseParity$Reader" "FalseParity$Reader" "numbers" "I" ∈ gw := wmi 168 (by decide +kernel) rfl
theorem wm_170 : Cond.lays "FalseParity$Reader" "FalseParity$Reader" "boardTold" "Z" ∈ gw := wmi 170 (by decide +kernel) rfl
theorem wm_172 : Cond.lays "FalseParity$Reader" "FalseParity$Reader" "shareTold" "Z" ∈ gw := wmi 172 (by decide +kernel) rfl
theorem wm_175 : Cond.classLink "FalseParity" (25 : Nat) "FalseParity$Country" ∈ gw := wmi 175 (by decide +kernel) rfl
theorem wn_176 : Cond.methodLinkNest "FalseParity" (27 : Nat) ({ cls := "FalseParity$Country", name := "<init>", desc := "()V" } : MethodName) "FalseParity" ∈ nwl := wni 176 (by decide +kernel) rfl
theorem wm_177 : Cond.classLink "FalseParity" (32 : Nat) "FalseParity$Now" ∈ gw := wmi 177 (by decide +kernel) rfl
theorem wm_178 : Cond.instantiable "FalseParity$Now" (1 : Nat) ∈ gw := wmi 178 (by decide +kernel) rfl
theorem wn_179 : Cond.methodLinkNest "FalseParity" (34 : Nat) ({ cls := "FalseParity$Now", name := "<init>", desc := "()V" } : MethodName) "FalseParity" ∈ nwl := wni 179 (by decide +kernel) rfl
theorem wm_180 : Cond.instanceMethod ({ cls := "FalseParity$Now", name := "<init>", desc := "()V" } : MethodName) ∈ gw := wmi 180 (by decide +kernel) rfl
theorem wm_181 : Cond.code ({ cls := "FalseParity$Now", name := "<init>", desc := "()V" } : MethodName) prog_8_method_1_code (1 : Nat) (Option.none : Option FieldType) ∈ gw := wmi 181 (by decide +kernel) rfl
theorem wm_182 : Cond.methodLink "FalseParity$Now" (5 : Nat) ({ cls := "java/lang/Object", name := "<init>", desc := "()V" } : MethodName) ∈ gw := wmi 182 (by decide +kernel) rfl
theorem wm_183 : Cond.fieldLink "FalseParity$Now" (11 : Nat) "FalseParity$Now" "row" "[I" ∈ gw := wmi 183 (by decide +kernel) rfl
theorem wm_184 : Cond.laysFinal "FalseParity$Now" "FalseParity$Now" "row" "[I" ∈ gw := wmi 184 (by decide +kernel) rfl
theorem wm_187 : Cond.classLink "FalseParity" (39 : Nat) "FalseParity$History" ∈ gw := wmi 187 (by decide +kernel) rfl
theorem wm_188 : Cond.instantiable "FalseParity$History" (3 : Nat) ∈ gw := wmi 188 (by decide +kernel) rfl
theorem wn_189 : Cond.methodLinkNest "FalseParity" (41 : Nat) ({ cls := "FalseParity$History", name := "<init>", desc := "()V" } : MethodName) "FalseParity" ∈ nwl := wni 189 (by decide +kernel) rfl
theorem wm_190 : Cond.instanceMethod ({ cls := "FalseParity$History", name := "<init>", desc := "()V" } : MethodName) ∈ gw := wmi 190 (by decide +kernel) rfl
theorem wm_191 : Cond.code ({ cls := "FalseParity$History", name := "<init>", desc := "()V" } : MethodName) prog_4_method_1_code (1 : Nat) (Option.none : Option FieldType) ∈ gw := wmi 191 (by decide +kernel) rfl
theorem wm_192 : Cond.methodLink "FalseParity$History" (3 : Nat) ({ cls := "java/lang/Object", name := "<init>", desc := "()V" } : MethodName) ∈ gw := wmi 192 (by decide +kernel) rfl
theorem wm_193 : Cond.fieldLink "FalseParity$History" (11 : Nat) "FalseParity$History" "rows" "[I" ∈ gw := wmi 193 (by decide +kernel) rfl
theorem wm_194 : Cond.fieldLink "FalseParity$History" (17 : Nat) "FalseParity$History" "next" "I" ∈ gw := wmi 194 (by decide +kernel) rfl
theorem wm_195 : Cond.fieldLink "FalseParity$History" (21 : Nat) "FalseParity$History" "known" "I" ∈ gw := wmi 195 (by decide +kernel) rfl
theorem wn_196 : Cond.fieldLinkNest "FalseParity" (158 : Nat) "FalseParity$History" "known" "I" "FalseParity" ∈ nwl := wni 196 (by decide +kernel) rfl
theorem wm_197 : Cond.laysFinal "FalseParity$History" "FalseParity$History" "rows" "[I" ∈ gw := wmi 197 (by decide +kernel) rfl
theorem wm_199 : Cond.lays "FalseParity$History" "FalseParity$History" "next" "I" ∈ gw := wmi 199 (by decide +kernel) rfl
theorem wm_201 : Cond.lays "FalseParity$History" "FalseParity$History" "known" "I" ∈ gw := wmi 201 (by decide +kernel) rfl
theorem wm_204 : Cond.classLink "FalseParity" (46 : Nat) "FalseParity$Images" ∈ gw := wmi 204 (by decide +kernel) rfl
theorem wm_205 : Cond.instantiable "FalseParity$Images" (2 : Nat) ∈ gw := wmi 205 (by decide +kernel) rfl
theorem wn_206 : Cond.methodLinkNest "FalseParity" (48 : Nat) ({ cls := "FalseParity$Images", name := "<init>", desc := "()V" } : MethodName) "FalseParity" ∈ nwl := wni 206 (by decide +kernel) rfl
theorem wm_207 : Cond.instanceMethod ({ cls := "FalseParity$Images", name := "<init>", desc := "()V" } : MethodName) ∈ gw := wmi 207 (by decide +kernel) rfl
theorem wm_208 : Cond.code ({ cls := "FalseParity$Images", name := "<init>", desc := "()V" } : MethodName) prog_5_method_1_code (1 : Nat) (Option.none : Option FieldType) ∈ gw := wmi 208 (by decide +kernel) rfl
theorem wm_209 : Cond.methodLink "FalseParity$Images" (3 : Nat) ({ cls := "java/lang/Object", name := "<init>", desc := "()V" } : MethodName) ∈ gw := wmi 209 (by decide +kernel) rfl
theorem wm_210 : Cond.fieldLink "FalseParity$Images" (11 : Nat) "FalseParity$Images" "rows" "[I" ∈ gw := wmi 210 (by decide +kernel) rfl
theorem wm_211 : Cond.fieldLink "FalseParity$Images" (17 : Nat) "FalseParity$Images" "stored" "I" ∈ gw := wmi 211 (by decide +kernel) rfl
theorem wm_212 : Cond.laysFinal "FalseParity$Images" "FalseParity$Images" "rows" "[I" ∈ gw := wmi 212 (by decide +kernel) rfl
theorem wm_214 : Cond.lays "FalseParity$Images" "FalseParity$Images" "stored" "I" ∈ gw := wmi 214 (by decide +kernel) rfl
theorem wm_217 : Cond.classLink "FalseParity" (53 : Nat) "FalseParity$Paths" ∈ gw := wmi 217 (by decide +kernel) rfl
theorem wm_218 : Cond.instantiable "FalseParity$Paths" (2 : Nat) ∈ gw := wmi 218 (by decide +kernel) rfl
theorem wm_219 : Cond.methodLink "FalseParity" (55 : Nat) ({ cls := "FalseParity$Paths", name := "<init>", desc := "(LFalseParity$Country;LFalseParity$Now;)V" } : MethodName) ∈ gw := wmi 219 (by decide +kernel) rfl
theorem wm_220 : Cond.instanceMethod ({ cls := "FalseParity$Paths", name := "<init>", desc := "(LFalseParity$Country;LFalseParity$Now;)V" } : MethodName) ∈ gw := wmi 220 (by decide +kernel) rfl
theorem wm_221 : Cond.code ({ cls := "FalseParity$Paths", name := "<init>", desc := "(LFalseParity$Country;LFalseParity$Now;)V" } : MethodName) prog_9_method_1_code (3 : Nat) (Option.none : Option FieldType) ∈ gw := wmi 221 (by decide +kernel) rfl
theorem wm_222 : Cond.methodLink "FalseParity$Paths" (3 : Nat) ({ cls := "java/lang/Object", name := "<init>", desc := "()V" } : MethodName) ∈ gw := wmi 222 (by decide +kernel) rfl
theorem wm_223 : Cond.fieldLink "FalseParity$Paths" (9 : Nat) "FalseParity$Paths" "told" "LFalseParity$Country;" ∈ gw := wmi 223 (by decide +kernel) rfl
theorem wm_224 : Cond.fieldLink "FalseParity$Paths" (15 : Nat) "FalseParity$Paths" "now" "LFalseParity$Now;" ∈ gw := wmi 224 (by decide +kernel) rfl
theorem wm_225 : Cond.laysFinal "FalseParity$Paths" "FalseParity$Paths" "told" "LFalseParity$Country;" ∈ gw := wmi 225 (by decide +kernel) rfl
theorem wm_227 : Cond.laysFinal "FalseParity$Paths" "FalseParity$Paths" "now" "LFalseParity$Now;" ∈ gw := wmi 227 (by decide +kernel) rfl
theorem wm_230 : Cond.classLink "FalseParity" (62 : Nat) "FalseParity$Marks" ∈ gw := wmi 230 (by decide +kernel) rfl
theorem wm_231 : Cond.instantiable "FalseParity$Marks" (5 : Nat) ∈ gw := wmi 231 (by decide +kernel) rfl
theorem wm_232 : Cond.methodLink "FalseParity" (64 : Nat) ({ cls := "FalseParity$Marks", name := "<init>", desc := "(LFalseParity$Country;LFalseParity$Now;)V" } : MethodName) ∈ gw := wmi 232 (by decide +kernel) rfl
theorem wm_233 : Cond.instanceMethod ({ cls := "FalseParity$Marks", name := "<init>", desc := "(LFalseParity$Country;LFalseParity$Now;)V" } : MethodName) ∈ gw := wmi 233 (by decide +kernel) rfl
theorem wm_234 : Cond.code ({ cls := "FalseParity$Marks", name := "<init>", desc := "(LFalseParity$Country;LFalseParity$Now;)V" } : MethodName) prog_7_method_1_code (3 : Nat) (Option.none : Option FieldType) ∈ gw := wmi 234 (by decide +kernel) rfl
theorem wm_235 : Cond.methodLink "FalseParity$Marks" (3 : Nat) ({ cls := "java/lang/Object", name := "<init>", desc := "()V" } : MethodName) ∈ gw := wmi 235 (by decide +kernel) rfl
theorem wm_236 : Cond.fieldLink "FalseParity$Marks" (18 : Nat) "FalseParity$Marks" "told" "LFalseParity$Country;" ∈ gw := wmi 236 (by decide +kernel) rfl
theorem wm_237 : Cond.fieldLink "FalseParity$Marks" (22 : Nat) "FalseParity$Marks" "now" "LFalseParity$Now;" ∈ gw := wmi 237 (by decide +kernel) rfl
theorem wm_238 : Cond.fieldLink "FalseParity$Marks" (9 : Nat) "FalseParity$Marks" "persons" "[I" ∈ gw := wmi 238 (by decide +kernel) rfl
theorem wm_239 : Cond.fieldLink "FalseParity$Marks" (15 : Nat) "FalseParity$Marks" "tooks" "[I" ∈ gw := wmi 239 (by decide +kernel) rfl
theorem wm_240 : Cond.fieldLink "FalseParity$Marks" (26 : Nat) "FalseParity$Marks" "seen" "I" ∈ gw := wmi 240 (by decide +kernel) rfl
theorem wn_241 : Cond.fieldLinkNest "FalseParity" (241 : Nat) "FalseParity$Marks" "seen" "I" "FalseParity" ∈ nwl := wni 241 (by decide +kernel) rfl
theorem wm_242 : Cond.laysFinal "FalseParity$Marks" "FalseParity$Marks" "told" "LFalseParity$Country;" ∈ gw := wmi 242 (by decide +kernel) rfl
theorem wm_244 : Cond.laysFinal "FalseParity$Marks" "FalseParity$Marks" "now" "LFalseParity$Now;" ∈ gw := wmi 244 (by decide +kernel) rfl
theorem wm_246 : Cond.laysFinal "FalseParity$Marks" "FalseParity$Marks" "persons" "[I" ∈ gw := wmi 246 (by decide +kernel) rfl
theorem wm_248 : Cond.laysFinal "FalseParity$Marks" "FalseParity$Marks" "tooks" "[I" ∈ gw := wmi 248 (by decide +kernel) rfl
theorem wm_250 : Cond.lays "FalseParity$Marks" "FalseParity$Marks" "seen" "I" ∈ gw := wmi 250 (by decide +kernel) rfl
theorem wm_253 : Cond.classLink "FalseParity" (69 : Nat) "FalseParity$Board" ∈ gw := wmi 253 (by decide +kernel) rfl
theorem wm_254 : Cond.instantiable "FalseParity$Board" (5 : Nat) ∈ gw := wmi 254 (by decide +kernel) rfl
theorem wm_255 : Cond.methodLink "FalseParity" (71 : Nat) ({ cls := "FalseParity$Board", name := "<init>", desc := "(LFalseParity$Country;LFalseParity$Now;)V" } : MethodName) ∈ gw := wmi 255 (by decide +kernel) rfl
theorem wm_256 : Cond.instanceMethod ({ cls := "FalseParity$Board", name := "<init>", desc := "(LFalseParity$Country;LFalseParity$Now;)V" } : MethodName) ∈ gw := wmi 256 (by decide +kernel) rfl
theorem wm_257 : Cond.code ({ cls := "FalseParity$Board", name := "<init>", desc := "(LFalseParity$Country;LFalseParity$Now;)V" } : MethodName) prog_2_method_1_code (3 : Nat) (Option.none : Option FieldType) ∈ gw := wmi 257 (by decide +kernel) rfl
theorem wm_258 : Cond.methodLink "FalseParity$Board" (3 : Nat) ({ cls := "java/lang/Object", name := "<init>", desc := "()V" } : MethodName) ∈ gw := wmi 258 (by decide +kernel) rfl
theorem wm_259 : Cond.fieldLink "FalseParity$Board" (18 : Nat) "FalseParity$Board" "told" "LFalseParity$Country;" ∈ gw := wmi 259 (by decide +kernel) rfl
theorem wm_260 : Cond.fieldLink "FalseParity$Board" (22 : Nat) "FalseParity$Board" "now" "LFalseParity$Now;" ∈ gw := wmi 260 (by decide +kernel) rfl
theorem wm_261 : Cond.fieldLink "FalseParity$Board" (9 : Nat) "FalseParity$Board" "uses" "[I" ∈ gw := wmi 261 (by decide +kernel) rfl
theorem wm_262 : Cond.fieldLink "FalseParity$Board" (15 : Nat) "FalseParity$Board" "ins" "[I" ∈ gw := wmi 262 (by decide +kernel) rfl
theorem wm_263 : Cond.fieldLink "FalseParity$Board" (26 : Nat) "FalseParity$Board" "heard" "I" ∈ gw := wmi 263 (by decide +kernel) rfl
theorem wn_264 : Cond.fieldLinkNest "FalseParity" (244 : Nat) "FalseParity$Board" "heard" "I" "FalseParity" ∈ nwl := wni 264 (by decide +kernel) rfl
theorem wm_265 : Cond.laysFinal "FalseParity$Board" "FalseParity$Board" "told" "LFalseParity$Country;" ∈ gw := wmi 265 (by decide +kernel) rfl
theorem wm_267 : Cond.laysFinal "FalseParity$Board" "FalseParity$Board" "now" "LFalseParity$Now;" ∈ gw := wmi 267 (by decide +kernel) rfl
theorem wm_269 : Cond.laysFinal "FalseParity$Board" "FalseParity$Board" "uses" "[I" ∈ gw := wmi 269 (by decide +kernel) rfl
theorem wm_271 : Cond.laysFinal "FalseParity$Board" "FalseParity$Board" "ins" "[I" ∈ gw := wmi 271 (by decide +kernel) rfl
theorem wm_273 : Cond.lays "FalseParity$Board" "FalseParity$Board" "heard" "I" ∈ gw := wmi 273 (by decide +kernel) rfl
theorem wm_276 : Cond.classLink "FalseParity" (76 : Nat) "FalseParity$Kinds" ∈ gw := wmi 276 (by decide +kernel) rfl
theorem wm_277 : Cond.instantiable "FalseParity$Kinds" (3 : Nat) ∈ gw := wmi 277 (by decide +kernel) rfl
theorem wm_278 : Cond.methodLink "FalseParity" (78 : Nat) ({ cls := "FalseParity$Kinds", name := "<init>", desc := "(LFalseParity$Country;LFalseParity$Now;)V" } : MethodName) ∈ gw := wmi 278 (by decide +kernel) rfl
theorem wm_279 : Cond.instanceMethod ({ cls := "FalseParity$Kinds", name := "<init>", desc := "(LFalseParity$Country;LFalseParity$Now;)V" } : MethodName) ∈ gw := wmi 279 (by decide +kernel) rfl
theorem wm_280 : Cond.code ({ cls := "FalseParity$Kinds", name := "<init>", desc := "(LFalseParity$Country;LFalseParity$Now;)V" } : MethodName) prog_6_method_1_code (3 : Nat) (Option.none : Option FieldType) ∈ gw := wmi 280 (by decide +kernel) rfl
theorem wm_281 : Cond.methodLink "FalseParity$Kinds" (3 : Nat) ({ cls := "java/lang/Object", name := "<init>", desc := "()V" } : MethodName) ∈ gw := wmi 281 (by decide +kernel) rfl
theorem wm_282 : Cond.fieldLink "FalseParity$Kinds" (9 : Nat) "FalseParity$Kinds" "told" "LFalseParity$Country;" ∈ gw := wmi 282 (by decide +kernel) rfl
theorem wm_283 : Cond.fieldLink "FalseParity$Kinds" (15 : Nat) "FalseParity$Kinds" "now" "LFalseParity$Now;" ∈ gw := wmi 283 (by decide +kernel) rfl
theorem wm_284 : Cond.fieldLink "FalseParity$Kinds" (39 : Nat) "FalseParity$Kinds" "trace" "J" ∈ gw := wmi 284 (by decide +kernel) rfl
theorem wn_285 : Cond.fieldLinkNest "FalseParity" (285 : Nat) "FalseParity$Kinds" "trace" "J" "FalseParity" ∈ nwl := wni 285 (by decide +kernel) rfl
theorem wm_286 : Cond.laysFinal "FalseParity$Kinds" "FalseParity$Kinds" "told" "LFalseParity$Country;" ∈ gw := wmi 286 (by decide +kernel) rfl
theorem wm_288 : Cond.laysFinal "FalseParity$Kinds" "FalseParity$Kinds" "now" "LFalseParity$Now;" ∈ gw := wmi 288 (by decide +kernel) rfl
theorem wm_290 : Cond.lays "FalseParity$Kinds" "FalseParity$Kinds" "trace" "J" ∈ gw := wmi 290 (by decide +kernel) rfl
theorem wm_293 : Cond.fieldLink "FalseParity" (10 : Nat) "FalseParity" "text" "LFalseParity$Text;" ∈ gw := wmi 293 (by decide +kernel) rfl
theorem wm_294 : Cond.fieldLink "FalseParity" (21 : Nat) "FalseParity" "reader" "LFalseParity$Reader;" ∈ gw := wmi 294 (by decide +kernel) rfl
theorem wm_295 : Cond.fieldLink "FalseParity" (28 : Nat) "FalseParity" "told" "LFalseParity$Country;" ∈ gw := wmi 295 (by decide +kernel) rfl
theorem wm_296 : Cond.fieldLink "FalseParity" (35 : Nat) "FalseParity" "now" "LFalseParity$Now;" ∈ gw := wmi 296 (by decide +kernel) rfl
theorem wm_297 : Cond.fieldLink "FalseParity" (42 : Nat) "FalseParity" "history" "LFalseParity$History;" ∈ gw := wmi 297 (by decide +kernel) rfl
theorem wm_298 : Cond.fieldLink "FalseParity" (49 : Nat) "FalseParity" "images" "LFalseParity$Images;" ∈ gw := wmi 298 (by decide +kernel) rfl
theorem wm_299 : Cond.fieldLink "FalseParity" (58 : Nat) "FalseParity" "paths" "LFalseParity$Paths;" ∈ gw := wmi 299 (by decide +kernel) rfl
theorem wm_300 : Cond.fieldLink "FalseParity" (65 : Nat) "FalseParity" "marks" "LFalseParity$Marks;" ∈ gw := wmi 300 (by decide +kernel) rfl
theorem wm_301 : Cond.fieldLink "FalseParity" (72 : Nat) "FalseParity" "board" "LFalseParity$Board;" ∈ gw := wmi 301 (by decide +kernel) rfl
theorem wm_302 : Cond.fieldLink "FalseParity" (79 : Nat) "FalseParity" "kinds" "LFalseParity$Kinds;" ∈ gw := wmi 302 (by decide +kernel) rfl
theorem wm_303 : Cond.laysFinal "FalseParity" "FalseParity" "text" "LFalseParity$Text;" ∈ gw := wmi 303 (by decide +kernel) rfl
theorem wm_305 : Cond.laysFinal "FalseParity" "FalseParity" "reader" "LFalseParity$Reader;" ∈ gw := wmi 305 (by decide +kernel) rfl
theorem wm_307 : Cond.laysFinal "FalseParity" "FalseParity" "told" "LFalseParity$Country;" ∈ gw := wmi 307 (by decide +kernel) rfl
theorem wm_309 : Cond.laysFinal "FalseParity" "FalseParity" "now" "LFalseParity$Now;" ∈ gw := wmi 309 (by decide +kernel) rfl
theorem wm_311 : Cond.laysFinal "FalseParity" "FalseParity" "history" "LFalseParity$History;" ∈ gw := wmi 311 (by decide +kernel) rfl
theorem wm_313 : Cond.laysFinal "FalseParity" "FalseParity" "images" "LFalseParity$Images;" ∈ gw := wmi 313 (by decide +kernel) rfl
theorem wm_315 : Cond.laysFinal "FalseParity" "FalseParity" "paths" "LFalseParity$Paths;" ∈ gw := wmi 315 (by decide +kernel) rfl
theorem wm_317 : Cond.laysFinal "FalseParity" "FalseParity" "marks" "LFalseParity$Marks;" ∈ gw := wmi 317 (by decide +kernel) rfl
theorem wm_319 : Cond.laysFinal "FalseParity" "FalseParity" "board" "LFalseParity$Board;" ∈ gw := wmi 319 (by decide +kernel) rfl
theorem wm_321 : Cond.laysFinal "FalseParity" "FalseParity" "kinds" "LFalseParity$Kinds;" ∈ gw := wmi 321 (by decide +kernel) rfl
theorem wm_324 : Cond.methodLink "FalseParityLaw" (13 : Nat) ({ cls := "FalseParity", name := "type", desc := "(I)I" } : MethodName) ∈ gw := wmi 324 (by decide +kernel) rfl
theorem wm_325 : Cond.instanceMethod ({ cls := "FalseParity", name := "type", desc := "(I)I" } : MethodName) ∈ gw := wmi 325 (by decide +kernel) rfl
theorem wm_326 : Cond.selects "FalseParity" ({ cls := "FalseParity", name := "type", desc := "(I)I" } : MethodName) ({ cls := "FalseParity", name := "type", desc := "(I)I" } : MethodName) ∈ gw := wmi 326 (by decide +kernel) rfl
theorem wm_327 : Cond.code ({ cls := "FalseParity", name := "type", desc := "(I)I" } : MethodName) prog_1_method_2_code (2 : Nat) (Option.some FieldType.int) ∈ gw := wmi 327 (by decide +kernel) rfl
theorem wm_328 : Cond.methodLink "FalseParity" (83 : Nat) ({ cls := "FalseParity$Text", name := "add", desc := "(I)I" } : MethodName) ∈ gw := wmi 328 (by decide +kernel) rfl
theorem wm_329 : Cond.instanceMethod ({ cls := "FalseParity$Text", name := "add", desc := "(I)I" } : MethodName) ∈ gw := wmi 329 (by decide +kernel) rfl
theorem wm_330 : Cond.selects "FalseParity$Text" ({ cls := "FalseParity$Text", name := "add", desc := "(I)I" } : MethodName) ({ cls := "FalseParity$Text", name := "add", desc := "(I)I" } : MethodName) ∈ gw := wmi 330 (by decide +kernel) rfl
theorem wm_331 : Cond.code ({ cls := "FalseParity$Text", name := "add", desc := "(I)I" } : MethodName) prog_11_method_2_code (2 : Nat) (Option.some FieldType.int) ∈ gw := wmi 331 (by decide +kernel) rfl
theorem wm_332 : Cond.methodLink "FalseParityLaw" (18 : Nat) ({ cls := "FalseParity", name := "clear", desc := "()I" } : MethodName) ∈ gw := wmi 332 (by decide +kernel) rfl
theorem wm_333 : Cond.instanceMethod ({ cls := "FalseParity", name := "clear", desc := "()I" } : MethodName) ∈ gw := wmi 333 (by decide +kernel) rfl
theorem wm_334 : Cond.selects "FalseParity" ({ cls := "FalseParity", name := "clear", desc := "()I" } : MethodName) ({ cls := "FalseParity", name := "clear", desc := "()I" } : MethodName) ∈ gw := wmi 334 (by decide +kernel) rfl
theorem wm_335 : Cond.code ({ cls := "FalseParity", name := "clear", desc := "()I" } : MethodName) prog_1_method_3_code (1 : Nat) (Option.some FieldType.int) ∈ gw := wmi 335 (by decide +kernel) rfl
theorem wm_336 : Cond.methodLink "FalseParity" (87 : Nat) ({ cls := "FalseParity$Text", name := "empty", desc := "()I" } : MethodName) ∈ gw := wmi 336 (by decide +kernel) rfl
theorem wm_337 : Cond.instanceMethod ({ cls := "FalseParity$Text", name := "empty", desc := "()I" } : MethodName) ∈ gw := wmi 337 (by decide +kernel) rfl
theorem wm_338 : Cond.selects "FalseParity$Text" ({ cls := "FalseParity$Text", name := "empty", desc := "()I" } : MethodName) ({ cls := "FalseParity$Text", name := "empty", desc := "()I" } : MethodName) ∈ gw := wmi 338 (by decide +kernel) rfl
theorem wm_339 : Cond.code ({ cls := "FalseParity$Text", name := "empty", desc := "()I" } : MethodName) prog_11_method_3_code (2 : Nat) (Option.some FieldType.int) ∈ gw := wmi 339 (by decide +kernel) rfl
theorem wm_340 : Cond.methodLink "FalseParityLaw" (23 : Nat) ({ cls := "FalseParity", name := "country", desc := "()I" } : MethodName) ∈ gw := wmi 340 (by decide +kernel) rfl
theorem wm_341 : Cond.instanceMethod ({ cls := "FalseParity", name := "country", desc := "()I" } : MethodName) ∈ gw := wmi 341 (by decide +kernel) rfl
theorem wm_342 : Cond.selects "FalseParity" ({ cls := "FalseParity", name := "country", desc := "()I" } : MethodName) ({ cls := "FalseParity", name := "country", desc := "()I" } : MethodName) ∈ gw := wmi 342 (by decide +kernel) rfl
theorem wm_343 : Cond.code ({ cls := "FalseParity", name := "country", desc := "()I" } : MethodName) prog_1_method_4_code (2 : Nat) (Option.some FieldType.int) ∈ gw := wmi 343 (by decide +kernel) rfl
theorem wm_344 : Cond.methodLink "FalseParity" (91 : Nat) ({ cls := "FalseParity$Reader", name := "read", desc := "()I" } : MethodName) ∈ gw := wmi 344 (by decide +kernel) rfl
theorem wm_345 : Cond.instanceMethod ({ cls := "FalseParity$Reader", name := "read", desc := "()I" } : MethodName) ∈ gw := wmi 345 (by decide +kernel) rfl
theorem wm_346 : Cond.selects "FalseParity$Reader" ({ cls := "FalseParity$Reader", name := "read", desc := "()I" } : MethodName) ({ cls := "FalseParity$Reader", name := "read", desc := "()I" } : MethodName) ∈ gw := wmi 346 (by decide +kernel) rfl
theorem wm_347 : Cond.code ({ cls := "FalseParity$Reader", name := "read", desc := "()I" } : MethodName) prog_10_method_2_code (2 : Nat) (Option.some FieldType.int) ∈ gw := wmi 347 (by decide +kernel) rfl
theorem wm_348 : Cond.methodLink "FalseParity$Reader" (22 : Nat) ({ cls := "FalseParity$Reader", name := "begin", desc := "()V" } : MethodName) ∈ gw := wmi 348 (by decide +kernel) rfl
theorem wm_350 : Cond.instanceMethod ({ cls := "FalseParity$Reader", name := "begin", desc := "()V" } : MethodName) ∈ gw := wmi 350 (by decide +kernel) rfl
theorem wm_351 : Cond.code ({ cls := "FalseParity$Reader", name := "begin", desc := "()V" } : MethodName) prog_10_method_3_code (1 : Nat) (Option.none : Option FieldType) ∈ gw := wmi 351 (by decide +kernel) rfl
theorem wm_352 : Cond.methodLink "FalseParity$Reader" (44 : Nat) ({ cls := "FalseParity$Country", name := "empty", desc := "()V" } : MethodName) ∈ gw := wmi 352 (by decide +kernel) rfl
theorem wm_353 : Cond.instanceMethod ({ cls := "FalseParity$Country", name := "empty", desc := "()V" } : MethodName) ∈ gw := wmi 353 (by decide +kernel) rfl
theorem wm_354 : Cond.selects "FalseParity$Country" ({ cls := "FalseParity$Country", name := "empty", desc := "()V" } : MethodName) ({ cls := "FalseParity$Country", name := "empty", desc := "()V" } : MethodName) ∈ gw := wmi 354 (by decide +kernel) rfl
theorem wm_355 : Cond.code ({ cls := "FalseParity$Country", name := "empty", desc := "()V" } : MethodName) prog_3_method_2_code (1 : Nat) (Option.none : Option FieldType) ∈ gw := wmi 355 (by decide +kernel) rfl
theorem wm_356 : Cond.methodLink "FalseParity$Reader" (31 : Nat) ({ cls := "FalseParity$Reader", name := "beginsToken", desc := "(I)Z" } : MethodName) ∈ gw := wmi 356 (by decide +kernel) rfl
theorem wm_358 : Cond.instanceMethod ({ cls := "FalseParity$Reader", name := "beginsToken", desc := "(I)Z" } : MethodName) ∈ gw := wmi 358 (by decide +kernel) rfl
theorem wm_359 : Cond.code ({ cls := "FalseParity$Reader", name := "beginsToken", desc := "(I)Z" } : MethodName) prog_10_method_4_code (2 : Nat) (Option.some FieldType.boolean) ∈ gw := wmi 359 (by decide +kernel) rfl
theorem wm_360 : Cond.methodLink "FalseParity$Reader" (57 : Nat) ({ cls := "FalseParity$Text", name := "hasDigit", desc := "(I)Z" } : MethodName) ∈ gw := wmi 360 (by decide +kernel) rfl
theorem wm_361 : Cond.instanceMethod ({ cls := "FalseParity$Text", name := "hasDigit", desc := "(I)Z" } : MethodName) ∈ gw := wmi 361 (by decide +kernel) rfl
theorem wm_362 : Cond.selects "FalseParity$Text" ({ cls := "FalseParity$Text", name := "hasDigit", desc := "(I)Z" } : MethodName) ({ cls := "FalseParity$Text", name := "hasDigit", desc := "(I)Z" } : MethodName) ∈ gw := wmi 362 (by decide +kernel) rfl
theorem wm_363 : Cond.code ({ cls := "FalseParity$Text", name := "hasDigit", desc := "(I)Z" } : MethodName) prog_11_method_4_code (2 : Nat) (Option.some FieldType.boolean) ∈ gw := wmi 363 (by decide +kernel) rfl
theorem wm_364 : Cond.methodLink "FalseParity$Reader" (35 : Nat) ({ cls := "FalseParity$Reader", name := "accepts", desc := "(I)Z" } : MethodName) ∈ gw := wmi 364 (by decide +kernel) rfl
theorem wm_366 : Cond.instanceMethod ({ cls := "FalseParity$Reader", name := "accepts", desc := "(I)Z" } : MethodName) ∈ gw := wmi 366 (by decide +kernel) rfl
theorem wm_367 : Cond.code ({ cls := "FalseParity$Reader", name := "accepts", desc := "(I)Z" } : MethodName) prog_10_method_5_code (3 : Nat) (Option.some FieldType.boolean) ∈ gw := wmi 367 (by decide +kernel) rfl
theorem wm_368 : Cond.methodLink "FalseParity$Reader" (64 : Nat) ({ cls := "FalseParity$Reader", name := "beginsItem", desc := "(I)Z" } : MethodName) ∈ gw := wmi 368 (by decide +kernel) rfl
theorem wm_370 : Cond.instanceMethod ({ cls := "FalseParity$Reader", name := "beginsItem", desc := "(I)Z" } : MethodName) ∈ gw := wmi 370 (by decide +kernel) rfl
theorem wm_371 : Cond.code ({ cls := "FalseParity$Reader", name := "beginsItem", desc := "(I)Z" } : MethodName) prog_10_method_6_code (2 : Nat) (Option.some FieldType.boolean) ∈ gw := wmi 371 (by decide +kernel) rfl
theorem wm_372 : Cond.methodLink "FalseParity$Reader" (82 : Nat) ({ cls := "FalseParity$Reader", name := "canBegin", desc := "(I)Z" } : MethodName) ∈ gw := wmi 372 (by decide +kernel) rfl
theorem wm_374 : Cond.instanceMethod ({ cls := "FalseParity$Reader", name := "canBegin", desc := "(I)Z" } : MethodName) ∈ gw := wmi 374 (by decide +kernel) rfl
theorem wm_375 : Cond.code ({ cls := "FalseParity$Reader", name := "canBegin", desc := "(I)Z" } : MethodName) prog_10_method_7_code (2 : Nat) (Option.some FieldType.boolean) ∈ gw := wmi 375 (by decide +kernel) rfl
theorem wm_376 : Cond.methodLink "FalseParity$Reader" (67 : Nat) ({ cls := "FalseParity$Reader", name := "numbersOfItem", desc := "()I" } : MethodName) ∈ gw := wmi 376 (by decide +kernel) rfl
theorem wm_378 : Cond.instanceMethod ({ cls := "FalseParity$Reader", name := "numbersOfItem", desc := "()I" } : MethodName) ∈ gw := wmi 378 (by decide +kernel) rfl
theorem wm_379 : Cond.code ({ cls := "FalseParity$Reader", name := "numbersOfItem", desc := "()I" } : MethodName) prog_10_method_8_code (1 : Nat) (Option.some FieldType.int) ∈ gw := wmi 379 (by decide +kernel) rfl
theorem wm_380 : Cond.methodLink "FalseParity$Reader" (71 : Nat) ({ cls := "FalseParity$Reader", name := "numberAt", desc := "(I)I" } : MethodName) ∈ gw := wmi 380 (by decide +kernel) rfl
theorem wm_382 : Cond.instanceMethod ({ cls := "FalseParity$Reader", name := "numberAt", desc := "(I)I" } : MethodName) ∈ gw := wmi 382 (by decide +kernel) rfl
theorem wm_383 : Cond.code ({ cls := "FalseParity$Reader", name := "numberAt", desc := "(I)I" } : MethodName) prog_10_method_9_code (4 : Nat) (Option.some FieldType.int) ∈ gw := wmi 383 (by decide +kernel) rfl
theorem wm_384 : Cond.methodLink "FalseParity$Reader" (91 : Nat) ({ cls := "java/lang/Math", name := "min", desc := "(II)I" } : MethodName) ∈ gw := wmi 384 (by decide +kernel) rfl
theorem wm_385 : Cond.static ({ cls := "java/lang/Math", name := "min", desc := "(II)I" } : MethodName) ∈ gw := wmi 385 (by decide +kernel) rfl
theorem wm_386 : Cond.code ({ cls := "java/lang/Math", name := "min", desc := "(II)I" } : MethodName) prog_15_method_69_code (2 : Nat) (Option.some FieldType.int) ∈ gw := wmi 386 (by decide +kernel) rfl
theorem wm_387 : Cond.methodLink "FalseParity$Reader" (75 : Nat) ({ cls := "FalseParity$Reader", name := "acceptsNumber", desc := "(I)Z" } : MethodName) ∈ gw := wmi 387 (by decide +kernel) rfl
theorem wm_389 : Cond.instanceMethod ({ cls := "FalseParity$Reader", name := "acceptsNumber", desc := "(I)Z" } : MethodName) ∈ gw := wmi 389 (by decide +kernel) rfl
theorem wm_390 : Cond.code ({ cls := "FalseParity$Reader", name := "acceptsNumber", desc := "(I)Z" } : MethodName) prog_10_method_10_code (2 : Nat) (Option.some FieldType.boolean) ∈ gw := wmi 390 (by decide +kernel) rfl
theorem wm_391 : Cond.methodLink "FalseParity$Reader" (97 : Nat) ({ cls := "FalseParity$Reader", name := "leastNumber", desc := "()I" } : MethodName) ∈ gw := wmi 391 (by decide +kernel) rfl
theorem wm_393 : Cond.instanceMethod ({ cls := "FalseParity$Reader", name := "leastNumber", desc := "()I" } : MethodName) ∈ gw := wmi 393 (by decide +kernel) rfl
theorem wm_394 : Cond.code ({ cls := "FalseParity$Reader", name := "leastNumber", desc := "()I" } : MethodName) prog_10_method_11_code (1 : Nat) (Option.some FieldType.int) ∈ gw := wmi 394 (by decide +kernel) rfl
theorem wm_395 : Cond.methodLink "FalseParity$Reader" (100 : Nat) ({ cls := "FalseParity$Reader", name := "mostNumber", desc := "()I" } : MethodName) ∈ gw := wmi 395 (by decide +kernel) rfl
theorem wm_397 : Cond.instanceMethod ({ cls := "FalseParity$Reader", name := "mostNumber", desc := "()I" } : MethodName) ∈ gw := wmi 397 (by decide +kernel) rfl
theorem wm_398 : Cond.code ({ cls := "FalseParity$Reader", name := "mostNumber", desc := "()I" } : MethodName) prog_10_method_12_code (1 : Nat) (Option.some FieldType.int) ∈ gw := wmi 398 (by decide +kernel) rfl
theorem wm_399 : Cond.methodLink "FalseParity$Reader" (107 : Nat) ({ cls := "FalseParity$Reader", name := "mostOfNote", desc := "()I" } : MethodName) ∈ gw := wmi 399 (by decide +kernel) rfl
theorem wm_401 : Cond.instanceMethod ({ cls := "FalseParity$Reader", name := "mostOfNote", desc := "()I" } : MethodName) ∈ gw := wmi 401 (by decide +kernel) rfl
theorem wm_402 : Cond.code ({ cls := "FalseParity$Reader", name := "mostOfNote", desc := "()I" } : MethodName) prog_10_method_13_code (1 : Nat) (Option.some FieldType.int) ∈ gw := wmi 402 (by decide +kernel) rfl
theorem wm_403 : Cond.methodLink "FalseParity$Reader" (103 : Nat) ({ cls := "FalseParity$Reader", name := "store", desc := "(I)V" } : MethodName) ∈ gw := wmi 403 (by decide +kernel) rfl
theorem wm_405 : Cond.instanceMethod ({ cls := "FalseParity$Reader", name := "store", desc := "(I)V" } : MethodName) ∈ gw := wmi 405 (by decide +kernel) rfl
theorem wm_406 : Cond.code ({ cls := "FalseParity$Reader", name := "store", desc := "(I)V" } : MethodName) prog_10_method_14_code (2 : Nat) (Option.none : Option FieldType) ∈ gw := wmi 406 (by decide +kernel) rfl
theorem wm_407 : Cond.methodLink "FalseParity$Reader" (113 : Nat) ({ cls := "FalseParity$Reader", name := "storeOfNote", desc := "(II)V" } : MethodName) ∈ gw := wmi 407 (by decide +kernel) rfl
theorem wm_409 : Cond.instanceMethod ({ cls := "FalseParity$Reader", name := "storeOfNote", desc := "(II)V" } : MethodName) ∈ gw := wmi 409 (by decide +kernel) rfl
theorem wm_410 : Cond.code ({ cls := "FalseParity$Reader", name := "storeOfNote", desc := "(II)V" } : MethodName) prog_10_method_15_code (3 : Nat) (Option.none : Option FieldType) ∈ gw := wmi 410 (by decide +kernel) rfl
theorem wm_411 : Cond.methodLink "FalseParity$Reader" (78 : Nat) ({ cls := "FalseParity$Reader", name := "endsItem", desc := "()Z" } : MethodName) ∈ gw := wmi 411 (by decide +kernel) rfl
theorem wm_413 : Cond.instanceMethod ({ cls := "FalseParity$Reader", name := "endsItem", desc := "()Z" } : MethodName) ∈ gw := wmi 413 (by decide +kernel) rfl
theorem wm_414 : Cond.code ({ cls := "FalseParity$Reader", name := "endsItem", desc := "()Z" } : MethodName) prog_10_method_16_code (1 : Nat) (Option.some FieldType.boolean) ∈ gw := wmi 414 (by decide +kernel) rfl
theorem wm_415 : Cond.methodLink "FalseParity" (97 : Nat) ({ cls := "FalseParity$Country", name := "copyFrom", desc := "(LFalseParity$Country;)V" } : MethodName) ∈ gw := wmi 415 (by decide +kernel) rfl
theorem wm_416 : Cond.instanceMethod ({ cls := "FalseParity$Country", name := "copyFrom", desc := "(LFalseParity$Country;)V" } : MethodName) ∈ gw := wmi 416 (by decide +kernel) rfl
theorem wm_417 : Cond.selects "FalseParity$Country" ({ cls := "FalseParity$Country", name := "copyFrom", desc := "(LFalseParity$Country;)V" } : MethodName) ({ cls := "FalseParity$Country", name := "copyFrom", desc := "(LFalseParity$Country;)V" } : MethodName) ∈ gw := wmi 417 (by decide +kernel) rfl
theorem wm_418 : Cond.code ({ cls := "FalseParity$Country", name := "copyFrom", desc := "(LFalseParity$Country;)V" } : MethodName) prog_3_method_3_code (2 : Nat) (Option.none : Option FieldType) ∈ gw := wmi 418 (by decide +kernel) rfl
theorem wm_419 : Cond.methodLink "FalseParity$Country" (37 : Nat) ({ cls := "java/lang/System", name := "arraycopy", desc := "(Ljava/lang/Object;ILjava/lang/Object;II)V" } : MethodName) ∈ gw := wmi 419 (by decide +kernel) rfl
theorem wm_420 : Cond.static ({ cls := "java/lang/System", name := "arraycopy", desc := "(Ljava/lang/Object;ILjava/lang/Object;II)V" } : MethodName) ∈ gw := wmi 420 (by decide +kernel) rfl
theorem wm_421 : Cond.native ({ cls := "java/lang/System", name := "arraycopy", desc := "(Ljava/lang/Object;ILjava/lang/Object;II)V" } : MethodName) ∈ gw := wmi 421 (by decide +kernel) rfl
theorem wm_422 : Cond.methodLink "FalseParity" (101 : Nat) ({ cls := "FalseParity$Now", name := "begin", desc := "(LFalseParity$Country;)V" } : MethodName) ∈ gw := wmi 422 (by decide +kernel) rfl
theorem wm_423 : Cond.instanceMethod ({ cls := "FalseParity$Now", name := "begin", desc := "(LFalseParity$Country;)V" } : MethodName) ∈ gw := wmi 423 (by decide +kernel) rfl
theorem wm_424 : Cond.selects "FalseParity$Now" ({ cls := "FalseParity$Now", name := "begin", desc := "(LFalseParity$Country;)V" } : MethodName) ({ cls := "FalseParity$Now", name := "begin", desc := "(LFalseParity$Country;)V" } : MethodName) ∈ gw := wmi 424 (by decide +kernel) rfl
theorem wm_425 : Cond.code ({ cls := "FalseParity$Now", name := "begin", desc := "(LFalseParity$Country;)V" } : MethodName) prog_8_method_2_code (3 : Nat) (Option.none : Option FieldType) ∈ gw := wmi 425 (by decide +kernel) rfl
theorem wm_426 : Cond.methodLink "FalseParity$Now" (20 : Nat) ({ cls := "java/lang/System", name := "arraycopy", desc := "(Ljava/lang/Object;ILjava/lang/Object;II)V" } : MethodName) ∈ gw := wmi 426 (by decide +kernel) rfl
theorem wm_427 : Cond.methodLink "FalseParity" (104 : Nat) ({ cls := "FalseParity$History", name := "empty", desc := "()V" } : MethodName) ∈ gw := wmi 427 (by decide +kernel) rfl
theorem wm_428 : Cond.instanceMethod ({ cls := "FalseParity$History", name := "empty", desc := "()V" } : MethodName) ∈ gw := wmi 428 (by decide +kernel) rfl
theorem wm_429 : Cond.selects "FalseParity$History" ({ cls := "FalseParity$History", name := "empty", desc := "()V" } : MethodName) ({ cls := "FalseParity$History", name := "empty", desc := "()V" } : MethodName) ∈ gw := wmi 429 (by decide +kernel) rfl
theorem wm_430 : Cond.code ({ cls := "FalseParity$History", name := "empty", desc := "()V" } : MethodName) prog_4_method_2_code (1 : Nat) (Option.none : Option FieldType) ∈ gw := wmi 430 (by decide +kernel) rfl
theorem wm_431 : Cond.methodLink "FalseParity" (106 : Nat) ({ cls := "FalseParity$Images", name := "empty", desc := "()V" } : MethodName) ∈ gw := wmi 431 (by decide +kernel) rfl
theorem wm_432 : Cond.instanceMethod ({ cls := "FalseParity$Images", name := "empty", desc := "()V" } : MethodName) ∈ gw := wmi 432 (by decide +kernel) rfl
theorem wm_433 : Cond.selects "FalseParity$Images" ({ cls := "FalseParity$Images", name := "empty", desc := "()V" } : MethodName) ({ cls := "FalseParity$Images", name := "empty", desc := "()V" } : MethodName) ∈ gw := wmi 433 (by decide +kernel) rfl
theorem wm_434 : Cond.code ({ cls := "FalseParity$Images", name := "empty", desc := "()V" } : MethodName) prog_5_method_2_code (1 : Nat) (Option.none : Option FieldType) ∈ gw := wmi 434 (by decide +kernel) rfl
theorem wm_435 : Cond.methodLink "FalseParity" (107 : Nat) ({ cls := "FalseParity$Marks", name := "empty", desc := "()V" } : MethodName) ∈ gw := wmi 435 (by decide +kernel) rfl
theorem wm_436 : Cond.instanceMethod ({ cls := "FalseParity$Marks", name := "empty", desc := "()V" } : MethodName) ∈ gw := wmi 436 (by decide +kernel) rfl
theorem wm_437 : Cond.selects "FalseParity$Marks" ({ cls := "FalseParity$Marks", name := "empty", desc := "()V" } : MethodName) ({ cls := "FalseParity$Marks", name := "empty", desc := "()V" } : MethodName) ∈ gw := wmi 437 (by decide +kernel) rfl
theorem wm_438 : Cond.code ({ cls := "FalseParity$Marks", name := "empty", desc := "()V" } : MethodName) prog_7_method_2_code (1 : Nat) (Option.none : Option FieldType) ∈ gw := wmi 438 (by decide +kernel) rfl
theorem wm_439 : Cond.methodLink "FalseParity" (108 : Nat) ({ cls := "FalseParity$Board", name := "empty", desc := "()V" } : MethodName) ∈ gw := wmi 439 (by decide +kernel) rfl
theorem wm_440 : Cond.instanceMethod ({ cls := "FalseParity$Board", name := "empty", desc := "()V" } : MethodName) ∈ gw := wmi 440 (by decide +kernel) rfl
theorem wm_441 : Cond.selects "FalseParity$Board" ({ cls := "FalseParity$Board", name := "empty", desc := "()V" } : MethodName) ({ cls := "FalseParity$Board", name := "empty", desc := "()V" } : MethodName) ∈ gw := wmi 441 (by decide +kernel) rfl
theorem wm_442 : Cond.code ({ cls := "FalseParity$Board", name := "empty", desc := "()V" } : MethodName) prog_2_method_2_code (1 : Nat) (Option.none : Option FieldType) ∈ gw := wmi 442 (by decide +kernel) rfl
theorem wm_443 : Cond.methodLink "FalseParityLaw" (27 : Nat) ({ cls := "FalseParity", name := "note", desc := "(II)I" } : MethodName) ∈ gw := wmi 443 (by decide +kernel) rfl
theorem wm_444 : Cond.instanceMethod ({ cls := "FalseParity", name := "note", desc := "(II)I" } : MethodName) ∈ gw := wmi 444 (by decide +kernel) rfl
theorem wm_445 : Cond.selects "FalseParity" ({ cls := "FalseParity", name := "note", desc := "(II)I" } : MethodName) ({ cls := "FalseParity", name := "note", desc := "(II)I" } : MethodName) ∈ gw := wmi 445 (by decide +kernel) rfl
theorem wm_446 : Cond.code ({ cls := "FalseParity", name := "note", desc := "(II)I" } : MethodName) prog_1_method_5_code (3 : Nat) (Option.some FieldType.int) ∈ gw := wmi 446 (by decide +kernel) rfl
theorem wm_447 : Cond.methodLink "FalseParity" (109 : Nat) ({ cls := "FalseParity$Country", name := "hasNote", desc := "(I)Z" } : MethodName) ∈ gw := wmi 447 (by decide +kernel) rfl
theorem wm_448 : Cond.instanceMethod ({ cls := "FalseParity$Country", name := "hasNote", desc := "(I)Z" } : MethodName) ∈ gw := wmi 448 (by decide +kernel) rfl
theorem wm_449 : Cond.selects "FalseParity$Country" ({ cls := "FalseParity$Country", name := "hasNote", desc := "(I)Z" } : MethodName) ({ cls := "FalseParity$Country", name := "hasNote", desc := "(I)Z" } : MethodName) ∈ gw := wmi 449 (by decide +kernel) rfl
theorem wm_450 : Cond.code ({ cls := "FalseParity$Country", name := "hasNote", desc := "(I)Z" } : MethodName) prog_3_method_5_code (2 : Nat) (Option.some FieldType.boolean) ∈ gw := wmi 450 (by decide +kernel) rfl
theorem wm_451 : Cond.methodLink "FalseParity" (119 : Nat) ({ cls := "FalseParity$Now", name := "holder", desc := "(I)I" } : MethodName) ∈ gw := wmi 451 (by decide +kernel) rfl
theorem wm_452 : Cond.instanceMethod ({ cls := "FalseParity$Now", name := "holder", desc := "(I)I" } : MethodName) ∈ gw := wmi 452 (by decide +kernel) rfl
theorem wm_453 : Cond.selects "FalseParity$Now" ({ cls := "FalseParity$Now", name := "holder", desc := "(I)I" } : MethodName) ({ cls := "FalseParity$Now", name := "holder", desc := "(I)I" } : MethodName) ∈ gw := wmi 453 (by decide +kernel) rfl
theorem wm_454 : Cond.code ({ cls := "FalseParity$Now", name := "holder", desc := "(I)I" } : MethodName) prog_8_method_5_code (2 : Nat) (Option.some FieldType.int) ∈ gw := wmi 454 (by decide +kernel) rfl
theorem wm_455 : Cond.methodLink "FalseParity" (122 : Nat) ({ cls := "FalseParity$Now", name := "uses", desc := "(I)I" } : MethodName) ∈ gw := wmi 455 (by decide +kernel) rfl
theorem wm_456 : Cond.instanceMethod ({ cls := "FalseParity$Now", name := "uses", desc := "(I)I" } : MethodName) ∈ gw := wmi 456 (by decide +kernel) rfl
theorem wm_457 : Cond.selects "FalseParity$Now" ({ cls := "FalseParity$Now", name := "uses", desc := "(I)I" } : MethodName) ({ cls := "FalseParity$Now", name := "uses", desc := "(I)I" } : MethodName) ∈ gw := wmi 457 (by decide +kernel) rfl
theorem wm_458 : Cond.code ({ cls := "FalseParity$Now", name := "uses", desc := "(I)I" } : MethodName) prog_8_method_6_code (2 : Nat) (Option.some FieldType.int) ∈ gw := wmi 458 (by decide +kernel) rfl
theorem wm_459 : Cond.methodLink "FalseParity" (125 : Nat) ({ cls := "FalseParity$Now", name := "hasParity", desc := "(I)Z" } : MethodName) ∈ gw := wmi 459 (by decide +kernel) rfl
theorem wm_460 : Cond.instanceMethod ({ cls := "FalseParity$Now", name := "hasParity", desc := "(I)Z" } : MethodName) ∈ gw := wmi 460 (by decide +kernel) rfl
theorem wm_461 : Cond.selects "FalseParity$Now" ({ cls := "FalseParity$Now", name := "hasParity", desc := "(I)Z" } : MethodName) ({ cls := "FalseParity$Now", name := "hasParity", desc := "(I)Z" } : MethodName) ∈ gw := wmi 461 (by decide +kernel) rfl
theorem wm_462 : Cond.code ({ cls := "FalseParity$Now", name := "hasParity", desc := "(I)Z" } : MethodName) prog_8_method_11_code (2 : Nat) (Option.some FieldType.boolean) ∈ gw := wmi 462 (by decide +kernel) rfl
theorem wn_463 : Cond.methodLinkNest "FalseParity$Now" (29 : Nat) ({ cls := "FalseParity", name := "hasBit", desc := "(II)Z" } : MethodName) "FalseParity" ∈ nwl := wni 463 (by decide +kernel) rfl
theorem wm_464 : Cond.static ({ cls := "FalseParity", name := "hasBit", desc := "(II)Z" } : MethodName) ∈ gw := wmi 464 (by decide +kernel) rfl
theorem wm_465 : Cond.code ({ cls := "FalseParity", name := "hasBit", desc := "(II)Z" } : MethodName) prog_1_method_30_code (2 : Nat) (Option.some FieldType.boolean) ∈ gw := wmi 465 (by decide +kernel) rfl
theorem wm_466 : Cond.methodLink "FalseParity" (128 : Nat) ({ cls := "FalseParity$Now", name := "isAway", desc := "(I)Z" } : MethodName) ∈ gw := wmi 466 (by decide +kernel) rfl
theorem wm_467 : Cond.instanceMethod ({ cls := "FalseParity$Now", name := "isAway", desc := "(I)Z" } : MethodName) ∈ gw := wmi 467 (by decide +kernel) rfl
theorem wm_468 : Cond.selects "FalseParity$Now" ({ cls := "FalseParity$Now", name := "isAway", desc := "(I)Z" } : MethodName) ({ cls := "FalseParity$Now", name := "isAway", desc := "(I)Z" } : MethodName) ∈ gw := wmi 468 (by decide +kernel) rfl
theorem wm_469 : Cond.code ({ cls := "FalseParity$Now", name := "isAway", desc := "(I)Z" } : MethodName) prog_8_method_12_code (2 : Nat) (Option.some FieldType.boolean) ∈ gw := wmi 469 (by decide +kernel) rfl
theorem wm_470 : Cond.methodLink "FalseParity" (131 : Nat) ({ cls := "FalseParity$Paths", name := "takers", desc := "(I)I" } : MethodName) ∈ gw := wmi 470 (by decide +kernel) rfl
theorem wm_471 : Cond.instanceMethod ({ cls := "FalseParity$Paths", name := "takers", desc := "(I)I" } : MethodName) ∈ gw := wmi 471 (by decide +kernel) rfl
theorem wm_472 : Cond.selects "FalseParity$Paths" ({ cls := "FalseParity$Paths", name := "takers", desc := "(I)I" } : MethodName) ({ cls := "FalseParity$Paths", name := "takers", desc := "(I)I" } : MethodName) ∈ gw := wmi 472 (by decide +kernel) rfl
theorem wm_473 : Cond.code ({ cls := "FalseParity$Paths", name := "takers", desc := "(I)I" } : MethodName) prog_9_method_2_code (2 : Nat) (Option.some FieldType.int) ∈ gw := wmi 473 (by decide +kernel) rfl
theorem wm_474 : Cond.methodLink "FalseParity$Paths" (19 : Nat) ({ cls := "FalseParity$Now", name := "hasParity", desc := "(I)Z" } : MethodName) ∈ gw := wmi 474 (by decide +kernel) rfl
theorem wm_475 : Cond.methodLink "FalseParity$Paths" (31 : Nat) ({ cls := "FalseParity$Paths", name := "takersByLooks", desc := "(I)I" } : MethodName) ∈ gw := wmi 475 (by decide +kernel) rfl
theorem wm_477 : Cond.instanceMethod ({ cls := "FalseParity$Paths", name := "takersByLooks", desc := "(I)I" } : MethodName) ∈ gw := wmi 477 (by decide +kernel) rfl
theorem wm_478 : Cond.code ({ cls := "FalseParity$Paths", name := "takersByLooks", desc := "(I)I" } : MethodName) prog_9_method_13_code (4 : Nat) (Option.some FieldType.int) ∈ gw := wmi 478 (by decide +kernel) rfl
theorem wm_479 : Cond.methodLink "FalseParity$Paths" (73 : Nat) ({ cls := "FalseParity$Now", name := "looks", desc := "(I)I" } : MethodName) ∈ gw := wmi 479 (by decide +kernel) rfl
theorem wm_480 : Cond.instanceMethod ({ cls := "FalseParity$Now", name := "looks", desc := "(I)I" } : MethodName) ∈ gw := wmi 480 (by decide +kernel) rfl
theorem wm_481 : Cond.selects "FalseParity$Now" ({ cls := "FalseParity$Now", name := "looks", desc := "(I)I" } : MethodName) ({ cls := "FalseParity$Now", name := "looks", desc := "(I)I" } : MethodName) ∈ gw := wmi 481 (by decide +kernel) rfl
theorem wm_482 : Cond.code ({ cls := "FalseParity$Now", name := "looks", desc := "(I)I" } : MethodName) prog_8_method_7_code (2 : Nat) (Option.some FieldType.int) ∈ gw := wmi 482 (by decide +kernel) rfl
theorem wm_483 : Cond.methodLink "FalseParityLaw" (32 : Nat) ({ cls := "FalseParity", name := "person", desc := "(II)I" } : MethodName) ∈ gw := wmi 483 (by decide +kernel) rfl
theorem wm_484 : Cond.instanceMethod ({ cls := "FalseParity", name := "person", desc := "(II)I" } : MethodName) ∈ gw := wmi 484 (by decide +kernel) rfl
theorem wm_485 : Cond.selects "FalseParity" ({ cls := "FalseParity", name := "person", desc := "(II)I" } : MethodName) ({ cls := "FalseParity", name := "person", desc := "(II)I" } : MethodName) ∈ gw := wmi 485 (by decide +kernel) rfl
theorem wm_486 : Cond.code ({ cls := "FalseParity", name := "person", desc := "(II)I" } : MethodName) prog_1_method_6_code (3 : Nat) (Option.some FieldType.int) ∈ gw := wmi 486 (by decide +kernel) rfl
theorem wm_487 : Cond.methodLink "FalseParity" (134 : Nat) ({ cls := "FalseParity$Country", name := "hasPerson", desc := "(I)Z" } : MethodName) ∈ gw := wmi 487 (by decide +kernel) rfl
theorem wm_488 : Cond.instanceMethod ({ cls := "FalseParity$Country", name := "hasPerson", desc := "(I)Z" } : MethodName) ∈ gw := wmi 488 (by decide +kernel) rfl
theorem wm_489 : Cond.selects "FalseParity$Country" ({ cls := "FalseParity$Country", name := "hasPerson", desc := "(I)Z" } : MethodName) ({ cls := "FalseParity$Country", name := "hasPerson", desc := "(I)Z" } : MethodName) ∈ gw := wmi 489 (by decide +kernel) rfl
theorem wm_490 : Cond.code ({ cls := "FalseParity$Country", name := "hasPerson", desc := "(I)Z" } : MethodName) prog_3_method_4_code (2 : Nat) (Option.some FieldType.boolean) ∈ gw := wmi 490 (by decide +kernel) rfl
theorem wm_491 : Cond.methodLink "FalseParity" (137 : Nat) ({ cls := "FalseParity$Now", name := "looks", desc := "(I)I" } : MethodName) ∈ gw := wmi 491 (by decide +kernel) rfl
theorem wm_492 : Cond.methodLink "FalseParity" (140 : Nat) ({ cls := "FalseParity", name := "purse", desc := "(I)I" } : MethodName) ∈ gw := wmi 492 (by decide +kernel) rfl
theorem wm_494 : Cond.instanceMethod ({ cls := "FalseParity", name := "purse", desc := "(I)I" } : MethodName) ∈ gw := wmi 494 (by decide +kernel) rfl
theorem wm_495 : Cond.code ({ cls := "FalseParity", name := "purse", desc := "(I)I" } : MethodName) prog_1_method_27_code (4 : Nat) (Option.some FieldType.int) ∈ gw := wmi 495 (by decide +kernel) rfl
theorem wm_496 : Cond.methodLink "FalseParityLaw" (36 : Nat) ({ cls := "FalseParity", name := "now", desc := "(I)I" } : MethodName) ∈ gw := wmi 496 (by decide +kernel) rfl
theorem wm_497 : Cond.instanceMethod ({ cls := "FalseParity", name := "now", desc := "(I)I" } : MethodName) ∈ gw := wmi 497 (by decide +kernel) rfl
theorem wm_498 : Cond.selects "FalseParity" ({ cls := "FalseParity", name := "now", desc := "(I)I" } : MethodName) ({ cls := "FalseParity", name := "now", desc := "(I)I" } : MethodName) ∈ gw := wmi 498 (by decide +kernel) rfl
theorem wm_499 : Cond.code ({ cls := "FalseParity", name := "now", desc := "(I)I" } : MethodName) prog_1_method_7_code (2 : Nat) (Option.some FieldType.int) ∈ gw := wmi 499 (by decide +kernel) rfl
theorem wm_500 : Cond.methodLink "FalseParity" (143 : Nat) ({ cls := "FalseParity$Now", name := "parity", desc := "()I" } : MethodName) ∈ gw := wmi 500 (by decide +kernel) rfl
theorem wm_501 : Cond.instanceMethod ({ cls := "FalseParity$Now", name := "parity", desc := "()I" } : MethodName) ∈ gw := wmi 501 (by decide +kernel) rfl
theorem wm_502 : Cond.selects "FalseParity$Now" ({ cls := "FalseParity$Now", name := "parity", desc := "()I" } : MethodName) ({ cls := "FalseParity$Now", name := "parity", desc := "()I" } : MethodName) ∈ gw := wmi 502 (by decide +kernel) rfl
theorem wm_503 : Cond.code ({ cls := "FalseParity$Now", name := "parity", desc := "()I" } : MethodName) prog_8_method_8_code (1 : Nat) (Option.some FieldType.int) ∈ gw := wmi 503 (by decide +kernel) rfl
theorem wm_504 : Cond.methodLink "FalseParity" (146 : Nat) ({ cls := "FalseParity$Now", name := "away", desc := "()I" } : MethodName) ∈ gw := wmi 504 (by decide +kernel) rfl
theorem wm_505 : Cond.instanceMethod ({ cls := "FalseParity$Now", name := "away", desc := "()I" } : MethodName) ∈ gw := wmi 505 (by decide +kernel) rfl
theorem wm_506 : Cond.selects "FalseParity$Now" ({ cls := "FalseParity$Now", name := "away", desc := "()I" } : MethodName) ({ cls := "FalseParity$Now", name := "away", desc := "()I" } : MethodName) ∈ gw := wmi 506 (by decide +kernel) rfl
theorem wm_507 : Cond.code ({ cls := "FalseParity$Now", name := "away", desc := "()I" } : MethodName) prog_8_method_9_code (1 : Nat) (Option.some FieldType.int) ∈ gw := wmi 507 (by decide +kernel) rfl
theorem wm_508 : Cond.methodLink "FalseParity" (149 : Nat) ({ cls := "FalseParity$Now", name := "refused", desc := "()I" } : MethodName) ∈ gw := wmi 508 (by decide +kernel) rfl
theorem wm_509 : Cond.instanceMethod ({ cls := "FalseParity$Now", name := "refused", desc := "()I" } : MethodName) ∈ gw := wmi 509 (by decide +kernel) rfl
theorem wm_510 : Cond.selects "FalseParity$Now" ({ cls := "FalseParity$Now", name := "refused", desc := "()I" } : MethodName) ({ cls := "FalseParity$Now", name := "refused", desc := "()I" } : MethodName) ∈ gw := wmi 510 (by decide +kernel) rfl
theorem wm_511 : Cond.code ({ cls := "FalseParity$Now", name := "refused", desc := "()I" } : MethodName) prog_8_method_10_code (1 : Nat) (Option.some FieldType.int) ∈ gw := wmi 511 (by decide +kernel) rfl
theorem wm_512 : Cond.methodLink "FalseParity" (152 : Nat) ({ cls := "FalseParity$Board", name := "worthOfAll", desc := "()I" } : MethodName) ∈ gw := wmi 512 (by decide +kernel) rfl
theorem wm_513 : Cond.instanceMethod ({ cls := "FalseParity$Board", name := "worthOfAll", desc := "()I" } : MethodName) ∈ gw := wmi 513 (by decide +kernel) rfl
theorem wm_514 : Cond.selects "FalseParity$Board" ({ cls := "FalseParity$Board", name := "worthOfAll", desc := "()I" } : MethodName) ({ cls := "FalseParity$Board", name := "worthOfAll", desc := "()I" } : MethodName) ∈ gw := wmi 514 (by decide +kernel) rfl
theorem wm_515 : Cond.code ({ cls := "FalseParity$Board", name := "worthOfAll", desc := "()I" } : MethodName) prog_2_method_6_code (1 : Nat) (Option.some FieldType.int) ∈ gw := wmi 515 (by decide +kernel) rfl
theorem wm_516 : Cond.methodLink "FalseParity$Board" (34 : Nat) ({ cls := "FalseParity$Now", name := "away", desc := "()I" } : MethodName) ∈ gw := wmi 516 (by decide +kernel) rfl
theorem wm_517 : Cond.methodLink "FalseParity$Board" (40 : Nat) ({ cls := "FalseParity$Board", name := "worthOf", desc := "(I)I" } : MethodName) ∈ gw := wmi 517 (by decide +kernel) rfl
theorem wm_518 : Cond.instanceMethod ({ cls := "FalseParity$Board", name := "worthOf", desc := "(I)I" } : MethodName) ∈ gw := wmi 518 (by decide +kernel) rfl
theorem wm_519 : Cond.selects "FalseParity$Board" ({ cls := "FalseParity$Board", name := "worthOf", desc := "(I)I" } : MethodName) ({ cls := "FalseParity$Board", name := "worthOf", desc := "(I)I" } : MethodName) ∈ gw := wmi 519 (by decide +kernel) rfl
theorem wm_520 : Cond.code ({ cls := "FalseParity$Board", name := "worthOf", desc := "(I)I" } : MethodName) prog_2_method_8_code (4 : Nat) (Option.some FieldType.int) ∈ gw := wmi 520 (by decide +kernel) rfl
theorem wn_521 : Cond.methodLinkNest "FalseParity$Board" (52 : Nat) ({ cls := "FalseParity", name := "hasBit", desc := "(II)Z" } : MethodName) "FalseParity" ∈ nwl := wni 521 (by decide +kernel) rfl
theorem wm_522 : Cond.methodLink "FalseParity" (155 : Nat) ({ cls := "FalseParity$Board", name := "worthOfFalse", desc := "()I" } : MethodName) ∈ gw := wmi 522 (by decide +kernel) rfl
theorem wm_523 : Cond.instanceMethod ({ cls := "FalseParity$Board", name := "worthOfFalse", desc := "()I" } : MethodName) ∈ gw := wmi 523 (by decide +kernel) rfl
theorem wm_524 : Cond.selects "FalseParity$Board" ({ cls := "FalseParity$Board", name := "worthOfFalse", desc := "()I" } : MethodName) ({ cls := "FalseParity$Board", name := "worthOfFalse", desc := "()I" } : MethodName) ∈ gw := wmi 524 (by decide +kernel) rfl
theorem wm_525 : Cond.code ({ cls := "FalseParity$Board", name := "worthOfFalse", desc := "()I" } : MethodName) prog_2_method_7_code (1 : Nat) (Option.some FieldType.int) ∈ gw := wmi 525 (by decide +kernel) rfl
theorem wm_526 : Cond.methodLink "FalseParity$Board" (44 : Nat) ({ cls := "FalseParity$Board", name := "falseNotes", desc := "()I" } : MethodName) ∈ gw := wmi 526 (by decide +kernel) rfl
theorem wm_528 : Cond.instanceMethod ({ cls := "FalseParity$Board", name := "falseNotes", desc := "()I" } : MethodName) ∈ gw := wmi 528 (by decide +kernel) rfl
theorem wm_529 : Cond.code ({ cls := "FalseParity$Board", name := "falseNotes", desc := "()I" } : MethodName) prog_2_method_11_code (3 : Nat) (Option.some FieldType.int) ∈ gw := wmi 529 (by decide +kernel) rfl
theorem wm_530 : Cond.methodLink "FalseParity$Board" (76 : Nat) ({ cls := "FalseParity$Country", name := "isFalse", desc := "(I)Z" } : MethodName) ∈ gw := wmi 530 (by decide +kernel) rfl
theorem wm_531 : Cond.instanceMethod ({ cls := "FalseParity$Country", name := "isFalse", desc := "(I)Z" } : MethodName) ∈ gw := wmi 531 (by decide +kernel) rfl
theorem wm_532 : Cond.selects "FalseParity$Country" ({ cls := "FalseParity$Country", name := "isFalse", desc := "(I)Z" } : MethodName) ({ cls := "FalseParity$Country", name := "isFalse", desc := "(I)Z" } : MethodName) ∈ gw := wmi 532 (by decide +kernel) rfl
theorem wm_533 : Cond.code ({ cls := "FalseParity$Country", name := "isFalse", desc := "(I)Z" } : MethodName) prog_3_method_6_code (2 : Nat) (Option.some FieldType.boolean) ∈ gw := wmi 533 (by decide +kernel) rfl
theorem wm_534 : Cond.methodLink "FalseParityLaw" (40 : Nat) ({ cls := "FalseParity", name := "passes", desc := "(II)I" } : MethodName) ∈ gw := wmi 534 (by decide +kernel) rfl
theorem wm_535 : Cond.instanceMethod ({ cls := "FalseParity", name := "passes", desc := "(II)I" } : MethodName) ∈ gw := wmi 535 (by decide +kernel) rfl
theorem wm_536 : Cond.selects "FalseParity" ({ cls := "FalseParity", name := "passes", desc := "(II)I" } : MethodName) ({ cls := "FalseParity", name := "passes", desc := "(II)I" } : MethodName) ∈ gw := wmi 536 (by decide +kernel) rfl
theorem wm_537 : Cond.code ({ cls := "FalseParity", name := "passes", desc := "(II)I" } : MethodName) prog_1_method_8_code (3 : Nat) (Option.some FieldType.int) ∈ gw := wmi 537 (by decide +kernel) rfl
theorem wm_538 : Cond.methodLink "FalseParity" (162 : Nat) ({ cls := "FalseParity$History", name := "push", desc := "(LFalseParity$Now;)V" } : MethodName) ∈ gw := wmi 538 (by decide +kernel) rfl
theorem wm_539 : Cond.instanceMethod ({ cls := "FalseParity$History", name := "push", desc := "(LFalseParity$Now;)V" } : MethodName) ∈ gw := wmi 539 (by decide +kernel) rfl
theorem wm_540 : Cond.selects "FalseParity$History" ({ cls := "FalseParity$History", name := "push", desc := "(LFalseParity$Now;)V" } : MethodName) ({ cls := "FalseParity$History", name := "push", desc := "(LFalseParity$Now;)V" } : MethodName) ∈ gw := wmi 540 (by decide +kernel) rfl
theorem wm_541 : Cond.code ({ cls := "FalseParity$History", name := "push", desc := "(LFalseParity$Now;)V" } : MethodName) prog_4_method_3_code (2 : Nat) (Option.none : Option FieldType) ∈ gw := wmi 541 (by decide +kernel) rfl
theorem wm_542 : Cond.methodLink "FalseParity$History" (24 : Nat) ({ cls := "FalseParity$Now", name := "copyTo", desc := "([II)V" } : MethodName) ∈ gw := wmi 542 (by decide +kernel) rfl
theorem wm_543 : Cond.instanceMethod ({ cls := "FalseParity$Now", name := "copyTo", desc := "([II)V" } : MethodName) ∈ gw := wmi 543 (by decide +kernel) rfl
theorem wm_544 : Cond.selects "FalseParity$Now" ({ cls := "FalseParity$Now", name := "copyTo", desc := "([II)V" } : MethodName) ({ cls := "FalseParity$Now", name := "copyTo", desc := "([II)V" } : MethodName) ∈ gw := wmi 544 (by decide +kernel) rfl
theorem wm_545 : Cond.code ({ cls := "FalseParity$Now", name := "copyTo", desc := "([II)V" } : MethodName) prog_8_method_3_code (3 : Nat) (Option.none : Option FieldType) ∈ gw := wmi 545 (by decide +kernel) rfl
theorem wm_546 : Cond.methodLink "FalseParity$History" (28 : Nat) ({ cls := "java/lang/Math", name := "min", desc := "(II)I" } : MethodName) ∈ gw := wmi 546 (by decide +kernel) rfl
theorem wm_547 : Cond.methodLink "FalseParity" (166 : Nat) ({ cls := "FalseParity$Paths", name := "takes", desc := "(II)Z" } : MethodName) ∈ gw := wmi 547 (by decide +kernel) rfl
theorem wm_548 : Cond.instanceMethod ({ cls := "FalseParity$Paths", name := "takes", desc := "(II)Z" } : MethodName) ∈ gw := wmi 548 (by decide +kernel) rfl
theorem wm_549 : Cond.selects "FalseParity$Paths" ({ cls := "FalseParity$Paths", name := "takes", desc := "(II)Z" } : MethodName) ({ cls := "FalseParity$Paths", name := "takes", desc := "(II)Z" } : MethodName) ∈ gw := wmi 549 (by decide +kernel) rfl
theorem wm_550 : Cond.code ({ cls := "FalseParity$Paths", name := "takes", desc := "(II)Z" } : MethodName) prog_9_method_3_code (3 : Nat) (Option.some FieldType.boolean) ∈ gw := wmi 550 (by decide +kernel) rfl
theorem wm_551 : Cond.methodLink "FalseParity$Paths" (35 : Nat) ({ cls := "FalseParity$Paths", name := "takers", desc := "(I)I" } : MethodName) ∈ gw := wmi 551 (by decide +kernel) rfl
theorem wn_552 : Cond.methodLinkNest "FalseParity$Paths" (38 : Nat) ({ cls := "FalseParity", name := "hasBit", desc := "(II)Z" } : MethodName) "FalseParity" ∈ nwl := wni 552 (by decide +kernel) rfl
theorem wm_553 : Cond.methodLink "FalseParity" (170 : Nat) ({ cls := "FalseParity$Now", name := "refuse", desc := "(I)V" } : MethodName) ∈ gw := wmi 553 (by decide +kernel) rfl
theorem wm_554 : Cond.instanceMethod ({ cls := "FalseParity$Now", name := "refuse", desc := "(I)V" } : MethodName) ∈ gw := wmi 554 (by decide +kernel) rfl
theorem wm_555 : Cond.selects "FalseParity$Now" ({ cls := "FalseParity$Now", name := "refuse", desc := "(I)V" } : MethodName) ({ cls := "FalseParity$Now", name := "refuse", desc := "(I)V" } : MethodName) ∈ gw := wmi 555 (by decide +kernel) rfl
theorem wm_556 : Cond.code ({ cls := "FalseParity$Now", name := "refuse", desc := "(I)V" } : MethodName) prog_8_method_15_code (2 : Nat) (Option.none : Option FieldType) ∈ gw := wmi 556 (by decide +kernel) rfl
theorem wm_557 : Cond.methodLink "FalseParity" (174 : Nat) ({ cls := "FalseParity$Now", name := "take", desc := "(II)V" } : MethodName) ∈ gw := wmi 557 (by decide +kernel) rfl
theorem wm_558 : Cond.instanceMethod ({ cls := "FalseParity$Now", name := "take", desc := "(II)V" } : MethodName) ∈ gw := wmi 558 (by decide +kernel) rfl
theorem wm_559 : Cond.selects "FalseParity$Now" ({ cls := "FalseParity$Now", name := "take", desc := "(II)V" } : MethodName) ({ cls := "FalseParity$Now", name := "take", desc := "(II)V" } : MethodName) ∈ gw := wmi 559 (by decide +kernel) rfl
theorem wm_560 : Cond.code ({ cls := "FalseParity$Now", name := "take", desc := "(II)V" } : MethodName) prog_8_method_13_code (3 : Nat) (Option.none : Option FieldType) ∈ gw := wmi 560 (by decide +kernel) rfl
theorem wm_561 : Cond.methodLink "FalseParity" (178 : Nat) ({ cls := "FalseParity$Country", name := "isFalse", desc := "(I)Z" } : MethodName) ∈ gw := wmi 561 (by decide +kernel) rfl
theorem wm_562 : Cond.methodLink "FalseParity" (183 : Nat) ({ cls := "FalseParity$Now", name := "giveParity", desc := "(I)V" } : MethodName) ∈ gw := wmi 562 (by decide +kernel) rfl
theorem wm_563 : Cond.instanceMethod ({ cls := "FalseParity$Now", name := "giveParity", desc := "(I)V" } : MethodName) ∈ gw := wmi 563 (by decide +kernel) rfl
theorem wm_564 : Cond.selects "FalseParity$Now" ({ cls := "FalseParity$Now", name := "giveParity", desc := "(I)V" } : MethodName) ({ cls := "FalseParity$Now", name := "giveParity", desc := "(I)V" } : MethodName) ∈ gw := wmi 564 (by decide +kernel) rfl
theorem wm_565 : Cond.code ({ cls := "FalseParity$Now", name := "giveParity", desc := "(I)V" } : MethodName) prog_8_method_14_code (2 : Nat) (Option.none : Option FieldType) ∈ gw := wmi 565 (by decide +kernel) rfl
theorem wm_566 : Cond.methodLink "FalseParityLaw" (44 : Nat) ({ cls := "FalseParity", name := "teaches", desc := "(II)I" } : MethodName) ∈ gw := wmi 566 (by decide +kernel) rfl
theorem wm_567 : Cond.instanceMethod ({ cls := "FalseParity", name := "teaches", desc := "(II)I" } : MethodName) ∈ gw := wmi 567 (by decide +kernel) rfl
theorem wm_568 : Cond.selects "FalseParity" ({ cls := "FalseParity", name := "teaches", desc := "(II)I" } : MethodName) ({ cls := "FalseParity", name := "teaches", desc := "(II)I" } : MethodName) ∈ gw := wmi 568 (by decide +kernel) rfl
theorem wm_569 : Cond.code ({ cls := "FalseParity", name := "teaches", desc := "(II)I" } : MethodName) prog_1_method_9_code (4 : Nat) (Option.some FieldType.int) ∈ gw := wmi 569 (by decide +kernel) rfl
theorem wm_570 : Cond.methodLink "FalseParity" (186 : Nat) ({ cls := "FalseParity$Now", name := "teach", desc := "(II)V" } : MethodName) ∈ gw := wmi 570 (by decide +kernel) rfl
theorem wm_571 : Cond.instanceMethod ({ cls := "FalseParity$Now", name := "teach", desc := "(II)V" } : MethodName) ∈ gw := wmi 571 (by decide +kernel) rfl
theorem wm_572 : Cond.selects "FalseParity$Now" ({ cls := "FalseParity$Now", name := "teach", desc := "(II)V" } : MethodName) ({ cls := "FalseParity$Now", name := "teach", desc := "(II)V" } : MethodName) ∈ gw := wmi 572 (by decide +kernel) rfl
theorem wm_573 : Cond.code ({ cls := "FalseParity$Now", name := "teach", desc := "(II)V" } : MethodName) prog_8_method_16_code (3 : Nat) (Option.none : Option FieldType) ∈ gw := wmi 573 (by decide +kernel) rfl
theorem wm_574 : Cond.methodLink "FalseParityLaw" (48 : Nat) ({ cls := "FalseParity", name := "sends", desc := "(II)I" } : MethodName) ∈ gw := wmi 574 (by decide +kernel) rfl
theorem wm_575 : Cond.instanceMethod ({ cls := "FalseParity", name := "sends", desc := "(II)I" } : MethodName) ∈ gw := wmi 575 (by decide +kernel) rfl
theorem wm_576 : Cond.selects "FalseParity" ({ cls := "FalseParity", name := "sends", desc := "(II)I" } : MethodName) ({ cls := "FalseParity", name := "sends", desc := "(II)I" } : MethodName) ∈ gw := wmi 576 (by decide +kernel) rfl
theorem wm_577 : Cond.code ({ cls := "FalseParity", name := "sends", desc := "(II)I" } : MethodName) prog_1_method_10_code (3 : Nat) (Option.some FieldType.int) ∈ gw := wmi 577 (by decide +kernel) rfl
theorem wm_578 : Cond.methodLink "FalseParity" (189 : Nat) ({ cls := "FalseParity", name := "isYesOrNo", desc := "(I)Z" } : MethodName) ∈ gw := wmi 578 (by decide +kernel) rfl
theorem wm_579 : Cond.static ({ cls := "FalseParity", name := "isYesOrNo", desc := "(I)Z" } : MethodName) ∈ gw := wmi 579 (by decide +kernel) rfl
theorem wm_580 : Cond.code ({ cls := "FalseParity", name := "isYesOrNo", desc := "(I)Z" } : MethodName) prog_1_method_28_code (1 : Nat) (Option.some FieldType.boolean) ∈ gw := wmi 580 (by decide +kernel) rfl
theorem wm_581 : Cond.methodLink "FalseParity" (192 : Nat) ({ cls := "FalseParity$Now", name := "turnAway", desc := "(I)V" } : MethodName) ∈ gw := wmi 581 (by decide +kernel) rfl
theorem wm_582 : Cond.instanceMethod ({ cls := "FalseParity$Now", name := "turnAway", desc := "(I)V" } : MethodName) ∈ gw := wmi 582 (by decide +kernel) rfl
theorem wm_583 : Cond.selects "FalseParity$Now" ({ cls := "FalseParity$Now", name := "turnAway", desc := "(I)V" } : MethodName) ({ cls := "FalseParity$Now", name := "turnAway", desc := "(I)V" } : MethodName) ∈ gw := wmi 583 (by decide +kernel) rfl
theorem wm_584 : Cond.code ({ cls := "FalseParity$Now", name := "turnAway", desc := "(I)V" } : MethodName) prog_8_method_17_code (2 : Nat) (Option.none : Option FieldType) ∈ gw := wmi 584 (by decide +kernel) rfl
theorem wm_585 : Cond.methodLink "FalseParity" (195 : Nat) ({ cls := "java/lang/Integer", name := "bitCount", desc := "(I)I" } : MethodName) ∈ gw := wmi 585 (by decide +kernel) rfl
theorem wm_586 : Cond.static ({ cls := "java/lang/Integer", name := "bitCount", desc := "(I)I" } : MethodName) ∈ gw := wmi 586 (by decide +kernel) rfl
theorem wm_587 : Cond.code ({ cls := "java/lang/Integer", name := "bitCount", desc := "(I)I" } : MethodName) prog_14_method_49_code (1 : Nat) (Option.some FieldType.int) ∈ gw := wmi 587 (by decide +kernel) rfl
theorem wm_588 : Cond.constant "java/lang/Integer" (265 : Nat) (1431655765 : Int32) ∈ gw := wmi 588 (by decide +kernel) rfl
theorem wm_589 : Cond.constant "java/lang/Integer" (266 : Nat) (858993459 : Int32) ∈ gw := wmi 589 (by decide +kernel) rfl
theorem wm_590 : Cond.constant "java/lang/Integer" (267 : Nat) (252645135 : Int32) ∈ gw := wmi 590 (by decide +kernel) rfl
theorem wm_591 : Cond.methodLink "FalseParityLaw" (52 : Nat) ({ cls := "FalseParity", name := "undo", desc := "()I" } : MethodName) ∈ gw := wmi 591 (by decide +kernel) rfl
theorem wm_592 : Cond.instanceMethod ({ cls := "FalseParity", name := "undo", desc := "()I" } : MethodName) ∈ gw := wmi 592 (by decide +kernel) rfl
theorem wm_593 : Cond.selects "FalseParity" ({ cls := "FalseParity", name := "undo", desc := "()I" } : MethodName) ({ cls := "FalseParity", name := "undo", desc := "()I" } : MethodName) ∈ gw := wmi 593 (by decide +kernel) rfl
theorem wm_594 : Cond.code ({ cls := "FalseParity", name := "undo", desc := "()I" } : MethodName) prog_1_method_11_code (1 : Nat) (Option.some FieldType.int) ∈ gw := wmi 594 (by decide +kernel) rfl
theorem wm_595 : Cond.methodLink "FalseParity" (200 : Nat) ({ cls := "FalseParity$History", name := "pop", desc := "(LFalseParity$Now;)V" } : MethodName) ∈ gw := wmi 595 (by decide +kernel) rfl
theorem wm_596 : Cond.instanceMethod ({ cls := "FalseParity$History", name := "pop", desc := "(LFalseParity$Now;)V" } : MethodName) ∈ gw := wmi 596 (by decide +kernel) rfl
theorem wm_597 : Cond.selects "FalseParity$History" ({ cls := "FalseParity$History", name := "pop", desc := "(LFalseParity$Now;)V" } : MethodName) ({ cls := "FalseParity$History", name := "pop", desc := "(LFalseParity$Now;)V" } : MethodName) ∈ gw := wmi 597 (by decide +kernel) rfl
theorem wm_598 : Cond.code ({ cls := "FalseParity$History", name := "pop", desc := "(LFalseParity$Now;)V" } : MethodName) prog_4_method_4_code (2 : Nat) (Option.none : Option FieldType) ∈ gw := wmi 598 (by decide +kernel) rfl
theorem wm_599 : Cond.methodLink "FalseParity$History" (34 : Nat) ({ cls := "FalseParity$Now", name := "copyFrom", desc := "([II)V" } : MethodName) ∈ gw := wmi 599 (by decide +kernel) rfl
theorem wm_600 : Cond.instanceMethod ({ cls := "FalseParity$Now", name := "copyFrom", desc := "([II)V" } : MethodName) ∈ gw := wmi 600 (by decide +kernel) rfl
theorem wm_601 : Cond.selects "FalseParity$Now" ({ cls := "FalseParity$Now", name := "copyFrom", desc := "([II)V" } : MethodName) ({ cls := "FalseParity$Now", name := "copyFrom", desc := "([II)V" } : MethodName) ∈ gw := wmi 601 (by decide +kernel) rfl
theorem wm_602 : Cond.code ({ cls := "FalseParity$Now", name := "copyFrom", desc := "([II)V" } : MethodName) prog_8_method_4_code (3 : Nat) (Option.none : Option FieldType) ∈ gw := wmi 602 (by decide +kernel) rfl
theorem wm_603 : Cond.methodLink "FalseParityLaw" (56 : Nat) ({ cls := "FalseParity", name := "soonest", desc := "(II)I" } : MethodName) ∈ gw := wmi 603 (by decide +kernel) rfl
theorem wm_604 : Cond.instanceMethod ({ cls := "FalseParity", name := "soonest", desc := "(II)I" } : MethodName) ∈ gw := wmi 604 (by decide +kernel) rfl
theorem wm_605 : Cond.selects "FalseParity" ({ cls := "FalseParity", name := "soonest", desc := "(II)I" } : MethodName) ({ cls := "FalseParity", name := "soonest", desc := "(II)I" } : MethodName) ∈ gw := wmi 605 (by decide +kernel) rfl
theorem wm_606 : Cond.code ({ cls := "FalseParity", name := "soonest", desc := "(II)I" } : MethodName) prog_1_method_12_code (4 : Nat) (Option.some FieldType.int) ∈ gw := wmi 606 (by decide +kernel) rfl
theorem wm_607 : Cond.methodLink "FalseParity" (203 : Nat) ({ cls := "FalseParity$Paths", name := "neededForParity", desc := "(I)I" } : MethodName) ∈ gw := wmi 607 (by decide +kernel) rfl
theorem wm_608 : Cond.instanceMethod ({ cls := "FalseParity$Paths", name := "neededForParity", desc := "(I)I" } : MethodName) ∈ gw := wmi 608 (by decide +kernel) rfl
theorem wm_609 : Cond.selects "FalseParity$Paths" ({ cls := "FalseParity$Paths", name := "neededForParity", desc := "(I)I" } : MethodName) ({ cls := "FalseParity$Paths", name := "neededForParity", desc := "(I)I" } : MethodName) ∈ gw := wmi 609 (by decide +kernel) rfl
theorem wm_610 : Cond.code ({ cls := "FalseParity$Paths", name := "neededForParity", desc := "(I)I" } : MethodName) prog_9_method_4_code (2 : Nat) (Option.some FieldType.int) ∈ gw := wmi 610 (by decide +kernel) rfl
theorem wm_611 : Cond.methodLink "FalseParity$Paths" (45 : Nat) ({ cls := "FalseParity$Now", name := "uses", desc := "(I)I" } : MethodName) ∈ gw := wmi 611 (by decide +kernel) rfl
theorem wm_612 : Cond.methodLink "FalseParity" (206 : Nat) ({ cls := "FalseParity$Paths", name := "canGoOn", desc := "(II)Z" } : MethodName) ∈ gw := wmi 612 (by decide +kernel) rfl
theorem wm_613 : Cond.instanceMethod ({ cls := "FalseParity$Paths", name := "canGoOn", desc := "(II)Z" } : MethodName) ∈ gw := wmi 613 (by decide +kernel) rfl
theorem wm_614 : Cond.selects "FalseParity$Paths" ({ cls := "FalseParity$Paths", name := "canGoOn", desc := "(II)Z" } : MethodName) ({ cls := "FalseParity$Paths", name := "canGoOn", desc := "(II)Z" } : MethodName) ∈ gw := wmi 614 (by decide +kernel) rfl
theorem wm_615 : Cond.code ({ cls := "FalseParity$Paths", name := "canGoOn", desc := "(II)Z" } : MethodName) prog_9_method_5_code (4 : Nat) (Option.some FieldType.boolean) ∈ gw := wmi 615 (by decide +kernel) rfl
theorem wm_616 : Cond.methodLink "FalseParity$Paths" (48 : Nat) ({ cls := "FalseParity$Paths", name := "choices", desc := "(II)I" } : MethodName) ∈ gw := wmi 616 (by decide +kernel) rfl
theorem wm_618 : Cond.instanceMethod ({ cls := "FalseParity$Paths", name := "choices", desc := "(II)I" } : MethodName) ∈ gw := wmi 618 (by decide +kernel) rfl
theorem wm_619 : Cond.code ({ cls := "FalseParity$Paths", name := "choices", desc := "(II)I" } : MethodName) prog_9_method_11_code (5 : Nat) (Option.some FieldType.int) ∈ gw := wmi 619 (by decide +kernel) rfl
theorem wm_620 : Cond.methodLink "FalseParity$Paths" (58 : Nat) ({ cls := "FalseParity$Paths", name := "hasParityBehind", desc := "(II)Z" } : MethodName) ∈ gw := wmi 620 (by decide +kernel) rfl
theorem wm_622 : Cond.instanceMethod ({ cls := "FalseParity$Paths", name := "hasParityBehind", desc := "(II)Z" } : MethodName) ∈ gw := wmi 622 (by decide +kernel) rfl
theorem wm_623 : Cond.code ({ cls := "FalseParity$Paths", name := "hasParityBehind", desc := "(II)Z" } : MethodName) prog_9_method_12_code (3 : Nat) (Option.some FieldType.boolean) ∈ gw := wmi 623 (by decide +kernel) rfl
theorem wm_624 : Cond.methodLink "FalseParity$Paths" (66 : Nat) ({ cls := "FalseParity$Country", name := "isFalse", desc := "(I)Z" } : MethodName) ∈ gw := wmi 624 (by decide +kernel) rfl
theorem wm_625 : Cond.methodLink "FalseParity$Paths" (52 : Nat) ({ cls := "FalseParity$Now", name := "holder", desc := "(I)I" } : MethodName) ∈ gw := wmi 625 (by decide +kernel) rfl
theorem wm_626 : Cond.methodLink "FalseParity$Paths" (61 : Nat) ({ cls := "java/lang/Integer", name := "bitCount", desc := "(I)I" } : MethodName) ∈ gw := wmi 626 (by decide +kernel) rfl
theorem wm_627 : Cond.methodLink "FalseParity" (209 : Nat) ({ cls := "FalseParity$Paths", name := "personOfRow", desc := "(II)I" } : MethodName) ∈ gw := wmi 627 (by decide +kernel) rfl
theorem wm_628 : Cond.instanceMethod ({ cls := "FalseParity$Paths", name := "personOfRow", desc := "(II)I" } : MethodName) ∈ gw := wmi 628 (by decide +kernel) rfl
theorem wm_629 : Cond.selects "FalseParity$Paths" ({ cls := "FalseParity$Paths", name := "personOfRow", desc := "(II)I" } : MethodName) ({ cls := "FalseParity$Paths", name := "personOfRow", desc := "(II)I" } : MethodName) ∈ gw := wmi 629 (by decide +kernel) rfl
theorem wm_630 : Cond.code ({ cls := "FalseParity$Paths", name := "personOfRow", desc := "(II)I" } : MethodName) prog_9_method_6_code (6 : Nat) (Option.some FieldType.int) ∈ gw := wmi 630 (by decide +kernel) rfl
theorem wm_631 : Cond.methodLink "FalseParity$Paths" (55 : Nat) ({ cls := "FalseParity$Paths", name := "lowestOther", desc := "(II)I" } : MethodName) ∈ gw := wmi 631 (by decide +kernel) rfl
theorem wm_633 : Cond.instanceMethod ({ cls := "FalseParity$Paths", name := "lowestOther", desc := "(II)I" } : MethodName) ∈ gw := wmi 633 (by decide +kernel) rfl
theorem wm_634 : Cond.code ({ cls := "FalseParity$Paths", name := "lowestOther", desc := "(II)I" } : MethodName) prog_9_method_7_code (4 : Nat) (Option.some FieldType.int) ∈ gw := wmi 634 (by decide +kernel) rfl
theorem wm_635 : Cond.methodLink "FalseParityLaw" (60 : Nat) ({ cls := "FalseParity", name := "till", desc := "(I)I" } : MethodName) ∈ gw := wmi 635 (by decide +kernel) rfl
theorem wm_636 : Cond.instanceMethod ({ cls := "FalseParity", name := "till", desc := "(I)I" } : MethodName) ∈ gw := wmi 636 (by decide +kernel) rfl
theorem wm_637 : Cond.selects "FalseParity" ({ cls := "FalseParity", name := "till", desc := "(I)I" } : MethodName) ({ cls := "FalseParity", name := "till", desc := "(I)I" } : MethodName) ∈ gw := wmi 637 (by decide +kernel) rfl
theorem wm_638 : Cond.code ({ cls := "FalseParity", name := "till", desc := "(I)I" } : MethodName) prog_1_method_13_code (2 : Nat) (Option.some FieldType.int) ∈ gw := wmi 638 (by decide +kernel) rfl
theorem wm_639 : Cond.methodLink "FalseParity" (213 : Nat) ({ cls := "FalseParity$Paths", name := "most", desc := "(I)I" } : MethodName) ∈ gw := wmi 639 (by decide +kernel) rfl
theorem wm_640 : Cond.instanceMethod ({ cls := "FalseParity$Paths", name := "most", desc := "(I)I" } : MethodName) ∈ gw := wmi 640 (by decide +kernel) rfl
theorem wm_641 : Cond.selects "FalseParity$Paths" ({ cls := "FalseParity$Paths", name := "most", desc := "(I)I" } : MethodName) ({ cls := "FalseParity$Paths", name := "most", desc := "(I)I" } : MethodName) ∈ gw := wmi 641 (by decide +kernel) rfl
theorem wm_642 : Cond.code ({ cls := "FalseParity$Paths", name := "most", desc := "(I)I" } : MethodName) prog_9_method_8_code (3 : Nat) (Option.some FieldType.int) ∈ gw := wmi 642 (by decide +kernel) rfl
theorem wm_643 : Cond.methodLink "FalseParityLaw" (64 : Nat) ({ cls := "FalseParity", name := "odds", desc := "(III)I" } : MethodName) ∈ gw := wmi 643 (by decide +kernel) rfl
theorem wm_644 : Cond.instanceMethod ({ cls := "FalseParity", name := "odds", desc := "(III)I" } : MethodName) ∈ gw := wmi 644 (by decide +kernel) rfl
theorem wm_645 : Cond.selects "FalseParity" ({ cls := "FalseParity", name := "odds", desc := "(III)I" } : MethodName) ({ cls := "FalseParity", name := "odds", desc := "(III)I" } : MethodName) ∈ gw := wmi 645 (by decide +kernel) rfl
theorem wm_646 : Cond.code ({ cls := "FalseParity", name := "odds", desc := "(III)I" } : MethodName) prog_1_method_14_code (6 : Nat) (Option.some FieldType.int) ∈ gw := wmi 646 (by decide +kernel) rfl
theorem wm_647 : Cond.methodLink "FalseParity" (216 : Nat) ({ cls := "FalseParity$Paths", name := "waysTaken", desc := "(II)I" } : MethodName) ∈ gw := wmi 647 (by decide +kernel) rfl
theorem wm_648 : Cond.instanceMethod ({ cls := "FalseParity$Paths", name := "waysTaken", desc := "(II)I" } : MethodName) ∈ gw := wmi 648 (by decide +kernel) rfl
theorem wm_649 : Cond.selects "FalseParity$Paths" ({ cls := "FalseParity$Paths", name := "waysTaken", desc := "(II)I" } : MethodName) ({ cls := "FalseParity$Paths", name := "waysTaken", desc := "(II)I" } : MethodName) ∈ gw := wmi 649 (by decide +kernel) rfl
theorem wm_650 : Cond.code ({ cls := "FalseParity$Paths", name := "waysTaken", desc := "(II)I" } : MethodName) prog_9_method_9_code (5 : Nat) (Option.some FieldType.int) ∈ gw := wmi 650 (by decide +kernel) rfl
theorem wm_651 : Cond.methodLink "FalseParity" (219 : Nat) ({ cls := "FalseParity$Paths", name := "waysAtAll", desc := "(I)I" } : MethodName) ∈ gw := wmi 651 (by decide +kernel) rfl
theorem wm_652 : Cond.instanceMethod ({ cls := "FalseParity$Paths", name := "waysAtAll", desc := "(I)I" } : MethodName) ∈ gw := wmi 652 (by decide +kernel) rfl
theorem wm_653 : Cond.selects "FalseParity$Paths" ({ cls := "FalseParity$Paths", name := "waysAtAll", desc := "(I)I" } : MethodName) ({ cls := "FalseParity$Paths", name := "waysAtAll", desc := "(I)I" } : MethodName) ∈ gw := wmi 653 (by decide +kernel) rfl
theorem wm_654 : Cond.code ({ cls := "FalseParity$Paths", name := "waysAtAll", desc := "(I)I" } : MethodName) prog_9_method_10_code (4 : Nat) (Option.some FieldType.int) ∈ gw := wmi 654 (by decide +kernel) rfl
theorem wm_655 : Cond.methodLink "FalseParity" (222 : Nat) ({ cls := "FalseParity", name := "inLeastTerms", desc := "(III)I" } : MethodName) ∈ gw := wmi 655 (by decide +kernel) rfl
theorem wm_656 : Cond.static ({ cls := "FalseParity", name := "inLeastTerms", desc := "(III)I" } : MethodName) ∈ gw := wmi 656 (by decide +kernel) rfl
theorem wm_657 : Cond.code ({ cls := "FalseParity", name := "inLeastTerms", desc := "(III)I" } : MethodName) prog_1_method_31_code (4 : Nat) (Option.some FieldType.int) ∈ gw := wmi 657 (by decide +kernel) rfl
theorem wm_658 : Cond.methodLink "FalseParityLaw" (69 : Nat) ({ cls := "FalseParity", name := "saw", desc := "(II)I" } : MethodName) ∈ gw := wmi 658 (by decide +kernel) rfl
theorem wm_659 : Cond.instanceMethod ({ cls := "FalseParity", name := "saw", desc := "(II)I" } : MethodName) ∈ gw := wmi 659 (by decide +kernel) rfl
theorem wm_660 : Cond.selects "FalseParity" ({ cls := "FalseParity", name := "saw", desc := "(II)I" } : MethodName) ({ cls := "FalseParity", name := "saw", desc := "(II)I" } : MethodName) ∈ gw := wmi 660 (by decide +kernel) rfl
theorem wm_661 : Cond.code ({ cls := "FalseParity", name := "saw", desc := "(II)I" } : MethodName) prog_1_method_15_code (3 : Nat) (Option.some FieldType.int) ∈ gw := wmi 661 (by decide +kernel) rfl
theorem wm_662 : Cond.methodLink "FalseParity" (226 : Nat) ({ cls := "FalseParity$Marks", name := "add", desc := "(II)I" } : MethodName) ∈ gw := wmi 662 (by decide +kernel) rfl
theorem wm_663 : Cond.instanceMethod ({ cls := "FalseParity$Marks", name := "add", desc := "(II)I" } : MethodName) ∈ gw := wmi 663 (by decide +kernel) rfl
theorem wm_664 : Cond.selects "FalseParity$Marks" ({ cls := "FalseParity$Marks", name := "add", desc := "(II)I" } : MethodName) ({ cls := "FalseParity$Marks", name := "add", desc := "(II)I" } : MethodName) ∈ gw := wmi 664 (by decide +kernel) rfl
theorem wm_665 : Cond.code ({ cls := "FalseParity$Marks", name := "add", desc := "(II)I" } : MethodName) prog_7_method_3_code (3 : Nat) (Option.some FieldType.int) ∈ gw := wmi 665 (by decide +kernel) rfl
theorem wm_666 : Cond.methodLink "FalseParityLaw" (73 : Nat) ({ cls := "FalseParity", name := "canBe", desc := "(I)I" } : MethodName) ∈ gw := wmi 666 (by decide +kernel) rfl
theorem wm_667 : Cond.instanceMethod ({ cls := "FalseParity", name := "canBe", desc := "(I)I" } : MethodName) ∈ gw := wmi 667 (by decide +kernel) rfl
theorem wm_668 : Cond.selects "FalseParity" ({ cls := "FalseParity", name := "canBe", desc := "(I)I" } : MethodName) ({ cls := "FalseParity", name := "canBe", desc := "(I)I" } : MethodName) ∈ gw := wmi 668 (by decide +kernel) rfl
theorem wm_669 : Cond.code ({ cls := "FalseParity", name := "canBe", desc := "(I)I" } : MethodName) prog_1_method_16_code (2 : Nat) (Option.some FieldType.int) ∈ gw := wmi 669 (by decide +kernel) rfl
theorem wm_670 : Cond.methodLink "FalseParity" (228 : Nat) ({ cls := "FalseParity$Marks", name := "howMany", desc := "()I" } : MethodName) ∈ gw := wmi 670 (by decide +kernel) rfl
theorem wm_671 : Cond.instanceMethod ({ cls := "FalseParity$Marks", name := "howMany", desc := "()I" } : MethodName) ∈ gw := wmi 671 (by decide +kernel) rfl
theorem wm_672 : Cond.selects "FalseParity$Marks" ({ cls := "FalseParity$Marks", name := "howMany", desc := "()I" } : MethodName) ({ cls := "FalseParity$Marks", name := "howMany", desc := "()I" } : MethodName) ∈ gw := wmi 672 (by decide +kernel) rfl
theorem wm_673 : Cond.code ({ cls := "FalseParity$Marks", name := "howMany", desc := "()I" } : MethodName) prog_7_method_4_code (3 : Nat) (Option.some FieldType.int) ∈ gw := wmi 673 (by decide +kernel) rfl
theorem wm_674 : Cond.methodLink "FalseParity$Marks" (30 : Nat) ({ cls := "FalseParity$Marks", name := "fits", desc := "(I)Z" } : MethodName) ∈ gw := wmi 674 (by decide +kernel) rfl
theorem wm_676 : Cond.instanceMethod ({ cls := "FalseParity$Marks", name := "fits", desc := "(I)Z" } : MethodName) ∈ gw := wmi 676 (by decide +kernel) rfl
theorem wm_677 : Cond.code ({ cls := "FalseParity$Marks", name := "fits", desc := "(I)Z" } : MethodName) prog_7_method_9_code (3 : Nat) (Option.some FieldType.boolean) ∈ gw := wmi 677 (by decide +kernel) rfl
theorem wm_678 : Cond.methodLink "FalseParity$Marks" (53 : Nat) ({ cls := "FalseParity$Marks", name := "wouldTake", desc := "(II)I" } : MethodName) ∈ gw := wmi 678 (by decide +kernel) rfl
theorem wm_680 : Cond.instanceMethod ({ cls := "FalseParity$Marks", name := "wouldTake", desc := "(II)I" } : MethodName) ∈ gw := wmi 680 (by decide +kernel) rfl
theorem wm_681 : Cond.code ({ cls := "FalseParity$Marks", name := "wouldTake", desc := "(II)I" } : MethodName) prog_7_method_10_code (3 : Nat) (Option.some FieldType.int) ∈ gw := wmi 681 (by decide +kernel) rfl
theorem wm_682 : Cond.methodLink "FalseParity$Marks" (56 : Nat) ({ cls := "FalseParity$Now", name := "looks", desc := "(I)I" } : MethodName) ∈ gw := wmi 682 (by decide +kernel) rfl
theorem wm_683 : Cond.methodLink "FalseParity" (231 : Nat) ({ cls := "FalseParity$Marks", name := "least", desc := "()I" } : MethodName) ∈ gw := wmi 683 (by decide +kernel) rfl
theorem wm_684 : Cond.instanceMethod ({ cls := "FalseParity$Marks", name := "least", desc := "()I" } : MethodName) ∈ gw := wmi 684 (by decide +kernel) rfl
theorem wm_685 : Cond.selects "FalseParity$Marks" ({ cls := "FalseParity$Marks", name := "least", desc := "()I" } : MethodName) ({ cls := "FalseParity$Marks", name := "least", desc := "()I" } : MethodName) ∈ gw := wmi 685 (by decide +kernel) rfl
theorem wm_686 : Cond.code ({ cls := "FalseParity$Marks", name := "least", desc := "()I" } : MethodName) prog_7_method_5_code (2 : Nat) (Option.some FieldType.int) ∈ gw := wmi 686 (by decide +kernel) rfl
theorem wm_687 : Cond.methodLink "FalseParity" (234 : Nat) ({ cls := "FalseParity$Marks", name := "inAll", desc := "()I" } : MethodName) ∈ gw := wmi 687 (by decide +kernel) rfl
theorem wm_688 : Cond.instanceMethod ({ cls := "FalseParity$Marks", name := "inAll", desc := "()I" } : MethodName) ∈ gw := wmi 688 (by decide +kernel) rfl
theorem wm_689 : Cond.selects "FalseParity$Marks" ({ cls := "FalseParity$Marks", name := "inAll", desc := "()I" } : MethodName) ({ cls := "FalseParity$Marks", name := "inAll", desc := "()I" } : MethodName) ∈ gw := wmi 689 (by decide +kernel) rfl
theorem wm_690 : Cond.code ({ cls := "FalseParity$Marks", name := "inAll", desc := "()I" } : MethodName) prog_7_method_6_code (3 : Nat) (Option.some FieldType.int) ∈ gw := wmi 690 (by decide +kernel) rfl
theorem wm_691 : Cond.methodLink "FalseParityLaw" (77 : Nat) ({ cls := "FalseParity", name := "show", desc := "()I" } : MethodName) ∈ gw := wmi 691 (by decide +kernel) rfl
theorem wm_692 : Cond.instanceMethod ({ cls := "FalseParity", name := "show", desc := "()I" } : MethodName) ∈ gw := wmi 692 (by decide +kernel) rfl
theorem wm_693 : Cond.selects "FalseParity" ({ cls := "FalseParity", name := "show", desc := "()I" } : MethodName) ({ cls := "FalseParity", name := "show", desc := "()I" } : MethodName) ∈ gw := wmi 693 (by decide +kernel) rfl
theorem wm_694 : Cond.code ({ cls := "FalseParity", name := "show", desc := "()I" } : MethodName) prog_1_method_17_code (1 : Nat) (Option.some FieldType.int) ∈ gw := wmi 694 (by decide +kernel) rfl
theorem wm_695 : Cond.methodLink "FalseParity" (237 : Nat) ({ cls := "FalseParity$Marks", name := "bestPerson", desc := "()I" } : MethodName) ∈ gw := wmi 695 (by decide +kernel) rfl
theorem wm_696 : Cond.instanceMethod ({ cls := "FalseParity$Marks", name := "bestPerson", desc := "()I" } : MethodName) ∈ gw := wmi 696 (by decide +kernel) rfl
theorem wm_697 : Cond.selects "FalseParity$Marks" ({ cls := "FalseParity$Marks", name := "bestPerson", desc := "()I" } : MethodName) ({ cls := "FalseParity$Marks", name := "bestPerson", desc := "()I" } : MethodName) ∈ gw := wmi 697 (by decide +kernel) rfl
theorem wm_698 : Cond.code ({ cls := "FalseParity$Marks", name := "bestPerson", desc := "()I" } : MethodName) prog_7_method_7_code (7 : Nat) (Option.some FieldType.int) ∈ gw := wmi 698 (by decide +kernel) rfl
theorem wm_699 : Cond.methodLink "FalseParity$Marks" (34 : Nat) ({ cls := "FalseParity$Marks", name := "howMany", desc := "()I" } : MethodName) ∈ gw := wmi 699 (by decide +kernel) rfl
theorem wm_700 : Cond.methodLink "FalseParity$Marks" (43 : Nat) ({ cls := "FalseParity$Marks", name := "howManyTakenBy", desc := "(I)I" } : MethodName) ∈ gw := wmi 700 (by decide +kernel) rfl
theorem wm_702 : Cond.instanceMethod ({ cls := "FalseParity$Marks", name := "howManyTakenBy", desc := "(I)I" } : MethodName) ∈ gw := wmi 702 (by decide +kernel) rfl
theorem wm_703 : Cond.code ({ cls := "FalseParity$Marks", name := "howManyTakenBy", desc := "(I)I" } : MethodName) prog_7_method_8_code (4 : Nat) (Option.some FieldType.int) ∈ gw := wmi 703 (by decide +kernel) rfl
theorem wm_704 : Cond.methodLink "FalseParity$Marks" (47 : Nat) ({ cls := "java/lang/Math", name := "max", desc := "(II)I" } : MethodName) ∈ gw := wmi 704 (by decide +kernel) rfl
theorem wm_705 : Cond.static ({ cls := "java/lang/Math", name := "max", desc := "(II)I" } : MethodName) ∈ gw := wmi 705 (by decide +kernel) rfl
theorem wm_706 : Cond.code ({ cls := "java/lang/Math", name := "max", desc := "(II)I" } : MethodName) prog_15_method_65_code (2 : Nat) (Option.some FieldType.int) ∈ gw := wmi 706 (by decide +kernel) rfl
theorem wm_707 : Cond.methodLink "FalseParityLaw" (81 : Nat) ({ cls := "FalseParity", name := "hears", desc := "(II)I" } : MethodName) ∈ gw := wmi 707 (by decide +kernel) rfl
theorem wm_708 : Cond.instanceMethod ({ cls := "FalseParity", name := "hears", desc := "(II)I" } : MethodName) ∈ gw := wmi 708 (by decide +kernel) rfl
theorem wm_709 : Cond.selects "FalseParity" ({ cls := "FalseParity", name := "hears", desc := "(II)I" } : MethodName) ({ cls := "FalseParity", name := "hears", desc := "(II)I" } : MethodName) ∈ gw := wmi 709 (by decide +kernel) rfl
theorem wm_710 : Cond.code ({ cls := "FalseParity", name := "hears", desc := "(II)I" } : MethodName) prog_1_method_18_code (3 : Nat) (Option.some FieldType.int) ∈ gw := wmi 710 (by decide +kernel) rfl
theorem wm_711 : Cond.methodLink "FalseParity" (240 : Nat) ({ cls := "FalseParity$Board", name := "add", desc := "(II)I" } : MethodName) ∈ gw := wmi 711 (by decide +kernel) rfl
theorem wm_712 : Cond.instanceMethod ({ cls := "FalseParity$Board", name := "add", desc := "(II)I" } : MethodName) ∈ gw := wmi 712 (by decide +kernel) rfl
theorem wm_713 : Cond.selects "FalseParity$Board" ({ cls := "FalseParity$Board", name := "add", desc := "(II)I" } : MethodName) ({ cls := "FalseParity$Board", name := "add", desc := "(II)I" } : MethodName) ∈ gw := wmi 713 (by decide +kernel) rfl
theorem wm_714 : Cond.code ({ cls := "FalseParity$Board", name := "add", desc := "(II)I" } : MethodName) prog_2_method_3_code (3 : Nat) (Option.some FieldType.int) ∈ gw := wmi 714 (by decide +kernel) rfl
theorem wm_715 : Cond.methodLink "FalseParityLaw" (85 : Nat) ({ cls := "FalseParity", name := "forget", desc := "()I" } : MethodName) ∈ gw := wmi 715 (by decide +kernel) rfl
theorem wm_716 : Cond.instanceMethod ({ cls := "FalseParity", name := "forget", desc := "()I" } : MethodName) ∈ gw := wmi 716 (by decide +kernel) rfl
theorem wm_717 : Cond.selects "FalseParity" ({ cls := "FalseParity", name := "forget", desc := "()I" } : MethodName) ({ cls := "FalseParity", name := "forget", desc := "()I" } : MethodName) ∈ gw := wmi 717 (by decide +kernel) rfl
theorem wm_718 : Cond.code ({ cls := "FalseParity", name := "forget", desc := "()I" } : MethodName) prog_1_method_19_code (2 : Nat) (Option.some FieldType.int) ∈ gw := wmi 718 (by decide +kernel) rfl
theorem wm_719 : Cond.methodLink "FalseParityLaw" (89 : Nat) ({ cls := "FalseParity", name := "years", desc := "()I" } : MethodName) ∈ gw := wmi 719 (by decide +kernel) rfl
theorem wm_720 : Cond.instanceMethod ({ cls := "FalseParity", name := "years", desc := "()I" } : MethodName) ∈ gw := wmi 720 (by decide +kernel) rfl
theorem wm_721 : Cond.selects "FalseParity" ({ cls := "FalseParity", name := "years", desc := "()I" } : MethodName) ({ cls := "FalseParity", name := "years", desc := "()I" } : MethodName) ∈ gw := wmi 721 (by decide +kernel) rfl
theorem wm_722 : Cond.code ({ cls := "FalseParity", name := "years", desc := "()I" } : MethodName) prog_1_method_20_code (1 : Nat) (Option.some FieldType.int) ∈ gw := wmi 722 (by decide +kernel) rfl
theorem wm_723 : Cond.methodLink "FalseParity" (247 : Nat) ({ cls := "FalseParity$Board", name := "possibleYears", desc := "()I" } : MethodName) ∈ gw := wmi 723 (by decide +kernel) rfl
theorem wm_724 : Cond.instanceMethod ({ cls := "FalseParity$Board", name := "possibleYears", desc := "()I" } : MethodName) ∈ gw := wmi 724 (by decide +kernel) rfl
theorem wm_725 : Cond.selects "FalseParity$Board" ({ cls := "FalseParity$Board", name := "possibleYears", desc := "()I" } : MethodName) ({ cls := "FalseParity$Board", name := "possibleYears", desc := "()I" } : MethodName) ∈ gw := wmi 725 (by decide +kernel) rfl
theorem wm_726 : Cond.code ({ cls := "FalseParity$Board", name := "possibleYears", desc := "()I" } : MethodName) prog_2_method_4_code (3 : Nat) (Option.some FieldType.int) ∈ gw := wmi 726 (by decide +kernel) rfl
theorem wm_727 : Cond.methodLink "FalseParity$Board" (30 : Nat) ({ cls := "FalseParity$Board", name := "fits", desc := "(I)Z" } : MethodName) ∈ gw := wmi 727 (by decide +kernel) rfl
theorem wm_729 : Cond.instanceMethod ({ cls := "FalseParity$Board", name := "fits", desc := "(I)Z" } : MethodName) ∈ gw := wmi 729 (by decide +kernel) rfl
theorem wm_730 : Cond.code ({ cls := "FalseParity$Board", name := "fits", desc := "(I)Z" } : MethodName) prog_2_method_5_code (3 : Nat) (Option.some FieldType.boolean) ∈ gw := wmi 730 (by decide +kernel) rfl
theorem wm_731 : Cond.methodLink "FalseParityLaw" (93 : Nat) ({ cls := "FalseParity", name := "letIn", desc := "(I)I" } : MethodName) ∈ gw := wmi 731 (by decide +kernel) rfl
theorem wm_732 : Cond.instanceMethod ({ cls := "FalseParity", name := "letIn", desc := "(I)I" } : MethodName) ∈ gw := wmi 732 (by decide +kernel) rfl
theorem wm_733 : Cond.selects "FalseParity" ({ cls := "FalseParity", name := "letIn", desc := "(I)I" } : MethodName) ({ cls := "FalseParity", name := "letIn", desc := "(I)I" } : MethodName) ∈ gw := wmi 733 (by decide +kernel) rfl
theorem wm_734 : Cond.code ({ cls := "FalseParity", name := "letIn", desc := "(I)I" } : MethodName) prog_1_method_21_code (3 : Nat) (Option.some FieldType.int) ∈ gw := wmi 734 (by decide +kernel) rfl
theorem wm_735 : Cond.methodLink "FalseParity" (250 : Nat) ({ cls := "FalseParity$Board", name := "bestSet", desc := "()I" } : MethodName) ∈ gw := wmi 735 (by decide +kernel) rfl
theorem wm_736 : Cond.instanceMethod ({ cls := "FalseParity$Board", name := "bestSet", desc := "()I" } : MethodName) ∈ gw := wmi 736 (by decide +kernel) rfl
theorem wm_737 : Cond.selects "FalseParity$Board" ({ cls := "FalseParity$Board", name := "bestSet", desc := "()I" } : MethodName) ({ cls := "FalseParity$Board", name := "bestSet", desc := "()I" } : MethodName) ∈ gw := wmi 737 (by decide +kernel) rfl
theorem wm_738 : Cond.code ({ cls := "FalseParity$Board", name := "bestSet", desc := "()I" } : MethodName) prog_2_method_9_code (5 : Nat) (Option.some FieldType.int) ∈ gw := wmi 738 (by decide +kernel) rfl
theorem wm_739 : Cond.methodLink "FalseParity$Board" (59 : Nat) ({ cls := "FalseParity$Now", name := "parity", desc := "()I" } : MethodName) ∈ gw := wmi 739 (by decide +kernel) rfl
theorem wm_740 : Cond.methodLink "FalseParity$Board" (65 : Nat) ({ cls := "FalseParity$Board", name := "worthOfAll", desc := "()I" } : MethodName) ∈ gw := wmi 740 (by decide +kernel) rfl
theorem wm_741 : Cond.methodLink "FalseParity$Board" (68 : Nat) ({ cls := "FalseParity$Board", name := "isBetter", desc := "(II)Z" } : MethodName) ∈ gw := wmi 741 (by decide +kernel) rfl
theorem wm_743 : Cond.instanceMethod ({ cls := "FalseParity$Board", name := "isBetter", desc := "(II)Z" } : MethodName) ∈ gw := wmi 743 (by decide +kernel) rfl
theorem wm_744 : Cond.code ({ cls := "FalseParity$Board", name := "isBetter", desc := "(II)Z" } : MethodName) prog_2_method_10_code (4 : Nat) (Option.some FieldType.boolean) ∈ gw := wmi 744 (by decide +kernel) rfl
theorem wm_745 : Cond.methodLink "FalseParity$Board" (71 : Nat) ({ cls := "java/lang/Integer", name := "bitCount", desc := "(I)I" } : MethodName) ∈ gw := wmi 745 (by decide +kernel) rfl
theorem wm_746 : Cond.methodLink "FalseParity" (253 : Nat) ({ cls := "FalseParity$Board", name := "worthOf", desc := "(I)I" } : MethodName) ∈ gw := wmi 746 (by decide +kernel) rfl
theorem wm_747 : Cond.methodLink "FalseParityLaw" (97 : Nat) ({ cls := "FalseParity", name := "rate", desc := "(II)I" } : MethodName) ∈ gw := wmi 747 (by decide +kernel) rfl
theorem wm_748 : Cond.instanceMethod ({ cls := "FalseParity", name := "rate", desc := "(II)I" } : MethodName) ∈ gw := wmi 748 (by decide +kernel) rfl
theorem wm_749 : Cond.selects "FalseParity" ({ cls := "FalseParity", name := "rate", desc := "(II)I" } : MethodName) ({ cls := "FalseParity", name := "rate", desc := "(II)I" } : MethodName) ∈ gw := wmi 749 (by decide +kernel) rfl
theorem wm_750 : Cond.code ({ cls := "FalseParity", name := "rate", desc := "(II)I" } : MethodName) prog_1_method_22_code (3 : Nat) (Option.some FieldType.int) ∈ gw := wmi 750 (by decide +kernel) rfl
theorem wm_751 : Cond.methodLink "FalseParity" (256 : Nat) ({ cls := "FalseParity$Kinds", name := "rateAs", desc := "(II)I" } : MethodName) ∈ gw := wmi 751 (by decide +kernel) rfl
theorem wm_752 : Cond.instanceMethod ({ cls := "FalseParity$Kinds", name := "rateAs", desc := "(II)I" } : MethodName) ∈ gw := wmi 752 (by decide +kernel) rfl
theorem wm_753 : Cond.selects "FalseParity$Kinds" ({ cls := "FalseParity$Kinds", name := "rateAs", desc := "(II)I" } : MethodName) ({ cls := "FalseParity$Kinds", name := "rateAs", desc := "(II)I" } : MethodName) ∈ gw := wmi 753 (by decide +kernel) rfl
theorem wm_754 : Cond.code ({ cls := "FalseParity$Kinds", name := "rateAs", desc := "(II)I" } : MethodName) prog_6_method_2_code (3 : Nat) (Option.some FieldType.int) ∈ gw := wmi 754 (by decide +kernel) rfl
theorem wm_755 : Cond.methodLink "FalseParity$Kinds" (19 : Nat) ({ cls := "FalseParity$Kinds", name := "asNote", desc := "(I)I" } : MethodName) ∈ gw := wmi 755 (by decide +kernel) rfl
theorem wm_757 : Cond.instanceMethod ({ cls := "FalseParity$Kinds", name := "asNote", desc := "(I)I" } : MethodName) ∈ gw := wmi 757 (by decide +kernel) rfl
theorem wm_758 : Cond.code ({ cls := "FalseParity$Kinds", name := "asNote", desc := "(I)I" } : MethodName) prog_6_method_3_code (2 : Nat) (Option.some FieldType.int) ∈ gw := wmi 758 (by decide +kernel) rfl
theorem wm_759 : Cond.methodLink "FalseParity$Kinds" (23 : Nat) ({ cls := "FalseParity$Kinds", name := "asTwenty", desc := "(I)I" } : MethodName) ∈ gw := wmi 759 (by decide +kernel) rfl
theorem wm_761 : Cond.instanceMethod ({ cls := "FalseParity$Kinds", name := "asTwenty", desc := "(I)I" } : MethodName) ∈ gw := wmi 761 (by decide +kernel) rfl
theorem wm_762 : Cond.code ({ cls := "FalseParity$Kinds", name := "asTwenty", desc := "(I)I" } : MethodName) prog_6_method_4_code (2 : Nat) (Option.some FieldType.int) ∈ gw := wmi 762 (by decide +kernel) rfl
theorem wm_763 : Cond.constantLong "FalseParity$Kinds" (49 : Nat) (10 : Int64) ∈ gw := wmi 763 (by decide +kernel) rfl
theorem wm_764 : Cond.methodLink "FalseParity$Kinds" (51 : Nat) ({ cls := "FalseParity$Now", name := "uses", desc := "(I)I" } : MethodName) ∈ gw := wmi 764 (by decide +kernel) rfl
theorem wm_765 : Cond.methodLink "FalseParity$Kinds" (26 : Nat) ({ cls := "FalseParity$Kinds", name := "asQueen", desc := "(I)I" } : MethodName) ∈ gw := wmi 765 (by decide +kernel) rfl
theorem wm_767 : Cond.instanceMethod ({ cls := "FalseParity$Kinds", name := "asQueen", desc := "(I)I" } : MethodName) ∈ gw := wmi 767 (by decide +kernel) rfl
theorem wm_768 : Cond.code ({ cls := "FalseParity$Kinds", name := "asQueen", desc := "(I)I" } : MethodName) prog_6_method_5_code (2 : Nat) (Option.some FieldType.int) ∈ gw := wmi 768 (by decide +kernel) rfl
theorem wm_769 : Cond.constantLong "FalseParity$Kinds" (56 : Nat) (100 : Int64) ∈ gw := wmi 769 (by decide +kernel) rfl
theorem wm_770 : Cond.methodLink "FalseParity$Kinds" (61 : Nat) ({ cls := "java/lang/Integer", name := "bitCount", desc := "(I)I" } : MethodName) ∈ gw := wmi 770 (by decide +kernel) rfl
theorem wm_771 : Cond.methodLink "FalseParity$Kinds" (29 : Nat) ({ cls := "FalseParity$Kinds", name := "asAccent", desc := "(I)I" } : MethodName) ∈ gw := wmi 771 (by decide +kernel) rfl
theorem wm_773 : Cond.instanceMethod ({ cls := "FalseParity$Kinds", name := "asAccent", desc := "(I)I" } : MethodName) ∈ gw := wmi 773 (by decide +kernel) rfl
theorem wm_774 : Cond.code ({ cls := "FalseParity$Kinds", name := "asAccent", desc := "(I)I" } : MethodName) prog_6_method_6_code (2 : Nat) (Option.some FieldType.int) ∈ gw := wmi 774 (by decide +kernel) rfl
theorem wm_775 : Cond.constantLong "FalseParity$Kinds" (66 : Nat) (1000 : Int64) ∈ gw := wmi 775 (by decide +kernel) rfl
theorem wm_776 : Cond.methodLink "FalseParity$Kinds" (32 : Nat) ({ cls := "FalseParity$Kinds", name := "asNose", desc := "(I)I" } : MethodName) ∈ gw := wmi 776 (by decide +kernel) rfl
theorem wm_778 : Cond.instanceMethod ({ cls := "FalseParity$Kinds", name := "asNose", desc := "(I)I" } : MethodName) ∈ gw := wmi 778 (by decide +kernel) rfl
theorem wm_779 : Cond.code ({ cls := "FalseParity$Kinds", name := "asNose", desc := "(I)I" } : MethodName) prog_6_method_7_code (2 : Nat) (Option.some FieldType.int) ∈ gw := wmi 779 (by decide +kernel) rfl
theorem wm_780 : Cond.constantLong "FalseParity$Kinds" (68 : Nat) (10000 : Int64) ∈ gw := wmi 780 (by decide +kernel) rfl
theorem wm_781 : Cond.methodLink "FalseParity$Kinds" (35 : Nat) ({ cls := "FalseParity$Kinds", name := "asPaper", desc := "(I)I" } : MethodName) ∈ gw := wmi 781 (by decide +kernel) rfl
theorem wm_783 : Cond.instanceMethod ({ cls := "FalseParity$Kinds", name := "asPaper", desc := "(I)I" } : MethodName) ∈ gw := wmi 783 (by decide +kernel) rfl
theorem wm_784 : Cond.code ({ cls := "FalseParity$Kinds", name := "asPaper", desc := "(I)I" } : MethodName) prog_6_method_8_code (2 : Nat) (Option.some FieldType.int) ∈ gw := wmi 784 (by decide +kernel) rfl
theorem wm_785 : Cond.constantLong "FalseParity$Kinds" (70 : Nat) (100000 : Int64) ∈ gw := wmi 785 (by decide +kernel) rfl
theorem wm_786 : Cond.methodLink "FalseParity$Kinds" (72 : Nat) ({ cls := "FalseParity$Now", name := "refused", desc := "()I" } : MethodName) ∈ gw := wmi 786 (by decide +kernel) rfl
theorem wm_787 : Cond.constant "FalseParity$Kinds" (38 : Nat) (-1000000 : Int32) ∈ gw := wmi 787 (by decide +kernel) rfl
theorem wm_788 : Cond.constant "FalseParity" (259 : Nat) (-1000000 : Int32) ∈ gw := wmi 788 (by decide +kernel) rfl
theorem wm_789 : Cond.methodLink "FalseParityLaw" (101 : Nat) ({ cls := "FalseParity", name := "keep", desc := "(I)I" } : MethodName) ∈ gw := wmi 789 (by decide +kernel) rfl
theorem wm_790 : Cond.instanceMethod ({ cls := "FalseParity", name := "keep", desc := "(I)I" } : MethodName) ∈ gw := wmi 790 (by decide +kernel) rfl
theorem wm_791 : Cond.selects "FalseParity" ({ cls := "FalseParity", name := "keep", desc := "(I)I" } : MethodName) ({ cls := "FalseParity", name := "keep", desc := "(I)I" } : MethodName) ∈ gw := wmi 791 (by decide +kernel) rfl
theorem wm_792 : Cond.code ({ cls := "FalseParity", name := "keep", desc := "(I)I" } : MethodName) prog_1_method_23_code (2 : Nat) (Option.some FieldType.int) ∈ gw := wmi 792 (by decide +kernel) rfl
theorem wm_793 : Cond.methodLink "FalseParity" (260 : Nat) ({ cls := "FalseParity", name := "isImage", desc := "(I)Z" } : MethodName) ∈ gw := wmi 793 (by decide +kernel) rfl
theorem wm_794 : Cond.static ({ cls := "FalseParity", name := "isImage", desc := "(I)Z" } : MethodName) ∈ gw := wmi 794 (by decide +kernel) rfl
theorem wm_795 : Cond.code ({ cls := "FalseParity", name := "isImage", desc := "(I)Z" } : MethodName) prog_1_method_29_code (1 : Nat) (Option.some FieldType.boolean) ∈ gw := wmi 795 (by decide +kernel) rfl
theorem wm_796 : Cond.methodLink "FalseParity" (263 : Nat) ({ cls := "FalseParity$Images", name := "store", desc := "(ILFalseParity$Now;)V" } : MethodName) ∈ gw := wmi 796 (by decide +kernel) rfl
theorem wm_797 : Cond.instanceMethod ({ cls := "FalseParity$Images", name := "store", desc := "(ILFalseParity$Now;)V" } : MethodName) ∈ gw := wmi 797 (by decide +kernel) rfl
theorem wm_798 : Cond.selects "FalseParity$Images" ({ cls := "FalseParity$Images", name := "store", desc := "(ILFalseParity$Now;)V" } : MethodName) ({ cls := "FalseParity$Images", name := "store", desc := "(ILFalseParity$Now;)V" } : MethodName) ∈ gw := wmi 798 (by decide +kernel) rfl
theorem wm_799 : Cond.code ({ cls := "FalseParity$Images", name := "store", desc := "(ILFalseParity$Now;)V" } : MethodName) prog_5_method_4_code (3 : Nat) (Option.none : Option FieldType) ∈ gw := wmi 799 (by decide +kernel) rfl
theorem wm_800 : Cond.methodLink "FalseParity$Images" (25 : Nat) ({ cls := "FalseParity$Now", name := "copyTo", desc := "([II)V" } : MethodName) ∈ gw := wmi 800 (by decide +kernel) rfl
theorem wm_801 : Cond.methodLink "FalseParityLaw" (105 : Nat) ({ cls := "FalseParity", name := "back", desc := "(I)I" } : MethodName) ∈ gw := wmi 801 (by decide +kernel) rfl
theorem wm_802 : Cond.instanceMethod ({ cls := "FalseParity", name := "back", desc := "(I)I" } : MethodName) ∈ gw := wmi 802 (by decide +kernel) rfl
theorem wm_803 : Cond.selects "FalseParity" ({ cls := "FalseParity", name := "back", desc := "(I)I" } : MethodName) ({ cls := "FalseParity", name := "back", desc := "(I)I" } : MethodName) ∈ gw := wmi 803 (by decide +kernel) rfl
theorem wm_804 : Cond.code ({ cls := "FalseParity", name := "back", desc := "(I)I" } : MethodName) prog_1_method_24_code (2 : Nat) (Option.some FieldType.int) ∈ gw := wmi 804 (by decide +kernel) rfl
theorem wm_805 : Cond.methodLink "FalseParity" (267 : Nat) ({ cls := "FalseParity$Images", name := "has", desc := "(I)Z" } : MethodName) ∈ gw := wmi 805 (by decide +kernel) rfl
theorem wm_806 : Cond.instanceMethod ({ cls := "FalseParity$Images", name := "has", desc := "(I)Z" } : MethodName) ∈ gw := wmi 806 (by decide +kernel) rfl
theorem wm_807 : Cond.selects "FalseParity$Images" ({ cls := "FalseParity$Images", name := "has", desc := "(I)Z" } : MethodName) ({ cls := "FalseParity$Images", name := "has", desc := "(I)Z" } : MethodName) ∈ gw := wmi 807 (by decide +kernel) rfl
theorem wm_808 : Cond.code ({ cls := "FalseParity$Images", name := "has", desc := "(I)Z" } : MethodName) prog_5_method_3_code (2 : Nat) (Option.some FieldType.boolean) ∈ gw := wmi 808 (by decide +kernel) rfl
theorem wn_809 : Cond.methodLinkNest "FalseParity$Images" (21 : Nat) ({ cls := "FalseParity", name := "hasBit", desc := "(II)Z" } : MethodName) "FalseParity" ∈ nwl := wni 809 (by decide +kernel) rfl
theorem wm_810 : Cond.methodLink "FalseParity" (270 : Nat) ({ cls := "FalseParity$Images", name := "restore", desc := "(ILFalseParity$Now;)V" } : MethodName) ∈ gw := wmi 810 (by decide +kernel) rfl
theorem wm_811 : Cond.instanceMethod ({ cls := "FalseParity$Images", name := "restore", desc := "(ILFalseParity$Now;)V" } : MethodName) ∈ gw := wmi 811 (by decide +kernel) rfl
theorem wm_812 : Cond.selects "FalseParity$Images" ({ cls := "FalseParity$Images", name := "restore", desc := "(ILFalseParity$Now;)V" } : MethodName) ({ cls := "FalseParity$Images", name := "restore", desc := "(ILFalseParity$Now;)V" } : MethodName) ∈ gw := wmi 812 (by decide +kernel) rfl
theorem wm_813 : Cond.code ({ cls := "FalseParity$Images", name := "restore", desc := "(ILFalseParity$Now;)V" } : MethodName) prog_5_method_5_code (3 : Nat) (Option.none : Option FieldType) ∈ gw := wmi 813 (by decide +kernel) rfl
theorem wm_814 : Cond.methodLink "FalseParity$Images" (29 : Nat) ({ cls := "FalseParity$Now", name := "copyFrom", desc := "([II)V" } : MethodName) ∈ gw := wmi 814 (by decide +kernel) rfl
theorem wm_815 : Cond.methodLink "FalseParityLaw" (109 : Nat) ({ cls := "FalseParity", name := "count", desc := "(I)I" } : MethodName) ∈ gw := wmi 815 (by decide +kernel) rfl
theorem wm_816 : Cond.instanceMethod ({ cls := "FalseParity", name := "count", desc := "(I)I" } : MethodName) ∈ gw := wmi 816 (by decide +kernel) rfl
theorem wm_817 : Cond.selects "FalseParity" ({ cls := "FalseParity", name := "count", desc := "(I)I" } : MethodName) ({ cls := "FalseParity", name := "count", desc := "(I)I" } : MethodName) ∈ gw := wmi 817 (by decide +kernel) rfl
theorem wm_818 : Cond.code ({ cls := "FalseParity", name := "count", desc := "(I)I" } : MethodName) prog_1_method_25_code (2 : Nat) (Option.some FieldType.int) ∈ gw := wmi 818 (by decide +kernel) rfl
theorem wm_819 : Cond.methodLink "FalseParityLaw" (113 : Nat) ({ cls := "FalseParity", name := "trace", desc := "()J" } : MethodName) ∈ gw := wmi 819 (by decide +kernel) rfl
theorem wm_820 : Cond.instanceMethod ({ cls := "FalseParity", name := "trace", desc := "()J" } : MethodName) ∈ gw := wmi 820 (by decide +kernel) rfl
theorem wm_821 : Cond.selects "FalseParity" ({ cls := "FalseParity", name := "trace", desc := "()J" } : MethodName) ({ cls := "FalseParity", name := "trace", desc := "()J" } : MethodName) ∈ gw := wmi 821 (by decide +kernel) rfl
theorem wm_822 : Cond.code ({ cls := "FalseParity", name := "trace", desc := "()J" } : MethodName) prog_1_method_26_code (1 : Nat) (Option.some FieldType.long) ∈ gw := wmi 822 (by decide +kernel) rfl
theorem wm_823 : Cond.classLink "FalseParityLaw" (10 : Nat) "FalseParityModel" ∈ gw := wmi 823 (by decide +kernel) rfl
theorem wm_824 : Cond.instantiable "FalseParityModel" (28 : Nat) ∈ gw := wmi 824 (by decide +kernel) rfl
theorem wm_825 : Cond.methodLink "FalseParityLaw" (12 : Nat) ({ cls := "FalseParityModel", name := "<init>", desc := "()V" } : MethodName) ∈ gw := wmi 825 (by decide +kernel) rfl
theorem wm_826 : Cond.instanceMethod ({ cls := "FalseParityModel", name := "<init>", desc := "()V" } : MethodName) ∈ gw := wmi 826 (by decide +kernel) rfl
theorem wm_827 : Cond.code ({ cls := "FalseParityModel", name := "<init>", desc := "()V" } : MethodName) prog_13_method_1_code (1 : Nat) (Option.none : Option FieldType) ∈ gw := wmi 827 (by decide +kernel) rfl
theorem wm_828 : Cond.methodLink "FalseParityModel" (1 : Nat) ({ cls := "java/lang/Object", name := "<init>", desc := "()V" } : MethodName) ∈ gw := wmi 828 (by decide +kernel) rfl
theorem wm_829 : Cond.methodLink "FalseParityModel" (59 : Nat) ({ cls := "FalseParityModel", name := "begins", desc := "()V" } : MethodName) ∈ gw := wmi 829 (by decide +kernel) rfl
theorem wm_831 : Cond.instanceMethod ({ cls := "FalseParityModel", name := "begins", desc := "()V" } : MethodName) ∈ gw := wmi 831 (by decide +kernel) rfl
theorem wm_832 : Cond.code ({ cls := "FalseParityModel", name := "begins", desc := "()V" } : MethodName) prog_13_method_12_code (1 : Nat) (Option.none : Option FieldType) ∈ gw := wmi 832 (by decide +kernel) rfl
theorem wm_833 : Cond.methodLink "FalseParityModel" (62 : Nat) ({ cls := "FalseParityModel", name := "settles", desc := "()V" } : MethodName) ∈ gw := wmi 833 (by decide +kernel) rfl
theorem wm_835 : Cond.instanceMethod ({ cls := "FalseParityModel", name := "settles", desc := "()V" } : MethodName) ∈ gw := wmi 835 (by decide +kernel) rfl
theorem wm_836 : Cond.code ({ cls := "FalseParityModel", name := "settles", desc := "()V" } : MethodName) prog_13_method_16_code (2 : Nat) (Option.none : Option FieldType) ∈ gw := wmi 836 (by decide +kernel) rfl
theorem wm_837 : Cond.fieldLink "FalseParityModel" (65 : Nat) "FalseParityModel" "thrown" "I" ∈ gw := wmi 837 (by decide +kernel) rfl
theorem wm_838 : Cond.fieldLink "FalseParityModel" (170 : Nat) "FalseParityModel" "trace" "J" ∈ gw := wmi 838 (by decide +kernel) rfl
theorem wm_839 : Cond.fieldLink "FalseParityModel" (7 : Nat) "FalseParityModel" "text" "[I" ∈ gw := wmi 839 (by decide +kernel) rfl
theorem wm_840 : Cond.fieldLink "FalseParityModel" (73 : Nat) "FalseParityModel" "typed" "I" ∈ gw := wmi 840 (by decide +kernel) rfl
theorem wm_841 : Cond.fieldLink "FalseParityModel" (76 : Nat) "FalseParityModel" "next" "I" ∈ gw := wmi 841 (by decide +kernel) rfl
theorem wm_842 : Cond.fieldLink "FalseParityModel" (86 : Nat) "FalseParityModel" "token" "I" ∈ gw := wmi 842 (by decide +kernel) rfl
theorem wm_843 : Cond.fieldLink "FalseParityModel" (83 : Nat) "FalseParityModel" "place" "I" ∈ gw := wmi 843 (by decide +kernel) rfl
theorem wm_844 : Cond.fieldLink "FalseParityModel" (89 : Nat) "FalseParityModel" "value" "I" ∈ gw := wmi 844 (by decide +kernel) rfl
theorem wm_845 : Cond.fieldLink "FalseParityModel" (92 : Nat) "FalseParityModel" "fault" "I" ∈ gw := wmi 845 (by decide +kernel) rfl
theorem wm_846 : Cond.fieldLink "FalseParityModel" (13 : Nat) "FalseParityModel" "many" "[I" ∈ gw := wmi 846 (by decide +kernel) rfl
theorem wm_847 : Cond.fieldLink "FalseParityModel" (106 : Nat) "FalseParityModel" "told" "I" ∈ gw := wmi 847 (by decide +kernel) rfl
theorem wm_848 : Cond.fieldLink "FalseParityModel" (16 : Nat) "FalseParityModel" "looks" "[I" ∈ gw := wmi 848 (by decide +kernel) rfl
theorem wm_849 : Cond.fieldLink "FalseParityModel" (19 : Nat) "FalseParityModel" "worth" "[I" ∈ gw := wmi 849 (by decide +kernel) rfl
theorem wm_850 : Cond.fieldLink "FalseParityModel" (22 : Nat) "FalseParityModel" "marks" "[I" ∈ gw := wmi 850 (by decide +kernel) rfl
theorem wm_851 : Cond.fieldLink "FalseParityModel" (25 : Nat) "FalseParityModel" "holder" "[I" ∈ gw := wmi 851 (by decide +kernel) rfl
theorem wm_852 : Cond.fieldLink "FalseParityModel" (28 : Nat) "FalseParityModel" "s" "[I" ∈ gw := wmi 852 (by decide +kernel) rfl
theorem wm_853 : Cond.fieldLink "FalseParityModel" (31 : Nat) "FalseParityModel" "kept" "[I" ∈ gw := wmi 853 (by decide +kernel) rfl
theorem wm_854 : Cond.fieldLink "FalseParityModel" (34 : Nat) "FalseParityModel" "isKept" "[Z" ∈ gw := wmi 854 (by decide +kernel) rfl
theorem wm_855 : Cond.fieldLink "FalseParityModel" (38 : Nat) "FalseParityModel" "undos" "[I" ∈ gw := wmi 855 (by decide +kernel) rfl
theorem wm_856 : Cond.fieldLink "FalseParityModel" (126 : Nat) "FalseParityModel" "undoMany" "I" ∈ gw := wmi 856 (by decide +kernel) rfl
theorem wm_857 : Cond.fieldLink "FalseParityModel" (41 : Nat) "FalseParityModel" "sawBy" "[I" ∈ gw := wmi 857 (by decide +kernel) rfl
theorem wm_858 : Cond.fieldLink "FalseParityModel" (44 : Nat) "FalseParityModel" "sawIs" "[I" ∈ gw := wmi 858 (by decide +kernel) rfl
theorem wm_859 : Cond.fieldLink "FalseParityModel" (120 : Nat) "FalseParityModel" "sawMany" "I" ∈ gw := wmi 859 (by decide +kernel) rfl
theorem wm_860 : Cond.fieldLink "FalseParityModel" (47 : Nat) "FalseParityModel" "heardUses" "[I" ∈ gw := wmi 860 (by decide +kernel) rfl
theorem wm_861 : Cond.fieldLink "FalseParityModel" (50 : Nat) "FalseParityModel" "heardIs" "[I" ∈ gw := wmi 861 (by decide +kernel) rfl
theorem wm_862 : Cond.fieldLink "FalseParityModel" (123 : Nat) "FalseParityModel" "heard" "I" ∈ gw := wmi 862 (by decide +kernel) rfl
theorem wm_863 : Cond.fieldLink "FalseParityModel" (53 : Nat) "FalseParityModel" "ways" "[I" ∈ gw := wmi 863 (by decide +kernel) rfl
theorem wm_864 : Cond.fieldLink "FalseParityModel" (56 : Nat) "FalseParityModel" "others" "[I" ∈ gw := wmi 864 (by decide +kernel) rfl
theorem wm_865 : Cond.lays "FalseParityModel" "FalseParityModel" "thrown" "I" ∈ gw := wmi 865 (by decide +kernel) rfl
theorem wm_867 : Cond.lays "FalseParityModel" "FalseParityModel" "trace" "J" ∈ gw := wmi 867 (by decide +kernel) rfl
theorem wm_869 : Cond.laysFinal "FalseParityModel" "FalseParityModel" "text" "[I" ∈ gw := wmi 869 (by decide +kernel) rfl
theorem wm_871 : Cond.lays "FalseParityModel" "FalseParityModel" "typed" "I" ∈ gw := wmi 871 (by decide +kernel) rfl
theorem wm_873 : Cond.lays "FalseParityModel" "FalseParityModel" "next" "I" ∈ gw := wmi 873 (by decide +kernel) rfl
theorem wm_875 : Cond.lays "FalseParityModel" "FalseParityModel" "token" "I" ∈ gw := wmi 875 (by decide +kernel) rfl
theorem wm_877 : Cond.lays "FalseParityModel" "FalseParityModel" "place" "I" ∈ gw := wmi 877 (by decide +kernel) rfl
theorem wm_879 : Cond.lays "FalseParityModel" "FalseParityModel" "value" "I" ∈ gw := wmi 879 (by decide +kernel) rfl
theorem wm_881 : Cond.lays "FalseParityModel" "FalseParityModel" "fault" "I" ∈ gw := wmi 881 (by decide +kernel) rfl
theorem wm_883 : Cond.laysFinal "FalseParityModel" "FalseParityModel" "many" "[I" ∈ gw := wmi 883 (by decide +kernel) rfl
theorem wm_885 : Cond.lays "FalseParityModel" "FalseParityModel" "told" "I" ∈ gw := wmi 885 (by decide +kernel) rfl
theorem wm_887 : Cond.laysFinal "FalseParityModel" "FalseParityModel" "looks" "[I" ∈ gw := wmi 887 (by decide +kernel) rfl
theorem wm_889 : Cond.laysFinal "FalseParityModel" "FalseParityModel" "worth" "[I" ∈ gw := wmi 889 (by decide +kernel) rfl
theorem wm_891 : Cond.laysFinal "FalseParityModel" "FalseParityModel" "marks" "[I" ∈ gw := wmi 891 (by decide +kernel) rfl
theorem wm_893 : Cond.laysFinal "FalseParityModel" "FalseParityModel" "holder" "[I" ∈ gw := wmi 893 (by decide +kernel) rfl
theorem wm_895 : Cond.laysFinal "FalseParityModel" "FalseParityModel" "s" "[I" ∈ gw := wmi 895 (by decide +kernel) rfl
theorem wm_897 : Cond.laysFinal "FalseParityModel" "FalseParityModel" "kept" "[I" ∈ gw := wmi 897 (by decide +kernel) rfl
theorem wm_899 : Cond.laysFinal "FalseParityModel" "FalseParityModel" "isKept" "[Z" ∈ gw := wmi 899 (by decide +kernel) rfl
theorem wm_901 : Cond.laysFinal "FalseParityModel" "FalseParityModel" "undos" "[I" ∈ gw := wmi 901 (by decide +kernel) rfl
theorem wm_903 : Cond.lays "FalseParityModel" "FalseParityModel" "undoMany" "I" ∈ gw := wmi 903 (by decide +kernel) rfl
theorem wm_905 : Cond.laysFinal "FalseParityModel" "FalseParityModel" "sawBy" "[I" ∈ gw := wmi 905 (by decide +kernel) rfl
theorem wm_907 : Cond.laysFinal "FalseParityModel" "FalseParityModel" "sawIs" "[I" ∈ gw := wmi 907 (by decide +kernel) rfl
theorem wm_909 : Cond.lays "FalseParityModel" "FalseParityModel" "sawMany" "I" ∈ gw := wmi 909 (by decide +kernel) rfl
theorem wm_911 : Cond.laysFinal "FalseParityModel" "FalseParityModel" "heardUses" "[I" ∈ gw := wmi 911 (by decide +kernel) rfl
theorem wm_913 : Cond.laysFinal "FalseParityModel" "FalseParityModel" "heardIs" "[I" ∈ gw := wmi 913 (by decide +kernel) rfl
theorem wm_915 : Cond.lays "FalseParityModel" "FalseParityModel" "heard" "I" ∈ gw := wmi 915 (by decide +kernel) rfl
theorem wm_917 : Cond.laysFinal "FalseParityModel" "FalseParityModel" "ways" "[I" ∈ gw := wmi 917 (by decide +kernel) rfl
theorem wm_919 : Cond.laysFinal "FalseParityModel" "FalseParityModel" "others" "[I" ∈ gw := wmi 919 (by decide +kernel) rfl
theorem wm_922 : Cond.arrayClass FieldType.boolean ∈ gw := wmi 922 (by decide +kernel) rfl
theorem wm_923 : Cond.methodLink "FalseParityLaw" (17 : Nat) ({ cls := "FalseParityModel", name := "type", desc := "(I)I" } : MethodName) ∈ gw := wmi 923 (by decide +kernel) rfl
theorem wm_924 : Cond.instanceMethod ({ cls := "FalseParityModel", name := "type", desc := "(I)I" } : MethodName) ∈ gw := wmi 924 (by decide +kernel) rfl
theorem wm_925 : Cond.selects "FalseParityModel" ({ cls := "FalseParityModel", name := "type", desc := "(I)I" } : MethodName) ({ cls := "FalseParityModel", name := "type", desc := "(I)I" } : MethodName) ∈ gw := wmi 925 (by decide +kernel) rfl
theorem wm_926 : Cond.code ({ cls := "FalseParityModel", name := "type", desc := "(I)I" } : MethodName) prog_13_method_5_code (2 : Nat) (Option.some FieldType.int) ∈ gw := wmi 926 (by decide +kernel) rfl
theorem wm_927 : Cond.methodLink "FalseParityModel" (69 : Nat) ({ cls := "FalseParityModel", name := "in", desc := "(III)Z" } : MethodName) ∈ gw := wmi 927 (by decide +kernel) rfl
theorem wm_928 : Cond.static ({ cls := "FalseParityModel", name := "in", desc := "(III)Z" } : MethodName) ∈ gw := wmi 928 (by decide +kernel) rfl
theorem wm_929 : Cond.code ({ cls := "FalseParityModel", name := "in", desc := "(III)Z" } : MethodName) prog_13_method_3_code (3 : Nat) (Option.some FieldType.boolean) ∈ gw := wmi 929 (by decide +kernel) rfl
theorem wm_930 : Cond.methodLink "FalseParityLaw" (22 : Nat) ({ cls := "FalseParityModel", name := "clear", desc := "()I" } : MethodName) ∈ gw := wmi 930 (by decide +kernel) rfl
theorem wm_931 : Cond.instanceMethod ({ cls := "FalseParityModel", name := "clear", desc := "()I" } : MethodName) ∈ gw := wmi 931 (by decide +kernel) rfl
theorem wm_932 : Cond.selects "FalseParityModel" ({ cls := "FalseParityModel", name := "clear", desc := "()I" } : MethodName) ({ cls := "FalseParityModel", name := "clear", desc := "()I" } : MethodName) ∈ gw := wmi 932 (by decide +kernel) rfl
theorem wm_933 : Cond.code ({ cls := "FalseParityModel", name := "clear", desc := "()I" } : MethodName) prog_13_method_6_code (2 : Nat) (Option.some FieldType.int) ∈ gw := wmi 933 (by decide +kernel) rfl
theorem wm_934 : Cond.methodLink "FalseParityLaw" (26 : Nat) ({ cls := "FalseParityModel", name := "country", desc := "()I" } : MethodName) ∈ gw := wmi 934 (by decide +kernel) rfl
theorem wm_935 : Cond.instanceMethod ({ cls := "FalseParityModel", name := "country", desc := "()I" } : MethodName) ∈ gw := wmi 935 (by decide +kernel) rfl
theorem wm_936 : Cond.selects "FalseParityModel" ({ cls := "FalseParityModel", name := "country", desc := "()I" } : MethodName) ({ cls := "FalseParityModel", name := "country", desc := "()I" } : MethodName) ∈ gw := wmi 936 (by decide +kernel) rfl
theorem wm_937 : Cond.code ({ cls := "FalseParityModel", name := "country", desc := "()I" } : MethodName) prog_13_method_15_code (3 : Nat) (Option.some FieldType.int) ∈ gw := wmi 937 (by decide +kernel) rfl
theorem wm_938 : Cond.methodLink "FalseParityModel" (99 : Nat) ({ cls := "FalseParityModel", name := "advances", desc := "()V" } : MethodName) ∈ gw := wmi 938 (by decide +kernel) rfl
theorem wm_940 : Cond.instanceMethod ({ cls := "FalseParityModel", name := "advances", desc := "()V" } : MethodName) ∈ gw := wmi 940 (by decide +kernel) rfl
theorem wm_941 : Cond.code ({ cls := "FalseParityModel", name := "advances", desc := "()V" } : MethodName) prog_13_method_8_code (2 : Nat) (Option.none : Option FieldType) ∈ gw := wmi 941 (by decide +kernel) rfl
theorem wm_942 : Cond.methodLink "FalseParityModel" (79 : Nat) ({ cls := "FalseParityModel", name := "letterAt", desc := "(I)I" } : MethodName) ∈ gw := wmi 942 (by decide +kernel) rfl
theorem wm_944 : Cond.instanceMethod ({ cls := "FalseParityModel", name := "letterAt", desc := "(I)I" } : MethodName) ∈ gw := wmi 944 (by decide +kernel) rfl
theorem wm_945 : Cond.code ({ cls := "FalseParityModel", name := "letterAt", desc := "(I)I" } : MethodName) prog_13_method_7_code (2 : Nat) (Option.some FieldType.int) ∈ gw := wmi 945 (by decide +kernel) rfl
theorem wm_946 : Cond.methodLink "FalseParityModel" (95 : Nat) ({ cls := "FalseParityModel", name := "isWell", desc := "()Z" } : MethodName) ∈ gw := wmi 946 (by decide +kernel) rfl
theorem wm_948 : Cond.instanceMethod ({ cls := "FalseParityModel", name := "isWell", desc := "()Z" } : MethodName) ∈ gw := wmi 948 (by decide +kernel) rfl
theorem wm_949 : Cond.code ({ cls := "FalseParityModel", name := "isWell", desc := "()Z" } : MethodName) prog_13_method_9_code (1 : Nat) (Option.some FieldType.boolean) ∈ gw := wmi 949 (by decide +kernel) rfl
theorem wm_950 : Cond.methodLink "FalseParityModel" (113 : Nat) ({ cls := "FalseParityModel", name := "mayBegin", desc := "()Z" } : MethodName) ∈ gw := wmi 950 (by decide +kernel) rfl
theorem wm_952 : Cond.instanceMethod ({ cls := "FalseParityModel", name := "mayBegin", desc := "()Z" } : MethodName) ∈ gw := wmi 952 (by decide +kernel) rfl
theorem wm_953 : Cond.code ({ cls := "FalseParityModel", name := "mayBegin", desc := "()Z" } : MethodName) prog_13_method_13_code (1 : Nat) (Option.some FieldType.boolean) ∈ gw := wmi 953 (by decide +kernel) rfl
theorem wm_954 : Cond.methodLink "FalseParityModel" (102 : Nat) ({ cls := "FalseParityModel", name := "takes", desc := "(Z)I" } : MethodName) ∈ gw := wmi 954 (by decide +kernel) rfl
theorem wm_956 : Cond.instanceMethod ({ cls := "FalseParityModel", name := "takes", desc := "(Z)I" } : MethodName) ∈ gw := wmi 956 (by decide +kernel) rfl
theorem wm_957 : Cond.code ({ cls := "FalseParityModel", name := "takes", desc := "(Z)I" } : MethodName) prog_13_method_10_code (3 : Nat) (Option.some FieldType.int) ∈ gw := wmi 957 (by decide +kernel) rfl
theorem wm_958 : Cond.methodLink "FalseParityModel" (116 : Nat) ({ cls := "FalseParityModel", name := "readsItem", desc := "(I)V" } : MethodName) ∈ gw := wmi 958 (by decide +kernel) rfl
theorem wm_960 : Cond.instanceMethod ({ cls := "FalseParityModel", name := "readsItem", desc := "(I)V" } : MethodName) ∈ gw := wmi 960 (by decide +kernel) rfl
theorem wm_961 : Cond.code ({ cls := "FalseParityModel", name := "readsItem", desc := "(I)V" } : MethodName) prog_13_method_14_code (3 : Nat) (Option.none : Option FieldType) ∈ gw := wmi 961 (by decide +kernel) rfl
theorem wm_962 : Cond.methodLink "FalseParityModel" (109 : Nat) ({ cls := "FalseParityModel", name := "number", desc := "(II)I" } : MethodName) ∈ gw := wmi 962 (by decide +kernel) rfl
theorem wm_964 : Cond.instanceMethod ({ cls := "FalseParityModel", name := "number", desc := "(II)I" } : MethodName) ∈ gw := wmi 964 (by decide +kernel) rfl
theorem wm_965 : Cond.code ({ cls := "FalseParityModel", name := "number", desc := "(II)I" } : MethodName) prog_13_method_11_code (3 : Nat) (Option.some FieldType.int) ∈ gw := wmi 965 (by decide +kernel) rfl
theorem wm_966 : Cond.methodLink "FalseParityLaw" (31 : Nat) ({ cls := "FalseParityModel", name := "note", desc := "(II)I" } : MethodName) ∈ gw := wmi 966 (by decide +kernel) rfl
theorem wm_967 : Cond.instanceMethod ({ cls := "FalseParityModel", name := "note", desc := "(II)I" } : MethodName) ∈ gw := wmi 967 (by decide +kernel) rfl
theorem wm_968 : Cond.selects "FalseParityModel" ({ cls := "FalseParityModel", name := "note", desc := "(II)I" } : MethodName) ({ cls := "FalseParityModel", name := "note", desc := "(II)I" } : MethodName) ∈ gw := wmi 968 (by decide +kernel) rfl
theorem wm_969 : Cond.code ({ cls := "FalseParityModel", name := "note", desc := "(II)I" } : MethodName) prog_13_method_22_code (3 : Nat) (Option.some FieldType.int) ∈ gw := wmi 969 (by decide +kernel) rfl
theorem wm_970 : Cond.methodLink "FalseParityModel" (129 : Nat) ({ cls := "FalseParityModel", name := "isNote", desc := "(I)Z" } : MethodName) ∈ gw := wmi 970 (by decide +kernel) rfl
theorem wm_972 : Cond.instanceMethod ({ cls := "FalseParityModel", name := "isNote", desc := "(I)Z" } : MethodName) ∈ gw := wmi 972 (by decide +kernel) rfl
theorem wm_973 : Cond.code ({ cls := "FalseParityModel", name := "isNote", desc := "(I)Z" } : MethodName) prog_13_method_18_code (2 : Nat) (Option.some FieldType.boolean) ∈ gw := wmi 973 (by decide +kernel) rfl
theorem wm_974 : Cond.methodLink "FalseParityModel" (133 : Nat) ({ cls := "FalseParityModel", name := "hasParity", desc := "(I)Z" } : MethodName) ∈ gw := wmi 974 (by decide +kernel) rfl
theorem wm_976 : Cond.instanceMethod ({ cls := "FalseParityModel", name := "hasParity", desc := "(I)Z" } : MethodName) ∈ gw := wmi 976 (by decide +kernel) rfl
theorem wm_977 : Cond.code ({ cls := "FalseParityModel", name := "hasParity", desc := "(I)Z" } : MethodName) prog_13_method_20_code (2 : Nat) (Option.some FieldType.boolean) ∈ gw := wmi 977 (by decide +kernel) rfl
theorem wm_978 : Cond.methodLink "FalseParityModel" (136 : Nat) ({ cls := "FalseParityModel", name := "takers", desc := "(IZ)I" } : MethodName) ∈ gw := wmi 978 (by decide +kernel) rfl
theorem wm_980 : Cond.instanceMethod ({ cls := "FalseParityModel", name := "takers", desc := "(IZ)I" } : MethodName) ∈ gw := wmi 980 (by decide +kernel) rfl
theorem wm_981 : Cond.code ({ cls := "FalseParityModel", name := "takers", desc := "(IZ)I" } : MethodName) prog_13_method_21_code (5 : Nat) (Option.some FieldType.int) ∈ gw := wmi 981 (by decide +kernel) rfl
theorem wm_982 : Cond.methodLink "FalseParityLaw" (35 : Nat) ({ cls := "FalseParityModel", name := "person", desc := "(II)I" } : MethodName) ∈ gw := wmi 982 (by decide +kernel) rfl
theorem wm_983 : Cond.instanceMethod ({ cls := "FalseParityModel", name := "person", desc := "(II)I" } : MethodName) ∈ gw := wmi 983 (by decide +kernel) rfl
theorem wm_984 : Cond.selects "FalseParityModel" ({ cls := "FalseParityModel", name := "person", desc := "(II)I" } : MethodName) ({ cls := "FalseParityModel", name := "person", desc := "(II)I" } : MethodName) ∈ gw := wmi 984 (by decide +kernel) rfl
theorem wm_985 : Cond.code ({ cls := "FalseParityModel", name := "person", desc := "(II)I" } : MethodName) prog_13_method_23_code (5 : Nat) (Option.some FieldType.int) ∈ gw := wmi 985 (by decide +kernel) rfl
theorem wm_986 : Cond.methodLink "FalseParityModel" (140 : Nat) ({ cls := "FalseParityModel", name := "isPerson", desc := "(I)Z" } : MethodName) ∈ gw := wmi 986 (by decide +kernel) rfl
theorem wm_988 : Cond.instanceMethod ({ cls := "FalseParityModel", name := "isPerson", desc := "(I)Z" } : MethodName) ∈ gw := wmi 988 (by decide +kernel) rfl
theorem wm_989 : Cond.code ({ cls := "FalseParityModel", name := "isPerson", desc := "(I)Z" } : MethodName) prog_13_method_17_code (2 : Nat) (Option.some FieldType.boolean) ∈ gw := wmi 989 (by decide +kernel) rfl
theorem wm_990 : Cond.methodLink "FalseParityModel" (143 : Nat) ({ cls := "FalseParityModel", name := "isAway", desc := "(I)Z" } : MethodName) ∈ gw := wmi 990 (by decide +kernel) rfl
theorem wm_992 : Cond.instanceMethod ({ cls := "FalseParityModel", name := "isAway", desc := "(I)Z" } : MethodName) ∈ gw := wmi 992 (by decide +kernel) rfl
theorem wm_993 : Cond.code ({ cls := "FalseParityModel", name := "isAway", desc := "(I)Z" } : MethodName) prog_13_method_19_code (2 : Nat) (Option.some FieldType.boolean) ∈ gw := wmi 993 (by decide +kernel) rfl
theorem wm_994 : Cond.methodLink "FalseParityLaw" (39 : Nat) ({ cls := "FalseParityModel", name := "now", desc := "(I)I" } : MethodName) ∈ gw := wmi 994 (by decide +kernel) rfl
theorem wm_995 : Cond.instanceMethod ({ cls := "FalseParityModel", name := "now", desc := "(I)I" } : MethodName) ∈ gw := wmi 995 (by decide +kernel) rfl
theorem wm_996 : Cond.selects "FalseParityModel" ({ cls := "FalseParityModel", name := "now", desc := "(I)I" } : MethodName) ({ cls := "FalseParityModel", name := "now", desc := "(I)I" } : MethodName) ∈ gw := wmi 996 (by decide +kernel) rfl
theorem wm_997 : Cond.code ({ cls := "FalseParityModel", name := "now", desc := "(I)I" } : MethodName) prog_13_method_25_code (2 : Nat) (Option.some FieldType.int) ∈ gw := wmi 997 (by decide +kernel) rfl
theorem wm_998 : Cond.methodLink "FalseParityModel" (146 : Nat) ({ cls := "FalseParityModel", name := "worthOfAll", desc := "(Z)I" } : MethodName) ∈ gw := wmi 998 (by decide +kernel) rfl
theorem wm_1000 : Cond.instanceMethod ({ cls := "FalseParityModel", name := "worthOfAll", desc := "(Z)I" } : MethodName) ∈ gw := wmi 1000 (by decide +kernel) rfl
theorem wm_1001 : Cond.code ({ cls := "FalseParityModel", name := "worthOfAll", desc := "(Z)I" } : MethodName) prog_13_method_24_code (4 : Nat) (Option.some FieldType.int) ∈ gw := wmi 1001 (by decide +kernel) rfl
theorem wm_1002 : Cond.methodLink "FalseParityLaw" (43 : Nat) ({ cls := "FalseParityModel", name := "passes", desc := "(II)I" } : MethodName) ∈ gw := wmi 1002 (by decide +kernel) rfl
theorem wm_1003 : Cond.instanceMethod ({ cls := "FalseParityModel", name := "passes", desc := "(II)I" } : MethodName) ∈ gw := wmi 1003 (by decide +kernel) rfl
theorem wm_1004 : Cond.selects "FalseParityModel" ({ cls := "FalseParityModel", name := "passes", desc := "(II)I" } : MethodName) ({ cls := "FalseParityModel", name := "passes", desc := "(II)I" } : MethodName) ∈ gw := wmi 1004 (by decide +kernel) rfl
theorem wm_1005 : Cond.code ({ cls := "FalseParityModel", name := "passes", desc := "(II)I" } : MethodName) prog_13_method_27_code (3 : Nat) (Option.some FieldType.int) ∈ gw := wmi 1005 (by decide +kernel) rfl
theorem wm_1006 : Cond.methodLink "FalseParityModel" (149 : Nat) ({ cls := "FalseParityModel", name := "notes", desc := "()V" } : MethodName) ∈ gw := wmi 1006 (by decide +kernel) rfl
theorem wm_1008 : Cond.instanceMethod ({ cls := "FalseParityModel", name := "notes", desc := "()V" } : MethodName) ∈ gw := wmi 1008 (by decide +kernel) rfl
theorem wm_1009 : Cond.code ({ cls := "FalseParityModel", name := "notes", desc := "()V" } : MethodName) prog_13_method_26_code (2 : Nat) (Option.none : Option FieldType) ∈ gw := wmi 1009 (by decide +kernel) rfl
theorem wm_1010 : Cond.methodLink "FalseParityLaw" (47 : Nat) ({ cls := "FalseParityModel", name := "teaches", desc := "(II)I" } : MethodName) ∈ gw := wmi 1010 (by decide +kernel) rfl
theorem wm_1011 : Cond.instanceMethod ({ cls := "FalseParityModel", name := "teaches", desc := "(II)I" } : MethodName) ∈ gw := wmi 1011 (by decide +kernel) rfl
theorem wm_1012 : Cond.selects "FalseParityModel" ({ cls := "FalseParityModel", name := "teaches", desc := "(II)I" } : MethodName) ({ cls := "FalseParityModel", name := "teaches", desc := "(II)I" } : MethodName) ∈ gw := wmi 1012 (by decide +kernel) rfl
theorem wm_1013 : Cond.code ({ cls := "FalseParityModel", name := "teaches", desc := "(II)I" } : MethodName) prog_13_method_28_code (4 : Nat) (Option.some FieldType.int) ∈ gw := wmi 1013 (by decide +kernel) rfl
theorem wm_1014 : Cond.methodLink "FalseParityLaw" (51 : Nat) ({ cls := "FalseParityModel", name := "sends", desc := "(II)I" } : MethodName) ∈ gw := wmi 1014 (by decide +kernel) rfl
theorem wm_1015 : Cond.instanceMethod ({ cls := "FalseParityModel", name := "sends", desc := "(II)I" } : MethodName) ∈ gw := wmi 1015 (by decide +kernel) rfl
theorem wm_1016 : Cond.selects "FalseParityModel" ({ cls := "FalseParityModel", name := "sends", desc := "(II)I" } : MethodName) ({ cls := "FalseParityModel", name := "sends", desc := "(II)I" } : MethodName) ∈ gw := wmi 1016 (by decide +kernel) rfl
theorem wm_1017 : Cond.code ({ cls := "FalseParityModel", name := "sends", desc := "(II)I" } : MethodName) prog_13_method_29_code (3 : Nat) (Option.some FieldType.int) ∈ gw := wmi 1017 (by decide +kernel) rfl
theorem wm_1018 : Cond.methodLink "FalseParityModel" (152 : Nat) ({ cls := "FalseParityModel", name := "ones", desc := "(I)I" } : MethodName) ∈ gw := wmi 1018 (by decide +kernel) rfl
theorem wm_1019 : Cond.static ({ cls := "FalseParityModel", name := "ones", desc := "(I)I" } : MethodName) ∈ gw := wmi 1019 (by decide +kernel) rfl
theorem wm_1020 : Cond.code ({ cls := "FalseParityModel", name := "ones", desc := "(I)I" } : MethodName) prog_13_method_4_code (3 : Nat) (Option.some FieldType.int) ∈ gw := wmi 1020 (by decide +kernel) rfl
theorem wm_1021 : Cond.methodLink "FalseParityLaw" (55 : Nat) ({ cls := "FalseParityModel", name := "undo", desc := "()I" } : MethodName) ∈ gw := wmi 1021 (by decide +kernel) rfl
theorem wm_1022 : Cond.instanceMethod ({ cls := "FalseParityModel", name := "undo", desc := "()I" } : MethodName) ∈ gw := wmi 1022 (by decide +kernel) rfl
theorem wm_1023 : Cond.selects "FalseParityModel" ({ cls := "FalseParityModel", name := "undo", desc := "()I" } : MethodName) ({ cls := "FalseParityModel", name := "undo", desc := "()I" } : MethodName) ∈ gw := wmi 1023 (by decide +kernel) rfl
theorem wm_1024 : Cond.code ({ cls := "FalseParityModel", name := "undo", desc := "()I" } : MethodName) prog_13_method_30_code (2 : Nat) (Option.some FieldType.int) ∈ gw := wmi 1024 (by decide +kernel) rfl
theorem wm_1025 : Cond.methodLink "FalseParityLaw" (59 : Nat) ({ cls := "FalseParityModel", name := "soonest", desc := "(II)I" } : MethodName) ∈ gw := wmi 1025 (by decide +kernel) rfl
theorem wm_1026 : Cond.instanceMethod ({ cls := "FalseParityModel", name := "soonest", desc := "(II)I" } : MethodName) ∈ gw := wmi 1026 (by decide +kernel) rfl
theorem wm_1027 : Cond.selects "FalseParityModel" ({ cls := "FalseParityModel", name := "soonest", desc := "(II)I" } : MethodName) ({ cls := "FalseParityModel", name := "soonest", desc := "(II)I" } : MethodName) ∈ gw := wmi 1027 (by decide +kernel) rfl
theorem wm_1028 : Cond.code ({ cls := "FalseParityModel", name := "soonest", desc := "(II)I" } : MethodName) prog_13_method_32_code (10 : Nat) (Option.some FieldType.int) ∈ gw := wmi 1028 (by decide +kernel) rfl
theorem wm_1029 : Cond.methodLink "FalseParityModel" (156 : Nat) ({ cls := "FalseParityModel", name := "passings", desc := "(II)I" } : MethodName) ∈ gw := wmi 1029 (by decide +kernel) rfl
theorem wm_1030 : Cond.static ({ cls := "FalseParityModel", name := "passings", desc := "(II)I" } : MethodName) ∈ gw := wmi 1030 (by decide +kernel) rfl
theorem wm_1031 : Cond.code ({ cls := "FalseParityModel", name := "passings", desc := "(II)I" } : MethodName) prog_13_method_31_code (3 : Nat) (Option.some FieldType.int) ∈ gw := wmi 1031 (by decide +kernel) rfl
theorem wm_1032 : Cond.constant "FalseParityModel" (155 : Nat) (1000000 : Int32) ∈ gw := wmi 1032 (by decide +kernel) rfl
theorem wm_1033 : Cond.methodLink "FalseParityLaw" (63 : Nat) ({ cls := "FalseParityModel", name := "till", desc := "(I)I" } : MethodName) ∈ gw := wmi 1033 (by decide +kernel) rfl
theorem wm_1034 : Cond.instanceMethod ({ cls := "FalseParityModel", name := "till", desc := "(I)I" } : MethodName) ∈ gw := wmi 1034 (by decide +kernel) rfl
theorem wm_1035 : Cond.selects "FalseParityModel" ({ cls := "FalseParityModel", name := "till", desc := "(I)I" } : MethodName) ({ cls := "FalseParityModel", name := "till", desc := "(I)I" } : MethodName) ∈ gw := wmi 1035 (by decide +kernel) rfl
theorem wm_1036 : Cond.code ({ cls := "FalseParityModel", name := "till", desc := "(I)I" } : MethodName) prog_13_method_33_code (4 : Nat) (Option.some FieldType.int) ∈ gw := wmi 1036 (by decide +kernel) rfl
theorem wm_1037 : Cond.methodLink "FalseParityLaw" (68 : Nat) ({ cls := "FalseParityModel", name := "odds", desc := "(III)I" } : MethodName) ∈ gw := wmi 1037 (by decide +kernel) rfl
theorem wm_1038 : Cond.instanceMethod ({ cls := "FalseParityModel", name := "odds", desc := "(III)I" } : MethodName) ∈ gw := wmi 1038 (by decide +kernel) rfl
theorem wm_1039 : Cond.selects "FalseParityModel" ({ cls := "FalseParityModel", name := "odds", desc := "(III)I" } : MethodName) ({ cls := "FalseParityModel", name := "odds", desc := "(III)I" } : MethodName) ∈ gw := wmi 1039 (by decide +kernel) rfl
theorem wm_1040 : Cond.code ({ cls := "FalseParityModel", name := "odds", desc := "(III)I" } : MethodName) prog_13_method_35_code (10 : Nat) (Option.some FieldType.int) ∈ gw := wmi 1040 (by decide +kernel) rfl
theorem wm_1041 : Cond.methodLink "FalseParityModel" (159 : Nat) ({ cls := "FalseParityModel", name := "gcd", desc := "(II)I" } : MethodName) ∈ gw := wmi 1041 (by decide +kernel) rfl
theorem wm_1042 : Cond.static ({ cls := "FalseParityModel", name := "gcd", desc := "(II)I" } : MethodName) ∈ gw := wmi 1042 (by decide +kernel) rfl
theorem wm_1043 : Cond.code ({ cls := "FalseParityModel", name := "gcd", desc := "(II)I" } : MethodName) prog_13_method_34_code (5 : Nat) (Option.some FieldType.int) ∈ gw := wmi 1043 (by decide +kernel) rfl
theorem wm_1044 : Cond.methodLink "FalseParityLaw" (72 : Nat) ({ cls := "FalseParityModel", name := "saw", desc := "(II)I" } : MethodName) ∈ gw := wmi 1044 (by decide +kernel) rfl
theorem wm_1045 : Cond.instanceMethod ({ cls := "FalseParityModel", name := "saw", desc := "(II)I" } : MethodName) ∈ gw := wmi 1045 (by decide +kernel) rfl
theorem wm_1046 : Cond.selects "FalseParityModel" ({ cls := "FalseParityModel", name := "saw", desc := "(II)I" } : MethodName) ({ cls := "FalseParityModel", name := "saw", desc := "(II)I" } : MethodName) ∈ gw := wmi 1046 (by decide +kernel) rfl
theorem wm_1047 : Cond.code ({ cls := "FalseParityModel", name := "saw", desc := "(II)I" } : MethodName) prog_13_method_36_code (3 : Nat) (Option.some FieldType.int) ∈ gw := wmi 1047 (by decide +kernel) rfl
theorem wm_1048 : Cond.methodLink "FalseParityLaw" (76 : Nat) ({ cls := "FalseParityModel", name := "canBe", desc := "(I)I" } : MethodName) ∈ gw := wmi 1048 (by decide +kernel) rfl
theorem wm_1049 : Cond.instanceMethod ({ cls := "FalseParityModel", name := "canBe", desc := "(I)I" } : MethodName) ∈ gw := wmi 1049 (by decide +kernel) rfl
theorem wm_1050 : Cond.selects "FalseParityModel" ({ cls := "FalseParityModel", name := "canBe", desc := "(I)I" } : MethodName) ({ cls := "FalseParityModel", name := "canBe", desc := "(I)I" } : MethodName) ∈ gw := wmi 1050 (by decide +kernel) rfl
theorem wm_1051 : Cond.code ({ cls := "FalseParityModel", name := "canBe", desc := "(I)I" } : MethodName) prog_13_method_38_code (6 : Nat) (Option.some FieldType.int) ∈ gw := wmi 1051 (by decide +kernel) rfl
theorem wm_1052 : Cond.methodLink "FalseParityModel" (162 : Nat) ({ cls := "FalseParityModel", name := "mayBe", desc := "(II)Z" } : MethodName) ∈ gw := wmi 1052 (by decide +kernel) rfl
theorem wm_1054 : Cond.instanceMethod ({ cls := "FalseParityModel", name := "mayBe", desc := "(II)Z" } : MethodName) ∈ gw := wmi 1054 (by decide +kernel) rfl
theorem wm_1055 : Cond.code ({ cls := "FalseParityModel", name := "mayBe", desc := "(II)Z" } : MethodName) prog_13_method_37_code (5 : Nat) (Option.some FieldType.boolean) ∈ gw := wmi 1055 (by decide +kernel) rfl
theorem wm_1056 : Cond.methodLink "FalseParityLaw" (80 : Nat) ({ cls := "FalseParityModel", name := "show", desc := "()I" } : MethodName) ∈ gw := wmi 1056 (by decide +kernel) rfl
theorem wm_1057 : Cond.instanceMethod ({ cls := "FalseParityModel", name := "show", desc := "()I" } : MethodName) ∈ gw := wmi 1057 (by decide +kernel) rfl
theorem wm_1058 : Cond.selects "FalseParityModel" ({ cls := "FalseParityModel", name := "show", desc := "()I" } : MethodName) ({ cls := "FalseParityModel", name := "show", desc := "()I" } : MethodName) ∈ gw := wmi 1058 (by decide +kernel) rfl
theorem wm_1059 : Cond.code ({ cls := "FalseParityModel", name := "show", desc := "()I" } : MethodName) prog_13_method_39_code (7 : Nat) (Option.some FieldType.int) ∈ gw := wmi 1059 (by decide +kernel) rfl
theorem wm_1060 : Cond.methodLink "FalseParityLaw" (84 : Nat) ({ cls := "FalseParityModel", name := "hears", desc := "(II)I" } : MethodName) ∈ gw := wmi 1060 (by decide +kernel) rfl
theorem wm_1061 : Cond.instanceMethod ({ cls := "FalseParityModel", name := "hears", desc := "(II)I" } : MethodName) ∈ gw := wmi 1061 (by decide +kernel) rfl
theorem wm_1062 : Cond.selects "FalseParityModel" ({ cls := "FalseParityModel", name := "hears", desc := "(II)I" } : MethodName) ({ cls := "FalseParityModel", name := "hears", desc := "(II)I" } : MethodName) ∈ gw := wmi 1062 (by decide +kernel) rfl
theorem wm_1063 : Cond.code ({ cls := "FalseParityModel", name := "hears", desc := "(II)I" } : MethodName) prog_13_method_40_code (3 : Nat) (Option.some FieldType.int) ∈ gw := wmi 1063 (by decide +kernel) rfl
theorem wm_1064 : Cond.methodLink "FalseParityLaw" (88 : Nat) ({ cls := "FalseParityModel", name := "forget", desc := "()I" } : MethodName) ∈ gw := wmi 1064 (by decide +kernel) rfl
theorem wm_1065 : Cond.instanceMethod ({ cls := "FalseParityModel", name := "forget", desc := "()I" } : MethodName) ∈ gw := wmi 1065 (by decide +kernel) rfl
theorem wm_1066 : Cond.selects "FalseParityModel" ({ cls := "FalseParityModel", name := "forget", desc := "()I" } : MethodName) ({ cls := "FalseParityModel", name := "forget", desc := "()I" } : MethodName) ∈ gw := wmi 1066 (by decide +kernel) rfl
theorem wm_1067 : Cond.code ({ cls := "FalseParityModel", name := "forget", desc := "()I" } : MethodName) prog_13_method_41_code (2 : Nat) (Option.some FieldType.int) ∈ gw := wmi 1067 (by decide +kernel) rfl
theorem wm_1068 : Cond.methodLink "FalseParityLaw" (92 : Nat) ({ cls := "FalseParityModel", name := "years", desc := "()I" } : MethodName) ∈ gw := wmi 1068 (by decide +kernel) rfl
theorem wm_1069 : Cond.instanceMethod ({ cls := "FalseParityModel", name := "years", desc := "()I" } : MethodName) ∈ gw := wmi 1069 (by decide +kernel) rfl
theorem wm_1070 : Cond.selects "FalseParityModel" ({ cls := "FalseParityModel", name := "years", desc := "()I" } : MethodName) ({ cls := "FalseParityModel", name := "years", desc := "()I" } : MethodName) ∈ gw := wmi 1070 (by decide +kernel) rfl
theorem wm_1071 : Cond.code ({ cls := "FalseParityModel", name := "years", desc := "()I" } : MethodName) prog_13_method_42_code (5 : Nat) (Option.some FieldType.int) ∈ gw := wmi 1071 (by decide +kernel) rfl
theorem wm_1072 : Cond.methodLink "FalseParityLaw" (96 : Nat) ({ cls := "FalseParityModel", name := "letIn", desc := "(I)I" } : MethodName) ∈ gw := wmi 1072 (by decide +kernel) rfl
theorem wm_1073 : Cond.instanceMethod ({ cls := "FalseParityModel", name := "letIn", desc := "(I)I" } : MethodName) ∈ gw := wmi 1073 (by decide +kernel) rfl
theorem wm_1074 : Cond.selects "FalseParityModel" ({ cls := "FalseParityModel", name := "letIn", desc := "(I)I" } : MethodName) ({ cls := "FalseParityModel", name := "letIn", desc := "(I)I" } : MethodName) ∈ gw := wmi 1074 (by decide +kernel) rfl
theorem wm_1075 : Cond.code ({ cls := "FalseParityModel", name := "letIn", desc := "(I)I" } : MethodName) prog_13_method_44_code (7 : Nat) (Option.some FieldType.int) ∈ gw := wmi 1075 (by decide +kernel) rfl
theorem wm_1076 : Cond.methodLink "FalseParityModel" (166 : Nat) ({ cls := "FalseParityModel", name := "worthOf", desc := "(IZ)I" } : MethodName) ∈ gw := wmi 1076 (by decide +kernel) rfl
theorem wm_1078 : Cond.instanceMethod ({ cls := "FalseParityModel", name := "worthOf", desc := "(IZ)I" } : MethodName) ∈ gw := wmi 1078 (by decide +kernel) rfl
theorem wm_1079 : Cond.code ({ cls := "FalseParityModel", name := "worthOf", desc := "(IZ)I" } : MethodName) prog_13_method_43_code (6 : Nat) (Option.some FieldType.int) ∈ gw := wmi 1079 (by decide +kernel) rfl
theorem wm_1080 : Cond.methodLink "FalseParityLaw" (100 : Nat) ({ cls := "FalseParityModel", name := "rate", desc := "(II)I" } : MethodName) ∈ gw := wmi 1080 (by decide +kernel) rfl
theorem wm_1081 : Cond.instanceMethod ({ cls := "FalseParityModel", name := "rate", desc := "(II)I" } : MethodName) ∈ gw := wmi 1081 (by decide +kernel) rfl
theorem wm_1082 : Cond.selects "FalseParityModel" ({ cls := "FalseParityModel", name := "rate", desc := "(II)I" } : MethodName) ({ cls := "FalseParityModel", name := "rate", desc := "(II)I" } : MethodName) ∈ gw := wmi 1082 (by decide +kernel) rfl
theorem wm_1083 : Cond.code ({ cls := "FalseParityModel", name := "rate", desc := "(II)I" } : MethodName) prog_13_method_45_code (5 : Nat) (Option.some FieldType.int) ∈ gw := wmi 1083 (by decide +kernel) rfl
theorem wm_1084 : Cond.constant "FalseParityModel" (169 : Nat) (-1000000 : Int32) ∈ gw := wmi 1084 (by decide +kernel) rfl
theorem wm_1085 : Cond.constantLong "FalseParityModel" (174 : Nat) (11 : Int64) ∈ gw := wmi 1085 (by decide +kernel) rfl
theorem wm_1086 : Cond.constantLong "FalseParityModel" (176 : Nat) (101 : Int64) ∈ gw := wmi 1086 (by decide +kernel) rfl
theorem wm_1087 : Cond.constantLong "FalseParityModel" (178 : Nat) (1011 : Int64) ∈ gw := wmi 1087 (by decide +kernel) rfl
theorem wm_1088 : Cond.constantLong "FalseParityModel" (180 : Nat) (10101 : Int64) ∈ gw := wmi 1088 (by decide +kernel) rfl
theorem wm_1089 : Cond.constantLong "FalseParityModel" (182 : Nat) (100001 : Int64) ∈ gw := wmi 1089 (by decide +kernel) rfl
theorem wm_1090 : Cond.methodLink "FalseParityLaw" (104 : Nat) ({ cls := "FalseParityModel", name := "keep", desc := "(I)I" } : MethodName) ∈ gw := wmi 1090 (by decide +kernel) rfl
theorem wm_1091 : Cond.instanceMethod ({ cls := "FalseParityModel", name := "keep", desc := "(I)I" } : MethodName) ∈ gw := wmi 1091 (by decide +kernel) rfl
theorem wm_1092 : Cond.selects "FalseParityModel" ({ cls := "FalseParityModel", name := "keep", desc := "(I)I" } : MethodName) ({ cls := "FalseParityModel", name := "keep", desc := "(I)I" } : MethodName) ∈ gw := wmi 1092 (by decide +kernel) rfl
theorem wm_1093 : Cond.code ({ cls := "FalseParityModel", name := "keep", desc := "(I)I" } : MethodName) prog_13_method_46_code (3 : Nat) (Option.some FieldType.int) ∈ gw := wmi 1093 (by decide +kernel) rfl
theorem wm_1094 : Cond.methodLink "FalseParityLaw" (108 : Nat) ({ cls := "FalseParityModel", name := "back", desc := "(I)I" } : MethodName) ∈ gw := wmi 1094 (by decide +kernel) rfl
theorem wm_1095 : Cond.instanceMethod ({ cls := "FalseParityModel", name := "back", desc := "(I)I" } : MethodName) ∈ gw := wmi 1095 (by decide +kernel) rfl
theorem wm_1096 : Cond.selects "FalseParityModel" ({ cls := "FalseParityModel", name := "back", desc := "(I)I" } : MethodName) ({ cls := "FalseParityModel", name := "back", desc := "(I)I" } : MethodName) ∈ gw := wmi 1096 (by decide +kernel) rfl
theorem wm_1097 : Cond.code ({ cls := "FalseParityModel", name := "back", desc := "(I)I" } : MethodName) prog_13_method_47_code (3 : Nat) (Option.some FieldType.int) ∈ gw := wmi 1097 (by decide +kernel) rfl
theorem wm_1098 : Cond.methodLink "FalseParityLaw" (112 : Nat) ({ cls := "FalseParityModel", name := "count", desc := "(I)I" } : MethodName) ∈ gw := wmi 1098 (by decide +kernel) rfl
theorem wm_1099 : Cond.instanceMethod ({ cls := "FalseParityModel", name := "count", desc := "(I)I" } : MethodName) ∈ gw := wmi 1099 (by decide +kernel) rfl
theorem wm_1100 : Cond.selects "FalseParityModel" ({ cls := "FalseParityModel", name := "count", desc := "(I)I" } : MethodName) ({ cls := "FalseParityModel", name := "count", desc := "(I)I" } : MethodName) ∈ gw := wmi 1100 (by decide +kernel) rfl
theorem wm_1101 : Cond.code ({ cls := "FalseParityModel", name := "count", desc := "(I)I" } : MethodName) prog_13_method_48_code (2 : Nat) (Option.some FieldType.int) ∈ gw := wmi 1101 (by decide +kernel) rfl
theorem wm_1102 : Cond.methodLink "FalseParityLaw" (117 : Nat) ({ cls := "FalseParityModel", name := "trace", desc := "()J" } : MethodName) ∈ gw := wmi 1102 (by decide +kernel) rfl
theorem wm_1103 : Cond.instanceMethod ({ cls := "FalseParityModel", name := "trace", desc := "()J" } : MethodName) ∈ gw := wmi 1103 (by decide +kernel) rfl
theorem wm_1104 : Cond.selects "FalseParityModel" ({ cls := "FalseParityModel", name := "trace", desc := "()J" } : MethodName) ({ cls := "FalseParityModel", name := "trace", desc := "()J" } : MethodName) ∈ gw := wmi 1104 (by decide +kernel) rfl
theorem wm_1105 : Cond.code ({ cls := "FalseParityModel", name := "trace", desc := "()J" } : MethodName) prog_13_method_49_code (1 : Nat) (Option.some FieldType.long) ∈ gw := wmi 1105 (by decide +kernel) rfl
theorem inG0 : ∀ w ∈ u_ws RX0 TX0 5, w ∈ gw := by decide +kernel
theorem inG1 : ∀ w ∈ u_ws RX1 TX1 8, w ∈ gw := by decide +kernel
theorem inG2 : ∀ w ∈ u_ws RX2 TX2 3, w ∈ gw := by decide +kernel
theorem inG3 : ∀ w ∈ u_ws RX3 TX3 2, w ∈ gw := by decide +kernel
theorem inG4 : ∀ w ∈ u_ws RX4 TX4 3, w ∈ gw := by decide +kernel
theorem inG5 : ∀ w ∈ u_ws RX5 TX5 5, w ∈ gw := by decide +kernel
theorem inG6 : ∀ w ∈ u_ws RX6 TX6 1, w ∈ gw := by decide +kernel
theorem inG7 : ∀ w ∈ u_ws RX7 TX7 2, w ∈ gw := by decide +kernel
theorem inG8 : ∀ w ∈ u_ws RX8 TX8 7, w ∈ gw := by decide +kernel
theorem inG9 : ∀ w ∈ u_ws RX9 TX9 2, w ∈ gw := by decide +kernel
theorem inG10 : ∀ w ∈ u_ws RX10 TX10 10, w ∈ gw := by decide +kernel
theorem inG11 : ∀ w ∈ u_ws RX11 TX11 28, w ∈ gw := by decide +kernel
end
section
theorem dX0_init_0 : decode cX0_init 0 = .ok (.aload_n 0, 1) := by decide +kernel
theorem dX0_init_1 : decode cX0_init 1 = .ok (.invokespecial 3, 3) := by decide +kernel
theorem dX0_init_4 : decode cX0_init 4 = .ok (.aload_n 0, 1) := by decide +kernel
theorem dX0_init_5 : decode cX0_init 5 = .ok (.bipush 6, 2) := by decide +kernel
theorem dX0_init_7 : decode cX0_init 7 = .ok (.newarray .int, 2) := by decide +kernel
theorem dX0_init_9 : decode cX0_init 9 = .ok (.putfield 9, 3) := by decide +kernel
theorem dX0_init_12 : decode cX0_init 12 = .ok (.aload_n 0, 1) := by decide +kernel
theorem dX0_init_13 : decode cX0_init 13 = .ok (.bipush 6, 2) := by decide +kernel
theorem dX0_init_15 : decode cX0_init 15 = .ok (.newarray .int, 2) := by decide +kernel
theorem dX0_init_17 : decode cX0_init 17 = .ok (.putfield 15, 3) := by decide +kernel
theorem dX0_init_20 : decode cX0_init 20 = .ok (.aload_n 0, 1) := by decide +kernel
theorem dX0_init_21 : decode cX0_init 21 = .ok (.aload_n 1, 1) := by decide +kernel
theorem dX0_init_22 : decode cX0_init 22 = .ok (.putfield 18, 3) := by decide +kernel
theorem dX0_init_25 : decode cX0_init 25 = .ok (.aload_n 0, 1) := by decide +kernel
theorem dX0_init_26 : decode cX0_init 26 = .ok (.aload_n 2, 1) := by decide +kernel
theorem dX0_init_27 : decode cX0_init 27 = .ok (.putfield 22, 3) := by decide +kernel
theorem dX0_init_30 : decode cX0_init 30 = .ok (.return_, 1) := by decide +kernel
theorem dX0_empty_0 : decode cX0_empty 0 = .ok (.aload_n 0, 1) := by decide +kernel
theorem dX0_empty_1 : decode cX0_empty 1 = .ok (.iconst 0, 1) := by decide +kernel
theorem dX0_empty_2 : decode cX0_empty 2 = .ok (.putfield 26, 3) := by decide +kernel
theorem dX0_empty_5 : decode cX0_empty 5 = .ok (.return_, 1) := by decide +kernel
theorem dX0_add_0 : decode cX0_add 0 = .ok (.aload_n 0, 1) := by decide +kernel
theorem dX0_add_1 : decode cX0_add 1 = .ok (.getfield 26, 3) := by decide +kernel
theorem dX0_add_4 : decode cX0_add 4 = .ok (.bipush 6, 2) := by decide +kernel
theorem dX0_add_6 : decode cX0_add 6 = .ok (.if_icmp .lt 6, 3) := by decide +kernel
theorem dX0_add_9 : decode cX0_add 9 = .ok (.bipush (-3), 2) := by decide +kernel
theorem dX0_add_11 : decode cX0_add 11 = .ok (.ireturn, 1) := by decide +kernel
theorem dX0_add_12 : decode cX0_add 12 = .ok (.aload_n 0, 1) := by decide +kernel
theorem dX0_add_13 : decode cX0_add 13 = .ok (.getfield 9, 3) := by decide +kernel
theorem dX0_add_16 : decode cX0_add 16 = .ok (.aload_n 0, 1) := by decide +kernel
theorem dX0_add_17 : decode cX0_add 17 = .ok (.getfield 26, 3) := by decide +kernel
theorem dX0_add_20 : decode cX0_add 20 = .ok (.iload_n 1, 1) := by decide +kernel
theorem dX0_add_21 : decode cX0_add 21 = .ok (.iastore, 1) := by decide +kernel
theorem dX0_add_22 : decode cX0_add 22 = .ok (.aload_n 0, 1) := by decide +kernel
theorem dX0_add_23 : decode cX0_add 23 = .ok (.getfield 15, 3) := by decide +kernel
theorem dX0_add_26 : decode cX0_add 26 = .ok (.aload_n 0, 1) := by decide +kernel
theorem dX0_add_27 : decode cX0_add 27 = .ok (.getfield 26, 3) := by decide +kernel
theorem dX0_add_30 : decode cX0_add 30 = .ok (.iload_n 2, 1) := by decide +kernel
theorem dX0_add_31 : decode cX0_add 31 = .ok (.iastore, 1) := by decide +kernel
theorem dX0_add_32 : decode cX0_add 32 = .ok (.aload_n 0, 1) := by decide +kernel
theorem dX0_add_33 : decode cX0_add 33 = .ok (.dup, 1) := by decide +kernel
theorem dX0_add_34 : decode cX0_add 34 = .ok (.getfield 26, 3) := by decide +kernel
theorem dX0_add_37 : decode cX0_add 37 = .ok (.iconst 1, 1) := by decide +kernel
theorem dX0_add_38 : decode cX0_add 38 = .ok (.iadd, 1) := by decide +kernel
theorem dX0_add_39 : decode cX0_add 39 = .ok (.putfield 26, 3) := by decide +kernel
theorem dX0_add_42 : decode cX0_add 42 = .ok (.aload_n 0, 1) := by decide +kernel
theorem dX0_add_43 : decode cX0_add 43 = .ok (.getfield 26, 3) := by decide +kernel
theorem dX0_add_46 : decode cX0_add 46 = .ok (.ireturn, 1) := by decide +kernel
theorem dX0_possibleYears_0 : decode cX0_possibleYears 0 = .ok (.iconst 0, 1) := by decide +kernel
theorem dX0_possibleYears_1 : decode cX0_possibleYears 1 = .ok (.istore_n 1, 1) := by decide +kernel
theorem dX0_possibleYears_2 : decode cX0_possibleYears 2 = .ok (.iconst 1, 1) := by decide +kernel
theorem dX0_possibleYears_3 : decode cX0_possibleYears 3 = .ok (.istore_n 2, 1) := by decide +kernel
theorem dX0_possibleYears_4 : decode cX0_possibleYears 4 = .ok (.iload_n 2, 1) := by decide +kernel
theorem dX0_possibleYears_5 : decode cX0_possibleYears 5 = .ok (.bipush 9, 2) := by decide +kernel
theorem dX0_possibleYears_7 : decode cX0_possibleYears 7 = .ok (.if_icmp .gt 23, 3) := by decide +kernel
theorem dX0_possibleYears_10 : decode cX0_possibleYears 10 = .ok (.aload_n 0, 1) := by decide +kernel
theorem dX0_possibleYears_11 : decode cX0_possibleYears 11 = .ok (.iload_n 2, 1) := by decide +kernel
theorem dX0_possibleYears_12 : decode cX0_possibleYears 12 = .ok (.invokevirtual 30, 3) := by decide +kernel
theorem dX0_possibleYears_15 : decode cX0_possibleYears 15 = .ok (.ifCond .eq 9, 3) := by decide +kernel
theorem dX0_possibleYears_18 : decode cX0_possibleYears 18 = .ok (.iload_n 1, 1) := by decide +kernel
theorem dX0_possibleYears_19 : decode cX0_possibleYears 19 = .ok (.iconst 1, 1) := by decide +kernel
theorem dX0_possibleYears_20 : decode cX0_possibleYears 20 = .ok (.iload_n 2, 1) := by decide +kernel
theorem dX0_possibleYears_21 : decode cX0_possibleYears 21 = .ok (.ishl, 1) := by decide +kernel
theorem dX0_possibleYears_22 : decode cX0_possibleYears 22 = .ok (.ior, 1) := by decide +kernel
theorem dX0_possibleYears_23 : decode cX0_possibleYears 23 = .ok (.istore_n 1, 1) := by decide +kernel
theorem dX0_possibleYears_24 : decode cX0_possibleYears 24 = .ok (.iinc 2 1, 3) := by decide +kernel
theorem dX0_possibleYears_27 : decode cX0_possibleYears 27 = .ok (.goto (-23), 3) := by decide +kernel
theorem dX0_possibleYears_30 : decode cX0_possibleYears 30 = .ok (.iload_n 1, 1) := by decide +kernel
theorem dX0_possibleYears_31 : decode cX0_possibleYears 31 = .ok (.ireturn, 1) := by decide +kernel
theorem dX0_fits_0 : decode cX0_fits 0 = .ok (.iconst 0, 1) := by decide +kernel
theorem dX0_fits_1 : decode cX0_fits 1 = .ok (.istore_n 2, 1) := by decide +kernel
theorem dX0_fits_2 : decode cX0_fits 2 = .ok (.iload_n 2, 1) := by decide +kernel
theorem dX0_fits_3 : decode cX0_fits 3 = .ok (.aload_n 0, 1) := by decide +kernel
theorem dX0_fits_4 : decode cX0_fits 4 = .ok (.getfield 26, 3) := by decide +kernel
theorem dX0_fits_7 : decode cX0_fits 7 = .ok (.if_icmp .ge 44, 3) := by decide +kernel
theorem dX0_fits_10 : decode cX0_fits 10 = .ok (.aload_n 0, 1) := by decide +kernel
theorem dX0_fits_11 : decode cX0_fits 11 = .ok (.getfield 9, 3) := by decide +kernel
theorem dX0_fits_14 : decode cX0_fits 14 = .ok (.iload_n 2, 1) := by decide +kernel
theorem dX0_fits_15 : decode cX0_fits 15 = .ok (.iaload, 1) := by decide +kernel
theorem dX0_fits_16 : decode cX0_fits 16 = .ok (.iload_n 1, 1) := by decide +kernel
theorem dX0_fits_17 : decode cX0_fits 17 = .ok (.if_icmp .lt 7, 3) := by decide +kernel
theorem dX0_fits_20 : decode cX0_fits 20 = .ok (.iconst 1, 1) := by decide +kernel
theorem dX0_fits_21 : decode cX0_fits 21 = .ok (.goto 4, 3) := by decide +kernel
theorem dX0_fits_24 : decode cX0_fits 24 = .ok (.iconst 0, 1) := by decide +kernel
theorem dX0_fits_25 : decode cX0_fits 25 = .ok (.aload_n 0, 1) := by decide +kernel
theorem dX0_fits_26 : decode cX0_fits 26 = .ok (.getfield 15, 3) := by decide +kernel
theorem dX0_fits_29 : decode cX0_fits 29 = .ok (.iload_n 2, 1) := by decide +kernel
theorem dX0_fits_30 : decode cX0_fits 30 = .ok (.iaload, 1) := by decide +kernel
theorem dX0_fits_31 : decode cX0_fits 31 = .ok (.iconst 1, 1) := by decide +kernel
theorem dX0_fits_32 : decode cX0_fits 32 = .ok (.if_icmp .ne 7, 3) := by decide +kernel
theorem dX0_fits_35 : decode cX0_fits 35 = .ok (.iconst 1, 1) := by decide +kernel
theorem dX0_fits_36 : decode cX0_fits 36 = .ok (.goto 4, 3) := by decide +kernel
theorem dX0_fits_39 : decode cX0_fits 39 = .ok (.iconst 0, 1) := by decide +kernel
theorem dX0_fits_40 : decode cX0_fits 40 = .ok (.if_icmp .eq 5, 3) := by decide +kernel
theorem dX0_fits_43 : decode cX0_fits 43 = .ok (.iconst 0, 1) := by decide +kernel
theorem dX0_fits_44 : decode cX0_fits 44 = .ok (.ireturn, 1) := by decide +kernel
theorem dX0_fits_45 : decode cX0_fits 45 = .ok (.iinc 2 1, 3) := by decide +kernel
theorem dX0_fits_48 : decode cX0_fits 48 = .ok (.goto (-46), 3) := by decide +kernel
theorem dX0_fits_51 : decode cX0_fits 51 = .ok (.iconst 1, 1) := by decide +kernel
theorem dX0_fits_52 : decode cX0_fits 52 = .ok (.ireturn, 1) := by decide +kernel
theorem dX0_worthOfAll_0 : decode cX0_worthOfAll 0 = .ok (.aload_n 0, 1) := by decide +kernel
theorem dX0_worthOfAll_1 : decode cX0_worthOfAll 1 = .ok (.aload_n 0, 1) := by decide +kernel
theorem dX0_worthOfAll_2 : decode cX0_worthOfAll 2 = .ok (.getfield 22, 3) := by decide +kernel
theorem dX0_worthOfAll_5 : decode cX0_worthOfAll 5 = .ok (.invokevirtual 34, 3) := by decide +kernel
theorem dX0_worthOfAll_8 : decode cX0_worthOfAll 8 = .ok (.iconst (-1), 1) := by decide +kernel
theorem dX0_worthOfAll_9 : decode cX0_worthOfAll 9 = .ok (.ixor, 1) := by decide +kernel
theorem dX0_worthOfAll_10 : decode cX0_worthOfAll 10 = .ok (.invokevirtual 40, 3) := by decide +kernel
theorem dX0_worthOfAll_13 : decode cX0_worthOfAll 13 = .ok (.ireturn, 1) := by decide +kernel
theorem dX0_worthOfFalse_0 : decode cX0_worthOfFalse 0 = .ok (.aload_n 0, 1) := by decide +kernel
theorem dX0_worthOfFalse_1 : decode cX0_worthOfFalse 1 = .ok (.aload_n 0, 1) := by decide +kernel
theorem dX0_worthOfFalse_2 : decode cX0_worthOfFalse 2 = .ok (.invokevirtual 44, 3) := by decide +kernel
theorem dX0_worthOfFalse_5 : decode cX0_worthOfFalse 5 = .ok (.aload_n 0, 1) := by decide +kernel
theorem dX0_worthOfFalse_6 : decode cX0_worthOfFalse 6 = .ok (.getfield 22, 3) := by decide +kernel
theorem dX0_worthOfFalse_9 : decode cX0_worthOfFalse 9 = .ok (.invokevirtual 34, 3) := by decide +kernel
theorem dX0_worthOfFalse_12 : decode cX0_worthOfFalse 12 = .ok (.iconst (-1), 1) := by decide +kernel
theorem dX0_worthOfFalse_13 : decode cX0_worthOfFalse 13 = .ok (.ixor, 1) := by decide +kernel
theorem dX0_worthOfFalse_14 : decode cX0_worthOfFalse 14 = .ok (.iand, 1) := by decide +kernel
theorem dX0_worthOfFalse_15 : decode cX0_worthOfFalse 15 = .ok (.invokevirtual 40, 3) := by decide +kernel
theorem dX0_worthOfFalse_18 : decode cX0_worthOfFalse 18 = .ok (.ireturn, 1) := by decide +kernel
theorem dX0_worthOf_0 : decode cX0_worthOf 0 = .ok (.iconst 0, 1) := by decide +kernel
theorem dX0_worthOf_1 : decode cX0_worthOf 1 = .ok (.istore_n 2, 1) := by decide +kernel
theorem dX0_worthOf_2 : decode cX0_worthOf 2 = .ok (.iconst 0, 1) := by decide +kernel
theorem dX0_worthOf_3 : decode cX0_worthOf 3 = .ok (.istore_n 3, 1) := by decide +kernel
theorem dX0_worthOf_4 : decode cX0_worthOf 4 = .ok (.iload_n 3, 1) := by decide +kernel
theorem dX0_worthOf_5 : decode cX0_worthOf 5 = .ok (.aload_n 0, 1) := by decide +kernel
theorem dX0_worthOf_6 : decode cX0_worthOf 6 = .ok (.getfield 18, 3) := by decide +kernel
theorem dX0_worthOf_9 : decode cX0_worthOf 9 = .ok (.getfield 47, 3) := by decide +kernel
theorem dX0_worthOf_12 : decode cX0_worthOf 12 = .ok (.if_icmp .ge 29, 3) := by decide +kernel
theorem dX0_worthOf_15 : decode cX0_worthOf 15 = .ok (.iload_n 1, 1) := by decide +kernel
theorem dX0_worthOf_16 : decode cX0_worthOf 16 = .ok (.iload_n 3, 1) := by decide +kernel
theorem dX0_worthOf_17 : decode cX0_worthOf 17 = .ok (.invokestatic 52, 3) := by decide +kernel
theorem dX0_worthOf_20 : decode cX0_worthOf 20 = .ok (.ifCond .eq 15, 3) := by decide +kernel
theorem dX0_worthOf_23 : decode cX0_worthOf 23 = .ok (.iload_n 2, 1) := by decide +kernel
theorem dX0_worthOf_24 : decode cX0_worthOf 24 = .ok (.aload_n 0, 1) := by decide +kernel
theorem dX0_worthOf_25 : decode cX0_worthOf 25 = .ok (.getfield 18, 3) := by decide +kernel
theorem dX0_worthOf_28 : decode cX0_worthOf 28 = .ok (.getfield 56, 3) := by decide +kernel
theorem dX0_worthOf_31 : decode cX0_worthOf 31 = .ok (.iload_n 3, 1) := by decide +kernel
theorem dX0_worthOf_32 : decode cX0_worthOf 32 = .ok (.iaload, 1) := by decide +kernel
theorem dX0_worthOf_33 : decode cX0_worthOf 33 = .ok (.iadd, 1) := by decide +kernel
theorem dX0_worthOf_34 : decode cX0_worthOf 34 = .ok (.istore_n 2, 1) := by decide +kernel
theorem dX0_worthOf_35 : decode cX0_worthOf 35 = .ok (.iinc 3 1, 3) := by decide +kernel
theorem dX0_worthOf_38 : decode cX0_worthOf 38 = .ok (.goto (-34), 3) := by decide +kernel
theorem dX0_worthOf_41 : decode cX0_worthOf 41 = .ok (.iload_n 2, 1) := by decide +kernel
theorem dX0_worthOf_42 : decode cX0_worthOf 42 = .ok (.ireturn, 1) := by decide +kernel
theorem dX0_bestSet_0 : decode cX0_bestSet 0 = .ok (.aload_n 0, 1) := by decide +kernel
theorem dX0_bestSet_1 : decode cX0_bestSet 1 = .ok (.invokevirtual 44, 3) := by decide +kernel
theorem dX0_bestSet_4 : decode cX0_bestSet 4 = .ok (.aload_n 0, 1) := by decide +kernel
theorem dX0_bestSet_5 : decode cX0_bestSet 5 = .ok (.getfield 22, 3) := by decide +kernel
theorem dX0_bestSet_8 : decode cX0_bestSet 8 = .ok (.invokevirtual 34, 3) := by decide +kernel
theorem dX0_bestSet_11 : decode cX0_bestSet 11 = .ok (.iconst (-1), 1) := by decide +kernel
theorem dX0_bestSet_12 : decode cX0_bestSet 12 = .ok (.ixor, 1) := by decide +kernel
theorem dX0_bestSet_13 : decode cX0_bestSet 13 = .ok (.iand, 1) := by decide +kernel
theorem dX0_bestSet_14 : decode cX0_bestSet 14 = .ok (.aload_n 0, 1) := by decide +kernel
theorem dX0_bestSet_15 : decode cX0_bestSet 15 = .ok (.getfield 22, 3) := by decide +kernel
theorem dX0_bestSet_18 : decode cX0_bestSet 18 = .ok (.invokevirtual 59, 3) := by decide +kernel
theorem dX0_bestSet_21 : decode cX0_bestSet 21 = .ok (.iconst (-1), 1) := by decide +kernel
theorem dX0_bestSet_22 : decode cX0_bestSet 22 = .ok (.ixor, 1) := by decide +kernel
theorem dX0_bestSet_23 : decode cX0_bestSet 23 = .ok (.iand, 1) := by decide +kernel
theorem dX0_bestSet_24 : decode cX0_bestSet 24 = .ok (.istore_n 1, 1) := by decide +kernel
theorem dX0_bestSet_25 : decode cX0_bestSet 25 = .ok (.aload_n 0, 1) := by decide +kernel
theorem dX0_bestSet_26 : decode cX0_bestSet 26 = .ok (.getfield 18, 3) := by decide +kernel
theorem dX0_bestSet_29 : decode cX0_bestSet 29 = .ok (.getfield 62, 3) := by decide +kernel
theorem dX0_bestSet_32 : decode cX0_bestSet 32 = .ok (.aload_n 0, 1) := by decide +kernel
theorem dX0_bestSet_33 : decode cX0_bestSet 33 = .ok (.invokevirtual 65, 3) := by decide +kernel
theorem dX0_bestSet_36 : decode cX0_bestSet 36 = .ok (.imul, 1) := by decide +kernel
theorem dX0_bestSet_37 : decode cX0_bestSet 37 = .ok (.bipush 10, 2) := by decide +kernel
theorem dX0_bestSet_39 : decode cX0_bestSet 39 = .ok (.aload_n 0, 1) := by decide +kernel
theorem dX0_bestSet_40 : decode cX0_bestSet 40 = .ok (.aload_n 0, 1) := by decide +kernel
theorem dX0_bestSet_41 : decode cX0_bestSet 41 = .ok (.getfield 22, 3) := by decide +kernel
theorem dX0_bestSet_44 : decode cX0_bestSet 44 = .ok (.invokevirtual 59, 3) := by decide +kernel
theorem dX0_bestSet_47 : decode cX0_bestSet 47 = .ok (.aload_n 0, 1) := by decide +kernel
theorem dX0_bestSet_48 : decode cX0_bestSet 48 = .ok (.getfield 22, 3) := by decide +kernel
theorem dX0_bestSet_51 : decode cX0_bestSet 51 = .ok (.invokevirtual 34, 3) := by decide +kernel
theorem dX0_bestSet_54 : decode cX0_bestSet 54 = .ok (.iconst (-1), 1) := by decide +kernel
theorem dX0_bestSet_55 : decode cX0_bestSet 55 = .ok (.ixor, 1) := by decide +kernel
theorem dX0_bestSet_56 : decode cX0_bestSet 56 = .ok (.iand, 1) := by decide +kernel
theorem dX0_bestSet_57 : decode cX0_bestSet 57 = .ok (.invokevirtual 40, 3) := by decide +kernel
theorem dX0_bestSet_60 : decode cX0_bestSet 60 = .ok (.imul, 1) := by decide +kernel
theorem dX0_bestSet_61 : decode cX0_bestSet 61 = .ok (.isub, 1) := by decide +kernel
theorem dX0_bestSet_62 : decode cX0_bestSet 62 = .ok (.istore_n 2, 1) := by decide +kernel
theorem dX0_bestSet_63 : decode cX0_bestSet 63 = .ok (.bipush (-9), 2) := by decide +kernel
theorem dX0_bestSet_65 : decode cX0_bestSet 65 = .ok (.istore_n 3, 1) := by decide +kernel
theorem dX0_bestSet_66 : decode cX0_bestSet 66 = .ok (.iconst 0, 1) := by decide +kernel
theorem dX0_bestSet_67 : decode cX0_bestSet 67 = .ok (.istore 4, 2) := by decide +kernel
theorem dX0_bestSet_69 : decode cX0_bestSet 69 = .ok (.iload 4, 2) := by decide +kernel
theorem dX0_bestSet_71 : decode cX0_bestSet 71 = .ok (.bipush 64, 2) := by decide +kernel
theorem dX0_bestSet_73 : decode cX0_bestSet 73 = .ok (.if_icmp .ge 44, 3) := by decide +kernel
theorem dX0_bestSet_76 : decode cX0_bestSet 76 = .ok (.iload 4, 2) := by decide +kernel
theorem dX0_bestSet_78 : decode cX0_bestSet 78 = .ok (.iload_n 1, 1) := by decide +kernel
theorem dX0_bestSet_79 : decode cX0_bestSet 79 = .ok (.iconst (-1), 1) := by decide +kernel
theorem dX0_bestSet_80 : decode cX0_bestSet 80 = .ok (.ixor, 1) := by decide +kernel
theorem dX0_bestSet_81 : decode cX0_bestSet 81 = .ok (.iand, 1) := by decide +kernel
theorem dX0_bestSet_82 : decode cX0_bestSet 82 = .ok (.ifCond .ne 29, 3) := by decide +kernel
theorem dX0_bestSet_85 : decode cX0_bestSet 85 = .ok (.bipush 10, 2) := by decide +kernel
theorem dX0_bestSet_87 : decode cX0_bestSet 87 = .ok (.aload_n 0, 1) := by decide +kernel
theorem dX0_bestSet_88 : decode cX0_bestSet 88 = .ok (.iload 4, 2) := by decide +kernel
theorem dX0_bestSet_90 : decode cX0_bestSet 90 = .ok (.invokevirtual 40, 3) := by decide +kernel
theorem dX0_bestSet_93 : decode cX0_bestSet 93 = .ok (.imul, 1) := by decide +kernel
theorem dX0_bestSet_94 : decode cX0_bestSet 94 = .ok (.iload_n 2, 1) := by decide +kernel
theorem dX0_bestSet_95 : decode cX0_bestSet 95 = .ok (.if_icmp .gt 16, 3) := by decide +kernel
theorem dX0_bestSet_98 : decode cX0_bestSet 98 = .ok (.aload_n 0, 1) := by decide +kernel
theorem dX0_bestSet_99 : decode cX0_bestSet 99 = .ok (.iload 4, 2) := by decide +kernel
theorem dX0_bestSet_101 : decode cX0_bestSet 101 = .ok (.iload_n 3, 1) := by decide +kernel
theorem dX0_bestSet_102 : decode cX0_bestSet 102 = .ok (.invokevirtual 68, 3) := by decide +kernel
theorem dX0_bestSet_105 : decode cX0_bestSet 105 = .ok (.ifCond .eq 6, 3) := by decide +kernel
theorem dX0_bestSet_108 : decode cX0_bestSet 108 = .ok (.iload 4, 2) := by decide +kernel
theorem dX0_bestSet_110 : decode cX0_bestSet 110 = .ok (.istore_n 3, 1) := by decide +kernel
theorem dX0_bestSet_111 : decode cX0_bestSet 111 = .ok (.iinc 4 1, 3) := by decide +kernel
theorem dX0_bestSet_114 : decode cX0_bestSet 114 = .ok (.goto (-45), 3) := by decide +kernel
theorem dX0_bestSet_117 : decode cX0_bestSet 117 = .ok (.iload_n 3, 1) := by decide +kernel
theorem dX0_bestSet_118 : decode cX0_bestSet 118 = .ok (.ireturn, 1) := by decide +kernel
theorem dX0_isBetter_0 : decode cX0_isBetter 0 = .ok (.iload_n 2, 1) := by decide +kernel
theorem dX0_isBetter_1 : decode cX0_isBetter 1 = .ok (.bipush (-9), 2) := by decide +kernel
theorem dX0_isBetter_3 : decode cX0_isBetter 3 = .ok (.if_icmp .ne 5, 3) := by decide +kernel
theorem dX0_isBetter_6 : decode cX0_isBetter 6 = .ok (.iconst 1, 1) := by decide +kernel
theorem dX0_isBetter_7 : decode cX0_isBetter 7 = .ok (.ireturn, 1) := by decide +kernel
theorem dX0_isBetter_8 : decode cX0_isBetter 8 = .ok (.iload_n 1, 1) := by decide +kernel
theorem dX0_isBetter_9 : decode cX0_isBetter 9 = .ok (.invokestatic 71, 3) := by decide +kernel
theorem dX0_isBetter_12 : decode cX0_isBetter 12 = .ok (.iload_n 2, 1) := by decide +kernel
theorem dX0_isBetter_13 : decode cX0_isBetter 13 = .ok (.invokestatic 71, 3) := by decide +kernel
theorem dX0_isBetter_16 : decode cX0_isBetter 16 = .ok (.isub, 1) := by decide +kernel
theorem dX0_isBetter_17 : decode cX0_isBetter 17 = .ok (.istore_n 3, 1) := by decide +kernel
theorem dX0_isBetter_18 : decode cX0_isBetter 18 = .ok (.iload_n 3, 1) := by decide +kernel
theorem dX0_isBetter_19 : decode cX0_isBetter 19 = .ok (.ifCond .gt 20, 3) := by decide +kernel
theorem dX0_isBetter_22 : decode cX0_isBetter 22 = .ok (.iload_n 3, 1) := by decide +kernel
theorem dX0_isBetter_23 : decode cX0_isBetter 23 = .ok (.ifCond .ne 20, 3) := by decide +kernel
theorem dX0_isBetter_26 : decode cX0_isBetter 26 = .ok (.aload_n 0, 1) := by decide +kernel
theorem dX0_isBetter_27 : decode cX0_isBetter 27 = .ok (.iload_n 1, 1) := by decide +kernel
theorem dX0_isBetter_28 : decode cX0_isBetter 28 = .ok (.invokevirtual 40, 3) := by decide +kernel
theorem dX0_isBetter_31 : decode cX0_isBetter 31 = .ok (.aload_n 0, 1) := by decide +kernel
theorem dX0_isBetter_32 : decode cX0_isBetter 32 = .ok (.iload_n 2, 1) := by decide +kernel
theorem dX0_isBetter_33 : decode cX0_isBetter 33 = .ok (.invokevirtual 40, 3) := by decide +kernel
theorem dX0_isBetter_36 : decode cX0_isBetter 36 = .ok (.if_icmp .le 7, 3) := by decide +kernel
theorem dX0_isBetter_39 : decode cX0_isBetter 39 = .ok (.iconst 1, 1) := by decide +kernel
theorem dX0_isBetter_40 : decode cX0_isBetter 40 = .ok (.goto 4, 3) := by decide +kernel
theorem dX0_isBetter_43 : decode cX0_isBetter 43 = .ok (.iconst 0, 1) := by decide +kernel
theorem dX0_isBetter_44 : decode cX0_isBetter 44 = .ok (.ireturn, 1) := by decide +kernel
theorem dX0_falseNotes_0 : decode cX0_falseNotes 0 = .ok (.iconst 0, 1) := by decide +kernel
theorem dX0_falseNotes_1 : decode cX0_falseNotes 1 = .ok (.istore_n 1, 1) := by decide +kernel
theorem dX0_falseNotes_2 : decode cX0_falseNotes 2 = .ok (.iconst 0, 1) := by decide +kernel
theorem dX0_falseNotes_3 : decode cX0_falseNotes 3 = .ok (.istore_n 2, 1) := by decide +kernel
theorem dX0_falseNotes_4 : decode cX0_falseNotes 4 = .ok (.iload_n 2, 1) := by decide +kernel
theorem dX0_falseNotes_5 : decode cX0_falseNotes 5 = .ok (.aload_n 0, 1) := by decide +kernel
theorem dX0_falseNotes_6 : decode cX0_falseNotes 6 = .ok (.getfield 18, 3) := by decide +kernel
theorem dX0_falseNotes_9 : decode cX0_falseNotes 9 = .ok (.getfield 47, 3) := by decide +kernel
theorem dX0_falseNotes_12 : decode cX0_falseNotes 12 = .ok (.if_icmp .ge 26, 3) := by decide +kernel
theorem dX0_falseNotes_15 : decode cX0_falseNotes 15 = .ok (.aload_n 0, 1) := by decide +kernel
theorem dX0_falseNotes_16 : decode cX0_falseNotes 16 = .ok (.getfield 18, 3) := by decide +kernel
theorem dX0_falseNotes_19 : decode cX0_falseNotes 19 = .ok (.iload_n 2, 1) := by decide +kernel
theorem dX0_falseNotes_20 : decode cX0_falseNotes 20 = .ok (.invokevirtual 76, 3) := by decide +kernel
theorem dX0_falseNotes_23 : decode cX0_falseNotes 23 = .ok (.ifCond .eq 9, 3) := by decide +kernel
theorem dX0_falseNotes_26 : decode cX0_falseNotes 26 = .ok (.iload_n 1, 1) := by decide +kernel
theorem dX0_falseNotes_27 : decode cX0_falseNotes 27 = .ok (.iconst 1, 1) := by decide +kernel
theorem dX0_falseNotes_28 : decode cX0_falseNotes 28 = .ok (.iload_n 2, 1) := by decide +kernel
theorem dX0_falseNotes_29 : decode cX0_falseNotes 29 = .ok (.ishl, 1) := by decide +kernel
theorem dX0_falseNotes_30 : decode cX0_falseNotes 30 = .ok (.ior, 1) := by decide +kernel
theorem dX0_falseNotes_31 : decode cX0_falseNotes 31 = .ok (.istore_n 1, 1) := by decide +kernel
theorem dX0_falseNotes_32 : decode cX0_falseNotes 32 = .ok (.iinc 2 1, 3) := by decide +kernel
theorem dX0_falseNotes_35 : decode cX0_falseNotes 35 = .ok (.goto (-31), 3) := by decide +kernel
theorem dX0_falseNotes_38 : decode cX0_falseNotes 38 = .ok (.iload_n 1, 1) := by decide +kernel
theorem dX0_falseNotes_39 : decode cX0_falseNotes 39 = .ok (.ireturn, 1) := by decide +kernel
theorem dX1_init_0 : decode cX1_init 0 = .ok (.aload_n 0, 1) := by decide +kernel
theorem dX1_init_1 : decode cX1_init 1 = .ok (.invokespecial 3, 3) := by decide +kernel
theorem dX1_init_4 : decode cX1_init 4 = .ok (.aload_n 0, 1) := by decide +kernel
theorem dX1_init_5 : decode cX1_init 5 = .ok (.iconst 5, 1) := by decide +kernel
theorem dX1_init_6 : decode cX1_init 6 = .ok (.newarray .int, 2) := by decide +kernel
theorem dX1_init_8 : decode cX1_init 8 = .ok (.putfield 9, 3) := by decide +kernel
theorem dX1_init_11 : decode cX1_init 11 = .ok (.aload_n 0, 1) := by decide +kernel
theorem dX1_init_12 : decode cX1_init 12 = .ok (.bipush 6, 2) := by decide +kernel
theorem dX1_init_14 : decode cX1_init 14 = .ok (.newarray .int, 2) := by decide +kernel
theorem dX1_init_16 : decode cX1_init 16 = .ok (.putfield 15, 3) := by decide +kernel
theorem dX1_init_19 : decode cX1_init 19 = .ok (.aload_n 0, 1) := by decide +kernel
theorem dX1_init_20 : decode cX1_init 20 = .ok (.bipush 6, 2) := by decide +kernel
theorem dX1_init_22 : decode cX1_init 22 = .ok (.newarray .int, 2) := by decide +kernel
theorem dX1_init_24 : decode cX1_init 24 = .ok (.putfield 18, 3) := by decide +kernel
theorem dX1_init_27 : decode cX1_init 27 = .ok (.aload_n 0, 1) := by decide +kernel
theorem dX1_init_28 : decode cX1_init 28 = .ok (.bipush 6, 2) := by decide +kernel
theorem dX1_init_30 : decode cX1_init 30 = .ok (.newarray .int, 2) := by decide +kernel
theorem dX1_init_32 : decode cX1_init 32 = .ok (.putfield 21, 3) := by decide +kernel
theorem dX1_init_35 : decode cX1_init 35 = .ok (.aload_n 0, 1) := by decide +kernel
theorem dX1_init_36 : decode cX1_init 36 = .ok (.iconst 3, 1) := by decide +kernel
theorem dX1_init_37 : decode cX1_init 37 = .ok (.putfield 24, 3) := by decide +kernel
theorem dX1_init_40 : decode cX1_init 40 = .ok (.aload_n 0, 1) := by decide +kernel
theorem dX1_init_41 : decode cX1_init 41 = .ok (.iconst 3, 1) := by decide +kernel
theorem dX1_init_42 : decode cX1_init 42 = .ok (.putfield 28, 3) := by decide +kernel
theorem dX1_init_45 : decode cX1_init 45 = .ok (.return_, 1) := by decide +kernel
theorem dX1_empty_0 : decode cX1_empty 0 = .ok (.aload_n 0, 1) := by decide +kernel
theorem dX1_empty_1 : decode cX1_empty 1 = .ok (.iconst 0, 1) := by decide +kernel
theorem dX1_empty_2 : decode cX1_empty 2 = .ok (.putfield 31, 3) := by decide +kernel
theorem dX1_empty_5 : decode cX1_empty 5 = .ok (.aload_n 0, 1) := by decide +kernel
theorem dX1_empty_6 : decode cX1_empty 6 = .ok (.iconst 0, 1) := by decide +kernel
theorem dX1_empty_7 : decode cX1_empty 7 = .ok (.putfield 34, 3) := by decide +kernel
theorem dX1_empty_10 : decode cX1_empty 10 = .ok (.aload_n 0, 1) := by decide +kernel
theorem dX1_empty_11 : decode cX1_empty 11 = .ok (.iconst 3, 1) := by decide +kernel
theorem dX1_empty_12 : decode cX1_empty 12 = .ok (.putfield 24, 3) := by decide +kernel
theorem dX1_empty_15 : decode cX1_empty 15 = .ok (.aload_n 0, 1) := by decide +kernel
theorem dX1_empty_16 : decode cX1_empty 16 = .ok (.iconst 3, 1) := by decide +kernel
theorem dX1_empty_17 : decode cX1_empty 17 = .ok (.putfield 28, 3) := by decide +kernel
theorem dX1_empty_20 : decode cX1_empty 20 = .ok (.return_, 1) := by decide +kernel
theorem dX1_copyFrom_0 : decode cX1_copyFrom 0 = .ok (.aload_n 1, 1) := by decide +kernel
theorem dX1_copyFrom_1 : decode cX1_copyFrom 1 = .ok (.getfield 9, 3) := by decide +kernel
theorem dX1_copyFrom_4 : decode cX1_copyFrom 4 = .ok (.iconst 0, 1) := by decide +kernel
theorem dX1_copyFrom_5 : decode cX1_copyFrom 5 = .ok (.aload_n 0, 1) := by decide +kernel
theorem dX1_copyFrom_6 : decode cX1_copyFrom 6 = .ok (.getfield 9, 3) := by decide +kernel
theorem dX1_copyFrom_9 : decode cX1_copyFrom 9 = .ok (.iconst 0, 1) := by decide +kernel
theorem dX1_copyFrom_10 : decode cX1_copyFrom 10 = .ok (.iconst 5, 1) := by decide +kernel
theorem dX1_copyFrom_11 : decode cX1_copyFrom 11 = .ok (.invokestatic 37, 3) := by decide +kernel
theorem dX1_copyFrom_14 : decode cX1_copyFrom 14 = .ok (.aload_n 1, 1) := by decide +kernel
theorem dX1_copyFrom_15 : decode cX1_copyFrom 15 = .ok (.getfield 15, 3) := by decide +kernel
theorem dX1_copyFrom_18 : decode cX1_copyFrom 18 = .ok (.iconst 0, 1) := by decide +kernel
theorem dX1_copyFrom_19 : decode cX1_copyFrom 19 = .ok (.aload_n 0, 1) := by decide +kernel
theorem dX1_copyFrom_20 : decode cX1_copyFrom 20 = .ok (.getfield 15, 3) := by decide +kernel
theorem dX1_copyFrom_23 : decode cX1_copyFrom 23 = .ok (.iconst 0, 1) := by decide +kernel
theorem dX1_copyFrom_24 : decode cX1_copyFrom 24 = .ok (.bipush 6, 2) := by decide +kernel
theorem dX1_copyFrom_26 : decode cX1_copyFrom 26 = .ok (.invokestatic 37, 3) := by decide +kernel
theorem dX1_copyFrom_29 : decode cX1_copyFrom 29 = .ok (.aload_n 1, 1) := by decide +kernel
theorem dX1_copyFrom_30 : decode cX1_copyFrom 30 = .ok (.getfield 18, 3) := by decide +kernel
theorem dX1_copyFrom_33 : decode cX1_copyFrom 33 = .ok (.iconst 0, 1) := by decide +kernel
theorem dX1_copyFrom_34 : decode cX1_copyFrom 34 = .ok (.aload_n 0, 1) := by decide +kernel
theorem dX1_copyFrom_35 : decode cX1_copyFrom 35 = .ok (.getfield 18, 3) := by decide +kernel
theorem dX1_copyFrom_38 : decode cX1_copyFrom 38 = .ok (.iconst 0, 1) := by decide +kernel
theorem dX1_copyFrom_39 : decode cX1_copyFrom 39 = .ok (.bipush 6, 2) := by decide +kernel
theorem dX1_copyFrom_41 : decode cX1_copyFrom 41 = .ok (.invokestatic 37, 3) := by decide +kernel
theorem dX1_copyFrom_44 : decode cX1_copyFrom 44 = .ok (.aload_n 1, 1) := by decide +kernel
theorem dX1_copyFrom_45 : decode cX1_copyFrom 45 = .ok (.getfield 21, 3) := by decide +kernel
theorem dX1_copyFrom_48 : decode cX1_copyFrom 48 = .ok (.iconst 0, 1) := by decide +kernel
theorem dX1_copyFrom_49 : decode cX1_copyFrom 49 = .ok (.aload_n 0, 1) := by decide +kernel
theorem dX1_copyFrom_50 : decode cX1_copyFrom 50 = .ok (.getfield 21, 3) := by decide +kernel
theorem dX1_copyFrom_53 : decode cX1_copyFrom 53 = .ok (.iconst 0, 1) := by decide +kernel
theorem dX1_copyFrom_54 : decode cX1_copyFrom 54 = .ok (.bipush 6, 2) := by decide +kernel
theorem dX1_copyFrom_56 : decode cX1_copyFrom 56 = .ok (.invokestatic 37, 3) := by decide +kernel
theorem dX1_copyFrom_59 : decode cX1_copyFrom 59 = .ok (.aload_n 0, 1) := by decide +kernel
theorem dX1_copyFrom_60 : decode cX1_copyFrom 60 = .ok (.aload_n 1, 1) := by decide +kernel
theorem dX1_copyFrom_61 : decode cX1_copyFrom 61 = .ok (.getfield 31, 3) := by decide +kernel
theorem dX1_copyFrom_64 : decode cX1_copyFrom 64 = .ok (.putfield 31, 3) := by decide +kernel
theorem dX1_copyFrom_67 : decode cX1_copyFrom 67 = .ok (.aload_n 0, 1) := by decide +kernel
theorem dX1_copyFrom_68 : decode cX1_copyFrom 68 = .ok (.aload_n 1, 1) := by decide +kernel
theorem dX1_copyFrom_69 : decode cX1_copyFrom 69 = .ok (.getfield 34, 3) := by decide +kernel
theorem dX1_copyFrom_72 : decode cX1_copyFrom 72 = .ok (.putfield 34, 3) := by decide +kernel
theorem dX1_copyFrom_75 : decode cX1_copyFrom 75 = .ok (.aload_n 0, 1) := by decide +kernel
theorem dX1_copyFrom_76 : decode cX1_copyFrom 76 = .ok (.aload_n 1, 1) := by decide +kernel
theorem dX1_copyFrom_77 : decode cX1_copyFrom 77 = .ok (.getfield 24, 3) := by decide +kernel
theorem dX1_copyFrom_80 : decode cX1_copyFrom 80 = .ok (.putfield 24, 3) := by decide +kernel
theorem dX1_copyFrom_83 : decode cX1_copyFrom 83 = .ok (.aload_n 0, 1) := by decide +kernel
theorem dX1_copyFrom_84 : decode cX1_copyFrom 84 = .ok (.aload_n 1, 1) := by decide +kernel
theorem dX1_copyFrom_85 : decode cX1_copyFrom 85 = .ok (.getfield 28, 3) := by decide +kernel
theorem dX1_copyFrom_88 : decode cX1_copyFrom 88 = .ok (.putfield 28, 3) := by decide +kernel
theorem dX1_copyFrom_91 : decode cX1_copyFrom 91 = .ok (.return_, 1) := by decide +kernel
theorem dX1_hasPerson_0 : decode cX1_hasPerson 0 = .ok (.iload_n 1, 1) := by decide +kernel
theorem dX1_hasPerson_1 : decode cX1_hasPerson 1 = .ok (.ifCond .lt 15, 3) := by decide +kernel
theorem dX1_hasPerson_4 : decode cX1_hasPerson 4 = .ok (.iload_n 1, 1) := by decide +kernel
theorem dX1_hasPerson_5 : decode cX1_hasPerson 5 = .ok (.aload_n 0, 1) := by decide +kernel
theorem dX1_hasPerson_6 : decode cX1_hasPerson 6 = .ok (.getfield 31, 3) := by decide +kernel
theorem dX1_hasPerson_9 : decode cX1_hasPerson 9 = .ok (.if_icmp .ge 7, 3) := by decide +kernel
theorem dX1_hasPerson_12 : decode cX1_hasPerson 12 = .ok (.iconst 1, 1) := by decide +kernel
theorem dX1_hasPerson_13 : decode cX1_hasPerson 13 = .ok (.goto 4, 3) := by decide +kernel
theorem dX1_hasPerson_16 : decode cX1_hasPerson 16 = .ok (.iconst 0, 1) := by decide +kernel
theorem dX1_hasPerson_17 : decode cX1_hasPerson 17 = .ok (.ireturn, 1) := by decide +kernel
theorem dX1_hasNote_0 : decode cX1_hasNote 0 = .ok (.iload_n 1, 1) := by decide +kernel
theorem dX1_hasNote_1 : decode cX1_hasNote 1 = .ok (.ifCond .lt 15, 3) := by decide +kernel
theorem dX1_hasNote_4 : decode cX1_hasNote 4 = .ok (.iload_n 1, 1) := by decide +kernel
theorem dX1_hasNote_5 : decode cX1_hasNote 5 = .ok (.aload_n 0, 1) := by decide +kernel
theorem dX1_hasNote_6 : decode cX1_hasNote 6 = .ok (.getfield 34, 3) := by decide +kernel
theorem dX1_hasNote_9 : decode cX1_hasNote 9 = .ok (.if_icmp .ge 7, 3) := by decide +kernel
theorem dX1_hasNote_12 : decode cX1_hasNote 12 = .ok (.iconst 1, 1) := by decide +kernel
theorem dX1_hasNote_13 : decode cX1_hasNote 13 = .ok (.goto 4, 3) := by decide +kernel
theorem dX1_hasNote_16 : decode cX1_hasNote 16 = .ok (.iconst 0, 1) := by decide +kernel
theorem dX1_hasNote_17 : decode cX1_hasNote 17 = .ok (.ireturn, 1) := by decide +kernel
theorem dX1_isFalse_0 : decode cX1_isFalse 0 = .ok (.aload_n 0, 1) := by decide +kernel
theorem dX1_isFalse_1 : decode cX1_isFalse 1 = .ok (.getfield 18, 3) := by decide +kernel
theorem dX1_isFalse_4 : decode cX1_isFalse 4 = .ok (.iload_n 1, 1) := by decide +kernel
theorem dX1_isFalse_5 : decode cX1_isFalse 5 = .ok (.iaload, 1) := by decide +kernel
theorem dX1_isFalse_6 : decode cX1_isFalse 6 = .ok (.ifCond .eq 7, 3) := by decide +kernel
theorem dX1_isFalse_9 : decode cX1_isFalse 9 = .ok (.iconst 1, 1) := by decide +kernel
theorem dX1_isFalse_10 : decode cX1_isFalse 10 = .ok (.goto 4, 3) := by decide +kernel
theorem dX1_isFalse_13 : decode cX1_isFalse 13 = .ok (.iconst 0, 1) := by decide +kernel
theorem dX1_isFalse_14 : decode cX1_isFalse 14 = .ok (.ireturn, 1) := by decide +kernel
theorem dX2_init_0 : decode cX2_init 0 = .ok (.aload_n 0, 1) := by decide +kernel
theorem dX2_init_1 : decode cX2_init 1 = .ok (.invokespecial 3, 3) := by decide +kernel
theorem dX2_init_4 : decode cX2_init 4 = .ok (.aload_n 0, 1) := by decide +kernel
theorem dX2_init_5 : decode cX2_init 5 = .ok (.sipush 200, 3) := by decide +kernel
theorem dX2_init_8 : decode cX2_init 8 = .ok (.newarray .int, 2) := by decide +kernel
theorem dX2_init_10 : decode cX2_init 10 = .ok (.putfield 11, 3) := by decide +kernel
theorem dX2_init_13 : decode cX2_init 13 = .ok (.return_, 1) := by decide +kernel
theorem dX2_empty_0 : decode cX2_empty 0 = .ok (.aload_n 0, 1) := by decide +kernel
theorem dX2_empty_1 : decode cX2_empty 1 = .ok (.iconst 0, 1) := by decide +kernel
theorem dX2_empty_2 : decode cX2_empty 2 = .ok (.putfield 17, 3) := by decide +kernel
theorem dX2_empty_5 : decode cX2_empty 5 = .ok (.aload_n 0, 1) := by decide +kernel
theorem dX2_empty_6 : decode cX2_empty 6 = .ok (.iconst 0, 1) := by decide +kernel
theorem dX2_empty_7 : decode cX2_empty 7 = .ok (.putfield 21, 3) := by decide +kernel
theorem dX2_empty_10 : decode cX2_empty 10 = .ok (.return_, 1) := by decide +kernel
theorem dX2_push_0 : decode cX2_push 0 = .ok (.aload_n 1, 1) := by decide +kernel
theorem dX2_push_1 : decode cX2_push 1 = .ok (.aload_n 0, 1) := by decide +kernel
theorem dX2_push_2 : decode cX2_push 2 = .ok (.getfield 11, 3) := by decide +kernel
theorem dX2_push_5 : decode cX2_push 5 = .ok (.aload_n 0, 1) := by decide +kernel
theorem dX2_push_6 : decode cX2_push 6 = .ok (.getfield 17, 3) := by decide +kernel
theorem dX2_push_9 : decode cX2_push 9 = .ok (.invokevirtual 24, 3) := by decide +kernel
theorem dX2_push_12 : decode cX2_push 12 = .ok (.aload_n 0, 1) := by decide +kernel
theorem dX2_push_13 : decode cX2_push 13 = .ok (.aload_n 0, 1) := by decide +kernel
theorem dX2_push_14 : decode cX2_push 14 = .ok (.getfield 17, 3) := by decide +kernel
theorem dX2_push_17 : decode cX2_push 17 = .ok (.iconst 1, 1) := by decide +kernel
theorem dX2_push_18 : decode cX2_push 18 = .ok (.iadd, 1) := by decide +kernel
theorem dX2_push_19 : decode cX2_push 19 = .ok (.bipush 10, 2) := by decide +kernel
theorem dX2_push_21 : decode cX2_push 21 = .ok (.irem, 1) := by decide +kernel
theorem dX2_push_22 : decode cX2_push 22 = .ok (.putfield 17, 3) := by decide +kernel
theorem dX2_push_25 : decode cX2_push 25 = .ok (.aload_n 0, 1) := by decide +kernel
theorem dX2_push_26 : decode cX2_push 26 = .ok (.bipush 10, 2) := by decide +kernel
theorem dX2_push_28 : decode cX2_push 28 = .ok (.aload_n 0, 1) := by decide +kernel
theorem dX2_push_29 : decode cX2_push 29 = .ok (.getfield 21, 3) := by decide +kernel
theorem dX2_push_32 : decode cX2_push 32 = .ok (.iconst 1, 1) := by decide +kernel
theorem dX2_push_33 : decode cX2_push 33 = .ok (.iadd, 1) := by decide +kernel
theorem dX2_push_34 : decode cX2_push 34 = .ok (.invokestatic 28, 3) := by decide +kernel
theorem dX2_push_37 : decode cX2_push 37 = .ok (.putfield 21, 3) := by decide +kernel
theorem dX2_push_40 : decode cX2_push 40 = .ok (.return_, 1) := by decide +kernel
theorem dX2_pop_0 : decode cX2_pop 0 = .ok (.aload_n 0, 1) := by decide +kernel
theorem dX2_pop_1 : decode cX2_pop 1 = .ok (.aload_n 0, 1) := by decide +kernel
theorem dX2_pop_2 : decode cX2_pop 2 = .ok (.getfield 17, 3) := by decide +kernel
theorem dX2_pop_5 : decode cX2_pop 5 = .ok (.bipush 10, 2) := by decide +kernel
theorem dX2_pop_7 : decode cX2_pop 7 = .ok (.iadd, 1) := by decide +kernel
theorem dX2_pop_8 : decode cX2_pop 8 = .ok (.iconst 1, 1) := by decide +kernel
theorem dX2_pop_9 : decode cX2_pop 9 = .ok (.isub, 1) := by decide +kernel
theorem dX2_pop_10 : decode cX2_pop 10 = .ok (.bipush 10, 2) := by decide +kernel
theorem dX2_pop_12 : decode cX2_pop 12 = .ok (.irem, 1) := by decide +kernel
theorem dX2_pop_13 : decode cX2_pop 13 = .ok (.putfield 17, 3) := by decide +kernel
theorem dX2_pop_16 : decode cX2_pop 16 = .ok (.aload_n 0, 1) := by decide +kernel
theorem dX2_pop_17 : decode cX2_pop 17 = .ok (.dup, 1) := by decide +kernel
theorem dX2_pop_18 : decode cX2_pop 18 = .ok (.getfield 21, 3) := by decide +kernel
theorem dX2_pop_21 : decode cX2_pop 21 = .ok (.iconst 1, 1) := by decide +kernel
theorem dX2_pop_22 : decode cX2_pop 22 = .ok (.isub, 1) := by decide +kernel
theorem dX2_pop_23 : decode cX2_pop 23 = .ok (.putfield 21, 3) := by decide +kernel
theorem dX2_pop_26 : decode cX2_pop 26 = .ok (.aload_n 1, 1) := by decide +kernel
theorem dX2_pop_27 : decode cX2_pop 27 = .ok (.aload_n 0, 1) := by decide +kernel
theorem dX2_pop_28 : decode cX2_pop 28 = .ok (.getfield 11, 3) := by decide +kernel
theorem dX2_pop_31 : decode cX2_pop 31 = .ok (.aload_n 0, 1) := by decide +kernel
theorem dX2_pop_32 : decode cX2_pop 32 = .ok (.getfield 17, 3) := by decide +kernel
theorem dX2_pop_35 : decode cX2_pop 35 = .ok (.invokevirtual 34, 3) := by decide +kernel
theorem dX2_pop_38 : decode cX2_pop 38 = .ok (.return_, 1) := by decide +kernel
theorem dX3_init_0 : decode cX3_init 0 = .ok (.aload_n 0, 1) := by decide +kernel
theorem dX3_init_1 : decode cX3_init 1 = .ok (.invokespecial 3, 3) := by decide +kernel
theorem dX3_init_4 : decode cX3_init 4 = .ok (.aload_n 0, 1) := by decide +kernel
theorem dX3_init_5 : decode cX3_init 5 = .ok (.bipush 40, 2) := by decide +kernel
theorem dX3_init_7 : decode cX3_init 7 = .ok (.newarray .int, 2) := by decide +kernel
theorem dX3_init_9 : decode cX3_init 9 = .ok (.putfield 11, 3) := by decide +kernel
theorem dX3_init_12 : decode cX3_init 12 = .ok (.return_, 1) := by decide +kernel
theorem dX3_empty_0 : decode cX3_empty 0 = .ok (.aload_n 0, 1) := by decide +kernel
theorem dX3_empty_1 : decode cX3_empty 1 = .ok (.iconst 0, 1) := by decide +kernel
theorem dX3_empty_2 : decode cX3_empty 2 = .ok (.putfield 17, 3) := by decide +kernel
theorem dX3_empty_5 : decode cX3_empty 5 = .ok (.return_, 1) := by decide +kernel
theorem dX3_has_0 : decode cX3_has 0 = .ok (.aload_n 0, 1) := by decide +kernel
theorem dX3_has_1 : decode cX3_has 1 = .ok (.getfield 17, 3) := by decide +kernel
theorem dX3_has_4 : decode cX3_has 4 = .ok (.iload_n 1, 1) := by decide +kernel
theorem dX3_has_5 : decode cX3_has 5 = .ok (.invokestatic 21, 3) := by decide +kernel
theorem dX3_has_8 : decode cX3_has 8 = .ok (.ireturn, 1) := by decide +kernel
theorem dX3_store_0 : decode cX3_store 0 = .ok (.aload_n 2, 1) := by decide +kernel
theorem dX3_store_1 : decode cX3_store 1 = .ok (.aload_n 0, 1) := by decide +kernel
theorem dX3_store_2 : decode cX3_store 2 = .ok (.getfield 11, 3) := by decide +kernel
theorem dX3_store_5 : decode cX3_store 5 = .ok (.iload_n 1, 1) := by decide +kernel
theorem dX3_store_6 : decode cX3_store 6 = .ok (.invokevirtual 25, 3) := by decide +kernel
theorem dX3_store_9 : decode cX3_store 9 = .ok (.aload_n 0, 1) := by decide +kernel
theorem dX3_store_10 : decode cX3_store 10 = .ok (.dup, 1) := by decide +kernel
theorem dX3_store_11 : decode cX3_store 11 = .ok (.getfield 17, 3) := by decide +kernel
theorem dX3_store_14 : decode cX3_store 14 = .ok (.iconst 1, 1) := by decide +kernel
theorem dX3_store_15 : decode cX3_store 15 = .ok (.iload_n 1, 1) := by decide +kernel
theorem dX3_store_16 : decode cX3_store 16 = .ok (.ishl, 1) := by decide +kernel
theorem dX3_store_17 : decode cX3_store 17 = .ok (.ior, 1) := by decide +kernel
theorem dX3_store_18 : decode cX3_store 18 = .ok (.putfield 17, 3) := by decide +kernel
theorem dX3_store_21 : decode cX3_store 21 = .ok (.return_, 1) := by decide +kernel
theorem dX3_restore_0 : decode cX3_restore 0 = .ok (.aload_n 2, 1) := by decide +kernel
theorem dX3_restore_1 : decode cX3_restore 1 = .ok (.aload_n 0, 1) := by decide +kernel
theorem dX3_restore_2 : decode cX3_restore 2 = .ok (.getfield 11, 3) := by decide +kernel
theorem dX3_restore_5 : decode cX3_restore 5 = .ok (.iload_n 1, 1) := by decide +kernel
theorem dX3_restore_6 : decode cX3_restore 6 = .ok (.invokevirtual 29, 3) := by decide +kernel
theorem dX3_restore_9 : decode cX3_restore 9 = .ok (.return_, 1) := by decide +kernel
theorem dX4_init_0 : decode cX4_init 0 = .ok (.aload_n 0, 1) := by decide +kernel
theorem dX4_init_1 : decode cX4_init 1 = .ok (.invokespecial 3, 3) := by decide +kernel
theorem dX4_init_4 : decode cX4_init 4 = .ok (.aload_n 0, 1) := by decide +kernel
theorem dX4_init_5 : decode cX4_init 5 = .ok (.aload_n 1, 1) := by decide +kernel
theorem dX4_init_6 : decode cX4_init 6 = .ok (.putfield 9, 3) := by decide +kernel
theorem dX4_init_9 : decode cX4_init 9 = .ok (.aload_n 0, 1) := by decide +kernel
theorem dX4_init_10 : decode cX4_init 10 = .ok (.aload_n 2, 1) := by decide +kernel
theorem dX4_init_11 : decode cX4_init 11 = .ok (.putfield 15, 3) := by decide +kernel
theorem dX4_init_14 : decode cX4_init 14 = .ok (.return_, 1) := by decide +kernel
theorem dX4_rateAs_0 : decode cX4_rateAs 0 = .ok (.iload_n 1, 1) := by decide +kernel
theorem dX4_rateAs_1 : decode cX4_rateAs 1 = .ok (.tableswitch 75 0 5 #[39, 45, 51, 57, 63, 69], 39) := by decide +kernel
theorem dX4_rateAs_40 : decode cX4_rateAs 40 = .ok (.aload_n 0, 1) := by decide +kernel
theorem dX4_rateAs_41 : decode cX4_rateAs 41 = .ok (.iload_n 2, 1) := by decide +kernel
theorem dX4_rateAs_42 : decode cX4_rateAs 42 = .ok (.invokevirtual 19, 3) := by decide +kernel
theorem dX4_rateAs_45 : decode cX4_rateAs 45 = .ok (.ireturn, 1) := by decide +kernel
theorem dX4_rateAs_46 : decode cX4_rateAs 46 = .ok (.aload_n 0, 1) := by decide +kernel
theorem dX4_rateAs_47 : decode cX4_rateAs 47 = .ok (.iload_n 2, 1) := by decide +kernel
theorem dX4_rateAs_48 : decode cX4_rateAs 48 = .ok (.invokevirtual 23, 3) := by decide +kernel
theorem dX4_rateAs_51 : decode cX4_rateAs 51 = .ok (.ireturn, 1) := by decide +kernel
theorem dX4_rateAs_52 : decode cX4_rateAs 52 = .ok (.aload_n 0, 1) := by decide +kernel
theorem dX4_rateAs_53 : decode cX4_rateAs 53 = .ok (.iload_n 2, 1) := by decide +kernel
theorem dX4_rateAs_54 : decode cX4_rateAs 54 = .ok (.invokevirtual 26, 3) := by decide +kernel
theorem dX4_rateAs_57 : decode cX4_rateAs 57 = .ok (.ireturn, 1) := by decide +kernel
theorem dX4_rateAs_58 : decode cX4_rateAs 58 = .ok (.aload_n 0, 1) := by decide +kernel
theorem dX4_rateAs_59 : decode cX4_rateAs 59 = .ok (.iload_n 2, 1) := by decide +kernel
theorem dX4_rateAs_60 : decode cX4_rateAs 60 = .ok (.invokevirtual 29, 3) := by decide +kernel
theorem dX4_rateAs_63 : decode cX4_rateAs 63 = .ok (.ireturn, 1) := by decide +kernel
theorem dX4_rateAs_64 : decode cX4_rateAs 64 = .ok (.aload_n 0, 1) := by decide +kernel
theorem dX4_rateAs_65 : decode cX4_rateAs 65 = .ok (.iload_n 2, 1) := by decide +kernel
theorem dX4_rateAs_66 : decode cX4_rateAs 66 = .ok (.invokevirtual 32, 3) := by decide +kernel
theorem dX4_rateAs_69 : decode cX4_rateAs 69 = .ok (.ireturn, 1) := by decide +kernel
theorem dX4_rateAs_70 : decode cX4_rateAs 70 = .ok (.aload_n 0, 1) := by decide +kernel
theorem dX4_rateAs_71 : decode cX4_rateAs 71 = .ok (.iload_n 2, 1) := by decide +kernel
theorem dX4_rateAs_72 : decode cX4_rateAs 72 = .ok (.invokevirtual 35, 3) := by decide +kernel
theorem dX4_rateAs_75 : decode cX4_rateAs 75 = .ok (.ireturn, 1) := by decide +kernel
theorem dX4_rateAs_76 : decode cX4_rateAs 76 = .ok (.ldc 38, 2) := by decide +kernel
theorem dX4_rateAs_78 : decode cX4_rateAs 78 = .ok (.ireturn, 1) := by decide +kernel
theorem dX4_asNote_0 : decode cX4_asNote 0 = .ok (.aload_n 0, 1) := by decide +kernel
theorem dX4_asNote_1 : decode cX4_asNote 1 = .ok (.dup, 1) := by decide +kernel
theorem dX4_asNote_2 : decode cX4_asNote 2 = .ok (.getfield 39, 3) := by decide +kernel
theorem dX4_asNote_5 : decode cX4_asNote 5 = .ok (.lconst 1, 1) := by decide +kernel
theorem dX4_asNote_6 : decode cX4_asNote 6 = .ok (.ladd, 1) := by decide +kernel
theorem dX4_asNote_7 : decode cX4_asNote 7 = .ok (.putfield 39, 3) := by decide +kernel
theorem dX4_asNote_10 : decode cX4_asNote 10 = .ok (.aload_n 0, 1) := by decide +kernel
theorem dX4_asNote_11 : decode cX4_asNote 11 = .ok (.getfield 9, 3) := by decide +kernel
theorem dX4_asNote_14 : decode cX4_asNote 14 = .ok (.getfield 43, 3) := by decide +kernel
theorem dX4_asNote_17 : decode cX4_asNote 17 = .ok (.iload_n 1, 1) := by decide +kernel
theorem dX4_asNote_18 : decode cX4_asNote 18 = .ok (.iaload, 1) := by decide +kernel
theorem dX4_asNote_19 : decode cX4_asNote 19 = .ok (.ireturn, 1) := by decide +kernel
theorem dX4_asTwenty_0 : decode cX4_asTwenty 0 = .ok (.aload_n 0, 1) := by decide +kernel
theorem dX4_asTwenty_1 : decode cX4_asTwenty 1 = .ok (.dup, 1) := by decide +kernel
theorem dX4_asTwenty_2 : decode cX4_asTwenty 2 = .ok (.getfield 39, 3) := by decide +kernel
theorem dX4_asTwenty_5 : decode cX4_asTwenty 5 = .ok (.ldc2_w 49, 3) := by decide +kernel
theorem dX4_asTwenty_8 : decode cX4_asTwenty 8 = .ok (.ladd, 1) := by decide +kernel
theorem dX4_asTwenty_9 : decode cX4_asTwenty 9 = .ok (.putfield 39, 3) := by decide +kernel
theorem dX4_asTwenty_12 : decode cX4_asTwenty 12 = .ok (.aload_n 0, 1) := by decide +kernel
theorem dX4_asTwenty_13 : decode cX4_asTwenty 13 = .ok (.iload_n 1, 1) := by decide +kernel
theorem dX4_asTwenty_14 : decode cX4_asTwenty 14 = .ok (.invokevirtual 19, 3) := by decide +kernel
theorem dX4_asTwenty_17 : decode cX4_asTwenty 17 = .ok (.aload_n 0, 1) := by decide +kernel
theorem dX4_asTwenty_18 : decode cX4_asTwenty 18 = .ok (.getfield 15, 3) := by decide +kernel
theorem dX4_asTwenty_21 : decode cX4_asTwenty 21 = .ok (.iload_n 1, 1) := by decide +kernel
theorem dX4_asTwenty_22 : decode cX4_asTwenty 22 = .ok (.invokevirtual 51, 3) := by decide +kernel
theorem dX4_asTwenty_25 : decode cX4_asTwenty 25 = .ok (.iadd, 1) := by decide +kernel
theorem dX4_asTwenty_26 : decode cX4_asTwenty 26 = .ok (.ireturn, 1) := by decide +kernel
theorem dX4_asQueen_0 : decode cX4_asQueen 0 = .ok (.aload_n 0, 1) := by decide +kernel
theorem dX4_asQueen_1 : decode cX4_asQueen 1 = .ok (.dup, 1) := by decide +kernel
theorem dX4_asQueen_2 : decode cX4_asQueen 2 = .ok (.getfield 39, 3) := by decide +kernel
theorem dX4_asQueen_5 : decode cX4_asQueen 5 = .ok (.ldc2_w 56, 3) := by decide +kernel
theorem dX4_asQueen_8 : decode cX4_asQueen 8 = .ok (.ladd, 1) := by decide +kernel
theorem dX4_asQueen_9 : decode cX4_asQueen 9 = .ok (.putfield 39, 3) := by decide +kernel
theorem dX4_asQueen_12 : decode cX4_asQueen 12 = .ok (.aload_n 0, 1) := by decide +kernel
theorem dX4_asQueen_13 : decode cX4_asQueen 13 = .ok (.iload_n 1, 1) := by decide +kernel
theorem dX4_asQueen_14 : decode cX4_asQueen 14 = .ok (.invokevirtual 19, 3) := by decide +kernel
theorem dX4_asQueen_17 : decode cX4_asQueen 17 = .ok (.aload_n 0, 1) := by decide +kernel
theorem dX4_asQueen_18 : decode cX4_asQueen 18 = .ok (.getfield 9, 3) := by decide +kernel
theorem dX4_asQueen_21 : decode cX4_asQueen 21 = .ok (.getfield 58, 3) := by decide +kernel
theorem dX4_asQueen_24 : decode cX4_asQueen 24 = .ok (.iload_n 1, 1) := by decide +kernel
theorem dX4_asQueen_25 : decode cX4_asQueen 25 = .ok (.iaload, 1) := by decide +kernel
theorem dX4_asQueen_26 : decode cX4_asQueen 26 = .ok (.invokestatic 61, 3) := by decide +kernel
theorem dX4_asQueen_29 : decode cX4_asQueen 29 = .ok (.isub, 1) := by decide +kernel
theorem dX4_asQueen_30 : decode cX4_asQueen 30 = .ok (.ireturn, 1) := by decide +kernel
theorem dX4_asAccent_0 : decode cX4_asAccent 0 = .ok (.aload_n 0, 1) := by decide +kernel
theorem dX4_asAccent_1 : decode cX4_asAccent 1 = .ok (.dup, 1) := by decide +kernel
theorem dX4_asAccent_2 : decode cX4_asAccent 2 = .ok (.getfield 39, 3) := by decide +kernel
theorem dX4_asAccent_5 : decode cX4_asAccent 5 = .ok (.ldc2_w 66, 3) := by decide +kernel
theorem dX4_asAccent_8 : decode cX4_asAccent 8 = .ok (.ladd, 1) := by decide +kernel
theorem dX4_asAccent_9 : decode cX4_asAccent 9 = .ok (.putfield 39, 3) := by decide +kernel
theorem dX4_asAccent_12 : decode cX4_asAccent 12 = .ok (.iconst 2, 1) := by decide +kernel
theorem dX4_asAccent_13 : decode cX4_asAccent 13 = .ok (.aload_n 0, 1) := by decide +kernel
theorem dX4_asAccent_14 : decode cX4_asAccent 14 = .ok (.iload_n 1, 1) := by decide +kernel
theorem dX4_asAccent_15 : decode cX4_asAccent 15 = .ok (.invokevirtual 23, 3) := by decide +kernel
theorem dX4_asAccent_18 : decode cX4_asAccent 18 = .ok (.imul, 1) := by decide +kernel
theorem dX4_asAccent_19 : decode cX4_asAccent 19 = .ok (.ireturn, 1) := by decide +kernel
theorem dX4_asNose_0 : decode cX4_asNose 0 = .ok (.aload_n 0, 1) := by decide +kernel
theorem dX4_asNose_1 : decode cX4_asNose 1 = .ok (.dup, 1) := by decide +kernel
theorem dX4_asNose_2 : decode cX4_asNose 2 = .ok (.getfield 39, 3) := by decide +kernel
theorem dX4_asNose_5 : decode cX4_asNose 5 = .ok (.ldc2_w 68, 3) := by decide +kernel
theorem dX4_asNose_8 : decode cX4_asNose 8 = .ok (.ladd, 1) := by decide +kernel
theorem dX4_asNose_9 : decode cX4_asNose 9 = .ok (.putfield 39, 3) := by decide +kernel
theorem dX4_asNose_12 : decode cX4_asNose 12 = .ok (.aload_n 0, 1) := by decide +kernel
theorem dX4_asNose_13 : decode cX4_asNose 13 = .ok (.iload_n 1, 1) := by decide +kernel
theorem dX4_asNose_14 : decode cX4_asNose 14 = .ok (.invokevirtual 26, 3) := by decide +kernel
theorem dX4_asNose_17 : decode cX4_asNose 17 = .ok (.iload_n 1, 1) := by decide +kernel
theorem dX4_asNose_18 : decode cX4_asNose 18 = .ok (.iadd, 1) := by decide +kernel
theorem dX4_asNose_19 : decode cX4_asNose 19 = .ok (.ireturn, 1) := by decide +kernel
theorem dX4_asPaper_0 : decode cX4_asPaper 0 = .ok (.aload_n 0, 1) := by decide +kernel
theorem dX4_asPaper_1 : decode cX4_asPaper 1 = .ok (.dup, 1) := by decide +kernel
theorem dX4_asPaper_2 : decode cX4_asPaper 2 = .ok (.getfield 39, 3) := by decide +kernel
theorem dX4_asPaper_5 : decode cX4_asPaper 5 = .ok (.ldc2_w 70, 3) := by decide +kernel
theorem dX4_asPaper_8 : decode cX4_asPaper 8 = .ok (.ladd, 1) := by decide +kernel
theorem dX4_asPaper_9 : decode cX4_asPaper 9 = .ok (.putfield 39, 3) := by decide +kernel
theorem dX4_asPaper_12 : decode cX4_asPaper 12 = .ok (.aload_n 0, 1) := by decide +kernel
theorem dX4_asPaper_13 : decode cX4_asPaper 13 = .ok (.iload_n 1, 1) := by decide +kernel
theorem dX4_asPaper_14 : decode cX4_asPaper 14 = .ok (.invokevirtual 19, 3) := by decide +kernel
theorem dX4_asPaper_17 : decode cX4_asPaper 17 = .ok (.aload_n 0, 1) := by decide +kernel
theorem dX4_asPaper_18 : decode cX4_asPaper 18 = .ok (.getfield 15, 3) := by decide +kernel
theorem dX4_asPaper_21 : decode cX4_asPaper 21 = .ok (.invokevirtual 72, 3) := by decide +kernel
theorem dX4_asPaper_24 : decode cX4_asPaper 24 = .ok (.iadd, 1) := by decide +kernel
theorem dX4_asPaper_25 : decode cX4_asPaper 25 = .ok (.ireturn, 1) := by decide +kernel
theorem dX5_init_0 : decode cX5_init 0 = .ok (.aload_n 0, 1) := by decide +kernel
theorem dX5_init_1 : decode cX5_init 1 = .ok (.invokespecial 3, 3) := by decide +kernel
theorem dX5_init_4 : decode cX5_init 4 = .ok (.aload_n 0, 1) := by decide +kernel
theorem dX5_init_5 : decode cX5_init 5 = .ok (.bipush 6, 2) := by decide +kernel
theorem dX5_init_7 : decode cX5_init 7 = .ok (.newarray .int, 2) := by decide +kernel
theorem dX5_init_9 : decode cX5_init 9 = .ok (.putfield 9, 3) := by decide +kernel
theorem dX5_init_12 : decode cX5_init 12 = .ok (.aload_n 0, 1) := by decide +kernel
theorem dX5_init_13 : decode cX5_init 13 = .ok (.bipush 6, 2) := by decide +kernel
theorem dX5_init_15 : decode cX5_init 15 = .ok (.newarray .int, 2) := by decide +kernel
theorem dX5_init_17 : decode cX5_init 17 = .ok (.putfield 15, 3) := by decide +kernel
theorem dX5_init_20 : decode cX5_init 20 = .ok (.aload_n 0, 1) := by decide +kernel
theorem dX5_init_21 : decode cX5_init 21 = .ok (.aload_n 1, 1) := by decide +kernel
theorem dX5_init_22 : decode cX5_init 22 = .ok (.putfield 18, 3) := by decide +kernel
theorem dX5_init_25 : decode cX5_init 25 = .ok (.aload_n 0, 1) := by decide +kernel
theorem dX5_init_26 : decode cX5_init 26 = .ok (.aload_n 2, 1) := by decide +kernel
theorem dX5_init_27 : decode cX5_init 27 = .ok (.putfield 22, 3) := by decide +kernel
theorem dX5_init_30 : decode cX5_init 30 = .ok (.return_, 1) := by decide +kernel
theorem dX5_empty_0 : decode cX5_empty 0 = .ok (.aload_n 0, 1) := by decide +kernel
theorem dX5_empty_1 : decode cX5_empty 1 = .ok (.iconst 0, 1) := by decide +kernel
theorem dX5_empty_2 : decode cX5_empty 2 = .ok (.putfield 26, 3) := by decide +kernel
theorem dX5_empty_5 : decode cX5_empty 5 = .ok (.return_, 1) := by decide +kernel
theorem dX5_add_0 : decode cX5_add 0 = .ok (.aload_n 0, 1) := by decide +kernel
theorem dX5_add_1 : decode cX5_add 1 = .ok (.getfield 26, 3) := by decide +kernel
theorem dX5_add_4 : decode cX5_add 4 = .ok (.bipush 6, 2) := by decide +kernel
theorem dX5_add_6 : decode cX5_add 6 = .ok (.if_icmp .lt 6, 3) := by decide +kernel
theorem dX5_add_9 : decode cX5_add 9 = .ok (.bipush (-3), 2) := by decide +kernel
theorem dX5_add_11 : decode cX5_add 11 = .ok (.ireturn, 1) := by decide +kernel
theorem dX5_add_12 : decode cX5_add 12 = .ok (.aload_n 0, 1) := by decide +kernel
theorem dX5_add_13 : decode cX5_add 13 = .ok (.getfield 9, 3) := by decide +kernel
theorem dX5_add_16 : decode cX5_add 16 = .ok (.aload_n 0, 1) := by decide +kernel
theorem dX5_add_17 : decode cX5_add 17 = .ok (.getfield 26, 3) := by decide +kernel
theorem dX5_add_20 : decode cX5_add 20 = .ok (.iload_n 1, 1) := by decide +kernel
theorem dX5_add_21 : decode cX5_add 21 = .ok (.iastore, 1) := by decide +kernel
theorem dX5_add_22 : decode cX5_add 22 = .ok (.aload_n 0, 1) := by decide +kernel
theorem dX5_add_23 : decode cX5_add 23 = .ok (.getfield 15, 3) := by decide +kernel
theorem dX5_add_26 : decode cX5_add 26 = .ok (.aload_n 0, 1) := by decide +kernel
theorem dX5_add_27 : decode cX5_add 27 = .ok (.getfield 26, 3) := by decide +kernel
theorem dX5_add_30 : decode cX5_add 30 = .ok (.iload_n 2, 1) := by decide +kernel
theorem dX5_add_31 : decode cX5_add 31 = .ok (.iastore, 1) := by decide +kernel
theorem dX5_add_32 : decode cX5_add 32 = .ok (.aload_n 0, 1) := by decide +kernel
theorem dX5_add_33 : decode cX5_add 33 = .ok (.dup, 1) := by decide +kernel
theorem dX5_add_34 : decode cX5_add 34 = .ok (.getfield 26, 3) := by decide +kernel
theorem dX5_add_37 : decode cX5_add 37 = .ok (.iconst 1, 1) := by decide +kernel
theorem dX5_add_38 : decode cX5_add 38 = .ok (.iadd, 1) := by decide +kernel
theorem dX5_add_39 : decode cX5_add 39 = .ok (.putfield 26, 3) := by decide +kernel
theorem dX5_add_42 : decode cX5_add 42 = .ok (.aload_n 0, 1) := by decide +kernel
theorem dX5_add_43 : decode cX5_add 43 = .ok (.getfield 26, 3) := by decide +kernel
theorem dX5_add_46 : decode cX5_add 46 = .ok (.ireturn, 1) := by decide +kernel
theorem dX5_howMany_0 : decode cX5_howMany 0 = .ok (.iconst 0, 1) := by decide +kernel
theorem dX5_howMany_1 : decode cX5_howMany 1 = .ok (.istore_n 1, 1) := by decide +kernel
theorem dX5_howMany_2 : decode cX5_howMany 2 = .ok (.iconst 0, 1) := by decide +kernel
theorem dX5_howMany_3 : decode cX5_howMany 3 = .ok (.istore_n 2, 1) := by decide +kernel
theorem dX5_howMany_4 : decode cX5_howMany 4 = .ok (.iload_n 2, 1) := by decide +kernel
theorem dX5_howMany_5 : decode cX5_howMany 5 = .ok (.bipush 31, 2) := by decide +kernel
theorem dX5_howMany_7 : decode cX5_howMany 7 = .ok (.if_icmp .gt 20, 3) := by decide +kernel
theorem dX5_howMany_10 : decode cX5_howMany 10 = .ok (.aload_n 0, 1) := by decide +kernel
theorem dX5_howMany_11 : decode cX5_howMany 11 = .ok (.iload_n 2, 1) := by decide +kernel
theorem dX5_howMany_12 : decode cX5_howMany 12 = .ok (.invokevirtual 30, 3) := by decide +kernel
theorem dX5_howMany_15 : decode cX5_howMany 15 = .ok (.ifCond .eq 6, 3) := by decide +kernel
theorem dX5_howMany_18 : decode cX5_howMany 18 = .ok (.iinc 1 1, 3) := by decide +kernel
theorem dX5_howMany_21 : decode cX5_howMany 21 = .ok (.iinc 2 1, 3) := by decide +kernel
theorem dX5_howMany_24 : decode cX5_howMany 24 = .ok (.goto (-20), 3) := by decide +kernel
theorem dX5_howMany_27 : decode cX5_howMany 27 = .ok (.iload_n 1, 1) := by decide +kernel
theorem dX5_howMany_28 : decode cX5_howMany 28 = .ok (.ireturn, 1) := by decide +kernel
theorem dX5_least_0 : decode cX5_least 0 = .ok (.iconst 0, 1) := by decide +kernel
theorem dX5_least_1 : decode cX5_least 1 = .ok (.istore_n 1, 1) := by decide +kernel
theorem dX5_least_2 : decode cX5_least 2 = .ok (.iload_n 1, 1) := by decide +kernel
theorem dX5_least_3 : decode cX5_least 3 = .ok (.bipush 31, 2) := by decide +kernel
theorem dX5_least_5 : decode cX5_least 5 = .ok (.if_icmp .gt 19, 3) := by decide +kernel
theorem dX5_least_8 : decode cX5_least 8 = .ok (.aload_n 0, 1) := by decide +kernel
theorem dX5_least_9 : decode cX5_least 9 = .ok (.iload_n 1, 1) := by decide +kernel
theorem dX5_least_10 : decode cX5_least 10 = .ok (.invokevirtual 30, 3) := by decide +kernel
theorem dX5_least_13 : decode cX5_least 13 = .ok (.ifCond .eq 5, 3) := by decide +kernel
theorem dX5_least_16 : decode cX5_least 16 = .ok (.iload_n 1, 1) := by decide +kernel
theorem dX5_least_17 : decode cX5_least 17 = .ok (.ireturn, 1) := by decide +kernel
theorem dX5_least_18 : decode cX5_least 18 = .ok (.iinc 1 1, 3) := by decide +kernel
theorem dX5_least_21 : decode cX5_least 21 = .ok (.goto (-19), 3) := by decide +kernel
theorem dX5_least_24 : decode cX5_least 24 = .ok (.bipush (-9), 2) := by decide +kernel
theorem dX5_least_26 : decode cX5_least 26 = .ok (.ireturn, 1) := by decide +kernel
theorem dX5_inAll_0 : decode cX5_inAll 0 = .ok (.bipush (-9), 2) := by decide +kernel
theorem dX5_inAll_2 : decode cX5_inAll 2 = .ok (.istore_n 1, 1) := by decide +kernel
theorem dX5_inAll_3 : decode cX5_inAll 3 = .ok (.iconst 0, 1) := by decide +kernel
theorem dX5_inAll_4 : decode cX5_inAll 4 = .ok (.istore_n 2, 1) := by decide +kernel
theorem dX5_inAll_5 : decode cX5_inAll 5 = .ok (.iload_n 2, 1) := by decide +kernel
theorem dX5_inAll_6 : decode cX5_inAll 6 = .ok (.bipush 31, 2) := by decide +kernel
theorem dX5_inAll_8 : decode cX5_inAll 8 = .ok (.if_icmp .gt 31, 3) := by decide +kernel
theorem dX5_inAll_11 : decode cX5_inAll 11 = .ok (.aload_n 0, 1) := by decide +kernel
theorem dX5_inAll_12 : decode cX5_inAll 12 = .ok (.iload_n 2, 1) := by decide +kernel
theorem dX5_inAll_13 : decode cX5_inAll 13 = .ok (.invokevirtual 30, 3) := by decide +kernel
theorem dX5_inAll_16 : decode cX5_inAll 16 = .ok (.ifCond .eq 17, 3) := by decide +kernel
theorem dX5_inAll_19 : decode cX5_inAll 19 = .ok (.iload_n 1, 1) := by decide +kernel
theorem dX5_inAll_20 : decode cX5_inAll 20 = .ok (.bipush (-9), 2) := by decide +kernel
theorem dX5_inAll_22 : decode cX5_inAll 22 = .ok (.if_icmp .ne 7, 3) := by decide +kernel
theorem dX5_inAll_25 : decode cX5_inAll 25 = .ok (.iload_n 2, 1) := by decide +kernel
theorem dX5_inAll_26 : decode cX5_inAll 26 = .ok (.goto 6, 3) := by decide +kernel
theorem dX5_inAll_29 : decode cX5_inAll 29 = .ok (.iload_n 1, 1) := by decide +kernel
theorem dX5_inAll_30 : decode cX5_inAll 30 = .ok (.iload_n 2, 1) := by decide +kernel
theorem dX5_inAll_31 : decode cX5_inAll 31 = .ok (.iand, 1) := by decide +kernel
theorem dX5_inAll_32 : decode cX5_inAll 32 = .ok (.istore_n 1, 1) := by decide +kernel
theorem dX5_inAll_33 : decode cX5_inAll 33 = .ok (.iinc 2 1, 3) := by decide +kernel
theorem dX5_inAll_36 : decode cX5_inAll 36 = .ok (.goto (-31), 3) := by decide +kernel
theorem dX5_inAll_39 : decode cX5_inAll 39 = .ok (.iload_n 1, 1) := by decide +kernel
theorem dX5_inAll_40 : decode cX5_inAll 40 = .ok (.ireturn, 1) := by decide +kernel
theorem dX5_bestPerson_0 : decode cX5_bestPerson 0 = .ok (.aload_n 0, 1) := by decide +kernel
theorem dX5_bestPerson_1 : decode cX5_bestPerson 1 = .ok (.invokevirtual 34, 3) := by decide +kernel
theorem dX5_bestPerson_4 : decode cX5_bestPerson 4 = .ok (.istore_n 1, 1) := by decide +kernel
theorem dX5_bestPerson_5 : decode cX5_bestPerson 5 = .ok (.iload_n 1, 1) := by decide +kernel
theorem dX5_bestPerson_6 : decode cX5_bestPerson 6 = .ok (.iconst 1, 1) := by decide +kernel
theorem dX5_bestPerson_7 : decode cX5_bestPerson 7 = .ok (.if_icmp .gt 6, 3) := by decide +kernel
theorem dX5_bestPerson_10 : decode cX5_bestPerson 10 = .ok (.bipush (-9), 2) := by decide +kernel
theorem dX5_bestPerson_12 : decode cX5_bestPerson 12 = .ok (.ireturn, 1) := by decide +kernel
theorem dX5_bestPerson_13 : decode cX5_bestPerson 13 = .ok (.bipush (-9), 2) := by decide +kernel
theorem dX5_bestPerson_15 : decode cX5_bestPerson 15 = .ok (.istore_n 2, 1) := by decide +kernel
theorem dX5_bestPerson_16 : decode cX5_bestPerson 16 = .ok (.iload_n 1, 1) := by decide +kernel
theorem dX5_bestPerson_17 : decode cX5_bestPerson 17 = .ok (.iconst 1, 1) := by decide +kernel
theorem dX5_bestPerson_18 : decode cX5_bestPerson 18 = .ok (.iadd, 1) := by decide +kernel
theorem dX5_bestPerson_19 : decode cX5_bestPerson 19 = .ok (.istore_n 3, 1) := by decide +kernel
theorem dX5_bestPerson_20 : decode cX5_bestPerson 20 = .ok (.iconst 0, 1) := by decide +kernel
theorem dX5_bestPerson_21 : decode cX5_bestPerson 21 = .ok (.istore 4, 2) := by decide +kernel
theorem dX5_bestPerson_23 : decode cX5_bestPerson 23 = .ok (.iload 4, 2) := by decide +kernel
theorem dX5_bestPerson_25 : decode cX5_bestPerson 25 = .ok (.aload_n 0, 1) := by decide +kernel
theorem dX5_bestPerson_26 : decode cX5_bestPerson 26 = .ok (.getfield 18, 3) := by decide +kernel
theorem dX5_bestPerson_29 : decode cX5_bestPerson 29 = .ok (.getfield 38, 3) := by decide +kernel
theorem dX5_bestPerson_32 : decode cX5_bestPerson 32 = .ok (.if_icmp .ge 40, 3) := by decide +kernel
theorem dX5_bestPerson_35 : decode cX5_bestPerson 35 = .ok (.aload_n 0, 1) := by decide +kernel
theorem dX5_bestPerson_36 : decode cX5_bestPerson 36 = .ok (.iload 4, 2) := by decide +kernel
theorem dX5_bestPerson_38 : decode cX5_bestPerson 38 = .ok (.invokevirtual 43, 3) := by decide +kernel
theorem dX5_bestPerson_41 : decode cX5_bestPerson 41 = .ok (.istore 5, 2) := by decide +kernel
theorem dX5_bestPerson_43 : decode cX5_bestPerson 43 = .ok (.iload 5, 2) := by decide +kernel
theorem dX5_bestPerson_45 : decode cX5_bestPerson 45 = .ok (.iload_n 1, 1) := by decide +kernel
theorem dX5_bestPerson_46 : decode cX5_bestPerson 46 = .ok (.iload 5, 2) := by decide +kernel
theorem dX5_bestPerson_48 : decode cX5_bestPerson 48 = .ok (.isub, 1) := by decide +kernel
theorem dX5_bestPerson_49 : decode cX5_bestPerson 49 = .ok (.invokestatic 47, 3) := by decide +kernel
theorem dX5_bestPerson_52 : decode cX5_bestPerson 52 = .ok (.istore 6, 2) := by decide +kernel
theorem dX5_bestPerson_54 : decode cX5_bestPerson 54 = .ok (.iload 6, 2) := by decide +kernel
theorem dX5_bestPerson_56 : decode cX5_bestPerson 56 = .ok (.iload_n 3, 1) := by decide +kernel
theorem dX5_bestPerson_57 : decode cX5_bestPerson 57 = .ok (.if_icmp .ge 9, 3) := by decide +kernel
theorem dX5_bestPerson_60 : decode cX5_bestPerson 60 = .ok (.iload 4, 2) := by decide +kernel
theorem dX5_bestPerson_62 : decode cX5_bestPerson 62 = .ok (.istore_n 2, 1) := by decide +kernel
theorem dX5_bestPerson_63 : decode cX5_bestPerson 63 = .ok (.iload 6, 2) := by decide +kernel
theorem dX5_bestPerson_65 : decode cX5_bestPerson 65 = .ok (.istore_n 3, 1) := by decide +kernel
theorem dX5_bestPerson_66 : decode cX5_bestPerson 66 = .ok (.iinc 4 1, 3) := by decide +kernel
theorem dX5_bestPerson_69 : decode cX5_bestPerson 69 = .ok (.goto (-46), 3) := by decide +kernel
theorem dX5_bestPerson_72 : decode cX5_bestPerson 72 = .ok (.iload_n 2, 1) := by decide +kernel
theorem dX5_bestPerson_73 : decode cX5_bestPerson 73 = .ok (.ireturn, 1) := by decide +kernel
theorem dX5_howManyTakenBy_0 : decode cX5_howManyTakenBy 0 = .ok (.iconst 0, 1) := by decide +kernel
theorem dX5_howManyTakenBy_1 : decode cX5_howManyTakenBy 1 = .ok (.istore_n 2, 1) := by decide +kernel
theorem dX5_howManyTakenBy_2 : decode cX5_howManyTakenBy 2 = .ok (.iconst 0, 1) := by decide +kernel
theorem dX5_howManyTakenBy_3 : decode cX5_howManyTakenBy 3 = .ok (.istore_n 3, 1) := by decide +kernel
theorem dX5_howManyTakenBy_4 : decode cX5_howManyTakenBy 4 = .ok (.iload_n 3, 1) := by decide +kernel
theorem dX5_howManyTakenBy_5 : decode cX5_howManyTakenBy 5 = .ok (.bipush 31, 2) := by decide +kernel
theorem dX5_howManyTakenBy_7 : decode cX5_howManyTakenBy 7 = .ok (.if_icmp .gt 30, 3) := by decide +kernel
theorem dX5_howManyTakenBy_10 : decode cX5_howManyTakenBy 10 = .ok (.aload_n 0, 1) := by decide +kernel
theorem dX5_howManyTakenBy_11 : decode cX5_howManyTakenBy 11 = .ok (.iload_n 3, 1) := by decide +kernel
theorem dX5_howManyTakenBy_12 : decode cX5_howManyTakenBy 12 = .ok (.invokevirtual 30, 3) := by decide +kernel
theorem dX5_howManyTakenBy_15 : decode cX5_howManyTakenBy 15 = .ok (.ifCond .eq 16, 3) := by decide +kernel
theorem dX5_howManyTakenBy_18 : decode cX5_howManyTakenBy 18 = .ok (.aload_n 0, 1) := by decide +kernel
theorem dX5_howManyTakenBy_19 : decode cX5_howManyTakenBy 19 = .ok (.iload_n 1, 1) := by decide +kernel
theorem dX5_howManyTakenBy_20 : decode cX5_howManyTakenBy 20 = .ok (.iload_n 3, 1) := by decide +kernel
theorem dX5_howManyTakenBy_21 : decode cX5_howManyTakenBy 21 = .ok (.invokevirtual 53, 3) := by decide +kernel
theorem dX5_howManyTakenBy_24 : decode cX5_howManyTakenBy 24 = .ok (.iconst 1, 1) := by decide +kernel
theorem dX5_howManyTakenBy_25 : decode cX5_howManyTakenBy 25 = .ok (.if_icmp .ne 6, 3) := by decide +kernel
theorem dX5_howManyTakenBy_28 : decode cX5_howManyTakenBy 28 = .ok (.iinc 2 1, 3) := by decide +kernel
theorem dX5_howManyTakenBy_31 : decode cX5_howManyTakenBy 31 = .ok (.iinc 3 1, 3) := by decide +kernel
theorem dX5_howManyTakenBy_34 : decode cX5_howManyTakenBy 34 = .ok (.goto (-30), 3) := by decide +kernel
theorem dX5_howManyTakenBy_37 : decode cX5_howManyTakenBy 37 = .ok (.iload_n 2, 1) := by decide +kernel
theorem dX5_howManyTakenBy_38 : decode cX5_howManyTakenBy 38 = .ok (.ireturn, 1) := by decide +kernel
theorem dX5_fits_0 : decode cX5_fits 0 = .ok (.iconst 0, 1) := by decide +kernel
theorem dX5_fits_1 : decode cX5_fits 1 = .ok (.istore_n 2, 1) := by decide +kernel
theorem dX5_fits_2 : decode cX5_fits 2 = .ok (.iload_n 2, 1) := by decide +kernel
theorem dX5_fits_3 : decode cX5_fits 3 = .ok (.aload_n 0, 1) := by decide +kernel
theorem dX5_fits_4 : decode cX5_fits 4 = .ok (.getfield 26, 3) := by decide +kernel
theorem dX5_fits_7 : decode cX5_fits 7 = .ok (.if_icmp .ge 31, 3) := by decide +kernel
theorem dX5_fits_10 : decode cX5_fits 10 = .ok (.aload_n 0, 1) := by decide +kernel
theorem dX5_fits_11 : decode cX5_fits 11 = .ok (.aload_n 0, 1) := by decide +kernel
theorem dX5_fits_12 : decode cX5_fits 12 = .ok (.getfield 9, 3) := by decide +kernel
theorem dX5_fits_15 : decode cX5_fits 15 = .ok (.iload_n 2, 1) := by decide +kernel
theorem dX5_fits_16 : decode cX5_fits 16 = .ok (.iaload, 1) := by decide +kernel
theorem dX5_fits_17 : decode cX5_fits 17 = .ok (.iload_n 1, 1) := by decide +kernel
theorem dX5_fits_18 : decode cX5_fits 18 = .ok (.invokevirtual 53, 3) := by decide +kernel
theorem dX5_fits_21 : decode cX5_fits 21 = .ok (.aload_n 0, 1) := by decide +kernel
theorem dX5_fits_22 : decode cX5_fits 22 = .ok (.getfield 15, 3) := by decide +kernel
theorem dX5_fits_25 : decode cX5_fits 25 = .ok (.iload_n 2, 1) := by decide +kernel
theorem dX5_fits_26 : decode cX5_fits 26 = .ok (.iaload, 1) := by decide +kernel
theorem dX5_fits_27 : decode cX5_fits 27 = .ok (.if_icmp .eq 5, 3) := by decide +kernel
theorem dX5_fits_30 : decode cX5_fits 30 = .ok (.iconst 0, 1) := by decide +kernel
theorem dX5_fits_31 : decode cX5_fits 31 = .ok (.ireturn, 1) := by decide +kernel
theorem dX5_fits_32 : decode cX5_fits 32 = .ok (.iinc 2 1, 3) := by decide +kernel
theorem dX5_fits_35 : decode cX5_fits 35 = .ok (.goto (-33), 3) := by decide +kernel
theorem dX5_fits_38 : decode cX5_fits 38 = .ok (.iconst 1, 1) := by decide +kernel
theorem dX5_fits_39 : decode cX5_fits 39 = .ok (.ireturn, 1) := by decide +kernel
theorem dX5_wouldTake_0 : decode cX5_wouldTake 0 = .ok (.aload_n 0, 1) := by decide +kernel
theorem dX5_wouldTake_1 : decode cX5_wouldTake 1 = .ok (.getfield 22, 3) := by decide +kernel
theorem dX5_wouldTake_4 : decode cX5_wouldTake 4 = .ok (.iload_n 1, 1) := by decide +kernel
theorem dX5_wouldTake_5 : decode cX5_wouldTake 5 = .ok (.invokevirtual 56, 3) := by decide +kernel
theorem dX5_wouldTake_8 : decode cX5_wouldTake 8 = .ok (.iload_n 2, 1) := by decide +kernel
theorem dX5_wouldTake_9 : decode cX5_wouldTake 9 = .ok (.iand, 1) := by decide +kernel
theorem dX5_wouldTake_10 : decode cX5_wouldTake 10 = .ok (.ifCond .ne 7, 3) := by decide +kernel
theorem dX5_wouldTake_13 : decode cX5_wouldTake 13 = .ok (.iconst 1, 1) := by decide +kernel
theorem dX5_wouldTake_14 : decode cX5_wouldTake 14 = .ok (.goto 4, 3) := by decide +kernel
theorem dX5_wouldTake_17 : decode cX5_wouldTake 17 = .ok (.iconst 0, 1) := by decide +kernel
theorem dX5_wouldTake_18 : decode cX5_wouldTake 18 = .ok (.ireturn, 1) := by decide +kernel
theorem dX6_init_0 : decode cX6_init 0 = .ok (.aload_n 0, 1) := by decide +kernel
theorem dX6_init_1 : decode cX6_init 1 = .ok (.invokespecial 5, 3) := by decide +kernel
theorem dX6_init_4 : decode cX6_init 4 = .ok (.aload_n 0, 1) := by decide +kernel
theorem dX6_init_5 : decode cX6_init 5 = .ok (.bipush 20, 2) := by decide +kernel
theorem dX6_init_7 : decode cX6_init 7 = .ok (.newarray .int, 2) := by decide +kernel
theorem dX6_init_9 : decode cX6_init 9 = .ok (.putfield 11, 3) := by decide +kernel
theorem dX6_init_12 : decode cX6_init 12 = .ok (.return_, 1) := by decide +kernel
theorem dX6_begin_0 : decode cX6_begin 0 = .ok (.aload_n 1, 1) := by decide +kernel
theorem dX6_begin_1 : decode cX6_begin 1 = .ok (.getfield 15, 3) := by decide +kernel
theorem dX6_begin_4 : decode cX6_begin 4 = .ok (.iconst 0, 1) := by decide +kernel
theorem dX6_begin_5 : decode cX6_begin 5 = .ok (.aload_n 0, 1) := by decide +kernel
theorem dX6_begin_6 : decode cX6_begin 6 = .ok (.getfield 11, 3) := by decide +kernel
theorem dX6_begin_9 : decode cX6_begin 9 = .ok (.iconst 0, 1) := by decide +kernel
theorem dX6_begin_10 : decode cX6_begin 10 = .ok (.bipush 6, 2) := by decide +kernel
theorem dX6_begin_12 : decode cX6_begin 12 = .ok (.invokestatic 20, 3) := by decide +kernel
theorem dX6_begin_15 : decode cX6_begin 15 = .ok (.aload_n 1, 1) := by decide +kernel
theorem dX6_begin_16 : decode cX6_begin 16 = .ok (.getfield 26, 3) := by decide +kernel
theorem dX6_begin_19 : decode cX6_begin 19 = .ok (.iconst 0, 1) := by decide +kernel
theorem dX6_begin_20 : decode cX6_begin 20 = .ok (.aload_n 0, 1) := by decide +kernel
theorem dX6_begin_21 : decode cX6_begin 21 = .ok (.getfield 11, 3) := by decide +kernel
theorem dX6_begin_24 : decode cX6_begin 24 = .ok (.bipush 12, 2) := by decide +kernel
theorem dX6_begin_26 : decode cX6_begin 26 = .ok (.iconst 5, 1) := by decide +kernel
theorem dX6_begin_27 : decode cX6_begin 27 = .ok (.invokestatic 20, 3) := by decide +kernel
theorem dX6_begin_30 : decode cX6_begin 30 = .ok (.iconst 0, 1) := by decide +kernel
theorem dX6_begin_31 : decode cX6_begin 31 = .ok (.istore_n 2, 1) := by decide +kernel
theorem dX6_begin_32 : decode cX6_begin 32 = .ok (.iload_n 2, 1) := by decide +kernel
theorem dX6_begin_33 : decode cX6_begin 33 = .ok (.bipush 6, 2) := by decide +kernel
theorem dX6_begin_35 : decode cX6_begin 35 = .ok (.if_icmp .ge 19, 3) := by decide +kernel
theorem dX6_begin_38 : decode cX6_begin 38 = .ok (.aload_n 0, 1) := by decide +kernel
theorem dX6_begin_39 : decode cX6_begin 39 = .ok (.getfield 11, 3) := by decide +kernel
theorem dX6_begin_42 : decode cX6_begin 42 = .ok (.bipush 6, 2) := by decide +kernel
theorem dX6_begin_44 : decode cX6_begin 44 = .ok (.iload_n 2, 1) := by decide +kernel
theorem dX6_begin_45 : decode cX6_begin 45 = .ok (.iadd, 1) := by decide +kernel
theorem dX6_begin_46 : decode cX6_begin 46 = .ok (.iconst 0, 1) := by decide +kernel
theorem dX6_begin_47 : decode cX6_begin 47 = .ok (.iastore, 1) := by decide +kernel
theorem dX6_begin_48 : decode cX6_begin 48 = .ok (.iinc 2 1, 3) := by decide +kernel
theorem dX6_begin_51 : decode cX6_begin 51 = .ok (.goto (-19), 3) := by decide +kernel
theorem dX6_begin_54 : decode cX6_begin 54 = .ok (.aload_n 0, 1) := by decide +kernel
theorem dX6_begin_55 : decode cX6_begin 55 = .ok (.getfield 11, 3) := by decide +kernel
theorem dX6_begin_58 : decode cX6_begin 58 = .ok (.bipush 17, 2) := by decide +kernel
theorem dX6_begin_60 : decode cX6_begin 60 = .ok (.iconst 0, 1) := by decide +kernel
theorem dX6_begin_61 : decode cX6_begin 61 = .ok (.iastore, 1) := by decide +kernel
theorem dX6_begin_62 : decode cX6_begin 62 = .ok (.aload_n 0, 1) := by decide +kernel
theorem dX6_begin_63 : decode cX6_begin 63 = .ok (.getfield 11, 3) := by decide +kernel
theorem dX6_begin_66 : decode cX6_begin 66 = .ok (.bipush 18, 2) := by decide +kernel
theorem dX6_begin_68 : decode cX6_begin 68 = .ok (.iconst 0, 1) := by decide +kernel
theorem dX6_begin_69 : decode cX6_begin 69 = .ok (.iastore, 1) := by decide +kernel
theorem dX6_begin_70 : decode cX6_begin 70 = .ok (.aload_n 0, 1) := by decide +kernel
theorem dX6_begin_71 : decode cX6_begin 71 = .ok (.getfield 11, 3) := by decide +kernel
theorem dX6_begin_74 : decode cX6_begin 74 = .ok (.bipush 19, 2) := by decide +kernel
theorem dX6_begin_76 : decode cX6_begin 76 = .ok (.iconst 0, 1) := by decide +kernel
theorem dX6_begin_77 : decode cX6_begin 77 = .ok (.iastore, 1) := by decide +kernel
theorem dX6_begin_78 : decode cX6_begin 78 = .ok (.return_, 1) := by decide +kernel
theorem dX6_copyTo_0 : decode cX6_copyTo 0 = .ok (.aload_n 0, 1) := by decide +kernel
theorem dX6_copyTo_1 : decode cX6_copyTo 1 = .ok (.getfield 11, 3) := by decide +kernel
theorem dX6_copyTo_4 : decode cX6_copyTo 4 = .ok (.iconst 0, 1) := by decide +kernel
theorem dX6_copyTo_5 : decode cX6_copyTo 5 = .ok (.aload_n 1, 1) := by decide +kernel
theorem dX6_copyTo_6 : decode cX6_copyTo 6 = .ok (.iload_n 2, 1) := by decide +kernel
theorem dX6_copyTo_7 : decode cX6_copyTo 7 = .ok (.bipush 20, 2) := by decide +kernel
theorem dX6_copyTo_9 : decode cX6_copyTo 9 = .ok (.imul, 1) := by decide +kernel
theorem dX6_copyTo_10 : decode cX6_copyTo 10 = .ok (.bipush 20, 2) := by decide +kernel
theorem dX6_copyTo_12 : decode cX6_copyTo 12 = .ok (.invokestatic 20, 3) := by decide +kernel
theorem dX6_copyTo_15 : decode cX6_copyTo 15 = .ok (.return_, 1) := by decide +kernel
theorem dX6_copyFrom_0 : decode cX6_copyFrom 0 = .ok (.aload_n 1, 1) := by decide +kernel
theorem dX6_copyFrom_1 : decode cX6_copyFrom 1 = .ok (.iload_n 2, 1) := by decide +kernel
theorem dX6_copyFrom_2 : decode cX6_copyFrom 2 = .ok (.bipush 20, 2) := by decide +kernel
theorem dX6_copyFrom_4 : decode cX6_copyFrom 4 = .ok (.imul, 1) := by decide +kernel
theorem dX6_copyFrom_5 : decode cX6_copyFrom 5 = .ok (.aload_n 0, 1) := by decide +kernel
theorem dX6_copyFrom_6 : decode cX6_copyFrom 6 = .ok (.getfield 11, 3) := by decide +kernel
theorem dX6_copyFrom_9 : decode cX6_copyFrom 9 = .ok (.iconst 0, 1) := by decide +kernel
theorem dX6_copyFrom_10 : decode cX6_copyFrom 10 = .ok (.bipush 20, 2) := by decide +kernel
theorem dX6_copyFrom_12 : decode cX6_copyFrom 12 = .ok (.invokestatic 20, 3) := by decide +kernel
theorem dX6_copyFrom_15 : decode cX6_copyFrom 15 = .ok (.return_, 1) := by decide +kernel
theorem dX6_holder_0 : decode cX6_holder 0 = .ok (.aload_n 0, 1) := by decide +kernel
theorem dX6_holder_1 : decode cX6_holder 1 = .ok (.getfield 11, 3) := by decide +kernel
theorem dX6_holder_4 : decode cX6_holder 4 = .ok (.iconst 0, 1) := by decide +kernel
theorem dX6_holder_5 : decode cX6_holder 5 = .ok (.iload_n 1, 1) := by decide +kernel
theorem dX6_holder_6 : decode cX6_holder 6 = .ok (.iadd, 1) := by decide +kernel
theorem dX6_holder_7 : decode cX6_holder 7 = .ok (.iaload, 1) := by decide +kernel
theorem dX6_holder_8 : decode cX6_holder 8 = .ok (.ireturn, 1) := by decide +kernel
theorem dX6_uses_0 : decode cX6_uses 0 = .ok (.aload_n 0, 1) := by decide +kernel
theorem dX6_uses_1 : decode cX6_uses 1 = .ok (.getfield 11, 3) := by decide +kernel
theorem dX6_uses_4 : decode cX6_uses 4 = .ok (.bipush 6, 2) := by decide +kernel
theorem dX6_uses_6 : decode cX6_uses 6 = .ok (.iload_n 1, 1) := by decide +kernel
theorem dX6_uses_7 : decode cX6_uses 7 = .ok (.iadd, 1) := by decide +kernel
theorem dX6_uses_8 : decode cX6_uses 8 = .ok (.iaload, 1) := by decide +kernel
theorem dX6_uses_9 : decode cX6_uses 9 = .ok (.ireturn, 1) := by decide +kernel
theorem dX6_looks_0 : decode cX6_looks 0 = .ok (.aload_n 0, 1) := by decide +kernel
theorem dX6_looks_1 : decode cX6_looks 1 = .ok (.getfield 11, 3) := by decide +kernel
theorem dX6_looks_4 : decode cX6_looks 4 = .ok (.bipush 12, 2) := by decide +kernel
theorem dX6_looks_6 : decode cX6_looks 6 = .ok (.iload_n 1, 1) := by decide +kernel
theorem dX6_looks_7 : decode cX6_looks 7 = .ok (.iadd, 1) := by decide +kernel
theorem dX6_looks_8 : decode cX6_looks 8 = .ok (.iaload, 1) := by decide +kernel
theorem dX6_looks_9 : decode cX6_looks 9 = .ok (.ireturn, 1) := by decide +kernel
theorem dX6_parity_0 : decode cX6_parity 0 = .ok (.aload_n 0, 1) := by decide +kernel
theorem dX6_parity_1 : decode cX6_parity 1 = .ok (.getfield 11, 3) := by decide +kernel
theorem dX6_parity_4 : decode cX6_parity 4 = .ok (.bipush 17, 2) := by decide +kernel
theorem dX6_parity_6 : decode cX6_parity 6 = .ok (.iaload, 1) := by decide +kernel
theorem dX6_parity_7 : decode cX6_parity 7 = .ok (.ireturn, 1) := by decide +kernel
theorem dX6_away_0 : decode cX6_away 0 = .ok (.aload_n 0, 1) := by decide +kernel
theorem dX6_away_1 : decode cX6_away 1 = .ok (.getfield 11, 3) := by decide +kernel
theorem dX6_away_4 : decode cX6_away 4 = .ok (.bipush 18, 2) := by decide +kernel
theorem dX6_away_6 : decode cX6_away 6 = .ok (.iaload, 1) := by decide +kernel
theorem dX6_away_7 : decode cX6_away 7 = .ok (.ireturn, 1) := by decide +kernel
theorem dX6_refused_0 : decode cX6_refused 0 = .ok (.aload_n 0, 1) := by decide +kernel
theorem dX6_refused_1 : decode cX6_refused 1 = .ok (.getfield 11, 3) := by decide +kernel
theorem dX6_refused_4 : decode cX6_refused 4 = .ok (.bipush 19, 2) := by decide +kernel
theorem dX6_refused_6 : decode cX6_refused 6 = .ok (.iaload, 1) := by decide +kernel
theorem dX6_refused_7 : decode cX6_refused 7 = .ok (.ireturn, 1) := by decide +kernel
theorem dX6_hasParity_0 : decode cX6_hasParity 0 = .ok (.aload_n 0, 1) := by decide +kernel
theorem dX6_hasParity_1 : decode cX6_hasParity 1 = .ok (.getfield 11, 3) := by decide +kernel
theorem dX6_hasParity_4 : decode cX6_hasParity 4 = .ok (.bipush 17, 2) := by decide +kernel
theorem dX6_hasParity_6 : decode cX6_hasParity 6 = .ok (.iaload, 1) := by decide +kernel
theorem dX6_hasParity_7 : decode cX6_hasParity 7 = .ok (.iload_n 1, 1) := by decide +kernel
theorem dX6_hasParity_8 : decode cX6_hasParity 8 = .ok (.invokestatic 29, 3) := by decide +kernel
theorem dX6_hasParity_11 : decode cX6_hasParity 11 = .ok (.ireturn, 1) := by decide +kernel
theorem dX6_isAway_0 : decode cX6_isAway 0 = .ok (.aload_n 0, 1) := by decide +kernel
theorem dX6_isAway_1 : decode cX6_isAway 1 = .ok (.getfield 11, 3) := by decide +kernel
theorem dX6_isAway_4 : decode cX6_isAway 4 = .ok (.bipush 18, 2) := by decide +kernel
theorem dX6_isAway_6 : decode cX6_isAway 6 = .ok (.iaload, 1) := by decide +kernel
theorem dX6_isAway_7 : decode cX6_isAway 7 = .ok (.iload_n 1, 1) := by decide +kernel
theorem dX6_isAway_8 : decode cX6_isAway 8 = .ok (.invokestatic 29, 3) := by decide +kernel
theorem dX6_isAway_11 : decode cX6_isAway 11 = .ok (.ireturn, 1) := by decide +kernel
theorem dX6_take_0 : decode cX6_take 0 = .ok (.aload_n 0, 1) := by decide +kernel
theorem dX6_take_1 : decode cX6_take 1 = .ok (.getfield 11, 3) := by decide +kernel
theorem dX6_take_4 : decode cX6_take 4 = .ok (.iconst 0, 1) := by decide +kernel
theorem dX6_take_5 : decode cX6_take 5 = .ok (.iload_n 1, 1) := by decide +kernel
theorem dX6_take_6 : decode cX6_take 6 = .ok (.iadd, 1) := by decide +kernel
theorem dX6_take_7 : decode cX6_take 7 = .ok (.iload_n 2, 1) := by decide +kernel
theorem dX6_take_8 : decode cX6_take 8 = .ok (.iastore, 1) := by decide +kernel
theorem dX6_take_9 : decode cX6_take 9 = .ok (.aload_n 0, 1) := by decide +kernel
theorem dX6_take_10 : decode cX6_take 10 = .ok (.getfield 11, 3) := by decide +kernel
theorem dX6_take_13 : decode cX6_take 13 = .ok (.bipush 6, 2) := by decide +kernel
theorem dX6_take_15 : decode cX6_take 15 = .ok (.iload_n 1, 1) := by decide +kernel
theorem dX6_take_16 : decode cX6_take 16 = .ok (.iadd, 1) := by decide +kernel
theorem dX6_take_17 : decode cX6_take 17 = .ok (.dup2, 1) := by decide +kernel
theorem dX6_take_18 : decode cX6_take 18 = .ok (.iaload, 1) := by decide +kernel
theorem dX6_take_19 : decode cX6_take 19 = .ok (.iconst 1, 1) := by decide +kernel
theorem dX6_take_20 : decode cX6_take 20 = .ok (.iadd, 1) := by decide +kernel
theorem dX6_take_21 : decode cX6_take 21 = .ok (.iastore, 1) := by decide +kernel
theorem dX6_take_22 : decode cX6_take 22 = .ok (.return_, 1) := by decide +kernel
theorem dX6_giveParity_0 : decode cX6_giveParity 0 = .ok (.aload_n 0, 1) := by decide +kernel
theorem dX6_giveParity_1 : decode cX6_giveParity 1 = .ok (.getfield 11, 3) := by decide +kernel
theorem dX6_giveParity_4 : decode cX6_giveParity 4 = .ok (.bipush 17, 2) := by decide +kernel
theorem dX6_giveParity_6 : decode cX6_giveParity 6 = .ok (.dup2, 1) := by decide +kernel
theorem dX6_giveParity_7 : decode cX6_giveParity 7 = .ok (.iaload, 1) := by decide +kernel
theorem dX6_giveParity_8 : decode cX6_giveParity 8 = .ok (.iconst 1, 1) := by decide +kernel
theorem dX6_giveParity_9 : decode cX6_giveParity 9 = .ok (.iload_n 1, 1) := by decide +kernel
theorem dX6_giveParity_10 : decode cX6_giveParity 10 = .ok (.ishl, 1) := by decide +kernel
theorem dX6_giveParity_11 : decode cX6_giveParity 11 = .ok (.ior, 1) := by decide +kernel
theorem dX6_giveParity_12 : decode cX6_giveParity 12 = .ok (.iastore, 1) := by decide +kernel
theorem dX6_giveParity_13 : decode cX6_giveParity 13 = .ok (.return_, 1) := by decide +kernel
theorem dX6_refuse_0 : decode cX6_refuse 0 = .ok (.aload_n 0, 1) := by decide +kernel
theorem dX6_refuse_1 : decode cX6_refuse 1 = .ok (.getfield 11, 3) := by decide +kernel
theorem dX6_refuse_4 : decode cX6_refuse 4 = .ok (.bipush 6, 2) := by decide +kernel
theorem dX6_refuse_6 : decode cX6_refuse 6 = .ok (.iload_n 1, 1) := by decide +kernel
theorem dX6_refuse_7 : decode cX6_refuse 7 = .ok (.iadd, 1) := by decide +kernel
theorem dX6_refuse_8 : decode cX6_refuse 8 = .ok (.iconst 0, 1) := by decide +kernel
theorem dX6_refuse_9 : decode cX6_refuse 9 = .ok (.iastore, 1) := by decide +kernel
theorem dX6_refuse_10 : decode cX6_refuse 10 = .ok (.aload_n 0, 1) := by decide +kernel
theorem dX6_refuse_11 : decode cX6_refuse 11 = .ok (.getfield 11, 3) := by decide +kernel
theorem dX6_refuse_14 : decode cX6_refuse 14 = .ok (.bipush 19, 2) := by decide +kernel
theorem dX6_refuse_16 : decode cX6_refuse 16 = .ok (.dup2, 1) := by decide +kernel
theorem dX6_refuse_17 : decode cX6_refuse 17 = .ok (.iaload, 1) := by decide +kernel
theorem dX6_refuse_18 : decode cX6_refuse 18 = .ok (.iconst 1, 1) := by decide +kernel
theorem dX6_refuse_19 : decode cX6_refuse 19 = .ok (.iadd, 1) := by decide +kernel
theorem dX6_refuse_20 : decode cX6_refuse 20 = .ok (.iastore, 1) := by decide +kernel
theorem dX6_refuse_21 : decode cX6_refuse 21 = .ok (.return_, 1) := by decide +kernel
theorem dX6_teach_0 : decode cX6_teach 0 = .ok (.aload_n 0, 1) := by decide +kernel
theorem dX6_teach_1 : decode cX6_teach 1 = .ok (.getfield 11, 3) := by decide +kernel
theorem dX6_teach_4 : decode cX6_teach 4 = .ok (.bipush 12, 2) := by decide +kernel
theorem dX6_teach_6 : decode cX6_teach 6 = .ok (.iload_n 1, 1) := by decide +kernel
theorem dX6_teach_7 : decode cX6_teach 7 = .ok (.iadd, 1) := by decide +kernel
theorem dX6_teach_8 : decode cX6_teach 8 = .ok (.iload_n 2, 1) := by decide +kernel
theorem dX6_teach_9 : decode cX6_teach 9 = .ok (.iastore, 1) := by decide +kernel
theorem dX6_teach_10 : decode cX6_teach 10 = .ok (.return_, 1) := by decide +kernel
theorem dX6_turnAway_0 : decode cX6_turnAway 0 = .ok (.aload_n 0, 1) := by decide +kernel
theorem dX6_turnAway_1 : decode cX6_turnAway 1 = .ok (.getfield 11, 3) := by decide +kernel
theorem dX6_turnAway_4 : decode cX6_turnAway 4 = .ok (.bipush 18, 2) := by decide +kernel
theorem dX6_turnAway_6 : decode cX6_turnAway 6 = .ok (.dup2, 1) := by decide +kernel
theorem dX6_turnAway_7 : decode cX6_turnAway 7 = .ok (.iaload, 1) := by decide +kernel
theorem dX6_turnAway_8 : decode cX6_turnAway 8 = .ok (.iconst 1, 1) := by decide +kernel
theorem dX6_turnAway_9 : decode cX6_turnAway 9 = .ok (.iload_n 1, 1) := by decide +kernel
theorem dX6_turnAway_10 : decode cX6_turnAway 10 = .ok (.ishl, 1) := by decide +kernel
theorem dX6_turnAway_11 : decode cX6_turnAway 11 = .ok (.ixor, 1) := by decide +kernel
theorem dX6_turnAway_12 : decode cX6_turnAway 12 = .ok (.iastore, 1) := by decide +kernel
theorem dX6_turnAway_13 : decode cX6_turnAway 13 = .ok (.return_, 1) := by decide +kernel
theorem dX7_init_0 : decode cX7_init 0 = .ok (.aload_n 0, 1) := by decide +kernel
theorem dX7_init_1 : decode cX7_init 1 = .ok (.invokespecial 3, 3) := by decide +kernel
theorem dX7_init_4 : decode cX7_init 4 = .ok (.aload_n 0, 1) := by decide +kernel
theorem dX7_init_5 : decode cX7_init 5 = .ok (.aload_n 1, 1) := by decide +kernel
theorem dX7_init_6 : decode cX7_init 6 = .ok (.putfield 9, 3) := by decide +kernel
theorem dX7_init_9 : decode cX7_init 9 = .ok (.aload_n 0, 1) := by decide +kernel
theorem dX7_init_10 : decode cX7_init 10 = .ok (.aload_n 2, 1) := by decide +kernel
theorem dX7_init_11 : decode cX7_init 11 = .ok (.putfield 15, 3) := by decide +kernel
theorem dX7_init_14 : decode cX7_init 14 = .ok (.return_, 1) := by decide +kernel
theorem dX7_takers_0 : decode cX7_takers 0 = .ok (.aload_n 0, 1) := by decide +kernel
theorem dX7_takers_1 : decode cX7_takers 1 = .ok (.getfield 15, 3) := by decide +kernel
theorem dX7_takers_4 : decode cX7_takers 4 = .ok (.iload_n 1, 1) := by decide +kernel
theorem dX7_takers_5 : decode cX7_takers 5 = .ok (.invokevirtual 19, 3) := by decide +kernel
theorem dX7_takers_8 : decode cX7_takers 8 = .ok (.ifCond .eq 17, 3) := by decide +kernel
theorem dX7_takers_11 : decode cX7_takers 11 = .ok (.iconst 1, 1) := by decide +kernel
theorem dX7_takers_12 : decode cX7_takers 12 = .ok (.aload_n 0, 1) := by decide +kernel
theorem dX7_takers_13 : decode cX7_takers 13 = .ok (.getfield 9, 3) := by decide +kernel
theorem dX7_takers_16 : decode cX7_takers 16 = .ok (.getfield 25, 3) := by decide +kernel
theorem dX7_takers_19 : decode cX7_takers 19 = .ok (.ishl, 1) := by decide +kernel
theorem dX7_takers_20 : decode cX7_takers 20 = .ok (.iconst 1, 1) := by decide +kernel
theorem dX7_takers_21 : decode cX7_takers 21 = .ok (.isub, 1) := by decide +kernel
theorem dX7_takers_22 : decode cX7_takers 22 = .ok (.goto 8, 3) := by decide +kernel
theorem dX7_takers_25 : decode cX7_takers 25 = .ok (.aload_n 0, 1) := by decide +kernel
theorem dX7_takers_26 : decode cX7_takers 26 = .ok (.iload_n 1, 1) := by decide +kernel
theorem dX7_takers_27 : decode cX7_takers 27 = .ok (.invokevirtual 31, 3) := by decide +kernel
theorem dX7_takers_30 : decode cX7_takers 30 = .ok (.ireturn, 1) := by decide +kernel
theorem dX7_takes_0 : decode cX7_takes 0 = .ok (.aload_n 0, 1) := by decide +kernel
theorem dX7_takes_1 : decode cX7_takes 1 = .ok (.iload_n 1, 1) := by decide +kernel
theorem dX7_takes_2 : decode cX7_takes 2 = .ok (.invokevirtual 35, 3) := by decide +kernel
theorem dX7_takes_5 : decode cX7_takes 5 = .ok (.iload_n 2, 1) := by decide +kernel
theorem dX7_takes_6 : decode cX7_takes 6 = .ok (.invokestatic 38, 3) := by decide +kernel
theorem dX7_takes_9 : decode cX7_takes 9 = .ok (.ireturn, 1) := by decide +kernel
theorem dX7_neededForParity_0 : decode cX7_neededForParity 0 = .ok (.aload_n 0, 1) := by decide +kernel
theorem dX7_neededForParity_1 : decode cX7_neededForParity 1 = .ok (.getfield 9, 3) := by decide +kernel
theorem dX7_neededForParity_4 : decode cX7_neededForParity 4 = .ok (.getfield 42, 3) := by decide +kernel
theorem dX7_neededForParity_7 : decode cX7_neededForParity 7 = .ok (.aload_n 0, 1) := by decide +kernel
theorem dX7_neededForParity_8 : decode cX7_neededForParity 8 = .ok (.getfield 15, 3) := by decide +kernel
theorem dX7_neededForParity_11 : decode cX7_neededForParity 11 = .ok (.iload_n 1, 1) := by decide +kernel
theorem dX7_neededForParity_12 : decode cX7_neededForParity 12 = .ok (.invokevirtual 45, 3) := by decide +kernel
theorem dX7_neededForParity_15 : decode cX7_neededForParity 15 = .ok (.isub, 1) := by decide +kernel
theorem dX7_neededForParity_16 : decode cX7_neededForParity 16 = .ok (.ireturn, 1) := by decide +kernel
theorem dX7_canGoOn_0 : decode cX7_canGoOn 0 = .ok (.iconst 0, 1) := by decide +kernel
theorem dX7_canGoOn_1 : decode cX7_canGoOn 1 = .ok (.istore_n 3, 1) := by decide +kernel
theorem dX7_canGoOn_2 : decode cX7_canGoOn 2 = .ok (.iload_n 3, 1) := by decide +kernel
theorem dX7_canGoOn_3 : decode cX7_canGoOn 3 = .ok (.iload_n 2, 1) := by decide +kernel
theorem dX7_canGoOn_4 : decode cX7_canGoOn 4 = .ok (.if_icmp .ge 20, 3) := by decide +kernel
theorem dX7_canGoOn_7 : decode cX7_canGoOn 7 = .ok (.aload_n 0, 1) := by decide +kernel
theorem dX7_canGoOn_8 : decode cX7_canGoOn 8 = .ok (.iload_n 1, 1) := by decide +kernel
theorem dX7_canGoOn_9 : decode cX7_canGoOn 9 = .ok (.iload_n 3, 1) := by decide +kernel
theorem dX7_canGoOn_10 : decode cX7_canGoOn 10 = .ok (.invokevirtual 48, 3) := by decide +kernel
theorem dX7_canGoOn_13 : decode cX7_canGoOn 13 = .ok (.ifCond .ne 5, 3) := by decide +kernel
theorem dX7_canGoOn_16 : decode cX7_canGoOn 16 = .ok (.iconst 0, 1) := by decide +kernel
theorem dX7_canGoOn_17 : decode cX7_canGoOn 17 = .ok (.ireturn, 1) := by decide +kernel
theorem dX7_canGoOn_18 : decode cX7_canGoOn 18 = .ok (.iinc 3 1, 3) := by decide +kernel
theorem dX7_canGoOn_21 : decode cX7_canGoOn 21 = .ok (.goto (-19), 3) := by decide +kernel
theorem dX7_canGoOn_24 : decode cX7_canGoOn 24 = .ok (.iconst 1, 1) := by decide +kernel
theorem dX7_canGoOn_25 : decode cX7_canGoOn 25 = .ok (.ireturn, 1) := by decide +kernel
theorem dX7_personOfRow_0 : decode cX7_personOfRow 0 = .ok (.aload_n 0, 1) := by decide +kernel
theorem dX7_personOfRow_1 : decode cX7_personOfRow 1 = .ok (.iload_n 1, 1) := by decide +kernel
theorem dX7_personOfRow_2 : decode cX7_personOfRow 2 = .ok (.invokevirtual 31, 3) := by decide +kernel
theorem dX7_personOfRow_5 : decode cX7_personOfRow 5 = .ok (.istore_n 3, 1) := by decide +kernel
theorem dX7_personOfRow_6 : decode cX7_personOfRow 6 = .ok (.aload_n 0, 1) := by decide +kernel
theorem dX7_personOfRow_7 : decode cX7_personOfRow 7 = .ok (.getfield 15, 3) := by decide +kernel
theorem dX7_personOfRow_10 : decode cX7_personOfRow 10 = .ok (.iload_n 1, 1) := by decide +kernel
theorem dX7_personOfRow_11 : decode cX7_personOfRow 11 = .ok (.invokevirtual 52, 3) := by decide +kernel
theorem dX7_personOfRow_14 : decode cX7_personOfRow 14 = .ok (.istore 4, 2) := by decide +kernel
theorem dX7_personOfRow_16 : decode cX7_personOfRow 16 = .ok (.iconst 0, 1) := by decide +kernel
theorem dX7_personOfRow_17 : decode cX7_personOfRow 17 = .ok (.istore 5, 2) := by decide +kernel
theorem dX7_personOfRow_19 : decode cX7_personOfRow 19 = .ok (.iload 5, 2) := by decide +kernel
theorem dX7_personOfRow_21 : decode cX7_personOfRow 21 = .ok (.iload_n 2, 1) := by decide +kernel
theorem dX7_personOfRow_22 : decode cX7_personOfRow 22 = .ok (.if_icmp .gt 18, 3) := by decide +kernel
theorem dX7_personOfRow_25 : decode cX7_personOfRow 25 = .ok (.aload_n 0, 1) := by decide +kernel
theorem dX7_personOfRow_26 : decode cX7_personOfRow 26 = .ok (.iload_n 3, 1) := by decide +kernel
theorem dX7_personOfRow_27 : decode cX7_personOfRow 27 = .ok (.iload 4, 2) := by decide +kernel
theorem dX7_personOfRow_29 : decode cX7_personOfRow 29 = .ok (.invokevirtual 55, 3) := by decide +kernel
theorem dX7_personOfRow_32 : decode cX7_personOfRow 32 = .ok (.istore 4, 2) := by decide +kernel
theorem dX7_personOfRow_34 : decode cX7_personOfRow 34 = .ok (.iinc 5 1, 3) := by decide +kernel
theorem dX7_personOfRow_37 : decode cX7_personOfRow 37 = .ok (.goto (-18), 3) := by decide +kernel
theorem dX7_personOfRow_40 : decode cX7_personOfRow 40 = .ok (.iload 4, 2) := by decide +kernel
theorem dX7_personOfRow_42 : decode cX7_personOfRow 42 = .ok (.ireturn, 1) := by decide +kernel
theorem dX7_lowestOther_0 : decode cX7_lowestOther 0 = .ok (.iconst 0, 1) := by decide +kernel
theorem dX7_lowestOther_1 : decode cX7_lowestOther 1 = .ok (.istore_n 3, 1) := by decide +kernel
theorem dX7_lowestOther_2 : decode cX7_lowestOther 2 = .ok (.iload_n 3, 1) := by decide +kernel
theorem dX7_lowestOther_3 : decode cX7_lowestOther 3 = .ok (.aload_n 0, 1) := by decide +kernel
theorem dX7_lowestOther_4 : decode cX7_lowestOther 4 = .ok (.getfield 9, 3) := by decide +kernel
theorem dX7_lowestOther_7 : decode cX7_lowestOther 7 = .ok (.getfield 25, 3) := by decide +kernel
theorem dX7_lowestOther_10 : decode cX7_lowestOther 10 = .ok (.if_icmp .ge 24, 3) := by decide +kernel
theorem dX7_lowestOther_13 : decode cX7_lowestOther 13 = .ok (.iload_n 3, 1) := by decide +kernel
theorem dX7_lowestOther_14 : decode cX7_lowestOther 14 = .ok (.iload_n 2, 1) := by decide +kernel
theorem dX7_lowestOther_15 : decode cX7_lowestOther 15 = .ok (.if_icmp .eq 13, 3) := by decide +kernel
theorem dX7_lowestOther_18 : decode cX7_lowestOther 18 = .ok (.iload_n 1, 1) := by decide +kernel
theorem dX7_lowestOther_19 : decode cX7_lowestOther 19 = .ok (.iload_n 3, 1) := by decide +kernel
theorem dX7_lowestOther_20 : decode cX7_lowestOther 20 = .ok (.invokestatic 38, 3) := by decide +kernel
theorem dX7_lowestOther_23 : decode cX7_lowestOther 23 = .ok (.ifCond .eq 5, 3) := by decide +kernel
theorem dX7_lowestOther_26 : decode cX7_lowestOther 26 = .ok (.iload_n 3, 1) := by decide +kernel
theorem dX7_lowestOther_27 : decode cX7_lowestOther 27 = .ok (.ireturn, 1) := by decide +kernel
theorem dX7_lowestOther_28 : decode cX7_lowestOther 28 = .ok (.iinc 3 1, 3) := by decide +kernel
theorem dX7_lowestOther_31 : decode cX7_lowestOther 31 = .ok (.goto (-29), 3) := by decide +kernel
theorem dX7_lowestOther_34 : decode cX7_lowestOther 34 = .ok (.iload_n 2, 1) := by decide +kernel
theorem dX7_lowestOther_35 : decode cX7_lowestOther 35 = .ok (.ireturn, 1) := by decide +kernel
theorem dX7_most_0 : decode cX7_most 0 = .ok (.iconst 0, 1) := by decide +kernel
theorem dX7_most_1 : decode cX7_most 1 = .ok (.istore_n 2, 1) := by decide +kernel
theorem dX7_most_2 : decode cX7_most 2 = .ok (.iload_n 2, 1) := by decide +kernel
theorem dX7_most_3 : decode cX7_most 3 = .ok (.bipush 9, 2) := by decide +kernel
theorem dX7_most_5 : decode cX7_most 5 = .ok (.if_icmp .gt 20, 3) := by decide +kernel
theorem dX7_most_8 : decode cX7_most 8 = .ok (.aload_n 0, 1) := by decide +kernel
theorem dX7_most_9 : decode cX7_most 9 = .ok (.iload_n 1, 1) := by decide +kernel
theorem dX7_most_10 : decode cX7_most 10 = .ok (.iload_n 2, 1) := by decide +kernel
theorem dX7_most_11 : decode cX7_most 11 = .ok (.invokevirtual 48, 3) := by decide +kernel
theorem dX7_most_14 : decode cX7_most 14 = .ok (.ifCond .ne 5, 3) := by decide +kernel
theorem dX7_most_17 : decode cX7_most 17 = .ok (.iload_n 2, 1) := by decide +kernel
theorem dX7_most_18 : decode cX7_most 18 = .ok (.ireturn, 1) := by decide +kernel
theorem dX7_most_19 : decode cX7_most 19 = .ok (.iinc 2 1, 3) := by decide +kernel
theorem dX7_most_22 : decode cX7_most 22 = .ok (.goto (-20), 3) := by decide +kernel
theorem dX7_most_25 : decode cX7_most 25 = .ok (.bipush (-5), 2) := by decide +kernel
theorem dX7_most_27 : decode cX7_most 27 = .ok (.ireturn, 1) := by decide +kernel
theorem dX7_waysTaken_0 : decode cX7_waysTaken 0 = .ok (.iconst 1, 1) := by decide +kernel
theorem dX7_waysTaken_1 : decode cX7_waysTaken 1 = .ok (.istore_n 3, 1) := by decide +kernel
theorem dX7_waysTaken_2 : decode cX7_waysTaken 2 = .ok (.iconst 0, 1) := by decide +kernel
theorem dX7_waysTaken_3 : decode cX7_waysTaken 3 = .ok (.istore 4, 2) := by decide +kernel
theorem dX7_waysTaken_5 : decode cX7_waysTaken 5 = .ok (.iload 4, 2) := by decide +kernel
theorem dX7_waysTaken_7 : decode cX7_waysTaken 7 = .ok (.iload_n 2, 1) := by decide +kernel
theorem dX7_waysTaken_8 : decode cX7_waysTaken 8 = .ok (.if_icmp .ge 19, 3) := by decide +kernel
theorem dX7_waysTaken_11 : decode cX7_waysTaken 11 = .ok (.iload_n 3, 1) := by decide +kernel
theorem dX7_waysTaken_12 : decode cX7_waysTaken 12 = .ok (.aload_n 0, 1) := by decide +kernel
theorem dX7_waysTaken_13 : decode cX7_waysTaken 13 = .ok (.iload_n 1, 1) := by decide +kernel
theorem dX7_waysTaken_14 : decode cX7_waysTaken 14 = .ok (.iload 4, 2) := by decide +kernel
theorem dX7_waysTaken_16 : decode cX7_waysTaken 16 = .ok (.invokevirtual 48, 3) := by decide +kernel
theorem dX7_waysTaken_19 : decode cX7_waysTaken 19 = .ok (.imul, 1) := by decide +kernel
theorem dX7_waysTaken_20 : decode cX7_waysTaken 20 = .ok (.istore_n 3, 1) := by decide +kernel
theorem dX7_waysTaken_21 : decode cX7_waysTaken 21 = .ok (.iinc 4 1, 3) := by decide +kernel
theorem dX7_waysTaken_24 : decode cX7_waysTaken 24 = .ok (.goto (-19), 3) := by decide +kernel
theorem dX7_waysTaken_27 : decode cX7_waysTaken 27 = .ok (.iload_n 3, 1) := by decide +kernel
theorem dX7_waysTaken_28 : decode cX7_waysTaken 28 = .ok (.ireturn, 1) := by decide +kernel
theorem dX7_waysAtAll_0 : decode cX7_waysAtAll 0 = .ok (.iconst 1, 1) := by decide +kernel
theorem dX7_waysAtAll_1 : decode cX7_waysAtAll 1 = .ok (.istore_n 2, 1) := by decide +kernel
theorem dX7_waysAtAll_2 : decode cX7_waysAtAll 2 = .ok (.iconst 0, 1) := by decide +kernel
theorem dX7_waysAtAll_3 : decode cX7_waysAtAll 3 = .ok (.istore_n 3, 1) := by decide +kernel
theorem dX7_waysAtAll_4 : decode cX7_waysAtAll 4 = .ok (.iload_n 3, 1) := by decide +kernel
theorem dX7_waysAtAll_5 : decode cX7_waysAtAll 5 = .ok (.iload_n 1, 1) := by decide +kernel
theorem dX7_waysAtAll_6 : decode cX7_waysAtAll 6 = .ok (.if_icmp .ge 21, 3) := by decide +kernel
theorem dX7_waysAtAll_9 : decode cX7_waysAtAll 9 = .ok (.iload_n 2, 1) := by decide +kernel
theorem dX7_waysAtAll_10 : decode cX7_waysAtAll 10 = .ok (.aload_n 0, 1) := by decide +kernel
theorem dX7_waysAtAll_11 : decode cX7_waysAtAll 11 = .ok (.getfield 9, 3) := by decide +kernel
theorem dX7_waysAtAll_14 : decode cX7_waysAtAll 14 = .ok (.getfield 25, 3) := by decide +kernel
theorem dX7_waysAtAll_17 : decode cX7_waysAtAll 17 = .ok (.iconst 1, 1) := by decide +kernel
theorem dX7_waysAtAll_18 : decode cX7_waysAtAll 18 = .ok (.isub, 1) := by decide +kernel
theorem dX7_waysAtAll_19 : decode cX7_waysAtAll 19 = .ok (.imul, 1) := by decide +kernel
theorem dX7_waysAtAll_20 : decode cX7_waysAtAll 20 = .ok (.istore_n 2, 1) := by decide +kernel
theorem dX7_waysAtAll_21 : decode cX7_waysAtAll 21 = .ok (.iinc 3 1, 3) := by decide +kernel
theorem dX7_waysAtAll_24 : decode cX7_waysAtAll 24 = .ok (.goto (-20), 3) := by decide +kernel
theorem dX7_waysAtAll_27 : decode cX7_waysAtAll 27 = .ok (.iload_n 2, 1) := by decide +kernel
theorem dX7_waysAtAll_28 : decode cX7_waysAtAll 28 = .ok (.ireturn, 1) := by decide +kernel
theorem dX7_choices_0 : decode cX7_choices 0 = .ok (.aload_n 0, 1) := by decide +kernel
theorem dX7_choices_1 : decode cX7_choices 1 = .ok (.iload_n 1, 1) := by decide +kernel
theorem dX7_choices_2 : decode cX7_choices 2 = .ok (.iload_n 2, 1) := by decide +kernel
theorem dX7_choices_3 : decode cX7_choices 3 = .ok (.invokevirtual 58, 3) := by decide +kernel
theorem dX7_choices_6 : decode cX7_choices 6 = .ok (.ifCond .eq 13, 3) := by decide +kernel
theorem dX7_choices_9 : decode cX7_choices 9 = .ok (.aload_n 0, 1) := by decide +kernel
theorem dX7_choices_10 : decode cX7_choices 10 = .ok (.getfield 9, 3) := by decide +kernel
theorem dX7_choices_13 : decode cX7_choices 13 = .ok (.getfield 25, 3) := by decide +kernel
theorem dX7_choices_16 : decode cX7_choices 16 = .ok (.iconst 1, 1) := by decide +kernel
theorem dX7_choices_17 : decode cX7_choices 17 = .ok (.isub, 1) := by decide +kernel
theorem dX7_choices_18 : decode cX7_choices 18 = .ok (.ireturn, 1) := by decide +kernel
theorem dX7_choices_19 : decode cX7_choices 19 = .ok (.aload_n 0, 1) := by decide +kernel
theorem dX7_choices_20 : decode cX7_choices 20 = .ok (.iload_n 1, 1) := by decide +kernel
theorem dX7_choices_21 : decode cX7_choices 21 = .ok (.invokevirtual 31, 3) := by decide +kernel
theorem dX7_choices_24 : decode cX7_choices 24 = .ok (.istore_n 3, 1) := by decide +kernel
theorem dX7_choices_25 : decode cX7_choices 25 = .ok (.iload_n 2, 1) := by decide +kernel
theorem dX7_choices_26 : decode cX7_choices 26 = .ok (.ifCond .gt 18, 3) := by decide +kernel
theorem dX7_choices_29 : decode cX7_choices 29 = .ok (.iload_n 3, 1) := by decide +kernel
theorem dX7_choices_30 : decode cX7_choices 30 = .ok (.aload_n 0, 1) := by decide +kernel
theorem dX7_choices_31 : decode cX7_choices 31 = .ok (.getfield 15, 3) := by decide +kernel
theorem dX7_choices_34 : decode cX7_choices 34 = .ok (.iload_n 1, 1) := by decide +kernel
theorem dX7_choices_35 : decode cX7_choices 35 = .ok (.invokevirtual 52, 3) := by decide +kernel
theorem dX7_choices_38 : decode cX7_choices 38 = .ok (.invokestatic 38, 3) := by decide +kernel
theorem dX7_choices_41 : decode cX7_choices 41 = .ok (.ifCond .eq 7, 3) := by decide +kernel
theorem dX7_choices_44 : decode cX7_choices 44 = .ok (.iconst 1, 1) := by decide +kernel
theorem dX7_choices_45 : decode cX7_choices 45 = .ok (.goto 4, 3) := by decide +kernel
theorem dX7_choices_48 : decode cX7_choices 48 = .ok (.iconst 0, 1) := by decide +kernel
theorem dX7_choices_49 : decode cX7_choices 49 = .ok (.istore 4, 2) := by decide +kernel
theorem dX7_choices_51 : decode cX7_choices 51 = .ok (.iload_n 3, 1) := by decide +kernel
theorem dX7_choices_52 : decode cX7_choices 52 = .ok (.invokestatic 61, 3) := by decide +kernel
theorem dX7_choices_55 : decode cX7_choices 55 = .ok (.iload 4, 2) := by decide +kernel
theorem dX7_choices_57 : decode cX7_choices 57 = .ok (.ifCond .eq 7, 3) := by decide +kernel
theorem dX7_choices_60 : decode cX7_choices 60 = .ok (.iconst 1, 1) := by decide +kernel
theorem dX7_choices_61 : decode cX7_choices 61 = .ok (.goto 4, 3) := by decide +kernel
theorem dX7_choices_64 : decode cX7_choices 64 = .ok (.iconst 0, 1) := by decide +kernel
theorem dX7_choices_65 : decode cX7_choices 65 = .ok (.isub, 1) := by decide +kernel
theorem dX7_choices_66 : decode cX7_choices 66 = .ok (.ireturn, 1) := by decide +kernel
theorem dX7_hasParityBehind_0 : decode cX7_hasParityBehind 0 = .ok (.aload_n 0, 1) := by decide +kernel
theorem dX7_hasParityBehind_1 : decode cX7_hasParityBehind 1 = .ok (.getfield 15, 3) := by decide +kernel
theorem dX7_hasParityBehind_4 : decode cX7_hasParityBehind 4 = .ok (.iload_n 1, 1) := by decide +kernel
theorem dX7_hasParityBehind_5 : decode cX7_hasParityBehind 5 = .ok (.invokevirtual 19, 3) := by decide +kernel
theorem dX7_hasParityBehind_8 : decode cX7_hasParityBehind 8 = .ok (.ifCond .ne 34, 3) := by decide +kernel
theorem dX7_hasParityBehind_11 : decode cX7_hasParityBehind 11 = .ok (.aload_n 0, 1) := by decide +kernel
theorem dX7_hasParityBehind_12 : decode cX7_hasParityBehind 12 = .ok (.getfield 9, 3) := by decide +kernel
theorem dX7_hasParityBehind_15 : decode cX7_hasParityBehind 15 = .ok (.iload_n 1, 1) := by decide +kernel
theorem dX7_hasParityBehind_16 : decode cX7_hasParityBehind 16 = .ok (.invokevirtual 66, 3) := by decide +kernel
theorem dX7_hasParityBehind_19 : decode cX7_hasParityBehind 19 = .ok (.ifCond .eq 27, 3) := by decide +kernel
theorem dX7_hasParityBehind_22 : decode cX7_hasParityBehind 22 = .ok (.aload_n 0, 1) := by decide +kernel
theorem dX7_hasParityBehind_23 : decode cX7_hasParityBehind 23 = .ok (.getfield 15, 3) := by decide +kernel
theorem dX7_hasParityBehind_26 : decode cX7_hasParityBehind 26 = .ok (.iload_n 1, 1) := by decide +kernel
theorem dX7_hasParityBehind_27 : decode cX7_hasParityBehind 27 = .ok (.invokevirtual 45, 3) := by decide +kernel
theorem dX7_hasParityBehind_30 : decode cX7_hasParityBehind 30 = .ok (.iload_n 2, 1) := by decide +kernel
theorem dX7_hasParityBehind_31 : decode cX7_hasParityBehind 31 = .ok (.iadd, 1) := by decide +kernel
theorem dX7_hasParityBehind_32 : decode cX7_hasParityBehind 32 = .ok (.aload_n 0, 1) := by decide +kernel
theorem dX7_hasParityBehind_33 : decode cX7_hasParityBehind 33 = .ok (.getfield 9, 3) := by decide +kernel
theorem dX7_hasParityBehind_36 : decode cX7_hasParityBehind 36 = .ok (.getfield 42, 3) := by decide +kernel
theorem dX7_hasParityBehind_39 : decode cX7_hasParityBehind 39 = .ok (.if_icmp .lt 7, 3) := by decide +kernel
theorem dX7_hasParityBehind_42 : decode cX7_hasParityBehind 42 = .ok (.iconst 1, 1) := by decide +kernel
theorem dX7_hasParityBehind_43 : decode cX7_hasParityBehind 43 = .ok (.goto 4, 3) := by decide +kernel
theorem dX7_hasParityBehind_46 : decode cX7_hasParityBehind 46 = .ok (.iconst 0, 1) := by decide +kernel
theorem dX7_hasParityBehind_47 : decode cX7_hasParityBehind 47 = .ok (.ireturn, 1) := by decide +kernel
theorem dX7_takersByLooks_0 : decode cX7_takersByLooks 0 = .ok (.iconst 0, 1) := by decide +kernel
theorem dX7_takersByLooks_1 : decode cX7_takersByLooks 1 = .ok (.istore_n 2, 1) := by decide +kernel
theorem dX7_takersByLooks_2 : decode cX7_takersByLooks 2 = .ok (.iconst 0, 1) := by decide +kernel
theorem dX7_takersByLooks_3 : decode cX7_takersByLooks 3 = .ok (.istore_n 3, 1) := by decide +kernel
theorem dX7_takersByLooks_4 : decode cX7_takersByLooks 4 = .ok (.iload_n 3, 1) := by decide +kernel
theorem dX7_takersByLooks_5 : decode cX7_takersByLooks 5 = .ok (.aload_n 0, 1) := by decide +kernel
theorem dX7_takersByLooks_6 : decode cX7_takersByLooks 6 = .ok (.getfield 9, 3) := by decide +kernel
theorem dX7_takersByLooks_9 : decode cX7_takersByLooks 9 = .ok (.getfield 25, 3) := by decide +kernel
theorem dX7_takersByLooks_12 : decode cX7_takersByLooks 12 = .ok (.if_icmp .ge 36, 3) := by decide +kernel
theorem dX7_takersByLooks_15 : decode cX7_takersByLooks 15 = .ok (.aload_n 0, 1) := by decide +kernel
theorem dX7_takersByLooks_16 : decode cX7_takersByLooks 16 = .ok (.getfield 9, 3) := by decide +kernel
theorem dX7_takersByLooks_19 : decode cX7_takersByLooks 19 = .ok (.getfield 69, 3) := by decide +kernel
theorem dX7_takersByLooks_22 : decode cX7_takersByLooks 22 = .ok (.iload_n 1, 1) := by decide +kernel
theorem dX7_takersByLooks_23 : decode cX7_takersByLooks 23 = .ok (.iaload, 1) := by decide +kernel
theorem dX7_takersByLooks_24 : decode cX7_takersByLooks 24 = .ok (.aload_n 0, 1) := by decide +kernel
theorem dX7_takersByLooks_25 : decode cX7_takersByLooks 25 = .ok (.getfield 15, 3) := by decide +kernel
theorem dX7_takersByLooks_28 : decode cX7_takersByLooks 28 = .ok (.iload_n 3, 1) := by decide +kernel
theorem dX7_takersByLooks_29 : decode cX7_takersByLooks 29 = .ok (.invokevirtual 73, 3) := by decide +kernel
theorem dX7_takersByLooks_32 : decode cX7_takersByLooks 32 = .ok (.iand, 1) := by decide +kernel
theorem dX7_takersByLooks_33 : decode cX7_takersByLooks 33 = .ok (.ifCond .ne 9, 3) := by decide +kernel
theorem dX7_takersByLooks_36 : decode cX7_takersByLooks 36 = .ok (.iload_n 2, 1) := by decide +kernel
theorem dX7_takersByLooks_37 : decode cX7_takersByLooks 37 = .ok (.iconst 1, 1) := by decide +kernel
theorem dX7_takersByLooks_38 : decode cX7_takersByLooks 38 = .ok (.iload_n 3, 1) := by decide +kernel
theorem dX7_takersByLooks_39 : decode cX7_takersByLooks 39 = .ok (.ishl, 1) := by decide +kernel
theorem dX7_takersByLooks_40 : decode cX7_takersByLooks 40 = .ok (.ior, 1) := by decide +kernel
theorem dX7_takersByLooks_41 : decode cX7_takersByLooks 41 = .ok (.istore_n 2, 1) := by decide +kernel
theorem dX7_takersByLooks_42 : decode cX7_takersByLooks 42 = .ok (.iinc 3 1, 3) := by decide +kernel
theorem dX7_takersByLooks_45 : decode cX7_takersByLooks 45 = .ok (.goto (-41), 3) := by decide +kernel
theorem dX7_takersByLooks_48 : decode cX7_takersByLooks 48 = .ok (.iload_n 2, 1) := by decide +kernel
theorem dX7_takersByLooks_49 : decode cX7_takersByLooks 49 = .ok (.ireturn, 1) := by decide +kernel
theorem dX8_init_0 : decode cX8_init 0 = .ok (.aload_n 0, 1) := by decide +kernel
theorem dX8_init_1 : decode cX8_init 1 = .ok (.invokespecial 3, 3) := by decide +kernel
theorem dX8_init_4 : decode cX8_init 4 = .ok (.aload_n 0, 1) := by decide +kernel
theorem dX8_init_5 : decode cX8_init 5 = .ok (.new 9, 3) := by decide +kernel
theorem dX8_init_8 : decode cX8_init 8 = .ok (.dup, 1) := by decide +kernel
theorem dX8_init_9 : decode cX8_init 9 = .ok (.invokespecial 11, 3) := by decide +kernel
theorem dX8_init_12 : decode cX8_init 12 = .ok (.putfield 12, 3) := by decide +kernel
theorem dX8_init_15 : decode cX8_init 15 = .ok (.aload_n 0, 1) := by decide +kernel
theorem dX8_init_16 : decode cX8_init 16 = .ok (.aload_n 1, 1) := by decide +kernel
theorem dX8_init_17 : decode cX8_init 17 = .ok (.putfield 18, 3) := by decide +kernel
theorem dX8_init_20 : decode cX8_init 20 = .ok (.return_, 1) := by decide +kernel
theorem dX8_read_0 : decode cX8_read 0 = .ok (.aload_n 0, 1) := by decide +kernel
theorem dX8_read_1 : decode cX8_read 1 = .ok (.invokevirtual 22, 3) := by decide +kernel
theorem dX8_read_4 : decode cX8_read 4 = .ok (.iconst 0, 1) := by decide +kernel
theorem dX8_read_5 : decode cX8_read 5 = .ok (.istore_n 1, 1) := by decide +kernel
theorem dX8_read_6 : decode cX8_read 6 = .ok (.iload_n 1, 1) := by decide +kernel
theorem dX8_read_7 : decode cX8_read 7 = .ok (.aload_n 0, 1) := by decide +kernel
theorem dX8_read_8 : decode cX8_read 8 = .ok (.getfield 18, 3) := by decide +kernel
theorem dX8_read_11 : decode cX8_read 11 = .ok (.getfield 25, 3) := by decide +kernel
theorem dX8_read_14 : decode cX8_read 14 = .ok (.if_icmp .ge 30, 3) := by decide +kernel
theorem dX8_read_17 : decode cX8_read 17 = .ok (.aload_n 0, 1) := by decide +kernel
theorem dX8_read_18 : decode cX8_read 18 = .ok (.iload_n 1, 1) := by decide +kernel
theorem dX8_read_19 : decode cX8_read 19 = .ok (.invokevirtual 31, 3) := by decide +kernel
theorem dX8_read_22 : decode cX8_read 22 = .ok (.ifCond .eq 16, 3) := by decide +kernel
theorem dX8_read_25 : decode cX8_read 25 = .ok (.aload_n 0, 1) := by decide +kernel
theorem dX8_read_26 : decode cX8_read 26 = .ok (.iload_n 1, 1) := by decide +kernel
theorem dX8_read_27 : decode cX8_read 27 = .ok (.invokevirtual 35, 3) := by decide +kernel
theorem dX8_read_30 : decode cX8_read 30 = .ok (.ifCond .ne 8, 3) := by decide +kernel
theorem dX8_read_33 : decode cX8_read 33 = .ok (.bipush (-10), 2) := by decide +kernel
theorem dX8_read_35 : decode cX8_read 35 = .ok (.iload_n 1, 1) := by decide +kernel
theorem dX8_read_36 : decode cX8_read 36 = .ok (.isub, 1) := by decide +kernel
theorem dX8_read_37 : decode cX8_read 37 = .ok (.ireturn, 1) := by decide +kernel
theorem dX8_read_38 : decode cX8_read 38 = .ok (.iinc 1 1, 3) := by decide +kernel
theorem dX8_read_41 : decode cX8_read 41 = .ok (.goto (-35), 3) := by decide +kernel
theorem dX8_read_44 : decode cX8_read 44 = .ok (.aload_n 0, 1) := by decide +kernel
theorem dX8_read_45 : decode cX8_read 45 = .ok (.getfield 38, 3) := by decide +kernel
theorem dX8_read_48 : decode cX8_read 48 = .ok (.ifCond .ne 10, 3) := by decide +kernel
theorem dX8_read_51 : decode cX8_read 51 = .ok (.aload_n 0, 1) := by decide +kernel
theorem dX8_read_52 : decode cX8_read 52 = .ok (.getfield 41, 3) := by decide +kernel
theorem dX8_read_55 : decode cX8_read 55 = .ok (.goto 13, 3) := by decide +kernel
theorem dX8_read_58 : decode cX8_read 58 = .ok (.bipush (-10), 2) := by decide +kernel
theorem dX8_read_60 : decode cX8_read 60 = .ok (.aload_n 0, 1) := by decide +kernel
theorem dX8_read_61 : decode cX8_read 61 = .ok (.getfield 18, 3) := by decide +kernel
theorem dX8_read_64 : decode cX8_read 64 = .ok (.getfield 25, 3) := by decide +kernel
theorem dX8_read_67 : decode cX8_read 67 = .ok (.isub, 1) := by decide +kernel
theorem dX8_read_68 : decode cX8_read 68 = .ok (.ireturn, 1) := by decide +kernel
theorem dX8_begin_0 : decode cX8_begin 0 = .ok (.aload_n 0, 1) := by decide +kernel
theorem dX8_begin_1 : decode cX8_begin 1 = .ok (.getfield 12, 3) := by decide +kernel
theorem dX8_begin_4 : decode cX8_begin 4 = .ok (.invokevirtual 44, 3) := by decide +kernel
theorem dX8_begin_7 : decode cX8_begin 7 = .ok (.aload_n 0, 1) := by decide +kernel
theorem dX8_begin_8 : decode cX8_begin 8 = .ok (.iconst 0, 1) := by decide +kernel
theorem dX8_begin_9 : decode cX8_begin 9 = .ok (.putfield 41, 3) := by decide +kernel
theorem dX8_begin_12 : decode cX8_begin 12 = .ok (.aload_n 0, 1) := by decide +kernel
theorem dX8_begin_13 : decode cX8_begin 13 = .ok (.iconst 0, 1) := by decide +kernel
theorem dX8_begin_14 : decode cX8_begin 14 = .ok (.putfield 38, 3) := by decide +kernel
theorem dX8_begin_17 : decode cX8_begin 17 = .ok (.aload_n 0, 1) := by decide +kernel
theorem dX8_begin_18 : decode cX8_begin 18 = .ok (.iconst 0, 1) := by decide +kernel
theorem dX8_begin_19 : decode cX8_begin 19 = .ok (.putfield 47, 3) := by decide +kernel
theorem dX8_begin_22 : decode cX8_begin 22 = .ok (.aload_n 0, 1) := by decide +kernel
theorem dX8_begin_23 : decode cX8_begin 23 = .ok (.iconst 0, 1) := by decide +kernel
theorem dX8_begin_24 : decode cX8_begin 24 = .ok (.putfield 50, 3) := by decide +kernel
theorem dX8_begin_27 : decode cX8_begin 27 = .ok (.aload_n 0, 1) := by decide +kernel
theorem dX8_begin_28 : decode cX8_begin 28 = .ok (.iconst 0, 1) := by decide +kernel
theorem dX8_begin_29 : decode cX8_begin 29 = .ok (.putfield 54, 3) := by decide +kernel
theorem dX8_begin_32 : decode cX8_begin 32 = .ok (.return_, 1) := by decide +kernel
theorem dX8_beginsToken_0 : decode cX8_beginsToken 0 = .ok (.aload_n 0, 1) := by decide +kernel
theorem dX8_beginsToken_1 : decode cX8_beginsToken 1 = .ok (.getfield 18, 3) := by decide +kernel
theorem dX8_beginsToken_4 : decode cX8_beginsToken 4 = .ok (.iload_n 1, 1) := by decide +kernel
theorem dX8_beginsToken_5 : decode cX8_beginsToken 5 = .ok (.invokevirtual 57, 3) := by decide +kernel
theorem dX8_beginsToken_8 : decode cX8_beginsToken 8 = .ok (.ifCond .eq 22, 3) := by decide +kernel
theorem dX8_beginsToken_11 : decode cX8_beginsToken 11 = .ok (.aload_n 0, 1) := by decide +kernel
theorem dX8_beginsToken_12 : decode cX8_beginsToken 12 = .ok (.getfield 18, 3) := by decide +kernel
theorem dX8_beginsToken_15 : decode cX8_beginsToken 15 = .ok (.iload_n 1, 1) := by decide +kernel
theorem dX8_beginsToken_16 : decode cX8_beginsToken 16 = .ok (.iconst 1, 1) := by decide +kernel
theorem dX8_beginsToken_17 : decode cX8_beginsToken 17 = .ok (.isub, 1) := by decide +kernel
theorem dX8_beginsToken_18 : decode cX8_beginsToken 18 = .ok (.invokevirtual 57, 3) := by decide +kernel
theorem dX8_beginsToken_21 : decode cX8_beginsToken 21 = .ok (.ifCond .ne 7, 3) := by decide +kernel
theorem dX8_beginsToken_24 : decode cX8_beginsToken 24 = .ok (.iconst 1, 1) := by decide +kernel
theorem dX8_beginsToken_25 : decode cX8_beginsToken 25 = .ok (.goto 4, 3) := by decide +kernel
theorem dX8_beginsToken_28 : decode cX8_beginsToken 28 = .ok (.iconst 0, 1) := by decide +kernel
theorem dX8_beginsToken_29 : decode cX8_beginsToken 29 = .ok (.ireturn, 1) := by decide +kernel
theorem dX8_beginsToken_30 : decode cX8_beginsToken 30 = .ok (.aload_n 0, 1) := by decide +kernel
theorem dX8_beginsToken_31 : decode cX8_beginsToken 31 = .ok (.getfield 18, 3) := by decide +kernel
theorem dX8_beginsToken_34 : decode cX8_beginsToken 34 = .ok (.getfield 60, 3) := by decide +kernel
theorem dX8_beginsToken_37 : decode cX8_beginsToken 37 = .ok (.iload_n 1, 1) := by decide +kernel
theorem dX8_beginsToken_38 : decode cX8_beginsToken 38 = .ok (.iaload, 1) := by decide +kernel
theorem dX8_beginsToken_39 : decode cX8_beginsToken 39 = .ok (.bipush 32, 2) := by decide +kernel
theorem dX8_beginsToken_41 : decode cX8_beginsToken 41 = .ok (.if_icmp .eq 7, 3) := by decide +kernel
theorem dX8_beginsToken_44 : decode cX8_beginsToken 44 = .ok (.iconst 1, 1) := by decide +kernel
theorem dX8_beginsToken_45 : decode cX8_beginsToken 45 = .ok (.goto 4, 3) := by decide +kernel
theorem dX8_beginsToken_48 : decode cX8_beginsToken 48 = .ok (.iconst 0, 1) := by decide +kernel
theorem dX8_beginsToken_49 : decode cX8_beginsToken 49 = .ok (.ireturn, 1) := by decide +kernel
theorem dX8_accepts_0 : decode cX8_accepts 0 = .ok (.aload_n 0, 1) := by decide +kernel
theorem dX8_accepts_1 : decode cX8_accepts 1 = .ok (.getfield 18, 3) := by decide +kernel
theorem dX8_accepts_4 : decode cX8_accepts 4 = .ok (.getfield 60, 3) := by decide +kernel
theorem dX8_accepts_7 : decode cX8_accepts 7 = .ok (.iload_n 1, 1) := by decide +kernel
theorem dX8_accepts_8 : decode cX8_accepts 8 = .ok (.iaload, 1) := by decide +kernel
theorem dX8_accepts_9 : decode cX8_accepts 9 = .ok (.istore_n 2, 1) := by decide +kernel
theorem dX8_accepts_10 : decode cX8_accepts 10 = .ok (.aload_n 0, 1) := by decide +kernel
theorem dX8_accepts_11 : decode cX8_accepts 11 = .ok (.getfield 38, 3) := by decide +kernel
theorem dX8_accepts_14 : decode cX8_accepts 14 = .ok (.ifCond .ne 9, 3) := by decide +kernel
theorem dX8_accepts_17 : decode cX8_accepts 17 = .ok (.aload_n 0, 1) := by decide +kernel
theorem dX8_accepts_18 : decode cX8_accepts 18 = .ok (.iload_n 2, 1) := by decide +kernel
theorem dX8_accepts_19 : decode cX8_accepts 19 = .ok (.invokevirtual 64, 3) := by decide +kernel
theorem dX8_accepts_22 : decode cX8_accepts 22 = .ok (.ireturn, 1) := by decide +kernel
theorem dX8_accepts_23 : decode cX8_accepts 23 = .ok (.aload_n 0, 1) := by decide +kernel
theorem dX8_accepts_24 : decode cX8_accepts 24 = .ok (.getfield 47, 3) := by decide +kernel
theorem dX8_accepts_27 : decode cX8_accepts 27 = .ok (.aload_n 0, 1) := by decide +kernel
theorem dX8_accepts_28 : decode cX8_accepts 28 = .ok (.invokevirtual 67, 3) := by decide +kernel
theorem dX8_accepts_31 : decode cX8_accepts 31 = .ok (.if_icmp .ge 32, 3) := by decide +kernel
theorem dX8_accepts_34 : decode cX8_accepts 34 = .ok (.aload_n 0, 1) := by decide +kernel
theorem dX8_accepts_35 : decode cX8_accepts 35 = .ok (.getfield 18, 3) := by decide +kernel
theorem dX8_accepts_38 : decode cX8_accepts 38 = .ok (.iload_n 1, 1) := by decide +kernel
theorem dX8_accepts_39 : decode cX8_accepts 39 = .ok (.invokevirtual 57, 3) := by decide +kernel
theorem dX8_accepts_42 : decode cX8_accepts 42 = .ok (.ifCond .eq 19, 3) := by decide +kernel
theorem dX8_accepts_45 : decode cX8_accepts 45 = .ok (.aload_n 0, 1) := by decide +kernel
theorem dX8_accepts_46 : decode cX8_accepts 46 = .ok (.aload_n 0, 1) := by decide +kernel
theorem dX8_accepts_47 : decode cX8_accepts 47 = .ok (.iload_n 1, 1) := by decide +kernel
theorem dX8_accepts_48 : decode cX8_accepts 48 = .ok (.invokevirtual 71, 3) := by decide +kernel
theorem dX8_accepts_51 : decode cX8_accepts 51 = .ok (.invokevirtual 75, 3) := by decide +kernel
theorem dX8_accepts_54 : decode cX8_accepts 54 = .ok (.ifCond .eq 7, 3) := by decide +kernel
theorem dX8_accepts_57 : decode cX8_accepts 57 = .ok (.iconst 1, 1) := by decide +kernel
theorem dX8_accepts_58 : decode cX8_accepts 58 = .ok (.goto 4, 3) := by decide +kernel
theorem dX8_accepts_61 : decode cX8_accepts 61 = .ok (.iconst 0, 1) := by decide +kernel
theorem dX8_accepts_62 : decode cX8_accepts 62 = .ok (.ireturn, 1) := by decide +kernel
theorem dX8_accepts_63 : decode cX8_accepts 63 = .ok (.iload_n 2, 1) := by decide +kernel
theorem dX8_accepts_64 : decode cX8_accepts 64 = .ok (.bipush 59, 2) := by decide +kernel
theorem dX8_accepts_66 : decode cX8_accepts 66 = .ok (.if_icmp .ne 14, 3) := by decide +kernel
theorem dX8_accepts_69 : decode cX8_accepts 69 = .ok (.aload_n 0, 1) := by decide +kernel
theorem dX8_accepts_70 : decode cX8_accepts 70 = .ok (.invokevirtual 78, 3) := by decide +kernel
theorem dX8_accepts_73 : decode cX8_accepts 73 = .ok (.ifCond .eq 7, 3) := by decide +kernel
theorem dX8_accepts_76 : decode cX8_accepts 76 = .ok (.iconst 1, 1) := by decide +kernel
theorem dX8_accepts_77 : decode cX8_accepts 77 = .ok (.goto 4, 3) := by decide +kernel
theorem dX8_accepts_80 : decode cX8_accepts 80 = .ok (.iconst 0, 1) := by decide +kernel
theorem dX8_accepts_81 : decode cX8_accepts 81 = .ok (.ireturn, 1) := by decide +kernel
theorem dX8_beginsItem_0 : decode cX8_beginsItem 0 = .ok (.aload_n 0, 1) := by decide +kernel
theorem dX8_beginsItem_1 : decode cX8_beginsItem 1 = .ok (.iload_n 1, 1) := by decide +kernel
theorem dX8_beginsItem_2 : decode cX8_beginsItem 2 = .ok (.invokevirtual 82, 3) := by decide +kernel
theorem dX8_beginsItem_5 : decode cX8_beginsItem 5 = .ok (.ifCond .ne 5, 3) := by decide +kernel
theorem dX8_beginsItem_8 : decode cX8_beginsItem 8 = .ok (.iconst 0, 1) := by decide +kernel
theorem dX8_beginsItem_9 : decode cX8_beginsItem 9 = .ok (.ireturn, 1) := by decide +kernel
theorem dX8_beginsItem_10 : decode cX8_beginsItem 10 = .ok (.aload_n 0, 1) := by decide +kernel
theorem dX8_beginsItem_11 : decode cX8_beginsItem 11 = .ok (.iload_n 1, 1) := by decide +kernel
theorem dX8_beginsItem_12 : decode cX8_beginsItem 12 = .ok (.putfield 38, 3) := by decide +kernel
theorem dX8_beginsItem_15 : decode cX8_beginsItem 15 = .ok (.aload_n 0, 1) := by decide +kernel
theorem dX8_beginsItem_16 : decode cX8_beginsItem 16 = .ok (.iconst 0, 1) := by decide +kernel
theorem dX8_beginsItem_17 : decode cX8_beginsItem 17 = .ok (.putfield 47, 3) := by decide +kernel
theorem dX8_beginsItem_20 : decode cX8_beginsItem 20 = .ok (.iconst 1, 1) := by decide +kernel
theorem dX8_beginsItem_21 : decode cX8_beginsItem 21 = .ok (.ireturn, 1) := by decide +kernel
theorem dX8_canBegin_0 : decode cX8_canBegin 0 = .ok (.iload_n 1, 1) := by decide +kernel
theorem dX8_canBegin_1 : decode cX8_canBegin 1 = .ok (.lookupswitch 104 #[(98, 78), (110, 60), (112, 43), (115, 91)], 43) := by decide +kernel
theorem dX8_canBegin_44 : decode cX8_canBegin 44 = .ok (.aload_n 0, 1) := by decide +kernel
theorem dX8_canBegin_45 : decode cX8_canBegin 45 = .ok (.getfield 12, 3) := by decide +kernel
theorem dX8_canBegin_48 : decode cX8_canBegin 48 = .ok (.getfield 85, 3) := by decide +kernel
theorem dX8_canBegin_51 : decode cX8_canBegin 51 = .ok (.iconst 5, 1) := by decide +kernel
theorem dX8_canBegin_52 : decode cX8_canBegin 52 = .ok (.if_icmp .ge 7, 3) := by decide +kernel
theorem dX8_canBegin_55 : decode cX8_canBegin 55 = .ok (.iconst 1, 1) := by decide +kernel
theorem dX8_canBegin_56 : decode cX8_canBegin 56 = .ok (.goto 4, 3) := by decide +kernel
theorem dX8_canBegin_59 : decode cX8_canBegin 59 = .ok (.iconst 0, 1) := by decide +kernel
theorem dX8_canBegin_60 : decode cX8_canBegin 60 = .ok (.ireturn, 1) := by decide +kernel
theorem dX8_canBegin_61 : decode cX8_canBegin 61 = .ok (.aload_n 0, 1) := by decide +kernel
theorem dX8_canBegin_62 : decode cX8_canBegin 62 = .ok (.getfield 12, 3) := by decide +kernel
theorem dX8_canBegin_65 : decode cX8_canBegin 65 = .ok (.getfield 88, 3) := by decide +kernel
theorem dX8_canBegin_68 : decode cX8_canBegin 68 = .ok (.bipush 6, 2) := by decide +kernel
theorem dX8_canBegin_70 : decode cX8_canBegin 70 = .ok (.if_icmp .ge 7, 3) := by decide +kernel
theorem dX8_canBegin_73 : decode cX8_canBegin 73 = .ok (.iconst 1, 1) := by decide +kernel
theorem dX8_canBegin_74 : decode cX8_canBegin 74 = .ok (.goto 4, 3) := by decide +kernel
theorem dX8_canBegin_77 : decode cX8_canBegin 77 = .ok (.iconst 0, 1) := by decide +kernel
theorem dX8_canBegin_78 : decode cX8_canBegin 78 = .ok (.ireturn, 1) := by decide +kernel
theorem dX8_canBegin_79 : decode cX8_canBegin 79 = .ok (.aload_n 0, 1) := by decide +kernel
theorem dX8_canBegin_80 : decode cX8_canBegin 80 = .ok (.getfield 50, 3) := by decide +kernel
theorem dX8_canBegin_83 : decode cX8_canBegin 83 = .ok (.ifCond .ne 7, 3) := by decide +kernel
theorem dX8_canBegin_86 : decode cX8_canBegin 86 = .ok (.iconst 1, 1) := by decide +kernel
theorem dX8_canBegin_87 : decode cX8_canBegin 87 = .ok (.goto 4, 3) := by decide +kernel
theorem dX8_canBegin_90 : decode cX8_canBegin 90 = .ok (.iconst 0, 1) := by decide +kernel
end
section
theorem dX8_canBegin_91 : decode cX8_canBegin 91 = .ok (.ireturn, 1) := by decide +kernel
theorem dX8_canBegin_92 : decode cX8_canBegin 92 = .ok (.aload_n 0, 1) := by decide +kernel
theorem dX8_canBegin_93 : decode cX8_canBegin 93 = .ok (.getfield 54, 3) := by decide +kernel
theorem dX8_canBegin_96 : decode cX8_canBegin 96 = .ok (.ifCond .ne 7, 3) := by decide +kernel
theorem dX8_canBegin_99 : decode cX8_canBegin 99 = .ok (.iconst 1, 1) := by decide +kernel
theorem dX8_canBegin_100 : decode cX8_canBegin 100 = .ok (.goto 4, 3) := by decide +kernel
theorem dX8_canBegin_103 : decode cX8_canBegin 103 = .ok (.iconst 0, 1) := by decide +kernel
theorem dX8_canBegin_104 : decode cX8_canBegin 104 = .ok (.ireturn, 1) := by decide +kernel
theorem dX8_canBegin_105 : decode cX8_canBegin 105 = .ok (.iconst 0, 1) := by decide +kernel
theorem dX8_canBegin_106 : decode cX8_canBegin 106 = .ok (.ireturn, 1) := by decide +kernel
theorem dX8_numbersOfItem_0 : decode cX8_numbersOfItem 0 = .ok (.aload_n 0, 1) := by decide +kernel
theorem dX8_numbersOfItem_1 : decode cX8_numbersOfItem 1 = .ok (.getfield 38, 3) := by decide +kernel
theorem dX8_numbersOfItem_4 : decode cX8_numbersOfItem 4 = .ok (.bipush 110, 2) := by decide +kernel
theorem dX8_numbersOfItem_6 : decode cX8_numbersOfItem 6 = .ok (.if_icmp .ne 7, 3) := by decide +kernel
theorem dX8_numbersOfItem_9 : decode cX8_numbersOfItem 9 = .ok (.iconst 3, 1) := by decide +kernel
theorem dX8_numbersOfItem_10 : decode cX8_numbersOfItem 10 = .ok (.goto 4, 3) := by decide +kernel
theorem dX8_numbersOfItem_13 : decode cX8_numbersOfItem 13 = .ok (.iconst 1, 1) := by decide +kernel
theorem dX8_numbersOfItem_14 : decode cX8_numbersOfItem 14 = .ok (.ireturn, 1) := by decide +kernel
theorem dX8_numberAt_0 : decode cX8_numberAt 0 = .ok (.aload_n 0, 1) := by decide +kernel
theorem dX8_numberAt_1 : decode cX8_numberAt 1 = .ok (.getfield 18, 3) := by decide +kernel
theorem dX8_numberAt_4 : decode cX8_numberAt 4 = .ok (.getfield 60, 3) := by decide +kernel
theorem dX8_numberAt_7 : decode cX8_numberAt 7 = .ok (.iload_n 1, 1) := by decide +kernel
theorem dX8_numberAt_8 : decode cX8_numberAt 8 = .ok (.iaload, 1) := by decide +kernel
theorem dX8_numberAt_9 : decode cX8_numberAt 9 = .ok (.bipush 48, 2) := by decide +kernel
theorem dX8_numberAt_11 : decode cX8_numberAt 11 = .ok (.if_icmp .ne 19, 3) := by decide +kernel
theorem dX8_numberAt_14 : decode cX8_numberAt 14 = .ok (.aload_n 0, 1) := by decide +kernel
theorem dX8_numberAt_15 : decode cX8_numberAt 15 = .ok (.getfield 18, 3) := by decide +kernel
theorem dX8_numberAt_18 : decode cX8_numberAt 18 = .ok (.iload_n 1, 1) := by decide +kernel
theorem dX8_numberAt_19 : decode cX8_numberAt 19 = .ok (.iconst 1, 1) := by decide +kernel
theorem dX8_numberAt_20 : decode cX8_numberAt 20 = .ok (.iadd, 1) := by decide +kernel
theorem dX8_numberAt_21 : decode cX8_numberAt 21 = .ok (.invokevirtual 57, 3) := by decide +kernel
theorem dX8_numberAt_24 : decode cX8_numberAt 24 = .ok (.ifCond .eq 6, 3) := by decide +kernel
theorem dX8_numberAt_27 : decode cX8_numberAt 27 = .ok (.bipush 100, 2) := by decide +kernel
theorem dX8_numberAt_29 : decode cX8_numberAt 29 = .ok (.ireturn, 1) := by decide +kernel
theorem dX8_numberAt_30 : decode cX8_numberAt 30 = .ok (.iconst 0, 1) := by decide +kernel
theorem dX8_numberAt_31 : decode cX8_numberAt 31 = .ok (.istore_n 2, 1) := by decide +kernel
theorem dX8_numberAt_32 : decode cX8_numberAt 32 = .ok (.iload_n 1, 1) := by decide +kernel
theorem dX8_numberAt_33 : decode cX8_numberAt 33 = .ok (.istore_n 3, 1) := by decide +kernel
theorem dX8_numberAt_34 : decode cX8_numberAt 34 = .ok (.iload_n 3, 1) := by decide +kernel
theorem dX8_numberAt_35 : decode cX8_numberAt 35 = .ok (.aload_n 0, 1) := by decide +kernel
theorem dX8_numberAt_36 : decode cX8_numberAt 36 = .ok (.getfield 18, 3) := by decide +kernel
theorem dX8_numberAt_39 : decode cX8_numberAt 39 = .ok (.getfield 25, 3) := by decide +kernel
theorem dX8_numberAt_42 : decode cX8_numberAt 42 = .ok (.if_icmp .ge 43, 3) := by decide +kernel
theorem dX8_numberAt_45 : decode cX8_numberAt 45 = .ok (.aload_n 0, 1) := by decide +kernel
theorem dX8_numberAt_46 : decode cX8_numberAt 46 = .ok (.getfield 18, 3) := by decide +kernel
theorem dX8_numberAt_49 : decode cX8_numberAt 49 = .ok (.iload_n 3, 1) := by decide +kernel
theorem dX8_numberAt_50 : decode cX8_numberAt 50 = .ok (.invokevirtual 57, 3) := by decide +kernel
theorem dX8_numberAt_53 : decode cX8_numberAt 53 = .ok (.ifCond .eq 32, 3) := by decide +kernel
theorem dX8_numberAt_56 : decode cX8_numberAt 56 = .ok (.bipush 100, 2) := by decide +kernel
theorem dX8_numberAt_58 : decode cX8_numberAt 58 = .ok (.iload_n 2, 1) := by decide +kernel
theorem dX8_numberAt_59 : decode cX8_numberAt 59 = .ok (.bipush 10, 2) := by decide +kernel
theorem dX8_numberAt_61 : decode cX8_numberAt 61 = .ok (.imul, 1) := by decide +kernel
theorem dX8_numberAt_62 : decode cX8_numberAt 62 = .ok (.aload_n 0, 1) := by decide +kernel
theorem dX8_numberAt_63 : decode cX8_numberAt 63 = .ok (.getfield 18, 3) := by decide +kernel
theorem dX8_numberAt_66 : decode cX8_numberAt 66 = .ok (.getfield 60, 3) := by decide +kernel
theorem dX8_numberAt_69 : decode cX8_numberAt 69 = .ok (.iload_n 3, 1) := by decide +kernel
theorem dX8_numberAt_70 : decode cX8_numberAt 70 = .ok (.iaload, 1) := by decide +kernel
theorem dX8_numberAt_71 : decode cX8_numberAt 71 = .ok (.iadd, 1) := by decide +kernel
theorem dX8_numberAt_72 : decode cX8_numberAt 72 = .ok (.bipush 48, 2) := by decide +kernel
theorem dX8_numberAt_74 : decode cX8_numberAt 74 = .ok (.isub, 1) := by decide +kernel
theorem dX8_numberAt_75 : decode cX8_numberAt 75 = .ok (.invokestatic 91, 3) := by decide +kernel
theorem dX8_numberAt_78 : decode cX8_numberAt 78 = .ok (.istore_n 2, 1) := by decide +kernel
theorem dX8_numberAt_79 : decode cX8_numberAt 79 = .ok (.iinc 3 1, 3) := by decide +kernel
theorem dX8_numberAt_82 : decode cX8_numberAt 82 = .ok (.goto (-48), 3) := by decide +kernel
theorem dX8_numberAt_85 : decode cX8_numberAt 85 = .ok (.iload_n 2, 1) := by decide +kernel
theorem dX8_numberAt_86 : decode cX8_numberAt 86 = .ok (.ireturn, 1) := by decide +kernel
theorem dX8_acceptsNumber_0 : decode cX8_acceptsNumber 0 = .ok (.iload_n 1, 1) := by decide +kernel
theorem dX8_acceptsNumber_1 : decode cX8_acceptsNumber 1 = .ok (.aload_n 0, 1) := by decide +kernel
theorem dX8_acceptsNumber_2 : decode cX8_acceptsNumber 2 = .ok (.invokevirtual 97, 3) := by decide +kernel
theorem dX8_acceptsNumber_5 : decode cX8_acceptsNumber 5 = .ok (.if_icmp .lt 11, 3) := by decide +kernel
theorem dX8_acceptsNumber_8 : decode cX8_acceptsNumber 8 = .ok (.iload_n 1, 1) := by decide +kernel
theorem dX8_acceptsNumber_9 : decode cX8_acceptsNumber 9 = .ok (.aload_n 0, 1) := by decide +kernel
theorem dX8_acceptsNumber_10 : decode cX8_acceptsNumber 10 = .ok (.invokevirtual 100, 3) := by decide +kernel
theorem dX8_acceptsNumber_13 : decode cX8_acceptsNumber 13 = .ok (.if_icmp .le 5, 3) := by decide +kernel
theorem dX8_acceptsNumber_16 : decode cX8_acceptsNumber 16 = .ok (.iconst 0, 1) := by decide +kernel
theorem dX8_acceptsNumber_17 : decode cX8_acceptsNumber 17 = .ok (.ireturn, 1) := by decide +kernel
theorem dX8_acceptsNumber_18 : decode cX8_acceptsNumber 18 = .ok (.aload_n 0, 1) := by decide +kernel
theorem dX8_acceptsNumber_19 : decode cX8_acceptsNumber 19 = .ok (.iload_n 1, 1) := by decide +kernel
theorem dX8_acceptsNumber_20 : decode cX8_acceptsNumber 20 = .ok (.invokevirtual 103, 3) := by decide +kernel
theorem dX8_acceptsNumber_23 : decode cX8_acceptsNumber 23 = .ok (.aload_n 0, 1) := by decide +kernel
theorem dX8_acceptsNumber_24 : decode cX8_acceptsNumber 24 = .ok (.dup, 1) := by decide +kernel
theorem dX8_acceptsNumber_25 : decode cX8_acceptsNumber 25 = .ok (.getfield 47, 3) := by decide +kernel
theorem dX8_acceptsNumber_28 : decode cX8_acceptsNumber 28 = .ok (.iconst 1, 1) := by decide +kernel
theorem dX8_acceptsNumber_29 : decode cX8_acceptsNumber 29 = .ok (.iadd, 1) := by decide +kernel
theorem dX8_acceptsNumber_30 : decode cX8_acceptsNumber 30 = .ok (.putfield 47, 3) := by decide +kernel
theorem dX8_acceptsNumber_33 : decode cX8_acceptsNumber 33 = .ok (.iconst 1, 1) := by decide +kernel
theorem dX8_acceptsNumber_34 : decode cX8_acceptsNumber 34 = .ok (.ireturn, 1) := by decide +kernel
theorem dX8_leastNumber_0 : decode cX8_leastNumber 0 = .ok (.aload_n 0, 1) := by decide +kernel
theorem dX8_leastNumber_1 : decode cX8_leastNumber 1 = .ok (.getfield 38, 3) := by decide +kernel
theorem dX8_leastNumber_4 : decode cX8_leastNumber 4 = .ok (.bipush 98, 2) := by decide +kernel
theorem dX8_leastNumber_6 : decode cX8_leastNumber 6 = .ok (.if_icmp .eq 19, 3) := by decide +kernel
theorem dX8_leastNumber_9 : decode cX8_leastNumber 9 = .ok (.aload_n 0, 1) := by decide +kernel
theorem dX8_leastNumber_10 : decode cX8_leastNumber 10 = .ok (.getfield 38, 3) := by decide +kernel
theorem dX8_leastNumber_13 : decode cX8_leastNumber 13 = .ok (.bipush 110, 2) := by decide +kernel
theorem dX8_leastNumber_15 : decode cX8_leastNumber 15 = .ok (.if_icmp .ne 14, 3) := by decide +kernel
theorem dX8_leastNumber_18 : decode cX8_leastNumber 18 = .ok (.aload_n 0, 1) := by decide +kernel
theorem dX8_leastNumber_19 : decode cX8_leastNumber 19 = .ok (.getfield 47, 3) := by decide +kernel
theorem dX8_leastNumber_22 : decode cX8_leastNumber 22 = .ok (.ifCond .ne 7, 3) := by decide +kernel
theorem dX8_leastNumber_25 : decode cX8_leastNumber 25 = .ok (.iconst 1, 1) := by decide +kernel
theorem dX8_leastNumber_26 : decode cX8_leastNumber 26 = .ok (.goto 4, 3) := by decide +kernel
theorem dX8_leastNumber_29 : decode cX8_leastNumber 29 = .ok (.iconst 0, 1) := by decide +kernel
theorem dX8_leastNumber_30 : decode cX8_leastNumber 30 = .ok (.ireturn, 1) := by decide +kernel
theorem dX8_mostNumber_0 : decode cX8_mostNumber 0 = .ok (.aload_n 0, 1) := by decide +kernel
theorem dX8_mostNumber_1 : decode cX8_mostNumber 1 = .ok (.getfield 38, 3) := by decide +kernel
theorem dX8_mostNumber_4 : decode cX8_mostNumber 4 = .ok (.lookupswitch 47 #[(98, 36), (110, 42), (115, 39)], 36) := by decide +kernel
theorem dX8_mostNumber_40 : decode cX8_mostNumber 40 = .ok (.bipush 9, 2) := by decide +kernel
theorem dX8_mostNumber_42 : decode cX8_mostNumber 42 = .ok (.ireturn, 1) := by decide +kernel
theorem dX8_mostNumber_43 : decode cX8_mostNumber 43 = .ok (.bipush 10, 2) := by decide +kernel
theorem dX8_mostNumber_45 : decode cX8_mostNumber 45 = .ok (.ireturn, 1) := by decide +kernel
theorem dX8_mostNumber_46 : decode cX8_mostNumber 46 = .ok (.aload_n 0, 1) := by decide +kernel
theorem dX8_mostNumber_47 : decode cX8_mostNumber 47 = .ok (.invokevirtual 107, 3) := by decide +kernel
theorem dX8_mostNumber_50 : decode cX8_mostNumber 50 = .ok (.ireturn, 1) := by decide +kernel
theorem dX8_mostNumber_51 : decode cX8_mostNumber 51 = .ok (.bipush 31, 2) := by decide +kernel
theorem dX8_mostNumber_53 : decode cX8_mostNumber 53 = .ok (.ireturn, 1) := by decide +kernel
theorem dX8_mostOfNote_0 : decode cX8_mostOfNote 0 = .ok (.aload_n 0, 1) := by decide +kernel
theorem dX8_mostOfNote_1 : decode cX8_mostOfNote 1 = .ok (.getfield 47, 3) := by decide +kernel
theorem dX8_mostOfNote_4 : decode cX8_mostOfNote 4 = .ok (.lookupswitch 34 #[(0, 28), (1, 31)], 28) := by decide +kernel
theorem dX8_mostOfNote_32 : decode cX8_mostOfNote 32 = .ok (.bipush 99, 2) := by decide +kernel
theorem dX8_mostOfNote_34 : decode cX8_mostOfNote 34 = .ok (.ireturn, 1) := by decide +kernel
theorem dX8_mostOfNote_35 : decode cX8_mostOfNote 35 = .ok (.bipush 31, 2) := by decide +kernel
theorem dX8_mostOfNote_37 : decode cX8_mostOfNote 37 = .ok (.ireturn, 1) := by decide +kernel
theorem dX8_mostOfNote_38 : decode cX8_mostOfNote 38 = .ok (.aload_n 0, 1) := by decide +kernel
theorem dX8_mostOfNote_39 : decode cX8_mostOfNote 39 = .ok (.getfield 12, 3) := by decide +kernel
theorem dX8_mostOfNote_42 : decode cX8_mostOfNote 42 = .ok (.getfield 85, 3) := by decide +kernel
theorem dX8_mostOfNote_45 : decode cX8_mostOfNote 45 = .ok (.iconst 1, 1) := by decide +kernel
theorem dX8_mostOfNote_46 : decode cX8_mostOfNote 46 = .ok (.isub, 1) := by decide +kernel
theorem dX8_mostOfNote_47 : decode cX8_mostOfNote 47 = .ok (.ireturn, 1) := by decide +kernel
theorem dX8_store_0 : decode cX8_store 0 = .ok (.aload_n 0, 1) := by decide +kernel
theorem dX8_store_1 : decode cX8_store 1 = .ok (.getfield 38, 3) := by decide +kernel
theorem dX8_store_4 : decode cX8_store 4 = .ok (.lookupswitch 81 #[(98, 70), (110, 55), (112, 36)], 36) := by decide +kernel
theorem dX8_store_40 : decode cX8_store 40 = .ok (.aload_n 0, 1) := by decide +kernel
theorem dX8_store_41 : decode cX8_store 41 = .ok (.getfield 12, 3) := by decide +kernel
theorem dX8_store_44 : decode cX8_store 44 = .ok (.getfield 110, 3) := by decide +kernel
theorem dX8_store_47 : decode cX8_store 47 = .ok (.aload_n 0, 1) := by decide +kernel
theorem dX8_store_48 : decode cX8_store 48 = .ok (.getfield 12, 3) := by decide +kernel
theorem dX8_store_51 : decode cX8_store 51 = .ok (.getfield 85, 3) := by decide +kernel
theorem dX8_store_54 : decode cX8_store 54 = .ok (.iload_n 1, 1) := by decide +kernel
theorem dX8_store_55 : decode cX8_store 55 = .ok (.iastore, 1) := by decide +kernel
theorem dX8_store_56 : decode cX8_store 56 = .ok (.goto 37, 3) := by decide +kernel
theorem dX8_store_59 : decode cX8_store 59 = .ok (.aload_n 0, 1) := by decide +kernel
theorem dX8_store_60 : decode cX8_store 60 = .ok (.aload_n 0, 1) := by decide +kernel
theorem dX8_store_61 : decode cX8_store 61 = .ok (.getfield 12, 3) := by decide +kernel
theorem dX8_store_64 : decode cX8_store 64 = .ok (.getfield 88, 3) := by decide +kernel
theorem dX8_store_67 : decode cX8_store 67 = .ok (.iload_n 1, 1) := by decide +kernel
theorem dX8_store_68 : decode cX8_store 68 = .ok (.invokevirtual 113, 3) := by decide +kernel
theorem dX8_store_71 : decode cX8_store 71 = .ok (.goto 22, 3) := by decide +kernel
theorem dX8_store_74 : decode cX8_store 74 = .ok (.aload_n 0, 1) := by decide +kernel
theorem dX8_store_75 : decode cX8_store 75 = .ok (.getfield 12, 3) := by decide +kernel
theorem dX8_store_78 : decode cX8_store 78 = .ok (.iload_n 1, 1) := by decide +kernel
theorem dX8_store_79 : decode cX8_store 79 = .ok (.putfield 117, 3) := by decide +kernel
theorem dX8_store_82 : decode cX8_store 82 = .ok (.goto 11, 3) := by decide +kernel
theorem dX8_store_85 : decode cX8_store 85 = .ok (.aload_n 0, 1) := by decide +kernel
theorem dX8_store_86 : decode cX8_store 86 = .ok (.getfield 12, 3) := by decide +kernel
theorem dX8_store_89 : decode cX8_store 89 = .ok (.iload_n 1, 1) := by decide +kernel
theorem dX8_store_90 : decode cX8_store 90 = .ok (.putfield 120, 3) := by decide +kernel
theorem dX8_store_93 : decode cX8_store 93 = .ok (.return_, 1) := by decide +kernel
theorem dX8_storeOfNote_0 : decode cX8_storeOfNote 0 = .ok (.aload_n 0, 1) := by decide +kernel
theorem dX8_storeOfNote_1 : decode cX8_storeOfNote 1 = .ok (.getfield 47, 3) := by decide +kernel
theorem dX8_storeOfNote_4 : decode cX8_storeOfNote 4 = .ok (.lookupswitch 54 #[(0, 28), (1, 41)], 28) := by decide +kernel
theorem dX8_storeOfNote_32 : decode cX8_storeOfNote 32 = .ok (.aload_n 0, 1) := by decide +kernel
theorem dX8_storeOfNote_33 : decode cX8_storeOfNote 33 = .ok (.getfield 12, 3) := by decide +kernel
theorem dX8_storeOfNote_36 : decode cX8_storeOfNote 36 = .ok (.getfield 123, 3) := by decide +kernel
theorem dX8_storeOfNote_39 : decode cX8_storeOfNote 39 = .ok (.iload_n 1, 1) := by decide +kernel
theorem dX8_storeOfNote_40 : decode cX8_storeOfNote 40 = .ok (.iload_n 2, 1) := by decide +kernel
theorem dX8_storeOfNote_41 : decode cX8_storeOfNote 41 = .ok (.iastore, 1) := by decide +kernel
theorem dX8_storeOfNote_42 : decode cX8_storeOfNote 42 = .ok (.goto 26, 3) := by decide +kernel
theorem dX8_storeOfNote_45 : decode cX8_storeOfNote 45 = .ok (.aload_n 0, 1) := by decide +kernel
theorem dX8_storeOfNote_46 : decode cX8_storeOfNote 46 = .ok (.getfield 12, 3) := by decide +kernel
theorem dX8_storeOfNote_49 : decode cX8_storeOfNote 49 = .ok (.getfield 126, 3) := by decide +kernel
theorem dX8_storeOfNote_52 : decode cX8_storeOfNote 52 = .ok (.iload_n 1, 1) := by decide +kernel
theorem dX8_storeOfNote_53 : decode cX8_storeOfNote 53 = .ok (.iload_n 2, 1) := by decide +kernel
theorem dX8_storeOfNote_54 : decode cX8_storeOfNote 54 = .ok (.iastore, 1) := by decide +kernel
theorem dX8_storeOfNote_55 : decode cX8_storeOfNote 55 = .ok (.goto 13, 3) := by decide +kernel
theorem dX8_storeOfNote_58 : decode cX8_storeOfNote 58 = .ok (.aload_n 0, 1) := by decide +kernel
theorem dX8_storeOfNote_59 : decode cX8_storeOfNote 59 = .ok (.getfield 12, 3) := by decide +kernel
theorem dX8_storeOfNote_62 : decode cX8_storeOfNote 62 = .ok (.getfield 129, 3) := by decide +kernel
theorem dX8_storeOfNote_65 : decode cX8_storeOfNote 65 = .ok (.iload_n 1, 1) := by decide +kernel
theorem dX8_storeOfNote_66 : decode cX8_storeOfNote 66 = .ok (.iload_n 2, 1) := by decide +kernel
theorem dX8_storeOfNote_67 : decode cX8_storeOfNote 67 = .ok (.iastore, 1) := by decide +kernel
theorem dX8_storeOfNote_68 : decode cX8_storeOfNote 68 = .ok (.return_, 1) := by decide +kernel
theorem dX8_endsItem_0 : decode cX8_endsItem 0 = .ok (.aload_n 0, 1) := by decide +kernel
theorem dX8_endsItem_1 : decode cX8_endsItem 1 = .ok (.getfield 38, 3) := by decide +kernel
theorem dX8_endsItem_4 : decode cX8_endsItem 4 = .ok (.lookupswitch 76 #[(98, 68), (110, 52), (112, 36)], 36) := by decide +kernel
theorem dX8_endsItem_40 : decode cX8_endsItem 40 = .ok (.aload_n 0, 1) := by decide +kernel
theorem dX8_endsItem_41 : decode cX8_endsItem 41 = .ok (.getfield 12, 3) := by decide +kernel
theorem dX8_endsItem_44 : decode cX8_endsItem 44 = .ok (.dup, 1) := by decide +kernel
theorem dX8_endsItem_45 : decode cX8_endsItem 45 = .ok (.getfield 85, 3) := by decide +kernel
theorem dX8_endsItem_48 : decode cX8_endsItem 48 = .ok (.iconst 1, 1) := by decide +kernel
theorem dX8_endsItem_49 : decode cX8_endsItem 49 = .ok (.iadd, 1) := by decide +kernel
theorem dX8_endsItem_50 : decode cX8_endsItem 50 = .ok (.putfield 85, 3) := by decide +kernel
theorem dX8_endsItem_53 : decode cX8_endsItem 53 = .ok (.goto 32, 3) := by decide +kernel
theorem dX8_endsItem_56 : decode cX8_endsItem 56 = .ok (.aload_n 0, 1) := by decide +kernel
theorem dX8_endsItem_57 : decode cX8_endsItem 57 = .ok (.getfield 12, 3) := by decide +kernel
theorem dX8_endsItem_60 : decode cX8_endsItem 60 = .ok (.dup, 1) := by decide +kernel
theorem dX8_endsItem_61 : decode cX8_endsItem 61 = .ok (.getfield 88, 3) := by decide +kernel
theorem dX8_endsItem_64 : decode cX8_endsItem 64 = .ok (.iconst 1, 1) := by decide +kernel
theorem dX8_endsItem_65 : decode cX8_endsItem 65 = .ok (.iadd, 1) := by decide +kernel
theorem dX8_endsItem_66 : decode cX8_endsItem 66 = .ok (.putfield 88, 3) := by decide +kernel
theorem dX8_endsItem_69 : decode cX8_endsItem 69 = .ok (.goto 16, 3) := by decide +kernel
theorem dX8_endsItem_72 : decode cX8_endsItem 72 = .ok (.aload_n 0, 1) := by decide +kernel
theorem dX8_endsItem_73 : decode cX8_endsItem 73 = .ok (.iconst 1, 1) := by decide +kernel
theorem dX8_endsItem_74 : decode cX8_endsItem 74 = .ok (.putfield 50, 3) := by decide +kernel
theorem dX8_endsItem_77 : decode cX8_endsItem 77 = .ok (.goto 8, 3) := by decide +kernel
theorem dX8_endsItem_80 : decode cX8_endsItem 80 = .ok (.aload_n 0, 1) := by decide +kernel
theorem dX8_endsItem_81 : decode cX8_endsItem 81 = .ok (.iconst 1, 1) := by decide +kernel
theorem dX8_endsItem_82 : decode cX8_endsItem 82 = .ok (.putfield 54, 3) := by decide +kernel
theorem dX8_endsItem_85 : decode cX8_endsItem 85 = .ok (.aload_n 0, 1) := by decide +kernel
theorem dX8_endsItem_86 : decode cX8_endsItem 86 = .ok (.iconst 0, 1) := by decide +kernel
theorem dX8_endsItem_87 : decode cX8_endsItem 87 = .ok (.putfield 38, 3) := by decide +kernel
theorem dX8_endsItem_90 : decode cX8_endsItem 90 = .ok (.aload_n 0, 1) := by decide +kernel
theorem dX8_endsItem_91 : decode cX8_endsItem 91 = .ok (.dup, 1) := by decide +kernel
theorem dX8_endsItem_92 : decode cX8_endsItem 92 = .ok (.getfield 41, 3) := by decide +kernel
theorem dX8_endsItem_95 : decode cX8_endsItem 95 = .ok (.iconst 1, 1) := by decide +kernel
theorem dX8_endsItem_96 : decode cX8_endsItem 96 = .ok (.iadd, 1) := by decide +kernel
theorem dX8_endsItem_97 : decode cX8_endsItem 97 = .ok (.putfield 41, 3) := by decide +kernel
theorem dX8_endsItem_100 : decode cX8_endsItem 100 = .ok (.iconst 1, 1) := by decide +kernel
theorem dX8_endsItem_101 : decode cX8_endsItem 101 = .ok (.ireturn, 1) := by decide +kernel
theorem dX9_init_0 : decode cX9_init 0 = .ok (.aload_n 0, 1) := by decide +kernel
theorem dX9_init_1 : decode cX9_init 1 = .ok (.invokespecial 3, 3) := by decide +kernel
theorem dX9_init_4 : decode cX9_init 4 = .ok (.aload_n 0, 1) := by decide +kernel
theorem dX9_init_5 : decode cX9_init 5 = .ok (.sipush 150, 3) := by decide +kernel
theorem dX9_init_8 : decode cX9_init 8 = .ok (.newarray .int, 2) := by decide +kernel
theorem dX9_init_10 : decode cX9_init 10 = .ok (.putfield 9, 3) := by decide +kernel
theorem dX9_init_13 : decode cX9_init 13 = .ok (.return_, 1) := by decide +kernel
theorem dX9_add_0 : decode cX9_add 0 = .ok (.aload_n 0, 1) := by decide +kernel
theorem dX9_add_1 : decode cX9_add 1 = .ok (.getfield 15, 3) := by decide +kernel
theorem dX9_add_4 : decode cX9_add 4 = .ok (.sipush 150, 3) := by decide +kernel
theorem dX9_add_7 : decode cX9_add 7 = .ok (.if_icmp .lt 6, 3) := by decide +kernel
theorem dX9_add_10 : decode cX9_add 10 = .ok (.bipush (-3), 2) := by decide +kernel
theorem dX9_add_12 : decode cX9_add 12 = .ok (.ireturn, 1) := by decide +kernel
theorem dX9_add_13 : decode cX9_add 13 = .ok (.aload_n 0, 1) := by decide +kernel
theorem dX9_add_14 : decode cX9_add 14 = .ok (.getfield 9, 3) := by decide +kernel
theorem dX9_add_17 : decode cX9_add 17 = .ok (.aload_n 0, 1) := by decide +kernel
theorem dX9_add_18 : decode cX9_add 18 = .ok (.getfield 15, 3) := by decide +kernel
theorem dX9_add_21 : decode cX9_add 21 = .ok (.iload_n 1, 1) := by decide +kernel
theorem dX9_add_22 : decode cX9_add 22 = .ok (.iastore, 1) := by decide +kernel
theorem dX9_add_23 : decode cX9_add 23 = .ok (.aload_n 0, 1) := by decide +kernel
theorem dX9_add_24 : decode cX9_add 24 = .ok (.dup, 1) := by decide +kernel
theorem dX9_add_25 : decode cX9_add 25 = .ok (.getfield 15, 3) := by decide +kernel
theorem dX9_add_28 : decode cX9_add 28 = .ok (.iconst 1, 1) := by decide +kernel
theorem dX9_add_29 : decode cX9_add 29 = .ok (.iadd, 1) := by decide +kernel
theorem dX9_add_30 : decode cX9_add 30 = .ok (.putfield 15, 3) := by decide +kernel
theorem dX9_add_33 : decode cX9_add 33 = .ok (.aload_n 0, 1) := by decide +kernel
theorem dX9_add_34 : decode cX9_add 34 = .ok (.getfield 15, 3) := by decide +kernel
theorem dX9_add_37 : decode cX9_add 37 = .ok (.ireturn, 1) := by decide +kernel
theorem dX9_empty_0 : decode cX9_empty 0 = .ok (.aload_n 0, 1) := by decide +kernel
theorem dX9_empty_1 : decode cX9_empty 1 = .ok (.getfield 15, 3) := by decide +kernel
theorem dX9_empty_4 : decode cX9_empty 4 = .ok (.istore_n 1, 1) := by decide +kernel
theorem dX9_empty_5 : decode cX9_empty 5 = .ok (.aload_n 0, 1) := by decide +kernel
theorem dX9_empty_6 : decode cX9_empty 6 = .ok (.iconst 0, 1) := by decide +kernel
theorem dX9_empty_7 : decode cX9_empty 7 = .ok (.putfield 15, 3) := by decide +kernel
theorem dX9_empty_10 : decode cX9_empty 10 = .ok (.iload_n 1, 1) := by decide +kernel
theorem dX9_empty_11 : decode cX9_empty 11 = .ok (.ireturn, 1) := by decide +kernel
theorem dX9_hasDigit_0 : decode cX9_hasDigit 0 = .ok (.iload_n 1, 1) := by decide +kernel
theorem dX9_hasDigit_1 : decode cX9_hasDigit 1 = .ok (.ifCond .lt 37, 3) := by decide +kernel
theorem dX9_hasDigit_4 : decode cX9_hasDigit 4 = .ok (.iload_n 1, 1) := by decide +kernel
theorem dX9_hasDigit_5 : decode cX9_hasDigit 5 = .ok (.aload_n 0, 1) := by decide +kernel
theorem dX9_hasDigit_6 : decode cX9_hasDigit 6 = .ok (.getfield 15, 3) := by decide +kernel
theorem dX9_hasDigit_9 : decode cX9_hasDigit 9 = .ok (.if_icmp .ge 29, 3) := by decide +kernel
theorem dX9_hasDigit_12 : decode cX9_hasDigit 12 = .ok (.aload_n 0, 1) := by decide +kernel
theorem dX9_hasDigit_13 : decode cX9_hasDigit 13 = .ok (.getfield 9, 3) := by decide +kernel
theorem dX9_hasDigit_16 : decode cX9_hasDigit 16 = .ok (.iload_n 1, 1) := by decide +kernel
theorem dX9_hasDigit_17 : decode cX9_hasDigit 17 = .ok (.iaload, 1) := by decide +kernel
theorem dX9_hasDigit_18 : decode cX9_hasDigit 18 = .ok (.bipush 48, 2) := by decide +kernel
theorem dX9_hasDigit_20 : decode cX9_hasDigit 20 = .ok (.if_icmp .lt 18, 3) := by decide +kernel
theorem dX9_hasDigit_23 : decode cX9_hasDigit 23 = .ok (.aload_n 0, 1) := by decide +kernel
theorem dX9_hasDigit_24 : decode cX9_hasDigit 24 = .ok (.getfield 9, 3) := by decide +kernel
theorem dX9_hasDigit_27 : decode cX9_hasDigit 27 = .ok (.iload_n 1, 1) := by decide +kernel
theorem dX9_hasDigit_28 : decode cX9_hasDigit 28 = .ok (.iaload, 1) := by decide +kernel
theorem dX9_hasDigit_29 : decode cX9_hasDigit 29 = .ok (.bipush 57, 2) := by decide +kernel
theorem dX9_hasDigit_31 : decode cX9_hasDigit 31 = .ok (.if_icmp .gt 7, 3) := by decide +kernel
theorem dX9_hasDigit_34 : decode cX9_hasDigit 34 = .ok (.iconst 1, 1) := by decide +kernel
theorem dX9_hasDigit_35 : decode cX9_hasDigit 35 = .ok (.goto 4, 3) := by decide +kernel
theorem dX9_hasDigit_38 : decode cX9_hasDigit 38 = .ok (.iconst 0, 1) := by decide +kernel
theorem dX9_hasDigit_39 : decode cX9_hasDigit 39 = .ok (.ireturn, 1) := by decide +kernel
theorem dX10_init_0 : decode cX10_init 0 = .ok (.aload_n 0, 1) := by decide +kernel
theorem dX10_init_1 : decode cX10_init 1 = .ok (.invokespecial 1, 3) := by decide +kernel
theorem dX10_init_4 : decode cX10_init 4 = .ok (.aload_n 0, 1) := by decide +kernel
theorem dX10_init_5 : decode cX10_init 5 = .ok (.new 7, 3) := by decide +kernel
theorem dX10_init_8 : decode cX10_init 8 = .ok (.dup, 1) := by decide +kernel
theorem dX10_init_9 : decode cX10_init 9 = .ok (.invokespecial 9, 3) := by decide +kernel
theorem dX10_init_12 : decode cX10_init 12 = .ok (.putfield 10, 3) := by decide +kernel
theorem dX10_init_15 : decode cX10_init 15 = .ok (.aload_n 0, 1) := by decide +kernel
theorem dX10_init_16 : decode cX10_init 16 = .ok (.new 16, 3) := by decide +kernel
theorem dX10_init_19 : decode cX10_init 19 = .ok (.dup, 1) := by decide +kernel
theorem dX10_init_20 : decode cX10_init 20 = .ok (.aload_n 0, 1) := by decide +kernel
theorem dX10_init_21 : decode cX10_init 21 = .ok (.getfield 10, 3) := by decide +kernel
theorem dX10_init_24 : decode cX10_init 24 = .ok (.invokespecial 18, 3) := by decide +kernel
theorem dX10_init_27 : decode cX10_init 27 = .ok (.putfield 21, 3) := by decide +kernel
theorem dX10_init_30 : decode cX10_init 30 = .ok (.aload_n 0, 1) := by decide +kernel
theorem dX10_init_31 : decode cX10_init 31 = .ok (.new 25, 3) := by decide +kernel
theorem dX10_init_34 : decode cX10_init 34 = .ok (.dup, 1) := by decide +kernel
theorem dX10_init_35 : decode cX10_init 35 = .ok (.invokespecial 27, 3) := by decide +kernel
theorem dX10_init_38 : decode cX10_init 38 = .ok (.putfield 28, 3) := by decide +kernel
theorem dX10_init_41 : decode cX10_init 41 = .ok (.aload_n 0, 1) := by decide +kernel
theorem dX10_init_42 : decode cX10_init 42 = .ok (.new 32, 3) := by decide +kernel
theorem dX10_init_45 : decode cX10_init 45 = .ok (.dup, 1) := by decide +kernel
theorem dX10_init_46 : decode cX10_init 46 = .ok (.invokespecial 34, 3) := by decide +kernel
theorem dX10_init_49 : decode cX10_init 49 = .ok (.putfield 35, 3) := by decide +kernel
theorem dX10_init_52 : decode cX10_init 52 = .ok (.aload_n 0, 1) := by decide +kernel
theorem dX10_init_53 : decode cX10_init 53 = .ok (.new 39, 3) := by decide +kernel
theorem dX10_init_56 : decode cX10_init 56 = .ok (.dup, 1) := by decide +kernel
theorem dX10_init_57 : decode cX10_init 57 = .ok (.invokespecial 41, 3) := by decide +kernel
theorem dX10_init_60 : decode cX10_init 60 = .ok (.putfield 42, 3) := by decide +kernel
theorem dX10_init_63 : decode cX10_init 63 = .ok (.aload_n 0, 1) := by decide +kernel
theorem dX10_init_64 : decode cX10_init 64 = .ok (.new 46, 3) := by decide +kernel
theorem dX10_init_67 : decode cX10_init 67 = .ok (.dup, 1) := by decide +kernel
theorem dX10_init_68 : decode cX10_init 68 = .ok (.invokespecial 48, 3) := by decide +kernel
theorem dX10_init_71 : decode cX10_init 71 = .ok (.putfield 49, 3) := by decide +kernel
theorem dX10_init_74 : decode cX10_init 74 = .ok (.aload_n 0, 1) := by decide +kernel
theorem dX10_init_75 : decode cX10_init 75 = .ok (.new 53, 3) := by decide +kernel
theorem dX10_init_78 : decode cX10_init 78 = .ok (.dup, 1) := by decide +kernel
theorem dX10_init_79 : decode cX10_init 79 = .ok (.aload_n 0, 1) := by decide +kernel
theorem dX10_init_80 : decode cX10_init 80 = .ok (.getfield 28, 3) := by decide +kernel
theorem dX10_init_83 : decode cX10_init 83 = .ok (.aload_n 0, 1) := by decide +kernel
theorem dX10_init_84 : decode cX10_init 84 = .ok (.getfield 35, 3) := by decide +kernel
theorem dX10_init_87 : decode cX10_init 87 = .ok (.invokespecial 55, 3) := by decide +kernel
theorem dX10_init_90 : decode cX10_init 90 = .ok (.putfield 58, 3) := by decide +kernel
theorem dX10_init_93 : decode cX10_init 93 = .ok (.aload_n 0, 1) := by decide +kernel
theorem dX10_init_94 : decode cX10_init 94 = .ok (.new 62, 3) := by decide +kernel
theorem dX10_init_97 : decode cX10_init 97 = .ok (.dup, 1) := by decide +kernel
theorem dX10_init_98 : decode cX10_init 98 = .ok (.aload_n 0, 1) := by decide +kernel
theorem dX10_init_99 : decode cX10_init 99 = .ok (.getfield 28, 3) := by decide +kernel
theorem dX10_init_102 : decode cX10_init 102 = .ok (.aload_n 0, 1) := by decide +kernel
theorem dX10_init_103 : decode cX10_init 103 = .ok (.getfield 35, 3) := by decide +kernel
theorem dX10_init_106 : decode cX10_init 106 = .ok (.invokespecial 64, 3) := by decide +kernel
theorem dX10_init_109 : decode cX10_init 109 = .ok (.putfield 65, 3) := by decide +kernel
theorem dX10_init_112 : decode cX10_init 112 = .ok (.aload_n 0, 1) := by decide +kernel
theorem dX10_init_113 : decode cX10_init 113 = .ok (.new 69, 3) := by decide +kernel
theorem dX10_init_116 : decode cX10_init 116 = .ok (.dup, 1) := by decide +kernel
theorem dX10_init_117 : decode cX10_init 117 = .ok (.aload_n 0, 1) := by decide +kernel
theorem dX10_init_118 : decode cX10_init 118 = .ok (.getfield 28, 3) := by decide +kernel
theorem dX10_init_121 : decode cX10_init 121 = .ok (.aload_n 0, 1) := by decide +kernel
theorem dX10_init_122 : decode cX10_init 122 = .ok (.getfield 35, 3) := by decide +kernel
theorem dX10_init_125 : decode cX10_init 125 = .ok (.invokespecial 71, 3) := by decide +kernel
theorem dX10_init_128 : decode cX10_init 128 = .ok (.putfield 72, 3) := by decide +kernel
theorem dX10_init_131 : decode cX10_init 131 = .ok (.aload_n 0, 1) := by decide +kernel
theorem dX10_init_132 : decode cX10_init 132 = .ok (.new 76, 3) := by decide +kernel
theorem dX10_init_135 : decode cX10_init 135 = .ok (.dup, 1) := by decide +kernel
theorem dX10_init_136 : decode cX10_init 136 = .ok (.aload_n 0, 1) := by decide +kernel
theorem dX10_init_137 : decode cX10_init 137 = .ok (.getfield 28, 3) := by decide +kernel
theorem dX10_init_140 : decode cX10_init 140 = .ok (.aload_n 0, 1) := by decide +kernel
theorem dX10_init_141 : decode cX10_init 141 = .ok (.getfield 35, 3) := by decide +kernel
theorem dX10_init_144 : decode cX10_init 144 = .ok (.invokespecial 78, 3) := by decide +kernel
theorem dX10_init_147 : decode cX10_init 147 = .ok (.putfield 79, 3) := by decide +kernel
theorem dX10_init_150 : decode cX10_init 150 = .ok (.return_, 1) := by decide +kernel
theorem dX10_type_0 : decode cX10_type 0 = .ok (.iload_n 1, 1) := by decide +kernel
theorem dX10_type_1 : decode cX10_type 1 = .ok (.ifCond .lt 10, 3) := by decide +kernel
theorem dX10_type_4 : decode cX10_type 4 = .ok (.iload_n 1, 1) := by decide +kernel
theorem dX10_type_5 : decode cX10_type 5 = .ok (.sipush 255, 3) := by decide +kernel
theorem dX10_type_8 : decode cX10_type 8 = .ok (.if_icmp .le 5, 3) := by decide +kernel
theorem dX10_type_11 : decode cX10_type 11 = .ok (.iconst (-1), 1) := by decide +kernel
theorem dX10_type_12 : decode cX10_type 12 = .ok (.ireturn, 1) := by decide +kernel
theorem dX10_type_13 : decode cX10_type 13 = .ok (.aload_n 0, 1) := by decide +kernel
theorem dX10_type_14 : decode cX10_type 14 = .ok (.getfield 10, 3) := by decide +kernel
theorem dX10_type_17 : decode cX10_type 17 = .ok (.iload_n 1, 1) := by decide +kernel
theorem dX10_type_18 : decode cX10_type 18 = .ok (.invokevirtual 83, 3) := by decide +kernel
theorem dX10_type_21 : decode cX10_type 21 = .ok (.ireturn, 1) := by decide +kernel
theorem dX10_clear_0 : decode cX10_clear 0 = .ok (.aload_n 0, 1) := by decide +kernel
theorem dX10_clear_1 : decode cX10_clear 1 = .ok (.getfield 10, 3) := by decide +kernel
theorem dX10_clear_4 : decode cX10_clear 4 = .ok (.invokevirtual 87, 3) := by decide +kernel
theorem dX10_clear_7 : decode cX10_clear 7 = .ok (.ireturn, 1) := by decide +kernel
theorem dX10_country_0 : decode cX10_country 0 = .ok (.aload_n 0, 1) := by decide +kernel
theorem dX10_country_1 : decode cX10_country 1 = .ok (.getfield 21, 3) := by decide +kernel
theorem dX10_country_4 : decode cX10_country 4 = .ok (.invokevirtual 91, 3) := by decide +kernel
theorem dX10_country_7 : decode cX10_country 7 = .ok (.istore_n 1, 1) := by decide +kernel
theorem dX10_country_8 : decode cX10_country 8 = .ok (.iload_n 1, 1) := by decide +kernel
theorem dX10_country_9 : decode cX10_country 9 = .ok (.ifCond .ge 5, 3) := by decide +kernel
theorem dX10_country_12 : decode cX10_country 12 = .ok (.iload_n 1, 1) := by decide +kernel
theorem dX10_country_13 : decode cX10_country 13 = .ok (.ireturn, 1) := by decide +kernel
theorem dX10_country_14 : decode cX10_country 14 = .ok (.aload_n 0, 1) := by decide +kernel
theorem dX10_country_15 : decode cX10_country 15 = .ok (.getfield 28, 3) := by decide +kernel
theorem dX10_country_18 : decode cX10_country 18 = .ok (.aload_n 0, 1) := by decide +kernel
theorem dX10_country_19 : decode cX10_country 19 = .ok (.getfield 21, 3) := by decide +kernel
theorem dX10_country_22 : decode cX10_country 22 = .ok (.getfield 94, 3) := by decide +kernel
theorem dX10_country_25 : decode cX10_country 25 = .ok (.invokevirtual 97, 3) := by decide +kernel
theorem dX10_country_28 : decode cX10_country 28 = .ok (.aload_n 0, 1) := by decide +kernel
theorem dX10_country_29 : decode cX10_country 29 = .ok (.getfield 35, 3) := by decide +kernel
theorem dX10_country_32 : decode cX10_country 32 = .ok (.aload_n 0, 1) := by decide +kernel
theorem dX10_country_33 : decode cX10_country 33 = .ok (.getfield 28, 3) := by decide +kernel
theorem dX10_country_36 : decode cX10_country 36 = .ok (.invokevirtual 101, 3) := by decide +kernel
theorem dX10_country_39 : decode cX10_country 39 = .ok (.aload_n 0, 1) := by decide +kernel
theorem dX10_country_40 : decode cX10_country 40 = .ok (.getfield 42, 3) := by decide +kernel
theorem dX10_country_43 : decode cX10_country 43 = .ok (.invokevirtual 104, 3) := by decide +kernel
theorem dX10_country_46 : decode cX10_country 46 = .ok (.aload_n 0, 1) := by decide +kernel
theorem dX10_country_47 : decode cX10_country 47 = .ok (.getfield 49, 3) := by decide +kernel
theorem dX10_country_50 : decode cX10_country 50 = .ok (.invokevirtual 106, 3) := by decide +kernel
theorem dX10_country_53 : decode cX10_country 53 = .ok (.aload_n 0, 1) := by decide +kernel
theorem dX10_country_54 : decode cX10_country 54 = .ok (.getfield 65, 3) := by decide +kernel
theorem dX10_country_57 : decode cX10_country 57 = .ok (.invokevirtual 107, 3) := by decide +kernel
theorem dX10_country_60 : decode cX10_country 60 = .ok (.aload_n 0, 1) := by decide +kernel
theorem dX10_country_61 : decode cX10_country 61 = .ok (.getfield 72, 3) := by decide +kernel
theorem dX10_country_64 : decode cX10_country 64 = .ok (.invokevirtual 108, 3) := by decide +kernel
theorem dX10_country_67 : decode cX10_country 67 = .ok (.aload_n 0, 1) := by decide +kernel
theorem dX10_country_68 : decode cX10_country 68 = .ok (.getfield 10, 3) := by decide +kernel
theorem dX10_country_71 : decode cX10_country 71 = .ok (.invokevirtual 87, 3) := by decide +kernel
theorem dX10_country_74 : decode cX10_country 74 = .ok (.pop, 1) := by decide +kernel
theorem dX10_country_75 : decode cX10_country 75 = .ok (.iload_n 1, 1) := by decide +kernel
theorem dX10_country_76 : decode cX10_country 76 = .ok (.ireturn, 1) := by decide +kernel
theorem dX10_note_0 : decode cX10_note 0 = .ok (.aload_n 0, 1) := by decide +kernel
theorem dX10_note_1 : decode cX10_note 1 = .ok (.getfield 28, 3) := by decide +kernel
theorem dX10_note_4 : decode cX10_note 4 = .ok (.iload_n 1, 1) := by decide +kernel
theorem dX10_note_5 : decode cX10_note 5 = .ok (.invokevirtual 109, 3) := by decide +kernel
theorem dX10_note_8 : decode cX10_note 8 = .ok (.ifCond .ne 5, 3) := by decide +kernel
theorem dX10_note_11 : decode cX10_note 11 = .ok (.iconst (-1), 1) := by decide +kernel
theorem dX10_note_12 : decode cX10_note 12 = .ok (.ireturn, 1) := by decide +kernel
theorem dX10_note_13 : decode cX10_note 13 = .ok (.iload_n 2, 1) := by decide +kernel
theorem dX10_note_14 : decode cX10_note 14 = .ok (.tableswitch 123 0 6 #[42, 52, 62, 71, 80, 97, 114], 42) := by decide +kernel
theorem dX10_note_56 : decode cX10_note 56 = .ok (.aload_n 0, 1) := by decide +kernel
theorem dX10_note_57 : decode cX10_note 57 = .ok (.getfield 28, 3) := by decide +kernel
theorem dX10_note_60 : decode cX10_note 60 = .ok (.getfield 113, 3) := by decide +kernel
theorem dX10_note_63 : decode cX10_note 63 = .ok (.iload_n 1, 1) := by decide +kernel
theorem dX10_note_64 : decode cX10_note 64 = .ok (.iaload, 1) := by decide +kernel
theorem dX10_note_65 : decode cX10_note 65 = .ok (.ireturn, 1) := by decide +kernel
theorem dX10_note_66 : decode cX10_note 66 = .ok (.aload_n 0, 1) := by decide +kernel
theorem dX10_note_67 : decode cX10_note 67 = .ok (.getfield 28, 3) := by decide +kernel
theorem dX10_note_70 : decode cX10_note 70 = .ok (.getfield 117, 3) := by decide +kernel
theorem dX10_note_73 : decode cX10_note 73 = .ok (.iload_n 1, 1) := by decide +kernel
theorem dX10_note_74 : decode cX10_note 74 = .ok (.iaload, 1) := by decide +kernel
theorem dX10_note_75 : decode cX10_note 75 = .ok (.ireturn, 1) := by decide +kernel
theorem dX10_note_76 : decode cX10_note 76 = .ok (.aload_n 0, 1) := by decide +kernel
theorem dX10_note_77 : decode cX10_note 77 = .ok (.getfield 35, 3) := by decide +kernel
theorem dX10_note_80 : decode cX10_note 80 = .ok (.iload_n 1, 1) := by decide +kernel
theorem dX10_note_81 : decode cX10_note 81 = .ok (.invokevirtual 119, 3) := by decide +kernel
theorem dX10_note_84 : decode cX10_note 84 = .ok (.ireturn, 1) := by decide +kernel
theorem dX10_note_85 : decode cX10_note 85 = .ok (.aload_n 0, 1) := by decide +kernel
theorem dX10_note_86 : decode cX10_note 86 = .ok (.getfield 35, 3) := by decide +kernel
theorem dX10_note_89 : decode cX10_note 89 = .ok (.iload_n 1, 1) := by decide +kernel
theorem dX10_note_90 : decode cX10_note 90 = .ok (.invokevirtual 122, 3) := by decide +kernel
theorem dX10_note_93 : decode cX10_note 93 = .ok (.ireturn, 1) := by decide +kernel
theorem dX10_note_94 : decode cX10_note 94 = .ok (.aload_n 0, 1) := by decide +kernel
theorem dX10_note_95 : decode cX10_note 95 = .ok (.getfield 35, 3) := by decide +kernel
theorem dX10_note_98 : decode cX10_note 98 = .ok (.iload_n 1, 1) := by decide +kernel
theorem dX10_note_99 : decode cX10_note 99 = .ok (.invokevirtual 125, 3) := by decide +kernel
theorem dX10_note_102 : decode cX10_note 102 = .ok (.ifCond .eq 7, 3) := by decide +kernel
theorem dX10_note_105 : decode cX10_note 105 = .ok (.iconst 1, 1) := by decide +kernel
theorem dX10_note_106 : decode cX10_note 106 = .ok (.goto 4, 3) := by decide +kernel
theorem dX10_note_109 : decode cX10_note 109 = .ok (.iconst 0, 1) := by decide +kernel
theorem dX10_note_110 : decode cX10_note 110 = .ok (.ireturn, 1) := by decide +kernel
theorem dX10_note_111 : decode cX10_note 111 = .ok (.aload_n 0, 1) := by decide +kernel
theorem dX10_note_112 : decode cX10_note 112 = .ok (.getfield 35, 3) := by decide +kernel
theorem dX10_note_115 : decode cX10_note 115 = .ok (.iload_n 1, 1) := by decide +kernel
theorem dX10_note_116 : decode cX10_note 116 = .ok (.invokevirtual 128, 3) := by decide +kernel
theorem dX10_note_119 : decode cX10_note 119 = .ok (.ifCond .eq 7, 3) := by decide +kernel
theorem dX10_note_122 : decode cX10_note 122 = .ok (.iconst 1, 1) := by decide +kernel
theorem dX10_note_123 : decode cX10_note 123 = .ok (.goto 4, 3) := by decide +kernel
theorem dX10_note_126 : decode cX10_note 126 = .ok (.iconst 0, 1) := by decide +kernel
theorem dX10_note_127 : decode cX10_note 127 = .ok (.ireturn, 1) := by decide +kernel
theorem dX10_note_128 : decode cX10_note 128 = .ok (.aload_n 0, 1) := by decide +kernel
theorem dX10_note_129 : decode cX10_note 129 = .ok (.getfield 58, 3) := by decide +kernel
theorem dX10_note_132 : decode cX10_note 132 = .ok (.iload_n 1, 1) := by decide +kernel
theorem dX10_note_133 : decode cX10_note 133 = .ok (.invokevirtual 131, 3) := by decide +kernel
theorem dX10_note_136 : decode cX10_note 136 = .ok (.ireturn, 1) := by decide +kernel
theorem dX10_note_137 : decode cX10_note 137 = .ok (.iconst (-1), 1) := by decide +kernel
theorem dX10_note_138 : decode cX10_note 138 = .ok (.ireturn, 1) := by decide +kernel
theorem dX10_person_0 : decode cX10_person 0 = .ok (.aload_n 0, 1) := by decide +kernel
theorem dX10_person_1 : decode cX10_person 1 = .ok (.getfield 28, 3) := by decide +kernel
theorem dX10_person_4 : decode cX10_person 4 = .ok (.iload_n 1, 1) := by decide +kernel
theorem dX10_person_5 : decode cX10_person 5 = .ok (.invokevirtual 134, 3) := by decide +kernel
theorem dX10_person_8 : decode cX10_person 8 = .ok (.ifCond .ne 5, 3) := by decide +kernel
theorem dX10_person_11 : decode cX10_person 11 = .ok (.iconst (-1), 1) := by decide +kernel
theorem dX10_person_12 : decode cX10_person 12 = .ok (.ireturn, 1) := by decide +kernel
theorem dX10_person_13 : decode cX10_person 13 = .ok (.iload_n 2, 1) := by decide +kernel
theorem dX10_person_14 : decode cX10_person 14 = .ok (.lookupswitch 41 #[(0, 26), (1, 35)], 26) := by decide +kernel
theorem dX10_person_40 : decode cX10_person 40 = .ok (.aload_n 0, 1) := by decide +kernel
theorem dX10_person_41 : decode cX10_person 41 = .ok (.getfield 35, 3) := by decide +kernel
theorem dX10_person_44 : decode cX10_person 44 = .ok (.iload_n 1, 1) := by decide +kernel
theorem dX10_person_45 : decode cX10_person 45 = .ok (.invokevirtual 137, 3) := by decide +kernel
theorem dX10_person_48 : decode cX10_person 48 = .ok (.ireturn, 1) := by decide +kernel
theorem dX10_person_49 : decode cX10_person 49 = .ok (.aload_n 0, 1) := by decide +kernel
theorem dX10_person_50 : decode cX10_person 50 = .ok (.iload_n 1, 1) := by decide +kernel
theorem dX10_person_51 : decode cX10_person 51 = .ok (.invokevirtual 140, 3) := by decide +kernel
theorem dX10_person_54 : decode cX10_person 54 = .ok (.ireturn, 1) := by decide +kernel
theorem dX10_person_55 : decode cX10_person 55 = .ok (.iconst (-1), 1) := by decide +kernel
theorem dX10_person_56 : decode cX10_person 56 = .ok (.ireturn, 1) := by decide +kernel
theorem dX10_now_0 : decode cX10_now 0 = .ok (.iload_n 1, 1) := by decide +kernel
theorem dX10_now_1 : decode cX10_now 1 = .ok (.tableswitch 87 0 5 #[39, 47, 55, 63, 71, 79], 39) := by decide +kernel
theorem dX10_now_40 : decode cX10_now 40 = .ok (.aload_n 0, 1) := by decide +kernel
theorem dX10_now_41 : decode cX10_now 41 = .ok (.getfield 35, 3) := by decide +kernel
theorem dX10_now_44 : decode cX10_now 44 = .ok (.invokevirtual 143, 3) := by decide +kernel
theorem dX10_now_47 : decode cX10_now 47 = .ok (.ireturn, 1) := by decide +kernel
theorem dX10_now_48 : decode cX10_now 48 = .ok (.aload_n 0, 1) := by decide +kernel
theorem dX10_now_49 : decode cX10_now 49 = .ok (.getfield 35, 3) := by decide +kernel
theorem dX10_now_52 : decode cX10_now 52 = .ok (.invokevirtual 146, 3) := by decide +kernel
theorem dX10_now_55 : decode cX10_now 55 = .ok (.ireturn, 1) := by decide +kernel
theorem dX10_now_56 : decode cX10_now 56 = .ok (.aload_n 0, 1) := by decide +kernel
theorem dX10_now_57 : decode cX10_now 57 = .ok (.getfield 35, 3) := by decide +kernel
theorem dX10_now_60 : decode cX10_now 60 = .ok (.invokevirtual 149, 3) := by decide +kernel
theorem dX10_now_63 : decode cX10_now 63 = .ok (.ireturn, 1) := by decide +kernel
theorem dX10_now_64 : decode cX10_now 64 = .ok (.aload_n 0, 1) := by decide +kernel
theorem dX10_now_65 : decode cX10_now 65 = .ok (.getfield 72, 3) := by decide +kernel
theorem dX10_now_68 : decode cX10_now 68 = .ok (.invokevirtual 152, 3) := by decide +kernel
theorem dX10_now_71 : decode cX10_now 71 = .ok (.ireturn, 1) := by decide +kernel
theorem dX10_now_72 : decode cX10_now 72 = .ok (.aload_n 0, 1) := by decide +kernel
theorem dX10_now_73 : decode cX10_now 73 = .ok (.getfield 72, 3) := by decide +kernel
theorem dX10_now_76 : decode cX10_now 76 = .ok (.invokevirtual 155, 3) := by decide +kernel
theorem dX10_now_79 : decode cX10_now 79 = .ok (.ireturn, 1) := by decide +kernel
theorem dX10_now_80 : decode cX10_now 80 = .ok (.aload_n 0, 1) := by decide +kernel
theorem dX10_now_81 : decode cX10_now 81 = .ok (.getfield 42, 3) := by decide +kernel
theorem dX10_now_84 : decode cX10_now 84 = .ok (.getfield 158, 3) := by decide +kernel
theorem dX10_now_87 : decode cX10_now 87 = .ok (.ireturn, 1) := by decide +kernel
theorem dX10_now_88 : decode cX10_now 88 = .ok (.iconst (-1), 1) := by decide +kernel
theorem dX10_now_89 : decode cX10_now 89 = .ok (.ireturn, 1) := by decide +kernel
theorem dX10_passes_0 : decode cX10_passes 0 = .ok (.aload_n 0, 1) := by decide +kernel
theorem dX10_passes_1 : decode cX10_passes 1 = .ok (.getfield 28, 3) := by decide +kernel
theorem dX10_passes_4 : decode cX10_passes 4 = .ok (.iload_n 1, 1) := by decide +kernel
theorem dX10_passes_5 : decode cX10_passes 5 = .ok (.invokevirtual 109, 3) := by decide +kernel
theorem dX10_passes_8 : decode cX10_passes 8 = .ok (.ifCond .eq 14, 3) := by decide +kernel
theorem dX10_passes_11 : decode cX10_passes 11 = .ok (.aload_n 0, 1) := by decide +kernel
theorem dX10_passes_12 : decode cX10_passes 12 = .ok (.getfield 28, 3) := by decide +kernel
theorem dX10_passes_15 : decode cX10_passes 15 = .ok (.iload_n 2, 1) := by decide +kernel
theorem dX10_passes_16 : decode cX10_passes 16 = .ok (.invokevirtual 134, 3) := by decide +kernel
theorem dX10_passes_19 : decode cX10_passes 19 = .ok (.ifCond .ne 5, 3) := by decide +kernel
theorem dX10_passes_22 : decode cX10_passes 22 = .ok (.iconst (-1), 1) := by decide +kernel
theorem dX10_passes_23 : decode cX10_passes 23 = .ok (.ireturn, 1) := by decide +kernel
theorem dX10_passes_24 : decode cX10_passes 24 = .ok (.aload_n 0, 1) := by decide +kernel
theorem dX10_passes_25 : decode cX10_passes 25 = .ok (.getfield 35, 3) := by decide +kernel
theorem dX10_passes_28 : decode cX10_passes 28 = .ok (.iload_n 1, 1) := by decide +kernel
theorem dX10_passes_29 : decode cX10_passes 29 = .ok (.invokevirtual 128, 3) := by decide +kernel
theorem dX10_passes_32 : decode cX10_passes 32 = .ok (.ifCond .ne 15, 3) := by decide +kernel
theorem dX10_passes_35 : decode cX10_passes 35 = .ok (.aload_n 0, 1) := by decide +kernel
theorem dX10_passes_36 : decode cX10_passes 36 = .ok (.getfield 35, 3) := by decide +kernel
theorem dX10_passes_39 : decode cX10_passes 39 = .ok (.iload_n 1, 1) := by decide +kernel
theorem dX10_passes_40 : decode cX10_passes 40 = .ok (.invokevirtual 119, 3) := by decide +kernel
theorem dX10_passes_43 : decode cX10_passes 43 = .ok (.iload_n 2, 1) := by decide +kernel
theorem dX10_passes_44 : decode cX10_passes 44 = .ok (.if_icmp .ne 6, 3) := by decide +kernel
theorem dX10_passes_47 : decode cX10_passes 47 = .ok (.bipush (-2), 2) := by decide +kernel
theorem dX10_passes_49 : decode cX10_passes 49 = .ok (.ireturn, 1) := by decide +kernel
theorem dX10_passes_50 : decode cX10_passes 50 = .ok (.aload_n 0, 1) := by decide +kernel
theorem dX10_passes_51 : decode cX10_passes 51 = .ok (.getfield 35, 3) := by decide +kernel
theorem dX10_passes_54 : decode cX10_passes 54 = .ok (.iload_n 1, 1) := by decide +kernel
theorem dX10_passes_55 : decode cX10_passes 55 = .ok (.invokevirtual 122, 3) := by decide +kernel
theorem dX10_passes_58 : decode cX10_passes 58 = .ok (.sipush 999, 3) := by decide +kernel
theorem dX10_passes_61 : decode cX10_passes 61 = .ok (.if_icmp .ge 16, 3) := by decide +kernel
theorem dX10_passes_64 : decode cX10_passes 64 = .ok (.aload_n 0, 1) := by decide +kernel
theorem dX10_passes_65 : decode cX10_passes 65 = .ok (.getfield 35, 3) := by decide +kernel
theorem dX10_passes_68 : decode cX10_passes 68 = .ok (.invokevirtual 149, 3) := by decide +kernel
theorem dX10_passes_71 : decode cX10_passes 71 = .ok (.sipush 999, 3) := by decide +kernel
theorem dX10_passes_74 : decode cX10_passes 74 = .ok (.if_icmp .lt 6, 3) := by decide +kernel
theorem dX10_passes_77 : decode cX10_passes 77 = .ok (.bipush (-2), 2) := by decide +kernel
theorem dX10_passes_79 : decode cX10_passes 79 = .ok (.ireturn, 1) := by decide +kernel
theorem dX10_passes_80 : decode cX10_passes 80 = .ok (.aload_n 0, 1) := by decide +kernel
theorem dX10_passes_81 : decode cX10_passes 81 = .ok (.getfield 42, 3) := by decide +kernel
theorem dX10_passes_84 : decode cX10_passes 84 = .ok (.aload_n 0, 1) := by decide +kernel
theorem dX10_passes_85 : decode cX10_passes 85 = .ok (.getfield 35, 3) := by decide +kernel
theorem dX10_passes_88 : decode cX10_passes 88 = .ok (.invokevirtual 162, 3) := by decide +kernel
theorem dX10_passes_91 : decode cX10_passes 91 = .ok (.aload_n 0, 1) := by decide +kernel
theorem dX10_passes_92 : decode cX10_passes 92 = .ok (.getfield 58, 3) := by decide +kernel
theorem dX10_passes_95 : decode cX10_passes 95 = .ok (.iload_n 1, 1) := by decide +kernel
theorem dX10_passes_96 : decode cX10_passes 96 = .ok (.iload_n 2, 1) := by decide +kernel
theorem dX10_passes_97 : decode cX10_passes 97 = .ok (.invokevirtual 166, 3) := by decide +kernel
theorem dX10_passes_100 : decode cX10_passes 100 = .ok (.ifCond .ne 13, 3) := by decide +kernel
theorem dX10_passes_103 : decode cX10_passes 103 = .ok (.aload_n 0, 1) := by decide +kernel
theorem dX10_passes_104 : decode cX10_passes 104 = .ok (.getfield 35, 3) := by decide +kernel
theorem dX10_passes_107 : decode cX10_passes 107 = .ok (.iload_n 1, 1) := by decide +kernel
theorem dX10_passes_108 : decode cX10_passes 108 = .ok (.invokevirtual 170, 3) := by decide +kernel
theorem dX10_passes_111 : decode cX10_passes 111 = .ok (.iconst 0, 1) := by decide +kernel
theorem dX10_passes_112 : decode cX10_passes 112 = .ok (.ireturn, 1) := by decide +kernel
theorem dX10_passes_113 : decode cX10_passes 113 = .ok (.aload_n 0, 1) := by decide +kernel
theorem dX10_passes_114 : decode cX10_passes 114 = .ok (.getfield 35, 3) := by decide +kernel
theorem dX10_passes_117 : decode cX10_passes 117 = .ok (.iload_n 1, 1) := by decide +kernel
theorem dX10_passes_118 : decode cX10_passes 118 = .ok (.iload_n 2, 1) := by decide +kernel
theorem dX10_passes_119 : decode cX10_passes 119 = .ok (.invokevirtual 174, 3) := by decide +kernel
theorem dX10_passes_122 : decode cX10_passes 122 = .ok (.aload_n 0, 1) := by decide +kernel
theorem dX10_passes_123 : decode cX10_passes 123 = .ok (.getfield 28, 3) := by decide +kernel
theorem dX10_passes_126 : decode cX10_passes 126 = .ok (.iload_n 1, 1) := by decide +kernel
theorem dX10_passes_127 : decode cX10_passes 127 = .ok (.invokevirtual 178, 3) := by decide +kernel
theorem dX10_passes_130 : decode cX10_passes 130 = .ok (.ifCond .eq 29, 3) := by decide +kernel
theorem dX10_passes_133 : decode cX10_passes 133 = .ok (.aload_n 0, 1) := by decide +kernel
theorem dX10_passes_134 : decode cX10_passes 134 = .ok (.getfield 35, 3) := by decide +kernel
theorem dX10_passes_137 : decode cX10_passes 137 = .ok (.iload_n 1, 1) := by decide +kernel
theorem dX10_passes_138 : decode cX10_passes 138 = .ok (.invokevirtual 122, 3) := by decide +kernel
theorem dX10_passes_141 : decode cX10_passes 141 = .ok (.aload_n 0, 1) := by decide +kernel
theorem dX10_passes_142 : decode cX10_passes 142 = .ok (.getfield 28, 3) := by decide +kernel
theorem dX10_passes_145 : decode cX10_passes 145 = .ok (.getfield 181, 3) := by decide +kernel
theorem dX10_passes_148 : decode cX10_passes 148 = .ok (.if_icmp .lt 11, 3) := by decide +kernel
theorem dX10_passes_151 : decode cX10_passes 151 = .ok (.aload_n 0, 1) := by decide +kernel
theorem dX10_passes_152 : decode cX10_passes 152 = .ok (.getfield 35, 3) := by decide +kernel
theorem dX10_passes_155 : decode cX10_passes 155 = .ok (.iload_n 1, 1) := by decide +kernel
theorem dX10_passes_156 : decode cX10_passes 156 = .ok (.invokevirtual 183, 3) := by decide +kernel
theorem dX10_passes_159 : decode cX10_passes 159 = .ok (.iconst 1, 1) := by decide +kernel
theorem dX10_passes_160 : decode cX10_passes 160 = .ok (.ireturn, 1) := by decide +kernel
theorem dX10_teaches_0 : decode cX10_teaches 0 = .ok (.aload_n 0, 1) := by decide +kernel
theorem dX10_teaches_1 : decode cX10_teaches 1 = .ok (.getfield 28, 3) := by decide +kernel
theorem dX10_teaches_4 : decode cX10_teaches 4 = .ok (.iload_n 1, 1) := by decide +kernel
theorem dX10_teaches_5 : decode cX10_teaches 5 = .ok (.invokevirtual 134, 3) := by decide +kernel
theorem dX10_teaches_8 : decode cX10_teaches 8 = .ok (.ifCond .eq 13, 3) := by decide +kernel
theorem dX10_teaches_11 : decode cX10_teaches 11 = .ok (.iload_n 2, 1) := by decide +kernel
theorem dX10_teaches_12 : decode cX10_teaches 12 = .ok (.ifCond .lt 9, 3) := by decide +kernel
theorem dX10_teaches_15 : decode cX10_teaches 15 = .ok (.iload_n 2, 1) := by decide +kernel
theorem dX10_teaches_16 : decode cX10_teaches 16 = .ok (.bipush 31, 2) := by decide +kernel
theorem dX10_teaches_18 : decode cX10_teaches 18 = .ok (.if_icmp .le 5, 3) := by decide +kernel
theorem dX10_teaches_21 : decode cX10_teaches 21 = .ok (.iconst (-1), 1) := by decide +kernel
theorem dX10_teaches_22 : decode cX10_teaches 22 = .ok (.ireturn, 1) := by decide +kernel
theorem dX10_teaches_23 : decode cX10_teaches 23 = .ok (.aload_n 0, 1) := by decide +kernel
theorem dX10_teaches_24 : decode cX10_teaches 24 = .ok (.getfield 35, 3) := by decide +kernel
theorem dX10_teaches_27 : decode cX10_teaches 27 = .ok (.iload_n 1, 1) := by decide +kernel
theorem dX10_teaches_28 : decode cX10_teaches 28 = .ok (.invokevirtual 137, 3) := by decide +kernel
theorem dX10_teaches_31 : decode cX10_teaches 31 = .ok (.istore_n 3, 1) := by decide +kernel
theorem dX10_teaches_32 : decode cX10_teaches 32 = .ok (.aload_n 0, 1) := by decide +kernel
theorem dX10_teaches_33 : decode cX10_teaches 33 = .ok (.getfield 42, 3) := by decide +kernel
theorem dX10_teaches_36 : decode cX10_teaches 36 = .ok (.aload_n 0, 1) := by decide +kernel
theorem dX10_teaches_37 : decode cX10_teaches 37 = .ok (.getfield 35, 3) := by decide +kernel
theorem dX10_teaches_40 : decode cX10_teaches 40 = .ok (.invokevirtual 162, 3) := by decide +kernel
theorem dX10_teaches_43 : decode cX10_teaches 43 = .ok (.aload_n 0, 1) := by decide +kernel
theorem dX10_teaches_44 : decode cX10_teaches 44 = .ok (.getfield 35, 3) := by decide +kernel
theorem dX10_teaches_47 : decode cX10_teaches 47 = .ok (.iload_n 1, 1) := by decide +kernel
theorem dX10_teaches_48 : decode cX10_teaches 48 = .ok (.iload_n 2, 1) := by decide +kernel
theorem dX10_teaches_49 : decode cX10_teaches 49 = .ok (.invokevirtual 186, 3) := by decide +kernel
theorem dX10_teaches_52 : decode cX10_teaches 52 = .ok (.iload_n 3, 1) := by decide +kernel
theorem dX10_teaches_53 : decode cX10_teaches 53 = .ok (.ireturn, 1) := by decide +kernel
theorem dX10_sends_0 : decode cX10_sends 0 = .ok (.aload_n 0, 1) := by decide +kernel
theorem dX10_sends_1 : decode cX10_sends 1 = .ok (.getfield 28, 3) := by decide +kernel
theorem dX10_sends_4 : decode cX10_sends 4 = .ok (.iload_n 1, 1) := by decide +kernel
theorem dX10_sends_5 : decode cX10_sends 5 = .ok (.invokevirtual 109, 3) := by decide +kernel
theorem dX10_sends_8 : decode cX10_sends 8 = .ok (.ifCond .eq 10, 3) := by decide +kernel
theorem dX10_sends_11 : decode cX10_sends 11 = .ok (.iload_n 2, 1) := by decide +kernel
theorem dX10_sends_12 : decode cX10_sends 12 = .ok (.invokestatic 189, 3) := by decide +kernel
theorem dX10_sends_15 : decode cX10_sends 15 = .ok (.ifCond .ne 5, 3) := by decide +kernel
theorem dX10_sends_18 : decode cX10_sends 18 = .ok (.iconst (-1), 1) := by decide +kernel
theorem dX10_sends_19 : decode cX10_sends 19 = .ok (.ireturn, 1) := by decide +kernel
theorem dX10_sends_20 : decode cX10_sends 20 = .ok (.aload_n 0, 1) := by decide +kernel
theorem dX10_sends_21 : decode cX10_sends 21 = .ok (.getfield 35, 3) := by decide +kernel
theorem dX10_sends_24 : decode cX10_sends 24 = .ok (.iload_n 1, 1) := by decide +kernel
theorem dX10_sends_25 : decode cX10_sends 25 = .ok (.invokevirtual 128, 3) := by decide +kernel
theorem dX10_sends_28 : decode cX10_sends 28 = .ok (.iload_n 2, 1) := by decide +kernel
theorem dX10_sends_29 : decode cX10_sends 29 = .ok (.iconst 1, 1) := by decide +kernel
theorem dX10_sends_30 : decode cX10_sends 30 = .ok (.if_icmp .ne 7, 3) := by decide +kernel
theorem dX10_sends_33 : decode cX10_sends 33 = .ok (.iconst 1, 1) := by decide +kernel
theorem dX10_sends_34 : decode cX10_sends 34 = .ok (.goto 4, 3) := by decide +kernel
theorem dX10_sends_37 : decode cX10_sends 37 = .ok (.iconst 0, 1) := by decide +kernel
theorem dX10_sends_38 : decode cX10_sends 38 = .ok (.if_icmp .ne 6, 3) := by decide +kernel
theorem dX10_sends_41 : decode cX10_sends 41 = .ok (.bipush (-2), 2) := by decide +kernel
theorem dX10_sends_43 : decode cX10_sends 43 = .ok (.ireturn, 1) := by decide +kernel
theorem dX10_sends_44 : decode cX10_sends 44 = .ok (.aload_n 0, 1) := by decide +kernel
theorem dX10_sends_45 : decode cX10_sends 45 = .ok (.getfield 42, 3) := by decide +kernel
theorem dX10_sends_48 : decode cX10_sends 48 = .ok (.aload_n 0, 1) := by decide +kernel
theorem dX10_sends_49 : decode cX10_sends 49 = .ok (.getfield 35, 3) := by decide +kernel
theorem dX10_sends_52 : decode cX10_sends 52 = .ok (.invokevirtual 162, 3) := by decide +kernel
theorem dX10_sends_55 : decode cX10_sends 55 = .ok (.aload_n 0, 1) := by decide +kernel
theorem dX10_sends_56 : decode cX10_sends 56 = .ok (.getfield 35, 3) := by decide +kernel
theorem dX10_sends_59 : decode cX10_sends 59 = .ok (.iload_n 1, 1) := by decide +kernel
theorem dX10_sends_60 : decode cX10_sends 60 = .ok (.invokevirtual 192, 3) := by decide +kernel
theorem dX10_sends_63 : decode cX10_sends 63 = .ok (.aload_n 0, 1) := by decide +kernel
theorem dX10_sends_64 : decode cX10_sends 64 = .ok (.getfield 35, 3) := by decide +kernel
theorem dX10_sends_67 : decode cX10_sends 67 = .ok (.invokevirtual 146, 3) := by decide +kernel
theorem dX10_sends_70 : decode cX10_sends 70 = .ok (.invokestatic 195, 3) := by decide +kernel
theorem dX10_sends_73 : decode cX10_sends 73 = .ok (.ireturn, 1) := by decide +kernel
theorem dX10_undo_0 : decode cX10_undo 0 = .ok (.aload_n 0, 1) := by decide +kernel
theorem dX10_undo_1 : decode cX10_undo 1 = .ok (.getfield 42, 3) := by decide +kernel
theorem dX10_undo_4 : decode cX10_undo 4 = .ok (.getfield 158, 3) := by decide +kernel
theorem dX10_undo_7 : decode cX10_undo 7 = .ok (.ifCond .ne 6, 3) := by decide +kernel
theorem dX10_undo_10 : decode cX10_undo 10 = .ok (.bipush (-2), 2) := by decide +kernel
theorem dX10_undo_12 : decode cX10_undo 12 = .ok (.ireturn, 1) := by decide +kernel
theorem dX10_undo_13 : decode cX10_undo 13 = .ok (.aload_n 0, 1) := by decide +kernel
theorem dX10_undo_14 : decode cX10_undo 14 = .ok (.getfield 42, 3) := by decide +kernel
theorem dX10_undo_17 : decode cX10_undo 17 = .ok (.aload_n 0, 1) := by decide +kernel
theorem dX10_undo_18 : decode cX10_undo 18 = .ok (.getfield 35, 3) := by decide +kernel
theorem dX10_undo_21 : decode cX10_undo 21 = .ok (.invokevirtual 200, 3) := by decide +kernel
theorem dX10_undo_24 : decode cX10_undo 24 = .ok (.aload_n 0, 1) := by decide +kernel
theorem dX10_undo_25 : decode cX10_undo 25 = .ok (.getfield 42, 3) := by decide +kernel
theorem dX10_undo_28 : decode cX10_undo 28 = .ok (.getfield 158, 3) := by decide +kernel
theorem dX10_undo_31 : decode cX10_undo 31 = .ok (.ireturn, 1) := by decide +kernel
theorem dX10_soonest_0 : decode cX10_soonest 0 = .ok (.aload_n 0, 1) := by decide +kernel
theorem dX10_soonest_1 : decode cX10_soonest 1 = .ok (.getfield 28, 3) := by decide +kernel
theorem dX10_soonest_4 : decode cX10_soonest 4 = .ok (.iload_n 1, 1) := by decide +kernel
theorem dX10_soonest_5 : decode cX10_soonest 5 = .ok (.invokevirtual 109, 3) := by decide +kernel
theorem dX10_soonest_8 : decode cX10_soonest 8 = .ok (.ifCond .eq 8, 3) := by decide +kernel
theorem dX10_soonest_11 : decode cX10_soonest 11 = .ok (.iload_n 2, 1) := by decide +kernel
theorem dX10_soonest_12 : decode cX10_soonest 12 = .ok (.iconst (-1), 1) := by decide +kernel
theorem dX10_soonest_13 : decode cX10_soonest 13 = .ok (.if_icmp .ge 5, 3) := by decide +kernel
theorem dX10_soonest_16 : decode cX10_soonest 16 = .ok (.iconst (-1), 1) := by decide +kernel
theorem dX10_soonest_17 : decode cX10_soonest 17 = .ok (.ireturn, 1) := by decide +kernel
theorem dX10_soonest_18 : decode cX10_soonest 18 = .ok (.aload_n 0, 1) := by decide +kernel
theorem dX10_soonest_19 : decode cX10_soonest 19 = .ok (.getfield 35, 3) := by decide +kernel
theorem dX10_soonest_22 : decode cX10_soonest 22 = .ok (.iload_n 1, 1) := by decide +kernel
theorem dX10_soonest_23 : decode cX10_soonest 23 = .ok (.invokevirtual 128, 3) := by decide +kernel
theorem dX10_soonest_26 : decode cX10_soonest 26 = .ok (.ifCond .ne 25, 3) := by decide +kernel
theorem dX10_soonest_29 : decode cX10_soonest 29 = .ok (.aload_n 0, 1) := by decide +kernel
theorem dX10_soonest_30 : decode cX10_soonest 30 = .ok (.getfield 28, 3) := by decide +kernel
theorem dX10_soonest_33 : decode cX10_soonest 33 = .ok (.iload_n 1, 1) := by decide +kernel
theorem dX10_soonest_34 : decode cX10_soonest 34 = .ok (.invokevirtual 178, 3) := by decide +kernel
theorem dX10_soonest_37 : decode cX10_soonest 37 = .ok (.ifCond .eq 14, 3) := by decide +kernel
theorem dX10_soonest_40 : decode cX10_soonest 40 = .ok (.aload_n 0, 1) := by decide +kernel
theorem dX10_soonest_41 : decode cX10_soonest 41 = .ok (.getfield 35, 3) := by decide +kernel
theorem dX10_soonest_44 : decode cX10_soonest 44 = .ok (.iload_n 1, 1) := by decide +kernel
theorem dX10_soonest_45 : decode cX10_soonest 45 = .ok (.invokevirtual 125, 3) := by decide +kernel
theorem dX10_soonest_48 : decode cX10_soonest 48 = .ok (.ifCond .eq 6, 3) := by decide +kernel
theorem dX10_soonest_51 : decode cX10_soonest 51 = .ok (.bipush (-2), 2) := by decide +kernel
theorem dX10_soonest_53 : decode cX10_soonest 53 = .ok (.ireturn, 1) := by decide +kernel
theorem dX10_soonest_54 : decode cX10_soonest 54 = .ok (.aload_n 0, 1) := by decide +kernel
theorem dX10_soonest_55 : decode cX10_soonest 55 = .ok (.getfield 58, 3) := by decide +kernel
theorem dX10_soonest_58 : decode cX10_soonest 58 = .ok (.iload_n 1, 1) := by decide +kernel
theorem dX10_soonest_59 : decode cX10_soonest 59 = .ok (.invokevirtual 203, 3) := by decide +kernel
theorem dX10_soonest_62 : decode cX10_soonest 62 = .ok (.istore_n 3, 1) := by decide +kernel
theorem dX10_soonest_63 : decode cX10_soonest 63 = .ok (.aload_n 0, 1) := by decide +kernel
theorem dX10_soonest_64 : decode cX10_soonest 64 = .ok (.getfield 58, 3) := by decide +kernel
theorem dX10_soonest_67 : decode cX10_soonest 67 = .ok (.iload_n 1, 1) := by decide +kernel
theorem dX10_soonest_68 : decode cX10_soonest 68 = .ok (.iload_n 3, 1) := by decide +kernel
theorem dX10_soonest_69 : decode cX10_soonest 69 = .ok (.invokevirtual 206, 3) := by decide +kernel
theorem dX10_soonest_72 : decode cX10_soonest 72 = .ok (.ifCond .ne 6, 3) := by decide +kernel
theorem dX10_soonest_75 : decode cX10_soonest 75 = .ok (.bipush (-9), 2) := by decide +kernel
theorem dX10_soonest_77 : decode cX10_soonest 77 = .ok (.ireturn, 1) := by decide +kernel
theorem dX10_soonest_78 : decode cX10_soonest 78 = .ok (.iload_n 2, 1) := by decide +kernel
theorem dX10_soonest_79 : decode cX10_soonest 79 = .ok (.iconst (-1), 1) := by decide +kernel
theorem dX10_soonest_80 : decode cX10_soonest 80 = .ok (.if_icmp .ne 5, 3) := by decide +kernel
theorem dX10_soonest_83 : decode cX10_soonest 83 = .ok (.iload_n 3, 1) := by decide +kernel
theorem dX10_soonest_84 : decode cX10_soonest 84 = .ok (.ireturn, 1) := by decide +kernel
theorem dX10_soonest_85 : decode cX10_soonest 85 = .ok (.iload_n 2, 1) := by decide +kernel
theorem dX10_soonest_86 : decode cX10_soonest 86 = .ok (.iload_n 3, 1) := by decide +kernel
theorem dX10_soonest_87 : decode cX10_soonest 87 = .ok (.if_icmp .ge 15, 3) := by decide +kernel
theorem dX10_soonest_90 : decode cX10_soonest 90 = .ok (.aload_n 0, 1) := by decide +kernel
theorem dX10_soonest_91 : decode cX10_soonest 91 = .ok (.getfield 58, 3) := by decide +kernel
theorem dX10_soonest_94 : decode cX10_soonest 94 = .ok (.iload_n 1, 1) := by decide +kernel
theorem dX10_soonest_95 : decode cX10_soonest 95 = .ok (.iload_n 2, 1) := by decide +kernel
theorem dX10_soonest_96 : decode cX10_soonest 96 = .ok (.invokevirtual 209, 3) := by decide +kernel
theorem dX10_soonest_99 : decode cX10_soonest 99 = .ok (.goto 5, 3) := by decide +kernel
theorem dX10_soonest_102 : decode cX10_soonest 102 = .ok (.bipush (-5), 2) := by decide +kernel
theorem dX10_soonest_104 : decode cX10_soonest 104 = .ok (.ireturn, 1) := by decide +kernel
theorem dX10_till_0 : decode cX10_till 0 = .ok (.aload_n 0, 1) := by decide +kernel
theorem dX10_till_1 : decode cX10_till 1 = .ok (.getfield 28, 3) := by decide +kernel
theorem dX10_till_4 : decode cX10_till 4 = .ok (.iload_n 1, 1) := by decide +kernel
theorem dX10_till_5 : decode cX10_till 5 = .ok (.invokevirtual 109, 3) := by decide +kernel
theorem dX10_till_8 : decode cX10_till 8 = .ok (.ifCond .ne 5, 3) := by decide +kernel
theorem dX10_till_11 : decode cX10_till 11 = .ok (.iconst (-1), 1) := by decide +kernel
theorem dX10_till_12 : decode cX10_till 12 = .ok (.ireturn, 1) := by decide +kernel
theorem dX10_till_13 : decode cX10_till 13 = .ok (.aload_n 0, 1) := by decide +kernel
theorem dX10_till_14 : decode cX10_till 14 = .ok (.getfield 35, 3) := by decide +kernel
theorem dX10_till_17 : decode cX10_till 17 = .ok (.iload_n 1, 1) := by decide +kernel
theorem dX10_till_18 : decode cX10_till 18 = .ok (.invokevirtual 128, 3) := by decide +kernel
theorem dX10_till_21 : decode cX10_till 21 = .ok (.ifCond .eq 8, 3) := by decide +kernel
theorem dX10_till_24 : decode cX10_till 24 = .ok (.bipush (-2), 2) := by decide +kernel
theorem dX10_till_26 : decode cX10_till 26 = .ok (.goto 11, 3) := by decide +kernel
theorem dX10_till_29 : decode cX10_till 29 = .ok (.aload_n 0, 1) := by decide +kernel
theorem dX10_till_30 : decode cX10_till 30 = .ok (.getfield 58, 3) := by decide +kernel
theorem dX10_till_33 : decode cX10_till 33 = .ok (.iload_n 1, 1) := by decide +kernel
theorem dX10_till_34 : decode cX10_till 34 = .ok (.invokevirtual 213, 3) := by decide +kernel
theorem dX10_till_37 : decode cX10_till 37 = .ok (.ireturn, 1) := by decide +kernel
theorem dX10_odds_0 : decode cX10_odds 0 = .ok (.aload_n 0, 1) := by decide +kernel
theorem dX10_odds_1 : decode cX10_odds 1 = .ok (.getfield 28, 3) := by decide +kernel
theorem dX10_odds_4 : decode cX10_odds 4 = .ok (.iload_n 1, 1) := by decide +kernel
theorem dX10_odds_5 : decode cX10_odds 5 = .ok (.invokevirtual 109, 3) := by decide +kernel
theorem dX10_odds_8 : decode cX10_odds 8 = .ok (.ifCond .eq 19, 3) := by decide +kernel
theorem dX10_odds_11 : decode cX10_odds 11 = .ok (.iload_n 2, 1) := by decide +kernel
theorem dX10_odds_12 : decode cX10_odds 12 = .ok (.ifCond .lt 15, 3) := by decide +kernel
theorem dX10_odds_15 : decode cX10_odds 15 = .ok (.iload_n 2, 1) := by decide +kernel
theorem dX10_odds_16 : decode cX10_odds 16 = .ok (.iconst 4, 1) := by decide +kernel
theorem dX10_odds_17 : decode cX10_odds 17 = .ok (.if_icmp .gt 10, 3) := by decide +kernel
theorem dX10_odds_20 : decode cX10_odds 20 = .ok (.iload_n 3, 1) := by decide +kernel
theorem dX10_odds_21 : decode cX10_odds 21 = .ok (.invokestatic 189, 3) := by decide +kernel
theorem dX10_odds_24 : decode cX10_odds 24 = .ok (.ifCond .ne 5, 3) := by decide +kernel
theorem dX10_odds_27 : decode cX10_odds 27 = .ok (.iconst (-1), 1) := by decide +kernel
theorem dX10_odds_28 : decode cX10_odds 28 = .ok (.ireturn, 1) := by decide +kernel
theorem dX10_odds_29 : decode cX10_odds 29 = .ok (.aload_n 0, 1) := by decide +kernel
theorem dX10_odds_30 : decode cX10_odds 30 = .ok (.getfield 35, 3) := by decide +kernel
theorem dX10_odds_33 : decode cX10_odds 33 = .ok (.iload_n 1, 1) := by decide +kernel
theorem dX10_odds_34 : decode cX10_odds 34 = .ok (.invokevirtual 128, 3) := by decide +kernel
theorem dX10_odds_37 : decode cX10_odds 37 = .ok (.ifCond .eq 6, 3) := by decide +kernel
theorem dX10_odds_40 : decode cX10_odds 40 = .ok (.bipush (-2), 2) := by decide +kernel
theorem dX10_odds_42 : decode cX10_odds 42 = .ok (.ireturn, 1) := by decide +kernel
theorem dX10_odds_43 : decode cX10_odds 43 = .ok (.aload_n 0, 1) := by decide +kernel
theorem dX10_odds_44 : decode cX10_odds 44 = .ok (.getfield 58, 3) := by decide +kernel
theorem dX10_odds_47 : decode cX10_odds 47 = .ok (.iload_n 1, 1) := by decide +kernel
theorem dX10_odds_48 : decode cX10_odds 48 = .ok (.iload_n 2, 1) := by decide +kernel
theorem dX10_odds_49 : decode cX10_odds 49 = .ok (.invokevirtual 216, 3) := by decide +kernel
theorem dX10_odds_52 : decode cX10_odds 52 = .ok (.istore 4, 2) := by decide +kernel
theorem dX10_odds_54 : decode cX10_odds 54 = .ok (.aload_n 0, 1) := by decide +kernel
theorem dX10_odds_55 : decode cX10_odds 55 = .ok (.getfield 58, 3) := by decide +kernel
theorem dX10_odds_58 : decode cX10_odds 58 = .ok (.iload_n 2, 1) := by decide +kernel
theorem dX10_odds_59 : decode cX10_odds 59 = .ok (.invokevirtual 219, 3) := by decide +kernel
theorem dX10_odds_62 : decode cX10_odds 62 = .ok (.istore 5, 2) := by decide +kernel
theorem dX10_odds_64 : decode cX10_odds 64 = .ok (.iload 4, 2) := by decide +kernel
theorem dX10_odds_66 : decode cX10_odds 66 = .ok (.iload 5, 2) := by decide +kernel
theorem dX10_odds_68 : decode cX10_odds 68 = .ok (.iload_n 3, 1) := by decide +kernel
theorem dX10_odds_69 : decode cX10_odds 69 = .ok (.invokestatic 222, 3) := by decide +kernel
theorem dX10_odds_72 : decode cX10_odds 72 = .ok (.ireturn, 1) := by decide +kernel
theorem dX10_saw_0 : decode cX10_saw 0 = .ok (.aload_n 0, 1) := by decide +kernel
theorem dX10_saw_1 : decode cX10_saw 1 = .ok (.getfield 28, 3) := by decide +kernel
theorem dX10_saw_4 : decode cX10_saw 4 = .ok (.iload_n 1, 1) := by decide +kernel
theorem dX10_saw_5 : decode cX10_saw 5 = .ok (.invokevirtual 134, 3) := by decide +kernel
theorem dX10_saw_8 : decode cX10_saw 8 = .ok (.ifCond .eq 10, 3) := by decide +kernel
theorem dX10_saw_11 : decode cX10_saw 11 = .ok (.iload_n 2, 1) := by decide +kernel
theorem dX10_saw_12 : decode cX10_saw 12 = .ok (.invokestatic 189, 3) := by decide +kernel
theorem dX10_saw_15 : decode cX10_saw 15 = .ok (.ifCond .ne 5, 3) := by decide +kernel
theorem dX10_saw_18 : decode cX10_saw 18 = .ok (.iconst (-1), 1) := by decide +kernel
theorem dX10_saw_19 : decode cX10_saw 19 = .ok (.ireturn, 1) := by decide +kernel
theorem dX10_saw_20 : decode cX10_saw 20 = .ok (.aload_n 0, 1) := by decide +kernel
theorem dX10_saw_21 : decode cX10_saw 21 = .ok (.getfield 65, 3) := by decide +kernel
theorem dX10_saw_24 : decode cX10_saw 24 = .ok (.iload_n 1, 1) := by decide +kernel
theorem dX10_saw_25 : decode cX10_saw 25 = .ok (.iload_n 2, 1) := by decide +kernel
theorem dX10_saw_26 : decode cX10_saw 26 = .ok (.invokevirtual 226, 3) := by decide +kernel
theorem dX10_saw_29 : decode cX10_saw 29 = .ok (.ireturn, 1) := by decide +kernel
theorem dX10_canBe_0 : decode cX10_canBe 0 = .ok (.iload_n 1, 1) := by decide +kernel
theorem dX10_canBe_1 : decode cX10_canBe 1 = .ok (.tableswitch 51 0 2 #[27, 35, 43], 27) := by decide +kernel
theorem dX10_canBe_28 : decode cX10_canBe 28 = .ok (.aload_n 0, 1) := by decide +kernel
theorem dX10_canBe_29 : decode cX10_canBe 29 = .ok (.getfield 65, 3) := by decide +kernel
theorem dX10_canBe_32 : decode cX10_canBe 32 = .ok (.invokevirtual 228, 3) := by decide +kernel
theorem dX10_canBe_35 : decode cX10_canBe 35 = .ok (.ireturn, 1) := by decide +kernel
theorem dX10_canBe_36 : decode cX10_canBe 36 = .ok (.aload_n 0, 1) := by decide +kernel
theorem dX10_canBe_37 : decode cX10_canBe 37 = .ok (.getfield 65, 3) := by decide +kernel
theorem dX10_canBe_40 : decode cX10_canBe 40 = .ok (.invokevirtual 231, 3) := by decide +kernel
theorem dX10_canBe_43 : decode cX10_canBe 43 = .ok (.ireturn, 1) := by decide +kernel
theorem dX10_canBe_44 : decode cX10_canBe 44 = .ok (.aload_n 0, 1) := by decide +kernel
theorem dX10_canBe_45 : decode cX10_canBe 45 = .ok (.getfield 65, 3) := by decide +kernel
theorem dX10_canBe_48 : decode cX10_canBe 48 = .ok (.invokevirtual 234, 3) := by decide +kernel
theorem dX10_canBe_51 : decode cX10_canBe 51 = .ok (.ireturn, 1) := by decide +kernel
theorem dX10_canBe_52 : decode cX10_canBe 52 = .ok (.iconst (-1), 1) := by decide +kernel
theorem dX10_canBe_53 : decode cX10_canBe 53 = .ok (.ireturn, 1) := by decide +kernel
theorem dX10_show_0 : decode cX10_show 0 = .ok (.aload_n 0, 1) := by decide +kernel
theorem dX10_show_1 : decode cX10_show 1 = .ok (.getfield 65, 3) := by decide +kernel
theorem dX10_show_4 : decode cX10_show 4 = .ok (.invokevirtual 237, 3) := by decide +kernel
theorem dX10_show_7 : decode cX10_show 7 = .ok (.ireturn, 1) := by decide +kernel
theorem dX10_hears_0 : decode cX10_hears 0 = .ok (.iload_n 1, 1) := by decide +kernel
theorem dX10_hears_1 : decode cX10_hears 1 = .ok (.ifCond .lt 16, 3) := by decide +kernel
theorem dX10_hears_4 : decode cX10_hears 4 = .ok (.iload_n 1, 1) := by decide +kernel
theorem dX10_hears_5 : decode cX10_hears 5 = .ok (.bipush 20, 2) := by decide +kernel
theorem dX10_hears_7 : decode cX10_hears 7 = .ok (.if_icmp .gt 10, 3) := by decide +kernel
theorem dX10_hears_10 : decode cX10_hears 10 = .ok (.iload_n 2, 1) := by decide +kernel
theorem dX10_hears_11 : decode cX10_hears 11 = .ok (.invokestatic 189, 3) := by decide +kernel
theorem dX10_hears_14 : decode cX10_hears 14 = .ok (.ifCond .ne 5, 3) := by decide +kernel
theorem dX10_hears_17 : decode cX10_hears 17 = .ok (.iconst (-1), 1) := by decide +kernel
theorem dX10_hears_18 : decode cX10_hears 18 = .ok (.ireturn, 1) := by decide +kernel
theorem dX10_hears_19 : decode cX10_hears 19 = .ok (.aload_n 0, 1) := by decide +kernel
theorem dX10_hears_20 : decode cX10_hears 20 = .ok (.getfield 72, 3) := by decide +kernel
theorem dX10_hears_23 : decode cX10_hears 23 = .ok (.iload_n 1, 1) := by decide +kernel
theorem dX10_hears_24 : decode cX10_hears 24 = .ok (.iload_n 2, 1) := by decide +kernel
theorem dX10_hears_25 : decode cX10_hears 25 = .ok (.invokevirtual 240, 3) := by decide +kernel
theorem dX10_hears_28 : decode cX10_hears 28 = .ok (.ireturn, 1) := by decide +kernel
theorem dX10_forget_0 : decode cX10_forget 0 = .ok (.aload_n 0, 1) := by decide +kernel
theorem dX10_forget_1 : decode cX10_forget 1 = .ok (.getfield 65, 3) := by decide +kernel
theorem dX10_forget_4 : decode cX10_forget 4 = .ok (.getfield 241, 3) := by decide +kernel
theorem dX10_forget_7 : decode cX10_forget 7 = .ok (.aload_n 0, 1) := by decide +kernel
theorem dX10_forget_8 : decode cX10_forget 8 = .ok (.getfield 72, 3) := by decide +kernel
theorem dX10_forget_11 : decode cX10_forget 11 = .ok (.getfield 244, 3) := by decide +kernel
theorem dX10_forget_14 : decode cX10_forget 14 = .ok (.iadd, 1) := by decide +kernel
theorem dX10_forget_15 : decode cX10_forget 15 = .ok (.istore_n 1, 1) := by decide +kernel
theorem dX10_forget_16 : decode cX10_forget 16 = .ok (.aload_n 0, 1) := by decide +kernel
theorem dX10_forget_17 : decode cX10_forget 17 = .ok (.getfield 65, 3) := by decide +kernel
theorem dX10_forget_20 : decode cX10_forget 20 = .ok (.invokevirtual 107, 3) := by decide +kernel
theorem dX10_forget_23 : decode cX10_forget 23 = .ok (.aload_n 0, 1) := by decide +kernel
theorem dX10_forget_24 : decode cX10_forget 24 = .ok (.getfield 72, 3) := by decide +kernel
theorem dX10_forget_27 : decode cX10_forget 27 = .ok (.invokevirtual 108, 3) := by decide +kernel
theorem dX10_forget_30 : decode cX10_forget 30 = .ok (.iload_n 1, 1) := by decide +kernel
theorem dX10_forget_31 : decode cX10_forget 31 = .ok (.ireturn, 1) := by decide +kernel
theorem dX10_years_0 : decode cX10_years 0 = .ok (.aload_n 0, 1) := by decide +kernel
theorem dX10_years_1 : decode cX10_years 1 = .ok (.getfield 72, 3) := by decide +kernel
theorem dX10_years_4 : decode cX10_years 4 = .ok (.invokevirtual 247, 3) := by decide +kernel
theorem dX10_years_7 : decode cX10_years 7 = .ok (.ireturn, 1) := by decide +kernel
theorem dX10_letIn_0 : decode cX10_letIn 0 = .ok (.iload_n 1, 1) := by decide +kernel
theorem dX10_letIn_1 : decode cX10_letIn 1 = .ok (.invokestatic 189, 3) := by decide +kernel
theorem dX10_letIn_4 : decode cX10_letIn 4 = .ok (.ifCond .ne 5, 3) := by decide +kernel
theorem dX10_letIn_7 : decode cX10_letIn 7 = .ok (.iconst (-1), 1) := by decide +kernel
theorem dX10_letIn_8 : decode cX10_letIn 8 = .ok (.ireturn, 1) := by decide +kernel
theorem dX10_letIn_9 : decode cX10_letIn 9 = .ok (.aload_n 0, 1) := by decide +kernel
theorem dX10_letIn_10 : decode cX10_letIn 10 = .ok (.getfield 72, 3) := by decide +kernel
theorem dX10_letIn_13 : decode cX10_letIn 13 = .ok (.invokevirtual 250, 3) := by decide +kernel
theorem dX10_letIn_16 : decode cX10_letIn 16 = .ok (.istore_n 2, 1) := by decide +kernel
theorem dX10_letIn_17 : decode cX10_letIn 17 = .ok (.iload_n 2, 1) := by decide +kernel
theorem dX10_letIn_18 : decode cX10_letIn 18 = .ok (.bipush (-9), 2) := by decide +kernel
theorem dX10_letIn_20 : decode cX10_letIn 20 = .ok (.if_icmp .eq 7, 3) := by decide +kernel
theorem dX10_letIn_23 : decode cX10_letIn 23 = .ok (.iload_n 1, 1) := by decide +kernel
theorem dX10_letIn_24 : decode cX10_letIn 24 = .ok (.ifCond .ne 5, 3) := by decide +kernel
theorem dX10_letIn_27 : decode cX10_letIn 27 = .ok (.iload_n 2, 1) := by decide +kernel
theorem dX10_letIn_28 : decode cX10_letIn 28 = .ok (.ireturn, 1) := by decide +kernel
theorem dX10_letIn_29 : decode cX10_letIn 29 = .ok (.aload_n 0, 1) := by decide +kernel
theorem dX10_letIn_30 : decode cX10_letIn 30 = .ok (.getfield 72, 3) := by decide +kernel
theorem dX10_letIn_33 : decode cX10_letIn 33 = .ok (.iload_n 2, 1) := by decide +kernel
theorem dX10_letIn_34 : decode cX10_letIn 34 = .ok (.invokevirtual 253, 3) := by decide +kernel
theorem dX10_letIn_37 : decode cX10_letIn 37 = .ok (.ireturn, 1) := by decide +kernel
theorem dX10_rate_0 : decode cX10_rate 0 = .ok (.aload_n 0, 1) := by decide +kernel
theorem dX10_rate_1 : decode cX10_rate 1 = .ok (.getfield 28, 3) := by decide +kernel
theorem dX10_rate_4 : decode cX10_rate 4 = .ok (.iload_n 2, 1) := by decide +kernel
theorem dX10_rate_5 : decode cX10_rate 5 = .ok (.invokevirtual 109, 3) := by decide +kernel
theorem dX10_rate_8 : decode cX10_rate 8 = .ok (.ifCond .eq 15, 3) := by decide +kernel
theorem dX10_rate_11 : decode cX10_rate 11 = .ok (.aload_n 0, 1) := by decide +kernel
theorem dX10_rate_12 : decode cX10_rate 12 = .ok (.getfield 79, 3) := by decide +kernel
theorem dX10_rate_15 : decode cX10_rate 15 = .ok (.iload_n 1, 1) := by decide +kernel
theorem dX10_rate_16 : decode cX10_rate 16 = .ok (.iload_n 2, 1) := by decide +kernel
theorem dX10_rate_17 : decode cX10_rate 17 = .ok (.invokevirtual 256, 3) := by decide +kernel
theorem dX10_rate_20 : decode cX10_rate 20 = .ok (.goto 6, 3) := by decide +kernel
theorem dX10_rate_23 : decode cX10_rate 23 = .ok (.ldc_w 259, 3) := by decide +kernel
theorem dX10_rate_26 : decode cX10_rate 26 = .ok (.ireturn, 1) := by decide +kernel
theorem dX10_keep_0 : decode cX10_keep 0 = .ok (.iload_n 1, 1) := by decide +kernel
theorem dX10_keep_1 : decode cX10_keep 1 = .ok (.invokestatic 260, 3) := by decide +kernel
theorem dX10_keep_4 : decode cX10_keep 4 = .ok (.ifCond .ne 5, 3) := by decide +kernel
theorem dX10_keep_7 : decode cX10_keep 7 = .ok (.iconst (-1), 1) := by decide +kernel
theorem dX10_keep_8 : decode cX10_keep 8 = .ok (.ireturn, 1) := by decide +kernel
theorem dX10_keep_9 : decode cX10_keep 9 = .ok (.aload_n 0, 1) := by decide +kernel
theorem dX10_keep_10 : decode cX10_keep 10 = .ok (.getfield 49, 3) := by decide +kernel
theorem dX10_keep_13 : decode cX10_keep 13 = .ok (.iload_n 1, 1) := by decide +kernel
theorem dX10_keep_14 : decode cX10_keep 14 = .ok (.aload_n 0, 1) := by decide +kernel
theorem dX10_keep_15 : decode cX10_keep 15 = .ok (.getfield 35, 3) := by decide +kernel
theorem dX10_keep_18 : decode cX10_keep 18 = .ok (.invokevirtual 263, 3) := by decide +kernel
theorem dX10_keep_21 : decode cX10_keep 21 = .ok (.aload_n 0, 1) := by decide +kernel
theorem dX10_keep_22 : decode cX10_keep 22 = .ok (.getfield 35, 3) := by decide +kernel
theorem dX10_keep_25 : decode cX10_keep 25 = .ok (.invokevirtual 149, 3) := by decide +kernel
theorem dX10_keep_28 : decode cX10_keep 28 = .ok (.ireturn, 1) := by decide +kernel
theorem dX10_back_0 : decode cX10_back 0 = .ok (.iload_n 1, 1) := by decide +kernel
theorem dX10_back_1 : decode cX10_back 1 = .ok (.invokestatic 260, 3) := by decide +kernel
theorem dX10_back_4 : decode cX10_back 4 = .ok (.ifCond .ne 5, 3) := by decide +kernel
theorem dX10_back_7 : decode cX10_back 7 = .ok (.iconst (-1), 1) := by decide +kernel
theorem dX10_back_8 : decode cX10_back 8 = .ok (.ireturn, 1) := by decide +kernel
theorem dX10_back_9 : decode cX10_back 9 = .ok (.aload_n 0, 1) := by decide +kernel
theorem dX10_back_10 : decode cX10_back 10 = .ok (.getfield 49, 3) := by decide +kernel
theorem dX10_back_13 : decode cX10_back 13 = .ok (.iload_n 1, 1) := by decide +kernel
theorem dX10_back_14 : decode cX10_back 14 = .ok (.invokevirtual 267, 3) := by decide +kernel
theorem dX10_back_17 : decode cX10_back 17 = .ok (.ifCond .ne 6, 3) := by decide +kernel
theorem dX10_back_20 : decode cX10_back 20 = .ok (.bipush (-2), 2) := by decide +kernel
theorem dX10_back_22 : decode cX10_back 22 = .ok (.ireturn, 1) := by decide +kernel
theorem dX10_back_23 : decode cX10_back 23 = .ok (.aload_n 0, 1) := by decide +kernel
theorem dX10_back_24 : decode cX10_back 24 = .ok (.getfield 49, 3) := by decide +kernel
theorem dX10_back_27 : decode cX10_back 27 = .ok (.iload_n 1, 1) := by decide +kernel
theorem dX10_back_28 : decode cX10_back 28 = .ok (.aload_n 0, 1) := by decide +kernel
theorem dX10_back_29 : decode cX10_back 29 = .ok (.getfield 35, 3) := by decide +kernel
theorem dX10_back_32 : decode cX10_back 32 = .ok (.invokevirtual 270, 3) := by decide +kernel
theorem dX10_back_35 : decode cX10_back 35 = .ok (.aload_n 0, 1) := by decide +kernel
theorem dX10_back_36 : decode cX10_back 36 = .ok (.getfield 42, 3) := by decide +kernel
theorem dX10_back_39 : decode cX10_back 39 = .ok (.invokevirtual 104, 3) := by decide +kernel
theorem dX10_back_42 : decode cX10_back 42 = .ok (.aload_n 0, 1) := by decide +kernel
theorem dX10_back_43 : decode cX10_back 43 = .ok (.getfield 35, 3) := by decide +kernel
theorem dX10_back_46 : decode cX10_back 46 = .ok (.invokevirtual 149, 3) := by decide +kernel
theorem dX10_back_49 : decode cX10_back 49 = .ok (.ireturn, 1) := by decide +kernel
theorem dX10_count_0 : decode cX10_count 0 = .ok (.iload_n 1, 1) := by decide +kernel
theorem dX10_count_1 : decode cX10_count 1 = .ok (.tableswitch 99 0 6 #[43, 51, 59, 67, 75, 83, 91], 43) := by decide +kernel
theorem dX10_count_44 : decode cX10_count 44 = .ok (.aload_n 0, 1) := by decide +kernel
theorem dX10_count_45 : decode cX10_count 45 = .ok (.getfield 28, 3) := by decide +kernel
theorem dX10_count_48 : decode cX10_count 48 = .ok (.getfield 273, 3) := by decide +kernel
theorem dX10_count_51 : decode cX10_count 51 = .ok (.ireturn, 1) := by decide +kernel
theorem dX10_count_52 : decode cX10_count 52 = .ok (.aload_n 0, 1) := by decide +kernel
theorem dX10_count_53 : decode cX10_count 53 = .ok (.getfield 28, 3) := by decide +kernel
theorem dX10_count_56 : decode cX10_count 56 = .ok (.getfield 276, 3) := by decide +kernel
theorem dX10_count_59 : decode cX10_count 59 = .ok (.ireturn, 1) := by decide +kernel
theorem dX10_count_60 : decode cX10_count 60 = .ok (.aload_n 0, 1) := by decide +kernel
theorem dX10_count_61 : decode cX10_count 61 = .ok (.getfield 28, 3) := by decide +kernel
theorem dX10_count_64 : decode cX10_count 64 = .ok (.getfield 181, 3) := by decide +kernel
theorem dX10_count_67 : decode cX10_count 67 = .ok (.ireturn, 1) := by decide +kernel
theorem dX10_count_68 : decode cX10_count 68 = .ok (.aload_n 0, 1) := by decide +kernel
theorem dX10_count_69 : decode cX10_count 69 = .ok (.getfield 28, 3) := by decide +kernel
theorem dX10_count_72 : decode cX10_count 72 = .ok (.getfield 279, 3) := by decide +kernel
theorem dX10_count_75 : decode cX10_count 75 = .ok (.ireturn, 1) := by decide +kernel
theorem dX10_count_76 : decode cX10_count 76 = .ok (.aload_n 0, 1) := by decide +kernel
theorem dX10_count_77 : decode cX10_count 77 = .ok (.getfield 65, 3) := by decide +kernel
theorem dX10_count_80 : decode cX10_count 80 = .ok (.getfield 241, 3) := by decide +kernel
theorem dX10_count_83 : decode cX10_count 83 = .ok (.ireturn, 1) := by decide +kernel
theorem dX10_count_84 : decode cX10_count 84 = .ok (.aload_n 0, 1) := by decide +kernel
theorem dX10_count_85 : decode cX10_count 85 = .ok (.getfield 72, 3) := by decide +kernel
theorem dX10_count_88 : decode cX10_count 88 = .ok (.getfield 244, 3) := by decide +kernel
theorem dX10_count_91 : decode cX10_count 91 = .ok (.ireturn, 1) := by decide +kernel
theorem dX10_count_92 : decode cX10_count 92 = .ok (.aload_n 0, 1) := by decide +kernel
theorem dX10_count_93 : decode cX10_count 93 = .ok (.getfield 10, 3) := by decide +kernel
theorem dX10_count_96 : decode cX10_count 96 = .ok (.getfield 282, 3) := by decide +kernel
theorem dX10_count_99 : decode cX10_count 99 = .ok (.ireturn, 1) := by decide +kernel
theorem dX10_count_100 : decode cX10_count 100 = .ok (.iconst (-1), 1) := by decide +kernel
theorem dX10_count_101 : decode cX10_count 101 = .ok (.ireturn, 1) := by decide +kernel
theorem dX10_trace_0 : decode cX10_trace 0 = .ok (.aload_n 0, 1) := by decide +kernel
theorem dX10_trace_1 : decode cX10_trace 1 = .ok (.getfield 79, 3) := by decide +kernel
theorem dX10_trace_4 : decode cX10_trace 4 = .ok (.getfield 285, 3) := by decide +kernel
theorem dX10_trace_7 : decode cX10_trace 7 = .ok (.lreturn, 1) := by decide +kernel
theorem dX10_purse_0 : decode cX10_purse 0 = .ok (.iconst 0, 1) := by decide +kernel
theorem dX10_purse_1 : decode cX10_purse 1 = .ok (.istore_n 2, 1) := by decide +kernel
theorem dX10_purse_2 : decode cX10_purse 2 = .ok (.iconst 0, 1) := by decide +kernel
theorem dX10_purse_3 : decode cX10_purse 3 = .ok (.istore_n 3, 1) := by decide +kernel
theorem dX10_purse_4 : decode cX10_purse 4 = .ok (.iload_n 3, 1) := by decide +kernel
theorem dX10_purse_5 : decode cX10_purse 5 = .ok (.aload_n 0, 1) := by decide +kernel
theorem dX10_purse_6 : decode cX10_purse 6 = .ok (.getfield 28, 3) := by decide +kernel
theorem dX10_purse_9 : decode cX10_purse 9 = .ok (.getfield 276, 3) := by decide +kernel
theorem dX10_purse_12 : decode cX10_purse 12 = .ok (.if_icmp .ge 44, 3) := by decide +kernel
theorem dX10_purse_15 : decode cX10_purse 15 = .ok (.aload_n 0, 1) := by decide +kernel
theorem dX10_purse_16 : decode cX10_purse 16 = .ok (.getfield 35, 3) := by decide +kernel
theorem dX10_purse_19 : decode cX10_purse 19 = .ok (.iload_n 3, 1) := by decide +kernel
theorem dX10_purse_20 : decode cX10_purse 20 = .ok (.invokevirtual 119, 3) := by decide +kernel
theorem dX10_purse_23 : decode cX10_purse 23 = .ok (.iload_n 1, 1) := by decide +kernel
theorem dX10_purse_24 : decode cX10_purse 24 = .ok (.if_icmp .ne 26, 3) := by decide +kernel
theorem dX10_purse_27 : decode cX10_purse 27 = .ok (.aload_n 0, 1) := by decide +kernel
theorem dX10_purse_28 : decode cX10_purse 28 = .ok (.getfield 35, 3) := by decide +kernel
theorem dX10_purse_31 : decode cX10_purse 31 = .ok (.iload_n 3, 1) := by decide +kernel
theorem dX10_purse_32 : decode cX10_purse 32 = .ok (.invokevirtual 128, 3) := by decide +kernel
theorem dX10_purse_35 : decode cX10_purse 35 = .ok (.ifCond .ne 15, 3) := by decide +kernel
theorem dX10_purse_38 : decode cX10_purse 38 = .ok (.iload_n 2, 1) := by decide +kernel
theorem dX10_purse_39 : decode cX10_purse 39 = .ok (.aload_n 0, 1) := by decide +kernel
theorem dX10_purse_40 : decode cX10_purse 40 = .ok (.getfield 28, 3) := by decide +kernel
theorem dX10_purse_43 : decode cX10_purse 43 = .ok (.getfield 113, 3) := by decide +kernel
theorem dX10_purse_46 : decode cX10_purse 46 = .ok (.iload_n 3, 1) := by decide +kernel
theorem dX10_purse_47 : decode cX10_purse 47 = .ok (.iaload, 1) := by decide +kernel
theorem dX10_purse_48 : decode cX10_purse 48 = .ok (.iadd, 1) := by decide +kernel
theorem dX10_purse_49 : decode cX10_purse 49 = .ok (.istore_n 2, 1) := by decide +kernel
theorem dX10_purse_50 : decode cX10_purse 50 = .ok (.iinc 3 1, 3) := by decide +kernel
theorem dX10_purse_53 : decode cX10_purse 53 = .ok (.goto (-49), 3) := by decide +kernel
theorem dX10_purse_56 : decode cX10_purse 56 = .ok (.iload_n 2, 1) := by decide +kernel
theorem dX10_purse_57 : decode cX10_purse 57 = .ok (.ireturn, 1) := by decide +kernel
theorem dX10_isYesOrNo_0 : decode cX10_isYesOrNo 0 = .ok (.iload_n 0, 1) := by decide +kernel
theorem dX10_isYesOrNo_1 : decode cX10_isYesOrNo 1 = .ok (.ifCond .eq 8, 3) := by decide +kernel
theorem dX10_isYesOrNo_4 : decode cX10_isYesOrNo 4 = .ok (.iload_n 0, 1) := by decide +kernel
theorem dX10_isYesOrNo_5 : decode cX10_isYesOrNo 5 = .ok (.iconst 1, 1) := by decide +kernel
theorem dX10_isYesOrNo_6 : decode cX10_isYesOrNo 6 = .ok (.if_icmp .ne 7, 3) := by decide +kernel
theorem dX10_isYesOrNo_9 : decode cX10_isYesOrNo 9 = .ok (.iconst 1, 1) := by decide +kernel
theorem dX10_isYesOrNo_10 : decode cX10_isYesOrNo 10 = .ok (.goto 4, 3) := by decide +kernel
theorem dX10_isYesOrNo_13 : decode cX10_isYesOrNo 13 = .ok (.iconst 0, 1) := by decide +kernel
theorem dX10_isYesOrNo_14 : decode cX10_isYesOrNo 14 = .ok (.ireturn, 1) := by decide +kernel
theorem dX10_isImage_0 : decode cX10_isImage 0 = .ok (.iload_n 0, 1) := by decide +kernel
theorem dX10_isImage_1 : decode cX10_isImage 1 = .ok (.ifCond .lt 12, 3) := by decide +kernel
theorem dX10_isImage_4 : decode cX10_isImage 4 = .ok (.iload_n 0, 1) := by decide +kernel
theorem dX10_isImage_5 : decode cX10_isImage 5 = .ok (.iconst 2, 1) := by decide +kernel
theorem dX10_isImage_6 : decode cX10_isImage 6 = .ok (.if_icmp .ge 7, 3) := by decide +kernel
theorem dX10_isImage_9 : decode cX10_isImage 9 = .ok (.iconst 1, 1) := by decide +kernel
theorem dX10_isImage_10 : decode cX10_isImage 10 = .ok (.goto 4, 3) := by decide +kernel
theorem dX10_isImage_13 : decode cX10_isImage 13 = .ok (.iconst 0, 1) := by decide +kernel
theorem dX10_isImage_14 : decode cX10_isImage 14 = .ok (.ireturn, 1) := by decide +kernel
theorem dX10_hasBit_0 : decode cX10_hasBit 0 = .ok (.iload_n 0, 1) := by decide +kernel
theorem dX10_hasBit_1 : decode cX10_hasBit 1 = .ok (.iload_n 1, 1) := by decide +kernel
theorem dX10_hasBit_2 : decode cX10_hasBit 2 = .ok (.ishr, 1) := by decide +kernel
theorem dX10_hasBit_3 : decode cX10_hasBit 3 = .ok (.iconst 1, 1) := by decide +kernel
theorem dX10_hasBit_4 : decode cX10_hasBit 4 = .ok (.iand, 1) := by decide +kernel
theorem dX10_hasBit_5 : decode cX10_hasBit 5 = .ok (.iconst 1, 1) := by decide +kernel
theorem dX10_hasBit_6 : decode cX10_hasBit 6 = .ok (.if_icmp .ne 7, 3) := by decide +kernel
theorem dX10_hasBit_9 : decode cX10_hasBit 9 = .ok (.iconst 1, 1) := by decide +kernel
theorem dX10_hasBit_10 : decode cX10_hasBit 10 = .ok (.goto 4, 3) := by decide +kernel
theorem dX10_hasBit_13 : decode cX10_hasBit 13 = .ok (.iconst 0, 1) := by decide +kernel
theorem dX10_hasBit_14 : decode cX10_hasBit 14 = .ok (.ireturn, 1) := by decide +kernel
theorem dX10_inLeastTerms_0 : decode cX10_inLeastTerms 0 = .ok (.iload_n 1, 1) := by decide +kernel
theorem dX10_inLeastTerms_1 : decode cX10_inLeastTerms 1 = .ok (.istore_n 3, 1) := by decide +kernel
theorem dX10_inLeastTerms_2 : decode cX10_inLeastTerms 2 = .ok (.iload_n 3, 1) := by decide +kernel
theorem dX10_inLeastTerms_3 : decode cX10_inLeastTerms 3 = .ok (.ifCond .le 33, 3) := by decide +kernel
theorem dX10_inLeastTerms_6 : decode cX10_inLeastTerms 6 = .ok (.iload_n 0, 1) := by decide +kernel
theorem dX10_inLeastTerms_7 : decode cX10_inLeastTerms 7 = .ok (.iload_n 3, 1) := by decide +kernel
theorem dX10_inLeastTerms_8 : decode cX10_inLeastTerms 8 = .ok (.irem, 1) := by decide +kernel
theorem dX10_inLeastTerms_9 : decode cX10_inLeastTerms 9 = .ok (.ifCond .ne 21, 3) := by decide +kernel
theorem dX10_inLeastTerms_12 : decode cX10_inLeastTerms 12 = .ok (.iload_n 1, 1) := by decide +kernel
theorem dX10_inLeastTerms_13 : decode cX10_inLeastTerms 13 = .ok (.iload_n 3, 1) := by decide +kernel
theorem dX10_inLeastTerms_14 : decode cX10_inLeastTerms 14 = .ok (.irem, 1) := by decide +kernel
theorem dX10_inLeastTerms_15 : decode cX10_inLeastTerms 15 = .ok (.ifCond .ne 15, 3) := by decide +kernel
theorem dX10_inLeastTerms_18 : decode cX10_inLeastTerms 18 = .ok (.iload_n 2, 1) := by decide +kernel
theorem dX10_inLeastTerms_19 : decode cX10_inLeastTerms 19 = .ok (.ifCond .ne 7, 3) := by decide +kernel
theorem dX10_inLeastTerms_22 : decode cX10_inLeastTerms 22 = .ok (.iload_n 0, 1) := by decide +kernel
theorem dX10_inLeastTerms_23 : decode cX10_inLeastTerms 23 = .ok (.goto 4, 3) := by decide +kernel
theorem dX10_inLeastTerms_26 : decode cX10_inLeastTerms 26 = .ok (.iload_n 1, 1) := by decide +kernel
theorem dX10_inLeastTerms_27 : decode cX10_inLeastTerms 27 = .ok (.iload_n 3, 1) := by decide +kernel
theorem dX10_inLeastTerms_28 : decode cX10_inLeastTerms 28 = .ok (.idiv, 1) := by decide +kernel
theorem dX10_inLeastTerms_29 : decode cX10_inLeastTerms 29 = .ok (.ireturn, 1) := by decide +kernel
theorem dX10_inLeastTerms_30 : decode cX10_inLeastTerms 30 = .ok (.iinc 3 (-1), 3) := by decide +kernel
theorem dX10_inLeastTerms_33 : decode cX10_inLeastTerms 33 = .ok (.goto (-31), 3) := by decide +kernel
theorem dX10_inLeastTerms_36 : decode cX10_inLeastTerms 36 = .ok (.iload_n 2, 1) := by decide +kernel
theorem dX10_inLeastTerms_37 : decode cX10_inLeastTerms 37 = .ok (.ifCond .ne 7, 3) := by decide +kernel
theorem dX10_inLeastTerms_40 : decode cX10_inLeastTerms 40 = .ok (.iconst 0, 1) := by decide +kernel
theorem dX10_inLeastTerms_41 : decode cX10_inLeastTerms 41 = .ok (.goto 4, 3) := by decide +kernel
theorem dX10_inLeastTerms_44 : decode cX10_inLeastTerms 44 = .ok (.iconst 1, 1) := by decide +kernel
theorem dX10_inLeastTerms_45 : decode cX10_inLeastTerms 45 = .ok (.ireturn, 1) := by decide +kernel
theorem dX11_init_0 : decode cX11_init 0 = .ok (.aload_n 0, 1) := by decide +kernel
theorem dX11_init_1 : decode cX11_init 1 = .ok (.invokespecial 1, 3) := by decide +kernel
theorem dX11_init_4 : decode cX11_init 4 = .ok (.aload_n 0, 1) := by decide +kernel
theorem dX11_init_5 : decode cX11_init 5 = .ok (.sipush 150, 3) := by decide +kernel
theorem dX11_init_8 : decode cX11_init 8 = .ok (.newarray .int, 2) := by decide +kernel
theorem dX11_init_10 : decode cX11_init 10 = .ok (.putfield 7, 3) := by decide +kernel
theorem dX11_init_13 : decode cX11_init 13 = .ok (.aload_n 0, 1) := by decide +kernel
theorem dX11_init_14 : decode cX11_init 14 = .ok (.bipush 8, 2) := by decide +kernel
theorem dX11_init_16 : decode cX11_init 16 = .ok (.newarray .int, 2) := by decide +kernel
theorem dX11_init_18 : decode cX11_init 18 = .ok (.putfield 13, 3) := by decide +kernel
theorem dX11_init_21 : decode cX11_init 21 = .ok (.aload_n 0, 1) := by decide +kernel
theorem dX11_init_22 : decode cX11_init 22 = .ok (.iconst 5, 1) := by decide +kernel
theorem dX11_init_23 : decode cX11_init 23 = .ok (.newarray .int, 2) := by decide +kernel
theorem dX11_init_25 : decode cX11_init 25 = .ok (.putfield 16, 3) := by decide +kernel
theorem dX11_init_28 : decode cX11_init 28 = .ok (.aload_n 0, 1) := by decide +kernel
theorem dX11_init_29 : decode cX11_init 29 = .ok (.bipush 12, 2) := by decide +kernel
theorem dX11_init_31 : decode cX11_init 31 = .ok (.newarray .int, 2) := by decide +kernel
theorem dX11_init_33 : decode cX11_init 33 = .ok (.putfield 19, 3) := by decide +kernel
theorem dX11_init_36 : decode cX11_init 36 = .ok (.aload_n 0, 1) := by decide +kernel
theorem dX11_init_37 : decode cX11_init 37 = .ok (.bipush 12, 2) := by decide +kernel
theorem dX11_init_39 : decode cX11_init 39 = .ok (.newarray .int, 2) := by decide +kernel
theorem dX11_init_41 : decode cX11_init 41 = .ok (.putfield 22, 3) := by decide +kernel
theorem dX11_init_44 : decode cX11_init 44 = .ok (.aload_n 0, 1) := by decide +kernel
theorem dX11_init_45 : decode cX11_init 45 = .ok (.bipush 6, 2) := by decide +kernel
theorem dX11_init_47 : decode cX11_init 47 = .ok (.newarray .int, 2) := by decide +kernel
theorem dX11_init_49 : decode cX11_init 49 = .ok (.putfield 25, 3) := by decide +kernel
theorem dX11_init_52 : decode cX11_init 52 = .ok (.aload_n 0, 1) := by decide +kernel
theorem dX11_init_53 : decode cX11_init 53 = .ok (.bipush 20, 2) := by decide +kernel
theorem dX11_init_55 : decode cX11_init 55 = .ok (.newarray .int, 2) := by decide +kernel
theorem dX11_init_57 : decode cX11_init 57 = .ok (.putfield 28, 3) := by decide +kernel
theorem dX11_init_60 : decode cX11_init 60 = .ok (.aload_n 0, 1) := by decide +kernel
theorem dX11_init_61 : decode cX11_init 61 = .ok (.bipush 40, 2) := by decide +kernel
theorem dX11_init_63 : decode cX11_init 63 = .ok (.newarray .int, 2) := by decide +kernel
theorem dX11_init_65 : decode cX11_init 65 = .ok (.putfield 31, 3) := by decide +kernel
theorem dX11_init_68 : decode cX11_init 68 = .ok (.aload_n 0, 1) := by decide +kernel
theorem dX11_init_69 : decode cX11_init 69 = .ok (.iconst 2, 1) := by decide +kernel
theorem dX11_init_70 : decode cX11_init 70 = .ok (.newarray .boolean, 2) := by decide +kernel
theorem dX11_init_72 : decode cX11_init 72 = .ok (.putfield 34, 3) := by decide +kernel
theorem dX11_init_75 : decode cX11_init 75 = .ok (.aload_n 0, 1) := by decide +kernel
theorem dX11_init_76 : decode cX11_init 76 = .ok (.sipush 200, 3) := by decide +kernel
theorem dX11_init_79 : decode cX11_init 79 = .ok (.newarray .int, 2) := by decide +kernel
theorem dX11_init_81 : decode cX11_init 81 = .ok (.putfield 38, 3) := by decide +kernel
theorem dX11_init_84 : decode cX11_init 84 = .ok (.aload_n 0, 1) := by decide +kernel
theorem dX11_init_85 : decode cX11_init 85 = .ok (.bipush 6, 2) := by decide +kernel
theorem dX11_init_87 : decode cX11_init 87 = .ok (.newarray .int, 2) := by decide +kernel
theorem dX11_init_89 : decode cX11_init 89 = .ok (.putfield 41, 3) := by decide +kernel
theorem dX11_init_92 : decode cX11_init 92 = .ok (.aload_n 0, 1) := by decide +kernel
theorem dX11_init_93 : decode cX11_init 93 = .ok (.bipush 6, 2) := by decide +kernel
theorem dX11_init_95 : decode cX11_init 95 = .ok (.newarray .int, 2) := by decide +kernel
theorem dX11_init_97 : decode cX11_init 97 = .ok (.putfield 44, 3) := by decide +kernel
theorem dX11_init_100 : decode cX11_init 100 = .ok (.aload_n 0, 1) := by decide +kernel
theorem dX11_init_101 : decode cX11_init 101 = .ok (.bipush 6, 2) := by decide +kernel
theorem dX11_init_103 : decode cX11_init 103 = .ok (.newarray .int, 2) := by decide +kernel
theorem dX11_init_105 : decode cX11_init 105 = .ok (.putfield 47, 3) := by decide +kernel
theorem dX11_init_108 : decode cX11_init 108 = .ok (.aload_n 0, 1) := by decide +kernel
theorem dX11_init_109 : decode cX11_init 109 = .ok (.bipush 6, 2) := by decide +kernel
theorem dX11_init_111 : decode cX11_init 111 = .ok (.newarray .int, 2) := by decide +kernel
theorem dX11_init_113 : decode cX11_init 113 = .ok (.putfield 50, 3) := by decide +kernel
theorem dX11_init_116 : decode cX11_init 116 = .ok (.aload_n 0, 1) := by decide +kernel
theorem dX11_init_117 : decode cX11_init 117 = .ok (.iconst 5, 1) := by decide +kernel
theorem dX11_init_118 : decode cX11_init 118 = .ok (.newarray .int, 2) := by decide +kernel
theorem dX11_init_120 : decode cX11_init 120 = .ok (.putfield 53, 3) := by decide +kernel
theorem dX11_init_123 : decode cX11_init 123 = .ok (.aload_n 0, 1) := by decide +kernel
theorem dX11_init_124 : decode cX11_init 124 = .ok (.iconst 5, 1) := by decide +kernel
theorem dX11_init_125 : decode cX11_init 125 = .ok (.newarray .int, 2) := by decide +kernel
theorem dX11_init_127 : decode cX11_init 127 = .ok (.putfield 56, 3) := by decide +kernel
theorem dX11_init_130 : decode cX11_init 130 = .ok (.aload_n 0, 1) := by decide +kernel
theorem dX11_init_131 : decode cX11_init 131 = .ok (.invokevirtual 59, 3) := by decide +kernel
theorem dX11_init_134 : decode cX11_init 134 = .ok (.aload_n 0, 1) := by decide +kernel
theorem dX11_init_135 : decode cX11_init 135 = .ok (.invokevirtual 62, 3) := by decide +kernel
theorem dX11_init_138 : decode cX11_init 138 = .ok (.return_, 1) := by decide +kernel
theorem dX11_in_0 : decode cX11_in 0 = .ok (.iload_n 0, 1) := by decide +kernel
theorem dX11_in_1 : decode cX11_in 1 = .ok (.iload_n 1, 1) := by decide +kernel
theorem dX11_in_2 : decode cX11_in 2 = .ok (.if_icmp .lt 12, 3) := by decide +kernel
theorem dX11_in_5 : decode cX11_in 5 = .ok (.iload_n 0, 1) := by decide +kernel
theorem dX11_in_6 : decode cX11_in 6 = .ok (.iload_n 2, 1) := by decide +kernel
theorem dX11_in_7 : decode cX11_in 7 = .ok (.if_icmp .gt 7, 3) := by decide +kernel
theorem dX11_in_10 : decode cX11_in 10 = .ok (.iconst 1, 1) := by decide +kernel
theorem dX11_in_11 : decode cX11_in 11 = .ok (.goto 4, 3) := by decide +kernel
theorem dX11_in_14 : decode cX11_in 14 = .ok (.iconst 0, 1) := by decide +kernel
theorem dX11_in_15 : decode cX11_in 15 = .ok (.ireturn, 1) := by decide +kernel
theorem dX11_ones_0 : decode cX11_ones 0 = .ok (.iconst 0, 1) := by decide +kernel
theorem dX11_ones_1 : decode cX11_ones 1 = .ok (.istore_n 1, 1) := by decide +kernel
theorem dX11_ones_2 : decode cX11_ones 2 = .ok (.iconst 0, 1) := by decide +kernel
theorem dX11_ones_3 : decode cX11_ones 3 = .ok (.istore_n 2, 1) := by decide +kernel
theorem dX11_ones_4 : decode cX11_ones 4 = .ok (.iload_n 2, 1) := by decide +kernel
theorem dX11_ones_5 : decode cX11_ones 5 = .ok (.bipush 6, 2) := by decide +kernel
theorem dX11_ones_7 : decode cX11_ones 7 = .ok (.if_icmp .ge 17, 3) := by decide +kernel
theorem dX11_ones_10 : decode cX11_ones 10 = .ok (.iload_n 1, 1) := by decide +kernel
theorem dX11_ones_11 : decode cX11_ones 11 = .ok (.iload_n 0, 1) := by decide +kernel
theorem dX11_ones_12 : decode cX11_ones 12 = .ok (.iload_n 2, 1) := by decide +kernel
theorem dX11_ones_13 : decode cX11_ones 13 = .ok (.ishr, 1) := by decide +kernel
theorem dX11_ones_14 : decode cX11_ones 14 = .ok (.iconst 1, 1) := by decide +kernel
theorem dX11_ones_15 : decode cX11_ones 15 = .ok (.iand, 1) := by decide +kernel
theorem dX11_ones_16 : decode cX11_ones 16 = .ok (.iadd, 1) := by decide +kernel
theorem dX11_ones_17 : decode cX11_ones 17 = .ok (.istore_n 1, 1) := by decide +kernel
theorem dX11_ones_18 : decode cX11_ones 18 = .ok (.iinc 2 1, 3) := by decide +kernel
theorem dX11_ones_21 : decode cX11_ones 21 = .ok (.goto (-17), 3) := by decide +kernel
theorem dX11_ones_24 : decode cX11_ones 24 = .ok (.iload_n 1, 1) := by decide +kernel
theorem dX11_ones_25 : decode cX11_ones 25 = .ok (.ireturn, 1) := by decide +kernel
theorem dX11_type_0 : decode cX11_type 0 = .ok (.aload_n 0, 1) := by decide +kernel
theorem dX11_type_1 : decode cX11_type 1 = .ok (.iconst 0, 1) := by decide +kernel
theorem dX11_type_2 : decode cX11_type 2 = .ok (.putfield 65, 3) := by decide +kernel
theorem dX11_type_5 : decode cX11_type 5 = .ok (.iload_n 1, 1) := by decide +kernel
theorem dX11_type_6 : decode cX11_type 6 = .ok (.iconst 0, 1) := by decide +kernel
theorem dX11_type_7 : decode cX11_type 7 = .ok (.sipush 255, 3) := by decide +kernel
theorem dX11_type_10 : decode cX11_type 10 = .ok (.invokestatic 69, 3) := by decide +kernel
theorem dX11_type_13 : decode cX11_type 13 = .ok (.ifCond .ne 5, 3) := by decide +kernel
theorem dX11_type_16 : decode cX11_type 16 = .ok (.iconst (-1), 1) := by decide +kernel
theorem dX11_type_17 : decode cX11_type 17 = .ok (.ireturn, 1) := by decide +kernel
theorem dX11_type_18 : decode cX11_type 18 = .ok (.aload_n 0, 1) := by decide +kernel
theorem dX11_type_19 : decode cX11_type 19 = .ok (.getfield 73, 3) := by decide +kernel
theorem dX11_type_22 : decode cX11_type 22 = .ok (.sipush 150, 3) := by decide +kernel
theorem dX11_type_25 : decode cX11_type 25 = .ok (.if_icmp .ne 6, 3) := by decide +kernel
theorem dX11_type_28 : decode cX11_type 28 = .ok (.bipush (-3), 2) := by decide +kernel
theorem dX11_type_30 : decode cX11_type 30 = .ok (.ireturn, 1) := by decide +kernel
theorem dX11_type_31 : decode cX11_type 31 = .ok (.aload_n 0, 1) := by decide +kernel
theorem dX11_type_32 : decode cX11_type 32 = .ok (.getfield 7, 3) := by decide +kernel
theorem dX11_type_35 : decode cX11_type 35 = .ok (.aload_n 0, 1) := by decide +kernel
theorem dX11_type_36 : decode cX11_type 36 = .ok (.getfield 73, 3) := by decide +kernel
theorem dX11_type_39 : decode cX11_type 39 = .ok (.iload_n 1, 1) := by decide +kernel
theorem dX11_type_40 : decode cX11_type 40 = .ok (.iastore, 1) := by decide +kernel
theorem dX11_type_41 : decode cX11_type 41 = .ok (.aload_n 0, 1) := by decide +kernel
theorem dX11_type_42 : decode cX11_type 42 = .ok (.dup, 1) := by decide +kernel
theorem dX11_type_43 : decode cX11_type 43 = .ok (.getfield 73, 3) := by decide +kernel
theorem dX11_type_46 : decode cX11_type 46 = .ok (.iconst 1, 1) := by decide +kernel
theorem dX11_type_47 : decode cX11_type 47 = .ok (.iadd, 1) := by decide +kernel
theorem dX11_type_48 : decode cX11_type 48 = .ok (.putfield 73, 3) := by decide +kernel
theorem dX11_type_51 : decode cX11_type 51 = .ok (.aload_n 0, 1) := by decide +kernel
theorem dX11_type_52 : decode cX11_type 52 = .ok (.getfield 73, 3) := by decide +kernel
theorem dX11_type_55 : decode cX11_type 55 = .ok (.ireturn, 1) := by decide +kernel
theorem dX11_clear_0 : decode cX11_clear 0 = .ok (.aload_n 0, 1) := by decide +kernel
theorem dX11_clear_1 : decode cX11_clear 1 = .ok (.iconst 0, 1) := by decide +kernel
theorem dX11_clear_2 : decode cX11_clear 2 = .ok (.putfield 65, 3) := by decide +kernel
theorem dX11_clear_5 : decode cX11_clear 5 = .ok (.aload_n 0, 1) := by decide +kernel
theorem dX11_clear_6 : decode cX11_clear 6 = .ok (.getfield 73, 3) := by decide +kernel
theorem dX11_clear_9 : decode cX11_clear 9 = .ok (.istore_n 1, 1) := by decide +kernel
theorem dX11_clear_10 : decode cX11_clear 10 = .ok (.aload_n 0, 1) := by decide +kernel
theorem dX11_clear_11 : decode cX11_clear 11 = .ok (.iconst 0, 1) := by decide +kernel
theorem dX11_clear_12 : decode cX11_clear 12 = .ok (.putfield 73, 3) := by decide +kernel
theorem dX11_clear_15 : decode cX11_clear 15 = .ok (.iload_n 1, 1) := by decide +kernel
theorem dX11_clear_16 : decode cX11_clear 16 = .ok (.ireturn, 1) := by decide +kernel
theorem dX11_letterAt_0 : decode cX11_letterAt 0 = .ok (.iload_n 1, 1) := by decide +kernel
theorem dX11_letterAt_1 : decode cX11_letterAt 1 = .ok (.aload_n 0, 1) := by decide +kernel
theorem dX11_letterAt_2 : decode cX11_letterAt 2 = .ok (.getfield 73, 3) := by decide +kernel
theorem dX11_letterAt_5 : decode cX11_letterAt 5 = .ok (.if_icmp .ge 12, 3) := by decide +kernel
theorem dX11_letterAt_8 : decode cX11_letterAt 8 = .ok (.aload_n 0, 1) := by decide +kernel
theorem dX11_letterAt_9 : decode cX11_letterAt 9 = .ok (.getfield 7, 3) := by decide +kernel
theorem dX11_letterAt_12 : decode cX11_letterAt 12 = .ok (.iload_n 1, 1) := by decide +kernel
theorem dX11_letterAt_13 : decode cX11_letterAt 13 = .ok (.iaload, 1) := by decide +kernel
theorem dX11_letterAt_14 : decode cX11_letterAt 14 = .ok (.goto 4, 3) := by decide +kernel
theorem dX11_letterAt_17 : decode cX11_letterAt 17 = .ok (.iconst (-1), 1) := by decide +kernel
theorem dX11_letterAt_18 : decode cX11_letterAt 18 = .ok (.ireturn, 1) := by decide +kernel
theorem dX11_advances_0 : decode cX11_advances 0 = .ok (.aload_n 0, 1) := by decide +kernel
theorem dX11_advances_1 : decode cX11_advances 1 = .ok (.aload_n 0, 1) := by decide +kernel
theorem dX11_advances_2 : decode cX11_advances 2 = .ok (.getfield 76, 3) := by decide +kernel
theorem dX11_advances_5 : decode cX11_advances 5 = .ok (.invokevirtual 79, 3) := by decide +kernel
theorem dX11_advances_8 : decode cX11_advances 8 = .ok (.bipush 32, 2) := by decide +kernel
theorem dX11_advances_10 : decode cX11_advances 10 = .ok (.if_icmp .ne 16, 3) := by decide +kernel
theorem dX11_advances_13 : decode cX11_advances 13 = .ok (.aload_n 0, 1) := by decide +kernel
theorem dX11_advances_14 : decode cX11_advances 14 = .ok (.dup, 1) := by decide +kernel
theorem dX11_advances_15 : decode cX11_advances 15 = .ok (.getfield 76, 3) := by decide +kernel
theorem dX11_advances_18 : decode cX11_advances 18 = .ok (.iconst 1, 1) := by decide +kernel
theorem dX11_advances_19 : decode cX11_advances 19 = .ok (.iadd, 1) := by decide +kernel
theorem dX11_advances_20 : decode cX11_advances 20 = .ok (.putfield 76, 3) := by decide +kernel
theorem dX11_advances_23 : decode cX11_advances 23 = .ok (.goto (-23), 3) := by decide +kernel
theorem dX11_advances_26 : decode cX11_advances 26 = .ok (.aload_n 0, 1) := by decide +kernel
theorem dX11_advances_27 : decode cX11_advances 27 = .ok (.aload_n 0, 1) := by decide +kernel
theorem dX11_advances_28 : decode cX11_advances 28 = .ok (.getfield 76, 3) := by decide +kernel
theorem dX11_advances_31 : decode cX11_advances 31 = .ok (.putfield 83, 3) := by decide +kernel
theorem dX11_advances_34 : decode cX11_advances 34 = .ok (.aload_n 0, 1) := by decide +kernel
theorem dX11_advances_35 : decode cX11_advances 35 = .ok (.aload_n 0, 1) := by decide +kernel
theorem dX11_advances_36 : decode cX11_advances 36 = .ok (.getfield 76, 3) := by decide +kernel
theorem dX11_advances_39 : decode cX11_advances 39 = .ok (.invokevirtual 79, 3) := by decide +kernel
theorem dX11_advances_42 : decode cX11_advances 42 = .ok (.istore_n 1, 1) := by decide +kernel
theorem dX11_advances_43 : decode cX11_advances 43 = .ok (.iload_n 1, 1) := by decide +kernel
theorem dX11_advances_44 : decode cX11_advances 44 = .ok (.ifCond .ge 11, 3) := by decide +kernel
theorem dX11_advances_47 : decode cX11_advances 47 = .ok (.aload_n 0, 1) := by decide +kernel
theorem dX11_advances_48 : decode cX11_advances 48 = .ok (.iconst 0, 1) := by decide +kernel
theorem dX11_advances_49 : decode cX11_advances 49 = .ok (.putfield 86, 3) := by decide +kernel
theorem dX11_advances_52 : decode cX11_advances 52 = .ok (.goto 187, 3) := by decide +kernel
theorem dX11_advances_55 : decode cX11_advances 55 = .ok (.iload_n 1, 1) := by decide +kernel
theorem dX11_advances_56 : decode cX11_advances 56 = .ok (.bipush 48, 2) := by decide +kernel
theorem dX11_advances_58 : decode cX11_advances 58 = .ok (.bipush 57, 2) := by decide +kernel
theorem dX11_advances_60 : decode cX11_advances 60 = .ok (.invokestatic 69, 3) := by decide +kernel
theorem dX11_advances_63 : decode cX11_advances 63 = .ok (.ifCond .eq 118, 3) := by decide +kernel
theorem dX11_advances_66 : decode cX11_advances 66 = .ok (.aload_n 0, 1) := by decide +kernel
theorem dX11_advances_67 : decode cX11_advances 67 = .ok (.iconst 0, 1) := by decide +kernel
theorem dX11_advances_68 : decode cX11_advances 68 = .ok (.putfield 89, 3) := by decide +kernel
theorem dX11_advances_71 : decode cX11_advances 71 = .ok (.aload_n 0, 1) := by decide +kernel
theorem dX11_advances_72 : decode cX11_advances 72 = .ok (.aload_n 0, 1) := by decide +kernel
theorem dX11_advances_73 : decode cX11_advances 73 = .ok (.getfield 76, 3) := by decide +kernel
theorem dX11_advances_76 : decode cX11_advances 76 = .ok (.invokevirtual 79, 3) := by decide +kernel
theorem dX11_advances_79 : decode cX11_advances 79 = .ok (.bipush 48, 2) := by decide +kernel
theorem dX11_advances_81 : decode cX11_advances 81 = .ok (.bipush 57, 2) := by decide +kernel
theorem dX11_advances_83 : decode cX11_advances 83 = .ok (.invokestatic 69, 3) := by decide +kernel
theorem dX11_advances_86 : decode cX11_advances 86 = .ok (.ifCond .eq 55, 3) := by decide +kernel
theorem dX11_advances_89 : decode cX11_advances 89 = .ok (.aload_n 0, 1) := by decide +kernel
theorem dX11_advances_90 : decode cX11_advances 90 = .ok (.aload_n 0, 1) := by decide +kernel
theorem dX11_advances_91 : decode cX11_advances 91 = .ok (.getfield 89, 3) := by decide +kernel
theorem dX11_advances_94 : decode cX11_advances 94 = .ok (.bipush 99, 2) := by decide +kernel
theorem dX11_advances_96 : decode cX11_advances 96 = .ok (.if_icmp .le 10, 3) := by decide +kernel
theorem dX11_advances_99 : decode cX11_advances 99 = .ok (.aload_n 0, 1) := by decide +kernel
theorem dX11_advances_100 : decode cX11_advances 100 = .ok (.getfield 89, 3) := by decide +kernel
theorem dX11_advances_103 : decode cX11_advances 103 = .ok (.goto 22, 3) := by decide +kernel
theorem dX11_advances_106 : decode cX11_advances 106 = .ok (.bipush 10, 2) := by decide +kernel
theorem dX11_advances_108 : decode cX11_advances 108 = .ok (.aload_n 0, 1) := by decide +kernel
theorem dX11_advances_109 : decode cX11_advances 109 = .ok (.getfield 89, 3) := by decide +kernel
theorem dX11_advances_112 : decode cX11_advances 112 = .ok (.imul, 1) := by decide +kernel
theorem dX11_advances_113 : decode cX11_advances 113 = .ok (.aload_n 0, 1) := by decide +kernel
theorem dX11_advances_114 : decode cX11_advances 114 = .ok (.aload_n 0, 1) := by decide +kernel
theorem dX11_advances_115 : decode cX11_advances 115 = .ok (.getfield 76, 3) := by decide +kernel
theorem dX11_advances_118 : decode cX11_advances 118 = .ok (.invokevirtual 79, 3) := by decide +kernel
theorem dX11_advances_121 : decode cX11_advances 121 = .ok (.iadd, 1) := by decide +kernel
theorem dX11_advances_122 : decode cX11_advances 122 = .ok (.bipush 48, 2) := by decide +kernel
theorem dX11_advances_124 : decode cX11_advances 124 = .ok (.isub, 1) := by decide +kernel
theorem dX11_advances_125 : decode cX11_advances 125 = .ok (.putfield 89, 3) := by decide +kernel
theorem dX11_advances_128 : decode cX11_advances 128 = .ok (.aload_n 0, 1) := by decide +kernel
theorem dX11_advances_129 : decode cX11_advances 129 = .ok (.dup, 1) := by decide +kernel
theorem dX11_advances_130 : decode cX11_advances 130 = .ok (.getfield 76, 3) := by decide +kernel
theorem dX11_advances_133 : decode cX11_advances 133 = .ok (.iconst 1, 1) := by decide +kernel
theorem dX11_advances_134 : decode cX11_advances 134 = .ok (.iadd, 1) := by decide +kernel
theorem dX11_advances_135 : decode cX11_advances 135 = .ok (.putfield 76, 3) := by decide +kernel
theorem dX11_advances_138 : decode cX11_advances 138 = .ok (.goto (-67), 3) := by decide +kernel
theorem dX11_advances_141 : decode cX11_advances 141 = .ok (.aload_n 0, 1) := by decide +kernel
theorem dX11_advances_142 : decode cX11_advances 142 = .ok (.aload_n 0, 1) := by decide +kernel
theorem dX11_advances_143 : decode cX11_advances 143 = .ok (.getfield 89, 3) := by decide +kernel
theorem dX11_advances_146 : decode cX11_advances 146 = .ok (.bipush 99, 2) := by decide +kernel
theorem dX11_advances_148 : decode cX11_advances 148 = .ok (.if_icmp .gt 22, 3) := by decide +kernel
theorem dX11_advances_151 : decode cX11_advances 151 = .ok (.iload_n 1, 1) := by decide +kernel
theorem dX11_advances_152 : decode cX11_advances 152 = .ok (.bipush 48, 2) := by decide +kernel
theorem dX11_advances_154 : decode cX11_advances 154 = .ok (.if_icmp .ne 20, 3) := by decide +kernel
theorem dX11_advances_157 : decode cX11_advances 157 = .ok (.aload_n 0, 1) := by decide +kernel
theorem dX11_advances_158 : decode cX11_advances 158 = .ok (.getfield 76, 3) := by decide +kernel
theorem dX11_advances_161 : decode cX11_advances 161 = .ok (.aload_n 0, 1) := by decide +kernel
theorem dX11_advances_162 : decode cX11_advances 162 = .ok (.getfield 83, 3) := by decide +kernel
theorem dX11_advances_165 : decode cX11_advances 165 = .ok (.isub, 1) := by decide +kernel
theorem dX11_advances_166 : decode cX11_advances 166 = .ok (.iconst 1, 1) := by decide +kernel
theorem dX11_advances_167 : decode cX11_advances 167 = .ok (.if_icmp .le 7, 3) := by decide +kernel
theorem dX11_advances_170 : decode cX11_advances 170 = .ok (.iconst 4, 1) := by decide +kernel
theorem dX11_advances_171 : decode cX11_advances 171 = .ok (.goto 4, 3) := by decide +kernel
theorem dX11_advances_174 : decode cX11_advances 174 = .ok (.iconst 2, 1) := by decide +kernel
theorem dX11_advances_175 : decode cX11_advances 175 = .ok (.putfield 86, 3) := by decide +kernel
theorem dX11_advances_178 : decode cX11_advances 178 = .ok (.goto 61, 3) := by decide +kernel
theorem dX11_advances_181 : decode cX11_advances 181 = .ok (.aload_n 0, 1) := by decide +kernel
theorem dX11_advances_182 : decode cX11_advances 182 = .ok (.dup, 1) := by decide +kernel
theorem dX11_advances_183 : decode cX11_advances 183 = .ok (.getfield 76, 3) := by decide +kernel
theorem dX11_advances_186 : decode cX11_advances 186 = .ok (.iconst 1, 1) := by decide +kernel
theorem dX11_advances_187 : decode cX11_advances 187 = .ok (.iadd, 1) := by decide +kernel
theorem dX11_advances_188 : decode cX11_advances 188 = .ok (.putfield 76, 3) := by decide +kernel
theorem dX11_advances_191 : decode cX11_advances 191 = .ok (.aload_n 0, 1) := by decide +kernel
theorem dX11_advances_192 : decode cX11_advances 192 = .ok (.iload_n 1, 1) := by decide +kernel
theorem dX11_advances_193 : decode cX11_advances 193 = .ok (.putfield 89, 3) := by decide +kernel
theorem dX11_advances_196 : decode cX11_advances 196 = .ok (.aload_n 0, 1) := by decide +kernel
theorem dX11_advances_197 : decode cX11_advances 197 = .ok (.iload_n 1, 1) := by decide +kernel
theorem dX11_advances_198 : decode cX11_advances 198 = .ok (.bipush 59, 2) := by decide +kernel
theorem dX11_advances_200 : decode cX11_advances 200 = .ok (.if_icmp .ne 7, 3) := by decide +kernel
theorem dX11_advances_203 : decode cX11_advances 203 = .ok (.iconst 3, 1) := by decide +kernel
theorem dX11_advances_204 : decode cX11_advances 204 = .ok (.goto 32, 3) := by decide +kernel
theorem dX11_advances_207 : decode cX11_advances 207 = .ok (.iload_n 1, 1) := by decide +kernel
theorem dX11_advances_208 : decode cX11_advances 208 = .ok (.bipush 112, 2) := by decide +kernel
theorem dX11_advances_210 : decode cX11_advances 210 = .ok (.if_icmp .eq 21, 3) := by decide +kernel
theorem dX11_advances_213 : decode cX11_advances 213 = .ok (.iload_n 1, 1) := by decide +kernel
theorem dX11_advances_214 : decode cX11_advances 214 = .ok (.bipush 110, 2) := by decide +kernel
theorem dX11_advances_216 : decode cX11_advances 216 = .ok (.if_icmp .eq 15, 3) := by decide +kernel
theorem dX11_advances_219 : decode cX11_advances 219 = .ok (.iload_n 1, 1) := by decide +kernel
theorem dX11_advances_220 : decode cX11_advances 220 = .ok (.bipush 98, 2) := by decide +kernel
theorem dX11_advances_222 : decode cX11_advances 222 = .ok (.if_icmp .eq 9, 3) := by decide +kernel
theorem dX11_advances_225 : decode cX11_advances 225 = .ok (.iload_n 1, 1) := by decide +kernel
theorem dX11_advances_226 : decode cX11_advances 226 = .ok (.bipush 115, 2) := by decide +kernel
theorem dX11_advances_228 : decode cX11_advances 228 = .ok (.if_icmp .ne 7, 3) := by decide +kernel
theorem dX11_advances_231 : decode cX11_advances 231 = .ok (.iconst 1, 1) := by decide +kernel
theorem dX11_advances_232 : decode cX11_advances 232 = .ok (.goto 4, 3) := by decide +kernel
theorem dX11_advances_235 : decode cX11_advances 235 = .ok (.iconst 4, 1) := by decide +kernel
theorem dX11_advances_236 : decode cX11_advances 236 = .ok (.putfield 86, 3) := by decide +kernel
theorem dX11_advances_239 : decode cX11_advances 239 = .ok (.return_, 1) := by decide +kernel
theorem dX11_isWell_0 : decode cX11_isWell 0 = .ok (.aload_n 0, 1) := by decide +kernel
theorem dX11_isWell_1 : decode cX11_isWell 1 = .ok (.getfield 92, 3) := by decide +kernel
theorem dX11_isWell_4 : decode cX11_isWell 4 = .ok (.ifCond .ge 7, 3) := by decide +kernel
theorem dX11_isWell_7 : decode cX11_isWell 7 = .ok (.iconst 1, 1) := by decide +kernel
theorem dX11_isWell_8 : decode cX11_isWell 8 = .ok (.goto 4, 3) := by decide +kernel
theorem dX11_isWell_11 : decode cX11_isWell 11 = .ok (.iconst 0, 1) := by decide +kernel
theorem dX11_isWell_12 : decode cX11_isWell 12 = .ok (.ireturn, 1) := by decide +kernel
theorem dX11_takes_0 : decode cX11_takes 0 = .ok (.aload_n 0, 1) := by decide +kernel
theorem dX11_takes_1 : decode cX11_takes 1 = .ok (.invokevirtual 95, 3) := by decide +kernel
theorem dX11_takes_4 : decode cX11_takes 4 = .ok (.ifCond .ne 5, 3) := by decide +kernel
theorem dX11_takes_7 : decode cX11_takes 7 = .ok (.iconst 0, 1) := by decide +kernel
theorem dX11_takes_8 : decode cX11_takes 8 = .ok (.ireturn, 1) := by decide +kernel
theorem dX11_takes_9 : decode cX11_takes 9 = .ok (.iload_n 1, 1) := by decide +kernel
theorem dX11_takes_10 : decode cX11_takes 10 = .ok (.ifCond .ne 13, 3) := by decide +kernel
theorem dX11_takes_13 : decode cX11_takes 13 = .ok (.aload_n 0, 1) := by decide +kernel
theorem dX11_takes_14 : decode cX11_takes 14 = .ok (.aload_n 0, 1) := by decide +kernel
theorem dX11_takes_15 : decode cX11_takes 15 = .ok (.getfield 83, 3) := by decide +kernel
theorem dX11_takes_18 : decode cX11_takes 18 = .ok (.putfield 92, 3) := by decide +kernel
theorem dX11_takes_21 : decode cX11_takes 21 = .ok (.iconst 0, 1) := by decide +kernel
theorem dX11_takes_22 : decode cX11_takes 22 = .ok (.ireturn, 1) := by decide +kernel
theorem dX11_takes_23 : decode cX11_takes 23 = .ok (.aload_n 0, 1) := by decide +kernel
theorem dX11_takes_24 : decode cX11_takes 24 = .ok (.getfield 89, 3) := by decide +kernel
theorem dX11_takes_27 : decode cX11_takes 27 = .ok (.istore_n 2, 1) := by decide +kernel
theorem dX11_takes_28 : decode cX11_takes 28 = .ok (.aload_n 0, 1) := by decide +kernel
theorem dX11_takes_29 : decode cX11_takes 29 = .ok (.invokevirtual 99, 3) := by decide +kernel
theorem dX11_takes_32 : decode cX11_takes 32 = .ok (.iload_n 2, 1) := by decide +kernel
theorem dX11_takes_33 : decode cX11_takes 33 = .ok (.ireturn, 1) := by decide +kernel
theorem dX11_number_0 : decode cX11_number 0 = .ok (.aload_n 0, 1) := by decide +kernel
theorem dX11_number_1 : decode cX11_number 1 = .ok (.aload_n 0, 1) := by decide +kernel
theorem dX11_number_2 : decode cX11_number 2 = .ok (.getfield 86, 3) := by decide +kernel
theorem dX11_number_5 : decode cX11_number 5 = .ok (.iconst 2, 1) := by decide +kernel
theorem dX11_number_6 : decode cX11_number 6 = .ok (.if_icmp .ne 19, 3) := by decide +kernel
theorem dX11_number_9 : decode cX11_number 9 = .ok (.aload_n 0, 1) := by decide +kernel
theorem dX11_number_10 : decode cX11_number 10 = .ok (.getfield 89, 3) := by decide +kernel
theorem dX11_number_13 : decode cX11_number 13 = .ok (.iload_n 1, 1) := by decide +kernel
theorem dX11_number_14 : decode cX11_number 14 = .ok (.iload_n 2, 1) := by decide +kernel
theorem dX11_number_15 : decode cX11_number 15 = .ok (.invokestatic 69, 3) := by decide +kernel
theorem dX11_number_18 : decode cX11_number 18 = .ok (.ifCond .eq 7, 3) := by decide +kernel
theorem dX11_number_21 : decode cX11_number 21 = .ok (.iconst 1, 1) := by decide +kernel
theorem dX11_number_22 : decode cX11_number 22 = .ok (.goto 4, 3) := by decide +kernel
theorem dX11_number_25 : decode cX11_number 25 = .ok (.iconst 0, 1) := by decide +kernel
theorem dX11_number_26 : decode cX11_number 26 = .ok (.invokevirtual 102, 3) := by decide +kernel
theorem dX11_number_29 : decode cX11_number 29 = .ok (.ireturn, 1) := by decide +kernel
theorem dX11_begins_0 : decode cX11_begins 0 = .ok (.aload_n 0, 1) := by decide +kernel
theorem dX11_begins_1 : decode cX11_begins 1 = .ok (.iconst 0, 1) := by decide +kernel
theorem dX11_begins_2 : decode cX11_begins 2 = .ok (.putfield 106, 3) := by decide +kernel
theorem dX11_begins_5 : decode cX11_begins 5 = .ok (.aload_n 0, 1) := by decide +kernel
theorem dX11_begins_6 : decode cX11_begins 6 = .ok (.getfield 13, 3) := by decide +kernel
theorem dX11_begins_9 : decode cX11_begins 9 = .ok (.iconst 4, 1) := by decide +kernel
theorem dX11_begins_10 : decode cX11_begins 10 = .ok (.iconst 0, 1) := by decide +kernel
theorem dX11_begins_11 : decode cX11_begins 11 = .ok (.iastore, 1) := by decide +kernel
theorem dX11_begins_12 : decode cX11_begins 12 = .ok (.aload_n 0, 1) := by decide +kernel
theorem dX11_begins_13 : decode cX11_begins 13 = .ok (.getfield 13, 3) := by decide +kernel
theorem dX11_begins_16 : decode cX11_begins 16 = .ok (.iconst 5, 1) := by decide +kernel
theorem dX11_begins_17 : decode cX11_begins 17 = .ok (.iconst 0, 1) := by decide +kernel
theorem dX11_begins_18 : decode cX11_begins 18 = .ok (.iastore, 1) := by decide +kernel
theorem dX11_begins_19 : decode cX11_begins 19 = .ok (.aload_n 0, 1) := by decide +kernel
theorem dX11_begins_20 : decode cX11_begins 20 = .ok (.getfield 13, 3) := by decide +kernel
theorem dX11_begins_23 : decode cX11_begins 23 = .ok (.bipush 6, 2) := by decide +kernel
theorem dX11_begins_25 : decode cX11_begins 25 = .ok (.iconst 3, 1) := by decide +kernel
theorem dX11_begins_26 : decode cX11_begins 26 = .ok (.iastore, 1) := by decide +kernel
theorem dX11_begins_27 : decode cX11_begins 27 = .ok (.aload_n 0, 1) := by decide +kernel
theorem dX11_begins_28 : decode cX11_begins 28 = .ok (.getfield 13, 3) := by decide +kernel
theorem dX11_begins_31 : decode cX11_begins 31 = .ok (.bipush 7, 2) := by decide +kernel
theorem dX11_begins_33 : decode cX11_begins 33 = .ok (.iconst 3, 1) := by decide +kernel
theorem dX11_begins_34 : decode cX11_begins 34 = .ok (.iastore, 1) := by decide +kernel
theorem dX11_begins_35 : decode cX11_begins 35 = .ok (.return_, 1) := by decide +kernel
theorem dX11_mayBegin_0 : decode cX11_mayBegin 0 = .ok (.aload_n 0, 1) := by decide +kernel
theorem dX11_mayBegin_1 : decode cX11_mayBegin 1 = .ok (.getfield 89, 3) := by decide +kernel
theorem dX11_mayBegin_4 : decode cX11_mayBegin 4 = .ok (.bipush 112, 2) := by decide +kernel
theorem dX11_mayBegin_6 : decode cX11_mayBegin 6 = .ok (.if_icmp .eq 12, 3) := by decide +kernel
theorem dX11_mayBegin_9 : decode cX11_mayBegin 9 = .ok (.aload_n 0, 1) := by decide +kernel
theorem dX11_mayBegin_10 : decode cX11_mayBegin 10 = .ok (.getfield 89, 3) := by decide +kernel
theorem dX11_mayBegin_13 : decode cX11_mayBegin 13 = .ok (.bipush 110, 2) := by decide +kernel
theorem dX11_mayBegin_15 : decode cX11_mayBegin 15 = .ok (.if_icmp .ne 47, 3) := by decide +kernel
theorem dX11_mayBegin_18 : decode cX11_mayBegin 18 = .ok (.aload_n 0, 1) := by decide +kernel
theorem dX11_mayBegin_19 : decode cX11_mayBegin 19 = .ok (.getfield 89, 3) := by decide +kernel
end
section
theorem dX11_mayBegin_22 : decode cX11_mayBegin 22 = .ok (.bipush 112, 2) := by decide +kernel
theorem dX11_mayBegin_24 : decode cX11_mayBegin 24 = .ok (.if_icmp .ne 21, 3) := by decide +kernel
theorem dX11_mayBegin_27 : decode cX11_mayBegin 27 = .ok (.aload_n 0, 1) := by decide +kernel
theorem dX11_mayBegin_28 : decode cX11_mayBegin 28 = .ok (.getfield 13, 3) := by decide +kernel
theorem dX11_mayBegin_31 : decode cX11_mayBegin 31 = .ok (.iconst 4, 1) := by decide +kernel
theorem dX11_mayBegin_32 : decode cX11_mayBegin 32 = .ok (.iaload, 1) := by decide +kernel
theorem dX11_mayBegin_33 : decode cX11_mayBegin 33 = .ok (.iconst 5, 1) := by decide +kernel
theorem dX11_mayBegin_34 : decode cX11_mayBegin 34 = .ok (.if_icmp .ge 7, 3) := by decide +kernel
theorem dX11_mayBegin_37 : decode cX11_mayBegin 37 = .ok (.iconst 1, 1) := by decide +kernel
theorem dX11_mayBegin_38 : decode cX11_mayBegin 38 = .ok (.goto 23, 3) := by decide +kernel
theorem dX11_mayBegin_41 : decode cX11_mayBegin 41 = .ok (.iconst 0, 1) := by decide +kernel
theorem dX11_mayBegin_42 : decode cX11_mayBegin 42 = .ok (.goto 19, 3) := by decide +kernel
theorem dX11_mayBegin_45 : decode cX11_mayBegin 45 = .ok (.aload_n 0, 1) := by decide +kernel
theorem dX11_mayBegin_46 : decode cX11_mayBegin 46 = .ok (.getfield 13, 3) := by decide +kernel
theorem dX11_mayBegin_49 : decode cX11_mayBegin 49 = .ok (.iconst 5, 1) := by decide +kernel
theorem dX11_mayBegin_50 : decode cX11_mayBegin 50 = .ok (.iaload, 1) := by decide +kernel
theorem dX11_mayBegin_51 : decode cX11_mayBegin 51 = .ok (.bipush 6, 2) := by decide +kernel
theorem dX11_mayBegin_53 : decode cX11_mayBegin 53 = .ok (.if_icmp .ge 7, 3) := by decide +kernel
theorem dX11_mayBegin_56 : decode cX11_mayBegin 56 = .ok (.iconst 1, 1) := by decide +kernel
theorem dX11_mayBegin_57 : decode cX11_mayBegin 57 = .ok (.goto 4, 3) := by decide +kernel
theorem dX11_mayBegin_60 : decode cX11_mayBegin 60 = .ok (.iconst 0, 1) := by decide +kernel
theorem dX11_mayBegin_61 : decode cX11_mayBegin 61 = .ok (.ireturn, 1) := by decide +kernel
theorem dX11_mayBegin_62 : decode cX11_mayBegin 62 = .ok (.aload_n 0, 1) := by decide +kernel
theorem dX11_mayBegin_63 : decode cX11_mayBegin 63 = .ok (.getfield 106, 3) := by decide +kernel
theorem dX11_mayBegin_66 : decode cX11_mayBegin 66 = .ok (.aload_n 0, 1) := by decide +kernel
theorem dX11_mayBegin_67 : decode cX11_mayBegin 67 = .ok (.getfield 89, 3) := by decide +kernel
theorem dX11_mayBegin_70 : decode cX11_mayBegin 70 = .ok (.bipush 98, 2) := by decide +kernel
theorem dX11_mayBegin_72 : decode cX11_mayBegin 72 = .ok (.if_icmp .ne 7, 3) := by decide +kernel
theorem dX11_mayBegin_75 : decode cX11_mayBegin 75 = .ok (.iconst 1, 1) := by decide +kernel
theorem dX11_mayBegin_76 : decode cX11_mayBegin 76 = .ok (.goto 4, 3) := by decide +kernel
theorem dX11_mayBegin_79 : decode cX11_mayBegin 79 = .ok (.iconst 2, 1) := by decide +kernel
theorem dX11_mayBegin_80 : decode cX11_mayBegin 80 = .ok (.iand, 1) := by decide +kernel
theorem dX11_mayBegin_81 : decode cX11_mayBegin 81 = .ok (.ifCond .ne 7, 3) := by decide +kernel
theorem dX11_mayBegin_84 : decode cX11_mayBegin 84 = .ok (.iconst 1, 1) := by decide +kernel
theorem dX11_mayBegin_85 : decode cX11_mayBegin 85 = .ok (.goto 4, 3) := by decide +kernel
theorem dX11_mayBegin_88 : decode cX11_mayBegin 88 = .ok (.iconst 0, 1) := by decide +kernel
theorem dX11_mayBegin_89 : decode cX11_mayBegin 89 = .ok (.ireturn, 1) := by decide +kernel
theorem dX11_readsItem_0 : decode cX11_readsItem 0 = .ok (.iload_n 1, 1) := by decide +kernel
theorem dX11_readsItem_1 : decode cX11_readsItem 1 = .ok (.bipush 112, 2) := by decide +kernel
theorem dX11_readsItem_3 : decode cX11_readsItem 3 = .ok (.if_icmp .ne 34, 3) := by decide +kernel
theorem dX11_readsItem_6 : decode cX11_readsItem 6 = .ok (.aload_n 0, 1) := by decide +kernel
theorem dX11_readsItem_7 : decode cX11_readsItem 7 = .ok (.getfield 16, 3) := by decide +kernel
theorem dX11_readsItem_10 : decode cX11_readsItem 10 = .ok (.aload_n 0, 1) := by decide +kernel
theorem dX11_readsItem_11 : decode cX11_readsItem 11 = .ok (.getfield 13, 3) := by decide +kernel
theorem dX11_readsItem_14 : decode cX11_readsItem 14 = .ok (.iconst 4, 1) := by decide +kernel
theorem dX11_readsItem_15 : decode cX11_readsItem 15 = .ok (.iaload, 1) := by decide +kernel
theorem dX11_readsItem_16 : decode cX11_readsItem 16 = .ok (.aload_n 0, 1) := by decide +kernel
theorem dX11_readsItem_17 : decode cX11_readsItem 17 = .ok (.iconst 0, 1) := by decide +kernel
theorem dX11_readsItem_18 : decode cX11_readsItem 18 = .ok (.bipush 31, 2) := by decide +kernel
theorem dX11_readsItem_20 : decode cX11_readsItem 20 = .ok (.invokevirtual 109, 3) := by decide +kernel
theorem dX11_readsItem_23 : decode cX11_readsItem 23 = .ok (.iastore, 1) := by decide +kernel
theorem dX11_readsItem_24 : decode cX11_readsItem 24 = .ok (.aload_n 0, 1) := by decide +kernel
theorem dX11_readsItem_25 : decode cX11_readsItem 25 = .ok (.getfield 13, 3) := by decide +kernel
theorem dX11_readsItem_28 : decode cX11_readsItem 28 = .ok (.iconst 4, 1) := by decide +kernel
theorem dX11_readsItem_29 : decode cX11_readsItem 29 = .ok (.dup2, 1) := by decide +kernel
theorem dX11_readsItem_30 : decode cX11_readsItem 30 = .ok (.iaload, 1) := by decide +kernel
theorem dX11_readsItem_31 : decode cX11_readsItem 31 = .ok (.iconst 1, 1) := by decide +kernel
theorem dX11_readsItem_32 : decode cX11_readsItem 32 = .ok (.iadd, 1) := by decide +kernel
theorem dX11_readsItem_33 : decode cX11_readsItem 33 = .ok (.iastore, 1) := by decide +kernel
theorem dX11_readsItem_34 : decode cX11_readsItem 34 = .ok (.goto 137, 3) := by decide +kernel
theorem dX11_readsItem_37 : decode cX11_readsItem 37 = .ok (.iload_n 1, 1) := by decide +kernel
theorem dX11_readsItem_38 : decode cX11_readsItem 38 = .ok (.bipush 110, 2) := by decide +kernel
theorem dX11_readsItem_40 : decode cX11_readsItem 40 = .ok (.if_icmp .ne 74, 3) := by decide +kernel
theorem dX11_readsItem_43 : decode cX11_readsItem 43 = .ok (.aload_n 0, 1) := by decide +kernel
theorem dX11_readsItem_44 : decode cX11_readsItem 44 = .ok (.getfield 13, 3) := by decide +kernel
theorem dX11_readsItem_47 : decode cX11_readsItem 47 = .ok (.iconst 5, 1) := by decide +kernel
theorem dX11_readsItem_48 : decode cX11_readsItem 48 = .ok (.iaload, 1) := by decide +kernel
theorem dX11_readsItem_49 : decode cX11_readsItem 49 = .ok (.istore_n 2, 1) := by decide +kernel
theorem dX11_readsItem_50 : decode cX11_readsItem 50 = .ok (.aload_n 0, 1) := by decide +kernel
theorem dX11_readsItem_51 : decode cX11_readsItem 51 = .ok (.getfield 19, 3) := by decide +kernel
theorem dX11_readsItem_54 : decode cX11_readsItem 54 = .ok (.bipush 6, 2) := by decide +kernel
theorem dX11_readsItem_56 : decode cX11_readsItem 56 = .ok (.iload_n 2, 1) := by decide +kernel
theorem dX11_readsItem_57 : decode cX11_readsItem 57 = .ok (.iadd, 1) := by decide +kernel
theorem dX11_readsItem_58 : decode cX11_readsItem 58 = .ok (.aload_n 0, 1) := by decide +kernel
theorem dX11_readsItem_59 : decode cX11_readsItem 59 = .ok (.iconst 1, 1) := by decide +kernel
theorem dX11_readsItem_60 : decode cX11_readsItem 60 = .ok (.bipush 99, 2) := by decide +kernel
theorem dX11_readsItem_62 : decode cX11_readsItem 62 = .ok (.invokevirtual 109, 3) := by decide +kernel
theorem dX11_readsItem_65 : decode cX11_readsItem 65 = .ok (.iastore, 1) := by decide +kernel
theorem dX11_readsItem_66 : decode cX11_readsItem 66 = .ok (.aload_n 0, 1) := by decide +kernel
theorem dX11_readsItem_67 : decode cX11_readsItem 67 = .ok (.getfield 22, 3) := by decide +kernel
theorem dX11_readsItem_70 : decode cX11_readsItem 70 = .ok (.bipush 6, 2) := by decide +kernel
theorem dX11_readsItem_72 : decode cX11_readsItem 72 = .ok (.iload_n 2, 1) := by decide +kernel
theorem dX11_readsItem_73 : decode cX11_readsItem 73 = .ok (.iadd, 1) := by decide +kernel
theorem dX11_readsItem_74 : decode cX11_readsItem 74 = .ok (.aload_n 0, 1) := by decide +kernel
theorem dX11_readsItem_75 : decode cX11_readsItem 75 = .ok (.iconst 0, 1) := by decide +kernel
theorem dX11_readsItem_76 : decode cX11_readsItem 76 = .ok (.bipush 31, 2) := by decide +kernel
theorem dX11_readsItem_78 : decode cX11_readsItem 78 = .ok (.invokevirtual 109, 3) := by decide +kernel
theorem dX11_readsItem_81 : decode cX11_readsItem 81 = .ok (.iastore, 1) := by decide +kernel
theorem dX11_readsItem_82 : decode cX11_readsItem 82 = .ok (.aload_n 0, 1) := by decide +kernel
theorem dX11_readsItem_83 : decode cX11_readsItem 83 = .ok (.getfield 25, 3) := by decide +kernel
theorem dX11_readsItem_86 : decode cX11_readsItem 86 = .ok (.iload_n 2, 1) := by decide +kernel
theorem dX11_readsItem_87 : decode cX11_readsItem 87 = .ok (.aload_n 0, 1) := by decide +kernel
theorem dX11_readsItem_88 : decode cX11_readsItem 88 = .ok (.iconst 0, 1) := by decide +kernel
theorem dX11_readsItem_89 : decode cX11_readsItem 89 = .ok (.aload_n 0, 1) := by decide +kernel
theorem dX11_readsItem_90 : decode cX11_readsItem 90 = .ok (.getfield 13, 3) := by decide +kernel
theorem dX11_readsItem_93 : decode cX11_readsItem 93 = .ok (.iconst 4, 1) := by decide +kernel
theorem dX11_readsItem_94 : decode cX11_readsItem 94 = .ok (.iaload, 1) := by decide +kernel
theorem dX11_readsItem_95 : decode cX11_readsItem 95 = .ok (.iconst 1, 1) := by decide +kernel
theorem dX11_readsItem_96 : decode cX11_readsItem 96 = .ok (.isub, 1) := by decide +kernel
theorem dX11_readsItem_97 : decode cX11_readsItem 97 = .ok (.invokevirtual 109, 3) := by decide +kernel
theorem dX11_readsItem_100 : decode cX11_readsItem 100 = .ok (.iastore, 1) := by decide +kernel
theorem dX11_readsItem_101 : decode cX11_readsItem 101 = .ok (.aload_n 0, 1) := by decide +kernel
theorem dX11_readsItem_102 : decode cX11_readsItem 102 = .ok (.getfield 13, 3) := by decide +kernel
theorem dX11_readsItem_105 : decode cX11_readsItem 105 = .ok (.iconst 5, 1) := by decide +kernel
theorem dX11_readsItem_106 : decode cX11_readsItem 106 = .ok (.dup2, 1) := by decide +kernel
theorem dX11_readsItem_107 : decode cX11_readsItem 107 = .ok (.iaload, 1) := by decide +kernel
theorem dX11_readsItem_108 : decode cX11_readsItem 108 = .ok (.iconst 1, 1) := by decide +kernel
theorem dX11_readsItem_109 : decode cX11_readsItem 109 = .ok (.iadd, 1) := by decide +kernel
theorem dX11_readsItem_110 : decode cX11_readsItem 110 = .ok (.iastore, 1) := by decide +kernel
theorem dX11_readsItem_111 : decode cX11_readsItem 111 = .ok (.goto 60, 3) := by decide +kernel
theorem dX11_readsItem_114 : decode cX11_readsItem 114 = .ok (.iload_n 1, 1) := by decide +kernel
theorem dX11_readsItem_115 : decode cX11_readsItem 115 = .ok (.bipush 98, 2) := by decide +kernel
theorem dX11_readsItem_117 : decode cX11_readsItem 117 = .ok (.if_icmp .ne 30, 3) := by decide +kernel
theorem dX11_readsItem_120 : decode cX11_readsItem 120 = .ok (.aload_n 0, 1) := by decide +kernel
theorem dX11_readsItem_121 : decode cX11_readsItem 121 = .ok (.getfield 13, 3) := by decide +kernel
theorem dX11_readsItem_124 : decode cX11_readsItem 124 = .ok (.bipush 6, 2) := by decide +kernel
theorem dX11_readsItem_126 : decode cX11_readsItem 126 = .ok (.aload_n 0, 1) := by decide +kernel
theorem dX11_readsItem_127 : decode cX11_readsItem 127 = .ok (.iconst 1, 1) := by decide +kernel
theorem dX11_readsItem_128 : decode cX11_readsItem 128 = .ok (.bipush 9, 2) := by decide +kernel
theorem dX11_readsItem_130 : decode cX11_readsItem 130 = .ok (.invokevirtual 109, 3) := by decide +kernel
theorem dX11_readsItem_133 : decode cX11_readsItem 133 = .ok (.iastore, 1) := by decide +kernel
theorem dX11_readsItem_134 : decode cX11_readsItem 134 = .ok (.aload_n 0, 1) := by decide +kernel
theorem dX11_readsItem_135 : decode cX11_readsItem 135 = .ok (.dup, 1) := by decide +kernel
theorem dX11_readsItem_136 : decode cX11_readsItem 136 = .ok (.getfield 106, 3) := by decide +kernel
theorem dX11_readsItem_139 : decode cX11_readsItem 139 = .ok (.iconst 1, 1) := by decide +kernel
theorem dX11_readsItem_140 : decode cX11_readsItem 140 = .ok (.ior, 1) := by decide +kernel
theorem dX11_readsItem_141 : decode cX11_readsItem 141 = .ok (.putfield 106, 3) := by decide +kernel
theorem dX11_readsItem_144 : decode cX11_readsItem 144 = .ok (.goto 27, 3) := by decide +kernel
theorem dX11_readsItem_147 : decode cX11_readsItem 147 = .ok (.aload_n 0, 1) := by decide +kernel
theorem dX11_readsItem_148 : decode cX11_readsItem 148 = .ok (.getfield 13, 3) := by decide +kernel
theorem dX11_readsItem_151 : decode cX11_readsItem 151 = .ok (.bipush 7, 2) := by decide +kernel
theorem dX11_readsItem_153 : decode cX11_readsItem 153 = .ok (.aload_n 0, 1) := by decide +kernel
theorem dX11_readsItem_154 : decode cX11_readsItem 154 = .ok (.iconst 0, 1) := by decide +kernel
theorem dX11_readsItem_155 : decode cX11_readsItem 155 = .ok (.bipush 10, 2) := by decide +kernel
theorem dX11_readsItem_157 : decode cX11_readsItem 157 = .ok (.invokevirtual 109, 3) := by decide +kernel
theorem dX11_readsItem_160 : decode cX11_readsItem 160 = .ok (.iastore, 1) := by decide +kernel
theorem dX11_readsItem_161 : decode cX11_readsItem 161 = .ok (.aload_n 0, 1) := by decide +kernel
theorem dX11_readsItem_162 : decode cX11_readsItem 162 = .ok (.dup, 1) := by decide +kernel
theorem dX11_readsItem_163 : decode cX11_readsItem 163 = .ok (.getfield 106, 3) := by decide +kernel
theorem dX11_readsItem_166 : decode cX11_readsItem 166 = .ok (.iconst 2, 1) := by decide +kernel
theorem dX11_readsItem_167 : decode cX11_readsItem 167 = .ok (.ior, 1) := by decide +kernel
theorem dX11_readsItem_168 : decode cX11_readsItem 168 = .ok (.putfield 106, 3) := by decide +kernel
theorem dX11_readsItem_171 : decode cX11_readsItem 171 = .ok (.return_, 1) := by decide +kernel
theorem dX11_country_0 : decode cX11_country 0 = .ok (.aload_n 0, 1) := by decide +kernel
theorem dX11_country_1 : decode cX11_country 1 = .ok (.iconst 0, 1) := by decide +kernel
theorem dX11_country_2 : decode cX11_country 2 = .ok (.putfield 65, 3) := by decide +kernel
theorem dX11_country_5 : decode cX11_country 5 = .ok (.aload_n 0, 1) := by decide +kernel
theorem dX11_country_6 : decode cX11_country 6 = .ok (.iconst (-1), 1) := by decide +kernel
theorem dX11_country_7 : decode cX11_country 7 = .ok (.putfield 92, 3) := by decide +kernel
theorem dX11_country_10 : decode cX11_country 10 = .ok (.aload_n 0, 1) := by decide +kernel
theorem dX11_country_11 : decode cX11_country 11 = .ok (.iconst 0, 1) := by decide +kernel
theorem dX11_country_12 : decode cX11_country 12 = .ok (.putfield 76, 3) := by decide +kernel
theorem dX11_country_15 : decode cX11_country 15 = .ok (.aload_n 0, 1) := by decide +kernel
theorem dX11_country_16 : decode cX11_country 16 = .ok (.invokevirtual 59, 3) := by decide +kernel
theorem dX11_country_19 : decode cX11_country 19 = .ok (.iconst 0, 1) := by decide +kernel
theorem dX11_country_20 : decode cX11_country 20 = .ok (.istore_n 1, 1) := by decide +kernel
theorem dX11_country_21 : decode cX11_country 21 = .ok (.aload_n 0, 1) := by decide +kernel
theorem dX11_country_22 : decode cX11_country 22 = .ok (.invokevirtual 99, 3) := by decide +kernel
theorem dX11_country_25 : decode cX11_country 25 = .ok (.aload_n 0, 1) := by decide +kernel
theorem dX11_country_26 : decode cX11_country 26 = .ok (.invokevirtual 95, 3) := by decide +kernel
theorem dX11_country_29 : decode cX11_country 29 = .ok (.ifCond .eq 71, 3) := by decide +kernel
theorem dX11_country_32 : decode cX11_country 32 = .ok (.aload_n 0, 1) := by decide +kernel
theorem dX11_country_33 : decode cX11_country 33 = .ok (.getfield 86, 3) := by decide +kernel
theorem dX11_country_36 : decode cX11_country 36 = .ok (.ifCond .eq 64, 3) := by decide +kernel
theorem dX11_country_39 : decode cX11_country 39 = .ok (.aload_n 0, 1) := by decide +kernel
theorem dX11_country_40 : decode cX11_country 40 = .ok (.aload_n 0, 1) := by decide +kernel
theorem dX11_country_41 : decode cX11_country 41 = .ok (.getfield 86, 3) := by decide +kernel
theorem dX11_country_44 : decode cX11_country 44 = .ok (.iconst 1, 1) := by decide +kernel
theorem dX11_country_45 : decode cX11_country 45 = .ok (.if_icmp .ne 14, 3) := by decide +kernel
theorem dX11_country_48 : decode cX11_country 48 = .ok (.aload_n 0, 1) := by decide +kernel
theorem dX11_country_49 : decode cX11_country 49 = .ok (.invokevirtual 113, 3) := by decide +kernel
theorem dX11_country_52 : decode cX11_country 52 = .ok (.ifCond .eq 7, 3) := by decide +kernel
theorem dX11_country_55 : decode cX11_country 55 = .ok (.iconst 1, 1) := by decide +kernel
theorem dX11_country_56 : decode cX11_country 56 = .ok (.goto 4, 3) := by decide +kernel
theorem dX11_country_59 : decode cX11_country 59 = .ok (.iconst 0, 1) := by decide +kernel
theorem dX11_country_60 : decode cX11_country 60 = .ok (.invokevirtual 102, 3) := by decide +kernel
theorem dX11_country_63 : decode cX11_country 63 = .ok (.istore_n 2, 1) := by decide +kernel
theorem dX11_country_64 : decode cX11_country 64 = .ok (.aload_n 0, 1) := by decide +kernel
theorem dX11_country_65 : decode cX11_country 65 = .ok (.invokevirtual 95, 3) := by decide +kernel
theorem dX11_country_68 : decode cX11_country 68 = .ok (.ifCond .eq 8, 3) := by decide +kernel
theorem dX11_country_71 : decode cX11_country 71 = .ok (.aload_n 0, 1) := by decide +kernel
theorem dX11_country_72 : decode cX11_country 72 = .ok (.iload_n 2, 1) := by decide +kernel
theorem dX11_country_73 : decode cX11_country 73 = .ok (.invokevirtual 116, 3) := by decide +kernel
theorem dX11_country_76 : decode cX11_country 76 = .ok (.aload_n 0, 1) := by decide +kernel
theorem dX11_country_77 : decode cX11_country 77 = .ok (.aload_n 0, 1) := by decide +kernel
theorem dX11_country_78 : decode cX11_country 78 = .ok (.getfield 86, 3) := by decide +kernel
theorem dX11_country_81 : decode cX11_country 81 = .ok (.iconst 3, 1) := by decide +kernel
theorem dX11_country_82 : decode cX11_country 82 = .ok (.if_icmp .ne 7, 3) := by decide +kernel
theorem dX11_country_85 : decode cX11_country 85 = .ok (.iconst 1, 1) := by decide +kernel
theorem dX11_country_86 : decode cX11_country 86 = .ok (.goto 4, 3) := by decide +kernel
theorem dX11_country_89 : decode cX11_country 89 = .ok (.iconst 0, 1) := by decide +kernel
theorem dX11_country_90 : decode cX11_country 90 = .ok (.invokevirtual 102, 3) := by decide +kernel
theorem dX11_country_93 : decode cX11_country 93 = .ok (.pop, 1) := by decide +kernel
theorem dX11_country_94 : decode cX11_country 94 = .ok (.iinc 1 1, 3) := by decide +kernel
theorem dX11_country_97 : decode cX11_country 97 = .ok (.goto (-72), 3) := by decide +kernel
theorem dX11_country_100 : decode cX11_country 100 = .ok (.aload_n 0, 1) := by decide +kernel
theorem dX11_country_101 : decode cX11_country 101 = .ok (.invokevirtual 95, 3) := by decide +kernel
theorem dX11_country_104 : decode cX11_country 104 = .ok (.ifCond .ne 11, 3) := by decide +kernel
theorem dX11_country_107 : decode cX11_country 107 = .ok (.bipush (-10), 2) := by decide +kernel
theorem dX11_country_109 : decode cX11_country 109 = .ok (.aload_n 0, 1) := by decide +kernel
theorem dX11_country_110 : decode cX11_country 110 = .ok (.getfield 92, 3) := by decide +kernel
theorem dX11_country_113 : decode cX11_country 113 = .ok (.isub, 1) := by decide +kernel
theorem dX11_country_114 : decode cX11_country 114 = .ok (.ireturn, 1) := by decide +kernel
theorem dX11_country_115 : decode cX11_country 115 = .ok (.aload_n 0, 1) := by decide +kernel
theorem dX11_country_116 : decode cX11_country 116 = .ok (.invokevirtual 62, 3) := by decide +kernel
theorem dX11_country_119 : decode cX11_country 119 = .ok (.iload_n 1, 1) := by decide +kernel
theorem dX11_country_120 : decode cX11_country 120 = .ok (.ireturn, 1) := by decide +kernel
theorem dX11_settles_0 : decode cX11_settles 0 = .ok (.iconst 0, 1) := by decide +kernel
theorem dX11_settles_1 : decode cX11_settles 1 = .ok (.istore_n 1, 1) := by decide +kernel
theorem dX11_settles_2 : decode cX11_settles 2 = .ok (.iload_n 1, 1) := by decide +kernel
theorem dX11_settles_3 : decode cX11_settles 3 = .ok (.iconst 4, 1) := by decide +kernel
theorem dX11_settles_4 : decode cX11_settles 4 = .ok (.if_icmp .ge 23, 3) := by decide +kernel
theorem dX11_settles_7 : decode cX11_settles 7 = .ok (.aload_n 0, 1) := by decide +kernel
theorem dX11_settles_8 : decode cX11_settles 8 = .ok (.getfield 13, 3) := by decide +kernel
theorem dX11_settles_11 : decode cX11_settles 11 = .ok (.iload_n 1, 1) := by decide +kernel
theorem dX11_settles_12 : decode cX11_settles 12 = .ok (.aload_n 0, 1) := by decide +kernel
theorem dX11_settles_13 : decode cX11_settles 13 = .ok (.getfield 13, 3) := by decide +kernel
theorem dX11_settles_16 : decode cX11_settles 16 = .ok (.iconst 4, 1) := by decide +kernel
theorem dX11_settles_17 : decode cX11_settles 17 = .ok (.iload_n 1, 1) := by decide +kernel
theorem dX11_settles_18 : decode cX11_settles 18 = .ok (.iadd, 1) := by decide +kernel
theorem dX11_settles_19 : decode cX11_settles 19 = .ok (.iaload, 1) := by decide +kernel
theorem dX11_settles_20 : decode cX11_settles 20 = .ok (.iastore, 1) := by decide +kernel
theorem dX11_settles_21 : decode cX11_settles 21 = .ok (.iinc 1 1, 3) := by decide +kernel
theorem dX11_settles_24 : decode cX11_settles 24 = .ok (.goto (-22), 3) := by decide +kernel
theorem dX11_settles_27 : decode cX11_settles 27 = .ok (.iconst 0, 1) := by decide +kernel
theorem dX11_settles_28 : decode cX11_settles 28 = .ok (.istore_n 1, 1) := by decide +kernel
theorem dX11_settles_29 : decode cX11_settles 29 = .ok (.iload_n 1, 1) := by decide +kernel
theorem dX11_settles_30 : decode cX11_settles 30 = .ok (.bipush 20, 2) := by decide +kernel
theorem dX11_settles_32 : decode cX11_settles 32 = .ok (.if_icmp .ge 16, 3) := by decide +kernel
theorem dX11_settles_35 : decode cX11_settles 35 = .ok (.aload_n 0, 1) := by decide +kernel
theorem dX11_settles_36 : decode cX11_settles 36 = .ok (.getfield 28, 3) := by decide +kernel
theorem dX11_settles_39 : decode cX11_settles 39 = .ok (.iload_n 1, 1) := by decide +kernel
theorem dX11_settles_40 : decode cX11_settles 40 = .ok (.iconst 0, 1) := by decide +kernel
theorem dX11_settles_41 : decode cX11_settles 41 = .ok (.iastore, 1) := by decide +kernel
theorem dX11_settles_42 : decode cX11_settles 42 = .ok (.iinc 1 1, 3) := by decide +kernel
theorem dX11_settles_45 : decode cX11_settles 45 = .ok (.goto (-16), 3) := by decide +kernel
theorem dX11_settles_48 : decode cX11_settles 48 = .ok (.iconst 0, 1) := by decide +kernel
theorem dX11_settles_49 : decode cX11_settles 49 = .ok (.istore_n 1, 1) := by decide +kernel
theorem dX11_settles_50 : decode cX11_settles 50 = .ok (.iload_n 1, 1) := by decide +kernel
theorem dX11_settles_51 : decode cX11_settles 51 = .ok (.bipush 6, 2) := by decide +kernel
theorem dX11_settles_53 : decode cX11_settles 53 = .ok (.if_icmp .ge 67, 3) := by decide +kernel
theorem dX11_settles_56 : decode cX11_settles 56 = .ok (.aload_n 0, 1) := by decide +kernel
theorem dX11_settles_57 : decode cX11_settles 57 = .ok (.getfield 19, 3) := by decide +kernel
theorem dX11_settles_60 : decode cX11_settles 60 = .ok (.iload_n 1, 1) := by decide +kernel
theorem dX11_settles_61 : decode cX11_settles 61 = .ok (.aload_n 0, 1) := by decide +kernel
theorem dX11_settles_62 : decode cX11_settles 62 = .ok (.getfield 19, 3) := by decide +kernel
theorem dX11_settles_65 : decode cX11_settles 65 = .ok (.bipush 6, 2) := by decide +kernel
theorem dX11_settles_67 : decode cX11_settles 67 = .ok (.iload_n 1, 1) := by decide +kernel
theorem dX11_settles_68 : decode cX11_settles 68 = .ok (.iadd, 1) := by decide +kernel
theorem dX11_settles_69 : decode cX11_settles 69 = .ok (.iaload, 1) := by decide +kernel
theorem dX11_settles_70 : decode cX11_settles 70 = .ok (.iastore, 1) := by decide +kernel
theorem dX11_settles_71 : decode cX11_settles 71 = .ok (.aload_n 0, 1) := by decide +kernel
theorem dX11_settles_72 : decode cX11_settles 72 = .ok (.getfield 22, 3) := by decide +kernel
theorem dX11_settles_75 : decode cX11_settles 75 = .ok (.iload_n 1, 1) := by decide +kernel
theorem dX11_settles_76 : decode cX11_settles 76 = .ok (.aload_n 0, 1) := by decide +kernel
theorem dX11_settles_77 : decode cX11_settles 77 = .ok (.getfield 22, 3) := by decide +kernel
theorem dX11_settles_80 : decode cX11_settles 80 = .ok (.bipush 6, 2) := by decide +kernel
theorem dX11_settles_82 : decode cX11_settles 82 = .ok (.iload_n 1, 1) := by decide +kernel
theorem dX11_settles_83 : decode cX11_settles 83 = .ok (.iadd, 1) := by decide +kernel
theorem dX11_settles_84 : decode cX11_settles 84 = .ok (.iaload, 1) := by decide +kernel
theorem dX11_settles_85 : decode cX11_settles 85 = .ok (.iastore, 1) := by decide +kernel
theorem dX11_settles_86 : decode cX11_settles 86 = .ok (.aload_n 0, 1) := by decide +kernel
theorem dX11_settles_87 : decode cX11_settles 87 = .ok (.getfield 28, 3) := by decide +kernel
theorem dX11_settles_90 : decode cX11_settles 90 = .ok (.iconst 0, 1) := by decide +kernel
theorem dX11_settles_91 : decode cX11_settles 91 = .ok (.iload_n 1, 1) := by decide +kernel
theorem dX11_settles_92 : decode cX11_settles 92 = .ok (.iadd, 1) := by decide +kernel
theorem dX11_settles_93 : decode cX11_settles 93 = .ok (.iload_n 1, 1) := by decide +kernel
theorem dX11_settles_94 : decode cX11_settles 94 = .ok (.aload_n 0, 1) := by decide +kernel
theorem dX11_settles_95 : decode cX11_settles 95 = .ok (.getfield 13, 3) := by decide +kernel
theorem dX11_settles_98 : decode cX11_settles 98 = .ok (.iconst 1, 1) := by decide +kernel
theorem dX11_settles_99 : decode cX11_settles 99 = .ok (.iaload, 1) := by decide +kernel
theorem dX11_settles_100 : decode cX11_settles 100 = .ok (.if_icmp .ge 12, 3) := by decide +kernel
theorem dX11_settles_103 : decode cX11_settles 103 = .ok (.aload_n 0, 1) := by decide +kernel
theorem dX11_settles_104 : decode cX11_settles 104 = .ok (.getfield 25, 3) := by decide +kernel
theorem dX11_settles_107 : decode cX11_settles 107 = .ok (.iload_n 1, 1) := by decide +kernel
theorem dX11_settles_108 : decode cX11_settles 108 = .ok (.iaload, 1) := by decide +kernel
theorem dX11_settles_109 : decode cX11_settles 109 = .ok (.goto 4, 3) := by decide +kernel
theorem dX11_settles_112 : decode cX11_settles 112 = .ok (.iconst 0, 1) := by decide +kernel
theorem dX11_settles_113 : decode cX11_settles 113 = .ok (.iastore, 1) := by decide +kernel
theorem dX11_settles_114 : decode cX11_settles 114 = .ok (.iinc 1 1, 3) := by decide +kernel
theorem dX11_settles_117 : decode cX11_settles 117 = .ok (.goto (-67), 3) := by decide +kernel
theorem dX11_settles_120 : decode cX11_settles 120 = .ok (.iconst 0, 1) := by decide +kernel
theorem dX11_settles_121 : decode cX11_settles 121 = .ok (.istore_n 1, 1) := by decide +kernel
theorem dX11_settles_122 : decode cX11_settles 122 = .ok (.iload_n 1, 1) := by decide +kernel
theorem dX11_settles_123 : decode cX11_settles 123 = .ok (.iconst 5, 1) := by decide +kernel
theorem dX11_settles_124 : decode cX11_settles 124 = .ok (.if_icmp .ge 38, 3) := by decide +kernel
theorem dX11_settles_127 : decode cX11_settles 127 = .ok (.aload_n 0, 1) := by decide +kernel
theorem dX11_settles_128 : decode cX11_settles 128 = .ok (.getfield 28, 3) := by decide +kernel
theorem dX11_settles_131 : decode cX11_settles 131 = .ok (.bipush 14, 2) := by decide +kernel
theorem dX11_settles_133 : decode cX11_settles 133 = .ok (.iload_n 1, 1) := by decide +kernel
theorem dX11_settles_134 : decode cX11_settles 134 = .ok (.iadd, 1) := by decide +kernel
theorem dX11_settles_135 : decode cX11_settles 135 = .ok (.iload_n 1, 1) := by decide +kernel
theorem dX11_settles_136 : decode cX11_settles 136 = .ok (.aload_n 0, 1) := by decide +kernel
theorem dX11_settles_137 : decode cX11_settles 137 = .ok (.getfield 13, 3) := by decide +kernel
theorem dX11_settles_140 : decode cX11_settles 140 = .ok (.iconst 0, 1) := by decide +kernel
theorem dX11_settles_141 : decode cX11_settles 141 = .ok (.iaload, 1) := by decide +kernel
theorem dX11_settles_142 : decode cX11_settles 142 = .ok (.if_icmp .ge 12, 3) := by decide +kernel
theorem dX11_settles_145 : decode cX11_settles 145 = .ok (.aload_n 0, 1) := by decide +kernel
theorem dX11_settles_146 : decode cX11_settles 146 = .ok (.getfield 16, 3) := by decide +kernel
theorem dX11_settles_149 : decode cX11_settles 149 = .ok (.iload_n 1, 1) := by decide +kernel
theorem dX11_settles_150 : decode cX11_settles 150 = .ok (.iaload, 1) := by decide +kernel
theorem dX11_settles_151 : decode cX11_settles 151 = .ok (.goto 4, 3) := by decide +kernel
theorem dX11_settles_154 : decode cX11_settles 154 = .ok (.iconst 0, 1) := by decide +kernel
theorem dX11_settles_155 : decode cX11_settles 155 = .ok (.iastore, 1) := by decide +kernel
theorem dX11_settles_156 : decode cX11_settles 156 = .ok (.iinc 1 1, 3) := by decide +kernel
theorem dX11_settles_159 : decode cX11_settles 159 = .ok (.goto (-37), 3) := by decide +kernel
theorem dX11_settles_162 : decode cX11_settles 162 = .ok (.aload_n 0, 1) := by decide +kernel
theorem dX11_settles_163 : decode cX11_settles 163 = .ok (.iconst 0, 1) := by decide +kernel
theorem dX11_settles_164 : decode cX11_settles 164 = .ok (.putfield 73, 3) := by decide +kernel
theorem dX11_settles_167 : decode cX11_settles 167 = .ok (.aload_n 0, 1) := by decide +kernel
theorem dX11_settles_168 : decode cX11_settles 168 = .ok (.iconst 0, 1) := by decide +kernel
theorem dX11_settles_169 : decode cX11_settles 169 = .ok (.putfield 120, 3) := by decide +kernel
theorem dX11_settles_172 : decode cX11_settles 172 = .ok (.aload_n 0, 1) := by decide +kernel
theorem dX11_settles_173 : decode cX11_settles 173 = .ok (.iconst 0, 1) := by decide +kernel
theorem dX11_settles_174 : decode cX11_settles 174 = .ok (.putfield 123, 3) := by decide +kernel
theorem dX11_settles_177 : decode cX11_settles 177 = .ok (.aload_n 0, 1) := by decide +kernel
theorem dX11_settles_178 : decode cX11_settles 178 = .ok (.iconst 0, 1) := by decide +kernel
theorem dX11_settles_179 : decode cX11_settles 179 = .ok (.putfield 126, 3) := by decide +kernel
theorem dX11_settles_182 : decode cX11_settles 182 = .ok (.aload_n 0, 1) := by decide +kernel
theorem dX11_settles_183 : decode cX11_settles 183 = .ok (.getfield 34, 3) := by decide +kernel
theorem dX11_settles_186 : decode cX11_settles 186 = .ok (.iconst 0, 1) := by decide +kernel
theorem dX11_settles_187 : decode cX11_settles 187 = .ok (.iconst 0, 1) := by decide +kernel
theorem dX11_settles_188 : decode cX11_settles 188 = .ok (.bastore, 1) := by decide +kernel
theorem dX11_settles_189 : decode cX11_settles 189 = .ok (.aload_n 0, 1) := by decide +kernel
theorem dX11_settles_190 : decode cX11_settles 190 = .ok (.getfield 34, 3) := by decide +kernel
theorem dX11_settles_193 : decode cX11_settles 193 = .ok (.iconst 1, 1) := by decide +kernel
theorem dX11_settles_194 : decode cX11_settles 194 = .ok (.iconst 0, 1) := by decide +kernel
theorem dX11_settles_195 : decode cX11_settles 195 = .ok (.bastore, 1) := by decide +kernel
theorem dX11_settles_196 : decode cX11_settles 196 = .ok (.return_, 1) := by decide +kernel
theorem dX11_isPerson_0 : decode cX11_isPerson 0 = .ok (.iload_n 1, 1) := by decide +kernel
theorem dX11_isPerson_1 : decode cX11_isPerson 1 = .ok (.iconst 0, 1) := by decide +kernel
theorem dX11_isPerson_2 : decode cX11_isPerson 2 = .ok (.aload_n 0, 1) := by decide +kernel
theorem dX11_isPerson_3 : decode cX11_isPerson 3 = .ok (.getfield 13, 3) := by decide +kernel
theorem dX11_isPerson_6 : decode cX11_isPerson 6 = .ok (.iconst 0, 1) := by decide +kernel
theorem dX11_isPerson_7 : decode cX11_isPerson 7 = .ok (.iaload, 1) := by decide +kernel
theorem dX11_isPerson_8 : decode cX11_isPerson 8 = .ok (.iconst 1, 1) := by decide +kernel
theorem dX11_isPerson_9 : decode cX11_isPerson 9 = .ok (.isub, 1) := by decide +kernel
theorem dX11_isPerson_10 : decode cX11_isPerson 10 = .ok (.invokestatic 69, 3) := by decide +kernel
theorem dX11_isPerson_13 : decode cX11_isPerson 13 = .ok (.ireturn, 1) := by decide +kernel
theorem dX11_isNote_0 : decode cX11_isNote 0 = .ok (.iload_n 1, 1) := by decide +kernel
theorem dX11_isNote_1 : decode cX11_isNote 1 = .ok (.iconst 0, 1) := by decide +kernel
theorem dX11_isNote_2 : decode cX11_isNote 2 = .ok (.aload_n 0, 1) := by decide +kernel
theorem dX11_isNote_3 : decode cX11_isNote 3 = .ok (.getfield 13, 3) := by decide +kernel
theorem dX11_isNote_6 : decode cX11_isNote 6 = .ok (.iconst 1, 1) := by decide +kernel
theorem dX11_isNote_7 : decode cX11_isNote 7 = .ok (.iaload, 1) := by decide +kernel
theorem dX11_isNote_8 : decode cX11_isNote 8 = .ok (.iconst 1, 1) := by decide +kernel
theorem dX11_isNote_9 : decode cX11_isNote 9 = .ok (.isub, 1) := by decide +kernel
theorem dX11_isNote_10 : decode cX11_isNote 10 = .ok (.invokestatic 69, 3) := by decide +kernel
theorem dX11_isNote_13 : decode cX11_isNote 13 = .ok (.ireturn, 1) := by decide +kernel
theorem dX11_isAway_0 : decode cX11_isAway 0 = .ok (.aload_n 0, 1) := by decide +kernel
theorem dX11_isAway_1 : decode cX11_isAway 1 = .ok (.getfield 28, 3) := by decide +kernel
theorem dX11_isAway_4 : decode cX11_isAway 4 = .ok (.bipush 13, 2) := by decide +kernel
theorem dX11_isAway_6 : decode cX11_isAway 6 = .ok (.iaload, 1) := by decide +kernel
theorem dX11_isAway_7 : decode cX11_isAway 7 = .ok (.iload_n 1, 1) := by decide +kernel
theorem dX11_isAway_8 : decode cX11_isAway 8 = .ok (.ishr, 1) := by decide +kernel
theorem dX11_isAway_9 : decode cX11_isAway 9 = .ok (.iconst 1, 1) := by decide +kernel
theorem dX11_isAway_10 : decode cX11_isAway 10 = .ok (.iand, 1) := by decide +kernel
theorem dX11_isAway_11 : decode cX11_isAway 11 = .ok (.iconst 1, 1) := by decide +kernel
theorem dX11_isAway_12 : decode cX11_isAway 12 = .ok (.if_icmp .ne 7, 3) := by decide +kernel
theorem dX11_isAway_15 : decode cX11_isAway 15 = .ok (.iconst 1, 1) := by decide +kernel
theorem dX11_isAway_16 : decode cX11_isAway 16 = .ok (.goto 4, 3) := by decide +kernel
theorem dX11_isAway_19 : decode cX11_isAway 19 = .ok (.iconst 0, 1) := by decide +kernel
theorem dX11_isAway_20 : decode cX11_isAway 20 = .ok (.ireturn, 1) := by decide +kernel
theorem dX11_hasParity_0 : decode cX11_hasParity 0 = .ok (.aload_n 0, 1) := by decide +kernel
theorem dX11_hasParity_1 : decode cX11_hasParity 1 = .ok (.getfield 28, 3) := by decide +kernel
theorem dX11_hasParity_4 : decode cX11_hasParity 4 = .ok (.bipush 12, 2) := by decide +kernel
theorem dX11_hasParity_6 : decode cX11_hasParity 6 = .ok (.iaload, 1) := by decide +kernel
theorem dX11_hasParity_7 : decode cX11_hasParity 7 = .ok (.iload_n 1, 1) := by decide +kernel
theorem dX11_hasParity_8 : decode cX11_hasParity 8 = .ok (.ishr, 1) := by decide +kernel
theorem dX11_hasParity_9 : decode cX11_hasParity 9 = .ok (.iconst 1, 1) := by decide +kernel
theorem dX11_hasParity_10 : decode cX11_hasParity 10 = .ok (.iand, 1) := by decide +kernel
theorem dX11_hasParity_11 : decode cX11_hasParity 11 = .ok (.iconst 1, 1) := by decide +kernel
theorem dX11_hasParity_12 : decode cX11_hasParity 12 = .ok (.if_icmp .ne 7, 3) := by decide +kernel
theorem dX11_hasParity_15 : decode cX11_hasParity 15 = .ok (.iconst 1, 1) := by decide +kernel
theorem dX11_hasParity_16 : decode cX11_hasParity 16 = .ok (.goto 4, 3) := by decide +kernel
theorem dX11_hasParity_19 : decode cX11_hasParity 19 = .ok (.iconst 0, 1) := by decide +kernel
theorem dX11_hasParity_20 : decode cX11_hasParity 20 = .ok (.ireturn, 1) := by decide +kernel
theorem dX11_takers_0 : decode cX11_takers 0 = .ok (.iconst 0, 1) := by decide +kernel
theorem dX11_takers_1 : decode cX11_takers 1 = .ok (.istore_n 3, 1) := by decide +kernel
theorem dX11_takers_2 : decode cX11_takers 2 = .ok (.iconst 0, 1) := by decide +kernel
theorem dX11_takers_3 : decode cX11_takers 3 = .ok (.istore 4, 2) := by decide +kernel
theorem dX11_takers_5 : decode cX11_takers 5 = .ok (.iload 4, 2) := by decide +kernel
theorem dX11_takers_7 : decode cX11_takers 7 = .ok (.aload_n 0, 1) := by decide +kernel
theorem dX11_takers_8 : decode cX11_takers 8 = .ok (.getfield 13, 3) := by decide +kernel
theorem dX11_takers_11 : decode cX11_takers 11 = .ok (.iconst 0, 1) := by decide +kernel
theorem dX11_takers_12 : decode cX11_takers 12 = .ok (.iaload, 1) := by decide +kernel
theorem dX11_takers_13 : decode cX11_takers 13 = .ok (.if_icmp .ge 44, 3) := by decide +kernel
theorem dX11_takers_16 : decode cX11_takers 16 = .ok (.iload_n 3, 1) := by decide +kernel
theorem dX11_takers_17 : decode cX11_takers 17 = .ok (.iload_n 2, 1) := by decide +kernel
theorem dX11_takers_18 : decode cX11_takers 18 = .ok (.ifCond .ne 23, 3) := by decide +kernel
theorem dX11_takers_21 : decode cX11_takers 21 = .ok (.aload_n 0, 1) := by decide +kernel
theorem dX11_takers_22 : decode cX11_takers 22 = .ok (.getfield 22, 3) := by decide +kernel
theorem dX11_takers_25 : decode cX11_takers 25 = .ok (.iload_n 1, 1) := by decide +kernel
theorem dX11_takers_26 : decode cX11_takers 26 = .ok (.iaload, 1) := by decide +kernel
theorem dX11_takers_27 : decode cX11_takers 27 = .ok (.aload_n 0, 1) := by decide +kernel
theorem dX11_takers_28 : decode cX11_takers 28 = .ok (.getfield 28, 3) := by decide +kernel
theorem dX11_takers_31 : decode cX11_takers 31 = .ok (.bipush 14, 2) := by decide +kernel
theorem dX11_takers_33 : decode cX11_takers 33 = .ok (.iload 4, 2) := by decide +kernel
theorem dX11_takers_35 : decode cX11_takers 35 = .ok (.iadd, 1) := by decide +kernel
theorem dX11_takers_36 : decode cX11_takers 36 = .ok (.iaload, 1) := by decide +kernel
theorem dX11_takers_37 : decode cX11_takers 37 = .ok (.iand, 1) := by decide +kernel
theorem dX11_takers_38 : decode cX11_takers 38 = .ok (.ifCond .ne 10, 3) := by decide +kernel
theorem dX11_takers_41 : decode cX11_takers 41 = .ok (.iconst 1, 1) := by decide +kernel
theorem dX11_takers_42 : decode cX11_takers 42 = .ok (.iload 4, 2) := by decide +kernel
theorem dX11_takers_44 : decode cX11_takers 44 = .ok (.ishl, 1) := by decide +kernel
theorem dX11_takers_45 : decode cX11_takers 45 = .ok (.goto 4, 3) := by decide +kernel
theorem dX11_takers_48 : decode cX11_takers 48 = .ok (.iconst 0, 1) := by decide +kernel
theorem dX11_takers_49 : decode cX11_takers 49 = .ok (.ior, 1) := by decide +kernel
theorem dX11_takers_50 : decode cX11_takers 50 = .ok (.istore_n 3, 1) := by decide +kernel
theorem dX11_takers_51 : decode cX11_takers 51 = .ok (.iinc 4 1, 3) := by decide +kernel
theorem dX11_takers_54 : decode cX11_takers 54 = .ok (.goto (-49), 3) := by decide +kernel
theorem dX11_takers_57 : decode cX11_takers 57 = .ok (.iload_n 3, 1) := by decide +kernel
theorem dX11_takers_58 : decode cX11_takers 58 = .ok (.ireturn, 1) := by decide +kernel
theorem dX11_note_0 : decode cX11_note 0 = .ok (.aload_n 0, 1) := by decide +kernel
theorem dX11_note_1 : decode cX11_note 1 = .ok (.iconst 0, 1) := by decide +kernel
theorem dX11_note_2 : decode cX11_note 2 = .ok (.putfield 65, 3) := by decide +kernel
theorem dX11_note_5 : decode cX11_note 5 = .ok (.aload_n 0, 1) := by decide +kernel
theorem dX11_note_6 : decode cX11_note 6 = .ok (.iload_n 1, 1) := by decide +kernel
theorem dX11_note_7 : decode cX11_note 7 = .ok (.invokevirtual 129, 3) := by decide +kernel
theorem dX11_note_10 : decode cX11_note 10 = .ok (.ifCond .eq 13, 3) := by decide +kernel
theorem dX11_note_13 : decode cX11_note 13 = .ok (.iload_n 2, 1) := by decide +kernel
theorem dX11_note_14 : decode cX11_note 14 = .ok (.iconst 0, 1) := by decide +kernel
theorem dX11_note_15 : decode cX11_note 15 = .ok (.bipush 6, 2) := by decide +kernel
theorem dX11_note_17 : decode cX11_note 17 = .ok (.invokestatic 69, 3) := by decide +kernel
theorem dX11_note_20 : decode cX11_note 20 = .ok (.ifCond .ne 5, 3) := by decide +kernel
theorem dX11_note_23 : decode cX11_note 23 = .ok (.iconst (-1), 1) := by decide +kernel
theorem dX11_note_24 : decode cX11_note 24 = .ok (.ireturn, 1) := by decide +kernel
theorem dX11_note_25 : decode cX11_note 25 = .ok (.iload_n 2, 1) := by decide +kernel
theorem dX11_note_26 : decode cX11_note 26 = .ok (.iconst 4, 1) := by decide +kernel
theorem dX11_note_27 : decode cX11_note 27 = .ok (.if_icmp .ge 56, 3) := by decide +kernel
theorem dX11_note_30 : decode cX11_note 30 = .ok (.iload_n 2, 1) := by decide +kernel
theorem dX11_note_31 : decode cX11_note 31 = .ok (.ifCond .ne 12, 3) := by decide +kernel
theorem dX11_note_34 : decode cX11_note 34 = .ok (.aload_n 0, 1) := by decide +kernel
theorem dX11_note_35 : decode cX11_note 35 = .ok (.getfield 19, 3) := by decide +kernel
theorem dX11_note_38 : decode cX11_note 38 = .ok (.iload_n 1, 1) := by decide +kernel
theorem dX11_note_39 : decode cX11_note 39 = .ok (.iaload, 1) := by decide +kernel
theorem dX11_note_40 : decode cX11_note 40 = .ok (.goto 42, 3) := by decide +kernel
theorem dX11_note_43 : decode cX11_note 43 = .ok (.iload_n 2, 1) := by decide +kernel
theorem dX11_note_44 : decode cX11_note 44 = .ok (.iconst 1, 1) := by decide +kernel
theorem dX11_note_45 : decode cX11_note 45 = .ok (.if_icmp .ne 12, 3) := by decide +kernel
theorem dX11_note_48 : decode cX11_note 48 = .ok (.aload_n 0, 1) := by decide +kernel
theorem dX11_note_49 : decode cX11_note 49 = .ok (.getfield 22, 3) := by decide +kernel
theorem dX11_note_52 : decode cX11_note 52 = .ok (.iload_n 1, 1) := by decide +kernel
theorem dX11_note_53 : decode cX11_note 53 = .ok (.iaload, 1) := by decide +kernel
theorem dX11_note_54 : decode cX11_note 54 = .ok (.goto 28, 3) := by decide +kernel
theorem dX11_note_57 : decode cX11_note 57 = .ok (.iload_n 2, 1) := by decide +kernel
theorem dX11_note_58 : decode cX11_note 58 = .ok (.iconst 2, 1) := by decide +kernel
theorem dX11_note_59 : decode cX11_note 59 = .ok (.if_icmp .ne 14, 3) := by decide +kernel
theorem dX11_note_62 : decode cX11_note 62 = .ok (.aload_n 0, 1) := by decide +kernel
theorem dX11_note_63 : decode cX11_note 63 = .ok (.getfield 28, 3) := by decide +kernel
theorem dX11_note_66 : decode cX11_note 66 = .ok (.iconst 0, 1) := by decide +kernel
theorem dX11_note_67 : decode cX11_note 67 = .ok (.iload_n 1, 1) := by decide +kernel
theorem dX11_note_68 : decode cX11_note 68 = .ok (.iadd, 1) := by decide +kernel
theorem dX11_note_69 : decode cX11_note 69 = .ok (.iaload, 1) := by decide +kernel
theorem dX11_note_70 : decode cX11_note 70 = .ok (.goto 12, 3) := by decide +kernel
theorem dX11_note_73 : decode cX11_note 73 = .ok (.aload_n 0, 1) := by decide +kernel
theorem dX11_note_74 : decode cX11_note 74 = .ok (.getfield 28, 3) := by decide +kernel
theorem dX11_note_77 : decode cX11_note 77 = .ok (.bipush 6, 2) := by decide +kernel
theorem dX11_note_79 : decode cX11_note 79 = .ok (.iload_n 1, 1) := by decide +kernel
theorem dX11_note_80 : decode cX11_note 80 = .ok (.iadd, 1) := by decide +kernel
theorem dX11_note_81 : decode cX11_note 81 = .ok (.iaload, 1) := by decide +kernel
theorem dX11_note_82 : decode cX11_note 82 = .ok (.ireturn, 1) := by decide +kernel
theorem dX11_note_83 : decode cX11_note 83 = .ok (.iload_n 2, 1) := by decide +kernel
theorem dX11_note_84 : decode cX11_note 84 = .ok (.iconst 4, 1) := by decide +kernel
theorem dX11_note_85 : decode cX11_note 85 = .ok (.if_icmp .ne 17, 3) := by decide +kernel
theorem dX11_note_88 : decode cX11_note 88 = .ok (.aload_n 0, 1) := by decide +kernel
theorem dX11_note_89 : decode cX11_note 89 = .ok (.getfield 28, 3) := by decide +kernel
theorem dX11_note_92 : decode cX11_note 92 = .ok (.bipush 12, 2) := by decide +kernel
theorem dX11_note_94 : decode cX11_note 94 = .ok (.iaload, 1) := by decide +kernel
theorem dX11_note_95 : decode cX11_note 95 = .ok (.iload_n 1, 1) := by decide +kernel
theorem dX11_note_96 : decode cX11_note 96 = .ok (.ishr, 1) := by decide +kernel
theorem dX11_note_97 : decode cX11_note 97 = .ok (.iconst 1, 1) := by decide +kernel
theorem dX11_note_98 : decode cX11_note 98 = .ok (.iand, 1) := by decide +kernel
theorem dX11_note_99 : decode cX11_note 99 = .ok (.goto 32, 3) := by decide +kernel
theorem dX11_note_102 : decode cX11_note 102 = .ok (.iload_n 2, 1) := by decide +kernel
theorem dX11_note_103 : decode cX11_note 103 = .ok (.iconst 5, 1) := by decide +kernel
theorem dX11_note_104 : decode cX11_note 104 = .ok (.if_icmp .ne 17, 3) := by decide +kernel
theorem dX11_note_107 : decode cX11_note 107 = .ok (.aload_n 0, 1) := by decide +kernel
theorem dX11_note_108 : decode cX11_note 108 = .ok (.getfield 28, 3) := by decide +kernel
theorem dX11_note_111 : decode cX11_note 111 = .ok (.bipush 13, 2) := by decide +kernel
theorem dX11_note_113 : decode cX11_note 113 = .ok (.iaload, 1) := by decide +kernel
theorem dX11_note_114 : decode cX11_note 114 = .ok (.iload_n 1, 1) := by decide +kernel
theorem dX11_note_115 : decode cX11_note 115 = .ok (.ishr, 1) := by decide +kernel
theorem dX11_note_116 : decode cX11_note 116 = .ok (.iconst 1, 1) := by decide +kernel
theorem dX11_note_117 : decode cX11_note 117 = .ok (.iand, 1) := by decide +kernel
theorem dX11_note_118 : decode cX11_note 118 = .ok (.goto 13, 3) := by decide +kernel
theorem dX11_note_121 : decode cX11_note 121 = .ok (.aload_n 0, 1) := by decide +kernel
theorem dX11_note_122 : decode cX11_note 122 = .ok (.iload_n 1, 1) := by decide +kernel
theorem dX11_note_123 : decode cX11_note 123 = .ok (.aload_n 0, 1) := by decide +kernel
theorem dX11_note_124 : decode cX11_note 124 = .ok (.iload_n 1, 1) := by decide +kernel
theorem dX11_note_125 : decode cX11_note 125 = .ok (.invokevirtual 133, 3) := by decide +kernel
theorem dX11_note_128 : decode cX11_note 128 = .ok (.invokevirtual 136, 3) := by decide +kernel
theorem dX11_note_131 : decode cX11_note 131 = .ok (.ireturn, 1) := by decide +kernel
theorem dX11_person_0 : decode cX11_person 0 = .ok (.aload_n 0, 1) := by decide +kernel
theorem dX11_person_1 : decode cX11_person 1 = .ok (.iconst 0, 1) := by decide +kernel
theorem dX11_person_2 : decode cX11_person 2 = .ok (.putfield 65, 3) := by decide +kernel
theorem dX11_person_5 : decode cX11_person 5 = .ok (.aload_n 0, 1) := by decide +kernel
theorem dX11_person_6 : decode cX11_person 6 = .ok (.iload_n 1, 1) := by decide +kernel
theorem dX11_person_7 : decode cX11_person 7 = .ok (.invokevirtual 140, 3) := by decide +kernel
theorem dX11_person_10 : decode cX11_person 10 = .ok (.ifCond .eq 12, 3) := by decide +kernel
theorem dX11_person_13 : decode cX11_person 13 = .ok (.iload_n 2, 1) := by decide +kernel
theorem dX11_person_14 : decode cX11_person 14 = .ok (.iconst 0, 1) := by decide +kernel
theorem dX11_person_15 : decode cX11_person 15 = .ok (.iconst 1, 1) := by decide +kernel
theorem dX11_person_16 : decode cX11_person 16 = .ok (.invokestatic 69, 3) := by decide +kernel
theorem dX11_person_19 : decode cX11_person 19 = .ok (.ifCond .ne 5, 3) := by decide +kernel
theorem dX11_person_22 : decode cX11_person 22 = .ok (.iconst (-1), 1) := by decide +kernel
theorem dX11_person_23 : decode cX11_person 23 = .ok (.ireturn, 1) := by decide +kernel
theorem dX11_person_24 : decode cX11_person 24 = .ok (.iconst 0, 1) := by decide +kernel
theorem dX11_person_25 : decode cX11_person 25 = .ok (.istore_n 3, 1) := by decide +kernel
theorem dX11_person_26 : decode cX11_person 26 = .ok (.iconst 0, 1) := by decide +kernel
theorem dX11_person_27 : decode cX11_person 27 = .ok (.istore 4, 2) := by decide +kernel
theorem dX11_person_29 : decode cX11_person 29 = .ok (.iload 4, 2) := by decide +kernel
theorem dX11_person_31 : decode cX11_person 31 = .ok (.aload_n 0, 1) := by decide +kernel
theorem dX11_person_32 : decode cX11_person 32 = .ok (.getfield 13, 3) := by decide +kernel
theorem dX11_person_35 : decode cX11_person 35 = .ok (.iconst 1, 1) := by decide +kernel
theorem dX11_person_36 : decode cX11_person 36 = .ok (.iaload, 1) := by decide +kernel
theorem dX11_person_37 : decode cX11_person 37 = .ok (.if_icmp .ge 45, 3) := by decide +kernel
theorem dX11_person_40 : decode cX11_person 40 = .ok (.iload_n 3, 1) := by decide +kernel
theorem dX11_person_41 : decode cX11_person 41 = .ok (.aload_n 0, 1) := by decide +kernel
theorem dX11_person_42 : decode cX11_person 42 = .ok (.getfield 28, 3) := by decide +kernel
theorem dX11_person_45 : decode cX11_person 45 = .ok (.iconst 0, 1) := by decide +kernel
theorem dX11_person_46 : decode cX11_person 46 = .ok (.iload 4, 2) := by decide +kernel
theorem dX11_person_48 : decode cX11_person 48 = .ok (.iadd, 1) := by decide +kernel
theorem dX11_person_49 : decode cX11_person 49 = .ok (.iaload, 1) := by decide +kernel
theorem dX11_person_50 : decode cX11_person 50 = .ok (.iload_n 1, 1) := by decide +kernel
theorem dX11_person_51 : decode cX11_person 51 = .ok (.if_icmp .ne 22, 3) := by decide +kernel
theorem dX11_person_54 : decode cX11_person 54 = .ok (.aload_n 0, 1) := by decide +kernel
theorem dX11_person_55 : decode cX11_person 55 = .ok (.iload 4, 2) := by decide +kernel
theorem dX11_person_57 : decode cX11_person 57 = .ok (.invokevirtual 143, 3) := by decide +kernel
theorem dX11_person_60 : decode cX11_person 60 = .ok (.ifCond .ne 13, 3) := by decide +kernel
theorem dX11_person_63 : decode cX11_person 63 = .ok (.aload_n 0, 1) := by decide +kernel
theorem dX11_person_64 : decode cX11_person 64 = .ok (.getfield 19, 3) := by decide +kernel
theorem dX11_person_67 : decode cX11_person 67 = .ok (.iload 4, 2) := by decide +kernel
theorem dX11_person_69 : decode cX11_person 69 = .ok (.iaload, 1) := by decide +kernel
theorem dX11_person_70 : decode cX11_person 70 = .ok (.goto 4, 3) := by decide +kernel
theorem dX11_person_73 : decode cX11_person 73 = .ok (.iconst 0, 1) := by decide +kernel
theorem dX11_person_74 : decode cX11_person 74 = .ok (.iadd, 1) := by decide +kernel
theorem dX11_person_75 : decode cX11_person 75 = .ok (.istore_n 3, 1) := by decide +kernel
theorem dX11_person_76 : decode cX11_person 76 = .ok (.iinc 4 1, 3) := by decide +kernel
theorem dX11_person_79 : decode cX11_person 79 = .ok (.goto (-50), 3) := by decide +kernel
theorem dX11_person_82 : decode cX11_person 82 = .ok (.iload_n 2, 1) := by decide +kernel
theorem dX11_person_83 : decode cX11_person 83 = .ok (.ifCond .ne 15, 3) := by decide +kernel
theorem dX11_person_86 : decode cX11_person 86 = .ok (.aload_n 0, 1) := by decide +kernel
theorem dX11_person_87 : decode cX11_person 87 = .ok (.getfield 28, 3) := by decide +kernel
theorem dX11_person_90 : decode cX11_person 90 = .ok (.bipush 14, 2) := by decide +kernel
theorem dX11_person_92 : decode cX11_person 92 = .ok (.iload_n 1, 1) := by decide +kernel
theorem dX11_person_93 : decode cX11_person 93 = .ok (.iadd, 1) := by decide +kernel
theorem dX11_person_94 : decode cX11_person 94 = .ok (.iaload, 1) := by decide +kernel
theorem dX11_person_95 : decode cX11_person 95 = .ok (.goto 4, 3) := by decide +kernel
theorem dX11_person_98 : decode cX11_person 98 = .ok (.iload_n 3, 1) := by decide +kernel
theorem dX11_person_99 : decode cX11_person 99 = .ok (.ireturn, 1) := by decide +kernel
theorem dX11_worthOfAll_0 : decode cX11_worthOfAll 0 = .ok (.iconst 0, 1) := by decide +kernel
theorem dX11_worthOfAll_1 : decode cX11_worthOfAll 1 = .ok (.istore_n 2, 1) := by decide +kernel
theorem dX11_worthOfAll_2 : decode cX11_worthOfAll 2 = .ok (.iconst 0, 1) := by decide +kernel
theorem dX11_worthOfAll_3 : decode cX11_worthOfAll 3 = .ok (.istore_n 3, 1) := by decide +kernel
theorem dX11_worthOfAll_4 : decode cX11_worthOfAll 4 = .ok (.iload_n 3, 1) := by decide +kernel
theorem dX11_worthOfAll_5 : decode cX11_worthOfAll 5 = .ok (.aload_n 0, 1) := by decide +kernel
theorem dX11_worthOfAll_6 : decode cX11_worthOfAll 6 = .ok (.getfield 13, 3) := by decide +kernel
theorem dX11_worthOfAll_9 : decode cX11_worthOfAll 9 = .ok (.iconst 1, 1) := by decide +kernel
theorem dX11_worthOfAll_10 : decode cX11_worthOfAll 10 = .ok (.iaload, 1) := by decide +kernel
theorem dX11_worthOfAll_11 : decode cX11_worthOfAll 11 = .ok (.if_icmp .ge 43, 3) := by decide +kernel
theorem dX11_worthOfAll_14 : decode cX11_worthOfAll 14 = .ok (.iload_n 2, 1) := by decide +kernel
theorem dX11_worthOfAll_15 : decode cX11_worthOfAll 15 = .ok (.aload_n 0, 1) := by decide +kernel
theorem dX11_worthOfAll_16 : decode cX11_worthOfAll 16 = .ok (.iload_n 3, 1) := by decide +kernel
theorem dX11_worthOfAll_17 : decode cX11_worthOfAll 17 = .ok (.invokevirtual 143, 3) := by decide +kernel
theorem dX11_worthOfAll_20 : decode cX11_worthOfAll 20 = .ok (.ifCond .ne 16, 3) := by decide +kernel
theorem dX11_worthOfAll_23 : decode cX11_worthOfAll 23 = .ok (.iload_n 1, 1) := by decide +kernel
theorem dX11_worthOfAll_24 : decode cX11_worthOfAll 24 = .ok (.ifCond .eq 16, 3) := by decide +kernel
theorem dX11_worthOfAll_27 : decode cX11_worthOfAll 27 = .ok (.aload_n 0, 1) := by decide +kernel
theorem dX11_worthOfAll_28 : decode cX11_worthOfAll 28 = .ok (.getfield 22, 3) := by decide +kernel
theorem dX11_worthOfAll_31 : decode cX11_worthOfAll 31 = .ok (.iload_n 3, 1) := by decide +kernel
theorem dX11_worthOfAll_32 : decode cX11_worthOfAll 32 = .ok (.iaload, 1) := by decide +kernel
theorem dX11_worthOfAll_33 : decode cX11_worthOfAll 33 = .ok (.ifCond .ne 7, 3) := by decide +kernel
theorem dX11_worthOfAll_36 : decode cX11_worthOfAll 36 = .ok (.iconst 0, 1) := by decide +kernel
theorem dX11_worthOfAll_37 : decode cX11_worthOfAll 37 = .ok (.goto 9, 3) := by decide +kernel
theorem dX11_worthOfAll_40 : decode cX11_worthOfAll 40 = .ok (.aload_n 0, 1) := by decide +kernel
theorem dX11_worthOfAll_41 : decode cX11_worthOfAll 41 = .ok (.getfield 19, 3) := by decide +kernel
theorem dX11_worthOfAll_44 : decode cX11_worthOfAll 44 = .ok (.iload_n 3, 1) := by decide +kernel
theorem dX11_worthOfAll_45 : decode cX11_worthOfAll 45 = .ok (.iaload, 1) := by decide +kernel
theorem dX11_worthOfAll_46 : decode cX11_worthOfAll 46 = .ok (.iadd, 1) := by decide +kernel
theorem dX11_worthOfAll_47 : decode cX11_worthOfAll 47 = .ok (.istore_n 2, 1) := by decide +kernel
theorem dX11_worthOfAll_48 : decode cX11_worthOfAll 48 = .ok (.iinc 3 1, 3) := by decide +kernel
theorem dX11_worthOfAll_51 : decode cX11_worthOfAll 51 = .ok (.goto (-47), 3) := by decide +kernel
theorem dX11_worthOfAll_54 : decode cX11_worthOfAll 54 = .ok (.iload_n 2, 1) := by decide +kernel
theorem dX11_worthOfAll_55 : decode cX11_worthOfAll 55 = .ok (.ireturn, 1) := by decide +kernel
theorem dX11_now_0 : decode cX11_now 0 = .ok (.aload_n 0, 1) := by decide +kernel
theorem dX11_now_1 : decode cX11_now 1 = .ok (.iconst 0, 1) := by decide +kernel
theorem dX11_now_2 : decode cX11_now 2 = .ok (.putfield 65, 3) := by decide +kernel
theorem dX11_now_5 : decode cX11_now 5 = .ok (.iload_n 1, 1) := by decide +kernel
theorem dX11_now_6 : decode cX11_now 6 = .ok (.iconst 0, 1) := by decide +kernel
theorem dX11_now_7 : decode cX11_now 7 = .ok (.iconst 5, 1) := by decide +kernel
theorem dX11_now_8 : decode cX11_now 8 = .ok (.invokestatic 69, 3) := by decide +kernel
theorem dX11_now_11 : decode cX11_now 11 = .ok (.ifCond .ne 5, 3) := by decide +kernel
theorem dX11_now_14 : decode cX11_now 14 = .ok (.iconst (-1), 1) := by decide +kernel
theorem dX11_now_15 : decode cX11_now 15 = .ok (.ireturn, 1) := by decide +kernel
theorem dX11_now_16 : decode cX11_now 16 = .ok (.iload_n 1, 1) := by decide +kernel
theorem dX11_now_17 : decode cX11_now 17 = .ok (.ifCond .ne 13, 3) := by decide +kernel
theorem dX11_now_20 : decode cX11_now 20 = .ok (.aload_n 0, 1) := by decide +kernel
theorem dX11_now_21 : decode cX11_now 21 = .ok (.getfield 28, 3) := by decide +kernel
theorem dX11_now_24 : decode cX11_now 24 = .ok (.bipush 12, 2) := by decide +kernel
theorem dX11_now_26 : decode cX11_now 26 = .ok (.iaload, 1) := by decide +kernel
theorem dX11_now_27 : decode cX11_now 27 = .ok (.goto 59, 3) := by decide +kernel
theorem dX11_now_30 : decode cX11_now 30 = .ok (.iload_n 1, 1) := by decide +kernel
theorem dX11_now_31 : decode cX11_now 31 = .ok (.iconst 1, 1) := by decide +kernel
theorem dX11_now_32 : decode cX11_now 32 = .ok (.if_icmp .ne 13, 3) := by decide +kernel
theorem dX11_now_35 : decode cX11_now 35 = .ok (.aload_n 0, 1) := by decide +kernel
theorem dX11_now_36 : decode cX11_now 36 = .ok (.getfield 28, 3) := by decide +kernel
theorem dX11_now_39 : decode cX11_now 39 = .ok (.bipush 13, 2) := by decide +kernel
theorem dX11_now_41 : decode cX11_now 41 = .ok (.iaload, 1) := by decide +kernel
theorem dX11_now_42 : decode cX11_now 42 = .ok (.goto 44, 3) := by decide +kernel
theorem dX11_now_45 : decode cX11_now 45 = .ok (.iload_n 1, 1) := by decide +kernel
theorem dX11_now_46 : decode cX11_now 46 = .ok (.iconst 2, 1) := by decide +kernel
theorem dX11_now_47 : decode cX11_now 47 = .ok (.if_icmp .ne 13, 3) := by decide +kernel
theorem dX11_now_50 : decode cX11_now 50 = .ok (.aload_n 0, 1) := by decide +kernel
theorem dX11_now_51 : decode cX11_now 51 = .ok (.getfield 28, 3) := by decide +kernel
theorem dX11_now_54 : decode cX11_now 54 = .ok (.bipush 19, 2) := by decide +kernel
theorem dX11_now_56 : decode cX11_now 56 = .ok (.iaload, 1) := by decide +kernel
theorem dX11_now_57 : decode cX11_now 57 = .ok (.goto 29, 3) := by decide +kernel
theorem dX11_now_60 : decode cX11_now 60 = .ok (.iload_n 1, 1) := by decide +kernel
theorem dX11_now_61 : decode cX11_now 61 = .ok (.iconst 5, 1) := by decide +kernel
theorem dX11_now_62 : decode cX11_now 62 = .ok (.if_icmp .ne 10, 3) := by decide +kernel
theorem dX11_now_65 : decode cX11_now 65 = .ok (.aload_n 0, 1) := by decide +kernel
theorem dX11_now_66 : decode cX11_now 66 = .ok (.getfield 126, 3) := by decide +kernel
theorem dX11_now_69 : decode cX11_now 69 = .ok (.goto 17, 3) := by decide +kernel
theorem dX11_now_72 : decode cX11_now 72 = .ok (.aload_n 0, 1) := by decide +kernel
theorem dX11_now_73 : decode cX11_now 73 = .ok (.iload_n 1, 1) := by decide +kernel
theorem dX11_now_74 : decode cX11_now 74 = .ok (.iconst 4, 1) := by decide +kernel
theorem dX11_now_75 : decode cX11_now 75 = .ok (.if_icmp .ne 7, 3) := by decide +kernel
theorem dX11_now_78 : decode cX11_now 78 = .ok (.iconst 1, 1) := by decide +kernel
theorem dX11_now_79 : decode cX11_now 79 = .ok (.goto 4, 3) := by decide +kernel
theorem dX11_now_82 : decode cX11_now 82 = .ok (.iconst 0, 1) := by decide +kernel
theorem dX11_now_83 : decode cX11_now 83 = .ok (.invokevirtual 146, 3) := by decide +kernel
theorem dX11_now_86 : decode cX11_now 86 = .ok (.ireturn, 1) := by decide +kernel
theorem dX11_notes_0 : decode cX11_notes 0 = .ok (.aload_n 0, 1) := by decide +kernel
theorem dX11_notes_1 : decode cX11_notes 1 = .ok (.getfield 126, 3) := by decide +kernel
theorem dX11_notes_4 : decode cX11_notes 4 = .ok (.bipush 10, 2) := by decide +kernel
theorem dX11_notes_6 : decode cX11_notes 6 = .ok (.if_icmp .ne 39, 3) := by decide +kernel
theorem dX11_notes_9 : decode cX11_notes 9 = .ok (.iconst 0, 1) := by decide +kernel
theorem dX11_notes_10 : decode cX11_notes 10 = .ok (.istore_n 1, 1) := by decide +kernel
theorem dX11_notes_11 : decode cX11_notes 11 = .ok (.iload_n 1, 1) := by decide +kernel
theorem dX11_notes_12 : decode cX11_notes 12 = .ok (.sipush 180, 3) := by decide +kernel
theorem dX11_notes_15 : decode cX11_notes 15 = .ok (.if_icmp .ge 24, 3) := by decide +kernel
theorem dX11_notes_18 : decode cX11_notes 18 = .ok (.aload_n 0, 1) := by decide +kernel
theorem dX11_notes_19 : decode cX11_notes 19 = .ok (.getfield 38, 3) := by decide +kernel
theorem dX11_notes_22 : decode cX11_notes 22 = .ok (.iload_n 1, 1) := by decide +kernel
theorem dX11_notes_23 : decode cX11_notes 23 = .ok (.aload_n 0, 1) := by decide +kernel
theorem dX11_notes_24 : decode cX11_notes 24 = .ok (.getfield 38, 3) := by decide +kernel
theorem dX11_notes_27 : decode cX11_notes 27 = .ok (.iload_n 1, 1) := by decide +kernel
theorem dX11_notes_28 : decode cX11_notes 28 = .ok (.bipush 20, 2) := by decide +kernel
theorem dX11_notes_30 : decode cX11_notes 30 = .ok (.iadd, 1) := by decide +kernel
theorem dX11_notes_31 : decode cX11_notes 31 = .ok (.iaload, 1) := by decide +kernel
theorem dX11_notes_32 : decode cX11_notes 32 = .ok (.iastore, 1) := by decide +kernel
theorem dX11_notes_33 : decode cX11_notes 33 = .ok (.iinc 1 1, 3) := by decide +kernel
theorem dX11_notes_36 : decode cX11_notes 36 = .ok (.goto (-25), 3) := by decide +kernel
theorem dX11_notes_39 : decode cX11_notes 39 = .ok (.aload_n 0, 1) := by decide +kernel
theorem dX11_notes_40 : decode cX11_notes 40 = .ok (.bipush 9, 2) := by decide +kernel
theorem dX11_notes_42 : decode cX11_notes 42 = .ok (.putfield 126, 3) := by decide +kernel
theorem dX11_notes_45 : decode cX11_notes 45 = .ok (.iconst 0, 1) := by decide +kernel
theorem dX11_notes_46 : decode cX11_notes 46 = .ok (.istore_n 1, 1) := by decide +kernel
theorem dX11_notes_47 : decode cX11_notes 47 = .ok (.iload_n 1, 1) := by decide +kernel
theorem dX11_notes_48 : decode cX11_notes 48 = .ok (.bipush 20, 2) := by decide +kernel
theorem dX11_notes_50 : decode cX11_notes 50 = .ok (.if_icmp .ge 29, 3) := by decide +kernel
theorem dX11_notes_53 : decode cX11_notes 53 = .ok (.aload_n 0, 1) := by decide +kernel
theorem dX11_notes_54 : decode cX11_notes 54 = .ok (.getfield 38, 3) := by decide +kernel
theorem dX11_notes_57 : decode cX11_notes 57 = .ok (.bipush 20, 2) := by decide +kernel
theorem dX11_notes_59 : decode cX11_notes 59 = .ok (.aload_n 0, 1) := by decide +kernel
theorem dX11_notes_60 : decode cX11_notes 60 = .ok (.getfield 126, 3) := by decide +kernel
theorem dX11_notes_63 : decode cX11_notes 63 = .ok (.imul, 1) := by decide +kernel
theorem dX11_notes_64 : decode cX11_notes 64 = .ok (.iload_n 1, 1) := by decide +kernel
theorem dX11_notes_65 : decode cX11_notes 65 = .ok (.iadd, 1) := by decide +kernel
theorem dX11_notes_66 : decode cX11_notes 66 = .ok (.aload_n 0, 1) := by decide +kernel
theorem dX11_notes_67 : decode cX11_notes 67 = .ok (.getfield 28, 3) := by decide +kernel
theorem dX11_notes_70 : decode cX11_notes 70 = .ok (.iload_n 1, 1) := by decide +kernel
theorem dX11_notes_71 : decode cX11_notes 71 = .ok (.iaload, 1) := by decide +kernel
theorem dX11_notes_72 : decode cX11_notes 72 = .ok (.iastore, 1) := by decide +kernel
theorem dX11_notes_73 : decode cX11_notes 73 = .ok (.iinc 1 1, 3) := by decide +kernel
theorem dX11_notes_76 : decode cX11_notes 76 = .ok (.goto (-29), 3) := by decide +kernel
theorem dX11_notes_79 : decode cX11_notes 79 = .ok (.aload_n 0, 1) := by decide +kernel
theorem dX11_notes_80 : decode cX11_notes 80 = .ok (.dup, 1) := by decide +kernel
theorem dX11_notes_81 : decode cX11_notes 81 = .ok (.getfield 126, 3) := by decide +kernel
theorem dX11_notes_84 : decode cX11_notes 84 = .ok (.iconst 1, 1) := by decide +kernel
theorem dX11_notes_85 : decode cX11_notes 85 = .ok (.iadd, 1) := by decide +kernel
theorem dX11_notes_86 : decode cX11_notes 86 = .ok (.putfield 126, 3) := by decide +kernel
theorem dX11_notes_89 : decode cX11_notes 89 = .ok (.return_, 1) := by decide +kernel
theorem dX11_passes_0 : decode cX11_passes 0 = .ok (.aload_n 0, 1) := by decide +kernel
theorem dX11_passes_1 : decode cX11_passes 1 = .ok (.iconst 0, 1) := by decide +kernel
theorem dX11_passes_2 : decode cX11_passes 2 = .ok (.putfield 65, 3) := by decide +kernel
theorem dX11_passes_5 : decode cX11_passes 5 = .ok (.aload_n 0, 1) := by decide +kernel
theorem dX11_passes_6 : decode cX11_passes 6 = .ok (.iload_n 1, 1) := by decide +kernel
theorem dX11_passes_7 : decode cX11_passes 7 = .ok (.invokevirtual 129, 3) := by decide +kernel
theorem dX11_passes_10 : decode cX11_passes 10 = .ok (.ifCond .eq 11, 3) := by decide +kernel
theorem dX11_passes_13 : decode cX11_passes 13 = .ok (.aload_n 0, 1) := by decide +kernel
theorem dX11_passes_14 : decode cX11_passes 14 = .ok (.iload_n 2, 1) := by decide +kernel
theorem dX11_passes_15 : decode cX11_passes 15 = .ok (.invokevirtual 140, 3) := by decide +kernel
theorem dX11_passes_18 : decode cX11_passes 18 = .ok (.ifCond .ne 5, 3) := by decide +kernel
theorem dX11_passes_21 : decode cX11_passes 21 = .ok (.iconst (-1), 1) := by decide +kernel
theorem dX11_passes_22 : decode cX11_passes 22 = .ok (.ireturn, 1) := by decide +kernel
theorem dX11_passes_23 : decode cX11_passes 23 = .ok (.aload_n 0, 1) := by decide +kernel
theorem dX11_passes_24 : decode cX11_passes 24 = .ok (.iload_n 1, 1) := by decide +kernel
theorem dX11_passes_25 : decode cX11_passes 25 = .ok (.invokevirtual 143, 3) := by decide +kernel
theorem dX11_passes_28 : decode cX11_passes 28 = .ok (.ifCond .ne 43, 3) := by decide +kernel
theorem dX11_passes_31 : decode cX11_passes 31 = .ok (.aload_n 0, 1) := by decide +kernel
theorem dX11_passes_32 : decode cX11_passes 32 = .ok (.getfield 28, 3) := by decide +kernel
theorem dX11_passes_35 : decode cX11_passes 35 = .ok (.iconst 0, 1) := by decide +kernel
theorem dX11_passes_36 : decode cX11_passes 36 = .ok (.iload_n 1, 1) := by decide +kernel
theorem dX11_passes_37 : decode cX11_passes 37 = .ok (.iadd, 1) := by decide +kernel
theorem dX11_passes_38 : decode cX11_passes 38 = .ok (.iaload, 1) := by decide +kernel
theorem dX11_passes_39 : decode cX11_passes 39 = .ok (.iload_n 2, 1) := by decide +kernel
theorem dX11_passes_40 : decode cX11_passes 40 = .ok (.if_icmp .eq 31, 3) := by decide +kernel
theorem dX11_passes_43 : decode cX11_passes 43 = .ok (.aload_n 0, 1) := by decide +kernel
theorem dX11_passes_44 : decode cX11_passes 44 = .ok (.getfield 28, 3) := by decide +kernel
theorem dX11_passes_47 : decode cX11_passes 47 = .ok (.bipush 6, 2) := by decide +kernel
theorem dX11_passes_49 : decode cX11_passes 49 = .ok (.iload_n 1, 1) := by decide +kernel
theorem dX11_passes_50 : decode cX11_passes 50 = .ok (.iadd, 1) := by decide +kernel
theorem dX11_passes_51 : decode cX11_passes 51 = .ok (.iaload, 1) := by decide +kernel
theorem dX11_passes_52 : decode cX11_passes 52 = .ok (.sipush 999, 3) := by decide +kernel
theorem dX11_passes_55 : decode cX11_passes 55 = .ok (.if_icmp .eq 16, 3) := by decide +kernel
theorem dX11_passes_58 : decode cX11_passes 58 = .ok (.aload_n 0, 1) := by decide +kernel
theorem dX11_passes_59 : decode cX11_passes 59 = .ok (.getfield 28, 3) := by decide +kernel
theorem dX11_passes_62 : decode cX11_passes 62 = .ok (.bipush 19, 2) := by decide +kernel
theorem dX11_passes_64 : decode cX11_passes 64 = .ok (.iaload, 1) := by decide +kernel
theorem dX11_passes_65 : decode cX11_passes 65 = .ok (.sipush 999, 3) := by decide +kernel
theorem dX11_passes_68 : decode cX11_passes 68 = .ok (.if_icmp .ne 6, 3) := by decide +kernel
theorem dX11_passes_71 : decode cX11_passes 71 = .ok (.bipush (-2), 2) := by decide +kernel
theorem dX11_passes_73 : decode cX11_passes 73 = .ok (.ireturn, 1) := by decide +kernel
theorem dX11_passes_74 : decode cX11_passes 74 = .ok (.aload_n 0, 1) := by decide +kernel
theorem dX11_passes_75 : decode cX11_passes 75 = .ok (.invokevirtual 149, 3) := by decide +kernel
theorem dX11_passes_78 : decode cX11_passes 78 = .ok (.aload_n 0, 1) := by decide +kernel
theorem dX11_passes_79 : decode cX11_passes 79 = .ok (.iload_n 1, 1) := by decide +kernel
theorem dX11_passes_80 : decode cX11_passes 80 = .ok (.aload_n 0, 1) := by decide +kernel
theorem dX11_passes_81 : decode cX11_passes 81 = .ok (.iload_n 1, 1) := by decide +kernel
theorem dX11_passes_82 : decode cX11_passes 82 = .ok (.invokevirtual 133, 3) := by decide +kernel
theorem dX11_passes_85 : decode cX11_passes 85 = .ok (.invokevirtual 136, 3) := by decide +kernel
theorem dX11_passes_88 : decode cX11_passes 88 = .ok (.iload_n 2, 1) := by decide +kernel
theorem dX11_passes_89 : decode cX11_passes 89 = .ok (.ishr, 1) := by decide +kernel
theorem dX11_passes_90 : decode cX11_passes 90 = .ok (.iconst 1, 1) := by decide +kernel
theorem dX11_passes_91 : decode cX11_passes 91 = .ok (.iand, 1) := by decide +kernel
theorem dX11_passes_92 : decode cX11_passes 92 = .ok (.ifCond .ne 26, 3) := by decide +kernel
theorem dX11_passes_95 : decode cX11_passes 95 = .ok (.aload_n 0, 1) := by decide +kernel
theorem dX11_passes_96 : decode cX11_passes 96 = .ok (.getfield 28, 3) := by decide +kernel
theorem dX11_passes_99 : decode cX11_passes 99 = .ok (.bipush 19, 2) := by decide +kernel
theorem dX11_passes_101 : decode cX11_passes 101 = .ok (.dup2, 1) := by decide +kernel
theorem dX11_passes_102 : decode cX11_passes 102 = .ok (.iaload, 1) := by decide +kernel
theorem dX11_passes_103 : decode cX11_passes 103 = .ok (.iconst 1, 1) := by decide +kernel
theorem dX11_passes_104 : decode cX11_passes 104 = .ok (.iadd, 1) := by decide +kernel
theorem dX11_passes_105 : decode cX11_passes 105 = .ok (.iastore, 1) := by decide +kernel
theorem dX11_passes_106 : decode cX11_passes 106 = .ok (.aload_n 0, 1) := by decide +kernel
theorem dX11_passes_107 : decode cX11_passes 107 = .ok (.getfield 28, 3) := by decide +kernel
theorem dX11_passes_110 : decode cX11_passes 110 = .ok (.bipush 6, 2) := by decide +kernel
theorem dX11_passes_112 : decode cX11_passes 112 = .ok (.iload_n 1, 1) := by decide +kernel
theorem dX11_passes_113 : decode cX11_passes 113 = .ok (.iadd, 1) := by decide +kernel
theorem dX11_passes_114 : decode cX11_passes 114 = .ok (.iconst 0, 1) := by decide +kernel
theorem dX11_passes_115 : decode cX11_passes 115 = .ok (.iastore, 1) := by decide +kernel
theorem dX11_passes_116 : decode cX11_passes 116 = .ok (.iconst 0, 1) := by decide +kernel
theorem dX11_passes_117 : decode cX11_passes 117 = .ok (.ireturn, 1) := by decide +kernel
theorem dX11_passes_118 : decode cX11_passes 118 = .ok (.aload_n 0, 1) := by decide +kernel
theorem dX11_passes_119 : decode cX11_passes 119 = .ok (.getfield 28, 3) := by decide +kernel
theorem dX11_passes_122 : decode cX11_passes 122 = .ok (.iconst 0, 1) := by decide +kernel
theorem dX11_passes_123 : decode cX11_passes 123 = .ok (.iload_n 1, 1) := by decide +kernel
theorem dX11_passes_124 : decode cX11_passes 124 = .ok (.iadd, 1) := by decide +kernel
theorem dX11_passes_125 : decode cX11_passes 125 = .ok (.iload_n 2, 1) := by decide +kernel
theorem dX11_passes_126 : decode cX11_passes 126 = .ok (.iastore, 1) := by decide +kernel
theorem dX11_passes_127 : decode cX11_passes 127 = .ok (.aload_n 0, 1) := by decide +kernel
theorem dX11_passes_128 : decode cX11_passes 128 = .ok (.getfield 28, 3) := by decide +kernel
theorem dX11_passes_131 : decode cX11_passes 131 = .ok (.bipush 6, 2) := by decide +kernel
theorem dX11_passes_133 : decode cX11_passes 133 = .ok (.iload_n 1, 1) := by decide +kernel
theorem dX11_passes_134 : decode cX11_passes 134 = .ok (.iadd, 1) := by decide +kernel
theorem dX11_passes_135 : decode cX11_passes 135 = .ok (.dup2, 1) := by decide +kernel
theorem dX11_passes_136 : decode cX11_passes 136 = .ok (.iaload, 1) := by decide +kernel
theorem dX11_passes_137 : decode cX11_passes 137 = .ok (.iconst 1, 1) := by decide +kernel
theorem dX11_passes_138 : decode cX11_passes 138 = .ok (.iadd, 1) := by decide +kernel
theorem dX11_passes_139 : decode cX11_passes 139 = .ok (.iastore, 1) := by decide +kernel
theorem dX11_passes_140 : decode cX11_passes 140 = .ok (.aload_n 0, 1) := by decide +kernel
theorem dX11_passes_141 : decode cX11_passes 141 = .ok (.getfield 28, 3) := by decide +kernel
theorem dX11_passes_144 : decode cX11_passes 144 = .ok (.bipush 12, 2) := by decide +kernel
theorem dX11_passes_146 : decode cX11_passes 146 = .ok (.dup2, 1) := by decide +kernel
theorem dX11_passes_147 : decode cX11_passes 147 = .ok (.iaload, 1) := by decide +kernel
theorem dX11_passes_148 : decode cX11_passes 148 = .ok (.aload_n 0, 1) := by decide +kernel
theorem dX11_passes_149 : decode cX11_passes 149 = .ok (.getfield 22, 3) := by decide +kernel
theorem dX11_passes_152 : decode cX11_passes 152 = .ok (.iload_n 1, 1) := by decide +kernel
theorem dX11_passes_153 : decode cX11_passes 153 = .ok (.iaload, 1) := by decide +kernel
theorem dX11_passes_154 : decode cX11_passes 154 = .ok (.ifCond .eq 27, 3) := by decide +kernel
theorem dX11_passes_157 : decode cX11_passes 157 = .ok (.aload_n 0, 1) := by decide +kernel
theorem dX11_passes_158 : decode cX11_passes 158 = .ok (.getfield 28, 3) := by decide +kernel
theorem dX11_passes_161 : decode cX11_passes 161 = .ok (.bipush 6, 2) := by decide +kernel
theorem dX11_passes_163 : decode cX11_passes 163 = .ok (.iload_n 1, 1) := by decide +kernel
theorem dX11_passes_164 : decode cX11_passes 164 = .ok (.iadd, 1) := by decide +kernel
theorem dX11_passes_165 : decode cX11_passes 165 = .ok (.iaload, 1) := by decide +kernel
theorem dX11_passes_166 : decode cX11_passes 166 = .ok (.aload_n 0, 1) := by decide +kernel
theorem dX11_passes_167 : decode cX11_passes 167 = .ok (.getfield 13, 3) := by decide +kernel
theorem dX11_passes_170 : decode cX11_passes 170 = .ok (.iconst 2, 1) := by decide +kernel
theorem dX11_passes_171 : decode cX11_passes 171 = .ok (.iaload, 1) := by decide +kernel
theorem dX11_passes_172 : decode cX11_passes 172 = .ok (.if_icmp .lt 9, 3) := by decide +kernel
theorem dX11_passes_175 : decode cX11_passes 175 = .ok (.iconst 1, 1) := by decide +kernel
theorem dX11_passes_176 : decode cX11_passes 176 = .ok (.iload_n 1, 1) := by decide +kernel
theorem dX11_passes_177 : decode cX11_passes 177 = .ok (.ishl, 1) := by decide +kernel
theorem dX11_passes_178 : decode cX11_passes 178 = .ok (.goto 4, 3) := by decide +kernel
theorem dX11_passes_181 : decode cX11_passes 181 = .ok (.iconst 0, 1) := by decide +kernel
theorem dX11_passes_182 : decode cX11_passes 182 = .ok (.ior, 1) := by decide +kernel
theorem dX11_passes_183 : decode cX11_passes 183 = .ok (.iastore, 1) := by decide +kernel
theorem dX11_passes_184 : decode cX11_passes 184 = .ok (.iconst 1, 1) := by decide +kernel
theorem dX11_passes_185 : decode cX11_passes 185 = .ok (.ireturn, 1) := by decide +kernel
theorem dX11_teaches_0 : decode cX11_teaches 0 = .ok (.aload_n 0, 1) := by decide +kernel
theorem dX11_teaches_1 : decode cX11_teaches 1 = .ok (.iconst 0, 1) := by decide +kernel
theorem dX11_teaches_2 : decode cX11_teaches 2 = .ok (.putfield 65, 3) := by decide +kernel
theorem dX11_teaches_5 : decode cX11_teaches 5 = .ok (.aload_n 0, 1) := by decide +kernel
theorem dX11_teaches_6 : decode cX11_teaches 6 = .ok (.iload_n 1, 1) := by decide +kernel
theorem dX11_teaches_7 : decode cX11_teaches 7 = .ok (.invokevirtual 140, 3) := by decide +kernel
theorem dX11_teaches_10 : decode cX11_teaches 10 = .ok (.ifCond .eq 13, 3) := by decide +kernel
theorem dX11_teaches_13 : decode cX11_teaches 13 = .ok (.iload_n 2, 1) := by decide +kernel
theorem dX11_teaches_14 : decode cX11_teaches 14 = .ok (.iconst 0, 1) := by decide +kernel
theorem dX11_teaches_15 : decode cX11_teaches 15 = .ok (.bipush 31, 2) := by decide +kernel
theorem dX11_teaches_17 : decode cX11_teaches 17 = .ok (.invokestatic 69, 3) := by decide +kernel
theorem dX11_teaches_20 : decode cX11_teaches 20 = .ok (.ifCond .ne 5, 3) := by decide +kernel
theorem dX11_teaches_23 : decode cX11_teaches 23 = .ok (.iconst (-1), 1) := by decide +kernel
theorem dX11_teaches_24 : decode cX11_teaches 24 = .ok (.ireturn, 1) := by decide +kernel
theorem dX11_teaches_25 : decode cX11_teaches 25 = .ok (.aload_n 0, 1) := by decide +kernel
theorem dX11_teaches_26 : decode cX11_teaches 26 = .ok (.invokevirtual 149, 3) := by decide +kernel
theorem dX11_teaches_29 : decode cX11_teaches 29 = .ok (.aload_n 0, 1) := by decide +kernel
theorem dX11_teaches_30 : decode cX11_teaches 30 = .ok (.getfield 28, 3) := by decide +kernel
theorem dX11_teaches_33 : decode cX11_teaches 33 = .ok (.bipush 14, 2) := by decide +kernel
theorem dX11_teaches_35 : decode cX11_teaches 35 = .ok (.iload_n 1, 1) := by decide +kernel
theorem dX11_teaches_36 : decode cX11_teaches 36 = .ok (.iadd, 1) := by decide +kernel
theorem dX11_teaches_37 : decode cX11_teaches 37 = .ok (.iaload, 1) := by decide +kernel
theorem dX11_teaches_38 : decode cX11_teaches 38 = .ok (.istore_n 3, 1) := by decide +kernel
theorem dX11_teaches_39 : decode cX11_teaches 39 = .ok (.aload_n 0, 1) := by decide +kernel
theorem dX11_teaches_40 : decode cX11_teaches 40 = .ok (.getfield 28, 3) := by decide +kernel
theorem dX11_teaches_43 : decode cX11_teaches 43 = .ok (.bipush 14, 2) := by decide +kernel
theorem dX11_teaches_45 : decode cX11_teaches 45 = .ok (.iload_n 1, 1) := by decide +kernel
theorem dX11_teaches_46 : decode cX11_teaches 46 = .ok (.iadd, 1) := by decide +kernel
theorem dX11_teaches_47 : decode cX11_teaches 47 = .ok (.iload_n 2, 1) := by decide +kernel
theorem dX11_teaches_48 : decode cX11_teaches 48 = .ok (.iastore, 1) := by decide +kernel
theorem dX11_teaches_49 : decode cX11_teaches 49 = .ok (.iload_n 3, 1) := by decide +kernel
theorem dX11_teaches_50 : decode cX11_teaches 50 = .ok (.ireturn, 1) := by decide +kernel
theorem dX11_sends_0 : decode cX11_sends 0 = .ok (.aload_n 0, 1) := by decide +kernel
theorem dX11_sends_1 : decode cX11_sends 1 = .ok (.iconst 0, 1) := by decide +kernel
theorem dX11_sends_2 : decode cX11_sends 2 = .ok (.putfield 65, 3) := by decide +kernel
theorem dX11_sends_5 : decode cX11_sends 5 = .ok (.aload_n 0, 1) := by decide +kernel
theorem dX11_sends_6 : decode cX11_sends 6 = .ok (.iload_n 1, 1) := by decide +kernel
theorem dX11_sends_7 : decode cX11_sends 7 = .ok (.invokevirtual 129, 3) := by decide +kernel
theorem dX11_sends_10 : decode cX11_sends 10 = .ok (.ifCond .eq 12, 3) := by decide +kernel
theorem dX11_sends_13 : decode cX11_sends 13 = .ok (.iload_n 2, 1) := by decide +kernel
theorem dX11_sends_14 : decode cX11_sends 14 = .ok (.iconst 0, 1) := by decide +kernel
theorem dX11_sends_15 : decode cX11_sends 15 = .ok (.iconst 1, 1) := by decide +kernel
theorem dX11_sends_16 : decode cX11_sends 16 = .ok (.invokestatic 69, 3) := by decide +kernel
theorem dX11_sends_19 : decode cX11_sends 19 = .ok (.ifCond .ne 5, 3) := by decide +kernel
theorem dX11_sends_22 : decode cX11_sends 22 = .ok (.iconst (-1), 1) := by decide +kernel
theorem dX11_sends_23 : decode cX11_sends 23 = .ok (.ireturn, 1) := by decide +kernel
theorem dX11_sends_24 : decode cX11_sends 24 = .ok (.aload_n 0, 1) := by decide +kernel
theorem dX11_sends_25 : decode cX11_sends 25 = .ok (.getfield 28, 3) := by decide +kernel
theorem dX11_sends_28 : decode cX11_sends 28 = .ok (.bipush 13, 2) := by decide +kernel
theorem dX11_sends_30 : decode cX11_sends 30 = .ok (.iaload, 1) := by decide +kernel
theorem dX11_sends_31 : decode cX11_sends 31 = .ok (.iload_n 1, 1) := by decide +kernel
theorem dX11_sends_32 : decode cX11_sends 32 = .ok (.ishr, 1) := by decide +kernel
theorem dX11_sends_33 : decode cX11_sends 33 = .ok (.iconst 1, 1) := by decide +kernel
theorem dX11_sends_34 : decode cX11_sends 34 = .ok (.iand, 1) := by decide +kernel
theorem dX11_sends_35 : decode cX11_sends 35 = .ok (.iload_n 2, 1) := by decide +kernel
theorem dX11_sends_36 : decode cX11_sends 36 = .ok (.if_icmp .ne 6, 3) := by decide +kernel
theorem dX11_sends_39 : decode cX11_sends 39 = .ok (.bipush (-2), 2) := by decide +kernel
theorem dX11_sends_41 : decode cX11_sends 41 = .ok (.ireturn, 1) := by decide +kernel
theorem dX11_sends_42 : decode cX11_sends 42 = .ok (.aload_n 0, 1) := by decide +kernel
theorem dX11_sends_43 : decode cX11_sends 43 = .ok (.invokevirtual 149, 3) := by decide +kernel
theorem dX11_sends_46 : decode cX11_sends 46 = .ok (.aload_n 0, 1) := by decide +kernel
theorem dX11_sends_47 : decode cX11_sends 47 = .ok (.getfield 28, 3) := by decide +kernel
theorem dX11_sends_50 : decode cX11_sends 50 = .ok (.bipush 13, 2) := by decide +kernel
theorem dX11_sends_52 : decode cX11_sends 52 = .ok (.aload_n 0, 1) := by decide +kernel
theorem dX11_sends_53 : decode cX11_sends 53 = .ok (.getfield 28, 3) := by decide +kernel
theorem dX11_sends_56 : decode cX11_sends 56 = .ok (.bipush 13, 2) := by decide +kernel
theorem dX11_sends_58 : decode cX11_sends 58 = .ok (.iaload, 1) := by decide +kernel
theorem dX11_sends_59 : decode cX11_sends 59 = .ok (.iconst 1, 1) := by decide +kernel
theorem dX11_sends_60 : decode cX11_sends 60 = .ok (.iload_n 1, 1) := by decide +kernel
theorem dX11_sends_61 : decode cX11_sends 61 = .ok (.ishl, 1) := by decide +kernel
theorem dX11_sends_62 : decode cX11_sends 62 = .ok (.iconst (-1), 1) := by decide +kernel
theorem dX11_sends_63 : decode cX11_sends 63 = .ok (.ixor, 1) := by decide +kernel
theorem dX11_sends_64 : decode cX11_sends 64 = .ok (.iand, 1) := by decide +kernel
theorem dX11_sends_65 : decode cX11_sends 65 = .ok (.iload_n 2, 1) := by decide +kernel
theorem dX11_sends_66 : decode cX11_sends 66 = .ok (.iload_n 1, 1) := by decide +kernel
theorem dX11_sends_67 : decode cX11_sends 67 = .ok (.ishl, 1) := by decide +kernel
theorem dX11_sends_68 : decode cX11_sends 68 = .ok (.ior, 1) := by decide +kernel
theorem dX11_sends_69 : decode cX11_sends 69 = .ok (.iastore, 1) := by decide +kernel
theorem dX11_sends_70 : decode cX11_sends 70 = .ok (.aload_n 0, 1) := by decide +kernel
theorem dX11_sends_71 : decode cX11_sends 71 = .ok (.getfield 28, 3) := by decide +kernel
theorem dX11_sends_74 : decode cX11_sends 74 = .ok (.bipush 13, 2) := by decide +kernel
theorem dX11_sends_76 : decode cX11_sends 76 = .ok (.iaload, 1) := by decide +kernel
theorem dX11_sends_77 : decode cX11_sends 77 = .ok (.invokestatic 152, 3) := by decide +kernel
theorem dX11_sends_80 : decode cX11_sends 80 = .ok (.ireturn, 1) := by decide +kernel
theorem dX11_undo_0 : decode cX11_undo 0 = .ok (.aload_n 0, 1) := by decide +kernel
theorem dX11_undo_1 : decode cX11_undo 1 = .ok (.iconst 0, 1) := by decide +kernel
theorem dX11_undo_2 : decode cX11_undo 2 = .ok (.putfield 65, 3) := by decide +kernel
theorem dX11_undo_5 : decode cX11_undo 5 = .ok (.aload_n 0, 1) := by decide +kernel
theorem dX11_undo_6 : decode cX11_undo 6 = .ok (.getfield 126, 3) := by decide +kernel
theorem dX11_undo_9 : decode cX11_undo 9 = .ok (.ifCond .ne 6, 3) := by decide +kernel
theorem dX11_undo_12 : decode cX11_undo 12 = .ok (.bipush (-2), 2) := by decide +kernel
theorem dX11_undo_14 : decode cX11_undo 14 = .ok (.ireturn, 1) := by decide +kernel
theorem dX11_undo_15 : decode cX11_undo 15 = .ok (.aload_n 0, 1) := by decide +kernel
theorem dX11_undo_16 : decode cX11_undo 16 = .ok (.dup, 1) := by decide +kernel
theorem dX11_undo_17 : decode cX11_undo 17 = .ok (.getfield 126, 3) := by decide +kernel
theorem dX11_undo_20 : decode cX11_undo 20 = .ok (.iconst 1, 1) := by decide +kernel
theorem dX11_undo_21 : decode cX11_undo 21 = .ok (.isub, 1) := by decide +kernel
theorem dX11_undo_22 : decode cX11_undo 22 = .ok (.putfield 126, 3) := by decide +kernel
theorem dX11_undo_25 : decode cX11_undo 25 = .ok (.iconst 0, 1) := by decide +kernel
theorem dX11_undo_26 : decode cX11_undo 26 = .ok (.istore_n 1, 1) := by decide +kernel
theorem dX11_undo_27 : decode cX11_undo 27 = .ok (.iload_n 1, 1) := by decide +kernel
theorem dX11_undo_28 : decode cX11_undo 28 = .ok (.bipush 20, 2) := by decide +kernel
theorem dX11_undo_30 : decode cX11_undo 30 = .ok (.if_icmp .ge 29, 3) := by decide +kernel
theorem dX11_undo_33 : decode cX11_undo 33 = .ok (.aload_n 0, 1) := by decide +kernel
theorem dX11_undo_34 : decode cX11_undo 34 = .ok (.getfield 28, 3) := by decide +kernel
theorem dX11_undo_37 : decode cX11_undo 37 = .ok (.iload_n 1, 1) := by decide +kernel
theorem dX11_undo_38 : decode cX11_undo 38 = .ok (.aload_n 0, 1) := by decide +kernel
theorem dX11_undo_39 : decode cX11_undo 39 = .ok (.getfield 38, 3) := by decide +kernel
theorem dX11_undo_42 : decode cX11_undo 42 = .ok (.bipush 20, 2) := by decide +kernel
theorem dX11_undo_44 : decode cX11_undo 44 = .ok (.aload_n 0, 1) := by decide +kernel
theorem dX11_undo_45 : decode cX11_undo 45 = .ok (.getfield 126, 3) := by decide +kernel
theorem dX11_undo_48 : decode cX11_undo 48 = .ok (.imul, 1) := by decide +kernel
theorem dX11_undo_49 : decode cX11_undo 49 = .ok (.iload_n 1, 1) := by decide +kernel
theorem dX11_undo_50 : decode cX11_undo 50 = .ok (.iadd, 1) := by decide +kernel
theorem dX11_undo_51 : decode cX11_undo 51 = .ok (.iaload, 1) := by decide +kernel
theorem dX11_undo_52 : decode cX11_undo 52 = .ok (.iastore, 1) := by decide +kernel
theorem dX11_undo_53 : decode cX11_undo 53 = .ok (.iinc 1 1, 3) := by decide +kernel
theorem dX11_undo_56 : decode cX11_undo 56 = .ok (.goto (-29), 3) := by decide +kernel
theorem dX11_undo_59 : decode cX11_undo 59 = .ok (.aload_n 0, 1) := by decide +kernel
theorem dX11_undo_60 : decode cX11_undo 60 = .ok (.getfield 126, 3) := by decide +kernel
theorem dX11_undo_63 : decode cX11_undo 63 = .ok (.ireturn, 1) := by decide +kernel
theorem dX11_passings_0 : decode cX11_passings 0 = .ok (.iload_n 0, 1) := by decide +kernel
theorem dX11_passings_1 : decode cX11_passings 1 = .ok (.iconst 1, 1) := by decide +kernel
theorem dX11_passings_2 : decode cX11_passings 2 = .ok (.iload_n 1, 1) := by decide +kernel
theorem dX11_passings_3 : decode cX11_passings 3 = .ok (.ishl, 1) := by decide +kernel
theorem dX11_passings_4 : decode cX11_passings 4 = .ok (.iconst (-1), 1) := by decide +kernel
theorem dX11_passings_5 : decode cX11_passings 5 = .ok (.ixor, 1) := by decide +kernel
theorem dX11_passings_6 : decode cX11_passings 6 = .ok (.iand, 1) := by decide +kernel
theorem dX11_passings_7 : decode cX11_passings 7 = .ok (.istore_n 2, 1) := by decide +kernel
theorem dX11_passings_8 : decode cX11_passings 8 = .ok (.iload_n 2, 1) := by decide +kernel
theorem dX11_passings_9 : decode cX11_passings 9 = .ok (.ifCond .ne 7, 3) := by decide +kernel
theorem dX11_passings_12 : decode cX11_passings 12 = .ok (.iconst 0, 1) := by decide +kernel
theorem dX11_passings_13 : decode cX11_passings 13 = .ok (.goto 17, 3) := by decide +kernel
theorem dX11_passings_16 : decode cX11_passings 16 = .ok (.iload_n 0, 1) := by decide +kernel
theorem dX11_passings_17 : decode cX11_passings 17 = .ok (.invokestatic 152, 3) := by decide +kernel
theorem dX11_passings_20 : decode cX11_passings 20 = .ok (.iconst 1, 1) := by decide +kernel
theorem dX11_passings_21 : decode cX11_passings 21 = .ok (.if_icmp .le 8, 3) := by decide +kernel
theorem dX11_passings_24 : decode cX11_passings 24 = .ok (.ldc 155, 2) := by decide +kernel
theorem dX11_passings_26 : decode cX11_passings 26 = .ok (.goto 4, 3) := by decide +kernel
theorem dX11_passings_29 : decode cX11_passings 29 = .ok (.iconst 1, 1) := by decide +kernel
theorem dX11_passings_30 : decode cX11_passings 30 = .ok (.ireturn, 1) := by decide +kernel
theorem dX11_soonest_0 : decode cX11_soonest 0 = .ok (.aload_n 0, 1) := by decide +kernel
theorem dX11_soonest_1 : decode cX11_soonest 1 = .ok (.iconst 0, 1) := by decide +kernel
theorem dX11_soonest_2 : decode cX11_soonest 2 = .ok (.putfield 65, 3) := by decide +kernel
theorem dX11_soonest_5 : decode cX11_soonest 5 = .ok (.aload_n 0, 1) := by decide +kernel
theorem dX11_soonest_6 : decode cX11_soonest 6 = .ok (.iload_n 1, 1) := by decide +kernel
theorem dX11_soonest_7 : decode cX11_soonest 7 = .ok (.invokevirtual 129, 3) := by decide +kernel
theorem dX11_soonest_10 : decode cX11_soonest 10 = .ok (.ifCond .eq 8, 3) := by decide +kernel
theorem dX11_soonest_13 : decode cX11_soonest 13 = .ok (.iload_n 2, 1) := by decide +kernel
theorem dX11_soonest_14 : decode cX11_soonest 14 = .ok (.iconst (-1), 1) := by decide +kernel
theorem dX11_soonest_15 : decode cX11_soonest 15 = .ok (.if_icmp .ge 5, 3) := by decide +kernel
theorem dX11_soonest_18 : decode cX11_soonest 18 = .ok (.iconst (-1), 1) := by decide +kernel
theorem dX11_soonest_19 : decode cX11_soonest 19 = .ok (.ireturn, 1) := by decide +kernel
theorem dX11_soonest_20 : decode cX11_soonest 20 = .ok (.aload_n 0, 1) := by decide +kernel
theorem dX11_soonest_21 : decode cX11_soonest 21 = .ok (.iload_n 1, 1) := by decide +kernel
theorem dX11_soonest_22 : decode cX11_soonest 22 = .ok (.invokevirtual 143, 3) := by decide +kernel
theorem dX11_soonest_25 : decode cX11_soonest 25 = .ok (.ifCond .ne 20, 3) := by decide +kernel
theorem dX11_soonest_28 : decode cX11_soonest 28 = .ok (.aload_n 0, 1) := by decide +kernel
theorem dX11_soonest_29 : decode cX11_soonest 29 = .ok (.getfield 22, 3) := by decide +kernel
theorem dX11_soonest_32 : decode cX11_soonest 32 = .ok (.iload_n 1, 1) := by decide +kernel
theorem dX11_soonest_33 : decode cX11_soonest 33 = .ok (.iaload, 1) := by decide +kernel
theorem dX11_soonest_34 : decode cX11_soonest 34 = .ok (.ifCond .eq 11, 3) := by decide +kernel
theorem dX11_soonest_37 : decode cX11_soonest 37 = .ok (.aload_n 0, 1) := by decide +kernel
theorem dX11_soonest_38 : decode cX11_soonest 38 = .ok (.iload_n 1, 1) := by decide +kernel
theorem dX11_soonest_39 : decode cX11_soonest 39 = .ok (.invokevirtual 133, 3) := by decide +kernel
theorem dX11_soonest_42 : decode cX11_soonest 42 = .ok (.ifCond .eq 6, 3) := by decide +kernel
theorem dX11_soonest_45 : decode cX11_soonest 45 = .ok (.bipush (-2), 2) := by decide +kernel
theorem dX11_soonest_47 : decode cX11_soonest 47 = .ok (.ireturn, 1) := by decide +kernel
theorem dX11_soonest_48 : decode cX11_soonest 48 = .ok (.aload_n 0, 1) := by decide +kernel
theorem dX11_soonest_49 : decode cX11_soonest 49 = .ok (.iload_n 1, 1) := by decide +kernel
theorem dX11_soonest_50 : decode cX11_soonest 50 = .ok (.iconst 0, 1) := by decide +kernel
theorem dX11_soonest_51 : decode cX11_soonest 51 = .ok (.invokevirtual 136, 3) := by decide +kernel
theorem dX11_soonest_54 : decode cX11_soonest 54 = .ok (.istore_n 3, 1) := by decide +kernel
theorem dX11_soonest_55 : decode cX11_soonest 55 = .ok (.aload_n 0, 1) := by decide +kernel
theorem dX11_soonest_56 : decode cX11_soonest 56 = .ok (.getfield 13, 3) := by decide +kernel
theorem dX11_soonest_59 : decode cX11_soonest 59 = .ok (.iconst 2, 1) := by decide +kernel
theorem dX11_soonest_60 : decode cX11_soonest 60 = .ok (.iaload, 1) := by decide +kernel
theorem dX11_soonest_61 : decode cX11_soonest 61 = .ok (.aload_n 0, 1) := by decide +kernel
theorem dX11_soonest_62 : decode cX11_soonest 62 = .ok (.getfield 28, 3) := by decide +kernel
theorem dX11_soonest_65 : decode cX11_soonest 65 = .ok (.bipush 6, 2) := by decide +kernel
theorem dX11_soonest_67 : decode cX11_soonest 67 = .ok (.iload_n 1, 1) := by decide +kernel
theorem dX11_soonest_68 : decode cX11_soonest 68 = .ok (.iadd, 1) := by decide +kernel
theorem dX11_soonest_69 : decode cX11_soonest 69 = .ok (.iaload, 1) := by decide +kernel
theorem dX11_soonest_70 : decode cX11_soonest 70 = .ok (.isub, 1) := by decide +kernel
theorem dX11_soonest_71 : decode cX11_soonest 71 = .ok (.istore 4, 2) := by decide +kernel
theorem dX11_soonest_73 : decode cX11_soonest 73 = .ok (.aload_n 0, 1) := by decide +kernel
theorem dX11_soonest_74 : decode cX11_soonest 74 = .ok (.getfield 28, 3) := by decide +kernel
theorem dX11_soonest_77 : decode cX11_soonest 77 = .ok (.iconst 0, 1) := by decide +kernel
theorem dX11_soonest_78 : decode cX11_soonest 78 = .ok (.iload_n 1, 1) := by decide +kernel
theorem dX11_soonest_79 : decode cX11_soonest 79 = .ok (.iadd, 1) := by decide +kernel
theorem dX11_soonest_80 : decode cX11_soonest 80 = .ok (.iaload, 1) := by decide +kernel
theorem dX11_soonest_81 : decode cX11_soonest 81 = .ok (.istore 5, 2) := by decide +kernel
theorem dX11_soonest_83 : decode cX11_soonest 83 = .ok (.iload_n 3, 1) := by decide +kernel
theorem dX11_soonest_84 : decode cX11_soonest 84 = .ok (.iload 5, 2) := by decide +kernel
theorem dX11_soonest_86 : decode cX11_soonest 86 = .ok (.invokestatic 156, 3) := by decide +kernel
theorem dX11_soonest_89 : decode cX11_soonest 89 = .ok (.iload 4, 2) := by decide +kernel
theorem dX11_soonest_91 : decode cX11_soonest 91 = .ok (.if_icmp .lt 8, 3) := by decide +kernel
theorem dX11_soonest_94 : decode cX11_soonest 94 = .ok (.iload_n 2, 1) := by decide +kernel
theorem dX11_soonest_95 : decode cX11_soonest 95 = .ok (.iconst (-1), 1) := by decide +kernel
theorem dX11_soonest_96 : decode cX11_soonest 96 = .ok (.if_icmp .ne 22, 3) := by decide +kernel
theorem dX11_soonest_99 : decode cX11_soonest 99 = .ok (.iload_n 3, 1) := by decide +kernel
theorem dX11_soonest_100 : decode cX11_soonest 100 = .ok (.iload 5, 2) := by decide +kernel
theorem dX11_soonest_102 : decode cX11_soonest 102 = .ok (.invokestatic 156, 3) := by decide +kernel
theorem dX11_soonest_105 : decode cX11_soonest 105 = .ok (.iload 4, 2) := by decide +kernel
theorem dX11_soonest_107 : decode cX11_soonest 107 = .ok (.if_icmp .ge 8, 3) := by decide +kernel
theorem dX11_soonest_110 : decode cX11_soonest 110 = .ok (.bipush (-9), 2) := by decide +kernel
theorem dX11_soonest_112 : decode cX11_soonest 112 = .ok (.goto 5, 3) := by decide +kernel
theorem dX11_soonest_115 : decode cX11_soonest 115 = .ok (.iload 4, 2) := by decide +kernel
theorem dX11_soonest_117 : decode cX11_soonest 117 = .ok (.ireturn, 1) := by decide +kernel
theorem dX11_soonest_118 : decode cX11_soonest 118 = .ok (.iconst 0, 1) := by decide +kernel
theorem dX11_soonest_119 : decode cX11_soonest 119 = .ok (.istore 6, 2) := by decide +kernel
theorem dX11_soonest_121 : decode cX11_soonest 121 = .ok (.iload 4, 2) := by decide +kernel
theorem dX11_soonest_123 : decode cX11_soonest 123 = .ok (.ifCond .le 101, 3) := by decide +kernel
theorem dX11_soonest_126 : decode cX11_soonest 126 = .ok (.bipush (-9), 2) := by decide +kernel
theorem dX11_soonest_128 : decode cX11_soonest 128 = .ok (.istore 7, 2) := by decide +kernel
theorem dX11_soonest_130 : decode cX11_soonest 130 = .ok (.aload_n 0, 1) := by decide +kernel
theorem dX11_soonest_131 : decode cX11_soonest 131 = .ok (.getfield 13, 3) := by decide +kernel
theorem dX11_soonest_134 : decode cX11_soonest 134 = .ok (.iconst 0, 1) := by decide +kernel
theorem dX11_soonest_135 : decode cX11_soonest 135 = .ok (.iaload, 1) := by decide +kernel
theorem dX11_soonest_136 : decode cX11_soonest 136 = .ok (.iconst 1, 1) := by decide +kernel
theorem dX11_soonest_137 : decode cX11_soonest 137 = .ok (.isub, 1) := by decide +kernel
theorem dX11_soonest_138 : decode cX11_soonest 138 = .ok (.istore 8, 2) := by decide +kernel
theorem dX11_soonest_140 : decode cX11_soonest 140 = .ok (.iload 8, 2) := by decide +kernel
theorem dX11_soonest_142 : decode cX11_soonest 142 = .ok (.ifCond .lt 60, 3) := by decide +kernel
theorem dX11_soonest_145 : decode cX11_soonest 145 = .ok (.iload 8, 2) := by decide +kernel
theorem dX11_soonest_147 : decode cX11_soonest 147 = .ok (.iload 5, 2) := by decide +kernel
theorem dX11_soonest_149 : decode cX11_soonest 149 = .ok (.if_icmp .eq 30, 3) := by decide +kernel
theorem dX11_soonest_152 : decode cX11_soonest 152 = .ok (.iload_n 3, 1) := by decide +kernel
theorem dX11_soonest_153 : decode cX11_soonest 153 = .ok (.iload 8, 2) := by decide +kernel
theorem dX11_soonest_155 : decode cX11_soonest 155 = .ok (.ishr, 1) := by decide +kernel
theorem dX11_soonest_156 : decode cX11_soonest 156 = .ok (.iconst 1, 1) := by decide +kernel
theorem dX11_soonest_157 : decode cX11_soonest 157 = .ok (.iand, 1) := by decide +kernel
theorem dX11_soonest_158 : decode cX11_soonest 158 = .ok (.iconst 1, 1) := by decide +kernel
theorem dX11_soonest_159 : decode cX11_soonest 159 = .ok (.if_icmp .ne 20, 3) := by decide +kernel
theorem dX11_soonest_162 : decode cX11_soonest 162 = .ok (.iload_n 3, 1) := by decide +kernel
theorem dX11_soonest_163 : decode cX11_soonest 163 = .ok (.iload 8, 2) := by decide +kernel
theorem dX11_soonest_165 : decode cX11_soonest 165 = .ok (.invokestatic 156, 3) := by decide +kernel
theorem dX11_soonest_168 : decode cX11_soonest 168 = .ok (.iload 4, 2) := by decide +kernel
theorem dX11_soonest_170 : decode cX11_soonest 170 = .ok (.iconst 1, 1) := by decide +kernel
theorem dX11_soonest_171 : decode cX11_soonest 171 = .ok (.isub, 1) := by decide +kernel
theorem dX11_soonest_172 : decode cX11_soonest 172 = .ok (.if_icmp .lt 7, 3) := by decide +kernel
theorem dX11_soonest_175 : decode cX11_soonest 175 = .ok (.iconst 1, 1) := by decide +kernel
theorem dX11_soonest_176 : decode cX11_soonest 176 = .ok (.goto 4, 3) := by decide +kernel
theorem dX11_soonest_179 : decode cX11_soonest 179 = .ok (.iconst 0, 1) := by decide +kernel
theorem dX11_soonest_180 : decode cX11_soonest 180 = .ok (.istore 9, 2) := by decide +kernel
theorem dX11_soonest_182 : decode cX11_soonest 182 = .ok (.iload 9, 2) := by decide +kernel
theorem dX11_soonest_184 : decode cX11_soonest 184 = .ok (.ifCond .eq 8, 3) := by decide +kernel
theorem dX11_soonest_187 : decode cX11_soonest 187 = .ok (.iload 8, 2) := by decide +kernel
theorem dX11_soonest_189 : decode cX11_soonest 189 = .ok (.goto 5, 3) := by decide +kernel
theorem dX11_soonest_192 : decode cX11_soonest 192 = .ok (.iload 7, 2) := by decide +kernel
theorem dX11_soonest_194 : decode cX11_soonest 194 = .ok (.istore 7, 2) := by decide +kernel
theorem dX11_soonest_196 : decode cX11_soonest 196 = .ok (.iinc 8 (-1), 3) := by decide +kernel
theorem dX11_soonest_199 : decode cX11_soonest 199 = .ok (.goto (-59), 3) := by decide +kernel
theorem dX11_soonest_202 : decode cX11_soonest 202 = .ok (.iload 6, 2) := by decide +kernel
theorem dX11_soonest_204 : decode cX11_soonest 204 = .ok (.iload_n 2, 1) := by decide +kernel
theorem dX11_soonest_205 : decode cX11_soonest 205 = .ok (.if_icmp .ne 6, 3) := by decide +kernel
theorem dX11_soonest_208 : decode cX11_soonest 208 = .ok (.iload 7, 2) := by decide +kernel
theorem dX11_soonest_210 : decode cX11_soonest 210 = .ok (.ireturn, 1) := by decide +kernel
theorem dX11_soonest_211 : decode cX11_soonest 211 = .ok (.iload 7, 2) := by decide +kernel
theorem dX11_soonest_213 : decode cX11_soonest 213 = .ok (.istore 5, 2) := by decide +kernel
theorem dX11_soonest_215 : decode cX11_soonest 215 = .ok (.iinc 4 (-1), 3) := by decide +kernel
theorem dX11_soonest_218 : decode cX11_soonest 218 = .ok (.iinc 6 1, 3) := by decide +kernel
theorem dX11_soonest_221 : decode cX11_soonest 221 = .ok (.goto (-100), 3) := by decide +kernel
theorem dX11_soonest_224 : decode cX11_soonest 224 = .ok (.bipush (-5), 2) := by decide +kernel
theorem dX11_soonest_226 : decode cX11_soonest 226 = .ok (.ireturn, 1) := by decide +kernel
theorem dX11_till_0 : decode cX11_till 0 = .ok (.aload_n 0, 1) := by decide +kernel
theorem dX11_till_1 : decode cX11_till 1 = .ok (.iconst 0, 1) := by decide +kernel
theorem dX11_till_2 : decode cX11_till 2 = .ok (.putfield 65, 3) := by decide +kernel
theorem dX11_till_5 : decode cX11_till 5 = .ok (.aload_n 0, 1) := by decide +kernel
theorem dX11_till_6 : decode cX11_till 6 = .ok (.iload_n 1, 1) := by decide +kernel
theorem dX11_till_7 : decode cX11_till 7 = .ok (.invokevirtual 129, 3) := by decide +kernel
theorem dX11_till_10 : decode cX11_till 10 = .ok (.ifCond .ne 5, 3) := by decide +kernel
theorem dX11_till_13 : decode cX11_till 13 = .ok (.iconst (-1), 1) := by decide +kernel
theorem dX11_till_14 : decode cX11_till 14 = .ok (.ireturn, 1) := by decide +kernel
theorem dX11_till_15 : decode cX11_till 15 = .ok (.aload_n 0, 1) := by decide +kernel
theorem dX11_till_16 : decode cX11_till 16 = .ok (.iload_n 1, 1) := by decide +kernel
theorem dX11_till_17 : decode cX11_till 17 = .ok (.invokevirtual 143, 3) := by decide +kernel
theorem dX11_till_20 : decode cX11_till 20 = .ok (.ifCond .eq 6, 3) := by decide +kernel
theorem dX11_till_23 : decode cX11_till 23 = .ok (.bipush (-2), 2) := by decide +kernel
theorem dX11_till_25 : decode cX11_till 25 = .ok (.ireturn, 1) := by decide +kernel
theorem dX11_till_26 : decode cX11_till 26 = .ok (.aload_n 0, 1) := by decide +kernel
theorem dX11_till_27 : decode cX11_till 27 = .ok (.iload_n 1, 1) := by decide +kernel
theorem dX11_till_28 : decode cX11_till 28 = .ok (.aload_n 0, 1) := by decide +kernel
theorem dX11_till_29 : decode cX11_till 29 = .ok (.iload_n 1, 1) := by decide +kernel
theorem dX11_till_30 : decode cX11_till 30 = .ok (.invokevirtual 133, 3) := by decide +kernel
theorem dX11_till_33 : decode cX11_till 33 = .ok (.invokevirtual 136, 3) := by decide +kernel
theorem dX11_till_36 : decode cX11_till 36 = .ok (.aload_n 0, 1) := by decide +kernel
theorem dX11_till_37 : decode cX11_till 37 = .ok (.getfield 28, 3) := by decide +kernel
theorem dX11_till_40 : decode cX11_till 40 = .ok (.iconst 0, 1) := by decide +kernel
theorem dX11_till_41 : decode cX11_till 41 = .ok (.iload_n 1, 1) := by decide +kernel
theorem dX11_till_42 : decode cX11_till 42 = .ok (.iadd, 1) := by decide +kernel
theorem dX11_till_43 : decode cX11_till 43 = .ok (.iaload, 1) := by decide +kernel
theorem dX11_till_44 : decode cX11_till 44 = .ok (.invokestatic 156, 3) := by decide +kernel
theorem dX11_till_47 : decode cX11_till 47 = .ok (.istore_n 2, 1) := by decide +kernel
theorem dX11_till_48 : decode cX11_till 48 = .ok (.iload_n 2, 1) := by decide +kernel
theorem dX11_till_49 : decode cX11_till 49 = .ok (.ldc 155, 2) := by decide +kernel
theorem dX11_till_51 : decode cX11_till 51 = .ok (.if_icmp .ne 6, 3) := by decide +kernel
theorem dX11_till_54 : decode cX11_till 54 = .ok (.bipush (-5), 2) := by decide +kernel
theorem dX11_till_56 : decode cX11_till 56 = .ok (.ireturn, 1) := by decide +kernel
theorem dX11_till_57 : decode cX11_till 57 = .ok (.aload_n 0, 1) := by decide +kernel
theorem dX11_till_58 : decode cX11_till 58 = .ok (.getfield 22, 3) := by decide +kernel
theorem dX11_till_61 : decode cX11_till 61 = .ok (.iload_n 1, 1) := by decide +kernel
theorem dX11_till_62 : decode cX11_till 62 = .ok (.iaload, 1) := by decide +kernel
theorem dX11_till_63 : decode cX11_till 63 = .ok (.ifCond .eq 31, 3) := by decide +kernel
theorem dX11_till_66 : decode cX11_till 66 = .ok (.iload_n 2, 1) := by decide +kernel
theorem dX11_till_67 : decode cX11_till 67 = .ok (.ifCond .le 27, 3) := by decide +kernel
theorem dX11_till_70 : decode cX11_till 70 = .ok (.aload_n 0, 1) := by decide +kernel
theorem dX11_till_71 : decode cX11_till 71 = .ok (.getfield 28, 3) := by decide +kernel
theorem dX11_till_74 : decode cX11_till 74 = .ok (.bipush 6, 2) := by decide +kernel
theorem dX11_till_76 : decode cX11_till 76 = .ok (.iload_n 1, 1) := by decide +kernel
theorem dX11_till_77 : decode cX11_till 77 = .ok (.iadd, 1) := by decide +kernel
theorem dX11_till_78 : decode cX11_till 78 = .ok (.iaload, 1) := by decide +kernel
theorem dX11_till_79 : decode cX11_till 79 = .ok (.iload_n 2, 1) := by decide +kernel
theorem dX11_till_80 : decode cX11_till 80 = .ok (.iadd, 1) := by decide +kernel
theorem dX11_till_81 : decode cX11_till 81 = .ok (.aload_n 0, 1) := by decide +kernel
theorem dX11_till_82 : decode cX11_till 82 = .ok (.getfield 13, 3) := by decide +kernel
theorem dX11_till_85 : decode cX11_till 85 = .ok (.iconst 2, 1) := by decide +kernel
theorem dX11_till_86 : decode cX11_till 86 = .ok (.iaload, 1) := by decide +kernel
theorem dX11_till_87 : decode cX11_till 87 = .ok (.if_icmp .lt 7, 3) := by decide +kernel
theorem dX11_till_90 : decode cX11_till 90 = .ok (.iconst 1, 1) := by decide +kernel
theorem dX11_till_91 : decode cX11_till 91 = .ok (.goto 4, 3) := by decide +kernel
theorem dX11_till_94 : decode cX11_till 94 = .ok (.iconst 0, 1) := by decide +kernel
theorem dX11_till_95 : decode cX11_till 95 = .ok (.istore_n 3, 1) := by decide +kernel
theorem dX11_till_96 : decode cX11_till 96 = .ok (.iload_n 3, 1) := by decide +kernel
theorem dX11_till_97 : decode cX11_till 97 = .ok (.ifCond .eq 18, 3) := by decide +kernel
theorem dX11_till_100 : decode cX11_till 100 = .ok (.aload_n 0, 1) := by decide +kernel
theorem dX11_till_101 : decode cX11_till 101 = .ok (.getfield 13, 3) := by decide +kernel
theorem dX11_till_104 : decode cX11_till 104 = .ok (.iconst 0, 1) := by decide +kernel
theorem dX11_till_105 : decode cX11_till 105 = .ok (.iaload, 1) := by decide +kernel
theorem dX11_till_106 : decode cX11_till 106 = .ok (.iconst 1, 1) := by decide +kernel
theorem dX11_till_107 : decode cX11_till 107 = .ok (.if_icmp .le 8, 3) := by decide +kernel
theorem dX11_till_110 : decode cX11_till 110 = .ok (.bipush (-5), 2) := by decide +kernel
theorem dX11_till_112 : decode cX11_till 112 = .ok (.goto 4, 3) := by decide +kernel
theorem dX11_till_115 : decode cX11_till 115 = .ok (.iload_n 2, 1) := by decide +kernel
theorem dX11_till_116 : decode cX11_till 116 = .ok (.ireturn, 1) := by decide +kernel
theorem dX11_gcd_0 : decode cX11_gcd 0 = .ok (.iload_n 0, 1) := by decide +kernel
theorem dX11_gcd_1 : decode cX11_gcd 1 = .ok (.istore_n 2, 1) := by decide +kernel
theorem dX11_gcd_2 : decode cX11_gcd 2 = .ok (.iload_n 1, 1) := by decide +kernel
theorem dX11_gcd_3 : decode cX11_gcd 3 = .ok (.istore_n 3, 1) := by decide +kernel
theorem dX11_gcd_4 : decode cX11_gcd 4 = .ok (.iload_n 3, 1) := by decide +kernel
theorem dX11_gcd_5 : decode cX11_gcd 5 = .ok (.ifCond .eq 16, 3) := by decide +kernel
theorem dX11_gcd_8 : decode cX11_gcd 8 = .ok (.iload_n 2, 1) := by decide +kernel
theorem dX11_gcd_9 : decode cX11_gcd 9 = .ok (.iload_n 3, 1) := by decide +kernel
theorem dX11_gcd_10 : decode cX11_gcd 10 = .ok (.irem, 1) := by decide +kernel
theorem dX11_gcd_11 : decode cX11_gcd 11 = .ok (.istore 4, 2) := by decide +kernel
theorem dX11_gcd_13 : decode cX11_gcd 13 = .ok (.iload_n 3, 1) := by decide +kernel
theorem dX11_gcd_14 : decode cX11_gcd 14 = .ok (.istore_n 2, 1) := by decide +kernel
theorem dX11_gcd_15 : decode cX11_gcd 15 = .ok (.iload 4, 2) := by decide +kernel
theorem dX11_gcd_17 : decode cX11_gcd 17 = .ok (.istore_n 3, 1) := by decide +kernel
theorem dX11_gcd_18 : decode cX11_gcd 18 = .ok (.goto (-14), 3) := by decide +kernel
theorem dX11_gcd_21 : decode cX11_gcd 21 = .ok (.iload_n 2, 1) := by decide +kernel
theorem dX11_gcd_22 : decode cX11_gcd 22 = .ok (.ireturn, 1) := by decide +kernel
theorem dX11_odds_0 : decode cX11_odds 0 = .ok (.aload_n 0, 1) := by decide +kernel
theorem dX11_odds_1 : decode cX11_odds 1 = .ok (.iconst 0, 1) := by decide +kernel
theorem dX11_odds_2 : decode cX11_odds 2 = .ok (.putfield 65, 3) := by decide +kernel
theorem dX11_odds_5 : decode cX11_odds 5 = .ok (.aload_n 0, 1) := by decide +kernel
theorem dX11_odds_6 : decode cX11_odds 6 = .ok (.iload_n 1, 1) := by decide +kernel
theorem dX11_odds_7 : decode cX11_odds 7 = .ok (.invokevirtual 129, 3) := by decide +kernel
theorem dX11_odds_10 : decode cX11_odds 10 = .ok (.ifCond .eq 21, 3) := by decide +kernel
theorem dX11_odds_13 : decode cX11_odds 13 = .ok (.iload_n 2, 1) := by decide +kernel
theorem dX11_odds_14 : decode cX11_odds 14 = .ok (.iconst 0, 1) := by decide +kernel
theorem dX11_odds_15 : decode cX11_odds 15 = .ok (.iconst 4, 1) := by decide +kernel
theorem dX11_odds_16 : decode cX11_odds 16 = .ok (.invokestatic 69, 3) := by decide +kernel
theorem dX11_odds_19 : decode cX11_odds 19 = .ok (.ifCond .eq 12, 3) := by decide +kernel
theorem dX11_odds_22 : decode cX11_odds 22 = .ok (.iload_n 3, 1) := by decide +kernel
theorem dX11_odds_23 : decode cX11_odds 23 = .ok (.iconst 0, 1) := by decide +kernel
theorem dX11_odds_24 : decode cX11_odds 24 = .ok (.iconst 1, 1) := by decide +kernel
theorem dX11_odds_25 : decode cX11_odds 25 = .ok (.invokestatic 69, 3) := by decide +kernel
theorem dX11_odds_28 : decode cX11_odds 28 = .ok (.ifCond .ne 5, 3) := by decide +kernel
theorem dX11_odds_31 : decode cX11_odds 31 = .ok (.iconst (-1), 1) := by decide +kernel
theorem dX11_odds_32 : decode cX11_odds 32 = .ok (.ireturn, 1) := by decide +kernel
theorem dX11_odds_33 : decode cX11_odds 33 = .ok (.aload_n 0, 1) := by decide +kernel
theorem dX11_odds_34 : decode cX11_odds 34 = .ok (.iload_n 1, 1) := by decide +kernel
theorem dX11_odds_35 : decode cX11_odds 35 = .ok (.invokevirtual 143, 3) := by decide +kernel
theorem dX11_odds_38 : decode cX11_odds 38 = .ok (.ifCond .eq 6, 3) := by decide +kernel
theorem dX11_odds_41 : decode cX11_odds 41 = .ok (.bipush (-2), 2) := by decide +kernel
theorem dX11_odds_43 : decode cX11_odds 43 = .ok (.ireturn, 1) := by decide +kernel
theorem dX11_odds_44 : decode cX11_odds 44 = .ok (.iconst 1, 1) := by decide +kernel
theorem dX11_odds_45 : decode cX11_odds 45 = .ok (.istore 4, 2) := by decide +kernel
theorem dX11_odds_47 : decode cX11_odds 47 = .ok (.iconst 0, 1) := by decide +kernel
theorem dX11_odds_48 : decode cX11_odds 48 = .ok (.istore 5, 2) := by decide +kernel
theorem dX11_odds_50 : decode cX11_odds 50 = .ok (.iload 5, 2) := by decide +kernel
theorem dX11_odds_52 : decode cX11_odds 52 = .ok (.iconst 5, 1) := by decide +kernel
theorem dX11_odds_53 : decode cX11_odds 53 = .ok (.if_icmp .ge 34, 3) := by decide +kernel
theorem dX11_odds_56 : decode cX11_odds 56 = .ok (.aload_n 0, 1) := by decide +kernel
theorem dX11_odds_57 : decode cX11_odds 57 = .ok (.getfield 53, 3) := by decide +kernel
theorem dX11_odds_60 : decode cX11_odds 60 = .ok (.iload 5, 2) := by decide +kernel
theorem dX11_odds_62 : decode cX11_odds 62 = .ok (.iload 5, 2) := by decide +kernel
theorem dX11_odds_64 : decode cX11_odds 64 = .ok (.aload_n 0, 1) := by decide +kernel
theorem dX11_odds_65 : decode cX11_odds 65 = .ok (.getfield 28, 3) := by decide +kernel
theorem dX11_odds_68 : decode cX11_odds 68 = .ok (.iconst 0, 1) := by decide +kernel
theorem dX11_odds_69 : decode cX11_odds 69 = .ok (.iload_n 1, 1) := by decide +kernel
theorem dX11_odds_70 : decode cX11_odds 70 = .ok (.iadd, 1) := by decide +kernel
theorem dX11_odds_71 : decode cX11_odds 71 = .ok (.iaload, 1) := by decide +kernel
theorem dX11_odds_72 : decode cX11_odds 72 = .ok (.if_icmp .ne 7, 3) := by decide +kernel
theorem dX11_odds_75 : decode cX11_odds 75 = .ok (.iconst 1, 1) := by decide +kernel
theorem dX11_odds_76 : decode cX11_odds 76 = .ok (.goto 4, 3) := by decide +kernel
theorem dX11_odds_79 : decode cX11_odds 79 = .ok (.iconst 0, 1) := by decide +kernel
theorem dX11_odds_80 : decode cX11_odds 80 = .ok (.iastore, 1) := by decide +kernel
theorem dX11_odds_81 : decode cX11_odds 81 = .ok (.iinc 5 1, 3) := by decide +kernel
theorem dX11_odds_84 : decode cX11_odds 84 = .ok (.goto (-34), 3) := by decide +kernel
theorem dX11_odds_87 : decode cX11_odds 87 = .ok (.iconst 0, 1) := by decide +kernel
theorem dX11_odds_88 : decode cX11_odds 88 = .ok (.istore 5, 2) := by decide +kernel
theorem dX11_odds_90 : decode cX11_odds 90 = .ok (.iload 5, 2) := by decide +kernel
theorem dX11_odds_92 : decode cX11_odds 92 = .ok (.iload_n 2, 1) := by decide +kernel
theorem dX11_odds_93 : decode cX11_odds 93 = .ok (.if_icmp .ge 201, 3) := by decide +kernel
theorem dX11_odds_96 : decode cX11_odds 96 = .ok (.aload_n 0, 1) := by decide +kernel
theorem dX11_odds_97 : decode cX11_odds 97 = .ok (.iload_n 1, 1) := by decide +kernel
theorem dX11_odds_98 : decode cX11_odds 98 = .ok (.invokevirtual 133, 3) := by decide +kernel
theorem dX11_odds_101 : decode cX11_odds 101 = .ok (.ifCond .ne 38, 3) := by decide +kernel
theorem dX11_odds_104 : decode cX11_odds 104 = .ok (.aload_n 0, 1) := by decide +kernel
theorem dX11_odds_105 : decode cX11_odds 105 = .ok (.getfield 22, 3) := by decide +kernel
theorem dX11_odds_108 : decode cX11_odds 108 = .ok (.iload_n 1, 1) := by decide +kernel
theorem dX11_odds_109 : decode cX11_odds 109 = .ok (.iaload, 1) := by decide +kernel
theorem dX11_odds_110 : decode cX11_odds 110 = .ok (.ifCond .eq 33, 3) := by decide +kernel
theorem dX11_odds_113 : decode cX11_odds 113 = .ok (.iload 5, 2) := by decide +kernel
theorem dX11_odds_115 : decode cX11_odds 115 = .ok (.ifCond .le 28, 3) := by decide +kernel
theorem dX11_odds_118 : decode cX11_odds 118 = .ok (.aload_n 0, 1) := by decide +kernel
theorem dX11_odds_119 : decode cX11_odds 119 = .ok (.getfield 28, 3) := by decide +kernel
theorem dX11_odds_122 : decode cX11_odds 122 = .ok (.bipush 6, 2) := by decide +kernel
theorem dX11_odds_124 : decode cX11_odds 124 = .ok (.iload_n 1, 1) := by decide +kernel
theorem dX11_odds_125 : decode cX11_odds 125 = .ok (.iadd, 1) := by decide +kernel
theorem dX11_odds_126 : decode cX11_odds 126 = .ok (.iaload, 1) := by decide +kernel
theorem dX11_odds_127 : decode cX11_odds 127 = .ok (.iload 5, 2) := by decide +kernel
theorem dX11_odds_129 : decode cX11_odds 129 = .ok (.iadd, 1) := by decide +kernel
theorem dX11_odds_130 : decode cX11_odds 130 = .ok (.aload_n 0, 1) := by decide +kernel
theorem dX11_odds_131 : decode cX11_odds 131 = .ok (.getfield 13, 3) := by decide +kernel
theorem dX11_odds_134 : decode cX11_odds 134 = .ok (.iconst 2, 1) := by decide +kernel
theorem dX11_odds_135 : decode cX11_odds 135 = .ok (.iaload, 1) := by decide +kernel
theorem dX11_odds_136 : decode cX11_odds 136 = .ok (.if_icmp .lt 7, 3) := by decide +kernel
theorem dX11_odds_139 : decode cX11_odds 139 = .ok (.iconst 1, 1) := by decide +kernel
theorem dX11_odds_140 : decode cX11_odds 140 = .ok (.goto 4, 3) := by decide +kernel
theorem dX11_odds_143 : decode cX11_odds 143 = .ok (.iconst 0, 1) := by decide +kernel
theorem dX11_odds_144 : decode cX11_odds 144 = .ok (.istore 6, 2) := by decide +kernel
theorem dX11_odds_146 : decode cX11_odds 146 = .ok (.aload_n 0, 1) := by decide +kernel
theorem dX11_odds_147 : decode cX11_odds 147 = .ok (.iload_n 1, 1) := by decide +kernel
theorem dX11_odds_148 : decode cX11_odds 148 = .ok (.iload 6, 2) := by decide +kernel
theorem dX11_odds_150 : decode cX11_odds 150 = .ok (.invokevirtual 136, 3) := by decide +kernel
theorem dX11_odds_153 : decode cX11_odds 153 = .ok (.istore 7, 2) := by decide +kernel
theorem dX11_odds_155 : decode cX11_odds 155 = .ok (.iconst 0, 1) := by decide +kernel
theorem dX11_odds_156 : decode cX11_odds 156 = .ok (.istore 8, 2) := by decide +kernel
theorem dX11_odds_158 : decode cX11_odds 158 = .ok (.iconst 0, 1) := by decide +kernel
theorem dX11_odds_159 : decode cX11_odds 159 = .ok (.istore 9, 2) := by decide +kernel
theorem dX11_odds_161 : decode cX11_odds 161 = .ok (.iload 9, 2) := by decide +kernel
theorem dX11_odds_163 : decode cX11_odds 163 = .ok (.iconst 5, 1) := by decide +kernel
theorem dX11_odds_164 : decode cX11_odds 164 = .ok (.if_icmp .ge 21, 3) := by decide +kernel
theorem dX11_odds_167 : decode cX11_odds 167 = .ok (.iload 8, 2) := by decide +kernel
theorem dX11_odds_169 : decode cX11_odds 169 = .ok (.aload_n 0, 1) := by decide +kernel
theorem dX11_odds_170 : decode cX11_odds 170 = .ok (.getfield 53, 3) := by decide +kernel
theorem dX11_odds_173 : decode cX11_odds 173 = .ok (.iload 9, 2) := by decide +kernel
theorem dX11_odds_175 : decode cX11_odds 175 = .ok (.iaload, 1) := by decide +kernel
theorem dX11_odds_176 : decode cX11_odds 176 = .ok (.iadd, 1) := by decide +kernel
theorem dX11_odds_177 : decode cX11_odds 177 = .ok (.istore 8, 2) := by decide +kernel
theorem dX11_odds_179 : decode cX11_odds 179 = .ok (.iinc 9 1, 3) := by decide +kernel
theorem dX11_odds_182 : decode cX11_odds 182 = .ok (.goto (-21), 3) := by decide +kernel
theorem dX11_odds_185 : decode cX11_odds 185 = .ok (.iconst 0, 1) := by decide +kernel
theorem dX11_odds_186 : decode cX11_odds 186 = .ok (.istore 9, 2) := by decide +kernel
theorem dX11_odds_188 : decode cX11_odds 188 = .ok (.iload 9, 2) := by decide +kernel
theorem dX11_odds_190 : decode cX11_odds 190 = .ok (.iconst 5, 1) := by decide +kernel
theorem dX11_odds_191 : decode cX11_odds 191 = .ok (.if_icmp .ge 41, 3) := by decide +kernel
theorem dX11_odds_194 : decode cX11_odds 194 = .ok (.aload_n 0, 1) := by decide +kernel
theorem dX11_odds_195 : decode cX11_odds 195 = .ok (.getfield 56, 3) := by decide +kernel
theorem dX11_odds_198 : decode cX11_odds 198 = .ok (.iload 9, 2) := by decide +kernel
theorem dX11_odds_200 : decode cX11_odds 200 = .ok (.iload 7, 2) := by decide +kernel
theorem dX11_odds_202 : decode cX11_odds 202 = .ok (.iload 9, 2) := by decide +kernel
theorem dX11_odds_204 : decode cX11_odds 204 = .ok (.ishr, 1) := by decide +kernel
theorem dX11_odds_205 : decode cX11_odds 205 = .ok (.iconst 1, 1) := by decide +kernel
theorem dX11_odds_206 : decode cX11_odds 206 = .ok (.iand, 1) := by decide +kernel
theorem dX11_odds_207 : decode cX11_odds 207 = .ok (.iconst 1, 1) := by decide +kernel
theorem dX11_odds_208 : decode cX11_odds 208 = .ok (.if_icmp .ne 16, 3) := by decide +kernel
theorem dX11_odds_211 : decode cX11_odds 211 = .ok (.iload 8, 2) := by decide +kernel
theorem dX11_odds_213 : decode cX11_odds 213 = .ok (.aload_n 0, 1) := by decide +kernel
theorem dX11_odds_214 : decode cX11_odds 214 = .ok (.getfield 53, 3) := by decide +kernel
theorem dX11_odds_217 : decode cX11_odds 217 = .ok (.iload 9, 2) := by decide +kernel
theorem dX11_odds_219 : decode cX11_odds 219 = .ok (.iaload, 1) := by decide +kernel
theorem dX11_odds_220 : decode cX11_odds 220 = .ok (.isub, 1) := by decide +kernel
theorem dX11_odds_221 : decode cX11_odds 221 = .ok (.goto 4, 3) := by decide +kernel
theorem dX11_odds_224 : decode cX11_odds 224 = .ok (.iconst 0, 1) := by decide +kernel
theorem dX11_odds_225 : decode cX11_odds 225 = .ok (.iastore, 1) := by decide +kernel
theorem dX11_odds_226 : decode cX11_odds 226 = .ok (.iinc 9 1, 3) := by decide +kernel
theorem dX11_odds_229 : decode cX11_odds 229 = .ok (.goto (-41), 3) := by decide +kernel
theorem dX11_odds_232 : decode cX11_odds 232 = .ok (.iconst 0, 1) := by decide +kernel
theorem dX11_odds_233 : decode cX11_odds 233 = .ok (.istore 9, 2) := by decide +kernel
theorem dX11_odds_235 : decode cX11_odds 235 = .ok (.iload 9, 2) := by decide +kernel
theorem dX11_odds_237 : decode cX11_odds 237 = .ok (.iconst 5, 1) := by decide +kernel
theorem dX11_odds_238 : decode cX11_odds 238 = .ok (.if_icmp .ge 23, 3) := by decide +kernel
theorem dX11_odds_241 : decode cX11_odds 241 = .ok (.aload_n 0, 1) := by decide +kernel
theorem dX11_odds_242 : decode cX11_odds 242 = .ok (.getfield 53, 3) := by decide +kernel
theorem dX11_odds_245 : decode cX11_odds 245 = .ok (.iload 9, 2) := by decide +kernel
theorem dX11_odds_247 : decode cX11_odds 247 = .ok (.aload_n 0, 1) := by decide +kernel
theorem dX11_odds_248 : decode cX11_odds 248 = .ok (.getfield 56, 3) := by decide +kernel
theorem dX11_odds_251 : decode cX11_odds 251 = .ok (.iload 9, 2) := by decide +kernel
theorem dX11_odds_253 : decode cX11_odds 253 = .ok (.iaload, 1) := by decide +kernel
theorem dX11_odds_254 : decode cX11_odds 254 = .ok (.iastore, 1) := by decide +kernel
theorem dX11_odds_255 : decode cX11_odds 255 = .ok (.iinc 9 1, 3) := by decide +kernel
theorem dX11_odds_258 : decode cX11_odds 258 = .ok (.goto (-23), 3) := by decide +kernel
theorem dX11_odds_261 : decode cX11_odds 261 = .ok (.iload 4, 2) := by decide +kernel
theorem dX11_odds_263 : decode cX11_odds 263 = .ok (.aload_n 0, 1) := by decide +kernel
theorem dX11_odds_264 : decode cX11_odds 264 = .ok (.getfield 13, 3) := by decide +kernel
theorem dX11_odds_267 : decode cX11_odds 267 = .ok (.iconst 0, 1) := by decide +kernel
theorem dX11_odds_268 : decode cX11_odds 268 = .ok (.iaload, 1) := by decide +kernel
theorem dX11_odds_269 : decode cX11_odds 269 = .ok (.iconst 1, 1) := by decide +kernel
theorem dX11_odds_270 : decode cX11_odds 270 = .ok (.if_icmp .le 14, 3) := by decide +kernel
theorem dX11_odds_273 : decode cX11_odds 273 = .ok (.aload_n 0, 1) := by decide +kernel
theorem dX11_odds_274 : decode cX11_odds 274 = .ok (.getfield 13, 3) := by decide +kernel
theorem dX11_odds_277 : decode cX11_odds 277 = .ok (.iconst 0, 1) := by decide +kernel
theorem dX11_odds_278 : decode cX11_odds 278 = .ok (.iaload, 1) := by decide +kernel
theorem dX11_odds_279 : decode cX11_odds 279 = .ok (.iconst 1, 1) := by decide +kernel
theorem dX11_odds_280 : decode cX11_odds 280 = .ok (.isub, 1) := by decide +kernel
theorem dX11_odds_281 : decode cX11_odds 281 = .ok (.goto 4, 3) := by decide +kernel
theorem dX11_odds_284 : decode cX11_odds 284 = .ok (.iconst 1, 1) := by decide +kernel
theorem dX11_odds_285 : decode cX11_odds 285 = .ok (.imul, 1) := by decide +kernel
theorem dX11_odds_286 : decode cX11_odds 286 = .ok (.istore 4, 2) := by decide +kernel
theorem dX11_odds_288 : decode cX11_odds 288 = .ok (.iinc 5 1, 3) := by decide +kernel
theorem dX11_odds_291 : decode cX11_odds 291 = .ok (.goto (-201), 3) := by decide +kernel
theorem dX11_odds_294 : decode cX11_odds 294 = .ok (.iconst 0, 1) := by decide +kernel
theorem dX11_odds_295 : decode cX11_odds 295 = .ok (.istore 5, 2) := by decide +kernel
theorem dX11_odds_297 : decode cX11_odds 297 = .ok (.iconst 0, 1) := by decide +kernel
theorem dX11_odds_298 : decode cX11_odds 298 = .ok (.istore 6, 2) := by decide +kernel
theorem dX11_odds_300 : decode cX11_odds 300 = .ok (.iload 6, 2) := by decide +kernel
theorem dX11_odds_302 : decode cX11_odds 302 = .ok (.iconst 5, 1) := by decide +kernel
theorem dX11_odds_303 : decode cX11_odds 303 = .ok (.if_icmp .ge 21, 3) := by decide +kernel
theorem dX11_odds_306 : decode cX11_odds 306 = .ok (.iload 5, 2) := by decide +kernel
theorem dX11_odds_308 : decode cX11_odds 308 = .ok (.aload_n 0, 1) := by decide +kernel
theorem dX11_odds_309 : decode cX11_odds 309 = .ok (.getfield 53, 3) := by decide +kernel
theorem dX11_odds_312 : decode cX11_odds 312 = .ok (.iload 6, 2) := by decide +kernel
theorem dX11_odds_314 : decode cX11_odds 314 = .ok (.iaload, 1) := by decide +kernel
theorem dX11_odds_315 : decode cX11_odds 315 = .ok (.iadd, 1) := by decide +kernel
theorem dX11_odds_316 : decode cX11_odds 316 = .ok (.istore 5, 2) := by decide +kernel
theorem dX11_odds_318 : decode cX11_odds 318 = .ok (.iinc 6 1, 3) := by decide +kernel
theorem dX11_odds_321 : decode cX11_odds 321 = .ok (.goto (-21), 3) := by decide +kernel
theorem dX11_odds_324 : decode cX11_odds 324 = .ok (.iload 5, 2) := by decide +kernel
theorem dX11_odds_326 : decode cX11_odds 326 = .ok (.iload 4, 2) := by decide +kernel
theorem dX11_odds_328 : decode cX11_odds 328 = .ok (.invokestatic 159, 3) := by decide +kernel
theorem dX11_odds_331 : decode cX11_odds 331 = .ok (.istore 6, 2) := by decide +kernel
theorem dX11_odds_333 : decode cX11_odds 333 = .ok (.iload_n 3, 1) := by decide +kernel
theorem dX11_odds_334 : decode cX11_odds 334 = .ok (.ifCond .ne 11, 3) := by decide +kernel
theorem dX11_odds_337 : decode cX11_odds 337 = .ok (.iload 5, 2) := by decide +kernel
theorem dX11_odds_339 : decode cX11_odds 339 = .ok (.iload 6, 2) := by decide +kernel
theorem dX11_odds_341 : decode cX11_odds 341 = .ok (.idiv, 1) := by decide +kernel
theorem dX11_odds_342 : decode cX11_odds 342 = .ok (.goto 8, 3) := by decide +kernel
theorem dX11_odds_345 : decode cX11_odds 345 = .ok (.iload 4, 2) := by decide +kernel
theorem dX11_odds_347 : decode cX11_odds 347 = .ok (.iload 6, 2) := by decide +kernel
theorem dX11_odds_349 : decode cX11_odds 349 = .ok (.idiv, 1) := by decide +kernel
theorem dX11_odds_350 : decode cX11_odds 350 = .ok (.ireturn, 1) := by decide +kernel
theorem dX11_saw_0 : decode cX11_saw 0 = .ok (.aload_n 0, 1) := by decide +kernel
theorem dX11_saw_1 : decode cX11_saw 1 = .ok (.iconst 0, 1) := by decide +kernel
theorem dX11_saw_2 : decode cX11_saw 2 = .ok (.putfield 65, 3) := by decide +kernel
theorem dX11_saw_5 : decode cX11_saw 5 = .ok (.aload_n 0, 1) := by decide +kernel
theorem dX11_saw_6 : decode cX11_saw 6 = .ok (.iload_n 1, 1) := by decide +kernel
theorem dX11_saw_7 : decode cX11_saw 7 = .ok (.invokevirtual 140, 3) := by decide +kernel
theorem dX11_saw_10 : decode cX11_saw 10 = .ok (.ifCond .eq 12, 3) := by decide +kernel
theorem dX11_saw_13 : decode cX11_saw 13 = .ok (.iload_n 2, 1) := by decide +kernel
theorem dX11_saw_14 : decode cX11_saw 14 = .ok (.iconst 0, 1) := by decide +kernel
theorem dX11_saw_15 : decode cX11_saw 15 = .ok (.iconst 1, 1) := by decide +kernel
theorem dX11_saw_16 : decode cX11_saw 16 = .ok (.invokestatic 69, 3) := by decide +kernel
theorem dX11_saw_19 : decode cX11_saw 19 = .ok (.ifCond .ne 5, 3) := by decide +kernel
theorem dX11_saw_22 : decode cX11_saw 22 = .ok (.iconst (-1), 1) := by decide +kernel
theorem dX11_saw_23 : decode cX11_saw 23 = .ok (.ireturn, 1) := by decide +kernel
theorem dX11_saw_24 : decode cX11_saw 24 = .ok (.aload_n 0, 1) := by decide +kernel
theorem dX11_saw_25 : decode cX11_saw 25 = .ok (.getfield 120, 3) := by decide +kernel
theorem dX11_saw_28 : decode cX11_saw 28 = .ok (.bipush 6, 2) := by decide +kernel
theorem dX11_saw_30 : decode cX11_saw 30 = .ok (.if_icmp .ne 6, 3) := by decide +kernel
theorem dX11_saw_33 : decode cX11_saw 33 = .ok (.bipush (-3), 2) := by decide +kernel
theorem dX11_saw_35 : decode cX11_saw 35 = .ok (.ireturn, 1) := by decide +kernel
theorem dX11_saw_36 : decode cX11_saw 36 = .ok (.aload_n 0, 1) := by decide +kernel
theorem dX11_saw_37 : decode cX11_saw 37 = .ok (.getfield 41, 3) := by decide +kernel
theorem dX11_saw_40 : decode cX11_saw 40 = .ok (.aload_n 0, 1) := by decide +kernel
theorem dX11_saw_41 : decode cX11_saw 41 = .ok (.getfield 120, 3) := by decide +kernel
theorem dX11_saw_44 : decode cX11_saw 44 = .ok (.iload_n 1, 1) := by decide +kernel
theorem dX11_saw_45 : decode cX11_saw 45 = .ok (.iastore, 1) := by decide +kernel
theorem dX11_saw_46 : decode cX11_saw 46 = .ok (.aload_n 0, 1) := by decide +kernel
theorem dX11_saw_47 : decode cX11_saw 47 = .ok (.getfield 44, 3) := by decide +kernel
theorem dX11_saw_50 : decode cX11_saw 50 = .ok (.aload_n 0, 1) := by decide +kernel
theorem dX11_saw_51 : decode cX11_saw 51 = .ok (.getfield 120, 3) := by decide +kernel
theorem dX11_saw_54 : decode cX11_saw 54 = .ok (.iload_n 2, 1) := by decide +kernel
theorem dX11_saw_55 : decode cX11_saw 55 = .ok (.iastore, 1) := by decide +kernel
theorem dX11_saw_56 : decode cX11_saw 56 = .ok (.aload_n 0, 1) := by decide +kernel
theorem dX11_saw_57 : decode cX11_saw 57 = .ok (.dup, 1) := by decide +kernel
theorem dX11_saw_58 : decode cX11_saw 58 = .ok (.getfield 120, 3) := by decide +kernel
theorem dX11_saw_61 : decode cX11_saw 61 = .ok (.iconst 1, 1) := by decide +kernel
theorem dX11_saw_62 : decode cX11_saw 62 = .ok (.iadd, 1) := by decide +kernel
theorem dX11_saw_63 : decode cX11_saw 63 = .ok (.putfield 120, 3) := by decide +kernel
theorem dX11_saw_66 : decode cX11_saw 66 = .ok (.aload_n 0, 1) := by decide +kernel
theorem dX11_saw_67 : decode cX11_saw 67 = .ok (.getfield 120, 3) := by decide +kernel
theorem dX11_saw_70 : decode cX11_saw 70 = .ok (.ireturn, 1) := by decide +kernel
theorem dX11_mayBe_0 : decode cX11_mayBe 0 = .ok (.iload_n 2, 1) := by decide +kernel
theorem dX11_mayBe_1 : decode cX11_mayBe 1 = .ok (.ifCond .ne 7, 3) := by decide +kernel
theorem dX11_mayBe_4 : decode cX11_mayBe 4 = .ok (.iconst 1, 1) := by decide +kernel
theorem dX11_mayBe_5 : decode cX11_mayBe 5 = .ok (.goto 4, 3) := by decide +kernel
theorem dX11_mayBe_8 : decode cX11_mayBe 8 = .ok (.iconst 0, 1) := by decide +kernel
theorem dX11_mayBe_9 : decode cX11_mayBe 9 = .ok (.istore_n 3, 1) := by decide +kernel
theorem dX11_mayBe_10 : decode cX11_mayBe 10 = .ok (.iconst 0, 1) := by decide +kernel
theorem dX11_mayBe_11 : decode cX11_mayBe 11 = .ok (.istore 4, 2) := by decide +kernel
theorem dX11_mayBe_13 : decode cX11_mayBe 13 = .ok (.iload 4, 2) := by decide +kernel
theorem dX11_mayBe_15 : decode cX11_mayBe 15 = .ok (.aload_n 0, 1) := by decide +kernel
theorem dX11_mayBe_16 : decode cX11_mayBe 16 = .ok (.getfield 120, 3) := by decide +kernel
theorem dX11_mayBe_19 : decode cX11_mayBe 19 = .ok (.if_icmp .ge 63, 3) := by decide +kernel
end
section
theorem dX11_mayBe_22 : decode cX11_mayBe 22 = .ok (.iload_n 3, 1) := by decide +kernel
theorem dX11_mayBe_23 : decode cX11_mayBe 23 = .ok (.ifCond .eq 51, 3) := by decide +kernel
theorem dX11_mayBe_26 : decode cX11_mayBe 26 = .ok (.iload_n 1, 1) := by decide +kernel
theorem dX11_mayBe_27 : decode cX11_mayBe 27 = .ok (.aload_n 0, 1) := by decide +kernel
theorem dX11_mayBe_28 : decode cX11_mayBe 28 = .ok (.getfield 28, 3) := by decide +kernel
theorem dX11_mayBe_31 : decode cX11_mayBe 31 = .ok (.bipush 14, 2) := by decide +kernel
theorem dX11_mayBe_33 : decode cX11_mayBe 33 = .ok (.aload_n 0, 1) := by decide +kernel
theorem dX11_mayBe_34 : decode cX11_mayBe 34 = .ok (.getfield 41, 3) := by decide +kernel
theorem dX11_mayBe_37 : decode cX11_mayBe 37 = .ok (.iload 4, 2) := by decide +kernel
theorem dX11_mayBe_39 : decode cX11_mayBe 39 = .ok (.iaload, 1) := by decide +kernel
theorem dX11_mayBe_40 : decode cX11_mayBe 40 = .ok (.iadd, 1) := by decide +kernel
theorem dX11_mayBe_41 : decode cX11_mayBe 41 = .ok (.iaload, 1) := by decide +kernel
theorem dX11_mayBe_42 : decode cX11_mayBe 42 = .ok (.iand, 1) := by decide +kernel
theorem dX11_mayBe_43 : decode cX11_mayBe 43 = .ok (.ifCond .ne 7, 3) := by decide +kernel
theorem dX11_mayBe_46 : decode cX11_mayBe 46 = .ok (.iconst 1, 1) := by decide +kernel
theorem dX11_mayBe_47 : decode cX11_mayBe 47 = .ok (.goto 4, 3) := by decide +kernel
theorem dX11_mayBe_50 : decode cX11_mayBe 50 = .ok (.iconst 0, 1) := by decide +kernel
theorem dX11_mayBe_51 : decode cX11_mayBe 51 = .ok (.aload_n 0, 1) := by decide +kernel
theorem dX11_mayBe_52 : decode cX11_mayBe 52 = .ok (.getfield 44, 3) := by decide +kernel
theorem dX11_mayBe_55 : decode cX11_mayBe 55 = .ok (.iload 4, 2) := by decide +kernel
theorem dX11_mayBe_57 : decode cX11_mayBe 57 = .ok (.iaload, 1) := by decide +kernel
theorem dX11_mayBe_58 : decode cX11_mayBe 58 = .ok (.iconst 1, 1) := by decide +kernel
theorem dX11_mayBe_59 : decode cX11_mayBe 59 = .ok (.if_icmp .ne 7, 3) := by decide +kernel
theorem dX11_mayBe_62 : decode cX11_mayBe 62 = .ok (.iconst 1, 1) := by decide +kernel
theorem dX11_mayBe_63 : decode cX11_mayBe 63 = .ok (.goto 4, 3) := by decide +kernel
theorem dX11_mayBe_66 : decode cX11_mayBe 66 = .ok (.iconst 0, 1) := by decide +kernel
theorem dX11_mayBe_67 : decode cX11_mayBe 67 = .ok (.if_icmp .ne 7, 3) := by decide +kernel
theorem dX11_mayBe_70 : decode cX11_mayBe 70 = .ok (.iconst 1, 1) := by decide +kernel
theorem dX11_mayBe_71 : decode cX11_mayBe 71 = .ok (.goto 4, 3) := by decide +kernel
theorem dX11_mayBe_74 : decode cX11_mayBe 74 = .ok (.iconst 0, 1) := by decide +kernel
theorem dX11_mayBe_75 : decode cX11_mayBe 75 = .ok (.istore_n 3, 1) := by decide +kernel
theorem dX11_mayBe_76 : decode cX11_mayBe 76 = .ok (.iinc 4 1, 3) := by decide +kernel
theorem dX11_mayBe_79 : decode cX11_mayBe 79 = .ok (.goto (-66), 3) := by decide +kernel
theorem dX11_mayBe_82 : decode cX11_mayBe 82 = .ok (.iload_n 3, 1) := by decide +kernel
theorem dX11_mayBe_83 : decode cX11_mayBe 83 = .ok (.ireturn, 1) := by decide +kernel
theorem dX11_canBe_0 : decode cX11_canBe 0 = .ok (.aload_n 0, 1) := by decide +kernel
theorem dX11_canBe_1 : decode cX11_canBe 1 = .ok (.iconst 0, 1) := by decide +kernel
theorem dX11_canBe_2 : decode cX11_canBe 2 = .ok (.putfield 65, 3) := by decide +kernel
theorem dX11_canBe_5 : decode cX11_canBe 5 = .ok (.iload_n 1, 1) := by decide +kernel
theorem dX11_canBe_6 : decode cX11_canBe 6 = .ok (.iconst 0, 1) := by decide +kernel
theorem dX11_canBe_7 : decode cX11_canBe 7 = .ok (.iconst 2, 1) := by decide +kernel
theorem dX11_canBe_8 : decode cX11_canBe 8 = .ok (.invokestatic 69, 3) := by decide +kernel
theorem dX11_canBe_11 : decode cX11_canBe 11 = .ok (.ifCond .ne 5, 3) := by decide +kernel
theorem dX11_canBe_14 : decode cX11_canBe 14 = .ok (.iconst (-1), 1) := by decide +kernel
theorem dX11_canBe_15 : decode cX11_canBe 15 = .ok (.ireturn, 1) := by decide +kernel
theorem dX11_canBe_16 : decode cX11_canBe 16 = .ok (.iconst 0, 1) := by decide +kernel
theorem dX11_canBe_17 : decode cX11_canBe 17 = .ok (.istore_n 2, 1) := by decide +kernel
theorem dX11_canBe_18 : decode cX11_canBe 18 = .ok (.bipush (-9), 2) := by decide +kernel
theorem dX11_canBe_20 : decode cX11_canBe 20 = .ok (.istore_n 3, 1) := by decide +kernel
theorem dX11_canBe_21 : decode cX11_canBe 21 = .ok (.bipush 31, 2) := by decide +kernel
theorem dX11_canBe_23 : decode cX11_canBe 23 = .ok (.istore 4, 2) := by decide +kernel
theorem dX11_canBe_25 : decode cX11_canBe 25 = .ok (.iconst 0, 1) := by decide +kernel
theorem dX11_canBe_26 : decode cX11_canBe 26 = .ok (.istore 5, 2) := by decide +kernel
theorem dX11_canBe_28 : decode cX11_canBe 28 = .ok (.iload 5, 2) := by decide +kernel
theorem dX11_canBe_30 : decode cX11_canBe 30 = .ok (.bipush 32, 2) := by decide +kernel
theorem dX11_canBe_32 : decode cX11_canBe 32 = .ok (.if_icmp .ge 40, 3) := by decide +kernel
theorem dX11_canBe_35 : decode cX11_canBe 35 = .ok (.aload_n 0, 1) := by decide +kernel
theorem dX11_canBe_36 : decode cX11_canBe 36 = .ok (.iload 5, 2) := by decide +kernel
theorem dX11_canBe_38 : decode cX11_canBe 38 = .ok (.iconst 0, 1) := by decide +kernel
theorem dX11_canBe_39 : decode cX11_canBe 39 = .ok (.invokevirtual 162, 3) := by decide +kernel
theorem dX11_canBe_42 : decode cX11_canBe 42 = .ok (.ifCond .eq 24, 3) := by decide +kernel
theorem dX11_canBe_45 : decode cX11_canBe 45 = .ok (.iload_n 2, 1) := by decide +kernel
theorem dX11_canBe_46 : decode cX11_canBe 46 = .ok (.ifCond .ne 8, 3) := by decide +kernel
theorem dX11_canBe_49 : decode cX11_canBe 49 = .ok (.iload 5, 2) := by decide +kernel
theorem dX11_canBe_51 : decode cX11_canBe 51 = .ok (.goto 4, 3) := by decide +kernel
theorem dX11_canBe_54 : decode cX11_canBe 54 = .ok (.iload_n 3, 1) := by decide +kernel
theorem dX11_canBe_55 : decode cX11_canBe 55 = .ok (.istore_n 3, 1) := by decide +kernel
theorem dX11_canBe_56 : decode cX11_canBe 56 = .ok (.iload 4, 2) := by decide +kernel
theorem dX11_canBe_58 : decode cX11_canBe 58 = .ok (.iload 5, 2) := by decide +kernel
theorem dX11_canBe_60 : decode cX11_canBe 60 = .ok (.iand, 1) := by decide +kernel
theorem dX11_canBe_61 : decode cX11_canBe 61 = .ok (.istore 4, 2) := by decide +kernel
theorem dX11_canBe_63 : decode cX11_canBe 63 = .ok (.iinc 2 1, 3) := by decide +kernel
theorem dX11_canBe_66 : decode cX11_canBe 66 = .ok (.iinc 5 1, 3) := by decide +kernel
theorem dX11_canBe_69 : decode cX11_canBe 69 = .ok (.goto (-41), 3) := by decide +kernel
theorem dX11_canBe_72 : decode cX11_canBe 72 = .ok (.iload_n 1, 1) := by decide +kernel
theorem dX11_canBe_73 : decode cX11_canBe 73 = .ok (.ifCond .ne 7, 3) := by decide +kernel
theorem dX11_canBe_76 : decode cX11_canBe 76 = .ok (.iload_n 2, 1) := by decide +kernel
theorem dX11_canBe_77 : decode cX11_canBe 77 = .ok (.goto 18, 3) := by decide +kernel
theorem dX11_canBe_80 : decode cX11_canBe 80 = .ok (.iload_n 1, 1) := by decide +kernel
theorem dX11_canBe_81 : decode cX11_canBe 81 = .ok (.iconst 1, 1) := by decide +kernel
theorem dX11_canBe_82 : decode cX11_canBe 82 = .ok (.if_icmp .eq 7, 3) := by decide +kernel
theorem dX11_canBe_85 : decode cX11_canBe 85 = .ok (.iload_n 2, 1) := by decide +kernel
theorem dX11_canBe_86 : decode cX11_canBe 86 = .ok (.ifCond .ne 7, 3) := by decide +kernel
theorem dX11_canBe_89 : decode cX11_canBe 89 = .ok (.iload_n 3, 1) := by decide +kernel
theorem dX11_canBe_90 : decode cX11_canBe 90 = .ok (.goto 5, 3) := by decide +kernel
theorem dX11_canBe_93 : decode cX11_canBe 93 = .ok (.iload 4, 2) := by decide +kernel
theorem dX11_canBe_95 : decode cX11_canBe 95 = .ok (.ireturn, 1) := by decide +kernel
theorem dX11_show_0 : decode cX11_show 0 = .ok (.aload_n 0, 1) := by decide +kernel
theorem dX11_show_1 : decode cX11_show 1 = .ok (.iconst 0, 1) := by decide +kernel
theorem dX11_show_2 : decode cX11_show 2 = .ok (.putfield 65, 3) := by decide +kernel
theorem dX11_show_5 : decode cX11_show 5 = .ok (.iconst 0, 1) := by decide +kernel
theorem dX11_show_6 : decode cX11_show 6 = .ok (.istore_n 1, 1) := by decide +kernel
theorem dX11_show_7 : decode cX11_show 7 = .ok (.iconst 0, 1) := by decide +kernel
theorem dX11_show_8 : decode cX11_show 8 = .ok (.istore_n 2, 1) := by decide +kernel
theorem dX11_show_9 : decode cX11_show 9 = .ok (.iload_n 2, 1) := by decide +kernel
theorem dX11_show_10 : decode cX11_show 10 = .ok (.bipush 32, 2) := by decide +kernel
theorem dX11_show_12 : decode cX11_show 12 = .ok (.if_icmp .ge 26, 3) := by decide +kernel
theorem dX11_show_15 : decode cX11_show 15 = .ok (.iload_n 1, 1) := by decide +kernel
theorem dX11_show_16 : decode cX11_show 16 = .ok (.aload_n 0, 1) := by decide +kernel
theorem dX11_show_17 : decode cX11_show 17 = .ok (.iload_n 2, 1) := by decide +kernel
theorem dX11_show_18 : decode cX11_show 18 = .ok (.iconst 0, 1) := by decide +kernel
theorem dX11_show_19 : decode cX11_show 19 = .ok (.invokevirtual 162, 3) := by decide +kernel
theorem dX11_show_22 : decode cX11_show 22 = .ok (.ifCond .eq 7, 3) := by decide +kernel
theorem dX11_show_25 : decode cX11_show 25 = .ok (.iconst 1, 1) := by decide +kernel
theorem dX11_show_26 : decode cX11_show 26 = .ok (.goto 4, 3) := by decide +kernel
theorem dX11_show_29 : decode cX11_show 29 = .ok (.iconst 0, 1) := by decide +kernel
theorem dX11_show_30 : decode cX11_show 30 = .ok (.iadd, 1) := by decide +kernel
theorem dX11_show_31 : decode cX11_show 31 = .ok (.istore_n 1, 1) := by decide +kernel
theorem dX11_show_32 : decode cX11_show 32 = .ok (.iinc 2 1, 3) := by decide +kernel
theorem dX11_show_35 : decode cX11_show 35 = .ok (.goto (-26), 3) := by decide +kernel
theorem dX11_show_38 : decode cX11_show 38 = .ok (.bipush (-9), 2) := by decide +kernel
theorem dX11_show_40 : decode cX11_show 40 = .ok (.istore_n 2, 1) := by decide +kernel
theorem dX11_show_41 : decode cX11_show 41 = .ok (.ldc 155, 2) := by decide +kernel
theorem dX11_show_43 : decode cX11_show 43 = .ok (.istore_n 3, 1) := by decide +kernel
theorem dX11_show_44 : decode cX11_show 44 = .ok (.iconst 0, 1) := by decide +kernel
theorem dX11_show_45 : decode cX11_show 45 = .ok (.istore 4, 2) := by decide +kernel
theorem dX11_show_47 : decode cX11_show 47 = .ok (.iload 4, 2) := by decide +kernel
theorem dX11_show_49 : decode cX11_show 49 = .ok (.aload_n 0, 1) := by decide +kernel
theorem dX11_show_50 : decode cX11_show 50 = .ok (.getfield 13, 3) := by decide +kernel
theorem dX11_show_53 : decode cX11_show 53 = .ok (.iconst 0, 1) := by decide +kernel
theorem dX11_show_54 : decode cX11_show 54 = .ok (.iaload, 1) := by decide +kernel
theorem dX11_show_55 : decode cX11_show 55 = .ok (.if_icmp .ge 111, 3) := by decide +kernel
theorem dX11_show_58 : decode cX11_show 58 = .ok (.iload_n 1, 1) := by decide +kernel
theorem dX11_show_59 : decode cX11_show 59 = .ok (.iconst 1, 1) := by decide +kernel
theorem dX11_show_60 : decode cX11_show 60 = .ok (.if_icmp .le 106, 3) := by decide +kernel
theorem dX11_show_63 : decode cX11_show 63 = .ok (.iconst 0, 1) := by decide +kernel
theorem dX11_show_64 : decode cX11_show 64 = .ok (.istore 5, 2) := by decide +kernel
theorem dX11_show_66 : decode cX11_show 66 = .ok (.iconst 0, 1) := by decide +kernel
theorem dX11_show_67 : decode cX11_show 67 = .ok (.istore 6, 2) := by decide +kernel
theorem dX11_show_69 : decode cX11_show 69 = .ok (.iload 6, 2) := by decide +kernel
theorem dX11_show_71 : decode cX11_show 71 = .ok (.bipush 32, 2) := by decide +kernel
theorem dX11_show_73 : decode cX11_show 73 = .ok (.if_icmp .ge 41, 3) := by decide +kernel
theorem dX11_show_76 : decode cX11_show 76 = .ok (.iload 5, 2) := by decide +kernel
theorem dX11_show_78 : decode cX11_show 78 = .ok (.aload_n 0, 1) := by decide +kernel
theorem dX11_show_79 : decode cX11_show 79 = .ok (.iload 6, 2) := by decide +kernel
theorem dX11_show_81 : decode cX11_show 81 = .ok (.iload 6, 2) := by decide +kernel
theorem dX11_show_83 : decode cX11_show 83 = .ok (.aload_n 0, 1) := by decide +kernel
theorem dX11_show_84 : decode cX11_show 84 = .ok (.getfield 28, 3) := by decide +kernel
theorem dX11_show_87 : decode cX11_show 87 = .ok (.bipush 14, 2) := by decide +kernel
theorem dX11_show_89 : decode cX11_show 89 = .ok (.iload 4, 2) := by decide +kernel
theorem dX11_show_91 : decode cX11_show 91 = .ok (.iadd, 1) := by decide +kernel
theorem dX11_show_92 : decode cX11_show 92 = .ok (.iaload, 1) := by decide +kernel
theorem dX11_show_93 : decode cX11_show 93 = .ok (.iand, 1) := by decide +kernel
theorem dX11_show_94 : decode cX11_show 94 = .ok (.invokevirtual 162, 3) := by decide +kernel
theorem dX11_show_97 : decode cX11_show 97 = .ok (.ifCond .eq 7, 3) := by decide +kernel
theorem dX11_show_100 : decode cX11_show 100 = .ok (.iconst 1, 1) := by decide +kernel
theorem dX11_show_101 : decode cX11_show 101 = .ok (.goto 4, 3) := by decide +kernel
theorem dX11_show_104 : decode cX11_show 104 = .ok (.iconst 0, 1) := by decide +kernel
theorem dX11_show_105 : decode cX11_show 105 = .ok (.iadd, 1) := by decide +kernel
theorem dX11_show_106 : decode cX11_show 106 = .ok (.istore 5, 2) := by decide +kernel
theorem dX11_show_108 : decode cX11_show 108 = .ok (.iinc 6 1, 3) := by decide +kernel
theorem dX11_show_111 : decode cX11_show 111 = .ok (.goto (-42), 3) := by decide +kernel
theorem dX11_show_114 : decode cX11_show 114 = .ok (.iload 5, 2) := by decide +kernel
theorem dX11_show_116 : decode cX11_show 116 = .ok (.iload_n 1, 1) := by decide +kernel
theorem dX11_show_117 : decode cX11_show 117 = .ok (.iload 5, 2) := by decide +kernel
theorem dX11_show_119 : decode cX11_show 119 = .ok (.isub, 1) := by decide +kernel
theorem dX11_show_120 : decode cX11_show 120 = .ok (.if_icmp .le 8, 3) := by decide +kernel
theorem dX11_show_123 : decode cX11_show 123 = .ok (.iload 5, 2) := by decide +kernel
theorem dX11_show_125 : decode cX11_show 125 = .ok (.goto 7, 3) := by decide +kernel
theorem dX11_show_128 : decode cX11_show 128 = .ok (.iload_n 1, 1) := by decide +kernel
theorem dX11_show_129 : decode cX11_show 129 = .ok (.iload 5, 2) := by decide +kernel
theorem dX11_show_131 : decode cX11_show 131 = .ok (.isub, 1) := by decide +kernel
theorem dX11_show_132 : decode cX11_show 132 = .ok (.istore 6, 2) := by decide +kernel
theorem dX11_show_134 : decode cX11_show 134 = .ok (.iload 6, 2) := by decide +kernel
theorem dX11_show_136 : decode cX11_show 136 = .ok (.iload_n 3, 1) := by decide +kernel
theorem dX11_show_137 : decode cX11_show 137 = .ok (.if_icmp .ge 8, 3) := by decide +kernel
theorem dX11_show_140 : decode cX11_show 140 = .ok (.iload 4, 2) := by decide +kernel
theorem dX11_show_142 : decode cX11_show 142 = .ok (.goto 4, 3) := by decide +kernel
theorem dX11_show_145 : decode cX11_show 145 = .ok (.iload_n 2, 1) := by decide +kernel
theorem dX11_show_146 : decode cX11_show 146 = .ok (.istore_n 2, 1) := by decide +kernel
theorem dX11_show_147 : decode cX11_show 147 = .ok (.iload 6, 2) := by decide +kernel
theorem dX11_show_149 : decode cX11_show 149 = .ok (.iload_n 3, 1) := by decide +kernel
theorem dX11_show_150 : decode cX11_show 150 = .ok (.if_icmp .ge 8, 3) := by decide +kernel
theorem dX11_show_153 : decode cX11_show 153 = .ok (.iload 6, 2) := by decide +kernel
theorem dX11_show_155 : decode cX11_show 155 = .ok (.goto 4, 3) := by decide +kernel
theorem dX11_show_158 : decode cX11_show 158 = .ok (.iload_n 3, 1) := by decide +kernel
theorem dX11_show_159 : decode cX11_show 159 = .ok (.istore_n 3, 1) := by decide +kernel
theorem dX11_show_160 : decode cX11_show 160 = .ok (.iinc 4 1, 3) := by decide +kernel
theorem dX11_show_163 : decode cX11_show 163 = .ok (.goto (-116), 3) := by decide +kernel
theorem dX11_show_166 : decode cX11_show 166 = .ok (.iload_n 2, 1) := by decide +kernel
theorem dX11_show_167 : decode cX11_show 167 = .ok (.ireturn, 1) := by decide +kernel
theorem dX11_hears_0 : decode cX11_hears 0 = .ok (.aload_n 0, 1) := by decide +kernel
theorem dX11_hears_1 : decode cX11_hears 1 = .ok (.iconst 0, 1) := by decide +kernel
theorem dX11_hears_2 : decode cX11_hears 2 = .ok (.putfield 65, 3) := by decide +kernel
theorem dX11_hears_5 : decode cX11_hears 5 = .ok (.iload_n 1, 1) := by decide +kernel
theorem dX11_hears_6 : decode cX11_hears 6 = .ok (.iconst 0, 1) := by decide +kernel
theorem dX11_hears_7 : decode cX11_hears 7 = .ok (.bipush 20, 2) := by decide +kernel
theorem dX11_hears_9 : decode cX11_hears 9 = .ok (.invokestatic 69, 3) := by decide +kernel
theorem dX11_hears_12 : decode cX11_hears 12 = .ok (.ifCond .eq 12, 3) := by decide +kernel
theorem dX11_hears_15 : decode cX11_hears 15 = .ok (.iload_n 2, 1) := by decide +kernel
theorem dX11_hears_16 : decode cX11_hears 16 = .ok (.iconst 0, 1) := by decide +kernel
theorem dX11_hears_17 : decode cX11_hears 17 = .ok (.iconst 1, 1) := by decide +kernel
theorem dX11_hears_18 : decode cX11_hears 18 = .ok (.invokestatic 69, 3) := by decide +kernel
theorem dX11_hears_21 : decode cX11_hears 21 = .ok (.ifCond .ne 5, 3) := by decide +kernel
theorem dX11_hears_24 : decode cX11_hears 24 = .ok (.iconst (-1), 1) := by decide +kernel
theorem dX11_hears_25 : decode cX11_hears 25 = .ok (.ireturn, 1) := by decide +kernel
theorem dX11_hears_26 : decode cX11_hears 26 = .ok (.aload_n 0, 1) := by decide +kernel
theorem dX11_hears_27 : decode cX11_hears 27 = .ok (.getfield 123, 3) := by decide +kernel
theorem dX11_hears_30 : decode cX11_hears 30 = .ok (.bipush 6, 2) := by decide +kernel
theorem dX11_hears_32 : decode cX11_hears 32 = .ok (.if_icmp .ne 6, 3) := by decide +kernel
theorem dX11_hears_35 : decode cX11_hears 35 = .ok (.bipush (-3), 2) := by decide +kernel
theorem dX11_hears_37 : decode cX11_hears 37 = .ok (.ireturn, 1) := by decide +kernel
theorem dX11_hears_38 : decode cX11_hears 38 = .ok (.aload_n 0, 1) := by decide +kernel
theorem dX11_hears_39 : decode cX11_hears 39 = .ok (.getfield 47, 3) := by decide +kernel
theorem dX11_hears_42 : decode cX11_hears 42 = .ok (.aload_n 0, 1) := by decide +kernel
theorem dX11_hears_43 : decode cX11_hears 43 = .ok (.getfield 123, 3) := by decide +kernel
theorem dX11_hears_46 : decode cX11_hears 46 = .ok (.iload_n 1, 1) := by decide +kernel
theorem dX11_hears_47 : decode cX11_hears 47 = .ok (.iastore, 1) := by decide +kernel
theorem dX11_hears_48 : decode cX11_hears 48 = .ok (.aload_n 0, 1) := by decide +kernel
theorem dX11_hears_49 : decode cX11_hears 49 = .ok (.getfield 50, 3) := by decide +kernel
theorem dX11_hears_52 : decode cX11_hears 52 = .ok (.aload_n 0, 1) := by decide +kernel
theorem dX11_hears_53 : decode cX11_hears 53 = .ok (.getfield 123, 3) := by decide +kernel
theorem dX11_hears_56 : decode cX11_hears 56 = .ok (.iload_n 2, 1) := by decide +kernel
theorem dX11_hears_57 : decode cX11_hears 57 = .ok (.iastore, 1) := by decide +kernel
theorem dX11_hears_58 : decode cX11_hears 58 = .ok (.aload_n 0, 1) := by decide +kernel
theorem dX11_hears_59 : decode cX11_hears 59 = .ok (.dup, 1) := by decide +kernel
theorem dX11_hears_60 : decode cX11_hears 60 = .ok (.getfield 123, 3) := by decide +kernel
theorem dX11_hears_63 : decode cX11_hears 63 = .ok (.iconst 1, 1) := by decide +kernel
theorem dX11_hears_64 : decode cX11_hears 64 = .ok (.iadd, 1) := by decide +kernel
theorem dX11_hears_65 : decode cX11_hears 65 = .ok (.putfield 123, 3) := by decide +kernel
theorem dX11_hears_68 : decode cX11_hears 68 = .ok (.aload_n 0, 1) := by decide +kernel
theorem dX11_hears_69 : decode cX11_hears 69 = .ok (.getfield 123, 3) := by decide +kernel
theorem dX11_hears_72 : decode cX11_hears 72 = .ok (.ireturn, 1) := by decide +kernel
theorem dX11_forget_0 : decode cX11_forget 0 = .ok (.aload_n 0, 1) := by decide +kernel
theorem dX11_forget_1 : decode cX11_forget 1 = .ok (.iconst 0, 1) := by decide +kernel
theorem dX11_forget_2 : decode cX11_forget 2 = .ok (.putfield 65, 3) := by decide +kernel
theorem dX11_forget_5 : decode cX11_forget 5 = .ok (.aload_n 0, 1) := by decide +kernel
theorem dX11_forget_6 : decode cX11_forget 6 = .ok (.getfield 120, 3) := by decide +kernel
theorem dX11_forget_9 : decode cX11_forget 9 = .ok (.aload_n 0, 1) := by decide +kernel
theorem dX11_forget_10 : decode cX11_forget 10 = .ok (.getfield 123, 3) := by decide +kernel
theorem dX11_forget_13 : decode cX11_forget 13 = .ok (.iadd, 1) := by decide +kernel
theorem dX11_forget_14 : decode cX11_forget 14 = .ok (.istore_n 1, 1) := by decide +kernel
theorem dX11_forget_15 : decode cX11_forget 15 = .ok (.aload_n 0, 1) := by decide +kernel
theorem dX11_forget_16 : decode cX11_forget 16 = .ok (.iconst 0, 1) := by decide +kernel
theorem dX11_forget_17 : decode cX11_forget 17 = .ok (.putfield 120, 3) := by decide +kernel
theorem dX11_forget_20 : decode cX11_forget 20 = .ok (.aload_n 0, 1) := by decide +kernel
theorem dX11_forget_21 : decode cX11_forget 21 = .ok (.iconst 0, 1) := by decide +kernel
theorem dX11_forget_22 : decode cX11_forget 22 = .ok (.putfield 123, 3) := by decide +kernel
theorem dX11_forget_25 : decode cX11_forget 25 = .ok (.iload_n 1, 1) := by decide +kernel
theorem dX11_forget_26 : decode cX11_forget 26 = .ok (.ireturn, 1) := by decide +kernel
theorem dX11_years_0 : decode cX11_years 0 = .ok (.aload_n 0, 1) := by decide +kernel
theorem dX11_years_1 : decode cX11_years 1 = .ok (.iconst 0, 1) := by decide +kernel
theorem dX11_years_2 : decode cX11_years 2 = .ok (.putfield 65, 3) := by decide +kernel
theorem dX11_years_5 : decode cX11_years 5 = .ok (.iconst 0, 1) := by decide +kernel
theorem dX11_years_6 : decode cX11_years 6 = .ok (.istore_n 1, 1) := by decide +kernel
theorem dX11_years_7 : decode cX11_years 7 = .ok (.iconst 1, 1) := by decide +kernel
theorem dX11_years_8 : decode cX11_years 8 = .ok (.istore_n 2, 1) := by decide +kernel
theorem dX11_years_9 : decode cX11_years 9 = .ok (.iload_n 2, 1) := by decide +kernel
theorem dX11_years_10 : decode cX11_years 10 = .ok (.bipush 10, 2) := by decide +kernel
theorem dX11_years_12 : decode cX11_years 12 = .ok (.if_icmp .ge 88, 3) := by decide +kernel
theorem dX11_years_15 : decode cX11_years 15 = .ok (.iconst 1, 1) := by decide +kernel
theorem dX11_years_16 : decode cX11_years 16 = .ok (.istore_n 3, 1) := by decide +kernel
theorem dX11_years_17 : decode cX11_years 17 = .ok (.iconst 0, 1) := by decide +kernel
theorem dX11_years_18 : decode cX11_years 18 = .ok (.istore 4, 2) := by decide +kernel
theorem dX11_years_20 : decode cX11_years 20 = .ok (.iload 4, 2) := by decide +kernel
theorem dX11_years_22 : decode cX11_years 22 = .ok (.aload_n 0, 1) := by decide +kernel
theorem dX11_years_23 : decode cX11_years 23 = .ok (.getfield 123, 3) := by decide +kernel
theorem dX11_years_26 : decode cX11_years 26 = .ok (.if_icmp .ge 54, 3) := by decide +kernel
theorem dX11_years_29 : decode cX11_years 29 = .ok (.iload_n 3, 1) := by decide +kernel
theorem dX11_years_30 : decode cX11_years 30 = .ok (.ifCond .eq 42, 3) := by decide +kernel
theorem dX11_years_33 : decode cX11_years 33 = .ok (.aload_n 0, 1) := by decide +kernel
theorem dX11_years_34 : decode cX11_years 34 = .ok (.getfield 47, 3) := by decide +kernel
theorem dX11_years_37 : decode cX11_years 37 = .ok (.iload 4, 2) := by decide +kernel
theorem dX11_years_39 : decode cX11_years 39 = .ok (.iaload, 1) := by decide +kernel
theorem dX11_years_40 : decode cX11_years 40 = .ok (.iload_n 2, 1) := by decide +kernel
theorem dX11_years_41 : decode cX11_years 41 = .ok (.if_icmp .lt 7, 3) := by decide +kernel
theorem dX11_years_44 : decode cX11_years 44 = .ok (.iconst 1, 1) := by decide +kernel
theorem dX11_years_45 : decode cX11_years 45 = .ok (.goto 4, 3) := by decide +kernel
theorem dX11_years_48 : decode cX11_years 48 = .ok (.iconst 0, 1) := by decide +kernel
theorem dX11_years_49 : decode cX11_years 49 = .ok (.aload_n 0, 1) := by decide +kernel
theorem dX11_years_50 : decode cX11_years 50 = .ok (.getfield 50, 3) := by decide +kernel
theorem dX11_years_53 : decode cX11_years 53 = .ok (.iload 4, 2) := by decide +kernel
theorem dX11_years_55 : decode cX11_years 55 = .ok (.iaload, 1) := by decide +kernel
theorem dX11_years_56 : decode cX11_years 56 = .ok (.iconst 1, 1) := by decide +kernel
theorem dX11_years_57 : decode cX11_years 57 = .ok (.if_icmp .ne 7, 3) := by decide +kernel
theorem dX11_years_60 : decode cX11_years 60 = .ok (.iconst 1, 1) := by decide +kernel
theorem dX11_years_61 : decode cX11_years 61 = .ok (.goto 4, 3) := by decide +kernel
theorem dX11_years_64 : decode cX11_years 64 = .ok (.iconst 0, 1) := by decide +kernel
theorem dX11_years_65 : decode cX11_years 65 = .ok (.if_icmp .ne 7, 3) := by decide +kernel
theorem dX11_years_68 : decode cX11_years 68 = .ok (.iconst 1, 1) := by decide +kernel
theorem dX11_years_69 : decode cX11_years 69 = .ok (.goto 4, 3) := by decide +kernel
theorem dX11_years_72 : decode cX11_years 72 = .ok (.iconst 0, 1) := by decide +kernel
theorem dX11_years_73 : decode cX11_years 73 = .ok (.istore_n 3, 1) := by decide +kernel
theorem dX11_years_74 : decode cX11_years 74 = .ok (.iinc 4 1, 3) := by decide +kernel
theorem dX11_years_77 : decode cX11_years 77 = .ok (.goto (-57), 3) := by decide +kernel
theorem dX11_years_80 : decode cX11_years 80 = .ok (.iload_n 1, 1) := by decide +kernel
theorem dX11_years_81 : decode cX11_years 81 = .ok (.iload_n 3, 1) := by decide +kernel
theorem dX11_years_82 : decode cX11_years 82 = .ok (.ifCond .eq 9, 3) := by decide +kernel
theorem dX11_years_85 : decode cX11_years 85 = .ok (.iconst 1, 1) := by decide +kernel
theorem dX11_years_86 : decode cX11_years 86 = .ok (.iload_n 2, 1) := by decide +kernel
theorem dX11_years_87 : decode cX11_years 87 = .ok (.ishl, 1) := by decide +kernel
theorem dX11_years_88 : decode cX11_years 88 = .ok (.goto 4, 3) := by decide +kernel
theorem dX11_years_91 : decode cX11_years 91 = .ok (.iconst 0, 1) := by decide +kernel
theorem dX11_years_92 : decode cX11_years 92 = .ok (.ior, 1) := by decide +kernel
theorem dX11_years_93 : decode cX11_years 93 = .ok (.istore_n 1, 1) := by decide +kernel
theorem dX11_years_94 : decode cX11_years 94 = .ok (.iinc 2 1, 3) := by decide +kernel
theorem dX11_years_97 : decode cX11_years 97 = .ok (.goto (-88), 3) := by decide +kernel
theorem dX11_years_100 : decode cX11_years 100 = .ok (.iload_n 1, 1) := by decide +kernel
theorem dX11_years_101 : decode cX11_years 101 = .ok (.ireturn, 1) := by decide +kernel
theorem dX11_worthOf_0 : decode cX11_worthOf 0 = .ok (.iconst 0, 1) := by decide +kernel
theorem dX11_worthOf_1 : decode cX11_worthOf 1 = .ok (.istore_n 3, 1) := by decide +kernel
theorem dX11_worthOf_2 : decode cX11_worthOf 2 = .ok (.iconst 0, 1) := by decide +kernel
theorem dX11_worthOf_3 : decode cX11_worthOf 3 = .ok (.istore 4, 2) := by decide +kernel
theorem dX11_worthOf_5 : decode cX11_worthOf 5 = .ok (.iload 4, 2) := by decide +kernel
theorem dX11_worthOf_7 : decode cX11_worthOf 7 = .ok (.aload_n 0, 1) := by decide +kernel
theorem dX11_worthOf_8 : decode cX11_worthOf 8 = .ok (.getfield 13, 3) := by decide +kernel
theorem dX11_worthOf_11 : decode cX11_worthOf 11 = .ok (.iconst 1, 1) := by decide +kernel
theorem dX11_worthOf_12 : decode cX11_worthOf 12 = .ok (.iaload, 1) := by decide +kernel
theorem dX11_worthOf_13 : decode cX11_worthOf 13 = .ok (.if_icmp .ge 103, 3) := by decide +kernel
theorem dX11_worthOf_16 : decode cX11_worthOf 16 = .ok (.iload_n 1, 1) := by decide +kernel
theorem dX11_worthOf_17 : decode cX11_worthOf 17 = .ok (.iload 4, 2) := by decide +kernel
theorem dX11_worthOf_19 : decode cX11_worthOf 19 = .ok (.ishr, 1) := by decide +kernel
theorem dX11_worthOf_20 : decode cX11_worthOf 20 = .ok (.iconst 1, 1) := by decide +kernel
theorem dX11_worthOf_21 : decode cX11_worthOf 21 = .ok (.iand, 1) := by decide +kernel
theorem dX11_worthOf_22 : decode cX11_worthOf 22 = .ok (.iconst 1, 1) := by decide +kernel
theorem dX11_worthOf_23 : decode cX11_worthOf 23 = .ok (.if_icmp .ne 7, 3) := by decide +kernel
theorem dX11_worthOf_26 : decode cX11_worthOf 26 = .ok (.iconst 1, 1) := by decide +kernel
theorem dX11_worthOf_27 : decode cX11_worthOf 27 = .ok (.goto 4, 3) := by decide +kernel
theorem dX11_worthOf_30 : decode cX11_worthOf 30 = .ok (.iconst 0, 1) := by decide +kernel
theorem dX11_worthOf_31 : decode cX11_worthOf 31 = .ok (.istore 5, 2) := by decide +kernel
theorem dX11_worthOf_33 : decode cX11_worthOf 33 = .ok (.iload 5, 2) := by decide +kernel
theorem dX11_worthOf_35 : decode cX11_worthOf 35 = .ok (.ifCond .eq 34, 3) := by decide +kernel
theorem dX11_worthOf_38 : decode cX11_worthOf 38 = .ok (.aload_n 0, 1) := by decide +kernel
theorem dX11_worthOf_39 : decode cX11_worthOf 39 = .ok (.getfield 22, 3) := by decide +kernel
theorem dX11_worthOf_42 : decode cX11_worthOf 42 = .ok (.iload 4, 2) := by decide +kernel
theorem dX11_worthOf_44 : decode cX11_worthOf 44 = .ok (.iaload, 1) := by decide +kernel
theorem dX11_worthOf_45 : decode cX11_worthOf 45 = .ok (.ifCond .eq 21, 3) := by decide +kernel
theorem dX11_worthOf_48 : decode cX11_worthOf 48 = .ok (.aload_n 0, 1) := by decide +kernel
theorem dX11_worthOf_49 : decode cX11_worthOf 49 = .ok (.iload 4, 2) := by decide +kernel
theorem dX11_worthOf_51 : decode cX11_worthOf 51 = .ok (.invokevirtual 133, 3) := by decide +kernel
theorem dX11_worthOf_54 : decode cX11_worthOf 54 = .ok (.ifCond .ne 12, 3) := by decide +kernel
theorem dX11_worthOf_57 : decode cX11_worthOf 57 = .ok (.aload_n 0, 1) := by decide +kernel
theorem dX11_worthOf_58 : decode cX11_worthOf 58 = .ok (.iload 4, 2) := by decide +kernel
theorem dX11_worthOf_60 : decode cX11_worthOf 60 = .ok (.invokevirtual 143, 3) := by decide +kernel
theorem dX11_worthOf_63 : decode cX11_worthOf 63 = .ok (.ifCond .eq 6, 3) := by decide +kernel
theorem dX11_worthOf_66 : decode cX11_worthOf 66 = .ok (.ldc 155, 2) := by decide +kernel
theorem dX11_worthOf_68 : decode cX11_worthOf 68 = .ok (.ireturn, 1) := by decide +kernel
theorem dX11_worthOf_69 : decode cX11_worthOf 69 = .ok (.iload_n 3, 1) := by decide +kernel
theorem dX11_worthOf_70 : decode cX11_worthOf 70 = .ok (.iload 5, 2) := by decide +kernel
theorem dX11_worthOf_72 : decode cX11_worthOf 72 = .ok (.ifCond .ne 25, 3) := by decide +kernel
theorem dX11_worthOf_75 : decode cX11_worthOf 75 = .ok (.iload_n 2, 1) := by decide +kernel
theorem dX11_worthOf_76 : decode cX11_worthOf 76 = .ok (.ifCond .eq 31, 3) := by decide +kernel
theorem dX11_worthOf_79 : decode cX11_worthOf 79 = .ok (.aload_n 0, 1) := by decide +kernel
theorem dX11_worthOf_80 : decode cX11_worthOf 80 = .ok (.iload 4, 2) := by decide +kernel
theorem dX11_worthOf_82 : decode cX11_worthOf 82 = .ok (.invokevirtual 133, 3) := by decide +kernel
theorem dX11_worthOf_85 : decode cX11_worthOf 85 = .ok (.ifCond .eq 22, 3) := by decide +kernel
theorem dX11_worthOf_88 : decode cX11_worthOf 88 = .ok (.aload_n 0, 1) := by decide +kernel
theorem dX11_worthOf_89 : decode cX11_worthOf 89 = .ok (.iload 4, 2) := by decide +kernel
theorem dX11_worthOf_91 : decode cX11_worthOf 91 = .ok (.invokevirtual 143, 3) := by decide +kernel
theorem dX11_worthOf_94 : decode cX11_worthOf 94 = .ok (.ifCond .ne 13, 3) := by decide +kernel
theorem dX11_worthOf_97 : decode cX11_worthOf 97 = .ok (.aload_n 0, 1) := by decide +kernel
theorem dX11_worthOf_98 : decode cX11_worthOf 98 = .ok (.getfield 19, 3) := by decide +kernel
theorem dX11_worthOf_101 : decode cX11_worthOf 101 = .ok (.iload 4, 2) := by decide +kernel
theorem dX11_worthOf_103 : decode cX11_worthOf 103 = .ok (.iaload, 1) := by decide +kernel
theorem dX11_worthOf_104 : decode cX11_worthOf 104 = .ok (.goto 4, 3) := by decide +kernel
theorem dX11_worthOf_107 : decode cX11_worthOf 107 = .ok (.iconst 0, 1) := by decide +kernel
theorem dX11_worthOf_108 : decode cX11_worthOf 108 = .ok (.iadd, 1) := by decide +kernel
theorem dX11_worthOf_109 : decode cX11_worthOf 109 = .ok (.istore_n 3, 1) := by decide +kernel
theorem dX11_worthOf_110 : decode cX11_worthOf 110 = .ok (.iinc 4 1, 3) := by decide +kernel
theorem dX11_worthOf_113 : decode cX11_worthOf 113 = .ok (.goto (-108), 3) := by decide +kernel
theorem dX11_worthOf_116 : decode cX11_worthOf 116 = .ok (.iload_n 3, 1) := by decide +kernel
theorem dX11_worthOf_117 : decode cX11_worthOf 117 = .ok (.ireturn, 1) := by decide +kernel
theorem dX11_letIn_0 : decode cX11_letIn 0 = .ok (.aload_n 0, 1) := by decide +kernel
theorem dX11_letIn_1 : decode cX11_letIn 1 = .ok (.iconst 0, 1) := by decide +kernel
theorem dX11_letIn_2 : decode cX11_letIn 2 = .ok (.putfield 65, 3) := by decide +kernel
theorem dX11_letIn_5 : decode cX11_letIn 5 = .ok (.iload_n 1, 1) := by decide +kernel
theorem dX11_letIn_6 : decode cX11_letIn 6 = .ok (.iconst 0, 1) := by decide +kernel
theorem dX11_letIn_7 : decode cX11_letIn 7 = .ok (.iconst 1, 1) := by decide +kernel
theorem dX11_letIn_8 : decode cX11_letIn 8 = .ok (.invokestatic 69, 3) := by decide +kernel
theorem dX11_letIn_11 : decode cX11_letIn 11 = .ok (.ifCond .ne 5, 3) := by decide +kernel
theorem dX11_letIn_14 : decode cX11_letIn 14 = .ok (.iconst (-1), 1) := by decide +kernel
theorem dX11_letIn_15 : decode cX11_letIn 15 = .ok (.ireturn, 1) := by decide +kernel
theorem dX11_letIn_16 : decode cX11_letIn 16 = .ok (.bipush (-9), 2) := by decide +kernel
theorem dX11_letIn_18 : decode cX11_letIn 18 = .ok (.istore_n 2, 1) := by decide +kernel
theorem dX11_letIn_19 : decode cX11_letIn 19 = .ok (.iconst 0, 1) := by decide +kernel
theorem dX11_letIn_20 : decode cX11_letIn 20 = .ok (.istore_n 3, 1) := by decide +kernel
theorem dX11_letIn_21 : decode cX11_letIn 21 = .ok (.iload_n 3, 1) := by decide +kernel
theorem dX11_letIn_22 : decode cX11_letIn 22 = .ok (.iconst 1, 1) := by decide +kernel
theorem dX11_letIn_23 : decode cX11_letIn 23 = .ok (.aload_n 0, 1) := by decide +kernel
theorem dX11_letIn_24 : decode cX11_letIn 24 = .ok (.getfield 13, 3) := by decide +kernel
theorem dX11_letIn_27 : decode cX11_letIn 27 = .ok (.iconst 1, 1) := by decide +kernel
theorem dX11_letIn_28 : decode cX11_letIn 28 = .ok (.iaload, 1) := by decide +kernel
theorem dX11_letIn_29 : decode cX11_letIn 29 = .ok (.ishl, 1) := by decide +kernel
theorem dX11_letIn_30 : decode cX11_letIn 30 = .ok (.if_icmp .ge 117, 3) := by decide +kernel
theorem dX11_letIn_33 : decode cX11_letIn 33 = .ok (.aload_n 0, 1) := by decide +kernel
theorem dX11_letIn_34 : decode cX11_letIn 34 = .ok (.iload_n 3, 1) := by decide +kernel
theorem dX11_letIn_35 : decode cX11_letIn 35 = .ok (.iconst 1, 1) := by decide +kernel
theorem dX11_letIn_36 : decode cX11_letIn 36 = .ok (.invokevirtual 166, 3) := by decide +kernel
theorem dX11_letIn_39 : decode cX11_letIn 39 = .ok (.istore 4, 2) := by decide +kernel
theorem dX11_letIn_41 : decode cX11_letIn 41 = .ok (.iload 4, 2) := by decide +kernel
theorem dX11_letIn_43 : decode cX11_letIn 43 = .ok (.ldc 155, 2) := by decide +kernel
theorem dX11_letIn_45 : decode cX11_letIn 45 = .ok (.if_icmp .eq 27, 3) := by decide +kernel
theorem dX11_letIn_48 : decode cX11_letIn 48 = .ok (.bipush 10, 2) := by decide +kernel
theorem dX11_letIn_50 : decode cX11_letIn 50 = .ok (.iload 4, 2) := by decide +kernel
theorem dX11_letIn_52 : decode cX11_letIn 52 = .ok (.imul, 1) := by decide +kernel
theorem dX11_letIn_53 : decode cX11_letIn 53 = .ok (.aload_n 0, 1) := by decide +kernel
theorem dX11_letIn_54 : decode cX11_letIn 54 = .ok (.getfield 13, 3) := by decide +kernel
theorem dX11_letIn_57 : decode cX11_letIn 57 = .ok (.iconst 3, 1) := by decide +kernel
theorem dX11_letIn_58 : decode cX11_letIn 58 = .ok (.iaload, 1) := by decide +kernel
theorem dX11_letIn_59 : decode cX11_letIn 59 = .ok (.aload_n 0, 1) := by decide +kernel
theorem dX11_letIn_60 : decode cX11_letIn 60 = .ok (.iconst 0, 1) := by decide +kernel
theorem dX11_letIn_61 : decode cX11_letIn 61 = .ok (.invokevirtual 146, 3) := by decide +kernel
theorem dX11_letIn_64 : decode cX11_letIn 64 = .ok (.imul, 1) := by decide +kernel
theorem dX11_letIn_65 : decode cX11_letIn 65 = .ok (.if_icmp .gt 7, 3) := by decide +kernel
theorem dX11_letIn_68 : decode cX11_letIn 68 = .ok (.iconst 1, 1) := by decide +kernel
theorem dX11_letIn_69 : decode cX11_letIn 69 = .ok (.goto 4, 3) := by decide +kernel
theorem dX11_letIn_72 : decode cX11_letIn 72 = .ok (.iconst 0, 1) := by decide +kernel
theorem dX11_letIn_73 : decode cX11_letIn 73 = .ok (.istore 5, 2) := by decide +kernel
theorem dX11_letIn_75 : decode cX11_letIn 75 = .ok (.iload_n 2, 1) := by decide +kernel
theorem dX11_letIn_76 : decode cX11_letIn 76 = .ok (.bipush (-9), 2) := by decide +kernel
theorem dX11_letIn_78 : decode cX11_letIn 78 = .ok (.if_icmp .eq 40, 3) := by decide +kernel
theorem dX11_letIn_81 : decode cX11_letIn 81 = .ok (.iload_n 3, 1) := by decide +kernel
theorem dX11_letIn_82 : decode cX11_letIn 82 = .ok (.invokestatic 152, 3) := by decide +kernel
theorem dX11_letIn_85 : decode cX11_letIn 85 = .ok (.iload_n 2, 1) := by decide +kernel
theorem dX11_letIn_86 : decode cX11_letIn 86 = .ok (.invokestatic 152, 3) := by decide +kernel
theorem dX11_letIn_89 : decode cX11_letIn 89 = .ok (.if_icmp .gt 29, 3) := by decide +kernel
theorem dX11_letIn_92 : decode cX11_letIn 92 = .ok (.iload_n 3, 1) := by decide +kernel
theorem dX11_letIn_93 : decode cX11_letIn 93 = .ok (.invokestatic 152, 3) := by decide +kernel
theorem dX11_letIn_96 : decode cX11_letIn 96 = .ok (.iload_n 2, 1) := by decide +kernel
theorem dX11_letIn_97 : decode cX11_letIn 97 = .ok (.invokestatic 152, 3) := by decide +kernel
theorem dX11_letIn_100 : decode cX11_letIn 100 = .ok (.if_icmp .ne 22, 3) := by decide +kernel
theorem dX11_letIn_103 : decode cX11_letIn 103 = .ok (.aload_n 0, 1) := by decide +kernel
theorem dX11_letIn_104 : decode cX11_letIn 104 = .ok (.iload_n 3, 1) := by decide +kernel
theorem dX11_letIn_105 : decode cX11_letIn 105 = .ok (.iconst 0, 1) := by decide +kernel
theorem dX11_letIn_106 : decode cX11_letIn 106 = .ok (.invokevirtual 166, 3) := by decide +kernel
theorem dX11_letIn_109 : decode cX11_letIn 109 = .ok (.aload_n 0, 1) := by decide +kernel
theorem dX11_letIn_110 : decode cX11_letIn 110 = .ok (.iload_n 2, 1) := by decide +kernel
theorem dX11_letIn_111 : decode cX11_letIn 111 = .ok (.iconst 0, 1) := by decide +kernel
theorem dX11_letIn_112 : decode cX11_letIn 112 = .ok (.invokevirtual 166, 3) := by decide +kernel
theorem dX11_letIn_115 : decode cX11_letIn 115 = .ok (.if_icmp .le 7, 3) := by decide +kernel
theorem dX11_letIn_118 : decode cX11_letIn 118 = .ok (.iconst 1, 1) := by decide +kernel
theorem dX11_letIn_119 : decode cX11_letIn 119 = .ok (.goto 4, 3) := by decide +kernel
theorem dX11_letIn_122 : decode cX11_letIn 122 = .ok (.iconst 0, 1) := by decide +kernel
theorem dX11_letIn_123 : decode cX11_letIn 123 = .ok (.istore 6, 2) := by decide +kernel
theorem dX11_letIn_125 : decode cX11_letIn 125 = .ok (.iload 5, 2) := by decide +kernel
theorem dX11_letIn_127 : decode cX11_letIn 127 = .ok (.ifCond .eq 12, 3) := by decide +kernel
theorem dX11_letIn_130 : decode cX11_letIn 130 = .ok (.iload 6, 2) := by decide +kernel
theorem dX11_letIn_132 : decode cX11_letIn 132 = .ok (.ifCond .eq 7, 3) := by decide +kernel
theorem dX11_letIn_135 : decode cX11_letIn 135 = .ok (.iload_n 3, 1) := by decide +kernel
theorem dX11_letIn_136 : decode cX11_letIn 136 = .ok (.goto 4, 3) := by decide +kernel
theorem dX11_letIn_139 : decode cX11_letIn 139 = .ok (.iload_n 2, 1) := by decide +kernel
theorem dX11_letIn_140 : decode cX11_letIn 140 = .ok (.istore_n 2, 1) := by decide +kernel
theorem dX11_letIn_141 : decode cX11_letIn 141 = .ok (.iinc 3 1, 3) := by decide +kernel
theorem dX11_letIn_144 : decode cX11_letIn 144 = .ok (.goto (-123), 3) := by decide +kernel
theorem dX11_letIn_147 : decode cX11_letIn 147 = .ok (.iload_n 2, 1) := by decide +kernel
theorem dX11_letIn_148 : decode cX11_letIn 148 = .ok (.bipush (-9), 2) := by decide +kernel
theorem dX11_letIn_150 : decode cX11_letIn 150 = .ok (.if_icmp .eq 7, 3) := by decide +kernel
theorem dX11_letIn_153 : decode cX11_letIn 153 = .ok (.iload_n 1, 1) := by decide +kernel
theorem dX11_letIn_154 : decode cX11_letIn 154 = .ok (.ifCond .ne 7, 3) := by decide +kernel
theorem dX11_letIn_157 : decode cX11_letIn 157 = .ok (.iload_n 2, 1) := by decide +kernel
theorem dX11_letIn_158 : decode cX11_letIn 158 = .ok (.goto 9, 3) := by decide +kernel
theorem dX11_letIn_161 : decode cX11_letIn 161 = .ok (.aload_n 0, 1) := by decide +kernel
theorem dX11_letIn_162 : decode cX11_letIn 162 = .ok (.iload_n 2, 1) := by decide +kernel
theorem dX11_letIn_163 : decode cX11_letIn 163 = .ok (.iconst 0, 1) := by decide +kernel
theorem dX11_letIn_164 : decode cX11_letIn 164 = .ok (.invokevirtual 166, 3) := by decide +kernel
theorem dX11_letIn_167 : decode cX11_letIn 167 = .ok (.ireturn, 1) := by decide +kernel
theorem dX11_rate_0 : decode cX11_rate 0 = .ok (.aload_n 0, 1) := by decide +kernel
theorem dX11_rate_1 : decode cX11_rate 1 = .ok (.iconst 0, 1) := by decide +kernel
theorem dX11_rate_2 : decode cX11_rate 2 = .ok (.putfield 65, 3) := by decide +kernel
theorem dX11_rate_5 : decode cX11_rate 5 = .ok (.iload_n 1, 1) := by decide +kernel
theorem dX11_rate_6 : decode cX11_rate 6 = .ok (.iconst 0, 1) := by decide +kernel
theorem dX11_rate_7 : decode cX11_rate 7 = .ok (.iconst 5, 1) := by decide +kernel
theorem dX11_rate_8 : decode cX11_rate 8 = .ok (.invokestatic 69, 3) := by decide +kernel
theorem dX11_rate_11 : decode cX11_rate 11 = .ok (.ifCond .eq 11, 3) := by decide +kernel
theorem dX11_rate_14 : decode cX11_rate 14 = .ok (.aload_n 0, 1) := by decide +kernel
theorem dX11_rate_15 : decode cX11_rate 15 = .ok (.iload_n 2, 1) := by decide +kernel
theorem dX11_rate_16 : decode cX11_rate 16 = .ok (.invokevirtual 129, 3) := by decide +kernel
theorem dX11_rate_19 : decode cX11_rate 19 = .ok (.ifCond .ne 6, 3) := by decide +kernel
theorem dX11_rate_22 : decode cX11_rate 22 = .ok (.ldc 169, 2) := by decide +kernel
theorem dX11_rate_24 : decode cX11_rate 24 = .ok (.ireturn, 1) := by decide +kernel
theorem dX11_rate_25 : decode cX11_rate 25 = .ok (.aload_n 0, 1) := by decide +kernel
theorem dX11_rate_26 : decode cX11_rate 26 = .ok (.getfield 19, 3) := by decide +kernel
theorem dX11_rate_29 : decode cX11_rate 29 = .ok (.iload_n 2, 1) := by decide +kernel
theorem dX11_rate_30 : decode cX11_rate 30 = .ok (.iaload, 1) := by decide +kernel
theorem dX11_rate_31 : decode cX11_rate 31 = .ok (.aload_n 0, 1) := by decide +kernel
theorem dX11_rate_32 : decode cX11_rate 32 = .ok (.getfield 28, 3) := by decide +kernel
theorem dX11_rate_35 : decode cX11_rate 35 = .ok (.bipush 6, 2) := by decide +kernel
theorem dX11_rate_37 : decode cX11_rate 37 = .ok (.iload_n 2, 1) := by decide +kernel
theorem dX11_rate_38 : decode cX11_rate 38 = .ok (.iadd, 1) := by decide +kernel
theorem dX11_rate_39 : decode cX11_rate 39 = .ok (.iaload, 1) := by decide +kernel
theorem dX11_rate_40 : decode cX11_rate 40 = .ok (.iadd, 1) := by decide +kernel
theorem dX11_rate_41 : decode cX11_rate 41 = .ok (.istore_n 3, 1) := by decide +kernel
theorem dX11_rate_42 : decode cX11_rate 42 = .ok (.aload_n 0, 1) := by decide +kernel
theorem dX11_rate_43 : decode cX11_rate 43 = .ok (.getfield 19, 3) := by decide +kernel
theorem dX11_rate_46 : decode cX11_rate 46 = .ok (.iload_n 2, 1) := by decide +kernel
theorem dX11_rate_47 : decode cX11_rate 47 = .ok (.iaload, 1) := by decide +kernel
theorem dX11_rate_48 : decode cX11_rate 48 = .ok (.aload_n 0, 1) := by decide +kernel
theorem dX11_rate_49 : decode cX11_rate 49 = .ok (.getfield 22, 3) := by decide +kernel
theorem dX11_rate_52 : decode cX11_rate 52 = .ok (.iload_n 2, 1) := by decide +kernel
theorem dX11_rate_53 : decode cX11_rate 53 = .ok (.iaload, 1) := by decide +kernel
theorem dX11_rate_54 : decode cX11_rate 54 = .ok (.invokestatic 152, 3) := by decide +kernel
theorem dX11_rate_57 : decode cX11_rate 57 = .ok (.isub, 1) := by decide +kernel
theorem dX11_rate_58 : decode cX11_rate 58 = .ok (.istore 4, 2) := by decide +kernel
theorem dX11_rate_60 : decode cX11_rate 60 = .ok (.aload_n 0, 1) := by decide +kernel
theorem dX11_rate_61 : decode cX11_rate 61 = .ok (.dup, 1) := by decide +kernel
theorem dX11_rate_62 : decode cX11_rate 62 = .ok (.getfield 170, 3) := by decide +kernel
theorem dX11_rate_65 : decode cX11_rate 65 = .ok (.iload_n 1, 1) := by decide +kernel
theorem dX11_rate_66 : decode cX11_rate 66 = .ok (.ifCond .ne 7, 3) := by decide +kernel
theorem dX11_rate_69 : decode cX11_rate 69 = .ok (.lconst 1, 1) := by decide +kernel
theorem dX11_rate_70 : decode cX11_rate 70 = .ok (.goto 50, 3) := by decide +kernel
theorem dX11_rate_73 : decode cX11_rate 73 = .ok (.iload_n 1, 1) := by decide +kernel
theorem dX11_rate_74 : decode cX11_rate 74 = .ok (.iconst 1, 1) := by decide +kernel
theorem dX11_rate_75 : decode cX11_rate 75 = .ok (.if_icmp .ne 9, 3) := by decide +kernel
theorem dX11_rate_78 : decode cX11_rate 78 = .ok (.ldc2_w 174, 3) := by decide +kernel
theorem dX11_rate_81 : decode cX11_rate 81 = .ok (.goto 39, 3) := by decide +kernel
theorem dX11_rate_84 : decode cX11_rate 84 = .ok (.iload_n 1, 1) := by decide +kernel
theorem dX11_rate_85 : decode cX11_rate 85 = .ok (.iconst 2, 1) := by decide +kernel
theorem dX11_rate_86 : decode cX11_rate 86 = .ok (.if_icmp .ne 9, 3) := by decide +kernel
theorem dX11_rate_89 : decode cX11_rate 89 = .ok (.ldc2_w 176, 3) := by decide +kernel
theorem dX11_rate_92 : decode cX11_rate 92 = .ok (.goto 28, 3) := by decide +kernel
theorem dX11_rate_95 : decode cX11_rate 95 = .ok (.iload_n 1, 1) := by decide +kernel
theorem dX11_rate_96 : decode cX11_rate 96 = .ok (.iconst 3, 1) := by decide +kernel
theorem dX11_rate_97 : decode cX11_rate 97 = .ok (.if_icmp .ne 9, 3) := by decide +kernel
theorem dX11_rate_100 : decode cX11_rate 100 = .ok (.ldc2_w 178, 3) := by decide +kernel
theorem dX11_rate_103 : decode cX11_rate 103 = .ok (.goto 17, 3) := by decide +kernel
theorem dX11_rate_106 : decode cX11_rate 106 = .ok (.iload_n 1, 1) := by decide +kernel
theorem dX11_rate_107 : decode cX11_rate 107 = .ok (.iconst 4, 1) := by decide +kernel
theorem dX11_rate_108 : decode cX11_rate 108 = .ok (.if_icmp .ne 9, 3) := by decide +kernel
theorem dX11_rate_111 : decode cX11_rate 111 = .ok (.ldc2_w 180, 3) := by decide +kernel
theorem dX11_rate_114 : decode cX11_rate 114 = .ok (.goto 6, 3) := by decide +kernel
theorem dX11_rate_117 : decode cX11_rate 117 = .ok (.ldc2_w 182, 3) := by decide +kernel
theorem dX11_rate_120 : decode cX11_rate 120 = .ok (.ladd, 1) := by decide +kernel
theorem dX11_rate_121 : decode cX11_rate 121 = .ok (.putfield 170, 3) := by decide +kernel
theorem dX11_rate_124 : decode cX11_rate 124 = .ok (.iload_n 1, 1) := by decide +kernel
theorem dX11_rate_125 : decode cX11_rate 125 = .ok (.ifCond .ne 12, 3) := by decide +kernel
theorem dX11_rate_128 : decode cX11_rate 128 = .ok (.aload_n 0, 1) := by decide +kernel
theorem dX11_rate_129 : decode cX11_rate 129 = .ok (.getfield 19, 3) := by decide +kernel
theorem dX11_rate_132 : decode cX11_rate 132 = .ok (.iload_n 2, 1) := by decide +kernel
theorem dX11_rate_133 : decode cX11_rate 133 = .ok (.iaload, 1) := by decide +kernel
theorem dX11_rate_134 : decode cX11_rate 134 = .ok (.goto 59, 3) := by decide +kernel
theorem dX11_rate_137 : decode cX11_rate 137 = .ok (.iload_n 1, 1) := by decide +kernel
theorem dX11_rate_138 : decode cX11_rate 138 = .ok (.iconst 1, 1) := by decide +kernel
theorem dX11_rate_139 : decode cX11_rate 139 = .ok (.if_icmp .ne 7, 3) := by decide +kernel
theorem dX11_rate_142 : decode cX11_rate 142 = .ok (.iload_n 3, 1) := by decide +kernel
theorem dX11_rate_143 : decode cX11_rate 143 = .ok (.goto 50, 3) := by decide +kernel
theorem dX11_rate_146 : decode cX11_rate 146 = .ok (.iload_n 1, 1) := by decide +kernel
theorem dX11_rate_147 : decode cX11_rate 147 = .ok (.iconst 2, 1) := by decide +kernel
theorem dX11_rate_148 : decode cX11_rate 148 = .ok (.if_icmp .ne 8, 3) := by decide +kernel
theorem dX11_rate_151 : decode cX11_rate 151 = .ok (.iload 4, 2) := by decide +kernel
theorem dX11_rate_153 : decode cX11_rate 153 = .ok (.goto 40, 3) := by decide +kernel
theorem dX11_rate_156 : decode cX11_rate 156 = .ok (.iload_n 1, 1) := by decide +kernel
theorem dX11_rate_157 : decode cX11_rate 157 = .ok (.iconst 3, 1) := by decide +kernel
theorem dX11_rate_158 : decode cX11_rate 158 = .ok (.if_icmp .ne 9, 3) := by decide +kernel
theorem dX11_rate_161 : decode cX11_rate 161 = .ok (.iconst 2, 1) := by decide +kernel
theorem dX11_rate_162 : decode cX11_rate 162 = .ok (.iload_n 3, 1) := by decide +kernel
theorem dX11_rate_163 : decode cX11_rate 163 = .ok (.imul, 1) := by decide +kernel
theorem dX11_rate_164 : decode cX11_rate 164 = .ok (.goto 29, 3) := by decide +kernel
theorem dX11_rate_167 : decode cX11_rate 167 = .ok (.iload_n 1, 1) := by decide +kernel
theorem dX11_rate_168 : decode cX11_rate 168 = .ok (.iconst 4, 1) := by decide +kernel
theorem dX11_rate_169 : decode cX11_rate 169 = .ok (.if_icmp .ne 10, 3) := by decide +kernel
theorem dX11_rate_172 : decode cX11_rate 172 = .ok (.iload 4, 2) := by decide +kernel
theorem dX11_rate_174 : decode cX11_rate 174 = .ok (.iload_n 2, 1) := by decide +kernel
theorem dX11_rate_175 : decode cX11_rate 175 = .ok (.iadd, 1) := by decide +kernel
theorem dX11_rate_176 : decode cX11_rate 176 = .ok (.goto 17, 3) := by decide +kernel
theorem dX11_rate_179 : decode cX11_rate 179 = .ok (.aload_n 0, 1) := by decide +kernel
theorem dX11_rate_180 : decode cX11_rate 180 = .ok (.getfield 19, 3) := by decide +kernel
theorem dX11_rate_183 : decode cX11_rate 183 = .ok (.iload_n 2, 1) := by decide +kernel
theorem dX11_rate_184 : decode cX11_rate 184 = .ok (.iaload, 1) := by decide +kernel
theorem dX11_rate_185 : decode cX11_rate 185 = .ok (.aload_n 0, 1) := by decide +kernel
theorem dX11_rate_186 : decode cX11_rate 186 = .ok (.getfield 28, 3) := by decide +kernel
theorem dX11_rate_189 : decode cX11_rate 189 = .ok (.bipush 19, 2) := by decide +kernel
theorem dX11_rate_191 : decode cX11_rate 191 = .ok (.iaload, 1) := by decide +kernel
theorem dX11_rate_192 : decode cX11_rate 192 = .ok (.iadd, 1) := by decide +kernel
theorem dX11_rate_193 : decode cX11_rate 193 = .ok (.ireturn, 1) := by decide +kernel
theorem dX11_keep_0 : decode cX11_keep 0 = .ok (.aload_n 0, 1) := by decide +kernel
theorem dX11_keep_1 : decode cX11_keep 1 = .ok (.iconst 0, 1) := by decide +kernel
theorem dX11_keep_2 : decode cX11_keep 2 = .ok (.putfield 65, 3) := by decide +kernel
theorem dX11_keep_5 : decode cX11_keep 5 = .ok (.iload_n 1, 1) := by decide +kernel
theorem dX11_keep_6 : decode cX11_keep 6 = .ok (.iconst 0, 1) := by decide +kernel
theorem dX11_keep_7 : decode cX11_keep 7 = .ok (.iconst 1, 1) := by decide +kernel
theorem dX11_keep_8 : decode cX11_keep 8 = .ok (.invokestatic 69, 3) := by decide +kernel
theorem dX11_keep_11 : decode cX11_keep 11 = .ok (.ifCond .ne 5, 3) := by decide +kernel
theorem dX11_keep_14 : decode cX11_keep 14 = .ok (.iconst (-1), 1) := by decide +kernel
theorem dX11_keep_15 : decode cX11_keep 15 = .ok (.ireturn, 1) := by decide +kernel
theorem dX11_keep_16 : decode cX11_keep 16 = .ok (.iconst 0, 1) := by decide +kernel
theorem dX11_keep_17 : decode cX11_keep 17 = .ok (.istore_n 2, 1) := by decide +kernel
theorem dX11_keep_18 : decode cX11_keep 18 = .ok (.iload_n 2, 1) := by decide +kernel
theorem dX11_keep_19 : decode cX11_keep 19 = .ok (.bipush 20, 2) := by decide +kernel
theorem dX11_keep_21 : decode cX11_keep 21 = .ok (.if_icmp .ge 26, 3) := by decide +kernel
theorem dX11_keep_24 : decode cX11_keep 24 = .ok (.aload_n 0, 1) := by decide +kernel
theorem dX11_keep_25 : decode cX11_keep 25 = .ok (.getfield 31, 3) := by decide +kernel
theorem dX11_keep_28 : decode cX11_keep 28 = .ok (.bipush 20, 2) := by decide +kernel
theorem dX11_keep_30 : decode cX11_keep 30 = .ok (.iload_n 1, 1) := by decide +kernel
theorem dX11_keep_31 : decode cX11_keep 31 = .ok (.imul, 1) := by decide +kernel
theorem dX11_keep_32 : decode cX11_keep 32 = .ok (.iload_n 2, 1) := by decide +kernel
theorem dX11_keep_33 : decode cX11_keep 33 = .ok (.iadd, 1) := by decide +kernel
theorem dX11_keep_34 : decode cX11_keep 34 = .ok (.aload_n 0, 1) := by decide +kernel
theorem dX11_keep_35 : decode cX11_keep 35 = .ok (.getfield 28, 3) := by decide +kernel
theorem dX11_keep_38 : decode cX11_keep 38 = .ok (.iload_n 2, 1) := by decide +kernel
theorem dX11_keep_39 : decode cX11_keep 39 = .ok (.iaload, 1) := by decide +kernel
theorem dX11_keep_40 : decode cX11_keep 40 = .ok (.iastore, 1) := by decide +kernel
theorem dX11_keep_41 : decode cX11_keep 41 = .ok (.iinc 2 1, 3) := by decide +kernel
theorem dX11_keep_44 : decode cX11_keep 44 = .ok (.goto (-26), 3) := by decide +kernel
theorem dX11_keep_47 : decode cX11_keep 47 = .ok (.aload_n 0, 1) := by decide +kernel
theorem dX11_keep_48 : decode cX11_keep 48 = .ok (.getfield 34, 3) := by decide +kernel
theorem dX11_keep_51 : decode cX11_keep 51 = .ok (.iload_n 1, 1) := by decide +kernel
theorem dX11_keep_52 : decode cX11_keep 52 = .ok (.iconst 1, 1) := by decide +kernel
theorem dX11_keep_53 : decode cX11_keep 53 = .ok (.bastore, 1) := by decide +kernel
theorem dX11_keep_54 : decode cX11_keep 54 = .ok (.aload_n 0, 1) := by decide +kernel
theorem dX11_keep_55 : decode cX11_keep 55 = .ok (.getfield 28, 3) := by decide +kernel
theorem dX11_keep_58 : decode cX11_keep 58 = .ok (.bipush 19, 2) := by decide +kernel
theorem dX11_keep_60 : decode cX11_keep 60 = .ok (.iaload, 1) := by decide +kernel
theorem dX11_keep_61 : decode cX11_keep 61 = .ok (.ireturn, 1) := by decide +kernel
theorem dX11_back_0 : decode cX11_back 0 = .ok (.aload_n 0, 1) := by decide +kernel
theorem dX11_back_1 : decode cX11_back 1 = .ok (.iconst 0, 1) := by decide +kernel
theorem dX11_back_2 : decode cX11_back 2 = .ok (.putfield 65, 3) := by decide +kernel
theorem dX11_back_5 : decode cX11_back 5 = .ok (.iload_n 1, 1) := by decide +kernel
theorem dX11_back_6 : decode cX11_back 6 = .ok (.iconst 0, 1) := by decide +kernel
theorem dX11_back_7 : decode cX11_back 7 = .ok (.iconst 1, 1) := by decide +kernel
theorem dX11_back_8 : decode cX11_back 8 = .ok (.invokestatic 69, 3) := by decide +kernel
theorem dX11_back_11 : decode cX11_back 11 = .ok (.ifCond .ne 5, 3) := by decide +kernel
theorem dX11_back_14 : decode cX11_back 14 = .ok (.iconst (-1), 1) := by decide +kernel
theorem dX11_back_15 : decode cX11_back 15 = .ok (.ireturn, 1) := by decide +kernel
theorem dX11_back_16 : decode cX11_back 16 = .ok (.aload_n 0, 1) := by decide +kernel
theorem dX11_back_17 : decode cX11_back 17 = .ok (.getfield 34, 3) := by decide +kernel
theorem dX11_back_20 : decode cX11_back 20 = .ok (.iload_n 1, 1) := by decide +kernel
theorem dX11_back_21 : decode cX11_back 21 = .ok (.baload, 1) := by decide +kernel
theorem dX11_back_22 : decode cX11_back 22 = .ok (.ifCond .ne 6, 3) := by decide +kernel
theorem dX11_back_25 : decode cX11_back 25 = .ok (.bipush (-2), 2) := by decide +kernel
theorem dX11_back_27 : decode cX11_back 27 = .ok (.ireturn, 1) := by decide +kernel
theorem dX11_back_28 : decode cX11_back 28 = .ok (.iconst 0, 1) := by decide +kernel
theorem dX11_back_29 : decode cX11_back 29 = .ok (.istore_n 2, 1) := by decide +kernel
theorem dX11_back_30 : decode cX11_back 30 = .ok (.iload_n 2, 1) := by decide +kernel
theorem dX11_back_31 : decode cX11_back 31 = .ok (.bipush 20, 2) := by decide +kernel
theorem dX11_back_33 : decode cX11_back 33 = .ok (.if_icmp .ge 26, 3) := by decide +kernel
theorem dX11_back_36 : decode cX11_back 36 = .ok (.aload_n 0, 1) := by decide +kernel
theorem dX11_back_37 : decode cX11_back 37 = .ok (.getfield 28, 3) := by decide +kernel
theorem dX11_back_40 : decode cX11_back 40 = .ok (.iload_n 2, 1) := by decide +kernel
theorem dX11_back_41 : decode cX11_back 41 = .ok (.aload_n 0, 1) := by decide +kernel
theorem dX11_back_42 : decode cX11_back 42 = .ok (.getfield 31, 3) := by decide +kernel
theorem dX11_back_45 : decode cX11_back 45 = .ok (.bipush 20, 2) := by decide +kernel
theorem dX11_back_47 : decode cX11_back 47 = .ok (.iload_n 1, 1) := by decide +kernel
theorem dX11_back_48 : decode cX11_back 48 = .ok (.imul, 1) := by decide +kernel
theorem dX11_back_49 : decode cX11_back 49 = .ok (.iload_n 2, 1) := by decide +kernel
theorem dX11_back_50 : decode cX11_back 50 = .ok (.iadd, 1) := by decide +kernel
theorem dX11_back_51 : decode cX11_back 51 = .ok (.iaload, 1) := by decide +kernel
theorem dX11_back_52 : decode cX11_back 52 = .ok (.iastore, 1) := by decide +kernel
theorem dX11_back_53 : decode cX11_back 53 = .ok (.iinc 2 1, 3) := by decide +kernel
theorem dX11_back_56 : decode cX11_back 56 = .ok (.goto (-26), 3) := by decide +kernel
theorem dX11_back_59 : decode cX11_back 59 = .ok (.aload_n 0, 1) := by decide +kernel
theorem dX11_back_60 : decode cX11_back 60 = .ok (.iconst 0, 1) := by decide +kernel
theorem dX11_back_61 : decode cX11_back 61 = .ok (.putfield 126, 3) := by decide +kernel
theorem dX11_back_64 : decode cX11_back 64 = .ok (.aload_n 0, 1) := by decide +kernel
theorem dX11_back_65 : decode cX11_back 65 = .ok (.getfield 28, 3) := by decide +kernel
theorem dX11_back_68 : decode cX11_back 68 = .ok (.bipush 19, 2) := by decide +kernel
theorem dX11_back_70 : decode cX11_back 70 = .ok (.iaload, 1) := by decide +kernel
theorem dX11_back_71 : decode cX11_back 71 = .ok (.ireturn, 1) := by decide +kernel
theorem dX11_count_0 : decode cX11_count 0 = .ok (.aload_n 0, 1) := by decide +kernel
theorem dX11_count_1 : decode cX11_count 1 = .ok (.iconst 0, 1) := by decide +kernel
theorem dX11_count_2 : decode cX11_count 2 = .ok (.putfield 65, 3) := by decide +kernel
theorem dX11_count_5 : decode cX11_count 5 = .ok (.iload_n 1, 1) := by decide +kernel
theorem dX11_count_6 : decode cX11_count 6 = .ok (.iconst 0, 1) := by decide +kernel
theorem dX11_count_7 : decode cX11_count 7 = .ok (.iconst 3, 1) := by decide +kernel
theorem dX11_count_8 : decode cX11_count 8 = .ok (.invokestatic 69, 3) := by decide +kernel
theorem dX11_count_11 : decode cX11_count 11 = .ok (.ifCond .eq 12, 3) := by decide +kernel
theorem dX11_count_14 : decode cX11_count 14 = .ok (.aload_n 0, 1) := by decide +kernel
theorem dX11_count_15 : decode cX11_count 15 = .ok (.getfield 13, 3) := by decide +kernel
theorem dX11_count_18 : decode cX11_count 18 = .ok (.iload_n 1, 1) := by decide +kernel
theorem dX11_count_19 : decode cX11_count 19 = .ok (.iaload, 1) := by decide +kernel
theorem dX11_count_20 : decode cX11_count 20 = .ok (.goto 41, 3) := by decide +kernel
theorem dX11_count_23 : decode cX11_count 23 = .ok (.iload_n 1, 1) := by decide +kernel
theorem dX11_count_24 : decode cX11_count 24 = .ok (.iconst 4, 1) := by decide +kernel
theorem dX11_count_25 : decode cX11_count 25 = .ok (.if_icmp .ne 10, 3) := by decide +kernel
theorem dX11_count_28 : decode cX11_count 28 = .ok (.aload_n 0, 1) := by decide +kernel
theorem dX11_count_29 : decode cX11_count 29 = .ok (.getfield 120, 3) := by decide +kernel
theorem dX11_count_32 : decode cX11_count 32 = .ok (.goto 29, 3) := by decide +kernel
theorem dX11_count_35 : decode cX11_count 35 = .ok (.iload_n 1, 1) := by decide +kernel
theorem dX11_count_36 : decode cX11_count 36 = .ok (.iconst 5, 1) := by decide +kernel
theorem dX11_count_37 : decode cX11_count 37 = .ok (.if_icmp .ne 10, 3) := by decide +kernel
theorem dX11_count_40 : decode cX11_count 40 = .ok (.aload_n 0, 1) := by decide +kernel
theorem dX11_count_41 : decode cX11_count 41 = .ok (.getfield 123, 3) := by decide +kernel
theorem dX11_count_44 : decode cX11_count 44 = .ok (.goto 17, 3) := by decide +kernel
theorem dX11_count_47 : decode cX11_count 47 = .ok (.iload_n 1, 1) := by decide +kernel
theorem dX11_count_48 : decode cX11_count 48 = .ok (.bipush 6, 2) := by decide +kernel
theorem dX11_count_50 : decode cX11_count 50 = .ok (.if_icmp .ne 10, 3) := by decide +kernel
theorem dX11_count_53 : decode cX11_count 53 = .ok (.aload_n 0, 1) := by decide +kernel
theorem dX11_count_54 : decode cX11_count 54 = .ok (.getfield 73, 3) := by decide +kernel
theorem dX11_count_57 : decode cX11_count 57 = .ok (.goto 4, 3) := by decide +kernel
theorem dX11_count_60 : decode cX11_count 60 = .ok (.iconst (-1), 1) := by decide +kernel
theorem dX11_count_61 : decode cX11_count 61 = .ok (.ireturn, 1) := by decide +kernel
theorem dX11_trace_0 : decode cX11_trace 0 = .ok (.aload_n 0, 1) := by decide +kernel
theorem dX11_trace_1 : decode cX11_trace 1 = .ok (.iconst 0, 1) := by decide +kernel
theorem dX11_trace_2 : decode cX11_trace 2 = .ok (.putfield 65, 3) := by decide +kernel
theorem dX11_trace_5 : decode cX11_trace 5 = .ok (.aload_n 0, 1) := by decide +kernel
theorem dX11_trace_6 : decode cX11_trace 6 = .ok (.getfield 170, 3) := by decide +kernel
theorem dX11_trace_9 : decode cX11_trace 9 = .ok (.lreturn, 1) := by decide +kernel
theorem dJ6_bitCount_0f7a4_0 : decode cJ6_bitCount_0f7a4 0 = .ok (.iload_n 0, 1) := by decide +kernel
theorem dJ6_bitCount_0f7a4_1 : decode cJ6_bitCount_0f7a4 1 = .ok (.iload_n 0, 1) := by decide +kernel
theorem dJ6_bitCount_0f7a4_2 : decode cJ6_bitCount_0f7a4 2 = .ok (.iconst 1, 1) := by decide +kernel
theorem dJ6_bitCount_0f7a4_3 : decode cJ6_bitCount_0f7a4 3 = .ok (.iushr, 1) := by decide +kernel
theorem dJ6_bitCount_0f7a4_4 : decode cJ6_bitCount_0f7a4 4 = .ok (.ldc_w 265, 3) := by decide +kernel
theorem dJ6_bitCount_0f7a4_7 : decode cJ6_bitCount_0f7a4 7 = .ok (.iand, 1) := by decide +kernel
theorem dJ6_bitCount_0f7a4_8 : decode cJ6_bitCount_0f7a4 8 = .ok (.isub, 1) := by decide +kernel
theorem dJ6_bitCount_0f7a4_9 : decode cJ6_bitCount_0f7a4 9 = .ok (.istore_n 0, 1) := by decide +kernel
theorem dJ6_bitCount_0f7a4_10 : decode cJ6_bitCount_0f7a4 10 = .ok (.iload_n 0, 1) := by decide +kernel
theorem dJ6_bitCount_0f7a4_11 : decode cJ6_bitCount_0f7a4 11 = .ok (.ldc_w 266, 3) := by decide +kernel
theorem dJ6_bitCount_0f7a4_14 : decode cJ6_bitCount_0f7a4 14 = .ok (.iand, 1) := by decide +kernel
theorem dJ6_bitCount_0f7a4_15 : decode cJ6_bitCount_0f7a4 15 = .ok (.iload_n 0, 1) := by decide +kernel
theorem dJ6_bitCount_0f7a4_16 : decode cJ6_bitCount_0f7a4 16 = .ok (.iconst 2, 1) := by decide +kernel
theorem dJ6_bitCount_0f7a4_17 : decode cJ6_bitCount_0f7a4 17 = .ok (.iushr, 1) := by decide +kernel
theorem dJ6_bitCount_0f7a4_18 : decode cJ6_bitCount_0f7a4 18 = .ok (.ldc_w 266, 3) := by decide +kernel
theorem dJ6_bitCount_0f7a4_21 : decode cJ6_bitCount_0f7a4 21 = .ok (.iand, 1) := by decide +kernel
theorem dJ6_bitCount_0f7a4_22 : decode cJ6_bitCount_0f7a4 22 = .ok (.iadd, 1) := by decide +kernel
theorem dJ6_bitCount_0f7a4_23 : decode cJ6_bitCount_0f7a4 23 = .ok (.istore_n 0, 1) := by decide +kernel
theorem dJ6_bitCount_0f7a4_24 : decode cJ6_bitCount_0f7a4 24 = .ok (.iload_n 0, 1) := by decide +kernel
theorem dJ6_bitCount_0f7a4_25 : decode cJ6_bitCount_0f7a4 25 = .ok (.iload_n 0, 1) := by decide +kernel
theorem dJ6_bitCount_0f7a4_26 : decode cJ6_bitCount_0f7a4 26 = .ok (.iconst 4, 1) := by decide +kernel
theorem dJ6_bitCount_0f7a4_27 : decode cJ6_bitCount_0f7a4 27 = .ok (.iushr, 1) := by decide +kernel
theorem dJ6_bitCount_0f7a4_28 : decode cJ6_bitCount_0f7a4 28 = .ok (.iadd, 1) := by decide +kernel
theorem dJ6_bitCount_0f7a4_29 : decode cJ6_bitCount_0f7a4 29 = .ok (.ldc_w 267, 3) := by decide +kernel
theorem dJ6_bitCount_0f7a4_32 : decode cJ6_bitCount_0f7a4 32 = .ok (.iand, 1) := by decide +kernel
theorem dJ6_bitCount_0f7a4_33 : decode cJ6_bitCount_0f7a4 33 = .ok (.istore_n 0, 1) := by decide +kernel
theorem dJ6_bitCount_0f7a4_34 : decode cJ6_bitCount_0f7a4 34 = .ok (.iload_n 0, 1) := by decide +kernel
theorem dJ6_bitCount_0f7a4_35 : decode cJ6_bitCount_0f7a4 35 = .ok (.iload_n 0, 1) := by decide +kernel
theorem dJ6_bitCount_0f7a4_36 : decode cJ6_bitCount_0f7a4 36 = .ok (.bipush 8, 2) := by decide +kernel
theorem dJ6_bitCount_0f7a4_38 : decode cJ6_bitCount_0f7a4 38 = .ok (.iushr, 1) := by decide +kernel
theorem dJ6_bitCount_0f7a4_39 : decode cJ6_bitCount_0f7a4 39 = .ok (.iadd, 1) := by decide +kernel
theorem dJ6_bitCount_0f7a4_40 : decode cJ6_bitCount_0f7a4 40 = .ok (.istore_n 0, 1) := by decide +kernel
theorem dJ6_bitCount_0f7a4_41 : decode cJ6_bitCount_0f7a4 41 = .ok (.iload_n 0, 1) := by decide +kernel
theorem dJ6_bitCount_0f7a4_42 : decode cJ6_bitCount_0f7a4 42 = .ok (.iload_n 0, 1) := by decide +kernel
theorem dJ6_bitCount_0f7a4_43 : decode cJ6_bitCount_0f7a4 43 = .ok (.bipush 16, 2) := by decide +kernel
theorem dJ6_bitCount_0f7a4_45 : decode cJ6_bitCount_0f7a4 45 = .ok (.iushr, 1) := by decide +kernel
theorem dJ6_bitCount_0f7a4_46 : decode cJ6_bitCount_0f7a4 46 = .ok (.iadd, 1) := by decide +kernel
theorem dJ6_bitCount_0f7a4_47 : decode cJ6_bitCount_0f7a4 47 = .ok (.istore_n 0, 1) := by decide +kernel
theorem dJ6_bitCount_0f7a4_48 : decode cJ6_bitCount_0f7a4 48 = .ok (.iload_n 0, 1) := by decide +kernel
theorem dJ6_bitCount_0f7a4_49 : decode cJ6_bitCount_0f7a4 49 = .ok (.bipush 63, 2) := by decide +kernel
theorem dJ6_bitCount_0f7a4_51 : decode cJ6_bitCount_0f7a4 51 = .ok (.iand, 1) := by decide +kernel
theorem dJ6_bitCount_0f7a4_52 : decode cJ6_bitCount_0f7a4 52 = .ok (.ireturn, 1) := by decide +kernel
theorem dJ9_max_7cf53_0 : decode cJ9_max_7cf53 0 = .ok (.iload_n 0, 1) := by decide +kernel
theorem dJ9_max_7cf53_1 : decode cJ9_max_7cf53 1 = .ok (.iload_n 1, 1) := by decide +kernel
theorem dJ9_max_7cf53_2 : decode cJ9_max_7cf53 2 = .ok (.if_icmp .lt 7, 3) := by decide +kernel
theorem dJ9_max_7cf53_5 : decode cJ9_max_7cf53 5 = .ok (.iload_n 0, 1) := by decide +kernel
theorem dJ9_max_7cf53_6 : decode cJ9_max_7cf53 6 = .ok (.goto 4, 3) := by decide +kernel
theorem dJ9_max_7cf53_9 : decode cJ9_max_7cf53 9 = .ok (.iload_n 1, 1) := by decide +kernel
theorem dJ9_max_7cf53_10 : decode cJ9_max_7cf53 10 = .ok (.ireturn, 1) := by decide +kernel
theorem dJ9_min_7cf53_0 : decode cJ9_min_7cf53 0 = .ok (.iload_n 0, 1) := by decide +kernel
theorem dJ9_min_7cf53_1 : decode cJ9_min_7cf53 1 = .ok (.iload_n 1, 1) := by decide +kernel
theorem dJ9_min_7cf53_2 : decode cJ9_min_7cf53 2 = .ok (.if_icmp .gt 7, 3) := by decide +kernel
theorem dJ9_min_7cf53_5 : decode cJ9_min_7cf53 5 = .ok (.iload_n 0, 1) := by decide +kernel
theorem dJ9_min_7cf53_6 : decode cJ9_min_7cf53 6 = .ok (.goto 4, 3) := by decide +kernel
theorem dJ9_min_7cf53_9 : decode cJ9_min_7cf53 9 = .ok (.iload_n 1, 1) := by decide +kernel
theorem dJ9_min_7cf53_10 : decode cJ9_min_7cf53 10 = .ok (.ireturn, 1) := by decide +kernel
theorem dL_law_0 : decode cL_law 0 = .ok (.new 7, 3) := by decide +kernel
theorem dL_law_3 : decode cL_law 3 = .ok (.dup, 1) := by decide +kernel
theorem dL_law_4 : decode cL_law 4 = .ok (.invokespecial 9, 3) := by decide +kernel
theorem dL_law_7 : decode cL_law 7 = .ok (.astore_n 1, 1) := by decide +kernel
theorem dL_law_8 : decode cL_law 8 = .ok (.new 10, 3) := by decide +kernel
theorem dL_law_11 : decode cL_law 11 = .ok (.dup, 1) := by decide +kernel
theorem dL_law_12 : decode cL_law 12 = .ok (.invokespecial 12, 3) := by decide +kernel
theorem dL_law_15 : decode cL_law 15 = .ok (.astore_n 2, 1) := by decide +kernel
theorem dL_law_16 : decode cL_law 16 = .ok (.iconst 0, 1) := by decide +kernel
theorem dL_law_17 : decode cL_law 17 = .ok (.istore_n 3, 1) := by decide +kernel
theorem dL_law_18 : decode cL_law 18 = .ok (.iload_n 3, 1) := by decide +kernel
theorem dL_law_19 : decode cL_law 19 = .ok (.aload_n 0, 1) := by decide +kernel
theorem dL_law_20 : decode cL_law 20 = .ok (.arraylength, 1) := by decide +kernel
theorem dL_law_21 : decode cL_law 21 = .ok (.iconst 4, 1) := by decide +kernel
theorem dL_law_22 : decode cL_law 22 = .ok (.isub, 1) := by decide +kernel
theorem dL_law_23 : decode cL_law 23 = .ok (.if_icmp .gt 747, 3) := by decide +kernel
theorem dL_law_26 : decode cL_law 26 = .ok (.aload_n 0, 1) := by decide +kernel
theorem dL_law_27 : decode cL_law 27 = .ok (.iload_n 3, 1) := by decide +kernel
theorem dL_law_28 : decode cL_law 28 = .ok (.iaload, 1) := by decide +kernel
theorem dL_law_29 : decode cL_law 29 = .ok (.bipush 31, 2) := by decide +kernel
theorem dL_law_31 : decode cL_law 31 = .ok (.iand, 1) := by decide +kernel
theorem dL_law_32 : decode cL_law 32 = .ok (.tableswitch 732 0 24 #[116, 139, 152, 165, 198, 231, 254, 287, 320, 353, 366, 399, 422, 465, 498, 521, 534, 567, 580, 593, 616, 649, 672, 695, 718], 116) := by decide +kernel
theorem dL_law_148 : decode cL_law 148 = .ok (.aload_n 1, 1) := by decide +kernel
theorem dL_law_149 : decode cL_law 149 = .ok (.aload_n 0, 1) := by decide +kernel
theorem dL_law_150 : decode cL_law 150 = .ok (.iload_n 3, 1) := by decide +kernel
theorem dL_law_151 : decode cL_law 151 = .ok (.iconst 1, 1) := by decide +kernel
theorem dL_law_152 : decode cL_law 152 = .ok (.iadd, 1) := by decide +kernel
theorem dL_law_153 : decode cL_law 153 = .ok (.iaload, 1) := by decide +kernel
theorem dL_law_154 : decode cL_law 154 = .ok (.invokevirtual 13, 3) := by decide +kernel
theorem dL_law_157 : decode cL_law 157 = .ok (.aload_n 2, 1) := by decide +kernel
theorem dL_law_158 : decode cL_law 158 = .ok (.aload_n 0, 1) := by decide +kernel
theorem dL_law_159 : decode cL_law 159 = .ok (.iload_n 3, 1) := by decide +kernel
theorem dL_law_160 : decode cL_law 160 = .ok (.iconst 1, 1) := by decide +kernel
theorem dL_law_161 : decode cL_law 161 = .ok (.iadd, 1) := by decide +kernel
theorem dL_law_162 : decode cL_law 162 = .ok (.iaload, 1) := by decide +kernel
theorem dL_law_163 : decode cL_law 163 = .ok (.invokevirtual 17, 3) := by decide +kernel
theorem dL_law_166 : decode cL_law 166 = .ok (.if_icmp .eq 598, 3) := by decide +kernel
theorem dL_law_169 : decode cL_law 169 = .ok (.iconst 0, 1) := by decide +kernel
theorem dL_law_170 : decode cL_law 170 = .ok (.ireturn, 1) := by decide +kernel
theorem dL_law_171 : decode cL_law 171 = .ok (.aload_n 1, 1) := by decide +kernel
theorem dL_law_172 : decode cL_law 172 = .ok (.invokevirtual 18, 3) := by decide +kernel
theorem dL_law_175 : decode cL_law 175 = .ok (.aload_n 2, 1) := by decide +kernel
theorem dL_law_176 : decode cL_law 176 = .ok (.invokevirtual 22, 3) := by decide +kernel
theorem dL_law_179 : decode cL_law 179 = .ok (.if_icmp .eq 585, 3) := by decide +kernel
theorem dL_law_182 : decode cL_law 182 = .ok (.iconst 0, 1) := by decide +kernel
theorem dL_law_183 : decode cL_law 183 = .ok (.ireturn, 1) := by decide +kernel
theorem dL_law_184 : decode cL_law 184 = .ok (.aload_n 1, 1) := by decide +kernel
theorem dL_law_185 : decode cL_law 185 = .ok (.invokevirtual 23, 3) := by decide +kernel
theorem dL_law_188 : decode cL_law 188 = .ok (.aload_n 2, 1) := by decide +kernel
theorem dL_law_189 : decode cL_law 189 = .ok (.invokevirtual 26, 3) := by decide +kernel
theorem dL_law_192 : decode cL_law 192 = .ok (.if_icmp .eq 572, 3) := by decide +kernel
theorem dL_law_195 : decode cL_law 195 = .ok (.iconst 0, 1) := by decide +kernel
theorem dL_law_196 : decode cL_law 196 = .ok (.ireturn, 1) := by decide +kernel
theorem dL_law_197 : decode cL_law 197 = .ok (.aload_n 1, 1) := by decide +kernel
theorem dL_law_198 : decode cL_law 198 = .ok (.aload_n 0, 1) := by decide +kernel
theorem dL_law_199 : decode cL_law 199 = .ok (.iload_n 3, 1) := by decide +kernel
theorem dL_law_200 : decode cL_law 200 = .ok (.iconst 1, 1) := by decide +kernel
theorem dL_law_201 : decode cL_law 201 = .ok (.iadd, 1) := by decide +kernel
theorem dL_law_202 : decode cL_law 202 = .ok (.iaload, 1) := by decide +kernel
theorem dL_law_203 : decode cL_law 203 = .ok (.aload_n 0, 1) := by decide +kernel
theorem dL_law_204 : decode cL_law 204 = .ok (.iload_n 3, 1) := by decide +kernel
theorem dL_law_205 : decode cL_law 205 = .ok (.iconst 2, 1) := by decide +kernel
theorem dL_law_206 : decode cL_law 206 = .ok (.iadd, 1) := by decide +kernel
theorem dL_law_207 : decode cL_law 207 = .ok (.iaload, 1) := by decide +kernel
theorem dL_law_208 : decode cL_law 208 = .ok (.invokevirtual 27, 3) := by decide +kernel
theorem dL_law_211 : decode cL_law 211 = .ok (.aload_n 2, 1) := by decide +kernel
theorem dL_law_212 : decode cL_law 212 = .ok (.aload_n 0, 1) := by decide +kernel
theorem dL_law_213 : decode cL_law 213 = .ok (.iload_n 3, 1) := by decide +kernel
theorem dL_law_214 : decode cL_law 214 = .ok (.iconst 1, 1) := by decide +kernel
theorem dL_law_215 : decode cL_law 215 = .ok (.iadd, 1) := by decide +kernel
theorem dL_law_216 : decode cL_law 216 = .ok (.iaload, 1) := by decide +kernel
theorem dL_law_217 : decode cL_law 217 = .ok (.aload_n 0, 1) := by decide +kernel
theorem dL_law_218 : decode cL_law 218 = .ok (.iload_n 3, 1) := by decide +kernel
theorem dL_law_219 : decode cL_law 219 = .ok (.iconst 2, 1) := by decide +kernel
theorem dL_law_220 : decode cL_law 220 = .ok (.iadd, 1) := by decide +kernel
theorem dL_law_221 : decode cL_law 221 = .ok (.iaload, 1) := by decide +kernel
theorem dL_law_222 : decode cL_law 222 = .ok (.invokevirtual 31, 3) := by decide +kernel
theorem dL_law_225 : decode cL_law 225 = .ok (.if_icmp .eq 539, 3) := by decide +kernel
theorem dL_law_228 : decode cL_law 228 = .ok (.iconst 0, 1) := by decide +kernel
theorem dL_law_229 : decode cL_law 229 = .ok (.ireturn, 1) := by decide +kernel
theorem dL_law_230 : decode cL_law 230 = .ok (.aload_n 1, 1) := by decide +kernel
theorem dL_law_231 : decode cL_law 231 = .ok (.aload_n 0, 1) := by decide +kernel
theorem dL_law_232 : decode cL_law 232 = .ok (.iload_n 3, 1) := by decide +kernel
theorem dL_law_233 : decode cL_law 233 = .ok (.iconst 1, 1) := by decide +kernel
theorem dL_law_234 : decode cL_law 234 = .ok (.iadd, 1) := by decide +kernel
theorem dL_law_235 : decode cL_law 235 = .ok (.iaload, 1) := by decide +kernel
theorem dL_law_236 : decode cL_law 236 = .ok (.aload_n 0, 1) := by decide +kernel
theorem dL_law_237 : decode cL_law 237 = .ok (.iload_n 3, 1) := by decide +kernel
theorem dL_law_238 : decode cL_law 238 = .ok (.iconst 2, 1) := by decide +kernel
theorem dL_law_239 : decode cL_law 239 = .ok (.iadd, 1) := by decide +kernel
theorem dL_law_240 : decode cL_law 240 = .ok (.iaload, 1) := by decide +kernel
theorem dL_law_241 : decode cL_law 241 = .ok (.invokevirtual 32, 3) := by decide +kernel
theorem dL_law_244 : decode cL_law 244 = .ok (.aload_n 2, 1) := by decide +kernel
theorem dL_law_245 : decode cL_law 245 = .ok (.aload_n 0, 1) := by decide +kernel
theorem dL_law_246 : decode cL_law 246 = .ok (.iload_n 3, 1) := by decide +kernel
theorem dL_law_247 : decode cL_law 247 = .ok (.iconst 1, 1) := by decide +kernel
theorem dL_law_248 : decode cL_law 248 = .ok (.iadd, 1) := by decide +kernel
theorem dL_law_249 : decode cL_law 249 = .ok (.iaload, 1) := by decide +kernel
theorem dL_law_250 : decode cL_law 250 = .ok (.aload_n 0, 1) := by decide +kernel
theorem dL_law_251 : decode cL_law 251 = .ok (.iload_n 3, 1) := by decide +kernel
theorem dL_law_252 : decode cL_law 252 = .ok (.iconst 2, 1) := by decide +kernel
theorem dL_law_253 : decode cL_law 253 = .ok (.iadd, 1) := by decide +kernel
theorem dL_law_254 : decode cL_law 254 = .ok (.iaload, 1) := by decide +kernel
theorem dL_law_255 : decode cL_law 255 = .ok (.invokevirtual 35, 3) := by decide +kernel
theorem dL_law_258 : decode cL_law 258 = .ok (.if_icmp .eq 506, 3) := by decide +kernel
theorem dL_law_261 : decode cL_law 261 = .ok (.iconst 0, 1) := by decide +kernel
theorem dL_law_262 : decode cL_law 262 = .ok (.ireturn, 1) := by decide +kernel
theorem dL_law_263 : decode cL_law 263 = .ok (.aload_n 1, 1) := by decide +kernel
theorem dL_law_264 : decode cL_law 264 = .ok (.aload_n 0, 1) := by decide +kernel
theorem dL_law_265 : decode cL_law 265 = .ok (.iload_n 3, 1) := by decide +kernel
theorem dL_law_266 : decode cL_law 266 = .ok (.iconst 1, 1) := by decide +kernel
theorem dL_law_267 : decode cL_law 267 = .ok (.iadd, 1) := by decide +kernel
theorem dL_law_268 : decode cL_law 268 = .ok (.iaload, 1) := by decide +kernel
theorem dL_law_269 : decode cL_law 269 = .ok (.invokevirtual 36, 3) := by decide +kernel
theorem dL_law_272 : decode cL_law 272 = .ok (.aload_n 2, 1) := by decide +kernel
theorem dL_law_273 : decode cL_law 273 = .ok (.aload_n 0, 1) := by decide +kernel
theorem dL_law_274 : decode cL_law 274 = .ok (.iload_n 3, 1) := by decide +kernel
theorem dL_law_275 : decode cL_law 275 = .ok (.iconst 1, 1) := by decide +kernel
theorem dL_law_276 : decode cL_law 276 = .ok (.iadd, 1) := by decide +kernel
theorem dL_law_277 : decode cL_law 277 = .ok (.iaload, 1) := by decide +kernel
theorem dL_law_278 : decode cL_law 278 = .ok (.invokevirtual 39, 3) := by decide +kernel
theorem dL_law_281 : decode cL_law 281 = .ok (.if_icmp .eq 483, 3) := by decide +kernel
theorem dL_law_284 : decode cL_law 284 = .ok (.iconst 0, 1) := by decide +kernel
theorem dL_law_285 : decode cL_law 285 = .ok (.ireturn, 1) := by decide +kernel
theorem dL_law_286 : decode cL_law 286 = .ok (.aload_n 1, 1) := by decide +kernel
theorem dL_law_287 : decode cL_law 287 = .ok (.aload_n 0, 1) := by decide +kernel
theorem dL_law_288 : decode cL_law 288 = .ok (.iload_n 3, 1) := by decide +kernel
theorem dL_law_289 : decode cL_law 289 = .ok (.iconst 1, 1) := by decide +kernel
theorem dL_law_290 : decode cL_law 290 = .ok (.iadd, 1) := by decide +kernel
theorem dL_law_291 : decode cL_law 291 = .ok (.iaload, 1) := by decide +kernel
theorem dL_law_292 : decode cL_law 292 = .ok (.aload_n 0, 1) := by decide +kernel
theorem dL_law_293 : decode cL_law 293 = .ok (.iload_n 3, 1) := by decide +kernel
theorem dL_law_294 : decode cL_law 294 = .ok (.iconst 2, 1) := by decide +kernel
theorem dL_law_295 : decode cL_law 295 = .ok (.iadd, 1) := by decide +kernel
theorem dL_law_296 : decode cL_law 296 = .ok (.iaload, 1) := by decide +kernel
theorem dL_law_297 : decode cL_law 297 = .ok (.invokevirtual 40, 3) := by decide +kernel
theorem dL_law_300 : decode cL_law 300 = .ok (.aload_n 2, 1) := by decide +kernel
theorem dL_law_301 : decode cL_law 301 = .ok (.aload_n 0, 1) := by decide +kernel
theorem dL_law_302 : decode cL_law 302 = .ok (.iload_n 3, 1) := by decide +kernel
theorem dL_law_303 : decode cL_law 303 = .ok (.iconst 1, 1) := by decide +kernel
theorem dL_law_304 : decode cL_law 304 = .ok (.iadd, 1) := by decide +kernel
theorem dL_law_305 : decode cL_law 305 = .ok (.iaload, 1) := by decide +kernel
theorem dL_law_306 : decode cL_law 306 = .ok (.aload_n 0, 1) := by decide +kernel
theorem dL_law_307 : decode cL_law 307 = .ok (.iload_n 3, 1) := by decide +kernel
theorem dL_law_308 : decode cL_law 308 = .ok (.iconst 2, 1) := by decide +kernel
theorem dL_law_309 : decode cL_law 309 = .ok (.iadd, 1) := by decide +kernel
theorem dL_law_310 : decode cL_law 310 = .ok (.iaload, 1) := by decide +kernel
theorem dL_law_311 : decode cL_law 311 = .ok (.invokevirtual 43, 3) := by decide +kernel
theorem dL_law_314 : decode cL_law 314 = .ok (.if_icmp .eq 450, 3) := by decide +kernel
theorem dL_law_317 : decode cL_law 317 = .ok (.iconst 0, 1) := by decide +kernel
theorem dL_law_318 : decode cL_law 318 = .ok (.ireturn, 1) := by decide +kernel
theorem dL_law_319 : decode cL_law 319 = .ok (.aload_n 1, 1) := by decide +kernel
theorem dL_law_320 : decode cL_law 320 = .ok (.aload_n 0, 1) := by decide +kernel
theorem dL_law_321 : decode cL_law 321 = .ok (.iload_n 3, 1) := by decide +kernel
theorem dL_law_322 : decode cL_law 322 = .ok (.iconst 1, 1) := by decide +kernel
theorem dL_law_323 : decode cL_law 323 = .ok (.iadd, 1) := by decide +kernel
theorem dL_law_324 : decode cL_law 324 = .ok (.iaload, 1) := by decide +kernel
theorem dL_law_325 : decode cL_law 325 = .ok (.aload_n 0, 1) := by decide +kernel
theorem dL_law_326 : decode cL_law 326 = .ok (.iload_n 3, 1) := by decide +kernel
theorem dL_law_327 : decode cL_law 327 = .ok (.iconst 2, 1) := by decide +kernel
theorem dL_law_328 : decode cL_law 328 = .ok (.iadd, 1) := by decide +kernel
theorem dL_law_329 : decode cL_law 329 = .ok (.iaload, 1) := by decide +kernel
theorem dL_law_330 : decode cL_law 330 = .ok (.invokevirtual 44, 3) := by decide +kernel
theorem dL_law_333 : decode cL_law 333 = .ok (.aload_n 2, 1) := by decide +kernel
theorem dL_law_334 : decode cL_law 334 = .ok (.aload_n 0, 1) := by decide +kernel
theorem dL_law_335 : decode cL_law 335 = .ok (.iload_n 3, 1) := by decide +kernel
theorem dL_law_336 : decode cL_law 336 = .ok (.iconst 1, 1) := by decide +kernel
theorem dL_law_337 : decode cL_law 337 = .ok (.iadd, 1) := by decide +kernel
theorem dL_law_338 : decode cL_law 338 = .ok (.iaload, 1) := by decide +kernel
theorem dL_law_339 : decode cL_law 339 = .ok (.aload_n 0, 1) := by decide +kernel
theorem dL_law_340 : decode cL_law 340 = .ok (.iload_n 3, 1) := by decide +kernel
theorem dL_law_341 : decode cL_law 341 = .ok (.iconst 2, 1) := by decide +kernel
theorem dL_law_342 : decode cL_law 342 = .ok (.iadd, 1) := by decide +kernel
theorem dL_law_343 : decode cL_law 343 = .ok (.iaload, 1) := by decide +kernel
theorem dL_law_344 : decode cL_law 344 = .ok (.invokevirtual 47, 3) := by decide +kernel
theorem dL_law_347 : decode cL_law 347 = .ok (.if_icmp .eq 417, 3) := by decide +kernel
theorem dL_law_350 : decode cL_law 350 = .ok (.iconst 0, 1) := by decide +kernel
theorem dL_law_351 : decode cL_law 351 = .ok (.ireturn, 1) := by decide +kernel
theorem dL_law_352 : decode cL_law 352 = .ok (.aload_n 1, 1) := by decide +kernel
theorem dL_law_353 : decode cL_law 353 = .ok (.aload_n 0, 1) := by decide +kernel
theorem dL_law_354 : decode cL_law 354 = .ok (.iload_n 3, 1) := by decide +kernel
theorem dL_law_355 : decode cL_law 355 = .ok (.iconst 1, 1) := by decide +kernel
theorem dL_law_356 : decode cL_law 356 = .ok (.iadd, 1) := by decide +kernel
theorem dL_law_357 : decode cL_law 357 = .ok (.iaload, 1) := by decide +kernel
theorem dL_law_358 : decode cL_law 358 = .ok (.aload_n 0, 1) := by decide +kernel
theorem dL_law_359 : decode cL_law 359 = .ok (.iload_n 3, 1) := by decide +kernel
theorem dL_law_360 : decode cL_law 360 = .ok (.iconst 2, 1) := by decide +kernel
theorem dL_law_361 : decode cL_law 361 = .ok (.iadd, 1) := by decide +kernel
theorem dL_law_362 : decode cL_law 362 = .ok (.iaload, 1) := by decide +kernel
theorem dL_law_363 : decode cL_law 363 = .ok (.invokevirtual 48, 3) := by decide +kernel
theorem dL_law_366 : decode cL_law 366 = .ok (.aload_n 2, 1) := by decide +kernel
theorem dL_law_367 : decode cL_law 367 = .ok (.aload_n 0, 1) := by decide +kernel
theorem dL_law_368 : decode cL_law 368 = .ok (.iload_n 3, 1) := by decide +kernel
theorem dL_law_369 : decode cL_law 369 = .ok (.iconst 1, 1) := by decide +kernel
theorem dL_law_370 : decode cL_law 370 = .ok (.iadd, 1) := by decide +kernel
theorem dL_law_371 : decode cL_law 371 = .ok (.iaload, 1) := by decide +kernel
theorem dL_law_372 : decode cL_law 372 = .ok (.aload_n 0, 1) := by decide +kernel
theorem dL_law_373 : decode cL_law 373 = .ok (.iload_n 3, 1) := by decide +kernel
theorem dL_law_374 : decode cL_law 374 = .ok (.iconst 2, 1) := by decide +kernel
theorem dL_law_375 : decode cL_law 375 = .ok (.iadd, 1) := by decide +kernel
theorem dL_law_376 : decode cL_law 376 = .ok (.iaload, 1) := by decide +kernel
theorem dL_law_377 : decode cL_law 377 = .ok (.invokevirtual 51, 3) := by decide +kernel
theorem dL_law_380 : decode cL_law 380 = .ok (.if_icmp .eq 384, 3) := by decide +kernel
theorem dL_law_383 : decode cL_law 383 = .ok (.iconst 0, 1) := by decide +kernel
theorem dL_law_384 : decode cL_law 384 = .ok (.ireturn, 1) := by decide +kernel
theorem dL_law_385 : decode cL_law 385 = .ok (.aload_n 1, 1) := by decide +kernel
theorem dL_law_386 : decode cL_law 386 = .ok (.invokevirtual 52, 3) := by decide +kernel
theorem dL_law_389 : decode cL_law 389 = .ok (.aload_n 2, 1) := by decide +kernel
theorem dL_law_390 : decode cL_law 390 = .ok (.invokevirtual 55, 3) := by decide +kernel
theorem dL_law_393 : decode cL_law 393 = .ok (.if_icmp .eq 371, 3) := by decide +kernel
theorem dL_law_396 : decode cL_law 396 = .ok (.iconst 0, 1) := by decide +kernel
theorem dL_law_397 : decode cL_law 397 = .ok (.ireturn, 1) := by decide +kernel
theorem dL_law_398 : decode cL_law 398 = .ok (.aload_n 1, 1) := by decide +kernel
theorem dL_law_399 : decode cL_law 399 = .ok (.aload_n 0, 1) := by decide +kernel
theorem dL_law_400 : decode cL_law 400 = .ok (.iload_n 3, 1) := by decide +kernel
theorem dL_law_401 : decode cL_law 401 = .ok (.iconst 1, 1) := by decide +kernel
theorem dL_law_402 : decode cL_law 402 = .ok (.iadd, 1) := by decide +kernel
theorem dL_law_403 : decode cL_law 403 = .ok (.iaload, 1) := by decide +kernel
theorem dL_law_404 : decode cL_law 404 = .ok (.aload_n 0, 1) := by decide +kernel
theorem dL_law_405 : decode cL_law 405 = .ok (.iload_n 3, 1) := by decide +kernel
theorem dL_law_406 : decode cL_law 406 = .ok (.iconst 2, 1) := by decide +kernel
theorem dL_law_407 : decode cL_law 407 = .ok (.iadd, 1) := by decide +kernel
theorem dL_law_408 : decode cL_law 408 = .ok (.iaload, 1) := by decide +kernel
theorem dL_law_409 : decode cL_law 409 = .ok (.invokevirtual 56, 3) := by decide +kernel
theorem dL_law_412 : decode cL_law 412 = .ok (.aload_n 2, 1) := by decide +kernel
theorem dL_law_413 : decode cL_law 413 = .ok (.aload_n 0, 1) := by decide +kernel
theorem dL_law_414 : decode cL_law 414 = .ok (.iload_n 3, 1) := by decide +kernel
theorem dL_law_415 : decode cL_law 415 = .ok (.iconst 1, 1) := by decide +kernel
theorem dL_law_416 : decode cL_law 416 = .ok (.iadd, 1) := by decide +kernel
theorem dL_law_417 : decode cL_law 417 = .ok (.iaload, 1) := by decide +kernel
theorem dL_law_418 : decode cL_law 418 = .ok (.aload_n 0, 1) := by decide +kernel
theorem dL_law_419 : decode cL_law 419 = .ok (.iload_n 3, 1) := by decide +kernel
theorem dL_law_420 : decode cL_law 420 = .ok (.iconst 2, 1) := by decide +kernel
theorem dL_law_421 : decode cL_law 421 = .ok (.iadd, 1) := by decide +kernel
theorem dL_law_422 : decode cL_law 422 = .ok (.iaload, 1) := by decide +kernel
theorem dL_law_423 : decode cL_law 423 = .ok (.invokevirtual 59, 3) := by decide +kernel
theorem dL_law_426 : decode cL_law 426 = .ok (.if_icmp .eq 338, 3) := by decide +kernel
theorem dL_law_429 : decode cL_law 429 = .ok (.iconst 0, 1) := by decide +kernel
theorem dL_law_430 : decode cL_law 430 = .ok (.ireturn, 1) := by decide +kernel
theorem dL_law_431 : decode cL_law 431 = .ok (.aload_n 1, 1) := by decide +kernel
theorem dL_law_432 : decode cL_law 432 = .ok (.aload_n 0, 1) := by decide +kernel
theorem dL_law_433 : decode cL_law 433 = .ok (.iload_n 3, 1) := by decide +kernel
theorem dL_law_434 : decode cL_law 434 = .ok (.iconst 1, 1) := by decide +kernel
theorem dL_law_435 : decode cL_law 435 = .ok (.iadd, 1) := by decide +kernel
theorem dL_law_436 : decode cL_law 436 = .ok (.iaload, 1) := by decide +kernel
theorem dL_law_437 : decode cL_law 437 = .ok (.invokevirtual 60, 3) := by decide +kernel
theorem dL_law_440 : decode cL_law 440 = .ok (.aload_n 2, 1) := by decide +kernel
theorem dL_law_441 : decode cL_law 441 = .ok (.aload_n 0, 1) := by decide +kernel
theorem dL_law_442 : decode cL_law 442 = .ok (.iload_n 3, 1) := by decide +kernel
theorem dL_law_443 : decode cL_law 443 = .ok (.iconst 1, 1) := by decide +kernel
theorem dL_law_444 : decode cL_law 444 = .ok (.iadd, 1) := by decide +kernel
theorem dL_law_445 : decode cL_law 445 = .ok (.iaload, 1) := by decide +kernel
theorem dL_law_446 : decode cL_law 446 = .ok (.invokevirtual 63, 3) := by decide +kernel
theorem dL_law_449 : decode cL_law 449 = .ok (.if_icmp .eq 315, 3) := by decide +kernel
theorem dL_law_452 : decode cL_law 452 = .ok (.iconst 0, 1) := by decide +kernel
theorem dL_law_453 : decode cL_law 453 = .ok (.ireturn, 1) := by decide +kernel
theorem dL_law_454 : decode cL_law 454 = .ok (.aload_n 1, 1) := by decide +kernel
theorem dL_law_455 : decode cL_law 455 = .ok (.aload_n 0, 1) := by decide +kernel
theorem dL_law_456 : decode cL_law 456 = .ok (.iload_n 3, 1) := by decide +kernel
theorem dL_law_457 : decode cL_law 457 = .ok (.iconst 1, 1) := by decide +kernel
theorem dL_law_458 : decode cL_law 458 = .ok (.iadd, 1) := by decide +kernel
theorem dL_law_459 : decode cL_law 459 = .ok (.iaload, 1) := by decide +kernel
theorem dL_law_460 : decode cL_law 460 = .ok (.aload_n 0, 1) := by decide +kernel
theorem dL_law_461 : decode cL_law 461 = .ok (.iload_n 3, 1) := by decide +kernel
theorem dL_law_462 : decode cL_law 462 = .ok (.iconst 2, 1) := by decide +kernel
theorem dL_law_463 : decode cL_law 463 = .ok (.iadd, 1) := by decide +kernel
theorem dL_law_464 : decode cL_law 464 = .ok (.iaload, 1) := by decide +kernel
theorem dL_law_465 : decode cL_law 465 = .ok (.aload_n 0, 1) := by decide +kernel
theorem dL_law_466 : decode cL_law 466 = .ok (.iload_n 3, 1) := by decide +kernel
theorem dL_law_467 : decode cL_law 467 = .ok (.iconst 3, 1) := by decide +kernel
theorem dL_law_468 : decode cL_law 468 = .ok (.iadd, 1) := by decide +kernel
theorem dL_law_469 : decode cL_law 469 = .ok (.iaload, 1) := by decide +kernel
theorem dL_law_470 : decode cL_law 470 = .ok (.invokevirtual 64, 3) := by decide +kernel
theorem dL_law_473 : decode cL_law 473 = .ok (.aload_n 2, 1) := by decide +kernel
theorem dL_law_474 : decode cL_law 474 = .ok (.aload_n 0, 1) := by decide +kernel
theorem dL_law_475 : decode cL_law 475 = .ok (.iload_n 3, 1) := by decide +kernel
theorem dL_law_476 : decode cL_law 476 = .ok (.iconst 1, 1) := by decide +kernel
theorem dL_law_477 : decode cL_law 477 = .ok (.iadd, 1) := by decide +kernel
theorem dL_law_478 : decode cL_law 478 = .ok (.iaload, 1) := by decide +kernel
theorem dL_law_479 : decode cL_law 479 = .ok (.aload_n 0, 1) := by decide +kernel
theorem dL_law_480 : decode cL_law 480 = .ok (.iload_n 3, 1) := by decide +kernel
theorem dL_law_481 : decode cL_law 481 = .ok (.iconst 2, 1) := by decide +kernel
theorem dL_law_482 : decode cL_law 482 = .ok (.iadd, 1) := by decide +kernel
theorem dL_law_483 : decode cL_law 483 = .ok (.iaload, 1) := by decide +kernel
theorem dL_law_484 : decode cL_law 484 = .ok (.aload_n 0, 1) := by decide +kernel
theorem dL_law_485 : decode cL_law 485 = .ok (.iload_n 3, 1) := by decide +kernel
theorem dL_law_486 : decode cL_law 486 = .ok (.iconst 3, 1) := by decide +kernel
theorem dL_law_487 : decode cL_law 487 = .ok (.iadd, 1) := by decide +kernel
theorem dL_law_488 : decode cL_law 488 = .ok (.iaload, 1) := by decide +kernel
theorem dL_law_489 : decode cL_law 489 = .ok (.invokevirtual 68, 3) := by decide +kernel
theorem dL_law_492 : decode cL_law 492 = .ok (.if_icmp .eq 272, 3) := by decide +kernel
theorem dL_law_495 : decode cL_law 495 = .ok (.iconst 0, 1) := by decide +kernel
theorem dL_law_496 : decode cL_law 496 = .ok (.ireturn, 1) := by decide +kernel
theorem dL_law_497 : decode cL_law 497 = .ok (.aload_n 1, 1) := by decide +kernel
theorem dL_law_498 : decode cL_law 498 = .ok (.aload_n 0, 1) := by decide +kernel
theorem dL_law_499 : decode cL_law 499 = .ok (.iload_n 3, 1) := by decide +kernel
theorem dL_law_500 : decode cL_law 500 = .ok (.iconst 1, 1) := by decide +kernel
theorem dL_law_501 : decode cL_law 501 = .ok (.iadd, 1) := by decide +kernel
theorem dL_law_502 : decode cL_law 502 = .ok (.iaload, 1) := by decide +kernel
theorem dL_law_503 : decode cL_law 503 = .ok (.aload_n 0, 1) := by decide +kernel
theorem dL_law_504 : decode cL_law 504 = .ok (.iload_n 3, 1) := by decide +kernel
theorem dL_law_505 : decode cL_law 505 = .ok (.iconst 2, 1) := by decide +kernel
theorem dL_law_506 : decode cL_law 506 = .ok (.iadd, 1) := by decide +kernel
theorem dL_law_507 : decode cL_law 507 = .ok (.iaload, 1) := by decide +kernel
theorem dL_law_508 : decode cL_law 508 = .ok (.invokevirtual 69, 3) := by decide +kernel
theorem dL_law_511 : decode cL_law 511 = .ok (.aload_n 2, 1) := by decide +kernel
theorem dL_law_512 : decode cL_law 512 = .ok (.aload_n 0, 1) := by decide +kernel
theorem dL_law_513 : decode cL_law 513 = .ok (.iload_n 3, 1) := by decide +kernel
theorem dL_law_514 : decode cL_law 514 = .ok (.iconst 1, 1) := by decide +kernel
theorem dL_law_515 : decode cL_law 515 = .ok (.iadd, 1) := by decide +kernel
theorem dL_law_516 : decode cL_law 516 = .ok (.iaload, 1) := by decide +kernel
theorem dL_law_517 : decode cL_law 517 = .ok (.aload_n 0, 1) := by decide +kernel
theorem dL_law_518 : decode cL_law 518 = .ok (.iload_n 3, 1) := by decide +kernel
theorem dL_law_519 : decode cL_law 519 = .ok (.iconst 2, 1) := by decide +kernel
theorem dL_law_520 : decode cL_law 520 = .ok (.iadd, 1) := by decide +kernel
theorem dL_law_521 : decode cL_law 521 = .ok (.iaload, 1) := by decide +kernel
theorem dL_law_522 : decode cL_law 522 = .ok (.invokevirtual 72, 3) := by decide +kernel
theorem dL_law_525 : decode cL_law 525 = .ok (.if_icmp .eq 239, 3) := by decide +kernel
theorem dL_law_528 : decode cL_law 528 = .ok (.iconst 0, 1) := by decide +kernel
theorem dL_law_529 : decode cL_law 529 = .ok (.ireturn, 1) := by decide +kernel
theorem dL_law_530 : decode cL_law 530 = .ok (.aload_n 1, 1) := by decide +kernel
theorem dL_law_531 : decode cL_law 531 = .ok (.aload_n 0, 1) := by decide +kernel
theorem dL_law_532 : decode cL_law 532 = .ok (.iload_n 3, 1) := by decide +kernel
theorem dL_law_533 : decode cL_law 533 = .ok (.iconst 1, 1) := by decide +kernel
theorem dL_law_534 : decode cL_law 534 = .ok (.iadd, 1) := by decide +kernel
theorem dL_law_535 : decode cL_law 535 = .ok (.iaload, 1) := by decide +kernel
theorem dL_law_536 : decode cL_law 536 = .ok (.invokevirtual 73, 3) := by decide +kernel
theorem dL_law_539 : decode cL_law 539 = .ok (.aload_n 2, 1) := by decide +kernel
theorem dL_law_540 : decode cL_law 540 = .ok (.aload_n 0, 1) := by decide +kernel
theorem dL_law_541 : decode cL_law 541 = .ok (.iload_n 3, 1) := by decide +kernel
theorem dL_law_542 : decode cL_law 542 = .ok (.iconst 1, 1) := by decide +kernel
theorem dL_law_543 : decode cL_law 543 = .ok (.iadd, 1) := by decide +kernel
theorem dL_law_544 : decode cL_law 544 = .ok (.iaload, 1) := by decide +kernel
theorem dL_law_545 : decode cL_law 545 = .ok (.invokevirtual 76, 3) := by decide +kernel
theorem dL_law_548 : decode cL_law 548 = .ok (.if_icmp .eq 216, 3) := by decide +kernel
theorem dL_law_551 : decode cL_law 551 = .ok (.iconst 0, 1) := by decide +kernel
theorem dL_law_552 : decode cL_law 552 = .ok (.ireturn, 1) := by decide +kernel
theorem dL_law_553 : decode cL_law 553 = .ok (.aload_n 1, 1) := by decide +kernel
theorem dL_law_554 : decode cL_law 554 = .ok (.invokevirtual 77, 3) := by decide +kernel
theorem dL_law_557 : decode cL_law 557 = .ok (.aload_n 2, 1) := by decide +kernel
theorem dL_law_558 : decode cL_law 558 = .ok (.invokevirtual 80, 3) := by decide +kernel
theorem dL_law_561 : decode cL_law 561 = .ok (.if_icmp .eq 203, 3) := by decide +kernel
theorem dL_law_564 : decode cL_law 564 = .ok (.iconst 0, 1) := by decide +kernel
theorem dL_law_565 : decode cL_law 565 = .ok (.ireturn, 1) := by decide +kernel
theorem dL_law_566 : decode cL_law 566 = .ok (.aload_n 1, 1) := by decide +kernel
theorem dL_law_567 : decode cL_law 567 = .ok (.aload_n 0, 1) := by decide +kernel
theorem dL_law_568 : decode cL_law 568 = .ok (.iload_n 3, 1) := by decide +kernel
theorem dL_law_569 : decode cL_law 569 = .ok (.iconst 1, 1) := by decide +kernel
theorem dL_law_570 : decode cL_law 570 = .ok (.iadd, 1) := by decide +kernel
theorem dL_law_571 : decode cL_law 571 = .ok (.iaload, 1) := by decide +kernel
theorem dL_law_572 : decode cL_law 572 = .ok (.aload_n 0, 1) := by decide +kernel
theorem dL_law_573 : decode cL_law 573 = .ok (.iload_n 3, 1) := by decide +kernel
theorem dL_law_574 : decode cL_law 574 = .ok (.iconst 2, 1) := by decide +kernel
theorem dL_law_575 : decode cL_law 575 = .ok (.iadd, 1) := by decide +kernel
theorem dL_law_576 : decode cL_law 576 = .ok (.iaload, 1) := by decide +kernel
theorem dL_law_577 : decode cL_law 577 = .ok (.invokevirtual 81, 3) := by decide +kernel
theorem dL_law_580 : decode cL_law 580 = .ok (.aload_n 2, 1) := by decide +kernel
theorem dL_law_581 : decode cL_law 581 = .ok (.aload_n 0, 1) := by decide +kernel
theorem dL_law_582 : decode cL_law 582 = .ok (.iload_n 3, 1) := by decide +kernel
theorem dL_law_583 : decode cL_law 583 = .ok (.iconst 1, 1) := by decide +kernel
theorem dL_law_584 : decode cL_law 584 = .ok (.iadd, 1) := by decide +kernel
theorem dL_law_585 : decode cL_law 585 = .ok (.iaload, 1) := by decide +kernel
theorem dL_law_586 : decode cL_law 586 = .ok (.aload_n 0, 1) := by decide +kernel
theorem dL_law_587 : decode cL_law 587 = .ok (.iload_n 3, 1) := by decide +kernel
theorem dL_law_588 : decode cL_law 588 = .ok (.iconst 2, 1) := by decide +kernel
theorem dL_law_589 : decode cL_law 589 = .ok (.iadd, 1) := by decide +kernel
theorem dL_law_590 : decode cL_law 590 = .ok (.iaload, 1) := by decide +kernel
theorem dL_law_591 : decode cL_law 591 = .ok (.invokevirtual 84, 3) := by decide +kernel
theorem dL_law_594 : decode cL_law 594 = .ok (.if_icmp .eq 170, 3) := by decide +kernel
theorem dL_law_597 : decode cL_law 597 = .ok (.iconst 0, 1) := by decide +kernel
theorem dL_law_598 : decode cL_law 598 = .ok (.ireturn, 1) := by decide +kernel
theorem dL_law_599 : decode cL_law 599 = .ok (.aload_n 1, 1) := by decide +kernel
theorem dL_law_600 : decode cL_law 600 = .ok (.invokevirtual 85, 3) := by decide +kernel
theorem dL_law_603 : decode cL_law 603 = .ok (.aload_n 2, 1) := by decide +kernel
theorem dL_law_604 : decode cL_law 604 = .ok (.invokevirtual 88, 3) := by decide +kernel
theorem dL_law_607 : decode cL_law 607 = .ok (.if_icmp .eq 157, 3) := by decide +kernel
theorem dL_law_610 : decode cL_law 610 = .ok (.iconst 0, 1) := by decide +kernel
theorem dL_law_611 : decode cL_law 611 = .ok (.ireturn, 1) := by decide +kernel
theorem dL_law_612 : decode cL_law 612 = .ok (.aload_n 1, 1) := by decide +kernel
theorem dL_law_613 : decode cL_law 613 = .ok (.invokevirtual 89, 3) := by decide +kernel
theorem dL_law_616 : decode cL_law 616 = .ok (.aload_n 2, 1) := by decide +kernel
theorem dL_law_617 : decode cL_law 617 = .ok (.invokevirtual 92, 3) := by decide +kernel
theorem dL_law_620 : decode cL_law 620 = .ok (.if_icmp .eq 144, 3) := by decide +kernel
theorem dL_law_623 : decode cL_law 623 = .ok (.iconst 0, 1) := by decide +kernel
theorem dL_law_624 : decode cL_law 624 = .ok (.ireturn, 1) := by decide +kernel
theorem dL_law_625 : decode cL_law 625 = .ok (.aload_n 1, 1) := by decide +kernel
theorem dL_law_626 : decode cL_law 626 = .ok (.aload_n 0, 1) := by decide +kernel
theorem dL_law_627 : decode cL_law 627 = .ok (.iload_n 3, 1) := by decide +kernel
theorem dL_law_628 : decode cL_law 628 = .ok (.iconst 1, 1) := by decide +kernel
theorem dL_law_629 : decode cL_law 629 = .ok (.iadd, 1) := by decide +kernel
theorem dL_law_630 : decode cL_law 630 = .ok (.iaload, 1) := by decide +kernel
theorem dL_law_631 : decode cL_law 631 = .ok (.invokevirtual 93, 3) := by decide +kernel
theorem dL_law_634 : decode cL_law 634 = .ok (.aload_n 2, 1) := by decide +kernel
theorem dL_law_635 : decode cL_law 635 = .ok (.aload_n 0, 1) := by decide +kernel
theorem dL_law_636 : decode cL_law 636 = .ok (.iload_n 3, 1) := by decide +kernel
theorem dL_law_637 : decode cL_law 637 = .ok (.iconst 1, 1) := by decide +kernel
theorem dL_law_638 : decode cL_law 638 = .ok (.iadd, 1) := by decide +kernel
theorem dL_law_639 : decode cL_law 639 = .ok (.iaload, 1) := by decide +kernel
theorem dL_law_640 : decode cL_law 640 = .ok (.invokevirtual 96, 3) := by decide +kernel
theorem dL_law_643 : decode cL_law 643 = .ok (.if_icmp .eq 121, 3) := by decide +kernel
theorem dL_law_646 : decode cL_law 646 = .ok (.iconst 0, 1) := by decide +kernel
theorem dL_law_647 : decode cL_law 647 = .ok (.ireturn, 1) := by decide +kernel
theorem dL_law_648 : decode cL_law 648 = .ok (.aload_n 1, 1) := by decide +kernel
theorem dL_law_649 : decode cL_law 649 = .ok (.aload_n 0, 1) := by decide +kernel
theorem dL_law_650 : decode cL_law 650 = .ok (.iload_n 3, 1) := by decide +kernel
theorem dL_law_651 : decode cL_law 651 = .ok (.iconst 1, 1) := by decide +kernel
theorem dL_law_652 : decode cL_law 652 = .ok (.iadd, 1) := by decide +kernel
theorem dL_law_653 : decode cL_law 653 = .ok (.iaload, 1) := by decide +kernel
theorem dL_law_654 : decode cL_law 654 = .ok (.aload_n 0, 1) := by decide +kernel
theorem dL_law_655 : decode cL_law 655 = .ok (.iload_n 3, 1) := by decide +kernel
theorem dL_law_656 : decode cL_law 656 = .ok (.iconst 2, 1) := by decide +kernel
theorem dL_law_657 : decode cL_law 657 = .ok (.iadd, 1) := by decide +kernel
theorem dL_law_658 : decode cL_law 658 = .ok (.iaload, 1) := by decide +kernel
theorem dL_law_659 : decode cL_law 659 = .ok (.invokevirtual 97, 3) := by decide +kernel
theorem dL_law_662 : decode cL_law 662 = .ok (.aload_n 2, 1) := by decide +kernel
theorem dL_law_663 : decode cL_law 663 = .ok (.aload_n 0, 1) := by decide +kernel
theorem dL_law_664 : decode cL_law 664 = .ok (.iload_n 3, 1) := by decide +kernel
theorem dL_law_665 : decode cL_law 665 = .ok (.iconst 1, 1) := by decide +kernel
theorem dL_law_666 : decode cL_law 666 = .ok (.iadd, 1) := by decide +kernel
theorem dL_law_667 : decode cL_law 667 = .ok (.iaload, 1) := by decide +kernel
theorem dL_law_668 : decode cL_law 668 = .ok (.aload_n 0, 1) := by decide +kernel
theorem dL_law_669 : decode cL_law 669 = .ok (.iload_n 3, 1) := by decide +kernel
theorem dL_law_670 : decode cL_law 670 = .ok (.iconst 2, 1) := by decide +kernel
theorem dL_law_671 : decode cL_law 671 = .ok (.iadd, 1) := by decide +kernel
theorem dL_law_672 : decode cL_law 672 = .ok (.iaload, 1) := by decide +kernel
theorem dL_law_673 : decode cL_law 673 = .ok (.invokevirtual 100, 3) := by decide +kernel
theorem dL_law_676 : decode cL_law 676 = .ok (.if_icmp .eq 88, 3) := by decide +kernel
theorem dL_law_679 : decode cL_law 679 = .ok (.iconst 0, 1) := by decide +kernel
theorem dL_law_680 : decode cL_law 680 = .ok (.ireturn, 1) := by decide +kernel
theorem dL_law_681 : decode cL_law 681 = .ok (.aload_n 1, 1) := by decide +kernel
theorem dL_law_682 : decode cL_law 682 = .ok (.aload_n 0, 1) := by decide +kernel
theorem dL_law_683 : decode cL_law 683 = .ok (.iload_n 3, 1) := by decide +kernel
theorem dL_law_684 : decode cL_law 684 = .ok (.iconst 1, 1) := by decide +kernel
theorem dL_law_685 : decode cL_law 685 = .ok (.iadd, 1) := by decide +kernel
theorem dL_law_686 : decode cL_law 686 = .ok (.iaload, 1) := by decide +kernel
theorem dL_law_687 : decode cL_law 687 = .ok (.invokevirtual 101, 3) := by decide +kernel
theorem dL_law_690 : decode cL_law 690 = .ok (.aload_n 2, 1) := by decide +kernel
theorem dL_law_691 : decode cL_law 691 = .ok (.aload_n 0, 1) := by decide +kernel
theorem dL_law_692 : decode cL_law 692 = .ok (.iload_n 3, 1) := by decide +kernel
theorem dL_law_693 : decode cL_law 693 = .ok (.iconst 1, 1) := by decide +kernel
theorem dL_law_694 : decode cL_law 694 = .ok (.iadd, 1) := by decide +kernel
theorem dL_law_695 : decode cL_law 695 = .ok (.iaload, 1) := by decide +kernel
theorem dL_law_696 : decode cL_law 696 = .ok (.invokevirtual 104, 3) := by decide +kernel
theorem dL_law_699 : decode cL_law 699 = .ok (.if_icmp .eq 65, 3) := by decide +kernel
theorem dL_law_702 : decode cL_law 702 = .ok (.iconst 0, 1) := by decide +kernel
theorem dL_law_703 : decode cL_law 703 = .ok (.ireturn, 1) := by decide +kernel
theorem dL_law_704 : decode cL_law 704 = .ok (.aload_n 1, 1) := by decide +kernel
theorem dL_law_705 : decode cL_law 705 = .ok (.aload_n 0, 1) := by decide +kernel
theorem dL_law_706 : decode cL_law 706 = .ok (.iload_n 3, 1) := by decide +kernel
theorem dL_law_707 : decode cL_law 707 = .ok (.iconst 1, 1) := by decide +kernel
theorem dL_law_708 : decode cL_law 708 = .ok (.iadd, 1) := by decide +kernel
theorem dL_law_709 : decode cL_law 709 = .ok (.iaload, 1) := by decide +kernel
theorem dL_law_710 : decode cL_law 710 = .ok (.invokevirtual 105, 3) := by decide +kernel
theorem dL_law_713 : decode cL_law 713 = .ok (.aload_n 2, 1) := by decide +kernel
theorem dL_law_714 : decode cL_law 714 = .ok (.aload_n 0, 1) := by decide +kernel
theorem dL_law_715 : decode cL_law 715 = .ok (.iload_n 3, 1) := by decide +kernel
theorem dL_law_716 : decode cL_law 716 = .ok (.iconst 1, 1) := by decide +kernel
theorem dL_law_717 : decode cL_law 717 = .ok (.iadd, 1) := by decide +kernel
theorem dL_law_718 : decode cL_law 718 = .ok (.iaload, 1) := by decide +kernel
theorem dL_law_719 : decode cL_law 719 = .ok (.invokevirtual 108, 3) := by decide +kernel
theorem dL_law_722 : decode cL_law 722 = .ok (.if_icmp .eq 42, 3) := by decide +kernel
theorem dL_law_725 : decode cL_law 725 = .ok (.iconst 0, 1) := by decide +kernel
theorem dL_law_726 : decode cL_law 726 = .ok (.ireturn, 1) := by decide +kernel
theorem dL_law_727 : decode cL_law 727 = .ok (.aload_n 1, 1) := by decide +kernel
theorem dL_law_728 : decode cL_law 728 = .ok (.aload_n 0, 1) := by decide +kernel
theorem dL_law_729 : decode cL_law 729 = .ok (.iload_n 3, 1) := by decide +kernel
theorem dL_law_730 : decode cL_law 730 = .ok (.iconst 1, 1) := by decide +kernel
theorem dL_law_731 : decode cL_law 731 = .ok (.iadd, 1) := by decide +kernel
theorem dL_law_732 : decode cL_law 732 = .ok (.iaload, 1) := by decide +kernel
theorem dL_law_733 : decode cL_law 733 = .ok (.invokevirtual 109, 3) := by decide +kernel
theorem dL_law_736 : decode cL_law 736 = .ok (.aload_n 2, 1) := by decide +kernel
theorem dL_law_737 : decode cL_law 737 = .ok (.aload_n 0, 1) := by decide +kernel
theorem dL_law_738 : decode cL_law 738 = .ok (.iload_n 3, 1) := by decide +kernel
theorem dL_law_739 : decode cL_law 739 = .ok (.iconst 1, 1) := by decide +kernel
theorem dL_law_740 : decode cL_law 740 = .ok (.iadd, 1) := by decide +kernel
theorem dL_law_741 : decode cL_law 741 = .ok (.iaload, 1) := by decide +kernel
theorem dL_law_742 : decode cL_law 742 = .ok (.invokevirtual 112, 3) := by decide +kernel
theorem dL_law_745 : decode cL_law 745 = .ok (.if_icmp .eq 19, 3) := by decide +kernel
theorem dL_law_748 : decode cL_law 748 = .ok (.iconst 0, 1) := by decide +kernel
theorem dL_law_749 : decode cL_law 749 = .ok (.ireturn, 1) := by decide +kernel
theorem dL_law_750 : decode cL_law 750 = .ok (.aload_n 1, 1) := by decide +kernel
theorem dL_law_751 : decode cL_law 751 = .ok (.invokevirtual 113, 3) := by decide +kernel
theorem dL_law_754 : decode cL_law 754 = .ok (.aload_n 2, 1) := by decide +kernel
theorem dL_law_755 : decode cL_law 755 = .ok (.invokevirtual 117, 3) := by decide +kernel
theorem dL_law_758 : decode cL_law 758 = .ok (.lcmp, 1) := by decide +kernel
theorem dL_law_759 : decode cL_law 759 = .ok (.ifCond .eq 5, 3) := by decide +kernel
theorem dL_law_762 : decode cL_law 762 = .ok (.iconst 0, 1) := by decide +kernel
theorem dL_law_763 : decode cL_law 763 = .ok (.ireturn, 1) := by decide +kernel
theorem dL_law_764 : decode cL_law 764 = .ok (.iinc 3 4, 3) := by decide +kernel
theorem dL_law_767 : decode cL_law 767 = .ok (.goto (-749), 3) := by decide +kernel
theorem dL_law_770 : decode cL_law 770 = .ok (.iconst 1, 1) := by decide +kernel
theorem dL_law_771 : decode cL_law 771 = .ok (.ireturn, 1) := by decide +kernel
end
section
theorem nI_and (a b : Nat) : nI a &&& nI b = nI (a &&& b) := by
  apply Int32.toBitVec_inj.mp
  simp [nI, Int32.toBitVec_and, Int32.toBitVec_ofNat', BitVec.ofNat_and]
theorem nI_or (a b : Nat) : nI a ||| nI b = nI (a ||| b) := by
  apply Int32.toBitVec_inj.mp
  simp [nI, Int32.toBitVec_or, Int32.toBitVec_ofNat', BitVec.ofNat_or]
theorem nI_xor (a b : Nat) : nI a ^^^ nI b = nI (a ^^^ b) := by
  apply Int32.toBitVec_inj.mp
  simp [nI, Int32.toBitVec_xor, Int32.toBitVec_ofNat', BitVec.ofNat_xor]
theorem nI_sh : ∀ n, n < 32 → ((nI n &&& 31).toBitVec.smod 32).toNat = n := by decide +kernel
theorem nI_shl (a b : Nat) (h : b < 32) (ha : a * 2 ^ b < 2 ^ 32) : nI a <<< (nI b &&& 31) = nI (a * 2 ^ b) := pk_shlN _ b (nI_sh b h) ha
theorem nI_shr (a b : Nat) (h : b < 32) (ha : a < 2 ^ 31) : nI a >>> (nI b &&& 31) = nI (a / 2 ^ b) := pk_shrN ha _ b (nI_sh b h)
theorem nI_ltz {a : Nat} (h : a < 2 ^ 31) : ¬ nI a < 0 := nI_pos h
theorem nI_eqz {a : Nat} (h : a < 2 ^ 31) : nI a = 0 ↔ a = 0 := by rw [← nI_0]; exact nI_eq h (by decide)
theorem nI_lez {a : Nat} (h : a < 2 ^ 31) : nI a ≤ 0 ↔ a = 0 := by rw [← nI_0, nI_leI h (by decide)]; omega
theorem nI_gtz {a : Nat} (h : a < 2 ^ 31) : 0 < nI a ↔ 0 < a := by rw [← nI_0, nI_ltI (by decide) h]
/-- a Nat of two values -/
abbrev bN (b : Bool) : Nat := b.toNat
theorem bN_lt (b : Bool) : bN b < 2 ^ 31 := by cases b <;> decide
theorem bN_0 {b : Bool} : bN b = 0 ↔ b = false := by cases b <;> decide
def nwS (U : State) : Prop := ∀ w ∈ nwl, va_Nw w U
theorem nwS_warm {s U : State} (hW : s.WarmedH U.vm) (h : nwS s) : nwS U := by
  intro w hw
  have hn : isNest w = true := (List.mem_filter.mp hw).2
  have h1 := h w hw
  cases w with
  | fieldLinkNest a i b n d h2 => exact va_Nw.warmF hW h1
  | methodLinkNest a i x h2 => exact va_Nw.warmM hW h1
  | _ => cases hn
theorem nwS_same {s U : State} (hv : s.vm = U.vm) (h : nwS s) : nwS U := by
  intro w hw
  have hn : isNest w = true := (List.mem_filter.mp hw).2
  refine va_Nw.same ?_ hv (h w hw)
  cases w <;> first | rfl | cases hn
theorem gw_good {ws : List Cond} (c0 : Cond) (h0 : c0 ∈ gw) (h : ∀ w ∈ ws, w ∈ gw) : GoodIn gw (ws ++ c0 :: gw) := by
  have gg : ∀ w ∈ gw, w ∈ gw ∧ ((w.onTables && w.keeps) = true ∨ ∃ ty, w = .arrayClass ty) := fun w hw => ⟨hw, good_of_word (List.mem_filter.mp hw).2⟩
  intro w hw
  rcases List.mem_append.mp hw with h1 | h1
  · exact gg w (h w h1)
  · rcases List.mem_cons.mp h1 with h2 | h2
    · rw [h2]; exact gg _ h0
    · exact gg w h2
/-- at frame pc with the locals lv, the stack st and the world w, whatever the rest of the heap is -/
def G (p : Program) (l : Launch) (e : Env) (R : Room) (s : State) (m : MethodId) (args : Array Value) (below : List Frame) (meth : Method) (c : Code) (D : va_G) (A : Nat → Prop) (nL cells slots : Nat) (Q : State → Prop) (pc : Nat) (lv : List (Nat × Value)) (st : List Value) (w : va_W) : Prop :=
  ∀ (H : Heap) (locs : List Loc) (ls : Array Slot), va_P D vwCl w H → va_D A w → va_S A s.heap H locs → lv_has ls nL lv → W p l e R s m args below meth c H locs cells slots Q (F0 m pc ls st)
def Cx (p : Program) (s : State) (m : MethodId) (args : Array Value) (meth : Method) (c : Code) (D : va_G) (tys : List (ClassId × FieldType)) (A : Nat → Prop) (nL : Nat) (cc : ByteArray) (own : String) : Prop :=
  p.tables.exec = Jvm.exec ∧ c.code = cc ∧ c.maxLocals = nL ∧ s.vm.findClass own = some m.cls ∧ (∀ w ∈ gw, w.before args s = true) ∧ nwS s ∧ va_K D vwCl tys s ∧ (∀ q, s.heap.size ≤ q → A q) ∧ meth.locks = false
def PcW (D : va_G) (tys : List (ClassId × FieldType)) (av : List Value) (w : va_W) (sz : Nat) : Array Value → State → Prop := va_Pc av (fun U => U.heap.size = sz ∧ va_P D vwCl w U.heap ∧ va_K D vwCl tys U ∧ nwS U ∧ va_D (fun _ => True) w)
def QcW (D : va_G) (w : va_W) (sz : Nat) (r : Option Value) (w' : va_W) : Array Value → State → Outcome → State → Prop := fun _ st o t => o = .returned r ∧ va_P D vwCl w' t.heap ∧ va_D (va_A w sz) w' ∧ va_F (va_A w sz) st t
/-- a method's contract: from the world w it answers r, and the world is w' -/
def CT (l : Launch) (y : MethodName) (cc : ByteArray) (maxL : Nat) (ret : Option FieldType) (rm : Room) (D : va_G) (tys : List (ClassId × FieldType)) (av : List Value) (w : va_W) (r : Option Value) (w' : va_W) : Prop :=
  ∀ sz, Met l y (.code y cc maxL ret :: gw) rm (PcW D tys av w sz) (QcW D w sz r w') 0 0 (va_A w sz)
abbrev rmOf (f n : Nat) : Room := { frames := f, cells := 0, slots := 0, locals := n }
section GL
variable {p : Program} {l : Launch} {e : Env} {R : Room} {s : State} {m : MethodId} {args : Array Value} {below : List Frame} {meth : Method} {c : Code} {D : va_G} {tys : List (ClassId × FieldType)} {A : Nat → Prop} {nL cells slots : Nat} {Q : State → Prop} {cc : ByteArray} {own : String} {pc : Nat} {lv lv' : List (Nat × Value)} {st : List Value} {w : va_W}
theorem Cx.x (C : Cx p s m args meth c D tys A nL cc own) : p.tables.exec = Jvm.exec := C.1
theorem Cx.b (C : Cx p s m args meth c D tys A nL cc own) : c.code = cc := C.2.1
theorem Cx.ml (C : Cx p s m args meth c D tys A nL cc own) : c.maxLocals = nL := C.2.2.1
theorem Cx.ow (C : Cx p s m args meth c D tys A nL cc own) : s.vm.findClass own = some m.cls := C.2.2.2.1
theorem Cx.ts (C : Cx p s m args meth c D tys A nL cc own) : ∀ w ∈ gw, w.before args s = true := C.2.2.2.2.1
theorem Cx.nw (C : Cx p s m args meth c D tys A nL cc own) : nwS s := C.2.2.2.2.2.1
theorem Cx.K (C : Cx p s m args meth c D tys A nL cc own) : va_K D vwCl tys s := C.2.2.2.2.2.2.1
theorem Cx.fr (C : Cx p s m args meth c D tys A nL cc own) : ∀ q, s.heap.size ≤ q → A q := C.2.2.2.2.2.2.2.1
theorem Cx.lk (C : Cx p s m args meth c D tys A nL cc own) : meth.locks = false := C.2.2.2.2.2.2.2.2
theorem G_iconst (C : Cx p s m args meth c D tys A nL cc own) {n : Int} {v : Int32} (hd : decode cc pc = .ok (.iconst n, 1)) (hv : Int32.ofInt n = v) (k : G p l e R s m args below meth c D A nL cells slots Q (pc + 1) (lv) (.int v :: st) (w)) : G p l e R s m args below meth c D A nL cells slots Q (pc) (lv) (st) (w) := fun H locs ls hP hD hS hl => lv_iconst C.x C.b hd hv (k H locs ls hP hD hS hl)
theorem G_bipush (C : Cx p s m args meth c D tys A nL cc own) {n : Int} {v : Int32} (hd : decode cc pc = .ok (.bipush n, 2)) (hv : (Int8.ofInt n).toInt32 = v) (k : G p l e R s m args below meth c D A nL cells slots Q (pc + 2) (lv) (.int v :: st) (w)) : G p l e R s m args below meth c D A nL cells slots Q (pc) (lv) (st) (w) := fun H locs ls hP hD hS hl => lv_bipush C.x C.b hd hv (k H locs ls hP hD hS hl)
theorem G_sipush (C : Cx p s m args meth c D tys A nL cc own) {n : Int} {v : Int32} (hd : decode cc pc = .ok (.sipush n, 3)) (hv : (Int16.ofInt n).toInt32 = v) (k : G p l e R s m args below meth c D A nL cells slots Q (pc + 3) (lv) (.int v :: st) (w)) : G p l e R s m args below meth c D A nL cells slots Q (pc) (lv) (st) (w) := fun H locs ls hP hD hS hl => lv_sipush C.x C.b hd hv (k H locs ls hP hD hS hl)
theorem G_ldc (C : Cx p s m args meth c D tys A nL cc own) {v : Int32} {index : Nat} (hd : decode cc pc = .ok (.ldc index, 2)) (hw : Cond.constant own index v ∈ gw) (k : G p l e R s m args below meth c D A nL cells slots Q (pc + 2) (lv) (.int v :: st) (w)) : G p l e R s m args below meth c D A nL cells slots Q (pc) (lv) (st) (w) := fun H locs ls hP hD hS hl => lv_ldc C.x C.b C.ow (C.ts _ hw) hd (k H locs ls hP hD hS hl)
theorem G_ldcw (C : Cx p s m args meth c D tys A nL cc own) {v : Int32} {index : Nat} (hd : decode cc pc = .ok (.ldc_w index, 3)) (hw : Cond.constant own index v ∈ gw) (k : G p l e R s m args below meth c D A nL cells slots Q (pc + 3) (lv) (.int v :: st) (w)) : G p l e R s m args below meth c D A nL cells slots Q (pc) (lv) (st) (w) := fun H locs ls hP hD hS hl => lv_ldcw C.x C.b C.ow (C.ts _ hw) hd (k H locs ls hP hD hS hl)
theorem G_ldc2 (C : Cx p s m args meth c D tys A nL cc own) {v : Int64} {index : Nat} (hd : decode cc pc = .ok (.ldc2_w index, 3)) (hw : Cond.constantLong own index v ∈ gw) (k : G p l e R s m args below meth c D A nL cells slots Q (pc + 3) (lv) (.long v :: st) (w)) : G p l e R s m args below meth c D A nL cells slots Q (pc) (lv) (st) (w) := fun H locs ls hP hD hS hl => lv_ldc2 C.x C.b C.ow (C.ts _ hw) hd (k H locs ls hP hD hS hl)
theorem G_iload_n (C : Cx p s m args meth c D tys A nL cc own) {k0 : Fin 4} {i : Nat} {x : Int32} (j : Nat) (hd : decode cc pc = .ok (.iload_n k0, 1)) (hk : lv[j]? = some (i, .int x)) (hi : (k0 : Nat) = i) (k : G p l e R s m args below meth c D A nL cells slots Q (pc + 1) (lv) (.int x :: st) (w)) : G p l e R s m args below meth c D A nL cells slots Q (pc) (lv) (st) (w) := fun H locs ls hP hD hS hl => lv_iload_n C.x C.b hd hi (lv_at hl j hk) (k H locs ls hP hD hS hl)
theorem G_iload (C : Cx p s m args meth c D tys A nL cc own) {i : Nat} {x : Int32} (j : Nat) (hd : decode cc pc = .ok (.iload i, 2)) (hk : lv[j]? = some (i, .int x)) (k : G p l e R s m args below meth c D A nL cells slots Q (pc + 2) (lv) (.int x :: st) (w)) : G p l e R s m args below meth c D A nL cells slots Q (pc) (lv) (st) (w) := fun H locs ls hP hD hS hl => lv_iload C.x C.b hd (lv_at hl j hk) (k H locs ls hP hD hS hl)
theorem G_aload_n (C : Cx p s m args meth c D tys A nL cc own) {k0 : Fin 4} {i : Nat} {x : Nat} (j : Nat) (hd : decode cc pc = .ok (.aload_n k0, 1)) (hk : lv[j]? = some (i, .ref x)) (hi : (k0 : Nat) = i) (k : G p l e R s m args below meth c D A nL cells slots Q (pc + 1) (lv) (.ref x :: st) (w)) : G p l e R s m args below meth c D A nL cells slots Q (pc) (lv) (st) (w) := fun H locs ls hP hD hS hl => lv_aload_n C.x C.b hd hi (lv_at hl j hk) (k H locs ls hP hD hS hl)
theorem G_istore_n (C : Cx p s m args meth c D tys A nL cc own) {k0 : Fin 4} {i : Nat} {x : Int32} (hd : decode cc pc = .ok (.istore_n k0, 1)) (hi : (k0 : Nat) = i) (hn : i < nL) (hl' : (i, Value.int x) :: lv.filter (fun q => !(q.1 == i) && !(q.1 + 1 == i && q.2.category == 2)) = lv') (k : G p l e R s m args below meth c D A nL cells slots Q (pc + 1) (lv') (st) (w)) : G p l e R s m args below meth c D A nL cells slots Q (pc) (lv) (.int x :: st) (w) := fun H locs ls hP hD hS hl => lv_istore_n C.x C.b hd hi hl hn hl' (fun ls' hl2 => k H locs ls' hP hD hS hl2)
theorem G_istore (C : Cx p s m args meth c D tys A nL cc own) {i : Nat} {x : Int32} (hd : decode cc pc = .ok (.istore i, 2)) (hn : i < nL) (hl' : (i, Value.int x) :: lv.filter (fun q => !(q.1 == i) && !(q.1 + 1 == i && q.2.category == 2)) = lv') (k : G p l e R s m args below meth c D A nL cells slots Q (pc + 2) (lv') (st) (w)) : G p l e R s m args below meth c D A nL cells slots Q (pc) (lv) (.int x :: st) (w) := fun H locs ls hP hD hS hl => lv_istore C.x C.b hd hl hn hl' (fun ls' hl2 => k H locs ls' hP hD hS hl2)
theorem G_iinc (C : Cx p s m args meth c D tys A nL cc own) {i : Nat} {n : Int} {x v : Int32} (j : Nat) (hd : decode cc pc = .ok (.iinc i n, 3)) (hk : lv[j]? = some (i, .int x)) (hv : x + Int32.ofInt n = v) (hn : i < nL) (hl' : (i, Value.int v) :: lv.filter (fun q => !(q.1 == i) && !(q.1 + 1 == i && q.2.category == 2)) = lv') (k : G p l e R s m args below meth c D A nL cells slots Q (pc + 3) (lv') (st) (w)) : G p l e R s m args below meth c D A nL cells slots Q (pc) (lv) (st) (w) := fun H locs ls hP hD hS hl => lv_iinc C.x C.b hd hl hk hv hn hl' (fun ls' hl2 => k H locs ls' hP hD hS hl2)
theorem G_astore_n (C : Cx p s m args meth c D tys A nL cc own) {k0 : Fin 4} {i : Nat} {x : Nat} (hd : decode cc pc = .ok (.astore_n k0, 1)) (hi : (k0 : Nat) = i) (hn : i < nL) (hl' : (i, Value.ref x) :: lv.filter (fun q => !(q.1 == i) && !(q.1 + 1 == i && q.2.category == 2)) = lv') (k : G p l e R s m args below meth c D A nL cells slots Q (pc + 1) (lv') (st) (w)) : G p l e R s m args below meth c D A nL cells slots Q (pc) (lv) (.ref x :: st) (w) := fun H locs ls hP hD hS hl => lv_astore_n C.x C.b hd hi hl hn hl' (fun ls' hl2 => k H locs ls' hP hD hS hl2)
theorem G_iadd (C : Cx p s m args meth c D tys A nL cc own) {x y : Int32} (hd : decode cc pc = .ok (.iadd, 1)) (k : G p l e R s m args below meth c D A nL cells slots Q (pc + 1) (lv) (.int (x + y) :: st) (w)) : G p l e R s m args below meth c D A nL cells slots Q (pc) (lv) (.int y :: .int x :: st) (w) := fun H locs ls hP hD hS hl => lv_iadd C.x C.b hd (k H locs ls hP hD hS hl)
theorem G_isub (C : Cx p s m args meth c D tys A nL cc own) {x y : Int32} (hd : decode cc pc = .ok (.isub, 1)) (k : G p l e R s m args below meth c D A nL cells slots Q (pc + 1) (lv) (.int (x - y) :: st) (w)) : G p l e R s m args below meth c D A nL cells slots Q (pc) (lv) (.int y :: .int x :: st) (w) := fun H locs ls hP hD hS hl => lv_isub C.x C.b hd (k H locs ls hP hD hS hl)
theorem G_imul (C : Cx p s m args meth c D tys A nL cc own) {x y : Int32} (hd : decode cc pc = .ok (.imul, 1)) (k : G p l e R s m args below meth c D A nL cells slots Q (pc + 1) (lv) (.int (x * y) :: st) (w)) : G p l e R s m args below meth c D A nL cells slots Q (pc) (lv) (.int y :: .int x :: st) (w) := fun H locs ls hP hD hS hl => lv_imul C.x C.b hd (k H locs ls hP hD hS hl)
theorem G_iand (C : Cx p s m args meth c D tys A nL cc own) {x y : Int32} (hd : decode cc pc = .ok (.iand, 1)) (k : G p l e R s m args below meth c D A nL cells slots Q (pc + 1) (lv) (.int (x &&& y) :: st) (w)) : G p l e R s m args below meth c D A nL cells slots Q (pc) (lv) (.int y :: .int x :: st) (w) := fun H locs ls hP hD hS hl => lv_iand C.x C.b hd (k H locs ls hP hD hS hl)
theorem G_ior (C : Cx p s m args meth c D tys A nL cc own) {x y : Int32} (hd : decode cc pc = .ok (.ior, 1)) (k : G p l e R s m args below meth c D A nL cells slots Q (pc + 1) (lv) (.int (x ||| y) :: st) (w)) : G p l e R s m args below meth c D A nL cells slots Q (pc) (lv) (.int y :: .int x :: st) (w) := fun H locs ls hP hD hS hl => lv_ior C.x C.b hd (k H locs ls hP hD hS hl)
theorem G_ixor (C : Cx p s m args meth c D tys A nL cc own) {x y : Int32} (hd : decode cc pc = .ok (.ixor, 1)) (k : G p l e R s m args below meth c D A nL cells slots Q (pc + 1) (lv) (.int (x ^^^ y) :: st) (w)) : G p l e R s m args below meth c D A nL cells slots Q (pc) (lv) (.int y :: .int x :: st) (w) := fun H locs ls hP hD hS hl => lv_ixor C.x C.b hd (k H locs ls hP hD hS hl)
theorem G_ishl (C : Cx p s m args meth c D tys A nL cc own) {x y : Int32} (hd : decode cc pc = .ok (.ishl, 1)) (k : G p l e R s m args below meth c D A nL cells slots Q (pc + 1) (lv) (.int (x <<< (y &&& 31)) :: st) (w)) : G p l e R s m args below meth c D A nL cells slots Q (pc) (lv) (.int y :: .int x :: st) (w) := fun H locs ls hP hD hS hl => lv_ishl C.x C.b hd (k H locs ls hP hD hS hl)
theorem G_ishr (C : Cx p s m args meth c D tys A nL cc own) {x y : Int32} (hd : decode cc pc = .ok (.ishr, 1)) (k : G p l e R s m args below meth c D A nL cells slots Q (pc + 1) (lv) (.int (x >>> (y &&& 31)) :: st) (w)) : G p l e R s m args below meth c D A nL cells slots Q (pc) (lv) (.int y :: .int x :: st) (w) := fun H locs ls hP hD hS hl => lv_ishr C.x C.b hd (k H locs ls hP hD hS hl)
theorem G_iushr (C : Cx p s m args meth c D tys A nL cc own) {x y v : Int32} (hd : decode cc pc = .ok (.iushr, 1)) (hv : (x.toUInt32 >>> (y.toUInt32 &&& Int32.toUInt32 31)).toInt32 = v) (k : G p l e R s m args below meth c D A nL cells slots Q (pc + 1) (lv) (.int v :: st) (w)) : G p l e R s m args below meth c D A nL cells slots Q (pc) (lv) (.int y :: .int x :: st) (w) := fun H locs ls hP hD hS hl => lv_iushr C.x C.b hd hv (k H locs ls hP hD hS hl)
theorem G_idiv (C : Cx p s m args meth c D tys A nL cc own) {x y : Int32} (hd : decode cc pc = .ok (.idiv, 1)) (h : ¬ y = 0) (k : G p l e R s m args below meth c D A nL cells slots Q (pc + 1) (lv) (.int (x / y) :: st) (w)) : G p l e R s m args below meth c D A nL cells slots Q (pc) (lv) (.int y :: .int x :: st) (w) := fun H locs ls hP hD hS hl => lv_idiv C.x C.b hd h (k H locs ls hP hD hS hl)
theorem G_irem (C : Cx p s m args meth c D tys A nL cc own) {x y : Int32} (hd : decode cc pc = .ok (.irem, 1)) (h : ¬ y = 0) (k : G p l e R s m args below meth c D A nL cells slots Q (pc + 1) (lv) (.int (x - x / y * y) :: st) (w)) : G p l e R s m args below meth c D A nL cells slots Q (pc) (lv) (.int y :: .int x :: st) (w) := fun H locs ls hP hD hS hl => lv_irem C.x C.b hd h (k H locs ls hP hD hS hl)
theorem G_ladd (C : Cx p s m args meth c D tys A nL cc own) {x y : Int64} (hd : decode cc pc = .ok (.ladd, 1)) (k : G p l e R s m args below meth c D A nL cells slots Q (pc + 1) (lv) (.long (x + y) :: st) (w)) : G p l e R s m args below meth c D A nL cells slots Q (pc) (lv) (.long y :: .long x :: st) (w) := fun H locs ls hP hD hS hl => lv_ladd C.x C.b hd (k H locs ls hP hD hS hl)
theorem G_lconst (C : Cx p s m args meth c D tys A nL cc own) {n : Fin 2} {v : Int64} (hd : decode cc pc = .ok (.lconst n, 1)) (hv : Int64.ofNat (n : Nat) = v) (k : G p l e R s m args below meth c D A nL cells slots Q (pc + 1) (lv) (.long v :: st) (w)) : G p l e R s m args below meth c D A nL cells slots Q (pc) (lv) (st) (w) := fun H locs ls hP hD hS hl => lv_lconst C.x C.b hd hv (k H locs ls hP hD hS hl)
theorem G_top {x y : Int32} (h : x = y) (k : G p l e R s m args below meth c D A nL cells slots Q (pc) (lv) (.int y :: st) (w)) : G p l e R s m args below meth c D A nL cells slots Q (pc) (lv) (.int x :: st) (w) := by rw [h]; exact k
theorem G_w {w2 : va_W} (h : w = w2) (k : G p l e R s m args below meth c D A nL cells slots Q (pc) (lv) (st) (w2)) : G p l e R s m args below meth c D A nL cells slots Q (pc) (lv) (st) (w) := by rw [h]; exact k
theorem G_iaddN (C : Cx p s m args meth c D tys A nL cc own) {a b : Nat} (hd : decode cc pc = .ok (.iadd, 1))  (k : G p l e R s m args below meth c D A nL cells slots Q (pc + 1) (lv) (.int (nI (a + b)) :: st) (w)) : G p l e R s m args below meth c D A nL cells slots Q (pc) (lv) (.int (nI b) :: .int (nI a) :: st) (w) := G_iadd C hd (G_top (nI_add a b) k)
theorem G_isubN (C : Cx p s m args meth c D tys A nL cc own) {a b : Nat} (hd : decode cc pc = .ok (.isub, 1)) (h : b ≤ a) (k : G p l e R s m args below meth c D A nL cells slots Q (pc + 1) (lv) (.int (nI (a - b)) :: st) (w)) : G p l e R s m args below meth c D A nL cells slots Q (pc) (lv) (.int (nI b) :: .int (nI a) :: st) (w) := G_isub C hd (G_top (pk_sub h) k)
theorem G_imulN (C : Cx p s m args meth c D tys A nL cc own) {a b : Nat} (hd : decode cc pc = .ok (.imul, 1))  (k : G p l e R s m args below meth c D A nL cells slots Q (pc + 1) (lv) (.int (nI (a * b)) :: st) (w)) : G p l e R s m args below meth c D A nL cells slots Q (pc) (lv) (.int (nI b) :: .int (nI a) :: st) (w) := G_imul C hd (G_top (pk_mul a b) k)
theorem G_iandN (C : Cx p s m args meth c D tys A nL cc own) {a b : Nat} (hd : decode cc pc = .ok (.iand, 1))  (k : G p l e R s m args below meth c D A nL cells slots Q (pc + 1) (lv) (.int (nI (a &&& b)) :: st) (w)) : G p l e R s m args below meth c D A nL cells slots Q (pc) (lv) (.int (nI b) :: .int (nI a) :: st) (w) := G_iand C hd (G_top (nI_and a b) k)
theorem G_iorN (C : Cx p s m args meth c D tys A nL cc own) {a b : Nat} (hd : decode cc pc = .ok (.ior, 1))  (k : G p l e R s m args below meth c D A nL cells slots Q (pc + 1) (lv) (.int (nI (a ||| b)) :: st) (w)) : G p l e R s m args below meth c D A nL cells slots Q (pc) (lv) (.int (nI b) :: .int (nI a) :: st) (w) := G_ior C hd (G_top (nI_or a b) k)
theorem G_ixorN (C : Cx p s m args meth c D tys A nL cc own) {a b : Nat} (hd : decode cc pc = .ok (.ixor, 1))  (k : G p l e R s m args below meth c D A nL cells slots Q (pc + 1) (lv) (.int (nI (a ^^^ b)) :: st) (w)) : G p l e R s m args below meth c D A nL cells slots Q (pc) (lv) (.int (nI b) :: .int (nI a) :: st) (w) := G_ixor C hd (G_top (nI_xor a b) k)
theorem G_ishlN (C : Cx p s m args meth c D tys A nL cc own) {a b : Nat} (hd : decode cc pc = .ok (.ishl, 1)) (h : b < 32) (ha : a * 2 ^ b < 2 ^ 32) (k : G p l e R s m args below meth c D A nL cells slots Q (pc + 1) (lv) (.int (nI (a * 2 ^ b)) :: st) (w)) : G p l e R s m args below meth c D A nL cells slots Q (pc) (lv) (.int (nI b) :: .int (nI a) :: st) (w) := G_ishl C hd (G_top (nI_shl a b h ha) k)
theorem G_ishrN (C : Cx p s m args meth c D tys A nL cc own) {a b : Nat} (hd : decode cc pc = .ok (.ishr, 1)) (h : b < 32) (ha : a < 2 ^ 31) (k : G p l e R s m args below meth c D A nL cells slots Q (pc + 1) (lv) (.int (nI (a / 2 ^ b)) :: st) (w)) : G p l e R s m args below meth c D A nL cells slots Q (pc) (lv) (.int (nI b) :: .int (nI a) :: st) (w) := G_ishr C hd (G_top (nI_shr a b h ha) k)
theorem nI_nz {b : Nat} (h0 : 0 < b) (hb : b < 2 ^ 31) : ¬ nI b = 0 := fun q => absurd ((nI_eqz hb).mp q) (by omega)
theorem G_idivN (C : Cx p s m args meth c D tys A nL cc own) {a b : Nat} (hd : decode cc pc = .ok (.idiv, 1)) (ha : a < 2 ^ 31) (h0 : 0 < b) (hb : b < 2 ^ 31) (k : G p l e R s m args below meth c D A nL cells slots Q (pc + 1) (lv) (.int (nI (a / b)) :: st) (w)) : G p l e R s m args below meth c D A nL cells slots Q (pc) (lv) (.int (nI b) :: .int (nI a) :: st) (w) := G_idiv C hd (nI_nz h0 hb) (G_top (pk_div ha h0 hb) k)
theorem G_iremN (C : Cx p s m args meth c D tys A nL cc own) {a b : Nat} (hd : decode cc pc = .ok (.irem, 1)) (ha : a < 2 ^ 31) (h0 : 0 < b) (hb : b < 2 ^ 31) (k : G p l e R s m args below meth c D A nL cells slots Q (pc + 1) (lv) (.int (nI (a % b)) :: st) (w)) : G p l e R s m args below meth c D A nL cells slots Q (pc) (lv) (.int (nI b) :: .int (nI a) :: st) (w) := G_irem C hd (nI_nz h0 hb) (G_top (pk_rem ha h0 hb) k)
theorem G_iincN (C : Cx p s m args meth c D tys A nL cc own) {i : Nat} {x : Nat} (j : Nat) (hd : decode cc pc = .ok (.iinc i 1, 3)) (hk : lv[j]? = some (i, .int (nI x))) (hn : i < nL) (hl' : (i, Value.int (nI (x + 1))) :: lv.filter (fun q => !(q.1 == i) && !(q.1 + 1 == i && q.2.category == 2)) = lv') (k : G p l e R s m args below meth c D A nL cells slots Q (pc + 3) (lv') (st) (w)) : G p l e R s m args below meth c D A nL cells slots Q (pc) (lv) (st) (w) := G_iinc C j hd hk (nI_1 x) hn hl' k
theorem G_dup (C : Cx p s m args meth c D tys A nL cc own) {v : Value} (hd : decode cc pc = .ok (.dup, 1)) (h : v.category = 1) (k : G p l e R s m args below meth c D A nL cells slots Q (pc + 1) (lv) (v :: v :: st) (w)) : G p l e R s m args below meth c D A nL cells slots Q (pc) (lv) (v :: st) (w) := fun H locs ls hP hD hS hl => lv_dup C.x C.b hd h (k H locs ls hP hD hS hl)
theorem G_pop (C : Cx p s m args meth c D tys A nL cc own) {v : Value} (hd : decode cc pc = .ok (.pop, 1)) (h : v.category = 1) (k : G p l e R s m args below meth c D A nL cells slots Q (pc + 1) (lv) (st) (w)) : G p l e R s m args below meth c D A nL cells slots Q (pc) (lv) (v :: st) (w) := fun H locs ls hP hD hS hl => lv_pop C.x C.b hd h (k H locs ls hP hD hS hl)
theorem G_dup2 (C : Cx p s m args meth c D tys A nL cc own) {v u : Value} (hd : decode cc pc = .ok (.dup2, 1)) (h : v.category = 1) (h2 : u.category = 1) (k : G p l e R s m args below meth c D A nL cells slots Q (pc + 1) (lv) (v :: u :: v :: u :: st) (w)) : G p l e R s m args below meth c D A nL cells slots Q (pc) (lv) (v :: u :: st) (w) := fun H locs ls hP hD hS hl => lv_dup2_11 C.x C.b hd h h2 (k H locs ls hP hD hS hl)
theorem G_goto (C : Cx p s m args meth c D tys A nL cc own) {off : Int} {tgt : Nat} (hd : decode cc pc = .ok (.goto off, 3)) (ht : (pc : Int) + off = (tgt : Int)) (k : G p l e R s m args below meth c D A nL cells slots Q (tgt) (lv) (st) (w)) : G p l e R s m args below meth c D A nL cells slots Q (pc) (lv) (st) (w) := fun H locs ls hP hD hS hl => lv_goto C.x C.b hd ht (k H locs ls hP hD hS hl)
theorem G_if_eq (C : Cx p s m args meth c D tys A nL cc own) {x : Int32} {off : Int} {tgt : Nat} (hd : decode cc pc = .ok (.ifCond .eq off, 3)) (ht : (pc : Int) + off = (tgt : Int)) (kt : x = 0 → G p l e R s m args below meth c D A nL cells slots Q (tgt) (lv) (st) (w)) (kf : ¬ x = 0 → G p l e R s m args below meth c D A nL cells slots Q (pc + 3) (lv) (st) (w)) : G p l e R s m args below meth c D A nL cells slots Q (pc) (lv) (.int x :: st) (w) := fun H locs ls hP hD hS hl => lv_if_eq C.x C.b hd ht (fun h => kt h H locs ls hP hD hS hl) (fun h => kf h H locs ls hP hD hS hl)
theorem G_icmp_eq (C : Cx p s m args meth c D tys A nL cc own) {x y : Int32} {off : Int} {tgt : Nat} (hd : decode cc pc = .ok (.if_icmp .eq off, 3)) (ht : (pc : Int) + off = (tgt : Int)) (kt : x = y → G p l e R s m args below meth c D A nL cells slots Q (tgt) (lv) (st) (w)) (kf : ¬ x = y → G p l e R s m args below meth c D A nL cells slots Q (pc + 3) (lv) (st) (w)) : G p l e R s m args below meth c D A nL cells slots Q (pc) (lv) (.int y :: .int x :: st) (w) := fun H locs ls hP hD hS hl => lv_icmp_eq C.x C.b hd ht (fun h => kt h H locs ls hP hD hS hl) (fun h => kf h H locs ls hP hD hS hl)
theorem G_icmp_eqN (C : Cx p s m args meth c D tys A nL cc own) {a b : Nat} {off : Int} {tgt : Nat} (hd : decode cc pc = .ok (.if_icmp .eq off, 3)) (ht : (pc : Int) + off = (tgt : Int)) (ha : a < 2 ^ 31) (hb : b < 2 ^ 31) (kt : a = b → G p l e R s m args below meth c D A nL cells slots Q (tgt) (lv) (st) (w)) (kf : a ≠ b → G p l e R s m args below meth c D A nL cells slots Q (pc + 3) (lv) (st) (w)) : G p l e R s m args below meth c D A nL cells slots Q (pc) (lv) (.int (nI b) :: .int (nI a) :: st) (w) := G_icmp_eq C hd ht (fun h => kt ((nI_eq ha hb).mp h)) (fun h => kf (fun q => h ((nI_eq ha hb).mpr q)))
theorem G_if_ne (C : Cx p s m args meth c D tys A nL cc own) {x : Int32} {off : Int} {tgt : Nat} (hd : decode cc pc = .ok (.ifCond .ne off, 3)) (ht : (pc : Int) + off = (tgt : Int)) (kt : ¬ x = 0 → G p l e R s m args below meth c D A nL cells slots Q (tgt) (lv) (st) (w)) (kf : x = 0 → G p l e R s m args below meth c D A nL cells slots Q (pc + 3) (lv) (st) (w)) : G p l e R s m args below meth c D A nL cells slots Q (pc) (lv) (.int x :: st) (w) := fun H locs ls hP hD hS hl => lv_if_ne C.x C.b hd ht (fun h => kt h H locs ls hP hD hS hl) (fun h => kf h H locs ls hP hD hS hl)
theorem G_icmp_ne (C : Cx p s m args meth c D tys A nL cc own) {x y : Int32} {off : Int} {tgt : Nat} (hd : decode cc pc = .ok (.if_icmp .ne off, 3)) (ht : (pc : Int) + off = (tgt : Int)) (kt : ¬ x = y → G p l e R s m args below meth c D A nL cells slots Q (tgt) (lv) (st) (w)) (kf : x = y → G p l e R s m args below meth c D A nL cells slots Q (pc + 3) (lv) (st) (w)) : G p l e R s m args below meth c D A nL cells slots Q (pc) (lv) (.int y :: .int x :: st) (w) := fun H locs ls hP hD hS hl => lv_icmp_ne C.x C.b hd ht (fun h => kt h H locs ls hP hD hS hl) (fun h => kf h H locs ls hP hD hS hl)
theorem G_icmp_neN (C : Cx p s m args meth c D tys A nL cc own) {a b : Nat} {off : Int} {tgt : Nat} (hd : decode cc pc = .ok (.if_icmp .ne off, 3)) (ht : (pc : Int) + off = (tgt : Int)) (ha : a < 2 ^ 31) (hb : b < 2 ^ 31) (kt : a ≠ b → G p l e R s m args below meth c D A nL cells slots Q (tgt) (lv) (st) (w)) (kf : a = b → G p l e R s m args below meth c D A nL cells slots Q (pc + 3) (lv) (st) (w)) : G p l e R s m args below meth c D A nL cells slots Q (pc) (lv) (.int (nI b) :: .int (nI a) :: st) (w) := G_icmp_ne C hd ht (fun h => kt (fun q => h ((nI_eq ha hb).mpr q))) (fun h => kf ((nI_eq ha hb).mp h))
theorem G_if_lt (C : Cx p s m args meth c D tys A nL cc own) {x : Int32} {off : Int} {tgt : Nat} (hd : decode cc pc = .ok (.ifCond .lt off, 3)) (ht : (pc : Int) + off = (tgt : Int)) (kt : x < 0 → G p l e R s m args below meth c D A nL cells slots Q (tgt) (lv) (st) (w)) (kf : ¬ x < 0 → G p l e R s m args below meth c D A nL cells slots Q (pc + 3) (lv) (st) (w)) : G p l e R s m args below meth c D A nL cells slots Q (pc) (lv) (.int x :: st) (w) := fun H locs ls hP hD hS hl => lv_if_lt C.x C.b hd ht (fun h => kt h H locs ls hP hD hS hl) (fun h => kf h H locs ls hP hD hS hl)
theorem G_icmp_lt (C : Cx p s m args meth c D tys A nL cc own) {x y : Int32} {off : Int} {tgt : Nat} (hd : decode cc pc = .ok (.if_icmp .lt off, 3)) (ht : (pc : Int) + off = (tgt : Int)) (kt : x < y → G p l e R s m args below meth c D A nL cells slots Q (tgt) (lv) (st) (w)) (kf : ¬ x < y → G p l e R s m args below meth c D A nL cells slots Q (pc + 3) (lv) (st) (w)) : G p l e R s m args below meth c D A nL cells slots Q (pc) (lv) (.int y :: .int x :: st) (w) := fun H locs ls hP hD hS hl => lv_icmp_lt C.x C.b hd ht (fun h => kt h H locs ls hP hD hS hl) (fun h => kf h H locs ls hP hD hS hl)
theorem G_icmp_ltN (C : Cx p s m args meth c D tys A nL cc own) {a b : Nat} {off : Int} {tgt : Nat} (hd : decode cc pc = .ok (.if_icmp .lt off, 3)) (ht : (pc : Int) + off = (tgt : Int)) (ha : a < 2 ^ 31) (hb : b < 2 ^ 31) (kt : a < b → G p l e R s m args below meth c D A nL cells slots Q (tgt) (lv) (st) (w)) (kf : b ≤ a → G p l e R s m args below meth c D A nL cells slots Q (pc + 3) (lv) (st) (w)) : G p l e R s m args below meth c D A nL cells slots Q (pc) (lv) (.int (nI b) :: .int (nI a) :: st) (w) := G_icmp_lt C hd ht (fun h => kt ((nI_ltI ha hb).mp h)) (fun h => kf (Nat.not_lt.mp (fun q => h ((nI_ltI ha hb).mpr q))))
theorem G_if_ge (C : Cx p s m args meth c D tys A nL cc own) {x : Int32} {off : Int} {tgt : Nat} (hd : decode cc pc = .ok (.ifCond .ge off, 3)) (ht : (pc : Int) + off = (tgt : Int)) (kt : 0 ≤ x → G p l e R s m args below meth c D A nL cells slots Q (tgt) (lv) (st) (w)) (kf : ¬ 0 ≤ x → G p l e R s m args below meth c D A nL cells slots Q (pc + 3) (lv) (st) (w)) : G p l e R s m args below meth c D A nL cells slots Q (pc) (lv) (.int x :: st) (w) := fun H locs ls hP hD hS hl => lv_if_ge C.x C.b hd ht (fun h => kt h H locs ls hP hD hS hl) (fun h => kf h H locs ls hP hD hS hl)
theorem G_icmp_ge (C : Cx p s m args meth c D tys A nL cc own) {x y : Int32} {off : Int} {tgt : Nat} (hd : decode cc pc = .ok (.if_icmp .ge off, 3)) (ht : (pc : Int) + off = (tgt : Int)) (kt : y ≤ x → G p l e R s m args below meth c D A nL cells slots Q (tgt) (lv) (st) (w)) (kf : ¬ y ≤ x → G p l e R s m args below meth c D A nL cells slots Q (pc + 3) (lv) (st) (w)) : G p l e R s m args below meth c D A nL cells slots Q (pc) (lv) (.int y :: .int x :: st) (w) := fun H locs ls hP hD hS hl => lv_icmp_ge C.x C.b hd ht (fun h => kt h H locs ls hP hD hS hl) (fun h => kf h H locs ls hP hD hS hl)
theorem G_icmp_geN (C : Cx p s m args meth c D tys A nL cc own) {a b : Nat} {off : Int} {tgt : Nat} (hd : decode cc pc = .ok (.if_icmp .ge off, 3)) (ht : (pc : Int) + off = (tgt : Int)) (ha : a < 2 ^ 31) (hb : b < 2 ^ 31) (kt : b ≤ a → G p l e R s m args below meth c D A nL cells slots Q (tgt) (lv) (st) (w)) (kf : a < b → G p l e R s m args below meth c D A nL cells slots Q (pc + 3) (lv) (st) (w)) : G p l e R s m args below meth c D A nL cells slots Q (pc) (lv) (.int (nI b) :: .int (nI a) :: st) (w) := G_icmp_ge C hd ht (fun h => kt ((nI_leI hb ha).mp h)) (fun h => kf (Nat.not_le.mp (fun q => h ((nI_leI hb ha).mpr q))))
theorem G_if_gt (C : Cx p s m args meth c D tys A nL cc own) {x : Int32} {off : Int} {tgt : Nat} (hd : decode cc pc = .ok (.ifCond .gt off, 3)) (ht : (pc : Int) + off = (tgt : Int)) (kt : 0 < x → G p l e R s m args below meth c D A nL cells slots Q (tgt) (lv) (st) (w)) (kf : ¬ 0 < x → G p l e R s m args below meth c D A nL cells slots Q (pc + 3) (lv) (st) (w)) : G p l e R s m args below meth c D A nL cells slots Q (pc) (lv) (.int x :: st) (w) := fun H locs ls hP hD hS hl => lv_if_gt C.x C.b hd ht (fun h => kt h H locs ls hP hD hS hl) (fun h => kf h H locs ls hP hD hS hl)
theorem G_icmp_gt (C : Cx p s m args meth c D tys A nL cc own) {x y : Int32} {off : Int} {tgt : Nat} (hd : decode cc pc = .ok (.if_icmp .gt off, 3)) (ht : (pc : Int) + off = (tgt : Int)) (kt : y < x → G p l e R s m args below meth c D A nL cells slots Q (tgt) (lv) (st) (w)) (kf : ¬ y < x → G p l e R s m args below meth c D A nL cells slots Q (pc + 3) (lv) (st) (w)) : G p l e R s m args below meth c D A nL cells slots Q (pc) (lv) (.int y :: .int x :: st) (w) := fun H locs ls hP hD hS hl => lv_icmp_gt C.x C.b hd ht (fun h => kt h H locs ls hP hD hS hl) (fun h => kf h H locs ls hP hD hS hl)
theorem G_icmp_gtN (C : Cx p s m args meth c D tys A nL cc own) {a b : Nat} {off : Int} {tgt : Nat} (hd : decode cc pc = .ok (.if_icmp .gt off, 3)) (ht : (pc : Int) + off = (tgt : Int)) (ha : a < 2 ^ 31) (hb : b < 2 ^ 31) (kt : b < a → G p l e R s m args below meth c D A nL cells slots Q (tgt) (lv) (st) (w)) (kf : a ≤ b → G p l e R s m args below meth c D A nL cells slots Q (pc + 3) (lv) (st) (w)) : G p l e R s m args below meth c D A nL cells slots Q (pc) (lv) (.int (nI b) :: .int (nI a) :: st) (w) := G_icmp_gt C hd ht (fun h => kt ((nI_ltI hb ha).mp h)) (fun h => kf (Nat.not_lt.mp (fun q => h ((nI_ltI hb ha).mpr q))))
theorem G_if_le (C : Cx p s m args meth c D tys A nL cc own) {x : Int32} {off : Int} {tgt : Nat} (hd : decode cc pc = .ok (.ifCond .le off, 3)) (ht : (pc : Int) + off = (tgt : Int)) (kt : x ≤ 0 → G p l e R s m args below meth c D A nL cells slots Q (tgt) (lv) (st) (w)) (kf : ¬ x ≤ 0 → G p l e R s m args below meth c D A nL cells slots Q (pc + 3) (lv) (st) (w)) : G p l e R s m args below meth c D A nL cells slots Q (pc) (lv) (.int x :: st) (w) := fun H locs ls hP hD hS hl => lv_if_le C.x C.b hd ht (fun h => kt h H locs ls hP hD hS hl) (fun h => kf h H locs ls hP hD hS hl)
theorem G_icmp_le (C : Cx p s m args meth c D tys A nL cc own) {x y : Int32} {off : Int} {tgt : Nat} (hd : decode cc pc = .ok (.if_icmp .le off, 3)) (ht : (pc : Int) + off = (tgt : Int)) (kt : x ≤ y → G p l e R s m args below meth c D A nL cells slots Q (tgt) (lv) (st) (w)) (kf : ¬ x ≤ y → G p l e R s m args below meth c D A nL cells slots Q (pc + 3) (lv) (st) (w)) : G p l e R s m args below meth c D A nL cells slots Q (pc) (lv) (.int y :: .int x :: st) (w) := fun H locs ls hP hD hS hl => lv_icmp_le C.x C.b hd ht (fun h => kt h H locs ls hP hD hS hl) (fun h => kf h H locs ls hP hD hS hl)
theorem G_icmp_leN (C : Cx p s m args meth c D tys A nL cc own) {a b : Nat} {off : Int} {tgt : Nat} (hd : decode cc pc = .ok (.if_icmp .le off, 3)) (ht : (pc : Int) + off = (tgt : Int)) (ha : a < 2 ^ 31) (hb : b < 2 ^ 31) (kt : a ≤ b → G p l e R s m args below meth c D A nL cells slots Q (tgt) (lv) (st) (w)) (kf : b < a → G p l e R s m args below meth c D A nL cells slots Q (pc + 3) (lv) (st) (w)) : G p l e R s m args below meth c D A nL cells slots Q (pc) (lv) (.int (nI b) :: .int (nI a) :: st) (w) := G_icmp_le C hd ht (fun h => kt ((nI_leI ha hb).mp h)) (fun h => kf (Nat.not_le.mp (fun q => h ((nI_leI ha hb).mpr q))))
theorem G_if_eqN (C : Cx p s m args meth c D tys A nL cc own) {a : Nat} {off : Int} {tgt : Nat} (hd : decode cc pc = .ok (.ifCond .eq off, 3)) (ht : (pc : Int) + off = (tgt : Int)) (ha : a < 2 ^ 31) (kt : a = 0 → G p l e R s m args below meth c D A nL cells slots Q (tgt) (lv) (st) (w)) (kf : 0 < a → G p l e R s m args below meth c D A nL cells slots Q (pc + 3) (lv) (st) (w)) : G p l e R s m args below meth c D A nL cells slots Q (pc) (lv) (.int (nI a) :: st) (w) := G_if_eq C hd ht (fun h => kt ((nI_eqz ha).mp h)) (fun h => kf (Nat.pos_of_ne_zero fun q => h ((nI_eqz ha).mpr q)))
theorem G_if_neN (C : Cx p s m args meth c D tys A nL cc own) {a : Nat} {off : Int} {tgt : Nat} (hd : decode cc pc = .ok (.ifCond .ne off, 3)) (ht : (pc : Int) + off = (tgt : Int)) (ha : a < 2 ^ 31) (kt : 0 < a → G p l e R s m args below meth c D A nL cells slots Q (tgt) (lv) (st) (w)) (kf : a = 0 → G p l e R s m args below meth c D A nL cells slots Q (pc + 3) (lv) (st) (w)) : G p l e R s m args below meth c D A nL cells slots Q (pc) (lv) (.int (nI a) :: st) (w) := G_if_ne C hd ht (fun h => kt (Nat.pos_of_ne_zero fun q => h ((nI_eqz ha).mpr q))) (fun h => kf ((nI_eqz ha).mp h))
theorem G_if_gtN (C : Cx p s m args meth c D tys A nL cc own) {a : Nat} {off : Int} {tgt : Nat} (hd : decode cc pc = .ok (.ifCond .gt off, 3)) (ht : (pc : Int) + off = (tgt : Int)) (ha : a < 2 ^ 31) (kt : 0 < a → G p l e R s m args below meth c D A nL cells slots Q (tgt) (lv) (st) (w)) (kf : a = 0 → G p l e R s m args below meth c D A nL cells slots Q (pc + 3) (lv) (st) (w)) : G p l e R s m args below meth c D A nL cells slots Q (pc) (lv) (.int (nI a) :: st) (w) := G_if_gt C hd ht (fun h => kt ((nI_gtz ha).mp h)) (fun h => kf (Nat.eq_zero_of_not_pos fun q => h ((nI_gtz ha).mpr q)))
theorem G_if_leN (C : Cx p s m args meth c D tys A nL cc own) {a : Nat} {off : Int} {tgt : Nat} (hd : decode cc pc = .ok (.ifCond .le off, 3)) (ht : (pc : Int) + off = (tgt : Int)) (ha : a < 2 ^ 31) (kt : a = 0 → G p l e R s m args below meth c D A nL cells slots Q (tgt) (lv) (st) (w)) (kf : 0 < a → G p l e R s m args below meth c D A nL cells slots Q (pc + 3) (lv) (st) (w)) : G p l e R s m args below meth c D A nL cells slots Q (pc) (lv) (.int (nI a) :: st) (w) := G_if_le C hd ht (fun h => kt ((nI_lez ha).mp h)) (fun h => kf (Nat.pos_of_ne_zero fun q => h ((nI_lez ha).mpr q)))
theorem G_if_ltN (C : Cx p s m args meth c D tys A nL cc own) {a : Nat} {off : Int} {tgt : Nat} (hd : decode cc pc = .ok (.ifCond .lt off, 3)) (ht : (pc : Int) + off = (tgt : Int)) (ha : a < 2 ^ 31) (kf : G p l e R s m args below meth c D A nL cells slots Q (pc + 3) (lv) (st) (w)) : G p l e R s m args below meth c D A nL cells slots Q (pc) (lv) (.int (nI a) :: st) (w) := G_if_lt C hd ht (fun h => absurd h (nI_ltz ha)) (fun _ => kf)
theorem G_if_geN (C : Cx p s m args meth c D tys A nL cc own) {a : Nat} {off : Int} {tgt : Nat} (hd : decode cc pc = .ok (.ifCond .ge off, 3)) (ht : (pc : Int) + off = (tgt : Int)) (ha : a < 2 ^ 31) (kt : G p l e R s m args below meth c D A nL cells slots Q (tgt) (lv) (st) (w)) : G p l e R s m args below meth c D A nL cells slots Q (pc) (lv) (.int (nI a) :: st) (w) := G_if_ge C hd ht (fun _ => kt) (fun h => absurd (nI_pos' ha) h)
theorem G_if_eqB (C : Cx p s m args meth c D tys A nL cc own) {b : Bool} {off : Int} {tgt : Nat} (hd : decode cc pc = .ok (.ifCond .eq off, 3)) (ht : (pc : Int) + off = (tgt : Int)) (kt : b = false → G p l e R s m args below meth c D A nL cells slots Q (tgt) (lv) (st) (w)) (kf : b = true → G p l e R s m args below meth c D A nL cells slots Q (pc + 3) (lv) (st) (w)) : G p l e R s m args below meth c D A nL cells slots Q (pc) (lv) (.int (nI (bN b)) :: st) (w) := G_if_eqN C hd ht (bN_lt b) (fun h => kt (bN_0.mp h)) (fun h => kf (by cases b <;> first | rfl | (exact absurd h (by decide))))
theorem G_if_neB (C : Cx p s m args meth c D tys A nL cc own) {b : Bool} {off : Int} {tgt : Nat} (hd : decode cc pc = .ok (.ifCond .ne off, 3)) (ht : (pc : Int) + off = (tgt : Int)) (kt : b = true → G p l e R s m args below meth c D A nL cells slots Q (tgt) (lv) (st) (w)) (kf : b = false → G p l e R s m args below meth c D A nL cells slots Q (pc + 3) (lv) (st) (w)) : G p l e R s m args below meth c D A nL cells slots Q (pc) (lv) (.int (nI (bN b)) :: st) (w) := G_if_neN C hd ht (bN_lt b) (fun h => kt (by cases b <;> first | rfl | (exact absurd h (by decide)))) (fun h => kf (bN_0.mp h))
theorem G_tableIn (C : Cx p s m args meth c D tys A nL cc own) {dflt lo hi : Int} {offs : Array Int} {len : Nat} {x : Int32} {off : Int} {tgt : Nat} (hd : decode cc pc = .ok (.tableswitch dflt lo hi offs, len)) (h1 : ¬ x.toInt < lo) (h2 : ¬ hi < x.toInt) (ho : offs[(x.toInt - lo).toNat]? = some off) (ht : (pc : Int) + off = (tgt : Int)) (k : G p l e R s m args below meth c D A nL cells slots Q (tgt) (lv) (st) (w)) : G p l e R s m args below meth c D A nL cells slots Q (pc) (lv) (.int x :: st) (w) := fun H locs ls hP hD hS hl => lv_tableIn C.x C.b hd h1 h2 ho ht (k H locs ls hP hD hS hl)
theorem G_tableOut (C : Cx p s m args meth c D tys A nL cc own) {dflt lo hi : Int} {offs : Array Int} {len : Nat} {x : Int32} {tgt : Nat} (hd : decode cc pc = .ok (.tableswitch dflt lo hi offs, len)) (h : x.toInt < lo ∨ hi < x.toInt) (ht : (pc : Int) + dflt = (tgt : Int)) (k : G p l e R s m args below meth c D A nL cells slots Q (tgt) (lv) (st) (w)) : G p l e R s m args below meth c D A nL cells slots Q (pc) (lv) (.int x :: st) (w) := fun H locs ls hP hD hS hl => lv_tableOut C.x C.b hd h ht (k H locs ls hP hD hS hl)
theorem G_lookup (C : Cx p s m args meth c D tys A nL cc own) {dflt : Int} {ps : Array (Int × Int)} {len : Nat} {x : Int32} {off : Int} {tgt : Nat} (hd : decode cc pc = .ok (.lookupswitch dflt ps, len)) (hp : (ps.toList.zip (ps.toList.drop 1)).all (fun (a, next) => a.1 < next.1) = true) (ho : Op.lookupswitch.offset ps.toList dflt x.toInt = off) (ht : (pc : Int) + off = (tgt : Int)) (k : G p l e R s m args below meth c D A nL cells slots Q (tgt) (lv) (st) (w)) : G p l e R s m args below meth c D A nL cells slots Q (pc) (lv) (.int x :: st) (w) := fun H locs ls hP hD hS hl => lv_lookup C.x C.b hd hp ho ht (k H locs ls hP hD hS hl)
theorem G_get (C : Cx p s m args meth c D tys A nL cc own) {a ci N index : Nat} {ref Cn : String} {T : u_T} {fs : List Value} {v : Value} (q0 k0 : Nat) (hd : decode cc pc = .ok (.getfield index, 3)) (he : w[q0]? = some (a, .inr (ci, fs))) (hc : vwCl[ci]? = some (Cn, T, N)) (hin : ∀ w ∈ u_ws Cn T N, w ∈ gw) (hk : k0 < N) (hlink : Cond.fieldLink own index ref (T k0).2.1 (T k0).2.2.1 ∈ gw) (href : (T k0).1 = ref) (hv : fs[k0]? = some v) (k : G p l e R s m args below meth c D A nL cells slots Q (pc + 3) (lv) (v :: st) (w)) : G p l e R s m args below meth c D A nL cells slots Q (pc) (lv) (.ref a :: st) (w) := fun H locs ls hP hD hS hl => va_get C.x C.b C.ts hin C.ow C.K hP q0 he hc k0 hk (C.ts _ hlink) (fun x h => by rw [← href]; exact h) hv hd (k H locs ls hP hD hS hl)
theorem G_getN (C : Cx p s m args meth c D tys A nL cc own) {a ci N index : Nat} {ref Cn host : String} {T : u_T} {fs : List Value} {v : Value} (q0 k0 : Nat) (hd : decode cc pc = .ok (.getfield index, 3)) (he : w[q0]? = some (a, .inr (ci, fs))) (hc : vwCl[ci]? = some (Cn, T, N)) (hin : ∀ w ∈ u_ws Cn T N, w ∈ gw) (hk : k0 < N) (hlink : Cond.fieldLinkNest own index ref (T k0).2.1 (T k0).2.2.1 host ∈ nwl) (href : (T k0).1 = ref) (hv : fs[k0]? = some v) (k : G p l e R s m args below meth c D A nL cells slots Q (pc + 3) (lv) (v :: st) (w)) : G p l e R s m args below meth c D A nL cells slots Q (pc) (lv) (.ref a :: st) (w) := fun H locs ls hP hD hS hl => va_getN C.x C.b C.ts hin C.ow C.K hP q0 he hc k0 hk (va_Nw.use rfl (C.nw _ hlink)) (fun x h => by rw [← href]; exact h) hv hd (k H locs ls hP hD hS hl)
theorem G_put (C : Cx p s m args meth c D tys A nL cc own) {a ci N index : Nat} {ref Cn : String} {T : u_T} {fs : List Value} {v : Value} {w' : va_W} {ty : FieldType} (q0 k0 : Nat) (ty0 : Nat → FieldType) (hd : decode cc pc = .ok (.putfield index, 3)) (he : w[q0]? = some (a, .inr (ci, fs))) (hc : vwCl[ci]? = some (Cn, T, N)) (hin : ∀ w ∈ u_ws Cn T N, w ∈ gw) (hty : ∀ k, k < N → parseFieldDescriptor (T k).2.2.1 = some (ty0 k)) (hnm : ∀ a, a < N → ∀ b, b < N → a ≠ b → (T a).2.1 ≠ (T b).2.1) (hk : k0 < N) (hlink : Cond.fieldLink own index ref (T k0).2.1 (T k0).2.2.1 ∈ gw) (href : (T k0).1 = ref) (hfin : (T k0).2.2.2 = false) (hdsc : parseFieldDescriptor (T k0).2.2.1 = some ty) (hn : narrow ty v = v) (hfit : fits ty v = true) (hl0 : k0 < fs.length) (hw : w.set q0 (a, .inr (ci, fs.set k0 v)) = w') (k : G p l e R s m args below meth c D A nL cells slots Q (pc + 3) (lv) (st) (w')) : G p l e R s m args below meth c D A nL cells slots Q (pc) (lv) (v :: .ref a :: st) (w) := fun H locs ls hP hD hS hl => va_put C.x C.b C.ts hin ty0 hty hnm C.ow C.K hP hD hS q0 he hc k0 hk (C.ts _ hlink) (fun x h => by rw [← href]; exact h) hfin hdsc hn hfit hl0 hd (fun H1 locs1 hP1 hD1 hS1 => k H1 locs1 ls (hw ▸ hP1) (hw ▸ hD1) hS1 hl)
theorem G_putN (C : Cx p s m args meth c D tys A nL cc own) {a ci N index : Nat} {ref Cn host : String} {T : u_T} {fs : List Value} {v : Value} {w' : va_W} {ty : FieldType} (q0 k0 : Nat) (ty0 : Nat → FieldType) (hd : decode cc pc = .ok (.putfield index, 3)) (he : w[q0]? = some (a, .inr (ci, fs))) (hc : vwCl[ci]? = some (Cn, T, N)) (hin : ∀ w ∈ u_ws Cn T N, w ∈ gw) (hty : ∀ k, k < N → parseFieldDescriptor (T k).2.2.1 = some (ty0 k)) (hnm : ∀ a, a < N → ∀ b, b < N → a ≠ b → (T a).2.1 ≠ (T b).2.1) (hk : k0 < N) (hlink : Cond.fieldLinkNest own index ref (T k0).2.1 (T k0).2.2.1 host ∈ nwl) (href : (T k0).1 = ref) (hfin : (T k0).2.2.2 = false) (hdsc : parseFieldDescriptor (T k0).2.2.1 = some ty) (hn : narrow ty v = v) (hfit : fits ty v = true) (hl0 : k0 < fs.length) (hw : w.set q0 (a, .inr (ci, fs.set k0 v)) = w') (k : G p l e R s m args below meth c D A nL cells slots Q (pc + 3) (lv) (st) (w')) : G p l e R s m args below meth c D A nL cells slots Q (pc) (lv) (v :: .ref a :: st) (w) := fun H locs ls hP hD hS hl => va_putN C.x C.b C.ts hin ty0 hty hnm C.ow C.K hP hD hS q0 he hc k0 hk (va_Nw.use rfl (C.nw _ hlink)) (fun x h => by rw [← href]; exact h) hfin hdsc hn hfit hl0 hd (fun H1 locs1 hP1 hD1 hS1 => k H1 locs1 ls (hw ▸ hP1) (hw ▸ hD1) hS1 hl)
theorem G_iald (C : Cx p s m args meth c D tys A nL cc own) {a n j : Nat} {cA : ClassId} {f : Nat → Int32} {v : Int32} (q0 t0 : Nat) (hd : decode cc pc = .ok (.iaload, 1)) (he : w[q0]? = some (a, .inl (cA, n, .inl f))) (ht : tys[t0]? = some (cA, .int)) (hj : j < n) (hn : n < 2 ^ 31) (hv : f j = v) (k : G p l e R s m args below meth c D A nL cells slots Q (pc + 1) (lv) (.int v :: st) (w)) : G p l e R s m args below meth c D A nL cells slots Q (pc) (lv) (.int (nI j) :: .ref a :: st) (w) := fun H locs ls hP hD hS hl => va_iald C.x C.b C.K hP q0 t0 he ht (vp_in_nI hj hn) hd (by rw [nI_clamp (Nat.lt_trans hj hn), hv]; exact k H locs ls hP hD hS hl)
theorem G_zald (C : Cx p s m args meth c D tys A nL cc own) {a n j : Nat} {cA : ClassId} {f : Nat → Int32} {v : Int32} (q0 t0 : Nat) (hd : decode cc pc = .ok (.baload, 1)) (he : w[q0]? = some (a, .inl (cA, n, .inl f))) (ht : tys[t0]? = some (cA, .boolean)) (hj : j < n) (hn : n < 2 ^ 31) (hv : f j = v) (k : G p l e R s m args below meth c D A nL cells slots Q (pc + 1) (lv) (.int v :: st) (w)) : G p l e R s m args below meth c D A nL cells slots Q (pc) (lv) (.int (nI j) :: .ref a :: st) (w) := fun H locs ls hP hD hS hl => va_zald C.x C.b C.K hP q0 t0 he ht (vp_in_nI hj hn) hd (by rw [nI_clamp (Nat.lt_trans hj hn), hv]; exact k H locs ls hP hD hS hl)
theorem G_iast (C : Cx p s m args meth c D tys A nL cc own) {a n j : Nat} {cA : ClassId} {f : Nat → Int32} {x : Int32} {w' : va_W} (q0 t0 : Nat) (hd : decode cc pc = .ok (.iastore, 1)) (he : w[q0]? = some (a, .inl (cA, n, .inl f))) (ht : tys[t0]? = some (cA, .int)) (hj : j < n) (hn : n < 2 ^ 31) (hw : w.set q0 (a, .inl (cA, n, .inl (upd f j x))) = w') (k : G p l e R s m args below meth c D A nL cells slots Q (pc + 1) (lv) (st) (w')) : G p l e R s m args below meth c D A nL cells slots Q (pc) (lv) (.int x :: .int (nI j) :: .ref a :: st) (w) := fun H locs ls hP hD hS hl => va_iast C.x C.b C.K hP hD hS q0 t0 he ht (vp_in_nI hj hn) hd (fun H1 locs1 hP1 hD1 hS1 => by
  rw [nI_clamp (Nat.lt_trans hj hn), hw] at hP1 hD1
  exact k H1 locs1 ls hP1 hD1 hS1 hl)
theorem G_zast (C : Cx p s m args meth c D tys A nL cc own) {a n j : Nat} {cA : ClassId} {f : Nat → Int32} {x : Int32} {w' : va_W} (q0 t0 : Nat) (hd : decode cc pc = .ok (.bastore, 1)) (he : w[q0]? = some (a, .inl (cA, n, .inl f))) (ht : tys[t0]? = some (cA, .boolean)) (hj : j < n) (hn : n < 2 ^ 31) (hx : vp_nar .boolean x = x) (hw : w.set q0 (a, .inl (cA, n, .inl (upd f j x))) = w') (k : G p l e R s m args below meth c D A nL cells slots Q (pc + 1) (lv) (st) (w')) : G p l e R s m args below meth c D A nL cells slots Q (pc) (lv) (.int x :: .int (nI j) :: .ref a :: st) (w) := fun H locs ls hP hD hS hl => va_zast C.x C.b C.K hP hD hS q0 t0 he ht (vp_in_nI hj hn) hd (fun H1 locs1 hP1 hD1 hS1 => by
  rw [nI_clamp (Nat.lt_trans hj hn), hx, hw] at hP1 hD1
  exact k H1 locs1 ls hP1 hD1 hS1 hl)
theorem G_copy (C : Cx p s m args meth c D tys A nL cc own) {a0 a n0 n1 sp dp n index : Nat} {c0 c1 : ClassId} {f g : Nat → Int32} {w' : va_W} (q0 q1 t0 t1 : Nat) (hd : decode cc pc = .ok (.invokestatic index, 3)) (hlink : Cond.methodLink own index arraycopyName ∈ gw) (hnat : Cond.native arraycopyName ∈ gw) (hstat : Cond.static arraycopyName ∈ gw) (hini : Cond.initialized "java/lang/System" ∈ gw) (he0 : w[q0]? = some (a0, .inl (c0, n0, .inl f))) (he1 : w[q1]? = some (a, .inl (c1, n1, .inl g))) (ht0 : tys[t0]? = some (c0, .int)) (ht1 : tys[t1]? = some (c1, .int)) (h4 : sp + n ≤ n0) (h5 : dp + n ≤ n1) (hb0 : n0 < 2 ^ 31) (hb1 : n1 < 2 ^ 31) (hfr : 1 ≤ R.frames) (hlo : (st.map fun v => v.category).sum + (nativeFrameWords "java/lang/System" "arraycopy" 5 + 11) ≤ R.locals) (hw : w.set q1 (a, .inl (c1, n1, .inl (va_cpy f g sp dp n))) = w') (k : G p l e R s m args below meth c D A nL cells slots Q (pc + 3) (lv) (st) (w')) : G p l e R s m args below meth c D A nL cells slots Q (pc) (lv) (.int (nI n) :: .int (nI dp) :: .ref a :: .int (nI sp) :: .ref a0 :: st) (w) := by
  intro H locs ls hP hD hS hl
  have e1 : (nI sp).toNatClampNeg = sp := nI_clamp (by omega)
  have e2 : (nI dp).toNatClampNeg = dp := nI_clamp (by omega)
  have e3 : (nI n).toNatClampNeg = n := nI_clamp (by omega)
  refine va_copyi C.x C.b (by rw [C.ml]; exact hl.1.symm) C.ow (C.ts _ hlink) (C.ts _ hnat) (C.ts _ hstat) (C.ts _ hini) C.K hP hD hS q0 q1 t0 t1 he0 he1 ht0 ht1 rfl (nI_pos (by omega)) (nI_pos (by omega)) (nI_pos (by omega)) (by rw [e1, e3]; exact h4) (by rw [e2, e3]; exact h5) (fun i _ => rfl) hfr hlo hd (fun H1 locs1 hP1 hD1 hS1 => ?_)
  rw [e1, e2, e3, hw] at hP1 hD1
  exact k H1 locs1 ls hP1 hD1 hS1 hl
theorem G_max (C : Cx p s m args meth c D tys A nL cc own) {x y : Int32} {index : Nat} (hd : decode cc pc = .ok (.invokestatic index, 3)) (hlink : Cond.methodLink own index Lib.Math.max.name ∈ gw) (hstat : Cond.static Lib.Math.max.name ∈ gw) (hini : Cond.initialized "java/lang/Math" ∈ gw) (hcode : Cond.code Lib.Math.max.name Lib.Math.max.code 2 (some .int) ∈ gw) (hfr : 1 ≤ R.frames) (hlo : (st.map fun v => v.category).sum + 13 ≤ R.locals) (hcl : cells ≤ R.cells) (hsl : slots ≤ R.slots) (k : G p l e R s m args below meth c D A nL cells slots Q (pc + 3) (lv) (.int (if x < y then y else x) :: st) (w)) : G p l e R s m args below meth c D A nL cells slots Q (pc) (lv) (.int y :: .int x :: st) (w) := fun H locs ls hP hD hS hl => va_mmax C.x C.b (by rw [C.ml]; exact hl.1.symm) C.ow (C.ts _ hlink) (C.ts _ hstat) (C.ts _ hini) (C.ts _ hcode) hfr hlo hcl hsl hd (k H locs ls hP hD hS hl)
theorem G_min (C : Cx p s m args meth c D tys A nL cc own) {x y : Int32} {index : Nat} (hd : decode cc pc = .ok (.invokestatic index, 3)) (hlink : Cond.methodLink own index Lib.Math.min.name ∈ gw) (hstat : Cond.static Lib.Math.min.name ∈ gw) (hini : Cond.initialized "java/lang/Math" ∈ gw) (hcode : Cond.code Lib.Math.min.name Lib.Math.min.code 2 (some .int) ∈ gw) (hfr : 1 ≤ R.frames) (hlo : (st.map fun v => v.category).sum + 13 ≤ R.locals) (hcl : cells ≤ R.cells) (hsl : slots ≤ R.slots) (k : G p l e R s m args below meth c D A nL cells slots Q (pc + 3) (lv) (.int (if y < x then y else x) :: st) (w)) : G p l e R s m args below meth c D A nL cells slots Q (pc) (lv) (.int y :: .int x :: st) (w) := fun H locs ls hP hD hS hl => va_mmin C.x C.b (by rw [C.ml]; exact hl.1.symm) C.ow (C.ts _ hlink) (C.ts _ hstat) (C.ts _ hini) (C.ts _ hcode) hfr hlo hcl hsl hd (k H locs ls hP hD hS hl)
/-- what a call gives, and what it was told -/
theorem G_run {y : MethodName} {av : List Value} {r : Option Value} {w' : va_W} {stk : List Value} {a : Array Value} (C : Cx p s m args meth c D tys A nL cc own) (hr : ∀ (H : Heap) (locs : List Loc) (ls : Array Slot), va_P D vwCl w H → va_D A w → lv_has ls nL lv → va_Run p l e R s m args below meth c H locs cells slots 0 0 (F0 m pc ls stk) st (QcW D w H.size r w' a) (va_A w H.size)) (k : G p l e R s m args below meth c D A nL cells slots Q (pc + 3) (lv) (r.toList ++ st) (w')) : G p l e R s m args below meth c D A nL cells slots Q (pc) (lv) (stk) (w) := by
  intro H locs ls hP hD hS hl T hT X0
  obtain ⟨v, st₀, t, T', L, h0, X', hL, e1, e2, ⟨hv, hP1, hD1, hz, hk⟩, stp⟩ := hr H locs ls hP hD hl T hT X0
  cases hv
  have hF : ∀ q, va_A w H.size q → A q := by
    intro q h
    rcases h with ⟨k2, e3, h⟩ | h
    · exact hD.2 k2 (q, e3) h
    · exact C.fr q (Nat.le_trans hS.1 h)
  rw [h0] at hz hk
  rw [← e1] at hP1 hz hk
  obtain ⟨t2, a1, b1⟩ := k T'.heap (locs ++ L) ls hP1 (hD1.weaken (fun _ q _ h => hF q.1 h)) ⟨Nat.le_trans hS.1 hz, fun q h1 h2 => by rw [hk q (Nat.lt_of_lt_of_le h1 hS.1) (fun z => h2 (hF q z))]; exact hS.2.1 q h1 h2, fun q hq => by
      rcases List.mem_append.mp hq with h | h
      · exact hS.2.2 q h
      · exact hF _ (hL q h)⟩ hl T' rfl X'
  exact ⟨t2, stp t2 a1, b1⟩
theorem Pc_blind {av : List Value} {sz : Nat} : FrameBlind (PcW D tys av w sz) := fun a U g mk q => by
  obtain ⟨q0, q1, q2, q3, q4, q5⟩ := q
  exact ⟨q0, q1, q2, va_K.moved (u := U) (U := U.calling g mk a) (Vm.Alike.refl U.vm) q3, nwS_same (s := U) (U := U.calling g mk a) rfl q4, q5⟩
theorem Pc_at (C : Cx p s m args meth c D tys A nL cc own) {av : List Value} {H : Heap} (hP : va_P D vwCl w H) (hD : va_D A w) : ∀ U : State, U.heap = H → s.WarmedH U.vm → PcW D tys av w H.size av.toArray U := fun U hU hW => ⟨rfl, by rw [hU], by rw [hU]; exact hP, va_K.moved hW.alike C.K, nwS_warm hW C.nw, hD.weaken (fun _ _ _ _ => trivial)⟩
theorem G_callV {y : MethodName} {bytes : ByteArray} {maxL index ci b N : Nat} {ret : Option FieldType} {rm : Room} {r : Option Value} {w' : va_W} {stk : List Value} {fs : List Value} {T : u_T} (C : Cx p s m args meth c D tys A nL cc own) (As : List Value) {n : Nat} (q0 : Nat) (hd : decode cc pc = .ok (.invokevirtual index, 3)) (hM : CT l y bytes maxL ret rm D tys (.ref b :: As) w r w') (h1 : Cond.methodLink own index y ∈ gw) (h2 : Cond.instanceMethod y ∈ gw) (h3 : Cond.selects y.cls y y ∈ gw) (h4 : Cond.initialized y.cls ∈ gw) (h5 : Cond.code y bytes maxL ret ∈ gw) (he : w[q0]? = some (b, .inr (ci, fs))) (hc : vwCl[ci]? = some (y.cls, T, N)) (hdc : y.cls ≠ "java/lang/invoke/MethodHandle" ∧ y.cls ≠ "java/lang/invoke/VarHandle" ∧ (parseMethodDescriptor y.desc).map (fun d => d.parameters.length) = some n) (hlen : As.length = n) (hR : rm.frames + 1 ≤ R.frames ∧ 8 + (maxL + 11) + rm.locals ≤ R.locals) (hz : rm.cells = 0 ∧ rm.slots = 0) (hcs : cells ≤ R.cells ∧ slots ≤ R.slots) (hroom : (st.map fun v => v.category).sum ≤ 8) (hst : stk = As.reverse ++ .ref b :: st) (k : G p l e R s m args below meth c D A nL cells slots Q (pc + 3) (lv) (r.toList ++ st) (w')) : G p l e R s m args below meth c D A nL cells slots Q (pc) (lv) (stk) (w) := by
  refine G_run (y := y) (av := As) (a := (Value.ref b :: As).toArray) C (fun H locs ls hP hD hl => ?_) k
  refine va_runV (C := y.cls) (bytes := bytes) (maxL := maxL) (ret := ret) (n := n) (As := As) (rest := st) ⟨C.x, C.b, C.ml, C.ow, C.ts⟩ (hM H.size) (cwV n C.ts ?_ rfl hz.1 hz.2 ⟨rfl, hdc⟩ hR) ⟨Pc_blind, va_recv C.K hP hc he, Pc_at C hP hD⟩ rfl hlen hl.1 hst (lv_room hroom) hd ⟨by simpa using hcs.1, by simpa using hcs.2⟩
  refine gw_good _ h5 (fun w hw => ?_)
  simp only [List.mem_cons, List.not_mem_nil, or_false] at hw
  rcases hw with rfl | rfl | rfl | rfl
  · exact h1
  · exact h2
  · exact h3
  · exact h4
theorem G_callS {y : MethodName} {bytes : ByteArray} {maxL index : Nat} {ret : Option FieldType} {rm : Room} {r : Option Value} {w' : va_W} {stk : List Value} (C : Cx p s m args meth c D tys A nL cc own) (As : List Value) {n : Nat} (hd : decode cc pc = .ok (.invokestatic index, 3)) (hM : CT l y bytes maxL ret rm D tys As w r w') (h1 : Cond.methodLink own index y ∈ gw) (h2 : Cond.static y ∈ gw) (h4 : Cond.initialized y.cls ∈ gw) (h5 : Cond.code y bytes maxL ret ∈ gw) (hdc : y.cls ≠ "java/lang/invoke/MethodHandle" ∧ y.cls ≠ "java/lang/invoke/VarHandle" ∧ (parseMethodDescriptor y.desc).map (fun d => d.parameters.length) = some n) (hlen : As.length = n) (hR : rm.frames + 1 ≤ R.frames ∧ 8 + (maxL + 11) + rm.locals ≤ R.locals) (hz : rm.cells = 0 ∧ rm.slots = 0) (hcs : cells ≤ R.cells ∧ slots ≤ R.slots) (hroom : (st.map fun v => v.category).sum ≤ 8) (hst : stk = As.reverse ++ st) (k : G p l e R s m args below meth c D A nL cells slots Q (pc + 3) (lv) (r.toList ++ st) (w')) : G p l e R s m args below meth c D A nL cells slots Q (pc) (lv) (stk) (w) := by
  refine G_run (y := y) (av := As) (a := As.toArray) C (fun H locs ls hP hD hl => ?_) k
  refine va_runS (bytes := bytes) (maxL := maxL) (ret := ret) (n := n) (As := As) (rest := st) ⟨C.x, C.b, C.ml, C.ow, C.ts⟩ (hM H.size) (va_cwS n C.ts ?_ rfl hz.1 hz.2 hdc hR) ⟨Pc_blind, Pc_at C hP hD⟩ rfl hlen hl.1 hst (lv_room hroom) hd ⟨by simpa using hcs.1, by simpa using hcs.2⟩
  refine gw_good _ h5 (fun w hw => ?_)
  simp only [List.mem_cons, List.not_mem_nil, or_false] at hw
  rcases hw with rfl | rfl | rfl
  · exact h1
  · exact h2
  · exact h4
theorem G_callSN {y : MethodName} {bytes : ByteArray} {maxL index : Nat} {host : String} {ret : Option FieldType} {rm : Room} {r : Option Value} {w' : va_W} {stk : List Value} (C : Cx p s m args meth c D tys A nL cc own) (As : List Value) {n : Nat} (hd : decode cc pc = .ok (.invokestatic index, 3)) (hM : CT l y bytes maxL ret rm D tys As w r w') (h1 : Cond.methodLinkNest own index y host ∈ nwl) (h2 : Cond.static y ∈ gw) (h4 : Cond.initialized y.cls ∈ gw) (h5 : Cond.code y bytes maxL ret ∈ gw) (hdc : y.cls ≠ "java/lang/invoke/MethodHandle" ∧ y.cls ≠ "java/lang/invoke/VarHandle" ∧ (parseMethodDescriptor y.desc).map (fun d => d.parameters.length) = some n) (hlen : As.length = n) (hR : rm.frames + 1 ≤ R.frames ∧ 8 + (maxL + 11) + rm.locals ≤ R.locals) (hz : rm.cells = 0 ∧ rm.slots = 0) (hcs : cells ≤ R.cells ∧ slots ≤ R.slots) (hroom : (st.map fun v => v.category).sum ≤ 8) (hst : stk = As.reverse ++ st) (k : G p l e R s m args below meth c D A nL cells slots Q (pc + 3) (lv) (r.toList ++ st) (w')) : G p l e R s m args below meth c D A nL cells slots Q (pc) (lv) (stk) (w) := by
  refine G_run (y := y) (av := As) (a := As.toArray) C (fun H locs ls hP hD hl => ?_) k
  have hg : GoodIn gw (.code y bytes maxL ret :: gw) := gw_good (ws := []) _ h5 (fun w hw => absurd hw List.not_mem_nil)
  exact va_runSN (host := host) (bytes := bytes) (maxL := maxL) (ret := ret) (n := n) (As := As) (rest := st) ⟨C.x, C.b, C.ml, C.ow, C.ts⟩ (hM H.size) ⟨va_cnB n C.ts hg rfl hz.1 hz.2 (C.nw _ h1) (C.ts _ h4) hdc hR, C.ts _ h2, trivial⟩ ⟨Pc_blind, Pc_at C hP hD⟩ rfl hlen hl.1 hst (lv_room hroom) hd ⟨by simpa using hcs.1, by simpa using hcs.2⟩
theorem G_callV1 {y : MethodName} {bytes : ByteArray} {maxL index ci b N : Nat} {ret : Option FieldType} {rm : Room} {v : Value} {w' : va_W} {stk : List Value} {fs : List Value} {T : u_T} (C : Cx p s m args meth c D tys A nL cc own) (As : List Value) {n : Nat} (q0 : Nat) (hd : decode cc pc = .ok (.invokevirtual index, 3)) (hM : CT l y bytes maxL ret rm D tys (.ref b :: As) w (some v) w') (h1 : Cond.methodLink own index y ∈ gw) (h2 : Cond.instanceMethod y ∈ gw) (h3 : Cond.selects y.cls y y ∈ gw) (h4 : Cond.initialized y.cls ∈ gw) (h5 : Cond.code y bytes maxL ret ∈ gw) (he : w[q0]? = some (b, .inr (ci, fs))) (hc : vwCl[ci]? = some (y.cls, T, N)) (hdc : y.cls ≠ "java/lang/invoke/MethodHandle" ∧ y.cls ≠ "java/lang/invoke/VarHandle" ∧ (parseMethodDescriptor y.desc).map (fun d => d.parameters.length) = some n) (hlen : As.length = n) (hR : rm.frames + 1 ≤ R.frames ∧ 8 + (maxL + 11) + rm.locals ≤ R.locals) (hz : rm.cells = 0 ∧ rm.slots = 0) (hcs : cells ≤ R.cells ∧ slots ≤ R.slots) (hroom : (st.map fun v => v.category).sum ≤ 8) (hst : stk = As.reverse ++ .ref b :: st) (k : G p l e R s m args below meth c D A nL cells slots Q (pc + 3) (lv) (v :: st) (w')) : G p l e R s m args below meth c D A nL cells slots Q (pc) (lv) (stk) (w) := G_callV C As q0 hd hM h1 h2 h3 h4 h5 he hc hdc hlen hR hz hcs hroom hst k
theorem G_callV0 {y : MethodName} {bytes : ByteArray} {maxL index ci b N : Nat} {ret : Option FieldType} {rm : Room} {w' : va_W} {stk : List Value} {fs : List Value} {T : u_T} (C : Cx p s m args meth c D tys A nL cc own) (As : List Value) {n : Nat} (q0 : Nat) (hd : decode cc pc = .ok (.invokevirtual index, 3)) (hM : CT l y bytes maxL ret rm D tys (.ref b :: As) w none w') (h1 : Cond.methodLink own index y ∈ gw) (h2 : Cond.instanceMethod y ∈ gw) (h3 : Cond.selects y.cls y y ∈ gw) (h4 : Cond.initialized y.cls ∈ gw) (h5 : Cond.code y bytes maxL ret ∈ gw) (he : w[q0]? = some (b, .inr (ci, fs))) (hc : vwCl[ci]? = some (y.cls, T, N)) (hdc : y.cls ≠ "java/lang/invoke/MethodHandle" ∧ y.cls ≠ "java/lang/invoke/VarHandle" ∧ (parseMethodDescriptor y.desc).map (fun d => d.parameters.length) = some n) (hlen : As.length = n) (hR : rm.frames + 1 ≤ R.frames ∧ 8 + (maxL + 11) + rm.locals ≤ R.locals) (hz : rm.cells = 0 ∧ rm.slots = 0) (hcs : cells ≤ R.cells ∧ slots ≤ R.slots) (hroom : (st.map fun v => v.category).sum ≤ 8) (hst : stk = As.reverse ++ .ref b :: st) (k : G p l e R s m args below meth c D A nL cells slots Q (pc + 3) (lv) (st) (w')) : G p l e R s m args below meth c D A nL cells slots Q (pc) (lv) (stk) (w) := G_callV C As q0 hd hM h1 h2 h3 h4 h5 he hc hdc hlen hR hz hcs hroom hst k
theorem G_callS1 {y : MethodName} {bytes : ByteArray} {maxL index : Nat} {ret : Option FieldType} {rm : Room} {v : Value} {w' : va_W} {stk : List Value} (C : Cx p s m args meth c D tys A nL cc own) (As : List Value) {n : Nat} (hd : decode cc pc = .ok (.invokestatic index, 3)) (hM : CT l y bytes maxL ret rm D tys As w (some v) w') (h1 : Cond.methodLink own index y ∈ gw) (h2 : Cond.static y ∈ gw) (h4 : Cond.initialized y.cls ∈ gw) (h5 : Cond.code y bytes maxL ret ∈ gw) (hdc : y.cls ≠ "java/lang/invoke/MethodHandle" ∧ y.cls ≠ "java/lang/invoke/VarHandle" ∧ (parseMethodDescriptor y.desc).map (fun d => d.parameters.length) = some n) (hlen : As.length = n) (hR : rm.frames + 1 ≤ R.frames ∧ 8 + (maxL + 11) + rm.locals ≤ R.locals) (hz : rm.cells = 0 ∧ rm.slots = 0) (hcs : cells ≤ R.cells ∧ slots ≤ R.slots) (hroom : (st.map fun v => v.category).sum ≤ 8) (hst : stk = As.reverse ++ st) (k : G p l e R s m args below meth c D A nL cells slots Q (pc + 3) (lv) (v :: st) (w')) : G p l e R s m args below meth c D A nL cells slots Q (pc) (lv) (stk) (w) := G_callS C As hd hM h1 h2 h4 h5 hdc hlen hR hz hcs hroom hst k
theorem G_callS0 {y : MethodName} {bytes : ByteArray} {maxL index : Nat} {ret : Option FieldType} {rm : Room} {w' : va_W} {stk : List Value} (C : Cx p s m args meth c D tys A nL cc own) (As : List Value) {n : Nat} (hd : decode cc pc = .ok (.invokestatic index, 3)) (hM : CT l y bytes maxL ret rm D tys As w none w') (h1 : Cond.methodLink own index y ∈ gw) (h2 : Cond.static y ∈ gw) (h4 : Cond.initialized y.cls ∈ gw) (h5 : Cond.code y bytes maxL ret ∈ gw) (hdc : y.cls ≠ "java/lang/invoke/MethodHandle" ∧ y.cls ≠ "java/lang/invoke/VarHandle" ∧ (parseMethodDescriptor y.desc).map (fun d => d.parameters.length) = some n) (hlen : As.length = n) (hR : rm.frames + 1 ≤ R.frames ∧ 8 + (maxL + 11) + rm.locals ≤ R.locals) (hz : rm.cells = 0 ∧ rm.slots = 0) (hcs : cells ≤ R.cells ∧ slots ≤ R.slots) (hroom : (st.map fun v => v.category).sum ≤ 8) (hst : stk = As.reverse ++ st) (k : G p l e R s m args below meth c D A nL cells slots Q (pc + 3) (lv) (st) (w')) : G p l e R s m args below meth c D A nL cells slots Q (pc) (lv) (stk) (w) := G_callS C As hd hM h1 h2 h4 h5 hdc hlen hR hz hcs hroom hst k
theorem G_callSN1 {y : MethodName} {bytes : ByteArray} {maxL index : Nat} {host : String} {ret : Option FieldType} {rm : Room} {v : Value} {w' : va_W} {stk : List Value} (C : Cx p s m args meth c D tys A nL cc own) (As : List Value) {n : Nat} (hd : decode cc pc = .ok (.invokestatic index, 3)) (hM : CT l y bytes maxL ret rm D tys As w (some v) w') (h1 : Cond.methodLinkNest own index y host ∈ nwl) (h2 : Cond.static y ∈ gw) (h4 : Cond.initialized y.cls ∈ gw) (h5 : Cond.code y bytes maxL ret ∈ gw) (hdc : y.cls ≠ "java/lang/invoke/MethodHandle" ∧ y.cls ≠ "java/lang/invoke/VarHandle" ∧ (parseMethodDescriptor y.desc).map (fun d => d.parameters.length) = some n) (hlen : As.length = n) (hR : rm.frames + 1 ≤ R.frames ∧ 8 + (maxL + 11) + rm.locals ≤ R.locals) (hz : rm.cells = 0 ∧ rm.slots = 0) (hcs : cells ≤ R.cells ∧ slots ≤ R.slots) (hroom : (st.map fun v => v.category).sum ≤ 8) (hst : stk = As.reverse ++ st) (k : G p l e R s m args below meth c D A nL cells slots Q (pc + 3) (lv) (v :: st) (w')) : G p l e R s m args below meth c D A nL cells slots Q (pc) (lv) (stk) (w) := G_callSN C As hd hM h1 h2 h4 h5 hdc hlen hR hz hcs hroom hst k
theorem G_callSN0 {y : MethodName} {bytes : ByteArray} {maxL index : Nat} {host : String} {ret : Option FieldType} {rm : Room} {w' : va_W} {stk : List Value} (C : Cx p s m args meth c D tys A nL cc own) (As : List Value) {n : Nat} (hd : decode cc pc = .ok (.invokestatic index, 3)) (hM : CT l y bytes maxL ret rm D tys As w none w') (h1 : Cond.methodLinkNest own index y host ∈ nwl) (h2 : Cond.static y ∈ gw) (h4 : Cond.initialized y.cls ∈ gw) (h5 : Cond.code y bytes maxL ret ∈ gw) (hdc : y.cls ≠ "java/lang/invoke/MethodHandle" ∧ y.cls ≠ "java/lang/invoke/VarHandle" ∧ (parseMethodDescriptor y.desc).map (fun d => d.parameters.length) = some n) (hlen : As.length = n) (hR : rm.frames + 1 ≤ R.frames ∧ 8 + (maxL + 11) + rm.locals ≤ R.locals) (hz : rm.cells = 0 ∧ rm.slots = 0) (hcs : cells ≤ R.cells ∧ slots ≤ R.slots) (hroom : (st.map fun v => v.category).sum ≤ 8) (hst : stk = As.reverse ++ st) (k : G p l e R s m args below meth c D A nL cells slots Q (pc + 3) (lv) (st) (w')) : G p l e R s m args below meth c D A nL cells slots Q (pc) (lv) (stk) (w) := G_callSN C As hd hM h1 h2 h4 h5 hdc hlen hR hz hcs hroom hst k
theorem G_pick (ks : List Nat) (h : lv_pick lv ks = lv') (k : G p l e R s m args below meth c D A nL cells slots Q (pc) (lv') (st) (w)) : G p l e R s m args below meth c D A nL cells slots Q (pc) (lv) (st) (w) := fun H locs ls hP hD hS hl => k H locs ls hP hD hS (lv_sub hl ks h)
end GL
section GR
variable {p : Program} {l : Launch} {e : Env} {R : Room} {s : State} {m : MethodId} {args : Array Value} {below : List Frame} {meth : Method} {c : Code} {D : va_G} {tys : List (ClassId × FieldType)} {nL : Nat} {cc : ByteArray} {own : String} {pc : Nat} {lv : List (Nat × Value)} {w w0 w' : va_W} {r : Option Value}
theorem Q_of (hD : va_D (va_A w0 s.heap.size) w) {H : Heap} {locs : List Loc} (hP : va_P D vwCl w H) (hS : va_S (va_A w0 s.heap.size) s.heap H locs) {v : Option Value} (hq : v = r) (hw : w = w') : ∀ t : State, t.heap = H → s.WarmedH t.vm → QcW D w0 s.heap.size r w' args s (.returned v) t := fun t ht _ => ⟨by rw [hq], by rw [ht, ← hw]; exact hP, by rw [← hw]; exact hD, hS.F ht⟩
theorem G_iret (C : Cx p s m args meth c D tys (va_A w0 s.heap.size) nL cc own) (hr : meth.sig.returnType = some .int) {v : Int32} (hd : decode cc pc = .ok (.ireturn, 1)) (hq : some (.int v) = r) (hw : w = w') : G p l e R s m args below meth c D (va_A w0 s.heap.size) nL 0 0 (MQ below (QcW D w0 s.heap.size r w') args s 0 0 (va_A w0 s.heap.size)) pc lv [.int v] w := fun H locs ls hP hD hS hl => W.iret C.x C.b hr (Q_of hD hP hS hq hw) hS.2.2 hd (hlocks := C.lk)
theorem G_zret (C : Cx p s m args meth c D tys (va_A w0 s.heap.size) nL cc own) (hr : meth.sig.returnType = some .boolean) {v : Int32} (hd : decode cc pc = .ok (.ireturn, 1)) (hn : narrow .boolean (.int v) = .int v) (hq : some (.int v) = r) (hw : w = w') : G p l e R s m args below meth c D (va_A w0 s.heap.size) nL 0 0 (MQ below (QcW D w0 s.heap.size r w') args s 0 0 (va_A w0 s.heap.size)) pc lv [.int v] w := fun H locs ls hP hD hS hl => W.zret C.x C.b hr hn (Q_of hD hP hS hq hw) hS.2.2 hd (hlocks := C.lk)
theorem G_lret (C : Cx p s m args meth c D tys (va_A w0 s.heap.size) nL cc own) (hr : meth.sig.returnType = some .long) {v : Int64} (hd : decode cc pc = .ok (.lreturn, 1)) (hq : some (.long v) = r) (hw : w = w') : G p l e R s m args below meth c D (va_A w0 s.heap.size) nL 0 0 (MQ below (QcW D w0 s.heap.size r w') args s 0 0 (va_A w0 s.heap.size)) pc lv [.long v] w := fun H locs ls hP hD hS hl => W.lret C.x C.b hr (Q_of hD hP hS hq hw) hS.2.2 hd (hlocks := C.lk)
theorem G_vret (C : Cx p s m args meth c D tys (va_A w0 s.heap.size) nL cc own) (hr : meth.sig.returnType = none) (hd : decode cc pc = .ok (.return_, 1)) (hq : none = r) (hw : w = w') : G p l e R s m args below meth c D (va_A w0 s.heap.size) nL 0 0 (MQ below (QcW D w0 s.heap.size r w') args s 0 0 (va_A w0 s.heap.size)) pc lv [] w := fun H locs ls hP hD hS hl => W.vret C.x C.b hr (Q_of hD hP hS hq hw) hS.2.2 hd (hlocks := C.lk)
end GR
theorem CT_of {l : Launch} {y : MethodName} {cc : ByteArray} {maxL : Nat} {ret : Option FieldType} {rm : Room} {D : va_G} {tys : List (ClassId × FieldType)} {av : List Value} {w w' : va_W} {r : Option Value} {own : String} (hy : plainName y.cls = true) (hown : y.cls = own) (hlen : (lg_sl av).length ≤ maxL)
    (body : ∀ (p : Program) (e : Env) (s : State) (m : MethodId) (args : Array Value) (below : List Frame) (meth : Method) (c : Code), Cx p s m args meth c D tys (va_A w s.heap.size) maxL cc own → meth.sig.returnType = ret → G p l e rm s m args below meth c D (va_A w s.heap.size) maxL 0 0 (MQ below (QcW D w s.heap.size r w') args s 0 0 (va_A w s.heap.size)) 0 (lv_args 0 av) [] w) : CT l y cc maxL ret rm D tys av w r w' := by
  intro sz
  refine Met.ofW (cc := cc) (maxL := maxL) (ret := ret) hy rfl ?_
  intro p e s m args below meth c s₁ B hml hv
  obtain ⟨rfl, hsz, hP, hK, hnw, hD0⟩ := hv
  have hts := atoms_spec (ws := .code y cc maxL ret :: gw) B.pre
  have hfc : s.vm.findClass own = some m.cls := by rw [← hown]; exact findClass_of_methodNamed B.named
  subst hsz
  have C : Cx p s m av.toArray meth c D tys (va_A w s.heap.size) maxL cc own := ⟨B.exec, B.bytes, hml, hfc, fun w hw => hts w (List.mem_cons_of_mem _ hw), hnw, hK, fun q h => Or.inr h, B.notSynchronized⟩
  have hl := lv_entry av (n := maxL) hlen
  rw [lg_entry_eq]
  exact body p e s m av.toArray below meth c C B.returns s.heap [] _ hP (hD0.self (sz := s.heap.size)) va_S.rf hl
theorem loopN {P : Nat → Prop} (N : Nat) (hx : P N) (hs : ∀ n, n < N → P (n + 1) → P n) : ∀ n, n ≤ N → P n := by
  have key : ∀ k n, n + k = N → P n := by
    intro k
    induction k with
    | zero => intro n h; have e : n = N := by omega
              rw [e]; exact hx
    | succ k ih => intro n h; exact hs n (by omega) (ih (n + 1) (by omega))
  intro n h
  exact key (N - n) n (by omega)
theorem kI_0 : Int32.ofInt 0 = nI 0 := by decide
theorem kI_1 : Int32.ofInt 1 = nI 1 := by decide
theorem kI_2 : Int32.ofInt 2 = nI 2 := by decide
theorem kI_3 : Int32.ofInt 3 = nI 3 := by decide
theorem kI_4 : Int32.ofInt 4 = nI 4 := by decide
theorem kI_5 : Int32.ofInt 5 = nI 5 := by decide
theorem kI_m1 : Int32.ofInt (-1) = -1 := by decide
theorem kB_m10 : (Int8.ofInt (-10)).toInt32 = -10 := by decide
theorem kB_m9 : (Int8.ofInt (-9)).toInt32 = -9 := by decide
theorem kB_m5 : (Int8.ofInt (-5)).toInt32 = -5 := by decide
theorem kB_m3 : (Int8.ofInt (-3)).toInt32 = -3 := by decide
theorem kB_m2 : (Int8.ofInt (-2)).toInt32 = -2 := by decide
theorem kB_6 : (Int8.ofInt 6).toInt32 = nI 6 := by decide
theorem kB_7 : (Int8.ofInt 7).toInt32 = nI 7 := by decide
theorem kB_8 : (Int8.ofInt 8).toInt32 = nI 8 := by decide
theorem kB_9 : (Int8.ofInt 9).toInt32 = nI 9 := by decide
theorem kB_10 : (Int8.ofInt 10).toInt32 = nI 10 := by decide
theorem kB_12 : (Int8.ofInt 12).toInt32 = nI 12 := by decide
theorem kB_13 : (Int8.ofInt 13).toInt32 = nI 13 := by decide
theorem kB_14 : (Int8.ofInt 14).toInt32 = nI 14 := by decide
theorem kB_16 : (Int8.ofInt 16).toInt32 = nI 16 := by decide
theorem kB_17 : (Int8.ofInt 17).toInt32 = nI 17 := by decide
theorem kB_18 : (Int8.ofInt 18).toInt32 = nI 18 := by decide
theorem kB_19 : (Int8.ofInt 19).toInt32 = nI 19 := by decide
theorem kB_20 : (Int8.ofInt 20).toInt32 = nI 20 := by decide
theorem kB_31 : (Int8.ofInt 31).toInt32 = nI 31 := by decide
theorem kB_32 : (Int8.ofInt 32).toInt32 = nI 32 := by decide
theorem kB_40 : (Int8.ofInt 40).toInt32 = nI 40 := by decide
theorem kB_48 : (Int8.ofInt 48).toInt32 = nI 48 := by decide
theorem kB_57 : (Int8.ofInt 57).toInt32 = nI 57 := by decide
theorem kB_59 : (Int8.ofInt 59).toInt32 = nI 59 := by decide
theorem kB_63 : (Int8.ofInt 63).toInt32 = nI 63 := by decide
theorem kB_64 : (Int8.ofInt 64).toInt32 = nI 64 := by decide
theorem kB_98 : (Int8.ofInt 98).toInt32 = nI 98 := by decide
theorem kB_99 : (Int8.ofInt 99).toInt32 = nI 99 := by decide
theorem kB_100 : (Int8.ofInt 100).toInt32 = nI 100 := by decide
theorem kB_110 : (Int8.ofInt 110).toInt32 = nI 110 := by decide
theorem kB_112 : (Int8.ofInt 112).toInt32 = nI 112 := by decide
theorem kB_115 : (Int8.ofInt 115).toInt32 = nI 115 := by decide
theorem kS_150 : (Int16.ofInt 150).toInt32 = nI 150 := by decide
theorem kS_180 : (Int16.ofInt 180).toInt32 = nI 180 := by decide
theorem kS_200 : (Int16.ofInt 200).toInt32 = nI 200 := by decide
theorem kS_255 : (Int16.ofInt 255).toInt32 = nI 255 := by decide
theorem kS_999 : (Int16.ofInt 999).toInt32 = nI 999 := by decide
theorem ydc_X0_init : yX0_init.cls ≠ "java/lang/invoke/MethodHandle" ∧ yX0_init.cls ≠ "java/lang/invoke/VarHandle" ∧ (parseMethodDescriptor yX0_init.desc).map (fun d => d.parameters.length) = some 2 := by decide +kernel
theorem ydc_X0_empty : yX0_empty.cls ≠ "java/lang/invoke/MethodHandle" ∧ yX0_empty.cls ≠ "java/lang/invoke/VarHandle" ∧ (parseMethodDescriptor yX0_empty.desc).map (fun d => d.parameters.length) = some 0 := by decide +kernel
theorem ydc_X0_add : yX0_add.cls ≠ "java/lang/invoke/MethodHandle" ∧ yX0_add.cls ≠ "java/lang/invoke/VarHandle" ∧ (parseMethodDescriptor yX0_add.desc).map (fun d => d.parameters.length) = some 2 := by decide +kernel
theorem ydc_X0_possibleYears : yX0_possibleYears.cls ≠ "java/lang/invoke/MethodHandle" ∧ yX0_possibleYears.cls ≠ "java/lang/invoke/VarHandle" ∧ (parseMethodDescriptor yX0_possibleYears.desc).map (fun d => d.parameters.length) = some 0 := by decide +kernel
theorem ydc_X0_fits : yX0_fits.cls ≠ "java/lang/invoke/MethodHandle" ∧ yX0_fits.cls ≠ "java/lang/invoke/VarHandle" ∧ (parseMethodDescriptor yX0_fits.desc).map (fun d => d.parameters.length) = some 1 := by decide +kernel
theorem ydc_X0_worthOfAll : yX0_worthOfAll.cls ≠ "java/lang/invoke/MethodHandle" ∧ yX0_worthOfAll.cls ≠ "java/lang/invoke/VarHandle" ∧ (parseMethodDescriptor yX0_worthOfAll.desc).map (fun d => d.parameters.length) = some 0 := by decide +kernel
theorem ydc_X0_worthOfFalse : yX0_worthOfFalse.cls ≠ "java/lang/invoke/MethodHandle" ∧ yX0_worthOfFalse.cls ≠ "java/lang/invoke/VarHandle" ∧ (parseMethodDescriptor yX0_worthOfFalse.desc).map (fun d => d.parameters.length) = some 0 := by decide +kernel
theorem ydc_X0_worthOf : yX0_worthOf.cls ≠ "java/lang/invoke/MethodHandle" ∧ yX0_worthOf.cls ≠ "java/lang/invoke/VarHandle" ∧ (parseMethodDescriptor yX0_worthOf.desc).map (fun d => d.parameters.length) = some 1 := by decide +kernel
theorem ydc_X0_bestSet : yX0_bestSet.cls ≠ "java/lang/invoke/MethodHandle" ∧ yX0_bestSet.cls ≠ "java/lang/invoke/VarHandle" ∧ (parseMethodDescriptor yX0_bestSet.desc).map (fun d => d.parameters.length) = some 0 := by decide +kernel
theorem ydc_X0_isBetter : yX0_isBetter.cls ≠ "java/lang/invoke/MethodHandle" ∧ yX0_isBetter.cls ≠ "java/lang/invoke/VarHandle" ∧ (parseMethodDescriptor yX0_isBetter.desc).map (fun d => d.parameters.length) = some 2 := by decide +kernel
theorem ydc_X0_falseNotes : yX0_falseNotes.cls ≠ "java/lang/invoke/MethodHandle" ∧ yX0_falseNotes.cls ≠ "java/lang/invoke/VarHandle" ∧ (parseMethodDescriptor yX0_falseNotes.desc).map (fun d => d.parameters.length) = some 0 := by decide +kernel
theorem ydc_X1_init : yX1_init.cls ≠ "java/lang/invoke/MethodHandle" ∧ yX1_init.cls ≠ "java/lang/invoke/VarHandle" ∧ (parseMethodDescriptor yX1_init.desc).map (fun d => d.parameters.length) = some 0 := by decide +kernel
theorem ydc_X1_empty : yX1_empty.cls ≠ "java/lang/invoke/MethodHandle" ∧ yX1_empty.cls ≠ "java/lang/invoke/VarHandle" ∧ (parseMethodDescriptor yX1_empty.desc).map (fun d => d.parameters.length) = some 0 := by decide +kernel
theorem ydc_X1_copyFrom : yX1_copyFrom.cls ≠ "java/lang/invoke/MethodHandle" ∧ yX1_copyFrom.cls ≠ "java/lang/invoke/VarHandle" ∧ (parseMethodDescriptor yX1_copyFrom.desc).map (fun d => d.parameters.length) = some 1 := by decide +kernel
theorem ydc_X1_hasPerson : yX1_hasPerson.cls ≠ "java/lang/invoke/MethodHandle" ∧ yX1_hasPerson.cls ≠ "java/lang/invoke/VarHandle" ∧ (parseMethodDescriptor yX1_hasPerson.desc).map (fun d => d.parameters.length) = some 1 := by decide +kernel
theorem ydc_X1_hasNote : yX1_hasNote.cls ≠ "java/lang/invoke/MethodHandle" ∧ yX1_hasNote.cls ≠ "java/lang/invoke/VarHandle" ∧ (parseMethodDescriptor yX1_hasNote.desc).map (fun d => d.parameters.length) = some 1 := by decide +kernel
theorem ydc_X1_isFalse : yX1_isFalse.cls ≠ "java/lang/invoke/MethodHandle" ∧ yX1_isFalse.cls ≠ "java/lang/invoke/VarHandle" ∧ (parseMethodDescriptor yX1_isFalse.desc).map (fun d => d.parameters.length) = some 1 := by decide +kernel
theorem ydc_X2_init : yX2_init.cls ≠ "java/lang/invoke/MethodHandle" ∧ yX2_init.cls ≠ "java/lang/invoke/VarHandle" ∧ (parseMethodDescriptor yX2_init.desc).map (fun d => d.parameters.length) = some 0 := by decide +kernel
theorem ydc_X2_empty : yX2_empty.cls ≠ "java/lang/invoke/MethodHandle" ∧ yX2_empty.cls ≠ "java/lang/invoke/VarHandle" ∧ (parseMethodDescriptor yX2_empty.desc).map (fun d => d.parameters.length) = some 0 := by decide +kernel
theorem ydc_X2_push : yX2_push.cls ≠ "java/lang/invoke/MethodHandle" ∧ yX2_push.cls ≠ "java/lang/invoke/VarHandle" ∧ (parseMethodDescriptor yX2_push.desc).map (fun d => d.parameters.length) = some 1 := by decide +kernel
theorem ydc_X2_pop : yX2_pop.cls ≠ "java/lang/invoke/MethodHandle" ∧ yX2_pop.cls ≠ "java/lang/invoke/VarHandle" ∧ (parseMethodDescriptor yX2_pop.desc).map (fun d => d.parameters.length) = some 1 := by decide +kernel
theorem ydc_X3_init : yX3_init.cls ≠ "java/lang/invoke/MethodHandle" ∧ yX3_init.cls ≠ "java/lang/invoke/VarHandle" ∧ (parseMethodDescriptor yX3_init.desc).map (fun d => d.parameters.length) = some 0 := by decide +kernel
theorem ydc_X3_empty : yX3_empty.cls ≠ "java/lang/invoke/MethodHandle" ∧ yX3_empty.cls ≠ "java/lang/invoke/VarHandle" ∧ (parseMethodDescriptor yX3_empty.desc).map (fun d => d.parameters.length) = some 0 := by decide +kernel
theorem ydc_X3_has : yX3_has.cls ≠ "java/lang/invoke/MethodHandle" ∧ yX3_has.cls ≠ "java/lang/invoke/VarHandle" ∧ (parseMethodDescriptor yX3_has.desc).map (fun d => d.parameters.length) = some 1 := by decide +kernel
theorem ydc_X3_store : yX3_store.cls ≠ "java/lang/invoke/MethodHandle" ∧ yX3_store.cls ≠ "java/lang/invoke/VarHandle" ∧ (parseMethodDescriptor yX3_store.desc).map (fun d => d.parameters.length) = some 2 := by decide +kernel
theorem ydc_X3_restore : yX3_restore.cls ≠ "java/lang/invoke/MethodHandle" ∧ yX3_restore.cls ≠ "java/lang/invoke/VarHandle" ∧ (parseMethodDescriptor yX3_restore.desc).map (fun d => d.parameters.length) = some 2 := by decide +kernel
theorem ydc_X4_init : yX4_init.cls ≠ "java/lang/invoke/MethodHandle" ∧ yX4_init.cls ≠ "java/lang/invoke/VarHandle" ∧ (parseMethodDescriptor yX4_init.desc).map (fun d => d.parameters.length) = some 2 := by decide +kernel
theorem ydc_X4_rateAs : yX4_rateAs.cls ≠ "java/lang/invoke/MethodHandle" ∧ yX4_rateAs.cls ≠ "java/lang/invoke/VarHandle" ∧ (parseMethodDescriptor yX4_rateAs.desc).map (fun d => d.parameters.length) = some 2 := by decide +kernel
theorem ydc_X4_asNote : yX4_asNote.cls ≠ "java/lang/invoke/MethodHandle" ∧ yX4_asNote.cls ≠ "java/lang/invoke/VarHandle" ∧ (parseMethodDescriptor yX4_asNote.desc).map (fun d => d.parameters.length) = some 1 := by decide +kernel
theorem ydc_X4_asTwenty : yX4_asTwenty.cls ≠ "java/lang/invoke/MethodHandle" ∧ yX4_asTwenty.cls ≠ "java/lang/invoke/VarHandle" ∧ (parseMethodDescriptor yX4_asTwenty.desc).map (fun d => d.parameters.length) = some 1 := by decide +kernel
theorem ydc_X4_asQueen : yX4_asQueen.cls ≠ "java/lang/invoke/MethodHandle" ∧ yX4_asQueen.cls ≠ "java/lang/invoke/VarHandle" ∧ (parseMethodDescriptor yX4_asQueen.desc).map (fun d => d.parameters.length) = some 1 := by decide +kernel
theorem ydc_X4_asAccent : yX4_asAccent.cls ≠ "java/lang/invoke/MethodHandle" ∧ yX4_asAccent.cls ≠ "java/lang/invoke/VarHandle" ∧ (parseMethodDescriptor yX4_asAccent.desc).map (fun d => d.parameters.length) = some 1 := by decide +kernel
theorem ydc_X4_asNose : yX4_asNose.cls ≠ "java/lang/invoke/MethodHandle" ∧ yX4_asNose.cls ≠ "java/lang/invoke/VarHandle" ∧ (parseMethodDescriptor yX4_asNose.desc).map (fun d => d.parameters.length) = some 1 := by decide +kernel
theorem ydc_X4_asPaper : yX4_asPaper.cls ≠ "java/lang/invoke/MethodHandle" ∧ yX4_asPaper.cls ≠ "java/lang/invoke/VarHandle" ∧ (parseMethodDescriptor yX4_asPaper.desc).map (fun d => d.parameters.length) = some 1 := by decide +kernel
theorem ydc_X5_init : yX5_init.cls ≠ "java/lang/invoke/MethodHandle" ∧ yX5_init.cls ≠ "java/lang/invoke/VarHandle" ∧ (parseMethodDescriptor yX5_init.desc).map (fun d => d.parameters.length) = some 2 := by decide +kernel
theorem ydc_X5_empty : yX5_empty.cls ≠ "java/lang/invoke/MethodHandle" ∧ yX5_empty.cls ≠ "java/lang/invoke/VarHandle" ∧ (parseMethodDescriptor yX5_empty.desc).map (fun d => d.parameters.length) = some 0 := by decide +kernel
theorem ydc_X5_add : yX5_add.cls ≠ "java/lang/invoke/MethodHandle" ∧ yX5_add.cls ≠ "java/lang/invoke/VarHandle" ∧ (parseMethodDescriptor yX5_add.desc).map (fun d => d.parameters.length) = some 2 := by decide +kernel
theorem ydc_X5_howMany : yX5_howMany.cls ≠ "java/lang/invoke/MethodHandle" ∧ yX5_howMany.cls ≠ "java/lang/invoke/VarHandle" ∧ (parseMethodDescriptor yX5_howMany.desc).map (fun d => d.parameters.length) = some 0 := by decide +kernel
theorem ydc_X5_least : yX5_least.cls ≠ "java/lang/invoke/MethodHandle" ∧ yX5_least.cls ≠ "java/lang/invoke/VarHandle" ∧ (parseMethodDescriptor yX5_least.desc).map (fun d => d.parameters.length) = some 0 := by decide +kernel
theorem ydc_X5_inAll : yX5_inAll.cls ≠ "java/lang/invoke/MethodHandle" ∧ yX5_inAll.cls ≠ "java/lang/invoke/VarHandle" ∧ (parseMethodDescriptor yX5_inAll.desc).map (fun d => d.parameters.length) = some 0 := by decide +kernel
theorem ydc_X5_bestPerson : yX5_bestPerson.cls ≠ "java/lang/invoke/MethodHandle" ∧ yX5_bestPerson.cls ≠ "java/lang/invoke/VarHandle" ∧ (parseMethodDescriptor yX5_bestPerson.desc).map (fun d => d.parameters.length) = some 0 := by decide +kernel
theorem ydc_X5_howManyTakenBy : yX5_howManyTakenBy.cls ≠ "java/lang/invoke/MethodHandle" ∧ yX5_howManyTakenBy.cls ≠ "java/lang/invoke/VarHandle" ∧ (parseMethodDescriptor yX5_howManyTakenBy.desc).map (fun d => d.parameters.length) = some 1 := by decide +kernel
theorem ydc_X5_fits : yX5_fits.cls ≠ "java/lang/invoke/MethodHandle" ∧ yX5_fits.cls ≠ "java/lang/invoke/VarHandle" ∧ (parseMethodDescriptor yX5_fits.desc).map (fun d => d.parameters.length) = some 1 := by decide +kernel
theorem ydc_X5_wouldTake : yX5_wouldTake.cls ≠ "java/lang/invoke/MethodHandle" ∧ yX5_wouldTake.cls ≠ "java/lang/invoke/VarHandle" ∧ (parseMethodDescriptor yX5_wouldTake.desc).map (fun d => d.parameters.length) = some 2 := by decide +kernel
theorem ydc_X6_init : yX6_init.cls ≠ "java/lang/invoke/MethodHandle" ∧ yX6_init.cls ≠ "java/lang/invoke/VarHandle" ∧ (parseMethodDescriptor yX6_init.desc).map (fun d => d.parameters.length) = some 0 := by decide +kernel
theorem ydc_X6_begin : yX6_begin.cls ≠ "java/lang/invoke/MethodHandle" ∧ yX6_begin.cls ≠ "java/lang/invoke/VarHandle" ∧ (parseMethodDescriptor yX6_begin.desc).map (fun d => d.parameters.length) = some 1 := by decide +kernel
theorem ydc_X6_copyTo : yX6_copyTo.cls ≠ "java/lang/invoke/MethodHandle" ∧ yX6_copyTo.cls ≠ "java/lang/invoke/VarHandle" ∧ (parseMethodDescriptor yX6_copyTo.desc).map (fun d => d.parameters.length) = some 2 := by decide +kernel
theorem ydc_X6_copyFrom : yX6_copyFrom.cls ≠ "java/lang/invoke/MethodHandle" ∧ yX6_copyFrom.cls ≠ "java/lang/invoke/VarHandle" ∧ (parseMethodDescriptor yX6_copyFrom.desc).map (fun d => d.parameters.length) = some 2 := by decide +kernel
theorem ydc_X6_holder : yX6_holder.cls ≠ "java/lang/invoke/MethodHandle" ∧ yX6_holder.cls ≠ "java/lang/invoke/VarHandle" ∧ (parseMethodDescriptor yX6_holder.desc).map (fun d => d.parameters.length) = some 1 := by decide +kernel
theorem ydc_X6_uses : yX6_uses.cls ≠ "java/lang/invoke/MethodHandle" ∧ yX6_uses.cls ≠ "java/lang/invoke/VarHandle" ∧ (parseMethodDescriptor yX6_uses.desc).map (fun d => d.parameters.length) = some 1 := by decide +kernel
theorem ydc_X6_looks : yX6_looks.cls ≠ "java/lang/invoke/MethodHandle" ∧ yX6_looks.cls ≠ "java/lang/invoke/VarHandle" ∧ (parseMethodDescriptor yX6_looks.desc).map (fun d => d.parameters.length) = some 1 := by decide +kernel
theorem ydc_X6_parity : yX6_parity.cls ≠ "java/lang/invoke/MethodHandle" ∧ yX6_parity.cls ≠ "java/lang/invoke/VarHandle" ∧ (parseMethodDescriptor yX6_parity.desc).map (fun d => d.parameters.length) = some 0 := by decide +kernel
theorem ydc_X6_away : yX6_away.cls ≠ "java/lang/invoke/MethodHandle" ∧ yX6_away.cls ≠ "java/lang/invoke/VarHandle" ∧ (parseMethodDescriptor yX6_away.desc).map (fun d => d.parameters.length) = some 0 := by decide +kernel
theorem ydc_X6_refused : yX6_refused.cls ≠ "java/lang/invoke/MethodHandle" ∧ yX6_refused.cls ≠ "java/lang/invoke/VarHandle" ∧ (parseMethodDescriptor yX6_refused.desc).map (fun d => d.parameters.length) = some 0 := by decide +kernel
theorem ydc_X6_hasParity : yX6_hasParity.cls ≠ "java/lang/invoke/MethodHandle" ∧ yX6_hasParity.cls ≠ "java/lang/invoke/VarHandle" ∧ (parseMethodDescriptor yX6_hasParity.desc).map (fun d => d.parameters.length) = some 1 := by decide +kernel
theorem ydc_X6_isAway : yX6_isAway.cls ≠ "java/lang/invoke/MethodHandle" ∧ yX6_isAway.cls ≠ "java/lang/invoke/VarHandle" ∧ (parseMethodDescriptor yX6_isAway.desc).map (fun d => d.parameters.length) = some 1 := by decide +kernel
theorem ydc_X6_take : yX6_take.cls ≠ "java/lang/invoke/MethodHandle" ∧ yX6_take.cls ≠ "java/lang/invoke/VarHandle" ∧ (parseMethodDescriptor yX6_take.desc).map (fun d => d.parameters.length) = some 2 := by decide +kernel
theorem ydc_X6_giveParity : yX6_giveParity.cls ≠ "java/lang/invoke/MethodHandle" ∧ yX6_giveParity.cls ≠ "java/lang/invoke/VarHandle" ∧ (parseMethodDescriptor yX6_giveParity.desc).map (fun d => d.parameters.length) = some 1 := by decide +kernel
theorem ydc_X6_refuse : yX6_refuse.cls ≠ "java/lang/invoke/MethodHandle" ∧ yX6_refuse.cls ≠ "java/lang/invoke/VarHandle" ∧ (parseMethodDescriptor yX6_refuse.desc).map (fun d => d.parameters.length) = some 1 := by decide +kernel
theorem ydc_X6_teach : yX6_teach.cls ≠ "java/lang/invoke/MethodHandle" ∧ yX6_teach.cls ≠ "java/lang/invoke/VarHandle" ∧ (parseMethodDescriptor yX6_teach.desc).map (fun d => d.parameters.length) = some 2 := by decide +kernel
theorem ydc_X6_turnAway : yX6_turnAway.cls ≠ "java/lang/invoke/MethodHandle" ∧ yX6_turnAway.cls ≠ "java/lang/invoke/VarHandle" ∧ (parseMethodDescriptor yX6_turnAway.desc).map (fun d => d.parameters.length) = some 1 := by decide +kernel
theorem ydc_X7_init : yX7_init.cls ≠ "java/lang/invoke/MethodHandle" ∧ yX7_init.cls ≠ "java/lang/invoke/VarHandle" ∧ (parseMethodDescriptor yX7_init.desc).map (fun d => d.parameters.length) = some 2 := by decide +kernel
theorem ydc_X7_takers : yX7_takers.cls ≠ "java/lang/invoke/MethodHandle" ∧ yX7_takers.cls ≠ "java/lang/invoke/VarHandle" ∧ (parseMethodDescriptor yX7_takers.desc).map (fun d => d.parameters.length) = some 1 := by decide +kernel
theorem ydc_X7_takes : yX7_takes.cls ≠ "java/lang/invoke/MethodHandle" ∧ yX7_takes.cls ≠ "java/lang/invoke/VarHandle" ∧ (parseMethodDescriptor yX7_takes.desc).map (fun d => d.parameters.length) = some 2 := by decide +kernel
theorem ydc_X7_neededForParity : yX7_neededForParity.cls ≠ "java/lang/invoke/MethodHandle" ∧ yX7_neededForParity.cls ≠ "java/lang/invoke/VarHandle" ∧ (parseMethodDescriptor yX7_neededForParity.desc).map (fun d => d.parameters.length) = some 1 := by decide +kernel
theorem ydc_X7_canGoOn : yX7_canGoOn.cls ≠ "java/lang/invoke/MethodHandle" ∧ yX7_canGoOn.cls ≠ "java/lang/invoke/VarHandle" ∧ (parseMethodDescriptor yX7_canGoOn.desc).map (fun d => d.parameters.length) = some 2 := by decide +kernel
theorem ydc_X7_personOfRow : yX7_personOfRow.cls ≠ "java/lang/invoke/MethodHandle" ∧ yX7_personOfRow.cls ≠ "java/lang/invoke/VarHandle" ∧ (parseMethodDescriptor yX7_personOfRow.desc).map (fun d => d.parameters.length) = some 2 := by decide +kernel
theorem ydc_X7_lowestOther : yX7_lowestOther.cls ≠ "java/lang/invoke/MethodHandle" ∧ yX7_lowestOther.cls ≠ "java/lang/invoke/VarHandle" ∧ (parseMethodDescriptor yX7_lowestOther.desc).map (fun d => d.parameters.length) = some 2 := by decide +kernel
theorem ydc_X7_most : yX7_most.cls ≠ "java/lang/invoke/MethodHandle" ∧ yX7_most.cls ≠ "java/lang/invoke/VarHandle" ∧ (parseMethodDescriptor yX7_most.desc).map (fun d => d.parameters.length) = some 1 := by decide +kernel
theorem ydc_X7_waysTaken : yX7_waysTaken.cls ≠ "java/lang/invoke/MethodHandle" ∧ yX7_waysTaken.cls ≠ "java/lang/invoke/VarHandle" ∧ (parseMethodDescriptor yX7_waysTaken.desc).map (fun d => d.parameters.length) = some 2 := by decide +kernel
theorem ydc_X7_waysAtAll : yX7_waysAtAll.cls ≠ "java/lang/invoke/MethodHandle" ∧ yX7_waysAtAll.cls ≠ "java/lang/invoke/VarHandle" ∧ (parseMethodDescriptor yX7_waysAtAll.desc).map (fun d => d.parameters.length) = some 1 := by decide +kernel
theorem ydc_X7_choices : yX7_choices.cls ≠ "java/lang/invoke/MethodHandle" ∧ yX7_choices.cls ≠ "java/lang/invoke/VarHandle" ∧ (parseMethodDescriptor yX7_choices.desc).map (fun d => d.parameters.length) = some 2 := by decide +kernel
theorem ydc_X7_hasParityBehind : yX7_hasParityBehind.cls ≠ "java/lang/invoke/MethodHandle" ∧ yX7_hasParityBehind.cls ≠ "java/lang/invoke/VarHandle" ∧ (parseMethodDescriptor yX7_hasParityBehind.desc).map (fun d => d.parameters.length) = some 2 := by decide +kernel
theorem ydc_X7_takersByLooks : yX7_takersByLooks.cls ≠ "java/lang/invoke/MethodHandle" ∧ yX7_takersByLooks.cls ≠ "java/lang/invoke/VarHandle" ∧ (parseMethodDescriptor yX7_takersByLooks.desc).map (fun d => d.parameters.length) = some 1 := by decide +kernel
theorem ydc_X8_init : yX8_init.cls ≠ "java/lang/invoke/MethodHandle" ∧ yX8_init.cls ≠ "java/lang/invoke/VarHandle" ∧ (parseMethodDescriptor yX8_init.desc).map (fun d => d.parameters.length) = some 1 := by decide +kernel
theorem ydc_X8_read : yX8_read.cls ≠ "java/lang/invoke/MethodHandle" ∧ yX8_read.cls ≠ "java/lang/invoke/VarHandle" ∧ (parseMethodDescriptor yX8_read.desc).map (fun d => d.parameters.length) = some 0 := by decide +kernel
theorem ydc_X8_begin : yX8_begin.cls ≠ "java/lang/invoke/MethodHandle" ∧ yX8_begin.cls ≠ "java/lang/invoke/VarHandle" ∧ (parseMethodDescriptor yX8_begin.desc).map (fun d => d.parameters.length) = some 0 := by decide +kernel
theorem ydc_X8_beginsToken : yX8_beginsToken.cls ≠ "java/lang/invoke/MethodHandle" ∧ yX8_beginsToken.cls ≠ "java/lang/invoke/VarHandle" ∧ (parseMethodDescriptor yX8_beginsToken.desc).map (fun d => d.parameters.length) = some 1 := by decide +kernel
theorem ydc_X8_accepts : yX8_accepts.cls ≠ "java/lang/invoke/MethodHandle" ∧ yX8_accepts.cls ≠ "java/lang/invoke/VarHandle" ∧ (parseMethodDescriptor yX8_accepts.desc).map (fun d => d.parameters.length) = some 1 := by decide +kernel
theorem ydc_X8_beginsItem : yX8_beginsItem.cls ≠ "java/lang/invoke/MethodHandle" ∧ yX8_beginsItem.cls ≠ "java/lang/invoke/VarHandle" ∧ (parseMethodDescriptor yX8_beginsItem.desc).map (fun d => d.parameters.length) = some 1 := by decide +kernel
theorem ydc_X8_canBegin : yX8_canBegin.cls ≠ "java/lang/invoke/MethodHandle" ∧ yX8_canBegin.cls ≠ "java/lang/invoke/VarHandle" ∧ (parseMethodDescriptor yX8_canBegin.desc).map (fun d => d.parameters.length) = some 1 := by decide +kernel
theorem ydc_X8_numbersOfItem : yX8_numbersOfItem.cls ≠ "java/lang/invoke/MethodHandle" ∧ yX8_numbersOfItem.cls ≠ "java/lang/invoke/VarHandle" ∧ (parseMethodDescriptor yX8_numbersOfItem.desc).map (fun d => d.parameters.length) = some 0 := by decide +kernel
theorem ydc_X8_numberAt : yX8_numberAt.cls ≠ "java/lang/invoke/MethodHandle" ∧ yX8_numberAt.cls ≠ "java/lang/invoke/VarHandle" ∧ (parseMethodDescriptor yX8_numberAt.desc).map (fun d => d.parameters.length) = some 1 := by decide +kernel
theorem ydc_X8_acceptsNumber : yX8_acceptsNumber.cls ≠ "java/lang/invoke/MethodHandle" ∧ yX8_acceptsNumber.cls ≠ "java/lang/invoke/VarHandle" ∧ (parseMethodDescriptor yX8_acceptsNumber.desc).map (fun d => d.parameters.length) = some 1 := by decide +kernel
theorem ydc_X8_leastNumber : yX8_leastNumber.cls ≠ "java/lang/invoke/MethodHandle" ∧ yX8_leastNumber.cls ≠ "java/lang/invoke/VarHandle" ∧ (parseMethodDescriptor yX8_leastNumber.desc).map (fun d => d.parameters.length) = some 0 := by decide +kernel
theorem ydc_X8_mostNumber : yX8_mostNumber.cls ≠ "java/lang/invoke/MethodHandle" ∧ yX8_mostNumber.cls ≠ "java/lang/invoke/VarHandle" ∧ (parseMethodDescriptor yX8_mostNumber.desc).map (fun d => d.parameters.length) = some 0 := by decide +kernel
theorem ydc_X8_mostOfNote : yX8_mostOfNote.cls ≠ "java/lang/invoke/MethodHandle" ∧ yX8_mostOfNote.cls ≠ "java/lang/invoke/VarHandle" ∧ (parseMethodDescriptor yX8_mostOfNote.desc).map (fun d => d.parameters.length) = some 0 := by decide +kernel
theorem ydc_X8_store : yX8_store.cls ≠ "java/lang/invoke/MethodHandle" ∧ yX8_store.cls ≠ "java/lang/invoke/VarHandle" ∧ (parseMethodDescriptor yX8_store.desc).map (fun d => d.parameters.length) = some 1 := by decide +kernel
theorem ydc_X8_storeOfNote : yX8_storeOfNote.cls ≠ "java/lang/invoke/MethodHandle" ∧ yX8_storeOfNote.cls ≠ "java/lang/invoke/VarHandle" ∧ (parseMethodDescriptor yX8_storeOfNote.desc).map (fun d => d.parameters.length) = some 2 := by decide +kernel
theorem ydc_X8_endsItem : yX8_endsItem.cls ≠ "java/lang/invoke/MethodHandle" ∧ yX8_endsItem.cls ≠ "java/lang/invoke/VarHandle" ∧ (parseMethodDescriptor yX8_endsItem.desc).map (fun d => d.parameters.length) = some 0 := by decide +kernel
theorem ydc_X9_init : yX9_init.cls ≠ "java/lang/invoke/MethodHandle" ∧ yX9_init.cls ≠ "java/lang/invoke/VarHandle" ∧ (parseMethodDescriptor yX9_init.desc).map (fun d => d.parameters.length) = some 0 := by decide +kernel
theorem ydc_X9_add : yX9_add.cls ≠ "java/lang/invoke/MethodHandle" ∧ yX9_add.cls ≠ "java/lang/invoke/VarHandle" ∧ (parseMethodDescriptor yX9_add.desc).map (fun d => d.parameters.length) = some 1 := by decide +kernel
theorem ydc_X9_empty : yX9_empty.cls ≠ "java/lang/invoke/MethodHandle" ∧ yX9_empty.cls ≠ "java/lang/invoke/VarHandle" ∧ (parseMethodDescriptor yX9_empty.desc).map (fun d => d.parameters.length) = some 0 := by decide +kernel
theorem ydc_X9_hasDigit : yX9_hasDigit.cls ≠ "java/lang/invoke/MethodHandle" ∧ yX9_hasDigit.cls ≠ "java/lang/invoke/VarHandle" ∧ (parseMethodDescriptor yX9_hasDigit.desc).map (fun d => d.parameters.length) = some 1 := by decide +kernel
theorem ydc_X10_init : yX10_init.cls ≠ "java/lang/invoke/MethodHandle" ∧ yX10_init.cls ≠ "java/lang/invoke/VarHandle" ∧ (parseMethodDescriptor yX10_init.desc).map (fun d => d.parameters.length) = some 0 := by decide +kernel
theorem ydc_X10_type : yX10_type.cls ≠ "java/lang/invoke/MethodHandle" ∧ yX10_type.cls ≠ "java/lang/invoke/VarHandle" ∧ (parseMethodDescriptor yX10_type.desc).map (fun d => d.parameters.length) = some 1 := by decide +kernel
theorem ydc_X10_clear : yX10_clear.cls ≠ "java/lang/invoke/MethodHandle" ∧ yX10_clear.cls ≠ "java/lang/invoke/VarHandle" ∧ (parseMethodDescriptor yX10_clear.desc).map (fun d => d.parameters.length) = some 0 := by decide +kernel
theorem ydc_X10_country : yX10_country.cls ≠ "java/lang/invoke/MethodHandle" ∧ yX10_country.cls ≠ "java/lang/invoke/VarHandle" ∧ (parseMethodDescriptor yX10_country.desc).map (fun d => d.parameters.length) = some 0 := by decide +kernel
theorem ydc_X10_note : yX10_note.cls ≠ "java/lang/invoke/MethodHandle" ∧ yX10_note.cls ≠ "java/lang/invoke/VarHandle" ∧ (parseMethodDescriptor yX10_note.desc).map (fun d => d.parameters.length) = some 2 := by decide +kernel
theorem ydc_X10_person : yX10_person.cls ≠ "java/lang/invoke/MethodHandle" ∧ yX10_person.cls ≠ "java/lang/invoke/VarHandle" ∧ (parseMethodDescriptor yX10_person.desc).map (fun d => d.parameters.length) = some 2 := by decide +kernel
theorem ydc_X10_now : yX10_now.cls ≠ "java/lang/invoke/MethodHandle" ∧ yX10_now.cls ≠ "java/lang/invoke/VarHandle" ∧ (parseMethodDescriptor yX10_now.desc).map (fun d => d.parameters.length) = some 1 := by decide +kernel
theorem ydc_X10_passes : yX10_passes.cls ≠ "java/lang/invoke/MethodHandle" ∧ yX10_passes.cls ≠ "java/lang/invoke/VarHandle" ∧ (parseMethodDescriptor yX10_passes.desc).map (fun d => d.parameters.length) = some 2 := by decide +kernel
theorem ydc_X10_teaches : yX10_teaches.cls ≠ "java/lang/invoke/MethodHandle" ∧ yX10_teaches.cls ≠ "java/lang/invoke/VarHandle" ∧ (parseMethodDescriptor yX10_teaches.desc).map (fun d => d.parameters.length) = some 2 := by decide +kernel
theorem ydc_X10_sends : yX10_sends.cls ≠ "java/lang/invoke/MethodHandle" ∧ yX10_sends.cls ≠ "java/lang/invoke/VarHandle" ∧ (parseMethodDescriptor yX10_sends.desc).map (fun d => d.parameters.length) = some 2 := by decide +kernel
theorem ydc_X10_undo : yX10_undo.cls ≠ "java/lang/invoke/MethodHandle" ∧ yX10_undo.cls ≠ "java/lang/invoke/VarHandle" ∧ (parseMethodDescriptor yX10_undo.desc).map (fun d => d.parameters.length) = some 0 := by decide +kernel
theorem ydc_X10_soonest : yX10_soonest.cls ≠ "java/lang/invoke/MethodHandle" ∧ yX10_soonest.cls ≠ "java/lang/invoke/VarHandle" ∧ (parseMethodDescriptor yX10_soonest.desc).map (fun d => d.parameters.length) = some 2 := by decide +kernel
theorem ydc_X10_till : yX10_till.cls ≠ "java/lang/invoke/MethodHandle" ∧ yX10_till.cls ≠ "java/lang/invoke/VarHandle" ∧ (parseMethodDescriptor yX10_till.desc).map (fun d => d.parameters.length) = some 1 := by decide +kernel
theorem ydc_X10_odds : yX10_odds.cls ≠ "java/lang/invoke/MethodHandle" ∧ yX10_odds.cls ≠ "java/lang/invoke/VarHandle" ∧ (parseMethodDescriptor yX10_odds.desc).map (fun d => d.parameters.length) = some 3 := by decide +kernel
theorem ydc_X10_saw : yX10_saw.cls ≠ "java/lang/invoke/MethodHandle" ∧ yX10_saw.cls ≠ "java/lang/invoke/VarHandle" ∧ (parseMethodDescriptor yX10_saw.desc).map (fun d => d.parameters.length) = some 2 := by decide +kernel
theorem ydc_X10_canBe : yX10_canBe.cls ≠ "java/lang/invoke/MethodHandle" ∧ yX10_canBe.cls ≠ "java/lang/invoke/VarHandle" ∧ (parseMethodDescriptor yX10_canBe.desc).map (fun d => d.parameters.length) = some 1 := by decide +kernel
theorem ydc_X10_show : yX10_show.cls ≠ "java/lang/invoke/MethodHandle" ∧ yX10_show.cls ≠ "java/lang/invoke/VarHandle" ∧ (parseMethodDescriptor yX10_show.desc).map (fun d => d.parameters.length) = some 0 := by decide +kernel
theorem ydc_X10_hears : yX10_hears.cls ≠ "java/lang/invoke/MethodHandle" ∧ yX10_hears.cls ≠ "java/lang/invoke/VarHandle" ∧ (parseMethodDescriptor yX10_hears.desc).map (fun d => d.parameters.length) = some 2 := by decide +kernel
theorem ydc_X10_forget : yX10_forget.cls ≠ "java/lang/invoke/MethodHandle" ∧ yX10_forget.cls ≠ "java/lang/invoke/VarHandle" ∧ (parseMethodDescriptor yX10_forget.desc).map (fun d => d.parameters.length) = some 0 := by decide +kernel
theorem ydc_X10_years : yX10_years.cls ≠ "java/lang/invoke/MethodHandle" ∧ yX10_years.cls ≠ "java/lang/invoke/VarHandle" ∧ (parseMethodDescriptor yX10_years.desc).map (fun d => d.parameters.length) = some 0 := by decide +kernel
theorem ydc_X10_letIn : yX10_letIn.cls ≠ "java/lang/invoke/MethodHandle" ∧ yX10_letIn.cls ≠ "java/lang/invoke/VarHandle" ∧ (parseMethodDescriptor yX10_letIn.desc).map (fun d => d.parameters.length) = some 1 := by decide +kernel
theorem ydc_X10_rate : yX10_rate.cls ≠ "java/lang/invoke/MethodHandle" ∧ yX10_rate.cls ≠ "java/lang/invoke/VarHandle" ∧ (parseMethodDescriptor yX10_rate.desc).map (fun d => d.parameters.length) = some 2 := by decide +kernel
theorem ydc_X10_keep : yX10_keep.cls ≠ "java/lang/invoke/MethodHandle" ∧ yX10_keep.cls ≠ "java/lang/invoke/VarHandle" ∧ (parseMethodDescriptor yX10_keep.desc).map (fun d => d.parameters.length) = some 1 := by decide +kernel
theorem ydc_X10_back : yX10_back.cls ≠ "java/lang/invoke/MethodHandle" ∧ yX10_back.cls ≠ "java/lang/invoke/VarHandle" ∧ (parseMethodDescriptor yX10_back.desc).map (fun d => d.parameters.length) = some 1 := by decide +kernel
theorem ydc_X10_count : yX10_count.cls ≠ "java/lang/invoke/MethodHandle" ∧ yX10_count.cls ≠ "java/lang/invoke/VarHandle" ∧ (parseMethodDescriptor yX10_count.desc).map (fun d => d.parameters.length) = some 1 := by decide +kernel
theorem ydc_X10_trace : yX10_trace.cls ≠ "java/lang/invoke/MethodHandle" ∧ yX10_trace.cls ≠ "java/lang/invoke/VarHandle" ∧ (parseMethodDescriptor yX10_trace.desc).map (fun d => d.parameters.length) = some 0 := by decide +kernel
theorem ydc_X10_purse : yX10_purse.cls ≠ "java/lang/invoke/MethodHandle" ∧ yX10_purse.cls ≠ "java/lang/invoke/VarHandle" ∧ (parseMethodDescriptor yX10_purse.desc).map (fun d => d.parameters.length) = some 1 := by decide +kernel
theorem ydc_X10_isYesOrNo : yX10_isYesOrNo.cls ≠ "java/lang/invoke/MethodHandle" ∧ yX10_isYesOrNo.cls ≠ "java/lang/invoke/VarHandle" ∧ (parseMethodDescriptor yX10_isYesOrNo.desc).map (fun d => d.parameters.length) = some 1 := by decide +kernel
theorem ydc_X10_isImage : yX10_isImage.cls ≠ "java/lang/invoke/MethodHandle" ∧ yX10_isImage.cls ≠ "java/lang/invoke/VarHandle" ∧ (parseMethodDescriptor yX10_isImage.desc).map (fun d => d.parameters.length) = some 1 := by decide +kernel
theorem ydc_X10_hasBit : yX10_hasBit.cls ≠ "java/lang/invoke/MethodHandle" ∧ yX10_hasBit.cls ≠ "java/lang/invoke/VarHandle" ∧ (parseMethodDescriptor yX10_hasBit.desc).map (fun d => d.parameters.length) = some 2 := by decide +kernel
theorem ydc_X10_inLeastTerms : yX10_inLeastTerms.cls ≠ "java/lang/invoke/MethodHandle" ∧ yX10_inLeastTerms.cls ≠ "java/lang/invoke/VarHandle" ∧ (parseMethodDescriptor yX10_inLeastTerms.desc).map (fun d => d.parameters.length) = some 3 := by decide +kernel
theorem ydc_X11_init : yX11_init.cls ≠ "java/lang/invoke/MethodHandle" ∧ yX11_init.cls ≠ "java/lang/invoke/VarHandle" ∧ (parseMethodDescriptor yX11_init.desc).map (fun d => d.parameters.length) = some 0 := by decide +kernel
theorem ydc_X11_in : yX11_in.cls ≠ "java/lang/invoke/MethodHandle" ∧ yX11_in.cls ≠ "java/lang/invoke/VarHandle" ∧ (parseMethodDescriptor yX11_in.desc).map (fun d => d.parameters.length) = some 3 := by decide +kernel
theorem ydc_X11_ones : yX11_ones.cls ≠ "java/lang/invoke/MethodHandle" ∧ yX11_ones.cls ≠ "java/lang/invoke/VarHandle" ∧ (parseMethodDescriptor yX11_ones.desc).map (fun d => d.parameters.length) = some 1 := by decide +kernel
theorem ydc_X11_type : yX11_type.cls ≠ "java/lang/invoke/MethodHandle" ∧ yX11_type.cls ≠ "java/lang/invoke/VarHandle" ∧ (parseMethodDescriptor yX11_type.desc).map (fun d => d.parameters.length) = some 1 := by decide +kernel
theorem ydc_X11_clear : yX11_clear.cls ≠ "java/lang/invoke/MethodHandle" ∧ yX11_clear.cls ≠ "java/lang/invoke/VarHandle" ∧ (parseMethodDescriptor yX11_clear.desc).map (fun d => d.parameters.length) = some 0 := by decide +kernel
theorem ydc_X11_letterAt : yX11_letterAt.cls ≠ "java/lang/invoke/MethodHandle" ∧ yX11_letterAt.cls ≠ "java/lang/invoke/VarHandle" ∧ (parseMethodDescriptor yX11_letterAt.desc).map (fun d => d.parameters.length) = some 1 := by decide +kernel
theorem ydc_X11_advances : yX11_advances.cls ≠ "java/lang/invoke/MethodHandle" ∧ yX11_advances.cls ≠ "java/lang/invoke/VarHandle" ∧ (parseMethodDescriptor yX11_advances.desc).map (fun d => d.parameters.length) = some 0 := by decide +kernel
theorem ydc_X11_isWell : yX11_isWell.cls ≠ "java/lang/invoke/MethodHandle" ∧ yX11_isWell.cls ≠ "java/lang/invoke/VarHandle" ∧ (parseMethodDescriptor yX11_isWell.desc).map (fun d => d.parameters.length) = some 0 := by decide +kernel
theorem ydc_X11_takes : yX11_takes.cls ≠ "java/lang/invoke/MethodHandle" ∧ yX11_takes.cls ≠ "java/lang/invoke/VarHandle" ∧ (parseMethodDescriptor yX11_takes.desc).map (fun d => d.parameters.length) = some 1 := by decide +kernel
theorem ydc_X11_number : yX11_number.cls ≠ "java/lang/invoke/MethodHandle" ∧ yX11_number.cls ≠ "java/lang/invoke/VarHandle" ∧ (parseMethodDescriptor yX11_number.desc).map (fun d => d.parameters.length) = some 2 := by decide +kernel
theorem ydc_X11_begins : yX11_begins.cls ≠ "java/lang/invoke/MethodHandle" ∧ yX11_begins.cls ≠ "java/lang/invoke/VarHandle" ∧ (parseMethodDescriptor yX11_begins.desc).map (fun d => d.parameters.length) = some 0 := by decide +kernel
theorem ydc_X11_mayBegin : yX11_mayBegin.cls ≠ "java/lang/invoke/MethodHandle" ∧ yX11_mayBegin.cls ≠ "java/lang/invoke/VarHandle" ∧ (parseMethodDescriptor yX11_mayBegin.desc).map (fun d => d.parameters.length) = some 0 := by decide +kernel
theorem ydc_X11_readsItem : yX11_readsItem.cls ≠ "java/lang/invoke/MethodHandle" ∧ yX11_readsItem.cls ≠ "java/lang/invoke/VarHandle" ∧ (parseMethodDescriptor yX11_readsItem.desc).map (fun d => d.parameters.length) = some 1 := by decide +kernel
theorem ydc_X11_country : yX11_country.cls ≠ "java/lang/invoke/MethodHandle" ∧ yX11_country.cls ≠ "java/lang/invoke/VarHandle" ∧ (parseMethodDescriptor yX11_country.desc).map (fun d => d.parameters.length) = some 0 := by decide +kernel
theorem ydc_X11_settles : yX11_settles.cls ≠ "java/lang/invoke/MethodHandle" ∧ yX11_settles.cls ≠ "java/lang/invoke/VarHandle" ∧ (parseMethodDescriptor yX11_settles.desc).map (fun d => d.parameters.length) = some 0 := by decide +kernel
theorem ydc_X11_isPerson : yX11_isPerson.cls ≠ "java/lang/invoke/MethodHandle" ∧ yX11_isPerson.cls ≠ "java/lang/invoke/VarHandle" ∧ (parseMethodDescriptor yX11_isPerson.desc).map (fun d => d.parameters.length) = some 1 := by decide +kernel
theorem ydc_X11_isNote : yX11_isNote.cls ≠ "java/lang/invoke/MethodHandle" ∧ yX11_isNote.cls ≠ "java/lang/invoke/VarHandle" ∧ (parseMethodDescriptor yX11_isNote.desc).map (fun d => d.parameters.length) = some 1 := by decide +kernel
theorem ydc_X11_isAway : yX11_isAway.cls ≠ "java/lang/invoke/MethodHandle" ∧ yX11_isAway.cls ≠ "java/lang/invoke/VarHandle" ∧ (parseMethodDescriptor yX11_isAway.desc).map (fun d => d.parameters.length) = some 1 := by decide +kernel
theorem ydc_X11_hasParity : yX11_hasParity.cls ≠ "java/lang/invoke/MethodHandle" ∧ yX11_hasParity.cls ≠ "java/lang/invoke/VarHandle" ∧ (parseMethodDescriptor yX11_hasParity.desc).map (fun d => d.parameters.length) = some 1 := by decide +kernel
theorem ydc_X11_takers : yX11_takers.cls ≠ "java/lang/invoke/MethodHandle" ∧ yX11_takers.cls ≠ "java/lang/invoke/VarHandle" ∧ (parseMethodDescriptor yX11_takers.desc).map (fun d => d.parameters.length) = some 2 := by decide +kernel
theorem ydc_X11_note : yX11_note.cls ≠ "java/lang/invoke/MethodHandle" ∧ yX11_note.cls ≠ "java/lang/invoke/VarHandle" ∧ (parseMethodDescriptor yX11_note.desc).map (fun d => d.parameters.length) = some 2 := by decide +kernel
theorem ydc_X11_person : yX11_person.cls ≠ "java/lang/invoke/MethodHandle" ∧ yX11_person.cls ≠ "java/lang/invoke/VarHandle" ∧ (parseMethodDescriptor yX11_person.desc).map (fun d => d.parameters.length) = some 2 := by decide +kernel
theorem ydc_X11_worthOfAll : yX11_worthOfAll.cls ≠ "java/lang/invoke/MethodHandle" ∧ yX11_worthOfAll.cls ≠ "java/lang/invoke/VarHandle" ∧ (parseMethodDescriptor yX11_worthOfAll.desc).map (fun d => d.parameters.length) = some 1 := by decide +kernel
theorem ydc_X11_now : yX11_now.cls ≠ "java/lang/invoke/MethodHandle" ∧ yX11_now.cls ≠ "java/lang/invoke/VarHandle" ∧ (parseMethodDescriptor yX11_now.desc).map (fun d => d.parameters.length) = some 1 := by decide +kernel
theorem ydc_X11_notes : yX11_notes.cls ≠ "java/lang/invoke/MethodHandle" ∧ yX11_notes.cls ≠ "java/lang/invoke/VarHandle" ∧ (parseMethodDescriptor yX11_notes.desc).map (fun d => d.parameters.length) = some 0 := by decide +kernel
theorem ydc_X11_passes : yX11_passes.cls ≠ "java/lang/invoke/MethodHandle" ∧ yX11_passes.cls ≠ "java/lang/invoke/VarHandle" ∧ (parseMethodDescriptor yX11_passes.desc).map (fun d => d.parameters.length) = some 2 := by decide +kernel
theorem ydc_X11_teaches : yX11_teaches.cls ≠ "java/lang/invoke/MethodHandle" ∧ yX11_teaches.cls ≠ "java/lang/invoke/VarHandle" ∧ (parseMethodDescriptor yX11_teaches.desc).map (fun d => d.parameters.length) = some 2 := by decide +kernel
theorem ydc_X11_sends : yX11_sends.cls ≠ "java/lang/invoke/MethodHandle" ∧ yX11_sends.cls ≠ "java/lang/invoke/VarHandle" ∧ (parseMethodDescriptor yX11_sends.desc).map (fun d => d.parameters.length) = some 2 := by decide +kernel
theorem ydc_X11_undo : yX11_undo.cls ≠ "java/lang/invoke/MethodHandle" ∧ yX11_undo.cls ≠ "java/lang/invoke/VarHandle" ∧ (parseMethodDescriptor yX11_undo.desc).map (fun d => d.parameters.length) = some 0 := by decide +kernel
theorem ydc_X11_passings : yX11_passings.cls ≠ "java/lang/invoke/MethodHandle" ∧ yX11_passings.cls ≠ "java/lang/invoke/VarHandle" ∧ (parseMethodDescriptor yX11_passings.desc).map (fun d => d.parameters.length) = some 2 := by decide +kernel
theorem ydc_X11_soonest : yX11_soonest.cls ≠ "java/lang/invoke/MethodHandle" ∧ yX11_soonest.cls ≠ "java/lang/invoke/VarHandle" ∧ (parseMethodDescriptor yX11_soonest.desc).map (fun d => d.parameters.length) = some 2 := by decide +kernel
theorem ydc_X11_till : yX11_till.cls ≠ "java/lang/invoke/MethodHandle" ∧ yX11_till.cls ≠ "java/lang/invoke/VarHandle" ∧ (parseMethodDescriptor yX11_till.desc).map (fun d => d.parameters.length) = some 1 := by decide +kernel
theorem ydc_X11_gcd : yX11_gcd.cls ≠ "java/lang/invoke/MethodHandle" ∧ yX11_gcd.cls ≠ "java/lang/invoke/VarHandle" ∧ (parseMethodDescriptor yX11_gcd.desc).map (fun d => d.parameters.length) = some 2 := by decide +kernel
theorem ydc_X11_odds : yX11_odds.cls ≠ "java/lang/invoke/MethodHandle" ∧ yX11_odds.cls ≠ "java/lang/invoke/VarHandle" ∧ (parseMethodDescriptor yX11_odds.desc).map (fun d => d.parameters.length) = some 3 := by decide +kernel
theorem ydc_X11_saw : yX11_saw.cls ≠ "java/lang/invoke/MethodHandle" ∧ yX11_saw.cls ≠ "java/lang/invoke/VarHandle" ∧ (parseMethodDescriptor yX11_saw.desc).map (fun d => d.parameters.length) = some 2 := by decide +kernel
theorem ydc_X11_mayBe : yX11_mayBe.cls ≠ "java/lang/invoke/MethodHandle" ∧ yX11_mayBe.cls ≠ "java/lang/invoke/VarHandle" ∧ (parseMethodDescriptor yX11_mayBe.desc).map (fun d => d.parameters.length) = some 2 := by decide +kernel
theorem ydc_X11_canBe : yX11_canBe.cls ≠ "java/lang/invoke/MethodHandle" ∧ yX11_canBe.cls ≠ "java/lang/invoke/VarHandle" ∧ (parseMethodDescriptor yX11_canBe.desc).map (fun d => d.parameters.length) = some 1 := by decide +kernel
theorem ydc_X11_show : yX11_show.cls ≠ "java/lang/invoke/MethodHandle" ∧ yX11_show.cls ≠ "java/lang/invoke/VarHandle" ∧ (parseMethodDescriptor yX11_show.desc).map (fun d => d.parameters.length) = some 0 := by decide +kernel
theorem ydc_X11_hears : yX11_hears.cls ≠ "java/lang/invoke/MethodHandle" ∧ yX11_hears.cls ≠ "java/lang/invoke/VarHandle" ∧ (parseMethodDescriptor yX11_hears.desc).map (fun d => d.parameters.length) = some 2 := by decide +kernel
theorem ydc_X11_forget : yX11_forget.cls ≠ "java/lang/invoke/MethodHandle" ∧ yX11_forget.cls ≠ "java/lang/invoke/VarHandle" ∧ (parseMethodDescriptor yX11_forget.desc).map (fun d => d.parameters.length) = some 0 := by decide +kernel
theorem ydc_X11_years : yX11_years.cls ≠ "java/lang/invoke/MethodHandle" ∧ yX11_years.cls ≠ "java/lang/invoke/VarHandle" ∧ (parseMethodDescriptor yX11_years.desc).map (fun d => d.parameters.length) = some 0 := by decide +kernel
theorem ydc_X11_worthOf : yX11_worthOf.cls ≠ "java/lang/invoke/MethodHandle" ∧ yX11_worthOf.cls ≠ "java/lang/invoke/VarHandle" ∧ (parseMethodDescriptor yX11_worthOf.desc).map (fun d => d.parameters.length) = some 2 := by decide +kernel
theorem ydc_X11_letIn : yX11_letIn.cls ≠ "java/lang/invoke/MethodHandle" ∧ yX11_letIn.cls ≠ "java/lang/invoke/VarHandle" ∧ (parseMethodDescriptor yX11_letIn.desc).map (fun d => d.parameters.length) = some 1 := by decide +kernel
theorem ydc_X11_rate : yX11_rate.cls ≠ "java/lang/invoke/MethodHandle" ∧ yX11_rate.cls ≠ "java/lang/invoke/VarHandle" ∧ (parseMethodDescriptor yX11_rate.desc).map (fun d => d.parameters.length) = some 2 := by decide +kernel
theorem ydc_X11_keep : yX11_keep.cls ≠ "java/lang/invoke/MethodHandle" ∧ yX11_keep.cls ≠ "java/lang/invoke/VarHandle" ∧ (parseMethodDescriptor yX11_keep.desc).map (fun d => d.parameters.length) = some 1 := by decide +kernel
theorem ydc_X11_back : yX11_back.cls ≠ "java/lang/invoke/MethodHandle" ∧ yX11_back.cls ≠ "java/lang/invoke/VarHandle" ∧ (parseMethodDescriptor yX11_back.desc).map (fun d => d.parameters.length) = some 1 := by decide +kernel
theorem ydc_X11_count : yX11_count.cls ≠ "java/lang/invoke/MethodHandle" ∧ yX11_count.cls ≠ "java/lang/invoke/VarHandle" ∧ (parseMethodDescriptor yX11_count.desc).map (fun d => d.parameters.length) = some 1 := by decide +kernel
theorem ydc_X11_trace : yX11_trace.cls ≠ "java/lang/invoke/MethodHandle" ∧ yX11_trace.cls ≠ "java/lang/invoke/VarHandle" ∧ (parseMethodDescriptor yX11_trace.desc).map (fun d => d.parameters.length) = some 0 := by decide +kernel
theorem ydc_J6_bitCount_0f7a4 : yJ6_bitCount_0f7a4.cls ≠ "java/lang/invoke/MethodHandle" ∧ yJ6_bitCount_0f7a4.cls ≠ "java/lang/invoke/VarHandle" ∧ (parseMethodDescriptor yJ6_bitCount_0f7a4.desc).map (fun d => d.parameters.length) = some 1 := by decide +kernel
theorem ydc_J9_max_7cf53 : yJ9_max_7cf53.cls ≠ "java/lang/invoke/MethodHandle" ∧ yJ9_max_7cf53.cls ≠ "java/lang/invoke/VarHandle" ∧ (parseMethodDescriptor yJ9_max_7cf53.desc).map (fun d => d.parameters.length) = some 2 := by decide +kernel
theorem ydc_J9_min_7cf53 : yJ9_min_7cf53.cls ≠ "java/lang/invoke/MethodHandle" ∧ yJ9_min_7cf53.cls ≠ "java/lang/invoke/VarHandle" ∧ (parseMethodDescriptor yJ9_min_7cf53.desc).map (fun d => d.parameters.length) = some 2 := by decide +kernel
end
section
def nA (f : Nat → Nat) : Nat → Int32 := fun j => nI (f j)
theorem upd_nA (f : Nat → Nat) (j v : Nat) : upd (nA f) j (nI v) = nA (va_up f j v) := by
  funext a
  simp only [upd, nA, va_up]
  split <;> rfl
theorem cpy_nA (f g : Nat → Nat) (sp dp n : Nat) : va_cpy (nA f) (nA g) sp dp n = nA (va_cpy f g sp dp n) := by
  funext a
  simp only [va_cpy, nA]
  split <;> rfl
/-- the j-th number of cell k becomes v -/
def ms (M : Nat → Nat → Nat) (k j v : Nat) : Nat → Nat → Nat := va_up M k (va_up (M k) j v)
abbrev tyI (cI cZ : ClassId) : List (ClassId × FieldType) := [(cI, .int), (cZ, .boolean)]
def wX (cI cZ : ClassId) (ad : Nat → Nat) (M : Nat → Nat → Nat) (t : Int64) : va_W := [(ad 0, .inr (10, [.ref (ad 1), .ref (ad 3), .ref (ad 9), .ref (ad 14), .ref (ad 16), .ref (ad 18), .ref (ad 20), .ref (ad 21), .ref (ad 24), .ref (ad 27)])),
  (ad 1, .inr (9, [.ref (ad 2), .int (nI (M 1 1))])),
  (ad 2, .inl (cI, 150, .inl (nA (M 2)))),
  (ad 3, .inr (8, [.ref (ad 1), .ref (ad 4), .int (nI (M 3 2)), .int (nI (M 3 3)), .int (nI (M 3 4)), .int (nI (M 3 5)), .int (nI (M 3 6))])),
  (ad 4, .inr (1, [.ref (ad 5), .ref (ad 6), .ref (ad 7), .ref (ad 8), .int (nI (M 4 4)), .int (nI (M 4 5)), .int (nI (M 4 6)), .int (nI (M 4 7))])),
  (ad 5, .inl (cI, 5, .inl (nA (M 5)))),
  (ad 6, .inl (cI, 6, .inl (nA (M 6)))),
  (ad 7, .inl (cI, 6, .inl (nA (M 7)))),
  (ad 8, .inl (cI, 6, .inl (nA (M 8)))),
  (ad 9, .inr (1, [.ref (ad 10), .ref (ad 11), .ref (ad 12), .ref (ad 13), .int (nI (M 9 4)), .int (nI (M 9 5)), .int (nI (M 9 6)), .int (nI (M 9 7))])),
  (ad 10, .inl (cI, 5, .inl (nA (M 10)))),
  (ad 11, .inl (cI, 6, .inl (nA (M 11)))),
  (ad 12, .inl (cI, 6, .inl (nA (M 12)))),
  (ad 13, .inl (cI, 6, .inl (nA (M 13)))),
  (ad 14, .inr (6, [.ref (ad 15)])),
  (ad 15, .inl (cI, 20, .inl (nA (M 15)))),
  (ad 16, .inr (2, [.ref (ad 17), .int (nI (M 16 1)), .int (nI (M 16 2))])),
  (ad 17, .inl (cI, 200, .inl (nA (M 17)))),
  (ad 18, .inr (3, [.ref (ad 19), .int (nI (M 18 1))])),
  (ad 19, .inl (cI, 40, .inl (nA (M 19)))),
  (ad 20, .inr (7, [.ref (ad 9), .ref (ad 14)])),
  (ad 21, .inr (5, [.ref (ad 9), .ref (ad 14), .ref (ad 22), .ref (ad 23), .int (nI (M 21 4))])),
  (ad 22, .inl (cI, 6, .inl (nA (M 22)))),
  (ad 23, .inl (cI, 6, .inl (nA (M 23)))),
  (ad 24, .inr (0, [.ref (ad 9), .ref (ad 14), .ref (ad 25), .ref (ad 26), .int (nI (M 24 4))])),
  (ad 25, .inl (cI, 6, .inl (nA (M 25)))),
  (ad 26, .inl (cI, 6, .inl (nA (M 26)))),
  (ad 27, .inr (4, [.ref (ad 9), .ref (ad 14), .long t]))]
section WX
variable {cI cZ : ClassId} {ad : Nat → Nat} {M : Nat → Nat → Nat} {t : Int64}
theorem xc_0 : (wX cI cZ ad M t)[0]? = some (ad 0, .inr (10, [.ref (ad 1), .ref (ad 3), .ref (ad 9), .ref (ad 14), .ref (ad 16), .ref (ad 18), .ref (ad 20), .ref (ad 21), .ref (ad 24), .ref (ad 27)])) := rfl
theorem xc_1 : (wX cI cZ ad M t)[1]? = some (ad 1, .inr (9, [.ref (ad 2), .int (nI (M 1 1))])) := rfl
theorem xp_1_1 (v : Nat) : (wX cI cZ ad M t).set 1 (ad 1, .inr (9, [.ref (ad 2), .int (nI v)])) = wX cI cZ ad (ms M 1 1 v) t := rfl
theorem xc_2 : (wX cI cZ ad M t)[2]? = some (ad 2, .inl (cI, 150, .inl (nA (M 2)))) := rfl
theorem xs_2 (j v : Nat) : (wX cI cZ ad M t).set 2 (ad 2, .inl (cI, 150, .inl (upd (nA (M 2)) j (nI v)))) = wX cI cZ ad (ms M 2 j v) t := by rw [upd_nA]; rfl
theorem xr_2 (f : Nat → Nat) : (wX cI cZ ad M t).set 2 (ad 2, .inl (cI, 150, .inl (nA f))) = wX cI cZ ad (va_up M 2 f) t := rfl
theorem xc_3 : (wX cI cZ ad M t)[3]? = some (ad 3, .inr (8, [.ref (ad 1), .ref (ad 4), .int (nI (M 3 2)), .int (nI (M 3 3)), .int (nI (M 3 4)), .int (nI (M 3 5)), .int (nI (M 3 6))])) := rfl
theorem xp_3_2 (v : Nat) : (wX cI cZ ad M t).set 3 (ad 3, .inr (8, [.ref (ad 1), .ref (ad 4), .int (nI v), .int (nI (M 3 3)), .int (nI (M 3 4)), .int (nI (M 3 5)), .int (nI (M 3 6))])) = wX cI cZ ad (ms M 3 2 v) t := rfl
theorem xp_3_3 (v : Nat) : (wX cI cZ ad M t).set 3 (ad 3, .inr (8, [.ref (ad 1), .ref (ad 4), .int (nI (M 3 2)), .int (nI v), .int (nI (M 3 4)), .int (nI (M 3 5)), .int (nI (M 3 6))])) = wX cI cZ ad (ms M 3 3 v) t := rfl
theorem xp_3_4 (v : Nat) : (wX cI cZ ad M t).set 3 (ad 3, .inr (8, [.ref (ad 1), .ref (ad 4), .int (nI (M 3 2)), .int (nI (M 3 3)), .int (nI v), .int (nI (M 3 5)), .int (nI (M 3 6))])) = wX cI cZ ad (ms M 3 4 v) t := rfl
theorem xp_3_5 (v : Nat) : (wX cI cZ ad M t).set 3 (ad 3, .inr (8, [.ref (ad 1), .ref (ad 4), .int (nI (M 3 2)), .int (nI (M 3 3)), .int (nI (M 3 4)), .int (nI v), .int (nI (M 3 6))])) = wX cI cZ ad (ms M 3 5 v) t := rfl
theorem xp_3_6 (v : Nat) : (wX cI cZ ad M t).set 3 (ad 3, .inr (8, [.ref (ad 1), .ref (ad 4), .int (nI (M 3 2)), .int (nI (M 3 3)), .int (nI (M 3 4)), .int (nI (M 3 5)), .int (nI v)])) = wX cI cZ ad (ms M 3 6 v) t := rfl
theorem xc_4 : (wX cI cZ ad M t)[4]? = some (ad 4, .inr (1, [.ref (ad 5), .ref (ad 6), .ref (ad 7), .ref (ad 8), .int (nI (M 4 4)), .int (nI (M 4 5)), .int (nI (M 4 6)), .int (nI (M 4 7))])) := rfl
theorem xp_4_4 (v : Nat) : (wX cI cZ ad M t).set 4 (ad 4, .inr (1, [.ref (ad 5), .ref (ad 6), .ref (ad 7), .ref (ad 8), .int (nI v), .int (nI (M 4 5)), .int (nI (M 4 6)), .int (nI (M 4 7))])) = wX cI cZ ad (ms M 4 4 v) t := rfl
theorem xp_4_5 (v : Nat) : (wX cI cZ ad M t).set 4 (ad 4, .inr (1, [.ref (ad 5), .ref (ad 6), .ref (ad 7), .ref (ad 8), .int (nI (M 4 4)), .int (nI v), .int (nI (M 4 6)), .int (nI (M 4 7))])) = wX cI cZ ad (ms M 4 5 v) t := rfl
theorem xp_4_6 (v : Nat) : (wX cI cZ ad M t).set 4 (ad 4, .inr (1, [.ref (ad 5), .ref (ad 6), .ref (ad 7), .ref (ad 8), .int (nI (M 4 4)), .int (nI (M 4 5)), .int (nI v), .int (nI (M 4 7))])) = wX cI cZ ad (ms M 4 6 v) t := rfl
theorem xp_4_7 (v : Nat) : (wX cI cZ ad M t).set 4 (ad 4, .inr (1, [.ref (ad 5), .ref (ad 6), .ref (ad 7), .ref (ad 8), .int (nI (M 4 4)), .int (nI (M 4 5)), .int (nI (M 4 6)), .int (nI v)])) = wX cI cZ ad (ms M 4 7 v) t := rfl
theorem xc_5 : (wX cI cZ ad M t)[5]? = some (ad 5, .inl (cI, 5, .inl (nA (M 5)))) := rfl
theorem xs_5 (j v : Nat) : (wX cI cZ ad M t).set 5 (ad 5, .inl (cI, 5, .inl (upd (nA (M 5)) j (nI v)))) = wX cI cZ ad (ms M 5 j v) t := by rw [upd_nA]; rfl
theorem xr_5 (f : Nat → Nat) : (wX cI cZ ad M t).set 5 (ad 5, .inl (cI, 5, .inl (nA f))) = wX cI cZ ad (va_up M 5 f) t := rfl
theorem xc_6 : (wX cI cZ ad M t)[6]? = some (ad 6, .inl (cI, 6, .inl (nA (M 6)))) := rfl
theorem xs_6 (j v : Nat) : (wX cI cZ ad M t).set 6 (ad 6, .inl (cI, 6, .inl (upd (nA (M 6)) j (nI v)))) = wX cI cZ ad (ms M 6 j v) t := by rw [upd_nA]; rfl
theorem xr_6 (f : Nat → Nat) : (wX cI cZ ad M t).set 6 (ad 6, .inl (cI, 6, .inl (nA f))) = wX cI cZ ad (va_up M 6 f) t := rfl
theorem xc_7 : (wX cI cZ ad M t)[7]? = some (ad 7, .inl (cI, 6, .inl (nA (M 7)))) := rfl
theorem xs_7 (j v : Nat) : (wX cI cZ ad M t).set 7 (ad 7, .inl (cI, 6, .inl (upd (nA (M 7)) j (nI v)))) = wX cI cZ ad (ms M 7 j v) t := by rw [upd_nA]; rfl
theorem xr_7 (f : Nat → Nat) : (wX cI cZ ad M t).set 7 (ad 7, .inl (cI, 6, .inl (nA f))) = wX cI cZ ad (va_up M 7 f) t := rfl
theorem xc_8 : (wX cI cZ ad M t)[8]? = some (ad 8, .inl (cI, 6, .inl (nA (M 8)))) := rfl
theorem xs_8 (j v : Nat) : (wX cI cZ ad M t).set 8 (ad 8, .inl (cI, 6, .inl (upd (nA (M 8)) j (nI v)))) = wX cI cZ ad (ms M 8 j v) t := by rw [upd_nA]; rfl
theorem xr_8 (f : Nat → Nat) : (wX cI cZ ad M t).set 8 (ad 8, .inl (cI, 6, .inl (nA f))) = wX cI cZ ad (va_up M 8 f) t := rfl
theorem xc_9 : (wX cI cZ ad M t)[9]? = some (ad 9, .inr (1, [.ref (ad 10), .ref (ad 11), .ref (ad 12), .ref (ad 13), .int (nI (M 9 4)), .int (nI (M 9 5)), .int (nI (M 9 6)), .int (nI (M 9 7))])) := rfl
theorem xp_9_4 (v : Nat) : (wX cI cZ ad M t).set 9 (ad 9, .inr (1, [.ref (ad 10), .ref (ad 11), .ref (ad 12), .ref (ad 13), .int (nI v), .int (nI (M 9 5)), .int (nI (M 9 6)), .int (nI (M 9 7))])) = wX cI cZ ad (ms M 9 4 v) t := rfl
theorem xp_9_5 (v : Nat) : (wX cI cZ ad M t).set 9 (ad 9, .inr (1, [.ref (ad 10), .ref (ad 11), .ref (ad 12), .ref (ad 13), .int (nI (M 9 4)), .int (nI v), .int (nI (M 9 6)), .int (nI (M 9 7))])) = wX cI cZ ad (ms M 9 5 v) t := rfl
theorem xp_9_6 (v : Nat) : (wX cI cZ ad M t).set 9 (ad 9, .inr (1, [.ref (ad 10), .ref (ad 11), .ref (ad 12), .ref (ad 13), .int (nI (M 9 4)), .int (nI (M 9 5)), .int (nI v), .int (nI (M 9 7))])) = wX cI cZ ad (ms M 9 6 v) t := rfl
theorem xp_9_7 (v : Nat) : (wX cI cZ ad M t).set 9 (ad 9, .inr (1, [.ref (ad 10), .ref (ad 11), .ref (ad 12), .ref (ad 13), .int (nI (M 9 4)), .int (nI (M 9 5)), .int (nI (M 9 6)), .int (nI v)])) = wX cI cZ ad (ms M 9 7 v) t := rfl
theorem xc_10 : (wX cI cZ ad M t)[10]? = some (ad 10, .inl (cI, 5, .inl (nA (M 10)))) := rfl
theorem xs_10 (j v : Nat) : (wX cI cZ ad M t).set 10 (ad 10, .inl (cI, 5, .inl (upd (nA (M 10)) j (nI v)))) = wX cI cZ ad (ms M 10 j v) t := by rw [upd_nA]; rfl
theorem xr_10 (f : Nat → Nat) : (wX cI cZ ad M t).set 10 (ad 10, .inl (cI, 5, .inl (nA f))) = wX cI cZ ad (va_up M 10 f) t := rfl
theorem xc_11 : (wX cI cZ ad M t)[11]? = some (ad 11, .inl (cI, 6, .inl (nA (M 11)))) := rfl
theorem xs_11 (j v : Nat) : (wX cI cZ ad M t).set 11 (ad 11, .inl (cI, 6, .inl (upd (nA (M 11)) j (nI v)))) = wX cI cZ ad (ms M 11 j v) t := by rw [upd_nA]; rfl
theorem xr_11 (f : Nat → Nat) : (wX cI cZ ad M t).set 11 (ad 11, .inl (cI, 6, .inl (nA f))) = wX cI cZ ad (va_up M 11 f) t := rfl
theorem xc_12 : (wX cI cZ ad M t)[12]? = some (ad 12, .inl (cI, 6, .inl (nA (M 12)))) := rfl
theorem xs_12 (j v : Nat) : (wX cI cZ ad M t).set 12 (ad 12, .inl (cI, 6, .inl (upd (nA (M 12)) j (nI v)))) = wX cI cZ ad (ms M 12 j v) t := by rw [upd_nA]; rfl
theorem xr_12 (f : Nat → Nat) : (wX cI cZ ad M t).set 12 (ad 12, .inl (cI, 6, .inl (nA f))) = wX cI cZ ad (va_up M 12 f) t := rfl
theorem xc_13 : (wX cI cZ ad M t)[13]? = some (ad 13, .inl (cI, 6, .inl (nA (M 13)))) := rfl
theorem xs_13 (j v : Nat) : (wX cI cZ ad M t).set 13 (ad 13, .inl (cI, 6, .inl (upd (nA (M 13)) j (nI v)))) = wX cI cZ ad (ms M 13 j v) t := by rw [upd_nA]; rfl
theorem xr_13 (f : Nat → Nat) : (wX cI cZ ad M t).set 13 (ad 13, .inl (cI, 6, .inl (nA f))) = wX cI cZ ad (va_up M 13 f) t := rfl
theorem xc_14 : (wX cI cZ ad M t)[14]? = some (ad 14, .inr (6, [.ref (ad 15)])) := rfl
theorem xc_15 : (wX cI cZ ad M t)[15]? = some (ad 15, .inl (cI, 20, .inl (nA (M 15)))) := rfl
theorem xs_15 (j v : Nat) : (wX cI cZ ad M t).set 15 (ad 15, .inl (cI, 20, .inl (upd (nA (M 15)) j (nI v)))) = wX cI cZ ad (ms M 15 j v) t := by rw [upd_nA]; rfl
theorem xr_15 (f : Nat → Nat) : (wX cI cZ ad M t).set 15 (ad 15, .inl (cI, 20, .inl (nA f))) = wX cI cZ ad (va_up M 15 f) t := rfl
theorem xc_16 : (wX cI cZ ad M t)[16]? = some (ad 16, .inr (2, [.ref (ad 17), .int (nI (M 16 1)), .int (nI (M 16 2))])) := rfl
theorem xp_16_1 (v : Nat) : (wX cI cZ ad M t).set 16 (ad 16, .inr (2, [.ref (ad 17), .int (nI v), .int (nI (M 16 2))])) = wX cI cZ ad (ms M 16 1 v) t := rfl
theorem xp_16_2 (v : Nat) : (wX cI cZ ad M t).set 16 (ad 16, .inr (2, [.ref (ad 17), .int (nI (M 16 1)), .int (nI v)])) = wX cI cZ ad (ms M 16 2 v) t := rfl
theorem xc_17 : (wX cI cZ ad M t)[17]? = some (ad 17, .inl (cI, 200, .inl (nA (M 17)))) := rfl
theorem xs_17 (j v : Nat) : (wX cI cZ ad M t).set 17 (ad 17, .inl (cI, 200, .inl (upd (nA (M 17)) j (nI v)))) = wX cI cZ ad (ms M 17 j v) t := by rw [upd_nA]; rfl
theorem xr_17 (f : Nat → Nat) : (wX cI cZ ad M t).set 17 (ad 17, .inl (cI, 200, .inl (nA f))) = wX cI cZ ad (va_up M 17 f) t := rfl
theorem xc_18 : (wX cI cZ ad M t)[18]? = some (ad 18, .inr (3, [.ref (ad 19), .int (nI (M 18 1))])) := rfl
theorem xp_18_1 (v : Nat) : (wX cI cZ ad M t).set 18 (ad 18, .inr (3, [.ref (ad 19), .int (nI v)])) = wX cI cZ ad (ms M 18 1 v) t := rfl
theorem xc_19 : (wX cI cZ ad M t)[19]? = some (ad 19, .inl (cI, 40, .inl (nA (M 19)))) := rfl
theorem xs_19 (j v : Nat) : (wX cI cZ ad M t).set 19 (ad 19, .inl (cI, 40, .inl (upd (nA (M 19)) j (nI v)))) = wX cI cZ ad (ms M 19 j v) t := by rw [upd_nA]; rfl
theorem xr_19 (f : Nat → Nat) : (wX cI cZ ad M t).set 19 (ad 19, .inl (cI, 40, .inl (nA f))) = wX cI cZ ad (va_up M 19 f) t := rfl
theorem xc_20 : (wX cI cZ ad M t)[20]? = some (ad 20, .inr (7, [.ref (ad 9), .ref (ad 14)])) := rfl
theorem xc_21 : (wX cI cZ ad M t)[21]? = some (ad 21, .inr (5, [.ref (ad 9), .ref (ad 14), .ref (ad 22), .ref (ad 23), .int (nI (M 21 4))])) := rfl
theorem xp_21_4 (v : Nat) : (wX cI cZ ad M t).set 21 (ad 21, .inr (5, [.ref (ad 9), .ref (ad 14), .ref (ad 22), .ref (ad 23), .int (nI v)])) = wX cI cZ ad (ms M 21 4 v) t := rfl
theorem xc_22 : (wX cI cZ ad M t)[22]? = some (ad 22, .inl (cI, 6, .inl (nA (M 22)))) := rfl
theorem xs_22 (j v : Nat) : (wX cI cZ ad M t).set 22 (ad 22, .inl (cI, 6, .inl (upd (nA (M 22)) j (nI v)))) = wX cI cZ ad (ms M 22 j v) t := by rw [upd_nA]; rfl
theorem xr_22 (f : Nat → Nat) : (wX cI cZ ad M t).set 22 (ad 22, .inl (cI, 6, .inl (nA f))) = wX cI cZ ad (va_up M 22 f) t := rfl
theorem xc_23 : (wX cI cZ ad M t)[23]? = some (ad 23, .inl (cI, 6, .inl (nA (M 23)))) := rfl
theorem xs_23 (j v : Nat) : (wX cI cZ ad M t).set 23 (ad 23, .inl (cI, 6, .inl (upd (nA (M 23)) j (nI v)))) = wX cI cZ ad (ms M 23 j v) t := by rw [upd_nA]; rfl
theorem xr_23 (f : Nat → Nat) : (wX cI cZ ad M t).set 23 (ad 23, .inl (cI, 6, .inl (nA f))) = wX cI cZ ad (va_up M 23 f) t := rfl
theorem xc_24 : (wX cI cZ ad M t)[24]? = some (ad 24, .inr (0, [.ref (ad 9), .ref (ad 14), .ref (ad 25), .ref (ad 26), .int (nI (M 24 4))])) := rfl
theorem xp_24_4 (v : Nat) : (wX cI cZ ad M t).set 24 (ad 24, .inr (0, [.ref (ad 9), .ref (ad 14), .ref (ad 25), .ref (ad 26), .int (nI v)])) = wX cI cZ ad (ms M 24 4 v) t := rfl
theorem xc_25 : (wX cI cZ ad M t)[25]? = some (ad 25, .inl (cI, 6, .inl (nA (M 25)))) := rfl
theorem xs_25 (j v : Nat) : (wX cI cZ ad M t).set 25 (ad 25, .inl (cI, 6, .inl (upd (nA (M 25)) j (nI v)))) = wX cI cZ ad (ms M 25 j v) t := by rw [upd_nA]; rfl
theorem xr_25 (f : Nat → Nat) : (wX cI cZ ad M t).set 25 (ad 25, .inl (cI, 6, .inl (nA f))) = wX cI cZ ad (va_up M 25 f) t := rfl
theorem xc_26 : (wX cI cZ ad M t)[26]? = some (ad 26, .inl (cI, 6, .inl (nA (M 26)))) := rfl
theorem xs_26 (j v : Nat) : (wX cI cZ ad M t).set 26 (ad 26, .inl (cI, 6, .inl (upd (nA (M 26)) j (nI v)))) = wX cI cZ ad (ms M 26 j v) t := by rw [upd_nA]; rfl
theorem xr_26 (f : Nat → Nat) : (wX cI cZ ad M t).set 26 (ad 26, .inl (cI, 6, .inl (nA f))) = wX cI cZ ad (va_up M 26 f) t := rfl
theorem xc_27 : (wX cI cZ ad M t)[27]? = some (ad 27, .inr (4, [.ref (ad 9), .ref (ad 14), .long t])) := rfl
theorem xp_27_2 (u v : Int64) : (wX cI cZ ad M u).set 27 (ad 27, .inr (4, [.ref (ad 9), .ref (ad 14), .long v])) = wX cI cZ ad M v := rfl
end WX
def wY (cI cZ : ClassId) (ad : Nat → Nat) (M : Nat → Nat → Nat) (t : Int64) : va_W := [(ad 0, .inr (11, [.int (nI (M 0 0)), .long t, .ref (ad 1), .int (nI (M 0 3)), .int (nI (M 0 4)), .int (nI (M 0 5)), .int (nI (M 0 6)), .int (nI (M 0 7)), .int (nI (M 0 8) - 1), .ref (ad 2), .int (nI (M 0 10)), .ref (ad 3), .ref (ad 4), .ref (ad 5), .ref (ad 6), .ref (ad 7), .ref (ad 8), .ref (ad 9), .ref (ad 10), .int (nI (M 0 19)), .ref (ad 11), .ref (ad 12), .int (nI (M 0 22)), .ref (ad 13), .ref (ad 14), .int (nI (M 0 25)), .ref (ad 15), .ref (ad 16)])),
  (ad 1, .inl (cI, 150, .inl (nA (M 1)))),
  (ad 2, .inl (cI, 8, .inl (nA (M 2)))),
  (ad 3, .inl (cI, 5, .inl (nA (M 3)))),
  (ad 4, .inl (cI, 12, .inl (nA (M 4)))),
  (ad 5, .inl (cI, 12, .inl (nA (M 5)))),
  (ad 6, .inl (cI, 6, .inl (nA (M 6)))),
  (ad 7, .inl (cI, 20, .inl (nA (M 7)))),
  (ad 8, .inl (cI, 40, .inl (nA (M 8)))),
  (ad 9, .inl (cZ, 2, .inl (nA (M 9)))),
  (ad 10, .inl (cI, 200, .inl (nA (M 10)))),
  (ad 11, .inl (cI, 6, .inl (nA (M 11)))),
  (ad 12, .inl (cI, 6, .inl (nA (M 12)))),
  (ad 13, .inl (cI, 6, .inl (nA (M 13)))),
  (ad 14, .inl (cI, 6, .inl (nA (M 14)))),
  (ad 15, .inl (cI, 5, .inl (nA (M 15)))),
  (ad 16, .inl (cI, 5, .inl (nA (M 16))))]
section WY
variable {cI cZ : ClassId} {ad : Nat → Nat} {M : Nat → Nat → Nat} {t : Int64}
theorem yc_0 : (wY cI cZ ad M t)[0]? = some (ad 0, .inr (11, [.int (nI (M 0 0)), .long t, .ref (ad 1), .int (nI (M 0 3)), .int (nI (M 0 4)), .int (nI (M 0 5)), .int (nI (M 0 6)), .int (nI (M 0 7)), .int (nI (M 0 8) - 1), .ref (ad 2), .int (nI (M 0 10)), .ref (ad 3), .ref (ad 4), .ref (ad 5), .ref (ad 6), .ref (ad 7), .ref (ad 8), .ref (ad 9), .ref (ad 10), .int (nI (M 0 19)), .ref (ad 11), .ref (ad 12), .int (nI (M 0 22)), .ref (ad 13), .ref (ad 14), .int (nI (M 0 25)), .ref (ad 15), .ref (ad 16)])) := rfl
theorem yp_0_0 (v : Nat) : (wY cI cZ ad M t).set 0 (ad 0, .inr (11, [.int (nI v), .long t, .ref (ad 1), .int (nI (M 0 3)), .int (nI (M 0 4)), .int (nI (M 0 5)), .int (nI (M 0 6)), .int (nI (M 0 7)), .int (nI (M 0 8) - 1), .ref (ad 2), .int (nI (M 0 10)), .ref (ad 3), .ref (ad 4), .ref (ad 5), .ref (ad 6), .ref (ad 7), .ref (ad 8), .ref (ad 9), .ref (ad 10), .int (nI (M 0 19)), .ref (ad 11), .ref (ad 12), .int (nI (M 0 22)), .ref (ad 13), .ref (ad 14), .int (nI (M 0 25)), .ref (ad 15), .ref (ad 16)])) = wY cI cZ ad (ms M 0 0 v) t := rfl
theorem yp_0_1 (u v : Int64) : (wY cI cZ ad M u).set 0 (ad 0, .inr (11, [.int (nI (M 0 0)), .long v, .ref (ad 1), .int (nI (M 0 3)), .int (nI (M 0 4)), .int (nI (M 0 5)), .int (nI (M 0 6)), .int (nI (M 0 7)), .int (nI (M 0 8) - 1), .ref (ad 2), .int (nI (M 0 10)), .ref (ad 3), .ref (ad 4), .ref (ad 5), .ref (ad 6), .ref (ad 7), .ref (ad 8), .ref (ad 9), .ref (ad 10), .int (nI (M 0 19)), .ref (ad 11), .ref (ad 12), .int (nI (M 0 22)), .ref (ad 13), .ref (ad 14), .int (nI (M 0 25)), .ref (ad 15), .ref (ad 16)])) = wY cI cZ ad M v := rfl
theorem yp_0_3 (v : Nat) : (wY cI cZ ad M t).set 0 (ad 0, .inr (11, [.int (nI (M 0 0)), .long t, .ref (ad 1), .int (nI v), .int (nI (M 0 4)), .int (nI (M 0 5)), .int (nI (M 0 6)), .int (nI (M 0 7)), .int (nI (M 0 8) - 1), .ref (ad 2), .int (nI (M 0 10)), .ref (ad 3), .ref (ad 4), .ref (ad 5), .ref (ad 6), .ref (ad 7), .ref (ad 8), .ref (ad 9), .ref (ad 10), .int (nI (M 0 19)), .ref (ad 11), .ref (ad 12), .int (nI (M 0 22)), .ref (ad 13), .ref (ad 14), .int (nI (M 0 25)), .ref (ad 15), .ref (ad 16)])) = wY cI cZ ad (ms M 0 3 v) t := rfl
theorem yp_0_4 (v : Nat) : (wY cI cZ ad M t).set 0 (ad 0, .inr (11, [.int (nI (M 0 0)), .long t, .ref (ad 1), .int (nI (M 0 3)), .int (nI v), .int (nI (M 0 5)), .int (nI (M 0 6)), .int (nI (M 0 7)), .int (nI (M 0 8) - 1), .ref (ad 2), .int (nI (M 0 10)), .ref (ad 3), .ref (ad 4), .ref (ad 5), .ref (ad 6), .ref (ad 7), .ref (ad 8), .ref (ad 9), .ref (ad 10), .int (nI (M 0 19)), .ref (ad 11), .ref (ad 12), .int (nI (M 0 22)), .ref (ad 13), .ref (ad 14), .int (nI (M 0 25)), .ref (ad 15), .ref (ad 16)])) = wY cI cZ ad (ms M 0 4 v) t := rfl
theorem yp_0_5 (v : Nat) : (wY cI cZ ad M t).set 0 (ad 0, .inr (11, [.int (nI (M 0 0)), .long t, .ref (ad 1), .int (nI (M 0 3)), .int (nI (M 0 4)), .int (nI v), .int (nI (M 0 6)), .int (nI (M 0 7)), .int (nI (M 0 8) - 1), .ref (ad 2), .int (nI (M 0 10)), .ref (ad 3), .ref (ad 4), .ref (ad 5), .ref (ad 6), .ref (ad 7), .ref (ad 8), .ref (ad 9), .ref (ad 10), .int (nI (M 0 19)), .ref (ad 11), .ref (ad 12), .int (nI (M 0 22)), .ref (ad 13), .ref (ad 14), .int (nI (M 0 25)), .ref (ad 15), .ref (ad 16)])) = wY cI cZ ad (ms M 0 5 v) t := rfl
theorem yp_0_6 (v : Nat) : (wY cI cZ ad M t).set 0 (ad 0, .inr (11, [.int (nI (M 0 0)), .long t, .ref (ad 1), .int (nI (M 0 3)), .int (nI (M 0 4)), .int (nI (M 0 5)), .int (nI v), .int (nI (M 0 7)), .int (nI (M 0 8) - 1), .ref (ad 2), .int (nI (M 0 10)), .ref (ad 3), .ref (ad 4), .ref (ad 5), .ref (ad 6), .ref (ad 7), .ref (ad 8), .ref (ad 9), .ref (ad 10), .int (nI (M 0 19)), .ref (ad 11), .ref (ad 12), .int (nI (M 0 22)), .ref (ad 13), .ref (ad 14), .int (nI (M 0 25)), .ref (ad 15), .ref (ad 16)])) = wY cI cZ ad (ms M 0 6 v) t := rfl
theorem yp_0_7 (v : Nat) : (wY cI cZ ad M t).set 0 (ad 0, .inr (11, [.int (nI (M 0 0)), .long t, .ref (ad 1), .int (nI (M 0 3)), .int (nI (M 0 4)), .int (nI (M 0 5)), .int (nI (M 0 6)), .int (nI v), .int (nI (M 0 8) - 1), .ref (ad 2), .int (nI (M 0 10)), .ref (ad 3), .ref (ad 4), .ref (ad 5), .ref (ad 6), .ref (ad 7), .ref (ad 8), .ref (ad 9), .ref (ad 10), .int (nI (M 0 19)), .ref (ad 11), .ref (ad 12), .int (nI (M 0 22)), .ref (ad 13), .ref (ad 14), .int (nI (M 0 25)), .ref (ad 15), .ref (ad 16)])) = wY cI cZ ad (ms M 0 7 v) t := rfl
theorem yp_0_8 (v : Nat) : (wY cI cZ ad M t).set 0 (ad 0, .inr (11, [.int (nI (M 0 0)), .long t, .ref (ad 1), .int (nI (M 0 3)), .int (nI (M 0 4)), .int (nI (M 0 5)), .int (nI (M 0 6)), .int (nI (M 0 7)), .int (nI v - 1), .ref (ad 2), .int (nI (M 0 10)), .ref (ad 3), .ref (ad 4), .ref (ad 5), .ref (ad 6), .ref (ad 7), .ref (ad 8), .ref (ad 9), .ref (ad 10), .int (nI (M 0 19)), .ref (ad 11), .ref (ad 12), .int (nI (M 0 22)), .ref (ad 13), .ref (ad 14), .int (nI (M 0 25)), .ref (ad 15), .ref (ad 16)])) = wY cI cZ ad (ms M 0 8 v) t := rfl
theorem yp_0_10 (v : Nat) : (wY cI cZ ad M t).set 0 (ad 0, .inr (11, [.int (nI (M 0 0)), .long t, .ref (ad 1), .int (nI (M 0 3)), .int (nI (M 0 4)), .int (nI (M 0 5)), .int (nI (M 0 6)), .int (nI (M 0 7)), .int (nI (M 0 8) - 1), .ref (ad 2), .int (nI v), .ref (ad 3), .ref (ad 4), .ref (ad 5), .ref (ad 6), .ref (ad 7), .ref (ad 8), .ref (ad 9), .ref (ad 10), .int (nI (M 0 19)), .ref (ad 11), .ref (ad 12), .int (nI (M 0 22)), .ref (ad 13), .ref (ad 14), .int (nI (M 0 25)), .ref (ad 15), .ref (ad 16)])) = wY cI cZ ad (ms M 0 10 v) t := rfl
theorem yp_0_19 (v : Nat) : (wY cI cZ ad M t).set 0 (ad 0, .inr (11, [.int (nI (M 0 0)), .long t, .ref (ad 1), .int (nI (M 0 3)), .int (nI (M 0 4)), .int (nI (M 0 5)), .int (nI (M 0 6)), .int (nI (M 0 7)), .int (nI (M 0 8) - 1), .ref (ad 2), .int (nI (M 0 10)), .ref (ad 3), .ref (ad 4), .ref (ad 5), .ref (ad 6), .ref (ad 7), .ref (ad 8), .ref (ad 9), .ref (ad 10), .int (nI v), .ref (ad 11), .ref (ad 12), .int (nI (M 0 22)), .ref (ad 13), .ref (ad 14), .int (nI (M 0 25)), .ref (ad 15), .ref (ad 16)])) = wY cI cZ ad (ms M 0 19 v) t := rfl
theorem yp_0_22 (v : Nat) : (wY cI cZ ad M t).set 0 (ad 0, .inr (11, [.int (nI (M 0 0)), .long t, .ref (ad 1), .int (nI (M 0 3)), .int (nI (M 0 4)), .int (nI (M 0 5)), .int (nI (M 0 6)), .int (nI (M 0 7)), .int (nI (M 0 8) - 1), .ref (ad 2), .int (nI (M 0 10)), .ref (ad 3), .ref (ad 4), .ref (ad 5), .ref (ad 6), .ref (ad 7), .ref (ad 8), .ref (ad 9), .ref (ad 10), .int (nI (M 0 19)), .ref (ad 11), .ref (ad 12), .int (nI v), .ref (ad 13), .ref (ad 14), .int (nI (M 0 25)), .ref (ad 15), .ref (ad 16)])) = wY cI cZ ad (ms M 0 22 v) t := rfl
theorem yp_0_25 (v : Nat) : (wY cI cZ ad M t).set 0 (ad 0, .inr (11, [.int (nI (M 0 0)), .long t, .ref (ad 1), .int (nI (M 0 3)), .int (nI (M 0 4)), .int (nI (M 0 5)), .int (nI (M 0 6)), .int (nI (M 0 7)), .int (nI (M 0 8) - 1), .ref (ad 2), .int (nI (M 0 10)), .ref (ad 3), .ref (ad 4), .ref (ad 5), .ref (ad 6), .ref (ad 7), .ref (ad 8), .ref (ad 9), .ref (ad 10), .int (nI (M 0 19)), .ref (ad 11), .ref (ad 12), .int (nI (M 0 22)), .ref (ad 13), .ref (ad 14), .int (nI v), .ref (ad 15), .ref (ad 16)])) = wY cI cZ ad (ms M 0 25 v) t := rfl
theorem yc_1 : (wY cI cZ ad M t)[1]? = some (ad 1, .inl (cI, 150, .inl (nA (M 1)))) := rfl
theorem ys_1 (j v : Nat) : (wY cI cZ ad M t).set 1 (ad 1, .inl (cI, 150, .inl (upd (nA (M 1)) j (nI v)))) = wY cI cZ ad (ms M 1 j v) t := by rw [upd_nA]; rfl
theorem yr_1 (f : Nat → Nat) : (wY cI cZ ad M t).set 1 (ad 1, .inl (cI, 150, .inl (nA f))) = wY cI cZ ad (va_up M 1 f) t := rfl
theorem yc_2 : (wY cI cZ ad M t)[2]? = some (ad 2, .inl (cI, 8, .inl (nA (M 2)))) := rfl
theorem ys_2 (j v : Nat) : (wY cI cZ ad M t).set 2 (ad 2, .inl (cI, 8, .inl (upd (nA (M 2)) j (nI v)))) = wY cI cZ ad (ms M 2 j v) t := by rw [upd_nA]; rfl
theorem yr_2 (f : Nat → Nat) : (wY cI cZ ad M t).set 2 (ad 2, .inl (cI, 8, .inl (nA f))) = wY cI cZ ad (va_up M 2 f) t := rfl
theorem yc_3 : (wY cI cZ ad M t)[3]? = some (ad 3, .inl (cI, 5, .inl (nA (M 3)))) := rfl
theorem ys_3 (j v : Nat) : (wY cI cZ ad M t).set 3 (ad 3, .inl (cI, 5, .inl (upd (nA (M 3)) j (nI v)))) = wY cI cZ ad (ms M 3 j v) t := by rw [upd_nA]; rfl
theorem yr_3 (f : Nat → Nat) : (wY cI cZ ad M t).set 3 (ad 3, .inl (cI, 5, .inl (nA f))) = wY cI cZ ad (va_up M 3 f) t := rfl
theorem yc_4 : (wY cI cZ ad M t)[4]? = some (ad 4, .inl (cI, 12, .inl (nA (M 4)))) := rfl
theorem ys_4 (j v : Nat) : (wY cI cZ ad M t).set 4 (ad 4, .inl (cI, 12, .inl (upd (nA (M 4)) j (nI v)))) = wY cI cZ ad (ms M 4 j v) t := by rw [upd_nA]; rfl
theorem yr_4 (f : Nat → Nat) : (wY cI cZ ad M t).set 4 (ad 4, .inl (cI, 12, .inl (nA f))) = wY cI cZ ad (va_up M 4 f) t := rfl
theorem yc_5 : (wY cI cZ ad M t)[5]? = some (ad 5, .inl (cI, 12, .inl (nA (M 5)))) := rfl
theorem ys_5 (j v : Nat) : (wY cI cZ ad M t).set 5 (ad 5, .inl (cI, 12, .inl (upd (nA (M 5)) j (nI v)))) = wY cI cZ ad (ms M 5 j v) t := by rw [upd_nA]; rfl
theorem yr_5 (f : Nat → Nat) : (wY cI cZ ad M t).set 5 (ad 5, .inl (cI, 12, .inl (nA f))) = wY cI cZ ad (va_up M 5 f) t := rfl
theorem yc_6 : (wY cI cZ ad M t)[6]? = some (ad 6, .inl (cI, 6, .inl (nA (M 6)))) := rfl
theorem ys_6 (j v : Nat) : (wY cI cZ ad M t).set 6 (ad 6, .inl (cI, 6, .inl (upd (nA (M 6)) j (nI v)))) = wY cI cZ ad (ms M 6 j v) t := by rw [upd_nA]; rfl
theorem yr_6 (f : Nat → Nat) : (wY cI cZ ad M t).set 6 (ad 6, .inl (cI, 6, .inl (nA f))) = wY cI cZ ad (va_up M 6 f) t := rfl
theorem yc_7 : (wY cI cZ ad M t)[7]? = some (ad 7, .inl (cI, 20, .inl (nA (M 7)))) := rfl
theorem ys_7 (j v : Nat) : (wY cI cZ ad M t).set 7 (ad 7, .inl (cI, 20, .inl (upd (nA (M 7)) j (nI v)))) = wY cI cZ ad (ms M 7 j v) t := by rw [upd_nA]; rfl
theorem yr_7 (f : Nat → Nat) : (wY cI cZ ad M t).set 7 (ad 7, .inl (cI, 20, .inl (nA f))) = wY cI cZ ad (va_up M 7 f) t := rfl
theorem yc_8 : (wY cI cZ ad M t)[8]? = some (ad 8, .inl (cI, 40, .inl (nA (M 8)))) := rfl
theorem ys_8 (j v : Nat) : (wY cI cZ ad M t).set 8 (ad 8, .inl (cI, 40, .inl (upd (nA (M 8)) j (nI v)))) = wY cI cZ ad (ms M 8 j v) t := by rw [upd_nA]; rfl
theorem yr_8 (f : Nat → Nat) : (wY cI cZ ad M t).set 8 (ad 8, .inl (cI, 40, .inl (nA f))) = wY cI cZ ad (va_up M 8 f) t := rfl
theorem yc_9 : (wY cI cZ ad M t)[9]? = some (ad 9, .inl (cZ, 2, .inl (nA (M 9)))) := rfl
theorem ys_9 (j v : Nat) : (wY cI cZ ad M t).set 9 (ad 9, .inl (cZ, 2, .inl (upd (nA (M 9)) j (nI v)))) = wY cI cZ ad (ms M 9 j v) t := by rw [upd_nA]; rfl
theorem yr_9 (f : Nat → Nat) : (wY cI cZ ad M t).set 9 (ad 9, .inl (cZ, 2, .inl (nA f))) = wY cI cZ ad (va_up M 9 f) t := rfl
theorem yc_10 : (wY cI cZ ad M t)[10]? = some (ad 10, .inl (cI, 200, .inl (nA (M 10)))) := rfl
theorem ys_10 (j v : Nat) : (wY cI cZ ad M t).set 10 (ad 10, .inl (cI, 200, .inl (upd (nA (M 10)) j (nI v)))) = wY cI cZ ad (ms M 10 j v) t := by rw [upd_nA]; rfl
theorem yr_10 (f : Nat → Nat) : (wY cI cZ ad M t).set 10 (ad 10, .inl (cI, 200, .inl (nA f))) = wY cI cZ ad (va_up M 10 f) t := rfl
theorem yc_11 : (wY cI cZ ad M t)[11]? = some (ad 11, .inl (cI, 6, .inl (nA (M 11)))) := rfl
theorem ys_11 (j v : Nat) : (wY cI cZ ad M t).set 11 (ad 11, .inl (cI, 6, .inl (upd (nA (M 11)) j (nI v)))) = wY cI cZ ad (ms M 11 j v) t := by rw [upd_nA]; rfl
theorem yr_11 (f : Nat → Nat) : (wY cI cZ ad M t).set 11 (ad 11, .inl (cI, 6, .inl (nA f))) = wY cI cZ ad (va_up M 11 f) t := rfl
theorem yc_12 : (wY cI cZ ad M t)[12]? = some (ad 12, .inl (cI, 6, .inl (nA (M 12)))) := rfl
theorem ys_12 (j v : Nat) : (wY cI cZ ad M t).set 12 (ad 12, .inl (cI, 6, .inl (upd (nA (M 12)) j (nI v)))) = wY cI cZ ad (ms M 12 j v) t := by rw [upd_nA]; rfl
theorem yr_12 (f : Nat → Nat) : (wY cI cZ ad M t).set 12 (ad 12, .inl (cI, 6, .inl (nA f))) = wY cI cZ ad (va_up M 12 f) t := rfl
theorem yc_13 : (wY cI cZ ad M t)[13]? = some (ad 13, .inl (cI, 6, .inl (nA (M 13)))) := rfl
theorem ys_13 (j v : Nat) : (wY cI cZ ad M t).set 13 (ad 13, .inl (cI, 6, .inl (upd (nA (M 13)) j (nI v)))) = wY cI cZ ad (ms M 13 j v) t := by rw [upd_nA]; rfl
theorem yr_13 (f : Nat → Nat) : (wY cI cZ ad M t).set 13 (ad 13, .inl (cI, 6, .inl (nA f))) = wY cI cZ ad (va_up M 13 f) t := rfl
theorem yc_14 : (wY cI cZ ad M t)[14]? = some (ad 14, .inl (cI, 6, .inl (nA (M 14)))) := rfl
theorem ys_14 (j v : Nat) : (wY cI cZ ad M t).set 14 (ad 14, .inl (cI, 6, .inl (upd (nA (M 14)) j (nI v)))) = wY cI cZ ad (ms M 14 j v) t := by rw [upd_nA]; rfl
theorem yr_14 (f : Nat → Nat) : (wY cI cZ ad M t).set 14 (ad 14, .inl (cI, 6, .inl (nA f))) = wY cI cZ ad (va_up M 14 f) t := rfl
theorem yc_15 : (wY cI cZ ad M t)[15]? = some (ad 15, .inl (cI, 5, .inl (nA (M 15)))) := rfl
theorem ys_15 (j v : Nat) : (wY cI cZ ad M t).set 15 (ad 15, .inl (cI, 5, .inl (upd (nA (M 15)) j (nI v)))) = wY cI cZ ad (ms M 15 j v) t := by rw [upd_nA]; rfl
theorem yr_15 (f : Nat → Nat) : (wY cI cZ ad M t).set 15 (ad 15, .inl (cI, 5, .inl (nA f))) = wY cI cZ ad (va_up M 15 f) t := rfl
theorem yc_16 : (wY cI cZ ad M t)[16]? = some (ad 16, .inl (cI, 5, .inl (nA (M 16)))) := rfl
theorem ys_16 (j v : Nat) : (wY cI cZ ad M t).set 16 (ad 16, .inl (cI, 5, .inl (upd (nA (M 16)) j (nI v)))) = wY cI cZ ad (ms M 16 j v) t := by rw [upd_nA]; rfl
theorem yr_16 (f : Nat → Nat) : (wY cI cZ ad M t).set 16 (ad 16, .inl (cI, 5, .inl (nA f))) = wY cI cZ ad (va_up M 16 f) t := rfl
end WY
end
section
/-- x is one of 0 .. n - 1 -/
def inR (x : Int32) (n : Nat) : Bool := decide (¬ x < 0) && decide (x < nI n)
theorem inR_neg {x : Int32} {n : Nat} (h : x < 0) : inR x n = false := by simp [inR, h]
theorem inR_nI {j n : Nat} (hj : j < 2 ^ 31) (hn : n < 2 ^ 31) : inR (nI j) n = decide (j < n) := by
  have h1 : ¬ nI j < 0 := nI_pos hj
  simp [inR, h1, nI_ltI hj hn]
theorem inR_of {x : Int32} {n : Nat} (hn : n < 2 ^ 31) (h : inR x n = true) : ∃ j, j < n ∧ x = nI j := by
  simp only [inR, Bool.and_eq_true, decide_eq_true_eq] at h
  obtain ⟨j, hj, rfl⟩ := nI_of h.1
  exact ⟨j, (nI_ltI hj hn).mp h.2, rfl⟩
/-- the bit j of x, as the code asks it -/
def hb (x : Int32) (j : Nat) : Bool := decide ((x >>> (nI j &&& 31)) &&& nI 1 = nI 1)
theorem one_bit (a : Nat) : a &&& 1 = a % 2 := Nat.and_one_is_mod a
theorem hb_nI {a j : Nat} (ha : a < 2 ^ 31) (hj : j < 32) : hb (nI a) j = a.testBit j := by
  unfold hb
  rw [nI_shr a j hj ha, nI_and, one_bit, Nat.testBit_eq_decide_div_mod_eq]
  have hm : a / 2 ^ j % 2 < 2 ^ 31 := by omega
  simp only [nI_eq hm (by decide : 1 < 2 ^ 31)]
/-- 0 or 1 -/
def isYN (x : Int32) : Bool := decide (x = 0 ∨ x = 1)
theorem isYN_of {x : Int32} (h : isYN x = true) : ∃ j, j < 2 ∧ x = nI j := by
  simp only [isYN, decide_eq_true_eq] at h
  rcases h with rfl | rfl
  · exact ⟨0, by decide, rfl⟩
  · exact ⟨1, by decide, rfl⟩
theorem bI_t {b : Bool} (h : b = true) : some (Value.int (nI 1)) = some (.int (nI (bN b))) := by rw [h]; rfl
theorem bI_f {b : Bool} (h : b = false) : some (Value.int (nI 0)) = some (.int (nI (bN b))) := by rw [h]; rfl
theorem nB_nar (b : Bool) : narrow .boolean (.int (nI (bN b))) = .int (nI (bN b)) := by cases b <;> rfl
theorem ms_at {M : Nat → Nat → Nat} {k j v : Nat} : ms M k j v k j = v := by simp [ms, va_up]
theorem ms_ne {M : Nat → Nat → Nat} {k j v i : Nat} (h : i ≠ j) : ms M k j v k i = M k i := by simp [ms, va_up, h]
theorem ms_o {M : Nat → Nat → Nat} {k j v a : Nat} (h : a ≠ k) : ms M k j v a = M a := by simp [ms, va_up, h]
theorem ms_if (M : Nat → Nat → Nat) (k j v a i : Nat) : ms M k j v a i = if a = k ∧ i = j then v else M a i := by
  by_cases ha : a = k
  · subst ha
    by_cases hi : i = j
    · subst hi; simp [ms_at]
    · simp [ms_ne hi, hi]
  · simp [ms_o ha, ha]
theorem hB_ms {M : Nat → Nat → Nat} (h : ∀ k j, M k j < 1024) {a b v : Nat} (hv : v < 1024) : ∀ k j, ms M a b v k j < 1024 := by
  intro k j
  rw [ms_if]
  split
  · exact hv
  · exact h k j
def sumTo (f : Nat → Nat) : Nat → Nat
  | 0 => 0
  | n + 1 => sumTo f n + f n
def foldTo {α : Type} (g : Nat → α → α) (z : α) : Nat → α
  | 0 => z
  | n + 1 => g n (foldTo g z n)
/-- the first of i, i + 1 .. (k of them) with f -/
def findTo (f : Nat → Bool) : Nat → Nat → Option Nat
  | _, 0 => none
  | i, k + 1 => if f i then some i else findTo f (i + 1) k
theorem findTo_none (f : Nat → Bool) : ∀ (k i : Nat), (∀ j, i ≤ j → j < i + k → f j = false) → findTo f i k = none
  | 0, _, _ => rfl
  | k + 1, i, h => by
    unfold findTo
    rw [h i (by omega) (by omega)]
    exact findTo_none f k (i + 1) (fun j h1 h2 => h j (by omega) (by omega))
theorem findTo_some (f : Nat → Bool) : ∀ (k i n : Nat), i ≤ n → n < i + k → (∀ j, i ≤ j → j < n → f j = false) → f n = true → findTo f i k = some n
  | 0, i, n, h1, h2, _, _ => by omega
  | k + 1, i, n, h1, h2, h, hn => by
    unfold findTo
    by_cases e : i = n
    · subst e; rw [hn]; rfl
    · rw [h i (by omega) (by omega)]
      exact findTo_some f k (i + 1) n (by omega) (by omega) (fun j a b => h j (by omega) b) hn
theorem lt_succ_all {P : Nat → Prop} {n : Nat} (h : ∀ j, j < n → P j) (hn : P n) : ∀ j, j < n + 1 → P j := fun j hj => by
  rcases Nat.lt_succ_iff_lt_or_eq.mp hj with q | q
  · exact h j q
  · rw [q]; exact hn
theorem sh1 {n : Nat} (h : n < 32) : 1 * 2 ^ n < 2 ^ 32 := by rw [Nat.one_mul]; exact Nat.pow_lt_pow_right (by decide) h
theorem andlt {a b : Nat} (h : a < 1024) : a &&& b < 2 ^ 31 := Nat.lt_of_le_of_lt Nat.and_le_left (by omega)
/-- the notes' WORTH among the bits x -/
def x_wo (M : Nat → Nat → Nat) (x : Int32) : Nat := sumTo (fun n => if hb x n then M 11 n else 0) (M 9 5)
def x_fn (M : Nat → Nat → Nat) : Nat := foldTo (fun n a => if 0 < M 12 n then a ||| (1 * 2 ^ n) else a) 0 (M 9 5)
def x_tbl (M : Nat → Nat → Nat) (n : Nat) : Nat := foldTo (fun q a => if M 12 n &&& M 15 (12 + q) = 0 then a ||| (1 * 2 ^ q) else a) 0 (M 9 4)
def x_wt (M : Nat → Nat → Nat) (q a : Nat) : Bool := decide (M 15 (12 + q) &&& a = 0)
def x_fits (M : Nat → Nat → Nat) (a : Nat) : Bool := decide (∀ i, i < M 21 4 → bN (x_wt M (M 22 i) a) = M 23 i)
end
section
section X1
variable {l : Launch} {D : va_G} {cI cZ : ClassId} {ad : Nat → Nat} {M : Nat → Nat → Nat} {t : Int64}
set_option maxHeartbeats 4000000 in
set_option maxRecDepth 100000 in
theorem c_X10_hasBit {x : Int32} {j : Nat}  : CT l yX10_hasBit cX10_hasBit 2 (some .boolean) (rmOf 0 0) D (tyI cI cZ) [.int (x), .int (nI j)] (wX cI cZ ad M t) (some (.int (nI (bN (hb x j))))) (wX cI cZ ad M t) := by
  refine CT_of (own := "FalseParity") (by decide) rfl (Nat.le_of_ble_eq_true rfl) (fun p e s m args below meth c C hr => ?_)
  refine G_iload_n C 0 dX10_hasBit_0 rfl rfl ?_
  refine G_iload_n C 1 dX10_hasBit_1 rfl rfl ?_
  refine G_ishr C dX10_hasBit_2 ?_
  refine G_iconst C dX10_hasBit_3 kI_1 ?_
  refine G_iand C dX10_hasBit_4 ?_
  refine G_iconst C dX10_hasBit_5 kI_1 ?_
  refine G_icmp_ne (tgt := 13) C dX10_hasBit_6 (by decide) (fun h6_1 => ?_) (fun h6_1 => ?_)
  · refine G_iconst C dX10_hasBit_13 kI_0 ?_
    exact G_zret C hr dX10_hasBit_14 (by rfl) (bI_f (decide_eq_false h6_1)) (rfl)
  · refine G_iconst C dX10_hasBit_9 kI_1 ?_
    refine G_goto (tgt := 14) C dX10_hasBit_10 (by decide) ?_
    exact G_zret C hr dX10_hasBit_14 (by rfl) (bI_t (decide_eq_true h6_1)) (rfl)
set_option maxHeartbeats 4000000 in
set_option maxRecDepth 100000 in
theorem c_X10_isYesOrNo {x : Int32}  : CT l yX10_isYesOrNo cX10_isYesOrNo 1 (some .boolean) (rmOf 0 0) D (tyI cI cZ) [.int (x)] (wX cI cZ ad M t) (some (.int (nI (bN (isYN x))))) (wX cI cZ ad M t) := by
  refine CT_of (own := "FalseParity") (by decide) rfl (Nat.le_of_ble_eq_true rfl) (fun p e s m args below meth c C hr => ?_)
  refine G_iload_n C 0 dX10_isYesOrNo_0 rfl rfl ?_
  refine G_if_eq (tgt := 9) C dX10_isYesOrNo_1 (by decide) (fun h1_1 => ?_) (fun h1_1 => ?_)
  · refine G_iconst C dX10_isYesOrNo_9 kI_1 ?_
    refine G_goto (tgt := 14) C dX10_isYesOrNo_10 (by decide) ?_
    exact G_zret C hr dX10_isYesOrNo_14 (by rfl) (bI_t (by simp only [isYN, decide_eq_true_eq]; first | exact Or.inl h1_1 | exact Or.inr h1_1)) (rfl)
  · refine G_iload_n C 0 dX10_isYesOrNo_4 rfl rfl ?_
    refine G_iconst C dX10_isYesOrNo_5 kI_1 ?_
    refine G_icmp_ne (tgt := 13) C dX10_isYesOrNo_6 (by decide) (fun h6_2 => ?_) (fun h6_2 => ?_)
    · refine G_iconst C dX10_isYesOrNo_13 kI_0 ?_
      exact G_zret C hr dX10_isYesOrNo_14 (by rfl) (bI_f (by simp only [isYN, decide_eq_false_iff_not]; rintro (q | q); exact h1_1 q; exact h6_2 q)) (rfl)
    · refine G_iconst C dX10_isYesOrNo_9 kI_1 ?_
      refine G_goto (tgt := 14) C dX10_isYesOrNo_10 (by decide) ?_
      exact G_zret C hr dX10_isYesOrNo_14 (by rfl) (bI_t (by simp only [isYN, decide_eq_true_eq]; first | exact Or.inl h6_2 | exact Or.inr h6_2)) (rfl)
set_option maxHeartbeats 4000000 in
set_option maxRecDepth 100000 in
theorem c_X10_isImage {x : Int32}  : CT l yX10_isImage cX10_isImage 1 (some .boolean) (rmOf 0 0) D (tyI cI cZ) [.int (x)] (wX cI cZ ad M t) (some (.int (nI (bN (inR x 2))))) (wX cI cZ ad M t) := by
  refine CT_of (own := "FalseParity") (by decide) rfl (Nat.le_of_ble_eq_true rfl) (fun p e s m args below meth c C hr => ?_)
  refine G_iload_n C 0 dX10_isImage_0 rfl rfl ?_
  refine G_if_lt (tgt := 13) C dX10_isImage_1 (by decide) (fun h1_1 => ?_) (fun h1_1 => ?_)
  · refine G_iconst C dX10_isImage_13 kI_0 ?_
    exact G_zret C hr dX10_isImage_14 (by rfl) (bI_f (inR_neg h1_1)) (rfl)
  · obtain ⟨j, hlt_j, rfl⟩ := nI_of h1_1
    refine G_iload_n C 0 dX10_isImage_4 rfl rfl ?_
    refine G_iconst C dX10_isImage_5 kI_2 ?_
    refine G_icmp_geN (tgt := 13) C dX10_isImage_6 (by decide) (by omega) (by omega) (fun h6_2 => ?_) (fun h6_2 => ?_)
    · refine G_iconst C dX10_isImage_13 kI_0 ?_
      exact G_zret C hr dX10_isImage_14 (by rfl) (bI_f (by rw [inR_nI hlt_j (by decide)]; exact decide_eq_false (by omega))) (rfl)
    · refine G_iconst C dX10_isImage_9 kI_1 ?_
      refine G_goto (tgt := 14) C dX10_isImage_10 (by decide) ?_
      exact G_zret C hr dX10_isImage_14 (by rfl) (bI_t (by rw [inR_nI hlt_j (by decide)]; exact decide_eq_true h6_2)) (rfl)
set_option maxHeartbeats 4000000 in
set_option maxRecDepth 100000 in
theorem c_X1_hasPerson {x : Int32} (hB : ∀ k j, M k j < 1024) : CT l yX1_hasPerson cX1_hasPerson 2 (some .boolean) (rmOf 0 0) D (tyI cI cZ) [.ref (ad 9), .int (x)] (wX cI cZ ad M t) (some (.int (nI (bN (inR x (M 9 4)))))) (wX cI cZ ad M t) := by
  refine CT_of (own := "FalseParity$Country") (by decide) rfl (Nat.le_of_ble_eq_true rfl) (fun p e s m args below meth c C hr => ?_)
  refine G_iload_n C 1 dX1_hasPerson_0 rfl rfl ?_
  refine G_if_lt (tgt := 16) C dX1_hasPerson_1 (by decide) (fun h1_1 => ?_) (fun h1_1 => ?_)
  · refine G_iconst C dX1_hasPerson_16 kI_0 ?_
    exact G_zret C hr dX1_hasPerson_17 (by rfl) (bI_f (inR_neg h1_1)) (rfl)
  · obtain ⟨j, hlt_j, rfl⟩ := nI_of h1_1
    refine G_iload_n C 1 dX1_hasPerson_4 rfl rfl ?_
    refine G_aload_n C 0 dX1_hasPerson_5 rfl rfl ?_
    refine G_get (v := .int (nI (M 9 4))) C 9 4 dX1_hasPerson_6 xc_9 rfl inG1 (by decide) wm_118 rfl rfl ?_
    refine G_icmp_geN (tgt := 16) C dX1_hasPerson_9 (by decide) (by omega) (by have := hB 9 4; omega) (fun h9_2 => ?_) (fun h9_2 => ?_)
    · refine G_iconst C dX1_hasPerson_16 kI_0 ?_
      exact G_zret C hr dX1_hasPerson_17 (by rfl) (bI_f (by rw [inR_nI hlt_j (by have := hB 9 4; omega)]; exact decide_eq_false (by omega))) (rfl)
    · refine G_iconst C dX1_hasPerson_12 kI_1 ?_
      refine G_goto (tgt := 17) C dX1_hasPerson_13 (by decide) ?_
      exact G_zret C hr dX1_hasPerson_17 (by rfl) (bI_t (by rw [inR_nI hlt_j (by have := hB 9 4; omega)]; exact decide_eq_true h9_2)) (rfl)
set_option maxHeartbeats 4000000 in
set_option maxRecDepth 100000 in
theorem c_X1_hasNote {x : Int32} (hB : ∀ k j, M k j < 1024) : CT l yX1_hasNote cX1_hasNote 2 (some .boolean) (rmOf 0 0) D (tyI cI cZ) [.ref (ad 9), .int (x)] (wX cI cZ ad M t) (some (.int (nI (bN (inR x (M 9 5)))))) (wX cI cZ ad M t) := by
  refine CT_of (own := "FalseParity$Country") (by decide) rfl (Nat.le_of_ble_eq_true rfl) (fun p e s m args below meth c C hr => ?_)
  refine G_iload_n C 1 dX1_hasNote_0 rfl rfl ?_
  refine G_if_lt (tgt := 16) C dX1_hasNote_1 (by decide) (fun h1_1 => ?_) (fun h1_1 => ?_)
  · refine G_iconst C dX1_hasNote_16 kI_0 ?_
    exact G_zret C hr dX1_hasNote_17 (by rfl) (bI_f (inR_neg h1_1)) (rfl)
  · obtain ⟨j, hlt_j, rfl⟩ := nI_of h1_1
    refine G_iload_n C 1 dX1_hasNote_4 rfl rfl ?_
    refine G_aload_n C 0 dX1_hasNote_5 rfl rfl ?_
    refine G_get (v := .int (nI (M 9 5))) C 9 5 dX1_hasNote_6 xc_9 rfl inG1 (by decide) wm_123 rfl rfl ?_
    refine G_icmp_geN (tgt := 16) C dX1_hasNote_9 (by decide) (by omega) (by have := hB 9 5; omega) (fun h9_2 => ?_) (fun h9_2 => ?_)
    · refine G_iconst C dX1_hasNote_16 kI_0 ?_
      exact G_zret C hr dX1_hasNote_17 (by rfl) (bI_f (by rw [inR_nI hlt_j (by have := hB 9 5; omega)]; exact decide_eq_false (by omega))) (rfl)
    · refine G_iconst C dX1_hasNote_12 kI_1 ?_
      refine G_goto (tgt := 17) C dX1_hasNote_13 (by decide) ?_
      exact G_zret C hr dX1_hasNote_17 (by rfl) (bI_t (by rw [inR_nI hlt_j (by have := hB 9 5; omega)]; exact decide_eq_true h9_2)) (rfl)
set_option maxHeartbeats 4000000 in
set_option maxRecDepth 100000 in
theorem c_X1_isFalse {n : Nat} (hn : n < 6) (hB : ∀ k j, M k j < 1024) : CT l yX1_isFalse cX1_isFalse 2 (some .boolean) (rmOf 0 0) D (tyI cI cZ) [.ref (ad 9), .int (nI n)] (wX cI cZ ad M t) (some (.int (nI (bN (decide (0 < M 12 n)))))) (wX cI cZ ad M t) := by
  refine CT_of (own := "FalseParity$Country") (by decide) rfl (Nat.le_of_ble_eq_true rfl) (fun p e s m args below meth c C hr => ?_)
  refine G_aload_n C 0 dX1_isFalse_0 rfl rfl ?_
  refine G_get (v := .ref (ad 12)) C 9 2 dX1_isFalse_1 xc_9 rfl inG1 (by decide) wm_110 rfl rfl ?_
  refine G_iload_n C 1 dX1_isFalse_4 rfl rfl ?_
  refine G_iald (v := nI (M 12 n)) C 12 0 dX1_isFalse_5 xc_12 rfl (by omega) (by decide) rfl ?_
  refine G_if_eqN (tgt := 13) C dX1_isFalse_6 (by decide) (by have := hB 12 n; omega) (fun h6_1 => ?_) (fun h6_1 => ?_)
  · refine G_iconst C dX1_isFalse_13 kI_0 ?_
    exact G_zret C hr dX1_isFalse_14 (by rfl) (bI_f (decide_eq_false (by omega))) (rfl)
  · refine G_iconst C dX1_isFalse_9 kI_1 ?_
    refine G_goto (tgt := 14) C dX1_isFalse_10 (by decide) ?_
    exact G_zret C hr dX1_isFalse_14 (by rfl) (bI_t (decide_eq_true h6_1)) (rfl)
set_option maxHeartbeats 4000000 in
set_option maxRecDepth 100000 in
theorem c_X6_holder {n : Nat} (hn : n < 6) : CT l yX6_holder cX6_holder 2 (some .int) (rmOf 0 0) D (tyI cI cZ) [.ref (ad 14), .int (nI n)] (wX cI cZ ad M t) (some (.int (nI (M 15 n)))) (wX cI cZ ad M t) := by
  refine CT_of (own := "FalseParity$Now") (by decide) rfl (Nat.le_of_ble_eq_true rfl) (fun p e s m args below meth c C hr => ?_)
  refine G_aload_n C 0 dX6_holder_0 rfl rfl ?_
  refine G_get (v := .ref (ad 15)) C 14 0 dX6_holder_1 xc_14 rfl inG6 (by decide) wm_183 rfl rfl ?_
  refine G_iconst C dX6_holder_4 kI_0 ?_
  refine G_iload_n C 1 dX6_holder_5 rfl rfl ?_
  refine G_iaddN C dX6_holder_6 ?_
  refine G_top (y := nI (n)) (congrArg nI (Nat.zero_add _)) ?_
  refine G_iald (v := nI (M 15 n)) C 15 0 dX6_holder_7 xc_15 rfl (by omega) (by decide) rfl ?_
  exact G_iret C hr dX6_holder_8 (rfl) (rfl)
set_option maxHeartbeats 4000000 in
set_option maxRecDepth 100000 in
theorem c_X6_uses {n : Nat} (hn : n < 6) : CT l yX6_uses cX6_uses 2 (some .int) (rmOf 0 0) D (tyI cI cZ) [.ref (ad 14), .int (nI n)] (wX cI cZ ad M t) (some (.int (nI (M 15 (6 + n))))) (wX cI cZ ad M t) := by
  refine CT_of (own := "FalseParity$Now") (by decide) rfl (Nat.le_of_ble_eq_true rfl) (fun p e s m args below meth c C hr => ?_)
  refine G_aload_n C 0 dX6_uses_0 rfl rfl ?_
  refine G_get (v := .ref (ad 15)) C 14 0 dX6_uses_1 xc_14 rfl inG6 (by decide) wm_183 rfl rfl ?_
  refine G_bipush C dX6_uses_4 kB_6 ?_
  refine G_iload_n C 1 dX6_uses_6 rfl rfl ?_
  refine G_iaddN C dX6_uses_7 ?_
  refine G_iald (v := nI (M 15 (6 + n))) C 15 0 dX6_uses_8 xc_15 rfl (by omega) (by decide) rfl ?_
  exact G_iret C hr dX6_uses_9 (rfl) (rfl)
set_option maxHeartbeats 4000000 in
set_option maxRecDepth 100000 in
theorem c_X6_looks {n : Nat} (hn : n < 5) : CT l yX6_looks cX6_looks 2 (some .int) (rmOf 0 0) D (tyI cI cZ) [.ref (ad 14), .int (nI n)] (wX cI cZ ad M t) (some (.int (nI (M 15 (12 + n))))) (wX cI cZ ad M t) := by
  refine CT_of (own := "FalseParity$Now") (by decide) rfl (Nat.le_of_ble_eq_true rfl) (fun p e s m args below meth c C hr => ?_)
  refine G_aload_n C 0 dX6_looks_0 rfl rfl ?_
  refine G_get (v := .ref (ad 15)) C 14 0 dX6_looks_1 xc_14 rfl inG6 (by decide) wm_183 rfl rfl ?_
  refine G_bipush C dX6_looks_4 kB_12 ?_
  refine G_iload_n C 1 dX6_looks_6 rfl rfl ?_
  refine G_iaddN C dX6_looks_7 ?_
  refine G_iald (v := nI (M 15 (12 + n))) C 15 0 dX6_looks_8 xc_15 rfl (by omega) (by decide) rfl ?_
  exact G_iret C hr dX6_looks_9 (rfl) (rfl)
set_option maxHeartbeats 4000000 in
set_option maxRecDepth 100000 in
theorem c_X6_parity   : CT l yX6_parity cX6_parity 1 (some .int) (rmOf 0 0) D (tyI cI cZ) [.ref (ad 14)] (wX cI cZ ad M t) (some (.int (nI (M 15 17)))) (wX cI cZ ad M t) := by
  refine CT_of (own := "FalseParity$Now") (by decide) rfl (Nat.le_of_ble_eq_true rfl) (fun p e s m args below meth c C hr => ?_)
  refine G_aload_n C 0 dX6_parity_0 rfl rfl ?_
  refine G_get (v := .ref (ad 15)) C 14 0 dX6_parity_1 xc_14 rfl inG6 (by decide) wm_183 rfl rfl ?_
  refine G_bipush C dX6_parity_4 kB_17 ?_
  refine G_iald (v := nI (M 15 17)) C 15 0 dX6_parity_6 xc_15 rfl (by decide) (by decide) rfl ?_
  exact G_iret C hr dX6_parity_7 (rfl) (rfl)
set_option maxHeartbeats 4000000 in
set_option maxRecDepth 100000 in
theorem c_X6_away   : CT l yX6_away cX6_away 1 (some .int) (rmOf 0 0) D (tyI cI cZ) [.ref (ad 14)] (wX cI cZ ad M t) (some (.int (nI (M 15 18)))) (wX cI cZ ad M t) := by
  refine CT_of (own := "FalseParity$Now") (by decide) rfl (Nat.le_of_ble_eq_true rfl) (fun p e s m args below meth c C hr => ?_)
  refine G_aload_n C 0 dX6_away_0 rfl rfl ?_
  refine G_get (v := .ref (ad 15)) C 14 0 dX6_away_1 xc_14 rfl inG6 (by decide) wm_183 rfl rfl ?_
  refine G_bipush C dX6_away_4 kB_18 ?_
  refine G_iald (v := nI (M 15 18)) C 15 0 dX6_away_6 xc_15 rfl (by decide) (by decide) rfl ?_
  exact G_iret C hr dX6_away_7 (rfl) (rfl)
set_option maxHeartbeats 4000000 in
set_option maxRecDepth 100000 in
theorem c_X6_refused   : CT l yX6_refused cX6_refused 1 (some .int) (rmOf 0 0) D (tyI cI cZ) [.ref (ad 14)] (wX cI cZ ad M t) (some (.int (nI (M 15 19)))) (wX cI cZ ad M t) := by
  refine CT_of (own := "FalseParity$Now") (by decide) rfl (Nat.le_of_ble_eq_true rfl) (fun p e s m args below meth c C hr => ?_)
  refine G_aload_n C 0 dX6_refused_0 rfl rfl ?_
  refine G_get (v := .ref (ad 15)) C 14 0 dX6_refused_1 xc_14 rfl inG6 (by decide) wm_183 rfl rfl ?_
  refine G_bipush C dX6_refused_4 kB_19 ?_
  refine G_iald (v := nI (M 15 19)) C 15 0 dX6_refused_6 xc_15 rfl (by decide) (by decide) rfl ?_
  exact G_iret C hr dX6_refused_7 (rfl) (rfl)
set_option maxHeartbeats 4000000 in
set_option maxRecDepth 100000 in
theorem c_X6_hasParity {n : Nat}  : CT l yX6_hasParity cX6_hasParity 2 (some .boolean) (rmOf 1 21) D (tyI cI cZ) [.ref (ad 14), .int (nI n)] (wX cI cZ ad M t) (some (.int (nI (bN (hb (nI (M 15 17)) n))))) (wX cI cZ ad M t) := by
  refine CT_of (own := "FalseParity$Now") (by decide) rfl (Nat.le_of_ble_eq_true rfl) (fun p e s m args below meth c C hr => ?_)
  refine G_aload_n C 0 dX6_hasParity_0 rfl rfl ?_
  refine G_get (v := .ref (ad 15)) C 14 0 dX6_hasParity_1 xc_14 rfl inG6 (by decide) wm_183 rfl rfl ?_
  refine G_bipush C dX6_hasParity_4 kB_17 ?_
  refine G_iald (v := nI (M 15 17)) C 15 0 dX6_hasParity_6 xc_15 rfl (by decide) (by decide) rfl ?_
  refine G_iload_n C 1 dX6_hasParity_7 rfl rfl ?_
  refine G_callSN1 C [.int (nI (M 15 17)), .int (nI n)] dX6_hasParity_8 (c_X10_hasBit) wn_463 wm_464 wm_50 wm_465 ydc_X10_hasBit rfl ⟨Nat.le_of_ble_eq_true rfl, Nat.le_of_ble_eq_true rfl⟩ ⟨rfl, rfl⟩ ⟨Nat.le_refl _, Nat.le_refl _⟩ (Nat.le_of_ble_eq_true rfl) rfl ?_
  exact G_zret C hr dX6_hasParity_11 (nB_nar _) (rfl) (rfl)
set_option maxHeartbeats 4000000 in
set_option maxRecDepth 100000 in
theorem c_X6_isAway {n : Nat}  : CT l yX6_isAway cX6_isAway 2 (some .boolean) (rmOf 1 21) D (tyI cI cZ) [.ref (ad 14), .int (nI n)] (wX cI cZ ad M t) (some (.int (nI (bN (hb (nI (M 15 18)) n))))) (wX cI cZ ad M t) := by
  refine CT_of (own := "FalseParity$Now") (by decide) rfl (Nat.le_of_ble_eq_true rfl) (fun p e s m args below meth c C hr => ?_)
  refine G_aload_n C 0 dX6_isAway_0 rfl rfl ?_
  refine G_get (v := .ref (ad 15)) C 14 0 dX6_isAway_1 xc_14 rfl inG6 (by decide) wm_183 rfl rfl ?_
  refine G_bipush C dX6_isAway_4 kB_18 ?_
  refine G_iald (v := nI (M 15 18)) C 15 0 dX6_isAway_6 xc_15 rfl (by decide) (by decide) rfl ?_
  refine G_iload_n C 1 dX6_isAway_7 rfl rfl ?_
  refine G_callSN1 C [.int (nI (M 15 18)), .int (nI n)] dX6_isAway_8 (c_X10_hasBit) wn_463 wm_464 wm_50 wm_465 ydc_X10_hasBit rfl ⟨Nat.le_of_ble_eq_true rfl, Nat.le_of_ble_eq_true rfl⟩ ⟨rfl, rfl⟩ ⟨Nat.le_refl _, Nat.le_refl _⟩ (Nat.le_of_ble_eq_true rfl) rfl ?_
  exact G_zret C hr dX6_isAway_11 (nB_nar _) (rfl) (rfl)
set_option maxHeartbeats 4000000 in
set_option maxRecDepth 100000 in
theorem c_X6_take {n q : Nat} (hn : n < 6) : CT l yX6_take cX6_take 3 none (rmOf 0 0) D (tyI cI cZ) [.ref (ad 14), .int (nI n), .int (nI q)] (wX cI cZ ad M t) (none) (wX cI cZ ad (ms (ms M 15 (n) (q)) 15 (6 + n) (M 15 (6 + n) + 1)) t) := by
  refine CT_of (own := "FalseParity$Now") (by decide) rfl (Nat.le_of_ble_eq_true rfl) (fun p e s m args below meth c C hr => ?_)
  refine G_aload_n C 0 dX6_take_0 rfl rfl ?_
  refine G_get (v := .ref (ad 15)) C 14 0 dX6_take_1 xc_14 rfl inG6 (by decide) wm_183 rfl rfl ?_
  refine G_iconst C dX6_take_4 kI_0 ?_
  refine G_iload_n C 1 dX6_take_5 rfl rfl ?_
  refine G_iaddN C dX6_take_6 ?_
  refine G_top (y := nI (n)) (congrArg nI (Nat.zero_add _)) ?_
  refine G_iload_n C 2 dX6_take_7 rfl rfl ?_
  refine G_iast (w' := wX cI cZ ad (ms M 15 (n) (q)) t) C 15 0 dX6_take_8 xc_15 rfl (by omega) (by decide) (xs_15 _ _) ?_
  refine G_aload_n C 0 dX6_take_9 rfl rfl ?_
  refine G_get (v := .ref (ad 15)) C 14 0 dX6_take_10 xc_14 rfl inG6 (by decide) wm_183 rfl rfl ?_
  refine G_bipush C dX6_take_13 kB_6 ?_
  refine G_iload_n C 1 dX6_take_15 rfl rfl ?_
  refine G_iaddN C dX6_take_16 ?_
  refine G_dup2 C dX6_take_17 rfl rfl ?_
  refine G_iald (v := nI (M 15 (6 + n))) C 15 0 dX6_take_18 xc_15 rfl (by omega) (by decide) (congrArg nI (ms_ne (by omega))) ?_
  refine G_iconst C dX6_take_19 kI_1 ?_
  refine G_iaddN C dX6_take_20 ?_
  refine G_iast (w' := wX cI cZ ad (ms (ms M 15 (n) (q)) 15 (6 + n) ((M 15 (6 + n)) + 1)) t) C 15 0 dX6_take_21 xc_15 rfl (by omega) (by decide) (xs_15 _ _) ?_
  exact G_vret C hr dX6_take_22 rfl (rfl)
set_option maxHeartbeats 4000000 in
set_option maxRecDepth 100000 in
theorem c_X9_add {ch : Nat} (hlen : M 1 1 < 150) (hB : ∀ k j, M k j < 1024) : CT l yX9_add cX9_add 2 (some .int) (rmOf 0 0) D (tyI cI cZ) [.ref (ad 1), .int (nI ch)] (wX cI cZ ad M t) (some (.int (nI (M 1 1 + 1)))) (wX cI cZ ad (ms (ms M 2 (M 1 1) (ch)) 1 (1) (M 1 1 + 1)) t) := by
  refine CT_of (own := "FalseParity$Text") (by decide) rfl (Nat.le_of_ble_eq_true rfl) (fun p e s m args below meth c C hr => ?_)
  refine G_aload_n C 0 dX9_add_0 rfl rfl ?_
  refine G_get (v := .int (nI (M 1 1))) C 1 1 dX9_add_1 xc_1 rfl inG9 (by decide) wm_81 rfl rfl ?_
  refine G_sipush C dX9_add_4 kS_150 ?_
  refine G_icmp_ltN (tgt := 13) C dX9_add_7 (by decide) (by have := hB 1 1; omega) (by decide) (fun h7_1 => ?_) (fun h7_1 => ?_)
  · refine G_aload_n C 0 dX9_add_13 rfl rfl ?_
    refine G_get (v := .ref (ad 2)) C 1 0 dX9_add_14 xc_1 rfl inG9 (by decide) wm_79 rfl rfl ?_
    refine G_aload_n C 0 dX9_add_17 rfl rfl ?_
    refine G_get (v := .int (nI (M 1 1))) C 1 1 dX9_add_18 xc_1 rfl inG9 (by decide) wm_81 rfl rfl ?_
    refine G_iload_n C 1 dX9_add_21 rfl rfl ?_
    refine G_iast (w' := wX cI cZ ad (ms M 2 (M 1 1) (ch)) t) C 2 0 dX9_add_22 xc_2 rfl (by have := hB 1 1; omega) (by decide) (xs_2 _ _) ?_
    refine G_aload_n C 0 dX9_add_23 rfl rfl ?_
    refine G_dup C dX9_add_24 rfl ?_
    refine G_get (v := .int (nI (M 1 1))) C 1 1 dX9_add_25 xc_1 rfl inG9 (by decide) wm_81 rfl rfl ?_
    refine G_iconst C dX9_add_28 kI_1 ?_
    refine G_iaddN C dX9_add_29 ?_
    refine G_put (w' := wX cI cZ ad (ms (ms M 2 (M 1 1) (ch)) 1 (1) ((M 1 1) + 1)) t) (ty := .int) C 1 1 tyX9 dX9_add_30 xc_1 rfl inG9 tyX9_ok nmX9 (by decide) wm_81 rfl rfl (by decide +kernel) rfl rfl (Nat.le_of_ble_eq_true rfl) (xp_1_1 _) ?_
    refine G_aload_n C 0 dX9_add_33 rfl rfl ?_
    refine G_get (v := .int (nI ((M 1 1) + 1))) C 1 1 dX9_add_34 xc_1 rfl inG9 (by decide) wm_81 rfl rfl ?_
    exact G_iret C hr dX9_add_37 (rfl) (rfl)
  · exfalso; omega
end X1
end
section
section X2
variable {l : Launch} {D : va_G} {cI cZ : ClassId} {ad : Nat → Nat} {M : Nat → Nat → Nat} {t : Int64}
set_option maxHeartbeats 4000000 in
set_option maxRecDepth 100000 in
theorem c_X0_worthOf {x : Int32} (hN : M 9 5 ≤ 6) (hB : ∀ k j, M k j < 1024) : CT l yX0_worthOf cX0_worthOf 4 (some .int) (rmOf 1 21) D (tyI cI cZ) [.ref (ad 24), .int (x)] (wX cI cZ ad M t) (some (.int (nI (x_wo M x)))) (wX cI cZ ad M t) := by
  refine CT_of (own := "FalseParity$Board") (by decide) rfl (Nat.le_of_ble_eq_true rfl) (fun p e s m args below meth c C hr => ?_)
  refine G_iconst C dX0_worthOf_0 kI_0 ?_
  refine G_istore_n (lv' := [(2, .int (nI 0)), (0, .ref (ad 24)), (1, .int (x))]) C dX0_worthOf_1 rfl (by decide) rfl ?_
  refine G_iconst C dX0_worthOf_2 kI_0 ?_
  refine G_istore_n (lv' := [(3, .int (nI 0)), (2, .int (nI 0)), (0, .ref (ad 24)), (1, .int (x))]) C dX0_worthOf_3 rfl (by decide) rfl ?_
  refine G_pick (lv' := [(0, .ref (ad 24)), (1, .int (x)), (2, .int (nI 0)), (3, .int (nI 0))]) [2, 3, 1, 0] rfl ?_
  refine loopN (P := fun n => ∀ sm : Nat, (sm = sumTo (fun n => if hb x n then M 11 n else 0) n) → G p l e _ s m args below meth c D _ _ _ _ _ 4 [(0, .ref (ad 24)), (1, .int (x)), (2, .int (nI sm)), (3, .int (nI n))] [] (wX cI cZ ad M t)) (M 9 5) ?_ ?_ 0 (Nat.zero_le _) (0) rfl
  · intro sm hi1_0
    refine G_iload_n C 3 dX0_worthOf_4 rfl rfl ?_
    refine G_aload_n C 0 dX0_worthOf_5 rfl rfl ?_
    refine G_get (v := .ref (ad 9)) C 24 0 dX0_worthOf_6 xc_24 rfl inG0 (by decide) wm_259 rfl rfl ?_
    refine G_getN (v := .int (nI (M 9 5))) C 9 5 dX0_worthOf_9 xc_9 rfl inG1 (by decide) wn_125 rfl rfl ?_
    refine G_icmp_geN (tgt := 41) C dX0_worthOf_12 (by decide) (by have := hB 9 5; omega) (by have := hB 9 5; omega) (fun h12_2 => ?_) (fun h12_2 => ?_)
    · refine G_iload_n C 2 dX0_worthOf_41 rfl rfl ?_
      exact G_iret C hr dX0_worthOf_42 (by rw [hi1_0]; rfl) (rfl)
    · exfalso; omega
  · intro n hn ih1 sm hi1_0
    refine G_iload_n C 3 dX0_worthOf_4 rfl rfl ?_
    refine G_aload_n C 0 dX0_worthOf_5 rfl rfl ?_
    refine G_get (v := .ref (ad 9)) C 24 0 dX0_worthOf_6 xc_24 rfl inG0 (by decide) wm_259 rfl rfl ?_
    refine G_getN (v := .int (nI (M 9 5))) C 9 5 dX0_worthOf_9 xc_9 rfl inG1 (by decide) wn_125 rfl rfl ?_
    refine G_icmp_geN (tgt := 41) C dX0_worthOf_12 (by decide) (by omega) (by have := hB 9 5; omega) (fun h12_3 => ?_) (fun h12_3 => ?_)
    · exfalso; omega
    · refine G_iload_n C 1 dX0_worthOf_15 rfl rfl ?_
      refine G_iload_n C 3 dX0_worthOf_16 rfl rfl ?_
      refine G_callSN1 C [.int (x), .int (nI n)] dX0_worthOf_17 (c_X10_hasBit) wn_521 wm_464 wm_50 wm_465 ydc_X10_hasBit rfl ⟨Nat.le_of_ble_eq_true rfl, Nat.le_of_ble_eq_true rfl⟩ ⟨rfl, rfl⟩ ⟨Nat.le_refl _, Nat.le_refl _⟩ (Nat.le_of_ble_eq_true rfl) rfl ?_
      refine G_if_eqB (tgt := 35) C dX0_worthOf_20 (by decide) (fun h20_4 => ?_) (fun h20_4 => ?_)
      · refine G_iincN (lv' := [(3, .int (nI (n + 1))), (0, .ref (ad 24)), (1, .int (x)), (2, .int (nI sm))]) C 3 dX0_worthOf_35 rfl (by decide) rfl ?_
        refine G_goto (tgt := 4) C dX0_worthOf_38 (by decide) ?_
        refine G_pick (lv' := [(0, .ref (ad 24)), (1, .int (x)), (2, .int (nI sm)), (3, .int (nI (n + 1)))]) [1, 2, 3, 0] rfl ?_
        exact ih1 _ (by simp [sumTo, hi1_0, h20_4])
      · refine G_iload_n C 2 dX0_worthOf_23 rfl rfl ?_
        refine G_aload_n C 0 dX0_worthOf_24 rfl rfl ?_
        refine G_get (v := .ref (ad 9)) C 24 0 dX0_worthOf_25 xc_24 rfl inG0 (by decide) wm_259 rfl rfl ?_
        refine G_getN (v := .ref (ad 11)) C 9 1 dX0_worthOf_28 xc_9 rfl inG1 (by decide) wn_108 rfl rfl ?_
        refine G_iload_n C 3 dX0_worthOf_31 rfl rfl ?_
        refine G_iald (v := nI (M 11 n)) C 11 0 dX0_worthOf_32 xc_11 rfl (by omega) (by decide) rfl ?_
        refine G_iaddN C dX0_worthOf_33 ?_
        refine G_istore_n (lv' := [(2, .int (nI (sm + (M 11 n)))), (0, .ref (ad 24)), (1, .int (x)), (3, .int (nI n))]) C dX0_worthOf_34 rfl (by decide) rfl ?_
        refine G_iincN (lv' := [(3, .int (nI (n + 1))), (2, .int (nI (sm + (M 11 n)))), (0, .ref (ad 24)), (1, .int (x))]) C 3 dX0_worthOf_35 rfl (by decide) rfl ?_
        refine G_goto (tgt := 4) C dX0_worthOf_38 (by decide) ?_
        refine G_pick (lv' := [(0, .ref (ad 24)), (1, .int (x)), (2, .int (nI (sm + (M 11 n)))), (3, .int (nI (n + 1)))]) [2, 3, 1, 0] rfl ?_
        exact ih1 _ (by simp [sumTo, hi1_0, h20_4])
set_option maxHeartbeats 4000000 in
set_option maxRecDepth 100000 in
theorem c_X0_falseNotes  (hN : M 9 5 ≤ 6) (hB : ∀ k j, M k j < 1024) : CT l yX0_falseNotes cX0_falseNotes 3 (some .int) (rmOf 1 21) D (tyI cI cZ) [.ref (ad 24)] (wX cI cZ ad M t) (some (.int (nI (x_fn M)))) (wX cI cZ ad M t) := by
  refine CT_of (own := "FalseParity$Board") (by decide) rfl (Nat.le_of_ble_eq_true rfl) (fun p e s m args below meth c C hr => ?_)
  refine G_iconst C dX0_falseNotes_0 kI_0 ?_
  refine G_istore_n (lv' := [(1, .int (nI 0)), (0, .ref (ad 24))]) C dX0_falseNotes_1 rfl (by decide) rfl ?_
  refine G_iconst C dX0_falseNotes_2 kI_0 ?_
  refine G_istore_n (lv' := [(2, .int (nI 0)), (1, .int (nI 0)), (0, .ref (ad 24))]) C dX0_falseNotes_3 rfl (by decide) rfl ?_
  refine G_pick (lv' := [(0, .ref (ad 24)), (1, .int (nI 0)), (2, .int (nI 0))]) [2, 1, 0] rfl ?_
  refine loopN (P := fun n => ∀ a : Nat, (a = foldTo (fun n a => if 0 < M 12 n then a ||| (1 * 2 ^ n) else a) 0 n) → G p l e _ s m args below meth c D _ _ _ _ _ 4 [(0, .ref (ad 24)), (1, .int (nI a)), (2, .int (nI n))] [] (wX cI cZ ad M t)) (M 9 5) ?_ ?_ 0 (Nat.zero_le _) (0) rfl
  · intro a hi1_0
    refine G_iload_n C 2 dX0_falseNotes_4 rfl rfl ?_
    refine G_aload_n C 0 dX0_falseNotes_5 rfl rfl ?_
    refine G_get (v := .ref (ad 9)) C 24 0 dX0_falseNotes_6 xc_24 rfl inG0 (by decide) wm_259 rfl rfl ?_
    refine G_getN (v := .int (nI (M 9 5))) C 9 5 dX0_falseNotes_9 xc_9 rfl inG1 (by decide) wn_125 rfl rfl ?_
    refine G_icmp_geN (tgt := 38) C dX0_falseNotes_12 (by decide) (by have := hB 9 5; omega) (by have := hB 9 5; omega) (fun h12_2 => ?_) (fun h12_2 => ?_)
    · refine G_iload_n C 1 dX0_falseNotes_38 rfl rfl ?_
      exact G_iret C hr dX0_falseNotes_39 (by rw [hi1_0]; rfl) (rfl)
    · exfalso; omega
  · intro n hn ih1 a hi1_0
    refine G_iload_n C 2 dX0_falseNotes_4 rfl rfl ?_
    refine G_aload_n C 0 dX0_falseNotes_5 rfl rfl ?_
    refine G_get (v := .ref (ad 9)) C 24 0 dX0_falseNotes_6 xc_24 rfl inG0 (by decide) wm_259 rfl rfl ?_
    refine G_getN (v := .int (nI (M 9 5))) C 9 5 dX0_falseNotes_9 xc_9 rfl inG1 (by decide) wn_125 rfl rfl ?_
    refine G_icmp_geN (tgt := 38) C dX0_falseNotes_12 (by decide) (by omega) (by have := hB 9 5; omega) (fun h12_3 => ?_) (fun h12_3 => ?_)
    · exfalso; omega
    · refine G_aload_n C 0 dX0_falseNotes_15 rfl rfl ?_
      refine G_get (v := .ref (ad 9)) C 24 0 dX0_falseNotes_16 xc_24 rfl inG0 (by decide) wm_259 rfl rfl ?_
      refine G_iload_n C 2 dX0_falseNotes_19 rfl rfl ?_
      refine G_callV1 C [.int (nI n)] 9 dX0_falseNotes_20 (c_X1_isFalse (by omega) hB) wm_530 wm_531 wm_532 wm_53 wm_533 xc_9 rfl ydc_X1_isFalse rfl ⟨Nat.le_of_ble_eq_true rfl, Nat.le_of_ble_eq_true rfl⟩ ⟨rfl, rfl⟩ ⟨Nat.le_refl _, Nat.le_refl _⟩ (Nat.le_of_ble_eq_true rfl) rfl ?_
      refine G_if_eqB (tgt := 32) C dX0_falseNotes_23 (by decide) (fun h23_4 => ?_) (fun h23_4 => ?_)
      · refine G_iincN (lv' := [(2, .int (nI (n + 1))), (0, .ref (ad 24)), (1, .int (nI a))]) C 2 dX0_falseNotes_32 rfl (by decide) rfl ?_
        refine G_goto (tgt := 4) C dX0_falseNotes_35 (by decide) ?_
        refine G_pick (lv' := [(0, .ref (ad 24)), (1, .int (nI a)), (2, .int (nI (n + 1)))]) [1, 2, 0] rfl ?_
        exact ih1 _ (by simp only [foldTo]; rw [← hi1_0]; simp [of_decide_eq_true, of_decide_eq_false, decide_eq_true_eq, decide_eq_false_iff_not] at h23_4; simp [h23_4])
      · refine G_iload_n C 1 dX0_falseNotes_26 rfl rfl ?_
        refine G_iconst C dX0_falseNotes_27 kI_1 ?_
        refine G_iload_n C 2 dX0_falseNotes_28 rfl rfl ?_
        refine G_ishlN C dX0_falseNotes_29 (by omega) (sh1 (by omega)) ?_
        refine G_iorN C dX0_falseNotes_30 ?_
        refine G_istore_n (lv' := [(1, .int (nI (a ||| (1 * 2 ^ n)))), (0, .ref (ad 24)), (2, .int (nI n))]) C dX0_falseNotes_31 rfl (by decide) rfl ?_
        refine G_iincN (lv' := [(2, .int (nI (n + 1))), (1, .int (nI (a ||| (1 * 2 ^ n)))), (0, .ref (ad 24))]) C 2 dX0_falseNotes_32 rfl (by decide) rfl ?_
        refine G_goto (tgt := 4) C dX0_falseNotes_35 (by decide) ?_
        refine G_pick (lv' := [(0, .ref (ad 24)), (1, .int (nI (a ||| (1 * 2 ^ n)))), (2, .int (nI (n + 1)))]) [2, 1, 0] rfl ?_
        exact ih1 _ (by simp only [foldTo]; rw [← hi1_0]; simp [of_decide_eq_true, of_decide_eq_false, decide_eq_true_eq, decide_eq_false_iff_not] at h23_4; simp [h23_4])
set_option maxHeartbeats 4000000 in
set_option maxRecDepth 100000 in
theorem c_X7_takersByLooks {n : Nat} (hn : n < 6) (hP : M 9 4 ≤ 5) (hB : ∀ k j, M k j < 1024) : CT l yX7_takersByLooks cX7_takersByLooks 4 (some .int) (rmOf 1 21) D (tyI cI cZ) [.ref (ad 20), .int (nI n)] (wX cI cZ ad M t) (some (.int (nI (x_tbl M n)))) (wX cI cZ ad M t) := by
  refine CT_of (own := "FalseParity$Paths") (by decide) rfl (Nat.le_of_ble_eq_true rfl) (fun p e s m args below meth c C hr => ?_)
  refine G_iconst C dX7_takersByLooks_0 kI_0 ?_
  refine G_istore_n (lv' := [(2, .int (nI 0)), (0, .ref (ad 20)), (1, .int (nI n))]) C dX7_takersByLooks_1 rfl (by decide) rfl ?_
  refine G_iconst C dX7_takersByLooks_2 kI_0 ?_
  refine G_istore_n (lv' := [(3, .int (nI 0)), (2, .int (nI 0)), (0, .ref (ad 20)), (1, .int (nI n))]) C dX7_takersByLooks_3 rfl (by decide) rfl ?_
  refine G_pick (lv' := [(0, .ref (ad 20)), (1, .int (nI n)), (2, .int (nI 0)), (3, .int (nI 0))]) [2, 3, 1, 0] rfl ?_
  refine loopN (P := fun q => ∀ a : Nat, (a = foldTo (fun q a => if M 12 n &&& M 15 (12 + q) = 0 then a ||| (1 * 2 ^ q) else a) 0 q) → G p l e _ s m args below meth c D _ _ _ _ _ 4 [(0, .ref (ad 20)), (1, .int (nI n)), (2, .int (nI a)), (3, .int (nI q))] [] (wX cI cZ ad M t)) (M 9 4) ?_ ?_ 0 (Nat.zero_le _) (0) rfl
  · intro a hi1_0
    refine G_iload_n C 3 dX7_takersByLooks_4 rfl rfl ?_
    refine G_aload_n C 0 dX7_takersByLooks_5 rfl rfl ?_
    refine G_get (v := .ref (ad 9)) C 20 0 dX7_takersByLooks_6 xc_20 rfl inG7 (by decide) wm_223 rfl rfl ?_
    refine G_getN (v := .int (nI (M 9 4))) C 9 4 dX7_takersByLooks_9 xc_9 rfl inG1 (by decide) wn_119 rfl rfl ?_
    refine G_icmp_geN (tgt := 48) C dX7_takersByLooks_12 (by decide) (by have := hB 9 4; omega) (by have := hB 9 4; omega) (fun h12_2 => ?_) (fun h12_2 => ?_)
    · refine G_iload_n C 2 dX7_takersByLooks_48 rfl rfl ?_
      exact G_iret C hr dX7_takersByLooks_49 (by rw [hi1_0]; rfl) (rfl)
    · exfalso; omega
  · intro q hq ih1 a hi1_0
    refine G_iload_n C 3 dX7_takersByLooks_4 rfl rfl ?_
    refine G_aload_n C 0 dX7_takersByLooks_5 rfl rfl ?_
    refine G_get (v := .ref (ad 9)) C 20 0 dX7_takersByLooks_6 xc_20 rfl inG7 (by decide) wm_223 rfl rfl ?_
    refine G_getN (v := .int (nI (M 9 4))) C 9 4 dX7_takersByLooks_9 xc_9 rfl inG1 (by decide) wn_119 rfl rfl ?_
    refine G_icmp_geN (tgt := 48) C dX7_takersByLooks_12 (by decide) (by omega) (by have := hB 9 4; omega) (fun h12_3 => ?_) (fun h12_3 => ?_)
    · exfalso; omega
    · refine G_aload_n C 0 dX7_takersByLooks_15 rfl rfl ?_
      refine G_get (v := .ref (ad 9)) C 20 0 dX7_takersByLooks_16 xc_20 rfl inG7 (by decide) wm_223 rfl rfl ?_
      refine G_getN (v := .ref (ad 12)) C 9 2 dX7_takersByLooks_19 xc_9 rfl inG1 (by decide) wn_113 rfl rfl ?_
      refine G_iload_n C 1 dX7_takersByLooks_22 rfl rfl ?_
      refine G_iald (v := nI (M 12 n)) C 12 0 dX7_takersByLooks_23 xc_12 rfl (by omega) (by decide) rfl ?_
      refine G_aload_n C 0 dX7_takersByLooks_24 rfl rfl ?_
      refine G_get (v := .ref (ad 14)) C 20 1 dX7_takersByLooks_25 xc_20 rfl inG7 (by decide) wm_224 rfl rfl ?_
      refine G_iload_n C 3 dX7_takersByLooks_28 rfl rfl ?_
      refine G_callV1 C [.int (nI q)] 14 dX7_takersByLooks_29 (c_X6_looks (by omega)) wm_479 wm_480 wm_481 wm_54 wm_482 xc_14 rfl ydc_X6_looks rfl ⟨Nat.le_of_ble_eq_true rfl, Nat.le_of_ble_eq_true rfl⟩ ⟨rfl, rfl⟩ ⟨Nat.le_refl _, Nat.le_refl _⟩ (Nat.le_of_ble_eq_true rfl) rfl ?_
      refine G_iandN C dX7_takersByLooks_32 ?_
      refine G_if_neN (tgt := 42) C dX7_takersByLooks_33 (by decide) (andlt (hB _ _)) (fun h33_4 => ?_) (fun h33_4 => ?_)
      · refine G_iincN (lv' := [(3, .int (nI (q + 1))), (0, .ref (ad 20)), (1, .int (nI n)), (2, .int (nI a))]) C 3 dX7_takersByLooks_42 rfl (by decide) rfl ?_
        refine G_goto (tgt := 4) C dX7_takersByLooks_45 (by decide) ?_
        refine G_pick (lv' := [(0, .ref (ad 20)), (1, .int (nI n)), (2, .int (nI a)), (3, .int (nI (q + 1)))]) [1, 2, 3, 0] rfl ?_
        exact ih1 _ (by simp only [foldTo]; rw [← hi1_0]; first | rw [if_pos h33_4] | rw [if_neg (by omega)])
      · refine G_iload_n C 2 dX7_takersByLooks_36 rfl rfl ?_
        refine G_iconst C dX7_takersByLooks_37 kI_1 ?_
        refine G_iload_n C 3 dX7_takersByLooks_38 rfl rfl ?_
        refine G_ishlN C dX7_takersByLooks_39 (by omega) (sh1 (by omega)) ?_
        refine G_iorN C dX7_takersByLooks_40 ?_
        refine G_istore_n (lv' := [(2, .int (nI (a ||| (1 * 2 ^ q)))), (0, .ref (ad 20)), (1, .int (nI n)), (3, .int (nI q))]) C dX7_takersByLooks_41 rfl (by decide) rfl ?_
        refine G_iincN (lv' := [(3, .int (nI (q + 1))), (2, .int (nI (a ||| (1 * 2 ^ q)))), (0, .ref (ad 20)), (1, .int (nI n))]) C 3 dX7_takersByLooks_42 rfl (by decide) rfl ?_
        refine G_goto (tgt := 4) C dX7_takersByLooks_45 (by decide) ?_
        refine G_pick (lv' := [(0, .ref (ad 20)), (1, .int (nI n)), (2, .int (nI (a ||| (1 * 2 ^ q)))), (3, .int (nI (q + 1)))]) [2, 3, 1, 0] rfl ?_
        exact ih1 _ (by simp only [foldTo]; rw [← hi1_0]; first | rw [if_pos h33_4] | rw [if_neg (by omega)])
set_option maxHeartbeats 4000000 in
set_option maxRecDepth 100000 in
theorem c_X5_wouldTake {q a : Nat} (hq : q < 5) (hB : ∀ k j, M k j < 1024) : CT l yX5_wouldTake cX5_wouldTake 3 (some .int) (rmOf 1 21) D (tyI cI cZ) [.ref (ad 21), .int (nI q), .int (nI a)] (wX cI cZ ad M t) (some (.int (nI (bN (x_wt M q a))))) (wX cI cZ ad M t) := by
  refine CT_of (own := "FalseParity$Marks") (by decide) rfl (Nat.le_of_ble_eq_true rfl) (fun p e s m args below meth c C hr => ?_)
  refine G_aload_n C 0 dX5_wouldTake_0 rfl rfl ?_
  refine G_get (v := .ref (ad 14)) C 21 1 dX5_wouldTake_1 xc_21 rfl inG5 (by decide) wm_237 rfl rfl ?_
  refine G_iload_n C 1 dX5_wouldTake_4 rfl rfl ?_
  refine G_callV1 C [.int (nI q)] 14 dX5_wouldTake_5 (c_X6_looks (by omega)) wm_682 wm_480 wm_481 wm_54 wm_482 xc_14 rfl ydc_X6_looks rfl ⟨Nat.le_of_ble_eq_true rfl, Nat.le_of_ble_eq_true rfl⟩ ⟨rfl, rfl⟩ ⟨Nat.le_refl _, Nat.le_refl _⟩ (Nat.le_of_ble_eq_true rfl) rfl ?_
  refine G_iload_n C 2 dX5_wouldTake_8 rfl rfl ?_
  refine G_iandN C dX5_wouldTake_9 ?_
  refine G_if_neN (tgt := 17) C dX5_wouldTake_10 (by decide) (andlt (hB _ _)) (fun h10_1 => ?_) (fun h10_1 => ?_)
  · refine G_iconst C dX5_wouldTake_17 kI_0 ?_
    exact G_iret C hr dX5_wouldTake_18 (bI_f (decide_eq_false (by omega))) (rfl)
  · refine G_iconst C dX5_wouldTake_13 kI_1 ?_
    refine G_goto (tgt := 18) C dX5_wouldTake_14 (by decide) ?_
    exact G_iret C hr dX5_wouldTake_18 (bI_t (decide_eq_true h10_1)) (rfl)
set_option maxHeartbeats 4000000 in
set_option maxRecDepth 100000 in
theorem c_X5_fits {a : Nat} (hS : M 21 4 ≤ 6) (hq : ∀ i, i < M 21 4 → M 22 i < 5) (hB : ∀ k j, M k j < 1024) : CT l yX5_fits cX5_fits 3 (some .boolean) (rmOf 2 43) D (tyI cI cZ) [.ref (ad 21), .int (nI a)] (wX cI cZ ad M t) (some (.int (nI (bN (x_fits M a))))) (wX cI cZ ad M t) := by
  refine CT_of (own := "FalseParity$Marks") (by decide) rfl (Nat.le_of_ble_eq_true rfl) (fun p e s m args below meth c C hr => ?_)
  refine G_iconst C dX5_fits_0 kI_0 ?_
  refine G_istore_n (lv' := [(2, .int (nI 0)), (0, .ref (ad 21)), (1, .int (nI a))]) C dX5_fits_1 rfl (by decide) rfl ?_
  refine G_pick (lv' := [(0, .ref (ad 21)), (1, .int (nI a)), (2, .int (nI 0))]) [1, 2, 0] rfl ?_
  refine loopN (P := fun i => (∀ z, z < i → bN (x_wt M (M 22 z) a) = M 23 z) → G p l e _ s m args below meth c D _ _ _ _ _ 2 [(0, .ref (ad 21)), (1, .int (nI a)), (2, .int (nI i))] [] (wX cI cZ ad M t)) (M 21 4) ?_ ?_ 0 (Nat.zero_le _)  (fun i h => absurd h (Nat.not_lt_zero i))
  · intro  hi1_0
    refine G_iload_n C 2 dX5_fits_2 rfl rfl ?_
    refine G_aload_n C 0 dX5_fits_3 rfl rfl ?_
    refine G_get (v := .int (nI (M 21 4))) C 21 4 dX5_fits_4 xc_21 rfl inG5 (by decide) wm_240 rfl rfl ?_
    refine G_icmp_geN (tgt := 38) C dX5_fits_7 (by decide) (by have := hB 21 4; omega) (by have := hB 21 4; omega) (fun h7_2 => ?_) (fun h7_2 => ?_)
    · refine G_iconst C dX5_fits_38 kI_1 ?_
      exact G_zret C hr dX5_fits_39 (by rfl) (bI_t (decide_eq_true hi1_0)) (rfl)
    · exfalso; omega
  · intro i hi ih1  hi1_0
    refine G_iload_n C 2 dX5_fits_2 rfl rfl ?_
    refine G_aload_n C 0 dX5_fits_3 rfl rfl ?_
    refine G_get (v := .int (nI (M 21 4))) C 21 4 dX5_fits_4 xc_21 rfl inG5 (by decide) wm_240 rfl rfl ?_
    refine G_icmp_geN (tgt := 38) C dX5_fits_7 (by decide) (by omega) (by have := hB 21 4; omega) (fun h7_3 => ?_) (fun h7_3 => ?_)
    · exfalso; omega
    · refine G_aload_n C 0 dX5_fits_10 rfl rfl ?_
      refine G_aload_n C 0 dX5_fits_11 rfl rfl ?_
      refine G_get (v := .ref (ad 22)) C 21 2 dX5_fits_12 xc_21 rfl inG5 (by decide) wm_238 rfl rfl ?_
      refine G_iload_n C 2 dX5_fits_15 rfl rfl ?_
      refine G_iald (v := nI (M 22 i)) C 22 0 dX5_fits_16 xc_22 rfl (by omega) (by decide) rfl ?_
      refine G_iload_n C 1 dX5_fits_17 rfl rfl ?_
      refine G_callV1 C [.int (nI (M 22 i)), .int (nI a)] 21 dX5_fits_18 (c_X5_wouldTake (hq _ hi) hB) wm_678 wm_680 wm_21 wm_58 wm_681 xc_21 rfl ydc_X5_wouldTake rfl ⟨Nat.le_of_ble_eq_true rfl, Nat.le_of_ble_eq_true rfl⟩ ⟨rfl, rfl⟩ ⟨Nat.le_refl _, Nat.le_refl _⟩ (Nat.le_of_ble_eq_true rfl) rfl ?_
      refine G_aload_n C 0 dX5_fits_21 rfl rfl ?_
      refine G_get (v := .ref (ad 23)) C 21 3 dX5_fits_22 xc_21 rfl inG5 (by decide) wm_239 rfl rfl ?_
      refine G_iload_n C 2 dX5_fits_25 rfl rfl ?_
      refine G_iald (v := nI (M 23 i)) C 23 0 dX5_fits_26 xc_23 rfl (by omega) (by decide) rfl ?_
      refine G_icmp_eqN (tgt := 32) C dX5_fits_27 (by decide) (bN_lt _) (by have := hB 23 i; omega) (fun h27_4 => ?_) (fun h27_4 => ?_)
      · refine G_iincN (lv' := [(2, .int (nI (i + 1))), (0, .ref (ad 21)), (1, .int (nI a))]) C 2 dX5_fits_32 rfl (by decide) rfl ?_
        refine G_goto (tgt := 2) C dX5_fits_35 (by decide) ?_
        refine G_pick (lv' := [(0, .ref (ad 21)), (1, .int (nI a)), (2, .int (nI (i + 1)))]) [1, 2, 0] rfl ?_
        exact ih1  (lt_succ_all (P := fun z => bN (x_wt M (M 22 z) a) = M 23 z) hi1_0 h27_4)
      · refine G_iconst C dX5_fits_30 kI_0 ?_
        exact G_zret C hr dX5_fits_31 (by rfl) (bI_f (decide_eq_false (fun z => h27_4 (z _ hi)))) (rfl)
end X2
end
section
theorem pw1 {n : Nat} : 1 ≤ 1 * 2 ^ n := by rw [Nat.one_mul]; exact Nat.one_le_two_pow
/-- how many of the bits 0 .. 5 -/
def pc6 (a : Nat) : Nat := sumTo (fun k => a / 2 ^ k % 2) 6
def bc1 (x : Int32) : Int32 := x - ((x.toUInt32 >>> ((nI 1).toUInt32 &&& Int32.toUInt32 31)).toInt32 &&& 1431655765)
def bc2 (x : Int32) : Int32 := (x &&& 858993459) + ((x.toUInt32 >>> ((nI 2).toUInt32 &&& Int32.toUInt32 31)).toInt32 &&& 858993459)
def bc3 (x : Int32) : Int32 := (x + (x.toUInt32 >>> ((nI 4).toUInt32 &&& Int32.toUInt32 31)).toInt32) &&& 252645135
def bc4 (x : Int32) : Int32 := x + (x.toUInt32 >>> ((nI 8).toUInt32 &&& Int32.toUInt32 31)).toInt32
def bc5 (x : Int32) : Int32 := x + (x.toUInt32 >>> ((nI 16).toUInt32 &&& Int32.toUInt32 31)).toInt32
theorem bc_ok : ∀ a, a < 64 → bc5 (bc4 (bc3 (bc2 (bc1 (nI a))))) &&& nI 63 = nI (pc6 a) := by decide +kernel
theorem pc6_le : ∀ a, a < 64 → pc6 a ≤ 6 := by decide +kernel
def x_tk (M : Nat → Nat → Nat) (n : Nat) : Nat := if hb (nI (M 15 17)) n then (1 * 2 ^ (M 9 4)) - 1 else x_tbl M n
def x_hpb (M : Nat → Nat → Nat) (n b : Nat) : Bool := hb (nI (M 15 17)) n || (decide (0 < M 12 n) && decide (M 9 6 ≤ M 15 (6 + n) + b))
def x_ch (M : Nat → Nat → Nat) (n b : Nat) : Int32 := if x_hpb M n b then nI (M 9 4) - nI 1 else nI (pc6 (x_tbl M n)) - nI (bN (decide (0 < b) || hb (nI (x_tbl M n)) (M 15 n)))
def x_cgo (M : Nat → Nat → Nat) (n k : Nat) : Bool := decide (∀ b, b < k → ¬ x_ch M n b = 0)
def x_most (M : Nat → Nat → Nat) (n : Nat) : Int32 := match findTo (fun b => decide (x_ch M n b = 0)) 0 10 with
  | some b => nI b
  | none => -5
def x_wtk (M : Nat → Nat → Nat) (n k : Nat) : Int32 := foldTo (fun b a => a * x_ch M n b) (nI 1) k
def x_all (M : Nat → Nat → Nat) (k : Nat) : Int32 := foldTo (fun _ a => a * (nI (M 9 4) - nI 1)) (nI 1) k
def x_low (M : Nat → Nat → Nat) (a h : Nat) : Nat := match findTo (fun q => decide (q ≠ h) && hb (nI a) q) 0 (M 9 4) with
  | some q => q
  | none => h
def x_row (M : Nat → Nat → Nat) (n k : Nat) : Nat := foldTo (fun _ h => x_low M (x_tbl M n) h) (M 15 n) (k + 1)
theorem x_tbl_lt' (M : Nat → Nat → Nat) (n : Nat) : ∀ k, foldTo (fun q a => if M 12 n &&& M 15 (12 + q) = 0 then a ||| (1 * 2 ^ q) else a) 0 k < 2 ^ k := by
  intro k
  induction k with
  | zero => exact (by decide : 0 < 2 ^ 0)
  | succ k ih =>
    simp only [foldTo]
    have h1 : foldTo (fun q a => if M 12 n &&& M 15 (12 + q) = 0 then a ||| (1 * 2 ^ q) else a) 0 k < 2 ^ (k + 1) := Nat.lt_trans ih (Nat.pow_lt_pow_right (by decide) (by omega))
    split
    · exact Nat.or_lt_two_pow h1 (by rw [Nat.one_mul]; exact Nat.pow_lt_pow_right (by decide) (by omega))
    · exact h1
theorem x_tbl_lt {M : Nat → Nat → Nat} {n : Nat} (hP : M 9 4 ≤ 5) : x_tbl M n < 32 := Nat.lt_of_lt_of_le (x_tbl_lt' M n (M 9 4)) (Nat.pow_le_pow_right (by decide) hP : 2 ^ (M 9 4) ≤ 2 ^ 5)
/-- a text's letter is a digit -/
def x_dg (M : Nat → Nat → Nat) (a : Int32) : Bool := inR a (M 1 1) && (decide (48 ≤ M 2 a.toNatClampNeg) && decide (M 2 a.toNatClampNeg ≤ 57))
theorem x_dg_neg {M : Nat → Nat → Nat} {a : Int32} (h : a < 0) : x_dg M a = false := by simp [x_dg, inR_neg h]
theorem x_dg_nI {M : Nat → Nat → Nat} {j : Nat} (hj : j < 2 ^ 31) (hL : M 1 1 < 2 ^ 31) : x_dg M (nI j) = (decide (j < M 1 1) && (decide (48 ≤ M 2 j) && decide (M 2 j ≤ 57))) := by
  unfold x_dg; rw [inR_nI hj hL, nI_clamp hj]
/-- the row of NOW as a country begins -/
def x_bg (M : Nat → Nat → Nat) : Nat → Nat → Nat := va_up M 15 (fun j => if j < 6 then M 13 j else if j < 12 then 0 else if j < 17 then M 10 (j - 12) else if j < 20 then 0 else M 15 j)
theorem nI_min {a b : Nat} (ha : a < 2 ^ 31) (hb : b < 2 ^ 31) : (if nI b < nI a then nI b else nI a) = nI (min a b) := by
  by_cases h : b < a
  · rw [if_pos ((nI_ltI hb ha).mpr h), Nat.min_eq_right (by omega)]
  · rw [if_neg (fun q => h ((nI_ltI hb ha).mp q)), Nat.min_eq_left (by omega)]
theorem nI_max {a b : Nat} (ha : a < 2 ^ 31) (hb : b < 2 ^ 31) : (if nI a < nI b then nI b else nI a) = nI (max a b) := by
  by_cases h : a < b
  · rw [if_pos ((nI_ltI ha hb).mpr h), Nat.max_eq_right (by omega)]
  · rw [if_neg (fun q => h ((nI_ltI ha hb).mp q)), Nat.max_eq_left (by omega)]
/-- the country as the draft has it -/
def x_cp (M : Nat → Nat → Nat) : Nat → Nat → Nat := (ms (ms (ms (ms (va_up (va_up (va_up (va_up M 10 (va_cpy (M 5) (M 10) 0 0 5)) 11 (va_cpy (M 6) (M 11) 0 0 6)) 12 (va_cpy (M 7) (M 12) 0 0 6)) 13 (va_cpy (M 8) (M 13) 0 0 6)) 9 (4) (M 4 4)) 9 (5) (M 4 5)) 9 (6) (M 4 6)) 9 (7) (M 4 7))
def x_bgn (M : Nat → Nat → Nat) (n : Nat) : Nat → Nat → Nat := va_up M 15 (fun j => if j < 6 then M 13 j else if j < 6 + n then 0 else if 12 ≤ j ∧ j < 17 then M 10 (j - 12) else M 15 j)
theorem x_bgn_0 (M : Nat → Nat → Nat) : va_up (va_up M 15 (va_cpy (M 13) (M 15) 0 0 6)) 15 (va_cpy (M 10) (va_cpy (M 13) (M 15) 0 0 6) 0 12 5) = x_bgn M 0 := by
  funext a j
  by_cases ha : a = 15
  · subst ha
    simp only [x_bgn, va_up_self, va_cpy]
    (repeat' split) <;> first | rfl | (exfalso; omega) | (congr 1; omega)
  · simp only [x_bgn, va_up_ne _ _ ha]
theorem x_bgn_s (M : Nat → Nat → Nat) (n : Nat) (hn : n < 6) : ms (x_bgn M n) 15 (6 + n) 0 = x_bgn M (n + 1) := by
  funext a j
  rw [ms_if]
  by_cases ha : a = 15
  · subst ha
    simp only [x_bgn, va_up_self, true_and]
    (repeat' split) <;> first | rfl | (exfalso; omega) | (congr 1; omega)
  · rw [if_neg (fun q => ha q.1)]
    simp only [x_bgn, va_up_ne _ _ ha]
theorem x_bg_end (M : Nat → Nat → Nat) : ms (ms (ms (x_bgn M 6) 15 17 0) 15 18 0) 15 19 0 = x_bg M := by
  funext a j
  rw [ms_if, ms_if, ms_if]
  by_cases ha : a = 15
  · subst ha
    simp only [x_bgn, x_bg, va_up_self, true_and]
    (repeat' split) <;> first | rfl | (exfalso; omega) | (congr 1; omega)
  · rw [if_neg (fun q => ha q.1), if_neg (fun q => ha q.1), if_neg (fun q => ha q.1)]
    simp only [x_bgn, x_bg, va_up_ne _ _ ha]
def x_push (M : Nat → Nat → Nat) : Nat → Nat → Nat := (ms (ms (va_up M 17 (va_cpy (M 15) (M 17) 0 (M 16 1 * 20) 20)) 16 (1) ((M 16 1 + 1) % 10)) 16 (2) (min 10 (M 16 2 + 1)))
def x_pop (M : Nat → Nat → Nat) : Nat → Nat → Nat := (va_up (ms (ms M 16 (1) ((M 16 1 + 10 - 1) % 10)) 16 (2) (M 16 2 - 1)) 15 (va_cpy (M 17) (M 15) ((M 16 1 + 10 - 1) % 10 * 20) 0 20))
def x_keep (M : Nat → Nat → Nat) (i : Nat) : Nat → Nat → Nat := (ms (va_up M 19 (va_cpy (M 15) (M 19) 0 (i * 20) 20)) 18 (1) (M 18 1 ||| (1 * 2 ^ i)))
def x_back (M : Nat → Nat → Nat) (i : Nat) : Nat → Nat → Nat := (va_up M 15 (va_cpy (M 19) (M 15) (i * 20) 0 20))
theorem x_low_lt {M : Nat → Nat → Nat} {a h : Nat} (hh : h < 1024) (hP : M 9 4 ≤ 5) : x_low M a h < 1024 := by
  unfold x_low
  have key : ∀ k i z, findTo (fun q => decide (q ≠ h) && hb (nI a) q) i k = some z → z < i + k := by
    intro k
    induction k with
    | zero => intro i z q; cases q
    | succ k ih =>
      intro i z q
      unfold findTo at q
      split at q
      · cases q; omega
      · have := ih _ _ q; omega
  split
  · rename_i q hq; have := key _ _ _ hq; omega
  · exact hh
end
section
section X3
variable {l : Launch} {D : va_G} {cI cZ : ClassId} {ad : Nat → Nat} {M : Nat → Nat → Nat} {t : Int64}
set_option maxHeartbeats 4000000 in
set_option maxRecDepth 100000 in
theorem c_J6_bitCount_0f7a4 {a : Nat} (ha : a < 64) : CT l yJ6_bitCount_0f7a4 cJ6_bitCount_0f7a4 1 (some .int) (rmOf 0 0) D (tyI cI cZ) [.int (nI a)] (wX cI cZ ad M t) (some (.int (nI (pc6 a)))) (wX cI cZ ad M t) := by
  refine CT_of (own := "java/lang/Integer") (by decide) rfl (Nat.le_of_ble_eq_true rfl) (fun p e s m args below meth c C hr => ?_)
  refine G_iload_n C 0 dJ6_bitCount_0f7a4_0 rfl rfl ?_
  refine G_iload_n C 0 dJ6_bitCount_0f7a4_1 rfl rfl ?_
  refine G_iconst C dJ6_bitCount_0f7a4_2 kI_1 ?_
  refine G_iushr (v := ((nI (a)).toUInt32 >>> ((nI (1)).toUInt32 &&& Int32.toUInt32 31)).toInt32) C dJ6_bitCount_0f7a4_3 rfl ?_
  refine G_ldcw C dJ6_bitCount_0f7a4_4 wm_588 ?_
  refine G_iand C dJ6_bitCount_0f7a4_7 ?_
  refine G_isub C dJ6_bitCount_0f7a4_8 ?_
  refine G_top (y := bc1 (nI a)) rfl ?_
  refine G_istore_n (lv' := [(0, .int (bc1 (nI a)))]) C dJ6_bitCount_0f7a4_9 rfl (by decide) rfl ?_
  refine G_iload_n C 0 dJ6_bitCount_0f7a4_10 rfl rfl ?_
  refine G_ldcw C dJ6_bitCount_0f7a4_11 wm_589 ?_
  refine G_iand C dJ6_bitCount_0f7a4_14 ?_
  refine G_iload_n C 0 dJ6_bitCount_0f7a4_15 rfl rfl ?_
  refine G_iconst C dJ6_bitCount_0f7a4_16 kI_2 ?_
  refine G_iushr (v := ((bc1 (nI a)).toUInt32 >>> ((nI (2)).toUInt32 &&& Int32.toUInt32 31)).toInt32) C dJ6_bitCount_0f7a4_17 rfl ?_
  refine G_ldcw C dJ6_bitCount_0f7a4_18 wm_589 ?_
  refine G_iand C dJ6_bitCount_0f7a4_21 ?_
  refine G_iadd C dJ6_bitCount_0f7a4_22 ?_
  refine G_top (y := bc2 (bc1 (nI a))) rfl ?_
  refine G_istore_n (lv' := [(0, .int (bc2 (bc1 (nI a))))]) C dJ6_bitCount_0f7a4_23 rfl (by decide) rfl ?_
  refine G_iload_n C 0 dJ6_bitCount_0f7a4_24 rfl rfl ?_
  refine G_iload_n C 0 dJ6_bitCount_0f7a4_25 rfl rfl ?_
  refine G_iconst C dJ6_bitCount_0f7a4_26 kI_4 ?_
  refine G_iushr (v := ((bc2 (bc1 (nI a))).toUInt32 >>> ((nI (4)).toUInt32 &&& Int32.toUInt32 31)).toInt32) C dJ6_bitCount_0f7a4_27 rfl ?_
  refine G_iadd C dJ6_bitCount_0f7a4_28 ?_
  refine G_ldcw C dJ6_bitCount_0f7a4_29 wm_590 ?_
  refine G_iand C dJ6_bitCount_0f7a4_32 ?_
  refine G_top (y := bc3 (bc2 (bc1 (nI a)))) rfl ?_
  refine G_istore_n (lv' := [(0, .int (bc3 (bc2 (bc1 (nI a)))))]) C dJ6_bitCount_0f7a4_33 rfl (by decide) rfl ?_
  refine G_iload_n C 0 dJ6_bitCount_0f7a4_34 rfl rfl ?_
  refine G_iload_n C 0 dJ6_bitCount_0f7a4_35 rfl rfl ?_
  refine G_bipush C dJ6_bitCount_0f7a4_36 kB_8 ?_
  refine G_iushr (v := ((bc3 (bc2 (bc1 (nI a)))).toUInt32 >>> ((nI (8)).toUInt32 &&& Int32.toUInt32 31)).toInt32) C dJ6_bitCount_0f7a4_38 rfl ?_
  refine G_iadd C dJ6_bitCount_0f7a4_39 ?_
  refine G_top (y := bc4 (bc3 (bc2 (bc1 (nI a))))) rfl ?_
  refine G_istore_n (lv' := [(0, .int (bc4 (bc3 (bc2 (bc1 (nI a))))))]) C dJ6_bitCount_0f7a4_40 rfl (by decide) rfl ?_
  refine G_iload_n C 0 dJ6_bitCount_0f7a4_41 rfl rfl ?_
  refine G_iload_n C 0 dJ6_bitCount_0f7a4_42 rfl rfl ?_
  refine G_bipush C dJ6_bitCount_0f7a4_43 kB_16 ?_
  refine G_iushr (v := ((bc4 (bc3 (bc2 (bc1 (nI a))))).toUInt32 >>> ((nI (16)).toUInt32 &&& Int32.toUInt32 31)).toInt32) C dJ6_bitCount_0f7a4_45 rfl ?_
  refine G_iadd C dJ6_bitCount_0f7a4_46 ?_
  refine G_top (y := bc5 (bc4 (bc3 (bc2 (bc1 (nI a)))))) rfl ?_
  refine G_istore_n (lv' := [(0, .int (bc5 (bc4 (bc3 (bc2 (bc1 (nI a)))))))]) C dJ6_bitCount_0f7a4_47 rfl (by decide) rfl ?_
  refine G_iload_n C 0 dJ6_bitCount_0f7a4_48 rfl rfl ?_
  refine G_bipush C dJ6_bitCount_0f7a4_49 kB_63 ?_
  refine G_iand C dJ6_bitCount_0f7a4_51 ?_
  refine G_top (y := nI (pc6 a)) (bc_ok a ha) ?_
  exact G_iret C hr dJ6_bitCount_0f7a4_52 (rfl) (rfl)
set_option maxHeartbeats 4000000 in
set_option maxRecDepth 100000 in
theorem c_X1_empty   : CT l yX1_empty cX1_empty 1 none (rmOf 0 0) D (tyI cI cZ) [.ref (ad 4)] (wX cI cZ ad M t) (none) (wX cI cZ ad (ms (ms (ms (ms M 4 (4) (0)) 4 (5) (0)) 4 (6) (3)) 4 (7) (3)) t) := by
  refine CT_of (own := "FalseParity$Country") (by decide) rfl (Nat.le_of_ble_eq_true rfl) (fun p e s m args below meth c C hr => ?_)
  refine G_aload_n C 0 dX1_empty_0 rfl rfl ?_
  refine G_iconst C dX1_empty_1 kI_0 ?_
  refine G_put (w' := wX cI cZ ad (ms M 4 (4) (0)) t) (ty := .int) C 4 4 tyX1 dX1_empty_2 xc_4 rfl inG1 tyX1_ok nmX1 (by decide) wm_118 rfl rfl (by decide +kernel) rfl rfl (Nat.le_of_ble_eq_true rfl) (xp_4_4 _) ?_
  refine G_aload_n C 0 dX1_empty_5 rfl rfl ?_
  refine G_iconst C dX1_empty_6 kI_0 ?_
  refine G_put (w' := wX cI cZ ad (ms (ms M 4 (4) (0)) 4 (5) (0)) t) (ty := .int) C 4 5 tyX1 dX1_empty_7 xc_4 rfl inG1 tyX1_ok nmX1 (by decide) wm_123 rfl rfl (by decide +kernel) rfl rfl (Nat.le_of_ble_eq_true rfl) (xp_4_5 _) ?_
  refine G_aload_n C 0 dX1_empty_10 rfl rfl ?_
  refine G_iconst C dX1_empty_11 kI_3 ?_
  refine G_put (w' := wX cI cZ ad (ms (ms (ms M 4 (4) (0)) 4 (5) (0)) 4 (6) (3)) t) (ty := .int) C 4 6 tyX1 dX1_empty_12 xc_4 rfl inG1 tyX1_ok nmX1 (by decide) wm_127 rfl rfl (by decide +kernel) rfl rfl (Nat.le_of_ble_eq_true rfl) (xp_4_6 _) ?_
  refine G_aload_n C 0 dX1_empty_15 rfl rfl ?_
  refine G_iconst C dX1_empty_16 kI_3 ?_
  refine G_put (w' := wX cI cZ ad (ms (ms (ms (ms M 4 (4) (0)) 4 (5) (0)) 4 (6) (3)) 4 (7) (3)) t) (ty := .int) C 4 7 tyX1 dX1_empty_17 xc_4 rfl inG1 tyX1_ok nmX1 (by decide) wm_131 rfl rfl (by decide +kernel) rfl rfl (Nat.le_of_ble_eq_true rfl) (xp_4_7 _) ?_
  exact G_vret C hr dX1_empty_20 rfl (rfl)
set_option maxHeartbeats 4000000 in
set_option maxRecDepth 100000 in
theorem c_X1_copyFrom   : CT l yX1_copyFrom cX1_copyFrom 2 none (rmOf 1 40) D (tyI cI cZ) [.ref (ad 9), .ref (ad 4)] (wX cI cZ ad M t) (none) (wX cI cZ ad (x_cp M) t) := by
  refine CT_of (own := "FalseParity$Country") (by decide) rfl (Nat.le_of_ble_eq_true rfl) (fun p e s m args below meth c C hr => ?_)
  refine G_aload_n C 1 dX1_copyFrom_0 rfl rfl ?_
  refine G_get (v := .ref (ad 5)) C 4 0 dX1_copyFrom_1 xc_4 rfl inG1 (by decide) wm_102 rfl rfl ?_
  refine G_iconst C dX1_copyFrom_4 kI_0 ?_
  refine G_aload_n C 0 dX1_copyFrom_5 rfl rfl ?_
  refine G_get (v := .ref (ad 10)) C 9 0 dX1_copyFrom_6 xc_9 rfl inG1 (by decide) wm_102 rfl rfl ?_
  refine G_iconst C dX1_copyFrom_9 kI_0 ?_
  refine G_iconst C dX1_copyFrom_10 kI_5 ?_
  refine G_copy (w' := wX cI cZ ad (va_up M 10 (va_cpy (M 5) (M 10) (0) (0) (5))) t) C 5 10 0 0 dX1_copyFrom_11 wm_419 wm_421 wm_420 wm_63 xc_5 xc_10 rfl rfl (by decide) (by decide) (by decide) (by decide) (Nat.le_of_ble_eq_true rfl) (Nat.le_of_ble_eq_true rfl) (by rw [cpy_nA]; exact xr_10 _) ?_
  refine G_aload_n C 1 dX1_copyFrom_14 rfl rfl ?_
  refine G_get (v := .ref (ad 6)) C 4 1 dX1_copyFrom_15 xc_4 rfl inG1 (by decide) wm_105 rfl rfl ?_
  refine G_iconst C dX1_copyFrom_18 kI_0 ?_
  refine G_aload_n C 0 dX1_copyFrom_19 rfl rfl ?_
  refine G_get (v := .ref (ad 11)) C 9 1 dX1_copyFrom_20 xc_9 rfl inG1 (by decide) wm_105 rfl rfl ?_
  refine G_iconst C dX1_copyFrom_23 kI_0 ?_
  refine G_bipush C dX1_copyFrom_24 kB_6 ?_
  refine G_copy (w' := wX cI cZ ad (va_up (va_up M 10 (va_cpy (M 5) (M 10) (0) (0) (5))) 11 (va_cpy (M 6) (M 11) (0) (0) (6))) t) C 6 11 0 0 dX1_copyFrom_26 wm_419 wm_421 wm_420 wm_63 xc_6 xc_11 rfl rfl (by decide) (by decide) (by decide) (by decide) (Nat.le_of_ble_eq_true rfl) (Nat.le_of_ble_eq_true rfl) (by rw [cpy_nA]; exact xr_11 _) ?_
  refine G_aload_n C 1 dX1_copyFrom_29 rfl rfl ?_
  refine G_get (v := .ref (ad 7)) C 4 2 dX1_copyFrom_30 xc_4 rfl inG1 (by decide) wm_110 rfl rfl ?_
  refine G_iconst C dX1_copyFrom_33 kI_0 ?_
  refine G_aload_n C 0 dX1_copyFrom_34 rfl rfl ?_
  refine G_get (v := .ref (ad 12)) C 9 2 dX1_copyFrom_35 xc_9 rfl inG1 (by decide) wm_110 rfl rfl ?_
  refine G_iconst C dX1_copyFrom_38 kI_0 ?_
  refine G_bipush C dX1_copyFrom_39 kB_6 ?_
  refine G_copy (w' := wX cI cZ ad (va_up (va_up (va_up M 10 (va_cpy (M 5) (M 10) (0) (0) (5))) 11 (va_cpy (M 6) (M 11) (0) (0) (6))) 12 (va_cpy (M 7) (M 12) (0) (0) (6))) t) C 7 12 0 0 dX1_copyFrom_41 wm_419 wm_421 wm_420 wm_63 xc_7 xc_12 rfl rfl (by decide) (by decide) (by decide) (by decide) (Nat.le_of_ble_eq_true rfl) (Nat.le_of_ble_eq_true rfl) (by rw [cpy_nA]; exact xr_12 _) ?_
  refine G_aload_n C 1 dX1_copyFrom_44 rfl rfl ?_
  refine G_get (v := .ref (ad 8)) C 4 3 dX1_copyFrom_45 xc_4 rfl inG1 (by decide) wm_115 rfl rfl ?_
  refine G_iconst C dX1_copyFrom_48 kI_0 ?_
  refine G_aload_n C 0 dX1_copyFrom_49 rfl rfl ?_
  refine G_get (v := .ref (ad 13)) C 9 3 dX1_copyFrom_50 xc_9 rfl inG1 (by decide) wm_115 rfl rfl ?_
  refine G_iconst C dX1_copyFrom_53 kI_0 ?_
  refine G_bipush C dX1_copyFrom_54 kB_6 ?_
  refine G_copy (w' := wX cI cZ ad (va_up (va_up (va_up (va_up M 10 (va_cpy (M 5) (M 10) (0) (0) (5))) 11 (va_cpy (M 6) (M 11) (0) (0) (6))) 12 (va_cpy (M 7) (M 12) (0) (0) (6))) 13 (va_cpy (M 8) (M 13) (0) (0) (6))) t) C 8 13 0 0 dX1_copyFrom_56 wm_419 wm_421 wm_420 wm_63 xc_8 xc_13 rfl rfl (by decide) (by decide) (by decide) (by decide) (Nat.le_of_ble_eq_true rfl) (Nat.le_of_ble_eq_true rfl) (by rw [cpy_nA]; exact xr_13 _) ?_
  refine G_aload_n C 0 dX1_copyFrom_59 rfl rfl ?_
  refine G_aload_n C 1 dX1_copyFrom_60 rfl rfl ?_
  refine G_get (v := .int (nI (M 4 4))) C 4 4 dX1_copyFrom_61 xc_4 rfl inG1 (by decide) wm_118 rfl rfl ?_
  refine G_put (w' := wX cI cZ ad (ms (va_up (va_up (va_up (va_up M 10 (va_cpy (M 5) (M 10) (0) (0) (5))) 11 (va_cpy (M 6) (M 11) (0) (0) (6))) 12 (va_cpy (M 7) (M 12) (0) (0) (6))) 13 (va_cpy (M 8) (M 13) (0) (0) (6))) 9 (4) (M 4 4)) t) (ty := .int) C 9 4 tyX1 dX1_copyFrom_64 xc_9 rfl inG1 tyX1_ok nmX1 (by decide) wm_118 rfl rfl (by decide +kernel) rfl rfl (Nat.le_of_ble_eq_true rfl) (xp_9_4 _) ?_
  refine G_aload_n C 0 dX1_copyFrom_67 rfl rfl ?_
  refine G_aload_n C 1 dX1_copyFrom_68 rfl rfl ?_
  refine G_get (v := .int (nI (M 4 5))) C 4 5 dX1_copyFrom_69 xc_4 rfl inG1 (by decide) wm_123 rfl rfl ?_
  refine G_put (w' := wX cI cZ ad (ms (ms (va_up (va_up (va_up (va_up M 10 (va_cpy (M 5) (M 10) (0) (0) (5))) 11 (va_cpy (M 6) (M 11) (0) (0) (6))) 12 (va_cpy (M 7) (M 12) (0) (0) (6))) 13 (va_cpy (M 8) (M 13) (0) (0) (6))) 9 (4) (M 4 4)) 9 (5) (M 4 5)) t) (ty := .int) C 9 5 tyX1 dX1_copyFrom_72 xc_9 rfl inG1 tyX1_ok nmX1 (by decide) wm_123 rfl rfl (by decide +kernel) rfl rfl (Nat.le_of_ble_eq_true rfl) (xp_9_5 _) ?_
  refine G_aload_n C 0 dX1_copyFrom_75 rfl rfl ?_
  refine G_aload_n C 1 dX1_copyFrom_76 rfl rfl ?_
  refine G_get (v := .int (nI (M 4 6))) C 4 6 dX1_copyFrom_77 xc_4 rfl inG1 (by decide) wm_127 rfl rfl ?_
  refine G_put (w' := wX cI cZ ad (ms (ms (ms (va_up (va_up (va_up (va_up M 10 (va_cpy (M 5) (M 10) (0) (0) (5))) 11 (va_cpy (M 6) (M 11) (0) (0) (6))) 12 (va_cpy (M 7) (M 12) (0) (0) (6))) 13 (va_cpy (M 8) (M 13) (0) (0) (6))) 9 (4) (M 4 4)) 9 (5) (M 4 5)) 9 (6) (M 4 6)) t) (ty := .int) C 9 6 tyX1 dX1_copyFrom_80 xc_9 rfl inG1 tyX1_ok nmX1 (by decide) wm_127 rfl rfl (by decide +kernel) rfl rfl (Nat.le_of_ble_eq_true rfl) (xp_9_6 _) ?_
  refine G_aload_n C 0 dX1_copyFrom_83 rfl rfl ?_
  refine G_aload_n C 1 dX1_copyFrom_84 rfl rfl ?_
  refine G_get (v := .int (nI (M 4 7))) C 4 7 dX1_copyFrom_85 xc_4 rfl inG1 (by decide) wm_131 rfl rfl ?_
  refine G_put (w' := wX cI cZ ad (ms (ms (ms (ms (va_up (va_up (va_up (va_up M 10 (va_cpy (M 5) (M 10) (0) (0) (5))) 11 (va_cpy (M 6) (M 11) (0) (0) (6))) 12 (va_cpy (M 7) (M 12) (0) (0) (6))) 13 (va_cpy (M 8) (M 13) (0) (0) (6))) 9 (4) (M 4 4)) 9 (5) (M 4 5)) 9 (6) (M 4 6)) 9 (7) (M 4 7)) t) (ty := .int) C 9 7 tyX1 dX1_copyFrom_88 xc_9 rfl inG1 tyX1_ok nmX1 (by decide) wm_131 rfl rfl (by decide +kernel) rfl rfl (Nat.le_of_ble_eq_true rfl) (xp_9_7 _) ?_
  exact G_vret C hr dX1_copyFrom_91 rfl (rfl)
set_option maxHeartbeats 4000000 in
set_option maxRecDepth 100000 in
theorem c_X9_empty   : CT l yX9_empty cX9_empty 2 (some .int) (rmOf 0 0) D (tyI cI cZ) [.ref (ad 1)] (wX cI cZ ad M t) (some (.int (nI (M 1 1)))) (wX cI cZ ad (ms M 1 (1) (0)) t) := by
  refine CT_of (own := "FalseParity$Text") (by decide) rfl (Nat.le_of_ble_eq_true rfl) (fun p e s m args below meth c C hr => ?_)
  refine G_aload_n C 0 dX9_empty_0 rfl rfl ?_
  refine G_get (v := .int (nI (M 1 1))) C 1 1 dX9_empty_1 xc_1 rfl inG9 (by decide) wm_81 rfl rfl ?_
  refine G_istore_n (lv' := [(1, .int (nI (M 1 1))), (0, .ref (ad 1))]) C dX9_empty_4 rfl (by decide) rfl ?_
  refine G_aload_n C 1 dX9_empty_5 rfl rfl ?_
  refine G_iconst C dX9_empty_6 kI_0 ?_
  refine G_put (w' := wX cI cZ ad (ms M 1 (1) (0)) t) (ty := .int) C 1 1 tyX9 dX9_empty_7 xc_1 rfl inG9 tyX9_ok nmX9 (by decide) wm_81 rfl rfl (by decide +kernel) rfl rfl (Nat.le_of_ble_eq_true rfl) (xp_1_1 _) ?_
  refine G_iload_n C 0 dX9_empty_10 rfl rfl ?_
  exact G_iret C hr dX9_empty_11 (rfl) (rfl)
set_option maxHeartbeats 4000000 in
set_option maxRecDepth 100000 in
theorem c_X9_hasDigit {x : Int32} (hL : M 1 1 ≤ 150) (hB : ∀ k j, M k j < 1024) : CT l yX9_hasDigit cX9_hasDigit 2 (some .boolean) (rmOf 0 0) D (tyI cI cZ) [.ref (ad 1), .int (x)] (wX cI cZ ad M t) (some (.int (nI (bN (x_dg M x))))) (wX cI cZ ad M t) := by
  refine CT_of (own := "FalseParity$Text") (by decide) rfl (Nat.le_of_ble_eq_true rfl) (fun p e s m args below meth c C hr => ?_)
  refine G_iload_n C 1 dX9_hasDigit_0 rfl rfl ?_
  refine G_if_lt (tgt := 38) C dX9_hasDigit_1 (by decide) (fun h1_1 => ?_) (fun h1_1 => ?_)
  · refine G_iconst C dX9_hasDigit_38 kI_0 ?_
    exact G_zret C hr dX9_hasDigit_39 (by rfl) (bI_f (x_dg_neg h1_1)) (rfl)
  · obtain ⟨j, hlt_j, rfl⟩ := nI_of h1_1
    refine G_iload_n C 1 dX9_hasDigit_4 rfl rfl ?_
    refine G_aload_n C 0 dX9_hasDigit_5 rfl rfl ?_
    refine G_get (v := .int (nI (M 1 1))) C 1 1 dX9_hasDigit_6 xc_1 rfl inG9 (by decide) wm_81 rfl rfl ?_
    refine G_icmp_geN (tgt := 38) C dX9_hasDigit_9 (by decide) (by omega) (by have := hB 1 1; omega) (fun h9_2 => ?_) (fun h9_2 => ?_)
    · refine G_iconst C dX9_hasDigit_38 kI_0 ?_
      exact G_zret C hr dX9_hasDigit_39 (by rfl) (bI_f (by rw [x_dg_nI hlt_j (by have := hB 1 1; omega)]; simp only [Bool.and_eq_false_iff, decide_eq_false_iff_not]; omega)) (rfl)
    · refine G_aload_n C 0 dX9_hasDigit_12 rfl rfl ?_
      refine G_get (v := .ref (ad 2)) C 1 0 dX9_hasDigit_13 xc_1 rfl inG9 (by decide) wm_79 rfl rfl ?_
      refine G_iload_n C 1 dX9_hasDigit_16 rfl rfl ?_
      refine G_iald (v := nI (M 2 j)) C 2 0 dX9_hasDigit_17 xc_2 rfl (by omega) (by decide) rfl ?_
      refine G_bipush C dX9_hasDigit_18 kB_48 ?_
      refine G_icmp_ltN (tgt := 38) C dX9_hasDigit_20 (by decide) (by have := hB 2 j; omega) (by decide) (fun h20_3 => ?_) (fun h20_3 => ?_)
      · refine G_iconst C dX9_hasDigit_38 kI_0 ?_
        exact G_zret C hr dX9_hasDigit_39 (by rfl) (bI_f (by rw [x_dg_nI hlt_j (by have := hB 1 1; omega)]; simp only [Bool.and_eq_false_iff, decide_eq_false_iff_not]; omega)) (rfl)
      · refine G_aload_n C 0 dX9_hasDigit_23 rfl rfl ?_
        refine G_get (v := .ref (ad 2)) C 1 0 dX9_hasDigit_24 xc_1 rfl inG9 (by decide) wm_79 rfl rfl ?_
        refine G_iload_n C 1 dX9_hasDigit_27 rfl rfl ?_
        refine G_iald (v := nI (M 2 j)) C 2 0 dX9_hasDigit_28 xc_2 rfl (by omega) (by decide) rfl ?_
        refine G_bipush C dX9_hasDigit_29 kB_57 ?_
        refine G_icmp_gtN (tgt := 38) C dX9_hasDigit_31 (by decide) (by have := hB 2 j; omega) (by decide) (fun h31_4 => ?_) (fun h31_4 => ?_)
        · refine G_iconst C dX9_hasDigit_38 kI_0 ?_
          exact G_zret C hr dX9_hasDigit_39 (by rfl) (bI_f (by rw [x_dg_nI hlt_j (by have := hB 1 1; omega)]; simp only [Bool.and_eq_false_iff, decide_eq_false_iff_not]; omega)) (rfl)
        · refine G_iconst C dX9_hasDigit_34 kI_1 ?_
          refine G_goto (tgt := 39) C dX9_hasDigit_35 (by decide) ?_
          exact G_zret C hr dX9_hasDigit_39 (by rfl) (bI_t (by rw [x_dg_nI hlt_j (by have := hB 1 1; omega)]; simp only [Bool.and_eq_true, decide_eq_true_eq]; omega)) (rfl)
set_option maxHeartbeats 4000000 in
set_option maxRecDepth 100000 in
theorem c_X6_copyTo_17 {sl : Nat} (hs : sl * 20 + 20 ≤ 200) : CT l yX6_copyTo cX6_copyTo 3 none (rmOf 1 40) D (tyI cI cZ) [.ref (ad 14), .ref (ad 17), .int (nI sl)] (wX cI cZ ad M t) (none) (wX cI cZ ad (va_up M 17 (va_cpy (M 15) (M 17) 0 (sl * 20) 20)) t) := by
  refine CT_of (own := "FalseParity$Now") (by decide) rfl (Nat.le_of_ble_eq_true rfl) (fun p e s m args below meth c C hr => ?_)
  refine G_aload_n C 0 dX6_copyTo_0 rfl rfl ?_
  refine G_get (v := .ref (ad 15)) C 14 0 dX6_copyTo_1 xc_14 rfl inG6 (by decide) wm_183 rfl rfl ?_
  refine G_iconst C dX6_copyTo_4 kI_0 ?_
  refine G_aload_n C 1 dX6_copyTo_5 rfl rfl ?_
  refine G_iload_n C 2 dX6_copyTo_6 rfl rfl ?_
  refine G_bipush C dX6_copyTo_7 kB_20 ?_
  refine G_imulN C dX6_copyTo_9 ?_
  refine G_bipush C dX6_copyTo_10 kB_20 ?_
  refine G_copy (w' := wX cI cZ ad (va_up M 17 (va_cpy (M 15) (M 17) (0) (sl * 20) (20))) t) C 15 17 0 0 dX6_copyTo_12 wm_426 wm_421 wm_420 wm_63 xc_15 xc_17 rfl rfl (by decide) hs (by decide) (by decide) (Nat.le_of_ble_eq_true rfl) (Nat.le_of_ble_eq_true rfl) (by rw [cpy_nA]; exact xr_17 _) ?_
  exact G_vret C hr dX6_copyTo_15 rfl (rfl)
set_option maxHeartbeats 4000000 in
set_option maxRecDepth 100000 in
theorem c_X6_copyFrom_17 {sl : Nat} (hs : sl * 20 + 20 ≤ 200) : CT l yX6_copyFrom cX6_copyFrom 3 none (rmOf 1 40) D (tyI cI cZ) [.ref (ad 14), .ref (ad 17), .int (nI sl)] (wX cI cZ ad M t) (none) (wX cI cZ ad (va_up M 15 (va_cpy (M 17) (M 15) (sl * 20) 0 20)) t) := by
  refine CT_of (own := "FalseParity$Now") (by decide) rfl (Nat.le_of_ble_eq_true rfl) (fun p e s m args below meth c C hr => ?_)
  refine G_aload_n C 1 dX6_copyFrom_0 rfl rfl ?_
  refine G_iload_n C 2 dX6_copyFrom_1 rfl rfl ?_
  refine G_bipush C dX6_copyFrom_2 kB_20 ?_
  refine G_imulN C dX6_copyFrom_4 ?_
  refine G_aload_n C 0 dX6_copyFrom_5 rfl rfl ?_
  refine G_get (v := .ref (ad 15)) C 14 0 dX6_copyFrom_6 xc_14 rfl inG6 (by decide) wm_183 rfl rfl ?_
  refine G_iconst C dX6_copyFrom_9 kI_0 ?_
  refine G_bipush C dX6_copyFrom_10 kB_20 ?_
  refine G_copy (w' := wX cI cZ ad (va_up M 15 (va_cpy (M 17) (M 15) (sl * 20) (0) (20))) t) C 17 15 0 0 dX6_copyFrom_12 wm_426 wm_421 wm_420 wm_63 xc_17 xc_15 rfl rfl hs (by decide) (by decide) (by decide) (Nat.le_of_ble_eq_true rfl) (Nat.le_of_ble_eq_true rfl) (by rw [cpy_nA]; exact xr_15 _) ?_
  exact G_vret C hr dX6_copyFrom_15 rfl (rfl)
set_option maxHeartbeats 4000000 in
set_option maxRecDepth 100000 in
theorem c_X6_copyTo_19 {sl : Nat} (hs : sl * 20 + 20 ≤ 40) : CT l yX6_copyTo cX6_copyTo 3 none (rmOf 1 40) D (tyI cI cZ) [.ref (ad 14), .ref (ad 19), .int (nI sl)] (wX cI cZ ad M t) (none) (wX cI cZ ad (va_up M 19 (va_cpy (M 15) (M 19) 0 (sl * 20) 20)) t) := by
  refine CT_of (own := "FalseParity$Now") (by decide) rfl (Nat.le_of_ble_eq_true rfl) (fun p e s m args below meth c C hr => ?_)
  refine G_aload_n C 0 dX6_copyTo_0 rfl rfl ?_
  refine G_get (v := .ref (ad 15)) C 14 0 dX6_copyTo_1 xc_14 rfl inG6 (by decide) wm_183 rfl rfl ?_
  refine G_iconst C dX6_copyTo_4 kI_0 ?_
  refine G_aload_n C 1 dX6_copyTo_5 rfl rfl ?_
  refine G_iload_n C 2 dX6_copyTo_6 rfl rfl ?_
  refine G_bipush C dX6_copyTo_7 kB_20 ?_
  refine G_imulN C dX6_copyTo_9 ?_
  refine G_bipush C dX6_copyTo_10 kB_20 ?_
  refine G_copy (w' := wX cI cZ ad (va_up M 19 (va_cpy (M 15) (M 19) (0) (sl * 20) (20))) t) C 15 19 0 0 dX6_copyTo_12 wm_426 wm_421 wm_420 wm_63 xc_15 xc_19 rfl rfl (by decide) hs (by decide) (by decide) (Nat.le_of_ble_eq_true rfl) (Nat.le_of_ble_eq_true rfl) (by rw [cpy_nA]; exact xr_19 _) ?_
  exact G_vret C hr dX6_copyTo_15 rfl (rfl)
set_option maxHeartbeats 4000000 in
set_option maxRecDepth 100000 in
theorem c_X6_copyFrom_19 {sl : Nat} (hs : sl * 20 + 20 ≤ 40) : CT l yX6_copyFrom cX6_copyFrom 3 none (rmOf 1 40) D (tyI cI cZ) [.ref (ad 14), .ref (ad 19), .int (nI sl)] (wX cI cZ ad M t) (none) (wX cI cZ ad (va_up M 15 (va_cpy (M 19) (M 15) (sl * 20) 0 20)) t) := by
  refine CT_of (own := "FalseParity$Now") (by decide) rfl (Nat.le_of_ble_eq_true rfl) (fun p e s m args below meth c C hr => ?_)
  refine G_aload_n C 1 dX6_copyFrom_0 rfl rfl ?_
  refine G_iload_n C 2 dX6_copyFrom_1 rfl rfl ?_
  refine G_bipush C dX6_copyFrom_2 kB_20 ?_
  refine G_imulN C dX6_copyFrom_4 ?_
  refine G_aload_n C 0 dX6_copyFrom_5 rfl rfl ?_
  refine G_get (v := .ref (ad 15)) C 14 0 dX6_copyFrom_6 xc_14 rfl inG6 (by decide) wm_183 rfl rfl ?_
  refine G_iconst C dX6_copyFrom_9 kI_0 ?_
  refine G_bipush C dX6_copyFrom_10 kB_20 ?_
  refine G_copy (w' := wX cI cZ ad (va_up M 15 (va_cpy (M 19) (M 15) (sl * 20) (0) (20))) t) C 19 15 0 0 dX6_copyFrom_12 wm_426 wm_421 wm_420 wm_63 xc_19 xc_15 rfl rfl hs (by decide) (by decide) (by decide) (Nat.le_of_ble_eq_true rfl) (Nat.le_of_ble_eq_true rfl) (by rw [cpy_nA]; exact xr_15 _) ?_
  exact G_vret C hr dX6_copyFrom_15 rfl (rfl)
set_option maxHeartbeats 4000000 in
set_option maxRecDepth 100000 in
theorem c_X6_giveParity {n : Nat} (hn : n < 6) : CT l yX6_giveParity cX6_giveParity 2 none (rmOf 0 0) D (tyI cI cZ) [.ref (ad 14), .int (nI n)] (wX cI cZ ad M t) (none) (wX cI cZ ad (ms M 15 (17) (M 15 17 ||| (1 * 2 ^ n))) t) := by
  refine CT_of (own := "FalseParity$Now") (by decide) rfl (Nat.le_of_ble_eq_true rfl) (fun p e s m args below meth c C hr => ?_)
  refine G_aload_n C 0 dX6_giveParity_0 rfl rfl ?_
  refine G_get (v := .ref (ad 15)) C 14 0 dX6_giveParity_1 xc_14 rfl inG6 (by decide) wm_183 rfl rfl ?_
  refine G_bipush C dX6_giveParity_4 kB_17 ?_
  refine G_dup2 C dX6_giveParity_6 rfl rfl ?_
  refine G_iald (v := nI (M 15 17)) C 15 0 dX6_giveParity_7 xc_15 rfl (by decide) (by decide) rfl ?_
  refine G_iconst C dX6_giveParity_8 kI_1 ?_
  refine G_iload_n C 1 dX6_giveParity_9 rfl rfl ?_
  refine G_ishlN C dX6_giveParity_10 (by omega) (sh1 (by omega)) ?_
  refine G_iorN C dX6_giveParity_11 ?_
  refine G_iast (w' := wX cI cZ ad (ms M 15 (17) ((M 15 17) ||| (1 * 2 ^ n))) t) C 15 0 dX6_giveParity_12 xc_15 rfl (by decide) (by decide) (xs_15 _ _) ?_
  exact G_vret C hr dX6_giveParity_13 rfl (rfl)
set_option maxHeartbeats 4000000 in
set_option maxRecDepth 100000 in
theorem c_X6_refuse {n : Nat} (hn : n < 6) : CT l yX6_refuse cX6_refuse 2 none (rmOf 0 0) D (tyI cI cZ) [.ref (ad 14), .int (nI n)] (wX cI cZ ad M t) (none) (wX cI cZ ad (ms (ms M 15 (6 + n) (0)) 15 (19) (M 15 19 + 1)) t) := by
  refine CT_of (own := "FalseParity$Now") (by decide) rfl (Nat.le_of_ble_eq_true rfl) (fun p e s m args below meth c C hr => ?_)
  refine G_aload_n C 0 dX6_refuse_0 rfl rfl ?_
  refine G_get (v := .ref (ad 15)) C 14 0 dX6_refuse_1 xc_14 rfl inG6 (by decide) wm_183 rfl rfl ?_
  refine G_bipush C dX6_refuse_4 kB_6 ?_
  refine G_iload_n C 1 dX6_refuse_6 rfl rfl ?_
  refine G_iaddN C dX6_refuse_7 ?_
  refine G_iconst C dX6_refuse_8 kI_0 ?_
  refine G_iast (w' := wX cI cZ ad (ms M 15 (6 + n) (0)) t) C 15 0 dX6_refuse_9 xc_15 rfl (by omega) (by decide) (xs_15 _ _) ?_
  refine G_aload_n C 0 dX6_refuse_10 rfl rfl ?_
  refine G_get (v := .ref (ad 15)) C 14 0 dX6_refuse_11 xc_14 rfl inG6 (by decide) wm_183 rfl rfl ?_
  refine G_bipush C dX6_refuse_14 kB_19 ?_
  refine G_dup2 C dX6_refuse_16 rfl rfl ?_
  refine G_iald (v := nI (M 15 19)) C 15 0 dX6_refuse_17 xc_15 rfl (by decide) (by decide) (congrArg nI (ms_ne (by omega))) ?_
  refine G_iconst C dX6_refuse_18 kI_1 ?_
  refine G_iaddN C dX6_refuse_19 ?_
  refine G_iast (w' := wX cI cZ ad (ms (ms M 15 (6 + n) (0)) 15 (19) ((M 15 19) + 1)) t) C 15 0 dX6_refuse_20 xc_15 rfl (by decide) (by decide) (xs_15 _ _) ?_
  exact G_vret C hr dX6_refuse_21 rfl (rfl)
set_option maxHeartbeats 4000000 in
set_option maxRecDepth 100000 in
theorem c_X6_teach {q a : Nat} (hq : q < 5) : CT l yX6_teach cX6_teach 3 none (rmOf 0 0) D (tyI cI cZ) [.ref (ad 14), .int (nI q), .int (nI a)] (wX cI cZ ad M t) (none) (wX cI cZ ad (ms M 15 (12 + q) (a)) t) := by
  refine CT_of (own := "FalseParity$Now") (by decide) rfl (Nat.le_of_ble_eq_true rfl) (fun p e s m args below meth c C hr => ?_)
  refine G_aload_n C 0 dX6_teach_0 rfl rfl ?_
  refine G_get (v := .ref (ad 15)) C 14 0 dX6_teach_1 xc_14 rfl inG6 (by decide) wm_183 rfl rfl ?_
  refine G_bipush C dX6_teach_4 kB_12 ?_
  refine G_iload_n C 1 dX6_teach_6 rfl rfl ?_
  refine G_iaddN C dX6_teach_7 ?_
  refine G_iload_n C 2 dX6_teach_8 rfl rfl ?_
  refine G_iast (w' := wX cI cZ ad (ms M 15 (12 + q) (a)) t) C 15 0 dX6_teach_9 xc_15 rfl (by omega) (by decide) (xs_15 _ _) ?_
  exact G_vret C hr dX6_teach_10 rfl (rfl)
set_option maxHeartbeats 4000000 in
set_option maxRecDepth 100000 in
theorem c_X6_turnAway {n : Nat} (hn : n < 6) : CT l yX6_turnAway cX6_turnAway 2 none (rmOf 0 0) D (tyI cI cZ) [.ref (ad 14), .int (nI n)] (wX cI cZ ad M t) (none) (wX cI cZ ad (ms M 15 (18) (M 15 18 ^^^ (1 * 2 ^ n))) t) := by
  refine CT_of (own := "FalseParity$Now") (by decide) rfl (Nat.le_of_ble_eq_true rfl) (fun p e s m args below meth c C hr => ?_)
  refine G_aload_n C 0 dX6_turnAway_0 rfl rfl ?_
  refine G_get (v := .ref (ad 15)) C 14 0 dX6_turnAway_1 xc_14 rfl inG6 (by decide) wm_183 rfl rfl ?_
  refine G_bipush C dX6_turnAway_4 kB_18 ?_
  refine G_dup2 C dX6_turnAway_6 rfl rfl ?_
  refine G_iald (v := nI (M 15 18)) C 15 0 dX6_turnAway_7 xc_15 rfl (by decide) (by decide) rfl ?_
  refine G_iconst C dX6_turnAway_8 kI_1 ?_
  refine G_iload_n C 1 dX6_turnAway_9 rfl rfl ?_
  refine G_ishlN C dX6_turnAway_10 (by omega) (sh1 (by omega)) ?_
  refine G_ixorN C dX6_turnAway_11 ?_
  refine G_iast (w' := wX cI cZ ad (ms M 15 (18) ((M 15 18) ^^^ (1 * 2 ^ n))) t) C 15 0 dX6_turnAway_12 xc_15 rfl (by decide) (by decide) (xs_15 _ _) ?_
  exact G_vret C hr dX6_turnAway_13 rfl (rfl)
set_option maxHeartbeats 4000000 in
set_option maxRecDepth 100000 in
theorem c_X6_begin   : CT l yX6_begin cX6_begin 3 none (rmOf 1 40) D (tyI cI cZ) [.ref (ad 14), .ref (ad 9)] (wX cI cZ ad M t) (none) (wX cI cZ ad (x_bg M) t) := by
  refine CT_of (own := "FalseParity$Now") (by decide) rfl (Nat.le_of_ble_eq_true rfl) (fun p e s m args below meth c C hr => ?_)
  refine G_aload_n C 1 dX6_begin_0 rfl rfl ?_
  refine G_getN (v := .ref (ad 13)) C 9 3 dX6_begin_1 xc_9 rfl inG1 (by decide) wn_116 rfl rfl ?_
  refine G_iconst C dX6_begin_4 kI_0 ?_
  refine G_aload_n C 0 dX6_begin_5 rfl rfl ?_
  refine G_get (v := .ref (ad 15)) C 14 0 dX6_begin_6 xc_14 rfl inG6 (by decide) wm_183 rfl rfl ?_
  refine G_iconst C dX6_begin_9 kI_0 ?_
  refine G_bipush C dX6_begin_10 kB_6 ?_
  refine G_copy (w' := wX cI cZ ad (va_up M 15 (va_cpy (M 13) (M 15) (0) (0) (6))) t) C 13 15 0 0 dX6_begin_12 wm_426 wm_421 wm_420 wm_63 xc_13 xc_15 rfl rfl (by decide) (by decide) (by decide) (by decide) (Nat.le_of_ble_eq_true rfl) (Nat.le_of_ble_eq_true rfl) (by rw [cpy_nA]; exact xr_15 _) ?_
  refine G_aload_n C 1 dX6_begin_15 rfl rfl ?_
  refine G_getN (v := .ref (ad 10)) C 9 0 dX6_begin_16 xc_9 rfl inG1 (by decide) wn_103 rfl rfl ?_
  refine G_iconst C dX6_begin_19 kI_0 ?_
  refine G_aload_n C 0 dX6_begin_20 rfl rfl ?_
  refine G_get (v := .ref (ad 15)) C 14 0 dX6_begin_21 xc_14 rfl inG6 (by decide) wm_183 rfl rfl ?_
  refine G_bipush C dX6_begin_24 kB_12 ?_
  refine G_iconst C dX6_begin_26 kI_5 ?_
  refine G_copy (w' := wX cI cZ ad (va_up (va_up M 15 (va_cpy (M 13) (M 15) (0) (0) (6))) 15 (va_cpy (M 10) ((va_up M 15 (va_cpy (M 13) (M 15) (0) (0) (6))) 15) (0) (12) (5))) t) C 10 15 0 0 dX6_begin_27 wm_426 wm_421 wm_420 wm_63 xc_10 xc_15 rfl rfl (by decide) (by decide) (by decide) (by decide) (Nat.le_of_ble_eq_true rfl) (Nat.le_of_ble_eq_true rfl) (by rw [cpy_nA]; exact xr_15 _) ?_
  refine G_iconst C dX6_begin_30 kI_0 ?_
  refine G_istore_n (lv' := [(2, .int (nI 0)), (0, .ref (ad 14)), (1, .ref (ad 9))]) C dX6_begin_31 rfl (by decide) rfl ?_
  refine G_w (w2 := wX cI cZ ad (x_bgn M 0) t) (congrArg (fun z => wX cI cZ ad z t) (x_bgn_0 M)) ?_
  refine G_pick (lv' := [(0, .ref (ad 14)), (1, .ref (ad 9)), (2, .int (nI 0))]) [1, 2, 0] rfl ?_
  refine loopN (P := fun n => G p l e _ s m args below meth c D _ _ _ _ _ 32 [(0, .ref (ad 14)), (1, .ref (ad 9)), (2, .int (nI n))] [] (wX cI cZ ad (x_bgn M n) t)) (6) ?_ ?_ 0 (Nat.zero_le _)  
  · skip
    refine G_iload_n C 2 dX6_begin_32 rfl rfl ?_
    refine G_bipush C dX6_begin_33 kB_6 ?_
    refine G_icmp_geN (tgt := 54) C dX6_begin_35 (by decide) (by decide) (by decide) (fun h35_2 => ?_) (fun h35_2 => ?_)
    · refine G_aload_n C 0 dX6_begin_54 rfl rfl ?_
      refine G_get (v := .ref (ad 15)) C 14 0 dX6_begin_55 xc_14 rfl inG6 (by decide) wm_183 rfl rfl ?_
      refine G_bipush C dX6_begin_58 kB_17 ?_
      refine G_iconst C dX6_begin_60 kI_0 ?_
      refine G_iast (w' := wX cI cZ ad (ms (x_bgn M 6) 15 (17) (0)) t) C 15 0 dX6_begin_61 xc_15 rfl (by decide) (by decide) (xs_15 _ _) ?_
      refine G_aload_n C 0 dX6_begin_62 rfl rfl ?_
      refine G_get (v := .ref (ad 15)) C 14 0 dX6_begin_63 xc_14 rfl inG6 (by decide) wm_183 rfl rfl ?_
      refine G_bipush C dX6_begin_66 kB_18 ?_
      refine G_iconst C dX6_begin_68 kI_0 ?_
      refine G_iast (w' := wX cI cZ ad (ms (ms (x_bgn M 6) 15 (17) (0)) 15 (18) (0)) t) C 15 0 dX6_begin_69 xc_15 rfl (by decide) (by decide) (xs_15 _ _) ?_
      refine G_aload_n C 0 dX6_begin_70 rfl rfl ?_
      refine G_get (v := .ref (ad 15)) C 14 0 dX6_begin_71 xc_14 rfl inG6 (by decide) wm_183 rfl rfl ?_
      refine G_bipush C dX6_begin_74 kB_19 ?_
      refine G_iconst C dX6_begin_76 kI_0 ?_
      refine G_iast (w' := wX cI cZ ad (ms (ms (ms (x_bgn M 6) 15 (17) (0)) 15 (18) (0)) 15 (19) (0)) t) C 15 0 dX6_begin_77 xc_15 rfl (by decide) (by decide) (xs_15 _ _) ?_
      exact G_vret C hr dX6_begin_78 rfl (congrArg (fun z => wX cI cZ ad z t) (x_bg_end M))
    · exact absurd h35_2 (by decide)
  · intro n hn ih1  
    refine G_iload_n C 2 dX6_begin_32 rfl rfl ?_
    refine G_bipush C dX6_begin_33 kB_6 ?_
    refine G_icmp_geN (tgt := 54) C dX6_begin_35 (by decide) (by omega) (by decide) (fun h35_3 => ?_) (fun h35_3 => ?_)
    · exfalso; omega
    · refine G_aload_n C 0 dX6_begin_38 rfl rfl ?_
      refine G_get (v := .ref (ad 15)) C 14 0 dX6_begin_39 xc_14 rfl inG6 (by decide) wm_183 rfl rfl ?_
      refine G_bipush C dX6_begin_42 kB_6 ?_
      refine G_iload_n C 2 dX6_begin_44 rfl rfl ?_
      refine G_iaddN C dX6_begin_45 ?_
      refine G_iconst C dX6_begin_46 kI_0 ?_
      refine G_iast (w' := wX cI cZ ad (ms (x_bgn M n) 15 (6 + n) (0)) t) C 15 0 dX6_begin_47 xc_15 rfl (by omega) (by decide) (xs_15 _ _) ?_
      refine G_iincN (lv' := [(2, .int (nI (n + 1))), (0, .ref (ad 14)), (1, .ref (ad 9))]) C 2 dX6_begin_48 rfl (by decide) rfl ?_
      refine G_goto (tgt := 32) C dX6_begin_51 (by decide) ?_
      refine G_w (w2 := wX cI cZ ad (x_bgn M (n + 1)) t) (congrArg (fun z => wX cI cZ ad z t) (x_bgn_s M n hn)) ?_
      refine G_pick (lv' := [(0, .ref (ad 14)), (1, .ref (ad 9)), (2, .int (nI (n + 1)))]) [1, 2, 0] rfl ?_
      exact ih1  
set_option maxHeartbeats 4000000 in
set_option maxRecDepth 100000 in
theorem c_X2_empty   : CT l yX2_empty cX2_empty 1 none (rmOf 0 0) D (tyI cI cZ) [.ref (ad 16)] (wX cI cZ ad M t) (none) (wX cI cZ ad (ms (ms M 16 (1) (0)) 16 (2) (0)) t) := by
  refine CT_of (own := "FalseParity$History") (by decide) rfl (Nat.le_of_ble_eq_true rfl) (fun p e s m args below meth c C hr => ?_)
  refine G_aload_n C 0 dX2_empty_0 rfl rfl ?_
  refine G_iconst C dX2_empty_1 kI_0 ?_
  refine G_put (w' := wX cI cZ ad (ms M 16 (1) (0)) t) (ty := .int) C 16 1 tyX2 dX2_empty_2 xc_16 rfl inG2 tyX2_ok nmX2 (by decide) wm_194 rfl rfl (by decide +kernel) rfl rfl (Nat.le_of_ble_eq_true rfl) (xp_16_1 _) ?_
  refine G_aload_n C 0 dX2_empty_5 rfl rfl ?_
  refine G_iconst C dX2_empty_6 kI_0 ?_
  refine G_put (w' := wX cI cZ ad (ms (ms M 16 (1) (0)) 16 (2) (0)) t) (ty := .int) C 16 2 tyX2 dX2_empty_7 xc_16 rfl inG2 tyX2_ok nmX2 (by decide) wm_195 rfl rfl (by decide +kernel) rfl rfl (Nat.le_of_ble_eq_true rfl) (xp_16_2 _) ?_
  exact G_vret C hr dX2_empty_10 rfl (rfl)
set_option maxHeartbeats 4000000 in
set_option maxRecDepth 100000 in
theorem c_X2_push  (hx : M 16 1 < 10) (hB : ∀ k j, M k j < 1024) : CT l yX2_push cX2_push 2 none (rmOf 2 62) D (tyI cI cZ) [.ref (ad 16), .ref (ad 14)] (wX cI cZ ad M t) (none) (wX cI cZ ad (x_push M) t) := by
  refine CT_of (own := "FalseParity$History") (by decide) rfl (Nat.le_of_ble_eq_true rfl) (fun p e s m args below meth c C hr => ?_)
  refine G_aload_n C 1 dX2_push_0 rfl rfl ?_
  refine G_aload_n C 0 dX2_push_1 rfl rfl ?_
  refine G_get (v := .ref (ad 17)) C 16 0 dX2_push_2 xc_16 rfl inG2 (by decide) wm_193 rfl rfl ?_
  refine G_aload_n C 0 dX2_push_5 rfl rfl ?_
  refine G_get (v := .int (nI (M 16 1))) C 16 1 dX2_push_6 xc_16 rfl inG2 (by decide) wm_194 rfl rfl ?_
  refine G_callV0 C [.ref (ad 17), .int (nI (M 16 1))] 14 dX2_push_9 (c_X6_copyTo_17 (by omega)) wm_542 wm_543 wm_544 wm_54 wm_545 xc_14 rfl ydc_X6_copyTo rfl ⟨Nat.le_of_ble_eq_true rfl, Nat.le_of_ble_eq_true rfl⟩ ⟨rfl, rfl⟩ ⟨Nat.le_refl _, Nat.le_refl _⟩ (Nat.le_of_ble_eq_true rfl) rfl ?_
  refine G_aload_n C 0 dX2_push_12 rfl rfl ?_
  refine G_aload_n C 0 dX2_push_13 rfl rfl ?_
  refine G_get (v := .int (nI (M 16 1))) C 16 1 dX2_push_14 xc_16 rfl inG2 (by decide) wm_194 rfl rfl ?_
  refine G_iconst C dX2_push_17 kI_1 ?_
  refine G_iaddN C dX2_push_18 ?_
  refine G_bipush C dX2_push_19 kB_10 ?_
  refine G_iremN C dX2_push_21 (by omega) (by decide) (by decide) ?_
  refine G_put (w' := wX cI cZ ad (ms (va_up M 17 (va_cpy (M 15) (M 17) 0 ((M 16 1) * 20) 20)) 16 (1) (((M 16 1) + 1) % 10)) t) (ty := .int) C 16 1 tyX2 dX2_push_22 xc_16 rfl inG2 tyX2_ok nmX2 (by decide) wm_194 rfl rfl (by decide +kernel) rfl rfl (Nat.le_of_ble_eq_true rfl) (xp_16_1 _) ?_
  refine G_aload_n C 0 dX2_push_25 rfl rfl ?_
  refine G_bipush C dX2_push_26 kB_10 ?_
  refine G_aload_n C 0 dX2_push_28 rfl rfl ?_
  refine G_get (v := .int (nI (M 16 2))) C 16 2 dX2_push_29 xc_16 rfl inG2 (by decide) wm_195 rfl rfl ?_
  refine G_iconst C dX2_push_32 kI_1 ?_
  refine G_iaddN C dX2_push_33 ?_
  refine G_min C dX2_push_34 wm_546 wm_385 wm_62 wm_386 (Nat.le_of_ble_eq_true rfl) (Nat.le_of_ble_eq_true rfl) (Nat.le_refl _) (Nat.le_refl _) ?_
  refine G_top (y := nI (min 10 (M 16 2 + 1))) (nI_min (by decide) (by have := hB 16 2; omega)) ?_
  refine G_put (w' := wX cI cZ ad (ms (ms (va_up M 17 (va_cpy (M 15) (M 17) 0 ((M 16 1) * 20) 20)) 16 (1) (((M 16 1) + 1) % 10)) 16 (2) (min 10 (M 16 2 + 1))) t) (ty := .int) C 16 2 tyX2 dX2_push_37 xc_16 rfl inG2 tyX2_ok nmX2 (by decide) wm_195 rfl rfl (by decide +kernel) rfl rfl (Nat.le_of_ble_eq_true rfl) (xp_16_2 _) ?_
  exact G_vret C hr dX2_push_40 rfl (rfl)
set_option maxHeartbeats 4000000 in
set_option maxRecDepth 100000 in
theorem c_X2_pop  (hx : M 16 1 < 10) (hk : 0 < M 16 2) (hB : ∀ k j, M k j < 1024) : CT l yX2_pop cX2_pop 2 none (rmOf 2 62) D (tyI cI cZ) [.ref (ad 16), .ref (ad 14)] (wX cI cZ ad M t) (none) (wX cI cZ ad (x_pop M) t) := by
  refine CT_of (own := "FalseParity$History") (by decide) rfl (Nat.le_of_ble_eq_true rfl) (fun p e s m args below meth c C hr => ?_)
  refine G_aload_n C 0 dX2_pop_0 rfl rfl ?_
  refine G_aload_n C 0 dX2_pop_1 rfl rfl ?_
  refine G_get (v := .int (nI (M 16 1))) C 16 1 dX2_pop_2 xc_16 rfl inG2 (by decide) wm_194 rfl rfl ?_
  refine G_bipush C dX2_pop_5 kB_10 ?_
  refine G_iaddN C dX2_pop_7 ?_
  refine G_iconst C dX2_pop_8 kI_1 ?_
  refine G_isubN C dX2_pop_9 (by omega) ?_
  refine G_bipush C dX2_pop_10 kB_10 ?_
  refine G_iremN C dX2_pop_12 (by omega) (by decide) (by decide) ?_
  refine G_put (w' := wX cI cZ ad (ms M 16 (1) ((((M 16 1) + 10) - 1) % 10)) t) (ty := .int) C 16 1 tyX2 dX2_pop_13 xc_16 rfl inG2 tyX2_ok nmX2 (by decide) wm_194 rfl rfl (by decide +kernel) rfl rfl (Nat.le_of_ble_eq_true rfl) (xp_16_1 _) ?_
  refine G_aload_n C 0 dX2_pop_16 rfl rfl ?_
  refine G_dup C dX2_pop_17 rfl ?_
  refine G_get (v := .int (nI (M 16 2))) C 16 2 dX2_pop_18 xc_16 rfl inG2 (by decide) wm_195 rfl rfl ?_
  refine G_iconst C dX2_pop_21 kI_1 ?_
  refine G_isubN C dX2_pop_22 (by omega) ?_
  refine G_put (w' := wX cI cZ ad (ms (ms M 16 (1) ((((M 16 1) + 10) - 1) % 10)) 16 (2) ((M 16 2) - 1)) t) (ty := .int) C 16 2 tyX2 dX2_pop_23 xc_16 rfl inG2 tyX2_ok nmX2 (by decide) wm_195 rfl rfl (by decide +kernel) rfl rfl (Nat.le_of_ble_eq_true rfl) (xp_16_2 _) ?_
  refine G_aload_n C 1 dX2_pop_26 rfl rfl ?_
  refine G_aload_n C 0 dX2_pop_27 rfl rfl ?_
  refine G_get (v := .ref (ad 17)) C 16 0 dX2_pop_28 xc_16 rfl inG2 (by decide) wm_193 rfl rfl ?_
  refine G_aload_n C 0 dX2_pop_31 rfl rfl ?_
  refine G_get (v := .int (nI ((((M 16 1) + 10) - 1) % 10))) C 16 1 dX2_pop_32 xc_16 rfl inG2 (by decide) wm_194 rfl rfl ?_
  refine G_callV0 C [.ref (ad 17), .int (nI ((((M 16 1) + 10) - 1) % 10))] 14 dX2_pop_35 (c_X6_copyFrom_17 (by omega)) wm_599 wm_600 wm_601 wm_54 wm_602 xc_14 rfl ydc_X6_copyFrom rfl ⟨Nat.le_of_ble_eq_true rfl, Nat.le_of_ble_eq_true rfl⟩ ⟨rfl, rfl⟩ ⟨Nat.le_refl _, Nat.le_refl _⟩ (Nat.le_of_ble_eq_true rfl) rfl ?_
  exact G_vret C hr dX2_pop_38 rfl (rfl)
set_option maxHeartbeats 4000000 in
set_option maxRecDepth 100000 in
theorem c_X3_empty   : CT l yX3_empty cX3_empty 1 none (rmOf 0 0) D (tyI cI cZ) [.ref (ad 18)] (wX cI cZ ad M t) (none) (wX cI cZ ad (ms M 18 (1) (0)) t) := by
  refine CT_of (own := "FalseParity$Images") (by decide) rfl (Nat.le_of_ble_eq_true rfl) (fun p e s m args below meth c C hr => ?_)
  refine G_aload_n C 0 dX3_empty_0 rfl rfl ?_
  refine G_iconst C dX3_empty_1 kI_0 ?_
  refine G_put (w' := wX cI cZ ad (ms M 18 (1) (0)) t) (ty := .int) C 18 1 tyX3 dX3_empty_2 xc_18 rfl inG3 tyX3_ok nmX3 (by decide) wm_211 rfl rfl (by decide +kernel) rfl rfl (Nat.le_of_ble_eq_true rfl) (xp_18_1 _) ?_
  exact G_vret C hr dX3_empty_5 rfl (rfl)
set_option maxHeartbeats 4000000 in
set_option maxRecDepth 100000 in
theorem c_X3_has {i : Nat}  : CT l yX3_has cX3_has 2 (some .boolean) (rmOf 1 21) D (tyI cI cZ) [.ref (ad 18), .int (nI i)] (wX cI cZ ad M t) (some (.int (nI (bN (hb (nI (M 18 1)) i))))) (wX cI cZ ad M t) := by
  refine CT_of (own := "FalseParity$Images") (by decide) rfl (Nat.le_of_ble_eq_true rfl) (fun p e s m args below meth c C hr => ?_)
  refine G_aload_n C 0 dX3_has_0 rfl rfl ?_
  refine G_get (v := .int (nI (M 18 1))) C 18 1 dX3_has_1 xc_18 rfl inG3 (by decide) wm_211 rfl rfl ?_
  refine G_iload_n C 1 dX3_has_4 rfl rfl ?_
  refine G_callSN1 C [.int (nI (M 18 1)), .int (nI i)] dX3_has_5 (c_X10_hasBit) wn_809 wm_464 wm_50 wm_465 ydc_X10_hasBit rfl ⟨Nat.le_of_ble_eq_true rfl, Nat.le_of_ble_eq_true rfl⟩ ⟨rfl, rfl⟩ ⟨Nat.le_refl _, Nat.le_refl _⟩ (Nat.le_of_ble_eq_true rfl) rfl ?_
  exact G_zret C hr dX3_has_8 (nB_nar _) (rfl) (rfl)
set_option maxHeartbeats 4000000 in
set_option maxRecDepth 100000 in
theorem c_X3_store {i : Nat} (hi : i < 2) : CT l yX3_store cX3_store 3 none (rmOf 2 62) D (tyI cI cZ) [.ref (ad 18), .int (nI i), .ref (ad 14)] (wX cI cZ ad M t) (none) (wX cI cZ ad (x_keep M i) t) := by
  refine CT_of (own := "FalseParity$Images") (by decide) rfl (Nat.le_of_ble_eq_true rfl) (fun p e s m args below meth c C hr => ?_)
  refine G_aload_n C 2 dX3_store_0 rfl rfl ?_
  refine G_aload_n C 0 dX3_store_1 rfl rfl ?_
  refine G_get (v := .ref (ad 19)) C 18 0 dX3_store_2 xc_18 rfl inG3 (by decide) wm_210 rfl rfl ?_
  refine G_iload_n C 1 dX3_store_5 rfl rfl ?_
  refine G_callV0 C [.ref (ad 19), .int (nI i)] 14 dX3_store_6 (c_X6_copyTo_19 (by omega)) wm_800 wm_543 wm_544 wm_54 wm_545 xc_14 rfl ydc_X6_copyTo rfl ⟨Nat.le_of_ble_eq_true rfl, Nat.le_of_ble_eq_true rfl⟩ ⟨rfl, rfl⟩ ⟨Nat.le_refl _, Nat.le_refl _⟩ (Nat.le_of_ble_eq_true rfl) rfl ?_
  refine G_aload_n C 0 dX3_store_9 rfl rfl ?_
  refine G_dup C dX3_store_10 rfl ?_
  refine G_get (v := .int (nI (M 18 1))) C 18 1 dX3_store_11 xc_18 rfl inG3 (by decide) wm_211 rfl rfl ?_
  refine G_iconst C dX3_store_14 kI_1 ?_
  refine G_iload_n C 1 dX3_store_15 rfl rfl ?_
  refine G_ishlN C dX3_store_16 (by omega) (sh1 (by omega)) ?_
  refine G_iorN C dX3_store_17 ?_
  refine G_put (w' := wX cI cZ ad (ms (va_up M 19 (va_cpy (M 15) (M 19) 0 ((i) * 20) 20)) 18 (1) ((M 18 1) ||| (1 * 2 ^ i))) t) (ty := .int) C 18 1 tyX3 dX3_store_18 xc_18 rfl inG3 tyX3_ok nmX3 (by decide) wm_211 rfl rfl (by decide +kernel) rfl rfl (Nat.le_of_ble_eq_true rfl) (xp_18_1 _) ?_
  exact G_vret C hr dX3_store_21 rfl (rfl)
set_option maxHeartbeats 4000000 in
set_option maxRecDepth 100000 in
theorem c_X3_restore {i : Nat} (hi : i < 2) : CT l yX3_restore cX3_restore 3 none (rmOf 2 62) D (tyI cI cZ) [.ref (ad 18), .int (nI i), .ref (ad 14)] (wX cI cZ ad M t) (none) (wX cI cZ ad (x_back M i) t) := by
  refine CT_of (own := "FalseParity$Images") (by decide) rfl (Nat.le_of_ble_eq_true rfl) (fun p e s m args below meth c C hr => ?_)
  refine G_aload_n C 2 dX3_restore_0 rfl rfl ?_
  refine G_aload_n C 0 dX3_restore_1 rfl rfl ?_
  refine G_get (v := .ref (ad 19)) C 18 0 dX3_restore_2 xc_18 rfl inG3 (by decide) wm_210 rfl rfl ?_
  refine G_iload_n C 1 dX3_restore_5 rfl rfl ?_
  refine G_callV0 C [.ref (ad 19), .int (nI i)] 14 dX3_restore_6 (c_X6_copyFrom_19 (by omega)) wm_814 wm_600 wm_601 wm_54 wm_602 xc_14 rfl ydc_X6_copyFrom rfl ⟨Nat.le_of_ble_eq_true rfl, Nat.le_of_ble_eq_true rfl⟩ ⟨rfl, rfl⟩ ⟨Nat.le_refl _, Nat.le_refl _⟩ (Nat.le_of_ble_eq_true rfl) rfl ?_
  exact G_vret C hr dX3_restore_9 rfl (rfl)
set_option maxHeartbeats 4000000 in
set_option maxRecDepth 100000 in
theorem c_X7_takers {n : Nat} (hn : n < 6) (hP : M 9 4 ≤ 5) (hB : ∀ k j, M k j < 1024) : CT l yX7_takers cX7_takers 2 (some .int) (rmOf 2 44) D (tyI cI cZ) [.ref (ad 20), .int (nI n)] (wX cI cZ ad M t) (some (.int (nI (x_tk M n)))) (wX cI cZ ad M t) := by
  refine CT_of (own := "FalseParity$Paths") (by decide) rfl (Nat.le_of_ble_eq_true rfl) (fun p e s m args below meth c C hr => ?_)
  refine G_aload_n C 0 dX7_takers_0 rfl rfl ?_
  refine G_get (v := .ref (ad 14)) C 20 1 dX7_takers_1 xc_20 rfl inG7 (by decide) wm_224 rfl rfl ?_
  refine G_iload_n C 1 dX7_takers_4 rfl rfl ?_
  refine G_callV1 C [.int (nI n)] 14 dX7_takers_5 c_X6_hasParity wm_474 wm_460 wm_461 wm_54 wm_462 xc_14 rfl ydc_X6_hasParity rfl ⟨Nat.le_of_ble_eq_true rfl, Nat.le_of_ble_eq_true rfl⟩ ⟨rfl, rfl⟩ ⟨Nat.le_refl _, Nat.le_refl _⟩ (Nat.le_of_ble_eq_true rfl) rfl ?_
  refine G_if_eqB (tgt := 25) C dX7_takers_8 (by decide) (fun h8_1 => ?_) (fun h8_1 => ?_)
  · refine G_aload_n C 0 dX7_takers_25 rfl rfl ?_
    refine G_iload_n C 1 dX7_takers_26 rfl rfl ?_
    refine G_callV1 C [.int (nI n)] 20 dX7_takers_27 (c_X7_takersByLooks (by omega) (by omega) hB) wm_475 wm_477 wm_14 wm_57 wm_478 xc_20 rfl ydc_X7_takersByLooks rfl ⟨Nat.le_of_ble_eq_true rfl, Nat.le_of_ble_eq_true rfl⟩ ⟨rfl, rfl⟩ ⟨Nat.le_refl _, Nat.le_refl _⟩ (Nat.le_of_ble_eq_true rfl) rfl ?_
    exact G_iret C hr dX7_takers_30 (by unfold x_tk; rw [if_neg (by rw [h8_1]; decide)]) (rfl)
  · refine G_iconst C dX7_takers_11 kI_1 ?_
    refine G_aload_n C 0 dX7_takers_12 rfl rfl ?_
    refine G_get (v := .ref (ad 9)) C 20 0 dX7_takers_13 xc_20 rfl inG7 (by decide) wm_223 rfl rfl ?_
    refine G_getN (v := .int (nI (M 9 4))) C 9 4 dX7_takers_16 xc_9 rfl inG1 (by decide) wn_119 rfl rfl ?_
    refine G_ishlN C dX7_takers_19 (by omega) (sh1 (by omega)) ?_
    refine G_iconst C dX7_takers_20 kI_1 ?_
    refine G_isubN C dX7_takers_21 pw1 ?_
    refine G_goto (tgt := 30) C dX7_takers_22 (by decide) ?_
    exact G_iret C hr dX7_takers_30 (by unfold x_tk; rw [if_pos h8_1]) (rfl)
set_option maxHeartbeats 4000000 in
set_option maxRecDepth 100000 in
theorem c_X7_takes {n q : Nat} (hn : n < 6) (hP : M 9 4 ≤ 5) (hB : ∀ k j, M k j < 1024) : CT l yX7_takes cX7_takes 3 (some .boolean) (rmOf 3 65) D (tyI cI cZ) [.ref (ad 20), .int (nI n), .int (nI q)] (wX cI cZ ad M t) (some (.int (nI (bN (hb (nI (x_tk M n)) q))))) (wX cI cZ ad M t) := by
  refine CT_of (own := "FalseParity$Paths") (by decide) rfl (Nat.le_of_ble_eq_true rfl) (fun p e s m args below meth c C hr => ?_)
  refine G_aload_n C 0 dX7_takes_0 rfl rfl ?_
  refine G_iload_n C 1 dX7_takes_1 rfl rfl ?_
  refine G_callV1 C [.int (nI n)] 20 dX7_takes_2 (c_X7_takers (by omega) (by omega) hB) wm_551 wm_471 wm_472 wm_57 wm_473 xc_20 rfl ydc_X7_takers rfl ⟨Nat.le_of_ble_eq_true rfl, Nat.le_of_ble_eq_true rfl⟩ ⟨rfl, rfl⟩ ⟨Nat.le_refl _, Nat.le_refl _⟩ (Nat.le_of_ble_eq_true rfl) rfl ?_
  refine G_iload_n C 2 dX7_takes_5 rfl rfl ?_
  refine G_callSN1 C [.int (nI (x_tk M (n))), .int (nI q)] dX7_takes_6 (c_X10_hasBit) wn_552 wm_464 wm_50 wm_465 ydc_X10_hasBit rfl ⟨Nat.le_of_ble_eq_true rfl, Nat.le_of_ble_eq_true rfl⟩ ⟨rfl, rfl⟩ ⟨Nat.le_refl _, Nat.le_refl _⟩ (Nat.le_of_ble_eq_true rfl) rfl ?_
  exact G_zret C hr dX7_takes_9 (nB_nar _) (rfl) (rfl)
set_option maxHeartbeats 4000000 in
set_option maxRecDepth 100000 in
theorem c_X7_neededForParity {n : Nat} (hn : n < 6) (hu : M 15 (6 + n) ≤ M 9 6) : CT l yX7_neededForParity cX7_neededForParity 2 (some .int) (rmOf 1 21) D (tyI cI cZ) [.ref (ad 20), .int (nI n)] (wX cI cZ ad M t) (some (.int (nI (M 9 6 - M 15 (6 + n))))) (wX cI cZ ad M t) := by
  refine CT_of (own := "FalseParity$Paths") (by decide) rfl (Nat.le_of_ble_eq_true rfl) (fun p e s m args below meth c C hr => ?_)
  refine G_aload_n C 0 dX7_neededForParity_0 rfl rfl ?_
  refine G_get (v := .ref (ad 9)) C 20 0 dX7_neededForParity_1 xc_20 rfl inG7 (by decide) wm_223 rfl rfl ?_
  refine G_getN (v := .int (nI (M 9 6))) C 9 6 dX7_neededForParity_4 xc_9 rfl inG1 (by decide) wn_128 rfl rfl ?_
  refine G_aload_n C 0 dX7_neededForParity_7 rfl rfl ?_
  refine G_get (v := .ref (ad 14)) C 20 1 dX7_neededForParity_8 xc_20 rfl inG7 (by decide) wm_224 rfl rfl ?_
  refine G_iload_n C 1 dX7_neededForParity_11 rfl rfl ?_
  refine G_callV1 C [.int (nI n)] 14 dX7_neededForParity_12 (c_X6_uses (by omega)) wm_611 wm_456 wm_457 wm_54 wm_458 xc_14 rfl ydc_X6_uses rfl ⟨Nat.le_of_ble_eq_true rfl, Nat.le_of_ble_eq_true rfl⟩ ⟨rfl, rfl⟩ ⟨Nat.le_refl _, Nat.le_refl _⟩ (Nat.le_of_ble_eq_true rfl) rfl ?_
  refine G_isubN C dX7_neededForParity_15 (by omega) ?_
  exact G_iret C hr dX7_neededForParity_16 (rfl) (rfl)
set_option maxHeartbeats 4000000 in
set_option maxRecDepth 100000 in
theorem c_X7_hasParityBehind {n b : Nat} (hn : n < 6) (hb0 : b < 1024) (hB : ∀ k j, M k j < 1024) : CT l yX7_hasParityBehind cX7_hasParityBehind 3 (some .boolean) (rmOf 2 42) D (tyI cI cZ) [.ref (ad 20), .int (nI n), .int (nI b)] (wX cI cZ ad M t) (some (.int (nI (bN (x_hpb M n b))))) (wX cI cZ ad M t) := by
  refine CT_of (own := "FalseParity$Paths") (by decide) rfl (Nat.le_of_ble_eq_true rfl) (fun p e s m args below meth c C hr => ?_)
  refine G_aload_n C 0 dX7_hasParityBehind_0 rfl rfl ?_
  refine G_get (v := .ref (ad 14)) C 20 1 dX7_hasParityBehind_1 xc_20 rfl inG7 (by decide) wm_224 rfl rfl ?_
  refine G_iload_n C 1 dX7_hasParityBehind_4 rfl rfl ?_
  refine G_callV1 C [.int (nI n)] 14 dX7_hasParityBehind_5 c_X6_hasParity wm_474 wm_460 wm_461 wm_54 wm_462 xc_14 rfl ydc_X6_hasParity rfl ⟨Nat.le_of_ble_eq_true rfl, Nat.le_of_ble_eq_true rfl⟩ ⟨rfl, rfl⟩ ⟨Nat.le_refl _, Nat.le_refl _⟩ (Nat.le_of_ble_eq_true rfl) rfl ?_
  refine G_if_neB (tgt := 42) C dX7_hasParityBehind_8 (by decide) (fun h8_1 => ?_) (fun h8_1 => ?_)
  · refine G_iconst C dX7_hasParityBehind_42 kI_1 ?_
    refine G_goto (tgt := 47) C dX7_hasParityBehind_43 (by decide) ?_
    exact G_zret C hr dX7_hasParityBehind_47 (by rfl) (bI_t (by simp [x_hpb, h8_1])) (rfl)
  · refine G_aload_n C 0 dX7_hasParityBehind_11 rfl rfl ?_
    refine G_get (v := .ref (ad 9)) C 20 0 dX7_hasParityBehind_12 xc_20 rfl inG7 (by decide) wm_223 rfl rfl ?_
    refine G_iload_n C 1 dX7_hasParityBehind_15 rfl rfl ?_
    refine G_callV1 C [.int (nI n)] 9 dX7_hasParityBehind_16 (c_X1_isFalse (by omega) hB) wm_624 wm_531 wm_532 wm_53 wm_533 xc_9 rfl ydc_X1_isFalse rfl ⟨Nat.le_of_ble_eq_true rfl, Nat.le_of_ble_eq_true rfl⟩ ⟨rfl, rfl⟩ ⟨Nat.le_refl _, Nat.le_refl _⟩ (Nat.le_of_ble_eq_true rfl) rfl ?_
    refine G_if_eqB (tgt := 46) C dX7_hasParityBehind_19 (by decide) (fun h19_2 => ?_) (fun h19_2 => ?_)
    · refine G_iconst C dX7_hasParityBehind_46 kI_0 ?_
      exact G_zret C hr dX7_hasParityBehind_47 (by rfl) (bI_f (by simp [x_hpb, h8_1, h19_2])) (rfl)
    · refine G_aload_n C 0 dX7_hasParityBehind_22 rfl rfl ?_
      refine G_get (v := .ref (ad 14)) C 20 1 dX7_hasParityBehind_23 xc_20 rfl inG7 (by decide) wm_224 rfl rfl ?_
      refine G_iload_n C 1 dX7_hasParityBehind_26 rfl rfl ?_
      refine G_callV1 C [.int (nI n)] 14 dX7_hasParityBehind_27 (c_X6_uses (by omega)) wm_611 wm_456 wm_457 wm_54 wm_458 xc_14 rfl ydc_X6_uses rfl ⟨Nat.le_of_ble_eq_true rfl, Nat.le_of_ble_eq_true rfl⟩ ⟨rfl, rfl⟩ ⟨Nat.le_refl _, Nat.le_refl _⟩ (Nat.le_of_ble_eq_true rfl) rfl ?_
      refine G_iload_n C 2 dX7_hasParityBehind_30 rfl rfl ?_
      refine G_iaddN C dX7_hasParityBehind_31 ?_
      refine G_aload_n C 0 dX7_hasParityBehind_32 rfl rfl ?_
      refine G_get (v := .ref (ad 9)) C 20 0 dX7_hasParityBehind_33 xc_20 rfl inG7 (by decide) wm_223 rfl rfl ?_
      refine G_getN (v := .int (nI (M 9 6))) C 9 6 dX7_hasParityBehind_36 xc_9 rfl inG1 (by decide) wn_128 rfl rfl ?_
      refine G_icmp_ltN (tgt := 46) C dX7_hasParityBehind_39 (by decide) (by have := hB 15 (6 + n); omega) (by have := hB 9 6; omega) (fun h39_3 => ?_) (fun h39_3 => ?_)
      · refine G_iconst C dX7_hasParityBehind_46 kI_0 ?_
        exact G_zret C hr dX7_hasParityBehind_47 (by rfl) (bI_f (by simp [x_hpb, h8_1, h19_2, Nat.not_le.mpr h39_3])) (rfl)
      · refine G_iconst C dX7_hasParityBehind_42 kI_1 ?_
        refine G_goto (tgt := 47) C dX7_hasParityBehind_43 (by decide) ?_
        exact G_zret C hr dX7_hasParityBehind_47 (by rfl) (bI_t (by simp [x_hpb, h8_1, h19_2, h39_3])) (rfl)
set_option maxHeartbeats 4000000 in
set_option maxRecDepth 100000 in
theorem c_X7_choices {n b : Nat} (hn : n < 6) (hb0 : b < 1024) (hP : M 9 4 ≤ 5) (hB : ∀ k j, M k j < 1024) : CT l yX7_choices cX7_choices 5 (some .int) (rmOf 3 64) D (tyI cI cZ) [.ref (ad 20), .int (nI n), .int (nI b)] (wX cI cZ ad M t) (some (.int (x_ch M n b))) (wX cI cZ ad M t) := by
  refine CT_of (own := "FalseParity$Paths") (by decide) rfl (Nat.le_of_ble_eq_true rfl) (fun p e s m args below meth c C hr => ?_)
  refine G_aload_n C 0 dX7_choices_0 rfl rfl ?_
  refine G_iload_n C 1 dX7_choices_1 rfl rfl ?_
  refine G_iload_n C 2 dX7_choices_2 rfl rfl ?_
  refine G_callV1 C [.int (nI n), .int (nI b)] 20 dX7_choices_3 (c_X7_hasParityBehind (by omega) (by omega) hB) wm_620 wm_622 wm_18 wm_57 wm_623 xc_20 rfl ydc_X7_hasParityBehind rfl ⟨Nat.le_of_ble_eq_true rfl, Nat.le_of_ble_eq_true rfl⟩ ⟨rfl, rfl⟩ ⟨Nat.le_refl _, Nat.le_refl _⟩ (Nat.le_of_ble_eq_true rfl) rfl ?_
  refine G_if_eqB (tgt := 19) C dX7_choices_6 (by decide) (fun h6_1 => ?_) (fun h6_1 => ?_)
  · refine G_aload_n C 0 dX7_choices_19 rfl rfl ?_
    refine G_iload_n C 1 dX7_choices_20 rfl rfl ?_
    refine G_callV1 C [.int (nI n)] 20 dX7_choices_21 (c_X7_takersByLooks (by omega) (by omega) hB) wm_475 wm_477 wm_14 wm_57 wm_478 xc_20 rfl ydc_X7_takersByLooks rfl ⟨Nat.le_of_ble_eq_true rfl, Nat.le_of_ble_eq_true rfl⟩ ⟨rfl, rfl⟩ ⟨Nat.le_refl _, Nat.le_refl _⟩ (Nat.le_of_ble_eq_true rfl) rfl ?_
    refine G_istore_n (lv' := [(3, .int (nI (x_tbl M (n)))), (0, .ref (ad 20)), (1, .int (nI n)), (2, .int (nI b))]) C dX7_choices_24 rfl (by decide) rfl ?_
    refine G_iload_n C 3 dX7_choices_25 rfl rfl ?_
    refine G_if_gtN (tgt := 44) C dX7_choices_26 (by decide) (by omega) (fun h26_2 => ?_) (fun h26_2 => ?_)
    · refine G_iconst C dX7_choices_44 kI_1 ?_
      refine G_goto (tgt := 49) C dX7_choices_45 (by decide) ?_
      refine G_istore (lv' := [(4, .int (nI 1)), (3, .int (nI (x_tbl M (n)))), (0, .ref (ad 20)), (1, .int (nI n)), (2, .int (nI b))]) C dX7_choices_49 (by decide) rfl ?_
      refine G_iload_n C 1 dX7_choices_51 rfl rfl ?_
      refine G_callS1 C [.int (nI (x_tbl M (n)))] dX7_choices_52 (c_J6_bitCount_0f7a4 (Nat.lt_trans (x_tbl_lt hP) (by decide))) wm_626 wm_586 wm_64 wm_587 ydc_J6_bitCount_0f7a4 rfl ⟨Nat.le_of_ble_eq_true rfl, Nat.le_of_ble_eq_true rfl⟩ ⟨rfl, rfl⟩ ⟨Nat.le_refl _, Nat.le_refl _⟩ (Nat.le_of_ble_eq_true rfl) rfl ?_
      refine G_iload C 0 dX7_choices_55 rfl ?_
      refine G_if_eqN (tgt := 64) C dX7_choices_57 (by decide) (by decide) (fun h57_3 => ?_) (fun h57_3 => ?_)
      · exact absurd h57_3 (by decide)
      · refine G_iconst C dX7_choices_60 kI_1 ?_
        refine G_goto (tgt := 65) C dX7_choices_61 (by decide) ?_
        refine G_isub C dX7_choices_65 ?_
        exact G_iret C hr dX7_choices_66 (by unfold x_ch; rw [if_neg (by rw [h6_1]; decide)]; simp [h6_1, h26_2, h57_3]) (rfl)
    · refine G_iload_n C 0 dX7_choices_29 rfl rfl ?_
      refine G_aload_n C 1 dX7_choices_30 rfl rfl ?_
      refine G_get (v := .ref (ad 14)) C 20 1 dX7_choices_31 xc_20 rfl inG7 (by decide) wm_224 rfl rfl ?_
      refine G_iload_n C 2 dX7_choices_34 rfl rfl ?_
      refine G_callV1 C [.int (nI n)] 14 dX7_choices_35 (c_X6_holder (by omega)) wm_625 wm_452 wm_453 wm_54 wm_454 xc_14 rfl ydc_X6_holder rfl ⟨Nat.le_of_ble_eq_true rfl, Nat.le_of_ble_eq_true rfl⟩ ⟨rfl, rfl⟩ ⟨Nat.le_refl _, Nat.le_refl _⟩ (Nat.le_of_ble_eq_true rfl) rfl ?_
      refine G_callSN1 C [.int (nI (x_tbl M (n))), .int (nI (M 15 n))] dX7_choices_38 (c_X10_hasBit) wn_552 wm_464 wm_50 wm_465 ydc_X10_hasBit rfl ⟨Nat.le_of_ble_eq_true rfl, Nat.le_of_ble_eq_true rfl⟩ ⟨rfl, rfl⟩ ⟨Nat.le_refl _, Nat.le_refl _⟩ (Nat.le_of_ble_eq_true rfl) rfl ?_
      refine G_if_eqB (tgt := 48) C dX7_choices_41 (by decide) (fun h41_4 => ?_) (fun h41_4 => ?_)
      · refine G_iconst C dX7_choices_48 kI_0 ?_
        refine G_istore (lv' := [(4, .int (nI 0)), (3, .int (nI (x_tbl M (n)))), (0, .ref (ad 20)), (1, .int (nI n)), (2, .int (nI b))]) C dX7_choices_49 (by decide) rfl ?_
        refine G_iload_n C 1 dX7_choices_51 rfl rfl ?_
        refine G_callS1 C [.int (nI (x_tbl M (n)))] dX7_choices_52 (c_J6_bitCount_0f7a4 (Nat.lt_trans (x_tbl_lt hP) (by decide))) wm_626 wm_586 wm_64 wm_587 ydc_J6_bitCount_0f7a4 rfl ⟨Nat.le_of_ble_eq_true rfl, Nat.le_of_ble_eq_true rfl⟩ ⟨rfl, rfl⟩ ⟨Nat.le_refl _, Nat.le_refl _⟩ (Nat.le_of_ble_eq_true rfl) rfl ?_
        refine G_iload C 0 dX7_choices_55 rfl ?_
        refine G_if_eqN (tgt := 64) C dX7_choices_57 (by decide) (by decide) (fun h57_5 => ?_) (fun h57_5 => ?_)
        · refine G_iconst C dX7_choices_64 kI_0 ?_
          refine G_isub C dX7_choices_65 ?_
          exact G_iret C hr dX7_choices_66 (by unfold x_ch; rw [if_neg (by rw [h6_1]; decide)]; simp [h6_1, h26_2, h41_4, h57_5]) (rfl)
        · exact absurd h57_5 (by decide)
      · refine G_iconst C dX7_choices_44 kI_1 ?_
        refine G_goto (tgt := 49) C dX7_choices_45 (by decide) ?_
        refine G_istore (lv' := [(4, .int (nI 1)), (3, .int (nI (x_tbl M (n)))), (0, .ref (ad 20)), (1, .int (nI n)), (2, .int (nI b))]) C dX7_choices_49 (by decide) rfl ?_
        refine G_iload_n C 1 dX7_choices_51 rfl rfl ?_
        refine G_callS1 C [.int (nI (x_tbl M (n)))] dX7_choices_52 (c_J6_bitCount_0f7a4 (Nat.lt_trans (x_tbl_lt hP) (by decide))) wm_626 wm_586 wm_64 wm_587 ydc_J6_bitCount_0f7a4 rfl ⟨Nat.le_of_ble_eq_true rfl, Nat.le_of_ble_eq_true rfl⟩ ⟨rfl, rfl⟩ ⟨Nat.le_refl _, Nat.le_refl _⟩ (Nat.le_of_ble_eq_true rfl) rfl ?_
        refine G_iload C 0 dX7_choices_55 rfl ?_
        refine G_if_eqN (tgt := 64) C dX7_choices_57 (by decide) (by decide) (fun h57_6 => ?_) (fun h57_6 => ?_)
        · exact absurd h57_6 (by decide)
        · refine G_iconst C dX7_choices_60 kI_1 ?_
          refine G_goto (tgt := 65) C dX7_choices_61 (by decide) ?_
          refine G_isub C dX7_choices_65 ?_
          exact G_iret C hr dX7_choices_66 (by unfold x_ch; rw [if_neg (by rw [h6_1]; decide)]; simp [h6_1, h26_2, h41_4, h57_6]) (rfl)
  · refine G_aload_n C 0 dX7_choices_9 rfl rfl ?_
    refine G_get (v := .ref (ad 9)) C 20 0 dX7_choices_10 xc_20 rfl inG7 (by decide) wm_223 rfl rfl ?_
    refine G_getN (v := .int (nI (M 9 4))) C 9 4 dX7_choices_13 xc_9 rfl inG1 (by decide) wn_119 rfl rfl ?_
    refine G_iconst C dX7_choices_16 kI_1 ?_
    refine G_isub C dX7_choices_17 ?_
    exact G_iret C hr dX7_choices_18 (by unfold x_ch; rw [if_pos h6_1]) (rfl)
set_option maxHeartbeats 4000000 in
set_option maxRecDepth 100000 in
theorem c_X7_canGoOn {n k : Nat} (hn : n < 6) (hk : k < 1024) (hP : M 9 4 ≤ 5) (hB : ∀ k j, M k j < 1024) : CT l yX7_canGoOn cX7_canGoOn 4 (some .boolean) (rmOf 4 88) D (tyI cI cZ) [.ref (ad 20), .int (nI n), .int (nI k)] (wX cI cZ ad M t) (some (.int (nI (bN (x_cgo M n k))))) (wX cI cZ ad M t) := by
  refine CT_of (own := "FalseParity$Paths") (by decide) rfl (Nat.le_of_ble_eq_true rfl) (fun p e s m args below meth c C hr => ?_)
  refine G_iconst C dX7_canGoOn_0 kI_0 ?_
  refine G_istore_n (lv' := [(3, .int (nI 0)), (0, .ref (ad 20)), (1, .int (nI n)), (2, .int (nI k))]) C dX7_canGoOn_1 rfl (by decide) rfl ?_
  refine G_pick (lv' := [(0, .ref (ad 20)), (1, .int (nI n)), (2, .int (nI k)), (3, .int (nI 0))]) [1, 2, 3, 0] rfl ?_
  refine loopN (P := fun b => (∀ z, z < b → ¬ x_ch M n z = 0) → G p l e _ s m args below meth c D _ _ _ _ _ 2 [(0, .ref (ad 20)), (1, .int (nI n)), (2, .int (nI k)), (3, .int (nI b))] [] (wX cI cZ ad M t)) (k) ?_ ?_ 0 (Nat.zero_le _)  (fun z h => absurd h (Nat.not_lt_zero z))
  · intro  hi1_0
    refine G_iload_n C 3 dX7_canGoOn_2 rfl rfl ?_
    refine G_iload_n C 2 dX7_canGoOn_3 rfl rfl ?_
    refine G_icmp_geN (tgt := 24) C dX7_canGoOn_4 (by decide) (by omega) (by omega) (fun h4_2 => ?_) (fun h4_2 => ?_)
    · refine G_iconst C dX7_canGoOn_24 kI_1 ?_
      exact G_zret C hr dX7_canGoOn_25 (by rfl) (bI_t (decide_eq_true hi1_0)) (rfl)
    · exfalso; omega
  · intro b hbk ih1  hi1_0
    refine G_iload_n C 3 dX7_canGoOn_2 rfl rfl ?_
    refine G_iload_n C 2 dX7_canGoOn_3 rfl rfl ?_
    refine G_icmp_geN (tgt := 24) C dX7_canGoOn_4 (by decide) (by omega) (by omega) (fun h4_3 => ?_) (fun h4_3 => ?_)
    · exfalso; omega
    · refine G_aload_n C 0 dX7_canGoOn_7 rfl rfl ?_
      refine G_iload_n C 1 dX7_canGoOn_8 rfl rfl ?_
      refine G_iload_n C 3 dX7_canGoOn_9 rfl rfl ?_
      refine G_callV1 C [.int (nI n), .int (nI b)] 20 dX7_canGoOn_10 (c_X7_choices (by omega) (by omega) (by omega) hB) wm_616 wm_618 wm_17 wm_57 wm_619 xc_20 rfl ydc_X7_choices rfl ⟨Nat.le_of_ble_eq_true rfl, Nat.le_of_ble_eq_true rfl⟩ ⟨rfl, rfl⟩ ⟨Nat.le_refl _, Nat.le_refl _⟩ (Nat.le_of_ble_eq_true rfl) rfl ?_
      refine G_if_ne (tgt := 18) C dX7_canGoOn_13 (by decide) (fun h13_4 => ?_) (fun h13_4 => ?_)
      · refine G_iincN (lv' := [(3, .int (nI (b + 1))), (0, .ref (ad 20)), (1, .int (nI n)), (2, .int (nI k))]) C 3 dX7_canGoOn_18 rfl (by decide) rfl ?_
        refine G_goto (tgt := 2) C dX7_canGoOn_21 (by decide) ?_
        refine G_pick (lv' := [(0, .ref (ad 20)), (1, .int (nI n)), (2, .int (nI k)), (3, .int (nI (b + 1)))]) [1, 2, 3, 0] rfl ?_
        exact ih1  (lt_succ_all (P := fun z => ¬ x_ch M n z = 0) hi1_0 h13_4)
      · refine G_iconst C dX7_canGoOn_16 kI_0 ?_
        exact G_zret C hr dX7_canGoOn_17 (by rfl) (bI_f (decide_eq_false (fun z => z b hbk h13_4))) (rfl)
set_option maxHeartbeats 4000000 in
set_option maxRecDepth 100000 in
theorem c_X7_most {n : Nat} (hn : n < 6) (hP : M 9 4 ≤ 5) (hB : ∀ k j, M k j < 1024) : CT l yX7_most cX7_most 3 (some .int) (rmOf 4 88) D (tyI cI cZ) [.ref (ad 20), .int (nI n)] (wX cI cZ ad M t) (some (.int (x_most M n))) (wX cI cZ ad M t) := by
  refine CT_of (own := "FalseParity$Paths") (by decide) rfl (Nat.le_of_ble_eq_true rfl) (fun p e s m args below meth c C hr => ?_)
  refine G_iconst C dX7_most_0 kI_0 ?_
  refine G_istore_n (lv' := [(2, .int (nI 0)), (0, .ref (ad 20)), (1, .int (nI n))]) C dX7_most_1 rfl (by decide) rfl ?_
  refine G_pick (lv' := [(0, .ref (ad 20)), (1, .int (nI n)), (2, .int (nI 0))]) [1, 2, 0] rfl ?_
  refine loopN (P := fun b => (∀ z, z < b → ¬ x_ch M n z = 0) → G p l e _ s m args below meth c D _ _ _ _ _ 2 [(0, .ref (ad 20)), (1, .int (nI n)), (2, .int (nI b))] [] (wX cI cZ ad M t)) (10) ?_ ?_ 0 (Nat.zero_le _)  (fun z h => absurd h (Nat.not_lt_zero z))
  · intro  hi1_0
    refine G_iload_n C 2 dX7_most_2 rfl rfl ?_
    refine G_bipush C dX7_most_3 kB_9 ?_
    refine G_icmp_gtN (tgt := 25) C dX7_most_5 (by decide) (by decide) (by decide) (fun h5_2 => ?_) (fun h5_2 => ?_)
    · refine G_bipush C dX7_most_25 kB_m5 ?_
      exact G_iret C hr dX7_most_27 (by unfold x_most; rw [findTo_none _ 10 0 (fun z _ hz => decide_eq_false (hi1_0 z (by omega)))]) (rfl)
    · exact absurd h5_2 (by decide)
  · intro b hbk ih1  hi1_0
    refine G_iload_n C 2 dX7_most_2 rfl rfl ?_
    refine G_bipush C dX7_most_3 kB_9 ?_
    refine G_icmp_gtN (tgt := 25) C dX7_most_5 (by decide) (by omega) (by decide) (fun h5_3 => ?_) (fun h5_3 => ?_)
    · exfalso; omega
    · refine G_aload_n C 0 dX7_most_8 rfl rfl ?_
      refine G_iload_n C 1 dX7_most_9 rfl rfl ?_
      refine G_iload_n C 2 dX7_most_10 rfl rfl ?_
      refine G_callV1 C [.int (nI n), .int (nI b)] 20 dX7_most_11 (c_X7_choices (by omega) (by omega) (by omega) hB) wm_616 wm_618 wm_17 wm_57 wm_619 xc_20 rfl ydc_X7_choices rfl ⟨Nat.le_of_ble_eq_true rfl, Nat.le_of_ble_eq_true rfl⟩ ⟨rfl, rfl⟩ ⟨Nat.le_refl _, Nat.le_refl _⟩ (Nat.le_of_ble_eq_true rfl) rfl ?_
      refine G_if_ne (tgt := 19) C dX7_most_14 (by decide) (fun h14_4 => ?_) (fun h14_4 => ?_)
      · refine G_iincN (lv' := [(2, .int (nI (b + 1))), (0, .ref (ad 20)), (1, .int (nI n))]) C 2 dX7_most_19 rfl (by decide) rfl ?_
        refine G_goto (tgt := 2) C dX7_most_22 (by decide) ?_
        refine G_pick (lv' := [(0, .ref (ad 20)), (1, .int (nI n)), (2, .int (nI (b + 1)))]) [1, 2, 0] rfl ?_
        exact ih1  (lt_succ_all (P := fun z => ¬ x_ch M n z = 0) hi1_0 h14_4)
      · refine G_iload_n C 2 dX7_most_17 rfl rfl ?_
        exact G_iret C hr dX7_most_18 (by unfold x_most; rw [findTo_some _ 10 0 b (by omega) (by omega) (fun z _ hz => decide_eq_false (hi1_0 z hz)) (decide_eq_true h14_4)]) (rfl)
set_option maxHeartbeats 4000000 in
set_option maxRecDepth 100000 in
theorem c_X7_waysTaken {n k : Nat} (hn : n < 6) (hk : k < 1024) (hP : M 9 4 ≤ 5) (hB : ∀ k j, M k j < 1024) : CT l yX7_waysTaken cX7_waysTaken 5 (some .int) (rmOf 4 88) D (tyI cI cZ) [.ref (ad 20), .int (nI n), .int (nI k)] (wX cI cZ ad M t) (some (.int (x_wtk M n k))) (wX cI cZ ad M t) := by
  refine CT_of (own := "FalseParity$Paths") (by decide) rfl (Nat.le_of_ble_eq_true rfl) (fun p e s m args below meth c C hr => ?_)
  refine G_iconst C dX7_waysTaken_0 kI_1 ?_
  refine G_istore_n (lv' := [(3, .int (nI 1)), (0, .ref (ad 20)), (1, .int (nI n)), (2, .int (nI k))]) C dX7_waysTaken_1 rfl (by decide) rfl ?_
  refine G_iconst C dX7_waysTaken_2 kI_0 ?_
  refine G_istore (lv' := [(4, .int (nI 0)), (3, .int (nI 1)), (0, .ref (ad 20)), (1, .int (nI n)), (2, .int (nI k))]) C dX7_waysTaken_3 (by decide) rfl ?_
  refine G_pick (lv' := [(0, .ref (ad 20)), (1, .int (nI n)), (2, .int (nI k)), (3, .int (nI 1)), (4, .int (nI 0))]) [2, 3, 4, 1, 0] rfl ?_
  refine loopN (P := fun b => ∀ a : Int32, (a = x_wtk M n b) → G p l e _ s m args below meth c D _ _ _ _ _ 5 [(0, .ref (ad 20)), (1, .int (nI n)), (2, .int (nI k)), (3, .int (a)), (4, .int (nI b))] [] (wX cI cZ ad M t)) (k) ?_ ?_ 0 (Nat.zero_le _) (nI 1) rfl
  · intro a hi1_0
    refine G_iload C 4 dX7_waysTaken_5 rfl ?_
    refine G_iload_n C 2 dX7_waysTaken_7 rfl rfl ?_
    refine G_icmp_geN (tgt := 27) C dX7_waysTaken_8 (by decide) (by omega) (by omega) (fun h8_2 => ?_) (fun h8_2 => ?_)
    · refine G_iload_n C 3 dX7_waysTaken_27 rfl rfl ?_
      exact G_iret C hr dX7_waysTaken_28 (by rw [hi1_0]) (rfl)
    · exfalso; omega
  · intro b hbk ih1 a hi1_0
    refine G_iload C 4 dX7_waysTaken_5 rfl ?_
    refine G_iload_n C 2 dX7_waysTaken_7 rfl rfl ?_
    refine G_icmp_geN (tgt := 27) C dX7_waysTaken_8 (by decide) (by omega) (by omega) (fun h8_3 => ?_) (fun h8_3 => ?_)
    · exfalso; omega
    · refine G_iload_n C 3 dX7_waysTaken_11 rfl rfl ?_
      refine G_aload_n C 0 dX7_waysTaken_12 rfl rfl ?_
      refine G_iload_n C 1 dX7_waysTaken_13 rfl rfl ?_
      refine G_iload C 4 dX7_waysTaken_14 rfl ?_
      refine G_callV1 C [.int (nI n), .int (nI b)] 20 dX7_waysTaken_16 (c_X7_choices (by omega) (by omega) (by omega) hB) wm_616 wm_618 wm_17 wm_57 wm_619 xc_20 rfl ydc_X7_choices rfl ⟨Nat.le_of_ble_eq_true rfl, Nat.le_of_ble_eq_true rfl⟩ ⟨rfl, rfl⟩ ⟨Nat.le_refl _, Nat.le_refl _⟩ (Nat.le_of_ble_eq_true rfl) rfl ?_
      refine G_imul C dX7_waysTaken_19 ?_
      refine G_istore_n (lv' := [(3, .int ((a) * (x_ch M (n) (b)))), (0, .ref (ad 20)), (1, .int (nI n)), (2, .int (nI k)), (4, .int (nI b))]) C dX7_waysTaken_20 rfl (by decide) rfl ?_
      refine G_iincN (lv' := [(4, .int (nI (b + 1))), (3, .int ((a) * (x_ch M (n) (b)))), (0, .ref (ad 20)), (1, .int (nI n)), (2, .int (nI k))]) C 4 dX7_waysTaken_21 rfl (by decide) rfl ?_
      refine G_goto (tgt := 5) C dX7_waysTaken_24 (by decide) ?_
      refine G_pick (lv' := [(0, .ref (ad 20)), (1, .int (nI n)), (2, .int (nI k)), (3, .int ((a) * (x_ch M (n) (b)))), (4, .int (nI (b + 1)))]) [2, 3, 4, 1, 0] rfl ?_
      exact ih1 _ (by rw [hi1_0]; rfl)
set_option maxHeartbeats 4000000 in
set_option maxRecDepth 100000 in
theorem c_X7_waysAtAll {k : Nat} (hk : k < 1024) (hB : ∀ k j, M k j < 1024) : CT l yX7_waysAtAll cX7_waysAtAll 4 (some .int) (rmOf 0 0) D (tyI cI cZ) [.ref (ad 20), .int (nI k)] (wX cI cZ ad M t) (some (.int (x_all M k))) (wX cI cZ ad M t) := by
  refine CT_of (own := "FalseParity$Paths") (by decide) rfl (Nat.le_of_ble_eq_true rfl) (fun p e s m args below meth c C hr => ?_)
  refine G_iconst C dX7_waysAtAll_0 kI_1 ?_
  refine G_istore_n (lv' := [(2, .int (nI 1)), (0, .ref (ad 20)), (1, .int (nI k))]) C dX7_waysAtAll_1 rfl (by decide) rfl ?_
  refine G_iconst C dX7_waysAtAll_2 kI_0 ?_
  refine G_istore_n (lv' := [(3, .int (nI 0)), (2, .int (nI 1)), (0, .ref (ad 20)), (1, .int (nI k))]) C dX7_waysAtAll_3 rfl (by decide) rfl ?_
  refine G_pick (lv' := [(0, .ref (ad 20)), (1, .int (nI k)), (2, .int (nI 1)), (3, .int (nI 0))]) [2, 3, 1, 0] rfl ?_
  refine loopN (P := fun b => ∀ a : Int32, (a = x_all M b) → G p l e _ s m args below meth c D _ _ _ _ _ 4 [(0, .ref (ad 20)), (1, .int (nI k)), (2, .int (a)), (3, .int (nI b))] [] (wX cI cZ ad M t)) (k) ?_ ?_ 0 (Nat.zero_le _) (nI 1) rfl
  · intro a hi1_0
    refine G_iload_n C 3 dX7_waysAtAll_4 rfl rfl ?_
    refine G_iload_n C 1 dX7_waysAtAll_5 rfl rfl ?_
    refine G_icmp_geN (tgt := 27) C dX7_waysAtAll_6 (by decide) (by omega) (by omega) (fun h6_2 => ?_) (fun h6_2 => ?_)
    · refine G_iload_n C 2 dX7_waysAtAll_27 rfl rfl ?_
      exact G_iret C hr dX7_waysAtAll_28 (by rw [hi1_0]) (rfl)
    · exfalso; omega
  · intro b hbk ih1 a hi1_0
    refine G_iload_n C 3 dX7_waysAtAll_4 rfl rfl ?_
    refine G_iload_n C 1 dX7_waysAtAll_5 rfl rfl ?_
    refine G_icmp_geN (tgt := 27) C dX7_waysAtAll_6 (by decide) (by omega) (by omega) (fun h6_3 => ?_) (fun h6_3 => ?_)
    · exfalso; omega
    · refine G_iload_n C 2 dX7_waysAtAll_9 rfl rfl ?_
      refine G_aload_n C 0 dX7_waysAtAll_10 rfl rfl ?_
      refine G_get (v := .ref (ad 9)) C 20 0 dX7_waysAtAll_11 xc_20 rfl inG7 (by decide) wm_223 rfl rfl ?_
      refine G_getN (v := .int (nI (M 9 4))) C 9 4 dX7_waysAtAll_14 xc_9 rfl inG1 (by decide) wn_119 rfl rfl ?_
      refine G_iconst C dX7_waysAtAll_17 kI_1 ?_
      refine G_isub C dX7_waysAtAll_18 ?_
      refine G_imul C dX7_waysAtAll_19 ?_
      refine G_istore_n (lv' := [(2, .int ((a) * ((nI (M 9 4)) - (nI (1))))), (0, .ref (ad 20)), (1, .int (nI k)), (3, .int (nI b))]) C dX7_waysAtAll_20 rfl (by decide) rfl ?_
      refine G_iincN (lv' := [(3, .int (nI (b + 1))), (2, .int ((a) * ((nI (M 9 4)) - (nI (1))))), (0, .ref (ad 20)), (1, .int (nI k))]) C 3 dX7_waysAtAll_21 rfl (by decide) rfl ?_
      refine G_goto (tgt := 4) C dX7_waysAtAll_24 (by decide) ?_
      refine G_pick (lv' := [(0, .ref (ad 20)), (1, .int (nI k)), (2, .int ((a) * ((nI (M 9 4)) - (nI (1))))), (3, .int (nI (b + 1)))]) [2, 3, 1, 0] rfl ?_
      exact ih1 _ (by rw [hi1_0]; rfl)
set_option maxHeartbeats 4000000 in
set_option maxRecDepth 100000 in
theorem c_X7_lowestOther {a h : Nat} (hh : h < 1024) (hP : M 9 4 ≤ 5) (hB : ∀ k j, M k j < 1024) : CT l yX7_lowestOther cX7_lowestOther 4 (some .int) (rmOf 1 21) D (tyI cI cZ) [.ref (ad 20), .int (nI a), .int (nI h)] (wX cI cZ ad M t) (some (.int (nI (x_low M a h)))) (wX cI cZ ad M t) := by
  refine CT_of (own := "FalseParity$Paths") (by decide) rfl (Nat.le_of_ble_eq_true rfl) (fun p e s m args below meth c C hr => ?_)
  refine G_iconst C dX7_lowestOther_0 kI_0 ?_
  refine G_istore_n (lv' := [(3, .int (nI 0)), (0, .ref (ad 20)), (1, .int (nI a)), (2, .int (nI h))]) C dX7_lowestOther_1 rfl (by decide) rfl ?_
  refine G_pick (lv' := [(0, .ref (ad 20)), (1, .int (nI a)), (2, .int (nI h)), (3, .int (nI 0))]) [1, 2, 3, 0] rfl ?_
  refine loopN (P := fun b => (∀ z, z < b → (decide (z ≠ h) && hb (nI a) z) = false) → G p l e _ s m args below meth c D _ _ _ _ _ 2 [(0, .ref (ad 20)), (1, .int (nI a)), (2, .int (nI h)), (3, .int (nI b))] [] (wX cI cZ ad M t)) (M 9 4) ?_ ?_ 0 (Nat.zero_le _)  (fun z h => absurd h (Nat.not_lt_zero z))
  · intro  hi1_0
    refine G_iload_n C 3 dX7_lowestOther_2 rfl rfl ?_
    refine G_aload_n C 0 dX7_lowestOther_3 rfl rfl ?_
    refine G_get (v := .ref (ad 9)) C 20 0 dX7_lowestOther_4 xc_20 rfl inG7 (by decide) wm_223 rfl rfl ?_
    refine G_getN (v := .int (nI (M 9 4))) C 9 4 dX7_lowestOther_7 xc_9 rfl inG1 (by decide) wn_119 rfl rfl ?_
    refine G_icmp_geN (tgt := 34) C dX7_lowestOther_10 (by decide) (by have := hB 9 4; omega) (by have := hB 9 4; omega) (fun h10_2 => ?_) (fun h10_2 => ?_)
    · refine G_iload_n C 2 dX7_lowestOther_34 rfl rfl ?_
      exact G_iret C hr dX7_lowestOther_35 (by unfold x_low; rw [findTo_none _ _ 0 (fun z _ hz => hi1_0 z (by omega))]) (rfl)
    · exfalso; omega
  · intro b hbk ih1  hi1_0
    refine G_iload_n C 3 dX7_lowestOther_2 rfl rfl ?_
    refine G_aload_n C 0 dX7_lowestOther_3 rfl rfl ?_
    refine G_get (v := .ref (ad 9)) C 20 0 dX7_lowestOther_4 xc_20 rfl inG7 (by decide) wm_223 rfl rfl ?_
    refine G_getN (v := .int (nI (M 9 4))) C 9 4 dX7_lowestOther_7 xc_9 rfl inG1 (by decide) wn_119 rfl rfl ?_
    refine G_icmp_geN (tgt := 34) C dX7_lowestOther_10 (by decide) (by omega) (by have := hB 9 4; omega) (fun h10_3 => ?_) (fun h10_3 => ?_)
    · exfalso; omega
    · refine G_iload_n C 3 dX7_lowestOther_13 rfl rfl ?_
      refine G_iload_n C 2 dX7_lowestOther_14 rfl rfl ?_
      refine G_icmp_eqN (tgt := 28) C dX7_lowestOther_15 (by decide) (by omega) (by omega) (fun h15_4 => ?_) (fun h15_4 => ?_)
      · refine G_iincN (lv' := [(3, .int (nI (b + 1))), (0, .ref (ad 20)), (1, .int (nI a)), (2, .int (nI h))]) C 3 dX7_lowestOther_28 rfl (by decide) rfl ?_
        refine G_goto (tgt := 2) C dX7_lowestOther_31 (by decide) ?_
        refine G_pick (lv' := [(0, .ref (ad 20)), (1, .int (nI a)), (2, .int (nI h)), (3, .int (nI (b + 1)))]) [1, 2, 3, 0] rfl ?_
        exact ih1  (lt_succ_all (P := fun z => (decide (z ≠ h) && hb (nI a) z) = false) hi1_0 (by simp [h15_4]))
      · refine G_iload_n C 1 dX7_lowestOther_18 rfl rfl ?_
        refine G_iload_n C 3 dX7_lowestOther_19 rfl rfl ?_
        refine G_callSN1 C [.int (nI a), .int (nI b)] dX7_lowestOther_20 (c_X10_hasBit) wn_552 wm_464 wm_50 wm_465 ydc_X10_hasBit rfl ⟨Nat.le_of_ble_eq_true rfl, Nat.le_of_ble_eq_true rfl⟩ ⟨rfl, rfl⟩ ⟨Nat.le_refl _, Nat.le_refl _⟩ (Nat.le_of_ble_eq_true rfl) rfl ?_
        refine G_if_eqB (tgt := 28) C dX7_lowestOther_23 (by decide) (fun h23_5 => ?_) (fun h23_5 => ?_)
        · refine G_iincN (lv' := [(3, .int (nI (b + 1))), (0, .ref (ad 20)), (1, .int (nI a)), (2, .int (nI h))]) C 3 dX7_lowestOther_28 rfl (by decide) rfl ?_
          refine G_goto (tgt := 2) C dX7_lowestOther_31 (by decide) ?_
          refine G_pick (lv' := [(0, .ref (ad 20)), (1, .int (nI a)), (2, .int (nI h)), (3, .int (nI (b + 1)))]) [1, 2, 3, 0] rfl ?_
          exact ih1  (lt_succ_all (P := fun z => (decide (z ≠ h) && hb (nI a) z) = false) hi1_0 (by simp [h23_5]))
        · refine G_iload_n C 3 dX7_lowestOther_26 rfl rfl ?_
          exact G_iret C hr dX7_lowestOther_27 (by unfold x_low; rw [findTo_some _ _ 0 b (by omega) (by omega) (fun z _ hz => hi1_0 z hz) (by simp [h15_4, h23_5])]) (rfl)
set_option maxHeartbeats 4000000 in
set_option maxRecDepth 100000 in
theorem c_X7_personOfRow {n k : Nat} (hn : n < 6) (hk : k < 1024) (hP : M 9 4 ≤ 5) (hB : ∀ k j, M k j < 1024) : CT l yX7_personOfRow cX7_personOfRow 6 (some .int) (rmOf 2 44) D (tyI cI cZ) [.ref (ad 20), .int (nI n), .int (nI k)] (wX cI cZ ad M t) (some (.int (nI (x_row M n k)))) (wX cI cZ ad M t) := by
  refine CT_of (own := "FalseParity$Paths") (by decide) rfl (Nat.le_of_ble_eq_true rfl) (fun p e s m args below meth c C hr => ?_)
  refine G_aload_n C 0 dX7_personOfRow_0 rfl rfl ?_
  refine G_iload_n C 1 dX7_personOfRow_1 rfl rfl ?_
  refine G_callV1 C [.int (nI n)] 20 dX7_personOfRow_2 (c_X7_takersByLooks (by omega) (by omega) hB) wm_475 wm_477 wm_14 wm_57 wm_478 xc_20 rfl ydc_X7_takersByLooks rfl ⟨Nat.le_of_ble_eq_true rfl, Nat.le_of_ble_eq_true rfl⟩ ⟨rfl, rfl⟩ ⟨Nat.le_refl _, Nat.le_refl _⟩ (Nat.le_of_ble_eq_true rfl) rfl ?_
  refine G_istore_n (lv' := [(3, .int (nI (x_tbl M (n)))), (0, .ref (ad 20)), (1, .int (nI n)), (2, .int (nI k))]) C dX7_personOfRow_5 rfl (by decide) rfl ?_
  refine G_aload_n C 1 dX7_personOfRow_6 rfl rfl ?_
  refine G_get (v := .ref (ad 14)) C 20 1 dX7_personOfRow_7 xc_20 rfl inG7 (by decide) wm_224 rfl rfl ?_
  refine G_iload_n C 2 dX7_personOfRow_10 rfl rfl ?_
  refine G_callV1 C [.int (nI n)] 14 dX7_personOfRow_11 (c_X6_holder (by omega)) wm_625 wm_452 wm_453 wm_54 wm_454 xc_14 rfl ydc_X6_holder rfl ⟨Nat.le_of_ble_eq_true rfl, Nat.le_of_ble_eq_true rfl⟩ ⟨rfl, rfl⟩ ⟨Nat.le_refl _, Nat.le_refl _⟩ (Nat.le_of_ble_eq_true rfl) rfl ?_
  refine G_istore (lv' := [(4, .int (nI (M 15 n))), (3, .int (nI (x_tbl M (n)))), (0, .ref (ad 20)), (1, .int (nI n)), (2, .int (nI k))]) C dX7_personOfRow_14 (by decide) rfl ?_
  refine G_iconst C dX7_personOfRow_16 kI_0 ?_
  refine G_istore (lv' := [(5, .int (nI 0)), (4, .int (nI (M 15 n))), (3, .int (nI (x_tbl M (n)))), (0, .ref (ad 20)), (1, .int (nI n)), (2, .int (nI k))]) C dX7_personOfRow_17 (by decide) rfl ?_
  refine G_pick (lv' := [(0, .ref (ad 20)), (1, .int (nI n)), (2, .int (nI k)), (3, .int (nI (x_tbl M (n)))), (4, .int (nI (M 15 n))), (5, .int (nI 0))]) [3, 4, 5, 2, 1, 0] rfl ?_
  refine loopN (P := fun b => ∀ h : Nat, (h = foldTo (fun _ h => x_low M (x_tbl M n) h) (M 15 n) b) → (h < 1024) → G p l e _ s m args below meth c D _ _ _ _ _ 19 [(0, .ref (ad 20)), (1, .int (nI n)), (2, .int (nI k)), (3, .int (nI (x_tbl M (n)))), (4, .int (nI h)), (5, .int (nI b))] [] (wX cI cZ ad M t)) (k + 1) ?_ ?_ 0 (Nat.zero_le _) (M 15 n) rfl (hB _ _)
  · intro h hi1_0 hi1_1
    refine G_iload C 5 dX7_personOfRow_19 rfl ?_
    refine G_iload_n C 2 dX7_personOfRow_21 rfl rfl ?_
    refine G_icmp_gtN (tgt := 40) C dX7_personOfRow_22 (by decide) (by omega) (by omega) (fun h22_2 => ?_) (fun h22_2 => ?_)
    · refine G_iload C 4 dX7_personOfRow_40 rfl ?_
      exact G_iret C hr dX7_personOfRow_42 (by rw [hi1_0]; rfl) (rfl)
    · exfalso; omega
  · intro b hbk ih1 h hi1_0 hi1_1
    refine G_iload C 5 dX7_personOfRow_19 rfl ?_
    refine G_iload_n C 2 dX7_personOfRow_21 rfl rfl ?_
    refine G_icmp_gtN (tgt := 40) C dX7_personOfRow_22 (by decide) (by omega) (by omega) (fun h22_3 => ?_) (fun h22_3 => ?_)
    · exfalso; omega
    · refine G_aload_n C 0 dX7_personOfRow_25 rfl rfl ?_
      refine G_iload_n C 3 dX7_personOfRow_26 rfl rfl ?_
      refine G_iload C 4 dX7_personOfRow_27 rfl ?_
      refine G_callV1 C [.int (nI (x_tbl M (n))), .int (nI h)] 20 dX7_personOfRow_29 (c_X7_lowestOther (by omega) (by omega) hB) wm_631 wm_633 wm_19 wm_57 wm_634 xc_20 rfl ydc_X7_lowestOther rfl ⟨Nat.le_of_ble_eq_true rfl, Nat.le_of_ble_eq_true rfl⟩ ⟨rfl, rfl⟩ ⟨Nat.le_refl _, Nat.le_refl _⟩ (Nat.le_of_ble_eq_true rfl) rfl ?_
      refine G_istore (lv' := [(4, .int (nI (x_low M (x_tbl M (n)) (h)))), (0, .ref (ad 20)), (1, .int (nI n)), (2, .int (nI k)), (3, .int (nI (x_tbl M (n)))), (5, .int (nI b))]) C dX7_personOfRow_32 (by decide) rfl ?_
      refine G_iincN (lv' := [(5, .int (nI (b + 1))), (4, .int (nI (x_low M (x_tbl M (n)) (h)))), (0, .ref (ad 20)), (1, .int (nI n)), (2, .int (nI k)), (3, .int (nI (x_tbl M (n))))]) C 5 dX7_personOfRow_34 rfl (by decide) rfl ?_
      refine G_goto (tgt := 19) C dX7_personOfRow_37 (by decide) ?_
      refine G_pick (lv' := [(0, .ref (ad 20)), (1, .int (nI n)), (2, .int (nI k)), (3, .int (nI (x_tbl M (n)))), (4, .int (nI (x_low M (x_tbl M (n)) (h)))), (5, .int (nI (b + 1)))]) [2, 3, 4, 5, 1, 0] rfl ?_
      exact ih1 _ (by rw [hi1_0]; rfl) (x_low_lt hi1_1 hP)
end X3
end
