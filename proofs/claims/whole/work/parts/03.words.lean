def gw : List Cond := lw_tbl.filter goodWord
def isNest : Cond → Bool
  | .fieldLinkNest .. => true
  | .methodLinkNest .. => true
  | _ => false
def nwl : List Cond := lw_tbl.filter isNest
theorem wmi {w : Cond} (i : Nat) (h : lw_tbl[i]? = some w) (g : goodWord w = true) : w ∈ gw := List.mem_filter.mpr ⟨List.mem_of_getElem? h, g⟩
theorem wni {w : Cond} (i : Nat) (h : lw_tbl[i]? = some w) (g : isNest w = true) : w ∈ nwl := List.mem_filter.mpr ⟨List.mem_of_getElem? h, g⟩
theorem wm_0 : Cond.selects "FalseParity$Reader" ({ cls := "FalseParity$Reader", name := "begin", desc := "()V" } : MethodName) ({ cls := "FalseParity$Reader", name := "begin", desc := "()V" } : MethodName) ∈ gw := wmi 0 (by decide +kernel) rfl
theorem wm_1 : Cond.selects "FalseParity$Reader" ({ cls := "FalseParity$Reader", name := "beginsToken", desc := "(I)Z" } : MethodName) ({ cls := "FalseParity$Reader", name := "beginsToken", desc := "(I)Z" } : MethodName) ∈ gw := wmi 1 (by decide +kernel) rfl
theorem wm_2 : Cond.selects "FalseParity$Reader" ({ cls := "FalseParity$Reader", name := "accepts", desc := "(I)Z" } : MethodName) ({ cls := "FalseParity$Reader", name := "accepts", desc := "(I)Z" } : MethodName) ∈ gw := wmi 2 (by decide +kernel) rfl
theorem wm_3 : Cond.selects "FalseParity$Reader" ({ cls := "FalseParity$Reader", name := "beginsItem", desc := "(I)Z" } : MethodName) ({ cls := "FalseParity$Reader", name := "beginsItem", desc := "(I)Z" } : MethodName) ∈ gw := wmi 3 (by decide +kernel) rfl
theorem wm_4 : Cond.selects "FalseParity$Reader" ({ cls := "FalseParity$Reader", name := "canBegin", desc := "(I)Z" } : MethodName) ({ cls := "FalseParity$Reader", name := "canBegin", desc := "(I)Z" } : MethodName) ∈ gw := wmi 4 (by decide +kernel) rfl
theorem wm_5 : Cond.selects "FalseParity$Reader" ({ cls := "FalseParity$Reader", name := "numbersOfItem", desc := "()I" } : MethodName) ({ cls := "FalseParity$Reader", name := "numbersOfItem", desc := "()I" } : MethodName) ∈ gw := wmi 5 (by decide +kernel) rfl
theorem wm_6 : Cond.selects "FalseParity$Reader" ({ cls := "FalseParity$Reader", name := "numberAt", desc := "(I)I" } : MethodName) ({ cls := "FalseParity$Reader", name := "numberAt", desc := "(I)I" } : MethodName) ∈ gw := wmi 6 (by decide +kernel) rfl
theorem wm_7 : Cond.selects "FalseParity$Reader" ({ cls := "FalseParity$Reader", name := "acceptsNumber", desc := "(I)Z" } : MethodName) ({ cls := "FalseParity$Reader", name := "acceptsNumber", desc := "(I)Z" } : MethodName) ∈ gw := wmi 7 (by decide +kernel) rfl
theorem wm_8 : Cond.selects "FalseParity$Reader" ({ cls := "FalseParity$Reader", name := "leastNumber", desc := "()I" } : MethodName) ({ cls := "FalseParity$Reader", name := "leastNumber", desc := "()I" } : MethodName) ∈ gw := wmi 8 (by decide +kernel) rfl
theorem wm_9 : Cond.selects "FalseParity$Reader" ({ cls := "FalseParity$Reader", name := "mostNumber", desc := "()I" } : MethodName) ({ cls := "FalseParity$Reader", name := "mostNumber", desc := "()I" } : MethodName) ∈ gw := wmi 9 (by decide +kernel) rfl
theorem wm_10 : Cond.selects "FalseParity$Reader" ({ cls := "FalseParity$Reader", name := "mostOfNote", desc := "()I" } : MethodName) ({ cls := "FalseParity$Reader", name := "mostOfNote", desc := "()I" } : MethodName) ∈ gw := wmi 10 (by decide +kernel) rfl
theorem wm_11 : Cond.selects "FalseParity$Reader" ({ cls := "FalseParity$Reader", name := "store", desc := "(I)V" } : MethodName) ({ cls := "FalseParity$Reader", name := "store", desc := "(I)V" } : MethodName) ∈ gw := wmi 11 (by decide +kernel) rfl
theorem wm_12 : Cond.selects "FalseParity$Reader" ({ cls := "FalseParity$Reader", name := "storeOfNote", desc := "(II)V" } : MethodName) ({ cls := "FalseParity$Reader", name := "storeOfNote", desc := "(II)V" } : MethodName) ∈ gw := wmi 12 (by decide +kernel) rfl
theorem wm_13 : Cond.selects "FalseParity$Reader" ({ cls := "FalseParity$Reader", name := "endsItem", desc := "()Z" } : MethodName) ({ cls := "FalseParity$Reader", name := "endsItem", desc := "()Z" } : MethodName) ∈ gw := wmi 13 (by decide +kernel) rfl
theorem wm_14 : Cond.selects "FalseParity$Paths" ({ cls := "FalseParity$Paths", name := "takersByLooks", desc := "(I)I" } : MethodName) ({ cls := "FalseParity$Paths", name := "takersByLooks", desc := "(I)I" } : MethodName) ∈ gw := wmi 14 (by decide +kernel) rfl
theorem wm_15 : Cond.selects "FalseParity" ({ cls := "FalseParity", name := "purse", desc := "(I)I" } : MethodName) ({ cls := "FalseParity", name := "purse", desc := "(I)I" } : MethodName) ∈ gw := wmi 15 (by decide +kernel) rfl
theorem wm_16 : Cond.selects "FalseParity$Board" ({ cls := "FalseParity$Board", name := "falseNotes", desc := "()I" } : MethodName) ({ cls := "FalseParity$Board", name := "falseNotes", desc := "()I" } : MethodName) ∈ gw := wmi 16 (by decide +kernel) rfl
theorem wm_17 : Cond.selects "FalseParity$Paths" ({ cls := "FalseParity$Paths", name := "choices", desc := "(II)I" } : MethodName) ({ cls := "FalseParity$Paths", name := "choices", desc := "(II)I" } : MethodName) ∈ gw := wmi 17 (by decide +kernel) rfl
theorem wm_18 : Cond.selects "FalseParity$Paths" ({ cls := "FalseParity$Paths", name := "hasParityBehind", desc := "(II)Z" } : MethodName) ({ cls := "FalseParity$Paths", name := "hasParityBehind", desc := "(II)Z" } : MethodName) ∈ gw := wmi 18 (by decide +kernel) rfl
theorem wm_19 : Cond.selects "FalseParity$Paths" ({ cls := "FalseParity$Paths", name := "lowestOther", desc := "(II)I" } : MethodName) ({ cls := "FalseParity$Paths", name := "lowestOther", desc := "(II)I" } : MethodName) ∈ gw := wmi 19 (by decide +kernel) rfl
theorem wm_20 : Cond.selects "FalseParity$Marks" ({ cls := "FalseParity$Marks", name := "fits", desc := "(I)Z" } : MethodName) ({ cls := "FalseParity$Marks", name := "fits", desc := "(I)Z" } : MethodName) ∈ gw := wmi 20 (by decide +kernel) rfl
theorem wm_21 : Cond.selects "FalseParity$Marks" ({ cls := "FalseParity$Marks", name := "wouldTake", desc := "(II)I" } : MethodName) ({ cls := "FalseParity$Marks", name := "wouldTake", desc := "(II)I" } : MethodName) ∈ gw := wmi 21 (by decide +kernel) rfl
theorem wm_22 : Cond.selects "FalseParity$Marks" ({ cls := "FalseParity$Marks", name := "howManyTakenBy", desc := "(I)I" } : MethodName) ({ cls := "FalseParity$Marks", name := "howManyTakenBy", desc := "(I)I" } : MethodName) ∈ gw := wmi 22 (by decide +kernel) rfl
theorem wm_23 : Cond.selects "FalseParity$Board" ({ cls := "FalseParity$Board", name := "fits", desc := "(I)Z" } : MethodName) ({ cls := "FalseParity$Board", name := "fits", desc := "(I)Z" } : MethodName) ∈ gw := wmi 23 (by decide +kernel) rfl
theorem wm_24 : Cond.selects "FalseParity$Board" ({ cls := "FalseParity$Board", name := "isBetter", desc := "(II)Z" } : MethodName) ({ cls := "FalseParity$Board", name := "isBetter", desc := "(II)Z" } : MethodName) ∈ gw := wmi 24 (by decide +kernel) rfl
theorem wm_25 : Cond.selects "FalseParity$Kinds" ({ cls := "FalseParity$Kinds", name := "asNote", desc := "(I)I" } : MethodName) ({ cls := "FalseParity$Kinds", name := "asNote", desc := "(I)I" } : MethodName) ∈ gw := wmi 25 (by decide +kernel) rfl
theorem wm_26 : Cond.selects "FalseParity$Kinds" ({ cls := "FalseParity$Kinds", name := "asTwenty", desc := "(I)I" } : MethodName) ({ cls := "FalseParity$Kinds", name := "asTwenty", desc := "(I)I" } : MethodName) ∈ gw := wmi 26 (by decide +kernel) rfl
theorem wm_27 : Cond.selects "FalseParity$Kinds" ({ cls := "FalseParity$Kinds", name := "asQueen", desc := "(I)I" } : MethodName) ({ cls := "FalseParity$Kinds", name := "asQueen", desc := "(I)I" } : MethodName) ∈ gw := wmi 27 (by decide +kernel) rfl
theorem wm_28 : Cond.selects "FalseParity$Kinds" ({ cls := "FalseParity$Kinds", name := "asAccent", desc := "(I)I" } : MethodName) ({ cls := "FalseParity$Kinds", name := "asAccent", desc := "(I)I" } : MethodName) ∈ gw := wmi 28 (by decide +kernel) rfl
theorem wm_29 : Cond.selects "FalseParity$Kinds" ({ cls := "FalseParity$Kinds", name := "asNose", desc := "(I)I" } : MethodName) ({ cls := "FalseParity$Kinds", name := "asNose", desc := "(I)I" } : MethodName) ∈ gw := wmi 29 (by decide +kernel) rfl
theorem wm_30 : Cond.selects "FalseParity$Kinds" ({ cls := "FalseParity$Kinds", name := "asPaper", desc := "(I)I" } : MethodName) ({ cls := "FalseParity$Kinds", name := "asPaper", desc := "(I)I" } : MethodName) ∈ gw := wmi 30 (by decide +kernel) rfl
theorem wm_31 : Cond.selects "FalseParityModel" ({ cls := "FalseParityModel", name := "begins", desc := "()V" } : MethodName) ({ cls := "FalseParityModel", name := "begins", desc := "()V" } : MethodName) ∈ gw := wmi 31 (by decide +kernel) rfl
theorem wm_32 : Cond.selects "FalseParityModel" ({ cls := "FalseParityModel", name := "settles", desc := "()V" } : MethodName) ({ cls := "FalseParityModel", name := "settles", desc := "()V" } : MethodName) ∈ gw := wmi 32 (by decide +kernel) rfl
theorem wm_33 : Cond.selects "FalseParityModel" ({ cls := "FalseParityModel", name := "advances", desc := "()V" } : MethodName) ({ cls := "FalseParityModel", name := "advances", desc := "()V" } : MethodName) ∈ gw := wmi 33 (by decide +kernel) rfl
theorem wm_34 : Cond.selects "FalseParityModel" ({ cls := "FalseParityModel", name := "letterAt", desc := "(I)I" } : MethodName) ({ cls := "FalseParityModel", name := "letterAt", desc := "(I)I" } : MethodName) ∈ gw := wmi 34 (by decide +kernel) rfl
theorem wm_35 : Cond.selects "FalseParityModel" ({ cls := "FalseParityModel", name := "isWell", desc := "()Z" } : MethodName) ({ cls := "FalseParityModel", name := "isWell", desc := "()Z" } : MethodName) ∈ gw := wmi 35 (by decide +kernel) rfl
theorem wm_36 : Cond.selects "FalseParityModel" ({ cls := "FalseParityModel", name := "mayBegin", desc := "()Z" } : MethodName) ({ cls := "FalseParityModel", name := "mayBegin", desc := "()Z" } : MethodName) ∈ gw := wmi 36 (by decide +kernel) rfl
theorem wm_37 : Cond.selects "FalseParityModel" ({ cls := "FalseParityModel", name := "takes", desc := "(Z)I" } : MethodName) ({ cls := "FalseParityModel", name := "takes", desc := "(Z)I" } : MethodName) ∈ gw := wmi 37 (by decide +kernel) rfl
theorem wm_38 : Cond.selects "FalseParityModel" ({ cls := "FalseParityModel", name := "readsItem", desc := "(I)V" } : MethodName) ({ cls := "FalseParityModel", name := "readsItem", desc := "(I)V" } : MethodName) ∈ gw := wmi 38 (by decide +kernel) rfl
theorem wm_39 : Cond.selects "FalseParityModel" ({ cls := "FalseParityModel", name := "number", desc := "(II)I" } : MethodName) ({ cls := "FalseParityModel", name := "number", desc := "(II)I" } : MethodName) ∈ gw := wmi 39 (by decide +kernel) rfl
theorem wm_40 : Cond.selects "FalseParityModel" ({ cls := "FalseParityModel", name := "isNote", desc := "(I)Z" } : MethodName) ({ cls := "FalseParityModel", name := "isNote", desc := "(I)Z" } : MethodName) ∈ gw := wmi 40 (by decide +kernel) rfl
theorem wm_41 : Cond.selects "FalseParityModel" ({ cls := "FalseParityModel", name := "hasParity", desc := "(I)Z" } : MethodName) ({ cls := "FalseParityModel", name := "hasParity", desc := "(I)Z" } : MethodName) ∈ gw := wmi 41 (by decide +kernel) rfl
theorem wm_42 : Cond.selects "FalseParityModel" ({ cls := "FalseParityModel", name := "takers", desc := "(IZ)I" } : MethodName) ({ cls := "FalseParityModel", name := "takers", desc := "(IZ)I" } : MethodName) ∈ gw := wmi 42 (by decide +kernel) rfl
theorem wm_43 : Cond.selects "FalseParityModel" ({ cls := "FalseParityModel", name := "isPerson", desc := "(I)Z" } : MethodName) ({ cls := "FalseParityModel", name := "isPerson", desc := "(I)Z" } : MethodName) ∈ gw := wmi 43 (by decide +kernel) rfl
theorem wm_44 : Cond.selects "FalseParityModel" ({ cls := "FalseParityModel", name := "isAway", desc := "(I)Z" } : MethodName) ({ cls := "FalseParityModel", name := "isAway", desc := "(I)Z" } : MethodName) ∈ gw := wmi 44 (by decide +kernel) rfl
theorem wm_45 : Cond.selects "FalseParityModel" ({ cls := "FalseParityModel", name := "worthOfAll", desc := "(Z)I" } : MethodName) ({ cls := "FalseParityModel", name := "worthOfAll", desc := "(Z)I" } : MethodName) ∈ gw := wmi 45 (by decide +kernel) rfl
theorem wm_46 : Cond.selects "FalseParityModel" ({ cls := "FalseParityModel", name := "notes", desc := "()V" } : MethodName) ({ cls := "FalseParityModel", name := "notes", desc := "()V" } : MethodName) ∈ gw := wmi 46 (by decide +kernel) rfl
theorem wm_47 : Cond.selects "FalseParityModel" ({ cls := "FalseParityModel", name := "mayBe", desc := "(II)Z" } : MethodName) ({ cls := "FalseParityModel", name := "mayBe", desc := "(II)Z" } : MethodName) ∈ gw := wmi 47 (by decide +kernel) rfl
theorem wm_48 : Cond.selects "FalseParityModel" ({ cls := "FalseParityModel", name := "worthOf", desc := "(IZ)I" } : MethodName) ({ cls := "FalseParityModel", name := "worthOf", desc := "(IZ)I" } : MethodName) ∈ gw := wmi 48 (by decide +kernel) rfl
theorem wm_49 : Cond.initialized "FalseParityLaw" ∈ gw := wmi 49 (by decide +kernel) rfl
theorem wm_50 : Cond.initialized "FalseParity" ∈ gw := wmi 50 (by decide +kernel) rfl
theorem wm_51 : Cond.initialized "FalseParity$Text" ∈ gw := wmi 51 (by decide +kernel) rfl
theorem wm_52 : Cond.initialized "FalseParity$Reader" ∈ gw := wmi 52 (by decide +kernel) rfl
theorem wm_53 : Cond.initialized "FalseParity$Country" ∈ gw := wmi 53 (by decide +kernel) rfl
theorem wm_54 : Cond.initialized "FalseParity$Now" ∈ gw := wmi 54 (by decide +kernel) rfl
theorem wm_55 : Cond.initialized "FalseParity$History" ∈ gw := wmi 55 (by decide +kernel) rfl
theorem wm_56 : Cond.initialized "FalseParity$Images" ∈ gw := wmi 56 (by decide +kernel) rfl
theorem wm_57 : Cond.initialized "FalseParity$Paths" ∈ gw := wmi 57 (by decide +kernel) rfl
theorem wm_58 : Cond.initialized "FalseParity$Marks" ∈ gw := wmi 58 (by decide +kernel) rfl
theorem wm_59 : Cond.initialized "FalseParity$Board" ∈ gw := wmi 59 (by decide +kernel) rfl
theorem wm_60 : Cond.initialized "FalseParity$Kinds" ∈ gw := wmi 60 (by decide +kernel) rfl
theorem wm_61 : Cond.initialized "FalseParityModel" ∈ gw := wmi 61 (by decide +kernel) rfl
theorem wm_62 : Cond.initialized "java/lang/Math" ∈ gw := wmi 62 (by decide +kernel) rfl
theorem wm_63 : Cond.initialized "java/lang/System" ∈ gw := wmi 63 (by decide +kernel) rfl
theorem wm_64 : Cond.initialized "java/lang/Integer" ∈ gw := wmi 64 (by decide +kernel) rfl
theorem wm_65 : Cond.classLink "FalseParityLaw" (7 : Nat) "FalseParity" ∈ gw := wmi 65 (by decide +kernel) rfl
theorem wm_66 : Cond.instantiable "FalseParity" (10 : Nat) ∈ gw := wmi 66 (by decide +kernel) rfl
theorem wm_67 : Cond.methodLink "FalseParityLaw" (9 : Nat) ({ cls := "FalseParity", name := "<init>", desc := "()V" } : MethodName) ∈ gw := wmi 67 (by decide +kernel) rfl
theorem wm_68 : Cond.instanceMethod ({ cls := "FalseParity", name := "<init>", desc := "()V" } : MethodName) ∈ gw := wmi 68 (by decide +kernel) rfl
theorem wm_69 : Cond.code ({ cls := "FalseParity", name := "<init>", desc := "()V" } : MethodName) prog_1_method_1_code (1 : Nat) (Option.none : Option FieldType) ∈ gw := wmi 69 (by decide +kernel) rfl
theorem wm_70 : Cond.methodLink "FalseParity" (1 : Nat) ({ cls := "java/lang/Object", name := "<init>", desc := "()V" } : MethodName) ∈ gw := wmi 70 (by decide +kernel) rfl
theorem wm_71 : Cond.instanceMethod ({ cls := "java/lang/Object", name := "<init>", desc := "()V" } : MethodName) ∈ gw := wmi 71 (by decide +kernel) rfl
theorem wm_72 : Cond.code ({ cls := "java/lang/Object", name := "<init>", desc := "()V" } : MethodName) object_method_1_code (1 : Nat) (Option.none : Option FieldType) ∈ gw := wmi 72 (by decide +kernel) rfl
theorem wm_73 : Cond.classLink "FalseParity" (7 : Nat) "FalseParity$Text" ∈ gw := wmi 73 (by decide +kernel) rfl
theorem wm_74 : Cond.instantiable "FalseParity$Text" (2 : Nat) ∈ gw := wmi 74 (by decide +kernel) rfl
theorem wn_75 : Cond.methodLinkNest "FalseParity" (9 : Nat) ({ cls := "FalseParity$Text", name := "<init>", desc := "()V" } : MethodName) "FalseParity" ∈ nwl := wni 75 (by decide +kernel) rfl
theorem wm_76 : Cond.instanceMethod ({ cls := "FalseParity$Text", name := "<init>", desc := "()V" } : MethodName) ∈ gw := wmi 76 (by decide +kernel) rfl
theorem wm_77 : Cond.code ({ cls := "FalseParity$Text", name := "<init>", desc := "()V" } : MethodName) prog_11_method_1_code (1 : Nat) (Option.none : Option FieldType) ∈ gw := wmi 77 (by decide +kernel) rfl
theorem wm_78 : Cond.methodLink "FalseParity$Text" (3 : Nat) ({ cls := "java/lang/Object", name := "<init>", desc := "()V" } : MethodName) ∈ gw := wmi 78 (by decide +kernel) rfl
theorem wm_79 : Cond.fieldLink "FalseParity$Text" (9 : Nat) "FalseParity$Text" "letters" "[I" ∈ gw := wmi 79 (by decide +kernel) rfl
theorem wn_80 : Cond.fieldLinkNest "FalseParity$Reader" (57 : Nat) "FalseParity$Text" "letters" "[I" "FalseParity" ∈ nwl := wni 80 (by decide +kernel) rfl
theorem wm_81 : Cond.fieldLink "FalseParity$Text" (15 : Nat) "FalseParity$Text" "length" "I" ∈ gw := wmi 81 (by decide +kernel) rfl
theorem wn_82 : Cond.fieldLinkNest "FalseParity$Reader" (25 : Nat) "FalseParity$Text" "length" "I" "FalseParity" ∈ nwl := wni 82 (by decide +kernel) rfl
theorem wn_83 : Cond.fieldLinkNest "FalseParity" (282 : Nat) "FalseParity$Text" "length" "I" "FalseParity" ∈ nwl := wni 83 (by decide +kernel) rfl
theorem wm_84 : Cond.laysFinal "FalseParity$Text" "FalseParity$Text" "letters" "[I" ∈ gw := wmi 84 (by decide +kernel) rfl
theorem wm_86 : Cond.lays "FalseParity$Text" "FalseParity$Text" "length" "I" ∈ gw := wmi 86 (by decide +kernel) rfl
theorem wm_89 : Cond.arrayClass FieldType.int ∈ gw := wmi 89 (by decide +kernel) rfl
theorem wm_90 : Cond.classLink "FalseParity" (16 : Nat) "FalseParity$Reader" ∈ gw := wmi 90 (by decide +kernel) rfl
theorem wm_91 : Cond.instantiable "FalseParity$Reader" (7 : Nat) ∈ gw := wmi 91 (by decide +kernel) rfl
theorem wm_92 : Cond.methodLink "FalseParity" (18 : Nat) ({ cls := "FalseParity$Reader", name := "<init>", desc := "(LFalseParity$Text;)V" } : MethodName) ∈ gw := wmi 92 (by decide +kernel) rfl
theorem wm_93 : Cond.instanceMethod ({ cls := "FalseParity$Reader", name := "<init>", desc := "(LFalseParity$Text;)V" } : MethodName) ∈ gw := wmi 93 (by decide +kernel) rfl
theorem wm_94 : Cond.code ({ cls := "FalseParity$Reader", name := "<init>", desc := "(LFalseParity$Text;)V" } : MethodName) prog_10_method_1_code (2 : Nat) (Option.none : Option FieldType) ∈ gw := wmi 94 (by decide +kernel) rfl
theorem wm_95 : Cond.methodLink "FalseParity$Reader" (3 : Nat) ({ cls := "java/lang/Object", name := "<init>", desc := "()V" } : MethodName) ∈ gw := wmi 95 (by decide +kernel) rfl
theorem wm_96 : Cond.classLink "FalseParity$Reader" (9 : Nat) "FalseParity$Country" ∈ gw := wmi 96 (by decide +kernel) rfl
theorem wm_97 : Cond.instantiable "FalseParity$Country" (8 : Nat) ∈ gw := wmi 97 (by decide +kernel) rfl
theorem wn_98 : Cond.methodLinkNest "FalseParity$Reader" (11 : Nat) ({ cls := "FalseParity$Country", name := "<init>", desc := "()V" } : MethodName) "FalseParity" ∈ nwl := wni 98 (by decide +kernel) rfl
theorem wm_99 : Cond.instanceMethod ({ cls := "FalseParity$Country", name := "<init>", desc := "()V" } : MethodName) ∈ gw := wmi 99 (by decide +kernel) rfl
theorem wm_100 : Cond.code ({ cls := "FalseParity$Country", name := "<init>", desc := "()V" } : MethodName) prog_3_method_1_code (1 : Nat) (Option.none : Option FieldType) ∈ gw := wmi 100 (by decide +kernel) rfl
theorem wm_101 : Cond.methodLink "FalseParity$Country" (3 : Nat) ({ cls := "java/lang/Object", name := "<init>", desc := "()V" } : MethodName) ∈ gw := wmi 101 (by decide +kernel) rfl
theorem wm_102 : Cond.fieldLink "FalseParity$Country" (9 : Nat) "FalseParity$Country" "looks" "[I" ∈ gw := wmi 102 (by decide +kernel) rfl
theorem wn_103 : Cond.fieldLinkNest "FalseParity$Now" (26 : Nat) "FalseParity$Country" "looks" "[I" "FalseParity" ∈ nwl := wni 103 (by decide +kernel) rfl
theorem wn_104 : Cond.fieldLinkNest "FalseParity$Reader" (110 : Nat) "FalseParity$Country" "looks" "[I" "FalseParity" ∈ nwl := wni 104 (by decide +kernel) rfl
theorem wm_105 : Cond.fieldLink "FalseParity$Country" (15 : Nat) "FalseParity$Country" "worth" "[I" ∈ gw := wmi 105 (by decide +kernel) rfl
theorem wn_106 : Cond.fieldLinkNest "FalseParity$Kinds" (43 : Nat) "FalseParity$Country" "worth" "[I" "FalseParity" ∈ nwl := wni 106 (by decide +kernel) rfl
theorem wn_107 : Cond.fieldLinkNest "FalseParity" (113 : Nat) "FalseParity$Country" "worth" "[I" "FalseParity" ∈ nwl := wni 107 (by decide +kernel) rfl
theorem wn_108 : Cond.fieldLinkNest "FalseParity$Board" (56 : Nat) "FalseParity$Country" "worth" "[I" "FalseParity" ∈ nwl := wni 108 (by decide +kernel) rfl
theorem wn_109 : Cond.fieldLinkNest "FalseParity$Reader" (123 : Nat) "FalseParity$Country" "worth" "[I" "FalseParity" ∈ nwl := wni 109 (by decide +kernel) rfl
theorem wm_110 : Cond.fieldLink "FalseParity$Country" (18 : Nat) "FalseParity$Country" "marks" "[I" ∈ gw := wmi 110 (by decide +kernel) rfl
theorem wn_111 : Cond.fieldLinkNest "FalseParity$Kinds" (58 : Nat) "FalseParity$Country" "marks" "[I" "FalseParity" ∈ nwl := wni 111 (by decide +kernel) rfl
theorem wn_112 : Cond.fieldLinkNest "FalseParity" (117 : Nat) "FalseParity$Country" "marks" "[I" "FalseParity" ∈ nwl := wni 112 (by decide +kernel) rfl
theorem wn_113 : Cond.fieldLinkNest "FalseParity$Paths" (69 : Nat) "FalseParity$Country" "marks" "[I" "FalseParity" ∈ nwl := wni 113 (by decide +kernel) rfl
theorem wn_114 : Cond.fieldLinkNest "FalseParity$Reader" (126 : Nat) "FalseParity$Country" "marks" "[I" "FalseParity" ∈ nwl := wni 114 (by decide +kernel) rfl
theorem wm_115 : Cond.fieldLink "FalseParity$Country" (21 : Nat) "FalseParity$Country" "holders" "[I" ∈ gw := wmi 115 (by decide +kernel) rfl
theorem wn_116 : Cond.fieldLinkNest "FalseParity$Now" (15 : Nat) "FalseParity$Country" "holders" "[I" "FalseParity" ∈ nwl := wni 116 (by decide +kernel) rfl
theorem wn_117 : Cond.fieldLinkNest "FalseParity$Reader" (129 : Nat) "FalseParity$Country" "holders" "[I" "FalseParity" ∈ nwl := wni 117 (by decide +kernel) rfl
theorem wm_118 : Cond.fieldLink "FalseParity$Country" (31 : Nat) "FalseParity$Country" "people" "I" ∈ gw := wmi 118 (by decide +kernel) rfl
theorem wn_119 : Cond.fieldLinkNest "FalseParity$Paths" (25 : Nat) "FalseParity$Country" "people" "I" "FalseParity" ∈ nwl := wni 119 (by decide +kernel) rfl
theorem wn_120 : Cond.fieldLinkNest "FalseParity$Marks" (38 : Nat) "FalseParity$Country" "people" "I" "FalseParity" ∈ nwl := wni 120 (by decide +kernel) rfl
theorem wn_121 : Cond.fieldLinkNest "FalseParity$Reader" (85 : Nat) "FalseParity$Country" "people" "I" "FalseParity" ∈ nwl := wni 121 (by decide +kernel) rfl
theorem wn_122 : Cond.fieldLinkNest "FalseParity" (273 : Nat) "FalseParity$Country" "people" "I" "FalseParity" ∈ nwl := wni 122 (by decide +kernel) rfl
theorem wm_123 : Cond.fieldLink "FalseParity$Country" (34 : Nat) "FalseParity$Country" "notes" "I" ∈ gw := wmi 123 (by decide +kernel) rfl
theorem wn_124 : Cond.fieldLinkNest "FalseParity$Reader" (88 : Nat) "FalseParity$Country" "notes" "I" "FalseParity" ∈ nwl := wni 124 (by decide +kernel) rfl
theorem wn_125 : Cond.fieldLinkNest "FalseParity$Board" (47 : Nat) "FalseParity$Country" "notes" "I" "FalseParity" ∈ nwl := wni 125 (by decide +kernel) rfl
theorem wn_126 : Cond.fieldLinkNest "FalseParity" (276 : Nat) "FalseParity$Country" "notes" "I" "FalseParity" ∈ nwl := wni 126 (by decide +kernel) rfl
theorem wm_127 : Cond.fieldLink "FalseParity$Country" (24 : Nat) "FalseParity$Country" "board" "I" ∈ gw := wmi 127 (by decide +kernel) rfl
theorem wn_128 : Cond.fieldLinkNest "FalseParity$Paths" (42 : Nat) "FalseParity$Country" "board" "I" "FalseParity" ∈ nwl := wni 128 (by decide +kernel) rfl
theorem wn_129 : Cond.fieldLinkNest "FalseParity" (181 : Nat) "FalseParity$Country" "board" "I" "FalseParity" ∈ nwl := wni 129 (by decide +kernel) rfl
theorem wn_130 : Cond.fieldLinkNest "FalseParity$Reader" (117 : Nat) "FalseParity$Country" "board" "I" "FalseParity" ∈ nwl := wni 130 (by decide +kernel) rfl
theorem wm_131 : Cond.fieldLink "FalseParity$Country" (28 : Nat) "FalseParity$Country" "share" "I" ∈ gw := wmi 131 (by decide +kernel) rfl
theorem wn_132 : Cond.fieldLinkNest "FalseParity$Board" (62 : Nat) "FalseParity$Country" "share" "I" "FalseParity" ∈ nwl := wni 132 (by decide +kernel) rfl
theorem wn_133 : Cond.fieldLinkNest "FalseParity$Reader" (120 : Nat) "FalseParity$Country" "share" "I" "FalseParity" ∈ nwl := wni 133 (by decide +kernel) rfl
theorem wn_134 : Cond.fieldLinkNest "FalseParity" (279 : Nat) "FalseParity$Country" "share" "I" "FalseParity" ∈ nwl := wni 134 (by decide +kernel) rfl
theorem wm_135 : Cond.laysFinal "FalseParity$Country" "FalseParity$Country" "looks" "[I" ∈ gw := wmi 135 (by decide +kernel) rfl
theorem wm_137 : Cond.laysFinal "FalseParity$Country" "FalseParity$Country" "worth" "[I" ∈ gw := wmi 137 (by decide +kernel) rfl
theorem wm_139 : Cond.laysFinal "FalseParity$Country" "FalseParity$Country" "marks" "[I" ∈ gw := wmi 139 (by decide +kernel) rfl
theorem wm_141 : Cond.laysFinal "FalseParity$Country" "FalseParity$Country" "holders" "[I" ∈ gw := wmi 141 (by decide +kernel) rfl
theorem wm_143 : Cond.lays "FalseParity$Country" "FalseParity$Country" "people" "I" ∈ gw := wmi 143 (by decide +kernel) rfl
theorem wm_145 : Cond.lays "FalseParity$Country" "FalseParity$Country" "notes" "I" ∈ gw := wmi 145 (by decide +kernel) rfl
theorem wm_147 : Cond.lays "FalseParity$Country" "FalseParity$Country" "board" "I" ∈ gw := wmi 147 (by decide +kernel) rfl
theorem wm_149 : Cond.lays "FalseParity$Country" "FalseParity$Country" "share" "I" ∈ gw := wmi 149 (by decide +kernel) rfl
theorem wm_152 : Cond.fieldLink "FalseParity$Reader" (18 : Nat) "FalseParity$Reader" "text" "LFalseParity$Text;" ∈ gw := wmi 152 (by decide +kernel) rfl
theorem wm_153 : Cond.fieldLink "FalseParity$Reader" (12 : Nat) "FalseParity$Reader" "draft" "LFalseParity$Country;" ∈ gw := wmi 153 (by decide +kernel) rfl
theorem wn_154 : Cond.fieldLinkNest "FalseParity" (94 : Nat) "FalseParity$Reader" "draft" "LFalseParity$Country;" "FalseParity" ∈ nwl := wni 154 (by decide +kernel) rfl
theorem wm_155 : Cond.fieldLink "FalseParity$Reader" (41 : Nat) "FalseParity$Reader" "items" "I" ∈ gw := wmi 155 (by decide +kernel) rfl
theorem wm_156 : Cond.fieldLink "FalseParity$Reader" (38 : Nat) "FalseParity$Reader" "item" "I" ∈ gw := wmi 156 (by decide +kernel) rfl
theorem wm_157 : Cond.fieldLink "FalseParity$Reader" (64 : Nat) "FalseParity$Reader" "numbers" "I" ∈ gw := wmi 157 (by decide +kernel) rfl
theorem wm_158 : Cond.fieldLink "FalseParity$Reader" (47 : Nat) "FalseParity$Reader" "boardTold" "Z" ∈ gw := wmi 158 (by decide +kernel) rfl
theorem wm_159 : Cond.fieldLink "FalseParity$Reader" (51 : Nat) "FalseParity$Reader" "shareTold" "Z" ∈ gw := wmi 159 (by decide +kernel) rfl
theorem wm_160 : Cond.laysFinal "FalseParity$Reader" "FalseParity$Reader" "text" "LFalseParity$Text;" ∈ gw := wmi 160 (by decide +kernel) rfl
theorem wm_162 : Cond.laysFinal "FalseParity$Reader" "FalseParity$Reader" "draft" "LFalseParity$Country;" ∈ gw := wmi 162 (by decide +kernel) rfl
theorem wm_164 : Cond.lays "FalseParity$Reader" "FalseParity$Reader" "items" "I" ∈ gw := wmi 164 (by decide +kernel) rfl
theorem wm_166 : Cond.lays "FalseParity$Reader" "FalseParity$Reader" "item" "I" ∈ gw := wmi 166 (by decide +kernel) rfl
theorem wm_168 : Cond.lays "FalseParity$Reader" "FalseParity$Reader" "numbers" "I" ∈ gw := wmi 168 (by decide +kernel) rfl
theorem wm_170 : Cond.lays "FalseParity$Reader" "FalseParity$Reader" "boardTold" "Z" ∈ gw := wmi 170 (by decide +kernel) rfl
theorem wm_172 : Cond.lays "FalseParity$Reader" "FalseParity$Reader" "shareTold" "Z" ∈ gw := wmi 172 (by decide +kernel) rfl
theorem wm_175 : Cond.classLink "FalseParity" (25 : Nat) "FalseParity$Country" ∈ gw := wmi 175 (by decide +kernel) rfl
theorem wn_176 : Cond.methodLinkNest "FalseParity" (27 : Nat) ({ cls := "FalseParity$Country", name := "<init>", desc := "()V" } : MethodName) "FalseParity" ∈ nwl := wni 176 (by decide +kernel) rfl
theorem wm_177 : Cond.classLink "FalseParity" (32 : Nat) "FalseParity$Now" ∈ gw := wmi 177 (by decide +kernel) rfl
theorem wm_178 : Cond.instantiable "FalseParity$Now" (1 : Nat) ∈ gw := wmi 178 (by decide +kernel) rfl
theorem wn_179 : Cond.methodLinkNest "FalseParity" (34 : Nat) ({ cls := "FalseParity$Now", name := "<init>", desc := "()V" } : MethodName) "FalseParity" ∈ nwl := wni 179 (by decide +kernel) rfl
theorem wm_180 : Cond.instanceMethod ({ cls := "FalseParity$Now", name := "<init>", desc := "()V" } : MethodName) ∈ gw := wmi 180 (by decide +kernel) rfl
theorem wm_181 : Cond.code ({ cls := "FalseParity$Now", name := "<init>", desc := "()V" } : MethodName) prog_8_method_1_code (1 : Nat) (Option.none : Option FieldType) ∈ gw := wmi 181 (by decide +kernel) rfl
theorem wm_182 : Cond.methodLink "FalseParity$Now" (5 : Nat) ({ cls := "java/lang/Object", name := "<init>", desc := "()V" } : MethodName) ∈ gw := wmi 182 (by decide +kernel) rfl
theorem wm_183 : Cond.fieldLink "FalseParity$Now" (11 : Nat) "FalseParity$Now" "row" "[I" ∈ gw := wmi 183 (by decide +kernel) rfl
theorem wm_184 : Cond.laysFinal "FalseParity$Now" "FalseParity$Now" "row" "[I" ∈ gw := wmi 184 (by decide +kernel) rfl
theorem wm_187 : Cond.classLink "FalseParity" (39 : Nat) "FalseParity$History" ∈ gw := wmi 187 (by decide +kernel) rfl
theorem wm_188 : Cond.instantiable "FalseParity$History" (3 : Nat) ∈ gw := wmi 188 (by decide +kernel) rfl
theorem wn_189 : Cond.methodLinkNest "FalseParity" (41 : Nat) ({ cls := "FalseParity$History", name := "<init>", desc := "()V" } : MethodName) "FalseParity" ∈ nwl := wni 189 (by decide +kernel) rfl
theorem wm_190 : Cond.instanceMethod ({ cls := "FalseParity$History", name := "<init>", desc := "()V" } : MethodName) ∈ gw := wmi 190 (by decide +kernel) rfl
theorem wm_191 : Cond.code ({ cls := "FalseParity$History", name := "<init>", desc := "()V" } : MethodName) prog_4_method_1_code (1 : Nat) (Option.none : Option FieldType) ∈ gw := wmi 191 (by decide +kernel) rfl
theorem wm_192 : Cond.methodLink "FalseParity$History" (3 : Nat) ({ cls := "java/lang/Object", name := "<init>", desc := "()V" } : MethodName) ∈ gw := wmi 192 (by decide +kernel) rfl
theorem wm_193 : Cond.fieldLink "FalseParity$History" (11 : Nat) "FalseParity$History" "rows" "[I" ∈ gw := wmi 193 (by decide +kernel) rfl
theorem wm_194 : Cond.fieldLink "FalseParity$History" (17 : Nat) "FalseParity$History" "next" "I" ∈ gw := wmi 194 (by decide +kernel) rfl
theorem wm_195 : Cond.fieldLink "FalseParity$History" (21 : Nat) "FalseParity$History" "known" "I" ∈ gw := wmi 195 (by decide +kernel) rfl
theorem wn_196 : Cond.fieldLinkNest "FalseParity" (158 : Nat) "FalseParity$History" "known" "I" "FalseParity" ∈ nwl := wni 196 (by decide +kernel) rfl
theorem wm_197 : Cond.laysFinal "FalseParity$History" "FalseParity$History" "rows" "[I" ∈ gw := wmi 197 (by decide +kernel) rfl
theorem wm_199 : Cond.lays "FalseParity$History" "FalseParity$History" "next" "I" ∈ gw := wmi 199 (by decide +kernel) rfl
theorem wm_201 : Cond.lays "FalseParity$History" "FalseParity$History" "known" "I" ∈ gw := wmi 201 (by decide +kernel) rfl
theorem wm_204 : Cond.classLink "FalseParity" (46 : Nat) "FalseParity$Images" ∈ gw := wmi 204 (by decide +kernel) rfl
theorem wm_205 : Cond.instantiable "FalseParity$Images" (2 : Nat) ∈ gw := wmi 205 (by decide +kernel) rfl
theorem wn_206 : Cond.methodLinkNest "FalseParity" (48 : Nat) ({ cls := "FalseParity$Images", name := "<init>", desc := "()V" } : MethodName) "FalseParity" ∈ nwl := wni 206 (by decide +kernel) rfl
theorem wm_207 : Cond.instanceMethod ({ cls := "FalseParity$Images", name := "<init>", desc := "()V" } : MethodName) ∈ gw := wmi 207 (by decide +kernel) rfl
theorem wm_208 : Cond.code ({ cls := "FalseParity$Images", name := "<init>", desc := "()V" } : MethodName) prog_5_method_1_code (1 : Nat) (Option.none : Option FieldType) ∈ gw := wmi 208 (by decide +kernel) rfl
theorem wm_209 : Cond.methodLink "FalseParity$Images" (3 : Nat) ({ cls := "java/lang/Object", name := "<init>", desc := "()V" } : MethodName) ∈ gw := wmi 209 (by decide +kernel) rfl
theorem wm_210 : Cond.fieldLink "FalseParity$Images" (11 : Nat) "FalseParity$Images" "rows" "[I" ∈ gw := wmi 210 (by decide +kernel) rfl
theorem wm_211 : Cond.fieldLink "FalseParity$Images" (17 : Nat) "FalseParity$Images" "stored" "I" ∈ gw := wmi 211 (by decide +kernel) rfl
theorem wm_212 : Cond.laysFinal "FalseParity$Images" "FalseParity$Images" "rows" "[I" ∈ gw := wmi 212 (by decide +kernel) rfl
theorem wm_214 : Cond.lays "FalseParity$Images" "FalseParity$Images" "stored" "I" ∈ gw := wmi 214 (by decide +kernel) rfl
theorem wm_217 : Cond.classLink "FalseParity" (53 : Nat) "FalseParity$Paths" ∈ gw := wmi 217 (by decide +kernel) rfl
theorem wm_218 : Cond.instantiable "FalseParity$Paths" (2 : Nat) ∈ gw := wmi 218 (by decide +kernel) rfl
theorem wm_219 : Cond.methodLink "FalseParity" (55 : Nat) ({ cls := "FalseParity$Paths", name := "<init>", desc := "(LFalseParity$Country;LFalseParity$Now;)V" } : MethodName) ∈ gw := wmi 219 (by decide +kernel) rfl
theorem wm_220 : Cond.instanceMethod ({ cls := "FalseParity$Paths", name := "<init>", desc := "(LFalseParity$Country;LFalseParity$Now;)V" } : MethodName) ∈ gw := wmi 220 (by decide +kernel) rfl
theorem wm_221 : Cond.code ({ cls := "FalseParity$Paths", name := "<init>", desc := "(LFalseParity$Country;LFalseParity$Now;)V" } : MethodName) prog_9_method_1_code (3 : Nat) (Option.none : Option FieldType) ∈ gw := wmi 221 (by decide +kernel) rfl
theorem wm_222 : Cond.methodLink "FalseParity$Paths" (3 : Nat) ({ cls := "java/lang/Object", name := "<init>", desc := "()V" } : MethodName) ∈ gw := wmi 222 (by decide +kernel) rfl
theorem wm_223 : Cond.fieldLink "FalseParity$Paths" (9 : Nat) "FalseParity$Paths" "told" "LFalseParity$Country;" ∈ gw := wmi 223 (by decide +kernel) rfl
theorem wm_224 : Cond.fieldLink "FalseParity$Paths" (15 : Nat) "FalseParity$Paths" "now" "LFalseParity$Now;" ∈ gw := wmi 224 (by decide +kernel) rfl
theorem wm_225 : Cond.laysFinal "FalseParity$Paths" "FalseParity$Paths" "told" "LFalseParity$Country;" ∈ gw := wmi 225 (by decide +kernel) rfl
theorem wm_227 : Cond.laysFinal "FalseParity$Paths" "FalseParity$Paths" "now" "LFalseParity$Now;" ∈ gw := wmi 227 (by decide +kernel) rfl
theorem wm_230 : Cond.classLink "FalseParity" (62 : Nat) "FalseParity$Marks" ∈ gw := wmi 230 (by decide +kernel) rfl
theorem wm_231 : Cond.instantiable "FalseParity$Marks" (5 : Nat) ∈ gw := wmi 231 (by decide +kernel) rfl
theorem wm_232 : Cond.methodLink "FalseParity" (64 : Nat) ({ cls := "FalseParity$Marks", name := "<init>", desc := "(LFalseParity$Country;LFalseParity$Now;)V" } : MethodName) ∈ gw := wmi 232 (by decide +kernel) rfl
theorem wm_233 : Cond.instanceMethod ({ cls := "FalseParity$Marks", name := "<init>", desc := "(LFalseParity$Country;LFalseParity$Now;)V" } : MethodName) ∈ gw := wmi 233 (by decide +kernel) rfl
theorem wm_234 : Cond.code ({ cls := "FalseParity$Marks", name := "<init>", desc := "(LFalseParity$Country;LFalseParity$Now;)V" } : MethodName) prog_7_method_1_code (3 : Nat) (Option.none : Option FieldType) ∈ gw := wmi 234 (by decide +kernel) rfl
theorem wm_235 : Cond.methodLink "FalseParity$Marks" (3 : Nat) ({ cls := "java/lang/Object", name := "<init>", desc := "()V" } : MethodName) ∈ gw := wmi 235 (by decide +kernel) rfl
theorem wm_236 : Cond.fieldLink "FalseParity$Marks" (18 : Nat) "FalseParity$Marks" "told" "LFalseParity$Country;" ∈ gw := wmi 236 (by decide +kernel) rfl
theorem wm_237 : Cond.fieldLink "FalseParity$Marks" (22 : Nat) "FalseParity$Marks" "now" "LFalseParity$Now;" ∈ gw := wmi 237 (by decide +kernel) rfl
theorem wm_238 : Cond.fieldLink "FalseParity$Marks" (9 : Nat) "FalseParity$Marks" "persons" "[I" ∈ gw := wmi 238 (by decide +kernel) rfl
theorem wm_239 : Cond.fieldLink "FalseParity$Marks" (15 : Nat) "FalseParity$Marks" "tooks" "[I" ∈ gw := wmi 239 (by decide +kernel) rfl
theorem wm_240 : Cond.fieldLink "FalseParity$Marks" (26 : Nat) "FalseParity$Marks" "seen" "I" ∈ gw := wmi 240 (by decide +kernel) rfl
theorem wn_241 : Cond.fieldLinkNest "FalseParity" (241 : Nat) "FalseParity$Marks" "seen" "I" "FalseParity" ∈ nwl := wni 241 (by decide +kernel) rfl
theorem wm_242 : Cond.laysFinal "FalseParity$Marks" "FalseParity$Marks" "told" "LFalseParity$Country;" ∈ gw := wmi 242 (by decide +kernel) rfl
theorem wm_244 : Cond.laysFinal "FalseParity$Marks" "FalseParity$Marks" "now" "LFalseParity$Now;" ∈ gw := wmi 244 (by decide +kernel) rfl
theorem wm_246 : Cond.laysFinal "FalseParity$Marks" "FalseParity$Marks" "persons" "[I" ∈ gw := wmi 246 (by decide +kernel) rfl
theorem wm_248 : Cond.laysFinal "FalseParity$Marks" "FalseParity$Marks" "tooks" "[I" ∈ gw := wmi 248 (by decide +kernel) rfl
theorem wm_250 : Cond.lays "FalseParity$Marks" "FalseParity$Marks" "seen" "I" ∈ gw := wmi 250 (by decide +kernel) rfl
theorem wm_253 : Cond.classLink "FalseParity" (69 : Nat) "FalseParity$Board" ∈ gw := wmi 253 (by decide +kernel) rfl
theorem wm_254 : Cond.instantiable "FalseParity$Board" (5 : Nat) ∈ gw := wmi 254 (by decide +kernel) rfl
theorem wm_255 : Cond.methodLink "FalseParity" (71 : Nat) ({ cls := "FalseParity$Board", name := "<init>", desc := "(LFalseParity$Country;LFalseParity$Now;)V" } : MethodName) ∈ gw := wmi 255 (by decide +kernel) rfl
theorem wm_256 : Cond.instanceMethod ({ cls := "FalseParity$Board", name := "<init>", desc := "(LFalseParity$Country;LFalseParity$Now;)V" } : MethodName) ∈ gw := wmi 256 (by decide +kernel) rfl
theorem wm_257 : Cond.code ({ cls := "FalseParity$Board", name := "<init>", desc := "(LFalseParity$Country;LFalseParity$Now;)V" } : MethodName) prog_2_method_1_code (3 : Nat) (Option.none : Option FieldType) ∈ gw := wmi 257 (by decide +kernel) rfl
theorem wm_258 : Cond.methodLink "FalseParity$Board" (3 : Nat) ({ cls := "java/lang/Object", name := "<init>", desc := "()V" } : MethodName) ∈ gw := wmi 258 (by decide +kernel) rfl
theorem wm_259 : Cond.fieldLink "FalseParity$Board" (18 : Nat) "FalseParity$Board" "told" "LFalseParity$Country;" ∈ gw := wmi 259 (by decide +kernel) rfl
theorem wm_260 : Cond.fieldLink "FalseParity$Board" (22 : Nat) "FalseParity$Board" "now" "LFalseParity$Now;" ∈ gw := wmi 260 (by decide +kernel) rfl
theorem wm_261 : Cond.fieldLink "FalseParity$Board" (9 : Nat) "FalseParity$Board" "uses" "[I" ∈ gw := wmi 261 (by decide +kernel) rfl
theorem wm_262 : Cond.fieldLink "FalseParity$Board" (15 : Nat) "FalseParity$Board" "ins" "[I" ∈ gw := wmi 262 (by decide +kernel) rfl
theorem wm_263 : Cond.fieldLink "FalseParity$Board" (26 : Nat) "FalseParity$Board" "heard" "I" ∈ gw := wmi 263 (by decide +kernel) rfl
theorem wn_264 : Cond.fieldLinkNest "FalseParity" (244 : Nat) "FalseParity$Board" "heard" "I" "FalseParity" ∈ nwl := wni 264 (by decide +kernel) rfl
theorem wm_265 : Cond.laysFinal "FalseParity$Board" "FalseParity$Board" "told" "LFalseParity$Country;" ∈ gw := wmi 265 (by decide +kernel) rfl
theorem wm_267 : Cond.laysFinal "FalseParity$Board" "FalseParity$Board" "now" "LFalseParity$Now;" ∈ gw := wmi 267 (by decide +kernel) rfl
theorem wm_269 : Cond.laysFinal "FalseParity$Board" "FalseParity$Board" "uses" "[I" ∈ gw := wmi 269 (by decide +kernel) rfl
theorem wm_271 : Cond.laysFinal "FalseParity$Board" "FalseParity$Board" "ins" "[I" ∈ gw := wmi 271 (by decide +kernel) rfl
theorem wm_273 : Cond.lays "FalseParity$Board" "FalseParity$Board" "heard" "I" ∈ gw := wmi 273 (by decide +kernel) rfl
theorem wm_276 : Cond.classLink "FalseParity" (76 : Nat) "FalseParity$Kinds" ∈ gw := wmi 276 (by decide +kernel) rfl
theorem wm_277 : Cond.instantiable "FalseParity$Kinds" (3 : Nat) ∈ gw := wmi 277 (by decide +kernel) rfl
theorem wm_278 : Cond.methodLink "FalseParity" (78 : Nat) ({ cls := "FalseParity$Kinds", name := "<init>", desc := "(LFalseParity$Country;LFalseParity$Now;)V" } : MethodName) ∈ gw := wmi 278 (by decide +kernel) rfl
theorem wm_279 : Cond.instanceMethod ({ cls := "FalseParity$Kinds", name := "<init>", desc := "(LFalseParity$Country;LFalseParity$Now;)V" } : MethodName) ∈ gw := wmi 279 (by decide +kernel) rfl
theorem wm_280 : Cond.code ({ cls := "FalseParity$Kinds", name := "<init>", desc := "(LFalseParity$Country;LFalseParity$Now;)V" } : MethodName) prog_6_method_1_code (3 : Nat) (Option.none : Option FieldType) ∈ gw := wmi 280 (by decide +kernel) rfl
theorem wm_281 : Cond.methodLink "FalseParity$Kinds" (3 : Nat) ({ cls := "java/lang/Object", name := "<init>", desc := "()V" } : MethodName) ∈ gw := wmi 281 (by decide +kernel) rfl
theorem wm_282 : Cond.fieldLink "FalseParity$Kinds" (9 : Nat) "FalseParity$Kinds" "told" "LFalseParity$Country;" ∈ gw := wmi 282 (by decide +kernel) rfl
theorem wm_283 : Cond.fieldLink "FalseParity$Kinds" (15 : Nat) "FalseParity$Kinds" "now" "LFalseParity$Now;" ∈ gw := wmi 283 (by decide +kernel) rfl
theorem wm_284 : Cond.fieldLink "FalseParity$Kinds" (39 : Nat) "FalseParity$Kinds" "trace" "J" ∈ gw := wmi 284 (by decide +kernel) rfl
theorem wn_285 : Cond.fieldLinkNest "FalseParity" (285 : Nat) "FalseParity$Kinds" "trace" "J" "FalseParity" ∈ nwl := wni 285 (by decide +kernel) rfl
theorem wm_286 : Cond.laysFinal "FalseParity$Kinds" "FalseParity$Kinds" "told" "LFalseParity$Country;" ∈ gw := wmi 286 (by decide +kernel) rfl
theorem wm_288 : Cond.laysFinal "FalseParity$Kinds" "FalseParity$Kinds" "now" "LFalseParity$Now;" ∈ gw := wmi 288 (by decide +kernel) rfl
theorem wm_290 : Cond.lays "FalseParity$Kinds" "FalseParity$Kinds" "trace" "J" ∈ gw := wmi 290 (by decide +kernel) rfl
theorem wm_293 : Cond.fieldLink "FalseParity" (10 : Nat) "FalseParity" "text" "LFalseParity$Text;" ∈ gw := wmi 293 (by decide +kernel) rfl
theorem wm_294 : Cond.fieldLink "FalseParity" (21 : Nat) "FalseParity" "reader" "LFalseParity$Reader;" ∈ gw := wmi 294 (by decide +kernel) rfl
theorem wm_295 : Cond.fieldLink "FalseParity" (28 : Nat) "FalseParity" "told" "LFalseParity$Country;" ∈ gw := wmi 295 (by decide +kernel) rfl
theorem wm_296 : Cond.fieldLink "FalseParity" (35 : Nat) "FalseParity" "now" "LFalseParity$Now;" ∈ gw := wmi 296 (by decide +kernel) rfl
theorem wm_297 : Cond.fieldLink "FalseParity" (42 : Nat) "FalseParity" "history" "LFalseParity$History;" ∈ gw := wmi 297 (by decide +kernel) rfl
theorem wm_298 : Cond.fieldLink "FalseParity" (49 : Nat) "FalseParity" "images" "LFalseParity$Images;" ∈ gw := wmi 298 (by decide +kernel) rfl
theorem wm_299 : Cond.fieldLink "FalseParity" (58 : Nat) "FalseParity" "paths" "LFalseParity$Paths;" ∈ gw := wmi 299 (by decide +kernel) rfl
theorem wm_300 : Cond.fieldLink "FalseParity" (65 : Nat) "FalseParity" "marks" "LFalseParity$Marks;" ∈ gw := wmi 300 (by decide +kernel) rfl
theorem wm_301 : Cond.fieldLink "FalseParity" (72 : Nat) "FalseParity" "board" "LFalseParity$Board;" ∈ gw := wmi 301 (by decide +kernel) rfl
theorem wm_302 : Cond.fieldLink "FalseParity" (79 : Nat) "FalseParity" "kinds" "LFalseParity$Kinds;" ∈ gw := wmi 302 (by decide +kernel) rfl
theorem wm_303 : Cond.laysFinal "FalseParity" "FalseParity" "text" "LFalseParity$Text;" ∈ gw := wmi 303 (by decide +kernel) rfl
theorem wm_305 : Cond.laysFinal "FalseParity" "FalseParity" "reader" "LFalseParity$Reader;" ∈ gw := wmi 305 (by decide +kernel) rfl
theorem wm_307 : Cond.laysFinal "FalseParity" "FalseParity" "told" "LFalseParity$Country;" ∈ gw := wmi 307 (by decide +kernel) rfl
theorem wm_309 : Cond.laysFinal "FalseParity" "FalseParity" "now" "LFalseParity$Now;" ∈ gw := wmi 309 (by decide +kernel) rfl
theorem wm_311 : Cond.laysFinal "FalseParity" "FalseParity" "history" "LFalseParity$History;" ∈ gw := wmi 311 (by decide +kernel) rfl
theorem wm_313 : Cond.laysFinal "FalseParity" "FalseParity" "images" "LFalseParity$Images;" ∈ gw := wmi 313 (by decide +kernel) rfl
theorem wm_315 : Cond.laysFinal "FalseParity" "FalseParity" "paths" "LFalseParity$Paths;" ∈ gw := wmi 315 (by decide +kernel) rfl
theorem wm_317 : Cond.laysFinal "FalseParity" "FalseParity" "marks" "LFalseParity$Marks;" ∈ gw := wmi 317 (by decide +kernel) rfl
theorem wm_319 : Cond.laysFinal "FalseParity" "FalseParity" "board" "LFalseParity$Board;" ∈ gw := wmi 319 (by decide +kernel) rfl
theorem wm_321 : Cond.laysFinal "FalseParity" "FalseParity" "kinds" "LFalseParity$Kinds;" ∈ gw := wmi 321 (by decide +kernel) rfl
theorem wm_324 : Cond.methodLink "FalseParityLaw" (13 : Nat) ({ cls := "FalseParity", name := "type", desc := "(I)I" } : MethodName) ∈ gw := wmi 324 (by decide +kernel) rfl
theorem wm_325 : Cond.instanceMethod ({ cls := "FalseParity", name := "type", desc := "(I)I" } : MethodName) ∈ gw := wmi 325 (by decide +kernel) rfl
theorem wm_326 : Cond.selects "FalseParity" ({ cls := "FalseParity", name := "type", desc := "(I)I" } : MethodName) ({ cls := "FalseParity", name := "type", desc := "(I)I" } : MethodName) ∈ gw := wmi 326 (by decide +kernel) rfl
theorem wm_327 : Cond.code ({ cls := "FalseParity", name := "type", desc := "(I)I" } : MethodName) prog_1_method_2_code (2 : Nat) (Option.some FieldType.int) ∈ gw := wmi 327 (by decide +kernel) rfl
theorem wm_328 : Cond.methodLink "FalseParity" (83 : Nat) ({ cls := "FalseParity$Text", name := "add", desc := "(I)I" } : MethodName) ∈ gw := wmi 328 (by decide +kernel) rfl
theorem wm_329 : Cond.instanceMethod ({ cls := "FalseParity$Text", name := "add", desc := "(I)I" } : MethodName) ∈ gw := wmi 329 (by decide +kernel) rfl
theorem wm_330 : Cond.selects "FalseParity$Text" ({ cls := "FalseParity$Text", name := "add", desc := "(I)I" } : MethodName) ({ cls := "FalseParity$Text", name := "add", desc := "(I)I" } : MethodName) ∈ gw := wmi 330 (by decide +kernel) rfl
theorem wm_331 : Cond.code ({ cls := "FalseParity$Text", name := "add", desc := "(I)I" } : MethodName) prog_11_method_2_code (2 : Nat) (Option.some FieldType.int) ∈ gw := wmi 331 (by decide +kernel) rfl
theorem wm_332 : Cond.methodLink "FalseParityLaw" (18 : Nat) ({ cls := "FalseParity", name := "clear", desc := "()I" } : MethodName) ∈ gw := wmi 332 (by decide +kernel) rfl
theorem wm_333 : Cond.instanceMethod ({ cls := "FalseParity", name := "clear", desc := "()I" } : MethodName) ∈ gw := wmi 333 (by decide +kernel) rfl
theorem wm_334 : Cond.selects "FalseParity" ({ cls := "FalseParity", name := "clear", desc := "()I" } : MethodName) ({ cls := "FalseParity", name := "clear", desc := "()I" } : MethodName) ∈ gw := wmi 334 (by decide +kernel) rfl
theorem wm_335 : Cond.code ({ cls := "FalseParity", name := "clear", desc := "()I" } : MethodName) prog_1_method_3_code (1 : Nat) (Option.some FieldType.int) ∈ gw := wmi 335 (by decide +kernel) rfl
theorem wm_336 : Cond.methodLink "FalseParity" (87 : Nat) ({ cls := "FalseParity$Text", name := "empty", desc := "()I" } : MethodName) ∈ gw := wmi 336 (by decide +kernel) rfl
theorem wm_337 : Cond.instanceMethod ({ cls := "FalseParity$Text", name := "empty", desc := "()I" } : MethodName) ∈ gw := wmi 337 (by decide +kernel) rfl
theorem wm_338 : Cond.selects "FalseParity$Text" ({ cls := "FalseParity$Text", name := "empty", desc := "()I" } : MethodName) ({ cls := "FalseParity$Text", name := "empty", desc := "()I" } : MethodName) ∈ gw := wmi 338 (by decide +kernel) rfl
theorem wm_339 : Cond.code ({ cls := "FalseParity$Text", name := "empty", desc := "()I" } : MethodName) prog_11_method_3_code (2 : Nat) (Option.some FieldType.int) ∈ gw := wmi 339 (by decide +kernel) rfl
theorem wm_340 : Cond.methodLink "FalseParityLaw" (23 : Nat) ({ cls := "FalseParity", name := "country", desc := "()I" } : MethodName) ∈ gw := wmi 340 (by decide +kernel) rfl
theorem wm_341 : Cond.instanceMethod ({ cls := "FalseParity", name := "country", desc := "()I" } : MethodName) ∈ gw := wmi 341 (by decide +kernel) rfl
theorem wm_342 : Cond.selects "FalseParity" ({ cls := "FalseParity", name := "country", desc := "()I" } : MethodName) ({ cls := "FalseParity", name := "country", desc := "()I" } : MethodName) ∈ gw := wmi 342 (by decide +kernel) rfl
theorem wm_343 : Cond.code ({ cls := "FalseParity", name := "country", desc := "()I" } : MethodName) prog_1_method_4_code (2 : Nat) (Option.some FieldType.int) ∈ gw := wmi 343 (by decide +kernel) rfl
theorem wm_344 : Cond.methodLink "FalseParity" (91 : Nat) ({ cls := "FalseParity$Reader", name := "read", desc := "()I" } : MethodName) ∈ gw := wmi 344 (by decide +kernel) rfl
theorem wm_345 : Cond.instanceMethod ({ cls := "FalseParity$Reader", name := "read", desc := "()I" } : MethodName) ∈ gw := wmi 345 (by decide +kernel) rfl
theorem wm_346 : Cond.selects "FalseParity$Reader" ({ cls := "FalseParity$Reader", name := "read", desc := "()I" } : MethodName) ({ cls := "FalseParity$Reader", name := "read", desc := "()I" } : MethodName) ∈ gw := wmi 346 (by decide +kernel) rfl
theorem wm_347 : Cond.code ({ cls := "FalseParity$Reader", name := "read", desc := "()I" } : MethodName) prog_10_method_2_code (2 : Nat) (Option.some FieldType.int) ∈ gw := wmi 347 (by decide +kernel) rfl
theorem wm_348 : Cond.methodLink "FalseParity$Reader" (22 : Nat) ({ cls := "FalseParity$Reader", name := "begin", desc := "()V" } : MethodName) ∈ gw := wmi 348 (by decide +kernel) rfl
theorem wm_350 : Cond.instanceMethod ({ cls := "FalseParity$Reader", name := "begin", desc := "()V" } : MethodName) ∈ gw := wmi 350 (by decide +kernel) rfl
theorem wm_351 : Cond.code ({ cls := "FalseParity$Reader", name := "begin", desc := "()V" } : MethodName) prog_10_method_3_code (1 : Nat) (Option.none : Option FieldType) ∈ gw := wmi 351 (by decide +kernel) rfl
theorem wm_352 : Cond.methodLink "FalseParity$Reader" (44 : Nat) ({ cls := "FalseParity$Country", name := "empty", desc := "()V" } : MethodName) ∈ gw := wmi 352 (by decide +kernel) rfl
theorem wm_353 : Cond.instanceMethod ({ cls := "FalseParity$Country", name := "empty", desc := "()V" } : MethodName) ∈ gw := wmi 353 (by decide +kernel) rfl
theorem wm_354 : Cond.selects "FalseParity$Country" ({ cls := "FalseParity$Country", name := "empty", desc := "()V" } : MethodName) ({ cls := "FalseParity$Country", name := "empty", desc := "()V" } : MethodName) ∈ gw := wmi 354 (by decide +kernel) rfl
theorem wm_355 : Cond.code ({ cls := "FalseParity$Country", name := "empty", desc := "()V" } : MethodName) prog_3_method_2_code (1 : Nat) (Option.none : Option FieldType) ∈ gw := wmi 355 (by decide +kernel) rfl
theorem wm_356 : Cond.methodLink "FalseParity$Reader" (31 : Nat) ({ cls := "FalseParity$Reader", name := "beginsToken", desc := "(I)Z" } : MethodName) ∈ gw := wmi 356 (by decide +kernel) rfl
theorem wm_358 : Cond.instanceMethod ({ cls := "FalseParity$Reader", name := "beginsToken", desc := "(I)Z" } : MethodName) ∈ gw := wmi 358 (by decide +kernel) rfl
theorem wm_359 : Cond.code ({ cls := "FalseParity$Reader", name := "beginsToken", desc := "(I)Z" } : MethodName) prog_10_method_4_code (2 : Nat) (Option.some FieldType.boolean) ∈ gw := wmi 359 (by decide +kernel) rfl
theorem wm_360 : Cond.methodLink "FalseParity$Reader" (54 : Nat) ({ cls := "FalseParity$Text", name := "hasDigit", desc := "(I)Z" } : MethodName) ∈ gw := wmi 360 (by decide +kernel) rfl
theorem wm_361 : Cond.instanceMethod ({ cls := "FalseParity$Text", name := "hasDigit", desc := "(I)Z" } : MethodName) ∈ gw := wmi 361 (by decide +kernel) rfl
theorem wm_362 : Cond.selects "FalseParity$Text" ({ cls := "FalseParity$Text", name := "hasDigit", desc := "(I)Z" } : MethodName) ({ cls := "FalseParity$Text", name := "hasDigit", desc := "(I)Z" } : MethodName) ∈ gw := wmi 362 (by decide +kernel) rfl
theorem wm_363 : Cond.code ({ cls := "FalseParity$Text", name := "hasDigit", desc := "(I)Z" } : MethodName) prog_11_method_4_code (2 : Nat) (Option.some FieldType.boolean) ∈ gw := wmi 363 (by decide +kernel) rfl
theorem wm_364 : Cond.methodLink "FalseParity$Reader" (35 : Nat) ({ cls := "FalseParity$Reader", name := "accepts", desc := "(I)Z" } : MethodName) ∈ gw := wmi 364 (by decide +kernel) rfl
theorem wm_366 : Cond.instanceMethod ({ cls := "FalseParity$Reader", name := "accepts", desc := "(I)Z" } : MethodName) ∈ gw := wmi 366 (by decide +kernel) rfl
theorem wm_367 : Cond.code ({ cls := "FalseParity$Reader", name := "accepts", desc := "(I)Z" } : MethodName) prog_10_method_5_code (3 : Nat) (Option.some FieldType.boolean) ∈ gw := wmi 367 (by decide +kernel) rfl
theorem wm_368 : Cond.methodLink "FalseParity$Reader" (61 : Nat) ({ cls := "FalseParity$Reader", name := "beginsItem", desc := "(I)Z" } : MethodName) ∈ gw := wmi 368 (by decide +kernel) rfl
theorem wm_370 : Cond.instanceMethod ({ cls := "FalseParity$Reader", name := "beginsItem", desc := "(I)Z" } : MethodName) ∈ gw := wmi 370 (by decide +kernel) rfl
theorem wm_371 : Cond.code ({ cls := "FalseParity$Reader", name := "beginsItem", desc := "(I)Z" } : MethodName) prog_10_method_6_code (2 : Nat) (Option.some FieldType.boolean) ∈ gw := wmi 371 (by decide +kernel) rfl
theorem wm_372 : Cond.methodLink "FalseParity$Reader" (82 : Nat) ({ cls := "FalseParity$Reader", name := "canBegin", desc := "(I)Z" } : MethodName) ∈ gw := wmi 372 (by decide +kernel) rfl
theorem wm_374 : Cond.instanceMethod ({ cls := "FalseParity$Reader", name := "canBegin", desc := "(I)Z" } : MethodName) ∈ gw := wmi 374 (by decide +kernel) rfl
theorem wm_375 : Cond.code ({ cls := "FalseParity$Reader", name := "canBegin", desc := "(I)Z" } : MethodName) prog_10_method_7_code (2 : Nat) (Option.some FieldType.boolean) ∈ gw := wmi 375 (by decide +kernel) rfl
theorem wm_376 : Cond.methodLink "FalseParity$Reader" (67 : Nat) ({ cls := "FalseParity$Reader", name := "numbersOfItem", desc := "()I" } : MethodName) ∈ gw := wmi 376 (by decide +kernel) rfl
theorem wm_378 : Cond.instanceMethod ({ cls := "FalseParity$Reader", name := "numbersOfItem", desc := "()I" } : MethodName) ∈ gw := wmi 378 (by decide +kernel) rfl
theorem wm_379 : Cond.code ({ cls := "FalseParity$Reader", name := "numbersOfItem", desc := "()I" } : MethodName) prog_10_method_8_code (1 : Nat) (Option.some FieldType.int) ∈ gw := wmi 379 (by decide +kernel) rfl
theorem wm_380 : Cond.methodLink "FalseParity$Reader" (71 : Nat) ({ cls := "FalseParity$Reader", name := "numberAt", desc := "(I)I" } : MethodName) ∈ gw := wmi 380 (by decide +kernel) rfl
theorem wm_382 : Cond.instanceMethod ({ cls := "FalseParity$Reader", name := "numberAt", desc := "(I)I" } : MethodName) ∈ gw := wmi 382 (by decide +kernel) rfl
theorem wm_383 : Cond.code ({ cls := "FalseParity$Reader", name := "numberAt", desc := "(I)I" } : MethodName) prog_10_method_9_code (4 : Nat) (Option.some FieldType.int) ∈ gw := wmi 383 (by decide +kernel) rfl
theorem wm_384 : Cond.methodLink "FalseParity$Reader" (91 : Nat) ({ cls := "java/lang/Math", name := "min", desc := "(II)I" } : MethodName) ∈ gw := wmi 384 (by decide +kernel) rfl
theorem wm_385 : Cond.static ({ cls := "java/lang/Math", name := "min", desc := "(II)I" } : MethodName) ∈ gw := wmi 385 (by decide +kernel) rfl
theorem wm_386 : Cond.code ({ cls := "java/lang/Math", name := "min", desc := "(II)I" } : MethodName) prog_15_method_69_code (2 : Nat) (Option.some FieldType.int) ∈ gw := wmi 386 (by decide +kernel) rfl
theorem wm_387 : Cond.methodLink "FalseParity$Reader" (75 : Nat) ({ cls := "FalseParity$Reader", name := "acceptsNumber", desc := "(I)Z" } : MethodName) ∈ gw := wmi 387 (by decide +kernel) rfl
theorem wm_389 : Cond.instanceMethod ({ cls := "FalseParity$Reader", name := "acceptsNumber", desc := "(I)Z" } : MethodName) ∈ gw := wmi 389 (by decide +kernel) rfl
theorem wm_390 : Cond.code ({ cls := "FalseParity$Reader", name := "acceptsNumber", desc := "(I)Z" } : MethodName) prog_10_method_10_code (2 : Nat) (Option.some FieldType.boolean) ∈ gw := wmi 390 (by decide +kernel) rfl
theorem wm_391 : Cond.methodLink "FalseParity$Reader" (97 : Nat) ({ cls := "FalseParity$Reader", name := "leastNumber", desc := "()I" } : MethodName) ∈ gw := wmi 391 (by decide +kernel) rfl
theorem wm_393 : Cond.instanceMethod ({ cls := "FalseParity$Reader", name := "leastNumber", desc := "()I" } : MethodName) ∈ gw := wmi 393 (by decide +kernel) rfl
theorem wm_394 : Cond.code ({ cls := "FalseParity$Reader", name := "leastNumber", desc := "()I" } : MethodName) prog_10_method_11_code (1 : Nat) (Option.some FieldType.int) ∈ gw := wmi 394 (by decide +kernel) rfl
theorem wm_395 : Cond.methodLink "FalseParity$Reader" (100 : Nat) ({ cls := "FalseParity$Reader", name := "mostNumber", desc := "()I" } : MethodName) ∈ gw := wmi 395 (by decide +kernel) rfl
theorem wm_397 : Cond.instanceMethod ({ cls := "FalseParity$Reader", name := "mostNumber", desc := "()I" } : MethodName) ∈ gw := wmi 397 (by decide +kernel) rfl
theorem wm_398 : Cond.code ({ cls := "FalseParity$Reader", name := "mostNumber", desc := "()I" } : MethodName) prog_10_method_12_code (1 : Nat) (Option.some FieldType.int) ∈ gw := wmi 398 (by decide +kernel) rfl
theorem wm_399 : Cond.methodLink "FalseParity$Reader" (107 : Nat) ({ cls := "FalseParity$Reader", name := "mostOfNote", desc := "()I" } : MethodName) ∈ gw := wmi 399 (by decide +kernel) rfl
theorem wm_401 : Cond.instanceMethod ({ cls := "FalseParity$Reader", name := "mostOfNote", desc := "()I" } : MethodName) ∈ gw := wmi 401 (by decide +kernel) rfl
theorem wm_402 : Cond.code ({ cls := "FalseParity$Reader", name := "mostOfNote", desc := "()I" } : MethodName) prog_10_method_13_code (1 : Nat) (Option.some FieldType.int) ∈ gw := wmi 402 (by decide +kernel) rfl
theorem wm_403 : Cond.methodLink "FalseParity$Reader" (103 : Nat) ({ cls := "FalseParity$Reader", name := "store", desc := "(I)V" } : MethodName) ∈ gw := wmi 403 (by decide +kernel) rfl
theorem wm_405 : Cond.instanceMethod ({ cls := "FalseParity$Reader", name := "store", desc := "(I)V" } : MethodName) ∈ gw := wmi 405 (by decide +kernel) rfl
theorem wm_406 : Cond.code ({ cls := "FalseParity$Reader", name := "store", desc := "(I)V" } : MethodName) prog_10_method_14_code (2 : Nat) (Option.none : Option FieldType) ∈ gw := wmi 406 (by decide +kernel) rfl
theorem wm_407 : Cond.methodLink "FalseParity$Reader" (113 : Nat) ({ cls := "FalseParity$Reader", name := "storeOfNote", desc := "(II)V" } : MethodName) ∈ gw := wmi 407 (by decide +kernel) rfl
theorem wm_409 : Cond.instanceMethod ({ cls := "FalseParity$Reader", name := "storeOfNote", desc := "(II)V" } : MethodName) ∈ gw := wmi 409 (by decide +kernel) rfl
theorem wm_410 : Cond.code ({ cls := "FalseParity$Reader", name := "storeOfNote", desc := "(II)V" } : MethodName) prog_10_method_15_code (3 : Nat) (Option.none : Option FieldType) ∈ gw := wmi 410 (by decide +kernel) rfl
theorem wm_411 : Cond.methodLink "FalseParity$Reader" (78 : Nat) ({ cls := "FalseParity$Reader", name := "endsItem", desc := "()Z" } : MethodName) ∈ gw := wmi 411 (by decide +kernel) rfl
theorem wm_413 : Cond.instanceMethod ({ cls := "FalseParity$Reader", name := "endsItem", desc := "()Z" } : MethodName) ∈ gw := wmi 413 (by decide +kernel) rfl
theorem wm_414 : Cond.code ({ cls := "FalseParity$Reader", name := "endsItem", desc := "()Z" } : MethodName) prog_10_method_16_code (1 : Nat) (Option.some FieldType.boolean) ∈ gw := wmi 414 (by decide +kernel) rfl
theorem wm_415 : Cond.methodLink "FalseParity" (97 : Nat) ({ cls := "FalseParity$Country", name := "copyFrom", desc := "(LFalseParity$Country;)V" } : MethodName) ∈ gw := wmi 415 (by decide +kernel) rfl
theorem wm_416 : Cond.instanceMethod ({ cls := "FalseParity$Country", name := "copyFrom", desc := "(LFalseParity$Country;)V" } : MethodName) ∈ gw := wmi 416 (by decide +kernel) rfl
theorem wm_417 : Cond.selects "FalseParity$Country" ({ cls := "FalseParity$Country", name := "copyFrom", desc := "(LFalseParity$Country;)V" } : MethodName) ({ cls := "FalseParity$Country", name := "copyFrom", desc := "(LFalseParity$Country;)V" } : MethodName) ∈ gw := wmi 417 (by decide +kernel) rfl
theorem wm_418 : Cond.code ({ cls := "FalseParity$Country", name := "copyFrom", desc := "(LFalseParity$Country;)V" } : MethodName) prog_3_method_3_code (2 : Nat) (Option.none : Option FieldType) ∈ gw := wmi 418 (by decide +kernel) rfl
theorem wm_419 : Cond.methodLink "FalseParity$Country" (37 : Nat) ({ cls := "java/lang/System", name := "arraycopy", desc := "(Ljava/lang/Object;ILjava/lang/Object;II)V" } : MethodName) ∈ gw := wmi 419 (by decide +kernel) rfl
theorem wm_420 : Cond.static ({ cls := "java/lang/System", name := "arraycopy", desc := "(Ljava/lang/Object;ILjava/lang/Object;II)V" } : MethodName) ∈ gw := wmi 420 (by decide +kernel) rfl
theorem wm_421 : Cond.native ({ cls := "java/lang/System", name := "arraycopy", desc := "(Ljava/lang/Object;ILjava/lang/Object;II)V" } : MethodName) ∈ gw := wmi 421 (by decide +kernel) rfl
theorem wm_422 : Cond.methodLink "FalseParity" (101 : Nat) ({ cls := "FalseParity$Now", name := "begin", desc := "(LFalseParity$Country;)V" } : MethodName) ∈ gw := wmi 422 (by decide +kernel) rfl
theorem wm_423 : Cond.instanceMethod ({ cls := "FalseParity$Now", name := "begin", desc := "(LFalseParity$Country;)V" } : MethodName) ∈ gw := wmi 423 (by decide +kernel) rfl
theorem wm_424 : Cond.selects "FalseParity$Now" ({ cls := "FalseParity$Now", name := "begin", desc := "(LFalseParity$Country;)V" } : MethodName) ({ cls := "FalseParity$Now", name := "begin", desc := "(LFalseParity$Country;)V" } : MethodName) ∈ gw := wmi 424 (by decide +kernel) rfl
theorem wm_425 : Cond.code ({ cls := "FalseParity$Now", name := "begin", desc := "(LFalseParity$Country;)V" } : MethodName) prog_8_method_2_code (3 : Nat) (Option.none : Option FieldType) ∈ gw := wmi 425 (by decide +kernel) rfl
theorem wm_426 : Cond.methodLink "FalseParity$Now" (20 : Nat) ({ cls := "java/lang/System", name := "arraycopy", desc := "(Ljava/lang/Object;ILjava/lang/Object;II)V" } : MethodName) ∈ gw := wmi 426 (by decide +kernel) rfl
theorem wm_427 : Cond.methodLink "FalseParity" (104 : Nat) ({ cls := "FalseParity$History", name := "empty", desc := "()V" } : MethodName) ∈ gw := wmi 427 (by decide +kernel) rfl
theorem wm_428 : Cond.instanceMethod ({ cls := "FalseParity$History", name := "empty", desc := "()V" } : MethodName) ∈ gw := wmi 428 (by decide +kernel) rfl
theorem wm_429 : Cond.selects "FalseParity$History" ({ cls := "FalseParity$History", name := "empty", desc := "()V" } : MethodName) ({ cls := "FalseParity$History", name := "empty", desc := "()V" } : MethodName) ∈ gw := wmi 429 (by decide +kernel) rfl
theorem wm_430 : Cond.code ({ cls := "FalseParity$History", name := "empty", desc := "()V" } : MethodName) prog_4_method_2_code (1 : Nat) (Option.none : Option FieldType) ∈ gw := wmi 430 (by decide +kernel) rfl
theorem wm_431 : Cond.methodLink "FalseParity" (106 : Nat) ({ cls := "FalseParity$Images", name := "empty", desc := "()V" } : MethodName) ∈ gw := wmi 431 (by decide +kernel) rfl
theorem wm_432 : Cond.instanceMethod ({ cls := "FalseParity$Images", name := "empty", desc := "()V" } : MethodName) ∈ gw := wmi 432 (by decide +kernel) rfl
theorem wm_433 : Cond.selects "FalseParity$Images" ({ cls := "FalseParity$Images", name := "empty", desc := "()V" } : MethodName) ({ cls := "FalseParity$Images", name := "empty", desc := "()V" } : MethodName) ∈ gw := wmi 433 (by decide +kernel) rfl
theorem wm_434 : Cond.code ({ cls := "FalseParity$Images", name := "empty", desc := "()V" } : MethodName) prog_5_method_2_code (1 : Nat) (Option.none : Option FieldType) ∈ gw := wmi 434 (by decide +kernel) rfl
theorem wm_435 : Cond.methodLink "FalseParity" (107 : Nat) ({ cls := "FalseParity$Marks", name := "empty", desc := "()V" } : MethodName) ∈ gw := wmi 435 (by decide +kernel) rfl
theorem wm_436 : Cond.instanceMethod ({ cls := "FalseParity$Marks", name := "empty", desc := "()V" } : MethodName) ∈ gw := wmi 436 (by decide +kernel) rfl
theorem wm_437 : Cond.selects "FalseParity$Marks" ({ cls := "FalseParity$Marks", name := "empty", desc := "()V" } : MethodName) ({ cls := "FalseParity$Marks", name := "empty", desc := "()V" } : MethodName) ∈ gw := wmi 437 (by decide +kernel) rfl
theorem wm_438 : Cond.code ({ cls := "FalseParity$Marks", name := "empty", desc := "()V" } : MethodName) prog_7_method_2_code (1 : Nat) (Option.none : Option FieldType) ∈ gw := wmi 438 (by decide +kernel) rfl
theorem wm_439 : Cond.methodLink "FalseParity" (108 : Nat) ({ cls := "FalseParity$Board", name := "empty", desc := "()V" } : MethodName) ∈ gw := wmi 439 (by decide +kernel) rfl
theorem wm_440 : Cond.instanceMethod ({ cls := "FalseParity$Board", name := "empty", desc := "()V" } : MethodName) ∈ gw := wmi 440 (by decide +kernel) rfl
theorem wm_441 : Cond.selects "FalseParity$Board" ({ cls := "FalseParity$Board", name := "empty", desc := "()V" } : MethodName) ({ cls := "FalseParity$Board", name := "empty", desc := "()V" } : MethodName) ∈ gw := wmi 441 (by decide +kernel) rfl
theorem wm_442 : Cond.code ({ cls := "FalseParity$Board", name := "empty", desc := "()V" } : MethodName) prog_2_method_2_code (1 : Nat) (Option.none : Option FieldType) ∈ gw := wmi 442 (by decide +kernel) rfl
theorem wm_443 : Cond.methodLink "FalseParityLaw" (27 : Nat) ({ cls := "FalseParity", name := "note", desc := "(II)I" } : MethodName) ∈ gw := wmi 443 (by decide +kernel) rfl
theorem wm_444 : Cond.instanceMethod ({ cls := "FalseParity", name := "note", desc := "(II)I" } : MethodName) ∈ gw := wmi 444 (by decide +kernel) rfl
theorem wm_445 : Cond.selects "FalseParity" ({ cls := "FalseParity", name := "note", desc := "(II)I" } : MethodName) ({ cls := "FalseParity", name := "note", desc := "(II)I" } : MethodName) ∈ gw := wmi 445 (by decide +kernel) rfl
theorem wm_446 : Cond.code ({ cls := "FalseParity", name := "note", desc := "(II)I" } : MethodName) prog_1_method_5_code (3 : Nat) (Option.some FieldType.int) ∈ gw := wmi 446 (by decide +kernel) rfl
theorem wm_447 : Cond.methodLink "FalseParity" (109 : Nat) ({ cls := "FalseParity$Country", name := "hasNote", desc := "(I)Z" } : MethodName) ∈ gw := wmi 447 (by decide +kernel) rfl
theorem wm_448 : Cond.instanceMethod ({ cls := "FalseParity$Country", name := "hasNote", desc := "(I)Z" } : MethodName) ∈ gw := wmi 448 (by decide +kernel) rfl
theorem wm_449 : Cond.selects "FalseParity$Country" ({ cls := "FalseParity$Country", name := "hasNote", desc := "(I)Z" } : MethodName) ({ cls := "FalseParity$Country", name := "hasNote", desc := "(I)Z" } : MethodName) ∈ gw := wmi 449 (by decide +kernel) rfl
theorem wm_450 : Cond.code ({ cls := "FalseParity$Country", name := "hasNote", desc := "(I)Z" } : MethodName) prog_3_method_5_code (2 : Nat) (Option.some FieldType.boolean) ∈ gw := wmi 450 (by decide +kernel) rfl
theorem wm_451 : Cond.methodLink "FalseParity" (119 : Nat) ({ cls := "FalseParity$Now", name := "holder", desc := "(I)I" } : MethodName) ∈ gw := wmi 451 (by decide +kernel) rfl
theorem wm_452 : Cond.instanceMethod ({ cls := "FalseParity$Now", name := "holder", desc := "(I)I" } : MethodName) ∈ gw := wmi 452 (by decide +kernel) rfl
theorem wm_453 : Cond.selects "FalseParity$Now" ({ cls := "FalseParity$Now", name := "holder", desc := "(I)I" } : MethodName) ({ cls := "FalseParity$Now", name := "holder", desc := "(I)I" } : MethodName) ∈ gw := wmi 453 (by decide +kernel) rfl
theorem wm_454 : Cond.code ({ cls := "FalseParity$Now", name := "holder", desc := "(I)I" } : MethodName) prog_8_method_5_code (2 : Nat) (Option.some FieldType.int) ∈ gw := wmi 454 (by decide +kernel) rfl
theorem wm_455 : Cond.methodLink "FalseParity" (122 : Nat) ({ cls := "FalseParity$Now", name := "uses", desc := "(I)I" } : MethodName) ∈ gw := wmi 455 (by decide +kernel) rfl
theorem wm_456 : Cond.instanceMethod ({ cls := "FalseParity$Now", name := "uses", desc := "(I)I" } : MethodName) ∈ gw := wmi 456 (by decide +kernel) rfl
theorem wm_457 : Cond.selects "FalseParity$Now" ({ cls := "FalseParity$Now", name := "uses", desc := "(I)I" } : MethodName) ({ cls := "FalseParity$Now", name := "uses", desc := "(I)I" } : MethodName) ∈ gw := wmi 457 (by decide +kernel) rfl
theorem wm_458 : Cond.code ({ cls := "FalseParity$Now", name := "uses", desc := "(I)I" } : MethodName) prog_8_method_6_code (2 : Nat) (Option.some FieldType.int) ∈ gw := wmi 458 (by decide +kernel) rfl
theorem wm_459 : Cond.methodLink "FalseParity" (125 : Nat) ({ cls := "FalseParity$Now", name := "hasParity", desc := "(I)Z" } : MethodName) ∈ gw := wmi 459 (by decide +kernel) rfl
theorem wm_460 : Cond.instanceMethod ({ cls := "FalseParity$Now", name := "hasParity", desc := "(I)Z" } : MethodName) ∈ gw := wmi 460 (by decide +kernel) rfl
theorem wm_461 : Cond.selects "FalseParity$Now" ({ cls := "FalseParity$Now", name := "hasParity", desc := "(I)Z" } : MethodName) ({ cls := "FalseParity$Now", name := "hasParity", desc := "(I)Z" } : MethodName) ∈ gw := wmi 461 (by decide +kernel) rfl
theorem wm_462 : Cond.code ({ cls := "FalseParity$Now", name := "hasParity", desc := "(I)Z" } : MethodName) prog_8_method_11_code (2 : Nat) (Option.some FieldType.boolean) ∈ gw := wmi 462 (by decide +kernel) rfl
theorem wn_463 : Cond.methodLinkNest "FalseParity$Now" (29 : Nat) ({ cls := "FalseParity", name := "hasBit", desc := "(II)Z" } : MethodName) "FalseParity" ∈ nwl := wni 463 (by decide +kernel) rfl
theorem wm_464 : Cond.static ({ cls := "FalseParity", name := "hasBit", desc := "(II)Z" } : MethodName) ∈ gw := wmi 464 (by decide +kernel) rfl
theorem wm_465 : Cond.code ({ cls := "FalseParity", name := "hasBit", desc := "(II)Z" } : MethodName) prog_1_method_30_code (2 : Nat) (Option.some FieldType.boolean) ∈ gw := wmi 465 (by decide +kernel) rfl
theorem wm_466 : Cond.methodLink "FalseParity" (128 : Nat) ({ cls := "FalseParity$Now", name := "isAway", desc := "(I)Z" } : MethodName) ∈ gw := wmi 466 (by decide +kernel) rfl
theorem wm_467 : Cond.instanceMethod ({ cls := "FalseParity$Now", name := "isAway", desc := "(I)Z" } : MethodName) ∈ gw := wmi 467 (by decide +kernel) rfl
theorem wm_468 : Cond.selects "FalseParity$Now" ({ cls := "FalseParity$Now", name := "isAway", desc := "(I)Z" } : MethodName) ({ cls := "FalseParity$Now", name := "isAway", desc := "(I)Z" } : MethodName) ∈ gw := wmi 468 (by decide +kernel) rfl
theorem wm_469 : Cond.code ({ cls := "FalseParity$Now", name := "isAway", desc := "(I)Z" } : MethodName) prog_8_method_12_code (2 : Nat) (Option.some FieldType.boolean) ∈ gw := wmi 469 (by decide +kernel) rfl
theorem wm_470 : Cond.methodLink "FalseParity" (131 : Nat) ({ cls := "FalseParity$Paths", name := "takers", desc := "(I)I" } : MethodName) ∈ gw := wmi 470 (by decide +kernel) rfl
theorem wm_471 : Cond.instanceMethod ({ cls := "FalseParity$Paths", name := "takers", desc := "(I)I" } : MethodName) ∈ gw := wmi 471 (by decide +kernel) rfl
theorem wm_472 : Cond.selects "FalseParity$Paths" ({ cls := "FalseParity$Paths", name := "takers", desc := "(I)I" } : MethodName) ({ cls := "FalseParity$Paths", name := "takers", desc := "(I)I" } : MethodName) ∈ gw := wmi 472 (by decide +kernel) rfl
theorem wm_473 : Cond.code ({ cls := "FalseParity$Paths", name := "takers", desc := "(I)I" } : MethodName) prog_9_method_2_code (2 : Nat) (Option.some FieldType.int) ∈ gw := wmi 473 (by decide +kernel) rfl
theorem wm_474 : Cond.methodLink "FalseParity$Paths" (19 : Nat) ({ cls := "FalseParity$Now", name := "hasParity", desc := "(I)Z" } : MethodName) ∈ gw := wmi 474 (by decide +kernel) rfl
theorem wm_475 : Cond.methodLink "FalseParity$Paths" (31 : Nat) ({ cls := "FalseParity$Paths", name := "takersByLooks", desc := "(I)I" } : MethodName) ∈ gw := wmi 475 (by decide +kernel) rfl
theorem wm_477 : Cond.instanceMethod ({ cls := "FalseParity$Paths", name := "takersByLooks", desc := "(I)I" } : MethodName) ∈ gw := wmi 477 (by decide +kernel) rfl
theorem wm_478 : Cond.code ({ cls := "FalseParity$Paths", name := "takersByLooks", desc := "(I)I" } : MethodName) prog_9_method_13_code (4 : Nat) (Option.some FieldType.int) ∈ gw := wmi 478 (by decide +kernel) rfl
theorem wm_479 : Cond.methodLink "FalseParity$Paths" (73 : Nat) ({ cls := "FalseParity$Now", name := "looks", desc := "(I)I" } : MethodName) ∈ gw := wmi 479 (by decide +kernel) rfl
theorem wm_480 : Cond.instanceMethod ({ cls := "FalseParity$Now", name := "looks", desc := "(I)I" } : MethodName) ∈ gw := wmi 480 (by decide +kernel) rfl
theorem wm_481 : Cond.selects "FalseParity$Now" ({ cls := "FalseParity$Now", name := "looks", desc := "(I)I" } : MethodName) ({ cls := "FalseParity$Now", name := "looks", desc := "(I)I" } : MethodName) ∈ gw := wmi 481 (by decide +kernel) rfl
theorem wm_482 : Cond.code ({ cls := "FalseParity$Now", name := "looks", desc := "(I)I" } : MethodName) prog_8_method_7_code (2 : Nat) (Option.some FieldType.int) ∈ gw := wmi 482 (by decide +kernel) rfl
theorem wm_483 : Cond.methodLink "FalseParityLaw" (32 : Nat) ({ cls := "FalseParity", name := "person", desc := "(II)I" } : MethodName) ∈ gw := wmi 483 (by decide +kernel) rfl
theorem wm_484 : Cond.instanceMethod ({ cls := "FalseParity", name := "person", desc := "(II)I" } : MethodName) ∈ gw := wmi 484 (by decide +kernel) rfl
theorem wm_485 : Cond.selects "FalseParity" ({ cls := "FalseParity", name := "person", desc := "(II)I" } : MethodName) ({ cls := "FalseParity", name := "person", desc := "(II)I" } : MethodName) ∈ gw := wmi 485 (by decide +kernel) rfl
theorem wm_486 : Cond.code ({ cls := "FalseParity", name := "person", desc := "(II)I" } : MethodName) prog_1_method_6_code (3 : Nat) (Option.some FieldType.int) ∈ gw := wmi 486 (by decide +kernel) rfl
theorem wm_487 : Cond.methodLink "FalseParity" (134 : Nat) ({ cls := "FalseParity$Country", name := "hasPerson", desc := "(I)Z" } : MethodName) ∈ gw := wmi 487 (by decide +kernel) rfl
theorem wm_488 : Cond.instanceMethod ({ cls := "FalseParity$Country", name := "hasPerson", desc := "(I)Z" } : MethodName) ∈ gw := wmi 488 (by decide +kernel) rfl
theorem wm_489 : Cond.selects "FalseParity$Country" ({ cls := "FalseParity$Country", name := "hasPerson", desc := "(I)Z" } : MethodName) ({ cls := "FalseParity$Country", name := "hasPerson", desc := "(I)Z" } : MethodName) ∈ gw := wmi 489 (by decide +kernel) rfl
theorem wm_490 : Cond.code ({ cls := "FalseParity$Country", name := "hasPerson", desc := "(I)Z" } : MethodName) prog_3_method_4_code (2 : Nat) (Option.some FieldType.boolean) ∈ gw := wmi 490 (by decide +kernel) rfl
theorem wm_491 : Cond.methodLink "FalseParity" (137 : Nat) ({ cls := "FalseParity$Now", name := "looks", desc := "(I)I" } : MethodName) ∈ gw := wmi 491 (by decide +kernel) rfl
theorem wm_492 : Cond.methodLink "FalseParity" (140 : Nat) ({ cls := "FalseParity", name := "purse", desc := "(I)I" } : MethodName) ∈ gw := wmi 492 (by decide +kernel) rfl
theorem wm_494 : Cond.instanceMethod ({ cls := "FalseParity", name := "purse", desc := "(I)I" } : MethodName) ∈ gw := wmi 494 (by decide +kernel) rfl
theorem wm_495 : Cond.code ({ cls := "FalseParity", name := "purse", desc := "(I)I" } : MethodName) prog_1_method_27_code (4 : Nat) (Option.some FieldType.int) ∈ gw := wmi 495 (by decide +kernel) rfl
theorem wm_496 : Cond.methodLink "FalseParityLaw" (36 : Nat) ({ cls := "FalseParity", name := "now", desc := "(I)I" } : MethodName) ∈ gw := wmi 496 (by decide +kernel) rfl
theorem wm_497 : Cond.instanceMethod ({ cls := "FalseParity", name := "now", desc := "(I)I" } : MethodName) ∈ gw := wmi 497 (by decide +kernel) rfl
theorem wm_498 : Cond.selects "FalseParity" ({ cls := "FalseParity", name := "now", desc := "(I)I" } : MethodName) ({ cls := "FalseParity", name := "now", desc := "(I)I" } : MethodName) ∈ gw := wmi 498 (by decide +kernel) rfl
theorem wm_499 : Cond.code ({ cls := "FalseParity", name := "now", desc := "(I)I" } : MethodName) prog_1_method_7_code (2 : Nat) (Option.some FieldType.int) ∈ gw := wmi 499 (by decide +kernel) rfl
theorem wm_500 : Cond.methodLink "FalseParity" (143 : Nat) ({ cls := "FalseParity$Now", name := "parity", desc := "()I" } : MethodName) ∈ gw := wmi 500 (by decide +kernel) rfl
theorem wm_501 : Cond.instanceMethod ({ cls := "FalseParity$Now", name := "parity", desc := "()I" } : MethodName) ∈ gw := wmi 501 (by decide +kernel) rfl
theorem wm_502 : Cond.selects "FalseParity$Now" ({ cls := "FalseParity$Now", name := "parity", desc := "()I" } : MethodName) ({ cls := "FalseParity$Now", name := "parity", desc := "()I" } : MethodName) ∈ gw := wmi 502 (by decide +kernel) rfl
theorem wm_503 : Cond.code ({ cls := "FalseParity$Now", name := "parity", desc := "()I" } : MethodName) prog_8_method_8_code (1 : Nat) (Option.some FieldType.int) ∈ gw := wmi 503 (by decide +kernel) rfl
theorem wm_504 : Cond.methodLink "FalseParity" (146 : Nat) ({ cls := "FalseParity$Now", name := "away", desc := "()I" } : MethodName) ∈ gw := wmi 504 (by decide +kernel) rfl
theorem wm_505 : Cond.instanceMethod ({ cls := "FalseParity$Now", name := "away", desc := "()I" } : MethodName) ∈ gw := wmi 505 (by decide +kernel) rfl
theorem wm_506 : Cond.selects "FalseParity$Now" ({ cls := "FalseParity$Now", name := "away", desc := "()I" } : MethodName) ({ cls := "FalseParity$Now", name := "away", desc := "()I" } : MethodName) ∈ gw := wmi 506 (by decide +kernel) rfl
theorem wm_507 : Cond.code ({ cls := "FalseParity$Now", name := "away", desc := "()I" } : MethodName) prog_8_method_9_code (1 : Nat) (Option.some FieldType.int) ∈ gw := wmi 507 (by decide +kernel) rfl
theorem wm_508 : Cond.methodLink "FalseParity" (149 : Nat) ({ cls := "FalseParity$Now", name := "refused", desc := "()I" } : MethodName) ∈ gw := wmi 508 (by decide +kernel) rfl
theorem wm_509 : Cond.instanceMethod ({ cls := "FalseParity$Now", name := "refused", desc := "()I" } : MethodName) ∈ gw := wmi 509 (by decide +kernel) rfl
theorem wm_510 : Cond.selects "FalseParity$Now" ({ cls := "FalseParity$Now", name := "refused", desc := "()I" } : MethodName) ({ cls := "FalseParity$Now", name := "refused", desc := "()I" } : MethodName) ∈ gw := wmi 510 (by decide +kernel) rfl
theorem wm_511 : Cond.code ({ cls := "FalseParity$Now", name := "refused", desc := "()I" } : MethodName) prog_8_method_10_code (1 : Nat) (Option.some FieldType.int) ∈ gw := wmi 511 (by decide +kernel) rfl
theorem wm_512 : Cond.methodLink "FalseParity" (152 : Nat) ({ cls := "FalseParity$Board", name := "worthOfAll", desc := "()I" } : MethodName) ∈ gw := wmi 512 (by decide +kernel) rfl
theorem wm_513 : Cond.instanceMethod ({ cls := "FalseParity$Board", name := "worthOfAll", desc := "()I" } : MethodName) ∈ gw := wmi 513 (by decide +kernel) rfl
theorem wm_514 : Cond.selects "FalseParity$Board" ({ cls := "FalseParity$Board", name := "worthOfAll", desc := "()I" } : MethodName) ({ cls := "FalseParity$Board", name := "worthOfAll", desc := "()I" } : MethodName) ∈ gw := wmi 514 (by decide +kernel) rfl
theorem wm_515 : Cond.code ({ cls := "FalseParity$Board", name := "worthOfAll", desc := "()I" } : MethodName) prog_2_method_6_code (1 : Nat) (Option.some FieldType.int) ∈ gw := wmi 515 (by decide +kernel) rfl
theorem wm_516 : Cond.methodLink "FalseParity$Board" (34 : Nat) ({ cls := "FalseParity$Now", name := "away", desc := "()I" } : MethodName) ∈ gw := wmi 516 (by decide +kernel) rfl
theorem wm_517 : Cond.methodLink "FalseParity$Board" (40 : Nat) ({ cls := "FalseParity$Board", name := "worthOf", desc := "(I)I" } : MethodName) ∈ gw := wmi 517 (by decide +kernel) rfl
theorem wm_518 : Cond.instanceMethod ({ cls := "FalseParity$Board", name := "worthOf", desc := "(I)I" } : MethodName) ∈ gw := wmi 518 (by decide +kernel) rfl
theorem wm_519 : Cond.selects "FalseParity$Board" ({ cls := "FalseParity$Board", name := "worthOf", desc := "(I)I" } : MethodName) ({ cls := "FalseParity$Board", name := "worthOf", desc := "(I)I" } : MethodName) ∈ gw := wmi 519 (by decide +kernel) rfl
theorem wm_520 : Cond.code ({ cls := "FalseParity$Board", name := "worthOf", desc := "(I)I" } : MethodName) prog_2_method_8_code (4 : Nat) (Option.some FieldType.int) ∈ gw := wmi 520 (by decide +kernel) rfl
theorem wn_521 : Cond.methodLinkNest "FalseParity$Board" (52 : Nat) ({ cls := "FalseParity", name := "hasBit", desc := "(II)Z" } : MethodName) "FalseParity" ∈ nwl := wni 521 (by decide +kernel) rfl
theorem wm_522 : Cond.methodLink "FalseParity" (155 : Nat) ({ cls := "FalseParity$Board", name := "worthOfFalse", desc := "()I" } : MethodName) ∈ gw := wmi 522 (by decide +kernel) rfl
theorem wm_523 : Cond.instanceMethod ({ cls := "FalseParity$Board", name := "worthOfFalse", desc := "()I" } : MethodName) ∈ gw := wmi 523 (by decide +kernel) rfl
theorem wm_524 : Cond.selects "FalseParity$Board" ({ cls := "FalseParity$Board", name := "worthOfFalse", desc := "()I" } : MethodName) ({ cls := "FalseParity$Board", name := "worthOfFalse", desc := "()I" } : MethodName) ∈ gw := wmi 524 (by decide +kernel) rfl
theorem wm_525 : Cond.code ({ cls := "FalseParity$Board", name := "worthOfFalse", desc := "()I" } : MethodName) prog_2_method_7_code (1 : Nat) (Option.some FieldType.int) ∈ gw := wmi 525 (by decide +kernel) rfl
theorem wm_526 : Cond.methodLink "FalseParity$Board" (44 : Nat) ({ cls := "FalseParity$Board", name := "falseNotes", desc := "()I" } : MethodName) ∈ gw := wmi 526 (by decide +kernel) rfl
theorem wm_528 : Cond.instanceMethod ({ cls := "FalseParity$Board", name := "falseNotes", desc := "()I" } : MethodName) ∈ gw := wmi 528 (by decide +kernel) rfl
theorem wm_529 : Cond.code ({ cls := "FalseParity$Board", name := "falseNotes", desc := "()I" } : MethodName) prog_2_method_11_code (3 : Nat) (Option.some FieldType.int) ∈ gw := wmi 529 (by decide +kernel) rfl
theorem wm_530 : Cond.methodLink "FalseParity$Board" (76 : Nat) ({ cls := "FalseParity$Country", name := "isFalse", desc := "(I)Z" } : MethodName) ∈ gw := wmi 530 (by decide +kernel) rfl
theorem wm_531 : Cond.instanceMethod ({ cls := "FalseParity$Country", name := "isFalse", desc := "(I)Z" } : MethodName) ∈ gw := wmi 531 (by decide +kernel) rfl
theorem wm_532 : Cond.selects "FalseParity$Country" ({ cls := "FalseParity$Country", name := "isFalse", desc := "(I)Z" } : MethodName) ({ cls := "FalseParity$Country", name := "isFalse", desc := "(I)Z" } : MethodName) ∈ gw := wmi 532 (by decide +kernel) rfl
theorem wm_533 : Cond.code ({ cls := "FalseParity$Country", name := "isFalse", desc := "(I)Z" } : MethodName) prog_3_method_6_code (2 : Nat) (Option.some FieldType.boolean) ∈ gw := wmi 533 (by decide +kernel) rfl
theorem wm_534 : Cond.methodLink "FalseParityLaw" (40 : Nat) ({ cls := "FalseParity", name := "passes", desc := "(II)I" } : MethodName) ∈ gw := wmi 534 (by decide +kernel) rfl
theorem wm_535 : Cond.instanceMethod ({ cls := "FalseParity", name := "passes", desc := "(II)I" } : MethodName) ∈ gw := wmi 535 (by decide +kernel) rfl
theorem wm_536 : Cond.selects "FalseParity" ({ cls := "FalseParity", name := "passes", desc := "(II)I" } : MethodName) ({ cls := "FalseParity", name := "passes", desc := "(II)I" } : MethodName) ∈ gw := wmi 536 (by decide +kernel) rfl
theorem wm_537 : Cond.code ({ cls := "FalseParity", name := "passes", desc := "(II)I" } : MethodName) prog_1_method_8_code (3 : Nat) (Option.some FieldType.int) ∈ gw := wmi 537 (by decide +kernel) rfl
theorem wm_538 : Cond.methodLink "FalseParity" (162 : Nat) ({ cls := "FalseParity$History", name := "push", desc := "(LFalseParity$Now;)V" } : MethodName) ∈ gw := wmi 538 (by decide +kernel) rfl
theorem wm_539 : Cond.instanceMethod ({ cls := "FalseParity$History", name := "push", desc := "(LFalseParity$Now;)V" } : MethodName) ∈ gw := wmi 539 (by decide +kernel) rfl
theorem wm_540 : Cond.selects "FalseParity$History" ({ cls := "FalseParity$History", name := "push", desc := "(LFalseParity$Now;)V" } : MethodName) ({ cls := "FalseParity$History", name := "push", desc := "(LFalseParity$Now;)V" } : MethodName) ∈ gw := wmi 540 (by decide +kernel) rfl
theorem wm_541 : Cond.code ({ cls := "FalseParity$History", name := "push", desc := "(LFalseParity$Now;)V" } : MethodName) prog_4_method_3_code (2 : Nat) (Option.none : Option FieldType) ∈ gw := wmi 541 (by decide +kernel) rfl
theorem wm_542 : Cond.methodLink "FalseParity$History" (24 : Nat) ({ cls := "FalseParity$Now", name := "copyTo", desc := "([II)V" } : MethodName) ∈ gw := wmi 542 (by decide +kernel) rfl
theorem wm_543 : Cond.instanceMethod ({ cls := "FalseParity$Now", name := "copyTo", desc := "([II)V" } : MethodName) ∈ gw := wmi 543 (by decide +kernel) rfl
theorem wm_544 : Cond.selects "FalseParity$Now" ({ cls := "FalseParity$Now", name := "copyTo", desc := "([II)V" } : MethodName) ({ cls := "FalseParity$Now", name := "copyTo", desc := "([II)V" } : MethodName) ∈ gw := wmi 544 (by decide +kernel) rfl
theorem wm_545 : Cond.code ({ cls := "FalseParity$Now", name := "copyTo", desc := "([II)V" } : MethodName) prog_8_method_3_code (3 : Nat) (Option.none : Option FieldType) ∈ gw := wmi 545 (by decide +kernel) rfl
theorem wm_546 : Cond.methodLink "FalseParity$History" (28 : Nat) ({ cls := "java/lang/Math", name := "min", desc := "(II)I" } : MethodName) ∈ gw := wmi 546 (by decide +kernel) rfl
theorem wm_547 : Cond.methodLink "FalseParity" (166 : Nat) ({ cls := "FalseParity$Paths", name := "takes", desc := "(II)Z" } : MethodName) ∈ gw := wmi 547 (by decide +kernel) rfl
theorem wm_548 : Cond.instanceMethod ({ cls := "FalseParity$Paths", name := "takes", desc := "(II)Z" } : MethodName) ∈ gw := wmi 548 (by decide +kernel) rfl
theorem wm_549 : Cond.selects "FalseParity$Paths" ({ cls := "FalseParity$Paths", name := "takes", desc := "(II)Z" } : MethodName) ({ cls := "FalseParity$Paths", name := "takes", desc := "(II)Z" } : MethodName) ∈ gw := wmi 549 (by decide +kernel) rfl
theorem wm_550 : Cond.code ({ cls := "FalseParity$Paths", name := "takes", desc := "(II)Z" } : MethodName) prog_9_method_3_code (3 : Nat) (Option.some FieldType.boolean) ∈ gw := wmi 550 (by decide +kernel) rfl
theorem wm_551 : Cond.methodLink "FalseParity$Paths" (35 : Nat) ({ cls := "FalseParity$Paths", name := "takers", desc := "(I)I" } : MethodName) ∈ gw := wmi 551 (by decide +kernel) rfl
theorem wn_552 : Cond.methodLinkNest "FalseParity$Paths" (38 : Nat) ({ cls := "FalseParity", name := "hasBit", desc := "(II)Z" } : MethodName) "FalseParity" ∈ nwl := wni 552 (by decide +kernel) rfl
theorem wm_553 : Cond.methodLink "FalseParity" (170 : Nat) ({ cls := "FalseParity$Now", name := "refuse", desc := "(I)V" } : MethodName) ∈ gw := wmi 553 (by decide +kernel) rfl
theorem wm_554 : Cond.instanceMethod ({ cls := "FalseParity$Now", name := "refuse", desc := "(I)V" } : MethodName) ∈ gw := wmi 554 (by decide +kernel) rfl
theorem wm_555 : Cond.selects "FalseParity$Now" ({ cls := "FalseParity$Now", name := "refuse", desc := "(I)V" } : MethodName) ({ cls := "FalseParity$Now", name := "refuse", desc := "(I)V" } : MethodName) ∈ gw := wmi 555 (by decide +kernel) rfl
theorem wm_556 : Cond.code ({ cls := "FalseParity$Now", name := "refuse", desc := "(I)V" } : MethodName) prog_8_method_15_code (2 : Nat) (Option.none : Option FieldType) ∈ gw := wmi 556 (by decide +kernel) rfl
theorem wm_557 : Cond.methodLink "FalseParity" (174 : Nat) ({ cls := "FalseParity$Now", name := "take", desc := "(II)V" } : MethodName) ∈ gw := wmi 557 (by decide +kernel) rfl
theorem wm_558 : Cond.instanceMethod ({ cls := "FalseParity$Now", name := "take", desc := "(II)V" } : MethodName) ∈ gw := wmi 558 (by decide +kernel) rfl
theorem wm_559 : Cond.selects "FalseParity$Now" ({ cls := "FalseParity$Now", name := "take", desc := "(II)V" } : MethodName) ({ cls := "FalseParity$Now", name := "take", desc := "(II)V" } : MethodName) ∈ gw := wmi 559 (by decide +kernel) rfl
theorem wm_560 : Cond.code ({ cls := "FalseParity$Now", name := "take", desc := "(II)V" } : MethodName) prog_8_method_13_code (3 : Nat) (Option.none : Option FieldType) ∈ gw := wmi 560 (by decide +kernel) rfl
theorem wm_561 : Cond.methodLink "FalseParity" (178 : Nat) ({ cls := "FalseParity$Country", name := "isFalse", desc := "(I)Z" } : MethodName) ∈ gw := wmi 561 (by decide +kernel) rfl
theorem wm_562 : Cond.methodLink "FalseParity" (183 : Nat) ({ cls := "FalseParity$Now", name := "giveParity", desc := "(I)V" } : MethodName) ∈ gw := wmi 562 (by decide +kernel) rfl
theorem wm_563 : Cond.instanceMethod ({ cls := "FalseParity$Now", name := "giveParity", desc := "(I)V" } : MethodName) ∈ gw := wmi 563 (by decide +kernel) rfl
theorem wm_564 : Cond.selects "FalseParity$Now" ({ cls := "FalseParity$Now", name := "giveParity", desc := "(I)V" } : MethodName) ({ cls := "FalseParity$Now", name := "giveParity", desc := "(I)V" } : MethodName) ∈ gw := wmi 564 (by decide +kernel) rfl
theorem wm_565 : Cond.code ({ cls := "FalseParity$Now", name := "giveParity", desc := "(I)V" } : MethodName) prog_8_method_14_code (2 : Nat) (Option.none : Option FieldType) ∈ gw := wmi 565 (by decide +kernel) rfl
theorem wm_566 : Cond.methodLink "FalseParityLaw" (44 : Nat) ({ cls := "FalseParity", name := "teaches", desc := "(II)I" } : MethodName) ∈ gw := wmi 566 (by decide +kernel) rfl
theorem wm_567 : Cond.instanceMethod ({ cls := "FalseParity", name := "teaches", desc := "(II)I" } : MethodName) ∈ gw := wmi 567 (by decide +kernel) rfl
theorem wm_568 : Cond.selects "FalseParity" ({ cls := "FalseParity", name := "teaches", desc := "(II)I" } : MethodName) ({ cls := "FalseParity", name := "teaches", desc := "(II)I" } : MethodName) ∈ gw := wmi 568 (by decide +kernel) rfl
theorem wm_569 : Cond.code ({ cls := "FalseParity", name := "teaches", desc := "(II)I" } : MethodName) prog_1_method_9_code (4 : Nat) (Option.some FieldType.int) ∈ gw := wmi 569 (by decide +kernel) rfl
theorem wm_570 : Cond.methodLink "FalseParity" (186 : Nat) ({ cls := "FalseParity$Now", name := "teach", desc := "(II)V" } : MethodName) ∈ gw := wmi 570 (by decide +kernel) rfl
theorem wm_571 : Cond.instanceMethod ({ cls := "FalseParity$Now", name := "teach", desc := "(II)V" } : MethodName) ∈ gw := wmi 571 (by decide +kernel) rfl
theorem wm_572 : Cond.selects "FalseParity$Now" ({ cls := "FalseParity$Now", name := "teach", desc := "(II)V" } : MethodName) ({ cls := "FalseParity$Now", name := "teach", desc := "(II)V" } : MethodName) ∈ gw := wmi 572 (by decide +kernel) rfl
theorem wm_573 : Cond.code ({ cls := "FalseParity$Now", name := "teach", desc := "(II)V" } : MethodName) prog_8_method_16_code (3 : Nat) (Option.none : Option FieldType) ∈ gw := wmi 573 (by decide +kernel) rfl
theorem wm_574 : Cond.methodLink "FalseParityLaw" (48 : Nat) ({ cls := "FalseParity", name := "sends", desc := "(II)I" } : MethodName) ∈ gw := wmi 574 (by decide +kernel) rfl
theorem wm_575 : Cond.instanceMethod ({ cls := "FalseParity", name := "sends", desc := "(II)I" } : MethodName) ∈ gw := wmi 575 (by decide +kernel) rfl
theorem wm_576 : Cond.selects "FalseParity" ({ cls := "FalseParity", name := "sends", desc := "(II)I" } : MethodName) ({ cls := "FalseParity", name := "sends", desc := "(II)I" } : MethodName) ∈ gw := wmi 576 (by decide +kernel) rfl
theorem wm_577 : Cond.code ({ cls := "FalseParity", name := "sends", desc := "(II)I" } : MethodName) prog_1_method_10_code (3 : Nat) (Option.some FieldType.int) ∈ gw := wmi 577 (by decide +kernel) rfl
theorem wm_578 : Cond.methodLink "FalseParity" (189 : Nat) ({ cls := "FalseParity", name := "isYesOrNo", desc := "(I)Z" } : MethodName) ∈ gw := wmi 578 (by decide +kernel) rfl
theorem wm_579 : Cond.static ({ cls := "FalseParity", name := "isYesOrNo", desc := "(I)Z" } : MethodName) ∈ gw := wmi 579 (by decide +kernel) rfl
theorem wm_580 : Cond.code ({ cls := "FalseParity", name := "isYesOrNo", desc := "(I)Z" } : MethodName) prog_1_method_28_code (1 : Nat) (Option.some FieldType.boolean) ∈ gw := wmi 580 (by decide +kernel) rfl
theorem wm_581 : Cond.methodLink "FalseParity" (192 : Nat) ({ cls := "FalseParity$Now", name := "turnAway", desc := "(I)V" } : MethodName) ∈ gw := wmi 581 (by decide +kernel) rfl
theorem wm_582 : Cond.instanceMethod ({ cls := "FalseParity$Now", name := "turnAway", desc := "(I)V" } : MethodName) ∈ gw := wmi 582 (by decide +kernel) rfl
theorem wm_583 : Cond.selects "FalseParity$Now" ({ cls := "FalseParity$Now", name := "turnAway", desc := "(I)V" } : MethodName) ({ cls := "FalseParity$Now", name := "turnAway", desc := "(I)V" } : MethodName) ∈ gw := wmi 583 (by decide +kernel) rfl
theorem wm_584 : Cond.code ({ cls := "FalseParity$Now", name := "turnAway", desc := "(I)V" } : MethodName) prog_8_method_17_code (2 : Nat) (Option.none : Option FieldType) ∈ gw := wmi 584 (by decide +kernel) rfl
theorem wm_585 : Cond.methodLink "FalseParity" (195 : Nat) ({ cls := "java/lang/Integer", name := "bitCount", desc := "(I)I" } : MethodName) ∈ gw := wmi 585 (by decide +kernel) rfl
theorem wm_586 : Cond.static ({ cls := "java/lang/Integer", name := "bitCount", desc := "(I)I" } : MethodName) ∈ gw := wmi 586 (by decide +kernel) rfl
theorem wm_587 : Cond.code ({ cls := "java/lang/Integer", name := "bitCount", desc := "(I)I" } : MethodName) prog_14_method_49_code (1 : Nat) (Option.some FieldType.int) ∈ gw := wmi 587 (by decide +kernel) rfl
theorem wm_588 : Cond.constant "java/lang/Integer" (265 : Nat) (1431655765 : Int32) ∈ gw := wmi 588 (by decide +kernel) rfl
theorem wm_589 : Cond.constant "java/lang/Integer" (266 : Nat) (858993459 : Int32) ∈ gw := wmi 589 (by decide +kernel) rfl
theorem wm_590 : Cond.constant "java/lang/Integer" (267 : Nat) (252645135 : Int32) ∈ gw := wmi 590 (by decide +kernel) rfl
theorem wm_591 : Cond.methodLink "FalseParityLaw" (52 : Nat) ({ cls := "FalseParity", name := "undo", desc := "()I" } : MethodName) ∈ gw := wmi 591 (by decide +kernel) rfl
theorem wm_592 : Cond.instanceMethod ({ cls := "FalseParity", name := "undo", desc := "()I" } : MethodName) ∈ gw := wmi 592 (by decide +kernel) rfl
theorem wm_593 : Cond.selects "FalseParity" ({ cls := "FalseParity", name := "undo", desc := "()I" } : MethodName) ({ cls := "FalseParity", name := "undo", desc := "()I" } : MethodName) ∈ gw := wmi 593 (by decide +kernel) rfl
theorem wm_594 : Cond.code ({ cls := "FalseParity", name := "undo", desc := "()I" } : MethodName) prog_1_method_11_code (1 : Nat) (Option.some FieldType.int) ∈ gw := wmi 594 (by decide +kernel) rfl
theorem wm_595 : Cond.methodLink "FalseParity" (200 : Nat) ({ cls := "FalseParity$History", name := "pop", desc := "(LFalseParity$Now;)V" } : MethodName) ∈ gw := wmi 595 (by decide +kernel) rfl
theorem wm_596 : Cond.instanceMethod ({ cls := "FalseParity$History", name := "pop", desc := "(LFalseParity$Now;)V" } : MethodName) ∈ gw := wmi 596 (by decide +kernel) rfl
theorem wm_597 : Cond.selects "FalseParity$History" ({ cls := "FalseParity$History", name := "pop", desc := "(LFalseParity$Now;)V" } : MethodName) ({ cls := "FalseParity$History", name := "pop", desc := "(LFalseParity$Now;)V" } : MethodName) ∈ gw := wmi 597 (by decide +kernel) rfl
theorem wm_598 : Cond.code ({ cls := "FalseParity$History", name := "pop", desc := "(LFalseParity$Now;)V" } : MethodName) prog_4_method_4_code (2 : Nat) (Option.none : Option FieldType) ∈ gw := wmi 598 (by decide +kernel) rfl
theorem wm_599 : Cond.methodLink "FalseParity$History" (34 : Nat) ({ cls := "FalseParity$Now", name := "copyFrom", desc := "([II)V" } : MethodName) ∈ gw := wmi 599 (by decide +kernel) rfl
theorem wm_600 : Cond.instanceMethod ({ cls := "FalseParity$Now", name := "copyFrom", desc := "([II)V" } : MethodName) ∈ gw := wmi 600 (by decide +kernel) rfl
theorem wm_601 : Cond.selects "FalseParity$Now" ({ cls := "FalseParity$Now", name := "copyFrom", desc := "([II)V" } : MethodName) ({ cls := "FalseParity$Now", name := "copyFrom", desc := "([II)V" } : MethodName) ∈ gw := wmi 601 (by decide +kernel) rfl
theorem wm_602 : Cond.code ({ cls := "FalseParity$Now", name := "copyFrom", desc := "([II)V" } : MethodName) prog_8_method_4_code (3 : Nat) (Option.none : Option FieldType) ∈ gw := wmi 602 (by decide +kernel) rfl
theorem wm_603 : Cond.methodLink "FalseParityLaw" (56 : Nat) ({ cls := "FalseParity", name := "soonest", desc := "(II)I" } : MethodName) ∈ gw := wmi 603 (by decide +kernel) rfl
theorem wm_604 : Cond.instanceMethod ({ cls := "FalseParity", name := "soonest", desc := "(II)I" } : MethodName) ∈ gw := wmi 604 (by decide +kernel) rfl
theorem wm_605 : Cond.selects "FalseParity" ({ cls := "FalseParity", name := "soonest", desc := "(II)I" } : MethodName) ({ cls := "FalseParity", name := "soonest", desc := "(II)I" } : MethodName) ∈ gw := wmi 605 (by decide +kernel) rfl
theorem wm_606 : Cond.code ({ cls := "FalseParity", name := "soonest", desc := "(II)I" } : MethodName) prog_1_method_12_code (4 : Nat) (Option.some FieldType.int) ∈ gw := wmi 606 (by decide +kernel) rfl
theorem wm_607 : Cond.methodLink "FalseParity" (203 : Nat) ({ cls := "FalseParity$Paths", name := "neededForParity", desc := "(I)I" } : MethodName) ∈ gw := wmi 607 (by decide +kernel) rfl
theorem wm_608 : Cond.instanceMethod ({ cls := "FalseParity$Paths", name := "neededForParity", desc := "(I)I" } : MethodName) ∈ gw := wmi 608 (by decide +kernel) rfl
theorem wm_609 : Cond.selects "FalseParity$Paths" ({ cls := "FalseParity$Paths", name := "neededForParity", desc := "(I)I" } : MethodName) ({ cls := "FalseParity$Paths", name := "neededForParity", desc := "(I)I" } : MethodName) ∈ gw := wmi 609 (by decide +kernel) rfl
theorem wm_610 : Cond.code ({ cls := "FalseParity$Paths", name := "neededForParity", desc := "(I)I" } : MethodName) prog_9_method_4_code (2 : Nat) (Option.some FieldType.int) ∈ gw := wmi 610 (by decide +kernel) rfl
theorem wm_611 : Cond.methodLink "FalseParity$Paths" (45 : Nat) ({ cls := "FalseParity$Now", name := "uses", desc := "(I)I" } : MethodName) ∈ gw := wmi 611 (by decide +kernel) rfl
theorem wm_612 : Cond.methodLink "FalseParity" (206 : Nat) ({ cls := "FalseParity$Paths", name := "canGoOn", desc := "(II)Z" } : MethodName) ∈ gw := wmi 612 (by decide +kernel) rfl
theorem wm_613 : Cond.instanceMethod ({ cls := "FalseParity$Paths", name := "canGoOn", desc := "(II)Z" } : MethodName) ∈ gw := wmi 613 (by decide +kernel) rfl
theorem wm_614 : Cond.selects "FalseParity$Paths" ({ cls := "FalseParity$Paths", name := "canGoOn", desc := "(II)Z" } : MethodName) ({ cls := "FalseParity$Paths", name := "canGoOn", desc := "(II)Z" } : MethodName) ∈ gw := wmi 614 (by decide +kernel) rfl
theorem wm_615 : Cond.code ({ cls := "FalseParity$Paths", name := "canGoOn", desc := "(II)Z" } : MethodName) prog_9_method_5_code (4 : Nat) (Option.some FieldType.boolean) ∈ gw := wmi 615 (by decide +kernel) rfl
theorem wm_616 : Cond.methodLink "FalseParity$Paths" (48 : Nat) ({ cls := "FalseParity$Paths", name := "choices", desc := "(II)I" } : MethodName) ∈ gw := wmi 616 (by decide +kernel) rfl
theorem wm_618 : Cond.instanceMethod ({ cls := "FalseParity$Paths", name := "choices", desc := "(II)I" } : MethodName) ∈ gw := wmi 618 (by decide +kernel) rfl
theorem wm_619 : Cond.code ({ cls := "FalseParity$Paths", name := "choices", desc := "(II)I" } : MethodName) prog_9_method_11_code (5 : Nat) (Option.some FieldType.int) ∈ gw := wmi 619 (by decide +kernel) rfl
theorem wm_620 : Cond.methodLink "FalseParity$Paths" (58 : Nat) ({ cls := "FalseParity$Paths", name := "hasParityBehind", desc := "(II)Z" } : MethodName) ∈ gw := wmi 620 (by decide +kernel) rfl
theorem wm_622 : Cond.instanceMethod ({ cls := "FalseParity$Paths", name := "hasParityBehind", desc := "(II)Z" } : MethodName) ∈ gw := wmi 622 (by decide +kernel) rfl
theorem wm_623 : Cond.code ({ cls := "FalseParity$Paths", name := "hasParityBehind", desc := "(II)Z" } : MethodName) prog_9_method_12_code (3 : Nat) (Option.some FieldType.boolean) ∈ gw := wmi 623 (by decide +kernel) rfl
theorem wm_624 : Cond.methodLink "FalseParity$Paths" (66 : Nat) ({ cls := "FalseParity$Country", name := "isFalse", desc := "(I)Z" } : MethodName) ∈ gw := wmi 624 (by decide +kernel) rfl
theorem wm_625 : Cond.methodLink "FalseParity$Paths" (52 : Nat) ({ cls := "FalseParity$Now", name := "holder", desc := "(I)I" } : MethodName) ∈ gw := wmi 625 (by decide +kernel) rfl
theorem wm_626 : Cond.methodLink "FalseParity$Paths" (61 : Nat) ({ cls := "java/lang/Integer", name := "bitCount", desc := "(I)I" } : MethodName) ∈ gw := wmi 626 (by decide +kernel) rfl
theorem wm_627 : Cond.methodLink "FalseParity" (209 : Nat) ({ cls := "FalseParity$Paths", name := "personOfRow", desc := "(II)I" } : MethodName) ∈ gw := wmi 627 (by decide +kernel) rfl
theorem wm_628 : Cond.instanceMethod ({ cls := "FalseParity$Paths", name := "personOfRow", desc := "(II)I" } : MethodName) ∈ gw := wmi 628 (by decide +kernel) rfl
theorem wm_629 : Cond.selects "FalseParity$Paths" ({ cls := "FalseParity$Paths", name := "personOfRow", desc := "(II)I" } : MethodName) ({ cls := "FalseParity$Paths", name := "personOfRow", desc := "(II)I" } : MethodName) ∈ gw := wmi 629 (by decide +kernel) rfl
theorem wm_630 : Cond.code ({ cls := "FalseParity$Paths", name := "personOfRow", desc := "(II)I" } : MethodName) prog_9_method_6_code (6 : Nat) (Option.some FieldType.int) ∈ gw := wmi 630 (by decide +kernel) rfl
theorem wm_631 : Cond.methodLink "FalseParity$Paths" (55 : Nat) ({ cls := "FalseParity$Paths", name := "lowestOther", desc := "(II)I" } : MethodName) ∈ gw := wmi 631 (by decide +kernel) rfl
theorem wm_633 : Cond.instanceMethod ({ cls := "FalseParity$Paths", name := "lowestOther", desc := "(II)I" } : MethodName) ∈ gw := wmi 633 (by decide +kernel) rfl
theorem wm_634 : Cond.code ({ cls := "FalseParity$Paths", name := "lowestOther", desc := "(II)I" } : MethodName) prog_9_method_7_code (4 : Nat) (Option.some FieldType.int) ∈ gw := wmi 634 (by decide +kernel) rfl
theorem wm_635 : Cond.methodLink "FalseParityLaw" (60 : Nat) ({ cls := "FalseParity", name := "till", desc := "(I)I" } : MethodName) ∈ gw := wmi 635 (by decide +kernel) rfl
theorem wm_636 : Cond.instanceMethod ({ cls := "FalseParity", name := "till", desc := "(I)I" } : MethodName) ∈ gw := wmi 636 (by decide +kernel) rfl
theorem wm_637 : Cond.selects "FalseParity" ({ cls := "FalseParity", name := "till", desc := "(I)I" } : MethodName) ({ cls := "FalseParity", name := "till", desc := "(I)I" } : MethodName) ∈ gw := wmi 637 (by decide +kernel) rfl
theorem wm_638 : Cond.code ({ cls := "FalseParity", name := "till", desc := "(I)I" } : MethodName) prog_1_method_13_code (2 : Nat) (Option.some FieldType.int) ∈ gw := wmi 638 (by decide +kernel) rfl
theorem wm_639 : Cond.methodLink "FalseParity" (213 : Nat) ({ cls := "FalseParity$Paths", name := "most", desc := "(I)I" } : MethodName) ∈ gw := wmi 639 (by decide +kernel) rfl
theorem wm_640 : Cond.instanceMethod ({ cls := "FalseParity$Paths", name := "most", desc := "(I)I" } : MethodName) ∈ gw := wmi 640 (by decide +kernel) rfl
theorem wm_641 : Cond.selects "FalseParity$Paths" ({ cls := "FalseParity$Paths", name := "most", desc := "(I)I" } : MethodName) ({ cls := "FalseParity$Paths", name := "most", desc := "(I)I" } : MethodName) ∈ gw := wmi 641 (by decide +kernel) rfl
theorem wm_642 : Cond.code ({ cls := "FalseParity$Paths", name := "most", desc := "(I)I" } : MethodName) prog_9_method_8_code (3 : Nat) (Option.some FieldType.int) ∈ gw := wmi 642 (by decide +kernel) rfl
theorem wm_643 : Cond.methodLink "FalseParityLaw" (64 : Nat) ({ cls := "FalseParity", name := "odds", desc := "(III)I" } : MethodName) ∈ gw := wmi 643 (by decide +kernel) rfl
theorem wm_644 : Cond.instanceMethod ({ cls := "FalseParity", name := "odds", desc := "(III)I" } : MethodName) ∈ gw := wmi 644 (by decide +kernel) rfl
theorem wm_645 : Cond.selects "FalseParity" ({ cls := "FalseParity", name := "odds", desc := "(III)I" } : MethodName) ({ cls := "FalseParity", name := "odds", desc := "(III)I" } : MethodName) ∈ gw := wmi 645 (by decide +kernel) rfl
theorem wm_646 : Cond.code ({ cls := "FalseParity", name := "odds", desc := "(III)I" } : MethodName) prog_1_method_14_code (6 : Nat) (Option.some FieldType.int) ∈ gw := wmi 646 (by decide +kernel) rfl
theorem wm_647 : Cond.methodLink "FalseParity" (216 : Nat) ({ cls := "FalseParity$Paths", name := "waysTaken", desc := "(II)I" } : MethodName) ∈ gw := wmi 647 (by decide +kernel) rfl
theorem wm_648 : Cond.instanceMethod ({ cls := "FalseParity$Paths", name := "waysTaken", desc := "(II)I" } : MethodName) ∈ gw := wmi 648 (by decide +kernel) rfl
theorem wm_649 : Cond.selects "FalseParity$Paths" ({ cls := "FalseParity$Paths", name := "waysTaken", desc := "(II)I" } : MethodName) ({ cls := "FalseParity$Paths", name := "waysTaken", desc := "(II)I" } : MethodName) ∈ gw := wmi 649 (by decide +kernel) rfl
theorem wm_650 : Cond.code ({ cls := "FalseParity$Paths", name := "waysTaken", desc := "(II)I" } : MethodName) prog_9_method_9_code (5 : Nat) (Option.some FieldType.int) ∈ gw := wmi 650 (by decide +kernel) rfl
theorem wm_651 : Cond.methodLink "FalseParity" (219 : Nat) ({ cls := "FalseParity$Paths", name := "waysAtAll", desc := "(I)I" } : MethodName) ∈ gw := wmi 651 (by decide +kernel) rfl
theorem wm_652 : Cond.instanceMethod ({ cls := "FalseParity$Paths", name := "waysAtAll", desc := "(I)I" } : MethodName) ∈ gw := wmi 652 (by decide +kernel) rfl
theorem wm_653 : Cond.selects "FalseParity$Paths" ({ cls := "FalseParity$Paths", name := "waysAtAll", desc := "(I)I" } : MethodName) ({ cls := "FalseParity$Paths", name := "waysAtAll", desc := "(I)I" } : MethodName) ∈ gw := wmi 653 (by decide +kernel) rfl
theorem wm_654 : Cond.code ({ cls := "FalseParity$Paths", name := "waysAtAll", desc := "(I)I" } : MethodName) prog_9_method_10_code (4 : Nat) (Option.some FieldType.int) ∈ gw := wmi 654 (by decide +kernel) rfl
theorem wm_655 : Cond.methodLink "FalseParity" (222 : Nat) ({ cls := "FalseParity", name := "inLeastTerms", desc := "(III)I" } : MethodName) ∈ gw := wmi 655 (by decide +kernel) rfl
theorem wm_656 : Cond.static ({ cls := "FalseParity", name := "inLeastTerms", desc := "(III)I" } : MethodName) ∈ gw := wmi 656 (by decide +kernel) rfl
theorem wm_657 : Cond.code ({ cls := "FalseParity", name := "inLeastTerms", desc := "(III)I" } : MethodName) prog_1_method_31_code (4 : Nat) (Option.some FieldType.int) ∈ gw := wmi 657 (by decide +kernel) rfl
theorem wm_658 : Cond.methodLink "FalseParityLaw" (69 : Nat) ({ cls := "FalseParity", name := "saw", desc := "(II)I" } : MethodName) ∈ gw := wmi 658 (by decide +kernel) rfl
theorem wm_659 : Cond.instanceMethod ({ cls := "FalseParity", name := "saw", desc := "(II)I" } : MethodName) ∈ gw := wmi 659 (by decide +kernel) rfl
theorem wm_660 : Cond.selects "FalseParity" ({ cls := "FalseParity", name := "saw", desc := "(II)I" } : MethodName) ({ cls := "FalseParity", name := "saw", desc := "(II)I" } : MethodName) ∈ gw := wmi 660 (by decide +kernel) rfl
theorem wm_661 : Cond.code ({ cls := "FalseParity", name := "saw", desc := "(II)I" } : MethodName) prog_1_method_15_code (3 : Nat) (Option.some FieldType.int) ∈ gw := wmi 661 (by decide +kernel) rfl
theorem wm_662 : Cond.methodLink "FalseParity" (226 : Nat) ({ cls := "FalseParity$Marks", name := "add", desc := "(II)I" } : MethodName) ∈ gw := wmi 662 (by decide +kernel) rfl
theorem wm_663 : Cond.instanceMethod ({ cls := "FalseParity$Marks", name := "add", desc := "(II)I" } : MethodName) ∈ gw := wmi 663 (by decide +kernel) rfl
theorem wm_664 : Cond.selects "FalseParity$Marks" ({ cls := "FalseParity$Marks", name := "add", desc := "(II)I" } : MethodName) ({ cls := "FalseParity$Marks", name := "add", desc := "(II)I" } : MethodName) ∈ gw := wmi 664 (by decide +kernel) rfl
theorem wm_665 : Cond.code ({ cls := "FalseParity$Marks", name := "add", desc := "(II)I" } : MethodName) prog_7_method_3_code (3 : Nat) (Option.some FieldType.int) ∈ gw := wmi 665 (by decide +kernel) rfl
theorem wm_666 : Cond.methodLink "FalseParityLaw" (73 : Nat) ({ cls := "FalseParity", name := "canBe", desc := "(I)I" } : MethodName) ∈ gw := wmi 666 (by decide +kernel) rfl
theorem wm_667 : Cond.instanceMethod ({ cls := "FalseParity", name := "canBe", desc := "(I)I" } : MethodName) ∈ gw := wmi 667 (by decide +kernel) rfl
theorem wm_668 : Cond.selects "FalseParity" ({ cls := "FalseParity", name := "canBe", desc := "(I)I" } : MethodName) ({ cls := "FalseParity", name := "canBe", desc := "(I)I" } : MethodName) ∈ gw := wmi 668 (by decide +kernel) rfl
theorem wm_669 : Cond.code ({ cls := "FalseParity", name := "canBe", desc := "(I)I" } : MethodName) prog_1_method_16_code (2 : Nat) (Option.some FieldType.int) ∈ gw := wmi 669 (by decide +kernel) rfl
theorem wm_670 : Cond.methodLink "FalseParity" (228 : Nat) ({ cls := "FalseParity$Marks", name := "howMany", desc := "()I" } : MethodName) ∈ gw := wmi 670 (by decide +kernel) rfl
theorem wm_671 : Cond.instanceMethod ({ cls := "FalseParity$Marks", name := "howMany", desc := "()I" } : MethodName) ∈ gw := wmi 671 (by decide +kernel) rfl
theorem wm_672 : Cond.selects "FalseParity$Marks" ({ cls := "FalseParity$Marks", name := "howMany", desc := "()I" } : MethodName) ({ cls := "FalseParity$Marks", name := "howMany", desc := "()I" } : MethodName) ∈ gw := wmi 672 (by decide +kernel) rfl
theorem wm_673 : Cond.code ({ cls := "FalseParity$Marks", name := "howMany", desc := "()I" } : MethodName) prog_7_method_4_code (3 : Nat) (Option.some FieldType.int) ∈ gw := wmi 673 (by decide +kernel) rfl
theorem wm_674 : Cond.methodLink "FalseParity$Marks" (30 : Nat) ({ cls := "FalseParity$Marks", name := "fits", desc := "(I)Z" } : MethodName) ∈ gw := wmi 674 (by decide +kernel) rfl
theorem wm_676 : Cond.instanceMethod ({ cls := "FalseParity$Marks", name := "fits", desc := "(I)Z" } : MethodName) ∈ gw := wmi 676 (by decide +kernel) rfl
theorem wm_677 : Cond.code ({ cls := "FalseParity$Marks", name := "fits", desc := "(I)Z" } : MethodName) prog_7_method_9_code (3 : Nat) (Option.some FieldType.boolean) ∈ gw := wmi 677 (by decide +kernel) rfl
theorem wm_678 : Cond.methodLink "FalseParity$Marks" (53 : Nat) ({ cls := "FalseParity$Marks", name := "wouldTake", desc := "(II)I" } : MethodName) ∈ gw := wmi 678 (by decide +kernel) rfl
theorem wm_680 : Cond.instanceMethod ({ cls := "FalseParity$Marks", name := "wouldTake", desc := "(II)I" } : MethodName) ∈ gw := wmi 680 (by decide +kernel) rfl
theorem wm_681 : Cond.code ({ cls := "FalseParity$Marks", name := "wouldTake", desc := "(II)I" } : MethodName) prog_7_method_10_code (3 : Nat) (Option.some FieldType.int) ∈ gw := wmi 681 (by decide +kernel) rfl
theorem wm_682 : Cond.methodLink "FalseParity$Marks" (56 : Nat) ({ cls := "FalseParity$Now", name := "looks", desc := "(I)I" } : MethodName) ∈ gw := wmi 682 (by decide +kernel) rfl
theorem wm_683 : Cond.methodLink "FalseParity" (231 : Nat) ({ cls := "FalseParity$Marks", name := "least", desc := "()I" } : MethodName) ∈ gw := wmi 683 (by decide +kernel) rfl
theorem wm_684 : Cond.instanceMethod ({ cls := "FalseParity$Marks", name := "least", desc := "()I" } : MethodName) ∈ gw := wmi 684 (by decide +kernel) rfl
theorem wm_685 : Cond.selects "FalseParity$Marks" ({ cls := "FalseParity$Marks", name := "least", desc := "()I" } : MethodName) ({ cls := "FalseParity$Marks", name := "least", desc := "()I" } : MethodName) ∈ gw := wmi 685 (by decide +kernel) rfl
theorem wm_686 : Cond.code ({ cls := "FalseParity$Marks", name := "least", desc := "()I" } : MethodName) prog_7_method_5_code (2 : Nat) (Option.some FieldType.int) ∈ gw := wmi 686 (by decide +kernel) rfl
theorem wm_687 : Cond.methodLink "FalseParity" (234 : Nat) ({ cls := "FalseParity$Marks", name := "inAll", desc := "()I" } : MethodName) ∈ gw := wmi 687 (by decide +kernel) rfl
theorem wm_688 : Cond.instanceMethod ({ cls := "FalseParity$Marks", name := "inAll", desc := "()I" } : MethodName) ∈ gw := wmi 688 (by decide +kernel) rfl
theorem wm_689 : Cond.selects "FalseParity$Marks" ({ cls := "FalseParity$Marks", name := "inAll", desc := "()I" } : MethodName) ({ cls := "FalseParity$Marks", name := "inAll", desc := "()I" } : MethodName) ∈ gw := wmi 689 (by decide +kernel) rfl
theorem wm_690 : Cond.code ({ cls := "FalseParity$Marks", name := "inAll", desc := "()I" } : MethodName) prog_7_method_6_code (3 : Nat) (Option.some FieldType.int) ∈ gw := wmi 690 (by decide +kernel) rfl
theorem wm_691 : Cond.methodLink "FalseParityLaw" (77 : Nat) ({ cls := "FalseParity", name := "show", desc := "()I" } : MethodName) ∈ gw := wmi 691 (by decide +kernel) rfl
theorem wm_692 : Cond.instanceMethod ({ cls := "FalseParity", name := "show", desc := "()I" } : MethodName) ∈ gw := wmi 692 (by decide +kernel) rfl
theorem wm_693 : Cond.selects "FalseParity" ({ cls := "FalseParity", name := "show", desc := "()I" } : MethodName) ({ cls := "FalseParity", name := "show", desc := "()I" } : MethodName) ∈ gw := wmi 693 (by decide +kernel) rfl
theorem wm_694 : Cond.code ({ cls := "FalseParity", name := "show", desc := "()I" } : MethodName) prog_1_method_17_code (1 : Nat) (Option.some FieldType.int) ∈ gw := wmi 694 (by decide +kernel) rfl
theorem wm_695 : Cond.methodLink "FalseParity" (237 : Nat) ({ cls := "FalseParity$Marks", name := "bestPerson", desc := "()I" } : MethodName) ∈ gw := wmi 695 (by decide +kernel) rfl
theorem wm_696 : Cond.instanceMethod ({ cls := "FalseParity$Marks", name := "bestPerson", desc := "()I" } : MethodName) ∈ gw := wmi 696 (by decide +kernel) rfl
theorem wm_697 : Cond.selects "FalseParity$Marks" ({ cls := "FalseParity$Marks", name := "bestPerson", desc := "()I" } : MethodName) ({ cls := "FalseParity$Marks", name := "bestPerson", desc := "()I" } : MethodName) ∈ gw := wmi 697 (by decide +kernel) rfl
theorem wm_698 : Cond.code ({ cls := "FalseParity$Marks", name := "bestPerson", desc := "()I" } : MethodName) prog_7_method_7_code (7 : Nat) (Option.some FieldType.int) ∈ gw := wmi 698 (by decide +kernel) rfl
theorem wm_699 : Cond.methodLink "FalseParity$Marks" (34 : Nat) ({ cls := "FalseParity$Marks", name := "howMany", desc := "()I" } : MethodName) ∈ gw := wmi 699 (by decide +kernel) rfl
theorem wm_700 : Cond.methodLink "FalseParity$Marks" (43 : Nat) ({ cls := "FalseParity$Marks", name := "howManyTakenBy", desc := "(I)I" } : MethodName) ∈ gw := wmi 700 (by decide +kernel) rfl
theorem wm_702 : Cond.instanceMethod ({ cls := "FalseParity$Marks", name := "howManyTakenBy", desc := "(I)I" } : MethodName) ∈ gw := wmi 702 (by decide +kernel) rfl
theorem wm_703 : Cond.code ({ cls := "FalseParity$Marks", name := "howManyTakenBy", desc := "(I)I" } : MethodName) prog_7_method_8_code (4 : Nat) (Option.some FieldType.int) ∈ gw := wmi 703 (by decide +kernel) rfl
theorem wm_704 : Cond.methodLink "FalseParity$Marks" (47 : Nat) ({ cls := "java/lang/Math", name := "max", desc := "(II)I" } : MethodName) ∈ gw := wmi 704 (by decide +kernel) rfl
theorem wm_705 : Cond.static ({ cls := "java/lang/Math", name := "max", desc := "(II)I" } : MethodName) ∈ gw := wmi 705 (by decide +kernel) rfl
theorem wm_706 : Cond.code ({ cls := "java/lang/Math", name := "max", desc := "(II)I" } : MethodName) prog_15_method_65_code (2 : Nat) (Option.some FieldType.int) ∈ gw := wmi 706 (by decide +kernel) rfl
theorem wm_707 : Cond.methodLink "FalseParityLaw" (81 : Nat) ({ cls := "FalseParity", name := "hears", desc := "(II)I" } : MethodName) ∈ gw := wmi 707 (by decide +kernel) rfl
theorem wm_708 : Cond.instanceMethod ({ cls := "FalseParity", name := "hears", desc := "(II)I" } : MethodName) ∈ gw := wmi 708 (by decide +kernel) rfl
theorem wm_709 : Cond.selects "FalseParity" ({ cls := "FalseParity", name := "hears", desc := "(II)I" } : MethodName) ({ cls := "FalseParity", name := "hears", desc := "(II)I" } : MethodName) ∈ gw := wmi 709 (by decide +kernel) rfl
theorem wm_710 : Cond.code ({ cls := "FalseParity", name := "hears", desc := "(II)I" } : MethodName) prog_1_method_18_code (3 : Nat) (Option.some FieldType.int) ∈ gw := wmi 710 (by decide +kernel) rfl
theorem wm_711 : Cond.methodLink "FalseParity" (240 : Nat) ({ cls := "FalseParity$Board", name := "add", desc := "(II)I" } : MethodName) ∈ gw := wmi 711 (by decide +kernel) rfl
theorem wm_712 : Cond.instanceMethod ({ cls := "FalseParity$Board", name := "add", desc := "(II)I" } : MethodName) ∈ gw := wmi 712 (by decide +kernel) rfl
theorem wm_713 : Cond.selects "FalseParity$Board" ({ cls := "FalseParity$Board", name := "add", desc := "(II)I" } : MethodName) ({ cls := "FalseParity$Board", name := "add", desc := "(II)I" } : MethodName) ∈ gw := wmi 713 (by decide +kernel) rfl
theorem wm_714 : Cond.code ({ cls := "FalseParity$Board", name := "add", desc := "(II)I" } : MethodName) prog_2_method_3_code (3 : Nat) (Option.some FieldType.int) ∈ gw := wmi 714 (by decide +kernel) rfl
theorem wm_715 : Cond.methodLink "FalseParityLaw" (85 : Nat) ({ cls := "FalseParity", name := "forget", desc := "()I" } : MethodName) ∈ gw := wmi 715 (by decide +kernel) rfl
theorem wm_716 : Cond.instanceMethod ({ cls := "FalseParity", name := "forget", desc := "()I" } : MethodName) ∈ gw := wmi 716 (by decide +kernel) rfl
theorem wm_717 : Cond.selects "FalseParity" ({ cls := "FalseParity", name := "forget", desc := "()I" } : MethodName) ({ cls := "FalseParity", name := "forget", desc := "()I" } : MethodName) ∈ gw := wmi 717 (by decide +kernel) rfl
theorem wm_718 : Cond.code ({ cls := "FalseParity", name := "forget", desc := "()I" } : MethodName) prog_1_method_19_code (2 : Nat) (Option.some FieldType.int) ∈ gw := wmi 718 (by decide +kernel) rfl
theorem wm_719 : Cond.methodLink "FalseParityLaw" (89 : Nat) ({ cls := "FalseParity", name := "years", desc := "()I" } : MethodName) ∈ gw := wmi 719 (by decide +kernel) rfl
theorem wm_720 : Cond.instanceMethod ({ cls := "FalseParity", name := "years", desc := "()I" } : MethodName) ∈ gw := wmi 720 (by decide +kernel) rfl
theorem wm_721 : Cond.selects "FalseParity" ({ cls := "FalseParity", name := "years", desc := "()I" } : MethodName) ({ cls := "FalseParity", name := "years", desc := "()I" } : MethodName) ∈ gw := wmi 721 (by decide +kernel) rfl
theorem wm_722 : Cond.code ({ cls := "FalseParity", name := "years", desc := "()I" } : MethodName) prog_1_method_20_code (1 : Nat) (Option.some FieldType.int) ∈ gw := wmi 722 (by decide +kernel) rfl
theorem wm_723 : Cond.methodLink "FalseParity" (247 : Nat) ({ cls := "FalseParity$Board", name := "possibleYears", desc := "()I" } : MethodName) ∈ gw := wmi 723 (by decide +kernel) rfl
theorem wm_724 : Cond.instanceMethod ({ cls := "FalseParity$Board", name := "possibleYears", desc := "()I" } : MethodName) ∈ gw := wmi 724 (by decide +kernel) rfl
theorem wm_725 : Cond.selects "FalseParity$Board" ({ cls := "FalseParity$Board", name := "possibleYears", desc := "()I" } : MethodName) ({ cls := "FalseParity$Board", name := "possibleYears", desc := "()I" } : MethodName) ∈ gw := wmi 725 (by decide +kernel) rfl
theorem wm_726 : Cond.code ({ cls := "FalseParity$Board", name := "possibleYears", desc := "()I" } : MethodName) prog_2_method_4_code (3 : Nat) (Option.some FieldType.int) ∈ gw := wmi 726 (by decide +kernel) rfl
theorem wm_727 : Cond.methodLink "FalseParity$Board" (30 : Nat) ({ cls := "FalseParity$Board", name := "fits", desc := "(I)Z" } : MethodName) ∈ gw := wmi 727 (by decide +kernel) rfl
theorem wm_729 : Cond.instanceMethod ({ cls := "FalseParity$Board", name := "fits", desc := "(I)Z" } : MethodName) ∈ gw := wmi 729 (by decide +kernel) rfl
theorem wm_730 : Cond.code ({ cls := "FalseParity$Board", name := "fits", desc := "(I)Z" } : MethodName) prog_2_method_5_code (3 : Nat) (Option.some FieldType.boolean) ∈ gw := wmi 730 (by decide +kernel) rfl
theorem wm_731 : Cond.methodLink "FalseParityLaw" (93 : Nat) ({ cls := "FalseParity", name := "letIn", desc := "(I)I" } : MethodName) ∈ gw := wmi 731 (by decide +kernel) rfl
theorem wm_732 : Cond.instanceMethod ({ cls := "FalseParity", name := "letIn", desc := "(I)I" } : MethodName) ∈ gw := wmi 732 (by decide +kernel) rfl
theorem wm_733 : Cond.selects "FalseParity" ({ cls := "FalseParity", name := "letIn", desc := "(I)I" } : MethodName) ({ cls := "FalseParity", name := "letIn", desc := "(I)I" } : MethodName) ∈ gw := wmi 733 (by decide +kernel) rfl
theorem wm_734 : Cond.code ({ cls := "FalseParity", name := "letIn", desc := "(I)I" } : MethodName) prog_1_method_21_code (3 : Nat) (Option.some FieldType.int) ∈ gw := wmi 734 (by decide +kernel) rfl
theorem wm_735 : Cond.methodLink "FalseParity" (250 : Nat) ({ cls := "FalseParity$Board", name := "bestSet", desc := "()I" } : MethodName) ∈ gw := wmi 735 (by decide +kernel) rfl
theorem wm_736 : Cond.instanceMethod ({ cls := "FalseParity$Board", name := "bestSet", desc := "()I" } : MethodName) ∈ gw := wmi 736 (by decide +kernel) rfl
theorem wm_737 : Cond.selects "FalseParity$Board" ({ cls := "FalseParity$Board", name := "bestSet", desc := "()I" } : MethodName) ({ cls := "FalseParity$Board", name := "bestSet", desc := "()I" } : MethodName) ∈ gw := wmi 737 (by decide +kernel) rfl
theorem wm_738 : Cond.code ({ cls := "FalseParity$Board", name := "bestSet", desc := "()I" } : MethodName) prog_2_method_9_code (5 : Nat) (Option.some FieldType.int) ∈ gw := wmi 738 (by decide +kernel) rfl
theorem wm_739 : Cond.methodLink "FalseParity$Board" (59 : Nat) ({ cls := "FalseParity$Now", name := "parity", desc := "()I" } : MethodName) ∈ gw := wmi 739 (by decide +kernel) rfl
theorem wm_740 : Cond.methodLink "FalseParity$Board" (65 : Nat) ({ cls := "FalseParity$Board", name := "worthOfAll", desc := "()I" } : MethodName) ∈ gw := wmi 740 (by decide +kernel) rfl
theorem wm_741 : Cond.methodLink "FalseParity$Board" (68 : Nat) ({ cls := "FalseParity$Board", name := "isBetter", desc := "(II)Z" } : MethodName) ∈ gw := wmi 741 (by decide +kernel) rfl
theorem wm_743 : Cond.instanceMethod ({ cls := "FalseParity$Board", name := "isBetter", desc := "(II)Z" } : MethodName) ∈ gw := wmi 743 (by decide +kernel) rfl
theorem wm_744 : Cond.code ({ cls := "FalseParity$Board", name := "isBetter", desc := "(II)Z" } : MethodName) prog_2_method_10_code (4 : Nat) (Option.some FieldType.boolean) ∈ gw := wmi 744 (by decide +kernel) rfl
theorem wm_745 : Cond.methodLink "FalseParity$Board" (71 : Nat) ({ cls := "java/lang/Integer", name := "bitCount", desc := "(I)I" } : MethodName) ∈ gw := wmi 745 (by decide +kernel) rfl
theorem wm_746 : Cond.methodLink "FalseParity" (253 : Nat) ({ cls := "FalseParity$Board", name := "worthOf", desc := "(I)I" } : MethodName) ∈ gw := wmi 746 (by decide +kernel) rfl
theorem wm_747 : Cond.methodLink "FalseParityLaw" (97 : Nat) ({ cls := "FalseParity", name := "rate", desc := "(II)I" } : MethodName) ∈ gw := wmi 747 (by decide +kernel) rfl
theorem wm_748 : Cond.instanceMethod ({ cls := "FalseParity", name := "rate", desc := "(II)I" } : MethodName) ∈ gw := wmi 748 (by decide +kernel) rfl
theorem wm_749 : Cond.selects "FalseParity" ({ cls := "FalseParity", name := "rate", desc := "(II)I" } : MethodName) ({ cls := "FalseParity", name := "rate", desc := "(II)I" } : MethodName) ∈ gw := wmi 749 (by decide +kernel) rfl
theorem wm_750 : Cond.code ({ cls := "FalseParity", name := "rate", desc := "(II)I" } : MethodName) prog_1_method_22_code (3 : Nat) (Option.some FieldType.int) ∈ gw := wmi 750 (by decide +kernel) rfl
theorem wm_751 : Cond.methodLink "FalseParity" (256 : Nat) ({ cls := "FalseParity$Kinds", name := "rateAs", desc := "(II)I" } : MethodName) ∈ gw := wmi 751 (by decide +kernel) rfl
theorem wm_752 : Cond.instanceMethod ({ cls := "FalseParity$Kinds", name := "rateAs", desc := "(II)I" } : MethodName) ∈ gw := wmi 752 (by decide +kernel) rfl
theorem wm_753 : Cond.selects "FalseParity$Kinds" ({ cls := "FalseParity$Kinds", name := "rateAs", desc := "(II)I" } : MethodName) ({ cls := "FalseParity$Kinds", name := "rateAs", desc := "(II)I" } : MethodName) ∈ gw := wmi 753 (by decide +kernel) rfl
theorem wm_754 : Cond.code ({ cls := "FalseParity$Kinds", name := "rateAs", desc := "(II)I" } : MethodName) prog_6_method_2_code (3 : Nat) (Option.some FieldType.int) ∈ gw := wmi 754 (by decide +kernel) rfl
theorem wm_755 : Cond.methodLink "FalseParity$Kinds" (19 : Nat) ({ cls := "FalseParity$Kinds", name := "asNote", desc := "(I)I" } : MethodName) ∈ gw := wmi 755 (by decide +kernel) rfl
theorem wm_757 : Cond.instanceMethod ({ cls := "FalseParity$Kinds", name := "asNote", desc := "(I)I" } : MethodName) ∈ gw := wmi 757 (by decide +kernel) rfl
theorem wm_758 : Cond.code ({ cls := "FalseParity$Kinds", name := "asNote", desc := "(I)I" } : MethodName) prog_6_method_3_code (2 : Nat) (Option.some FieldType.int) ∈ gw := wmi 758 (by decide +kernel) rfl
theorem wm_759 : Cond.methodLink "FalseParity$Kinds" (23 : Nat) ({ cls := "FalseParity$Kinds", name := "asTwenty", desc := "(I)I" } : MethodName) ∈ gw := wmi 759 (by decide +kernel) rfl
theorem wm_761 : Cond.instanceMethod ({ cls := "FalseParity$Kinds", name := "asTwenty", desc := "(I)I" } : MethodName) ∈ gw := wmi 761 (by decide +kernel) rfl
theorem wm_762 : Cond.code ({ cls := "FalseParity$Kinds", name := "asTwenty", desc := "(I)I" } : MethodName) prog_6_method_4_code (2 : Nat) (Option.some FieldType.int) ∈ gw := wmi 762 (by decide +kernel) rfl
theorem wm_763 : Cond.constantLong "FalseParity$Kinds" (49 : Nat) (10 : Int64) ∈ gw := wmi 763 (by decide +kernel) rfl
theorem wm_764 : Cond.methodLink "FalseParity$Kinds" (51 : Nat) ({ cls := "FalseParity$Now", name := "uses", desc := "(I)I" } : MethodName) ∈ gw := wmi 764 (by decide +kernel) rfl
theorem wm_765 : Cond.methodLink "FalseParity$Kinds" (26 : Nat) ({ cls := "FalseParity$Kinds", name := "asQueen", desc := "(I)I" } : MethodName) ∈ gw := wmi 765 (by decide +kernel) rfl
theorem wm_767 : Cond.instanceMethod ({ cls := "FalseParity$Kinds", name := "asQueen", desc := "(I)I" } : MethodName) ∈ gw := wmi 767 (by decide +kernel) rfl
theorem wm_768 : Cond.code ({ cls := "FalseParity$Kinds", name := "asQueen", desc := "(I)I" } : MethodName) prog_6_method_5_code (2 : Nat) (Option.some FieldType.int) ∈ gw := wmi 768 (by decide +kernel) rfl
theorem wm_769 : Cond.constantLong "FalseParity$Kinds" (56 : Nat) (100 : Int64) ∈ gw := wmi 769 (by decide +kernel) rfl
theorem wm_770 : Cond.methodLink "FalseParity$Kinds" (61 : Nat) ({ cls := "java/lang/Integer", name := "bitCount", desc := "(I)I" } : MethodName) ∈ gw := wmi 770 (by decide +kernel) rfl
theorem wm_771 : Cond.methodLink "FalseParity$Kinds" (29 : Nat) ({ cls := "FalseParity$Kinds", name := "asAccent", desc := "(I)I" } : MethodName) ∈ gw := wmi 771 (by decide +kernel) rfl
theorem wm_773 : Cond.instanceMethod ({ cls := "FalseParity$Kinds", name := "asAccent", desc := "(I)I" } : MethodName) ∈ gw := wmi 773 (by decide +kernel) rfl
theorem wm_774 : Cond.code ({ cls := "FalseParity$Kinds", name := "asAccent", desc := "(I)I" } : MethodName) prog_6_method_6_code (2 : Nat) (Option.some FieldType.int) ∈ gw := wmi 774 (by decide +kernel) rfl
theorem wm_775 : Cond.constantLong "FalseParity$Kinds" (66 : Nat) (1000 : Int64) ∈ gw := wmi 775 (by decide +kernel) rfl
theorem wm_776 : Cond.methodLink "FalseParity$Kinds" (32 : Nat) ({ cls := "FalseParity$Kinds", name := "asNose", desc := "(I)I" } : MethodName) ∈ gw := wmi 776 (by decide +kernel) rfl
theorem wm_778 : Cond.instanceMethod ({ cls := "FalseParity$Kinds", name := "asNose", desc := "(I)I" } : MethodName) ∈ gw := wmi 778 (by decide +kernel) rfl
theorem wm_779 : Cond.code ({ cls := "FalseParity$Kinds", name := "asNose", desc := "(I)I" } : MethodName) prog_6_method_7_code (2 : Nat) (Option.some FieldType.int) ∈ gw := wmi 779 (by decide +kernel) rfl
theorem wm_780 : Cond.constantLong "FalseParity$Kinds" (68 : Nat) (10000 : Int64) ∈ gw := wmi 780 (by decide +kernel) rfl
theorem wm_781 : Cond.methodLink "FalseParity$Kinds" (35 : Nat) ({ cls := "FalseParity$Kinds", name := "asPaper", desc := "(I)I" } : MethodName) ∈ gw := wmi 781 (by decide +kernel) rfl
theorem wm_783 : Cond.instanceMethod ({ cls := "FalseParity$Kinds", name := "asPaper", desc := "(I)I" } : MethodName) ∈ gw := wmi 783 (by decide +kernel) rfl
theorem wm_784 : Cond.code ({ cls := "FalseParity$Kinds", name := "asPaper", desc := "(I)I" } : MethodName) prog_6_method_8_code (2 : Nat) (Option.some FieldType.int) ∈ gw := wmi 784 (by decide +kernel) rfl
theorem wm_785 : Cond.constantLong "FalseParity$Kinds" (70 : Nat) (100000 : Int64) ∈ gw := wmi 785 (by decide +kernel) rfl
theorem wm_786 : Cond.methodLink "FalseParity$Kinds" (72 : Nat) ({ cls := "FalseParity$Now", name := "refused", desc := "()I" } : MethodName) ∈ gw := wmi 786 (by decide +kernel) rfl
theorem wm_787 : Cond.constant "FalseParity$Kinds" (38 : Nat) (-1000000 : Int32) ∈ gw := wmi 787 (by decide +kernel) rfl
theorem wm_788 : Cond.constant "FalseParity" (259 : Nat) (-1000000 : Int32) ∈ gw := wmi 788 (by decide +kernel) rfl
theorem wm_789 : Cond.methodLink "FalseParityLaw" (101 : Nat) ({ cls := "FalseParity", name := "keep", desc := "(I)I" } : MethodName) ∈ gw := wmi 789 (by decide +kernel) rfl
theorem wm_790 : Cond.instanceMethod ({ cls := "FalseParity", name := "keep", desc := "(I)I" } : MethodName) ∈ gw := wmi 790 (by decide +kernel) rfl
theorem wm_791 : Cond.selects "FalseParity" ({ cls := "FalseParity", name := "keep", desc := "(I)I" } : MethodName) ({ cls := "FalseParity", name := "keep", desc := "(I)I" } : MethodName) ∈ gw := wmi 791 (by decide +kernel) rfl
theorem wm_792 : Cond.code ({ cls := "FalseParity", name := "keep", desc := "(I)I" } : MethodName) prog_1_method_23_code (2 : Nat) (Option.some FieldType.int) ∈ gw := wmi 792 (by decide +kernel) rfl
theorem wm_793 : Cond.methodLink "FalseParity" (260 : Nat) ({ cls := "FalseParity", name := "isImage", desc := "(I)Z" } : MethodName) ∈ gw := wmi 793 (by decide +kernel) rfl
theorem wm_794 : Cond.static ({ cls := "FalseParity", name := "isImage", desc := "(I)Z" } : MethodName) ∈ gw := wmi 794 (by decide +kernel) rfl
theorem wm_795 : Cond.code ({ cls := "FalseParity", name := "isImage", desc := "(I)Z" } : MethodName) prog_1_method_29_code (1 : Nat) (Option.some FieldType.boolean) ∈ gw := wmi 795 (by decide +kernel) rfl
theorem wm_796 : Cond.methodLink "FalseParity" (263 : Nat) ({ cls := "FalseParity$Images", name := "store", desc := "(ILFalseParity$Now;)V" } : MethodName) ∈ gw := wmi 796 (by decide +kernel) rfl
theorem wm_797 : Cond.instanceMethod ({ cls := "FalseParity$Images", name := "store", desc := "(ILFalseParity$Now;)V" } : MethodName) ∈ gw := wmi 797 (by decide +kernel) rfl
theorem wm_798 : Cond.selects "FalseParity$Images" ({ cls := "FalseParity$Images", name := "store", desc := "(ILFalseParity$Now;)V" } : MethodName) ({ cls := "FalseParity$Images", name := "store", desc := "(ILFalseParity$Now;)V" } : MethodName) ∈ gw := wmi 798 (by decide +kernel) rfl
theorem wm_799 : Cond.code ({ cls := "FalseParity$Images", name := "store", desc := "(ILFalseParity$Now;)V" } : MethodName) prog_5_method_4_code (3 : Nat) (Option.none : Option FieldType) ∈ gw := wmi 799 (by decide +kernel) rfl
theorem wm_800 : Cond.methodLink "FalseParity$Images" (25 : Nat) ({ cls := "FalseParity$Now", name := "copyTo", desc := "([II)V" } : MethodName) ∈ gw := wmi 800 (by decide +kernel) rfl
theorem wm_801 : Cond.methodLink "FalseParityLaw" (105 : Nat) ({ cls := "FalseParity", name := "back", desc := "(I)I" } : MethodName) ∈ gw := wmi 801 (by decide +kernel) rfl
theorem wm_802 : Cond.instanceMethod ({ cls := "FalseParity", name := "back", desc := "(I)I" } : MethodName) ∈ gw := wmi 802 (by decide +kernel) rfl
theorem wm_803 : Cond.selects "FalseParity" ({ cls := "FalseParity", name := "back", desc := "(I)I" } : MethodName) ({ cls := "FalseParity", name := "back", desc := "(I)I" } : MethodName) ∈ gw := wmi 803 (by decide +kernel) rfl
theorem wm_804 : Cond.code ({ cls := "FalseParity", name := "back", desc := "(I)I" } : MethodName) prog_1_method_24_code (2 : Nat) (Option.some FieldType.int) ∈ gw := wmi 804 (by decide +kernel) rfl
theorem wm_805 : Cond.methodLink "FalseParity" (267 : Nat) ({ cls := "FalseParity$Images", name := "has", desc := "(I)Z" } : MethodName) ∈ gw := wmi 805 (by decide +kernel) rfl
theorem wm_806 : Cond.instanceMethod ({ cls := "FalseParity$Images", name := "has", desc := "(I)Z" } : MethodName) ∈ gw := wmi 806 (by decide +kernel) rfl
theorem wm_807 : Cond.selects "FalseParity$Images" ({ cls := "FalseParity$Images", name := "has", desc := "(I)Z" } : MethodName) ({ cls := "FalseParity$Images", name := "has", desc := "(I)Z" } : MethodName) ∈ gw := wmi 807 (by decide +kernel) rfl
theorem wm_808 : Cond.code ({ cls := "FalseParity$Images", name := "has", desc := "(I)Z" } : MethodName) prog_5_method_3_code (2 : Nat) (Option.some FieldType.boolean) ∈ gw := wmi 808 (by decide +kernel) rfl
theorem wn_809 : Cond.methodLinkNest "FalseParity$Images" (21 : Nat) ({ cls := "FalseParity", name := "hasBit", desc := "(II)Z" } : MethodName) "FalseParity" ∈ nwl := wni 809 (by decide +kernel) rfl
theorem wm_810 : Cond.methodLink "FalseParity" (270 : Nat) ({ cls := "FalseParity$Images", name := "restore", desc := "(ILFalseParity$Now;)V" } : MethodName) ∈ gw := wmi 810 (by decide +kernel) rfl
theorem wm_811 : Cond.instanceMethod ({ cls := "FalseParity$Images", name := "restore", desc := "(ILFalseParity$Now;)V" } : MethodName) ∈ gw := wmi 811 (by decide +kernel) rfl
theorem wm_812 : Cond.selects "FalseParity$Images" ({ cls := "FalseParity$Images", name := "restore", desc := "(ILFalseParity$Now;)V" } : MethodName) ({ cls := "FalseParity$Images", name := "restore", desc := "(ILFalseParity$Now;)V" } : MethodName) ∈ gw := wmi 812 (by decide +kernel) rfl
theorem wm_813 : Cond.code ({ cls := "FalseParity$Images", name := "restore", desc := "(ILFalseParity$Now;)V" } : MethodName) prog_5_method_5_code (3 : Nat) (Option.none : Option FieldType) ∈ gw := wmi 813 (by decide +kernel) rfl
theorem wm_814 : Cond.methodLink "FalseParity$Images" (29 : Nat) ({ cls := "FalseParity$Now", name := "copyFrom", desc := "([II)V" } : MethodName) ∈ gw := wmi 814 (by decide +kernel) rfl
theorem wm_815 : Cond.methodLink "FalseParityLaw" (109 : Nat) ({ cls := "FalseParity", name := "count", desc := "(I)I" } : MethodName) ∈ gw := wmi 815 (by decide +kernel) rfl
theorem wm_816 : Cond.instanceMethod ({ cls := "FalseParity", name := "count", desc := "(I)I" } : MethodName) ∈ gw := wmi 816 (by decide +kernel) rfl
theorem wm_817 : Cond.selects "FalseParity" ({ cls := "FalseParity", name := "count", desc := "(I)I" } : MethodName) ({ cls := "FalseParity", name := "count", desc := "(I)I" } : MethodName) ∈ gw := wmi 817 (by decide +kernel) rfl
theorem wm_818 : Cond.code ({ cls := "FalseParity", name := "count", desc := "(I)I" } : MethodName) prog_1_method_25_code (2 : Nat) (Option.some FieldType.int) ∈ gw := wmi 818 (by decide +kernel) rfl
theorem wm_819 : Cond.methodLink "FalseParityLaw" (113 : Nat) ({ cls := "FalseParity", name := "trace", desc := "()J" } : MethodName) ∈ gw := wmi 819 (by decide +kernel) rfl
theorem wm_820 : Cond.instanceMethod ({ cls := "FalseParity", name := "trace", desc := "()J" } : MethodName) ∈ gw := wmi 820 (by decide +kernel) rfl
theorem wm_821 : Cond.selects "FalseParity" ({ cls := "FalseParity", name := "trace", desc := "()J" } : MethodName) ({ cls := "FalseParity", name := "trace", desc := "()J" } : MethodName) ∈ gw := wmi 821 (by decide +kernel) rfl
theorem wm_822 : Cond.code ({ cls := "FalseParity", name := "trace", desc := "()J" } : MethodName) prog_1_method_26_code (1 : Nat) (Option.some FieldType.long) ∈ gw := wmi 822 (by decide +kernel) rfl
theorem wm_823 : Cond.classLink "FalseParityLaw" (10 : Nat) "FalseParityModel" ∈ gw := wmi 823 (by decide +kernel) rfl
theorem wm_824 : Cond.instantiable "FalseParityModel" (28 : Nat) ∈ gw := wmi 824 (by decide +kernel) rfl
theorem wm_825 : Cond.methodLink "FalseParityLaw" (12 : Nat) ({ cls := "FalseParityModel", name := "<init>", desc := "()V" } : MethodName) ∈ gw := wmi 825 (by decide +kernel) rfl
theorem wm_826 : Cond.instanceMethod ({ cls := "FalseParityModel", name := "<init>", desc := "()V" } : MethodName) ∈ gw := wmi 826 (by decide +kernel) rfl
theorem wm_827 : Cond.code ({ cls := "FalseParityModel", name := "<init>", desc := "()V" } : MethodName) prog_13_method_1_code (1 : Nat) (Option.none : Option FieldType) ∈ gw := wmi 827 (by decide +kernel) rfl
theorem wm_828 : Cond.methodLink "FalseParityModel" (1 : Nat) ({ cls := "java/lang/Object", name := "<init>", desc := "()V" } : MethodName) ∈ gw := wmi 828 (by decide +kernel) rfl
theorem wm_829 : Cond.methodLink "FalseParityModel" (59 : Nat) ({ cls := "FalseParityModel", name := "begins", desc := "()V" } : MethodName) ∈ gw := wmi 829 (by decide +kernel) rfl
theorem wm_831 : Cond.instanceMethod ({ cls := "FalseParityModel", name := "begins", desc := "()V" } : MethodName) ∈ gw := wmi 831 (by decide +kernel) rfl
theorem wm_832 : Cond.code ({ cls := "FalseParityModel", name := "begins", desc := "()V" } : MethodName) prog_13_method_12_code (1 : Nat) (Option.none : Option FieldType) ∈ gw := wmi 832 (by decide +kernel) rfl
theorem wm_833 : Cond.methodLink "FalseParityModel" (62 : Nat) ({ cls := "FalseParityModel", name := "settles", desc := "()V" } : MethodName) ∈ gw := wmi 833 (by decide +kernel) rfl
theorem wm_835 : Cond.instanceMethod ({ cls := "FalseParityModel", name := "settles", desc := "()V" } : MethodName) ∈ gw := wmi 835 (by decide +kernel) rfl
theorem wm_836 : Cond.code ({ cls := "FalseParityModel", name := "settles", desc := "()V" } : MethodName) prog_13_method_16_code (2 : Nat) (Option.none : Option FieldType) ∈ gw := wmi 836 (by decide +kernel) rfl
theorem wm_837 : Cond.fieldLink "FalseParityModel" (65 : Nat) "FalseParityModel" "thrown" "I" ∈ gw := wmi 837 (by decide +kernel) rfl
theorem wm_838 : Cond.fieldLink "FalseParityModel" (170 : Nat) "FalseParityModel" "trace" "J" ∈ gw := wmi 838 (by decide +kernel) rfl
theorem wm_839 : Cond.fieldLink "FalseParityModel" (7 : Nat) "FalseParityModel" "text" "[I" ∈ gw := wmi 839 (by decide +kernel) rfl
theorem wm_840 : Cond.fieldLink "FalseParityModel" (73 : Nat) "FalseParityModel" "typed" "I" ∈ gw := wmi 840 (by decide +kernel) rfl
theorem wm_841 : Cond.fieldLink "FalseParityModel" (76 : Nat) "FalseParityModel" "next" "I" ∈ gw := wmi 841 (by decide +kernel) rfl
theorem wm_842 : Cond.fieldLink "FalseParityModel" (86 : Nat) "FalseParityModel" "token" "I" ∈ gw := wmi 842 (by decide +kernel) rfl
theorem wm_843 : Cond.fieldLink "FalseParityModel" (83 : Nat) "FalseParityModel" "place" "I" ∈ gw := wmi 843 (by decide +kernel) rfl
theorem wm_844 : Cond.fieldLink "FalseParityModel" (89 : Nat) "FalseParityModel" "value" "I" ∈ gw := wmi 844 (by decide +kernel) rfl
theorem wm_845 : Cond.fieldLink "FalseParityModel" (92 : Nat) "FalseParityModel" "fault" "I" ∈ gw := wmi 845 (by decide +kernel) rfl
theorem wm_846 : Cond.fieldLink "FalseParityModel" (13 : Nat) "FalseParityModel" "many" "[I" ∈ gw := wmi 846 (by decide +kernel) rfl
theorem wm_847 : Cond.fieldLink "FalseParityModel" (106 : Nat) "FalseParityModel" "told" "I" ∈ gw := wmi 847 (by decide +kernel) rfl
theorem wm_848 : Cond.fieldLink "FalseParityModel" (16 : Nat) "FalseParityModel" "looks" "[I" ∈ gw := wmi 848 (by decide +kernel) rfl
theorem wm_849 : Cond.fieldLink "FalseParityModel" (19 : Nat) "FalseParityModel" "worth" "[I" ∈ gw := wmi 849 (by decide +kernel) rfl
theorem wm_850 : Cond.fieldLink "FalseParityModel" (22 : Nat) "FalseParityModel" "marks" "[I" ∈ gw := wmi 850 (by decide +kernel) rfl
theorem wm_851 : Cond.fieldLink "FalseParityModel" (25 : Nat) "FalseParityModel" "holder" "[I" ∈ gw := wmi 851 (by decide +kernel) rfl
theorem wm_852 : Cond.fieldLink "FalseParityModel" (28 : Nat) "FalseParityModel" "s" "[I" ∈ gw := wmi 852 (by decide +kernel) rfl
theorem wm_853 : Cond.fieldLink "FalseParityModel" (31 : Nat) "FalseParityModel" "kept" "[I" ∈ gw := wmi 853 (by decide +kernel) rfl
theorem wm_854 : Cond.fieldLink "FalseParityModel" (34 : Nat) "FalseParityModel" "isKept" "[Z" ∈ gw := wmi 854 (by decide +kernel) rfl
theorem wm_855 : Cond.fieldLink "FalseParityModel" (38 : Nat) "FalseParityModel" "undos" "[I" ∈ gw := wmi 855 (by decide +kernel) rfl
theorem wm_856 : Cond.fieldLink "FalseParityModel" (126 : Nat) "FalseParityModel" "undoMany" "I" ∈ gw := wmi 856 (by decide +kernel) rfl
theorem wm_857 : Cond.fieldLink "FalseParityModel" (41 : Nat) "FalseParityModel" "sawBy" "[I" ∈ gw := wmi 857 (by decide +kernel) rfl
theorem wm_858 : Cond.fieldLink "FalseParityModel" (44 : Nat) "FalseParityModel" "sawIs" "[I" ∈ gw := wmi 858 (by decide +kernel) rfl
theorem wm_859 : Cond.fieldLink "FalseParityModel" (120 : Nat) "FalseParityModel" "sawMany" "I" ∈ gw := wmi 859 (by decide +kernel) rfl
theorem wm_860 : Cond.fieldLink "FalseParityModel" (47 : Nat) "FalseParityModel" "heardUses" "[I" ∈ gw := wmi 860 (by decide +kernel) rfl
theorem wm_861 : Cond.fieldLink "FalseParityModel" (50 : Nat) "FalseParityModel" "heardIs" "[I" ∈ gw := wmi 861 (by decide +kernel) rfl
theorem wm_862 : Cond.fieldLink "FalseParityModel" (123 : Nat) "FalseParityModel" "heard" "I" ∈ gw := wmi 862 (by decide +kernel) rfl
theorem wm_863 : Cond.fieldLink "FalseParityModel" (53 : Nat) "FalseParityModel" "ways" "[I" ∈ gw := wmi 863 (by decide +kernel) rfl
theorem wm_864 : Cond.fieldLink "FalseParityModel" (56 : Nat) "FalseParityModel" "others" "[I" ∈ gw := wmi 864 (by decide +kernel) rfl
theorem wm_865 : Cond.lays "FalseParityModel" "FalseParityModel" "thrown" "I" ∈ gw := wmi 865 (by decide +kernel) rfl
theorem wm_867 : Cond.lays "FalseParityModel" "FalseParityModel" "trace" "J" ∈ gw := wmi 867 (by decide +kernel) rfl
theorem wm_869 : Cond.laysFinal "FalseParityModel" "FalseParityModel" "text" "[I" ∈ gw := wmi 869 (by decide +kernel) rfl
theorem wm_871 : Cond.lays "FalseParityModel" "FalseParityModel" "typed" "I" ∈ gw := wmi 871 (by decide +kernel) rfl
theorem wm_873 : Cond.lays "FalseParityModel" "FalseParityModel" "next" "I" ∈ gw := wmi 873 (by decide +kernel) rfl
theorem wm_875 : Cond.lays "FalseParityModel" "FalseParityModel" "token" "I" ∈ gw := wmi 875 (by decide +kernel) rfl
theorem wm_877 : Cond.lays "FalseParityModel" "FalseParityModel" "place" "I" ∈ gw := wmi 877 (by decide +kernel) rfl
theorem wm_879 : Cond.lays "FalseParityModel" "FalseParityModel" "value" "I" ∈ gw := wmi 879 (by decide +kernel) rfl
theorem wm_881 : Cond.lays "FalseParityModel" "FalseParityModel" "fault" "I" ∈ gw := wmi 881 (by decide +kernel) rfl
theorem wm_883 : Cond.laysFinal "FalseParityModel" "FalseParityModel" "many" "[I" ∈ gw := wmi 883 (by decide +kernel) rfl
theorem wm_885 : Cond.lays "FalseParityModel" "FalseParityModel" "told" "I" ∈ gw := wmi 885 (by decide +kernel) rfl
theorem wm_887 : Cond.laysFinal "FalseParityModel" "FalseParityModel" "looks" "[I" ∈ gw := wmi 887 (by decide +kernel) rfl
theorem wm_889 : Cond.laysFinal "FalseParityModel" "FalseParityModel" "worth" "[I" ∈ gw := wmi 889 (by decide +kernel) rfl
theorem wm_891 : Cond.laysFinal "FalseParityModel" "FalseParityModel" "marks" "[I" ∈ gw := wmi 891 (by decide +kernel) rfl
theorem wm_893 : Cond.laysFinal "FalseParityModel" "FalseParityModel" "holder" "[I" ∈ gw := wmi 893 (by decide +kernel) rfl
theorem wm_895 : Cond.laysFinal "FalseParityModel" "FalseParityModel" "s" "[I" ∈ gw := wmi 895 (by decide +kernel) rfl
theorem wm_897 : Cond.laysFinal "FalseParityModel" "FalseParityModel" "kept" "[I" ∈ gw := wmi 897 (by decide +kernel) rfl
theorem wm_899 : Cond.laysFinal "FalseParityModel" "FalseParityModel" "isKept" "[Z" ∈ gw := wmi 899 (by decide +kernel) rfl
theorem wm_901 : Cond.laysFinal "FalseParityModel" "FalseParityModel" "undos" "[I" ∈ gw := wmi 901 (by decide +kernel) rfl
theorem wm_903 : Cond.lays "FalseParityModel" "FalseParityModel" "undoMany" "I" ∈ gw := wmi 903 (by decide +kernel) rfl
theorem wm_905 : Cond.laysFinal "FalseParityModel" "FalseParityModel" "sawBy" "[I" ∈ gw := wmi 905 (by decide +kernel) rfl
theorem wm_907 : Cond.laysFinal "FalseParityModel" "FalseParityModel" "sawIs" "[I" ∈ gw := wmi 907 (by decide +kernel) rfl
theorem wm_909 : Cond.lays "FalseParityModel" "FalseParityModel" "sawMany" "I" ∈ gw := wmi 909 (by decide +kernel) rfl
theorem wm_911 : Cond.laysFinal "FalseParityModel" "FalseParityModel" "heardUses" "[I" ∈ gw := wmi 911 (by decide +kernel) rfl
theorem wm_913 : Cond.laysFinal "FalseParityModel" "FalseParityModel" "heardIs" "[I" ∈ gw := wmi 913 (by decide +kernel) rfl
theorem wm_915 : Cond.lays "FalseParityModel" "FalseParityModel" "heard" "I" ∈ gw := wmi 915 (by decide +kernel) rfl
theorem wm_917 : Cond.laysFinal "FalseParityModel" "FalseParityModel" "ways" "[I" ∈ gw := wmi 917 (by decide +kernel) rfl
theorem wm_919 : Cond.laysFinal "FalseParityModel" "FalseParityModel" "others" "[I" ∈ gw := wmi 919 (by decide +kernel) rfl
theorem wm_922 : Cond.arrayClass FieldType.boolean ∈ gw := wmi 922 (by decide +kernel) rfl
theorem wm_923 : Cond.methodLink "FalseParityLaw" (17 : Nat) ({ cls := "FalseParityModel", name := "type", desc := "(I)I" } : MethodName) ∈ gw := wmi 923 (by decide +kernel) rfl
theorem wm_924 : Cond.instanceMethod ({ cls := "FalseParityModel", name := "type", desc := "(I)I" } : MethodName) ∈ gw := wmi 924 (by decide +kernel) rfl
theorem wm_925 : Cond.selects "FalseParityModel" ({ cls := "FalseParityModel", name := "type", desc := "(I)I" } : MethodName) ({ cls := "FalseParityModel", name := "type", desc := "(I)I" } : MethodName) ∈ gw := wmi 925 (by decide +kernel) rfl
theorem wm_926 : Cond.code ({ cls := "FalseParityModel", name := "type", desc := "(I)I" } : MethodName) prog_13_method_5_code (2 : Nat) (Option.some FieldType.int) ∈ gw := wmi 926 (by decide +kernel) rfl
theorem wm_927 : Cond.methodLink "FalseParityModel" (69 : Nat) ({ cls := "FalseParityModel", name := "in", desc := "(III)Z" } : MethodName) ∈ gw := wmi 927 (by decide +kernel) rfl
theorem wm_928 : Cond.static ({ cls := "FalseParityModel", name := "in", desc := "(III)Z" } : MethodName) ∈ gw := wmi 928 (by decide +kernel) rfl
theorem wm_929 : Cond.code ({ cls := "FalseParityModel", name := "in", desc := "(III)Z" } : MethodName) prog_13_method_3_code (3 : Nat) (Option.some FieldType.boolean) ∈ gw := wmi 929 (by decide +kernel) rfl
theorem wm_930 : Cond.methodLink "FalseParityLaw" (22 : Nat) ({ cls := "FalseParityModel", name := "clear", desc := "()I" } : MethodName) ∈ gw := wmi 930 (by decide +kernel) rfl
theorem wm_931 : Cond.instanceMethod ({ cls := "FalseParityModel", name := "clear", desc := "()I" } : MethodName) ∈ gw := wmi 931 (by decide +kernel) rfl
theorem wm_932 : Cond.selects "FalseParityModel" ({ cls := "FalseParityModel", name := "clear", desc := "()I" } : MethodName) ({ cls := "FalseParityModel", name := "clear", desc := "()I" } : MethodName) ∈ gw := wmi 932 (by decide +kernel) rfl
theorem wm_933 : Cond.code ({ cls := "FalseParityModel", name := "clear", desc := "()I" } : MethodName) prog_13_method_6_code (2 : Nat) (Option.some FieldType.int) ∈ gw := wmi 933 (by decide +kernel) rfl
theorem wm_934 : Cond.methodLink "FalseParityLaw" (26 : Nat) ({ cls := "FalseParityModel", name := "country", desc := "()I" } : MethodName) ∈ gw := wmi 934 (by decide +kernel) rfl
theorem wm_935 : Cond.instanceMethod ({ cls := "FalseParityModel", name := "country", desc := "()I" } : MethodName) ∈ gw := wmi 935 (by decide +kernel) rfl
theorem wm_936 : Cond.selects "FalseParityModel" ({ cls := "FalseParityModel", name := "country", desc := "()I" } : MethodName) ({ cls := "FalseParityModel", name := "country", desc := "()I" } : MethodName) ∈ gw := wmi 936 (by decide +kernel) rfl
theorem wm_937 : Cond.code ({ cls := "FalseParityModel", name := "country", desc := "()I" } : MethodName) prog_13_method_15_code (3 : Nat) (Option.some FieldType.int) ∈ gw := wmi 937 (by decide +kernel) rfl
theorem wm_938 : Cond.methodLink "FalseParityModel" (99 : Nat) ({ cls := "FalseParityModel", name := "advances", desc := "()V" } : MethodName) ∈ gw := wmi 938 (by decide +kernel) rfl
theorem wm_940 : Cond.instanceMethod ({ cls := "FalseParityModel", name := "advances", desc := "()V" } : MethodName) ∈ gw := wmi 940 (by decide +kernel) rfl
theorem wm_941 : Cond.code ({ cls := "FalseParityModel", name := "advances", desc := "()V" } : MethodName) prog_13_method_8_code (2 : Nat) (Option.none : Option FieldType) ∈ gw := wmi 941 (by decide +kernel) rfl
theorem wm_942 : Cond.methodLink "FalseParityModel" (79 : Nat) ({ cls := "FalseParityModel", name := "letterAt", desc := "(I)I" } : MethodName) ∈ gw := wmi 942 (by decide +kernel) rfl
theorem wm_944 : Cond.instanceMethod ({ cls := "FalseParityModel", name := "letterAt", desc := "(I)I" } : MethodName) ∈ gw := wmi 944 (by decide +kernel) rfl
theorem wm_945 : Cond.code ({ cls := "FalseParityModel", name := "letterAt", desc := "(I)I" } : MethodName) prog_13_method_7_code (2 : Nat) (Option.some FieldType.int) ∈ gw := wmi 945 (by decide +kernel) rfl
theorem wm_946 : Cond.methodLink "FalseParityModel" (95 : Nat) ({ cls := "FalseParityModel", name := "isWell", desc := "()Z" } : MethodName) ∈ gw := wmi 946 (by decide +kernel) rfl
theorem wm_948 : Cond.instanceMethod ({ cls := "FalseParityModel", name := "isWell", desc := "()Z" } : MethodName) ∈ gw := wmi 948 (by decide +kernel) rfl
theorem wm_949 : Cond.code ({ cls := "FalseParityModel", name := "isWell", desc := "()Z" } : MethodName) prog_13_method_9_code (1 : Nat) (Option.some FieldType.boolean) ∈ gw := wmi 949 (by decide +kernel) rfl
theorem wm_950 : Cond.methodLink "FalseParityModel" (113 : Nat) ({ cls := "FalseParityModel", name := "mayBegin", desc := "()Z" } : MethodName) ∈ gw := wmi 950 (by decide +kernel) rfl
theorem wm_952 : Cond.instanceMethod ({ cls := "FalseParityModel", name := "mayBegin", desc := "()Z" } : MethodName) ∈ gw := wmi 952 (by decide +kernel) rfl
theorem wm_953 : Cond.code ({ cls := "FalseParityModel", name := "mayBegin", desc := "()Z" } : MethodName) prog_13_method_13_code (1 : Nat) (Option.some FieldType.boolean) ∈ gw := wmi 953 (by decide +kernel) rfl
theorem wm_954 : Cond.methodLink "FalseParityModel" (102 : Nat) ({ cls := "FalseParityModel", name := "takes", desc := "(Z)I" } : MethodName) ∈ gw := wmi 954 (by decide +kernel) rfl
theorem wm_956 : Cond.instanceMethod ({ cls := "FalseParityModel", name := "takes", desc := "(Z)I" } : MethodName) ∈ gw := wmi 956 (by decide +kernel) rfl
theorem wm_957 : Cond.code ({ cls := "FalseParityModel", name := "takes", desc := "(Z)I" } : MethodName) prog_13_method_10_code (3 : Nat) (Option.some FieldType.int) ∈ gw := wmi 957 (by decide +kernel) rfl
theorem wm_958 : Cond.methodLink "FalseParityModel" (116 : Nat) ({ cls := "FalseParityModel", name := "readsItem", desc := "(I)V" } : MethodName) ∈ gw := wmi 958 (by decide +kernel) rfl
theorem wm_960 : Cond.instanceMethod ({ cls := "FalseParityModel", name := "readsItem", desc := "(I)V" } : MethodName) ∈ gw := wmi 960 (by decide +kernel) rfl
theorem wm_961 : Cond.code ({ cls := "FalseParityModel", name := "readsItem", desc := "(I)V" } : MethodName) prog_13_method_14_code (3 : Nat) (Option.none : Option FieldType) ∈ gw := wmi 961 (by decide +kernel) rfl
theorem wm_962 : Cond.methodLink "FalseParityModel" (109 : Nat) ({ cls := "FalseParityModel", name := "number", desc := "(II)I" } : MethodName) ∈ gw := wmi 962 (by decide +kernel) rfl
theorem wm_964 : Cond.instanceMethod ({ cls := "FalseParityModel", name := "number", desc := "(II)I" } : MethodName) ∈ gw := wmi 964 (by decide +kernel) rfl
theorem wm_965 : Cond.code ({ cls := "FalseParityModel", name := "number", desc := "(II)I" } : MethodName) prog_13_method_11_code (3 : Nat) (Option.some FieldType.int) ∈ gw := wmi 965 (by decide +kernel) rfl
theorem wm_966 : Cond.methodLink "FalseParityLaw" (31 : Nat) ({ cls := "FalseParityModel", name := "note", desc := "(II)I" } : MethodName) ∈ gw := wmi 966 (by decide +kernel) rfl
theorem wm_967 : Cond.instanceMethod ({ cls := "FalseParityModel", name := "note", desc := "(II)I" } : MethodName) ∈ gw := wmi 967 (by decide +kernel) rfl
theorem wm_968 : Cond.selects "FalseParityModel" ({ cls := "FalseParityModel", name := "note", desc := "(II)I" } : MethodName) ({ cls := "FalseParityModel", name := "note", desc := "(II)I" } : MethodName) ∈ gw := wmi 968 (by decide +kernel) rfl
theorem wm_969 : Cond.code ({ cls := "FalseParityModel", name := "note", desc := "(II)I" } : MethodName) prog_13_method_22_code (3 : Nat) (Option.some FieldType.int) ∈ gw := wmi 969 (by decide +kernel) rfl
theorem wm_970 : Cond.methodLink "FalseParityModel" (129 : Nat) ({ cls := "FalseParityModel", name := "isNote", desc := "(I)Z" } : MethodName) ∈ gw := wmi 970 (by decide +kernel) rfl
theorem wm_972 : Cond.instanceMethod ({ cls := "FalseParityModel", name := "isNote", desc := "(I)Z" } : MethodName) ∈ gw := wmi 972 (by decide +kernel) rfl
theorem wm_973 : Cond.code ({ cls := "FalseParityModel", name := "isNote", desc := "(I)Z" } : MethodName) prog_13_method_18_code (2 : Nat) (Option.some FieldType.boolean) ∈ gw := wmi 973 (by decide +kernel) rfl
theorem wm_974 : Cond.methodLink "FalseParityModel" (133 : Nat) ({ cls := "FalseParityModel", name := "hasParity", desc := "(I)Z" } : MethodName) ∈ gw := wmi 974 (by decide +kernel) rfl
theorem wm_976 : Cond.instanceMethod ({ cls := "FalseParityModel", name := "hasParity", desc := "(I)Z" } : MethodName) ∈ gw := wmi 976 (by decide +kernel) rfl
theorem wm_977 : Cond.code ({ cls := "FalseParityModel", name := "hasParity", desc := "(I)Z" } : MethodName) prog_13_method_20_code (2 : Nat) (Option.some FieldType.boolean) ∈ gw := wmi 977 (by decide +kernel) rfl
theorem wm_978 : Cond.methodLink "FalseParityModel" (136 : Nat) ({ cls := "FalseParityModel", name := "takers", desc := "(IZ)I" } : MethodName) ∈ gw := wmi 978 (by decide +kernel) rfl
theorem wm_980 : Cond.instanceMethod ({ cls := "FalseParityModel", name := "takers", desc := "(IZ)I" } : MethodName) ∈ gw := wmi 980 (by decide +kernel) rfl
theorem wm_981 : Cond.code ({ cls := "FalseParityModel", name := "takers", desc := "(IZ)I" } : MethodName) prog_13_method_21_code (5 : Nat) (Option.some FieldType.int) ∈ gw := wmi 981 (by decide +kernel) rfl
theorem wm_982 : Cond.methodLink "FalseParityLaw" (35 : Nat) ({ cls := "FalseParityModel", name := "person", desc := "(II)I" } : MethodName) ∈ gw := wmi 982 (by decide +kernel) rfl
theorem wm_983 : Cond.instanceMethod ({ cls := "FalseParityModel", name := "person", desc := "(II)I" } : MethodName) ∈ gw := wmi 983 (by decide +kernel) rfl
theorem wm_984 : Cond.selects "FalseParityModel" ({ cls := "FalseParityModel", name := "person", desc := "(II)I" } : MethodName) ({ cls := "FalseParityModel", name := "person", desc := "(II)I" } : MethodName) ∈ gw := wmi 984 (by decide +kernel) rfl
theorem wm_985 : Cond.code ({ cls := "FalseParityModel", name := "person", desc := "(II)I" } : MethodName) prog_13_method_23_code (5 : Nat) (Option.some FieldType.int) ∈ gw := wmi 985 (by decide +kernel) rfl
theorem wm_986 : Cond.methodLink "FalseParityModel" (140 : Nat) ({ cls := "FalseParityModel", name := "isPerson", desc := "(I)Z" } : MethodName) ∈ gw := wmi 986 (by decide +kernel) rfl
theorem wm_988 : Cond.instanceMethod ({ cls := "FalseParityModel", name := "isPerson", desc := "(I)Z" } : MethodName) ∈ gw := wmi 988 (by decide +kernel) rfl
theorem wm_989 : Cond.code ({ cls := "FalseParityModel", name := "isPerson", desc := "(I)Z" } : MethodName) prog_13_method_17_code (2 : Nat) (Option.some FieldType.boolean) ∈ gw := wmi 989 (by decide +kernel) rfl
theorem wm_990 : Cond.methodLink "FalseParityModel" (143 : Nat) ({ cls := "FalseParityModel", name := "isAway", desc := "(I)Z" } : MethodName) ∈ gw := wmi 990 (by decide +kernel) rfl
theorem wm_992 : Cond.instanceMethod ({ cls := "FalseParityModel", name := "isAway", desc := "(I)Z" } : MethodName) ∈ gw := wmi 992 (by decide +kernel) rfl
theorem wm_993 : Cond.code ({ cls := "FalseParityModel", name := "isAway", desc := "(I)Z" } : MethodName) prog_13_method_19_code (2 : Nat) (Option.some FieldType.boolean) ∈ gw := wmi 993 (by decide +kernel) rfl
theorem wm_994 : Cond.methodLink "FalseParityLaw" (39 : Nat) ({ cls := "FalseParityModel", name := "now", desc := "(I)I" } : MethodName) ∈ gw := wmi 994 (by decide +kernel) rfl
theorem wm_995 : Cond.instanceMethod ({ cls := "FalseParityModel", name := "now", desc := "(I)I" } : MethodName) ∈ gw := wmi 995 (by decide +kernel) rfl
theorem wm_996 : Cond.selects "FalseParityModel" ({ cls := "FalseParityModel", name := "now", desc := "(I)I" } : MethodName) ({ cls := "FalseParityModel", name := "now", desc := "(I)I" } : MethodName) ∈ gw := wmi 996 (by decide +kernel) rfl
theorem wm_997 : Cond.code ({ cls := "FalseParityModel", name := "now", desc := "(I)I" } : MethodName) prog_13_method_25_code (2 : Nat) (Option.some FieldType.int) ∈ gw := wmi 997 (by decide +kernel) rfl
theorem wm_998 : Cond.methodLink "FalseParityModel" (146 : Nat) ({ cls := "FalseParityModel", name := "worthOfAll", desc := "(Z)I" } : MethodName) ∈ gw := wmi 998 (by decide +kernel) rfl
theorem wm_1000 : Cond.instanceMethod ({ cls := "FalseParityModel", name := "worthOfAll", desc := "(Z)I" } : MethodName) ∈ gw := wmi 1000 (by decide +kernel) rfl
theorem wm_1001 : Cond.code ({ cls := "FalseParityModel", name := "worthOfAll", desc := "(Z)I" } : MethodName) prog_13_method_24_code (4 : Nat) (Option.some FieldType.int) ∈ gw := wmi 1001 (by decide +kernel) rfl
theorem wm_1002 : Cond.methodLink "FalseParityLaw" (43 : Nat) ({ cls := "FalseParityModel", name := "passes", desc := "(II)I" } : MethodName) ∈ gw := wmi 1002 (by decide +kernel) rfl
theorem wm_1003 : Cond.instanceMethod ({ cls := "FalseParityModel", name := "passes", desc := "(II)I" } : MethodName) ∈ gw := wmi 1003 (by decide +kernel) rfl
theorem wm_1004 : Cond.selects "FalseParityModel" ({ cls := "FalseParityModel", name := "passes", desc := "(II)I" } : MethodName) ({ cls := "FalseParityModel", name := "passes", desc := "(II)I" } : MethodName) ∈ gw := wmi 1004 (by decide +kernel) rfl
theorem wm_1005 : Cond.code ({ cls := "FalseParityModel", name := "passes", desc := "(II)I" } : MethodName) prog_13_method_27_code (3 : Nat) (Option.some FieldType.int) ∈ gw := wmi 1005 (by decide +kernel) rfl
theorem wm_1006 : Cond.methodLink "FalseParityModel" (149 : Nat) ({ cls := "FalseParityModel", name := "notes", desc := "()V" } : MethodName) ∈ gw := wmi 1006 (by decide +kernel) rfl
theorem wm_1008 : Cond.instanceMethod ({ cls := "FalseParityModel", name := "notes", desc := "()V" } : MethodName) ∈ gw := wmi 1008 (by decide +kernel) rfl
theorem wm_1009 : Cond.code ({ cls := "FalseParityModel", name := "notes", desc := "()V" } : MethodName) prog_13_method_26_code (2 : Nat) (Option.none : Option FieldType) ∈ gw := wmi 1009 (by decide +kernel) rfl
theorem wm_1010 : Cond.methodLink "FalseParityLaw" (47 : Nat) ({ cls := "FalseParityModel", name := "teaches", desc := "(II)I" } : MethodName) ∈ gw := wmi 1010 (by decide +kernel) rfl
theorem wm_1011 : Cond.instanceMethod ({ cls := "FalseParityModel", name := "teaches", desc := "(II)I" } : MethodName) ∈ gw := wmi 1011 (by decide +kernel) rfl
theorem wm_1012 : Cond.selects "FalseParityModel" ({ cls := "FalseParityModel", name := "teaches", desc := "(II)I" } : MethodName) ({ cls := "FalseParityModel", name := "teaches", desc := "(II)I" } : MethodName) ∈ gw := wmi 1012 (by decide +kernel) rfl
theorem wm_1013 : Cond.code ({ cls := "FalseParityModel", name := "teaches", desc := "(II)I" } : MethodName) prog_13_method_28_code (4 : Nat) (Option.some FieldType.int) ∈ gw := wmi 1013 (by decide +kernel) rfl
theorem wm_1014 : Cond.methodLink "FalseParityLaw" (51 : Nat) ({ cls := "FalseParityModel", name := "sends", desc := "(II)I" } : MethodName) ∈ gw := wmi 1014 (by decide +kernel) rfl
theorem wm_1015 : Cond.instanceMethod ({ cls := "FalseParityModel", name := "sends", desc := "(II)I" } : MethodName) ∈ gw := wmi 1015 (by decide +kernel) rfl
theorem wm_1016 : Cond.selects "FalseParityModel" ({ cls := "FalseParityModel", name := "sends", desc := "(II)I" } : MethodName) ({ cls := "FalseParityModel", name := "sends", desc := "(II)I" } : MethodName) ∈ gw := wmi 1016 (by decide +kernel) rfl
theorem wm_1017 : Cond.code ({ cls := "FalseParityModel", name := "sends", desc := "(II)I" } : MethodName) prog_13_method_29_code (3 : Nat) (Option.some FieldType.int) ∈ gw := wmi 1017 (by decide +kernel) rfl
theorem wm_1018 : Cond.methodLink "FalseParityModel" (152 : Nat) ({ cls := "FalseParityModel", name := "ones", desc := "(I)I" } : MethodName) ∈ gw := wmi 1018 (by decide +kernel) rfl
theorem wm_1019 : Cond.static ({ cls := "FalseParityModel", name := "ones", desc := "(I)I" } : MethodName) ∈ gw := wmi 1019 (by decide +kernel) rfl
theorem wm_1020 : Cond.code ({ cls := "FalseParityModel", name := "ones", desc := "(I)I" } : MethodName) prog_13_method_4_code (3 : Nat) (Option.some FieldType.int) ∈ gw := wmi 1020 (by decide +kernel) rfl
theorem wm_1021 : Cond.methodLink "FalseParityLaw" (55 : Nat) ({ cls := "FalseParityModel", name := "undo", desc := "()I" } : MethodName) ∈ gw := wmi 1021 (by decide +kernel) rfl
theorem wm_1022 : Cond.instanceMethod ({ cls := "FalseParityModel", name := "undo", desc := "()I" } : MethodName) ∈ gw := wmi 1022 (by decide +kernel) rfl
theorem wm_1023 : Cond.selects "FalseParityModel" ({ cls := "FalseParityModel", name := "undo", desc := "()I" } : MethodName) ({ cls := "FalseParityModel", name := "undo", desc := "()I" } : MethodName) ∈ gw := wmi 1023 (by decide +kernel) rfl
theorem wm_1024 : Cond.code ({ cls := "FalseParityModel", name := "undo", desc := "()I" } : MethodName) prog_13_method_30_code (2 : Nat) (Option.some FieldType.int) ∈ gw := wmi 1024 (by decide +kernel) rfl
theorem wm_1025 : Cond.methodLink "FalseParityLaw" (59 : Nat) ({ cls := "FalseParityModel", name := "soonest", desc := "(II)I" } : MethodName) ∈ gw := wmi 1025 (by decide +kernel) rfl
theorem wm_1026 : Cond.instanceMethod ({ cls := "FalseParityModel", name := "soonest", desc := "(II)I" } : MethodName) ∈ gw := wmi 1026 (by decide +kernel) rfl
theorem wm_1027 : Cond.selects "FalseParityModel" ({ cls := "FalseParityModel", name := "soonest", desc := "(II)I" } : MethodName) ({ cls := "FalseParityModel", name := "soonest", desc := "(II)I" } : MethodName) ∈ gw := wmi 1027 (by decide +kernel) rfl
theorem wm_1028 : Cond.code ({ cls := "FalseParityModel", name := "soonest", desc := "(II)I" } : MethodName) prog_13_method_32_code (10 : Nat) (Option.some FieldType.int) ∈ gw := wmi 1028 (by decide +kernel) rfl
theorem wm_1029 : Cond.methodLink "FalseParityModel" (156 : Nat) ({ cls := "FalseParityModel", name := "passings", desc := "(II)I" } : MethodName) ∈ gw := wmi 1029 (by decide +kernel) rfl
theorem wm_1030 : Cond.static ({ cls := "FalseParityModel", name := "passings", desc := "(II)I" } : MethodName) ∈ gw := wmi 1030 (by decide +kernel) rfl
theorem wm_1031 : Cond.code ({ cls := "FalseParityModel", name := "passings", desc := "(II)I" } : MethodName) prog_13_method_31_code (3 : Nat) (Option.some FieldType.int) ∈ gw := wmi 1031 (by decide +kernel) rfl
theorem wm_1032 : Cond.constant "FalseParityModel" (155 : Nat) (1000000 : Int32) ∈ gw := wmi 1032 (by decide +kernel) rfl
theorem wm_1033 : Cond.methodLink "FalseParityLaw" (63 : Nat) ({ cls := "FalseParityModel", name := "till", desc := "(I)I" } : MethodName) ∈ gw := wmi 1033 (by decide +kernel) rfl
theorem wm_1034 : Cond.instanceMethod ({ cls := "FalseParityModel", name := "till", desc := "(I)I" } : MethodName) ∈ gw := wmi 1034 (by decide +kernel) rfl
theorem wm_1035 : Cond.selects "FalseParityModel" ({ cls := "FalseParityModel", name := "till", desc := "(I)I" } : MethodName) ({ cls := "FalseParityModel", name := "till", desc := "(I)I" } : MethodName) ∈ gw := wmi 1035 (by decide +kernel) rfl
theorem wm_1036 : Cond.code ({ cls := "FalseParityModel", name := "till", desc := "(I)I" } : MethodName) prog_13_method_33_code (4 : Nat) (Option.some FieldType.int) ∈ gw := wmi 1036 (by decide +kernel) rfl
theorem wm_1037 : Cond.methodLink "FalseParityLaw" (68 : Nat) ({ cls := "FalseParityModel", name := "odds", desc := "(III)I" } : MethodName) ∈ gw := wmi 1037 (by decide +kernel) rfl
theorem wm_1038 : Cond.instanceMethod ({ cls := "FalseParityModel", name := "odds", desc := "(III)I" } : MethodName) ∈ gw := wmi 1038 (by decide +kernel) rfl
theorem wm_1039 : Cond.selects "FalseParityModel" ({ cls := "FalseParityModel", name := "odds", desc := "(III)I" } : MethodName) ({ cls := "FalseParityModel", name := "odds", desc := "(III)I" } : MethodName) ∈ gw := wmi 1039 (by decide +kernel) rfl
theorem wm_1040 : Cond.code ({ cls := "FalseParityModel", name := "odds", desc := "(III)I" } : MethodName) prog_13_method_35_code (10 : Nat) (Option.some FieldType.int) ∈ gw := wmi 1040 (by decide +kernel) rfl
theorem wm_1041 : Cond.methodLink "FalseParityModel" (159 : Nat) ({ cls := "FalseParityModel", name := "gcd", desc := "(II)I" } : MethodName) ∈ gw := wmi 1041 (by decide +kernel) rfl
theorem wm_1042 : Cond.static ({ cls := "FalseParityModel", name := "gcd", desc := "(II)I" } : MethodName) ∈ gw := wmi 1042 (by decide +kernel) rfl
theorem wm_1043 : Cond.code ({ cls := "FalseParityModel", name := "gcd", desc := "(II)I" } : MethodName) prog_13_method_34_code (5 : Nat) (Option.some FieldType.int) ∈ gw := wmi 1043 (by decide +kernel) rfl
theorem wm_1044 : Cond.methodLink "FalseParityLaw" (72 : Nat) ({ cls := "FalseParityModel", name := "saw", desc := "(II)I" } : MethodName) ∈ gw := wmi 1044 (by decide +kernel) rfl
theorem wm_1045 : Cond.instanceMethod ({ cls := "FalseParityModel", name := "saw", desc := "(II)I" } : MethodName) ∈ gw := wmi 1045 (by decide +kernel) rfl
theorem wm_1046 : Cond.selects "FalseParityModel" ({ cls := "FalseParityModel", name := "saw", desc := "(II)I" } : MethodName) ({ cls := "FalseParityModel", name := "saw", desc := "(II)I" } : MethodName) ∈ gw := wmi 1046 (by decide +kernel) rfl
theorem wm_1047 : Cond.code ({ cls := "FalseParityModel", name := "saw", desc := "(II)I" } : MethodName) prog_13_method_36_code (3 : Nat) (Option.some FieldType.int) ∈ gw := wmi 1047 (by decide +kernel) rfl
theorem wm_1048 : Cond.methodLink "FalseParityLaw" (76 : Nat) ({ cls := "FalseParityModel", name := "canBe", desc := "(I)I" } : MethodName) ∈ gw := wmi 1048 (by decide +kernel) rfl
theorem wm_1049 : Cond.instanceMethod ({ cls := "FalseParityModel", name := "canBe", desc := "(I)I" } : MethodName) ∈ gw := wmi 1049 (by decide +kernel) rfl
theorem wm_1050 : Cond.selects "FalseParityModel" ({ cls := "FalseParityModel", name := "canBe", desc := "(I)I" } : MethodName) ({ cls := "FalseParityModel", name := "canBe", desc := "(I)I" } : MethodName) ∈ gw := wmi 1050 (by decide +kernel) rfl
theorem wm_1051 : Cond.code ({ cls := "FalseParityModel", name := "canBe", desc := "(I)I" } : MethodName) prog_13_method_38_code (6 : Nat) (Option.some FieldType.int) ∈ gw := wmi 1051 (by decide +kernel) rfl
theorem wm_1052 : Cond.methodLink "FalseParityModel" (162 : Nat) ({ cls := "FalseParityModel", name := "mayBe", desc := "(II)Z" } : MethodName) ∈ gw := wmi 1052 (by decide +kernel) rfl
theorem wm_1054 : Cond.instanceMethod ({ cls := "FalseParityModel", name := "mayBe", desc := "(II)Z" } : MethodName) ∈ gw := wmi 1054 (by decide +kernel) rfl
theorem wm_1055 : Cond.code ({ cls := "FalseParityModel", name := "mayBe", desc := "(II)Z" } : MethodName) prog_13_method_37_code (5 : Nat) (Option.some FieldType.boolean) ∈ gw := wmi 1055 (by decide +kernel) rfl
theorem wm_1056 : Cond.methodLink "FalseParityLaw" (80 : Nat) ({ cls := "FalseParityModel", name := "show", desc := "()I" } : MethodName) ∈ gw := wmi 1056 (by decide +kernel) rfl
theorem wm_1057 : Cond.instanceMethod ({ cls := "FalseParityModel", name := "show", desc := "()I" } : MethodName) ∈ gw := wmi 1057 (by decide +kernel) rfl
theorem wm_1058 : Cond.selects "FalseParityModel" ({ cls := "FalseParityModel", name := "show", desc := "()I" } : MethodName) ({ cls := "FalseParityModel", name := "show", desc := "()I" } : MethodName) ∈ gw := wmi 1058 (by decide +kernel) rfl
theorem wm_1059 : Cond.code ({ cls := "FalseParityModel", name := "show", desc := "()I" } : MethodName) prog_13_method_39_code (7 : Nat) (Option.some FieldType.int) ∈ gw := wmi 1059 (by decide +kernel) rfl
theorem wm_1060 : Cond.methodLink "FalseParityLaw" (84 : Nat) ({ cls := "FalseParityModel", name := "hears", desc := "(II)I" } : MethodName) ∈ gw := wmi 1060 (by decide +kernel) rfl
theorem wm_1061 : Cond.instanceMethod ({ cls := "FalseParityModel", name := "hears", desc := "(II)I" } : MethodName) ∈ gw := wmi 1061 (by decide +kernel) rfl
theorem wm_1062 : Cond.selects "FalseParityModel" ({ cls := "FalseParityModel", name := "hears", desc := "(II)I" } : MethodName) ({ cls := "FalseParityModel", name := "hears", desc := "(II)I" } : MethodName) ∈ gw := wmi 1062 (by decide +kernel) rfl
theorem wm_1063 : Cond.code ({ cls := "FalseParityModel", name := "hears", desc := "(II)I" } : MethodName) prog_13_method_40_code (3 : Nat) (Option.some FieldType.int) ∈ gw := wmi 1063 (by decide +kernel) rfl
theorem wm_1064 : Cond.methodLink "FalseParityLaw" (88 : Nat) ({ cls := "FalseParityModel", name := "forget", desc := "()I" } : MethodName) ∈ gw := wmi 1064 (by decide +kernel) rfl
theorem wm_1065 : Cond.instanceMethod ({ cls := "FalseParityModel", name := "forget", desc := "()I" } : MethodName) ∈ gw := wmi 1065 (by decide +kernel) rfl
theorem wm_1066 : Cond.selects "FalseParityModel" ({ cls := "FalseParityModel", name := "forget", desc := "()I" } : MethodName) ({ cls := "FalseParityModel", name := "forget", desc := "()I" } : MethodName) ∈ gw := wmi 1066 (by decide +kernel) rfl
theorem wm_1067 : Cond.code ({ cls := "FalseParityModel", name := "forget", desc := "()I" } : MethodName) prog_13_method_41_code (2 : Nat) (Option.some FieldType.int) ∈ gw := wmi 1067 (by decide +kernel) rfl
theorem wm_1068 : Cond.methodLink "FalseParityLaw" (92 : Nat) ({ cls := "FalseParityModel", name := "years", desc := "()I" } : MethodName) ∈ gw := wmi 1068 (by decide +kernel) rfl
theorem wm_1069 : Cond.instanceMethod ({ cls := "FalseParityModel", name := "years", desc := "()I" } : MethodName) ∈ gw := wmi 1069 (by decide +kernel) rfl
theorem wm_1070 : Cond.selects "FalseParityModel" ({ cls := "FalseParityModel", name := "years", desc := "()I" } : MethodName) ({ cls := "FalseParityModel", name := "years", desc := "()I" } : MethodName) ∈ gw := wmi 1070 (by decide +kernel) rfl
theorem wm_1071 : Cond.code ({ cls := "FalseParityModel", name := "years", desc := "()I" } : MethodName) prog_13_method_42_code (5 : Nat) (Option.some FieldType.int) ∈ gw := wmi 1071 (by decide +kernel) rfl
theorem wm_1072 : Cond.methodLink "FalseParityLaw" (96 : Nat) ({ cls := "FalseParityModel", name := "letIn", desc := "(I)I" } : MethodName) ∈ gw := wmi 1072 (by decide +kernel) rfl
theorem wm_1073 : Cond.instanceMethod ({ cls := "FalseParityModel", name := "letIn", desc := "(I)I" } : MethodName) ∈ gw := wmi 1073 (by decide +kernel) rfl
theorem wm_1074 : Cond.selects "FalseParityModel" ({ cls := "FalseParityModel", name := "letIn", desc := "(I)I" } : MethodName) ({ cls := "FalseParityModel", name := "letIn", desc := "(I)I" } : MethodName) ∈ gw := wmi 1074 (by decide +kernel) rfl
theorem wm_1075 : Cond.code ({ cls := "FalseParityModel", name := "letIn", desc := "(I)I" } : MethodName) prog_13_method_44_code (7 : Nat) (Option.some FieldType.int) ∈ gw := wmi 1075 (by decide +kernel) rfl
theorem wm_1076 : Cond.methodLink "FalseParityModel" (166 : Nat) ({ cls := "FalseParityModel", name := "worthOf", desc := "(IZ)I" } : MethodName) ∈ gw := wmi 1076 (by decide +kernel) rfl
theorem wm_1078 : Cond.instanceMethod ({ cls := "FalseParityModel", name := "worthOf", desc := "(IZ)I" } : MethodName) ∈ gw := wmi 1078 (by decide +kernel) rfl
theorem wm_1079 : Cond.code ({ cls := "FalseParityModel", name := "worthOf", desc := "(IZ)I" } : MethodName) prog_13_method_43_code (6 : Nat) (Option.some FieldType.int) ∈ gw := wmi 1079 (by decide +kernel) rfl
theorem wm_1080 : Cond.methodLink "FalseParityLaw" (100 : Nat) ({ cls := "FalseParityModel", name := "rate", desc := "(II)I" } : MethodName) ∈ gw := wmi 1080 (by decide +kernel) rfl
theorem wm_1081 : Cond.instanceMethod ({ cls := "FalseParityModel", name := "rate", desc := "(II)I" } : MethodName) ∈ gw := wmi 1081 (by decide +kernel) rfl
theorem wm_1082 : Cond.selects "FalseParityModel" ({ cls := "FalseParityModel", name := "rate", desc := "(II)I" } : MethodName) ({ cls := "FalseParityModel", name := "rate", desc := "(II)I" } : MethodName) ∈ gw := wmi 1082 (by decide +kernel) rfl
theorem wm_1083 : Cond.code ({ cls := "FalseParityModel", name := "rate", desc := "(II)I" } : MethodName) prog_13_method_45_code (5 : Nat) (Option.some FieldType.int) ∈ gw := wmi 1083 (by decide +kernel) rfl
theorem wm_1084 : Cond.constant "FalseParityModel" (169 : Nat) (-1000000 : Int32) ∈ gw := wmi 1084 (by decide +kernel) rfl
theorem wm_1085 : Cond.constantLong "FalseParityModel" (174 : Nat) (11 : Int64) ∈ gw := wmi 1085 (by decide +kernel) rfl
theorem wm_1086 : Cond.constantLong "FalseParityModel" (176 : Nat) (101 : Int64) ∈ gw := wmi 1086 (by decide +kernel) rfl
theorem wm_1087 : Cond.constantLong "FalseParityModel" (178 : Nat) (1011 : Int64) ∈ gw := wmi 1087 (by decide +kernel) rfl
theorem wm_1088 : Cond.constantLong "FalseParityModel" (180 : Nat) (10101 : Int64) ∈ gw := wmi 1088 (by decide +kernel) rfl
theorem wm_1089 : Cond.constantLong "FalseParityModel" (182 : Nat) (100001 : Int64) ∈ gw := wmi 1089 (by decide +kernel) rfl
theorem wm_1090 : Cond.methodLink "FalseParityLaw" (104 : Nat) ({ cls := "FalseParityModel", name := "keep", desc := "(I)I" } : MethodName) ∈ gw := wmi 1090 (by decide +kernel) rfl
theorem wm_1091 : Cond.instanceMethod ({ cls := "FalseParityModel", name := "keep", desc := "(I)I" } : MethodName) ∈ gw := wmi 1091 (by decide +kernel) rfl
theorem wm_1092 : Cond.selects "FalseParityModel" ({ cls := "FalseParityModel", name := "keep", desc := "(I)I" } : MethodName) ({ cls := "FalseParityModel", name := "keep", desc := "(I)I" } : MethodName) ∈ gw := wmi 1092 (by decide +kernel) rfl
theorem wm_1093 : Cond.code ({ cls := "FalseParityModel", name := "keep", desc := "(I)I" } : MethodName) prog_13_method_46_code (3 : Nat) (Option.some FieldType.int) ∈ gw := wmi 1093 (by decide +kernel) rfl
theorem wm_1094 : Cond.methodLink "FalseParityLaw" (108 : Nat) ({ cls := "FalseParityModel", name := "back", desc := "(I)I" } : MethodName) ∈ gw := wmi 1094 (by decide +kernel) rfl
theorem wm_1095 : Cond.instanceMethod ({ cls := "FalseParityModel", name := "back", desc := "(I)I" } : MethodName) ∈ gw := wmi 1095 (by decide +kernel) rfl
theorem wm_1096 : Cond.selects "FalseParityModel" ({ cls := "FalseParityModel", name := "back", desc := "(I)I" } : MethodName) ({ cls := "FalseParityModel", name := "back", desc := "(I)I" } : MethodName) ∈ gw := wmi 1096 (by decide +kernel) rfl
theorem wm_1097 : Cond.code ({ cls := "FalseParityModel", name := "back", desc := "(I)I" } : MethodName) prog_13_method_47_code (3 : Nat) (Option.some FieldType.int) ∈ gw := wmi 1097 (by decide +kernel) rfl
theorem wm_1098 : Cond.methodLink "FalseParityLaw" (112 : Nat) ({ cls := "FalseParityModel", name := "count", desc := "(I)I" } : MethodName) ∈ gw := wmi 1098 (by decide +kernel) rfl
theorem wm_1099 : Cond.instanceMethod ({ cls := "FalseParityModel", name := "count", desc := "(I)I" } : MethodName) ∈ gw := wmi 1099 (by decide +kernel) rfl
theorem wm_1100 : Cond.selects "FalseParityModel" ({ cls := "FalseParityModel", name := "count", desc := "(I)I" } : MethodName) ({ cls := "FalseParityModel", name := "count", desc := "(I)I" } : MethodName) ∈ gw := wmi 1100 (by decide +kernel) rfl
theorem wm_1101 : Cond.code ({ cls := "FalseParityModel", name := "count", desc := "(I)I" } : MethodName) prog_13_method_48_code (2 : Nat) (Option.some FieldType.int) ∈ gw := wmi 1101 (by decide +kernel) rfl
theorem wm_1102 : Cond.methodLink "FalseParityLaw" (117 : Nat) ({ cls := "FalseParityModel", name := "trace", desc := "()J" } : MethodName) ∈ gw := wmi 1102 (by decide +kernel) rfl
theorem wm_1103 : Cond.instanceMethod ({ cls := "FalseParityModel", name := "trace", desc := "()J" } : MethodName) ∈ gw := wmi 1103 (by decide +kernel) rfl
theorem wm_1104 : Cond.selects "FalseParityModel" ({ cls := "FalseParityModel", name := "trace", desc := "()J" } : MethodName) ({ cls := "FalseParityModel", name := "trace", desc := "()J" } : MethodName) ∈ gw := wmi 1104 (by decide +kernel) rfl
theorem wm_1105 : Cond.code ({ cls := "FalseParityModel", name := "trace", desc := "()J" } : MethodName) prog_13_method_49_code (1 : Nat) (Option.some FieldType.long) ∈ gw := wmi 1105 (by decide +kernel) rfl
theorem inG0 : ∀ w ∈ u_ws RX0 TX0 5, w ∈ gw := by decide +kernel
theorem inG1 : ∀ w ∈ u_ws RX1 TX1 8, w ∈ gw := by decide +kernel
theorem inG2 : ∀ w ∈ u_ws RX2 TX2 3, w ∈ gw := by decide +kernel
theorem inG3 : ∀ w ∈ u_ws RX3 TX3 2, w ∈ gw := by decide +kernel
theorem inG4 : ∀ w ∈ u_ws RX4 TX4 3, w ∈ gw := by decide +kernel
theorem inG5 : ∀ w ∈ u_ws RX5 TX5 5, w ∈ gw := by decide +kernel
theorem inG6 : ∀ w ∈ u_ws RX6 TX6 1, w ∈ gw := by decide +kernel
theorem inG7 : ∀ w ∈ u_ws RX7 TX7 2, w ∈ gw := by decide +kernel
theorem inG8 : ∀ w ∈ u_ws RX8 TX8 7, w ∈ gw := by decide +kernel
theorem inG9 : ∀ w ∈ u_ws RX9 TX9 2, w ∈ gw := by decide +kernel
theorem inG10 : ∀ w ∈ u_ws RX10 TX10 10, w ∈ gw := by decide +kernel
theorem inG11 : ∀ w ∈ u_ws RX11 TX11 28, w ∈ gw := by decide +kernel
