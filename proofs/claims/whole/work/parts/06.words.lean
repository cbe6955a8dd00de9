/-! where each word lies -/
theorem t_1_0 : Cond.initialized "TablesMatchLaw" ∈ my_tbl := tm_t (List.mem_append_left _ (List.mem_of_getElem? (i := 0) rfl)) rfl
theorem t_1_1 : Cond.initialized "TablesMatch" ∈ my_tbl := tm_t (List.mem_append_left _ (List.mem_of_getElem? (i := 1) rfl)) rfl
theorem t_1_2 : Cond.initialized "TablesMatch$Board" ∈ my_tbl := tm_t (List.mem_append_left _ (List.mem_of_getElem? (i := 2) rfl)) rfl
theorem t_1_3 : Cond.initialized "TablesMatch$Hand" ∈ my_tbl := tm_t (List.mem_append_left _ (List.mem_of_getElem? (i := 3) rfl)) rfl
theorem t_1_4 : Cond.initialized "TablesMatch$Race" ∈ my_tbl := tm_t (List.mem_append_left _ (List.mem_of_getElem? (i := 4) rfl)) rfl
theorem t_1_5 : Cond.initialized "java/lang/Math" ∈ my_tbl := tm_t (List.mem_append_left _ (List.mem_of_getElem? (i := 5) rfl)) rfl
theorem t_1_6 : Cond.initialized "java/lang/System" ∈ my_tbl := tm_t (List.mem_append_left _ (List.mem_of_getElem? (i := 6) rfl)) rfl
theorem t_1_7 : Cond.initialized "TablesMatchModel" ∈ my_tbl := tm_t (List.mem_append_left _ (List.mem_of_getElem? (i := 7) rfl)) rfl
theorem t_1_8 : Cond.classLink "TablesMatchLaw" 7 "TablesMatch" ∈ my_tbl := tm_t (List.mem_append_left _ (List.mem_of_getElem? (i := 8) rfl)) rfl
theorem t_1_9 : Cond.instantiable "TablesMatch" 11 ∈ my_tbl := tm_t (List.mem_append_left _ (List.mem_of_getElem? (i := 9) rfl)) rfl
theorem t_1_10 : Cond.methodLink "TablesMatchLaw" 15 ⟨"TablesMatch", "<init>", "(I)V"⟩ ∈ my_tbl := tm_t (List.mem_append_left _ (List.mem_of_getElem? (i := 10) rfl)) rfl
theorem t_1_11 : Cond.instanceMethod ⟨"TablesMatch", "<init>", "(I)V"⟩ ∈ my_tbl := tm_t (List.mem_append_left _ (List.mem_of_getElem? (i := 11) rfl)) rfl
theorem t_1_12 : Cond.code ⟨"TablesMatch", "<init>", "(I)V"⟩ prog_1_method_1_code 2 none ∈ my_tbl := tm_t (List.mem_append_left _ (List.mem_of_getElem? (i := 12) rfl)) rfl
theorem t_1_13 : Cond.methodLink "TablesMatch" 1 ⟨"java/lang/Object", "<init>", "()V"⟩ ∈ my_tbl := tm_t (List.mem_append_left _ (List.mem_of_getElem? (i := 13) rfl)) rfl
theorem t_1_14 : Cond.instanceMethod ⟨"java/lang/Object", "<init>", "()V"⟩ ∈ my_tbl := tm_t (List.mem_append_left _ (List.mem_of_getElem? (i := 14) rfl)) rfl
theorem t_1_15 : Cond.code ⟨"java/lang/Object", "<init>", "()V"⟩ object_method_1_code 1 none ∈ my_tbl := tm_t (List.mem_append_left _ (List.mem_of_getElem? (i := 15) rfl)) rfl
theorem t_1_16 : Cond.classLink "TablesMatch" 13 "TablesMatch$Board" ∈ my_tbl := tm_t (List.mem_append_left _ (List.mem_of_getElem? (i := 16) rfl)) rfl
theorem t_1_17 : Cond.instantiable "TablesMatch$Board" 1 ∈ my_tbl := tm_t (List.mem_append_left _ (List.mem_of_getElem? (i := 17) rfl)) rfl
theorem t_1_18 : Cond.methodLinkNest "TablesMatch" 15 ⟨"TablesMatch$Board", "<init>", "()V"⟩ "TablesMatch" ∈ nest_tbl := tm_n (List.mem_append_left _ (List.mem_of_getElem? (i := 18) rfl)) rfl
theorem t_1_19 : Cond.instanceMethod ⟨"TablesMatch$Board", "<init>", "()V"⟩ ∈ my_tbl := tm_t (List.mem_append_left _ (List.mem_of_getElem? (i := 19) rfl)) rfl
theorem t_1_20 : Cond.code ⟨"TablesMatch$Board", "<init>", "()V"⟩ prog_2_method_1_code 1 none ∈ my_tbl := tm_t (List.mem_append_left _ (List.mem_of_getElem? (i := 20) rfl)) rfl
theorem t_1_21 : Cond.methodLink "TablesMatch$Board" 3 ⟨"java/lang/Object", "<init>", "()V"⟩ ∈ my_tbl := tm_t (List.mem_append_left _ (List.mem_of_getElem? (i := 21) rfl)) rfl
theorem t_1_22 : Cond.classLink "TablesMatch$Board" 9 "[[I" ∈ my_tbl := tm_t (List.mem_append_left _ (List.mem_of_getElem? (i := 22) rfl)) rfl
theorem t_1_23 : Cond.arrayOver (FieldType.array FieldType.int) ∈ tables_1 := List.mem_append_left _ (List.mem_of_getElem? (i := 23) rfl)
theorem t_1_24 : Cond.fieldLink "TablesMatch$Board" 11 "TablesMatch$Board" "rows" "[[I" ∈ my_tbl := tm_t (List.mem_append_left _ (List.mem_of_getElem? (i := 24) rfl)) rfl
theorem t_1_25 : Cond.fieldLink "TablesMatch" 107 "TablesMatch$Board" "rows" "[[I" ∈ my_tbl := tm_t (List.mem_append_left _ (List.mem_of_getElem? (i := 25) rfl)) rfl
theorem t_1_26 : Cond.laysFinal "TablesMatch$Board" "TablesMatch$Board" "rows" "[[I" ∈ my_tbl := tm_t (List.mem_append_left _ (List.mem_of_getElem? (i := 26) rfl)) rfl
theorem t_1_27 : Cond.soleField "TablesMatch$Board" "rows" ∈ my_tbl := tm_t (List.mem_append_left _ (List.mem_of_getElem? (i := 27) rfl)) rfl
theorem t_1_28 : Cond.superclass "TablesMatch$Board" "java/lang/Object" ∈ my_tbl := tm_t (List.mem_append_left _ (List.mem_of_getElem? (i := 28) rfl)) rfl
theorem t_1_29 : Cond.arrayClass FieldType.int ∈ my_tbl := tm_t (List.mem_append_left _ (List.mem_of_getElem? (i := 29) rfl)) rfl
theorem t_1_30 : Cond.classLink "TablesMatch" 20 "TablesMatch$Hand" ∈ my_tbl := tm_t (List.mem_append_left _ (List.mem_of_getElem? (i := 30) rfl)) rfl
theorem t_1_31 : Cond.instantiable "TablesMatch$Hand" 5 ∈ my_tbl := tm_t (List.mem_append_left _ (List.mem_of_getElem? (i := 31) rfl)) rfl
theorem t_1_32 : Cond.methodLink "TablesMatch" 22 ⟨"TablesMatch$Hand", "<init>", "(LTablesMatch$Board;)V"⟩ ∈ my_tbl := tm_t (List.mem_append_left _ (List.mem_of_getElem? (i := 32) rfl)) rfl
theorem t_1_33 : Cond.instanceMethod ⟨"TablesMatch$Hand", "<init>", "(LTablesMatch$Board;)V"⟩ ∈ my_tbl := tm_t (List.mem_append_left _ (List.mem_of_getElem? (i := 33) rfl)) rfl
theorem t_1_34 : Cond.code ⟨"TablesMatch$Hand", "<init>", "(LTablesMatch$Board;)V"⟩ prog_3_method_1_code 2 none ∈ my_tbl := tm_t (List.mem_append_left _ (List.mem_of_getElem? (i := 34) rfl)) rfl
theorem t_1_35 : Cond.methodLink "TablesMatch$Hand" 3 ⟨"java/lang/Object", "<init>", "()V"⟩ ∈ my_tbl := tm_t (List.mem_append_left _ (List.mem_of_getElem? (i := 35) rfl)) rfl
theorem t_1_36 : Cond.fieldLink "TablesMatch$Hand" 9 "TablesMatch$Hand" "dice" "[I" ∈ my_tbl := tm_t (List.mem_append_left _ (List.mem_of_getElem? (i := 36) rfl)) rfl
theorem t_1_37 : Cond.fieldLink "TablesMatch" 90 "TablesMatch$Hand" "dice" "[I" ∈ my_tbl := tm_t (List.mem_append_left _ (List.mem_of_getElem? (i := 37) rfl)) rfl
theorem t_1_38 : Cond.fieldLink "TablesMatch$Hand" 30 "TablesMatch$Hand" "usable" "I" ∈ my_tbl := tm_t (List.mem_append_left _ (List.mem_of_getElem? (i := 38) rfl)) rfl
theorem t_1_39 : Cond.fieldLink "TablesMatch" 87 "TablesMatch$Hand" "usable" "I" ∈ my_tbl := tm_t (List.mem_append_left _ (List.mem_of_getElem? (i := 39) rfl)) rfl
theorem t_1_40 : Cond.fieldLink "TablesMatch$Hand" 15 "TablesMatch$Hand" "board" "LTablesMatch$Board;" ∈ my_tbl := tm_t (List.mem_append_left _ (List.mem_of_getElem? (i := 40) rfl)) rfl
theorem t_1_41 : Cond.fieldLink "TablesMatch$Hand" 23 "TablesMatch$Hand" "player" "I" ∈ my_tbl := tm_t (List.mem_append_left _ (List.mem_of_getElem? (i := 41) rfl)) rfl
theorem t_1_42 : Cond.fieldLink "TablesMatch$Hand" 19 "TablesMatch$Hand" "count" "I" ∈ my_tbl := tm_t (List.mem_append_left _ (List.mem_of_getElem? (i := 42) rfl)) rfl
theorem t_1_43 : Cond.laysFinal "TablesMatch$Hand" "TablesMatch$Hand" "dice" "[I" ∈ my_tbl := tm_t (List.mem_append_left _ (List.mem_of_getElem? (i := 43) rfl)) rfl
theorem t_1_44 : Cond.soleField "TablesMatch$Hand" "dice" ∈ my_tbl := tm_t (List.mem_append_left _ (List.mem_of_getElem? (i := 44) rfl)) rfl
theorem t_1_45 : Cond.lays "TablesMatch$Hand" "TablesMatch$Hand" "usable" "I" ∈ my_tbl := tm_t (List.mem_append_left _ (List.mem_of_getElem? (i := 45) rfl)) rfl
theorem t_1_46 : Cond.soleField "TablesMatch$Hand" "usable" ∈ my_tbl := tm_t (List.mem_append_left _ (List.mem_of_getElem? (i := 46) rfl)) rfl
theorem t_1_47 : Cond.laysFinal "TablesMatch$Hand" "TablesMatch$Hand" "board" "LTablesMatch$Board;" ∈ my_tbl := tm_t (List.mem_append_left _ (List.mem_of_getElem? (i := 47) rfl)) rfl
theorem t_1_48 : Cond.soleField "TablesMatch$Hand" "board" ∈ my_tbl := tm_t (List.mem_append_left _ (List.mem_of_getElem? (i := 48) rfl)) rfl
theorem t_1_49 : Cond.lays "TablesMatch$Hand" "TablesMatch$Hand" "player" "I" ∈ my_tbl := tm_t (List.mem_append_left _ (List.mem_of_getElem? (i := 49) rfl)) rfl
theorem t_1_50 : Cond.soleField "TablesMatch$Hand" "player" ∈ my_tbl := tm_t (List.mem_append_left _ (List.mem_of_getElem? (i := 50) rfl)) rfl
theorem t_1_51 : Cond.lays "TablesMatch$Hand" "TablesMatch$Hand" "count" "I" ∈ my_tbl := tm_t (List.mem_append_left _ (List.mem_of_getElem? (i := 51) rfl)) rfl
theorem t_1_52 : Cond.soleField "TablesMatch$Hand" "count" ∈ my_tbl := tm_t (List.mem_append_left _ (List.mem_of_getElem? (i := 52) rfl)) rfl
theorem t_1_53 : Cond.superclass "TablesMatch$Hand" "java/lang/Object" ∈ my_tbl := tm_t (List.mem_append_left _ (List.mem_of_getElem? (i := 53) rfl)) rfl
theorem t_1_54 : Cond.classLink "TablesMatch" 29 "TablesMatch$Race" ∈ my_tbl := tm_t (List.mem_append_left _ (List.mem_of_getElem? (i := 54) rfl)) rfl
theorem t_1_55 : Cond.instantiable "TablesMatch$Race" 1 ∈ my_tbl := tm_t (List.mem_append_left _ (List.mem_of_getElem? (i := 55) rfl)) rfl
theorem t_1_56 : Cond.methodLinkNest "TablesMatch" 31 ⟨"TablesMatch$Race", "<init>", "()V"⟩ "TablesMatch" ∈ nest_tbl := tm_n (List.mem_append_left _ (List.mem_of_getElem? (i := 56) rfl)) rfl
theorem t_1_57 : Cond.instanceMethod ⟨"TablesMatch$Race", "<init>", "()V"⟩ ∈ my_tbl := tm_t (List.mem_append_left _ (List.mem_of_getElem? (i := 57) rfl)) rfl
theorem t_1_58 : Cond.code ⟨"TablesMatch$Race", "<init>", "()V"⟩ prog_4_method_1_code 1 none ∈ my_tbl := tm_t (List.mem_append_left _ (List.mem_of_getElem? (i := 58) rfl)) rfl
theorem t_1_59 : Cond.methodLink "TablesMatch$Race" 3 ⟨"java/lang/Object", "<init>", "()V"⟩ ∈ my_tbl := tm_t (List.mem_append_left _ (List.mem_of_getElem? (i := 59) rfl)) rfl
theorem t_1_60 : Cond.fieldLink "TablesMatch$Race" 11 "TablesMatch$Race" "known" "[J" ∈ my_tbl := tm_t (List.mem_append_left _ (List.mem_of_getElem? (i := 60) rfl)) rfl
theorem t_1_61 : Cond.laysFinal "TablesMatch$Race" "TablesMatch$Race" "known" "[J" ∈ my_tbl := tm_t (List.mem_append_left _ (List.mem_of_getElem? (i := 61) rfl)) rfl
theorem t_1_62 : Cond.soleField "TablesMatch$Race" "known" ∈ my_tbl := tm_t (List.mem_append_left _ (List.mem_of_getElem? (i := 62) rfl)) rfl
theorem t_1_63 : Cond.superclass "TablesMatch$Race" "java/lang/Object" ∈ my_tbl := tm_t (List.mem_append_left _ (List.mem_of_getElem? (i := 63) rfl)) rfl
theorem t_1_64 : Cond.arrayClass FieldType.long ∈ my_tbl := tm_t (List.mem_append_left _ (List.mem_of_getElem? (i := 64) rfl)) rfl
theorem t_1_65 : Cond.methodLink "TablesMatch" 36 ⟨"java/lang/Math", "min", "(II)I"⟩ ∈ my_tbl := tm_t (List.mem_append_left _ (List.mem_of_getElem? (i := 65) rfl)) rfl
theorem t_1_66 : Cond.static ⟨"java/lang/Math", "min", "(II)I"⟩ ∈ my_tbl := tm_t (List.mem_append_left _ (List.mem_of_getElem? (i := 66) rfl)) rfl
theorem t_1_67 : Cond.code ⟨"java/lang/Math", "min", "(II)I"⟩ prog_7_method_69_code 2 (some FieldType.int) ∈ my_tbl := tm_t (List.mem_append_left _ (List.mem_of_getElem? (i := 67) rfl)) rfl
theorem t_1_68 : Cond.methodLink "TablesMatch" 42 ⟨"java/lang/Math", "max", "(II)I"⟩ ∈ my_tbl := tm_t (List.mem_append_left _ (List.mem_of_getElem? (i := 68) rfl)) rfl
theorem t_1_69 : Cond.static ⟨"java/lang/Math", "max", "(II)I"⟩ ∈ my_tbl := tm_t (List.mem_append_left _ (List.mem_of_getElem? (i := 69) rfl)) rfl
theorem t_1_70 : Cond.code ⟨"java/lang/Math", "max", "(II)I"⟩ prog_7_method_65_code 2 (some FieldType.int) ∈ my_tbl := tm_t (List.mem_append_left _ (List.mem_of_getElem? (i := 70) rfl)) rfl
theorem t_1_71 : Cond.methodLink "TablesMatch" 49 ⟨"TablesMatch", "beginGame", "()V"⟩ ∈ my_tbl := tm_t (List.mem_append_left _ (List.mem_of_getElem? (i := 71) rfl)) rfl
theorem t_1_73 : Cond.instanceMethod ⟨"TablesMatch", "beginGame", "()V"⟩ ∈ my_tbl := tm_t (List.mem_append_left _ (List.mem_of_getElem? (i := 73) rfl)) rfl
theorem t_1_74 : Cond.code ⟨"TablesMatch", "beginGame", "()V"⟩ prog_1_method_23_code 1 none ∈ my_tbl := tm_t (List.mem_append_left _ (List.mem_of_getElem? (i := 74) rfl)) rfl
theorem t_1_75 : Cond.methodLink "TablesMatch" 123 ⟨"TablesMatch$Board", "setUp", "()V"⟩ ∈ my_tbl := tm_t (List.mem_append_left _ (List.mem_of_getElem? (i := 75) rfl)) rfl
theorem t_1_76 : Cond.instanceMethod ⟨"TablesMatch$Board", "setUp", "()V"⟩ ∈ my_tbl := tm_t (List.mem_append_left _ (List.mem_of_getElem? (i := 76) rfl)) rfl
theorem t_1_77 : Cond.selects "TablesMatch$Board" ⟨"TablesMatch$Board", "setUp", "()V"⟩ ⟨"TablesMatch$Board", "setUp", "()V"⟩ ∈ my_tbl := tm_t (List.mem_append_left _ (List.mem_of_getElem? (i := 77) rfl)) rfl
theorem t_1_78 : Cond.code ⟨"TablesMatch$Board", "setUp", "()V"⟩ prog_2_method_2_code 1 none ∈ my_tbl := tm_t (List.mem_append_left _ (List.mem_of_getElem? (i := 78) rfl)) rfl
theorem t_1_79 : Cond.fieldLinkNest "TablesMatch$Board" 16 "TablesMatch" "START" "[I" "TablesMatch" ∈ nest_tbl := tm_n (List.mem_append_left _ (List.mem_of_getElem? (i := 79) rfl)) rfl
theorem t_1_80 : Cond.laysStatic "TablesMatch" "START" "[I" ∈ tables_1 := List.mem_append_left _ (List.mem_of_getElem? (i := 80) rfl)
theorem t_1_81 : Cond.methodLink "TablesMatch$Board" 20 ⟨"java/lang/System", "arraycopy", "(Ljava/lang/Object;ILjava/lang/Object;II)V"⟩ ∈ my_tbl := tm_t (List.mem_append_left _ (List.mem_of_getElem? (i := 81) rfl)) rfl
theorem t_1_82 : Cond.static ⟨"java/lang/System", "arraycopy", "(Ljava/lang/Object;ILjava/lang/Object;II)V"⟩ ∈ my_tbl := tm_t (List.mem_append_left _ (List.mem_of_getElem? (i := 82) rfl)) rfl
theorem t_1_83 : Cond.native ⟨"java/lang/System", "arraycopy", "(Ljava/lang/Object;ILjava/lang/Object;II)V"⟩ ∈ tables_1 := List.mem_append_left _ (List.mem_of_getElem? (i := 83) rfl)
theorem t_1_84 : Cond.fieldLink "TablesMatch" 45 "TablesMatch" "length" "I" ∈ my_tbl := tm_t (List.mem_append_left _ (List.mem_of_getElem? (i := 84) rfl)) rfl
theorem t_1_85 : Cond.fieldLink "TablesMatch" 7 "TablesMatch" "score" "[I" ∈ my_tbl := tm_t (List.mem_append_left _ (List.mem_of_getElem? (i := 85) rfl)) rfl
theorem t_1_86 : Cond.fieldLink "TablesMatch" 16 "TablesMatch" "board" "LTablesMatch$Board;" ∈ my_tbl := tm_t (List.mem_append_left _ (List.mem_of_getElem? (i := 86) rfl)) rfl
theorem t_1_87 : Cond.fieldLink "TablesMatch" 25 "TablesMatch" "hand" "LTablesMatch$Hand;" ∈ my_tbl := tm_t (List.mem_append_left _ (List.mem_of_getElem? (i := 87) rfl)) rfl
theorem t_1_88 : Cond.fieldLink "TablesMatch" 32 "TablesMatch" "race" "LTablesMatch$Race;" ∈ my_tbl := tm_t (List.mem_append_left _ (List.mem_of_getElem? (i := 88) rfl)) rfl
theorem t_1_89 : Cond.fieldLink "TablesMatch" 52 "TablesMatch" "stage" "I" ∈ my_tbl := tm_t (List.mem_append_left _ (List.mem_of_getElem? (i := 89) rfl)) rfl
theorem t_1_90 : Cond.fieldLink "TablesMatch" 66 "TablesMatch" "mover" "I" ∈ my_tbl := tm_t (List.mem_append_left _ (List.mem_of_getElem? (i := 90) rfl)) rfl
theorem t_1_91 : Cond.fieldLink "TablesMatch" 97 "TablesMatch" "stake" "I" ∈ my_tbl := tm_t (List.mem_append_left _ (List.mem_of_getElem? (i := 91) rfl)) rfl
theorem t_1_92 : Cond.fieldLink "TablesMatch" 100 "TablesMatch" "holder" "I" ∈ my_tbl := tm_t (List.mem_append_left _ (List.mem_of_getElem? (i := 92) rfl)) rfl
theorem t_1_93 : Cond.fieldLink "TablesMatch" 93 "TablesMatch" "crawfordNow" "Z" ∈ my_tbl := tm_t (List.mem_append_left _ (List.mem_of_getElem? (i := 93) rfl)) rfl
theorem t_1_94 : Cond.fieldLink "TablesMatch" 133 "TablesMatch" "crawfordSeen" "Z" ∈ my_tbl := tm_t (List.mem_append_left _ (List.mem_of_getElem? (i := 94) rfl)) rfl
theorem t_1_95 : Cond.laysFinal "TablesMatch" "TablesMatch" "length" "I" ∈ my_tbl := tm_t (List.mem_append_left _ (List.mem_of_getElem? (i := 95) rfl)) rfl
theorem t_1_96 : Cond.soleField "TablesMatch" "length" ∈ my_tbl := tm_t (List.mem_append_left _ (List.mem_of_getElem? (i := 96) rfl)) rfl
theorem t_1_97 : Cond.laysFinal "TablesMatch" "TablesMatch" "score" "[I" ∈ my_tbl := tm_t (List.mem_append_left _ (List.mem_of_getElem? (i := 97) rfl)) rfl
theorem t_1_98 : Cond.soleField "TablesMatch" "score" ∈ my_tbl := tm_t (List.mem_append_left _ (List.mem_of_getElem? (i := 98) rfl)) rfl
theorem t_1_99 : Cond.laysFinal "TablesMatch" "TablesMatch" "board" "LTablesMatch$Board;" ∈ my_tbl := tm_t (List.mem_append_left _ (List.mem_of_getElem? (i := 99) rfl)) rfl
theorem t_1_100 : Cond.soleField "TablesMatch" "board" ∈ my_tbl := tm_t (List.mem_append_left _ (List.mem_of_getElem? (i := 100) rfl)) rfl
theorem t_1_101 : Cond.laysFinal "TablesMatch" "TablesMatch" "hand" "LTablesMatch$Hand;" ∈ my_tbl := tm_t (List.mem_append_left _ (List.mem_of_getElem? (i := 101) rfl)) rfl
theorem t_1_102 : Cond.soleField "TablesMatch" "hand" ∈ my_tbl := tm_t (List.mem_append_left _ (List.mem_of_getElem? (i := 102) rfl)) rfl
theorem t_1_103 : Cond.laysFinal "TablesMatch" "TablesMatch" "race" "LTablesMatch$Race;" ∈ my_tbl := tm_t (List.mem_append_left _ (List.mem_of_getElem? (i := 103) rfl)) rfl
theorem t_1_104 : Cond.soleField "TablesMatch" "race" ∈ my_tbl := tm_t (List.mem_append_left _ (List.mem_of_getElem? (i := 104) rfl)) rfl
theorem t_1_105 : Cond.lays "TablesMatch" "TablesMatch" "stage" "I" ∈ my_tbl := tm_t (List.mem_append_left _ (List.mem_of_getElem? (i := 105) rfl)) rfl
theorem t_1_106 : Cond.soleField "TablesMatch" "stage" ∈ my_tbl := tm_t (List.mem_append_left _ (List.mem_of_getElem? (i := 106) rfl)) rfl
theorem t_1_107 : Cond.lays "TablesMatch" "TablesMatch" "mover" "I" ∈ my_tbl := tm_t (List.mem_append_left _ (List.mem_of_getElem? (i := 107) rfl)) rfl
theorem t_1_108 : Cond.soleField "TablesMatch" "mover" ∈ my_tbl := tm_t (List.mem_append_left _ (List.mem_of_getElem? (i := 108) rfl)) rfl
theorem t_1_109 : Cond.lays "TablesMatch" "TablesMatch" "stake" "I" ∈ my_tbl := tm_t (List.mem_append_left _ (List.mem_of_getElem? (i := 109) rfl)) rfl
theorem t_1_110 : Cond.soleField "TablesMatch" "stake" ∈ my_tbl := tm_t (List.mem_append_left _ (List.mem_of_getElem? (i := 110) rfl)) rfl
theorem t_1_111 : Cond.lays "TablesMatch" "TablesMatch" "holder" "I" ∈ my_tbl := tm_t (List.mem_append_left _ (List.mem_of_getElem? (i := 111) rfl)) rfl
theorem t_1_112 : Cond.soleField "TablesMatch" "holder" ∈ my_tbl := tm_t (List.mem_append_left _ (List.mem_of_getElem? (i := 112) rfl)) rfl
theorem t_1_113 : Cond.lays "TablesMatch" "TablesMatch" "crawfordNow" "Z" ∈ my_tbl := tm_t (List.mem_append_left _ (List.mem_of_getElem? (i := 113) rfl)) rfl
theorem t_1_114 : Cond.soleField "TablesMatch" "crawfordNow" ∈ my_tbl := tm_t (List.mem_append_left _ (List.mem_of_getElem? (i := 114) rfl)) rfl
theorem t_1_115 : Cond.lays "TablesMatch" "TablesMatch" "crawfordSeen" "Z" ∈ my_tbl := tm_t (List.mem_append_left _ (List.mem_of_getElem? (i := 115) rfl)) rfl
theorem t_1_116 : Cond.soleField "TablesMatch" "crawfordSeen" ∈ my_tbl := tm_t (List.mem_append_left _ (List.mem_of_getElem? (i := 116) rfl)) rfl
theorem t_1_117 : Cond.superclass "TablesMatch" "java/lang/Object" ∈ my_tbl := tm_t (List.mem_append_left _ (List.mem_of_getElem? (i := 117) rfl)) rfl
theorem t_1_118 : Cond.methodLink "TablesMatchLaw" 21 ⟨"TablesMatch", "place", "(III)Z"⟩ ∈ my_tbl := tm_t (List.mem_append_left _ (List.mem_of_getElem? (i := 118) rfl)) rfl
theorem t_1_119 : Cond.instanceMethod ⟨"TablesMatch", "place", "(III)Z"⟩ ∈ my_tbl := tm_t (List.mem_append_left _ (List.mem_of_getElem? (i := 119) rfl)) rfl
theorem t_1_120 : Cond.selects "TablesMatch" ⟨"TablesMatch", "place", "(III)Z"⟩ ⟨"TablesMatch", "place", "(III)Z"⟩ ∈ my_tbl := tm_t (List.mem_append_left _ (List.mem_of_getElem? (i := 120) rfl)) rfl
theorem t_1_121 : Cond.code ⟨"TablesMatch", "place", "(III)Z"⟩ prog_1_method_2_code 4 (some FieldType.boolean) ∈ my_tbl := tm_t (List.mem_append_left _ (List.mem_of_getElem? (i := 121) rfl)) rfl
theorem t_1_122 : Cond.methodLink "TablesMatch" 55 ⟨"TablesMatch", "isPlayer", "(I)Z"⟩ ∈ my_tbl := tm_t (List.mem_append_left _ (List.mem_of_getElem? (i := 122) rfl)) rfl
theorem t_1_123 : Cond.static ⟨"TablesMatch", "isPlayer", "(I)Z"⟩ ∈ my_tbl := tm_t (List.mem_append_left _ (List.mem_of_getElem? (i := 123) rfl)) rfl
theorem t_1_124 : Cond.code ⟨"TablesMatch", "isPlayer", "(I)Z"⟩ prog_1_method_20_code 1 (some FieldType.boolean) ∈ my_tbl := tm_t (List.mem_append_left _ (List.mem_of_getElem? (i := 124) rfl)) rfl
theorem t_1_125 : Cond.methodLink "TablesMatch" 59 ⟨"TablesMatch$Board", "putMen", "(III)Z"⟩ ∈ my_tbl := tm_t (List.mem_append_left _ (List.mem_of_getElem? (i := 125) rfl)) rfl
theorem t_1_126 : Cond.instanceMethod ⟨"TablesMatch$Board", "putMen", "(III)Z"⟩ ∈ my_tbl := tm_t (List.mem_append_left _ (List.mem_of_getElem? (i := 126) rfl)) rfl
theorem t_1_127 : Cond.selects "TablesMatch$Board" ⟨"TablesMatch$Board", "putMen", "(III)Z"⟩ ⟨"TablesMatch$Board", "putMen", "(III)Z"⟩ ∈ my_tbl := tm_t (List.mem_append_left _ (List.mem_of_getElem? (i := 127) rfl)) rfl
theorem t_1_128 : Cond.code ⟨"TablesMatch$Board", "putMen", "(III)Z"⟩ prog_2_method_3_code 7 (some FieldType.boolean) ∈ my_tbl := tm_t (List.mem_append_left _ (List.mem_of_getElem? (i := 128) rfl)) rfl
theorem t_1_129 : Cond.methodLink "TablesMatchLaw" 26 ⟨"TablesMatch", "roll", "(II)I"⟩ ∈ my_tbl := tm_t (List.mem_append_left _ (List.mem_of_getElem? (i := 129) rfl)) rfl
theorem t_1_130 : Cond.instanceMethod ⟨"TablesMatch", "roll", "(II)I"⟩ ∈ my_tbl := tm_t (List.mem_append_left _ (List.mem_of_getElem? (i := 130) rfl)) rfl
theorem t_1_131 : Cond.selects "TablesMatch" ⟨"TablesMatch", "roll", "(II)I"⟩ ⟨"TablesMatch", "roll", "(II)I"⟩ ∈ my_tbl := tm_t (List.mem_append_left _ (List.mem_of_getElem? (i := 131) rfl)) rfl
theorem t_1_132 : Cond.code ⟨"TablesMatch", "roll", "(II)I"⟩ prog_1_method_3_code 3 (some FieldType.int) ∈ my_tbl := tm_t (List.mem_append_left _ (List.mem_of_getElem? (i := 132) rfl)) rfl
theorem t_1_133 : Cond.methodLink "TablesMatch" 63 ⟨"TablesMatch", "isNumber", "(I)Z"⟩ ∈ my_tbl := tm_t (List.mem_append_left _ (List.mem_of_getElem? (i := 133) rfl)) rfl
theorem t_1_134 : Cond.static ⟨"TablesMatch", "isNumber", "(I)Z"⟩ ∈ my_tbl := tm_t (List.mem_append_left _ (List.mem_of_getElem? (i := 134) rfl)) rfl
theorem t_1_135 : Cond.code ⟨"TablesMatch", "isNumber", "(I)Z"⟩ prog_1_method_21_code 1 (some FieldType.boolean) ∈ my_tbl := tm_t (List.mem_append_left _ (List.mem_of_getElem? (i := 135) rfl)) rfl
theorem t_1_136 : Cond.methodLink "TablesMatch" 69 ⟨"TablesMatch$Hand", "take", "(III)V"⟩ ∈ my_tbl := tm_t (List.mem_append_left _ (List.mem_of_getElem? (i := 136) rfl)) rfl
theorem t_1_137 : Cond.instanceMethod ⟨"TablesMatch$Hand", "take", "(III)V"⟩ ∈ my_tbl := tm_t (List.mem_append_left _ (List.mem_of_getElem? (i := 137) rfl)) rfl
theorem t_1_138 : Cond.selects "TablesMatch$Hand" ⟨"TablesMatch$Hand", "take", "(III)V"⟩ ⟨"TablesMatch$Hand", "take", "(III)V"⟩ ∈ my_tbl := tm_t (List.mem_append_left _ (List.mem_of_getElem? (i := 138) rfl)) rfl
theorem t_1_139 : Cond.code ⟨"TablesMatch$Hand", "take", "(III)V"⟩ prog_3_method_2_code 5 none ∈ my_tbl := tm_t (List.mem_append_left _ (List.mem_of_getElem? (i := 139) rfl)) rfl
theorem t_1_140 : Cond.methodLink "TablesMatch$Hand" 26 ⟨"TablesMatch$Hand", "mostUsable", "(I)I"⟩ ∈ my_tbl := tm_t (List.mem_append_left _ (List.mem_of_getElem? (i := 140) rfl)) rfl
theorem t_1_142 : Cond.instanceMethod ⟨"TablesMatch$Hand", "mostUsable", "(I)I"⟩ ∈ my_tbl := tm_t (List.mem_append_left _ (List.mem_of_getElem? (i := 142) rfl)) rfl
theorem t_1_143 : Cond.code ⟨"TablesMatch$Hand", "mostUsable", "(I)I"⟩ prog_3_method_7_code 5 (some FieldType.int) ∈ my_tbl := tm_t (List.mem_append_left _ (List.mem_of_getElem? (i := 143) rfl)) rfl
theorem t_1_144 : Cond.methodLink "TablesMatch$Hand" 37 ⟨"TablesMatch$Board", "canMove", "(III)Z"⟩ ∈ my_tbl := tm_t (List.mem_append_left _ (List.mem_of_getElem? (i := 144) rfl)) rfl
theorem t_1_145 : Cond.instanceMethod ⟨"TablesMatch$Board", "canMove", "(III)Z"⟩ ∈ my_tbl := tm_t (List.mem_append_left _ (List.mem_of_getElem? (i := 145) rfl)) rfl
theorem t_1_146 : Cond.selects "TablesMatch$Board" ⟨"TablesMatch$Board", "canMove", "(III)Z"⟩ ⟨"TablesMatch$Board", "canMove", "(III)Z"⟩ ∈ my_tbl := tm_t (List.mem_append_left _ (List.mem_of_getElem? (i := 146) rfl)) rfl
theorem t_1_147 : Cond.code ⟨"TablesMatch$Board", "canMove", "(III)Z"⟩ prog_2_method_4_code 7 (some FieldType.boolean) ∈ my_tbl := tm_t (List.mem_append_left _ (List.mem_of_getElem? (i := 147) rfl)) rfl
theorem t_1_148 : Cond.methodLinkNest "TablesMatch$Board" 26 ⟨"TablesMatch", "isNumber", "(I)Z"⟩ "TablesMatch" ∈ nest_tbl := tm_n (List.mem_append_left _ (List.mem_of_getElem? (i := 148) rfl)) rfl
theorem t_1_149 : Cond.methodLink "TablesMatch$Board" 30 ⟨"TablesMatch$Board", "rearmostPlace", "([I)I"⟩ ∈ my_tbl := tm_t (List.mem_append_left _ (List.mem_of_getElem? (i := 149) rfl)) rfl
theorem t_1_150 : Cond.static ⟨"TablesMatch$Board", "rearmostPlace", "([I)I"⟩ ∈ my_tbl := tm_t (List.mem_append_left _ (List.mem_of_getElem? (i := 150) rfl)) rfl
theorem t_1_151 : Cond.code ⟨"TablesMatch$Board", "rearmostPlace", "([I)I"⟩ prog_2_method_11_code 2 (some FieldType.int) ∈ my_tbl := tm_t (List.mem_append_left _ (List.mem_of_getElem? (i := 151) rfl)) rfl
theorem t_1_152 : Cond.methodLink "TablesMatch$Hand" 46 ⟨"TablesMatch$Hand", "mostUsableAfter", "(III)I"⟩ ∈ my_tbl := tm_t (List.mem_append_left _ (List.mem_of_getElem? (i := 152) rfl)) rfl
theorem t_1_154 : Cond.instanceMethod ⟨"TablesMatch$Hand", "mostUsableAfter", "(III)I"⟩ ∈ my_tbl := tm_t (List.mem_append_left _ (List.mem_of_getElem? (i := 154) rfl)) rfl
theorem t_1_155 : Cond.code ⟨"TablesMatch$Hand", "mostUsableAfter", "(III)I"⟩ prog_3_method_8_code 5 (some FieldType.int) ∈ my_tbl := tm_t (List.mem_append_left _ (List.mem_of_getElem? (i := 155) rfl)) rfl
theorem t_1_156 : Cond.methodLink "TablesMatch$Hand" 54 ⟨"TablesMatch$Board", "shift", "(III)V"⟩ ∈ my_tbl := tm_t (List.mem_append_left _ (List.mem_of_getElem? (i := 156) rfl)) rfl
theorem t_1_157 : Cond.instanceMethod ⟨"TablesMatch$Board", "shift", "(III)V"⟩ ∈ my_tbl := tm_t (List.mem_append_left _ (List.mem_of_getElem? (i := 157) rfl)) rfl
theorem t_1_158 : Cond.selects "TablesMatch$Board" ⟨"TablesMatch$Board", "shift", "(III)V"⟩ ⟨"TablesMatch$Board", "shift", "(III)V"⟩ ∈ my_tbl := tm_t (List.mem_append_left _ (List.mem_of_getElem? (i := 158) rfl)) rfl
theorem t_1_159 : Cond.code ⟨"TablesMatch$Board", "shift", "(III)V"⟩ prog_2_method_6_code 4 none ∈ my_tbl := tm_t (List.mem_append_left _ (List.mem_of_getElem? (i := 159) rfl)) rfl
theorem t_1_160 : Cond.methodLink "TablesMatch$Board" 38 ⟨"java/lang/Math", "max", "(II)I"⟩ ∈ my_tbl := tm_t (List.mem_append_left _ (List.mem_of_getElem? (i := 160) rfl)) rfl
theorem t_1_161 : Cond.methodLink "TablesMatch$Hand" 71 ⟨"TablesMatch$Board", "shiftBack", "(III)V"⟩ ∈ my_tbl := tm_t (List.mem_append_left _ (List.mem_of_getElem? (i := 161) rfl)) rfl
theorem t_1_162 : Cond.instanceMethod ⟨"TablesMatch$Board", "shiftBack", "(III)V"⟩ ∈ my_tbl := tm_t (List.mem_append_left _ (List.mem_of_getElem? (i := 162) rfl)) rfl
theorem t_1_163 : Cond.selects "TablesMatch$Board" ⟨"TablesMatch$Board", "shiftBack", "(III)V"⟩ ⟨"TablesMatch$Board", "shiftBack", "(III)V"⟩ ∈ my_tbl := tm_t (List.mem_append_left _ (List.mem_of_getElem? (i := 163) rfl)) rfl
theorem t_1_164 : Cond.code ⟨"TablesMatch$Board", "shiftBack", "(III)V"⟩ prog_2_method_7_code 4 none ∈ my_tbl := tm_t (List.mem_append_left _ (List.mem_of_getElem? (i := 164) rfl)) rfl
theorem t_1_165 : Cond.methodLink "TablesMatch$Hand" 65 ⟨"java/lang/Math", "max", "(II)I"⟩ ∈ my_tbl := tm_t (List.mem_append_left _ (List.mem_of_getElem? (i := 165) rfl)) rfl
theorem t_1_166 : Cond.methodLink "TablesMatch" 73 ⟨"TablesMatch", "endTurnIfDone", "()I"⟩ ∈ my_tbl := tm_t (List.mem_append_left _ (List.mem_of_getElem? (i := 166) rfl)) rfl
theorem t_1_168 : Cond.instanceMethod ⟨"TablesMatch", "endTurnIfDone", "()I"⟩ ∈ my_tbl := tm_t (List.mem_append_left _ (List.mem_of_getElem? (i := 168) rfl)) rfl
theorem t_1_169 : Cond.code ⟨"TablesMatch", "endTurnIfDone", "()I"⟩ prog_1_method_25_code 1 (some FieldType.int) ∈ my_tbl := tm_t (List.mem_append_left _ (List.mem_of_getElem? (i := 169) rfl)) rfl
theorem t_1_170 : Cond.methodLink "TablesMatchLaw" 31 ⟨"TablesMatch", "move", "(II)I"⟩ ∈ my_tbl := tm_t (List.mem_append_left _ (List.mem_of_getElem? (i := 170) rfl)) rfl
theorem t_1_171 : Cond.instanceMethod ⟨"TablesMatch", "move", "(II)I"⟩ ∈ my_tbl := tm_t (List.mem_append_left _ (List.mem_of_getElem? (i := 171) rfl)) rfl
theorem t_1_172 : Cond.selects "TablesMatch" ⟨"TablesMatch", "move", "(II)I"⟩ ⟨"TablesMatch", "move", "(II)I"⟩ ∈ my_tbl := tm_t (List.mem_append_left _ (List.mem_of_getElem? (i := 172) rfl)) rfl
theorem t_1_173 : Cond.code ⟨"TablesMatch", "move", "(II)I"⟩ prog_1_method_4_code 3 (some FieldType.int) ∈ my_tbl := tm_t (List.mem_append_left _ (List.mem_of_getElem? (i := 173) rfl)) rfl
theorem t_1_174 : Cond.methodLink "TablesMatch" 77 ⟨"TablesMatch$Hand", "isRight", "(II)Z"⟩ ∈ my_tbl := tm_t (List.mem_append_left _ (List.mem_of_getElem? (i := 174) rfl)) rfl
theorem t_1_175 : Cond.instanceMethod ⟨"TablesMatch$Hand", "isRight", "(II)Z"⟩ ∈ my_tbl := tm_t (List.mem_append_left _ (List.mem_of_getElem? (i := 175) rfl)) rfl
theorem t_1_176 : Cond.selects "TablesMatch$Hand" ⟨"TablesMatch$Hand", "isRight", "(II)Z"⟩ ⟨"TablesMatch$Hand", "isRight", "(II)Z"⟩ ∈ my_tbl := tm_t (List.mem_append_left _ (List.mem_of_getElem? (i := 176) rfl)) rfl
theorem t_1_177 : Cond.code ⟨"TablesMatch$Hand", "isRight", "(II)Z"⟩ prog_3_method_3_code 3 (some FieldType.boolean) ∈ my_tbl := tm_t (List.mem_append_left _ (List.mem_of_getElem? (i := 177) rfl)) rfl
theorem t_1_178 : Cond.methodLinkNest "TablesMatch$Hand" 33 ⟨"TablesMatch", "isNumber", "(I)Z"⟩ "TablesMatch" ∈ nest_tbl := tm_n (List.mem_append_left _ (List.mem_of_getElem? (i := 178) rfl)) rfl
theorem t_1_179 : Cond.methodLink "TablesMatch$Hand" 43 ⟨"TablesMatch$Hand", "canMoveGreater", "(I)Z"⟩ ∈ my_tbl := tm_t (List.mem_append_left _ (List.mem_of_getElem? (i := 179) rfl)) rfl
theorem t_1_181 : Cond.instanceMethod ⟨"TablesMatch$Hand", "canMoveGreater", "(I)Z"⟩ ∈ my_tbl := tm_t (List.mem_append_left _ (List.mem_of_getElem? (i := 181) rfl)) rfl
theorem t_1_182 : Cond.code ⟨"TablesMatch$Hand", "canMoveGreater", "(I)Z"⟩ prog_3_method_6_code 3 (some FieldType.boolean) ∈ my_tbl := tm_t (List.mem_append_left _ (List.mem_of_getElem? (i := 182) rfl)) rfl
theorem t_1_183 : Cond.methodLink "TablesMatch$Hand" 62 ⟨"TablesMatch$Board", "canMoveAny", "(II)Z"⟩ ∈ my_tbl := tm_t (List.mem_append_left _ (List.mem_of_getElem? (i := 183) rfl)) rfl
theorem t_1_184 : Cond.instanceMethod ⟨"TablesMatch$Board", "canMoveAny", "(II)Z"⟩ ∈ my_tbl := tm_t (List.mem_append_left _ (List.mem_of_getElem? (i := 184) rfl)) rfl
theorem t_1_185 : Cond.selects "TablesMatch$Board" ⟨"TablesMatch$Board", "canMoveAny", "(II)Z"⟩ ⟨"TablesMatch$Board", "canMoveAny", "(II)Z"⟩ ∈ my_tbl := tm_t (List.mem_append_left _ (List.mem_of_getElem? (i := 185) rfl)) rfl
theorem t_1_186 : Cond.code ⟨"TablesMatch$Board", "canMoveAny", "(II)Z"⟩ prog_2_method_5_code 4 (some FieldType.boolean) ∈ my_tbl := tm_t (List.mem_append_left _ (List.mem_of_getElem? (i := 186) rfl)) rfl
theorem t_1_187 : Cond.methodLink "TablesMatch$Board" 34 ⟨"TablesMatch$Board", "canMove", "(III)Z"⟩ ∈ my_tbl := tm_t (List.mem_append_left _ (List.mem_of_getElem? (i := 187) rfl)) rfl
theorem t_1_188 : Cond.methodLink "TablesMatch" 81 ⟨"TablesMatch", "play", "(II)I"⟩ ∈ my_tbl := tm_t (List.mem_append_left _ (List.mem_of_getElem? (i := 188) rfl)) rfl
theorem t_1_190 : Cond.instanceMethod ⟨"TablesMatch", "play", "(II)I"⟩ ∈ my_tbl := tm_t (List.mem_append_left _ (List.mem_of_getElem? (i := 190) rfl)) rfl
theorem t_1_191 : Cond.code ⟨"TablesMatch", "play", "(II)I"⟩ prog_1_method_24_code 3 (some FieldType.int) ∈ my_tbl := tm_t (List.mem_append_left _ (List.mem_of_getElem? (i := 191) rfl)) rfl
theorem t_1_192 : Cond.methodLink "TablesMatch" 126 ⟨"TablesMatch$Hand", "use", "(II)V"⟩ ∈ my_tbl := tm_t (List.mem_append_left _ (List.mem_of_getElem? (i := 192) rfl)) rfl
theorem t_1_193 : Cond.instanceMethod ⟨"TablesMatch$Hand", "use", "(II)V"⟩ ∈ my_tbl := tm_t (List.mem_append_left _ (List.mem_of_getElem? (i := 193) rfl)) rfl
theorem t_1_194 : Cond.selects "TablesMatch$Hand" ⟨"TablesMatch$Hand", "use", "(II)V"⟩ ⟨"TablesMatch$Hand", "use", "(II)V"⟩ ∈ my_tbl := tm_t (List.mem_append_left _ (List.mem_of_getElem? (i := 194) rfl)) rfl
theorem t_1_195 : Cond.code ⟨"TablesMatch$Hand", "use", "(II)V"⟩ prog_3_method_5_code 3 none ∈ my_tbl := tm_t (List.mem_append_left _ (List.mem_of_getElem? (i := 195) rfl)) rfl
theorem t_1_196 : Cond.methodLink "TablesMatch$Hand" 58 ⟨"TablesMatch$Board", "hit", "(II)V"⟩ ∈ my_tbl := tm_t (List.mem_append_left _ (List.mem_of_getElem? (i := 196) rfl)) rfl
theorem t_1_197 : Cond.instanceMethod ⟨"TablesMatch$Board", "hit", "(II)V"⟩ ∈ my_tbl := tm_t (List.mem_append_left _ (List.mem_of_getElem? (i := 197) rfl)) rfl
theorem t_1_198 : Cond.selects "TablesMatch$Board" ⟨"TablesMatch$Board", "hit", "(II)V"⟩ ⟨"TablesMatch$Board", "hit", "(II)V"⟩ ∈ my_tbl := tm_t (List.mem_append_left _ (List.mem_of_getElem? (i := 198) rfl)) rfl
theorem t_1_199 : Cond.code ⟨"TablesMatch$Board", "hit", "(II)V"⟩ prog_2_method_8_code 4 none ∈ my_tbl := tm_t (List.mem_append_left _ (List.mem_of_getElem? (i := 199) rfl)) rfl
theorem t_1_200 : Cond.methodLink "TablesMatch" 130 ⟨"TablesMatch$Board", "timesCounted", "(I)I"⟩ ∈ my_tbl := tm_t (List.mem_append_left _ (List.mem_of_getElem? (i := 200) rfl)) rfl
theorem t_1_201 : Cond.instanceMethod ⟨"TablesMatch$Board", "timesCounted", "(I)I"⟩ ∈ my_tbl := tm_t (List.mem_append_left _ (List.mem_of_getElem? (i := 201) rfl)) rfl
theorem t_1_202 : Cond.selects "TablesMatch$Board" ⟨"TablesMatch$Board", "timesCounted", "(I)I"⟩ ⟨"TablesMatch$Board", "timesCounted", "(I)I"⟩ ∈ my_tbl := tm_t (List.mem_append_left _ (List.mem_of_getElem? (i := 202) rfl)) rfl
theorem t_1_203 : Cond.code ⟨"TablesMatch$Board", "timesCounted", "(I)I"⟩ prog_2_method_10_code 3 (some FieldType.int) ∈ my_tbl := tm_t (List.mem_append_left _ (List.mem_of_getElem? (i := 203) rfl)) rfl
theorem t_1_204 : Cond.methodLink "TablesMatch" 103 ⟨"TablesMatch", "winGame", "(I)I"⟩ ∈ my_tbl := tm_t (List.mem_append_left _ (List.mem_of_getElem? (i := 204) rfl)) rfl
theorem t_1_206 : Cond.instanceMethod ⟨"TablesMatch", "winGame", "(I)I"⟩ ∈ my_tbl := tm_t (List.mem_append_left _ (List.mem_of_getElem? (i := 206) rfl)) rfl
theorem t_1_207 : Cond.code ⟨"TablesMatch", "winGame", "(I)I"⟩ prog_1_method_26_code 2 (some FieldType.int) ∈ my_tbl := tm_t (List.mem_append_left _ (List.mem_of_getElem? (i := 207) rfl)) rfl
theorem t_1_208 : Cond.methodLink "TablesMatchLaw" 35 ⟨"TablesMatch", "step", "(I)I"⟩ ∈ my_tbl := tm_t (List.mem_append_left _ (List.mem_of_getElem? (i := 208) rfl)) rfl
theorem t_1_209 : Cond.instanceMethod ⟨"TablesMatch", "step", "(I)I"⟩ ∈ my_tbl := tm_t (List.mem_append_left _ (List.mem_of_getElem? (i := 209) rfl)) rfl
theorem t_1_210 : Cond.selects "TablesMatch" ⟨"TablesMatch", "step", "(I)I"⟩ ⟨"TablesMatch", "step", "(I)I"⟩ ∈ my_tbl := tm_t (List.mem_append_left _ (List.mem_of_getElem? (i := 210) rfl)) rfl
theorem t_1_211 : Cond.code ⟨"TablesMatch", "step", "(I)I"⟩ prog_1_method_5_code 5 (some FieldType.int) ∈ my_tbl := tm_t (List.mem_append_left _ (List.mem_of_getElem? (i := 211) rfl)) rfl
theorem t_1_212 : Cond.methodLink "TablesMatchLaw" 40 ⟨"TablesMatch", "ways", "()I"⟩ ∈ my_tbl := tm_t (List.mem_append_left _ (List.mem_of_getElem? (i := 212) rfl)) rfl
theorem t_1_213 : Cond.instanceMethod ⟨"TablesMatch", "ways", "()I"⟩ ∈ my_tbl := tm_t (List.mem_append_left _ (List.mem_of_getElem? (i := 213) rfl)) rfl
theorem t_1_214 : Cond.selects "TablesMatch" ⟨"TablesMatch", "ways", "()I"⟩ ⟨"TablesMatch", "ways", "()I"⟩ ∈ my_tbl := tm_t (List.mem_append_left _ (List.mem_of_getElem? (i := 214) rfl)) rfl
theorem t_1_215 : Cond.code ⟨"TablesMatch", "ways", "()I"⟩ prog_1_method_6_code 1 (some FieldType.int) ∈ my_tbl := tm_t (List.mem_append_left _ (List.mem_of_getElem? (i := 215) rfl)) rfl
theorem t_1_216 : Cond.methodLink "TablesMatch" 84 ⟨"TablesMatch$Hand", "countRight", "()I"⟩ ∈ my_tbl := tm_t (List.mem_append_left _ (List.mem_of_getElem? (i := 216) rfl)) rfl
theorem t_1_217 : Cond.instanceMethod ⟨"TablesMatch$Hand", "countRight", "()I"⟩ ∈ my_tbl := tm_t (List.mem_append_left _ (List.mem_of_getElem? (i := 217) rfl)) rfl
theorem t_1_218 : Cond.selects "TablesMatch$Hand" ⟨"TablesMatch$Hand", "countRight", "()I"⟩ ⟨"TablesMatch$Hand", "countRight", "()I"⟩ ∈ my_tbl := tm_t (List.mem_append_left _ (List.mem_of_getElem? (i := 218) rfl)) rfl
theorem t_1_219 : Cond.code ⟨"TablesMatch$Hand", "countRight", "()I"⟩ prog_3_method_4_code 4 (some FieldType.int) ∈ my_tbl := tm_t (List.mem_append_left _ (List.mem_of_getElem? (i := 219) rfl)) rfl
theorem t_1_220 : Cond.methodLink "TablesMatch$Hand" 50 ⟨"TablesMatch$Hand", "isRight", "(II)Z"⟩ ∈ my_tbl := tm_t (List.mem_append_left _ (List.mem_of_getElem? (i := 220) rfl)) rfl
theorem t_1_221 : Cond.methodLink "TablesMatchLaw" 45 ⟨"TablesMatch", "due", "()I"⟩ ∈ my_tbl := tm_t (List.mem_append_left _ (List.mem_of_getElem? (i := 221) rfl)) rfl
theorem t_1_222 : Cond.instanceMethod ⟨"TablesMatch", "due", "()I"⟩ ∈ my_tbl := tm_t (List.mem_append_left _ (List.mem_of_getElem? (i := 222) rfl)) rfl
theorem t_1_223 : Cond.selects "TablesMatch" ⟨"TablesMatch", "due", "()I"⟩ ⟨"TablesMatch", "due", "()I"⟩ ∈ my_tbl := tm_t (List.mem_append_left _ (List.mem_of_getElem? (i := 223) rfl)) rfl
theorem t_1_224 : Cond.code ⟨"TablesMatch", "due", "()I"⟩ prog_1_method_7_code 1 (some FieldType.int) ∈ my_tbl := tm_t (List.mem_append_left _ (List.mem_of_getElem? (i := 224) rfl)) rfl
theorem t_1_225 : Cond.methodLink "TablesMatchLaw" 49 ⟨"TablesMatch", "left", "(I)I"⟩ ∈ my_tbl := tm_t (List.mem_append_left _ (List.mem_of_getElem? (i := 225) rfl)) rfl
theorem t_1_226 : Cond.instanceMethod ⟨"TablesMatch", "left", "(I)I"⟩ ∈ my_tbl := tm_t (List.mem_append_left _ (List.mem_of_getElem? (i := 226) rfl)) rfl
theorem t_1_227 : Cond.selects "TablesMatch" ⟨"TablesMatch", "left", "(I)I"⟩ ⟨"TablesMatch", "left", "(I)I"⟩ ∈ my_tbl := tm_t (List.mem_append_left _ (List.mem_of_getElem? (i := 227) rfl)) rfl
theorem t_1_228 : Cond.code ⟨"TablesMatch", "left", "(I)I"⟩ prog_1_method_8_code 2 (some FieldType.int) ∈ my_tbl := tm_t (List.mem_append_left _ (List.mem_of_getElem? (i := 228) rfl)) rfl
theorem t_1_229 : Cond.methodLink "TablesMatchLaw" 53 ⟨"TablesMatch", "offer", "()Z"⟩ ∈ my_tbl := tm_t (List.mem_append_left _ (List.mem_of_getElem? (i := 229) rfl)) rfl
theorem t_1_230 : Cond.instanceMethod ⟨"TablesMatch", "offer", "()Z"⟩ ∈ my_tbl := tm_t (List.mem_append_left _ (List.mem_of_getElem? (i := 230) rfl)) rfl
theorem t_1_231 : Cond.selects "TablesMatch" ⟨"TablesMatch", "offer", "()Z"⟩ ⟨"TablesMatch", "offer", "()Z"⟩ ∈ my_tbl := tm_t (List.mem_append_left _ (List.mem_of_getElem? (i := 231) rfl)) rfl
theorem t_1_232 : Cond.code ⟨"TablesMatch", "offer", "()Z"⟩ prog_1_method_9_code 1 (some FieldType.boolean) ∈ my_tbl := tm_t (List.mem_append_left _ (List.mem_of_getElem? (i := 232) rfl)) rfl
theorem t_1_233 : Cond.methodLink "TablesMatchLaw" 58 ⟨"TablesMatch", "answer", "(Z)I"⟩ ∈ my_tbl := tm_t (List.mem_append_left _ (List.mem_of_getElem? (i := 233) rfl)) rfl
theorem t_1_234 : Cond.instanceMethod ⟨"TablesMatch", "answer", "(Z)I"⟩ ∈ my_tbl := tm_t (List.mem_append_left _ (List.mem_of_getElem? (i := 234) rfl)) rfl
theorem t_1_235 : Cond.selects "TablesMatch" ⟨"TablesMatch", "answer", "(Z)I"⟩ ⟨"TablesMatch", "answer", "(Z)I"⟩ ∈ my_tbl := tm_t (List.mem_append_left _ (List.mem_of_getElem? (i := 235) rfl)) rfl
theorem t_1_236 : Cond.code ⟨"TablesMatch", "answer", "(Z)I"⟩ prog_1_method_10_code 2 (some FieldType.int) ∈ my_tbl := tm_t (List.mem_append_left _ (List.mem_of_getElem? (i := 236) rfl)) rfl
theorem t_1_237 : Cond.methodLink "TablesMatchLaw" 63 ⟨"TablesMatch", "phase", "()I"⟩ ∈ my_tbl := tm_t (List.mem_append_left _ (List.mem_of_getElem? (i := 237) rfl)) rfl
theorem t_1_238 : Cond.instanceMethod ⟨"TablesMatch", "phase", "()I"⟩ ∈ my_tbl := tm_t (List.mem_append_left _ (List.mem_of_getElem? (i := 238) rfl)) rfl
theorem t_1_239 : Cond.selects "TablesMatch" ⟨"TablesMatch", "phase", "()I"⟩ ⟨"TablesMatch", "phase", "()I"⟩ ∈ my_tbl := tm_t (List.mem_append_left _ (List.mem_of_getElem? (i := 239) rfl)) rfl
theorem t_2_0 : Cond.code ⟨"TablesMatch", "phase", "()I"⟩ prog_1_method_11_code 1 (some FieldType.int) ∈ my_tbl := tm_t (List.mem_append_right _ (List.mem_append_left _ (List.mem_of_getElem? (i := 0) rfl))) rfl
theorem t_2_1 : Cond.methodLink "TablesMatchLaw" 67 ⟨"TablesMatch", "turn", "()I"⟩ ∈ my_tbl := tm_t (List.mem_append_right _ (List.mem_append_left _ (List.mem_of_getElem? (i := 1) rfl))) rfl
theorem t_2_2 : Cond.instanceMethod ⟨"TablesMatch", "turn", "()I"⟩ ∈ my_tbl := tm_t (List.mem_append_right _ (List.mem_append_left _ (List.mem_of_getElem? (i := 2) rfl))) rfl
theorem t_2_3 : Cond.selects "TablesMatch" ⟨"TablesMatch", "turn", "()I"⟩ ⟨"TablesMatch", "turn", "()I"⟩ ∈ my_tbl := tm_t (List.mem_append_right _ (List.mem_append_left _ (List.mem_of_getElem? (i := 3) rfl))) rfl
theorem t_2_4 : Cond.code ⟨"TablesMatch", "turn", "()I"⟩ prog_1_method_12_code 1 (some FieldType.int) ∈ my_tbl := tm_t (List.mem_append_right _ (List.mem_append_left _ (List.mem_of_getElem? (i := 4) rfl))) rfl
theorem t_2_5 : Cond.methodLink "TablesMatchLaw" 71 ⟨"TablesMatch", "men", "(II)I"⟩ ∈ my_tbl := tm_t (List.mem_append_right _ (List.mem_append_left _ (List.mem_of_getElem? (i := 5) rfl))) rfl
theorem t_2_6 : Cond.instanceMethod ⟨"TablesMatch", "men", "(II)I"⟩ ∈ my_tbl := tm_t (List.mem_append_right _ (List.mem_append_left _ (List.mem_of_getElem? (i := 6) rfl))) rfl
theorem t_2_7 : Cond.selects "TablesMatch" ⟨"TablesMatch", "men", "(II)I"⟩ ⟨"TablesMatch", "men", "(II)I"⟩ ∈ my_tbl := tm_t (List.mem_append_right _ (List.mem_append_left _ (List.mem_of_getElem? (i := 7) rfl))) rfl
theorem t_2_8 : Cond.code ⟨"TablesMatch", "men", "(II)I"⟩ prog_1_method_13_code 3 (some FieldType.int) ∈ my_tbl := tm_t (List.mem_append_right _ (List.mem_append_left _ (List.mem_of_getElem? (i := 8) rfl))) rfl
theorem t_2_9 : Cond.methodLink "TablesMatchLaw" 75 ⟨"TablesMatch", "pips", "(I)I"⟩ ∈ my_tbl := tm_t (List.mem_append_right _ (List.mem_append_left _ (List.mem_of_getElem? (i := 9) rfl))) rfl
theorem t_2_10 : Cond.instanceMethod ⟨"TablesMatch", "pips", "(I)I"⟩ ∈ my_tbl := tm_t (List.mem_append_right _ (List.mem_append_left _ (List.mem_of_getElem? (i := 10) rfl))) rfl
theorem t_2_11 : Cond.selects "TablesMatch" ⟨"TablesMatch", "pips", "(I)I"⟩ ⟨"TablesMatch", "pips", "(I)I"⟩ ∈ my_tbl := tm_t (List.mem_append_right _ (List.mem_append_left _ (List.mem_of_getElem? (i := 11) rfl))) rfl
theorem t_2_12 : Cond.code ⟨"TablesMatch", "pips", "(I)I"⟩ prog_1_method_14_code 2 (some FieldType.int) ∈ my_tbl := tm_t (List.mem_append_right _ (List.mem_append_left _ (List.mem_of_getElem? (i := 12) rfl))) rfl
theorem t_2_13 : Cond.methodLink "TablesMatch" 111 ⟨"TablesMatch$Board", "countPips", "(I)I"⟩ ∈ my_tbl := tm_t (List.mem_append_right _ (List.mem_append_left _ (List.mem_of_getElem? (i := 13) rfl))) rfl
theorem t_2_14 : Cond.instanceMethod ⟨"TablesMatch$Board", "countPips", "(I)I"⟩ ∈ my_tbl := tm_t (List.mem_append_right _ (List.mem_append_left _ (List.mem_of_getElem? (i := 14) rfl))) rfl
theorem t_2_15 : Cond.selects "TablesMatch$Board" ⟨"TablesMatch$Board", "countPips", "(I)I"⟩ ⟨"TablesMatch$Board", "countPips", "(I)I"⟩ ∈ my_tbl := tm_t (List.mem_append_right _ (List.mem_append_left _ (List.mem_of_getElem? (i := 15) rfl))) rfl
theorem t_2_16 : Cond.code ⟨"TablesMatch$Board", "countPips", "(I)I"⟩ prog_2_method_9_code 4 (some FieldType.int) ∈ my_tbl := tm_t (List.mem_append_right _ (List.mem_append_left _ (List.mem_of_getElem? (i := 16) rfl))) rfl
theorem t_2_17 : Cond.methodLink "TablesMatchLaw" 79 ⟨"TablesMatch", "cube", "()I"⟩ ∈ my_tbl := tm_t (List.mem_append_right _ (List.mem_append_left _ (List.mem_of_getElem? (i := 17) rfl))) rfl
theorem t_2_18 : Cond.instanceMethod ⟨"TablesMatch", "cube", "()I"⟩ ∈ my_tbl := tm_t (List.mem_append_right _ (List.mem_append_left _ (List.mem_of_getElem? (i := 18) rfl))) rfl
theorem t_2_19 : Cond.selects "TablesMatch" ⟨"TablesMatch", "cube", "()I"⟩ ⟨"TablesMatch", "cube", "()I"⟩ ∈ my_tbl := tm_t (List.mem_append_right _ (List.mem_append_left _ (List.mem_of_getElem? (i := 19) rfl))) rfl
theorem t_2_20 : Cond.code ⟨"TablesMatch", "cube", "()I"⟩ prog_1_method_15_code 1 (some FieldType.int) ∈ my_tbl := tm_t (List.mem_append_right _ (List.mem_append_left _ (List.mem_of_getElem? (i := 20) rfl))) rfl
theorem t_2_21 : Cond.methodLink "TablesMatchLaw" 83 ⟨"TablesMatch", "owner", "()I"⟩ ∈ my_tbl := tm_t (List.mem_append_right _ (List.mem_append_left _ (List.mem_of_getElem? (i := 21) rfl))) rfl
theorem t_2_22 : Cond.instanceMethod ⟨"TablesMatch", "owner", "()I"⟩ ∈ my_tbl := tm_t (List.mem_append_right _ (List.mem_append_left _ (List.mem_of_getElem? (i := 22) rfl))) rfl
theorem t_2_23 : Cond.selects "TablesMatch" ⟨"TablesMatch", "owner", "()I"⟩ ⟨"TablesMatch", "owner", "()I"⟩ ∈ my_tbl := tm_t (List.mem_append_right _ (List.mem_append_left _ (List.mem_of_getElem? (i := 23) rfl))) rfl
theorem t_2_24 : Cond.code ⟨"TablesMatch", "owner", "()I"⟩ prog_1_method_16_code 1 (some FieldType.int) ∈ my_tbl := tm_t (List.mem_append_right _ (List.mem_append_left _ (List.mem_of_getElem? (i := 24) rfl))) rfl
theorem t_2_25 : Cond.methodLink "TablesMatchLaw" 87 ⟨"TablesMatch", "points", "(I)I"⟩ ∈ my_tbl := tm_t (List.mem_append_right _ (List.mem_append_left _ (List.mem_of_getElem? (i := 25) rfl))) rfl
theorem t_2_26 : Cond.instanceMethod ⟨"TablesMatch", "points", "(I)I"⟩ ∈ my_tbl := tm_t (List.mem_append_right _ (List.mem_append_left _ (List.mem_of_getElem? (i := 26) rfl))) rfl
theorem t_2_27 : Cond.selects "TablesMatch" ⟨"TablesMatch", "points", "(I)I"⟩ ⟨"TablesMatch", "points", "(I)I"⟩ ∈ my_tbl := tm_t (List.mem_append_right _ (List.mem_append_left _ (List.mem_of_getElem? (i := 27) rfl))) rfl
theorem t_2_28 : Cond.code ⟨"TablesMatch", "points", "(I)I"⟩ prog_1_method_17_code 2 (some FieldType.int) ∈ my_tbl := tm_t (List.mem_append_right _ (List.mem_append_left _ (List.mem_of_getElem? (i := 28) rfl))) rfl
theorem t_2_29 : Cond.methodLink "TablesMatchLaw" 91 ⟨"TablesMatch", "crawford", "()Z"⟩ ∈ my_tbl := tm_t (List.mem_append_right _ (List.mem_append_left _ (List.mem_of_getElem? (i := 29) rfl))) rfl
theorem t_2_30 : Cond.instanceMethod ⟨"TablesMatch", "crawford", "()Z"⟩ ∈ my_tbl := tm_t (List.mem_append_right _ (List.mem_append_left _ (List.mem_of_getElem? (i := 30) rfl))) rfl
theorem t_2_31 : Cond.selects "TablesMatch" ⟨"TablesMatch", "crawford", "()Z"⟩ ⟨"TablesMatch", "crawford", "()Z"⟩ ∈ my_tbl := tm_t (List.mem_append_right _ (List.mem_append_left _ (List.mem_of_getElem? (i := 31) rfl))) rfl
theorem t_2_32 : Cond.code ⟨"TablesMatch", "crawford", "()Z"⟩ prog_1_method_18_code 1 (some FieldType.boolean) ∈ my_tbl := tm_t (List.mem_append_right _ (List.mem_append_left _ (List.mem_of_getElem? (i := 32) rfl))) rfl
theorem t_2_33 : Cond.methodLink "TablesMatchLaw" 95 ⟨"TablesMatch", "chance", "(IIII)J"⟩ ∈ my_tbl := tm_t (List.mem_append_right _ (List.mem_append_left _ (List.mem_of_getElem? (i := 33) rfl))) rfl
theorem t_2_34 : Cond.instanceMethod ⟨"TablesMatch", "chance", "(IIII)J"⟩ ∈ my_tbl := tm_t (List.mem_append_right _ (List.mem_append_left _ (List.mem_of_getElem? (i := 34) rfl))) rfl
theorem t_2_35 : Cond.selects "TablesMatch" ⟨"TablesMatch", "chance", "(IIII)J"⟩ ⟨"TablesMatch", "chance", "(IIII)J"⟩ ∈ my_tbl := tm_t (List.mem_append_right _ (List.mem_append_left _ (List.mem_of_getElem? (i := 35) rfl))) rfl
theorem t_2_36 : Cond.code ⟨"TablesMatch", "chance", "(IIII)J"⟩ prog_1_method_19_code 5 (some FieldType.long) ∈ my_tbl := tm_t (List.mem_append_right _ (List.mem_append_left _ (List.mem_of_getElem? (i := 36) rfl))) rfl
theorem t_2_37 : Cond.methodLink "TablesMatch" 114 ⟨"TablesMatch", "isRacePoint", "(I)Z"⟩ ∈ my_tbl := tm_t (List.mem_append_right _ (List.mem_append_left _ (List.mem_of_getElem? (i := 37) rfl))) rfl
theorem t_2_38 : Cond.static ⟨"TablesMatch", "isRacePoint", "(I)Z"⟩ ∈ my_tbl := tm_t (List.mem_append_right _ (List.mem_append_left _ (List.mem_of_getElem? (i := 38) rfl))) rfl
theorem t_2_39 : Cond.code ⟨"TablesMatch", "isRacePoint", "(I)Z"⟩ prog_1_method_22_code 1 (some FieldType.boolean) ∈ my_tbl := tm_t (List.mem_append_right _ (List.mem_append_left _ (List.mem_of_getElem? (i := 39) rfl))) rfl
theorem t_2_40 : Cond.constantLong "TablesMatch" 117 (-1 : Int64) ∈ my_tbl := tm_t (List.mem_append_right _ (List.mem_append_left _ (List.mem_of_getElem? (i := 40) rfl))) rfl
theorem t_2_41 : Cond.methodLinkNest "TablesMatch" 119 ⟨"TablesMatch$Race", "chanceToRoll", "(IIII)J"⟩ "TablesMatch" ∈ nest_tbl := tm_n (List.mem_append_right _ (List.mem_append_left _ (List.mem_of_getElem? (i := 41) rfl))) rfl
theorem t_2_43 : Cond.instanceMethod ⟨"TablesMatch$Race", "chanceToRoll", "(IIII)J"⟩ ∈ my_tbl := tm_t (List.mem_append_right _ (List.mem_append_left _ (List.mem_of_getElem? (i := 43) rfl))) rfl
theorem t_2_44 : Cond.code ⟨"TablesMatch$Race", "chanceToRoll", "(IIII)J"⟩ prog_4_method_2_code 6 (some FieldType.long) ∈ my_tbl := tm_t (List.mem_append_right _ (List.mem_append_left _ (List.mem_of_getElem? (i := 44) rfl))) rfl
theorem t_2_45 : Cond.constantLong "TablesMatch$Race" 15 (2176782336 : Int64) ∈ my_tbl := tm_t (List.mem_append_right _ (List.mem_append_left _ (List.mem_of_getElem? (i := 45) rfl))) rfl
theorem t_2_46 : Cond.methodLink "TablesMatch$Race" 17 ⟨"TablesMatch$Race", "pairNumber", "(II)I"⟩ ∈ my_tbl := tm_t (List.mem_append_right _ (List.mem_append_left _ (List.mem_of_getElem? (i := 46) rfl))) rfl
theorem t_2_47 : Cond.static ⟨"TablesMatch$Race", "pairNumber", "(II)I"⟩ ∈ my_tbl := tm_t (List.mem_append_right _ (List.mem_append_left _ (List.mem_of_getElem? (i := 47) rfl))) rfl
theorem t_2_48 : Cond.code ⟨"TablesMatch$Race", "pairNumber", "(II)I"⟩ prog_4_method_3_code 3 (some FieldType.int) ∈ my_tbl := tm_t (List.mem_append_right _ (List.mem_append_left _ (List.mem_of_getElem? (i := 48) rfl))) rfl
theorem t_2_49 : Cond.methodLink "TablesMatch$Race" 25 ⟨"java/lang/Math", "max", "(II)I"⟩ ∈ my_tbl := tm_t (List.mem_append_right _ (List.mem_append_left _ (List.mem_of_getElem? (i := 49) rfl))) rfl
theorem t_2_50 : Cond.methodLink "TablesMatch$Race" 30 ⟨"java/lang/Math", "min", "(II)I"⟩ ∈ my_tbl := tm_t (List.mem_append_right _ (List.mem_append_left _ (List.mem_of_getElem? (i := 50) rfl))) rfl
theorem t_2_51 : Cond.methodLink "TablesMatch$Race" 21 ⟨"TablesMatch$Race", "meanOfRolls", "(IIII)J"⟩ ∈ my_tbl := tm_t (List.mem_append_right _ (List.mem_append_left _ (List.mem_of_getElem? (i := 51) rfl))) rfl
theorem t_2_53 : Cond.instanceMethod ⟨"TablesMatch$Race", "meanOfRolls", "(IIII)J"⟩ ∈ my_tbl := tm_t (List.mem_append_right _ (List.mem_append_left _ (List.mem_of_getElem? (i := 53) rfl))) rfl
theorem t_2_54 : Cond.code ⟨"TablesMatch$Race", "meanOfRolls", "(IIII)J"⟩ prog_4_method_4_code 13 (some FieldType.long) ∈ my_tbl := tm_t (List.mem_append_right _ (List.mem_append_left _ (List.mem_of_getElem? (i := 54) rfl))) rfl
theorem t_2_55 : Cond.methodLink "TablesMatch$Race" 33 ⟨"TablesMatch$Race", "bestWithEqual", "(IIIIII)J"⟩ ∈ my_tbl := tm_t (List.mem_append_right _ (List.mem_append_left _ (List.mem_of_getElem? (i := 55) rfl))) rfl
theorem t_2_57 : Cond.instanceMethod ⟨"TablesMatch$Race", "bestWithEqual", "(IIIIII)J"⟩ ∈ my_tbl := tm_t (List.mem_append_right _ (List.mem_append_left _ (List.mem_of_getElem? (i := 57) rfl))) rfl
theorem t_2_58 : Cond.code ⟨"TablesMatch$Race", "bestWithEqual", "(IIIIII)J"⟩ prog_4_method_6_code 12 (some FieldType.long) ∈ my_tbl := tm_t (List.mem_append_right _ (List.mem_append_left _ (List.mem_of_getElem? (i := 58) rfl))) rfl
theorem t_2_59 : Cond.methodLink "TablesMatch$Race" 51 ⟨"TablesMatch$Race", "chanceToRoll", "(IIII)J"⟩ ∈ my_tbl := tm_t (List.mem_append_right _ (List.mem_append_left _ (List.mem_of_getElem? (i := 59) rfl))) rfl
theorem t_2_60 : Cond.methodLink "TablesMatch$Race" 47 ⟨"TablesMatch$Race", "frontCanMove", "(III)Z"⟩ ∈ my_tbl := tm_t (List.mem_append_right _ (List.mem_append_left _ (List.mem_of_getElem? (i := 60) rfl))) rfl
theorem t_2_61 : Cond.static ⟨"TablesMatch$Race", "frontCanMove", "(III)Z"⟩ ∈ my_tbl := tm_t (List.mem_append_right _ (List.mem_append_left _ (List.mem_of_getElem? (i := 61) rfl))) rfl
theorem t_2_62 : Cond.code ⟨"TablesMatch$Race", "frontCanMove", "(III)Z"⟩ prog_4_method_7_code 3 (some FieldType.boolean) ∈ my_tbl := tm_t (List.mem_append_right _ (List.mem_append_left _ (List.mem_of_getElem? (i := 62) rfl))) rfl
theorem t_2_63 : Cond.methodLink "TablesMatch$Race" 42 ⟨"java/lang/Math", "max", "(JJ)J"⟩ ∈ my_tbl := tm_t (List.mem_append_right _ (List.mem_append_left _ (List.mem_of_getElem? (i := 63) rfl))) rfl
theorem t_2_64 : Cond.static ⟨"java/lang/Math", "max", "(JJ)J"⟩ ∈ my_tbl := tm_t (List.mem_append_right _ (List.mem_append_left _ (List.mem_of_getElem? (i := 64) rfl))) rfl
theorem t_2_65 : Cond.code ⟨"java/lang/Math", "max", "(JJ)J"⟩ prog_7_method_66_code 4 (some FieldType.long) ∈ my_tbl := tm_t (List.mem_append_right _ (List.mem_append_left _ (List.mem_of_getElem? (i := 65) rfl))) rfl
theorem t_2_66 : Cond.methodLink "TablesMatch$Race" 37 ⟨"TablesMatch$Race", "bestInOrder", "(IIIIII)J"⟩ ∈ my_tbl := tm_t (List.mem_append_right _ (List.mem_append_left _ (List.mem_of_getElem? (i := 66) rfl))) rfl
theorem t_2_68 : Cond.instanceMethod ⟨"TablesMatch$Race", "bestInOrder", "(IIIIII)J"⟩ ∈ my_tbl := tm_t (List.mem_append_right _ (List.mem_append_left _ (List.mem_of_getElem? (i := 68) rfl))) rfl
theorem t_2_69 : Cond.code ⟨"TablesMatch$Race", "bestInOrder", "(IIIIII)J"⟩ prog_4_method_5_code 11 (some FieldType.long) ∈ my_tbl := tm_t (List.mem_append_right _ (List.mem_append_left _ (List.mem_of_getElem? (i := 69) rfl))) rfl
theorem t_2_70 : Cond.constantLong "TablesMatch$Race" 40 (2 : Int64) ∈ my_tbl := tm_t (List.mem_append_right _ (List.mem_append_left _ (List.mem_of_getElem? (i := 70) rfl))) rfl
theorem t_2_71 : Cond.constantLong "TablesMatch$Race" 45 (36 : Int64) ∈ my_tbl := tm_t (List.mem_append_right _ (List.mem_append_left _ (List.mem_of_getElem? (i := 71) rfl))) rfl
theorem t_2_72 : Cond.methodLink "TablesMatchLaw" 9 ⟨"TablesMatchLaw", "cell", "([II)I"⟩ ∈ my_tbl := tm_t (List.mem_append_right _ (List.mem_append_left _ (List.mem_of_getElem? (i := 72) rfl))) rfl
theorem t_2_73 : Cond.static ⟨"TablesMatchLaw", "cell", "([II)I"⟩ ∈ my_tbl := tm_t (List.mem_append_right _ (List.mem_append_left _ (List.mem_of_getElem? (i := 73) rfl))) rfl
theorem t_2_74 : Cond.code ⟨"TablesMatchLaw", "cell", "([II)I"⟩ method_2_code 2 (some FieldType.int) ∈ my_tbl := tm_t (List.mem_append_right _ (List.mem_append_left _ (List.mem_of_getElem? (i := 74) rfl))) rfl
theorem t_2_75 : Cond.classLink "TablesMatchLaw" 18 "TablesMatchModel" ∈ my_tbl := tm_t (List.mem_append_right _ (List.mem_append_left _ (List.mem_of_getElem? (i := 75) rfl))) rfl
theorem t_2_76 : Cond.instantiable "TablesMatchModel" 18 ∈ my_tbl := tm_t (List.mem_append_right _ (List.mem_append_left _ (List.mem_of_getElem? (i := 76) rfl))) rfl
theorem t_2_77 : Cond.methodLink "TablesMatchLaw" 20 ⟨"TablesMatchModel", "<init>", "(I)V"⟩ ∈ my_tbl := tm_t (List.mem_append_right _ (List.mem_append_left _ (List.mem_of_getElem? (i := 77) rfl))) rfl
theorem t_2_78 : Cond.instanceMethod ⟨"TablesMatchModel", "<init>", "(I)V"⟩ ∈ my_tbl := tm_t (List.mem_append_right _ (List.mem_append_left _ (List.mem_of_getElem? (i := 78) rfl))) rfl
theorem t_2_79 : Cond.code ⟨"TablesMatchModel", "<init>", "(I)V"⟩ prog_6_method_1_code 2 none ∈ my_tbl := tm_t (List.mem_append_right _ (List.mem_append_left _ (List.mem_of_getElem? (i := 79) rfl))) rfl
theorem t_2_80 : Cond.methodLink "TablesMatchModel" 1 ⟨"java/lang/Object", "<init>", "()V"⟩ ∈ my_tbl := tm_t (List.mem_append_right _ (List.mem_append_left _ (List.mem_of_getElem? (i := 80) rfl))) rfl
theorem t_2_81 : Cond.methodLink "TablesMatchModel" 36 ⟨"TablesMatchModel", "setUp", "()V"⟩ ∈ my_tbl := tm_t (List.mem_append_right _ (List.mem_append_left _ (List.mem_of_getElem? (i := 81) rfl))) rfl
theorem t_2_83 : Cond.instanceMethod ⟨"TablesMatchModel", "setUp", "()V"⟩ ∈ my_tbl := tm_t (List.mem_append_right _ (List.mem_append_left _ (List.mem_of_getElem? (i := 83) rfl))) rfl
theorem t_2_84 : Cond.code ⟨"TablesMatchModel", "setUp", "()V"⟩ prog_6_method_2_code 3 none ∈ my_tbl := tm_t (List.mem_append_right _ (List.mem_append_left _ (List.mem_of_getElem? (i := 84) rfl))) rfl
theorem t_2_85 : Cond.fieldLink "TablesMatchModel" 33 "TablesMatchModel" "length" "I" ∈ my_tbl := tm_t (List.mem_append_right _ (List.mem_append_left _ (List.mem_of_getElem? (i := 85) rfl))) rfl
theorem t_2_86 : Cond.fieldLink "TablesMatchModel" 7 "TablesMatchModel" "score" "[I" ∈ my_tbl := tm_t (List.mem_append_right _ (List.mem_append_left _ (List.mem_of_getElem? (i := 86) rfl))) rfl
theorem t_2_87 : Cond.fieldLink "TablesMatchModel" 39 "TablesMatchModel" "phase" "I" ∈ my_tbl := tm_t (List.mem_append_right _ (List.mem_append_left _ (List.mem_of_getElem? (i := 87) rfl))) rfl
theorem t_2_88 : Cond.fieldLink "TablesMatchModel" 80 "TablesMatchModel" "mover" "I" ∈ my_tbl := tm_t (List.mem_append_right _ (List.mem_append_left _ (List.mem_of_getElem? (i := 88) rfl))) rfl
theorem t_2_89 : Cond.fieldLink "TablesMatchModel" 13 "TablesMatchModel" "board" "[I" ∈ my_tbl := tm_t (List.mem_append_right _ (List.mem_append_left _ (List.mem_of_getElem? (i := 89) rfl))) rfl
theorem t_2_90 : Cond.fieldLink "TablesMatchModel" 16 "TablesMatchModel" "cubeValue" "I" ∈ my_tbl := tm_t (List.mem_append_right _ (List.mem_append_left _ (List.mem_of_getElem? (i := 90) rfl))) rfl
theorem t_2_91 : Cond.fieldLink "TablesMatchModel" 20 "TablesMatchModel" "cubeOwner" "I" ∈ my_tbl := tm_t (List.mem_append_right _ (List.mem_append_left _ (List.mem_of_getElem? (i := 91) rfl))) rfl
theorem t_2_92 : Cond.fieldLink "TablesMatchModel" 101 "TablesMatchModel" "crawfordGame" "Z" ∈ my_tbl := tm_t (List.mem_append_right _ (List.mem_append_left _ (List.mem_of_getElem? (i := 92) rfl))) rfl
theorem t_2_93 : Cond.fieldLink "TablesMatchModel" 105 "TablesMatchModel" "crawfordSeen" "Z" ∈ my_tbl := tm_t (List.mem_append_right _ (List.mem_append_left _ (List.mem_of_getElem? (i := 93) rfl))) rfl
theorem t_2_94 : Cond.fieldLink "TablesMatchModel" 61 "TablesMatchModel" "high" "I" ∈ my_tbl := tm_t (List.mem_append_right _ (List.mem_append_left _ (List.mem_of_getElem? (i := 94) rfl))) rfl
theorem t_2_95 : Cond.fieldLink "TablesMatchModel" 64 "TablesMatchModel" "low" "I" ∈ my_tbl := tm_t (List.mem_append_right _ (List.mem_append_left _ (List.mem_of_getElem? (i := 95) rfl))) rfl
theorem t_2_96 : Cond.fieldLink "TablesMatchModel" 74 "TablesMatchModel" "highs" "I" ∈ my_tbl := tm_t (List.mem_append_right _ (List.mem_append_left _ (List.mem_of_getElem? (i := 96) rfl))) rfl
theorem t_2_97 : Cond.fieldLink "TablesMatchModel" 77 "TablesMatchModel" "lows" "I" ∈ my_tbl := tm_t (List.mem_append_right _ (List.mem_append_left _ (List.mem_of_getElem? (i := 97) rfl))) rfl
theorem t_2_98 : Cond.fieldLink "TablesMatchModel" 87 "TablesMatchModel" "dueNow" "I" ∈ my_tbl := tm_t (List.mem_append_right _ (List.mem_append_left _ (List.mem_of_getElem? (i := 98) rfl))) rfl
theorem t_2_99 : Cond.fieldLink "TablesMatchModel" 23 "TablesMatchModel" "tried" "[I" ∈ my_tbl := tm_t (List.mem_append_right _ (List.mem_append_left _ (List.mem_of_getElem? (i := 99) rfl))) rfl
theorem t_2_100 : Cond.fieldLink "TablesMatchModel" 26 "TablesMatchModel" "from" "[I" ∈ my_tbl := tm_t (List.mem_append_right _ (List.mem_append_left _ (List.mem_of_getElem? (i := 100) rfl))) rfl
theorem t_2_101 : Cond.fieldLink "TablesMatchModel" 29 "TablesMatchModel" "chances" "[J" ∈ my_tbl := tm_t (List.mem_append_right _ (List.mem_append_left _ (List.mem_of_getElem? (i := 101) rfl))) rfl
theorem t_2_102 : Cond.fieldLink "TablesMatchModel" 145 "TablesMatchModel" "known" "Z" ∈ my_tbl := tm_t (List.mem_append_right _ (List.mem_append_left _ (List.mem_of_getElem? (i := 102) rfl))) rfl
theorem t_2_103 : Cond.lays "TablesMatchModel" "TablesMatchModel" "length" "I" ∈ my_tbl := tm_t (List.mem_append_right _ (List.mem_append_left _ (List.mem_of_getElem? (i := 103) rfl))) rfl
theorem t_2_104 : Cond.soleField "TablesMatchModel" "length" ∈ my_tbl := tm_t (List.mem_append_right _ (List.mem_append_left _ (List.mem_of_getElem? (i := 104) rfl))) rfl
theorem t_2_105 : Cond.laysFinal "TablesMatchModel" "TablesMatchModel" "score" "[I" ∈ my_tbl := tm_t (List.mem_append_right _ (List.mem_append_left _ (List.mem_of_getElem? (i := 105) rfl))) rfl
theorem t_2_106 : Cond.soleField "TablesMatchModel" "score" ∈ my_tbl := tm_t (List.mem_append_right _ (List.mem_append_left _ (List.mem_of_getElem? (i := 106) rfl))) rfl
theorem t_2_107 : Cond.lays "TablesMatchModel" "TablesMatchModel" "phase" "I" ∈ my_tbl := tm_t (List.mem_append_right _ (List.mem_append_left _ (List.mem_of_getElem? (i := 107) rfl))) rfl
theorem t_2_108 : Cond.soleField "TablesMatchModel" "phase" ∈ my_tbl := tm_t (List.mem_append_right _ (List.mem_append_left _ (List.mem_of_getElem? (i := 108) rfl))) rfl
theorem t_2_109 : Cond.lays "TablesMatchModel" "TablesMatchModel" "mover" "I" ∈ my_tbl := tm_t (List.mem_append_right _ (List.mem_append_left _ (List.mem_of_getElem? (i := 109) rfl))) rfl
theorem t_2_110 : Cond.soleField "TablesMatchModel" "mover" ∈ my_tbl := tm_t (List.mem_append_right _ (List.mem_append_left _ (List.mem_of_getElem? (i := 110) rfl))) rfl
theorem t_2_111 : Cond.laysFinal "TablesMatchModel" "TablesMatchModel" "board" "[I" ∈ my_tbl := tm_t (List.mem_append_right _ (List.mem_append_left _ (List.mem_of_getElem? (i := 111) rfl))) rfl
theorem t_2_112 : Cond.soleField "TablesMatchModel" "board" ∈ my_tbl := tm_t (List.mem_append_right _ (List.mem_append_left _ (List.mem_of_getElem? (i := 112) rfl))) rfl
theorem t_2_113 : Cond.lays "TablesMatchModel" "TablesMatchModel" "cubeValue" "I" ∈ my_tbl := tm_t (List.mem_append_right _ (List.mem_append_left _ (List.mem_of_getElem? (i := 113) rfl))) rfl
theorem t_2_114 : Cond.soleField "TablesMatchModel" "cubeValue" ∈ my_tbl := tm_t (List.mem_append_right _ (List.mem_append_left _ (List.mem_of_getElem? (i := 114) rfl))) rfl
theorem t_2_115 : Cond.lays "TablesMatchModel" "TablesMatchModel" "cubeOwner" "I" ∈ my_tbl := tm_t (List.mem_append_right _ (List.mem_append_left _ (List.mem_of_getElem? (i := 115) rfl))) rfl
theorem t_2_116 : Cond.soleField "TablesMatchModel" "cubeOwner" ∈ my_tbl := tm_t (List.mem_append_right _ (List.mem_append_left _ (List.mem_of_getElem? (i := 116) rfl))) rfl
theorem t_2_117 : Cond.lays "TablesMatchModel" "TablesMatchModel" "crawfordGame" "Z" ∈ my_tbl := tm_t (List.mem_append_right _ (List.mem_append_left _ (List.mem_of_getElem? (i := 117) rfl))) rfl
theorem t_2_118 : Cond.soleField "TablesMatchModel" "crawfordGame" ∈ my_tbl := tm_t (List.mem_append_right _ (List.mem_append_left _ (List.mem_of_getElem? (i := 118) rfl))) rfl
theorem t_2_119 : Cond.lays "TablesMatchModel" "TablesMatchModel" "crawfordSeen" "Z" ∈ my_tbl := tm_t (List.mem_append_right _ (List.mem_append_left _ (List.mem_of_getElem? (i := 119) rfl))) rfl
theorem t_2_120 : Cond.soleField "TablesMatchModel" "crawfordSeen" ∈ my_tbl := tm_t (List.mem_append_right _ (List.mem_append_left _ (List.mem_of_getElem? (i := 120) rfl))) rfl
theorem t_2_121 : Cond.lays "TablesMatchModel" "TablesMatchModel" "high" "I" ∈ my_tbl := tm_t (List.mem_append_right _ (List.mem_append_left _ (List.mem_of_getElem? (i := 121) rfl))) rfl
theorem t_2_122 : Cond.soleField "TablesMatchModel" "high" ∈ my_tbl := tm_t (List.mem_append_right _ (List.mem_append_left _ (List.mem_of_getElem? (i := 122) rfl))) rfl
theorem t_2_123 : Cond.lays "TablesMatchModel" "TablesMatchModel" "low" "I" ∈ my_tbl := tm_t (List.mem_append_right _ (List.mem_append_left _ (List.mem_of_getElem? (i := 123) rfl))) rfl
theorem t_2_124 : Cond.soleField "TablesMatchModel" "low" ∈ my_tbl := tm_t (List.mem_append_right _ (List.mem_append_left _ (List.mem_of_getElem? (i := 124) rfl))) rfl
theorem t_2_125 : Cond.lays "TablesMatchModel" "TablesMatchModel" "highs" "I" ∈ my_tbl := tm_t (List.mem_append_right _ (List.mem_append_left _ (List.mem_of_getElem? (i := 125) rfl))) rfl
theorem t_2_126 : Cond.soleField "TablesMatchModel" "highs" ∈ my_tbl := tm_t (List.mem_append_right _ (List.mem_append_left _ (List.mem_of_getElem? (i := 126) rfl))) rfl
theorem t_2_127 : Cond.lays "TablesMatchModel" "TablesMatchModel" "lows" "I" ∈ my_tbl := tm_t (List.mem_append_right _ (List.mem_append_left _ (List.mem_of_getElem? (i := 127) rfl))) rfl
theorem t_2_128 : Cond.soleField "TablesMatchModel" "lows" ∈ my_tbl := tm_t (List.mem_append_right _ (List.mem_append_left _ (List.mem_of_getElem? (i := 128) rfl))) rfl
theorem t_2_129 : Cond.lays "TablesMatchModel" "TablesMatchModel" "dueNow" "I" ∈ my_tbl := tm_t (List.mem_append_right _ (List.mem_append_left _ (List.mem_of_getElem? (i := 129) rfl))) rfl
theorem t_2_130 : Cond.soleField "TablesMatchModel" "dueNow" ∈ my_tbl := tm_t (List.mem_append_right _ (List.mem_append_left _ (List.mem_of_getElem? (i := 130) rfl))) rfl
theorem t_2_131 : Cond.laysFinal "TablesMatchModel" "TablesMatchModel" "tried" "[I" ∈ my_tbl := tm_t (List.mem_append_right _ (List.mem_append_left _ (List.mem_of_getElem? (i := 131) rfl))) rfl
theorem t_2_132 : Cond.soleField "TablesMatchModel" "tried" ∈ my_tbl := tm_t (List.mem_append_right _ (List.mem_append_left _ (List.mem_of_getElem? (i := 132) rfl))) rfl
theorem t_2_133 : Cond.laysFinal "TablesMatchModel" "TablesMatchModel" "from" "[I" ∈ my_tbl := tm_t (List.mem_append_right _ (List.mem_append_left _ (List.mem_of_getElem? (i := 133) rfl))) rfl
theorem t_2_134 : Cond.soleField "TablesMatchModel" "from" ∈ my_tbl := tm_t (List.mem_append_right _ (List.mem_append_left _ (List.mem_of_getElem? (i := 134) rfl))) rfl
theorem t_2_135 : Cond.laysFinal "TablesMatchModel" "TablesMatchModel" "chances" "[J" ∈ my_tbl := tm_t (List.mem_append_right _ (List.mem_append_left _ (List.mem_of_getElem? (i := 135) rfl))) rfl
theorem t_2_136 : Cond.soleField "TablesMatchModel" "chances" ∈ my_tbl := tm_t (List.mem_append_right _ (List.mem_append_left _ (List.mem_of_getElem? (i := 136) rfl))) rfl
theorem t_2_137 : Cond.lays "TablesMatchModel" "TablesMatchModel" "known" "Z" ∈ my_tbl := tm_t (List.mem_append_right _ (List.mem_append_left _ (List.mem_of_getElem? (i := 137) rfl))) rfl
theorem t_2_138 : Cond.soleField "TablesMatchModel" "known" ∈ my_tbl := tm_t (List.mem_append_right _ (List.mem_append_left _ (List.mem_of_getElem? (i := 138) rfl))) rfl
theorem t_2_139 : Cond.superclass "TablesMatchModel" "java/lang/Object" ∈ my_tbl := tm_t (List.mem_append_right _ (List.mem_append_left _ (List.mem_of_getElem? (i := 139) rfl))) rfl
theorem t_2_140 : Cond.methodLink "TablesMatchLaw" 25 ⟨"TablesMatchModel", "place", "(III)Z"⟩ ∈ my_tbl := tm_t (List.mem_append_right _ (List.mem_append_left _ (List.mem_of_getElem? (i := 140) rfl))) rfl
theorem t_2_141 : Cond.instanceMethod ⟨"TablesMatchModel", "place", "(III)Z"⟩ ∈ my_tbl := tm_t (List.mem_append_right _ (List.mem_append_left _ (List.mem_of_getElem? (i := 141) rfl))) rfl
theorem t_2_142 : Cond.selects "TablesMatchModel" ⟨"TablesMatchModel", "place", "(III)Z"⟩ ⟨"TablesMatchModel", "place", "(III)Z"⟩ ∈ my_tbl := tm_t (List.mem_append_right _ (List.mem_append_left _ (List.mem_of_getElem? (i := 142) rfl))) rfl
theorem t_2_143 : Cond.code ⟨"TablesMatchModel", "place", "(III)Z"⟩ prog_6_method_13_code 5 (some FieldType.boolean) ∈ my_tbl := tm_t (List.mem_append_right _ (List.mem_append_left _ (List.mem_of_getElem? (i := 143) rfl))) rfl
theorem t_2_144 : Cond.methodLink "TablesMatchLaw" 30 ⟨"TablesMatchModel", "roll", "(II)I"⟩ ∈ my_tbl := tm_t (List.mem_append_right _ (List.mem_append_left _ (List.mem_of_getElem? (i := 144) rfl))) rfl
theorem t_2_145 : Cond.instanceMethod ⟨"TablesMatchModel", "roll", "(II)I"⟩ ∈ my_tbl := tm_t (List.mem_append_right _ (List.mem_append_left _ (List.mem_of_getElem? (i := 145) rfl))) rfl
theorem t_2_146 : Cond.selects "TablesMatchModel" ⟨"TablesMatchModel", "roll", "(II)I"⟩ ⟨"TablesMatchModel", "roll", "(II)I"⟩ ∈ my_tbl := tm_t (List.mem_append_right _ (List.mem_append_left _ (List.mem_of_getElem? (i := 146) rfl))) rfl
theorem t_2_147 : Cond.code ⟨"TablesMatchModel", "roll", "(II)I"⟩ prog_6_method_16_code 3 (some FieldType.int) ∈ my_tbl := tm_t (List.mem_append_right _ (List.mem_append_left _ (List.mem_of_getElem? (i := 147) rfl))) rfl
theorem t_2_148 : Cond.methodLink "TablesMatchModel" 97 ⟨"TablesMatchModel", "begin", "(II)I"⟩ ∈ my_tbl := tm_t (List.mem_append_right _ (List.mem_append_left _ (List.mem_of_getElem? (i := 148) rfl))) rfl
theorem t_2_150 : Cond.instanceMethod ⟨"TablesMatchModel", "begin", "(II)I"⟩ ∈ my_tbl := tm_t (List.mem_append_right _ (List.mem_append_left _ (List.mem_of_getElem? (i := 150) rfl))) rfl
theorem t_2_151 : Cond.code ⟨"TablesMatchModel", "begin", "(II)I"⟩ prog_6_method_14_code 3 (some FieldType.int) ∈ my_tbl := tm_t (List.mem_append_right _ (List.mem_append_left _ (List.mem_of_getElem? (i := 151) rfl))) rfl
theorem t_2_152 : Cond.methodLink "TablesMatchModel" 93 ⟨"TablesMatchModel", "settle", "()I"⟩ ∈ my_tbl := tm_t (List.mem_append_right _ (List.mem_append_left _ (List.mem_of_getElem? (i := 152) rfl))) rfl
theorem t_2_154 : Cond.instanceMethod ⟨"TablesMatchModel", "settle", "()I"⟩ ∈ my_tbl := tm_t (List.mem_append_right _ (List.mem_append_left _ (List.mem_of_getElem? (i := 154) rfl))) rfl
theorem t_2_155 : Cond.code ⟨"TablesMatchModel", "settle", "()I"⟩ prog_6_method_15_code 1 (some FieldType.int) ∈ my_tbl := tm_t (List.mem_append_right _ (List.mem_append_left _ (List.mem_of_getElem? (i := 155) rfl))) rfl
theorem t_2_156 : Cond.methodLink "TablesMatchModel" 83 ⟨"TablesMatchModel", "look", "(II)V"⟩ ∈ my_tbl := tm_t (List.mem_append_right _ (List.mem_append_left _ (List.mem_of_getElem? (i := 156) rfl))) rfl
theorem t_2_158 : Cond.instanceMethod ⟨"TablesMatchModel", "look", "(II)V"⟩ ∈ my_tbl := tm_t (List.mem_append_right _ (List.mem_append_left _ (List.mem_of_getElem? (i := 158) rfl))) rfl
theorem t_2_159 : Cond.code ⟨"TablesMatchModel", "look", "(II)V"⟩ prog_6_method_3_code 4 none ∈ my_tbl := tm_t (List.mem_append_right _ (List.mem_append_left _ (List.mem_of_getElem? (i := 159) rfl))) rfl
theorem t_2_160 : Cond.methodLink "TablesMatchModel" 90 ⟨"TablesMatchModel", "dueAt", "(III)I"⟩ ∈ my_tbl := tm_t (List.mem_append_right _ (List.mem_append_left _ (List.mem_of_getElem? (i := 160) rfl))) rfl
theorem t_2_162 : Cond.instanceMethod ⟨"TablesMatchModel", "dueAt", "(III)I"⟩ ∈ my_tbl := tm_t (List.mem_append_right _ (List.mem_append_left _ (List.mem_of_getElem? (i := 162) rfl))) rfl
theorem t_2_163 : Cond.code ⟨"TablesMatchModel", "dueAt", "(III)I"⟩ prog_6_method_11_code 4 (some FieldType.int) ∈ my_tbl := tm_t (List.mem_append_right _ (List.mem_append_left _ (List.mem_of_getElem? (i := 163) rfl))) rfl
theorem t_2_164 : Cond.methodLink "TablesMatchModel" 67 ⟨"TablesMatchModel", "both", "(III)Z"⟩ ∈ my_tbl := tm_t (List.mem_append_right _ (List.mem_append_left _ (List.mem_of_getElem? (i := 164) rfl))) rfl
theorem t_2_166 : Cond.instanceMethod ⟨"TablesMatchModel", "both", "(III)Z"⟩ ∈ my_tbl := tm_t (List.mem_append_right _ (List.mem_append_left _ (List.mem_of_getElem? (i := 166) rfl))) rfl
theorem t_2_167 : Cond.code ⟨"TablesMatchModel", "both", "(III)Z"⟩ prog_6_method_10_code 5 (some FieldType.boolean) ∈ my_tbl := tm_t (List.mem_append_right _ (List.mem_append_left _ (List.mem_of_getElem? (i := 167) rfl))) rfl
theorem t_2_168 : Cond.methodLink "TablesMatchModel" 50 ⟨"TablesMatchModel", "can", "(III)Z"⟩ ∈ my_tbl := tm_t (List.mem_append_right _ (List.mem_append_left _ (List.mem_of_getElem? (i := 168) rfl))) rfl
theorem t_2_170 : Cond.instanceMethod ⟨"TablesMatchModel", "can", "(III)Z"⟩ ∈ my_tbl := tm_t (List.mem_append_right _ (List.mem_append_left _ (List.mem_of_getElem? (i := 170) rfl))) rfl
theorem t_2_171 : Cond.code ⟨"TablesMatchModel", "can", "(III)Z"⟩ prog_6_method_6_code 6 (some FieldType.boolean) ∈ my_tbl := tm_t (List.mem_append_right _ (List.mem_append_left _ (List.mem_of_getElem? (i := 171) rfl))) rfl
theorem t_2_172 : Cond.methodLink "TablesMatchModel" 42 ⟨"TablesMatchModel", "allHome", "(I)Z"⟩ ∈ my_tbl := tm_t (List.mem_append_right _ (List.mem_append_left _ (List.mem_of_getElem? (i := 172) rfl))) rfl
theorem t_2_174 : Cond.instanceMethod ⟨"TablesMatchModel", "allHome", "(I)Z"⟩ ∈ my_tbl := tm_t (List.mem_append_right _ (List.mem_append_left _ (List.mem_of_getElem? (i := 174) rfl))) rfl
theorem t_2_175 : Cond.code ⟨"TablesMatchModel", "allHome", "(I)Z"⟩ prog_6_method_4_code 3 (some FieldType.boolean) ∈ my_tbl := tm_t (List.mem_append_right _ (List.mem_append_left _ (List.mem_of_getElem? (i := 175) rfl))) rfl
theorem t_2_176 : Cond.methodLink "TablesMatchModel" 46 ⟨"TablesMatchModel", "noneAbove", "(II)Z"⟩ ∈ my_tbl := tm_t (List.mem_append_right _ (List.mem_append_left _ (List.mem_of_getElem? (i := 176) rfl))) rfl
theorem t_2_178 : Cond.instanceMethod ⟨"TablesMatchModel", "noneAbove", "(II)Z"⟩ ∈ my_tbl := tm_t (List.mem_append_right _ (List.mem_append_left _ (List.mem_of_getElem? (i := 178) rfl))) rfl
theorem t_2_179 : Cond.code ⟨"TablesMatchModel", "noneAbove", "(II)Z"⟩ prog_6_method_5_code 4 (some FieldType.boolean) ∈ my_tbl := tm_t (List.mem_append_right _ (List.mem_append_left _ (List.mem_of_getElem? (i := 179) rfl))) rfl
theorem t_2_180 : Cond.methodLink "TablesMatchModel" 54 ⟨"TablesMatchModel", "make", "(III)V"⟩ ∈ my_tbl := tm_t (List.mem_append_right _ (List.mem_append_left _ (List.mem_of_getElem? (i := 180) rfl))) rfl
theorem t_2_182 : Cond.instanceMethod ⟨"TablesMatchModel", "make", "(III)V"⟩ ∈ my_tbl := tm_t (List.mem_append_right _ (List.mem_append_left _ (List.mem_of_getElem? (i := 182) rfl))) rfl
theorem t_2_183 : Cond.code ⟨"TablesMatchModel", "make", "(III)V"⟩ prog_6_method_7_code 6 none ∈ my_tbl := tm_t (List.mem_append_right _ (List.mem_append_left _ (List.mem_of_getElem? (i := 183) rfl))) rfl
theorem t_2_184 : Cond.methodLink "TablesMatchModel" 58 ⟨"TablesMatchModel", "any", "(II)Z"⟩ ∈ my_tbl := tm_t (List.mem_append_right _ (List.mem_append_left _ (List.mem_of_getElem? (i := 184) rfl))) rfl
theorem t_2_186 : Cond.instanceMethod ⟨"TablesMatchModel", "any", "(II)Z"⟩ ∈ my_tbl := tm_t (List.mem_append_right _ (List.mem_append_left _ (List.mem_of_getElem? (i := 186) rfl))) rfl
theorem t_2_187 : Cond.code ⟨"TablesMatchModel", "any", "(II)Z"⟩ prog_6_method_8_code 4 (some FieldType.boolean) ∈ my_tbl := tm_t (List.mem_append_right _ (List.mem_append_left _ (List.mem_of_getElem? (i := 187) rfl))) rfl
theorem t_2_188 : Cond.methodLink "TablesMatchModel" 70 ⟨"TablesMatchModel", "longest", "(III)I"⟩ ∈ my_tbl := tm_t (List.mem_append_right _ (List.mem_append_left _ (List.mem_of_getElem? (i := 188) rfl))) rfl
theorem t_2_190 : Cond.instanceMethod ⟨"TablesMatchModel", "longest", "(III)I"⟩ ∈ my_tbl := tm_t (List.mem_append_right _ (List.mem_append_left _ (List.mem_of_getElem? (i := 190) rfl))) rfl
theorem t_2_191 : Cond.code ⟨"TablesMatchModel", "longest", "(III)I"⟩ prog_6_method_9_code 6 (some FieldType.int) ∈ my_tbl := tm_t (List.mem_append_right _ (List.mem_append_left _ (List.mem_of_getElem? (i := 191) rfl))) rfl
theorem t_2_192 : Cond.methodLink "TablesMatchLaw" 34 ⟨"TablesMatchModel", "move", "(II)I"⟩ ∈ my_tbl := tm_t (List.mem_append_right _ (List.mem_append_left _ (List.mem_of_getElem? (i := 192) rfl))) rfl
theorem t_2_193 : Cond.instanceMethod ⟨"TablesMatchModel", "move", "(II)I"⟩ ∈ my_tbl := tm_t (List.mem_append_right _ (List.mem_append_left _ (List.mem_of_getElem? (i := 193) rfl))) rfl
theorem t_2_194 : Cond.selects "TablesMatchModel" ⟨"TablesMatchModel", "move", "(II)I"⟩ ⟨"TablesMatchModel", "move", "(II)I"⟩ ∈ my_tbl := tm_t (List.mem_append_right _ (List.mem_append_left _ (List.mem_of_getElem? (i := 194) rfl))) rfl
theorem t_2_195 : Cond.code ⟨"TablesMatchModel", "move", "(II)I"⟩ prog_6_method_19_code 4 (some FieldType.int) ∈ my_tbl := tm_t (List.mem_append_right _ (List.mem_append_left _ (List.mem_of_getElem? (i := 195) rfl))) rfl
theorem t_2_196 : Cond.methodLink "TablesMatchModel" 108 ⟨"TablesMatchModel", "right", "(II)Z"⟩ ∈ my_tbl := tm_t (List.mem_append_right _ (List.mem_append_left _ (List.mem_of_getElem? (i := 196) rfl))) rfl
theorem t_2_198 : Cond.instanceMethod ⟨"TablesMatchModel", "right", "(II)Z"⟩ ∈ my_tbl := tm_t (List.mem_append_right _ (List.mem_append_left _ (List.mem_of_getElem? (i := 198) rfl))) rfl
theorem t_2_199 : Cond.code ⟨"TablesMatchModel", "right", "(II)Z"⟩ prog_6_method_12_code 5 (some FieldType.boolean) ∈ my_tbl := tm_t (List.mem_append_right _ (List.mem_append_left _ (List.mem_of_getElem? (i := 199) rfl))) rfl
theorem t_2_200 : Cond.methodLink "TablesMatchModel" 111 ⟨"TablesMatchModel", "times", "(I)I"⟩ ∈ my_tbl := tm_t (List.mem_append_right _ (List.mem_append_left _ (List.mem_of_getElem? (i := 200) rfl))) rfl
theorem t_2_202 : Cond.instanceMethod ⟨"TablesMatchModel", "times", "(I)I"⟩ ∈ my_tbl := tm_t (List.mem_append_right _ (List.mem_append_left _ (List.mem_of_getElem? (i := 202) rfl))) rfl
theorem t_2_203 : Cond.code ⟨"TablesMatchModel", "times", "(I)I"⟩ prog_6_method_18_code 4 (some FieldType.int) ∈ my_tbl := tm_t (List.mem_append_right _ (List.mem_append_left _ (List.mem_of_getElem? (i := 203) rfl))) rfl
theorem t_2_204 : Cond.methodLink "TablesMatchModel" 115 ⟨"TablesMatchModel", "win", "(II)I"⟩ ∈ my_tbl := tm_t (List.mem_append_right _ (List.mem_append_left _ (List.mem_of_getElem? (i := 204) rfl))) rfl
theorem t_2_206 : Cond.instanceMethod ⟨"TablesMatchModel", "win", "(II)I"⟩ ∈ my_tbl := tm_t (List.mem_append_right _ (List.mem_append_left _ (List.mem_of_getElem? (i := 206) rfl))) rfl
theorem t_2_207 : Cond.code ⟨"TablesMatchModel", "win", "(II)I"⟩ prog_6_method_17_code 3 (some FieldType.int) ∈ my_tbl := tm_t (List.mem_append_right _ (List.mem_append_left _ (List.mem_of_getElem? (i := 207) rfl))) rfl
theorem t_2_208 : Cond.methodLink "TablesMatchLaw" 39 ⟨"TablesMatchModel", "step", "(I)I"⟩ ∈ my_tbl := tm_t (List.mem_append_right _ (List.mem_append_left _ (List.mem_of_getElem? (i := 208) rfl))) rfl
theorem t_2_209 : Cond.instanceMethod ⟨"TablesMatchModel", "step", "(I)I"⟩ ∈ my_tbl := tm_t (List.mem_append_right _ (List.mem_append_left _ (List.mem_of_getElem? (i := 209) rfl))) rfl
theorem t_2_210 : Cond.selects "TablesMatchModel" ⟨"TablesMatchModel", "step", "(I)I"⟩ ⟨"TablesMatchModel", "step", "(I)I"⟩ ∈ my_tbl := tm_t (List.mem_append_right _ (List.mem_append_left _ (List.mem_of_getElem? (i := 210) rfl))) rfl
theorem t_2_211 : Cond.code ⟨"TablesMatchModel", "step", "(I)I"⟩ prog_6_method_21_code 3 (some FieldType.int) ∈ my_tbl := tm_t (List.mem_append_right _ (List.mem_append_left _ (List.mem_of_getElem? (i := 211) rfl))) rfl
theorem t_2_212 : Cond.methodLink "TablesMatchModel" 118 ⟨"TablesMatchModel", "find", "(I)I"⟩ ∈ my_tbl := tm_t (List.mem_append_right _ (List.mem_append_left _ (List.mem_of_getElem? (i := 212) rfl))) rfl
theorem t_2_214 : Cond.instanceMethod ⟨"TablesMatchModel", "find", "(I)I"⟩ ∈ my_tbl := tm_t (List.mem_append_right _ (List.mem_append_left _ (List.mem_of_getElem? (i := 214) rfl))) rfl
theorem t_2_215 : Cond.code ⟨"TablesMatchModel", "find", "(I)I"⟩ prog_6_method_20_code 5 (some FieldType.int) ∈ my_tbl := tm_t (List.mem_append_right _ (List.mem_append_left _ (List.mem_of_getElem? (i := 215) rfl))) rfl
theorem t_2_216 : Cond.methodLink "TablesMatchModel" 121 ⟨"TablesMatchModel", "move", "(II)I"⟩ ∈ my_tbl := tm_t (List.mem_append_right _ (List.mem_append_left _ (List.mem_of_getElem? (i := 216) rfl))) rfl
theorem t_2_217 : Cond.methodLink "TablesMatchLaw" 44 ⟨"TablesMatchModel", "ways", "()I"⟩ ∈ my_tbl := tm_t (List.mem_append_right _ (List.mem_append_left _ (List.mem_of_getElem? (i := 217) rfl))) rfl
theorem t_2_218 : Cond.instanceMethod ⟨"TablesMatchModel", "ways", "()I"⟩ ∈ my_tbl := tm_t (List.mem_append_right _ (List.mem_append_left _ (List.mem_of_getElem? (i := 218) rfl))) rfl
theorem t_2_219 : Cond.selects "TablesMatchModel" ⟨"TablesMatchModel", "ways", "()I"⟩ ⟨"TablesMatchModel", "ways", "()I"⟩ ∈ my_tbl := tm_t (List.mem_append_right _ (List.mem_append_left _ (List.mem_of_getElem? (i := 219) rfl))) rfl
theorem t_2_220 : Cond.code ⟨"TablesMatchModel", "ways", "()I"⟩ prog_6_method_22_code 1 (some FieldType.int) ∈ my_tbl := tm_t (List.mem_append_right _ (List.mem_append_left _ (List.mem_of_getElem? (i := 220) rfl))) rfl
theorem t_2_221 : Cond.methodLink "TablesMatchLaw" 48 ⟨"TablesMatchModel", "due", "()I"⟩ ∈ my_tbl := tm_t (List.mem_append_right _ (List.mem_append_left _ (List.mem_of_getElem? (i := 221) rfl))) rfl
theorem t_2_222 : Cond.instanceMethod ⟨"TablesMatchModel", "due", "()I"⟩ ∈ my_tbl := tm_t (List.mem_append_right _ (List.mem_append_left _ (List.mem_of_getElem? (i := 222) rfl))) rfl
theorem t_2_223 : Cond.selects "TablesMatchModel" ⟨"TablesMatchModel", "due", "()I"⟩ ⟨"TablesMatchModel", "due", "()I"⟩ ∈ my_tbl := tm_t (List.mem_append_right _ (List.mem_append_left _ (List.mem_of_getElem? (i := 223) rfl))) rfl
theorem t_2_224 : Cond.code ⟨"TablesMatchModel", "due", "()I"⟩ prog_6_method_23_code 1 (some FieldType.int) ∈ my_tbl := tm_t (List.mem_append_right _ (List.mem_append_left _ (List.mem_of_getElem? (i := 224) rfl))) rfl
theorem t_2_225 : Cond.methodLink "TablesMatchLaw" 52 ⟨"TablesMatchModel", "left", "(I)I"⟩ ∈ my_tbl := tm_t (List.mem_append_right _ (List.mem_append_left _ (List.mem_of_getElem? (i := 225) rfl))) rfl
theorem t_2_226 : Cond.instanceMethod ⟨"TablesMatchModel", "left", "(I)I"⟩ ∈ my_tbl := tm_t (List.mem_append_right _ (List.mem_append_left _ (List.mem_of_getElem? (i := 226) rfl))) rfl
theorem t_2_227 : Cond.selects "TablesMatchModel" ⟨"TablesMatchModel", "left", "(I)I"⟩ ⟨"TablesMatchModel", "left", "(I)I"⟩ ∈ my_tbl := tm_t (List.mem_append_right _ (List.mem_append_left _ (List.mem_of_getElem? (i := 227) rfl))) rfl
theorem t_2_228 : Cond.code ⟨"TablesMatchModel", "left", "(I)I"⟩ prog_6_method_24_code 2 (some FieldType.int) ∈ my_tbl := tm_t (List.mem_append_right _ (List.mem_append_left _ (List.mem_of_getElem? (i := 228) rfl))) rfl
theorem t_2_229 : Cond.methodLink "TablesMatchLaw" 57 ⟨"TablesMatchModel", "offer", "()Z"⟩ ∈ my_tbl := tm_t (List.mem_append_right _ (List.mem_append_left _ (List.mem_of_getElem? (i := 229) rfl))) rfl
theorem t_2_230 : Cond.instanceMethod ⟨"TablesMatchModel", "offer", "()Z"⟩ ∈ my_tbl := tm_t (List.mem_append_right _ (List.mem_append_left _ (List.mem_of_getElem? (i := 230) rfl))) rfl
theorem t_2_231 : Cond.selects "TablesMatchModel" ⟨"TablesMatchModel", "offer", "()Z"⟩ ⟨"TablesMatchModel", "offer", "()Z"⟩ ∈ my_tbl := tm_t (List.mem_append_right _ (List.mem_append_left _ (List.mem_of_getElem? (i := 231) rfl))) rfl
theorem t_2_232 : Cond.code ⟨"TablesMatchModel", "offer", "()Z"⟩ prog_6_method_25_code 1 (some FieldType.boolean) ∈ my_tbl := tm_t (List.mem_append_right _ (List.mem_append_left _ (List.mem_of_getElem? (i := 232) rfl))) rfl
theorem t_2_233 : Cond.methodLink "TablesMatchLaw" 62 ⟨"TablesMatchModel", "answer", "(Z)I"⟩ ∈ my_tbl := tm_t (List.mem_append_right _ (List.mem_append_left _ (List.mem_of_getElem? (i := 233) rfl))) rfl
theorem t_2_234 : Cond.instanceMethod ⟨"TablesMatchModel", "answer", "(Z)I"⟩ ∈ my_tbl := tm_t (List.mem_append_right _ (List.mem_append_left _ (List.mem_of_getElem? (i := 234) rfl))) rfl
theorem t_2_235 : Cond.selects "TablesMatchModel" ⟨"TablesMatchModel", "answer", "(Z)I"⟩ ⟨"TablesMatchModel", "answer", "(Z)I"⟩ ∈ my_tbl := tm_t (List.mem_append_right _ (List.mem_append_left _ (List.mem_of_getElem? (i := 235) rfl))) rfl
theorem t_2_236 : Cond.code ⟨"TablesMatchModel", "answer", "(Z)I"⟩ prog_6_method_26_code 2 (some FieldType.int) ∈ my_tbl := tm_t (List.mem_append_right _ (List.mem_append_left _ (List.mem_of_getElem? (i := 236) rfl))) rfl
theorem t_2_237 : Cond.methodLink "TablesMatchLaw" 66 ⟨"TablesMatchModel", "phase", "()I"⟩ ∈ my_tbl := tm_t (List.mem_append_right _ (List.mem_append_left _ (List.mem_of_getElem? (i := 237) rfl))) rfl
theorem t_2_238 : Cond.instanceMethod ⟨"TablesMatchModel", "phase", "()I"⟩ ∈ my_tbl := tm_t (List.mem_append_right _ (List.mem_append_left _ (List.mem_of_getElem? (i := 238) rfl))) rfl
theorem t_2_239 : Cond.selects "TablesMatchModel" ⟨"TablesMatchModel", "phase", "()I"⟩ ⟨"TablesMatchModel", "phase", "()I"⟩ ∈ my_tbl := tm_t (List.mem_append_right _ (List.mem_append_left _ (List.mem_of_getElem? (i := 239) rfl))) rfl
theorem t_3_0 : Cond.code ⟨"TablesMatchModel", "phase", "()I"⟩ prog_6_method_27_code 1 (some FieldType.int) ∈ my_tbl := tm_t (List.mem_append_right _ (List.mem_append_right _ (List.mem_of_getElem? (i := 0) rfl))) rfl
theorem t_3_1 : Cond.methodLink "TablesMatchLaw" 70 ⟨"TablesMatchModel", "turn", "()I"⟩ ∈ my_tbl := tm_t (List.mem_append_right _ (List.mem_append_right _ (List.mem_of_getElem? (i := 1) rfl))) rfl
theorem t_3_2 : Cond.instanceMethod ⟨"TablesMatchModel", "turn", "()I"⟩ ∈ my_tbl := tm_t (List.mem_append_right _ (List.mem_append_right _ (List.mem_of_getElem? (i := 2) rfl))) rfl
theorem t_3_3 : Cond.selects "TablesMatchModel" ⟨"TablesMatchModel", "turn", "()I"⟩ ⟨"TablesMatchModel", "turn", "()I"⟩ ∈ my_tbl := tm_t (List.mem_append_right _ (List.mem_append_right _ (List.mem_of_getElem? (i := 3) rfl))) rfl
theorem t_3_4 : Cond.code ⟨"TablesMatchModel", "turn", "()I"⟩ prog_6_method_28_code 1 (some FieldType.int) ∈ my_tbl := tm_t (List.mem_append_right _ (List.mem_append_right _ (List.mem_of_getElem? (i := 4) rfl))) rfl
theorem t_3_5 : Cond.methodLink "TablesMatchLaw" 74 ⟨"TablesMatchModel", "men", "(II)I"⟩ ∈ my_tbl := tm_t (List.mem_append_right _ (List.mem_append_right _ (List.mem_of_getElem? (i := 5) rfl))) rfl
theorem t_3_6 : Cond.instanceMethod ⟨"TablesMatchModel", "men", "(II)I"⟩ ∈ my_tbl := tm_t (List.mem_append_right _ (List.mem_append_right _ (List.mem_of_getElem? (i := 6) rfl))) rfl
theorem t_3_7 : Cond.selects "TablesMatchModel" ⟨"TablesMatchModel", "men", "(II)I"⟩ ⟨"TablesMatchModel", "men", "(II)I"⟩ ∈ my_tbl := tm_t (List.mem_append_right _ (List.mem_append_right _ (List.mem_of_getElem? (i := 7) rfl))) rfl
theorem t_3_8 : Cond.code ⟨"TablesMatchModel", "men", "(II)I"⟩ prog_6_method_29_code 3 (some FieldType.int) ∈ my_tbl := tm_t (List.mem_append_right _ (List.mem_append_right _ (List.mem_of_getElem? (i := 8) rfl))) rfl
theorem t_3_9 : Cond.methodLink "TablesMatchLaw" 78 ⟨"TablesMatchModel", "pips", "(I)I"⟩ ∈ my_tbl := tm_t (List.mem_append_right _ (List.mem_append_right _ (List.mem_of_getElem? (i := 9) rfl))) rfl
theorem t_3_10 : Cond.instanceMethod ⟨"TablesMatchModel", "pips", "(I)I"⟩ ∈ my_tbl := tm_t (List.mem_append_right _ (List.mem_append_right _ (List.mem_of_getElem? (i := 10) rfl))) rfl
theorem t_3_11 : Cond.selects "TablesMatchModel" ⟨"TablesMatchModel", "pips", "(I)I"⟩ ⟨"TablesMatchModel", "pips", "(I)I"⟩ ∈ my_tbl := tm_t (List.mem_append_right _ (List.mem_append_right _ (List.mem_of_getElem? (i := 11) rfl))) rfl
theorem t_3_12 : Cond.code ⟨"TablesMatchModel", "pips", "(I)I"⟩ prog_6_method_30_code 4 (some FieldType.int) ∈ my_tbl := tm_t (List.mem_append_right _ (List.mem_append_right _ (List.mem_of_getElem? (i := 12) rfl))) rfl
theorem t_3_13 : Cond.methodLink "TablesMatchLaw" 82 ⟨"TablesMatchModel", "cube", "()I"⟩ ∈ my_tbl := tm_t (List.mem_append_right _ (List.mem_append_right _ (List.mem_of_getElem? (i := 13) rfl))) rfl
theorem t_3_14 : Cond.instanceMethod ⟨"TablesMatchModel", "cube", "()I"⟩ ∈ my_tbl := tm_t (List.mem_append_right _ (List.mem_append_right _ (List.mem_of_getElem? (i := 14) rfl))) rfl
theorem t_3_15 : Cond.selects "TablesMatchModel" ⟨"TablesMatchModel", "cube", "()I"⟩ ⟨"TablesMatchModel", "cube", "()I"⟩ ∈ my_tbl := tm_t (List.mem_append_right _ (List.mem_append_right _ (List.mem_of_getElem? (i := 15) rfl))) rfl
theorem t_3_16 : Cond.code ⟨"TablesMatchModel", "cube", "()I"⟩ prog_6_method_31_code 1 (some FieldType.int) ∈ my_tbl := tm_t (List.mem_append_right _ (List.mem_append_right _ (List.mem_of_getElem? (i := 16) rfl))) rfl
theorem t_3_17 : Cond.methodLink "TablesMatchLaw" 86 ⟨"TablesMatchModel", "owner", "()I"⟩ ∈ my_tbl := tm_t (List.mem_append_right _ (List.mem_append_right _ (List.mem_of_getElem? (i := 17) rfl))) rfl
theorem t_3_18 : Cond.instanceMethod ⟨"TablesMatchModel", "owner", "()I"⟩ ∈ my_tbl := tm_t (List.mem_append_right _ (List.mem_append_right _ (List.mem_of_getElem? (i := 18) rfl))) rfl
theorem t_3_19 : Cond.selects "TablesMatchModel" ⟨"TablesMatchModel", "owner", "()I"⟩ ⟨"TablesMatchModel", "owner", "()I"⟩ ∈ my_tbl := tm_t (List.mem_append_right _ (List.mem_append_right _ (List.mem_of_getElem? (i := 19) rfl))) rfl
theorem t_3_20 : Cond.code ⟨"TablesMatchModel", "owner", "()I"⟩ prog_6_method_32_code 1 (some FieldType.int) ∈ my_tbl := tm_t (List.mem_append_right _ (List.mem_append_right _ (List.mem_of_getElem? (i := 20) rfl))) rfl
theorem t_3_21 : Cond.methodLink "TablesMatchLaw" 90 ⟨"TablesMatchModel", "points", "(I)I"⟩ ∈ my_tbl := tm_t (List.mem_append_right _ (List.mem_append_right _ (List.mem_of_getElem? (i := 21) rfl))) rfl
theorem t_3_22 : Cond.instanceMethod ⟨"TablesMatchModel", "points", "(I)I"⟩ ∈ my_tbl := tm_t (List.mem_append_right _ (List.mem_append_right _ (List.mem_of_getElem? (i := 22) rfl))) rfl
theorem t_3_23 : Cond.selects "TablesMatchModel" ⟨"TablesMatchModel", "points", "(I)I"⟩ ⟨"TablesMatchModel", "points", "(I)I"⟩ ∈ my_tbl := tm_t (List.mem_append_right _ (List.mem_append_right _ (List.mem_of_getElem? (i := 23) rfl))) rfl
theorem t_3_24 : Cond.code ⟨"TablesMatchModel", "points", "(I)I"⟩ prog_6_method_33_code 2 (some FieldType.int) ∈ my_tbl := tm_t (List.mem_append_right _ (List.mem_append_right _ (List.mem_of_getElem? (i := 24) rfl))) rfl
theorem t_3_25 : Cond.methodLink "TablesMatchLaw" 94 ⟨"TablesMatchModel", "crawford", "()Z"⟩ ∈ my_tbl := tm_t (List.mem_append_right _ (List.mem_append_right _ (List.mem_of_getElem? (i := 25) rfl))) rfl
theorem t_3_26 : Cond.instanceMethod ⟨"TablesMatchModel", "crawford", "()Z"⟩ ∈ my_tbl := tm_t (List.mem_append_right _ (List.mem_append_right _ (List.mem_of_getElem? (i := 26) rfl))) rfl
theorem t_3_27 : Cond.selects "TablesMatchModel" ⟨"TablesMatchModel", "crawford", "()Z"⟩ ⟨"TablesMatchModel", "crawford", "()Z"⟩ ∈ my_tbl := tm_t (List.mem_append_right _ (List.mem_append_right _ (List.mem_of_getElem? (i := 27) rfl))) rfl
theorem t_3_28 : Cond.code ⟨"TablesMatchModel", "crawford", "()Z"⟩ prog_6_method_34_code 1 (some FieldType.boolean) ∈ my_tbl := tm_t (List.mem_append_right _ (List.mem_append_right _ (List.mem_of_getElem? (i := 28) rfl))) rfl
theorem t_3_29 : Cond.methodLink "TablesMatchLaw" 99 ⟨"TablesMatchModel", "chance", "(IIII)J"⟩ ∈ my_tbl := tm_t (List.mem_append_right _ (List.mem_append_right _ (List.mem_of_getElem? (i := 29) rfl))) rfl
theorem t_3_30 : Cond.instanceMethod ⟨"TablesMatchModel", "chance", "(IIII)J"⟩ ∈ my_tbl := tm_t (List.mem_append_right _ (List.mem_append_right _ (List.mem_of_getElem? (i := 30) rfl))) rfl
theorem t_3_31 : Cond.selects "TablesMatchModel" ⟨"TablesMatchModel", "chance", "(IIII)J"⟩ ⟨"TablesMatchModel", "chance", "(IIII)J"⟩ ∈ my_tbl := tm_t (List.mem_append_right _ (List.mem_append_right _ (List.mem_of_getElem? (i := 31) rfl))) rfl
theorem t_3_32 : Cond.code ⟨"TablesMatchModel", "chance", "(IIII)J"⟩ prog_6_method_42_code 9 (some FieldType.long) ∈ my_tbl := tm_t (List.mem_append_right _ (List.mem_append_right _ (List.mem_of_getElem? (i := 32) rfl))) rfl
theorem t_3_33 : Cond.methodLink "TablesMatchModel" 148 ⟨"TablesMatchModel", "isPlace", "(I)Z"⟩ ∈ my_tbl := tm_t (List.mem_append_right _ (List.mem_append_right _ (List.mem_of_getElem? (i := 33) rfl))) rfl
theorem t_3_34 : Cond.static ⟨"TablesMatchModel", "isPlace", "(I)Z"⟩ ∈ my_tbl := tm_t (List.mem_append_right _ (List.mem_append_right _ (List.mem_of_getElem? (i := 34) rfl))) rfl
theorem t_3_35 : Cond.code ⟨"TablesMatchModel", "isPlace", "(I)Z"⟩ prog_6_method_41_code 1 (some FieldType.boolean) ∈ my_tbl := tm_t (List.mem_append_right _ (List.mem_append_right _ (List.mem_of_getElem? (i := 35) rfl))) rfl
theorem t_3_36 : Cond.constantLong "TablesMatchModel" 151 (-1 : Int64) ∈ my_tbl := tm_t (List.mem_append_right _ (List.mem_append_right _ (List.mem_of_getElem? (i := 36) rfl))) rfl
theorem t_3_37 : Cond.methodLink "TablesMatchModel" 153 ⟨"TablesMatchModel", "workAll", "()V"⟩ ∈ my_tbl := tm_t (List.mem_append_right _ (List.mem_append_right _ (List.mem_of_getElem? (i := 37) rfl))) rfl
theorem t_3_39 : Cond.instanceMethod ⟨"TablesMatchModel", "workAll", "()V"⟩ ∈ my_tbl := tm_t (List.mem_append_right _ (List.mem_append_right _ (List.mem_of_getElem? (i := 39) rfl))) rfl
theorem t_3_40 : Cond.code ⟨"TablesMatchModel", "workAll", "()V"⟩ prog_6_method_40_code 7 none ∈ my_tbl := tm_t (List.mem_append_right _ (List.mem_append_right _ (List.mem_of_getElem? (i := 40) rfl))) rfl
theorem t_3_41 : Cond.methodLink "TablesMatchModel" 141 ⟨"TablesMatchModel", "work", "(IIII)J"⟩ ∈ my_tbl := tm_t (List.mem_append_right _ (List.mem_append_right _ (List.mem_of_getElem? (i := 41) rfl))) rfl
theorem t_3_43 : Cond.instanceMethod ⟨"TablesMatchModel", "work", "(IIII)J"⟩ ∈ my_tbl := tm_t (List.mem_append_right _ (List.mem_append_right _ (List.mem_of_getElem? (i := 43) rfl))) rfl
theorem t_3_44 : Cond.code ⟨"TablesMatchModel", "work", "(IIII)J"⟩ prog_6_method_39_code 14 (some FieldType.long) ∈ my_tbl := tm_t (List.mem_append_right _ (List.mem_append_right _ (List.mem_of_getElem? (i := 44) rfl))) rfl
theorem t_3_45 : Cond.constantLong "TablesMatchModel" 133 (2176782336 : Int64) ∈ my_tbl := tm_t (List.mem_append_right _ (List.mem_append_right _ (List.mem_of_getElem? (i := 45) rfl))) rfl
theorem t_3_46 : Cond.methodLink "TablesMatchModel" 135 ⟨"TablesMatchModel", "outcomes", "(IIII)I"⟩ ∈ my_tbl := tm_t (List.mem_append_right _ (List.mem_append_right _ (List.mem_of_getElem? (i := 46) rfl))) rfl
theorem t_3_47 : Cond.static ⟨"TablesMatchModel", "outcomes", "(IIII)I"⟩ ∈ my_tbl := tm_t (List.mem_append_right _ (List.mem_append_right _ (List.mem_of_getElem? (i := 47) rfl))) rfl
theorem t_3_48 : Cond.code ⟨"TablesMatchModel", "outcomes", "(IIII)I"⟩ prog_6_method_38_code 8 (some FieldType.int) ∈ my_tbl := tm_t (List.mem_append_right _ (List.mem_append_right _ (List.mem_of_getElem? (i := 48) rfl))) rfl
theorem t_3_49 : Cond.methodLink "TablesMatchModel" 127 ⟨"TablesMatchModel", "bit", "(II)I"⟩ ∈ my_tbl := tm_t (List.mem_append_right _ (List.mem_append_right _ (List.mem_of_getElem? (i := 49) rfl))) rfl
theorem t_3_50 : Cond.static ⟨"TablesMatchModel", "bit", "(II)I"⟩ ∈ my_tbl := tm_t (List.mem_append_right _ (List.mem_append_right _ (List.mem_of_getElem? (i := 50) rfl))) rfl
theorem t_3_51 : Cond.code ⟨"TablesMatchModel", "bit", "(II)I"⟩ prog_6_method_35_code 2 (some FieldType.int) ∈ my_tbl := tm_t (List.mem_append_right _ (List.mem_append_right _ (List.mem_of_getElem? (i := 51) rfl))) rfl
theorem t_3_52 : Cond.methodLink "TablesMatchModel" 130 ⟨"TablesMatchModel", "next", "(II)I"⟩ ∈ my_tbl := tm_t (List.mem_append_right _ (List.mem_append_right _ (List.mem_of_getElem? (i := 52) rfl))) rfl
theorem t_3_53 : Cond.static ⟨"TablesMatchModel", "next", "(II)I"⟩ ∈ my_tbl := tm_t (List.mem_append_right _ (List.mem_append_right _ (List.mem_of_getElem? (i := 53) rfl))) rfl
theorem t_3_54 : Cond.code ⟨"TablesMatchModel", "next", "(II)I"⟩ prog_6_method_37_code 8 (some FieldType.int) ∈ my_tbl := tm_t (List.mem_append_right _ (List.mem_append_right _ (List.mem_of_getElem? (i := 54) rfl))) rfl
theorem t_3_55 : Cond.methodLink "TablesMatchModel" 124 ⟨"TablesMatchModel", "moved", "(III)I"⟩ ∈ my_tbl := tm_t (List.mem_append_right _ (List.mem_append_right _ (List.mem_of_getElem? (i := 55) rfl))) rfl
theorem t_3_56 : Cond.static ⟨"TablesMatchModel", "moved", "(III)I"⟩ ∈ my_tbl := tm_t (List.mem_append_right _ (List.mem_append_right _ (List.mem_of_getElem? (i := 56) rfl))) rfl
theorem t_3_57 : Cond.code ⟨"TablesMatchModel", "moved", "(III)I"⟩ prog_6_method_36_code 3 (some FieldType.int) ∈ my_tbl := tm_t (List.mem_append_right _ (List.mem_append_right _ (List.mem_of_getElem? (i := 57) rfl))) rfl
theorem t_3_58 : Cond.constantLong "TablesMatchModel" 139 (36 : Int64) ∈ my_tbl := tm_t (List.mem_append_right _ (List.mem_append_right _ (List.mem_of_getElem? (i := 58) rfl))) rfl
theorem ts_T_beginGame : Cond.selects "TablesMatch" ⟨"TablesMatch", "beginGame", "()V"⟩ ⟨"TablesMatch", "beginGame", "()V"⟩ ∈ my_tbl := List.mem_filter.mpr ⟨List.mem_append_left _ (List.mem_map.mpr ⟨(⟨"TablesMatch", "beginGame", "()V"⟩, 11), List.mem_append_left _ (List.mem_of_getElem? (i := 0) rfl), rfl⟩), rfl⟩
theorem ts_H_mostUsable : Cond.selects "TablesMatch$Hand" ⟨"TablesMatch$Hand", "mostUsable", "(I)I"⟩ ⟨"TablesMatch$Hand", "mostUsable", "(I)I"⟩ ∈ my_tbl := List.mem_filter.mpr ⟨List.mem_append_left _ (List.mem_map.mpr ⟨(⟨"TablesMatch$Hand", "mostUsable", "(I)I"⟩, 5), List.mem_append_left _ (List.mem_of_getElem? (i := 1) rfl), rfl⟩), rfl⟩
theorem ts_H_mostUsableAfter : Cond.selects "TablesMatch$Hand" ⟨"TablesMatch$Hand", "mostUsableAfter", "(III)I"⟩ ⟨"TablesMatch$Hand", "mostUsableAfter", "(III)I"⟩ ∈ my_tbl := List.mem_filter.mpr ⟨List.mem_append_left _ (List.mem_map.mpr ⟨(⟨"TablesMatch$Hand", "mostUsableAfter", "(III)I"⟩, 5), List.mem_append_left _ (List.mem_of_getElem? (i := 2) rfl), rfl⟩), rfl⟩
theorem ts_T_endTurnIfDone : Cond.selects "TablesMatch" ⟨"TablesMatch", "endTurnIfDone", "()I"⟩ ⟨"TablesMatch", "endTurnIfDone", "()I"⟩ ∈ my_tbl := List.mem_filter.mpr ⟨List.mem_append_left _ (List.mem_map.mpr ⟨(⟨"TablesMatch", "endTurnIfDone", "()I"⟩, 11), List.mem_append_left _ (List.mem_of_getElem? (i := 3) rfl), rfl⟩), rfl⟩
theorem ts_H_canMoveGreater : Cond.selects "TablesMatch$Hand" ⟨"TablesMatch$Hand", "canMoveGreater", "(I)Z"⟩ ⟨"TablesMatch$Hand", "canMoveGreater", "(I)Z"⟩ ∈ my_tbl := List.mem_filter.mpr ⟨List.mem_append_left _ (List.mem_map.mpr ⟨(⟨"TablesMatch$Hand", "canMoveGreater", "(I)Z"⟩, 5), List.mem_append_left _ (List.mem_of_getElem? (i := 4) rfl), rfl⟩), rfl⟩
theorem ts_T_play : Cond.selects "TablesMatch" ⟨"TablesMatch", "play", "(II)I"⟩ ⟨"TablesMatch", "play", "(II)I"⟩ ∈ my_tbl := List.mem_filter.mpr ⟨List.mem_append_left _ (List.mem_map.mpr ⟨(⟨"TablesMatch", "play", "(II)I"⟩, 11), List.mem_append_left _ (List.mem_of_getElem? (i := 5) rfl), rfl⟩), rfl⟩
theorem ts_T_winGame : Cond.selects "TablesMatch" ⟨"TablesMatch", "winGame", "(I)I"⟩ ⟨"TablesMatch", "winGame", "(I)I"⟩ ∈ my_tbl := List.mem_filter.mpr ⟨List.mem_append_left _ (List.mem_map.mpr ⟨(⟨"TablesMatch", "winGame", "(I)I"⟩, 11), List.mem_append_left _ (List.mem_of_getElem? (i := 6) rfl), rfl⟩), rfl⟩
theorem ts_R_chanceToRoll : Cond.selects "TablesMatch$Race" ⟨"TablesMatch$Race", "chanceToRoll", "(IIII)J"⟩ ⟨"TablesMatch$Race", "chanceToRoll", "(IIII)J"⟩ ∈ my_tbl := List.mem_filter.mpr ⟨List.mem_append_left _ (List.mem_map.mpr ⟨(⟨"TablesMatch$Race", "chanceToRoll", "(IIII)J"⟩, 1), List.mem_append_left _ (List.mem_of_getElem? (i := 7) rfl), rfl⟩), rfl⟩
theorem ts_R_meanOfRolls : Cond.selects "TablesMatch$Race" ⟨"TablesMatch$Race", "meanOfRolls", "(IIII)J"⟩ ⟨"TablesMatch$Race", "meanOfRolls", "(IIII)J"⟩ ∈ my_tbl := List.mem_filter.mpr ⟨List.mem_append_left _ (List.mem_map.mpr ⟨(⟨"TablesMatch$Race", "meanOfRolls", "(IIII)J"⟩, 1), List.mem_append_left _ (List.mem_of_getElem? (i := 8) rfl), rfl⟩), rfl⟩
theorem ts_R_bestWithEqual : Cond.selects "TablesMatch$Race" ⟨"TablesMatch$Race", "bestWithEqual", "(IIIIII)J"⟩ ⟨"TablesMatch$Race", "bestWithEqual", "(IIIIII)J"⟩ ∈ my_tbl := List.mem_filter.mpr ⟨List.mem_append_left _ (List.mem_map.mpr ⟨(⟨"TablesMatch$Race", "bestWithEqual", "(IIIIII)J"⟩, 1), List.mem_append_left _ (List.mem_of_getElem? (i := 9) rfl), rfl⟩), rfl⟩
theorem ts_R_bestInOrder : Cond.selects "TablesMatch$Race" ⟨"TablesMatch$Race", "bestInOrder", "(IIIIII)J"⟩ ⟨"TablesMatch$Race", "bestInOrder", "(IIIIII)J"⟩ ∈ my_tbl := List.mem_filter.mpr ⟨List.mem_append_left _ (List.mem_map.mpr ⟨(⟨"TablesMatch$Race", "bestInOrder", "(IIIIII)J"⟩, 1), List.mem_append_left _ (List.mem_of_getElem? (i := 10) rfl), rfl⟩), rfl⟩
theorem ts_M_setUp : Cond.selects "TablesMatchModel" ⟨"TablesMatchModel", "setUp", "()V"⟩ ⟨"TablesMatchModel", "setUp", "()V"⟩ ∈ my_tbl := List.mem_filter.mpr ⟨List.mem_append_left _ (List.mem_map.mpr ⟨(⟨"TablesMatchModel", "setUp", "()V"⟩, 18), List.mem_append_left _ (List.mem_of_getElem? (i := 11) rfl), rfl⟩), rfl⟩
theorem ts_M_begin : Cond.selects "TablesMatchModel" ⟨"TablesMatchModel", "begin", "(II)I"⟩ ⟨"TablesMatchModel", "begin", "(II)I"⟩ ∈ my_tbl := List.mem_filter.mpr ⟨List.mem_append_left _ (List.mem_map.mpr ⟨(⟨"TablesMatchModel", "begin", "(II)I"⟩, 18), List.mem_append_left _ (List.mem_of_getElem? (i := 12) rfl), rfl⟩), rfl⟩
theorem ts_M_settle : Cond.selects "TablesMatchModel" ⟨"TablesMatchModel", "settle", "()I"⟩ ⟨"TablesMatchModel", "settle", "()I"⟩ ∈ my_tbl := List.mem_filter.mpr ⟨List.mem_append_left _ (List.mem_map.mpr ⟨(⟨"TablesMatchModel", "settle", "()I"⟩, 18), List.mem_append_left _ (List.mem_of_getElem? (i := 13) rfl), rfl⟩), rfl⟩
theorem ts_M_look : Cond.selects "TablesMatchModel" ⟨"TablesMatchModel", "look", "(II)V"⟩ ⟨"TablesMatchModel", "look", "(II)V"⟩ ∈ my_tbl := List.mem_filter.mpr ⟨List.mem_append_left _ (List.mem_map.mpr ⟨(⟨"TablesMatchModel", "look", "(II)V"⟩, 18), List.mem_append_left _ (List.mem_of_getElem? (i := 14) rfl), rfl⟩), rfl⟩
theorem ts_M_dueAt : Cond.selects "TablesMatchModel" ⟨"TablesMatchModel", "dueAt", "(III)I"⟩ ⟨"TablesMatchModel", "dueAt", "(III)I"⟩ ∈ my_tbl := List.mem_filter.mpr ⟨List.mem_append_left _ (List.mem_map.mpr ⟨(⟨"TablesMatchModel", "dueAt", "(III)I"⟩, 18), List.mem_append_left _ (List.mem_of_getElem? (i := 15) rfl), rfl⟩), rfl⟩
theorem ts_M_both : Cond.selects "TablesMatchModel" ⟨"TablesMatchModel", "both", "(III)Z"⟩ ⟨"TablesMatchModel", "both", "(III)Z"⟩ ∈ my_tbl := List.mem_filter.mpr ⟨List.mem_append_left _ (List.mem_map.mpr ⟨(⟨"TablesMatchModel", "both", "(III)Z"⟩, 18), List.mem_append_right _ (List.mem_of_getElem? (i := 0) rfl), rfl⟩), rfl⟩
theorem ts_M_can : Cond.selects "TablesMatchModel" ⟨"TablesMatchModel", "can", "(III)Z"⟩ ⟨"TablesMatchModel", "can", "(III)Z"⟩ ∈ my_tbl := List.mem_filter.mpr ⟨List.mem_append_left _ (List.mem_map.mpr ⟨(⟨"TablesMatchModel", "can", "(III)Z"⟩, 18), List.mem_append_right _ (List.mem_of_getElem? (i := 1) rfl), rfl⟩), rfl⟩
theorem ts_M_allHome : Cond.selects "TablesMatchModel" ⟨"TablesMatchModel", "allHome", "(I)Z"⟩ ⟨"TablesMatchModel", "allHome", "(I)Z"⟩ ∈ my_tbl := List.mem_filter.mpr ⟨List.mem_append_left _ (List.mem_map.mpr ⟨(⟨"TablesMatchModel", "allHome", "(I)Z"⟩, 18), List.mem_append_right _ (List.mem_of_getElem? (i := 2) rfl), rfl⟩), rfl⟩
theorem ts_M_noneAbove : Cond.selects "TablesMatchModel" ⟨"TablesMatchModel", "noneAbove", "(II)Z"⟩ ⟨"TablesMatchModel", "noneAbove", "(II)Z"⟩ ∈ my_tbl := List.mem_filter.mpr ⟨List.mem_append_left _ (List.mem_map.mpr ⟨(⟨"TablesMatchModel", "noneAbove", "(II)Z"⟩, 18), List.mem_append_right _ (List.mem_of_getElem? (i := 3) rfl), rfl⟩), rfl⟩
theorem ts_M_make : Cond.selects "TablesMatchModel" ⟨"TablesMatchModel", "make", "(III)V"⟩ ⟨"TablesMatchModel", "make", "(III)V"⟩ ∈ my_tbl := List.mem_filter.mpr ⟨List.mem_append_left _ (List.mem_map.mpr ⟨(⟨"TablesMatchModel", "make", "(III)V"⟩, 18), List.mem_append_right _ (List.mem_of_getElem? (i := 4) rfl), rfl⟩), rfl⟩
theorem ts_M_any : Cond.selects "TablesMatchModel" ⟨"TablesMatchModel", "any", "(II)Z"⟩ ⟨"TablesMatchModel", "any", "(II)Z"⟩ ∈ my_tbl := List.mem_filter.mpr ⟨List.mem_append_left _ (List.mem_map.mpr ⟨(⟨"TablesMatchModel", "any", "(II)Z"⟩, 18), List.mem_append_right _ (List.mem_of_getElem? (i := 5) rfl), rfl⟩), rfl⟩
theorem ts_M_longest : Cond.selects "TablesMatchModel" ⟨"TablesMatchModel", "longest", "(III)I"⟩ ⟨"TablesMatchModel", "longest", "(III)I"⟩ ∈ my_tbl := List.mem_filter.mpr ⟨List.mem_append_left _ (List.mem_map.mpr ⟨(⟨"TablesMatchModel", "longest", "(III)I"⟩, 18), List.mem_append_right _ (List.mem_of_getElem? (i := 6) rfl), rfl⟩), rfl⟩
theorem ts_M_right : Cond.selects "TablesMatchModel" ⟨"TablesMatchModel", "right", "(II)Z"⟩ ⟨"TablesMatchModel", "right", "(II)Z"⟩ ∈ my_tbl := List.mem_filter.mpr ⟨List.mem_append_left _ (List.mem_map.mpr ⟨(⟨"TablesMatchModel", "right", "(II)Z"⟩, 18), List.mem_append_right _ (List.mem_of_getElem? (i := 7) rfl), rfl⟩), rfl⟩
theorem ts_M_times : Cond.selects "TablesMatchModel" ⟨"TablesMatchModel", "times", "(I)I"⟩ ⟨"TablesMatchModel", "times", "(I)I"⟩ ∈ my_tbl := List.mem_filter.mpr ⟨List.mem_append_left _ (List.mem_map.mpr ⟨(⟨"TablesMatchModel", "times", "(I)I"⟩, 18), List.mem_append_right _ (List.mem_of_getElem? (i := 8) rfl), rfl⟩), rfl⟩
theorem ts_M_win : Cond.selects "TablesMatchModel" ⟨"TablesMatchModel", "win", "(II)I"⟩ ⟨"TablesMatchModel", "win", "(II)I"⟩ ∈ my_tbl := List.mem_filter.mpr ⟨List.mem_append_left _ (List.mem_map.mpr ⟨(⟨"TablesMatchModel", "win", "(II)I"⟩, 18), List.mem_append_right _ (List.mem_of_getElem? (i := 9) rfl), rfl⟩), rfl⟩
theorem ts_M_find : Cond.selects "TablesMatchModel" ⟨"TablesMatchModel", "find", "(I)I"⟩ ⟨"TablesMatchModel", "find", "(I)I"⟩ ∈ my_tbl := List.mem_filter.mpr ⟨List.mem_append_left _ (List.mem_map.mpr ⟨(⟨"TablesMatchModel", "find", "(I)I"⟩, 18), List.mem_append_right _ (List.mem_of_getElem? (i := 10) rfl), rfl⟩), rfl⟩
theorem ts_M_workAll : Cond.selects "TablesMatchModel" ⟨"TablesMatchModel", "workAll", "()V"⟩ ⟨"TablesMatchModel", "workAll", "()V"⟩ ∈ my_tbl := List.mem_filter.mpr ⟨List.mem_append_left _ (List.mem_map.mpr ⟨(⟨"TablesMatchModel", "workAll", "()V"⟩, 18), List.mem_append_right _ (List.mem_of_getElem? (i := 11) rfl), rfl⟩), rfl⟩
theorem ts_M_work : Cond.selects "TablesMatchModel" ⟨"TablesMatchModel", "work", "(IIII)J"⟩ ⟨"TablesMatchModel", "work", "(IIII)J"⟩ ∈ my_tbl := List.mem_filter.mpr ⟨List.mem_append_left _ (List.mem_map.mpr ⟨(⟨"TablesMatchModel", "work", "(IIII)J"⟩, 18), List.mem_append_right _ (List.mem_of_getElem? (i := 12) rfl), rfl⟩), rfl⟩
theorem i_Bd : ∀ w ∈ u_ws R_Bd F_Bd 1, w ∈ my_tbl := by decide +kernel
theorem i_Hd : ∀ w ∈ u_ws R_Hd F_Hd 5, w ∈ my_tbl := by decide +kernel
theorem i_Rc : ∀ w ∈ u_ws R_Rc F_Rc 1, w ∈ my_tbl := by decide +kernel
theorem i_TM : ∀ w ∈ u_ws R_TM F_TM 11, w ∈ my_tbl := by decide +kernel
theorem i_Md : ∀ w ∈ u_ws R_Md F_Md 18, w ∈ my_tbl := by decide +kernel
theorem kb_T_init : KB y_T_init b_T_init 2 none 1 := ⟨t_1_12, t_1_1, by decide +kernel⟩
theorem kb_B_init : KB y_B_init b_B_init 1 none 0 := ⟨t_1_20, t_1_2, by decide +kernel⟩
theorem kb_H_init : KB y_H_init b_H_init 2 none 1 := ⟨t_1_34, t_1_3, by decide +kernel⟩
theorem kb_R_init : KB y_R_init b_R_init 1 none 0 := ⟨t_1_58, t_1_4, by decide +kernel⟩
theorem kb_T_beginGame : KB y_T_beginGame b_T_beginGame 1 none 0 := ⟨t_1_74, t_1_1, by decide +kernel⟩
theorem kb_B_setUp : KB y_B_setUp b_B_setUp 1 none 0 := ⟨t_1_78, t_1_2, by decide +kernel⟩
theorem kb_T_place : KB y_T_place b_T_place 4 (some FieldType.boolean) 3 := ⟨t_1_121, t_1_1, by decide +kernel⟩
theorem kb_T_isPlayer : KB y_T_isPlayer b_T_isPlayer 1 (some FieldType.boolean) 1 := ⟨t_1_124, t_1_1, by decide +kernel⟩
theorem kb_B_putMen : KB y_B_putMen b_B_putMen 7 (some FieldType.boolean) 3 := ⟨t_1_128, t_1_2, by decide +kernel⟩
theorem kb_T_roll : KB y_T_roll b_T_roll 3 (some FieldType.int) 2 := ⟨t_1_132, t_1_1, by decide +kernel⟩
theorem kb_T_isNumber : KB y_T_isNumber b_T_isNumber 1 (some FieldType.boolean) 1 := ⟨t_1_135, t_1_1, by decide +kernel⟩
theorem kb_H_take : KB y_H_take b_H_take 5 none 3 := ⟨t_1_139, t_1_3, by decide +kernel⟩
theorem kb_H_mostUsable : KB y_H_mostUsable b_H_mostUsable 5 (some FieldType.int) 1 := ⟨t_1_143, t_1_3, by decide +kernel⟩
theorem kb_B_canMove : KB y_B_canMove b_B_canMove 7 (some FieldType.boolean) 3 := ⟨t_1_147, t_1_2, by decide +kernel⟩
theorem kb_B_rearmostPlace : KB y_B_rearmostPlace b_B_rearmostPlace 2 (some FieldType.int) 1 := ⟨t_1_151, t_1_2, by decide +kernel⟩
theorem kb_H_mostUsableAfter : KB y_H_mostUsableAfter b_H_mostUsableAfter 5 (some FieldType.int) 3 := ⟨t_1_155, t_1_3, by decide +kernel⟩
theorem kb_B_shift : KB y_B_shift b_B_shift 4 none 3 := ⟨t_1_159, t_1_2, by decide +kernel⟩
theorem kb_B_shiftBack : KB y_B_shiftBack b_B_shiftBack 4 none 3 := ⟨t_1_164, t_1_2, by decide +kernel⟩
theorem kb_T_endTurnIfDone : KB y_T_endTurnIfDone b_T_endTurnIfDone 1 (some FieldType.int) 0 := ⟨t_1_169, t_1_1, by decide +kernel⟩
theorem kb_T_move : KB y_T_move b_T_move 3 (some FieldType.int) 2 := ⟨t_1_173, t_1_1, by decide +kernel⟩
theorem kb_H_isRight : KB y_H_isRight b_H_isRight 3 (some FieldType.boolean) 2 := ⟨t_1_177, t_1_3, by decide +kernel⟩
theorem kb_H_canMoveGreater : KB y_H_canMoveGreater b_H_canMoveGreater 3 (some FieldType.boolean) 1 := ⟨t_1_182, t_1_3, by decide +kernel⟩
theorem kb_B_canMoveAny : KB y_B_canMoveAny b_B_canMoveAny 4 (some FieldType.boolean) 2 := ⟨t_1_186, t_1_2, by decide +kernel⟩
theorem kb_T_play : KB y_T_play b_T_play 3 (some FieldType.int) 2 := ⟨t_1_191, t_1_1, by decide +kernel⟩
theorem kb_H_use : KB y_H_use b_H_use 3 none 2 := ⟨t_1_195, t_1_3, by decide +kernel⟩
theorem kb_B_hit : KB y_B_hit b_B_hit 4 none 2 := ⟨t_1_199, t_1_2, by decide +kernel⟩
theorem kb_B_timesCounted : KB y_B_timesCounted b_B_timesCounted 3 (some FieldType.int) 1 := ⟨t_1_203, t_1_2, by decide +kernel⟩
theorem kb_T_winGame : KB y_T_winGame b_T_winGame 2 (some FieldType.int) 1 := ⟨t_1_207, t_1_1, by decide +kernel⟩
theorem kb_T_step : KB y_T_step b_T_step 5 (some FieldType.int) 1 := ⟨t_1_211, t_1_1, by decide +kernel⟩
theorem kb_T_ways : KB y_T_ways b_T_ways 1 (some FieldType.int) 0 := ⟨t_1_215, t_1_1, by decide +kernel⟩
theorem kb_H_countRight : KB y_H_countRight b_H_countRight 4 (some FieldType.int) 0 := ⟨t_1_219, t_1_3, by decide +kernel⟩
theorem kb_T_due : KB y_T_due b_T_due 1 (some FieldType.int) 0 := ⟨t_1_224, t_1_1, by decide +kernel⟩
theorem kb_T_left : KB y_T_left b_T_left 2 (some FieldType.int) 1 := ⟨t_1_228, t_1_1, by decide +kernel⟩
theorem kb_T_offer : KB y_T_offer b_T_offer 1 (some FieldType.boolean) 0 := ⟨t_1_232, t_1_1, by decide +kernel⟩
theorem kb_T_answer : KB y_T_answer b_T_answer 2 (some FieldType.int) 1 := ⟨t_1_236, t_1_1, by decide +kernel⟩
theorem kb_T_phase : KB y_T_phase b_T_phase 1 (some FieldType.int) 0 := ⟨t_2_0, t_1_1, by decide +kernel⟩
theorem kb_T_turn : KB y_T_turn b_T_turn 1 (some FieldType.int) 0 := ⟨t_2_4, t_1_1, by decide +kernel⟩
theorem kb_T_men : KB y_T_men b_T_men 3 (some FieldType.int) 2 := ⟨t_2_8, t_1_1, by decide +kernel⟩
theorem kb_T_pips : KB y_T_pips b_T_pips 2 (some FieldType.int) 1 := ⟨t_2_12, t_1_1, by decide +kernel⟩
theorem kb_B_countPips : KB y_B_countPips b_B_countPips 4 (some FieldType.int) 1 := ⟨t_2_16, t_1_2, by decide +kernel⟩
theorem kb_T_cube : KB y_T_cube b_T_cube 1 (some FieldType.int) 0 := ⟨t_2_20, t_1_1, by decide +kernel⟩
theorem kb_T_owner : KB y_T_owner b_T_owner 1 (some FieldType.int) 0 := ⟨t_2_24, t_1_1, by decide +kernel⟩
theorem kb_T_points : KB y_T_points b_T_points 2 (some FieldType.int) 1 := ⟨t_2_28, t_1_1, by decide +kernel⟩
theorem kb_T_crawford : KB y_T_crawford b_T_crawford 1 (some FieldType.boolean) 0 := ⟨t_2_32, t_1_1, by decide +kernel⟩
theorem kb_T_chance : KB y_T_chance b_T_chance 5 (some FieldType.long) 4 := ⟨t_2_36, t_1_1, by decide +kernel⟩
theorem kb_T_isRacePoint : KB y_T_isRacePoint b_T_isRacePoint 1 (some FieldType.boolean) 1 := ⟨t_2_39, t_1_1, by decide +kernel⟩
theorem kb_R_chanceToRoll : KB y_R_chanceToRoll b_R_chanceToRoll 6 (some FieldType.long) 4 := ⟨t_2_44, t_1_4, by decide +kernel⟩
theorem kb_R_pairNumber : KB y_R_pairNumber b_R_pairNumber 3 (some FieldType.int) 2 := ⟨t_2_48, t_1_4, by decide +kernel⟩
theorem kb_R_meanOfRolls : KB y_R_meanOfRolls b_R_meanOfRolls 13 (some FieldType.long) 4 := ⟨t_2_54, t_1_4, by decide +kernel⟩
theorem kb_R_bestWithEqual : KB y_R_bestWithEqual b_R_bestWithEqual 12 (some FieldType.long) 6 := ⟨t_2_58, t_1_4, by decide +kernel⟩
theorem kb_R_frontCanMove : KB y_R_frontCanMove b_R_frontCanMove 3 (some FieldType.boolean) 3 := ⟨t_2_62, t_1_4, by decide +kernel⟩
theorem kb_Q_maxL : KB y_Q_maxL b_Q_maxL 4 (some FieldType.long) 2 := ⟨t_2_65, t_1_5, by decide +kernel⟩
theorem kb_R_bestInOrder : KB y_R_bestInOrder b_R_bestInOrder 11 (some FieldType.long) 6 := ⟨t_2_69, t_1_4, by decide +kernel⟩
theorem kb_W_cell : KB y_W_cell b_W_cell 2 (some FieldType.int) 2 := ⟨t_2_74, t_1_0, by decide +kernel⟩
theorem kb_M_init : KB y_M_init b_M_init 2 none 1 := ⟨t_2_79, t_1_7, by decide +kernel⟩
theorem kb_M_setUp : KB y_M_setUp b_M_setUp 3 none 0 := ⟨t_2_84, t_1_7, by decide +kernel⟩
theorem kb_M_place : KB y_M_place b_M_place 5 (some FieldType.boolean) 3 := ⟨t_2_143, t_1_7, by decide +kernel⟩
theorem kb_M_roll : KB y_M_roll b_M_roll 3 (some FieldType.int) 2 := ⟨t_2_147, t_1_7, by decide +kernel⟩
theorem kb_M_begin : KB y_M_begin b_M_begin 3 (some FieldType.int) 2 := ⟨t_2_151, t_1_7, by decide +kernel⟩
theorem kb_M_settle : KB y_M_settle b_M_settle 1 (some FieldType.int) 0 := ⟨t_2_155, t_1_7, by decide +kernel⟩
theorem kb_M_look : KB y_M_look b_M_look 4 none 2 := ⟨t_2_159, t_1_7, by decide +kernel⟩
theorem kb_M_dueAt : KB y_M_dueAt b_M_dueAt 4 (some FieldType.int) 3 := ⟨t_2_163, t_1_7, by decide +kernel⟩
theorem kb_M_both : KB y_M_both b_M_both 5 (some FieldType.boolean) 3 := ⟨t_2_167, t_1_7, by decide +kernel⟩
theorem kb_M_can : KB y_M_can b_M_can 6 (some FieldType.boolean) 3 := ⟨t_2_171, t_1_7, by decide +kernel⟩
theorem kb_M_allHome : KB y_M_allHome b_M_allHome 3 (some FieldType.boolean) 1 := ⟨t_2_175, t_1_7, by decide +kernel⟩
theorem kb_M_noneAbove : KB y_M_noneAbove b_M_noneAbove 4 (some FieldType.boolean) 2 := ⟨t_2_179, t_1_7, by decide +kernel⟩
theorem kb_M_make : KB y_M_make b_M_make 6 none 3 := ⟨t_2_183, t_1_7, by decide +kernel⟩
theorem kb_M_any : KB y_M_any b_M_any 4 (some FieldType.boolean) 2 := ⟨t_2_187, t_1_7, by decide +kernel⟩
theorem kb_M_longest : KB y_M_longest b_M_longest 6 (some FieldType.int) 3 := ⟨t_2_191, t_1_7, by decide +kernel⟩
theorem kb_M_move : KB y_M_move b_M_move 4 (some FieldType.int) 2 := ⟨t_2_195, t_1_7, by decide +kernel⟩
theorem kb_M_right : KB y_M_right b_M_right 5 (some FieldType.boolean) 2 := ⟨t_2_199, t_1_7, by decide +kernel⟩
theorem kb_M_times : KB y_M_times b_M_times 4 (some FieldType.int) 1 := ⟨t_2_203, t_1_7, by decide +kernel⟩
theorem kb_M_win : KB y_M_win b_M_win 3 (some FieldType.int) 2 := ⟨t_2_207, t_1_7, by decide +kernel⟩
theorem kb_M_step : KB y_M_step b_M_step 3 (some FieldType.int) 1 := ⟨t_2_211, t_1_7, by decide +kernel⟩
theorem kb_M_find : KB y_M_find b_M_find 5 (some FieldType.int) 1 := ⟨t_2_215, t_1_7, by decide +kernel⟩
theorem kb_M_ways : KB y_M_ways b_M_ways 1 (some FieldType.int) 0 := ⟨t_2_220, t_1_7, by decide +kernel⟩
theorem kb_M_due : KB y_M_due b_M_due 1 (some FieldType.int) 0 := ⟨t_2_224, t_1_7, by decide +kernel⟩
theorem kb_M_left : KB y_M_left b_M_left 2 (some FieldType.int) 1 := ⟨t_2_228, t_1_7, by decide +kernel⟩
theorem kb_M_offer : KB y_M_offer b_M_offer 1 (some FieldType.boolean) 0 := ⟨t_2_232, t_1_7, by decide +kernel⟩
theorem kb_M_answer : KB y_M_answer b_M_answer 2 (some FieldType.int) 1 := ⟨t_2_236, t_1_7, by decide +kernel⟩
theorem kb_M_phase : KB y_M_phase b_M_phase 1 (some FieldType.int) 0 := ⟨t_3_0, t_1_7, by decide +kernel⟩
theorem kb_M_turn : KB y_M_turn b_M_turn 1 (some FieldType.int) 0 := ⟨t_3_4, t_1_7, by decide +kernel⟩
theorem kb_M_men : KB y_M_men b_M_men 3 (some FieldType.int) 2 := ⟨t_3_8, t_1_7, by decide +kernel⟩
theorem kb_M_pips : KB y_M_pips b_M_pips 4 (some FieldType.int) 1 := ⟨t_3_12, t_1_7, by decide +kernel⟩
theorem kb_M_cube : KB y_M_cube b_M_cube 1 (some FieldType.int) 0 := ⟨t_3_16, t_1_7, by decide +kernel⟩
theorem kb_M_owner : KB y_M_owner b_M_owner 1 (some FieldType.int) 0 := ⟨t_3_20, t_1_7, by decide +kernel⟩
theorem kb_M_points : KB y_M_points b_M_points 2 (some FieldType.int) 1 := ⟨t_3_24, t_1_7, by decide +kernel⟩
theorem kb_M_crawford : KB y_M_crawford b_M_crawford 1 (some FieldType.boolean) 0 := ⟨t_3_28, t_1_7, by decide +kernel⟩
theorem kb_M_chance : KB y_M_chance b_M_chance 9 (some FieldType.long) 4 := ⟨t_3_32, t_1_7, by decide +kernel⟩
theorem kb_M_isPlace : KB y_M_isPlace b_M_isPlace 1 (some FieldType.boolean) 1 := ⟨t_3_35, t_1_7, by decide +kernel⟩
theorem kb_M_workAll : KB y_M_workAll b_M_workAll 7 none 0 := ⟨t_3_40, t_1_7, by decide +kernel⟩
theorem kb_M_work : KB y_M_work b_M_work 14 (some FieldType.long) 4 := ⟨t_3_44, t_1_7, by decide +kernel⟩
theorem kb_M_outcomes : KB y_M_outcomes b_M_outcomes 8 (some FieldType.int) 4 := ⟨t_3_48, t_1_7, by decide +kernel⟩
theorem kb_M_bit : KB y_M_bit b_M_bit 2 (some FieldType.int) 2 := ⟨t_3_51, t_1_7, by decide +kernel⟩
theorem kb_M_next : KB y_M_next b_M_next 8 (some FieldType.int) 2 := ⟨t_3_54, t_1_7, by decide +kernel⟩
theorem kb_M_moved : KB y_M_moved b_M_moved 3 (some FieldType.int) 3 := ⟨t_3_57, t_1_7, by decide +kernel⟩
