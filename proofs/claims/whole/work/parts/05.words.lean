/-! The words of tables_1 in wA, by their places (q_n: the n-th). -/
theorem q_0 : (Cond.initialized "CapUnitLaw") ∈ wA := wA_mem (List.mem_append_left _ (List.mem_of_getElem? (i := 0) rfl)) rfl
theorem q_1 : (Cond.initialized "CapUnit") ∈ wA := wA_mem (List.mem_append_left _ (List.mem_of_getElem? (i := 1) rfl)) rfl
theorem q_2 : (Cond.initialized "CapUnitModel") ∈ wA := wA_mem (List.mem_append_left _ (List.mem_of_getElem? (i := 2) rfl)) rfl
theorem q_3 : (Cond.initialized "java/lang/Throwable") ∈ wA := wA_mem (List.mem_append_left _ (List.mem_of_getElem? (i := 3) rfl)) rfl
theorem q_4 : (Cond.initialized "java/lang/Exception") ∈ wA := wA_mem (List.mem_append_left _ (List.mem_of_getElem? (i := 4) rfl)) rfl
theorem q_5 : (Cond.initialized "java/lang/RuntimeException") ∈ wA := wA_mem (List.mem_append_left _ (List.mem_of_getElem? (i := 5) rfl)) rfl
theorem q_6 : (Cond.initialized "java/lang/IndexOutOfBoundsException") ∈ wA := wA_mem (List.mem_append_left _ (List.mem_of_getElem? (i := 6) rfl)) rfl
theorem q_7 : (Cond.initialized "java/lang/IllegalArgumentException") ∈ wA := wA_mem (List.mem_append_left _ (List.mem_of_getElem? (i := 7) rfl)) rfl
theorem q_8 : (Cond.initialized "java/lang/IllegalStateException") ∈ wA := wA_mem (List.mem_append_left _ (List.mem_of_getElem? (i := 8) rfl)) rfl
theorem q_9 : (Cond.initialized "java/lang/Math") ∈ wA := wA_mem (List.mem_append_left _ (List.mem_of_getElem? (i := 9) rfl)) rfl
theorem q_10 : (Cond.classLink "CapUnitLaw" 8 "CapUnit") ∈ wA := wA_mem (List.mem_append_left _ (List.mem_of_getElem? (i := 10) rfl)) rfl
theorem q_11 : (Cond.instantiable "CapUnit" 7) ∈ wA := wA_mem (List.mem_append_left _ (List.mem_of_getElem? (i := 11) rfl)) rfl
theorem q_12 : (Cond.methodLink "CapUnitLaw" 65 ⟨"CapUnit", "<init>", "()V"⟩) ∈ wA := wA_mem (List.mem_append_left _ (List.mem_of_getElem? (i := 12) rfl)) rfl
theorem q_13 : (Cond.instanceMethod ⟨"CapUnit", "<init>", "()V"⟩) ∈ wA := wA_mem (List.mem_append_left _ (List.mem_of_getElem? (i := 13) rfl)) rfl
theorem q_14 : (Cond.code ⟨"CapUnit", "<init>", "()V"⟩ prog_1_method_1_code 2 none) ∈ wA := wA_mem (List.mem_append_left _ (List.mem_of_getElem? (i := 14) rfl)) rfl
theorem q_15 : (Cond.methodLink "CapUnit" 3 ⟨"java/lang/Object", "<init>", "()V"⟩) ∈ wA := wA_mem (List.mem_append_left _ (List.mem_of_getElem? (i := 15) rfl)) rfl
theorem q_16 : (Cond.instanceMethod ⟨"java/lang/Object", "<init>", "()V"⟩) ∈ wA := wA_mem (List.mem_append_left _ (List.mem_of_getElem? (i := 16) rfl)) rfl
theorem q_17 : (Cond.code ⟨"java/lang/Object", "<init>", "()V"⟩ object_method_1_code 1 none) ∈ wA := wA_mem (List.mem_append_left _ (List.mem_of_getElem? (i := 17) rfl)) rfl
theorem q_18 : (Cond.constant "CapUnit" 20 (1000194 : Int32)) ∈ wA := wA_mem (List.mem_append_left _ (List.mem_of_getElem? (i := 18) rfl)) rfl
theorem q_19 : (Cond.fieldLink "CapUnit" 9 "CapUnit" "tags" "[Z") ∈ wA := wA_mem (List.mem_append_left _ (List.mem_of_getElem? (i := 19) rfl)) rfl
theorem q_20 : (Cond.fieldLink "CapUnit" 13 "CapUnit" "addresses" "[I") ∈ wA := wA_mem (List.mem_append_left _ (List.mem_of_getElem? (i := 20) rfl)) rfl
theorem q_21 : (Cond.fieldLink "CapUnit" 17 "CapUnit" "metas" "[I") ∈ wA := wA_mem (List.mem_append_left _ (List.mem_of_getElem? (i := 21) rfl)) rfl
theorem q_22 : (Cond.fieldLink "CapUnit" 21 "CapUnit" "rootBases" "[J") ∈ wA := wA_mem (List.mem_append_left _ (List.mem_of_getElem? (i := 22) rfl)) rfl
theorem q_23 : (Cond.fieldLink "CapUnit" 25 "CapUnit" "rootTops" "[J") ∈ wA := wA_mem (List.mem_append_left _ (List.mem_of_getElem? (i := 23) rfl)) rfl
theorem q_24 : (Cond.fieldLink "CapUnit" 28 "CapUnit" "rootPerms" "[I") ∈ wA := wA_mem (List.mem_append_left _ (List.mem_of_getElem? (i := 24) rfl)) rfl
theorem q_25 : (Cond.fieldLink "CapUnit" 31 "CapUnit" "roots" "I") ∈ wA := wA_mem (List.mem_append_left _ (List.mem_of_getElem? (i := 25) rfl)) rfl
theorem q_26 : (Cond.laysFinal "CapUnit" "CapUnit" "tags" "[Z") ∈ wA := wA_mem (List.mem_append_left _ (List.mem_of_getElem? (i := 26) rfl)) rfl
theorem q_27 : (Cond.soleField "CapUnit" "tags") ∈ wA := wA_mem (List.mem_append_left _ (List.mem_of_getElem? (i := 27) rfl)) rfl
theorem q_28 : (Cond.laysFinal "CapUnit" "CapUnit" "addresses" "[I") ∈ wA := wA_mem (List.mem_append_left _ (List.mem_of_getElem? (i := 28) rfl)) rfl
theorem q_29 : (Cond.soleField "CapUnit" "addresses") ∈ wA := wA_mem (List.mem_append_left _ (List.mem_of_getElem? (i := 29) rfl)) rfl
theorem q_30 : (Cond.laysFinal "CapUnit" "CapUnit" "metas" "[I") ∈ wA := wA_mem (List.mem_append_left _ (List.mem_of_getElem? (i := 30) rfl)) rfl
theorem q_31 : (Cond.soleField "CapUnit" "metas") ∈ wA := wA_mem (List.mem_append_left _ (List.mem_of_getElem? (i := 31) rfl)) rfl
theorem q_32 : (Cond.laysFinal "CapUnit" "CapUnit" "rootBases" "[J") ∈ wA := wA_mem (List.mem_append_left _ (List.mem_of_getElem? (i := 32) rfl)) rfl
theorem q_33 : (Cond.soleField "CapUnit" "rootBases") ∈ wA := wA_mem (List.mem_append_left _ (List.mem_of_getElem? (i := 33) rfl)) rfl
theorem q_34 : (Cond.laysFinal "CapUnit" "CapUnit" "rootTops" "[J") ∈ wA := wA_mem (List.mem_append_left _ (List.mem_of_getElem? (i := 34) rfl)) rfl
theorem q_35 : (Cond.soleField "CapUnit" "rootTops") ∈ wA := wA_mem (List.mem_append_left _ (List.mem_of_getElem? (i := 35) rfl)) rfl
theorem q_36 : (Cond.laysFinal "CapUnit" "CapUnit" "rootPerms" "[I") ∈ wA := wA_mem (List.mem_append_left _ (List.mem_of_getElem? (i := 36) rfl)) rfl
theorem q_37 : (Cond.soleField "CapUnit" "rootPerms") ∈ wA := wA_mem (List.mem_append_left _ (List.mem_of_getElem? (i := 37) rfl)) rfl
theorem q_38 : (Cond.lays "CapUnit" "CapUnit" "roots" "I") ∈ wA := wA_mem (List.mem_append_left _ (List.mem_of_getElem? (i := 38) rfl)) rfl
theorem q_39 : (Cond.soleField "CapUnit" "roots") ∈ wA := wA_mem (List.mem_append_left _ (List.mem_of_getElem? (i := 39) rfl)) rfl
theorem q_40 : (Cond.superclass "CapUnit" "java/lang/Object") ∈ wA := wA_mem (List.mem_append_left _ (List.mem_of_getElem? (i := 40) rfl)) rfl
theorem q_41 : (Cond.arrayClass .boolean) ∈ wA := wA_mem (List.mem_append_left _ (List.mem_of_getElem? (i := 41) rfl)) rfl
theorem q_42 : (Cond.arrayClass .int) ∈ wA := wA_mem (List.mem_append_left _ (List.mem_of_getElem? (i := 42) rfl)) rfl
theorem q_43 : (Cond.arrayClass .long) ∈ wA := wA_mem (List.mem_append_left _ (List.mem_of_getElem? (i := 43) rfl)) rfl
theorem q_44 : (Cond.methodLink "CapUnitLaw" 122 ⟨"CapUnit", "bound", "(IIZ)J"⟩) ∈ wA := wA_mem (List.mem_append_left _ (List.mem_of_getElem? (i := 44) rfl)) rfl
theorem q_45 : (Cond.instanceMethod ⟨"CapUnit", "bound", "(IIZ)J"⟩) ∈ wA := wA_mem (List.mem_append_left _ (List.mem_of_getElem? (i := 45) rfl)) rfl
theorem q_46 : (Cond.selects "CapUnit" ⟨"CapUnit", "bound", "(IIZ)J"⟩ ⟨"CapUnit", "bound", "(IIZ)J"⟩) ∈ wA := wA_mem (List.mem_append_left _ (List.mem_of_getElem? (i := 46) rfl)) rfl
theorem q_47 : (Cond.code ⟨"CapUnit", "bound", "(IIZ)J"⟩ prog_1_method_15_code 4 (some .long)) ∈ wA := wA_mem (List.mem_append_left _ (List.mem_of_getElem? (i := 47) rfl)) rfl
theorem q_48 : (Cond.methodLink "CapUnit" 101 ⟨"CapUnit", "topOf", "(II)J"⟩) ∈ wA := wA_mem (List.mem_append_left _ (List.mem_of_getElem? (i := 48) rfl)) rfl
theorem q_49 : (Cond.static ⟨"CapUnit", "topOf", "(II)J"⟩) ∈ wA := wA_mem (List.mem_append_left _ (List.mem_of_getElem? (i := 49) rfl)) rfl
theorem q_50 : (Cond.code ⟨"CapUnit", "topOf", "(II)J"⟩ prog_1_method_37_code 8 (some .long)) ∈ wA := wA_mem (List.mem_append_left _ (List.mem_of_getElem? (i := 50) rfl)) rfl
theorem q_51 : (Cond.methodLink "CapUnit" 153 ⟨"CapUnit", "topMantissa", "(I)I"⟩) ∈ wA := wA_mem (List.mem_append_left _ (List.mem_of_getElem? (i := 51) rfl)) rfl
theorem q_52 : (Cond.static ⟨"CapUnit", "topMantissa", "(I)I"⟩) ∈ wA := wA_mem (List.mem_append_left _ (List.mem_of_getElem? (i := 52) rfl)) rfl
theorem q_53 : (Cond.code ⟨"CapUnit", "topMantissa", "(I)I"⟩ prog_1_method_33_code 4 (some .int)) ∈ wA := wA_mem (List.mem_append_left _ (List.mem_of_getElem? (i := 53) rfl)) rfl
theorem q_54 : (Cond.methodLink "CapUnit" 144 ⟨"CapUnit", "baseMantissa", "(I)I"⟩) ∈ wA := wA_mem (List.mem_append_left _ (List.mem_of_getElem? (i := 54) rfl)) rfl
theorem q_55 : (Cond.static ⟨"CapUnit", "baseMantissa", "(I)I"⟩) ∈ wA := wA_mem (List.mem_append_left _ (List.mem_of_getElem? (i := 55) rfl)) rfl
theorem q_56 : (Cond.code ⟨"CapUnit", "baseMantissa", "(I)I"⟩ prog_1_method_32_code 2 (some .int)) ∈ wA := wA_mem (List.mem_append_left _ (List.mem_of_getElem? (i := 56) rfl)) rfl
theorem q_57 : (Cond.methodLink "CapUnit" 149 ⟨"CapUnit", "placed", "(III)J"⟩) ∈ wA := wA_mem (List.mem_append_left _ (List.mem_of_getElem? (i := 57) rfl)) rfl
theorem q_58 : (Cond.static ⟨"CapUnit", "placed", "(III)J"⟩) ∈ wA := wA_mem (List.mem_append_left _ (List.mem_of_getElem? (i := 58) rfl)) rfl
theorem q_59 : (Cond.code ⟨"CapUnit", "placed", "(III)J"⟩ prog_1_method_38_code 10 (some .long)) ∈ wA := wA_mem (List.mem_append_left _ (List.mem_of_getElem? (i := 59) rfl)) rfl
theorem q_60 : (Cond.methodLink "CapUnit" 137 ⟨"CapUnit", "exponentOf", "(I)I"⟩) ∈ wA := wA_mem (List.mem_append_left _ (List.mem_of_getElem? (i := 60) rfl)) rfl
theorem q_61 : (Cond.static ⟨"CapUnit", "exponentOf", "(I)I"⟩) ∈ wA := wA_mem (List.mem_append_left _ (List.mem_of_getElem? (i := 61) rfl)) rfl
theorem q_62 : (Cond.code ⟨"CapUnit", "exponentOf", "(I)I"⟩ prog_1_method_31_code 2 (some .int)) ∈ wA := wA_mem (List.mem_append_left _ (List.mem_of_getElem? (i := 62) rfl)) rfl
theorem q_63 : (Cond.methodLink "CapUnit" 56 ⟨"CapUnit", "unsigned", "(I)J"⟩) ∈ wA := wA_mem (List.mem_append_left _ (List.mem_of_getElem? (i := 63) rfl)) rfl
theorem q_64 : (Cond.static ⟨"CapUnit", "unsigned", "(I)J"⟩) ∈ wA := wA_mem (List.mem_append_left _ (List.mem_of_getElem? (i := 64) rfl)) rfl
theorem q_65 : (Cond.code ⟨"CapUnit", "unsigned", "(I)J"⟩ prog_1_method_34_code 1 (some .long)) ∈ wA := wA_mem (List.mem_append_left _ (List.mem_of_getElem? (i := 65) rfl)) rfl
theorem q_66 : (Cond.constantLong "CapUnit" 147 (4294967295 : Int64)) ∈ wA := wA_mem (List.mem_append_left _ (List.mem_of_getElem? (i := 66) rfl)) rfl
theorem q_67 : (Cond.methodLink "CapUnit" 160 ⟨"CapUnit", "below", "(II)I"⟩) ∈ wA := wA_mem (List.mem_append_left _ (List.mem_of_getElem? (i := 67) rfl)) rfl
theorem q_68 : (Cond.static ⟨"CapUnit", "below", "(II)I"⟩) ∈ wA := wA_mem (List.mem_append_left _ (List.mem_of_getElem? (i := 68) rfl)) rfl
theorem q_69 : (Cond.code ⟨"CapUnit", "below", "(II)I"⟩ prog_1_method_39_code 2 (some .int)) ∈ wA := wA_mem (List.mem_append_left _ (List.mem_of_getElem? (i := 69) rfl)) rfl
theorem q_70 : (Cond.constantLong "CapUnit" 156 (8589934591 : Int64)) ∈ wA := wA_mem (List.mem_append_left _ (List.mem_of_getElem? (i := 70) rfl)) rfl
theorem q_71 : (Cond.constantLong "CapUnit" 158 (3 : Int64)) ∈ wA := wA_mem (List.mem_append_left _ (List.mem_of_getElem? (i := 71) rfl)) rfl
theorem q_72 : (Cond.constantLong "CapUnit" 81 (4294967296 : Int64)) ∈ wA := wA_mem (List.mem_append_left _ (List.mem_of_getElem? (i := 72) rfl)) rfl
theorem q_73 : (Cond.methodLink "CapUnit" 97 ⟨"CapUnit", "baseOf", "(II)J"⟩) ∈ wA := wA_mem (List.mem_append_left _ (List.mem_of_getElem? (i := 73) rfl)) rfl
theorem q_74 : (Cond.static ⟨"CapUnit", "baseOf", "(II)J"⟩) ∈ wA := wA_mem (List.mem_append_left _ (List.mem_of_getElem? (i := 74) rfl)) rfl
theorem q_75 : (Cond.code ⟨"CapUnit", "baseOf", "(II)J"⟩ prog_1_method_36_code 2 (some .long)) ∈ wA := wA_mem (List.mem_append_left _ (List.mem_of_getElem? (i := 75) rfl)) rfl
theorem q_76 : (Cond.methodLink "CapUnitLaw" 131 ⟨"CapUnit", "grown", "()I"⟩) ∈ wA := wA_mem (List.mem_append_left _ (List.mem_of_getElem? (i := 76) rfl)) rfl
theorem q_77 : (Cond.instanceMethod ⟨"CapUnit", "grown", "()I"⟩) ∈ wA := wA_mem (List.mem_append_left _ (List.mem_of_getElem? (i := 77) rfl)) rfl
theorem q_78 : (Cond.selects "CapUnit" ⟨"CapUnit", "grown", "()I"⟩ ⟨"CapUnit", "grown", "()I"⟩) ∈ wA := wA_mem (List.mem_append_left _ (List.mem_of_getElem? (i := 78) rfl)) rfl
theorem q_79 : (Cond.code ⟨"CapUnit", "grown", "()I"⟩ prog_1_method_17_code 3 (some .int)) ∈ wA := wA_mem (List.mem_append_left _ (List.mem_of_getElem? (i := 79) rfl)) rfl
theorem q_80 : (Cond.methodLink "CapUnit" 140 ⟨"CapUnit", "isFromRoot", "(I)Z"⟩) ∈ wA := wA_mem (List.mem_append_left _ (List.mem_of_getElem? (i := 80) rfl)) rfl
theorem q_82 : (Cond.instanceMethod ⟨"CapUnit", "isFromRoot", "(I)Z"⟩) ∈ wA := wA_mem (List.mem_append_left _ (List.mem_of_getElem? (i := 82) rfl)) rfl
theorem q_83 : (Cond.code ⟨"CapUnit", "isFromRoot", "(I)Z"⟩ prog_1_method_27_code 3 (some .boolean)) ∈ wA := wA_mem (List.mem_append_left _ (List.mem_of_getElem? (i := 83) rfl)) rfl
theorem q_84 : (Cond.methodLink "CapUnit" 125 ⟨"CapUnit", "isWithin", "(IJJI)Z"⟩) ∈ wA := wA_mem (List.mem_append_left _ (List.mem_of_getElem? (i := 84) rfl)) rfl
theorem q_86 : (Cond.instanceMethod ⟨"CapUnit", "isWithin", "(IJJI)Z"⟩) ∈ wA := wA_mem (List.mem_append_left _ (List.mem_of_getElem? (i := 86) rfl)) rfl
theorem q_87 : (Cond.code ⟨"CapUnit", "isWithin", "(IJJI)Z"⟩ prog_1_method_26_code 7 (some .boolean)) ∈ wA := wA_mem (List.mem_append_left _ (List.mem_of_getElem? (i := 87) rfl)) rfl
theorem q_88 : (Cond.methodLink "CapUnit" 69 ⟨"CapUnit", "baseIn", "(I)J"⟩) ∈ wA := wA_mem (List.mem_append_left _ (List.mem_of_getElem? (i := 88) rfl)) rfl
theorem q_90 : (Cond.instanceMethod ⟨"CapUnit", "baseIn", "(I)J"⟩) ∈ wA := wA_mem (List.mem_append_left _ (List.mem_of_getElem? (i := 90) rfl)) rfl
theorem q_91 : (Cond.code ⟨"CapUnit", "baseIn", "(I)J"⟩ prog_1_method_20_code 2 (some .long)) ∈ wA := wA_mem (List.mem_append_left _ (List.mem_of_getElem? (i := 91) rfl)) rfl
theorem q_92 : (Cond.methodLink "CapUnit" 72 ⟨"CapUnit", "topIn", "(I)J"⟩) ∈ wA := wA_mem (List.mem_append_left _ (List.mem_of_getElem? (i := 92) rfl)) rfl
theorem q_94 : (Cond.instanceMethod ⟨"CapUnit", "topIn", "(I)J"⟩) ∈ wA := wA_mem (List.mem_append_left _ (List.mem_of_getElem? (i := 94) rfl)) rfl
theorem q_95 : (Cond.code ⟨"CapUnit", "topIn", "(I)J"⟩ prog_1_method_21_code 2 (some .long)) ∈ wA := wA_mem (List.mem_append_left _ (List.mem_of_getElem? (i := 95) rfl)) rfl
theorem q_96 : (Cond.methodLink "CapUnit" 122 ⟨"CapUnit", "permsOf", "(I)I"⟩) ∈ wA := wA_mem (List.mem_append_left _ (List.mem_of_getElem? (i := 96) rfl)) rfl
theorem q_97 : (Cond.static ⟨"CapUnit", "permsOf", "(I)I"⟩) ∈ wA := wA_mem (List.mem_append_left _ (List.mem_of_getElem? (i := 97) rfl)) rfl
theorem q_98 : (Cond.code ⟨"CapUnit", "permsOf", "(I)I"⟩ prog_1_method_28_code 1 (some .int)) ∈ wA := wA_mem (List.mem_append_left _ (List.mem_of_getElem? (i := 98) rfl)) rfl
theorem q_99 : (Cond.methodLink "CapUnitLaw" 71 ⟨"CapUnitLaw", "root", "(LCapUnit;IIJI[J)I"⟩) ∈ wA := wA_mem (List.mem_append_left _ (List.mem_of_getElem? (i := 99) rfl)) rfl
theorem q_100 : (Cond.static ⟨"CapUnitLaw", "root", "(LCapUnit;IIJI[J)I"⟩) ∈ wA := wA_mem (List.mem_append_left _ (List.mem_of_getElem? (i := 100) rfl)) rfl
theorem q_101 : (Cond.codeWith ⟨"CapUnitLaw", "root", "(LCapUnit;IIJI[J)I"⟩ method_3_code 8 (some .int) [(0, 14, 17, 13), (0, 14, 21, 15), (0, 14, 25, 17)]) ∈ wA := wA_mem (List.mem_append_left _ (List.mem_of_getElem? (i := 101) rfl)) rfl
theorem q_102 : (Cond.classLink "CapUnitLaw" 13 "java/lang/IndexOutOfBoundsException") ∈ wA := wA_mem (List.mem_append_left _ (List.mem_of_getElem? (i := 102) rfl)) rfl
theorem q_103 : (Cond.classLink "CapUnitLaw" 15 "java/lang/IllegalArgumentException") ∈ wA := wA_mem (List.mem_append_left _ (List.mem_of_getElem? (i := 103) rfl)) rfl
theorem q_104 : (Cond.classLink "CapUnitLaw" 17 "java/lang/IllegalStateException") ∈ wA := wA_mem (List.mem_append_left _ (List.mem_of_getElem? (i := 104) rfl)) rfl
theorem q_105 : (Cond.methodLink "CapUnitLaw" 7 ⟨"CapUnit", "root", "(IIJI)I"⟩) ∈ wA := wA_mem (List.mem_append_left _ (List.mem_of_getElem? (i := 105) rfl)) rfl
theorem q_106 : (Cond.instanceMethod ⟨"CapUnit", "root", "(IIJI)I"⟩) ∈ wA := wA_mem (List.mem_append_left _ (List.mem_of_getElem? (i := 106) rfl)) rfl
theorem q_107 : (Cond.selects "CapUnit" ⟨"CapUnit", "root", "(IIJI)I"⟩ ⟨"CapUnit", "root", "(IIJI)I"⟩) ∈ wA := wA_mem (List.mem_append_left _ (List.mem_of_getElem? (i := 107) rfl)) rfl
theorem q_108 : (Cond.code ⟨"CapUnit", "root", "(IIJI)I"⟩ prog_1_method_2_code 7 (some .int)) ∈ wA := wA_mem (List.mem_append_left _ (List.mem_of_getElem? (i := 108) rfl)) rfl
theorem q_109 : (Cond.classLink "CapUnit" 35 "java/lang/IndexOutOfBoundsException") ∈ wA := wA_mem (List.mem_append_left _ (List.mem_of_getElem? (i := 109) rfl)) rfl
theorem q_110 : (Cond.instantiable "java/lang/IndexOutOfBoundsException" 6) ∈ wA := wA_mem (List.mem_append_left _ (List.mem_of_getElem? (i := 110) rfl)) rfl
theorem q_118 : (Cond.selects "java/lang/IndexOutOfBoundsException" ⟨"java/lang/Throwable", "fillInStackTrace", "(I)Ljava/lang/Throwable;"⟩ ⟨"java/lang/Throwable", "fillInStackTrace", "(I)Ljava/lang/Throwable;"⟩) ∈ wA := wA_mem (List.mem_append_left _ (List.mem_of_getElem? (i := 118) rfl)) rfl
theorem q_119 : (Cond.selects "java/lang/IndexOutOfBoundsException" ⟨"java/lang/Throwable", "fillInStackTrace", "()Ljava/lang/Throwable;"⟩ ⟨"java/lang/Throwable", "fillInStackTrace", "()Ljava/lang/Throwable;"⟩) ∈ wA := wA_mem (List.mem_append_left _ (List.mem_of_getElem? (i := 119) rfl)) rfl
theorem q_120 : (Cond.lays "java/lang/IndexOutOfBoundsException" "java/lang/Throwable" "cause" "Ljava/lang/Throwable;") ∈ wA := wA_mem (List.mem_append_left _ (List.mem_of_getElem? (i := 120) rfl)) rfl
theorem q_121 : (Cond.lays "java/lang/Throwable" "java/lang/Throwable" "cause" "Ljava/lang/Throwable;") ∈ wA := wA_mem (List.mem_append_left _ (List.mem_of_getElem? (i := 121) rfl)) rfl
theorem q_122 : (Cond.lays "java/lang/IndexOutOfBoundsException" "java/lang/Throwable" "stackTrace" "[Ljava/lang/StackTraceElement;") ∈ wA := wA_mem (List.mem_append_left _ (List.mem_of_getElem? (i := 122) rfl)) rfl
theorem q_123 : (Cond.lays "java/lang/Throwable" "java/lang/Throwable" "stackTrace" "[Ljava/lang/StackTraceElement;") ∈ wA := wA_mem (List.mem_append_left _ (List.mem_of_getElem? (i := 123) rfl)) rfl
theorem q_124 : (Cond.lays "java/lang/IndexOutOfBoundsException" "java/lang/Throwable" "suppressedExceptions" "Ljava/util/List;") ∈ wA := wA_mem (List.mem_append_left _ (List.mem_of_getElem? (i := 124) rfl)) rfl
theorem q_125 : (Cond.lays "java/lang/Throwable" "java/lang/Throwable" "suppressedExceptions" "Ljava/util/List;") ∈ wA := wA_mem (List.mem_append_left _ (List.mem_of_getElem? (i := 125) rfl)) rfl
theorem q_126 : (Cond.lays "java/lang/IndexOutOfBoundsException" "java/lang/Throwable" "detailMessage" "Ljava/lang/String;") ∈ wA := wA_mem (List.mem_append_left _ (List.mem_of_getElem? (i := 126) rfl)) rfl
theorem q_127 : (Cond.lays "java/lang/Throwable" "java/lang/Throwable" "detailMessage" "Ljava/lang/String;") ∈ wA := wA_mem (List.mem_append_left _ (List.mem_of_getElem? (i := 127) rfl)) rfl
theorem q_128 : (Cond.lays "java/lang/IndexOutOfBoundsException" "java/lang/Throwable" "backtrace" "Ljava/lang/Object;") ∈ wA := wA_mem (List.mem_append_left _ (List.mem_of_getElem? (i := 128) rfl)) rfl
theorem q_129 : (Cond.lays "java/lang/Throwable" "java/lang/Throwable" "backtrace" "Ljava/lang/Object;") ∈ wA := wA_mem (List.mem_append_left _ (List.mem_of_getElem? (i := 129) rfl)) rfl
theorem q_130 : (Cond.fieldLink "java/lang/Throwable" 198 "java/lang/Throwable" "backtrace" "Ljava/lang/Object;") ∈ wA := wA_mem (List.mem_append_left _ (List.mem_of_getElem? (i := 130) rfl)) rfl
theorem q_131 : (Cond.superclass "java/lang/Throwable" "java/lang/Object") ∈ wA := wA_mem (List.mem_append_left _ (List.mem_of_getElem? (i := 131) rfl)) rfl
theorem q_132 : (Cond.instanceMethod ⟨"java/lang/Throwable", "<init>", "()V"⟩) ∈ wA := wA_mem (List.mem_append_left _ (List.mem_of_getElem? (i := 132) rfl)) rfl
theorem q_133 : (Cond.code ⟨"java/lang/Throwable", "<init>", "()V"⟩ prog_11_method_1_code 1 none) ∈ wA := wA_mem (List.mem_append_left _ (List.mem_of_getElem? (i := 133) rfl)) rfl
theorem q_134 : (Cond.methodLink "java/lang/Throwable" 1 ⟨"java/lang/Object", "<init>", "()V"⟩) ∈ wA := wA_mem (List.mem_append_left _ (List.mem_of_getElem? (i := 134) rfl)) rfl
theorem q_135 : (Cond.fieldLink "java/lang/Throwable" 13 "java/lang/Throwable" "UNASSIGNED_STACK" "[Ljava/lang/StackTraceElement;") ∈ wA := wA_mem (List.mem_append_left _ (List.mem_of_getElem? (i := 135) rfl)) rfl
theorem q_137 : (Cond.fieldLink "java/lang/Throwable" 20 "java/lang/Throwable" "SUPPRESSED_SENTINEL" "Ljava/util/List;") ∈ wA := wA_mem (List.mem_append_left _ (List.mem_of_getElem? (i := 137) rfl)) rfl
theorem q_139 : (Cond.methodLink "java/lang/Throwable" 27 ⟨"java/lang/Throwable", "fillInStackTrace", "()Ljava/lang/Throwable;"⟩) ∈ wA := wA_mem (List.mem_append_left _ (List.mem_of_getElem? (i := 139) rfl)) rfl
theorem q_140 : (Cond.instanceMethod ⟨"java/lang/Throwable", "fillInStackTrace", "()Ljava/lang/Throwable;"⟩) ∈ wA := wA_mem (List.mem_append_left _ (List.mem_of_getElem? (i := 140) rfl)) rfl
theorem q_141 : (Cond.sameMethod "java/lang/Throwable" "java/lang/Throwable" "fillInStackTrace" "()Ljava/lang/Throwable;") ∈ wA := wA_mem (List.mem_append_left _ (List.mem_of_getElem? (i := 141) rfl)) rfl
theorem q_142 : (Cond.selects "java/lang/IllegalArgumentException" ⟨"java/lang/Throwable", "fillInStackTrace", "()Ljava/lang/Throwable;"⟩ ⟨"java/lang/Throwable", "fillInStackTrace", "()Ljava/lang/Throwable;"⟩) ∈ wA := wA_mem (List.mem_append_left _ (List.mem_of_getElem? (i := 142) rfl)) rfl
theorem q_143 : (Cond.selects "java/lang/IllegalStateException" ⟨"java/lang/Throwable", "fillInStackTrace", "()Ljava/lang/Throwable;"⟩ ⟨"java/lang/Throwable", "fillInStackTrace", "()Ljava/lang/Throwable;"⟩) ∈ wA := wA_mem (List.mem_append_left _ (List.mem_of_getElem? (i := 143) rfl)) rfl
theorem q_144 : (Cond.codeSync ⟨"java/lang/Throwable", "fillInStackTrace", "()Ljava/lang/Throwable;"⟩ prog_11_method_18_code 1 (some (.object "java/lang/Throwable"))) ∈ wA := wA_mem (List.mem_append_left _ (List.mem_of_getElem? (i := 144) rfl)) rfl
theorem q_145 : (Cond.methodLink "java/lang/Throwable" 202 ⟨"java/lang/Throwable", "fillInStackTrace", "(I)Ljava/lang/Throwable;"⟩) ∈ wA := wA_mem (List.mem_append_left _ (List.mem_of_getElem? (i := 145) rfl)) rfl
theorem q_147 : (Cond.instanceMethod ⟨"java/lang/Throwable", "fillInStackTrace", "(I)Ljava/lang/Throwable;"⟩) ∈ wA := wA_mem (List.mem_append_left _ (List.mem_of_getElem? (i := 147) rfl)) rfl
theorem q_148 : (Cond.instantiable "java/lang/Throwable" 6) ∈ wA := wA_mem (List.mem_append_left _ (List.mem_of_getElem? (i := 148) rfl)) rfl
theorem q_151 : (Cond.methodLink "CapUnit" 39 ⟨"java/lang/IndexOutOfBoundsException", "<init>", "(Ljava/lang/String;)V"⟩) ∈ wA := wA_mem (List.mem_append_left _ (List.mem_of_getElem? (i := 151) rfl)) rfl
theorem q_152 : (Cond.instanceMethod ⟨"java/lang/IndexOutOfBoundsException", "<init>", "(Ljava/lang/String;)V"⟩) ∈ wA := wA_mem (List.mem_append_left _ (List.mem_of_getElem? (i := 152) rfl)) rfl
theorem q_153 : (Cond.code ⟨"java/lang/IndexOutOfBoundsException", "<init>", "(Ljava/lang/String;)V"⟩ prog_7_method_2_code 2 none) ∈ wA := wA_mem (List.mem_append_left _ (List.mem_of_getElem? (i := 153) rfl)) rfl
theorem q_154 : (Cond.methodLink "java/lang/IndexOutOfBoundsException" 7 ⟨"java/lang/RuntimeException", "<init>", "(Ljava/lang/String;)V"⟩) ∈ wA := wA_mem (List.mem_append_left _ (List.mem_of_getElem? (i := 154) rfl)) rfl
theorem q_155 : (Cond.instanceMethod ⟨"java/lang/RuntimeException", "<init>", "(Ljava/lang/String;)V"⟩) ∈ wA := wA_mem (List.mem_append_left _ (List.mem_of_getElem? (i := 155) rfl)) rfl
theorem q_156 : (Cond.code ⟨"java/lang/RuntimeException", "<init>", "(Ljava/lang/String;)V"⟩ prog_9_method_2_code 2 none) ∈ wA := wA_mem (List.mem_append_left _ (List.mem_of_getElem? (i := 156) rfl)) rfl
theorem q_157 : (Cond.methodLink "java/lang/RuntimeException" 7 ⟨"java/lang/Exception", "<init>", "(Ljava/lang/String;)V"⟩) ∈ wA := wA_mem (List.mem_append_left _ (List.mem_of_getElem? (i := 157) rfl)) rfl
theorem q_158 : (Cond.instanceMethod ⟨"java/lang/Exception", "<init>", "(Ljava/lang/String;)V"⟩) ∈ wA := wA_mem (List.mem_append_left _ (List.mem_of_getElem? (i := 158) rfl)) rfl
theorem q_159 : (Cond.code ⟨"java/lang/Exception", "<init>", "(Ljava/lang/String;)V"⟩ prog_4_method_2_code 2 none) ∈ wA := wA_mem (List.mem_append_left _ (List.mem_of_getElem? (i := 159) rfl)) rfl
theorem q_160 : (Cond.methodLink "java/lang/Exception" 7 ⟨"java/lang/Throwable", "<init>", "(Ljava/lang/String;)V"⟩) ∈ wA := wA_mem (List.mem_append_left _ (List.mem_of_getElem? (i := 160) rfl)) rfl
theorem q_161 : (Cond.instanceMethod ⟨"java/lang/Throwable", "<init>", "(Ljava/lang/String;)V"⟩) ∈ wA := wA_mem (List.mem_append_left _ (List.mem_of_getElem? (i := 161) rfl)) rfl
theorem q_162 : (Cond.code ⟨"java/lang/Throwable", "<init>", "(Ljava/lang/String;)V"⟩ prog_11_method_2_code 2 none) ∈ wA := wA_mem (List.mem_append_left _ (List.mem_of_getElem? (i := 162) rfl)) rfl
theorem q_163 : (Cond.fieldLink "java/lang/Throwable" 198 "java/lang/Throwable" "backtrace" "Ljava/lang/Object;") ∈ wA := wA_mem (List.mem_append_left _ (List.mem_of_getElem? (i := 163) rfl)) rfl
theorem q_164 : (Cond.fieldLink "java/lang/Throwable" 31 "java/lang/Throwable" "detailMessage" "Ljava/lang/String;") ∈ wA := wA_mem (List.mem_append_left _ (List.mem_of_getElem? (i := 164) rfl)) rfl
theorem q_165 : (Cond.fieldLink "java/lang/Throwable" 7 "java/lang/Throwable" "cause" "Ljava/lang/Throwable;") ∈ wA := wA_mem (List.mem_append_left _ (List.mem_of_getElem? (i := 165) rfl)) rfl
theorem q_166 : (Cond.fieldLink "java/lang/Throwable" 17 "java/lang/Throwable" "stackTrace" "[Ljava/lang/StackTraceElement;") ∈ wA := wA_mem (List.mem_append_left _ (List.mem_of_getElem? (i := 166) rfl)) rfl
theorem q_167 : (Cond.fieldLink "java/lang/Throwable" 24 "java/lang/Throwable" "suppressedExceptions" "Ljava/util/List;") ∈ wA := wA_mem (List.mem_append_left _ (List.mem_of_getElem? (i := 167) rfl)) rfl
theorem q_168 : (Cond.soleField "java/lang/Throwable" "backtrace") ∈ wA := wA_mem (List.mem_append_left _ (List.mem_of_getElem? (i := 168) rfl)) rfl
theorem q_169 : (Cond.soleField "java/lang/Throwable" "detailMessage") ∈ wA := wA_mem (List.mem_append_left _ (List.mem_of_getElem? (i := 169) rfl)) rfl
theorem q_170 : (Cond.soleField "java/lang/Throwable" "cause") ∈ wA := wA_mem (List.mem_append_left _ (List.mem_of_getElem? (i := 170) rfl)) rfl
theorem q_171 : (Cond.soleField "java/lang/Throwable" "stackTrace") ∈ wA := wA_mem (List.mem_append_left _ (List.mem_of_getElem? (i := 171) rfl)) rfl
theorem q_172 : (Cond.lays "java/lang/IndexOutOfBoundsException" "java/lang/Throwable" "depth" "I") ∈ wA := wA_mem (List.mem_append_left _ (List.mem_of_getElem? (i := 172) rfl)) rfl
theorem q_173 : (Cond.soleField "java/lang/Throwable" "depth") ∈ wA := wA_mem (List.mem_append_left _ (List.mem_of_getElem? (i := 173) rfl)) rfl
theorem q_174 : (Cond.soleField "java/lang/Throwable" "suppressedExceptions") ∈ wA := wA_mem (List.mem_append_left _ (List.mem_of_getElem? (i := 174) rfl)) rfl
theorem q_175 : (Cond.superclass "java/lang/IndexOutOfBoundsException" "java/lang/RuntimeException") ∈ wA := wA_mem (List.mem_append_left _ (List.mem_of_getElem? (i := 175) rfl)) rfl
theorem q_176 : (Cond.arrayClass .byte) ∈ wA := wA_mem (List.mem_append_left _ (List.mem_of_getElem? (i := 176) rfl)) rfl
theorem q_177 : (Cond.methodLink "CapUnit" 42 ⟨"CapUnit", "fitsSpace", "(IJ)Z"⟩) ∈ wA := wA_mem (List.mem_append_left _ (List.mem_of_getElem? (i := 177) rfl)) rfl
theorem q_178 : (Cond.static ⟨"CapUnit", "fitsSpace", "(IJ)Z"⟩) ∈ wA := wA_mem (List.mem_append_left _ (List.mem_of_getElem? (i := 178) rfl)) rfl
theorem q_179 : (Cond.code ⟨"CapUnit", "fitsSpace", "(IJ)Z"⟩ prog_1_method_35_code 3 (some .boolean)) ∈ wA := wA_mem (List.mem_append_left _ (List.mem_of_getElem? (i := 179) rfl)) rfl
theorem q_180 : (Cond.classLink "CapUnit" 46 "java/lang/IllegalArgumentException") ∈ wA := wA_mem (List.mem_append_left _ (List.mem_of_getElem? (i := 180) rfl)) rfl
theorem q_181 : (Cond.instantiable "java/lang/IllegalArgumentException" 6) ∈ wA := wA_mem (List.mem_append_left _ (List.mem_of_getElem? (i := 181) rfl)) rfl
theorem q_183 : (Cond.selects "java/lang/IllegalArgumentException" ⟨"java/lang/Throwable", "fillInStackTrace", "(I)Ljava/lang/Throwable;"⟩ ⟨"java/lang/Throwable", "fillInStackTrace", "(I)Ljava/lang/Throwable;"⟩) ∈ wA := wA_mem (List.mem_append_left _ (List.mem_of_getElem? (i := 183) rfl)) rfl
theorem q_184 : (Cond.lays "java/lang/IllegalArgumentException" "java/lang/Throwable" "cause" "Ljava/lang/Throwable;") ∈ wA := wA_mem (List.mem_append_left _ (List.mem_of_getElem? (i := 184) rfl)) rfl
theorem q_185 : (Cond.lays "java/lang/IllegalArgumentException" "java/lang/Throwable" "stackTrace" "[Ljava/lang/StackTraceElement;") ∈ wA := wA_mem (List.mem_append_left _ (List.mem_of_getElem? (i := 185) rfl)) rfl
theorem q_186 : (Cond.lays "java/lang/IllegalArgumentException" "java/lang/Throwable" "suppressedExceptions" "Ljava/util/List;") ∈ wA := wA_mem (List.mem_append_left _ (List.mem_of_getElem? (i := 186) rfl)) rfl
theorem q_187 : (Cond.lays "java/lang/IllegalArgumentException" "java/lang/Throwable" "detailMessage" "Ljava/lang/String;") ∈ wA := wA_mem (List.mem_append_left _ (List.mem_of_getElem? (i := 187) rfl)) rfl
theorem q_188 : (Cond.lays "java/lang/IllegalArgumentException" "java/lang/Throwable" "backtrace" "Ljava/lang/Object;") ∈ wA := wA_mem (List.mem_append_left _ (List.mem_of_getElem? (i := 188) rfl)) rfl
theorem q_190 : (Cond.methodLink "CapUnit" 50 ⟨"java/lang/IllegalArgumentException", "<init>", "(Ljava/lang/String;)V"⟩) ∈ wA := wA_mem (List.mem_append_left _ (List.mem_of_getElem? (i := 190) rfl)) rfl
theorem q_191 : (Cond.instanceMethod ⟨"java/lang/IllegalArgumentException", "<init>", "(Ljava/lang/String;)V"⟩) ∈ wA := wA_mem (List.mem_append_left _ (List.mem_of_getElem? (i := 191) rfl)) rfl
theorem q_192 : (Cond.code ⟨"java/lang/IllegalArgumentException", "<init>", "(Ljava/lang/String;)V"⟩ prog_5_method_2_code 2 none) ∈ wA := wA_mem (List.mem_append_left _ (List.mem_of_getElem? (i := 192) rfl)) rfl
theorem q_193 : (Cond.methodLink "java/lang/IllegalArgumentException" 7 ⟨"java/lang/RuntimeException", "<init>", "(Ljava/lang/String;)V"⟩) ∈ wA := wA_mem (List.mem_append_left _ (List.mem_of_getElem? (i := 193) rfl)) rfl
theorem q_194 : (Cond.lays "java/lang/IllegalArgumentException" "java/lang/Throwable" "depth" "I") ∈ wA := wA_mem (List.mem_append_left _ (List.mem_of_getElem? (i := 194) rfl)) rfl
theorem q_195 : (Cond.superclass "java/lang/IllegalArgumentException" "java/lang/RuntimeException") ∈ wA := wA_mem (List.mem_append_left _ (List.mem_of_getElem? (i := 195) rfl)) rfl
theorem q_196 : (Cond.classLink "CapUnit" 51 "java/lang/IllegalStateException") ∈ wA := wA_mem (List.mem_append_left _ (List.mem_of_getElem? (i := 196) rfl)) rfl
theorem q_197 : (Cond.instantiable "java/lang/IllegalStateException" 6) ∈ wA := wA_mem (List.mem_append_left _ (List.mem_of_getElem? (i := 197) rfl)) rfl
theorem q_199 : (Cond.selects "java/lang/IllegalStateException" ⟨"java/lang/Throwable", "fillInStackTrace", "(I)Ljava/lang/Throwable;"⟩ ⟨"java/lang/Throwable", "fillInStackTrace", "(I)Ljava/lang/Throwable;"⟩) ∈ wA := wA_mem (List.mem_append_left _ (List.mem_of_getElem? (i := 199) rfl)) rfl
theorem q_200 : (Cond.lays "java/lang/IllegalStateException" "java/lang/Throwable" "cause" "Ljava/lang/Throwable;") ∈ wA := wA_mem (List.mem_append_left _ (List.mem_of_getElem? (i := 200) rfl)) rfl
theorem q_201 : (Cond.lays "java/lang/IllegalStateException" "java/lang/Throwable" "stackTrace" "[Ljava/lang/StackTraceElement;") ∈ wA := wA_mem (List.mem_append_left _ (List.mem_of_getElem? (i := 201) rfl)) rfl
theorem q_202 : (Cond.lays "java/lang/IllegalStateException" "java/lang/Throwable" "suppressedExceptions" "Ljava/util/List;") ∈ wA := wA_mem (List.mem_append_left _ (List.mem_of_getElem? (i := 202) rfl)) rfl
theorem q_203 : (Cond.lays "java/lang/IllegalStateException" "java/lang/Throwable" "detailMessage" "Ljava/lang/String;") ∈ wA := wA_mem (List.mem_append_left _ (List.mem_of_getElem? (i := 203) rfl)) rfl
theorem q_204 : (Cond.lays "java/lang/IllegalStateException" "java/lang/Throwable" "backtrace" "Ljava/lang/Object;") ∈ wA := wA_mem (List.mem_append_left _ (List.mem_of_getElem? (i := 204) rfl)) rfl
theorem q_206 : (Cond.methodLink "CapUnit" 55 ⟨"java/lang/IllegalStateException", "<init>", "(Ljava/lang/String;)V"⟩) ∈ wA := wA_mem (List.mem_append_left _ (List.mem_of_getElem? (i := 206) rfl)) rfl
theorem q_207 : (Cond.instanceMethod ⟨"java/lang/IllegalStateException", "<init>", "(Ljava/lang/String;)V"⟩) ∈ wA := wA_mem (List.mem_append_left _ (List.mem_of_getElem? (i := 207) rfl)) rfl
theorem q_208 : (Cond.code ⟨"java/lang/IllegalStateException", "<init>", "(Ljava/lang/String;)V"⟩ prog_6_method_2_code 2 none) ∈ wA := wA_mem (List.mem_append_left _ (List.mem_of_getElem? (i := 208) rfl)) rfl
theorem q_209 : (Cond.methodLink "java/lang/IllegalStateException" 7 ⟨"java/lang/RuntimeException", "<init>", "(Ljava/lang/String;)V"⟩) ∈ wA := wA_mem (List.mem_append_left _ (List.mem_of_getElem? (i := 209) rfl)) rfl
theorem q_210 : (Cond.lays "java/lang/IllegalStateException" "java/lang/Throwable" "depth" "I") ∈ wA := wA_mem (List.mem_append_left _ (List.mem_of_getElem? (i := 210) rfl)) rfl
theorem q_211 : (Cond.superclass "java/lang/IllegalStateException" "java/lang/RuntimeException") ∈ wA := wA_mem (List.mem_append_left _ (List.mem_of_getElem? (i := 211) rfl)) rfl
theorem q_212 : (Cond.methodLink "CapUnit" 60 ⟨"CapUnit", "packed", "(JJ)I"⟩) ∈ wA := wA_mem (List.mem_append_left _ (List.mem_of_getElem? (i := 212) rfl)) rfl
theorem q_213 : (Cond.static ⟨"CapUnit", "packed", "(JJ)I"⟩) ∈ wA := wA_mem (List.mem_append_left _ (List.mem_of_getElem? (i := 213) rfl)) rfl
theorem q_214 : (Cond.code ⟨"CapUnit", "packed", "(JJ)I"⟩ prog_1_method_40_code 12 (some .int)) ∈ wA := wA_mem (List.mem_append_left _ (List.mem_of_getElem? (i := 214) rfl)) rfl
theorem q_215 : (Cond.constantLong "CapUnit" 163 (63 : Int64)) ∈ wA := wA_mem (List.mem_append_left _ (List.mem_of_getElem? (i := 215) rfl)) rfl
theorem q_216 : (Cond.constant "CapUnit" 96 (32768 : Int32)) ∈ wA := wA_mem (List.mem_append_left _ (List.mem_of_getElem? (i := 216) rfl)) rfl
theorem q_217 : (Cond.constantLong "CapUnit" 165 (255 : Int64)) ∈ wA := wA_mem (List.mem_append_left _ (List.mem_of_getElem? (i := 217) rfl)) rfl
theorem q_218 : (Cond.methodLink "CapUnit" 167 ⟨"CapUnit", "fittingExponent", "(JJ)I"⟩) ∈ wA := wA_mem (List.mem_append_left _ (List.mem_of_getElem? (i := 218) rfl)) rfl
theorem q_219 : (Cond.static ⟨"CapUnit", "fittingExponent", "(JJ)I"⟩) ∈ wA := wA_mem (List.mem_append_left _ (List.mem_of_getElem? (i := 219) rfl)) rfl
theorem q_220 : (Cond.code ⟨"CapUnit", "fittingExponent", "(JJ)I"⟩ prog_1_method_41_code 7 (some .int)) ∈ wA := wA_mem (List.mem_append_left _ (List.mem_of_getElem? (i := 220) rfl)) rfl
theorem q_221 : (Cond.methodLink "CapUnit" 177 ⟨"CapUnit", "bitsOf", "(J)I"⟩) ∈ wA := wA_mem (List.mem_append_left _ (List.mem_of_getElem? (i := 221) rfl)) rfl
theorem q_222 : (Cond.static ⟨"CapUnit", "bitsOf", "(J)I"⟩) ∈ wA := wA_mem (List.mem_append_left _ (List.mem_of_getElem? (i := 222) rfl)) rfl
theorem q_223 : (Cond.code ⟨"CapUnit", "bitsOf", "(J)I"⟩ prog_1_method_42_code 3 (some .int)) ∈ wA := wA_mem (List.mem_append_left _ (List.mem_of_getElem? (i := 223) rfl)) rfl
theorem q_224 : (Cond.methodLink "CapUnit" 174 ⟨"CapUnit", "roundedUp", "(JI)J"⟩) ∈ wA := wA_mem (List.mem_append_left _ (List.mem_of_getElem? (i := 224) rfl)) rfl
theorem q_225 : (Cond.static ⟨"CapUnit", "roundedUp", "(JI)J"⟩) ∈ wA := wA_mem (List.mem_append_left _ (List.mem_of_getElem? (i := 225) rfl)) rfl
theorem q_226 : (Cond.code ⟨"CapUnit", "roundedUp", "(JI)J"⟩ prog_1_method_44_code 3 (some .long)) ∈ wA := wA_mem (List.mem_append_left _ (List.mem_of_getElem? (i := 226) rfl)) rfl
theorem q_227 : (Cond.methodLink "CapUnit" 170 ⟨"CapUnit", "roundedDown", "(JI)J"⟩) ∈ wA := wA_mem (List.mem_append_left _ (List.mem_of_getElem? (i := 227) rfl)) rfl
theorem q_228 : (Cond.static ⟨"CapUnit", "roundedDown", "(JI)J"⟩) ∈ wA := wA_mem (List.mem_append_left _ (List.mem_of_getElem? (i := 228) rfl)) rfl
theorem q_229 : (Cond.code ⟨"CapUnit", "roundedDown", "(JI)J"⟩ prog_1_method_43_code 3 (some .long)) ∈ wA := wA_mem (List.mem_append_left _ (List.mem_of_getElem? (i := 229) rfl)) rfl
theorem q_230 : (Cond.constantLong "CapUnit" 181 (16 : Int64)) ∈ wA := wA_mem (List.mem_append_left _ (List.mem_of_getElem? (i := 230) rfl)) rfl
theorem q_231 : (Cond.constant "CapUnit" 64 (983040 : Int32)) ∈ wA := wA_mem (List.mem_append_left _ (List.mem_of_getElem? (i := 231) rfl)) rfl
theorem q_232 : (Cond.methodLink "CapUnit" 65 ⟨"CapUnit", "become", "(IZII)Z"⟩) ∈ wA := wA_mem (List.mem_append_left _ (List.mem_of_getElem? (i := 232) rfl)) rfl
theorem q_234 : (Cond.instanceMethod ⟨"CapUnit", "become", "(IZII)Z"⟩) ∈ wA := wA_mem (List.mem_append_left _ (List.mem_of_getElem? (i := 234) rfl)) rfl
theorem q_235 : (Cond.code ⟨"CapUnit", "become", "(IZII)Z"⟩ prog_1_method_19_code 5 (some .boolean)) ∈ wA := wA_mem (List.mem_append_left _ (List.mem_of_getElem? (i := 235) rfl)) rfl
theorem q_236 : (Cond.methodLink "CapUnitLaw" 81 ⟨"CapUnitLaw", "put", "(LCapUnit;III)I"⟩) ∈ wA := wA_mem (List.mem_append_left _ (List.mem_of_getElem? (i := 236) rfl)) rfl
theorem q_237 : (Cond.static ⟨"CapUnitLaw", "put", "(LCapUnit;III)I"⟩) ∈ wA := wA_mem (List.mem_append_left _ (List.mem_of_getElem? (i := 237) rfl)) rfl
theorem q_238 : (Cond.codeWith ⟨"CapUnitLaw", "put", "(LCapUnit;III)I"⟩ method_4_code 5 (some .int) [(0, 7, 10, 13)]) ∈ wA := wA_mem (List.mem_append_left _ (List.mem_of_getElem? (i := 238) rfl)) rfl
theorem q_239 : (Cond.methodLink "CapUnitLaw" 19 ⟨"CapUnit", "put", "(III)V"⟩) ∈ wA := wA_mem (List.mem_append_left _ (List.mem_of_getElem? (i := 239) rfl)) rfl
theorem q_240 : (Cond.instanceMethod ⟨"CapUnit", "put", "(III)V"⟩) ∈ wA := wA_mem (List.mem_append_right _ (List.mem_append_left _ (List.mem_of_getElem? (i := 0) rfl))) rfl
theorem q_241 : (Cond.selects "CapUnit" ⟨"CapUnit", "put", "(III)V"⟩ ⟨"CapUnit", "put", "(III)V"⟩) ∈ wA := wA_mem (List.mem_append_right _ (List.mem_append_left _ (List.mem_of_getElem? (i := 1) rfl))) rfl
theorem q_242 : (Cond.code ⟨"CapUnit", "put", "(III)V"⟩ prog_1_method_3_code 4 none) ∈ wA := wA_mem (List.mem_append_right _ (List.mem_append_left _ (List.mem_of_getElem? (i := 2) rfl))) rfl
theorem q_243 : (Cond.methodLink "CapUnit" 75 ⟨"CapUnit", "isRegister", "(I)Z"⟩) ∈ wA := wA_mem (List.mem_append_right _ (List.mem_append_left _ (List.mem_of_getElem? (i := 3) rfl))) rfl
theorem q_244 : (Cond.static ⟨"CapUnit", "isRegister", "(I)Z"⟩) ∈ wA := wA_mem (List.mem_append_right _ (List.mem_append_left _ (List.mem_of_getElem? (i := 4) rfl))) rfl
theorem q_245 : (Cond.code ⟨"CapUnit", "isRegister", "(I)Z"⟩ prog_1_method_18_code 1 (some .boolean)) ∈ wA := wA_mem (List.mem_append_right _ (List.mem_append_left _ (List.mem_of_getElem? (i := 5) rfl))) rfl
theorem q_247 : (Cond.methodLink "CapUnitLaw" 85 ⟨"CapUnitLaw", "narrow", "(LCapUnit;IIIZ[J)I"⟩) ∈ wA := wA_mem (List.mem_append_right _ (List.mem_append_left _ (List.mem_of_getElem? (i := 7) rfl))) rfl
theorem q_248 : (Cond.static ⟨"CapUnitLaw", "narrow", "(LCapUnit;IIIZ[J)I"⟩) ∈ wA := wA_mem (List.mem_append_right _ (List.mem_append_left _ (List.mem_of_getElem? (i := 8) rfl))) rfl
theorem q_249 : (Cond.codeWith ⟨"CapUnitLaw", "narrow", "(LCapUnit;IIIZ[J)I"⟩ method_5_code 7 (some .int) [(0, 21, 24, 13)]) ∈ wA := wA_mem (List.mem_append_right _ (List.mem_append_left _ (List.mem_of_getElem? (i := 9) rfl))) rfl
theorem q_250 : (Cond.methodLink "CapUnitLaw" 23 ⟨"CapUnit", "narrow", "(IIIZ)Z"⟩) ∈ wA := wA_mem (List.mem_append_right _ (List.mem_append_left _ (List.mem_of_getElem? (i := 10) rfl))) rfl
theorem q_251 : (Cond.instanceMethod ⟨"CapUnit", "narrow", "(IIIZ)Z"⟩) ∈ wA := wA_mem (List.mem_append_right _ (List.mem_append_left _ (List.mem_of_getElem? (i := 11) rfl))) rfl
theorem q_252 : (Cond.selects "CapUnit" ⟨"CapUnit", "narrow", "(IIIZ)Z"⟩ ⟨"CapUnit", "narrow", "(IIIZ)Z"⟩) ∈ wA := wA_mem (List.mem_append_right _ (List.mem_append_left _ (List.mem_of_getElem? (i := 12) rfl))) rfl
theorem q_253 : (Cond.code ⟨"CapUnit", "narrow", "(IIIZ)Z"⟩ prog_1_method_4_code 11 (some .boolean)) ∈ wA := wA_mem (List.mem_append_right _ (List.mem_append_left _ (List.mem_of_getElem? (i := 13) rfl))) rfl
theorem q_254 : (Cond.methodLink "CapUnit" 83 ⟨"java/lang/Math", "min", "(JJ)J"⟩) ∈ wA := wA_mem (List.mem_append_right _ (List.mem_append_left _ (List.mem_of_getElem? (i := 14) rfl))) rfl
theorem q_255 : (Cond.static ⟨"java/lang/Math", "min", "(JJ)J"⟩) ∈ wA := wA_mem (List.mem_append_right _ (List.mem_append_left _ (List.mem_of_getElem? (i := 15) rfl))) rfl
theorem q_256 : (Cond.code ⟨"java/lang/Math", "min", "(JJ)J"⟩ prog_8_method_70_code 4 (some .long)) ∈ wA := wA_mem (List.mem_append_right _ (List.mem_append_left _ (List.mem_of_getElem? (i := 16) rfl))) rfl
theorem q_257 : (Cond.methodLink "CapUnit" 89 ⟨"CapUnit", "isOpenWithTag", "(I)Z"⟩) ∈ wA := wA_mem (List.mem_append_right _ (List.mem_append_left _ (List.mem_of_getElem? (i := 17) rfl))) rfl
theorem q_259 : (Cond.instanceMethod ⟨"CapUnit", "isOpenWithTag", "(I)Z"⟩) ∈ wA := wA_mem (List.mem_append_right _ (List.mem_append_left _ (List.mem_of_getElem? (i := 19) rfl))) rfl
theorem q_260 : (Cond.code ⟨"CapUnit", "isOpenWithTag", "(I)Z"⟩ prog_1_method_22_code 2 (some .boolean)) ∈ wA := wA_mem (List.mem_append_right _ (List.mem_append_left _ (List.mem_of_getElem? (i := 20) rfl))) rfl
theorem q_261 : (Cond.methodLink "CapUnit" 114 ⟨"CapUnit", "typeOf", "(I)I"⟩) ∈ wA := wA_mem (List.mem_append_right _ (List.mem_append_left _ (List.mem_of_getElem? (i := 21) rfl))) rfl
theorem q_262 : (Cond.static ⟨"CapUnit", "typeOf", "(I)I"⟩) ∈ wA := wA_mem (List.mem_append_right _ (List.mem_append_left _ (List.mem_of_getElem? (i := 22) rfl))) rfl
theorem q_263 : (Cond.code ⟨"CapUnit", "typeOf", "(I)I"⟩ prog_1_method_29_code 1 (some .int)) ∈ wA := wA_mem (List.mem_append_right _ (List.mem_append_left _ (List.mem_of_getElem? (i := 23) rfl))) rfl
theorem q_264 : (Cond.methodLink "CapUnit" 92 ⟨"CapUnit", "isInBounds", "(IJJ)Z"⟩) ∈ wA := wA_mem (List.mem_append_right _ (List.mem_append_left _ (List.mem_of_getElem? (i := 24) rfl))) rfl
theorem q_266 : (Cond.instanceMethod ⟨"CapUnit", "isInBounds", "(IJJ)Z"⟩) ∈ wA := wA_mem (List.mem_append_right _ (List.mem_append_left _ (List.mem_of_getElem? (i := 26) rfl))) rfl
theorem q_267 : (Cond.code ⟨"CapUnit", "isInBounds", "(IJJ)Z"⟩ prog_1_method_24_code 6 (some .boolean)) ∈ wA := wA_mem (List.mem_append_right _ (List.mem_append_left _ (List.mem_of_getElem? (i := 27) rfl))) rfl
theorem q_268 : (Cond.methodLink "CapUnitLaw" 89 ⟨"CapUnitLaw", "move", "(LCapUnit;III[J)I"⟩) ∈ wA := wA_mem (List.mem_append_right _ (List.mem_append_left _ (List.mem_of_getElem? (i := 28) rfl))) rfl
theorem q_269 : (Cond.static ⟨"CapUnitLaw", "move", "(LCapUnit;III[J)I"⟩) ∈ wA := wA_mem (List.mem_append_right _ (List.mem_append_left _ (List.mem_of_getElem? (i := 29) rfl))) rfl
theorem q_270 : (Cond.codeWith ⟨"CapUnitLaw", "move", "(LCapUnit;III[J)I"⟩ method_6_code 6 (some .int) [(0, 19, 22, 13)]) ∈ wA := wA_mem (List.mem_append_right _ (List.mem_append_left _ (List.mem_of_getElem? (i := 30) rfl))) rfl
theorem q_271 : (Cond.methodLink "CapUnitLaw" 27 ⟨"CapUnit", "move", "(III)Z"⟩) ∈ wA := wA_mem (List.mem_append_right _ (List.mem_append_left _ (List.mem_of_getElem? (i := 31) rfl))) rfl
theorem q_272 : (Cond.instanceMethod ⟨"CapUnit", "move", "(III)Z"⟩) ∈ wA := wA_mem (List.mem_append_right _ (List.mem_append_left _ (List.mem_of_getElem? (i := 32) rfl))) rfl
theorem q_273 : (Cond.selects "CapUnit" ⟨"CapUnit", "move", "(III)Z"⟩ ⟨"CapUnit", "move", "(III)Z"⟩) ∈ wA := wA_mem (List.mem_append_right _ (List.mem_append_left _ (List.mem_of_getElem? (i := 33) rfl))) rfl
theorem q_274 : (Cond.code ⟨"CapUnit", "move", "(III)Z"⟩ prog_1_method_5_code 6 (some .boolean)) ∈ wA := wA_mem (List.mem_append_right _ (List.mem_append_left _ (List.mem_of_getElem? (i := 34) rfl))) rfl
theorem q_275 : (Cond.methodLink "CapUnitLaw" 93 ⟨"CapUnitLaw", "keep", "(LCapUnit;III[J)I"⟩) ∈ wA := wA_mem (List.mem_append_right _ (List.mem_append_left _ (List.mem_of_getElem? (i := 35) rfl))) rfl
theorem q_276 : (Cond.static ⟨"CapUnitLaw", "keep", "(LCapUnit;III[J)I"⟩) ∈ wA := wA_mem (List.mem_append_right _ (List.mem_append_left _ (List.mem_of_getElem? (i := 36) rfl))) rfl
theorem q_277 : (Cond.codeWith ⟨"CapUnitLaw", "keep", "(LCapUnit;III[J)I"⟩ method_7_code 6 (some .int) [(0, 19, 22, 13)]) ∈ wA := wA_mem (List.mem_append_right _ (List.mem_append_left _ (List.mem_of_getElem? (i := 37) rfl))) rfl
theorem q_278 : (Cond.methodLink "CapUnitLaw" 31 ⟨"CapUnit", "keep", "(III)Z"⟩) ∈ wA := wA_mem (List.mem_append_right _ (List.mem_append_left _ (List.mem_of_getElem? (i := 38) rfl))) rfl
theorem q_279 : (Cond.instanceMethod ⟨"CapUnit", "keep", "(III)Z"⟩) ∈ wA := wA_mem (List.mem_append_right _ (List.mem_append_left _ (List.mem_of_getElem? (i := 39) rfl))) rfl
theorem q_280 : (Cond.selects "CapUnit" ⟨"CapUnit", "keep", "(III)Z"⟩ ⟨"CapUnit", "keep", "(III)Z"⟩) ∈ wA := wA_mem (List.mem_append_right _ (List.mem_append_left _ (List.mem_of_getElem? (i := 40) rfl))) rfl
theorem q_281 : (Cond.code ⟨"CapUnit", "keep", "(III)Z"⟩ prog_1_method_6_code 5 (some .boolean)) ∈ wA := wA_mem (List.mem_append_right _ (List.mem_append_left _ (List.mem_of_getElem? (i := 41) rfl))) rfl
theorem q_282 : (Cond.methodLink "CapUnitLaw" 96 ⟨"CapUnitLaw", "seal", "(LCapUnit;III[J)I"⟩) ∈ wA := wA_mem (List.mem_append_right _ (List.mem_append_left _ (List.mem_of_getElem? (i := 42) rfl))) rfl
theorem q_283 : (Cond.static ⟨"CapUnitLaw", "seal", "(LCapUnit;III[J)I"⟩) ∈ wA := wA_mem (List.mem_append_right _ (List.mem_append_left _ (List.mem_of_getElem? (i := 43) rfl))) rfl
theorem q_284 : (Cond.codeWith ⟨"CapUnitLaw", "seal", "(LCapUnit;III[J)I"⟩ method_8_code 6 (some .int) [(0, 19, 22, 13)]) ∈ wA := wA_mem (List.mem_append_right _ (List.mem_append_left _ (List.mem_of_getElem? (i := 44) rfl))) rfl
theorem q_285 : (Cond.methodLink "CapUnitLaw" 34 ⟨"CapUnit", "seal", "(III)Z"⟩) ∈ wA := wA_mem (List.mem_append_right _ (List.mem_append_left _ (List.mem_of_getElem? (i := 45) rfl))) rfl
theorem q_286 : (Cond.instanceMethod ⟨"CapUnit", "seal", "(III)Z"⟩) ∈ wA := wA_mem (List.mem_append_right _ (List.mem_append_left _ (List.mem_of_getElem? (i := 46) rfl))) rfl
theorem q_287 : (Cond.selects "CapUnit" ⟨"CapUnit", "seal", "(III)Z"⟩ ⟨"CapUnit", "seal", "(III)Z"⟩) ∈ wA := wA_mem (List.mem_append_right _ (List.mem_append_left _ (List.mem_of_getElem? (i := 47) rfl))) rfl
theorem q_288 : (Cond.code ⟨"CapUnit", "seal", "(III)Z"⟩ prog_1_method_7_code 5 (some .boolean)) ∈ wA := wA_mem (List.mem_append_right _ (List.mem_append_left _ (List.mem_of_getElem? (i := 48) rfl))) rfl
theorem q_289 : (Cond.methodLink "CapUnit" 104 ⟨"CapUnit", "isKey", "(II)Z"⟩) ∈ wA := wA_mem (List.mem_append_right _ (List.mem_append_left _ (List.mem_of_getElem? (i := 49) rfl))) rfl
theorem q_291 : (Cond.instanceMethod ⟨"CapUnit", "isKey", "(II)Z"⟩) ∈ wA := wA_mem (List.mem_append_right _ (List.mem_append_left _ (List.mem_of_getElem? (i := 51) rfl))) rfl
theorem q_292 : (Cond.code ⟨"CapUnit", "isKey", "(II)Z"⟩ prog_1_method_25_code 3 (some .boolean)) ∈ wA := wA_mem (List.mem_append_right _ (List.mem_append_left _ (List.mem_of_getElem? (i := 52) rfl))) rfl
theorem q_293 : (Cond.methodLink "CapUnit" 118 ⟨"CapUnit", "hasPerm", "(II)Z"⟩) ∈ wA := wA_mem (List.mem_append_right _ (List.mem_append_left _ (List.mem_of_getElem? (i := 53) rfl))) rfl
theorem q_295 : (Cond.instanceMethod ⟨"CapUnit", "hasPerm", "(II)Z"⟩) ∈ wA := wA_mem (List.mem_append_right _ (List.mem_append_left _ (List.mem_of_getElem? (i := 55) rfl))) rfl
theorem q_296 : (Cond.code ⟨"CapUnit", "hasPerm", "(II)Z"⟩ prog_1_method_23_code 3 (some .boolean)) ∈ wA := wA_mem (List.mem_append_right _ (List.mem_append_left _ (List.mem_of_getElem? (i := 56) rfl))) rfl
theorem q_297 : (Cond.constantLong "CapUnit" 108 (12 : Int64)) ∈ wA := wA_mem (List.mem_append_right _ (List.mem_append_left _ (List.mem_of_getElem? (i := 57) rfl))) rfl
theorem q_298 : (Cond.methodLink "CapUnit" 110 ⟨"CapUnit", "withType", "(II)I"⟩) ∈ wA := wA_mem (List.mem_append_right _ (List.mem_append_left _ (List.mem_of_getElem? (i := 58) rfl))) rfl
theorem q_299 : (Cond.static ⟨"CapUnit", "withType", "(II)I"⟩) ∈ wA := wA_mem (List.mem_append_right _ (List.mem_append_left _ (List.mem_of_getElem? (i := 59) rfl))) rfl
theorem q_300 : (Cond.code ⟨"CapUnit", "withType", "(II)I"⟩ prog_1_method_30_code 2 (some .int)) ∈ wA := wA_mem (List.mem_append_right _ (List.mem_append_left _ (List.mem_of_getElem? (i := 60) rfl))) rfl
theorem q_301 : (Cond.constant "CapUnit" 143 (-983041 : Int32)) ∈ wA := wA_mem (List.mem_append_right _ (List.mem_append_left _ (List.mem_of_getElem? (i := 61) rfl))) rfl
theorem q_302 : (Cond.methodLink "CapUnitLaw" 99 ⟨"CapUnitLaw", "unseal", "(LCapUnit;III[J)I"⟩) ∈ wA := wA_mem (List.mem_append_right _ (List.mem_append_left _ (List.mem_of_getElem? (i := 62) rfl))) rfl
theorem q_303 : (Cond.static ⟨"CapUnitLaw", "unseal", "(LCapUnit;III[J)I"⟩) ∈ wA := wA_mem (List.mem_append_right _ (List.mem_append_left _ (List.mem_of_getElem? (i := 63) rfl))) rfl
theorem q_304 : (Cond.codeWith ⟨"CapUnitLaw", "unseal", "(LCapUnit;III[J)I"⟩ method_9_code 6 (some .int) [(0, 19, 22, 13)]) ∈ wA := wA_mem (List.mem_append_right _ (List.mem_append_left _ (List.mem_of_getElem? (i := 64) rfl))) rfl
theorem q_305 : (Cond.methodLink "CapUnitLaw" 37 ⟨"CapUnit", "unseal", "(III)Z"⟩) ∈ wA := wA_mem (List.mem_append_right _ (List.mem_append_left _ (List.mem_of_getElem? (i := 65) rfl))) rfl
theorem q_306 : (Cond.instanceMethod ⟨"CapUnit", "unseal", "(III)Z"⟩) ∈ wA := wA_mem (List.mem_append_right _ (List.mem_append_left _ (List.mem_of_getElem? (i := 66) rfl))) rfl
theorem q_307 : (Cond.selects "CapUnit" ⟨"CapUnit", "unseal", "(III)Z"⟩ ⟨"CapUnit", "unseal", "(III)Z"⟩) ∈ wA := wA_mem (List.mem_append_right _ (List.mem_append_left _ (List.mem_of_getElem? (i := 67) rfl))) rfl
theorem q_308 : (Cond.code ⟨"CapUnit", "unseal", "(III)Z"⟩ prog_1_method_8_code 7 (some .boolean)) ∈ wA := wA_mem (List.mem_append_right _ (List.mem_append_left _ (List.mem_of_getElem? (i := 68) rfl))) rfl
theorem q_309 : (Cond.constant "CapUnit" 121 (-1048577 : Int32)) ∈ wA := wA_mem (List.mem_append_right _ (List.mem_append_left _ (List.mem_of_getElem? (i := 69) rfl))) rfl
theorem q_310 : (Cond.methodLink "CapUnitLaw" 102 ⟨"CapUnitLaw", "gate", "(LCapUnit;II[J)I"⟩) ∈ wA := wA_mem (List.mem_append_right _ (List.mem_append_left _ (List.mem_of_getElem? (i := 70) rfl))) rfl
theorem q_311 : (Cond.static ⟨"CapUnitLaw", "gate", "(LCapUnit;II[J)I"⟩) ∈ wA := wA_mem (List.mem_append_right _ (List.mem_append_left _ (List.mem_of_getElem? (i := 71) rfl))) rfl
theorem q_312 : (Cond.codeWith ⟨"CapUnitLaw", "gate", "(LCapUnit;II[J)I"⟩ method_10_code 5 (some .int) [(0, 17, 20, 13)]) ∈ wA := wA_mem (List.mem_append_right _ (List.mem_append_left _ (List.mem_of_getElem? (i := 72) rfl))) rfl
theorem q_313 : (Cond.methodLink "CapUnitLaw" 40 ⟨"CapUnit", "gate", "(II)Z"⟩) ∈ wA := wA_mem (List.mem_append_right _ (List.mem_append_left _ (List.mem_of_getElem? (i := 73) rfl))) rfl
theorem q_314 : (Cond.instanceMethod ⟨"CapUnit", "gate", "(II)Z"⟩) ∈ wA := wA_mem (List.mem_append_right _ (List.mem_append_left _ (List.mem_of_getElem? (i := 74) rfl))) rfl
theorem q_315 : (Cond.selects "CapUnit" ⟨"CapUnit", "gate", "(II)Z"⟩ ⟨"CapUnit", "gate", "(II)Z"⟩) ∈ wA := wA_mem (List.mem_append_right _ (List.mem_append_left _ (List.mem_of_getElem? (i := 75) rfl))) rfl
theorem q_316 : (Cond.code ⟨"CapUnit", "gate", "(II)Z"⟩ prog_1_method_9_code 4 (some .boolean)) ∈ wA := wA_mem (List.mem_append_right _ (List.mem_append_left _ (List.mem_of_getElem? (i := 76) rfl))) rfl
theorem q_317 : (Cond.methodLink "CapUnitLaw" 106 ⟨"CapUnitLaw", "build", "(LCapUnit;III[J)I"⟩) ∈ wA := wA_mem (List.mem_append_right _ (List.mem_append_left _ (List.mem_of_getElem? (i := 77) rfl))) rfl
theorem q_318 : (Cond.static ⟨"CapUnitLaw", "build", "(LCapUnit;III[J)I"⟩) ∈ wA := wA_mem (List.mem_append_right _ (List.mem_append_left _ (List.mem_of_getElem? (i := 78) rfl))) rfl
theorem q_319 : (Cond.codeWith ⟨"CapUnitLaw", "build", "(LCapUnit;III[J)I"⟩ method_11_code 6 (some .int) [(0, 19, 22, 13)]) ∈ wA := wA_mem (List.mem_append_right _ (List.mem_append_left _ (List.mem_of_getElem? (i := 79) rfl))) rfl
theorem q_320 : (Cond.methodLink "CapUnitLaw" 44 ⟨"CapUnit", "build", "(III)Z"⟩) ∈ wA := wA_mem (List.mem_append_right _ (List.mem_append_left _ (List.mem_of_getElem? (i := 80) rfl))) rfl
theorem q_321 : (Cond.instanceMethod ⟨"CapUnit", "build", "(III)Z"⟩) ∈ wA := wA_mem (List.mem_append_right _ (List.mem_append_left _ (List.mem_of_getElem? (i := 81) rfl))) rfl
theorem q_322 : (Cond.selects "CapUnit" ⟨"CapUnit", "build", "(III)Z"⟩ ⟨"CapUnit", "build", "(III)Z"⟩) ∈ wA := wA_mem (List.mem_append_right _ (List.mem_append_left _ (List.mem_of_getElem? (i := 82) rfl))) rfl
theorem q_323 : (Cond.code ⟨"CapUnit", "build", "(III)Z"⟩ prog_1_method_10_code 6 (some .boolean)) ∈ wA := wA_mem (List.mem_append_right _ (List.mem_append_left _ (List.mem_of_getElem? (i := 83) rfl))) rfl
theorem q_324 : (Cond.methodLink "CapUnitLaw" 109 ⟨"CapUnitLaw", "subset", "(LCapUnit;II[J)I"⟩) ∈ wA := wA_mem (List.mem_append_right _ (List.mem_append_left _ (List.mem_of_getElem? (i := 84) rfl))) rfl
theorem q_325 : (Cond.static ⟨"CapUnitLaw", "subset", "(LCapUnit;II[J)I"⟩) ∈ wA := wA_mem (List.mem_append_right _ (List.mem_append_left _ (List.mem_of_getElem? (i := 85) rfl))) rfl
theorem q_326 : (Cond.codeWith ⟨"CapUnitLaw", "subset", "(LCapUnit;II[J)I"⟩ method_12_code 5 (some .int) [(0, 17, 20, 13)]) ∈ wA := wA_mem (List.mem_append_right _ (List.mem_append_left _ (List.mem_of_getElem? (i := 86) rfl))) rfl
theorem q_327 : (Cond.methodLink "CapUnitLaw" 47 ⟨"CapUnit", "subset", "(II)Z"⟩) ∈ wA := wA_mem (List.mem_append_right _ (List.mem_append_left _ (List.mem_of_getElem? (i := 87) rfl))) rfl
theorem q_328 : (Cond.instanceMethod ⟨"CapUnit", "subset", "(II)Z"⟩) ∈ wA := wA_mem (List.mem_append_right _ (List.mem_append_left _ (List.mem_of_getElem? (i := 88) rfl))) rfl
theorem q_329 : (Cond.selects "CapUnit" ⟨"CapUnit", "subset", "(II)Z"⟩ ⟨"CapUnit", "subset", "(II)Z"⟩) ∈ wA := wA_mem (List.mem_append_right _ (List.mem_append_left _ (List.mem_of_getElem? (i := 89) rfl))) rfl
theorem q_330 : (Cond.code ⟨"CapUnit", "subset", "(II)Z"⟩ prog_1_method_11_code 3 (some .boolean)) ∈ wA := wA_mem (List.mem_append_right _ (List.mem_append_left _ (List.mem_of_getElem? (i := 90) rfl))) rfl
theorem q_331 : (Cond.methodLink "CapUnitLaw" 112 ⟨"CapUnitLaw", "told", "(LCapUnit;II[J)I"⟩) ∈ wA := wA_mem (List.mem_append_right _ (List.mem_append_left _ (List.mem_of_getElem? (i := 91) rfl))) rfl
theorem q_332 : (Cond.static ⟨"CapUnitLaw", "told", "(LCapUnit;II[J)I"⟩) ∈ wA := wA_mem (List.mem_append_right _ (List.mem_append_left _ (List.mem_of_getElem? (i := 92) rfl))) rfl
theorem q_333 : (Cond.codeWith ⟨"CapUnitLaw", "told", "(LCapUnit;II[J)I"⟩ method_13_code 5 (some .int) [(0, 9, 12, 13), (0, 9, 16, 15)]) ∈ wA := wA_mem (List.mem_append_right _ (List.mem_append_left _ (List.mem_of_getElem? (i := 93) rfl))) rfl
theorem q_334 : (Cond.methodLink "CapUnitLaw" 50 ⟨"CapUnit", "told", "(II)J"⟩) ∈ wA := wA_mem (List.mem_append_right _ (List.mem_append_left _ (List.mem_of_getElem? (i := 94) rfl))) rfl
theorem q_335 : (Cond.instanceMethod ⟨"CapUnit", "told", "(II)J"⟩) ∈ wA := wA_mem (List.mem_append_right _ (List.mem_append_left _ (List.mem_of_getElem? (i := 95) rfl))) rfl
theorem q_336 : (Cond.selects "CapUnit" ⟨"CapUnit", "told", "(II)J"⟩ ⟨"CapUnit", "told", "(II)J"⟩) ∈ wA := wA_mem (List.mem_append_right _ (List.mem_append_left _ (List.mem_of_getElem? (i := 96) rfl))) rfl
theorem q_337 : (Cond.code ⟨"CapUnit", "told", "(II)J"⟩ prog_1_method_12_code 3 (some .long)) ∈ wA := wA_mem (List.mem_append_right _ (List.mem_append_left _ (List.mem_of_getElem? (i := 97) rfl))) rfl
theorem q_339 : (Cond.methodLink "CapUnitLaw" 115 ⟨"CapUnitLaw", "reaches", "(LCapUnit;III[J)I"⟩) ∈ wA := wA_mem (List.mem_append_right _ (List.mem_append_left _ (List.mem_of_getElem? (i := 99) rfl))) rfl
theorem q_340 : (Cond.static ⟨"CapUnitLaw", "reaches", "(LCapUnit;III[J)I"⟩) ∈ wA := wA_mem (List.mem_append_right _ (List.mem_append_left _ (List.mem_of_getElem? (i := 100) rfl))) rfl
theorem q_341 : (Cond.codeWith ⟨"CapUnitLaw", "reaches", "(LCapUnit;III[J)I"⟩ method_14_code 6 (some .int) [(0, 19, 22, 13), (0, 19, 26, 15)]) ∈ wA := wA_mem (List.mem_append_right _ (List.mem_append_left _ (List.mem_of_getElem? (i := 101) rfl))) rfl
theorem q_342 : (Cond.methodLink "CapUnitLaw" 54 ⟨"CapUnit", "reaches", "(III)Z"⟩) ∈ wA := wA_mem (List.mem_append_right _ (List.mem_append_left _ (List.mem_of_getElem? (i := 102) rfl))) rfl
theorem q_343 : (Cond.instanceMethod ⟨"CapUnit", "reaches", "(III)Z"⟩) ∈ wA := wA_mem (List.mem_append_right _ (List.mem_append_left _ (List.mem_of_getElem? (i := 103) rfl))) rfl
theorem q_344 : (Cond.selects "CapUnit" ⟨"CapUnit", "reaches", "(III)Z"⟩ ⟨"CapUnit", "reaches", "(III)Z"⟩) ∈ wA := wA_mem (List.mem_append_right _ (List.mem_append_left _ (List.mem_of_getElem? (i := 104) rfl))) rfl
theorem q_345 : (Cond.code ⟨"CapUnit", "reaches", "(III)Z"⟩ prog_1_method_13_code 4 (some .boolean)) ∈ wA := wA_mem (List.mem_append_right _ (List.mem_append_left _ (List.mem_of_getElem? (i := 105) rfl))) rfl
theorem q_347 : (Cond.methodLink "CapUnitLaw" 118 ⟨"CapUnitLaw", "pack", "(LCapUnit;IJ[J)I"⟩) ∈ wA := wA_mem (List.mem_append_right _ (List.mem_append_left _ (List.mem_of_getElem? (i := 107) rfl))) rfl
theorem q_348 : (Cond.static ⟨"CapUnitLaw", "pack", "(LCapUnit;IJ[J)I"⟩) ∈ wA := wA_mem (List.mem_append_right _ (List.mem_append_left _ (List.mem_of_getElem? (i := 108) rfl))) rfl
theorem q_349 : (Cond.codeWith ⟨"CapUnitLaw", "pack", "(LCapUnit;IJ[J)I"⟩ method_15_code 6 (some .int) [(0, 11, 14, 15)]) ∈ wA := wA_mem (List.mem_append_right _ (List.mem_append_left _ (List.mem_of_getElem? (i := 109) rfl))) rfl
theorem q_350 : (Cond.methodLink "CapUnitLaw" 57 ⟨"CapUnit", "pack", "(IJ)I"⟩) ∈ wA := wA_mem (List.mem_append_right _ (List.mem_append_left _ (List.mem_of_getElem? (i := 110) rfl))) rfl
theorem q_351 : (Cond.instanceMethod ⟨"CapUnit", "pack", "(IJ)I"⟩) ∈ wA := wA_mem (List.mem_append_right _ (List.mem_append_left _ (List.mem_of_getElem? (i := 111) rfl))) rfl
theorem q_352 : (Cond.selects "CapUnit" ⟨"CapUnit", "pack", "(IJ)I"⟩ ⟨"CapUnit", "pack", "(IJ)I"⟩) ∈ wA := wA_mem (List.mem_append_right _ (List.mem_append_left _ (List.mem_of_getElem? (i := 112) rfl))) rfl
theorem q_353 : (Cond.code ⟨"CapUnit", "pack", "(IJ)I"⟩ prog_1_method_14_code 4 (some .int)) ∈ wA := wA_mem (List.mem_append_right _ (List.mem_append_left _ (List.mem_of_getElem? (i := 113) rfl))) rfl
theorem q_355 : (Cond.methodLink "CapUnitLaw" 127 ⟨"CapUnitLaw", "rounded", "(LCapUnit;JZ[J)I"⟩) ∈ wA := wA_mem (List.mem_append_right _ (List.mem_append_left _ (List.mem_of_getElem? (i := 115) rfl))) rfl
theorem q_356 : (Cond.static ⟨"CapUnitLaw", "rounded", "(LCapUnit;JZ[J)I"⟩) ∈ wA := wA_mem (List.mem_append_right _ (List.mem_append_left _ (List.mem_of_getElem? (i := 116) rfl))) rfl
theorem q_357 : (Cond.codeWith ⟨"CapUnitLaw", "rounded", "(LCapUnit;JZ[J)I"⟩ method_16_code 6 (some .int) [(0, 10, 13, 15)]) ∈ wA := wA_mem (List.mem_append_right _ (List.mem_append_left _ (List.mem_of_getElem? (i := 117) rfl))) rfl
theorem q_358 : (Cond.methodLink "CapUnitLaw" 61 ⟨"CapUnit", "rounded", "(JZ)J"⟩) ∈ wA := wA_mem (List.mem_append_right _ (List.mem_append_left _ (List.mem_of_getElem? (i := 118) rfl))) rfl
theorem q_359 : (Cond.instanceMethod ⟨"CapUnit", "rounded", "(JZ)J"⟩) ∈ wA := wA_mem (List.mem_append_right _ (List.mem_append_left _ (List.mem_of_getElem? (i := 119) rfl))) rfl
theorem q_360 : (Cond.selects "CapUnit" ⟨"CapUnit", "rounded", "(JZ)J"⟩ ⟨"CapUnit", "rounded", "(JZ)J"⟩) ∈ wA := wA_mem (List.mem_append_right _ (List.mem_append_left _ (List.mem_of_getElem? (i := 120) rfl))) rfl
theorem q_361 : (Cond.code ⟨"CapUnit", "rounded", "(JZ)J"⟩ prog_1_method_16_code 5 (some .long)) ∈ wA := wA_mem (List.mem_append_right _ (List.mem_append_left _ (List.mem_of_getElem? (i := 121) rfl))) rfl
theorem q_363 : (Cond.classLink "CapUnitLaw" 66 "CapUnitModel") ∈ wA := wA_mem (List.mem_append_right _ (List.mem_append_left _ (List.mem_of_getElem? (i := 123) rfl))) rfl
theorem q_364 : (Cond.instantiable "CapUnitModel" 11) ∈ wA := wA_mem (List.mem_append_right _ (List.mem_append_left _ (List.mem_of_getElem? (i := 124) rfl))) rfl
theorem q_365 : (Cond.methodLink "CapUnitLaw" 68 ⟨"CapUnitModel", "<init>", "()V"⟩) ∈ wA := wA_mem (List.mem_append_right _ (List.mem_append_left _ (List.mem_of_getElem? (i := 125) rfl))) rfl
theorem q_366 : (Cond.instanceMethod ⟨"CapUnitModel", "<init>", "()V"⟩) ∈ wA := wA_mem (List.mem_append_right _ (List.mem_append_left _ (List.mem_of_getElem? (i := 126) rfl))) rfl
theorem q_367 : (Cond.code ⟨"CapUnitModel", "<init>", "()V"⟩ prog_3_method_1_code 2 none) ∈ wA := wA_mem (List.mem_append_right _ (List.mem_append_left _ (List.mem_of_getElem? (i := 127) rfl))) rfl
theorem q_368 : (Cond.methodLink "CapUnitModel" 1 ⟨"java/lang/Object", "<init>", "()V"⟩) ∈ wA := wA_mem (List.mem_append_right _ (List.mem_append_left _ (List.mem_of_getElem? (i := 128) rfl))) rfl
theorem q_369 : (Cond.constant "CapUnitModel" 30 (1000194 : Int32)) ∈ wA := wA_mem (List.mem_append_right _ (List.mem_append_left _ (List.mem_of_getElem? (i := 129) rfl))) rfl
theorem q_370 : (Cond.fieldLink "CapUnitModel" 7 "CapUnitModel" "tag" "[Z") ∈ wA := wA_mem (List.mem_append_right _ (List.mem_append_left _ (List.mem_of_getElem? (i := 130) rfl))) rfl
theorem q_371 : (Cond.fieldLink "CapUnitModel" 13 "CapUnitModel" "address" "[I") ∈ wA := wA_mem (List.mem_append_right _ (List.mem_append_left _ (List.mem_of_getElem? (i := 131) rfl))) rfl
theorem q_372 : (Cond.fieldLink "CapUnitModel" 17 "CapUnitModel" "meta" "[I") ∈ wA := wA_mem (List.mem_append_right _ (List.mem_append_left _ (List.mem_of_getElem? (i := 132) rfl))) rfl
theorem q_373 : (Cond.fieldLink "CapUnitModel" 20 "CapUnitModel" "rootBase" "[J") ∈ wA := wA_mem (List.mem_append_right _ (List.mem_append_left _ (List.mem_of_getElem? (i := 133) rfl))) rfl
theorem q_374 : (Cond.fieldLink "CapUnitModel" 24 "CapUnitModel" "rootTop" "[J") ∈ wA := wA_mem (List.mem_append_right _ (List.mem_append_left _ (List.mem_of_getElem? (i := 134) rfl))) rfl
theorem q_375 : (Cond.fieldLink "CapUnitModel" 27 "CapUnitModel" "rootPerms" "[I") ∈ wA := wA_mem (List.mem_append_right _ (List.mem_append_left _ (List.mem_of_getElem? (i := 135) rfl))) rfl
theorem q_376 : (Cond.fieldLink "CapUnitModel" 103 "CapUnitModel" "roots" "I") ∈ wA := wA_mem (List.mem_append_right _ (List.mem_append_left _ (List.mem_of_getElem? (i := 136) rfl))) rfl
theorem q_377 : (Cond.fieldLink "CapUnitModel" 31 "CapUnitModel" "thrown" "I") ∈ wA := wA_mem (List.mem_append_right _ (List.mem_append_left _ (List.mem_of_getElem? (i := 137) rfl))) rfl
theorem q_378 : (Cond.fieldLink "CapUnitModel" 81 "CapUnitModel" "packed" "I") ∈ wA := wA_mem (List.mem_append_right _ (List.mem_append_left _ (List.mem_of_getElem? (i := 138) rfl))) rfl
theorem q_379 : (Cond.fieldLink "CapUnitModel" 84 "CapUnitModel" "exact" "Z") ∈ wA := wA_mem (List.mem_append_right _ (List.mem_append_left _ (List.mem_of_getElem? (i := 139) rfl))) rfl
theorem q_380 : (Cond.fieldLink "CapUnitModel" 88 "CapUnitModel" "rounded" "J") ∈ wA := wA_mem (List.mem_append_right _ (List.mem_append_left _ (List.mem_of_getElem? (i := 140) rfl))) rfl
theorem q_381 : (Cond.laysFinal "CapUnitModel" "CapUnitModel" "tag" "[Z") ∈ wA := wA_mem (List.mem_append_right _ (List.mem_append_left _ (List.mem_of_getElem? (i := 141) rfl))) rfl
theorem q_382 : (Cond.soleField "CapUnitModel" "tag") ∈ wA := wA_mem (List.mem_append_right _ (List.mem_append_left _ (List.mem_of_getElem? (i := 142) rfl))) rfl
theorem q_383 : (Cond.laysFinal "CapUnitModel" "CapUnitModel" "address" "[I") ∈ wA := wA_mem (List.mem_append_right _ (List.mem_append_left _ (List.mem_of_getElem? (i := 143) rfl))) rfl
theorem q_384 : (Cond.soleField "CapUnitModel" "address") ∈ wA := wA_mem (List.mem_append_right _ (List.mem_append_left _ (List.mem_of_getElem? (i := 144) rfl))) rfl
theorem q_385 : (Cond.laysFinal "CapUnitModel" "CapUnitModel" "meta" "[I") ∈ wA := wA_mem (List.mem_append_right _ (List.mem_append_left _ (List.mem_of_getElem? (i := 145) rfl))) rfl
theorem q_386 : (Cond.soleField "CapUnitModel" "meta") ∈ wA := wA_mem (List.mem_append_right _ (List.mem_append_left _ (List.mem_of_getElem? (i := 146) rfl))) rfl
theorem q_387 : (Cond.laysFinal "CapUnitModel" "CapUnitModel" "rootBase" "[J") ∈ wA := wA_mem (List.mem_append_right _ (List.mem_append_left _ (List.mem_of_getElem? (i := 147) rfl))) rfl
theorem q_388 : (Cond.soleField "CapUnitModel" "rootBase") ∈ wA := wA_mem (List.mem_append_right _ (List.mem_append_left _ (List.mem_of_getElem? (i := 148) rfl))) rfl
theorem q_389 : (Cond.laysFinal "CapUnitModel" "CapUnitModel" "rootTop" "[J") ∈ wA := wA_mem (List.mem_append_right _ (List.mem_append_left _ (List.mem_of_getElem? (i := 149) rfl))) rfl
theorem q_390 : (Cond.soleField "CapUnitModel" "rootTop") ∈ wA := wA_mem (List.mem_append_right _ (List.mem_append_left _ (List.mem_of_getElem? (i := 150) rfl))) rfl
theorem q_391 : (Cond.laysFinal "CapUnitModel" "CapUnitModel" "rootPerms" "[I") ∈ wA := wA_mem (List.mem_append_right _ (List.mem_append_left _ (List.mem_of_getElem? (i := 151) rfl))) rfl
theorem q_392 : (Cond.soleField "CapUnitModel" "rootPerms") ∈ wA := wA_mem (List.mem_append_right _ (List.mem_append_left _ (List.mem_of_getElem? (i := 152) rfl))) rfl
theorem q_393 : (Cond.lays "CapUnitModel" "CapUnitModel" "roots" "I") ∈ wA := wA_mem (List.mem_append_right _ (List.mem_append_left _ (List.mem_of_getElem? (i := 153) rfl))) rfl
theorem q_394 : (Cond.soleField "CapUnitModel" "roots") ∈ wA := wA_mem (List.mem_append_right _ (List.mem_append_left _ (List.mem_of_getElem? (i := 154) rfl))) rfl
theorem q_395 : (Cond.lays "CapUnitModel" "CapUnitModel" "thrown" "I") ∈ wA := wA_mem (List.mem_append_right _ (List.mem_append_left _ (List.mem_of_getElem? (i := 155) rfl))) rfl
theorem q_396 : (Cond.soleField "CapUnitModel" "thrown") ∈ wA := wA_mem (List.mem_append_right _ (List.mem_append_left _ (List.mem_of_getElem? (i := 156) rfl))) rfl
theorem q_397 : (Cond.lays "CapUnitModel" "CapUnitModel" "packed" "I") ∈ wA := wA_mem (List.mem_append_right _ (List.mem_append_left _ (List.mem_of_getElem? (i := 157) rfl))) rfl
theorem q_398 : (Cond.soleField "CapUnitModel" "packed") ∈ wA := wA_mem (List.mem_append_right _ (List.mem_append_left _ (List.mem_of_getElem? (i := 158) rfl))) rfl
theorem q_399 : (Cond.lays "CapUnitModel" "CapUnitModel" "exact" "Z") ∈ wA := wA_mem (List.mem_append_right _ (List.mem_append_left _ (List.mem_of_getElem? (i := 159) rfl))) rfl
theorem q_400 : (Cond.soleField "CapUnitModel" "exact") ∈ wA := wA_mem (List.mem_append_right _ (List.mem_append_left _ (List.mem_of_getElem? (i := 160) rfl))) rfl
theorem q_401 : (Cond.lays "CapUnitModel" "CapUnitModel" "rounded" "J") ∈ wA := wA_mem (List.mem_append_right _ (List.mem_append_left _ (List.mem_of_getElem? (i := 161) rfl))) rfl
theorem q_402 : (Cond.soleField "CapUnitModel" "rounded") ∈ wA := wA_mem (List.mem_append_right _ (List.mem_append_left _ (List.mem_of_getElem? (i := 162) rfl))) rfl
theorem q_403 : (Cond.superclass "CapUnitModel" "java/lang/Object") ∈ wA := wA_mem (List.mem_append_right _ (List.mem_append_left _ (List.mem_of_getElem? (i := 163) rfl))) rfl
theorem q_404 : (Cond.methodLink "CapUnitLaw" 77 ⟨"CapUnitModel", "thrown", "()I"⟩) ∈ wA := wA_mem (List.mem_append_right _ (List.mem_append_left _ (List.mem_of_getElem? (i := 164) rfl))) rfl
theorem q_405 : (Cond.instanceMethod ⟨"CapUnitModel", "thrown", "()I"⟩) ∈ wA := wA_mem (List.mem_append_right _ (List.mem_append_left _ (List.mem_of_getElem? (i := 165) rfl))) rfl
theorem q_406 : (Cond.selects "CapUnitModel" ⟨"CapUnitModel", "thrown", "()I"⟩ ⟨"CapUnitModel", "thrown", "()I"⟩) ∈ wA := wA_mem (List.mem_append_right _ (List.mem_append_left _ (List.mem_of_getElem? (i := 166) rfl))) rfl
theorem q_407 : (Cond.code ⟨"CapUnitModel", "thrown", "()I"⟩ prog_3_method_2_code 1 (some .int)) ∈ wA := wA_mem (List.mem_append_right _ (List.mem_append_left _ (List.mem_of_getElem? (i := 167) rfl))) rfl
theorem q_408 : (Cond.methodLink "CapUnitLaw" 76 ⟨"CapUnitModel", "root", "(IIJI)I"⟩) ∈ wA := wA_mem (List.mem_append_right _ (List.mem_append_left _ (List.mem_of_getElem? (i := 168) rfl))) rfl
theorem q_409 : (Cond.instanceMethod ⟨"CapUnitModel", "root", "(IIJI)I"⟩) ∈ wA := wA_mem (List.mem_append_right _ (List.mem_append_left _ (List.mem_of_getElem? (i := 169) rfl))) rfl
theorem q_410 : (Cond.selects "CapUnitModel" ⟨"CapUnitModel", "root", "(IIJI)I"⟩ ⟨"CapUnitModel", "root", "(IIJI)I"⟩) ∈ wA := wA_mem (List.mem_append_right _ (List.mem_append_left _ (List.mem_of_getElem? (i := 170) rfl))) rfl
theorem q_411 : (Cond.code ⟨"CapUnitModel", "root", "(IIJI)I"⟩ prog_3_method_23_code 6 (some .int)) ∈ wA := wA_mem (List.mem_append_right _ (List.mem_append_left _ (List.mem_of_getElem? (i := 171) rfl))) rfl
theorem q_412 : (Cond.methodLink "CapUnitModel" 100 ⟨"CapUnitModel", "fail", "(I)I"⟩) ∈ wA := wA_mem (List.mem_append_right _ (List.mem_append_left _ (List.mem_of_getElem? (i := 172) rfl))) rfl
theorem q_414 : (Cond.instanceMethod ⟨"CapUnitModel", "fail", "(I)I"⟩) ∈ wA := wA_mem (List.mem_append_right _ (List.mem_append_left _ (List.mem_of_getElem? (i := 174) rfl))) rfl
theorem q_415 : (Cond.code ⟨"CapUnitModel", "fail", "(I)I"⟩ prog_3_method_3_code 2 (some .int)) ∈ wA := wA_mem (List.mem_append_right _ (List.mem_append_left _ (List.mem_of_getElem? (i := 175) rfl))) rfl
theorem q_416 : (Cond.constantLong "CapUnitModel" 72 (4294967296 : Int64)) ∈ wA := wA_mem (List.mem_append_right _ (List.mem_append_left _ (List.mem_of_getElem? (i := 176) rfl))) rfl
theorem q_417 : (Cond.methodLink "CapUnitModel" 52 ⟨"CapUnitModel", "low", "(I)J"⟩) ∈ wA := wA_mem (List.mem_append_right _ (List.mem_append_left _ (List.mem_of_getElem? (i := 177) rfl))) rfl
theorem q_418 : (Cond.static ⟨"CapUnitModel", "low", "(I)J"⟩) ∈ wA := wA_mem (List.mem_append_right _ (List.mem_append_left _ (List.mem_of_getElem? (i := 178) rfl))) rfl
theorem q_419 : (Cond.code ⟨"CapUnitModel", "low", "(I)J"⟩ prog_3_method_4_code 1 (some .long)) ∈ wA := wA_mem (List.mem_append_right _ (List.mem_append_left _ (List.mem_of_getElem? (i := 179) rfl))) rfl
theorem q_420 : (Cond.constantLong "CapUnitModel" 35 (4294967295 : Int64)) ∈ wA := wA_mem (List.mem_append_right _ (List.mem_append_left _ (List.mem_of_getElem? (i := 180) rfl))) rfl
theorem q_421 : (Cond.methodLink "CapUnitModel" 106 ⟨"CapUnitModel", "pack", "(JJ)V"⟩) ∈ wA := wA_mem (List.mem_append_right _ (List.mem_append_left _ (List.mem_of_getElem? (i := 181) rfl))) rfl
theorem q_423 : (Cond.instanceMethod ⟨"CapUnitModel", "pack", "(JJ)V"⟩) ∈ wA := wA_mem (List.mem_append_right _ (List.mem_append_left _ (List.mem_of_getElem? (i := 183) rfl))) rfl
theorem q_424 : (Cond.code ⟨"CapUnitModel", "pack", "(JJ)V"⟩ prog_3_method_17_code 16 none) ∈ wA := wA_mem (List.mem_append_right _ (List.mem_append_left _ (List.mem_of_getElem? (i := 184) rfl))) rfl
theorem q_425 : (Cond.constantLong "CapUnitModel" 77 (128 : Int64)) ∈ wA := wA_mem (List.mem_append_right _ (List.mem_append_left _ (List.mem_of_getElem? (i := 185) rfl))) rfl
theorem q_426 : (Cond.constantLong "CapUnitModel" 79 (63 : Int64)) ∈ wA := wA_mem (List.mem_append_right _ (List.mem_append_left _ (List.mem_of_getElem? (i := 186) rfl))) rfl
theorem q_427 : (Cond.constantLong "CapUnitModel" 92 (16 : Int64)) ∈ wA := wA_mem (List.mem_append_right _ (List.mem_append_left _ (List.mem_of_getElem? (i := 187) rfl))) rfl
theorem q_428 : (Cond.constant "CapUnitModel" 110 (983040 : Int32)) ∈ wA := wA_mem (List.mem_append_right _ (List.mem_append_left _ (List.mem_of_getElem? (i := 188) rfl))) rfl
theorem q_429 : (Cond.methodLink "CapUnitModel" 111 ⟨"CapUnitModel", "set", "(IZII)Z"⟩) ∈ wA := wA_mem (List.mem_append_right _ (List.mem_append_left _ (List.mem_of_getElem? (i := 189) rfl))) rfl
theorem q_431 : (Cond.instanceMethod ⟨"CapUnitModel", "set", "(IZII)Z"⟩) ∈ wA := wA_mem (List.mem_append_right _ (List.mem_append_left _ (List.mem_of_getElem? (i := 191) rfl))) rfl
theorem q_432 : (Cond.code ⟨"CapUnitModel", "set", "(IZII)Z"⟩ prog_3_method_19_code 5 (some .boolean)) ∈ wA := wA_mem (List.mem_append_right _ (List.mem_append_left _ (List.mem_of_getElem? (i := 192) rfl))) rfl
theorem q_433 : (Cond.methodLink "CapUnitModel" 69 ⟨"CapUnitModel", "base", "(II)J"⟩) ∈ wA := wA_mem (List.mem_append_right _ (List.mem_append_left _ (List.mem_of_getElem? (i := 193) rfl))) rfl
theorem q_434 : (Cond.static ⟨"CapUnitModel", "base", "(II)J"⟩) ∈ wA := wA_mem (List.mem_append_right _ (List.mem_append_left _ (List.mem_of_getElem? (i := 194) rfl))) rfl
theorem q_435 : (Cond.code ⟨"CapUnitModel", "base", "(II)J"⟩ prog_3_method_14_code 2 (some .long)) ∈ wA := wA_mem (List.mem_append_right _ (List.mem_append_left _ (List.mem_of_getElem? (i := 195) rfl))) rfl
theorem q_436 : (Cond.methodLink "CapUnitModel" 39 ⟨"CapUnitModel", "bottom", "(I)I"⟩) ∈ wA := wA_mem (List.mem_append_right _ (List.mem_append_left _ (List.mem_of_getElem? (i := 196) rfl))) rfl
theorem q_437 : (Cond.static ⟨"CapUnitModel", "bottom", "(I)I"⟩) ∈ wA := wA_mem (List.mem_append_right _ (List.mem_append_left _ (List.mem_of_getElem? (i := 197) rfl))) rfl
theorem q_438 : (Cond.code ⟨"CapUnitModel", "bottom", "(I)I"⟩ prog_3_method_10_code 1 (some .int)) ∈ wA := wA_mem (List.mem_append_right _ (List.mem_append_left _ (List.mem_of_getElem? (i := 198) rfl))) rfl
theorem q_439 : (Cond.methodLink "CapUnitModel" 49 ⟨"CapUnitModel", "scale", "(I)I"⟩) ∈ wA := wA_mem (List.mem_append_right _ (List.mem_append_left _ (List.mem_of_getElem? (i := 199) rfl))) rfl
theorem q_440 : (Cond.static ⟨"CapUnitModel", "scale", "(I)I"⟩) ∈ wA := wA_mem (List.mem_append_right _ (List.mem_append_left _ (List.mem_of_getElem? (i := 200) rfl))) rfl
theorem q_441 : (Cond.code ⟨"CapUnitModel", "scale", "(I)I"⟩ prog_3_method_9_code 2 (some .int)) ∈ wA := wA_mem (List.mem_append_right _ (List.mem_append_left _ (List.mem_of_getElem? (i := 201) rfl))) rfl
theorem q_442 : (Cond.methodLink "CapUnitModel" 56 ⟨"CapUnitModel", "window", "(II)J"⟩) ∈ wA := wA_mem (List.mem_append_right _ (List.mem_append_left _ (List.mem_of_getElem? (i := 202) rfl))) rfl
theorem q_443 : (Cond.static ⟨"CapUnitModel", "window", "(II)J"⟩) ∈ wA := wA_mem (List.mem_append_right _ (List.mem_append_left _ (List.mem_of_getElem? (i := 203) rfl))) rfl
theorem q_444 : (Cond.code ⟨"CapUnitModel", "window", "(II)J"⟩ prog_3_method_13_code 7 (some .long)) ∈ wA := wA_mem (List.mem_append_right _ (List.mem_append_left _ (List.mem_of_getElem? (i := 204) rfl))) rfl
theorem q_445 : (Cond.methodLink "CapUnitModel" 43 ⟨"java/lang/Math", "floorMod", "(JJ)J"⟩) ∈ wA := wA_mem (List.mem_append_right _ (List.mem_append_left _ (List.mem_of_getElem? (i := 205) rfl))) rfl
theorem q_446 : (Cond.static ⟨"java/lang/Math", "floorMod", "(JJ)J"⟩) ∈ wA := wA_mem (List.mem_append_right _ (List.mem_append_left _ (List.mem_of_getElem? (i := 206) rfl))) rfl
theorem q_447 : (Cond.code ⟨"java/lang/Math", "floorMod", "(JJ)J"⟩ prog_8_method_52_code 6 (some .long)) ∈ wA := wA_mem (List.mem_append_right _ (List.mem_append_left _ (List.mem_of_getElem? (i := 207) rfl))) rfl
theorem q_448 : (Cond.methodLink "CapUnitModel" 60 ⟨"CapUnitModel", "inWindow", "(IIJ)J"⟩) ∈ wA := wA_mem (List.mem_append_right _ (List.mem_append_left _ (List.mem_of_getElem? (i := 208) rfl))) rfl
theorem q_449 : (Cond.static ⟨"CapUnitModel", "inWindow", "(IIJ)J"⟩) ∈ wA := wA_mem (List.mem_append_right _ (List.mem_append_left _ (List.mem_of_getElem? (i := 209) rfl))) rfl
theorem q_450 : (Cond.code ⟨"CapUnitModel", "inWindow", "(IIJ)J"⟩ prog_3_method_12_code 8 (some .long)) ∈ wA := wA_mem (List.mem_append_right _ (List.mem_append_left _ (List.mem_of_getElem? (i := 210) rfl))) rfl
theorem q_451 : (Cond.methodLink "CapUnitModel" 74 ⟨"CapUnitModel", "top", "(II)J"⟩) ∈ wA := wA_mem (List.mem_append_right _ (List.mem_append_left _ (List.mem_of_getElem? (i := 211) rfl))) rfl
theorem q_452 : (Cond.static ⟨"CapUnitModel", "top", "(II)J"⟩) ∈ wA := wA_mem (List.mem_append_right _ (List.mem_append_left _ (List.mem_of_getElem? (i := 212) rfl))) rfl
theorem q_453 : (Cond.code ⟨"CapUnitModel", "top", "(II)J"⟩ prog_3_method_15_code 7 (some .long)) ∈ wA := wA_mem (List.mem_append_right _ (List.mem_append_left _ (List.mem_of_getElem? (i := 213) rfl))) rfl
theorem q_454 : (Cond.methodLink "CapUnitModel" 64 ⟨"CapUnitModel", "roof", "(I)I"⟩) ∈ wA := wA_mem (List.mem_append_right _ (List.mem_append_left _ (List.mem_of_getElem? (i := 214) rfl))) rfl
theorem q_455 : (Cond.static ⟨"CapUnitModel", "roof", "(I)I"⟩) ∈ wA := wA_mem (List.mem_append_right _ (List.mem_append_left _ (List.mem_of_getElem? (i := 215) rfl))) rfl
theorem q_456 : (Cond.code ⟨"CapUnitModel", "roof", "(I)I"⟩ prog_3_method_11_code 5 (some .int)) ∈ wA := wA_mem (List.mem_append_right _ (List.mem_append_left _ (List.mem_of_getElem? (i := 216) rfl))) rfl
theorem q_457 : (Cond.constantLong "CapUnitModel" 67 (8589934591 : Int64)) ∈ wA := wA_mem (List.mem_append_right _ (List.mem_append_left _ (List.mem_of_getElem? (i := 217) rfl))) rfl
theorem q_458 : (Cond.methodLink "CapUnitLaw" 84 ⟨"CapUnitModel", "put", "(III)V"⟩) ∈ wA := wA_mem (List.mem_append_right _ (List.mem_append_left _ (List.mem_of_getElem? (i := 218) rfl))) rfl
theorem q_459 : (Cond.instanceMethod ⟨"CapUnitModel", "put", "(III)V"⟩) ∈ wA := wA_mem (List.mem_append_right _ (List.mem_append_left _ (List.mem_of_getElem? (i := 219) rfl))) rfl
theorem q_460 : (Cond.selects "CapUnitModel" ⟨"CapUnitModel", "put", "(III)V"⟩ ⟨"CapUnitModel", "put", "(III)V"⟩) ∈ wA := wA_mem (List.mem_append_right _ (List.mem_append_left _ (List.mem_of_getElem? (i := 220) rfl))) rfl
theorem q_461 : (Cond.code ⟨"CapUnitModel", "put", "(III)V"⟩ prog_3_method_24_code 4 none) ∈ wA := wA_mem (List.mem_append_right _ (List.mem_append_left _ (List.mem_of_getElem? (i := 221) rfl))) rfl
theorem q_462 : (Cond.methodLink "CapUnitModel" 115 ⟨"CapUnitModel", "is", "([I)Z"⟩) ∈ wA := wA_mem (List.mem_append_right _ (List.mem_append_left _ (List.mem_of_getElem? (i := 222) rfl))) rfl
theorem q_464 : (Cond.instanceMethod ⟨"CapUnitModel", "is", "([I)Z"⟩) ∈ wA := wA_mem (List.mem_append_right _ (List.mem_append_left _ (List.mem_of_getElem? (i := 224) rfl))) rfl
theorem q_465 : (Cond.code ⟨"CapUnitModel", "is", "([I)Z"⟩ prog_3_method_18_code 6 (some .boolean)) ∈ wA := wA_mem (List.mem_append_right _ (List.mem_append_left _ (List.mem_of_getElem? (i := 225) rfl))) rfl
theorem q_466 : (Cond.methodLink "CapUnitLaw" 88 ⟨"CapUnitModel", "narrow", "(IIIZ)Z"⟩) ∈ wA := wA_mem (List.mem_append_right _ (List.mem_append_left _ (List.mem_of_getElem? (i := 226) rfl))) rfl
theorem q_467 : (Cond.instanceMethod ⟨"CapUnitModel", "narrow", "(IIIZ)Z"⟩) ∈ wA := wA_mem (List.mem_append_right _ (List.mem_append_left _ (List.mem_of_getElem? (i := 227) rfl))) rfl
theorem q_468 : (Cond.selects "CapUnitModel" ⟨"CapUnitModel", "narrow", "(IIIZ)Z"⟩ ⟨"CapUnitModel", "narrow", "(IIIZ)Z"⟩) ∈ wA := wA_mem (List.mem_append_right _ (List.mem_append_left _ (List.mem_of_getElem? (i := 228) rfl))) rfl
theorem q_469 : (Cond.code ⟨"CapUnitModel", "narrow", "(IIIZ)Z"⟩ prog_3_method_25_code 10 (some .boolean)) ∈ wA := wA_mem (List.mem_append_right _ (List.mem_append_left _ (List.mem_of_getElem? (i := 229) rfl))) rfl
theorem q_470 : (Cond.methodLink "CapUnitModel" 119 ⟨"CapUnitModel", "isOpen", "(I)Z"⟩) ∈ wA := wA_mem (List.mem_append_right _ (List.mem_append_left _ (List.mem_of_getElem? (i := 230) rfl))) rfl
theorem q_472 : (Cond.instanceMethod ⟨"CapUnitModel", "isOpen", "(I)Z"⟩) ∈ wA := wA_mem (List.mem_append_right _ (List.mem_append_left _ (List.mem_of_getElem? (i := 232) rfl))) rfl
theorem q_473 : (Cond.code ⟨"CapUnitModel", "isOpen", "(I)Z"⟩ prog_3_method_20_code 2 (some .boolean)) ∈ wA := wA_mem (List.mem_append_right _ (List.mem_append_left _ (List.mem_of_getElem? (i := 233) rfl))) rfl
theorem q_474 : (Cond.methodLink "CapUnitModel" 94 ⟨"CapUnitModel", "type", "(I)I"⟩) ∈ wA := wA_mem (List.mem_append_right _ (List.mem_append_left _ (List.mem_of_getElem? (i := 234) rfl))) rfl
theorem q_475 : (Cond.static ⟨"CapUnitModel", "type", "(I)I"⟩) ∈ wA := wA_mem (List.mem_append_right _ (List.mem_append_left _ (List.mem_of_getElem? (i := 235) rfl))) rfl
theorem q_476 : (Cond.code ⟨"CapUnitModel", "type", "(I)I"⟩ prog_3_method_6_code 1 (some .int)) ∈ wA := wA_mem (List.mem_append_right _ (List.mem_append_left _ (List.mem_of_getElem? (i := 236) rfl))) rfl
theorem q_477 : (Cond.methodLink "CapUnitLaw" 92 ⟨"CapUnitModel", "move", "(III)Z"⟩) ∈ wA := wA_mem (List.mem_append_right _ (List.mem_append_left _ (List.mem_of_getElem? (i := 237) rfl))) rfl
theorem q_478 : (Cond.instanceMethod ⟨"CapUnitModel", "move", "(III)Z"⟩) ∈ wA := wA_mem (List.mem_append_right _ (List.mem_append_left _ (List.mem_of_getElem? (i := 238) rfl))) rfl
theorem q_479 : (Cond.selects "CapUnitModel" ⟨"CapUnitModel", "move", "(III)Z"⟩ ⟨"CapUnitModel", "move", "(III)Z"⟩) ∈ wA := wA_mem (List.mem_append_right _ (List.mem_append_left _ (List.mem_of_getElem? (i := 239) rfl))) rfl
theorem q_480 : (Cond.code ⟨"CapUnitModel", "move", "(III)Z"⟩ prog_3_method_26_code 5 (some .boolean)) ∈ wA := wA_mem (List.mem_append_right _ (List.mem_append_right _ (List.mem_of_getElem? (i := 0) rfl))) rfl
theorem q_481 : (Cond.methodLink "CapUnitLaw" 95 ⟨"CapUnitModel", "keep", "(III)Z"⟩) ∈ wA := wA_mem (List.mem_append_right _ (List.mem_append_right _ (List.mem_of_getElem? (i := 1) rfl))) rfl
theorem q_482 : (Cond.instanceMethod ⟨"CapUnitModel", "keep", "(III)Z"⟩) ∈ wA := wA_mem (List.mem_append_right _ (List.mem_append_right _ (List.mem_of_getElem? (i := 2) rfl))) rfl
theorem q_483 : (Cond.selects "CapUnitModel" ⟨"CapUnitModel", "keep", "(III)Z"⟩ ⟨"CapUnitModel", "keep", "(III)Z"⟩) ∈ wA := wA_mem (List.mem_append_right _ (List.mem_append_right _ (List.mem_of_getElem? (i := 3) rfl))) rfl
theorem q_484 : (Cond.code ⟨"CapUnitModel", "keep", "(III)Z"⟩ prog_3_method_27_code 4 (some .boolean)) ∈ wA := wA_mem (List.mem_append_right _ (List.mem_append_right _ (List.mem_of_getElem? (i := 4) rfl))) rfl
theorem q_485 : (Cond.methodLink "CapUnitModel" 97 ⟨"CapUnitModel", "perms", "(I)I"⟩) ∈ wA := wA_mem (List.mem_append_right _ (List.mem_append_right _ (List.mem_of_getElem? (i := 5) rfl))) rfl
theorem q_486 : (Cond.static ⟨"CapUnitModel", "perms", "(I)I"⟩) ∈ wA := wA_mem (List.mem_append_right _ (List.mem_append_right _ (List.mem_of_getElem? (i := 6) rfl))) rfl
theorem q_487 : (Cond.code ⟨"CapUnitModel", "perms", "(I)I"⟩ prog_3_method_5_code 1 (some .int)) ∈ wA := wA_mem (List.mem_append_right _ (List.mem_append_right _ (List.mem_of_getElem? (i := 7) rfl))) rfl
theorem q_488 : (Cond.methodLink "CapUnitModel" 123 ⟨"CapUnitModel", "withPerms", "(II)I"⟩) ∈ wA := wA_mem (List.mem_append_right _ (List.mem_append_right _ (List.mem_of_getElem? (i := 8) rfl))) rfl
theorem q_489 : (Cond.static ⟨"CapUnitModel", "withPerms", "(II)I"⟩) ∈ wA := wA_mem (List.mem_append_right _ (List.mem_append_right _ (List.mem_of_getElem? (i := 9) rfl))) rfl
theorem q_490 : (Cond.code ⟨"CapUnitModel", "withPerms", "(II)I"⟩ prog_3_method_8_code 2 (some .int)) ∈ wA := wA_mem (List.mem_append_right _ (List.mem_append_right _ (List.mem_of_getElem? (i := 10) rfl))) rfl
theorem q_491 : (Cond.constant "CapUnitModel" 38 (1048575 : Int32)) ∈ wA := wA_mem (List.mem_append_right _ (List.mem_append_right _ (List.mem_of_getElem? (i := 11) rfl))) rfl
theorem q_492 : (Cond.methodLink "CapUnitLaw" 98 ⟨"CapUnitModel", "seal", "(III)Z"⟩) ∈ wA := wA_mem (List.mem_append_right _ (List.mem_append_right _ (List.mem_of_getElem? (i := 12) rfl))) rfl
theorem q_493 : (Cond.instanceMethod ⟨"CapUnitModel", "seal", "(III)Z"⟩) ∈ wA := wA_mem (List.mem_append_right _ (List.mem_append_right _ (List.mem_of_getElem? (i := 13) rfl))) rfl
theorem q_494 : (Cond.selects "CapUnitModel" ⟨"CapUnitModel", "seal", "(III)Z"⟩ ⟨"CapUnitModel", "seal", "(III)Z"⟩) ∈ wA := wA_mem (List.mem_append_right _ (List.mem_append_right _ (List.mem_of_getElem? (i := 14) rfl))) rfl
theorem q_495 : (Cond.code ⟨"CapUnitModel", "seal", "(III)Z"⟩ prog_3_method_28_code 5 (some .boolean)) ∈ wA := wA_mem (List.mem_append_right _ (List.mem_append_right _ (List.mem_of_getElem? (i := 15) rfl))) rfl
theorem q_496 : (Cond.methodLink "CapUnitModel" 127 ⟨"CapUnitModel", "has", "(II)Z"⟩) ∈ wA := wA_mem (List.mem_append_right _ (List.mem_append_right _ (List.mem_of_getElem? (i := 16) rfl))) rfl
theorem q_498 : (Cond.instanceMethod ⟨"CapUnitModel", "has", "(II)Z"⟩) ∈ wA := wA_mem (List.mem_append_right _ (List.mem_append_right _ (List.mem_of_getElem? (i := 18) rfl))) rfl
theorem q_499 : (Cond.code ⟨"CapUnitModel", "has", "(II)Z"⟩ prog_3_method_21_code 3 (some .boolean)) ∈ wA := wA_mem (List.mem_append_right _ (List.mem_append_right _ (List.mem_of_getElem? (i := 19) rfl))) rfl
theorem q_500 : (Cond.methodLink "CapUnitModel" 131 ⟨"CapUnitModel", "isIn", "(IIJI)Z"⟩) ∈ wA := wA_mem (List.mem_append_right _ (List.mem_append_right _ (List.mem_of_getElem? (i := 20) rfl))) rfl
theorem q_501 : (Cond.static ⟨"CapUnitModel", "isIn", "(IIJI)Z"⟩) ∈ wA := wA_mem (List.mem_append_right _ (List.mem_append_right _ (List.mem_of_getElem? (i := 21) rfl))) rfl
theorem q_502 : (Cond.code ⟨"CapUnitModel", "isIn", "(IIJI)Z"⟩ prog_3_method_16_code 5 (some .boolean)) ∈ wA := wA_mem (List.mem_append_right _ (List.mem_append_right _ (List.mem_of_getElem? (i := 22) rfl))) rfl
theorem q_503 : (Cond.constantLong "CapUnitModel" 135 (12 : Int64)) ∈ wA := wA_mem (List.mem_append_right _ (List.mem_append_right _ (List.mem_of_getElem? (i := 23) rfl))) rfl
theorem q_504 : (Cond.methodLink "CapUnitModel" 137 ⟨"CapUnitModel", "withType", "(II)I"⟩) ∈ wA := wA_mem (List.mem_append_right _ (List.mem_append_right _ (List.mem_of_getElem? (i := 24) rfl))) rfl
theorem q_505 : (Cond.static ⟨"CapUnitModel", "withType", "(II)I"⟩) ∈ wA := wA_mem (List.mem_append_right _ (List.mem_append_right _ (List.mem_of_getElem? (i := 25) rfl))) rfl
theorem q_506 : (Cond.code ⟨"CapUnitModel", "withType", "(II)I"⟩ prog_3_method_7_code 2 (some .int)) ∈ wA := wA_mem (List.mem_append_right _ (List.mem_append_right _ (List.mem_of_getElem? (i := 26) rfl))) rfl
theorem q_507 : (Cond.constant "CapUnitModel" 37 (-983041 : Int32)) ∈ wA := wA_mem (List.mem_append_right _ (List.mem_append_right _ (List.mem_of_getElem? (i := 27) rfl))) rfl
theorem q_508 : (Cond.methodLink "CapUnitLaw" 101 ⟨"CapUnitModel", "unseal", "(III)Z"⟩) ∈ wA := wA_mem (List.mem_append_right _ (List.mem_append_right _ (List.mem_of_getElem? (i := 28) rfl))) rfl
theorem q_509 : (Cond.instanceMethod ⟨"CapUnitModel", "unseal", "(III)Z"⟩) ∈ wA := wA_mem (List.mem_append_right _ (List.mem_append_right _ (List.mem_of_getElem? (i := 29) rfl))) rfl
theorem q_510 : (Cond.selects "CapUnitModel" ⟨"CapUnitModel", "unseal", "(III)Z"⟩ ⟨"CapUnitModel", "unseal", "(III)Z"⟩) ∈ wA := wA_mem (List.mem_append_right _ (List.mem_append_right _ (List.mem_of_getElem? (i := 30) rfl))) rfl
theorem q_511 : (Cond.code ⟨"CapUnitModel", "unseal", "(III)Z"⟩ prog_3_method_29_code 7 (some .boolean)) ∈ wA := wA_mem (List.mem_append_right _ (List.mem_append_right _ (List.mem_of_getElem? (i := 31) rfl))) rfl
theorem q_512 : (Cond.methodLink "CapUnitLaw" 105 ⟨"CapUnitModel", "gate", "(II)Z"⟩) ∈ wA := wA_mem (List.mem_append_right _ (List.mem_append_right _ (List.mem_of_getElem? (i := 32) rfl))) rfl
theorem q_513 : (Cond.instanceMethod ⟨"CapUnitModel", "gate", "(II)Z"⟩) ∈ wA := wA_mem (List.mem_append_right _ (List.mem_append_right _ (List.mem_of_getElem? (i := 33) rfl))) rfl
theorem q_514 : (Cond.selects "CapUnitModel" ⟨"CapUnitModel", "gate", "(II)Z"⟩ ⟨"CapUnitModel", "gate", "(II)Z"⟩) ∈ wA := wA_mem (List.mem_append_right _ (List.mem_append_right _ (List.mem_of_getElem? (i := 34) rfl))) rfl
theorem q_515 : (Cond.code ⟨"CapUnitModel", "gate", "(II)Z"⟩ prog_3_method_30_code 3 (some .boolean)) ∈ wA := wA_mem (List.mem_append_right _ (List.mem_append_right _ (List.mem_of_getElem? (i := 35) rfl))) rfl
theorem q_516 : (Cond.methodLink "CapUnitLaw" 108 ⟨"CapUnitModel", "build", "(III)Z"⟩) ∈ wA := wA_mem (List.mem_append_right _ (List.mem_append_right _ (List.mem_of_getElem? (i := 36) rfl))) rfl
theorem q_517 : (Cond.instanceMethod ⟨"CapUnitModel", "build", "(III)Z"⟩) ∈ wA := wA_mem (List.mem_append_right _ (List.mem_append_right _ (List.mem_of_getElem? (i := 37) rfl))) rfl
theorem q_518 : (Cond.selects "CapUnitModel" ⟨"CapUnitModel", "build", "(III)Z"⟩ ⟨"CapUnitModel", "build", "(III)Z"⟩) ∈ wA := wA_mem (List.mem_append_right _ (List.mem_append_right _ (List.mem_of_getElem? (i := 38) rfl))) rfl
theorem q_519 : (Cond.code ⟨"CapUnitModel", "build", "(III)Z"⟩ prog_3_method_31_code 6 (some .boolean)) ∈ wA := wA_mem (List.mem_append_right _ (List.mem_append_right _ (List.mem_of_getElem? (i := 39) rfl))) rfl
theorem q_520 : (Cond.methodLink "CapUnitModel" 140 ⟨"CapUnitModel", "isWithin", "(II)Z"⟩) ∈ wA := wA_mem (List.mem_append_right _ (List.mem_append_right _ (List.mem_of_getElem? (i := 40) rfl))) rfl
theorem q_522 : (Cond.instanceMethod ⟨"CapUnitModel", "isWithin", "(II)Z"⟩) ∈ wA := wA_mem (List.mem_append_right _ (List.mem_append_right _ (List.mem_of_getElem? (i := 42) rfl))) rfl
theorem q_523 : (Cond.code ⟨"CapUnitModel", "isWithin", "(II)Z"⟩ prog_3_method_22_code 3 (some .boolean)) ∈ wA := wA_mem (List.mem_append_right _ (List.mem_append_right _ (List.mem_of_getElem? (i := 43) rfl))) rfl
theorem q_524 : (Cond.methodLink "CapUnitLaw" 111 ⟨"CapUnitModel", "subset", "(II)Z"⟩) ∈ wA := wA_mem (List.mem_append_right _ (List.mem_append_right _ (List.mem_of_getElem? (i := 44) rfl))) rfl
theorem q_525 : (Cond.instanceMethod ⟨"CapUnitModel", "subset", "(II)Z"⟩) ∈ wA := wA_mem (List.mem_append_right _ (List.mem_append_right _ (List.mem_of_getElem? (i := 45) rfl))) rfl
theorem q_526 : (Cond.selects "CapUnitModel" ⟨"CapUnitModel", "subset", "(II)Z"⟩ ⟨"CapUnitModel", "subset", "(II)Z"⟩) ∈ wA := wA_mem (List.mem_append_right _ (List.mem_append_right _ (List.mem_of_getElem? (i := 46) rfl))) rfl
theorem q_527 : (Cond.code ⟨"CapUnitModel", "subset", "(II)Z"⟩ prog_3_method_32_code 3 (some .boolean)) ∈ wA := wA_mem (List.mem_append_right _ (List.mem_append_right _ (List.mem_of_getElem? (i := 47) rfl))) rfl
theorem q_528 : (Cond.methodLink "CapUnitLaw" 114 ⟨"CapUnitModel", "told", "(II)J"⟩) ∈ wA := wA_mem (List.mem_append_right _ (List.mem_append_right _ (List.mem_of_getElem? (i := 48) rfl))) rfl
theorem q_529 : (Cond.instanceMethod ⟨"CapUnitModel", "told", "(II)J"⟩) ∈ wA := wA_mem (List.mem_append_right _ (List.mem_append_right _ (List.mem_of_getElem? (i := 49) rfl))) rfl
theorem q_530 : (Cond.selects "CapUnitModel" ⟨"CapUnitModel", "told", "(II)J"⟩ ⟨"CapUnitModel", "told", "(II)J"⟩) ∈ wA := wA_mem (List.mem_append_right _ (List.mem_append_right _ (List.mem_of_getElem? (i := 50) rfl))) rfl
theorem q_531 : (Cond.code ⟨"CapUnitModel", "told", "(II)J"⟩ prog_3_method_33_code 5 (some .long)) ∈ wA := wA_mem (List.mem_append_right _ (List.mem_append_right _ (List.mem_of_getElem? (i := 51) rfl))) rfl
theorem q_532 : (Cond.methodLink "CapUnitLaw" 117 ⟨"CapUnitModel", "reaches", "(III)Z"⟩) ∈ wA := wA_mem (List.mem_append_right _ (List.mem_append_right _ (List.mem_of_getElem? (i := 52) rfl))) rfl
theorem q_533 : (Cond.instanceMethod ⟨"CapUnitModel", "reaches", "(III)Z"⟩) ∈ wA := wA_mem (List.mem_append_right _ (List.mem_append_right _ (List.mem_of_getElem? (i := 53) rfl))) rfl
theorem q_534 : (Cond.selects "CapUnitModel" ⟨"CapUnitModel", "reaches", "(III)Z"⟩ ⟨"CapUnitModel", "reaches", "(III)Z"⟩) ∈ wA := wA_mem (List.mem_append_right _ (List.mem_append_right _ (List.mem_of_getElem? (i := 54) rfl))) rfl
theorem q_535 : (Cond.code ⟨"CapUnitModel", "reaches", "(III)Z"⟩ prog_3_method_34_code 4 (some .boolean)) ∈ wA := wA_mem (List.mem_append_right _ (List.mem_append_right _ (List.mem_of_getElem? (i := 55) rfl))) rfl
theorem q_536 : (Cond.methodLink "CapUnitLaw" 121 ⟨"CapUnitModel", "pack", "(IJ)I"⟩) ∈ wA := wA_mem (List.mem_append_right _ (List.mem_append_right _ (List.mem_of_getElem? (i := 56) rfl))) rfl
theorem q_537 : (Cond.instanceMethod ⟨"CapUnitModel", "pack", "(IJ)I"⟩) ∈ wA := wA_mem (List.mem_append_right _ (List.mem_append_right _ (List.mem_of_getElem? (i := 57) rfl))) rfl
theorem q_538 : (Cond.selects "CapUnitModel" ⟨"CapUnitModel", "pack", "(IJ)I"⟩ ⟨"CapUnitModel", "pack", "(IJ)I"⟩) ∈ wA := wA_mem (List.mem_append_right _ (List.mem_append_right _ (List.mem_of_getElem? (i := 58) rfl))) rfl
theorem q_539 : (Cond.code ⟨"CapUnitModel", "pack", "(IJ)I"⟩ prog_3_method_35_code 4 (some .int)) ∈ wA := wA_mem (List.mem_append_right _ (List.mem_append_right _ (List.mem_of_getElem? (i := 59) rfl))) rfl
theorem q_540 : (Cond.constant "CapUnitModel" 143 (32768 : Int32)) ∈ wA := wA_mem (List.mem_append_right _ (List.mem_append_right _ (List.mem_of_getElem? (i := 60) rfl))) rfl
theorem q_541 : (Cond.methodLink "CapUnitLaw" 126 ⟨"CapUnitModel", "bound", "(IIZ)J"⟩) ∈ wA := wA_mem (List.mem_append_right _ (List.mem_append_right _ (List.mem_of_getElem? (i := 61) rfl))) rfl
theorem q_542 : (Cond.instanceMethod ⟨"CapUnitModel", "bound", "(IIZ)J"⟩) ∈ wA := wA_mem (List.mem_append_right _ (List.mem_append_right _ (List.mem_of_getElem? (i := 62) rfl))) rfl
theorem q_543 : (Cond.selects "CapUnitModel" ⟨"CapUnitModel", "bound", "(IIZ)J"⟩ ⟨"CapUnitModel", "bound", "(IIZ)J"⟩) ∈ wA := wA_mem (List.mem_append_right _ (List.mem_append_right _ (List.mem_of_getElem? (i := 63) rfl))) rfl
theorem q_544 : (Cond.code ⟨"CapUnitModel", "bound", "(IIZ)J"⟩ prog_3_method_36_code 4 (some .long)) ∈ wA := wA_mem (List.mem_append_right _ (List.mem_append_right _ (List.mem_of_getElem? (i := 64) rfl))) rfl
theorem q_545 : (Cond.methodLink "CapUnitLaw" 130 ⟨"CapUnitModel", "rounded", "(JZ)J"⟩) ∈ wA := wA_mem (List.mem_append_right _ (List.mem_append_right _ (List.mem_of_getElem? (i := 65) rfl))) rfl
theorem q_546 : (Cond.instanceMethod ⟨"CapUnitModel", "rounded", "(JZ)J"⟩) ∈ wA := wA_mem (List.mem_append_right _ (List.mem_append_right _ (List.mem_of_getElem? (i := 66) rfl))) rfl
theorem q_547 : (Cond.selects "CapUnitModel" ⟨"CapUnitModel", "rounded", "(JZ)J"⟩ ⟨"CapUnitModel", "rounded", "(JZ)J"⟩) ∈ wA := wA_mem (List.mem_append_right _ (List.mem_append_right _ (List.mem_of_getElem? (i := 67) rfl))) rfl
theorem q_548 : (Cond.code ⟨"CapUnitModel", "rounded", "(JZ)J"⟩ prog_3_method_37_code 4 (some .long)) ∈ wA := wA_mem (List.mem_append_right _ (List.mem_append_right _ (List.mem_of_getElem? (i := 68) rfl))) rfl
theorem q_549 : (Cond.methodLink "CapUnitModel" 144 ⟨"CapUnitModel", "pack", "(IJ)I"⟩) ∈ wA := wA_mem (List.mem_append_right _ (List.mem_append_right _ (List.mem_of_getElem? (i := 69) rfl))) rfl
theorem q_550 : (Cond.methodLink "CapUnitLaw" 134 ⟨"CapUnitModel", "grown", "()I"⟩) ∈ wA := wA_mem (List.mem_append_right _ (List.mem_append_right _ (List.mem_of_getElem? (i := 70) rfl))) rfl
theorem q_551 : (Cond.instanceMethod ⟨"CapUnitModel", "grown", "()I"⟩) ∈ wA := wA_mem (List.mem_append_right _ (List.mem_append_right _ (List.mem_of_getElem? (i := 71) rfl))) rfl
theorem q_552 : (Cond.selects "CapUnitModel" ⟨"CapUnitModel", "grown", "()I"⟩ ⟨"CapUnitModel", "grown", "()I"⟩) ∈ wA := wA_mem (List.mem_append_right _ (List.mem_append_right _ (List.mem_of_getElem? (i := 72) rfl))) rfl
theorem q_553 : (Cond.code ⟨"CapUnitModel", "grown", "()I"⟩ prog_3_method_38_code 5 (some .int)) ∈ wA := wA_mem (List.mem_append_right _ (List.mem_append_right _ (List.mem_of_getElem? (i := 73) rfl))) rfl
theorem q_554 : (Cond.constantLong "CapUnitLaw" 69 (4294967295 : Int64)) ∈ wA := wA_mem (List.mem_append_right _ (List.mem_append_right _ (List.mem_of_getElem? (i := 74) rfl))) rfl
theorem q_555 : (Cond.sameMethod "java/lang/Throwable" "java/lang/Throwable" "fillInStackTrace" "(I)Ljava/lang/Throwable;") ∈ wA := wA_mem (List.mem_append_right _ (List.mem_append_right _ (List.mem_of_getElem? (i := 75) rfl))) rfl
theorem sC_isFromRoot : Cond.selects "CapUnit" yC_isFromRoot yC_isFromRoot ∈ wA := wA_sel (y := yC_isFromRoot) (n := 7) (List.mem_append_left _ (List.mem_of_getElem? (i := 0) rfl)) rfl
theorem sC_isWithin : Cond.selects "CapUnit" yC_isWithin yC_isWithin ∈ wA := wA_sel (y := yC_isWithin) (n := 7) (List.mem_append_left _ (List.mem_of_getElem? (i := 1) rfl)) rfl
theorem sC_baseIn : Cond.selects "CapUnit" yC_baseIn yC_baseIn ∈ wA := wA_sel (y := yC_baseIn) (n := 7) (List.mem_append_left _ (List.mem_of_getElem? (i := 2) rfl)) rfl
theorem sC_topIn : Cond.selects "CapUnit" yC_topIn yC_topIn ∈ wA := wA_sel (y := yC_topIn) (n := 7) (List.mem_append_left _ (List.mem_of_getElem? (i := 3) rfl)) rfl
theorem sC_become : Cond.selects "CapUnit" yC_become yC_become ∈ wA := wA_sel (y := yC_become) (n := 7) (List.mem_append_left _ (List.mem_of_getElem? (i := 5) rfl)) rfl
theorem sC_isOpenWithTag : Cond.selects "CapUnit" yC_isOpenWithTag yC_isOpenWithTag ∈ wA := wA_sel (y := yC_isOpenWithTag) (n := 7) (List.mem_append_left _ (List.mem_of_getElem? (i := 6) rfl)) rfl
theorem sC_isInBounds : Cond.selects "CapUnit" yC_isInBounds yC_isInBounds ∈ wA := wA_sel (y := yC_isInBounds) (n := 7) (List.mem_append_left _ (List.mem_of_getElem? (i := 7) rfl)) rfl
theorem sC_isKey : Cond.selects "CapUnit" yC_isKey yC_isKey ∈ wA := wA_sel (y := yC_isKey) (n := 7) (List.mem_append_left _ (List.mem_of_getElem? (i := 8) rfl)) rfl
theorem sC_hasPerm : Cond.selects "CapUnit" yC_hasPerm yC_hasPerm ∈ wA := wA_sel (y := yC_hasPerm) (n := 7) (List.mem_append_left _ (List.mem_of_getElem? (i := 9) rfl)) rfl
theorem sM_fail : Cond.selects "CapUnitModel" yM_fail yM_fail ∈ wA := wA_sel (y := yM_fail) (n := 11) (List.mem_append_left _ (List.mem_of_getElem? (i := 10) rfl)) rfl
theorem sM_packJ : Cond.selects "CapUnitModel" yM_packJ yM_packJ ∈ wA := wA_sel (y := yM_packJ) (n := 11) (List.mem_append_left _ (List.mem_of_getElem? (i := 11) rfl)) rfl
theorem sM_set : Cond.selects "CapUnitModel" yM_set yM_set ∈ wA := wA_sel (y := yM_set) (n := 11) (List.mem_append_left _ (List.mem_of_getElem? (i := 12) rfl)) rfl
theorem sM_is : Cond.selects "CapUnitModel" yM_is yM_is ∈ wA := wA_sel (y := yM_is) (n := 11) (List.mem_append_left _ (List.mem_of_getElem? (i := 13) rfl)) rfl
theorem sM_isOpen : Cond.selects "CapUnitModel" yM_isOpen yM_isOpen ∈ wA := wA_sel (y := yM_isOpen) (n := 11) (List.mem_append_left _ (List.mem_of_getElem? (i := 14) rfl)) rfl
theorem sM_has : Cond.selects "CapUnitModel" yM_has yM_has ∈ wA := wA_sel (y := yM_has) (n := 11) (List.mem_append_left _ (List.mem_of_getElem? (i := 15) rfl)) rfl
theorem sM_isWithin : Cond.selects "CapUnitModel" yM_isWithin yM_isWithin ∈ wA := wA_sel (y := yM_isWithin) (n := 11) (List.mem_append_right _ (List.mem_of_getElem? (i := 0) rfl)) rfl
