theorem w_0 : (.initialized "KateDeskLaw" : Cond) ∈ BW := bw_1 (List.mem_of_getElem? (i := 0) rfl) rfl
theorem w_1 : (.initialized "KateDesk" : Cond) ∈ BW := bw_1 (List.mem_of_getElem? (i := 1) rfl) rfl
theorem w_2 : (.initialized "KateDesk$Point" : Cond) ∈ BW := bw_1 (List.mem_of_getElem? (i := 2) rfl) rfl
theorem w_3 : (.initialized "KateDesk$Row" : Cond) ∈ BW := bw_1 (List.mem_of_getElem? (i := 3) rfl) rfl
theorem w_4 : (.initialized "KateDesk$Field" : Cond) ∈ BW := bw_1 (List.mem_of_getElem? (i := 4) rfl) rfl
theorem w_5 : (.initialized "KateDesk$Limbs" : Cond) ∈ BW := bw_1 (List.mem_of_getElem? (i := 5) rfl) rfl
theorem w_6 : (.initialized "java/lang/String" : Cond) ∈ BW := bw_1 (List.mem_of_getElem? (i := 6) rfl) rfl
theorem w_7 : (.initialized "java/lang/StringLatin1" : Cond) ∈ BW := bw_1 (List.mem_of_getElem? (i := 7) rfl) rfl
theorem w_8 : (.initialized "jdk/internal/util/Preconditions" : Cond) ∈ BW := bw_1 (List.mem_of_getElem? (i := 8) rfl) rfl
theorem w_9 : (.initialized "java/lang/StringUTF16" : Cond) ∈ BW := bw_1 (List.mem_of_getElem? (i := 9) rfl) rfl
theorem w_10 : (.initialized "java/lang/System" : Cond) ∈ BW := bw_1 (List.mem_of_getElem? (i := 10) rfl) rfl
theorem w_11 : (.initialized "KateDesk$Curve" : Cond) ∈ BW := bw_1 (List.mem_of_getElem? (i := 11) rfl) rfl
theorem w_12 : (.initialized "KateDesk$Sums" : Cond) ∈ BW := bw_1 (List.mem_of_getElem? (i := 12) rfl) rfl
theorem w_13 : (.initialized "KateDesk$Forms" : Cond) ∈ BW := bw_1 (List.mem_of_getElem? (i := 13) rfl) rfl
theorem w_14 : (.initialized "KateDesk$Polynomials" : Cond) ∈ BW := bw_1 (List.mem_of_getElem? (i := 14) rfl) rfl
theorem w_15 : (.initialized "KateDeskModel" : Cond) ∈ BW := bw_1 (List.mem_of_getElem? (i := 15) rfl) rfl
theorem w_16 : (.initialized "java/lang/Throwable" : Cond) ∈ BW := bw_1 (List.mem_of_getElem? (i := 16) rfl) rfl
theorem w_17 : (.initialized "java/lang/Exception" : Cond) ∈ BW := bw_1 (List.mem_of_getElem? (i := 17) rfl) rfl
theorem w_18 : (.initialized "java/lang/RuntimeException" : Cond) ∈ BW := bw_1 (List.mem_of_getElem? (i := 18) rfl) rfl
theorem w_19 : (.initialized "java/lang/IllegalArgumentException" : Cond) ∈ BW := bw_1 (List.mem_of_getElem? (i := 19) rfl) rfl
theorem w_20 : (.initialized "java/lang/IllegalStateException" : Cond) ∈ BW := bw_1 (List.mem_of_getElem? (i := 20) rfl) rfl
theorem w_21 : (.initialized "java/util/Arrays" : Cond) ∈ BW := bw_1 (List.mem_of_getElem? (i := 21) rfl) rfl
theorem w_22 : (.initialized "java/lang/ArithmeticException" : Cond) ∈ BW := bw_1 (List.mem_of_getElem? (i := 22) rfl) rfl
theorem w_23 : (.initialized "java/lang/Math" : Cond) ∈ BW := bw_1 (List.mem_of_getElem? (i := 23) rfl) rfl
theorem w_24 : (.initialized "java/util/NoSuchElementException" : Cond) ∈ BW := bw_1 (List.mem_of_getElem? (i := 24) rfl) rfl
theorem w_25 : (.classLink "KateDeskLaw" 8 "KateDesk" : Cond) ∈ BW := bw_1 (List.mem_of_getElem? (i := 25) rfl) rfl
theorem w_26 : (.instantiable "KateDesk" 16 : Cond) ∈ BW := bw_1 (List.mem_of_getElem? (i := 26) rfl) rfl
theorem w_27 : (.methodLink "KateDeskLaw" 94 ⟨"KateDesk", "<init>", "()V"⟩ : Cond) ∈ BW := bw_1 (List.mem_of_getElem? (i := 27) rfl) rfl
theorem w_28 : (.instanceMethod ⟨"KateDesk", "<init>", "()V"⟩ : Cond) ∈ BW := bw_1 (List.mem_of_getElem? (i := 28) rfl) rfl
theorem w_29 : (.code ⟨"KateDesk", "<init>", "()V"⟩ prog_1_method_1_code 4 none : Cond) ∈ BW := bw_1 (List.mem_of_getElem? (i := 29) rfl) rfl
theorem w_30 : (.methodLink "KateDesk" 1 ⟨"java/lang/Object", "<init>", "()V"⟩ : Cond) ∈ BW := bw_1 (List.mem_of_getElem? (i := 30) rfl) rfl
theorem w_31 : (.instanceMethod ⟨"java/lang/Object", "<init>", "()V"⟩ : Cond) ∈ BW := bw_1 (List.mem_of_getElem? (i := 31) rfl) rfl
theorem w_32 : (.code ⟨"java/lang/Object", "<init>", "()V"⟩ object_method_1_code 1 none : Cond) ∈ BW := bw_1 (List.mem_of_getElem? (i := 32) rfl) rfl
theorem w_33 : (.classLink "KateDesk" 11 "[[J" : Cond) ∈ BW := bw_1 (List.mem_of_getElem? (i := 33) rfl) rfl
theorem w_35 : (.methodLink "KateDesk" 16 ⟨"KateDesk", "newPoints", "(I)[LKateDesk$Point;"⟩ : Cond) ∈ BW := bw_1 (List.mem_of_getElem? (i := 35) rfl) rfl
theorem w_36 : (.static ⟨"KateDesk", "newPoints", "(I)[LKateDesk$Point;"⟩ : Cond) ∈ BW := bw_1 (List.mem_of_getElem? (i := 36) rfl) rfl
theorem w_37 : (.code ⟨"KateDesk", "newPoints", "(I)[LKateDesk$Point;"⟩ prog_1_method_27_code 3 (Option.some (FieldType.array (FieldType.object "KateDesk$Point"))) : Cond) ∈ BW := bw_1 (List.mem_of_getElem? (i := 37) rfl) rfl
theorem w_38 : (.classLink "KateDesk" 41 "KateDesk$Point" : Cond) ∈ BW := bw_1 (List.mem_of_getElem? (i := 38) rfl) rfl
theorem w_40 : (.instantiable "KateDesk$Point" 3 : Cond) ∈ BW := bw_1 (List.mem_of_getElem? (i := 40) rfl) rfl
theorem w_41 : (.methodLink "KateDesk" 43 ⟨"KateDesk$Point", "<init>", "()V"⟩ : Cond) ∈ BW := bw_1 (List.mem_of_getElem? (i := 41) rfl) rfl
theorem w_42 : (.instanceMethod ⟨"KateDesk$Point", "<init>", "()V"⟩ : Cond) ∈ BW := bw_1 (List.mem_of_getElem? (i := 42) rfl) rfl
theorem w_43 : (.code ⟨"KateDesk$Point", "<init>", "()V"⟩ prog_6_method_1_code 1 none : Cond) ∈ BW := bw_1 (List.mem_of_getElem? (i := 43) rfl) rfl
theorem w_44 : (.methodLink "KateDesk$Point" 1 ⟨"java/lang/Object", "<init>", "()V"⟩ : Cond) ∈ BW := bw_1 (List.mem_of_getElem? (i := 44) rfl) rfl
theorem w_45 : (.fieldLink "KateDesk$Point" 9 "KateDesk$Point" "x" "[J" : Cond) ∈ BW := bw_1 (List.mem_of_getElem? (i := 45) rfl) rfl
theorem w_46 : (.fieldLink "KateDesk$Curve" 54 "KateDesk$Point" "x" "[J" : Cond) ∈ BW := bw_1 (List.mem_of_getElem? (i := 46) rfl) rfl
theorem w_47 : (.fieldLink "KateDesk$Forms" 64 "KateDesk$Point" "x" "[J" : Cond) ∈ BW := bw_1 (List.mem_of_getElem? (i := 47) rfl) rfl
theorem w_48 : (.fieldLink "KateDesk" 289 "KateDesk$Point" "x" "[J" : Cond) ∈ BW := bw_1 (List.mem_of_getElem? (i := 48) rfl) rfl
theorem w_49 : (.fieldLink "KateDesk$Point" 15 "KateDesk$Point" "y" "[J" : Cond) ∈ BW := bw_1 (List.mem_of_getElem? (i := 49) rfl) rfl
theorem w_50 : (.fieldLink "KateDesk$Curve" 43 "KateDesk$Point" "y" "[J" : Cond) ∈ BW := bw_1 (List.mem_of_getElem? (i := 50) rfl) rfl
theorem w_51 : (.fieldLink "KateDesk$Forms" 71 "KateDesk$Point" "y" "[J" : Cond) ∈ BW := bw_1 (List.mem_of_getElem? (i := 51) rfl) rfl
theorem w_52 : (.fieldLink "KateDesk" 298 "KateDesk$Point" "y" "[J" : Cond) ∈ BW := bw_1 (List.mem_of_getElem? (i := 52) rfl) rfl
theorem w_53 : (.fieldLink "KateDesk$Point" 18 "KateDesk$Point" "z" "[J" : Cond) ∈ BW := bw_1 (List.mem_of_getElem? (i := 53) rfl) rfl
theorem w_54 : (.fieldLink "KateDesk$Curve" 61 "KateDesk$Point" "z" "[J" : Cond) ∈ BW := bw_1 (List.mem_of_getElem? (i := 54) rfl) rfl
theorem w_55 : (.fieldLink "KateDesk$Forms" 84 "KateDesk$Point" "z" "[J" : Cond) ∈ BW := bw_1 (List.mem_of_getElem? (i := 55) rfl) rfl
theorem w_56 : (.fieldLink "KateDesk" 303 "KateDesk$Point" "z" "[J" : Cond) ∈ BW := bw_1 (List.mem_of_getElem? (i := 56) rfl) rfl
theorem w_57 : (.laysFinal "KateDesk$Point" "KateDesk$Point" "x" "[J" : Cond) ∈ BW := bw_1 (List.mem_of_getElem? (i := 57) rfl) rfl
theorem w_58 : (.soleField "KateDesk$Point" "x" : Cond) ∈ BW := bw_1 (List.mem_of_getElem? (i := 58) rfl) rfl
theorem w_59 : (.laysFinal "KateDesk$Point" "KateDesk$Point" "y" "[J" : Cond) ∈ BW := bw_1 (List.mem_of_getElem? (i := 59) rfl) rfl
theorem w_60 : (.soleField "KateDesk$Point" "y" : Cond) ∈ BW := bw_1 (List.mem_of_getElem? (i := 60) rfl) rfl
theorem w_61 : (.laysFinal "KateDesk$Point" "KateDesk$Point" "z" "[J" : Cond) ∈ BW := bw_1 (List.mem_of_getElem? (i := 61) rfl) rfl
theorem w_62 : (.soleField "KateDesk$Point" "z" : Cond) ∈ BW := bw_1 (List.mem_of_getElem? (i := 62) rfl) rfl
theorem w_63 : (.superclass "KateDesk$Point" "java/lang/Object" : Cond) ∈ BW := bw_1 (List.mem_of_getElem? (i := 63) rfl) rfl
theorem w_64 : (.arrayClass FieldType.long : Cond) ∈ BW := bw_1 (List.mem_of_getElem? (i := 64) rfl) rfl
theorem w_65 : (.classLink "KateDesk" 31 "KateDesk$Row" : Cond) ∈ BW := bw_1 (List.mem_of_getElem? (i := 65) rfl) rfl
theorem w_66 : (.instantiable "KateDesk$Row" 2 : Cond) ∈ BW := bw_1 (List.mem_of_getElem? (i := 66) rfl) rfl
theorem w_68 : (.instanceMethod ⟨"KateDesk$Row", "<init>", "()V"⟩ : Cond) ∈ BW := bw_1 (List.mem_of_getElem? (i := 68) rfl) rfl
theorem w_69 : (.code ⟨"KateDesk$Row", "<init>", "()V"⟩ prog_8_method_1_code 1 none : Cond) ∈ BW := bw_1 (List.mem_of_getElem? (i := 69) rfl) rfl
theorem w_70 : (.methodLink "KateDesk$Row" 3 ⟨"java/lang/Object", "<init>", "()V"⟩ : Cond) ∈ BW := bw_1 (List.mem_of_getElem? (i := 70) rfl) rfl
theorem w_71 : (.fieldLink "KateDesk$Row" 9 "KateDesk$Row" "cells" "[B" : Cond) ∈ BW := bw_1 (List.mem_of_getElem? (i := 71) rfl) rfl
theorem w_72 : (.fieldLink "KateDesk$Row" 15 "KateDesk$Row" "size" "I" : Cond) ∈ BW := bw_1 (List.mem_of_getElem? (i := 72) rfl) rfl
theorem w_73 : (.fieldLink "KateDesk$Forms" 41 "KateDesk$Row" "size" "I" : Cond) ∈ BW := bw_1 (List.mem_of_getElem? (i := 73) rfl) rfl
theorem w_74 : (.fieldLink "KateDesk" 117 "KateDesk$Row" "size" "I" : Cond) ∈ BW := bw_1 (List.mem_of_getElem? (i := 74) rfl) rfl
theorem w_75 : (.laysFinal "KateDesk$Row" "KateDesk$Row" "cells" "[B" : Cond) ∈ BW := bw_1 (List.mem_of_getElem? (i := 75) rfl) rfl
theorem w_76 : (.soleField "KateDesk$Row" "cells" : Cond) ∈ BW := bw_1 (List.mem_of_getElem? (i := 76) rfl) rfl
theorem w_77 : (.lays "KateDesk$Row" "KateDesk$Row" "size" "I" : Cond) ∈ BW := bw_1 (List.mem_of_getElem? (i := 77) rfl) rfl
theorem w_78 : (.soleField "KateDesk$Row" "size" : Cond) ∈ BW := bw_1 (List.mem_of_getElem? (i := 78) rfl) rfl
theorem w_79 : (.superclass "KateDesk$Row" "java/lang/Object" : Cond) ∈ BW := bw_1 (List.mem_of_getElem? (i := 79) rfl) rfl
theorem w_80 : (.arrayClass FieldType.byte : Cond) ∈ BW := bw_1 (List.mem_of_getElem? (i := 80) rfl) rfl
theorem w_81 : (.classLink "KateDesk" 58 "KateDesk$Field" : Cond) ∈ BW := bw_1 (List.mem_of_getElem? (i := 81) rfl) rfl
theorem w_82 : (.instantiable "KateDesk$Field" 7 : Cond) ∈ BW := bw_1 (List.mem_of_getElem? (i := 82) rfl) rfl
theorem w_84 : (.methodLink "KateDesk" 62 ⟨"KateDesk$Field", "<init>", "(Ljava/lang/String;)V"⟩ : Cond) ∈ BW := bw_1 (List.mem_of_getElem? (i := 84) rfl) rfl
theorem w_85 : (.instanceMethod ⟨"KateDesk$Field", "<init>", "(Ljava/lang/String;)V"⟩ : Cond) ∈ BW := bw_1 (List.mem_of_getElem? (i := 85) rfl) rfl
theorem w_86 : (.code ⟨"KateDesk$Field", "<init>", "(Ljava/lang/String;)V"⟩ prog_3_method_1_code 3 none : Cond) ∈ BW := bw_1 (List.mem_of_getElem? (i := 86) rfl) rfl
theorem w_87 : (.methodLink "KateDesk$Field" 1 ⟨"java/lang/Object", "<init>", "()V"⟩ : Cond) ∈ BW := bw_1 (List.mem_of_getElem? (i := 87) rfl) rfl
theorem w_88 : (.methodLink "KateDesk$Field" 27 ⟨"KateDesk$Limbs", "fromHex", "(Ljava/lang/String;)[J"⟩ : Cond) ∈ BW := bw_1 (List.mem_of_getElem? (i := 88) rfl) rfl
theorem w_89 : (.static ⟨"KateDesk$Limbs", "fromHex", "(Ljava/lang/String;)[J"⟩ : Cond) ∈ BW := bw_1 (List.mem_of_getElem? (i := 89) rfl) rfl
theorem w_90 : (.code ⟨"KateDesk$Limbs", "fromHex", "(Ljava/lang/String;)[J"⟩ prog_5_method_2_code 7 (Option.some (FieldType.array FieldType.long)) : Cond) ∈ BW := bw_1 (List.mem_of_getElem? (i := 90) rfl) rfl
theorem w_91 : (.methodLink "KateDesk$Limbs" 9 ⟨"java/lang/String", "length", "()I"⟩ : Cond) ∈ BW := bw_1 (List.mem_of_getElem? (i := 91) rfl) rfl
theorem w_92 : (.instanceMethod ⟨"java/lang/String", "length", "()I"⟩ : Cond) ∈ BW := bw_1 (List.mem_of_getElem? (i := 92) rfl) rfl
theorem w_93 : (.selects "java/lang/String" ⟨"java/lang/String", "length", "()I"⟩ ⟨"java/lang/String", "length", "()I"⟩ : Cond) ∈ BW := bw_1 (List.mem_of_getElem? (i := 93) rfl) rfl
theorem w_94 : (.code ⟨"java/lang/String", "length", "()I"⟩ prog_18_method_54_code 1 (Option.some FieldType.int) : Cond) ∈ BW := bw_1 (List.mem_of_getElem? (i := 94) rfl) rfl
theorem w_95 : (.methodLink "java/lang/String" 335 ⟨"java/lang/String", "coder", "()B"⟩ : Cond) ∈ BW := bw_1 (List.mem_of_getElem? (i := 95) rfl) rfl
theorem w_96 : (.instanceMethod ⟨"java/lang/String", "coder", "()B"⟩ : Cond) ∈ BW := bw_1 (List.mem_of_getElem? (i := 96) rfl) rfl
theorem w_97 : (.selects "java/lang/String" ⟨"java/lang/String", "coder", "()B"⟩ ⟨"java/lang/String", "coder", "()B"⟩ : Cond) ∈ BW := bw_1 (List.mem_of_getElem? (i := 97) rfl) rfl
theorem w_98 : (.code ⟨"java/lang/String", "coder", "()B"⟩ prog_18_method_152_code 1 (Option.some FieldType.byte) : Cond) ∈ BW := bw_1 (List.mem_of_getElem? (i := 98) rfl) rfl
theorem w_99 : (.fieldLink "java/lang/String" 38 "java/lang/String" "COMPACT_STRINGS" "Z" : Cond) ∈ BW := bw_1 (List.mem_of_getElem? (i := 99) rfl) rfl
theorem w_101 : (.methodLink "KateDesk$Limbs" 15 ⟨"java/lang/String", "charAt", "(I)C"⟩ : Cond) ∈ BW := bw_1 (List.mem_of_getElem? (i := 101) rfl) rfl
theorem w_102 : (.instanceMethod ⟨"java/lang/String", "charAt", "(I)C"⟩ : Cond) ∈ BW := bw_1 (List.mem_of_getElem? (i := 102) rfl) rfl
theorem w_103 : (.selects "java/lang/String" ⟨"java/lang/String", "charAt", "(I)C"⟩ ⟨"java/lang/String", "charAt", "(I)C"⟩ : Cond) ∈ BW := bw_1 (List.mem_of_getElem? (i := 103) rfl) rfl
theorem w_104 : (.code ⟨"java/lang/String", "charAt", "(I)C"⟩ prog_18_method_56_code 2 (Option.some FieldType.char) : Cond) ∈ BW := bw_1 (List.mem_of_getElem? (i := 104) rfl) rfl
theorem w_105 : (.methodLink "java/lang/String" 492 ⟨"java/lang/String", "isLatin1", "()Z"⟩ : Cond) ∈ BW := bw_1 (List.mem_of_getElem? (i := 105) rfl) rfl
theorem w_106 : (.instanceMethod ⟨"java/lang/String", "isLatin1", "()Z"⟩ : Cond) ∈ BW := bw_1 (List.mem_of_getElem? (i := 106) rfl) rfl
theorem w_107 : (.selects "java/lang/String" ⟨"java/lang/String", "isLatin1", "()Z"⟩ ⟨"java/lang/String", "isLatin1", "()Z"⟩ : Cond) ∈ BW := bw_1 (List.mem_of_getElem? (i := 107) rfl) rfl
theorem w_108 : (.code ⟨"java/lang/String", "isLatin1", "()Z"⟩ prog_18_method_154_code 1 (Option.some FieldType.boolean) : Cond) ∈ BW := bw_1 (List.mem_of_getElem? (i := 108) rfl) rfl
theorem w_109 : (.methodLink "java/lang/String" 495 ⟨"java/lang/StringLatin1", "charAt", "([BI)C"⟩ : Cond) ∈ BW := bw_1 (List.mem_of_getElem? (i := 109) rfl) rfl
theorem w_110 : (.static ⟨"java/lang/StringLatin1", "charAt", "([BI)C"⟩ : Cond) ∈ BW := bw_1 (List.mem_of_getElem? (i := 110) rfl) rfl
theorem w_111 : (.code ⟨"java/lang/StringLatin1", "charAt", "([BI)C"⟩ prog_19_method_2_code 2 (Option.some FieldType.char) : Cond) ∈ BW := bw_1 (List.mem_of_getElem? (i := 111) rfl) rfl
theorem w_112 : (.methodLink "java/lang/StringLatin1" 9 ⟨"java/lang/String", "checkIndex", "(II)V"⟩ : Cond) ∈ BW := bw_1 (List.mem_of_getElem? (i := 112) rfl) rfl
theorem w_113 : (.static ⟨"java/lang/String", "checkIndex", "(II)V"⟩ : Cond) ∈ BW := bw_1 (List.mem_of_getElem? (i := 113) rfl) rfl
theorem w_114 : (.code ⟨"java/lang/String", "checkIndex", "(II)V"⟩ prog_18_method_155_code 2 none : Cond) ∈ BW := bw_1 (List.mem_of_getElem? (i := 114) rfl) rfl
theorem w_115 : (.fieldLink "java/lang/String" 1053 "jdk/internal/util/Preconditions" "SIOOBE_FORMATTER" "Ljava/util/function/BiFunction;" : Cond) ∈ BW := bw_1 (List.mem_of_getElem? (i := 115) rfl) rfl
theorem w_117 : (.methodLink "java/lang/String" 1059 ⟨"jdk/internal/util/Preconditions", "checkIndex", "(IILjava/util/function/BiFunction;)I"⟩ : Cond) ∈ BW := bw_1 (List.mem_of_getElem? (i := 117) rfl) rfl
theorem w_118 : (.static ⟨"jdk/internal/util/Preconditions", "checkIndex", "(IILjava/util/function/BiFunction;)I"⟩ : Cond) ∈ BW := bw_1 (List.mem_of_getElem? (i := 118) rfl) rfl
theorem w_119 : (.code ⟨"jdk/internal/util/Preconditions", "checkIndex", "(IILjava/util/function/BiFunction;)I"⟩ prog_25_method_11_code 3 (Option.some FieldType.int) : Cond) ∈ BW := bw_1 (List.mem_of_getElem? (i := 119) rfl) rfl
theorem w_120 : (.methodLink "java/lang/String" 498 ⟨"java/lang/StringUTF16", "charAt", "([BI)C"⟩ : Cond) ∈ BW := bw_1 (List.mem_of_getElem? (i := 120) rfl) rfl
theorem w_121 : (.static ⟨"java/lang/StringUTF16", "charAt", "([BI)C"⟩ : Cond) ∈ BW := bw_1 (List.mem_of_getElem? (i := 121) rfl) rfl
theorem w_122 : (.code ⟨"java/lang/StringUTF16", "charAt", "([BI)C"⟩ prog_20_method_83_code 2 (Option.some FieldType.char) : Cond) ∈ BW := bw_1 (List.mem_of_getElem? (i := 122) rfl) rfl
theorem w_123 : (.methodLink "java/lang/StringUTF16" 67 ⟨"java/lang/StringUTF16", "checkIndex", "(I[B)V"⟩ : Cond) ∈ BW := bw_1 (List.mem_of_getElem? (i := 123) rfl) rfl
theorem w_124 : (.static ⟨"java/lang/StringUTF16", "checkIndex", "(I[B)V"⟩ : Cond) ∈ BW := bw_1 (List.mem_of_getElem? (i := 124) rfl) rfl
theorem w_125 : (.code ⟨"java/lang/StringUTF16", "checkIndex", "(I[B)V"⟩ prog_20_method_91_code 2 none : Cond) ∈ BW := bw_1 (List.mem_of_getElem? (i := 125) rfl) rfl
theorem w_126 : (.methodLink "java/lang/StringUTF16" 48 ⟨"java/lang/StringUTF16", "length", "([B)I"⟩ : Cond) ∈ BW := bw_1 (List.mem_of_getElem? (i := 126) rfl) rfl
theorem w_127 : (.static ⟨"java/lang/StringUTF16", "length", "([B)I"⟩ : Cond) ∈ BW := bw_1 (List.mem_of_getElem? (i := 127) rfl) rfl
theorem w_128 : (.code ⟨"java/lang/StringUTF16", "length", "([B)I"⟩ prog_20_method_6_code 1 (Option.some FieldType.int) : Cond) ∈ BW := bw_1 (List.mem_of_getElem? (i := 128) rfl) rfl
theorem w_129 : (.methodLink "java/lang/StringUTF16" 414 ⟨"java/lang/String", "checkIndex", "(II)V"⟩ : Cond) ∈ BW := bw_1 (List.mem_of_getElem? (i := 129) rfl) rfl
theorem w_130 : (.methodLink "java/lang/StringUTF16" 71 ⟨"java/lang/StringUTF16", "getChar", "([BI)C"⟩ : Cond) ∈ BW := bw_1 (List.mem_of_getElem? (i := 130) rfl) rfl
theorem w_131 : (.static ⟨"java/lang/StringUTF16", "getChar", "([BI)C"⟩ : Cond) ∈ BW := bw_1 (List.mem_of_getElem? (i := 131) rfl) rfl
theorem w_132 : (.code ⟨"java/lang/StringUTF16", "getChar", "([BI)C"⟩ prog_20_method_5_code 2 (Option.some FieldType.char) : Cond) ∈ BW := bw_1 (List.mem_of_getElem? (i := 132) rfl) rfl
theorem w_133 : (.fieldLink "java/lang/StringUTF16" 44 "java/lang/StringUTF16" "$assertionsDisabled" "Z" : Cond) ∈ BW := bw_1 (List.mem_of_getElem? (i := 133) rfl) rfl
theorem w_135 : (.fieldLink "java/lang/StringUTF16" 59 "java/lang/StringUTF16" "HI_BYTE_SHIFT" "I" : Cond) ∈ BW := bw_1 (List.mem_of_getElem? (i := 135) rfl) rfl
theorem w_137 : (.fieldLink "java/lang/StringUTF16" 63 "java/lang/StringUTF16" "LO_BYTE_SHIFT" "I" : Cond) ∈ BW := bw_1 (List.mem_of_getElem? (i := 137) rfl) rfl
theorem w_139 : (.methodLink "KateDesk$Field" 34 ⟨"KateDesk$Field", "minusInverseOf", "(J)J"⟩ : Cond) ∈ BW := bw_1 (List.mem_of_getElem? (i := 139) rfl) rfl
theorem w_140 : (.static ⟨"KateDesk$Field", "minusInverseOf", "(J)J"⟩ : Cond) ∈ BW := bw_1 (List.mem_of_getElem? (i := 140) rfl) rfl
theorem w_141 : (.code ⟨"KateDesk$Field", "minusInverseOf", "(J)J"⟩ prog_3_method_2_code 5 (Option.some FieldType.long) : Cond) ∈ BW := bw_1 (List.mem_of_getElem? (i := 141) rfl) rfl
theorem w_142 : (.constantLong "KateDesk$Field" 57 (2 : Int64) : Cond) ∈ BW := bw_1 (List.mem_of_getElem? (i := 142) rfl) rfl
theorem w_143 : (.constantLong "KateDesk$Field" 59 (268435455 : Int64) : Cond) ∈ BW := bw_1 (List.mem_of_getElem? (i := 143) rfl) rfl
theorem w_144 : (.methodLink "KateDesk$Field" 42 ⟨"KateDesk$Limbs", "copy", "([J[J)V"⟩ : Cond) ∈ BW := bw_1 (List.mem_of_getElem? (i := 144) rfl) rfl
theorem w_145 : (.static ⟨"KateDesk$Limbs", "copy", "([J[J)V"⟩ : Cond) ∈ BW := bw_1 (List.mem_of_getElem? (i := 145) rfl) rfl
theorem w_146 : (.code ⟨"KateDesk$Limbs", "copy", "([J[J)V"⟩ prog_5_method_5_code 2 none : Cond) ∈ BW := bw_1 (List.mem_of_getElem? (i := 146) rfl) rfl
theorem w_147 : (.methodLink "KateDesk$Limbs" 31 ⟨"java/lang/System", "arraycopy", "(Ljava/lang/Object;ILjava/lang/Object;II)V"⟩ : Cond) ∈ BW := bw_1 (List.mem_of_getElem? (i := 147) rfl) rfl
theorem w_148 : (.static ⟨"java/lang/System", "arraycopy", "(Ljava/lang/Object;ILjava/lang/Object;II)V"⟩ : Cond) ∈ BW := bw_1 (List.mem_of_getElem? (i := 148) rfl) rfl
theorem w_149 : (.native ⟨"java/lang/System", "arraycopy", "(Ljava/lang/Object;ILjava/lang/Object;II)V"⟩ : Cond) ∈ BW := bw_1 (List.mem_of_getElem? (i := 149) rfl) rfl
theorem w_150 : (.methodLink "KateDesk$Field" 46 ⟨"KateDesk$Field", "doubled", "([JI)V"⟩ : Cond) ∈ BW := bw_1 (List.mem_of_getElem? (i := 150) rfl) rfl
theorem w_152 : (.instanceMethod ⟨"KateDesk$Field", "doubled", "([JI)V"⟩ : Cond) ∈ BW := bw_1 (List.mem_of_getElem? (i := 152) rfl) rfl
theorem w_153 : (.code ⟨"KateDesk$Field", "doubled", "([JI)V"⟩ prog_3_method_3_code 4 none : Cond) ∈ BW := bw_1 (List.mem_of_getElem? (i := 153) rfl) rfl
theorem w_154 : (.methodLink "KateDesk$Field" 61 ⟨"KateDesk$Field", "add", "([J[J[J)V"⟩ : Cond) ∈ BW := bw_1 (List.mem_of_getElem? (i := 154) rfl) rfl
theorem w_155 : (.instanceMethod ⟨"KateDesk$Field", "add", "([J[J[J)V"⟩ : Cond) ∈ BW := bw_1 (List.mem_of_getElem? (i := 155) rfl) rfl
theorem w_156 : (.selects "KateDesk$Field" ⟨"KateDesk$Field", "add", "([J[J[J)V"⟩ ⟨"KateDesk$Field", "add", "([J[J[J)V"⟩ : Cond) ∈ BW := bw_1 (List.mem_of_getElem? (i := 156) rfl) rfl
theorem w_157 : (.code ⟨"KateDesk$Field", "add", "([J[J[J)V"⟩ prog_3_method_4_code 7 none : Cond) ∈ BW := bw_1 (List.mem_of_getElem? (i := 157) rfl) rfl
theorem w_158 : (.methodLink "KateDesk$Field" 64 ⟨"KateDesk$Field", "reduce", "([J)V"⟩ : Cond) ∈ BW := bw_1 (List.mem_of_getElem? (i := 158) rfl) rfl
theorem w_160 : (.instanceMethod ⟨"KateDesk$Field", "reduce", "([J)V"⟩ : Cond) ∈ BW := bw_1 (List.mem_of_getElem? (i := 160) rfl) rfl
theorem w_161 : (.code ⟨"KateDesk$Field", "reduce", "([J)V"⟩ prog_3_method_7_code 5 none : Cond) ∈ BW := bw_1 (List.mem_of_getElem? (i := 161) rfl) rfl
theorem w_162 : (.methodLink "KateDesk$Field" 50 ⟨"KateDesk$Field", "multiply", "([J[J[J)V"⟩ : Cond) ∈ BW := bw_1 (List.mem_of_getElem? (i := 162) rfl) rfl
theorem w_163 : (.instanceMethod ⟨"KateDesk$Field", "multiply", "([J[J[J)V"⟩ : Cond) ∈ BW := bw_1 (List.mem_of_getElem? (i := 163) rfl) rfl
theorem w_164 : (.selects "KateDesk$Field" ⟨"KateDesk$Field", "multiply", "([J[J[J)V"⟩ ⟨"KateDesk$Field", "multiply", "([J[J[J)V"⟩ : Cond) ∈ BW := bw_1 (List.mem_of_getElem? (i := 164) rfl) rfl
theorem w_165 : (.code ⟨"KateDesk$Field", "multiply", "([J[J[J)V"⟩ prog_3_method_8_code 92 none : Cond) ∈ BW := bw_1 (List.mem_of_getElem? (i := 165) rfl) rfl
theorem w_166 : (.methodLink "KateDesk$Field" 54 ⟨"KateDesk$Field", "subtract", "([J[J[J)V"⟩ : Cond) ∈ BW := bw_1 (List.mem_of_getElem? (i := 166) rfl) rfl
theorem w_167 : (.instanceMethod ⟨"KateDesk$Field", "subtract", "([J[J[J)V"⟩ : Cond) ∈ BW := bw_1 (List.mem_of_getElem? (i := 167) rfl) rfl
theorem w_168 : (.selects "KateDesk$Field" ⟨"KateDesk$Field", "subtract", "([J[J[J)V"⟩ ⟨"KateDesk$Field", "subtract", "([J[J[J)V"⟩ : Cond) ∈ BW := bw_1 (List.mem_of_getElem? (i := 168) rfl) rfl
theorem w_169 : (.code ⟨"KateDesk$Field", "subtract", "([J[J[J)V"⟩ prog_3_method_5_code 7 none : Cond) ∈ BW := bw_1 (List.mem_of_getElem? (i := 169) rfl) rfl
theorem w_170 : (.fieldLink "KateDesk$Field" 31 "KateDesk$Field" "modulus" "[J" : Cond) ∈ BW := bw_1 (List.mem_of_getElem? (i := 170) rfl) rfl
theorem w_171 : (.fieldLink "KateDesk$Forms" 32 "KateDesk$Field" "modulus" "[J" : Cond) ∈ BW := bw_1 (List.mem_of_getElem? (i := 171) rfl) rfl
theorem w_172 : (.fieldLink "KateDesk" 145 "KateDesk$Field" "modulus" "[J" : Cond) ∈ BW := bw_1 (List.mem_of_getElem? (i := 172) rfl) rfl
theorem w_173 : (.fieldLink "KateDesk$Field" 9 "KateDesk$Field" "one" "[J" : Cond) ∈ BW := bw_1 (List.mem_of_getElem? (i := 173) rfl) rfl
theorem w_174 : (.fieldLink "KateDesk$Forms" 87 "KateDesk$Field" "one" "[J" : Cond) ∈ BW := bw_1 (List.mem_of_getElem? (i := 174) rfl) rfl
theorem w_175 : (.fieldLink "KateDesk$Polynomials" 89 "KateDesk$Field" "one" "[J" : Cond) ∈ BW := bw_1 (List.mem_of_getElem? (i := 175) rfl) rfl
theorem w_176 : (.fieldLink "KateDesk$Curve" 85 "KateDesk$Field" "one" "[J" : Cond) ∈ BW := bw_1 (List.mem_of_getElem? (i := 176) rfl) rfl
theorem w_177 : (.fieldLink "KateDesk" 306 "KateDesk$Field" "one" "[J" : Cond) ∈ BW := bw_1 (List.mem_of_getElem? (i := 177) rfl) rfl
theorem w_178 : (.fieldLink "KateDesk$Field" 15 "KateDesk$Field" "plainOne" "[J" : Cond) ∈ BW := bw_1 (List.mem_of_getElem? (i := 178) rfl) rfl
theorem w_179 : (.fieldLink "KateDesk$Field" 18 "KateDesk$Field" "liftedLift" "[J" : Cond) ∈ BW := bw_1 (List.mem_of_getElem? (i := 179) rfl) rfl
theorem w_180 : (.fieldLink "KateDesk$Field" 21 "KateDesk$Field" "inverseExponent" "[J" : Cond) ∈ BW := bw_1 (List.mem_of_getElem? (i := 180) rfl) rfl
theorem w_181 : (.fieldLink "KateDesk$Field" 24 "KateDesk$Field" "base" "[J" : Cond) ∈ BW := bw_1 (List.mem_of_getElem? (i := 181) rfl) rfl
theorem w_182 : (.fieldLink "KateDesk$Field" 38 "KateDesk$Field" "minusInverse" "J" : Cond) ∈ BW := bw_1 (List.mem_of_getElem? (i := 182) rfl) rfl
theorem w_183 : (.laysFinal "KateDesk$Field" "KateDesk$Field" "modulus" "[J" : Cond) ∈ BW := bw_1 (List.mem_of_getElem? (i := 183) rfl) rfl
theorem w_184 : (.soleField "KateDesk$Field" "modulus" : Cond) ∈ BW := bw_1 (List.mem_of_getElem? (i := 184) rfl) rfl
theorem w_185 : (.laysFinal "KateDesk$Field" "KateDesk$Field" "one" "[J" : Cond) ∈ BW := bw_1 (List.mem_of_getElem? (i := 185) rfl) rfl
theorem w_186 : (.soleField "KateDesk$Field" "one" : Cond) ∈ BW := bw_1 (List.mem_of_getElem? (i := 186) rfl) rfl
theorem w_187 : (.laysFinal "KateDesk$Field" "KateDesk$Field" "plainOne" "[J" : Cond) ∈ BW := bw_1 (List.mem_of_getElem? (i := 187) rfl) rfl
theorem w_188 : (.soleField "KateDesk$Field" "plainOne" : Cond) ∈ BW := bw_1 (List.mem_of_getElem? (i := 188) rfl) rfl
theorem w_189 : (.laysFinal "KateDesk$Field" "KateDesk$Field" "liftedLift" "[J" : Cond) ∈ BW := bw_1 (List.mem_of_getElem? (i := 189) rfl) rfl
theorem w_190 : (.soleField "KateDesk$Field" "liftedLift" : Cond) ∈ BW := bw_1 (List.mem_of_getElem? (i := 190) rfl) rfl
theorem w_191 : (.laysFinal "KateDesk$Field" "KateDesk$Field" "inverseExponent" "[J" : Cond) ∈ BW := bw_1 (List.mem_of_getElem? (i := 191) rfl) rfl
theorem w_192 : (.soleField "KateDesk$Field" "inverseExponent" : Cond) ∈ BW := bw_1 (List.mem_of_getElem? (i := 192) rfl) rfl
theorem w_193 : (.laysFinal "KateDesk$Field" "KateDesk$Field" "base" "[J" : Cond) ∈ BW := bw_1 (List.mem_of_getElem? (i := 193) rfl) rfl
theorem w_194 : (.soleField "KateDesk$Field" "base" : Cond) ∈ BW := bw_1 (List.mem_of_getElem? (i := 194) rfl) rfl
theorem w_195 : (.laysFinal "KateDesk$Field" "KateDesk$Field" "minusInverse" "J" : Cond) ∈ BW := bw_1 (List.mem_of_getElem? (i := 195) rfl) rfl
theorem w_196 : (.soleField "KateDesk$Field" "minusInverse" : Cond) ∈ BW := bw_1 (List.mem_of_getElem? (i := 196) rfl) rfl
theorem w_197 : (.superclass "KateDesk$Field" "java/lang/Object" : Cond) ∈ BW := bw_1 (List.mem_of_getElem? (i := 197) rfl) rfl
theorem w_199 : (.classLink "KateDesk" 67 "KateDesk$Curve" : Cond) ∈ BW := bw_1 (List.mem_of_getElem? (i := 199) rfl) rfl
theorem w_200 : (.instantiable "KateDesk$Curve" 10 : Cond) ∈ BW := bw_1 (List.mem_of_getElem? (i := 200) rfl) rfl
theorem w_201 : (.methodLink "KateDesk" 69 ⟨"KateDesk$Curve", "<init>", "(LKateDesk$Field;)V"⟩ : Cond) ∈ BW := bw_1 (List.mem_of_getElem? (i := 201) rfl) rfl
theorem w_202 : (.instanceMethod ⟨"KateDesk$Curve", "<init>", "(LKateDesk$Field;)V"⟩ : Cond) ∈ BW := bw_1 (List.mem_of_getElem? (i := 202) rfl) rfl
theorem w_203 : (.code ⟨"KateDesk$Curve", "<init>", "(LKateDesk$Field;)V"⟩ prog_2_method_1_code 2 none : Cond) ∈ BW := bw_1 (List.mem_of_getElem? (i := 203) rfl) rfl
theorem w_204 : (.methodLink "KateDesk$Curve" 1 ⟨"java/lang/Object", "<init>", "()V"⟩ : Cond) ∈ BW := bw_1 (List.mem_of_getElem? (i := 204) rfl) rfl
theorem w_205 : (.fieldLink "KateDesk$Curve" 39 "KateDesk$Curve" "field" "LKateDesk$Field;" : Cond) ∈ BW := bw_1 (List.mem_of_getElem? (i := 205) rfl) rfl
theorem w_206 : (.fieldLink "KateDesk$Curve" 9 "KateDesk$Curve" "xx" "[J" : Cond) ∈ BW := bw_1 (List.mem_of_getElem? (i := 206) rfl) rfl
theorem w_207 : (.fieldLink "KateDesk$Curve" 15 "KateDesk$Curve" "yy" "[J" : Cond) ∈ BW := bw_1 (List.mem_of_getElem? (i := 207) rfl) rfl
theorem w_208 : (.fieldLink "KateDesk$Curve" 18 "KateDesk$Curve" "zz" "[J" : Cond) ∈ BW := bw_1 (List.mem_of_getElem? (i := 208) rfl) rfl
theorem w_209 : (.fieldLink "KateDesk$Curve" 21 "KateDesk$Curve" "xy" "[J" : Cond) ∈ BW := bw_1 (List.mem_of_getElem? (i := 209) rfl) rfl
theorem w_210 : (.fieldLink "KateDesk$Curve" 24 "KateDesk$Curve" "yz" "[J" : Cond) ∈ BW := bw_1 (List.mem_of_getElem? (i := 210) rfl) rfl
theorem w_211 : (.fieldLink "KateDesk$Curve" 27 "KateDesk$Curve" "xz" "[J" : Cond) ∈ BW := bw_1 (List.mem_of_getElem? (i := 211) rfl) rfl
theorem w_212 : (.fieldLink "KateDesk$Curve" 30 "KateDesk$Curve" "left" "[J" : Cond) ∈ BW := bw_1 (List.mem_of_getElem? (i := 212) rfl) rfl
theorem w_213 : (.fieldLink "KateDesk$Curve" 33 "KateDesk$Curve" "right" "[J" : Cond) ∈ BW := bw_1 (List.mem_of_getElem? (i := 213) rfl) rfl
theorem w_214 : (.fieldLink "KateDesk$Curve" 36 "KateDesk$Curve" "opposite" "[J" : Cond) ∈ BW := bw_1 (List.mem_of_getElem? (i := 214) rfl) rfl
theorem w_215 : (.laysFinal "KateDesk$Curve" "KateDesk$Curve" "field" "LKateDesk$Field;" : Cond) ∈ BW := bw_1 (List.mem_of_getElem? (i := 215) rfl) rfl
theorem w_216 : (.soleField "KateDesk$Curve" "field" : Cond) ∈ BW := bw_1 (List.mem_of_getElem? (i := 216) rfl) rfl
theorem w_217 : (.laysFinal "KateDesk$Curve" "KateDesk$Curve" "xx" "[J" : Cond) ∈ BW := bw_1 (List.mem_of_getElem? (i := 217) rfl) rfl
theorem w_218 : (.soleField "KateDesk$Curve" "xx" : Cond) ∈ BW := bw_1 (List.mem_of_getElem? (i := 218) rfl) rfl
theorem w_219 : (.laysFinal "KateDesk$Curve" "KateDesk$Curve" "yy" "[J" : Cond) ∈ BW := bw_1 (List.mem_of_getElem? (i := 219) rfl) rfl
theorem w_220 : (.soleField "KateDesk$Curve" "yy" : Cond) ∈ BW := bw_1 (List.mem_of_getElem? (i := 220) rfl) rfl
theorem w_221 : (.laysFinal "KateDesk$Curve" "KateDesk$Curve" "zz" "[J" : Cond) ∈ BW := bw_1 (List.mem_of_getElem? (i := 221) rfl) rfl
theorem w_222 : (.soleField "KateDesk$Curve" "zz" : Cond) ∈ BW := bw_1 (List.mem_of_getElem? (i := 222) rfl) rfl
theorem w_223 : (.laysFinal "KateDesk$Curve" "KateDesk$Curve" "xy" "[J" : Cond) ∈ BW := bw_1 (List.mem_of_getElem? (i := 223) rfl) rfl
theorem w_224 : (.soleField "KateDesk$Curve" "xy" : Cond) ∈ BW := bw_1 (List.mem_of_getElem? (i := 224) rfl) rfl
theorem w_225 : (.laysFinal "KateDesk$Curve" "KateDesk$Curve" "yz" "[J" : Cond) ∈ BW := bw_1 (List.mem_of_getElem? (i := 225) rfl) rfl
theorem w_226 : (.soleField "KateDesk$Curve" "yz" : Cond) ∈ BW := bw_1 (List.mem_of_getElem? (i := 226) rfl) rfl
theorem w_227 : (.laysFinal "KateDesk$Curve" "KateDesk$Curve" "xz" "[J" : Cond) ∈ BW := bw_1 (List.mem_of_getElem? (i := 227) rfl) rfl
theorem w_228 : (.soleField "KateDesk$Curve" "xz" : Cond) ∈ BW := bw_1 (List.mem_of_getElem? (i := 228) rfl) rfl
theorem w_229 : (.laysFinal "KateDesk$Curve" "KateDesk$Curve" "left" "[J" : Cond) ∈ BW := bw_1 (List.mem_of_getElem? (i := 229) rfl) rfl
theorem w_230 : (.soleField "KateDesk$Curve" "left" : Cond) ∈ BW := bw_1 (List.mem_of_getElem? (i := 230) rfl) rfl
theorem w_231 : (.laysFinal "KateDesk$Curve" "KateDesk$Curve" "right" "[J" : Cond) ∈ BW := bw_1 (List.mem_of_getElem? (i := 231) rfl) rfl
theorem w_232 : (.soleField "KateDesk$Curve" "right" : Cond) ∈ BW := bw_1 (List.mem_of_getElem? (i := 232) rfl) rfl
theorem w_233 : (.laysFinal "KateDesk$Curve" "KateDesk$Curve" "opposite" "[J" : Cond) ∈ BW := bw_1 (List.mem_of_getElem? (i := 233) rfl) rfl
theorem w_234 : (.soleField "KateDesk$Curve" "opposite" : Cond) ∈ BW := bw_1 (List.mem_of_getElem? (i := 234) rfl) rfl
theorem w_235 : (.superclass "KateDesk$Curve" "java/lang/Object" : Cond) ∈ BW := bw_1 (List.mem_of_getElem? (i := 235) rfl) rfl
theorem w_236 : (.classLink "KateDesk" 80 "KateDesk$Sums" : Cond) ∈ BW := bw_1 (List.mem_of_getElem? (i := 236) rfl) rfl
theorem w_237 : (.instantiable "KateDesk$Sums" 4 : Cond) ∈ BW := bw_1 (List.mem_of_getElem? (i := 237) rfl) rfl
theorem w_238 : (.methodLink "KateDesk" 82 ⟨"KateDesk$Sums", "<init>", "(LKateDesk$Curve;)V"⟩ : Cond) ∈ BW := bw_1 (List.mem_of_getElem? (i := 238) rfl) rfl
theorem w_239 : (.instanceMethod ⟨"KateDesk$Sums", "<init>", "(LKateDesk$Curve;)V"⟩ : Cond) ∈ BW := bw_1 (List.mem_of_getElem? (i := 239) rfl) rfl
theorem w_240 : (.code ⟨"KateDesk$Sums", "<init>", "(LKateDesk$Curve;)V"⟩ prog_9_method_1_code 2 none : Cond) ∈ BW := bw_2 (List.mem_of_getElem? (i := 0) rfl) rfl
theorem w_241 : (.methodLink "KateDesk$Sums" 1 ⟨"java/lang/Object", "<init>", "()V"⟩ : Cond) ∈ BW := bw_2 (List.mem_of_getElem? (i := 1) rfl) rfl
theorem w_243 : (.classLink "KateDesk$Sums" 19 "[[B" : Cond) ∈ BW := bw_2 (List.mem_of_getElem? (i := 3) rfl) rfl
theorem w_245 : (.classLink "KateDesk$Sums" 24 "KateDesk$Point" : Cond) ∈ BW := bw_2 (List.mem_of_getElem? (i := 5) rfl) rfl
theorem w_246 : (.methodLink "KateDesk$Sums" 26 ⟨"KateDesk$Point", "<init>", "()V"⟩ : Cond) ∈ BW := bw_2 (List.mem_of_getElem? (i := 6) rfl) rfl
theorem w_247 : (.fieldLink "KateDesk$Sums" 31 "KateDesk$Sums" "curve" "LKateDesk$Curve;" : Cond) ∈ BW := bw_2 (List.mem_of_getElem? (i := 7) rfl) rfl
theorem w_248 : (.fieldLink "KateDesk$Sums" 15 "KateDesk$Sums" "odds" "[LKateDesk$Point;" : Cond) ∈ BW := bw_2 (List.mem_of_getElem? (i := 8) rfl) rfl
theorem w_249 : (.fieldLink "KateDesk$Sums" 21 "KateDesk$Sums" "digits" "[[B" : Cond) ∈ BW := bw_2 (List.mem_of_getElem? (i := 9) rfl) rfl
theorem w_250 : (.fieldLink "KateDesk$Sums" 27 "KateDesk$Sums" "sum" "LKateDesk$Point;" : Cond) ∈ BW := bw_2 (List.mem_of_getElem? (i := 10) rfl) rfl
theorem w_251 : (.laysFinal "KateDesk$Sums" "KateDesk$Sums" "curve" "LKateDesk$Curve;" : Cond) ∈ BW := bw_2 (List.mem_of_getElem? (i := 11) rfl) rfl
theorem w_252 : (.soleField "KateDesk$Sums" "curve" : Cond) ∈ BW := bw_2 (List.mem_of_getElem? (i := 12) rfl) rfl
theorem w_253 : (.laysFinal "KateDesk$Sums" "KateDesk$Sums" "odds" "[LKateDesk$Point;" : Cond) ∈ BW := bw_2 (List.mem_of_getElem? (i := 13) rfl) rfl
theorem w_254 : (.soleField "KateDesk$Sums" "odds" : Cond) ∈ BW := bw_2 (List.mem_of_getElem? (i := 14) rfl) rfl
theorem w_255 : (.laysFinal "KateDesk$Sums" "KateDesk$Sums" "digits" "[[B" : Cond) ∈ BW := bw_2 (List.mem_of_getElem? (i := 15) rfl) rfl
theorem w_256 : (.soleField "KateDesk$Sums" "digits" : Cond) ∈ BW := bw_2 (List.mem_of_getElem? (i := 16) rfl) rfl
theorem w_257 : (.laysFinal "KateDesk$Sums" "KateDesk$Sums" "sum" "LKateDesk$Point;" : Cond) ∈ BW := bw_2 (List.mem_of_getElem? (i := 17) rfl) rfl
theorem w_258 : (.soleField "KateDesk$Sums" "sum" : Cond) ∈ BW := bw_2 (List.mem_of_getElem? (i := 18) rfl) rfl
theorem w_259 : (.superclass "KateDesk$Sums" "java/lang/Object" : Cond) ∈ BW := bw_2 (List.mem_of_getElem? (i := 19) rfl) rfl
theorem w_260 : (.classLink "KateDesk" 89 "KateDesk$Forms" : Cond) ∈ BW := bw_2 (List.mem_of_getElem? (i := 20) rfl) rfl
theorem w_261 : (.instantiable "KateDesk$Forms" 6 : Cond) ∈ BW := bw_2 (List.mem_of_getElem? (i := 21) rfl) rfl
theorem w_262 : (.methodLink "KateDesk" 91 ⟨"KateDesk$Forms", "<init>", "(LKateDesk$Field;LKateDesk$Curve;)V"⟩ : Cond) ∈ BW := bw_2 (List.mem_of_getElem? (i := 22) rfl) rfl
theorem w_263 : (.instanceMethod ⟨"KateDesk$Forms", "<init>", "(LKateDesk$Field;LKateDesk$Curve;)V"⟩ : Cond) ∈ BW := bw_2 (List.mem_of_getElem? (i := 23) rfl) rfl
theorem w_264 : (.code ⟨"KateDesk$Forms", "<init>", "(LKateDesk$Field;LKateDesk$Curve;)V"⟩ prog_4_method_1_code 3 none : Cond) ∈ BW := bw_2 (List.mem_of_getElem? (i := 24) rfl) rfl
theorem w_265 : (.methodLink "KateDesk$Forms" 1 ⟨"java/lang/Object", "<init>", "()V"⟩ : Cond) ∈ BW := bw_2 (List.mem_of_getElem? (i := 25) rfl) rfl
theorem w_266 : (.methodLink "KateDesk$Forms" 37 ⟨"KateDesk$Limbs", "shiftRight", "([J[JI)V"⟩ : Cond) ∈ BW := bw_2 (List.mem_of_getElem? (i := 26) rfl) rfl
theorem w_267 : (.static ⟨"KateDesk$Limbs", "shiftRight", "([J[JI)V"⟩ : Cond) ∈ BW := bw_2 (List.mem_of_getElem? (i := 27) rfl) rfl
theorem w_268 : (.code ⟨"KateDesk$Limbs", "shiftRight", "([J[JI)V"⟩ prog_5_method_11_code 4 none : Cond) ∈ BW := bw_2 (List.mem_of_getElem? (i := 28) rfl) rfl
theorem w_269 : (.methodLink "KateDesk$Limbs" 37 ⟨"KateDesk$Limbs", "bits", "([JII)J"⟩ : Cond) ∈ BW := bw_2 (List.mem_of_getElem? (i := 29) rfl) rfl
theorem w_270 : (.static ⟨"KateDesk$Limbs", "bits", "([JII)J"⟩ : Cond) ∈ BW := bw_2 (List.mem_of_getElem? (i := 30) rfl) rfl
theorem w_271 : (.code ⟨"KateDesk$Limbs", "bits", "([JII)J"⟩ prog_5_method_9_code 7 (Option.some FieldType.long) : Cond) ∈ BW := bw_2 (List.mem_of_getElem? (i := 31) rfl) rfl
theorem w_272 : (.fieldLink "KateDesk$Forms" 24 "KateDesk$Forms" "field" "LKateDesk$Field;" : Cond) ∈ BW := bw_2 (List.mem_of_getElem? (i := 32) rfl) rfl
theorem w_273 : (.fieldLink "KateDesk$Forms" 28 "KateDesk$Forms" "curve" "LKateDesk$Curve;" : Cond) ∈ BW := bw_2 (List.mem_of_getElem? (i := 33) rfl) rfl
theorem w_274 : (.fieldLink "KateDesk$Forms" 9 "KateDesk$Forms" "rootExponent" "[J" : Cond) ∈ BW := bw_2 (List.mem_of_getElem? (i := 34) rfl) rfl
theorem w_275 : (.fieldLink "KateDesk$Forms" 15 "KateDesk$Forms" "square" "[J" : Cond) ∈ BW := bw_2 (List.mem_of_getElem? (i := 35) rfl) rfl
theorem w_276 : (.fieldLink "KateDesk$Forms" 18 "KateDesk$Forms" "found" "[J" : Cond) ∈ BW := bw_2 (List.mem_of_getElem? (i := 36) rfl) rfl
theorem w_277 : (.fieldLink "KateDesk$Forms" 21 "KateDesk$Forms" "plain" "[J" : Cond) ∈ BW := bw_2 (List.mem_of_getElem? (i := 37) rfl) rfl
theorem w_278 : (.laysFinal "KateDesk$Forms" "KateDesk$Forms" "field" "LKateDesk$Field;" : Cond) ∈ BW := bw_2 (List.mem_of_getElem? (i := 38) rfl) rfl
theorem w_279 : (.soleField "KateDesk$Forms" "field" : Cond) ∈ BW := bw_2 (List.mem_of_getElem? (i := 39) rfl) rfl
theorem w_280 : (.laysFinal "KateDesk$Forms" "KateDesk$Forms" "curve" "LKateDesk$Curve;" : Cond) ∈ BW := bw_2 (List.mem_of_getElem? (i := 40) rfl) rfl
theorem w_281 : (.soleField "KateDesk$Forms" "curve" : Cond) ∈ BW := bw_2 (List.mem_of_getElem? (i := 41) rfl) rfl
theorem w_282 : (.laysFinal "KateDesk$Forms" "KateDesk$Forms" "rootExponent" "[J" : Cond) ∈ BW := bw_2 (List.mem_of_getElem? (i := 42) rfl) rfl
theorem w_283 : (.soleField "KateDesk$Forms" "rootExponent" : Cond) ∈ BW := bw_2 (List.mem_of_getElem? (i := 43) rfl) rfl
theorem w_284 : (.laysFinal "KateDesk$Forms" "KateDesk$Forms" "square" "[J" : Cond) ∈ BW := bw_2 (List.mem_of_getElem? (i := 44) rfl) rfl
theorem w_285 : (.soleField "KateDesk$Forms" "square" : Cond) ∈ BW := bw_2 (List.mem_of_getElem? (i := 45) rfl) rfl
theorem w_286 : (.laysFinal "KateDesk$Forms" "KateDesk$Forms" "found" "[J" : Cond) ∈ BW := bw_2 (List.mem_of_getElem? (i := 46) rfl) rfl
theorem w_287 : (.soleField "KateDesk$Forms" "found" : Cond) ∈ BW := bw_2 (List.mem_of_getElem? (i := 47) rfl) rfl
theorem w_288 : (.laysFinal "KateDesk$Forms" "KateDesk$Forms" "plain" "[J" : Cond) ∈ BW := bw_2 (List.mem_of_getElem? (i := 48) rfl) rfl
theorem w_289 : (.soleField "KateDesk$Forms" "plain" : Cond) ∈ BW := bw_2 (List.mem_of_getElem? (i := 49) rfl) rfl
theorem w_290 : (.superclass "KateDesk$Forms" "java/lang/Object" : Cond) ∈ BW := bw_2 (List.mem_of_getElem? (i := 50) rfl) rfl
theorem w_291 : (.classLink "KateDesk" 98 "KateDesk$Polynomials" : Cond) ∈ BW := bw_2 (List.mem_of_getElem? (i := 51) rfl) rfl
theorem w_292 : (.instantiable "KateDesk$Polynomials" 9 : Cond) ∈ BW := bw_2 (List.mem_of_getElem? (i := 52) rfl) rfl
theorem w_293 : (.methodLink "KateDesk" 100 ⟨"KateDesk$Polynomials", "<init>", "(LKateDesk$Field;)V"⟩ : Cond) ∈ BW := bw_2 (List.mem_of_getElem? (i := 53) rfl) rfl
theorem w_294 : (.instanceMethod ⟨"KateDesk$Polynomials", "<init>", "(LKateDesk$Field;)V"⟩ : Cond) ∈ BW := bw_2 (List.mem_of_getElem? (i := 54) rfl) rfl
theorem w_295 : (.code ⟨"KateDesk$Polynomials", "<init>", "(LKateDesk$Field;)V"⟩ prog_7_method_1_code 2 none : Cond) ∈ BW := bw_2 (List.mem_of_getElem? (i := 55) rfl) rfl
theorem w_296 : (.methodLink "KateDesk$Polynomials" 1 ⟨"java/lang/Object", "<init>", "()V"⟩ : Cond) ∈ BW := bw_2 (List.mem_of_getElem? (i := 56) rfl) rfl
theorem w_297 : (.classLink "KateDesk$Polynomials" 33 "[[J" : Cond) ∈ BW := bw_2 (List.mem_of_getElem? (i := 57) rfl) rfl
theorem w_298 : (.constantLong "KateDesk$Polynomials" 42 (7 : Int64) : Cond) ∈ BW := bw_2 (List.mem_of_getElem? (i := 58) rfl) rfl
theorem w_299 : (.methodLink "KateDesk$Polynomials" 44 ⟨"KateDesk$Field", "lift", "([J[J)V"⟩ : Cond) ∈ BW := bw_2 (List.mem_of_getElem? (i := 59) rfl) rfl
theorem w_300 : (.instanceMethod ⟨"KateDesk$Field", "lift", "([J[J)V"⟩ : Cond) ∈ BW := bw_2 (List.mem_of_getElem? (i := 60) rfl) rfl
theorem w_301 : (.selects "KateDesk$Field" ⟨"KateDesk$Field", "lift", "([J[J)V"⟩ ⟨"KateDesk$Field", "lift", "([J[J)V"⟩ : Cond) ∈ BW := bw_2 (List.mem_of_getElem? (i := 61) rfl) rfl
theorem w_302 : (.code ⟨"KateDesk$Field", "lift", "([J[J)V"⟩ prog_3_method_9_code 3 none : Cond) ∈ BW := bw_2 (List.mem_of_getElem? (i := 62) rfl) rfl
theorem w_303 : (.fieldLink "KateDesk$Polynomials" 38 "KateDesk$Polynomials" "field" "LKateDesk$Field;" : Cond) ∈ BW := bw_2 (List.mem_of_getElem? (i := 63) rfl) rfl
theorem w_304 : (.fieldLink "KateDesk$Polynomials" 9 "KateDesk$Polynomials" "seven" "[J" : Cond) ∈ BW := bw_2 (List.mem_of_getElem? (i := 64) rfl) rfl
theorem w_305 : (.fieldLink "KateDesk$Polynomials" 15 "KateDesk$Polynomials" "plainOne" "[J" : Cond) ∈ BW := bw_2 (List.mem_of_getElem? (i := 65) rfl) rfl
theorem w_306 : (.fieldLink "KateDesk$Polynomials" 18 "KateDesk$Polynomials" "exponent" "[J" : Cond) ∈ BW := bw_2 (List.mem_of_getElem? (i := 66) rfl) rfl
theorem w_307 : (.fieldLink "KateDesk$Polynomials" 21 "KateDesk$Polynomials" "root" "[J" : Cond) ∈ BW := bw_2 (List.mem_of_getElem? (i := 67) rfl) rfl
theorem w_308 : (.fieldLink "KateDesk$Polynomials" 24 "KateDesk$Polynomials" "place" "[J" : Cond) ∈ BW := bw_2 (List.mem_of_getElem? (i := 68) rfl) rfl
theorem w_309 : (.fieldLink "KateDesk$Polynomials" 27 "KateDesk$Polynomials" "share" "[J" : Cond) ∈ BW := bw_2 (List.mem_of_getElem? (i := 69) rfl) rfl
theorem w_310 : (.fieldLink "KateDesk$Polynomials" 30 "KateDesk$Polynomials" "next" "[J" : Cond) ∈ BW := bw_2 (List.mem_of_getElem? (i := 70) rfl) rfl
theorem w_311 : (.fieldLink "KateDesk$Polynomials" 35 "KateDesk$Polynomials" "values" "[[J" : Cond) ∈ BW := bw_2 (List.mem_of_getElem? (i := 71) rfl) rfl
theorem w_312 : (.laysFinal "KateDesk$Polynomials" "KateDesk$Polynomials" "field" "LKateDesk$Field;" : Cond) ∈ BW := bw_2 (List.mem_of_getElem? (i := 72) rfl) rfl
theorem w_313 : (.soleField "KateDesk$Polynomials" "field" : Cond) ∈ BW := bw_2 (List.mem_of_getElem? (i := 73) rfl) rfl
theorem w_314 : (.laysFinal "KateDesk$Polynomials" "KateDesk$Polynomials" "seven" "[J" : Cond) ∈ BW := bw_2 (List.mem_of_getElem? (i := 74) rfl) rfl
theorem w_315 : (.soleField "KateDesk$Polynomials" "seven" : Cond) ∈ BW := bw_2 (List.mem_of_getElem? (i := 75) rfl) rfl
theorem w_316 : (.laysFinal "KateDesk$Polynomials" "KateDesk$Polynomials" "plainOne" "[J" : Cond) ∈ BW := bw_2 (List.mem_of_getElem? (i := 76) rfl) rfl
theorem w_317 : (.soleField "KateDesk$Polynomials" "plainOne" : Cond) ∈ BW := bw_2 (List.mem_of_getElem? (i := 77) rfl) rfl
theorem w_318 : (.laysFinal "KateDesk$Polynomials" "KateDesk$Polynomials" "exponent" "[J" : Cond) ∈ BW := bw_2 (List.mem_of_getElem? (i := 78) rfl) rfl
theorem w_319 : (.soleField "KateDesk$Polynomials" "exponent" : Cond) ∈ BW := bw_2 (List.mem_of_getElem? (i := 79) rfl) rfl
theorem w_320 : (.laysFinal "KateDesk$Polynomials" "KateDesk$Polynomials" "root" "[J" : Cond) ∈ BW := bw_2 (List.mem_of_getElem? (i := 80) rfl) rfl
theorem w_321 : (.soleField "KateDesk$Polynomials" "root" : Cond) ∈ BW := bw_2 (List.mem_of_getElem? (i := 81) rfl) rfl
theorem w_322 : (.laysFinal "KateDesk$Polynomials" "KateDesk$Polynomials" "place" "[J" : Cond) ∈ BW := bw_2 (List.mem_of_getElem? (i := 82) rfl) rfl
theorem w_323 : (.soleField "KateDesk$Polynomials" "place" : Cond) ∈ BW := bw_2 (List.mem_of_getElem? (i := 83) rfl) rfl
theorem w_324 : (.laysFinal "KateDesk$Polynomials" "KateDesk$Polynomials" "share" "[J" : Cond) ∈ BW := bw_2 (List.mem_of_getElem? (i := 84) rfl) rfl
theorem w_325 : (.soleField "KateDesk$Polynomials" "share" : Cond) ∈ BW := bw_2 (List.mem_of_getElem? (i := 85) rfl) rfl
theorem w_326 : (.laysFinal "KateDesk$Polynomials" "KateDesk$Polynomials" "next" "[J" : Cond) ∈ BW := bw_2 (List.mem_of_getElem? (i := 86) rfl) rfl
theorem w_327 : (.soleField "KateDesk$Polynomials" "next" : Cond) ∈ BW := bw_2 (List.mem_of_getElem? (i := 87) rfl) rfl
theorem w_328 : (.laysFinal "KateDesk$Polynomials" "KateDesk$Polynomials" "values" "[[J" : Cond) ∈ BW := bw_2 (List.mem_of_getElem? (i := 88) rfl) rfl
theorem w_329 : (.soleField "KateDesk$Polynomials" "values" : Cond) ∈ BW := bw_2 (List.mem_of_getElem? (i := 89) rfl) rfl
theorem w_330 : (.superclass "KateDesk$Polynomials" "java/lang/Object" : Cond) ∈ BW := bw_2 (List.mem_of_getElem? (i := 90) rfl) rfl
theorem w_331 : (.methodLink "KateDesk" 105 ⟨"KateDesk", "newGenerator", "(LKateDesk$Field;)LKateDesk$Point;"⟩ : Cond) ∈ BW := bw_2 (List.mem_of_getElem? (i := 91) rfl) rfl
theorem w_332 : (.static ⟨"KateDesk", "newGenerator", "(LKateDesk$Field;)LKateDesk$Point;"⟩ : Cond) ∈ BW := bw_2 (List.mem_of_getElem? (i := 92) rfl) rfl
theorem w_333 : (.code ⟨"KateDesk", "newGenerator", "(LKateDesk$Field;)LKateDesk$Point;"⟩ prog_1_method_28_code 2 (Option.some (FieldType.object "KateDesk$Point")) : Cond) ∈ BW := bw_2 (List.mem_of_getElem? (i := 93) rfl) rfl
theorem w_335 : (.methodLink "KateDesk" 294 ⟨"KateDesk$Limbs", "fromHex", "(Ljava/lang/String;)[J"⟩ : Cond) ∈ BW := bw_2 (List.mem_of_getElem? (i := 95) rfl) rfl
theorem w_336 : (.methodLink "KateDesk" 187 ⟨"KateDesk$Field", "lift", "([J[J)V"⟩ : Cond) ∈ BW := bw_2 (List.mem_of_getElem? (i := 96) rfl) rfl
theorem w_338 : (.methodLink "KateDesk" 152 ⟨"KateDesk$Limbs", "copy", "([J[J)V"⟩ : Cond) ∈ BW := bw_2 (List.mem_of_getElem? (i := 98) rfl) rfl
theorem w_339 : (.fieldLink "KateDesk" 72 "KateDesk" "scalarField" "LKateDesk$Field;" : Cond) ∈ BW := bw_2 (List.mem_of_getElem? (i := 99) rfl) rfl
theorem w_340 : (.fieldLink "KateDesk" 76 "KateDesk" "curve" "LKateDesk$Curve;" : Cond) ∈ BW := bw_2 (List.mem_of_getElem? (i := 100) rfl) rfl
theorem w_341 : (.fieldLink "KateDesk" 85 "KateDesk" "sums" "LKateDesk$Sums;" : Cond) ∈ BW := bw_2 (List.mem_of_getElem? (i := 101) rfl) rfl
theorem w_342 : (.fieldLink "KateDesk" 94 "KateDesk" "forms" "LKateDesk$Forms;" : Cond) ∈ BW := bw_2 (List.mem_of_getElem? (i := 102) rfl) rfl
theorem w_343 : (.fieldLink "KateDesk" 101 "KateDesk" "polynomials" "LKateDesk$Polynomials;" : Cond) ∈ BW := bw_2 (List.mem_of_getElem? (i := 103) rfl) rfl
theorem w_344 : (.fieldLink "KateDesk" 13 "KateDesk" "scalars" "[[J" : Cond) ∈ BW := bw_2 (List.mem_of_getElem? (i := 104) rfl) rfl
theorem w_345 : (.fieldLink "KateDesk" 20 "KateDesk" "points" "[LKateDesk$Point;" : Cond) ∈ BW := bw_2 (List.mem_of_getElem? (i := 105) rfl) rfl
theorem w_346 : (.fieldLink "KateDesk" 24 "KateDesk" "powers" "[LKateDesk$Point;" : Cond) ∈ BW := bw_2 (List.mem_of_getElem? (i := 106) rfl) rfl
theorem w_347 : (.fieldLink "KateDesk" 27 "KateDesk" "powerCount" "I" : Cond) ∈ BW := bw_2 (List.mem_of_getElem? (i := 107) rfl) rfl
theorem w_348 : (.fieldLink "KateDesk" 34 "KateDesk" "tape" "LKateDesk$Row;" : Cond) ∈ BW := bw_2 (List.mem_of_getElem? (i := 108) rfl) rfl
theorem w_349 : (.fieldLink "KateDesk" 38 "KateDesk" "written" "LKateDesk$Row;" : Cond) ∈ BW := bw_2 (List.mem_of_getElem? (i := 109) rfl) rfl
theorem w_350 : (.fieldLink "KateDesk" 109 "KateDesk" "generator" "LKateDesk$Point;" : Cond) ∈ BW := bw_2 (List.mem_of_getElem? (i := 110) rfl) rfl
theorem w_351 : (.fieldLink "KateDesk" 44 "KateDesk" "handPoint" "LKateDesk$Point;" : Cond) ∈ BW := bw_2 (List.mem_of_getElem? (i := 111) rfl) rfl
theorem w_352 : (.fieldLink "KateDesk" 48 "KateDesk" "multiple" "LKateDesk$Point;" : Cond) ∈ BW := bw_2 (List.mem_of_getElem? (i := 112) rfl) rfl
theorem w_353 : (.fieldLink "KateDesk" 51 "KateDesk" "handScalar" "[J" : Cond) ∈ BW := bw_2 (List.mem_of_getElem? (i := 113) rfl) rfl
theorem w_354 : (.fieldLink "KateDesk" 55 "KateDesk" "factor" "[J" : Cond) ∈ BW := bw_2 (List.mem_of_getElem? (i := 114) rfl) rfl
theorem w_355 : (.laysFinal "KateDesk" "KateDesk" "scalarField" "LKateDesk$Field;" : Cond) ∈ BW := bw_2 (List.mem_of_getElem? (i := 115) rfl) rfl
theorem w_356 : (.soleField "KateDesk" "scalarField" : Cond) ∈ BW := bw_2 (List.mem_of_getElem? (i := 116) rfl) rfl
theorem w_357 : (.laysFinal "KateDesk" "KateDesk" "curve" "LKateDesk$Curve;" : Cond) ∈ BW := bw_2 (List.mem_of_getElem? (i := 117) rfl) rfl
theorem w_358 : (.soleField "KateDesk" "curve" : Cond) ∈ BW := bw_2 (List.mem_of_getElem? (i := 118) rfl) rfl
theorem w_359 : (.laysFinal "KateDesk" "KateDesk" "sums" "LKateDesk$Sums;" : Cond) ∈ BW := bw_2 (List.mem_of_getElem? (i := 119) rfl) rfl
theorem w_360 : (.soleField "KateDesk" "sums" : Cond) ∈ BW := bw_2 (List.mem_of_getElem? (i := 120) rfl) rfl
theorem w_361 : (.laysFinal "KateDesk" "KateDesk" "forms" "LKateDesk$Forms;" : Cond) ∈ BW := bw_2 (List.mem_of_getElem? (i := 121) rfl) rfl
theorem w_362 : (.soleField "KateDesk" "forms" : Cond) ∈ BW := bw_2 (List.mem_of_getElem? (i := 122) rfl) rfl
theorem w_363 : (.laysFinal "KateDesk" "KateDesk" "polynomials" "LKateDesk$Polynomials;" : Cond) ∈ BW := bw_2 (List.mem_of_getElem? (i := 123) rfl) rfl
theorem w_364 : (.soleField "KateDesk" "polynomials" : Cond) ∈ BW := bw_2 (List.mem_of_getElem? (i := 124) rfl) rfl
theorem w_365 : (.laysFinal "KateDesk" "KateDesk" "scalars" "[[J" : Cond) ∈ BW := bw_2 (List.mem_of_getElem? (i := 125) rfl) rfl
theorem w_366 : (.soleField "KateDesk" "scalars" : Cond) ∈ BW := bw_2 (List.mem_of_getElem? (i := 126) rfl) rfl
theorem w_367 : (.laysFinal "KateDesk" "KateDesk" "points" "[LKateDesk$Point;" : Cond) ∈ BW := bw_2 (List.mem_of_getElem? (i := 127) rfl) rfl
theorem w_368 : (.soleField "KateDesk" "points" : Cond) ∈ BW := bw_2 (List.mem_of_getElem? (i := 128) rfl) rfl
theorem w_369 : (.laysFinal "KateDesk" "KateDesk" "powers" "[LKateDesk$Point;" : Cond) ∈ BW := bw_2 (List.mem_of_getElem? (i := 129) rfl) rfl
theorem w_370 : (.soleField "KateDesk" "powers" : Cond) ∈ BW := bw_2 (List.mem_of_getElem? (i := 130) rfl) rfl
theorem w_371 : (.lays "KateDesk" "KateDesk" "powerCount" "I" : Cond) ∈ BW := bw_2 (List.mem_of_getElem? (i := 131) rfl) rfl
theorem w_372 : (.soleField "KateDesk" "powerCount" : Cond) ∈ BW := bw_2 (List.mem_of_getElem? (i := 132) rfl) rfl
theorem w_373 : (.laysFinal "KateDesk" "KateDesk" "tape" "LKateDesk$Row;" : Cond) ∈ BW := bw_2 (List.mem_of_getElem? (i := 133) rfl) rfl
theorem w_374 : (.soleField "KateDesk" "tape" : Cond) ∈ BW := bw_2 (List.mem_of_getElem? (i := 134) rfl) rfl
theorem w_375 : (.laysFinal "KateDesk" "KateDesk" "written" "LKateDesk$Row;" : Cond) ∈ BW := bw_2 (List.mem_of_getElem? (i := 135) rfl) rfl
theorem w_376 : (.soleField "KateDesk" "written" : Cond) ∈ BW := bw_2 (List.mem_of_getElem? (i := 136) rfl) rfl
theorem w_377 : (.laysFinal "KateDesk" "KateDesk" "generator" "LKateDesk$Point;" : Cond) ∈ BW := bw_2 (List.mem_of_getElem? (i := 137) rfl) rfl
theorem w_378 : (.soleField "KateDesk" "generator" : Cond) ∈ BW := bw_2 (List.mem_of_getElem? (i := 138) rfl) rfl
theorem w_379 : (.laysFinal "KateDesk" "KateDesk" "handPoint" "LKateDesk$Point;" : Cond) ∈ BW := bw_2 (List.mem_of_getElem? (i := 139) rfl) rfl
theorem w_380 : (.soleField "KateDesk" "handPoint" : Cond) ∈ BW := bw_2 (List.mem_of_getElem? (i := 140) rfl) rfl
theorem w_381 : (.laysFinal "KateDesk" "KateDesk" "multiple" "LKateDesk$Point;" : Cond) ∈ BW := bw_2 (List.mem_of_getElem? (i := 141) rfl) rfl
theorem w_382 : (.soleField "KateDesk" "multiple" : Cond) ∈ BW := bw_2 (List.mem_of_getElem? (i := 142) rfl) rfl
theorem w_383 : (.laysFinal "KateDesk" "KateDesk" "handScalar" "[J" : Cond) ∈ BW := bw_2 (List.mem_of_getElem? (i := 143) rfl) rfl
theorem w_384 : (.soleField "KateDesk" "handScalar" : Cond) ∈ BW := bw_2 (List.mem_of_getElem? (i := 144) rfl) rfl
theorem w_385 : (.laysFinal "KateDesk" "KateDesk" "factor" "[J" : Cond) ∈ BW := bw_2 (List.mem_of_getElem? (i := 145) rfl) rfl
theorem w_386 : (.soleField "KateDesk" "factor" : Cond) ∈ BW := bw_2 (List.mem_of_getElem? (i := 146) rfl) rfl
theorem w_387 : (.superclass "KateDesk" "java/lang/Object" : Cond) ∈ BW := bw_2 (List.mem_of_getElem? (i := 147) rfl) rfl
theorem w_388 : (.methodLink "KateDeskLaw" 100 ⟨"KateDeskLaw", "feed", "(LKateDesk;IJ[J)I"⟩ : Cond) ∈ BW := bw_2 (List.mem_of_getElem? (i := 148) rfl) rfl
theorem w_389 : (.static ⟨"KateDeskLaw", "feed", "(LKateDesk;IJ[J)I"⟩ : Cond) ∈ BW := bw_2 (List.mem_of_getElem? (i := 149) rfl) rfl
theorem w_390 : (.codeWith ⟨"KateDeskLaw", "feed", "(LKateDesk;IJ[J)I"⟩ method_3_code 6 (Option.some FieldType.int) [(0, 11, 14, 13), (0, 11, 18, 15)] : Cond) ∈ BW := bw_2 (List.mem_of_getElem? (i := 150) rfl) rfl
theorem w_391 : (.classLink "KateDeskLaw" 13 "java/lang/IllegalArgumentException" : Cond) ∈ BW := bw_2 (List.mem_of_getElem? (i := 151) rfl) rfl
theorem w_392 : (.classLink "KateDeskLaw" 15 "java/lang/IllegalStateException" : Cond) ∈ BW := bw_2 (List.mem_of_getElem? (i := 152) rfl) rfl
theorem w_393 : (.methodLink "KateDeskLaw" 7 ⟨"KateDesk", "feed", "(IJ)I"⟩ : Cond) ∈ BW := bw_2 (List.mem_of_getElem? (i := 153) rfl) rfl
theorem w_394 : (.instanceMethod ⟨"KateDesk", "feed", "(IJ)I"⟩ : Cond) ∈ BW := bw_2 (List.mem_of_getElem? (i := 154) rfl) rfl
theorem w_395 : (.selects "KateDesk" ⟨"KateDesk", "feed", "(IJ)I"⟩ ⟨"KateDesk", "feed", "(IJ)I"⟩ : Cond) ∈ BW := bw_2 (List.mem_of_getElem? (i := 155) rfl) rfl
theorem w_396 : (.code ⟨"KateDesk", "feed", "(IJ)I"⟩ prog_1_method_2_code 5 (Option.some FieldType.int) : Cond) ∈ BW := bw_2 (List.mem_of_getElem? (i := 156) rfl) rfl
theorem w_397 : (.classLink "KateDesk" 112 "java/lang/IllegalArgumentException" : Cond) ∈ BW := bw_2 (List.mem_of_getElem? (i := 157) rfl) rfl
theorem w_398 : (.instantiable "java/lang/IllegalArgumentException" 6 : Cond) ∈ BW := bw_2 (List.mem_of_getElem? (i := 158) rfl) rfl
theorem w_406 : (.selects "java/lang/IllegalArgumentException" ⟨"java/lang/Throwable", "fillInStackTrace", "(I)Ljava/lang/Throwable;"⟩ ⟨"java/lang/Throwable", "fillInStackTrace", "(I)Ljava/lang/Throwable;"⟩ : Cond) ∈ BW := bw_2 (List.mem_of_getElem? (i := 166) rfl) rfl
theorem w_407 : (.selects "java/lang/IllegalArgumentException" ⟨"java/lang/Throwable", "fillInStackTrace", "()Ljava/lang/Throwable;"⟩ ⟨"java/lang/Throwable", "fillInStackTrace", "()Ljava/lang/Throwable;"⟩ : Cond) ∈ BW := bw_2 (List.mem_of_getElem? (i := 167) rfl) rfl
theorem w_408 : (.lays "java/lang/IllegalArgumentException" "java/lang/Throwable" "cause" "Ljava/lang/Throwable;" : Cond) ∈ BW := bw_2 (List.mem_of_getElem? (i := 168) rfl) rfl
theorem w_409 : (.lays "java/lang/Throwable" "java/lang/Throwable" "cause" "Ljava/lang/Throwable;" : Cond) ∈ BW := bw_2 (List.mem_of_getElem? (i := 169) rfl) rfl
theorem w_410 : (.lays "java/lang/IllegalArgumentException" "java/lang/Throwable" "stackTrace" "[Ljava/lang/StackTraceElement;" : Cond) ∈ BW := bw_2 (List.mem_of_getElem? (i := 170) rfl) rfl
theorem w_411 : (.lays "java/lang/Throwable" "java/lang/Throwable" "stackTrace" "[Ljava/lang/StackTraceElement;" : Cond) ∈ BW := bw_2 (List.mem_of_getElem? (i := 171) rfl) rfl
theorem w_412 : (.lays "java/lang/IllegalArgumentException" "java/lang/Throwable" "suppressedExceptions" "Ljava/util/List;" : Cond) ∈ BW := bw_2 (List.mem_of_getElem? (i := 172) rfl) rfl
theorem w_413 : (.lays "java/lang/Throwable" "java/lang/Throwable" "suppressedExceptions" "Ljava/util/List;" : Cond) ∈ BW := bw_2 (List.mem_of_getElem? (i := 173) rfl) rfl
theorem w_414 : (.lays "java/lang/IllegalArgumentException" "java/lang/Throwable" "detailMessage" "Ljava/lang/String;" : Cond) ∈ BW := bw_2 (List.mem_of_getElem? (i := 174) rfl) rfl
theorem w_415 : (.lays "java/lang/Throwable" "java/lang/Throwable" "detailMessage" "Ljava/lang/String;" : Cond) ∈ BW := bw_2 (List.mem_of_getElem? (i := 175) rfl) rfl
theorem w_416 : (.lays "java/lang/IllegalArgumentException" "java/lang/Throwable" "backtrace" "Ljava/lang/Object;" : Cond) ∈ BW := bw_2 (List.mem_of_getElem? (i := 176) rfl) rfl
theorem w_417 : (.lays "java/lang/Throwable" "java/lang/Throwable" "backtrace" "Ljava/lang/Object;" : Cond) ∈ BW := bw_2 (List.mem_of_getElem? (i := 177) rfl) rfl
theorem w_418 : (.fieldLink "java/lang/Throwable" 198 "java/lang/Throwable" "backtrace" "Ljava/lang/Object;" : Cond) ∈ BW := bw_2 (List.mem_of_getElem? (i := 178) rfl) rfl
theorem w_419 : (.superclass "java/lang/Throwable" "java/lang/Object" : Cond) ∈ BW := bw_2 (List.mem_of_getElem? (i := 179) rfl) rfl
theorem w_420 : (.instanceMethod ⟨"java/lang/Throwable", "<init>", "()V"⟩ : Cond) ∈ BW := bw_2 (List.mem_of_getElem? (i := 180) rfl) rfl
theorem w_421 : (.code ⟨"java/lang/Throwable", "<init>", "()V"⟩ prog_22_method_1_code 1 none : Cond) ∈ BW := bw_2 (List.mem_of_getElem? (i := 181) rfl) rfl
theorem w_422 : (.methodLink "java/lang/Throwable" 1 ⟨"java/lang/Object", "<init>", "()V"⟩ : Cond) ∈ BW := bw_2 (List.mem_of_getElem? (i := 182) rfl) rfl
theorem w_423 : (.fieldLink "java/lang/Throwable" 13 "java/lang/Throwable" "UNASSIGNED_STACK" "[Ljava/lang/StackTraceElement;" : Cond) ∈ BW := bw_2 (List.mem_of_getElem? (i := 183) rfl) rfl
theorem w_425 : (.fieldLink "java/lang/Throwable" 20 "java/lang/Throwable" "SUPPRESSED_SENTINEL" "Ljava/util/List;" : Cond) ∈ BW := bw_2 (List.mem_of_getElem? (i := 185) rfl) rfl
theorem w_427 : (.methodLink "java/lang/Throwable" 27 ⟨"java/lang/Throwable", "fillInStackTrace", "()Ljava/lang/Throwable;"⟩ : Cond) ∈ BW := bw_2 (List.mem_of_getElem? (i := 187) rfl) rfl
theorem w_428 : (.instanceMethod ⟨"java/lang/Throwable", "fillInStackTrace", "()Ljava/lang/Throwable;"⟩ : Cond) ∈ BW := bw_2 (List.mem_of_getElem? (i := 188) rfl) rfl
theorem w_429 : (.sameMethod "java/lang/Throwable" "java/lang/Throwable" "fillInStackTrace" "()Ljava/lang/Throwable;" : Cond) ∈ BW := bw_2 (List.mem_of_getElem? (i := 189) rfl) rfl
theorem w_430 : (.selects "java/lang/ArithmeticException" ⟨"java/lang/Throwable", "fillInStackTrace", "()Ljava/lang/Throwable;"⟩ ⟨"java/lang/Throwable", "fillInStackTrace", "()Ljava/lang/Throwable;"⟩ : Cond) ∈ BW := bw_2 (List.mem_of_getElem? (i := 190) rfl) rfl
theorem w_431 : (.selects "java/lang/IllegalStateException" ⟨"java/lang/Throwable", "fillInStackTrace", "()Ljava/lang/Throwable;"⟩ ⟨"java/lang/Throwable", "fillInStackTrace", "()Ljava/lang/Throwable;"⟩ : Cond) ∈ BW := bw_2 (List.mem_of_getElem? (i := 191) rfl) rfl
theorem w_432 : (.selects "java/util/NoSuchElementException" ⟨"java/lang/Throwable", "fillInStackTrace", "()Ljava/lang/Throwable;"⟩ ⟨"java/lang/Throwable", "fillInStackTrace", "()Ljava/lang/Throwable;"⟩ : Cond) ∈ BW := bw_2 (List.mem_of_getElem? (i := 192) rfl) rfl
theorem w_433 : (.codeSync ⟨"java/lang/Throwable", "fillInStackTrace", "()Ljava/lang/Throwable;"⟩ prog_22_method_18_code 1 (Option.some (FieldType.object "java/lang/Throwable")) : Cond) ∈ BW := bw_2 (List.mem_of_getElem? (i := 193) rfl) rfl
theorem w_434 : (.methodLink "java/lang/Throwable" 202 ⟨"java/lang/Throwable", "fillInStackTrace", "(I)Ljava/lang/Throwable;"⟩ : Cond) ∈ BW := bw_2 (List.mem_of_getElem? (i := 194) rfl) rfl
theorem w_436 : (.instanceMethod ⟨"java/lang/Throwable", "fillInStackTrace", "(I)Ljava/lang/Throwable;"⟩ : Cond) ∈ BW := bw_2 (List.mem_of_getElem? (i := 196) rfl) rfl
theorem w_437 : (.instantiable "java/lang/Throwable" 6 : Cond) ∈ BW := bw_2 (List.mem_of_getElem? (i := 197) rfl) rfl
theorem w_438 : (.native ⟨"java/lang/Throwable", "fillInStackTrace", "(I)Ljava/lang/Throwable;"⟩ : Cond) ∈ BW := bw_2 (List.mem_of_getElem? (i := 198) rfl) rfl
theorem w_440 : (.methodLink "KateDesk" 116 ⟨"java/lang/IllegalArgumentException", "<init>", "(Ljava/lang/String;)V"⟩ : Cond) ∈ BW := bw_2 (List.mem_of_getElem? (i := 200) rfl) rfl
theorem w_441 : (.instanceMethod ⟨"java/lang/IllegalArgumentException", "<init>", "(Ljava/lang/String;)V"⟩ : Cond) ∈ BW := bw_2 (List.mem_of_getElem? (i := 201) rfl) rfl
theorem w_442 : (.code ⟨"java/lang/IllegalArgumentException", "<init>", "(Ljava/lang/String;)V"⟩ prog_14_method_2_code 2 none : Cond) ∈ BW := bw_2 (List.mem_of_getElem? (i := 202) rfl) rfl
theorem w_443 : (.methodLink "java/lang/IllegalArgumentException" 7 ⟨"java/lang/RuntimeException", "<init>", "(Ljava/lang/String;)V"⟩ : Cond) ∈ BW := bw_2 (List.mem_of_getElem? (i := 203) rfl) rfl
theorem w_444 : (.instanceMethod ⟨"java/lang/RuntimeException", "<init>", "(Ljava/lang/String;)V"⟩ : Cond) ∈ BW := bw_2 (List.mem_of_getElem? (i := 204) rfl) rfl
theorem w_445 : (.code ⟨"java/lang/RuntimeException", "<init>", "(Ljava/lang/String;)V"⟩ prog_17_method_2_code 2 none : Cond) ∈ BW := bw_2 (List.mem_of_getElem? (i := 205) rfl) rfl
theorem w_446 : (.methodLink "java/lang/RuntimeException" 7 ⟨"java/lang/Exception", "<init>", "(Ljava/lang/String;)V"⟩ : Cond) ∈ BW := bw_2 (List.mem_of_getElem? (i := 206) rfl) rfl
