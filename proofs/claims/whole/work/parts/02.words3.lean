theorem w_894 : (.code ⟨"KateDesk", "lagrange", "(IIII)V"⟩ prog_1_method_21_code 5 none : Cond) ∈ BW := bw_4 (List.mem_of_getElem? (i := 174) rfl) rfl
theorem w_895 : (.methodLink "KateDesk" 275 ⟨"KateDesk$Polynomials", "basis", "([JII[J)V"⟩ : Cond) ∈ BW := bw_4 (List.mem_of_getElem? (i := 175) rfl) rfl
theorem w_896 : (.instanceMethod ⟨"KateDesk$Polynomials", "basis", "([JII[J)V"⟩ : Cond) ∈ BW := bw_4 (List.mem_of_getElem? (i := 176) rfl) rfl
theorem w_897 : (.selects "KateDesk$Polynomials" ⟨"KateDesk$Polynomials", "basis", "([JII[J)V"⟩ ⟨"KateDesk$Polynomials", "basis", "([JII[J)V"⟩ : Cond) ∈ BW := bw_4 (List.mem_of_getElem? (i := 177) rfl) rfl
theorem w_898 : (.code ⟨"KateDesk$Polynomials", "basis", "([JII[J)V"⟩ prog_7_method_9_code 7 none : Cond) ∈ BW := bw_4 (List.mem_of_getElem? (i := 178) rfl) rfl
theorem w_899 : (.methodLink "KateDeskLaw" 177 ⟨"KateDeskLaw", "look", "(LKateDesk;I[J)I"⟩ : Cond) ∈ BW := bw_4 (List.mem_of_getElem? (i := 179) rfl) rfl
theorem w_900 : (.static ⟨"KateDeskLaw", "look", "(LKateDesk;I[J)I"⟩ : Cond) ∈ BW := bw_4 (List.mem_of_getElem? (i := 180) rfl) rfl
theorem w_901 : (.codeWith ⟨"KateDeskLaw", "look", "(LKateDesk;I[J)I"⟩ method_23_code 4 (Option.some FieldType.int) [(0, 9, 12, 13)] : Cond) ∈ BW := bw_4 (List.mem_of_getElem? (i := 181) rfl) rfl
theorem w_902 : (.methodLink "KateDeskLaw" 91 ⟨"KateDesk", "look", "(I)I"⟩ : Cond) ∈ BW := bw_4 (List.mem_of_getElem? (i := 182) rfl) rfl
theorem w_903 : (.instanceMethod ⟨"KateDesk", "look", "(I)I"⟩ : Cond) ∈ BW := bw_4 (List.mem_of_getElem? (i := 183) rfl) rfl
theorem w_904 : (.selects "KateDesk" ⟨"KateDesk", "look", "(I)I"⟩ ⟨"KateDesk", "look", "(I)I"⟩ : Cond) ∈ BW := bw_4 (List.mem_of_getElem? (i := 184) rfl) rfl
theorem w_905 : (.code ⟨"KateDesk", "look", "(I)I"⟩ prog_1_method_22_code 2 (Option.some FieldType.int) : Cond) ∈ BW := bw_4 (List.mem_of_getElem? (i := 185) rfl) rfl
theorem w_907 : (.classLink "KateDeskLaw" 95 "KateDeskModel" : Cond) ∈ BW := bw_4 (List.mem_of_getElem? (i := 187) rfl) rfl
theorem w_908 : (.instantiable "KateDeskModel" 14 : Cond) ∈ BW := bw_4 (List.mem_of_getElem? (i := 188) rfl) rfl
theorem w_909 : (.methodLink "KateDeskLaw" 97 ⟨"KateDeskModel", "<init>", "()V"⟩ : Cond) ∈ BW := bw_4 (List.mem_of_getElem? (i := 189) rfl) rfl
theorem w_910 : (.instanceMethod ⟨"KateDeskModel", "<init>", "()V"⟩ : Cond) ∈ BW := bw_4 (List.mem_of_getElem? (i := 190) rfl) rfl
theorem w_911 : (.code ⟨"KateDeskModel", "<init>", "()V"⟩ prog_11_method_1_code 4 none : Cond) ∈ BW := bw_4 (List.mem_of_getElem? (i := 191) rfl) rfl
theorem w_912 : (.methodLink "KateDeskModel" 1 ⟨"java/lang/Object", "<init>", "()V"⟩ : Cond) ∈ BW := bw_4 (List.mem_of_getElem? (i := 192) rfl) rfl
theorem w_913 : (.constantLong "KateDeskModel" 13 (268413611 : Int64) : Cond) ∈ BW := bw_4 (List.mem_of_getElem? (i := 193) rfl) rfl
theorem w_914 : (.constantLong "KateDeskModel" 15 (267386879 : Int64) : Cond) ∈ BW := bw_4 (List.mem_of_getElem? (i := 194) rfl) rfl
theorem w_915 : (.constantLong "KateDeskModel" 17 (67108793 : Int64) : Cond) ∈ BW := bw_4 (List.mem_of_getElem? (i := 195) rfl) rfl
theorem w_916 : (.constantLong "KateDeskModel" 19 (268430101 : Int64) : Cond) ∈ BW := bw_4 (List.mem_of_getElem? (i := 196) rfl) rfl
theorem w_917 : (.constantLong "KateDeskModel" 21 (103030443 : Int64) : Cond) ∈ BW := bw_4 (List.mem_of_getElem? (i := 197) rfl) rfl
theorem w_918 : (.constantLong "KateDeskModel" 23 (168782607 : Int64) : Cond) ∈ BW := bw_4 (List.mem_of_getElem? (i := 198) rfl) rfl
theorem w_919 : (.constantLong "KateDeskModel" 25 (258420946 : Int64) : Cond) ∈ BW := bw_4 (List.mem_of_getElem? (i := 199) rfl) rfl
theorem w_920 : (.constantLong "KateDeskModel" 27 (255349035 : Int64) : Cond) ∈ BW := bw_4 (List.mem_of_getElem? (i := 200) rfl) rfl
theorem w_921 : (.constantLong "KateDeskModel" 29 (74926980 : Int64) : Cond) ∈ BW := bw_4 (List.mem_of_getElem? (i := 201) rfl) rfl
theorem w_922 : (.constantLong "KateDeskModel" 31 (79351158 : Int64) : Cond) ∈ BW := bw_4 (List.mem_of_getElem? (i := 202) rfl) rfl
theorem w_923 : (.constantLong "KateDeskModel" 33 (195540547 : Int64) : Cond) ∈ BW := bw_4 (List.mem_of_getElem? (i := 203) rfl) rfl
theorem w_924 : (.constantLong "KateDeskModel" 35 (241804465 : Int64) : Cond) ∈ BW := bw_4 (List.mem_of_getElem? (i := 204) rfl) rfl
theorem w_925 : (.constantLong "KateDeskModel" 37 (32127359 : Int64) : Cond) ∈ BW := bw_4 (List.mem_of_getElem? (i := 205) rfl) rfl
theorem w_926 : (.constantLong "KateDeskModel" 39 (106513 : Int64) : Cond) ∈ BW := bw_4 (List.mem_of_getElem? (i := 206) rfl) rfl
theorem w_927 : (.constantLong "KateDeskModel" 41 (268435440 : Int64) : Cond) ∈ BW := bw_4 (List.mem_of_getElem? (i := 207) rfl) rfl
theorem w_928 : (.constantLong "KateDeskModel" 43 (240910079 : Int64) : Cond) ∈ BW := bw_4 (List.mem_of_getElem? (i := 208) rfl) rfl
theorem w_929 : (.constantLong "KateDeskModel" 45 (171978751 : Int64) : Cond) ∈ BW := bw_4 (List.mem_of_getElem? (i := 209) rfl) rfl
theorem w_930 : (.constantLong "KateDeskModel" 47 (134566845 : Int64) : Cond) ∈ BW := bw_4 (List.mem_of_getElem? (i := 210) rfl) rfl
theorem w_931 : (.constantLong "KateDeskModel" 49 (8428061 : Int64) : Cond) ∈ BW := bw_4 (List.mem_of_getElem? (i := 211) rfl) rfl
theorem w_932 : (.constantLong "KateDeskModel" 51 (137574872 : Int64) : Cond) ∈ BW := bw_4 (List.mem_of_getElem? (i := 212) rfl) rfl
theorem w_933 : (.constantLong "KateDeskModel" 53 (43636692 : Int64) : Cond) ∈ BW := bw_4 (List.mem_of_getElem? (i := 213) rfl) rfl
theorem w_934 : (.constantLong "KateDeskModel" 55 (65906515 : Int64) : Cond) ∈ BW := bw_4 (List.mem_of_getElem? (i := 214) rfl) rfl
theorem w_935 : (.constantLong "KateDeskModel" 57 (7 : Int64) : Cond) ∈ BW := bw_4 (List.mem_of_getElem? (i := 215) rfl) rfl
theorem w_936 : (.constantLong "KateDeskModel" 62 (186828475 : Int64) : Cond) ∈ BW := bw_4 (List.mem_of_getElem? (i := 216) rfl) rfl
theorem w_937 : (.constantLong "KateDeskModel" 64 (61800621 : Int64) : Cond) ∈ BW := bw_4 (List.mem_of_getElem? (i := 217) rfl) rfl
theorem w_938 : (.constantLong "KateDeskModel" 66 (169537531 : Int64) : Cond) ∈ BW := bw_4 (List.mem_of_getElem? (i := 218) rfl) rfl
theorem w_939 : (.constantLong "KateDeskModel" 68 (243531671 : Int64) : Cond) ∈ BW := bw_4 (List.mem_of_getElem? (i := 219) rfl) rfl
theorem w_940 : (.constantLong "KateDeskModel" 70 (207121493 : Int64) : Cond) ∈ BW := bw_4 (List.mem_of_getElem? (i := 220) rfl) rfl
theorem w_941 : (.constantLong "KateDeskModel" 72 (66154938 : Int64) : Cond) ∈ BW := bw_4 (List.mem_of_getElem? (i := 221) rfl) rfl
theorem w_942 : (.constantLong "KateDeskModel" 74 (94457402 : Int64) : Cond) ∈ BW := bw_4 (List.mem_of_getElem? (i := 222) rfl) rfl
theorem w_943 : (.constantLong "KateDeskModel" 76 (158813072 : Int64) : Cond) ∈ BW := bw_4 (List.mem_of_getElem? (i := 223) rfl) rfl
theorem w_944 : (.constantLong "KateDeskModel" 78 (57183311 : Int64) : Cond) ∈ BW := bw_4 (List.mem_of_getElem? (i := 224) rfl) rfl
theorem w_945 : (.constantLong "KateDeskModel" 80 (177914108 : Int64) : Cond) ∈ BW := bw_4 (List.mem_of_getElem? (i := 225) rfl) rfl
theorem w_946 : (.constantLong "KateDeskModel" 82 (90410063 : Int64) : Cond) ∈ BW := bw_4 (List.mem_of_getElem? (i := 226) rfl) rfl
theorem w_947 : (.constantLong "KateDeskModel" 84 (226050665 : Int64) : Cond) ∈ BW := bw_4 (List.mem_of_getElem? (i := 227) rfl) rfl
theorem w_948 : (.constantLong "KateDeskModel" 86 (61288855 : Int64) : Cond) ∈ BW := bw_4 (List.mem_of_getElem? (i := 228) rfl) rfl
theorem w_949 : (.constantLong "KateDeskModel" 88 (98077 : Int64) : Cond) ∈ BW := bw_4 (List.mem_of_getElem? (i := 229) rfl) rfl
theorem w_950 : (.constantLong "KateDeskModel" 90 (113633249 : Int64) : Cond) ∈ BW := bw_4 (List.mem_of_getElem? (i := 230) rfl) rfl
theorem w_951 : (.constantLong "KateDeskModel" 92 (178401940 : Int64) : Cond) ∈ BW := bw_4 (List.mem_of_getElem? (i := 231) rfl) rfl
theorem w_952 : (.constantLong "KateDeskModel" 94 (143320076 : Int64) : Cond) ∈ BW := bw_4 (List.mem_of_getElem? (i := 232) rfl) rfl
theorem w_953 : (.constantLong "KateDeskModel" 96 (208947752 : Int64) : Cond) ∈ BW := bw_4 (List.mem_of_getElem? (i := 233) rfl) rfl
theorem w_954 : (.constantLong "KateDeskModel" 98 (65916988 : Int64) : Cond) ∈ BW := bw_4 (List.mem_of_getElem? (i := 234) rfl) rfl
theorem w_955 : (.constantLong "KateDeskModel" 100 (213041227 : Int64) : Cond) ∈ BW := bw_4 (List.mem_of_getElem? (i := 235) rfl) rfl
theorem w_956 : (.constantLong "KateDeskModel" 102 (100719384 : Int64) : Cond) ∈ BW := bw_4 (List.mem_of_getElem? (i := 236) rfl) rfl
theorem w_957 : (.constantLong "KateDeskModel" 104 (224198831 : Int64) : Cond) ∈ BW := bw_4 (List.mem_of_getElem? (i := 237) rfl) rfl
theorem w_958 : (.constantLong "KateDeskModel" 106 (217440405 : Int64) : Cond) ∈ BW := bw_4 (List.mem_of_getElem? (i := 238) rfl) rfl
theorem w_959 : (.constantLong "KateDeskModel" 108 (30977615 : Int64) : Cond) ∈ BW := bw_4 (List.mem_of_getElem? (i := 239) rfl) rfl
theorem w_960 : (.constantLong "KateDeskModel" 110 (238087540 : Int64) : Cond) ∈ BW := bw_5 (List.mem_of_getElem? (i := 0) rfl) rfl
theorem w_961 : (.constantLong "KateDeskModel" 112 (168761865 : Int64) : Cond) ∈ BW := bw_5 (List.mem_of_getElem? (i := 1) rfl) rfl
theorem w_962 : (.constantLong "KateDeskModel" 114 (75621290 : Int64) : Cond) ∈ BW := bw_5 (List.mem_of_getElem? (i := 2) rfl) rfl
theorem w_963 : (.constantLong "KateDeskModel" 116 (35647 : Int64) : Cond) ∈ BW := bw_5 (List.mem_of_getElem? (i := 3) rfl) rfl
theorem w_964 : (.methodLink "KateDeskModel" 137 ⟨"KateDeskModel", "use", "(I)V"⟩ : Cond) ∈ BW := bw_5 (List.mem_of_getElem? (i := 4) rfl) rfl
theorem w_966 : (.instanceMethod ⟨"KateDeskModel", "use", "(I)V"⟩ : Cond) ∈ BW := bw_5 (List.mem_of_getElem? (i := 6) rfl) rfl
theorem w_967 : (.code ⟨"KateDeskModel", "use", "(I)V"⟩ prog_11_method_5_code 2 none : Cond) ∈ BW := bw_5 (List.mem_of_getElem? (i := 7) rfl) rfl
theorem w_968 : (.methodLink "KateDeskModel" 141 ⟨"KateDeskModel", "one", "(I)V"⟩ : Cond) ∈ BW := bw_5 (List.mem_of_getElem? (i := 8) rfl) rfl
theorem w_970 : (.instanceMethod ⟨"KateDeskModel", "one", "(I)V"⟩ : Cond) ∈ BW := bw_5 (List.mem_of_getElem? (i := 10) rfl) rfl
theorem w_971 : (.code ⟨"KateDeskModel", "one", "(I)V"⟩ prog_11_method_7_code 3 none : Cond) ∈ BW := bw_5 (List.mem_of_getElem? (i := 11) rfl) rfl
theorem w_972 : (.methodLink "KateDeskModel" 148 ⟨"KateDeskModel", "add", "(III)V"⟩ : Cond) ∈ BW := bw_5 (List.mem_of_getElem? (i := 12) rfl) rfl
theorem w_974 : (.instanceMethod ⟨"KateDeskModel", "add", "(III)V"⟩ : Cond) ∈ BW := bw_5 (List.mem_of_getElem? (i := 14) rfl) rfl
theorem w_975 : (.code ⟨"KateDeskModel", "add", "(III)V"⟩ prog_11_method_15_code 5 none : Cond) ∈ BW := bw_5 (List.mem_of_getElem? (i := 15) rfl) rfl
theorem w_976 : (.methodLink "KateDeskModel" 164 ⟨"KateDeskModel", "limb", "(II)J"⟩ : Cond) ∈ BW := bw_5 (List.mem_of_getElem? (i := 16) rfl) rfl
theorem w_978 : (.instanceMethod ⟨"KateDeskModel", "limb", "(II)J"⟩ : Cond) ∈ BW := bw_5 (List.mem_of_getElem? (i := 18) rfl) rfl
theorem w_979 : (.code ⟨"KateDeskModel", "limb", "(II)J"⟩ prog_11_method_6_code 3 (Option.some FieldType.long) : Cond) ∈ BW := bw_5 (List.mem_of_getElem? (i := 19) rfl) rfl
theorem w_980 : (.methodLink "KateDeskModel" 174 ⟨"KateDeskModel", "carries", "(I)V"⟩ : Cond) ∈ BW := bw_5 (List.mem_of_getElem? (i := 20) rfl) rfl
theorem w_982 : (.instanceMethod ⟨"KateDeskModel", "carries", "(I)V"⟩ : Cond) ∈ BW := bw_5 (List.mem_of_getElem? (i := 22) rfl) rfl
theorem w_983 : (.code ⟨"KateDeskModel", "carries", "(I)V"⟩ prog_11_method_13_code 5 none : Cond) ∈ BW := bw_5 (List.mem_of_getElem? (i := 23) rfl) rfl
theorem w_984 : (.constantLong "KateDeskModel" 168 (268435455 : Int64) : Cond) ∈ BW := bw_5 (List.mem_of_getElem? (i := 24) rfl) rfl
theorem w_985 : (.methodLink "KateDeskModel" 177 ⟨"KateDeskModel", "settles", "(I)V"⟩ : Cond) ∈ BW := bw_5 (List.mem_of_getElem? (i := 25) rfl) rfl
theorem w_987 : (.instanceMethod ⟨"KateDeskModel", "settles", "(I)V"⟩ : Cond) ∈ BW := bw_5 (List.mem_of_getElem? (i := 27) rfl) rfl
theorem w_988 : (.code ⟨"KateDeskModel", "settles", "(I)V"⟩ prog_11_method_14_code 8 none : Cond) ∈ BW := bw_5 (List.mem_of_getElem? (i := 28) rfl) rfl
theorem w_989 : (.methodLink "KateDeskModel" 170 ⟨"KateDeskModel", "isBelow", "()Z"⟩ : Cond) ∈ BW := bw_5 (List.mem_of_getElem? (i := 29) rfl) rfl
theorem w_991 : (.instanceMethod ⟨"KateDeskModel", "isBelow", "()Z"⟩ : Cond) ∈ BW := bw_5 (List.mem_of_getElem? (i := 31) rfl) rfl
theorem w_992 : (.code ⟨"KateDeskModel", "isBelow", "()Z"⟩ prog_11_method_12_code 4 (Option.some FieldType.boolean) : Cond) ∈ BW := bw_5 (List.mem_of_getElem? (i := 32) rfl) rfl
theorem w_993 : (.methodLink "KateDeskModel" 152 ⟨"KateDeskModel", "nothing", "(I)V"⟩ : Cond) ∈ BW := bw_5 (List.mem_of_getElem? (i := 33) rfl) rfl
theorem w_995 : (.instanceMethod ⟨"KateDeskModel", "nothing", "(I)V"⟩ : Cond) ∈ BW := bw_5 (List.mem_of_getElem? (i := 35) rfl) rfl
theorem w_996 : (.code ⟨"KateDeskModel", "nothing", "(I)V"⟩ prog_11_method_27_code 2 none : Cond) ∈ BW := bw_5 (List.mem_of_getElem? (i := 36) rfl) rfl
theorem w_997 : (.methodLink "KateDeskModel" 200 ⟨"KateDeskModel", "zero", "(I)V"⟩ : Cond) ∈ BW := bw_5 (List.mem_of_getElem? (i := 37) rfl) rfl
theorem w_999 : (.instanceMethod ⟨"KateDeskModel", "zero", "(I)V"⟩ : Cond) ∈ BW := bw_5 (List.mem_of_getElem? (i := 39) rfl) rfl
theorem w_1000 : (.code ⟨"KateDeskModel", "zero", "(I)V"⟩ prog_11_method_8_code 3 none : Cond) ∈ BW := bw_5 (List.mem_of_getElem? (i := 40) rfl) rfl
theorem w_1001 : (.fieldLink "KateDeskModel" 158 "KateDeskModel" "thrown" "I" : Cond) ∈ BW := bw_5 (List.mem_of_getElem? (i := 41) rfl) rfl
theorem w_1002 : (.fieldLink "KateDeskModel" 7 "KateDeskModel" "d" "[J" : Cond) ∈ BW := bw_5 (List.mem_of_getElem? (i := 42) rfl) rfl
theorem w_1003 : (.fieldLink "KateDeskModel" 59 "KateDeskModel" "prime" "[J" : Cond) ∈ BW := bw_5 (List.mem_of_getElem? (i := 43) rfl) rfl
theorem w_1004 : (.fieldLink "KateDeskModel" 118 "KateDeskModel" "base" "[J" : Cond) ∈ BW := bw_5 (List.mem_of_getElem? (i := 44) rfl) rfl
theorem w_1005 : (.fieldLink "KateDeskModel" 121 "KateDeskModel" "above" "[J" : Cond) ∈ BW := bw_5 (List.mem_of_getElem? (i := 45) rfl) rfl
theorem w_1006 : (.fieldLink "KateDeskModel" 124 "KateDeskModel" "acc" "[J" : Cond) ∈ BW := bw_5 (List.mem_of_getElem? (i := 46) rfl) rfl
theorem w_1007 : (.fieldLink "KateDeskModel" 161 "KateDeskModel" "which" "I" : Cond) ∈ BW := bw_5 (List.mem_of_getElem? (i := 47) rfl) rfl
theorem w_1008 : (.fieldLink "KateDeskModel" 144 "KateDeskModel" "n" "I" : Cond) ∈ BW := bw_5 (List.mem_of_getElem? (i := 48) rfl) rfl
theorem w_1009 : (.fieldLink "KateDeskModel" 294 "KateDeskModel" "powers" "I" : Cond) ∈ BW := bw_5 (List.mem_of_getElem? (i := 49) rfl) rfl
theorem w_1010 : (.fieldLink "KateDeskModel" 127 "KateDeskModel" "tape" "[I" : Cond) ∈ BW := bw_5 (List.mem_of_getElem? (i := 50) rfl) rfl
theorem w_1011 : (.fieldLink "KateDeskModel" 155 "KateDeskModel" "taped" "I" : Cond) ∈ BW := bw_5 (List.mem_of_getElem? (i := 51) rfl) rfl
theorem w_1012 : (.fieldLink "KateDeskModel" 131 "KateDeskModel" "text" "[I" : Cond) ∈ BW := bw_5 (List.mem_of_getElem? (i := 52) rfl) rfl
theorem w_1013 : (.fieldLink "KateDeskModel" 277 "KateDeskModel" "written" "I" : Cond) ∈ BW := bw_5 (List.mem_of_getElem? (i := 53) rfl) rfl
theorem w_1014 : (.fieldLink "KateDeskModel" 134 "KateDeskModel" "hold" "[J" : Cond) ∈ BW := bw_5 (List.mem_of_getElem? (i := 54) rfl) rfl
theorem w_1015 : (.lays "KateDeskModel" "KateDeskModel" "thrown" "I" : Cond) ∈ BW := bw_5 (List.mem_of_getElem? (i := 55) rfl) rfl
theorem w_1016 : (.soleField "KateDeskModel" "thrown" : Cond) ∈ BW := bw_5 (List.mem_of_getElem? (i := 56) rfl) rfl
theorem w_1017 : (.laysFinal "KateDeskModel" "KateDeskModel" "d" "[J" : Cond) ∈ BW := bw_5 (List.mem_of_getElem? (i := 57) rfl) rfl
theorem w_1018 : (.soleField "KateDeskModel" "d" : Cond) ∈ BW := bw_5 (List.mem_of_getElem? (i := 58) rfl) rfl
theorem w_1019 : (.laysFinal "KateDeskModel" "KateDeskModel" "prime" "[J" : Cond) ∈ BW := bw_5 (List.mem_of_getElem? (i := 59) rfl) rfl
theorem w_1020 : (.soleField "KateDeskModel" "prime" : Cond) ∈ BW := bw_5 (List.mem_of_getElem? (i := 60) rfl) rfl
theorem w_1021 : (.laysFinal "KateDeskModel" "KateDeskModel" "base" "[J" : Cond) ∈ BW := bw_5 (List.mem_of_getElem? (i := 61) rfl) rfl
theorem w_1022 : (.soleField "KateDeskModel" "base" : Cond) ∈ BW := bw_5 (List.mem_of_getElem? (i := 62) rfl) rfl
theorem w_1023 : (.laysFinal "KateDeskModel" "KateDeskModel" "above" "[J" : Cond) ∈ BW := bw_5 (List.mem_of_getElem? (i := 63) rfl) rfl
theorem w_1024 : (.soleField "KateDeskModel" "above" : Cond) ∈ BW := bw_5 (List.mem_of_getElem? (i := 64) rfl) rfl
theorem w_1025 : (.laysFinal "KateDeskModel" "KateDeskModel" "acc" "[J" : Cond) ∈ BW := bw_5 (List.mem_of_getElem? (i := 65) rfl) rfl
theorem w_1026 : (.soleField "KateDeskModel" "acc" : Cond) ∈ BW := bw_5 (List.mem_of_getElem? (i := 66) rfl) rfl
theorem w_1027 : (.lays "KateDeskModel" "KateDeskModel" "which" "I" : Cond) ∈ BW := bw_5 (List.mem_of_getElem? (i := 67) rfl) rfl
theorem w_1028 : (.soleField "KateDeskModel" "which" : Cond) ∈ BW := bw_5 (List.mem_of_getElem? (i := 68) rfl) rfl
theorem w_1029 : (.lays "KateDeskModel" "KateDeskModel" "n" "I" : Cond) ∈ BW := bw_5 (List.mem_of_getElem? (i := 69) rfl) rfl
theorem w_1030 : (.soleField "KateDeskModel" "n" : Cond) ∈ BW := bw_5 (List.mem_of_getElem? (i := 70) rfl) rfl
theorem w_1031 : (.lays "KateDeskModel" "KateDeskModel" "powers" "I" : Cond) ∈ BW := bw_5 (List.mem_of_getElem? (i := 71) rfl) rfl
theorem w_1032 : (.soleField "KateDeskModel" "powers" : Cond) ∈ BW := bw_5 (List.mem_of_getElem? (i := 72) rfl) rfl
theorem w_1033 : (.laysFinal "KateDeskModel" "KateDeskModel" "tape" "[I" : Cond) ∈ BW := bw_5 (List.mem_of_getElem? (i := 73) rfl) rfl
theorem w_1034 : (.soleField "KateDeskModel" "tape" : Cond) ∈ BW := bw_5 (List.mem_of_getElem? (i := 74) rfl) rfl
theorem w_1035 : (.lays "KateDeskModel" "KateDeskModel" "taped" "I" : Cond) ∈ BW := bw_5 (List.mem_of_getElem? (i := 75) rfl) rfl
theorem w_1036 : (.soleField "KateDeskModel" "taped" : Cond) ∈ BW := bw_5 (List.mem_of_getElem? (i := 76) rfl) rfl
theorem w_1037 : (.laysFinal "KateDeskModel" "KateDeskModel" "text" "[I" : Cond) ∈ BW := bw_5 (List.mem_of_getElem? (i := 77) rfl) rfl
theorem w_1038 : (.soleField "KateDeskModel" "text" : Cond) ∈ BW := bw_5 (List.mem_of_getElem? (i := 78) rfl) rfl
theorem w_1039 : (.lays "KateDeskModel" "KateDeskModel" "written" "I" : Cond) ∈ BW := bw_5 (List.mem_of_getElem? (i := 79) rfl) rfl
theorem w_1040 : (.soleField "KateDeskModel" "written" : Cond) ∈ BW := bw_5 (List.mem_of_getElem? (i := 80) rfl) rfl
theorem w_1041 : (.laysFinal "KateDeskModel" "KateDeskModel" "hold" "[J" : Cond) ∈ BW := bw_5 (List.mem_of_getElem? (i := 81) rfl) rfl
theorem w_1042 : (.soleField "KateDeskModel" "hold" : Cond) ∈ BW := bw_5 (List.mem_of_getElem? (i := 82) rfl) rfl
theorem w_1043 : (.superclass "KateDeskModel" "java/lang/Object" : Cond) ∈ BW := bw_5 (List.mem_of_getElem? (i := 83) rfl) rfl
theorem w_1044 : (.arrayClass FieldType.int : Cond) ∈ BW := bw_5 (List.mem_of_getElem? (i := 84) rfl) rfl
theorem w_1045 : (.methodLink "KateDeskLaw" 106 ⟨"KateDeskModel", "thrown", "()I"⟩ : Cond) ∈ BW := bw_5 (List.mem_of_getElem? (i := 85) rfl) rfl
theorem w_1046 : (.instanceMethod ⟨"KateDeskModel", "thrown", "()I"⟩ : Cond) ∈ BW := bw_5 (List.mem_of_getElem? (i := 86) rfl) rfl
theorem w_1047 : (.selects "KateDeskModel" ⟨"KateDeskModel", "thrown", "()I"⟩ ⟨"KateDeskModel", "thrown", "()I"⟩ : Cond) ∈ BW := bw_5 (List.mem_of_getElem? (i := 87) rfl) rfl
theorem w_1048 : (.code ⟨"KateDeskModel", "thrown", "()I"⟩ prog_11_method_2_code 1 (Option.some FieldType.int) : Cond) ∈ BW := bw_5 (List.mem_of_getElem? (i := 88) rfl) rfl
theorem w_1049 : (.methodLink "KateDeskLaw" 105 ⟨"KateDeskModel", "feed", "(IJ)I"⟩ : Cond) ∈ BW := bw_5 (List.mem_of_getElem? (i := 89) rfl) rfl
theorem w_1050 : (.instanceMethod ⟨"KateDeskModel", "feed", "(IJ)I"⟩ : Cond) ∈ BW := bw_5 (List.mem_of_getElem? (i := 90) rfl) rfl
theorem w_1051 : (.selects "KateDeskModel" ⟨"KateDeskModel", "feed", "(IJ)I"⟩ ⟨"KateDeskModel", "feed", "(IJ)I"⟩ : Cond) ∈ BW := bw_5 (List.mem_of_getElem? (i := 91) rfl) rfl
theorem w_1052 : (.code ⟨"KateDeskModel", "feed", "(IJ)I"⟩ prog_11_method_37_code 5 (Option.some FieldType.int) : Cond) ∈ BW := bw_5 (List.mem_of_getElem? (i := 92) rfl) rfl
theorem w_1053 : (.methodLink "KateDeskModel" 223 ⟨"KateDeskModel", "fails", "(ZI)Z"⟩ : Cond) ∈ BW := bw_5 (List.mem_of_getElem? (i := 93) rfl) rfl
theorem w_1055 : (.instanceMethod ⟨"KateDeskModel", "fails", "(ZI)Z"⟩ : Cond) ∈ BW := bw_5 (List.mem_of_getElem? (i := 95) rfl) rfl
theorem w_1056 : (.code ⟨"KateDeskModel", "fails", "(ZI)Z"⟩ prog_11_method_3_code 3 (Option.some FieldType.boolean) : Cond) ∈ BW := bw_5 (List.mem_of_getElem? (i := 96) rfl) rfl
theorem w_1057 : (.constantLong "KateDeskModel" 227 (255 : Int64) : Cond) ∈ BW := bw_5 (List.mem_of_getElem? (i := 97) rfl) rfl
theorem w_1058 : (.methodLink "KateDeskLaw" 113 ⟨"KateDeskModel", "number", "(I)Z"⟩ : Cond) ∈ BW := bw_5 (List.mem_of_getElem? (i := 98) rfl) rfl
theorem w_1059 : (.instanceMethod ⟨"KateDeskModel", "number", "(I)Z"⟩ : Cond) ∈ BW := bw_5 (List.mem_of_getElem? (i := 99) rfl) rfl
theorem w_1060 : (.selects "KateDeskModel" ⟨"KateDeskModel", "number", "(I)Z"⟩ ⟨"KateDeskModel", "number", "(I)Z"⟩ : Cond) ∈ BW := bw_5 (List.mem_of_getElem? (i := 100) rfl) rfl
theorem w_1061 : (.code ⟨"KateDeskModel", "number", "(I)Z"⟩ prog_11_method_38_code 4 (Option.some FieldType.boolean) : Cond) ∈ BW := bw_5 (List.mem_of_getElem? (i := 101) rfl) rfl
theorem w_1062 : (.methodLink "KateDeskModel" 219 ⟨"KateDeskModel", "noScalar", "(I)Z"⟩ : Cond) ∈ BW := bw_5 (List.mem_of_getElem? (i := 102) rfl) rfl
theorem w_1063 : (.static ⟨"KateDeskModel", "noScalar", "(I)Z"⟩ : Cond) ∈ BW := bw_5 (List.mem_of_getElem? (i := 103) rfl) rfl
theorem w_1064 : (.code ⟨"KateDeskModel", "noScalar", "(I)Z"⟩ prog_11_method_33_code 1 (Option.some FieldType.boolean) : Cond) ∈ BW := bw_5 (List.mem_of_getElem? (i := 104) rfl) rfl
theorem w_1065 : (.methodLink "KateDeskModel" 229 ⟨"KateDeskModel", "setByte", "(III)V"⟩ : Cond) ∈ BW := bw_5 (List.mem_of_getElem? (i := 105) rfl) rfl
theorem w_1067 : (.instanceMethod ⟨"KateDeskModel", "setByte", "(III)V"⟩ : Cond) ∈ BW := bw_5 (List.mem_of_getElem? (i := 107) rfl) rfl
theorem w_1068 : (.code ⟨"KateDeskModel", "setByte", "(III)V"⟩ prog_11_method_25_code 5 none : Cond) ∈ BW := bw_5 (List.mem_of_getElem? (i := 108) rfl) rfl
theorem w_1069 : (.methodLink "KateDeskModel" 232 ⟨"KateDeskModel", "isNumber", "(I)Z"⟩ : Cond) ∈ BW := bw_5 (List.mem_of_getElem? (i := 109) rfl) rfl
theorem w_1071 : (.instanceMethod ⟨"KateDeskModel", "isNumber", "(I)Z"⟩ : Cond) ∈ BW := bw_5 (List.mem_of_getElem? (i := 111) rfl) rfl
theorem w_1072 : (.code ⟨"KateDeskModel", "isNumber", "(I)Z"⟩ prog_11_method_26_code 3 (Option.some FieldType.boolean) : Cond) ∈ BW := bw_5 (List.mem_of_getElem? (i := 112) rfl) rfl
theorem w_1073 : (.methodLink "KateDeskModel" 180 ⟨"KateDeskModel", "move", "(II)V"⟩ : Cond) ∈ BW := bw_5 (List.mem_of_getElem? (i := 113) rfl) rfl
theorem w_1075 : (.instanceMethod ⟨"KateDeskModel", "move", "(II)V"⟩ : Cond) ∈ BW := bw_5 (List.mem_of_getElem? (i := 115) rfl) rfl
theorem w_1076 : (.code ⟨"KateDeskModel", "move", "(II)V"⟩ prog_11_method_9_code 4 none : Cond) ∈ BW := bw_5 (List.mem_of_getElem? (i := 116) rfl) rfl
theorem w_1077 : (.methodLink "KateDeskLaw" 117 ⟨"KateDeskModel", "set", "(IJ)V"⟩ : Cond) ∈ BW := bw_5 (List.mem_of_getElem? (i := 117) rfl) rfl
theorem w_1078 : (.instanceMethod ⟨"KateDeskModel", "set", "(IJ)V"⟩ : Cond) ∈ BW := bw_5 (List.mem_of_getElem? (i := 118) rfl) rfl
theorem w_1079 : (.selects "KateDeskModel" ⟨"KateDeskModel", "set", "(IJ)V"⟩ ⟨"KateDeskModel", "set", "(IJ)V"⟩ : Cond) ∈ BW := bw_5 (List.mem_of_getElem? (i := 119) rfl) rfl
theorem w_1080 : (.code ⟨"KateDeskModel", "set", "(IJ)V"⟩ prog_11_method_39_code 4 none : Cond) ∈ BW := bw_5 (List.mem_of_getElem? (i := 120) rfl) rfl
theorem w_1081 : (.methodLink "KateDeskModel" 235 ⟨"KateDeskModel", "small", "(IJ)V"⟩ : Cond) ∈ BW := bw_5 (List.mem_of_getElem? (i := 121) rfl) rfl
theorem w_1083 : (.instanceMethod ⟨"KateDeskModel", "small", "(IJ)V"⟩ : Cond) ∈ BW := bw_5 (List.mem_of_getElem? (i := 123) rfl) rfl
theorem w_1084 : (.code ⟨"KateDeskModel", "small", "(IJ)V"⟩ prog_11_method_23_code 5 none : Cond) ∈ BW := bw_5 (List.mem_of_getElem? (i := 124) rfl) rfl
theorem w_1085 : (.methodLink "KateDeskLaw" 121 ⟨"KateDeskModel", "word", "(II)J"⟩ : Cond) ∈ BW := bw_5 (List.mem_of_getElem? (i := 125) rfl) rfl
theorem w_1086 : (.instanceMethod ⟨"KateDeskModel", "word", "(II)J"⟩ : Cond) ∈ BW := bw_5 (List.mem_of_getElem? (i := 126) rfl) rfl
theorem w_1087 : (.selects "KateDeskModel" ⟨"KateDeskModel", "word", "(II)J"⟩ ⟨"KateDeskModel", "word", "(II)J"⟩ : Cond) ∈ BW := bw_5 (List.mem_of_getElem? (i := 127) rfl) rfl
theorem w_1088 : (.code ⟨"KateDeskModel", "word", "(II)J"⟩ prog_11_method_40_code 6 (Option.some FieldType.long) : Cond) ∈ BW := bw_5 (List.mem_of_getElem? (i := 128) rfl) rfl
theorem w_1089 : (.constantLong "KateDeskModel" 238 (2 : Int64) : Cond) ∈ BW := bw_5 (List.mem_of_getElem? (i := 129) rfl) rfl
theorem w_1090 : (.methodLink "KateDeskModel" 187 ⟨"KateDeskModel", "bit", "(II)I"⟩ : Cond) ∈ BW := bw_5 (List.mem_of_getElem? (i := 130) rfl) rfl
theorem w_1092 : (.instanceMethod ⟨"KateDeskModel", "bit", "(II)I"⟩ : Cond) ∈ BW := bw_5 (List.mem_of_getElem? (i := 132) rfl) rfl
theorem w_1093 : (.code ⟨"KateDeskModel", "bit", "(II)I"⟩ prog_11_method_18_code 3 (Option.some FieldType.int) : Cond) ∈ BW := bw_5 (List.mem_of_getElem? (i := 133) rfl) rfl
theorem w_1094 : (.methodLink "KateDeskLaw" 125 ⟨"KateDeskModel", "reckon", "(IIII)V"⟩ : Cond) ∈ BW := bw_5 (List.mem_of_getElem? (i := 134) rfl) rfl
theorem w_1095 : (.instanceMethod ⟨"KateDeskModel", "reckon", "(IIII)V"⟩ : Cond) ∈ BW := bw_5 (List.mem_of_getElem? (i := 135) rfl) rfl
theorem w_1096 : (.selects "KateDeskModel" ⟨"KateDeskModel", "reckon", "(IIII)V"⟩ ⟨"KateDeskModel", "reckon", "(IIII)V"⟩ : Cond) ∈ BW := bw_5 (List.mem_of_getElem? (i := 136) rfl) rfl
theorem w_1097 : (.code ⟨"KateDeskModel", "reckon", "(IIII)V"⟩ prog_11_method_41_code 5 none : Cond) ∈ BW := bw_5 (List.mem_of_getElem? (i := 137) rfl) rfl
theorem w_1098 : (.constantLong "KateDeskModel" 240 (3 : Int64) : Cond) ∈ BW := bw_5 (List.mem_of_getElem? (i := 138) rfl) rfl
theorem w_1099 : (.methodLink "KateDeskModel" 242 ⟨"KateDeskModel", "in", "(JJJ)Z"⟩ : Cond) ∈ BW := bw_5 (List.mem_of_getElem? (i := 139) rfl) rfl
theorem w_1100 : (.static ⟨"KateDeskModel", "in", "(JJJ)Z"⟩ : Cond) ∈ BW := bw_5 (List.mem_of_getElem? (i := 140) rfl) rfl
theorem w_1101 : (.code ⟨"KateDeskModel", "in", "(JJJ)Z"⟩ prog_11_method_4_code 6 (Option.some FieldType.boolean) : Cond) ∈ BW := bw_5 (List.mem_of_getElem? (i := 141) rfl) rfl
theorem w_1102 : (.methodLink "KateDeskModel" 246 ⟨"KateDeskModel", "isZero", "(I)Z"⟩ : Cond) ∈ BW := bw_5 (List.mem_of_getElem? (i := 142) rfl) rfl
theorem w_1104 : (.instanceMethod ⟨"KateDeskModel", "isZero", "(I)Z"⟩ : Cond) ∈ BW := bw_5 (List.mem_of_getElem? (i := 144) rfl) rfl
theorem w_1105 : (.code ⟨"KateDeskModel", "isZero", "(I)Z"⟩ prog_11_method_10_code 5 (Option.some FieldType.boolean) : Cond) ∈ BW := bw_5 (List.mem_of_getElem? (i := 145) rfl) rfl
theorem w_1106 : (.methodLink "KateDeskModel" 203 ⟨"KateDeskModel", "less", "(III)V"⟩ : Cond) ∈ BW := bw_5 (List.mem_of_getElem? (i := 146) rfl) rfl
theorem w_1108 : (.instanceMethod ⟨"KateDeskModel", "less", "(III)V"⟩ : Cond) ∈ BW := bw_5 (List.mem_of_getElem? (i := 148) rfl) rfl
theorem w_1109 : (.code ⟨"KateDeskModel", "less", "(III)V"⟩ prog_11_method_16_code 5 none : Cond) ∈ BW := bw_5 (List.mem_of_getElem? (i := 149) rfl) rfl
theorem w_1110 : (.methodLink "KateDeskModel" 184 ⟨"KateDeskModel", "product", "(III)V"⟩ : Cond) ∈ BW := bw_5 (List.mem_of_getElem? (i := 150) rfl) rfl
theorem w_1112 : (.instanceMethod ⟨"KateDeskModel", "product", "(III)V"⟩ : Cond) ∈ BW := bw_5 (List.mem_of_getElem? (i := 152) rfl) rfl
theorem w_1113 : (.code ⟨"KateDeskModel", "product", "(III)V"⟩ prog_11_method_17_code 9 none : Cond) ∈ BW := bw_5 (List.mem_of_getElem? (i := 153) rfl) rfl
theorem w_1114 : (.methodLink "KateDeskModel" 249 ⟨"KateDeskModel", "inverse", "(II)V"⟩ : Cond) ∈ BW := bw_5 (List.mem_of_getElem? (i := 154) rfl) rfl
theorem w_1116 : (.instanceMethod ⟨"KateDeskModel", "inverse", "(II)V"⟩ : Cond) ∈ BW := bw_5 (List.mem_of_getElem? (i := 156) rfl) rfl
theorem w_1117 : (.code ⟨"KateDeskModel", "inverse", "(II)V"⟩ prog_11_method_21_code 3 none : Cond) ∈ BW := bw_5 (List.mem_of_getElem? (i := 157) rfl) rfl
theorem w_1118 : (.constantLong "KateDeskModel" 191 (-2 : Int64) : Cond) ∈ BW := bw_5 (List.mem_of_getElem? (i := 158) rfl) rfl
theorem w_1119 : (.methodLink "KateDeskModel" 193 ⟨"KateDeskModel", "primeAnd", "(IJ)V"⟩ : Cond) ∈ BW := bw_5 (List.mem_of_getElem? (i := 159) rfl) rfl
theorem w_1121 : (.instanceMethod ⟨"KateDeskModel", "primeAnd", "(IJ)V"⟩ : Cond) ∈ BW := bw_5 (List.mem_of_getElem? (i := 161) rfl) rfl
theorem w_1122 : (.code ⟨"KateDeskModel", "primeAnd", "(IJ)V"⟩ prog_11_method_20_code 5 none : Cond) ∈ BW := bw_5 (List.mem_of_getElem? (i := 162) rfl) rfl
theorem w_1123 : (.methodLink "KateDeskModel" 197 ⟨"KateDeskModel", "raise", "(III)V"⟩ : Cond) ∈ BW := bw_5 (List.mem_of_getElem? (i := 163) rfl) rfl
theorem w_1125 : (.instanceMethod ⟨"KateDeskModel", "raise", "(III)V"⟩ : Cond) ∈ BW := bw_5 (List.mem_of_getElem? (i := 165) rfl) rfl
theorem w_1126 : (.code ⟨"KateDeskModel", "raise", "(III)V"⟩ prog_11_method_19_code 5 none : Cond) ∈ BW := bw_5 (List.mem_of_getElem? (i := 166) rfl) rfl
theorem w_1127 : (.methodLink "KateDeskLaw" 129 ⟨"KateDeskModel", "power", "(IIJ)V"⟩ : Cond) ∈ BW := bw_5 (List.mem_of_getElem? (i := 167) rfl) rfl
theorem w_1128 : (.instanceMethod ⟨"KateDeskModel", "power", "(IIJ)V"⟩ : Cond) ∈ BW := bw_5 (List.mem_of_getElem? (i := 168) rfl) rfl
theorem w_1129 : (.selects "KateDeskModel" ⟨"KateDeskModel", "power", "(IIJ)V"⟩ ⟨"KateDeskModel", "power", "(IIJ)V"⟩ : Cond) ∈ BW := bw_5 (List.mem_of_getElem? (i := 169) rfl) rfl
theorem w_1130 : (.code ⟨"KateDeskModel", "power", "(IIJ)V"⟩ prog_11_method_42_code 5 none : Cond) ∈ BW := bw_5 (List.mem_of_getElem? (i := 170) rfl) rfl
theorem w_1131 : (.methodLink "KateDeskLaw" 133 ⟨"KateDeskModel", "unity", "(II)V"⟩ : Cond) ∈ BW := bw_5 (List.mem_of_getElem? (i := 171) rfl) rfl
theorem w_1132 : (.instanceMethod ⟨"KateDeskModel", "unity", "(II)V"⟩ : Cond) ∈ BW := bw_5 (List.mem_of_getElem? (i := 172) rfl) rfl
theorem w_1133 : (.selects "KateDeskModel" ⟨"KateDeskModel", "unity", "(II)V"⟩ ⟨"KateDeskModel", "unity", "(II)V"⟩ : Cond) ∈ BW := bw_5 (List.mem_of_getElem? (i := 173) rfl) rfl
theorem w_1134 : (.code ⟨"KateDeskModel", "unity", "(II)V"⟩ prog_11_method_44_code 3 none : Cond) ∈ BW := bw_5 (List.mem_of_getElem? (i := 174) rfl) rfl
theorem w_1135 : (.constantLong "KateDeskModel" 257 (32 : Int64) : Cond) ∈ BW := bw_5 (List.mem_of_getElem? (i := 175) rfl) rfl
theorem w_1136 : (.methodLink "KateDeskModel" 259 ⟨"KateDeskModel", "unit", "(II)V"⟩ : Cond) ∈ BW := bw_5 (List.mem_of_getElem? (i := 176) rfl) rfl
theorem w_1138 : (.instanceMethod ⟨"KateDeskModel", "unit", "(II)V"⟩ : Cond) ∈ BW := bw_5 (List.mem_of_getElem? (i := 178) rfl) rfl
theorem w_1139 : (.code ⟨"KateDeskModel", "unit", "(II)V"⟩ prog_11_method_43_code 3 none : Cond) ∈ BW := bw_5 (List.mem_of_getElem? (i := 179) rfl) rfl
theorem w_1140 : (.constantLong "KateDeskModel" 252 (-1 : Int64) : Cond) ∈ BW := bw_5 (List.mem_of_getElem? (i := 180) rfl) rfl
theorem w_1141 : (.methodLink "KateDeskModel" 254 ⟨"KateDeskModel", "halves", "(II)V"⟩ : Cond) ∈ BW := bw_5 (List.mem_of_getElem? (i := 181) rfl) rfl
theorem w_1143 : (.instanceMethod ⟨"KateDeskModel", "halves", "(II)V"⟩ : Cond) ∈ BW := bw_5 (List.mem_of_getElem? (i := 183) rfl) rfl
theorem w_1144 : (.code ⟨"KateDeskModel", "halves", "(II)V"⟩ prog_11_method_22_code 5 none : Cond) ∈ BW := bw_5 (List.mem_of_getElem? (i := 184) rfl) rfl
theorem w_1145 : (.methodLink "KateDeskLaw" 136 ⟨"KateDeskModel", "point", "(I)I"⟩ : Cond) ∈ BW := bw_5 (List.mem_of_getElem? (i := 185) rfl) rfl
theorem w_1146 : (.instanceMethod ⟨"KateDeskModel", "point", "(I)I"⟩ : Cond) ∈ BW := bw_5 (List.mem_of_getElem? (i := 186) rfl) rfl
theorem w_1147 : (.selects "KateDeskModel" ⟨"KateDeskModel", "point", "(I)I"⟩ ⟨"KateDeskModel", "point", "(I)I"⟩ : Cond) ∈ BW := bw_5 (List.mem_of_getElem? (i := 187) rfl) rfl
theorem w_1148 : (.code ⟨"KateDeskModel", "point", "(I)I"⟩ prog_11_method_46_code 6 (Option.some FieldType.int) : Cond) ∈ BW := bw_5 (List.mem_of_getElem? (i := 188) rfl) rfl
theorem w_1149 : (.methodLink "KateDeskModel" 262 ⟨"KateDeskModel", "noPoint", "(I)Z"⟩ : Cond) ∈ BW := bw_5 (List.mem_of_getElem? (i := 189) rfl) rfl
theorem w_1150 : (.static ⟨"KateDeskModel", "noPoint", "(I)Z"⟩ : Cond) ∈ BW := bw_5 (List.mem_of_getElem? (i := 190) rfl) rfl
theorem w_1151 : (.code ⟨"KateDeskModel", "noPoint", "(I)Z"⟩ prog_11_method_34_code 1 (Option.some FieldType.boolean) : Cond) ∈ BW := bw_5 (List.mem_of_getElem? (i := 191) rfl) rfl
theorem w_1152 : (.methodLink "KateDeskModel" 265 ⟨"KateDeskModel", "slot", "(I)I"⟩ : Cond) ∈ BW := bw_5 (List.mem_of_getElem? (i := 192) rfl) rfl
theorem w_1153 : (.static ⟨"KateDeskModel", "slot", "(I)I"⟩ : Cond) ∈ BW := bw_5 (List.mem_of_getElem? (i := 193) rfl) rfl
theorem w_1154 : (.code ⟨"KateDeskModel", "slot", "(I)I"⟩ prog_11_method_36_code 1 (Option.some FieldType.int) : Cond) ∈ BW := bw_5 (List.mem_of_getElem? (i := 194) rfl) rfl
theorem w_1155 : (.constantLong "KateDeskModel" 269 (4 : Int64) : Cond) ∈ BW := bw_5 (List.mem_of_getElem? (i := 195) rfl) rfl
theorem w_1156 : (.methodLink "KateDeskModel" 271 ⟨"KateDeskModel", "isGreat", "(I)Z"⟩ : Cond) ∈ BW := bw_5 (List.mem_of_getElem? (i := 196) rfl) rfl
theorem w_1158 : (.instanceMethod ⟨"KateDeskModel", "isGreat", "(I)Z"⟩ : Cond) ∈ BW := bw_5 (List.mem_of_getElem? (i := 198) rfl) rfl
theorem w_1159 : (.code ⟨"KateDeskModel", "isGreat", "(I)Z"⟩ prog_11_method_45_code 3 (Option.some FieldType.boolean) : Cond) ∈ BW := bw_5 (List.mem_of_getElem? (i := 199) rfl) rfl
theorem w_1160 : (.methodLink "KateDeskModel" 215 ⟨"KateDeskModel", "isSame", "(II)Z"⟩ : Cond) ∈ BW := bw_5 (List.mem_of_getElem? (i := 200) rfl) rfl
theorem w_1162 : (.instanceMethod ⟨"KateDeskModel", "isSame", "(II)Z"⟩ : Cond) ∈ BW := bw_5 (List.mem_of_getElem? (i := 202) rfl) rfl
theorem w_1163 : (.code ⟨"KateDeskModel", "isSame", "(II)Z"⟩ prog_11_method_11_code 5 (Option.some FieldType.boolean) : Cond) ∈ BW := bw_5 (List.mem_of_getElem? (i := 203) rfl) rfl
theorem w_1164 : (.methodLink "KateDeskModel" 274 ⟨"KateDeskModel", "multiple", "(III)V"⟩ : Cond) ∈ BW := bw_5 (List.mem_of_getElem? (i := 204) rfl) rfl
theorem w_1166 : (.instanceMethod ⟨"KateDeskModel", "multiple", "(III)V"⟩ : Cond) ∈ BW := bw_5 (List.mem_of_getElem? (i := 206) rfl) rfl
theorem w_1167 : (.code ⟨"KateDeskModel", "multiple", "(III)V"⟩ prog_11_method_31_code 5 none : Cond) ∈ BW := bw_5 (List.mem_of_getElem? (i := 207) rfl) rfl
theorem w_1168 : (.methodLink "KateDeskModel" 209 ⟨"KateDeskModel", "movePoint", "(II)V"⟩ : Cond) ∈ BW := bw_5 (List.mem_of_getElem? (i := 208) rfl) rfl
theorem w_1170 : (.instanceMethod ⟨"KateDeskModel", "movePoint", "(II)V"⟩ : Cond) ∈ BW := bw_5 (List.mem_of_getElem? (i := 210) rfl) rfl
theorem w_1171 : (.code ⟨"KateDeskModel", "movePoint", "(II)V"⟩ prog_11_method_28_code 4 none : Cond) ∈ BW := bw_5 (List.mem_of_getElem? (i := 211) rfl) rfl
theorem w_1172 : (.methodLink "KateDeskModel" 212 ⟨"KateDeskModel", "sum", "(III)V"⟩ : Cond) ∈ BW := bw_5 (List.mem_of_getElem? (i := 212) rfl) rfl
theorem w_1174 : (.instanceMethod ⟨"KateDeskModel", "sum", "(III)V"⟩ : Cond) ∈ BW := bw_5 (List.mem_of_getElem? (i := 214) rfl) rfl
theorem w_1175 : (.code ⟨"KateDeskModel", "sum", "(III)V"⟩ prog_11_method_30_code 4 none : Cond) ∈ BW := bw_5 (List.mem_of_getElem? (i := 215) rfl) rfl
theorem w_1176 : (.methodLink "KateDeskModel" 206 ⟨"KateDeskModel", "twelve", "(I)V"⟩ : Cond) ∈ BW := bw_5 (List.mem_of_getElem? (i := 216) rfl) rfl
theorem w_1178 : (.instanceMethod ⟨"KateDeskModel", "twelve", "(I)V"⟩ : Cond) ∈ BW := bw_5 (List.mem_of_getElem? (i := 218) rfl) rfl
theorem w_1179 : (.code ⟨"KateDeskModel", "twelve", "(I)V"⟩ prog_11_method_29_code 2 none : Cond) ∈ BW := bw_5 (List.mem_of_getElem? (i := 219) rfl) rfl
theorem w_1180 : (.methodLink "KateDeskLaw" 140 ⟨"KateDeskModel", "bytes", "(IZ)V"⟩ : Cond) ∈ BW := bw_5 (List.mem_of_getElem? (i := 220) rfl) rfl
theorem w_1181 : (.instanceMethod ⟨"KateDeskModel", "bytes", "(IZ)V"⟩ : Cond) ∈ BW := bw_5 (List.mem_of_getElem? (i := 221) rfl) rfl
theorem w_1182 : (.selects "KateDeskModel" ⟨"KateDeskModel", "bytes", "(IZ)V"⟩ ⟨"KateDeskModel", "bytes", "(IZ)V"⟩ : Cond) ∈ BW := bw_5 (List.mem_of_getElem? (i := 222) rfl) rfl
theorem w_1183 : (.code ⟨"KateDeskModel", "bytes", "(IZ)V"⟩ prog_11_method_47_code 6 none : Cond) ∈ BW := bw_5 (List.mem_of_getElem? (i := 223) rfl) rfl
theorem w_1184 : (.methodLink "KateDeskModel" 280 ⟨"KateDeskModel", "byteOf", "(II)I"⟩ : Cond) ∈ BW := bw_5 (List.mem_of_getElem? (i := 224) rfl) rfl
theorem w_1186 : (.instanceMethod ⟨"KateDeskModel", "byteOf", "(II)I"⟩ : Cond) ∈ BW := bw_5 (List.mem_of_getElem? (i := 226) rfl) rfl
theorem w_1187 : (.code ⟨"KateDeskModel", "byteOf", "(II)I"⟩ prog_11_method_24_code 5 (Option.some FieldType.int) : Cond) ∈ BW := bw_5 (List.mem_of_getElem? (i := 227) rfl) rfl
theorem w_1188 : (.methodLink "KateDeskLaw" 143 ⟨"KateDeskModel", "out", "(I)J"⟩ : Cond) ∈ BW := bw_5 (List.mem_of_getElem? (i := 228) rfl) rfl
theorem w_1189 : (.instanceMethod ⟨"KateDeskModel", "out", "(I)J"⟩ : Cond) ∈ BW := bw_5 (List.mem_of_getElem? (i := 229) rfl) rfl
theorem w_1190 : (.selects "KateDeskModel" ⟨"KateDeskModel", "out", "(I)J"⟩ ⟨"KateDeskModel", "out", "(I)J"⟩ : Cond) ∈ BW := bw_5 (List.mem_of_getElem? (i := 230) rfl) rfl
theorem w_1191 : (.code ⟨"KateDeskModel", "out", "(I)J"⟩ prog_11_method_48_code 5 (Option.some FieldType.long) : Cond) ∈ BW := bw_5 (List.mem_of_getElem? (i := 231) rfl) rfl
theorem w_1192 : (.methodLink "KateDeskLaw" 146 ⟨"KateDeskModel", "join", "(IIII)V"⟩ : Cond) ∈ BW := bw_5 (List.mem_of_getElem? (i := 232) rfl) rfl
theorem w_1193 : (.instanceMethod ⟨"KateDeskModel", "join", "(IIII)V"⟩ : Cond) ∈ BW := bw_5 (List.mem_of_getElem? (i := 233) rfl) rfl
theorem w_1194 : (.selects "KateDeskModel" ⟨"KateDeskModel", "join", "(IIII)V"⟩ ⟨"KateDeskModel", "join", "(IIII)V"⟩ : Cond) ∈ BW := bw_5 (List.mem_of_getElem? (i := 234) rfl) rfl
theorem w_1195 : (.code ⟨"KateDeskModel", "join", "(IIII)V"⟩ prog_11_method_49_code 5 none : Cond) ∈ BW := bw_5 (List.mem_of_getElem? (i := 235) rfl) rfl
theorem w_1196 : (.methodLink "KateDeskLaw" 150 ⟨"KateDeskModel", "times", "(III)V"⟩ : Cond) ∈ BW := bw_5 (List.mem_of_getElem? (i := 236) rfl) rfl
theorem w_1197 : (.instanceMethod ⟨"KateDeskModel", "times", "(III)V"⟩ : Cond) ∈ BW := bw_5 (List.mem_of_getElem? (i := 237) rfl) rfl
theorem w_1198 : (.selects "KateDeskModel" ⟨"KateDeskModel", "times", "(III)V"⟩ ⟨"KateDeskModel", "times", "(III)V"⟩ : Cond) ∈ BW := bw_5 (List.mem_of_getElem? (i := 238) rfl) rfl
theorem w_1199 : (.code ⟨"KateDeskModel", "times", "(III)V"⟩ prog_11_method_50_code 4 none : Cond) ∈ BW := bw_5 (List.mem_of_getElem? (i := 239) rfl) rfl
theorem w_1200 : (.methodLink "KateDeskLaw" 153 ⟨"KateDeskModel", "combine", "(IIII)V"⟩ : Cond) ∈ BW := bw_6 (List.mem_of_getElem? (i := 0) rfl) rfl
theorem w_1201 : (.instanceMethod ⟨"KateDeskModel", "combine", "(IIII)V"⟩ : Cond) ∈ BW := bw_6 (List.mem_of_getElem? (i := 1) rfl) rfl
theorem w_1202 : (.selects "KateDeskModel" ⟨"KateDeskModel", "combine", "(IIII)V"⟩ ⟨"KateDeskModel", "combine", "(IIII)V"⟩ : Cond) ∈ BW := bw_6 (List.mem_of_getElem? (i := 2) rfl) rfl
theorem w_1203 : (.code ⟨"KateDeskModel", "combine", "(IIII)V"⟩ prog_11_method_52_code 6 none : Cond) ∈ BW := bw_6 (List.mem_of_getElem? (i := 3) rfl) rfl
theorem w_1204 : (.methodLink "KateDeskModel" 283 ⟨"KateDeskModel", "noScalars", "(II)Z"⟩ : Cond) ∈ BW := bw_6 (List.mem_of_getElem? (i := 4) rfl) rfl
theorem w_1205 : (.static ⟨"KateDeskModel", "noScalars", "(II)Z"⟩ : Cond) ∈ BW := bw_6 (List.mem_of_getElem? (i := 5) rfl) rfl
theorem w_1206 : (.code ⟨"KateDeskModel", "noScalars", "(II)Z"⟩ prog_11_method_35_code 2 (Option.some FieldType.boolean) : Cond) ∈ BW := bw_6 (List.mem_of_getElem? (i := 6) rfl) rfl
theorem w_1207 : (.methodLink "KateDeskModel" 286 ⟨"KateDeskModel", "sums", "(III)V"⟩ : Cond) ∈ BW := bw_6 (List.mem_of_getElem? (i := 7) rfl) rfl
theorem w_1209 : (.instanceMethod ⟨"KateDeskModel", "sums", "(III)V"⟩ : Cond) ∈ BW := bw_6 (List.mem_of_getElem? (i := 9) rfl) rfl
theorem w_1210 : (.code ⟨"KateDeskModel", "sums", "(III)V"⟩ prog_11_method_51_code 5 none : Cond) ∈ BW := bw_6 (List.mem_of_getElem? (i := 10) rfl) rfl
theorem w_1211 : (.methodLink "KateDeskLaw" 156 ⟨"KateDeskModel", "same", "(II)Z"⟩ : Cond) ∈ BW := bw_6 (List.mem_of_getElem? (i := 11) rfl) rfl
theorem w_1212 : (.instanceMethod ⟨"KateDeskModel", "same", "(II)Z"⟩ : Cond) ∈ BW := bw_6 (List.mem_of_getElem? (i := 12) rfl) rfl
theorem w_1213 : (.selects "KateDeskModel" ⟨"KateDeskModel", "same", "(II)Z"⟩ ⟨"KateDeskModel", "same", "(II)Z"⟩ : Cond) ∈ BW := bw_6 (List.mem_of_getElem? (i := 13) rfl) rfl
theorem w_1214 : (.code ⟨"KateDeskModel", "same", "(II)Z"⟩ prog_11_method_53_code 3 (Option.some FieldType.boolean) : Cond) ∈ BW := bw_6 (List.mem_of_getElem? (i := 14) rfl) rfl
theorem w_1215 : (.methodLink "KateDeskModel" 289 ⟨"KateDeskModel", "alike", "(II)Z"⟩ : Cond) ∈ BW := bw_6 (List.mem_of_getElem? (i := 15) rfl) rfl
theorem w_1217 : (.instanceMethod ⟨"KateDeskModel", "alike", "(II)Z"⟩ : Cond) ∈ BW := bw_6 (List.mem_of_getElem? (i := 17) rfl) rfl
theorem w_1218 : (.code ⟨"KateDeskModel", "alike", "(II)Z"⟩ prog_11_method_32_code 3 (Option.some FieldType.boolean) : Cond) ∈ BW := bw_6 (List.mem_of_getElem? (i := 18) rfl) rfl
theorem w_1219 : (.methodLink "KateDeskLaw" 159 ⟨"KateDeskModel", "setup", "(II)V"⟩ : Cond) ∈ BW := bw_6 (List.mem_of_getElem? (i := 19) rfl) rfl
theorem w_1220 : (.instanceMethod ⟨"KateDeskModel", "setup", "(II)V"⟩ : Cond) ∈ BW := bw_6 (List.mem_of_getElem? (i := 20) rfl) rfl
theorem w_1221 : (.selects "KateDeskModel" ⟨"KateDeskModel", "setup", "(II)V"⟩ ⟨"KateDeskModel", "setup", "(II)V"⟩ : Cond) ∈ BW := bw_6 (List.mem_of_getElem? (i := 21) rfl) rfl
theorem w_1222 : (.code ⟨"KateDeskModel", "setup", "(II)V"⟩ prog_11_method_54_code 4 none : Cond) ∈ BW := bw_6 (List.mem_of_getElem? (i := 22) rfl) rfl
theorem w_1223 : (.constantLong "KateDeskModel" 292 (16 : Int64) : Cond) ∈ BW := bw_6 (List.mem_of_getElem? (i := 23) rfl) rfl
theorem w_1224 : (.methodLink "KateDeskLaw" 162 ⟨"KateDeskModel", "commit", "(III)V"⟩ : Cond) ∈ BW := bw_6 (List.mem_of_getElem? (i := 24) rfl) rfl
theorem w_1225 : (.instanceMethod ⟨"KateDeskModel", "commit", "(III)V"⟩ : Cond) ∈ BW := bw_6 (List.mem_of_getElem? (i := 25) rfl) rfl
theorem w_1226 : (.selects "KateDeskModel" ⟨"KateDeskModel", "commit", "(III)V"⟩ ⟨"KateDeskModel", "commit", "(III)V"⟩ : Cond) ∈ BW := bw_6 (List.mem_of_getElem? (i := 26) rfl) rfl
theorem w_1227 : (.code ⟨"KateDeskModel", "commit", "(III)V"⟩ prog_11_method_55_code 4 none : Cond) ∈ BW := bw_6 (List.mem_of_getElem? (i := 27) rfl) rfl
theorem w_1228 : (.methodLink "KateDeskLaw" 165 ⟨"KateDeskModel", "open", "(IIII)V"⟩ : Cond) ∈ BW := bw_6 (List.mem_of_getElem? (i := 28) rfl) rfl
theorem w_1229 : (.instanceMethod ⟨"KateDeskModel", "open", "(IIII)V"⟩ : Cond) ∈ BW := bw_6 (List.mem_of_getElem? (i := 29) rfl) rfl
theorem w_1230 : (.selects "KateDeskModel" ⟨"KateDeskModel", "open", "(IIII)V"⟩ ⟨"KateDeskModel", "open", "(IIII)V"⟩ : Cond) ∈ BW := bw_6 (List.mem_of_getElem? (i := 30) rfl) rfl
theorem w_1231 : (.code ⟨"KateDeskModel", "open", "(IIII)V"⟩ prog_11_method_57_code 6 none : Cond) ∈ BW := bw_6 (List.mem_of_getElem? (i := 31) rfl) rfl
theorem w_1232 : (.methodLink "KateDeskModel" 297 ⟨"KateDeskModel", "value", "(IIII)V"⟩ : Cond) ∈ BW := bw_6 (List.mem_of_getElem? (i := 32) rfl) rfl
theorem w_1234 : (.instanceMethod ⟨"KateDeskModel", "value", "(IIII)V"⟩ : Cond) ∈ BW := bw_6 (List.mem_of_getElem? (i := 34) rfl) rfl
theorem w_1235 : (.code ⟨"KateDeskModel", "value", "(IIII)V"⟩ prog_11_method_56_code 6 none : Cond) ∈ BW := bw_6 (List.mem_of_getElem? (i := 35) rfl) rfl
theorem w_1236 : (.methodLink "KateDeskLaw" 169 ⟨"KateDeskModel", "checks", "(IIIII)Z"⟩ : Cond) ∈ BW := bw_6 (List.mem_of_getElem? (i := 36) rfl) rfl
theorem w_1237 : (.instanceMethod ⟨"KateDeskModel", "checks", "(IIIII)Z"⟩ : Cond) ∈ BW := bw_6 (List.mem_of_getElem? (i := 37) rfl) rfl
theorem w_1238 : (.selects "KateDeskModel" ⟨"KateDeskModel", "checks", "(IIIII)Z"⟩ ⟨"KateDeskModel", "checks", "(IIIII)Z"⟩ : Cond) ∈ BW := bw_6 (List.mem_of_getElem? (i := 38) rfl) rfl
theorem w_1239 : (.code ⟨"KateDeskModel", "checks", "(IIIII)Z"⟩ prog_11_method_58_code 6 (Option.some FieldType.boolean) : Cond) ∈ BW := bw_6 (List.mem_of_getElem? (i := 39) rfl) rfl
theorem w_1240 : (.methodLink "KateDeskLaw" 173 ⟨"KateDeskModel", "transform", "(IIZ)V"⟩ : Cond) ∈ BW := bw_6 (List.mem_of_getElem? (i := 40) rfl) rfl
theorem w_1241 : (.instanceMethod ⟨"KateDeskModel", "transform", "(IIZ)V"⟩ : Cond) ∈ BW := bw_6 (List.mem_of_getElem? (i := 41) rfl) rfl
theorem w_1242 : (.selects "KateDeskModel" ⟨"KateDeskModel", "transform", "(IIZ)V"⟩ ⟨"KateDeskModel", "transform", "(IIZ)V"⟩ : Cond) ∈ BW := bw_6 (List.mem_of_getElem? (i := 42) rfl) rfl
theorem w_1243 : (.code ⟨"KateDeskModel", "transform", "(IIZ)V"⟩ prog_11_method_59_code 7 none : Cond) ∈ BW := bw_6 (List.mem_of_getElem? (i := 43) rfl) rfl
theorem w_1244 : (.methodLink "KateDeskLaw" 176 ⟨"KateDeskModel", "lagrange", "(IIII)V"⟩ : Cond) ∈ BW := bw_6 (List.mem_of_getElem? (i := 44) rfl) rfl
theorem w_1245 : (.instanceMethod ⟨"KateDeskModel", "lagrange", "(IIII)V"⟩ : Cond) ∈ BW := bw_6 (List.mem_of_getElem? (i := 45) rfl) rfl
theorem w_1246 : (.selects "KateDeskModel" ⟨"KateDeskModel", "lagrange", "(IIII)V"⟩ ⟨"KateDeskModel", "lagrange", "(IIII)V"⟩ : Cond) ∈ BW := bw_6 (List.mem_of_getElem? (i := 46) rfl) rfl
theorem w_1247 : (.code ⟨"KateDeskModel", "lagrange", "(IIII)V"⟩ prog_11_method_60_code 5 none : Cond) ∈ BW := bw_6 (List.mem_of_getElem? (i := 47) rfl) rfl
theorem w_1248 : (.methodLink "KateDeskLaw" 179 ⟨"KateDeskModel", "look", "(I)I"⟩ : Cond) ∈ BW := bw_6 (List.mem_of_getElem? (i := 48) rfl) rfl
theorem w_1249 : (.instanceMethod ⟨"KateDeskModel", "look", "(I)I"⟩ : Cond) ∈ BW := bw_6 (List.mem_of_getElem? (i := 49) rfl) rfl
theorem w_1250 : (.selects "KateDeskModel" ⟨"KateDeskModel", "look", "(I)I"⟩ ⟨"KateDeskModel", "look", "(I)I"⟩ : Cond) ∈ BW := bw_6 (List.mem_of_getElem? (i := 50) rfl) rfl
theorem w_1251 : (.code ⟨"KateDeskModel", "look", "(I)I"⟩ prog_11_method_61_code 2 (Option.some FieldType.int) : Cond) ∈ BW := bw_6 (List.mem_of_getElem? (i := 51) rfl) rfl
theorem w_1252 : (.constantLong "KateDeskLaw" 98 (4294967295 : Int64) : Cond) ∈ BW := bw_6 (List.mem_of_getElem? (i := 52) rfl) rfl
theorem w_1253 : (.sameMethod "java/lang/Throwable" "java/lang/Throwable" "fillInStackTrace" "(I)Ljava/lang/Throwable;" : Cond) ∈ BW := bw_6 (List.mem_of_getElem? (i := 53) rfl) rfl
theorem w_1254 : (.fieldLink "java/lang/String" 9 "java/lang/String" "value" "[B" : Cond) ∈ BW := bw_6 (List.mem_of_getElem? (i := 54) rfl) rfl
theorem w_1255 : (.fieldLink "java/lang/String" 15 "java/lang/String" "coder" "B" : Cond) ∈ BW := bw_6 (List.mem_of_getElem? (i := 55) rfl) rfl
