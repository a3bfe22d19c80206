section
-- ===== PART A: goes FIRST, ahead of the names: the tables' words, and 'selects' of the private methods out of them =====
/-- a private method of a class that the tables say can be made, by its rows of tables_1 -/
def lw_okq (q : MethodName × Nat) : Prop := (q.1.cls ≠ "java/lang/invoke/MethodHandle" ∧ q.1.cls ≠ "java/lang/invoke/VarHandle") ∧ Cond.instantiable q.1.cls q.2 ∈ tables_1 ∧ Cond.privateMethod q.1 ∈ tables_1 ∧ Cond.instanceMethod q.1 ∈ tables_1
theorem lw_p0 : lw_okq (⟨"KateDesk$Field", "doubled", "([JI)V"⟩, 7) := ⟨⟨by decide +kernel, by decide +kernel⟩, List.mem_of_getElem? (i := 82) (by decide +kernel), List.mem_of_getElem? (i := 151) (by decide +kernel), List.mem_of_getElem? (i := 152) (by decide +kernel)⟩
theorem lw_p1 : lw_okq (⟨"KateDesk$Field", "reduce", "([J)V"⟩, 7) := ⟨⟨by decide +kernel, by decide +kernel⟩, List.mem_of_getElem? (i := 82) (by decide +kernel), List.mem_of_getElem? (i := 159) (by decide +kernel), List.mem_of_getElem? (i := 160) (by decide +kernel)⟩
theorem lw_p2 : lw_okq (⟨"java/lang/Throwable", "fillInStackTrace", "(I)Ljava/lang/Throwable;"⟩, 6) := ⟨⟨by decide +kernel, by decide +kernel⟩, List.mem_of_getElem? (i := 437) (by decide +kernel), List.mem_of_getElem? (i := 435) (by decide +kernel), List.mem_of_getElem? (i := 436) (by decide +kernel)⟩
theorem lw_p3 : lw_okq (⟨"KateDesk$Polynomials", "rootExponent", "(I)V"⟩, 9) := ⟨⟨by decide +kernel, by decide +kernel⟩, List.mem_of_getElem? (i := 292) (by decide +kernel), List.mem_of_getElem? (i := 603) (by decide +kernel), List.mem_of_getElem? (i := 604) (by decide +kernel)⟩
theorem lw_p4 : lw_okq (⟨"KateDesk$Forms", "readCoordinate", "([JLKateDesk$Row;I)Z"⟩, 6) := ⟨⟨by decide +kernel, by decide +kernel⟩, List.mem_of_getElem? (i := 261) (by decide +kernel), List.mem_of_getElem? (i := 641) (by decide +kernel), List.mem_of_getElem? (i := 642) (by decide +kernel)⟩
theorem lw_p5 : lw_okq (⟨"KateDesk$Forms", "findY", "([JZ)V"⟩, 6) := ⟨⟨by decide +kernel, by decide +kernel⟩, List.mem_of_getElem? (i := 261) (by decide +kernel), List.mem_of_getElem? (i := 655) (by decide +kernel), List.mem_of_getElem? (i := 656) (by decide +kernel)⟩
theorem lw_p6 : lw_okq (⟨"KateDesk$Forms", "isGreater", "([J)Z"⟩, 6) := ⟨⟨by decide +kernel, by decide +kernel⟩, List.mem_of_getElem? (i := 261) (by decide +kernel), List.mem_of_getElem? (i := 661) (by decide +kernel), List.mem_of_getElem? (i := 662) (by decide +kernel)⟩
theorem lw_p7 : lw_okq (⟨"KateDesk", "isGood", "(LKateDesk$Point;)Z"⟩, 16) := ⟨⟨by decide +kernel, by decide +kernel⟩, List.mem_of_getElem? (i := 26) (by decide +kernel), List.mem_of_getElem? (i := 671) (by decide +kernel), List.mem_of_getElem? (i := 672) (by decide +kernel)⟩
theorem lw_p8 : lw_okq (⟨"KateDesk$Curve", "twelvefold", "([J[J)V"⟩, 10) := ⟨⟨by decide +kernel, by decide +kernel⟩, List.mem_of_getElem? (i := 200) (by decide +kernel), List.mem_of_getElem? (i := 704) (by decide +kernel), List.mem_of_getElem? (i := 705) (by decide +kernel)⟩
theorem lw_p9 : lw_okq (⟨"KateDesk$Curve", "mixed", "([J[J[J[J[J[J[J)V"⟩, 10) := ⟨⟨by decide +kernel, by decide +kernel⟩, List.mem_of_getElem? (i := 200) (by decide +kernel), List.mem_of_getElem? (i := 714) (by decide +kernel), List.mem_of_getElem? (i := 715) (by decide +kernel)⟩
theorem lw_p10 : lw_okq (⟨"KateDesk$Curve", "equalRatios", "([J[J[J[J)Z"⟩, 10) := ⟨⟨by decide +kernel, by decide +kernel⟩, List.mem_of_getElem? (i := 200) (by decide +kernel), List.mem_of_getElem? (i := 812) (by decide +kernel), List.mem_of_getElem? (i := 813) (by decide +kernel)⟩
theorem lw_p11 : lw_okq (⟨"KateDesk", "spreadGenerator", "()V"⟩, 16) := ⟨⟨by decide +kernel, by decide +kernel⟩, List.mem_of_getElem? (i := 26) (by decide +kernel), List.mem_of_getElem? (i := 824) (by decide +kernel), List.mem_of_getElem? (i := 825) (by decide +kernel)⟩
theorem lw_p12 : lw_okq (⟨"KateDesk", "timesGenerator", "(LKateDesk$Point;[J)V"⟩, 16) := ⟨⟨by decide +kernel, by decide +kernel⟩, List.mem_of_getElem? (i := 26) (by decide +kernel), List.mem_of_getElem? (i := 830) (by decide +kernel), List.mem_of_getElem? (i := 831) (by decide +kernel)⟩
theorem lw_p13 : lw_okq (⟨"KateDesk$Polynomials", "findValues", "([[JII)V"⟩, 9) := ⟨⟨by decide +kernel, by decide +kernel⟩, List.mem_of_getElem? (i := 292) (by decide +kernel), List.mem_of_getElem? (i := 876) (by decide +kernel), List.mem_of_getElem? (i := 877) (by decide +kernel)⟩
theorem lw_p14 : lw_okq (⟨"KateDesk$Polynomials", "findShare", "(I)V"⟩, 9) := ⟨⟨by decide +kernel, by decide +kernel⟩, List.mem_of_getElem? (i := 292) (by decide +kernel), List.mem_of_getElem? (i := 881) (by decide +kernel), List.mem_of_getElem? (i := 882) (by decide +kernel)⟩
theorem lw_p15 : lw_okq (⟨"KateDeskModel", "use", "(I)V"⟩, 14) := ⟨⟨by decide +kernel, by decide +kernel⟩, List.mem_of_getElem? (i := 908) (by decide +kernel), List.mem_of_getElem? (i := 965) (by decide +kernel), List.mem_of_getElem? (i := 966) (by decide +kernel)⟩
def lw_privs_1 : List (MethodName × Nat) := [(⟨"KateDesk$Field", "doubled", "([JI)V"⟩, 7), (⟨"KateDesk$Field", "reduce", "([J)V"⟩, 7), (⟨"java/lang/Throwable", "fillInStackTrace", "(I)Ljava/lang/Throwable;"⟩, 6), (⟨"KateDesk$Polynomials", "rootExponent", "(I)V"⟩, 9), (⟨"KateDesk$Forms", "readCoordinate", "([JLKateDesk$Row;I)Z"⟩, 6), (⟨"KateDesk$Forms", "findY", "([JZ)V"⟩, 6), (⟨"KateDesk$Forms", "isGreater", "([J)Z"⟩, 6), (⟨"KateDesk", "isGood", "(LKateDesk$Point;)Z"⟩, 16), (⟨"KateDesk$Curve", "twelvefold", "([J[J)V"⟩, 10), (⟨"KateDesk$Curve", "mixed", "([J[J[J[J[J[J[J)V"⟩, 10), (⟨"KateDesk$Curve", "equalRatios", "([J[J[J[J)Z"⟩, 10), (⟨"KateDesk", "spreadGenerator", "()V"⟩, 16), (⟨"KateDesk", "timesGenerator", "(LKateDesk$Point;[J)V"⟩, 16), (⟨"KateDesk$Polynomials", "findValues", "([[JII)V"⟩, 9), (⟨"KateDesk$Polynomials", "findShare", "(I)V"⟩, 9), (⟨"KateDeskModel", "use", "(I)V"⟩, 14)]
theorem lw_r1 : ∀ q ∈ lw_privs_1, lw_okq q := List.forall_mem_cons.mpr ⟨lw_p0, List.forall_mem_cons.mpr ⟨lw_p1, List.forall_mem_cons.mpr ⟨lw_p2, List.forall_mem_cons.mpr ⟨lw_p3, List.forall_mem_cons.mpr ⟨lw_p4, List.forall_mem_cons.mpr ⟨lw_p5, List.forall_mem_cons.mpr ⟨lw_p6, List.forall_mem_cons.mpr ⟨lw_p7, List.forall_mem_cons.mpr ⟨lw_p8, List.forall_mem_cons.mpr ⟨lw_p9, List.forall_mem_cons.mpr ⟨lw_p10, List.forall_mem_cons.mpr ⟨lw_p11, List.forall_mem_cons.mpr ⟨lw_p12, List.forall_mem_cons.mpr ⟨lw_p13, List.forall_mem_cons.mpr ⟨lw_p14, List.forall_mem_cons.mpr ⟨lw_p15, fun _ h => absurd h List.not_mem_nil⟩⟩⟩⟩⟩⟩⟩⟩⟩⟩⟩⟩⟩⟩⟩⟩
theorem lw_p16 : lw_okq (⟨"KateDeskModel", "one", "(I)V"⟩, 14) := ⟨⟨by decide +kernel, by decide +kernel⟩, List.mem_of_getElem? (i := 908) (by decide +kernel), List.mem_of_getElem? (i := 969) (by decide +kernel), List.mem_of_getElem? (i := 970) (by decide +kernel)⟩
theorem lw_p17 : lw_okq (⟨"KateDeskModel", "add", "(III)V"⟩, 14) := ⟨⟨by decide +kernel, by decide +kernel⟩, List.mem_of_getElem? (i := 908) (by decide +kernel), List.mem_of_getElem? (i := 973) (by decide +kernel), List.mem_of_getElem? (i := 974) (by decide +kernel)⟩
theorem lw_p18 : lw_okq (⟨"KateDeskModel", "limb", "(II)J"⟩, 14) := ⟨⟨by decide +kernel, by decide +kernel⟩, List.mem_of_getElem? (i := 908) (by decide +kernel), List.mem_of_getElem? (i := 977) (by decide +kernel), List.mem_of_getElem? (i := 978) (by decide +kernel)⟩
theorem lw_p19 : lw_okq (⟨"KateDeskModel", "carries", "(I)V"⟩, 14) := ⟨⟨by decide +kernel, by decide +kernel⟩, List.mem_of_getElem? (i := 908) (by decide +kernel), List.mem_of_getElem? (i := 981) (by decide +kernel), List.mem_of_getElem? (i := 982) (by decide +kernel)⟩
theorem lw_p20 : lw_okq (⟨"KateDeskModel", "settles", "(I)V"⟩, 14) := ⟨⟨by decide +kernel, by decide +kernel⟩, List.mem_of_getElem? (i := 908) (by decide +kernel), List.mem_of_getElem? (i := 986) (by decide +kernel), List.mem_of_getElem? (i := 987) (by decide +kernel)⟩
theorem lw_p21 : lw_okq (⟨"KateDeskModel", "isBelow", "()Z"⟩, 14) := ⟨⟨by decide +kernel, by decide +kernel⟩, List.mem_of_getElem? (i := 908) (by decide +kernel), List.mem_of_getElem? (i := 990) (by decide +kernel), List.mem_of_getElem? (i := 991) (by decide +kernel)⟩
theorem lw_p22 : lw_okq (⟨"KateDeskModel", "nothing", "(I)V"⟩, 14) := ⟨⟨by decide +kernel, by decide +kernel⟩, List.mem_of_getElem? (i := 908) (by decide +kernel), List.mem_of_getElem? (i := 994) (by decide +kernel), List.mem_of_getElem? (i := 995) (by decide +kernel)⟩
theorem lw_p23 : lw_okq (⟨"KateDeskModel", "zero", "(I)V"⟩, 14) := ⟨⟨by decide +kernel, by decide +kernel⟩, List.mem_of_getElem? (i := 908) (by decide +kernel), List.mem_of_getElem? (i := 998) (by decide +kernel), List.mem_of_getElem? (i := 999) (by decide +kernel)⟩
theorem lw_p24 : lw_okq (⟨"KateDeskModel", "fails", "(ZI)Z"⟩, 14) := ⟨⟨by decide +kernel, by decide +kernel⟩, List.mem_of_getElem? (i := 908) (by decide +kernel), List.mem_of_getElem? (i := 1054) (by decide +kernel), List.mem_of_getElem? (i := 1055) (by decide +kernel)⟩
theorem lw_p25 : lw_okq (⟨"KateDeskModel", "setByte", "(III)V"⟩, 14) := ⟨⟨by decide +kernel, by decide +kernel⟩, List.mem_of_getElem? (i := 908) (by decide +kernel), List.mem_of_getElem? (i := 1066) (by decide +kernel), List.mem_of_getElem? (i := 1067) (by decide +kernel)⟩
theorem lw_p26 : lw_okq (⟨"KateDeskModel", "isNumber", "(I)Z"⟩, 14) := ⟨⟨by decide +kernel, by decide +kernel⟩, List.mem_of_getElem? (i := 908) (by decide +kernel), List.mem_of_getElem? (i := 1070) (by decide +kernel), List.mem_of_getElem? (i := 1071) (by decide +kernel)⟩
theorem lw_p27 : lw_okq (⟨"KateDeskModel", "move", "(II)V"⟩, 14) := ⟨⟨by decide +kernel, by decide +kernel⟩, List.mem_of_getElem? (i := 908) (by decide +kernel), List.mem_of_getElem? (i := 1074) (by decide +kernel), List.mem_of_getElem? (i := 1075) (by decide +kernel)⟩
theorem lw_p28 : lw_okq (⟨"KateDeskModel", "small", "(IJ)V"⟩, 14) := ⟨⟨by decide +kernel, by decide +kernel⟩, List.mem_of_getElem? (i := 908) (by decide +kernel), List.mem_of_getElem? (i := 1082) (by decide +kernel), List.mem_of_getElem? (i := 1083) (by decide +kernel)⟩
theorem lw_p29 : lw_okq (⟨"KateDeskModel", "bit", "(II)I"⟩, 14) := ⟨⟨by decide +kernel, by decide +kernel⟩, List.mem_of_getElem? (i := 908) (by decide +kernel), List.mem_of_getElem? (i := 1091) (by decide +kernel), List.mem_of_getElem? (i := 1092) (by decide +kernel)⟩
theorem lw_p30 : lw_okq (⟨"KateDeskModel", "isZero", "(I)Z"⟩, 14) := ⟨⟨by decide +kernel, by decide +kernel⟩, List.mem_of_getElem? (i := 908) (by decide +kernel), List.mem_of_getElem? (i := 1103) (by decide +kernel), List.mem_of_getElem? (i := 1104) (by decide +kernel)⟩
theorem lw_p31 : lw_okq (⟨"KateDeskModel", "less", "(III)V"⟩, 14) := ⟨⟨by decide +kernel, by decide +kernel⟩, List.mem_of_getElem? (i := 908) (by decide +kernel), List.mem_of_getElem? (i := 1107) (by decide +kernel), List.mem_of_getElem? (i := 1108) (by decide +kernel)⟩
def lw_privs_2 : List (MethodName × Nat) := [(⟨"KateDeskModel", "one", "(I)V"⟩, 14), (⟨"KateDeskModel", "add", "(III)V"⟩, 14), (⟨"KateDeskModel", "limb", "(II)J"⟩, 14), (⟨"KateDeskModel", "carries", "(I)V"⟩, 14), (⟨"KateDeskModel", "settles", "(I)V"⟩, 14), (⟨"KateDeskModel", "isBelow", "()Z"⟩, 14), (⟨"KateDeskModel", "nothing", "(I)V"⟩, 14), (⟨"KateDeskModel", "zero", "(I)V"⟩, 14), (⟨"KateDeskModel", "fails", "(ZI)Z"⟩, 14), (⟨"KateDeskModel", "setByte", "(III)V"⟩, 14), (⟨"KateDeskModel", "isNumber", "(I)Z"⟩, 14), (⟨"KateDeskModel", "move", "(II)V"⟩, 14), (⟨"KateDeskModel", "small", "(IJ)V"⟩, 14), (⟨"KateDeskModel", "bit", "(II)I"⟩, 14), (⟨"KateDeskModel", "isZero", "(I)Z"⟩, 14), (⟨"KateDeskModel", "less", "(III)V"⟩, 14)]
theorem lw_r2 : ∀ q ∈ lw_privs_2, lw_okq q := List.forall_mem_cons.mpr ⟨lw_p16, List.forall_mem_cons.mpr ⟨lw_p17, List.forall_mem_cons.mpr ⟨lw_p18, List.forall_mem_cons.mpr ⟨lw_p19, List.forall_mem_cons.mpr ⟨lw_p20, List.forall_mem_cons.mpr ⟨lw_p21, List.forall_mem_cons.mpr ⟨lw_p22, List.forall_mem_cons.mpr ⟨lw_p23, List.forall_mem_cons.mpr ⟨lw_p24, List.forall_mem_cons.mpr ⟨lw_p25, List.forall_mem_cons.mpr ⟨lw_p26, List.forall_mem_cons.mpr ⟨lw_p27, List.forall_mem_cons.mpr ⟨lw_p28, List.forall_mem_cons.mpr ⟨lw_p29, List.forall_mem_cons.mpr ⟨lw_p30, List.forall_mem_cons.mpr ⟨lw_p31, fun _ h => absurd h List.not_mem_nil⟩⟩⟩⟩⟩⟩⟩⟩⟩⟩⟩⟩⟩⟩⟩⟩
theorem lw_p32 : lw_okq (⟨"KateDeskModel", "product", "(III)V"⟩, 14) := ⟨⟨by decide +kernel, by decide +kernel⟩, List.mem_of_getElem? (i := 908) (by decide +kernel), List.mem_of_getElem? (i := 1111) (by decide +kernel), List.mem_of_getElem? (i := 1112) (by decide +kernel)⟩
theorem lw_p33 : lw_okq (⟨"KateDeskModel", "inverse", "(II)V"⟩, 14) := ⟨⟨by decide +kernel, by decide +kernel⟩, List.mem_of_getElem? (i := 908) (by decide +kernel), List.mem_of_getElem? (i := 1115) (by decide +kernel), List.mem_of_getElem? (i := 1116) (by decide +kernel)⟩
theorem lw_p34 : lw_okq (⟨"KateDeskModel", "primeAnd", "(IJ)V"⟩, 14) := ⟨⟨by decide +kernel, by decide +kernel⟩, List.mem_of_getElem? (i := 908) (by decide +kernel), List.mem_of_getElem? (i := 1120) (by decide +kernel), List.mem_of_getElem? (i := 1121) (by decide +kernel)⟩
theorem lw_p35 : lw_okq (⟨"KateDeskModel", "raise", "(III)V"⟩, 14) := ⟨⟨by decide +kernel, by decide +kernel⟩, List.mem_of_getElem? (i := 908) (by decide +kernel), List.mem_of_getElem? (i := 1124) (by decide +kernel), List.mem_of_getElem? (i := 1125) (by decide +kernel)⟩
theorem lw_p36 : lw_okq (⟨"KateDeskModel", "unit", "(II)V"⟩, 14) := ⟨⟨by decide +kernel, by decide +kernel⟩, List.mem_of_getElem? (i := 908) (by decide +kernel), List.mem_of_getElem? (i := 1137) (by decide +kernel), List.mem_of_getElem? (i := 1138) (by decide +kernel)⟩
theorem lw_p37 : lw_okq (⟨"KateDeskModel", "halves", "(II)V"⟩, 14) := ⟨⟨by decide +kernel, by decide +kernel⟩, List.mem_of_getElem? (i := 908) (by decide +kernel), List.mem_of_getElem? (i := 1142) (by decide +kernel), List.mem_of_getElem? (i := 1143) (by decide +kernel)⟩
theorem lw_p38 : lw_okq (⟨"KateDeskModel", "isGreat", "(I)Z"⟩, 14) := ⟨⟨by decide +kernel, by decide +kernel⟩, List.mem_of_getElem? (i := 908) (by decide +kernel), List.mem_of_getElem? (i := 1157) (by decide +kernel), List.mem_of_getElem? (i := 1158) (by decide +kernel)⟩
theorem lw_p39 : lw_okq (⟨"KateDeskModel", "isSame", "(II)Z"⟩, 14) := ⟨⟨by decide +kernel, by decide +kernel⟩, List.mem_of_getElem? (i := 908) (by decide +kernel), List.mem_of_getElem? (i := 1161) (by decide +kernel), List.mem_of_getElem? (i := 1162) (by decide +kernel)⟩
theorem lw_p40 : lw_okq (⟨"KateDeskModel", "multiple", "(III)V"⟩, 14) := ⟨⟨by decide +kernel, by decide +kernel⟩, List.mem_of_getElem? (i := 908) (by decide +kernel), List.mem_of_getElem? (i := 1165) (by decide +kernel), List.mem_of_getElem? (i := 1166) (by decide +kernel)⟩
theorem lw_p41 : lw_okq (⟨"KateDeskModel", "movePoint", "(II)V"⟩, 14) := ⟨⟨by decide +kernel, by decide +kernel⟩, List.mem_of_getElem? (i := 908) (by decide +kernel), List.mem_of_getElem? (i := 1169) (by decide +kernel), List.mem_of_getElem? (i := 1170) (by decide +kernel)⟩
theorem lw_p42 : lw_okq (⟨"KateDeskModel", "sum", "(III)V"⟩, 14) := ⟨⟨by decide +kernel, by decide +kernel⟩, List.mem_of_getElem? (i := 908) (by decide +kernel), List.mem_of_getElem? (i := 1173) (by decide +kernel), List.mem_of_getElem? (i := 1174) (by decide +kernel)⟩
theorem lw_p43 : lw_okq (⟨"KateDeskModel", "twelve", "(I)V"⟩, 14) := ⟨⟨by decide +kernel, by decide +kernel⟩, List.mem_of_getElem? (i := 908) (by decide +kernel), List.mem_of_getElem? (i := 1177) (by decide +kernel), List.mem_of_getElem? (i := 1178) (by decide +kernel)⟩
theorem lw_p44 : lw_okq (⟨"KateDeskModel", "byteOf", "(II)I"⟩, 14) := ⟨⟨by decide +kernel, by decide +kernel⟩, List.mem_of_getElem? (i := 908) (by decide +kernel), List.mem_of_getElem? (i := 1185) (by decide +kernel), List.mem_of_getElem? (i := 1186) (by decide +kernel)⟩
theorem lw_p45 : lw_okq (⟨"KateDeskModel", "sums", "(III)V"⟩, 14) := ⟨⟨by decide +kernel, by decide +kernel⟩, List.mem_of_getElem? (i := 908) (by decide +kernel), List.mem_of_getElem? (i := 1208) (by decide +kernel), List.mem_of_getElem? (i := 1209) (by decide +kernel)⟩
theorem lw_p46 : lw_okq (⟨"KateDeskModel", "alike", "(II)Z"⟩, 14) := ⟨⟨by decide +kernel, by decide +kernel⟩, List.mem_of_getElem? (i := 908) (by decide +kernel), List.mem_of_getElem? (i := 1216) (by decide +kernel), List.mem_of_getElem? (i := 1217) (by decide +kernel)⟩
theorem lw_p47 : lw_okq (⟨"KateDeskModel", "value", "(IIII)V"⟩, 14) := ⟨⟨by decide +kernel, by decide +kernel⟩, List.mem_of_getElem? (i := 908) (by decide +kernel), List.mem_of_getElem? (i := 1233) (by decide +kernel), List.mem_of_getElem? (i := 1234) (by decide +kernel)⟩
def lw_privs_3 : List (MethodName × Nat) := [(⟨"KateDeskModel", "product", "(III)V"⟩, 14), (⟨"KateDeskModel", "inverse", "(II)V"⟩, 14), (⟨"KateDeskModel", "primeAnd", "(IJ)V"⟩, 14), (⟨"KateDeskModel", "raise", "(III)V"⟩, 14), (⟨"KateDeskModel", "unit", "(II)V"⟩, 14), (⟨"KateDeskModel", "halves", "(II)V"⟩, 14), (⟨"KateDeskModel", "isGreat", "(I)Z"⟩, 14), (⟨"KateDeskModel", "isSame", "(II)Z"⟩, 14), (⟨"KateDeskModel", "multiple", "(III)V"⟩, 14), (⟨"KateDeskModel", "movePoint", "(II)V"⟩, 14), (⟨"KateDeskModel", "sum", "(III)V"⟩, 14), (⟨"KateDeskModel", "twelve", "(I)V"⟩, 14), (⟨"KateDeskModel", "byteOf", "(II)I"⟩, 14), (⟨"KateDeskModel", "sums", "(III)V"⟩, 14), (⟨"KateDeskModel", "alike", "(II)Z"⟩, 14), (⟨"KateDeskModel", "value", "(IIII)V"⟩, 14)]
theorem lw_r3 : ∀ q ∈ lw_privs_3, lw_okq q := List.forall_mem_cons.mpr ⟨lw_p32, List.forall_mem_cons.mpr ⟨lw_p33, List.forall_mem_cons.mpr ⟨lw_p34, List.forall_mem_cons.mpr ⟨lw_p35, List.forall_mem_cons.mpr ⟨lw_p36, List.forall_mem_cons.mpr ⟨lw_p37, List.forall_mem_cons.mpr ⟨lw_p38, List.forall_mem_cons.mpr ⟨lw_p39, List.forall_mem_cons.mpr ⟨lw_p40, List.forall_mem_cons.mpr ⟨lw_p41, List.forall_mem_cons.mpr ⟨lw_p42, List.forall_mem_cons.mpr ⟨lw_p43, List.forall_mem_cons.mpr ⟨lw_p44, List.forall_mem_cons.mpr ⟨lw_p45, List.forall_mem_cons.mpr ⟨lw_p46, List.forall_mem_cons.mpr ⟨lw_p47, fun _ h => absurd h List.not_mem_nil⟩⟩⟩⟩⟩⟩⟩⟩⟩⟩⟩⟩⟩⟩⟩⟩
def lw_privs : List (MethodName × Nat) := lw_privs_1 ++ (lw_privs_2 ++ (lw_privs_3))
def lw_tbl : List Cond := k2_sels lw_privs ++ tables_1
theorem lw_privs_ok : ∀ q ∈ lw_privs, lw_okq q := by
  show ∀ q ∈ lw_privs_1 ++ (lw_privs_2 ++ (lw_privs_3)), lw_okq q
  exact List.forall_mem_append.mpr ⟨lw_r1, List.forall_mem_append.mpr ⟨lw_r2, lw_r3⟩⟩

/-! the words that every method of this claim may use: those of lw_tbl that stay true -/
def BW : List Cond := k2_sels lw_privs ++ tables_1.filter goodWord
theorem bw_good : ∀ w ∈ BW, goodWord w = true := by
  intro w hw
  rcases List.mem_append.mp hw with h | h
  · obtain ⟨q, -, rfl⟩ := List.mem_map.mp h
    rfl
  · exact (List.mem_filter.mp h).2
theorem bw_t {w : Cond} (i : Nat) (h : tables_1[i]? = some w) (hg : goodWord w = true) : w ∈ BW := List.mem_append_right _ (List.mem_filter.mpr ⟨List.mem_of_getElem? h, hg⟩)
theorem bw_1 {w : Cond} (h : w ∈ tables_1_1) (hg : goodWord w = true) : w ∈ BW := List.mem_append_right _ (List.mem_filter.mpr ⟨List.mem_append_left _ h, hg⟩)
theorem bw_2 {w : Cond} (h : w ∈ tables_1_2) (hg : goodWord w = true) : w ∈ BW := List.mem_append_right _ (List.mem_filter.mpr ⟨List.mem_append_right _ (List.mem_append_left _ h), hg⟩)
theorem bw_3 {w : Cond} (h : w ∈ tables_1_3) (hg : goodWord w = true) : w ∈ BW := List.mem_append_right _ (List.mem_filter.mpr ⟨List.mem_append_right _ (List.mem_append_right _ (List.mem_append_left _ h)), hg⟩)
theorem bw_4 {w : Cond} (h : w ∈ tables_1_4) (hg : goodWord w = true) : w ∈ BW := List.mem_append_right _ (List.mem_filter.mpr ⟨List.mem_append_right _ (List.mem_append_right _ (List.mem_append_right _ (List.mem_append_left _ h))), hg⟩)
theorem bw_5 {w : Cond} (h : w ∈ tables_1_5) (hg : goodWord w = true) : w ∈ BW := List.mem_append_right _ (List.mem_filter.mpr ⟨List.mem_append_right _ (List.mem_append_right _ (List.mem_append_right _ (List.mem_append_right _ (List.mem_append_left _ h)))), hg⟩)
theorem bw_6 {w : Cond} (h : w ∈ tables_1_6) (hg : goodWord w = true) : w ∈ BW := List.mem_append_right _ (List.mem_filter.mpr ⟨List.mem_append_right _ (List.mem_append_right _ (List.mem_append_right _ (List.mem_append_right _ (List.mem_append_right _ h)))), hg⟩)
theorem bw_s {w : Cond} (i : Nat) (h : (k2_sels lw_privs)[i]? = some w) : w ∈ BW := List.mem_append_left _ (List.mem_of_getElem? h)
theorem bw_lw {w : Cond} (h : w ∈ BW) : w ∈ lw_tbl := by
  rcases List.mem_append.mp h with h | h
  · exact List.mem_append_left _ h
  · exact List.mem_append_right _ (List.mem_filter.mp h).1
theorem bw_sub {c c' : Cond} (h : c' ∈ BW) : GoodIn (c :: BW) (c' :: BW) := by
  intro w hw
  rcases List.mem_cons.mp hw with rfl | hw
  · exact ⟨List.mem_cons_of_mem _ h, good_of_word (bw_good _ h)⟩
  · exact ⟨List.mem_cons_of_mem _ hw, good_of_word (bw_good _ hw)⟩
theorem bw_lwsub {c' : Cond} (h : c' ∈ BW) : GoodIn lw_tbl (c' :: BW) := by
  intro w hw
  rcases List.mem_cons.mp hw with rfl | hw
  · exact ⟨bw_lw h, good_of_word (bw_good _ h)⟩
  · exact ⟨bw_lw hw, good_of_word (bw_good _ hw)⟩
end
section
theorem w_0 : (.initialized "KateDeskLaw" : Cond) ∈ BW := bw_1 (List.mem_of_getElem? (i := 0) rfl) rfl
theorem w_1 : (.initialized "KateDesk" : Cond) ∈ BW := bw_1 (List.mem_of_getElem? (i := 1) rfl) rfl
theorem w_2 : (.initialized "KateDesk$Point" : Cond) ∈ BW := bw_1 (List.mem_of_getElem? (i := 2) rfl) rfl
theorem w_3 : (.initialized "KateDesk$Row" : Cond) ∈ BW := bw_1 (List.mem_of_getElem? (i := 3) rfl) rfl
theorem w_4 : (.initialized "KateDesk$Field" : Cond) ∈ BW := bw_1 (List.mem_of_getElem? (i := 4) rfl) rfl
theorem w_5 : (.initialized "KateDesk$Limbs" : Cond) ∈ BW := bw_1 (List.mem_of_getElem? (i := 5) rfl) rfl
theorem w_6 : (.initialized "java/lang/String" : Cond) ∈ BW := bw_1 (List.mem_of_getElem? (i := 6) rfl) rfl
theorem w_7 : (.initialized "java/lang/StringLatin1" : Cond) ∈ BW := bw_1 (List.mem_of_getElem? (i := 7) rfl) rfl
theorem w_8 : (.initialized "jdk/internal/util/Preconditions" : Cond) ∈ BW := bw_1 (List.mem_of_getElem? (i := 8) rfl) rfl
theorem w_9 : (.initialized "java/lang/StringUTF16" : Cond) ∈ BW := bw_1 (List.mem_of_getElem? (i := 9) rfl) rfl
theorem w_10 : (.initialized "java/lang/System" : Cond) ∈ BW := bw_1 (List.mem_of_getElem? (i := 10) rfl) rfl
theorem w_11 : (.initialized "KateDesk$Curve" : Cond) ∈ BW := bw_1 (List.mem_of_getElem? (i := 11) rfl) rfl
theorem w_12 : (.initialized "KateDesk$Sums" : Cond) ∈ BW := bw_1 (List.mem_of_getElem? (i := 12) rfl) rfl
theorem w_13 : (.initialized "KateDesk$Forms" : Cond) ∈ BW := bw_1 (List.mem_of_getElem? (i := 13) rfl) rfl
theorem w_14 : (.initialized "KateDesk$Polynomials" : Cond) ∈ BW := bw_1 (List.mem_of_getElem? (i := 14) rfl) rfl
theorem w_15 : (.initialized "KateDeskModel" : Cond) ∈ BW := bw_1 (List.mem_of_getElem? (i := 15) rfl) rfl
theorem w_16 : (.initialized "java/lang/Throwable" : Cond) ∈ BW := bw_1 (List.mem_of_getElem? (i := 16) rfl) rfl
theorem w_17 : (.initialized "java/lang/Exception" : Cond) ∈ BW := bw_1 (List.mem_of_getElem? (i := 17) rfl) rfl
theorem w_18 : (.initialized "java/lang/RuntimeException" : Cond) ∈ BW := bw_1 (List.mem_of_getElem? (i := 18) rfl) rfl
theorem w_19 : (.initialized "java/lang/IllegalArgumentException" : Cond) ∈ BW := bw_1 (List.mem_of_getElem? (i := 19) rfl) rfl
theorem w_20 : (.initialized "java/lang/IllegalStateException" : Cond) ∈ BW := bw_1 (List.mem_of_getElem? (i := 20) rfl) rfl
theorem w_21 : (.initialized "java/util/Arrays" : Cond) ∈ BW := bw_1 (List.mem_of_getElem? (i := 21) rfl) rfl
theorem w_22 : (.initialized "java/lang/ArithmeticException" : Cond) ∈ BW := bw_1 (List.mem_of_getElem? (i := 22) rfl) rfl
theorem w_23 : (.initialized "java/lang/Math" : Cond) ∈ BW := bw_1 (List.mem_of_getElem? (i := 23) rfl) rfl
theorem w_24 : (.initialized "java/util/NoSuchElementException" : Cond) ∈ BW := bw_1 (List.mem_of_getElem? (i := 24) rfl) rfl
theorem w_25 : (.classLink "KateDeskLaw" 8 "KateDesk" : Cond) ∈ BW := bw_1 (List.mem_of_getElem? (i := 25) rfl) rfl
theorem w_26 : (.instantiable "KateDesk" 16 : Cond) ∈ BW := bw_1 (List.mem_of_getElem? (i := 26) rfl) rfl
theorem w_27 : (.methodLink "KateDeskLaw" 94 ⟨"KateDesk", "<init>", "()V"⟩ : Cond) ∈ BW := bw_1 (List.mem_of_getElem? (i := 27) rfl) rfl
theorem w_28 : (.instanceMethod ⟨"KateDesk", "<init>", "()V"⟩ : Cond) ∈ BW := bw_1 (List.mem_of_getElem? (i := 28) rfl) rfl
theorem w_29 : (.code ⟨"KateDesk", "<init>", "()V"⟩ prog_1_method_1_code 4 none : Cond) ∈ BW := bw_1 (List.mem_of_getElem? (i := 29) rfl) rfl
theorem w_30 : (.methodLink "KateDesk" 1 ⟨"java/lang/Object", "<init>", "()V"⟩ : Cond) ∈ BW := bw_1 (List.mem_of_getElem? (i := 30) rfl) rfl
theorem w_31 : (.instanceMethod ⟨"java/lang/Object", "<init>", "()V"⟩ : Cond) ∈ BW := bw_1 (List.mem_of_getElem? (i := 31) rfl) rfl
theorem w_32 : (.code ⟨"java/lang/Object", "<init>", "()V"⟩ object_method_1_code 1 none : Cond) ∈ BW := bw_1 (List.mem_of_getElem? (i := 32) rfl) rfl
theorem w_33 : (.classLink "KateDesk" 11 "[[J" : Cond) ∈ BW := bw_1 (List.mem_of_getElem? (i := 33) rfl) rfl
theorem w_35 : (.methodLink "KateDesk" 16 ⟨"KateDesk", "newPoints", "(I)[LKateDesk$Point;"⟩ : Cond) ∈ BW := bw_1 (List.mem_of_getElem? (i := 35) rfl) rfl
theorem w_36 : (.static ⟨"KateDesk", "newPoints", "(I)[LKateDesk$Point;"⟩ : Cond) ∈ BW := bw_1 (List.mem_of_getElem? (i := 36) rfl) rfl
theorem w_37 : (.code ⟨"KateDesk", "newPoints", "(I)[LKateDesk$Point;"⟩ prog_1_method_27_code 3 (Option.some (FieldType.array (FieldType.object "KateDesk$Point"))) : Cond) ∈ BW := bw_1 (List.mem_of_getElem? (i := 37) rfl) rfl
theorem w_38 : (.classLink "KateDesk" 41 "KateDesk$Point" : Cond) ∈ BW := bw_1 (List.mem_of_getElem? (i := 38) rfl) rfl
theorem w_40 : (.instantiable "KateDesk$Point" 3 : Cond) ∈ BW := bw_1 (List.mem_of_getElem? (i := 40) rfl) rfl
theorem w_41 : (.methodLink "KateDesk" 43 ⟨"KateDesk$Point", "<init>", "()V"⟩ : Cond) ∈ BW := bw_1 (List.mem_of_getElem? (i := 41) rfl) rfl
theorem w_42 : (.instanceMethod ⟨"KateDesk$Point", "<init>", "()V"⟩ : Cond) ∈ BW := bw_1 (List.mem_of_getElem? (i := 42) rfl) rfl
theorem w_43 : (.code ⟨"KateDesk$Point", "<init>", "()V"⟩ prog_6_method_1_code 1 none : Cond) ∈ BW := bw_1 (List.mem_of_getElem? (i := 43) rfl) rfl
theorem w_44 : (.methodLink "KateDesk$Point" 1 ⟨"java/lang/Object", "<init>", "()V"⟩ : Cond) ∈ BW := bw_1 (List.mem_of_getElem? (i := 44) rfl) rfl
theorem w_45 : (.fieldLink "KateDesk$Point" 9 "KateDesk$Point" "x" "[J" : Cond) ∈ BW := bw_1 (List.mem_of_getElem? (i := 45) rfl) rfl
theorem w_46 : (.fieldLink "KateDesk$Curve" 54 "KateDesk$Point" "x" "[J" : Cond) ∈ BW := bw_1 (List.mem_of_getElem? (i := 46) rfl) rfl
theorem w_47 : (.fieldLink "KateDesk$Forms" 64 "KateDesk$Point" "x" "[J" : Cond) ∈ BW := bw_1 (List.mem_of_getElem? (i := 47) rfl) rfl
theorem w_48 : (.fieldLink "KateDesk" 289 "KateDesk$Point" "x" "[J" : Cond) ∈ BW := bw_1 (List.mem_of_getElem? (i := 48) rfl) rfl
theorem w_49 : (.fieldLink "KateDesk$Point" 15 "KateDesk$Point" "y" "[J" : Cond) ∈ BW := bw_1 (List.mem_of_getElem? (i := 49) rfl) rfl
theorem w_50 : (.fieldLink "KateDesk$Curve" 43 "KateDesk$Point" "y" "[J" : Cond) ∈ BW := bw_1 (List.mem_of_getElem? (i := 50) rfl) rfl
theorem w_51 : (.fieldLink "KateDesk$Forms" 71 "KateDesk$Point" "y" "[J" : Cond) ∈ BW := bw_1 (List.mem_of_getElem? (i := 51) rfl) rfl
theorem w_52 : (.fieldLink "KateDesk" 298 "KateDesk$Point" "y" "[J" : Cond) ∈ BW := bw_1 (List.mem_of_getElem? (i := 52) rfl) rfl
theorem w_53 : (.fieldLink "KateDesk$Point" 18 "KateDesk$Point" "z" "[J" : Cond) ∈ BW := bw_1 (List.mem_of_getElem? (i := 53) rfl) rfl
theorem w_54 : (.fieldLink "KateDesk$Curve" 61 "KateDesk$Point" "z" "[J" : Cond) ∈ BW := bw_1 (List.mem_of_getElem? (i := 54) rfl) rfl
theorem w_55 : (.fieldLink "KateDesk$Forms" 84 "KateDesk$Point" "z" "[J" : Cond) ∈ BW := bw_1 (List.mem_of_getElem? (i := 55) rfl) rfl
theorem w_56 : (.fieldLink "KateDesk" 303 "KateDesk$Point" "z" "[J" : Cond) ∈ BW := bw_1 (List.mem_of_getElem? (i := 56) rfl) rfl
theorem w_57 : (.laysFinal "KateDesk$Point" "KateDesk$Point" "x" "[J" : Cond) ∈ BW := bw_1 (List.mem_of_getElem? (i := 57) rfl) rfl
theorem w_58 : (.soleField "KateDesk$Point" "x" : Cond) ∈ BW := bw_1 (List.mem_of_getElem? (i := 58) rfl) rfl
theorem w_59 : (.laysFinal "KateDesk$Point" "KateDesk$Point" "y" "[J" : Cond) ∈ BW := bw_1 (List.mem_of_getElem? (i := 59) rfl) rfl
theorem w_60 : (.soleField "KateDesk$Point" "y" : Cond) ∈ BW := bw_1 (List.mem_of_getElem? (i := 60) rfl) rfl
theorem w_61 : (.laysFinal "KateDesk$Point" "KateDesk$Point" "z" "[J" : Cond) ∈ BW := bw_1 (List.mem_of_getElem? (i := 61) rfl) rfl
theorem w_62 : (.soleField "KateDesk$Point" "z" : Cond) ∈ BW := bw_1 (List.mem_of_getElem? (i := 62) rfl) rfl
theorem w_63 : (.superclass "KateDesk$Point" "java/lang/Object" : Cond) ∈ BW := bw_1 (List.mem_of_getElem? (i := 63) rfl) rfl
theorem w_64 : (.arrayClass FieldType.long : Cond) ∈ BW := bw_1 (List.mem_of_getElem? (i := 64) rfl) rfl
theorem w_65 : (.classLink "KateDesk" 31 "KateDesk$Row" : Cond) ∈ BW := bw_1 (List.mem_of_getElem? (i := 65) rfl) rfl
theorem w_66 : (.instantiable "KateDesk$Row" 2 : Cond) ∈ BW := bw_1 (List.mem_of_getElem? (i := 66) rfl) rfl
theorem w_68 : (.instanceMethod ⟨"KateDesk$Row", "<init>", "()V"⟩ : Cond) ∈ BW := bw_1 (List.mem_of_getElem? (i := 68) rfl) rfl
theorem w_69 : (.code ⟨"KateDesk$Row", "<init>", "()V"⟩ prog_8_method_1_code 1 none : Cond) ∈ BW := bw_1 (List.mem_of_getElem? (i := 69) rfl) rfl
theorem w_70 : (.methodLink "KateDesk$Row" 3 ⟨"java/lang/Object", "<init>", "()V"⟩ : Cond) ∈ BW := bw_1 (List.mem_of_getElem? (i := 70) rfl) rfl
theorem w_71 : (.fieldLink "KateDesk$Row" 9 "KateDesk$Row" "cells" "[B" : Cond) ∈ BW := bw_1 (List.mem_of_getElem? (i := 71) rfl) rfl
theorem w_72 : (.fieldLink "KateDesk$Row" 15 "KateDesk$Row" "size" "I" : Cond) ∈ BW := bw_1 (List.mem_of_getElem? (i := 72) rfl) rfl
theorem w_73 : (.fieldLink "KateDesk$Forms" 41 "KateDesk$Row" "size" "I" : Cond) ∈ BW := bw_1 (List.mem_of_getElem? (i := 73) rfl) rfl
theorem w_74 : (.fieldLink "KateDesk" 117 "KateDesk$Row" "size" "I" : Cond) ∈ BW := bw_1 (List.mem_of_getElem? (i := 74) rfl) rfl
theorem w_75 : (.laysFinal "KateDesk$Row" "KateDesk$Row" "cells" "[B" : Cond) ∈ BW := bw_1 (List.mem_of_getElem? (i := 75) rfl) rfl
theorem w_76 : (.soleField "KateDesk$Row" "cells" : Cond) ∈ BW := bw_1 (List.mem_of_getElem? (i := 76) rfl) rfl
theorem w_77 : (.lays "KateDesk$Row" "KateDesk$Row" "size" "I" : Cond) ∈ BW := bw_1 (List.mem_of_getElem? (i := 77) rfl) rfl
theorem w_78 : (.soleField "KateDesk$Row" "size" : Cond) ∈ BW := bw_1 (List.mem_of_getElem? (i := 78) rfl) rfl
theorem w_79 : (.superclass "KateDesk$Row" "java/lang/Object" : Cond) ∈ BW := bw_1 (List.mem_of_getElem? (i := 79) rfl) rfl
theorem w_80 : (.arrayClass FieldType.byte : Cond) ∈ BW := bw_1 (List.mem_of_getElem? (i := 80) rfl) rfl
theorem w_81 : (.classLink "KateDesk" 58 "KateDesk$Field" : Cond) ∈ BW := bw_1 (List.mem_of_getElem? (i := 81) rfl) rfl
theorem w_82 : (.instantiable "KateDesk$Field" 7 : Cond) ∈ BW := bw_1 (List.mem_of_getElem? (i := 82) rfl) rfl
theorem w_84 : (.methodLink "KateDesk" 62 ⟨"KateDesk$Field", "<init>", "(Ljava/lang/String;)V"⟩ : Cond) ∈ BW := bw_1 (List.mem_of_getElem? (i := 84) rfl) rfl
theorem w_85 : (.instanceMethod ⟨"KateDesk$Field", "<init>", "(Ljava/lang/String;)V"⟩ : Cond) ∈ BW := bw_1 (List.mem_of_getElem? (i := 85) rfl) rfl
theorem w_86 : (.code ⟨"KateDesk$Field", "<init>", "(Ljava/lang/String;)V"⟩ prog_3_method_1_code 3 none : Cond) ∈ BW := bw_1 (List.mem_of_getElem? (i := 86) rfl) rfl
theorem w_87 : (.methodLink "KateDesk$Field" 1 ⟨"java/lang/Object", "<init>", "()V"⟩ : Cond) ∈ BW := bw_1 (List.mem_of_getElem? (i := 87) rfl) rfl
theorem w_88 : (.methodLink "KateDesk$Field" 27 ⟨"KateDesk$Limbs", "fromHex", "(Ljava/lang/String;)[J"⟩ : Cond) ∈ BW := bw_1 (List.mem_of_getElem? (i := 88) rfl) rfl
theorem w_89 : (.static ⟨"KateDesk$Limbs", "fromHex", "(Ljava/lang/String;)[J"⟩ : Cond) ∈ BW := bw_1 (List.mem_of_getElem? (i := 89) rfl) rfl
theorem w_90 : (.code ⟨"KateDesk$Limbs", "fromHex", "(Ljava/lang/String;)[J"⟩ prog_5_method_2_code 7 (Option.some (FieldType.array FieldType.long)) : Cond) ∈ BW := bw_1 (List.mem_of_getElem? (i := 90) rfl) rfl
theorem w_91 : (.methodLink "KateDesk$Limbs" 9 ⟨"java/lang/String", "length", "()I"⟩ : Cond) ∈ BW := bw_1 (List.mem_of_getElem? (i := 91) rfl) rfl
theorem w_92 : (.instanceMethod ⟨"java/lang/String", "length", "()I"⟩ : Cond) ∈ BW := bw_1 (List.mem_of_getElem? (i := 92) rfl) rfl
theorem w_93 : (.selects "java/lang/String" ⟨"java/lang/String", "length", "()I"⟩ ⟨"java/lang/String", "length", "()I"⟩ : Cond) ∈ BW := bw_1 (List.mem_of_getElem? (i := 93) rfl) rfl
theorem w_94 : (.code ⟨"java/lang/String", "length", "()I"⟩ prog_18_method_54_code 1 (Option.some FieldType.int) : Cond) ∈ BW := bw_1 (List.mem_of_getElem? (i := 94) rfl) rfl
theorem w_95 : (.methodLink "java/lang/String" 335 ⟨"java/lang/String", "coder", "()B"⟩ : Cond) ∈ BW := bw_1 (List.mem_of_getElem? (i := 95) rfl) rfl
theorem w_96 : (.instanceMethod ⟨"java/lang/String", "coder", "()B"⟩ : Cond) ∈ BW := bw_1 (List.mem_of_getElem? (i := 96) rfl) rfl
theorem w_97 : (.selects "java/lang/String" ⟨"java/lang/String", "coder", "()B"⟩ ⟨"java/lang/String", "coder", "()B"⟩ : Cond) ∈ BW := bw_1 (List.mem_of_getElem? (i := 97) rfl) rfl
theorem w_98 : (.code ⟨"java/lang/String", "coder", "()B"⟩ prog_18_method_152_code 1 (Option.some FieldType.byte) : Cond) ∈ BW := bw_1 (List.mem_of_getElem? (i := 98) rfl) rfl
theorem w_99 : (.fieldLink "java/lang/String" 38 "java/lang/String" "COMPACT_STRINGS" "Z" : Cond) ∈ BW := bw_1 (List.mem_of_getElem? (i := 99) rfl) rfl
theorem w_101 : (.methodLink "KateDesk$Limbs" 15 ⟨"java/lang/String", "charAt", "(I)C"⟩ : Cond) ∈ BW := bw_1 (List.mem_of_getElem? (i := 101) rfl) rfl
theorem w_102 : (.instanceMethod ⟨"java/lang/String", "charAt", "(I)C"⟩ : Cond) ∈ BW := bw_1 (List.mem_of_getElem? (i := 102) rfl) rfl
theorem w_103 : (.selects "java/lang/String" ⟨"java/lang/String", "charAt", "(I)C"⟩ ⟨"java/lang/String", "charAt", "(I)C"⟩ : Cond) ∈ BW := bw_1 (List.mem_of_getElem? (i := 103) rfl) rfl
theorem w_104 : (.code ⟨"java/lang/String", "charAt", "(I)C"⟩ prog_18_method_56_code 2 (Option.some FieldType.char) : Cond) ∈ BW := bw_1 (List.mem_of_getElem? (i := 104) rfl) rfl
theorem w_105 : (.methodLink "java/lang/String" 492 ⟨"java/lang/String", "isLatin1", "()Z"⟩ : Cond) ∈ BW := bw_1 (List.mem_of_getElem? (i := 105) rfl) rfl
theorem w_106 : (.instanceMethod ⟨"java/lang/String", "isLatin1", "()Z"⟩ : Cond) ∈ BW := bw_1 (List.mem_of_getElem? (i := 106) rfl) rfl
theorem w_107 : (.selects "java/lang/String" ⟨"java/lang/String", "isLatin1", "()Z"⟩ ⟨"java/lang/String", "isLatin1", "()Z"⟩ : Cond) ∈ BW := bw_1 (List.mem_of_getElem? (i := 107) rfl) rfl
theorem w_108 : (.code ⟨"java/lang/String", "isLatin1", "()Z"⟩ prog_18_method_154_code 1 (Option.some FieldType.boolean) : Cond) ∈ BW := bw_1 (List.mem_of_getElem? (i := 108) rfl) rfl
theorem w_109 : (.methodLink "java/lang/String" 495 ⟨"java/lang/StringLatin1", "charAt", "([BI)C"⟩ : Cond) ∈ BW := bw_1 (List.mem_of_getElem? (i := 109) rfl) rfl
theorem w_110 : (.static ⟨"java/lang/StringLatin1", "charAt", "([BI)C"⟩ : Cond) ∈ BW := bw_1 (List.mem_of_getElem? (i := 110) rfl) rfl
theorem w_111 : (.code ⟨"java/lang/StringLatin1", "charAt", "([BI)C"⟩ prog_19_method_2_code 2 (Option.some FieldType.char) : Cond) ∈ BW := bw_1 (List.mem_of_getElem? (i := 111) rfl) rfl
theorem w_112 : (.methodLink "java/lang/StringLatin1" 9 ⟨"java/lang/String", "checkIndex", "(II)V"⟩ : Cond) ∈ BW := bw_1 (List.mem_of_getElem? (i := 112) rfl) rfl
theorem w_113 : (.static ⟨"java/lang/String", "checkIndex", "(II)V"⟩ : Cond) ∈ BW := bw_1 (List.mem_of_getElem? (i := 113) rfl) rfl
theorem w_114 : (.code ⟨"java/lang/String", "checkIndex", "(II)V"⟩ prog_18_method_155_code 2 none : Cond) ∈ BW := bw_1 (List.mem_of_getElem? (i := 114) rfl) rfl
theorem w_115 : (.fieldLink "java/lang/String" 1053 "jdk/internal/util/Preconditions" "SIOOBE_FORMATTER" "Ljava/util/function/BiFunction;" : Cond) ∈ BW := bw_1 (List.mem_of_getElem? (i := 115) rfl) rfl
theorem w_117 : (.methodLink "java/lang/String" 1059 ⟨"jdk/internal/util/Preconditions", "checkIndex", "(IILjava/util/function/BiFunction;)I"⟩ : Cond) ∈ BW := bw_1 (List.mem_of_getElem? (i := 117) rfl) rfl
theorem w_118 : (.static ⟨"jdk/internal/util/Preconditions", "checkIndex", "(IILjava/util/function/BiFunction;)I"⟩ : Cond) ∈ BW := bw_1 (List.mem_of_getElem? (i := 118) rfl) rfl
theorem w_119 : (.code ⟨"jdk/internal/util/Preconditions", "checkIndex", "(IILjava/util/function/BiFunction;)I"⟩ prog_25_method_11_code 3 (Option.some FieldType.int) : Cond) ∈ BW := bw_1 (List.mem_of_getElem? (i := 119) rfl) rfl
theorem w_120 : (.methodLink "java/lang/String" 498 ⟨"java/lang/StringUTF16", "charAt", "([BI)C"⟩ : Cond) ∈ BW := bw_1 (List.mem_of_getElem? (i := 120) rfl) rfl
theorem w_121 : (.static ⟨"java/lang/StringUTF16", "charAt", "([BI)C"⟩ : Cond) ∈ BW := bw_1 (List.mem_of_getElem? (i := 121) rfl) rfl
theorem w_122 : (.code ⟨"java/lang/StringUTF16", "charAt", "([BI)C"⟩ prog_20_method_83_code 2 (Option.some FieldType.char) : Cond) ∈ BW := bw_1 (List.mem_of_getElem? (i := 122) rfl) rfl
theorem w_123 : (.methodLink "java/lang/StringUTF16" 67 ⟨"java/lang/StringUTF16", "checkIndex", "(I[B)V"⟩ : Cond) ∈ BW := bw_1 (List.mem_of_getElem? (i := 123) rfl) rfl
theorem w_124 : (.static ⟨"java/lang/StringUTF16", "checkIndex", "(I[B)V"⟩ : Cond) ∈ BW := bw_1 (List.mem_of_getElem? (i := 124) rfl) rfl
theorem w_125 : (.code ⟨"java/lang/StringUTF16", "checkIndex", "(I[B)V"⟩ prog_20_method_91_code 2 none : Cond) ∈ BW := bw_1 (List.mem_of_getElem? (i := 125) rfl) rfl
theorem w_126 : (.methodLink "java/lang/StringUTF16" 48 ⟨"java/lang/StringUTF16", "length", "([B)I"⟩ : Cond) ∈ BW := bw_1 (List.mem_of_getElem? (i := 126) rfl) rfl
theorem w_127 : (.static ⟨"java/lang/StringUTF16", "length", "([B)I"⟩ : Cond) ∈ BW := bw_1 (List.mem_of_getElem? (i := 127) rfl) rfl
theorem w_128 : (.code ⟨"java/lang/StringUTF16", "length", "([B)I"⟩ prog_20_method_6_code 1 (Option.some FieldType.int) : Cond) ∈ BW := bw_1 (List.mem_of_getElem? (i := 128) rfl) rfl
theorem w_129 : (.methodLink "java/lang/StringUTF16" 414 ⟨"java/lang/String", "checkIndex", "(II)V"⟩ : Cond) ∈ BW := bw_1 (List.mem_of_getElem? (i := 129) rfl) rfl
theorem w_130 : (.methodLink "java/lang/StringUTF16" 71 ⟨"java/lang/StringUTF16", "getChar", "([BI)C"⟩ : Cond) ∈ BW := bw_1 (List.mem_of_getElem? (i := 130) rfl) rfl
theorem w_131 : (.static ⟨"java/lang/StringUTF16", "getChar", "([BI)C"⟩ : Cond) ∈ BW := bw_1 (List.mem_of_getElem? (i := 131) rfl) rfl
theorem w_132 : (.code ⟨"java/lang/StringUTF16", "getChar", "([BI)C"⟩ prog_20_method_5_code 2 (Option.some FieldType.char) : Cond) ∈ BW := bw_1 (List.mem_of_getElem? (i := 132) rfl) rfl
theorem w_133 : (.fieldLink "java/lang/StringUTF16" 44 "java/lang/StringUTF16" "$assertionsDisabled" "Z" : Cond) ∈ BW := bw_1 (List.mem_of_getElem? (i := 133) rfl) rfl
theorem w_135 : (.fieldLink "java/lang/StringUTF16" 59 "java/lang/StringUTF16" "HI_BYTE_SHIFT" "I" : Cond) ∈ BW := bw_1 (List.mem_of_getElem? (i := 135) rfl) rfl
theorem w_137 : (.fieldLink "java/lang/StringUTF16" 63 "java/lang/StringUTF16" "LO_BYTE_SHIFT" "I" : Cond) ∈ BW := bw_1 (List.mem_of_getElem? (i := 137) rfl) rfl
theorem w_139 : (.methodLink "KateDesk$Field" 34 ⟨"KateDesk$Field", "minusInverseOf", "(J)J"⟩ : Cond) ∈ BW := bw_1 (List.mem_of_getElem? (i := 139) rfl) rfl
theorem w_140 : (.static ⟨"KateDesk$Field", "minusInverseOf", "(J)J"⟩ : Cond) ∈ BW := bw_1 (List.mem_of_getElem? (i := 140) rfl) rfl
theorem w_141 : (.code ⟨"KateDesk$Field", "minusInverseOf", "(J)J"⟩ prog_3_method_2_code 5 (Option.some FieldType.long) : Cond) ∈ BW := bw_1 (List.mem_of_getElem? (i := 141) rfl) rfl
theorem w_142 : (.constantLong "KateDesk$Field" 57 (2 : Int64) : Cond) ∈ BW := bw_1 (List.mem_of_getElem? (i := 142) rfl) rfl
theorem w_143 : (.constantLong "KateDesk$Field" 59 (268435455 : Int64) : Cond) ∈ BW := bw_1 (List.mem_of_getElem? (i := 143) rfl) rfl
theorem w_144 : (.methodLink "KateDesk$Field" 42 ⟨"KateDesk$Limbs", "copy", "([J[J)V"⟩ : Cond) ∈ BW := bw_1 (List.mem_of_getElem? (i := 144) rfl) rfl
theorem w_145 : (.static ⟨"KateDesk$Limbs", "copy", "([J[J)V"⟩ : Cond) ∈ BW := bw_1 (List.mem_of_getElem? (i := 145) rfl) rfl
theorem w_146 : (.code ⟨"KateDesk$Limbs", "copy", "([J[J)V"⟩ prog_5_method_5_code 2 none : Cond) ∈ BW := bw_1 (List.mem_of_getElem? (i := 146) rfl) rfl
theorem w_147 : (.methodLink "KateDesk$Limbs" 31 ⟨"java/lang/System", "arraycopy", "(Ljava/lang/Object;ILjava/lang/Object;II)V"⟩ : Cond) ∈ BW := bw_1 (List.mem_of_getElem? (i := 147) rfl) rfl
theorem w_148 : (.static ⟨"java/lang/System", "arraycopy", "(Ljava/lang/Object;ILjava/lang/Object;II)V"⟩ : Cond) ∈ BW := bw_1 (List.mem_of_getElem? (i := 148) rfl) rfl
theorem w_149 : (.native ⟨"java/lang/System", "arraycopy", "(Ljava/lang/Object;ILjava/lang/Object;II)V"⟩ : Cond) ∈ BW := bw_1 (List.mem_of_getElem? (i := 149) rfl) rfl
theorem w_150 : (.methodLink "KateDesk$Field" 46 ⟨"KateDesk$Field", "doubled", "([JI)V"⟩ : Cond) ∈ BW := bw_1 (List.mem_of_getElem? (i := 150) rfl) rfl
theorem w_152 : (.instanceMethod ⟨"KateDesk$Field", "doubled", "([JI)V"⟩ : Cond) ∈ BW := bw_1 (List.mem_of_getElem? (i := 152) rfl) rfl
theorem w_153 : (.code ⟨"KateDesk$Field", "doubled", "([JI)V"⟩ prog_3_method_3_code 4 none : Cond) ∈ BW := bw_1 (List.mem_of_getElem? (i := 153) rfl) rfl
theorem w_154 : (.methodLink "KateDesk$Field" 61 ⟨"KateDesk$Field", "add", "([J[J[J)V"⟩ : Cond) ∈ BW := bw_1 (List.mem_of_getElem? (i := 154) rfl) rfl
theorem w_155 : (.instanceMethod ⟨"KateDesk$Field", "add", "([J[J[J)V"⟩ : Cond) ∈ BW := bw_1 (List.mem_of_getElem? (i := 155) rfl) rfl
theorem w_156 : (.selects "KateDesk$Field" ⟨"KateDesk$Field", "add", "([J[J[J)V"⟩ ⟨"KateDesk$Field", "add", "([J[J[J)V"⟩ : Cond) ∈ BW := bw_1 (List.mem_of_getElem? (i := 156) rfl) rfl
theorem w_157 : (.code ⟨"KateDesk$Field", "add", "([J[J[J)V"⟩ prog_3_method_4_code 7 none : Cond) ∈ BW := bw_1 (List.mem_of_getElem? (i := 157) rfl) rfl
theorem w_158 : (.methodLink "KateDesk$Field" 64 ⟨"KateDesk$Field", "reduce", "([J)V"⟩ : Cond) ∈ BW := bw_1 (List.mem_of_getElem? (i := 158) rfl) rfl
theorem w_160 : (.instanceMethod ⟨"KateDesk$Field", "reduce", "([J)V"⟩ : Cond) ∈ BW := bw_1 (List.mem_of_getElem? (i := 160) rfl) rfl
theorem w_161 : (.code ⟨"KateDesk$Field", "reduce", "([J)V"⟩ prog_3_method_7_code 5 none : Cond) ∈ BW := bw_1 (List.mem_of_getElem? (i := 161) rfl) rfl
theorem w_162 : (.methodLink "KateDesk$Field" 50 ⟨"KateDesk$Field", "multiply", "([J[J[J)V"⟩ : Cond) ∈ BW := bw_1 (List.mem_of_getElem? (i := 162) rfl) rfl
theorem w_163 : (.instanceMethod ⟨"KateDesk$Field", "multiply", "([J[J[J)V"⟩ : Cond) ∈ BW := bw_1 (List.mem_of_getElem? (i := 163) rfl) rfl
theorem w_164 : (.selects "KateDesk$Field" ⟨"KateDesk$Field", "multiply", "([J[J[J)V"⟩ ⟨"KateDesk$Field", "multiply", "([J[J[J)V"⟩ : Cond) ∈ BW := bw_1 (List.mem_of_getElem? (i := 164) rfl) rfl
theorem w_165 : (.code ⟨"KateDesk$Field", "multiply", "([J[J[J)V"⟩ prog_3_method_8_code 92 none : Cond) ∈ BW := bw_1 (List.mem_of_getElem? (i := 165) rfl) rfl
theorem w_166 : (.methodLink "KateDesk$Field" 54 ⟨"KateDesk$Field", "subtract", "([J[J[J)V"⟩ : Cond) ∈ BW := bw_1 (List.mem_of_getElem? (i := 166) rfl) rfl
theorem w_167 : (.instanceMethod ⟨"KateDesk$Field", "subtract", "([J[J[J)V"⟩ : Cond) ∈ BW := bw_1 (List.mem_of_getElem? (i := 167) rfl) rfl
theorem w_168 : (.selects "KateDesk$Field" ⟨"KateDesk$Field", "subtract", "([J[J[J)V"⟩ ⟨"KateDesk$Field", "subtract", "([J[J[J)V"⟩ : Cond) ∈ BW := bw_1 (List.mem_of_getElem? (i := 168) rfl) rfl
theorem w_169 : (.code ⟨"KateDesk$Field", "subtract", "([J[J[J)V"⟩ prog_3_method_5_code 7 none : Cond) ∈ BW := bw_1 (List.mem_of_getElem? (i := 169) rfl) rfl
theorem w_170 : (.fieldLink "KateDesk$Field" 31 "KateDesk$Field" "modulus" "[J" : Cond) ∈ BW := bw_1 (List.mem_of_getElem? (i := 170) rfl) rfl
theorem w_171 : (.fieldLink "KateDesk$Forms" 32 "KateDesk$Field" "modulus" "[J" : Cond) ∈ BW := bw_1 (List.mem_of_getElem? (i := 171) rfl) rfl
theorem w_172 : (.fieldLink "KateDesk" 145 "KateDesk$Field" "modulus" "[J" : Cond) ∈ BW := bw_1 (List.mem_of_getElem? (i := 172) rfl) rfl
theorem w_173 : (.fieldLink "KateDesk$Field" 9 "KateDesk$Field" "one" "[J" : Cond) ∈ BW := bw_1 (List.mem_of_getElem? (i := 173) rfl) rfl
theorem w_174 : (.fieldLink "KateDesk$Forms" 87 "KateDesk$Field" "one" "[J" : Cond) ∈ BW := bw_1 (List.mem_of_getElem? (i := 174) rfl) rfl
theorem w_175 : (.fieldLink "KateDesk$Polynomials" 89 "KateDesk$Field" "one" "[J" : Cond) ∈ BW := bw_1 (List.mem_of_getElem? (i := 175) rfl) rfl
theorem w_176 : (.fieldLink "KateDesk$Curve" 85 "KateDesk$Field" "one" "[J" : Cond) ∈ BW := bw_1 (List.mem_of_getElem? (i := 176) rfl) rfl
theorem w_177 : (.fieldLink "KateDesk" 306 "KateDesk$Field" "one" "[J" : Cond) ∈ BW := bw_1 (List.mem_of_getElem? (i := 177) rfl) rfl
theorem w_178 : (.fieldLink "KateDesk$Field" 15 "KateDesk$Field" "plainOne" "[J" : Cond) ∈ BW := bw_1 (List.mem_of_getElem? (i := 178) rfl) rfl
theorem w_179 : (.fieldLink "KateDesk$Field" 18 "KateDesk$Field" "liftedLift" "[J" : Cond) ∈ BW := bw_1 (List.mem_of_getElem? (i := 179) rfl) rfl
theorem w_180 : (.fieldLink "KateDesk$Field" 21 "KateDesk$Field" "inverseExponent" "[J" : Cond) ∈ BW := bw_1 (List.mem_of_getElem? (i := 180) rfl) rfl
theorem w_181 : (.fieldLink "KateDesk$Field" 24 "KateDesk$Field" "base" "[J" : Cond) ∈ BW := bw_1 (List.mem_of_getElem? (i := 181) rfl) rfl
theorem w_182 : (.fieldLink "KateDesk$Field" 38 "KateDesk$Field" "minusInverse" "J" : Cond) ∈ BW := bw_1 (List.mem_of_getElem? (i := 182) rfl) rfl
theorem w_183 : (.laysFinal "KateDesk$Field" "KateDesk$Field" "modulus" "[J" : Cond) ∈ BW := bw_1 (List.mem_of_getElem? (i := 183) rfl) rfl
theorem w_184 : (.soleField "KateDesk$Field" "modulus" : Cond) ∈ BW := bw_1 (List.mem_of_getElem? (i := 184) rfl) rfl
theorem w_185 : (.laysFinal "KateDesk$Field" "KateDesk$Field" "one" "[J" : Cond) ∈ BW := bw_1 (List.mem_of_getElem? (i := 185) rfl) rfl
theorem w_186 : (.soleField "KateDesk$Field" "one" : Cond) ∈ BW := bw_1 (List.mem_of_getElem? (i := 186) rfl) rfl
theorem w_187 : (.laysFinal "KateDesk$Field" "KateDesk$Field" "plainOne" "[J" : Cond) ∈ BW := bw_1 (List.mem_of_getElem? (i := 187) rfl) rfl
theorem w_188 : (.soleField "KateDesk$Field" "plainOne" : Cond) ∈ BW := bw_1 (List.mem_of_getElem? (i := 188) rfl) rfl
theorem w_189 : (.laysFinal "KateDesk$Field" "KateDesk$Field" "liftedLift" "[J" : Cond) ∈ BW := bw_1 (List.mem_of_getElem? (i := 189) rfl) rfl
theorem w_190 : (.soleField "KateDesk$Field" "liftedLift" : Cond) ∈ BW := bw_1 (List.mem_of_getElem? (i := 190) rfl) rfl
theorem w_191 : (.laysFinal "KateDesk$Field" "KateDesk$Field" "inverseExponent" "[J" : Cond) ∈ BW := bw_1 (List.mem_of_getElem? (i := 191) rfl) rfl
theorem w_192 : (.soleField "KateDesk$Field" "inverseExponent" : Cond) ∈ BW := bw_1 (List.mem_of_getElem? (i := 192) rfl) rfl
theorem w_193 : (.laysFinal "KateDesk$Field" "KateDesk$Field" "base" "[J" : Cond) ∈ BW := bw_1 (List.mem_of_getElem? (i := 193) rfl) rfl
theorem w_194 : (.soleField "KateDesk$Field" "base" : Cond) ∈ BW := bw_1 (List.mem_of_getElem? (i := 194) rfl) rfl
theorem w_195 : (.laysFinal "KateDesk$Field" "KateDesk$Field" "minusInverse" "J" : Cond) ∈ BW := bw_1 (List.mem_of_getElem? (i := 195) rfl) rfl
theorem w_196 : (.soleField "KateDesk$Field" "minusInverse" : Cond) ∈ BW := bw_1 (List.mem_of_getElem? (i := 196) rfl) rfl
theorem w_197 : (.superclass "KateDesk$Field" "java/lang/Object" : Cond) ∈ BW := bw_1 (List.mem_of_getElem? (i := 197) rfl) rfl
theorem w_199 : (.classLink "KateDesk" 67 "KateDesk$Curve" : Cond) ∈ BW := bw_1 (List.mem_of_getElem? (i := 199) rfl) rfl
theorem w_200 : (.instantiable "KateDesk$Curve" 10 : Cond) ∈ BW := bw_1 (List.mem_of_getElem? (i := 200) rfl) rfl
theorem w_201 : (.methodLink "KateDesk" 69 ⟨"KateDesk$Curve", "<init>", "(LKateDesk$Field;)V"⟩ : Cond) ∈ BW := bw_1 (List.mem_of_getElem? (i := 201) rfl) rfl
theorem w_202 : (.instanceMethod ⟨"KateDesk$Curve", "<init>", "(LKateDesk$Field;)V"⟩ : Cond) ∈ BW := bw_1 (List.mem_of_getElem? (i := 202) rfl) rfl
theorem w_203 : (.code ⟨"KateDesk$Curve", "<init>", "(LKateDesk$Field;)V"⟩ prog_2_method_1_code 2 none : Cond) ∈ BW := bw_1 (List.mem_of_getElem? (i := 203) rfl) rfl
theorem w_204 : (.methodLink "KateDesk$Curve" 1 ⟨"java/lang/Object", "<init>", "()V"⟩ : Cond) ∈ BW := bw_1 (List.mem_of_getElem? (i := 204) rfl) rfl
theorem w_205 : (.fieldLink "KateDesk$Curve" 39 "KateDesk$Curve" "field" "LKateDesk$Field;" : Cond) ∈ BW := bw_1 (List.mem_of_getElem? (i := 205) rfl) rfl
theorem w_206 : (.fieldLink "KateDesk$Curve" 9 "KateDesk$Curve" "xx" "[J" : Cond) ∈ BW := bw_1 (List.mem_of_getElem? (i := 206) rfl) rfl
theorem w_207 : (.fieldLink "KateDesk$Curve" 15 "KateDesk$Curve" "yy" "[J" : Cond) ∈ BW := bw_1 (List.mem_of_getElem? (i := 207) rfl) rfl
theorem w_208 : (.fieldLink "KateDesk$Curve" 18 "KateDesk$Curve" "zz" "[J" : Cond) ∈ BW := bw_1 (List.mem_of_getElem? (i := 208) rfl) rfl
theorem w_209 : (.fieldLink "KateDesk$Curve" 21 "KateDesk$Curve" "xy" "[J" : Cond) ∈ BW := bw_1 (List.mem_of_getElem? (i := 209) rfl) rfl
theorem w_210 : (.fieldLink "KateDesk$Curve" 24 "KateDesk$Curve" "yz" "[J" : Cond) ∈ BW := bw_1 (List.mem_of_getElem? (i := 210) rfl) rfl
theorem w_211 : (.fieldLink "KateDesk$Curve" 27 "KateDesk$Curve" "xz" "[J" : Cond) ∈ BW := bw_1 (List.mem_of_getElem? (i := 211) rfl) rfl
theorem w_212 : (.fieldLink "KateDesk$Curve" 30 "KateDesk$Curve" "left" "[J" : Cond) ∈ BW := bw_1 (List.mem_of_getElem? (i := 212) rfl) rfl
theorem w_213 : (.fieldLink "KateDesk$Curve" 33 "KateDesk$Curve" "right" "[J" : Cond) ∈ BW := bw_1 (List.mem_of_getElem? (i := 213) rfl) rfl
theorem w_214 : (.fieldLink "KateDesk$Curve" 36 "KateDesk$Curve" "opposite" "[J" : Cond) ∈ BW := bw_1 (List.mem_of_getElem? (i := 214) rfl) rfl
theorem w_215 : (.laysFinal "KateDesk$Curve" "KateDesk$Curve" "field" "LKateDesk$Field;" : Cond) ∈ BW := bw_1 (List.mem_of_getElem? (i := 215) rfl) rfl
theorem w_216 : (.soleField "KateDesk$Curve" "field" : Cond) ∈ BW := bw_1 (List.mem_of_getElem? (i := 216) rfl) rfl
theorem w_217 : (.laysFinal "KateDesk$Curve" "KateDesk$Curve" "xx" "[J" : Cond) ∈ BW := bw_1 (List.mem_of_getElem? (i := 217) rfl) rfl
theorem w_218 : (.soleField "KateDesk$Curve" "xx" : Cond) ∈ BW := bw_1 (List.mem_of_getElem? (i := 218) rfl) rfl
theorem w_219 : (.laysFinal "KateDesk$Curve" "KateDesk$Curve" "yy" "[J" : Cond) ∈ BW := bw_1 (List.mem_of_getElem? (i := 219) rfl) rfl
theorem w_220 : (.soleField "KateDesk$Curve" "yy" : Cond) ∈ BW := bw_1 (List.mem_of_getElem? (i := 220) rfl) rfl
theorem w_221 : (.laysFinal "KateDesk$Curve" "KateDesk$Curve" "zz" "[J" : Cond) ∈ BW := bw_1 (List.mem_of_getElem? (i := 221) rfl) rfl
theorem w_222 : (.soleField "KateDesk$Curve" "zz" : Cond) ∈ BW := bw_1 (List.mem_of_getElem? (i := 222) rfl) rfl
theorem w_223 : (.laysFinal "KateDesk$Curve" "KateDesk$Curve" "xy" "[J" : Cond) ∈ BW := bw_1 (List.mem_of_getElem? (i := 223) rfl) rfl
theorem w_224 : (.soleField "KateDesk$Curve" "xy" : Cond) ∈ BW := bw_1 (List.mem_of_getElem? (i := 224) rfl) rfl
theorem w_225 : (.laysFinal "KateDesk$Curve" "KateDesk$Curve" "yz" "[J" : Cond) ∈ BW := bw_1 (List.mem_of_getElem? (i := 225) rfl) rfl
theorem w_226 : (.soleField "KateDesk$Curve" "yz" : Cond) ∈ BW := bw_1 (List.mem_of_getElem? (i := 226) rfl) rfl
theorem w_227 : (.laysFinal "KateDesk$Curve" "KateDesk$Curve" "xz" "[J" : Cond) ∈ BW := bw_1 (List.mem_of_getElem? (i := 227) rfl) rfl
theorem w_228 : (.soleField "KateDesk$Curve" "xz" : Cond) ∈ BW := bw_1 (List.mem_of_getElem? (i := 228) rfl) rfl
theorem w_229 : (.laysFinal "KateDesk$Curve" "KateDesk$Curve" "left" "[J" : Cond) ∈ BW := bw_1 (List.mem_of_getElem? (i := 229) rfl) rfl
theorem w_230 : (.soleField "KateDesk$Curve" "left" : Cond) ∈ BW := bw_1 (List.mem_of_getElem? (i := 230) rfl) rfl
theorem w_231 : (.laysFinal "KateDesk$Curve" "KateDesk$Curve" "right" "[J" : Cond) ∈ BW := bw_1 (List.mem_of_getElem? (i := 231) rfl) rfl
theorem w_232 : (.soleField "KateDesk$Curve" "right" : Cond) ∈ BW := bw_1 (List.mem_of_getElem? (i := 232) rfl) rfl
theorem w_233 : (.laysFinal "KateDesk$Curve" "KateDesk$Curve" "opposite" "[J" : Cond) ∈ BW := bw_1 (List.mem_of_getElem? (i := 233) rfl) rfl
theorem w_234 : (.soleField "KateDesk$Curve" "opposite" : Cond) ∈ BW := bw_1 (List.mem_of_getElem? (i := 234) rfl) rfl
theorem w_235 : (.superclass "KateDesk$Curve" "java/lang/Object" : Cond) ∈ BW := bw_1 (List.mem_of_getElem? (i := 235) rfl) rfl
theorem w_236 : (.classLink "KateDesk" 80 "KateDesk$Sums" : Cond) ∈ BW := bw_1 (List.mem_of_getElem? (i := 236) rfl) rfl
theorem w_237 : (.instantiable "KateDesk$Sums" 4 : Cond) ∈ BW := bw_1 (List.mem_of_getElem? (i := 237) rfl) rfl
theorem w_238 : (.methodLink "KateDesk" 82 ⟨"KateDesk$Sums", "<init>", "(LKateDesk$Curve;)V"⟩ : Cond) ∈ BW := bw_1 (List.mem_of_getElem? (i := 238) rfl) rfl
theorem w_239 : (.instanceMethod ⟨"KateDesk$Sums", "<init>", "(LKateDesk$Curve;)V"⟩ : Cond) ∈ BW := bw_1 (List.mem_of_getElem? (i := 239) rfl) rfl
theorem w_240 : (.code ⟨"KateDesk$Sums", "<init>", "(LKateDesk$Curve;)V"⟩ prog_9_method_1_code 2 none : Cond) ∈ BW := bw_2 (List.mem_of_getElem? (i := 0) rfl) rfl
theorem w_241 : (.methodLink "KateDesk$Sums" 1 ⟨"java/lang/Object", "<init>", "()V"⟩ : Cond) ∈ BW := bw_2 (List.mem_of_getElem? (i := 1) rfl) rfl
theorem w_243 : (.classLink "KateDesk$Sums" 19 "[[B" : Cond) ∈ BW := bw_2 (List.mem_of_getElem? (i := 3) rfl) rfl
theorem w_245 : (.classLink "KateDesk$Sums" 24 "KateDesk$Point" : Cond) ∈ BW := bw_2 (List.mem_of_getElem? (i := 5) rfl) rfl
theorem w_246 : (.methodLink "KateDesk$Sums" 26 ⟨"KateDesk$Point", "<init>", "()V"⟩ : Cond) ∈ BW := bw_2 (List.mem_of_getElem? (i := 6) rfl) rfl
theorem w_247 : (.fieldLink "KateDesk$Sums" 31 "KateDesk$Sums" "curve" "LKateDesk$Curve;" : Cond) ∈ BW := bw_2 (List.mem_of_getElem? (i := 7) rfl) rfl
theorem w_248 : (.fieldLink "KateDesk$Sums" 15 "KateDesk$Sums" "odds" "[LKateDesk$Point;" : Cond) ∈ BW := bw_2 (List.mem_of_getElem? (i := 8) rfl) rfl
theorem w_249 : (.fieldLink "KateDesk$Sums" 21 "KateDesk$Sums" "digits" "[[B" : Cond) ∈ BW := bw_2 (List.mem_of_getElem? (i := 9) rfl) rfl
theorem w_250 : (.fieldLink "KateDesk$Sums" 27 "KateDesk$Sums" "sum" "LKateDesk$Point;" : Cond) ∈ BW := bw_2 (List.mem_of_getElem? (i := 10) rfl) rfl
theorem w_251 : (.laysFinal "KateDesk$Sums" "KateDesk$Sums" "curve" "LKateDesk$Curve;" : Cond) ∈ BW := bw_2 (List.mem_of_getElem? (i := 11) rfl) rfl
theorem w_252 : (.soleField "KateDesk$Sums" "curve" : Cond) ∈ BW := bw_2 (List.mem_of_getElem? (i := 12) rfl) rfl
theorem w_253 : (.laysFinal "KateDesk$Sums" "KateDesk$Sums" "odds" "[LKateDesk$Point;" : Cond) ∈ BW := bw_2 (List.mem_of_getElem? (i := 13) rfl) rfl
theorem w_254 : (.soleField "KateDesk$Sums" "odds" : Cond) ∈ BW := bw_2 (List.mem_of_getElem? (i := 14) rfl) rfl
theorem w_255 : (.laysFinal "KateDesk$Sums" "KateDesk$Sums" "digits" "[[B" : Cond) ∈ BW := bw_2 (List.mem_of_getElem? (i := 15) rfl) rfl
theorem w_256 : (.soleField "KateDesk$Sums" "digits" : Cond) ∈ BW := bw_2 (List.mem_of_getElem? (i := 16) rfl) rfl
theorem w_257 : (.laysFinal "KateDesk$Sums" "KateDesk$Sums" "sum" "LKateDesk$Point;" : Cond) ∈ BW := bw_2 (List.mem_of_getElem? (i := 17) rfl) rfl
theorem w_258 : (.soleField "KateDesk$Sums" "sum" : Cond) ∈ BW := bw_2 (List.mem_of_getElem? (i := 18) rfl) rfl
theorem w_259 : (.superclass "KateDesk$Sums" "java/lang/Object" : Cond) ∈ BW := bw_2 (List.mem_of_getElem? (i := 19) rfl) rfl
theorem w_260 : (.classLink "KateDesk" 89 "KateDesk$Forms" : Cond) ∈ BW := bw_2 (List.mem_of_getElem? (i := 20) rfl) rfl
theorem w_261 : (.instantiable "KateDesk$Forms" 6 : Cond) ∈ BW := bw_2 (List.mem_of_getElem? (i := 21) rfl) rfl
theorem w_262 : (.methodLink "KateDesk" 91 ⟨"KateDesk$Forms", "<init>", "(LKateDesk$Field;LKateDesk$Curve;)V"⟩ : Cond) ∈ BW := bw_2 (List.mem_of_getElem? (i := 22) rfl) rfl
theorem w_263 : (.instanceMethod ⟨"KateDesk$Forms", "<init>", "(LKateDesk$Field;LKateDesk$Curve;)V"⟩ : Cond) ∈ BW := bw_2 (List.mem_of_getElem? (i := 23) rfl) rfl
theorem w_264 : (.code ⟨"KateDesk$Forms", "<init>", "(LKateDesk$Field;LKateDesk$Curve;)V"⟩ prog_4_method_1_code 3 none : Cond) ∈ BW := bw_2 (List.mem_of_getElem? (i := 24) rfl) rfl
theorem w_265 : (.methodLink "KateDesk$Forms" 1 ⟨"java/lang/Object", "<init>", "()V"⟩ : Cond) ∈ BW := bw_2 (List.mem_of_getElem? (i := 25) rfl) rfl
theorem w_266 : (.methodLink "KateDesk$Forms" 37 ⟨"KateDesk$Limbs", "shiftRight", "([J[JI)V"⟩ : Cond) ∈ BW := bw_2 (List.mem_of_getElem? (i := 26) rfl) rfl
theorem w_267 : (.static ⟨"KateDesk$Limbs", "shiftRight", "([J[JI)V"⟩ : Cond) ∈ BW := bw_2 (List.mem_of_getElem? (i := 27) rfl) rfl
theorem w_268 : (.code ⟨"KateDesk$Limbs", "shiftRight", "([J[JI)V"⟩ prog_5_method_11_code 4 none : Cond) ∈ BW := bw_2 (List.mem_of_getElem? (i := 28) rfl) rfl
theorem w_269 : (.methodLink "KateDesk$Limbs" 37 ⟨"KateDesk$Limbs", "bits", "([JII)J"⟩ : Cond) ∈ BW := bw_2 (List.mem_of_getElem? (i := 29) rfl) rfl
theorem w_270 : (.static ⟨"KateDesk$Limbs", "bits", "([JII)J"⟩ : Cond) ∈ BW := bw_2 (List.mem_of_getElem? (i := 30) rfl) rfl
theorem w_271 : (.code ⟨"KateDesk$Limbs", "bits", "([JII)J"⟩ prog_5_method_9_code 7 (Option.some FieldType.long) : Cond) ∈ BW := bw_2 (List.mem_of_getElem? (i := 31) rfl) rfl
theorem w_272 : (.fieldLink "KateDesk$Forms" 24 "KateDesk$Forms" "field" "LKateDesk$Field;" : Cond) ∈ BW := bw_2 (List.mem_of_getElem? (i := 32) rfl) rfl
theorem w_273 : (.fieldLink "KateDesk$Forms" 28 "KateDesk$Forms" "curve" "LKateDesk$Curve;" : Cond) ∈ BW := bw_2 (List.mem_of_getElem? (i := 33) rfl) rfl
theorem w_274 : (.fieldLink "KateDesk$Forms" 9 "KateDesk$Forms" "rootExponent" "[J" : Cond) ∈ BW := bw_2 (List.mem_of_getElem? (i := 34) rfl) rfl
theorem w_275 : (.fieldLink "KateDesk$Forms" 15 "KateDesk$Forms" "square" "[J" : Cond) ∈ BW := bw_2 (List.mem_of_getElem? (i := 35) rfl) rfl
theorem w_276 : (.fieldLink "KateDesk$Forms" 18 "KateDesk$Forms" "found" "[J" : Cond) ∈ BW := bw_2 (List.mem_of_getElem? (i := 36) rfl) rfl
theorem w_277 : (.fieldLink "KateDesk$Forms" 21 "KateDesk$Forms" "plain" "[J" : Cond) ∈ BW := bw_2 (List.mem_of_getElem? (i := 37) rfl) rfl
theorem w_278 : (.laysFinal "KateDesk$Forms" "KateDesk$Forms" "field" "LKateDesk$Field;" : Cond) ∈ BW := bw_2 (List.mem_of_getElem? (i := 38) rfl) rfl
theorem w_279 : (.soleField "KateDesk$Forms" "field" : Cond) ∈ BW := bw_2 (List.mem_of_getElem? (i := 39) rfl) rfl
theorem w_280 : (.laysFinal "KateDesk$Forms" "KateDesk$Forms" "curve" "LKateDesk$Curve;" : Cond) ∈ BW := bw_2 (List.mem_of_getElem? (i := 40) rfl) rfl
theorem w_281 : (.soleField "KateDesk$Forms" "curve" : Cond) ∈ BW := bw_2 (List.mem_of_getElem? (i := 41) rfl) rfl
theorem w_282 : (.laysFinal "KateDesk$Forms" "KateDesk$Forms" "rootExponent" "[J" : Cond) ∈ BW := bw_2 (List.mem_of_getElem? (i := 42) rfl) rfl
theorem w_283 : (.soleField "KateDesk$Forms" "rootExponent" : Cond) ∈ BW := bw_2 (List.mem_of_getElem? (i := 43) rfl) rfl
theorem w_284 : (.laysFinal "KateDesk$Forms" "KateDesk$Forms" "square" "[J" : Cond) ∈ BW := bw_2 (List.mem_of_getElem? (i := 44) rfl) rfl
theorem w_285 : (.soleField "KateDesk$Forms" "square" : Cond) ∈ BW := bw_2 (List.mem_of_getElem? (i := 45) rfl) rfl
theorem w_286 : (.laysFinal "KateDesk$Forms" "KateDesk$Forms" "found" "[J" : Cond) ∈ BW := bw_2 (List.mem_of_getElem? (i := 46) rfl) rfl
theorem w_287 : (.soleField "KateDesk$Forms" "found" : Cond) ∈ BW := bw_2 (List.mem_of_getElem? (i := 47) rfl) rfl
theorem w_288 : (.laysFinal "KateDesk$Forms" "KateDesk$Forms" "plain" "[J" : Cond) ∈ BW := bw_2 (List.mem_of_getElem? (i := 48) rfl) rfl
theorem w_289 : (.soleField "KateDesk$Forms" "plain" : Cond) ∈ BW := bw_2 (List.mem_of_getElem? (i := 49) rfl) rfl
theorem w_290 : (.superclass "KateDesk$Forms" "java/lang/Object" : Cond) ∈ BW := bw_2 (List.mem_of_getElem? (i := 50) rfl) rfl
theorem w_291 : (.classLink "KateDesk" 98 "KateDesk$Polynomials" : Cond) ∈ BW := bw_2 (List.mem_of_getElem? (i := 51) rfl) rfl
theorem w_292 : (.instantiable "KateDesk$Polynomials" 9 : Cond) ∈ BW := bw_2 (List.mem_of_getElem? (i := 52) rfl) rfl
theorem w_293 : (.methodLink "KateDesk" 100 ⟨"KateDesk$Polynomials", "<init>", "(LKateDesk$Field;)V"⟩ : Cond) ∈ BW := bw_2 (List.mem_of_getElem? (i := 53) rfl) rfl
theorem w_294 : (.instanceMethod ⟨"KateDesk$Polynomials", "<init>", "(LKateDesk$Field;)V"⟩ : Cond) ∈ BW := bw_2 (List.mem_of_getElem? (i := 54) rfl) rfl
theorem w_295 : (.code ⟨"KateDesk$Polynomials", "<init>", "(LKateDesk$Field;)V"⟩ prog_7_method_1_code 2 none : Cond) ∈ BW := bw_2 (List.mem_of_getElem? (i := 55) rfl) rfl
theorem w_296 : (.methodLink "KateDesk$Polynomials" 1 ⟨"java/lang/Object", "<init>", "()V"⟩ : Cond) ∈ BW := bw_2 (List.mem_of_getElem? (i := 56) rfl) rfl
theorem w_297 : (.classLink "KateDesk$Polynomials" 33 "[[J" : Cond) ∈ BW := bw_2 (List.mem_of_getElem? (i := 57) rfl) rfl
theorem w_298 : (.constantLong "KateDesk$Polynomials" 42 (7 : Int64) : Cond) ∈ BW := bw_2 (List.mem_of_getElem? (i := 58) rfl) rfl
theorem w_299 : (.methodLink "KateDesk$Polynomials" 44 ⟨"KateDesk$Field", "lift", "([J[J)V"⟩ : Cond) ∈ BW := bw_2 (List.mem_of_getElem? (i := 59) rfl) rfl
theorem w_300 : (.instanceMethod ⟨"KateDesk$Field", "lift", "([J[J)V"⟩ : Cond) ∈ BW := bw_2 (List.mem_of_getElem? (i := 60) rfl) rfl
theorem w_301 : (.selects "KateDesk$Field" ⟨"KateDesk$Field", "lift", "([J[J)V"⟩ ⟨"KateDesk$Field", "lift", "([J[J)V"⟩ : Cond) ∈ BW := bw_2 (List.mem_of_getElem? (i := 61) rfl) rfl
theorem w_302 : (.code ⟨"KateDesk$Field", "lift", "([J[J)V"⟩ prog_3_method_9_code 3 none : Cond) ∈ BW := bw_2 (List.mem_of_getElem? (i := 62) rfl) rfl
theorem w_303 : (.fieldLink "KateDesk$Polynomials" 38 "KateDesk$Polynomials" "field" "LKateDesk$Field;" : Cond) ∈ BW := bw_2 (List.mem_of_getElem? (i := 63) rfl) rfl
theorem w_304 : (.fieldLink "KateDesk$Polynomials" 9 "KateDesk$Polynomials" "seven" "[J" : Cond) ∈ BW := bw_2 (List.mem_of_getElem? (i := 64) rfl) rfl
theorem w_305 : (.fieldLink "KateDesk$Polynomials" 15 "KateDesk$Polynomials" "plainOne" "[J" : Cond) ∈ BW := bw_2 (List.mem_of_getElem? (i := 65) rfl) rfl
theorem w_306 : (.fieldLink "KateDesk$Polynomials" 18 "KateDesk$Polynomials" "exponent" "[J" : Cond) ∈ BW := bw_2 (List.mem_of_getElem? (i := 66) rfl) rfl
theorem w_307 : (.fieldLink "KateDesk$Polynomials" 21 "KateDesk$Polynomials" "root" "[J" : Cond) ∈ BW := bw_2 (List.mem_of_getElem? (i := 67) rfl) rfl
theorem w_308 : (.fieldLink "KateDesk$Polynomials" 24 "KateDesk$Polynomials" "place" "[J" : Cond) ∈ BW := bw_2 (List.mem_of_getElem? (i := 68) rfl) rfl
theorem w_309 : (.fieldLink "KateDesk$Polynomials" 27 "KateDesk$Polynomials" "share" "[J" : Cond) ∈ BW := bw_2 (List.mem_of_getElem? (i := 69) rfl) rfl
theorem w_310 : (.fieldLink "KateDesk$Polynomials" 30 "KateDesk$Polynomials" "next" "[J" : Cond) ∈ BW := bw_2 (List.mem_of_getElem? (i := 70) rfl) rfl
theorem w_311 : (.fieldLink "KateDesk$Polynomials" 35 "KateDesk$Polynomials" "values" "[[J" : Cond) ∈ BW := bw_2 (List.mem_of_getElem? (i := 71) rfl) rfl
theorem w_312 : (.laysFinal "KateDesk$Polynomials" "KateDesk$Polynomials" "field" "LKateDesk$Field;" : Cond) ∈ BW := bw_2 (List.mem_of_getElem? (i := 72) rfl) rfl
theorem w_313 : (.soleField "KateDesk$Polynomials" "field" : Cond) ∈ BW := bw_2 (List.mem_of_getElem? (i := 73) rfl) rfl
theorem w_314 : (.laysFinal "KateDesk$Polynomials" "KateDesk$Polynomials" "seven" "[J" : Cond) ∈ BW := bw_2 (List.mem_of_getElem? (i := 74) rfl) rfl
theorem w_315 : (.soleField "KateDesk$Polynomials" "seven" : Cond) ∈ BW := bw_2 (List.mem_of_getElem? (i := 75) rfl) rfl
theorem w_316 : (.laysFinal "KateDesk$Polynomials" "KateDesk$Polynomials" "plainOne" "[J" : Cond) ∈ BW := bw_2 (List.mem_of_getElem? (i := 76) rfl) rfl
theorem w_317 : (.soleField "KateDesk$Polynomials" "plainOne" : Cond) ∈ BW := bw_2 (List.mem_of_getElem? (i := 77) rfl) rfl
theorem w_318 : (.laysFinal "KateDesk$Polynomials" "KateDesk$Polynomials" "exponent" "[J" : Cond) ∈ BW := bw_2 (List.mem_of_getElem? (i := 78) rfl) rfl
theorem w_319 : (.soleField "KateDesk$Polynomials" "exponent" : Cond) ∈ BW := bw_2 (List.mem_of_getElem? (i := 79) rfl) rfl
theorem w_320 : (.laysFinal "KateDesk$Polynomials" "KateDesk$Polynomials" "root" "[J" : Cond) ∈ BW := bw_2 (List.mem_of_getElem? (i := 80) rfl) rfl
theorem w_321 : (.soleField "KateDesk$Polynomials" "root" : Cond) ∈ BW := bw_2 (List.mem_of_getElem? (i := 81) rfl) rfl
theorem w_322 : (.laysFinal "KateDesk$Polynomials" "KateDesk$Polynomials" "place" "[J" : Cond) ∈ BW := bw_2 (List.mem_of_getElem? (i := 82) rfl) rfl
theorem w_323 : (.soleField "KateDesk$Polynomials" "place" : Cond) ∈ BW := bw_2 (List.mem_of_getElem? (i := 83) rfl) rfl
theorem w_324 : (.laysFinal "KateDesk$Polynomials" "KateDesk$Polynomials" "share" "[J" : Cond) ∈ BW := bw_2 (List.mem_of_getElem? (i := 84) rfl) rfl
theorem w_325 : (.soleField "KateDesk$Polynomials" "share" : Cond) ∈ BW := bw_2 (List.mem_of_getElem? (i := 85) rfl) rfl
theorem w_326 : (.laysFinal "KateDesk$Polynomials" "KateDesk$Polynomials" "next" "[J" : Cond) ∈ BW := bw_2 (List.mem_of_getElem? (i := 86) rfl) rfl
theorem w_327 : (.soleField "KateDesk$Polynomials" "next" : Cond) ∈ BW := bw_2 (List.mem_of_getElem? (i := 87) rfl) rfl
theorem w_328 : (.laysFinal "KateDesk$Polynomials" "KateDesk$Polynomials" "values" "[[J" : Cond) ∈ BW := bw_2 (List.mem_of_getElem? (i := 88) rfl) rfl
theorem w_329 : (.soleField "KateDesk$Polynomials" "values" : Cond) ∈ BW := bw_2 (List.mem_of_getElem? (i := 89) rfl) rfl
theorem w_330 : (.superclass "KateDesk$Polynomials" "java/lang/Object" : Cond) ∈ BW := bw_2 (List.mem_of_getElem? (i := 90) rfl) rfl
theorem w_331 : (.methodLink "KateDesk" 105 ⟨"KateDesk", "newGenerator", "(LKateDesk$Field;)LKateDesk$Point;"⟩ : Cond) ∈ BW := bw_2 (List.mem_of_getElem? (i := 91) rfl) rfl
theorem w_332 : (.static ⟨"KateDesk", "newGenerator", "(LKateDesk$Field;)LKateDesk$Point;"⟩ : Cond) ∈ BW := bw_2 (List.mem_of_getElem? (i := 92) rfl) rfl
theorem w_333 : (.code ⟨"KateDesk", "newGenerator", "(LKateDesk$Field;)LKateDesk$Point;"⟩ prog_1_method_28_code 2 (Option.some (FieldType.object "KateDesk$Point")) : Cond) ∈ BW := bw_2 (List.mem_of_getElem? (i := 93) rfl) rfl
theorem w_335 : (.methodLink "KateDesk" 294 ⟨"KateDesk$Limbs", "fromHex", "(Ljava/lang/String;)[J"⟩ : Cond) ∈ BW := bw_2 (List.mem_of_getElem? (i := 95) rfl) rfl
theorem w_336 : (.methodLink "KateDesk" 187 ⟨"KateDesk$Field", "lift", "([J[J)V"⟩ : Cond) ∈ BW := bw_2 (List.mem_of_getElem? (i := 96) rfl) rfl
theorem w_338 : (.methodLink "KateDesk" 152 ⟨"KateDesk$Limbs", "copy", "([J[J)V"⟩ : Cond) ∈ BW := bw_2 (List.mem_of_getElem? (i := 98) rfl) rfl
theorem w_339 : (.fieldLink "KateDesk" 72 "KateDesk" "scalarField" "LKateDesk$Field;" : Cond) ∈ BW := bw_2 (List.mem_of_getElem? (i := 99) rfl) rfl
theorem w_340 : (.fieldLink "KateDesk" 76 "KateDesk" "curve" "LKateDesk$Curve;" : Cond) ∈ BW := bw_2 (List.mem_of_getElem? (i := 100) rfl) rfl
theorem w_341 : (.fieldLink "KateDesk" 85 "KateDesk" "sums" "LKateDesk$Sums;" : Cond) ∈ BW := bw_2 (List.mem_of_getElem? (i := 101) rfl) rfl
theorem w_342 : (.fieldLink "KateDesk" 94 "KateDesk" "forms" "LKateDesk$Forms;" : Cond) ∈ BW := bw_2 (List.mem_of_getElem? (i := 102) rfl) rfl
theorem w_343 : (.fieldLink "KateDesk" 101 "KateDesk" "polynomials" "LKateDesk$Polynomials;" : Cond) ∈ BW := bw_2 (List.mem_of_getElem? (i := 103) rfl) rfl
theorem w_344 : (.fieldLink "KateDesk" 13 "KateDesk" "scalars" "[[J" : Cond) ∈ BW := bw_2 (List.mem_of_getElem? (i := 104) rfl) rfl
theorem w_345 : (.fieldLink "KateDesk" 20 "KateDesk" "points" "[LKateDesk$Point;" : Cond) ∈ BW := bw_2 (List.mem_of_getElem? (i := 105) rfl) rfl
theorem w_346 : (.fieldLink "KateDesk" 24 "KateDesk" "powers" "[LKateDesk$Point;" : Cond) ∈ BW := bw_2 (List.mem_of_getElem? (i := 106) rfl) rfl
theorem w_347 : (.fieldLink "KateDesk" 27 "KateDesk" "powerCount" "I" : Cond) ∈ BW := bw_2 (List.mem_of_getElem? (i := 107) rfl) rfl
theorem w_348 : (.fieldLink "KateDesk" 34 "KateDesk" "tape" "LKateDesk$Row;" : Cond) ∈ BW := bw_2 (List.mem_of_getElem? (i := 108) rfl) rfl
theorem w_349 : (.fieldLink "KateDesk" 38 "KateDesk" "written" "LKateDesk$Row;" : Cond) ∈ BW := bw_2 (List.mem_of_getElem? (i := 109) rfl) rfl
theorem w_350 : (.fieldLink "KateDesk" 109 "KateDesk" "generator" "LKateDesk$Point;" : Cond) ∈ BW := bw_2 (List.mem_of_getElem? (i := 110) rfl) rfl
theorem w_351 : (.fieldLink "KateDesk" 44 "KateDesk" "handPoint" "LKateDesk$Point;" : Cond) ∈ BW := bw_2 (List.mem_of_getElem? (i := 111) rfl) rfl
theorem w_352 : (.fieldLink "KateDesk" 48 "KateDesk" "multiple" "LKateDesk$Point;" : Cond) ∈ BW := bw_2 (List.mem_of_getElem? (i := 112) rfl) rfl
theorem w_353 : (.fieldLink "KateDesk" 51 "KateDesk" "handScalar" "[J" : Cond) ∈ BW := bw_2 (List.mem_of_getElem? (i := 113) rfl) rfl
theorem w_354 : (.fieldLink "KateDesk" 55 "KateDesk" "factor" "[J" : Cond) ∈ BW := bw_2 (List.mem_of_getElem? (i := 114) rfl) rfl
theorem w_355 : (.laysFinal "KateDesk" "KateDesk" "scalarField" "LKateDesk$Field;" : Cond) ∈ BW := bw_2 (List.mem_of_getElem? (i := 115) rfl) rfl
theorem w_356 : (.soleField "KateDesk" "scalarField" : Cond) ∈ BW := bw_2 (List.mem_of_getElem? (i := 116) rfl) rfl
theorem w_357 : (.laysFinal "KateDesk" "KateDesk" "curve" "LKateDesk$Curve;" : Cond) ∈ BW := bw_2 (List.mem_of_getElem? (i := 117) rfl) rfl
theorem w_358 : (.soleField "KateDesk" "curve" : Cond) ∈ BW := bw_2 (List.mem_of_getElem? (i := 118) rfl) rfl
theorem w_359 : (.laysFinal "KateDesk" "KateDesk" "sums" "LKateDesk$Sums;" : Cond) ∈ BW := bw_2 (List.mem_of_getElem? (i := 119) rfl) rfl
theorem w_360 : (.soleField "KateDesk" "sums" : Cond) ∈ BW := bw_2 (List.mem_of_getElem? (i := 120) rfl) rfl
theorem w_361 : (.laysFinal "KateDesk" "KateDesk" "forms" "LKateDesk$Forms;" : Cond) ∈ BW := bw_2 (List.mem_of_getElem? (i := 121) rfl) rfl
theorem w_362 : (.soleField "KateDesk" "forms" : Cond) ∈ BW := bw_2 (List.mem_of_getElem? (i := 122) rfl) rfl
theorem w_363 : (.laysFinal "KateDesk" "KateDesk" "polynomials" "LKateDesk$Polynomials;" : Cond) ∈ BW := bw_2 (List.mem_of_getElem? (i := 123) rfl) rfl
theorem w_364 : (.soleField "KateDesk" "polynomials" : Cond) ∈ BW := bw_2 (List.mem_of_getElem? (i := 124) rfl) rfl
theorem w_365 : (.laysFinal "KateDesk" "KateDesk" "scalars" "[[J" : Cond) ∈ BW := bw_2 (List.mem_of_getElem? (i := 125) rfl) rfl
theorem w_366 : (.soleField "KateDesk" "scalars" : Cond) ∈ BW := bw_2 (List.mem_of_getElem? (i := 126) rfl) rfl
theorem w_367 : (.laysFinal "KateDesk" "KateDesk" "points" "[LKateDesk$Point;" : Cond) ∈ BW := bw_2 (List.mem_of_getElem? (i := 127) rfl) rfl
theorem w_368 : (.soleField "KateDesk" "points" : Cond) ∈ BW := bw_2 (List.mem_of_getElem? (i := 128) rfl) rfl
theorem w_369 : (.laysFinal "KateDesk" "KateDesk" "powers" "[LKateDesk$Point;" : Cond) ∈ BW := bw_2 (List.mem_of_getElem? (i := 129) rfl) rfl
theorem w_370 : (.soleField "KateDesk" "powers" : Cond) ∈ BW := bw_2 (List.mem_of_getElem? (i := 130) rfl) rfl
theorem w_371 : (.lays "KateDesk" "KateDesk" "powerCount" "I" : Cond) ∈ BW := bw_2 (List.mem_of_getElem? (i := 131) rfl) rfl
theorem w_372 : (.soleField "KateDesk" "powerCount" : Cond) ∈ BW := bw_2 (List.mem_of_getElem? (i := 132) rfl) rfl
theorem w_373 : (.laysFinal "KateDesk" "KateDesk" "tape" "LKateDesk$Row;" : Cond) ∈ BW := bw_2 (List.mem_of_getElem? (i := 133) rfl) rfl
theorem w_374 : (.soleField "KateDesk" "tape" : Cond) ∈ BW := bw_2 (List.mem_of_getElem? (i := 134) rfl) rfl
theorem w_375 : (.laysFinal "KateDesk" "KateDesk" "written" "LKateDesk$Row;" : Cond) ∈ BW := bw_2 (List.mem_of_getElem? (i := 135) rfl) rfl
theorem w_376 : (.soleField "KateDesk" "written" : Cond) ∈ BW := bw_2 (List.mem_of_getElem? (i := 136) rfl) rfl
theorem w_377 : (.laysFinal "KateDesk" "KateDesk" "generator" "LKateDesk$Point;" : Cond) ∈ BW := bw_2 (List.mem_of_getElem? (i := 137) rfl) rfl
theorem w_378 : (.soleField "KateDesk" "generator" : Cond) ∈ BW := bw_2 (List.mem_of_getElem? (i := 138) rfl) rfl
theorem w_379 : (.laysFinal "KateDesk" "KateDesk" "handPoint" "LKateDesk$Point;" : Cond) ∈ BW := bw_2 (List.mem_of_getElem? (i := 139) rfl) rfl
theorem w_380 : (.soleField "KateDesk" "handPoint" : Cond) ∈ BW := bw_2 (List.mem_of_getElem? (i := 140) rfl) rfl
theorem w_381 : (.laysFinal "KateDesk" "KateDesk" "multiple" "LKateDesk$Point;" : Cond) ∈ BW := bw_2 (List.mem_of_getElem? (i := 141) rfl) rfl
theorem w_382 : (.soleField "KateDesk" "multiple" : Cond) ∈ BW := bw_2 (List.mem_of_getElem? (i := 142) rfl) rfl
theorem w_383 : (.laysFinal "KateDesk" "KateDesk" "handScalar" "[J" : Cond) ∈ BW := bw_2 (List.mem_of_getElem? (i := 143) rfl) rfl
theorem w_384 : (.soleField "KateDesk" "handScalar" : Cond) ∈ BW := bw_2 (List.mem_of_getElem? (i := 144) rfl) rfl
theorem w_385 : (.laysFinal "KateDesk" "KateDesk" "factor" "[J" : Cond) ∈ BW := bw_2 (List.mem_of_getElem? (i := 145) rfl) rfl
theorem w_386 : (.soleField "KateDesk" "factor" : Cond) ∈ BW := bw_2 (List.mem_of_getElem? (i := 146) rfl) rfl
theorem w_387 : (.superclass "KateDesk" "java/lang/Object" : Cond) ∈ BW := bw_2 (List.mem_of_getElem? (i := 147) rfl) rfl
theorem w_388 : (.methodLink "KateDeskLaw" 100 ⟨"KateDeskLaw", "feed", "(LKateDesk;IJ[J)I"⟩ : Cond) ∈ BW := bw_2 (List.mem_of_getElem? (i := 148) rfl) rfl
theorem w_389 : (.static ⟨"KateDeskLaw", "feed", "(LKateDesk;IJ[J)I"⟩ : Cond) ∈ BW := bw_2 (List.mem_of_getElem? (i := 149) rfl) rfl
theorem w_390 : (.codeWith ⟨"KateDeskLaw", "feed", "(LKateDesk;IJ[J)I"⟩ method_3_code 6 (Option.some FieldType.int) [(0, 11, 14, 13), (0, 11, 18, 15)] : Cond) ∈ BW := bw_2 (List.mem_of_getElem? (i := 150) rfl) rfl
theorem w_391 : (.classLink "KateDeskLaw" 13 "java/lang/IllegalArgumentException" : Cond) ∈ BW := bw_2 (List.mem_of_getElem? (i := 151) rfl) rfl
theorem w_392 : (.classLink "KateDeskLaw" 15 "java/lang/IllegalStateException" : Cond) ∈ BW := bw_2 (List.mem_of_getElem? (i := 152) rfl) rfl
theorem w_393 : (.methodLink "KateDeskLaw" 7 ⟨"KateDesk", "feed", "(IJ)I"⟩ : Cond) ∈ BW := bw_2 (List.mem_of_getElem? (i := 153) rfl) rfl
theorem w_394 : (.instanceMethod ⟨"KateDesk", "feed", "(IJ)I"⟩ : Cond) ∈ BW := bw_2 (List.mem_of_getElem? (i := 154) rfl) rfl
theorem w_395 : (.selects "KateDesk" ⟨"KateDesk", "feed", "(IJ)I"⟩ ⟨"KateDesk", "feed", "(IJ)I"⟩ : Cond) ∈ BW := bw_2 (List.mem_of_getElem? (i := 155) rfl) rfl
theorem w_396 : (.code ⟨"KateDesk", "feed", "(IJ)I"⟩ prog_1_method_2_code 5 (Option.some FieldType.int) : Cond) ∈ BW := bw_2 (List.mem_of_getElem? (i := 156) rfl) rfl
theorem w_397 : (.classLink "KateDesk" 112 "java/lang/IllegalArgumentException" : Cond) ∈ BW := bw_2 (List.mem_of_getElem? (i := 157) rfl) rfl
theorem w_398 : (.instantiable "java/lang/IllegalArgumentException" 6 : Cond) ∈ BW := bw_2 (List.mem_of_getElem? (i := 158) rfl) rfl
theorem w_406 : (.selects "java/lang/IllegalArgumentException" ⟨"java/lang/Throwable", "fillInStackTrace", "(I)Ljava/lang/Throwable;"⟩ ⟨"java/lang/Throwable", "fillInStackTrace", "(I)Ljava/lang/Throwable;"⟩ : Cond) ∈ BW := bw_2 (List.mem_of_getElem? (i := 166) rfl) rfl
theorem w_407 : (.selects "java/lang/IllegalArgumentException" ⟨"java/lang/Throwable", "fillInStackTrace", "()Ljava/lang/Throwable;"⟩ ⟨"java/lang/Throwable", "fillInStackTrace", "()Ljava/lang/Throwable;"⟩ : Cond) ∈ BW := bw_2 (List.mem_of_getElem? (i := 167) rfl) rfl
theorem w_408 : (.lays "java/lang/IllegalArgumentException" "java/lang/Throwable" "cause" "Ljava/lang/Throwable;" : Cond) ∈ BW := bw_2 (List.mem_of_getElem? (i := 168) rfl) rfl
theorem w_409 : (.lays "java/lang/Throwable" "java/lang/Throwable" "cause" "Ljava/lang/Throwable;" : Cond) ∈ BW := bw_2 (List.mem_of_getElem? (i := 169) rfl) rfl
theorem w_410 : (.lays "java/lang/IllegalArgumentException" "java/lang/Throwable" "stackTrace" "[Ljava/lang/StackTraceElement;" : Cond) ∈ BW := bw_2 (List.mem_of_getElem? (i := 170) rfl) rfl
theorem w_411 : (.lays "java/lang/Throwable" "java/lang/Throwable" "stackTrace" "[Ljava/lang/StackTraceElement;" : Cond) ∈ BW := bw_2 (List.mem_of_getElem? (i := 171) rfl) rfl
theorem w_412 : (.lays "java/lang/IllegalArgumentException" "java/lang/Throwable" "suppressedExceptions" "Ljava/util/List;" : Cond) ∈ BW := bw_2 (List.mem_of_getElem? (i := 172) rfl) rfl
theorem w_413 : (.lays "java/lang/Throwable" "java/lang/Throwable" "suppressedExceptions" "Ljava/util/List;" : Cond) ∈ BW := bw_2 (List.mem_of_getElem? (i := 173) rfl) rfl
theorem w_414 : (.lays "java/lang/IllegalArgumentException" "java/lang/Throwable" "detailMessage" "Ljava/lang/String;" : Cond) ∈ BW := bw_2 (List.mem_of_getElem? (i := 174) rfl) rfl
theorem w_415 : (.lays "java/lang/Throwable" "java/lang/Throwable" "detailMessage" "Ljava/lang/String;" : Cond) ∈ BW := bw_2 (List.mem_of_getElem? (i := 175) rfl) rfl
theorem w_416 : (.lays "java/lang/IllegalArgumentException" "java/lang/Throwable" "backtrace" "Ljava/lang/Object;" : Cond) ∈ BW := bw_2 (List.mem_of_getElem? (i := 176) rfl) rfl
theorem w_417 : (.lays "java/lang/Throwable" "java/lang/Throwable" "backtrace" "Ljava/lang/Object;" : Cond) ∈ BW := bw_2 (List.mem_of_getElem? (i := 177) rfl) rfl
theorem w_418 : (.fieldLink "java/lang/Throwable" 198 "java/lang/Throwable" "backtrace" "Ljava/lang/Object;" : Cond) ∈ BW := bw_2 (List.mem_of_getElem? (i := 178) rfl) rfl
theorem w_419 : (.superclass "java/lang/Throwable" "java/lang/Object" : Cond) ∈ BW := bw_2 (List.mem_of_getElem? (i := 179) rfl) rfl
theorem w_420 : (.instanceMethod ⟨"java/lang/Throwable", "<init>", "()V"⟩ : Cond) ∈ BW := bw_2 (List.mem_of_getElem? (i := 180) rfl) rfl
theorem w_421 : (.code ⟨"java/lang/Throwable", "<init>", "()V"⟩ prog_22_method_1_code 1 none : Cond) ∈ BW := bw_2 (List.mem_of_getElem? (i := 181) rfl) rfl
theorem w_422 : (.methodLink "java/lang/Throwable" 1 ⟨"java/lang/Object", "<init>", "()V"⟩ : Cond) ∈ BW := bw_2 (List.mem_of_getElem? (i := 182) rfl) rfl
theorem w_423 : (.fieldLink "java/lang/Throwable" 13 "java/lang/Throwable" "UNASSIGNED_STACK" "[Ljava/lang/StackTraceElement;" : Cond) ∈ BW := bw_2 (List.mem_of_getElem? (i := 183) rfl) rfl
theorem w_425 : (.fieldLink "java/lang/Throwable" 20 "java/lang/Throwable" "SUPPRESSED_SENTINEL" "Ljava/util/List;" : Cond) ∈ BW := bw_2 (List.mem_of_getElem? (i := 185) rfl) rfl
theorem w_427 : (.methodLink "java/lang/Throwable" 27 ⟨"java/lang/Throwable", "fillInStackTrace", "()Ljava/lang/Throwable;"⟩ : Cond) ∈ BW := bw_2 (List.mem_of_getElem? (i := 187) rfl) rfl
theorem w_428 : (.instanceMethod ⟨"java/lang/Throwable", "fillInStackTrace", "()Ljava/lang/Throwable;"⟩ : Cond) ∈ BW := bw_2 (List.mem_of_getElem? (i := 188) rfl) rfl
theorem w_429 : (.sameMethod "java/lang/Throwable" "java/lang/Throwable" "fillInStackTrace" "()Ljava/lang/Throwable;" : Cond) ∈ BW := bw_2 (List.mem_of_getElem? (i := 189) rfl) rfl
theorem w_430 : (.selects "java/lang/ArithmeticException" ⟨"java/lang/Throwable", "fillInStackTrace", "()Ljava/lang/Throwable;"⟩ ⟨"java/lang/Throwable", "fillInStackTrace", "()Ljava/lang/Throwable;"⟩ : Cond) ∈ BW := bw_2 (List.mem_of_getElem? (i := 190) rfl) rfl
theorem w_431 : (.selects "java/lang/IllegalStateException" ⟨"java/lang/Throwable", "fillInStackTrace", "()Ljava/lang/Throwable;"⟩ ⟨"java/lang/Throwable", "fillInStackTrace", "()Ljava/lang/Throwable;"⟩ : Cond) ∈ BW := bw_2 (List.mem_of_getElem? (i := 191) rfl) rfl
theorem w_432 : (.selects "java/util/NoSuchElementException" ⟨"java/lang/Throwable", "fillInStackTrace", "()Ljava/lang/Throwable;"⟩ ⟨"java/lang/Throwable", "fillInStackTrace", "()Ljava/lang/Throwable;"⟩ : Cond) ∈ BW := bw_2 (List.mem_of_getElem? (i := 192) rfl) rfl
theorem w_433 : (.codeSync ⟨"java/lang/Throwable", "fillInStackTrace", "()Ljava/lang/Throwable;"⟩ prog_22_method_18_code 1 (Option.some (FieldType.object "java/lang/Throwable")) : Cond) ∈ BW := bw_2 (List.mem_of_getElem? (i := 193) rfl) rfl
theorem w_434 : (.methodLink "java/lang/Throwable" 202 ⟨"java/lang/Throwable", "fillInStackTrace", "(I)Ljava/lang/Throwable;"⟩ : Cond) ∈ BW := bw_2 (List.mem_of_getElem? (i := 194) rfl) rfl
theorem w_436 : (.instanceMethod ⟨"java/lang/Throwable", "fillInStackTrace", "(I)Ljava/lang/Throwable;"⟩ : Cond) ∈ BW := bw_2 (List.mem_of_getElem? (i := 196) rfl) rfl
theorem w_437 : (.instantiable "java/lang/Throwable" 6 : Cond) ∈ BW := bw_2 (List.mem_of_getElem? (i := 197) rfl) rfl
theorem w_438 : (.native ⟨"java/lang/Throwable", "fillInStackTrace", "(I)Ljava/lang/Throwable;"⟩ : Cond) ∈ BW := bw_2 (List.mem_of_getElem? (i := 198) rfl) rfl
theorem w_440 : (.methodLink "KateDesk" 116 ⟨"java/lang/IllegalArgumentException", "<init>", "(Ljava/lang/String;)V"⟩ : Cond) ∈ BW := bw_2 (List.mem_of_getElem? (i := 200) rfl) rfl
theorem w_441 : (.instanceMethod ⟨"java/lang/IllegalArgumentException", "<init>", "(Ljava/lang/String;)V"⟩ : Cond) ∈ BW := bw_2 (List.mem_of_getElem? (i := 201) rfl) rfl
theorem w_442 : (.code ⟨"java/lang/IllegalArgumentException", "<init>", "(Ljava/lang/String;)V"⟩ prog_14_method_2_code 2 none : Cond) ∈ BW := bw_2 (List.mem_of_getElem? (i := 202) rfl) rfl
theorem w_443 : (.methodLink "java/lang/IllegalArgumentException" 7 ⟨"java/lang/RuntimeException", "<init>", "(Ljava/lang/String;)V"⟩ : Cond) ∈ BW := bw_2 (List.mem_of_getElem? (i := 203) rfl) rfl
theorem w_444 : (.instanceMethod ⟨"java/lang/RuntimeException", "<init>", "(Ljava/lang/String;)V"⟩ : Cond) ∈ BW := bw_2 (List.mem_of_getElem? (i := 204) rfl) rfl
theorem w_445 : (.code ⟨"java/lang/RuntimeException", "<init>", "(Ljava/lang/String;)V"⟩ prog_17_method_2_code 2 none : Cond) ∈ BW := bw_2 (List.mem_of_getElem? (i := 205) rfl) rfl
theorem w_446 : (.methodLink "java/lang/RuntimeException" 7 ⟨"java/lang/Exception", "<init>", "(Ljava/lang/String;)V"⟩ : Cond) ∈ BW := bw_2 (List.mem_of_getElem? (i := 206) rfl) rfl
end
section
theorem w_447 : (.instanceMethod ⟨"java/lang/Exception", "<init>", "(Ljava/lang/String;)V"⟩ : Cond) ∈ BW := bw_2 (List.mem_of_getElem? (i := 207) rfl) rfl
theorem w_448 : (.code ⟨"java/lang/Exception", "<init>", "(Ljava/lang/String;)V"⟩ prog_13_method_2_code 2 none : Cond) ∈ BW := bw_2 (List.mem_of_getElem? (i := 208) rfl) rfl
theorem w_449 : (.methodLink "java/lang/Exception" 7 ⟨"java/lang/Throwable", "<init>", "(Ljava/lang/String;)V"⟩ : Cond) ∈ BW := bw_2 (List.mem_of_getElem? (i := 209) rfl) rfl
theorem w_450 : (.instanceMethod ⟨"java/lang/Throwable", "<init>", "(Ljava/lang/String;)V"⟩ : Cond) ∈ BW := bw_2 (List.mem_of_getElem? (i := 210) rfl) rfl
theorem w_451 : (.code ⟨"java/lang/Throwable", "<init>", "(Ljava/lang/String;)V"⟩ prog_22_method_2_code 2 none : Cond) ∈ BW := bw_2 (List.mem_of_getElem? (i := 211) rfl) rfl
theorem w_452 : (.fieldLink "java/lang/Throwable" 198 "java/lang/Throwable" "backtrace" "Ljava/lang/Object;" : Cond) ∈ BW := bw_2 (List.mem_of_getElem? (i := 212) rfl) rfl
theorem w_453 : (.fieldLink "java/lang/Throwable" 31 "java/lang/Throwable" "detailMessage" "Ljava/lang/String;" : Cond) ∈ BW := bw_2 (List.mem_of_getElem? (i := 213) rfl) rfl
theorem w_454 : (.fieldLink "java/lang/Throwable" 7 "java/lang/Throwable" "cause" "Ljava/lang/Throwable;" : Cond) ∈ BW := bw_2 (List.mem_of_getElem? (i := 214) rfl) rfl
theorem w_455 : (.fieldLink "java/lang/Throwable" 17 "java/lang/Throwable" "stackTrace" "[Ljava/lang/StackTraceElement;" : Cond) ∈ BW := bw_2 (List.mem_of_getElem? (i := 215) rfl) rfl
theorem w_456 : (.fieldLink "java/lang/Throwable" 24 "java/lang/Throwable" "suppressedExceptions" "Ljava/util/List;" : Cond) ∈ BW := bw_2 (List.mem_of_getElem? (i := 216) rfl) rfl
theorem w_457 : (.soleField "java/lang/Throwable" "backtrace" : Cond) ∈ BW := bw_2 (List.mem_of_getElem? (i := 217) rfl) rfl
theorem w_458 : (.soleField "java/lang/Throwable" "detailMessage" : Cond) ∈ BW := bw_2 (List.mem_of_getElem? (i := 218) rfl) rfl
theorem w_459 : (.soleField "java/lang/Throwable" "cause" : Cond) ∈ BW := bw_2 (List.mem_of_getElem? (i := 219) rfl) rfl
theorem w_460 : (.soleField "java/lang/Throwable" "stackTrace" : Cond) ∈ BW := bw_2 (List.mem_of_getElem? (i := 220) rfl) rfl
theorem w_461 : (.lays "java/lang/IllegalArgumentException" "java/lang/Throwable" "depth" "I" : Cond) ∈ BW := bw_2 (List.mem_of_getElem? (i := 221) rfl) rfl
theorem w_462 : (.soleField "java/lang/Throwable" "depth" : Cond) ∈ BW := bw_2 (List.mem_of_getElem? (i := 222) rfl) rfl
theorem w_463 : (.soleField "java/lang/Throwable" "suppressedExceptions" : Cond) ∈ BW := bw_2 (List.mem_of_getElem? (i := 223) rfl) rfl
theorem w_464 : (.superclass "java/lang/IllegalArgumentException" "java/lang/RuntimeException" : Cond) ∈ BW := bw_2 (List.mem_of_getElem? (i := 224) rfl) rfl
theorem w_465 : (.classLink "KateDesk" 120 "java/lang/IllegalStateException" : Cond) ∈ BW := bw_2 (List.mem_of_getElem? (i := 225) rfl) rfl
theorem w_466 : (.instantiable "java/lang/IllegalStateException" 6 : Cond) ∈ BW := bw_2 (List.mem_of_getElem? (i := 226) rfl) rfl
theorem w_468 : (.selects "java/lang/IllegalStateException" ⟨"java/lang/Throwable", "fillInStackTrace", "(I)Ljava/lang/Throwable;"⟩ ⟨"java/lang/Throwable", "fillInStackTrace", "(I)Ljava/lang/Throwable;"⟩ : Cond) ∈ BW := bw_2 (List.mem_of_getElem? (i := 228) rfl) rfl
theorem w_469 : (.lays "java/lang/IllegalStateException" "java/lang/Throwable" "cause" "Ljava/lang/Throwable;" : Cond) ∈ BW := bw_2 (List.mem_of_getElem? (i := 229) rfl) rfl
theorem w_470 : (.lays "java/lang/IllegalStateException" "java/lang/Throwable" "stackTrace" "[Ljava/lang/StackTraceElement;" : Cond) ∈ BW := bw_2 (List.mem_of_getElem? (i := 230) rfl) rfl
theorem w_471 : (.lays "java/lang/IllegalStateException" "java/lang/Throwable" "suppressedExceptions" "Ljava/util/List;" : Cond) ∈ BW := bw_2 (List.mem_of_getElem? (i := 231) rfl) rfl
theorem w_472 : (.lays "java/lang/IllegalStateException" "java/lang/Throwable" "detailMessage" "Ljava/lang/String;" : Cond) ∈ BW := bw_2 (List.mem_of_getElem? (i := 232) rfl) rfl
theorem w_473 : (.lays "java/lang/IllegalStateException" "java/lang/Throwable" "backtrace" "Ljava/lang/Object;" : Cond) ∈ BW := bw_2 (List.mem_of_getElem? (i := 233) rfl) rfl
theorem w_475 : (.methodLink "KateDesk" 124 ⟨"java/lang/IllegalStateException", "<init>", "(Ljava/lang/String;)V"⟩ : Cond) ∈ BW := bw_2 (List.mem_of_getElem? (i := 235) rfl) rfl
theorem w_476 : (.instanceMethod ⟨"java/lang/IllegalStateException", "<init>", "(Ljava/lang/String;)V"⟩ : Cond) ∈ BW := bw_2 (List.mem_of_getElem? (i := 236) rfl) rfl
theorem w_477 : (.code ⟨"java/lang/IllegalStateException", "<init>", "(Ljava/lang/String;)V"⟩ prog_15_method_2_code 2 none : Cond) ∈ BW := bw_2 (List.mem_of_getElem? (i := 237) rfl) rfl
theorem w_478 : (.methodLink "java/lang/IllegalStateException" 7 ⟨"java/lang/RuntimeException", "<init>", "(Ljava/lang/String;)V"⟩ : Cond) ∈ BW := bw_2 (List.mem_of_getElem? (i := 238) rfl) rfl
theorem w_479 : (.lays "java/lang/IllegalStateException" "java/lang/Throwable" "depth" "I" : Cond) ∈ BW := bw_2 (List.mem_of_getElem? (i := 239) rfl) rfl
theorem w_480 : (.superclass "java/lang/IllegalStateException" "java/lang/RuntimeException" : Cond) ∈ BW := bw_3 (List.mem_of_getElem? (i := 0) rfl) rfl
theorem w_481 : (.methodLink "KateDesk" 125 ⟨"KateDesk$Row", "append", "(I)V"⟩ : Cond) ∈ BW := bw_3 (List.mem_of_getElem? (i := 1) rfl) rfl
theorem w_482 : (.instanceMethod ⟨"KateDesk$Row", "append", "(I)V"⟩ : Cond) ∈ BW := bw_3 (List.mem_of_getElem? (i := 2) rfl) rfl
theorem w_483 : (.selects "KateDesk$Row" ⟨"KateDesk$Row", "append", "(I)V"⟩ ⟨"KateDesk$Row", "append", "(I)V"⟩ : Cond) ∈ BW := bw_3 (List.mem_of_getElem? (i := 3) rfl) rfl
theorem w_484 : (.code ⟨"KateDesk$Row", "append", "(I)V"⟩ prog_8_method_2_code 2 none : Cond) ∈ BW := bw_3 (List.mem_of_getElem? (i := 4) rfl) rfl
theorem w_485 : (.methodLink "KateDeskLaw" 110 ⟨"KateDeskLaw", "number", "(LKateDesk;I[J)I"⟩ : Cond) ∈ BW := bw_3 (List.mem_of_getElem? (i := 5) rfl) rfl
theorem w_486 : (.static ⟨"KateDeskLaw", "number", "(LKateDesk;I[J)I"⟩ : Cond) ∈ BW := bw_3 (List.mem_of_getElem? (i := 6) rfl) rfl
theorem w_487 : (.codeWith ⟨"KateDeskLaw", "number", "(LKateDesk;I[J)I"⟩ method_4_code 4 (Option.some FieldType.int) [(0, 16, 19, 13)] : Cond) ∈ BW := bw_3 (List.mem_of_getElem? (i := 7) rfl) rfl
theorem w_488 : (.methodLink "KateDeskLaw" 17 ⟨"KateDesk", "number", "(I)Z"⟩ : Cond) ∈ BW := bw_3 (List.mem_of_getElem? (i := 8) rfl) rfl
theorem w_489 : (.instanceMethod ⟨"KateDesk", "number", "(I)Z"⟩ : Cond) ∈ BW := bw_3 (List.mem_of_getElem? (i := 9) rfl) rfl
theorem w_490 : (.selects "KateDesk" ⟨"KateDesk", "number", "(I)Z"⟩ ⟨"KateDesk", "number", "(I)Z"⟩ : Cond) ∈ BW := bw_3 (List.mem_of_getElem? (i := 10) rfl) rfl
theorem w_491 : (.code ⟨"KateDesk", "number", "(I)Z"⟩ prog_1_method_3_code 3 (Option.some FieldType.boolean) : Cond) ∈ BW := bw_3 (List.mem_of_getElem? (i := 11) rfl) rfl
theorem w_492 : (.methodLink "KateDesk" 129 ⟨"KateDesk", "needScalars", "(II)V"⟩ : Cond) ∈ BW := bw_3 (List.mem_of_getElem? (i := 12) rfl) rfl
theorem w_493 : (.static ⟨"KateDesk", "needScalars", "(II)V"⟩ : Cond) ∈ BW := bw_3 (List.mem_of_getElem? (i := 13) rfl) rfl
theorem w_494 : (.code ⟨"KateDesk", "needScalars", "(II)V"⟩ prog_1_method_25_code 2 none : Cond) ∈ BW := bw_3 (List.mem_of_getElem? (i := 14) rfl) rfl
theorem w_496 : (.methodLink "KateDesk" 133 ⟨"KateDesk$Limbs", "clear", "([J)V"⟩ : Cond) ∈ BW := bw_3 (List.mem_of_getElem? (i := 16) rfl) rfl
theorem w_497 : (.static ⟨"KateDesk$Limbs", "clear", "([J)V"⟩ : Cond) ∈ BW := bw_3 (List.mem_of_getElem? (i := 17) rfl) rfl
theorem w_498 : (.code ⟨"KateDesk$Limbs", "clear", "([J)V"⟩ prog_5_method_4_code 1 none : Cond) ∈ BW := bw_3 (List.mem_of_getElem? (i := 18) rfl) rfl
theorem w_499 : (.methodLink "KateDesk$Limbs" 25 ⟨"java/util/Arrays", "fill", "([JJ)V"⟩ : Cond) ∈ BW := bw_3 (List.mem_of_getElem? (i := 19) rfl) rfl
theorem w_500 : (.static ⟨"java/util/Arrays", "fill", "([JJ)V"⟩ : Cond) ∈ BW := bw_3 (List.mem_of_getElem? (i := 20) rfl) rfl
theorem w_501 : (.code ⟨"java/util/Arrays", "fill", "([JJ)V"⟩ prog_23_method_101_code 5 none : Cond) ∈ BW := bw_3 (List.mem_of_getElem? (i := 21) rfl) rfl
theorem w_502 : (.methodLink "KateDesk" 137 ⟨"KateDesk$Row", "at", "(I)I"⟩ : Cond) ∈ BW := bw_3 (List.mem_of_getElem? (i := 22) rfl) rfl
theorem w_503 : (.instanceMethod ⟨"KateDesk$Row", "at", "(I)I"⟩ : Cond) ∈ BW := bw_3 (List.mem_of_getElem? (i := 23) rfl) rfl
theorem w_504 : (.selects "KateDesk$Row" ⟨"KateDesk$Row", "at", "(I)I"⟩ ⟨"KateDesk$Row", "at", "(I)I"⟩ : Cond) ∈ BW := bw_3 (List.mem_of_getElem? (i := 24) rfl) rfl
theorem w_505 : (.code ⟨"KateDesk$Row", "at", "(I)I"⟩ prog_8_method_3_code 2 (Option.some FieldType.int) : Cond) ∈ BW := bw_3 (List.mem_of_getElem? (i := 25) rfl) rfl
theorem w_506 : (.methodLink "KateDesk" 141 ⟨"KateDesk$Limbs", "orByte", "([JII)V"⟩ : Cond) ∈ BW := bw_3 (List.mem_of_getElem? (i := 26) rfl) rfl
theorem w_507 : (.static ⟨"KateDesk$Limbs", "orByte", "([JII)V"⟩ : Cond) ∈ BW := bw_3 (List.mem_of_getElem? (i := 27) rfl) rfl
theorem w_508 : (.code ⟨"KateDesk$Limbs", "orByte", "([JII)V"⟩ prog_5_method_10_code 6 none : Cond) ∈ BW := bw_3 (List.mem_of_getElem? (i := 28) rfl) rfl
theorem w_509 : (.constantLong "KateDesk$Limbs" 23 (268435455 : Int64) : Cond) ∈ BW := bw_3 (List.mem_of_getElem? (i := 29) rfl) rfl
theorem w_510 : (.methodLink "KateDesk" 148 ⟨"KateDesk$Limbs", "less", "([J[J)Z"⟩ : Cond) ∈ BW := bw_3 (List.mem_of_getElem? (i := 30) rfl) rfl
theorem w_511 : (.static ⟨"KateDesk$Limbs", "less", "([J[J)Z"⟩ : Cond) ∈ BW := bw_3 (List.mem_of_getElem? (i := 31) rfl) rfl
theorem w_512 : (.code ⟨"KateDesk$Limbs", "less", "([J[J)Z"⟩ prog_5_method_8_code 3 (Option.some FieldType.boolean) : Cond) ∈ BW := bw_3 (List.mem_of_getElem? (i := 32) rfl) rfl
theorem w_513 : (.methodLink "KateDeskLaw" 114 ⟨"KateDeskLaw", "set", "(LKateDesk;IJ)I"⟩ : Cond) ∈ BW := bw_3 (List.mem_of_getElem? (i := 33) rfl) rfl
theorem w_514 : (.static ⟨"KateDeskLaw", "set", "(LKateDesk;IJ)I"⟩ : Cond) ∈ BW := bw_3 (List.mem_of_getElem? (i := 34) rfl) rfl
theorem w_515 : (.codeWith ⟨"KateDeskLaw", "set", "(LKateDesk;IJ)I"⟩ method_5_code 5 (Option.some FieldType.int) [(0, 6, 9, 13)] : Cond) ∈ BW := bw_3 (List.mem_of_getElem? (i := 35) rfl) rfl
theorem w_516 : (.methodLink "KateDeskLaw" 21 ⟨"KateDesk", "set", "(IJ)V"⟩ : Cond) ∈ BW := bw_3 (List.mem_of_getElem? (i := 36) rfl) rfl
theorem w_517 : (.instanceMethod ⟨"KateDesk", "set", "(IJ)V"⟩ : Cond) ∈ BW := bw_3 (List.mem_of_getElem? (i := 37) rfl) rfl
theorem w_518 : (.selects "KateDesk" ⟨"KateDesk", "set", "(IJ)V"⟩ ⟨"KateDesk", "set", "(IJ)V"⟩ : Cond) ∈ BW := bw_3 (List.mem_of_getElem? (i := 38) rfl) rfl
theorem w_519 : (.code ⟨"KateDesk", "set", "(IJ)V"⟩ prog_1_method_4_code 4 none : Cond) ∈ BW := bw_3 (List.mem_of_getElem? (i := 39) rfl) rfl
theorem w_521 : (.methodLink "KateDesk" 158 ⟨"KateDesk$Limbs", "fromLong", "([JJ)V"⟩ : Cond) ∈ BW := bw_3 (List.mem_of_getElem? (i := 41) rfl) rfl
theorem w_522 : (.static ⟨"KateDesk$Limbs", "fromLong", "([JJ)V"⟩ : Cond) ∈ BW := bw_3 (List.mem_of_getElem? (i := 42) rfl) rfl
theorem w_523 : (.code ⟨"KateDesk$Limbs", "fromLong", "([JJ)V"⟩ prog_5_method_3_code 3 none : Cond) ∈ BW := bw_3 (List.mem_of_getElem? (i := 43) rfl) rfl
theorem w_524 : (.methodLink "KateDesk$Limbs" 19 ⟨"KateDesk$Limbs", "clear", "([J)V"⟩ : Cond) ∈ BW := bw_3 (List.mem_of_getElem? (i := 44) rfl) rfl
theorem w_525 : (.methodLink "KateDeskLaw" 118 ⟨"KateDeskLaw", "word", "(LKateDesk;II[J)I"⟩ : Cond) ∈ BW := bw_3 (List.mem_of_getElem? (i := 45) rfl) rfl
theorem w_526 : (.static ⟨"KateDeskLaw", "word", "(LKateDesk;II[J)I"⟩ : Cond) ∈ BW := bw_3 (List.mem_of_getElem? (i := 46) rfl) rfl
theorem w_527 : (.codeWith ⟨"KateDeskLaw", "word", "(LKateDesk;II[J)I"⟩ method_6_code 5 (Option.some FieldType.int) [(0, 9, 12, 13)] : Cond) ∈ BW := bw_3 (List.mem_of_getElem? (i := 47) rfl) rfl
theorem w_528 : (.methodLink "KateDeskLaw" 25 ⟨"KateDesk", "word", "(II)J"⟩ : Cond) ∈ BW := bw_3 (List.mem_of_getElem? (i := 48) rfl) rfl
theorem w_529 : (.instanceMethod ⟨"KateDesk", "word", "(II)J"⟩ : Cond) ∈ BW := bw_3 (List.mem_of_getElem? (i := 49) rfl) rfl
theorem w_530 : (.selects "KateDesk" ⟨"KateDesk", "word", "(II)J"⟩ ⟨"KateDesk", "word", "(II)J"⟩ : Cond) ∈ BW := bw_3 (List.mem_of_getElem? (i := 50) rfl) rfl
theorem w_531 : (.code ⟨"KateDesk", "word", "(II)J"⟩ prog_1_method_5_code 7 (Option.some FieldType.long) : Cond) ∈ BW := bw_3 (List.mem_of_getElem? (i := 51) rfl) rfl
theorem w_533 : (.methodLink "KateDesk" 164 ⟨"KateDesk$Limbs", "bits", "([JII)J"⟩ : Cond) ∈ BW := bw_3 (List.mem_of_getElem? (i := 53) rfl) rfl
theorem w_534 : (.methodLink "KateDeskLaw" 122 ⟨"KateDeskLaw", "reckon", "(LKateDesk;IIII)I"⟩ : Cond) ∈ BW := bw_3 (List.mem_of_getElem? (i := 54) rfl) rfl
theorem w_535 : (.static ⟨"KateDeskLaw", "reckon", "(LKateDesk;IIII)I"⟩ : Cond) ∈ BW := bw_3 (List.mem_of_getElem? (i := 55) rfl) rfl
theorem w_536 : (.codeWith ⟨"KateDeskLaw", "reckon", "(LKateDesk;IIII)I"⟩ method_7_code 6 (Option.some FieldType.int) [(0, 9, 12, 13), (0, 9, 16, 33)] : Cond) ∈ BW := bw_3 (List.mem_of_getElem? (i := 56) rfl) rfl
theorem w_537 : (.classLink "KateDeskLaw" 33 "java/lang/ArithmeticException" : Cond) ∈ BW := bw_3 (List.mem_of_getElem? (i := 57) rfl) rfl
theorem w_538 : (.methodLink "KateDeskLaw" 29 ⟨"KateDesk", "reckon", "(IIII)V"⟩ : Cond) ∈ BW := bw_3 (List.mem_of_getElem? (i := 58) rfl) rfl
theorem w_539 : (.instanceMethod ⟨"KateDesk", "reckon", "(IIII)V"⟩ : Cond) ∈ BW := bw_3 (List.mem_of_getElem? (i := 59) rfl) rfl
theorem w_540 : (.selects "KateDesk" ⟨"KateDesk", "reckon", "(IIII)V"⟩ ⟨"KateDesk", "reckon", "(IIII)V"⟩ : Cond) ∈ BW := bw_3 (List.mem_of_getElem? (i := 60) rfl) rfl
theorem w_541 : (.code ⟨"KateDesk", "reckon", "(IIII)V"⟩ prog_1_method_6_code 5 none : Cond) ∈ BW := bw_3 (List.mem_of_getElem? (i := 61) rfl) rfl
theorem w_542 : (.methodLink "KateDesk" 168 ⟨"KateDesk", "needKind", "(I)V"⟩ : Cond) ∈ BW := bw_3 (List.mem_of_getElem? (i := 62) rfl) rfl
theorem w_543 : (.static ⟨"KateDesk", "needKind", "(I)V"⟩ : Cond) ∈ BW := bw_3 (List.mem_of_getElem? (i := 63) rfl) rfl
theorem w_544 : (.code ⟨"KateDesk", "needKind", "(I)V"⟩ prog_1_method_23_code 1 none : Cond) ∈ BW := bw_3 (List.mem_of_getElem? (i := 64) rfl) rfl
theorem w_546 : (.methodLink "KateDesk" 171 ⟨"KateDesk$Limbs", "isZero", "([J)Z"⟩ : Cond) ∈ BW := bw_3 (List.mem_of_getElem? (i := 66) rfl) rfl
theorem w_547 : (.static ⟨"KateDesk$Limbs", "isZero", "([J)Z"⟩ : Cond) ∈ BW := bw_3 (List.mem_of_getElem? (i := 67) rfl) rfl
theorem w_548 : (.code ⟨"KateDesk$Limbs", "isZero", "([J)Z"⟩ prog_5_method_6_code 2 (Option.some FieldType.boolean) : Cond) ∈ BW := bw_3 (List.mem_of_getElem? (i := 68) rfl) rfl
theorem w_549 : (.classLink "KateDesk" 175 "java/lang/ArithmeticException" : Cond) ∈ BW := bw_3 (List.mem_of_getElem? (i := 69) rfl) rfl
theorem w_550 : (.instantiable "java/lang/ArithmeticException" 6 : Cond) ∈ BW := bw_3 (List.mem_of_getElem? (i := 70) rfl) rfl
theorem w_552 : (.selects "java/lang/ArithmeticException" ⟨"java/lang/Throwable", "fillInStackTrace", "(I)Ljava/lang/Throwable;"⟩ ⟨"java/lang/Throwable", "fillInStackTrace", "(I)Ljava/lang/Throwable;"⟩ : Cond) ∈ BW := bw_3 (List.mem_of_getElem? (i := 72) rfl) rfl
theorem w_553 : (.lays "java/lang/ArithmeticException" "java/lang/Throwable" "cause" "Ljava/lang/Throwable;" : Cond) ∈ BW := bw_3 (List.mem_of_getElem? (i := 73) rfl) rfl
theorem w_554 : (.lays "java/lang/ArithmeticException" "java/lang/Throwable" "stackTrace" "[Ljava/lang/StackTraceElement;" : Cond) ∈ BW := bw_3 (List.mem_of_getElem? (i := 74) rfl) rfl
theorem w_555 : (.lays "java/lang/ArithmeticException" "java/lang/Throwable" "suppressedExceptions" "Ljava/util/List;" : Cond) ∈ BW := bw_3 (List.mem_of_getElem? (i := 75) rfl) rfl
theorem w_556 : (.lays "java/lang/ArithmeticException" "java/lang/Throwable" "detailMessage" "Ljava/lang/String;" : Cond) ∈ BW := bw_3 (List.mem_of_getElem? (i := 76) rfl) rfl
theorem w_557 : (.lays "java/lang/ArithmeticException" "java/lang/Throwable" "backtrace" "Ljava/lang/Object;" : Cond) ∈ BW := bw_3 (List.mem_of_getElem? (i := 77) rfl) rfl
theorem w_559 : (.methodLink "KateDesk" 179 ⟨"java/lang/ArithmeticException", "<init>", "(Ljava/lang/String;)V"⟩ : Cond) ∈ BW := bw_3 (List.mem_of_getElem? (i := 79) rfl) rfl
theorem w_560 : (.instanceMethod ⟨"java/lang/ArithmeticException", "<init>", "(Ljava/lang/String;)V"⟩ : Cond) ∈ BW := bw_3 (List.mem_of_getElem? (i := 80) rfl) rfl
theorem w_561 : (.code ⟨"java/lang/ArithmeticException", "<init>", "(Ljava/lang/String;)V"⟩ prog_12_method_2_code 2 none : Cond) ∈ BW := bw_3 (List.mem_of_getElem? (i := 81) rfl) rfl
theorem w_562 : (.methodLink "java/lang/ArithmeticException" 7 ⟨"java/lang/RuntimeException", "<init>", "(Ljava/lang/String;)V"⟩ : Cond) ∈ BW := bw_3 (List.mem_of_getElem? (i := 82) rfl) rfl
theorem w_563 : (.lays "java/lang/ArithmeticException" "java/lang/Throwable" "depth" "I" : Cond) ∈ BW := bw_3 (List.mem_of_getElem? (i := 83) rfl) rfl
theorem w_564 : (.superclass "java/lang/ArithmeticException" "java/lang/RuntimeException" : Cond) ∈ BW := bw_3 (List.mem_of_getElem? (i := 84) rfl) rfl
theorem w_565 : (.methodLink "KateDesk" 180 ⟨"KateDesk$Field", "add", "([J[J[J)V"⟩ : Cond) ∈ BW := bw_3 (List.mem_of_getElem? (i := 85) rfl) rfl
theorem w_566 : (.methodLink "KateDesk" 184 ⟨"KateDesk$Field", "subtract", "([J[J[J)V"⟩ : Cond) ∈ BW := bw_3 (List.mem_of_getElem? (i := 86) rfl) rfl
theorem w_567 : (.methodLink "KateDesk" 190 ⟨"KateDesk$Field", "invert", "([J[J)V"⟩ : Cond) ∈ BW := bw_3 (List.mem_of_getElem? (i := 87) rfl) rfl
theorem w_568 : (.instanceMethod ⟨"KateDesk$Field", "invert", "([J[J)V"⟩ : Cond) ∈ BW := bw_3 (List.mem_of_getElem? (i := 88) rfl) rfl
theorem w_569 : (.selects "KateDesk$Field" ⟨"KateDesk$Field", "invert", "([J[J)V"⟩ ⟨"KateDesk$Field", "invert", "([J[J)V"⟩ : Cond) ∈ BW := bw_3 (List.mem_of_getElem? (i := 89) rfl) rfl
theorem w_570 : (.code ⟨"KateDesk$Field", "invert", "([J[J)V"⟩ prog_3_method_12_code 3 none : Cond) ∈ BW := bw_3 (List.mem_of_getElem? (i := 90) rfl) rfl
theorem w_571 : (.methodLink "KateDesk$Field" 75 ⟨"KateDesk$Field", "raise", "([J[J[J)V"⟩ : Cond) ∈ BW := bw_3 (List.mem_of_getElem? (i := 91) rfl) rfl
theorem w_572 : (.instanceMethod ⟨"KateDesk$Field", "raise", "([J[J[J)V"⟩ : Cond) ∈ BW := bw_3 (List.mem_of_getElem? (i := 92) rfl) rfl
theorem w_573 : (.selects "KateDesk$Field" ⟨"KateDesk$Field", "raise", "([J[J[J)V"⟩ ⟨"KateDesk$Field", "raise", "([J[J[J)V"⟩ : Cond) ∈ BW := bw_3 (List.mem_of_getElem? (i := 93) rfl) rfl
theorem w_574 : (.code ⟨"KateDesk$Field", "raise", "([J[J[J)V"⟩ prog_3_method_11_code 6 none : Cond) ∈ BW := bw_3 (List.mem_of_getElem? (i := 94) rfl) rfl
theorem w_575 : (.methodLink "KateDesk$Field" 71 ⟨"KateDesk$Limbs", "bits", "([JII)J"⟩ : Cond) ∈ BW := bw_3 (List.mem_of_getElem? (i := 95) rfl) rfl
theorem w_576 : (.methodLink "KateDesk" 193 ⟨"KateDesk$Field", "multiply", "([J[J[J)V"⟩ : Cond) ∈ BW := bw_3 (List.mem_of_getElem? (i := 96) rfl) rfl
theorem w_577 : (.methodLink "KateDeskLaw" 126 ⟨"KateDeskLaw", "power", "(LKateDesk;IIJ)I"⟩ : Cond) ∈ BW := bw_3 (List.mem_of_getElem? (i := 97) rfl) rfl
theorem w_578 : (.static ⟨"KateDeskLaw", "power", "(LKateDesk;IIJ)I"⟩ : Cond) ∈ BW := bw_3 (List.mem_of_getElem? (i := 98) rfl) rfl
theorem w_579 : (.codeWith ⟨"KateDeskLaw", "power", "(LKateDesk;IIJ)I"⟩ method_8_code 6 (Option.some FieldType.int) [(0, 7, 10, 13)] : Cond) ∈ BW := bw_3 (List.mem_of_getElem? (i := 99) rfl) rfl
theorem w_580 : (.methodLink "KateDeskLaw" 35 ⟨"KateDesk", "power", "(IIJ)V"⟩ : Cond) ∈ BW := bw_3 (List.mem_of_getElem? (i := 100) rfl) rfl
theorem w_581 : (.instanceMethod ⟨"KateDesk", "power", "(IIJ)V"⟩ : Cond) ∈ BW := bw_3 (List.mem_of_getElem? (i := 101) rfl) rfl
theorem w_582 : (.selects "KateDesk" ⟨"KateDesk", "power", "(IIJ)V"⟩ ⟨"KateDesk", "power", "(IIJ)V"⟩ : Cond) ∈ BW := bw_3 (List.mem_of_getElem? (i := 102) rfl) rfl
theorem w_583 : (.code ⟨"KateDesk", "power", "(IIJ)V"⟩ prog_1_method_7_code 5 none : Cond) ∈ BW := bw_3 (List.mem_of_getElem? (i := 103) rfl) rfl
theorem w_585 : (.methodLink "KateDesk" 198 ⟨"KateDesk$Field", "raise", "([J[J[J)V"⟩ : Cond) ∈ BW := bw_3 (List.mem_of_getElem? (i := 105) rfl) rfl
theorem w_586 : (.methodLink "KateDesk" 201 ⟨"KateDesk$Field", "lower", "([J[J)V"⟩ : Cond) ∈ BW := bw_3 (List.mem_of_getElem? (i := 106) rfl) rfl
theorem w_587 : (.instanceMethod ⟨"KateDesk$Field", "lower", "([J[J)V"⟩ : Cond) ∈ BW := bw_3 (List.mem_of_getElem? (i := 107) rfl) rfl
theorem w_588 : (.selects "KateDesk$Field" ⟨"KateDesk$Field", "lower", "([J[J)V"⟩ ⟨"KateDesk$Field", "lower", "([J[J)V"⟩ : Cond) ∈ BW := bw_3 (List.mem_of_getElem? (i := 108) rfl) rfl
theorem w_589 : (.code ⟨"KateDesk$Field", "lower", "([J[J)V"⟩ prog_3_method_10_code 3 none : Cond) ∈ BW := bw_3 (List.mem_of_getElem? (i := 109) rfl) rfl
theorem w_590 : (.methodLink "KateDeskLaw" 130 ⟨"KateDeskLaw", "unity", "(LKateDesk;II)I"⟩ : Cond) ∈ BW := bw_3 (List.mem_of_getElem? (i := 110) rfl) rfl
theorem w_591 : (.static ⟨"KateDeskLaw", "unity", "(LKateDesk;II)I"⟩ : Cond) ∈ BW := bw_3 (List.mem_of_getElem? (i := 111) rfl) rfl
theorem w_592 : (.codeWith ⟨"KateDeskLaw", "unity", "(LKateDesk;II)I"⟩ method_9_code 4 (Option.some FieldType.int) [(0, 6, 9, 13)] : Cond) ∈ BW := bw_3 (List.mem_of_getElem? (i := 112) rfl) rfl
theorem w_593 : (.methodLink "KateDeskLaw" 39 ⟨"KateDesk", "unity", "(II)V"⟩ : Cond) ∈ BW := bw_3 (List.mem_of_getElem? (i := 113) rfl) rfl
theorem w_594 : (.instanceMethod ⟨"KateDesk", "unity", "(II)V"⟩ : Cond) ∈ BW := bw_3 (List.mem_of_getElem? (i := 114) rfl) rfl
theorem w_595 : (.selects "KateDesk" ⟨"KateDesk", "unity", "(II)V"⟩ ⟨"KateDesk", "unity", "(II)V"⟩ : Cond) ∈ BW := bw_3 (List.mem_of_getElem? (i := 115) rfl) rfl
theorem w_596 : (.code ⟨"KateDesk", "unity", "(II)V"⟩ prog_1_method_8_code 3 none : Cond) ∈ BW := bw_3 (List.mem_of_getElem? (i := 116) rfl) rfl
theorem w_598 : (.methodLink "KateDesk" 206 ⟨"KateDesk$Polynomials", "liftedRoot", "([JI)V"⟩ : Cond) ∈ BW := bw_3 (List.mem_of_getElem? (i := 118) rfl) rfl
theorem w_599 : (.instanceMethod ⟨"KateDesk$Polynomials", "liftedRoot", "([JI)V"⟩ : Cond) ∈ BW := bw_3 (List.mem_of_getElem? (i := 119) rfl) rfl
theorem w_600 : (.selects "KateDesk$Polynomials" ⟨"KateDesk$Polynomials", "liftedRoot", "([JI)V"⟩ ⟨"KateDesk$Polynomials", "liftedRoot", "([JI)V"⟩ : Cond) ∈ BW := bw_3 (List.mem_of_getElem? (i := 120) rfl) rfl
theorem w_601 : (.code ⟨"KateDesk$Polynomials", "liftedRoot", "([JI)V"⟩ prog_7_method_2_code 3 none : Cond) ∈ BW := bw_3 (List.mem_of_getElem? (i := 121) rfl) rfl
theorem w_602 : (.methodLink "KateDesk$Polynomials" 50 ⟨"KateDesk$Polynomials", "rootExponent", "(I)V"⟩ : Cond) ∈ BW := bw_3 (List.mem_of_getElem? (i := 122) rfl) rfl
theorem w_604 : (.instanceMethod ⟨"KateDesk$Polynomials", "rootExponent", "(I)V"⟩ : Cond) ∈ BW := bw_3 (List.mem_of_getElem? (i := 124) rfl) rfl
theorem w_605 : (.code ⟨"KateDesk$Polynomials", "rootExponent", "(I)V"⟩ prog_7_method_3_code 2 none : Cond) ∈ BW := bw_3 (List.mem_of_getElem? (i := 125) rfl) rfl
theorem w_606 : (.methodLink "KateDesk$Polynomials" 58 ⟨"KateDesk$Field", "negate", "([J[J)V"⟩ : Cond) ∈ BW := bw_3 (List.mem_of_getElem? (i := 126) rfl) rfl
theorem w_607 : (.instanceMethod ⟨"KateDesk$Field", "negate", "([J[J)V"⟩ : Cond) ∈ BW := bw_3 (List.mem_of_getElem? (i := 127) rfl) rfl
theorem w_608 : (.selects "KateDesk$Field" ⟨"KateDesk$Field", "negate", "([J[J)V"⟩ ⟨"KateDesk$Field", "negate", "([J[J)V"⟩ : Cond) ∈ BW := bw_3 (List.mem_of_getElem? (i := 128) rfl) rfl
theorem w_609 : (.code ⟨"KateDesk$Field", "negate", "([J[J)V"⟩ prog_3_method_6_code 3 none : Cond) ∈ BW := bw_3 (List.mem_of_getElem? (i := 129) rfl) rfl
theorem w_610 : (.methodLink "KateDesk$Field" 68 ⟨"KateDesk$Limbs", "clear", "([J)V"⟩ : Cond) ∈ BW := bw_3 (List.mem_of_getElem? (i := 130) rfl) rfl
theorem w_611 : (.methodLink "KateDesk$Polynomials" 61 ⟨"KateDesk$Limbs", "shiftRight", "([J[JI)V"⟩ : Cond) ∈ BW := bw_3 (List.mem_of_getElem? (i := 131) rfl) rfl
theorem w_612 : (.methodLink "KateDesk$Polynomials" 54 ⟨"KateDesk$Field", "raise", "([J[J[J)V"⟩ : Cond) ∈ BW := bw_3 (List.mem_of_getElem? (i := 132) rfl) rfl
theorem w_613 : (.methodLink "KateDeskLaw" 134 ⟨"KateDeskLaw", "point", "(LKateDesk;I[J)I"⟩ : Cond) ∈ BW := bw_3 (List.mem_of_getElem? (i := 133) rfl) rfl
theorem w_614 : (.static ⟨"KateDeskLaw", "point", "(LKateDesk;I[J)I"⟩ : Cond) ∈ BW := bw_3 (List.mem_of_getElem? (i := 134) rfl) rfl
theorem w_615 : (.codeWith ⟨"KateDeskLaw", "point", "(LKateDesk;I[J)I"⟩ method_10_code 4 (Option.some FieldType.int) [(0, 9, 12, 13)] : Cond) ∈ BW := bw_3 (List.mem_of_getElem? (i := 135) rfl) rfl
theorem w_616 : (.methodLink "KateDeskLaw" 43 ⟨"KateDesk", "point", "(I)I"⟩ : Cond) ∈ BW := bw_3 (List.mem_of_getElem? (i := 136) rfl) rfl
theorem w_617 : (.instanceMethod ⟨"KateDesk", "point", "(I)I"⟩ : Cond) ∈ BW := bw_3 (List.mem_of_getElem? (i := 137) rfl) rfl
theorem w_618 : (.selects "KateDesk" ⟨"KateDesk", "point", "(I)I"⟩ ⟨"KateDesk", "point", "(I)I"⟩ : Cond) ∈ BW := bw_3 (List.mem_of_getElem? (i := 138) rfl) rfl
theorem w_619 : (.code ⟨"KateDesk", "point", "(I)I"⟩ prog_1_method_9_code 3 (Option.some FieldType.int) : Cond) ∈ BW := bw_3 (List.mem_of_getElem? (i := 139) rfl) rfl
theorem w_620 : (.methodLink "KateDesk" 210 ⟨"KateDesk", "needPoints", "(II)V"⟩ : Cond) ∈ BW := bw_3 (List.mem_of_getElem? (i := 140) rfl) rfl
theorem w_621 : (.static ⟨"KateDesk", "needPoints", "(II)V"⟩ : Cond) ∈ BW := bw_3 (List.mem_of_getElem? (i := 141) rfl) rfl
theorem w_622 : (.code ⟨"KateDesk", "needPoints", "(II)V"⟩ prog_1_method_26_code 2 none : Cond) ∈ BW := bw_3 (List.mem_of_getElem? (i := 142) rfl) rfl
theorem w_624 : (.methodLink "KateDesk" 213 ⟨"KateDesk$Forms", "read", "(LKateDesk$Point;LKateDesk$Row;)I"⟩ : Cond) ∈ BW := bw_3 (List.mem_of_getElem? (i := 144) rfl) rfl
theorem w_625 : (.instanceMethod ⟨"KateDesk$Forms", "read", "(LKateDesk$Point;LKateDesk$Row;)I"⟩ : Cond) ∈ BW := bw_3 (List.mem_of_getElem? (i := 145) rfl) rfl
theorem w_626 : (.selects "KateDesk$Forms" ⟨"KateDesk$Forms", "read", "(LKateDesk$Point;LKateDesk$Row;)I"⟩ ⟨"KateDesk$Forms", "read", "(LKateDesk$Point;LKateDesk$Row;)I"⟩ : Cond) ∈ BW := bw_3 (List.mem_of_getElem? (i := 146) rfl) rfl
theorem w_627 : (.code ⟨"KateDesk$Forms", "read", "(LKateDesk$Point;LKateDesk$Row;)I"⟩ prog_4_method_2_code 5 (Option.some FieldType.int) : Cond) ∈ BW := bw_3 (List.mem_of_getElem? (i := 147) rfl) rfl
theorem w_628 : (.methodLink "KateDesk$Forms" 47 ⟨"KateDesk$Row", "at", "(I)I"⟩ : Cond) ∈ BW := bw_3 (List.mem_of_getElem? (i := 148) rfl) rfl
theorem w_629 : (.methodLink "KateDesk$Forms" 51 ⟨"KateDesk$Forms", "canBe", "(IZ)Z"⟩ : Cond) ∈ BW := bw_3 (List.mem_of_getElem? (i := 149) rfl) rfl
theorem w_630 : (.static ⟨"KateDesk$Forms", "canBe", "(IZ)Z"⟩ : Cond) ∈ BW := bw_3 (List.mem_of_getElem? (i := 150) rfl) rfl
theorem w_631 : (.code ⟨"KateDesk$Forms", "canBe", "(IZ)Z"⟩ prog_4_method_3_code 2 (Option.some FieldType.boolean) : Cond) ∈ BW := bw_3 (List.mem_of_getElem? (i := 151) rfl) rfl
theorem w_632 : (.methodLink "KateDesk$Forms" 55 ⟨"KateDesk$Point", "becomeNothing", "()V"⟩ : Cond) ∈ BW := bw_3 (List.mem_of_getElem? (i := 152) rfl) rfl
theorem w_633 : (.instanceMethod ⟨"KateDesk$Point", "becomeNothing", "()V"⟩ : Cond) ∈ BW := bw_3 (List.mem_of_getElem? (i := 153) rfl) rfl
theorem w_634 : (.selects "KateDesk$Point" ⟨"KateDesk$Point", "becomeNothing", "()V"⟩ ⟨"KateDesk$Point", "becomeNothing", "()V"⟩ : Cond) ∈ BW := bw_3 (List.mem_of_getElem? (i := 154) rfl) rfl
theorem w_635 : (.code ⟨"KateDesk$Point", "becomeNothing", "()V"⟩ prog_6_method_2_code 1 none : Cond) ∈ BW := bw_3 (List.mem_of_getElem? (i := 155) rfl) rfl
theorem w_636 : (.methodLink "KateDesk$Point" 21 ⟨"KateDesk$Limbs", "clear", "([J)V"⟩ : Cond) ∈ BW := bw_3 (List.mem_of_getElem? (i := 156) rfl) rfl
theorem w_637 : (.methodLink "KateDesk$Forms" 60 ⟨"KateDesk$Forms", "isBare", "(LKateDesk$Row;)Z"⟩ : Cond) ∈ BW := bw_3 (List.mem_of_getElem? (i := 157) rfl) rfl
theorem w_638 : (.static ⟨"KateDesk$Forms", "isBare", "(LKateDesk$Row;)Z"⟩ : Cond) ∈ BW := bw_3 (List.mem_of_getElem? (i := 158) rfl) rfl
theorem w_639 : (.code ⟨"KateDesk$Forms", "isBare", "(LKateDesk$Row;)Z"⟩ prog_4_method_4_code 3 (Option.some FieldType.boolean) : Cond) ∈ BW := bw_3 (List.mem_of_getElem? (i := 159) rfl) rfl
theorem w_640 : (.methodLink "KateDesk$Forms" 67 ⟨"KateDesk$Forms", "readCoordinate", "([JLKateDesk$Row;I)Z"⟩ : Cond) ∈ BW := bw_3 (List.mem_of_getElem? (i := 160) rfl) rfl
theorem w_642 : (.instanceMethod ⟨"KateDesk$Forms", "readCoordinate", "([JLKateDesk$Row;I)Z"⟩ : Cond) ∈ BW := bw_3 (List.mem_of_getElem? (i := 162) rfl) rfl
theorem w_643 : (.code ⟨"KateDesk$Forms", "readCoordinate", "([JLKateDesk$Row;I)Z"⟩ prog_4_method_5_code 6 (Option.some FieldType.boolean) : Cond) ∈ BW := bw_3 (List.mem_of_getElem? (i := 163) rfl) rfl
theorem w_644 : (.methodLink "KateDesk$Forms" 101 ⟨"KateDesk$Limbs", "clear", "([J)V"⟩ : Cond) ∈ BW := bw_3 (List.mem_of_getElem? (i := 164) rfl) rfl
theorem w_645 : (.methodLink "KateDesk$Forms" 105 ⟨"KateDesk$Limbs", "orByte", "([JII)V"⟩ : Cond) ∈ BW := bw_3 (List.mem_of_getElem? (i := 165) rfl) rfl
theorem w_646 : (.methodLink "KateDesk$Forms" 109 ⟨"KateDesk$Field", "lift", "([J[J)V"⟩ : Cond) ∈ BW := bw_3 (List.mem_of_getElem? (i := 166) rfl) rfl
theorem w_647 : (.methodLink "KateDesk$Forms" 112 ⟨"KateDesk$Limbs", "less", "([J[J)Z"⟩ : Cond) ∈ BW := bw_3 (List.mem_of_getElem? (i := 167) rfl) rfl
theorem w_648 : (.methodLink "KateDesk$Forms" 74 ⟨"KateDesk$Curve", "squareOfY", "([J[J)V"⟩ : Cond) ∈ BW := bw_3 (List.mem_of_getElem? (i := 168) rfl) rfl
theorem w_649 : (.instanceMethod ⟨"KateDesk$Curve", "squareOfY", "([J[J)V"⟩ : Cond) ∈ BW := bw_3 (List.mem_of_getElem? (i := 169) rfl) rfl
theorem w_650 : (.selects "KateDesk$Curve" ⟨"KateDesk$Curve", "squareOfY", "([J[J)V"⟩ ⟨"KateDesk$Curve", "squareOfY", "([J[J)V"⟩ : Cond) ∈ BW := bw_3 (List.mem_of_getElem? (i := 170) rfl) rfl
theorem w_651 : (.code ⟨"KateDesk$Curve", "squareOfY", "([J[J)V"⟩ prog_2_method_8_code 3 none : Cond) ∈ BW := bw_3 (List.mem_of_getElem? (i := 171) rfl) rfl
theorem w_652 : (.methodLink "KateDesk$Curve" 57 ⟨"KateDesk$Field", "multiply", "([J[J[J)V"⟩ : Cond) ∈ BW := bw_3 (List.mem_of_getElem? (i := 172) rfl) rfl
theorem w_653 : (.methodLink "KateDesk$Curve" 68 ⟨"KateDesk$Field", "add", "([J[J[J)V"⟩ : Cond) ∈ BW := bw_3 (List.mem_of_getElem? (i := 173) rfl) rfl
theorem w_654 : (.methodLink "KateDesk$Forms" 80 ⟨"KateDesk$Forms", "findY", "([JZ)V"⟩ : Cond) ∈ BW := bw_3 (List.mem_of_getElem? (i := 174) rfl) rfl
theorem w_656 : (.instanceMethod ⟨"KateDesk$Forms", "findY", "([JZ)V"⟩ : Cond) ∈ BW := bw_3 (List.mem_of_getElem? (i := 176) rfl) rfl
theorem w_657 : (.code ⟨"KateDesk$Forms", "findY", "([JZ)V"⟩ prog_4_method_6_code 3 none : Cond) ∈ BW := bw_3 (List.mem_of_getElem? (i := 177) rfl) rfl
theorem w_658 : (.methodLink "KateDesk$Forms" 115 ⟨"KateDesk$Field", "raise", "([J[J[J)V"⟩ : Cond) ∈ BW := bw_3 (List.mem_of_getElem? (i := 178) rfl) rfl
theorem w_659 : (.methodLink "KateDesk$Forms" 118 ⟨"KateDesk$Field", "lower", "([J[J)V"⟩ : Cond) ∈ BW := bw_3 (List.mem_of_getElem? (i := 179) rfl) rfl
theorem w_660 : (.methodLink "KateDesk$Forms" 121 ⟨"KateDesk$Forms", "isGreater", "([J)Z"⟩ : Cond) ∈ BW := bw_3 (List.mem_of_getElem? (i := 180) rfl) rfl
theorem w_662 : (.instanceMethod ⟨"KateDesk$Forms", "isGreater", "([J)Z"⟩ : Cond) ∈ BW := bw_3 (List.mem_of_getElem? (i := 182) rfl) rfl
theorem w_663 : (.code ⟨"KateDesk$Forms", "isGreater", "([J)Z"⟩ prog_4_method_7_code 2 (Option.some FieldType.boolean) : Cond) ∈ BW := bw_3 (List.mem_of_getElem? (i := 183) rfl) rfl
theorem w_664 : (.methodLink "KateDesk$Forms" 125 ⟨"KateDesk$Field", "negate", "([J[J)V"⟩ : Cond) ∈ BW := bw_3 (List.mem_of_getElem? (i := 184) rfl) rfl
theorem w_665 : (.methodLink "KateDesk$Forms" 90 ⟨"KateDesk$Limbs", "copy", "([J[J)V"⟩ : Cond) ∈ BW := bw_3 (List.mem_of_getElem? (i := 185) rfl) rfl
theorem w_666 : (.methodLink "KateDesk$Forms" 93 ⟨"KateDesk$Field", "multiply", "([J[J[J)V"⟩ : Cond) ∈ BW := bw_3 (List.mem_of_getElem? (i := 186) rfl) rfl
theorem w_667 : (.methodLink "KateDesk$Forms" 97 ⟨"KateDesk$Limbs", "equal", "([J[J)Z"⟩ : Cond) ∈ BW := bw_3 (List.mem_of_getElem? (i := 187) rfl) rfl
theorem w_668 : (.static ⟨"KateDesk$Limbs", "equal", "([J[J)Z"⟩ : Cond) ∈ BW := bw_3 (List.mem_of_getElem? (i := 188) rfl) rfl
theorem w_669 : (.code ⟨"KateDesk$Limbs", "equal", "([J[J)Z"⟩ prog_5_method_7_code 3 (Option.some FieldType.boolean) : Cond) ∈ BW := bw_3 (List.mem_of_getElem? (i := 189) rfl) rfl
theorem w_670 : (.methodLink "KateDesk" 217 ⟨"KateDesk", "isGood", "(LKateDesk$Point;)Z"⟩ : Cond) ∈ BW := bw_3 (List.mem_of_getElem? (i := 190) rfl) rfl
theorem w_672 : (.instanceMethod ⟨"KateDesk", "isGood", "(LKateDesk$Point;)Z"⟩ : Cond) ∈ BW := bw_3 (List.mem_of_getElem? (i := 192) rfl) rfl
theorem w_673 : (.code ⟨"KateDesk", "isGood", "(LKateDesk$Point;)Z"⟩ prog_1_method_29_code 2 (Option.some FieldType.boolean) : Cond) ∈ BW := bw_3 (List.mem_of_getElem? (i := 193) rfl) rfl
theorem w_674 : (.methodLink "KateDesk" 239 ⟨"KateDesk$Sums", "place", "(I[JLKateDesk$Point;)V"⟩ : Cond) ∈ BW := bw_3 (List.mem_of_getElem? (i := 194) rfl) rfl
theorem w_675 : (.instanceMethod ⟨"KateDesk$Sums", "place", "(I[JLKateDesk$Point;)V"⟩ : Cond) ∈ BW := bw_3 (List.mem_of_getElem? (i := 195) rfl) rfl
theorem w_676 : (.selects "KateDesk$Sums" ⟨"KateDesk$Sums", "place", "(I[JLKateDesk$Point;)V"⟩ ⟨"KateDesk$Sums", "place", "(I[JLKateDesk$Point;)V"⟩ : Cond) ∈ BW := bw_3 (List.mem_of_getElem? (i := 196) rfl) rfl
theorem w_677 : (.code ⟨"KateDesk$Sums", "place", "(I[JLKateDesk$Point;)V"⟩ prog_9_method_2_code 4 none : Cond) ∈ BW := bw_3 (List.mem_of_getElem? (i := 197) rfl) rfl
theorem w_678 : (.methodLink "KateDesk$Sums" 35 ⟨"KateDesk$Sums", "recode", "(I[JII)V"⟩ : Cond) ∈ BW := bw_3 (List.mem_of_getElem? (i := 198) rfl) rfl
theorem w_679 : (.instanceMethod ⟨"KateDesk$Sums", "recode", "(I[JII)V"⟩ : Cond) ∈ BW := bw_3 (List.mem_of_getElem? (i := 199) rfl) rfl
theorem w_680 : (.selects "KateDesk$Sums" ⟨"KateDesk$Sums", "recode", "(I[JII)V"⟩ ⟨"KateDesk$Sums", "recode", "(I[JII)V"⟩ : Cond) ∈ BW := bw_3 (List.mem_of_getElem? (i := 200) rfl) rfl
theorem w_681 : (.code ⟨"KateDesk$Sums", "recode", "(I[JII)V"⟩ prog_9_method_4_code 10 none : Cond) ∈ BW := bw_3 (List.mem_of_getElem? (i := 201) rfl) rfl
theorem w_682 : (.methodLink "KateDesk$Sums" 63 ⟨"java/util/Arrays", "fill", "([BB)V"⟩ : Cond) ∈ BW := bw_3 (List.mem_of_getElem? (i := 202) rfl) rfl
theorem w_683 : (.static ⟨"java/util/Arrays", "fill", "([BB)V"⟩ : Cond) ∈ BW := bw_3 (List.mem_of_getElem? (i := 203) rfl) rfl
theorem w_684 : (.code ⟨"java/util/Arrays", "fill", "([BB)V"⟩ prog_23_method_109_code 4 none : Cond) ∈ BW := bw_3 (List.mem_of_getElem? (i := 204) rfl) rfl
theorem w_685 : (.methodLink "KateDesk$Sums" 69 ⟨"java/lang/Math", "min", "(II)I"⟩ : Cond) ∈ BW := bw_3 (List.mem_of_getElem? (i := 205) rfl) rfl
theorem w_686 : (.static ⟨"java/lang/Math", "min", "(II)I"⟩ : Cond) ∈ BW := bw_3 (List.mem_of_getElem? (i := 206) rfl) rfl
theorem w_687 : (.code ⟨"java/lang/Math", "min", "(II)I"⟩ prog_16_method_69_code 2 (Option.some FieldType.int) : Cond) ∈ BW := bw_3 (List.mem_of_getElem? (i := 207) rfl) rfl
theorem w_688 : (.methodLink "KateDesk$Sums" 75 ⟨"KateDesk$Limbs", "bits", "([JII)J"⟩ : Cond) ∈ BW := bw_3 (List.mem_of_getElem? (i := 208) rfl) rfl
theorem w_689 : (.methodLink "KateDesk$Sums" 39 ⟨"KateDesk$Limbs", "isZero", "([J)Z"⟩ : Cond) ∈ BW := bw_3 (List.mem_of_getElem? (i := 209) rfl) rfl
theorem w_690 : (.methodLink "KateDesk$Sums" 45 ⟨"KateDesk$Sums", "tabulate", "(ILKateDesk$Point;)V"⟩ : Cond) ∈ BW := bw_3 (List.mem_of_getElem? (i := 210) rfl) rfl
theorem w_691 : (.instanceMethod ⟨"KateDesk$Sums", "tabulate", "(ILKateDesk$Point;)V"⟩ : Cond) ∈ BW := bw_3 (List.mem_of_getElem? (i := 211) rfl) rfl
theorem w_692 : (.selects "KateDesk$Sums" ⟨"KateDesk$Sums", "tabulate", "(ILKateDesk$Point;)V"⟩ ⟨"KateDesk$Sums", "tabulate", "(ILKateDesk$Point;)V"⟩ : Cond) ∈ BW := bw_3 (List.mem_of_getElem? (i := 212) rfl) rfl
theorem w_693 : (.code ⟨"KateDesk$Sums", "tabulate", "(ILKateDesk$Point;)V"⟩ prog_9_method_3_code 5 none : Cond) ∈ BW := bw_3 (List.mem_of_getElem? (i := 213) rfl) rfl
theorem w_694 : (.methodLink "KateDesk$Sums" 49 ⟨"KateDesk$Point", "copy", "(LKateDesk$Point;)V"⟩ : Cond) ∈ BW := bw_3 (List.mem_of_getElem? (i := 214) rfl) rfl
theorem w_695 : (.instanceMethod ⟨"KateDesk$Point", "copy", "(LKateDesk$Point;)V"⟩ : Cond) ∈ BW := bw_3 (List.mem_of_getElem? (i := 215) rfl) rfl
theorem w_696 : (.selects "KateDesk$Point" ⟨"KateDesk$Point", "copy", "(LKateDesk$Point;)V"⟩ ⟨"KateDesk$Point", "copy", "(LKateDesk$Point;)V"⟩ : Cond) ∈ BW := bw_3 (List.mem_of_getElem? (i := 216) rfl) rfl
theorem w_697 : (.code ⟨"KateDesk$Point", "copy", "(LKateDesk$Point;)V"⟩ prog_6_method_3_code 2 none : Cond) ∈ BW := bw_3 (List.mem_of_getElem? (i := 217) rfl) rfl
theorem w_698 : (.methodLink "KateDesk$Point" 25 ⟨"KateDesk$Limbs", "copy", "([J[J)V"⟩ : Cond) ∈ BW := bw_3 (List.mem_of_getElem? (i := 218) rfl) rfl
theorem w_699 : (.methodLink "KateDesk$Sums" 53 ⟨"KateDesk$Curve", "twice", "(LKateDesk$Point;LKateDesk$Point;)V"⟩ : Cond) ∈ BW := bw_3 (List.mem_of_getElem? (i := 219) rfl) rfl
theorem w_700 : (.instanceMethod ⟨"KateDesk$Curve", "twice", "(LKateDesk$Point;LKateDesk$Point;)V"⟩ : Cond) ∈ BW := bw_3 (List.mem_of_getElem? (i := 220) rfl) rfl
theorem w_701 : (.selects "KateDesk$Curve" ⟨"KateDesk$Curve", "twice", "(LKateDesk$Point;LKateDesk$Point;)V"⟩ ⟨"KateDesk$Curve", "twice", "(LKateDesk$Point;LKateDesk$Point;)V"⟩ : Cond) ∈ BW := bw_3 (List.mem_of_getElem? (i := 221) rfl) rfl
theorem w_702 : (.code ⟨"KateDesk$Curve", "twice", "(LKateDesk$Point;LKateDesk$Point;)V"⟩ prog_2_method_5_code 3 none : Cond) ∈ BW := bw_3 (List.mem_of_getElem? (i := 222) rfl) rfl
theorem w_703 : (.methodLink "KateDesk$Curve" 71 ⟨"KateDesk$Curve", "twelvefold", "([J[J)V"⟩ : Cond) ∈ BW := bw_3 (List.mem_of_getElem? (i := 223) rfl) rfl
theorem w_705 : (.instanceMethod ⟨"KateDesk$Curve", "twelvefold", "([J[J)V"⟩ : Cond) ∈ BW := bw_3 (List.mem_of_getElem? (i := 225) rfl) rfl
theorem w_706 : (.code ⟨"KateDesk$Curve", "twelvefold", "([J[J)V"⟩ prog_2_method_4_code 3 none : Cond) ∈ BW := bw_3 (List.mem_of_getElem? (i := 226) rfl) rfl
theorem w_707 : (.methodLink "KateDesk$Curve" 74 ⟨"KateDesk$Field", "subtract", "([J[J[J)V"⟩ : Cond) ∈ BW := bw_3 (List.mem_of_getElem? (i := 227) rfl) rfl
theorem w_708 : (.methodLink "KateDesk$Sums" 59 ⟨"KateDesk$Curve", "add", "(LKateDesk$Point;LKateDesk$Point;LKateDesk$Point;Z)V"⟩ : Cond) ∈ BW := bw_3 (List.mem_of_getElem? (i := 228) rfl) rfl
theorem w_709 : (.instanceMethod ⟨"KateDesk$Curve", "add", "(LKateDesk$Point;LKateDesk$Point;LKateDesk$Point;Z)V"⟩ : Cond) ∈ BW := bw_3 (List.mem_of_getElem? (i := 229) rfl) rfl
theorem w_710 : (.selects "KateDesk$Curve" ⟨"KateDesk$Curve", "add", "(LKateDesk$Point;LKateDesk$Point;LKateDesk$Point;Z)V"⟩ ⟨"KateDesk$Curve", "add", "(LKateDesk$Point;LKateDesk$Point;LKateDesk$Point;Z)V"⟩ : Cond) ∈ BW := bw_3 (List.mem_of_getElem? (i := 230) rfl) rfl
theorem w_711 : (.code ⟨"KateDesk$Curve", "add", "(LKateDesk$Point;LKateDesk$Point;LKateDesk$Point;Z)V"⟩ prog_2_method_2_code 6 none : Cond) ∈ BW := bw_3 (List.mem_of_getElem? (i := 231) rfl) rfl
theorem w_712 : (.methodLink "KateDesk$Curve" 48 ⟨"KateDesk$Field", "negate", "([J[J)V"⟩ : Cond) ∈ BW := bw_3 (List.mem_of_getElem? (i := 232) rfl) rfl
theorem w_713 : (.methodLink "KateDesk$Curve" 64 ⟨"KateDesk$Curve", "mixed", "([J[J[J[J[J[J[J)V"⟩ : Cond) ∈ BW := bw_3 (List.mem_of_getElem? (i := 233) rfl) rfl
theorem w_715 : (.instanceMethod ⟨"KateDesk$Curve", "mixed", "([J[J[J[J[J[J[J)V"⟩ : Cond) ∈ BW := bw_3 (List.mem_of_getElem? (i := 235) rfl) rfl
theorem w_716 : (.code ⟨"KateDesk$Curve", "mixed", "([J[J[J[J[J[J[J)V"⟩ prog_2_method_3_code 8 none : Cond) ∈ BW := bw_3 (List.mem_of_getElem? (i := 236) rfl) rfl
theorem w_717 : (.methodLink "KateDesk" 243 ⟨"KateDesk$Sums", "total", "(LKateDesk$Point;I)V"⟩ : Cond) ∈ BW := bw_3 (List.mem_of_getElem? (i := 237) rfl) rfl
theorem w_718 : (.instanceMethod ⟨"KateDesk$Sums", "total", "(LKateDesk$Point;I)V"⟩ : Cond) ∈ BW := bw_3 (List.mem_of_getElem? (i := 238) rfl) rfl
theorem w_719 : (.selects "KateDesk$Sums" ⟨"KateDesk$Sums", "total", "(LKateDesk$Point;I)V"⟩ ⟨"KateDesk$Sums", "total", "(LKateDesk$Point;I)V"⟩ : Cond) ∈ BW := bw_3 (List.mem_of_getElem? (i := 239) rfl) rfl
theorem w_720 : (.code ⟨"KateDesk$Sums", "total", "(LKateDesk$Point;I)V"⟩ prog_9_method_5_code 7 none : Cond) ∈ BW := bw_4 (List.mem_of_getElem? (i := 0) rfl) rfl
theorem w_721 : (.methodLink "KateDesk$Sums" 79 ⟨"KateDesk$Point", "becomeNothing", "()V"⟩ : Cond) ∈ BW := bw_4 (List.mem_of_getElem? (i := 1) rfl) rfl
theorem w_722 : (.methodLink "KateDesk$Sums" 82 ⟨"java/lang/Math", "abs", "(I)I"⟩ : Cond) ∈ BW := bw_4 (List.mem_of_getElem? (i := 2) rfl) rfl
theorem w_723 : (.static ⟨"java/lang/Math", "abs", "(I)I"⟩ : Cond) ∈ BW := bw_4 (List.mem_of_getElem? (i := 3) rfl) rfl
theorem w_724 : (.code ⟨"java/lang/Math", "abs", "(I)I"⟩ prog_16_method_59_code 1 (Option.some FieldType.int) : Cond) ∈ BW := bw_4 (List.mem_of_getElem? (i := 4) rfl) rfl
theorem w_725 : (.methodLink "KateDesk" 309 ⟨"KateDesk$Point", "isNothing", "()Z"⟩ : Cond) ∈ BW := bw_4 (List.mem_of_getElem? (i := 5) rfl) rfl
theorem w_726 : (.instanceMethod ⟨"KateDesk$Point", "isNothing", "()Z"⟩ : Cond) ∈ BW := bw_4 (List.mem_of_getElem? (i := 6) rfl) rfl
theorem w_727 : (.selects "KateDesk$Point" ⟨"KateDesk$Point", "isNothing", "()Z"⟩ ⟨"KateDesk$Point", "isNothing", "()Z"⟩ : Cond) ∈ BW := bw_4 (List.mem_of_getElem? (i := 7) rfl) rfl
theorem w_728 : (.code ⟨"KateDesk$Point", "isNothing", "()Z"⟩ prog_6_method_4_code 1 (Option.some FieldType.boolean) : Cond) ∈ BW := bw_4 (List.mem_of_getElem? (i := 8) rfl) rfl
theorem w_729 : (.methodLink "KateDesk$Point" 29 ⟨"KateDesk$Limbs", "isZero", "([J)Z"⟩ : Cond) ∈ BW := bw_4 (List.mem_of_getElem? (i := 9) rfl) rfl
theorem w_730 : (.methodLink "KateDesk" 221 ⟨"KateDesk$Point", "copy", "(LKateDesk$Point;)V"⟩ : Cond) ∈ BW := bw_4 (List.mem_of_getElem? (i := 10) rfl) rfl
theorem w_731 : (.methodLink "KateDeskLaw" 137 ⟨"KateDeskLaw", "bytes", "(LKateDesk;IZ)I"⟩ : Cond) ∈ BW := bw_4 (List.mem_of_getElem? (i := 11) rfl) rfl
theorem w_732 : (.static ⟨"KateDeskLaw", "bytes", "(LKateDesk;IZ)I"⟩ : Cond) ∈ BW := bw_4 (List.mem_of_getElem? (i := 12) rfl) rfl
theorem w_733 : (.codeWith ⟨"KateDeskLaw", "bytes", "(LKateDesk;IZ)I"⟩ method_11_code 4 (Option.some FieldType.int) [(0, 6, 9, 13)] : Cond) ∈ BW := bw_4 (List.mem_of_getElem? (i := 13) rfl) rfl
theorem w_734 : (.methodLink "KateDeskLaw" 47 ⟨"KateDesk", "bytes", "(IZ)V"⟩ : Cond) ∈ BW := bw_4 (List.mem_of_getElem? (i := 14) rfl) rfl
theorem w_735 : (.instanceMethod ⟨"KateDesk", "bytes", "(IZ)V"⟩ : Cond) ∈ BW := bw_4 (List.mem_of_getElem? (i := 15) rfl) rfl
theorem w_736 : (.selects "KateDesk" ⟨"KateDesk", "bytes", "(IZ)V"⟩ ⟨"KateDesk", "bytes", "(IZ)V"⟩ : Cond) ∈ BW := bw_4 (List.mem_of_getElem? (i := 16) rfl) rfl
theorem w_737 : (.code ⟨"KateDesk", "bytes", "(IZ)V"⟩ prog_1_method_10_code 3 none : Cond) ∈ BW := bw_4 (List.mem_of_getElem? (i := 17) rfl) rfl
theorem w_738 : (.methodLink "KateDesk" 224 ⟨"KateDesk$Forms", "write", "(LKateDesk$Row;LKateDesk$Point;Z)V"⟩ : Cond) ∈ BW := bw_4 (List.mem_of_getElem? (i := 18) rfl) rfl
theorem w_739 : (.instanceMethod ⟨"KateDesk$Forms", "write", "(LKateDesk$Row;LKateDesk$Point;Z)V"⟩ : Cond) ∈ BW := bw_4 (List.mem_of_getElem? (i := 19) rfl) rfl
theorem w_740 : (.selects "KateDesk$Forms" ⟨"KateDesk$Forms", "write", "(LKateDesk$Row;LKateDesk$Point;Z)V"⟩ ⟨"KateDesk$Forms", "write", "(LKateDesk$Row;LKateDesk$Point;Z)V"⟩ : Cond) ∈ BW := bw_4 (List.mem_of_getElem? (i := 20) rfl) rfl
theorem w_741 : (.code ⟨"KateDesk$Forms", "write", "(LKateDesk$Row;LKateDesk$Point;Z)V"⟩ prog_4_method_8_code 6 none : Cond) ∈ BW := bw_4 (List.mem_of_getElem? (i := 21) rfl) rfl
theorem w_742 : (.methodLink "KateDesk$Forms" 128 ⟨"KateDesk$Point", "isNothing", "()Z"⟩ : Cond) ∈ BW := bw_4 (List.mem_of_getElem? (i := 22) rfl) rfl
theorem w_743 : (.methodLink "KateDesk$Forms" 132 ⟨"KateDesk$Row", "append", "(I)V"⟩ : Cond) ∈ BW := bw_4 (List.mem_of_getElem? (i := 23) rfl) rfl
theorem w_744 : (.methodLink "KateDesk$Forms" 136 ⟨"KateDesk$Field", "invert", "([J[J)V"⟩ : Cond) ∈ BW := bw_4 (List.mem_of_getElem? (i := 24) rfl) rfl
theorem w_745 : (.methodLink "KateDesk$Forms" 139 ⟨"KateDesk$Forms", "writeCoordinate", "(LKateDesk$Row;[JI)V"⟩ : Cond) ∈ BW := bw_4 (List.mem_of_getElem? (i := 25) rfl) rfl
theorem w_746 : (.static ⟨"KateDesk$Forms", "writeCoordinate", "(LKateDesk$Row;[JI)V"⟩ : Cond) ∈ BW := bw_4 (List.mem_of_getElem? (i := 26) rfl) rfl
theorem w_747 : (.code ⟨"KateDesk$Forms", "writeCoordinate", "(LKateDesk$Row;[JI)V"⟩ prog_4_method_9_code 4 none : Cond) ∈ BW := bw_4 (List.mem_of_getElem? (i := 27) rfl) rfl
theorem w_748 : (.methodLink "KateDesk$Forms" 143 ⟨"KateDesk$Limbs", "bits", "([JII)J"⟩ : Cond) ∈ BW := bw_4 (List.mem_of_getElem? (i := 28) rfl) rfl
theorem w_749 : (.methodLink "KateDeskLaw" 141 ⟨"KateDeskLaw", "out", "(LKateDesk;I[J)I"⟩ : Cond) ∈ BW := bw_4 (List.mem_of_getElem? (i := 29) rfl) rfl
theorem w_750 : (.static ⟨"KateDeskLaw", "out", "(LKateDesk;I[J)I"⟩ : Cond) ∈ BW := bw_4 (List.mem_of_getElem? (i := 30) rfl) rfl
theorem w_751 : (.codeWith ⟨"KateDeskLaw", "out", "(LKateDesk;I[J)I"⟩ method_12_code 4 (Option.some FieldType.int) [(0, 8, 11, 55)] : Cond) ∈ BW := bw_4 (List.mem_of_getElem? (i := 31) rfl) rfl
theorem w_752 : (.classLink "KateDeskLaw" 55 "java/util/NoSuchElementException" : Cond) ∈ BW := bw_4 (List.mem_of_getElem? (i := 32) rfl) rfl
theorem w_753 : (.methodLink "KateDeskLaw" 51 ⟨"KateDesk", "out", "(I)J"⟩ : Cond) ∈ BW := bw_4 (List.mem_of_getElem? (i := 33) rfl) rfl
theorem w_754 : (.instanceMethod ⟨"KateDesk", "out", "(I)J"⟩ : Cond) ∈ BW := bw_4 (List.mem_of_getElem? (i := 34) rfl) rfl
theorem w_755 : (.selects "KateDesk" ⟨"KateDesk", "out", "(I)J"⟩ ⟨"KateDesk", "out", "(I)J"⟩ : Cond) ∈ BW := bw_4 (List.mem_of_getElem? (i := 35) rfl) rfl
theorem w_756 : (.code ⟨"KateDesk", "out", "(I)J"⟩ prog_1_method_11_code 5 (Option.some FieldType.long) : Cond) ∈ BW := bw_4 (List.mem_of_getElem? (i := 36) rfl) rfl
theorem w_757 : (.classLink "KateDesk" 228 "java/util/NoSuchElementException" : Cond) ∈ BW := bw_4 (List.mem_of_getElem? (i := 37) rfl) rfl
theorem w_758 : (.instantiable "java/util/NoSuchElementException" 6 : Cond) ∈ BW := bw_4 (List.mem_of_getElem? (i := 38) rfl) rfl
theorem w_760 : (.selects "java/util/NoSuchElementException" ⟨"java/lang/Throwable", "fillInStackTrace", "(I)Ljava/lang/Throwable;"⟩ ⟨"java/lang/Throwable", "fillInStackTrace", "(I)Ljava/lang/Throwable;"⟩ : Cond) ∈ BW := bw_4 (List.mem_of_getElem? (i := 40) rfl) rfl
theorem w_761 : (.lays "java/util/NoSuchElementException" "java/lang/Throwable" "cause" "Ljava/lang/Throwable;" : Cond) ∈ BW := bw_4 (List.mem_of_getElem? (i := 41) rfl) rfl
theorem w_762 : (.lays "java/util/NoSuchElementException" "java/lang/Throwable" "stackTrace" "[Ljava/lang/StackTraceElement;" : Cond) ∈ BW := bw_4 (List.mem_of_getElem? (i := 42) rfl) rfl
theorem w_763 : (.lays "java/util/NoSuchElementException" "java/lang/Throwable" "suppressedExceptions" "Ljava/util/List;" : Cond) ∈ BW := bw_4 (List.mem_of_getElem? (i := 43) rfl) rfl
theorem w_764 : (.lays "java/util/NoSuchElementException" "java/lang/Throwable" "detailMessage" "Ljava/lang/String;" : Cond) ∈ BW := bw_4 (List.mem_of_getElem? (i := 44) rfl) rfl
theorem w_765 : (.lays "java/util/NoSuchElementException" "java/lang/Throwable" "backtrace" "Ljava/lang/Object;" : Cond) ∈ BW := bw_4 (List.mem_of_getElem? (i := 45) rfl) rfl
theorem w_767 : (.methodLink "KateDesk" 232 ⟨"java/util/NoSuchElementException", "<init>", "(Ljava/lang/String;)V"⟩ : Cond) ∈ BW := bw_4 (List.mem_of_getElem? (i := 47) rfl) rfl
theorem w_768 : (.instanceMethod ⟨"java/util/NoSuchElementException", "<init>", "(Ljava/lang/String;)V"⟩ : Cond) ∈ BW := bw_4 (List.mem_of_getElem? (i := 48) rfl) rfl
theorem w_769 : (.code ⟨"java/util/NoSuchElementException", "<init>", "(Ljava/lang/String;)V"⟩ prog_24_method_4_code 2 none : Cond) ∈ BW := bw_4 (List.mem_of_getElem? (i := 49) rfl) rfl
theorem w_770 : (.methodLink "java/util/NoSuchElementException" 13 ⟨"java/lang/RuntimeException", "<init>", "(Ljava/lang/String;)V"⟩ : Cond) ∈ BW := bw_4 (List.mem_of_getElem? (i := 50) rfl) rfl
theorem w_771 : (.lays "java/util/NoSuchElementException" "java/lang/Throwable" "depth" "I" : Cond) ∈ BW := bw_4 (List.mem_of_getElem? (i := 51) rfl) rfl
theorem w_772 : (.superclass "java/util/NoSuchElementException" "java/lang/RuntimeException" : Cond) ∈ BW := bw_4 (List.mem_of_getElem? (i := 52) rfl) rfl
theorem w_773 : (.methodLink "KateDeskLaw" 144 ⟨"KateDeskLaw", "join", "(LKateDesk;IIII)I"⟩ : Cond) ∈ BW := bw_4 (List.mem_of_getElem? (i := 53) rfl) rfl
theorem w_774 : (.static ⟨"KateDeskLaw", "join", "(LKateDesk;IIII)I"⟩ : Cond) ∈ BW := bw_4 (List.mem_of_getElem? (i := 54) rfl) rfl
theorem w_775 : (.codeWith ⟨"KateDeskLaw", "join", "(LKateDesk;IIII)I"⟩ method_13_code 6 (Option.some FieldType.int) [(0, 9, 12, 13)] : Cond) ∈ BW := bw_4 (List.mem_of_getElem? (i := 55) rfl) rfl
theorem w_776 : (.methodLink "KateDeskLaw" 57 ⟨"KateDesk", "join", "(IIII)V"⟩ : Cond) ∈ BW := bw_4 (List.mem_of_getElem? (i := 56) rfl) rfl
theorem w_777 : (.instanceMethod ⟨"KateDesk", "join", "(IIII)V"⟩ : Cond) ∈ BW := bw_4 (List.mem_of_getElem? (i := 57) rfl) rfl
theorem w_778 : (.selects "KateDesk" ⟨"KateDesk", "join", "(IIII)V"⟩ ⟨"KateDesk", "join", "(IIII)V"⟩ : Cond) ∈ BW := bw_4 (List.mem_of_getElem? (i := 58) rfl) rfl
theorem w_779 : (.code ⟨"KateDesk", "join", "(IIII)V"⟩ prog_1_method_12_code 5 none : Cond) ∈ BW := bw_4 (List.mem_of_getElem? (i := 59) rfl) rfl
theorem w_780 : (.methodLink "KateDesk" 233 ⟨"KateDesk$Point", "becomeNothing", "()V"⟩ : Cond) ∈ BW := bw_4 (List.mem_of_getElem? (i := 60) rfl) rfl
theorem w_781 : (.methodLink "KateDesk" 236 ⟨"KateDesk$Curve", "add", "(LKateDesk$Point;LKateDesk$Point;LKateDesk$Point;Z)V"⟩ : Cond) ∈ BW := bw_4 (List.mem_of_getElem? (i := 61) rfl) rfl
theorem w_782 : (.methodLink "KateDeskLaw" 147 ⟨"KateDeskLaw", "times", "(LKateDesk;III)I"⟩ : Cond) ∈ BW := bw_4 (List.mem_of_getElem? (i := 62) rfl) rfl
theorem w_783 : (.static ⟨"KateDeskLaw", "times", "(LKateDesk;III)I"⟩ : Cond) ∈ BW := bw_4 (List.mem_of_getElem? (i := 63) rfl) rfl
theorem w_784 : (.codeWith ⟨"KateDeskLaw", "times", "(LKateDesk;III)I"⟩ method_14_code 5 (Option.some FieldType.int) [(0, 7, 10, 13)] : Cond) ∈ BW := bw_4 (List.mem_of_getElem? (i := 64) rfl) rfl
theorem w_785 : (.methodLink "KateDeskLaw" 60 ⟨"KateDesk", "times", "(III)V"⟩ : Cond) ∈ BW := bw_4 (List.mem_of_getElem? (i := 65) rfl) rfl
theorem w_786 : (.instanceMethod ⟨"KateDesk", "times", "(III)V"⟩ : Cond) ∈ BW := bw_4 (List.mem_of_getElem? (i := 66) rfl) rfl
theorem w_787 : (.selects "KateDesk" ⟨"KateDesk", "times", "(III)V"⟩ ⟨"KateDesk", "times", "(III)V"⟩ : Cond) ∈ BW := bw_4 (List.mem_of_getElem? (i := 67) rfl) rfl
theorem w_788 : (.code ⟨"KateDesk", "times", "(III)V"⟩ prog_1_method_13_code 4 none : Cond) ∈ BW := bw_4 (List.mem_of_getElem? (i := 68) rfl) rfl
theorem w_789 : (.methodLink "KateDeskLaw" 151 ⟨"KateDeskLaw", "combine", "(LKateDesk;IIII)I"⟩ : Cond) ∈ BW := bw_4 (List.mem_of_getElem? (i := 69) rfl) rfl
theorem w_790 : (.static ⟨"KateDeskLaw", "combine", "(LKateDesk;IIII)I"⟩ : Cond) ∈ BW := bw_4 (List.mem_of_getElem? (i := 70) rfl) rfl
theorem w_791 : (.codeWith ⟨"KateDeskLaw", "combine", "(LKateDesk;IIII)I"⟩ method_15_code 6 (Option.some FieldType.int) [(0, 9, 12, 13)] : Cond) ∈ BW := bw_4 (List.mem_of_getElem? (i := 71) rfl) rfl
theorem w_792 : (.methodLink "KateDeskLaw" 64 ⟨"KateDesk", "combine", "(IIII)V"⟩ : Cond) ∈ BW := bw_4 (List.mem_of_getElem? (i := 72) rfl) rfl
theorem w_793 : (.instanceMethod ⟨"KateDesk", "combine", "(IIII)V"⟩ : Cond) ∈ BW := bw_4 (List.mem_of_getElem? (i := 73) rfl) rfl
theorem w_794 : (.selects "KateDesk" ⟨"KateDesk", "combine", "(IIII)V"⟩ ⟨"KateDesk", "combine", "(IIII)V"⟩ : Cond) ∈ BW := bw_4 (List.mem_of_getElem? (i := 74) rfl) rfl
theorem w_795 : (.code ⟨"KateDesk", "combine", "(IIII)V"⟩ prog_1_method_14_code 6 none : Cond) ∈ BW := bw_4 (List.mem_of_getElem? (i := 75) rfl) rfl
theorem w_796 : (.methodLink "KateDesk" 247 ⟨"KateDesk", "needCount", "(III)V"⟩ : Cond) ∈ BW := bw_4 (List.mem_of_getElem? (i := 76) rfl) rfl
theorem w_797 : (.static ⟨"KateDesk", "needCount", "(III)V"⟩ : Cond) ∈ BW := bw_4 (List.mem_of_getElem? (i := 77) rfl) rfl
theorem w_798 : (.code ⟨"KateDesk", "needCount", "(III)V"⟩ prog_1_method_24_code 3 none : Cond) ∈ BW := bw_4 (List.mem_of_getElem? (i := 78) rfl) rfl
theorem w_800 : (.methodLink "KateDeskLaw" 154 ⟨"KateDeskLaw", "same", "(LKateDesk;II[J)I"⟩ : Cond) ∈ BW := bw_4 (List.mem_of_getElem? (i := 80) rfl) rfl
theorem w_801 : (.static ⟨"KateDeskLaw", "same", "(LKateDesk;II[J)I"⟩ : Cond) ∈ BW := bw_4 (List.mem_of_getElem? (i := 81) rfl) rfl
theorem w_802 : (.codeWith ⟨"KateDeskLaw", "same", "(LKateDesk;II[J)I"⟩ method_16_code 5 (Option.some FieldType.int) [(0, 17, 20, 13)] : Cond) ∈ BW := bw_4 (List.mem_of_getElem? (i := 82) rfl) rfl
theorem w_803 : (.methodLink "KateDeskLaw" 67 ⟨"KateDesk", "same", "(II)Z"⟩ : Cond) ∈ BW := bw_4 (List.mem_of_getElem? (i := 83) rfl) rfl
theorem w_804 : (.instanceMethod ⟨"KateDesk", "same", "(II)Z"⟩ : Cond) ∈ BW := bw_4 (List.mem_of_getElem? (i := 84) rfl) rfl
theorem w_805 : (.selects "KateDesk" ⟨"KateDesk", "same", "(II)Z"⟩ ⟨"KateDesk", "same", "(II)Z"⟩ : Cond) ∈ BW := bw_4 (List.mem_of_getElem? (i := 85) rfl) rfl
theorem w_806 : (.code ⟨"KateDesk", "same", "(II)Z"⟩ prog_1_method_15_code 3 (Option.some FieldType.boolean) : Cond) ∈ BW := bw_4 (List.mem_of_getElem? (i := 86) rfl) rfl
theorem w_807 : (.methodLink "KateDesk" 251 ⟨"KateDesk$Curve", "equal", "(LKateDesk$Point;LKateDesk$Point;)Z"⟩ : Cond) ∈ BW := bw_4 (List.mem_of_getElem? (i := 87) rfl) rfl
theorem w_808 : (.instanceMethod ⟨"KateDesk$Curve", "equal", "(LKateDesk$Point;LKateDesk$Point;)Z"⟩ : Cond) ∈ BW := bw_4 (List.mem_of_getElem? (i := 88) rfl) rfl
theorem w_809 : (.selects "KateDesk$Curve" ⟨"KateDesk$Curve", "equal", "(LKateDesk$Point;LKateDesk$Point;)Z"⟩ ⟨"KateDesk$Curve", "equal", "(LKateDesk$Point;LKateDesk$Point;)Z"⟩ : Cond) ∈ BW := bw_4 (List.mem_of_getElem? (i := 89) rfl) rfl
theorem w_810 : (.code ⟨"KateDesk$Curve", "equal", "(LKateDesk$Point;LKateDesk$Point;)Z"⟩ prog_2_method_6_code 3 (Option.some FieldType.boolean) : Cond) ∈ BW := bw_4 (List.mem_of_getElem? (i := 90) rfl) rfl
theorem w_811 : (.methodLink "KateDesk$Curve" 77 ⟨"KateDesk$Curve", "equalRatios", "([J[J[J[J)Z"⟩ : Cond) ∈ BW := bw_4 (List.mem_of_getElem? (i := 91) rfl) rfl
theorem w_813 : (.instanceMethod ⟨"KateDesk$Curve", "equalRatios", "([J[J[J[J)Z"⟩ : Cond) ∈ BW := bw_4 (List.mem_of_getElem? (i := 93) rfl) rfl
theorem w_814 : (.code ⟨"KateDesk$Curve", "equalRatios", "([J[J[J[J)Z"⟩ prog_2_method_7_code 5 (Option.some FieldType.boolean) : Cond) ∈ BW := bw_4 (List.mem_of_getElem? (i := 94) rfl) rfl
theorem w_815 : (.methodLink "KateDesk$Curve" 81 ⟨"KateDesk$Limbs", "equal", "([J[J)Z"⟩ : Cond) ∈ BW := bw_4 (List.mem_of_getElem? (i := 95) rfl) rfl
theorem w_816 : (.methodLink "KateDeskLaw" 157 ⟨"KateDeskLaw", "setup", "(LKateDesk;II)I"⟩ : Cond) ∈ BW := bw_4 (List.mem_of_getElem? (i := 96) rfl) rfl
theorem w_817 : (.static ⟨"KateDeskLaw", "setup", "(LKateDesk;II)I"⟩ : Cond) ∈ BW := bw_4 (List.mem_of_getElem? (i := 97) rfl) rfl
theorem w_818 : (.codeWith ⟨"KateDeskLaw", "setup", "(LKateDesk;II)I"⟩ method_17_code 4 (Option.some FieldType.int) [(0, 6, 9, 13)] : Cond) ∈ BW := bw_4 (List.mem_of_getElem? (i := 98) rfl) rfl
theorem w_819 : (.methodLink "KateDeskLaw" 71 ⟨"KateDesk", "setup", "(II)V"⟩ : Cond) ∈ BW := bw_4 (List.mem_of_getElem? (i := 99) rfl) rfl
theorem w_820 : (.instanceMethod ⟨"KateDesk", "setup", "(II)V"⟩ : Cond) ∈ BW := bw_4 (List.mem_of_getElem? (i := 100) rfl) rfl
theorem w_821 : (.selects "KateDesk" ⟨"KateDesk", "setup", "(II)V"⟩ ⟨"KateDesk", "setup", "(II)V"⟩ : Cond) ∈ BW := bw_4 (List.mem_of_getElem? (i := 101) rfl) rfl
theorem w_822 : (.code ⟨"KateDesk", "setup", "(II)V"⟩ prog_1_method_16_code 4 none : Cond) ∈ BW := bw_4 (List.mem_of_getElem? (i := 102) rfl) rfl
theorem w_823 : (.methodLink "KateDesk" 255 ⟨"KateDesk", "spreadGenerator", "()V"⟩ : Cond) ∈ BW := bw_4 (List.mem_of_getElem? (i := 103) rfl) rfl
theorem w_825 : (.instanceMethod ⟨"KateDesk", "spreadGenerator", "()V"⟩ : Cond) ∈ BW := bw_4 (List.mem_of_getElem? (i := 105) rfl) rfl
theorem w_826 : (.code ⟨"KateDesk", "spreadGenerator", "()V"⟩ prog_1_method_30_code 3 none : Cond) ∈ BW := bw_4 (List.mem_of_getElem? (i := 106) rfl) rfl
theorem w_827 : (.methodLink "KateDesk" 313 ⟨"KateDesk$Sums", "tabulate", "(ILKateDesk$Point;)V"⟩ : Cond) ∈ BW := bw_4 (List.mem_of_getElem? (i := 107) rfl) rfl
theorem w_828 : (.methodLink "KateDesk" 317 ⟨"KateDesk$Curve", "twice", "(LKateDesk$Point;LKateDesk$Point;)V"⟩ : Cond) ∈ BW := bw_4 (List.mem_of_getElem? (i := 108) rfl) rfl
theorem w_829 : (.methodLink "KateDesk" 258 ⟨"KateDesk", "timesGenerator", "(LKateDesk$Point;[J)V"⟩ : Cond) ∈ BW := bw_4 (List.mem_of_getElem? (i := 109) rfl) rfl
theorem w_831 : (.instanceMethod ⟨"KateDesk", "timesGenerator", "(LKateDesk$Point;[J)V"⟩ : Cond) ∈ BW := bw_4 (List.mem_of_getElem? (i := 111) rfl) rfl
theorem w_832 : (.code ⟨"KateDesk", "timesGenerator", "(LKateDesk$Point;[J)V"⟩ prog_1_method_31_code 4 none : Cond) ∈ BW := bw_4 (List.mem_of_getElem? (i := 112) rfl) rfl
theorem w_833 : (.methodLink "KateDesk" 321 ⟨"KateDesk$Sums", "recode", "(I[JII)V"⟩ : Cond) ∈ BW := bw_4 (List.mem_of_getElem? (i := 113) rfl) rfl
theorem w_834 : (.methodLink "KateDeskLaw" 160 ⟨"KateDeskLaw", "commit", "(LKateDesk;III)I"⟩ : Cond) ∈ BW := bw_4 (List.mem_of_getElem? (i := 114) rfl) rfl
theorem w_835 : (.static ⟨"KateDeskLaw", "commit", "(LKateDesk;III)I"⟩ : Cond) ∈ BW := bw_4 (List.mem_of_getElem? (i := 115) rfl) rfl
theorem w_836 : (.codeWith ⟨"KateDeskLaw", "commit", "(LKateDesk;III)I"⟩ method_18_code 5 (Option.some FieldType.int) [(0, 7, 10, 13), (0, 7, 14, 15)] : Cond) ∈ BW := bw_4 (List.mem_of_getElem? (i := 116) rfl) rfl
theorem w_837 : (.methodLink "KateDeskLaw" 74 ⟨"KateDesk", "commit", "(III)V"⟩ : Cond) ∈ BW := bw_4 (List.mem_of_getElem? (i := 117) rfl) rfl
theorem w_838 : (.instanceMethod ⟨"KateDesk", "commit", "(III)V"⟩ : Cond) ∈ BW := bw_4 (List.mem_of_getElem? (i := 118) rfl) rfl
theorem w_839 : (.selects "KateDesk" ⟨"KateDesk", "commit", "(III)V"⟩ ⟨"KateDesk", "commit", "(III)V"⟩ : Cond) ∈ BW := bw_4 (List.mem_of_getElem? (i := 119) rfl) rfl
theorem w_840 : (.code ⟨"KateDesk", "commit", "(III)V"⟩ prog_1_method_17_code 5 none : Cond) ∈ BW := bw_4 (List.mem_of_getElem? (i := 120) rfl) rfl
theorem w_842 : (.methodLink "KateDeskLaw" 163 ⟨"KateDeskLaw", "open", "(LKateDesk;IIII)I"⟩ : Cond) ∈ BW := bw_4 (List.mem_of_getElem? (i := 122) rfl) rfl
theorem w_843 : (.static ⟨"KateDeskLaw", "open", "(LKateDesk;IIII)I"⟩ : Cond) ∈ BW := bw_4 (List.mem_of_getElem? (i := 123) rfl) rfl
theorem w_844 : (.codeWith ⟨"KateDeskLaw", "open", "(LKateDesk;IIII)I"⟩ method_19_code 6 (Option.some FieldType.int) [(0, 9, 12, 13)] : Cond) ∈ BW := bw_4 (List.mem_of_getElem? (i := 124) rfl) rfl
theorem w_845 : (.methodLink "KateDeskLaw" 77 ⟨"KateDesk", "open", "(IIII)V"⟩ : Cond) ∈ BW := bw_4 (List.mem_of_getElem? (i := 125) rfl) rfl
theorem w_846 : (.instanceMethod ⟨"KateDesk", "open", "(IIII)V"⟩ : Cond) ∈ BW := bw_4 (List.mem_of_getElem? (i := 126) rfl) rfl
theorem w_847 : (.selects "KateDesk" ⟨"KateDesk", "open", "(IIII)V"⟩ ⟨"KateDesk", "open", "(IIII)V"⟩ : Cond) ∈ BW := bw_4 (List.mem_of_getElem? (i := 127) rfl) rfl
theorem w_848 : (.code ⟨"KateDesk", "open", "(IIII)V"⟩ prog_1_method_18_code 5 none : Cond) ∈ BW := bw_4 (List.mem_of_getElem? (i := 128) rfl) rfl
theorem w_849 : (.methodLink "KateDesk" 264 ⟨"KateDesk$Polynomials", "divide", "([J[[JII[J)V"⟩ : Cond) ∈ BW := bw_4 (List.mem_of_getElem? (i := 129) rfl) rfl
theorem w_850 : (.instanceMethod ⟨"KateDesk$Polynomials", "divide", "([J[[JII[J)V"⟩ : Cond) ∈ BW := bw_4 (List.mem_of_getElem? (i := 130) rfl) rfl
theorem w_851 : (.selects "KateDesk$Polynomials" ⟨"KateDesk$Polynomials", "divide", "([J[[JII[J)V"⟩ ⟨"KateDesk$Polynomials", "divide", "([J[[JII[J)V"⟩ : Cond) ∈ BW := bw_4 (List.mem_of_getElem? (i := 131) rfl) rfl
theorem w_852 : (.code ⟨"KateDesk$Polynomials", "divide", "([J[[JII[J)V"⟩ prog_7_method_5_code 7 none : Cond) ∈ BW := bw_4 (List.mem_of_getElem? (i := 132) rfl) rfl
theorem w_853 : (.methodLink "KateDesk$Polynomials" 65 ⟨"KateDesk$Limbs", "clear", "([J)V"⟩ : Cond) ∈ BW := bw_4 (List.mem_of_getElem? (i := 133) rfl) rfl
theorem w_854 : (.methodLink "KateDesk$Polynomials" 69 ⟨"KateDesk$Field", "multiply", "([J[J[J)V"⟩ : Cond) ∈ BW := bw_4 (List.mem_of_getElem? (i := 134) rfl) rfl
theorem w_855 : (.methodLink "KateDesk$Polynomials" 72 ⟨"KateDesk$Field", "add", "([J[J[J)V"⟩ : Cond) ∈ BW := bw_4 (List.mem_of_getElem? (i := 135) rfl) rfl
theorem w_856 : (.methodLink "KateDesk$Polynomials" 75 ⟨"KateDesk$Limbs", "copy", "([J[J)V"⟩ : Cond) ∈ BW := bw_4 (List.mem_of_getElem? (i := 136) rfl) rfl
theorem w_857 : (.methodLink "KateDeskLaw" 166 ⟨"KateDeskLaw", "checks", "(LKateDesk;IIIII[J)I"⟩ : Cond) ∈ BW := bw_4 (List.mem_of_getElem? (i := 137) rfl) rfl
theorem w_858 : (.static ⟨"KateDeskLaw", "checks", "(LKateDesk;IIIII[J)I"⟩ : Cond) ∈ BW := bw_4 (List.mem_of_getElem? (i := 138) rfl) rfl
theorem w_859 : (.codeWith ⟨"KateDeskLaw", "checks", "(LKateDesk;IIIII[J)I"⟩ method_20_code 8 (Option.some FieldType.int) [(0, 23, 26, 13)] : Cond) ∈ BW := bw_4 (List.mem_of_getElem? (i := 139) rfl) rfl
theorem w_860 : (.methodLink "KateDeskLaw" 80 ⟨"KateDesk", "checks", "(IIIII)Z"⟩ : Cond) ∈ BW := bw_4 (List.mem_of_getElem? (i := 140) rfl) rfl
theorem w_861 : (.instanceMethod ⟨"KateDesk", "checks", "(IIIII)Z"⟩ : Cond) ∈ BW := bw_4 (List.mem_of_getElem? (i := 141) rfl) rfl
theorem w_862 : (.selects "KateDesk" ⟨"KateDesk", "checks", "(IIIII)Z"⟩ ⟨"KateDesk", "checks", "(IIIII)Z"⟩ : Cond) ∈ BW := bw_4 (List.mem_of_getElem? (i := 142) rfl) rfl
theorem w_863 : (.code ⟨"KateDesk", "checks", "(IIIII)Z"⟩ prog_1_method_19_code 6 (Option.some FieldType.boolean) : Cond) ∈ BW := bw_4 (List.mem_of_getElem? (i := 143) rfl) rfl
theorem w_864 : (.methodLink "KateDeskLaw" 170 ⟨"KateDeskLaw", "transform", "(LKateDesk;IIZ)I"⟩ : Cond) ∈ BW := bw_4 (List.mem_of_getElem? (i := 144) rfl) rfl
theorem w_865 : (.static ⟨"KateDeskLaw", "transform", "(LKateDesk;IIZ)I"⟩ : Cond) ∈ BW := bw_4 (List.mem_of_getElem? (i := 145) rfl) rfl
theorem w_866 : (.codeWith ⟨"KateDeskLaw", "transform", "(LKateDesk;IIZ)I"⟩ method_21_code 5 (Option.some FieldType.int) [(0, 7, 10, 13)] : Cond) ∈ BW := bw_4 (List.mem_of_getElem? (i := 146) rfl) rfl
theorem w_867 : (.methodLink "KateDeskLaw" 84 ⟨"KateDesk", "transform", "(IIZ)V"⟩ : Cond) ∈ BW := bw_4 (List.mem_of_getElem? (i := 147) rfl) rfl
theorem w_868 : (.instanceMethod ⟨"KateDesk", "transform", "(IIZ)V"⟩ : Cond) ∈ BW := bw_4 (List.mem_of_getElem? (i := 148) rfl) rfl
theorem w_869 : (.selects "KateDesk" ⟨"KateDesk", "transform", "(IIZ)V"⟩ ⟨"KateDesk", "transform", "(IIZ)V"⟩ : Cond) ∈ BW := bw_4 (List.mem_of_getElem? (i := 149) rfl) rfl
theorem w_870 : (.code ⟨"KateDesk", "transform", "(IIZ)V"⟩ prog_1_method_20_code 4 none : Cond) ∈ BW := bw_4 (List.mem_of_getElem? (i := 150) rfl) rfl
theorem w_871 : (.methodLink "KateDesk" 268 ⟨"KateDesk$Polynomials", "interpolate", "([[JII)V"⟩ : Cond) ∈ BW := bw_4 (List.mem_of_getElem? (i := 151) rfl) rfl
theorem w_872 : (.instanceMethod ⟨"KateDesk$Polynomials", "interpolate", "([[JII)V"⟩ : Cond) ∈ BW := bw_4 (List.mem_of_getElem? (i := 152) rfl) rfl
theorem w_873 : (.selects "KateDesk$Polynomials" ⟨"KateDesk$Polynomials", "interpolate", "([[JII)V"⟩ ⟨"KateDesk$Polynomials", "interpolate", "([[JII)V"⟩ : Cond) ∈ BW := bw_4 (List.mem_of_getElem? (i := 153) rfl) rfl
theorem w_874 : (.code ⟨"KateDesk$Polynomials", "interpolate", "([[JII)V"⟩ prog_7_method_7_code 6 none : Cond) ∈ BW := bw_4 (List.mem_of_getElem? (i := 154) rfl) rfl
theorem w_875 : (.methodLink "KateDesk$Polynomials" 78 ⟨"KateDesk$Polynomials", "findValues", "([[JII)V"⟩ : Cond) ∈ BW := bw_4 (List.mem_of_getElem? (i := 155) rfl) rfl
theorem w_877 : (.instanceMethod ⟨"KateDesk$Polynomials", "findValues", "([[JII)V"⟩ : Cond) ∈ BW := bw_4 (List.mem_of_getElem? (i := 157) rfl) rfl
theorem w_878 : (.code ⟨"KateDesk$Polynomials", "findValues", "([[JII)V"⟩ prog_7_method_8_code 7 none : Cond) ∈ BW := bw_4 (List.mem_of_getElem? (i := 158) rfl) rfl
theorem w_879 : (.methodLink "KateDesk$Polynomials" 85 ⟨"KateDesk$Polynomials", "liftedRoot", "([JI)V"⟩ : Cond) ∈ BW := bw_4 (List.mem_of_getElem? (i := 159) rfl) rfl
theorem w_880 : (.methodLink "KateDesk$Polynomials" 82 ⟨"KateDesk$Polynomials", "findShare", "(I)V"⟩ : Cond) ∈ BW := bw_4 (List.mem_of_getElem? (i := 160) rfl) rfl
theorem w_882 : (.instanceMethod ⟨"KateDesk$Polynomials", "findShare", "(I)V"⟩ : Cond) ∈ BW := bw_4 (List.mem_of_getElem? (i := 162) rfl) rfl
theorem w_883 : (.code ⟨"KateDesk$Polynomials", "findShare", "(I)V"⟩ prog_7_method_4_code 2 none : Cond) ∈ BW := bw_4 (List.mem_of_getElem? (i := 163) rfl) rfl
theorem w_884 : (.methodLink "KateDesk" 272 ⟨"KateDesk$Polynomials", "evaluate", "([[JII)V"⟩ : Cond) ∈ BW := bw_4 (List.mem_of_getElem? (i := 164) rfl) rfl
theorem w_885 : (.instanceMethod ⟨"KateDesk$Polynomials", "evaluate", "([[JII)V"⟩ : Cond) ∈ BW := bw_4 (List.mem_of_getElem? (i := 165) rfl) rfl
theorem w_886 : (.selects "KateDesk$Polynomials" ⟨"KateDesk$Polynomials", "evaluate", "([[JII)V"⟩ ⟨"KateDesk$Polynomials", "evaluate", "([[JII)V"⟩ : Cond) ∈ BW := bw_4 (List.mem_of_getElem? (i := 166) rfl) rfl
theorem w_887 : (.code ⟨"KateDesk$Polynomials", "evaluate", "([[JII)V"⟩ prog_7_method_6_code 5 none : Cond) ∈ BW := bw_4 (List.mem_of_getElem? (i := 167) rfl) rfl
theorem w_888 : (.methodLink "KateDeskLaw" 174 ⟨"KateDeskLaw", "lagrange", "(LKateDesk;IIII)I"⟩ : Cond) ∈ BW := bw_4 (List.mem_of_getElem? (i := 168) rfl) rfl
theorem w_889 : (.static ⟨"KateDeskLaw", "lagrange", "(LKateDesk;IIII)I"⟩ : Cond) ∈ BW := bw_4 (List.mem_of_getElem? (i := 169) rfl) rfl
theorem w_890 : (.codeWith ⟨"KateDeskLaw", "lagrange", "(LKateDesk;IIII)I"⟩ method_22_code 6 (Option.some FieldType.int) [(0, 9, 12, 13)] : Cond) ∈ BW := bw_4 (List.mem_of_getElem? (i := 170) rfl) rfl
theorem w_891 : (.methodLink "KateDeskLaw" 88 ⟨"KateDesk", "lagrange", "(IIII)V"⟩ : Cond) ∈ BW := bw_4 (List.mem_of_getElem? (i := 171) rfl) rfl
theorem w_892 : (.instanceMethod ⟨"KateDesk", "lagrange", "(IIII)V"⟩ : Cond) ∈ BW := bw_4 (List.mem_of_getElem? (i := 172) rfl) rfl
theorem w_893 : (.selects "KateDesk" ⟨"KateDesk", "lagrange", "(IIII)V"⟩ ⟨"KateDesk", "lagrange", "(IIII)V"⟩ : Cond) ∈ BW := bw_4 (List.mem_of_getElem? (i := 173) rfl) rfl
end
section
theorem w_894 : (.code ⟨"KateDesk", "lagrange", "(IIII)V"⟩ prog_1_method_21_code 5 none : Cond) ∈ BW := bw_4 (List.mem_of_getElem? (i := 174) rfl) rfl
theorem w_895 : (.methodLink "KateDesk" 275 ⟨"KateDesk$Polynomials", "basis", "([JII[J)V"⟩ : Cond) ∈ BW := bw_4 (List.mem_of_getElem? (i := 175) rfl) rfl
theorem w_896 : (.instanceMethod ⟨"KateDesk$Polynomials", "basis", "([JII[J)V"⟩ : Cond) ∈ BW := bw_4 (List.mem_of_getElem? (i := 176) rfl) rfl
theorem w_897 : (.selects "KateDesk$Polynomials" ⟨"KateDesk$Polynomials", "basis", "([JII[J)V"⟩ ⟨"KateDesk$Polynomials", "basis", "([JII[J)V"⟩ : Cond) ∈ BW := bw_4 (List.mem_of_getElem? (i := 177) rfl) rfl
theorem w_898 : (.code ⟨"KateDesk$Polynomials", "basis", "([JII[J)V"⟩ prog_7_method_9_code 7 none : Cond) ∈ BW := bw_4 (List.mem_of_getElem? (i := 178) rfl) rfl
theorem w_899 : (.methodLink "KateDeskLaw" 177 ⟨"KateDeskLaw", "look", "(LKateDesk;I[J)I"⟩ : Cond) ∈ BW := bw_4 (List.mem_of_getElem? (i := 179) rfl) rfl
theorem w_900 : (.static ⟨"KateDeskLaw", "look", "(LKateDesk;I[J)I"⟩ : Cond) ∈ BW := bw_4 (List.mem_of_getElem? (i := 180) rfl) rfl
theorem w_901 : (.codeWith ⟨"KateDeskLaw", "look", "(LKateDesk;I[J)I"⟩ method_23_code 4 (Option.some FieldType.int) [(0, 9, 12, 13)] : Cond) ∈ BW := bw_4 (List.mem_of_getElem? (i := 181) rfl) rfl
theorem w_902 : (.methodLink "KateDeskLaw" 91 ⟨"KateDesk", "look", "(I)I"⟩ : Cond) ∈ BW := bw_4 (List.mem_of_getElem? (i := 182) rfl) rfl
theorem w_903 : (.instanceMethod ⟨"KateDesk", "look", "(I)I"⟩ : Cond) ∈ BW := bw_4 (List.mem_of_getElem? (i := 183) rfl) rfl
theorem w_904 : (.selects "KateDesk" ⟨"KateDesk", "look", "(I)I"⟩ ⟨"KateDesk", "look", "(I)I"⟩ : Cond) ∈ BW := bw_4 (List.mem_of_getElem? (i := 184) rfl) rfl
theorem w_905 : (.code ⟨"KateDesk", "look", "(I)I"⟩ prog_1_method_22_code 2 (Option.some FieldType.int) : Cond) ∈ BW := bw_4 (List.mem_of_getElem? (i := 185) rfl) rfl
theorem w_907 : (.classLink "KateDeskLaw" 95 "KateDeskModel" : Cond) ∈ BW := bw_4 (List.mem_of_getElem? (i := 187) rfl) rfl
theorem w_908 : (.instantiable "KateDeskModel" 14 : Cond) ∈ BW := bw_4 (List.mem_of_getElem? (i := 188) rfl) rfl
theorem w_909 : (.methodLink "KateDeskLaw" 97 ⟨"KateDeskModel", "<init>", "()V"⟩ : Cond) ∈ BW := bw_4 (List.mem_of_getElem? (i := 189) rfl) rfl
theorem w_910 : (.instanceMethod ⟨"KateDeskModel", "<init>", "()V"⟩ : Cond) ∈ BW := bw_4 (List.mem_of_getElem? (i := 190) rfl) rfl
theorem w_911 : (.code ⟨"KateDeskModel", "<init>", "()V"⟩ prog_11_method_1_code 4 none : Cond) ∈ BW := bw_4 (List.mem_of_getElem? (i := 191) rfl) rfl
theorem w_912 : (.methodLink "KateDeskModel" 1 ⟨"java/lang/Object", "<init>", "()V"⟩ : Cond) ∈ BW := bw_4 (List.mem_of_getElem? (i := 192) rfl) rfl
theorem w_913 : (.constantLong "KateDeskModel" 13 (268413611 : Int64) : Cond) ∈ BW := bw_4 (List.mem_of_getElem? (i := 193) rfl) rfl
theorem w_914 : (.constantLong "KateDeskModel" 15 (267386879 : Int64) : Cond) ∈ BW := bw_4 (List.mem_of_getElem? (i := 194) rfl) rfl
theorem w_915 : (.constantLong "KateDeskModel" 17 (67108793 : Int64) : Cond) ∈ BW := bw_4 (List.mem_of_getElem? (i := 195) rfl) rfl
theorem w_916 : (.constantLong "KateDeskModel" 19 (268430101 : Int64) : Cond) ∈ BW := bw_4 (List.mem_of_getElem? (i := 196) rfl) rfl
theorem w_917 : (.constantLong "KateDeskModel" 21 (103030443 : Int64) : Cond) ∈ BW := bw_4 (List.mem_of_getElem? (i := 197) rfl) rfl
theorem w_918 : (.constantLong "KateDeskModel" 23 (168782607 : Int64) : Cond) ∈ BW := bw_4 (List.mem_of_getElem? (i := 198) rfl) rfl
theorem w_919 : (.constantLong "KateDeskModel" 25 (258420946 : Int64) : Cond) ∈ BW := bw_4 (List.mem_of_getElem? (i := 199) rfl) rfl
theorem w_920 : (.constantLong "KateDeskModel" 27 (255349035 : Int64) : Cond) ∈ BW := bw_4 (List.mem_of_getElem? (i := 200) rfl) rfl
theorem w_921 : (.constantLong "KateDeskModel" 29 (74926980 : Int64) : Cond) ∈ BW := bw_4 (List.mem_of_getElem? (i := 201) rfl) rfl
theorem w_922 : (.constantLong "KateDeskModel" 31 (79351158 : Int64) : Cond) ∈ BW := bw_4 (List.mem_of_getElem? (i := 202) rfl) rfl
theorem w_923 : (.constantLong "KateDeskModel" 33 (195540547 : Int64) : Cond) ∈ BW := bw_4 (List.mem_of_getElem? (i := 203) rfl) rfl
theorem w_924 : (.constantLong "KateDeskModel" 35 (241804465 : Int64) : Cond) ∈ BW := bw_4 (List.mem_of_getElem? (i := 204) rfl) rfl
theorem w_925 : (.constantLong "KateDeskModel" 37 (32127359 : Int64) : Cond) ∈ BW := bw_4 (List.mem_of_getElem? (i := 205) rfl) rfl
theorem w_926 : (.constantLong "KateDeskModel" 39 (106513 : Int64) : Cond) ∈ BW := bw_4 (List.mem_of_getElem? (i := 206) rfl) rfl
theorem w_927 : (.constantLong "KateDeskModel" 41 (268435440 : Int64) : Cond) ∈ BW := bw_4 (List.mem_of_getElem? (i := 207) rfl) rfl
theorem w_928 : (.constantLong "KateDeskModel" 43 (240910079 : Int64) : Cond) ∈ BW := bw_4 (List.mem_of_getElem? (i := 208) rfl) rfl
theorem w_929 : (.constantLong "KateDeskModel" 45 (171978751 : Int64) : Cond) ∈ BW := bw_4 (List.mem_of_getElem? (i := 209) rfl) rfl
theorem w_930 : (.constantLong "KateDeskModel" 47 (134566845 : Int64) : Cond) ∈ BW := bw_4 (List.mem_of_getElem? (i := 210) rfl) rfl
theorem w_931 : (.constantLong "KateDeskModel" 49 (8428061 : Int64) : Cond) ∈ BW := bw_4 (List.mem_of_getElem? (i := 211) rfl) rfl
theorem w_932 : (.constantLong "KateDeskModel" 51 (137574872 : Int64) : Cond) ∈ BW := bw_4 (List.mem_of_getElem? (i := 212) rfl) rfl
theorem w_933 : (.constantLong "KateDeskModel" 53 (43636692 : Int64) : Cond) ∈ BW := bw_4 (List.mem_of_getElem? (i := 213) rfl) rfl
theorem w_934 : (.constantLong "KateDeskModel" 55 (65906515 : Int64) : Cond) ∈ BW := bw_4 (List.mem_of_getElem? (i := 214) rfl) rfl
theorem w_935 : (.constantLong "KateDeskModel" 57 (7 : Int64) : Cond) ∈ BW := bw_4 (List.mem_of_getElem? (i := 215) rfl) rfl
theorem w_936 : (.constantLong "KateDeskModel" 62 (186828475 : Int64) : Cond) ∈ BW := bw_4 (List.mem_of_getElem? (i := 216) rfl) rfl
theorem w_937 : (.constantLong "KateDeskModel" 64 (61800621 : Int64) : Cond) ∈ BW := bw_4 (List.mem_of_getElem? (i := 217) rfl) rfl
theorem w_938 : (.constantLong "KateDeskModel" 66 (169537531 : Int64) : Cond) ∈ BW := bw_4 (List.mem_of_getElem? (i := 218) rfl) rfl
theorem w_939 : (.constantLong "KateDeskModel" 68 (243531671 : Int64) : Cond) ∈ BW := bw_4 (List.mem_of_getElem? (i := 219) rfl) rfl
theorem w_940 : (.constantLong "KateDeskModel" 70 (207121493 : Int64) : Cond) ∈ BW := bw_4 (List.mem_of_getElem? (i := 220) rfl) rfl
theorem w_941 : (.constantLong "KateDeskModel" 72 (66154938 : Int64) : Cond) ∈ BW := bw_4 (List.mem_of_getElem? (i := 221) rfl) rfl
theorem w_942 : (.constantLong "KateDeskModel" 74 (94457402 : Int64) : Cond) ∈ BW := bw_4 (List.mem_of_getElem? (i := 222) rfl) rfl
theorem w_943 : (.constantLong "KateDeskModel" 76 (158813072 : Int64) : Cond) ∈ BW := bw_4 (List.mem_of_getElem? (i := 223) rfl) rfl
theorem w_944 : (.constantLong "KateDeskModel" 78 (57183311 : Int64) : Cond) ∈ BW := bw_4 (List.mem_of_getElem? (i := 224) rfl) rfl
theorem w_945 : (.constantLong "KateDeskModel" 80 (177914108 : Int64) : Cond) ∈ BW := bw_4 (List.mem_of_getElem? (i := 225) rfl) rfl
theorem w_946 : (.constantLong "KateDeskModel" 82 (90410063 : Int64) : Cond) ∈ BW := bw_4 (List.mem_of_getElem? (i := 226) rfl) rfl
theorem w_947 : (.constantLong "KateDeskModel" 84 (226050665 : Int64) : Cond) ∈ BW := bw_4 (List.mem_of_getElem? (i := 227) rfl) rfl
theorem w_948 : (.constantLong "KateDeskModel" 86 (61288855 : Int64) : Cond) ∈ BW := bw_4 (List.mem_of_getElem? (i := 228) rfl) rfl
theorem w_949 : (.constantLong "KateDeskModel" 88 (98077 : Int64) : Cond) ∈ BW := bw_4 (List.mem_of_getElem? (i := 229) rfl) rfl
theorem w_950 : (.constantLong "KateDeskModel" 90 (113633249 : Int64) : Cond) ∈ BW := bw_4 (List.mem_of_getElem? (i := 230) rfl) rfl
theorem w_951 : (.constantLong "KateDeskModel" 92 (178401940 : Int64) : Cond) ∈ BW := bw_4 (List.mem_of_getElem? (i := 231) rfl) rfl
theorem w_952 : (.constantLong "KateDeskModel" 94 (143320076 : Int64) : Cond) ∈ BW := bw_4 (List.mem_of_getElem? (i := 232) rfl) rfl
theorem w_953 : (.constantLong "KateDeskModel" 96 (208947752 : Int64) : Cond) ∈ BW := bw_4 (List.mem_of_getElem? (i := 233) rfl) rfl
theorem w_954 : (.constantLong "KateDeskModel" 98 (65916988 : Int64) : Cond) ∈ BW := bw_4 (List.mem_of_getElem? (i := 234) rfl) rfl
theorem w_955 : (.constantLong "KateDeskModel" 100 (213041227 : Int64) : Cond) ∈ BW := bw_4 (List.mem_of_getElem? (i := 235) rfl) rfl
theorem w_956 : (.constantLong "KateDeskModel" 102 (100719384 : Int64) : Cond) ∈ BW := bw_4 (List.mem_of_getElem? (i := 236) rfl) rfl
theorem w_957 : (.constantLong "KateDeskModel" 104 (224198831 : Int64) : Cond) ∈ BW := bw_4 (List.mem_of_getElem? (i := 237) rfl) rfl
theorem w_958 : (.constantLong "KateDeskModel" 106 (217440405 : Int64) : Cond) ∈ BW := bw_4 (List.mem_of_getElem? (i := 238) rfl) rfl
theorem w_959 : (.constantLong "KateDeskModel" 108 (30977615 : Int64) : Cond) ∈ BW := bw_4 (List.mem_of_getElem? (i := 239) rfl) rfl
theorem w_960 : (.constantLong "KateDeskModel" 110 (238087540 : Int64) : Cond) ∈ BW := bw_5 (List.mem_of_getElem? (i := 0) rfl) rfl
theorem w_961 : (.constantLong "KateDeskModel" 112 (168761865 : Int64) : Cond) ∈ BW := bw_5 (List.mem_of_getElem? (i := 1) rfl) rfl
theorem w_962 : (.constantLong "KateDeskModel" 114 (75621290 : Int64) : Cond) ∈ BW := bw_5 (List.mem_of_getElem? (i := 2) rfl) rfl
theorem w_963 : (.constantLong "KateDeskModel" 116 (35647 : Int64) : Cond) ∈ BW := bw_5 (List.mem_of_getElem? (i := 3) rfl) rfl
theorem w_964 : (.methodLink "KateDeskModel" 137 ⟨"KateDeskModel", "use", "(I)V"⟩ : Cond) ∈ BW := bw_5 (List.mem_of_getElem? (i := 4) rfl) rfl
theorem w_966 : (.instanceMethod ⟨"KateDeskModel", "use", "(I)V"⟩ : Cond) ∈ BW := bw_5 (List.mem_of_getElem? (i := 6) rfl) rfl
theorem w_967 : (.code ⟨"KateDeskModel", "use", "(I)V"⟩ prog_11_method_5_code 2 none : Cond) ∈ BW := bw_5 (List.mem_of_getElem? (i := 7) rfl) rfl
theorem w_968 : (.methodLink "KateDeskModel" 141 ⟨"KateDeskModel", "one", "(I)V"⟩ : Cond) ∈ BW := bw_5 (List.mem_of_getElem? (i := 8) rfl) rfl
theorem w_970 : (.instanceMethod ⟨"KateDeskModel", "one", "(I)V"⟩ : Cond) ∈ BW := bw_5 (List.mem_of_getElem? (i := 10) rfl) rfl
theorem w_971 : (.code ⟨"KateDeskModel", "one", "(I)V"⟩ prog_11_method_7_code 3 none : Cond) ∈ BW := bw_5 (List.mem_of_getElem? (i := 11) rfl) rfl
theorem w_972 : (.methodLink "KateDeskModel" 148 ⟨"KateDeskModel", "add", "(III)V"⟩ : Cond) ∈ BW := bw_5 (List.mem_of_getElem? (i := 12) rfl) rfl
theorem w_974 : (.instanceMethod ⟨"KateDeskModel", "add", "(III)V"⟩ : Cond) ∈ BW := bw_5 (List.mem_of_getElem? (i := 14) rfl) rfl
theorem w_975 : (.code ⟨"KateDeskModel", "add", "(III)V"⟩ prog_11_method_15_code 5 none : Cond) ∈ BW := bw_5 (List.mem_of_getElem? (i := 15) rfl) rfl
theorem w_976 : (.methodLink "KateDeskModel" 164 ⟨"KateDeskModel", "limb", "(II)J"⟩ : Cond) ∈ BW := bw_5 (List.mem_of_getElem? (i := 16) rfl) rfl
theorem w_978 : (.instanceMethod ⟨"KateDeskModel", "limb", "(II)J"⟩ : Cond) ∈ BW := bw_5 (List.mem_of_getElem? (i := 18) rfl) rfl
theorem w_979 : (.code ⟨"KateDeskModel", "limb", "(II)J"⟩ prog_11_method_6_code 3 (Option.some FieldType.long) : Cond) ∈ BW := bw_5 (List.mem_of_getElem? (i := 19) rfl) rfl
theorem w_980 : (.methodLink "KateDeskModel" 174 ⟨"KateDeskModel", "carries", "(I)V"⟩ : Cond) ∈ BW := bw_5 (List.mem_of_getElem? (i := 20) rfl) rfl
theorem w_982 : (.instanceMethod ⟨"KateDeskModel", "carries", "(I)V"⟩ : Cond) ∈ BW := bw_5 (List.mem_of_getElem? (i := 22) rfl) rfl
theorem w_983 : (.code ⟨"KateDeskModel", "carries", "(I)V"⟩ prog_11_method_13_code 5 none : Cond) ∈ BW := bw_5 (List.mem_of_getElem? (i := 23) rfl) rfl
theorem w_984 : (.constantLong "KateDeskModel" 168 (268435455 : Int64) : Cond) ∈ BW := bw_5 (List.mem_of_getElem? (i := 24) rfl) rfl
theorem w_985 : (.methodLink "KateDeskModel" 177 ⟨"KateDeskModel", "settles", "(I)V"⟩ : Cond) ∈ BW := bw_5 (List.mem_of_getElem? (i := 25) rfl) rfl
theorem w_987 : (.instanceMethod ⟨"KateDeskModel", "settles", "(I)V"⟩ : Cond) ∈ BW := bw_5 (List.mem_of_getElem? (i := 27) rfl) rfl
theorem w_988 : (.code ⟨"KateDeskModel", "settles", "(I)V"⟩ prog_11_method_14_code 8 none : Cond) ∈ BW := bw_5 (List.mem_of_getElem? (i := 28) rfl) rfl
theorem w_989 : (.methodLink "KateDeskModel" 170 ⟨"KateDeskModel", "isBelow", "()Z"⟩ : Cond) ∈ BW := bw_5 (List.mem_of_getElem? (i := 29) rfl) rfl
theorem w_991 : (.instanceMethod ⟨"KateDeskModel", "isBelow", "()Z"⟩ : Cond) ∈ BW := bw_5 (List.mem_of_getElem? (i := 31) rfl) rfl
theorem w_992 : (.code ⟨"KateDeskModel", "isBelow", "()Z"⟩ prog_11_method_12_code 4 (Option.some FieldType.boolean) : Cond) ∈ BW := bw_5 (List.mem_of_getElem? (i := 32) rfl) rfl
theorem w_993 : (.methodLink "KateDeskModel" 152 ⟨"KateDeskModel", "nothing", "(I)V"⟩ : Cond) ∈ BW := bw_5 (List.mem_of_getElem? (i := 33) rfl) rfl
theorem w_995 : (.instanceMethod ⟨"KateDeskModel", "nothing", "(I)V"⟩ : Cond) ∈ BW := bw_5 (List.mem_of_getElem? (i := 35) rfl) rfl
theorem w_996 : (.code ⟨"KateDeskModel", "nothing", "(I)V"⟩ prog_11_method_27_code 2 none : Cond) ∈ BW := bw_5 (List.mem_of_getElem? (i := 36) rfl) rfl
theorem w_997 : (.methodLink "KateDeskModel" 200 ⟨"KateDeskModel", "zero", "(I)V"⟩ : Cond) ∈ BW := bw_5 (List.mem_of_getElem? (i := 37) rfl) rfl
theorem w_999 : (.instanceMethod ⟨"KateDeskModel", "zero", "(I)V"⟩ : Cond) ∈ BW := bw_5 (List.mem_of_getElem? (i := 39) rfl) rfl
theorem w_1000 : (.code ⟨"KateDeskModel", "zero", "(I)V"⟩ prog_11_method_8_code 3 none : Cond) ∈ BW := bw_5 (List.mem_of_getElem? (i := 40) rfl) rfl
theorem w_1001 : (.fieldLink "KateDeskModel" 158 "KateDeskModel" "thrown" "I" : Cond) ∈ BW := bw_5 (List.mem_of_getElem? (i := 41) rfl) rfl
theorem w_1002 : (.fieldLink "KateDeskModel" 7 "KateDeskModel" "d" "[J" : Cond) ∈ BW := bw_5 (List.mem_of_getElem? (i := 42) rfl) rfl
theorem w_1003 : (.fieldLink "KateDeskModel" 59 "KateDeskModel" "prime" "[J" : Cond) ∈ BW := bw_5 (List.mem_of_getElem? (i := 43) rfl) rfl
theorem w_1004 : (.fieldLink "KateDeskModel" 118 "KateDeskModel" "base" "[J" : Cond) ∈ BW := bw_5 (List.mem_of_getElem? (i := 44) rfl) rfl
theorem w_1005 : (.fieldLink "KateDeskModel" 121 "KateDeskModel" "above" "[J" : Cond) ∈ BW := bw_5 (List.mem_of_getElem? (i := 45) rfl) rfl
theorem w_1006 : (.fieldLink "KateDeskModel" 124 "KateDeskModel" "acc" "[J" : Cond) ∈ BW := bw_5 (List.mem_of_getElem? (i := 46) rfl) rfl
theorem w_1007 : (.fieldLink "KateDeskModel" 161 "KateDeskModel" "which" "I" : Cond) ∈ BW := bw_5 (List.mem_of_getElem? (i := 47) rfl) rfl
theorem w_1008 : (.fieldLink "KateDeskModel" 144 "KateDeskModel" "n" "I" : Cond) ∈ BW := bw_5 (List.mem_of_getElem? (i := 48) rfl) rfl
theorem w_1009 : (.fieldLink "KateDeskModel" 294 "KateDeskModel" "powers" "I" : Cond) ∈ BW := bw_5 (List.mem_of_getElem? (i := 49) rfl) rfl
theorem w_1010 : (.fieldLink "KateDeskModel" 127 "KateDeskModel" "tape" "[I" : Cond) ∈ BW := bw_5 (List.mem_of_getElem? (i := 50) rfl) rfl
theorem w_1011 : (.fieldLink "KateDeskModel" 155 "KateDeskModel" "taped" "I" : Cond) ∈ BW := bw_5 (List.mem_of_getElem? (i := 51) rfl) rfl
theorem w_1012 : (.fieldLink "KateDeskModel" 131 "KateDeskModel" "text" "[I" : Cond) ∈ BW := bw_5 (List.mem_of_getElem? (i := 52) rfl) rfl
theorem w_1013 : (.fieldLink "KateDeskModel" 277 "KateDeskModel" "written" "I" : Cond) ∈ BW := bw_5 (List.mem_of_getElem? (i := 53) rfl) rfl
theorem w_1014 : (.fieldLink "KateDeskModel" 134 "KateDeskModel" "hold" "[J" : Cond) ∈ BW := bw_5 (List.mem_of_getElem? (i := 54) rfl) rfl
theorem w_1015 : (.lays "KateDeskModel" "KateDeskModel" "thrown" "I" : Cond) ∈ BW := bw_5 (List.mem_of_getElem? (i := 55) rfl) rfl
theorem w_1016 : (.soleField "KateDeskModel" "thrown" : Cond) ∈ BW := bw_5 (List.mem_of_getElem? (i := 56) rfl) rfl
theorem w_1017 : (.laysFinal "KateDeskModel" "KateDeskModel" "d" "[J" : Cond) ∈ BW := bw_5 (List.mem_of_getElem? (i := 57) rfl) rfl
theorem w_1018 : (.soleField "KateDeskModel" "d" : Cond) ∈ BW := bw_5 (List.mem_of_getElem? (i := 58) rfl) rfl
theorem w_1019 : (.laysFinal "KateDeskModel" "KateDeskModel" "prime" "[J" : Cond) ∈ BW := bw_5 (List.mem_of_getElem? (i := 59) rfl) rfl
theorem w_1020 : (.soleField "KateDeskModel" "prime" : Cond) ∈ BW := bw_5 (List.mem_of_getElem? (i := 60) rfl) rfl
theorem w_1021 : (.laysFinal "KateDeskModel" "KateDeskModel" "base" "[J" : Cond) ∈ BW := bw_5 (List.mem_of_getElem? (i := 61) rfl) rfl
theorem w_1022 : (.soleField "KateDeskModel" "base" : Cond) ∈ BW := bw_5 (List.mem_of_getElem? (i := 62) rfl) rfl
theorem w_1023 : (.laysFinal "KateDeskModel" "KateDeskModel" "above" "[J" : Cond) ∈ BW := bw_5 (List.mem_of_getElem? (i := 63) rfl) rfl
theorem w_1024 : (.soleField "KateDeskModel" "above" : Cond) ∈ BW := bw_5 (List.mem_of_getElem? (i := 64) rfl) rfl
theorem w_1025 : (.laysFinal "KateDeskModel" "KateDeskModel" "acc" "[J" : Cond) ∈ BW := bw_5 (List.mem_of_getElem? (i := 65) rfl) rfl
theorem w_1026 : (.soleField "KateDeskModel" "acc" : Cond) ∈ BW := bw_5 (List.mem_of_getElem? (i := 66) rfl) rfl
theorem w_1027 : (.lays "KateDeskModel" "KateDeskModel" "which" "I" : Cond) ∈ BW := bw_5 (List.mem_of_getElem? (i := 67) rfl) rfl
theorem w_1028 : (.soleField "KateDeskModel" "which" : Cond) ∈ BW := bw_5 (List.mem_of_getElem? (i := 68) rfl) rfl
theorem w_1029 : (.lays "KateDeskModel" "KateDeskModel" "n" "I" : Cond) ∈ BW := bw_5 (List.mem_of_getElem? (i := 69) rfl) rfl
theorem w_1030 : (.soleField "KateDeskModel" "n" : Cond) ∈ BW := bw_5 (List.mem_of_getElem? (i := 70) rfl) rfl
theorem w_1031 : (.lays "KateDeskModel" "KateDeskModel" "powers" "I" : Cond) ∈ BW := bw_5 (List.mem_of_getElem? (i := 71) rfl) rfl
theorem w_1032 : (.soleField "KateDeskModel" "powers" : Cond) ∈ BW := bw_5 (List.mem_of_getElem? (i := 72) rfl) rfl
theorem w_1033 : (.laysFinal "KateDeskModel" "KateDeskModel" "tape" "[I" : Cond) ∈ BW := bw_5 (List.mem_of_getElem? (i := 73) rfl) rfl
theorem w_1034 : (.soleField "KateDeskModel" "tape" : Cond) ∈ BW := bw_5 (List.mem_of_getElem? (i := 74) rfl) rfl
theorem w_1035 : (.lays "KateDeskModel" "KateDeskModel" "taped" "I" : Cond) ∈ BW := bw_5 (List.mem_of_getElem? (i := 75) rfl) rfl
theorem w_1036 : (.soleField "KateDeskModel" "taped" : Cond) ∈ BW := bw_5 (List.mem_of_getElem? (i := 76) rfl) rfl
theorem w_1037 : (.laysFinal "KateDeskModel" "KateDeskModel" "text" "[I" : Cond) ∈ BW := bw_5 (List.mem_of_getElem? (i := 77) rfl) rfl
theorem w_1038 : (.soleField "KateDeskModel" "text" : Cond) ∈ BW := bw_5 (List.mem_of_getElem? (i := 78) rfl) rfl
theorem w_1039 : (.lays "KateDeskModel" "KateDeskModel" "written" "I" : Cond) ∈ BW := bw_5 (List.mem_of_getElem? (i := 79) rfl) rfl
theorem w_1040 : (.soleField "KateDeskModel" "written" : Cond) ∈ BW := bw_5 (List.mem_of_getElem? (i := 80) rfl) rfl
theorem w_1041 : (.laysFinal "KateDeskModel" "KateDeskModel" "hold" "[J" : Cond) ∈ BW := bw_5 (List.mem_of_getElem? (i := 81) rfl) rfl
theorem w_1042 : (.soleField "KateDeskModel" "hold" : Cond) ∈ BW := bw_5 (List.mem_of_getElem? (i := 82) rfl) rfl
theorem w_1043 : (.superclass "KateDeskModel" "java/lang/Object" : Cond) ∈ BW := bw_5 (List.mem_of_getElem? (i := 83) rfl) rfl
theorem w_1044 : (.arrayClass FieldType.int : Cond) ∈ BW := bw_5 (List.mem_of_getElem? (i := 84) rfl) rfl
theorem w_1045 : (.methodLink "KateDeskLaw" 106 ⟨"KateDeskModel", "thrown", "()I"⟩ : Cond) ∈ BW := bw_5 (List.mem_of_getElem? (i := 85) rfl) rfl
theorem w_1046 : (.instanceMethod ⟨"KateDeskModel", "thrown", "()I"⟩ : Cond) ∈ BW := bw_5 (List.mem_of_getElem? (i := 86) rfl) rfl
theorem w_1047 : (.selects "KateDeskModel" ⟨"KateDeskModel", "thrown", "()I"⟩ ⟨"KateDeskModel", "thrown", "()I"⟩ : Cond) ∈ BW := bw_5 (List.mem_of_getElem? (i := 87) rfl) rfl
theorem w_1048 : (.code ⟨"KateDeskModel", "thrown", "()I"⟩ prog_11_method_2_code 1 (Option.some FieldType.int) : Cond) ∈ BW := bw_5 (List.mem_of_getElem? (i := 88) rfl) rfl
theorem w_1049 : (.methodLink "KateDeskLaw" 105 ⟨"KateDeskModel", "feed", "(IJ)I"⟩ : Cond) ∈ BW := bw_5 (List.mem_of_getElem? (i := 89) rfl) rfl
theorem w_1050 : (.instanceMethod ⟨"KateDeskModel", "feed", "(IJ)I"⟩ : Cond) ∈ BW := bw_5 (List.mem_of_getElem? (i := 90) rfl) rfl
theorem w_1051 : (.selects "KateDeskModel" ⟨"KateDeskModel", "feed", "(IJ)I"⟩ ⟨"KateDeskModel", "feed", "(IJ)I"⟩ : Cond) ∈ BW := bw_5 (List.mem_of_getElem? (i := 91) rfl) rfl
theorem w_1052 : (.code ⟨"KateDeskModel", "feed", "(IJ)I"⟩ prog_11_method_37_code 5 (Option.some FieldType.int) : Cond) ∈ BW := bw_5 (List.mem_of_getElem? (i := 92) rfl) rfl
theorem w_1053 : (.methodLink "KateDeskModel" 223 ⟨"KateDeskModel", "fails", "(ZI)Z"⟩ : Cond) ∈ BW := bw_5 (List.mem_of_getElem? (i := 93) rfl) rfl
theorem w_1055 : (.instanceMethod ⟨"KateDeskModel", "fails", "(ZI)Z"⟩ : Cond) ∈ BW := bw_5 (List.mem_of_getElem? (i := 95) rfl) rfl
theorem w_1056 : (.code ⟨"KateDeskModel", "fails", "(ZI)Z"⟩ prog_11_method_3_code 3 (Option.some FieldType.boolean) : Cond) ∈ BW := bw_5 (List.mem_of_getElem? (i := 96) rfl) rfl
theorem w_1057 : (.constantLong "KateDeskModel" 227 (255 : Int64) : Cond) ∈ BW := bw_5 (List.mem_of_getElem? (i := 97) rfl) rfl
theorem w_1058 : (.methodLink "KateDeskLaw" 113 ⟨"KateDeskModel", "number", "(I)Z"⟩ : Cond) ∈ BW := bw_5 (List.mem_of_getElem? (i := 98) rfl) rfl
theorem w_1059 : (.instanceMethod ⟨"KateDeskModel", "number", "(I)Z"⟩ : Cond) ∈ BW := bw_5 (List.mem_of_getElem? (i := 99) rfl) rfl
theorem w_1060 : (.selects "KateDeskModel" ⟨"KateDeskModel", "number", "(I)Z"⟩ ⟨"KateDeskModel", "number", "(I)Z"⟩ : Cond) ∈ BW := bw_5 (List.mem_of_getElem? (i := 100) rfl) rfl
theorem w_1061 : (.code ⟨"KateDeskModel", "number", "(I)Z"⟩ prog_11_method_38_code 4 (Option.some FieldType.boolean) : Cond) ∈ BW := bw_5 (List.mem_of_getElem? (i := 101) rfl) rfl
theorem w_1062 : (.methodLink "KateDeskModel" 219 ⟨"KateDeskModel", "noScalar", "(I)Z"⟩ : Cond) ∈ BW := bw_5 (List.mem_of_getElem? (i := 102) rfl) rfl
theorem w_1063 : (.static ⟨"KateDeskModel", "noScalar", "(I)Z"⟩ : Cond) ∈ BW := bw_5 (List.mem_of_getElem? (i := 103) rfl) rfl
theorem w_1064 : (.code ⟨"KateDeskModel", "noScalar", "(I)Z"⟩ prog_11_method_33_code 1 (Option.some FieldType.boolean) : Cond) ∈ BW := bw_5 (List.mem_of_getElem? (i := 104) rfl) rfl
theorem w_1065 : (.methodLink "KateDeskModel" 229 ⟨"KateDeskModel", "setByte", "(III)V"⟩ : Cond) ∈ BW := bw_5 (List.mem_of_getElem? (i := 105) rfl) rfl
theorem w_1067 : (.instanceMethod ⟨"KateDeskModel", "setByte", "(III)V"⟩ : Cond) ∈ BW := bw_5 (List.mem_of_getElem? (i := 107) rfl) rfl
theorem w_1068 : (.code ⟨"KateDeskModel", "setByte", "(III)V"⟩ prog_11_method_25_code 5 none : Cond) ∈ BW := bw_5 (List.mem_of_getElem? (i := 108) rfl) rfl
theorem w_1069 : (.methodLink "KateDeskModel" 232 ⟨"KateDeskModel", "isNumber", "(I)Z"⟩ : Cond) ∈ BW := bw_5 (List.mem_of_getElem? (i := 109) rfl) rfl
theorem w_1071 : (.instanceMethod ⟨"KateDeskModel", "isNumber", "(I)Z"⟩ : Cond) ∈ BW := bw_5 (List.mem_of_getElem? (i := 111) rfl) rfl
theorem w_1072 : (.code ⟨"KateDeskModel", "isNumber", "(I)Z"⟩ prog_11_method_26_code 3 (Option.some FieldType.boolean) : Cond) ∈ BW := bw_5 (List.mem_of_getElem? (i := 112) rfl) rfl
theorem w_1073 : (.methodLink "KateDeskModel" 180 ⟨"KateDeskModel", "move", "(II)V"⟩ : Cond) ∈ BW := bw_5 (List.mem_of_getElem? (i := 113) rfl) rfl
theorem w_1075 : (.instanceMethod ⟨"KateDeskModel", "move", "(II)V"⟩ : Cond) ∈ BW := bw_5 (List.mem_of_getElem? (i := 115) rfl) rfl
theorem w_1076 : (.code ⟨"KateDeskModel", "move", "(II)V"⟩ prog_11_method_9_code 4 none : Cond) ∈ BW := bw_5 (List.mem_of_getElem? (i := 116) rfl) rfl
theorem w_1077 : (.methodLink "KateDeskLaw" 117 ⟨"KateDeskModel", "set", "(IJ)V"⟩ : Cond) ∈ BW := bw_5 (List.mem_of_getElem? (i := 117) rfl) rfl
theorem w_1078 : (.instanceMethod ⟨"KateDeskModel", "set", "(IJ)V"⟩ : Cond) ∈ BW := bw_5 (List.mem_of_getElem? (i := 118) rfl) rfl
theorem w_1079 : (.selects "KateDeskModel" ⟨"KateDeskModel", "set", "(IJ)V"⟩ ⟨"KateDeskModel", "set", "(IJ)V"⟩ : Cond) ∈ BW := bw_5 (List.mem_of_getElem? (i := 119) rfl) rfl
theorem w_1080 : (.code ⟨"KateDeskModel", "set", "(IJ)V"⟩ prog_11_method_39_code 4 none : Cond) ∈ BW := bw_5 (List.mem_of_getElem? (i := 120) rfl) rfl
theorem w_1081 : (.methodLink "KateDeskModel" 235 ⟨"KateDeskModel", "small", "(IJ)V"⟩ : Cond) ∈ BW := bw_5 (List.mem_of_getElem? (i := 121) rfl) rfl
theorem w_1083 : (.instanceMethod ⟨"KateDeskModel", "small", "(IJ)V"⟩ : Cond) ∈ BW := bw_5 (List.mem_of_getElem? (i := 123) rfl) rfl
theorem w_1084 : (.code ⟨"KateDeskModel", "small", "(IJ)V"⟩ prog_11_method_23_code 5 none : Cond) ∈ BW := bw_5 (List.mem_of_getElem? (i := 124) rfl) rfl
theorem w_1085 : (.methodLink "KateDeskLaw" 121 ⟨"KateDeskModel", "word", "(II)J"⟩ : Cond) ∈ BW := bw_5 (List.mem_of_getElem? (i := 125) rfl) rfl
theorem w_1086 : (.instanceMethod ⟨"KateDeskModel", "word", "(II)J"⟩ : Cond) ∈ BW := bw_5 (List.mem_of_getElem? (i := 126) rfl) rfl
theorem w_1087 : (.selects "KateDeskModel" ⟨"KateDeskModel", "word", "(II)J"⟩ ⟨"KateDeskModel", "word", "(II)J"⟩ : Cond) ∈ BW := bw_5 (List.mem_of_getElem? (i := 127) rfl) rfl
theorem w_1088 : (.code ⟨"KateDeskModel", "word", "(II)J"⟩ prog_11_method_40_code 6 (Option.some FieldType.long) : Cond) ∈ BW := bw_5 (List.mem_of_getElem? (i := 128) rfl) rfl
theorem w_1089 : (.constantLong "KateDeskModel" 238 (2 : Int64) : Cond) ∈ BW := bw_5 (List.mem_of_getElem? (i := 129) rfl) rfl
theorem w_1090 : (.methodLink "KateDeskModel" 187 ⟨"KateDeskModel", "bit", "(II)I"⟩ : Cond) ∈ BW := bw_5 (List.mem_of_getElem? (i := 130) rfl) rfl
theorem w_1092 : (.instanceMethod ⟨"KateDeskModel", "bit", "(II)I"⟩ : Cond) ∈ BW := bw_5 (List.mem_of_getElem? (i := 132) rfl) rfl
theorem w_1093 : (.code ⟨"KateDeskModel", "bit", "(II)I"⟩ prog_11_method_18_code 3 (Option.some FieldType.int) : Cond) ∈ BW := bw_5 (List.mem_of_getElem? (i := 133) rfl) rfl
theorem w_1094 : (.methodLink "KateDeskLaw" 125 ⟨"KateDeskModel", "reckon", "(IIII)V"⟩ : Cond) ∈ BW := bw_5 (List.mem_of_getElem? (i := 134) rfl) rfl
theorem w_1095 : (.instanceMethod ⟨"KateDeskModel", "reckon", "(IIII)V"⟩ : Cond) ∈ BW := bw_5 (List.mem_of_getElem? (i := 135) rfl) rfl
theorem w_1096 : (.selects "KateDeskModel" ⟨"KateDeskModel", "reckon", "(IIII)V"⟩ ⟨"KateDeskModel", "reckon", "(IIII)V"⟩ : Cond) ∈ BW := bw_5 (List.mem_of_getElem? (i := 136) rfl) rfl
theorem w_1097 : (.code ⟨"KateDeskModel", "reckon", "(IIII)V"⟩ prog_11_method_41_code 5 none : Cond) ∈ BW := bw_5 (List.mem_of_getElem? (i := 137) rfl) rfl
theorem w_1098 : (.constantLong "KateDeskModel" 240 (3 : Int64) : Cond) ∈ BW := bw_5 (List.mem_of_getElem? (i := 138) rfl) rfl
theorem w_1099 : (.methodLink "KateDeskModel" 242 ⟨"KateDeskModel", "in", "(JJJ)Z"⟩ : Cond) ∈ BW := bw_5 (List.mem_of_getElem? (i := 139) rfl) rfl
theorem w_1100 : (.static ⟨"KateDeskModel", "in", "(JJJ)Z"⟩ : Cond) ∈ BW := bw_5 (List.mem_of_getElem? (i := 140) rfl) rfl
theorem w_1101 : (.code ⟨"KateDeskModel", "in", "(JJJ)Z"⟩ prog_11_method_4_code 6 (Option.some FieldType.boolean) : Cond) ∈ BW := bw_5 (List.mem_of_getElem? (i := 141) rfl) rfl
theorem w_1102 : (.methodLink "KateDeskModel" 246 ⟨"KateDeskModel", "isZero", "(I)Z"⟩ : Cond) ∈ BW := bw_5 (List.mem_of_getElem? (i := 142) rfl) rfl
theorem w_1104 : (.instanceMethod ⟨"KateDeskModel", "isZero", "(I)Z"⟩ : Cond) ∈ BW := bw_5 (List.mem_of_getElem? (i := 144) rfl) rfl
theorem w_1105 : (.code ⟨"KateDeskModel", "isZero", "(I)Z"⟩ prog_11_method_10_code 5 (Option.some FieldType.boolean) : Cond) ∈ BW := bw_5 (List.mem_of_getElem? (i := 145) rfl) rfl
theorem w_1106 : (.methodLink "KateDeskModel" 203 ⟨"KateDeskModel", "less", "(III)V"⟩ : Cond) ∈ BW := bw_5 (List.mem_of_getElem? (i := 146) rfl) rfl
theorem w_1108 : (.instanceMethod ⟨"KateDeskModel", "less", "(III)V"⟩ : Cond) ∈ BW := bw_5 (List.mem_of_getElem? (i := 148) rfl) rfl
theorem w_1109 : (.code ⟨"KateDeskModel", "less", "(III)V"⟩ prog_11_method_16_code 5 none : Cond) ∈ BW := bw_5 (List.mem_of_getElem? (i := 149) rfl) rfl
theorem w_1110 : (.methodLink "KateDeskModel" 184 ⟨"KateDeskModel", "product", "(III)V"⟩ : Cond) ∈ BW := bw_5 (List.mem_of_getElem? (i := 150) rfl) rfl
theorem w_1112 : (.instanceMethod ⟨"KateDeskModel", "product", "(III)V"⟩ : Cond) ∈ BW := bw_5 (List.mem_of_getElem? (i := 152) rfl) rfl
theorem w_1113 : (.code ⟨"KateDeskModel", "product", "(III)V"⟩ prog_11_method_17_code 9 none : Cond) ∈ BW := bw_5 (List.mem_of_getElem? (i := 153) rfl) rfl
theorem w_1114 : (.methodLink "KateDeskModel" 249 ⟨"KateDeskModel", "inverse", "(II)V"⟩ : Cond) ∈ BW := bw_5 (List.mem_of_getElem? (i := 154) rfl) rfl
theorem w_1116 : (.instanceMethod ⟨"KateDeskModel", "inverse", "(II)V"⟩ : Cond) ∈ BW := bw_5 (List.mem_of_getElem? (i := 156) rfl) rfl
theorem w_1117 : (.code ⟨"KateDeskModel", "inverse", "(II)V"⟩ prog_11_method_21_code 3 none : Cond) ∈ BW := bw_5 (List.mem_of_getElem? (i := 157) rfl) rfl
theorem w_1118 : (.constantLong "KateDeskModel" 191 (-2 : Int64) : Cond) ∈ BW := bw_5 (List.mem_of_getElem? (i := 158) rfl) rfl
theorem w_1119 : (.methodLink "KateDeskModel" 193 ⟨"KateDeskModel", "primeAnd", "(IJ)V"⟩ : Cond) ∈ BW := bw_5 (List.mem_of_getElem? (i := 159) rfl) rfl
theorem w_1121 : (.instanceMethod ⟨"KateDeskModel", "primeAnd", "(IJ)V"⟩ : Cond) ∈ BW := bw_5 (List.mem_of_getElem? (i := 161) rfl) rfl
theorem w_1122 : (.code ⟨"KateDeskModel", "primeAnd", "(IJ)V"⟩ prog_11_method_20_code 5 none : Cond) ∈ BW := bw_5 (List.mem_of_getElem? (i := 162) rfl) rfl
theorem w_1123 : (.methodLink "KateDeskModel" 197 ⟨"KateDeskModel", "raise", "(III)V"⟩ : Cond) ∈ BW := bw_5 (List.mem_of_getElem? (i := 163) rfl) rfl
theorem w_1125 : (.instanceMethod ⟨"KateDeskModel", "raise", "(III)V"⟩ : Cond) ∈ BW := bw_5 (List.mem_of_getElem? (i := 165) rfl) rfl
theorem w_1126 : (.code ⟨"KateDeskModel", "raise", "(III)V"⟩ prog_11_method_19_code 5 none : Cond) ∈ BW := bw_5 (List.mem_of_getElem? (i := 166) rfl) rfl
theorem w_1127 : (.methodLink "KateDeskLaw" 129 ⟨"KateDeskModel", "power", "(IIJ)V"⟩ : Cond) ∈ BW := bw_5 (List.mem_of_getElem? (i := 167) rfl) rfl
theorem w_1128 : (.instanceMethod ⟨"KateDeskModel", "power", "(IIJ)V"⟩ : Cond) ∈ BW := bw_5 (List.mem_of_getElem? (i := 168) rfl) rfl
theorem w_1129 : (.selects "KateDeskModel" ⟨"KateDeskModel", "power", "(IIJ)V"⟩ ⟨"KateDeskModel", "power", "(IIJ)V"⟩ : Cond) ∈ BW := bw_5 (List.mem_of_getElem? (i := 169) rfl) rfl
theorem w_1130 : (.code ⟨"KateDeskModel", "power", "(IIJ)V"⟩ prog_11_method_42_code 5 none : Cond) ∈ BW := bw_5 (List.mem_of_getElem? (i := 170) rfl) rfl
theorem w_1131 : (.methodLink "KateDeskLaw" 133 ⟨"KateDeskModel", "unity", "(II)V"⟩ : Cond) ∈ BW := bw_5 (List.mem_of_getElem? (i := 171) rfl) rfl
theorem w_1132 : (.instanceMethod ⟨"KateDeskModel", "unity", "(II)V"⟩ : Cond) ∈ BW := bw_5 (List.mem_of_getElem? (i := 172) rfl) rfl
theorem w_1133 : (.selects "KateDeskModel" ⟨"KateDeskModel", "unity", "(II)V"⟩ ⟨"KateDeskModel", "unity", "(II)V"⟩ : Cond) ∈ BW := bw_5 (List.mem_of_getElem? (i := 173) rfl) rfl
theorem w_1134 : (.code ⟨"KateDeskModel", "unity", "(II)V"⟩ prog_11_method_44_code 3 none : Cond) ∈ BW := bw_5 (List.mem_of_getElem? (i := 174) rfl) rfl
theorem w_1135 : (.constantLong "KateDeskModel" 257 (32 : Int64) : Cond) ∈ BW := bw_5 (List.mem_of_getElem? (i := 175) rfl) rfl
theorem w_1136 : (.methodLink "KateDeskModel" 259 ⟨"KateDeskModel", "unit", "(II)V"⟩ : Cond) ∈ BW := bw_5 (List.mem_of_getElem? (i := 176) rfl) rfl
theorem w_1138 : (.instanceMethod ⟨"KateDeskModel", "unit", "(II)V"⟩ : Cond) ∈ BW := bw_5 (List.mem_of_getElem? (i := 178) rfl) rfl
theorem w_1139 : (.code ⟨"KateDeskModel", "unit", "(II)V"⟩ prog_11_method_43_code 3 none : Cond) ∈ BW := bw_5 (List.mem_of_getElem? (i := 179) rfl) rfl
theorem w_1140 : (.constantLong "KateDeskModel" 252 (-1 : Int64) : Cond) ∈ BW := bw_5 (List.mem_of_getElem? (i := 180) rfl) rfl
theorem w_1141 : (.methodLink "KateDeskModel" 254 ⟨"KateDeskModel", "halves", "(II)V"⟩ : Cond) ∈ BW := bw_5 (List.mem_of_getElem? (i := 181) rfl) rfl
theorem w_1143 : (.instanceMethod ⟨"KateDeskModel", "halves", "(II)V"⟩ : Cond) ∈ BW := bw_5 (List.mem_of_getElem? (i := 183) rfl) rfl
theorem w_1144 : (.code ⟨"KateDeskModel", "halves", "(II)V"⟩ prog_11_method_22_code 5 none : Cond) ∈ BW := bw_5 (List.mem_of_getElem? (i := 184) rfl) rfl
theorem w_1145 : (.methodLink "KateDeskLaw" 136 ⟨"KateDeskModel", "point", "(I)I"⟩ : Cond) ∈ BW := bw_5 (List.mem_of_getElem? (i := 185) rfl) rfl
theorem w_1146 : (.instanceMethod ⟨"KateDeskModel", "point", "(I)I"⟩ : Cond) ∈ BW := bw_5 (List.mem_of_getElem? (i := 186) rfl) rfl
theorem w_1147 : (.selects "KateDeskModel" ⟨"KateDeskModel", "point", "(I)I"⟩ ⟨"KateDeskModel", "point", "(I)I"⟩ : Cond) ∈ BW := bw_5 (List.mem_of_getElem? (i := 187) rfl) rfl
theorem w_1148 : (.code ⟨"KateDeskModel", "point", "(I)I"⟩ prog_11_method_46_code 6 (Option.some FieldType.int) : Cond) ∈ BW := bw_5 (List.mem_of_getElem? (i := 188) rfl) rfl
theorem w_1149 : (.methodLink "KateDeskModel" 262 ⟨"KateDeskModel", "noPoint", "(I)Z"⟩ : Cond) ∈ BW := bw_5 (List.mem_of_getElem? (i := 189) rfl) rfl
theorem w_1150 : (.static ⟨"KateDeskModel", "noPoint", "(I)Z"⟩ : Cond) ∈ BW := bw_5 (List.mem_of_getElem? (i := 190) rfl) rfl
theorem w_1151 : (.code ⟨"KateDeskModel", "noPoint", "(I)Z"⟩ prog_11_method_34_code 1 (Option.some FieldType.boolean) : Cond) ∈ BW := bw_5 (List.mem_of_getElem? (i := 191) rfl) rfl
theorem w_1152 : (.methodLink "KateDeskModel" 265 ⟨"KateDeskModel", "slot", "(I)I"⟩ : Cond) ∈ BW := bw_5 (List.mem_of_getElem? (i := 192) rfl) rfl
theorem w_1153 : (.static ⟨"KateDeskModel", "slot", "(I)I"⟩ : Cond) ∈ BW := bw_5 (List.mem_of_getElem? (i := 193) rfl) rfl
theorem w_1154 : (.code ⟨"KateDeskModel", "slot", "(I)I"⟩ prog_11_method_36_code 1 (Option.some FieldType.int) : Cond) ∈ BW := bw_5 (List.mem_of_getElem? (i := 194) rfl) rfl
theorem w_1155 : (.constantLong "KateDeskModel" 269 (4 : Int64) : Cond) ∈ BW := bw_5 (List.mem_of_getElem? (i := 195) rfl) rfl
theorem w_1156 : (.methodLink "KateDeskModel" 271 ⟨"KateDeskModel", "isGreat", "(I)Z"⟩ : Cond) ∈ BW := bw_5 (List.mem_of_getElem? (i := 196) rfl) rfl
theorem w_1158 : (.instanceMethod ⟨"KateDeskModel", "isGreat", "(I)Z"⟩ : Cond) ∈ BW := bw_5 (List.mem_of_getElem? (i := 198) rfl) rfl
theorem w_1159 : (.code ⟨"KateDeskModel", "isGreat", "(I)Z"⟩ prog_11_method_45_code 3 (Option.some FieldType.boolean) : Cond) ∈ BW := bw_5 (List.mem_of_getElem? (i := 199) rfl) rfl
theorem w_1160 : (.methodLink "KateDeskModel" 215 ⟨"KateDeskModel", "isSame", "(II)Z"⟩ : Cond) ∈ BW := bw_5 (List.mem_of_getElem? (i := 200) rfl) rfl
theorem w_1162 : (.instanceMethod ⟨"KateDeskModel", "isSame", "(II)Z"⟩ : Cond) ∈ BW := bw_5 (List.mem_of_getElem? (i := 202) rfl) rfl
theorem w_1163 : (.code ⟨"KateDeskModel", "isSame", "(II)Z"⟩ prog_11_method_11_code 5 (Option.some FieldType.boolean) : Cond) ∈ BW := bw_5 (List.mem_of_getElem? (i := 203) rfl) rfl
theorem w_1164 : (.methodLink "KateDeskModel" 274 ⟨"KateDeskModel", "multiple", "(III)V"⟩ : Cond) ∈ BW := bw_5 (List.mem_of_getElem? (i := 204) rfl) rfl
theorem w_1166 : (.instanceMethod ⟨"KateDeskModel", "multiple", "(III)V"⟩ : Cond) ∈ BW := bw_5 (List.mem_of_getElem? (i := 206) rfl) rfl
theorem w_1167 : (.code ⟨"KateDeskModel", "multiple", "(III)V"⟩ prog_11_method_31_code 5 none : Cond) ∈ BW := bw_5 (List.mem_of_getElem? (i := 207) rfl) rfl
theorem w_1168 : (.methodLink "KateDeskModel" 209 ⟨"KateDeskModel", "movePoint", "(II)V"⟩ : Cond) ∈ BW := bw_5 (List.mem_of_getElem? (i := 208) rfl) rfl
theorem w_1170 : (.instanceMethod ⟨"KateDeskModel", "movePoint", "(II)V"⟩ : Cond) ∈ BW := bw_5 (List.mem_of_getElem? (i := 210) rfl) rfl
theorem w_1171 : (.code ⟨"KateDeskModel", "movePoint", "(II)V"⟩ prog_11_method_28_code 4 none : Cond) ∈ BW := bw_5 (List.mem_of_getElem? (i := 211) rfl) rfl
theorem w_1172 : (.methodLink "KateDeskModel" 212 ⟨"KateDeskModel", "sum", "(III)V"⟩ : Cond) ∈ BW := bw_5 (List.mem_of_getElem? (i := 212) rfl) rfl
theorem w_1174 : (.instanceMethod ⟨"KateDeskModel", "sum", "(III)V"⟩ : Cond) ∈ BW := bw_5 (List.mem_of_getElem? (i := 214) rfl) rfl
theorem w_1175 : (.code ⟨"KateDeskModel", "sum", "(III)V"⟩ prog_11_method_30_code 4 none : Cond) ∈ BW := bw_5 (List.mem_of_getElem? (i := 215) rfl) rfl
theorem w_1176 : (.methodLink "KateDeskModel" 206 ⟨"KateDeskModel", "twelve", "(I)V"⟩ : Cond) ∈ BW := bw_5 (List.mem_of_getElem? (i := 216) rfl) rfl
theorem w_1178 : (.instanceMethod ⟨"KateDeskModel", "twelve", "(I)V"⟩ : Cond) ∈ BW := bw_5 (List.mem_of_getElem? (i := 218) rfl) rfl
theorem w_1179 : (.code ⟨"KateDeskModel", "twelve", "(I)V"⟩ prog_11_method_29_code 2 none : Cond) ∈ BW := bw_5 (List.mem_of_getElem? (i := 219) rfl) rfl
theorem w_1180 : (.methodLink "KateDeskLaw" 140 ⟨"KateDeskModel", "bytes", "(IZ)V"⟩ : Cond) ∈ BW := bw_5 (List.mem_of_getElem? (i := 220) rfl) rfl
theorem w_1181 : (.instanceMethod ⟨"KateDeskModel", "bytes", "(IZ)V"⟩ : Cond) ∈ BW := bw_5 (List.mem_of_getElem? (i := 221) rfl) rfl
theorem w_1182 : (.selects "KateDeskModel" ⟨"KateDeskModel", "bytes", "(IZ)V"⟩ ⟨"KateDeskModel", "bytes", "(IZ)V"⟩ : Cond) ∈ BW := bw_5 (List.mem_of_getElem? (i := 222) rfl) rfl
theorem w_1183 : (.code ⟨"KateDeskModel", "bytes", "(IZ)V"⟩ prog_11_method_47_code 6 none : Cond) ∈ BW := bw_5 (List.mem_of_getElem? (i := 223) rfl) rfl
theorem w_1184 : (.methodLink "KateDeskModel" 280 ⟨"KateDeskModel", "byteOf", "(II)I"⟩ : Cond) ∈ BW := bw_5 (List.mem_of_getElem? (i := 224) rfl) rfl
theorem w_1186 : (.instanceMethod ⟨"KateDeskModel", "byteOf", "(II)I"⟩ : Cond) ∈ BW := bw_5 (List.mem_of_getElem? (i := 226) rfl) rfl
theorem w_1187 : (.code ⟨"KateDeskModel", "byteOf", "(II)I"⟩ prog_11_method_24_code 5 (Option.some FieldType.int) : Cond) ∈ BW := bw_5 (List.mem_of_getElem? (i := 227) rfl) rfl
theorem w_1188 : (.methodLink "KateDeskLaw" 143 ⟨"KateDeskModel", "out", "(I)J"⟩ : Cond) ∈ BW := bw_5 (List.mem_of_getElem? (i := 228) rfl) rfl
theorem w_1189 : (.instanceMethod ⟨"KateDeskModel", "out", "(I)J"⟩ : Cond) ∈ BW := bw_5 (List.mem_of_getElem? (i := 229) rfl) rfl
theorem w_1190 : (.selects "KateDeskModel" ⟨"KateDeskModel", "out", "(I)J"⟩ ⟨"KateDeskModel", "out", "(I)J"⟩ : Cond) ∈ BW := bw_5 (List.mem_of_getElem? (i := 230) rfl) rfl
theorem w_1191 : (.code ⟨"KateDeskModel", "out", "(I)J"⟩ prog_11_method_48_code 5 (Option.some FieldType.long) : Cond) ∈ BW := bw_5 (List.mem_of_getElem? (i := 231) rfl) rfl
theorem w_1192 : (.methodLink "KateDeskLaw" 146 ⟨"KateDeskModel", "join", "(IIII)V"⟩ : Cond) ∈ BW := bw_5 (List.mem_of_getElem? (i := 232) rfl) rfl
theorem w_1193 : (.instanceMethod ⟨"KateDeskModel", "join", "(IIII)V"⟩ : Cond) ∈ BW := bw_5 (List.mem_of_getElem? (i := 233) rfl) rfl
theorem w_1194 : (.selects "KateDeskModel" ⟨"KateDeskModel", "join", "(IIII)V"⟩ ⟨"KateDeskModel", "join", "(IIII)V"⟩ : Cond) ∈ BW := bw_5 (List.mem_of_getElem? (i := 234) rfl) rfl
theorem w_1195 : (.code ⟨"KateDeskModel", "join", "(IIII)V"⟩ prog_11_method_49_code 5 none : Cond) ∈ BW := bw_5 (List.mem_of_getElem? (i := 235) rfl) rfl
theorem w_1196 : (.methodLink "KateDeskLaw" 150 ⟨"KateDeskModel", "times", "(III)V"⟩ : Cond) ∈ BW := bw_5 (List.mem_of_getElem? (i := 236) rfl) rfl
theorem w_1197 : (.instanceMethod ⟨"KateDeskModel", "times", "(III)V"⟩ : Cond) ∈ BW := bw_5 (List.mem_of_getElem? (i := 237) rfl) rfl
theorem w_1198 : (.selects "KateDeskModel" ⟨"KateDeskModel", "times", "(III)V"⟩ ⟨"KateDeskModel", "times", "(III)V"⟩ : Cond) ∈ BW := bw_5 (List.mem_of_getElem? (i := 238) rfl) rfl
theorem w_1199 : (.code ⟨"KateDeskModel", "times", "(III)V"⟩ prog_11_method_50_code 4 none : Cond) ∈ BW := bw_5 (List.mem_of_getElem? (i := 239) rfl) rfl
theorem w_1200 : (.methodLink "KateDeskLaw" 153 ⟨"KateDeskModel", "combine", "(IIII)V"⟩ : Cond) ∈ BW := bw_6 (List.mem_of_getElem? (i := 0) rfl) rfl
theorem w_1201 : (.instanceMethod ⟨"KateDeskModel", "combine", "(IIII)V"⟩ : Cond) ∈ BW := bw_6 (List.mem_of_getElem? (i := 1) rfl) rfl
theorem w_1202 : (.selects "KateDeskModel" ⟨"KateDeskModel", "combine", "(IIII)V"⟩ ⟨"KateDeskModel", "combine", "(IIII)V"⟩ : Cond) ∈ BW := bw_6 (List.mem_of_getElem? (i := 2) rfl) rfl
theorem w_1203 : (.code ⟨"KateDeskModel", "combine", "(IIII)V"⟩ prog_11_method_52_code 6 none : Cond) ∈ BW := bw_6 (List.mem_of_getElem? (i := 3) rfl) rfl
theorem w_1204 : (.methodLink "KateDeskModel" 283 ⟨"KateDeskModel", "noScalars", "(II)Z"⟩ : Cond) ∈ BW := bw_6 (List.mem_of_getElem? (i := 4) rfl) rfl
theorem w_1205 : (.static ⟨"KateDeskModel", "noScalars", "(II)Z"⟩ : Cond) ∈ BW := bw_6 (List.mem_of_getElem? (i := 5) rfl) rfl
theorem w_1206 : (.code ⟨"KateDeskModel", "noScalars", "(II)Z"⟩ prog_11_method_35_code 2 (Option.some FieldType.boolean) : Cond) ∈ BW := bw_6 (List.mem_of_getElem? (i := 6) rfl) rfl
theorem w_1207 : (.methodLink "KateDeskModel" 286 ⟨"KateDeskModel", "sums", "(III)V"⟩ : Cond) ∈ BW := bw_6 (List.mem_of_getElem? (i := 7) rfl) rfl
theorem w_1209 : (.instanceMethod ⟨"KateDeskModel", "sums", "(III)V"⟩ : Cond) ∈ BW := bw_6 (List.mem_of_getElem? (i := 9) rfl) rfl
theorem w_1210 : (.code ⟨"KateDeskModel", "sums", "(III)V"⟩ prog_11_method_51_code 5 none : Cond) ∈ BW := bw_6 (List.mem_of_getElem? (i := 10) rfl) rfl
theorem w_1211 : (.methodLink "KateDeskLaw" 156 ⟨"KateDeskModel", "same", "(II)Z"⟩ : Cond) ∈ BW := bw_6 (List.mem_of_getElem? (i := 11) rfl) rfl
theorem w_1212 : (.instanceMethod ⟨"KateDeskModel", "same", "(II)Z"⟩ : Cond) ∈ BW := bw_6 (List.mem_of_getElem? (i := 12) rfl) rfl
theorem w_1213 : (.selects "KateDeskModel" ⟨"KateDeskModel", "same", "(II)Z"⟩ ⟨"KateDeskModel", "same", "(II)Z"⟩ : Cond) ∈ BW := bw_6 (List.mem_of_getElem? (i := 13) rfl) rfl
theorem w_1214 : (.code ⟨"KateDeskModel", "same", "(II)Z"⟩ prog_11_method_53_code 3 (Option.some FieldType.boolean) : Cond) ∈ BW := bw_6 (List.mem_of_getElem? (i := 14) rfl) rfl
theorem w_1215 : (.methodLink "KateDeskModel" 289 ⟨"KateDeskModel", "alike", "(II)Z"⟩ : Cond) ∈ BW := bw_6 (List.mem_of_getElem? (i := 15) rfl) rfl
theorem w_1217 : (.instanceMethod ⟨"KateDeskModel", "alike", "(II)Z"⟩ : Cond) ∈ BW := bw_6 (List.mem_of_getElem? (i := 17) rfl) rfl
theorem w_1218 : (.code ⟨"KateDeskModel", "alike", "(II)Z"⟩ prog_11_method_32_code 3 (Option.some FieldType.boolean) : Cond) ∈ BW := bw_6 (List.mem_of_getElem? (i := 18) rfl) rfl
theorem w_1219 : (.methodLink "KateDeskLaw" 159 ⟨"KateDeskModel", "setup", "(II)V"⟩ : Cond) ∈ BW := bw_6 (List.mem_of_getElem? (i := 19) rfl) rfl
theorem w_1220 : (.instanceMethod ⟨"KateDeskModel", "setup", "(II)V"⟩ : Cond) ∈ BW := bw_6 (List.mem_of_getElem? (i := 20) rfl) rfl
theorem w_1221 : (.selects "KateDeskModel" ⟨"KateDeskModel", "setup", "(II)V"⟩ ⟨"KateDeskModel", "setup", "(II)V"⟩ : Cond) ∈ BW := bw_6 (List.mem_of_getElem? (i := 21) rfl) rfl
theorem w_1222 : (.code ⟨"KateDeskModel", "setup", "(II)V"⟩ prog_11_method_54_code 4 none : Cond) ∈ BW := bw_6 (List.mem_of_getElem? (i := 22) rfl) rfl
theorem w_1223 : (.constantLong "KateDeskModel" 292 (16 : Int64) : Cond) ∈ BW := bw_6 (List.mem_of_getElem? (i := 23) rfl) rfl
theorem w_1224 : (.methodLink "KateDeskLaw" 162 ⟨"KateDeskModel", "commit", "(III)V"⟩ : Cond) ∈ BW := bw_6 (List.mem_of_getElem? (i := 24) rfl) rfl
theorem w_1225 : (.instanceMethod ⟨"KateDeskModel", "commit", "(III)V"⟩ : Cond) ∈ BW := bw_6 (List.mem_of_getElem? (i := 25) rfl) rfl
theorem w_1226 : (.selects "KateDeskModel" ⟨"KateDeskModel", "commit", "(III)V"⟩ ⟨"KateDeskModel", "commit", "(III)V"⟩ : Cond) ∈ BW := bw_6 (List.mem_of_getElem? (i := 26) rfl) rfl
theorem w_1227 : (.code ⟨"KateDeskModel", "commit", "(III)V"⟩ prog_11_method_55_code 4 none : Cond) ∈ BW := bw_6 (List.mem_of_getElem? (i := 27) rfl) rfl
theorem w_1228 : (.methodLink "KateDeskLaw" 165 ⟨"KateDeskModel", "open", "(IIII)V"⟩ : Cond) ∈ BW := bw_6 (List.mem_of_getElem? (i := 28) rfl) rfl
theorem w_1229 : (.instanceMethod ⟨"KateDeskModel", "open", "(IIII)V"⟩ : Cond) ∈ BW := bw_6 (List.mem_of_getElem? (i := 29) rfl) rfl
theorem w_1230 : (.selects "KateDeskModel" ⟨"KateDeskModel", "open", "(IIII)V"⟩ ⟨"KateDeskModel", "open", "(IIII)V"⟩ : Cond) ∈ BW := bw_6 (List.mem_of_getElem? (i := 30) rfl) rfl
theorem w_1231 : (.code ⟨"KateDeskModel", "open", "(IIII)V"⟩ prog_11_method_57_code 6 none : Cond) ∈ BW := bw_6 (List.mem_of_getElem? (i := 31) rfl) rfl
theorem w_1232 : (.methodLink "KateDeskModel" 297 ⟨"KateDeskModel", "value", "(IIII)V"⟩ : Cond) ∈ BW := bw_6 (List.mem_of_getElem? (i := 32) rfl) rfl
theorem w_1234 : (.instanceMethod ⟨"KateDeskModel", "value", "(IIII)V"⟩ : Cond) ∈ BW := bw_6 (List.mem_of_getElem? (i := 34) rfl) rfl
theorem w_1235 : (.code ⟨"KateDeskModel", "value", "(IIII)V"⟩ prog_11_method_56_code 6 none : Cond) ∈ BW := bw_6 (List.mem_of_getElem? (i := 35) rfl) rfl
theorem w_1236 : (.methodLink "KateDeskLaw" 169 ⟨"KateDeskModel", "checks", "(IIIII)Z"⟩ : Cond) ∈ BW := bw_6 (List.mem_of_getElem? (i := 36) rfl) rfl
theorem w_1237 : (.instanceMethod ⟨"KateDeskModel", "checks", "(IIIII)Z"⟩ : Cond) ∈ BW := bw_6 (List.mem_of_getElem? (i := 37) rfl) rfl
theorem w_1238 : (.selects "KateDeskModel" ⟨"KateDeskModel", "checks", "(IIIII)Z"⟩ ⟨"KateDeskModel", "checks", "(IIIII)Z"⟩ : Cond) ∈ BW := bw_6 (List.mem_of_getElem? (i := 38) rfl) rfl
theorem w_1239 : (.code ⟨"KateDeskModel", "checks", "(IIIII)Z"⟩ prog_11_method_58_code 6 (Option.some FieldType.boolean) : Cond) ∈ BW := bw_6 (List.mem_of_getElem? (i := 39) rfl) rfl
theorem w_1240 : (.methodLink "KateDeskLaw" 173 ⟨"KateDeskModel", "transform", "(IIZ)V"⟩ : Cond) ∈ BW := bw_6 (List.mem_of_getElem? (i := 40) rfl) rfl
theorem w_1241 : (.instanceMethod ⟨"KateDeskModel", "transform", "(IIZ)V"⟩ : Cond) ∈ BW := bw_6 (List.mem_of_getElem? (i := 41) rfl) rfl
theorem w_1242 : (.selects "KateDeskModel" ⟨"KateDeskModel", "transform", "(IIZ)V"⟩ ⟨"KateDeskModel", "transform", "(IIZ)V"⟩ : Cond) ∈ BW := bw_6 (List.mem_of_getElem? (i := 42) rfl) rfl
theorem w_1243 : (.code ⟨"KateDeskModel", "transform", "(IIZ)V"⟩ prog_11_method_59_code 7 none : Cond) ∈ BW := bw_6 (List.mem_of_getElem? (i := 43) rfl) rfl
theorem w_1244 : (.methodLink "KateDeskLaw" 176 ⟨"KateDeskModel", "lagrange", "(IIII)V"⟩ : Cond) ∈ BW := bw_6 (List.mem_of_getElem? (i := 44) rfl) rfl
theorem w_1245 : (.instanceMethod ⟨"KateDeskModel", "lagrange", "(IIII)V"⟩ : Cond) ∈ BW := bw_6 (List.mem_of_getElem? (i := 45) rfl) rfl
theorem w_1246 : (.selects "KateDeskModel" ⟨"KateDeskModel", "lagrange", "(IIII)V"⟩ ⟨"KateDeskModel", "lagrange", "(IIII)V"⟩ : Cond) ∈ BW := bw_6 (List.mem_of_getElem? (i := 46) rfl) rfl
theorem w_1247 : (.code ⟨"KateDeskModel", "lagrange", "(IIII)V"⟩ prog_11_method_60_code 5 none : Cond) ∈ BW := bw_6 (List.mem_of_getElem? (i := 47) rfl) rfl
theorem w_1248 : (.methodLink "KateDeskLaw" 179 ⟨"KateDeskModel", "look", "(I)I"⟩ : Cond) ∈ BW := bw_6 (List.mem_of_getElem? (i := 48) rfl) rfl
theorem w_1249 : (.instanceMethod ⟨"KateDeskModel", "look", "(I)I"⟩ : Cond) ∈ BW := bw_6 (List.mem_of_getElem? (i := 49) rfl) rfl
theorem w_1250 : (.selects "KateDeskModel" ⟨"KateDeskModel", "look", "(I)I"⟩ ⟨"KateDeskModel", "look", "(I)I"⟩ : Cond) ∈ BW := bw_6 (List.mem_of_getElem? (i := 50) rfl) rfl
theorem w_1251 : (.code ⟨"KateDeskModel", "look", "(I)I"⟩ prog_11_method_61_code 2 (Option.some FieldType.int) : Cond) ∈ BW := bw_6 (List.mem_of_getElem? (i := 51) rfl) rfl
theorem w_1252 : (.constantLong "KateDeskLaw" 98 (4294967295 : Int64) : Cond) ∈ BW := bw_6 (List.mem_of_getElem? (i := 52) rfl) rfl
theorem w_1253 : (.sameMethod "java/lang/Throwable" "java/lang/Throwable" "fillInStackTrace" "(I)Ljava/lang/Throwable;" : Cond) ∈ BW := bw_6 (List.mem_of_getElem? (i := 53) rfl) rfl
theorem w_1254 : (.fieldLink "java/lang/String" 9 "java/lang/String" "value" "[B" : Cond) ∈ BW := bw_6 (List.mem_of_getElem? (i := 54) rfl) rfl
theorem w_1255 : (.fieldLink "java/lang/String" 15 "java/lang/String" "coder" "B" : Cond) ∈ BW := bw_6 (List.mem_of_getElem? (i := 55) rfl) rfl
end
section
def T_Curve : u_T := fun k => match k with
  | 0 => ("KateDesk$Curve", "field", "LKateDesk$Field;", true)
  | 1 => ("KateDesk$Curve", "xx", "[J", true)
  | 2 => ("KateDesk$Curve", "yy", "[J", true)
  | 3 => ("KateDesk$Curve", "zz", "[J", true)
  | 4 => ("KateDesk$Curve", "xy", "[J", true)
  | 5 => ("KateDesk$Curve", "yz", "[J", true)
  | 6 => ("KateDesk$Curve", "xz", "[J", true)
  | 7 => ("KateDesk$Curve", "left", "[J", true)
  | 8 => ("KateDesk$Curve", "right", "[J", true)
  | _ => ("KateDesk$Curve", "opposite", "[J", true)
def ty_Curve : Nat → FieldType := fun k => match k with
  | 0 => .object "KateDesk$Field"
  | 1 => .array (.long)
  | 2 => .array (.long)
  | 3 => .array (.long)
  | 4 => .array (.long)
  | 5 => .array (.long)
  | 6 => .array (.long)
  | 7 => .array (.long)
  | 8 => .array (.long)
  | _ => .array (.long)
theorem in_Curve : ∀ w ∈ u_ws "KateDesk$Curve" T_Curve 10, w ∈ BW := (List.forall_mem_cons.mpr ⟨w_215, List.forall_mem_cons.mpr ⟨w_217, List.forall_mem_cons.mpr ⟨w_219, List.forall_mem_cons.mpr ⟨w_221, List.forall_mem_cons.mpr ⟨w_223, List.forall_mem_cons.mpr ⟨w_225, List.forall_mem_cons.mpr ⟨w_227, List.forall_mem_cons.mpr ⟨w_229, List.forall_mem_cons.mpr ⟨w_231, List.forall_mem_cons.mpr ⟨w_233, fun _ h => absurd h List.not_mem_nil⟩⟩⟩⟩⟩⟩⟩⟩⟩⟩)
theorem nm_Curve : ∀ a, a < 10 → ∀ b, b < 10 → a ≠ b → (T_Curve a).2.1 ≠ (T_Curve b).2.1 := by decide +kernel
theorem tyok_Curve : ∀ k, k < 10 → parseFieldDescriptor (T_Curve k).2.2.1 = some (ty_Curve k) := by decide +kernel
def T_Field : u_T := fun k => match k with
  | 0 => ("KateDesk$Field", "modulus", "[J", true)
  | 1 => ("KateDesk$Field", "one", "[J", true)
  | 2 => ("KateDesk$Field", "plainOne", "[J", true)
  | 3 => ("KateDesk$Field", "liftedLift", "[J", true)
  | 4 => ("KateDesk$Field", "inverseExponent", "[J", true)
  | 5 => ("KateDesk$Field", "base", "[J", true)
  | _ => ("KateDesk$Field", "minusInverse", "J", true)
def ty_Field : Nat → FieldType := fun k => match k with
  | 0 => .array (.long)
  | 1 => .array (.long)
  | 2 => .array (.long)
  | 3 => .array (.long)
  | 4 => .array (.long)
  | 5 => .array (.long)
  | _ => .long
theorem in_Field : ∀ w ∈ u_ws "KateDesk$Field" T_Field 7, w ∈ BW := (List.forall_mem_cons.mpr ⟨w_183, List.forall_mem_cons.mpr ⟨w_185, List.forall_mem_cons.mpr ⟨w_187, List.forall_mem_cons.mpr ⟨w_189, List.forall_mem_cons.mpr ⟨w_191, List.forall_mem_cons.mpr ⟨w_193, List.forall_mem_cons.mpr ⟨w_195, fun _ h => absurd h List.not_mem_nil⟩⟩⟩⟩⟩⟩⟩)
theorem nm_Field : ∀ a, a < 7 → ∀ b, b < 7 → a ≠ b → (T_Field a).2.1 ≠ (T_Field b).2.1 := by decide +kernel
theorem tyok_Field : ∀ k, k < 7 → parseFieldDescriptor (T_Field k).2.2.1 = some (ty_Field k) := by decide +kernel
def T_Point : u_T := fun k => match k with
  | 0 => ("KateDesk$Point", "x", "[J", true)
  | 1 => ("KateDesk$Point", "y", "[J", true)
  | _ => ("KateDesk$Point", "z", "[J", true)
def ty_Point : Nat → FieldType := fun k => match k with
  | 0 => .array (.long)
  | 1 => .array (.long)
  | _ => .array (.long)
theorem in_Point : ∀ w ∈ u_ws "KateDesk$Point" T_Point 3, w ∈ BW := (List.forall_mem_cons.mpr ⟨w_57, List.forall_mem_cons.mpr ⟨w_59, List.forall_mem_cons.mpr ⟨w_61, fun _ h => absurd h List.not_mem_nil⟩⟩⟩)
theorem nm_Point : ∀ a, a < 3 → ∀ b, b < 3 → a ≠ b → (T_Point a).2.1 ≠ (T_Point b).2.1 := by decide +kernel
theorem tyok_Point : ∀ k, k < 3 → parseFieldDescriptor (T_Point k).2.2.1 = some (ty_Point k) := by decide +kernel
def T_Row : u_T := fun k => match k with
  | 0 => ("KateDesk$Row", "cells", "[B", true)
  | _ => ("KateDesk$Row", "size", "I", false)
def ty_Row : Nat → FieldType := fun k => match k with
  | 0 => .array (.byte)
  | _ => .int
theorem in_Row : ∀ w ∈ u_ws "KateDesk$Row" T_Row 2, w ∈ BW := (List.forall_mem_cons.mpr ⟨w_75, List.forall_mem_cons.mpr ⟨w_77, fun _ h => absurd h List.not_mem_nil⟩⟩)
theorem nm_Row : ∀ a, a < 2 → ∀ b, b < 2 → a ≠ b → (T_Row a).2.1 ≠ (T_Row b).2.1 := by decide +kernel
theorem tyok_Row : ∀ k, k < 2 → parseFieldDescriptor (T_Row k).2.2.1 = some (ty_Row k) := by decide +kernel
def T_Sums : u_T := fun k => match k with
  | 0 => ("KateDesk$Sums", "curve", "LKateDesk$Curve;", true)
  | 1 => ("KateDesk$Sums", "odds", "[LKateDesk$Point;", true)
  | 2 => ("KateDesk$Sums", "digits", "[[B", true)
  | _ => ("KateDesk$Sums", "sum", "LKateDesk$Point;", true)
def ty_Sums : Nat → FieldType := fun k => match k with
  | 0 => .object "KateDesk$Curve"
  | 1 => .array (.object "KateDesk$Point")
  | 2 => .array (.array (.byte))
  | _ => .object "KateDesk$Point"
theorem in_Sums : ∀ w ∈ u_ws "KateDesk$Sums" T_Sums 4, w ∈ BW := (List.forall_mem_cons.mpr ⟨w_251, List.forall_mem_cons.mpr ⟨w_253, List.forall_mem_cons.mpr ⟨w_255, List.forall_mem_cons.mpr ⟨w_257, fun _ h => absurd h List.not_mem_nil⟩⟩⟩⟩)
theorem nm_Sums : ∀ a, a < 4 → ∀ b, b < 4 → a ≠ b → (T_Sums a).2.1 ≠ (T_Sums b).2.1 := by decide +kernel
theorem tyok_Sums : ∀ k, k < 4 → parseFieldDescriptor (T_Sums k).2.2.1 = some (ty_Sums k) := by decide +kernel
def T_Desk : u_T := fun k => match k with
  | 0 => ("KateDesk", "scalarField", "LKateDesk$Field;", true)
  | 1 => ("KateDesk", "curve", "LKateDesk$Curve;", true)
  | 2 => ("KateDesk", "sums", "LKateDesk$Sums;", true)
  | 3 => ("KateDesk", "forms", "LKateDesk$Forms;", true)
  | 4 => ("KateDesk", "polynomials", "LKateDesk$Polynomials;", true)
  | 5 => ("KateDesk", "scalars", "[[J", true)
  | 6 => ("KateDesk", "points", "[LKateDesk$Point;", true)
  | 7 => ("KateDesk", "powers", "[LKateDesk$Point;", true)
  | 8 => ("KateDesk", "powerCount", "I", false)
  | 9 => ("KateDesk", "tape", "LKateDesk$Row;", true)
  | 10 => ("KateDesk", "written", "LKateDesk$Row;", true)
  | 11 => ("KateDesk", "generator", "LKateDesk$Point;", true)
  | 12 => ("KateDesk", "handPoint", "LKateDesk$Point;", true)
  | 13 => ("KateDesk", "multiple", "LKateDesk$Point;", true)
  | 14 => ("KateDesk", "handScalar", "[J", true)
  | _ => ("KateDesk", "factor", "[J", true)
def ty_Desk : Nat → FieldType := fun k => match k with
  | 0 => .object "KateDesk$Field"
  | 1 => .object "KateDesk$Curve"
  | 2 => .object "KateDesk$Sums"
  | 3 => .object "KateDesk$Forms"
  | 4 => .object "KateDesk$Polynomials"
  | 5 => .array (.array (.long))
  | 6 => .array (.object "KateDesk$Point")
  | 7 => .array (.object "KateDesk$Point")
  | 8 => .int
  | 9 => .object "KateDesk$Row"
  | 10 => .object "KateDesk$Row"
  | 11 => .object "KateDesk$Point"
  | 12 => .object "KateDesk$Point"
  | 13 => .object "KateDesk$Point"
  | 14 => .array (.long)
  | _ => .array (.long)
theorem in_Desk : ∀ w ∈ u_ws "KateDesk" T_Desk 16, w ∈ BW := (List.forall_mem_cons.mpr ⟨w_355, List.forall_mem_cons.mpr ⟨w_357, List.forall_mem_cons.mpr ⟨w_359, List.forall_mem_cons.mpr ⟨w_361, List.forall_mem_cons.mpr ⟨w_363, List.forall_mem_cons.mpr ⟨w_365, List.forall_mem_cons.mpr ⟨w_367, List.forall_mem_cons.mpr ⟨w_369, List.forall_mem_cons.mpr ⟨w_371, List.forall_mem_cons.mpr ⟨w_373, List.forall_mem_cons.mpr ⟨w_375, List.forall_mem_cons.mpr ⟨w_377, List.forall_mem_cons.mpr ⟨w_379, List.forall_mem_cons.mpr ⟨w_381, List.forall_mem_cons.mpr ⟨w_383, List.forall_mem_cons.mpr ⟨w_385, fun _ h => absurd h List.not_mem_nil⟩⟩⟩⟩⟩⟩⟩⟩⟩⟩⟩⟩⟩⟩⟩⟩)
theorem nm_Desk : ∀ a, a < 16 → ∀ b, b < 16 → a ≠ b → (T_Desk a).2.1 ≠ (T_Desk b).2.1 := by decide +kernel
theorem tyok_Desk : ∀ k, k < 16 → parseFieldDescriptor (T_Desk k).2.2.1 = some (ty_Desk k) := by decide +kernel
def T_Forms : u_T := fun k => match k with
  | 0 => ("KateDesk$Forms", "field", "LKateDesk$Field;", true)
  | 1 => ("KateDesk$Forms", "curve", "LKateDesk$Curve;", true)
  | 2 => ("KateDesk$Forms", "rootExponent", "[J", true)
  | 3 => ("KateDesk$Forms", "square", "[J", true)
  | 4 => ("KateDesk$Forms", "found", "[J", true)
  | _ => ("KateDesk$Forms", "plain", "[J", true)
def ty_Forms : Nat → FieldType := fun k => match k with
  | 0 => .object "KateDesk$Field"
  | 1 => .object "KateDesk$Curve"
  | 2 => .array (.long)
  | 3 => .array (.long)
  | 4 => .array (.long)
  | _ => .array (.long)
theorem in_Forms : ∀ w ∈ u_ws "KateDesk$Forms" T_Forms 6, w ∈ BW := (List.forall_mem_cons.mpr ⟨w_278, List.forall_mem_cons.mpr ⟨w_280, List.forall_mem_cons.mpr ⟨w_282, List.forall_mem_cons.mpr ⟨w_284, List.forall_mem_cons.mpr ⟨w_286, List.forall_mem_cons.mpr ⟨w_288, fun _ h => absurd h List.not_mem_nil⟩⟩⟩⟩⟩⟩)
theorem nm_Forms : ∀ a, a < 6 → ∀ b, b < 6 → a ≠ b → (T_Forms a).2.1 ≠ (T_Forms b).2.1 := by decide +kernel
theorem tyok_Forms : ∀ k, k < 6 → parseFieldDescriptor (T_Forms k).2.2.1 = some (ty_Forms k) := by decide +kernel
def T_Polys : u_T := fun k => match k with
  | 0 => ("KateDesk$Polynomials", "field", "LKateDesk$Field;", true)
  | 1 => ("KateDesk$Polynomials", "seven", "[J", true)
  | 2 => ("KateDesk$Polynomials", "plainOne", "[J", true)
  | 3 => ("KateDesk$Polynomials", "exponent", "[J", true)
  | 4 => ("KateDesk$Polynomials", "root", "[J", true)
  | 5 => ("KateDesk$Polynomials", "place", "[J", true)
  | 6 => ("KateDesk$Polynomials", "share", "[J", true)
  | 7 => ("KateDesk$Polynomials", "next", "[J", true)
  | _ => ("KateDesk$Polynomials", "values", "[[J", true)
def ty_Polys : Nat → FieldType := fun k => match k with
  | 0 => .object "KateDesk$Field"
  | 1 => .array (.long)
  | 2 => .array (.long)
  | 3 => .array (.long)
  | 4 => .array (.long)
  | 5 => .array (.long)
  | 6 => .array (.long)
  | 7 => .array (.long)
  | _ => .array (.array (.long))
theorem in_Polys : ∀ w ∈ u_ws "KateDesk$Polynomials" T_Polys 9, w ∈ BW := (List.forall_mem_cons.mpr ⟨w_312, List.forall_mem_cons.mpr ⟨w_314, List.forall_mem_cons.mpr ⟨w_316, List.forall_mem_cons.mpr ⟨w_318, List.forall_mem_cons.mpr ⟨w_320, List.forall_mem_cons.mpr ⟨w_322, List.forall_mem_cons.mpr ⟨w_324, List.forall_mem_cons.mpr ⟨w_326, List.forall_mem_cons.mpr ⟨w_328, fun _ h => absurd h List.not_mem_nil⟩⟩⟩⟩⟩⟩⟩⟩⟩)
theorem nm_Polys : ∀ a, a < 9 → ∀ b, b < 9 → a ≠ b → (T_Polys a).2.1 ≠ (T_Polys b).2.1 := by decide +kernel
theorem tyok_Polys : ∀ k, k < 9 → parseFieldDescriptor (T_Polys k).2.2.1 = some (ty_Polys k) := by decide +kernel
def T_Model : u_T := fun k => match k with
  | 0 => ("KateDeskModel", "thrown", "I", false)
  | 1 => ("KateDeskModel", "d", "[J", true)
  | 2 => ("KateDeskModel", "prime", "[J", true)
  | 3 => ("KateDeskModel", "base", "[J", true)
  | 4 => ("KateDeskModel", "above", "[J", true)
  | 5 => ("KateDeskModel", "acc", "[J", true)
  | 6 => ("KateDeskModel", "which", "I", false)
  | 7 => ("KateDeskModel", "n", "I", false)
  | 8 => ("KateDeskModel", "powers", "I", false)
  | 9 => ("KateDeskModel", "tape", "[I", true)
  | 10 => ("KateDeskModel", "taped", "I", false)
  | 11 => ("KateDeskModel", "text", "[I", true)
  | 12 => ("KateDeskModel", "written", "I", false)
  | _ => ("KateDeskModel", "hold", "[J", true)
def ty_Model : Nat → FieldType := fun k => match k with
  | 0 => .int
  | 1 => .array (.long)
  | 2 => .array (.long)
  | 3 => .array (.long)
  | 4 => .array (.long)
  | 5 => .array (.long)
  | 6 => .int
  | 7 => .int
  | 8 => .int
  | 9 => .array (.int)
  | 10 => .int
  | 11 => .array (.int)
  | 12 => .int
  | _ => .array (.long)
theorem in_Model : ∀ w ∈ u_ws "KateDeskModel" T_Model 14, w ∈ BW := (List.forall_mem_cons.mpr ⟨w_1015, List.forall_mem_cons.mpr ⟨w_1017, List.forall_mem_cons.mpr ⟨w_1019, List.forall_mem_cons.mpr ⟨w_1021, List.forall_mem_cons.mpr ⟨w_1023, List.forall_mem_cons.mpr ⟨w_1025, List.forall_mem_cons.mpr ⟨w_1027, List.forall_mem_cons.mpr ⟨w_1029, List.forall_mem_cons.mpr ⟨w_1031, List.forall_mem_cons.mpr ⟨w_1033, List.forall_mem_cons.mpr ⟨w_1035, List.forall_mem_cons.mpr ⟨w_1037, List.forall_mem_cons.mpr ⟨w_1039, List.forall_mem_cons.mpr ⟨w_1041, fun _ h => absurd h List.not_mem_nil⟩⟩⟩⟩⟩⟩⟩⟩⟩⟩⟩⟩⟩⟩)
theorem nm_Model : ∀ a, a < 14 → ∀ b, b < 14 → a ≠ b → (T_Model a).2.1 ≠ (T_Model b).2.1 := by decide +kernel
theorem tyok_Model : ∀ k, k < 14 → parseFieldDescriptor (T_Model k).2.2.1 = some (ty_Model k) := by decide +kernel
def CL : List vw_C := [("KateDesk$Curve", T_Curve, 10), ("KateDesk$Field", T_Field, 7), ("KateDesk$Point", T_Point, 3), ("KateDesk$Row", T_Row, 2), ("KateDesk$Sums", T_Sums, 4), ("KateDesk", T_Desk, 16), ("KateDesk$Forms", T_Forms, 6), ("KateDesk$Polynomials", T_Polys, 9), ("KateDeskModel", T_Model, 14)]
abbrev WG : Type := va_G × ClassId × ClassId × ClassId × ClassId × ClassId × ClassId
def kd_AOA (t : FieldType) (U : State) : Prop := (Cond.arrayOver (.array t)).before #[] U = true
theorem kd_AOA.moved {t : FieldType} {u U : State} (hvm : u.vm.Alike U.vm) (h : kd_AOA t u) : kd_AOA t U := by
  obtain ⟨comp, c, k, h1, h2, h3, h4, h5⟩ := arrayOverA_spec h
  obtain ⟨k', hk', he⟩ := hvm.2.2 _ _ h3
  have hi : (U.vm.classes.findIdx? fun (x : Class) => match x.kind with | .array component _ => component == comp | _ => false) = some c := by
    have e1 := va_idx_bare U.vm comp
    have e2 := va_idx_bare u.vm comp
    have e3 : U.vm.bare = u.vm.bare := by first | exact hvm.bare_eq | exact hvm.bare_eq.symm
    rw [e3] at e1
    exact (e1.symm.trans e2).trans h2
  have hkind : k'.kind = .array comp (.array t) := by rw [he]; exact h4
  have f1 : U.vm.findClass (FieldType.array t).toString = some comp := by rw [hvm.findClass]; exact h1
  have f2 : U.vm.findClass ("[" ++ (FieldType.array t).toString) = some c := by rw [hvm.findClass]; exact h5
  unfold kd_AOA Cond.before Cond.holds
  simp only [Cond.value]
  rw [f1, Option.bind_some]
  refine (congrArg (fun o : Option Nat => (o.bind (fun c => (U.vm.classes[c]?).map fun (k : Class) => match k.kind with | .array _ ty => decide (ty = FieldType.array t) && decide (U.vm.findClass ("[" ++ (FieldType.array t).toString) = some c) | _ => false) == some true)) hi).trans ?_
  simp [hk', hkind, f2]
/-- the tables' classes, and the arrays of longs, bytes, ints -/
def KW (g : WG) (U : State) : Prop := va_K g.1 CL [(g.2.1, .long), (g.2.2.1, .byte), (g.2.2.2.1, .int), (g.2.2.2.2.1, .object "KateDesk$Point"), (g.2.2.2.2.2.1, .array .long), (g.2.2.2.2.2.2, .array .byte)] U ∧ va_AO "KateDesk$Point" U ∧ kd_AOA .long U ∧ kd_AOA .byte U
theorem KW.moved {g : WG} {u U : State} (hvm : u.vm.Alike U.vm) (h : KW g u) : KW g U := ⟨va_K.moved hvm h.1, h.2.1.moved hvm, h.2.2.1.moved hvm, h.2.2.2.moved hvm⟩
def OB (g : WG) (H : Heap) (a ci : Nat) (fs : List Value) : Prop := va_at g.1 CL (a, .inr (ci, fs)) H
def AJ (g : WG) (H : Heap) (a N : Nat) (f : Nat → Int64) : Prop := H[a]? = some (arrV g.2.1 N (fun j => .long (f j)))
def AB (g : WG) (H : Heap) (a N : Nat) (f : Nat → Int32) : Prop := H[a]? = some (arrV g.2.2.1 N (fun j => .int (f j)))
def AR (cA : ClassId) (H : Heap) (a N : Nat) (f : Nat → Nat) : Prop := H[a]? = some (arrV cA N (fun j => .ref (f j)))
def AI (g : WG) (H : Heap) (a N : Nat) (f : Nat → Int32) : Prop := H[a]? = some (arrV g.2.2.2.1 N (fun j => .int (f j)))
theorem arrV_ext {cA : ClassId} {N : Nat} {f f' : Nat → Value} (h : ∀ j, j < N → f j = f' j) : arrV cA N f = arrV cA N f' := by
  unfold arrV
  congr 1
  apply Array.ext
  · simp
  · intro i h1 h2
    simp at h1 ⊢
    exact h i h1
theorem AJ.ext {g : WG} {H : Heap} {a N : Nat} {f f' : Nat → Int64} (h : AJ g H a N f) (e : ∀ j, j < N → f j = f' j) : AJ g H a N f' := by
  unfold AJ at h ⊢
  rw [h, arrV_ext (fun j hj => by rw [e j hj])]
theorem AJ.same {g : WG} {H : Heap} {a N M : Nat} {f f' : Nat → Int64} (h : AJ g H a N f) (h' : AJ g H a M f') : N = M ∧ ∀ j, j < N → f j = f' j := by
  have e : arrV g.2.1 N (fun j => .long (f j)) = arrV g.2.1 M (fun j => .long (f' j)) := Option.some.inj (h.symm.trans h')
  have hN : N = M := by
    have := congrArg (fun c : Cell => c.slots.size) e
    simpa [arrV] using this
  subst hN
  refine ⟨rfl, fun j hj => ?_⟩
  have h1 := arrV_read g.2.1 (fun j => Value.long (f j)) hj
  rw [e, arrV_read g.2.1 (fun j => Value.long (f' j)) hj] at h1
  injection h1 with h2
  injection h2 with h3
  exact h3.symm
theorem AB.same {g : WG} {H : Heap} {a N M : Nat} {f f' : Nat → Int32} (h : AB g H a N f) (h' : AB g H a M f') : N = M ∧ ∀ j, j < N → f j = f' j := by
  have e : arrV g.2.2.1 N (fun j => .int (f j)) = arrV g.2.2.1 M (fun j => .int (f' j)) := Option.some.inj (h.symm.trans h')
  have hN : N = M := by
    have := congrArg (fun c : Cell => c.slots.size) e
    simpa [arrV] using this
  subst hN
  refine ⟨rfl, fun j hj => ?_⟩
  have h1 := arrV_read g.2.2.1 (fun j => Value.int (f j)) hj
  rw [e, arrV_read g.2.2.1 (fun j => Value.int (f' j)) hj] at h1
  injection h1 with h2
  injection h2 with h3
  exact h3.symm
theorem AB.ext {g : WG} {H : Heap} {a N : Nat} {f f' : Nat → Int32} (h : AB g H a N f) (e : ∀ j, j < N → f j = f' j) : AB g H a N f' := by
  unfold AB at h ⊢
  rw [h, arrV_ext (fun j hj => by rw [e j hj])]
theorem AJ.notAB {g : WG} {H : Heap} {a N M : Nat} {f : Nat → Int64} {f' : Nat → Int32} (h : AJ g H a N f) (hne : g.2.1 ≠ g.2.2.1) (h' : AB g H a M f') : False := by
  have e : arrV g.2.1 N (fun j => .long (f j)) = arrV g.2.2.1 M (fun j => .int (f' j)) := Option.some.inj (h.symm.trans h')
  exact hne (congrArg (fun c : Cell => c.cls) e)
/-- from H to H' nothing changed but the contents of arrays of longs, or of bytes, at places of S -/
def KJ (g : WG) (S : Nat → Prop) (H H' : Heap) : Prop := H'.size = H.size ∧ ∀ q, H'[q]? = H[q]? ∨ (S q ∧ ((∃ N f f', AJ g H q N f ∧ AJ g H' q N f') ∨ (g.2.1 ≠ g.2.2.1 ∧ ∃ N f f', AB g H q N f ∧ AB g H' q N f')))
theorem KJ.rf {g : WG} {S : Nat → Prop} {H : Heap} : KJ g S H H := ⟨rfl, fun _ => Or.inl rfl⟩
theorem KJ.mono {g : WG} {S S' : Nat → Prop} {H H' : Heap} (h : KJ g S H H') (hs : ∀ q, S q → S' q) : KJ g S' H H' := ⟨h.1, fun q => (h.2 q).imp id (fun ⟨a, b⟩ => ⟨hs q a, b⟩)⟩
theorem KJ.tr {g : WG} {S : Nat → Prop} {H H1 H2 : Heap} (h : KJ g S H H1) (h' : KJ g S H1 H2) : KJ g S H H2 := by
  refine ⟨h'.1.trans h.1, fun q => ?_⟩
  rcases h.2 q with a | ⟨a, b⟩ <;> rcases h'.2 q with c | ⟨c, d⟩
  · exact Or.inl (c.trans a)
  · refine Or.inr ⟨c, ?_⟩
    rcases d with ⟨M, k, k1, d1, d2⟩ | ⟨ne, M, k, k1, d1, d2⟩
    · exact Or.inl ⟨M, k, k1, by unfold AJ at d1 ⊢; rw [← a]; exact d1, d2⟩
    · exact Or.inr ⟨ne, M, k, k1, by unfold AB at d1 ⊢; rw [← a]; exact d1, d2⟩
  · refine Or.inr ⟨a, ?_⟩
    rcases b with ⟨N, f, f1, b1, b2⟩ | ⟨ne, N, f, f1, b1, b2⟩
    · exact Or.inl ⟨N, f, f1, b1, by unfold AJ at b2 ⊢; rw [c]; exact b2⟩
    · exact Or.inr ⟨ne, N, f, f1, b1, by unfold AB at b2 ⊢; rw [c]; exact b2⟩
  · refine Or.inr ⟨a, ?_⟩
    rcases b with ⟨N, f, f1, b1, b2⟩ | ⟨ne, N, f, f1, b1, b2⟩ <;> rcases d with ⟨M, k, k1, d1, d2⟩ | ⟨ne', M, k, k1, d1, d2⟩
    · obtain ⟨rfl, -⟩ := b2.same d1
      exact Or.inl ⟨N, f, k1, b1, d2⟩
    · exact (b2.notAB ne' d1).elim
    · exact (d1.notAB ne b2).elim
    · obtain ⟨rfl, -⟩ := b2.same d1
      exact Or.inr ⟨ne, N, f, k1, b1, d2⟩
theorem KJ.off {g : WG} {S : Nat → Prop} {H H' : Heap} (h : KJ g S H H') {q : Nat} (hq : ¬ S q) : H'[q]? = H[q]? := (h.2 q).elim id (fun a => absurd a.1 hq)
theorem KJ.aj {g : WG} {S : Nat → Prop} {H H' : Heap} (h : KJ g S H H') {a N : Nat} {f : Nat → Int64} (hA : AJ g H a N f) : ∃ f', AJ g H' a N f' := by
  rcases h.2 a with e | ⟨-, ⟨M, k, k1, d1, d2⟩ | ⟨ne, M, k, k1, d1, d2⟩⟩
  · exact ⟨f, by unfold AJ at hA ⊢; rw [e]; exact hA⟩
  · obtain ⟨rfl, -⟩ := hA.same d1
    exact ⟨k1, d2⟩
  · exact (hA.notAB ne d1).elim
theorem KJ.ajo {g : WG} {S : Nat → Prop} {H H' : Heap} (h : KJ g S H H') {a N : Nat} {f : Nat → Int64} (hq : ¬ S a) (hA : AJ g H a N f) : AJ g H' a N f := by
  unfold AJ at hA ⊢
  rw [h.off hq]
  exact hA
theorem KJ.abo {g : WG} {S : Nat → Prop} {H H' : Heap} (h : KJ g S H H') {a N : Nat} {f : Nat → Int32} (hq : ¬ S a) (hA : AB g H a N f) : AB g H' a N f := by
  unfold AB at hA ⊢
  rw [h.off hq]
  exact hA
/-- an array of 14 longs, one of those that may be written -/
def J14 (g : WG) (n0 : Nat → Prop) (H : Heap) (a : Nat) : Prop := n0 a ∧ ∃ f, AJ g H a 14 f
theorem KJ.j {g : WG} {S : Nat → Prop} {n0 : Nat → Prop} {H H' : Heap} (h : KJ g S H H') {a : Nat} (hA : J14 g n0 H a) : J14 g n0 H' a := ⟨hA.1, h.aj hA.2.choose_spec⟩
def ATS (g : WG) : List (ClassId × FieldType) := [(g.2.1, .long), (g.2.2.1, .byte), (g.2.2.2.1, .int), (g.2.2.2.2.1, .object "KateDesk$Point"), (g.2.2.2.2.2.1, .array .long), (g.2.2.2.2.2.2, .array .byte)]
theorem kw_ne {g : WG} {U : State} (hK : KW g U) {ci t : Nat} {r : vw_C} {cA : ClassId} {ty : FieldType} (hc : CL[ci]? = some r) (ht : (ATS g)[t]? = some (cA, ty)) : g.1.1 ci ≠ cA := by
  intro h
  obtain ⟨-, -, kC, hkC, hkind⟩ := hK.1.1 ci r hc
  obtain ⟨-, k, hk, cm, hkk⟩ := (hK.1.2 t _ ht).1 0 (fun _ => .null)
  have hk1 : U.vm.classes[cA]? = some k := hk
  rw [h] at hkC
  have e : kC = k := Option.some.inj (hkC.symm.trans hk1)
  rw [← e, hkind] at hkk
  exact absurd hkk (by simp)
theorem kw_neA {g : WG} {U : State} (hK : KW g U) {t t' : Nat} {cA cB : ClassId} {ty ty' : FieldType} (ht : (ATS g)[t]? = some (cA, ty)) (ht' : (ATS g)[t']? = some (cB, ty')) (hty : ty ≠ ty') : cA ≠ cB := by
  intro h
  obtain ⟨-, k, hk, cm, hkk⟩ := (hK.1.2 t' _ ht').1 0 (fun _ => .null)
  obtain ⟨-, k', hk', cm', hkk'⟩ := (hK.1.2 t _ ht).1 0 (fun _ => .null)
  have hk2 : U.vm.classes[cA]? = some k' := hk'
  have hk1 : U.vm.classes[cB]? = some k := hk
  rw [h] at hk2
  have e : k = k' := Option.some.inj (hk1.symm.trans hk2)
  subst e
  rw [hkk] at hkk'
  injection hkk' with e1 e2
  exact hty e2.symm
theorem KW.jb {g : WG} {U : State} (hK : KW g U) : g.2.1 ≠ g.2.2.1 := kw_neA hK (t := 0) (t' := 1) rfl rfl (by decide)
/-- a cell of another class stays -/
theorem KJ.cell {g : WG} {S : Nat → Prop} {H H' : Heap} (h : KJ g S H H') {a : Nat} {cell : Cell} (hc : H[a]? = some cell) (hne : cell.cls ≠ g.2.1) (hne2 : cell.cls ≠ g.2.2.1) : H'[a]? = some cell := by
  rcases h.2 a with e | ⟨-, ⟨N, f, f', d1, -⟩ | ⟨-, N, f, f', d1, -⟩⟩
  · rw [e]; exact hc
  · exfalso
    have e : cell = arrV g.2.1 N (fun j => .long (f j)) := Option.some.inj (hc.symm.trans d1)
    exact hne (by rw [e]; rfl)
  · exfalso
    have e : cell = arrV g.2.2.1 N (fun j => .int (f j)) := Option.some.inj (hc.symm.trans d1)
    exact hne2 (by rw [e]; rfl)
theorem KJ.ob {g : WG} {S : Nat → Prop} {H H' : Heap} {U : State} (h : KJ g S H H') (hK : KW g U) {a ci : Nat} {fs : List Value} (ho : OB g H a ci fs) : OB g H' a ci fs := by
  obtain ⟨r, hc, cell, h1, h2, h3⟩ := ho
  exact ⟨r, hc, cell, h.cell h1 (by rw [h2]; exact kw_ne hK (t := 0) hc rfl) (by rw [h2]; exact kw_ne hK (t := 1) hc rfl), h2, h3⟩
theorem KJ.ab {g : WG} {S : Nat → Prop} {H H' : Heap} (h : KJ g S H H') {a N : Nat} {f : Nat → Int32} (hA : AB g H a N f) (hne : g.2.1 ≠ g.2.2.1) : ∃ f', AB g H' a N f' := by
  rcases h.2 a with e | ⟨-, ⟨M, k, k1, d1, d2⟩ | ⟨ne, M, k, k1, d1, d2⟩⟩
  · exact ⟨f, by unfold AB at hA ⊢; rw [e]; exact hA⟩
  · exact (d1.notAB hne hA).elim
  · obtain ⟨rfl, -⟩ := hA.same d1
    exact ⟨k1, d2⟩
theorem KJ.arP {g : WG} {S : Nat → Prop} {H H' : Heap} {U : State} (h : KJ g S H H') (hK : KW g U) {a N : Nat} {f : Nat → Nat} (hA : AR g.2.2.2.2.1 H a N f) : AR g.2.2.2.2.1 H' a N f := h.cell hA (kw_neA hK (t := 3) (t' := 0) rfl rfl (by decide)) (kw_neA hK (t := 3) (t' := 1) rfl rfl (by decide))
theorem KJ.arJ {g : WG} {S : Nat → Prop} {H H' : Heap} {U : State} (h : KJ g S H H') (hK : KW g U) {a N : Nat} {f : Nat → Nat} (hA : AR g.2.2.2.2.2.1 H a N f) : AR g.2.2.2.2.2.1 H' a N f := h.cell hA (kw_neA hK (t := 4) (t' := 0) rfl rfl (by decide)) (kw_neA hK (t := 4) (t' := 1) rfl rfl (by decide))
theorem KJ.arB {g : WG} {S : Nat → Prop} {H H' : Heap} {U : State} (h : KJ g S H H') (hK : KW g U) {a N : Nat} {f : Nat → Nat} (hA : AR g.2.2.2.2.2.2 H a N f) : AR g.2.2.2.2.2.2 H' a N f := h.cell hA (kw_neA hK (t := 5) (t' := 0) rfl rfl (by decide)) (kw_neA hK (t := 5) (t' := 1) rfl rfl (by decide))
theorem KJ.w1 {g : WG} {n0 : Nat → Prop} {a : Nat} {H H' : Heap} (h : KJ g (fun q => q = a) H H') (ha : n0 a) : KJ g (fun q => n0 q) H H' := h.mono (fun q e => by rw [e]; exact ha)
theorem KJ.w2 {g : WG} {n0 : Nat → Prop} {a b : Nat} {H H' : Heap} (h : KJ g (fun q => q = a ∨ q = b) H H') (ha : n0 a) (hb : n0 b) : KJ g (fun q => n0 q) H H' := h.mono (fun q e => e.elim (fun e => by rw [e]; exact ha) (fun e => by rw [e]; exact hb))
theorem OB.recv {g : WG} {H : Heap} {U : State} (hK : KW g U) {a ci : Nat} {fs : List Value} {C : String} {T : u_T} {N : Nat} (hc : CL[ci]? = some (C, T, N)) (ho : OB g H a ci fs) : ∃ cell : Cell, H[a]? = some cell ∧ cell.vm.isStatics = false ∧ U.vm.findClass C = some cell.cls := by
  obtain ⟨r, hc', cell, h1, h2, h3, -⟩ := ho
  have hr : r = (C, T, N) := Option.some.inj (hc'.symm.trans hc)
  subst hr
  obtain ⟨-, hfc, -⟩ := hK.1.1 ci _ hc
  exact ⟨cell, h1, by rw [h3]; rfl, by rw [h2]; exact hfc⟩
/-- the answer of a contract, over heaps alone -/
def QcP (Qp : Option Value → Heap → Heap → Prop) : Array Value → State → Outcome → State → Prop := fun _ st oc t => ∃ r, oc = .returned r ∧ Qp r st.heap t.heap
def QV (Q' : Heap → Heap → Prop) : Option Value → Heap → Heap → Prop := fun v H H' => v = none ∧ Q' H H'
def QI (Q' : Int32 → Heap → Heap → Prop) : Option Value → Heap → Heap → Prop := fun v H H' => ∃ r, v = some (.int r) ∧ Q' r H H'
def QL (Q' : Int64 → Heap → Heap → Prop) : Option Value → Heap → Heap → Prop := fun v H H' => ∃ r, v = some (.long r) ∧ Q' r H H'
def QR (Q' : Nat → Heap → Heap → Prop) : Option Value → Heap → Heap → Prop := fun v H H' => ∃ r, v = some (.ref r) ∧ Q' r H H'
/-- a contract of this claim -/
def Ctr (l : Launch) (y : MethodName) (cw : Cond) (fr lo mc ms : Nat) (n0 : Nat → Prop) (g : WG) (av : List Value) (P : Heap → Prop) (Qp : Option Value → Heap → Heap → Prop) : Prop :=
  Met l y (cw :: BW) { frames := fr, cells := mc, slots := ms, locals := lo } (va_Pc av (fun U => KW g U ∧ P U.heap)) (QcP Qp) mc ms (fun q => n0 q)
/-- what a method's walk stands on -/
def EV (p : Program) (m : MethodId) (c : Code) (cc : ByteArray) (nL : Nat) (s : State) (args : Array Value) (own : String) (g : WG) : Prop :=
  p.tables.exec = Jvm.exec ∧ c.code = cc ∧ c.maxLocals = nL ∧ s.vm.findClass own = some m.cls ∧ (∀ w ∈ BW, w.before args s = true) ∧ KW g s
theorem ctr_mk (l : Launch) {y : MethodName} {cc : ByteArray} {nL : Nat} {ret : Option FieldType} {fr lo mc ms : Nat} {n0 : Nat → Prop} {g : WG} {av : List Value} {P : Heap → Prop} {Qp : Option Value → Heap → Heap → Prop} {lv0 : List (Nat × Value)}
    (hy : plainName y.cls = true) (hsz : (lg_sl av).length ≤ nL) (hlv : lv_args 0 av = lv0)
    (body : ∀ (p : Program) (e : Env) (s : State) (m : MethodId) (below : List Frame) (meth : Method) (c : Code) (ls : Array Slot), EV p m c cc nL s av.toArray y.cls g → meth.sig.returnType = ret → meth.locks = false → meth.name = y.name → lv_has ls nL lv0 → P s.heap →
      W p l e { frames := fr, cells := mc, slots := ms, locals := lo } s m av.toArray below meth c s.heap [] 0 0 (MQ below (QcP Qp) av.toArray s mc ms (fun q => n0 q)) (F0 m 0 ls [])) :
    Ctr l y (.code y cc nL ret) fr lo mc ms n0 g av P Qp := by
  refine Met.ofW (cc := cc) (maxL := nL) (ret := ret) hy rfl ?_
  intro p e s m args below meth c s₁ B hml hv
  obtain ⟨rfl, hK, hP⟩ := hv
  have hts := atoms_spec (ws := Cond.code y cc nL ret :: BW) B.pre
  have hl := lv_entry av (n := nL) hsz
  rw [lg_entry_eq]
  rw [hlv] at hl
  exact body p e s m below meth c _ ⟨B.exec, B.bytes, hml, findClass_of_methodNamed B.named, fun w hw => hts w (List.mem_cons_of_mem _ hw), hK⟩ B.returns B.notSynchronized (name_of_methodNamed B.named B.method).1 hl hP
section KR
variable {p : Program} {l : Launch} {e : Env} {R : Room} {s : State} {m : MethodId} {args : Array Value} {below : List Frame} {meth : Method} {c : Code} {H : Heap} {locs : List Loc} {cells slots : Nat} {Q : State → Prop}
variable {cc : ByteArray} {nL : Nat} {pc : Nat} {ls : Array Slot} {rest : List Value} {g : WG} {own : String} {n0 : Nat → Prop} {a : Nat}
theorem q_get {ref C : String} {T : u_T} {N ci index : Nat} (E : EV p m c cc nL s args own g) {fs : List Value} (ho : OB g H a ci fs) (hin : ∀ w ∈ u_ws C T N, w ∈ BW) (hc : CL[ci]? = some (C, T, N)) (k : Nat) (hk : k < N) (hl : Cond.fieldLink own index ref (T k).2.1 (T k).2.2.1 ∈ BW) (hsame : (T k).1 = ref) {v : Value} (hv : fs[k]? = some v) (hdg : decode cc pc = .ok (.getfield index, 3))
    (kk : W p l e R s m args below meth c H locs cells slots Q (F0 m (pc + 3) ls (v :: rest))) : W p l e R s m args below meth c H locs cells slots Q (F0 m pc ls (.ref a :: rest)) :=
  va_get (D := g.1) (cl := CL) (ws := [(a, .inr (ci, fs))]) (Ts := BW) E.1 E.2.1 E.2.2.2.2.1 hin E.2.2.2.1 E.2.2.2.2.2.1 (fun k q hq => by
    cases k with
    | zero => cases hq; exact ho
    | succ k => cases hq) 0 rfl hc k hk (E.2.2.2.2.1 _ hl) (fun x h => by rw [← hsame]; exact h) hv hdg kk
theorem q_lald (E : EV p m c cc nL s args own g) {N : Nat} {f : Nat → Int64} (hA : AJ g H a N f) {i : Int32} (k : Nat) (hi : i = nI k) (hk : k < N) (hN : N < 2 ^ 31) (hdg : decode cc pc = .ok (.laload, 1))
    (kk : W p l e R s m args below meth c H locs cells slots Q (F0 m (pc + 1) ls (.long (f k) :: rest))) : W p l e R s m args below meth c H locs cells slots Q (F0 m pc ls (.int i :: .ref a :: rest)) := by
  subst hi
  have hc : (nI k).toNatClampNeg = k := nI_clamp (Nat.lt_trans hk hN)
  exact W.lald (v := .long (f k)) E.1 E.2.1 hA ((E.2.2.2.2.2.1.2 0 _ rfl).1 N (fun j => .long (f j))) (fun q => by cases q) (by show ¬ (nI k < 0 ∨ (arrV _ _ _).slots.size ≤ _); rw [arrV_size]; exact nI_in hk hN) (by show (arrV _ _ _).slots[_]? = _; rw [hc, arrV_read _ _ hk]) rfl rfl hdg kk
theorem q_last (E : EV p m c cc nL s args own g) {N : Nat} {f : Nat → Int64} (hA : AJ g H a N f) (ha : n0 a) (hF : ∀ q ∈ locs, n0 q.base) {i : Int32} {x : Int64} (k : Nat) (hi : i = nI k) (hk : k < N) (hN : N < 2 ^ 31) (hdg : decode cc pc = .ok (.lastore, 1))
    (kk : ∀ (H' : Heap) (locs' : List Loc), KJ g (fun q => q = a) H H' → AJ g H' a N (vp_updL f k x) → (∀ q ∈ locs', n0 q.base) → W p l e R s m args below meth c H' locs' cells slots Q (F0 m (pc + 1) ls rest)) : W p l e R s m args below meth c H locs cells slots Q (F0 m pc ls (.long x :: .int i :: .ref a :: rest)) := by
  subst hi
  have hc : (nI k).toNatClampNeg = k := nI_clamp (Nat.lt_trans hk hN)
  refine W.last E.1 E.2.1 hA ((E.2.2.2.2.2.1.2 0 _ rfl).1 N (fun j => .long (f j))) (fun q => by cases q) (by show ¬ (nI k < 0 ∨ (arrV _ _ _).slots.size ≤ _); rw [arrV_size]; exact nI_in hk hN) rfl rfl hdg fun H1 e1 z oq => ?_
  have hA1 : AJ g H1 a N (vp_updL f k x) := by
    unfold AJ
    rw [e1, hc, arrV_store]
    congr 2
    funext q
    by_cases hq : q = k
    · subst hq
      simp [updV, vp_updL]
    · simp [updV, vp_updL, hq]
  refine kk H1 _ ⟨z, fun q => ?_⟩ hA1 (fun q hq => ?_)
  · by_cases h : q = a
    · subst h
      exact Or.inr ⟨rfl, Or.inl ⟨N, f, _, hA, hA1⟩⟩
    · exact Or.inl (oq q h)
  · rcases List.mem_append.mp hq with h | h
    · exact hF q h
    · rw [List.mem_singleton.mp h]
      exact ha
theorem q_laldS (E : EV p m c cc nL s args own g) (hA : J14 g n0 H a) {i : Int32} (k : Nat) (hi : i = nI k) (hk : k < 14) (hdg : decode cc pc = .ok (.laload, 1))
    (kk : ∀ v : Int64, W p l e R s m args below meth c H locs cells slots Q (F0 m (pc + 1) ls (.long v :: rest))) : W p l e R s m args below meth c H locs cells slots Q (F0 m pc ls (.int i :: .ref a :: rest)) := by
  obtain ⟨-, f, hf⟩ := hA
  exact q_lald E hf k hi hk (by decide) hdg (kk _)
theorem q_lastS (E : EV p m c cc nL s args own g) (hA : J14 g n0 H a) (hF : ∀ q ∈ locs, n0 q.base) {i : Int32} {x : Int64} (k : Nat) (hi : i = nI k) (hk : k < 14) (hdg : decode cc pc = .ok (.lastore, 1))
    (kk : ∀ (H' : Heap) (locs' : List Loc), KJ g (fun q => q = a) H H' → (∀ q ∈ locs', n0 q.base) → W p l e R s m args below meth c H' locs' cells slots Q (F0 m (pc + 1) ls rest)) : W p l e R s m args below meth c H locs cells slots Q (F0 m pc ls (.long x :: .int i :: .ref a :: rest)) := by
  obtain ⟨h0, f, hf⟩ := hA
  exact q_last E hf h0 hF k hi hk (by decide) hdg (fun H' locs' h1 _ h3 => kk H' locs' h1 h3)
theorem q_run {mc ms : Nat} {st0 : List Value} {Qp : Option Value → Heap → Heap → Prop} {av : Array Value} (hr : CallRun p l e R s m args below meth c H locs cells slots mc ms (F0 m pc ls st0) rest (QcP Qp av) (fun q => n0 q)) (hF : ∀ q ∈ locs, n0 q.base)
    (kk : ∀ (v : Option Value) (H' : Heap) (locs' : List Loc), Qp v H H' → (∀ q ∈ locs', n0 q.base) → W p l e R s m args below meth c H' locs' (cells + mc) (slots + ms) Q (F0 m (pc + 3) ls (v.toList ++ rest))) : W p l e R s m args below meth c H locs cells slots Q (F0 m pc ls st0) := by
  intro T hT X
  obtain ⟨v, st₀, t, T', L, h0, X', hL, e1, ⟨r, hr1, hq⟩, st⟩ := hr T hT X
  have hv : v = r := by injection hr1
  subst hv
  obtain ⟨t2, a1, b1⟩ := kk v t.heap (locs ++ L) (by rw [← h0]; exact hq) (fun q hq => (List.mem_append.mp hq).elim (hF q) (hL q)) T' e1 X'
  exact ⟨t2, st t2 a1, b1⟩
theorem q_pre {av : List Value} {P : Heap → Prop} (hK : KW g s) (hP : P H) : PreS s H (va_Pc av (fun U => KW g U ∧ P U.heap)) av :=
  ⟨fun a U g' mk q => by obtain ⟨q0, q1, q2⟩ := q; exact ⟨q0, KW.moved (u := U) (U := U.calling g' mk a) (Vm.Alike.refl U.vm) q1, q2⟩, fun U hU hW => ⟨rfl, KW.moved hW.alike hK, by rw [hU]; exact hP⟩⟩
theorem q_cb {index maxL fr lo mc ms : Nat} {y : MethodName} {bytes : ByteArray} {ret : Option FieldType} (E : EV p m c cc nL s args own g) (n : Nat) (hcw : Cond.code y bytes maxL ret ∈ BW) (hini : Cond.initialized y.cls ∈ BW) (hl : Cond.methodLink own index y ∈ BW)
    (hd : y.cls ≠ "java/lang/invoke/MethodHandle" ∧ y.cls ≠ "java/lang/invoke/VarHandle" ∧ (parseMethodDescriptor y.desc).map (fun d => d.parameters.length) = some n) (hR : fr + 1 ≤ R.frames ∧ 8 + (maxL + 11) + lo ≤ R.locals) :
    CallB R s args own index y bytes maxL ret (Cond.code y bytes maxL ret :: BW) { frames := fr, cells := mc, slots := ms, locals := lo } mc ms n :=
  callB_of (Ts := BW) n E.2.2.2.2.1 (fun w hw => by
    rcases List.mem_cons.mp hw with rfl | hw
    · exact ⟨hcw, good_of_word (bw_good _ hcw)⟩
    · exact ⟨hw, good_of_word (bw_good _ hw)⟩) rfl rfl rfl (E.2.2.2.2.1 _ hini) (E.2.2.2.2.1 _ hl) hd hR
/-- invokevirtual -/
theorem q_cV {index maxL fr lo mc ms n : Nat} {y : MethodName} {bytes : ByteArray} {ret : Option FieldType} {b : Nat} {As st0 : List Value} {P : Heap → Prop} {Qp : Option Value → Heap → Heap → Prop} (E : EV p m c cc nL s args own g)
    (hM : Ctr l y (.code y bytes maxL ret) fr lo mc ms n0 g (.ref b :: As) P Qp) (hcw : Cond.code y bytes maxL ret ∈ BW) (hini : Cond.initialized y.cls ∈ BW) (hl : Cond.methodLink own index y ∈ BW) (him : Cond.instanceMethod y ∈ BW) (hsel : Cond.selects y.cls y y ∈ BW)
    (hd : y.cls ≠ "java/lang/invoke/MethodHandle" ∧ y.cls ≠ "java/lang/invoke/VarHandle" ∧ (parseMethodDescriptor y.desc).map (fun d => d.parameters.length) = some n) (hn : As.length = n) (hR : fr + 1 ≤ R.frames ∧ 8 + (maxL + 11) + lo ≤ R.locals)
    (hrecv : ∃ cell : Cell, H[b]? = some cell ∧ cell.vm.isStatics = false ∧ s.vm.findClass y.cls = some cell.cls) (hP : P H) (hF : ∀ q ∈ locs, n0 q.base) (hls : ls.size = nL) (hst : st0 = As.reverse ++ .ref b :: rest) (hW : (rest.map fun v => v.category).sum ≤ 8) (hdg : decode cc pc = .ok (.invokevirtual index, 3)) (hf : cells + mc ≤ R.cells ∧ slots + ms ≤ R.slots)
    (kk : ∀ (v : Option Value) (H' : Heap) (locs' : List Loc), Qp v H H' → (∀ q ∈ locs', n0 q.base) → W p l e R s m args below meth c H' locs' (cells + mc) (slots + ms) Q (F0 m (pc + 3) ls (v.toList ++ rest))) : W p l e R s m args below meth c H locs cells slots Q (F0 m pc ls st0) := by
  have hpre := q_pre (H := H) (s := s) (av := .ref b :: As) E.2.2.2.2.2 hP
  exact q_run (W.runV (C := y.cls) (Ts := BW) ⟨E.1, E.2.1, E.2.2.1, E.2.2.2.1, E.2.2.2.2.1⟩ hM ⟨q_cb E n hcw hini hl hd hR, E.2.2.2.2.1 _ him, E.2.2.2.2.1 _ hsel⟩ ⟨hpre.1, hrecv, hpre.2⟩ rfl hn hls hst (lv_room hW) hdg hf) hF kk
/-- invokestatic -/
theorem q_cS {index maxL fr lo mc ms n : Nat} {y : MethodName} {bytes : ByteArray} {ret : Option FieldType} {As st0 : List Value} {P : Heap → Prop} {Qp : Option Value → Heap → Heap → Prop} (E : EV p m c cc nL s args own g)
    (hM : Ctr l y (.code y bytes maxL ret) fr lo mc ms n0 g As P Qp) (hcw : Cond.code y bytes maxL ret ∈ BW) (hini : Cond.initialized y.cls ∈ BW) (hl : Cond.methodLink own index y ∈ BW) (him : Cond.static y ∈ BW)
    (hd : y.cls ≠ "java/lang/invoke/MethodHandle" ∧ y.cls ≠ "java/lang/invoke/VarHandle" ∧ (parseMethodDescriptor y.desc).map (fun d => d.parameters.length) = some n) (hn : As.length = n) (hR : fr + 1 ≤ R.frames ∧ 8 + (maxL + 11) + lo ≤ R.locals)
    (hP : P H) (hF : ∀ q ∈ locs, n0 q.base) (hls : ls.size = nL) (hst : st0 = As.reverse ++ rest) (hW : (rest.map fun v => v.category).sum ≤ 8) (hdg : decode cc pc = .ok (.invokestatic index, 3)) (hf : cells + mc ≤ R.cells ∧ slots + ms ≤ R.slots)
    (kk : ∀ (v : Option Value) (H' : Heap) (locs' : List Loc), Qp v H H' → (∀ q ∈ locs', n0 q.base) → W p l e R s m args below meth c H' locs' (cells + mc) (slots + ms) Q (F0 m (pc + 3) ls (v.toList ++ rest))) : W p l e R s m args below meth c H locs cells slots Q (F0 m pc ls st0) :=
  q_run (W.runS (Ts := BW) ⟨E.1, E.2.1, E.2.2.1, E.2.2.2.1, E.2.2.2.2.1⟩ hM ⟨q_cb E n hcw hini hl hd hR, E.2.2.2.2.1 _ him⟩ (q_pre E.2.2.2.2.2 hP) rfl hn hls hst (lv_room hW) hdg hf) hF kk
/-- invokespecial of a constructor -/
theorem q_cI {index maxL fr lo mc ms n : Nat} {y : MethodName} {bytes : ByteArray} {b : Nat} {As st0 : List Value} {P : Heap → Prop} {Qp : Option Value → Heap → Heap → Prop} (E : EV p m c cc nL s args own g)
    (hM : Ctr l y (.code y bytes maxL none) fr lo mc ms n0 g (.ref b :: As) P Qp) (hcw : Cond.code y bytes maxL none ∈ BW) (hini : Cond.initialized y.cls ∈ BW) (hl : Cond.methodLink own index y ∈ BW) (him : Cond.instanceMethod y ∈ BW) (hyn : y.name = "<init>")
    (hd : y.cls ≠ "java/lang/invoke/MethodHandle" ∧ y.cls ≠ "java/lang/invoke/VarHandle" ∧ (parseMethodDescriptor y.desc).map (fun d => d.parameters.length) = some n) (hn : As.length = n) (hR : fr + 1 ≤ R.frames ∧ 8 + (maxL + 11) + lo ≤ R.locals)
    (hP : P H) (hF : ∀ q ∈ locs, n0 q.base) (hls : ls.size = nL) (hst : st0 = As.reverse ++ .ref b :: rest) (hW : (rest.map fun v => v.category).sum ≤ 8) (hdg : decode cc pc = .ok (.invokespecial index, 3)) (hf : cells + mc ≤ R.cells ∧ slots + ms ≤ R.slots)
    (kk : ∀ (v : Option Value) (H' : Heap) (locs' : List Loc), Qp v H H' → (∀ q ∈ locs', n0 q.base) → W p l e R s m args below meth c H' locs' (cells + mc) (slots + ms) Q (F0 m (pc + 3) ls (v.toList ++ rest))) : W p l e R s m args below meth c H locs cells slots Q (F0 m pc ls st0) :=
  q_run (W.runI (Ts := BW) ⟨E.1, E.2.1, E.2.2.1, E.2.2.2.1, E.2.2.2.2.1⟩ hM ⟨q_cb E n hcw hini hl hd hR, hyn, E.2.2.2.2.1 _ him⟩ (q_pre E.2.2.2.2.2 hP) rfl hn hls hst (lv_room hW) hdg hf) hF kk
theorem q_vret {Qp : Option Value → Heap → Heap → Prop} (E : EV p m c cc nL s args own g) (hr : meth.sig.returnType = none) (hlk : meth.locks = false) (hq : Qp none s.heap H) (hF : ∀ q ∈ locs, n0 q.base) (hdg : decode cc pc = .ok (.return_, 1)) : W p l e R s m args below meth c H locs cells slots (MQ below (QcP Qp) args s cells slots (fun q => n0 q)) (F0 m pc ls []) :=
  W.vret E.1 E.2.1 hr (fun t ht _ => ⟨none, rfl, by rw [ht]; exact hq⟩) hF hdg hlk
theorem q_iret {Qp : Option Value → Heap → Heap → Prop} {v : Int32} (E : EV p m c cc nL s args own g) (hr : meth.sig.returnType = some .int) (hlk : meth.locks = false) (hq : Qp (some (.int v)) s.heap H) (hF : ∀ q ∈ locs, n0 q.base) (hdg : decode cc pc = .ok (.ireturn, 1)) : W p l e R s m args below meth c H locs cells slots (MQ below (QcP Qp) args s cells slots (fun q => n0 q)) (F0 m pc ls [.int v]) :=
  W.iret E.1 E.2.1 hr (fun t ht _ => ⟨some (.int v), rfl, by rw [ht]; exact hq⟩) hF hdg hlk
theorem q_lret {Qp : Option Value → Heap → Heap → Prop} {v : Int64} (E : EV p m c cc nL s args own g) (hr : meth.sig.returnType = some .long) (hlk : meth.locks = false) (hq : Qp (some (.long v)) s.heap H) (hF : ∀ q ∈ locs, n0 q.base) (hdg : decode cc pc = .ok (.lreturn, 1)) : W p l e R s m args below meth c H locs cells slots (MQ below (QcP Qp) args s cells slots (fun q => n0 q)) (F0 m pc ls [.long v]) :=
  W.lret E.1 E.2.1 hr (fun t ht _ => ⟨some (.long v), rfl, by rw [ht]; exact hq⟩) hF hdg hlk
theorem q_zret {Qp : Option Value → Heap → Heap → Prop} {v : Int32} (E : EV p m c cc nL s args own g) (hr : meth.sig.returnType = some .boolean) (hv : narrow .boolean (.int v) = .int v) (hlk : meth.locks = false) (hq : Qp (some (.int v)) s.heap H) (hF : ∀ q ∈ locs, n0 q.base) (hdg : decode cc pc = .ok (.ireturn, 1)) : W p l e R s m args below meth c H locs cells slots (MQ below (QcP Qp) args s cells slots (fun q => n0 q)) (F0 m pc ls [.int v]) :=
  W.zret E.1 E.2.1 hr hv (fun t ht _ => ⟨some (.int v), rfl, by rw [ht]; exact hq⟩) hF hdg hlk
theorem qv {mcc mss : Nat} {Q' : Heap → Heap → Prop} (kk : ∀ (H' : Heap) (locs' : List Loc), Q' H H' → (∀ q ∈ locs', n0 q.base) → W p l e R s m args below meth c H' locs' mcc mss Q (F0 m pc ls rest)) : ∀ (v : Option Value) (H' : Heap) (locs' : List Loc), QV Q' v H H' → (∀ q ∈ locs', n0 q.base) → W p l e R s m args below meth c H' locs' mcc mss Q (F0 m pc ls (v.toList ++ rest)) := by
  rintro v H' locs' ⟨rfl, hq⟩ hF
  exact kk H' locs' hq hF
theorem qi {mcc mss : Nat} {Q' : Int32 → Heap → Heap → Prop} (kk : ∀ (r : Int32) (H' : Heap) (locs' : List Loc), Q' r H H' → (∀ q ∈ locs', n0 q.base) → W p l e R s m args below meth c H' locs' mcc mss Q (F0 m pc ls (.int r :: rest))) : ∀ (v : Option Value) (H' : Heap) (locs' : List Loc), QI Q' v H H' → (∀ q ∈ locs', n0 q.base) → W p l e R s m args below meth c H' locs' mcc mss Q (F0 m pc ls (v.toList ++ rest)) := by
  rintro v H' locs' ⟨r, rfl, hq⟩ hF
  exact kk r H' locs' hq hF
theorem ql {mcc mss : Nat} {Q' : Int64 → Heap → Heap → Prop} (kk : ∀ (r : Int64) (H' : Heap) (locs' : List Loc), Q' r H H' → (∀ q ∈ locs', n0 q.base) → W p l e R s m args below meth c H' locs' mcc mss Q (F0 m pc ls (.long r :: rest))) : ∀ (v : Option Value) (H' : Heap) (locs' : List Loc), QL Q' v H H' → (∀ q ∈ locs', n0 q.base) → W p l e R s m args below meth c H' locs' mcc mss Q (F0 m pc ls (v.toList ++ rest)) := by
  rintro v H' locs' ⟨r, rfl, hq⟩ hF
  exact kk r H' locs' hq hF
theorem qr {mcc mss : Nat} {Q' : Nat → Heap → Heap → Prop} (kk : ∀ (r : Nat) (H' : Heap) (locs' : List Loc), Q' r H H' → (∀ q ∈ locs', n0 q.base) → W p l e R s m args below meth c H' locs' mcc mss Q (F0 m pc ls (.ref r :: rest))) : ∀ (v : Option Value) (H' : Heap) (locs' : List Loc), QR Q' v H H' → (∀ q ∈ locs', n0 q.base) → W p l e R s m args below meth c H' locs' mcc mss Q (F0 m pc ls (v.toList ++ rest)) := by
  rintro v H' locs' ⟨r, rfl, hq⟩ hF
  exact kk r H' locs' hq hF
end KR
/-- a field: its six arrays and a number -/
def FD (g : WG) (n0 : Nat → Prop) (H : Heap) (o : Nat) (F : Nat → Nat) (mi : Int64) : Prop := OB g H o 1 [.ref (F 0), .ref (F 1), .ref (F 2), .ref (F 3), .ref (F 4), .ref (F 5), .long mi] ∧ ∀ k, k < 6 → J14 g n0 H (F k)
theorem KJ.fd {g : WG} {S : Nat → Prop} {n0 : Nat → Prop} {H H' : Heap} {U : State} (h : KJ g S H H') (hK : KW g U) {o : Nat} {F : Nat → Nat} {mi : Int64} (hf : FD g n0 H o F mi) : FD g n0 H' o F mi := ⟨h.ob hK hf.1, fun k hk => h.j (hf.2 k hk)⟩
/-- a point: its three arrays -/
def PT (g : WG) (n0 : Nat → Prop) (H : Heap) (o : Nat) (x y z : Nat) : Prop := OB g H o 2 [.ref x, .ref y, .ref z] ∧ J14 g n0 H x ∧ J14 g n0 H y ∧ J14 g n0 H z
theorem KJ.pt {g : WG} {S : Nat → Prop} {n0 : Nat → Prop} {H H' : Heap} {U : State} (h : KJ g S H H') (hK : KW g U) {o x y z : Nat} (hf : PT g n0 H o x y z) : PT g n0 H' o x y z := ⟨h.ob hK hf.1, h.j hf.2.1, h.j hf.2.2.1, h.j hf.2.2.2⟩
end
section

theorem i_inc (i : Nat) : nI i + Int32.ofInt 1 = nI (i + 1) := nI_1 i
theorem i_dec (x : Int32) : x + Int32.ofInt (-1) = x - 1 := by rw [Int32.sub_eq_add_neg]; rfl
section KR2
variable {p : Program} {l : Launch} {e : Env} {R : Room} {s : State} {m : MethodId} {args : Array Value} {below : List Frame} {meth : Method} {c : Code} {H : Heap} {locs : List Loc} {cells slots : Nat} {Q : State → Prop}
variable {cc : ByteArray} {nL : Nat} {pc : Nat} {ls : Array Slot} {rest : List Value} {g : WG} {own : String} {n0 : Nat → Prop} {a : Nat}
theorem q_alen (E : EV p m c cc nL s args own g) {N : Nat} {f : Nat → Int64} (hA : AJ g H a N f) (hdg : decode cc pc = .ok (.arraylength, 1))
    (kk : W p l e R s m args below meth c H locs cells slots Q (F0 m (pc + 1) ls (.int (nI N) :: rest))) : W p l e R s m args below meth c H locs cells slots Q (F0 m pc ls (.ref a :: rest)) :=
  W.alen E.1 E.2.1 hA ((E.2.2.2.2.2.1.2 0 _ rfl).1 N (fun j => .long (f j))) (by rw [arrV_size]; rfl) rfl rfl hdg kk
theorem q_alenB (E : EV p m c cc nL s args own g) {N : Nat} {f : Nat → Int32} (hA : AB g H a N f) (hdg : decode cc pc = .ok (.arraylength, 1))
    (kk : W p l e R s m args below meth c H locs cells slots Q (F0 m (pc + 1) ls (.int (nI N) :: rest))) : W p l e R s m args below meth c H locs cells slots Q (F0 m pc ls (.ref a :: rest)) :=
  W.alen E.1 E.2.1 hA ((E.2.2.2.2.2.1.2 1 _ rfl).1 N (fun j => .int (f j))) (by rw [arrV_size]; rfl) rfl rfl hdg kk
theorem q_aald (E : EV p m c cc nL s args own g) {t : Nat} {cA : ClassId} {ty : FieldType} (ht : (ATS g)[t]? = some (cA, ty)) (hty : ty.isReference = true) {N : Nat} {f : Nat → Nat} (hA : AR cA H a N f) {i : Int32} (k : Nat) (hi : i = nI k) (hk : k < N) (hN : N < 2 ^ 31) (hdg : decode cc pc = .ok (.aaload, 1))
    (kk : W p l e R s m args below meth c H locs cells slots Q (F0 m (pc + 1) ls (.ref (f k) :: rest))) : W p l e R s m args below meth c H locs cells slots Q (F0 m pc ls (.int i :: .ref a :: rest)) := by
  subst hi
  have hc : (nI k).toNatClampNeg = k := nI_clamp (Nat.lt_trans hk hN)
  exact W.aald (v := .ref (f k)) (ty := ty) E.1 E.2.1 hA ((E.2.2.2.2.2.1.2 t _ ht).1 N (fun j => .ref (f j))) hty (fun q => by cases q) (by show ¬ (nI k < 0 ∨ (arrV _ _ _).slots.size ≤ _); rw [arrV_size]; exact nI_in hk hN) (by show (arrV _ _ _).slots[_]? = _; rw [hc, arrV_read _ _ hk]) rfl rfl hdg kk
theorem q_bald (E : EV p m c cc nL s args own g) {N : Nat} {f : Nat → Int32} (hA : AB g H a N f) {i : Int32} (k : Nat) (hi : i = nI k) (hk : k < N) (hN : N < 2 ^ 31) (hdg : decode cc pc = .ok (.baload, 1))
    (kk : W p l e R s m args below meth c H locs cells slots Q (F0 m (pc + 1) ls (.int (f k) :: rest))) : W p l e R s m args below meth c H locs cells slots Q (F0 m pc ls (.int i :: .ref a :: rest)) := by
  subst hi
  have hc : (nI k).toNatClampNeg = k := nI_clamp (Nat.lt_trans hk hN)
  exact W.bald (v := .int (f k)) E.1 E.2.1 hA ((E.2.2.2.2.2.1.2 1 _ rfl).1 N (fun j => .int (f j))) (fun q => by cases q) (by show ¬ (nI k < 0 ∨ (arrV _ _ _).slots.size ≤ _); rw [arrV_size]; exact nI_in hk hN) (by show (arrV _ _ _).slots[_]? = _; rw [hc, arrV_read _ _ hk]) rfl rfl hdg kk
theorem q_bast (E : EV p m c cc nL s args own g) {N : Nat} {f : Nat → Int32} (hA : AB g H a N f) (ha : n0 a) (hF : ∀ q ∈ locs, n0 q.base) {i x : Int32} (k : Nat) (hi : i = nI k) (hk : k < N) (hN : N < 2 ^ 31) (hdg : decode cc pc = .ok (.bastore, 1))
    (kk : ∀ (H' : Heap) (locs' : List Loc), KJ g (fun q => q = a) H H' → AB g H' a N (upd f k (vp_nar .byte x)) → (∀ q ∈ locs', n0 q.base) → W p l e R s m args below meth c H' locs' cells slots Q (F0 m (pc + 1) ls rest)) : W p l e R s m args below meth c H locs cells slots Q (F0 m pc ls (.int x :: .int i :: .ref a :: rest)) := by
  subst hi
  have hc : (nI k).toNatClampNeg = k := nI_clamp (Nat.lt_trans hk hN)
  refine W.bast E.1 E.2.1 hA ((E.2.2.2.2.2.1.2 1 _ rfl).1 N (fun j => .int (f j))) (fun q => by cases q) (by show ¬ (nI k < 0 ∨ (arrV _ _ _).slots.size ≤ _); rw [arrV_size]; exact nI_in hk hN) rfl rfl hdg fun H1 e1 z oq => ?_
  have hA1 : AB g H1 a N (upd f k (vp_nar .byte x)) := by
    unfold AB
    rw [e1, hc, arrV_store]
    congr 2
    funext q
    by_cases hq : q = k
    · subst hq
      simp [updV, upd, vp_nar]
      try rfl
    · simp [updV, upd, hq]
  refine kk H1 _ ⟨z, fun q => if h : q = a then by subst h; exact Or.inr ⟨rfl, Or.inr ⟨E.2.2.2.2.2.jb, N, f, _, hA, hA1⟩⟩ else Or.inl (oq q h)⟩ hA1 (fun q hq => ?_)
  rcases List.mem_append.mp hq with h | h
  · exact hF q h
  · rw [List.mem_singleton.mp h]
    exact ha
/-- System.arraycopy(src, 0, dst, 0, 14) of two rows of 14 -/
theorem q_copy (E : EV p m c cc nL s args own g) {b : Nat} {f h : Nat → Int64} (hA : AJ g H b 14 f) (hB : AJ g H a 14 h) (ha : n0 a) (hF : ∀ q ∈ locs, n0 q.base) {index : Nat} (hlink : Cond.methodLink own index arraycopyName ∈ BW) (hls : ls.size = nL)
    (hframes : 1 ≤ R.frames) (hlocals : (rest.map fun v => v.category).sum + (nativeFrameWords "java/lang/System" "arraycopy" 5 + 11) ≤ R.locals) (hdg : decode cc pc = .ok (.invokestatic index, 3))
    (kk : ∀ (H' : Heap) (locs' : List Loc), KJ g (fun q => q = a) H H' → AJ g H' a 14 f → (∀ q ∈ locs', n0 q.base) → W p l e R s m args below meth c H' locs' cells slots Q (F0 m (pc + 3) ls rest)) : W p l e R s m args below meth c H locs cells slots Q (F0 m pc ls (.int (nI 14) :: .int (nI 0) :: .ref a :: .int (nI 0) :: .ref b :: rest)) := by
  obtain ⟨hexec, hb, hml, hown, hts, hK⟩ := E
  intro T hT X
  have c14 : (nI 14).toNatClampNeg = 14 := nI_clamp (by decide)
  have c0 : (nI 0).toNatClampNeg = 0 := nI_clamp (by decide)
  have hc0 : H[b]? = some (vp_cell g.2.1 (14, .inr (.inl f))) := hA
  have hc1 : H[a]? = some (vp_cell g.2.1 (14, .inr (.inl h))) := hB
  obtain ⟨-, k0, hk0, cm0, hkk0⟩ := (hK.1.2 0 _ rfl).1 14 (fun j => .long (f j))
  obtain ⟨-, k1, hk1, cm1, hkk1⟩ := (hK.1.2 0 _ rfl).1 14 (fun j => .long (h j))
  obtain ⟨vm', X', step⟩ := X.arraycopy hexec hown (hts _ hlink) (hts _ w_149) (hts _ w_148) (hts _ w_10) (src := b) (dst := a) (cs := vp_cell g.2.1 (14, .inr (.inl f))) (cd := vp_cell g.2.1 (14, .inr (.inl h))) (srcPos := nI 0) (destPos := nI 0) (n := nI 14) (by rw [hT]; exact hc0) (by rw [hT]; exact hc1)
    (fun _ h => by cases h) (fun _ h => by cases h) (fun h => by cases h) (fun h => by cases h) hk0 hk1 hkk0 hkk1 (by simp [refKind]) (by decide) (by decide) (by decide)
    (by show ¬ _ > ((arrV g.2.1 14 (fun j => .long (f j))).slots.size : Int); rw [arrV_size]; decide)
    (by show ¬ _ > ((arrV g.2.1 14 (fun j => .long (h j))).slots.size : Int); rw [arrV_size]; decide)
    (fun vm₁ _ i hi => by
      have e : (vp_cell g.2.1 (14, .inr (.inl f))).slots.getD ((nI 0).toNatClampNeg + i) .null = .long (f ((nI 0).toNatClampNeg + i)) := by
        show (arrV g.2.1 14 (fun j => .long (f j))).slots.getD _ _ = _
        rw [Array.getD_eq_getD_getElem?, arrV_read _ _ (by rw [c14] at hi; rw [c0]; omega)]
        rfl
      refine ⟨?_, ?_⟩
      · rw [e]
        rfl
      · rw [e]
        exact trivial)
    (g := F0 m pc ls (.int (nI 14) :: .int (nI 0) :: .ref a :: .int (nI 0) :: .ref b :: rest)) rfl (by rw [hml, ← hls]) (rest := rest) rfl (by rw [hb]; exact hdg) hframes (by show 2 * 0 + _ + _ ≤ _; omega)
  have e1 : copied (vp_cell g.2.1 (14, .inr (.inl f))) (vp_cell g.2.1 (14, .inr (.inl h))) (nI 0) (nI 0) (nI 14) = vp_cell g.2.1 (14, .inr (.inl f)) := by
    have e2 : copied (vp_cell g.2.1 (14, .inr (.inl f))) (vp_cell g.2.1 (14, .inr (.inl h))) (nI 0) (nI 0) (nI 14) = vp_cell g.2.1 (14, .inr (.inl (va_cpy f h (nI 0).toNatClampNeg (nI 0).toNatClampNeg (nI 14).toNatClampNeg))) := va_copied (fun z => .long z) g.2.1 g.2.1 f h (by rw [c0, c14]; exact Nat.le_refl _)
    refine e2.trans ?_
    rw [vp_cell_l, vp_cell_l]
    refine arrV_ext (fun j hj => ?_)
    rw [c0, c14]
    simp [va_cpy, hj]
  rw [e1] at X' step
  have hl : a < H.size := (Array.getElem?_eq_some_iff.mp hc1).1
  have hheap : ((T.setVm vm').setCell a (vp_cell g.2.1 (14, .inr (.inl f)))).heap = H.setIfInBounds a (vp_cell g.2.1 (14, .inr (.inl f))) := by rw [← hT]; rfl
  have oq : ∀ q : Nat, q ≠ a → (H.setIfInBounds a (vp_cell g.2.1 (14, .inr (.inl f))))[q]? = H[q]? := fun q hq => by simp [Array.getElem?_setIfInBounds, Ne.symm hq]
  have hA1 : AJ g (H.setIfInBounds a (vp_cell g.2.1 (14, .inr (.inl f)))) a 14 f := by
    show (H.setIfInBounds a _)[a]? = some _
    simp [Array.getElem?_setIfInBounds, hl]
    rfl
  obtain ⟨t, a1, b1⟩ := kk _ _ ⟨by simp, fun q => by
      by_cases hq : q = a
      · subst hq
        exact Or.inr ⟨rfl, Or.inl ⟨14, h, f, hB, hA1⟩⟩
      · exact Or.inl (oq q hq)⟩ hA1 (fun q hq => by
      rcases List.mem_append.mp hq with h | h
      · exact hF q h
      · obtain ⟨z, -, hz⟩ := List.mem_map.mp h
        rw [← hz]
        exact ha) _ hheap X'
  exact ⟨t, step t a1, b1⟩
end KR2
end
section
abbrev y_Arrays_fill1 : MethodName := ⟨"java/util/Arrays", "fill", "([JJ)V"⟩
theorem hd_Arrays_fill1 : y_Arrays_fill1.cls ≠ "java/lang/invoke/MethodHandle" ∧ y_Arrays_fill1.cls ≠ "java/lang/invoke/VarHandle" ∧ (parseMethodDescriptor y_Arrays_fill1.desc).map (fun d => d.parameters.length) = some 2 := by decide +kernel
theorem d_Arrays_fill1_0 : decode prog_23_method_101_code 0 = .ok (.iconst 0, 1) := by decide +kernel
theorem d_Arrays_fill1_1 : decode prog_23_method_101_code 1 = .ok (.istore_n 3, 1) := by decide +kernel
theorem d_Arrays_fill1_2 : decode prog_23_method_101_code 2 = .ok (.aload_n 0, 1) := by decide +kernel
theorem d_Arrays_fill1_3 : decode prog_23_method_101_code 3 = .ok (.arraylength, 1) := by decide +kernel
theorem d_Arrays_fill1_4 : decode prog_23_method_101_code 4 = .ok (.istore 4, 2) := by decide +kernel
theorem d_Arrays_fill1_6 : decode prog_23_method_101_code 6 = .ok (.iload_n 3, 1) := by decide +kernel
theorem d_Arrays_fill1_7 : decode prog_23_method_101_code 7 = .ok (.iload 4, 2) := by decide +kernel
theorem d_Arrays_fill1_9 : decode prog_23_method_101_code 9 = .ok (.if_icmp .ge 13, 3) := by decide +kernel
theorem d_Arrays_fill1_12 : decode prog_23_method_101_code 12 = .ok (.aload_n 0, 1) := by decide +kernel
theorem d_Arrays_fill1_13 : decode prog_23_method_101_code 13 = .ok (.iload_n 3, 1) := by decide +kernel
theorem d_Arrays_fill1_14 : decode prog_23_method_101_code 14 = .ok (.lload_n 1, 1) := by decide +kernel
theorem d_Arrays_fill1_15 : decode prog_23_method_101_code 15 = .ok (.lastore, 1) := by decide +kernel
theorem d_Arrays_fill1_16 : decode prog_23_method_101_code 16 = .ok (.iinc 3 1, 3) := by decide +kernel
theorem d_Arrays_fill1_19 : decode prog_23_method_101_code 19 = .ok (.goto (-13), 3) := by decide +kernel
theorem d_Arrays_fill1_22 : decode prog_23_method_101_code 22 = .ok (.return_, 1) := by decide +kernel
abbrev y_Limbs_clear : MethodName := ⟨"KateDesk$Limbs", "clear", "([J)V"⟩
theorem hd_Limbs_clear : y_Limbs_clear.cls ≠ "java/lang/invoke/MethodHandle" ∧ y_Limbs_clear.cls ≠ "java/lang/invoke/VarHandle" ∧ (parseMethodDescriptor y_Limbs_clear.desc).map (fun d => d.parameters.length) = some 1 := by decide +kernel
theorem d_Limbs_clear_0 : decode prog_5_method_4_code 0 = .ok (.aload_n 0, 1) := by decide +kernel
theorem d_Limbs_clear_1 : decode prog_5_method_4_code 1 = .ok (.lconst 0, 1) := by decide +kernel
theorem d_Limbs_clear_2 : decode prog_5_method_4_code 2 = .ok (.invokestatic 25, 3) := by decide +kernel
theorem d_Limbs_clear_5 : decode prog_5_method_4_code 5 = .ok (.return_, 1) := by decide +kernel
abbrev y_Limbs_copy : MethodName := ⟨"KateDesk$Limbs", "copy", "([J[J)V"⟩
theorem hd_Limbs_copy : y_Limbs_copy.cls ≠ "java/lang/invoke/MethodHandle" ∧ y_Limbs_copy.cls ≠ "java/lang/invoke/VarHandle" ∧ (parseMethodDescriptor y_Limbs_copy.desc).map (fun d => d.parameters.length) = some 2 := by decide +kernel
theorem d_Limbs_copy_0 : decode prog_5_method_5_code 0 = .ok (.aload_n 1, 1) := by decide +kernel
theorem d_Limbs_copy_1 : decode prog_5_method_5_code 1 = .ok (.iconst 0, 1) := by decide +kernel
theorem d_Limbs_copy_2 : decode prog_5_method_5_code 2 = .ok (.aload_n 0, 1) := by decide +kernel
theorem d_Limbs_copy_3 : decode prog_5_method_5_code 3 = .ok (.iconst 0, 1) := by decide +kernel
theorem d_Limbs_copy_4 : decode prog_5_method_5_code 4 = .ok (.bipush 14, 2) := by decide +kernel
theorem d_Limbs_copy_6 : decode prog_5_method_5_code 6 = .ok (.invokestatic 31, 3) := by decide +kernel
theorem d_Limbs_copy_9 : decode prog_5_method_5_code 9 = .ok (.return_, 1) := by decide +kernel
set_option maxHeartbeats 4000000 in
set_option maxRecDepth 100000 in
/-- every place becomes v -/
theorem c_Arrays_fill1 (l : Launch) (g : WG) (n0 : Nat → Prop) (a N : Nat) (v : Int64) (f : Nat → Int64) (hN : N < 2 ^ 31) : Ctr l y_Arrays_fill1 (.code y_Arrays_fill1 prog_23_method_101_code 5 none) 0 0 0 0 n0 g [.ref a, .long v] (fun H => n0 a ∧ AJ g H a N f) (QV (fun H H' => KJ g (fun q => q = a) H H' ∧ AJ g H' a N (fun _ => v))) := by
  refine ctr_mk l (lv0 := [(0, .ref a), (1, .long v)]) (by decide) (Nat.le_of_ble_eq_true rfl) rfl ?_
  intro p e s m below meth c ls E hr hlk hnm hl hP
  have hx := E.1
  have hb := E.2.1
  have hK := E.2.2.2.2.2
  have hF : ∀ q ∈ ([] : List Loc), n0 q.base := fun q hq => absurd hq List.not_mem_nil
  obtain ⟨ha, hA⟩ := hP
  have loop : ∀ (k : Nat) (i : Nat) (H : Heap) (locs : List Loc) (ls : Array Slot) (f : Nat → Int64), i + k = N → KJ g (fun q => q = a) s.heap H → AJ g H a N f → (∀ j, j < i → f j = v) → (∀ q ∈ locs, n0 q.base) → lv_has ls 5 [(3, .int (nI i)), (4, .int (nI N)), (0, .ref a), (1, .long v)] → W p l e { frames := 0, cells := 0, slots := 0, locals := 0 } s m [.ref a, .long v].toArray below meth c H locs 0 0 (MQ below (QcP (QV (fun H H' => KJ g (fun q => q = a) H H' ∧ AJ g H' a N (fun _ => v)))) [.ref a, .long v].toArray s 0 0 (fun q => n0 q)) (F0 m 6 ls []) := by
    intro k
    induction k with
    | zero =>
      intro  i   H   locs   ls   f hi hk hf hv hF hl
      obtain rfl : i = N := by omega
      refine lv_iload_n hx hb d_Arrays_fill1_6 rfl (lv_at hl 0 rfl) ?_
      refine lv_iload hx hb d_Arrays_fill1_7 (lv_at hl 1 rfl) ?_
      refine lv_icmp_ge (tgt := 22) hx hb d_Arrays_fill1_9 (by decide) (fun _ => ?_) (fun h9 => absurd (nI_le (Nat.le_refl _) hN) h9)
      exact q_vret E hr hlk (⟨rfl, hk, hf.ext (fun j hj => hv j hj)⟩) hF d_Arrays_fill1_22
    | succ k ih =>
      intro  i   H   locs   ls   f hi hk hf hv hF hl
      have hiN : i < N := by omega
      refine lv_iload_n hx hb d_Arrays_fill1_6 rfl (lv_at hl 0 rfl) ?_
      refine lv_iload hx hb d_Arrays_fill1_7 (lv_at hl 1 rfl) ?_
      refine lv_icmp_ge (tgt := 22) hx hb d_Arrays_fill1_9 (by decide) (fun h9 => absurd h9 (nI_ge hiN hN)) (fun _ => ?_)
      refine lv_aload_n hx hb d_Arrays_fill1_12 rfl (lv_at hl 2 rfl) ?_
      refine lv_iload_n hx hb d_Arrays_fill1_13 rfl (lv_at hl 0 rfl) ?_
      refine lv_lload_n hx hb d_Arrays_fill1_14 rfl (lv_at hl 3 rfl) ?_
      refine q_last E hf ha hF i rfl hiN hN d_Arrays_fill1_15 (fun H' locs' hq hf' hF => ?_)
      have hk := hk.tr hq
      refine lv_iinc (k := 0) (v := nI (i + 1)) (lv' := [(3, .int (nI (i + 1))), (4, .int (nI N)), (0, .ref a), (1, .long v)]) hx hb d_Arrays_fill1_16 hl rfl (i_inc i) (by decide) rfl (fun ls hl => ?_)
      refine lv_goto (tgt := 6) hx hb d_Arrays_fill1_19 (by decide) ?_
      have hl : lv_has ls 5 [(3, .int (nI (i + 1))), (4, .int (nI N)), (0, .ref a), (1, .long v)] := lv_sub hl [0, 1, 2, 3] rfl
      exact ih (i + 1) H' locs' ls _ (by omega) hk hf' (fun j hj => by
        by_cases e : j = i
        · subst e; simp [vp_updL]
        · simp only [vp_updL, e, if_false]; exact hv j (by omega)) hF hl
  refine lv_iconst (v := nI 0) hx hb d_Arrays_fill1_0 (by decide) ?_
  refine lv_istore_n (lv' := [(3, .int (nI 0)), (0, .ref a), (1, .long v)]) hx hb d_Arrays_fill1_1 rfl hl (by decide) rfl (fun ls hl => ?_)
  refine lv_aload_n hx hb d_Arrays_fill1_2 rfl (lv_at hl 1 rfl) ?_
  refine q_alen E hA d_Arrays_fill1_3 ?_
  refine lv_istore (lv' := [(4, .int (nI N)), (3, .int (nI 0)), (0, .ref a), (1, .long v)]) hx hb d_Arrays_fill1_4 hl (by decide) rfl (fun ls hl => ?_)
  have hl : lv_has ls 5 [(3, .int (nI 0)), (4, .int (nI N)), (0, .ref a), (1, .long v)] := lv_sub hl [1, 0, 2, 3] rfl
  exact loop N 0 s.heap [] ls f (by omega) KJ.rf hA (fun j hj => absurd hj (Nat.not_lt_zero _)) hF hl
set_option maxHeartbeats 4000000 in
set_option maxRecDepth 100000 in
/-- all 0 -/
theorem c_Limbs_clear (l : Launch) (g : WG) (n0 : Nat → Prop) (a : Nat) : Ctr l y_Limbs_clear (.code y_Limbs_clear prog_5_method_4_code 1 none) 1 24 0 0 n0 g [.ref a] (fun H => J14 g n0 H a) (QV (fun H H' => KJ g (fun q => q = a) H H' ∧ AJ g H' a 14 (fun _ => 0))) := by
  refine ctr_mk l (lv0 := [(0, .ref a)]) (by decide) (Nat.le_of_ble_eq_true rfl) rfl ?_
  intro p e s m below meth c ls E hr hlk hnm hl hP
  have hx := E.1
  have hb := E.2.1
  have hK := E.2.2.2.2.2
  have hF : ∀ q ∈ ([] : List Loc), n0 q.base := fun q hq => absurd hq List.not_mem_nil
  obtain ⟨ha, f, hA⟩ := hP
  refine lv_aload_n hx hb d_Limbs_clear_0 rfl (lv_at hl 0 rfl) ?_
  refine lv_lconst (v := 0) hx hb d_Limbs_clear_1 (by decide) ?_
  refine q_cS (rest := []) E (c_Arrays_fill1 l g n0 a 14 0 f (by decide)) w_501 w_21 w_499 w_500 hd_Arrays_fill1 rfl ⟨by decide, by decide⟩ (⟨ha, hA⟩) hF hl.1 rfl (Nat.le_of_ble_eq_true rfl) d_Limbs_clear_2 ⟨by decide, by decide⟩ (qv (fun H1 locs hq hF => ?_))
  exact q_vret E hr hlk (⟨rfl, hq⟩) hF d_Limbs_clear_5
set_option maxHeartbeats 4000000 in
set_option maxRecDepth 100000 in
/-- a gets what b holds -/
theorem c_Limbs_copy (l : Launch) (g : WG) (n0 : Nat → Prop) (a b : Nat) (f : Nat → Int64) : Ctr l y_Limbs_copy (.code y_Limbs_copy prog_5_method_5_code 2 none) 1 60 0 0 n0 g [.ref a, .ref b] (fun H => J14 g n0 H a ∧ AJ g H b 14 f) (QV (fun H H' => KJ g (fun q => q = a) H H' ∧ AJ g H' a 14 f)) := by
  refine ctr_mk l (lv0 := [(0, .ref a), (1, .ref b)]) (by decide) (Nat.le_of_ble_eq_true rfl) rfl ?_
  intro p e s m below meth c ls E hr hlk hnm hl hP
  have hx := E.1
  have hb := E.2.1
  have hK := E.2.2.2.2.2
  have hF : ∀ q ∈ ([] : List Loc), n0 q.base := fun q hq => absurd hq List.not_mem_nil
  obtain ⟨⟨ha, h, hA⟩, hB⟩ := hP
  refine lv_aload_n hx hb d_Limbs_copy_0 rfl (lv_at hl 1 rfl) ?_
  refine lv_iconst (v := nI 0) hx hb d_Limbs_copy_1 (by decide) ?_
  refine lv_aload_n hx hb d_Limbs_copy_2 rfl (lv_at hl 0 rfl) ?_
  refine lv_iconst (v := nI 0) hx hb d_Limbs_copy_3 (by decide) ?_
  refine lv_bipush (v := nI 14) hx hb d_Limbs_copy_4 (by decide) ?_
  refine q_copy E hB hA ha hF w_147 hl.1 (by decide) (by decide) d_Limbs_copy_6 (fun H1 locs hk hf hF => ?_)
  exact q_vret E hr hlk (⟨rfl, hk, hf⟩) hF d_Limbs_copy_9
end
section
abbrev y_Field_reduce : MethodName := ⟨"KateDesk$Field", "reduce", "([J)V"⟩
theorem hd_Field_reduce : y_Field_reduce.cls ≠ "java/lang/invoke/MethodHandle" ∧ y_Field_reduce.cls ≠ "java/lang/invoke/VarHandle" ∧ (parseMethodDescriptor y_Field_reduce.desc).map (fun d => d.parameters.length) = some 1 := by decide +kernel
theorem d_Field_reduce_0 : decode prog_3_method_7_code 0 = .ok (.bipush 13, 2) := by decide +kernel
theorem d_Field_reduce_2 : decode prog_3_method_7_code 2 = .ok (.istore_n 2, 1) := by decide +kernel
theorem d_Field_reduce_3 : decode prog_3_method_7_code 3 = .ok (.iload_n 2, 1) := by decide +kernel
theorem d_Field_reduce_4 : decode prog_3_method_7_code 4 = .ok (.ifCond .lt 39, 3) := by decide +kernel
theorem d_Field_reduce_7 : decode prog_3_method_7_code 7 = .ok (.aload_n 1, 1) := by decide +kernel
theorem d_Field_reduce_8 : decode prog_3_method_7_code 8 = .ok (.iload_n 2, 1) := by decide +kernel
theorem d_Field_reduce_9 : decode prog_3_method_7_code 9 = .ok (.laload, 1) := by decide +kernel
theorem d_Field_reduce_10 : decode prog_3_method_7_code 10 = .ok (.aload_n 0, 1) := by decide +kernel
theorem d_Field_reduce_11 : decode prog_3_method_7_code 11 = .ok (.getfield 31, 3) := by decide +kernel
theorem d_Field_reduce_14 : decode prog_3_method_7_code 14 = .ok (.iload_n 2, 1) := by decide +kernel
theorem d_Field_reduce_15 : decode prog_3_method_7_code 15 = .ok (.laload, 1) := by decide +kernel
theorem d_Field_reduce_16 : decode prog_3_method_7_code 16 = .ok (.lcmp, 1) := by decide +kernel
theorem d_Field_reduce_17 : decode prog_3_method_7_code 17 = .ok (.ifCond .ge 4, 3) := by decide +kernel
theorem d_Field_reduce_20 : decode prog_3_method_7_code 20 = .ok (.return_, 1) := by decide +kernel
theorem d_Field_reduce_21 : decode prog_3_method_7_code 21 = .ok (.aload_n 1, 1) := by decide +kernel
theorem d_Field_reduce_22 : decode prog_3_method_7_code 22 = .ok (.iload_n 2, 1) := by decide +kernel
theorem d_Field_reduce_23 : decode prog_3_method_7_code 23 = .ok (.laload, 1) := by decide +kernel
theorem d_Field_reduce_24 : decode prog_3_method_7_code 24 = .ok (.aload_n 0, 1) := by decide +kernel
theorem d_Field_reduce_25 : decode prog_3_method_7_code 25 = .ok (.getfield 31, 3) := by decide +kernel
theorem d_Field_reduce_28 : decode prog_3_method_7_code 28 = .ok (.iload_n 2, 1) := by decide +kernel
theorem d_Field_reduce_29 : decode prog_3_method_7_code 29 = .ok (.laload, 1) := by decide +kernel
theorem d_Field_reduce_30 : decode prog_3_method_7_code 30 = .ok (.lcmp, 1) := by decide +kernel
theorem d_Field_reduce_31 : decode prog_3_method_7_code 31 = .ok (.ifCond .le 6, 3) := by decide +kernel
theorem d_Field_reduce_34 : decode prog_3_method_7_code 34 = .ok (.goto 9, 3) := by decide +kernel
theorem d_Field_reduce_37 : decode prog_3_method_7_code 37 = .ok (.iinc 2 (-1), 3) := by decide +kernel
theorem d_Field_reduce_40 : decode prog_3_method_7_code 40 = .ok (.goto (-37), 3) := by decide +kernel
theorem d_Field_reduce_43 : decode prog_3_method_7_code 43 = .ok (.lconst 0, 1) := by decide +kernel
theorem d_Field_reduce_44 : decode prog_3_method_7_code 44 = .ok (.lstore_n 2, 1) := by decide +kernel
theorem d_Field_reduce_45 : decode prog_3_method_7_code 45 = .ok (.iconst 0, 1) := by decide +kernel
theorem d_Field_reduce_46 : decode prog_3_method_7_code 46 = .ok (.istore 4, 2) := by decide +kernel
theorem d_Field_reduce_48 : decode prog_3_method_7_code 48 = .ok (.iload 4, 2) := by decide +kernel
theorem d_Field_reduce_50 : decode prog_3_method_7_code 50 = .ok (.bipush 14, 2) := by decide +kernel
theorem d_Field_reduce_52 : decode prog_3_method_7_code 52 = .ok (.if_icmp .ge 38, 3) := by decide +kernel
theorem d_Field_reduce_55 : decode prog_3_method_7_code 55 = .ok (.lload_n 2, 1) := by decide +kernel
theorem d_Field_reduce_56 : decode prog_3_method_7_code 56 = .ok (.aload_n 1, 1) := by decide +kernel
theorem d_Field_reduce_57 : decode prog_3_method_7_code 57 = .ok (.iload 4, 2) := by decide +kernel
theorem d_Field_reduce_59 : decode prog_3_method_7_code 59 = .ok (.laload, 1) := by decide +kernel
theorem d_Field_reduce_60 : decode prog_3_method_7_code 60 = .ok (.aload_n 0, 1) := by decide +kernel
theorem d_Field_reduce_61 : decode prog_3_method_7_code 61 = .ok (.getfield 31, 3) := by decide +kernel
theorem d_Field_reduce_64 : decode prog_3_method_7_code 64 = .ok (.iload 4, 2) := by decide +kernel
theorem d_Field_reduce_66 : decode prog_3_method_7_code 66 = .ok (.laload, 1) := by decide +kernel
theorem d_Field_reduce_67 : decode prog_3_method_7_code 67 = .ok (.lsub, 1) := by decide +kernel
theorem d_Field_reduce_68 : decode prog_3_method_7_code 68 = .ok (.ladd, 1) := by decide +kernel
theorem d_Field_reduce_69 : decode prog_3_method_7_code 69 = .ok (.lstore_n 2, 1) := by decide +kernel
theorem d_Field_reduce_70 : decode prog_3_method_7_code 70 = .ok (.aload_n 1, 1) := by decide +kernel
theorem d_Field_reduce_71 : decode prog_3_method_7_code 71 = .ok (.iload 4, 2) := by decide +kernel
theorem d_Field_reduce_73 : decode prog_3_method_7_code 73 = .ok (.lload_n 2, 1) := by decide +kernel
theorem d_Field_reduce_74 : decode prog_3_method_7_code 74 = .ok (.ldc2_w 59, 3) := by decide +kernel
theorem d_Field_reduce_77 : decode prog_3_method_7_code 77 = .ok (.land, 1) := by decide +kernel
theorem d_Field_reduce_78 : decode prog_3_method_7_code 78 = .ok (.lastore, 1) := by decide +kernel
theorem d_Field_reduce_79 : decode prog_3_method_7_code 79 = .ok (.lload_n 2, 1) := by decide +kernel
theorem d_Field_reduce_80 : decode prog_3_method_7_code 80 = .ok (.bipush 28, 2) := by decide +kernel
theorem d_Field_reduce_82 : decode prog_3_method_7_code 82 = .ok (.lshr, 1) := by decide +kernel
theorem d_Field_reduce_83 : decode prog_3_method_7_code 83 = .ok (.lstore_n 2, 1) := by decide +kernel
theorem d_Field_reduce_84 : decode prog_3_method_7_code 84 = .ok (.iinc 4 1, 3) := by decide +kernel
theorem d_Field_reduce_87 : decode prog_3_method_7_code 87 = .ok (.goto (-39), 3) := by decide +kernel
theorem d_Field_reduce_90 : decode prog_3_method_7_code 90 = .ok (.return_, 1) := by decide +kernel
set_option maxHeartbeats 4000000 in
set_option maxRecDepth 100000 in
/-- reduce: only n is written -/
theorem c_Field_reduce (l : Launch) (g : WG) (n0 : Nat → Prop) (o n : Nat) (F : Nat → Nat) (mi : Int64) : Ctr l y_Field_reduce (.code y_Field_reduce prog_3_method_7_code 5 none) 0 0 0 0 n0 g [.ref o, .ref n] (fun H => FD g n0 H o F mi ∧ J14 g n0 H n) (QV (fun H H' => KJ g (fun q => q = n) H H')) := by
  refine ctr_mk l (lv0 := [(0, .ref o), (1, .ref n)]) (by decide) (Nat.le_of_ble_eq_true rfl) rfl ?_
  intro p e s m below meth c ls E hr hlk hnm hl hP
  have hx := E.1
  have hb := E.2.1
  have hK := E.2.2.2.2.2
  have hF : ∀ q ∈ ([] : List Loc), n0 q.base := fun q hq => absurd hq List.not_mem_nil
  obtain ⟨hfd, hn⟩ := hP
  have loop2 : ∀ (k i : Nat) (H : Heap) (locs : List Loc) (ls : Array Slot) (cr : Int64), i + k = 14 → KJ g (fun q => q = n) s.heap H → (∀ q ∈ locs, n0 q.base) → lv_has ls 5 [(4, .int (nI i)), (2, .long cr), (0, .ref o), (1, .ref n)] → W p l e { frames := 0, cells := 0, slots := 0, locals := 0 } s m [.ref o, .ref n].toArray below meth c H locs 0 0 (MQ below (QcP (QV (fun H H' => KJ g (fun q => q = n) H H'))) [.ref o, .ref n].toArray s 0 0 (fun q => n0 q)) (F0 m 48 ls []) := by
    intro k
    induction k with
    | zero =>
      intro i H locs ls cr hi hk hF hl
      obtain rfl : i = 14 := by omega
      refine lv_iload hx hb d_Field_reduce_48 (lv_at hl 0 rfl) ?_
      refine lv_bipush (v := nI 14) hx hb d_Field_reduce_50 (by decide) ?_
      refine lv_icmp_ge (tgt := 90) hx hb d_Field_reduce_52 (by decide) (fun _ => ?_) (fun h9 => absurd (by decide) h9)
      exact q_vret E hr hlk (⟨rfl, hk⟩) hF d_Field_reduce_90
    | succ k ih =>
      intro i H locs ls cr hi hk hF hl
      have hi14 : i < 14 := by omega
      refine lv_iload hx hb d_Field_reduce_48 (lv_at hl 0 rfl) ?_
      refine lv_bipush (v := nI 14) hx hb d_Field_reduce_50 (by decide) ?_
      refine lv_icmp_ge (tgt := 90) hx hb d_Field_reduce_52 (by decide) (fun h9 => absurd h9 (nI_ge hi14 (by decide))) (fun _ => ?_)
      refine lv_lload_n hx hb d_Field_reduce_55 rfl (lv_at hl 1 rfl) ?_
      refine lv_aload_n hx hb d_Field_reduce_56 rfl (lv_at hl 3 rfl) ?_
      refine lv_iload hx hb d_Field_reduce_57 (lv_at hl 0 rfl) ?_
      refine q_laldS E (hk.j hn) i rfl hi14 d_Field_reduce_59 (fun v1 => ?_)
      refine lv_aload_n hx hb d_Field_reduce_60 rfl (lv_at hl 2 rfl) ?_
      refine q_get (C := "KateDesk$Field") (T := T_Field) (N := 7) (ci := 1) E ((hk.fd hK hfd).1) in_Field rfl 0 (by decide) w_170 rfl rfl d_Field_reduce_61 ?_
      refine lv_iload hx hb d_Field_reduce_64 (lv_at hl 0 rfl) ?_
      refine q_laldS E ((hk.fd hK hfd).2 0 (by decide)) i rfl hi14 d_Field_reduce_66 (fun v2 => ?_)
      refine lv_lsub hx hb d_Field_reduce_67 ?_
      refine lv_ladd hx hb d_Field_reduce_68 ?_
      refine lv_topl (fun v3 _ => ?_)
      refine lv_lstore_n (lv' := [(2, .long v3), (4, .int (nI i)), (0, .ref o), (1, .ref n)]) hx hb d_Field_reduce_69 rfl hl (by decide) rfl (fun ls hl => ?_)
      refine lv_aload_n hx hb d_Field_reduce_70 rfl (lv_at hl 3 rfl) ?_
      refine lv_iload hx hb d_Field_reduce_71 (lv_at hl 1 rfl) ?_
      refine lv_lload_n hx hb d_Field_reduce_73 rfl (lv_at hl 0 rfl) ?_
      refine lv_ldc2 (v := 268435455) hx hb E.2.2.2.1 (E.2.2.2.2.1 _ w_143) d_Field_reduce_74 ?_
      refine lv_land hx hb d_Field_reduce_77 ?_
      refine q_lastS E (hk.j hn) hF i rfl hi14 d_Field_reduce_78 (fun H1 locs hq hF => ?_)
      have hk := hk.tr hq
      refine lv_lload_n hx hb d_Field_reduce_79 rfl (lv_at hl 0 rfl) ?_
      refine lv_bipush (v := nI 28) hx hb d_Field_reduce_80 (by decide) ?_
      refine lv_lshr (v := v3 >>> ((nI 28).toInt64 &&& 63)) hx hb d_Field_reduce_82 rfl ?_
      refine lv_topl (fun v4 _ => ?_)
      refine lv_lstore_n (lv' := [(2, .long v4), (4, .int (nI i)), (0, .ref o), (1, .ref n)]) hx hb d_Field_reduce_83 rfl hl (by decide) rfl (fun ls hl => ?_)
      refine lv_iinc (k := 1) (v := nI (i + 1)) (lv' := [(4, .int (nI (i + 1))), (2, .long v4), (0, .ref o), (1, .ref n)]) hx hb d_Field_reduce_84 hl rfl (i_inc i) (by decide) rfl (fun ls hl => ?_)
      refine lv_goto (tgt := 48) hx hb d_Field_reduce_87 (by decide) ?_
      have hl : lv_has ls 5 [(4, .int (nI (i + 1))), (2, .long v4), (0, .ref o), (1, .ref n)] := lv_sub hl [0, 1, 2, 3] rfl
      exact ih (i + 1) H1 locs ls _ (by omega) hk hF hl
  have tail : ∀ (ls : Array Slot) (x : Int32), lv_has ls 5 [(2, .int x), (0, .ref o), (1, .ref n)] → W p l e { frames := 0, cells := 0, slots := 0, locals := 0 } s m [.ref o, .ref n].toArray below meth c s.heap [] 0 0 (MQ below (QcP (QV (fun H H' => KJ g (fun q => q = n) H H'))) [.ref o, .ref n].toArray s 0 0 (fun q => n0 q)) (F0 m 43 ls []) := by
    intro ls x hl
    refine lv_lconst (v := 0) hx hb d_Field_reduce_43 (by decide) ?_
    refine lv_lstore_n (lv' := [(2, .long 0), (0, .ref o), (1, .ref n)]) hx hb d_Field_reduce_44 rfl hl (by decide) rfl (fun ls hl => ?_)
    refine lv_iconst (v := nI 0) hx hb d_Field_reduce_45 (by decide) ?_
    refine lv_istore (lv' := [(4, .int (nI 0)), (2, .long 0), (0, .ref o), (1, .ref n)]) hx hb d_Field_reduce_46 hl (by decide) rfl (fun ls hl => ?_)
    have hl : lv_has ls 5 [(4, .int (nI 0)), (2, .long 0), (0, .ref o), (1, .ref n)] := lv_sub hl [0, 1, 2, 3] rfl
    exact loop2 14 0 s.heap [] ls 0 rfl KJ.rf hF hl
  have loop1 : ∀ (k : Nat) (ls : Array Slot) (x : Int32), k ≤ 14 → x = nI k - 1 → lv_has ls 5 [(2, .int x), (0, .ref o), (1, .ref n)] → W p l e { frames := 0, cells := 0, slots := 0, locals := 0 } s m [.ref o, .ref n].toArray below meth c s.heap [] 0 0 (MQ below (QcP (QV (fun H H' => KJ g (fun q => q = n) H H'))) [.ref o, .ref n].toArray s 0 0 (fun q => n0 q)) (F0 m 3 ls []) := by
    intro k
    induction k with
    | zero =>
      intro ls x _ hxx hl
      subst hxx
      refine lv_iload_n hx hb d_Field_reduce_3 rfl (lv_at hl 0 rfl) ?_
      refine lv_if_lt (tgt := 43) hx hb d_Field_reduce_4 (by decide) (fun _ => ?_) (fun h9 => absurd (by decide) h9)
      exact tail ls _ hl
    | succ k ih =>
      intro ls x hk14 hxx hl
      rw [nI_pred] at hxx
      subst hxx
      refine lv_iload_n hx hb d_Field_reduce_3 rfl (lv_at hl 0 rfl) ?_
      refine lv_if_lt (tgt := 43) hx hb d_Field_reduce_4 (by decide) (fun h9 => absurd h9 (nI_pos (by omega))) (fun _ => ?_)
      refine lv_aload_n hx hb d_Field_reduce_7 rfl (lv_at hl 2 rfl) ?_
      refine lv_iload_n hx hb d_Field_reduce_8 rfl (lv_at hl 0 rfl) ?_
      refine q_laldS E hn k rfl (by omega) d_Field_reduce_9 (fun v1 => ?_)
      refine lv_aload_n hx hb d_Field_reduce_10 rfl (lv_at hl 1 rfl) ?_
      refine q_get (C := "KateDesk$Field") (T := T_Field) (N := 7) (ci := 1) E hfd.1 in_Field rfl 0 (by decide) w_170 rfl rfl d_Field_reduce_11 ?_
      refine lv_iload_n hx hb d_Field_reduce_14 rfl (lv_at hl 0 rfl) ?_
      refine q_laldS E (hfd.2 0 (by decide)) k rfl (by omega) d_Field_reduce_15 (fun v2 => ?_)
      refine W.lcmp hx hb d_Field_reduce_16 ?_
      refine lv_if_ge (tgt := 21) hx hb d_Field_reduce_17 (by decide) (fun h => ?_) (fun h => ?_)
      rotate_left
      · skip
        exact q_vret E hr hlk (⟨rfl, KJ.rf⟩) hF d_Field_reduce_20
      refine lv_aload_n hx hb d_Field_reduce_21 rfl (lv_at hl 2 rfl) ?_
      refine lv_iload_n hx hb d_Field_reduce_22 rfl (lv_at hl 0 rfl) ?_
      refine q_laldS E hn k rfl (by omega) d_Field_reduce_23 (fun v3 => ?_)
      refine lv_aload_n hx hb d_Field_reduce_24 rfl (lv_at hl 1 rfl) ?_
      refine q_get (C := "KateDesk$Field") (T := T_Field) (N := 7) (ci := 1) E hfd.1 in_Field rfl 0 (by decide) w_170 rfl rfl d_Field_reduce_25 ?_
      refine lv_iload_n hx hb d_Field_reduce_28 rfl (lv_at hl 0 rfl) ?_
      refine q_laldS E (hfd.2 0 (by decide)) k rfl (by omega) d_Field_reduce_29 (fun v4 => ?_)
      refine W.lcmp hx hb d_Field_reduce_30 ?_
      refine lv_if_le (tgt := 37) hx hb d_Field_reduce_31 (by decide) (fun h => ?_) (fun h => ?_)
      rotate_left
      · skip
        refine lv_goto (tgt := 43) hx hb d_Field_reduce_34 (by decide) ?_
        exact tail ls _ hl
      refine lv_iinc (k := 0) (v := nI k - 1) (lv' := [(2, .int (nI k - 1)), (0, .ref o), (1, .ref n)]) hx hb d_Field_reduce_37 hl rfl (i_dec (nI k)) (by decide) rfl (fun ls hl => ?_)
      refine lv_goto (tgt := 3) hx hb d_Field_reduce_40 (by decide) ?_
      exact ih ls _ (by omega) rfl hl
  refine lv_bipush (v := nI 13) hx hb d_Field_reduce_0 (by decide) ?_
  refine lv_istore_n (lv' := [(2, .int (nI 13)), (0, .ref o), (1, .ref n)]) hx hb d_Field_reduce_2 rfl hl (by decide) rfl (fun ls hl => ?_)
  exact loop1 14 ls _ (by decide) (by decide) hl
end
section
theorem zsr (x : Int64) : (0 : Int64) >>> x = 0 := by simp
theorem zsl (x : Int64) : (0 : Int64) ||| ((0 : Int64) <<< x) = 0 := by simp
theorem zan (x : Int64) : (0 : Int64) &&& x = 0 := by simp
theorem kd_cmp_lt {x y : Int64} (h : x < y) : lg_cmp x y = -1 := by unfold lg_cmp; rw [if_neg (Int64.not_lt.mpr (Int64.le_of_lt h)), if_neg (fun q => by subst q; exact absurd h (Int64.lt_irrefl))]
abbrev y_Limbs_isZero : MethodName := ⟨"KateDesk$Limbs", "isZero", "([J)Z"⟩
theorem hd_Limbs_isZero : y_Limbs_isZero.cls ≠ "java/lang/invoke/MethodHandle" ∧ y_Limbs_isZero.cls ≠ "java/lang/invoke/VarHandle" ∧ (parseMethodDescriptor y_Limbs_isZero.desc).map (fun d => d.parameters.length) = some 1 := by decide +kernel
theorem d_Limbs_isZero_0 : decode prog_5_method_6_code 0 = .ok (.iconst 0, 1) := by decide +kernel
theorem d_Limbs_isZero_1 : decode prog_5_method_6_code 1 = .ok (.istore_n 1, 1) := by decide +kernel
theorem d_Limbs_isZero_2 : decode prog_5_method_6_code 2 = .ok (.iload_n 1, 1) := by decide +kernel
theorem d_Limbs_isZero_3 : decode prog_5_method_6_code 3 = .ok (.bipush 14, 2) := by decide +kernel
theorem d_Limbs_isZero_5 : decode prog_5_method_6_code 5 = .ok (.if_icmp .ge 19, 3) := by decide +kernel
theorem d_Limbs_isZero_8 : decode prog_5_method_6_code 8 = .ok (.aload_n 0, 1) := by decide +kernel
theorem d_Limbs_isZero_9 : decode prog_5_method_6_code 9 = .ok (.iload_n 1, 1) := by decide +kernel
theorem d_Limbs_isZero_10 : decode prog_5_method_6_code 10 = .ok (.laload, 1) := by decide +kernel
theorem d_Limbs_isZero_11 : decode prog_5_method_6_code 11 = .ok (.lconst 0, 1) := by decide +kernel
theorem d_Limbs_isZero_12 : decode prog_5_method_6_code 12 = .ok (.lcmp, 1) := by decide +kernel
theorem d_Limbs_isZero_13 : decode prog_5_method_6_code 13 = .ok (.ifCond .eq 5, 3) := by decide +kernel
theorem d_Limbs_isZero_16 : decode prog_5_method_6_code 16 = .ok (.iconst 0, 1) := by decide +kernel
theorem d_Limbs_isZero_17 : decode prog_5_method_6_code 17 = .ok (.ireturn, 1) := by decide +kernel
theorem d_Limbs_isZero_18 : decode prog_5_method_6_code 18 = .ok (.iinc 1 1, 3) := by decide +kernel
theorem d_Limbs_isZero_21 : decode prog_5_method_6_code 21 = .ok (.goto (-19), 3) := by decide +kernel
theorem d_Limbs_isZero_24 : decode prog_5_method_6_code 24 = .ok (.iconst 1, 1) := by decide +kernel
theorem d_Limbs_isZero_25 : decode prog_5_method_6_code 25 = .ok (.ireturn, 1) := by decide +kernel
abbrev y_Limbs_equal : MethodName := ⟨"KateDesk$Limbs", "equal", "([J[J)Z"⟩
theorem hd_Limbs_equal : y_Limbs_equal.cls ≠ "java/lang/invoke/MethodHandle" ∧ y_Limbs_equal.cls ≠ "java/lang/invoke/VarHandle" ∧ (parseMethodDescriptor y_Limbs_equal.desc).map (fun d => d.parameters.length) = some 2 := by decide +kernel
theorem d_Limbs_equal_0 : decode prog_5_method_7_code 0 = .ok (.iconst 0, 1) := by decide +kernel
theorem d_Limbs_equal_1 : decode prog_5_method_7_code 1 = .ok (.istore_n 2, 1) := by decide +kernel
theorem d_Limbs_equal_2 : decode prog_5_method_7_code 2 = .ok (.iload_n 2, 1) := by decide +kernel
theorem d_Limbs_equal_3 : decode prog_5_method_7_code 3 = .ok (.bipush 14, 2) := by decide +kernel
theorem d_Limbs_equal_5 : decode prog_5_method_7_code 5 = .ok (.if_icmp .ge 21, 3) := by decide +kernel
theorem d_Limbs_equal_8 : decode prog_5_method_7_code 8 = .ok (.aload_n 0, 1) := by decide +kernel
theorem d_Limbs_equal_9 : decode prog_5_method_7_code 9 = .ok (.iload_n 2, 1) := by decide +kernel
theorem d_Limbs_equal_10 : decode prog_5_method_7_code 10 = .ok (.laload, 1) := by decide +kernel
theorem d_Limbs_equal_11 : decode prog_5_method_7_code 11 = .ok (.aload_n 1, 1) := by decide +kernel
theorem d_Limbs_equal_12 : decode prog_5_method_7_code 12 = .ok (.iload_n 2, 1) := by decide +kernel
theorem d_Limbs_equal_13 : decode prog_5_method_7_code 13 = .ok (.laload, 1) := by decide +kernel
theorem d_Limbs_equal_14 : decode prog_5_method_7_code 14 = .ok (.lcmp, 1) := by decide +kernel
theorem d_Limbs_equal_15 : decode prog_5_method_7_code 15 = .ok (.ifCond .eq 5, 3) := by decide +kernel
theorem d_Limbs_equal_18 : decode prog_5_method_7_code 18 = .ok (.iconst 0, 1) := by decide +kernel
theorem d_Limbs_equal_19 : decode prog_5_method_7_code 19 = .ok (.ireturn, 1) := by decide +kernel
theorem d_Limbs_equal_20 : decode prog_5_method_7_code 20 = .ok (.iinc 2 1, 3) := by decide +kernel
theorem d_Limbs_equal_23 : decode prog_5_method_7_code 23 = .ok (.goto (-21), 3) := by decide +kernel
theorem d_Limbs_equal_26 : decode prog_5_method_7_code 26 = .ok (.iconst 1, 1) := by decide +kernel
theorem d_Limbs_equal_27 : decode prog_5_method_7_code 27 = .ok (.ireturn, 1) := by decide +kernel
abbrev y_Limbs_less : MethodName := ⟨"KateDesk$Limbs", "less", "([J[J)Z"⟩
theorem hd_Limbs_less : y_Limbs_less.cls ≠ "java/lang/invoke/MethodHandle" ∧ y_Limbs_less.cls ≠ "java/lang/invoke/VarHandle" ∧ (parseMethodDescriptor y_Limbs_less.desc).map (fun d => d.parameters.length) = some 2 := by decide +kernel
theorem d_Limbs_less_0 : decode prog_5_method_8_code 0 = .ok (.bipush 13, 2) := by decide +kernel
theorem d_Limbs_less_2 : decode prog_5_method_8_code 2 = .ok (.istore_n 2, 1) := by decide +kernel
theorem d_Limbs_less_3 : decode prog_5_method_8_code 3 = .ok (.iload_n 2, 1) := by decide +kernel
theorem d_Limbs_less_4 : decode prog_5_method_8_code 4 = .ok (.ifCond .lt 35, 3) := by decide +kernel
theorem d_Limbs_less_7 : decode prog_5_method_8_code 7 = .ok (.aload_n 0, 1) := by decide +kernel
theorem d_Limbs_less_8 : decode prog_5_method_8_code 8 = .ok (.iload_n 2, 1) := by decide +kernel
theorem d_Limbs_less_9 : decode prog_5_method_8_code 9 = .ok (.laload, 1) := by decide +kernel
theorem d_Limbs_less_10 : decode prog_5_method_8_code 10 = .ok (.aload_n 1, 1) := by decide +kernel
theorem d_Limbs_less_11 : decode prog_5_method_8_code 11 = .ok (.iload_n 2, 1) := by decide +kernel
theorem d_Limbs_less_12 : decode prog_5_method_8_code 12 = .ok (.laload, 1) := by decide +kernel
theorem d_Limbs_less_13 : decode prog_5_method_8_code 13 = .ok (.lcmp, 1) := by decide +kernel
theorem d_Limbs_less_14 : decode prog_5_method_8_code 14 = .ok (.ifCond .eq 19, 3) := by decide +kernel
theorem d_Limbs_less_17 : decode prog_5_method_8_code 17 = .ok (.aload_n 0, 1) := by decide +kernel
theorem d_Limbs_less_18 : decode prog_5_method_8_code 18 = .ok (.iload_n 2, 1) := by decide +kernel
theorem d_Limbs_less_19 : decode prog_5_method_8_code 19 = .ok (.laload, 1) := by decide +kernel
theorem d_Limbs_less_20 : decode prog_5_method_8_code 20 = .ok (.aload_n 1, 1) := by decide +kernel
theorem d_Limbs_less_21 : decode prog_5_method_8_code 21 = .ok (.iload_n 2, 1) := by decide +kernel
theorem d_Limbs_less_22 : decode prog_5_method_8_code 22 = .ok (.laload, 1) := by decide +kernel
theorem d_Limbs_less_23 : decode prog_5_method_8_code 23 = .ok (.lcmp, 1) := by decide +kernel
theorem d_Limbs_less_24 : decode prog_5_method_8_code 24 = .ok (.ifCond .ge 7, 3) := by decide +kernel
theorem d_Limbs_less_27 : decode prog_5_method_8_code 27 = .ok (.iconst 1, 1) := by decide +kernel
theorem d_Limbs_less_28 : decode prog_5_method_8_code 28 = .ok (.goto 4, 3) := by decide +kernel
theorem d_Limbs_less_31 : decode prog_5_method_8_code 31 = .ok (.iconst 0, 1) := by decide +kernel
theorem d_Limbs_less_32 : decode prog_5_method_8_code 32 = .ok (.ireturn, 1) := by decide +kernel
theorem d_Limbs_less_33 : decode prog_5_method_8_code 33 = .ok (.iinc 2 (-1), 3) := by decide +kernel
theorem d_Limbs_less_36 : decode prog_5_method_8_code 36 = .ok (.goto (-33), 3) := by decide +kernel
theorem d_Limbs_less_39 : decode prog_5_method_8_code 39 = .ok (.iconst 0, 1) := by decide +kernel
theorem d_Limbs_less_40 : decode prog_5_method_8_code 40 = .ok (.ireturn, 1) := by decide +kernel
abbrev y_Limbs_bits : MethodName := ⟨"KateDesk$Limbs", "bits", "([JII)J"⟩
theorem hd_Limbs_bits : y_Limbs_bits.cls ≠ "java/lang/invoke/MethodHandle" ∧ y_Limbs_bits.cls ≠ "java/lang/invoke/VarHandle" ∧ (parseMethodDescriptor y_Limbs_bits.desc).map (fun d => d.parameters.length) = some 3 := by decide +kernel
theorem d_Limbs_bits_0 : decode prog_5_method_9_code 0 = .ok (.iload_n 1, 1) := by decide +kernel
theorem d_Limbs_bits_1 : decode prog_5_method_9_code 1 = .ok (.bipush 28, 2) := by decide +kernel
theorem d_Limbs_bits_3 : decode prog_5_method_9_code 3 = .ok (.idiv, 1) := by decide +kernel
theorem d_Limbs_bits_4 : decode prog_5_method_9_code 4 = .ok (.istore_n 3, 1) := by decide +kernel
theorem d_Limbs_bits_5 : decode prog_5_method_9_code 5 = .ok (.iload_n 1, 1) := by decide +kernel
theorem d_Limbs_bits_6 : decode prog_5_method_9_code 6 = .ok (.bipush 28, 2) := by decide +kernel
theorem d_Limbs_bits_8 : decode prog_5_method_9_code 8 = .ok (.irem, 1) := by decide +kernel
theorem d_Limbs_bits_9 : decode prog_5_method_9_code 9 = .ok (.istore 4, 2) := by decide +kernel
theorem d_Limbs_bits_11 : decode prog_5_method_9_code 11 = .ok (.iload_n 1, 1) := by decide +kernel
theorem d_Limbs_bits_12 : decode prog_5_method_9_code 12 = .ok (.ifCond .lt 9, 3) := by decide +kernel
theorem d_Limbs_bits_15 : decode prog_5_method_9_code 15 = .ok (.iload_n 3, 1) := by decide +kernel
theorem d_Limbs_bits_16 : decode prog_5_method_9_code 16 = .ok (.bipush 14, 2) := by decide +kernel
theorem d_Limbs_bits_18 : decode prog_5_method_9_code 18 = .ok (.if_icmp .lt 5, 3) := by decide +kernel
theorem d_Limbs_bits_21 : decode prog_5_method_9_code 21 = .ok (.lconst 0, 1) := by decide +kernel
theorem d_Limbs_bits_22 : decode prog_5_method_9_code 22 = .ok (.lreturn, 1) := by decide +kernel
theorem d_Limbs_bits_23 : decode prog_5_method_9_code 23 = .ok (.aload_n 0, 1) := by decide +kernel
theorem d_Limbs_bits_24 : decode prog_5_method_9_code 24 = .ok (.iload_n 3, 1) := by decide +kernel
theorem d_Limbs_bits_25 : decode prog_5_method_9_code 25 = .ok (.laload, 1) := by decide +kernel
theorem d_Limbs_bits_26 : decode prog_5_method_9_code 26 = .ok (.iload 4, 2) := by decide +kernel
theorem d_Limbs_bits_28 : decode prog_5_method_9_code 28 = .ok (.lshr, 1) := by decide +kernel
theorem d_Limbs_bits_29 : decode prog_5_method_9_code 29 = .ok (.lstore 5, 2) := by decide +kernel
theorem d_Limbs_bits_31 : decode prog_5_method_9_code 31 = .ok (.iload_n 3, 1) := by decide +kernel
theorem d_Limbs_bits_32 : decode prog_5_method_9_code 32 = .ok (.iconst 1, 1) := by decide +kernel
theorem d_Limbs_bits_33 : decode prog_5_method_9_code 33 = .ok (.iadd, 1) := by decide +kernel
theorem d_Limbs_bits_34 : decode prog_5_method_9_code 34 = .ok (.bipush 14, 2) := by decide +kernel
theorem d_Limbs_bits_36 : decode prog_5_method_9_code 36 = .ok (.if_icmp .ge 19, 3) := by decide +kernel
theorem d_Limbs_bits_39 : decode prog_5_method_9_code 39 = .ok (.lload 5, 2) := by decide +kernel
theorem d_Limbs_bits_41 : decode prog_5_method_9_code 41 = .ok (.aload_n 0, 1) := by decide +kernel
theorem d_Limbs_bits_42 : decode prog_5_method_9_code 42 = .ok (.iload_n 3, 1) := by decide +kernel
theorem d_Limbs_bits_43 : decode prog_5_method_9_code 43 = .ok (.iconst 1, 1) := by decide +kernel
theorem d_Limbs_bits_44 : decode prog_5_method_9_code 44 = .ok (.iadd, 1) := by decide +kernel
theorem d_Limbs_bits_45 : decode prog_5_method_9_code 45 = .ok (.laload, 1) := by decide +kernel
theorem d_Limbs_bits_46 : decode prog_5_method_9_code 46 = .ok (.bipush 28, 2) := by decide +kernel
theorem d_Limbs_bits_48 : decode prog_5_method_9_code 48 = .ok (.iload 4, 2) := by decide +kernel
theorem d_Limbs_bits_50 : decode prog_5_method_9_code 50 = .ok (.isub, 1) := by decide +kernel
theorem d_Limbs_bits_51 : decode prog_5_method_9_code 51 = .ok (.lshl, 1) := by decide +kernel
theorem d_Limbs_bits_52 : decode prog_5_method_9_code 52 = .ok (.lor, 1) := by decide +kernel
theorem d_Limbs_bits_53 : decode prog_5_method_9_code 53 = .ok (.lstore 5, 2) := by decide +kernel
theorem d_Limbs_bits_55 : decode prog_5_method_9_code 55 = .ok (.lload 5, 2) := by decide +kernel
theorem d_Limbs_bits_57 : decode prog_5_method_9_code 57 = .ok (.lconst 1, 1) := by decide +kernel
theorem d_Limbs_bits_58 : decode prog_5_method_9_code 58 = .ok (.iload_n 2, 1) := by decide +kernel
theorem d_Limbs_bits_59 : decode prog_5_method_9_code 59 = .ok (.lshl, 1) := by decide +kernel
theorem d_Limbs_bits_60 : decode prog_5_method_9_code 60 = .ok (.lconst 1, 1) := by decide +kernel
theorem d_Limbs_bits_61 : decode prog_5_method_9_code 61 = .ok (.lsub, 1) := by decide +kernel
theorem d_Limbs_bits_62 : decode prog_5_method_9_code 62 = .ok (.land, 1) := by decide +kernel
theorem d_Limbs_bits_63 : decode prog_5_method_9_code 63 = .ok (.lreturn, 1) := by decide +kernel
abbrev y_Limbs_shiftRight : MethodName := ⟨"KateDesk$Limbs", "shiftRight", "([J[JI)V"⟩
theorem hd_Limbs_shiftRight : y_Limbs_shiftRight.cls ≠ "java/lang/invoke/MethodHandle" ∧ y_Limbs_shiftRight.cls ≠ "java/lang/invoke/VarHandle" ∧ (parseMethodDescriptor y_Limbs_shiftRight.desc).map (fun d => d.parameters.length) = some 3 := by decide +kernel
theorem d_Limbs_shiftRight_0 : decode prog_5_method_11_code 0 = .ok (.iconst 0, 1) := by decide +kernel
theorem d_Limbs_shiftRight_1 : decode prog_5_method_11_code 1 = .ok (.istore_n 3, 1) := by decide +kernel
theorem d_Limbs_shiftRight_2 : decode prog_5_method_11_code 2 = .ok (.iload_n 3, 1) := by decide +kernel
theorem d_Limbs_shiftRight_3 : decode prog_5_method_11_code 3 = .ok (.bipush 14, 2) := by decide +kernel
theorem d_Limbs_shiftRight_5 : decode prog_5_method_11_code 5 = .ok (.if_icmp .ge 24, 3) := by decide +kernel
theorem d_Limbs_shiftRight_8 : decode prog_5_method_11_code 8 = .ok (.aload_n 0, 1) := by decide +kernel
theorem d_Limbs_shiftRight_9 : decode prog_5_method_11_code 9 = .ok (.iload_n 3, 1) := by decide +kernel
theorem d_Limbs_shiftRight_10 : decode prog_5_method_11_code 10 = .ok (.aload_n 1, 1) := by decide +kernel
theorem d_Limbs_shiftRight_11 : decode prog_5_method_11_code 11 = .ok (.bipush 28, 2) := by decide +kernel
theorem d_Limbs_shiftRight_13 : decode prog_5_method_11_code 13 = .ok (.iload_n 3, 1) := by decide +kernel
theorem d_Limbs_shiftRight_14 : decode prog_5_method_11_code 14 = .ok (.imul, 1) := by decide +kernel
theorem d_Limbs_shiftRight_15 : decode prog_5_method_11_code 15 = .ok (.iload_n 2, 1) := by decide +kernel
theorem d_Limbs_shiftRight_16 : decode prog_5_method_11_code 16 = .ok (.iadd, 1) := by decide +kernel
theorem d_Limbs_shiftRight_17 : decode prog_5_method_11_code 17 = .ok (.bipush 28, 2) := by decide +kernel
theorem d_Limbs_shiftRight_19 : decode prog_5_method_11_code 19 = .ok (.invokestatic 37, 3) := by decide +kernel
theorem d_Limbs_shiftRight_22 : decode prog_5_method_11_code 22 = .ok (.lastore, 1) := by decide +kernel
theorem d_Limbs_shiftRight_23 : decode prog_5_method_11_code 23 = .ok (.iinc 3 1, 3) := by decide +kernel
theorem d_Limbs_shiftRight_26 : decode prog_5_method_11_code 26 = .ok (.goto (-24), 3) := by decide +kernel
theorem d_Limbs_shiftRight_29 : decode prog_5_method_11_code 29 = .ok (.return_, 1) := by decide +kernel
abbrev y_Limbs_fromLong : MethodName := ⟨"KateDesk$Limbs", "fromLong", "([JJ)V"⟩
theorem hd_Limbs_fromLong : y_Limbs_fromLong.cls ≠ "java/lang/invoke/MethodHandle" ∧ y_Limbs_fromLong.cls ≠ "java/lang/invoke/VarHandle" ∧ (parseMethodDescriptor y_Limbs_fromLong.desc).map (fun d => d.parameters.length) = some 2 := by decide +kernel
theorem d_Limbs_fromLong_0 : decode prog_5_method_3_code 0 = .ok (.aload_n 0, 1) := by decide +kernel
theorem d_Limbs_fromLong_1 : decode prog_5_method_3_code 1 = .ok (.invokestatic 19, 3) := by decide +kernel
theorem d_Limbs_fromLong_4 : decode prog_5_method_3_code 4 = .ok (.aload_n 0, 1) := by decide +kernel
theorem d_Limbs_fromLong_5 : decode prog_5_method_3_code 5 = .ok (.iconst 0, 1) := by decide +kernel
theorem d_Limbs_fromLong_6 : decode prog_5_method_3_code 6 = .ok (.lload_n 1, 1) := by decide +kernel
theorem d_Limbs_fromLong_7 : decode prog_5_method_3_code 7 = .ok (.ldc2_w 23, 3) := by decide +kernel
theorem d_Limbs_fromLong_10 : decode prog_5_method_3_code 10 = .ok (.land, 1) := by decide +kernel
theorem d_Limbs_fromLong_11 : decode prog_5_method_3_code 11 = .ok (.lastore, 1) := by decide +kernel
theorem d_Limbs_fromLong_12 : decode prog_5_method_3_code 12 = .ok (.aload_n 0, 1) := by decide +kernel
theorem d_Limbs_fromLong_13 : decode prog_5_method_3_code 13 = .ok (.iconst 1, 1) := by decide +kernel
theorem d_Limbs_fromLong_14 : decode prog_5_method_3_code 14 = .ok (.lload_n 1, 1) := by decide +kernel
theorem d_Limbs_fromLong_15 : decode prog_5_method_3_code 15 = .ok (.bipush 28, 2) := by decide +kernel
theorem d_Limbs_fromLong_17 : decode prog_5_method_3_code 17 = .ok (.lshr, 1) := by decide +kernel
theorem d_Limbs_fromLong_18 : decode prog_5_method_3_code 18 = .ok (.ldc2_w 23, 3) := by decide +kernel
theorem d_Limbs_fromLong_21 : decode prog_5_method_3_code 21 = .ok (.land, 1) := by decide +kernel
theorem d_Limbs_fromLong_22 : decode prog_5_method_3_code 22 = .ok (.lastore, 1) := by decide +kernel
theorem d_Limbs_fromLong_23 : decode prog_5_method_3_code 23 = .ok (.aload_n 0, 1) := by decide +kernel
theorem d_Limbs_fromLong_24 : decode prog_5_method_3_code 24 = .ok (.iconst 2, 1) := by decide +kernel
theorem d_Limbs_fromLong_25 : decode prog_5_method_3_code 25 = .ok (.lload_n 1, 1) := by decide +kernel
theorem d_Limbs_fromLong_26 : decode prog_5_method_3_code 26 = .ok (.bipush 56, 2) := by decide +kernel
theorem d_Limbs_fromLong_28 : decode prog_5_method_3_code 28 = .ok (.lshr, 1) := by decide +kernel
theorem d_Limbs_fromLong_29 : decode prog_5_method_3_code 29 = .ok (.lastore, 1) := by decide +kernel
theorem d_Limbs_fromLong_30 : decode prog_5_method_3_code 30 = .ok (.return_, 1) := by decide +kernel
set_option maxHeartbeats 4000000 in
set_option maxRecDepth 100000 in
/-- of a row of zeros: true -/
theorem z_Limbs_isZero (l : Launch) (g : WG) (n0 : Nat → Prop) (a : Nat) : Ctr l y_Limbs_isZero (.code y_Limbs_isZero prog_5_method_6_code 2 (some FieldType.boolean)) 0 0 0 0 n0 g [.ref a] (fun H => AJ g H a 14 (fun _ => 0)) (QI (fun r H H' => r = 1 ∧ H' = H)) := by
  refine ctr_mk l (lv0 := [(0, .ref a)]) (by decide) (Nat.le_of_ble_eq_true rfl) rfl ?_
  intro p e s m below meth c ls E hr hlk hnm hl hP
  have hx := E.1
  have hb := E.2.1
  have hK := E.2.2.2.2.2
  have hF : ∀ q ∈ ([] : List Loc), n0 q.base := fun q hq => absurd hq List.not_mem_nil
  have loop : ∀ (k : Nat) (i : Nat) (ls : Array Slot), i + k = 14 → lv_has ls 2 [(1, .int (nI i)), (0, .ref a)] → W p l e { frames := 0, cells := 0, slots := 0, locals := 0 } s m [.ref a].toArray below meth c s.heap [] 0 0 (MQ below (QcP (QI (fun r H H' => r = 1 ∧ H' = H))) [.ref a].toArray s 0 0 (fun q => n0 q)) (F0 m 2 ls []) := by
    intro k
    induction k with
    | zero =>
      intro  i   ls hi hl
      obtain rfl : i = 14 := by omega
      refine lv_iload_n hx hb d_Limbs_isZero_2 rfl (lv_at hl 0 rfl) ?_
      refine lv_bipush (v := nI 14) hx hb d_Limbs_isZero_3 (by decide) ?_
      refine lv_icmp_ge (tgt := 24) hx hb d_Limbs_isZero_5 (by decide) (fun _ => ?_) (fun h9 => absurd (by decide) h9)
      refine lv_iconst (v := nI 1) hx hb d_Limbs_isZero_24 (by decide) ?_
      exact q_zret E hr rfl hlk (⟨1, rfl, rfl, rfl⟩) hF d_Limbs_isZero_25
    | succ k ih =>
      intro  i   ls hi hl
      have hi14 : i < 14 := by omega
      refine lv_iload_n hx hb d_Limbs_isZero_2 rfl (lv_at hl 0 rfl) ?_
      refine lv_bipush (v := nI 14) hx hb d_Limbs_isZero_3 (by decide) ?_
      refine lv_icmp_ge (tgt := 24) hx hb d_Limbs_isZero_5 (by decide) (fun h9 => absurd h9 (nI_ge hi14 (by decide))) (fun _ => ?_)
      refine lv_aload_n hx hb d_Limbs_isZero_8 rfl (lv_at hl 1 rfl) ?_
      refine lv_iload_n hx hb d_Limbs_isZero_9 rfl (lv_at hl 0 rfl) ?_
      refine q_lald (N := 14) (f := (fun _ => 0)) E hP i rfl hi14 (by decide) d_Limbs_isZero_10 ?_
      refine lv_lconst (v := 0) hx hb d_Limbs_isZero_11 (by decide) ?_
      refine W.lcmp hx hb d_Limbs_isZero_12 ?_
      refine lv_if_eq (tgt := 18) hx hb d_Limbs_isZero_13 (by decide) (fun _ => ?_) (fun h9 => absurd (by decide) h9)
      refine lv_iinc (k := 0) (v := nI (i + 1)) (lv' := [(1, .int (nI (i + 1))), (0, .ref a)]) hx hb d_Limbs_isZero_18 hl rfl (i_inc i) (by decide) rfl (fun ls hl => ?_)
      refine lv_goto (tgt := 2) hx hb d_Limbs_isZero_21 (by decide) ?_
      exact ih (i + 1) ls (by omega) hl
  refine lv_iconst (v := nI 0) hx hb d_Limbs_isZero_0 (by decide) ?_
  refine lv_istore_n (lv' := [(1, .int (nI 0)), (0, .ref a)]) hx hb d_Limbs_isZero_1 rfl hl (by decide) rfl (fun ls hl => ?_)
  exact loop 14 0 ls rfl hl
set_option maxHeartbeats 4000000 in
set_option maxRecDepth 100000 in
/-- of two rows of zeros: true -/
theorem z_Limbs_equal (l : Launch) (g : WG) (n0 : Nat → Prop) (a b : Nat) : Ctr l y_Limbs_equal (.code y_Limbs_equal prog_5_method_7_code 3 (some FieldType.boolean)) 0 0 0 0 n0 g [.ref a, .ref b] (fun H => AJ g H a 14 (fun _ => 0) ∧ AJ g H b 14 (fun _ => 0)) (QI (fun r H H' => r = 1 ∧ H' = H)) := by
  refine ctr_mk l (lv0 := [(0, .ref a), (1, .ref b)]) (by decide) (Nat.le_of_ble_eq_true rfl) rfl ?_
  intro p e s m below meth c ls E hr hlk hnm hl hP
  have hx := E.1
  have hb := E.2.1
  have hK := E.2.2.2.2.2
  have hF : ∀ q ∈ ([] : List Loc), n0 q.base := fun q hq => absurd hq List.not_mem_nil
  have loop : ∀ (k : Nat) (i : Nat) (ls : Array Slot), i + k = 14 → lv_has ls 3 [(2, .int (nI i)), (0, .ref a), (1, .ref b)] → W p l e { frames := 0, cells := 0, slots := 0, locals := 0 } s m [.ref a, .ref b].toArray below meth c s.heap [] 0 0 (MQ below (QcP (QI (fun r H H' => r = 1 ∧ H' = H))) [.ref a, .ref b].toArray s 0 0 (fun q => n0 q)) (F0 m 2 ls []) := by
    intro k
    induction k with
    | zero =>
      intro  i   ls hi hl
      obtain rfl : i = 14 := by omega
      refine lv_iload_n hx hb d_Limbs_equal_2 rfl (lv_at hl 0 rfl) ?_
      refine lv_bipush (v := nI 14) hx hb d_Limbs_equal_3 (by decide) ?_
      refine lv_icmp_ge (tgt := 26) hx hb d_Limbs_equal_5 (by decide) (fun _ => ?_) (fun h9 => absurd (by decide) h9)
      refine lv_iconst (v := nI 1) hx hb d_Limbs_equal_26 (by decide) ?_
      exact q_zret E hr rfl hlk (⟨1, rfl, rfl, rfl⟩) hF d_Limbs_equal_27
    | succ k ih =>
      intro  i   ls hi hl
      have hi14 : i < 14 := by omega
      refine lv_iload_n hx hb d_Limbs_equal_2 rfl (lv_at hl 0 rfl) ?_
      refine lv_bipush (v := nI 14) hx hb d_Limbs_equal_3 (by decide) ?_
      refine lv_icmp_ge (tgt := 26) hx hb d_Limbs_equal_5 (by decide) (fun h9 => absurd h9 (nI_ge hi14 (by decide))) (fun _ => ?_)
      refine lv_aload_n hx hb d_Limbs_equal_8 rfl (lv_at hl 1 rfl) ?_
      refine lv_iload_n hx hb d_Limbs_equal_9 rfl (lv_at hl 0 rfl) ?_
      refine q_lald (N := 14) (f := (fun _ => 0)) E hP.1 i rfl hi14 (by decide) d_Limbs_equal_10 ?_
      refine lv_aload_n hx hb d_Limbs_equal_11 rfl (lv_at hl 2 rfl) ?_
      refine lv_iload_n hx hb d_Limbs_equal_12 rfl (lv_at hl 0 rfl) ?_
      refine q_lald (N := 14) (f := (fun _ => 0)) E hP.2 i rfl hi14 (by decide) d_Limbs_equal_13 ?_
      refine W.lcmp hx hb d_Limbs_equal_14 ?_
      refine lv_if_eq (tgt := 20) hx hb d_Limbs_equal_15 (by decide) (fun _ => ?_) (fun h9 => absurd (by decide) h9)
      refine lv_iinc (k := 0) (v := nI (i + 1)) (lv' := [(2, .int (nI (i + 1))), (0, .ref a), (1, .ref b)]) hx hb d_Limbs_equal_20 hl rfl (i_inc i) (by decide) rfl (fun ls hl => ?_)
      refine lv_goto (tgt := 2) hx hb d_Limbs_equal_23 (by decide) ?_
      exact ih (i + 1) ls (by omega) hl
  refine lv_iconst (v := nI 0) hx hb d_Limbs_equal_0 (by decide) ?_
  refine lv_istore_n (lv' := [(2, .int (nI 0)), (0, .ref a), (1, .ref b)]) hx hb d_Limbs_equal_1 rfl hl (by decide) rfl (fun ls hl => ?_)
  exact loop 14 0 ls rfl hl
set_option maxHeartbeats 4000000 in
set_option maxRecDepth 100000 in
/-- 0 is less than a number that is not 0 -/
theorem z_Limbs_less (l : Launch) (g : WG) (n0 : Nat → Prop) (a b : Nat) (f : Nat → Int64) (h0 : ∀ i, i < 14 → ¬ f i < 0) (h1 : f 0 ≠ 0) : Ctr l y_Limbs_less (.code y_Limbs_less prog_5_method_8_code 3 (some FieldType.boolean)) 0 0 0 0 n0 g [.ref a, .ref b] (fun H => AJ g H a 14 (fun _ => 0) ∧ AJ g H b 14 f) (QI (fun r H H' => r = 1 ∧ H' = H)) := by
  refine ctr_mk l (lv0 := [(0, .ref a), (1, .ref b)]) (by decide) (Nat.le_of_ble_eq_true rfl) rfl ?_
  intro p e s m below meth c ls E hr hlk hnm hl hP
  have hx := E.1
  have hb := E.2.1
  have hK := E.2.2.2.2.2
  have hF : ∀ q ∈ ([] : List Loc), n0 q.base := fun q hq => absurd hq List.not_mem_nil
  have loop : ∀ (k : Nat) (ls : Array Slot) (x : Int32), k ≤ 14 → x = nI k - 1 → k ≠ 0 → lv_has ls 3 [(2, .int x), (0, .ref a), (1, .ref b)] → W p l e { frames := 0, cells := 0, slots := 0, locals := 0 } s m [.ref a, .ref b].toArray below meth c s.heap [] 0 0 (MQ below (QcP (QI (fun r H H' => r = 1 ∧ H' = H))) [.ref a, .ref b].toArray s 0 0 (fun q => n0 q)) (F0 m 3 ls []) := by
    intro k
    induction k with
    | zero =>
      intro  ls   x hk14 hxx hne hl
      exact absurd rfl hne
    | succ k ih =>
      intro  ls   x hk14 hxx hne hl
      rw [nI_pred] at hxx
      subst hxx
      refine lv_iload_n hx hb d_Limbs_less_3 rfl (lv_at hl 0 rfl) ?_
      refine lv_if_lt (tgt := 39) hx hb d_Limbs_less_4 (by decide) (fun h9 => absurd h9 (nI_pos (by omega))) (fun _ => ?_)
      refine lv_aload_n hx hb d_Limbs_less_7 rfl (lv_at hl 1 rfl) ?_
      refine lv_iload_n hx hb d_Limbs_less_8 rfl (lv_at hl 0 rfl) ?_
      refine q_lald (N := 14) (f := (fun _ => 0)) E hP.1 k rfl (by omega) (by decide) d_Limbs_less_9 ?_
      refine lv_aload_n hx hb d_Limbs_less_10 rfl (lv_at hl 2 rfl) ?_
      refine lv_iload_n hx hb d_Limbs_less_11 rfl (lv_at hl 0 rfl) ?_
      refine q_lald (N := 14) (f := f) E hP.2 k rfl (by omega) (by decide) d_Limbs_less_12 ?_
      refine W.lcmp hx hb d_Limbs_less_13 ?_
      refine lv_if_eq (tgt := 33) hx hb d_Limbs_less_14 (by decide) (fun hc => ?_) (fun hc => ?_)
      rotate_left
      · skip
        refine lv_aload_n hx hb d_Limbs_less_17 rfl (lv_at hl 1 rfl) ?_
        refine lv_iload_n hx hb d_Limbs_less_18 rfl (lv_at hl 0 rfl) ?_
        refine q_lald (N := 14) (f := (fun _ => 0)) E hP.1 k rfl (by omega) (by decide) d_Limbs_less_19 ?_
        refine lv_aload_n hx hb d_Limbs_less_20 rfl (lv_at hl 2 rfl) ?_
        refine lv_iload_n hx hb d_Limbs_less_21 rfl (lv_at hl 0 rfl) ?_
        refine q_lald (N := 14) (f := f) E hP.2 k rfl (by omega) (by decide) d_Limbs_less_22 ?_
        refine W.lcmp hx hb d_Limbs_less_23 ?_
        refine lv_if_ge (tgt := 31) hx hb d_Limbs_less_24 (by decide) (fun h9 => absurd h9 (by rw [kd_cmp_lt (by have := h0 k (by omega); have h2 : ¬ f k = 0 := fun h => hc (by rw [h]; rfl); rw [Int64.not_lt] at this; exact Int64.lt_of_le_of_ne this (Ne.symm h2))]; decide)) (fun _ => ?_)
        refine lv_iconst (v := nI 1) hx hb d_Limbs_less_27 (by decide) ?_
        refine lv_goto (tgt := 32) hx hb d_Limbs_less_28 (by decide) ?_
        exact q_zret E hr rfl hlk (⟨1, rfl, rfl, rfl⟩) hF d_Limbs_less_32
      refine lv_iinc (k := 0) (v := nI k - 1) (lv' := [(2, .int (nI k - 1)), (0, .ref a), (1, .ref b)]) hx hb d_Limbs_less_33 hl rfl (i_dec (nI k)) (by decide) rfl (fun ls hl => ?_)
      refine lv_goto (tgt := 3) hx hb d_Limbs_less_36 (by decide) ?_
      have hfk : f k = 0 := by
        by_cases h2 : f k = 0
        · exact h2
        · have := h0 k (by omega)
          rw [Int64.not_lt] at this
          rw [kd_cmp_lt (Int64.lt_of_le_of_ne this (Ne.symm h2))] at hc
          exact absurd hc (by decide)
      exact ih ls _ (by omega) rfl (fun h => h1 (by subst h; exact hfk)) hl
  refine lv_bipush (v := nI 13) hx hb d_Limbs_less_0 (by decide) ?_
  refine lv_istore_n (lv' := [(2, .int (nI 13)), (0, .ref a), (1, .ref b)]) hx hb d_Limbs_less_2 rfl hl (by decide) rfl (fun ls hl => ?_)
  exact loop 14 ls _ (by decide) (by decide) (by decide) hl
set_option maxHeartbeats 4000000 in
set_option maxRecDepth 100000 in
/-- bits of a row -/
theorem c_Limbs_bits (l : Launch) (g : WG) (n0 : Nat → Prop) (a : Nat) (at0 cnt : Int32) : Ctr l y_Limbs_bits (.code y_Limbs_bits prog_5_method_9_code 7 (some FieldType.long)) 0 0 0 0 n0 g [.ref a, .int at0, .int cnt] (fun H => J14 g n0 H a) (QL (fun _ H H' => H' = H)) := by
  refine ctr_mk l (lv0 := [(0, .ref a), (1, .int at0), (2, .int cnt)]) (by decide) (Nat.le_of_ble_eq_true rfl) rfl ?_
  intro p e s m below meth c ls E hr hlk hnm hl hP
  have hx := E.1
  have hb := E.2.1
  have hK := E.2.2.2.2.2
  have hF : ∀ q ∈ ([] : List Loc), n0 q.base := fun q hq => absurd hq List.not_mem_nil
  refine lv_iload_n hx hb d_Limbs_bits_0 rfl (lv_at hl 1 rfl) ?_
  refine lv_bipush (v := nI 28) hx hb d_Limbs_bits_1 (by decide) ?_
  refine lv_idiv hx hb d_Limbs_bits_3 (by decide) ?_
  refine lv_topi (fun q1 e1 => ?_)
  refine lv_istore_n (lv' := [(3, .int q1), (0, .ref a), (1, .int at0), (2, .int cnt)]) hx hb d_Limbs_bits_4 rfl hl (by decide) rfl (fun ls hl => ?_)
  refine lv_iload_n hx hb d_Limbs_bits_5 rfl (lv_at hl 2 rfl) ?_
  refine lv_bipush (v := nI 28) hx hb d_Limbs_bits_6 (by decide) ?_
  refine lv_irem hx hb d_Limbs_bits_8 (by decide) ?_
  refine lv_topi (fun q2 _ => ?_)
  refine lv_istore (lv' := [(4, .int q2), (3, .int q1), (0, .ref a), (1, .int at0), (2, .int cnt)]) hx hb d_Limbs_bits_9 hl (by decide) rfl (fun ls hl => ?_)
  refine lv_iload_n hx hb d_Limbs_bits_11 rfl (lv_at hl 3 rfl) ?_
  refine lv_if_lt (tgt := 21) hx hb d_Limbs_bits_12 (by decide) (fun h1 => ?_) (fun h1 => ?_)
  rotate_left
  · skip
    obtain ⟨j, hj, rfl⟩ := nI_of h1
    have e2 : q1 = nI (j / 28) := e1.trans (pk_div hj (by decide) (by decide))
    subst e2
    refine lv_iload_n hx hb d_Limbs_bits_15 rfl (lv_at hl 1 rfl) ?_
    refine lv_bipush (v := nI 14) hx hb d_Limbs_bits_16 (by decide) ?_
    refine lv_icmp_lt (tgt := 23) hx hb d_Limbs_bits_18 (by decide) (fun h2 => ?_) (fun h2 => ?_)
    rotate_left
    · skip
      refine lv_lconst (v := 0) hx hb d_Limbs_bits_21 (by decide) ?_
      exact q_lret E hr hlk (⟨_, rfl, rfl⟩) hF d_Limbs_bits_22
    have hj2 : j / 28 < 14 := (nI_ltI (by omega) (by decide)).mp h2
    refine lv_aload_n hx hb d_Limbs_bits_23 rfl (lv_at hl 2 rfl) ?_
    refine lv_iload_n hx hb d_Limbs_bits_24 rfl (lv_at hl 1 rfl) ?_
    refine q_laldS E hP (j / 28) rfl hj2 d_Limbs_bits_25 (fun v1 => ?_)
    refine lv_iload hx hb d_Limbs_bits_26 (lv_at hl 0 rfl) ?_
    refine lv_lshr (v := v1 >>> (q2.toInt64 &&& 63)) hx hb d_Limbs_bits_28 rfl ?_
    refine lv_topl (fun v2 _ => ?_)
    refine lv_lstore (lv' := [(5, .long v2), (4, .int q2), (3, .int (nI (j / 28))), (0, .ref a), (1, .int (nI j)), (2, .int cnt)]) hx hb d_Limbs_bits_29 hl (by decide) rfl (fun ls hl => ?_)
    refine lv_iload_n hx hb d_Limbs_bits_31 rfl (lv_at hl 2 rfl) ?_
    refine lv_iconst (v := nI 1) hx hb d_Limbs_bits_32 (by decide) ?_
    refine lv_iadd hx hb d_Limbs_bits_33 ?_
    refine lv_bipush (v := nI 14) hx hb d_Limbs_bits_34 (by decide) ?_
    refine lv_icmp_ge (tgt := 55) hx hb d_Limbs_bits_36 (by decide) (fun h3 => ?_) (fun h3 => ?_)
    rotate_left
    · skip
      have hj3 : j / 28 + 1 < 14 := by
        rw [show nI (j / 28) + nI 1 = nI (j / 28 + 1) from nI_add _ _] at h3
        by_cases h4 : j / 28 + 1 < 14
        · exact h4
        · exact absurd (nI_le (by omega) (by omega)) h3
      refine lv_lload hx hb d_Limbs_bits_39 (lv_at hl 0 rfl) ?_
      refine lv_aload_n hx hb d_Limbs_bits_41 rfl (lv_at hl 3 rfl) ?_
      refine lv_iload_n hx hb d_Limbs_bits_42 rfl (lv_at hl 2 rfl) ?_
      refine lv_iconst (v := nI 1) hx hb d_Limbs_bits_43 (by decide) ?_
      refine lv_iadd hx hb d_Limbs_bits_44 ?_
      refine q_laldS E hP (j / 28 + 1) (nI_add _ _) hj3 d_Limbs_bits_45 (fun v3 => ?_)
      refine lv_bipush (v := nI 28) hx hb d_Limbs_bits_46 (by decide) ?_
      refine lv_iload hx hb d_Limbs_bits_48 (lv_at hl 1 rfl) ?_
      refine lv_isub hx hb d_Limbs_bits_50 ?_
      refine lv_lshl (v := v3 <<< (((nI 28) - q2).toInt64 &&& 63)) hx hb d_Limbs_bits_51 rfl ?_
      refine lv_lor hx hb d_Limbs_bits_52 ?_
      refine lv_topl (fun v4 _ => ?_)
      refine lv_lstore (lv' := [(5, .long v4), (4, .int q2), (3, .int (nI (j / 28))), (0, .ref a), (1, .int (nI j)), (2, .int cnt)]) hx hb d_Limbs_bits_53 hl (by decide) rfl (fun ls hl => ?_)
      refine lv_lload hx hb d_Limbs_bits_55 (lv_at hl 0 rfl) ?_
      refine lv_lconst (v := 1) hx hb d_Limbs_bits_57 (by decide) ?_
      refine lv_iload_n hx hb d_Limbs_bits_58 rfl (lv_at hl 5 rfl) ?_
      refine lv_lshl (v := 1 <<< (cnt.toInt64 &&& 63)) hx hb d_Limbs_bits_59 rfl ?_
      refine lv_lconst (v := 1) hx hb d_Limbs_bits_60 (by decide) ?_
      refine lv_lsub hx hb d_Limbs_bits_61 ?_
      refine lv_land hx hb d_Limbs_bits_62 ?_
      refine lv_topl (fun v5 _ => ?_)
      exact q_lret E hr hlk (⟨_, rfl, rfl⟩) hF d_Limbs_bits_63
    refine lv_lload hx hb d_Limbs_bits_55 (lv_at hl 0 rfl) ?_
    refine lv_lconst (v := 1) hx hb d_Limbs_bits_57 (by decide) ?_
    refine lv_iload_n hx hb d_Limbs_bits_58 rfl (lv_at hl 5 rfl) ?_
    refine lv_lshl (v := 1 <<< (cnt.toInt64 &&& 63)) hx hb d_Limbs_bits_59 rfl ?_
    refine lv_lconst (v := 1) hx hb d_Limbs_bits_60 (by decide) ?_
    refine lv_lsub hx hb d_Limbs_bits_61 ?_
    refine lv_land hx hb d_Limbs_bits_62 ?_
    refine lv_topl (fun v3 _ => ?_)
    exact q_lret E hr hlk (⟨_, rfl, rfl⟩) hF d_Limbs_bits_63
  refine lv_lconst (v := 0) hx hb d_Limbs_bits_21 (by decide) ?_
  exact q_lret E hr hlk (⟨_, rfl, rfl⟩) hF d_Limbs_bits_22
set_option maxHeartbeats 4000000 in
set_option maxRecDepth 100000 in
/-- bits of a row -/
theorem z_Limbs_bits (l : Launch) (g : WG) (n0 : Nat → Prop) (a : Nat) (at0 cnt : Int32) : Ctr l y_Limbs_bits (.code y_Limbs_bits prog_5_method_9_code 7 (some FieldType.long)) 0 0 0 0 n0 g [.ref a, .int at0, .int cnt] (fun H => AJ g H a 14 (fun _ => 0)) (QL (fun r H H' => r = 0 ∧ H' = H)) := by
  refine ctr_mk l (lv0 := [(0, .ref a), (1, .int at0), (2, .int cnt)]) (by decide) (Nat.le_of_ble_eq_true rfl) rfl ?_
  intro p e s m below meth c ls E hr hlk hnm hl hP
  have hx := E.1
  have hb := E.2.1
  have hK := E.2.2.2.2.2
  have hF : ∀ q ∈ ([] : List Loc), n0 q.base := fun q hq => absurd hq List.not_mem_nil
  refine lv_iload_n hx hb d_Limbs_bits_0 rfl (lv_at hl 1 rfl) ?_
  refine lv_bipush (v := nI 28) hx hb d_Limbs_bits_1 (by decide) ?_
  refine lv_idiv hx hb d_Limbs_bits_3 (by decide) ?_
  refine lv_topi (fun q1 e1 => ?_)
  refine lv_istore_n (lv' := [(3, .int q1), (0, .ref a), (1, .int at0), (2, .int cnt)]) hx hb d_Limbs_bits_4 rfl hl (by decide) rfl (fun ls hl => ?_)
  refine lv_iload_n hx hb d_Limbs_bits_5 rfl (lv_at hl 2 rfl) ?_
  refine lv_bipush (v := nI 28) hx hb d_Limbs_bits_6 (by decide) ?_
  refine lv_irem hx hb d_Limbs_bits_8 (by decide) ?_
  refine lv_topi (fun q2 _ => ?_)
  refine lv_istore (lv' := [(4, .int q2), (3, .int q1), (0, .ref a), (1, .int at0), (2, .int cnt)]) hx hb d_Limbs_bits_9 hl (by decide) rfl (fun ls hl => ?_)
  refine lv_iload_n hx hb d_Limbs_bits_11 rfl (lv_at hl 3 rfl) ?_
  refine lv_if_lt (tgt := 21) hx hb d_Limbs_bits_12 (by decide) (fun h1 => ?_) (fun h1 => ?_)
  rotate_left
  · skip
    obtain ⟨j, hj, rfl⟩ := nI_of h1
    have e2 : q1 = nI (j / 28) := e1.trans (pk_div hj (by decide) (by decide))
    subst e2
    refine lv_iload_n hx hb d_Limbs_bits_15 rfl (lv_at hl 1 rfl) ?_
    refine lv_bipush (v := nI 14) hx hb d_Limbs_bits_16 (by decide) ?_
    refine lv_icmp_lt (tgt := 23) hx hb d_Limbs_bits_18 (by decide) (fun h2 => ?_) (fun h2 => ?_)
    rotate_left
    · skip
      refine lv_lconst (v := 0) hx hb d_Limbs_bits_21 (by decide) ?_
      exact q_lret E hr hlk (⟨_, rfl, rfl, rfl⟩) hF d_Limbs_bits_22
    have hj2 : j / 28 < 14 := (nI_ltI (by omega) (by decide)).mp h2
    refine lv_aload_n hx hb d_Limbs_bits_23 rfl (lv_at hl 2 rfl) ?_
    refine lv_iload_n hx hb d_Limbs_bits_24 rfl (lv_at hl 1 rfl) ?_
    refine q_lald (N := 14) (f := (fun _ => 0)) E hP (j / 28) rfl hj2 (by decide) d_Limbs_bits_25 ?_
    refine lv_iload hx hb d_Limbs_bits_26 (lv_at hl 0 rfl) ?_
    refine lv_lshr (v := (0 : Int64) >>> (q2.toInt64 &&& 63)) hx hb d_Limbs_bits_28 rfl ?_
    refine lv_topl (fun t9 e9 => ?_)
    obtain rfl : t9 = 0 := e9.trans (zsr _)
    refine lv_lstore (lv' := [(5, .long 0), (4, .int q2), (3, .int (nI (j / 28))), (0, .ref a), (1, .int (nI j)), (2, .int cnt)]) hx hb d_Limbs_bits_29 hl (by decide) rfl (fun ls hl => ?_)
    refine lv_iload_n hx hb d_Limbs_bits_31 rfl (lv_at hl 2 rfl) ?_
    refine lv_iconst (v := nI 1) hx hb d_Limbs_bits_32 (by decide) ?_
    refine lv_iadd hx hb d_Limbs_bits_33 ?_
    refine lv_bipush (v := nI 14) hx hb d_Limbs_bits_34 (by decide) ?_
    refine lv_icmp_ge (tgt := 55) hx hb d_Limbs_bits_36 (by decide) (fun h3 => ?_) (fun h3 => ?_)
    rotate_left
    · skip
      have hj3 : j / 28 + 1 < 14 := by
        rw [show nI (j / 28) + nI 1 = nI (j / 28 + 1) from nI_add _ _] at h3
        by_cases h4 : j / 28 + 1 < 14
        · exact h4
        · exact absurd (nI_le (by omega) (by omega)) h3
      refine lv_lload hx hb d_Limbs_bits_39 (lv_at hl 0 rfl) ?_
      refine lv_aload_n hx hb d_Limbs_bits_41 rfl (lv_at hl 3 rfl) ?_
      refine lv_iload_n hx hb d_Limbs_bits_42 rfl (lv_at hl 2 rfl) ?_
      refine lv_iconst (v := nI 1) hx hb d_Limbs_bits_43 (by decide) ?_
      refine lv_iadd hx hb d_Limbs_bits_44 ?_
      refine q_lald (N := 14) (f := (fun _ => 0)) E hP (j / 28 + 1) (nI_add _ _) hj3 (by decide) d_Limbs_bits_45 ?_
      refine lv_bipush (v := nI 28) hx hb d_Limbs_bits_46 (by decide) ?_
      refine lv_iload hx hb d_Limbs_bits_48 (lv_at hl 1 rfl) ?_
      refine lv_isub hx hb d_Limbs_bits_50 ?_
      refine lv_lshl (v := (0 : Int64) <<< (((nI 28) - q2).toInt64 &&& 63)) hx hb d_Limbs_bits_51 rfl ?_
      refine lv_lor hx hb d_Limbs_bits_52 ?_
      refine lv_topl (fun t9 e9 => ?_)
      obtain rfl : t9 = 0 := e9.trans (zsl _)
      refine lv_lstore (lv' := [(5, .long 0), (4, .int q2), (3, .int (nI (j / 28))), (0, .ref a), (1, .int (nI j)), (2, .int cnt)]) hx hb d_Limbs_bits_53 hl (by decide) rfl (fun ls hl => ?_)
      refine lv_lload hx hb d_Limbs_bits_55 (lv_at hl 0 rfl) ?_
      refine lv_lconst (v := 1) hx hb d_Limbs_bits_57 (by decide) ?_
      refine lv_iload_n hx hb d_Limbs_bits_58 rfl (lv_at hl 5 rfl) ?_
      refine lv_lshl (v := 1 <<< (cnt.toInt64 &&& 63)) hx hb d_Limbs_bits_59 rfl ?_
      refine lv_lconst (v := 1) hx hb d_Limbs_bits_60 (by decide) ?_
      refine lv_lsub hx hb d_Limbs_bits_61 ?_
      refine lv_land hx hb d_Limbs_bits_62 ?_
      refine lv_topl (fun t9 e9 => ?_)
      obtain rfl : t9 = 0 := e9.trans (zan _)
      exact q_lret E hr hlk (⟨_, rfl, rfl, rfl⟩) hF d_Limbs_bits_63
    refine lv_lload hx hb d_Limbs_bits_55 (lv_at hl 0 rfl) ?_
    refine lv_lconst (v := 1) hx hb d_Limbs_bits_57 (by decide) ?_
    refine lv_iload_n hx hb d_Limbs_bits_58 rfl (lv_at hl 5 rfl) ?_
    refine lv_lshl (v := 1 <<< (cnt.toInt64 &&& 63)) hx hb d_Limbs_bits_59 rfl ?_
    refine lv_lconst (v := 1) hx hb d_Limbs_bits_60 (by decide) ?_
    refine lv_lsub hx hb d_Limbs_bits_61 ?_
    refine lv_land hx hb d_Limbs_bits_62 ?_
    refine lv_topl (fun t9 e9 => ?_)
    obtain rfl : t9 = 0 := e9.trans (zan _)
    exact q_lret E hr hlk (⟨_, rfl, rfl, rfl⟩) hF d_Limbs_bits_63
  refine lv_lconst (v := 0) hx hb d_Limbs_bits_21 (by decide) ?_
  exact q_lret E hr hlk (⟨_, rfl, rfl, rfl⟩) hF d_Limbs_bits_22
set_option maxHeartbeats 4000000 in
set_option maxRecDepth 100000 in
theorem c_Limbs_shiftRight (l : Launch) (g : WG) (n0 : Nat → Prop) (a b : Nat) (by0 : Int32) : Ctr l y_Limbs_shiftRight (.code y_Limbs_shiftRight prog_5_method_11_code 4 none) 1 26 0 0 n0 g [.ref a, .ref b, .int by0] (fun H => J14 g n0 H a ∧ J14 g n0 H b) (QV (fun H H' => KJ g (fun q => q = a) H H')) := by
  refine ctr_mk l (lv0 := [(0, .ref a), (1, .ref b), (2, .int by0)]) (by decide) (Nat.le_of_ble_eq_true rfl) rfl ?_
  intro p e s m below meth c ls E hr hlk hnm hl hP
  have hx := E.1
  have hb := E.2.1
  have hK := E.2.2.2.2.2
  have hF : ∀ q ∈ ([] : List Loc), n0 q.base := fun q hq => absurd hq List.not_mem_nil
  have loop : ∀ (k : Nat) (i : Nat) (H : Heap) (locs : List Loc) (ls : Array Slot), i + k = 14 → KJ g (fun q => q = a) s.heap H → (∀ q ∈ locs, n0 q.base) → lv_has ls 4 [(3, .int (nI i)), (0, .ref a), (1, .ref b), (2, .int by0)] → W p l e { frames := 1, cells := 0, slots := 0, locals := 26 } s m [.ref a, .ref b, .int by0].toArray below meth c H locs 0 0 (MQ below (QcP (QV (fun H H' => KJ g (fun q => q = a) H H'))) [.ref a, .ref b, .int by0].toArray s 0 0 (fun q => n0 q)) (F0 m 2 ls []) := by
    intro k
    induction k with
    | zero =>
      intro  i   H   locs   ls hi hk hF hl
      obtain rfl : i = 14 := by omega
      refine lv_iload_n hx hb d_Limbs_shiftRight_2 rfl (lv_at hl 0 rfl) ?_
      refine lv_bipush (v := nI 14) hx hb d_Limbs_shiftRight_3 (by decide) ?_
      refine lv_icmp_ge (tgt := 29) hx hb d_Limbs_shiftRight_5 (by decide) (fun _ => ?_) (fun h9 => absurd (by decide) h9)
      exact q_vret E hr hlk (⟨rfl, hk⟩) hF d_Limbs_shiftRight_29
    | succ k ih =>
      intro  i   H   locs   ls hi hk hF hl
      have hi14 : i < 14 := by omega
      refine lv_iload_n hx hb d_Limbs_shiftRight_2 rfl (lv_at hl 0 rfl) ?_
      refine lv_bipush (v := nI 14) hx hb d_Limbs_shiftRight_3 (by decide) ?_
      refine lv_icmp_ge (tgt := 29) hx hb d_Limbs_shiftRight_5 (by decide) (fun h9 => absurd h9 (nI_ge hi14 (by decide))) (fun _ => ?_)
      refine lv_aload_n hx hb d_Limbs_shiftRight_8 rfl (lv_at hl 1 rfl) ?_
      refine lv_iload_n hx hb d_Limbs_shiftRight_9 rfl (lv_at hl 0 rfl) ?_
      refine lv_aload_n hx hb d_Limbs_shiftRight_10 rfl (lv_at hl 2 rfl) ?_
      refine lv_bipush (v := nI 28) hx hb d_Limbs_shiftRight_11 (by decide) ?_
      refine lv_iload_n hx hb d_Limbs_shiftRight_13 rfl (lv_at hl 0 rfl) ?_
      refine lv_imul hx hb d_Limbs_shiftRight_14 ?_
      refine lv_iload_n hx hb d_Limbs_shiftRight_15 rfl (lv_at hl 3 rfl) ?_
      refine lv_iadd hx hb d_Limbs_shiftRight_16 ?_
      refine lv_bipush (v := nI 28) hx hb d_Limbs_shiftRight_17 (by decide) ?_
      refine q_cS (rest := [.int (nI i), .ref a]) E (c_Limbs_bits l g n0 b (((nI 28) * (nI i)) + by0) (nI 28)) w_271 w_5 w_269 w_270 hd_Limbs_bits rfl ⟨by decide, by decide⟩ (hk.j hP.2) hF hl.1 rfl (Nat.le_of_ble_eq_true rfl) d_Limbs_shiftRight_19 ⟨by decide, by decide⟩ (ql (fun r1 H1 locs hq hF => ?_))
      subst hq
      refine q_lastS E (hk.j hP.1) hF i rfl hi14 d_Limbs_shiftRight_22 (fun H2 locs hq hF => ?_)
      have hk := hk.tr hq
      refine lv_iinc (k := 0) (v := nI (i + 1)) (lv' := [(3, .int (nI (i + 1))), (0, .ref a), (1, .ref b), (2, .int by0)]) hx hb d_Limbs_shiftRight_23 hl rfl (i_inc i) (by decide) rfl (fun ls hl => ?_)
      refine lv_goto (tgt := 2) hx hb d_Limbs_shiftRight_26 (by decide) ?_
      have hl : lv_has ls 4 [(3, .int (nI (i + 1))), (0, .ref a), (1, .ref b), (2, .int by0)] := lv_sub hl [0, 1, 2, 3] rfl
      exact ih (i + 1) H2 locs ls (by omega) hk hF hl
  refine lv_iconst (v := nI 0) hx hb d_Limbs_shiftRight_0 (by decide) ?_
  refine lv_istore_n (lv' := [(3, .int (nI 0)), (0, .ref a), (1, .ref b), (2, .int by0)]) hx hb d_Limbs_shiftRight_1 rfl hl (by decide) rfl (fun ls hl => ?_)
  have hl : lv_has ls 4 [(3, .int (nI 0)), (0, .ref a), (1, .ref b), (2, .int by0)] := lv_sub hl [0, 1, 2, 3] rfl
  exact loop 14 0 s.heap [] ls rfl KJ.rf hF hl
set_option maxHeartbeats 4000000 in
set_option maxRecDepth 100000 in
theorem c_Limbs_fromLong (l : Launch) (g : WG) (n0 : Nat → Prop) (a : Nat) (v : Int64) : Ctr l y_Limbs_fromLong (.code y_Limbs_fromLong prog_5_method_3_code 3 none) 2 44 0 0 n0 g [.ref a, .long v] (fun H => J14 g n0 H a) (QV (fun H H' => KJ g (fun q => q = a) H H')) := by
  refine ctr_mk l (lv0 := [(0, .ref a), (1, .long v)]) (by decide) (Nat.le_of_ble_eq_true rfl) rfl ?_
  intro p e s m below meth c ls E hr hlk hnm hl hP
  have hx := E.1
  have hb := E.2.1
  have hK := E.2.2.2.2.2
  have hF : ∀ q ∈ ([] : List Loc), n0 q.base := fun q hq => absurd hq List.not_mem_nil
  have hk : KJ g (fun q => q = a) s.heap s.heap := KJ.rf
  refine lv_aload_n hx hb d_Limbs_fromLong_0 rfl (lv_at hl 0 rfl) ?_
  refine q_cS (rest := []) E (c_Limbs_clear l g n0 a) w_498 w_5 w_524 w_497 hd_Limbs_clear rfl ⟨by decide, by decide⟩ (hk.j hP) hF hl.1 rfl (Nat.le_of_ble_eq_true rfl) d_Limbs_fromLong_1 ⟨by decide, by decide⟩ (qv (fun H1 locs hq hF => ?_))
  have hq := hq.1
  have hk := hk.tr hq
  refine lv_aload_n hx hb d_Limbs_fromLong_4 rfl (lv_at hl 0 rfl) ?_
  refine lv_iconst (v := nI 0) hx hb d_Limbs_fromLong_5 (by decide) ?_
  refine lv_lload_n hx hb d_Limbs_fromLong_6 rfl (lv_at hl 1 rfl) ?_
  refine lv_ldc2 (v := 268435455) hx hb E.2.2.2.1 (E.2.2.2.2.1 _ w_509) d_Limbs_fromLong_7 ?_
  refine lv_land hx hb d_Limbs_fromLong_10 ?_
  refine lv_topl (fun v1 _ => ?_)
  refine q_lastS E (hk.j hP) hF 0 rfl (by decide) d_Limbs_fromLong_11 (fun H2 locs hq hF => ?_)
  have hk := hk.tr hq
  refine lv_aload_n hx hb d_Limbs_fromLong_12 rfl (lv_at hl 0 rfl) ?_
  refine lv_iconst (v := nI 1) hx hb d_Limbs_fromLong_13 (by decide) ?_
  refine lv_lload_n hx hb d_Limbs_fromLong_14 rfl (lv_at hl 1 rfl) ?_
  refine lv_bipush (v := nI 28) hx hb d_Limbs_fromLong_15 (by decide) ?_
  refine lv_lshr (v := v >>> ((nI 28).toInt64 &&& 63)) hx hb d_Limbs_fromLong_17 rfl ?_
  refine lv_ldc2 (v := 268435455) hx hb E.2.2.2.1 (E.2.2.2.2.1 _ w_509) d_Limbs_fromLong_18 ?_
  refine lv_land hx hb d_Limbs_fromLong_21 ?_
  refine lv_topl (fun v2 _ => ?_)
  refine q_lastS E (hk.j hP) hF 1 rfl (by decide) d_Limbs_fromLong_22 (fun H3 locs hq hF => ?_)
  have hk := hk.tr hq
  refine lv_aload_n hx hb d_Limbs_fromLong_23 rfl (lv_at hl 0 rfl) ?_
  refine lv_iconst (v := nI 2) hx hb d_Limbs_fromLong_24 (by decide) ?_
  refine lv_lload_n hx hb d_Limbs_fromLong_25 rfl (lv_at hl 1 rfl) ?_
  refine lv_bipush (v := nI 56) hx hb d_Limbs_fromLong_26 (by decide) ?_
  refine lv_lshr (v := v >>> ((nI 56).toInt64 &&& 63)) hx hb d_Limbs_fromLong_28 rfl ?_
  refine lv_topl (fun v3 _ => ?_)
  refine q_lastS E (hk.j hP) hF 2 rfl (by decide) d_Limbs_fromLong_29 (fun H4 locs hq hF => ?_)
  have hk := hk.tr hq
  exact q_vret E hr hlk (⟨rfl, hk⟩) hF d_Limbs_fromLong_30
end
section
theorem updL_z {f : Nat → Int64} {i : Nat} (h : ∀ j, j < i → f j = 0) : ∀ j, j < i + 1 → vp_updL f i 0 j = 0 := by
  intro j hj
  by_cases e : j = i
  · simp [vp_updL, e]
  · simp only [vp_updL, e, if_false]; exact h j (by omega)
abbrev y_Field_add : MethodName := ⟨"KateDesk$Field", "add", "([J[J[J)V"⟩
theorem hd_Field_add : y_Field_add.cls ≠ "java/lang/invoke/MethodHandle" ∧ y_Field_add.cls ≠ "java/lang/invoke/VarHandle" ∧ (parseMethodDescriptor y_Field_add.desc).map (fun d => d.parameters.length) = some 3 := by decide +kernel
theorem d_Field_add_0 : decode prog_3_method_4_code 0 = .ok (.lconst 0, 1) := by decide +kernel
theorem d_Field_add_1 : decode prog_3_method_4_code 1 = .ok (.lstore 4, 2) := by decide +kernel
theorem d_Field_add_3 : decode prog_3_method_4_code 3 = .ok (.iconst 0, 1) := by decide +kernel
theorem d_Field_add_4 : decode prog_3_method_4_code 4 = .ok (.istore 6, 2) := by decide +kernel
theorem d_Field_add_6 : decode prog_3_method_4_code 6 = .ok (.iload 6, 2) := by decide +kernel
theorem d_Field_add_8 : decode prog_3_method_4_code 8 = .ok (.bipush 14, 2) := by decide +kernel
theorem d_Field_add_10 : decode prog_3_method_4_code 10 = .ok (.if_icmp .ge 40, 3) := by decide +kernel
theorem d_Field_add_13 : decode prog_3_method_4_code 13 = .ok (.lload 4, 2) := by decide +kernel
theorem d_Field_add_15 : decode prog_3_method_4_code 15 = .ok (.aload_n 2, 1) := by decide +kernel
theorem d_Field_add_16 : decode prog_3_method_4_code 16 = .ok (.iload 6, 2) := by decide +kernel
theorem d_Field_add_18 : decode prog_3_method_4_code 18 = .ok (.laload, 1) := by decide +kernel
theorem d_Field_add_19 : decode prog_3_method_4_code 19 = .ok (.aload_n 3, 1) := by decide +kernel
theorem d_Field_add_20 : decode prog_3_method_4_code 20 = .ok (.iload 6, 2) := by decide +kernel
theorem d_Field_add_22 : decode prog_3_method_4_code 22 = .ok (.laload, 1) := by decide +kernel
theorem d_Field_add_23 : decode prog_3_method_4_code 23 = .ok (.ladd, 1) := by decide +kernel
theorem d_Field_add_24 : decode prog_3_method_4_code 24 = .ok (.ladd, 1) := by decide +kernel
theorem d_Field_add_25 : decode prog_3_method_4_code 25 = .ok (.lstore 4, 2) := by decide +kernel
theorem d_Field_add_27 : decode prog_3_method_4_code 27 = .ok (.aload_n 1, 1) := by decide +kernel
theorem d_Field_add_28 : decode prog_3_method_4_code 28 = .ok (.iload 6, 2) := by decide +kernel
theorem d_Field_add_30 : decode prog_3_method_4_code 30 = .ok (.lload 4, 2) := by decide +kernel
theorem d_Field_add_32 : decode prog_3_method_4_code 32 = .ok (.ldc2_w 59, 3) := by decide +kernel
theorem d_Field_add_35 : decode prog_3_method_4_code 35 = .ok (.land, 1) := by decide +kernel
theorem d_Field_add_36 : decode prog_3_method_4_code 36 = .ok (.lastore, 1) := by decide +kernel
theorem d_Field_add_37 : decode prog_3_method_4_code 37 = .ok (.lload 4, 2) := by decide +kernel
theorem d_Field_add_39 : decode prog_3_method_4_code 39 = .ok (.bipush 28, 2) := by decide +kernel
theorem d_Field_add_41 : decode prog_3_method_4_code 41 = .ok (.lshr, 1) := by decide +kernel
theorem d_Field_add_42 : decode prog_3_method_4_code 42 = .ok (.lstore 4, 2) := by decide +kernel
theorem d_Field_add_44 : decode prog_3_method_4_code 44 = .ok (.iinc 6 1, 3) := by decide +kernel
theorem d_Field_add_47 : decode prog_3_method_4_code 47 = .ok (.goto (-41), 3) := by decide +kernel
theorem d_Field_add_50 : decode prog_3_method_4_code 50 = .ok (.aload_n 0, 1) := by decide +kernel
theorem d_Field_add_51 : decode prog_3_method_4_code 51 = .ok (.aload_n 1, 1) := by decide +kernel
theorem d_Field_add_52 : decode prog_3_method_4_code 52 = .ok (.invokevirtual 64, 3) := by decide +kernel
theorem d_Field_add_55 : decode prog_3_method_4_code 55 = .ok (.return_, 1) := by decide +kernel
abbrev y_Field_subtract : MethodName := ⟨"KateDesk$Field", "subtract", "([J[J[J)V"⟩
theorem hd_Field_subtract : y_Field_subtract.cls ≠ "java/lang/invoke/MethodHandle" ∧ y_Field_subtract.cls ≠ "java/lang/invoke/VarHandle" ∧ (parseMethodDescriptor y_Field_subtract.desc).map (fun d => d.parameters.length) = some 3 := by decide +kernel
theorem d_Field_subtract_0 : decode prog_3_method_5_code 0 = .ok (.lconst 0, 1) := by decide +kernel
theorem d_Field_subtract_1 : decode prog_3_method_5_code 1 = .ok (.lstore 4, 2) := by decide +kernel
theorem d_Field_subtract_3 : decode prog_3_method_5_code 3 = .ok (.iconst 0, 1) := by decide +kernel
theorem d_Field_subtract_4 : decode prog_3_method_5_code 4 = .ok (.istore 6, 2) := by decide +kernel
theorem d_Field_subtract_6 : decode prog_3_method_5_code 6 = .ok (.iload 6, 2) := by decide +kernel
theorem d_Field_subtract_8 : decode prog_3_method_5_code 8 = .ok (.bipush 14, 2) := by decide +kernel
theorem d_Field_subtract_10 : decode prog_3_method_5_code 10 = .ok (.if_icmp .ge 40, 3) := by decide +kernel
theorem d_Field_subtract_13 : decode prog_3_method_5_code 13 = .ok (.lload 4, 2) := by decide +kernel
theorem d_Field_subtract_15 : decode prog_3_method_5_code 15 = .ok (.aload_n 2, 1) := by decide +kernel
theorem d_Field_subtract_16 : decode prog_3_method_5_code 16 = .ok (.iload 6, 2) := by decide +kernel
theorem d_Field_subtract_18 : decode prog_3_method_5_code 18 = .ok (.laload, 1) := by decide +kernel
theorem d_Field_subtract_19 : decode prog_3_method_5_code 19 = .ok (.aload_n 3, 1) := by decide +kernel
theorem d_Field_subtract_20 : decode prog_3_method_5_code 20 = .ok (.iload 6, 2) := by decide +kernel
theorem d_Field_subtract_22 : decode prog_3_method_5_code 22 = .ok (.laload, 1) := by decide +kernel
theorem d_Field_subtract_23 : decode prog_3_method_5_code 23 = .ok (.lsub, 1) := by decide +kernel
theorem d_Field_subtract_24 : decode prog_3_method_5_code 24 = .ok (.ladd, 1) := by decide +kernel
theorem d_Field_subtract_25 : decode prog_3_method_5_code 25 = .ok (.lstore 4, 2) := by decide +kernel
theorem d_Field_subtract_27 : decode prog_3_method_5_code 27 = .ok (.aload_n 1, 1) := by decide +kernel
theorem d_Field_subtract_28 : decode prog_3_method_5_code 28 = .ok (.iload 6, 2) := by decide +kernel
theorem d_Field_subtract_30 : decode prog_3_method_5_code 30 = .ok (.lload 4, 2) := by decide +kernel
theorem d_Field_subtract_32 : decode prog_3_method_5_code 32 = .ok (.ldc2_w 59, 3) := by decide +kernel
theorem d_Field_subtract_35 : decode prog_3_method_5_code 35 = .ok (.land, 1) := by decide +kernel
theorem d_Field_subtract_36 : decode prog_3_method_5_code 36 = .ok (.lastore, 1) := by decide +kernel
theorem d_Field_subtract_37 : decode prog_3_method_5_code 37 = .ok (.lload 4, 2) := by decide +kernel
theorem d_Field_subtract_39 : decode prog_3_method_5_code 39 = .ok (.bipush 28, 2) := by decide +kernel
theorem d_Field_subtract_41 : decode prog_3_method_5_code 41 = .ok (.lshr, 1) := by decide +kernel
theorem d_Field_subtract_42 : decode prog_3_method_5_code 42 = .ok (.lstore 4, 2) := by decide +kernel
theorem d_Field_subtract_44 : decode prog_3_method_5_code 44 = .ok (.iinc 6 1, 3) := by decide +kernel
theorem d_Field_subtract_47 : decode prog_3_method_5_code 47 = .ok (.goto (-41), 3) := by decide +kernel
theorem d_Field_subtract_50 : decode prog_3_method_5_code 50 = .ok (.lload 4, 2) := by decide +kernel
theorem d_Field_subtract_52 : decode prog_3_method_5_code 52 = .ok (.lconst 0, 1) := by decide +kernel
theorem d_Field_subtract_53 : decode prog_3_method_5_code 53 = .ok (.lcmp, 1) := by decide +kernel
theorem d_Field_subtract_54 : decode prog_3_method_5_code 54 = .ok (.ifCond .ne 4, 3) := by decide +kernel
theorem d_Field_subtract_57 : decode prog_3_method_5_code 57 = .ok (.return_, 1) := by decide +kernel
theorem d_Field_subtract_58 : decode prog_3_method_5_code 58 = .ok (.lconst 0, 1) := by decide +kernel
theorem d_Field_subtract_59 : decode prog_3_method_5_code 59 = .ok (.lstore 4, 2) := by decide +kernel
theorem d_Field_subtract_61 : decode prog_3_method_5_code 61 = .ok (.iconst 0, 1) := by decide +kernel
theorem d_Field_subtract_62 : decode prog_3_method_5_code 62 = .ok (.istore 6, 2) := by decide +kernel
theorem d_Field_subtract_64 : decode prog_3_method_5_code 64 = .ok (.iload 6, 2) := by decide +kernel
theorem d_Field_subtract_66 : decode prog_3_method_5_code 66 = .ok (.bipush 14, 2) := by decide +kernel
theorem d_Field_subtract_68 : decode prog_3_method_5_code 68 = .ok (.if_icmp .ge 43, 3) := by decide +kernel
theorem d_Field_subtract_71 : decode prog_3_method_5_code 71 = .ok (.lload 4, 2) := by decide +kernel
theorem d_Field_subtract_73 : decode prog_3_method_5_code 73 = .ok (.aload_n 1, 1) := by decide +kernel
theorem d_Field_subtract_74 : decode prog_3_method_5_code 74 = .ok (.iload 6, 2) := by decide +kernel
theorem d_Field_subtract_76 : decode prog_3_method_5_code 76 = .ok (.laload, 1) := by decide +kernel
theorem d_Field_subtract_77 : decode prog_3_method_5_code 77 = .ok (.aload_n 0, 1) := by decide +kernel
theorem d_Field_subtract_78 : decode prog_3_method_5_code 78 = .ok (.getfield 31, 3) := by decide +kernel
theorem d_Field_subtract_81 : decode prog_3_method_5_code 81 = .ok (.iload 6, 2) := by decide +kernel
theorem d_Field_subtract_83 : decode prog_3_method_5_code 83 = .ok (.laload, 1) := by decide +kernel
theorem d_Field_subtract_84 : decode prog_3_method_5_code 84 = .ok (.ladd, 1) := by decide +kernel
theorem d_Field_subtract_85 : decode prog_3_method_5_code 85 = .ok (.ladd, 1) := by decide +kernel
theorem d_Field_subtract_86 : decode prog_3_method_5_code 86 = .ok (.lstore 4, 2) := by decide +kernel
theorem d_Field_subtract_88 : decode prog_3_method_5_code 88 = .ok (.aload_n 1, 1) := by decide +kernel
theorem d_Field_subtract_89 : decode prog_3_method_5_code 89 = .ok (.iload 6, 2) := by decide +kernel
theorem d_Field_subtract_91 : decode prog_3_method_5_code 91 = .ok (.lload 4, 2) := by decide +kernel
theorem d_Field_subtract_93 : decode prog_3_method_5_code 93 = .ok (.ldc2_w 59, 3) := by decide +kernel
theorem d_Field_subtract_96 : decode prog_3_method_5_code 96 = .ok (.land, 1) := by decide +kernel
theorem d_Field_subtract_97 : decode prog_3_method_5_code 97 = .ok (.lastore, 1) := by decide +kernel
theorem d_Field_subtract_98 : decode prog_3_method_5_code 98 = .ok (.lload 4, 2) := by decide +kernel
theorem d_Field_subtract_100 : decode prog_3_method_5_code 100 = .ok (.bipush 28, 2) := by decide +kernel
theorem d_Field_subtract_102 : decode prog_3_method_5_code 102 = .ok (.lshr, 1) := by decide +kernel
theorem d_Field_subtract_103 : decode prog_3_method_5_code 103 = .ok (.lstore 4, 2) := by decide +kernel
theorem d_Field_subtract_105 : decode prog_3_method_5_code 105 = .ok (.iinc 6 1, 3) := by decide +kernel
theorem d_Field_subtract_108 : decode prog_3_method_5_code 108 = .ok (.goto (-44), 3) := by decide +kernel
theorem d_Field_subtract_111 : decode prog_3_method_5_code 111 = .ok (.return_, 1) := by decide +kernel
abbrev y_Field_negate : MethodName := ⟨"KateDesk$Field", "negate", "([J[J)V"⟩
theorem hd_Field_negate : y_Field_negate.cls ≠ "java/lang/invoke/MethodHandle" ∧ y_Field_negate.cls ≠ "java/lang/invoke/VarHandle" ∧ (parseMethodDescriptor y_Field_negate.desc).map (fun d => d.parameters.length) = some 2 := by decide +kernel
theorem d_Field_negate_0 : decode prog_3_method_6_code 0 = .ok (.aload_n 0, 1) := by decide +kernel
theorem d_Field_negate_1 : decode prog_3_method_6_code 1 = .ok (.getfield 24, 3) := by decide +kernel
theorem d_Field_negate_4 : decode prog_3_method_6_code 4 = .ok (.invokestatic 68, 3) := by decide +kernel
theorem d_Field_negate_7 : decode prog_3_method_6_code 7 = .ok (.aload_n 0, 1) := by decide +kernel
theorem d_Field_negate_8 : decode prog_3_method_6_code 8 = .ok (.aload_n 1, 1) := by decide +kernel
theorem d_Field_negate_9 : decode prog_3_method_6_code 9 = .ok (.aload_n 0, 1) := by decide +kernel
theorem d_Field_negate_10 : decode prog_3_method_6_code 10 = .ok (.getfield 24, 3) := by decide +kernel
theorem d_Field_negate_13 : decode prog_3_method_6_code 13 = .ok (.aload_n 2, 1) := by decide +kernel
theorem d_Field_negate_14 : decode prog_3_method_6_code 14 = .ok (.invokevirtual 54, 3) := by decide +kernel
theorem d_Field_negate_17 : decode prog_3_method_6_code 17 = .ok (.return_, 1) := by decide +kernel
abbrev y_Field_lift : MethodName := ⟨"KateDesk$Field", "lift", "([J[J)V"⟩
theorem hd_Field_lift : y_Field_lift.cls ≠ "java/lang/invoke/MethodHandle" ∧ y_Field_lift.cls ≠ "java/lang/invoke/VarHandle" ∧ (parseMethodDescriptor y_Field_lift.desc).map (fun d => d.parameters.length) = some 2 := by decide +kernel
theorem d_Field_lift_0 : decode prog_3_method_9_code 0 = .ok (.aload_n 0, 1) := by decide +kernel
theorem d_Field_lift_1 : decode prog_3_method_9_code 1 = .ok (.aload_n 1, 1) := by decide +kernel
theorem d_Field_lift_2 : decode prog_3_method_9_code 2 = .ok (.aload_n 2, 1) := by decide +kernel
theorem d_Field_lift_3 : decode prog_3_method_9_code 3 = .ok (.aload_n 0, 1) := by decide +kernel
theorem d_Field_lift_4 : decode prog_3_method_9_code 4 = .ok (.getfield 18, 3) := by decide +kernel
theorem d_Field_lift_7 : decode prog_3_method_9_code 7 = .ok (.invokevirtual 50, 3) := by decide +kernel
theorem d_Field_lift_10 : decode prog_3_method_9_code 10 = .ok (.return_, 1) := by decide +kernel
abbrev y_Field_lower : MethodName := ⟨"KateDesk$Field", "lower", "([J[J)V"⟩
theorem hd_Field_lower : y_Field_lower.cls ≠ "java/lang/invoke/MethodHandle" ∧ y_Field_lower.cls ≠ "java/lang/invoke/VarHandle" ∧ (parseMethodDescriptor y_Field_lower.desc).map (fun d => d.parameters.length) = some 2 := by decide +kernel
theorem d_Field_lower_0 : decode prog_3_method_10_code 0 = .ok (.aload_n 0, 1) := by decide +kernel
theorem d_Field_lower_1 : decode prog_3_method_10_code 1 = .ok (.aload_n 1, 1) := by decide +kernel
theorem d_Field_lower_2 : decode prog_3_method_10_code 2 = .ok (.aload_n 2, 1) := by decide +kernel
theorem d_Field_lower_3 : decode prog_3_method_10_code 3 = .ok (.aload_n 0, 1) := by decide +kernel
theorem d_Field_lower_4 : decode prog_3_method_10_code 4 = .ok (.getfield 15, 3) := by decide +kernel
theorem d_Field_lower_7 : decode prog_3_method_10_code 7 = .ok (.invokevirtual 50, 3) := by decide +kernel
theorem d_Field_lower_10 : decode prog_3_method_10_code 10 = .ok (.return_, 1) := by decide +kernel
abbrev y_Field_raise : MethodName := ⟨"KateDesk$Field", "raise", "([J[J[J)V"⟩
theorem hd_Field_raise : y_Field_raise.cls ≠ "java/lang/invoke/MethodHandle" ∧ y_Field_raise.cls ≠ "java/lang/invoke/VarHandle" ∧ (parseMethodDescriptor y_Field_raise.desc).map (fun d => d.parameters.length) = some 3 := by decide +kernel
theorem d_Field_raise_0 : decode prog_3_method_11_code 0 = .ok (.aload_n 0, 1) := by decide +kernel
theorem d_Field_raise_1 : decode prog_3_method_11_code 1 = .ok (.getfield 24, 3) := by decide +kernel
theorem d_Field_raise_4 : decode prog_3_method_11_code 4 = .ok (.aload_n 2, 1) := by decide +kernel
theorem d_Field_raise_5 : decode prog_3_method_11_code 5 = .ok (.invokestatic 42, 3) := by decide +kernel
theorem d_Field_raise_8 : decode prog_3_method_11_code 8 = .ok (.aload_n 1, 1) := by decide +kernel
theorem d_Field_raise_9 : decode prog_3_method_11_code 9 = .ok (.aload_n 0, 1) := by decide +kernel
theorem d_Field_raise_10 : decode prog_3_method_11_code 10 = .ok (.getfield 9, 3) := by decide +kernel
theorem d_Field_raise_13 : decode prog_3_method_11_code 13 = .ok (.invokestatic 42, 3) := by decide +kernel
theorem d_Field_raise_16 : decode prog_3_method_11_code 16 = .ok (.iconst 0, 1) := by decide +kernel
theorem d_Field_raise_17 : decode prog_3_method_11_code 17 = .ok (.istore 4, 2) := by decide +kernel
theorem d_Field_raise_19 : decode prog_3_method_11_code 19 = .ok (.sipush 391, 3) := by decide +kernel
theorem d_Field_raise_22 : decode prog_3_method_11_code 22 = .ok (.istore 5, 2) := by decide +kernel
theorem d_Field_raise_24 : decode prog_3_method_11_code 24 = .ok (.iload 5, 2) := by decide +kernel
theorem d_Field_raise_26 : decode prog_3_method_11_code 26 = .ok (.ifCond .lt 46, 3) := by decide +kernel
theorem d_Field_raise_29 : decode prog_3_method_11_code 29 = .ok (.iload 4, 2) := by decide +kernel
theorem d_Field_raise_31 : decode prog_3_method_11_code 31 = .ok (.ifCond .eq 10, 3) := by decide +kernel
theorem d_Field_raise_34 : decode prog_3_method_11_code 34 = .ok (.aload_n 0, 1) := by decide +kernel
theorem d_Field_raise_35 : decode prog_3_method_11_code 35 = .ok (.aload_n 1, 1) := by decide +kernel
theorem d_Field_raise_36 : decode prog_3_method_11_code 36 = .ok (.aload_n 1, 1) := by decide +kernel
theorem d_Field_raise_37 : decode prog_3_method_11_code 37 = .ok (.aload_n 1, 1) := by decide +kernel
theorem d_Field_raise_38 : decode prog_3_method_11_code 38 = .ok (.invokevirtual 50, 3) := by decide +kernel
theorem d_Field_raise_41 : decode prog_3_method_11_code 41 = .ok (.aload_n 3, 1) := by decide +kernel
theorem d_Field_raise_42 : decode prog_3_method_11_code 42 = .ok (.iload 5, 2) := by decide +kernel
theorem d_Field_raise_44 : decode prog_3_method_11_code 44 = .ok (.iconst 1, 1) := by decide +kernel
theorem d_Field_raise_45 : decode prog_3_method_11_code 45 = .ok (.invokestatic 71, 3) := by decide +kernel
theorem d_Field_raise_48 : decode prog_3_method_11_code 48 = .ok (.lconst 1, 1) := by decide +kernel
theorem d_Field_raise_49 : decode prog_3_method_11_code 49 = .ok (.lcmp, 1) := by decide +kernel
theorem d_Field_raise_50 : decode prog_3_method_11_code 50 = .ok (.ifCond .ne 16, 3) := by decide +kernel
theorem d_Field_raise_53 : decode prog_3_method_11_code 53 = .ok (.aload_n 0, 1) := by decide +kernel
theorem d_Field_raise_54 : decode prog_3_method_11_code 54 = .ok (.aload_n 1, 1) := by decide +kernel
theorem d_Field_raise_55 : decode prog_3_method_11_code 55 = .ok (.aload_n 1, 1) := by decide +kernel
theorem d_Field_raise_56 : decode prog_3_method_11_code 56 = .ok (.aload_n 0, 1) := by decide +kernel
theorem d_Field_raise_57 : decode prog_3_method_11_code 57 = .ok (.getfield 24, 3) := by decide +kernel
theorem d_Field_raise_60 : decode prog_3_method_11_code 60 = .ok (.invokevirtual 50, 3) := by decide +kernel
theorem d_Field_raise_63 : decode prog_3_method_11_code 63 = .ok (.iconst 1, 1) := by decide +kernel
theorem d_Field_raise_64 : decode prog_3_method_11_code 64 = .ok (.istore 4, 2) := by decide +kernel
theorem d_Field_raise_66 : decode prog_3_method_11_code 66 = .ok (.iinc 5 (-1), 3) := by decide +kernel
theorem d_Field_raise_69 : decode prog_3_method_11_code 69 = .ok (.goto (-45), 3) := by decide +kernel
theorem d_Field_raise_72 : decode prog_3_method_11_code 72 = .ok (.return_, 1) := by decide +kernel
abbrev y_Field_doubled : MethodName := ⟨"KateDesk$Field", "doubled", "([JI)V"⟩
theorem hd_Field_doubled : y_Field_doubled.cls ≠ "java/lang/invoke/MethodHandle" ∧ y_Field_doubled.cls ≠ "java/lang/invoke/VarHandle" ∧ (parseMethodDescriptor y_Field_doubled.desc).map (fun d => d.parameters.length) = some 2 := by decide +kernel
theorem d_Field_doubled_0 : decode prog_3_method_3_code 0 = .ok (.iconst 0, 1) := by decide +kernel
theorem d_Field_doubled_1 : decode prog_3_method_3_code 1 = .ok (.istore_n 3, 1) := by decide +kernel
theorem d_Field_doubled_2 : decode prog_3_method_3_code 2 = .ok (.iload_n 3, 1) := by decide +kernel
theorem d_Field_doubled_3 : decode prog_3_method_3_code 3 = .ok (.iload_n 2, 1) := by decide +kernel
theorem d_Field_doubled_4 : decode prog_3_method_3_code 4 = .ok (.if_icmp .ge 16, 3) := by decide +kernel
theorem d_Field_doubled_7 : decode prog_3_method_3_code 7 = .ok (.aload_n 0, 1) := by decide +kernel
theorem d_Field_doubled_8 : decode prog_3_method_3_code 8 = .ok (.aload_n 1, 1) := by decide +kernel
theorem d_Field_doubled_9 : decode prog_3_method_3_code 9 = .ok (.aload_n 1, 1) := by decide +kernel
theorem d_Field_doubled_10 : decode prog_3_method_3_code 10 = .ok (.aload_n 1, 1) := by decide +kernel
theorem d_Field_doubled_11 : decode prog_3_method_3_code 11 = .ok (.invokevirtual 61, 3) := by decide +kernel
theorem d_Field_doubled_14 : decode prog_3_method_3_code 14 = .ok (.iinc 3 1, 3) := by decide +kernel
theorem d_Field_doubled_17 : decode prog_3_method_3_code 17 = .ok (.goto (-15), 3) := by decide +kernel
theorem d_Field_doubled_20 : decode prog_3_method_3_code 20 = .ok (.return_, 1) := by decide +kernel
abbrev y_Field_minusInverseOf : MethodName := ⟨"KateDesk$Field", "minusInverseOf", "(J)J"⟩
theorem hd_Field_minusInverseOf : y_Field_minusInverseOf.cls ≠ "java/lang/invoke/MethodHandle" ∧ y_Field_minusInverseOf.cls ≠ "java/lang/invoke/VarHandle" ∧ (parseMethodDescriptor y_Field_minusInverseOf.desc).map (fun d => d.parameters.length) = some 1 := by decide +kernel
theorem d_Field_minusInverseOf_0 : decode prog_3_method_2_code 0 = .ok (.lconst 1, 1) := by decide +kernel
theorem d_Field_minusInverseOf_1 : decode prog_3_method_2_code 1 = .ok (.lstore_n 2, 1) := by decide +kernel
theorem d_Field_minusInverseOf_2 : decode prog_3_method_2_code 2 = .ok (.iconst 0, 1) := by decide +kernel
theorem d_Field_minusInverseOf_3 : decode prog_3_method_2_code 3 = .ok (.istore 4, 2) := by decide +kernel
theorem d_Field_minusInverseOf_5 : decode prog_3_method_2_code 5 = .ok (.iload 4, 2) := by decide +kernel
theorem d_Field_minusInverseOf_7 : decode prog_3_method_2_code 7 = .ok (.iconst 5, 1) := by decide +kernel
theorem d_Field_minusInverseOf_8 : decode prog_3_method_2_code 8 = .ok (.if_icmp .ge 19, 3) := by decide +kernel
theorem d_Field_minusInverseOf_11 : decode prog_3_method_2_code 11 = .ok (.lload_n 2, 1) := by decide +kernel
theorem d_Field_minusInverseOf_12 : decode prog_3_method_2_code 12 = .ok (.ldc2_w 57, 3) := by decide +kernel
theorem d_Field_minusInverseOf_15 : decode prog_3_method_2_code 15 = .ok (.lload_n 0, 1) := by decide +kernel
theorem d_Field_minusInverseOf_16 : decode prog_3_method_2_code 16 = .ok (.lload_n 2, 1) := by decide +kernel
theorem d_Field_minusInverseOf_17 : decode prog_3_method_2_code 17 = .ok (.lmul, 1) := by decide +kernel
theorem d_Field_minusInverseOf_18 : decode prog_3_method_2_code 18 = .ok (.lsub, 1) := by decide +kernel
theorem d_Field_minusInverseOf_19 : decode prog_3_method_2_code 19 = .ok (.lmul, 1) := by decide +kernel
theorem d_Field_minusInverseOf_20 : decode prog_3_method_2_code 20 = .ok (.lstore_n 2, 1) := by decide +kernel
theorem d_Field_minusInverseOf_21 : decode prog_3_method_2_code 21 = .ok (.iinc 4 1, 3) := by decide +kernel
theorem d_Field_minusInverseOf_24 : decode prog_3_method_2_code 24 = .ok (.goto (-19), 3) := by decide +kernel
theorem d_Field_minusInverseOf_27 : decode prog_3_method_2_code 27 = .ok (.lload_n 2, 1) := by decide +kernel
theorem d_Field_minusInverseOf_28 : decode prog_3_method_2_code 28 = .ok (.lneg, 1) := by decide +kernel
theorem d_Field_minusInverseOf_29 : decode prog_3_method_2_code 29 = .ok (.ldc2_w 59, 3) := by decide +kernel
theorem d_Field_minusInverseOf_32 : decode prog_3_method_2_code 32 = .ok (.land, 1) := by decide +kernel
theorem d_Field_minusInverseOf_33 : decode prog_3_method_2_code 33 = .ok (.lreturn, 1) := by decide +kernel
set_option maxHeartbeats 4000000 in
set_option maxRecDepth 100000 in
/-- a sum: only t is written -/
theorem c_Field_add (l : Launch) (g : WG) (n0 : Nat → Prop) (o t a b : Nat) (F : Nat → Nat) (mi : Int64) : Ctr l y_Field_add (.code y_Field_add prog_3_method_4_code 7 none) 1 24 0 0 n0 g [.ref o, .ref t, .ref a, .ref b] (fun H => FD g n0 H o F mi ∧ J14 g n0 H t ∧ J14 g n0 H a ∧ J14 g n0 H b) (QV (fun H H' => KJ g (fun q => q = t) H H')) := by
  refine ctr_mk l (lv0 := [(0, .ref o), (1, .ref t), (2, .ref a), (3, .ref b)]) (by decide) (Nat.le_of_ble_eq_true rfl) rfl ?_
  intro p e s m below meth c ls E hr hlk hnm hl hP
  have hx := E.1
  have hb := E.2.1
  have hK := E.2.2.2.2.2
  have hF : ∀ q ∈ ([] : List Loc), n0 q.base := fun q hq => absurd hq List.not_mem_nil
  obtain ⟨hfd, ht, ha, hb0⟩ := hP
  have loop : ∀ (k : Nat) (i : Nat) (H : Heap) (locs : List Loc) (ls : Array Slot) (cr : Int64), i + k = 14 → KJ g (fun q => q = t) s.heap H → (∀ q ∈ locs, n0 q.base) → lv_has ls 7 [(6, .int (nI i)), (4, .long cr), (0, .ref o), (1, .ref t), (2, .ref a), (3, .ref b)] → W p l e { frames := 1, cells := 0, slots := 0, locals := 24 } s m [.ref o, .ref t, .ref a, .ref b].toArray below meth c H locs 0 0 (MQ below (QcP (QV (fun H H' => KJ g (fun q => q = t) H H'))) [.ref o, .ref t, .ref a, .ref b].toArray s 0 0 (fun q => n0 q)) (F0 m 6 ls []) := by
    intro k
    induction k with
    | zero =>
      intro  i   H   locs   ls   cr hi hk hF hl
      obtain rfl : i = 14 := by omega
      refine lv_iload hx hb d_Field_add_6 (lv_at hl 0 rfl) ?_
      refine lv_bipush (v := nI 14) hx hb d_Field_add_8 (by decide) ?_
      refine lv_icmp_ge (tgt := 50) hx hb d_Field_add_10 (by decide) (fun _ => ?_) (fun h9 => absurd (by decide) h9)
      refine lv_aload_n hx hb d_Field_add_50 rfl (lv_at hl 2 rfl) ?_
      refine lv_aload_n hx hb d_Field_add_51 rfl (lv_at hl 3 rfl) ?_
      refine q_cV (rest := []) E (c_Field_reduce l g n0 o t F mi) w_161 w_4 w_158 w_160 (bw_s 1 rfl) hd_Field_reduce rfl ⟨by decide, by decide⟩ (OB.recv E.2.2.2.2.2 (by rfl) ((hk.fd hK hfd).1)) (⟨hk.fd hK hfd, hk.j ht⟩) hF hl.1 rfl (Nat.le_of_ble_eq_true rfl) d_Field_add_52 ⟨by decide, by decide⟩ (qv (fun H1 locs hq hF => ?_))
      have hk := hk.tr hq
      exact q_vret E hr hlk (⟨rfl, hk⟩) hF d_Field_add_55
    | succ k ih =>
      intro  i   H   locs   ls   cr hi hk hF hl
      have hi14 : i < 14 := by omega
      refine lv_iload hx hb d_Field_add_6 (lv_at hl 0 rfl) ?_
      refine lv_bipush (v := nI 14) hx hb d_Field_add_8 (by decide) ?_
      refine lv_icmp_ge (tgt := 50) hx hb d_Field_add_10 (by decide) (fun h9 => absurd h9 (nI_ge hi14 (by decide))) (fun _ => ?_)
      refine lv_lload hx hb d_Field_add_13 (lv_at hl 1 rfl) ?_
      refine lv_aload_n hx hb d_Field_add_15 rfl (lv_at hl 4 rfl) ?_
      refine lv_iload hx hb d_Field_add_16 (lv_at hl 0 rfl) ?_
      refine q_laldS E (hk.j ha) i rfl hi14 d_Field_add_18 (fun v1 => ?_)
      refine lv_aload_n hx hb d_Field_add_19 rfl (lv_at hl 5 rfl) ?_
      refine lv_iload hx hb d_Field_add_20 (lv_at hl 0 rfl) ?_
      refine q_laldS E (hk.j hb0) i rfl hi14 d_Field_add_22 (fun v2 => ?_)
      refine lv_ladd hx hb d_Field_add_23 ?_
      refine lv_ladd hx hb d_Field_add_24 ?_
      refine lv_topl (fun v3 _ => ?_)
      refine lv_lstore (lv' := [(4, .long v3), (6, .int (nI i)), (0, .ref o), (1, .ref t), (2, .ref a), (3, .ref b)]) hx hb d_Field_add_25 hl (by decide) rfl (fun ls hl => ?_)
      refine lv_aload_n hx hb d_Field_add_27 rfl (lv_at hl 3 rfl) ?_
      refine lv_iload hx hb d_Field_add_28 (lv_at hl 1 rfl) ?_
      refine lv_lload hx hb d_Field_add_30 (lv_at hl 0 rfl) ?_
      refine lv_ldc2 (v := 268435455) hx hb E.2.2.2.1 (E.2.2.2.2.1 _ w_143) d_Field_add_32 ?_
      refine lv_land hx hb d_Field_add_35 ?_
      refine lv_topl (fun v4 _ => ?_)
      refine q_lastS E (hk.j ht) hF i rfl hi14 d_Field_add_36 (fun H1 locs hq hF => ?_)
      have hk := hk.tr hq
      refine lv_lload hx hb d_Field_add_37 (lv_at hl 0 rfl) ?_
      refine lv_bipush (v := nI 28) hx hb d_Field_add_39 (by decide) ?_
      refine lv_lshr (v := v3 >>> ((nI 28).toInt64 &&& 63)) hx hb d_Field_add_41 rfl ?_
      refine lv_topl (fun v5 _ => ?_)
      refine lv_lstore (lv' := [(4, .long v5), (6, .int (nI i)), (0, .ref o), (1, .ref t), (2, .ref a), (3, .ref b)]) hx hb d_Field_add_42 hl (by decide) rfl (fun ls hl => ?_)
      refine lv_iinc (k := 1) (v := nI (i + 1)) (lv' := [(6, .int (nI (i + 1))), (4, .long v5), (0, .ref o), (1, .ref t), (2, .ref a), (3, .ref b)]) hx hb d_Field_add_44 hl rfl (i_inc i) (by decide) rfl (fun ls hl => ?_)
      refine lv_goto (tgt := 6) hx hb d_Field_add_47 (by decide) ?_
      have hl : lv_has ls 7 [(6, .int (nI (i + 1))), (4, .long v5), (0, .ref o), (1, .ref t), (2, .ref a), (3, .ref b)] := lv_sub hl [0, 1, 2, 3, 4, 5] rfl
      exact ih (i + 1) H1 locs ls _ (by omega) hk hF hl
  refine lv_lconst (v := 0) hx hb d_Field_add_0 (by decide) ?_
  refine lv_lstore (lv' := [(4, .long 0), (0, .ref o), (1, .ref t), (2, .ref a), (3, .ref b)]) hx hb d_Field_add_1 hl (by decide) rfl (fun ls hl => ?_)
  refine lv_iconst (v := nI 0) hx hb d_Field_add_3 (by decide) ?_
  refine lv_istore (lv' := [(6, .int (nI 0)), (4, .long 0), (0, .ref o), (1, .ref t), (2, .ref a), (3, .ref b)]) hx hb d_Field_add_4 hl (by decide) rfl (fun ls hl => ?_)
  have hl : lv_has ls 7 [(6, .int (nI 0)), (4, .long 0), (0, .ref o), (1, .ref t), (2, .ref a), (3, .ref b)] := lv_sub hl [0, 1, 2, 3, 4, 5] rfl
  exact loop 14 0 s.heap [] ls 0 rfl KJ.rf hF hl
set_option maxHeartbeats 4000000 in
set_option maxRecDepth 100000 in
/-- a difference: only t is written -/
theorem c_Field_subtract (l : Launch) (g : WG) (n0 : Nat → Prop) (o t a b : Nat) (F : Nat → Nat) (mi : Int64) : Ctr l y_Field_subtract (.code y_Field_subtract prog_3_method_5_code 7 none) 0 0 0 0 n0 g [.ref o, .ref t, .ref a, .ref b] (fun H => FD g n0 H o F mi ∧ J14 g n0 H t ∧ J14 g n0 H a ∧ J14 g n0 H b) (QV (fun H H' => KJ g (fun q => q = t) H H')) := by
  refine ctr_mk l (lv0 := [(0, .ref o), (1, .ref t), (2, .ref a), (3, .ref b)]) (by decide) (Nat.le_of_ble_eq_true rfl) rfl ?_
  intro p e s m below meth c ls E hr hlk hnm hl hP
  have hx := E.1
  have hb := E.2.1
  have hK := E.2.2.2.2.2
  have hF : ∀ q ∈ ([] : List Loc), n0 q.base := fun q hq => absurd hq List.not_mem_nil
  obtain ⟨hfd, ht, ha, hb0⟩ := hP
  have loop2 : ∀ (k : Nat) (i : Nat) (H : Heap) (locs : List Loc) (ls : Array Slot) (cr : Int64), i + k = 14 → KJ g (fun q => q = t) s.heap H → (∀ q ∈ locs, n0 q.base) → lv_has ls 7 [(6, .int (nI i)), (4, .long cr), (0, .ref o), (1, .ref t), (2, .ref a), (3, .ref b)] → W p l e { frames := 0, cells := 0, slots := 0, locals := 0 } s m [.ref o, .ref t, .ref a, .ref b].toArray below meth c H locs 0 0 (MQ below (QcP (QV (fun H H' => KJ g (fun q => q = t) H H'))) [.ref o, .ref t, .ref a, .ref b].toArray s 0 0 (fun q => n0 q)) (F0 m 64 ls []) := by
    intro k
    induction k with
    | zero =>
      intro  i   H   locs   ls   cr hi hk hF hl
      obtain rfl : i = 14 := by omega
      refine lv_iload hx hb d_Field_subtract_64 (lv_at hl 0 rfl) ?_
      refine lv_bipush (v := nI 14) hx hb d_Field_subtract_66 (by decide) ?_
      refine lv_icmp_ge (tgt := 111) hx hb d_Field_subtract_68 (by decide) (fun _ => ?_) (fun h9 => absurd (by decide) h9)
      exact q_vret E hr hlk (⟨rfl, hk⟩) hF d_Field_subtract_111
    | succ k ih =>
      intro  i   H   locs   ls   cr hi hk hF hl
      have hi14 : i < 14 := by omega
      refine lv_iload hx hb d_Field_subtract_64 (lv_at hl 0 rfl) ?_
      refine lv_bipush (v := nI 14) hx hb d_Field_subtract_66 (by decide) ?_
      refine lv_icmp_ge (tgt := 111) hx hb d_Field_subtract_68 (by decide) (fun h9 => absurd h9 (nI_ge hi14 (by decide))) (fun _ => ?_)
      refine lv_lload hx hb d_Field_subtract_71 (lv_at hl 1 rfl) ?_
      refine lv_aload_n hx hb d_Field_subtract_73 rfl (lv_at hl 3 rfl) ?_
      refine lv_iload hx hb d_Field_subtract_74 (lv_at hl 0 rfl) ?_
      refine q_laldS E (hk.j ht) i rfl hi14 d_Field_subtract_76 (fun v1 => ?_)
      refine lv_aload_n hx hb d_Field_subtract_77 rfl (lv_at hl 2 rfl) ?_
      refine q_get (C := "KateDesk$Field") (T := T_Field) (N := 7) (ci := 1) E ((hk.fd hK hfd).1) in_Field rfl 0 (by decide) w_170 rfl rfl d_Field_subtract_78 ?_
      refine lv_iload hx hb d_Field_subtract_81 (lv_at hl 0 rfl) ?_
      refine q_laldS E ((hk.fd hK hfd).2 0 (by decide)) i rfl hi14 d_Field_subtract_83 (fun v2 => ?_)
      refine lv_ladd hx hb d_Field_subtract_84 ?_
      refine lv_ladd hx hb d_Field_subtract_85 ?_
      refine lv_topl (fun v3 _ => ?_)
      refine lv_lstore (lv' := [(4, .long v3), (6, .int (nI i)), (0, .ref o), (1, .ref t), (2, .ref a), (3, .ref b)]) hx hb d_Field_subtract_86 hl (by decide) rfl (fun ls hl => ?_)
      refine lv_aload_n hx hb d_Field_subtract_88 rfl (lv_at hl 3 rfl) ?_
      refine lv_iload hx hb d_Field_subtract_89 (lv_at hl 1 rfl) ?_
      refine lv_lload hx hb d_Field_subtract_91 (lv_at hl 0 rfl) ?_
      refine lv_ldc2 (v := 268435455) hx hb E.2.2.2.1 (E.2.2.2.2.1 _ w_143) d_Field_subtract_93 ?_
      refine lv_land hx hb d_Field_subtract_96 ?_
      refine lv_topl (fun v4 _ => ?_)
      refine q_lastS E (hk.j ht) hF i rfl hi14 d_Field_subtract_97 (fun H1 locs hq hF => ?_)
      have hk := hk.tr hq
      refine lv_lload hx hb d_Field_subtract_98 (lv_at hl 0 rfl) ?_
      refine lv_bipush (v := nI 28) hx hb d_Field_subtract_100 (by decide) ?_
      refine lv_lshr (v := v3 >>> ((nI 28).toInt64 &&& 63)) hx hb d_Field_subtract_102 rfl ?_
      refine lv_topl (fun v5 _ => ?_)
      refine lv_lstore (lv' := [(4, .long v5), (6, .int (nI i)), (0, .ref o), (1, .ref t), (2, .ref a), (3, .ref b)]) hx hb d_Field_subtract_103 hl (by decide) rfl (fun ls hl => ?_)
      refine lv_iinc (k := 1) (v := nI (i + 1)) (lv' := [(6, .int (nI (i + 1))), (4, .long v5), (0, .ref o), (1, .ref t), (2, .ref a), (3, .ref b)]) hx hb d_Field_subtract_105 hl rfl (i_inc i) (by decide) rfl (fun ls hl => ?_)
      refine lv_goto (tgt := 64) hx hb d_Field_subtract_108 (by decide) ?_
      have hl : lv_has ls 7 [(6, .int (nI (i + 1))), (4, .long v5), (0, .ref o), (1, .ref t), (2, .ref a), (3, .ref b)] := lv_sub hl [0, 1, 2, 3, 4, 5] rfl
      exact ih (i + 1) H1 locs ls _ (by omega) hk hF hl
  have loop : ∀ (k : Nat) (i : Nat) (H : Heap) (locs : List Loc) (ls : Array Slot) (cr : Int64), i + k = 14 → KJ g (fun q => q = t) s.heap H → (∀ q ∈ locs, n0 q.base) → lv_has ls 7 [(6, .int (nI i)), (4, .long cr), (0, .ref o), (1, .ref t), (2, .ref a), (3, .ref b)] → W p l e { frames := 0, cells := 0, slots := 0, locals := 0 } s m [.ref o, .ref t, .ref a, .ref b].toArray below meth c H locs 0 0 (MQ below (QcP (QV (fun H H' => KJ g (fun q => q = t) H H'))) [.ref o, .ref t, .ref a, .ref b].toArray s 0 0 (fun q => n0 q)) (F0 m 6 ls []) := by
    intro k
    induction k with
    | zero =>
      intro  i   H   locs   ls   cr hi hk hF hl
      obtain rfl : i = 14 := by omega
      refine lv_iload hx hb d_Field_subtract_6 (lv_at hl 0 rfl) ?_
      refine lv_bipush (v := nI 14) hx hb d_Field_subtract_8 (by decide) ?_
      refine lv_icmp_ge (tgt := 50) hx hb d_Field_subtract_10 (by decide) (fun _ => ?_) (fun h9 => absurd (by decide) h9)
      refine lv_lload hx hb d_Field_subtract_50 (lv_at hl 1 rfl) ?_
      refine lv_lconst (v := 0) hx hb d_Field_subtract_52 (by decide) ?_
      refine W.lcmp hx hb d_Field_subtract_53 ?_
      refine lv_topi (fun v1 _ => ?_)
      refine lv_if_ne (tgt := 58) hx hb d_Field_subtract_54 (by decide) (fun h => ?_) (fun h => ?_)
      rotate_left
      · skip
        exact q_vret E hr hlk (⟨rfl, hk⟩) hF d_Field_subtract_57
      refine lv_lconst (v := 0) hx hb d_Field_subtract_58 (by decide) ?_
      refine lv_lstore (lv' := [(4, .long 0), (6, .int (nI 14)), (0, .ref o), (1, .ref t), (2, .ref a), (3, .ref b)]) hx hb d_Field_subtract_59 hl (by decide) rfl (fun ls hl => ?_)
      refine lv_iconst (v := nI 0) hx hb d_Field_subtract_61 (by decide) ?_
      refine lv_istore (lv' := [(6, .int (nI 0)), (4, .long 0), (0, .ref o), (1, .ref t), (2, .ref a), (3, .ref b)]) hx hb d_Field_subtract_62 hl (by decide) rfl (fun ls hl => ?_)
      have hl : lv_has ls 7 [(6, .int (nI 0)), (4, .long 0), (0, .ref o), (1, .ref t), (2, .ref a), (3, .ref b)] := lv_sub hl [0, 1, 2, 3, 4, 5] rfl
      exact loop2 14 0 H locs ls 0 rfl hk hF hl
    | succ k ih =>
      intro  i   H   locs   ls   cr hi hk hF hl
      have hi14 : i < 14 := by omega
      refine lv_iload hx hb d_Field_subtract_6 (lv_at hl 0 rfl) ?_
      refine lv_bipush (v := nI 14) hx hb d_Field_subtract_8 (by decide) ?_
      refine lv_icmp_ge (tgt := 50) hx hb d_Field_subtract_10 (by decide) (fun h9 => absurd h9 (nI_ge hi14 (by decide))) (fun _ => ?_)
      refine lv_lload hx hb d_Field_subtract_13 (lv_at hl 1 rfl) ?_
      refine lv_aload_n hx hb d_Field_subtract_15 rfl (lv_at hl 4 rfl) ?_
      refine lv_iload hx hb d_Field_subtract_16 (lv_at hl 0 rfl) ?_
      refine q_laldS E (hk.j ha) i rfl hi14 d_Field_subtract_18 (fun v1 => ?_)
      refine lv_aload_n hx hb d_Field_subtract_19 rfl (lv_at hl 5 rfl) ?_
      refine lv_iload hx hb d_Field_subtract_20 (lv_at hl 0 rfl) ?_
      refine q_laldS E (hk.j hb0) i rfl hi14 d_Field_subtract_22 (fun v2 => ?_)
      refine lv_lsub hx hb d_Field_subtract_23 ?_
      refine lv_ladd hx hb d_Field_subtract_24 ?_
      refine lv_topl (fun v3 _ => ?_)
      refine lv_lstore (lv' := [(4, .long v3), (6, .int (nI i)), (0, .ref o), (1, .ref t), (2, .ref a), (3, .ref b)]) hx hb d_Field_subtract_25 hl (by decide) rfl (fun ls hl => ?_)
      refine lv_aload_n hx hb d_Field_subtract_27 rfl (lv_at hl 3 rfl) ?_
      refine lv_iload hx hb d_Field_subtract_28 (lv_at hl 1 rfl) ?_
      refine lv_lload hx hb d_Field_subtract_30 (lv_at hl 0 rfl) ?_
      refine lv_ldc2 (v := 268435455) hx hb E.2.2.2.1 (E.2.2.2.2.1 _ w_143) d_Field_subtract_32 ?_
      refine lv_land hx hb d_Field_subtract_35 ?_
      refine lv_topl (fun v4 _ => ?_)
      refine q_lastS E (hk.j ht) hF i rfl hi14 d_Field_subtract_36 (fun H1 locs hq hF => ?_)
      have hk := hk.tr hq
      refine lv_lload hx hb d_Field_subtract_37 (lv_at hl 0 rfl) ?_
      refine lv_bipush (v := nI 28) hx hb d_Field_subtract_39 (by decide) ?_
      refine lv_lshr (v := v3 >>> ((nI 28).toInt64 &&& 63)) hx hb d_Field_subtract_41 rfl ?_
      refine lv_topl (fun v5 _ => ?_)
      refine lv_lstore (lv' := [(4, .long v5), (6, .int (nI i)), (0, .ref o), (1, .ref t), (2, .ref a), (3, .ref b)]) hx hb d_Field_subtract_42 hl (by decide) rfl (fun ls hl => ?_)
      refine lv_iinc (k := 1) (v := nI (i + 1)) (lv' := [(6, .int (nI (i + 1))), (4, .long v5), (0, .ref o), (1, .ref t), (2, .ref a), (3, .ref b)]) hx hb d_Field_subtract_44 hl rfl (i_inc i) (by decide) rfl (fun ls hl => ?_)
      refine lv_goto (tgt := 6) hx hb d_Field_subtract_47 (by decide) ?_
      have hl : lv_has ls 7 [(6, .int (nI (i + 1))), (4, .long v5), (0, .ref o), (1, .ref t), (2, .ref a), (3, .ref b)] := lv_sub hl [0, 1, 2, 3, 4, 5] rfl
      exact ih (i + 1) H1 locs ls _ (by omega) hk hF hl
  refine lv_lconst (v := 0) hx hb d_Field_subtract_0 (by decide) ?_
  refine lv_lstore (lv' := [(4, .long 0), (0, .ref o), (1, .ref t), (2, .ref a), (3, .ref b)]) hx hb d_Field_subtract_1 hl (by decide) rfl (fun ls hl => ?_)
  refine lv_iconst (v := nI 0) hx hb d_Field_subtract_3 (by decide) ?_
  refine lv_istore (lv' := [(6, .int (nI 0)), (4, .long 0), (0, .ref o), (1, .ref t), (2, .ref a), (3, .ref b)]) hx hb d_Field_subtract_4 hl (by decide) rfl (fun ls hl => ?_)
  have hl : lv_has ls 7 [(6, .int (nI 0)), (4, .long 0), (0, .ref o), (1, .ref t), (2, .ref a), (3, .ref b)] := lv_sub hl [0, 1, 2, 3, 4, 5] rfl
  exact loop 14 0 s.heap [] ls 0 rfl KJ.rf hF hl
set_option maxHeartbeats 4000000 in
set_option maxRecDepth 100000 in
/-- 0 - 0 is 0 -/
theorem z_Field_subtract (l : Launch) (g : WG) (n0 : Nat → Prop) (o t a b : Nat) (hta : a ≠ t) (htb : b ≠ t) : Ctr l y_Field_subtract (.code y_Field_subtract prog_3_method_5_code 7 none) 0 0 0 0 n0 g [.ref o, .ref t, .ref a, .ref b] (fun H => J14 g n0 H t ∧ AJ g H a 14 (fun _ => 0) ∧ AJ g H b 14 (fun _ => 0)) (QV (fun H H' => KJ g (fun q => q = t) H H' ∧ AJ g H' t 14 (fun _ => 0))) := by
  refine ctr_mk l (lv0 := [(0, .ref o), (1, .ref t), (2, .ref a), (3, .ref b)]) (by decide) (Nat.le_of_ble_eq_true rfl) rfl ?_
  intro p e s m below meth c ls E hr hlk hnm hl hP
  have hx := E.1
  have hb := E.2.1
  have hK := E.2.2.2.2.2
  have hF : ∀ q ∈ ([] : List Loc), n0 q.base := fun q hq => absurd hq List.not_mem_nil
  obtain ⟨⟨ht, ft, hft⟩, ha, hb0⟩ := hP
  have loop : ∀ (k : Nat) (i : Nat) (H : Heap) (locs : List Loc) (ls : Array Slot) (f : Nat → Int64), i + k = 14 → KJ g (fun q => q = t) s.heap H → AJ g H t 14 f → (∀ j, j < i → f j = 0) → (∀ q ∈ locs, n0 q.base) → lv_has ls 7 [(6, .int (nI i)), (4, .long 0), (0, .ref o), (1, .ref t), (2, .ref a), (3, .ref b)] → W p l e { frames := 0, cells := 0, slots := 0, locals := 0 } s m [.ref o, .ref t, .ref a, .ref b].toArray below meth c H locs 0 0 (MQ below (QcP (QV (fun H H' => KJ g (fun q => q = t) H H' ∧ AJ g H' t 14 (fun _ => 0)))) [.ref o, .ref t, .ref a, .ref b].toArray s 0 0 (fun q => n0 q)) (F0 m 6 ls []) := by
    intro k
    induction k with
    | zero =>
      intro  i   H   locs   ls   f hi hk hf hv hF hl
      obtain rfl : i = 14 := by omega
      refine lv_iload hx hb d_Field_subtract_6 (lv_at hl 0 rfl) ?_
      refine lv_bipush (v := nI 14) hx hb d_Field_subtract_8 (by decide) ?_
      refine lv_icmp_ge (tgt := 50) hx hb d_Field_subtract_10 (by decide) (fun _ => ?_) (fun h9 => absurd (by decide) h9)
      refine lv_lload hx hb d_Field_subtract_50 (lv_at hl 1 rfl) ?_
      refine lv_lconst (v := 0) hx hb d_Field_subtract_52 (by decide) ?_
      refine W.lcmp hx hb d_Field_subtract_53 ?_
      refine lv_if_ne (tgt := 58) hx hb d_Field_subtract_54 (by decide) (fun h9 => absurd (by decide) h9) (fun _ => ?_)
      exact q_vret E hr hlk (⟨rfl, hk, hf.ext hv⟩) hF d_Field_subtract_57
    | succ k ih =>
      intro  i   H   locs   ls   f hi hk hf hv hF hl
      have hi14 : i < 14 := by omega
      refine lv_iload hx hb d_Field_subtract_6 (lv_at hl 0 rfl) ?_
      refine lv_bipush (v := nI 14) hx hb d_Field_subtract_8 (by decide) ?_
      refine lv_icmp_ge (tgt := 50) hx hb d_Field_subtract_10 (by decide) (fun h9 => absurd h9 (nI_ge hi14 (by decide))) (fun _ => ?_)
      refine lv_lload hx hb d_Field_subtract_13 (lv_at hl 1 rfl) ?_
      refine lv_aload_n hx hb d_Field_subtract_15 rfl (lv_at hl 4 rfl) ?_
      refine lv_iload hx hb d_Field_subtract_16 (lv_at hl 0 rfl) ?_
      refine q_lald (N := 14) (f := (fun _ => 0)) E (hk.ajo hta ha) i rfl hi14 (by decide) d_Field_subtract_18 ?_
      refine lv_aload_n hx hb d_Field_subtract_19 rfl (lv_at hl 5 rfl) ?_
      refine lv_iload hx hb d_Field_subtract_20 (lv_at hl 0 rfl) ?_
      refine q_lald (N := 14) (f := (fun _ => 0)) E (hk.ajo htb hb0) i rfl hi14 (by decide) d_Field_subtract_22 ?_
      refine lv_lsub hx hb d_Field_subtract_23 ?_
      refine lv_ladd hx hb d_Field_subtract_24 ?_
      refine lv_topl (fun t9 e9 => ?_)
      obtain rfl : t9 = 0 := e9.trans (by decide)
      refine lv_lstore (lv' := [(4, .long 0), (6, .int (nI i)), (0, .ref o), (1, .ref t), (2, .ref a), (3, .ref b)]) hx hb d_Field_subtract_25 hl (by decide) rfl (fun ls hl => ?_)
      refine lv_aload_n hx hb d_Field_subtract_27 rfl (lv_at hl 3 rfl) ?_
      refine lv_iload hx hb d_Field_subtract_28 (lv_at hl 1 rfl) ?_
      refine lv_lload hx hb d_Field_subtract_30 (lv_at hl 0 rfl) ?_
      refine lv_ldc2 (v := 268435455) hx hb E.2.2.2.1 (E.2.2.2.2.1 _ w_143) d_Field_subtract_32 ?_
      refine lv_land hx hb d_Field_subtract_35 ?_
      refine lv_topl (fun t9 e9 => ?_)
      obtain rfl : t9 = 0 := e9.trans (by decide)
      refine q_last E hf ht hF i rfl hi14 (by decide) d_Field_subtract_36 (fun H' locs' hq hf' hF => ?_)
      have hk := hk.tr hq
      refine lv_lload hx hb d_Field_subtract_37 (lv_at hl 0 rfl) ?_
      refine lv_bipush (v := nI 28) hx hb d_Field_subtract_39 (by decide) ?_
      refine lv_lshr (v := 0 >>> ((nI 28).toInt64 &&& 63)) hx hb d_Field_subtract_41 rfl ?_
      refine lv_topl (fun t9 e9 => ?_)
      obtain rfl : t9 = 0 := e9.trans (by decide)
      refine lv_lstore (lv' := [(4, .long 0), (6, .int (nI i)), (0, .ref o), (1, .ref t), (2, .ref a), (3, .ref b)]) hx hb d_Field_subtract_42 hl (by decide) rfl (fun ls hl => ?_)
      refine lv_iinc (k := 1) (v := nI (i + 1)) (lv' := [(6, .int (nI (i + 1))), (4, .long 0), (0, .ref o), (1, .ref t), (2, .ref a), (3, .ref b)]) hx hb d_Field_subtract_44 hl rfl (i_inc i) (by decide) rfl (fun ls hl => ?_)
      refine lv_goto (tgt := 6) hx hb d_Field_subtract_47 (by decide) ?_
      have hl : lv_has ls 7 [(6, .int (nI (i + 1))), (4, .long 0), (0, .ref o), (1, .ref t), (2, .ref a), (3, .ref b)] := lv_sub hl [0, 1, 2, 3, 4, 5] rfl
      exact ih (i + 1) H' locs' ls _ (by omega) hk hf' (updL_z hv) hF hl
  refine lv_lconst (v := 0) hx hb d_Field_subtract_0 (by decide) ?_
  refine lv_lstore (lv' := [(4, .long 0), (0, .ref o), (1, .ref t), (2, .ref a), (3, .ref b)]) hx hb d_Field_subtract_1 hl (by decide) rfl (fun ls hl => ?_)
  refine lv_iconst (v := nI 0) hx hb d_Field_subtract_3 (by decide) ?_
  refine lv_istore (lv' := [(6, .int (nI 0)), (4, .long 0), (0, .ref o), (1, .ref t), (2, .ref a), (3, .ref b)]) hx hb d_Field_subtract_4 hl (by decide) rfl (fun ls hl => ?_)
  have hl : lv_has ls 7 [(6, .int (nI 0)), (4, .long 0), (0, .ref o), (1, .ref t), (2, .ref a), (3, .ref b)] := lv_sub hl [0, 1, 2, 3, 4, 5] rfl
  exact loop 14 0 s.heap [] ls ft rfl KJ.rf hft (fun j hj => absurd hj (Nat.not_lt_zero _)) hF hl
set_option maxHeartbeats 4000000 in
set_option maxRecDepth 100000 in
/-- 0 stays -/
theorem z_Field_reduce (l : Launch) (g : WG) (n0 : Nat → Prop) (o n : Nat) (F : Nat → Nat) (mi : Int64) (f : Nat → Int64) (h0 : ∀ i, i < 14 → ¬ f i < 0) (h1 : f 0 ≠ 0) : Ctr l y_Field_reduce (.code y_Field_reduce prog_3_method_7_code 5 none) 0 0 0 0 n0 g [.ref o, .ref n] (fun H => FD g n0 H o F mi ∧ AJ g H n 14 (fun _ => 0) ∧ AJ g H (F 0) 14 f) (QV (fun H H' => H' = H)) := by
  refine ctr_mk l (lv0 := [(0, .ref o), (1, .ref n)]) (by decide) (Nat.le_of_ble_eq_true rfl) rfl ?_
  intro p e s m below meth c ls E hr hlk hnm hl hP
  have hx := E.1
  have hb := E.2.1
  have hK := E.2.2.2.2.2
  have hF : ∀ q ∈ ([] : List Loc), n0 q.base := fun q hq => absurd hq List.not_mem_nil
  obtain ⟨hfd, hn, hf⟩ := hP
  have loop1 : ∀ (k : Nat) (ls : Array Slot) (x : Int32), k ≤ 14 → x = nI k - 1 → k ≠ 0 → lv_has ls 5 [(2, .int x), (0, .ref o), (1, .ref n)] → W p l e { frames := 0, cells := 0, slots := 0, locals := 0 } s m [.ref o, .ref n].toArray below meth c s.heap [] 0 0 (MQ below (QcP (QV (fun H H' => H' = H))) [.ref o, .ref n].toArray s 0 0 (fun q => n0 q)) (F0 m 3 ls []) := by
    intro k
    induction k with
    | zero =>
      intro  ls   x hk14 hxx hne hl
      exact absurd rfl hne
    | succ k ih =>
      intro  ls   x hk14 hxx hne hl
      rw [nI_pred] at hxx
      subst hxx
      refine lv_iload_n hx hb d_Field_reduce_3 rfl (lv_at hl 0 rfl) ?_
      refine lv_if_lt (tgt := 43) hx hb d_Field_reduce_4 (by decide) (fun h9 => absurd h9 (nI_pos (by omega))) (fun _ => ?_)
      refine lv_aload_n hx hb d_Field_reduce_7 rfl (lv_at hl 2 rfl) ?_
      refine lv_iload_n hx hb d_Field_reduce_8 rfl (lv_at hl 0 rfl) ?_
      refine q_lald (N := 14) (f := (fun _ => 0)) E hn k rfl (by omega) (by decide) d_Field_reduce_9 ?_
      refine lv_aload_n hx hb d_Field_reduce_10 rfl (lv_at hl 1 rfl) ?_
      refine q_get (C := "KateDesk$Field") (T := T_Field) (N := 7) (ci := 1) E hfd.1 in_Field rfl 0 (by decide) w_170 rfl rfl d_Field_reduce_11 ?_
      refine lv_iload_n hx hb d_Field_reduce_14 rfl (lv_at hl 0 rfl) ?_
      refine q_lald (N := 14) (f := f) E hf k rfl (by omega) (by decide) d_Field_reduce_15 ?_
      refine W.lcmp hx hb d_Field_reduce_16 ?_
      refine lv_if_ge (tgt := 21) hx hb d_Field_reduce_17 (by decide) (fun hc => ?_) (fun hc => ?_)
      rotate_left
      · skip
        exact q_vret E hr hlk (⟨rfl, rfl⟩) hF d_Field_reduce_20
      have hfk : f k = 0 := by
        by_cases h2 : f k = 0
        · exact h2
        · have := h0 k (by omega)
          rw [Int64.not_lt] at this
          rw [kd_cmp_lt (Int64.lt_of_le_of_ne this (Ne.symm h2))] at hc
          exact absurd hc (by decide)
      refine lv_aload_n hx hb d_Field_reduce_21 rfl (lv_at hl 2 rfl) ?_
      refine lv_iload_n hx hb d_Field_reduce_22 rfl (lv_at hl 0 rfl) ?_
      refine q_lald (N := 14) (f := (fun _ => 0)) E hn k rfl (by omega) (by decide) d_Field_reduce_23 ?_
      refine lv_aload_n hx hb d_Field_reduce_24 rfl (lv_at hl 1 rfl) ?_
      refine q_get (C := "KateDesk$Field") (T := T_Field) (N := 7) (ci := 1) E hfd.1 in_Field rfl 0 (by decide) w_170 rfl rfl d_Field_reduce_25 ?_
      refine lv_iload_n hx hb d_Field_reduce_28 rfl (lv_at hl 0 rfl) ?_
      refine q_lald (N := 14) (f := f) E hf k rfl (by omega) (by decide) d_Field_reduce_29 ?_
      refine W.lcmp hx hb d_Field_reduce_30 ?_
      refine lv_if_le (tgt := 37) hx hb d_Field_reduce_31 (by decide) (fun _ => ?_) (fun h9 => absurd (by rw [hfk]; decide) h9)
      refine lv_iinc (k := 0) (v := nI k - 1) (lv' := [(2, .int (nI k - 1)), (0, .ref o), (1, .ref n)]) hx hb d_Field_reduce_37 hl rfl (i_dec (nI k)) (by decide) rfl (fun ls hl => ?_)
      refine lv_goto (tgt := 3) hx hb d_Field_reduce_40 (by decide) ?_
      exact ih ls _ (by omega) rfl (fun h => h1 (by subst h; exact hfk)) hl
  refine lv_bipush (v := nI 13) hx hb d_Field_reduce_0 (by decide) ?_
  refine lv_istore_n (lv' := [(2, .int (nI 13)), (0, .ref o), (1, .ref n)]) hx hb d_Field_reduce_2 rfl hl (by decide) rfl (fun ls hl => ?_)
  exact loop1 14 ls _ (by decide) (by decide) (by decide) hl
set_option maxHeartbeats 4000000 in
set_option maxRecDepth 100000 in
theorem c_Field_minusInverseOf (l : Launch) (g : WG) (n0 : Nat → Prop) (v : Int64) : Ctr l y_Field_minusInverseOf (.code y_Field_minusInverseOf prog_3_method_2_code 5 (some FieldType.long)) 0 0 0 0 n0 g [.long v] (fun H => True) (QL (fun _ H H' => H' = H)) := by
  refine ctr_mk l (lv0 := [(0, .long v)]) (by decide) (Nat.le_of_ble_eq_true rfl) rfl ?_
  intro p e s m below meth c ls E hr hlk hnm hl hP
  have hx := E.1
  have hb := E.2.1
  have hK := E.2.2.2.2.2
  have hF : ∀ q ∈ ([] : List Loc), n0 q.base := fun q hq => absurd hq List.not_mem_nil
  have loop : ∀ (k : Nat) (i : Nat) (ls : Array Slot) (u : Int64), i + k = 5 → lv_has ls 5 [(4, .int (nI i)), (2, .long u), (0, .long v)] → W p l e { frames := 0, cells := 0, slots := 0, locals := 0 } s m [.long v].toArray below meth c s.heap [] 0 0 (MQ below (QcP (QL (fun _ H H' => H' = H))) [.long v].toArray s 0 0 (fun q => n0 q)) (F0 m 5 ls []) := by
    intro k
    induction k with
    | zero =>
      intro  i   ls   u hi hl
      obtain rfl : i = 5 := by omega
      refine lv_iload hx hb d_Field_minusInverseOf_5 (lv_at hl 0 rfl) ?_
      refine lv_iconst (v := nI 5) hx hb d_Field_minusInverseOf_7 (by decide) ?_
      refine lv_icmp_ge (tgt := 27) hx hb d_Field_minusInverseOf_8 (by decide) (fun _ => ?_) (fun h9 => absurd (by decide) h9)
      refine lv_lload_n hx hb d_Field_minusInverseOf_27 rfl (lv_at hl 1 rfl) ?_
      refine lv_lneg hx hb d_Field_minusInverseOf_28 ?_
      refine lv_ldc2 (v := 268435455) hx hb E.2.2.2.1 (E.2.2.2.2.1 _ w_143) d_Field_minusInverseOf_29 ?_
      refine lv_land hx hb d_Field_minusInverseOf_32 ?_
      refine lv_topl (fun v1 _ => ?_)
      exact q_lret E hr hlk (⟨_, rfl, rfl⟩) hF d_Field_minusInverseOf_33
    | succ k ih =>
      intro  i   ls   u hi hl
      have hi5 : i < 5 := by omega
      refine lv_iload hx hb d_Field_minusInverseOf_5 (lv_at hl 0 rfl) ?_
      refine lv_iconst (v := nI 5) hx hb d_Field_minusInverseOf_7 (by decide) ?_
      refine lv_icmp_ge (tgt := 27) hx hb d_Field_minusInverseOf_8 (by decide) (fun h9 => absurd h9 (nI_ge hi5 (by decide))) (fun _ => ?_)
      refine lv_lload_n hx hb d_Field_minusInverseOf_11 rfl (lv_at hl 1 rfl) ?_
      refine lv_ldc2 (v := 2) hx hb E.2.2.2.1 (E.2.2.2.2.1 _ w_142) d_Field_minusInverseOf_12 ?_
      refine lv_lload_n hx hb d_Field_minusInverseOf_15 rfl (lv_at hl 2 rfl) ?_
      refine lv_lload_n hx hb d_Field_minusInverseOf_16 rfl (lv_at hl 1 rfl) ?_
      refine lv_lmul hx hb d_Field_minusInverseOf_17 ?_
      refine lv_lsub hx hb d_Field_minusInverseOf_18 ?_
      refine lv_lmul hx hb d_Field_minusInverseOf_19 ?_
      refine lv_topl (fun v1 _ => ?_)
      refine lv_lstore_n (lv' := [(2, .long v1), (4, .int (nI i)), (0, .long v)]) hx hb d_Field_minusInverseOf_20 rfl hl (by decide) rfl (fun ls hl => ?_)
      refine lv_iinc (k := 1) (v := nI (i + 1)) (lv' := [(4, .int (nI (i + 1))), (2, .long v1), (0, .long v)]) hx hb d_Field_minusInverseOf_21 hl rfl (i_inc i) (by decide) rfl (fun ls hl => ?_)
      refine lv_goto (tgt := 5) hx hb d_Field_minusInverseOf_24 (by decide) ?_
      exact ih (i + 1) ls _ (by omega) hl
  refine lv_lconst (v := 1) hx hb d_Field_minusInverseOf_0 (by decide) ?_
  refine lv_lstore_n (lv' := [(2, .long 1), (0, .long v)]) hx hb d_Field_minusInverseOf_1 rfl hl (by decide) rfl (fun ls hl => ?_)
  refine lv_iconst (v := nI 0) hx hb d_Field_minusInverseOf_2 (by decide) ?_
  refine lv_istore (lv' := [(4, .int (nI 0)), (2, .long 1), (0, .long v)]) hx hb d_Field_minusInverseOf_3 hl (by decide) rfl (fun ls hl => ?_)
  exact loop 5 0 ls 1 rfl hl
end
section
abbrev y_Field_multiply : MethodName := ⟨"KateDesk$Field", "multiply", "([J[J[J)V"⟩
theorem hd_Field_multiply : y_Field_multiply.cls ≠ "java/lang/invoke/MethodHandle" ∧ y_Field_multiply.cls ≠ "java/lang/invoke/VarHandle" ∧ (parseMethodDescriptor y_Field_multiply.desc).map (fun d => d.parameters.length) = some 3 := by decide +kernel
theorem d_Field_multiply_0 : decode prog_3_method_8_code 0 = .ok (.aload_n 2, 1) := by decide +kernel
theorem d_Field_multiply_1 : decode prog_3_method_8_code 1 = .ok (.iconst 0, 1) := by decide +kernel
theorem d_Field_multiply_2 : decode prog_3_method_8_code 2 = .ok (.laload, 1) := by decide +kernel
theorem d_Field_multiply_3 : decode prog_3_method_8_code 3 = .ok (.lstore 4, 2) := by decide +kernel
theorem d_Field_multiply_5 : decode prog_3_method_8_code 5 = .ok (.aload_n 2, 1) := by decide +kernel
theorem d_Field_multiply_6 : decode prog_3_method_8_code 6 = .ok (.iconst 1, 1) := by decide +kernel
theorem d_Field_multiply_7 : decode prog_3_method_8_code 7 = .ok (.laload, 1) := by decide +kernel
theorem d_Field_multiply_8 : decode prog_3_method_8_code 8 = .ok (.lstore 6, 2) := by decide +kernel
theorem d_Field_multiply_10 : decode prog_3_method_8_code 10 = .ok (.aload_n 2, 1) := by decide +kernel
theorem d_Field_multiply_11 : decode prog_3_method_8_code 11 = .ok (.iconst 2, 1) := by decide +kernel
theorem d_Field_multiply_12 : decode prog_3_method_8_code 12 = .ok (.laload, 1) := by decide +kernel
theorem d_Field_multiply_13 : decode prog_3_method_8_code 13 = .ok (.lstore 8, 2) := by decide +kernel
theorem d_Field_multiply_15 : decode prog_3_method_8_code 15 = .ok (.aload_n 2, 1) := by decide +kernel
theorem d_Field_multiply_16 : decode prog_3_method_8_code 16 = .ok (.iconst 3, 1) := by decide +kernel
theorem d_Field_multiply_17 : decode prog_3_method_8_code 17 = .ok (.laload, 1) := by decide +kernel
theorem d_Field_multiply_18 : decode prog_3_method_8_code 18 = .ok (.lstore 10, 2) := by decide +kernel
theorem d_Field_multiply_20 : decode prog_3_method_8_code 20 = .ok (.aload_n 2, 1) := by decide +kernel
theorem d_Field_multiply_21 : decode prog_3_method_8_code 21 = .ok (.iconst 4, 1) := by decide +kernel
theorem d_Field_multiply_22 : decode prog_3_method_8_code 22 = .ok (.laload, 1) := by decide +kernel
theorem d_Field_multiply_23 : decode prog_3_method_8_code 23 = .ok (.lstore 12, 2) := by decide +kernel
theorem d_Field_multiply_25 : decode prog_3_method_8_code 25 = .ok (.aload_n 2, 1) := by decide +kernel
theorem d_Field_multiply_26 : decode prog_3_method_8_code 26 = .ok (.iconst 5, 1) := by decide +kernel
theorem d_Field_multiply_27 : decode prog_3_method_8_code 27 = .ok (.laload, 1) := by decide +kernel
theorem d_Field_multiply_28 : decode prog_3_method_8_code 28 = .ok (.lstore 14, 2) := by decide +kernel
theorem d_Field_multiply_30 : decode prog_3_method_8_code 30 = .ok (.aload_n 2, 1) := by decide +kernel
theorem d_Field_multiply_31 : decode prog_3_method_8_code 31 = .ok (.bipush 6, 2) := by decide +kernel
theorem d_Field_multiply_33 : decode prog_3_method_8_code 33 = .ok (.laload, 1) := by decide +kernel
theorem d_Field_multiply_34 : decode prog_3_method_8_code 34 = .ok (.lstore 16, 2) := by decide +kernel
theorem d_Field_multiply_36 : decode prog_3_method_8_code 36 = .ok (.aload_n 2, 1) := by decide +kernel
theorem d_Field_multiply_37 : decode prog_3_method_8_code 37 = .ok (.bipush 7, 2) := by decide +kernel
theorem d_Field_multiply_39 : decode prog_3_method_8_code 39 = .ok (.laload, 1) := by decide +kernel
theorem d_Field_multiply_40 : decode prog_3_method_8_code 40 = .ok (.lstore 18, 2) := by decide +kernel
theorem d_Field_multiply_42 : decode prog_3_method_8_code 42 = .ok (.aload_n 2, 1) := by decide +kernel
theorem d_Field_multiply_43 : decode prog_3_method_8_code 43 = .ok (.bipush 8, 2) := by decide +kernel
theorem d_Field_multiply_45 : decode prog_3_method_8_code 45 = .ok (.laload, 1) := by decide +kernel
theorem d_Field_multiply_46 : decode prog_3_method_8_code 46 = .ok (.lstore 20, 2) := by decide +kernel
theorem d_Field_multiply_48 : decode prog_3_method_8_code 48 = .ok (.aload_n 2, 1) := by decide +kernel
theorem d_Field_multiply_49 : decode prog_3_method_8_code 49 = .ok (.bipush 9, 2) := by decide +kernel
theorem d_Field_multiply_51 : decode prog_3_method_8_code 51 = .ok (.laload, 1) := by decide +kernel
theorem d_Field_multiply_52 : decode prog_3_method_8_code 52 = .ok (.lstore 22, 2) := by decide +kernel
theorem d_Field_multiply_54 : decode prog_3_method_8_code 54 = .ok (.aload_n 2, 1) := by decide +kernel
theorem d_Field_multiply_55 : decode prog_3_method_8_code 55 = .ok (.bipush 10, 2) := by decide +kernel
theorem d_Field_multiply_57 : decode prog_3_method_8_code 57 = .ok (.laload, 1) := by decide +kernel
theorem d_Field_multiply_58 : decode prog_3_method_8_code 58 = .ok (.lstore 24, 2) := by decide +kernel
theorem d_Field_multiply_60 : decode prog_3_method_8_code 60 = .ok (.aload_n 2, 1) := by decide +kernel
theorem d_Field_multiply_61 : decode prog_3_method_8_code 61 = .ok (.bipush 11, 2) := by decide +kernel
theorem d_Field_multiply_63 : decode prog_3_method_8_code 63 = .ok (.laload, 1) := by decide +kernel
theorem d_Field_multiply_64 : decode prog_3_method_8_code 64 = .ok (.lstore 26, 2) := by decide +kernel
theorem d_Field_multiply_66 : decode prog_3_method_8_code 66 = .ok (.aload_n 2, 1) := by decide +kernel
theorem d_Field_multiply_67 : decode prog_3_method_8_code 67 = .ok (.bipush 12, 2) := by decide +kernel
theorem d_Field_multiply_69 : decode prog_3_method_8_code 69 = .ok (.laload, 1) := by decide +kernel
theorem d_Field_multiply_70 : decode prog_3_method_8_code 70 = .ok (.lstore 28, 2) := by decide +kernel
theorem d_Field_multiply_72 : decode prog_3_method_8_code 72 = .ok (.aload_n 2, 1) := by decide +kernel
theorem d_Field_multiply_73 : decode prog_3_method_8_code 73 = .ok (.bipush 13, 2) := by decide +kernel
theorem d_Field_multiply_75 : decode prog_3_method_8_code 75 = .ok (.laload, 1) := by decide +kernel
theorem d_Field_multiply_76 : decode prog_3_method_8_code 76 = .ok (.lstore 30, 2) := by decide +kernel
theorem d_Field_multiply_78 : decode prog_3_method_8_code 78 = .ok (.aload_n 0, 1) := by decide +kernel
theorem d_Field_multiply_79 : decode prog_3_method_8_code 79 = .ok (.getfield 31, 3) := by decide +kernel
theorem d_Field_multiply_82 : decode prog_3_method_8_code 82 = .ok (.astore 32, 2) := by decide +kernel
theorem d_Field_multiply_84 : decode prog_3_method_8_code 84 = .ok (.aload 32, 2) := by decide +kernel
theorem d_Field_multiply_86 : decode prog_3_method_8_code 86 = .ok (.iconst 0, 1) := by decide +kernel
theorem d_Field_multiply_87 : decode prog_3_method_8_code 87 = .ok (.laload, 1) := by decide +kernel
theorem d_Field_multiply_88 : decode prog_3_method_8_code 88 = .ok (.lstore 33, 2) := by decide +kernel
theorem d_Field_multiply_90 : decode prog_3_method_8_code 90 = .ok (.aload 32, 2) := by decide +kernel
theorem d_Field_multiply_92 : decode prog_3_method_8_code 92 = .ok (.iconst 1, 1) := by decide +kernel
theorem d_Field_multiply_93 : decode prog_3_method_8_code 93 = .ok (.laload, 1) := by decide +kernel
theorem d_Field_multiply_94 : decode prog_3_method_8_code 94 = .ok (.lstore 35, 2) := by decide +kernel
theorem d_Field_multiply_96 : decode prog_3_method_8_code 96 = .ok (.aload 32, 2) := by decide +kernel
theorem d_Field_multiply_98 : decode prog_3_method_8_code 98 = .ok (.iconst 2, 1) := by decide +kernel
theorem d_Field_multiply_99 : decode prog_3_method_8_code 99 = .ok (.laload, 1) := by decide +kernel
theorem d_Field_multiply_100 : decode prog_3_method_8_code 100 = .ok (.lstore 37, 2) := by decide +kernel
theorem d_Field_multiply_102 : decode prog_3_method_8_code 102 = .ok (.aload 32, 2) := by decide +kernel
theorem d_Field_multiply_104 : decode prog_3_method_8_code 104 = .ok (.iconst 3, 1) := by decide +kernel
theorem d_Field_multiply_105 : decode prog_3_method_8_code 105 = .ok (.laload, 1) := by decide +kernel
theorem d_Field_multiply_106 : decode prog_3_method_8_code 106 = .ok (.lstore 39, 2) := by decide +kernel
theorem d_Field_multiply_108 : decode prog_3_method_8_code 108 = .ok (.aload 32, 2) := by decide +kernel
theorem d_Field_multiply_110 : decode prog_3_method_8_code 110 = .ok (.iconst 4, 1) := by decide +kernel
theorem d_Field_multiply_111 : decode prog_3_method_8_code 111 = .ok (.laload, 1) := by decide +kernel
theorem d_Field_multiply_112 : decode prog_3_method_8_code 112 = .ok (.lstore 41, 2) := by decide +kernel
theorem d_Field_multiply_114 : decode prog_3_method_8_code 114 = .ok (.aload 32, 2) := by decide +kernel
theorem d_Field_multiply_116 : decode prog_3_method_8_code 116 = .ok (.iconst 5, 1) := by decide +kernel
theorem d_Field_multiply_117 : decode prog_3_method_8_code 117 = .ok (.laload, 1) := by decide +kernel
theorem d_Field_multiply_118 : decode prog_3_method_8_code 118 = .ok (.lstore 43, 2) := by decide +kernel
theorem d_Field_multiply_120 : decode prog_3_method_8_code 120 = .ok (.aload 32, 2) := by decide +kernel
theorem d_Field_multiply_122 : decode prog_3_method_8_code 122 = .ok (.bipush 6, 2) := by decide +kernel
theorem d_Field_multiply_124 : decode prog_3_method_8_code 124 = .ok (.laload, 1) := by decide +kernel
theorem d_Field_multiply_125 : decode prog_3_method_8_code 125 = .ok (.lstore 45, 2) := by decide +kernel
theorem d_Field_multiply_127 : decode prog_3_method_8_code 127 = .ok (.aload 32, 2) := by decide +kernel
theorem d_Field_multiply_129 : decode prog_3_method_8_code 129 = .ok (.bipush 7, 2) := by decide +kernel
theorem d_Field_multiply_131 : decode prog_3_method_8_code 131 = .ok (.laload, 1) := by decide +kernel
theorem d_Field_multiply_132 : decode prog_3_method_8_code 132 = .ok (.lstore 47, 2) := by decide +kernel
theorem d_Field_multiply_134 : decode prog_3_method_8_code 134 = .ok (.aload 32, 2) := by decide +kernel
theorem d_Field_multiply_136 : decode prog_3_method_8_code 136 = .ok (.bipush 8, 2) := by decide +kernel
theorem d_Field_multiply_138 : decode prog_3_method_8_code 138 = .ok (.laload, 1) := by decide +kernel
theorem d_Field_multiply_139 : decode prog_3_method_8_code 139 = .ok (.lstore 49, 2) := by decide +kernel
theorem d_Field_multiply_141 : decode prog_3_method_8_code 141 = .ok (.aload 32, 2) := by decide +kernel
theorem d_Field_multiply_143 : decode prog_3_method_8_code 143 = .ok (.bipush 9, 2) := by decide +kernel
theorem d_Field_multiply_145 : decode prog_3_method_8_code 145 = .ok (.laload, 1) := by decide +kernel
theorem d_Field_multiply_146 : decode prog_3_method_8_code 146 = .ok (.lstore 51, 2) := by decide +kernel
theorem d_Field_multiply_148 : decode prog_3_method_8_code 148 = .ok (.aload 32, 2) := by decide +kernel
theorem d_Field_multiply_150 : decode prog_3_method_8_code 150 = .ok (.bipush 10, 2) := by decide +kernel
theorem d_Field_multiply_152 : decode prog_3_method_8_code 152 = .ok (.laload, 1) := by decide +kernel
theorem d_Field_multiply_153 : decode prog_3_method_8_code 153 = .ok (.lstore 53, 2) := by decide +kernel
theorem d_Field_multiply_155 : decode prog_3_method_8_code 155 = .ok (.aload 32, 2) := by decide +kernel
theorem d_Field_multiply_157 : decode prog_3_method_8_code 157 = .ok (.bipush 11, 2) := by decide +kernel
theorem d_Field_multiply_159 : decode prog_3_method_8_code 159 = .ok (.laload, 1) := by decide +kernel
theorem d_Field_multiply_160 : decode prog_3_method_8_code 160 = .ok (.lstore 55, 2) := by decide +kernel
theorem d_Field_multiply_162 : decode prog_3_method_8_code 162 = .ok (.aload 32, 2) := by decide +kernel
theorem d_Field_multiply_164 : decode prog_3_method_8_code 164 = .ok (.bipush 12, 2) := by decide +kernel
theorem d_Field_multiply_166 : decode prog_3_method_8_code 166 = .ok (.laload, 1) := by decide +kernel
theorem d_Field_multiply_167 : decode prog_3_method_8_code 167 = .ok (.lstore 57, 2) := by decide +kernel
theorem d_Field_multiply_169 : decode prog_3_method_8_code 169 = .ok (.aload 32, 2) := by decide +kernel
theorem d_Field_multiply_171 : decode prog_3_method_8_code 171 = .ok (.bipush 13, 2) := by decide +kernel
theorem d_Field_multiply_173 : decode prog_3_method_8_code 173 = .ok (.laload, 1) := by decide +kernel
theorem d_Field_multiply_174 : decode prog_3_method_8_code 174 = .ok (.lstore 59, 2) := by decide +kernel
theorem d_Field_multiply_176 : decode prog_3_method_8_code 176 = .ok (.lconst 0, 1) := by decide +kernel
theorem d_Field_multiply_177 : decode prog_3_method_8_code 177 = .ok (.lstore 61, 2) := by decide +kernel
theorem d_Field_multiply_179 : decode prog_3_method_8_code 179 = .ok (.lconst 0, 1) := by decide +kernel
theorem d_Field_multiply_180 : decode prog_3_method_8_code 180 = .ok (.lstore 63, 2) := by decide +kernel
theorem d_Field_multiply_182 : decode prog_3_method_8_code 182 = .ok (.lconst 0, 1) := by decide +kernel
theorem d_Field_multiply_183 : decode prog_3_method_8_code 183 = .ok (.lstore 65, 2) := by decide +kernel
theorem d_Field_multiply_185 : decode prog_3_method_8_code 185 = .ok (.lconst 0, 1) := by decide +kernel
theorem d_Field_multiply_186 : decode prog_3_method_8_code 186 = .ok (.lstore 67, 2) := by decide +kernel
theorem d_Field_multiply_188 : decode prog_3_method_8_code 188 = .ok (.lconst 0, 1) := by decide +kernel
theorem d_Field_multiply_189 : decode prog_3_method_8_code 189 = .ok (.lstore 69, 2) := by decide +kernel
theorem d_Field_multiply_191 : decode prog_3_method_8_code 191 = .ok (.lconst 0, 1) := by decide +kernel
theorem d_Field_multiply_192 : decode prog_3_method_8_code 192 = .ok (.lstore 71, 2) := by decide +kernel
theorem d_Field_multiply_194 : decode prog_3_method_8_code 194 = .ok (.lconst 0, 1) := by decide +kernel
theorem d_Field_multiply_195 : decode prog_3_method_8_code 195 = .ok (.lstore 73, 2) := by decide +kernel
theorem d_Field_multiply_197 : decode prog_3_method_8_code 197 = .ok (.lconst 0, 1) := by decide +kernel
theorem d_Field_multiply_198 : decode prog_3_method_8_code 198 = .ok (.lstore 75, 2) := by decide +kernel
theorem d_Field_multiply_200 : decode prog_3_method_8_code 200 = .ok (.lconst 0, 1) := by decide +kernel
theorem d_Field_multiply_201 : decode prog_3_method_8_code 201 = .ok (.lstore 77, 2) := by decide +kernel
theorem d_Field_multiply_203 : decode prog_3_method_8_code 203 = .ok (.lconst 0, 1) := by decide +kernel
theorem d_Field_multiply_204 : decode prog_3_method_8_code 204 = .ok (.lstore 79, 2) := by decide +kernel
theorem d_Field_multiply_206 : decode prog_3_method_8_code 206 = .ok (.lconst 0, 1) := by decide +kernel
theorem d_Field_multiply_207 : decode prog_3_method_8_code 207 = .ok (.lstore 81, 2) := by decide +kernel
theorem d_Field_multiply_209 : decode prog_3_method_8_code 209 = .ok (.lconst 0, 1) := by decide +kernel
theorem d_Field_multiply_210 : decode prog_3_method_8_code 210 = .ok (.lstore 83, 2) := by decide +kernel
theorem d_Field_multiply_212 : decode prog_3_method_8_code 212 = .ok (.lconst 0, 1) := by decide +kernel
theorem d_Field_multiply_213 : decode prog_3_method_8_code 213 = .ok (.lstore 85, 2) := by decide +kernel
theorem d_Field_multiply_215 : decode prog_3_method_8_code 215 = .ok (.iconst 0, 1) := by decide +kernel
theorem d_Field_multiply_216 : decode prog_3_method_8_code 216 = .ok (.istore 87, 2) := by decide +kernel
theorem d_Field_multiply_218 : decode prog_3_method_8_code 218 = .ok (.iload 87, 2) := by decide +kernel
theorem d_Field_multiply_220 : decode prog_3_method_8_code 220 = .ok (.bipush 14, 2) := by decide +kernel
theorem d_Field_multiply_222 : decode prog_3_method_8_code 222 = .ok (.if_icmp .ge 255, 3) := by decide +kernel
theorem d_Field_multiply_225 : decode prog_3_method_8_code 225 = .ok (.aload_n 3, 1) := by decide +kernel
theorem d_Field_multiply_226 : decode prog_3_method_8_code 226 = .ok (.iload 87, 2) := by decide +kernel
theorem d_Field_multiply_228 : decode prog_3_method_8_code 228 = .ok (.laload, 1) := by decide +kernel
theorem d_Field_multiply_229 : decode prog_3_method_8_code 229 = .ok (.lstore 88, 2) := by decide +kernel
theorem d_Field_multiply_231 : decode prog_3_method_8_code 231 = .ok (.lload 61, 2) := by decide +kernel
theorem d_Field_multiply_233 : decode prog_3_method_8_code 233 = .ok (.lload 88, 2) := by decide +kernel
theorem d_Field_multiply_235 : decode prog_3_method_8_code 235 = .ok (.lload 4, 2) := by decide +kernel
theorem d_Field_multiply_237 : decode prog_3_method_8_code 237 = .ok (.lmul, 1) := by decide +kernel
theorem d_Field_multiply_238 : decode prog_3_method_8_code 238 = .ok (.ladd, 1) := by decide +kernel
theorem d_Field_multiply_239 : decode prog_3_method_8_code 239 = .ok (.lstore 61, 2) := by decide +kernel
theorem d_Field_multiply_241 : decode prog_3_method_8_code 241 = .ok (.lload 61, 2) := by decide +kernel
theorem d_Field_multiply_243 : decode prog_3_method_8_code 243 = .ok (.aload_n 0, 1) := by decide +kernel
theorem d_Field_multiply_244 : decode prog_3_method_8_code 244 = .ok (.getfield 38, 3) := by decide +kernel
theorem d_Field_multiply_247 : decode prog_3_method_8_code 247 = .ok (.lmul, 1) := by decide +kernel
theorem d_Field_multiply_248 : decode prog_3_method_8_code 248 = .ok (.ldc2_w 59, 3) := by decide +kernel
theorem d_Field_multiply_251 : decode prog_3_method_8_code 251 = .ok (.land, 1) := by decide +kernel
theorem d_Field_multiply_252 : decode prog_3_method_8_code 252 = .ok (.lstore 90, 2) := by decide +kernel
theorem d_Field_multiply_254 : decode prog_3_method_8_code 254 = .ok (.lload 61, 2) := by decide +kernel
theorem d_Field_multiply_256 : decode prog_3_method_8_code 256 = .ok (.lload 90, 2) := by decide +kernel
theorem d_Field_multiply_258 : decode prog_3_method_8_code 258 = .ok (.lload 33, 2) := by decide +kernel
theorem d_Field_multiply_260 : decode prog_3_method_8_code 260 = .ok (.lmul, 1) := by decide +kernel
theorem d_Field_multiply_261 : decode prog_3_method_8_code 261 = .ok (.ladd, 1) := by decide +kernel
theorem d_Field_multiply_262 : decode prog_3_method_8_code 262 = .ok (.bipush 28, 2) := by decide +kernel
theorem d_Field_multiply_264 : decode prog_3_method_8_code 264 = .ok (.lshr, 1) := by decide +kernel
theorem d_Field_multiply_265 : decode prog_3_method_8_code 265 = .ok (.lload 63, 2) := by decide +kernel
theorem d_Field_multiply_267 : decode prog_3_method_8_code 267 = .ok (.ladd, 1) := by decide +kernel
theorem d_Field_multiply_268 : decode prog_3_method_8_code 268 = .ok (.lload 88, 2) := by decide +kernel
theorem d_Field_multiply_270 : decode prog_3_method_8_code 270 = .ok (.lload 6, 2) := by decide +kernel
theorem d_Field_multiply_272 : decode prog_3_method_8_code 272 = .ok (.lmul, 1) := by decide +kernel
theorem d_Field_multiply_273 : decode prog_3_method_8_code 273 = .ok (.ladd, 1) := by decide +kernel
theorem d_Field_multiply_274 : decode prog_3_method_8_code 274 = .ok (.lload 90, 2) := by decide +kernel
theorem d_Field_multiply_276 : decode prog_3_method_8_code 276 = .ok (.lload 35, 2) := by decide +kernel
theorem d_Field_multiply_278 : decode prog_3_method_8_code 278 = .ok (.lmul, 1) := by decide +kernel
theorem d_Field_multiply_279 : decode prog_3_method_8_code 279 = .ok (.ladd, 1) := by decide +kernel
theorem d_Field_multiply_280 : decode prog_3_method_8_code 280 = .ok (.lstore 61, 2) := by decide +kernel
theorem d_Field_multiply_282 : decode prog_3_method_8_code 282 = .ok (.lload 65, 2) := by decide +kernel
theorem d_Field_multiply_284 : decode prog_3_method_8_code 284 = .ok (.lload 88, 2) := by decide +kernel
theorem d_Field_multiply_286 : decode prog_3_method_8_code 286 = .ok (.lload 8, 2) := by decide +kernel
theorem d_Field_multiply_288 : decode prog_3_method_8_code 288 = .ok (.lmul, 1) := by decide +kernel
theorem d_Field_multiply_289 : decode prog_3_method_8_code 289 = .ok (.ladd, 1) := by decide +kernel
theorem d_Field_multiply_290 : decode prog_3_method_8_code 290 = .ok (.lload 90, 2) := by decide +kernel
theorem d_Field_multiply_292 : decode prog_3_method_8_code 292 = .ok (.lload 37, 2) := by decide +kernel
theorem d_Field_multiply_294 : decode prog_3_method_8_code 294 = .ok (.lmul, 1) := by decide +kernel
theorem d_Field_multiply_295 : decode prog_3_method_8_code 295 = .ok (.ladd, 1) := by decide +kernel
theorem d_Field_multiply_296 : decode prog_3_method_8_code 296 = .ok (.lstore 63, 2) := by decide +kernel
theorem d_Field_multiply_298 : decode prog_3_method_8_code 298 = .ok (.lload 67, 2) := by decide +kernel
theorem d_Field_multiply_300 : decode prog_3_method_8_code 300 = .ok (.lload 88, 2) := by decide +kernel
theorem d_Field_multiply_302 : decode prog_3_method_8_code 302 = .ok (.lload 10, 2) := by decide +kernel
theorem d_Field_multiply_304 : decode prog_3_method_8_code 304 = .ok (.lmul, 1) := by decide +kernel
theorem d_Field_multiply_305 : decode prog_3_method_8_code 305 = .ok (.ladd, 1) := by decide +kernel
theorem d_Field_multiply_306 : decode prog_3_method_8_code 306 = .ok (.lload 90, 2) := by decide +kernel
theorem d_Field_multiply_308 : decode prog_3_method_8_code 308 = .ok (.lload 39, 2) := by decide +kernel
theorem d_Field_multiply_310 : decode prog_3_method_8_code 310 = .ok (.lmul, 1) := by decide +kernel
theorem d_Field_multiply_311 : decode prog_3_method_8_code 311 = .ok (.ladd, 1) := by decide +kernel
theorem d_Field_multiply_312 : decode prog_3_method_8_code 312 = .ok (.lstore 65, 2) := by decide +kernel
theorem d_Field_multiply_314 : decode prog_3_method_8_code 314 = .ok (.lload 69, 2) := by decide +kernel
theorem d_Field_multiply_316 : decode prog_3_method_8_code 316 = .ok (.lload 88, 2) := by decide +kernel
theorem d_Field_multiply_318 : decode prog_3_method_8_code 318 = .ok (.lload 12, 2) := by decide +kernel
theorem d_Field_multiply_320 : decode prog_3_method_8_code 320 = .ok (.lmul, 1) := by decide +kernel
theorem d_Field_multiply_321 : decode prog_3_method_8_code 321 = .ok (.ladd, 1) := by decide +kernel
theorem d_Field_multiply_322 : decode prog_3_method_8_code 322 = .ok (.lload 90, 2) := by decide +kernel
theorem d_Field_multiply_324 : decode prog_3_method_8_code 324 = .ok (.lload 41, 2) := by decide +kernel
theorem d_Field_multiply_326 : decode prog_3_method_8_code 326 = .ok (.lmul, 1) := by decide +kernel
theorem d_Field_multiply_327 : decode prog_3_method_8_code 327 = .ok (.ladd, 1) := by decide +kernel
theorem d_Field_multiply_328 : decode prog_3_method_8_code 328 = .ok (.lstore 67, 2) := by decide +kernel
theorem d_Field_multiply_330 : decode prog_3_method_8_code 330 = .ok (.lload 71, 2) := by decide +kernel
theorem d_Field_multiply_332 : decode prog_3_method_8_code 332 = .ok (.lload 88, 2) := by decide +kernel
theorem d_Field_multiply_334 : decode prog_3_method_8_code 334 = .ok (.lload 14, 2) := by decide +kernel
theorem d_Field_multiply_336 : decode prog_3_method_8_code 336 = .ok (.lmul, 1) := by decide +kernel
theorem d_Field_multiply_337 : decode prog_3_method_8_code 337 = .ok (.ladd, 1) := by decide +kernel
theorem d_Field_multiply_338 : decode prog_3_method_8_code 338 = .ok (.lload 90, 2) := by decide +kernel
theorem d_Field_multiply_340 : decode prog_3_method_8_code 340 = .ok (.lload 43, 2) := by decide +kernel
theorem d_Field_multiply_342 : decode prog_3_method_8_code 342 = .ok (.lmul, 1) := by decide +kernel
theorem d_Field_multiply_343 : decode prog_3_method_8_code 343 = .ok (.ladd, 1) := by decide +kernel
theorem d_Field_multiply_344 : decode prog_3_method_8_code 344 = .ok (.lstore 69, 2) := by decide +kernel
theorem d_Field_multiply_346 : decode prog_3_method_8_code 346 = .ok (.lload 73, 2) := by decide +kernel
theorem d_Field_multiply_348 : decode prog_3_method_8_code 348 = .ok (.lload 88, 2) := by decide +kernel
theorem d_Field_multiply_350 : decode prog_3_method_8_code 350 = .ok (.lload 16, 2) := by decide +kernel
theorem d_Field_multiply_352 : decode prog_3_method_8_code 352 = .ok (.lmul, 1) := by decide +kernel
theorem d_Field_multiply_353 : decode prog_3_method_8_code 353 = .ok (.ladd, 1) := by decide +kernel
theorem d_Field_multiply_354 : decode prog_3_method_8_code 354 = .ok (.lload 90, 2) := by decide +kernel
theorem d_Field_multiply_356 : decode prog_3_method_8_code 356 = .ok (.lload 45, 2) := by decide +kernel
theorem d_Field_multiply_358 : decode prog_3_method_8_code 358 = .ok (.lmul, 1) := by decide +kernel
theorem d_Field_multiply_359 : decode prog_3_method_8_code 359 = .ok (.ladd, 1) := by decide +kernel
theorem d_Field_multiply_360 : decode prog_3_method_8_code 360 = .ok (.lstore 71, 2) := by decide +kernel
theorem d_Field_multiply_362 : decode prog_3_method_8_code 362 = .ok (.lload 75, 2) := by decide +kernel
theorem d_Field_multiply_364 : decode prog_3_method_8_code 364 = .ok (.lload 88, 2) := by decide +kernel
theorem d_Field_multiply_366 : decode prog_3_method_8_code 366 = .ok (.lload 18, 2) := by decide +kernel
theorem d_Field_multiply_368 : decode prog_3_method_8_code 368 = .ok (.lmul, 1) := by decide +kernel
theorem d_Field_multiply_369 : decode prog_3_method_8_code 369 = .ok (.ladd, 1) := by decide +kernel
theorem d_Field_multiply_370 : decode prog_3_method_8_code 370 = .ok (.lload 90, 2) := by decide +kernel
theorem d_Field_multiply_372 : decode prog_3_method_8_code 372 = .ok (.lload 47, 2) := by decide +kernel
theorem d_Field_multiply_374 : decode prog_3_method_8_code 374 = .ok (.lmul, 1) := by decide +kernel
theorem d_Field_multiply_375 : decode prog_3_method_8_code 375 = .ok (.ladd, 1) := by decide +kernel
end
section
theorem d_Field_multiply_376 : decode prog_3_method_8_code 376 = .ok (.lstore 73, 2) := by decide +kernel
theorem d_Field_multiply_378 : decode prog_3_method_8_code 378 = .ok (.lload 77, 2) := by decide +kernel
theorem d_Field_multiply_380 : decode prog_3_method_8_code 380 = .ok (.lload 88, 2) := by decide +kernel
theorem d_Field_multiply_382 : decode prog_3_method_8_code 382 = .ok (.lload 20, 2) := by decide +kernel
theorem d_Field_multiply_384 : decode prog_3_method_8_code 384 = .ok (.lmul, 1) := by decide +kernel
theorem d_Field_multiply_385 : decode prog_3_method_8_code 385 = .ok (.ladd, 1) := by decide +kernel
theorem d_Field_multiply_386 : decode prog_3_method_8_code 386 = .ok (.lload 90, 2) := by decide +kernel
theorem d_Field_multiply_388 : decode prog_3_method_8_code 388 = .ok (.lload 49, 2) := by decide +kernel
theorem d_Field_multiply_390 : decode prog_3_method_8_code 390 = .ok (.lmul, 1) := by decide +kernel
theorem d_Field_multiply_391 : decode prog_3_method_8_code 391 = .ok (.ladd, 1) := by decide +kernel
theorem d_Field_multiply_392 : decode prog_3_method_8_code 392 = .ok (.lstore 75, 2) := by decide +kernel
theorem d_Field_multiply_394 : decode prog_3_method_8_code 394 = .ok (.lload 79, 2) := by decide +kernel
theorem d_Field_multiply_396 : decode prog_3_method_8_code 396 = .ok (.lload 88, 2) := by decide +kernel
theorem d_Field_multiply_398 : decode prog_3_method_8_code 398 = .ok (.lload 22, 2) := by decide +kernel
theorem d_Field_multiply_400 : decode prog_3_method_8_code 400 = .ok (.lmul, 1) := by decide +kernel
theorem d_Field_multiply_401 : decode prog_3_method_8_code 401 = .ok (.ladd, 1) := by decide +kernel
theorem d_Field_multiply_402 : decode prog_3_method_8_code 402 = .ok (.lload 90, 2) := by decide +kernel
theorem d_Field_multiply_404 : decode prog_3_method_8_code 404 = .ok (.lload 51, 2) := by decide +kernel
theorem d_Field_multiply_406 : decode prog_3_method_8_code 406 = .ok (.lmul, 1) := by decide +kernel
theorem d_Field_multiply_407 : decode prog_3_method_8_code 407 = .ok (.ladd, 1) := by decide +kernel
theorem d_Field_multiply_408 : decode prog_3_method_8_code 408 = .ok (.lstore 77, 2) := by decide +kernel
theorem d_Field_multiply_410 : decode prog_3_method_8_code 410 = .ok (.lload 81, 2) := by decide +kernel
theorem d_Field_multiply_412 : decode prog_3_method_8_code 412 = .ok (.lload 88, 2) := by decide +kernel
theorem d_Field_multiply_414 : decode prog_3_method_8_code 414 = .ok (.lload 24, 2) := by decide +kernel
theorem d_Field_multiply_416 : decode prog_3_method_8_code 416 = .ok (.lmul, 1) := by decide +kernel
theorem d_Field_multiply_417 : decode prog_3_method_8_code 417 = .ok (.ladd, 1) := by decide +kernel
theorem d_Field_multiply_418 : decode prog_3_method_8_code 418 = .ok (.lload 90, 2) := by decide +kernel
theorem d_Field_multiply_420 : decode prog_3_method_8_code 420 = .ok (.lload 53, 2) := by decide +kernel
theorem d_Field_multiply_422 : decode prog_3_method_8_code 422 = .ok (.lmul, 1) := by decide +kernel
theorem d_Field_multiply_423 : decode prog_3_method_8_code 423 = .ok (.ladd, 1) := by decide +kernel
theorem d_Field_multiply_424 : decode prog_3_method_8_code 424 = .ok (.lstore 79, 2) := by decide +kernel
theorem d_Field_multiply_426 : decode prog_3_method_8_code 426 = .ok (.lload 83, 2) := by decide +kernel
theorem d_Field_multiply_428 : decode prog_3_method_8_code 428 = .ok (.lload 88, 2) := by decide +kernel
theorem d_Field_multiply_430 : decode prog_3_method_8_code 430 = .ok (.lload 26, 2) := by decide +kernel
theorem d_Field_multiply_432 : decode prog_3_method_8_code 432 = .ok (.lmul, 1) := by decide +kernel
theorem d_Field_multiply_433 : decode prog_3_method_8_code 433 = .ok (.ladd, 1) := by decide +kernel
theorem d_Field_multiply_434 : decode prog_3_method_8_code 434 = .ok (.lload 90, 2) := by decide +kernel
theorem d_Field_multiply_436 : decode prog_3_method_8_code 436 = .ok (.lload 55, 2) := by decide +kernel
theorem d_Field_multiply_438 : decode prog_3_method_8_code 438 = .ok (.lmul, 1) := by decide +kernel
theorem d_Field_multiply_439 : decode prog_3_method_8_code 439 = .ok (.ladd, 1) := by decide +kernel
theorem d_Field_multiply_440 : decode prog_3_method_8_code 440 = .ok (.lstore 81, 2) := by decide +kernel
theorem d_Field_multiply_442 : decode prog_3_method_8_code 442 = .ok (.lload 85, 2) := by decide +kernel
theorem d_Field_multiply_444 : decode prog_3_method_8_code 444 = .ok (.lload 88, 2) := by decide +kernel
theorem d_Field_multiply_446 : decode prog_3_method_8_code 446 = .ok (.lload 28, 2) := by decide +kernel
theorem d_Field_multiply_448 : decode prog_3_method_8_code 448 = .ok (.lmul, 1) := by decide +kernel
theorem d_Field_multiply_449 : decode prog_3_method_8_code 449 = .ok (.ladd, 1) := by decide +kernel
theorem d_Field_multiply_450 : decode prog_3_method_8_code 450 = .ok (.lload 90, 2) := by decide +kernel
theorem d_Field_multiply_452 : decode prog_3_method_8_code 452 = .ok (.lload 57, 2) := by decide +kernel
theorem d_Field_multiply_454 : decode prog_3_method_8_code 454 = .ok (.lmul, 1) := by decide +kernel
theorem d_Field_multiply_455 : decode prog_3_method_8_code 455 = .ok (.ladd, 1) := by decide +kernel
theorem d_Field_multiply_456 : decode prog_3_method_8_code 456 = .ok (.lstore 83, 2) := by decide +kernel
theorem d_Field_multiply_458 : decode prog_3_method_8_code 458 = .ok (.lload 88, 2) := by decide +kernel
theorem d_Field_multiply_460 : decode prog_3_method_8_code 460 = .ok (.lload 30, 2) := by decide +kernel
theorem d_Field_multiply_462 : decode prog_3_method_8_code 462 = .ok (.lmul, 1) := by decide +kernel
theorem d_Field_multiply_463 : decode prog_3_method_8_code 463 = .ok (.lload 90, 2) := by decide +kernel
theorem d_Field_multiply_465 : decode prog_3_method_8_code 465 = .ok (.lload 59, 2) := by decide +kernel
theorem d_Field_multiply_467 : decode prog_3_method_8_code 467 = .ok (.lmul, 1) := by decide +kernel
theorem d_Field_multiply_468 : decode prog_3_method_8_code 468 = .ok (.ladd, 1) := by decide +kernel
theorem d_Field_multiply_469 : decode prog_3_method_8_code 469 = .ok (.lstore 85, 2) := by decide +kernel
theorem d_Field_multiply_471 : decode prog_3_method_8_code 471 = .ok (.iinc 87 1, 3) := by decide +kernel
theorem d_Field_multiply_474 : decode prog_3_method_8_code 474 = .ok (.goto (-256), 3) := by decide +kernel
theorem d_Field_multiply_477 : decode prog_3_method_8_code 477 = .ok (.aload_n 1, 1) := by decide +kernel
theorem d_Field_multiply_478 : decode prog_3_method_8_code 478 = .ok (.iconst 0, 1) := by decide +kernel
theorem d_Field_multiply_479 : decode prog_3_method_8_code 479 = .ok (.lload 61, 2) := by decide +kernel
theorem d_Field_multiply_481 : decode prog_3_method_8_code 481 = .ok (.ldc2_w 59, 3) := by decide +kernel
theorem d_Field_multiply_484 : decode prog_3_method_8_code 484 = .ok (.land, 1) := by decide +kernel
theorem d_Field_multiply_485 : decode prog_3_method_8_code 485 = .ok (.lastore, 1) := by decide +kernel
theorem d_Field_multiply_486 : decode prog_3_method_8_code 486 = .ok (.aload_n 1, 1) := by decide +kernel
theorem d_Field_multiply_487 : decode prog_3_method_8_code 487 = .ok (.iconst 1, 1) := by decide +kernel
theorem d_Field_multiply_488 : decode prog_3_method_8_code 488 = .ok (.lload 63, 2) := by decide +kernel
theorem d_Field_multiply_490 : decode prog_3_method_8_code 490 = .ok (.lload 61, 2) := by decide +kernel
theorem d_Field_multiply_492 : decode prog_3_method_8_code 492 = .ok (.bipush 28, 2) := by decide +kernel
theorem d_Field_multiply_494 : decode prog_3_method_8_code 494 = .ok (.lshr, 1) := by decide +kernel
theorem d_Field_multiply_495 : decode prog_3_method_8_code 495 = .ok (.ladd, 1) := by decide +kernel
theorem d_Field_multiply_496 : decode prog_3_method_8_code 496 = .ok (.dup2, 1) := by decide +kernel
theorem d_Field_multiply_497 : decode prog_3_method_8_code 497 = .ok (.lstore 63, 2) := by decide +kernel
theorem d_Field_multiply_499 : decode prog_3_method_8_code 499 = .ok (.ldc2_w 59, 3) := by decide +kernel
theorem d_Field_multiply_502 : decode prog_3_method_8_code 502 = .ok (.land, 1) := by decide +kernel
theorem d_Field_multiply_503 : decode prog_3_method_8_code 503 = .ok (.lastore, 1) := by decide +kernel
theorem d_Field_multiply_504 : decode prog_3_method_8_code 504 = .ok (.aload_n 1, 1) := by decide +kernel
theorem d_Field_multiply_505 : decode prog_3_method_8_code 505 = .ok (.iconst 2, 1) := by decide +kernel
theorem d_Field_multiply_506 : decode prog_3_method_8_code 506 = .ok (.lload 65, 2) := by decide +kernel
theorem d_Field_multiply_508 : decode prog_3_method_8_code 508 = .ok (.lload 63, 2) := by decide +kernel
theorem d_Field_multiply_510 : decode prog_3_method_8_code 510 = .ok (.bipush 28, 2) := by decide +kernel
theorem d_Field_multiply_512 : decode prog_3_method_8_code 512 = .ok (.lshr, 1) := by decide +kernel
theorem d_Field_multiply_513 : decode prog_3_method_8_code 513 = .ok (.ladd, 1) := by decide +kernel
theorem d_Field_multiply_514 : decode prog_3_method_8_code 514 = .ok (.dup2, 1) := by decide +kernel
theorem d_Field_multiply_515 : decode prog_3_method_8_code 515 = .ok (.lstore 65, 2) := by decide +kernel
theorem d_Field_multiply_517 : decode prog_3_method_8_code 517 = .ok (.ldc2_w 59, 3) := by decide +kernel
theorem d_Field_multiply_520 : decode prog_3_method_8_code 520 = .ok (.land, 1) := by decide +kernel
theorem d_Field_multiply_521 : decode prog_3_method_8_code 521 = .ok (.lastore, 1) := by decide +kernel
theorem d_Field_multiply_522 : decode prog_3_method_8_code 522 = .ok (.aload_n 1, 1) := by decide +kernel
theorem d_Field_multiply_523 : decode prog_3_method_8_code 523 = .ok (.iconst 3, 1) := by decide +kernel
theorem d_Field_multiply_524 : decode prog_3_method_8_code 524 = .ok (.lload 67, 2) := by decide +kernel
theorem d_Field_multiply_526 : decode prog_3_method_8_code 526 = .ok (.lload 65, 2) := by decide +kernel
theorem d_Field_multiply_528 : decode prog_3_method_8_code 528 = .ok (.bipush 28, 2) := by decide +kernel
theorem d_Field_multiply_530 : decode prog_3_method_8_code 530 = .ok (.lshr, 1) := by decide +kernel
theorem d_Field_multiply_531 : decode prog_3_method_8_code 531 = .ok (.ladd, 1) := by decide +kernel
theorem d_Field_multiply_532 : decode prog_3_method_8_code 532 = .ok (.dup2, 1) := by decide +kernel
theorem d_Field_multiply_533 : decode prog_3_method_8_code 533 = .ok (.lstore 67, 2) := by decide +kernel
theorem d_Field_multiply_535 : decode prog_3_method_8_code 535 = .ok (.ldc2_w 59, 3) := by decide +kernel
theorem d_Field_multiply_538 : decode prog_3_method_8_code 538 = .ok (.land, 1) := by decide +kernel
theorem d_Field_multiply_539 : decode prog_3_method_8_code 539 = .ok (.lastore, 1) := by decide +kernel
theorem d_Field_multiply_540 : decode prog_3_method_8_code 540 = .ok (.aload_n 1, 1) := by decide +kernel
theorem d_Field_multiply_541 : decode prog_3_method_8_code 541 = .ok (.iconst 4, 1) := by decide +kernel
theorem d_Field_multiply_542 : decode prog_3_method_8_code 542 = .ok (.lload 69, 2) := by decide +kernel
theorem d_Field_multiply_544 : decode prog_3_method_8_code 544 = .ok (.lload 67, 2) := by decide +kernel
theorem d_Field_multiply_546 : decode prog_3_method_8_code 546 = .ok (.bipush 28, 2) := by decide +kernel
theorem d_Field_multiply_548 : decode prog_3_method_8_code 548 = .ok (.lshr, 1) := by decide +kernel
theorem d_Field_multiply_549 : decode prog_3_method_8_code 549 = .ok (.ladd, 1) := by decide +kernel
theorem d_Field_multiply_550 : decode prog_3_method_8_code 550 = .ok (.dup2, 1) := by decide +kernel
theorem d_Field_multiply_551 : decode prog_3_method_8_code 551 = .ok (.lstore 69, 2) := by decide +kernel
theorem d_Field_multiply_553 : decode prog_3_method_8_code 553 = .ok (.ldc2_w 59, 3) := by decide +kernel
theorem d_Field_multiply_556 : decode prog_3_method_8_code 556 = .ok (.land, 1) := by decide +kernel
theorem d_Field_multiply_557 : decode prog_3_method_8_code 557 = .ok (.lastore, 1) := by decide +kernel
theorem d_Field_multiply_558 : decode prog_3_method_8_code 558 = .ok (.aload_n 1, 1) := by decide +kernel
theorem d_Field_multiply_559 : decode prog_3_method_8_code 559 = .ok (.iconst 5, 1) := by decide +kernel
theorem d_Field_multiply_560 : decode prog_3_method_8_code 560 = .ok (.lload 71, 2) := by decide +kernel
theorem d_Field_multiply_562 : decode prog_3_method_8_code 562 = .ok (.lload 69, 2) := by decide +kernel
theorem d_Field_multiply_564 : decode prog_3_method_8_code 564 = .ok (.bipush 28, 2) := by decide +kernel
theorem d_Field_multiply_566 : decode prog_3_method_8_code 566 = .ok (.lshr, 1) := by decide +kernel
theorem d_Field_multiply_567 : decode prog_3_method_8_code 567 = .ok (.ladd, 1) := by decide +kernel
theorem d_Field_multiply_568 : decode prog_3_method_8_code 568 = .ok (.dup2, 1) := by decide +kernel
theorem d_Field_multiply_569 : decode prog_3_method_8_code 569 = .ok (.lstore 71, 2) := by decide +kernel
theorem d_Field_multiply_571 : decode prog_3_method_8_code 571 = .ok (.ldc2_w 59, 3) := by decide +kernel
theorem d_Field_multiply_574 : decode prog_3_method_8_code 574 = .ok (.land, 1) := by decide +kernel
theorem d_Field_multiply_575 : decode prog_3_method_8_code 575 = .ok (.lastore, 1) := by decide +kernel
theorem d_Field_multiply_576 : decode prog_3_method_8_code 576 = .ok (.aload_n 1, 1) := by decide +kernel
theorem d_Field_multiply_577 : decode prog_3_method_8_code 577 = .ok (.bipush 6, 2) := by decide +kernel
theorem d_Field_multiply_579 : decode prog_3_method_8_code 579 = .ok (.lload 73, 2) := by decide +kernel
theorem d_Field_multiply_581 : decode prog_3_method_8_code 581 = .ok (.lload 71, 2) := by decide +kernel
theorem d_Field_multiply_583 : decode prog_3_method_8_code 583 = .ok (.bipush 28, 2) := by decide +kernel
theorem d_Field_multiply_585 : decode prog_3_method_8_code 585 = .ok (.lshr, 1) := by decide +kernel
theorem d_Field_multiply_586 : decode prog_3_method_8_code 586 = .ok (.ladd, 1) := by decide +kernel
theorem d_Field_multiply_587 : decode prog_3_method_8_code 587 = .ok (.dup2, 1) := by decide +kernel
theorem d_Field_multiply_588 : decode prog_3_method_8_code 588 = .ok (.lstore 73, 2) := by decide +kernel
theorem d_Field_multiply_590 : decode prog_3_method_8_code 590 = .ok (.ldc2_w 59, 3) := by decide +kernel
theorem d_Field_multiply_593 : decode prog_3_method_8_code 593 = .ok (.land, 1) := by decide +kernel
theorem d_Field_multiply_594 : decode prog_3_method_8_code 594 = .ok (.lastore, 1) := by decide +kernel
theorem d_Field_multiply_595 : decode prog_3_method_8_code 595 = .ok (.aload_n 1, 1) := by decide +kernel
theorem d_Field_multiply_596 : decode prog_3_method_8_code 596 = .ok (.bipush 7, 2) := by decide +kernel
theorem d_Field_multiply_598 : decode prog_3_method_8_code 598 = .ok (.lload 75, 2) := by decide +kernel
theorem d_Field_multiply_600 : decode prog_3_method_8_code 600 = .ok (.lload 73, 2) := by decide +kernel
theorem d_Field_multiply_602 : decode prog_3_method_8_code 602 = .ok (.bipush 28, 2) := by decide +kernel
theorem d_Field_multiply_604 : decode prog_3_method_8_code 604 = .ok (.lshr, 1) := by decide +kernel
theorem d_Field_multiply_605 : decode prog_3_method_8_code 605 = .ok (.ladd, 1) := by decide +kernel
theorem d_Field_multiply_606 : decode prog_3_method_8_code 606 = .ok (.dup2, 1) := by decide +kernel
theorem d_Field_multiply_607 : decode prog_3_method_8_code 607 = .ok (.lstore 75, 2) := by decide +kernel
theorem d_Field_multiply_609 : decode prog_3_method_8_code 609 = .ok (.ldc2_w 59, 3) := by decide +kernel
theorem d_Field_multiply_612 : decode prog_3_method_8_code 612 = .ok (.land, 1) := by decide +kernel
theorem d_Field_multiply_613 : decode prog_3_method_8_code 613 = .ok (.lastore, 1) := by decide +kernel
theorem d_Field_multiply_614 : decode prog_3_method_8_code 614 = .ok (.aload_n 1, 1) := by decide +kernel
theorem d_Field_multiply_615 : decode prog_3_method_8_code 615 = .ok (.bipush 8, 2) := by decide +kernel
theorem d_Field_multiply_617 : decode prog_3_method_8_code 617 = .ok (.lload 77, 2) := by decide +kernel
theorem d_Field_multiply_619 : decode prog_3_method_8_code 619 = .ok (.lload 75, 2) := by decide +kernel
theorem d_Field_multiply_621 : decode prog_3_method_8_code 621 = .ok (.bipush 28, 2) := by decide +kernel
theorem d_Field_multiply_623 : decode prog_3_method_8_code 623 = .ok (.lshr, 1) := by decide +kernel
theorem d_Field_multiply_624 : decode prog_3_method_8_code 624 = .ok (.ladd, 1) := by decide +kernel
theorem d_Field_multiply_625 : decode prog_3_method_8_code 625 = .ok (.dup2, 1) := by decide +kernel
theorem d_Field_multiply_626 : decode prog_3_method_8_code 626 = .ok (.lstore 77, 2) := by decide +kernel
theorem d_Field_multiply_628 : decode prog_3_method_8_code 628 = .ok (.ldc2_w 59, 3) := by decide +kernel
theorem d_Field_multiply_631 : decode prog_3_method_8_code 631 = .ok (.land, 1) := by decide +kernel
theorem d_Field_multiply_632 : decode prog_3_method_8_code 632 = .ok (.lastore, 1) := by decide +kernel
theorem d_Field_multiply_633 : decode prog_3_method_8_code 633 = .ok (.aload_n 1, 1) := by decide +kernel
theorem d_Field_multiply_634 : decode prog_3_method_8_code 634 = .ok (.bipush 9, 2) := by decide +kernel
theorem d_Field_multiply_636 : decode prog_3_method_8_code 636 = .ok (.lload 79, 2) := by decide +kernel
theorem d_Field_multiply_638 : decode prog_3_method_8_code 638 = .ok (.lload 77, 2) := by decide +kernel
theorem d_Field_multiply_640 : decode prog_3_method_8_code 640 = .ok (.bipush 28, 2) := by decide +kernel
theorem d_Field_multiply_642 : decode prog_3_method_8_code 642 = .ok (.lshr, 1) := by decide +kernel
theorem d_Field_multiply_643 : decode prog_3_method_8_code 643 = .ok (.ladd, 1) := by decide +kernel
theorem d_Field_multiply_644 : decode prog_3_method_8_code 644 = .ok (.dup2, 1) := by decide +kernel
theorem d_Field_multiply_645 : decode prog_3_method_8_code 645 = .ok (.lstore 79, 2) := by decide +kernel
theorem d_Field_multiply_647 : decode prog_3_method_8_code 647 = .ok (.ldc2_w 59, 3) := by decide +kernel
theorem d_Field_multiply_650 : decode prog_3_method_8_code 650 = .ok (.land, 1) := by decide +kernel
theorem d_Field_multiply_651 : decode prog_3_method_8_code 651 = .ok (.lastore, 1) := by decide +kernel
theorem d_Field_multiply_652 : decode prog_3_method_8_code 652 = .ok (.aload_n 1, 1) := by decide +kernel
theorem d_Field_multiply_653 : decode prog_3_method_8_code 653 = .ok (.bipush 10, 2) := by decide +kernel
theorem d_Field_multiply_655 : decode prog_3_method_8_code 655 = .ok (.lload 81, 2) := by decide +kernel
theorem d_Field_multiply_657 : decode prog_3_method_8_code 657 = .ok (.lload 79, 2) := by decide +kernel
theorem d_Field_multiply_659 : decode prog_3_method_8_code 659 = .ok (.bipush 28, 2) := by decide +kernel
theorem d_Field_multiply_661 : decode prog_3_method_8_code 661 = .ok (.lshr, 1) := by decide +kernel
theorem d_Field_multiply_662 : decode prog_3_method_8_code 662 = .ok (.ladd, 1) := by decide +kernel
theorem d_Field_multiply_663 : decode prog_3_method_8_code 663 = .ok (.dup2, 1) := by decide +kernel
theorem d_Field_multiply_664 : decode prog_3_method_8_code 664 = .ok (.lstore 81, 2) := by decide +kernel
theorem d_Field_multiply_666 : decode prog_3_method_8_code 666 = .ok (.ldc2_w 59, 3) := by decide +kernel
theorem d_Field_multiply_669 : decode prog_3_method_8_code 669 = .ok (.land, 1) := by decide +kernel
theorem d_Field_multiply_670 : decode prog_3_method_8_code 670 = .ok (.lastore, 1) := by decide +kernel
theorem d_Field_multiply_671 : decode prog_3_method_8_code 671 = .ok (.aload_n 1, 1) := by decide +kernel
theorem d_Field_multiply_672 : decode prog_3_method_8_code 672 = .ok (.bipush 11, 2) := by decide +kernel
theorem d_Field_multiply_674 : decode prog_3_method_8_code 674 = .ok (.lload 83, 2) := by decide +kernel
theorem d_Field_multiply_676 : decode prog_3_method_8_code 676 = .ok (.lload 81, 2) := by decide +kernel
theorem d_Field_multiply_678 : decode prog_3_method_8_code 678 = .ok (.bipush 28, 2) := by decide +kernel
theorem d_Field_multiply_680 : decode prog_3_method_8_code 680 = .ok (.lshr, 1) := by decide +kernel
theorem d_Field_multiply_681 : decode prog_3_method_8_code 681 = .ok (.ladd, 1) := by decide +kernel
theorem d_Field_multiply_682 : decode prog_3_method_8_code 682 = .ok (.dup2, 1) := by decide +kernel
theorem d_Field_multiply_683 : decode prog_3_method_8_code 683 = .ok (.lstore 83, 2) := by decide +kernel
theorem d_Field_multiply_685 : decode prog_3_method_8_code 685 = .ok (.ldc2_w 59, 3) := by decide +kernel
theorem d_Field_multiply_688 : decode prog_3_method_8_code 688 = .ok (.land, 1) := by decide +kernel
theorem d_Field_multiply_689 : decode prog_3_method_8_code 689 = .ok (.lastore, 1) := by decide +kernel
theorem d_Field_multiply_690 : decode prog_3_method_8_code 690 = .ok (.aload_n 1, 1) := by decide +kernel
theorem d_Field_multiply_691 : decode prog_3_method_8_code 691 = .ok (.bipush 12, 2) := by decide +kernel
theorem d_Field_multiply_693 : decode prog_3_method_8_code 693 = .ok (.lload 85, 2) := by decide +kernel
theorem d_Field_multiply_695 : decode prog_3_method_8_code 695 = .ok (.lload 83, 2) := by decide +kernel
theorem d_Field_multiply_697 : decode prog_3_method_8_code 697 = .ok (.bipush 28, 2) := by decide +kernel
theorem d_Field_multiply_699 : decode prog_3_method_8_code 699 = .ok (.lshr, 1) := by decide +kernel
theorem d_Field_multiply_700 : decode prog_3_method_8_code 700 = .ok (.ladd, 1) := by decide +kernel
theorem d_Field_multiply_701 : decode prog_3_method_8_code 701 = .ok (.dup2, 1) := by decide +kernel
theorem d_Field_multiply_702 : decode prog_3_method_8_code 702 = .ok (.lstore 85, 2) := by decide +kernel
theorem d_Field_multiply_704 : decode prog_3_method_8_code 704 = .ok (.ldc2_w 59, 3) := by decide +kernel
theorem d_Field_multiply_707 : decode prog_3_method_8_code 707 = .ok (.land, 1) := by decide +kernel
theorem d_Field_multiply_708 : decode prog_3_method_8_code 708 = .ok (.lastore, 1) := by decide +kernel
theorem d_Field_multiply_709 : decode prog_3_method_8_code 709 = .ok (.aload_n 1, 1) := by decide +kernel
theorem d_Field_multiply_710 : decode prog_3_method_8_code 710 = .ok (.bipush 13, 2) := by decide +kernel
theorem d_Field_multiply_712 : decode prog_3_method_8_code 712 = .ok (.lload 85, 2) := by decide +kernel
theorem d_Field_multiply_714 : decode prog_3_method_8_code 714 = .ok (.bipush 28, 2) := by decide +kernel
theorem d_Field_multiply_716 : decode prog_3_method_8_code 716 = .ok (.lshr, 1) := by decide +kernel
theorem d_Field_multiply_717 : decode prog_3_method_8_code 717 = .ok (.lastore, 1) := by decide +kernel
theorem d_Field_multiply_718 : decode prog_3_method_8_code 718 = .ok (.aload_n 0, 1) := by decide +kernel
theorem d_Field_multiply_719 : decode prog_3_method_8_code 719 = .ok (.aload_n 1, 1) := by decide +kernel
theorem d_Field_multiply_720 : decode prog_3_method_8_code 720 = .ok (.invokevirtual 64, 3) := by decide +kernel
theorem d_Field_multiply_723 : decode prog_3_method_8_code 723 = .ok (.return_, 1) := by decide +kernel
end
section
set_option maxHeartbeats 4000000 in
set_option maxRecDepth 100000 in
/-- a product: only t is written -/
theorem c_Field_multiply (l : Launch) (g : WG) (n0 : Nat → Prop) (o t a b : Nat) (F : Nat → Nat) (mi : Int64) : Ctr l y_Field_multiply (.code y_Field_multiply prog_3_method_8_code 92 none) 1 24 0 0 n0 g [.ref o, .ref t, .ref a, .ref b] (fun H => FD g n0 H o F mi ∧ J14 g n0 H t ∧ J14 g n0 H a ∧ J14 g n0 H b) (QV (fun H H' => KJ g (fun q => q = t) H H')) := by
  refine ctr_mk l (lv0 := [(0, .ref o), (1, .ref t), (2, .ref a), (3, .ref b)]) (by decide) (Nat.le_of_ble_eq_true rfl) rfl ?_
  intro p e s m below meth c ls E hr hlk hnm hl hP
  have hx := E.1
  have hb := E.2.1
  have hK := E.2.2.2.2.2
  have hF : ∀ q ∈ ([] : List Loc), n0 q.base := fun q hq => absurd hq List.not_mem_nil
  obtain ⟨hfd, ht, ha, hb0⟩ := hP
  have hk : KJ g (fun q => q = t) s.heap s.heap := KJ.rf
  refine lv_aload_n hx hb d_Field_multiply_0 rfl (lv_at hl 2 rfl) ?_
  refine lv_iconst (v := nI 0) hx hb d_Field_multiply_1 (by decide) ?_
  refine q_laldS E (hk.j ha) 0 rfl (by decide) d_Field_multiply_2 (fun a4 => ?_)
  refine lv_lstore (lv' := [(4, .long a4), (0, .ref o), (1, .ref t), (2, .ref a), (3, .ref b)]) hx hb d_Field_multiply_3 hl (by decide) rfl (fun ls hl => ?_)
  refine lv_aload_n hx hb d_Field_multiply_5 rfl (lv_at hl 3 rfl) ?_
  refine lv_iconst (v := nI 1) hx hb d_Field_multiply_6 (by decide) ?_
  refine q_laldS E (hk.j ha) 1 rfl (by decide) d_Field_multiply_7 (fun a6 => ?_)
  refine lv_lstore (lv' := [(6, .long a6), (4, .long a4), (0, .ref o), (1, .ref t), (2, .ref a), (3, .ref b)]) hx hb d_Field_multiply_8 hl (by decide) rfl (fun ls hl => ?_)
  refine lv_aload_n hx hb d_Field_multiply_10 rfl (lv_at hl 4 rfl) ?_
  refine lv_iconst (v := nI 2) hx hb d_Field_multiply_11 (by decide) ?_
  refine q_laldS E (hk.j ha) 2 rfl (by decide) d_Field_multiply_12 (fun a8 => ?_)
  refine lv_lstore (lv' := [(8, .long a8), (6, .long a6), (4, .long a4), (0, .ref o), (1, .ref t), (2, .ref a), (3, .ref b)]) hx hb d_Field_multiply_13 hl (by decide) rfl (fun ls hl => ?_)
  refine lv_aload_n hx hb d_Field_multiply_15 rfl (lv_at hl 5 rfl) ?_
  refine lv_iconst (v := nI 3) hx hb d_Field_multiply_16 (by decide) ?_
  refine q_laldS E (hk.j ha) 3 rfl (by decide) d_Field_multiply_17 (fun a10 => ?_)
  refine lv_lstore (lv' := [(10, .long a10), (8, .long a8), (6, .long a6), (4, .long a4), (0, .ref o), (1, .ref t), (2, .ref a), (3, .ref b)]) hx hb d_Field_multiply_18 hl (by decide) rfl (fun ls hl => ?_)
  refine lv_aload_n hx hb d_Field_multiply_20 rfl (lv_at hl 6 rfl) ?_
  refine lv_iconst (v := nI 4) hx hb d_Field_multiply_21 (by decide) ?_
  refine q_laldS E (hk.j ha) 4 rfl (by decide) d_Field_multiply_22 (fun a12 => ?_)
  refine lv_lstore (lv' := [(12, .long a12), (10, .long a10), (8, .long a8), (6, .long a6), (4, .long a4), (0, .ref o), (1, .ref t), (2, .ref a), (3, .ref b)]) hx hb d_Field_multiply_23 hl (by decide) rfl (fun ls hl => ?_)
  refine lv_aload_n hx hb d_Field_multiply_25 rfl (lv_at hl 7 rfl) ?_
  refine lv_iconst (v := nI 5) hx hb d_Field_multiply_26 (by decide) ?_
  refine q_laldS E (hk.j ha) 5 rfl (by decide) d_Field_multiply_27 (fun a14 => ?_)
  refine lv_lstore (lv' := [(14, .long a14), (12, .long a12), (10, .long a10), (8, .long a8), (6, .long a6), (4, .long a4), (0, .ref o), (1, .ref t), (2, .ref a), (3, .ref b)]) hx hb d_Field_multiply_28 hl (by decide) rfl (fun ls hl => ?_)
  refine lv_aload_n hx hb d_Field_multiply_30 rfl (lv_at hl 8 rfl) ?_
  refine lv_bipush (v := nI 6) hx hb d_Field_multiply_31 (by decide) ?_
  refine q_laldS E (hk.j ha) 6 rfl (by decide) d_Field_multiply_33 (fun a16 => ?_)
  refine lv_lstore (lv' := [(16, .long a16), (14, .long a14), (12, .long a12), (10, .long a10), (8, .long a8), (6, .long a6), (4, .long a4), (0, .ref o), (1, .ref t), (2, .ref a), (3, .ref b)]) hx hb d_Field_multiply_34 hl (by decide) rfl (fun ls hl => ?_)
  refine lv_aload_n hx hb d_Field_multiply_36 rfl (lv_at hl 9 rfl) ?_
  refine lv_bipush (v := nI 7) hx hb d_Field_multiply_37 (by decide) ?_
  refine q_laldS E (hk.j ha) 7 rfl (by decide) d_Field_multiply_39 (fun a18 => ?_)
  refine lv_lstore (lv' := [(18, .long a18), (16, .long a16), (14, .long a14), (12, .long a12), (10, .long a10), (8, .long a8), (6, .long a6), (4, .long a4), (0, .ref o), (1, .ref t), (2, .ref a), (3, .ref b)]) hx hb d_Field_multiply_40 hl (by decide) rfl (fun ls hl => ?_)
  refine lv_aload_n hx hb d_Field_multiply_42 rfl (lv_at hl 10 rfl) ?_
  refine lv_bipush (v := nI 8) hx hb d_Field_multiply_43 (by decide) ?_
  refine q_laldS E (hk.j ha) 8 rfl (by decide) d_Field_multiply_45 (fun a20 => ?_)
  refine lv_lstore (lv' := [(20, .long a20), (18, .long a18), (16, .long a16), (14, .long a14), (12, .long a12), (10, .long a10), (8, .long a8), (6, .long a6), (4, .long a4), (0, .ref o), (1, .ref t), (2, .ref a), (3, .ref b)]) hx hb d_Field_multiply_46 hl (by decide) rfl (fun ls hl => ?_)
  refine lv_aload_n hx hb d_Field_multiply_48 rfl (lv_at hl 11 rfl) ?_
  refine lv_bipush (v := nI 9) hx hb d_Field_multiply_49 (by decide) ?_
  refine q_laldS E (hk.j ha) 9 rfl (by decide) d_Field_multiply_51 (fun a22 => ?_)
  refine lv_lstore (lv' := [(22, .long a22), (20, .long a20), (18, .long a18), (16, .long a16), (14, .long a14), (12, .long a12), (10, .long a10), (8, .long a8), (6, .long a6), (4, .long a4), (0, .ref o), (1, .ref t), (2, .ref a), (3, .ref b)]) hx hb d_Field_multiply_52 hl (by decide) rfl (fun ls hl => ?_)
  refine lv_aload_n hx hb d_Field_multiply_54 rfl (lv_at hl 12 rfl) ?_
  refine lv_bipush (v := nI 10) hx hb d_Field_multiply_55 (by decide) ?_
  refine q_laldS E (hk.j ha) 10 rfl (by decide) d_Field_multiply_57 (fun a24 => ?_)
  refine lv_lstore (lv' := [(24, .long a24), (22, .long a22), (20, .long a20), (18, .long a18), (16, .long a16), (14, .long a14), (12, .long a12), (10, .long a10), (8, .long a8), (6, .long a6), (4, .long a4), (0, .ref o), (1, .ref t), (2, .ref a), (3, .ref b)]) hx hb d_Field_multiply_58 hl (by decide) rfl (fun ls hl => ?_)
  refine lv_aload_n hx hb d_Field_multiply_60 rfl (lv_at hl 13 rfl) ?_
  refine lv_bipush (v := nI 11) hx hb d_Field_multiply_61 (by decide) ?_
  refine q_laldS E (hk.j ha) 11 rfl (by decide) d_Field_multiply_63 (fun a26 => ?_)
  refine lv_lstore (lv' := [(26, .long a26), (24, .long a24), (22, .long a22), (20, .long a20), (18, .long a18), (16, .long a16), (14, .long a14), (12, .long a12), (10, .long a10), (8, .long a8), (6, .long a6), (4, .long a4), (0, .ref o), (1, .ref t), (2, .ref a), (3, .ref b)]) hx hb d_Field_multiply_64 hl (by decide) rfl (fun ls hl => ?_)
  refine lv_aload_n hx hb d_Field_multiply_66 rfl (lv_at hl 14 rfl) ?_
  refine lv_bipush (v := nI 12) hx hb d_Field_multiply_67 (by decide) ?_
  refine q_laldS E (hk.j ha) 12 rfl (by decide) d_Field_multiply_69 (fun a28 => ?_)
  refine lv_lstore (lv' := [(28, .long a28), (26, .long a26), (24, .long a24), (22, .long a22), (20, .long a20), (18, .long a18), (16, .long a16), (14, .long a14), (12, .long a12), (10, .long a10), (8, .long a8), (6, .long a6), (4, .long a4), (0, .ref o), (1, .ref t), (2, .ref a), (3, .ref b)]) hx hb d_Field_multiply_70 hl (by decide) rfl (fun ls hl => ?_)
  refine lv_aload_n hx hb d_Field_multiply_72 rfl (lv_at hl 15 rfl) ?_
  refine lv_bipush (v := nI 13) hx hb d_Field_multiply_73 (by decide) ?_
  refine q_laldS E (hk.j ha) 13 rfl (by decide) d_Field_multiply_75 (fun a30 => ?_)
  refine lv_lstore (lv' := [(30, .long a30), (28, .long a28), (26, .long a26), (24, .long a24), (22, .long a22), (20, .long a20), (18, .long a18), (16, .long a16), (14, .long a14), (12, .long a12), (10, .long a10), (8, .long a8), (6, .long a6), (4, .long a4), (0, .ref o), (1, .ref t), (2, .ref a), (3, .ref b)]) hx hb d_Field_multiply_76 hl (by decide) rfl (fun ls hl => ?_)
  refine lv_aload_n hx hb d_Field_multiply_78 rfl (lv_at hl 14 rfl) ?_
  refine q_get (C := "KateDesk$Field") (T := T_Field) (N := 7) (ci := 1) E ((hk.fd hK hfd).1) in_Field rfl 0 (by decide) w_170 rfl rfl d_Field_multiply_79 ?_
  refine lv_astore (lv' := [(32, .ref (F 0)), (30, .long a30), (28, .long a28), (26, .long a26), (24, .long a24), (22, .long a22), (20, .long a20), (18, .long a18), (16, .long a16), (14, .long a14), (12, .long a12), (10, .long a10), (8, .long a8), (6, .long a6), (4, .long a4), (0, .ref o), (1, .ref t), (2, .ref a), (3, .ref b)]) hx hb d_Field_multiply_82 hl (by decide) rfl (fun ls hl => ?_)
  refine lv_aload hx hb d_Field_multiply_84 (lv_at hl 0 rfl) ?_
  refine lv_iconst (v := nI 0) hx hb d_Field_multiply_86 (by decide) ?_
  refine q_laldS E ((hk.fd hK hfd).2 0 (by decide)) 0 rfl (by decide) d_Field_multiply_87 (fun q33 => ?_)
  refine lv_lstore (lv' := [(33, .long q33), (32, .ref (F 0)), (30, .long a30), (28, .long a28), (26, .long a26), (24, .long a24), (22, .long a22), (20, .long a20), (18, .long a18), (16, .long a16), (14, .long a14), (12, .long a12), (10, .long a10), (8, .long a8), (6, .long a6), (4, .long a4), (0, .ref o), (1, .ref t), (2, .ref a), (3, .ref b)]) hx hb d_Field_multiply_88 hl (by decide) rfl (fun ls hl => ?_)
  refine lv_aload hx hb d_Field_multiply_90 (lv_at hl 1 rfl) ?_
  refine lv_iconst (v := nI 1) hx hb d_Field_multiply_92 (by decide) ?_
  refine q_laldS E ((hk.fd hK hfd).2 0 (by decide)) 1 rfl (by decide) d_Field_multiply_93 (fun q35 => ?_)
  refine lv_lstore (lv' := [(35, .long q35), (33, .long q33), (32, .ref (F 0)), (30, .long a30), (28, .long a28), (26, .long a26), (24, .long a24), (22, .long a22), (20, .long a20), (18, .long a18), (16, .long a16), (14, .long a14), (12, .long a12), (10, .long a10), (8, .long a8), (6, .long a6), (4, .long a4), (0, .ref o), (1, .ref t), (2, .ref a), (3, .ref b)]) hx hb d_Field_multiply_94 hl (by decide) rfl (fun ls hl => ?_)
  refine lv_aload hx hb d_Field_multiply_96 (lv_at hl 2 rfl) ?_
  refine lv_iconst (v := nI 2) hx hb d_Field_multiply_98 (by decide) ?_
  refine q_laldS E ((hk.fd hK hfd).2 0 (by decide)) 2 rfl (by decide) d_Field_multiply_99 (fun q37 => ?_)
  refine lv_lstore (lv' := [(37, .long q37), (35, .long q35), (33, .long q33), (32, .ref (F 0)), (30, .long a30), (28, .long a28), (26, .long a26), (24, .long a24), (22, .long a22), (20, .long a20), (18, .long a18), (16, .long a16), (14, .long a14), (12, .long a12), (10, .long a10), (8, .long a8), (6, .long a6), (4, .long a4), (0, .ref o), (1, .ref t), (2, .ref a), (3, .ref b)]) hx hb d_Field_multiply_100 hl (by decide) rfl (fun ls hl => ?_)
  refine lv_aload hx hb d_Field_multiply_102 (lv_at hl 3 rfl) ?_
  refine lv_iconst (v := nI 3) hx hb d_Field_multiply_104 (by decide) ?_
  refine q_laldS E ((hk.fd hK hfd).2 0 (by decide)) 3 rfl (by decide) d_Field_multiply_105 (fun q39 => ?_)
  refine lv_lstore (lv' := [(39, .long q39), (37, .long q37), (35, .long q35), (33, .long q33), (32, .ref (F 0)), (30, .long a30), (28, .long a28), (26, .long a26), (24, .long a24), (22, .long a22), (20, .long a20), (18, .long a18), (16, .long a16), (14, .long a14), (12, .long a12), (10, .long a10), (8, .long a8), (6, .long a6), (4, .long a4), (0, .ref o), (1, .ref t), (2, .ref a), (3, .ref b)]) hx hb d_Field_multiply_106 hl (by decide) rfl (fun ls hl => ?_)
  refine lv_aload hx hb d_Field_multiply_108 (lv_at hl 4 rfl) ?_
  refine lv_iconst (v := nI 4) hx hb d_Field_multiply_110 (by decide) ?_
  refine q_laldS E ((hk.fd hK hfd).2 0 (by decide)) 4 rfl (by decide) d_Field_multiply_111 (fun q41 => ?_)
  refine lv_lstore (lv' := [(41, .long q41), (39, .long q39), (37, .long q37), (35, .long q35), (33, .long q33), (32, .ref (F 0)), (30, .long a30), (28, .long a28), (26, .long a26), (24, .long a24), (22, .long a22), (20, .long a20), (18, .long a18), (16, .long a16), (14, .long a14), (12, .long a12), (10, .long a10), (8, .long a8), (6, .long a6), (4, .long a4), (0, .ref o), (1, .ref t), (2, .ref a), (3, .ref b)]) hx hb d_Field_multiply_112 hl (by decide) rfl (fun ls hl => ?_)
  refine lv_aload hx hb d_Field_multiply_114 (lv_at hl 5 rfl) ?_
  refine lv_iconst (v := nI 5) hx hb d_Field_multiply_116 (by decide) ?_
  refine q_laldS E ((hk.fd hK hfd).2 0 (by decide)) 5 rfl (by decide) d_Field_multiply_117 (fun q43 => ?_)
  refine lv_lstore (lv' := [(43, .long q43), (41, .long q41), (39, .long q39), (37, .long q37), (35, .long q35), (33, .long q33), (32, .ref (F 0)), (30, .long a30), (28, .long a28), (26, .long a26), (24, .long a24), (22, .long a22), (20, .long a20), (18, .long a18), (16, .long a16), (14, .long a14), (12, .long a12), (10, .long a10), (8, .long a8), (6, .long a6), (4, .long a4), (0, .ref o), (1, .ref t), (2, .ref a), (3, .ref b)]) hx hb d_Field_multiply_118 hl (by decide) rfl (fun ls hl => ?_)
  refine lv_aload hx hb d_Field_multiply_120 (lv_at hl 6 rfl) ?_
  refine lv_bipush (v := nI 6) hx hb d_Field_multiply_122 (by decide) ?_
  refine q_laldS E ((hk.fd hK hfd).2 0 (by decide)) 6 rfl (by decide) d_Field_multiply_124 (fun q45 => ?_)
  refine lv_lstore (lv' := [(45, .long q45), (43, .long q43), (41, .long q41), (39, .long q39), (37, .long q37), (35, .long q35), (33, .long q33), (32, .ref (F 0)), (30, .long a30), (28, .long a28), (26, .long a26), (24, .long a24), (22, .long a22), (20, .long a20), (18, .long a18), (16, .long a16), (14, .long a14), (12, .long a12), (10, .long a10), (8, .long a8), (6, .long a6), (4, .long a4), (0, .ref o), (1, .ref t), (2, .ref a), (3, .ref b)]) hx hb d_Field_multiply_125 hl (by decide) rfl (fun ls hl => ?_)
  refine lv_aload hx hb d_Field_multiply_127 (lv_at hl 7 rfl) ?_
  refine lv_bipush (v := nI 7) hx hb d_Field_multiply_129 (by decide) ?_
  refine q_laldS E ((hk.fd hK hfd).2 0 (by decide)) 7 rfl (by decide) d_Field_multiply_131 (fun q47 => ?_)
  refine lv_lstore (lv' := [(47, .long q47), (45, .long q45), (43, .long q43), (41, .long q41), (39, .long q39), (37, .long q37), (35, .long q35), (33, .long q33), (32, .ref (F 0)), (30, .long a30), (28, .long a28), (26, .long a26), (24, .long a24), (22, .long a22), (20, .long a20), (18, .long a18), (16, .long a16), (14, .long a14), (12, .long a12), (10, .long a10), (8, .long a8), (6, .long a6), (4, .long a4), (0, .ref o), (1, .ref t), (2, .ref a), (3, .ref b)]) hx hb d_Field_multiply_132 hl (by decide) rfl (fun ls hl => ?_)
  refine lv_aload hx hb d_Field_multiply_134 (lv_at hl 8 rfl) ?_
  refine lv_bipush (v := nI 8) hx hb d_Field_multiply_136 (by decide) ?_
  refine q_laldS E ((hk.fd hK hfd).2 0 (by decide)) 8 rfl (by decide) d_Field_multiply_138 (fun q49 => ?_)
  refine lv_lstore (lv' := [(49, .long q49), (47, .long q47), (45, .long q45), (43, .long q43), (41, .long q41), (39, .long q39), (37, .long q37), (35, .long q35), (33, .long q33), (32, .ref (F 0)), (30, .long a30), (28, .long a28), (26, .long a26), (24, .long a24), (22, .long a22), (20, .long a20), (18, .long a18), (16, .long a16), (14, .long a14), (12, .long a12), (10, .long a10), (8, .long a8), (6, .long a6), (4, .long a4), (0, .ref o), (1, .ref t), (2, .ref a), (3, .ref b)]) hx hb d_Field_multiply_139 hl (by decide) rfl (fun ls hl => ?_)
  refine lv_aload hx hb d_Field_multiply_141 (lv_at hl 9 rfl) ?_
  refine lv_bipush (v := nI 9) hx hb d_Field_multiply_143 (by decide) ?_
  refine q_laldS E ((hk.fd hK hfd).2 0 (by decide)) 9 rfl (by decide) d_Field_multiply_145 (fun q51 => ?_)
  refine lv_lstore (lv' := [(51, .long q51), (49, .long q49), (47, .long q47), (45, .long q45), (43, .long q43), (41, .long q41), (39, .long q39), (37, .long q37), (35, .long q35), (33, .long q33), (32, .ref (F 0)), (30, .long a30), (28, .long a28), (26, .long a26), (24, .long a24), (22, .long a22), (20, .long a20), (18, .long a18), (16, .long a16), (14, .long a14), (12, .long a12), (10, .long a10), (8, .long a8), (6, .long a6), (4, .long a4), (0, .ref o), (1, .ref t), (2, .ref a), (3, .ref b)]) hx hb d_Field_multiply_146 hl (by decide) rfl (fun ls hl => ?_)
  refine lv_aload hx hb d_Field_multiply_148 (lv_at hl 10 rfl) ?_
  refine lv_bipush (v := nI 10) hx hb d_Field_multiply_150 (by decide) ?_
  refine q_laldS E ((hk.fd hK hfd).2 0 (by decide)) 10 rfl (by decide) d_Field_multiply_152 (fun q53 => ?_)
  refine lv_lstore (lv' := [(53, .long q53), (51, .long q51), (49, .long q49), (47, .long q47), (45, .long q45), (43, .long q43), (41, .long q41), (39, .long q39), (37, .long q37), (35, .long q35), (33, .long q33), (32, .ref (F 0)), (30, .long a30), (28, .long a28), (26, .long a26), (24, .long a24), (22, .long a22), (20, .long a20), (18, .long a18), (16, .long a16), (14, .long a14), (12, .long a12), (10, .long a10), (8, .long a8), (6, .long a6), (4, .long a4), (0, .ref o), (1, .ref t), (2, .ref a), (3, .ref b)]) hx hb d_Field_multiply_153 hl (by decide) rfl (fun ls hl => ?_)
  refine lv_aload hx hb d_Field_multiply_155 (lv_at hl 11 rfl) ?_
  refine lv_bipush (v := nI 11) hx hb d_Field_multiply_157 (by decide) ?_
  refine q_laldS E ((hk.fd hK hfd).2 0 (by decide)) 11 rfl (by decide) d_Field_multiply_159 (fun q55 => ?_)
  refine lv_lstore (lv' := [(55, .long q55), (53, .long q53), (51, .long q51), (49, .long q49), (47, .long q47), (45, .long q45), (43, .long q43), (41, .long q41), (39, .long q39), (37, .long q37), (35, .long q35), (33, .long q33), (32, .ref (F 0)), (30, .long a30), (28, .long a28), (26, .long a26), (24, .long a24), (22, .long a22), (20, .long a20), (18, .long a18), (16, .long a16), (14, .long a14), (12, .long a12), (10, .long a10), (8, .long a8), (6, .long a6), (4, .long a4), (0, .ref o), (1, .ref t), (2, .ref a), (3, .ref b)]) hx hb d_Field_multiply_160 hl (by decide) rfl (fun ls hl => ?_)
  refine lv_aload hx hb d_Field_multiply_162 (lv_at hl 12 rfl) ?_
  refine lv_bipush (v := nI 12) hx hb d_Field_multiply_164 (by decide) ?_
  refine q_laldS E ((hk.fd hK hfd).2 0 (by decide)) 12 rfl (by decide) d_Field_multiply_166 (fun q57 => ?_)
  refine lv_lstore (lv' := [(57, .long q57), (55, .long q55), (53, .long q53), (51, .long q51), (49, .long q49), (47, .long q47), (45, .long q45), (43, .long q43), (41, .long q41), (39, .long q39), (37, .long q37), (35, .long q35), (33, .long q33), (32, .ref (F 0)), (30, .long a30), (28, .long a28), (26, .long a26), (24, .long a24), (22, .long a22), (20, .long a20), (18, .long a18), (16, .long a16), (14, .long a14), (12, .long a12), (10, .long a10), (8, .long a8), (6, .long a6), (4, .long a4), (0, .ref o), (1, .ref t), (2, .ref a), (3, .ref b)]) hx hb d_Field_multiply_167 hl (by decide) rfl (fun ls hl => ?_)
  refine lv_aload hx hb d_Field_multiply_169 (lv_at hl 13 rfl) ?_
  refine lv_bipush (v := nI 13) hx hb d_Field_multiply_171 (by decide) ?_
  refine q_laldS E ((hk.fd hK hfd).2 0 (by decide)) 13 rfl (by decide) d_Field_multiply_173 (fun q59 => ?_)
  refine lv_lstore (lv' := [(59, .long q59), (57, .long q57), (55, .long q55), (53, .long q53), (51, .long q51), (49, .long q49), (47, .long q47), (45, .long q45), (43, .long q43), (41, .long q41), (39, .long q39), (37, .long q37), (35, .long q35), (33, .long q33), (32, .ref (F 0)), (30, .long a30), (28, .long a28), (26, .long a26), (24, .long a24), (22, .long a22), (20, .long a20), (18, .long a18), (16, .long a16), (14, .long a14), (12, .long a12), (10, .long a10), (8, .long a8), (6, .long a6), (4, .long a4), (0, .ref o), (1, .ref t), (2, .ref a), (3, .ref b)]) hx hb d_Field_multiply_174 hl (by decide) rfl (fun ls hl => ?_)
  refine lv_lconst (v := 0) hx hb d_Field_multiply_176 (by decide) ?_
  refine lv_lstore (lv' := [(61, .long 0), (59, .long q59), (57, .long q57), (55, .long q55), (53, .long q53), (51, .long q51), (49, .long q49), (47, .long q47), (45, .long q45), (43, .long q43), (41, .long q41), (39, .long q39), (37, .long q37), (35, .long q35), (33, .long q33), (32, .ref (F 0)), (30, .long a30), (28, .long a28), (26, .long a26), (24, .long a24), (22, .long a22), (20, .long a20), (18, .long a18), (16, .long a16), (14, .long a14), (12, .long a12), (10, .long a10), (8, .long a8), (6, .long a6), (4, .long a4), (0, .ref o), (1, .ref t), (2, .ref a), (3, .ref b)]) hx hb d_Field_multiply_177 hl (by decide) rfl (fun ls hl => ?_)
  refine lv_lconst (v := 0) hx hb d_Field_multiply_179 (by decide) ?_
  refine lv_lstore (lv' := [(63, .long 0), (61, .long 0), (59, .long q59), (57, .long q57), (55, .long q55), (53, .long q53), (51, .long q51), (49, .long q49), (47, .long q47), (45, .long q45), (43, .long q43), (41, .long q41), (39, .long q39), (37, .long q37), (35, .long q35), (33, .long q33), (32, .ref (F 0)), (30, .long a30), (28, .long a28), (26, .long a26), (24, .long a24), (22, .long a22), (20, .long a20), (18, .long a18), (16, .long a16), (14, .long a14), (12, .long a12), (10, .long a10), (8, .long a8), (6, .long a6), (4, .long a4), (0, .ref o), (1, .ref t), (2, .ref a), (3, .ref b)]) hx hb d_Field_multiply_180 hl (by decide) rfl (fun ls hl => ?_)
  refine lv_lconst (v := 0) hx hb d_Field_multiply_182 (by decide) ?_
  refine lv_lstore (lv' := [(65, .long 0), (63, .long 0), (61, .long 0), (59, .long q59), (57, .long q57), (55, .long q55), (53, .long q53), (51, .long q51), (49, .long q49), (47, .long q47), (45, .long q45), (43, .long q43), (41, .long q41), (39, .long q39), (37, .long q37), (35, .long q35), (33, .long q33), (32, .ref (F 0)), (30, .long a30), (28, .long a28), (26, .long a26), (24, .long a24), (22, .long a22), (20, .long a20), (18, .long a18), (16, .long a16), (14, .long a14), (12, .long a12), (10, .long a10), (8, .long a8), (6, .long a6), (4, .long a4), (0, .ref o), (1, .ref t), (2, .ref a), (3, .ref b)]) hx hb d_Field_multiply_183 hl (by decide) rfl (fun ls hl => ?_)
  refine lv_lconst (v := 0) hx hb d_Field_multiply_185 (by decide) ?_
  refine lv_lstore (lv' := [(67, .long 0), (65, .long 0), (63, .long 0), (61, .long 0), (59, .long q59), (57, .long q57), (55, .long q55), (53, .long q53), (51, .long q51), (49, .long q49), (47, .long q47), (45, .long q45), (43, .long q43), (41, .long q41), (39, .long q39), (37, .long q37), (35, .long q35), (33, .long q33), (32, .ref (F 0)), (30, .long a30), (28, .long a28), (26, .long a26), (24, .long a24), (22, .long a22), (20, .long a20), (18, .long a18), (16, .long a16), (14, .long a14), (12, .long a12), (10, .long a10), (8, .long a8), (6, .long a6), (4, .long a4), (0, .ref o), (1, .ref t), (2, .ref a), (3, .ref b)]) hx hb d_Field_multiply_186 hl (by decide) rfl (fun ls hl => ?_)
  refine lv_lconst (v := 0) hx hb d_Field_multiply_188 (by decide) ?_
  refine lv_lstore (lv' := [(69, .long 0), (67, .long 0), (65, .long 0), (63, .long 0), (61, .long 0), (59, .long q59), (57, .long q57), (55, .long q55), (53, .long q53), (51, .long q51), (49, .long q49), (47, .long q47), (45, .long q45), (43, .long q43), (41, .long q41), (39, .long q39), (37, .long q37), (35, .long q35), (33, .long q33), (32, .ref (F 0)), (30, .long a30), (28, .long a28), (26, .long a26), (24, .long a24), (22, .long a22), (20, .long a20), (18, .long a18), (16, .long a16), (14, .long a14), (12, .long a12), (10, .long a10), (8, .long a8), (6, .long a6), (4, .long a4), (0, .ref o), (1, .ref t), (2, .ref a), (3, .ref b)]) hx hb d_Field_multiply_189 hl (by decide) rfl (fun ls hl => ?_)
  refine lv_lconst (v := 0) hx hb d_Field_multiply_191 (by decide) ?_
  refine lv_lstore (lv' := [(71, .long 0), (69, .long 0), (67, .long 0), (65, .long 0), (63, .long 0), (61, .long 0), (59, .long q59), (57, .long q57), (55, .long q55), (53, .long q53), (51, .long q51), (49, .long q49), (47, .long q47), (45, .long q45), (43, .long q43), (41, .long q41), (39, .long q39), (37, .long q37), (35, .long q35), (33, .long q33), (32, .ref (F 0)), (30, .long a30), (28, .long a28), (26, .long a26), (24, .long a24), (22, .long a22), (20, .long a20), (18, .long a18), (16, .long a16), (14, .long a14), (12, .long a12), (10, .long a10), (8, .long a8), (6, .long a6), (4, .long a4), (0, .ref o), (1, .ref t), (2, .ref a), (3, .ref b)]) hx hb d_Field_multiply_192 hl (by decide) rfl (fun ls hl => ?_)
  refine lv_lconst (v := 0) hx hb d_Field_multiply_194 (by decide) ?_
  refine lv_lstore (lv' := [(73, .long 0), (71, .long 0), (69, .long 0), (67, .long 0), (65, .long 0), (63, .long 0), (61, .long 0), (59, .long q59), (57, .long q57), (55, .long q55), (53, .long q53), (51, .long q51), (49, .long q49), (47, .long q47), (45, .long q45), (43, .long q43), (41, .long q41), (39, .long q39), (37, .long q37), (35, .long q35), (33, .long q33), (32, .ref (F 0)), (30, .long a30), (28, .long a28), (26, .long a26), (24, .long a24), (22, .long a22), (20, .long a20), (18, .long a18), (16, .long a16), (14, .long a14), (12, .long a12), (10, .long a10), (8, .long a8), (6, .long a6), (4, .long a4), (0, .ref o), (1, .ref t), (2, .ref a), (3, .ref b)]) hx hb d_Field_multiply_195 hl (by decide) rfl (fun ls hl => ?_)
  refine lv_lconst (v := 0) hx hb d_Field_multiply_197 (by decide) ?_
  refine lv_lstore (lv' := [(75, .long 0), (73, .long 0), (71, .long 0), (69, .long 0), (67, .long 0), (65, .long 0), (63, .long 0), (61, .long 0), (59, .long q59), (57, .long q57), (55, .long q55), (53, .long q53), (51, .long q51), (49, .long q49), (47, .long q47), (45, .long q45), (43, .long q43), (41, .long q41), (39, .long q39), (37, .long q37), (35, .long q35), (33, .long q33), (32, .ref (F 0)), (30, .long a30), (28, .long a28), (26, .long a26), (24, .long a24), (22, .long a22), (20, .long a20), (18, .long a18), (16, .long a16), (14, .long a14), (12, .long a12), (10, .long a10), (8, .long a8), (6, .long a6), (4, .long a4), (0, .ref o), (1, .ref t), (2, .ref a), (3, .ref b)]) hx hb d_Field_multiply_198 hl (by decide) rfl (fun ls hl => ?_)
  refine lv_lconst (v := 0) hx hb d_Field_multiply_200 (by decide) ?_
  refine lv_lstore (lv' := [(77, .long 0), (75, .long 0), (73, .long 0), (71, .long 0), (69, .long 0), (67, .long 0), (65, .long 0), (63, .long 0), (61, .long 0), (59, .long q59), (57, .long q57), (55, .long q55), (53, .long q53), (51, .long q51), (49, .long q49), (47, .long q47), (45, .long q45), (43, .long q43), (41, .long q41), (39, .long q39), (37, .long q37), (35, .long q35), (33, .long q33), (32, .ref (F 0)), (30, .long a30), (28, .long a28), (26, .long a26), (24, .long a24), (22, .long a22), (20, .long a20), (18, .long a18), (16, .long a16), (14, .long a14), (12, .long a12), (10, .long a10), (8, .long a8), (6, .long a6), (4, .long a4), (0, .ref o), (1, .ref t), (2, .ref a), (3, .ref b)]) hx hb d_Field_multiply_201 hl (by decide) rfl (fun ls hl => ?_)
  refine lv_lconst (v := 0) hx hb d_Field_multiply_203 (by decide) ?_
  refine lv_lstore (lv' := [(79, .long 0), (77, .long 0), (75, .long 0), (73, .long 0), (71, .long 0), (69, .long 0), (67, .long 0), (65, .long 0), (63, .long 0), (61, .long 0), (59, .long q59), (57, .long q57), (55, .long q55), (53, .long q53), (51, .long q51), (49, .long q49), (47, .long q47), (45, .long q45), (43, .long q43), (41, .long q41), (39, .long q39), (37, .long q37), (35, .long q35), (33, .long q33), (32, .ref (F 0)), (30, .long a30), (28, .long a28), (26, .long a26), (24, .long a24), (22, .long a22), (20, .long a20), (18, .long a18), (16, .long a16), (14, .long a14), (12, .long a12), (10, .long a10), (8, .long a8), (6, .long a6), (4, .long a4), (0, .ref o), (1, .ref t), (2, .ref a), (3, .ref b)]) hx hb d_Field_multiply_204 hl (by decide) rfl (fun ls hl => ?_)
  refine lv_lconst (v := 0) hx hb d_Field_multiply_206 (by decide) ?_
  refine lv_lstore (lv' := [(81, .long 0), (79, .long 0), (77, .long 0), (75, .long 0), (73, .long 0), (71, .long 0), (69, .long 0), (67, .long 0), (65, .long 0), (63, .long 0), (61, .long 0), (59, .long q59), (57, .long q57), (55, .long q55), (53, .long q53), (51, .long q51), (49, .long q49), (47, .long q47), (45, .long q45), (43, .long q43), (41, .long q41), (39, .long q39), (37, .long q37), (35, .long q35), (33, .long q33), (32, .ref (F 0)), (30, .long a30), (28, .long a28), (26, .long a26), (24, .long a24), (22, .long a22), (20, .long a20), (18, .long a18), (16, .long a16), (14, .long a14), (12, .long a12), (10, .long a10), (8, .long a8), (6, .long a6), (4, .long a4), (0, .ref o), (1, .ref t), (2, .ref a), (3, .ref b)]) hx hb d_Field_multiply_207 hl (by decide) rfl (fun ls hl => ?_)
  refine lv_lconst (v := 0) hx hb d_Field_multiply_209 (by decide) ?_
  refine lv_lstore (lv' := [(83, .long 0), (81, .long 0), (79, .long 0), (77, .long 0), (75, .long 0), (73, .long 0), (71, .long 0), (69, .long 0), (67, .long 0), (65, .long 0), (63, .long 0), (61, .long 0), (59, .long q59), (57, .long q57), (55, .long q55), (53, .long q53), (51, .long q51), (49, .long q49), (47, .long q47), (45, .long q45), (43, .long q43), (41, .long q41), (39, .long q39), (37, .long q37), (35, .long q35), (33, .long q33), (32, .ref (F 0)), (30, .long a30), (28, .long a28), (26, .long a26), (24, .long a24), (22, .long a22), (20, .long a20), (18, .long a18), (16, .long a16), (14, .long a14), (12, .long a12), (10, .long a10), (8, .long a8), (6, .long a6), (4, .long a4), (0, .ref o), (1, .ref t), (2, .ref a), (3, .ref b)]) hx hb d_Field_multiply_210 hl (by decide) rfl (fun ls hl => ?_)
  refine lv_lconst (v := 0) hx hb d_Field_multiply_212 (by decide) ?_
  refine lv_lstore (lv' := [(85, .long 0), (83, .long 0), (81, .long 0), (79, .long 0), (77, .long 0), (75, .long 0), (73, .long 0), (71, .long 0), (69, .long 0), (67, .long 0), (65, .long 0), (63, .long 0), (61, .long 0), (59, .long q59), (57, .long q57), (55, .long q55), (53, .long q53), (51, .long q51), (49, .long q49), (47, .long q47), (45, .long q45), (43, .long q43), (41, .long q41), (39, .long q39), (37, .long q37), (35, .long q35), (33, .long q33), (32, .ref (F 0)), (30, .long a30), (28, .long a28), (26, .long a26), (24, .long a24), (22, .long a22), (20, .long a20), (18, .long a18), (16, .long a16), (14, .long a14), (12, .long a12), (10, .long a10), (8, .long a8), (6, .long a6), (4, .long a4), (0, .ref o), (1, .ref t), (2, .ref a), (3, .ref b)]) hx hb d_Field_multiply_213 hl (by decide) rfl (fun ls hl => ?_)
  refine lv_iconst (v := nI 0) hx hb d_Field_multiply_215 (by decide) ?_
  refine lv_istore (lv' := [(87, .int (nI 0)), (85, .long 0), (83, .long 0), (81, .long 0), (79, .long 0), (77, .long 0), (75, .long 0), (73, .long 0), (71, .long 0), (69, .long 0), (67, .long 0), (65, .long 0), (63, .long 0), (61, .long 0), (59, .long q59), (57, .long q57), (55, .long q55), (53, .long q53), (51, .long q51), (49, .long q49), (47, .long q47), (45, .long q45), (43, .long q43), (41, .long q41), (39, .long q39), (37, .long q37), (35, .long q35), (33, .long q33), (32, .ref (F 0)), (30, .long a30), (28, .long a28), (26, .long a26), (24, .long a24), (22, .long a22), (20, .long a20), (18, .long a18), (16, .long a16), (14, .long a14), (12, .long a12), (10, .long a10), (8, .long a8), (6, .long a6), (4, .long a4), (0, .ref o), (1, .ref t), (2, .ref a), (3, .ref b)]) hx hb d_Field_multiply_216 hl (by decide) rfl (fun ls hl => ?_)
  have loop : ∀ (k : Nat) (i : Nat) (ls : Array Slot) (t61 t63 t65 t67 t69 t71 t73 t75 t77 t79 t81 t83 t85 : Int64), i + k = 14 → lv_has ls 92 [(87, .int (nI i)), (61, .long t61), (63, .long t63), (65, .long t65), (67, .long t67), (69, .long t69), (71, .long t71), (73, .long t73), (75, .long t75), (77, .long t77), (79, .long t79), (81, .long t81), (83, .long t83), (85, .long t85), (0, .ref o), (1, .ref t), (3, .ref b), (4, .long a4), (6, .long a6), (8, .long a8), (10, .long a10), (12, .long a12), (14, .long a14), (16, .long a16), (18, .long a18), (20, .long a20), (22, .long a22), (24, .long a24), (26, .long a26), (28, .long a28), (30, .long a30), (33, .long q33), (35, .long q35), (37, .long q37), (39, .long q39), (41, .long q41), (43, .long q43), (45, .long q45), (47, .long q47), (49, .long q49), (51, .long q51), (53, .long q53), (55, .long q55), (57, .long q57), (59, .long q59)] → W p l e { frames := 1, cells := 0, slots := 0, locals := 24 } s m [.ref o, .ref t, .ref a, .ref b].toArray below meth c s.heap [] 0 0 (MQ below (QcP (QV (fun H H' => KJ g (fun q => q = t) H H'))) [.ref o, .ref t, .ref a, .ref b].toArray s 0 0 (fun q => n0 q)) (F0 m 218 ls []) := by
    intro k
    induction k with
    | zero =>
      intro  i   ls   t61 t63 t65 t67 t69 t71 t73 t75 t77 t79 t81 t83 t85 hi hl
      obtain rfl : i = 14 := by omega
      refine lv_iload hx hb d_Field_multiply_218 (lv_at hl 0 rfl) ?_
      refine lv_bipush (v := nI 14) hx hb d_Field_multiply_220 (by decide) ?_
      refine lv_icmp_ge (tgt := 477) hx hb d_Field_multiply_222 (by decide) (fun _ => ?_) (fun h9 => absurd (by decide) h9)
      refine lv_aload_n hx hb d_Field_multiply_477 rfl (lv_at hl 15 rfl) ?_
      refine lv_iconst (v := nI 0) hx hb d_Field_multiply_478 (by decide) ?_
      refine lv_lload hx hb d_Field_multiply_479 (lv_at hl 1 rfl) ?_
      refine lv_ldc2 (v := 268435455) hx hb E.2.2.2.1 (E.2.2.2.2.1 _ w_143) d_Field_multiply_481 ?_
      refine lv_land hx hb d_Field_multiply_484 ?_
      refine lv_topl (fun v1 _ => ?_)
      refine q_lastS E (hk.j ht) hF 0 rfl (by decide) d_Field_multiply_485 (fun H1 locs hq hF => ?_)
      have hk := hk.tr hq
      refine lv_aload_n hx hb d_Field_multiply_486 rfl (lv_at hl 15 rfl) ?_
      refine lv_iconst (v := nI 1) hx hb d_Field_multiply_487 (by decide) ?_
      refine lv_lload hx hb d_Field_multiply_488 (lv_at hl 2 rfl) ?_
      refine lv_lload hx hb d_Field_multiply_490 (lv_at hl 1 rfl) ?_
      refine lv_bipush (v := nI 28) hx hb d_Field_multiply_492 (by decide) ?_
      refine lv_lshr (v := t61 >>> ((nI 28).toInt64 &&& 63)) hx hb d_Field_multiply_494 rfl ?_
      refine lv_ladd hx hb d_Field_multiply_495 ?_
      refine lv_dup2_2 hx hb d_Field_multiply_496 rfl ?_
      refine lv_topl (fun v2 _ => ?_)
      refine lv_lstore (lv' := [(63, .long v2), (87, .int (nI 14)), (61, .long t61), (65, .long t65), (67, .long t67), (69, .long t69), (71, .long t71), (73, .long t73), (75, .long t75), (77, .long t77), (79, .long t79), (81, .long t81), (83, .long t83), (85, .long t85), (0, .ref o), (1, .ref t), (3, .ref b), (4, .long a4), (6, .long a6), (8, .long a8), (10, .long a10), (12, .long a12), (14, .long a14), (16, .long a16), (18, .long a18), (20, .long a20), (22, .long a22), (24, .long a24), (26, .long a26), (28, .long a28), (30, .long a30), (33, .long q33), (35, .long q35), (37, .long q37), (39, .long q39), (41, .long q41), (43, .long q43), (45, .long q45), (47, .long q47), (49, .long q49), (51, .long q51), (53, .long q53), (55, .long q55), (57, .long q57), (59, .long q59)]) hx hb d_Field_multiply_497 hl (by decide) rfl (fun ls hl => ?_)
      refine lv_ldc2 (v := 268435455) hx hb E.2.2.2.1 (E.2.2.2.2.1 _ w_143) d_Field_multiply_499 ?_
      refine lv_land hx hb d_Field_multiply_502 ?_
      refine lv_topl (fun v3 _ => ?_)
      refine q_lastS E (hk.j ht) hF 1 rfl (by decide) d_Field_multiply_503 (fun H2 locs hq hF => ?_)
      have hk := hk.tr hq
      refine lv_aload_n hx hb d_Field_multiply_504 rfl (lv_at hl 15 rfl) ?_
      refine lv_iconst (v := nI 2) hx hb d_Field_multiply_505 (by decide) ?_
      refine lv_lload hx hb d_Field_multiply_506 (lv_at hl 3 rfl) ?_
      refine lv_lload hx hb d_Field_multiply_508 (lv_at hl 0 rfl) ?_
      refine lv_bipush (v := nI 28) hx hb d_Field_multiply_510 (by decide) ?_
      refine lv_lshr (v := v2 >>> ((nI 28).toInt64 &&& 63)) hx hb d_Field_multiply_512 rfl ?_
      refine lv_ladd hx hb d_Field_multiply_513 ?_
      refine lv_dup2_2 hx hb d_Field_multiply_514 rfl ?_
      refine lv_topl (fun v4 _ => ?_)
      refine lv_lstore (lv' := [(65, .long v4), (63, .long v2), (87, .int (nI 14)), (61, .long t61), (67, .long t67), (69, .long t69), (71, .long t71), (73, .long t73), (75, .long t75), (77, .long t77), (79, .long t79), (81, .long t81), (83, .long t83), (85, .long t85), (0, .ref o), (1, .ref t), (3, .ref b), (4, .long a4), (6, .long a6), (8, .long a8), (10, .long a10), (12, .long a12), (14, .long a14), (16, .long a16), (18, .long a18), (20, .long a20), (22, .long a22), (24, .long a24), (26, .long a26), (28, .long a28), (30, .long a30), (33, .long q33), (35, .long q35), (37, .long q37), (39, .long q39), (41, .long q41), (43, .long q43), (45, .long q45), (47, .long q47), (49, .long q49), (51, .long q51), (53, .long q53), (55, .long q55), (57, .long q57), (59, .long q59)]) hx hb d_Field_multiply_515 hl (by decide) rfl (fun ls hl => ?_)
      refine lv_ldc2 (v := 268435455) hx hb E.2.2.2.1 (E.2.2.2.2.1 _ w_143) d_Field_multiply_517 ?_
      refine lv_land hx hb d_Field_multiply_520 ?_
      refine lv_topl (fun v5 _ => ?_)
      refine q_lastS E (hk.j ht) hF 2 rfl (by decide) d_Field_multiply_521 (fun H3 locs hq hF => ?_)
      have hk := hk.tr hq
      refine lv_aload_n hx hb d_Field_multiply_522 rfl (lv_at hl 15 rfl) ?_
      refine lv_iconst (v := nI 3) hx hb d_Field_multiply_523 (by decide) ?_
      refine lv_lload hx hb d_Field_multiply_524 (lv_at hl 4 rfl) ?_
      refine lv_lload hx hb d_Field_multiply_526 (lv_at hl 0 rfl) ?_
      refine lv_bipush (v := nI 28) hx hb d_Field_multiply_528 (by decide) ?_
      refine lv_lshr (v := v4 >>> ((nI 28).toInt64 &&& 63)) hx hb d_Field_multiply_530 rfl ?_
      refine lv_ladd hx hb d_Field_multiply_531 ?_
      refine lv_dup2_2 hx hb d_Field_multiply_532 rfl ?_
      refine lv_topl (fun v6 _ => ?_)
      refine lv_lstore (lv' := [(67, .long v6), (65, .long v4), (63, .long v2), (87, .int (nI 14)), (61, .long t61), (69, .long t69), (71, .long t71), (73, .long t73), (75, .long t75), (77, .long t77), (79, .long t79), (81, .long t81), (83, .long t83), (85, .long t85), (0, .ref o), (1, .ref t), (3, .ref b), (4, .long a4), (6, .long a6), (8, .long a8), (10, .long a10), (12, .long a12), (14, .long a14), (16, .long a16), (18, .long a18), (20, .long a20), (22, .long a22), (24, .long a24), (26, .long a26), (28, .long a28), (30, .long a30), (33, .long q33), (35, .long q35), (37, .long q37), (39, .long q39), (41, .long q41), (43, .long q43), (45, .long q45), (47, .long q47), (49, .long q49), (51, .long q51), (53, .long q53), (55, .long q55), (57, .long q57), (59, .long q59)]) hx hb d_Field_multiply_533 hl (by decide) rfl (fun ls hl => ?_)
      refine lv_ldc2 (v := 268435455) hx hb E.2.2.2.1 (E.2.2.2.2.1 _ w_143) d_Field_multiply_535 ?_
      refine lv_land hx hb d_Field_multiply_538 ?_
      refine lv_topl (fun v7 _ => ?_)
      refine q_lastS E (hk.j ht) hF 3 rfl (by decide) d_Field_multiply_539 (fun H4 locs hq hF => ?_)
      have hk := hk.tr hq
      refine lv_aload_n hx hb d_Field_multiply_540 rfl (lv_at hl 15 rfl) ?_
      refine lv_iconst (v := nI 4) hx hb d_Field_multiply_541 (by decide) ?_
      refine lv_lload hx hb d_Field_multiply_542 (lv_at hl 5 rfl) ?_
      refine lv_lload hx hb d_Field_multiply_544 (lv_at hl 0 rfl) ?_
      refine lv_bipush (v := nI 28) hx hb d_Field_multiply_546 (by decide) ?_
      refine lv_lshr (v := v6 >>> ((nI 28).toInt64 &&& 63)) hx hb d_Field_multiply_548 rfl ?_
      refine lv_ladd hx hb d_Field_multiply_549 ?_
      refine lv_dup2_2 hx hb d_Field_multiply_550 rfl ?_
      refine lv_topl (fun v8 _ => ?_)
      refine lv_lstore (lv' := [(69, .long v8), (67, .long v6), (65, .long v4), (63, .long v2), (87, .int (nI 14)), (61, .long t61), (71, .long t71), (73, .long t73), (75, .long t75), (77, .long t77), (79, .long t79), (81, .long t81), (83, .long t83), (85, .long t85), (0, .ref o), (1, .ref t), (3, .ref b), (4, .long a4), (6, .long a6), (8, .long a8), (10, .long a10), (12, .long a12), (14, .long a14), (16, .long a16), (18, .long a18), (20, .long a20), (22, .long a22), (24, .long a24), (26, .long a26), (28, .long a28), (30, .long a30), (33, .long q33), (35, .long q35), (37, .long q37), (39, .long q39), (41, .long q41), (43, .long q43), (45, .long q45), (47, .long q47), (49, .long q49), (51, .long q51), (53, .long q53), (55, .long q55), (57, .long q57), (59, .long q59)]) hx hb d_Field_multiply_551 hl (by decide) rfl (fun ls hl => ?_)
      refine lv_ldc2 (v := 268435455) hx hb E.2.2.2.1 (E.2.2.2.2.1 _ w_143) d_Field_multiply_553 ?_
      refine lv_land hx hb d_Field_multiply_556 ?_
      refine lv_topl (fun v9 _ => ?_)
      refine q_lastS E (hk.j ht) hF 4 rfl (by decide) d_Field_multiply_557 (fun H5 locs hq hF => ?_)
      have hk := hk.tr hq
      refine lv_aload_n hx hb d_Field_multiply_558 rfl (lv_at hl 15 rfl) ?_
      refine lv_iconst (v := nI 5) hx hb d_Field_multiply_559 (by decide) ?_
      refine lv_lload hx hb d_Field_multiply_560 (lv_at hl 6 rfl) ?_
      refine lv_lload hx hb d_Field_multiply_562 (lv_at hl 0 rfl) ?_
      refine lv_bipush (v := nI 28) hx hb d_Field_multiply_564 (by decide) ?_
      refine lv_lshr (v := v8 >>> ((nI 28).toInt64 &&& 63)) hx hb d_Field_multiply_566 rfl ?_
      refine lv_ladd hx hb d_Field_multiply_567 ?_
      refine lv_dup2_2 hx hb d_Field_multiply_568 rfl ?_
      refine lv_topl (fun v10 _ => ?_)
      refine lv_lstore (lv' := [(71, .long v10), (69, .long v8), (67, .long v6), (65, .long v4), (63, .long v2), (87, .int (nI 14)), (61, .long t61), (73, .long t73), (75, .long t75), (77, .long t77), (79, .long t79), (81, .long t81), (83, .long t83), (85, .long t85), (0, .ref o), (1, .ref t), (3, .ref b), (4, .long a4), (6, .long a6), (8, .long a8), (10, .long a10), (12, .long a12), (14, .long a14), (16, .long a16), (18, .long a18), (20, .long a20), (22, .long a22), (24, .long a24), (26, .long a26), (28, .long a28), (30, .long a30), (33, .long q33), (35, .long q35), (37, .long q37), (39, .long q39), (41, .long q41), (43, .long q43), (45, .long q45), (47, .long q47), (49, .long q49), (51, .long q51), (53, .long q53), (55, .long q55), (57, .long q57), (59, .long q59)]) hx hb d_Field_multiply_569 hl (by decide) rfl (fun ls hl => ?_)
      refine lv_ldc2 (v := 268435455) hx hb E.2.2.2.1 (E.2.2.2.2.1 _ w_143) d_Field_multiply_571 ?_
      refine lv_land hx hb d_Field_multiply_574 ?_
      refine lv_topl (fun v11 _ => ?_)
      refine q_lastS E (hk.j ht) hF 5 rfl (by decide) d_Field_multiply_575 (fun H6 locs hq hF => ?_)
      have hk := hk.tr hq
      refine lv_aload_n hx hb d_Field_multiply_576 rfl (lv_at hl 15 rfl) ?_
      refine lv_bipush (v := nI 6) hx hb d_Field_multiply_577 (by decide) ?_
      refine lv_lload hx hb d_Field_multiply_579 (lv_at hl 7 rfl) ?_
      refine lv_lload hx hb d_Field_multiply_581 (lv_at hl 0 rfl) ?_
      refine lv_bipush (v := nI 28) hx hb d_Field_multiply_583 (by decide) ?_
      refine lv_lshr (v := v10 >>> ((nI 28).toInt64 &&& 63)) hx hb d_Field_multiply_585 rfl ?_
      refine lv_ladd hx hb d_Field_multiply_586 ?_
      refine lv_dup2_2 hx hb d_Field_multiply_587 rfl ?_
      refine lv_topl (fun v12 _ => ?_)
      refine lv_lstore (lv' := [(73, .long v12), (71, .long v10), (69, .long v8), (67, .long v6), (65, .long v4), (63, .long v2), (87, .int (nI 14)), (61, .long t61), (75, .long t75), (77, .long t77), (79, .long t79), (81, .long t81), (83, .long t83), (85, .long t85), (0, .ref o), (1, .ref t), (3, .ref b), (4, .long a4), (6, .long a6), (8, .long a8), (10, .long a10), (12, .long a12), (14, .long a14), (16, .long a16), (18, .long a18), (20, .long a20), (22, .long a22), (24, .long a24), (26, .long a26), (28, .long a28), (30, .long a30), (33, .long q33), (35, .long q35), (37, .long q37), (39, .long q39), (41, .long q41), (43, .long q43), (45, .long q45), (47, .long q47), (49, .long q49), (51, .long q51), (53, .long q53), (55, .long q55), (57, .long q57), (59, .long q59)]) hx hb d_Field_multiply_588 hl (by decide) rfl (fun ls hl => ?_)
      refine lv_ldc2 (v := 268435455) hx hb E.2.2.2.1 (E.2.2.2.2.1 _ w_143) d_Field_multiply_590 ?_
      refine lv_land hx hb d_Field_multiply_593 ?_
      refine lv_topl (fun v13 _ => ?_)
      refine q_lastS E (hk.j ht) hF 6 rfl (by decide) d_Field_multiply_594 (fun H7 locs hq hF => ?_)
      have hk := hk.tr hq
      refine lv_aload_n hx hb d_Field_multiply_595 rfl (lv_at hl 15 rfl) ?_
      refine lv_bipush (v := nI 7) hx hb d_Field_multiply_596 (by decide) ?_
      refine lv_lload hx hb d_Field_multiply_598 (lv_at hl 8 rfl) ?_
      refine lv_lload hx hb d_Field_multiply_600 (lv_at hl 0 rfl) ?_
      refine lv_bipush (v := nI 28) hx hb d_Field_multiply_602 (by decide) ?_
      refine lv_lshr (v := v12 >>> ((nI 28).toInt64 &&& 63)) hx hb d_Field_multiply_604 rfl ?_
      refine lv_ladd hx hb d_Field_multiply_605 ?_
      refine lv_dup2_2 hx hb d_Field_multiply_606 rfl ?_
      refine lv_topl (fun v14 _ => ?_)
      refine lv_lstore (lv' := [(75, .long v14), (73, .long v12), (71, .long v10), (69, .long v8), (67, .long v6), (65, .long v4), (63, .long v2), (87, .int (nI 14)), (61, .long t61), (77, .long t77), (79, .long t79), (81, .long t81), (83, .long t83), (85, .long t85), (0, .ref o), (1, .ref t), (3, .ref b), (4, .long a4), (6, .long a6), (8, .long a8), (10, .long a10), (12, .long a12), (14, .long a14), (16, .long a16), (18, .long a18), (20, .long a20), (22, .long a22), (24, .long a24), (26, .long a26), (28, .long a28), (30, .long a30), (33, .long q33), (35, .long q35), (37, .long q37), (39, .long q39), (41, .long q41), (43, .long q43), (45, .long q45), (47, .long q47), (49, .long q49), (51, .long q51), (53, .long q53), (55, .long q55), (57, .long q57), (59, .long q59)]) hx hb d_Field_multiply_607 hl (by decide) rfl (fun ls hl => ?_)
      refine lv_ldc2 (v := 268435455) hx hb E.2.2.2.1 (E.2.2.2.2.1 _ w_143) d_Field_multiply_609 ?_
      refine lv_land hx hb d_Field_multiply_612 ?_
      refine lv_topl (fun v15 _ => ?_)
      refine q_lastS E (hk.j ht) hF 7 rfl (by decide) d_Field_multiply_613 (fun H8 locs hq hF => ?_)
      have hk := hk.tr hq
      refine lv_aload_n hx hb d_Field_multiply_614 rfl (lv_at hl 15 rfl) ?_
      refine lv_bipush (v := nI 8) hx hb d_Field_multiply_615 (by decide) ?_
      refine lv_lload hx hb d_Field_multiply_617 (lv_at hl 9 rfl) ?_
      refine lv_lload hx hb d_Field_multiply_619 (lv_at hl 0 rfl) ?_
      refine lv_bipush (v := nI 28) hx hb d_Field_multiply_621 (by decide) ?_
      refine lv_lshr (v := v14 >>> ((nI 28).toInt64 &&& 63)) hx hb d_Field_multiply_623 rfl ?_
      refine lv_ladd hx hb d_Field_multiply_624 ?_
      refine lv_dup2_2 hx hb d_Field_multiply_625 rfl ?_
      refine lv_topl (fun v16 _ => ?_)
      refine lv_lstore (lv' := [(77, .long v16), (75, .long v14), (73, .long v12), (71, .long v10), (69, .long v8), (67, .long v6), (65, .long v4), (63, .long v2), (87, .int (nI 14)), (61, .long t61), (79, .long t79), (81, .long t81), (83, .long t83), (85, .long t85), (0, .ref o), (1, .ref t), (3, .ref b), (4, .long a4), (6, .long a6), (8, .long a8), (10, .long a10), (12, .long a12), (14, .long a14), (16, .long a16), (18, .long a18), (20, .long a20), (22, .long a22), (24, .long a24), (26, .long a26), (28, .long a28), (30, .long a30), (33, .long q33), (35, .long q35), (37, .long q37), (39, .long q39), (41, .long q41), (43, .long q43), (45, .long q45), (47, .long q47), (49, .long q49), (51, .long q51), (53, .long q53), (55, .long q55), (57, .long q57), (59, .long q59)]) hx hb d_Field_multiply_626 hl (by decide) rfl (fun ls hl => ?_)
      refine lv_ldc2 (v := 268435455) hx hb E.2.2.2.1 (E.2.2.2.2.1 _ w_143) d_Field_multiply_628 ?_
      refine lv_land hx hb d_Field_multiply_631 ?_
      refine lv_topl (fun v17 _ => ?_)
      refine q_lastS E (hk.j ht) hF 8 rfl (by decide) d_Field_multiply_632 (fun H9 locs hq hF => ?_)
      have hk := hk.tr hq
      refine lv_aload_n hx hb d_Field_multiply_633 rfl (lv_at hl 15 rfl) ?_
      refine lv_bipush (v := nI 9) hx hb d_Field_multiply_634 (by decide) ?_
      refine lv_lload hx hb d_Field_multiply_636 (lv_at hl 10 rfl) ?_
      refine lv_lload hx hb d_Field_multiply_638 (lv_at hl 0 rfl) ?_
      refine lv_bipush (v := nI 28) hx hb d_Field_multiply_640 (by decide) ?_
      refine lv_lshr (v := v16 >>> ((nI 28).toInt64 &&& 63)) hx hb d_Field_multiply_642 rfl ?_
      refine lv_ladd hx hb d_Field_multiply_643 ?_
      refine lv_dup2_2 hx hb d_Field_multiply_644 rfl ?_
      refine lv_topl (fun v18 _ => ?_)
      refine lv_lstore (lv' := [(79, .long v18), (77, .long v16), (75, .long v14), (73, .long v12), (71, .long v10), (69, .long v8), (67, .long v6), (65, .long v4), (63, .long v2), (87, .int (nI 14)), (61, .long t61), (81, .long t81), (83, .long t83), (85, .long t85), (0, .ref o), (1, .ref t), (3, .ref b), (4, .long a4), (6, .long a6), (8, .long a8), (10, .long a10), (12, .long a12), (14, .long a14), (16, .long a16), (18, .long a18), (20, .long a20), (22, .long a22), (24, .long a24), (26, .long a26), (28, .long a28), (30, .long a30), (33, .long q33), (35, .long q35), (37, .long q37), (39, .long q39), (41, .long q41), (43, .long q43), (45, .long q45), (47, .long q47), (49, .long q49), (51, .long q51), (53, .long q53), (55, .long q55), (57, .long q57), (59, .long q59)]) hx hb d_Field_multiply_645 hl (by decide) rfl (fun ls hl => ?_)
      refine lv_ldc2 (v := 268435455) hx hb E.2.2.2.1 (E.2.2.2.2.1 _ w_143) d_Field_multiply_647 ?_
      refine lv_land hx hb d_Field_multiply_650 ?_
      refine lv_topl (fun v19 _ => ?_)
      refine q_lastS E (hk.j ht) hF 9 rfl (by decide) d_Field_multiply_651 (fun H10 locs hq hF => ?_)
      have hk := hk.tr hq
      refine lv_aload_n hx hb d_Field_multiply_652 rfl (lv_at hl 15 rfl) ?_
      refine lv_bipush (v := nI 10) hx hb d_Field_multiply_653 (by decide) ?_
      refine lv_lload hx hb d_Field_multiply_655 (lv_at hl 11 rfl) ?_
      refine lv_lload hx hb d_Field_multiply_657 (lv_at hl 0 rfl) ?_
      refine lv_bipush (v := nI 28) hx hb d_Field_multiply_659 (by decide) ?_
      refine lv_lshr (v := v18 >>> ((nI 28).toInt64 &&& 63)) hx hb d_Field_multiply_661 rfl ?_
      refine lv_ladd hx hb d_Field_multiply_662 ?_
      refine lv_dup2_2 hx hb d_Field_multiply_663 rfl ?_
      refine lv_topl (fun v20 _ => ?_)
      refine lv_lstore (lv' := [(81, .long v20), (79, .long v18), (77, .long v16), (75, .long v14), (73, .long v12), (71, .long v10), (69, .long v8), (67, .long v6), (65, .long v4), (63, .long v2), (87, .int (nI 14)), (61, .long t61), (83, .long t83), (85, .long t85), (0, .ref o), (1, .ref t), (3, .ref b), (4, .long a4), (6, .long a6), (8, .long a8), (10, .long a10), (12, .long a12), (14, .long a14), (16, .long a16), (18, .long a18), (20, .long a20), (22, .long a22), (24, .long a24), (26, .long a26), (28, .long a28), (30, .long a30), (33, .long q33), (35, .long q35), (37, .long q37), (39, .long q39), (41, .long q41), (43, .long q43), (45, .long q45), (47, .long q47), (49, .long q49), (51, .long q51), (53, .long q53), (55, .long q55), (57, .long q57), (59, .long q59)]) hx hb d_Field_multiply_664 hl (by decide) rfl (fun ls hl => ?_)
      refine lv_ldc2 (v := 268435455) hx hb E.2.2.2.1 (E.2.2.2.2.1 _ w_143) d_Field_multiply_666 ?_
      refine lv_land hx hb d_Field_multiply_669 ?_
      refine lv_topl (fun v21 _ => ?_)
      refine q_lastS E (hk.j ht) hF 10 rfl (by decide) d_Field_multiply_670 (fun H11 locs hq hF => ?_)
      have hk := hk.tr hq
      refine lv_aload_n hx hb d_Field_multiply_671 rfl (lv_at hl 15 rfl) ?_
      refine lv_bipush (v := nI 11) hx hb d_Field_multiply_672 (by decide) ?_
      refine lv_lload hx hb d_Field_multiply_674 (lv_at hl 12 rfl) ?_
      refine lv_lload hx hb d_Field_multiply_676 (lv_at hl 0 rfl) ?_
      refine lv_bipush (v := nI 28) hx hb d_Field_multiply_678 (by decide) ?_
      refine lv_lshr (v := v20 >>> ((nI 28).toInt64 &&& 63)) hx hb d_Field_multiply_680 rfl ?_
      refine lv_ladd hx hb d_Field_multiply_681 ?_
      refine lv_dup2_2 hx hb d_Field_multiply_682 rfl ?_
      refine lv_topl (fun v22 _ => ?_)
      refine lv_lstore (lv' := [(83, .long v22), (81, .long v20), (79, .long v18), (77, .long v16), (75, .long v14), (73, .long v12), (71, .long v10), (69, .long v8), (67, .long v6), (65, .long v4), (63, .long v2), (87, .int (nI 14)), (61, .long t61), (85, .long t85), (0, .ref o), (1, .ref t), (3, .ref b), (4, .long a4), (6, .long a6), (8, .long a8), (10, .long a10), (12, .long a12), (14, .long a14), (16, .long a16), (18, .long a18), (20, .long a20), (22, .long a22), (24, .long a24), (26, .long a26), (28, .long a28), (30, .long a30), (33, .long q33), (35, .long q35), (37, .long q37), (39, .long q39), (41, .long q41), (43, .long q43), (45, .long q45), (47, .long q47), (49, .long q49), (51, .long q51), (53, .long q53), (55, .long q55), (57, .long q57), (59, .long q59)]) hx hb d_Field_multiply_683 hl (by decide) rfl (fun ls hl => ?_)
      refine lv_ldc2 (v := 268435455) hx hb E.2.2.2.1 (E.2.2.2.2.1 _ w_143) d_Field_multiply_685 ?_
      refine lv_land hx hb d_Field_multiply_688 ?_
      refine lv_topl (fun v23 _ => ?_)
      refine q_lastS E (hk.j ht) hF 11 rfl (by decide) d_Field_multiply_689 (fun H12 locs hq hF => ?_)
      have hk := hk.tr hq
      refine lv_aload_n hx hb d_Field_multiply_690 rfl (lv_at hl 15 rfl) ?_
      refine lv_bipush (v := nI 12) hx hb d_Field_multiply_691 (by decide) ?_
      refine lv_lload hx hb d_Field_multiply_693 (lv_at hl 13 rfl) ?_
      refine lv_lload hx hb d_Field_multiply_695 (lv_at hl 0 rfl) ?_
      refine lv_bipush (v := nI 28) hx hb d_Field_multiply_697 (by decide) ?_
      refine lv_lshr (v := v22 >>> ((nI 28).toInt64 &&& 63)) hx hb d_Field_multiply_699 rfl ?_
      refine lv_ladd hx hb d_Field_multiply_700 ?_
      refine lv_dup2_2 hx hb d_Field_multiply_701 rfl ?_
      refine lv_topl (fun v24 _ => ?_)
      refine lv_lstore (lv' := [(85, .long v24), (83, .long v22), (81, .long v20), (79, .long v18), (77, .long v16), (75, .long v14), (73, .long v12), (71, .long v10), (69, .long v8), (67, .long v6), (65, .long v4), (63, .long v2), (87, .int (nI 14)), (61, .long t61), (0, .ref o), (1, .ref t), (3, .ref b), (4, .long a4), (6, .long a6), (8, .long a8), (10, .long a10), (12, .long a12), (14, .long a14), (16, .long a16), (18, .long a18), (20, .long a20), (22, .long a22), (24, .long a24), (26, .long a26), (28, .long a28), (30, .long a30), (33, .long q33), (35, .long q35), (37, .long q37), (39, .long q39), (41, .long q41), (43, .long q43), (45, .long q45), (47, .long q47), (49, .long q49), (51, .long q51), (53, .long q53), (55, .long q55), (57, .long q57), (59, .long q59)]) hx hb d_Field_multiply_702 hl (by decide) rfl (fun ls hl => ?_)
      refine lv_ldc2 (v := 268435455) hx hb E.2.2.2.1 (E.2.2.2.2.1 _ w_143) d_Field_multiply_704 ?_
      refine lv_land hx hb d_Field_multiply_707 ?_
      refine lv_topl (fun v25 _ => ?_)
      refine q_lastS E (hk.j ht) hF 12 rfl (by decide) d_Field_multiply_708 (fun H13 locs hq hF => ?_)
      have hk := hk.tr hq
      refine lv_aload_n hx hb d_Field_multiply_709 rfl (lv_at hl 15 rfl) ?_
      refine lv_bipush (v := nI 13) hx hb d_Field_multiply_710 (by decide) ?_
      refine lv_lload hx hb d_Field_multiply_712 (lv_at hl 0 rfl) ?_
      refine lv_bipush (v := nI 28) hx hb d_Field_multiply_714 (by decide) ?_
      refine lv_lshr (v := v24 >>> ((nI 28).toInt64 &&& 63)) hx hb d_Field_multiply_716 rfl ?_
      refine lv_topl (fun v26 _ => ?_)
      refine q_lastS E (hk.j ht) hF 13 rfl (by decide) d_Field_multiply_717 (fun H14 locs hq hF => ?_)
      have hk := hk.tr hq
      refine lv_aload_n hx hb d_Field_multiply_718 rfl (lv_at hl 14 rfl) ?_
      refine lv_aload_n hx hb d_Field_multiply_719 rfl (lv_at hl 15 rfl) ?_
      refine q_cV (rest := []) E (c_Field_reduce l g n0 o t F mi) w_161 w_4 w_158 w_160 (bw_s 1 rfl) hd_Field_reduce rfl ⟨by decide, by decide⟩ (OB.recv E.2.2.2.2.2 (by rfl) ((hk.fd hK hfd).1)) (⟨hk.fd hK hfd, hk.j ht⟩) hF hl.1 rfl (Nat.le_of_ble_eq_true rfl) d_Field_multiply_720 ⟨by decide, by decide⟩ (qv (fun H15 locs hq hF => ?_))
      have hk := hk.tr hq
      exact q_vret E hr hlk (⟨rfl, hk⟩) hF d_Field_multiply_723
    | succ k ih =>
      intro  i   ls   t61 t63 t65 t67 t69 t71 t73 t75 t77 t79 t81 t83 t85 hi hl
      have hi14 : i < 14 := by omega
      refine lv_iload hx hb d_Field_multiply_218 (lv_at hl 0 rfl) ?_
      refine lv_bipush (v := nI 14) hx hb d_Field_multiply_220 (by decide) ?_
      refine lv_icmp_ge (tgt := 477) hx hb d_Field_multiply_222 (by decide) (fun h9 => absurd h9 (nI_ge hi14 (by decide))) (fun _ => ?_)
      refine lv_aload_n hx hb d_Field_multiply_225 rfl (lv_at hl 16 rfl) ?_
      refine lv_iload hx hb d_Field_multiply_226 (lv_at hl 0 rfl) ?_
      refine q_laldS E (hk.j hb0) i rfl hi14 d_Field_multiply_228 (fun v1 => ?_)
      refine lv_lstore (lv' := [(88, .long v1), (87, .int (nI i)), (61, .long t61), (63, .long t63), (65, .long t65), (67, .long t67), (69, .long t69), (71, .long t71), (73, .long t73), (75, .long t75), (77, .long t77), (79, .long t79), (81, .long t81), (83, .long t83), (85, .long t85), (0, .ref o), (1, .ref t), (3, .ref b), (4, .long a4), (6, .long a6), (8, .long a8), (10, .long a10), (12, .long a12), (14, .long a14), (16, .long a16), (18, .long a18), (20, .long a20), (22, .long a22), (24, .long a24), (26, .long a26), (28, .long a28), (30, .long a30), (33, .long q33), (35, .long q35), (37, .long q37), (39, .long q39), (41, .long q41), (43, .long q43), (45, .long q45), (47, .long q47), (49, .long q49), (51, .long q51), (53, .long q53), (55, .long q55), (57, .long q57), (59, .long q59)]) hx hb d_Field_multiply_229 hl (by decide) rfl (fun ls hl => ?_)
      refine lv_lload hx hb d_Field_multiply_231 (lv_at hl 2 rfl) ?_
      refine lv_lload hx hb d_Field_multiply_233 (lv_at hl 0 rfl) ?_
      refine lv_lload hx hb d_Field_multiply_235 (lv_at hl 18 rfl) ?_
      refine lv_lmul hx hb d_Field_multiply_237 ?_
      refine lv_ladd hx hb d_Field_multiply_238 ?_
      refine lv_topl (fun v2 _ => ?_)
      refine lv_lstore (lv' := [(61, .long v2), (88, .long v1), (87, .int (nI i)), (63, .long t63), (65, .long t65), (67, .long t67), (69, .long t69), (71, .long t71), (73, .long t73), (75, .long t75), (77, .long t77), (79, .long t79), (81, .long t81), (83, .long t83), (85, .long t85), (0, .ref o), (1, .ref t), (3, .ref b), (4, .long a4), (6, .long a6), (8, .long a8), (10, .long a10), (12, .long a12), (14, .long a14), (16, .long a16), (18, .long a18), (20, .long a20), (22, .long a22), (24, .long a24), (26, .long a26), (28, .long a28), (30, .long a30), (33, .long q33), (35, .long q35), (37, .long q37), (39, .long q39), (41, .long q41), (43, .long q43), (45, .long q45), (47, .long q47), (49, .long q49), (51, .long q51), (53, .long q53), (55, .long q55), (57, .long q57), (59, .long q59)]) hx hb d_Field_multiply_239 hl (by decide) rfl (fun ls hl => ?_)
      refine lv_lload hx hb d_Field_multiply_241 (lv_at hl 0 rfl) ?_
      refine lv_aload_n hx hb d_Field_multiply_243 rfl (lv_at hl 15 rfl) ?_
      refine q_get (C := "KateDesk$Field") (T := T_Field) (N := 7) (ci := 1) E ((hk.fd hK hfd).1) in_Field rfl 6 (by decide) w_182 rfl rfl d_Field_multiply_244 ?_
      refine lv_lmul hx hb d_Field_multiply_247 ?_
      refine lv_ldc2 (v := 268435455) hx hb E.2.2.2.1 (E.2.2.2.2.1 _ w_143) d_Field_multiply_248 ?_
      refine lv_land hx hb d_Field_multiply_251 ?_
      refine lv_topl (fun v3 _ => ?_)
      refine lv_lstore (lv' := [(90, .long v3), (61, .long v2), (88, .long v1), (87, .int (nI i)), (63, .long t63), (65, .long t65), (67, .long t67), (69, .long t69), (71, .long t71), (73, .long t73), (75, .long t75), (77, .long t77), (79, .long t79), (81, .long t81), (83, .long t83), (85, .long t85), (0, .ref o), (1, .ref t), (3, .ref b), (4, .long a4), (6, .long a6), (8, .long a8), (10, .long a10), (12, .long a12), (14, .long a14), (16, .long a16), (18, .long a18), (20, .long a20), (22, .long a22), (24, .long a24), (26, .long a26), (28, .long a28), (30, .long a30), (33, .long q33), (35, .long q35), (37, .long q37), (39, .long q39), (41, .long q41), (43, .long q43), (45, .long q45), (47, .long q47), (49, .long q49), (51, .long q51), (53, .long q53), (55, .long q55), (57, .long q57), (59, .long q59)]) hx hb d_Field_multiply_252 hl (by decide) rfl (fun ls hl => ?_)
      refine lv_lload hx hb d_Field_multiply_254 (lv_at hl 1 rfl) ?_
      refine lv_lload hx hb d_Field_multiply_256 (lv_at hl 0 rfl) ?_
      refine lv_lload hx hb d_Field_multiply_258 (lv_at hl 33 rfl) ?_
      refine lv_lmul hx hb d_Field_multiply_260 ?_
      refine lv_ladd hx hb d_Field_multiply_261 ?_
      refine lv_bipush (v := nI 28) hx hb d_Field_multiply_262 (by decide) ?_
      refine lv_lshr (v := (v2 + (v3 * q33)) >>> ((nI 28).toInt64 &&& 63)) hx hb d_Field_multiply_264 rfl ?_
      refine lv_lload hx hb d_Field_multiply_265 (lv_at hl 4 rfl) ?_
      refine lv_ladd hx hb d_Field_multiply_267 ?_
      refine lv_lload hx hb d_Field_multiply_268 (lv_at hl 2 rfl) ?_
      refine lv_lload hx hb d_Field_multiply_270 (lv_at hl 20 rfl) ?_
      refine lv_lmul hx hb d_Field_multiply_272 ?_
      refine lv_ladd hx hb d_Field_multiply_273 ?_
      refine lv_lload hx hb d_Field_multiply_274 (lv_at hl 0 rfl) ?_
      refine lv_lload hx hb d_Field_multiply_276 (lv_at hl 34 rfl) ?_
      refine lv_lmul hx hb d_Field_multiply_278 ?_
      refine lv_ladd hx hb d_Field_multiply_279 ?_
      refine lv_topl (fun v4 _ => ?_)
      refine lv_lstore (lv' := [(61, .long v4), (90, .long v3), (88, .long v1), (87, .int (nI i)), (63, .long t63), (65, .long t65), (67, .long t67), (69, .long t69), (71, .long t71), (73, .long t73), (75, .long t75), (77, .long t77), (79, .long t79), (81, .long t81), (83, .long t83), (85, .long t85), (0, .ref o), (1, .ref t), (3, .ref b), (4, .long a4), (6, .long a6), (8, .long a8), (10, .long a10), (12, .long a12), (14, .long a14), (16, .long a16), (18, .long a18), (20, .long a20), (22, .long a22), (24, .long a24), (26, .long a26), (28, .long a28), (30, .long a30), (33, .long q33), (35, .long q35), (37, .long q37), (39, .long q39), (41, .long q41), (43, .long q43), (45, .long q45), (47, .long q47), (49, .long q49), (51, .long q51), (53, .long q53), (55, .long q55), (57, .long q57), (59, .long q59)]) hx hb d_Field_multiply_280 hl (by decide) rfl (fun ls hl => ?_)
      refine lv_lload hx hb d_Field_multiply_282 (lv_at hl 5 rfl) ?_
      refine lv_lload hx hb d_Field_multiply_284 (lv_at hl 2 rfl) ?_
      refine lv_lload hx hb d_Field_multiply_286 (lv_at hl 21 rfl) ?_
      refine lv_lmul hx hb d_Field_multiply_288 ?_
      refine lv_ladd hx hb d_Field_multiply_289 ?_
      refine lv_lload hx hb d_Field_multiply_290 (lv_at hl 1 rfl) ?_
      refine lv_lload hx hb d_Field_multiply_292 (lv_at hl 35 rfl) ?_
      refine lv_lmul hx hb d_Field_multiply_294 ?_
      refine lv_ladd hx hb d_Field_multiply_295 ?_
      refine lv_topl (fun v5 _ => ?_)
      refine lv_lstore (lv' := [(63, .long v5), (61, .long v4), (90, .long v3), (88, .long v1), (87, .int (nI i)), (65, .long t65), (67, .long t67), (69, .long t69), (71, .long t71), (73, .long t73), (75, .long t75), (77, .long t77), (79, .long t79), (81, .long t81), (83, .long t83), (85, .long t85), (0, .ref o), (1, .ref t), (3, .ref b), (4, .long a4), (6, .long a6), (8, .long a8), (10, .long a10), (12, .long a12), (14, .long a14), (16, .long a16), (18, .long a18), (20, .long a20), (22, .long a22), (24, .long a24), (26, .long a26), (28, .long a28), (30, .long a30), (33, .long q33), (35, .long q35), (37, .long q37), (39, .long q39), (41, .long q41), (43, .long q43), (45, .long q45), (47, .long q47), (49, .long q49), (51, .long q51), (53, .long q53), (55, .long q55), (57, .long q57), (59, .long q59)]) hx hb d_Field_multiply_296 hl (by decide) rfl (fun ls hl => ?_)
      refine lv_lload hx hb d_Field_multiply_298 (lv_at hl 6 rfl) ?_
      refine lv_lload hx hb d_Field_multiply_300 (lv_at hl 3 rfl) ?_
      refine lv_lload hx hb d_Field_multiply_302 (lv_at hl 22 rfl) ?_
      refine lv_lmul hx hb d_Field_multiply_304 ?_
      refine lv_ladd hx hb d_Field_multiply_305 ?_
      refine lv_lload hx hb d_Field_multiply_306 (lv_at hl 2 rfl) ?_
      refine lv_lload hx hb d_Field_multiply_308 (lv_at hl 36 rfl) ?_
      refine lv_lmul hx hb d_Field_multiply_310 ?_
      refine lv_ladd hx hb d_Field_multiply_311 ?_
      refine lv_topl (fun v6 _ => ?_)
      refine lv_lstore (lv' := [(65, .long v6), (63, .long v5), (61, .long v4), (90, .long v3), (88, .long v1), (87, .int (nI i)), (67, .long t67), (69, .long t69), (71, .long t71), (73, .long t73), (75, .long t75), (77, .long t77), (79, .long t79), (81, .long t81), (83, .long t83), (85, .long t85), (0, .ref o), (1, .ref t), (3, .ref b), (4, .long a4), (6, .long a6), (8, .long a8), (10, .long a10), (12, .long a12), (14, .long a14), (16, .long a16), (18, .long a18), (20, .long a20), (22, .long a22), (24, .long a24), (26, .long a26), (28, .long a28), (30, .long a30), (33, .long q33), (35, .long q35), (37, .long q37), (39, .long q39), (41, .long q41), (43, .long q43), (45, .long q45), (47, .long q47), (49, .long q49), (51, .long q51), (53, .long q53), (55, .long q55), (57, .long q57), (59, .long q59)]) hx hb d_Field_multiply_312 hl (by decide) rfl (fun ls hl => ?_)
      refine lv_lload hx hb d_Field_multiply_314 (lv_at hl 7 rfl) ?_
      refine lv_lload hx hb d_Field_multiply_316 (lv_at hl 4 rfl) ?_
      refine lv_lload hx hb d_Field_multiply_318 (lv_at hl 23 rfl) ?_
      refine lv_lmul hx hb d_Field_multiply_320 ?_
      refine lv_ladd hx hb d_Field_multiply_321 ?_
      refine lv_lload hx hb d_Field_multiply_322 (lv_at hl 3 rfl) ?_
      refine lv_lload hx hb d_Field_multiply_324 (lv_at hl 37 rfl) ?_
      refine lv_lmul hx hb d_Field_multiply_326 ?_
      refine lv_ladd hx hb d_Field_multiply_327 ?_
      refine lv_topl (fun v7 _ => ?_)
      refine lv_lstore (lv' := [(67, .long v7), (65, .long v6), (63, .long v5), (61, .long v4), (90, .long v3), (88, .long v1), (87, .int (nI i)), (69, .long t69), (71, .long t71), (73, .long t73), (75, .long t75), (77, .long t77), (79, .long t79), (81, .long t81), (83, .long t83), (85, .long t85), (0, .ref o), (1, .ref t), (3, .ref b), (4, .long a4), (6, .long a6), (8, .long a8), (10, .long a10), (12, .long a12), (14, .long a14), (16, .long a16), (18, .long a18), (20, .long a20), (22, .long a22), (24, .long a24), (26, .long a26), (28, .long a28), (30, .long a30), (33, .long q33), (35, .long q35), (37, .long q37), (39, .long q39), (41, .long q41), (43, .long q43), (45, .long q45), (47, .long q47), (49, .long q49), (51, .long q51), (53, .long q53), (55, .long q55), (57, .long q57), (59, .long q59)]) hx hb d_Field_multiply_328 hl (by decide) rfl (fun ls hl => ?_)
      refine lv_lload hx hb d_Field_multiply_330 (lv_at hl 8 rfl) ?_
      refine lv_lload hx hb d_Field_multiply_332 (lv_at hl 5 rfl) ?_
      refine lv_lload hx hb d_Field_multiply_334 (lv_at hl 24 rfl) ?_
      refine lv_lmul hx hb d_Field_multiply_336 ?_
      refine lv_ladd hx hb d_Field_multiply_337 ?_
      refine lv_lload hx hb d_Field_multiply_338 (lv_at hl 4 rfl) ?_
      refine lv_lload hx hb d_Field_multiply_340 (lv_at hl 38 rfl) ?_
      refine lv_lmul hx hb d_Field_multiply_342 ?_
      refine lv_ladd hx hb d_Field_multiply_343 ?_
      refine lv_topl (fun v8 _ => ?_)
      refine lv_lstore (lv' := [(69, .long v8), (67, .long v7), (65, .long v6), (63, .long v5), (61, .long v4), (90, .long v3), (88, .long v1), (87, .int (nI i)), (71, .long t71), (73, .long t73), (75, .long t75), (77, .long t77), (79, .long t79), (81, .long t81), (83, .long t83), (85, .long t85), (0, .ref o), (1, .ref t), (3, .ref b), (4, .long a4), (6, .long a6), (8, .long a8), (10, .long a10), (12, .long a12), (14, .long a14), (16, .long a16), (18, .long a18), (20, .long a20), (22, .long a22), (24, .long a24), (26, .long a26), (28, .long a28), (30, .long a30), (33, .long q33), (35, .long q35), (37, .long q37), (39, .long q39), (41, .long q41), (43, .long q43), (45, .long q45), (47, .long q47), (49, .long q49), (51, .long q51), (53, .long q53), (55, .long q55), (57, .long q57), (59, .long q59)]) hx hb d_Field_multiply_344 hl (by decide) rfl (fun ls hl => ?_)
      refine lv_lload hx hb d_Field_multiply_346 (lv_at hl 9 rfl) ?_
      refine lv_lload hx hb d_Field_multiply_348 (lv_at hl 6 rfl) ?_
      refine lv_lload hx hb d_Field_multiply_350 (lv_at hl 25 rfl) ?_
      refine lv_lmul hx hb d_Field_multiply_352 ?_
      refine lv_ladd hx hb d_Field_multiply_353 ?_
      refine lv_lload hx hb d_Field_multiply_354 (lv_at hl 5 rfl) ?_
      refine lv_lload hx hb d_Field_multiply_356 (lv_at hl 39 rfl) ?_
      refine lv_lmul hx hb d_Field_multiply_358 ?_
      refine lv_ladd hx hb d_Field_multiply_359 ?_
      refine lv_topl (fun v9 _ => ?_)
      refine lv_lstore (lv' := [(71, .long v9), (69, .long v8), (67, .long v7), (65, .long v6), (63, .long v5), (61, .long v4), (90, .long v3), (88, .long v1), (87, .int (nI i)), (73, .long t73), (75, .long t75), (77, .long t77), (79, .long t79), (81, .long t81), (83, .long t83), (85, .long t85), (0, .ref o), (1, .ref t), (3, .ref b), (4, .long a4), (6, .long a6), (8, .long a8), (10, .long a10), (12, .long a12), (14, .long a14), (16, .long a16), (18, .long a18), (20, .long a20), (22, .long a22), (24, .long a24), (26, .long a26), (28, .long a28), (30, .long a30), (33, .long q33), (35, .long q35), (37, .long q37), (39, .long q39), (41, .long q41), (43, .long q43), (45, .long q45), (47, .long q47), (49, .long q49), (51, .long q51), (53, .long q53), (55, .long q55), (57, .long q57), (59, .long q59)]) hx hb d_Field_multiply_360 hl (by decide) rfl (fun ls hl => ?_)
      refine lv_lload hx hb d_Field_multiply_362 (lv_at hl 10 rfl) ?_
      refine lv_lload hx hb d_Field_multiply_364 (lv_at hl 7 rfl) ?_
      refine lv_lload hx hb d_Field_multiply_366 (lv_at hl 26 rfl) ?_
      refine lv_lmul hx hb d_Field_multiply_368 ?_
      refine lv_ladd hx hb d_Field_multiply_369 ?_
      refine lv_lload hx hb d_Field_multiply_370 (lv_at hl 6 rfl) ?_
      refine lv_lload hx hb d_Field_multiply_372 (lv_at hl 40 rfl) ?_
      refine lv_lmul hx hb d_Field_multiply_374 ?_
      refine lv_ladd hx hb d_Field_multiply_375 ?_
      refine lv_topl (fun v10 _ => ?_)
      refine lv_lstore (lv' := [(73, .long v10), (71, .long v9), (69, .long v8), (67, .long v7), (65, .long v6), (63, .long v5), (61, .long v4), (90, .long v3), (88, .long v1), (87, .int (nI i)), (75, .long t75), (77, .long t77), (79, .long t79), (81, .long t81), (83, .long t83), (85, .long t85), (0, .ref o), (1, .ref t), (3, .ref b), (4, .long a4), (6, .long a6), (8, .long a8), (10, .long a10), (12, .long a12), (14, .long a14), (16, .long a16), (18, .long a18), (20, .long a20), (22, .long a22), (24, .long a24), (26, .long a26), (28, .long a28), (30, .long a30), (33, .long q33), (35, .long q35), (37, .long q37), (39, .long q39), (41, .long q41), (43, .long q43), (45, .long q45), (47, .long q47), (49, .long q49), (51, .long q51), (53, .long q53), (55, .long q55), (57, .long q57), (59, .long q59)]) hx hb d_Field_multiply_376 hl (by decide) rfl (fun ls hl => ?_)
      refine lv_lload hx hb d_Field_multiply_378 (lv_at hl 11 rfl) ?_
      refine lv_lload hx hb d_Field_multiply_380 (lv_at hl 8 rfl) ?_
      refine lv_lload hx hb d_Field_multiply_382 (lv_at hl 27 rfl) ?_
      refine lv_lmul hx hb d_Field_multiply_384 ?_
      refine lv_ladd hx hb d_Field_multiply_385 ?_
      refine lv_lload hx hb d_Field_multiply_386 (lv_at hl 7 rfl) ?_
      refine lv_lload hx hb d_Field_multiply_388 (lv_at hl 41 rfl) ?_
      refine lv_lmul hx hb d_Field_multiply_390 ?_
      refine lv_ladd hx hb d_Field_multiply_391 ?_
      refine lv_topl (fun v11 _ => ?_)
      refine lv_lstore (lv' := [(75, .long v11), (73, .long v10), (71, .long v9), (69, .long v8), (67, .long v7), (65, .long v6), (63, .long v5), (61, .long v4), (90, .long v3), (88, .long v1), (87, .int (nI i)), (77, .long t77), (79, .long t79), (81, .long t81), (83, .long t83), (85, .long t85), (0, .ref o), (1, .ref t), (3, .ref b), (4, .long a4), (6, .long a6), (8, .long a8), (10, .long a10), (12, .long a12), (14, .long a14), (16, .long a16), (18, .long a18), (20, .long a20), (22, .long a22), (24, .long a24), (26, .long a26), (28, .long a28), (30, .long a30), (33, .long q33), (35, .long q35), (37, .long q37), (39, .long q39), (41, .long q41), (43, .long q43), (45, .long q45), (47, .long q47), (49, .long q49), (51, .long q51), (53, .long q53), (55, .long q55), (57, .long q57), (59, .long q59)]) hx hb d_Field_multiply_392 hl (by decide) rfl (fun ls hl => ?_)
      refine lv_lload hx hb d_Field_multiply_394 (lv_at hl 12 rfl) ?_
      refine lv_lload hx hb d_Field_multiply_396 (lv_at hl 9 rfl) ?_
      refine lv_lload hx hb d_Field_multiply_398 (lv_at hl 28 rfl) ?_
      refine lv_lmul hx hb d_Field_multiply_400 ?_
      refine lv_ladd hx hb d_Field_multiply_401 ?_
      refine lv_lload hx hb d_Field_multiply_402 (lv_at hl 8 rfl) ?_
      refine lv_lload hx hb d_Field_multiply_404 (lv_at hl 42 rfl) ?_
      refine lv_lmul hx hb d_Field_multiply_406 ?_
      refine lv_ladd hx hb d_Field_multiply_407 ?_
      refine lv_topl (fun v12 _ => ?_)
      refine lv_lstore (lv' := [(77, .long v12), (75, .long v11), (73, .long v10), (71, .long v9), (69, .long v8), (67, .long v7), (65, .long v6), (63, .long v5), (61, .long v4), (90, .long v3), (88, .long v1), (87, .int (nI i)), (79, .long t79), (81, .long t81), (83, .long t83), (85, .long t85), (0, .ref o), (1, .ref t), (3, .ref b), (4, .long a4), (6, .long a6), (8, .long a8), (10, .long a10), (12, .long a12), (14, .long a14), (16, .long a16), (18, .long a18), (20, .long a20), (22, .long a22), (24, .long a24), (26, .long a26), (28, .long a28), (30, .long a30), (33, .long q33), (35, .long q35), (37, .long q37), (39, .long q39), (41, .long q41), (43, .long q43), (45, .long q45), (47, .long q47), (49, .long q49), (51, .long q51), (53, .long q53), (55, .long q55), (57, .long q57), (59, .long q59)]) hx hb d_Field_multiply_408 hl (by decide) rfl (fun ls hl => ?_)
      refine lv_lload hx hb d_Field_multiply_410 (lv_at hl 13 rfl) ?_
      refine lv_lload hx hb d_Field_multiply_412 (lv_at hl 10 rfl) ?_
      refine lv_lload hx hb d_Field_multiply_414 (lv_at hl 29 rfl) ?_
      refine lv_lmul hx hb d_Field_multiply_416 ?_
      refine lv_ladd hx hb d_Field_multiply_417 ?_
      refine lv_lload hx hb d_Field_multiply_418 (lv_at hl 9 rfl) ?_
      refine lv_lload hx hb d_Field_multiply_420 (lv_at hl 43 rfl) ?_
      refine lv_lmul hx hb d_Field_multiply_422 ?_
      refine lv_ladd hx hb d_Field_multiply_423 ?_
      refine lv_topl (fun v13 _ => ?_)
      refine lv_lstore (lv' := [(79, .long v13), (77, .long v12), (75, .long v11), (73, .long v10), (71, .long v9), (69, .long v8), (67, .long v7), (65, .long v6), (63, .long v5), (61, .long v4), (90, .long v3), (88, .long v1), (87, .int (nI i)), (81, .long t81), (83, .long t83), (85, .long t85), (0, .ref o), (1, .ref t), (3, .ref b), (4, .long a4), (6, .long a6), (8, .long a8), (10, .long a10), (12, .long a12), (14, .long a14), (16, .long a16), (18, .long a18), (20, .long a20), (22, .long a22), (24, .long a24), (26, .long a26), (28, .long a28), (30, .long a30), (33, .long q33), (35, .long q35), (37, .long q37), (39, .long q39), (41, .long q41), (43, .long q43), (45, .long q45), (47, .long q47), (49, .long q49), (51, .long q51), (53, .long q53), (55, .long q55), (57, .long q57), (59, .long q59)]) hx hb d_Field_multiply_424 hl (by decide) rfl (fun ls hl => ?_)
      refine lv_lload hx hb d_Field_multiply_426 (lv_at hl 14 rfl) ?_
      refine lv_lload hx hb d_Field_multiply_428 (lv_at hl 11 rfl) ?_
      refine lv_lload hx hb d_Field_multiply_430 (lv_at hl 30 rfl) ?_
      refine lv_lmul hx hb d_Field_multiply_432 ?_
      refine lv_ladd hx hb d_Field_multiply_433 ?_
      refine lv_lload hx hb d_Field_multiply_434 (lv_at hl 10 rfl) ?_
      refine lv_lload hx hb d_Field_multiply_436 (lv_at hl 44 rfl) ?_
      refine lv_lmul hx hb d_Field_multiply_438 ?_
      refine lv_ladd hx hb d_Field_multiply_439 ?_
      refine lv_topl (fun v14 _ => ?_)
      refine lv_lstore (lv' := [(81, .long v14), (79, .long v13), (77, .long v12), (75, .long v11), (73, .long v10), (71, .long v9), (69, .long v8), (67, .long v7), (65, .long v6), (63, .long v5), (61, .long v4), (90, .long v3), (88, .long v1), (87, .int (nI i)), (83, .long t83), (85, .long t85), (0, .ref o), (1, .ref t), (3, .ref b), (4, .long a4), (6, .long a6), (8, .long a8), (10, .long a10), (12, .long a12), (14, .long a14), (16, .long a16), (18, .long a18), (20, .long a20), (22, .long a22), (24, .long a24), (26, .long a26), (28, .long a28), (30, .long a30), (33, .long q33), (35, .long q35), (37, .long q37), (39, .long q39), (41, .long q41), (43, .long q43), (45, .long q45), (47, .long q47), (49, .long q49), (51, .long q51), (53, .long q53), (55, .long q55), (57, .long q57), (59, .long q59)]) hx hb d_Field_multiply_440 hl (by decide) rfl (fun ls hl => ?_)
      refine lv_lload hx hb d_Field_multiply_442 (lv_at hl 15 rfl) ?_
      refine lv_lload hx hb d_Field_multiply_444 (lv_at hl 12 rfl) ?_
      refine lv_lload hx hb d_Field_multiply_446 (lv_at hl 31 rfl) ?_
      refine lv_lmul hx hb d_Field_multiply_448 ?_
      refine lv_ladd hx hb d_Field_multiply_449 ?_
      refine lv_lload hx hb d_Field_multiply_450 (lv_at hl 11 rfl) ?_
      refine lv_lload hx hb d_Field_multiply_452 (lv_at hl 45 rfl) ?_
      refine lv_lmul hx hb d_Field_multiply_454 ?_
      refine lv_ladd hx hb d_Field_multiply_455 ?_
      refine lv_topl (fun v15 _ => ?_)
      refine lv_lstore (lv' := [(83, .long v15), (81, .long v14), (79, .long v13), (77, .long v12), (75, .long v11), (73, .long v10), (71, .long v9), (69, .long v8), (67, .long v7), (65, .long v6), (63, .long v5), (61, .long v4), (90, .long v3), (88, .long v1), (87, .int (nI i)), (85, .long t85), (0, .ref o), (1, .ref t), (3, .ref b), (4, .long a4), (6, .long a6), (8, .long a8), (10, .long a10), (12, .long a12), (14, .long a14), (16, .long a16), (18, .long a18), (20, .long a20), (22, .long a22), (24, .long a24), (26, .long a26), (28, .long a28), (30, .long a30), (33, .long q33), (35, .long q35), (37, .long q37), (39, .long q39), (41, .long q41), (43, .long q43), (45, .long q45), (47, .long q47), (49, .long q49), (51, .long q51), (53, .long q53), (55, .long q55), (57, .long q57), (59, .long q59)]) hx hb d_Field_multiply_456 hl (by decide) rfl (fun ls hl => ?_)
      refine lv_lload hx hb d_Field_multiply_458 (lv_at hl 13 rfl) ?_
      refine lv_lload hx hb d_Field_multiply_460 (lv_at hl 32 rfl) ?_
      refine lv_lmul hx hb d_Field_multiply_462 ?_
      refine lv_lload hx hb d_Field_multiply_463 (lv_at hl 12 rfl) ?_
      refine lv_lload hx hb d_Field_multiply_465 (lv_at hl 46 rfl) ?_
      refine lv_lmul hx hb d_Field_multiply_467 ?_
      refine lv_ladd hx hb d_Field_multiply_468 ?_
      refine lv_topl (fun v16 _ => ?_)
      refine lv_lstore (lv' := [(85, .long v16), (83, .long v15), (81, .long v14), (79, .long v13), (77, .long v12), (75, .long v11), (73, .long v10), (71, .long v9), (69, .long v8), (67, .long v7), (65, .long v6), (63, .long v5), (61, .long v4), (90, .long v3), (88, .long v1), (87, .int (nI i)), (0, .ref o), (1, .ref t), (3, .ref b), (4, .long a4), (6, .long a6), (8, .long a8), (10, .long a10), (12, .long a12), (14, .long a14), (16, .long a16), (18, .long a18), (20, .long a20), (22, .long a22), (24, .long a24), (26, .long a26), (28, .long a28), (30, .long a30), (33, .long q33), (35, .long q35), (37, .long q37), (39, .long q39), (41, .long q41), (43, .long q43), (45, .long q45), (47, .long q47), (49, .long q49), (51, .long q51), (53, .long q53), (55, .long q55), (57, .long q57), (59, .long q59)]) hx hb d_Field_multiply_469 hl (by decide) rfl (fun ls hl => ?_)
      refine lv_iinc (k := 15) (v := nI (i + 1)) (lv' := [(87, .int (nI (i + 1))), (85, .long v16), (83, .long v15), (81, .long v14), (79, .long v13), (77, .long v12), (75, .long v11), (73, .long v10), (71, .long v9), (69, .long v8), (67, .long v7), (65, .long v6), (63, .long v5), (61, .long v4), (90, .long v3), (88, .long v1), (0, .ref o), (1, .ref t), (3, .ref b), (4, .long a4), (6, .long a6), (8, .long a8), (10, .long a10), (12, .long a12), (14, .long a14), (16, .long a16), (18, .long a18), (20, .long a20), (22, .long a22), (24, .long a24), (26, .long a26), (28, .long a28), (30, .long a30), (33, .long q33), (35, .long q35), (37, .long q37), (39, .long q39), (41, .long q41), (43, .long q43), (45, .long q45), (47, .long q47), (49, .long q49), (51, .long q51), (53, .long q53), (55, .long q55), (57, .long q57), (59, .long q59)]) hx hb d_Field_multiply_471 hl rfl (i_inc i) (by decide) rfl (fun ls hl => ?_)
      refine lv_goto (tgt := 218) hx hb d_Field_multiply_474 (by decide) ?_
      have hl : lv_has ls 92 [(87, .int (nI (i + 1))), (61, .long v4), (63, .long v5), (65, .long v6), (67, .long v7), (69, .long v8), (71, .long v9), (73, .long v10), (75, .long v11), (77, .long v12), (79, .long v13), (81, .long v14), (83, .long v15), (85, .long v16), (0, .ref o), (1, .ref t), (3, .ref b), (4, .long a4), (6, .long a6), (8, .long a8), (10, .long a10), (12, .long a12), (14, .long a14), (16, .long a16), (18, .long a18), (20, .long a20), (22, .long a22), (24, .long a24), (26, .long a26), (28, .long a28), (30, .long a30), (33, .long q33), (35, .long q35), (37, .long q37), (39, .long q39), (41, .long q41), (43, .long q43), (45, .long q45), (47, .long q47), (49, .long q49), (51, .long q51), (53, .long q53), (55, .long q55), (57, .long q57), (59, .long q59)] := lv_sub hl [0, 13, 12, 11, 10, 9, 8, 7, 6, 5, 4, 3, 2, 1, 16, 17, 18, 19, 20, 21, 22, 23, 24, 25, 26, 27, 28, 29, 30, 31, 32, 33, 34, 35, 36, 37, 38, 39, 40, 41, 42, 43, 44, 45, 46] rfl
      exact ih (i + 1) ls _ _ _ _ _ _ _ _ _ _ _ _ _ (by omega) hl
  have hl : lv_has ls 92 [(87, .int (nI 0)), (61, .long 0), (63, .long 0), (65, .long 0), (67, .long 0), (69, .long 0), (71, .long 0), (73, .long 0), (75, .long 0), (77, .long 0), (79, .long 0), (81, .long 0), (83, .long 0), (85, .long 0), (0, .ref o), (1, .ref t), (3, .ref b), (4, .long a4), (6, .long a6), (8, .long a8), (10, .long a10), (12, .long a12), (14, .long a14), (16, .long a16), (18, .long a18), (20, .long a20), (22, .long a22), (24, .long a24), (26, .long a26), (28, .long a28), (30, .long a30), (33, .long q33), (35, .long q35), (37, .long q37), (39, .long q39), (41, .long q41), (43, .long q43), (45, .long q45), (47, .long q47), (49, .long q49), (51, .long q51), (53, .long q53), (55, .long q55), (57, .long q57), (59, .long q59)] := lv_sub hl [0, 13, 12, 11, 10, 9, 8, 7, 6, 5, 4, 3, 2, 1, 43, 44, 46, 42, 41, 40, 39, 38, 37, 36, 35, 34, 33, 32, 31, 30, 29, 27, 26, 25, 24, 23, 22, 21, 20, 19, 18, 17, 16, 15, 14] rfl
  exact loop 14 0 ls 0 0 0 0 0 0 0 0 0 0 0 0 0 rfl hl
end
section
set_option maxHeartbeats 4000000 in
set_option maxRecDepth 100000 in
/-- times 0 -/
theorem z_Field_multiply (l : Launch) (g : WG) (n0 : Nat → Prop) (o t a b : Nat) (F : Nat → Nat) (mi : Int64) (f : Nat → Int64) (h0 : ∀ i, i < 14 → ¬ f i < 0) (h1 : f 0 ≠ 0) (htm : F 0 ≠ t) : Ctr l y_Field_multiply (.code y_Field_multiply prog_3_method_8_code 92 none) 1 24 0 0 n0 g [.ref o, .ref t, .ref a, .ref b] (fun H => FD g n0 H o F mi ∧ J14 g n0 H t ∧ J14 g n0 H a ∧ AJ g H b 14 (fun _ => 0) ∧ AJ g H (F 0) 14 f) (QV (fun H H' => KJ g (fun q => q = t) H H' ∧ AJ g H' t 14 (fun _ => 0))) := by
  refine ctr_mk l (lv0 := [(0, .ref o), (1, .ref t), (2, .ref a), (3, .ref b)]) (by decide) (Nat.le_of_ble_eq_true rfl) rfl ?_
  intro p e s m below meth c ls E hr hlk hnm hl hP
  have hx := E.1
  have hb := E.2.1
  have hK := E.2.2.2.2.2
  have hF : ∀ q ∈ ([] : List Loc), n0 q.base := fun q hq => absurd hq List.not_mem_nil
  obtain ⟨hfd, ht, ha, hb0, hfm⟩ := hP
  have hk : KJ g (fun q => q = t) s.heap s.heap := KJ.rf
  refine lv_aload_n hx hb d_Field_multiply_0 rfl (lv_at hl 2 rfl) ?_
  refine lv_iconst (v := nI 0) hx hb d_Field_multiply_1 (by decide) ?_
  refine q_laldS E (hk.j ha) 0 rfl (by decide) d_Field_multiply_2 (fun a4 => ?_)
  refine lv_lstore (lv' := [(4, .long a4), (0, .ref o), (1, .ref t), (2, .ref a), (3, .ref b)]) hx hb d_Field_multiply_3 hl (by decide) rfl (fun ls hl => ?_)
  refine lv_aload_n hx hb d_Field_multiply_5 rfl (lv_at hl 3 rfl) ?_
  refine lv_iconst (v := nI 1) hx hb d_Field_multiply_6 (by decide) ?_
  refine q_laldS E (hk.j ha) 1 rfl (by decide) d_Field_multiply_7 (fun a6 => ?_)
  refine lv_lstore (lv' := [(6, .long a6), (4, .long a4), (0, .ref o), (1, .ref t), (2, .ref a), (3, .ref b)]) hx hb d_Field_multiply_8 hl (by decide) rfl (fun ls hl => ?_)
  refine lv_aload_n hx hb d_Field_multiply_10 rfl (lv_at hl 4 rfl) ?_
  refine lv_iconst (v := nI 2) hx hb d_Field_multiply_11 (by decide) ?_
  refine q_laldS E (hk.j ha) 2 rfl (by decide) d_Field_multiply_12 (fun a8 => ?_)
  refine lv_lstore (lv' := [(8, .long a8), (6, .long a6), (4, .long a4), (0, .ref o), (1, .ref t), (2, .ref a), (3, .ref b)]) hx hb d_Field_multiply_13 hl (by decide) rfl (fun ls hl => ?_)
  refine lv_aload_n hx hb d_Field_multiply_15 rfl (lv_at hl 5 rfl) ?_
  refine lv_iconst (v := nI 3) hx hb d_Field_multiply_16 (by decide) ?_
  refine q_laldS E (hk.j ha) 3 rfl (by decide) d_Field_multiply_17 (fun a10 => ?_)
  refine lv_lstore (lv' := [(10, .long a10), (8, .long a8), (6, .long a6), (4, .long a4), (0, .ref o), (1, .ref t), (2, .ref a), (3, .ref b)]) hx hb d_Field_multiply_18 hl (by decide) rfl (fun ls hl => ?_)
  refine lv_aload_n hx hb d_Field_multiply_20 rfl (lv_at hl 6 rfl) ?_
  refine lv_iconst (v := nI 4) hx hb d_Field_multiply_21 (by decide) ?_
  refine q_laldS E (hk.j ha) 4 rfl (by decide) d_Field_multiply_22 (fun a12 => ?_)
  refine lv_lstore (lv' := [(12, .long a12), (10, .long a10), (8, .long a8), (6, .long a6), (4, .long a4), (0, .ref o), (1, .ref t), (2, .ref a), (3, .ref b)]) hx hb d_Field_multiply_23 hl (by decide) rfl (fun ls hl => ?_)
  refine lv_aload_n hx hb d_Field_multiply_25 rfl (lv_at hl 7 rfl) ?_
  refine lv_iconst (v := nI 5) hx hb d_Field_multiply_26 (by decide) ?_
  refine q_laldS E (hk.j ha) 5 rfl (by decide) d_Field_multiply_27 (fun a14 => ?_)
  refine lv_lstore (lv' := [(14, .long a14), (12, .long a12), (10, .long a10), (8, .long a8), (6, .long a6), (4, .long a4), (0, .ref o), (1, .ref t), (2, .ref a), (3, .ref b)]) hx hb d_Field_multiply_28 hl (by decide) rfl (fun ls hl => ?_)
  refine lv_aload_n hx hb d_Field_multiply_30 rfl (lv_at hl 8 rfl) ?_
  refine lv_bipush (v := nI 6) hx hb d_Field_multiply_31 (by decide) ?_
  refine q_laldS E (hk.j ha) 6 rfl (by decide) d_Field_multiply_33 (fun a16 => ?_)
  refine lv_lstore (lv' := [(16, .long a16), (14, .long a14), (12, .long a12), (10, .long a10), (8, .long a8), (6, .long a6), (4, .long a4), (0, .ref o), (1, .ref t), (2, .ref a), (3, .ref b)]) hx hb d_Field_multiply_34 hl (by decide) rfl (fun ls hl => ?_)
  refine lv_aload_n hx hb d_Field_multiply_36 rfl (lv_at hl 9 rfl) ?_
  refine lv_bipush (v := nI 7) hx hb d_Field_multiply_37 (by decide) ?_
  refine q_laldS E (hk.j ha) 7 rfl (by decide) d_Field_multiply_39 (fun a18 => ?_)
  refine lv_lstore (lv' := [(18, .long a18), (16, .long a16), (14, .long a14), (12, .long a12), (10, .long a10), (8, .long a8), (6, .long a6), (4, .long a4), (0, .ref o), (1, .ref t), (2, .ref a), (3, .ref b)]) hx hb d_Field_multiply_40 hl (by decide) rfl (fun ls hl => ?_)
  refine lv_aload_n hx hb d_Field_multiply_42 rfl (lv_at hl 10 rfl) ?_
  refine lv_bipush (v := nI 8) hx hb d_Field_multiply_43 (by decide) ?_
  refine q_laldS E (hk.j ha) 8 rfl (by decide) d_Field_multiply_45 (fun a20 => ?_)
  refine lv_lstore (lv' := [(20, .long a20), (18, .long a18), (16, .long a16), (14, .long a14), (12, .long a12), (10, .long a10), (8, .long a8), (6, .long a6), (4, .long a4), (0, .ref o), (1, .ref t), (2, .ref a), (3, .ref b)]) hx hb d_Field_multiply_46 hl (by decide) rfl (fun ls hl => ?_)
  refine lv_aload_n hx hb d_Field_multiply_48 rfl (lv_at hl 11 rfl) ?_
  refine lv_bipush (v := nI 9) hx hb d_Field_multiply_49 (by decide) ?_
  refine q_laldS E (hk.j ha) 9 rfl (by decide) d_Field_multiply_51 (fun a22 => ?_)
  refine lv_lstore (lv' := [(22, .long a22), (20, .long a20), (18, .long a18), (16, .long a16), (14, .long a14), (12, .long a12), (10, .long a10), (8, .long a8), (6, .long a6), (4, .long a4), (0, .ref o), (1, .ref t), (2, .ref a), (3, .ref b)]) hx hb d_Field_multiply_52 hl (by decide) rfl (fun ls hl => ?_)
  refine lv_aload_n hx hb d_Field_multiply_54 rfl (lv_at hl 12 rfl) ?_
  refine lv_bipush (v := nI 10) hx hb d_Field_multiply_55 (by decide) ?_
  refine q_laldS E (hk.j ha) 10 rfl (by decide) d_Field_multiply_57 (fun a24 => ?_)
  refine lv_lstore (lv' := [(24, .long a24), (22, .long a22), (20, .long a20), (18, .long a18), (16, .long a16), (14, .long a14), (12, .long a12), (10, .long a10), (8, .long a8), (6, .long a6), (4, .long a4), (0, .ref o), (1, .ref t), (2, .ref a), (3, .ref b)]) hx hb d_Field_multiply_58 hl (by decide) rfl (fun ls hl => ?_)
  refine lv_aload_n hx hb d_Field_multiply_60 rfl (lv_at hl 13 rfl) ?_
  refine lv_bipush (v := nI 11) hx hb d_Field_multiply_61 (by decide) ?_
  refine q_laldS E (hk.j ha) 11 rfl (by decide) d_Field_multiply_63 (fun a26 => ?_)
  refine lv_lstore (lv' := [(26, .long a26), (24, .long a24), (22, .long a22), (20, .long a20), (18, .long a18), (16, .long a16), (14, .long a14), (12, .long a12), (10, .long a10), (8, .long a8), (6, .long a6), (4, .long a4), (0, .ref o), (1, .ref t), (2, .ref a), (3, .ref b)]) hx hb d_Field_multiply_64 hl (by decide) rfl (fun ls hl => ?_)
  refine lv_aload_n hx hb d_Field_multiply_66 rfl (lv_at hl 14 rfl) ?_
  refine lv_bipush (v := nI 12) hx hb d_Field_multiply_67 (by decide) ?_
  refine q_laldS E (hk.j ha) 12 rfl (by decide) d_Field_multiply_69 (fun a28 => ?_)
  refine lv_lstore (lv' := [(28, .long a28), (26, .long a26), (24, .long a24), (22, .long a22), (20, .long a20), (18, .long a18), (16, .long a16), (14, .long a14), (12, .long a12), (10, .long a10), (8, .long a8), (6, .long a6), (4, .long a4), (0, .ref o), (1, .ref t), (2, .ref a), (3, .ref b)]) hx hb d_Field_multiply_70 hl (by decide) rfl (fun ls hl => ?_)
  refine lv_aload_n hx hb d_Field_multiply_72 rfl (lv_at hl 15 rfl) ?_
  refine lv_bipush (v := nI 13) hx hb d_Field_multiply_73 (by decide) ?_
  refine q_laldS E (hk.j ha) 13 rfl (by decide) d_Field_multiply_75 (fun a30 => ?_)
  refine lv_lstore (lv' := [(30, .long a30), (28, .long a28), (26, .long a26), (24, .long a24), (22, .long a22), (20, .long a20), (18, .long a18), (16, .long a16), (14, .long a14), (12, .long a12), (10, .long a10), (8, .long a8), (6, .long a6), (4, .long a4), (0, .ref o), (1, .ref t), (2, .ref a), (3, .ref b)]) hx hb d_Field_multiply_76 hl (by decide) rfl (fun ls hl => ?_)
  refine lv_aload_n hx hb d_Field_multiply_78 rfl (lv_at hl 14 rfl) ?_
  refine q_get (C := "KateDesk$Field") (T := T_Field) (N := 7) (ci := 1) E ((hk.fd hK hfd).1) in_Field rfl 0 (by decide) w_170 rfl rfl d_Field_multiply_79 ?_
  refine lv_astore (lv' := [(32, .ref (F 0)), (30, .long a30), (28, .long a28), (26, .long a26), (24, .long a24), (22, .long a22), (20, .long a20), (18, .long a18), (16, .long a16), (14, .long a14), (12, .long a12), (10, .long a10), (8, .long a8), (6, .long a6), (4, .long a4), (0, .ref o), (1, .ref t), (2, .ref a), (3, .ref b)]) hx hb d_Field_multiply_82 hl (by decide) rfl (fun ls hl => ?_)
  refine lv_aload hx hb d_Field_multiply_84 (lv_at hl 0 rfl) ?_
  refine lv_iconst (v := nI 0) hx hb d_Field_multiply_86 (by decide) ?_
  refine q_laldS E ((hk.fd hK hfd).2 0 (by decide)) 0 rfl (by decide) d_Field_multiply_87 (fun q33 => ?_)
  refine lv_lstore (lv' := [(33, .long q33), (32, .ref (F 0)), (30, .long a30), (28, .long a28), (26, .long a26), (24, .long a24), (22, .long a22), (20, .long a20), (18, .long a18), (16, .long a16), (14, .long a14), (12, .long a12), (10, .long a10), (8, .long a8), (6, .long a6), (4, .long a4), (0, .ref o), (1, .ref t), (2, .ref a), (3, .ref b)]) hx hb d_Field_multiply_88 hl (by decide) rfl (fun ls hl => ?_)
  refine lv_aload hx hb d_Field_multiply_90 (lv_at hl 1 rfl) ?_
  refine lv_iconst (v := nI 1) hx hb d_Field_multiply_92 (by decide) ?_
  refine q_laldS E ((hk.fd hK hfd).2 0 (by decide)) 1 rfl (by decide) d_Field_multiply_93 (fun q35 => ?_)
  refine lv_lstore (lv' := [(35, .long q35), (33, .long q33), (32, .ref (F 0)), (30, .long a30), (28, .long a28), (26, .long a26), (24, .long a24), (22, .long a22), (20, .long a20), (18, .long a18), (16, .long a16), (14, .long a14), (12, .long a12), (10, .long a10), (8, .long a8), (6, .long a6), (4, .long a4), (0, .ref o), (1, .ref t), (2, .ref a), (3, .ref b)]) hx hb d_Field_multiply_94 hl (by decide) rfl (fun ls hl => ?_)
  refine lv_aload hx hb d_Field_multiply_96 (lv_at hl 2 rfl) ?_
  refine lv_iconst (v := nI 2) hx hb d_Field_multiply_98 (by decide) ?_
  refine q_laldS E ((hk.fd hK hfd).2 0 (by decide)) 2 rfl (by decide) d_Field_multiply_99 (fun q37 => ?_)
  refine lv_lstore (lv' := [(37, .long q37), (35, .long q35), (33, .long q33), (32, .ref (F 0)), (30, .long a30), (28, .long a28), (26, .long a26), (24, .long a24), (22, .long a22), (20, .long a20), (18, .long a18), (16, .long a16), (14, .long a14), (12, .long a12), (10, .long a10), (8, .long a8), (6, .long a6), (4, .long a4), (0, .ref o), (1, .ref t), (2, .ref a), (3, .ref b)]) hx hb d_Field_multiply_100 hl (by decide) rfl (fun ls hl => ?_)
  refine lv_aload hx hb d_Field_multiply_102 (lv_at hl 3 rfl) ?_
  refine lv_iconst (v := nI 3) hx hb d_Field_multiply_104 (by decide) ?_
  refine q_laldS E ((hk.fd hK hfd).2 0 (by decide)) 3 rfl (by decide) d_Field_multiply_105 (fun q39 => ?_)
  refine lv_lstore (lv' := [(39, .long q39), (37, .long q37), (35, .long q35), (33, .long q33), (32, .ref (F 0)), (30, .long a30), (28, .long a28), (26, .long a26), (24, .long a24), (22, .long a22), (20, .long a20), (18, .long a18), (16, .long a16), (14, .long a14), (12, .long a12), (10, .long a10), (8, .long a8), (6, .long a6), (4, .long a4), (0, .ref o), (1, .ref t), (2, .ref a), (3, .ref b)]) hx hb d_Field_multiply_106 hl (by decide) rfl (fun ls hl => ?_)
  refine lv_aload hx hb d_Field_multiply_108 (lv_at hl 4 rfl) ?_
  refine lv_iconst (v := nI 4) hx hb d_Field_multiply_110 (by decide) ?_
  refine q_laldS E ((hk.fd hK hfd).2 0 (by decide)) 4 rfl (by decide) d_Field_multiply_111 (fun q41 => ?_)
  refine lv_lstore (lv' := [(41, .long q41), (39, .long q39), (37, .long q37), (35, .long q35), (33, .long q33), (32, .ref (F 0)), (30, .long a30), (28, .long a28), (26, .long a26), (24, .long a24), (22, .long a22), (20, .long a20), (18, .long a18), (16, .long a16), (14, .long a14), (12, .long a12), (10, .long a10), (8, .long a8), (6, .long a6), (4, .long a4), (0, .ref o), (1, .ref t), (2, .ref a), (3, .ref b)]) hx hb d_Field_multiply_112 hl (by decide) rfl (fun ls hl => ?_)
  refine lv_aload hx hb d_Field_multiply_114 (lv_at hl 5 rfl) ?_
  refine lv_iconst (v := nI 5) hx hb d_Field_multiply_116 (by decide) ?_
  refine q_laldS E ((hk.fd hK hfd).2 0 (by decide)) 5 rfl (by decide) d_Field_multiply_117 (fun q43 => ?_)
  refine lv_lstore (lv' := [(43, .long q43), (41, .long q41), (39, .long q39), (37, .long q37), (35, .long q35), (33, .long q33), (32, .ref (F 0)), (30, .long a30), (28, .long a28), (26, .long a26), (24, .long a24), (22, .long a22), (20, .long a20), (18, .long a18), (16, .long a16), (14, .long a14), (12, .long a12), (10, .long a10), (8, .long a8), (6, .long a6), (4, .long a4), (0, .ref o), (1, .ref t), (2, .ref a), (3, .ref b)]) hx hb d_Field_multiply_118 hl (by decide) rfl (fun ls hl => ?_)
  refine lv_aload hx hb d_Field_multiply_120 (lv_at hl 6 rfl) ?_
  refine lv_bipush (v := nI 6) hx hb d_Field_multiply_122 (by decide) ?_
  refine q_laldS E ((hk.fd hK hfd).2 0 (by decide)) 6 rfl (by decide) d_Field_multiply_124 (fun q45 => ?_)
  refine lv_lstore (lv' := [(45, .long q45), (43, .long q43), (41, .long q41), (39, .long q39), (37, .long q37), (35, .long q35), (33, .long q33), (32, .ref (F 0)), (30, .long a30), (28, .long a28), (26, .long a26), (24, .long a24), (22, .long a22), (20, .long a20), (18, .long a18), (16, .long a16), (14, .long a14), (12, .long a12), (10, .long a10), (8, .long a8), (6, .long a6), (4, .long a4), (0, .ref o), (1, .ref t), (2, .ref a), (3, .ref b)]) hx hb d_Field_multiply_125 hl (by decide) rfl (fun ls hl => ?_)
  refine lv_aload hx hb d_Field_multiply_127 (lv_at hl 7 rfl) ?_
  refine lv_bipush (v := nI 7) hx hb d_Field_multiply_129 (by decide) ?_
  refine q_laldS E ((hk.fd hK hfd).2 0 (by decide)) 7 rfl (by decide) d_Field_multiply_131 (fun q47 => ?_)
  refine lv_lstore (lv' := [(47, .long q47), (45, .long q45), (43, .long q43), (41, .long q41), (39, .long q39), (37, .long q37), (35, .long q35), (33, .long q33), (32, .ref (F 0)), (30, .long a30), (28, .long a28), (26, .long a26), (24, .long a24), (22, .long a22), (20, .long a20), (18, .long a18), (16, .long a16), (14, .long a14), (12, .long a12), (10, .long a10), (8, .long a8), (6, .long a6), (4, .long a4), (0, .ref o), (1, .ref t), (2, .ref a), (3, .ref b)]) hx hb d_Field_multiply_132 hl (by decide) rfl (fun ls hl => ?_)
  refine lv_aload hx hb d_Field_multiply_134 (lv_at hl 8 rfl) ?_
  refine lv_bipush (v := nI 8) hx hb d_Field_multiply_136 (by decide) ?_
  refine q_laldS E ((hk.fd hK hfd).2 0 (by decide)) 8 rfl (by decide) d_Field_multiply_138 (fun q49 => ?_)
  refine lv_lstore (lv' := [(49, .long q49), (47, .long q47), (45, .long q45), (43, .long q43), (41, .long q41), (39, .long q39), (37, .long q37), (35, .long q35), (33, .long q33), (32, .ref (F 0)), (30, .long a30), (28, .long a28), (26, .long a26), (24, .long a24), (22, .long a22), (20, .long a20), (18, .long a18), (16, .long a16), (14, .long a14), (12, .long a12), (10, .long a10), (8, .long a8), (6, .long a6), (4, .long a4), (0, .ref o), (1, .ref t), (2, .ref a), (3, .ref b)]) hx hb d_Field_multiply_139 hl (by decide) rfl (fun ls hl => ?_)
  refine lv_aload hx hb d_Field_multiply_141 (lv_at hl 9 rfl) ?_
  refine lv_bipush (v := nI 9) hx hb d_Field_multiply_143 (by decide) ?_
  refine q_laldS E ((hk.fd hK hfd).2 0 (by decide)) 9 rfl (by decide) d_Field_multiply_145 (fun q51 => ?_)
  refine lv_lstore (lv' := [(51, .long q51), (49, .long q49), (47, .long q47), (45, .long q45), (43, .long q43), (41, .long q41), (39, .long q39), (37, .long q37), (35, .long q35), (33, .long q33), (32, .ref (F 0)), (30, .long a30), (28, .long a28), (26, .long a26), (24, .long a24), (22, .long a22), (20, .long a20), (18, .long a18), (16, .long a16), (14, .long a14), (12, .long a12), (10, .long a10), (8, .long a8), (6, .long a6), (4, .long a4), (0, .ref o), (1, .ref t), (2, .ref a), (3, .ref b)]) hx hb d_Field_multiply_146 hl (by decide) rfl (fun ls hl => ?_)
  refine lv_aload hx hb d_Field_multiply_148 (lv_at hl 10 rfl) ?_
  refine lv_bipush (v := nI 10) hx hb d_Field_multiply_150 (by decide) ?_
  refine q_laldS E ((hk.fd hK hfd).2 0 (by decide)) 10 rfl (by decide) d_Field_multiply_152 (fun q53 => ?_)
  refine lv_lstore (lv' := [(53, .long q53), (51, .long q51), (49, .long q49), (47, .long q47), (45, .long q45), (43, .long q43), (41, .long q41), (39, .long q39), (37, .long q37), (35, .long q35), (33, .long q33), (32, .ref (F 0)), (30, .long a30), (28, .long a28), (26, .long a26), (24, .long a24), (22, .long a22), (20, .long a20), (18, .long a18), (16, .long a16), (14, .long a14), (12, .long a12), (10, .long a10), (8, .long a8), (6, .long a6), (4, .long a4), (0, .ref o), (1, .ref t), (2, .ref a), (3, .ref b)]) hx hb d_Field_multiply_153 hl (by decide) rfl (fun ls hl => ?_)
  refine lv_aload hx hb d_Field_multiply_155 (lv_at hl 11 rfl) ?_
  refine lv_bipush (v := nI 11) hx hb d_Field_multiply_157 (by decide) ?_
  refine q_laldS E ((hk.fd hK hfd).2 0 (by decide)) 11 rfl (by decide) d_Field_multiply_159 (fun q55 => ?_)
  refine lv_lstore (lv' := [(55, .long q55), (53, .long q53), (51, .long q51), (49, .long q49), (47, .long q47), (45, .long q45), (43, .long q43), (41, .long q41), (39, .long q39), (37, .long q37), (35, .long q35), (33, .long q33), (32, .ref (F 0)), (30, .long a30), (28, .long a28), (26, .long a26), (24, .long a24), (22, .long a22), (20, .long a20), (18, .long a18), (16, .long a16), (14, .long a14), (12, .long a12), (10, .long a10), (8, .long a8), (6, .long a6), (4, .long a4), (0, .ref o), (1, .ref t), (2, .ref a), (3, .ref b)]) hx hb d_Field_multiply_160 hl (by decide) rfl (fun ls hl => ?_)
  refine lv_aload hx hb d_Field_multiply_162 (lv_at hl 12 rfl) ?_
  refine lv_bipush (v := nI 12) hx hb d_Field_multiply_164 (by decide) ?_
  refine q_laldS E ((hk.fd hK hfd).2 0 (by decide)) 12 rfl (by decide) d_Field_multiply_166 (fun q57 => ?_)
  refine lv_lstore (lv' := [(57, .long q57), (55, .long q55), (53, .long q53), (51, .long q51), (49, .long q49), (47, .long q47), (45, .long q45), (43, .long q43), (41, .long q41), (39, .long q39), (37, .long q37), (35, .long q35), (33, .long q33), (32, .ref (F 0)), (30, .long a30), (28, .long a28), (26, .long a26), (24, .long a24), (22, .long a22), (20, .long a20), (18, .long a18), (16, .long a16), (14, .long a14), (12, .long a12), (10, .long a10), (8, .long a8), (6, .long a6), (4, .long a4), (0, .ref o), (1, .ref t), (2, .ref a), (3, .ref b)]) hx hb d_Field_multiply_167 hl (by decide) rfl (fun ls hl => ?_)
  refine lv_aload hx hb d_Field_multiply_169 (lv_at hl 13 rfl) ?_
  refine lv_bipush (v := nI 13) hx hb d_Field_multiply_171 (by decide) ?_
  refine q_laldS E ((hk.fd hK hfd).2 0 (by decide)) 13 rfl (by decide) d_Field_multiply_173 (fun q59 => ?_)
  refine lv_lstore (lv' := [(59, .long q59), (57, .long q57), (55, .long q55), (53, .long q53), (51, .long q51), (49, .long q49), (47, .long q47), (45, .long q45), (43, .long q43), (41, .long q41), (39, .long q39), (37, .long q37), (35, .long q35), (33, .long q33), (32, .ref (F 0)), (30, .long a30), (28, .long a28), (26, .long a26), (24, .long a24), (22, .long a22), (20, .long a20), (18, .long a18), (16, .long a16), (14, .long a14), (12, .long a12), (10, .long a10), (8, .long a8), (6, .long a6), (4, .long a4), (0, .ref o), (1, .ref t), (2, .ref a), (3, .ref b)]) hx hb d_Field_multiply_174 hl (by decide) rfl (fun ls hl => ?_)
  refine lv_lconst (v := 0) hx hb d_Field_multiply_176 (by decide) ?_
  refine lv_lstore (lv' := [(61, .long 0), (59, .long q59), (57, .long q57), (55, .long q55), (53, .long q53), (51, .long q51), (49, .long q49), (47, .long q47), (45, .long q45), (43, .long q43), (41, .long q41), (39, .long q39), (37, .long q37), (35, .long q35), (33, .long q33), (32, .ref (F 0)), (30, .long a30), (28, .long a28), (26, .long a26), (24, .long a24), (22, .long a22), (20, .long a20), (18, .long a18), (16, .long a16), (14, .long a14), (12, .long a12), (10, .long a10), (8, .long a8), (6, .long a6), (4, .long a4), (0, .ref o), (1, .ref t), (2, .ref a), (3, .ref b)]) hx hb d_Field_multiply_177 hl (by decide) rfl (fun ls hl => ?_)
  refine lv_lconst (v := 0) hx hb d_Field_multiply_179 (by decide) ?_
  refine lv_lstore (lv' := [(63, .long 0), (61, .long 0), (59, .long q59), (57, .long q57), (55, .long q55), (53, .long q53), (51, .long q51), (49, .long q49), (47, .long q47), (45, .long q45), (43, .long q43), (41, .long q41), (39, .long q39), (37, .long q37), (35, .long q35), (33, .long q33), (32, .ref (F 0)), (30, .long a30), (28, .long a28), (26, .long a26), (24, .long a24), (22, .long a22), (20, .long a20), (18, .long a18), (16, .long a16), (14, .long a14), (12, .long a12), (10, .long a10), (8, .long a8), (6, .long a6), (4, .long a4), (0, .ref o), (1, .ref t), (2, .ref a), (3, .ref b)]) hx hb d_Field_multiply_180 hl (by decide) rfl (fun ls hl => ?_)
  refine lv_lconst (v := 0) hx hb d_Field_multiply_182 (by decide) ?_
  refine lv_lstore (lv' := [(65, .long 0), (63, .long 0), (61, .long 0), (59, .long q59), (57, .long q57), (55, .long q55), (53, .long q53), (51, .long q51), (49, .long q49), (47, .long q47), (45, .long q45), (43, .long q43), (41, .long q41), (39, .long q39), (37, .long q37), (35, .long q35), (33, .long q33), (32, .ref (F 0)), (30, .long a30), (28, .long a28), (26, .long a26), (24, .long a24), (22, .long a22), (20, .long a20), (18, .long a18), (16, .long a16), (14, .long a14), (12, .long a12), (10, .long a10), (8, .long a8), (6, .long a6), (4, .long a4), (0, .ref o), (1, .ref t), (2, .ref a), (3, .ref b)]) hx hb d_Field_multiply_183 hl (by decide) rfl (fun ls hl => ?_)
  refine lv_lconst (v := 0) hx hb d_Field_multiply_185 (by decide) ?_
  refine lv_lstore (lv' := [(67, .long 0), (65, .long 0), (63, .long 0), (61, .long 0), (59, .long q59), (57, .long q57), (55, .long q55), (53, .long q53), (51, .long q51), (49, .long q49), (47, .long q47), (45, .long q45), (43, .long q43), (41, .long q41), (39, .long q39), (37, .long q37), (35, .long q35), (33, .long q33), (32, .ref (F 0)), (30, .long a30), (28, .long a28), (26, .long a26), (24, .long a24), (22, .long a22), (20, .long a20), (18, .long a18), (16, .long a16), (14, .long a14), (12, .long a12), (10, .long a10), (8, .long a8), (6, .long a6), (4, .long a4), (0, .ref o), (1, .ref t), (2, .ref a), (3, .ref b)]) hx hb d_Field_multiply_186 hl (by decide) rfl (fun ls hl => ?_)
  refine lv_lconst (v := 0) hx hb d_Field_multiply_188 (by decide) ?_
  refine lv_lstore (lv' := [(69, .long 0), (67, .long 0), (65, .long 0), (63, .long 0), (61, .long 0), (59, .long q59), (57, .long q57), (55, .long q55), (53, .long q53), (51, .long q51), (49, .long q49), (47, .long q47), (45, .long q45), (43, .long q43), (41, .long q41), (39, .long q39), (37, .long q37), (35, .long q35), (33, .long q33), (32, .ref (F 0)), (30, .long a30), (28, .long a28), (26, .long a26), (24, .long a24), (22, .long a22), (20, .long a20), (18, .long a18), (16, .long a16), (14, .long a14), (12, .long a12), (10, .long a10), (8, .long a8), (6, .long a6), (4, .long a4), (0, .ref o), (1, .ref t), (2, .ref a), (3, .ref b)]) hx hb d_Field_multiply_189 hl (by decide) rfl (fun ls hl => ?_)
  refine lv_lconst (v := 0) hx hb d_Field_multiply_191 (by decide) ?_
  refine lv_lstore (lv' := [(71, .long 0), (69, .long 0), (67, .long 0), (65, .long 0), (63, .long 0), (61, .long 0), (59, .long q59), (57, .long q57), (55, .long q55), (53, .long q53), (51, .long q51), (49, .long q49), (47, .long q47), (45, .long q45), (43, .long q43), (41, .long q41), (39, .long q39), (37, .long q37), (35, .long q35), (33, .long q33), (32, .ref (F 0)), (30, .long a30), (28, .long a28), (26, .long a26), (24, .long a24), (22, .long a22), (20, .long a20), (18, .long a18), (16, .long a16), (14, .long a14), (12, .long a12), (10, .long a10), (8, .long a8), (6, .long a6), (4, .long a4), (0, .ref o), (1, .ref t), (2, .ref a), (3, .ref b)]) hx hb d_Field_multiply_192 hl (by decide) rfl (fun ls hl => ?_)
  refine lv_lconst (v := 0) hx hb d_Field_multiply_194 (by decide) ?_
  refine lv_lstore (lv' := [(73, .long 0), (71, .long 0), (69, .long 0), (67, .long 0), (65, .long 0), (63, .long 0), (61, .long 0), (59, .long q59), (57, .long q57), (55, .long q55), (53, .long q53), (51, .long q51), (49, .long q49), (47, .long q47), (45, .long q45), (43, .long q43), (41, .long q41), (39, .long q39), (37, .long q37), (35, .long q35), (33, .long q33), (32, .ref (F 0)), (30, .long a30), (28, .long a28), (26, .long a26), (24, .long a24), (22, .long a22), (20, .long a20), (18, .long a18), (16, .long a16), (14, .long a14), (12, .long a12), (10, .long a10), (8, .long a8), (6, .long a6), (4, .long a4), (0, .ref o), (1, .ref t), (2, .ref a), (3, .ref b)]) hx hb d_Field_multiply_195 hl (by decide) rfl (fun ls hl => ?_)
  refine lv_lconst (v := 0) hx hb d_Field_multiply_197 (by decide) ?_
  refine lv_lstore (lv' := [(75, .long 0), (73, .long 0), (71, .long 0), (69, .long 0), (67, .long 0), (65, .long 0), (63, .long 0), (61, .long 0), (59, .long q59), (57, .long q57), (55, .long q55), (53, .long q53), (51, .long q51), (49, .long q49), (47, .long q47), (45, .long q45), (43, .long q43), (41, .long q41), (39, .long q39), (37, .long q37), (35, .long q35), (33, .long q33), (32, .ref (F 0)), (30, .long a30), (28, .long a28), (26, .long a26), (24, .long a24), (22, .long a22), (20, .long a20), (18, .long a18), (16, .long a16), (14, .long a14), (12, .long a12), (10, .long a10), (8, .long a8), (6, .long a6), (4, .long a4), (0, .ref o), (1, .ref t), (2, .ref a), (3, .ref b)]) hx hb d_Field_multiply_198 hl (by decide) rfl (fun ls hl => ?_)
  refine lv_lconst (v := 0) hx hb d_Field_multiply_200 (by decide) ?_
  refine lv_lstore (lv' := [(77, .long 0), (75, .long 0), (73, .long 0), (71, .long 0), (69, .long 0), (67, .long 0), (65, .long 0), (63, .long 0), (61, .long 0), (59, .long q59), (57, .long q57), (55, .long q55), (53, .long q53), (51, .long q51), (49, .long q49), (47, .long q47), (45, .long q45), (43, .long q43), (41, .long q41), (39, .long q39), (37, .long q37), (35, .long q35), (33, .long q33), (32, .ref (F 0)), (30, .long a30), (28, .long a28), (26, .long a26), (24, .long a24), (22, .long a22), (20, .long a20), (18, .long a18), (16, .long a16), (14, .long a14), (12, .long a12), (10, .long a10), (8, .long a8), (6, .long a6), (4, .long a4), (0, .ref o), (1, .ref t), (2, .ref a), (3, .ref b)]) hx hb d_Field_multiply_201 hl (by decide) rfl (fun ls hl => ?_)
  refine lv_lconst (v := 0) hx hb d_Field_multiply_203 (by decide) ?_
  refine lv_lstore (lv' := [(79, .long 0), (77, .long 0), (75, .long 0), (73, .long 0), (71, .long 0), (69, .long 0), (67, .long 0), (65, .long 0), (63, .long 0), (61, .long 0), (59, .long q59), (57, .long q57), (55, .long q55), (53, .long q53), (51, .long q51), (49, .long q49), (47, .long q47), (45, .long q45), (43, .long q43), (41, .long q41), (39, .long q39), (37, .long q37), (35, .long q35), (33, .long q33), (32, .ref (F 0)), (30, .long a30), (28, .long a28), (26, .long a26), (24, .long a24), (22, .long a22), (20, .long a20), (18, .long a18), (16, .long a16), (14, .long a14), (12, .long a12), (10, .long a10), (8, .long a8), (6, .long a6), (4, .long a4), (0, .ref o), (1, .ref t), (2, .ref a), (3, .ref b)]) hx hb d_Field_multiply_204 hl (by decide) rfl (fun ls hl => ?_)
  refine lv_lconst (v := 0) hx hb d_Field_multiply_206 (by decide) ?_
  refine lv_lstore (lv' := [(81, .long 0), (79, .long 0), (77, .long 0), (75, .long 0), (73, .long 0), (71, .long 0), (69, .long 0), (67, .long 0), (65, .long 0), (63, .long 0), (61, .long 0), (59, .long q59), (57, .long q57), (55, .long q55), (53, .long q53), (51, .long q51), (49, .long q49), (47, .long q47), (45, .long q45), (43, .long q43), (41, .long q41), (39, .long q39), (37, .long q37), (35, .long q35), (33, .long q33), (32, .ref (F 0)), (30, .long a30), (28, .long a28), (26, .long a26), (24, .long a24), (22, .long a22), (20, .long a20), (18, .long a18), (16, .long a16), (14, .long a14), (12, .long a12), (10, .long a10), (8, .long a8), (6, .long a6), (4, .long a4), (0, .ref o), (1, .ref t), (2, .ref a), (3, .ref b)]) hx hb d_Field_multiply_207 hl (by decide) rfl (fun ls hl => ?_)
  refine lv_lconst (v := 0) hx hb d_Field_multiply_209 (by decide) ?_
  refine lv_lstore (lv' := [(83, .long 0), (81, .long 0), (79, .long 0), (77, .long 0), (75, .long 0), (73, .long 0), (71, .long 0), (69, .long 0), (67, .long 0), (65, .long 0), (63, .long 0), (61, .long 0), (59, .long q59), (57, .long q57), (55, .long q55), (53, .long q53), (51, .long q51), (49, .long q49), (47, .long q47), (45, .long q45), (43, .long q43), (41, .long q41), (39, .long q39), (37, .long q37), (35, .long q35), (33, .long q33), (32, .ref (F 0)), (30, .long a30), (28, .long a28), (26, .long a26), (24, .long a24), (22, .long a22), (20, .long a20), (18, .long a18), (16, .long a16), (14, .long a14), (12, .long a12), (10, .long a10), (8, .long a8), (6, .long a6), (4, .long a4), (0, .ref o), (1, .ref t), (2, .ref a), (3, .ref b)]) hx hb d_Field_multiply_210 hl (by decide) rfl (fun ls hl => ?_)
  refine lv_lconst (v := 0) hx hb d_Field_multiply_212 (by decide) ?_
  refine lv_lstore (lv' := [(85, .long 0), (83, .long 0), (81, .long 0), (79, .long 0), (77, .long 0), (75, .long 0), (73, .long 0), (71, .long 0), (69, .long 0), (67, .long 0), (65, .long 0), (63, .long 0), (61, .long 0), (59, .long q59), (57, .long q57), (55, .long q55), (53, .long q53), (51, .long q51), (49, .long q49), (47, .long q47), (45, .long q45), (43, .long q43), (41, .long q41), (39, .long q39), (37, .long q37), (35, .long q35), (33, .long q33), (32, .ref (F 0)), (30, .long a30), (28, .long a28), (26, .long a26), (24, .long a24), (22, .long a22), (20, .long a20), (18, .long a18), (16, .long a16), (14, .long a14), (12, .long a12), (10, .long a10), (8, .long a8), (6, .long a6), (4, .long a4), (0, .ref o), (1, .ref t), (2, .ref a), (3, .ref b)]) hx hb d_Field_multiply_213 hl (by decide) rfl (fun ls hl => ?_)
  refine lv_iconst (v := nI 0) hx hb d_Field_multiply_215 (by decide) ?_
  refine lv_istore (lv' := [(87, .int (nI 0)), (85, .long 0), (83, .long 0), (81, .long 0), (79, .long 0), (77, .long 0), (75, .long 0), (73, .long 0), (71, .long 0), (69, .long 0), (67, .long 0), (65, .long 0), (63, .long 0), (61, .long 0), (59, .long q59), (57, .long q57), (55, .long q55), (53, .long q53), (51, .long q51), (49, .long q49), (47, .long q47), (45, .long q45), (43, .long q43), (41, .long q41), (39, .long q39), (37, .long q37), (35, .long q35), (33, .long q33), (32, .ref (F 0)), (30, .long a30), (28, .long a28), (26, .long a26), (24, .long a24), (22, .long a22), (20, .long a20), (18, .long a18), (16, .long a16), (14, .long a14), (12, .long a12), (10, .long a10), (8, .long a8), (6, .long a6), (4, .long a4), (0, .ref o), (1, .ref t), (2, .ref a), (3, .ref b)]) hx hb d_Field_multiply_216 hl (by decide) rfl (fun ls hl => ?_)
  have loop : ∀ (k : Nat) (i : Nat) (ls : Array Slot), i + k = 14 → lv_has ls 92 [(87, .int (nI i)), (61, .long 0), (63, .long 0), (65, .long 0), (67, .long 0), (69, .long 0), (71, .long 0), (73, .long 0), (75, .long 0), (77, .long 0), (79, .long 0), (81, .long 0), (83, .long 0), (85, .long 0), (0, .ref o), (1, .ref t), (3, .ref b), (4, .long a4), (6, .long a6), (8, .long a8), (10, .long a10), (12, .long a12), (14, .long a14), (16, .long a16), (18, .long a18), (20, .long a20), (22, .long a22), (24, .long a24), (26, .long a26), (28, .long a28), (30, .long a30), (33, .long q33), (35, .long q35), (37, .long q37), (39, .long q39), (41, .long q41), (43, .long q43), (45, .long q45), (47, .long q47), (49, .long q49), (51, .long q51), (53, .long q53), (55, .long q55), (57, .long q57), (59, .long q59)] → W p l e { frames := 1, cells := 0, slots := 0, locals := 24 } s m [.ref o, .ref t, .ref a, .ref b].toArray below meth c s.heap [] 0 0 (MQ below (QcP (QV (fun H H' => KJ g (fun q => q = t) H H' ∧ AJ g H' t 14 (fun _ => 0)))) [.ref o, .ref t, .ref a, .ref b].toArray s 0 0 (fun q => n0 q)) (F0 m 218 ls []) := by
    intro k
    induction k with
    | zero =>
      intro  i   ls hi hl
      obtain rfl : i = 14 := by omega
      refine lv_iload hx hb d_Field_multiply_218 (lv_at hl 0 rfl) ?_
      refine lv_bipush (v := nI 14) hx hb d_Field_multiply_220 (by decide) ?_
      refine lv_icmp_ge (tgt := 477) hx hb d_Field_multiply_222 (by decide) (fun _ => ?_) (fun h9 => absurd (by decide) h9)
      obtain ⟨ht0, f9, hf9⟩ := ht
      have hv9 : ∀ j, j < 0 → f9 j = 0 := fun j hj => absurd hj (Nat.not_lt_zero _)
      refine lv_aload_n hx hb d_Field_multiply_477 rfl (lv_at hl 15 rfl) ?_
      refine lv_iconst (v := nI 0) hx hb d_Field_multiply_478 (by decide) ?_
      refine lv_lload hx hb d_Field_multiply_479 (lv_at hl 1 rfl) ?_
      refine lv_ldc2 (v := 268435455) hx hb E.2.2.2.1 (E.2.2.2.2.1 _ w_143) d_Field_multiply_481 ?_
      refine lv_land hx hb d_Field_multiply_484 ?_
      refine lv_topl (fun t9 e9 => ?_)
      obtain rfl : t9 = 0 := e9.trans (by decide)
      refine q_last E hf9 ht0 hF 0 rfl (by decide) (by decide) d_Field_multiply_485 (fun H1 locs hq hf9 hF => ?_)
      have hk := hk.tr hq
      have hv9 := updL_z hv9
      refine lv_aload_n hx hb d_Field_multiply_486 rfl (lv_at hl 15 rfl) ?_
      refine lv_iconst (v := nI 1) hx hb d_Field_multiply_487 (by decide) ?_
      refine lv_lload hx hb d_Field_multiply_488 (lv_at hl 2 rfl) ?_
      refine lv_lload hx hb d_Field_multiply_490 (lv_at hl 1 rfl) ?_
      refine lv_bipush (v := nI 28) hx hb d_Field_multiply_492 (by decide) ?_
      refine lv_lshr (v := 0 >>> ((nI 28).toInt64 &&& 63)) hx hb d_Field_multiply_494 rfl ?_
      refine lv_ladd hx hb d_Field_multiply_495 ?_
      refine lv_topl (fun t9 e9 => ?_)
      obtain rfl : t9 = 0 := e9.trans (by decide)
      refine lv_dup2_2 hx hb d_Field_multiply_496 rfl ?_
      refine lv_lstore (lv' := [(63, .long 0), (87, .int (nI 14)), (61, .long 0), (65, .long 0), (67, .long 0), (69, .long 0), (71, .long 0), (73, .long 0), (75, .long 0), (77, .long 0), (79, .long 0), (81, .long 0), (83, .long 0), (85, .long 0), (0, .ref o), (1, .ref t), (3, .ref b), (4, .long a4), (6, .long a6), (8, .long a8), (10, .long a10), (12, .long a12), (14, .long a14), (16, .long a16), (18, .long a18), (20, .long a20), (22, .long a22), (24, .long a24), (26, .long a26), (28, .long a28), (30, .long a30), (33, .long q33), (35, .long q35), (37, .long q37), (39, .long q39), (41, .long q41), (43, .long q43), (45, .long q45), (47, .long q47), (49, .long q49), (51, .long q51), (53, .long q53), (55, .long q55), (57, .long q57), (59, .long q59)]) hx hb d_Field_multiply_497 hl (by decide) rfl (fun ls hl => ?_)
      refine lv_ldc2 (v := 268435455) hx hb E.2.2.2.1 (E.2.2.2.2.1 _ w_143) d_Field_multiply_499 ?_
      refine lv_land hx hb d_Field_multiply_502 ?_
      refine lv_topl (fun t9 e9 => ?_)
      obtain rfl : t9 = 0 := e9.trans (by decide)
      refine q_last E hf9 ht0 hF 1 rfl (by decide) (by decide) d_Field_multiply_503 (fun H2 locs hq hf9 hF => ?_)
      have hk := hk.tr hq
      have hv9 := updL_z hv9
      refine lv_aload_n hx hb d_Field_multiply_504 rfl (lv_at hl 15 rfl) ?_
      refine lv_iconst (v := nI 2) hx hb d_Field_multiply_505 (by decide) ?_
      refine lv_lload hx hb d_Field_multiply_506 (lv_at hl 3 rfl) ?_
      refine lv_lload hx hb d_Field_multiply_508 (lv_at hl 0 rfl) ?_
      refine lv_bipush (v := nI 28) hx hb d_Field_multiply_510 (by decide) ?_
      refine lv_lshr (v := 0 >>> ((nI 28).toInt64 &&& 63)) hx hb d_Field_multiply_512 rfl ?_
      refine lv_ladd hx hb d_Field_multiply_513 ?_
      refine lv_topl (fun t9 e9 => ?_)
      obtain rfl : t9 = 0 := e9.trans (by decide)
      refine lv_dup2_2 hx hb d_Field_multiply_514 rfl ?_
      refine lv_lstore (lv' := [(65, .long 0), (63, .long 0), (87, .int (nI 14)), (61, .long 0), (67, .long 0), (69, .long 0), (71, .long 0), (73, .long 0), (75, .long 0), (77, .long 0), (79, .long 0), (81, .long 0), (83, .long 0), (85, .long 0), (0, .ref o), (1, .ref t), (3, .ref b), (4, .long a4), (6, .long a6), (8, .long a8), (10, .long a10), (12, .long a12), (14, .long a14), (16, .long a16), (18, .long a18), (20, .long a20), (22, .long a22), (24, .long a24), (26, .long a26), (28, .long a28), (30, .long a30), (33, .long q33), (35, .long q35), (37, .long q37), (39, .long q39), (41, .long q41), (43, .long q43), (45, .long q45), (47, .long q47), (49, .long q49), (51, .long q51), (53, .long q53), (55, .long q55), (57, .long q57), (59, .long q59)]) hx hb d_Field_multiply_515 hl (by decide) rfl (fun ls hl => ?_)
      refine lv_ldc2 (v := 268435455) hx hb E.2.2.2.1 (E.2.2.2.2.1 _ w_143) d_Field_multiply_517 ?_
      refine lv_land hx hb d_Field_multiply_520 ?_
      refine lv_topl (fun t9 e9 => ?_)
      obtain rfl : t9 = 0 := e9.trans (by decide)
      refine q_last E hf9 ht0 hF 2 rfl (by decide) (by decide) d_Field_multiply_521 (fun H3 locs hq hf9 hF => ?_)
      have hk := hk.tr hq
      have hv9 := updL_z hv9
      refine lv_aload_n hx hb d_Field_multiply_522 rfl (lv_at hl 15 rfl) ?_
      refine lv_iconst (v := nI 3) hx hb d_Field_multiply_523 (by decide) ?_
      refine lv_lload hx hb d_Field_multiply_524 (lv_at hl 4 rfl) ?_
      refine lv_lload hx hb d_Field_multiply_526 (lv_at hl 0 rfl) ?_
      refine lv_bipush (v := nI 28) hx hb d_Field_multiply_528 (by decide) ?_
      refine lv_lshr (v := 0 >>> ((nI 28).toInt64 &&& 63)) hx hb d_Field_multiply_530 rfl ?_
      refine lv_ladd hx hb d_Field_multiply_531 ?_
      refine lv_topl (fun t9 e9 => ?_)
      obtain rfl : t9 = 0 := e9.trans (by decide)
      refine lv_dup2_2 hx hb d_Field_multiply_532 rfl ?_
      refine lv_lstore (lv' := [(67, .long 0), (65, .long 0), (63, .long 0), (87, .int (nI 14)), (61, .long 0), (69, .long 0), (71, .long 0), (73, .long 0), (75, .long 0), (77, .long 0), (79, .long 0), (81, .long 0), (83, .long 0), (85, .long 0), (0, .ref o), (1, .ref t), (3, .ref b), (4, .long a4), (6, .long a6), (8, .long a8), (10, .long a10), (12, .long a12), (14, .long a14), (16, .long a16), (18, .long a18), (20, .long a20), (22, .long a22), (24, .long a24), (26, .long a26), (28, .long a28), (30, .long a30), (33, .long q33), (35, .long q35), (37, .long q37), (39, .long q39), (41, .long q41), (43, .long q43), (45, .long q45), (47, .long q47), (49, .long q49), (51, .long q51), (53, .long q53), (55, .long q55), (57, .long q57), (59, .long q59)]) hx hb d_Field_multiply_533 hl (by decide) rfl (fun ls hl => ?_)
      refine lv_ldc2 (v := 268435455) hx hb E.2.2.2.1 (E.2.2.2.2.1 _ w_143) d_Field_multiply_535 ?_
      refine lv_land hx hb d_Field_multiply_538 ?_
      refine lv_topl (fun t9 e9 => ?_)
      obtain rfl : t9 = 0 := e9.trans (by decide)
      refine q_last E hf9 ht0 hF 3 rfl (by decide) (by decide) d_Field_multiply_539 (fun H4 locs hq hf9 hF => ?_)
      have hk := hk.tr hq
      have hv9 := updL_z hv9
      refine lv_aload_n hx hb d_Field_multiply_540 rfl (lv_at hl 15 rfl) ?_
      refine lv_iconst (v := nI 4) hx hb d_Field_multiply_541 (by decide) ?_
      refine lv_lload hx hb d_Field_multiply_542 (lv_at hl 5 rfl) ?_
      refine lv_lload hx hb d_Field_multiply_544 (lv_at hl 0 rfl) ?_
      refine lv_bipush (v := nI 28) hx hb d_Field_multiply_546 (by decide) ?_
      refine lv_lshr (v := 0 >>> ((nI 28).toInt64 &&& 63)) hx hb d_Field_multiply_548 rfl ?_
      refine lv_ladd hx hb d_Field_multiply_549 ?_
      refine lv_topl (fun t9 e9 => ?_)
      obtain rfl : t9 = 0 := e9.trans (by decide)
      refine lv_dup2_2 hx hb d_Field_multiply_550 rfl ?_
      refine lv_lstore (lv' := [(69, .long 0), (67, .long 0), (65, .long 0), (63, .long 0), (87, .int (nI 14)), (61, .long 0), (71, .long 0), (73, .long 0), (75, .long 0), (77, .long 0), (79, .long 0), (81, .long 0), (83, .long 0), (85, .long 0), (0, .ref o), (1, .ref t), (3, .ref b), (4, .long a4), (6, .long a6), (8, .long a8), (10, .long a10), (12, .long a12), (14, .long a14), (16, .long a16), (18, .long a18), (20, .long a20), (22, .long a22), (24, .long a24), (26, .long a26), (28, .long a28), (30, .long a30), (33, .long q33), (35, .long q35), (37, .long q37), (39, .long q39), (41, .long q41), (43, .long q43), (45, .long q45), (47, .long q47), (49, .long q49), (51, .long q51), (53, .long q53), (55, .long q55), (57, .long q57), (59, .long q59)]) hx hb d_Field_multiply_551 hl (by decide) rfl (fun ls hl => ?_)
      refine lv_ldc2 (v := 268435455) hx hb E.2.2.2.1 (E.2.2.2.2.1 _ w_143) d_Field_multiply_553 ?_
      refine lv_land hx hb d_Field_multiply_556 ?_
      refine lv_topl (fun t9 e9 => ?_)
      obtain rfl : t9 = 0 := e9.trans (by decide)
      refine q_last E hf9 ht0 hF 4 rfl (by decide) (by decide) d_Field_multiply_557 (fun H5 locs hq hf9 hF => ?_)
      have hk := hk.tr hq
      have hv9 := updL_z hv9
      refine lv_aload_n hx hb d_Field_multiply_558 rfl (lv_at hl 15 rfl) ?_
      refine lv_iconst (v := nI 5) hx hb d_Field_multiply_559 (by decide) ?_
      refine lv_lload hx hb d_Field_multiply_560 (lv_at hl 6 rfl) ?_
      refine lv_lload hx hb d_Field_multiply_562 (lv_at hl 0 rfl) ?_
      refine lv_bipush (v := nI 28) hx hb d_Field_multiply_564 (by decide) ?_
      refine lv_lshr (v := 0 >>> ((nI 28).toInt64 &&& 63)) hx hb d_Field_multiply_566 rfl ?_
      refine lv_ladd hx hb d_Field_multiply_567 ?_
      refine lv_topl (fun t9 e9 => ?_)
      obtain rfl : t9 = 0 := e9.trans (by decide)
      refine lv_dup2_2 hx hb d_Field_multiply_568 rfl ?_
      refine lv_lstore (lv' := [(71, .long 0), (69, .long 0), (67, .long 0), (65, .long 0), (63, .long 0), (87, .int (nI 14)), (61, .long 0), (73, .long 0), (75, .long 0), (77, .long 0), (79, .long 0), (81, .long 0), (83, .long 0), (85, .long 0), (0, .ref o), (1, .ref t), (3, .ref b), (4, .long a4), (6, .long a6), (8, .long a8), (10, .long a10), (12, .long a12), (14, .long a14), (16, .long a16), (18, .long a18), (20, .long a20), (22, .long a22), (24, .long a24), (26, .long a26), (28, .long a28), (30, .long a30), (33, .long q33), (35, .long q35), (37, .long q37), (39, .long q39), (41, .long q41), (43, .long q43), (45, .long q45), (47, .long q47), (49, .long q49), (51, .long q51), (53, .long q53), (55, .long q55), (57, .long q57), (59, .long q59)]) hx hb d_Field_multiply_569 hl (by decide) rfl (fun ls hl => ?_)
      refine lv_ldc2 (v := 268435455) hx hb E.2.2.2.1 (E.2.2.2.2.1 _ w_143) d_Field_multiply_571 ?_
      refine lv_land hx hb d_Field_multiply_574 ?_
      refine lv_topl (fun t9 e9 => ?_)
      obtain rfl : t9 = 0 := e9.trans (by decide)
      refine q_last E hf9 ht0 hF 5 rfl (by decide) (by decide) d_Field_multiply_575 (fun H6 locs hq hf9 hF => ?_)
      have hk := hk.tr hq
      have hv9 := updL_z hv9
      refine lv_aload_n hx hb d_Field_multiply_576 rfl (lv_at hl 15 rfl) ?_
      refine lv_bipush (v := nI 6) hx hb d_Field_multiply_577 (by decide) ?_
      refine lv_lload hx hb d_Field_multiply_579 (lv_at hl 7 rfl) ?_
      refine lv_lload hx hb d_Field_multiply_581 (lv_at hl 0 rfl) ?_
      refine lv_bipush (v := nI 28) hx hb d_Field_multiply_583 (by decide) ?_
      refine lv_lshr (v := 0 >>> ((nI 28).toInt64 &&& 63)) hx hb d_Field_multiply_585 rfl ?_
      refine lv_ladd hx hb d_Field_multiply_586 ?_
      refine lv_topl (fun t9 e9 => ?_)
      obtain rfl : t9 = 0 := e9.trans (by decide)
      refine lv_dup2_2 hx hb d_Field_multiply_587 rfl ?_
      refine lv_lstore (lv' := [(73, .long 0), (71, .long 0), (69, .long 0), (67, .long 0), (65, .long 0), (63, .long 0), (87, .int (nI 14)), (61, .long 0), (75, .long 0), (77, .long 0), (79, .long 0), (81, .long 0), (83, .long 0), (85, .long 0), (0, .ref o), (1, .ref t), (3, .ref b), (4, .long a4), (6, .long a6), (8, .long a8), (10, .long a10), (12, .long a12), (14, .long a14), (16, .long a16), (18, .long a18), (20, .long a20), (22, .long a22), (24, .long a24), (26, .long a26), (28, .long a28), (30, .long a30), (33, .long q33), (35, .long q35), (37, .long q37), (39, .long q39), (41, .long q41), (43, .long q43), (45, .long q45), (47, .long q47), (49, .long q49), (51, .long q51), (53, .long q53), (55, .long q55), (57, .long q57), (59, .long q59)]) hx hb d_Field_multiply_588 hl (by decide) rfl (fun ls hl => ?_)
      refine lv_ldc2 (v := 268435455) hx hb E.2.2.2.1 (E.2.2.2.2.1 _ w_143) d_Field_multiply_590 ?_
      refine lv_land hx hb d_Field_multiply_593 ?_
      refine lv_topl (fun t9 e9 => ?_)
      obtain rfl : t9 = 0 := e9.trans (by decide)
      refine q_last E hf9 ht0 hF 6 rfl (by decide) (by decide) d_Field_multiply_594 (fun H7 locs hq hf9 hF => ?_)
      have hk := hk.tr hq
      have hv9 := updL_z hv9
      refine lv_aload_n hx hb d_Field_multiply_595 rfl (lv_at hl 15 rfl) ?_
      refine lv_bipush (v := nI 7) hx hb d_Field_multiply_596 (by decide) ?_
      refine lv_lload hx hb d_Field_multiply_598 (lv_at hl 8 rfl) ?_
      refine lv_lload hx hb d_Field_multiply_600 (lv_at hl 0 rfl) ?_
      refine lv_bipush (v := nI 28) hx hb d_Field_multiply_602 (by decide) ?_
      refine lv_lshr (v := 0 >>> ((nI 28).toInt64 &&& 63)) hx hb d_Field_multiply_604 rfl ?_
      refine lv_ladd hx hb d_Field_multiply_605 ?_
      refine lv_topl (fun t9 e9 => ?_)
      obtain rfl : t9 = 0 := e9.trans (by decide)
      refine lv_dup2_2 hx hb d_Field_multiply_606 rfl ?_
      refine lv_lstore (lv' := [(75, .long 0), (73, .long 0), (71, .long 0), (69, .long 0), (67, .long 0), (65, .long 0), (63, .long 0), (87, .int (nI 14)), (61, .long 0), (77, .long 0), (79, .long 0), (81, .long 0), (83, .long 0), (85, .long 0), (0, .ref o), (1, .ref t), (3, .ref b), (4, .long a4), (6, .long a6), (8, .long a8), (10, .long a10), (12, .long a12), (14, .long a14), (16, .long a16), (18, .long a18), (20, .long a20), (22, .long a22), (24, .long a24), (26, .long a26), (28, .long a28), (30, .long a30), (33, .long q33), (35, .long q35), (37, .long q37), (39, .long q39), (41, .long q41), (43, .long q43), (45, .long q45), (47, .long q47), (49, .long q49), (51, .long q51), (53, .long q53), (55, .long q55), (57, .long q57), (59, .long q59)]) hx hb d_Field_multiply_607 hl (by decide) rfl (fun ls hl => ?_)
      refine lv_ldc2 (v := 268435455) hx hb E.2.2.2.1 (E.2.2.2.2.1 _ w_143) d_Field_multiply_609 ?_
      refine lv_land hx hb d_Field_multiply_612 ?_
      refine lv_topl (fun t9 e9 => ?_)
      obtain rfl : t9 = 0 := e9.trans (by decide)
      refine q_last E hf9 ht0 hF 7 rfl (by decide) (by decide) d_Field_multiply_613 (fun H8 locs hq hf9 hF => ?_)
      have hk := hk.tr hq
      have hv9 := updL_z hv9
      refine lv_aload_n hx hb d_Field_multiply_614 rfl (lv_at hl 15 rfl) ?_
      refine lv_bipush (v := nI 8) hx hb d_Field_multiply_615 (by decide) ?_
      refine lv_lload hx hb d_Field_multiply_617 (lv_at hl 9 rfl) ?_
      refine lv_lload hx hb d_Field_multiply_619 (lv_at hl 0 rfl) ?_
      refine lv_bipush (v := nI 28) hx hb d_Field_multiply_621 (by decide) ?_
      refine lv_lshr (v := 0 >>> ((nI 28).toInt64 &&& 63)) hx hb d_Field_multiply_623 rfl ?_
      refine lv_ladd hx hb d_Field_multiply_624 ?_
      refine lv_topl (fun t9 e9 => ?_)
      obtain rfl : t9 = 0 := e9.trans (by decide)
      refine lv_dup2_2 hx hb d_Field_multiply_625 rfl ?_
      refine lv_lstore (lv' := [(77, .long 0), (75, .long 0), (73, .long 0), (71, .long 0), (69, .long 0), (67, .long 0), (65, .long 0), (63, .long 0), (87, .int (nI 14)), (61, .long 0), (79, .long 0), (81, .long 0), (83, .long 0), (85, .long 0), (0, .ref o), (1, .ref t), (3, .ref b), (4, .long a4), (6, .long a6), (8, .long a8), (10, .long a10), (12, .long a12), (14, .long a14), (16, .long a16), (18, .long a18), (20, .long a20), (22, .long a22), (24, .long a24), (26, .long a26), (28, .long a28), (30, .long a30), (33, .long q33), (35, .long q35), (37, .long q37), (39, .long q39), (41, .long q41), (43, .long q43), (45, .long q45), (47, .long q47), (49, .long q49), (51, .long q51), (53, .long q53), (55, .long q55), (57, .long q57), (59, .long q59)]) hx hb d_Field_multiply_626 hl (by decide) rfl (fun ls hl => ?_)
      refine lv_ldc2 (v := 268435455) hx hb E.2.2.2.1 (E.2.2.2.2.1 _ w_143) d_Field_multiply_628 ?_
      refine lv_land hx hb d_Field_multiply_631 ?_
      refine lv_topl (fun t9 e9 => ?_)
      obtain rfl : t9 = 0 := e9.trans (by decide)
      refine q_last E hf9 ht0 hF 8 rfl (by decide) (by decide) d_Field_multiply_632 (fun H9 locs hq hf9 hF => ?_)
      have hk := hk.tr hq
      have hv9 := updL_z hv9
      refine lv_aload_n hx hb d_Field_multiply_633 rfl (lv_at hl 15 rfl) ?_
      refine lv_bipush (v := nI 9) hx hb d_Field_multiply_634 (by decide) ?_
      refine lv_lload hx hb d_Field_multiply_636 (lv_at hl 10 rfl) ?_
      refine lv_lload hx hb d_Field_multiply_638 (lv_at hl 0 rfl) ?_
      refine lv_bipush (v := nI 28) hx hb d_Field_multiply_640 (by decide) ?_
      refine lv_lshr (v := 0 >>> ((nI 28).toInt64 &&& 63)) hx hb d_Field_multiply_642 rfl ?_
      refine lv_ladd hx hb d_Field_multiply_643 ?_
      refine lv_topl (fun t9 e9 => ?_)
      obtain rfl : t9 = 0 := e9.trans (by decide)
      refine lv_dup2_2 hx hb d_Field_multiply_644 rfl ?_
      refine lv_lstore (lv' := [(79, .long 0), (77, .long 0), (75, .long 0), (73, .long 0), (71, .long 0), (69, .long 0), (67, .long 0), (65, .long 0), (63, .long 0), (87, .int (nI 14)), (61, .long 0), (81, .long 0), (83, .long 0), (85, .long 0), (0, .ref o), (1, .ref t), (3, .ref b), (4, .long a4), (6, .long a6), (8, .long a8), (10, .long a10), (12, .long a12), (14, .long a14), (16, .long a16), (18, .long a18), (20, .long a20), (22, .long a22), (24, .long a24), (26, .long a26), (28, .long a28), (30, .long a30), (33, .long q33), (35, .long q35), (37, .long q37), (39, .long q39), (41, .long q41), (43, .long q43), (45, .long q45), (47, .long q47), (49, .long q49), (51, .long q51), (53, .long q53), (55, .long q55), (57, .long q57), (59, .long q59)]) hx hb d_Field_multiply_645 hl (by decide) rfl (fun ls hl => ?_)
      refine lv_ldc2 (v := 268435455) hx hb E.2.2.2.1 (E.2.2.2.2.1 _ w_143) d_Field_multiply_647 ?_
      refine lv_land hx hb d_Field_multiply_650 ?_
      refine lv_topl (fun t9 e9 => ?_)
      obtain rfl : t9 = 0 := e9.trans (by decide)
      refine q_last E hf9 ht0 hF 9 rfl (by decide) (by decide) d_Field_multiply_651 (fun H10 locs hq hf9 hF => ?_)
      have hk := hk.tr hq
      have hv9 := updL_z hv9
      refine lv_aload_n hx hb d_Field_multiply_652 rfl (lv_at hl 15 rfl) ?_
      refine lv_bipush (v := nI 10) hx hb d_Field_multiply_653 (by decide) ?_
      refine lv_lload hx hb d_Field_multiply_655 (lv_at hl 11 rfl) ?_
      refine lv_lload hx hb d_Field_multiply_657 (lv_at hl 0 rfl) ?_
      refine lv_bipush (v := nI 28) hx hb d_Field_multiply_659 (by decide) ?_
      refine lv_lshr (v := 0 >>> ((nI 28).toInt64 &&& 63)) hx hb d_Field_multiply_661 rfl ?_
      refine lv_ladd hx hb d_Field_multiply_662 ?_
      refine lv_topl (fun t9 e9 => ?_)
      obtain rfl : t9 = 0 := e9.trans (by decide)
      refine lv_dup2_2 hx hb d_Field_multiply_663 rfl ?_
      refine lv_lstore (lv' := [(81, .long 0), (79, .long 0), (77, .long 0), (75, .long 0), (73, .long 0), (71, .long 0), (69, .long 0), (67, .long 0), (65, .long 0), (63, .long 0), (87, .int (nI 14)), (61, .long 0), (83, .long 0), (85, .long 0), (0, .ref o), (1, .ref t), (3, .ref b), (4, .long a4), (6, .long a6), (8, .long a8), (10, .long a10), (12, .long a12), (14, .long a14), (16, .long a16), (18, .long a18), (20, .long a20), (22, .long a22), (24, .long a24), (26, .long a26), (28, .long a28), (30, .long a30), (33, .long q33), (35, .long q35), (37, .long q37), (39, .long q39), (41, .long q41), (43, .long q43), (45, .long q45), (47, .long q47), (49, .long q49), (51, .long q51), (53, .long q53), (55, .long q55), (57, .long q57), (59, .long q59)]) hx hb d_Field_multiply_664 hl (by decide) rfl (fun ls hl => ?_)
      refine lv_ldc2 (v := 268435455) hx hb E.2.2.2.1 (E.2.2.2.2.1 _ w_143) d_Field_multiply_666 ?_
      refine lv_land hx hb d_Field_multiply_669 ?_
      refine lv_topl (fun t9 e9 => ?_)
      obtain rfl : t9 = 0 := e9.trans (by decide)
      refine q_last E hf9 ht0 hF 10 rfl (by decide) (by decide) d_Field_multiply_670 (fun H11 locs hq hf9 hF => ?_)
      have hk := hk.tr hq
      have hv9 := updL_z hv9
      refine lv_aload_n hx hb d_Field_multiply_671 rfl (lv_at hl 15 rfl) ?_
      refine lv_bipush (v := nI 11) hx hb d_Field_multiply_672 (by decide) ?_
      refine lv_lload hx hb d_Field_multiply_674 (lv_at hl 12 rfl) ?_
      refine lv_lload hx hb d_Field_multiply_676 (lv_at hl 0 rfl) ?_
      refine lv_bipush (v := nI 28) hx hb d_Field_multiply_678 (by decide) ?_
      refine lv_lshr (v := 0 >>> ((nI 28).toInt64 &&& 63)) hx hb d_Field_multiply_680 rfl ?_
      refine lv_ladd hx hb d_Field_multiply_681 ?_
      refine lv_topl (fun t9 e9 => ?_)
      obtain rfl : t9 = 0 := e9.trans (by decide)
      refine lv_dup2_2 hx hb d_Field_multiply_682 rfl ?_
      refine lv_lstore (lv' := [(83, .long 0), (81, .long 0), (79, .long 0), (77, .long 0), (75, .long 0), (73, .long 0), (71, .long 0), (69, .long 0), (67, .long 0), (65, .long 0), (63, .long 0), (87, .int (nI 14)), (61, .long 0), (85, .long 0), (0, .ref o), (1, .ref t), (3, .ref b), (4, .long a4), (6, .long a6), (8, .long a8), (10, .long a10), (12, .long a12), (14, .long a14), (16, .long a16), (18, .long a18), (20, .long a20), (22, .long a22), (24, .long a24), (26, .long a26), (28, .long a28), (30, .long a30), (33, .long q33), (35, .long q35), (37, .long q37), (39, .long q39), (41, .long q41), (43, .long q43), (45, .long q45), (47, .long q47), (49, .long q49), (51, .long q51), (53, .long q53), (55, .long q55), (57, .long q57), (59, .long q59)]) hx hb d_Field_multiply_683 hl (by decide) rfl (fun ls hl => ?_)
      refine lv_ldc2 (v := 268435455) hx hb E.2.2.2.1 (E.2.2.2.2.1 _ w_143) d_Field_multiply_685 ?_
      refine lv_land hx hb d_Field_multiply_688 ?_
      refine lv_topl (fun t9 e9 => ?_)
      obtain rfl : t9 = 0 := e9.trans (by decide)
      refine q_last E hf9 ht0 hF 11 rfl (by decide) (by decide) d_Field_multiply_689 (fun H12 locs hq hf9 hF => ?_)
      have hk := hk.tr hq
      have hv9 := updL_z hv9
      refine lv_aload_n hx hb d_Field_multiply_690 rfl (lv_at hl 15 rfl) ?_
      refine lv_bipush (v := nI 12) hx hb d_Field_multiply_691 (by decide) ?_
      refine lv_lload hx hb d_Field_multiply_693 (lv_at hl 13 rfl) ?_
      refine lv_lload hx hb d_Field_multiply_695 (lv_at hl 0 rfl) ?_
      refine lv_bipush (v := nI 28) hx hb d_Field_multiply_697 (by decide) ?_
      refine lv_lshr (v := 0 >>> ((nI 28).toInt64 &&& 63)) hx hb d_Field_multiply_699 rfl ?_
      refine lv_ladd hx hb d_Field_multiply_700 ?_
      refine lv_topl (fun t9 e9 => ?_)
      obtain rfl : t9 = 0 := e9.trans (by decide)
      refine lv_dup2_2 hx hb d_Field_multiply_701 rfl ?_
      refine lv_lstore (lv' := [(85, .long 0), (83, .long 0), (81, .long 0), (79, .long 0), (77, .long 0), (75, .long 0), (73, .long 0), (71, .long 0), (69, .long 0), (67, .long 0), (65, .long 0), (63, .long 0), (87, .int (nI 14)), (61, .long 0), (0, .ref o), (1, .ref t), (3, .ref b), (4, .long a4), (6, .long a6), (8, .long a8), (10, .long a10), (12, .long a12), (14, .long a14), (16, .long a16), (18, .long a18), (20, .long a20), (22, .long a22), (24, .long a24), (26, .long a26), (28, .long a28), (30, .long a30), (33, .long q33), (35, .long q35), (37, .long q37), (39, .long q39), (41, .long q41), (43, .long q43), (45, .long q45), (47, .long q47), (49, .long q49), (51, .long q51), (53, .long q53), (55, .long q55), (57, .long q57), (59, .long q59)]) hx hb d_Field_multiply_702 hl (by decide) rfl (fun ls hl => ?_)
      refine lv_ldc2 (v := 268435455) hx hb E.2.2.2.1 (E.2.2.2.2.1 _ w_143) d_Field_multiply_704 ?_
      refine lv_land hx hb d_Field_multiply_707 ?_
      refine lv_topl (fun t9 e9 => ?_)
      obtain rfl : t9 = 0 := e9.trans (by decide)
      refine q_last E hf9 ht0 hF 12 rfl (by decide) (by decide) d_Field_multiply_708 (fun H13 locs hq hf9 hF => ?_)
      have hk := hk.tr hq
      have hv9 := updL_z hv9
      refine lv_aload_n hx hb d_Field_multiply_709 rfl (lv_at hl 15 rfl) ?_
      refine lv_bipush (v := nI 13) hx hb d_Field_multiply_710 (by decide) ?_
      refine lv_lload hx hb d_Field_multiply_712 (lv_at hl 0 rfl) ?_
      refine lv_bipush (v := nI 28) hx hb d_Field_multiply_714 (by decide) ?_
      refine lv_lshr (v := 0 >>> ((nI 28).toInt64 &&& 63)) hx hb d_Field_multiply_716 rfl ?_
      refine lv_topl (fun t9 e9 => ?_)
      obtain rfl : t9 = 0 := e9.trans (by decide)
      refine q_last E hf9 ht0 hF 13 rfl (by decide) (by decide) d_Field_multiply_717 (fun H14 locs hq hf9 hF => ?_)
      have hk := hk.tr hq
      have hv9 := updL_z hv9
      refine lv_aload_n hx hb d_Field_multiply_718 rfl (lv_at hl 14 rfl) ?_
      refine lv_aload_n hx hb d_Field_multiply_719 rfl (lv_at hl 15 rfl) ?_
      have hf9 := hf9.ext hv9
      refine q_cV (rest := []) E (z_Field_reduce l g n0 o t F mi f h0 h1) w_161 w_4 w_158 w_160 (bw_s 1 rfl) hd_Field_reduce rfl ⟨by decide, by decide⟩ (OB.recv E.2.2.2.2.2 (by rfl) ((hk.fd hK hfd).1)) (⟨hk.fd hK hfd, hf9, hk.ajo htm hfm⟩) hF hl.1 rfl (Nat.le_of_ble_eq_true rfl) d_Field_multiply_720 ⟨by decide, by decide⟩ (qv (fun H15 locs hq hF => ?_))
      subst hq
      exact q_vret E hr hlk (⟨rfl, hk, hf9⟩) hF d_Field_multiply_723
    | succ k ih =>
      intro  i   ls hi hl
      have hi14 : i < 14 := by omega
      refine lv_iload hx hb d_Field_multiply_218 (lv_at hl 0 rfl) ?_
      refine lv_bipush (v := nI 14) hx hb d_Field_multiply_220 (by decide) ?_
      refine lv_icmp_ge (tgt := 477) hx hb d_Field_multiply_222 (by decide) (fun h9 => absurd h9 (nI_ge hi14 (by decide))) (fun _ => ?_)
      refine lv_aload_n hx hb d_Field_multiply_225 rfl (lv_at hl 16 rfl) ?_
      refine lv_iload hx hb d_Field_multiply_226 (lv_at hl 0 rfl) ?_
      refine q_lald (N := 14) (f := (fun _ => 0)) E hb0 i rfl hi14 (by decide) d_Field_multiply_228 ?_
      refine lv_topl (fun t9 e9 => ?_)
      obtain rfl : t9 = 0 := e9.trans (by simp)
      refine lv_lstore (lv' := [(88, .long 0), (87, .int (nI i)), (61, .long 0), (63, .long 0), (65, .long 0), (67, .long 0), (69, .long 0), (71, .long 0), (73, .long 0), (75, .long 0), (77, .long 0), (79, .long 0), (81, .long 0), (83, .long 0), (85, .long 0), (0, .ref o), (1, .ref t), (3, .ref b), (4, .long a4), (6, .long a6), (8, .long a8), (10, .long a10), (12, .long a12), (14, .long a14), (16, .long a16), (18, .long a18), (20, .long a20), (22, .long a22), (24, .long a24), (26, .long a26), (28, .long a28), (30, .long a30), (33, .long q33), (35, .long q35), (37, .long q37), (39, .long q39), (41, .long q41), (43, .long q43), (45, .long q45), (47, .long q47), (49, .long q49), (51, .long q51), (53, .long q53), (55, .long q55), (57, .long q57), (59, .long q59)]) hx hb d_Field_multiply_229 hl (by decide) rfl (fun ls hl => ?_)
      refine lv_lload hx hb d_Field_multiply_231 (lv_at hl 2 rfl) ?_
      refine lv_lload hx hb d_Field_multiply_233 (lv_at hl 0 rfl) ?_
      refine lv_lload hx hb d_Field_multiply_235 (lv_at hl 18 rfl) ?_
      refine lv_lmul hx hb d_Field_multiply_237 ?_
      refine lv_ladd hx hb d_Field_multiply_238 ?_
      refine lv_topl (fun t9 e9 => ?_)
      obtain rfl : t9 = 0 := e9.trans (by simp)
      refine lv_lstore (lv' := [(61, .long 0), (88, .long 0), (87, .int (nI i)), (63, .long 0), (65, .long 0), (67, .long 0), (69, .long 0), (71, .long 0), (73, .long 0), (75, .long 0), (77, .long 0), (79, .long 0), (81, .long 0), (83, .long 0), (85, .long 0), (0, .ref o), (1, .ref t), (3, .ref b), (4, .long a4), (6, .long a6), (8, .long a8), (10, .long a10), (12, .long a12), (14, .long a14), (16, .long a16), (18, .long a18), (20, .long a20), (22, .long a22), (24, .long a24), (26, .long a26), (28, .long a28), (30, .long a30), (33, .long q33), (35, .long q35), (37, .long q37), (39, .long q39), (41, .long q41), (43, .long q43), (45, .long q45), (47, .long q47), (49, .long q49), (51, .long q51), (53, .long q53), (55, .long q55), (57, .long q57), (59, .long q59)]) hx hb d_Field_multiply_239 hl (by decide) rfl (fun ls hl => ?_)
      refine lv_lload hx hb d_Field_multiply_241 (lv_at hl 0 rfl) ?_
      refine lv_aload_n hx hb d_Field_multiply_243 rfl (lv_at hl 15 rfl) ?_
      refine q_get (C := "KateDesk$Field") (T := T_Field) (N := 7) (ci := 1) E ((hk.fd hK hfd).1) in_Field rfl 6 (by decide) w_182 rfl rfl d_Field_multiply_244 ?_
      refine lv_lmul hx hb d_Field_multiply_247 ?_
      refine lv_ldc2 (v := 268435455) hx hb E.2.2.2.1 (E.2.2.2.2.1 _ w_143) d_Field_multiply_248 ?_
      refine lv_land hx hb d_Field_multiply_251 ?_
      refine lv_topl (fun t9 e9 => ?_)
      obtain rfl : t9 = 0 := e9.trans (by simp)
      refine lv_lstore (lv' := [(90, .long 0), (61, .long 0), (88, .long 0), (87, .int (nI i)), (63, .long 0), (65, .long 0), (67, .long 0), (69, .long 0), (71, .long 0), (73, .long 0), (75, .long 0), (77, .long 0), (79, .long 0), (81, .long 0), (83, .long 0), (85, .long 0), (0, .ref o), (1, .ref t), (3, .ref b), (4, .long a4), (6, .long a6), (8, .long a8), (10, .long a10), (12, .long a12), (14, .long a14), (16, .long a16), (18, .long a18), (20, .long a20), (22, .long a22), (24, .long a24), (26, .long a26), (28, .long a28), (30, .long a30), (33, .long q33), (35, .long q35), (37, .long q37), (39, .long q39), (41, .long q41), (43, .long q43), (45, .long q45), (47, .long q47), (49, .long q49), (51, .long q51), (53, .long q53), (55, .long q55), (57, .long q57), (59, .long q59)]) hx hb d_Field_multiply_252 hl (by decide) rfl (fun ls hl => ?_)
      refine lv_lload hx hb d_Field_multiply_254 (lv_at hl 1 rfl) ?_
      refine lv_lload hx hb d_Field_multiply_256 (lv_at hl 0 rfl) ?_
      refine lv_lload hx hb d_Field_multiply_258 (lv_at hl 33 rfl) ?_
      refine lv_lmul hx hb d_Field_multiply_260 ?_
      refine lv_ladd hx hb d_Field_multiply_261 ?_
      refine lv_bipush (v := nI 28) hx hb d_Field_multiply_262 (by decide) ?_
      refine lv_lshr (v := (0 + (0 * q33)) >>> ((nI 28).toInt64 &&& 63)) hx hb d_Field_multiply_264 rfl ?_
      refine lv_lload hx hb d_Field_multiply_265 (lv_at hl 4 rfl) ?_
      refine lv_ladd hx hb d_Field_multiply_267 ?_
      refine lv_lload hx hb d_Field_multiply_268 (lv_at hl 2 rfl) ?_
      refine lv_lload hx hb d_Field_multiply_270 (lv_at hl 20 rfl) ?_
      refine lv_lmul hx hb d_Field_multiply_272 ?_
      refine lv_ladd hx hb d_Field_multiply_273 ?_
      refine lv_lload hx hb d_Field_multiply_274 (lv_at hl 0 rfl) ?_
      refine lv_lload hx hb d_Field_multiply_276 (lv_at hl 34 rfl) ?_
      refine lv_lmul hx hb d_Field_multiply_278 ?_
      refine lv_ladd hx hb d_Field_multiply_279 ?_
      refine lv_topl (fun t9 e9 => ?_)
      obtain rfl : t9 = 0 := e9.trans (by simp)
      refine lv_lstore (lv' := [(61, .long 0), (90, .long 0), (88, .long 0), (87, .int (nI i)), (63, .long 0), (65, .long 0), (67, .long 0), (69, .long 0), (71, .long 0), (73, .long 0), (75, .long 0), (77, .long 0), (79, .long 0), (81, .long 0), (83, .long 0), (85, .long 0), (0, .ref o), (1, .ref t), (3, .ref b), (4, .long a4), (6, .long a6), (8, .long a8), (10, .long a10), (12, .long a12), (14, .long a14), (16, .long a16), (18, .long a18), (20, .long a20), (22, .long a22), (24, .long a24), (26, .long a26), (28, .long a28), (30, .long a30), (33, .long q33), (35, .long q35), (37, .long q37), (39, .long q39), (41, .long q41), (43, .long q43), (45, .long q45), (47, .long q47), (49, .long q49), (51, .long q51), (53, .long q53), (55, .long q55), (57, .long q57), (59, .long q59)]) hx hb d_Field_multiply_280 hl (by decide) rfl (fun ls hl => ?_)
      refine lv_lload hx hb d_Field_multiply_282 (lv_at hl 5 rfl) ?_
      refine lv_lload hx hb d_Field_multiply_284 (lv_at hl 2 rfl) ?_
      refine lv_lload hx hb d_Field_multiply_286 (lv_at hl 21 rfl) ?_
      refine lv_lmul hx hb d_Field_multiply_288 ?_
      refine lv_ladd hx hb d_Field_multiply_289 ?_
      refine lv_lload hx hb d_Field_multiply_290 (lv_at hl 1 rfl) ?_
      refine lv_lload hx hb d_Field_multiply_292 (lv_at hl 35 rfl) ?_
      refine lv_lmul hx hb d_Field_multiply_294 ?_
      refine lv_ladd hx hb d_Field_multiply_295 ?_
      refine lv_topl (fun t9 e9 => ?_)
      obtain rfl : t9 = 0 := e9.trans (by simp)
      refine lv_lstore (lv' := [(63, .long 0), (61, .long 0), (90, .long 0), (88, .long 0), (87, .int (nI i)), (65, .long 0), (67, .long 0), (69, .long 0), (71, .long 0), (73, .long 0), (75, .long 0), (77, .long 0), (79, .long 0), (81, .long 0), (83, .long 0), (85, .long 0), (0, .ref o), (1, .ref t), (3, .ref b), (4, .long a4), (6, .long a6), (8, .long a8), (10, .long a10), (12, .long a12), (14, .long a14), (16, .long a16), (18, .long a18), (20, .long a20), (22, .long a22), (24, .long a24), (26, .long a26), (28, .long a28), (30, .long a30), (33, .long q33), (35, .long q35), (37, .long q37), (39, .long q39), (41, .long q41), (43, .long q43), (45, .long q45), (47, .long q47), (49, .long q49), (51, .long q51), (53, .long q53), (55, .long q55), (57, .long q57), (59, .long q59)]) hx hb d_Field_multiply_296 hl (by decide) rfl (fun ls hl => ?_)
      refine lv_lload hx hb d_Field_multiply_298 (lv_at hl 6 rfl) ?_
      refine lv_lload hx hb d_Field_multiply_300 (lv_at hl 3 rfl) ?_
      refine lv_lload hx hb d_Field_multiply_302 (lv_at hl 22 rfl) ?_
      refine lv_lmul hx hb d_Field_multiply_304 ?_
      refine lv_ladd hx hb d_Field_multiply_305 ?_
      refine lv_lload hx hb d_Field_multiply_306 (lv_at hl 2 rfl) ?_
      refine lv_lload hx hb d_Field_multiply_308 (lv_at hl 36 rfl) ?_
      refine lv_lmul hx hb d_Field_multiply_310 ?_
      refine lv_ladd hx hb d_Field_multiply_311 ?_
      refine lv_topl (fun t9 e9 => ?_)
      obtain rfl : t9 = 0 := e9.trans (by simp)
      refine lv_lstore (lv' := [(65, .long 0), (63, .long 0), (61, .long 0), (90, .long 0), (88, .long 0), (87, .int (nI i)), (67, .long 0), (69, .long 0), (71, .long 0), (73, .long 0), (75, .long 0), (77, .long 0), (79, .long 0), (81, .long 0), (83, .long 0), (85, .long 0), (0, .ref o), (1, .ref t), (3, .ref b), (4, .long a4), (6, .long a6), (8, .long a8), (10, .long a10), (12, .long a12), (14, .long a14), (16, .long a16), (18, .long a18), (20, .long a20), (22, .long a22), (24, .long a24), (26, .long a26), (28, .long a28), (30, .long a30), (33, .long q33), (35, .long q35), (37, .long q37), (39, .long q39), (41, .long q41), (43, .long q43), (45, .long q45), (47, .long q47), (49, .long q49), (51, .long q51), (53, .long q53), (55, .long q55), (57, .long q57), (59, .long q59)]) hx hb d_Field_multiply_312 hl (by decide) rfl (fun ls hl => ?_)
      refine lv_lload hx hb d_Field_multiply_314 (lv_at hl 7 rfl) ?_
      refine lv_lload hx hb d_Field_multiply_316 (lv_at hl 4 rfl) ?_
      refine lv_lload hx hb d_Field_multiply_318 (lv_at hl 23 rfl) ?_
      refine lv_lmul hx hb d_Field_multiply_320 ?_
      refine lv_ladd hx hb d_Field_multiply_321 ?_
      refine lv_lload hx hb d_Field_multiply_322 (lv_at hl 3 rfl) ?_
      refine lv_lload hx hb d_Field_multiply_324 (lv_at hl 37 rfl) ?_
      refine lv_lmul hx hb d_Field_multiply_326 ?_
      refine lv_ladd hx hb d_Field_multiply_327 ?_
      refine lv_topl (fun t9 e9 => ?_)
      obtain rfl : t9 = 0 := e9.trans (by simp)
      refine lv_lstore (lv' := [(67, .long 0), (65, .long 0), (63, .long 0), (61, .long 0), (90, .long 0), (88, .long 0), (87, .int (nI i)), (69, .long 0), (71, .long 0), (73, .long 0), (75, .long 0), (77, .long 0), (79, .long 0), (81, .long 0), (83, .long 0), (85, .long 0), (0, .ref o), (1, .ref t), (3, .ref b), (4, .long a4), (6, .long a6), (8, .long a8), (10, .long a10), (12, .long a12), (14, .long a14), (16, .long a16), (18, .long a18), (20, .long a20), (22, .long a22), (24, .long a24), (26, .long a26), (28, .long a28), (30, .long a30), (33, .long q33), (35, .long q35), (37, .long q37), (39, .long q39), (41, .long q41), (43, .long q43), (45, .long q45), (47, .long q47), (49, .long q49), (51, .long q51), (53, .long q53), (55, .long q55), (57, .long q57), (59, .long q59)]) hx hb d_Field_multiply_328 hl (by decide) rfl (fun ls hl => ?_)
      refine lv_lload hx hb d_Field_multiply_330 (lv_at hl 8 rfl) ?_
      refine lv_lload hx hb d_Field_multiply_332 (lv_at hl 5 rfl) ?_
      refine lv_lload hx hb d_Field_multiply_334 (lv_at hl 24 rfl) ?_
      refine lv_lmul hx hb d_Field_multiply_336 ?_
      refine lv_ladd hx hb d_Field_multiply_337 ?_
      refine lv_lload hx hb d_Field_multiply_338 (lv_at hl 4 rfl) ?_
      refine lv_lload hx hb d_Field_multiply_340 (lv_at hl 38 rfl) ?_
      refine lv_lmul hx hb d_Field_multiply_342 ?_
      refine lv_ladd hx hb d_Field_multiply_343 ?_
      refine lv_topl (fun t9 e9 => ?_)
      obtain rfl : t9 = 0 := e9.trans (by simp)
      refine lv_lstore (lv' := [(69, .long 0), (67, .long 0), (65, .long 0), (63, .long 0), (61, .long 0), (90, .long 0), (88, .long 0), (87, .int (nI i)), (71, .long 0), (73, .long 0), (75, .long 0), (77, .long 0), (79, .long 0), (81, .long 0), (83, .long 0), (85, .long 0), (0, .ref o), (1, .ref t), (3, .ref b), (4, .long a4), (6, .long a6), (8, .long a8), (10, .long a10), (12, .long a12), (14, .long a14), (16, .long a16), (18, .long a18), (20, .long a20), (22, .long a22), (24, .long a24), (26, .long a26), (28, .long a28), (30, .long a30), (33, .long q33), (35, .long q35), (37, .long q37), (39, .long q39), (41, .long q41), (43, .long q43), (45, .long q45), (47, .long q47), (49, .long q49), (51, .long q51), (53, .long q53), (55, .long q55), (57, .long q57), (59, .long q59)]) hx hb d_Field_multiply_344 hl (by decide) rfl (fun ls hl => ?_)
      refine lv_lload hx hb d_Field_multiply_346 (lv_at hl 9 rfl) ?_
      refine lv_lload hx hb d_Field_multiply_348 (lv_at hl 6 rfl) ?_
      refine lv_lload hx hb d_Field_multiply_350 (lv_at hl 25 rfl) ?_
      refine lv_lmul hx hb d_Field_multiply_352 ?_
      refine lv_ladd hx hb d_Field_multiply_353 ?_
      refine lv_lload hx hb d_Field_multiply_354 (lv_at hl 5 rfl) ?_
      refine lv_lload hx hb d_Field_multiply_356 (lv_at hl 39 rfl) ?_
      refine lv_lmul hx hb d_Field_multiply_358 ?_
      refine lv_ladd hx hb d_Field_multiply_359 ?_
      refine lv_topl (fun t9 e9 => ?_)
      obtain rfl : t9 = 0 := e9.trans (by simp)
      refine lv_lstore (lv' := [(71, .long 0), (69, .long 0), (67, .long 0), (65, .long 0), (63, .long 0), (61, .long 0), (90, .long 0), (88, .long 0), (87, .int (nI i)), (73, .long 0), (75, .long 0), (77, .long 0), (79, .long 0), (81, .long 0), (83, .long 0), (85, .long 0), (0, .ref o), (1, .ref t), (3, .ref b), (4, .long a4), (6, .long a6), (8, .long a8), (10, .long a10), (12, .long a12), (14, .long a14), (16, .long a16), (18, .long a18), (20, .long a20), (22, .long a22), (24, .long a24), (26, .long a26), (28, .long a28), (30, .long a30), (33, .long q33), (35, .long q35), (37, .long q37), (39, .long q39), (41, .long q41), (43, .long q43), (45, .long q45), (47, .long q47), (49, .long q49), (51, .long q51), (53, .long q53), (55, .long q55), (57, .long q57), (59, .long q59)]) hx hb d_Field_multiply_360 hl (by decide) rfl (fun ls hl => ?_)
      refine lv_lload hx hb d_Field_multiply_362 (lv_at hl 10 rfl) ?_
      refine lv_lload hx hb d_Field_multiply_364 (lv_at hl 7 rfl) ?_
      refine lv_lload hx hb d_Field_multiply_366 (lv_at hl 26 rfl) ?_
      refine lv_lmul hx hb d_Field_multiply_368 ?_
      refine lv_ladd hx hb d_Field_multiply_369 ?_
      refine lv_lload hx hb d_Field_multiply_370 (lv_at hl 6 rfl) ?_
      refine lv_lload hx hb d_Field_multiply_372 (lv_at hl 40 rfl) ?_
      refine lv_lmul hx hb d_Field_multiply_374 ?_
      refine lv_ladd hx hb d_Field_multiply_375 ?_
      refine lv_topl (fun t9 e9 => ?_)
      obtain rfl : t9 = 0 := e9.trans (by simp)
      refine lv_lstore (lv' := [(73, .long 0), (71, .long 0), (69, .long 0), (67, .long 0), (65, .long 0), (63, .long 0), (61, .long 0), (90, .long 0), (88, .long 0), (87, .int (nI i)), (75, .long 0), (77, .long 0), (79, .long 0), (81, .long 0), (83, .long 0), (85, .long 0), (0, .ref o), (1, .ref t), (3, .ref b), (4, .long a4), (6, .long a6), (8, .long a8), (10, .long a10), (12, .long a12), (14, .long a14), (16, .long a16), (18, .long a18), (20, .long a20), (22, .long a22), (24, .long a24), (26, .long a26), (28, .long a28), (30, .long a30), (33, .long q33), (35, .long q35), (37, .long q37), (39, .long q39), (41, .long q41), (43, .long q43), (45, .long q45), (47, .long q47), (49, .long q49), (51, .long q51), (53, .long q53), (55, .long q55), (57, .long q57), (59, .long q59)]) hx hb d_Field_multiply_376 hl (by decide) rfl (fun ls hl => ?_)
      refine lv_lload hx hb d_Field_multiply_378 (lv_at hl 11 rfl) ?_
      refine lv_lload hx hb d_Field_multiply_380 (lv_at hl 8 rfl) ?_
      refine lv_lload hx hb d_Field_multiply_382 (lv_at hl 27 rfl) ?_
      refine lv_lmul hx hb d_Field_multiply_384 ?_
      refine lv_ladd hx hb d_Field_multiply_385 ?_
      refine lv_lload hx hb d_Field_multiply_386 (lv_at hl 7 rfl) ?_
      refine lv_lload hx hb d_Field_multiply_388 (lv_at hl 41 rfl) ?_
      refine lv_lmul hx hb d_Field_multiply_390 ?_
      refine lv_ladd hx hb d_Field_multiply_391 ?_
      refine lv_topl (fun t9 e9 => ?_)
      obtain rfl : t9 = 0 := e9.trans (by simp)
      refine lv_lstore (lv' := [(75, .long 0), (73, .long 0), (71, .long 0), (69, .long 0), (67, .long 0), (65, .long 0), (63, .long 0), (61, .long 0), (90, .long 0), (88, .long 0), (87, .int (nI i)), (77, .long 0), (79, .long 0), (81, .long 0), (83, .long 0), (85, .long 0), (0, .ref o), (1, .ref t), (3, .ref b), (4, .long a4), (6, .long a6), (8, .long a8), (10, .long a10), (12, .long a12), (14, .long a14), (16, .long a16), (18, .long a18), (20, .long a20), (22, .long a22), (24, .long a24), (26, .long a26), (28, .long a28), (30, .long a30), (33, .long q33), (35, .long q35), (37, .long q37), (39, .long q39), (41, .long q41), (43, .long q43), (45, .long q45), (47, .long q47), (49, .long q49), (51, .long q51), (53, .long q53), (55, .long q55), (57, .long q57), (59, .long q59)]) hx hb d_Field_multiply_392 hl (by decide) rfl (fun ls hl => ?_)
      refine lv_lload hx hb d_Field_multiply_394 (lv_at hl 12 rfl) ?_
      refine lv_lload hx hb d_Field_multiply_396 (lv_at hl 9 rfl) ?_
      refine lv_lload hx hb d_Field_multiply_398 (lv_at hl 28 rfl) ?_
      refine lv_lmul hx hb d_Field_multiply_400 ?_
      refine lv_ladd hx hb d_Field_multiply_401 ?_
      refine lv_lload hx hb d_Field_multiply_402 (lv_at hl 8 rfl) ?_
      refine lv_lload hx hb d_Field_multiply_404 (lv_at hl 42 rfl) ?_
      refine lv_lmul hx hb d_Field_multiply_406 ?_
      refine lv_ladd hx hb d_Field_multiply_407 ?_
      refine lv_topl (fun t9 e9 => ?_)
      obtain rfl : t9 = 0 := e9.trans (by simp)
      refine lv_lstore (lv' := [(77, .long 0), (75, .long 0), (73, .long 0), (71, .long 0), (69, .long 0), (67, .long 0), (65, .long 0), (63, .long 0), (61, .long 0), (90, .long 0), (88, .long 0), (87, .int (nI i)), (79, .long 0), (81, .long 0), (83, .long 0), (85, .long 0), (0, .ref o), (1, .ref t), (3, .ref b), (4, .long a4), (6, .long a6), (8, .long a8), (10, .long a10), (12, .long a12), (14, .long a14), (16, .long a16), (18, .long a18), (20, .long a20), (22, .long a22), (24, .long a24), (26, .long a26), (28, .long a28), (30, .long a30), (33, .long q33), (35, .long q35), (37, .long q37), (39, .long q39), (41, .long q41), (43, .long q43), (45, .long q45), (47, .long q47), (49, .long q49), (51, .long q51), (53, .long q53), (55, .long q55), (57, .long q57), (59, .long q59)]) hx hb d_Field_multiply_408 hl (by decide) rfl (fun ls hl => ?_)
      refine lv_lload hx hb d_Field_multiply_410 (lv_at hl 13 rfl) ?_
      refine lv_lload hx hb d_Field_multiply_412 (lv_at hl 10 rfl) ?_
      refine lv_lload hx hb d_Field_multiply_414 (lv_at hl 29 rfl) ?_
      refine lv_lmul hx hb d_Field_multiply_416 ?_
      refine lv_ladd hx hb d_Field_multiply_417 ?_
      refine lv_lload hx hb d_Field_multiply_418 (lv_at hl 9 rfl) ?_
      refine lv_lload hx hb d_Field_multiply_420 (lv_at hl 43 rfl) ?_
      refine lv_lmul hx hb d_Field_multiply_422 ?_
      refine lv_ladd hx hb d_Field_multiply_423 ?_
      refine lv_topl (fun t9 e9 => ?_)
      obtain rfl : t9 = 0 := e9.trans (by simp)
      refine lv_lstore (lv' := [(79, .long 0), (77, .long 0), (75, .long 0), (73, .long 0), (71, .long 0), (69, .long 0), (67, .long 0), (65, .long 0), (63, .long 0), (61, .long 0), (90, .long 0), (88, .long 0), (87, .int (nI i)), (81, .long 0), (83, .long 0), (85, .long 0), (0, .ref o), (1, .ref t), (3, .ref b), (4, .long a4), (6, .long a6), (8, .long a8), (10, .long a10), (12, .long a12), (14, .long a14), (16, .long a16), (18, .long a18), (20, .long a20), (22, .long a22), (24, .long a24), (26, .long a26), (28, .long a28), (30, .long a30), (33, .long q33), (35, .long q35), (37, .long q37), (39, .long q39), (41, .long q41), (43, .long q43), (45, .long q45), (47, .long q47), (49, .long q49), (51, .long q51), (53, .long q53), (55, .long q55), (57, .long q57), (59, .long q59)]) hx hb d_Field_multiply_424 hl (by decide) rfl (fun ls hl => ?_)
      refine lv_lload hx hb d_Field_multiply_426 (lv_at hl 14 rfl) ?_
      refine lv_lload hx hb d_Field_multiply_428 (lv_at hl 11 rfl) ?_
      refine lv_lload hx hb d_Field_multiply_430 (lv_at hl 30 rfl) ?_
      refine lv_lmul hx hb d_Field_multiply_432 ?_
      refine lv_ladd hx hb d_Field_multiply_433 ?_
      refine lv_lload hx hb d_Field_multiply_434 (lv_at hl 10 rfl) ?_
      refine lv_lload hx hb d_Field_multiply_436 (lv_at hl 44 rfl) ?_
      refine lv_lmul hx hb d_Field_multiply_438 ?_
      refine lv_ladd hx hb d_Field_multiply_439 ?_
      refine lv_topl (fun t9 e9 => ?_)
      obtain rfl : t9 = 0 := e9.trans (by simp)
      refine lv_lstore (lv' := [(81, .long 0), (79, .long 0), (77, .long 0), (75, .long 0), (73, .long 0), (71, .long 0), (69, .long 0), (67, .long 0), (65, .long 0), (63, .long 0), (61, .long 0), (90, .long 0), (88, .long 0), (87, .int (nI i)), (83, .long 0), (85, .long 0), (0, .ref o), (1, .ref t), (3, .ref b), (4, .long a4), (6, .long a6), (8, .long a8), (10, .long a10), (12, .long a12), (14, .long a14), (16, .long a16), (18, .long a18), (20, .long a20), (22, .long a22), (24, .long a24), (26, .long a26), (28, .long a28), (30, .long a30), (33, .long q33), (35, .long q35), (37, .long q37), (39, .long q39), (41, .long q41), (43, .long q43), (45, .long q45), (47, .long q47), (49, .long q49), (51, .long q51), (53, .long q53), (55, .long q55), (57, .long q57), (59, .long q59)]) hx hb d_Field_multiply_440 hl (by decide) rfl (fun ls hl => ?_)
      refine lv_lload hx hb d_Field_multiply_442 (lv_at hl 15 rfl) ?_
      refine lv_lload hx hb d_Field_multiply_444 (lv_at hl 12 rfl) ?_
      refine lv_lload hx hb d_Field_multiply_446 (lv_at hl 31 rfl) ?_
      refine lv_lmul hx hb d_Field_multiply_448 ?_
      refine lv_ladd hx hb d_Field_multiply_449 ?_
      refine lv_lload hx hb d_Field_multiply_450 (lv_at hl 11 rfl) ?_
      refine lv_lload hx hb d_Field_multiply_452 (lv_at hl 45 rfl) ?_
      refine lv_lmul hx hb d_Field_multiply_454 ?_
      refine lv_ladd hx hb d_Field_multiply_455 ?_
      refine lv_topl (fun t9 e9 => ?_)
      obtain rfl : t9 = 0 := e9.trans (by simp)
      refine lv_lstore (lv' := [(83, .long 0), (81, .long 0), (79, .long 0), (77, .long 0), (75, .long 0), (73, .long 0), (71, .long 0), (69, .long 0), (67, .long 0), (65, .long 0), (63, .long 0), (61, .long 0), (90, .long 0), (88, .long 0), (87, .int (nI i)), (85, .long 0), (0, .ref o), (1, .ref t), (3, .ref b), (4, .long a4), (6, .long a6), (8, .long a8), (10, .long a10), (12, .long a12), (14, .long a14), (16, .long a16), (18, .long a18), (20, .long a20), (22, .long a22), (24, .long a24), (26, .long a26), (28, .long a28), (30, .long a30), (33, .long q33), (35, .long q35), (37, .long q37), (39, .long q39), (41, .long q41), (43, .long q43), (45, .long q45), (47, .long q47), (49, .long q49), (51, .long q51), (53, .long q53), (55, .long q55), (57, .long q57), (59, .long q59)]) hx hb d_Field_multiply_456 hl (by decide) rfl (fun ls hl => ?_)
      refine lv_lload hx hb d_Field_multiply_458 (lv_at hl 13 rfl) ?_
      refine lv_lload hx hb d_Field_multiply_460 (lv_at hl 32 rfl) ?_
      refine lv_lmul hx hb d_Field_multiply_462 ?_
      refine lv_lload hx hb d_Field_multiply_463 (lv_at hl 12 rfl) ?_
      refine lv_lload hx hb d_Field_multiply_465 (lv_at hl 46 rfl) ?_
      refine lv_lmul hx hb d_Field_multiply_467 ?_
      refine lv_ladd hx hb d_Field_multiply_468 ?_
      refine lv_topl (fun t9 e9 => ?_)
      obtain rfl : t9 = 0 := e9.trans (by simp)
      refine lv_lstore (lv' := [(85, .long 0), (83, .long 0), (81, .long 0), (79, .long 0), (77, .long 0), (75, .long 0), (73, .long 0), (71, .long 0), (69, .long 0), (67, .long 0), (65, .long 0), (63, .long 0), (61, .long 0), (90, .long 0), (88, .long 0), (87, .int (nI i)), (0, .ref o), (1, .ref t), (3, .ref b), (4, .long a4), (6, .long a6), (8, .long a8), (10, .long a10), (12, .long a12), (14, .long a14), (16, .long a16), (18, .long a18), (20, .long a20), (22, .long a22), (24, .long a24), (26, .long a26), (28, .long a28), (30, .long a30), (33, .long q33), (35, .long q35), (37, .long q37), (39, .long q39), (41, .long q41), (43, .long q43), (45, .long q45), (47, .long q47), (49, .long q49), (51, .long q51), (53, .long q53), (55, .long q55), (57, .long q57), (59, .long q59)]) hx hb d_Field_multiply_469 hl (by decide) rfl (fun ls hl => ?_)
      refine lv_iinc (k := 15) (v := nI (i + 1)) (lv' := [(87, .int (nI (i + 1))), (85, .long 0), (83, .long 0), (81, .long 0), (79, .long 0), (77, .long 0), (75, .long 0), (73, .long 0), (71, .long 0), (69, .long 0), (67, .long 0), (65, .long 0), (63, .long 0), (61, .long 0), (90, .long 0), (88, .long 0), (0, .ref o), (1, .ref t), (3, .ref b), (4, .long a4), (6, .long a6), (8, .long a8), (10, .long a10), (12, .long a12), (14, .long a14), (16, .long a16), (18, .long a18), (20, .long a20), (22, .long a22), (24, .long a24), (26, .long a26), (28, .long a28), (30, .long a30), (33, .long q33), (35, .long q35), (37, .long q37), (39, .long q39), (41, .long q41), (43, .long q43), (45, .long q45), (47, .long q47), (49, .long q49), (51, .long q51), (53, .long q53), (55, .long q55), (57, .long q57), (59, .long q59)]) hx hb d_Field_multiply_471 hl rfl (i_inc i) (by decide) rfl (fun ls hl => ?_)
      refine lv_goto (tgt := 218) hx hb d_Field_multiply_474 (by decide) ?_
      have hl : lv_has ls 92 [(87, .int (nI (i + 1))), (61, .long 0), (63, .long 0), (65, .long 0), (67, .long 0), (69, .long 0), (71, .long 0), (73, .long 0), (75, .long 0), (77, .long 0), (79, .long 0), (81, .long 0), (83, .long 0), (85, .long 0), (0, .ref o), (1, .ref t), (3, .ref b), (4, .long a4), (6, .long a6), (8, .long a8), (10, .long a10), (12, .long a12), (14, .long a14), (16, .long a16), (18, .long a18), (20, .long a20), (22, .long a22), (24, .long a24), (26, .long a26), (28, .long a28), (30, .long a30), (33, .long q33), (35, .long q35), (37, .long q37), (39, .long q39), (41, .long q41), (43, .long q43), (45, .long q45), (47, .long q47), (49, .long q49), (51, .long q51), (53, .long q53), (55, .long q55), (57, .long q57), (59, .long q59)] := lv_sub hl [0, 13, 12, 11, 10, 9, 8, 7, 6, 5, 4, 3, 2, 1, 16, 17, 18, 19, 20, 21, 22, 23, 24, 25, 26, 27, 28, 29, 30, 31, 32, 33, 34, 35, 36, 37, 38, 39, 40, 41, 42, 43, 44, 45, 46] rfl
      exact ih (i + 1) ls (by omega) hl
  have hl : lv_has ls 92 [(87, .int (nI 0)), (61, .long 0), (63, .long 0), (65, .long 0), (67, .long 0), (69, .long 0), (71, .long 0), (73, .long 0), (75, .long 0), (77, .long 0), (79, .long 0), (81, .long 0), (83, .long 0), (85, .long 0), (0, .ref o), (1, .ref t), (3, .ref b), (4, .long a4), (6, .long a6), (8, .long a8), (10, .long a10), (12, .long a12), (14, .long a14), (16, .long a16), (18, .long a18), (20, .long a20), (22, .long a22), (24, .long a24), (26, .long a26), (28, .long a28), (30, .long a30), (33, .long q33), (35, .long q35), (37, .long q37), (39, .long q39), (41, .long q41), (43, .long q43), (45, .long q45), (47, .long q47), (49, .long q49), (51, .long q51), (53, .long q53), (55, .long q55), (57, .long q57), (59, .long q59)] := lv_sub hl [0, 13, 12, 11, 10, 9, 8, 7, 6, 5, 4, 3, 2, 1, 43, 44, 46, 42, 41, 40, 39, 38, 37, 36, 35, 34, 33, 32, 31, 30, 29, 27, 26, 25, 24, 23, 22, 21, 20, 19, 18, 17, 16, 15, 14] rfl
  exact loop 14 0 ls  rfl hl
end
section
set_option maxHeartbeats 4000000 in
set_option maxRecDepth 100000 in
theorem c_Field_negate (l : Launch) (g : WG) (n0 : Nat → Prop) (o t a : Nat) (F : Nat → Nat) (mi : Int64) : Ctr l y_Field_negate (.code y_Field_negate prog_3_method_6_code 3 none) 2 44 0 0 n0 g [.ref o, .ref t, .ref a] (fun H => FD g n0 H o F mi ∧ J14 g n0 H t ∧ J14 g n0 H a) (QV (fun H H' => KJ g (fun q => q = t ∨ q = F 5) H H')) := by
  refine ctr_mk l (lv0 := [(0, .ref o), (1, .ref t), (2, .ref a)]) (by decide) (Nat.le_of_ble_eq_true rfl) rfl ?_
  intro p e s m below meth c ls E hr hlk hnm hl hP
  have hx := E.1
  have hb := E.2.1
  have hK := E.2.2.2.2.2
  have hF : ∀ q ∈ ([] : List Loc), n0 q.base := fun q hq => absurd hq List.not_mem_nil
  obtain ⟨hfd, ht, ha⟩ := hP
  have hk : KJ g (fun q => q = t ∨ q = F 5) s.heap s.heap := KJ.rf
  refine lv_aload_n hx hb d_Field_negate_0 rfl (lv_at hl 0 rfl) ?_
  refine q_get (C := "KateDesk$Field") (T := T_Field) (N := 7) (ci := 1) E ((hk.fd hK hfd).1) in_Field rfl 5 (by decide) w_181 rfl rfl d_Field_negate_1 ?_
  refine q_cS (rest := []) E (c_Limbs_clear l g n0 (F 5)) w_498 w_5 w_610 w_497 hd_Limbs_clear rfl ⟨by decide, by decide⟩ ((hk.fd hK hfd).2 5 (by decide)) hF hl.1 rfl (Nat.le_of_ble_eq_true rfl) d_Field_negate_4 ⟨by decide, by decide⟩ (qv (fun H1 locs hq hF => ?_))
  have hq := hq.1
  have hk := hk.tr (hq.mono (fun q h => Or.inr h))
  refine lv_aload_n hx hb d_Field_negate_7 rfl (lv_at hl 0 rfl) ?_
  refine lv_aload_n hx hb d_Field_negate_8 rfl (lv_at hl 1 rfl) ?_
  refine lv_aload_n hx hb d_Field_negate_9 rfl (lv_at hl 0 rfl) ?_
  refine q_get (C := "KateDesk$Field") (T := T_Field) (N := 7) (ci := 1) E ((hk.fd hK hfd).1) in_Field rfl 5 (by decide) w_181 rfl rfl d_Field_negate_10 ?_
  refine lv_aload_n hx hb d_Field_negate_13 rfl (lv_at hl 2 rfl) ?_
  refine q_cV (rest := []) E (c_Field_subtract l g n0 o t (F 5) a F mi) w_169 w_4 w_166 w_167 w_168 hd_Field_subtract rfl ⟨by decide, by decide⟩ (OB.recv E.2.2.2.2.2 (by rfl) ((hk.fd hK hfd).1)) (⟨hk.fd hK hfd, hk.j ht, (hk.fd hK hfd).2 5 (by decide), hk.j ha⟩) hF hl.1 rfl (Nat.le_of_ble_eq_true rfl) d_Field_negate_14 ⟨by decide, by decide⟩ (qv (fun H2 locs hq hF => ?_))
  have hk := hk.tr (hq.mono (fun q h => Or.inl h))
  exact q_vret E hr hlk (⟨rfl, hk⟩) hF d_Field_negate_17
set_option maxHeartbeats 4000000 in
set_option maxRecDepth 100000 in
theorem c_Field_lift (l : Launch) (g : WG) (n0 : Nat → Prop) (o t a : Nat) (F : Nat → Nat) (mi : Int64) : Ctr l y_Field_lift (.code y_Field_lift prog_3_method_9_code 3 none) 2 135 0 0 n0 g [.ref o, .ref t, .ref a] (fun H => FD g n0 H o F mi ∧ J14 g n0 H t ∧ J14 g n0 H a) (QV (fun H H' => KJ g (fun q => q = t) H H')) := by
  refine ctr_mk l (lv0 := [(0, .ref o), (1, .ref t), (2, .ref a)]) (by decide) (Nat.le_of_ble_eq_true rfl) rfl ?_
  intro p e s m below meth c ls E hr hlk hnm hl hP
  have hx := E.1
  have hb := E.2.1
  have hK := E.2.2.2.2.2
  have hF : ∀ q ∈ ([] : List Loc), n0 q.base := fun q hq => absurd hq List.not_mem_nil
  obtain ⟨hfd, ht, ha⟩ := hP
  have hk : KJ g (fun q => q = t) s.heap s.heap := KJ.rf
  refine lv_aload_n hx hb d_Field_lift_0 rfl (lv_at hl 0 rfl) ?_
  refine lv_aload_n hx hb d_Field_lift_1 rfl (lv_at hl 1 rfl) ?_
  refine lv_aload_n hx hb d_Field_lift_2 rfl (lv_at hl 2 rfl) ?_
  refine lv_aload_n hx hb d_Field_lift_3 rfl (lv_at hl 0 rfl) ?_
  refine q_get (C := "KateDesk$Field") (T := T_Field) (N := 7) (ci := 1) E ((hk.fd hK hfd).1) in_Field rfl 3 (by decide) w_179 rfl rfl d_Field_lift_4 ?_
  refine q_cV (rest := []) E (c_Field_multiply l g n0 o t a (F 3) F mi) w_165 w_4 w_162 w_163 w_164 hd_Field_multiply rfl ⟨by decide, by decide⟩ (OB.recv E.2.2.2.2.2 (by rfl) ((hk.fd hK hfd).1)) (⟨hk.fd hK hfd, hk.j ht, hk.j ha, (hk.fd hK hfd).2 3 (by decide)⟩) hF hl.1 rfl (Nat.le_of_ble_eq_true rfl) d_Field_lift_7 ⟨by decide, by decide⟩ (qv (fun H1 locs hq hF => ?_))
  have hk := hk.tr hq
  exact q_vret E hr hlk (⟨rfl, hk⟩) hF d_Field_lift_10
set_option maxHeartbeats 4000000 in
set_option maxRecDepth 100000 in
theorem c_Field_lower (l : Launch) (g : WG) (n0 : Nat → Prop) (o t a : Nat) (F : Nat → Nat) (mi : Int64) : Ctr l y_Field_lower (.code y_Field_lower prog_3_method_10_code 3 none) 2 135 0 0 n0 g [.ref o, .ref t, .ref a] (fun H => FD g n0 H o F mi ∧ J14 g n0 H t ∧ J14 g n0 H a) (QV (fun H H' => KJ g (fun q => q = t) H H')) := by
  refine ctr_mk l (lv0 := [(0, .ref o), (1, .ref t), (2, .ref a)]) (by decide) (Nat.le_of_ble_eq_true rfl) rfl ?_
  intro p e s m below meth c ls E hr hlk hnm hl hP
  have hx := E.1
  have hb := E.2.1
  have hK := E.2.2.2.2.2
  have hF : ∀ q ∈ ([] : List Loc), n0 q.base := fun q hq => absurd hq List.not_mem_nil
  obtain ⟨hfd, ht, ha⟩ := hP
  have hk : KJ g (fun q => q = t) s.heap s.heap := KJ.rf
  refine lv_aload_n hx hb d_Field_lower_0 rfl (lv_at hl 0 rfl) ?_
  refine lv_aload_n hx hb d_Field_lower_1 rfl (lv_at hl 1 rfl) ?_
  refine lv_aload_n hx hb d_Field_lower_2 rfl (lv_at hl 2 rfl) ?_
  refine lv_aload_n hx hb d_Field_lower_3 rfl (lv_at hl 0 rfl) ?_
  refine q_get (C := "KateDesk$Field") (T := T_Field) (N := 7) (ci := 1) E ((hk.fd hK hfd).1) in_Field rfl 2 (by decide) w_178 rfl rfl d_Field_lower_4 ?_
  refine q_cV (rest := []) E (c_Field_multiply l g n0 o t a (F 2) F mi) w_165 w_4 w_162 w_163 w_164 hd_Field_multiply rfl ⟨by decide, by decide⟩ (OB.recv E.2.2.2.2.2 (by rfl) ((hk.fd hK hfd).1)) (⟨hk.fd hK hfd, hk.j ht, hk.j ha, (hk.fd hK hfd).2 2 (by decide)⟩) hF hl.1 rfl (Nat.le_of_ble_eq_true rfl) d_Field_lower_7 ⟨by decide, by decide⟩ (qv (fun H1 locs hq hF => ?_))
  have hk := hk.tr hq
  exact q_vret E hr hlk (⟨rfl, hk⟩) hF d_Field_lower_10
set_option maxHeartbeats 4000000 in
set_option maxRecDepth 100000 in
theorem c_Field_doubled (l : Launch) (g : WG) (n0 : Nat → Prop) (o t N : Nat) (F : Nat → Nat) (mi : Int64) (hN : N < 2 ^ 31) : Ctr l y_Field_doubled (.code y_Field_doubled prog_3_method_3_code 4 none) 2 50 0 0 n0 g [.ref o, .ref t, .int (nI N)] (fun H => FD g n0 H o F mi ∧ J14 g n0 H t) (QV (fun H H' => KJ g (fun q => q = t) H H')) := by
  refine ctr_mk l (lv0 := [(0, .ref o), (1, .ref t), (2, .int (nI N))]) (by decide) (Nat.le_of_ble_eq_true rfl) rfl ?_
  intro p e s m below meth c ls E hr hlk hnm hl hP
  have hx := E.1
  have hb := E.2.1
  have hK := E.2.2.2.2.2
  have hF : ∀ q ∈ ([] : List Loc), n0 q.base := fun q hq => absurd hq List.not_mem_nil
  obtain ⟨hfd, ht⟩ := hP
  have loop : ∀ (k : Nat) (i : Nat) (H : Heap) (locs : List Loc) (ls : Array Slot), i + k = N → KJ g (fun q => q = t) s.heap H → (∀ q ∈ locs, n0 q.base) → lv_has ls 4 [(3, .int (nI i)), (0, .ref o), (1, .ref t), (2, .int (nI N))] → W p l e { frames := 2, cells := 0, slots := 0, locals := 50 } s m [.ref o, .ref t, .int (nI N)].toArray below meth c H locs 0 0 (MQ below (QcP (QV (fun H H' => KJ g (fun q => q = t) H H'))) [.ref o, .ref t, .int (nI N)].toArray s 0 0 (fun q => n0 q)) (F0 m 2 ls []) := by
    intro k
    induction k with
    | zero =>
      intro  i   H   locs   ls hi hk hF hl
      obtain rfl : i = N := by omega
      refine lv_iload_n hx hb d_Field_doubled_2 rfl (lv_at hl 0 rfl) ?_
      refine lv_iload_n hx hb d_Field_doubled_3 rfl (lv_at hl 3 rfl) ?_
      refine lv_icmp_ge (tgt := 20) hx hb d_Field_doubled_4 (by decide) (fun _ => ?_) (fun h9 => absurd (nI_le (Nat.le_refl _) hN) h9)
      exact q_vret E hr hlk (⟨rfl, hk⟩) hF d_Field_doubled_20
    | succ k ih =>
      intro  i   H   locs   ls hi hk hF hl
      have hiN : i < N := by omega
      refine lv_iload_n hx hb d_Field_doubled_2 rfl (lv_at hl 0 rfl) ?_
      refine lv_iload_n hx hb d_Field_doubled_3 rfl (lv_at hl 3 rfl) ?_
      refine lv_icmp_ge (tgt := 20) hx hb d_Field_doubled_4 (by decide) (fun h9 => absurd h9 (nI_ge hiN hN)) (fun _ => ?_)
      refine lv_aload_n hx hb d_Field_doubled_7 rfl (lv_at hl 1 rfl) ?_
      refine lv_aload_n hx hb d_Field_doubled_8 rfl (lv_at hl 2 rfl) ?_
      refine lv_aload_n hx hb d_Field_doubled_9 rfl (lv_at hl 2 rfl) ?_
      refine lv_aload_n hx hb d_Field_doubled_10 rfl (lv_at hl 2 rfl) ?_
      refine q_cV (rest := []) E (c_Field_add l g n0 o t t t F mi) w_157 w_4 w_154 w_155 w_156 hd_Field_add rfl ⟨by decide, by decide⟩ (OB.recv E.2.2.2.2.2 (by rfl) ((hk.fd hK hfd).1)) (⟨hk.fd hK hfd, hk.j ht, hk.j ht, hk.j ht⟩) hF hl.1 rfl (Nat.le_of_ble_eq_true rfl) d_Field_doubled_11 ⟨by decide, by decide⟩ (qv (fun H1 locs hq hF => ?_))
      have hk := hk.tr hq
      refine lv_iinc (k := 0) (v := nI (i + 1)) (lv' := [(3, .int (nI (i + 1))), (0, .ref o), (1, .ref t), (2, .int (nI N))]) hx hb d_Field_doubled_14 hl rfl (i_inc i) (by decide) rfl (fun ls hl => ?_)
      refine lv_goto (tgt := 2) hx hb d_Field_doubled_17 (by decide) ?_
      exact ih (i + 1) H1 locs ls (by omega) hk hF hl
  refine lv_iconst (v := nI 0) hx hb d_Field_doubled_0 (by decide) ?_
  refine lv_istore_n (lv' := [(3, .int (nI 0)), (0, .ref o), (1, .ref t), (2, .int (nI N))]) hx hb d_Field_doubled_1 rfl hl (by decide) rfl (fun ls hl => ?_)
  exact loop N 0 s.heap [] ls (by omega) KJ.rf hF hl
set_option maxHeartbeats 4000000 in
set_option maxRecDepth 100000 in
/-- a power -/
theorem c_Field_raise (l : Launch) (g : WG) (n0 : Nat → Prop) (o t a b : Nat) (F : Nat → Nat) (mi : Int64) : Ctr l y_Field_raise (.code y_Field_raise prog_3_method_11_code 6 none) 2 135 0 0 n0 g [.ref o, .ref t, .ref a, .ref b] (fun H => FD g n0 H o F mi ∧ J14 g n0 H t ∧ J14 g n0 H a ∧ J14 g n0 H b) (QV (fun H H' => KJ g (fun q => q = t ∨ q = F 5) H H')) := by
  refine ctr_mk l (lv0 := [(0, .ref o), (1, .ref t), (2, .ref a), (3, .ref b)]) (by decide) (Nat.le_of_ble_eq_true rfl) rfl ?_
  intro p e s m below meth c ls E hr hlk hnm hl hP
  have hx := E.1
  have hb := E.2.1
  have hK := E.2.2.2.2.2
  have hF : ∀ q ∈ ([] : List Loc), n0 q.base := fun q hq => absurd hq List.not_mem_nil
  obtain ⟨hfd, ht, ha, hb0⟩ := hP
  have loop : ∀ (k : Nat) (H : Heap) (locs : List Loc) (ls : Array Slot) (x bg : Int32), k ≤ 392 → x = nI k - 1 → KJ g (fun q => q = t ∨ q = F 5) s.heap H → (∀ q ∈ locs, n0 q.base) → lv_has ls 6 [(5, .int x), (4, .int bg), (0, .ref o), (1, .ref t), (2, .ref a), (3, .ref b)] → W p l e { frames := 2, cells := 0, slots := 0, locals := 135 } s m [.ref o, .ref t, .ref a, .ref b].toArray below meth c H locs 0 0 (MQ below (QcP (QV (fun H H' => KJ g (fun q => q = t ∨ q = F 5) H H'))) [.ref o, .ref t, .ref a, .ref b].toArray s 0 0 (fun q => n0 q)) (F0 m 24 ls []) := by
    intro k
    induction k with
    | zero =>
      intro  H   locs   ls   x bg hk0 hxx hk hF hl
      subst hxx
      refine lv_iload hx hb d_Field_raise_24 (lv_at hl 0 rfl) ?_
      refine lv_if_lt (tgt := 72) hx hb d_Field_raise_26 (by decide) (fun _ => ?_) (fun h9 => absurd (by decide) h9)
      exact q_vret E hr hlk (⟨rfl, hk⟩) hF d_Field_raise_72
    | succ k ih =>
      intro  H   locs   ls   x bg hk0 hxx hk hF hl
      rw [nI_pred] at hxx
      subst hxx
      refine lv_iload hx hb d_Field_raise_24 (lv_at hl 0 rfl) ?_
      refine lv_if_lt (tgt := 72) hx hb d_Field_raise_26 (by decide) (fun h9 => absurd h9 (nI_pos (by omega))) (fun _ => ?_)
      refine lv_iload hx hb d_Field_raise_29 (lv_at hl 1 rfl) ?_
      have tail : ∀ (H : Heap) (locs : List Loc) (ls : Array Slot) (bg : Int32), KJ g (fun q => q = t ∨ q = F 5) s.heap H → (∀ q ∈ locs, n0 q.base) → lv_has ls 6 [(5, .int (nI k)), (4, .int bg), (0, .ref o), (1, .ref t), (2, .ref a), (3, .ref b)] → W p l e { frames := 2, cells := 0, slots := 0, locals := 135 } s m [.ref o, .ref t, .ref a, .ref b].toArray below meth c H locs 0 0 (MQ below (QcP (QV (fun H H' => KJ g (fun q => q = t ∨ q = F 5) H H'))) [.ref o, .ref t, .ref a, .ref b].toArray s 0 0 (fun q => n0 q)) (F0 m 41 ls []) := by
        intro  H   locs   ls   bg hk hF hl
        refine lv_aload_n hx hb d_Field_raise_41 rfl (lv_at hl 5 rfl) ?_
        refine lv_iload hx hb d_Field_raise_42 (lv_at hl 0 rfl) ?_
        refine lv_iconst (v := nI 1) hx hb d_Field_raise_44 (by decide) ?_
        refine q_cS (rest := []) E (c_Limbs_bits l g n0 b (nI k) (nI 1)) w_271 w_5 w_575 w_270 hd_Limbs_bits rfl ⟨by decide, by decide⟩ (hk.j hb0) hF hl.1 rfl (Nat.le_of_ble_eq_true rfl) d_Field_raise_45 ⟨by decide, by decide⟩ (ql (fun r1 H1 locs hq hF => ?_))
        subst hq
        refine lv_lconst (v := 1) hx hb d_Field_raise_48 (by decide) ?_
        refine W.lcmp hx hb d_Field_raise_49 ?_
        refine lv_topi (fun v2 _ => ?_)
        refine lv_if_ne (tgt := 66) hx hb d_Field_raise_50 (by decide) (fun h => ?_) (fun h => ?_)
        rotate_left
        · skip
          refine lv_aload_n hx hb d_Field_raise_53 rfl (lv_at hl 2 rfl) ?_
          refine lv_aload_n hx hb d_Field_raise_54 rfl (lv_at hl 3 rfl) ?_
          refine lv_aload_n hx hb d_Field_raise_55 rfl (lv_at hl 3 rfl) ?_
          refine lv_aload_n hx hb d_Field_raise_56 rfl (lv_at hl 2 rfl) ?_
          refine q_get (C := "KateDesk$Field") (T := T_Field) (N := 7) (ci := 1) E ((hk.fd hK hfd).1) in_Field rfl 5 (by decide) w_181 rfl rfl d_Field_raise_57 ?_
          refine q_cV (rest := []) E (c_Field_multiply l g n0 o t t (F 5) F mi) w_165 w_4 w_162 w_163 w_164 hd_Field_multiply rfl ⟨by decide, by decide⟩ (OB.recv E.2.2.2.2.2 (by rfl) ((hk.fd hK hfd).1)) (⟨hk.fd hK hfd, hk.j ht, hk.j ht, (hk.fd hK hfd).2 5 (by decide)⟩) hF hl.1 rfl (Nat.le_of_ble_eq_true rfl) d_Field_raise_60 ⟨by decide, by decide⟩ (qv (fun H2 locs hq hF => ?_))
          have hk := hk.tr (hq.mono (fun q h => Or.inl h))
          refine lv_iconst (v := nI 1) hx hb d_Field_raise_63 (by decide) ?_
          refine lv_istore (lv' := [(4, .int (nI 1)), (5, .int (nI k)), (0, .ref o), (1, .ref t), (2, .ref a), (3, .ref b)]) hx hb d_Field_raise_64 hl (by decide) rfl (fun ls hl => ?_)
          refine lv_iinc (k := 1) (v := nI k - 1) (lv' := [(5, .int (nI k - 1)), (4, .int (nI 1)), (0, .ref o), (1, .ref t), (2, .ref a), (3, .ref b)]) hx hb d_Field_raise_66 hl rfl (i_dec (nI k)) (by decide) rfl (fun ls hl => ?_)
          refine lv_goto (tgt := 24) hx hb d_Field_raise_69 (by decide) ?_
          have hl : lv_has ls 6 [(5, .int (nI k - 1)), (4, .int (nI 1)), (0, .ref o), (1, .ref t), (2, .ref a), (3, .ref b)] := lv_sub hl [0, 1, 2, 3, 4, 5] rfl
          exact ih H2 locs ls _ _ (by omega) rfl hk hF hl
        refine lv_iinc (k := 0) (v := nI k - 1) (lv' := [(5, .int (nI k - 1)), (4, .int bg), (0, .ref o), (1, .ref t), (2, .ref a), (3, .ref b)]) hx hb d_Field_raise_66 hl rfl (i_dec (nI k)) (by decide) rfl (fun ls hl => ?_)
        refine lv_goto (tgt := 24) hx hb d_Field_raise_69 (by decide) ?_
        have hl : lv_has ls 6 [(5, .int (nI k - 1)), (4, .int bg), (0, .ref o), (1, .ref t), (2, .ref a), (3, .ref b)] := lv_sub hl [0, 1, 2, 3, 4, 5] rfl
        exact ih H1 locs ls _ _ (by omega) rfl hk hF hl
      refine lv_if_eq (tgt := 41) hx hb d_Field_raise_31 (by decide) (fun h => ?_) (fun h => ?_)
      rotate_left
      · skip
        refine lv_aload_n hx hb d_Field_raise_34 rfl (lv_at hl 2 rfl) ?_
        refine lv_aload_n hx hb d_Field_raise_35 rfl (lv_at hl 3 rfl) ?_
        refine lv_aload_n hx hb d_Field_raise_36 rfl (lv_at hl 3 rfl) ?_
        refine lv_aload_n hx hb d_Field_raise_37 rfl (lv_at hl 3 rfl) ?_
        refine q_cV (rest := []) E (c_Field_multiply l g n0 o t t t F mi) w_165 w_4 w_162 w_163 w_164 hd_Field_multiply rfl ⟨by decide, by decide⟩ (OB.recv E.2.2.2.2.2 (by rfl) ((hk.fd hK hfd).1)) (⟨hk.fd hK hfd, hk.j ht, hk.j ht, hk.j ht⟩) hF hl.1 rfl (Nat.le_of_ble_eq_true rfl) d_Field_raise_38 ⟨by decide, by decide⟩ (qv (fun H1 locs hq hF => ?_))
        have hk := hk.tr (hq.mono (fun q h => Or.inl h))
        exact tail H1 locs ls _ hk hF hl
      exact tail H locs ls _ hk hF hl
  have hk : KJ g (fun q => q = t ∨ q = F 5) s.heap s.heap := KJ.rf
  refine lv_aload_n hx hb d_Field_raise_0 rfl (lv_at hl 0 rfl) ?_
  refine q_get (C := "KateDesk$Field") (T := T_Field) (N := 7) (ci := 1) E ((hk.fd hK hfd).1) in_Field rfl 5 (by decide) w_181 rfl rfl d_Field_raise_1 ?_
  refine lv_aload_n hx hb d_Field_raise_4 rfl (lv_at hl 2 rfl) ?_
  obtain ⟨f1, hf1⟩ := (hk.j ha).2
  refine q_cS (rest := []) E (c_Limbs_copy l g n0 (F 5) a f1) w_146 w_5 w_144 w_145 hd_Limbs_copy rfl ⟨by decide, by decide⟩ (⟨(hk.fd hK hfd).2 5 (by decide), hf1⟩) hF hl.1 rfl (Nat.le_of_ble_eq_true rfl) d_Field_raise_5 ⟨by decide, by decide⟩ (qv (fun H1 locs hq hF => ?_))
  have hq := hq.1
  have hk := hk.tr (hq.mono (fun q h => Or.inr h))
  refine lv_aload_n hx hb d_Field_raise_8 rfl (lv_at hl 1 rfl) ?_
  refine lv_aload_n hx hb d_Field_raise_9 rfl (lv_at hl 0 rfl) ?_
  refine q_get (C := "KateDesk$Field") (T := T_Field) (N := 7) (ci := 1) E ((hk.fd hK hfd).1) in_Field rfl 1 (by decide) w_173 rfl rfl d_Field_raise_10 ?_
  obtain ⟨f2, hf2⟩ := ((hk.fd hK hfd).2 1 (by decide)).2
  refine q_cS (rest := []) E (c_Limbs_copy l g n0 t (F 1) f2) w_146 w_5 w_144 w_145 hd_Limbs_copy rfl ⟨by decide, by decide⟩ (⟨hk.j ht, hf2⟩) hF hl.1 rfl (Nat.le_of_ble_eq_true rfl) d_Field_raise_13 ⟨by decide, by decide⟩ (qv (fun H2 locs hq hF => ?_))
  have hq := hq.1
  have hk := hk.tr (hq.mono (fun q h => Or.inl h))
  refine lv_iconst (v := nI 0) hx hb d_Field_raise_16 (by decide) ?_
  refine lv_istore (lv' := [(4, .int (nI 0)), (0, .ref o), (1, .ref t), (2, .ref a), (3, .ref b)]) hx hb d_Field_raise_17 hl (by decide) rfl (fun ls hl => ?_)
  refine lv_sipush (v := nI 391) hx hb d_Field_raise_19 (by decide) ?_
  refine lv_istore (lv' := [(5, .int (nI 391)), (4, .int (nI 0)), (0, .ref o), (1, .ref t), (2, .ref a), (3, .ref b)]) hx hb d_Field_raise_22 hl (by decide) rfl (fun ls hl => ?_)
  have hl : lv_has ls 6 [(5, .int (nI 391)), (4, .int (nI 0)), (0, .ref o), (1, .ref t), (2, .ref a), (3, .ref b)] := lv_sub hl [0, 1, 2, 3, 4, 5] rfl
  exact loop 392 H2 locs ls _ _ (by decide) (by decide) hk hF hl
end
section
/-- the curve: its field, its nine rows -/
def CV (g : WG) (n0 : Nat → Prop) (H : Heap) (o fo : Nat) (F : Nat → Nat) (mi : Int64) (X : Nat → Nat) : Prop := OB g H o 0 [.ref fo, .ref (X 0), .ref (X 1), .ref (X 2), .ref (X 3), .ref (X 4), .ref (X 5), .ref (X 6), .ref (X 7), .ref (X 8)] ∧ FD g n0 H fo F mi ∧ ∀ k, k < 9 → J14 g n0 H (X k)
theorem KJ.cv {g : WG} {S : Nat → Prop} {n0 : Nat → Prop} {H H' : Heap} {U : State} (h : KJ g S H H') (hK : KW g U) {o fo : Nat} {F : Nat → Nat} {mi : Int64} {X : Nat → Nat} (hf : CV g n0 H o fo F mi X) : CV g n0 H' o fo F mi X := ⟨h.ob hK hf.1, h.fd hK hf.2.1, fun k hk => h.j (hf.2.2 k hk)⟩
/-- the modulus: no limb below 0, the lowest not 0 -/
def MD (g : WG) (H : Heap) (a : Nat) : Prop := ∃ f, AJ g H a 14 f ∧ (∀ i, i < 14 → ¬ f i < 0) ∧ f 0 ≠ 0
theorem KJ.md {g : WG} {S : Nat → Prop} {H H' : Heap} (h : KJ g S H H') {a : Nat} (hq : ¬ S a) (hm : MD g H a) : MD g H' a := by
  obtain ⟨f, h1, h2⟩ := hm
  exact ⟨f, h.ajo hq h1, h2⟩
abbrev y_Curve_mixed : MethodName := ⟨"KateDesk$Curve", "mixed", "([J[J[J[J[J[J[J)V"⟩
theorem hd_Curve_mixed : y_Curve_mixed.cls ≠ "java/lang/invoke/MethodHandle" ∧ y_Curve_mixed.cls ≠ "java/lang/invoke/VarHandle" ∧ (parseMethodDescriptor y_Curve_mixed.desc).map (fun d => d.parameters.length) = some 7 := by decide +kernel
theorem d_Curve_mixed_0 : decode prog_2_method_3_code 0 = .ok (.aload_n 0, 1) := by decide +kernel
theorem d_Curve_mixed_1 : decode prog_2_method_3_code 1 = .ok (.getfield 39, 3) := by decide +kernel
theorem d_Curve_mixed_4 : decode prog_2_method_3_code 4 = .ok (.aload_n 0, 1) := by decide +kernel
theorem d_Curve_mixed_5 : decode prog_2_method_3_code 5 = .ok (.getfield 30, 3) := by decide +kernel
theorem d_Curve_mixed_8 : decode prog_2_method_3_code 8 = .ok (.aload_n 2, 1) := by decide +kernel
theorem d_Curve_mixed_9 : decode prog_2_method_3_code 9 = .ok (.aload_n 3, 1) := by decide +kernel
theorem d_Curve_mixed_10 : decode prog_2_method_3_code 10 = .ok (.invokevirtual 68, 3) := by decide +kernel
theorem d_Curve_mixed_13 : decode prog_2_method_3_code 13 = .ok (.aload_n 0, 1) := by decide +kernel
theorem d_Curve_mixed_14 : decode prog_2_method_3_code 14 = .ok (.getfield 39, 3) := by decide +kernel
theorem d_Curve_mixed_17 : decode prog_2_method_3_code 17 = .ok (.aload_n 0, 1) := by decide +kernel
theorem d_Curve_mixed_18 : decode prog_2_method_3_code 18 = .ok (.getfield 33, 3) := by decide +kernel
theorem d_Curve_mixed_21 : decode prog_2_method_3_code 21 = .ok (.aload 4, 2) := by decide +kernel
theorem d_Curve_mixed_23 : decode prog_2_method_3_code 23 = .ok (.aload 5, 2) := by decide +kernel
theorem d_Curve_mixed_25 : decode prog_2_method_3_code 25 = .ok (.invokevirtual 68, 3) := by decide +kernel
theorem d_Curve_mixed_28 : decode prog_2_method_3_code 28 = .ok (.aload_n 0, 1) := by decide +kernel
theorem d_Curve_mixed_29 : decode prog_2_method_3_code 29 = .ok (.getfield 39, 3) := by decide +kernel
theorem d_Curve_mixed_32 : decode prog_2_method_3_code 32 = .ok (.aload_n 1, 1) := by decide +kernel
theorem d_Curve_mixed_33 : decode prog_2_method_3_code 33 = .ok (.aload_n 0, 1) := by decide +kernel
theorem d_Curve_mixed_34 : decode prog_2_method_3_code 34 = .ok (.getfield 30, 3) := by decide +kernel
theorem d_Curve_mixed_37 : decode prog_2_method_3_code 37 = .ok (.aload_n 0, 1) := by decide +kernel
theorem d_Curve_mixed_38 : decode prog_2_method_3_code 38 = .ok (.getfield 33, 3) := by decide +kernel
theorem d_Curve_mixed_41 : decode prog_2_method_3_code 41 = .ok (.invokevirtual 57, 3) := by decide +kernel
theorem d_Curve_mixed_44 : decode prog_2_method_3_code 44 = .ok (.aload_n 0, 1) := by decide +kernel
theorem d_Curve_mixed_45 : decode prog_2_method_3_code 45 = .ok (.getfield 39, 3) := by decide +kernel
theorem d_Curve_mixed_48 : decode prog_2_method_3_code 48 = .ok (.aload_n 1, 1) := by decide +kernel
theorem d_Curve_mixed_49 : decode prog_2_method_3_code 49 = .ok (.aload_n 1, 1) := by decide +kernel
theorem d_Curve_mixed_50 : decode prog_2_method_3_code 50 = .ok (.aload 6, 2) := by decide +kernel
theorem d_Curve_mixed_52 : decode prog_2_method_3_code 52 = .ok (.invokevirtual 74, 3) := by decide +kernel
theorem d_Curve_mixed_55 : decode prog_2_method_3_code 55 = .ok (.aload_n 0, 1) := by decide +kernel
theorem d_Curve_mixed_56 : decode prog_2_method_3_code 56 = .ok (.getfield 39, 3) := by decide +kernel
theorem d_Curve_mixed_59 : decode prog_2_method_3_code 59 = .ok (.aload_n 1, 1) := by decide +kernel
theorem d_Curve_mixed_60 : decode prog_2_method_3_code 60 = .ok (.aload_n 1, 1) := by decide +kernel
theorem d_Curve_mixed_61 : decode prog_2_method_3_code 61 = .ok (.aload 7, 2) := by decide +kernel
theorem d_Curve_mixed_63 : decode prog_2_method_3_code 63 = .ok (.invokevirtual 74, 3) := by decide +kernel
theorem d_Curve_mixed_66 : decode prog_2_method_3_code 66 = .ok (.return_, 1) := by decide +kernel
abbrev y_Curve_twelvefold : MethodName := ⟨"KateDesk$Curve", "twelvefold", "([J[J)V"⟩
theorem hd_Curve_twelvefold : y_Curve_twelvefold.cls ≠ "java/lang/invoke/MethodHandle" ∧ y_Curve_twelvefold.cls ≠ "java/lang/invoke/VarHandle" ∧ (parseMethodDescriptor y_Curve_twelvefold.desc).map (fun d => d.parameters.length) = some 2 := by decide +kernel
theorem d_Curve_twelvefold_0 : decode prog_2_method_4_code 0 = .ok (.aload_n 0, 1) := by decide +kernel
theorem d_Curve_twelvefold_1 : decode prog_2_method_4_code 1 = .ok (.getfield 39, 3) := by decide +kernel
theorem d_Curve_twelvefold_4 : decode prog_2_method_4_code 4 = .ok (.aload_n 0, 1) := by decide +kernel
theorem d_Curve_twelvefold_5 : decode prog_2_method_4_code 5 = .ok (.getfield 30, 3) := by decide +kernel
theorem d_Curve_twelvefold_8 : decode prog_2_method_4_code 8 = .ok (.aload_n 2, 1) := by decide +kernel
theorem d_Curve_twelvefold_9 : decode prog_2_method_4_code 9 = .ok (.aload_n 2, 1) := by decide +kernel
theorem d_Curve_twelvefold_10 : decode prog_2_method_4_code 10 = .ok (.invokevirtual 68, 3) := by decide +kernel
theorem d_Curve_twelvefold_13 : decode prog_2_method_4_code 13 = .ok (.aload_n 0, 1) := by decide +kernel
theorem d_Curve_twelvefold_14 : decode prog_2_method_4_code 14 = .ok (.getfield 39, 3) := by decide +kernel
theorem d_Curve_twelvefold_17 : decode prog_2_method_4_code 17 = .ok (.aload_n 0, 1) := by decide +kernel
theorem d_Curve_twelvefold_18 : decode prog_2_method_4_code 18 = .ok (.getfield 30, 3) := by decide +kernel
theorem d_Curve_twelvefold_21 : decode prog_2_method_4_code 21 = .ok (.aload_n 0, 1) := by decide +kernel
theorem d_Curve_twelvefold_22 : decode prog_2_method_4_code 22 = .ok (.getfield 30, 3) := by decide +kernel
theorem d_Curve_twelvefold_25 : decode prog_2_method_4_code 25 = .ok (.aload_n 2, 1) := by decide +kernel
theorem d_Curve_twelvefold_26 : decode prog_2_method_4_code 26 = .ok (.invokevirtual 68, 3) := by decide +kernel
theorem d_Curve_twelvefold_29 : decode prog_2_method_4_code 29 = .ok (.aload_n 0, 1) := by decide +kernel
theorem d_Curve_twelvefold_30 : decode prog_2_method_4_code 30 = .ok (.getfield 39, 3) := by decide +kernel
theorem d_Curve_twelvefold_33 : decode prog_2_method_4_code 33 = .ok (.aload_n 0, 1) := by decide +kernel
theorem d_Curve_twelvefold_34 : decode prog_2_method_4_code 34 = .ok (.getfield 30, 3) := by decide +kernel
theorem d_Curve_twelvefold_37 : decode prog_2_method_4_code 37 = .ok (.aload_n 0, 1) := by decide +kernel
theorem d_Curve_twelvefold_38 : decode prog_2_method_4_code 38 = .ok (.getfield 30, 3) := by decide +kernel
theorem d_Curve_twelvefold_41 : decode prog_2_method_4_code 41 = .ok (.aload_n 0, 1) := by decide +kernel
theorem d_Curve_twelvefold_42 : decode prog_2_method_4_code 42 = .ok (.getfield 30, 3) := by decide +kernel
theorem d_Curve_twelvefold_45 : decode prog_2_method_4_code 45 = .ok (.invokevirtual 68, 3) := by decide +kernel
theorem d_Curve_twelvefold_48 : decode prog_2_method_4_code 48 = .ok (.aload_n 0, 1) := by decide +kernel
theorem d_Curve_twelvefold_49 : decode prog_2_method_4_code 49 = .ok (.getfield 39, 3) := by decide +kernel
theorem d_Curve_twelvefold_52 : decode prog_2_method_4_code 52 = .ok (.aload_n 1, 1) := by decide +kernel
theorem d_Curve_twelvefold_53 : decode prog_2_method_4_code 53 = .ok (.aload_n 0, 1) := by decide +kernel
theorem d_Curve_twelvefold_54 : decode prog_2_method_4_code 54 = .ok (.getfield 30, 3) := by decide +kernel
theorem d_Curve_twelvefold_57 : decode prog_2_method_4_code 57 = .ok (.aload_n 0, 1) := by decide +kernel
theorem d_Curve_twelvefold_58 : decode prog_2_method_4_code 58 = .ok (.getfield 30, 3) := by decide +kernel
theorem d_Curve_twelvefold_61 : decode prog_2_method_4_code 61 = .ok (.invokevirtual 68, 3) := by decide +kernel
theorem d_Curve_twelvefold_64 : decode prog_2_method_4_code 64 = .ok (.return_, 1) := by decide +kernel
abbrev y_Curve_equal : MethodName := ⟨"KateDesk$Curve", "equal", "(LKateDesk$Point;LKateDesk$Point;)Z"⟩
theorem hd_Curve_equal : y_Curve_equal.cls ≠ "java/lang/invoke/MethodHandle" ∧ y_Curve_equal.cls ≠ "java/lang/invoke/VarHandle" ∧ (parseMethodDescriptor y_Curve_equal.desc).map (fun d => d.parameters.length) = some 2 := by decide +kernel
theorem d_Curve_equal_0 : decode prog_2_method_6_code 0 = .ok (.aload_n 0, 1) := by decide +kernel
theorem d_Curve_equal_1 : decode prog_2_method_6_code 1 = .ok (.aload_n 1, 1) := by decide +kernel
theorem d_Curve_equal_2 : decode prog_2_method_6_code 2 = .ok (.getfield 54, 3) := by decide +kernel
theorem d_Curve_equal_5 : decode prog_2_method_6_code 5 = .ok (.aload_n 1, 1) := by decide +kernel
theorem d_Curve_equal_6 : decode prog_2_method_6_code 6 = .ok (.getfield 61, 3) := by decide +kernel
theorem d_Curve_equal_9 : decode prog_2_method_6_code 9 = .ok (.aload_n 2, 1) := by decide +kernel
theorem d_Curve_equal_10 : decode prog_2_method_6_code 10 = .ok (.getfield 54, 3) := by decide +kernel
theorem d_Curve_equal_13 : decode prog_2_method_6_code 13 = .ok (.aload_n 2, 1) := by decide +kernel
theorem d_Curve_equal_14 : decode prog_2_method_6_code 14 = .ok (.getfield 61, 3) := by decide +kernel
theorem d_Curve_equal_17 : decode prog_2_method_6_code 17 = .ok (.invokevirtual 77, 3) := by decide +kernel
theorem d_Curve_equal_20 : decode prog_2_method_6_code 20 = .ok (.ifCond .eq 30, 3) := by decide +kernel
theorem d_Curve_equal_23 : decode prog_2_method_6_code 23 = .ok (.aload_n 0, 1) := by decide +kernel
theorem d_Curve_equal_24 : decode prog_2_method_6_code 24 = .ok (.aload_n 1, 1) := by decide +kernel
theorem d_Curve_equal_25 : decode prog_2_method_6_code 25 = .ok (.getfield 43, 3) := by decide +kernel
theorem d_Curve_equal_28 : decode prog_2_method_6_code 28 = .ok (.aload_n 1, 1) := by decide +kernel
theorem d_Curve_equal_29 : decode prog_2_method_6_code 29 = .ok (.getfield 61, 3) := by decide +kernel
theorem d_Curve_equal_32 : decode prog_2_method_6_code 32 = .ok (.aload_n 2, 1) := by decide +kernel
theorem d_Curve_equal_33 : decode prog_2_method_6_code 33 = .ok (.getfield 43, 3) := by decide +kernel
theorem d_Curve_equal_36 : decode prog_2_method_6_code 36 = .ok (.aload_n 2, 1) := by decide +kernel
theorem d_Curve_equal_37 : decode prog_2_method_6_code 37 = .ok (.getfield 61, 3) := by decide +kernel
theorem d_Curve_equal_40 : decode prog_2_method_6_code 40 = .ok (.invokevirtual 77, 3) := by decide +kernel
theorem d_Curve_equal_43 : decode prog_2_method_6_code 43 = .ok (.ifCond .eq 7, 3) := by decide +kernel
theorem d_Curve_equal_46 : decode prog_2_method_6_code 46 = .ok (.iconst 1, 1) := by decide +kernel
theorem d_Curve_equal_47 : decode prog_2_method_6_code 47 = .ok (.goto 4, 3) := by decide +kernel
theorem d_Curve_equal_50 : decode prog_2_method_6_code 50 = .ok (.iconst 0, 1) := by decide +kernel
theorem d_Curve_equal_51 : decode prog_2_method_6_code 51 = .ok (.ireturn, 1) := by decide +kernel
abbrev y_Curve_equalRatios : MethodName := ⟨"KateDesk$Curve", "equalRatios", "([J[J[J[J)Z"⟩
theorem hd_Curve_equalRatios : y_Curve_equalRatios.cls ≠ "java/lang/invoke/MethodHandle" ∧ y_Curve_equalRatios.cls ≠ "java/lang/invoke/VarHandle" ∧ (parseMethodDescriptor y_Curve_equalRatios.desc).map (fun d => d.parameters.length) = some 4 := by decide +kernel
theorem d_Curve_equalRatios_0 : decode prog_2_method_7_code 0 = .ok (.aload_n 0, 1) := by decide +kernel
theorem d_Curve_equalRatios_1 : decode prog_2_method_7_code 1 = .ok (.getfield 39, 3) := by decide +kernel
theorem d_Curve_equalRatios_4 : decode prog_2_method_7_code 4 = .ok (.aload_n 0, 1) := by decide +kernel
theorem d_Curve_equalRatios_5 : decode prog_2_method_7_code 5 = .ok (.getfield 30, 3) := by decide +kernel
theorem d_Curve_equalRatios_8 : decode prog_2_method_7_code 8 = .ok (.aload_n 1, 1) := by decide +kernel
theorem d_Curve_equalRatios_9 : decode prog_2_method_7_code 9 = .ok (.aload 4, 2) := by decide +kernel
theorem d_Curve_equalRatios_11 : decode prog_2_method_7_code 11 = .ok (.invokevirtual 57, 3) := by decide +kernel
theorem d_Curve_equalRatios_14 : decode prog_2_method_7_code 14 = .ok (.aload_n 0, 1) := by decide +kernel
theorem d_Curve_equalRatios_15 : decode prog_2_method_7_code 15 = .ok (.getfield 39, 3) := by decide +kernel
theorem d_Curve_equalRatios_18 : decode prog_2_method_7_code 18 = .ok (.aload_n 0, 1) := by decide +kernel
theorem d_Curve_equalRatios_19 : decode prog_2_method_7_code 19 = .ok (.getfield 33, 3) := by decide +kernel
theorem d_Curve_equalRatios_22 : decode prog_2_method_7_code 22 = .ok (.aload_n 3, 1) := by decide +kernel
theorem d_Curve_equalRatios_23 : decode prog_2_method_7_code 23 = .ok (.aload_n 2, 1) := by decide +kernel
theorem d_Curve_equalRatios_24 : decode prog_2_method_7_code 24 = .ok (.invokevirtual 57, 3) := by decide +kernel
theorem d_Curve_equalRatios_27 : decode prog_2_method_7_code 27 = .ok (.aload_n 0, 1) := by decide +kernel
theorem d_Curve_equalRatios_28 : decode prog_2_method_7_code 28 = .ok (.getfield 30, 3) := by decide +kernel
theorem d_Curve_equalRatios_31 : decode prog_2_method_7_code 31 = .ok (.aload_n 0, 1) := by decide +kernel
theorem d_Curve_equalRatios_32 : decode prog_2_method_7_code 32 = .ok (.getfield 33, 3) := by decide +kernel
theorem d_Curve_equalRatios_35 : decode prog_2_method_7_code 35 = .ok (.invokestatic 81, 3) := by decide +kernel
theorem d_Curve_equalRatios_38 : decode prog_2_method_7_code 38 = .ok (.ireturn, 1) := by decide +kernel
set_option maxHeartbeats 4000000 in
set_option maxRecDepth 100000 in
theorem c_Curve_mixed (l : Launch) (g : WG) (n0 : Nat → Prop) (o : Nat) (fo : Nat) (F : Nat → Nat) (mi : Int64) (X : Nat → Nat) (t a b u d v w : Nat) : Ctr l y_Curve_mixed (.code y_Curve_mixed prog_2_method_3_code 8 none) 2 135 0 0 n0 g [.ref o, .ref t, .ref a, .ref b, .ref u, .ref d, .ref v, .ref w] (fun H => CV g n0 H o fo F mi X ∧ J14 g n0 H t ∧ J14 g n0 H a ∧ J14 g n0 H b ∧ J14 g n0 H u ∧ J14 g n0 H d ∧ J14 g n0 H v ∧ J14 g n0 H w) (QV (fun H H' => KJ g (fun q => n0 q) H H')) := by
  refine ctr_mk l (lv0 := [(0, .ref o), (1, .ref t), (2, .ref a), (3, .ref b), (4, .ref u), (5, .ref d), (6, .ref v), (7, .ref w)]) (by decide) (Nat.le_of_ble_eq_true rfl) rfl ?_
  intro p e s m below meth c ls E hr hlk hnm hl hP
  have hx := E.1
  have hb := E.2.1
  have hK := E.2.2.2.2.2
  have hF : ∀ q ∈ ([] : List Loc), n0 q.base := fun q hq => absurd hq List.not_mem_nil
  obtain ⟨hcv, h_t, h_a, h_b, h_u, h_d, h_v, h_w⟩ := hP
  have hk : KJ g (fun q => n0 q) s.heap s.heap := KJ.rf
  refine lv_aload_n hx hb d_Curve_mixed_0 rfl (lv_at hl 0 rfl) ?_
  refine q_get (C := "KateDesk$Curve") (T := T_Curve) (N := 10) (ci := 0) E ((hk.cv hK hcv).1) in_Curve rfl 0 (by decide) w_205 rfl rfl d_Curve_mixed_1 ?_
  refine lv_aload_n hx hb d_Curve_mixed_4 rfl (lv_at hl 0 rfl) ?_
  refine q_get (C := "KateDesk$Curve") (T := T_Curve) (N := 10) (ci := 0) E ((hk.cv hK hcv).1) in_Curve rfl 7 (by decide) w_212 rfl rfl d_Curve_mixed_5 ?_
  refine lv_aload_n hx hb d_Curve_mixed_8 rfl (lv_at hl 2 rfl) ?_
  refine lv_aload_n hx hb d_Curve_mixed_9 rfl (lv_at hl 3 rfl) ?_
  refine q_cV (rest := []) E (c_Field_add l g n0 fo (X 6) a b F mi) w_157 w_4 w_653 w_155 w_156 hd_Field_add rfl ⟨by decide, by decide⟩ (OB.recv E.2.2.2.2.2 (by rfl) (((hk.cv hK hcv).2.1).1)) (⟨(hk.cv hK hcv).2.1, (hk.cv hK hcv).2.2 6 (by decide), hk.j h_a, hk.j h_b⟩) hF hl.1 rfl (Nat.le_of_ble_eq_true rfl) d_Curve_mixed_10 ⟨by decide, by decide⟩ (qv (fun H1 locs hq hF => ?_))
  have hk := hk.tr (hq.w1 ((hk.cv hK hcv).2.2 6 (by decide)).1)
  refine lv_aload_n hx hb d_Curve_mixed_13 rfl (lv_at hl 0 rfl) ?_
  refine q_get (C := "KateDesk$Curve") (T := T_Curve) (N := 10) (ci := 0) E ((hk.cv hK hcv).1) in_Curve rfl 0 (by decide) w_205 rfl rfl d_Curve_mixed_14 ?_
  refine lv_aload_n hx hb d_Curve_mixed_17 rfl (lv_at hl 0 rfl) ?_
  refine q_get (C := "KateDesk$Curve") (T := T_Curve) (N := 10) (ci := 0) E ((hk.cv hK hcv).1) in_Curve rfl 8 (by decide) w_213 rfl rfl d_Curve_mixed_18 ?_
  refine lv_aload hx hb d_Curve_mixed_21 (lv_at hl 4 rfl) ?_
  refine lv_aload hx hb d_Curve_mixed_23 (lv_at hl 5 rfl) ?_
  refine q_cV (rest := []) E (c_Field_add l g n0 fo (X 7) u d F mi) w_157 w_4 w_653 w_155 w_156 hd_Field_add rfl ⟨by decide, by decide⟩ (OB.recv E.2.2.2.2.2 (by rfl) (((hk.cv hK hcv).2.1).1)) (⟨(hk.cv hK hcv).2.1, (hk.cv hK hcv).2.2 7 (by decide), hk.j h_u, hk.j h_d⟩) hF hl.1 rfl (Nat.le_of_ble_eq_true rfl) d_Curve_mixed_25 ⟨by decide, by decide⟩ (qv (fun H2 locs hq hF => ?_))
  have hk := hk.tr (hq.w1 ((hk.cv hK hcv).2.2 7 (by decide)).1)
  refine lv_aload_n hx hb d_Curve_mixed_28 rfl (lv_at hl 0 rfl) ?_
  refine q_get (C := "KateDesk$Curve") (T := T_Curve) (N := 10) (ci := 0) E ((hk.cv hK hcv).1) in_Curve rfl 0 (by decide) w_205 rfl rfl d_Curve_mixed_29 ?_
  refine lv_aload_n hx hb d_Curve_mixed_32 rfl (lv_at hl 1 rfl) ?_
  refine lv_aload_n hx hb d_Curve_mixed_33 rfl (lv_at hl 0 rfl) ?_
  refine q_get (C := "KateDesk$Curve") (T := T_Curve) (N := 10) (ci := 0) E ((hk.cv hK hcv).1) in_Curve rfl 7 (by decide) w_212 rfl rfl d_Curve_mixed_34 ?_
  refine lv_aload_n hx hb d_Curve_mixed_37 rfl (lv_at hl 0 rfl) ?_
  refine q_get (C := "KateDesk$Curve") (T := T_Curve) (N := 10) (ci := 0) E ((hk.cv hK hcv).1) in_Curve rfl 8 (by decide) w_213 rfl rfl d_Curve_mixed_38 ?_
  refine q_cV (rest := []) E (c_Field_multiply l g n0 fo t (X 6) (X 7) F mi) w_165 w_4 w_652 w_163 w_164 hd_Field_multiply rfl ⟨by decide, by decide⟩ (OB.recv E.2.2.2.2.2 (by rfl) (((hk.cv hK hcv).2.1).1)) (⟨(hk.cv hK hcv).2.1, hk.j h_t, (hk.cv hK hcv).2.2 6 (by decide), (hk.cv hK hcv).2.2 7 (by decide)⟩) hF hl.1 rfl (Nat.le_of_ble_eq_true rfl) d_Curve_mixed_41 ⟨by decide, by decide⟩ (qv (fun H3 locs hq hF => ?_))
  have hk := hk.tr (hq.w1 (hk.j h_t).1)
  refine lv_aload_n hx hb d_Curve_mixed_44 rfl (lv_at hl 0 rfl) ?_
  refine q_get (C := "KateDesk$Curve") (T := T_Curve) (N := 10) (ci := 0) E ((hk.cv hK hcv).1) in_Curve rfl 0 (by decide) w_205 rfl rfl d_Curve_mixed_45 ?_
  refine lv_aload_n hx hb d_Curve_mixed_48 rfl (lv_at hl 1 rfl) ?_
  refine lv_aload_n hx hb d_Curve_mixed_49 rfl (lv_at hl 1 rfl) ?_
  refine lv_aload hx hb d_Curve_mixed_50 (lv_at hl 6 rfl) ?_
  refine q_cV (rest := []) E (c_Field_subtract l g n0 fo t t v F mi) w_169 w_4 w_707 w_167 w_168 hd_Field_subtract rfl ⟨by decide, by decide⟩ (OB.recv E.2.2.2.2.2 (by rfl) (((hk.cv hK hcv).2.1).1)) (⟨(hk.cv hK hcv).2.1, hk.j h_t, hk.j h_t, hk.j h_v⟩) hF hl.1 rfl (Nat.le_of_ble_eq_true rfl) d_Curve_mixed_52 ⟨by decide, by decide⟩ (qv (fun H4 locs hq hF => ?_))
  have hk := hk.tr (hq.w1 (hk.j h_t).1)
  refine lv_aload_n hx hb d_Curve_mixed_55 rfl (lv_at hl 0 rfl) ?_
  refine q_get (C := "KateDesk$Curve") (T := T_Curve) (N := 10) (ci := 0) E ((hk.cv hK hcv).1) in_Curve rfl 0 (by decide) w_205 rfl rfl d_Curve_mixed_56 ?_
  refine lv_aload_n hx hb d_Curve_mixed_59 rfl (lv_at hl 1 rfl) ?_
  refine lv_aload_n hx hb d_Curve_mixed_60 rfl (lv_at hl 1 rfl) ?_
  refine lv_aload hx hb d_Curve_mixed_61 (lv_at hl 7 rfl) ?_
  refine q_cV (rest := []) E (c_Field_subtract l g n0 fo t t w F mi) w_169 w_4 w_707 w_167 w_168 hd_Field_subtract rfl ⟨by decide, by decide⟩ (OB.recv E.2.2.2.2.2 (by rfl) (((hk.cv hK hcv).2.1).1)) (⟨(hk.cv hK hcv).2.1, hk.j h_t, hk.j h_t, hk.j h_w⟩) hF hl.1 rfl (Nat.le_of_ble_eq_true rfl) d_Curve_mixed_63 ⟨by decide, by decide⟩ (qv (fun H5 locs hq hF => ?_))
  have hk := hk.tr (hq.w1 (hk.j h_t).1)
  exact q_vret E hr hlk (⟨rfl, hk⟩) hF d_Curve_mixed_66
set_option maxHeartbeats 4000000 in
set_option maxRecDepth 100000 in
theorem c_Curve_twelvefold (l : Launch) (g : WG) (n0 : Nat → Prop) (o : Nat) (fo : Nat) (F : Nat → Nat) (mi : Int64) (X : Nat → Nat) (t a : Nat) : Ctr l y_Curve_twelvefold (.code y_Curve_twelvefold prog_2_method_4_code 3 none) 2 50 0 0 n0 g [.ref o, .ref t, .ref a] (fun H => CV g n0 H o fo F mi X ∧ J14 g n0 H t ∧ J14 g n0 H a) (QV (fun H H' => KJ g (fun q => n0 q) H H')) := by
  refine ctr_mk l (lv0 := [(0, .ref o), (1, .ref t), (2, .ref a)]) (by decide) (Nat.le_of_ble_eq_true rfl) rfl ?_
  intro p e s m below meth c ls E hr hlk hnm hl hP
  have hx := E.1
  have hb := E.2.1
  have hK := E.2.2.2.2.2
  have hF : ∀ q ∈ ([] : List Loc), n0 q.base := fun q hq => absurd hq List.not_mem_nil
  obtain ⟨hcv, h_t, h_a⟩ := hP
  have hk : KJ g (fun q => n0 q) s.heap s.heap := KJ.rf
  refine lv_aload_n hx hb d_Curve_twelvefold_0 rfl (lv_at hl 0 rfl) ?_
  refine q_get (C := "KateDesk$Curve") (T := T_Curve) (N := 10) (ci := 0) E ((hk.cv hK hcv).1) in_Curve rfl 0 (by decide) w_205 rfl rfl d_Curve_twelvefold_1 ?_
  refine lv_aload_n hx hb d_Curve_twelvefold_4 rfl (lv_at hl 0 rfl) ?_
  refine q_get (C := "KateDesk$Curve") (T := T_Curve) (N := 10) (ci := 0) E ((hk.cv hK hcv).1) in_Curve rfl 7 (by decide) w_212 rfl rfl d_Curve_twelvefold_5 ?_
  refine lv_aload_n hx hb d_Curve_twelvefold_8 rfl (lv_at hl 2 rfl) ?_
  refine lv_aload_n hx hb d_Curve_twelvefold_9 rfl (lv_at hl 2 rfl) ?_
  refine q_cV (rest := []) E (c_Field_add l g n0 fo (X 6) a a F mi) w_157 w_4 w_653 w_155 w_156 hd_Field_add rfl ⟨by decide, by decide⟩ (OB.recv E.2.2.2.2.2 (by rfl) (((hk.cv hK hcv).2.1).1)) (⟨(hk.cv hK hcv).2.1, (hk.cv hK hcv).2.2 6 (by decide), hk.j h_a, hk.j h_a⟩) hF hl.1 rfl (Nat.le_of_ble_eq_true rfl) d_Curve_twelvefold_10 ⟨by decide, by decide⟩ (qv (fun H1 locs hq hF => ?_))
  have hk := hk.tr (hq.w1 ((hk.cv hK hcv).2.2 6 (by decide)).1)
  refine lv_aload_n hx hb d_Curve_twelvefold_13 rfl (lv_at hl 0 rfl) ?_
  refine q_get (C := "KateDesk$Curve") (T := T_Curve) (N := 10) (ci := 0) E ((hk.cv hK hcv).1) in_Curve rfl 0 (by decide) w_205 rfl rfl d_Curve_twelvefold_14 ?_
  refine lv_aload_n hx hb d_Curve_twelvefold_17 rfl (lv_at hl 0 rfl) ?_
  refine q_get (C := "KateDesk$Curve") (T := T_Curve) (N := 10) (ci := 0) E ((hk.cv hK hcv).1) in_Curve rfl 7 (by decide) w_212 rfl rfl d_Curve_twelvefold_18 ?_
  refine lv_aload_n hx hb d_Curve_twelvefold_21 rfl (lv_at hl 0 rfl) ?_
  refine q_get (C := "KateDesk$Curve") (T := T_Curve) (N := 10) (ci := 0) E ((hk.cv hK hcv).1) in_Curve rfl 7 (by decide) w_212 rfl rfl d_Curve_twelvefold_22 ?_
  refine lv_aload_n hx hb d_Curve_twelvefold_25 rfl (lv_at hl 2 rfl) ?_
  refine q_cV (rest := []) E (c_Field_add l g n0 fo (X 6) (X 6) a F mi) w_157 w_4 w_653 w_155 w_156 hd_Field_add rfl ⟨by decide, by decide⟩ (OB.recv E.2.2.2.2.2 (by rfl) (((hk.cv hK hcv).2.1).1)) (⟨(hk.cv hK hcv).2.1, (hk.cv hK hcv).2.2 6 (by decide), (hk.cv hK hcv).2.2 6 (by decide), hk.j h_a⟩) hF hl.1 rfl (Nat.le_of_ble_eq_true rfl) d_Curve_twelvefold_26 ⟨by decide, by decide⟩ (qv (fun H2 locs hq hF => ?_))
  have hk := hk.tr (hq.w1 ((hk.cv hK hcv).2.2 6 (by decide)).1)
  refine lv_aload_n hx hb d_Curve_twelvefold_29 rfl (lv_at hl 0 rfl) ?_
  refine q_get (C := "KateDesk$Curve") (T := T_Curve) (N := 10) (ci := 0) E ((hk.cv hK hcv).1) in_Curve rfl 0 (by decide) w_205 rfl rfl d_Curve_twelvefold_30 ?_
  refine lv_aload_n hx hb d_Curve_twelvefold_33 rfl (lv_at hl 0 rfl) ?_
  refine q_get (C := "KateDesk$Curve") (T := T_Curve) (N := 10) (ci := 0) E ((hk.cv hK hcv).1) in_Curve rfl 7 (by decide) w_212 rfl rfl d_Curve_twelvefold_34 ?_
  refine lv_aload_n hx hb d_Curve_twelvefold_37 rfl (lv_at hl 0 rfl) ?_
  refine q_get (C := "KateDesk$Curve") (T := T_Curve) (N := 10) (ci := 0) E ((hk.cv hK hcv).1) in_Curve rfl 7 (by decide) w_212 rfl rfl d_Curve_twelvefold_38 ?_
  refine lv_aload_n hx hb d_Curve_twelvefold_41 rfl (lv_at hl 0 rfl) ?_
  refine q_get (C := "KateDesk$Curve") (T := T_Curve) (N := 10) (ci := 0) E ((hk.cv hK hcv).1) in_Curve rfl 7 (by decide) w_212 rfl rfl d_Curve_twelvefold_42 ?_
  refine q_cV (rest := []) E (c_Field_add l g n0 fo (X 6) (X 6) (X 6) F mi) w_157 w_4 w_653 w_155 w_156 hd_Field_add rfl ⟨by decide, by decide⟩ (OB.recv E.2.2.2.2.2 (by rfl) (((hk.cv hK hcv).2.1).1)) (⟨(hk.cv hK hcv).2.1, (hk.cv hK hcv).2.2 6 (by decide), (hk.cv hK hcv).2.2 6 (by decide), (hk.cv hK hcv).2.2 6 (by decide)⟩) hF hl.1 rfl (Nat.le_of_ble_eq_true rfl) d_Curve_twelvefold_45 ⟨by decide, by decide⟩ (qv (fun H3 locs hq hF => ?_))
  have hk := hk.tr (hq.w1 ((hk.cv hK hcv).2.2 6 (by decide)).1)
  refine lv_aload_n hx hb d_Curve_twelvefold_48 rfl (lv_at hl 0 rfl) ?_
  refine q_get (C := "KateDesk$Curve") (T := T_Curve) (N := 10) (ci := 0) E ((hk.cv hK hcv).1) in_Curve rfl 0 (by decide) w_205 rfl rfl d_Curve_twelvefold_49 ?_
  refine lv_aload_n hx hb d_Curve_twelvefold_52 rfl (lv_at hl 1 rfl) ?_
  refine lv_aload_n hx hb d_Curve_twelvefold_53 rfl (lv_at hl 0 rfl) ?_
  refine q_get (C := "KateDesk$Curve") (T := T_Curve) (N := 10) (ci := 0) E ((hk.cv hK hcv).1) in_Curve rfl 7 (by decide) w_212 rfl rfl d_Curve_twelvefold_54 ?_
  refine lv_aload_n hx hb d_Curve_twelvefold_57 rfl (lv_at hl 0 rfl) ?_
  refine q_get (C := "KateDesk$Curve") (T := T_Curve) (N := 10) (ci := 0) E ((hk.cv hK hcv).1) in_Curve rfl 7 (by decide) w_212 rfl rfl d_Curve_twelvefold_58 ?_
  refine q_cV (rest := []) E (c_Field_add l g n0 fo t (X 6) (X 6) F mi) w_157 w_4 w_653 w_155 w_156 hd_Field_add rfl ⟨by decide, by decide⟩ (OB.recv E.2.2.2.2.2 (by rfl) (((hk.cv hK hcv).2.1).1)) (⟨(hk.cv hK hcv).2.1, hk.j h_t, (hk.cv hK hcv).2.2 6 (by decide), (hk.cv hK hcv).2.2 6 (by decide)⟩) hF hl.1 rfl (Nat.le_of_ble_eq_true rfl) d_Curve_twelvefold_61 ⟨by decide, by decide⟩ (qv (fun H4 locs hq hF => ?_))
  have hk := hk.tr (hq.w1 (hk.j h_t).1)
  exact q_vret E hr hlk (⟨rfl, hk⟩) hF d_Curve_twelvefold_64
set_option maxHeartbeats 4000000 in
set_option maxRecDepth 100000 in
/-- both are 0 -/
theorem z_Curve_equalRatios (l : Launch) (g : WG) (n0 : Nat → Prop) (o : Nat) (fo : Nat) (F : Nat → Nat) (mi : Int64) (X : Nat → Nat) (a az b bz : Nat) (h67 : X 6 ≠ X 7) (hm6 : F 0 ≠ X 6) (hm7 : F 0 ≠ X 7) (hz6 : az ≠ X 6) : Ctr l y_Curve_equalRatios (.code y_Curve_equalRatios prog_2_method_7_code 5 (some FieldType.boolean)) 2 135 0 0 n0 g [.ref o, .ref a, .ref az, .ref b, .ref bz] (fun H => CV g n0 H o fo F mi X ∧ MD g H (F 0) ∧ J14 g n0 H a ∧ AJ g H az 14 (fun _ => 0) ∧ J14 g n0 H b ∧ AJ g H bz 14 (fun _ => 0)) (QI (fun r H H' => r = 1 ∧ KJ g (fun q => q = X 6 ∨ q = X 7) H H')) := by
  refine ctr_mk l (lv0 := [(0, .ref o), (1, .ref a), (2, .ref az), (3, .ref b), (4, .ref bz)]) (by decide) (Nat.le_of_ble_eq_true rfl) rfl ?_
  intro p e s m below meth c ls E hr hlk hnm hl hP
  have hx := E.1
  have hb := E.2.1
  have hK := E.2.2.2.2.2
  have hF : ∀ q ∈ ([] : List Loc), n0 q.base := fun q hq => absurd hq List.not_mem_nil
  obtain ⟨hcv, ⟨f, hf, hf0, hf1⟩, h_a, h_az, h_b, h_bz⟩ := hP
  have hk : KJ g (fun q => q = X 6 ∨ q = X 7) s.heap s.heap := KJ.rf
  refine lv_aload_n hx hb d_Curve_equalRatios_0 rfl (lv_at hl 0 rfl) ?_
  refine q_get (C := "KateDesk$Curve") (T := T_Curve) (N := 10) (ci := 0) E ((hk.cv hK hcv).1) in_Curve rfl 0 (by decide) w_205 rfl rfl d_Curve_equalRatios_1 ?_
  refine lv_aload_n hx hb d_Curve_equalRatios_4 rfl (lv_at hl 0 rfl) ?_
  refine q_get (C := "KateDesk$Curve") (T := T_Curve) (N := 10) (ci := 0) E ((hk.cv hK hcv).1) in_Curve rfl 7 (by decide) w_212 rfl rfl d_Curve_equalRatios_5 ?_
  refine lv_aload_n hx hb d_Curve_equalRatios_8 rfl (lv_at hl 1 rfl) ?_
  refine lv_aload hx hb d_Curve_equalRatios_9 (lv_at hl 4 rfl) ?_
  refine q_cV (rest := []) E (z_Field_multiply l g n0 fo (X 6) a bz F mi f hf0 hf1 hm6) w_165 w_4 w_652 w_163 w_164 hd_Field_multiply rfl ⟨by decide, by decide⟩ (OB.recv E.2.2.2.2.2 (by rfl) hcv.2.1.1) (⟨hcv.2.1, hcv.2.2 6 (by decide), h_a, h_bz, hf⟩) hF hl.1 rfl (Nat.le_of_ble_eq_true rfl) d_Curve_equalRatios_11 ⟨by decide, by decide⟩ (qv (fun H1 locs hq hF => ?_))
  have hk1 := hq.1
  have hz1 := hq.2
  have hk := hk.tr (hq.1.mono (fun q h => Or.inl h))
  refine lv_aload_n hx hb d_Curve_equalRatios_14 rfl (lv_at hl 0 rfl) ?_
  refine q_get (C := "KateDesk$Curve") (T := T_Curve) (N := 10) (ci := 0) E ((hk.cv hK hcv).1) in_Curve rfl 0 (by decide) w_205 rfl rfl d_Curve_equalRatios_15 ?_
  refine lv_aload_n hx hb d_Curve_equalRatios_18 rfl (lv_at hl 0 rfl) ?_
  refine q_get (C := "KateDesk$Curve") (T := T_Curve) (N := 10) (ci := 0) E ((hk.cv hK hcv).1) in_Curve rfl 8 (by decide) w_213 rfl rfl d_Curve_equalRatios_19 ?_
  refine lv_aload_n hx hb d_Curve_equalRatios_22 rfl (lv_at hl 3 rfl) ?_
  refine lv_aload_n hx hb d_Curve_equalRatios_23 rfl (lv_at hl 2 rfl) ?_
  refine q_cV (rest := []) E (z_Field_multiply l g n0 fo (X 7) b az F mi f hf0 hf1 hm7) w_165 w_4 w_652 w_163 w_164 hd_Field_multiply rfl ⟨by decide, by decide⟩ (OB.recv E.2.2.2.2.2 (by rfl) ((hk1.fd hK hcv.2.1).1)) (⟨hk1.fd hK hcv.2.1, hk1.j (hcv.2.2 7 (by decide)), hk1.j h_b, hk1.ajo hz6 h_az, hk1.ajo hm6 hf⟩) hF hl.1 rfl (Nat.le_of_ble_eq_true rfl) d_Curve_equalRatios_24 ⟨by decide, by decide⟩ (qv (fun H2 locs hq hF => ?_))
  have hz1 := hq.1.ajo h67 hz1
  have hk := hk.tr (hq.1.mono (fun q h => Or.inr h))
  have hz2 := hq.2
  refine lv_aload_n hx hb d_Curve_equalRatios_27 rfl (lv_at hl 0 rfl) ?_
  refine q_get (C := "KateDesk$Curve") (T := T_Curve) (N := 10) (ci := 0) E ((hk.cv hK hcv).1) in_Curve rfl 7 (by decide) w_212 rfl rfl d_Curve_equalRatios_28 ?_
  refine lv_aload_n hx hb d_Curve_equalRatios_31 rfl (lv_at hl 0 rfl) ?_
  refine q_get (C := "KateDesk$Curve") (T := T_Curve) (N := 10) (ci := 0) E ((hk.cv hK hcv).1) in_Curve rfl 8 (by decide) w_213 rfl rfl d_Curve_equalRatios_32 ?_
  refine q_cS (rest := []) E (z_Limbs_equal l g n0 (X 6) (X 7)) w_669 w_5 w_815 w_668 hd_Limbs_equal rfl ⟨by decide, by decide⟩ (⟨hz1, hz2⟩) hF hl.1 rfl (Nat.le_of_ble_eq_true rfl) d_Curve_equalRatios_35 ⟨by decide, by decide⟩ (qi (fun r H3 locs hq hF => ?_))
  obtain ⟨rfl, hq⟩ := hq
  subst hq
  exact q_zret E hr rfl hlk (⟨1, rfl, rfl, hk⟩) hF d_Curve_equalRatios_38
set_option maxHeartbeats 4000000 in
set_option maxRecDepth 100000 in
/-- nothing and nothing -/
theorem z_Curve_equal (l : Launch) (g : WG) (n0 : Nat → Prop) (o : Nat) (fo : Nat) (F : Nat → Nat) (mi : Int64) (X : Nat → Nat) (a a1 a2 a3 : Nat) (b b1 b2 b3 : Nat) (h67 : X 6 ≠ X 7) (hm6 : F 0 ≠ X 6) (hm7 : F 0 ≠ X 7) (ha6 : a3 ≠ X 6) (ha7 : a3 ≠ X 7) (hb6 : b3 ≠ X 6) (hb7 : b3 ≠ X 7) : Ctr l y_Curve_equal (.code y_Curve_equal prog_2_method_6_code 3 (some FieldType.boolean)) 3 159 0 0 n0 g [.ref o, .ref a, .ref b] (fun H => CV g n0 H o fo F mi X ∧ MD g H (F 0) ∧ PT g n0 H a a1 a2 a3 ∧ PT g n0 H b b1 b2 b3 ∧ AJ g H a3 14 (fun _ => 0) ∧ AJ g H b3 14 (fun _ => 0)) (QI (fun r H H' => r = 1 ∧ KJ g (fun q => q = X 6 ∨ q = X 7) H H')) := by
  refine ctr_mk l (lv0 := [(0, .ref o), (1, .ref a), (2, .ref b)]) (by decide) (Nat.le_of_ble_eq_true rfl) rfl ?_
  intro p e s m below meth c ls E hr hlk hnm hl hP
  have hx := E.1
  have hb := E.2.1
  have hK := E.2.2.2.2.2
  have hF : ∀ q ∈ ([] : List Loc), n0 q.base := fun q hq => absurd hq List.not_mem_nil
  obtain ⟨hcv, hmd, h_a, h_b, h_az, h_bz⟩ := hP
  have hk : KJ g (fun q => q = X 6 ∨ q = X 7) s.heap s.heap := KJ.rf
  refine lv_aload_n hx hb d_Curve_equal_0 rfl (lv_at hl 0 rfl) ?_
  refine lv_aload_n hx hb d_Curve_equal_1 rfl (lv_at hl 1 rfl) ?_
  refine q_get (C := "KateDesk$Point") (T := T_Point) (N := 3) (ci := 2) E ((hk.pt hK h_a).1) in_Point rfl 0 (by decide) w_46 rfl rfl d_Curve_equal_2 ?_
  refine lv_aload_n hx hb d_Curve_equal_5 rfl (lv_at hl 1 rfl) ?_
  refine q_get (C := "KateDesk$Point") (T := T_Point) (N := 3) (ci := 2) E ((hk.pt hK h_a).1) in_Point rfl 2 (by decide) w_54 rfl rfl d_Curve_equal_6 ?_
  refine lv_aload_n hx hb d_Curve_equal_9 rfl (lv_at hl 2 rfl) ?_
  refine q_get (C := "KateDesk$Point") (T := T_Point) (N := 3) (ci := 2) E ((hk.pt hK h_b).1) in_Point rfl 0 (by decide) w_46 rfl rfl d_Curve_equal_10 ?_
  refine lv_aload_n hx hb d_Curve_equal_13 rfl (lv_at hl 2 rfl) ?_
  refine q_get (C := "KateDesk$Point") (T := T_Point) (N := 3) (ci := 2) E ((hk.pt hK h_b).1) in_Point rfl 2 (by decide) w_54 rfl rfl d_Curve_equal_14 ?_
  refine q_cV (rest := []) E (z_Curve_equalRatios l g n0 o fo F mi X a1 a3 b1 b3 h67 hm6 hm7 ha6) w_814 w_11 w_811 w_813 (bw_s 10 rfl) hd_Curve_equalRatios rfl ⟨by decide, by decide⟩ (OB.recv E.2.2.2.2.2 (by rfl) ((hk.cv hK hcv).1)) (⟨hk.cv hK hcv, hk.md (fun h => h.elim hm6 hm7) hmd, (hk.pt hK h_a).2.1, hk.ajo (fun h => h.elim ha6 ha7) h_az, (hk.pt hK h_b).2.1, hk.ajo (fun h => h.elim hb6 hb7) h_bz⟩) hF hl.1 rfl (Nat.le_of_ble_eq_true rfl) d_Curve_equal_17 ⟨by decide, by decide⟩ (qi (fun r1 H1 locs hq hF => ?_))
  obtain ⟨rfl, hq⟩ := hq
  have hk := hk.tr hq
  refine lv_if_eq (tgt := 50) hx hb d_Curve_equal_20 (by decide) (fun h9 => absurd h9 (by decide)) (fun _ => ?_)
  refine lv_aload_n hx hb d_Curve_equal_23 rfl (lv_at hl 0 rfl) ?_
  refine lv_aload_n hx hb d_Curve_equal_24 rfl (lv_at hl 1 rfl) ?_
  refine q_get (C := "KateDesk$Point") (T := T_Point) (N := 3) (ci := 2) E ((hk.pt hK h_a).1) in_Point rfl 1 (by decide) w_50 rfl rfl d_Curve_equal_25 ?_
  refine lv_aload_n hx hb d_Curve_equal_28 rfl (lv_at hl 1 rfl) ?_
  refine q_get (C := "KateDesk$Point") (T := T_Point) (N := 3) (ci := 2) E ((hk.pt hK h_a).1) in_Point rfl 2 (by decide) w_54 rfl rfl d_Curve_equal_29 ?_
  refine lv_aload_n hx hb d_Curve_equal_32 rfl (lv_at hl 2 rfl) ?_
  refine q_get (C := "KateDesk$Point") (T := T_Point) (N := 3) (ci := 2) E ((hk.pt hK h_b).1) in_Point rfl 1 (by decide) w_50 rfl rfl d_Curve_equal_33 ?_
  refine lv_aload_n hx hb d_Curve_equal_36 rfl (lv_at hl 2 rfl) ?_
  refine q_get (C := "KateDesk$Point") (T := T_Point) (N := 3) (ci := 2) E ((hk.pt hK h_b).1) in_Point rfl 2 (by decide) w_54 rfl rfl d_Curve_equal_37 ?_
  refine q_cV (rest := []) E (z_Curve_equalRatios l g n0 o fo F mi X a2 a3 b2 b3 h67 hm6 hm7 ha6) w_814 w_11 w_811 w_813 (bw_s 10 rfl) hd_Curve_equalRatios rfl ⟨by decide, by decide⟩ (OB.recv E.2.2.2.2.2 (by rfl) ((hk.cv hK hcv).1)) (⟨hk.cv hK hcv, hk.md (fun h => h.elim hm6 hm7) hmd, (hk.pt hK h_a).2.2.1, hk.ajo (fun h => h.elim ha6 ha7) h_az, (hk.pt hK h_b).2.2.1, hk.ajo (fun h => h.elim hb6 hb7) h_bz⟩) hF hl.1 rfl (Nat.le_of_ble_eq_true rfl) d_Curve_equal_40 ⟨by decide, by decide⟩ (qi (fun r2 H2 locs hq hF => ?_))
  obtain ⟨rfl, hq⟩ := hq
  have hk := hk.tr hq
  refine lv_if_eq (tgt := 50) hx hb d_Curve_equal_43 (by decide) (fun h9 => absurd h9 (by decide)) (fun _ => ?_)
  refine lv_iconst (v := nI 1) hx hb d_Curve_equal_46 (by decide) ?_
  refine lv_goto (tgt := 51) hx hb d_Curve_equal_47 (by decide) ?_
  exact q_zret E hr rfl hlk (⟨_, rfl, rfl, hk⟩) hF d_Curve_equal_51
end
section
abbrev y_Curve_add : MethodName := ⟨"KateDesk$Curve", "add", "(LKateDesk$Point;LKateDesk$Point;LKateDesk$Point;Z)V"⟩
theorem hd_Curve_add : y_Curve_add.cls ≠ "java/lang/invoke/MethodHandle" ∧ y_Curve_add.cls ≠ "java/lang/invoke/VarHandle" ∧ (parseMethodDescriptor y_Curve_add.desc).map (fun d => d.parameters.length) = some 4 := by decide +kernel
theorem d_Curve_add_0 : decode prog_2_method_2_code 0 = .ok (.aload_n 3, 1) := by decide +kernel
theorem d_Curve_add_1 : decode prog_2_method_2_code 1 = .ok (.getfield 43, 3) := by decide +kernel
theorem d_Curve_add_4 : decode prog_2_method_2_code 4 = .ok (.astore 5, 2) := by decide +kernel
theorem d_Curve_add_6 : decode prog_2_method_2_code 6 = .ok (.iload 4, 2) := by decide +kernel
theorem d_Curve_add_8 : decode prog_2_method_2_code 8 = .ok (.ifCond .eq 24, 3) := by decide +kernel
theorem d_Curve_add_11 : decode prog_2_method_2_code 11 = .ok (.aload_n 0, 1) := by decide +kernel
theorem d_Curve_add_12 : decode prog_2_method_2_code 12 = .ok (.getfield 39, 3) := by decide +kernel
theorem d_Curve_add_15 : decode prog_2_method_2_code 15 = .ok (.aload_n 0, 1) := by decide +kernel
theorem d_Curve_add_16 : decode prog_2_method_2_code 16 = .ok (.getfield 36, 3) := by decide +kernel
theorem d_Curve_add_19 : decode prog_2_method_2_code 19 = .ok (.aload_n 3, 1) := by decide +kernel
theorem d_Curve_add_20 : decode prog_2_method_2_code 20 = .ok (.getfield 43, 3) := by decide +kernel
theorem d_Curve_add_23 : decode prog_2_method_2_code 23 = .ok (.invokevirtual 48, 3) := by decide +kernel
theorem d_Curve_add_26 : decode prog_2_method_2_code 26 = .ok (.aload_n 0, 1) := by decide +kernel
theorem d_Curve_add_27 : decode prog_2_method_2_code 27 = .ok (.getfield 36, 3) := by decide +kernel
theorem d_Curve_add_30 : decode prog_2_method_2_code 30 = .ok (.astore 5, 2) := by decide +kernel
theorem d_Curve_add_32 : decode prog_2_method_2_code 32 = .ok (.aload_n 0, 1) := by decide +kernel
theorem d_Curve_add_33 : decode prog_2_method_2_code 33 = .ok (.getfield 39, 3) := by decide +kernel
theorem d_Curve_add_36 : decode prog_2_method_2_code 36 = .ok (.aload_n 0, 1) := by decide +kernel
theorem d_Curve_add_37 : decode prog_2_method_2_code 37 = .ok (.getfield 9, 3) := by decide +kernel
theorem d_Curve_add_40 : decode prog_2_method_2_code 40 = .ok (.aload_n 2, 1) := by decide +kernel
theorem d_Curve_add_41 : decode prog_2_method_2_code 41 = .ok (.getfield 54, 3) := by decide +kernel
theorem d_Curve_add_44 : decode prog_2_method_2_code 44 = .ok (.aload_n 3, 1) := by decide +kernel
theorem d_Curve_add_45 : decode prog_2_method_2_code 45 = .ok (.getfield 54, 3) := by decide +kernel
theorem d_Curve_add_48 : decode prog_2_method_2_code 48 = .ok (.invokevirtual 57, 3) := by decide +kernel
theorem d_Curve_add_51 : decode prog_2_method_2_code 51 = .ok (.aload_n 0, 1) := by decide +kernel
theorem d_Curve_add_52 : decode prog_2_method_2_code 52 = .ok (.getfield 39, 3) := by decide +kernel
theorem d_Curve_add_55 : decode prog_2_method_2_code 55 = .ok (.aload_n 0, 1) := by decide +kernel
theorem d_Curve_add_56 : decode prog_2_method_2_code 56 = .ok (.getfield 15, 3) := by decide +kernel
theorem d_Curve_add_59 : decode prog_2_method_2_code 59 = .ok (.aload_n 2, 1) := by decide +kernel
theorem d_Curve_add_60 : decode prog_2_method_2_code 60 = .ok (.getfield 43, 3) := by decide +kernel
theorem d_Curve_add_63 : decode prog_2_method_2_code 63 = .ok (.aload 5, 2) := by decide +kernel
theorem d_Curve_add_65 : decode prog_2_method_2_code 65 = .ok (.invokevirtual 57, 3) := by decide +kernel
theorem d_Curve_add_68 : decode prog_2_method_2_code 68 = .ok (.aload_n 0, 1) := by decide +kernel
theorem d_Curve_add_69 : decode prog_2_method_2_code 69 = .ok (.getfield 39, 3) := by decide +kernel
theorem d_Curve_add_72 : decode prog_2_method_2_code 72 = .ok (.aload_n 0, 1) := by decide +kernel
theorem d_Curve_add_73 : decode prog_2_method_2_code 73 = .ok (.getfield 18, 3) := by decide +kernel
theorem d_Curve_add_76 : decode prog_2_method_2_code 76 = .ok (.aload_n 2, 1) := by decide +kernel
theorem d_Curve_add_77 : decode prog_2_method_2_code 77 = .ok (.getfield 61, 3) := by decide +kernel
theorem d_Curve_add_80 : decode prog_2_method_2_code 80 = .ok (.aload_n 3, 1) := by decide +kernel
theorem d_Curve_add_81 : decode prog_2_method_2_code 81 = .ok (.getfield 61, 3) := by decide +kernel
theorem d_Curve_add_84 : decode prog_2_method_2_code 84 = .ok (.invokevirtual 57, 3) := by decide +kernel
theorem d_Curve_add_87 : decode prog_2_method_2_code 87 = .ok (.aload_n 0, 1) := by decide +kernel
theorem d_Curve_add_88 : decode prog_2_method_2_code 88 = .ok (.aload_n 0, 1) := by decide +kernel
theorem d_Curve_add_89 : decode prog_2_method_2_code 89 = .ok (.getfield 21, 3) := by decide +kernel
theorem d_Curve_add_92 : decode prog_2_method_2_code 92 = .ok (.aload_n 2, 1) := by decide +kernel
theorem d_Curve_add_93 : decode prog_2_method_2_code 93 = .ok (.getfield 54, 3) := by decide +kernel
theorem d_Curve_add_96 : decode prog_2_method_2_code 96 = .ok (.aload_n 2, 1) := by decide +kernel
theorem d_Curve_add_97 : decode prog_2_method_2_code 97 = .ok (.getfield 43, 3) := by decide +kernel
theorem d_Curve_add_100 : decode prog_2_method_2_code 100 = .ok (.aload_n 3, 1) := by decide +kernel
theorem d_Curve_add_101 : decode prog_2_method_2_code 101 = .ok (.getfield 54, 3) := by decide +kernel
theorem d_Curve_add_104 : decode prog_2_method_2_code 104 = .ok (.aload 5, 2) := by decide +kernel
theorem d_Curve_add_106 : decode prog_2_method_2_code 106 = .ok (.aload_n 0, 1) := by decide +kernel
theorem d_Curve_add_107 : decode prog_2_method_2_code 107 = .ok (.getfield 9, 3) := by decide +kernel
theorem d_Curve_add_110 : decode prog_2_method_2_code 110 = .ok (.aload_n 0, 1) := by decide +kernel
theorem d_Curve_add_111 : decode prog_2_method_2_code 111 = .ok (.getfield 15, 3) := by decide +kernel
theorem d_Curve_add_114 : decode prog_2_method_2_code 114 = .ok (.invokevirtual 64, 3) := by decide +kernel
theorem d_Curve_add_117 : decode prog_2_method_2_code 117 = .ok (.aload_n 0, 1) := by decide +kernel
theorem d_Curve_add_118 : decode prog_2_method_2_code 118 = .ok (.aload_n 0, 1) := by decide +kernel
theorem d_Curve_add_119 : decode prog_2_method_2_code 119 = .ok (.getfield 24, 3) := by decide +kernel
theorem d_Curve_add_122 : decode prog_2_method_2_code 122 = .ok (.aload_n 2, 1) := by decide +kernel
theorem d_Curve_add_123 : decode prog_2_method_2_code 123 = .ok (.getfield 43, 3) := by decide +kernel
theorem d_Curve_add_126 : decode prog_2_method_2_code 126 = .ok (.aload_n 2, 1) := by decide +kernel
theorem d_Curve_add_127 : decode prog_2_method_2_code 127 = .ok (.getfield 61, 3) := by decide +kernel
theorem d_Curve_add_130 : decode prog_2_method_2_code 130 = .ok (.aload 5, 2) := by decide +kernel
theorem d_Curve_add_132 : decode prog_2_method_2_code 132 = .ok (.aload_n 3, 1) := by decide +kernel
theorem d_Curve_add_133 : decode prog_2_method_2_code 133 = .ok (.getfield 61, 3) := by decide +kernel
theorem d_Curve_add_136 : decode prog_2_method_2_code 136 = .ok (.aload_n 0, 1) := by decide +kernel
theorem d_Curve_add_137 : decode prog_2_method_2_code 137 = .ok (.getfield 15, 3) := by decide +kernel
theorem d_Curve_add_140 : decode prog_2_method_2_code 140 = .ok (.aload_n 0, 1) := by decide +kernel
theorem d_Curve_add_141 : decode prog_2_method_2_code 141 = .ok (.getfield 18, 3) := by decide +kernel
theorem d_Curve_add_144 : decode prog_2_method_2_code 144 = .ok (.invokevirtual 64, 3) := by decide +kernel
theorem d_Curve_add_147 : decode prog_2_method_2_code 147 = .ok (.aload_n 0, 1) := by decide +kernel
theorem d_Curve_add_148 : decode prog_2_method_2_code 148 = .ok (.aload_n 0, 1) := by decide +kernel
theorem d_Curve_add_149 : decode prog_2_method_2_code 149 = .ok (.getfield 27, 3) := by decide +kernel
theorem d_Curve_add_152 : decode prog_2_method_2_code 152 = .ok (.aload_n 2, 1) := by decide +kernel
theorem d_Curve_add_153 : decode prog_2_method_2_code 153 = .ok (.getfield 54, 3) := by decide +kernel
theorem d_Curve_add_156 : decode prog_2_method_2_code 156 = .ok (.aload_n 2, 1) := by decide +kernel
theorem d_Curve_add_157 : decode prog_2_method_2_code 157 = .ok (.getfield 61, 3) := by decide +kernel
theorem d_Curve_add_160 : decode prog_2_method_2_code 160 = .ok (.aload_n 3, 1) := by decide +kernel
theorem d_Curve_add_161 : decode prog_2_method_2_code 161 = .ok (.getfield 54, 3) := by decide +kernel
theorem d_Curve_add_164 : decode prog_2_method_2_code 164 = .ok (.aload_n 3, 1) := by decide +kernel
theorem d_Curve_add_165 : decode prog_2_method_2_code 165 = .ok (.getfield 61, 3) := by decide +kernel
theorem d_Curve_add_168 : decode prog_2_method_2_code 168 = .ok (.aload_n 0, 1) := by decide +kernel
theorem d_Curve_add_169 : decode prog_2_method_2_code 169 = .ok (.getfield 9, 3) := by decide +kernel
theorem d_Curve_add_172 : decode prog_2_method_2_code 172 = .ok (.aload_n 0, 1) := by decide +kernel
theorem d_Curve_add_173 : decode prog_2_method_2_code 173 = .ok (.getfield 18, 3) := by decide +kernel
theorem d_Curve_add_176 : decode prog_2_method_2_code 176 = .ok (.invokevirtual 64, 3) := by decide +kernel
theorem d_Curve_add_179 : decode prog_2_method_2_code 179 = .ok (.aload_n 0, 1) := by decide +kernel
theorem d_Curve_add_180 : decode prog_2_method_2_code 180 = .ok (.getfield 39, 3) := by decide +kernel
theorem d_Curve_add_183 : decode prog_2_method_2_code 183 = .ok (.aload_n 0, 1) := by decide +kernel
theorem d_Curve_add_184 : decode prog_2_method_2_code 184 = .ok (.getfield 30, 3) := by decide +kernel
theorem d_Curve_add_187 : decode prog_2_method_2_code 187 = .ok (.aload_n 0, 1) := by decide +kernel
theorem d_Curve_add_188 : decode prog_2_method_2_code 188 = .ok (.getfield 9, 3) := by decide +kernel
theorem d_Curve_add_191 : decode prog_2_method_2_code 191 = .ok (.aload_n 0, 1) := by decide +kernel
theorem d_Curve_add_192 : decode prog_2_method_2_code 192 = .ok (.getfield 9, 3) := by decide +kernel
theorem d_Curve_add_195 : decode prog_2_method_2_code 195 = .ok (.invokevirtual 68, 3) := by decide +kernel
theorem d_Curve_add_198 : decode prog_2_method_2_code 198 = .ok (.aload_n 0, 1) := by decide +kernel
theorem d_Curve_add_199 : decode prog_2_method_2_code 199 = .ok (.getfield 39, 3) := by decide +kernel
theorem d_Curve_add_202 : decode prog_2_method_2_code 202 = .ok (.aload_n 0, 1) := by decide +kernel
theorem d_Curve_add_203 : decode prog_2_method_2_code 203 = .ok (.getfield 9, 3) := by decide +kernel
theorem d_Curve_add_206 : decode prog_2_method_2_code 206 = .ok (.aload_n 0, 1) := by decide +kernel
theorem d_Curve_add_207 : decode prog_2_method_2_code 207 = .ok (.getfield 30, 3) := by decide +kernel
theorem d_Curve_add_210 : decode prog_2_method_2_code 210 = .ok (.aload_n 0, 1) := by decide +kernel
theorem d_Curve_add_211 : decode prog_2_method_2_code 211 = .ok (.getfield 9, 3) := by decide +kernel
theorem d_Curve_add_214 : decode prog_2_method_2_code 214 = .ok (.invokevirtual 68, 3) := by decide +kernel
theorem d_Curve_add_217 : decode prog_2_method_2_code 217 = .ok (.aload_n 0, 1) := by decide +kernel
theorem d_Curve_add_218 : decode prog_2_method_2_code 218 = .ok (.aload_n 0, 1) := by decide +kernel
theorem d_Curve_add_219 : decode prog_2_method_2_code 219 = .ok (.getfield 18, 3) := by decide +kernel
theorem d_Curve_add_222 : decode prog_2_method_2_code 222 = .ok (.aload_n 0, 1) := by decide +kernel
theorem d_Curve_add_223 : decode prog_2_method_2_code 223 = .ok (.getfield 18, 3) := by decide +kernel
theorem d_Curve_add_226 : decode prog_2_method_2_code 226 = .ok (.invokevirtual 71, 3) := by decide +kernel
theorem d_Curve_add_229 : decode prog_2_method_2_code 229 = .ok (.aload_n 0, 1) := by decide +kernel
theorem d_Curve_add_230 : decode prog_2_method_2_code 230 = .ok (.aload_n 0, 1) := by decide +kernel
theorem d_Curve_add_231 : decode prog_2_method_2_code 231 = .ok (.getfield 27, 3) := by decide +kernel
theorem d_Curve_add_234 : decode prog_2_method_2_code 234 = .ok (.aload_n 0, 1) := by decide +kernel
theorem d_Curve_add_235 : decode prog_2_method_2_code 235 = .ok (.getfield 27, 3) := by decide +kernel
theorem d_Curve_add_238 : decode prog_2_method_2_code 238 = .ok (.invokevirtual 71, 3) := by decide +kernel
theorem d_Curve_add_241 : decode prog_2_method_2_code 241 = .ok (.aload_n 0, 1) := by decide +kernel
theorem d_Curve_add_242 : decode prog_2_method_2_code 242 = .ok (.getfield 39, 3) := by decide +kernel
theorem d_Curve_add_245 : decode prog_2_method_2_code 245 = .ok (.aload_n 0, 1) := by decide +kernel
theorem d_Curve_add_246 : decode prog_2_method_2_code 246 = .ok (.getfield 30, 3) := by decide +kernel
theorem d_Curve_add_249 : decode prog_2_method_2_code 249 = .ok (.aload_n 0, 1) := by decide +kernel
theorem d_Curve_add_250 : decode prog_2_method_2_code 250 = .ok (.getfield 15, 3) := by decide +kernel
theorem d_Curve_add_253 : decode prog_2_method_2_code 253 = .ok (.aload_n 0, 1) := by decide +kernel
theorem d_Curve_add_254 : decode prog_2_method_2_code 254 = .ok (.getfield 18, 3) := by decide +kernel
theorem d_Curve_add_257 : decode prog_2_method_2_code 257 = .ok (.invokevirtual 74, 3) := by decide +kernel
theorem d_Curve_add_260 : decode prog_2_method_2_code 260 = .ok (.aload_n 0, 1) := by decide +kernel
theorem d_Curve_add_261 : decode prog_2_method_2_code 261 = .ok (.getfield 39, 3) := by decide +kernel
theorem d_Curve_add_264 : decode prog_2_method_2_code 264 = .ok (.aload_n 0, 1) := by decide +kernel
theorem d_Curve_add_265 : decode prog_2_method_2_code 265 = .ok (.getfield 33, 3) := by decide +kernel
theorem d_Curve_add_268 : decode prog_2_method_2_code 268 = .ok (.aload_n 0, 1) := by decide +kernel
theorem d_Curve_add_269 : decode prog_2_method_2_code 269 = .ok (.getfield 15, 3) := by decide +kernel
theorem d_Curve_add_272 : decode prog_2_method_2_code 272 = .ok (.aload_n 0, 1) := by decide +kernel
theorem d_Curve_add_273 : decode prog_2_method_2_code 273 = .ok (.getfield 18, 3) := by decide +kernel
theorem d_Curve_add_276 : decode prog_2_method_2_code 276 = .ok (.invokevirtual 68, 3) := by decide +kernel
theorem d_Curve_add_279 : decode prog_2_method_2_code 279 = .ok (.aload_n 0, 1) := by decide +kernel
theorem d_Curve_add_280 : decode prog_2_method_2_code 280 = .ok (.getfield 39, 3) := by decide +kernel
theorem d_Curve_add_283 : decode prog_2_method_2_code 283 = .ok (.aload_n 0, 1) := by decide +kernel
theorem d_Curve_add_284 : decode prog_2_method_2_code 284 = .ok (.getfield 15, 3) := by decide +kernel
theorem d_Curve_add_287 : decode prog_2_method_2_code 287 = .ok (.aload_n 0, 1) := by decide +kernel
theorem d_Curve_add_288 : decode prog_2_method_2_code 288 = .ok (.getfield 24, 3) := by decide +kernel
theorem d_Curve_add_291 : decode prog_2_method_2_code 291 = .ok (.aload_n 0, 1) := by decide +kernel
theorem d_Curve_add_292 : decode prog_2_method_2_code 292 = .ok (.getfield 27, 3) := by decide +kernel
theorem d_Curve_add_295 : decode prog_2_method_2_code 295 = .ok (.invokevirtual 57, 3) := by decide +kernel
theorem d_Curve_add_298 : decode prog_2_method_2_code 298 = .ok (.aload_n 0, 1) := by decide +kernel
theorem d_Curve_add_299 : decode prog_2_method_2_code 299 = .ok (.getfield 39, 3) := by decide +kernel
theorem d_Curve_add_302 : decode prog_2_method_2_code 302 = .ok (.aload_n 0, 1) := by decide +kernel
theorem d_Curve_add_303 : decode prog_2_method_2_code 303 = .ok (.getfield 18, 3) := by decide +kernel
theorem d_Curve_add_306 : decode prog_2_method_2_code 306 = .ok (.aload_n 0, 1) := by decide +kernel
theorem d_Curve_add_307 : decode prog_2_method_2_code 307 = .ok (.getfield 21, 3) := by decide +kernel
theorem d_Curve_add_310 : decode prog_2_method_2_code 310 = .ok (.aload_n 0, 1) := by decide +kernel
theorem d_Curve_add_311 : decode prog_2_method_2_code 311 = .ok (.getfield 30, 3) := by decide +kernel
theorem d_Curve_add_314 : decode prog_2_method_2_code 314 = .ok (.invokevirtual 57, 3) := by decide +kernel
theorem d_Curve_add_317 : decode prog_2_method_2_code 317 = .ok (.aload_n 0, 1) := by decide +kernel
theorem d_Curve_add_318 : decode prog_2_method_2_code 318 = .ok (.getfield 39, 3) := by decide +kernel
theorem d_Curve_add_321 : decode prog_2_method_2_code 321 = .ok (.aload_n 1, 1) := by decide +kernel
theorem d_Curve_add_322 : decode prog_2_method_2_code 322 = .ok (.getfield 54, 3) := by decide +kernel
theorem d_Curve_add_325 : decode prog_2_method_2_code 325 = .ok (.aload_n 0, 1) := by decide +kernel
theorem d_Curve_add_326 : decode prog_2_method_2_code 326 = .ok (.getfield 18, 3) := by decide +kernel
theorem d_Curve_add_329 : decode prog_2_method_2_code 329 = .ok (.aload_n 0, 1) := by decide +kernel
theorem d_Curve_add_330 : decode prog_2_method_2_code 330 = .ok (.getfield 15, 3) := by decide +kernel
theorem d_Curve_add_333 : decode prog_2_method_2_code 333 = .ok (.invokevirtual 74, 3) := by decide +kernel
theorem d_Curve_add_336 : decode prog_2_method_2_code 336 = .ok (.aload_n 0, 1) := by decide +kernel
theorem d_Curve_add_337 : decode prog_2_method_2_code 337 = .ok (.getfield 39, 3) := by decide +kernel
theorem d_Curve_add_340 : decode prog_2_method_2_code 340 = .ok (.aload_n 0, 1) := by decide +kernel
theorem d_Curve_add_341 : decode prog_2_method_2_code 341 = .ok (.getfield 15, 3) := by decide +kernel
theorem d_Curve_add_344 : decode prog_2_method_2_code 344 = .ok (.aload_n 0, 1) := by decide +kernel
theorem d_Curve_add_345 : decode prog_2_method_2_code 345 = .ok (.getfield 30, 3) := by decide +kernel
theorem d_Curve_add_348 : decode prog_2_method_2_code 348 = .ok (.aload_n 0, 1) := by decide +kernel
theorem d_Curve_add_349 : decode prog_2_method_2_code 349 = .ok (.getfield 33, 3) := by decide +kernel
theorem d_Curve_add_352 : decode prog_2_method_2_code 352 = .ok (.invokevirtual 57, 3) := by decide +kernel
theorem d_Curve_add_355 : decode prog_2_method_2_code 355 = .ok (.aload_n 0, 1) := by decide +kernel
theorem d_Curve_add_356 : decode prog_2_method_2_code 356 = .ok (.getfield 39, 3) := by decide +kernel
theorem d_Curve_add_359 : decode prog_2_method_2_code 359 = .ok (.aload_n 0, 1) := by decide +kernel
theorem d_Curve_add_360 : decode prog_2_method_2_code 360 = .ok (.getfield 18, 3) := by decide +kernel
theorem d_Curve_add_363 : decode prog_2_method_2_code 363 = .ok (.aload_n 0, 1) := by decide +kernel
theorem d_Curve_add_364 : decode prog_2_method_2_code 364 = .ok (.getfield 9, 3) := by decide +kernel
theorem d_Curve_add_367 : decode prog_2_method_2_code 367 = .ok (.aload_n 0, 1) := by decide +kernel
theorem d_Curve_add_368 : decode prog_2_method_2_code 368 = .ok (.getfield 27, 3) := by decide +kernel
theorem d_Curve_add_371 : decode prog_2_method_2_code 371 = .ok (.invokevirtual 57, 3) := by decide +kernel
theorem d_Curve_add_374 : decode prog_2_method_2_code 374 = .ok (.aload_n 0, 1) := by decide +kernel
theorem d_Curve_add_375 : decode prog_2_method_2_code 375 = .ok (.getfield 39, 3) := by decide +kernel
theorem d_Curve_add_378 : decode prog_2_method_2_code 378 = .ok (.aload_n 1, 1) := by decide +kernel
theorem d_Curve_add_379 : decode prog_2_method_2_code 379 = .ok (.getfield 43, 3) := by decide +kernel
theorem d_Curve_add_382 : decode prog_2_method_2_code 382 = .ok (.aload_n 0, 1) := by decide +kernel
theorem d_Curve_add_383 : decode prog_2_method_2_code 383 = .ok (.getfield 15, 3) := by decide +kernel
theorem d_Curve_add_386 : decode prog_2_method_2_code 386 = .ok (.aload_n 0, 1) := by decide +kernel
theorem d_Curve_add_387 : decode prog_2_method_2_code 387 = .ok (.getfield 18, 3) := by decide +kernel
theorem d_Curve_add_390 : decode prog_2_method_2_code 390 = .ok (.invokevirtual 68, 3) := by decide +kernel
theorem d_Curve_add_393 : decode prog_2_method_2_code 393 = .ok (.aload_n 0, 1) := by decide +kernel
theorem d_Curve_add_394 : decode prog_2_method_2_code 394 = .ok (.getfield 39, 3) := by decide +kernel
theorem d_Curve_add_397 : decode prog_2_method_2_code 397 = .ok (.aload_n 0, 1) := by decide +kernel
theorem d_Curve_add_398 : decode prog_2_method_2_code 398 = .ok (.getfield 15, 3) := by decide +kernel
theorem d_Curve_add_401 : decode prog_2_method_2_code 401 = .ok (.aload_n 0, 1) := by decide +kernel
theorem d_Curve_add_402 : decode prog_2_method_2_code 402 = .ok (.getfield 33, 3) := by decide +kernel
theorem d_Curve_add_405 : decode prog_2_method_2_code 405 = .ok (.aload_n 0, 1) := by decide +kernel
theorem d_Curve_add_406 : decode prog_2_method_2_code 406 = .ok (.getfield 24, 3) := by decide +kernel
theorem d_Curve_add_409 : decode prog_2_method_2_code 409 = .ok (.invokevirtual 57, 3) := by decide +kernel
theorem d_Curve_add_412 : decode prog_2_method_2_code 412 = .ok (.aload_n 0, 1) := by decide +kernel
theorem d_Curve_add_413 : decode prog_2_method_2_code 413 = .ok (.getfield 39, 3) := by decide +kernel
theorem d_Curve_add_416 : decode prog_2_method_2_code 416 = .ok (.aload_n 0, 1) := by decide +kernel
theorem d_Curve_add_417 : decode prog_2_method_2_code 417 = .ok (.getfield 18, 3) := by decide +kernel
theorem d_Curve_add_420 : decode prog_2_method_2_code 420 = .ok (.aload_n 0, 1) := by decide +kernel
theorem d_Curve_add_421 : decode prog_2_method_2_code 421 = .ok (.getfield 9, 3) := by decide +kernel
theorem d_Curve_add_424 : decode prog_2_method_2_code 424 = .ok (.aload_n 0, 1) := by decide +kernel
theorem d_Curve_add_425 : decode prog_2_method_2_code 425 = .ok (.getfield 21, 3) := by decide +kernel
theorem d_Curve_add_428 : decode prog_2_method_2_code 428 = .ok (.invokevirtual 57, 3) := by decide +kernel
theorem d_Curve_add_431 : decode prog_2_method_2_code 431 = .ok (.aload_n 0, 1) := by decide +kernel
theorem d_Curve_add_432 : decode prog_2_method_2_code 432 = .ok (.getfield 39, 3) := by decide +kernel
theorem d_Curve_add_435 : decode prog_2_method_2_code 435 = .ok (.aload_n 1, 1) := by decide +kernel
theorem d_Curve_add_436 : decode prog_2_method_2_code 436 = .ok (.getfield 61, 3) := by decide +kernel
theorem d_Curve_add_439 : decode prog_2_method_2_code 439 = .ok (.aload_n 0, 1) := by decide +kernel
theorem d_Curve_add_440 : decode prog_2_method_2_code 440 = .ok (.getfield 15, 3) := by decide +kernel
theorem d_Curve_add_443 : decode prog_2_method_2_code 443 = .ok (.aload_n 0, 1) := by decide +kernel
theorem d_Curve_add_444 : decode prog_2_method_2_code 444 = .ok (.getfield 18, 3) := by decide +kernel
theorem d_Curve_add_447 : decode prog_2_method_2_code 447 = .ok (.invokevirtual 68, 3) := by decide +kernel
theorem d_Curve_add_450 : decode prog_2_method_2_code 450 = .ok (.return_, 1) := by decide +kernel
set_option maxHeartbeats 4000000 in
set_option maxRecDepth 100000 in
/-- the sum of two points -/
theorem c_Curve_add (l : Launch) (g : WG) (n0 : Nat → Prop) (o : Nat) (fo : Nat) (F : Nat → Nat) (mi : Int64) (X : Nat → Nat) (t t1 t2 t3 : Nat) (a a1 a2 a3 : Nat) (b b1 b2 b3 : Nat) (mn : Int32) : Ctr l y_Curve_add (.code y_Curve_add prog_2_method_2_code 6 none) 3 162 0 0 n0 g [.ref o, .ref t, .ref a, .ref b, .int mn] (fun H => CV g n0 H o fo F mi X ∧ PT g n0 H t t1 t2 t3 ∧ PT g n0 H a a1 a2 a3 ∧ PT g n0 H b b1 b2 b3) (QV (fun H H' => KJ g (fun q => n0 q) H H')) := by
  refine ctr_mk l (lv0 := [(0, .ref o), (1, .ref t), (2, .ref a), (3, .ref b), (4, .int mn)]) (by decide) (Nat.le_of_ble_eq_true rfl) rfl ?_
  intro p e s m below meth c ls E hr hlk hnm hl hP
  have hx := E.1
  have hb := E.2.1
  have hK := E.2.2.2.2.2
  have hF : ∀ q ∈ ([] : List Loc), n0 q.base := fun q hq => absurd hq List.not_mem_nil
  obtain ⟨hcv, h_t, h_a, h_b⟩ := hP
  have hk : KJ g (fun q => n0 q) s.heap s.heap := KJ.rf
  refine lv_aload_n hx hb d_Curve_add_0 rfl (lv_at hl 3 rfl) ?_
  refine q_get (C := "KateDesk$Point") (T := T_Point) (N := 3) (ci := 2) E ((hk.pt hK h_b).1) in_Point rfl 1 (by decide) w_50 rfl rfl d_Curve_add_1 ?_
  refine lv_astore (lv' := [(5, .ref b2), (0, .ref o), (1, .ref t), (2, .ref a), (3, .ref b), (4, .int mn)]) hx hb d_Curve_add_4 hl (by decide) rfl (fun ls hl => ?_)
  refine lv_iload hx hb d_Curve_add_6 (lv_at hl 5 rfl) ?_
  have tail : ∀ (H : Heap) (locs : List Loc) (ls : Array Slot) (by0 : Nat), KJ g (fun q => n0 q) s.heap H → J14 g n0 s.heap by0 → (∀ q ∈ locs, n0 q.base) → lv_has ls 6 [(5, .ref by0), (0, .ref o), (1, .ref t), (2, .ref a), (3, .ref b), (4, .int mn)] → W p l e { frames := 3, cells := 0, slots := 0, locals := 162 } s m [.ref o, .ref t, .ref a, .ref b, .int mn].toArray below meth c H locs 0 0 (MQ below (QcP (QV (fun H H' => KJ g (fun q => n0 q) H H'))) [.ref o, .ref t, .ref a, .ref b, .int mn].toArray s 0 0 (fun q => n0 q)) (F0 m 32 ls []) := by
    intro  H   locs   ls   by0 hk h_by hF hl
    have h_by0 := h_by
    refine lv_aload_n hx hb d_Curve_add_32 rfl (lv_at hl 1 rfl) ?_
    refine q_get (C := "KateDesk$Curve") (T := T_Curve) (N := 10) (ci := 0) E ((hk.cv hK hcv).1) in_Curve rfl 0 (by decide) w_205 rfl rfl d_Curve_add_33 ?_
    refine lv_aload_n hx hb d_Curve_add_36 rfl (lv_at hl 1 rfl) ?_
    refine q_get (C := "KateDesk$Curve") (T := T_Curve) (N := 10) (ci := 0) E ((hk.cv hK hcv).1) in_Curve rfl 1 (by decide) w_206 rfl rfl d_Curve_add_37 ?_
    refine lv_aload_n hx hb d_Curve_add_40 rfl (lv_at hl 3 rfl) ?_
    refine q_get (C := "KateDesk$Point") (T := T_Point) (N := 3) (ci := 2) E ((hk.pt hK h_a).1) in_Point rfl 0 (by decide) w_46 rfl rfl d_Curve_add_41 ?_
    refine lv_aload_n hx hb d_Curve_add_44 rfl (lv_at hl 4 rfl) ?_
    refine q_get (C := "KateDesk$Point") (T := T_Point) (N := 3) (ci := 2) E ((hk.pt hK h_b).1) in_Point rfl 0 (by decide) w_46 rfl rfl d_Curve_add_45 ?_
    refine q_cV (rest := []) E (c_Field_multiply l g n0 fo (X 0) a1 b1 F mi) w_165 w_4 w_652 w_163 w_164 hd_Field_multiply rfl ⟨by decide, by decide⟩ (OB.recv E.2.2.2.2.2 (by rfl) (((hk.cv hK hcv).2.1).1)) (⟨(hk.cv hK hcv).2.1, (hk.cv hK hcv).2.2 0 (by decide), (hk.pt hK h_a).2.1, (hk.pt hK h_b).2.1⟩) hF hl.1 rfl (Nat.le_of_ble_eq_true rfl) d_Curve_add_48 ⟨by decide, by decide⟩ (qv (fun H1 locs hq hF => ?_))
    have hk := hk.tr (hq.w1 ((hk.cv hK hcv).2.2 0 (by decide)).1)
    refine lv_aload_n hx hb d_Curve_add_51 rfl (lv_at hl 1 rfl) ?_
    refine q_get (C := "KateDesk$Curve") (T := T_Curve) (N := 10) (ci := 0) E ((hk.cv hK hcv).1) in_Curve rfl 0 (by decide) w_205 rfl rfl d_Curve_add_52 ?_
    refine lv_aload_n hx hb d_Curve_add_55 rfl (lv_at hl 1 rfl) ?_
    refine q_get (C := "KateDesk$Curve") (T := T_Curve) (N := 10) (ci := 0) E ((hk.cv hK hcv).1) in_Curve rfl 2 (by decide) w_207 rfl rfl d_Curve_add_56 ?_
    refine lv_aload_n hx hb d_Curve_add_59 rfl (lv_at hl 3 rfl) ?_
    refine q_get (C := "KateDesk$Point") (T := T_Point) (N := 3) (ci := 2) E ((hk.pt hK h_a).1) in_Point rfl 1 (by decide) w_50 rfl rfl d_Curve_add_60 ?_
    refine lv_aload hx hb d_Curve_add_63 (lv_at hl 0 rfl) ?_
    refine q_cV (rest := []) E (c_Field_multiply l g n0 fo (X 1) a2 by0 F mi) w_165 w_4 w_652 w_163 w_164 hd_Field_multiply rfl ⟨by decide, by decide⟩ (OB.recv E.2.2.2.2.2 (by rfl) (((hk.cv hK hcv).2.1).1)) (⟨(hk.cv hK hcv).2.1, (hk.cv hK hcv).2.2 1 (by decide), (hk.pt hK h_a).2.2.1, hk.j h_by⟩) hF hl.1 rfl (Nat.le_of_ble_eq_true rfl) d_Curve_add_65 ⟨by decide, by decide⟩ (qv (fun H2 locs hq hF => ?_))
    have hk := hk.tr (hq.w1 ((hk.cv hK hcv).2.2 1 (by decide)).1)
    refine lv_aload_n hx hb d_Curve_add_68 rfl (lv_at hl 1 rfl) ?_
    refine q_get (C := "KateDesk$Curve") (T := T_Curve) (N := 10) (ci := 0) E ((hk.cv hK hcv).1) in_Curve rfl 0 (by decide) w_205 rfl rfl d_Curve_add_69 ?_
    refine lv_aload_n hx hb d_Curve_add_72 rfl (lv_at hl 1 rfl) ?_
    refine q_get (C := "KateDesk$Curve") (T := T_Curve) (N := 10) (ci := 0) E ((hk.cv hK hcv).1) in_Curve rfl 3 (by decide) w_208 rfl rfl d_Curve_add_73 ?_
    refine lv_aload_n hx hb d_Curve_add_76 rfl (lv_at hl 3 rfl) ?_
    refine q_get (C := "KateDesk$Point") (T := T_Point) (N := 3) (ci := 2) E ((hk.pt hK h_a).1) in_Point rfl 2 (by decide) w_54 rfl rfl d_Curve_add_77 ?_
    refine lv_aload_n hx hb d_Curve_add_80 rfl (lv_at hl 4 rfl) ?_
    refine q_get (C := "KateDesk$Point") (T := T_Point) (N := 3) (ci := 2) E ((hk.pt hK h_b).1) in_Point rfl 2 (by decide) w_54 rfl rfl d_Curve_add_81 ?_
    refine q_cV (rest := []) E (c_Field_multiply l g n0 fo (X 2) a3 b3 F mi) w_165 w_4 w_652 w_163 w_164 hd_Field_multiply rfl ⟨by decide, by decide⟩ (OB.recv E.2.2.2.2.2 (by rfl) (((hk.cv hK hcv).2.1).1)) (⟨(hk.cv hK hcv).2.1, (hk.cv hK hcv).2.2 2 (by decide), (hk.pt hK h_a).2.2.2, (hk.pt hK h_b).2.2.2⟩) hF hl.1 rfl (Nat.le_of_ble_eq_true rfl) d_Curve_add_84 ⟨by decide, by decide⟩ (qv (fun H3 locs hq hF => ?_))
    have hk := hk.tr (hq.w1 ((hk.cv hK hcv).2.2 2 (by decide)).1)
    refine lv_aload_n hx hb d_Curve_add_87 rfl (lv_at hl 1 rfl) ?_
    refine lv_aload_n hx hb d_Curve_add_88 rfl (lv_at hl 1 rfl) ?_
    refine q_get (C := "KateDesk$Curve") (T := T_Curve) (N := 10) (ci := 0) E ((hk.cv hK hcv).1) in_Curve rfl 4 (by decide) w_209 rfl rfl d_Curve_add_89 ?_
    refine lv_aload_n hx hb d_Curve_add_92 rfl (lv_at hl 3 rfl) ?_
    refine q_get (C := "KateDesk$Point") (T := T_Point) (N := 3) (ci := 2) E ((hk.pt hK h_a).1) in_Point rfl 0 (by decide) w_46 rfl rfl d_Curve_add_93 ?_
    refine lv_aload_n hx hb d_Curve_add_96 rfl (lv_at hl 3 rfl) ?_
    refine q_get (C := "KateDesk$Point") (T := T_Point) (N := 3) (ci := 2) E ((hk.pt hK h_a).1) in_Point rfl 1 (by decide) w_50 rfl rfl d_Curve_add_97 ?_
    refine lv_aload_n hx hb d_Curve_add_100 rfl (lv_at hl 4 rfl) ?_
    refine q_get (C := "KateDesk$Point") (T := T_Point) (N := 3) (ci := 2) E ((hk.pt hK h_b).1) in_Point rfl 0 (by decide) w_46 rfl rfl d_Curve_add_101 ?_
    refine lv_aload hx hb d_Curve_add_104 (lv_at hl 0 rfl) ?_
    refine lv_aload_n hx hb d_Curve_add_106 rfl (lv_at hl 1 rfl) ?_
    refine q_get (C := "KateDesk$Curve") (T := T_Curve) (N := 10) (ci := 0) E ((hk.cv hK hcv).1) in_Curve rfl 1 (by decide) w_206 rfl rfl d_Curve_add_107 ?_
    refine lv_aload_n hx hb d_Curve_add_110 rfl (lv_at hl 1 rfl) ?_
    refine q_get (C := "KateDesk$Curve") (T := T_Curve) (N := 10) (ci := 0) E ((hk.cv hK hcv).1) in_Curve rfl 2 (by decide) w_207 rfl rfl d_Curve_add_111 ?_
    refine q_cV (rest := []) E (c_Curve_mixed l g n0 o fo F mi X (X 3) a1 a2 b1 by0 (X 0) (X 1)) w_716 w_11 w_713 w_715 (bw_s 9 rfl) hd_Curve_mixed rfl ⟨by decide, by decide⟩ (OB.recv E.2.2.2.2.2 (by rfl) ((hk.cv hK hcv).1)) (⟨hk.cv hK hcv, (hk.cv hK hcv).2.2 3 (by decide), (hk.pt hK h_a).2.1, (hk.pt hK h_a).2.2.1, (hk.pt hK h_b).2.1, hk.j h_by, (hk.cv hK hcv).2.2 0 (by decide), (hk.cv hK hcv).2.2 1 (by decide)⟩) hF hl.1 rfl (Nat.le_of_ble_eq_true rfl) d_Curve_add_114 ⟨by decide, by decide⟩ (qv (fun H4 locs hq hF => ?_))
    have hk := hk.tr hq
    refine lv_aload_n hx hb d_Curve_add_117 rfl (lv_at hl 1 rfl) ?_
    refine lv_aload_n hx hb d_Curve_add_118 rfl (lv_at hl 1 rfl) ?_
    refine q_get (C := "KateDesk$Curve") (T := T_Curve) (N := 10) (ci := 0) E ((hk.cv hK hcv).1) in_Curve rfl 5 (by decide) w_210 rfl rfl d_Curve_add_119 ?_
    refine lv_aload_n hx hb d_Curve_add_122 rfl (lv_at hl 3 rfl) ?_
    refine q_get (C := "KateDesk$Point") (T := T_Point) (N := 3) (ci := 2) E ((hk.pt hK h_a).1) in_Point rfl 1 (by decide) w_50 rfl rfl d_Curve_add_123 ?_
    refine lv_aload_n hx hb d_Curve_add_126 rfl (lv_at hl 3 rfl) ?_
    refine q_get (C := "KateDesk$Point") (T := T_Point) (N := 3) (ci := 2) E ((hk.pt hK h_a).1) in_Point rfl 2 (by decide) w_54 rfl rfl d_Curve_add_127 ?_
    refine lv_aload hx hb d_Curve_add_130 (lv_at hl 0 rfl) ?_
    refine lv_aload_n hx hb d_Curve_add_132 rfl (lv_at hl 4 rfl) ?_
    refine q_get (C := "KateDesk$Point") (T := T_Point) (N := 3) (ci := 2) E ((hk.pt hK h_b).1) in_Point rfl 2 (by decide) w_54 rfl rfl d_Curve_add_133 ?_
    refine lv_aload_n hx hb d_Curve_add_136 rfl (lv_at hl 1 rfl) ?_
    refine q_get (C := "KateDesk$Curve") (T := T_Curve) (N := 10) (ci := 0) E ((hk.cv hK hcv).1) in_Curve rfl 2 (by decide) w_207 rfl rfl d_Curve_add_137 ?_
    refine lv_aload_n hx hb d_Curve_add_140 rfl (lv_at hl 1 rfl) ?_
    refine q_get (C := "KateDesk$Curve") (T := T_Curve) (N := 10) (ci := 0) E ((hk.cv hK hcv).1) in_Curve rfl 3 (by decide) w_208 rfl rfl d_Curve_add_141 ?_
    refine q_cV (rest := []) E (c_Curve_mixed l g n0 o fo F mi X (X 4) a2 a3 by0 b3 (X 1) (X 2)) w_716 w_11 w_713 w_715 (bw_s 9 rfl) hd_Curve_mixed rfl ⟨by decide, by decide⟩ (OB.recv E.2.2.2.2.2 (by rfl) ((hk.cv hK hcv).1)) (⟨hk.cv hK hcv, (hk.cv hK hcv).2.2 4 (by decide), (hk.pt hK h_a).2.2.1, (hk.pt hK h_a).2.2.2, hk.j h_by, (hk.pt hK h_b).2.2.2, (hk.cv hK hcv).2.2 1 (by decide), (hk.cv hK hcv).2.2 2 (by decide)⟩) hF hl.1 rfl (Nat.le_of_ble_eq_true rfl) d_Curve_add_144 ⟨by decide, by decide⟩ (qv (fun H5 locs hq hF => ?_))
    have hk := hk.tr hq
    refine lv_aload_n hx hb d_Curve_add_147 rfl (lv_at hl 1 rfl) ?_
    refine lv_aload_n hx hb d_Curve_add_148 rfl (lv_at hl 1 rfl) ?_
    refine q_get (C := "KateDesk$Curve") (T := T_Curve) (N := 10) (ci := 0) E ((hk.cv hK hcv).1) in_Curve rfl 6 (by decide) w_211 rfl rfl d_Curve_add_149 ?_
    refine lv_aload_n hx hb d_Curve_add_152 rfl (lv_at hl 3 rfl) ?_
    refine q_get (C := "KateDesk$Point") (T := T_Point) (N := 3) (ci := 2) E ((hk.pt hK h_a).1) in_Point rfl 0 (by decide) w_46 rfl rfl d_Curve_add_153 ?_
    refine lv_aload_n hx hb d_Curve_add_156 rfl (lv_at hl 3 rfl) ?_
    refine q_get (C := "KateDesk$Point") (T := T_Point) (N := 3) (ci := 2) E ((hk.pt hK h_a).1) in_Point rfl 2 (by decide) w_54 rfl rfl d_Curve_add_157 ?_
    refine lv_aload_n hx hb d_Curve_add_160 rfl (lv_at hl 4 rfl) ?_
    refine q_get (C := "KateDesk$Point") (T := T_Point) (N := 3) (ci := 2) E ((hk.pt hK h_b).1) in_Point rfl 0 (by decide) w_46 rfl rfl d_Curve_add_161 ?_
    refine lv_aload_n hx hb d_Curve_add_164 rfl (lv_at hl 4 rfl) ?_
    refine q_get (C := "KateDesk$Point") (T := T_Point) (N := 3) (ci := 2) E ((hk.pt hK h_b).1) in_Point rfl 2 (by decide) w_54 rfl rfl d_Curve_add_165 ?_
    refine lv_aload_n hx hb d_Curve_add_168 rfl (lv_at hl 1 rfl) ?_
    refine q_get (C := "KateDesk$Curve") (T := T_Curve) (N := 10) (ci := 0) E ((hk.cv hK hcv).1) in_Curve rfl 1 (by decide) w_206 rfl rfl d_Curve_add_169 ?_
    refine lv_aload_n hx hb d_Curve_add_172 rfl (lv_at hl 1 rfl) ?_
    refine q_get (C := "KateDesk$Curve") (T := T_Curve) (N := 10) (ci := 0) E ((hk.cv hK hcv).1) in_Curve rfl 3 (by decide) w_208 rfl rfl d_Curve_add_173 ?_
    refine q_cV (rest := []) E (c_Curve_mixed l g n0 o fo F mi X (X 5) a1 a3 b1 b3 (X 0) (X 2)) w_716 w_11 w_713 w_715 (bw_s 9 rfl) hd_Curve_mixed rfl ⟨by decide, by decide⟩ (OB.recv E.2.2.2.2.2 (by rfl) ((hk.cv hK hcv).1)) (⟨hk.cv hK hcv, (hk.cv hK hcv).2.2 5 (by decide), (hk.pt hK h_a).2.1, (hk.pt hK h_a).2.2.2, (hk.pt hK h_b).2.1, (hk.pt hK h_b).2.2.2, (hk.cv hK hcv).2.2 0 (by decide), (hk.cv hK hcv).2.2 2 (by decide)⟩) hF hl.1 rfl (Nat.le_of_ble_eq_true rfl) d_Curve_add_176 ⟨by decide, by decide⟩ (qv (fun H6 locs hq hF => ?_))
    have hk := hk.tr hq
    refine lv_aload_n hx hb d_Curve_add_179 rfl (lv_at hl 1 rfl) ?_
    refine q_get (C := "KateDesk$Curve") (T := T_Curve) (N := 10) (ci := 0) E ((hk.cv hK hcv).1) in_Curve rfl 0 (by decide) w_205 rfl rfl d_Curve_add_180 ?_
    refine lv_aload_n hx hb d_Curve_add_183 rfl (lv_at hl 1 rfl) ?_
    refine q_get (C := "KateDesk$Curve") (T := T_Curve) (N := 10) (ci := 0) E ((hk.cv hK hcv).1) in_Curve rfl 7 (by decide) w_212 rfl rfl d_Curve_add_184 ?_
    refine lv_aload_n hx hb d_Curve_add_187 rfl (lv_at hl 1 rfl) ?_
    refine q_get (C := "KateDesk$Curve") (T := T_Curve) (N := 10) (ci := 0) E ((hk.cv hK hcv).1) in_Curve rfl 1 (by decide) w_206 rfl rfl d_Curve_add_188 ?_
    refine lv_aload_n hx hb d_Curve_add_191 rfl (lv_at hl 1 rfl) ?_
    refine q_get (C := "KateDesk$Curve") (T := T_Curve) (N := 10) (ci := 0) E ((hk.cv hK hcv).1) in_Curve rfl 1 (by decide) w_206 rfl rfl d_Curve_add_192 ?_
    refine q_cV (rest := []) E (c_Field_add l g n0 fo (X 6) (X 0) (X 0) F mi) w_157 w_4 w_653 w_155 w_156 hd_Field_add rfl ⟨by decide, by decide⟩ (OB.recv E.2.2.2.2.2 (by rfl) (((hk.cv hK hcv).2.1).1)) (⟨(hk.cv hK hcv).2.1, (hk.cv hK hcv).2.2 6 (by decide), (hk.cv hK hcv).2.2 0 (by decide), (hk.cv hK hcv).2.2 0 (by decide)⟩) hF hl.1 rfl (Nat.le_of_ble_eq_true rfl) d_Curve_add_195 ⟨by decide, by decide⟩ (qv (fun H7 locs hq hF => ?_))
    have hk := hk.tr (hq.w1 ((hk.cv hK hcv).2.2 6 (by decide)).1)
    refine lv_aload_n hx hb d_Curve_add_198 rfl (lv_at hl 1 rfl) ?_
    refine q_get (C := "KateDesk$Curve") (T := T_Curve) (N := 10) (ci := 0) E ((hk.cv hK hcv).1) in_Curve rfl 0 (by decide) w_205 rfl rfl d_Curve_add_199 ?_
    refine lv_aload_n hx hb d_Curve_add_202 rfl (lv_at hl 1 rfl) ?_
    refine q_get (C := "KateDesk$Curve") (T := T_Curve) (N := 10) (ci := 0) E ((hk.cv hK hcv).1) in_Curve rfl 1 (by decide) w_206 rfl rfl d_Curve_add_203 ?_
    refine lv_aload_n hx hb d_Curve_add_206 rfl (lv_at hl 1 rfl) ?_
    refine q_get (C := "KateDesk$Curve") (T := T_Curve) (N := 10) (ci := 0) E ((hk.cv hK hcv).1) in_Curve rfl 7 (by decide) w_212 rfl rfl d_Curve_add_207 ?_
    refine lv_aload_n hx hb d_Curve_add_210 rfl (lv_at hl 1 rfl) ?_
    refine q_get (C := "KateDesk$Curve") (T := T_Curve) (N := 10) (ci := 0) E ((hk.cv hK hcv).1) in_Curve rfl 1 (by decide) w_206 rfl rfl d_Curve_add_211 ?_
    refine q_cV (rest := []) E (c_Field_add l g n0 fo (X 0) (X 6) (X 0) F mi) w_157 w_4 w_653 w_155 w_156 hd_Field_add rfl ⟨by decide, by decide⟩ (OB.recv E.2.2.2.2.2 (by rfl) (((hk.cv hK hcv).2.1).1)) (⟨(hk.cv hK hcv).2.1, (hk.cv hK hcv).2.2 0 (by decide), (hk.cv hK hcv).2.2 6 (by decide), (hk.cv hK hcv).2.2 0 (by decide)⟩) hF hl.1 rfl (Nat.le_of_ble_eq_true rfl) d_Curve_add_214 ⟨by decide, by decide⟩ (qv (fun H8 locs hq hF => ?_))
    have hk := hk.tr (hq.w1 ((hk.cv hK hcv).2.2 0 (by decide)).1)
    refine lv_aload_n hx hb d_Curve_add_217 rfl (lv_at hl 1 rfl) ?_
    refine lv_aload_n hx hb d_Curve_add_218 rfl (lv_at hl 1 rfl) ?_
    refine q_get (C := "KateDesk$Curve") (T := T_Curve) (N := 10) (ci := 0) E ((hk.cv hK hcv).1) in_Curve rfl 3 (by decide) w_208 rfl rfl d_Curve_add_219 ?_
    refine lv_aload_n hx hb d_Curve_add_222 rfl (lv_at hl 1 rfl) ?_
    refine q_get (C := "KateDesk$Curve") (T := T_Curve) (N := 10) (ci := 0) E ((hk.cv hK hcv).1) in_Curve rfl 3 (by decide) w_208 rfl rfl d_Curve_add_223 ?_
    refine q_cV (rest := []) E (c_Curve_twelvefold l g n0 o fo F mi X (X 2) (X 2)) w_706 w_11 w_703 w_705 (bw_s 8 rfl) hd_Curve_twelvefold rfl ⟨by decide, by decide⟩ (OB.recv E.2.2.2.2.2 (by rfl) ((hk.cv hK hcv).1)) (⟨hk.cv hK hcv, (hk.cv hK hcv).2.2 2 (by decide), (hk.cv hK hcv).2.2 2 (by decide)⟩) hF hl.1 rfl (Nat.le_of_ble_eq_true rfl) d_Curve_add_226 ⟨by decide, by decide⟩ (qv (fun H9 locs hq hF => ?_))
    have hk := hk.tr hq
    refine lv_aload_n hx hb d_Curve_add_229 rfl (lv_at hl 1 rfl) ?_
    refine lv_aload_n hx hb d_Curve_add_230 rfl (lv_at hl 1 rfl) ?_
    refine q_get (C := "KateDesk$Curve") (T := T_Curve) (N := 10) (ci := 0) E ((hk.cv hK hcv).1) in_Curve rfl 6 (by decide) w_211 rfl rfl d_Curve_add_231 ?_
    refine lv_aload_n hx hb d_Curve_add_234 rfl (lv_at hl 1 rfl) ?_
    refine q_get (C := "KateDesk$Curve") (T := T_Curve) (N := 10) (ci := 0) E ((hk.cv hK hcv).1) in_Curve rfl 6 (by decide) w_211 rfl rfl d_Curve_add_235 ?_
    refine q_cV (rest := []) E (c_Curve_twelvefold l g n0 o fo F mi X (X 5) (X 5)) w_706 w_11 w_703 w_705 (bw_s 8 rfl) hd_Curve_twelvefold rfl ⟨by decide, by decide⟩ (OB.recv E.2.2.2.2.2 (by rfl) ((hk.cv hK hcv).1)) (⟨hk.cv hK hcv, (hk.cv hK hcv).2.2 5 (by decide), (hk.cv hK hcv).2.2 5 (by decide)⟩) hF hl.1 rfl (Nat.le_of_ble_eq_true rfl) d_Curve_add_238 ⟨by decide, by decide⟩ (qv (fun H10 locs hq hF => ?_))
    have hk := hk.tr hq
    refine lv_aload_n hx hb d_Curve_add_241 rfl (lv_at hl 1 rfl) ?_
    refine q_get (C := "KateDesk$Curve") (T := T_Curve) (N := 10) (ci := 0) E ((hk.cv hK hcv).1) in_Curve rfl 0 (by decide) w_205 rfl rfl d_Curve_add_242 ?_
    refine lv_aload_n hx hb d_Curve_add_245 rfl (lv_at hl 1 rfl) ?_
    refine q_get (C := "KateDesk$Curve") (T := T_Curve) (N := 10) (ci := 0) E ((hk.cv hK hcv).1) in_Curve rfl 7 (by decide) w_212 rfl rfl d_Curve_add_246 ?_
    refine lv_aload_n hx hb d_Curve_add_249 rfl (lv_at hl 1 rfl) ?_
    refine q_get (C := "KateDesk$Curve") (T := T_Curve) (N := 10) (ci := 0) E ((hk.cv hK hcv).1) in_Curve rfl 2 (by decide) w_207 rfl rfl d_Curve_add_250 ?_
    refine lv_aload_n hx hb d_Curve_add_253 rfl (lv_at hl 1 rfl) ?_
    refine q_get (C := "KateDesk$Curve") (T := T_Curve) (N := 10) (ci := 0) E ((hk.cv hK hcv).1) in_Curve rfl 3 (by decide) w_208 rfl rfl d_Curve_add_254 ?_
    refine q_cV (rest := []) E (c_Field_subtract l g n0 fo (X 6) (X 1) (X 2) F mi) w_169 w_4 w_707 w_167 w_168 hd_Field_subtract rfl ⟨by decide, by decide⟩ (OB.recv E.2.2.2.2.2 (by rfl) (((hk.cv hK hcv).2.1).1)) (⟨(hk.cv hK hcv).2.1, (hk.cv hK hcv).2.2 6 (by decide), (hk.cv hK hcv).2.2 1 (by decide), (hk.cv hK hcv).2.2 2 (by decide)⟩) hF hl.1 rfl (Nat.le_of_ble_eq_true rfl) d_Curve_add_257 ⟨by decide, by decide⟩ (qv (fun H11 locs hq hF => ?_))
    have hk := hk.tr (hq.w1 ((hk.cv hK hcv).2.2 6 (by decide)).1)
    refine lv_aload_n hx hb d_Curve_add_260 rfl (lv_at hl 1 rfl) ?_
    refine q_get (C := "KateDesk$Curve") (T := T_Curve) (N := 10) (ci := 0) E ((hk.cv hK hcv).1) in_Curve rfl 0 (by decide) w_205 rfl rfl d_Curve_add_261 ?_
    refine lv_aload_n hx hb d_Curve_add_264 rfl (lv_at hl 1 rfl) ?_
    refine q_get (C := "KateDesk$Curve") (T := T_Curve) (N := 10) (ci := 0) E ((hk.cv hK hcv).1) in_Curve rfl 8 (by decide) w_213 rfl rfl d_Curve_add_265 ?_
    refine lv_aload_n hx hb d_Curve_add_268 rfl (lv_at hl 1 rfl) ?_
    refine q_get (C := "KateDesk$Curve") (T := T_Curve) (N := 10) (ci := 0) E ((hk.cv hK hcv).1) in_Curve rfl 2 (by decide) w_207 rfl rfl d_Curve_add_269 ?_
    refine lv_aload_n hx hb d_Curve_add_272 rfl (lv_at hl 1 rfl) ?_
    refine q_get (C := "KateDesk$Curve") (T := T_Curve) (N := 10) (ci := 0) E ((hk.cv hK hcv).1) in_Curve rfl 3 (by decide) w_208 rfl rfl d_Curve_add_273 ?_
    refine q_cV (rest := []) E (c_Field_add l g n0 fo (X 7) (X 1) (X 2) F mi) w_157 w_4 w_653 w_155 w_156 hd_Field_add rfl ⟨by decide, by decide⟩ (OB.recv E.2.2.2.2.2 (by rfl) (((hk.cv hK hcv).2.1).1)) (⟨(hk.cv hK hcv).2.1, (hk.cv hK hcv).2.2 7 (by decide), (hk.cv hK hcv).2.2 1 (by decide), (hk.cv hK hcv).2.2 2 (by decide)⟩) hF hl.1 rfl (Nat.le_of_ble_eq_true rfl) d_Curve_add_276 ⟨by decide, by decide⟩ (qv (fun H12 locs hq hF => ?_))
    have hk := hk.tr (hq.w1 ((hk.cv hK hcv).2.2 7 (by decide)).1)
    refine lv_aload_n hx hb d_Curve_add_279 rfl (lv_at hl 1 rfl) ?_
    refine q_get (C := "KateDesk$Curve") (T := T_Curve) (N := 10) (ci := 0) E ((hk.cv hK hcv).1) in_Curve rfl 0 (by decide) w_205 rfl rfl d_Curve_add_280 ?_
    refine lv_aload_n hx hb d_Curve_add_283 rfl (lv_at hl 1 rfl) ?_
    refine q_get (C := "KateDesk$Curve") (T := T_Curve) (N := 10) (ci := 0) E ((hk.cv hK hcv).1) in_Curve rfl 2 (by decide) w_207 rfl rfl d_Curve_add_284 ?_
    refine lv_aload_n hx hb d_Curve_add_287 rfl (lv_at hl 1 rfl) ?_
    refine q_get (C := "KateDesk$Curve") (T := T_Curve) (N := 10) (ci := 0) E ((hk.cv hK hcv).1) in_Curve rfl 5 (by decide) w_210 rfl rfl d_Curve_add_288 ?_
    refine lv_aload_n hx hb d_Curve_add_291 rfl (lv_at hl 1 rfl) ?_
    refine q_get (C := "KateDesk$Curve") (T := T_Curve) (N := 10) (ci := 0) E ((hk.cv hK hcv).1) in_Curve rfl 6 (by decide) w_211 rfl rfl d_Curve_add_292 ?_
    refine q_cV (rest := []) E (c_Field_multiply l g n0 fo (X 1) (X 4) (X 5) F mi) w_165 w_4 w_652 w_163 w_164 hd_Field_multiply rfl ⟨by decide, by decide⟩ (OB.recv E.2.2.2.2.2 (by rfl) (((hk.cv hK hcv).2.1).1)) (⟨(hk.cv hK hcv).2.1, (hk.cv hK hcv).2.2 1 (by decide), (hk.cv hK hcv).2.2 4 (by decide), (hk.cv hK hcv).2.2 5 (by decide)⟩) hF hl.1 rfl (Nat.le_of_ble_eq_true rfl) d_Curve_add_295 ⟨by decide, by decide⟩ (qv (fun H13 locs hq hF => ?_))
    have hk := hk.tr (hq.w1 ((hk.cv hK hcv).2.2 1 (by decide)).1)
    refine lv_aload_n hx hb d_Curve_add_298 rfl (lv_at hl 1 rfl) ?_
    refine q_get (C := "KateDesk$Curve") (T := T_Curve) (N := 10) (ci := 0) E ((hk.cv hK hcv).1) in_Curve rfl 0 (by decide) w_205 rfl rfl d_Curve_add_299 ?_
    refine lv_aload_n hx hb d_Curve_add_302 rfl (lv_at hl 1 rfl) ?_
    refine q_get (C := "KateDesk$Curve") (T := T_Curve) (N := 10) (ci := 0) E ((hk.cv hK hcv).1) in_Curve rfl 3 (by decide) w_208 rfl rfl d_Curve_add_303 ?_
    refine lv_aload_n hx hb d_Curve_add_306 rfl (lv_at hl 1 rfl) ?_
    refine q_get (C := "KateDesk$Curve") (T := T_Curve) (N := 10) (ci := 0) E ((hk.cv hK hcv).1) in_Curve rfl 4 (by decide) w_209 rfl rfl d_Curve_add_307 ?_
    refine lv_aload_n hx hb d_Curve_add_310 rfl (lv_at hl 1 rfl) ?_
    refine q_get (C := "KateDesk$Curve") (T := T_Curve) (N := 10) (ci := 0) E ((hk.cv hK hcv).1) in_Curve rfl 7 (by decide) w_212 rfl rfl d_Curve_add_311 ?_
    refine q_cV (rest := []) E (c_Field_multiply l g n0 fo (X 2) (X 3) (X 6) F mi) w_165 w_4 w_652 w_163 w_164 hd_Field_multiply rfl ⟨by decide, by decide⟩ (OB.recv E.2.2.2.2.2 (by rfl) (((hk.cv hK hcv).2.1).1)) (⟨(hk.cv hK hcv).2.1, (hk.cv hK hcv).2.2 2 (by decide), (hk.cv hK hcv).2.2 3 (by decide), (hk.cv hK hcv).2.2 6 (by decide)⟩) hF hl.1 rfl (Nat.le_of_ble_eq_true rfl) d_Curve_add_314 ⟨by decide, by decide⟩ (qv (fun H14 locs hq hF => ?_))
    have hk := hk.tr (hq.w1 ((hk.cv hK hcv).2.2 2 (by decide)).1)
    refine lv_aload_n hx hb d_Curve_add_317 rfl (lv_at hl 1 rfl) ?_
    refine q_get (C := "KateDesk$Curve") (T := T_Curve) (N := 10) (ci := 0) E ((hk.cv hK hcv).1) in_Curve rfl 0 (by decide) w_205 rfl rfl d_Curve_add_318 ?_
    refine lv_aload_n hx hb d_Curve_add_321 rfl (lv_at hl 2 rfl) ?_
    refine q_get (C := "KateDesk$Point") (T := T_Point) (N := 3) (ci := 2) E ((hk.pt hK h_t).1) in_Point rfl 0 (by decide) w_46 rfl rfl d_Curve_add_322 ?_
    refine lv_aload_n hx hb d_Curve_add_325 rfl (lv_at hl 1 rfl) ?_
    refine q_get (C := "KateDesk$Curve") (T := T_Curve) (N := 10) (ci := 0) E ((hk.cv hK hcv).1) in_Curve rfl 3 (by decide) w_208 rfl rfl d_Curve_add_326 ?_
    refine lv_aload_n hx hb d_Curve_add_329 rfl (lv_at hl 1 rfl) ?_
    refine q_get (C := "KateDesk$Curve") (T := T_Curve) (N := 10) (ci := 0) E ((hk.cv hK hcv).1) in_Curve rfl 2 (by decide) w_207 rfl rfl d_Curve_add_330 ?_
    refine q_cV (rest := []) E (c_Field_subtract l g n0 fo t1 (X 2) (X 1) F mi) w_169 w_4 w_707 w_167 w_168 hd_Field_subtract rfl ⟨by decide, by decide⟩ (OB.recv E.2.2.2.2.2 (by rfl) (((hk.cv hK hcv).2.1).1)) (⟨(hk.cv hK hcv).2.1, (hk.pt hK h_t).2.1, (hk.cv hK hcv).2.2 2 (by decide), (hk.cv hK hcv).2.2 1 (by decide)⟩) hF hl.1 rfl (Nat.le_of_ble_eq_true rfl) d_Curve_add_333 ⟨by decide, by decide⟩ (qv (fun H15 locs hq hF => ?_))
    have hk := hk.tr (hq.w1 ((hk.pt hK h_t).2.1).1)
    refine lv_aload_n hx hb d_Curve_add_336 rfl (lv_at hl 1 rfl) ?_
    refine q_get (C := "KateDesk$Curve") (T := T_Curve) (N := 10) (ci := 0) E ((hk.cv hK hcv).1) in_Curve rfl 0 (by decide) w_205 rfl rfl d_Curve_add_337 ?_
    refine lv_aload_n hx hb d_Curve_add_340 rfl (lv_at hl 1 rfl) ?_
    refine q_get (C := "KateDesk$Curve") (T := T_Curve) (N := 10) (ci := 0) E ((hk.cv hK hcv).1) in_Curve rfl 2 (by decide) w_207 rfl rfl d_Curve_add_341 ?_
    refine lv_aload_n hx hb d_Curve_add_344 rfl (lv_at hl 1 rfl) ?_
    refine q_get (C := "KateDesk$Curve") (T := T_Curve) (N := 10) (ci := 0) E ((hk.cv hK hcv).1) in_Curve rfl 7 (by decide) w_212 rfl rfl d_Curve_add_345 ?_
    refine lv_aload_n hx hb d_Curve_add_348 rfl (lv_at hl 1 rfl) ?_
    refine q_get (C := "KateDesk$Curve") (T := T_Curve) (N := 10) (ci := 0) E ((hk.cv hK hcv).1) in_Curve rfl 8 (by decide) w_213 rfl rfl d_Curve_add_349 ?_
    refine q_cV (rest := []) E (c_Field_multiply l g n0 fo (X 1) (X 6) (X 7) F mi) w_165 w_4 w_652 w_163 w_164 hd_Field_multiply rfl ⟨by decide, by decide⟩ (OB.recv E.2.2.2.2.2 (by rfl) (((hk.cv hK hcv).2.1).1)) (⟨(hk.cv hK hcv).2.1, (hk.cv hK hcv).2.2 1 (by decide), (hk.cv hK hcv).2.2 6 (by decide), (hk.cv hK hcv).2.2 7 (by decide)⟩) hF hl.1 rfl (Nat.le_of_ble_eq_true rfl) d_Curve_add_352 ⟨by decide, by decide⟩ (qv (fun H16 locs hq hF => ?_))
    have hk := hk.tr (hq.w1 ((hk.cv hK hcv).2.2 1 (by decide)).1)
    refine lv_aload_n hx hb d_Curve_add_355 rfl (lv_at hl 1 rfl) ?_
    refine q_get (C := "KateDesk$Curve") (T := T_Curve) (N := 10) (ci := 0) E ((hk.cv hK hcv).1) in_Curve rfl 0 (by decide) w_205 rfl rfl d_Curve_add_356 ?_
    refine lv_aload_n hx hb d_Curve_add_359 rfl (lv_at hl 1 rfl) ?_
    refine q_get (C := "KateDesk$Curve") (T := T_Curve) (N := 10) (ci := 0) E ((hk.cv hK hcv).1) in_Curve rfl 3 (by decide) w_208 rfl rfl d_Curve_add_360 ?_
    refine lv_aload_n hx hb d_Curve_add_363 rfl (lv_at hl 1 rfl) ?_
    refine q_get (C := "KateDesk$Curve") (T := T_Curve) (N := 10) (ci := 0) E ((hk.cv hK hcv).1) in_Curve rfl 1 (by decide) w_206 rfl rfl d_Curve_add_364 ?_
    refine lv_aload_n hx hb d_Curve_add_367 rfl (lv_at hl 1 rfl) ?_
    refine q_get (C := "KateDesk$Curve") (T := T_Curve) (N := 10) (ci := 0) E ((hk.cv hK hcv).1) in_Curve rfl 6 (by decide) w_211 rfl rfl d_Curve_add_368 ?_
    refine q_cV (rest := []) E (c_Field_multiply l g n0 fo (X 2) (X 0) (X 5) F mi) w_165 w_4 w_652 w_163 w_164 hd_Field_multiply rfl ⟨by decide, by decide⟩ (OB.recv E.2.2.2.2.2 (by rfl) (((hk.cv hK hcv).2.1).1)) (⟨(hk.cv hK hcv).2.1, (hk.cv hK hcv).2.2 2 (by decide), (hk.cv hK hcv).2.2 0 (by decide), (hk.cv hK hcv).2.2 5 (by decide)⟩) hF hl.1 rfl (Nat.le_of_ble_eq_true rfl) d_Curve_add_371 ⟨by decide, by decide⟩ (qv (fun H17 locs hq hF => ?_))
    have hk := hk.tr (hq.w1 ((hk.cv hK hcv).2.2 2 (by decide)).1)
    refine lv_aload_n hx hb d_Curve_add_374 rfl (lv_at hl 1 rfl) ?_
    refine q_get (C := "KateDesk$Curve") (T := T_Curve) (N := 10) (ci := 0) E ((hk.cv hK hcv).1) in_Curve rfl 0 (by decide) w_205 rfl rfl d_Curve_add_375 ?_
    refine lv_aload_n hx hb d_Curve_add_378 rfl (lv_at hl 2 rfl) ?_
    refine q_get (C := "KateDesk$Point") (T := T_Point) (N := 3) (ci := 2) E ((hk.pt hK h_t).1) in_Point rfl 1 (by decide) w_50 rfl rfl d_Curve_add_379 ?_
    refine lv_aload_n hx hb d_Curve_add_382 rfl (lv_at hl 1 rfl) ?_
    refine q_get (C := "KateDesk$Curve") (T := T_Curve) (N := 10) (ci := 0) E ((hk.cv hK hcv).1) in_Curve rfl 2 (by decide) w_207 rfl rfl d_Curve_add_383 ?_
    refine lv_aload_n hx hb d_Curve_add_386 rfl (lv_at hl 1 rfl) ?_
    refine q_get (C := "KateDesk$Curve") (T := T_Curve) (N := 10) (ci := 0) E ((hk.cv hK hcv).1) in_Curve rfl 3 (by decide) w_208 rfl rfl d_Curve_add_387 ?_
    refine q_cV (rest := []) E (c_Field_add l g n0 fo t2 (X 1) (X 2) F mi) w_157 w_4 w_653 w_155 w_156 hd_Field_add rfl ⟨by decide, by decide⟩ (OB.recv E.2.2.2.2.2 (by rfl) (((hk.cv hK hcv).2.1).1)) (⟨(hk.cv hK hcv).2.1, (hk.pt hK h_t).2.2.1, (hk.cv hK hcv).2.2 1 (by decide), (hk.cv hK hcv).2.2 2 (by decide)⟩) hF hl.1 rfl (Nat.le_of_ble_eq_true rfl) d_Curve_add_390 ⟨by decide, by decide⟩ (qv (fun H18 locs hq hF => ?_))
    have hk := hk.tr (hq.w1 ((hk.pt hK h_t).2.2.1).1)
    refine lv_aload_n hx hb d_Curve_add_393 rfl (lv_at hl 1 rfl) ?_
    refine q_get (C := "KateDesk$Curve") (T := T_Curve) (N := 10) (ci := 0) E ((hk.cv hK hcv).1) in_Curve rfl 0 (by decide) w_205 rfl rfl d_Curve_add_394 ?_
    refine lv_aload_n hx hb d_Curve_add_397 rfl (lv_at hl 1 rfl) ?_
    refine q_get (C := "KateDesk$Curve") (T := T_Curve) (N := 10) (ci := 0) E ((hk.cv hK hcv).1) in_Curve rfl 2 (by decide) w_207 rfl rfl d_Curve_add_398 ?_
    refine lv_aload_n hx hb d_Curve_add_401 rfl (lv_at hl 1 rfl) ?_
    refine q_get (C := "KateDesk$Curve") (T := T_Curve) (N := 10) (ci := 0) E ((hk.cv hK hcv).1) in_Curve rfl 8 (by decide) w_213 rfl rfl d_Curve_add_402 ?_
    refine lv_aload_n hx hb d_Curve_add_405 rfl (lv_at hl 1 rfl) ?_
    refine q_get (C := "KateDesk$Curve") (T := T_Curve) (N := 10) (ci := 0) E ((hk.cv hK hcv).1) in_Curve rfl 5 (by decide) w_210 rfl rfl d_Curve_add_406 ?_
    refine q_cV (rest := []) E (c_Field_multiply l g n0 fo (X 1) (X 7) (X 4) F mi) w_165 w_4 w_652 w_163 w_164 hd_Field_multiply rfl ⟨by decide, by decide⟩ (OB.recv E.2.2.2.2.2 (by rfl) (((hk.cv hK hcv).2.1).1)) (⟨(hk.cv hK hcv).2.1, (hk.cv hK hcv).2.2 1 (by decide), (hk.cv hK hcv).2.2 7 (by decide), (hk.cv hK hcv).2.2 4 (by decide)⟩) hF hl.1 rfl (Nat.le_of_ble_eq_true rfl) d_Curve_add_409 ⟨by decide, by decide⟩ (qv (fun H19 locs hq hF => ?_))
    have hk := hk.tr (hq.w1 ((hk.cv hK hcv).2.2 1 (by decide)).1)
    refine lv_aload_n hx hb d_Curve_add_412 rfl (lv_at hl 1 rfl) ?_
    refine q_get (C := "KateDesk$Curve") (T := T_Curve) (N := 10) (ci := 0) E ((hk.cv hK hcv).1) in_Curve rfl 0 (by decide) w_205 rfl rfl d_Curve_add_413 ?_
    refine lv_aload_n hx hb d_Curve_add_416 rfl (lv_at hl 1 rfl) ?_
    refine q_get (C := "KateDesk$Curve") (T := T_Curve) (N := 10) (ci := 0) E ((hk.cv hK hcv).1) in_Curve rfl 3 (by decide) w_208 rfl rfl d_Curve_add_417 ?_
    refine lv_aload_n hx hb d_Curve_add_420 rfl (lv_at hl 1 rfl) ?_
    refine q_get (C := "KateDesk$Curve") (T := T_Curve) (N := 10) (ci := 0) E ((hk.cv hK hcv).1) in_Curve rfl 1 (by decide) w_206 rfl rfl d_Curve_add_421 ?_
    refine lv_aload_n hx hb d_Curve_add_424 rfl (lv_at hl 1 rfl) ?_
    refine q_get (C := "KateDesk$Curve") (T := T_Curve) (N := 10) (ci := 0) E ((hk.cv hK hcv).1) in_Curve rfl 4 (by decide) w_209 rfl rfl d_Curve_add_425 ?_
    refine q_cV (rest := []) E (c_Field_multiply l g n0 fo (X 2) (X 0) (X 3) F mi) w_165 w_4 w_652 w_163 w_164 hd_Field_multiply rfl ⟨by decide, by decide⟩ (OB.recv E.2.2.2.2.2 (by rfl) (((hk.cv hK hcv).2.1).1)) (⟨(hk.cv hK hcv).2.1, (hk.cv hK hcv).2.2 2 (by decide), (hk.cv hK hcv).2.2 0 (by decide), (hk.cv hK hcv).2.2 3 (by decide)⟩) hF hl.1 rfl (Nat.le_of_ble_eq_true rfl) d_Curve_add_428 ⟨by decide, by decide⟩ (qv (fun H20 locs hq hF => ?_))
    have hk := hk.tr (hq.w1 ((hk.cv hK hcv).2.2 2 (by decide)).1)
    refine lv_aload_n hx hb d_Curve_add_431 rfl (lv_at hl 1 rfl) ?_
    refine q_get (C := "KateDesk$Curve") (T := T_Curve) (N := 10) (ci := 0) E ((hk.cv hK hcv).1) in_Curve rfl 0 (by decide) w_205 rfl rfl d_Curve_add_432 ?_
    refine lv_aload_n hx hb d_Curve_add_435 rfl (lv_at hl 2 rfl) ?_
    refine q_get (C := "KateDesk$Point") (T := T_Point) (N := 3) (ci := 2) E ((hk.pt hK h_t).1) in_Point rfl 2 (by decide) w_54 rfl rfl d_Curve_add_436 ?_
    refine lv_aload_n hx hb d_Curve_add_439 rfl (lv_at hl 1 rfl) ?_
    refine q_get (C := "KateDesk$Curve") (T := T_Curve) (N := 10) (ci := 0) E ((hk.cv hK hcv).1) in_Curve rfl 2 (by decide) w_207 rfl rfl d_Curve_add_440 ?_
    refine lv_aload_n hx hb d_Curve_add_443 rfl (lv_at hl 1 rfl) ?_
    refine q_get (C := "KateDesk$Curve") (T := T_Curve) (N := 10) (ci := 0) E ((hk.cv hK hcv).1) in_Curve rfl 3 (by decide) w_208 rfl rfl d_Curve_add_444 ?_
    refine q_cV (rest := []) E (c_Field_add l g n0 fo t3 (X 1) (X 2) F mi) w_157 w_4 w_653 w_155 w_156 hd_Field_add rfl ⟨by decide, by decide⟩ (OB.recv E.2.2.2.2.2 (by rfl) (((hk.cv hK hcv).2.1).1)) (⟨(hk.cv hK hcv).2.1, (hk.pt hK h_t).2.2.2, (hk.cv hK hcv).2.2 1 (by decide), (hk.cv hK hcv).2.2 2 (by decide)⟩) hF hl.1 rfl (Nat.le_of_ble_eq_true rfl) d_Curve_add_447 ⟨by decide, by decide⟩ (qv (fun H21 locs hq hF => ?_))
    have hk := hk.tr (hq.w1 ((hk.pt hK h_t).2.2.2).1)
    exact q_vret E hr hlk (⟨rfl, hk⟩) hF d_Curve_add_450
  refine lv_if_eq (tgt := 32) hx hb d_Curve_add_8 (by decide) (fun h => ?_) (fun h => ?_)
  rotate_left
  · skip
    refine lv_aload_n hx hb d_Curve_add_11 rfl (lv_at hl 1 rfl) ?_
    refine q_get (C := "KateDesk$Curve") (T := T_Curve) (N := 10) (ci := 0) E ((hk.cv hK hcv).1) in_Curve rfl 0 (by decide) w_205 rfl rfl d_Curve_add_12 ?_
    refine lv_aload_n hx hb d_Curve_add_15 rfl (lv_at hl 1 rfl) ?_
    refine q_get (C := "KateDesk$Curve") (T := T_Curve) (N := 10) (ci := 0) E ((hk.cv hK hcv).1) in_Curve rfl 9 (by decide) w_214 rfl rfl d_Curve_add_16 ?_
    refine lv_aload_n hx hb d_Curve_add_19 rfl (lv_at hl 4 rfl) ?_
    refine q_get (C := "KateDesk$Point") (T := T_Point) (N := 3) (ci := 2) E ((hk.pt hK h_b).1) in_Point rfl 1 (by decide) w_50 rfl rfl d_Curve_add_20 ?_
    refine q_cV (rest := []) E (c_Field_negate l g n0 fo (X 8) b2 F mi) w_609 w_4 w_712 w_607 w_608 hd_Field_negate rfl ⟨by decide, by decide⟩ (OB.recv E.2.2.2.2.2 (by rfl) (((hk.cv hK hcv).2.1).1)) (⟨(hk.cv hK hcv).2.1, (hk.cv hK hcv).2.2 8 (by decide), (hk.pt hK h_b).2.2.1⟩) hF hl.1 rfl (Nat.le_of_ble_eq_true rfl) d_Curve_add_23 ⟨by decide, by decide⟩ (qv (fun H1 locs hq hF => ?_))
    have hk := hk.tr (hq.w2 ((hk.cv hK hcv).2.2 8 (by decide)).1 ((hk.cv hK hcv).2.1.2 5 (by decide)).1)
    refine lv_aload_n hx hb d_Curve_add_26 rfl (lv_at hl 1 rfl) ?_
    refine q_get (C := "KateDesk$Curve") (T := T_Curve) (N := 10) (ci := 0) E ((hk.cv hK hcv).1) in_Curve rfl 9 (by decide) w_214 rfl rfl d_Curve_add_27 ?_
    refine lv_astore (lv' := [(5, .ref (X 8)), (0, .ref o), (1, .ref t), (2, .ref a), (3, .ref b), (4, .int mn)]) hx hb d_Curve_add_30 hl (by decide) rfl (fun ls hl => ?_)
    have hl : lv_has ls 6 [(5, .ref (X 8)), (0, .ref o), (1, .ref t), (2, .ref a), (3, .ref b), (4, .int mn)] := lv_sub hl [0, 1, 2, 3, 4, 5] rfl
    exact tail H1 locs ls _ hk (hcv.2.2 8 (by decide)) hF hl
  have hl : lv_has ls 6 [(5, .ref b2), (0, .ref o), (1, .ref t), (2, .ref a), (3, .ref b), (4, .int mn)] := lv_sub hl [0, 1, 2, 3, 4, 5] rfl
  exact tail s.heap [] ls _ hk h_b.2.2.1 hF hl
end
section
abbrev y_Curve_twice : MethodName := ⟨"KateDesk$Curve", "twice", "(LKateDesk$Point;LKateDesk$Point;)V"⟩
theorem hd_Curve_twice : y_Curve_twice.cls ≠ "java/lang/invoke/MethodHandle" ∧ y_Curve_twice.cls ≠ "java/lang/invoke/VarHandle" ∧ (parseMethodDescriptor y_Curve_twice.desc).map (fun d => d.parameters.length) = some 2 := by decide +kernel
theorem d_Curve_twice_0 : decode prog_2_method_5_code 0 = .ok (.aload_n 0, 1) := by decide +kernel
theorem d_Curve_twice_1 : decode prog_2_method_5_code 1 = .ok (.getfield 39, 3) := by decide +kernel
theorem d_Curve_twice_4 : decode prog_2_method_5_code 4 = .ok (.aload_n 0, 1) := by decide +kernel
theorem d_Curve_twice_5 : decode prog_2_method_5_code 5 = .ok (.getfield 15, 3) := by decide +kernel
theorem d_Curve_twice_8 : decode prog_2_method_5_code 8 = .ok (.aload_n 2, 1) := by decide +kernel
theorem d_Curve_twice_9 : decode prog_2_method_5_code 9 = .ok (.getfield 43, 3) := by decide +kernel
theorem d_Curve_twice_12 : decode prog_2_method_5_code 12 = .ok (.aload_n 2, 1) := by decide +kernel
theorem d_Curve_twice_13 : decode prog_2_method_5_code 13 = .ok (.getfield 43, 3) := by decide +kernel
theorem d_Curve_twice_16 : decode prog_2_method_5_code 16 = .ok (.invokevirtual 57, 3) := by decide +kernel
theorem d_Curve_twice_19 : decode prog_2_method_5_code 19 = .ok (.aload_n 0, 1) := by decide +kernel
theorem d_Curve_twice_20 : decode prog_2_method_5_code 20 = .ok (.getfield 39, 3) := by decide +kernel
theorem d_Curve_twice_23 : decode prog_2_method_5_code 23 = .ok (.aload_n 0, 1) := by decide +kernel
theorem d_Curve_twice_24 : decode prog_2_method_5_code 24 = .ok (.getfield 18, 3) := by decide +kernel
theorem d_Curve_twice_27 : decode prog_2_method_5_code 27 = .ok (.aload_n 2, 1) := by decide +kernel
theorem d_Curve_twice_28 : decode prog_2_method_5_code 28 = .ok (.getfield 61, 3) := by decide +kernel
theorem d_Curve_twice_31 : decode prog_2_method_5_code 31 = .ok (.aload_n 2, 1) := by decide +kernel
theorem d_Curve_twice_32 : decode prog_2_method_5_code 32 = .ok (.getfield 61, 3) := by decide +kernel
theorem d_Curve_twice_35 : decode prog_2_method_5_code 35 = .ok (.invokevirtual 57, 3) := by decide +kernel
theorem d_Curve_twice_38 : decode prog_2_method_5_code 38 = .ok (.aload_n 0, 1) := by decide +kernel
theorem d_Curve_twice_39 : decode prog_2_method_5_code 39 = .ok (.getfield 39, 3) := by decide +kernel
theorem d_Curve_twice_42 : decode prog_2_method_5_code 42 = .ok (.aload_n 0, 1) := by decide +kernel
theorem d_Curve_twice_43 : decode prog_2_method_5_code 43 = .ok (.getfield 21, 3) := by decide +kernel
theorem d_Curve_twice_46 : decode prog_2_method_5_code 46 = .ok (.aload_n 2, 1) := by decide +kernel
theorem d_Curve_twice_47 : decode prog_2_method_5_code 47 = .ok (.getfield 54, 3) := by decide +kernel
theorem d_Curve_twice_50 : decode prog_2_method_5_code 50 = .ok (.aload_n 2, 1) := by decide +kernel
theorem d_Curve_twice_51 : decode prog_2_method_5_code 51 = .ok (.getfield 43, 3) := by decide +kernel
theorem d_Curve_twice_54 : decode prog_2_method_5_code 54 = .ok (.invokevirtual 57, 3) := by decide +kernel
theorem d_Curve_twice_57 : decode prog_2_method_5_code 57 = .ok (.aload_n 0, 1) := by decide +kernel
theorem d_Curve_twice_58 : decode prog_2_method_5_code 58 = .ok (.getfield 39, 3) := by decide +kernel
theorem d_Curve_twice_61 : decode prog_2_method_5_code 61 = .ok (.aload_n 0, 1) := by decide +kernel
theorem d_Curve_twice_62 : decode prog_2_method_5_code 62 = .ok (.getfield 24, 3) := by decide +kernel
theorem d_Curve_twice_65 : decode prog_2_method_5_code 65 = .ok (.aload_n 2, 1) := by decide +kernel
theorem d_Curve_twice_66 : decode prog_2_method_5_code 66 = .ok (.getfield 43, 3) := by decide +kernel
theorem d_Curve_twice_69 : decode prog_2_method_5_code 69 = .ok (.aload_n 2, 1) := by decide +kernel
theorem d_Curve_twice_70 : decode prog_2_method_5_code 70 = .ok (.getfield 61, 3) := by decide +kernel
theorem d_Curve_twice_73 : decode prog_2_method_5_code 73 = .ok (.invokevirtual 57, 3) := by decide +kernel
theorem d_Curve_twice_76 : decode prog_2_method_5_code 76 = .ok (.aload_n 0, 1) := by decide +kernel
theorem d_Curve_twice_77 : decode prog_2_method_5_code 77 = .ok (.aload_n 0, 1) := by decide +kernel
theorem d_Curve_twice_78 : decode prog_2_method_5_code 78 = .ok (.getfield 18, 3) := by decide +kernel
theorem d_Curve_twice_81 : decode prog_2_method_5_code 81 = .ok (.aload_n 0, 1) := by decide +kernel
theorem d_Curve_twice_82 : decode prog_2_method_5_code 82 = .ok (.getfield 18, 3) := by decide +kernel
theorem d_Curve_twice_85 : decode prog_2_method_5_code 85 = .ok (.invokevirtual 71, 3) := by decide +kernel
theorem d_Curve_twice_88 : decode prog_2_method_5_code 88 = .ok (.aload_n 0, 1) := by decide +kernel
theorem d_Curve_twice_89 : decode prog_2_method_5_code 89 = .ok (.getfield 39, 3) := by decide +kernel
theorem d_Curve_twice_92 : decode prog_2_method_5_code 92 = .ok (.aload_n 0, 1) := by decide +kernel
theorem d_Curve_twice_93 : decode prog_2_method_5_code 93 = .ok (.getfield 33, 3) := by decide +kernel
theorem d_Curve_twice_96 : decode prog_2_method_5_code 96 = .ok (.aload_n 0, 1) := by decide +kernel
theorem d_Curve_twice_97 : decode prog_2_method_5_code 97 = .ok (.getfield 15, 3) := by decide +kernel
theorem d_Curve_twice_100 : decode prog_2_method_5_code 100 = .ok (.aload_n 0, 1) := by decide +kernel
theorem d_Curve_twice_101 : decode prog_2_method_5_code 101 = .ok (.getfield 18, 3) := by decide +kernel
theorem d_Curve_twice_104 : decode prog_2_method_5_code 104 = .ok (.invokevirtual 68, 3) := by decide +kernel
theorem d_Curve_twice_107 : decode prog_2_method_5_code 107 = .ok (.aload_n 0, 1) := by decide +kernel
theorem d_Curve_twice_108 : decode prog_2_method_5_code 108 = .ok (.getfield 39, 3) := by decide +kernel
theorem d_Curve_twice_111 : decode prog_2_method_5_code 111 = .ok (.aload_n 0, 1) := by decide +kernel
theorem d_Curve_twice_112 : decode prog_2_method_5_code 112 = .ok (.getfield 30, 3) := by decide +kernel
theorem d_Curve_twice_115 : decode prog_2_method_5_code 115 = .ok (.aload_n 0, 1) := by decide +kernel
theorem d_Curve_twice_116 : decode prog_2_method_5_code 116 = .ok (.getfield 18, 3) := by decide +kernel
theorem d_Curve_twice_119 : decode prog_2_method_5_code 119 = .ok (.aload_n 0, 1) := by decide +kernel
theorem d_Curve_twice_120 : decode prog_2_method_5_code 120 = .ok (.getfield 18, 3) := by decide +kernel
theorem d_Curve_twice_123 : decode prog_2_method_5_code 123 = .ok (.invokevirtual 68, 3) := by decide +kernel
theorem d_Curve_twice_126 : decode prog_2_method_5_code 126 = .ok (.aload_n 0, 1) := by decide +kernel
theorem d_Curve_twice_127 : decode prog_2_method_5_code 127 = .ok (.getfield 39, 3) := by decide +kernel
theorem d_Curve_twice_130 : decode prog_2_method_5_code 130 = .ok (.aload_n 0, 1) := by decide +kernel
theorem d_Curve_twice_131 : decode prog_2_method_5_code 131 = .ok (.getfield 30, 3) := by decide +kernel
theorem d_Curve_twice_134 : decode prog_2_method_5_code 134 = .ok (.aload_n 0, 1) := by decide +kernel
theorem d_Curve_twice_135 : decode prog_2_method_5_code 135 = .ok (.getfield 30, 3) := by decide +kernel
theorem d_Curve_twice_138 : decode prog_2_method_5_code 138 = .ok (.aload_n 0, 1) := by decide +kernel
theorem d_Curve_twice_139 : decode prog_2_method_5_code 139 = .ok (.getfield 18, 3) := by decide +kernel
theorem d_Curve_twice_142 : decode prog_2_method_5_code 142 = .ok (.invokevirtual 68, 3) := by decide +kernel
theorem d_Curve_twice_145 : decode prog_2_method_5_code 145 = .ok (.aload_n 0, 1) := by decide +kernel
theorem d_Curve_twice_146 : decode prog_2_method_5_code 146 = .ok (.getfield 39, 3) := by decide +kernel
theorem d_Curve_twice_149 : decode prog_2_method_5_code 149 = .ok (.aload_n 0, 1) := by decide +kernel
theorem d_Curve_twice_150 : decode prog_2_method_5_code 150 = .ok (.getfield 30, 3) := by decide +kernel
theorem d_Curve_twice_153 : decode prog_2_method_5_code 153 = .ok (.aload_n 0, 1) := by decide +kernel
theorem d_Curve_twice_154 : decode prog_2_method_5_code 154 = .ok (.getfield 15, 3) := by decide +kernel
theorem d_Curve_twice_157 : decode prog_2_method_5_code 157 = .ok (.aload_n 0, 1) := by decide +kernel
theorem d_Curve_twice_158 : decode prog_2_method_5_code 158 = .ok (.getfield 30, 3) := by decide +kernel
theorem d_Curve_twice_161 : decode prog_2_method_5_code 161 = .ok (.invokevirtual 74, 3) := by decide +kernel
theorem d_Curve_twice_164 : decode prog_2_method_5_code 164 = .ok (.aload_n 0, 1) := by decide +kernel
theorem d_Curve_twice_165 : decode prog_2_method_5_code 165 = .ok (.getfield 39, 3) := by decide +kernel
theorem d_Curve_twice_168 : decode prog_2_method_5_code 168 = .ok (.aload_n 0, 1) := by decide +kernel
theorem d_Curve_twice_169 : decode prog_2_method_5_code 169 = .ok (.getfield 15, 3) := by decide +kernel
theorem d_Curve_twice_172 : decode prog_2_method_5_code 172 = .ok (.aload_n 0, 1) := by decide +kernel
theorem d_Curve_twice_173 : decode prog_2_method_5_code 173 = .ok (.getfield 15, 3) := by decide +kernel
theorem d_Curve_twice_176 : decode prog_2_method_5_code 176 = .ok (.aload_n 0, 1) := by decide +kernel
theorem d_Curve_twice_177 : decode prog_2_method_5_code 177 = .ok (.getfield 15, 3) := by decide +kernel
theorem d_Curve_twice_180 : decode prog_2_method_5_code 180 = .ok (.invokevirtual 68, 3) := by decide +kernel
theorem d_Curve_twice_183 : decode prog_2_method_5_code 183 = .ok (.aload_n 0, 1) := by decide +kernel
theorem d_Curve_twice_184 : decode prog_2_method_5_code 184 = .ok (.getfield 39, 3) := by decide +kernel
theorem d_Curve_twice_187 : decode prog_2_method_5_code 187 = .ok (.aload_n 0, 1) := by decide +kernel
theorem d_Curve_twice_188 : decode prog_2_method_5_code 188 = .ok (.getfield 15, 3) := by decide +kernel
theorem d_Curve_twice_191 : decode prog_2_method_5_code 191 = .ok (.aload_n 0, 1) := by decide +kernel
theorem d_Curve_twice_192 : decode prog_2_method_5_code 192 = .ok (.getfield 15, 3) := by decide +kernel
theorem d_Curve_twice_195 : decode prog_2_method_5_code 195 = .ok (.aload_n 0, 1) := by decide +kernel
theorem d_Curve_twice_196 : decode prog_2_method_5_code 196 = .ok (.getfield 15, 3) := by decide +kernel
theorem d_Curve_twice_199 : decode prog_2_method_5_code 199 = .ok (.invokevirtual 68, 3) := by decide +kernel
theorem d_Curve_twice_202 : decode prog_2_method_5_code 202 = .ok (.aload_n 0, 1) := by decide +kernel
theorem d_Curve_twice_203 : decode prog_2_method_5_code 203 = .ok (.getfield 39, 3) := by decide +kernel
theorem d_Curve_twice_206 : decode prog_2_method_5_code 206 = .ok (.aload_n 0, 1) := by decide +kernel
theorem d_Curve_twice_207 : decode prog_2_method_5_code 207 = .ok (.getfield 15, 3) := by decide +kernel
theorem d_Curve_twice_210 : decode prog_2_method_5_code 210 = .ok (.aload_n 0, 1) := by decide +kernel
theorem d_Curve_twice_211 : decode prog_2_method_5_code 211 = .ok (.getfield 15, 3) := by decide +kernel
theorem d_Curve_twice_214 : decode prog_2_method_5_code 214 = .ok (.aload_n 0, 1) := by decide +kernel
theorem d_Curve_twice_215 : decode prog_2_method_5_code 215 = .ok (.getfield 15, 3) := by decide +kernel
theorem d_Curve_twice_218 : decode prog_2_method_5_code 218 = .ok (.invokevirtual 68, 3) := by decide +kernel
theorem d_Curve_twice_221 : decode prog_2_method_5_code 221 = .ok (.aload_n 0, 1) := by decide +kernel
theorem d_Curve_twice_222 : decode prog_2_method_5_code 222 = .ok (.getfield 39, 3) := by decide +kernel
theorem d_Curve_twice_225 : decode prog_2_method_5_code 225 = .ok (.aload_n 1, 1) := by decide +kernel
theorem d_Curve_twice_226 : decode prog_2_method_5_code 226 = .ok (.getfield 61, 3) := by decide +kernel
theorem d_Curve_twice_229 : decode prog_2_method_5_code 229 = .ok (.aload_n 0, 1) := by decide +kernel
theorem d_Curve_twice_230 : decode prog_2_method_5_code 230 = .ok (.getfield 15, 3) := by decide +kernel
theorem d_Curve_twice_233 : decode prog_2_method_5_code 233 = .ok (.aload_n 0, 1) := by decide +kernel
theorem d_Curve_twice_234 : decode prog_2_method_5_code 234 = .ok (.getfield 24, 3) := by decide +kernel
theorem d_Curve_twice_237 : decode prog_2_method_5_code 237 = .ok (.invokevirtual 57, 3) := by decide +kernel
theorem d_Curve_twice_240 : decode prog_2_method_5_code 240 = .ok (.aload_n 0, 1) := by decide +kernel
theorem d_Curve_twice_241 : decode prog_2_method_5_code 241 = .ok (.getfield 39, 3) := by decide +kernel
theorem d_Curve_twice_244 : decode prog_2_method_5_code 244 = .ok (.aload_n 0, 1) := by decide +kernel
theorem d_Curve_twice_245 : decode prog_2_method_5_code 245 = .ok (.getfield 15, 3) := by decide +kernel
theorem d_Curve_twice_248 : decode prog_2_method_5_code 248 = .ok (.aload_n 0, 1) := by decide +kernel
theorem d_Curve_twice_249 : decode prog_2_method_5_code 249 = .ok (.getfield 15, 3) := by decide +kernel
theorem d_Curve_twice_252 : decode prog_2_method_5_code 252 = .ok (.aload_n 0, 1) := by decide +kernel
theorem d_Curve_twice_253 : decode prog_2_method_5_code 253 = .ok (.getfield 18, 3) := by decide +kernel
theorem d_Curve_twice_256 : decode prog_2_method_5_code 256 = .ok (.invokevirtual 57, 3) := by decide +kernel
theorem d_Curve_twice_259 : decode prog_2_method_5_code 259 = .ok (.aload_n 0, 1) := by decide +kernel
theorem d_Curve_twice_260 : decode prog_2_method_5_code 260 = .ok (.getfield 39, 3) := by decide +kernel
theorem d_Curve_twice_263 : decode prog_2_method_5_code 263 = .ok (.aload_n 0, 1) := by decide +kernel
theorem d_Curve_twice_264 : decode prog_2_method_5_code 264 = .ok (.getfield 33, 3) := by decide +kernel
theorem d_Curve_twice_267 : decode prog_2_method_5_code 267 = .ok (.aload_n 0, 1) := by decide +kernel
theorem d_Curve_twice_268 : decode prog_2_method_5_code 268 = .ok (.getfield 30, 3) := by decide +kernel
theorem d_Curve_twice_271 : decode prog_2_method_5_code 271 = .ok (.aload_n 0, 1) := by decide +kernel
theorem d_Curve_twice_272 : decode prog_2_method_5_code 272 = .ok (.getfield 33, 3) := by decide +kernel
theorem d_Curve_twice_275 : decode prog_2_method_5_code 275 = .ok (.invokevirtual 57, 3) := by decide +kernel
theorem d_Curve_twice_278 : decode prog_2_method_5_code 278 = .ok (.aload_n 0, 1) := by decide +kernel
theorem d_Curve_twice_279 : decode prog_2_method_5_code 279 = .ok (.getfield 39, 3) := by decide +kernel
theorem d_Curve_twice_282 : decode prog_2_method_5_code 282 = .ok (.aload_n 1, 1) := by decide +kernel
theorem d_Curve_twice_283 : decode prog_2_method_5_code 283 = .ok (.getfield 43, 3) := by decide +kernel
theorem d_Curve_twice_286 : decode prog_2_method_5_code 286 = .ok (.aload_n 0, 1) := by decide +kernel
theorem d_Curve_twice_287 : decode prog_2_method_5_code 287 = .ok (.getfield 15, 3) := by decide +kernel
theorem d_Curve_twice_290 : decode prog_2_method_5_code 290 = .ok (.aload_n 0, 1) := by decide +kernel
theorem d_Curve_twice_291 : decode prog_2_method_5_code 291 = .ok (.getfield 33, 3) := by decide +kernel
theorem d_Curve_twice_294 : decode prog_2_method_5_code 294 = .ok (.invokevirtual 68, 3) := by decide +kernel
theorem d_Curve_twice_297 : decode prog_2_method_5_code 297 = .ok (.aload_n 0, 1) := by decide +kernel
theorem d_Curve_twice_298 : decode prog_2_method_5_code 298 = .ok (.getfield 39, 3) := by decide +kernel
theorem d_Curve_twice_301 : decode prog_2_method_5_code 301 = .ok (.aload_n 0, 1) := by decide +kernel
theorem d_Curve_twice_302 : decode prog_2_method_5_code 302 = .ok (.getfield 30, 3) := by decide +kernel
theorem d_Curve_twice_305 : decode prog_2_method_5_code 305 = .ok (.aload_n 0, 1) := by decide +kernel
theorem d_Curve_twice_306 : decode prog_2_method_5_code 306 = .ok (.getfield 30, 3) := by decide +kernel
theorem d_Curve_twice_309 : decode prog_2_method_5_code 309 = .ok (.aload_n 0, 1) := by decide +kernel
theorem d_Curve_twice_310 : decode prog_2_method_5_code 310 = .ok (.getfield 21, 3) := by decide +kernel
theorem d_Curve_twice_313 : decode prog_2_method_5_code 313 = .ok (.invokevirtual 57, 3) := by decide +kernel
theorem d_Curve_twice_316 : decode prog_2_method_5_code 316 = .ok (.aload_n 0, 1) := by decide +kernel
theorem d_Curve_twice_317 : decode prog_2_method_5_code 317 = .ok (.getfield 39, 3) := by decide +kernel
theorem d_Curve_twice_320 : decode prog_2_method_5_code 320 = .ok (.aload_n 1, 1) := by decide +kernel
theorem d_Curve_twice_321 : decode prog_2_method_5_code 321 = .ok (.getfield 54, 3) := by decide +kernel
theorem d_Curve_twice_324 : decode prog_2_method_5_code 324 = .ok (.aload_n 0, 1) := by decide +kernel
theorem d_Curve_twice_325 : decode prog_2_method_5_code 325 = .ok (.getfield 30, 3) := by decide +kernel
theorem d_Curve_twice_328 : decode prog_2_method_5_code 328 = .ok (.aload_n 0, 1) := by decide +kernel
theorem d_Curve_twice_329 : decode prog_2_method_5_code 329 = .ok (.getfield 30, 3) := by decide +kernel
theorem d_Curve_twice_332 : decode prog_2_method_5_code 332 = .ok (.invokevirtual 68, 3) := by decide +kernel
theorem d_Curve_twice_335 : decode prog_2_method_5_code 335 = .ok (.return_, 1) := by decide +kernel
set_option maxHeartbeats 4000000 in
set_option maxRecDepth 100000 in
/-- a point twice -/
theorem c_Curve_twice (l : Launch) (g : WG) (n0 : Nat → Prop) (o : Nat) (fo : Nat) (F : Nat → Nat) (mi : Int64) (X : Nat → Nat) (t t1 t2 t3 : Nat) (a a1 a2 a3 : Nat) : Ctr l y_Curve_twice (.code y_Curve_twice prog_2_method_5_code 3 none) 3 135 0 0 n0 g [.ref o, .ref t, .ref a] (fun H => CV g n0 H o fo F mi X ∧ PT g n0 H t t1 t2 t3 ∧ PT g n0 H a a1 a2 a3) (QV (fun H H' => KJ g (fun q => n0 q) H H')) := by
  refine ctr_mk l (lv0 := [(0, .ref o), (1, .ref t), (2, .ref a)]) (by decide) (Nat.le_of_ble_eq_true rfl) rfl ?_
  intro p e s m below meth c ls E hr hlk hnm hl hP
  have hx := E.1
  have hb := E.2.1
  have hK := E.2.2.2.2.2
  have hF : ∀ q ∈ ([] : List Loc), n0 q.base := fun q hq => absurd hq List.not_mem_nil
  obtain ⟨hcv, h_t, h_a⟩ := hP
  have hk : KJ g (fun q => n0 q) s.heap s.heap := KJ.rf
  refine lv_aload_n hx hb d_Curve_twice_0 rfl (lv_at hl 0 rfl) ?_
  refine q_get (C := "KateDesk$Curve") (T := T_Curve) (N := 10) (ci := 0) E ((hk.cv hK hcv).1) in_Curve rfl 0 (by decide) w_205 rfl rfl d_Curve_twice_1 ?_
  refine lv_aload_n hx hb d_Curve_twice_4 rfl (lv_at hl 0 rfl) ?_
  refine q_get (C := "KateDesk$Curve") (T := T_Curve) (N := 10) (ci := 0) E ((hk.cv hK hcv).1) in_Curve rfl 2 (by decide) w_207 rfl rfl d_Curve_twice_5 ?_
  refine lv_aload_n hx hb d_Curve_twice_8 rfl (lv_at hl 2 rfl) ?_
  refine q_get (C := "KateDesk$Point") (T := T_Point) (N := 3) (ci := 2) E ((hk.pt hK h_a).1) in_Point rfl 1 (by decide) w_50 rfl rfl d_Curve_twice_9 ?_
  refine lv_aload_n hx hb d_Curve_twice_12 rfl (lv_at hl 2 rfl) ?_
  refine q_get (C := "KateDesk$Point") (T := T_Point) (N := 3) (ci := 2) E ((hk.pt hK h_a).1) in_Point rfl 1 (by decide) w_50 rfl rfl d_Curve_twice_13 ?_
  refine q_cV (rest := []) E (c_Field_multiply l g n0 fo (X 1) a2 a2 F mi) w_165 w_4 w_652 w_163 w_164 hd_Field_multiply rfl ⟨by decide, by decide⟩ (OB.recv E.2.2.2.2.2 (by rfl) (((hk.cv hK hcv).2.1).1)) (⟨(hk.cv hK hcv).2.1, (hk.cv hK hcv).2.2 1 (by decide), (hk.pt hK h_a).2.2.1, (hk.pt hK h_a).2.2.1⟩) hF hl.1 rfl (Nat.le_of_ble_eq_true rfl) d_Curve_twice_16 ⟨by decide, by decide⟩ (qv (fun H1 locs hq hF => ?_))
  have hk := hk.tr (hq.w1 ((hk.cv hK hcv).2.2 1 (by decide)).1)
  refine lv_aload_n hx hb d_Curve_twice_19 rfl (lv_at hl 0 rfl) ?_
  refine q_get (C := "KateDesk$Curve") (T := T_Curve) (N := 10) (ci := 0) E ((hk.cv hK hcv).1) in_Curve rfl 0 (by decide) w_205 rfl rfl d_Curve_twice_20 ?_
  refine lv_aload_n hx hb d_Curve_twice_23 rfl (lv_at hl 0 rfl) ?_
  refine q_get (C := "KateDesk$Curve") (T := T_Curve) (N := 10) (ci := 0) E ((hk.cv hK hcv).1) in_Curve rfl 3 (by decide) w_208 rfl rfl d_Curve_twice_24 ?_
  refine lv_aload_n hx hb d_Curve_twice_27 rfl (lv_at hl 2 rfl) ?_
  refine q_get (C := "KateDesk$Point") (T := T_Point) (N := 3) (ci := 2) E ((hk.pt hK h_a).1) in_Point rfl 2 (by decide) w_54 rfl rfl d_Curve_twice_28 ?_
  refine lv_aload_n hx hb d_Curve_twice_31 rfl (lv_at hl 2 rfl) ?_
  refine q_get (C := "KateDesk$Point") (T := T_Point) (N := 3) (ci := 2) E ((hk.pt hK h_a).1) in_Point rfl 2 (by decide) w_54 rfl rfl d_Curve_twice_32 ?_
  refine q_cV (rest := []) E (c_Field_multiply l g n0 fo (X 2) a3 a3 F mi) w_165 w_4 w_652 w_163 w_164 hd_Field_multiply rfl ⟨by decide, by decide⟩ (OB.recv E.2.2.2.2.2 (by rfl) (((hk.cv hK hcv).2.1).1)) (⟨(hk.cv hK hcv).2.1, (hk.cv hK hcv).2.2 2 (by decide), (hk.pt hK h_a).2.2.2, (hk.pt hK h_a).2.2.2⟩) hF hl.1 rfl (Nat.le_of_ble_eq_true rfl) d_Curve_twice_35 ⟨by decide, by decide⟩ (qv (fun H2 locs hq hF => ?_))
  have hk := hk.tr (hq.w1 ((hk.cv hK hcv).2.2 2 (by decide)).1)
  refine lv_aload_n hx hb d_Curve_twice_38 rfl (lv_at hl 0 rfl) ?_
  refine q_get (C := "KateDesk$Curve") (T := T_Curve) (N := 10) (ci := 0) E ((hk.cv hK hcv).1) in_Curve rfl 0 (by decide) w_205 rfl rfl d_Curve_twice_39 ?_
  refine lv_aload_n hx hb d_Curve_twice_42 rfl (lv_at hl 0 rfl) ?_
  refine q_get (C := "KateDesk$Curve") (T := T_Curve) (N := 10) (ci := 0) E ((hk.cv hK hcv).1) in_Curve rfl 4 (by decide) w_209 rfl rfl d_Curve_twice_43 ?_
  refine lv_aload_n hx hb d_Curve_twice_46 rfl (lv_at hl 2 rfl) ?_
  refine q_get (C := "KateDesk$Point") (T := T_Point) (N := 3) (ci := 2) E ((hk.pt hK h_a).1) in_Point rfl 0 (by decide) w_46 rfl rfl d_Curve_twice_47 ?_
  refine lv_aload_n hx hb d_Curve_twice_50 rfl (lv_at hl 2 rfl) ?_
  refine q_get (C := "KateDesk$Point") (T := T_Point) (N := 3) (ci := 2) E ((hk.pt hK h_a).1) in_Point rfl 1 (by decide) w_50 rfl rfl d_Curve_twice_51 ?_
  refine q_cV (rest := []) E (c_Field_multiply l g n0 fo (X 3) a1 a2 F mi) w_165 w_4 w_652 w_163 w_164 hd_Field_multiply rfl ⟨by decide, by decide⟩ (OB.recv E.2.2.2.2.2 (by rfl) (((hk.cv hK hcv).2.1).1)) (⟨(hk.cv hK hcv).2.1, (hk.cv hK hcv).2.2 3 (by decide), (hk.pt hK h_a).2.1, (hk.pt hK h_a).2.2.1⟩) hF hl.1 rfl (Nat.le_of_ble_eq_true rfl) d_Curve_twice_54 ⟨by decide, by decide⟩ (qv (fun H3 locs hq hF => ?_))
  have hk := hk.tr (hq.w1 ((hk.cv hK hcv).2.2 3 (by decide)).1)
  refine lv_aload_n hx hb d_Curve_twice_57 rfl (lv_at hl 0 rfl) ?_
  refine q_get (C := "KateDesk$Curve") (T := T_Curve) (N := 10) (ci := 0) E ((hk.cv hK hcv).1) in_Curve rfl 0 (by decide) w_205 rfl rfl d_Curve_twice_58 ?_
  refine lv_aload_n hx hb d_Curve_twice_61 rfl (lv_at hl 0 rfl) ?_
  refine q_get (C := "KateDesk$Curve") (T := T_Curve) (N := 10) (ci := 0) E ((hk.cv hK hcv).1) in_Curve rfl 5 (by decide) w_210 rfl rfl d_Curve_twice_62 ?_
  refine lv_aload_n hx hb d_Curve_twice_65 rfl (lv_at hl 2 rfl) ?_
  refine q_get (C := "KateDesk$Point") (T := T_Point) (N := 3) (ci := 2) E ((hk.pt hK h_a).1) in_Point rfl 1 (by decide) w_50 rfl rfl d_Curve_twice_66 ?_
  refine lv_aload_n hx hb d_Curve_twice_69 rfl (lv_at hl 2 rfl) ?_
  refine q_get (C := "KateDesk$Point") (T := T_Point) (N := 3) (ci := 2) E ((hk.pt hK h_a).1) in_Point rfl 2 (by decide) w_54 rfl rfl d_Curve_twice_70 ?_
  refine q_cV (rest := []) E (c_Field_multiply l g n0 fo (X 4) a2 a3 F mi) w_165 w_4 w_652 w_163 w_164 hd_Field_multiply rfl ⟨by decide, by decide⟩ (OB.recv E.2.2.2.2.2 (by rfl) (((hk.cv hK hcv).2.1).1)) (⟨(hk.cv hK hcv).2.1, (hk.cv hK hcv).2.2 4 (by decide), (hk.pt hK h_a).2.2.1, (hk.pt hK h_a).2.2.2⟩) hF hl.1 rfl (Nat.le_of_ble_eq_true rfl) d_Curve_twice_73 ⟨by decide, by decide⟩ (qv (fun H4 locs hq hF => ?_))
  have hk := hk.tr (hq.w1 ((hk.cv hK hcv).2.2 4 (by decide)).1)
  refine lv_aload_n hx hb d_Curve_twice_76 rfl (lv_at hl 0 rfl) ?_
  refine lv_aload_n hx hb d_Curve_twice_77 rfl (lv_at hl 0 rfl) ?_
  refine q_get (C := "KateDesk$Curve") (T := T_Curve) (N := 10) (ci := 0) E ((hk.cv hK hcv).1) in_Curve rfl 3 (by decide) w_208 rfl rfl d_Curve_twice_78 ?_
  refine lv_aload_n hx hb d_Curve_twice_81 rfl (lv_at hl 0 rfl) ?_
  refine q_get (C := "KateDesk$Curve") (T := T_Curve) (N := 10) (ci := 0) E ((hk.cv hK hcv).1) in_Curve rfl 3 (by decide) w_208 rfl rfl d_Curve_twice_82 ?_
  refine q_cV (rest := []) E (c_Curve_twelvefold l g n0 o fo F mi X (X 2) (X 2)) w_706 w_11 w_703 w_705 (bw_s 8 rfl) hd_Curve_twelvefold rfl ⟨by decide, by decide⟩ (OB.recv E.2.2.2.2.2 (by rfl) ((hk.cv hK hcv).1)) (⟨hk.cv hK hcv, (hk.cv hK hcv).2.2 2 (by decide), (hk.cv hK hcv).2.2 2 (by decide)⟩) hF hl.1 rfl (Nat.le_of_ble_eq_true rfl) d_Curve_twice_85 ⟨by decide, by decide⟩ (qv (fun H5 locs hq hF => ?_))
  have hk := hk.tr hq
  refine lv_aload_n hx hb d_Curve_twice_88 rfl (lv_at hl 0 rfl) ?_
  refine q_get (C := "KateDesk$Curve") (T := T_Curve) (N := 10) (ci := 0) E ((hk.cv hK hcv).1) in_Curve rfl 0 (by decide) w_205 rfl rfl d_Curve_twice_89 ?_
  refine lv_aload_n hx hb d_Curve_twice_92 rfl (lv_at hl 0 rfl) ?_
  refine q_get (C := "KateDesk$Curve") (T := T_Curve) (N := 10) (ci := 0) E ((hk.cv hK hcv).1) in_Curve rfl 8 (by decide) w_213 rfl rfl d_Curve_twice_93 ?_
  refine lv_aload_n hx hb d_Curve_twice_96 rfl (lv_at hl 0 rfl) ?_
  refine q_get (C := "KateDesk$Curve") (T := T_Curve) (N := 10) (ci := 0) E ((hk.cv hK hcv).1) in_Curve rfl 2 (by decide) w_207 rfl rfl d_Curve_twice_97 ?_
  refine lv_aload_n hx hb d_Curve_twice_100 rfl (lv_at hl 0 rfl) ?_
  refine q_get (C := "KateDesk$Curve") (T := T_Curve) (N := 10) (ci := 0) E ((hk.cv hK hcv).1) in_Curve rfl 3 (by decide) w_208 rfl rfl d_Curve_twice_101 ?_
  refine q_cV (rest := []) E (c_Field_add l g n0 fo (X 7) (X 1) (X 2) F mi) w_157 w_4 w_653 w_155 w_156 hd_Field_add rfl ⟨by decide, by decide⟩ (OB.recv E.2.2.2.2.2 (by rfl) (((hk.cv hK hcv).2.1).1)) (⟨(hk.cv hK hcv).2.1, (hk.cv hK hcv).2.2 7 (by decide), (hk.cv hK hcv).2.2 1 (by decide), (hk.cv hK hcv).2.2 2 (by decide)⟩) hF hl.1 rfl (Nat.le_of_ble_eq_true rfl) d_Curve_twice_104 ⟨by decide, by decide⟩ (qv (fun H6 locs hq hF => ?_))
  have hk := hk.tr (hq.w1 ((hk.cv hK hcv).2.2 7 (by decide)).1)
  refine lv_aload_n hx hb d_Curve_twice_107 rfl (lv_at hl 0 rfl) ?_
  refine q_get (C := "KateDesk$Curve") (T := T_Curve) (N := 10) (ci := 0) E ((hk.cv hK hcv).1) in_Curve rfl 0 (by decide) w_205 rfl rfl d_Curve_twice_108 ?_
  refine lv_aload_n hx hb d_Curve_twice_111 rfl (lv_at hl 0 rfl) ?_
  refine q_get (C := "KateDesk$Curve") (T := T_Curve) (N := 10) (ci := 0) E ((hk.cv hK hcv).1) in_Curve rfl 7 (by decide) w_212 rfl rfl d_Curve_twice_112 ?_
  refine lv_aload_n hx hb d_Curve_twice_115 rfl (lv_at hl 0 rfl) ?_
  refine q_get (C := "KateDesk$Curve") (T := T_Curve) (N := 10) (ci := 0) E ((hk.cv hK hcv).1) in_Curve rfl 3 (by decide) w_208 rfl rfl d_Curve_twice_116 ?_
  refine lv_aload_n hx hb d_Curve_twice_119 rfl (lv_at hl 0 rfl) ?_
  refine q_get (C := "KateDesk$Curve") (T := T_Curve) (N := 10) (ci := 0) E ((hk.cv hK hcv).1) in_Curve rfl 3 (by decide) w_208 rfl rfl d_Curve_twice_120 ?_
  refine q_cV (rest := []) E (c_Field_add l g n0 fo (X 6) (X 2) (X 2) F mi) w_157 w_4 w_653 w_155 w_156 hd_Field_add rfl ⟨by decide, by decide⟩ (OB.recv E.2.2.2.2.2 (by rfl) (((hk.cv hK hcv).2.1).1)) (⟨(hk.cv hK hcv).2.1, (hk.cv hK hcv).2.2 6 (by decide), (hk.cv hK hcv).2.2 2 (by decide), (hk.cv hK hcv).2.2 2 (by decide)⟩) hF hl.1 rfl (Nat.le_of_ble_eq_true rfl) d_Curve_twice_123 ⟨by decide, by decide⟩ (qv (fun H7 locs hq hF => ?_))
  have hk := hk.tr (hq.w1 ((hk.cv hK hcv).2.2 6 (by decide)).1)
  refine lv_aload_n hx hb d_Curve_twice_126 rfl (lv_at hl 0 rfl) ?_
  refine q_get (C := "KateDesk$Curve") (T := T_Curve) (N := 10) (ci := 0) E ((hk.cv hK hcv).1) in_Curve rfl 0 (by decide) w_205 rfl rfl d_Curve_twice_127 ?_
  refine lv_aload_n hx hb d_Curve_twice_130 rfl (lv_at hl 0 rfl) ?_
  refine q_get (C := "KateDesk$Curve") (T := T_Curve) (N := 10) (ci := 0) E ((hk.cv hK hcv).1) in_Curve rfl 7 (by decide) w_212 rfl rfl d_Curve_twice_131 ?_
  refine lv_aload_n hx hb d_Curve_twice_134 rfl (lv_at hl 0 rfl) ?_
  refine q_get (C := "KateDesk$Curve") (T := T_Curve) (N := 10) (ci := 0) E ((hk.cv hK hcv).1) in_Curve rfl 7 (by decide) w_212 rfl rfl d_Curve_twice_135 ?_
  refine lv_aload_n hx hb d_Curve_twice_138 rfl (lv_at hl 0 rfl) ?_
  refine q_get (C := "KateDesk$Curve") (T := T_Curve) (N := 10) (ci := 0) E ((hk.cv hK hcv).1) in_Curve rfl 3 (by decide) w_208 rfl rfl d_Curve_twice_139 ?_
  refine q_cV (rest := []) E (c_Field_add l g n0 fo (X 6) (X 6) (X 2) F mi) w_157 w_4 w_653 w_155 w_156 hd_Field_add rfl ⟨by decide, by decide⟩ (OB.recv E.2.2.2.2.2 (by rfl) (((hk.cv hK hcv).2.1).1)) (⟨(hk.cv hK hcv).2.1, (hk.cv hK hcv).2.2 6 (by decide), (hk.cv hK hcv).2.2 6 (by decide), (hk.cv hK hcv).2.2 2 (by decide)⟩) hF hl.1 rfl (Nat.le_of_ble_eq_true rfl) d_Curve_twice_142 ⟨by decide, by decide⟩ (qv (fun H8 locs hq hF => ?_))
  have hk := hk.tr (hq.w1 ((hk.cv hK hcv).2.2 6 (by decide)).1)
  refine lv_aload_n hx hb d_Curve_twice_145 rfl (lv_at hl 0 rfl) ?_
  refine q_get (C := "KateDesk$Curve") (T := T_Curve) (N := 10) (ci := 0) E ((hk.cv hK hcv).1) in_Curve rfl 0 (by decide) w_205 rfl rfl d_Curve_twice_146 ?_
  refine lv_aload_n hx hb d_Curve_twice_149 rfl (lv_at hl 0 rfl) ?_
  refine q_get (C := "KateDesk$Curve") (T := T_Curve) (N := 10) (ci := 0) E ((hk.cv hK hcv).1) in_Curve rfl 7 (by decide) w_212 rfl rfl d_Curve_twice_150 ?_
  refine lv_aload_n hx hb d_Curve_twice_153 rfl (lv_at hl 0 rfl) ?_
  refine q_get (C := "KateDesk$Curve") (T := T_Curve) (N := 10) (ci := 0) E ((hk.cv hK hcv).1) in_Curve rfl 2 (by decide) w_207 rfl rfl d_Curve_twice_154 ?_
  refine lv_aload_n hx hb d_Curve_twice_157 rfl (lv_at hl 0 rfl) ?_
  refine q_get (C := "KateDesk$Curve") (T := T_Curve) (N := 10) (ci := 0) E ((hk.cv hK hcv).1) in_Curve rfl 7 (by decide) w_212 rfl rfl d_Curve_twice_158 ?_
  refine q_cV (rest := []) E (c_Field_subtract l g n0 fo (X 6) (X 1) (X 6) F mi) w_169 w_4 w_707 w_167 w_168 hd_Field_subtract rfl ⟨by decide, by decide⟩ (OB.recv E.2.2.2.2.2 (by rfl) (((hk.cv hK hcv).2.1).1)) (⟨(hk.cv hK hcv).2.1, (hk.cv hK hcv).2.2 6 (by decide), (hk.cv hK hcv).2.2 1 (by decide), (hk.cv hK hcv).2.2 6 (by decide)⟩) hF hl.1 rfl (Nat.le_of_ble_eq_true rfl) d_Curve_twice_161 ⟨by decide, by decide⟩ (qv (fun H9 locs hq hF => ?_))
  have hk := hk.tr (hq.w1 ((hk.cv hK hcv).2.2 6 (by decide)).1)
  refine lv_aload_n hx hb d_Curve_twice_164 rfl (lv_at hl 0 rfl) ?_
  refine q_get (C := "KateDesk$Curve") (T := T_Curve) (N := 10) (ci := 0) E ((hk.cv hK hcv).1) in_Curve rfl 0 (by decide) w_205 rfl rfl d_Curve_twice_165 ?_
  refine lv_aload_n hx hb d_Curve_twice_168 rfl (lv_at hl 0 rfl) ?_
  refine q_get (C := "KateDesk$Curve") (T := T_Curve) (N := 10) (ci := 0) E ((hk.cv hK hcv).1) in_Curve rfl 2 (by decide) w_207 rfl rfl d_Curve_twice_169 ?_
  refine lv_aload_n hx hb d_Curve_twice_172 rfl (lv_at hl 0 rfl) ?_
  refine q_get (C := "KateDesk$Curve") (T := T_Curve) (N := 10) (ci := 0) E ((hk.cv hK hcv).1) in_Curve rfl 2 (by decide) w_207 rfl rfl d_Curve_twice_173 ?_
  refine lv_aload_n hx hb d_Curve_twice_176 rfl (lv_at hl 0 rfl) ?_
  refine q_get (C := "KateDesk$Curve") (T := T_Curve) (N := 10) (ci := 0) E ((hk.cv hK hcv).1) in_Curve rfl 2 (by decide) w_207 rfl rfl d_Curve_twice_177 ?_
  refine q_cV (rest := []) E (c_Field_add l g n0 fo (X 1) (X 1) (X 1) F mi) w_157 w_4 w_653 w_155 w_156 hd_Field_add rfl ⟨by decide, by decide⟩ (OB.recv E.2.2.2.2.2 (by rfl) (((hk.cv hK hcv).2.1).1)) (⟨(hk.cv hK hcv).2.1, (hk.cv hK hcv).2.2 1 (by decide), (hk.cv hK hcv).2.2 1 (by decide), (hk.cv hK hcv).2.2 1 (by decide)⟩) hF hl.1 rfl (Nat.le_of_ble_eq_true rfl) d_Curve_twice_180 ⟨by decide, by decide⟩ (qv (fun H10 locs hq hF => ?_))
  have hk := hk.tr (hq.w1 ((hk.cv hK hcv).2.2 1 (by decide)).1)
  refine lv_aload_n hx hb d_Curve_twice_183 rfl (lv_at hl 0 rfl) ?_
  refine q_get (C := "KateDesk$Curve") (T := T_Curve) (N := 10) (ci := 0) E ((hk.cv hK hcv).1) in_Curve rfl 0 (by decide) w_205 rfl rfl d_Curve_twice_184 ?_
  refine lv_aload_n hx hb d_Curve_twice_187 rfl (lv_at hl 0 rfl) ?_
  refine q_get (C := "KateDesk$Curve") (T := T_Curve) (N := 10) (ci := 0) E ((hk.cv hK hcv).1) in_Curve rfl 2 (by decide) w_207 rfl rfl d_Curve_twice_188 ?_
  refine lv_aload_n hx hb d_Curve_twice_191 rfl (lv_at hl 0 rfl) ?_
  refine q_get (C := "KateDesk$Curve") (T := T_Curve) (N := 10) (ci := 0) E ((hk.cv hK hcv).1) in_Curve rfl 2 (by decide) w_207 rfl rfl d_Curve_twice_192 ?_
  refine lv_aload_n hx hb d_Curve_twice_195 rfl (lv_at hl 0 rfl) ?_
  refine q_get (C := "KateDesk$Curve") (T := T_Curve) (N := 10) (ci := 0) E ((hk.cv hK hcv).1) in_Curve rfl 2 (by decide) w_207 rfl rfl d_Curve_twice_196 ?_
  refine q_cV (rest := []) E (c_Field_add l g n0 fo (X 1) (X 1) (X 1) F mi) w_157 w_4 w_653 w_155 w_156 hd_Field_add rfl ⟨by decide, by decide⟩ (OB.recv E.2.2.2.2.2 (by rfl) (((hk.cv hK hcv).2.1).1)) (⟨(hk.cv hK hcv).2.1, (hk.cv hK hcv).2.2 1 (by decide), (hk.cv hK hcv).2.2 1 (by decide), (hk.cv hK hcv).2.2 1 (by decide)⟩) hF hl.1 rfl (Nat.le_of_ble_eq_true rfl) d_Curve_twice_199 ⟨by decide, by decide⟩ (qv (fun H11 locs hq hF => ?_))
  have hk := hk.tr (hq.w1 ((hk.cv hK hcv).2.2 1 (by decide)).1)
  refine lv_aload_n hx hb d_Curve_twice_202 rfl (lv_at hl 0 rfl) ?_
  refine q_get (C := "KateDesk$Curve") (T := T_Curve) (N := 10) (ci := 0) E ((hk.cv hK hcv).1) in_Curve rfl 0 (by decide) w_205 rfl rfl d_Curve_twice_203 ?_
  refine lv_aload_n hx hb d_Curve_twice_206 rfl (lv_at hl 0 rfl) ?_
  refine q_get (C := "KateDesk$Curve") (T := T_Curve) (N := 10) (ci := 0) E ((hk.cv hK hcv).1) in_Curve rfl 2 (by decide) w_207 rfl rfl d_Curve_twice_207 ?_
  refine lv_aload_n hx hb d_Curve_twice_210 rfl (lv_at hl 0 rfl) ?_
  refine q_get (C := "KateDesk$Curve") (T := T_Curve) (N := 10) (ci := 0) E ((hk.cv hK hcv).1) in_Curve rfl 2 (by decide) w_207 rfl rfl d_Curve_twice_211 ?_
  refine lv_aload_n hx hb d_Curve_twice_214 rfl (lv_at hl 0 rfl) ?_
  refine q_get (C := "KateDesk$Curve") (T := T_Curve) (N := 10) (ci := 0) E ((hk.cv hK hcv).1) in_Curve rfl 2 (by decide) w_207 rfl rfl d_Curve_twice_215 ?_
  refine q_cV (rest := []) E (c_Field_add l g n0 fo (X 1) (X 1) (X 1) F mi) w_157 w_4 w_653 w_155 w_156 hd_Field_add rfl ⟨by decide, by decide⟩ (OB.recv E.2.2.2.2.2 (by rfl) (((hk.cv hK hcv).2.1).1)) (⟨(hk.cv hK hcv).2.1, (hk.cv hK hcv).2.2 1 (by decide), (hk.cv hK hcv).2.2 1 (by decide), (hk.cv hK hcv).2.2 1 (by decide)⟩) hF hl.1 rfl (Nat.le_of_ble_eq_true rfl) d_Curve_twice_218 ⟨by decide, by decide⟩ (qv (fun H12 locs hq hF => ?_))
  have hk := hk.tr (hq.w1 ((hk.cv hK hcv).2.2 1 (by decide)).1)
  refine lv_aload_n hx hb d_Curve_twice_221 rfl (lv_at hl 0 rfl) ?_
  refine q_get (C := "KateDesk$Curve") (T := T_Curve) (N := 10) (ci := 0) E ((hk.cv hK hcv).1) in_Curve rfl 0 (by decide) w_205 rfl rfl d_Curve_twice_222 ?_
  refine lv_aload_n hx hb d_Curve_twice_225 rfl (lv_at hl 1 rfl) ?_
  refine q_get (C := "KateDesk$Point") (T := T_Point) (N := 3) (ci := 2) E ((hk.pt hK h_t).1) in_Point rfl 2 (by decide) w_54 rfl rfl d_Curve_twice_226 ?_
  refine lv_aload_n hx hb d_Curve_twice_229 rfl (lv_at hl 0 rfl) ?_
  refine q_get (C := "KateDesk$Curve") (T := T_Curve) (N := 10) (ci := 0) E ((hk.cv hK hcv).1) in_Curve rfl 2 (by decide) w_207 rfl rfl d_Curve_twice_230 ?_
  refine lv_aload_n hx hb d_Curve_twice_233 rfl (lv_at hl 0 rfl) ?_
  refine q_get (C := "KateDesk$Curve") (T := T_Curve) (N := 10) (ci := 0) E ((hk.cv hK hcv).1) in_Curve rfl 5 (by decide) w_210 rfl rfl d_Curve_twice_234 ?_
  refine q_cV (rest := []) E (c_Field_multiply l g n0 fo t3 (X 1) (X 4) F mi) w_165 w_4 w_652 w_163 w_164 hd_Field_multiply rfl ⟨by decide, by decide⟩ (OB.recv E.2.2.2.2.2 (by rfl) (((hk.cv hK hcv).2.1).1)) (⟨(hk.cv hK hcv).2.1, (hk.pt hK h_t).2.2.2, (hk.cv hK hcv).2.2 1 (by decide), (hk.cv hK hcv).2.2 4 (by decide)⟩) hF hl.1 rfl (Nat.le_of_ble_eq_true rfl) d_Curve_twice_237 ⟨by decide, by decide⟩ (qv (fun H13 locs hq hF => ?_))
  have hk := hk.tr (hq.w1 ((hk.pt hK h_t).2.2.2).1)
  refine lv_aload_n hx hb d_Curve_twice_240 rfl (lv_at hl 0 rfl) ?_
  refine q_get (C := "KateDesk$Curve") (T := T_Curve) (N := 10) (ci := 0) E ((hk.cv hK hcv).1) in_Curve rfl 0 (by decide) w_205 rfl rfl d_Curve_twice_241 ?_
  refine lv_aload_n hx hb d_Curve_twice_244 rfl (lv_at hl 0 rfl) ?_
  refine q_get (C := "KateDesk$Curve") (T := T_Curve) (N := 10) (ci := 0) E ((hk.cv hK hcv).1) in_Curve rfl 2 (by decide) w_207 rfl rfl d_Curve_twice_245 ?_
  refine lv_aload_n hx hb d_Curve_twice_248 rfl (lv_at hl 0 rfl) ?_
  refine q_get (C := "KateDesk$Curve") (T := T_Curve) (N := 10) (ci := 0) E ((hk.cv hK hcv).1) in_Curve rfl 2 (by decide) w_207 rfl rfl d_Curve_twice_249 ?_
  refine lv_aload_n hx hb d_Curve_twice_252 rfl (lv_at hl 0 rfl) ?_
  refine q_get (C := "KateDesk$Curve") (T := T_Curve) (N := 10) (ci := 0) E ((hk.cv hK hcv).1) in_Curve rfl 3 (by decide) w_208 rfl rfl d_Curve_twice_253 ?_
  refine q_cV (rest := []) E (c_Field_multiply l g n0 fo (X 1) (X 1) (X 2) F mi) w_165 w_4 w_652 w_163 w_164 hd_Field_multiply rfl ⟨by decide, by decide⟩ (OB.recv E.2.2.2.2.2 (by rfl) (((hk.cv hK hcv).2.1).1)) (⟨(hk.cv hK hcv).2.1, (hk.cv hK hcv).2.2 1 (by decide), (hk.cv hK hcv).2.2 1 (by decide), (hk.cv hK hcv).2.2 2 (by decide)⟩) hF hl.1 rfl (Nat.le_of_ble_eq_true rfl) d_Curve_twice_256 ⟨by decide, by decide⟩ (qv (fun H14 locs hq hF => ?_))
  have hk := hk.tr (hq.w1 ((hk.cv hK hcv).2.2 1 (by decide)).1)
  refine lv_aload_n hx hb d_Curve_twice_259 rfl (lv_at hl 0 rfl) ?_
  refine q_get (C := "KateDesk$Curve") (T := T_Curve) (N := 10) (ci := 0) E ((hk.cv hK hcv).1) in_Curve rfl 0 (by decide) w_205 rfl rfl d_Curve_twice_260 ?_
  refine lv_aload_n hx hb d_Curve_twice_263 rfl (lv_at hl 0 rfl) ?_
  refine q_get (C := "KateDesk$Curve") (T := T_Curve) (N := 10) (ci := 0) E ((hk.cv hK hcv).1) in_Curve rfl 8 (by decide) w_213 rfl rfl d_Curve_twice_264 ?_
  refine lv_aload_n hx hb d_Curve_twice_267 rfl (lv_at hl 0 rfl) ?_
  refine q_get (C := "KateDesk$Curve") (T := T_Curve) (N := 10) (ci := 0) E ((hk.cv hK hcv).1) in_Curve rfl 7 (by decide) w_212 rfl rfl d_Curve_twice_268 ?_
  refine lv_aload_n hx hb d_Curve_twice_271 rfl (lv_at hl 0 rfl) ?_
  refine q_get (C := "KateDesk$Curve") (T := T_Curve) (N := 10) (ci := 0) E ((hk.cv hK hcv).1) in_Curve rfl 8 (by decide) w_213 rfl rfl d_Curve_twice_272 ?_
  refine q_cV (rest := []) E (c_Field_multiply l g n0 fo (X 7) (X 6) (X 7) F mi) w_165 w_4 w_652 w_163 w_164 hd_Field_multiply rfl ⟨by decide, by decide⟩ (OB.recv E.2.2.2.2.2 (by rfl) (((hk.cv hK hcv).2.1).1)) (⟨(hk.cv hK hcv).2.1, (hk.cv hK hcv).2.2 7 (by decide), (hk.cv hK hcv).2.2 6 (by decide), (hk.cv hK hcv).2.2 7 (by decide)⟩) hF hl.1 rfl (Nat.le_of_ble_eq_true rfl) d_Curve_twice_275 ⟨by decide, by decide⟩ (qv (fun H15 locs hq hF => ?_))
  have hk := hk.tr (hq.w1 ((hk.cv hK hcv).2.2 7 (by decide)).1)
  refine lv_aload_n hx hb d_Curve_twice_278 rfl (lv_at hl 0 rfl) ?_
  refine q_get (C := "KateDesk$Curve") (T := T_Curve) (N := 10) (ci := 0) E ((hk.cv hK hcv).1) in_Curve rfl 0 (by decide) w_205 rfl rfl d_Curve_twice_279 ?_
  refine lv_aload_n hx hb d_Curve_twice_282 rfl (lv_at hl 1 rfl) ?_
  refine q_get (C := "KateDesk$Point") (T := T_Point) (N := 3) (ci := 2) E ((hk.pt hK h_t).1) in_Point rfl 1 (by decide) w_50 rfl rfl d_Curve_twice_283 ?_
  refine lv_aload_n hx hb d_Curve_twice_286 rfl (lv_at hl 0 rfl) ?_
  refine q_get (C := "KateDesk$Curve") (T := T_Curve) (N := 10) (ci := 0) E ((hk.cv hK hcv).1) in_Curve rfl 2 (by decide) w_207 rfl rfl d_Curve_twice_287 ?_
  refine lv_aload_n hx hb d_Curve_twice_290 rfl (lv_at hl 0 rfl) ?_
  refine q_get (C := "KateDesk$Curve") (T := T_Curve) (N := 10) (ci := 0) E ((hk.cv hK hcv).1) in_Curve rfl 8 (by decide) w_213 rfl rfl d_Curve_twice_291 ?_
  refine q_cV (rest := []) E (c_Field_add l g n0 fo t2 (X 1) (X 7) F mi) w_157 w_4 w_653 w_155 w_156 hd_Field_add rfl ⟨by decide, by decide⟩ (OB.recv E.2.2.2.2.2 (by rfl) (((hk.cv hK hcv).2.1).1)) (⟨(hk.cv hK hcv).2.1, (hk.pt hK h_t).2.2.1, (hk.cv hK hcv).2.2 1 (by decide), (hk.cv hK hcv).2.2 7 (by decide)⟩) hF hl.1 rfl (Nat.le_of_ble_eq_true rfl) d_Curve_twice_294 ⟨by decide, by decide⟩ (qv (fun H16 locs hq hF => ?_))
  have hk := hk.tr (hq.w1 ((hk.pt hK h_t).2.2.1).1)
  refine lv_aload_n hx hb d_Curve_twice_297 rfl (lv_at hl 0 rfl) ?_
  refine q_get (C := "KateDesk$Curve") (T := T_Curve) (N := 10) (ci := 0) E ((hk.cv hK hcv).1) in_Curve rfl 0 (by decide) w_205 rfl rfl d_Curve_twice_298 ?_
  refine lv_aload_n hx hb d_Curve_twice_301 rfl (lv_at hl 0 rfl) ?_
  refine q_get (C := "KateDesk$Curve") (T := T_Curve) (N := 10) (ci := 0) E ((hk.cv hK hcv).1) in_Curve rfl 7 (by decide) w_212 rfl rfl d_Curve_twice_302 ?_
  refine lv_aload_n hx hb d_Curve_twice_305 rfl (lv_at hl 0 rfl) ?_
  refine q_get (C := "KateDesk$Curve") (T := T_Curve) (N := 10) (ci := 0) E ((hk.cv hK hcv).1) in_Curve rfl 7 (by decide) w_212 rfl rfl d_Curve_twice_306 ?_
  refine lv_aload_n hx hb d_Curve_twice_309 rfl (lv_at hl 0 rfl) ?_
  refine q_get (C := "KateDesk$Curve") (T := T_Curve) (N := 10) (ci := 0) E ((hk.cv hK hcv).1) in_Curve rfl 4 (by decide) w_209 rfl rfl d_Curve_twice_310 ?_
  refine q_cV (rest := []) E (c_Field_multiply l g n0 fo (X 6) (X 6) (X 3) F mi) w_165 w_4 w_652 w_163 w_164 hd_Field_multiply rfl ⟨by decide, by decide⟩ (OB.recv E.2.2.2.2.2 (by rfl) (((hk.cv hK hcv).2.1).1)) (⟨(hk.cv hK hcv).2.1, (hk.cv hK hcv).2.2 6 (by decide), (hk.cv hK hcv).2.2 6 (by decide), (hk.cv hK hcv).2.2 3 (by decide)⟩) hF hl.1 rfl (Nat.le_of_ble_eq_true rfl) d_Curve_twice_313 ⟨by decide, by decide⟩ (qv (fun H17 locs hq hF => ?_))
  have hk := hk.tr (hq.w1 ((hk.cv hK hcv).2.2 6 (by decide)).1)
  refine lv_aload_n hx hb d_Curve_twice_316 rfl (lv_at hl 0 rfl) ?_
  refine q_get (C := "KateDesk$Curve") (T := T_Curve) (N := 10) (ci := 0) E ((hk.cv hK hcv).1) in_Curve rfl 0 (by decide) w_205 rfl rfl d_Curve_twice_317 ?_
  refine lv_aload_n hx hb d_Curve_twice_320 rfl (lv_at hl 1 rfl) ?_
  refine q_get (C := "KateDesk$Point") (T := T_Point) (N := 3) (ci := 2) E ((hk.pt hK h_t).1) in_Point rfl 0 (by decide) w_46 rfl rfl d_Curve_twice_321 ?_
  refine lv_aload_n hx hb d_Curve_twice_324 rfl (lv_at hl 0 rfl) ?_
  refine q_get (C := "KateDesk$Curve") (T := T_Curve) (N := 10) (ci := 0) E ((hk.cv hK hcv).1) in_Curve rfl 7 (by decide) w_212 rfl rfl d_Curve_twice_325 ?_
  refine lv_aload_n hx hb d_Curve_twice_328 rfl (lv_at hl 0 rfl) ?_
  refine q_get (C := "KateDesk$Curve") (T := T_Curve) (N := 10) (ci := 0) E ((hk.cv hK hcv).1) in_Curve rfl 7 (by decide) w_212 rfl rfl d_Curve_twice_329 ?_
  refine q_cV (rest := []) E (c_Field_add l g n0 fo t1 (X 6) (X 6) F mi) w_157 w_4 w_653 w_155 w_156 hd_Field_add rfl ⟨by decide, by decide⟩ (OB.recv E.2.2.2.2.2 (by rfl) (((hk.cv hK hcv).2.1).1)) (⟨(hk.cv hK hcv).2.1, (hk.pt hK h_t).2.1, (hk.cv hK hcv).2.2 6 (by decide), (hk.cv hK hcv).2.2 6 (by decide)⟩) hF hl.1 rfl (Nat.le_of_ble_eq_true rfl) d_Curve_twice_332 ⟨by decide, by decide⟩ (qv (fun H18 locs hq hF => ?_))
  have hk := hk.tr (hq.w1 ((hk.pt hK h_t).2.1).1)
  exact q_vret E hr hlk (⟨rfl, hk⟩) hF d_Curve_twice_335
end
section
/-- the sums: the curve, 64 points, 16 rows of digits, a point of its own -/
def SU (g : WG) (n0 : Nat → Prop) (H : Heap) (o cu od dg sm s1 s2 s3 fo : Nat) (F : Nat → Nat) (mi : Int64) (X O O1 O2 O3 DG : Nat → Nat) : Prop :=
  OB g H o 4 [.ref cu, .ref od, .ref dg, .ref sm] ∧ CV g n0 H cu fo F mi X ∧ PT g n0 H sm s1 s2 s3 ∧ AR g.2.2.2.2.1 H od 64 O ∧ (∀ k, k < 64 → PT g n0 H (O k) (O1 k) (O2 k) (O3 k)) ∧ AR g.2.2.2.2.2.2 H dg 16 DG ∧ ∀ k, k < 16 → n0 (DG k) ∧ ∃ f, AB g H (DG k) 257 f
theorem KJ.su {g : WG} {S : Nat → Prop} {n0 : Nat → Prop} {H H' : Heap} {U : State} (h : KJ g S H H') (hK : KW g U) {o cu od dg sm s1 s2 s3 fo : Nat} {F : Nat → Nat} {mi : Int64} {X O O1 O2 O3 DG : Nat → Nat} (hf : SU g n0 H o cu od dg sm s1 s2 s3 fo F mi X O O1 O2 O3 DG) : SU g n0 H' o cu od dg sm s1 s2 s3 fo F mi X O O1 O2 O3 DG :=
  ⟨h.ob hK hf.1, h.cv hK hf.2.1, h.pt hK hf.2.2.1, h.arP hK hf.2.2.2.1, fun k hk => h.pt hK (hf.2.2.2.2.1 k hk), h.arB hK hf.2.2.2.2.2.1, fun k hk => ⟨(hf.2.2.2.2.2.2 k hk).1, (hf.2.2.2.2.2.2 k hk).2.elim (fun f hf => h.ab hf hK.jb)⟩⟩
theorem updB_z {f : Nat → Int32} {i : Nat} {v : Int32} (h : ∀ j, j < i → f j = v) : ∀ j, j < i + 1 → upd f i v j = v := by
  intro j hj
  by_cases e : j = i
  · simp [upd, e]
  · simp only [upd, e, if_false]; exact h j (by omega)
theorem aj_ne {g : WG} {H : Heap} {a b N M : Nat} {f : Nat → Int64} {f1 : Nat → Int32} (h : AJ g H a N f) (hne : g.2.1 ≠ g.2.2.1) (h1 : AB g H b M f1) : a ≠ b := fun e => by subst e; exact h.notAB hne h1
theorem pt_le {g : WG} {n0 : Nat → Prop} {H : Heap} {o x y z : Nat} (h : PT g n0 H o x y z) : ∀ q, (q = x ∨ q = y ∨ q = z) → n0 q := by
  intro q hq
  rcases hq with rfl | rfl | rfl
  · exact h.2.1.1
  · exact h.2.2.1.1
  · exact h.2.2.2.1
abbrev y_Point_becomeNothing : MethodName := ⟨"KateDesk$Point", "becomeNothing", "()V"⟩
theorem hd_Point_becomeNothing : y_Point_becomeNothing.cls ≠ "java/lang/invoke/MethodHandle" ∧ y_Point_becomeNothing.cls ≠ "java/lang/invoke/VarHandle" ∧ (parseMethodDescriptor y_Point_becomeNothing.desc).map (fun d => d.parameters.length) = some 0 := by decide +kernel
theorem d_Point_becomeNothing_0 : decode prog_6_method_2_code 0 = .ok (.aload_n 0, 1) := by decide +kernel
theorem d_Point_becomeNothing_1 : decode prog_6_method_2_code 1 = .ok (.getfield 9, 3) := by decide +kernel
theorem d_Point_becomeNothing_4 : decode prog_6_method_2_code 4 = .ok (.invokestatic 21, 3) := by decide +kernel
theorem d_Point_becomeNothing_7 : decode prog_6_method_2_code 7 = .ok (.aload_n 0, 1) := by decide +kernel
theorem d_Point_becomeNothing_8 : decode prog_6_method_2_code 8 = .ok (.getfield 15, 3) := by decide +kernel
theorem d_Point_becomeNothing_11 : decode prog_6_method_2_code 11 = .ok (.invokestatic 21, 3) := by decide +kernel
theorem d_Point_becomeNothing_14 : decode prog_6_method_2_code 14 = .ok (.aload_n 0, 1) := by decide +kernel
theorem d_Point_becomeNothing_15 : decode prog_6_method_2_code 15 = .ok (.getfield 18, 3) := by decide +kernel
theorem d_Point_becomeNothing_18 : decode prog_6_method_2_code 18 = .ok (.invokestatic 21, 3) := by decide +kernel
theorem d_Point_becomeNothing_21 : decode prog_6_method_2_code 21 = .ok (.aload_n 0, 1) := by decide +kernel
theorem d_Point_becomeNothing_22 : decode prog_6_method_2_code 22 = .ok (.getfield 15, 3) := by decide +kernel
theorem d_Point_becomeNothing_25 : decode prog_6_method_2_code 25 = .ok (.iconst 0, 1) := by decide +kernel
theorem d_Point_becomeNothing_26 : decode prog_6_method_2_code 26 = .ok (.lconst 1, 1) := by decide +kernel
theorem d_Point_becomeNothing_27 : decode prog_6_method_2_code 27 = .ok (.lastore, 1) := by decide +kernel
theorem d_Point_becomeNothing_28 : decode prog_6_method_2_code 28 = .ok (.return_, 1) := by decide +kernel
abbrev y_Point_copy : MethodName := ⟨"KateDesk$Point", "copy", "(LKateDesk$Point;)V"⟩
theorem hd_Point_copy : y_Point_copy.cls ≠ "java/lang/invoke/MethodHandle" ∧ y_Point_copy.cls ≠ "java/lang/invoke/VarHandle" ∧ (parseMethodDescriptor y_Point_copy.desc).map (fun d => d.parameters.length) = some 1 := by decide +kernel
theorem d_Point_copy_0 : decode prog_6_method_3_code 0 = .ok (.aload_n 0, 1) := by decide +kernel
theorem d_Point_copy_1 : decode prog_6_method_3_code 1 = .ok (.getfield 9, 3) := by decide +kernel
theorem d_Point_copy_4 : decode prog_6_method_3_code 4 = .ok (.aload_n 1, 1) := by decide +kernel
theorem d_Point_copy_5 : decode prog_6_method_3_code 5 = .ok (.getfield 9, 3) := by decide +kernel
theorem d_Point_copy_8 : decode prog_6_method_3_code 8 = .ok (.invokestatic 25, 3) := by decide +kernel
theorem d_Point_copy_11 : decode prog_6_method_3_code 11 = .ok (.aload_n 0, 1) := by decide +kernel
theorem d_Point_copy_12 : decode prog_6_method_3_code 12 = .ok (.getfield 15, 3) := by decide +kernel
theorem d_Point_copy_15 : decode prog_6_method_3_code 15 = .ok (.aload_n 1, 1) := by decide +kernel
theorem d_Point_copy_16 : decode prog_6_method_3_code 16 = .ok (.getfield 15, 3) := by decide +kernel
theorem d_Point_copy_19 : decode prog_6_method_3_code 19 = .ok (.invokestatic 25, 3) := by decide +kernel
theorem d_Point_copy_22 : decode prog_6_method_3_code 22 = .ok (.aload_n 0, 1) := by decide +kernel
theorem d_Point_copy_23 : decode prog_6_method_3_code 23 = .ok (.getfield 18, 3) := by decide +kernel
theorem d_Point_copy_26 : decode prog_6_method_3_code 26 = .ok (.aload_n 1, 1) := by decide +kernel
theorem d_Point_copy_27 : decode prog_6_method_3_code 27 = .ok (.getfield 18, 3) := by decide +kernel
theorem d_Point_copy_30 : decode prog_6_method_3_code 30 = .ok (.invokestatic 25, 3) := by decide +kernel
theorem d_Point_copy_33 : decode prog_6_method_3_code 33 = .ok (.return_, 1) := by decide +kernel
abbrev y_Point_isNothing : MethodName := ⟨"KateDesk$Point", "isNothing", "()Z"⟩
theorem hd_Point_isNothing : y_Point_isNothing.cls ≠ "java/lang/invoke/MethodHandle" ∧ y_Point_isNothing.cls ≠ "java/lang/invoke/VarHandle" ∧ (parseMethodDescriptor y_Point_isNothing.desc).map (fun d => d.parameters.length) = some 0 := by decide +kernel
theorem d_Point_isNothing_0 : decode prog_6_method_4_code 0 = .ok (.aload_n 0, 1) := by decide +kernel
theorem d_Point_isNothing_1 : decode prog_6_method_4_code 1 = .ok (.getfield 18, 3) := by decide +kernel
theorem d_Point_isNothing_4 : decode prog_6_method_4_code 4 = .ok (.invokestatic 29, 3) := by decide +kernel
theorem d_Point_isNothing_7 : decode prog_6_method_4_code 7 = .ok (.ireturn, 1) := by decide +kernel
abbrev y_Arrays_fill0 : MethodName := ⟨"java/util/Arrays", "fill", "([BB)V"⟩
theorem hd_Arrays_fill0 : y_Arrays_fill0.cls ≠ "java/lang/invoke/MethodHandle" ∧ y_Arrays_fill0.cls ≠ "java/lang/invoke/VarHandle" ∧ (parseMethodDescriptor y_Arrays_fill0.desc).map (fun d => d.parameters.length) = some 2 := by decide +kernel
theorem d_Arrays_fill0_0 : decode prog_23_method_109_code 0 = .ok (.iconst 0, 1) := by decide +kernel
theorem d_Arrays_fill0_1 : decode prog_23_method_109_code 1 = .ok (.istore_n 2, 1) := by decide +kernel
theorem d_Arrays_fill0_2 : decode prog_23_method_109_code 2 = .ok (.aload_n 0, 1) := by decide +kernel
theorem d_Arrays_fill0_3 : decode prog_23_method_109_code 3 = .ok (.arraylength, 1) := by decide +kernel
theorem d_Arrays_fill0_4 : decode prog_23_method_109_code 4 = .ok (.istore_n 3, 1) := by decide +kernel
theorem d_Arrays_fill0_5 : decode prog_23_method_109_code 5 = .ok (.iload_n 2, 1) := by decide +kernel
theorem d_Arrays_fill0_6 : decode prog_23_method_109_code 6 = .ok (.iload_n 3, 1) := by decide +kernel
theorem d_Arrays_fill0_7 : decode prog_23_method_109_code 7 = .ok (.if_icmp .ge 13, 3) := by decide +kernel
theorem d_Arrays_fill0_10 : decode prog_23_method_109_code 10 = .ok (.aload_n 0, 1) := by decide +kernel
theorem d_Arrays_fill0_11 : decode prog_23_method_109_code 11 = .ok (.iload_n 2, 1) := by decide +kernel
theorem d_Arrays_fill0_12 : decode prog_23_method_109_code 12 = .ok (.iload_n 1, 1) := by decide +kernel
theorem d_Arrays_fill0_13 : decode prog_23_method_109_code 13 = .ok (.bastore, 1) := by decide +kernel
theorem d_Arrays_fill0_14 : decode prog_23_method_109_code 14 = .ok (.iinc 2 1, 3) := by decide +kernel
theorem d_Arrays_fill0_17 : decode prog_23_method_109_code 17 = .ok (.goto (-12), 3) := by decide +kernel
theorem d_Arrays_fill0_20 : decode prog_23_method_109_code 20 = .ok (.return_, 1) := by decide +kernel
set_option maxHeartbeats 4000000 in
set_option maxRecDepth 100000 in
theorem c_Point_becomeNothing (l : Launch) (g : WG) (n0 : Nat → Prop) (o p1 p2 p3 : Nat) (h32 : p3 ≠ p2) : Ctr l y_Point_becomeNothing (.code y_Point_becomeNothing prog_6_method_2_code 1 none) 2 44 0 0 n0 g [.ref o] (fun H => PT g n0 H o p1 p2 p3) (QV (fun H H' => KJ g (fun q => q = p1 ∨ q = p2 ∨ q = p3) H H' ∧ AJ g H' p3 14 (fun _ => 0))) := by
  refine ctr_mk l (lv0 := [(0, .ref o)]) (by decide) (Nat.le_of_ble_eq_true rfl) rfl ?_
  intro p e s m below meth c ls E hr hlk hnm hl hP
  have hx := E.1
  have hb := E.2.1
  have hK := E.2.2.2.2.2
  have hF : ∀ q ∈ ([] : List Loc), n0 q.base := fun q hq => absurd hq List.not_mem_nil
  have hk : KJ g (fun q => q = p1 ∨ q = p2 ∨ q = p3) s.heap s.heap := KJ.rf
  refine lv_aload_n hx hb d_Point_becomeNothing_0 rfl (lv_at hl 0 rfl) ?_
  refine q_get (C := "KateDesk$Point") (T := T_Point) (N := 3) (ci := 2) E ((hk.pt hK hP).1) in_Point rfl 0 (by decide) w_45 rfl rfl d_Point_becomeNothing_1 ?_
  refine q_cS (rest := []) E (c_Limbs_clear l g n0 p1) w_498 w_5 w_636 w_497 hd_Limbs_clear rfl ⟨by decide, by decide⟩ ((hk.pt hK hP).2.1) hF hl.1 rfl (Nat.le_of_ble_eq_true rfl) d_Point_becomeNothing_4 ⟨by decide, by decide⟩ (qv (fun H1 locs hq hF => ?_))
  have hz := hq.2
  have hq := hq.1
  have hk := hk.tr (hq.mono (fun q h => Or.inl h))
  refine lv_aload_n hx hb d_Point_becomeNothing_7 rfl (lv_at hl 0 rfl) ?_
  refine q_get (C := "KateDesk$Point") (T := T_Point) (N := 3) (ci := 2) E ((hk.pt hK hP).1) in_Point rfl 1 (by decide) w_49 rfl rfl d_Point_becomeNothing_8 ?_
  refine q_cS (rest := []) E (c_Limbs_clear l g n0 p2) w_498 w_5 w_636 w_497 hd_Limbs_clear rfl ⟨by decide, by decide⟩ ((hk.pt hK hP).2.2.1) hF hl.1 rfl (Nat.le_of_ble_eq_true rfl) d_Point_becomeNothing_11 ⟨by decide, by decide⟩ (qv (fun H2 locs hq hF => ?_))
  have hz := hq.2
  have hq := hq.1
  have hk := hk.tr (hq.mono (fun q h => Or.inr (Or.inl h)))
  refine lv_aload_n hx hb d_Point_becomeNothing_14 rfl (lv_at hl 0 rfl) ?_
  refine q_get (C := "KateDesk$Point") (T := T_Point) (N := 3) (ci := 2) E ((hk.pt hK hP).1) in_Point rfl 2 (by decide) w_53 rfl rfl d_Point_becomeNothing_15 ?_
  refine q_cS (rest := []) E (c_Limbs_clear l g n0 p3) w_498 w_5 w_636 w_497 hd_Limbs_clear rfl ⟨by decide, by decide⟩ ((hk.pt hK hP).2.2.2) hF hl.1 rfl (Nat.le_of_ble_eq_true rfl) d_Point_becomeNothing_18 ⟨by decide, by decide⟩ (qv (fun H3 locs hq hF => ?_))
  have hz := hq.2
  have hq := hq.1
  have hk := hk.tr (hq.mono (fun q h => Or.inr (Or.inr h)))
  refine lv_aload_n hx hb d_Point_becomeNothing_21 rfl (lv_at hl 0 rfl) ?_
  refine q_get (C := "KateDesk$Point") (T := T_Point) (N := 3) (ci := 2) E ((hk.pt hK hP).1) in_Point rfl 1 (by decide) w_49 rfl rfl d_Point_becomeNothing_22 ?_
  refine lv_iconst (v := nI 0) hx hb d_Point_becomeNothing_25 (by decide) ?_
  refine lv_lconst (v := 1) hx hb d_Point_becomeNothing_26 (by decide) ?_
  refine q_lastS E ((hk.pt hK hP).2.2.1) hF 0 rfl (by decide) d_Point_becomeNothing_27 (fun H4 locs hq hF => ?_)
  have hz := hq.ajo h32 hz
  have hk := hk.tr (hq.mono (fun q h => Or.inr (Or.inl h)))
  exact q_vret E hr hlk (⟨rfl, hk, hz⟩) hF d_Point_becomeNothing_28
set_option maxHeartbeats 4000000 in
set_option maxRecDepth 100000 in
theorem c_Point_copy (l : Launch) (g : WG) (n0 : Nat → Prop) (t t1 t2 t3 : Nat) (b b1 b2 b3 : Nat) : Ctr l y_Point_copy (.code y_Point_copy prog_6_method_3_code 2 none) 2 81 0 0 n0 g [.ref t, .ref b] (fun H => PT g n0 H t t1 t2 t3 ∧ PT g n0 H b b1 b2 b3) (QV (fun H H' => KJ g (fun q => q = t1 ∨ q = t2 ∨ q = t3) H H' ∧ ∀ f, b3 ≠ t1 → b3 ≠ t2 → AJ g H b3 14 f → AJ g H' t3 14 f)) := by
  refine ctr_mk l (lv0 := [(0, .ref t), (1, .ref b)]) (by decide) (Nat.le_of_ble_eq_true rfl) rfl ?_
  intro p e s m below meth c ls E hr hlk hnm hl hP
  have hx := E.1
  have hb := E.2.1
  have hK := E.2.2.2.2.2
  have hF : ∀ q ∈ ([] : List Loc), n0 q.base := fun q hq => absurd hq List.not_mem_nil
  obtain ⟨h_t, h_b⟩ := hP
  have hk : KJ g (fun q => q = t1 ∨ q = t2 ∨ q = t3) s.heap s.heap := KJ.rf
  have hk12 : KJ g (fun q => q = t1 ∨ q = t2) s.heap s.heap := KJ.rf
  refine lv_aload_n hx hb d_Point_copy_0 rfl (lv_at hl 0 rfl) ?_
  refine q_get (C := "KateDesk$Point") (T := T_Point) (N := 3) (ci := 2) E ((hk.pt hK h_t).1) in_Point rfl 0 (by decide) w_45 rfl rfl d_Point_copy_1 ?_
  refine lv_aload_n hx hb d_Point_copy_4 rfl (lv_at hl 1 rfl) ?_
  refine q_get (C := "KateDesk$Point") (T := T_Point) (N := 3) (ci := 2) E ((hk.pt hK h_b).1) in_Point rfl 0 (by decide) w_45 rfl rfl d_Point_copy_5 ?_
  obtain ⟨f0, hf0⟩ := ((hk.pt hK h_b).2.1).2
  refine q_cS (rest := []) E (c_Limbs_copy l g n0 t1 b1 f0) w_146 w_5 w_698 w_145 hd_Limbs_copy rfl ⟨by decide, by decide⟩ (⟨(hk.pt hK h_t).2.1, hf0⟩) hF hl.1 rfl (Nat.le_of_ble_eq_true rfl) d_Point_copy_8 ⟨by decide, by decide⟩ (qv (fun H1 locs hq hF => ?_))
  have hz := hq.2
  have hq := hq.1
  have hk12 := hk12.tr (hq.mono (fun q h => Or.inl h))
  have hk := hk.tr (hq.mono (fun q h => Or.inl h))
  refine lv_aload_n hx hb d_Point_copy_11 rfl (lv_at hl 0 rfl) ?_
  refine q_get (C := "KateDesk$Point") (T := T_Point) (N := 3) (ci := 2) E ((hk.pt hK h_t).1) in_Point rfl 1 (by decide) w_49 rfl rfl d_Point_copy_12 ?_
  refine lv_aload_n hx hb d_Point_copy_15 rfl (lv_at hl 1 rfl) ?_
  refine q_get (C := "KateDesk$Point") (T := T_Point) (N := 3) (ci := 2) E ((hk.pt hK h_b).1) in_Point rfl 1 (by decide) w_49 rfl rfl d_Point_copy_16 ?_
  obtain ⟨f1, hf1⟩ := ((hk.pt hK h_b).2.2.1).2
  refine q_cS (rest := []) E (c_Limbs_copy l g n0 t2 b2 f1) w_146 w_5 w_698 w_145 hd_Limbs_copy rfl ⟨by decide, by decide⟩ (⟨(hk.pt hK h_t).2.2.1, hf1⟩) hF hl.1 rfl (Nat.le_of_ble_eq_true rfl) d_Point_copy_19 ⟨by decide, by decide⟩ (qv (fun H2 locs hq hF => ?_))
  have hz := hq.2
  have hq := hq.1
  have hk12 := hk12.tr (hq.mono (fun q h => Or.inr h))
  have hk := hk.tr (hq.mono (fun q h => Or.inr (Or.inl h)))
  refine lv_aload_n hx hb d_Point_copy_22 rfl (lv_at hl 0 rfl) ?_
  refine q_get (C := "KateDesk$Point") (T := T_Point) (N := 3) (ci := 2) E ((hk.pt hK h_t).1) in_Point rfl 2 (by decide) w_53 rfl rfl d_Point_copy_23 ?_
  refine lv_aload_n hx hb d_Point_copy_26 rfl (lv_at hl 1 rfl) ?_
  refine q_get (C := "KateDesk$Point") (T := T_Point) (N := 3) (ci := 2) E ((hk.pt hK h_b).1) in_Point rfl 2 (by decide) w_53 rfl rfl d_Point_copy_27 ?_
  obtain ⟨f2, hf2⟩ := ((hk.pt hK h_b).2.2.2).2
  refine q_cS (rest := []) E (c_Limbs_copy l g n0 t3 b3 f2) w_146 w_5 w_698 w_145 hd_Limbs_copy rfl ⟨by decide, by decide⟩ (⟨(hk.pt hK h_t).2.2.2, hf2⟩) hF hl.1 rfl (Nat.le_of_ble_eq_true rfl) d_Point_copy_30 ⟨by decide, by decide⟩ (qv (fun H3 locs hq hF => ?_))
  have hz := hq.2
  have hq := hq.1
  have hk := hk.tr (hq.mono (fun q h => Or.inr (Or.inr h)))
  exact q_vret E hr hlk (⟨rfl, hk, fun f e1 e2 hf => hz.ext (fun j hj => (hf2.same (hk12.ajo (fun h => h.elim e1 e2) hf)).2 j hj)⟩) hF d_Point_copy_33
set_option maxHeartbeats 4000000 in
set_option maxRecDepth 100000 in
theorem z_Point_isNothing (l : Launch) (g : WG) (n0 : Nat → Prop) (o p1 p2 p3 : Nat) : Ctr l y_Point_isNothing (.code y_Point_isNothing prog_6_method_4_code 1 (some FieldType.boolean)) 1 21 0 0 n0 g [.ref o] (fun H => PT g n0 H o p1 p2 p3 ∧ AJ g H p3 14 (fun _ => 0)) (QI (fun r H H' => r = 1 ∧ H' = H)) := by
  refine ctr_mk l (lv0 := [(0, .ref o)]) (by decide) (Nat.le_of_ble_eq_true rfl) rfl ?_
  intro p e s m below meth c ls E hr hlk hnm hl hP
  have hx := E.1
  have hb := E.2.1
  have hK := E.2.2.2.2.2
  have hF : ∀ q ∈ ([] : List Loc), n0 q.base := fun q hq => absurd hq List.not_mem_nil
  refine lv_aload_n hx hb d_Point_isNothing_0 rfl (lv_at hl 0 rfl) ?_
  refine q_get (C := "KateDesk$Point") (T := T_Point) (N := 3) (ci := 2) E hP.1.1 in_Point rfl 2 (by decide) w_53 rfl rfl d_Point_isNothing_1 ?_
  refine q_cS (rest := []) E (z_Limbs_isZero l g n0 p3) w_548 w_5 w_729 w_547 hd_Limbs_isZero rfl ⟨by decide, by decide⟩ hP.2 hF hl.1 rfl (Nat.le_of_ble_eq_true rfl) d_Point_isNothing_4 ⟨by decide, by decide⟩ (qi (fun r H1 locs hq hF => ?_))
  obtain ⟨rfl, hq⟩ := hq
  subst hq
  exact q_zret E hr rfl hlk (⟨1, rfl, rfl, rfl⟩) hF d_Point_isNothing_7
set_option maxHeartbeats 4000000 in
set_option maxRecDepth 100000 in
/-- every place becomes v -/
theorem c_Arrays_fill0 (l : Launch) (g : WG) (n0 : Nat → Prop) (a N : Nat) (v : Int32) (f : Nat → Int32) (hN : N < 2 ^ 31) : Ctr l y_Arrays_fill0 (.code y_Arrays_fill0 prog_23_method_109_code 4 none) 0 0 0 0 n0 g [.ref a, .int v] (fun H => n0 a ∧ AB g H a N f) (QV (fun H H' => KJ g (fun q => q = a) H H' ∧ AB g H' a N (fun _ => vp_nar .byte v))) := by
  refine ctr_mk l (lv0 := [(0, .ref a), (1, .int v)]) (by decide) (Nat.le_of_ble_eq_true rfl) rfl ?_
  intro p e s m below meth c ls E hr hlk hnm hl hP
  have hx := E.1
  have hb := E.2.1
  have hK := E.2.2.2.2.2
  have hF : ∀ q ∈ ([] : List Loc), n0 q.base := fun q hq => absurd hq List.not_mem_nil
  obtain ⟨ha, hA⟩ := hP
  have loop : ∀ (k : Nat) (i : Nat) (H : Heap) (locs : List Loc) (ls : Array Slot) (f : Nat → Int32), i + k = N → KJ g (fun q => q = a) s.heap H → AB g H a N f → (∀ j, j < i → f j = vp_nar .byte v) → (∀ q ∈ locs, n0 q.base) → lv_has ls 4 [(2, .int (nI i)), (3, .int (nI N)), (0, .ref a), (1, .int v)] → W p l e { frames := 0, cells := 0, slots := 0, locals := 0 } s m [.ref a, .int v].toArray below meth c H locs 0 0 (MQ below (QcP (QV (fun H H' => KJ g (fun q => q = a) H H' ∧ AB g H' a N (fun _ => vp_nar .byte v)))) [.ref a, .int v].toArray s 0 0 (fun q => n0 q)) (F0 m 5 ls []) := by
    intro k
    induction k with
    | zero =>
      intro  i   H   locs   ls   f hi hk hf hv hF hl
      obtain rfl : i = N := by omega
      refine lv_iload_n hx hb d_Arrays_fill0_5 rfl (lv_at hl 0 rfl) ?_
      refine lv_iload_n hx hb d_Arrays_fill0_6 rfl (lv_at hl 1 rfl) ?_
      refine lv_icmp_ge (tgt := 20) hx hb d_Arrays_fill0_7 (by decide) (fun _ => ?_) (fun h9 => absurd (nI_le (Nat.le_refl _) hN) h9)
      exact q_vret E hr hlk (⟨rfl, hk, hf.ext (fun j hj => hv j hj)⟩) hF d_Arrays_fill0_20
    | succ k ih =>
      intro  i   H   locs   ls   f hi hk hf hv hF hl
      have hiN : i < N := by omega
      refine lv_iload_n hx hb d_Arrays_fill0_5 rfl (lv_at hl 0 rfl) ?_
      refine lv_iload_n hx hb d_Arrays_fill0_6 rfl (lv_at hl 1 rfl) ?_
      refine lv_icmp_ge (tgt := 20) hx hb d_Arrays_fill0_7 (by decide) (fun h9 => absurd h9 (nI_ge hiN hN)) (fun _ => ?_)
      refine lv_aload_n hx hb d_Arrays_fill0_10 rfl (lv_at hl 2 rfl) ?_
      refine lv_iload_n hx hb d_Arrays_fill0_11 rfl (lv_at hl 0 rfl) ?_
      refine lv_iload_n hx hb d_Arrays_fill0_12 rfl (lv_at hl 3 rfl) ?_
      refine q_bast E hf ha hF i rfl hiN hN d_Arrays_fill0_13 (fun H' locs' hq hf' hF => ?_)
      have hk := hk.tr hq
      refine lv_iinc (k := 0) (v := nI (i + 1)) (lv' := [(2, .int (nI (i + 1))), (3, .int (nI N)), (0, .ref a), (1, .int v)]) hx hb d_Arrays_fill0_14 hl rfl (i_inc i) (by decide) rfl (fun ls hl => ?_)
      refine lv_goto (tgt := 5) hx hb d_Arrays_fill0_17 (by decide) ?_
      have hl : lv_has ls 4 [(2, .int (nI (i + 1))), (3, .int (nI N)), (0, .ref a), (1, .int v)] := lv_sub hl [0, 1, 2, 3] rfl
      exact ih (i + 1) H' locs' ls _ (by omega) hk hf' (updB_z hv) hF hl
  refine lv_iconst (v := nI 0) hx hb d_Arrays_fill0_0 (by decide) ?_
  refine lv_istore_n (lv' := [(2, .int (nI 0)), (0, .ref a), (1, .int v)]) hx hb d_Arrays_fill0_1 rfl hl (by decide) rfl (fun ls hl => ?_)
  refine lv_aload_n hx hb d_Arrays_fill0_2 rfl (lv_at hl 1 rfl) ?_
  refine q_alenB E hA d_Arrays_fill0_3 ?_
  refine lv_istore_n (lv' := [(3, .int (nI N)), (2, .int (nI 0)), (0, .ref a), (1, .int v)]) hx hb d_Arrays_fill0_4 rfl hl (by decide) rfl (fun ls hl => ?_)
  have hl : lv_has ls 4 [(2, .int (nI 0)), (3, .int (nI N)), (0, .ref a), (1, .int v)] := lv_sub hl [1, 0, 2, 3] rfl
  exact loop N 0 s.heap [] ls f (by omega) KJ.rf hA (fun j hj => absurd hj (Nat.not_lt_zero _)) hF hl
end
section
abbrev y_Sums_recode : MethodName := ⟨"KateDesk$Sums", "recode", "(I[JII)V"⟩
theorem hd_Sums_recode : y_Sums_recode.cls ≠ "java/lang/invoke/MethodHandle" ∧ y_Sums_recode.cls ≠ "java/lang/invoke/VarHandle" ∧ (parseMethodDescriptor y_Sums_recode.desc).map (fun d => d.parameters.length) = some 4 := by decide +kernel
theorem d_Sums_recode_0 : decode prog_9_method_4_code 0 = .ok (.aload_n 0, 1) := by decide +kernel
theorem d_Sums_recode_1 : decode prog_9_method_4_code 1 = .ok (.getfield 21, 3) := by decide +kernel
theorem d_Sums_recode_4 : decode prog_9_method_4_code 4 = .ok (.iload_n 1, 1) := by decide +kernel
theorem d_Sums_recode_5 : decode prog_9_method_4_code 5 = .ok (.aaload, 1) := by decide +kernel
theorem d_Sums_recode_6 : decode prog_9_method_4_code 6 = .ok (.astore 5, 2) := by decide +kernel
theorem d_Sums_recode_8 : decode prog_9_method_4_code 8 = .ok (.aload 5, 2) := by decide +kernel
theorem d_Sums_recode_10 : decode prog_9_method_4_code 10 = .ok (.iconst 0, 1) := by decide +kernel
theorem d_Sums_recode_11 : decode prog_9_method_4_code 11 = .ok (.invokestatic 63, 3) := by decide +kernel
theorem d_Sums_recode_14 : decode prog_9_method_4_code 14 = .ok (.iconst 0, 1) := by decide +kernel
theorem d_Sums_recode_15 : decode prog_9_method_4_code 15 = .ok (.istore 6, 2) := by decide +kernel
theorem d_Sums_recode_17 : decode prog_9_method_4_code 17 = .ok (.iconst 0, 1) := by decide +kernel
theorem d_Sums_recode_18 : decode prog_9_method_4_code 18 = .ok (.istore 7, 2) := by decide +kernel
theorem d_Sums_recode_20 : decode prog_9_method_4_code 20 = .ok (.iconst 0, 1) := by decide +kernel
theorem d_Sums_recode_21 : decode prog_9_method_4_code 21 = .ok (.istore 8, 2) := by decide +kernel
theorem d_Sums_recode_23 : decode prog_9_method_4_code 23 = .ok (.iload 8, 2) := by decide +kernel
theorem d_Sums_recode_25 : decode prog_9_method_4_code 25 = .ok (.iload 4, 2) := by decide +kernel
theorem d_Sums_recode_27 : decode prog_9_method_4_code 27 = .ok (.if_icmp .gt 72, 3) := by decide +kernel
theorem d_Sums_recode_30 : decode prog_9_method_4_code 30 = .ok (.iload 6, 2) := by decide +kernel
theorem d_Sums_recode_32 : decode prog_9_method_4_code 32 = .ok (.aload_n 2, 1) := by decide +kernel
theorem d_Sums_recode_33 : decode prog_9_method_4_code 33 = .ok (.iload_n 3, 1) := by decide +kernel
theorem d_Sums_recode_34 : decode prog_9_method_4_code 34 = .ok (.iload 8, 2) := by decide +kernel
theorem d_Sums_recode_36 : decode prog_9_method_4_code 36 = .ok (.iadd, 1) := by decide +kernel
theorem d_Sums_recode_37 : decode prog_9_method_4_code 37 = .ok (.iconst 4, 1) := by decide +kernel
theorem d_Sums_recode_38 : decode prog_9_method_4_code 38 = .ok (.iload 4, 2) := by decide +kernel
theorem d_Sums_recode_40 : decode prog_9_method_4_code 40 = .ok (.iload 8, 2) := by decide +kernel
theorem d_Sums_recode_42 : decode prog_9_method_4_code 42 = .ok (.isub, 1) := by decide +kernel
theorem d_Sums_recode_43 : decode prog_9_method_4_code 43 = .ok (.invokestatic 69, 3) := by decide +kernel
theorem d_Sums_recode_46 : decode prog_9_method_4_code 46 = .ok (.invokestatic 75, 3) := by decide +kernel
theorem d_Sums_recode_49 : decode prog_9_method_4_code 49 = .ok (.l2i, 1) := by decide +kernel
theorem d_Sums_recode_50 : decode prog_9_method_4_code 50 = .ok (.iadd, 1) := by decide +kernel
theorem d_Sums_recode_51 : decode prog_9_method_4_code 51 = .ok (.istore 9, 2) := by decide +kernel
theorem d_Sums_recode_53 : decode prog_9_method_4_code 53 = .ok (.iload 8, 2) := by decide +kernel
theorem d_Sums_recode_55 : decode prog_9_method_4_code 55 = .ok (.iload 7, 2) := by decide +kernel
theorem d_Sums_recode_57 : decode prog_9_method_4_code 57 = .ok (.if_icmp .lt 36, 3) := by decide +kernel
theorem d_Sums_recode_60 : decode prog_9_method_4_code 60 = .ok (.iload 9, 2) := by decide +kernel
theorem d_Sums_recode_62 : decode prog_9_method_4_code 62 = .ok (.iconst 1, 1) := by decide +kernel
theorem d_Sums_recode_63 : decode prog_9_method_4_code 63 = .ok (.iand, 1) := by decide +kernel
theorem d_Sums_recode_64 : decode prog_9_method_4_code 64 = .ok (.iconst 1, 1) := by decide +kernel
theorem d_Sums_recode_65 : decode prog_9_method_4_code 65 = .ok (.if_icmp .ne 28, 3) := by decide +kernel
theorem d_Sums_recode_68 : decode prog_9_method_4_code 68 = .ok (.iload 9, 2) := by decide +kernel
theorem d_Sums_recode_70 : decode prog_9_method_4_code 70 = .ok (.iconst 3, 1) := by decide +kernel
theorem d_Sums_recode_71 : decode prog_9_method_4_code 71 = .ok (.ishr, 1) := by decide +kernel
theorem d_Sums_recode_72 : decode prog_9_method_4_code 72 = .ok (.istore 6, 2) := by decide +kernel
theorem d_Sums_recode_74 : decode prog_9_method_4_code 74 = .ok (.aload 5, 2) := by decide +kernel
theorem d_Sums_recode_76 : decode prog_9_method_4_code 76 = .ok (.iload 8, 2) := by decide +kernel
theorem d_Sums_recode_78 : decode prog_9_method_4_code 78 = .ok (.iload 9, 2) := by decide +kernel
theorem d_Sums_recode_80 : decode prog_9_method_4_code 80 = .ok (.iload 6, 2) := by decide +kernel
theorem d_Sums_recode_82 : decode prog_9_method_4_code 82 = .ok (.iconst 4, 1) := by decide +kernel
theorem d_Sums_recode_83 : decode prog_9_method_4_code 83 = .ok (.ishl, 1) := by decide +kernel
theorem d_Sums_recode_84 : decode prog_9_method_4_code 84 = .ok (.isub, 1) := by decide +kernel
theorem d_Sums_recode_85 : decode prog_9_method_4_code 85 = .ok (.i2b, 1) := by decide +kernel
theorem d_Sums_recode_86 : decode prog_9_method_4_code 86 = .ok (.bastore, 1) := by decide +kernel
theorem d_Sums_recode_87 : decode prog_9_method_4_code 87 = .ok (.iload 8, 2) := by decide +kernel
theorem d_Sums_recode_89 : decode prog_9_method_4_code 89 = .ok (.iconst 4, 1) := by decide +kernel
theorem d_Sums_recode_90 : decode prog_9_method_4_code 90 = .ok (.iadd, 1) := by decide +kernel
theorem d_Sums_recode_91 : decode prog_9_method_4_code 91 = .ok (.istore 7, 2) := by decide +kernel
theorem d_Sums_recode_93 : decode prog_9_method_4_code 93 = .ok (.iinc 8 1, 3) := by decide +kernel
theorem d_Sums_recode_96 : decode prog_9_method_4_code 96 = .ok (.goto (-73), 3) := by decide +kernel
theorem d_Sums_recode_99 : decode prog_9_method_4_code 99 = .ok (.return_, 1) := by decide +kernel
abbrev y_Sums_place : MethodName := ⟨"KateDesk$Sums", "place", "(I[JLKateDesk$Point;)V"⟩
theorem hd_Sums_place : y_Sums_place.cls ≠ "java/lang/invoke/MethodHandle" ∧ y_Sums_place.cls ≠ "java/lang/invoke/VarHandle" ∧ (parseMethodDescriptor y_Sums_place.desc).map (fun d => d.parameters.length) = some 3 := by decide +kernel
theorem d_Sums_place_0 : decode prog_9_method_2_code 0 = .ok (.aload_n 0, 1) := by decide +kernel
theorem d_Sums_place_1 : decode prog_9_method_2_code 1 = .ok (.iload_n 1, 1) := by decide +kernel
theorem d_Sums_place_2 : decode prog_9_method_2_code 2 = .ok (.aload_n 2, 1) := by decide +kernel
theorem d_Sums_place_3 : decode prog_9_method_2_code 3 = .ok (.iconst 0, 1) := by decide +kernel
theorem d_Sums_place_4 : decode prog_9_method_2_code 4 = .ok (.sipush 256, 3) := by decide +kernel
theorem d_Sums_place_7 : decode prog_9_method_2_code 7 = .ok (.invokevirtual 35, 3) := by decide +kernel
theorem d_Sums_place_10 : decode prog_9_method_2_code 10 = .ok (.aload_n 2, 1) := by decide +kernel
theorem d_Sums_place_11 : decode prog_9_method_2_code 11 = .ok (.invokestatic 39, 3) := by decide +kernel
theorem d_Sums_place_14 : decode prog_9_method_2_code 14 = .ok (.ifCond .ne 9, 3) := by decide +kernel
theorem d_Sums_place_17 : decode prog_9_method_2_code 17 = .ok (.aload_n 0, 1) := by decide +kernel
theorem d_Sums_place_18 : decode prog_9_method_2_code 18 = .ok (.iload_n 1, 1) := by decide +kernel
theorem d_Sums_place_19 : decode prog_9_method_2_code 19 = .ok (.aload_n 3, 1) := by decide +kernel
theorem d_Sums_place_20 : decode prog_9_method_2_code 20 = .ok (.invokevirtual 45, 3) := by decide +kernel
theorem d_Sums_place_23 : decode prog_9_method_2_code 23 = .ok (.return_, 1) := by decide +kernel
abbrev y_Sums_tabulate : MethodName := ⟨"KateDesk$Sums", "tabulate", "(ILKateDesk$Point;)V"⟩
theorem hd_Sums_tabulate : y_Sums_tabulate.cls ≠ "java/lang/invoke/MethodHandle" ∧ y_Sums_tabulate.cls ≠ "java/lang/invoke/VarHandle" ∧ (parseMethodDescriptor y_Sums_tabulate.desc).map (fun d => d.parameters.length) = some 2 := by decide +kernel
theorem d_Sums_tabulate_0 : decode prog_9_method_3_code 0 = .ok (.iload_n 1, 1) := by decide +kernel
theorem d_Sums_tabulate_1 : decode prog_9_method_3_code 1 = .ok (.iconst 4, 1) := by decide +kernel
theorem d_Sums_tabulate_2 : decode prog_9_method_3_code 2 = .ok (.imul, 1) := by decide +kernel
theorem d_Sums_tabulate_3 : decode prog_9_method_3_code 3 = .ok (.istore_n 3, 1) := by decide +kernel
theorem d_Sums_tabulate_4 : decode prog_9_method_3_code 4 = .ok (.aload_n 0, 1) := by decide +kernel
theorem d_Sums_tabulate_5 : decode prog_9_method_3_code 5 = .ok (.getfield 15, 3) := by decide +kernel
theorem d_Sums_tabulate_8 : decode prog_9_method_3_code 8 = .ok (.iload_n 3, 1) := by decide +kernel
theorem d_Sums_tabulate_9 : decode prog_9_method_3_code 9 = .ok (.aaload, 1) := by decide +kernel
theorem d_Sums_tabulate_10 : decode prog_9_method_3_code 10 = .ok (.aload_n 2, 1) := by decide +kernel
theorem d_Sums_tabulate_11 : decode prog_9_method_3_code 11 = .ok (.invokevirtual 49, 3) := by decide +kernel
theorem d_Sums_tabulate_14 : decode prog_9_method_3_code 14 = .ok (.aload_n 0, 1) := by decide +kernel
theorem d_Sums_tabulate_15 : decode prog_9_method_3_code 15 = .ok (.getfield 31, 3) := by decide +kernel
theorem d_Sums_tabulate_18 : decode prog_9_method_3_code 18 = .ok (.aload_n 0, 1) := by decide +kernel
theorem d_Sums_tabulate_19 : decode prog_9_method_3_code 19 = .ok (.getfield 27, 3) := by decide +kernel
theorem d_Sums_tabulate_22 : decode prog_9_method_3_code 22 = .ok (.aload_n 2, 1) := by decide +kernel
theorem d_Sums_tabulate_23 : decode prog_9_method_3_code 23 = .ok (.invokevirtual 53, 3) := by decide +kernel
theorem d_Sums_tabulate_26 : decode prog_9_method_3_code 26 = .ok (.iload_n 3, 1) := by decide +kernel
theorem d_Sums_tabulate_27 : decode prog_9_method_3_code 27 = .ok (.iconst 1, 1) := by decide +kernel
theorem d_Sums_tabulate_28 : decode prog_9_method_3_code 28 = .ok (.iadd, 1) := by decide +kernel
theorem d_Sums_tabulate_29 : decode prog_9_method_3_code 29 = .ok (.istore 4, 2) := by decide +kernel
theorem d_Sums_tabulate_31 : decode prog_9_method_3_code 31 = .ok (.iload 4, 2) := by decide +kernel
theorem d_Sums_tabulate_33 : decode prog_9_method_3_code 33 = .ok (.iload_n 3, 1) := by decide +kernel
theorem d_Sums_tabulate_34 : decode prog_9_method_3_code 34 = .ok (.iconst 4, 1) := by decide +kernel
theorem d_Sums_tabulate_35 : decode prog_9_method_3_code 35 = .ok (.iadd, 1) := by decide +kernel
theorem d_Sums_tabulate_36 : decode prog_9_method_3_code 36 = .ok (.if_icmp .ge 37, 3) := by decide +kernel
theorem d_Sums_tabulate_39 : decode prog_9_method_3_code 39 = .ok (.aload_n 0, 1) := by decide +kernel
theorem d_Sums_tabulate_40 : decode prog_9_method_3_code 40 = .ok (.getfield 31, 3) := by decide +kernel
theorem d_Sums_tabulate_43 : decode prog_9_method_3_code 43 = .ok (.aload_n 0, 1) := by decide +kernel
theorem d_Sums_tabulate_44 : decode prog_9_method_3_code 44 = .ok (.getfield 15, 3) := by decide +kernel
theorem d_Sums_tabulate_47 : decode prog_9_method_3_code 47 = .ok (.iload 4, 2) := by decide +kernel
theorem d_Sums_tabulate_49 : decode prog_9_method_3_code 49 = .ok (.aaload, 1) := by decide +kernel
theorem d_Sums_tabulate_50 : decode prog_9_method_3_code 50 = .ok (.aload_n 0, 1) := by decide +kernel
theorem d_Sums_tabulate_51 : decode prog_9_method_3_code 51 = .ok (.getfield 15, 3) := by decide +kernel
theorem d_Sums_tabulate_54 : decode prog_9_method_3_code 54 = .ok (.iload 4, 2) := by decide +kernel
theorem d_Sums_tabulate_56 : decode prog_9_method_3_code 56 = .ok (.iconst 1, 1) := by decide +kernel
theorem d_Sums_tabulate_57 : decode prog_9_method_3_code 57 = .ok (.isub, 1) := by decide +kernel
theorem d_Sums_tabulate_58 : decode prog_9_method_3_code 58 = .ok (.aaload, 1) := by decide +kernel
theorem d_Sums_tabulate_59 : decode prog_9_method_3_code 59 = .ok (.aload_n 0, 1) := by decide +kernel
theorem d_Sums_tabulate_60 : decode prog_9_method_3_code 60 = .ok (.getfield 27, 3) := by decide +kernel
theorem d_Sums_tabulate_63 : decode prog_9_method_3_code 63 = .ok (.iconst 0, 1) := by decide +kernel
theorem d_Sums_tabulate_64 : decode prog_9_method_3_code 64 = .ok (.invokevirtual 59, 3) := by decide +kernel
theorem d_Sums_tabulate_67 : decode prog_9_method_3_code 67 = .ok (.iinc 4 1, 3) := by decide +kernel
theorem d_Sums_tabulate_70 : decode prog_9_method_3_code 70 = .ok (.goto (-39), 3) := by decide +kernel
theorem d_Sums_tabulate_73 : decode prog_9_method_3_code 73 = .ok (.return_, 1) := by decide +kernel
abbrev y_Sums_total : MethodName := ⟨"KateDesk$Sums", "total", "(LKateDesk$Point;I)V"⟩
theorem hd_Sums_total : y_Sums_total.cls ≠ "java/lang/invoke/MethodHandle" ∧ y_Sums_total.cls ≠ "java/lang/invoke/VarHandle" ∧ (parseMethodDescriptor y_Sums_total.desc).map (fun d => d.parameters.length) = some 2 := by decide +kernel
theorem d_Sums_total_0 : decode prog_9_method_5_code 0 = .ok (.aload_n 0, 1) := by decide +kernel
theorem d_Sums_total_1 : decode prog_9_method_5_code 1 = .ok (.getfield 27, 3) := by decide +kernel
theorem d_Sums_total_4 : decode prog_9_method_5_code 4 = .ok (.invokevirtual 79, 3) := by decide +kernel
theorem d_Sums_total_7 : decode prog_9_method_5_code 7 = .ok (.iconst 0, 1) := by decide +kernel
theorem d_Sums_total_8 : decode prog_9_method_5_code 8 = .ok (.istore_n 3, 1) := by decide +kernel
theorem d_Sums_total_9 : decode prog_9_method_5_code 9 = .ok (.sipush 256, 3) := by decide +kernel
theorem d_Sums_total_12 : decode prog_9_method_5_code 12 = .ok (.istore 4, 2) := by decide +kernel
theorem d_Sums_total_14 : decode prog_9_method_5_code 14 = .ok (.iload 4, 2) := by decide +kernel
theorem d_Sums_total_16 : decode prog_9_method_5_code 16 = .ok (.ifCond .lt 104, 3) := by decide +kernel
theorem d_Sums_total_19 : decode prog_9_method_5_code 19 = .ok (.iload_n 3, 1) := by decide +kernel
theorem d_Sums_total_20 : decode prog_9_method_5_code 20 = .ok (.ifCond .eq 18, 3) := by decide +kernel
theorem d_Sums_total_23 : decode prog_9_method_5_code 23 = .ok (.aload_n 0, 1) := by decide +kernel
theorem d_Sums_total_24 : decode prog_9_method_5_code 24 = .ok (.getfield 31, 3) := by decide +kernel
theorem d_Sums_total_27 : decode prog_9_method_5_code 27 = .ok (.aload_n 0, 1) := by decide +kernel
theorem d_Sums_total_28 : decode prog_9_method_5_code 28 = .ok (.getfield 27, 3) := by decide +kernel
theorem d_Sums_total_31 : decode prog_9_method_5_code 31 = .ok (.aload_n 0, 1) := by decide +kernel
theorem d_Sums_total_32 : decode prog_9_method_5_code 32 = .ok (.getfield 27, 3) := by decide +kernel
theorem d_Sums_total_35 : decode prog_9_method_5_code 35 = .ok (.invokevirtual 53, 3) := by decide +kernel
theorem d_Sums_total_38 : decode prog_9_method_5_code 38 = .ok (.iconst 0, 1) := by decide +kernel
theorem d_Sums_total_39 : decode prog_9_method_5_code 39 = .ok (.istore 5, 2) := by decide +kernel
theorem d_Sums_total_41 : decode prog_9_method_5_code 41 = .ok (.iload 5, 2) := by decide +kernel
theorem d_Sums_total_43 : decode prog_9_method_5_code 43 = .ok (.iload_n 2, 1) := by decide +kernel
theorem d_Sums_total_44 : decode prog_9_method_5_code 44 = .ok (.if_icmp .ge 70, 3) := by decide +kernel
theorem d_Sums_total_47 : decode prog_9_method_5_code 47 = .ok (.aload_n 0, 1) := by decide +kernel
theorem d_Sums_total_48 : decode prog_9_method_5_code 48 = .ok (.getfield 21, 3) := by decide +kernel
theorem d_Sums_total_51 : decode prog_9_method_5_code 51 = .ok (.iload 5, 2) := by decide +kernel
theorem d_Sums_total_53 : decode prog_9_method_5_code 53 = .ok (.aaload, 1) := by decide +kernel
theorem d_Sums_total_54 : decode prog_9_method_5_code 54 = .ok (.iload 4, 2) := by decide +kernel
theorem d_Sums_total_56 : decode prog_9_method_5_code 56 = .ok (.baload, 1) := by decide +kernel
theorem d_Sums_total_57 : decode prog_9_method_5_code 57 = .ok (.istore 6, 2) := by decide +kernel
theorem d_Sums_total_59 : decode prog_9_method_5_code 59 = .ok (.iload 6, 2) := by decide +kernel
theorem d_Sums_total_61 : decode prog_9_method_5_code 61 = .ok (.ifCond .eq 47, 3) := by decide +kernel
theorem d_Sums_total_64 : decode prog_9_method_5_code 64 = .ok (.aload_n 0, 1) := by decide +kernel
theorem d_Sums_total_65 : decode prog_9_method_5_code 65 = .ok (.getfield 31, 3) := by decide +kernel
theorem d_Sums_total_68 : decode prog_9_method_5_code 68 = .ok (.aload_n 0, 1) := by decide +kernel
theorem d_Sums_total_69 : decode prog_9_method_5_code 69 = .ok (.getfield 27, 3) := by decide +kernel
theorem d_Sums_total_72 : decode prog_9_method_5_code 72 = .ok (.aload_n 0, 1) := by decide +kernel
theorem d_Sums_total_73 : decode prog_9_method_5_code 73 = .ok (.getfield 27, 3) := by decide +kernel
theorem d_Sums_total_76 : decode prog_9_method_5_code 76 = .ok (.aload_n 0, 1) := by decide +kernel
theorem d_Sums_total_77 : decode prog_9_method_5_code 77 = .ok (.getfield 15, 3) := by decide +kernel
theorem d_Sums_total_80 : decode prog_9_method_5_code 80 = .ok (.iload 5, 2) := by decide +kernel
theorem d_Sums_total_82 : decode prog_9_method_5_code 82 = .ok (.iconst 4, 1) := by decide +kernel
theorem d_Sums_total_83 : decode prog_9_method_5_code 83 = .ok (.imul, 1) := by decide +kernel
theorem d_Sums_total_84 : decode prog_9_method_5_code 84 = .ok (.iload 6, 2) := by decide +kernel
theorem d_Sums_total_86 : decode prog_9_method_5_code 86 = .ok (.invokestatic 82, 3) := by decide +kernel
theorem d_Sums_total_89 : decode prog_9_method_5_code 89 = .ok (.iconst 2, 1) := by decide +kernel
theorem d_Sums_total_90 : decode prog_9_method_5_code 90 = .ok (.idiv, 1) := by decide +kernel
theorem d_Sums_total_91 : decode prog_9_method_5_code 91 = .ok (.iadd, 1) := by decide +kernel
theorem d_Sums_total_92 : decode prog_9_method_5_code 92 = .ok (.aaload, 1) := by decide +kernel
theorem d_Sums_total_93 : decode prog_9_method_5_code 93 = .ok (.iload 6, 2) := by decide +kernel
theorem d_Sums_total_95 : decode prog_9_method_5_code 95 = .ok (.ifCond .ge 7, 3) := by decide +kernel
theorem d_Sums_total_98 : decode prog_9_method_5_code 98 = .ok (.iconst 1, 1) := by decide +kernel
theorem d_Sums_total_99 : decode prog_9_method_5_code 99 = .ok (.goto 4, 3) := by decide +kernel
theorem d_Sums_total_102 : decode prog_9_method_5_code 102 = .ok (.iconst 0, 1) := by decide +kernel
theorem d_Sums_total_103 : decode prog_9_method_5_code 103 = .ok (.invokevirtual 59, 3) := by decide +kernel
theorem d_Sums_total_106 : decode prog_9_method_5_code 106 = .ok (.iconst 1, 1) := by decide +kernel
theorem d_Sums_total_107 : decode prog_9_method_5_code 107 = .ok (.istore_n 3, 1) := by decide +kernel
theorem d_Sums_total_108 : decode prog_9_method_5_code 108 = .ok (.iinc 5 1, 3) := by decide +kernel
theorem d_Sums_total_111 : decode prog_9_method_5_code 111 = .ok (.goto (-70), 3) := by decide +kernel
theorem d_Sums_total_114 : decode prog_9_method_5_code 114 = .ok (.iinc 4 (-1), 3) := by decide +kernel
theorem d_Sums_total_117 : decode prog_9_method_5_code 117 = .ok (.goto (-103), 3) := by decide +kernel
theorem d_Sums_total_120 : decode prog_9_method_5_code 120 = .ok (.aload_n 1, 1) := by decide +kernel
theorem d_Sums_total_121 : decode prog_9_method_5_code 121 = .ok (.aload_n 0, 1) := by decide +kernel
theorem d_Sums_total_122 : decode prog_9_method_5_code 122 = .ok (.getfield 27, 3) := by decide +kernel
theorem d_Sums_total_125 : decode prog_9_method_5_code 125 = .ok (.invokevirtual 49, 3) := by decide +kernel
theorem d_Sums_total_128 : decode prog_9_method_5_code 128 = .ok (.return_, 1) := by decide +kernel
set_option maxHeartbeats 4000000 in
set_option maxRecDepth 100000 in
/-- of 0: a row of 0 -/
theorem z_Sums_recode (l : Launch) (g : WG) (n0 : Nat → Prop) (o cu od dg sm s1 s2 s3 : Nat) (fo : Nat) (F : Nat → Nat) (mi : Int64) (X : Nat → Nat) (O O1 O2 O3 DG : Nat → Nat) (t a cnt : Nat) (from0 : Int32) (ht : t < 16) (hc : cnt < 257) : Ctr l y_Sums_recode (.code y_Sums_recode prog_9_method_4_code 10 none) 1 26 0 0 n0 g [.ref o, .int (nI t), .ref a, .int from0, .int (nI cnt)] (fun H => SU g n0 H o cu od dg sm s1 s2 s3 fo F mi X O O1 O2 O3 DG ∧ AJ g H a 14 (fun _ => 0)) (QV (fun H H' => KJ g (fun q => q = DG t) H H' ∧ AB g H' (DG t) 257 (fun _ => 0))) := by
  refine ctr_mk l (lv0 := [(0, .ref o), (1, .int (nI t)), (2, .ref a), (3, .int from0), (4, .int (nI cnt))]) (by decide) (Nat.le_of_ble_eq_true rfl) rfl ?_
  intro p e s m below meth c ls E hr hlk hnm hl hP
  have hx := E.1
  have hb := E.2.1
  have hK := E.2.2.2.2.2
  have hF : ∀ q ∈ ([] : List Loc), n0 q.base := fun q hq => absurd hq List.not_mem_nil
  obtain ⟨hsu, hA⟩ := hP
  refine lv_aload_n hx hb d_Sums_recode_0 rfl (lv_at hl 0 rfl) ?_
  refine q_get (C := "KateDesk$Sums") (T := T_Sums) (N := 4) (ci := 4) E hsu.1 in_Sums rfl 2 (by decide) w_249 rfl rfl d_Sums_recode_1 ?_
  refine lv_iload_n hx hb d_Sums_recode_4 rfl (lv_at hl 1 rfl) ?_
  refine q_aald (t := 5) E rfl rfl hsu.2.2.2.2.2.1 t rfl ht (by decide) d_Sums_recode_5 ?_
  refine lv_astore (lv' := [(5, .ref (DG t)), (0, .ref o), (1, .int (nI t)), (2, .ref a), (3, .int from0), (4, .int (nI cnt))]) hx hb d_Sums_recode_6 hl (by decide) rfl (fun ls hl => ?_)
  refine lv_aload hx hb d_Sums_recode_8 (lv_at hl 0 rfl) ?_
  refine lv_iconst (v := nI 0) hx hb d_Sums_recode_10 (by decide) ?_
  obtain ⟨hd0, f0, hf0⟩ := hsu.2.2.2.2.2.2 t ht
  refine q_cS (rest := []) E (c_Arrays_fill0 l g n0 (DG t) 257 (nI 0) f0 (by decide)) w_684 w_21 w_682 w_683 hd_Arrays_fill0 rfl ⟨by decide, by decide⟩ (⟨hd0, hf0⟩) hF hl.1 rfl (Nat.le_of_ble_eq_true rfl) d_Sums_recode_11 ⟨by decide, by decide⟩ (qv (fun H1 locs hq hF => ?_))
  have hk := hq.1
  have hz : AB g H1 (DG t) 257 (fun _ => 0) := hq.2
  have hA : AJ g H1 a 14 (fun _ => 0) := hk.ajo (aj_ne hA hK.jb hf0) hA
  refine lv_iconst (v := nI 0) hx hb d_Sums_recode_14 (by decide) ?_
  refine lv_istore (lv' := [(6, .int (nI 0)), (5, .ref (DG t)), (0, .ref o), (1, .int (nI t)), (2, .ref a), (3, .int from0), (4, .int (nI cnt))]) hx hb d_Sums_recode_15 hl (by decide) rfl (fun ls hl => ?_)
  refine lv_iconst (v := nI 0) hx hb d_Sums_recode_17 (by decide) ?_
  refine lv_istore (lv' := [(7, .int (nI 0)), (6, .int (nI 0)), (5, .ref (DG t)), (0, .ref o), (1, .int (nI t)), (2, .ref a), (3, .int from0), (4, .int (nI cnt))]) hx hb d_Sums_recode_18 hl (by decide) rfl (fun ls hl => ?_)
  refine lv_iconst (v := nI 0) hx hb d_Sums_recode_20 (by decide) ?_
  refine lv_istore (lv' := [(8, .int (nI 0)), (7, .int (nI 0)), (6, .int (nI 0)), (5, .ref (DG t)), (0, .ref o), (1, .int (nI t)), (2, .ref a), (3, .int from0), (4, .int (nI cnt))]) hx hb d_Sums_recode_21 hl (by decide) rfl (fun ls hl => ?_)
  have hl : lv_has ls 10 [(8, .int (nI 0)), (6, .int (nI 0)), (7, .int (nI 0)), (0, .ref o), (2, .ref a), (3, .int from0), (4, .int (nI cnt)), (5, .ref (DG t))] := lv_sub hl [0, 2, 1, 4, 6, 7, 8, 3] rfl
  have loop : ∀ (k : Nat) (i : Nat) (locs : List Loc) (ls : Array Slot), i + k = cnt + 1 → (∀ q ∈ locs, n0 q.base) → lv_has ls 10 [(8, .int (nI i)), (6, .int (nI 0)), (7, .int (nI 0)), (0, .ref o), (2, .ref a), (3, .int from0), (4, .int (nI cnt)), (5, .ref (DG t))] → W p l e { frames := 1, cells := 0, slots := 0, locals := 26 } s m [.ref o, .int (nI t), .ref a, .int from0, .int (nI cnt)].toArray below meth c H1 locs 0 0 (MQ below (QcP (QV (fun H H' => KJ g (fun q => q = DG t) H H' ∧ AB g H' (DG t) 257 (fun _ => 0)))) [.ref o, .int (nI t), .ref a, .int from0, .int (nI cnt)].toArray s 0 0 (fun q => n0 q)) (F0 m 23 ls []) := by
    intro k
    induction k with
    | zero =>
      intro  i   locs   ls hi hF hl
      obtain rfl : i = cnt + 1 := by omega
      refine lv_iload hx hb d_Sums_recode_23 (lv_at hl 0 rfl) ?_
      refine lv_iload hx hb d_Sums_recode_25 (lv_at hl 6 rfl) ?_
      refine lv_icmp_gt (tgt := 99) hx hb d_Sums_recode_27 (by decide) (fun _ => ?_) (fun h9 => absurd (nI_lt (by omega) (by omega)) h9)
      exact q_vret E hr hlk (⟨rfl, hk, hz⟩) hF d_Sums_recode_99
    | succ k ih =>
      intro  i   locs   ls hi hF hl
      refine lv_iload hx hb d_Sums_recode_23 (lv_at hl 0 rfl) ?_
      refine lv_iload hx hb d_Sums_recode_25 (lv_at hl 6 rfl) ?_
      refine lv_icmp_gt (tgt := 99) hx hb d_Sums_recode_27 (by decide) (fun h9 => absurd h9 (nI_nlt (by omega) (by omega))) (fun _ => ?_)
      refine lv_iload hx hb d_Sums_recode_30 (lv_at hl 1 rfl) ?_
      refine lv_aload_n hx hb d_Sums_recode_32 rfl (lv_at hl 4 rfl) ?_
      refine lv_iload_n hx hb d_Sums_recode_33 rfl (lv_at hl 5 rfl) ?_
      refine lv_iload hx hb d_Sums_recode_34 (lv_at hl 0 rfl) ?_
      refine lv_iadd hx hb d_Sums_recode_36 ?_
      refine lv_iconst (v := nI 4) hx hb d_Sums_recode_37 (by decide) ?_
      refine lv_iload hx hb d_Sums_recode_38 (lv_at hl 6 rfl) ?_
      refine lv_iload hx hb d_Sums_recode_40 (lv_at hl 0 rfl) ?_
      refine lv_isub hx hb d_Sums_recode_42 ?_
      refine va_mmin E.1 E.2.1 (E.2.2.1.trans hl.1.symm) E.2.2.2.1 (E.2.2.2.2.1 _ w_685) (E.2.2.2.2.1 _ w_686) (E.2.2.2.2.1 _ w_23) (E.2.2.2.2.1 _ w_687) (by decide) (Nat.le_of_ble_eq_true rfl) (Nat.le_of_ble_eq_true rfl) (Nat.le_of_ble_eq_true rfl) d_Sums_recode_43 ?_
      refine lv_topi (fun r1 _ => ?_)
      refine q_cS (rest := [.int (nI 0)]) E (z_Limbs_bits l g n0 a _ _) w_271 w_5 w_688 w_270 hd_Limbs_bits rfl ⟨by decide, by decide⟩ hA hF hl.1 rfl (Nat.le_of_ble_eq_true rfl) d_Sums_recode_46 ⟨by decide, by decide⟩ (ql (fun r2 H1 locs hq hF => ?_))
      obtain ⟨rfl, hq⟩ := hq
      obtain rfl := hq
      refine lv_l2i (v := (0 : Int64).toInt32) hx hb d_Sums_recode_49 rfl ?_
      refine lv_iadd hx hb d_Sums_recode_50 ?_
      refine lv_topi (fun t9 e9 => ?_)
      obtain rfl : t9 = nI 0 := e9.trans (by decide)
      refine lv_istore (lv' := [(9, .int (nI 0)), (8, .int (nI i)), (6, .int (nI 0)), (7, .int (nI 0)), (0, .ref o), (2, .ref a), (3, .int from0), (4, .int (nI cnt)), (5, .ref (DG t))]) hx hb d_Sums_recode_51 hl (by decide) rfl (fun ls hl => ?_)
      refine lv_iload hx hb d_Sums_recode_53 (lv_at hl 1 rfl) ?_
      refine lv_iload hx hb d_Sums_recode_55 (lv_at hl 3 rfl) ?_
      refine lv_icmp_lt (tgt := 93) hx hb d_Sums_recode_57 (by decide) (fun h => ?_) (fun h => ?_)
      rotate_left
      · skip
        refine lv_iload hx hb d_Sums_recode_60 (lv_at hl 0 rfl) ?_
        refine lv_iconst (v := nI 1) hx hb d_Sums_recode_62 (by decide) ?_
        refine lv_iand hx hb d_Sums_recode_63 ?_
        refine lv_iconst (v := nI 1) hx hb d_Sums_recode_64 (by decide) ?_
        refine lv_icmp_ne (tgt := 93) hx hb d_Sums_recode_65 (by decide) (fun _ => ?_) (fun h9 => absurd h9 (by decide))
        refine lv_iinc (k := 1) (v := nI (i + 1)) (lv' := [(8, .int (nI (i + 1))), (9, .int (nI 0)), (6, .int (nI 0)), (7, .int (nI 0)), (0, .ref o), (2, .ref a), (3, .int from0), (4, .int (nI cnt)), (5, .ref (DG t))]) hx hb d_Sums_recode_93 hl rfl (i_inc i) (by decide) rfl (fun ls hl => ?_)
        refine lv_goto (tgt := 23) hx hb d_Sums_recode_96 (by decide) ?_
        have hl : lv_has ls 10 [(8, .int (nI (i + 1))), (6, .int (nI 0)), (7, .int (nI 0)), (0, .ref o), (2, .ref a), (3, .int from0), (4, .int (nI cnt)), (5, .ref (DG t))] := lv_sub hl [0, 2, 3, 4, 5, 6, 7, 8] rfl
        exact ih (i + 1) _ ls (by omega) hF hl
      refine lv_iinc (k := 1) (v := nI (i + 1)) (lv' := [(8, .int (nI (i + 1))), (9, .int (nI 0)), (6, .int (nI 0)), (7, .int (nI 0)), (0, .ref o), (2, .ref a), (3, .int from0), (4, .int (nI cnt)), (5, .ref (DG t))]) hx hb d_Sums_recode_93 hl rfl (i_inc i) (by decide) rfl (fun ls hl => ?_)
      refine lv_goto (tgt := 23) hx hb d_Sums_recode_96 (by decide) ?_
      have hl : lv_has ls 10 [(8, .int (nI (i + 1))), (6, .int (nI 0)), (7, .int (nI 0)), (0, .ref o), (2, .ref a), (3, .int from0), (4, .int (nI cnt)), (5, .ref (DG t))] := lv_sub hl [0, 2, 3, 4, 5, 6, 7, 8] rfl
      exact ih (i + 1) _ ls (by omega) hF hl
  exact loop (cnt + 1) 0 _ ls (by omega) hF hl
set_option maxHeartbeats 4000000 in
set_option maxRecDepth 100000 in
/-- of 0: a row of 0, no table -/
theorem z_Sums_place (l : Launch) (g : WG) (n0 : Nat → Prop) (o cu od dg sm s1 s2 s3 : Nat) (fo : Nat) (F : Nat → Nat) (mi : Int64) (X : Nat → Nat) (O O1 O2 O3 DG : Nat → Nat) (t a b : Nat) (ht : t < 16) : Ctr l y_Sums_place (.code y_Sums_place prog_9_method_2_code 4 none) 2 55 0 0 n0 g [.ref o, .int (nI t), .ref a, .ref b] (fun H => SU g n0 H o cu od dg sm s1 s2 s3 fo F mi X O O1 O2 O3 DG ∧ AJ g H a 14 (fun _ => 0)) (QV (fun H H' => KJ g (fun q => q = DG t) H H' ∧ AB g H' (DG t) 257 (fun _ => 0))) := by
  refine ctr_mk l (lv0 := [(0, .ref o), (1, .int (nI t)), (2, .ref a), (3, .ref b)]) (by decide) (Nat.le_of_ble_eq_true rfl) rfl ?_
  intro p e s m below meth c ls E hr hlk hnm hl hP
  have hx := E.1
  have hb := E.2.1
  have hK := E.2.2.2.2.2
  have hF : ∀ q ∈ ([] : List Loc), n0 q.base := fun q hq => absurd hq List.not_mem_nil
  obtain ⟨hsu, hA⟩ := hP
  refine lv_aload_n hx hb d_Sums_place_0 rfl (lv_at hl 0 rfl) ?_
  refine lv_iload_n hx hb d_Sums_place_1 rfl (lv_at hl 1 rfl) ?_
  refine lv_aload_n hx hb d_Sums_place_2 rfl (lv_at hl 2 rfl) ?_
  refine lv_iconst (v := nI 0) hx hb d_Sums_place_3 (by decide) ?_
  refine lv_sipush (v := nI 256) hx hb d_Sums_place_4 (by decide) ?_
  refine q_cV (rest := []) E (z_Sums_recode l g n0 o cu od dg sm s1 s2 s3 fo F mi X O O1 O2 O3 DG t a 256 _ ht (by decide)) w_681 w_12 w_678 w_679 w_680 hd_Sums_recode rfl ⟨by decide, by decide⟩ (OB.recv E.2.2.2.2.2 (by rfl) hsu.1) (⟨hsu, hA⟩) hF hl.1 rfl (Nat.le_of_ble_eq_true rfl) d_Sums_place_7 ⟨by decide, by decide⟩ (qv (fun H1 locs hq hF => ?_))
  have hA := hq.1.ajo (aj_ne hA hK.jb (hsu.2.2.2.2.2.2 t ht).2.choose_spec) hA
  have hq9 := hq
  refine lv_aload_n hx hb d_Sums_place_10 rfl (lv_at hl 2 rfl) ?_
  refine q_cS (rest := []) E (z_Limbs_isZero l g n0 a) w_548 w_5 w_689 w_547 hd_Limbs_isZero rfl ⟨by decide, by decide⟩ hA hF hl.1 rfl (Nat.le_of_ble_eq_true rfl) d_Sums_place_11 ⟨by decide, by decide⟩ (qi (fun r H2 locs hq hF => ?_))
  obtain ⟨rfl, hq⟩ := hq
  obtain rfl := hq
  refine lv_if_ne (tgt := 23) hx hb d_Sums_place_14 (by decide) (fun _ => ?_) (fun h9 => absurd h9 (by decide))
  exact q_vret E hr hlk (⟨rfl, hq9⟩) hF d_Sums_place_23
set_option maxHeartbeats 4000000 in
set_option maxRecDepth 100000 in
/-- a table: shapes -/
theorem c_Sums_tabulate (l : Launch) (g : WG) (n0 : Nat → Prop) (o cu od dg sm s1 s2 s3 : Nat) (fo : Nat) (F : Nat → Nat) (mi : Int64) (X : Nat → Nat) (O O1 O2 O3 DG : Nat → Nat) (t : Nat) (b b1 b2 b3 : Nat) (ht : t < 16) : Ctr l y_Sums_tabulate (.code y_Sums_tabulate prog_9_method_3_code 5 none) 4 187 0 0 n0 g [.ref o, .int (nI t), .ref b] (fun H => SU g n0 H o cu od dg sm s1 s2 s3 fo F mi X O O1 O2 O3 DG ∧ PT g n0 H b b1 b2 b3) (QV (fun H H' => KJ g (fun q => n0 q) H H')) := by
  refine ctr_mk l (lv0 := [(0, .ref o), (1, .int (nI t)), (2, .ref b)]) (by decide) (Nat.le_of_ble_eq_true rfl) rfl ?_
  intro p e s m below meth c ls E hr hlk hnm hl hP
  have hx := E.1
  have hb := E.2.1
  have hK := E.2.2.2.2.2
  have hF : ∀ q ∈ ([] : List Loc), n0 q.base := fun q hq => absurd hq List.not_mem_nil
  obtain ⟨hsu, h_b⟩ := hP
  have hk : KJ g (fun q => n0 q) s.heap s.heap := KJ.rf
  refine lv_iload_n hx hb d_Sums_tabulate_0 rfl (lv_at hl 1 rfl) ?_
  refine lv_iconst (v := nI 4) hx hb d_Sums_tabulate_1 (by decide) ?_
  refine lv_imul hx hb d_Sums_tabulate_2 ?_
  refine lv_topi (fun t9 e9 => ?_)
  obtain rfl : t9 = nI (t * 4) := e9.trans (pk_mul t 4)
  refine lv_istore_n (lv' := [(3, .int (nI (t * 4))), (0, .ref o), (1, .int (nI t)), (2, .ref b)]) hx hb d_Sums_tabulate_3 rfl hl (by decide) rfl (fun ls hl => ?_)
  refine lv_aload_n hx hb d_Sums_tabulate_4 rfl (lv_at hl 1 rfl) ?_
  refine q_get (C := "KateDesk$Sums") (T := T_Sums) (N := 4) (ci := 4) E ((hk.su hK hsu).1) in_Sums rfl 1 (by decide) w_248 rfl rfl d_Sums_tabulate_5 ?_
  refine lv_iload_n hx hb d_Sums_tabulate_8 rfl (lv_at hl 0 rfl) ?_
  refine q_aald (t := 3) E rfl rfl ((hk.su hK hsu).2.2.2.1) (t * 4) rfl (by omega) (by decide) d_Sums_tabulate_9 ?_
  refine lv_aload_n hx hb d_Sums_tabulate_10 rfl (lv_at hl 3 rfl) ?_
  refine q_cV (rest := []) E (c_Point_copy l g n0 (O (t * 4)) (O1 (t * 4)) (O2 (t * 4)) (O3 (t * 4)) b b1 b2 b3) w_697 w_2 w_694 w_695 w_696 hd_Point_copy rfl ⟨by decide, by decide⟩ (OB.recv E.2.2.2.2.2 (by rfl) (((hk.su hK hsu).2.2.2.2.1 (t * 4) (by omega)).1)) (⟨(hk.su hK hsu).2.2.2.2.1 (t * 4) (by omega), hk.pt hK h_b⟩) hF hl.1 rfl (Nat.le_of_ble_eq_true rfl) d_Sums_tabulate_11 ⟨by decide, by decide⟩ (qv (fun H1 locs hq hF => ?_))
  have hk := hk.tr (hq.1.mono (pt_le (hsu.2.2.2.2.1 (t * 4) (by omega))))
  refine lv_aload_n hx hb d_Sums_tabulate_14 rfl (lv_at hl 1 rfl) ?_
  refine q_get (C := "KateDesk$Sums") (T := T_Sums) (N := 4) (ci := 4) E ((hk.su hK hsu).1) in_Sums rfl 0 (by decide) w_247 rfl rfl d_Sums_tabulate_15 ?_
  refine lv_aload_n hx hb d_Sums_tabulate_18 rfl (lv_at hl 1 rfl) ?_
  refine q_get (C := "KateDesk$Sums") (T := T_Sums) (N := 4) (ci := 4) E ((hk.su hK hsu).1) in_Sums rfl 3 (by decide) w_250 rfl rfl d_Sums_tabulate_19 ?_
  refine lv_aload_n hx hb d_Sums_tabulate_22 rfl (lv_at hl 3 rfl) ?_
  refine q_cV (rest := []) E (c_Curve_twice l g n0 cu fo F mi X sm s1 s2 s3 b b1 b2 b3) w_702 w_11 w_699 w_700 w_701 hd_Curve_twice rfl ⟨by decide, by decide⟩ (OB.recv E.2.2.2.2.2 (by rfl) ((hk.su hK hsu).2.1.1)) (⟨(hk.su hK hsu).2.1, (hk.su hK hsu).2.2.1, hk.pt hK h_b⟩) hF hl.1 rfl (Nat.le_of_ble_eq_true rfl) d_Sums_tabulate_23 ⟨by decide, by decide⟩ (qv (fun H2 locs hq hF => ?_))
  have hk := hk.tr hq
  refine lv_iload_n hx hb d_Sums_tabulate_26 rfl (lv_at hl 0 rfl) ?_
  refine lv_iconst (v := nI 1) hx hb d_Sums_tabulate_27 (by decide) ?_
  refine lv_iadd hx hb d_Sums_tabulate_28 ?_
  refine lv_topi (fun t9 e9 => ?_)
  obtain rfl : t9 = nI (t * 4 + 1) := e9.trans (nI_add _ _)
  refine lv_istore (lv' := [(4, .int (nI (t * 4 + 1))), (3, .int (nI (t * 4))), (0, .ref o), (1, .int (nI t)), (2, .ref b)]) hx hb d_Sums_tabulate_29 hl (by decide) rfl (fun ls hl => ?_)
  have hl : lv_has ls 5 [(4, .int (nI (t * 4 + 1))), (3, .int (nI (t * 4))), (0, .ref o)] := lv_sub hl [0, 1, 2] rfl
  have loop : ∀ (k : Nat) (i : Nat) (H : Heap) (locs : List Loc) (ls : Array Slot), i + k = t * 4 + 4 → t * 4 + 1 ≤ i → KJ g (fun q => n0 q) s.heap H → (∀ q ∈ locs, n0 q.base) → lv_has ls 5 [(4, .int (nI i)), (3, .int (nI (t * 4))), (0, .ref o)] → W p l e { frames := 4, cells := 0, slots := 0, locals := 187 } s m [.ref o, .int (nI t), .ref b].toArray below meth c H locs 0 0 (MQ below (QcP (QV (fun H H' => KJ g (fun q => n0 q) H H'))) [.ref o, .int (nI t), .ref b].toArray s 0 0 (fun q => n0 q)) (F0 m 31 ls []) := by
    intro k
    induction k with
    | zero =>
      intro  i   H   locs   ls hi hi2 hk hF hl
      obtain rfl : i = t * 4 + 4 := by omega
      refine lv_iload hx hb d_Sums_tabulate_31 (lv_at hl 0 rfl) ?_
      refine lv_iload_n hx hb d_Sums_tabulate_33 rfl (lv_at hl 1 rfl) ?_
      refine lv_iconst (v := nI 4) hx hb d_Sums_tabulate_34 (by decide) ?_
      refine lv_iadd hx hb d_Sums_tabulate_35 ?_
      refine lv_topi (fun t9 e9 => ?_)
      obtain rfl : t9 = nI (t * 4 + 4) := e9.trans (nI_add _ _)
      refine lv_icmp_ge (tgt := 73) hx hb d_Sums_tabulate_36 (by decide) (fun _ => ?_) (fun h9 => absurd (nI_le (Nat.le_refl _) (by omega)) h9)
      exact q_vret E hr hlk (⟨rfl, hk⟩) hF d_Sums_tabulate_73
    | succ k ih =>
      intro  i   H   locs   ls hi hi2 hk hF hl
      refine lv_iload hx hb d_Sums_tabulate_31 (lv_at hl 0 rfl) ?_
      refine lv_iload_n hx hb d_Sums_tabulate_33 rfl (lv_at hl 1 rfl) ?_
      refine lv_iconst (v := nI 4) hx hb d_Sums_tabulate_34 (by decide) ?_
      refine lv_iadd hx hb d_Sums_tabulate_35 ?_
      refine lv_topi (fun t9 e9 => ?_)
      obtain rfl : t9 = nI (t * 4 + 4) := e9.trans (nI_add _ _)
      refine lv_icmp_ge (tgt := 73) hx hb d_Sums_tabulate_36 (by decide) (fun h9 => absurd h9 (nI_ge (by omega) (by omega))) (fun _ => ?_)
      refine lv_aload_n hx hb d_Sums_tabulate_39 rfl (lv_at hl 2 rfl) ?_
      refine q_get (C := "KateDesk$Sums") (T := T_Sums) (N := 4) (ci := 4) E ((hk.su hK hsu).1) in_Sums rfl 0 (by decide) w_247 rfl rfl d_Sums_tabulate_40 ?_
      refine lv_aload_n hx hb d_Sums_tabulate_43 rfl (lv_at hl 2 rfl) ?_
      refine q_get (C := "KateDesk$Sums") (T := T_Sums) (N := 4) (ci := 4) E ((hk.su hK hsu).1) in_Sums rfl 1 (by decide) w_248 rfl rfl d_Sums_tabulate_44 ?_
      refine lv_iload hx hb d_Sums_tabulate_47 (lv_at hl 0 rfl) ?_
      refine q_aald (t := 3) E rfl rfl ((hk.su hK hsu).2.2.2.1) i rfl (by omega) (by decide) d_Sums_tabulate_49 ?_
      refine lv_aload_n hx hb d_Sums_tabulate_50 rfl (lv_at hl 2 rfl) ?_
      refine q_get (C := "KateDesk$Sums") (T := T_Sums) (N := 4) (ci := 4) E ((hk.su hK hsu).1) in_Sums rfl 1 (by decide) w_248 rfl rfl d_Sums_tabulate_51 ?_
      refine lv_iload hx hb d_Sums_tabulate_54 (lv_at hl 0 rfl) ?_
      refine lv_iconst (v := nI 1) hx hb d_Sums_tabulate_56 (by decide) ?_
      refine lv_isub hx hb d_Sums_tabulate_57 ?_
      refine lv_topi (fun t9 e9 => ?_)
      obtain rfl : t9 = nI (i - 1) := e9.trans (pk_sub (by omega))
      refine q_aald (t := 3) E rfl rfl ((hk.su hK hsu).2.2.2.1) (i - 1) rfl (by omega) (by decide) d_Sums_tabulate_58 ?_
      refine lv_aload_n hx hb d_Sums_tabulate_59 rfl (lv_at hl 2 rfl) ?_
      refine q_get (C := "KateDesk$Sums") (T := T_Sums) (N := 4) (ci := 4) E ((hk.su hK hsu).1) in_Sums rfl 3 (by decide) w_250 rfl rfl d_Sums_tabulate_60 ?_
      refine lv_iconst (v := nI 0) hx hb d_Sums_tabulate_63 (by decide) ?_
      refine q_cV (rest := []) E (c_Curve_add l g n0 cu fo F mi X (O i) (O1 i) (O2 i) (O3 i) (O (i - 1)) (O1 (i - 1)) (O2 (i - 1)) (O3 (i - 1)) sm s1 s2 s3 (nI 0)) w_711 w_11 w_708 w_709 w_710 hd_Curve_add rfl ⟨by decide, by decide⟩ (OB.recv E.2.2.2.2.2 (by rfl) ((hk.su hK hsu).2.1.1)) (⟨(hk.su hK hsu).2.1, (hk.su hK hsu).2.2.2.2.1 i (by omega), (hk.su hK hsu).2.2.2.2.1 (i - 1) (by omega), (hk.su hK hsu).2.2.1⟩) hF hl.1 rfl (Nat.le_of_ble_eq_true rfl) d_Sums_tabulate_64 ⟨by decide, by decide⟩ (qv (fun H1 locs hq hF => ?_))
      have hk := hk.tr hq
      refine lv_iinc (k := 0) (v := nI (i + 1)) (lv' := [(4, .int (nI (i + 1))), (3, .int (nI (t * 4))), (0, .ref o)]) hx hb d_Sums_tabulate_67 hl rfl (i_inc i) (by decide) rfl (fun ls hl => ?_)
      refine lv_goto (tgt := 31) hx hb d_Sums_tabulate_70 (by decide) ?_
      have hl : lv_has ls 5 [(4, .int (nI (i + 1))), (3, .int (nI (t * 4))), (0, .ref o)] := lv_sub hl [0, 1, 2] rfl
      exact ih (i + 1) H1 locs ls (by omega) (by omega) hk hF hl
  exact loop 3 (t * 4 + 1) _ _ ls (by omega) (by omega) hk hF hl
set_option maxHeartbeats 4000000 in
set_option maxRecDepth 100000 in
/-- all digits 0: nothing -/
theorem z_Sums_total (l : Launch) (g : WG) (n0 : Nat → Prop) (o cu od dg sm s1 s2 s3 : Nat) (fo : Nat) (F : Nat → Nat) (mi : Int64) (X : Nat → Nat) (O O1 O2 O3 DG : Nat → Nat) (n : Nat) (t t1 t2 t3 : Nat) (hn : n ≤ 16) (hs : s3 ≠ s2) (hs1 : s3 ≠ t1) (hs2 : s3 ≠ t2) : Ctr l y_Sums_total (.code y_Sums_total prog_9_method_5_code 7 none) 3 102 0 0 n0 g [.ref o, .ref t, .int (nI n)] (fun H => SU g n0 H o cu od dg sm s1 s2 s3 fo F mi X O O1 O2 O3 DG ∧ PT g n0 H t t1 t2 t3 ∧ ∀ k, k < n → AB g H (DG k) 257 (fun _ => 0)) (QV (fun H H' => KJ g (fun q => q = s1 ∨ q = s2 ∨ q = s3 ∨ q = t1 ∨ q = t2 ∨ q = t3) H H' ∧ AJ g H' t3 14 (fun _ => 0))) := by
  refine ctr_mk l (lv0 := [(0, .ref o), (1, .ref t), (2, .int (nI n))]) (by decide) (Nat.le_of_ble_eq_true rfl) rfl ?_
  intro p e s m below meth c ls E hr hlk hnm hl hP
  have hx := E.1
  have hb := E.2.1
  have hK := E.2.2.2.2.2
  have hF : ∀ q ∈ ([] : List Loc), n0 q.base := fun q hq => absurd hq List.not_mem_nil
  obtain ⟨hsu, h_t, hdz⟩ := hP
  have hk : KJ g (fun q => q = s1 ∨ q = s2 ∨ q = s3 ∨ q = t1 ∨ q = t2 ∨ q = t3) s.heap s.heap := KJ.rf
  refine lv_aload_n hx hb d_Sums_total_0 rfl (lv_at hl 0 rfl) ?_
  refine q_get (C := "KateDesk$Sums") (T := T_Sums) (N := 4) (ci := 4) E ((hk.su hK hsu).1) in_Sums rfl 3 (by decide) w_250 rfl rfl d_Sums_total_1 ?_
  refine q_cV (rest := []) E (c_Point_becomeNothing l g n0 sm s1 s2 s3 hs) w_635 w_2 w_721 w_633 w_634 hd_Point_becomeNothing rfl ⟨by decide, by decide⟩ (OB.recv E.2.2.2.2.2 (by rfl) hsu.2.2.1.1) hsu.2.2.1 hF hl.1 rfl (Nat.le_of_ble_eq_true rfl) d_Sums_total_4 ⟨by decide, by decide⟩ (qv (fun H1 locs hq hF => ?_))
  have hz := hq.2
  have hk3 := hq.1
  have hk := hk.tr (hq.1.mono (fun q h => h.elim Or.inl (fun h => h.elim (fun h => Or.inr (Or.inl h)) (fun h => Or.inr (Or.inr (Or.inl h))))))
  have hdz : ∀ k, k < n → AB g H1 (DG k) 257 (fun _ => 0) := fun k hkn => hk3.abo (fun h => h.elim (fun e => aj_ne hsu.2.2.1.2.1.2.choose_spec hK.jb (hdz k hkn) e.symm) (fun h => h.elim (fun e => aj_ne hsu.2.2.1.2.2.1.2.choose_spec hK.jb (hdz k hkn) e.symm) (fun e => aj_ne hsu.2.2.1.2.2.2.2.choose_spec hK.jb (hdz k hkn) e.symm))) (hdz k hkn)
  refine lv_iconst (v := nI 0) hx hb d_Sums_total_7 (by decide) ?_
  refine lv_istore_n (lv' := [(3, .int (nI 0)), (0, .ref o), (1, .ref t), (2, .int (nI n))]) hx hb d_Sums_total_8 rfl hl (by decide) rfl (fun ls hl => ?_)
  refine lv_sipush (v := nI 256) hx hb d_Sums_total_9 (by decide) ?_
  refine lv_istore (lv' := [(4, .int (nI 256)), (3, .int (nI 0)), (0, .ref o), (1, .ref t), (2, .int (nI n))]) hx hb d_Sums_total_12 hl (by decide) rfl (fun ls hl => ?_)
  have hl : lv_has ls 7 [(4, .int (nI 256)), (3, .int (nI 0)), (0, .ref o), (1, .ref t), (2, .int (nI n))] := lv_sub hl [0, 1, 2, 3, 4] rfl
  have loop : ∀ (k : Nat) (ls : Array Slot) (x : Int32), k ≤ 257 → x = nI k - 1 → lv_has ls 7 [(4, .int x), (3, .int (nI 0)), (0, .ref o), (1, .ref t), (2, .int (nI n))] → W p l e { frames := 3, cells := 0, slots := 0, locals := 102 } s m [.ref o, .ref t, .int (nI n)].toArray below meth c H1 locs 0 0 (MQ below (QcP (QV (fun H H' => KJ g (fun q => q = s1 ∨ q = s2 ∨ q = s3 ∨ q = t1 ∨ q = t2 ∨ q = t3) H H' ∧ AJ g H' t3 14 (fun _ => 0)))) [.ref o, .ref t, .int (nI n)].toArray s 0 0 (fun q => n0 q)) (F0 m 14 ls []) := by
    intro k
    induction k with
    | zero =>
      intro  ls   x hk0 hxx hl
      subst hxx
      refine lv_iload hx hb d_Sums_total_14 (lv_at hl 0 rfl) ?_
      refine lv_if_lt (tgt := 120) hx hb d_Sums_total_16 (by decide) (fun _ => ?_) (fun h9 => absurd (by decide) h9)
      refine lv_aload_n hx hb d_Sums_total_120 rfl (lv_at hl 3 rfl) ?_
      refine lv_aload_n hx hb d_Sums_total_121 rfl (lv_at hl 2 rfl) ?_
      refine q_get (C := "KateDesk$Sums") (T := T_Sums) (N := 4) (ci := 4) E ((hk.su hK hsu).1) in_Sums rfl 3 (by decide) w_250 rfl rfl d_Sums_total_122 ?_
      refine q_cV (rest := []) E (c_Point_copy l g n0 t t1 t2 t3 sm s1 s2 s3) w_697 w_2 w_694 w_695 w_696 hd_Point_copy rfl ⟨by decide, by decide⟩ (OB.recv E.2.2.2.2.2 (by rfl) ((hk.pt hK h_t).1)) (⟨hk.pt hK h_t, (hk.su hK hsu).2.2.1⟩) hF hl.1 rfl (Nat.le_of_ble_eq_true rfl) d_Sums_total_125 ⟨by decide, by decide⟩ (qv (fun H1 locs hq hF => ?_))
      have hk := hk.tr (hq.1.mono (fun q h => h.elim (fun h => Or.inr (Or.inr (Or.inr (Or.inl h)))) (fun h => h.elim (fun h => Or.inr (Or.inr (Or.inr (Or.inr (Or.inl h))))) (fun h => Or.inr (Or.inr (Or.inr (Or.inr (Or.inr h))))))))
      exact q_vret E hr hlk (⟨rfl, hk, hq.2 _ hs1 hs2 hz⟩) hF d_Sums_total_128
    | succ k ih =>
      intro  ls   x hk0 hxx hl
      rw [nI_pred] at hxx
      subst hxx
      refine lv_iload hx hb d_Sums_total_14 (lv_at hl 0 rfl) ?_
      refine lv_if_lt (tgt := 120) hx hb d_Sums_total_16 (by decide) (fun h9 => absurd h9 (nI_pos (by omega))) (fun _ => ?_)
      refine lv_iload_n hx hb d_Sums_total_19 rfl (lv_at hl 1 rfl) ?_
      refine lv_if_eq (tgt := 38) hx hb d_Sums_total_20 (by decide) (fun _ => ?_) (fun h9 => absurd (by decide) h9)
      refine lv_iconst (v := nI 0) hx hb d_Sums_total_38 (by decide) ?_
      refine lv_istore (lv' := [(5, .int (nI 0)), (4, .int (nI k)), (3, .int (nI 0)), (0, .ref o), (1, .ref t), (2, .int (nI n))]) hx hb d_Sums_total_39 hl (by decide) rfl (fun ls hl => ?_)
      have hl : lv_has ls 7 [(5, .int (nI 0)), (4, .int (nI k)), (3, .int (nI 0)), (0, .ref o), (1, .ref t), (2, .int (nI n))] := lv_sub hl [0, 1, 2, 3, 4, 5] rfl
      have inner : ∀ (k2 : Nat) (i : Nat) (ls : Array Slot), i + k2 = n → lv_has ls 7 [(5, .int (nI i)), (4, .int (nI k)), (3, .int (nI 0)), (0, .ref o), (1, .ref t), (2, .int (nI n))] → W p l e { frames := 3, cells := 0, slots := 0, locals := 102 } s m [.ref o, .ref t, .int (nI n)].toArray below meth c H1 locs 0 0 (MQ below (QcP (QV (fun H H' => KJ g (fun q => q = s1 ∨ q = s2 ∨ q = s3 ∨ q = t1 ∨ q = t2 ∨ q = t3) H H' ∧ AJ g H' t3 14 (fun _ => 0)))) [.ref o, .ref t, .int (nI n)].toArray s 0 0 (fun q => n0 q)) (F0 m 41 ls []) := by
        intro k2
        induction k2 with
        | zero =>
          intro  i   ls hi hl
          obtain rfl : i = n := by omega
          refine lv_iload hx hb d_Sums_total_41 (lv_at hl 0 rfl) ?_
          refine lv_iload_n hx hb d_Sums_total_43 rfl (lv_at hl 5 rfl) ?_
          refine lv_icmp_ge (tgt := 114) hx hb d_Sums_total_44 (by decide) (fun _ => ?_) (fun h9 => absurd (nI_le (Nat.le_refl _) (by omega)) h9)
          refine lv_iinc (k := 1) (v := nI k - 1) (lv' := [(4, .int (nI k - 1)), (5, .int (nI i)), (3, .int (nI 0)), (0, .ref o), (1, .ref t), (2, .int (nI i))]) hx hb d_Sums_total_114 hl rfl (i_dec (nI k)) (by decide) rfl (fun ls hl => ?_)
          refine lv_goto (tgt := 14) hx hb d_Sums_total_117 (by decide) ?_
          have hl : lv_has ls 7 [(4, .int (nI k - 1)), (3, .int (nI 0)), (0, .ref o), (1, .ref t), (2, .int (nI i))] := lv_sub hl [0, 2, 3, 4, 5] rfl
          exact ih ls _ (by omega) rfl hl
        | succ k2 ih2 =>
          intro  i   ls hi hl
          refine lv_iload hx hb d_Sums_total_41 (lv_at hl 0 rfl) ?_
          refine lv_iload_n hx hb d_Sums_total_43 rfl (lv_at hl 5 rfl) ?_
          refine lv_icmp_ge (tgt := 114) hx hb d_Sums_total_44 (by decide) (fun h9 => absurd h9 (nI_ge (by omega) (by omega))) (fun _ => ?_)
          refine lv_aload_n hx hb d_Sums_total_47 rfl (lv_at hl 3 rfl) ?_
          refine q_get (C := "KateDesk$Sums") (T := T_Sums) (N := 4) (ci := 4) E ((hk.su hK hsu).1) in_Sums rfl 2 (by decide) w_249 rfl rfl d_Sums_total_48 ?_
          refine lv_iload hx hb d_Sums_total_51 (lv_at hl 0 rfl) ?_
          refine q_aald (t := 5) E rfl rfl ((hk.su hK hsu).2.2.2.2.2.1) i rfl (by omega) (by decide) d_Sums_total_53 ?_
          refine lv_iload hx hb d_Sums_total_54 (lv_at hl 1 rfl) ?_
          refine q_bald E (hdz i (by omega)) k rfl (by omega) (by decide) d_Sums_total_56 ?_
          refine lv_istore (lv' := [(6, .int 0), (5, .int (nI i)), (4, .int (nI k)), (3, .int (nI 0)), (0, .ref o), (1, .ref t), (2, .int (nI n))]) hx hb d_Sums_total_57 hl (by decide) rfl (fun ls hl => ?_)
          refine lv_iload hx hb d_Sums_total_59 (lv_at hl 0 rfl) ?_
          refine lv_if_eq (tgt := 108) hx hb d_Sums_total_61 (by decide) (fun _ => ?_) (fun h9 => absurd (by decide) h9)
          refine lv_iinc (k := 1) (v := nI (i + 1)) (lv' := [(5, .int (nI (i + 1))), (6, .int 0), (4, .int (nI k)), (3, .int (nI 0)), (0, .ref o), (1, .ref t), (2, .int (nI n))]) hx hb d_Sums_total_108 hl rfl (i_inc i) (by decide) rfl (fun ls hl => ?_)
          refine lv_goto (tgt := 41) hx hb d_Sums_total_111 (by decide) ?_
          have hl : lv_has ls 7 [(5, .int (nI (i + 1))), (4, .int (nI k)), (3, .int (nI 0)), (0, .ref o), (1, .ref t), (2, .int (nI n))] := lv_sub hl [0, 2, 3, 4, 5, 6] rfl
          exact ih2 (i + 1) ls (by omega) hl
      exact inner n 0 ls (by omega) hl
  exact loop 257 ls _ (by decide) (by decide) hl
end
section
/-- the polynomials: the field, seven rows, 16 rows more -/
def PO (g : WG) (n0 : Nat → Prop) (H : Heap) (o fo vl : Nat) (F : Nat → Nat) (mi : Int64) (Y V : Nat → Nat) : Prop :=
  OB g H o 7 [.ref fo, .ref (Y 0), .ref (Y 1), .ref (Y 2), .ref (Y 3), .ref (Y 4), .ref (Y 5), .ref (Y 6), .ref vl] ∧ FD g n0 H fo F mi ∧ (∀ k, k < 7 → J14 g n0 H (Y k)) ∧ AR g.2.2.2.2.2.1 H vl 16 V ∧ ∀ k, k < 16 → J14 g n0 H (V k)
theorem KJ.po {g : WG} {S : Nat → Prop} {n0 : Nat → Prop} {H H' : Heap} {U : State} (h : KJ g S H H') (hK : KW g U) {o fo vl : Nat} {F : Nat → Nat} {mi : Int64} {Y V : Nat → Nat} (hf : PO g n0 H o fo vl F mi Y V) : PO g n0 H' o fo vl F mi Y V :=
  ⟨h.ob hK hf.1, h.fd hK hf.2.1, fun k hk => h.j (hf.2.2.1 k hk), h.arJ hK hf.2.2.2.1, fun k hk => h.j (hf.2.2.2.2 k hk)⟩
/-- rows of scalars -/
def RS (g : WG) (n0 : Nat → Prop) (H : Heap) (o N : Nat) (Sc : Nat → Nat) : Prop := AR g.2.2.2.2.2.1 H o N Sc ∧ ∀ k, k < N → J14 g n0 H (Sc k)
theorem KJ.rs {g : WG} {S : Nat → Prop} {n0 : Nat → Prop} {H H' : Heap} {U : State} (h : KJ g S H H') (hK : KW g U) {o N : Nat} {Sc : Nat → Nat} (hf : RS g n0 H o N Sc) : RS g n0 H' o N Sc := ⟨h.arJ hK hf.1, fun k hk => h.j (hf.2 k hk)⟩
theorem sh1 : ∀ k, k < 5 → nI 1 <<< (nI k &&& 31) = nI (2 ^ k) := by decide
theorem pw16 {k : Nat} (h : k < 5) : 1 ≤ 2 ^ k ∧ 2 ^ k ≤ 16 := by
  rcases (show k = 0 ∨ k = 1 ∨ k = 2 ∨ k = 3 ∨ k = 4 by omega) with rfl | rfl | rfl | rfl | rfl <;> decide
theorem pwm {k : Nat} (h : k < 5) : (nI (2 ^ k - 1)).toBitVec.toNat = 2 ^ k - 1 := by
  rcases (show k = 0 ∨ k = 1 ∨ k = 2 ∨ k = 3 ∨ k = 4 by omega) with rfl | rfl | rfl | rfl | rfl <;> decide
theorem dn_lt {a : Nat} (h : a < 2 ^ 30) : nI (a + 0) - 1 < nI a := by
  cases a with
  | zero => decide
  | succ a => rw [Nat.add_zero, nI_pred]; exact nI_lt (Nat.lt_succ_self a) (by omega)
abbrev y_Polys_rootExponent : MethodName := ⟨"KateDesk$Polynomials", "rootExponent", "(I)V"⟩
theorem hd_Polys_rootExponent : y_Polys_rootExponent.cls ≠ "java/lang/invoke/MethodHandle" ∧ y_Polys_rootExponent.cls ≠ "java/lang/invoke/VarHandle" ∧ (parseMethodDescriptor y_Polys_rootExponent.desc).map (fun d => d.parameters.length) = some 1 := by decide +kernel
theorem d_Polys_rootExponent_0 : decode prog_7_method_3_code 0 = .ok (.aload_n 0, 1) := by decide +kernel
theorem d_Polys_rootExponent_1 : decode prog_7_method_3_code 1 = .ok (.getfield 38, 3) := by decide +kernel
theorem d_Polys_rootExponent_4 : decode prog_7_method_3_code 4 = .ok (.aload_n 0, 1) := by decide +kernel
theorem d_Polys_rootExponent_5 : decode prog_7_method_3_code 5 = .ok (.getfield 30, 3) := by decide +kernel
theorem d_Polys_rootExponent_8 : decode prog_7_method_3_code 8 = .ok (.aload_n 0, 1) := by decide +kernel
theorem d_Polys_rootExponent_9 : decode prog_7_method_3_code 9 = .ok (.getfield 15, 3) := by decide +kernel
theorem d_Polys_rootExponent_12 : decode prog_7_method_3_code 12 = .ok (.invokevirtual 58, 3) := by decide +kernel
theorem d_Polys_rootExponent_15 : decode prog_7_method_3_code 15 = .ok (.aload_n 0, 1) := by decide +kernel
theorem d_Polys_rootExponent_16 : decode prog_7_method_3_code 16 = .ok (.getfield 18, 3) := by decide +kernel
theorem d_Polys_rootExponent_19 : decode prog_7_method_3_code 19 = .ok (.aload_n 0, 1) := by decide +kernel
theorem d_Polys_rootExponent_20 : decode prog_7_method_3_code 20 = .ok (.getfield 30, 3) := by decide +kernel
theorem d_Polys_rootExponent_23 : decode prog_7_method_3_code 23 = .ok (.iload_n 1, 1) := by decide +kernel
theorem d_Polys_rootExponent_24 : decode prog_7_method_3_code 24 = .ok (.invokestatic 61, 3) := by decide +kernel
theorem d_Polys_rootExponent_27 : decode prog_7_method_3_code 27 = .ok (.return_, 1) := by decide +kernel
abbrev y_Polys_liftedRoot : MethodName := ⟨"KateDesk$Polynomials", "liftedRoot", "([JI)V"⟩
theorem hd_Polys_liftedRoot : y_Polys_liftedRoot.cls ≠ "java/lang/invoke/MethodHandle" ∧ y_Polys_liftedRoot.cls ≠ "java/lang/invoke/VarHandle" ∧ (parseMethodDescriptor y_Polys_liftedRoot.desc).map (fun d => d.parameters.length) = some 2 := by decide +kernel
theorem d_Polys_liftedRoot_0 : decode prog_7_method_2_code 0 = .ok (.aload_n 0, 1) := by decide +kernel
theorem d_Polys_liftedRoot_1 : decode prog_7_method_2_code 1 = .ok (.iload_n 2, 1) := by decide +kernel
theorem d_Polys_liftedRoot_2 : decode prog_7_method_2_code 2 = .ok (.invokevirtual 50, 3) := by decide +kernel
theorem d_Polys_liftedRoot_5 : decode prog_7_method_2_code 5 = .ok (.aload_n 0, 1) := by decide +kernel
theorem d_Polys_liftedRoot_6 : decode prog_7_method_2_code 6 = .ok (.getfield 38, 3) := by decide +kernel
theorem d_Polys_liftedRoot_9 : decode prog_7_method_2_code 9 = .ok (.aload_n 1, 1) := by decide +kernel
theorem d_Polys_liftedRoot_10 : decode prog_7_method_2_code 10 = .ok (.aload_n 0, 1) := by decide +kernel
theorem d_Polys_liftedRoot_11 : decode prog_7_method_2_code 11 = .ok (.getfield 9, 3) := by decide +kernel
theorem d_Polys_liftedRoot_14 : decode prog_7_method_2_code 14 = .ok (.aload_n 0, 1) := by decide +kernel
theorem d_Polys_liftedRoot_15 : decode prog_7_method_2_code 15 = .ok (.getfield 18, 3) := by decide +kernel
theorem d_Polys_liftedRoot_18 : decode prog_7_method_2_code 18 = .ok (.invokevirtual 54, 3) := by decide +kernel
theorem d_Polys_liftedRoot_21 : decode prog_7_method_2_code 21 = .ok (.return_, 1) := by decide +kernel
abbrev y_Polys_findShare : MethodName := ⟨"KateDesk$Polynomials", "findShare", "(I)V"⟩
theorem hd_Polys_findShare : y_Polys_findShare.cls ≠ "java/lang/invoke/MethodHandle" ∧ y_Polys_findShare.cls ≠ "java/lang/invoke/VarHandle" ∧ (parseMethodDescriptor y_Polys_findShare.desc).map (fun d => d.parameters.length) = some 1 := by decide +kernel
theorem d_Polys_findShare_0 : decode prog_7_method_4_code 0 = .ok (.aload_n 0, 1) := by decide +kernel
theorem d_Polys_findShare_1 : decode prog_7_method_4_code 1 = .ok (.iload_n 1, 1) := by decide +kernel
theorem d_Polys_findShare_2 : decode prog_7_method_4_code 2 = .ok (.invokevirtual 50, 3) := by decide +kernel
theorem d_Polys_findShare_5 : decode prog_7_method_4_code 5 = .ok (.aload_n 0, 1) := by decide +kernel
theorem d_Polys_findShare_6 : decode prog_7_method_4_code 6 = .ok (.getfield 38, 3) := by decide +kernel
theorem d_Polys_findShare_9 : decode prog_7_method_4_code 9 = .ok (.aload_n 0, 1) := by decide +kernel
theorem d_Polys_findShare_10 : decode prog_7_method_4_code 10 = .ok (.getfield 27, 3) := by decide +kernel
theorem d_Polys_findShare_13 : decode prog_7_method_4_code 13 = .ok (.aload_n 0, 1) := by decide +kernel
theorem d_Polys_findShare_14 : decode prog_7_method_4_code 14 = .ok (.getfield 18, 3) := by decide +kernel
theorem d_Polys_findShare_17 : decode prog_7_method_4_code 17 = .ok (.invokevirtual 58, 3) := by decide +kernel
theorem d_Polys_findShare_20 : decode prog_7_method_4_code 20 = .ok (.aload_n 0, 1) := by decide +kernel
theorem d_Polys_findShare_21 : decode prog_7_method_4_code 21 = .ok (.getfield 38, 3) := by decide +kernel
theorem d_Polys_findShare_24 : decode prog_7_method_4_code 24 = .ok (.aload_n 0, 1) := by decide +kernel
theorem d_Polys_findShare_25 : decode prog_7_method_4_code 25 = .ok (.getfield 27, 3) := by decide +kernel
theorem d_Polys_findShare_28 : decode prog_7_method_4_code 28 = .ok (.aload_n 0, 1) := by decide +kernel
theorem d_Polys_findShare_29 : decode prog_7_method_4_code 29 = .ok (.getfield 27, 3) := by decide +kernel
theorem d_Polys_findShare_32 : decode prog_7_method_4_code 32 = .ok (.invokevirtual 44, 3) := by decide +kernel
theorem d_Polys_findShare_35 : decode prog_7_method_4_code 35 = .ok (.return_, 1) := by decide +kernel
abbrev y_Polys_divide : MethodName := ⟨"KateDesk$Polynomials", "divide", "([J[[JII[J)V"⟩
theorem hd_Polys_divide : y_Polys_divide.cls ≠ "java/lang/invoke/MethodHandle" ∧ y_Polys_divide.cls ≠ "java/lang/invoke/VarHandle" ∧ (parseMethodDescriptor y_Polys_divide.desc).map (fun d => d.parameters.length) = some 5 := by decide +kernel
theorem d_Polys_divide_0 : decode prog_7_method_5_code 0 = .ok (.aload_n 1, 1) := by decide +kernel
theorem d_Polys_divide_1 : decode prog_7_method_5_code 1 = .ok (.invokestatic 65, 3) := by decide +kernel
theorem d_Polys_divide_4 : decode prog_7_method_5_code 4 = .ok (.iload_n 3, 1) := by decide +kernel
theorem d_Polys_divide_5 : decode prog_7_method_5_code 5 = .ok (.iload 4, 2) := by decide +kernel
theorem d_Polys_divide_7 : decode prog_7_method_5_code 7 = .ok (.iadd, 1) := by decide +kernel
theorem d_Polys_divide_8 : decode prog_7_method_5_code 8 = .ok (.iconst 1, 1) := by decide +kernel
theorem d_Polys_divide_9 : decode prog_7_method_5_code 9 = .ok (.isub, 1) := by decide +kernel
theorem d_Polys_divide_10 : decode prog_7_method_5_code 10 = .ok (.istore 6, 2) := by decide +kernel
theorem d_Polys_divide_12 : decode prog_7_method_5_code 12 = .ok (.iload 6, 2) := by decide +kernel
theorem d_Polys_divide_14 : decode prog_7_method_5_code 14 = .ok (.iload_n 3, 1) := by decide +kernel
theorem d_Polys_divide_15 : decode prog_7_method_5_code 15 = .ok (.if_icmp .lt 58, 3) := by decide +kernel
theorem d_Polys_divide_18 : decode prog_7_method_5_code 18 = .ok (.aload_n 0, 1) := by decide +kernel
theorem d_Polys_divide_19 : decode prog_7_method_5_code 19 = .ok (.getfield 38, 3) := by decide +kernel
theorem d_Polys_divide_22 : decode prog_7_method_5_code 22 = .ok (.aload_n 0, 1) := by decide +kernel
theorem d_Polys_divide_23 : decode prog_7_method_5_code 23 = .ok (.getfield 30, 3) := by decide +kernel
theorem d_Polys_divide_26 : decode prog_7_method_5_code 26 = .ok (.aload_n 1, 1) := by decide +kernel
theorem d_Polys_divide_27 : decode prog_7_method_5_code 27 = .ok (.aload 5, 2) := by decide +kernel
theorem d_Polys_divide_29 : decode prog_7_method_5_code 29 = .ok (.invokevirtual 69, 3) := by decide +kernel
theorem d_Polys_divide_32 : decode prog_7_method_5_code 32 = .ok (.aload_n 0, 1) := by decide +kernel
theorem d_Polys_divide_33 : decode prog_7_method_5_code 33 = .ok (.getfield 38, 3) := by decide +kernel
theorem d_Polys_divide_36 : decode prog_7_method_5_code 36 = .ok (.aload_n 0, 1) := by decide +kernel
theorem d_Polys_divide_37 : decode prog_7_method_5_code 37 = .ok (.getfield 30, 3) := by decide +kernel
theorem d_Polys_divide_40 : decode prog_7_method_5_code 40 = .ok (.aload_n 0, 1) := by decide +kernel
theorem d_Polys_divide_41 : decode prog_7_method_5_code 41 = .ok (.getfield 30, 3) := by decide +kernel
theorem d_Polys_divide_44 : decode prog_7_method_5_code 44 = .ok (.aload_n 2, 1) := by decide +kernel
theorem d_Polys_divide_45 : decode prog_7_method_5_code 45 = .ok (.iload 6, 2) := by decide +kernel
theorem d_Polys_divide_47 : decode prog_7_method_5_code 47 = .ok (.aaload, 1) := by decide +kernel
theorem d_Polys_divide_48 : decode prog_7_method_5_code 48 = .ok (.invokevirtual 72, 3) := by decide +kernel
theorem d_Polys_divide_51 : decode prog_7_method_5_code 51 = .ok (.aload_n 2, 1) := by decide +kernel
theorem d_Polys_divide_52 : decode prog_7_method_5_code 52 = .ok (.iload 6, 2) := by decide +kernel
theorem d_Polys_divide_54 : decode prog_7_method_5_code 54 = .ok (.aaload, 1) := by decide +kernel
theorem d_Polys_divide_55 : decode prog_7_method_5_code 55 = .ok (.aload_n 1, 1) := by decide +kernel
theorem d_Polys_divide_56 : decode prog_7_method_5_code 56 = .ok (.invokestatic 75, 3) := by decide +kernel
theorem d_Polys_divide_59 : decode prog_7_method_5_code 59 = .ok (.aload_n 1, 1) := by decide +kernel
theorem d_Polys_divide_60 : decode prog_7_method_5_code 60 = .ok (.aload_n 0, 1) := by decide +kernel
theorem d_Polys_divide_61 : decode prog_7_method_5_code 61 = .ok (.getfield 30, 3) := by decide +kernel
theorem d_Polys_divide_64 : decode prog_7_method_5_code 64 = .ok (.invokestatic 75, 3) := by decide +kernel
theorem d_Polys_divide_67 : decode prog_7_method_5_code 67 = .ok (.iinc 6 (-1), 3) := by decide +kernel
theorem d_Polys_divide_70 : decode prog_7_method_5_code 70 = .ok (.goto (-58), 3) := by decide +kernel
theorem d_Polys_divide_73 : decode prog_7_method_5_code 73 = .ok (.return_, 1) := by decide +kernel
abbrev y_Polys_findValues : MethodName := ⟨"KateDesk$Polynomials", "findValues", "([[JII)V"⟩
theorem hd_Polys_findValues : y_Polys_findValues.cls ≠ "java/lang/invoke/MethodHandle" ∧ y_Polys_findValues.cls ≠ "java/lang/invoke/VarHandle" ∧ (parseMethodDescriptor y_Polys_findValues.desc).map (fun d => d.parameters.length) = some 3 := by decide +kernel
theorem d_Polys_findValues_0 : decode prog_7_method_8_code 0 = .ok (.iconst 1, 1) := by decide +kernel
theorem d_Polys_findValues_1 : decode prog_7_method_8_code 1 = .ok (.iload_n 3, 1) := by decide +kernel
theorem d_Polys_findValues_2 : decode prog_7_method_8_code 2 = .ok (.ishl, 1) := by decide +kernel
theorem d_Polys_findValues_3 : decode prog_7_method_8_code 3 = .ok (.istore 4, 2) := by decide +kernel
theorem d_Polys_findValues_5 : decode prog_7_method_8_code 5 = .ok (.aload_n 0, 1) := by decide +kernel
theorem d_Polys_findValues_6 : decode prog_7_method_8_code 6 = .ok (.aload_n 0, 1) := by decide +kernel
theorem d_Polys_findValues_7 : decode prog_7_method_8_code 7 = .ok (.getfield 21, 3) := by decide +kernel
theorem d_Polys_findValues_10 : decode prog_7_method_8_code 10 = .ok (.iload_n 3, 1) := by decide +kernel
theorem d_Polys_findValues_11 : decode prog_7_method_8_code 11 = .ok (.invokevirtual 85, 3) := by decide +kernel
theorem d_Polys_findValues_14 : decode prog_7_method_8_code 14 = .ok (.aload_n 0, 1) := by decide +kernel
theorem d_Polys_findValues_15 : decode prog_7_method_8_code 15 = .ok (.getfield 24, 3) := by decide +kernel
theorem d_Polys_findValues_18 : decode prog_7_method_8_code 18 = .ok (.aload_n 0, 1) := by decide +kernel
theorem d_Polys_findValues_19 : decode prog_7_method_8_code 19 = .ok (.getfield 38, 3) := by decide +kernel
theorem d_Polys_findValues_22 : decode prog_7_method_8_code 22 = .ok (.getfield 89, 3) := by decide +kernel
theorem d_Polys_findValues_25 : decode prog_7_method_8_code 25 = .ok (.invokestatic 75, 3) := by decide +kernel
theorem d_Polys_findValues_28 : decode prog_7_method_8_code 28 = .ok (.iconst 0, 1) := by decide +kernel
theorem d_Polys_findValues_29 : decode prog_7_method_8_code 29 = .ok (.istore 5, 2) := by decide +kernel
theorem d_Polys_findValues_31 : decode prog_7_method_8_code 31 = .ok (.iload 5, 2) := by decide +kernel
theorem d_Polys_findValues_33 : decode prog_7_method_8_code 33 = .ok (.iload 4, 2) := by decide +kernel
theorem d_Polys_findValues_35 : decode prog_7_method_8_code 35 = .ok (.if_icmp .ge 115, 3) := by decide +kernel
theorem d_Polys_findValues_38 : decode prog_7_method_8_code 38 = .ok (.iload 5, 2) := by decide +kernel
theorem d_Polys_findValues_40 : decode prog_7_method_8_code 40 = .ok (.bipush 16, 2) := by decide +kernel
theorem d_Polys_findValues_42 : decode prog_7_method_8_code 42 = .ok (.if_icmp .ge 108, 3) := by decide +kernel
theorem d_Polys_findValues_45 : decode prog_7_method_8_code 45 = .ok (.aload_n 0, 1) := by decide +kernel
theorem d_Polys_findValues_46 : decode prog_7_method_8_code 46 = .ok (.getfield 35, 3) := by decide +kernel
theorem d_Polys_findValues_49 : decode prog_7_method_8_code 49 = .ok (.iload 5, 2) := by decide +kernel
theorem d_Polys_findValues_51 : decode prog_7_method_8_code 51 = .ok (.aaload, 1) := by decide +kernel
theorem d_Polys_findValues_52 : decode prog_7_method_8_code 52 = .ok (.invokestatic 65, 3) := by decide +kernel
theorem d_Polys_findValues_55 : decode prog_7_method_8_code 55 = .ok (.iload_n 2, 1) := by decide +kernel
theorem d_Polys_findValues_56 : decode prog_7_method_8_code 56 = .ok (.iload 4, 2) := by decide +kernel
theorem d_Polys_findValues_58 : decode prog_7_method_8_code 58 = .ok (.iadd, 1) := by decide +kernel
theorem d_Polys_findValues_59 : decode prog_7_method_8_code 59 = .ok (.iconst 1, 1) := by decide +kernel
theorem d_Polys_findValues_60 : decode prog_7_method_8_code 60 = .ok (.isub, 1) := by decide +kernel
theorem d_Polys_findValues_61 : decode prog_7_method_8_code 61 = .ok (.istore 6, 2) := by decide +kernel
theorem d_Polys_findValues_63 : decode prog_7_method_8_code 63 = .ok (.iload 6, 2) := by decide +kernel
theorem d_Polys_findValues_65 : decode prog_7_method_8_code 65 = .ok (.iload_n 2, 1) := by decide +kernel
theorem d_Polys_findValues_66 : decode prog_7_method_8_code 66 = .ok (.if_icmp .lt 59, 3) := by decide +kernel
theorem d_Polys_findValues_69 : decode prog_7_method_8_code 69 = .ok (.aload_n 0, 1) := by decide +kernel
theorem d_Polys_findValues_70 : decode prog_7_method_8_code 70 = .ok (.getfield 38, 3) := by decide +kernel
theorem d_Polys_findValues_73 : decode prog_7_method_8_code 73 = .ok (.aload_n 0, 1) := by decide +kernel
theorem d_Polys_findValues_74 : decode prog_7_method_8_code 74 = .ok (.getfield 35, 3) := by decide +kernel
theorem d_Polys_findValues_77 : decode prog_7_method_8_code 77 = .ok (.iload 5, 2) := by decide +kernel
theorem d_Polys_findValues_79 : decode prog_7_method_8_code 79 = .ok (.aaload, 1) := by decide +kernel
theorem d_Polys_findValues_80 : decode prog_7_method_8_code 80 = .ok (.aload_n 0, 1) := by decide +kernel
theorem d_Polys_findValues_81 : decode prog_7_method_8_code 81 = .ok (.getfield 35, 3) := by decide +kernel
theorem d_Polys_findValues_84 : decode prog_7_method_8_code 84 = .ok (.iload 5, 2) := by decide +kernel
theorem d_Polys_findValues_86 : decode prog_7_method_8_code 86 = .ok (.aaload, 1) := by decide +kernel
theorem d_Polys_findValues_87 : decode prog_7_method_8_code 87 = .ok (.aload_n 0, 1) := by decide +kernel
theorem d_Polys_findValues_88 : decode prog_7_method_8_code 88 = .ok (.getfield 24, 3) := by decide +kernel
theorem d_Polys_findValues_91 : decode prog_7_method_8_code 91 = .ok (.invokevirtual 69, 3) := by decide +kernel
theorem d_Polys_findValues_94 : decode prog_7_method_8_code 94 = .ok (.aload_n 0, 1) := by decide +kernel
theorem d_Polys_findValues_95 : decode prog_7_method_8_code 95 = .ok (.getfield 38, 3) := by decide +kernel
theorem d_Polys_findValues_98 : decode prog_7_method_8_code 98 = .ok (.aload_n 0, 1) := by decide +kernel
theorem d_Polys_findValues_99 : decode prog_7_method_8_code 99 = .ok (.getfield 35, 3) := by decide +kernel
theorem d_Polys_findValues_102 : decode prog_7_method_8_code 102 = .ok (.iload 5, 2) := by decide +kernel
theorem d_Polys_findValues_104 : decode prog_7_method_8_code 104 = .ok (.aaload, 1) := by decide +kernel
theorem d_Polys_findValues_105 : decode prog_7_method_8_code 105 = .ok (.aload_n 0, 1) := by decide +kernel
theorem d_Polys_findValues_106 : decode prog_7_method_8_code 106 = .ok (.getfield 35, 3) := by decide +kernel
theorem d_Polys_findValues_109 : decode prog_7_method_8_code 109 = .ok (.iload 5, 2) := by decide +kernel
theorem d_Polys_findValues_111 : decode prog_7_method_8_code 111 = .ok (.aaload, 1) := by decide +kernel
theorem d_Polys_findValues_112 : decode prog_7_method_8_code 112 = .ok (.aload_n 1, 1) := by decide +kernel
theorem d_Polys_findValues_113 : decode prog_7_method_8_code 113 = .ok (.iload 6, 2) := by decide +kernel
theorem d_Polys_findValues_115 : decode prog_7_method_8_code 115 = .ok (.aaload, 1) := by decide +kernel
theorem d_Polys_findValues_116 : decode prog_7_method_8_code 116 = .ok (.invokevirtual 72, 3) := by decide +kernel
theorem d_Polys_findValues_119 : decode prog_7_method_8_code 119 = .ok (.iinc 6 (-1), 3) := by decide +kernel
theorem d_Polys_findValues_122 : decode prog_7_method_8_code 122 = .ok (.goto (-59), 3) := by decide +kernel
theorem d_Polys_findValues_125 : decode prog_7_method_8_code 125 = .ok (.aload_n 0, 1) := by decide +kernel
theorem d_Polys_findValues_126 : decode prog_7_method_8_code 126 = .ok (.getfield 38, 3) := by decide +kernel
theorem d_Polys_findValues_129 : decode prog_7_method_8_code 129 = .ok (.aload_n 0, 1) := by decide +kernel
theorem d_Polys_findValues_130 : decode prog_7_method_8_code 130 = .ok (.getfield 24, 3) := by decide +kernel
theorem d_Polys_findValues_133 : decode prog_7_method_8_code 133 = .ok (.aload_n 0, 1) := by decide +kernel
theorem d_Polys_findValues_134 : decode prog_7_method_8_code 134 = .ok (.getfield 24, 3) := by decide +kernel
theorem d_Polys_findValues_137 : decode prog_7_method_8_code 137 = .ok (.aload_n 0, 1) := by decide +kernel
theorem d_Polys_findValues_138 : decode prog_7_method_8_code 138 = .ok (.getfield 21, 3) := by decide +kernel
theorem d_Polys_findValues_141 : decode prog_7_method_8_code 141 = .ok (.invokevirtual 69, 3) := by decide +kernel
theorem d_Polys_findValues_144 : decode prog_7_method_8_code 144 = .ok (.iinc 5 1, 3) := by decide +kernel
theorem d_Polys_findValues_147 : decode prog_7_method_8_code 147 = .ok (.goto (-116), 3) := by decide +kernel
theorem d_Polys_findValues_150 : decode prog_7_method_8_code 150 = .ok (.return_, 1) := by decide +kernel
set_option maxHeartbeats 4000000 in
set_option maxRecDepth 100000 in
theorem c_Polys_rootExponent (l : Launch) (g : WG) (n0 : Nat → Prop) (o fo vl : Nat) (F : Nat → Nat) (mi : Int64) (Y V : Nat → Nat) (k : Int32) : Ctr l y_Polys_rootExponent (.code y_Polys_rootExponent prog_7_method_3_code 2 none) 3 66 0 0 n0 g [.ref o, .int k] (fun H => PO g n0 H o fo vl F mi Y V) (QV (fun H H' => KJ g (fun q => n0 q) H H')) := by
  refine ctr_mk l (lv0 := [(0, .ref o), (1, .int k)]) (by decide) (Nat.le_of_ble_eq_true rfl) rfl ?_
  intro p e s m below meth c ls E hr hlk hnm hl hpo
  have hx := E.1
  have hb := E.2.1
  have hK := E.2.2.2.2.2
  have hF : ∀ q ∈ ([] : List Loc), n0 q.base := fun q hq => absurd hq List.not_mem_nil
  have hk : KJ g (fun q => n0 q) s.heap s.heap := KJ.rf
  refine lv_aload_n hx hb d_Polys_rootExponent_0 rfl (lv_at hl 0 rfl) ?_
  refine q_get (C := "KateDesk$Polynomials") (T := T_Polys) (N := 9) (ci := 7) E ((hk.po hK hpo).1) in_Polys rfl 0 (by decide) w_303 rfl rfl d_Polys_rootExponent_1 ?_
  refine lv_aload_n hx hb d_Polys_rootExponent_4 rfl (lv_at hl 0 rfl) ?_
  refine q_get (C := "KateDesk$Polynomials") (T := T_Polys) (N := 9) (ci := 7) E ((hk.po hK hpo).1) in_Polys rfl 7 (by decide) w_310 rfl rfl d_Polys_rootExponent_5 ?_
  refine lv_aload_n hx hb d_Polys_rootExponent_8 rfl (lv_at hl 0 rfl) ?_
  refine q_get (C := "KateDesk$Polynomials") (T := T_Polys) (N := 9) (ci := 7) E ((hk.po hK hpo).1) in_Polys rfl 2 (by decide) w_305 rfl rfl d_Polys_rootExponent_9 ?_
  refine q_cV (rest := []) E (c_Field_negate l g n0 fo (Y 6) (Y 1) F mi) w_609 w_4 w_606 w_607 w_608 hd_Field_negate rfl ⟨by decide, by decide⟩ (OB.recv E.2.2.2.2.2 (by rfl) (((hk.po hK hpo).2.1).1)) (⟨(hk.po hK hpo).2.1, (hk.po hK hpo).2.2.1 6 (by decide), (hk.po hK hpo).2.2.1 1 (by decide)⟩) hF hl.1 rfl (Nat.le_of_ble_eq_true rfl) d_Polys_rootExponent_12 ⟨by decide, by decide⟩ (qv (fun H1 locs hq hF => ?_))
  have hk := hk.tr (hq.w2 ((hk.po hK hpo).2.2.1 6 (by decide)).1 ((hk.po hK hpo).2.1.2 5 (by decide)).1)
  refine lv_aload_n hx hb d_Polys_rootExponent_15 rfl (lv_at hl 0 rfl) ?_
  refine q_get (C := "KateDesk$Polynomials") (T := T_Polys) (N := 9) (ci := 7) E ((hk.po hK hpo).1) in_Polys rfl 3 (by decide) w_306 rfl rfl d_Polys_rootExponent_16 ?_
  refine lv_aload_n hx hb d_Polys_rootExponent_19 rfl (lv_at hl 0 rfl) ?_
  refine q_get (C := "KateDesk$Polynomials") (T := T_Polys) (N := 9) (ci := 7) E ((hk.po hK hpo).1) in_Polys rfl 7 (by decide) w_310 rfl rfl d_Polys_rootExponent_20 ?_
  refine lv_iload_n hx hb d_Polys_rootExponent_23 rfl (lv_at hl 1 rfl) ?_
  refine q_cS (rest := []) E (c_Limbs_shiftRight l g n0 (Y 2) (Y 6) k) w_268 w_5 w_611 w_267 hd_Limbs_shiftRight rfl ⟨by decide, by decide⟩ (⟨(hk.po hK hpo).2.2.1 2 (by decide), (hk.po hK hpo).2.2.1 6 (by decide)⟩) hF hl.1 rfl (Nat.le_of_ble_eq_true rfl) d_Polys_rootExponent_24 ⟨by decide, by decide⟩ (qv (fun H2 locs hq hF => ?_))
  have hk := hk.tr (hq.w1 ((hk.po hK hpo).2.2.1 2 (by decide)).1)
  exact q_vret E hr hlk (⟨rfl, hk⟩) hF d_Polys_rootExponent_27
set_option maxHeartbeats 4000000 in
set_option maxRecDepth 100000 in
theorem c_Polys_liftedRoot (l : Launch) (g : WG) (n0 : Nat → Prop) (o fo vl : Nat) (F : Nat → Nat) (mi : Int64) (Y V : Nat → Nat) (t : Nat) (k : Int32) : Ctr l y_Polys_liftedRoot (.code y_Polys_liftedRoot prog_7_method_2_code 3 none) 4 160 0 0 n0 g [.ref o, .ref t, .int k] (fun H => PO g n0 H o fo vl F mi Y V ∧ J14 g n0 H t) (QV (fun H H' => KJ g (fun q => n0 q) H H')) := by
  refine ctr_mk l (lv0 := [(0, .ref o), (1, .ref t), (2, .int k)]) (by decide) (Nat.le_of_ble_eq_true rfl) rfl ?_
  intro p e s m below meth c ls E hr hlk hnm hl hP
  have hx := E.1
  have hb := E.2.1
  have hK := E.2.2.2.2.2
  have hF : ∀ q ∈ ([] : List Loc), n0 q.base := fun q hq => absurd hq List.not_mem_nil
  obtain ⟨hpo, ht⟩ := hP
  have hk : KJ g (fun q => n0 q) s.heap s.heap := KJ.rf
  refine lv_aload_n hx hb d_Polys_liftedRoot_0 rfl (lv_at hl 0 rfl) ?_
  refine lv_iload_n hx hb d_Polys_liftedRoot_1 rfl (lv_at hl 2 rfl) ?_
  refine q_cV (rest := []) E (c_Polys_rootExponent l g n0 o fo vl F mi Y V k) w_605 w_14 w_602 w_604 (bw_s 3 rfl) hd_Polys_rootExponent rfl ⟨by decide, by decide⟩ (OB.recv E.2.2.2.2.2 (by rfl) ((hk.po hK hpo).1)) (hk.po hK hpo) hF hl.1 rfl (Nat.le_of_ble_eq_true rfl) d_Polys_liftedRoot_2 ⟨by decide, by decide⟩ (qv (fun H1 locs hq hF => ?_))
  have hk := hk.tr hq
  refine lv_aload_n hx hb d_Polys_liftedRoot_5 rfl (lv_at hl 0 rfl) ?_
  refine q_get (C := "KateDesk$Polynomials") (T := T_Polys) (N := 9) (ci := 7) E ((hk.po hK hpo).1) in_Polys rfl 0 (by decide) w_303 rfl rfl d_Polys_liftedRoot_6 ?_
  refine lv_aload_n hx hb d_Polys_liftedRoot_9 rfl (lv_at hl 1 rfl) ?_
  refine lv_aload_n hx hb d_Polys_liftedRoot_10 rfl (lv_at hl 0 rfl) ?_
  refine q_get (C := "KateDesk$Polynomials") (T := T_Polys) (N := 9) (ci := 7) E ((hk.po hK hpo).1) in_Polys rfl 1 (by decide) w_304 rfl rfl d_Polys_liftedRoot_11 ?_
  refine lv_aload_n hx hb d_Polys_liftedRoot_14 rfl (lv_at hl 0 rfl) ?_
  refine q_get (C := "KateDesk$Polynomials") (T := T_Polys) (N := 9) (ci := 7) E ((hk.po hK hpo).1) in_Polys rfl 3 (by decide) w_306 rfl rfl d_Polys_liftedRoot_15 ?_
  refine q_cV (rest := []) E (c_Field_raise l g n0 fo t (Y 0) (Y 2) F mi) w_574 w_4 w_612 w_572 w_573 hd_Field_raise rfl ⟨by decide, by decide⟩ (OB.recv E.2.2.2.2.2 (by rfl) (((hk.po hK hpo).2.1).1)) (⟨(hk.po hK hpo).2.1, hk.j ht, (hk.po hK hpo).2.2.1 0 (by decide), (hk.po hK hpo).2.2.1 2 (by decide)⟩) hF hl.1 rfl (Nat.le_of_ble_eq_true rfl) d_Polys_liftedRoot_18 ⟨by decide, by decide⟩ (qv (fun H2 locs hq hF => ?_))
  have hk := hk.tr (hq.w2 (hk.j ht).1 ((hk.po hK hpo).2.1.2 5 (by decide)).1)
  exact q_vret E hr hlk (⟨rfl, hk⟩) hF d_Polys_liftedRoot_21
set_option maxHeartbeats 4000000 in
set_option maxRecDepth 100000 in
theorem c_Polys_findShare (l : Launch) (g : WG) (n0 : Nat → Prop) (o fo vl : Nat) (F : Nat → Nat) (mi : Int64) (Y V : Nat → Nat) (k : Int32) : Ctr l y_Polys_findShare (.code y_Polys_findShare prog_7_method_4_code 2 none) 4 157 0 0 n0 g [.ref o, .int k] (fun H => PO g n0 H o fo vl F mi Y V) (QV (fun H H' => KJ g (fun q => n0 q) H H')) := by
  refine ctr_mk l (lv0 := [(0, .ref o), (1, .int k)]) (by decide) (Nat.le_of_ble_eq_true rfl) rfl ?_
  intro p e s m below meth c ls E hr hlk hnm hl hpo
  have hx := E.1
  have hb := E.2.1
  have hK := E.2.2.2.2.2
  have hF : ∀ q ∈ ([] : List Loc), n0 q.base := fun q hq => absurd hq List.not_mem_nil
  have hk : KJ g (fun q => n0 q) s.heap s.heap := KJ.rf
  refine lv_aload_n hx hb d_Polys_findShare_0 rfl (lv_at hl 0 rfl) ?_
  refine lv_iload_n hx hb d_Polys_findShare_1 rfl (lv_at hl 1 rfl) ?_
  refine q_cV (rest := []) E (c_Polys_rootExponent l g n0 o fo vl F mi Y V k) w_605 w_14 w_602 w_604 (bw_s 3 rfl) hd_Polys_rootExponent rfl ⟨by decide, by decide⟩ (OB.recv E.2.2.2.2.2 (by rfl) ((hk.po hK hpo).1)) (hk.po hK hpo) hF hl.1 rfl (Nat.le_of_ble_eq_true rfl) d_Polys_findShare_2 ⟨by decide, by decide⟩ (qv (fun H1 locs hq hF => ?_))
  have hk := hk.tr hq
  refine lv_aload_n hx hb d_Polys_findShare_5 rfl (lv_at hl 0 rfl) ?_
  refine q_get (C := "KateDesk$Polynomials") (T := T_Polys) (N := 9) (ci := 7) E ((hk.po hK hpo).1) in_Polys rfl 0 (by decide) w_303 rfl rfl d_Polys_findShare_6 ?_
  refine lv_aload_n hx hb d_Polys_findShare_9 rfl (lv_at hl 0 rfl) ?_
  refine q_get (C := "KateDesk$Polynomials") (T := T_Polys) (N := 9) (ci := 7) E ((hk.po hK hpo).1) in_Polys rfl 6 (by decide) w_309 rfl rfl d_Polys_findShare_10 ?_
  refine lv_aload_n hx hb d_Polys_findShare_13 rfl (lv_at hl 0 rfl) ?_
  refine q_get (C := "KateDesk$Polynomials") (T := T_Polys) (N := 9) (ci := 7) E ((hk.po hK hpo).1) in_Polys rfl 3 (by decide) w_306 rfl rfl d_Polys_findShare_14 ?_
  refine q_cV (rest := []) E (c_Field_negate l g n0 fo (Y 5) (Y 2) F mi) w_609 w_4 w_606 w_607 w_608 hd_Field_negate rfl ⟨by decide, by decide⟩ (OB.recv E.2.2.2.2.2 (by rfl) (((hk.po hK hpo).2.1).1)) (⟨(hk.po hK hpo).2.1, (hk.po hK hpo).2.2.1 5 (by decide), (hk.po hK hpo).2.2.1 2 (by decide)⟩) hF hl.1 rfl (Nat.le_of_ble_eq_true rfl) d_Polys_findShare_17 ⟨by decide, by decide⟩ (qv (fun H2 locs hq hF => ?_))
  have hk := hk.tr (hq.w2 ((hk.po hK hpo).2.2.1 5 (by decide)).1 ((hk.po hK hpo).2.1.2 5 (by decide)).1)
  refine lv_aload_n hx hb d_Polys_findShare_20 rfl (lv_at hl 0 rfl) ?_
  refine q_get (C := "KateDesk$Polynomials") (T := T_Polys) (N := 9) (ci := 7) E ((hk.po hK hpo).1) in_Polys rfl 0 (by decide) w_303 rfl rfl d_Polys_findShare_21 ?_
  refine lv_aload_n hx hb d_Polys_findShare_24 rfl (lv_at hl 0 rfl) ?_
  refine q_get (C := "KateDesk$Polynomials") (T := T_Polys) (N := 9) (ci := 7) E ((hk.po hK hpo).1) in_Polys rfl 6 (by decide) w_309 rfl rfl d_Polys_findShare_25 ?_
  refine lv_aload_n hx hb d_Polys_findShare_28 rfl (lv_at hl 0 rfl) ?_
  refine q_get (C := "KateDesk$Polynomials") (T := T_Polys) (N := 9) (ci := 7) E ((hk.po hK hpo).1) in_Polys rfl 6 (by decide) w_309 rfl rfl d_Polys_findShare_29 ?_
  refine q_cV (rest := []) E (c_Field_lift l g n0 fo (Y 5) (Y 5) F mi) w_302 w_4 w_299 w_300 w_301 hd_Field_lift rfl ⟨by decide, by decide⟩ (OB.recv E.2.2.2.2.2 (by rfl) (((hk.po hK hpo).2.1).1)) (⟨(hk.po hK hpo).2.1, (hk.po hK hpo).2.2.1 5 (by decide), (hk.po hK hpo).2.2.1 5 (by decide)⟩) hF hl.1 rfl (Nat.le_of_ble_eq_true rfl) d_Polys_findShare_32 ⟨by decide, by decide⟩ (qv (fun H3 locs hq hF => ?_))
  have hk := hk.tr (hq.w1 ((hk.po hK hpo).2.2.1 5 (by decide)).1)
  exact q_vret E hr hlk (⟨rfl, hk⟩) hF d_Polys_findShare_35
set_option maxHeartbeats 4000000 in
set_option maxRecDepth 100000 in
theorem c_Polys_divide (l : Launch) (g : WG) (n0 : Nat → Prop) (o fo vl : Nat) (F : Nat → Nat) (mi : Int64) (Y V : Nat → Nat) (v rw z : Nat) (Sc : Nat → Nat) (fr n : Nat) (hfr : fr + n ≤ 32) (hn : 1 ≤ n) : Ctr l y_Polys_divide (.code y_Polys_divide prog_7_method_5_code 7 none) 2 135 0 0 n0 g [.ref o, .ref v, .ref rw, .int (nI fr), .int (nI n), .ref z] (fun H => PO g n0 H o fo vl F mi Y V ∧ J14 g n0 H v ∧ RS g n0 H rw 32 Sc ∧ J14 g n0 H z) (QV (fun H H' => KJ g (fun q => n0 q) H H')) := by
  refine ctr_mk l (lv0 := [(0, .ref o), (1, .ref v), (2, .ref rw), (3, .int (nI fr)), (4, .int (nI n)), (5, .ref z)]) (by decide) (Nat.le_of_ble_eq_true rfl) rfl ?_
  intro p e s m below meth c ls E hr hlk hnm hl hP
  have hx := E.1
  have hb := E.2.1
  have hK := E.2.2.2.2.2
  have hF : ∀ q ∈ ([] : List Loc), n0 q.base := fun q hq => absurd hq List.not_mem_nil
  obtain ⟨hpo, hv, hrs, hz⟩ := hP
  have hk : KJ g (fun q => n0 q) s.heap s.heap := KJ.rf
  refine lv_aload_n hx hb d_Polys_divide_0 rfl (lv_at hl 1 rfl) ?_
  refine q_cS (rest := []) E (c_Limbs_clear l g n0 v) w_498 w_5 w_853 w_497 hd_Limbs_clear rfl ⟨by decide, by decide⟩ (hk.j hv) hF hl.1 rfl (Nat.le_of_ble_eq_true rfl) d_Polys_divide_1 ⟨by decide, by decide⟩ (qv (fun H1 locs hq hF => ?_))
  have hq := hq.1
  have hk := hk.tr (hq.w1 (hk.j hv).1)
  refine lv_iload_n hx hb d_Polys_divide_4 rfl (lv_at hl 3 rfl) ?_
  refine lv_iload hx hb d_Polys_divide_5 (lv_at hl 4 rfl) ?_
  refine lv_iadd hx hb d_Polys_divide_7 ?_
  refine lv_iconst (v := nI 1) hx hb d_Polys_divide_8 (by decide) ?_
  refine lv_isub hx hb d_Polys_divide_9 ?_
  refine lv_topi (fun t9 e9 => ?_)
  obtain rfl : t9 = nI (fr + n - 1) := e9.trans ((congrArg (· - nI 1) (nI_add fr n)).trans (pk_sub (by omega)))
  refine lv_istore (lv' := [(6, .int (nI (fr + n - 1))), (0, .ref o), (1, .ref v), (2, .ref rw), (3, .int (nI fr)), (4, .int (nI n)), (5, .ref z)]) hx hb d_Polys_divide_10 hl (by decide) rfl (fun ls hl => ?_)
  have hl : lv_has ls 7 [(6, .int (nI (fr + n - 1))), (0, .ref o), (1, .ref v), (2, .ref rw), (3, .int (nI fr)), (5, .ref z)] := lv_sub hl [0, 1, 2, 3, 4, 6] rfl
  have loop : ∀ (k : Nat) (H : Heap) (locs : List Loc) (ls : Array Slot) (x : Int32), k ≤ n → x = nI (fr + k) - 1 → KJ g (fun q => n0 q) s.heap H → (∀ q ∈ locs, n0 q.base) → lv_has ls 7 [(6, .int x), (0, .ref o), (1, .ref v), (2, .ref rw), (3, .int (nI fr)), (5, .ref z)] → W p l e { frames := 2, cells := 0, slots := 0, locals := 135 } s m [.ref o, .ref v, .ref rw, .int (nI fr), .int (nI n), .ref z].toArray below meth c H locs 0 0 (MQ below (QcP (QV (fun H H' => KJ g (fun q => n0 q) H H'))) [.ref o, .ref v, .ref rw, .int (nI fr), .int (nI n), .ref z].toArray s 0 0 (fun q => n0 q)) (F0 m 12 ls []) := by
    intro k
    induction k with
    | zero =>
      intro  H   locs   ls   x hk0 hxx hk hF hl
      refine lv_iload hx hb d_Polys_divide_12 (lv_at hl 0 rfl) ?_
      refine lv_iload_n hx hb d_Polys_divide_14 rfl (lv_at hl 4 rfl) ?_
      refine lv_icmp_lt (tgt := 73) hx hb d_Polys_divide_15 (by decide) (fun _ => ?_) (fun h9 => absurd (by rw [hxx]; exact dn_lt (by omega)) h9)
      exact q_vret E hr hlk (⟨rfl, hk⟩) hF d_Polys_divide_73
    | succ k ih =>
      intro  H   locs   ls   x hk0 hxx hk hF hl
      have hxx : x = nI (fr + k) := hxx.trans (nI_pred _)
      subst hxx
      refine lv_iload hx hb d_Polys_divide_12 (lv_at hl 0 rfl) ?_
      refine lv_iload_n hx hb d_Polys_divide_14 rfl (lv_at hl 4 rfl) ?_
      refine lv_icmp_lt (tgt := 73) hx hb d_Polys_divide_15 (by decide) (fun h9 => absurd h9 (nI_nlt (by omega) (by omega))) (fun _ => ?_)
      refine lv_aload_n hx hb d_Polys_divide_18 rfl (lv_at hl 1 rfl) ?_
      refine q_get (C := "KateDesk$Polynomials") (T := T_Polys) (N := 9) (ci := 7) E ((hk.po hK hpo).1) in_Polys rfl 0 (by decide) w_303 rfl rfl d_Polys_divide_19 ?_
      refine lv_aload_n hx hb d_Polys_divide_22 rfl (lv_at hl 1 rfl) ?_
      refine q_get (C := "KateDesk$Polynomials") (T := T_Polys) (N := 9) (ci := 7) E ((hk.po hK hpo).1) in_Polys rfl 7 (by decide) w_310 rfl rfl d_Polys_divide_23 ?_
      refine lv_aload_n hx hb d_Polys_divide_26 rfl (lv_at hl 2 rfl) ?_
      refine lv_aload hx hb d_Polys_divide_27 (lv_at hl 5 rfl) ?_
      refine q_cV (rest := []) E (c_Field_multiply l g n0 fo (Y 6) v z F mi) w_165 w_4 w_854 w_163 w_164 hd_Field_multiply rfl ⟨by decide, by decide⟩ (OB.recv E.2.2.2.2.2 (by rfl) (((hk.po hK hpo).2.1).1)) (⟨(hk.po hK hpo).2.1, (hk.po hK hpo).2.2.1 6 (by decide), hk.j hv, hk.j hz⟩) hF hl.1 rfl (Nat.le_of_ble_eq_true rfl) d_Polys_divide_29 ⟨by decide, by decide⟩ (qv (fun H1 locs hq hF => ?_))
      have hk := hk.tr (hq.w1 ((hk.po hK hpo).2.2.1 6 (by decide)).1)
      refine lv_aload_n hx hb d_Polys_divide_32 rfl (lv_at hl 1 rfl) ?_
      refine q_get (C := "KateDesk$Polynomials") (T := T_Polys) (N := 9) (ci := 7) E ((hk.po hK hpo).1) in_Polys rfl 0 (by decide) w_303 rfl rfl d_Polys_divide_33 ?_
      refine lv_aload_n hx hb d_Polys_divide_36 rfl (lv_at hl 1 rfl) ?_
      refine q_get (C := "KateDesk$Polynomials") (T := T_Polys) (N := 9) (ci := 7) E ((hk.po hK hpo).1) in_Polys rfl 7 (by decide) w_310 rfl rfl d_Polys_divide_37 ?_
      refine lv_aload_n hx hb d_Polys_divide_40 rfl (lv_at hl 1 rfl) ?_
      refine q_get (C := "KateDesk$Polynomials") (T := T_Polys) (N := 9) (ci := 7) E ((hk.po hK hpo).1) in_Polys rfl 7 (by decide) w_310 rfl rfl d_Polys_divide_41 ?_
      refine lv_aload_n hx hb d_Polys_divide_44 rfl (lv_at hl 3 rfl) ?_
      refine lv_iload hx hb d_Polys_divide_45 (lv_at hl 0 rfl) ?_
      refine q_aald (t := 4) E rfl rfl ((hk.rs hK hrs).1) (fr + k) rfl (by omega) (by decide) d_Polys_divide_47 ?_
      refine q_cV (rest := []) E (c_Field_add l g n0 fo (Y 6) (Y 6) (Sc (fr + k)) F mi) w_157 w_4 w_855 w_155 w_156 hd_Field_add rfl ⟨by decide, by decide⟩ (OB.recv E.2.2.2.2.2 (by rfl) (((hk.po hK hpo).2.1).1)) (⟨(hk.po hK hpo).2.1, (hk.po hK hpo).2.2.1 6 (by decide), (hk.po hK hpo).2.2.1 6 (by decide), (hk.rs hK hrs).2 (fr + k) (by omega)⟩) hF hl.1 rfl (Nat.le_of_ble_eq_true rfl) d_Polys_divide_48 ⟨by decide, by decide⟩ (qv (fun H2 locs hq hF => ?_))
      have hk := hk.tr (hq.w1 ((hk.po hK hpo).2.2.1 6 (by decide)).1)
      refine lv_aload_n hx hb d_Polys_divide_51 rfl (lv_at hl 3 rfl) ?_
      refine lv_iload hx hb d_Polys_divide_52 (lv_at hl 0 rfl) ?_
      refine q_aald (t := 4) E rfl rfl ((hk.rs hK hrs).1) (fr + k) rfl (by omega) (by decide) d_Polys_divide_54 ?_
      refine lv_aload_n hx hb d_Polys_divide_55 rfl (lv_at hl 2 rfl) ?_
      obtain ⟨f1, hf1⟩ := (hk.j hv).2
      refine q_cS (rest := []) E (c_Limbs_copy l g n0 (Sc (fr + k)) v f1) w_146 w_5 w_856 w_145 hd_Limbs_copy rfl ⟨by decide, by decide⟩ (⟨(hk.rs hK hrs).2 (fr + k) (by omega), hf1⟩) hF hl.1 rfl (Nat.le_of_ble_eq_true rfl) d_Polys_divide_56 ⟨by decide, by decide⟩ (qv (fun H3 locs hq hF => ?_))
      have hq := hq.1
      have hk := hk.tr (hq.w1 ((hk.rs hK hrs).2 (fr + k) (by omega)).1)
      refine lv_aload_n hx hb d_Polys_divide_59 rfl (lv_at hl 2 rfl) ?_
      refine lv_aload_n hx hb d_Polys_divide_60 rfl (lv_at hl 1 rfl) ?_
      refine q_get (C := "KateDesk$Polynomials") (T := T_Polys) (N := 9) (ci := 7) E ((hk.po hK hpo).1) in_Polys rfl 7 (by decide) w_310 rfl rfl d_Polys_divide_61 ?_
      obtain ⟨f2, hf2⟩ := ((hk.po hK hpo).2.2.1 6 (by decide)).2
      refine q_cS (rest := []) E (c_Limbs_copy l g n0 v (Y 6) f2) w_146 w_5 w_856 w_145 hd_Limbs_copy rfl ⟨by decide, by decide⟩ (⟨hk.j hv, hf2⟩) hF hl.1 rfl (Nat.le_of_ble_eq_true rfl) d_Polys_divide_64 ⟨by decide, by decide⟩ (qv (fun H4 locs hq hF => ?_))
      have hq := hq.1
      have hk := hk.tr (hq.w1 (hk.j hv).1)
      refine lv_iinc (k := 0) (v := nI (fr + k) - 1) (lv' := [(6, .int (nI (fr + k) - 1)), (0, .ref o), (1, .ref v), (2, .ref rw), (3, .int (nI fr)), (5, .ref z)]) hx hb d_Polys_divide_67 hl rfl (i_dec _) (by decide) rfl (fun ls hl => ?_)
      refine lv_goto (tgt := 12) hx hb d_Polys_divide_70 (by decide) ?_
      have hl : lv_has ls 7 [(6, .int (nI (fr + k) - 1)), (0, .ref o), (1, .ref v), (2, .ref rw), (3, .int (nI fr)), (5, .ref z)] := lv_sub hl [0, 1, 2, 3, 4, 5] rfl
      exact ih H4 locs ls _ (by omega) rfl hk hF hl
  exact loop n _ _ ls _ (Nat.le_refl _) (by rw [show fr + n = (fr + n - 1) + 1 by omega, nI_pred, Nat.add_sub_cancel]) hk hF hl
set_option maxHeartbeats 4000000 in
set_option maxRecDepth 100000 in
theorem c_Polys_findValues (l : Launch) (g : WG) (n0 : Nat → Prop) (o fo vl : Nat) (F : Nat → Nat) (mi : Int64) (Y V : Nat → Nat) (rw : Nat) (Sc : Nat → Nat) (fr k : Nat) (hk5 : k < 5) (hfr : fr + 2 ^ k ≤ 32) : Ctr l y_Polys_findValues (.code y_Polys_findValues prog_7_method_8_code 7 none) 5 182 0 0 n0 g [.ref o, .ref rw, .int (nI fr), .int (nI k)] (fun H => PO g n0 H o fo vl F mi Y V ∧ RS g n0 H rw 32 Sc) (QV (fun H H' => KJ g (fun q => n0 q) H H')) := by
  refine ctr_mk l (lv0 := [(0, .ref o), (1, .ref rw), (2, .int (nI fr)), (3, .int (nI k))]) (by decide) (Nat.le_of_ble_eq_true rfl) rfl ?_
  intro p e s m below meth c ls E hr hlk hnm hl hP
  have hx := E.1
  have hb := E.2.1
  have hK := E.2.2.2.2.2
  have hF : ∀ q ∈ ([] : List Loc), n0 q.base := fun q hq => absurd hq List.not_mem_nil
  obtain ⟨hpo, hrs⟩ := hP
  have hk : KJ g (fun q => n0 q) s.heap s.heap := KJ.rf
  obtain ⟨hp1, hp16⟩ := pw16 hk5
  refine lv_iconst (v := nI 1) hx hb d_Polys_findValues_0 (by decide) ?_
  refine lv_iload_n hx hb d_Polys_findValues_1 rfl (lv_at hl 3 rfl) ?_
  refine lv_ishl hx hb d_Polys_findValues_2 ?_
  refine lv_topi (fun t9 e9 => ?_)
  obtain rfl : t9 = nI (2 ^ k) := e9.trans (sh1 k hk5)
  generalize hN : 2 ^ k = N at *
  refine lv_istore (lv' := [(4, .int (nI N)), (0, .ref o), (1, .ref rw), (2, .int (nI fr)), (3, .int (nI k))]) hx hb d_Polys_findValues_3 hl (by decide) rfl (fun ls hl => ?_)
  refine lv_aload_n hx hb d_Polys_findValues_5 rfl (lv_at hl 1 rfl) ?_
  refine lv_aload_n hx hb d_Polys_findValues_6 rfl (lv_at hl 1 rfl) ?_
  refine q_get (C := "KateDesk$Polynomials") (T := T_Polys) (N := 9) (ci := 7) E ((hk.po hK hpo).1) in_Polys rfl 4 (by decide) w_307 rfl rfl d_Polys_findValues_7 ?_
  refine lv_iload_n hx hb d_Polys_findValues_10 rfl (lv_at hl 4 rfl) ?_
  refine q_cV (rest := []) E (c_Polys_liftedRoot l g n0 o fo vl F mi Y V (Y 3) (nI k)) w_601 w_14 w_879 w_599 w_600 hd_Polys_liftedRoot rfl ⟨by decide, by decide⟩ (OB.recv E.2.2.2.2.2 (by rfl) ((hk.po hK hpo).1)) (⟨(hk.po hK hpo), (hk.po hK hpo).2.2.1 3 (by decide)⟩) hF hl.1 rfl (Nat.le_of_ble_eq_true rfl) d_Polys_findValues_11 ⟨by decide, by decide⟩ (qv (fun H1 locs hq hF => ?_))
  have hk := hk.tr hq
  refine lv_aload_n hx hb d_Polys_findValues_14 rfl (lv_at hl 1 rfl) ?_
  refine q_get (C := "KateDesk$Polynomials") (T := T_Polys) (N := 9) (ci := 7) E ((hk.po hK hpo).1) in_Polys rfl 5 (by decide) w_308 rfl rfl d_Polys_findValues_15 ?_
  refine lv_aload_n hx hb d_Polys_findValues_18 rfl (lv_at hl 1 rfl) ?_
  refine q_get (C := "KateDesk$Polynomials") (T := T_Polys) (N := 9) (ci := 7) E ((hk.po hK hpo).1) in_Polys rfl 0 (by decide) w_303 rfl rfl d_Polys_findValues_19 ?_
  refine q_get (C := "KateDesk$Field") (T := T_Field) (N := 7) (ci := 1) E ((hk.po hK hpo).2.1.1) in_Field rfl 1 (by decide) w_175 rfl rfl d_Polys_findValues_22 ?_
  obtain ⟨f1, hf1⟩ := ((hk.po hK hpo).2.1.2 1 (by decide)).2
  refine q_cS (rest := []) E (c_Limbs_copy l g n0 (Y 4) (F 1) f1) w_146 w_5 w_856 w_145 hd_Limbs_copy rfl ⟨by decide, by decide⟩ (⟨(hk.po hK hpo).2.2.1 4 (by decide), hf1⟩) hF hl.1 rfl (Nat.le_of_ble_eq_true rfl) d_Polys_findValues_25 ⟨by decide, by decide⟩ (qv (fun H2 locs hq hF => ?_))
  have hq := hq.1
  have hk := hk.tr (hq.w1 ((hk.po hK hpo).2.2.1 4 (by decide)).1)
  refine lv_iconst (v := nI 0) hx hb d_Polys_findValues_28 (by decide) ?_
  refine lv_istore (lv' := [(5, .int (nI 0)), (4, .int (nI N)), (0, .ref o), (1, .ref rw), (2, .int (nI fr)), (3, .int (nI k))]) hx hb d_Polys_findValues_29 hl (by decide) rfl (fun ls hl => ?_)
  have hl : lv_has ls 7 [(5, .int (nI 0)), (4, .int (nI N)), (0, .ref o), (1, .ref rw), (2, .int (nI fr))] := lv_sub hl [0, 1, 2, 3, 4] rfl
  have loop : ∀ (k9 : Nat) (i : Nat) (H : Heap) (locs : List Loc) (ls : Array Slot), i + k9 = N → KJ g (fun q => n0 q) s.heap H → (∀ q ∈ locs, n0 q.base) → lv_has ls 7 [(5, .int (nI i)), (4, .int (nI N)), (0, .ref o), (1, .ref rw), (2, .int (nI fr))] → W p l e { frames := 5, cells := 0, slots := 0, locals := 182 } s m [.ref o, .ref rw, .int (nI fr), .int (nI k)].toArray below meth c H locs 0 0 (MQ below (QcP (QV (fun H H' => KJ g (fun q => n0 q) H H'))) [.ref o, .ref rw, .int (nI fr), .int (nI k)].toArray s 0 0 (fun q => n0 q)) (F0 m 31 ls []) := by
    intro k9
    induction k9 with
    | zero =>
      intro  i   H   locs   ls hi hk hF hl
      obtain rfl : i = N := by omega
      refine lv_iload hx hb d_Polys_findValues_31 (lv_at hl 0 rfl) ?_
      refine lv_iload hx hb d_Polys_findValues_33 (lv_at hl 1 rfl) ?_
      refine lv_icmp_ge (tgt := 150) hx hb d_Polys_findValues_35 (by decide) (fun _ => ?_) (fun h9 => absurd (nI_le (Nat.le_refl _) (by omega)) h9)
      exact q_vret E hr hlk (⟨rfl, hk⟩) hF d_Polys_findValues_150
    | succ k9 ih =>
      intro  i   H   locs   ls hi hk hF hl
      have hiN : i < N := by omega
      refine lv_iload hx hb d_Polys_findValues_31 (lv_at hl 0 rfl) ?_
      refine lv_iload hx hb d_Polys_findValues_33 (lv_at hl 1 rfl) ?_
      refine lv_icmp_ge (tgt := 150) hx hb d_Polys_findValues_35 (by decide) (fun h9 => absurd h9 (nI_ge hiN (by omega))) (fun _ => ?_)
      refine lv_iload hx hb d_Polys_findValues_38 (lv_at hl 0 rfl) ?_
      refine lv_bipush (v := nI 16) hx hb d_Polys_findValues_40 (by decide) ?_
      refine lv_icmp_ge (tgt := 150) hx hb d_Polys_findValues_42 (by decide) (fun h9 => absurd h9 (nI_ge (by omega) (by decide))) (fun _ => ?_)
      refine lv_aload_n hx hb d_Polys_findValues_45 rfl (lv_at hl 2 rfl) ?_
      refine q_get (C := "KateDesk$Polynomials") (T := T_Polys) (N := 9) (ci := 7) E ((hk.po hK hpo).1) in_Polys rfl 8 (by decide) w_311 rfl rfl d_Polys_findValues_46 ?_
      refine lv_iload hx hb d_Polys_findValues_49 (lv_at hl 0 rfl) ?_
      refine q_aald (t := 4) E rfl rfl ((hk.po hK hpo).2.2.2.1) i rfl (by omega) (by decide) d_Polys_findValues_51 ?_
      refine q_cS (rest := []) E (c_Limbs_clear l g n0 (V i)) w_498 w_5 w_853 w_497 hd_Limbs_clear rfl ⟨by decide, by decide⟩ ((hk.po hK hpo).2.2.2.2 i (by omega)) hF hl.1 rfl (Nat.le_of_ble_eq_true rfl) d_Polys_findValues_52 ⟨by decide, by decide⟩ (qv (fun H1 locs hq hF => ?_))
      have hq := hq.1
      have hk := hk.tr (hq.w1 ((hk.po hK hpo).2.2.2.2 i (by omega)).1)
      refine lv_iload_n hx hb d_Polys_findValues_55 rfl (lv_at hl 4 rfl) ?_
      refine lv_iload hx hb d_Polys_findValues_56 (lv_at hl 1 rfl) ?_
      refine lv_iadd hx hb d_Polys_findValues_58 ?_
      refine lv_iconst (v := nI 1) hx hb d_Polys_findValues_59 (by decide) ?_
      refine lv_isub hx hb d_Polys_findValues_60 ?_
      refine lv_topi (fun t9 e9 => ?_)
      obtain rfl : t9 = nI (fr + N - 1) := e9.trans ((congrArg (· - nI 1) (nI_add fr N)).trans (pk_sub (by omega)))
      refine lv_istore (lv' := [(6, .int (nI (fr + N - 1))), (5, .int (nI i)), (4, .int (nI N)), (0, .ref o), (1, .ref rw), (2, .int (nI fr))]) hx hb d_Polys_findValues_61 hl (by decide) rfl (fun ls hl => ?_)
      have hl : lv_has ls 7 [(6, .int (nI (fr + N - 1))), (5, .int (nI i)), (4, .int (nI N)), (0, .ref o), (1, .ref rw), (2, .int (nI fr))] := lv_sub hl [0, 1, 2, 3, 4, 5] rfl
      have inner : ∀ (k2 : Nat) (H : Heap) (locs : List Loc) (ls : Array Slot) (x : Int32), k2 ≤ N → x = nI (fr + k2) - 1 → KJ g (fun q => n0 q) s.heap H → (∀ q ∈ locs, n0 q.base) → lv_has ls 7 [(6, .int x), (5, .int (nI i)), (4, .int (nI N)), (0, .ref o), (1, .ref rw), (2, .int (nI fr))] → W p l e { frames := 5, cells := 0, slots := 0, locals := 182 } s m [.ref o, .ref rw, .int (nI fr), .int (nI k)].toArray below meth c H locs 0 0 (MQ below (QcP (QV (fun H H' => KJ g (fun q => n0 q) H H'))) [.ref o, .ref rw, .int (nI fr), .int (nI k)].toArray s 0 0 (fun q => n0 q)) (F0 m 63 ls []) := by
        intro k2
        induction k2 with
        | zero =>
          intro  H   locs   ls   x hk0 hxx hk hF hl
          refine lv_iload hx hb d_Polys_findValues_63 (lv_at hl 0 rfl) ?_
          refine lv_iload_n hx hb d_Polys_findValues_65 rfl (lv_at hl 5 rfl) ?_
          refine lv_icmp_lt (tgt := 125) hx hb d_Polys_findValues_66 (by decide) (fun _ => ?_) (fun h9 => absurd (by rw [hxx]; exact dn_lt (by omega)) h9)
          refine lv_aload_n hx hb d_Polys_findValues_125 rfl (lv_at hl 3 rfl) ?_
          refine q_get (C := "KateDesk$Polynomials") (T := T_Polys) (N := 9) (ci := 7) E ((hk.po hK hpo).1) in_Polys rfl 0 (by decide) w_303 rfl rfl d_Polys_findValues_126 ?_
          refine lv_aload_n hx hb d_Polys_findValues_129 rfl (lv_at hl 3 rfl) ?_
          refine q_get (C := "KateDesk$Polynomials") (T := T_Polys) (N := 9) (ci := 7) E ((hk.po hK hpo).1) in_Polys rfl 5 (by decide) w_308 rfl rfl d_Polys_findValues_130 ?_
          refine lv_aload_n hx hb d_Polys_findValues_133 rfl (lv_at hl 3 rfl) ?_
          refine q_get (C := "KateDesk$Polynomials") (T := T_Polys) (N := 9) (ci := 7) E ((hk.po hK hpo).1) in_Polys rfl 5 (by decide) w_308 rfl rfl d_Polys_findValues_134 ?_
          refine lv_aload_n hx hb d_Polys_findValues_137 rfl (lv_at hl 3 rfl) ?_
          refine q_get (C := "KateDesk$Polynomials") (T := T_Polys) (N := 9) (ci := 7) E ((hk.po hK hpo).1) in_Polys rfl 4 (by decide) w_307 rfl rfl d_Polys_findValues_138 ?_
          refine q_cV (rest := []) E (c_Field_multiply l g n0 fo (Y 4) (Y 4) (Y 3) F mi) w_165 w_4 w_854 w_163 w_164 hd_Field_multiply rfl ⟨by decide, by decide⟩ (OB.recv E.2.2.2.2.2 (by rfl) (((hk.po hK hpo).2.1).1)) (⟨(hk.po hK hpo).2.1, (hk.po hK hpo).2.2.1 4 (by decide), (hk.po hK hpo).2.2.1 4 (by decide), (hk.po hK hpo).2.2.1 3 (by decide)⟩) hF hl.1 rfl (Nat.le_of_ble_eq_true rfl) d_Polys_findValues_141 ⟨by decide, by decide⟩ (qv (fun H1 locs hq hF => ?_))
          have hk := hk.tr (hq.w1 ((hk.po hK hpo).2.2.1 4 (by decide)).1)
          refine lv_iinc (k := 1) (v := nI (i + 1)) (lv' := [(5, .int (nI (i + 1))), (6, .int x), (4, .int (nI N)), (0, .ref o), (1, .ref rw), (2, .int (nI fr))]) hx hb d_Polys_findValues_144 hl rfl (i_inc i) (by decide) rfl (fun ls hl => ?_)
          refine lv_goto (tgt := 31) hx hb d_Polys_findValues_147 (by decide) ?_
          have hl : lv_has ls 7 [(5, .int (nI (i + 1))), (4, .int (nI N)), (0, .ref o), (1, .ref rw), (2, .int (nI fr))] := lv_sub hl [0, 2, 3, 4, 5] rfl
          exact ih (i + 1) H1 locs ls (by omega) hk hF hl
        | succ k2 ih2 =>
          intro  H   locs   ls   x hk0 hxx hk hF hl
          have hxx : x = nI (fr + k2) := hxx.trans (nI_pred _)
          subst hxx
          refine lv_iload hx hb d_Polys_findValues_63 (lv_at hl 0 rfl) ?_
          refine lv_iload_n hx hb d_Polys_findValues_65 rfl (lv_at hl 5 rfl) ?_
          refine lv_icmp_lt (tgt := 125) hx hb d_Polys_findValues_66 (by decide) (fun h9 => absurd h9 (nI_nlt (by omega) (by omega))) (fun _ => ?_)
          refine lv_aload_n hx hb d_Polys_findValues_69 rfl (lv_at hl 3 rfl) ?_
          refine q_get (C := "KateDesk$Polynomials") (T := T_Polys) (N := 9) (ci := 7) E ((hk.po hK hpo).1) in_Polys rfl 0 (by decide) w_303 rfl rfl d_Polys_findValues_70 ?_
          refine lv_aload_n hx hb d_Polys_findValues_73 rfl (lv_at hl 3 rfl) ?_
          refine q_get (C := "KateDesk$Polynomials") (T := T_Polys) (N := 9) (ci := 7) E ((hk.po hK hpo).1) in_Polys rfl 8 (by decide) w_311 rfl rfl d_Polys_findValues_74 ?_
          refine lv_iload hx hb d_Polys_findValues_77 (lv_at hl 1 rfl) ?_
          refine q_aald (t := 4) E rfl rfl ((hk.po hK hpo).2.2.2.1) i rfl (by omega) (by decide) d_Polys_findValues_79 ?_
          refine lv_aload_n hx hb d_Polys_findValues_80 rfl (lv_at hl 3 rfl) ?_
          refine q_get (C := "KateDesk$Polynomials") (T := T_Polys) (N := 9) (ci := 7) E ((hk.po hK hpo).1) in_Polys rfl 8 (by decide) w_311 rfl rfl d_Polys_findValues_81 ?_
          refine lv_iload hx hb d_Polys_findValues_84 (lv_at hl 1 rfl) ?_
          refine q_aald (t := 4) E rfl rfl ((hk.po hK hpo).2.2.2.1) i rfl (by omega) (by decide) d_Polys_findValues_86 ?_
          refine lv_aload_n hx hb d_Polys_findValues_87 rfl (lv_at hl 3 rfl) ?_
          refine q_get (C := "KateDesk$Polynomials") (T := T_Polys) (N := 9) (ci := 7) E ((hk.po hK hpo).1) in_Polys rfl 5 (by decide) w_308 rfl rfl d_Polys_findValues_88 ?_
          refine q_cV (rest := []) E (c_Field_multiply l g n0 fo (V i) (V i) (Y 4) F mi) w_165 w_4 w_854 w_163 w_164 hd_Field_multiply rfl ⟨by decide, by decide⟩ (OB.recv E.2.2.2.2.2 (by rfl) (((hk.po hK hpo).2.1).1)) (⟨(hk.po hK hpo).2.1, (hk.po hK hpo).2.2.2.2 i (by omega), (hk.po hK hpo).2.2.2.2 i (by omega), (hk.po hK hpo).2.2.1 4 (by decide)⟩) hF hl.1 rfl (Nat.le_of_ble_eq_true rfl) d_Polys_findValues_91 ⟨by decide, by decide⟩ (qv (fun H1 locs hq hF => ?_))
          have hk := hk.tr (hq.w1 ((hk.po hK hpo).2.2.2.2 i (by omega)).1)
          refine lv_aload_n hx hb d_Polys_findValues_94 rfl (lv_at hl 3 rfl) ?_
          refine q_get (C := "KateDesk$Polynomials") (T := T_Polys) (N := 9) (ci := 7) E ((hk.po hK hpo).1) in_Polys rfl 0 (by decide) w_303 rfl rfl d_Polys_findValues_95 ?_
          refine lv_aload_n hx hb d_Polys_findValues_98 rfl (lv_at hl 3 rfl) ?_
          refine q_get (C := "KateDesk$Polynomials") (T := T_Polys) (N := 9) (ci := 7) E ((hk.po hK hpo).1) in_Polys rfl 8 (by decide) w_311 rfl rfl d_Polys_findValues_99 ?_
          refine lv_iload hx hb d_Polys_findValues_102 (lv_at hl 1 rfl) ?_
          refine q_aald (t := 4) E rfl rfl ((hk.po hK hpo).2.2.2.1) i rfl (by omega) (by decide) d_Polys_findValues_104 ?_
          refine lv_aload_n hx hb d_Polys_findValues_105 rfl (lv_at hl 3 rfl) ?_
          refine q_get (C := "KateDesk$Polynomials") (T := T_Polys) (N := 9) (ci := 7) E ((hk.po hK hpo).1) in_Polys rfl 8 (by decide) w_311 rfl rfl d_Polys_findValues_106 ?_
          refine lv_iload hx hb d_Polys_findValues_109 (lv_at hl 1 rfl) ?_
          refine q_aald (t := 4) E rfl rfl ((hk.po hK hpo).2.2.2.1) i rfl (by omega) (by decide) d_Polys_findValues_111 ?_
          refine lv_aload_n hx hb d_Polys_findValues_112 rfl (lv_at hl 4 rfl) ?_
          refine lv_iload hx hb d_Polys_findValues_113 (lv_at hl 0 rfl) ?_
          refine q_aald (t := 4) E rfl rfl ((hk.rs hK hrs).1) (fr + k2) rfl (by omega) (by decide) d_Polys_findValues_115 ?_
          refine q_cV (rest := []) E (c_Field_add l g n0 fo (V i) (V i) (Sc (fr + k2)) F mi) w_157 w_4 w_855 w_155 w_156 hd_Field_add rfl ⟨by decide, by decide⟩ (OB.recv E.2.2.2.2.2 (by rfl) (((hk.po hK hpo).2.1).1)) (⟨(hk.po hK hpo).2.1, (hk.po hK hpo).2.2.2.2 i (by omega), (hk.po hK hpo).2.2.2.2 i (by omega), (hk.rs hK hrs).2 (fr + k2) (by omega)⟩) hF hl.1 rfl (Nat.le_of_ble_eq_true rfl) d_Polys_findValues_116 ⟨by decide, by decide⟩ (qv (fun H2 locs hq hF => ?_))
          have hk := hk.tr (hq.w1 ((hk.po hK hpo).2.2.2.2 i (by omega)).1)
          refine lv_iinc (k := 0) (v := nI (fr + k2) - 1) (lv' := [(6, .int (nI (fr + k2) - 1)), (5, .int (nI i)), (4, .int (nI N)), (0, .ref o), (1, .ref rw), (2, .int (nI fr))]) hx hb d_Polys_findValues_119 hl rfl (i_dec _) (by decide) rfl (fun ls hl => ?_)
          refine lv_goto (tgt := 63) hx hb d_Polys_findValues_122 (by decide) ?_
          have hl : lv_has ls 7 [(6, .int (nI (fr + k2) - 1)), (5, .int (nI i)), (4, .int (nI N)), (0, .ref o), (1, .ref rw), (2, .int (nI fr))] := lv_sub hl [0, 1, 2, 3, 4, 5] rfl
          exact ih2 H2 locs ls _ (by omega) rfl hk hF hl
      exact inner N _ _ ls _ (Nat.le_refl _) (by rw [show fr + N = (fr + N - 1) + 1 by omega, nI_pred, Nat.add_sub_cancel]) hk hF hl
  exact loop N 0 _ _ ls (by omega) hk hF hl
end
section
abbrev y_Polys_evaluate : MethodName := ⟨"KateDesk$Polynomials", "evaluate", "([[JII)V"⟩
theorem hd_Polys_evaluate : y_Polys_evaluate.cls ≠ "java/lang/invoke/MethodHandle" ∧ y_Polys_evaluate.cls ≠ "java/lang/invoke/VarHandle" ∧ (parseMethodDescriptor y_Polys_evaluate.desc).map (fun d => d.parameters.length) = some 3 := by decide +kernel
theorem d_Polys_evaluate_0 : decode prog_7_method_6_code 0 = .ok (.aload_n 0, 1) := by decide +kernel
theorem d_Polys_evaluate_1 : decode prog_7_method_6_code 1 = .ok (.aload_n 1, 1) := by decide +kernel
theorem d_Polys_evaluate_2 : decode prog_7_method_6_code 2 = .ok (.iload_n 2, 1) := by decide +kernel
theorem d_Polys_evaluate_3 : decode prog_7_method_6_code 3 = .ok (.iload_n 3, 1) := by decide +kernel
theorem d_Polys_evaluate_4 : decode prog_7_method_6_code 4 = .ok (.invokevirtual 78, 3) := by decide +kernel
theorem d_Polys_evaluate_7 : decode prog_7_method_6_code 7 = .ok (.iconst 0, 1) := by decide +kernel
theorem d_Polys_evaluate_8 : decode prog_7_method_6_code 8 = .ok (.istore 4, 2) := by decide +kernel
theorem d_Polys_evaluate_10 : decode prog_7_method_6_code 10 = .ok (.iload 4, 2) := by decide +kernel
theorem d_Polys_evaluate_12 : decode prog_7_method_6_code 12 = .ok (.iconst 1, 1) := by decide +kernel
theorem d_Polys_evaluate_13 : decode prog_7_method_6_code 13 = .ok (.iload_n 3, 1) := by decide +kernel
theorem d_Polys_evaluate_14 : decode prog_7_method_6_code 14 = .ok (.ishl, 1) := by decide +kernel
theorem d_Polys_evaluate_15 : decode prog_7_method_6_code 15 = .ok (.if_icmp .ge 25, 3) := by decide +kernel
theorem d_Polys_evaluate_18 : decode prog_7_method_6_code 18 = .ok (.aload_n 1, 1) := by decide +kernel
theorem d_Polys_evaluate_19 : decode prog_7_method_6_code 19 = .ok (.iload_n 2, 1) := by decide +kernel
theorem d_Polys_evaluate_20 : decode prog_7_method_6_code 20 = .ok (.iload 4, 2) := by decide +kernel
theorem d_Polys_evaluate_22 : decode prog_7_method_6_code 22 = .ok (.iadd, 1) := by decide +kernel
theorem d_Polys_evaluate_23 : decode prog_7_method_6_code 23 = .ok (.aaload, 1) := by decide +kernel
theorem d_Polys_evaluate_24 : decode prog_7_method_6_code 24 = .ok (.aload_n 0, 1) := by decide +kernel
theorem d_Polys_evaluate_25 : decode prog_7_method_6_code 25 = .ok (.getfield 35, 3) := by decide +kernel
theorem d_Polys_evaluate_28 : decode prog_7_method_6_code 28 = .ok (.iload 4, 2) := by decide +kernel
theorem d_Polys_evaluate_30 : decode prog_7_method_6_code 30 = .ok (.aaload, 1) := by decide +kernel
theorem d_Polys_evaluate_31 : decode prog_7_method_6_code 31 = .ok (.invokestatic 75, 3) := by decide +kernel
theorem d_Polys_evaluate_34 : decode prog_7_method_6_code 34 = .ok (.iinc 4 1, 3) := by decide +kernel
theorem d_Polys_evaluate_37 : decode prog_7_method_6_code 37 = .ok (.goto (-27), 3) := by decide +kernel
theorem d_Polys_evaluate_40 : decode prog_7_method_6_code 40 = .ok (.return_, 1) := by decide +kernel
abbrev y_Polys_interpolate : MethodName := ⟨"KateDesk$Polynomials", "interpolate", "([[JII)V"⟩
theorem hd_Polys_interpolate : y_Polys_interpolate.cls ≠ "java/lang/invoke/MethodHandle" ∧ y_Polys_interpolate.cls ≠ "java/lang/invoke/VarHandle" ∧ (parseMethodDescriptor y_Polys_interpolate.desc).map (fun d => d.parameters.length) = some 3 := by decide +kernel
theorem d_Polys_interpolate_0 : decode prog_7_method_7_code 0 = .ok (.iconst 1, 1) := by decide +kernel
theorem d_Polys_interpolate_1 : decode prog_7_method_7_code 1 = .ok (.iload_n 3, 1) := by decide +kernel
theorem d_Polys_interpolate_2 : decode prog_7_method_7_code 2 = .ok (.ishl, 1) := by decide +kernel
theorem d_Polys_interpolate_3 : decode prog_7_method_7_code 3 = .ok (.istore 4, 2) := by decide +kernel
theorem d_Polys_interpolate_5 : decode prog_7_method_7_code 5 = .ok (.aload_n 0, 1) := by decide +kernel
theorem d_Polys_interpolate_6 : decode prog_7_method_7_code 6 = .ok (.aload_n 1, 1) := by decide +kernel
theorem d_Polys_interpolate_7 : decode prog_7_method_7_code 7 = .ok (.iload_n 2, 1) := by decide +kernel
theorem d_Polys_interpolate_8 : decode prog_7_method_7_code 8 = .ok (.iload_n 3, 1) := by decide +kernel
theorem d_Polys_interpolate_9 : decode prog_7_method_7_code 9 = .ok (.invokevirtual 78, 3) := by decide +kernel
theorem d_Polys_interpolate_12 : decode prog_7_method_7_code 12 = .ok (.aload_n 0, 1) := by decide +kernel
theorem d_Polys_interpolate_13 : decode prog_7_method_7_code 13 = .ok (.iload_n 3, 1) := by decide +kernel
theorem d_Polys_interpolate_14 : decode prog_7_method_7_code 14 = .ok (.invokevirtual 82, 3) := by decide +kernel
theorem d_Polys_interpolate_17 : decode prog_7_method_7_code 17 = .ok (.iconst 0, 1) := by decide +kernel
theorem d_Polys_interpolate_18 : decode prog_7_method_7_code 18 = .ok (.istore 5, 2) := by decide +kernel
theorem d_Polys_interpolate_20 : decode prog_7_method_7_code 20 = .ok (.iload 5, 2) := by decide +kernel
theorem d_Polys_interpolate_22 : decode prog_7_method_7_code 22 = .ok (.iload 4, 2) := by decide +kernel
theorem d_Polys_interpolate_24 : decode prog_7_method_7_code 24 = .ok (.if_icmp .ge 41, 3) := by decide +kernel
theorem d_Polys_interpolate_27 : decode prog_7_method_7_code 27 = .ok (.aload_n 0, 1) := by decide +kernel
theorem d_Polys_interpolate_28 : decode prog_7_method_7_code 28 = .ok (.getfield 38, 3) := by decide +kernel
theorem d_Polys_interpolate_31 : decode prog_7_method_7_code 31 = .ok (.aload_n 1, 1) := by decide +kernel
theorem d_Polys_interpolate_32 : decode prog_7_method_7_code 32 = .ok (.iload_n 2, 1) := by decide +kernel
theorem d_Polys_interpolate_33 : decode prog_7_method_7_code 33 = .ok (.iload 5, 2) := by decide +kernel
theorem d_Polys_interpolate_35 : decode prog_7_method_7_code 35 = .ok (.iadd, 1) := by decide +kernel
theorem d_Polys_interpolate_36 : decode prog_7_method_7_code 36 = .ok (.aaload, 1) := by decide +kernel
theorem d_Polys_interpolate_37 : decode prog_7_method_7_code 37 = .ok (.aload_n 0, 1) := by decide +kernel
theorem d_Polys_interpolate_38 : decode prog_7_method_7_code 38 = .ok (.getfield 35, 3) := by decide +kernel
theorem d_Polys_interpolate_41 : decode prog_7_method_7_code 41 = .ok (.iload 4, 2) := by decide +kernel
theorem d_Polys_interpolate_43 : decode prog_7_method_7_code 43 = .ok (.iload 5, 2) := by decide +kernel
theorem d_Polys_interpolate_45 : decode prog_7_method_7_code 45 = .ok (.isub, 1) := by decide +kernel
theorem d_Polys_interpolate_46 : decode prog_7_method_7_code 46 = .ok (.iload 4, 2) := by decide +kernel
theorem d_Polys_interpolate_48 : decode prog_7_method_7_code 48 = .ok (.iconst 1, 1) := by decide +kernel
theorem d_Polys_interpolate_49 : decode prog_7_method_7_code 49 = .ok (.isub, 1) := by decide +kernel
theorem d_Polys_interpolate_50 : decode prog_7_method_7_code 50 = .ok (.iand, 1) := by decide +kernel
theorem d_Polys_interpolate_51 : decode prog_7_method_7_code 51 = .ok (.aaload, 1) := by decide +kernel
theorem d_Polys_interpolate_52 : decode prog_7_method_7_code 52 = .ok (.aload_n 0, 1) := by decide +kernel
theorem d_Polys_interpolate_53 : decode prog_7_method_7_code 53 = .ok (.getfield 27, 3) := by decide +kernel
theorem d_Polys_interpolate_56 : decode prog_7_method_7_code 56 = .ok (.invokevirtual 69, 3) := by decide +kernel
theorem d_Polys_interpolate_59 : decode prog_7_method_7_code 59 = .ok (.iinc 5 1, 3) := by decide +kernel
theorem d_Polys_interpolate_62 : decode prog_7_method_7_code 62 = .ok (.goto (-42), 3) := by decide +kernel
theorem d_Polys_interpolate_65 : decode prog_7_method_7_code 65 = .ok (.return_, 1) := by decide +kernel
abbrev y_Polys_basis : MethodName := ⟨"KateDesk$Polynomials", "basis", "([JII[J)V"⟩
theorem hd_Polys_basis : y_Polys_basis.cls ≠ "java/lang/invoke/MethodHandle" ∧ y_Polys_basis.cls ≠ "java/lang/invoke/VarHandle" ∧ (parseMethodDescriptor y_Polys_basis.desc).map (fun d => d.parameters.length) = some 4 := by decide +kernel
theorem d_Polys_basis_0 : decode prog_7_method_9_code 0 = .ok (.iconst 1, 1) := by decide +kernel
theorem d_Polys_basis_1 : decode prog_7_method_9_code 1 = .ok (.iload_n 2, 1) := by decide +kernel
theorem d_Polys_basis_2 : decode prog_7_method_9_code 2 = .ok (.ishl, 1) := by decide +kernel
theorem d_Polys_basis_3 : decode prog_7_method_9_code 3 = .ok (.istore 5, 2) := by decide +kernel
theorem d_Polys_basis_5 : decode prog_7_method_9_code 5 = .ok (.aload_n 0, 1) := by decide +kernel
theorem d_Polys_basis_6 : decode prog_7_method_9_code 6 = .ok (.aload_n 0, 1) := by decide +kernel
theorem d_Polys_basis_7 : decode prog_7_method_9_code 7 = .ok (.getfield 21, 3) := by decide +kernel
theorem d_Polys_basis_10 : decode prog_7_method_9_code 10 = .ok (.iload_n 2, 1) := by decide +kernel
theorem d_Polys_basis_11 : decode prog_7_method_9_code 11 = .ok (.invokevirtual 85, 3) := by decide +kernel
theorem d_Polys_basis_14 : decode prog_7_method_9_code 14 = .ok (.aload_n 0, 1) := by decide +kernel
theorem d_Polys_basis_15 : decode prog_7_method_9_code 15 = .ok (.getfield 24, 3) := by decide +kernel
theorem d_Polys_basis_18 : decode prog_7_method_9_code 18 = .ok (.aload 4, 2) := by decide +kernel
theorem d_Polys_basis_20 : decode prog_7_method_9_code 20 = .ok (.invokestatic 75, 3) := by decide +kernel
theorem d_Polys_basis_23 : decode prog_7_method_9_code 23 = .ok (.iload_n 3, 1) := by decide +kernel
theorem d_Polys_basis_24 : decode prog_7_method_9_code 24 = .ok (.istore 6, 2) := by decide +kernel
theorem d_Polys_basis_26 : decode prog_7_method_9_code 26 = .ok (.iload 6, 2) := by decide +kernel
theorem d_Polys_basis_28 : decode prog_7_method_9_code 28 = .ok (.iload 5, 2) := by decide +kernel
theorem d_Polys_basis_30 : decode prog_7_method_9_code 30 = .ok (.if_icmp .ge 28, 3) := by decide +kernel
theorem d_Polys_basis_33 : decode prog_7_method_9_code 33 = .ok (.aload_n 0, 1) := by decide +kernel
theorem d_Polys_basis_34 : decode prog_7_method_9_code 34 = .ok (.getfield 38, 3) := by decide +kernel
theorem d_Polys_basis_37 : decode prog_7_method_9_code 37 = .ok (.aload_n 0, 1) := by decide +kernel
theorem d_Polys_basis_38 : decode prog_7_method_9_code 38 = .ok (.getfield 24, 3) := by decide +kernel
theorem d_Polys_basis_41 : decode prog_7_method_9_code 41 = .ok (.aload_n 0, 1) := by decide +kernel
theorem d_Polys_basis_42 : decode prog_7_method_9_code 42 = .ok (.getfield 24, 3) := by decide +kernel
theorem d_Polys_basis_45 : decode prog_7_method_9_code 45 = .ok (.aload_n 0, 1) := by decide +kernel
theorem d_Polys_basis_46 : decode prog_7_method_9_code 46 = .ok (.getfield 21, 3) := by decide +kernel
theorem d_Polys_basis_49 : decode prog_7_method_9_code 49 = .ok (.invokevirtual 69, 3) := by decide +kernel
theorem d_Polys_basis_52 : decode prog_7_method_9_code 52 = .ok (.iinc 6 1, 3) := by decide +kernel
theorem d_Polys_basis_55 : decode prog_7_method_9_code 55 = .ok (.goto (-29), 3) := by decide +kernel
theorem d_Polys_basis_58 : decode prog_7_method_9_code 58 = .ok (.aload_n 0, 1) := by decide +kernel
theorem d_Polys_basis_59 : decode prog_7_method_9_code 59 = .ok (.iload_n 2, 1) := by decide +kernel
theorem d_Polys_basis_60 : decode prog_7_method_9_code 60 = .ok (.invokevirtual 82, 3) := by decide +kernel
theorem d_Polys_basis_63 : decode prog_7_method_9_code 63 = .ok (.aload_n 1, 1) := by decide +kernel
theorem d_Polys_basis_64 : decode prog_7_method_9_code 64 = .ok (.invokestatic 65, 3) := by decide +kernel
theorem d_Polys_basis_67 : decode prog_7_method_9_code 67 = .ok (.iconst 0, 1) := by decide +kernel
theorem d_Polys_basis_68 : decode prog_7_method_9_code 68 = .ok (.istore 6, 2) := by decide +kernel
theorem d_Polys_basis_70 : decode prog_7_method_9_code 70 = .ok (.iload 6, 2) := by decide +kernel
theorem d_Polys_basis_72 : decode prog_7_method_9_code 72 = .ok (.iload 5, 2) := by decide +kernel
theorem d_Polys_basis_74 : decode prog_7_method_9_code 74 = .ok (.if_icmp .ge 35, 3) := by decide +kernel
theorem d_Polys_basis_77 : decode prog_7_method_9_code 77 = .ok (.aload_n 0, 1) := by decide +kernel
theorem d_Polys_basis_78 : decode prog_7_method_9_code 78 = .ok (.getfield 38, 3) := by decide +kernel
theorem d_Polys_basis_81 : decode prog_7_method_9_code 81 = .ok (.aload_n 1, 1) := by decide +kernel
theorem d_Polys_basis_82 : decode prog_7_method_9_code 82 = .ok (.aload_n 1, 1) := by decide +kernel
theorem d_Polys_basis_83 : decode prog_7_method_9_code 83 = .ok (.aload_n 0, 1) := by decide +kernel
theorem d_Polys_basis_84 : decode prog_7_method_9_code 84 = .ok (.getfield 24, 3) := by decide +kernel
theorem d_Polys_basis_87 : decode prog_7_method_9_code 87 = .ok (.invokevirtual 69, 3) := by decide +kernel
theorem d_Polys_basis_90 : decode prog_7_method_9_code 90 = .ok (.aload_n 0, 1) := by decide +kernel
theorem d_Polys_basis_91 : decode prog_7_method_9_code 91 = .ok (.getfield 38, 3) := by decide +kernel
theorem d_Polys_basis_94 : decode prog_7_method_9_code 94 = .ok (.aload_n 1, 1) := by decide +kernel
theorem d_Polys_basis_95 : decode prog_7_method_9_code 95 = .ok (.aload_n 1, 1) := by decide +kernel
theorem d_Polys_basis_96 : decode prog_7_method_9_code 96 = .ok (.aload_n 0, 1) := by decide +kernel
theorem d_Polys_basis_97 : decode prog_7_method_9_code 97 = .ok (.getfield 15, 3) := by decide +kernel
theorem d_Polys_basis_100 : decode prog_7_method_9_code 100 = .ok (.invokevirtual 72, 3) := by decide +kernel
theorem d_Polys_basis_103 : decode prog_7_method_9_code 103 = .ok (.iinc 6 1, 3) := by decide +kernel
theorem d_Polys_basis_106 : decode prog_7_method_9_code 106 = .ok (.goto (-36), 3) := by decide +kernel
theorem d_Polys_basis_109 : decode prog_7_method_9_code 109 = .ok (.aload_n 0, 1) := by decide +kernel
theorem d_Polys_basis_110 : decode prog_7_method_9_code 110 = .ok (.getfield 38, 3) := by decide +kernel
theorem d_Polys_basis_113 : decode prog_7_method_9_code 113 = .ok (.aload_n 1, 1) := by decide +kernel
theorem d_Polys_basis_114 : decode prog_7_method_9_code 114 = .ok (.aload_n 1, 1) := by decide +kernel
theorem d_Polys_basis_115 : decode prog_7_method_9_code 115 = .ok (.aload_n 0, 1) := by decide +kernel
theorem d_Polys_basis_116 : decode prog_7_method_9_code 116 = .ok (.getfield 27, 3) := by decide +kernel
theorem d_Polys_basis_119 : decode prog_7_method_9_code 119 = .ok (.invokevirtual 69, 3) := by decide +kernel
theorem d_Polys_basis_122 : decode prog_7_method_9_code 122 = .ok (.return_, 1) := by decide +kernel
set_option maxHeartbeats 4000000 in
set_option maxRecDepth 100000 in
theorem c_Polys_evaluate (l : Launch) (g : WG) (n0 : Nat → Prop) (o fo vl : Nat) (F : Nat → Nat) (mi : Int64) (Y V : Nat → Nat) (rw : Nat) (Sc : Nat → Nat) (fr k : Nat) (hk5 : k < 5) (hfr : fr + 2 ^ k ≤ 32) : Ctr l y_Polys_evaluate (.code y_Polys_evaluate prog_7_method_6_code 5 none) 6 208 0 0 n0 g [.ref o, .ref rw, .int (nI fr), .int (nI k)] (fun H => PO g n0 H o fo vl F mi Y V ∧ RS g n0 H rw 32 Sc) (QV (fun H H' => KJ g (fun q => n0 q) H H')) := by
  refine ctr_mk l (lv0 := [(0, .ref o), (1, .ref rw), (2, .int (nI fr)), (3, .int (nI k))]) (by decide) (Nat.le_of_ble_eq_true rfl) rfl ?_
  intro p e s m below meth c ls E hr hlk hnm hl hP
  have hx := E.1
  have hb := E.2.1
  have hK := E.2.2.2.2.2
  have hF : ∀ q ∈ ([] : List Loc), n0 q.base := fun q hq => absurd hq List.not_mem_nil
  obtain ⟨hpo, hrs⟩ := hP
  have hk : KJ g (fun q => n0 q) s.heap s.heap := KJ.rf
  obtain ⟨hp1, hp16⟩ := pw16 hk5
  refine lv_aload_n hx hb d_Polys_evaluate_0 rfl (lv_at hl 0 rfl) ?_
  refine lv_aload_n hx hb d_Polys_evaluate_1 rfl (lv_at hl 1 rfl) ?_
  refine lv_iload_n hx hb d_Polys_evaluate_2 rfl (lv_at hl 2 rfl) ?_
  refine lv_iload_n hx hb d_Polys_evaluate_3 rfl (lv_at hl 3 rfl) ?_
  refine q_cV (rest := []) E (c_Polys_findValues l g n0 o fo vl F mi Y V rw Sc fr k hk5 hfr) w_878 w_14 w_875 w_877 (bw_s 13 rfl) hd_Polys_findValues rfl ⟨by decide, by decide⟩ (OB.recv E.2.2.2.2.2 (by rfl) ((hk.po hK hpo).1)) (⟨(hk.po hK hpo), hk.rs hK hrs⟩) hF hl.1 rfl (Nat.le_of_ble_eq_true rfl) d_Polys_evaluate_4 ⟨by decide, by decide⟩ (qv (fun H1 locs hq hF => ?_))
  have hk := hk.tr hq
  refine lv_iconst (v := nI 0) hx hb d_Polys_evaluate_7 (by decide) ?_
  refine lv_istore (lv' := [(4, .int (nI 0)), (0, .ref o), (1, .ref rw), (2, .int (nI fr)), (3, .int (nI k))]) hx hb d_Polys_evaluate_8 hl (by decide) rfl (fun ls hl => ?_)
  have hl : lv_has ls 5 [(4, .int (nI 0)), (3, .int (nI k)), (0, .ref o), (1, .ref rw), (2, .int (nI fr))] := lv_sub hl [0, 4, 1, 2, 3] rfl
  have loop : ∀ (k9 : Nat) (i : Nat) (H : Heap) (locs : List Loc) (ls : Array Slot), i + k9 = 2 ^ k → KJ g (fun q => n0 q) s.heap H → (∀ q ∈ locs, n0 q.base) → lv_has ls 5 [(4, .int (nI i)), (3, .int (nI k)), (0, .ref o), (1, .ref rw), (2, .int (nI fr))] → W p l e { frames := 6, cells := 0, slots := 0, locals := 208 } s m [.ref o, .ref rw, .int (nI fr), .int (nI k)].toArray below meth c H locs 0 0 (MQ below (QcP (QV (fun H H' => KJ g (fun q => n0 q) H H'))) [.ref o, .ref rw, .int (nI fr), .int (nI k)].toArray s 0 0 (fun q => n0 q)) (F0 m 10 ls []) := by
    intro k9
    induction k9 with
    | zero =>
      intro  i   H   locs   ls hi hk hF hl
      obtain rfl : i = 2 ^ k := by omega
      refine lv_iload hx hb d_Polys_evaluate_10 (lv_at hl 0 rfl) ?_
      refine lv_iconst (v := nI 1) hx hb d_Polys_evaluate_12 (by decide) ?_
      refine lv_iload_n hx hb d_Polys_evaluate_13 rfl (lv_at hl 1 rfl) ?_
      refine lv_ishl hx hb d_Polys_evaluate_14 ?_
      refine lv_topi (fun t9 e9 => ?_)
      obtain rfl : t9 = nI (2 ^ k) := e9.trans (sh1 k hk5)
      refine lv_icmp_ge (tgt := 40) hx hb d_Polys_evaluate_15 (by decide) (fun _ => ?_) (fun h9 => absurd (nI_le (Nat.le_refl _) (by omega)) h9)
      exact q_vret E hr hlk (⟨rfl, hk⟩) hF d_Polys_evaluate_40
    | succ k9 ih =>
      intro  i   H   locs   ls hi hk hF hl
      have hiN : i < 2 ^ k := by omega
      refine lv_iload hx hb d_Polys_evaluate_10 (lv_at hl 0 rfl) ?_
      refine lv_iconst (v := nI 1) hx hb d_Polys_evaluate_12 (by decide) ?_
      refine lv_iload_n hx hb d_Polys_evaluate_13 rfl (lv_at hl 1 rfl) ?_
      refine lv_ishl hx hb d_Polys_evaluate_14 ?_
      refine lv_topi (fun t9 e9 => ?_)
      obtain rfl : t9 = nI (2 ^ k) := e9.trans (sh1 k hk5)
      refine lv_icmp_ge (tgt := 40) hx hb d_Polys_evaluate_15 (by decide) (fun h9 => absurd h9 (nI_ge hiN (by omega))) (fun _ => ?_)
      refine lv_aload_n hx hb d_Polys_evaluate_18 rfl (lv_at hl 3 rfl) ?_
      refine lv_iload_n hx hb d_Polys_evaluate_19 rfl (lv_at hl 4 rfl) ?_
      refine lv_iload hx hb d_Polys_evaluate_20 (lv_at hl 0 rfl) ?_
      refine lv_iadd hx hb d_Polys_evaluate_22 ?_
      refine q_aald (t := 4) E rfl rfl ((hk.rs hK hrs).1) (fr + i) (nI_add _ _) (by omega) (by decide) d_Polys_evaluate_23 ?_
      refine lv_aload_n hx hb d_Polys_evaluate_24 rfl (lv_at hl 2 rfl) ?_
      refine q_get (C := "KateDesk$Polynomials") (T := T_Polys) (N := 9) (ci := 7) E ((hk.po hK hpo).1) in_Polys rfl 8 (by decide) w_311 rfl rfl d_Polys_evaluate_25 ?_
      refine lv_iload hx hb d_Polys_evaluate_28 (lv_at hl 0 rfl) ?_
      refine q_aald (t := 4) E rfl rfl ((hk.po hK hpo).2.2.2.1) i rfl (by omega) (by decide) d_Polys_evaluate_30 ?_
      obtain ⟨f1, hf1⟩ := ((hk.po hK hpo).2.2.2.2 i (by omega)).2
      refine q_cS (rest := []) E (c_Limbs_copy l g n0 (Sc (fr + i)) (V i) f1) w_146 w_5 w_856 w_145 hd_Limbs_copy rfl ⟨by decide, by decide⟩ (⟨(hk.rs hK hrs).2 (fr + i) (by omega), hf1⟩) hF hl.1 rfl (Nat.le_of_ble_eq_true rfl) d_Polys_evaluate_31 ⟨by decide, by decide⟩ (qv (fun H1 locs hq hF => ?_))
      have hq := hq.1
      have hk := hk.tr (hq.w1 ((hk.rs hK hrs).2 (fr + i) (by omega)).1)
      refine lv_iinc (k := 0) (v := nI (i + 1)) (lv' := [(4, .int (nI (i + 1))), (3, .int (nI k)), (0, .ref o), (1, .ref rw), (2, .int (nI fr))]) hx hb d_Polys_evaluate_34 hl rfl (i_inc i) (by decide) rfl (fun ls hl => ?_)
      refine lv_goto (tgt := 10) hx hb d_Polys_evaluate_37 (by decide) ?_
      have hl : lv_has ls 5 [(4, .int (nI (i + 1))), (3, .int (nI k)), (0, .ref o), (1, .ref rw), (2, .int (nI fr))] := lv_sub hl [0, 1, 2, 3, 4] rfl
      exact ih (i + 1) H1 locs ls (by omega) hk hF hl
  exact loop (2 ^ k) 0 _ _ ls (by omega) hk hF hl
set_option maxHeartbeats 4000000 in
set_option maxRecDepth 100000 in
theorem c_Polys_interpolate (l : Launch) (g : WG) (n0 : Nat → Prop) (o fo vl : Nat) (F : Nat → Nat) (mi : Int64) (Y V : Nat → Nat) (rw : Nat) (Sc : Nat → Nat) (fr k : Nat) (hk5 : k < 5) (hfr : fr + 2 ^ k ≤ 32) : Ctr l y_Polys_interpolate (.code y_Polys_interpolate prog_7_method_7_code 6 none) 6 208 0 0 n0 g [.ref o, .ref rw, .int (nI fr), .int (nI k)] (fun H => PO g n0 H o fo vl F mi Y V ∧ RS g n0 H rw 32 Sc) (QV (fun H H' => KJ g (fun q => n0 q) H H')) := by
  refine ctr_mk l (lv0 := [(0, .ref o), (1, .ref rw), (2, .int (nI fr)), (3, .int (nI k))]) (by decide) (Nat.le_of_ble_eq_true rfl) rfl ?_
  intro p e s m below meth c ls E hr hlk hnm hl hP
  have hx := E.1
  have hb := E.2.1
  have hK := E.2.2.2.2.2
  have hF : ∀ q ∈ ([] : List Loc), n0 q.base := fun q hq => absurd hq List.not_mem_nil
  obtain ⟨hpo, hrs⟩ := hP
  have hk : KJ g (fun q => n0 q) s.heap s.heap := KJ.rf
  obtain ⟨hp1, hp16⟩ := pw16 hk5
  refine lv_iconst (v := nI 1) hx hb d_Polys_interpolate_0 (by decide) ?_
  refine lv_iload_n hx hb d_Polys_interpolate_1 rfl (lv_at hl 3 rfl) ?_
  refine lv_ishl hx hb d_Polys_interpolate_2 ?_
  refine lv_topi (fun t9 e9 => ?_)
  obtain rfl : t9 = nI (2 ^ k) := e9.trans (sh1 k hk5)
  refine lv_istore (lv' := [(4, .int (nI (2 ^ k))), (0, .ref o), (1, .ref rw), (2, .int (nI fr)), (3, .int (nI k))]) hx hb d_Polys_interpolate_3 hl (by decide) rfl (fun ls hl => ?_)
  refine lv_aload_n hx hb d_Polys_interpolate_5 rfl (lv_at hl 1 rfl) ?_
  refine lv_aload_n hx hb d_Polys_interpolate_6 rfl (lv_at hl 2 rfl) ?_
  refine lv_iload_n hx hb d_Polys_interpolate_7 rfl (lv_at hl 3 rfl) ?_
  refine lv_iload_n hx hb d_Polys_interpolate_8 rfl (lv_at hl 4 rfl) ?_
  refine q_cV (rest := []) E (c_Polys_findValues l g n0 o fo vl F mi Y V rw Sc fr k hk5 hfr) w_878 w_14 w_875 w_877 (bw_s 13 rfl) hd_Polys_findValues rfl ⟨by decide, by decide⟩ (OB.recv E.2.2.2.2.2 (by rfl) ((hk.po hK hpo).1)) (⟨(hk.po hK hpo), hk.rs hK hrs⟩) hF hl.1 rfl (Nat.le_of_ble_eq_true rfl) d_Polys_interpolate_9 ⟨by decide, by decide⟩ (qv (fun H1 locs hq hF => ?_))
  have hk := hk.tr hq
  refine lv_aload_n hx hb d_Polys_interpolate_12 rfl (lv_at hl 1 rfl) ?_
  refine lv_iload_n hx hb d_Polys_interpolate_13 rfl (lv_at hl 4 rfl) ?_
  refine q_cV (rest := []) E (c_Polys_findShare l g n0 o fo vl F mi Y V (nI k)) w_883 w_14 w_880 w_882 (bw_s 14 rfl) hd_Polys_findShare rfl ⟨by decide, by decide⟩ (OB.recv E.2.2.2.2.2 (by rfl) ((hk.po hK hpo).1)) (hk.po hK hpo) hF hl.1 rfl (Nat.le_of_ble_eq_true rfl) d_Polys_interpolate_14 ⟨by decide, by decide⟩ (qv (fun H2 locs hq hF => ?_))
  have hk := hk.tr hq
  refine lv_iconst (v := nI 0) hx hb d_Polys_interpolate_17 (by decide) ?_
  refine lv_istore (lv' := [(5, .int (nI 0)), (4, .int (nI (2 ^ k))), (0, .ref o), (1, .ref rw), (2, .int (nI fr)), (3, .int (nI k))]) hx hb d_Polys_interpolate_18 hl (by decide) rfl (fun ls hl => ?_)
  have hl : lv_has ls 6 [(5, .int (nI 0)), (4, .int (nI (2 ^ k))), (0, .ref o), (1, .ref rw), (2, .int (nI fr))] := lv_sub hl [0, 1, 2, 3, 4] rfl
  have loop : ∀ (k9 : Nat) (i : Nat) (H : Heap) (locs : List Loc) (ls : Array Slot), i + k9 = 2 ^ k → KJ g (fun q => n0 q) s.heap H → (∀ q ∈ locs, n0 q.base) → lv_has ls 6 [(5, .int (nI i)), (4, .int (nI (2 ^ k))), (0, .ref o), (1, .ref rw), (2, .int (nI fr))] → W p l e { frames := 6, cells := 0, slots := 0, locals := 208 } s m [.ref o, .ref rw, .int (nI fr), .int (nI k)].toArray below meth c H locs 0 0 (MQ below (QcP (QV (fun H H' => KJ g (fun q => n0 q) H H'))) [.ref o, .ref rw, .int (nI fr), .int (nI k)].toArray s 0 0 (fun q => n0 q)) (F0 m 20 ls []) := by
    intro k9
    induction k9 with
    | zero =>
      intro  i   H   locs   ls hi hk hF hl
      obtain rfl : i = 2 ^ k := by omega
      refine lv_iload hx hb d_Polys_interpolate_20 (lv_at hl 0 rfl) ?_
      refine lv_iload hx hb d_Polys_interpolate_22 (lv_at hl 1 rfl) ?_
      refine lv_icmp_ge (tgt := 65) hx hb d_Polys_interpolate_24 (by decide) (fun _ => ?_) (fun h9 => absurd (nI_le (Nat.le_refl _) (by omega)) h9)
      exact q_vret E hr hlk (⟨rfl, hk⟩) hF d_Polys_interpolate_65
    | succ k9 ih =>
      intro  i   H   locs   ls hi hk hF hl
      have hiN : i < 2 ^ k := by omega
      refine lv_iload hx hb d_Polys_interpolate_20 (lv_at hl 0 rfl) ?_
      refine lv_iload hx hb d_Polys_interpolate_22 (lv_at hl 1 rfl) ?_
      refine lv_icmp_ge (tgt := 65) hx hb d_Polys_interpolate_24 (by decide) (fun h9 => absurd h9 (nI_ge hiN (by omega))) (fun _ => ?_)
      refine lv_aload_n hx hb d_Polys_interpolate_27 rfl (lv_at hl 2 rfl) ?_
      refine q_get (C := "KateDesk$Polynomials") (T := T_Polys) (N := 9) (ci := 7) E ((hk.po hK hpo).1) in_Polys rfl 0 (by decide) w_303 rfl rfl d_Polys_interpolate_28 ?_
      refine lv_aload_n hx hb d_Polys_interpolate_31 rfl (lv_at hl 3 rfl) ?_
      refine lv_iload_n hx hb d_Polys_interpolate_32 rfl (lv_at hl 4 rfl) ?_
      refine lv_iload hx hb d_Polys_interpolate_33 (lv_at hl 0 rfl) ?_
      refine lv_iadd hx hb d_Polys_interpolate_35 ?_
      refine q_aald (t := 4) E rfl rfl ((hk.rs hK hrs).1) (fr + i) (nI_add _ _) (by omega) (by decide) d_Polys_interpolate_36 ?_
      refine lv_aload_n hx hb d_Polys_interpolate_37 rfl (lv_at hl 2 rfl) ?_
      refine q_get (C := "KateDesk$Polynomials") (T := T_Polys) (N := 9) (ci := 7) E ((hk.po hK hpo).1) in_Polys rfl 8 (by decide) w_311 rfl rfl d_Polys_interpolate_38 ?_
      refine lv_iload hx hb d_Polys_interpolate_41 (lv_at hl 1 rfl) ?_
      refine lv_iload hx hb d_Polys_interpolate_43 (lv_at hl 0 rfl) ?_
      refine lv_isub hx hb d_Polys_interpolate_45 ?_
      refine lv_topi (fun t9 e9 => ?_)
      obtain rfl : t9 = nI (2 ^ k - i) := e9.trans (pk_sub (by omega))
      refine lv_iload hx hb d_Polys_interpolate_46 (lv_at hl 1 rfl) ?_
      refine lv_iconst (v := nI 1) hx hb d_Polys_interpolate_48 (by decide) ?_
      refine lv_isub hx hb d_Polys_interpolate_49 ?_
      refine lv_topi (fun t9 e9 => ?_)
      obtain rfl : t9 = nI (2 ^ k - 1) := e9.trans (pk_sub (by omega))
      refine lv_iand hx hb d_Polys_interpolate_50 ?_
      refine lv_topi (fun t9 e9 => ?_)
      obtain rfl : t9 = nI ((2 ^ k - i) % 2 ^ k) := e9.trans (pk_andN (by omega) k (pwm hk5))
      have hix : (2 ^ k - i) % 2 ^ k < 16 := Nat.lt_of_lt_of_le (Nat.mod_lt _ (by omega)) hp16
      generalize (2 ^ k - i) % 2 ^ k = ix at hix ⊢
      refine q_aald (t := 4) E rfl rfl ((hk.po hK hpo).2.2.2.1) ix rfl (by omega) (by decide) d_Polys_interpolate_51 ?_
      refine lv_aload_n hx hb d_Polys_interpolate_52 rfl (lv_at hl 2 rfl) ?_
      refine q_get (C := "KateDesk$Polynomials") (T := T_Polys) (N := 9) (ci := 7) E ((hk.po hK hpo).1) in_Polys rfl 6 (by decide) w_309 rfl rfl d_Polys_interpolate_53 ?_
      refine q_cV (rest := []) E (c_Field_multiply l g n0 fo (Sc (fr + i)) (V ix) (Y 5) F mi) w_165 w_4 w_854 w_163 w_164 hd_Field_multiply rfl ⟨by decide, by decide⟩ (OB.recv E.2.2.2.2.2 (by rfl) (((hk.po hK hpo).2.1).1)) (⟨(hk.po hK hpo).2.1, (hk.rs hK hrs).2 (fr + i) (by omega), (hk.po hK hpo).2.2.2.2 ix (by omega), (hk.po hK hpo).2.2.1 5 (by decide)⟩) hF hl.1 rfl (Nat.le_of_ble_eq_true rfl) d_Polys_interpolate_56 ⟨by decide, by decide⟩ (qv (fun H1 locs hq hF => ?_))
      have hk := hk.tr (hq.w1 ((hk.rs hK hrs).2 (fr + i) (by omega)).1)
      refine lv_iinc (k := 0) (v := nI (i + 1)) (lv' := [(5, .int (nI (i + 1))), (4, .int (nI (2 ^ k))), (0, .ref o), (1, .ref rw), (2, .int (nI fr))]) hx hb d_Polys_interpolate_59 hl rfl (i_inc i) (by decide) rfl (fun ls hl => ?_)
      refine lv_goto (tgt := 20) hx hb d_Polys_interpolate_62 (by decide) ?_
      have hl : lv_has ls 6 [(5, .int (nI (i + 1))), (4, .int (nI (2 ^ k))), (0, .ref o), (1, .ref rw), (2, .int (nI fr))] := lv_sub hl [0, 1, 2, 3, 4] rfl
      exact ih (i + 1) H1 locs ls (by omega) hk hF hl
  exact loop (2 ^ k) 0 _ _ ls (by omega) hk hF hl
set_option maxHeartbeats 4000000 in
set_option maxRecDepth 100000 in
theorem c_Polys_basis (l : Launch) (g : WG) (n0 : Nat → Prop) (o fo vl : Nat) (F : Nat → Nat) (mi : Int64) (Y V : Nat → Nat) (t z k i0 : Nat) (hk5 : k < 5) (hi0 : i0 < 2 ^ k) : Ctr l y_Polys_basis (.code y_Polys_basis prog_7_method_9_code 7 none) 5 182 0 0 n0 g [.ref o, .ref t, .int (nI k), .int (nI i0), .ref z] (fun H => PO g n0 H o fo vl F mi Y V ∧ J14 g n0 H t ∧ J14 g n0 H z) (QV (fun H H' => KJ g (fun q => n0 q) H H')) := by
  refine ctr_mk l (lv0 := [(0, .ref o), (1, .ref t), (2, .int (nI k)), (3, .int (nI i0)), (4, .ref z)]) (by decide) (Nat.le_of_ble_eq_true rfl) rfl ?_
  intro p e s m below meth c ls E hr hlk hnm hl hP
  have hx := E.1
  have hb := E.2.1
  have hK := E.2.2.2.2.2
  have hF : ∀ q ∈ ([] : List Loc), n0 q.base := fun q hq => absurd hq List.not_mem_nil
  obtain ⟨hpo, ht, hz⟩ := hP
  have hk : KJ g (fun q => n0 q) s.heap s.heap := KJ.rf
  obtain ⟨hp1, hp16⟩ := pw16 hk5
  refine lv_iconst (v := nI 1) hx hb d_Polys_basis_0 (by decide) ?_
  refine lv_iload_n hx hb d_Polys_basis_1 rfl (lv_at hl 2 rfl) ?_
  refine lv_ishl hx hb d_Polys_basis_2 ?_
  refine lv_topi (fun t9 e9 => ?_)
  obtain rfl : t9 = nI (2 ^ k) := e9.trans (sh1 k hk5)
  refine lv_istore (lv' := [(5, .int (nI (2 ^ k))), (0, .ref o), (1, .ref t), (2, .int (nI k)), (3, .int (nI i0)), (4, .ref z)]) hx hb d_Polys_basis_3 hl (by decide) rfl (fun ls hl => ?_)
  refine lv_aload_n hx hb d_Polys_basis_5 rfl (lv_at hl 1 rfl) ?_
  refine lv_aload_n hx hb d_Polys_basis_6 rfl (lv_at hl 1 rfl) ?_
  refine q_get (C := "KateDesk$Polynomials") (T := T_Polys) (N := 9) (ci := 7) E ((hk.po hK hpo).1) in_Polys rfl 4 (by decide) w_307 rfl rfl d_Polys_basis_7 ?_
  refine lv_iload_n hx hb d_Polys_basis_10 rfl (lv_at hl 3 rfl) ?_
  refine q_cV (rest := []) E (c_Polys_liftedRoot l g n0 o fo vl F mi Y V (Y 3) (nI k)) w_601 w_14 w_879 w_599 w_600 hd_Polys_liftedRoot rfl ⟨by decide, by decide⟩ (OB.recv E.2.2.2.2.2 (by rfl) ((hk.po hK hpo).1)) (⟨(hk.po hK hpo), (hk.po hK hpo).2.2.1 3 (by decide)⟩) hF hl.1 rfl (Nat.le_of_ble_eq_true rfl) d_Polys_basis_11 ⟨by decide, by decide⟩ (qv (fun H1 locs hq hF => ?_))
  have hk := hk.tr hq
  refine lv_aload_n hx hb d_Polys_basis_14 rfl (lv_at hl 1 rfl) ?_
  refine q_get (C := "KateDesk$Polynomials") (T := T_Polys) (N := 9) (ci := 7) E ((hk.po hK hpo).1) in_Polys rfl 5 (by decide) w_308 rfl rfl d_Polys_basis_15 ?_
  refine lv_aload hx hb d_Polys_basis_18 (lv_at hl 5 rfl) ?_
  obtain ⟨f1, hf1⟩ := (hk.j hz).2
  refine q_cS (rest := []) E (c_Limbs_copy l g n0 (Y 4) z f1) w_146 w_5 w_856 w_145 hd_Limbs_copy rfl ⟨by decide, by decide⟩ (⟨(hk.po hK hpo).2.2.1 4 (by decide), hf1⟩) hF hl.1 rfl (Nat.le_of_ble_eq_true rfl) d_Polys_basis_20 ⟨by decide, by decide⟩ (qv (fun H2 locs hq hF => ?_))
  have hq := hq.1
  have hk := hk.tr (hq.w1 ((hk.po hK hpo).2.2.1 4 (by decide)).1)
  refine lv_iload_n hx hb d_Polys_basis_23 rfl (lv_at hl 4 rfl) ?_
  refine lv_istore (lv' := [(6, .int (nI i0)), (5, .int (nI (2 ^ k))), (0, .ref o), (1, .ref t), (2, .int (nI k)), (3, .int (nI i0)), (4, .ref z)]) hx hb d_Polys_basis_24 hl (by decide) rfl (fun ls hl => ?_)
  have hl : lv_has ls 7 [(6, .int (nI i0)), (5, .int (nI (2 ^ k))), (0, .ref o), (1, .ref t), (2, .int (nI k))] := lv_sub hl [0, 1, 2, 3, 4] rfl
  have loop2 : ∀ (k9 : Nat) (i : Nat) (H : Heap) (locs : List Loc) (ls : Array Slot), i + k9 = 2 ^ k → KJ g (fun q => n0 q) s.heap H → (∀ q ∈ locs, n0 q.base) → lv_has ls 7 [(6, .int (nI i)), (5, .int (nI (2 ^ k))), (0, .ref o), (1, .ref t), (2, .int (nI k))] → W p l e { frames := 5, cells := 0, slots := 0, locals := 182 } s m [.ref o, .ref t, .int (nI k), .int (nI i0), .ref z].toArray below meth c H locs 0 0 (MQ below (QcP (QV (fun H H' => KJ g (fun q => n0 q) H H'))) [.ref o, .ref t, .int (nI k), .int (nI i0), .ref z].toArray s 0 0 (fun q => n0 q)) (F0 m 70 ls []) := by
    intro k9
    induction k9 with
    | zero =>
      intro  i   H   locs   ls hi hk hF hl
      obtain rfl : i = 2 ^ k := by omega
      refine lv_iload hx hb d_Polys_basis_70 (lv_at hl 0 rfl) ?_
      refine lv_iload hx hb d_Polys_basis_72 (lv_at hl 1 rfl) ?_
      refine lv_icmp_ge (tgt := 109) hx hb d_Polys_basis_74 (by decide) (fun _ => ?_) (fun h9 => absurd (nI_le (Nat.le_refl _) (by omega)) h9)
      refine lv_aload_n hx hb d_Polys_basis_109 rfl (lv_at hl 2 rfl) ?_
      refine q_get (C := "KateDesk$Polynomials") (T := T_Polys) (N := 9) (ci := 7) E ((hk.po hK hpo).1) in_Polys rfl 0 (by decide) w_303 rfl rfl d_Polys_basis_110 ?_
      refine lv_aload_n hx hb d_Polys_basis_113 rfl (lv_at hl 3 rfl) ?_
      refine lv_aload_n hx hb d_Polys_basis_114 rfl (lv_at hl 3 rfl) ?_
      refine lv_aload_n hx hb d_Polys_basis_115 rfl (lv_at hl 2 rfl) ?_
      refine q_get (C := "KateDesk$Polynomials") (T := T_Polys) (N := 9) (ci := 7) E ((hk.po hK hpo).1) in_Polys rfl 6 (by decide) w_309 rfl rfl d_Polys_basis_116 ?_
      refine q_cV (rest := []) E (c_Field_multiply l g n0 fo t t (Y 5) F mi) w_165 w_4 w_854 w_163 w_164 hd_Field_multiply rfl ⟨by decide, by decide⟩ (OB.recv E.2.2.2.2.2 (by rfl) (((hk.po hK hpo).2.1).1)) (⟨(hk.po hK hpo).2.1, hk.j ht, hk.j ht, (hk.po hK hpo).2.2.1 5 (by decide)⟩) hF hl.1 rfl (Nat.le_of_ble_eq_true rfl) d_Polys_basis_119 ⟨by decide, by decide⟩ (qv (fun H1 locs hq hF => ?_))
      have hk := hk.tr (hq.w1 (hk.j ht).1)
      exact q_vret E hr hlk (⟨rfl, hk⟩) hF d_Polys_basis_122
    | succ k9 ih =>
      intro  i   H   locs   ls hi hk hF hl
      refine lv_iload hx hb d_Polys_basis_70 (lv_at hl 0 rfl) ?_
      refine lv_iload hx hb d_Polys_basis_72 (lv_at hl 1 rfl) ?_
      refine lv_icmp_ge (tgt := 109) hx hb d_Polys_basis_74 (by decide) (fun h9 => absurd h9 (nI_ge (by omega) (by omega))) (fun _ => ?_)
      refine lv_aload_n hx hb d_Polys_basis_77 rfl (lv_at hl 2 rfl) ?_
      refine q_get (C := "KateDesk$Polynomials") (T := T_Polys) (N := 9) (ci := 7) E ((hk.po hK hpo).1) in_Polys rfl 0 (by decide) w_303 rfl rfl d_Polys_basis_78 ?_
      refine lv_aload_n hx hb d_Polys_basis_81 rfl (lv_at hl 3 rfl) ?_
      refine lv_aload_n hx hb d_Polys_basis_82 rfl (lv_at hl 3 rfl) ?_
      refine lv_aload_n hx hb d_Polys_basis_83 rfl (lv_at hl 2 rfl) ?_
      refine q_get (C := "KateDesk$Polynomials") (T := T_Polys) (N := 9) (ci := 7) E ((hk.po hK hpo).1) in_Polys rfl 5 (by decide) w_308 rfl rfl d_Polys_basis_84 ?_
      refine q_cV (rest := []) E (c_Field_multiply l g n0 fo t t (Y 4) F mi) w_165 w_4 w_854 w_163 w_164 hd_Field_multiply rfl ⟨by decide, by decide⟩ (OB.recv E.2.2.2.2.2 (by rfl) (((hk.po hK hpo).2.1).1)) (⟨(hk.po hK hpo).2.1, hk.j ht, hk.j ht, (hk.po hK hpo).2.2.1 4 (by decide)⟩) hF hl.1 rfl (Nat.le_of_ble_eq_true rfl) d_Polys_basis_87 ⟨by decide, by decide⟩ (qv (fun H1 locs hq hF => ?_))
      have hk := hk.tr (hq.w1 (hk.j ht).1)
      refine lv_aload_n hx hb d_Polys_basis_90 rfl (lv_at hl 2 rfl) ?_
      refine q_get (C := "KateDesk$Polynomials") (T := T_Polys) (N := 9) (ci := 7) E ((hk.po hK hpo).1) in_Polys rfl 0 (by decide) w_303 rfl rfl d_Polys_basis_91 ?_
      refine lv_aload_n hx hb d_Polys_basis_94 rfl (lv_at hl 3 rfl) ?_
      refine lv_aload_n hx hb d_Polys_basis_95 rfl (lv_at hl 3 rfl) ?_
      refine lv_aload_n hx hb d_Polys_basis_96 rfl (lv_at hl 2 rfl) ?_
      refine q_get (C := "KateDesk$Polynomials") (T := T_Polys) (N := 9) (ci := 7) E ((hk.po hK hpo).1) in_Polys rfl 2 (by decide) w_305 rfl rfl d_Polys_basis_97 ?_
      refine q_cV (rest := []) E (c_Field_add l g n0 fo t t (Y 1) F mi) w_157 w_4 w_855 w_155 w_156 hd_Field_add rfl ⟨by decide, by decide⟩ (OB.recv E.2.2.2.2.2 (by rfl) (((hk.po hK hpo).2.1).1)) (⟨(hk.po hK hpo).2.1, hk.j ht, hk.j ht, (hk.po hK hpo).2.2.1 1 (by decide)⟩) hF hl.1 rfl (Nat.le_of_ble_eq_true rfl) d_Polys_basis_100 ⟨by decide, by decide⟩ (qv (fun H2 locs hq hF => ?_))
      have hk := hk.tr (hq.w1 (hk.j ht).1)
      refine lv_iinc (k := 0) (v := nI (i + 1)) (lv' := [(6, .int (nI (i + 1))), (5, .int (nI (2 ^ k))), (0, .ref o), (1, .ref t), (2, .int (nI k))]) hx hb d_Polys_basis_103 hl rfl (i_inc i) (by decide) rfl (fun ls hl => ?_)
      refine lv_goto (tgt := 70) hx hb d_Polys_basis_106 (by decide) ?_
      have hl : lv_has ls 7 [(6, .int (nI (i + 1))), (5, .int (nI (2 ^ k))), (0, .ref o), (1, .ref t), (2, .int (nI k))] := lv_sub hl [0, 1, 2, 3, 4] rfl
      exact ih (i + 1) H2 locs ls (by omega) hk hF hl
  have loop : ∀ (k9 : Nat) (i : Nat) (H : Heap) (locs : List Loc) (ls : Array Slot), i + k9 = 2 ^ k → KJ g (fun q => n0 q) s.heap H → (∀ q ∈ locs, n0 q.base) → lv_has ls 7 [(6, .int (nI i)), (5, .int (nI (2 ^ k))), (0, .ref o), (1, .ref t), (2, .int (nI k))] → W p l e { frames := 5, cells := 0, slots := 0, locals := 182 } s m [.ref o, .ref t, .int (nI k), .int (nI i0), .ref z].toArray below meth c H locs 0 0 (MQ below (QcP (QV (fun H H' => KJ g (fun q => n0 q) H H'))) [.ref o, .ref t, .int (nI k), .int (nI i0), .ref z].toArray s 0 0 (fun q => n0 q)) (F0 m 26 ls []) := by
    intro k9
    induction k9 with
    | zero =>
      intro  i   H   locs   ls hi hk hF hl
      obtain rfl : i = 2 ^ k := by omega
      refine lv_iload hx hb d_Polys_basis_26 (lv_at hl 0 rfl) ?_
      refine lv_iload hx hb d_Polys_basis_28 (lv_at hl 1 rfl) ?_
      refine lv_icmp_ge (tgt := 58) hx hb d_Polys_basis_30 (by decide) (fun _ => ?_) (fun h9 => absurd (nI_le (Nat.le_refl _) (by omega)) h9)
      refine lv_aload_n hx hb d_Polys_basis_58 rfl (lv_at hl 2 rfl) ?_
      refine lv_iload_n hx hb d_Polys_basis_59 rfl (lv_at hl 4 rfl) ?_
      refine q_cV (rest := []) E (c_Polys_findShare l g n0 o fo vl F mi Y V (nI k)) w_883 w_14 w_880 w_882 (bw_s 14 rfl) hd_Polys_findShare rfl ⟨by decide, by decide⟩ (OB.recv E.2.2.2.2.2 (by rfl) ((hk.po hK hpo).1)) (hk.po hK hpo) hF hl.1 rfl (Nat.le_of_ble_eq_true rfl) d_Polys_basis_60 ⟨by decide, by decide⟩ (qv (fun H1 locs hq hF => ?_))
      have hk := hk.tr hq
      refine lv_aload_n hx hb d_Polys_basis_63 rfl (lv_at hl 3 rfl) ?_
      refine q_cS (rest := []) E (c_Limbs_clear l g n0 t) w_498 w_5 w_853 w_497 hd_Limbs_clear rfl ⟨by decide, by decide⟩ (hk.j ht) hF hl.1 rfl (Nat.le_of_ble_eq_true rfl) d_Polys_basis_64 ⟨by decide, by decide⟩ (qv (fun H2 locs hq hF => ?_))
      have hq := hq.1
      have hk := hk.tr (hq.w1 (hk.j ht).1)
      refine lv_iconst (v := nI 0) hx hb d_Polys_basis_67 (by decide) ?_
      refine lv_istore (lv' := [(6, .int (nI 0)), (5, .int (nI (2 ^ k))), (0, .ref o), (1, .ref t), (2, .int (nI k))]) hx hb d_Polys_basis_68 hl (by decide) rfl (fun ls hl => ?_)
      have hl : lv_has ls 7 [(6, .int (nI 0)), (5, .int (nI (2 ^ k))), (0, .ref o), (1, .ref t), (2, .int (nI k))] := lv_sub hl [0, 1, 2, 3, 4] rfl
      exact loop2 (2 ^ k) 0 H2 locs ls (by omega) hk hF hl
    | succ k9 ih =>
      intro  i   H   locs   ls hi hk hF hl
      refine lv_iload hx hb d_Polys_basis_26 (lv_at hl 0 rfl) ?_
      refine lv_iload hx hb d_Polys_basis_28 (lv_at hl 1 rfl) ?_
      refine lv_icmp_ge (tgt := 58) hx hb d_Polys_basis_30 (by decide) (fun h9 => absurd h9 (nI_ge (by omega) (by omega))) (fun _ => ?_)
      refine lv_aload_n hx hb d_Polys_basis_33 rfl (lv_at hl 2 rfl) ?_
      refine q_get (C := "KateDesk$Polynomials") (T := T_Polys) (N := 9) (ci := 7) E ((hk.po hK hpo).1) in_Polys rfl 0 (by decide) w_303 rfl rfl d_Polys_basis_34 ?_
      refine lv_aload_n hx hb d_Polys_basis_37 rfl (lv_at hl 2 rfl) ?_
      refine q_get (C := "KateDesk$Polynomials") (T := T_Polys) (N := 9) (ci := 7) E ((hk.po hK hpo).1) in_Polys rfl 5 (by decide) w_308 rfl rfl d_Polys_basis_38 ?_
      refine lv_aload_n hx hb d_Polys_basis_41 rfl (lv_at hl 2 rfl) ?_
      refine q_get (C := "KateDesk$Polynomials") (T := T_Polys) (N := 9) (ci := 7) E ((hk.po hK hpo).1) in_Polys rfl 5 (by decide) w_308 rfl rfl d_Polys_basis_42 ?_
      refine lv_aload_n hx hb d_Polys_basis_45 rfl (lv_at hl 2 rfl) ?_
      refine q_get (C := "KateDesk$Polynomials") (T := T_Polys) (N := 9) (ci := 7) E ((hk.po hK hpo).1) in_Polys rfl 4 (by decide) w_307 rfl rfl d_Polys_basis_46 ?_
      refine q_cV (rest := []) E (c_Field_multiply l g n0 fo (Y 4) (Y 4) (Y 3) F mi) w_165 w_4 w_854 w_163 w_164 hd_Field_multiply rfl ⟨by decide, by decide⟩ (OB.recv E.2.2.2.2.2 (by rfl) (((hk.po hK hpo).2.1).1)) (⟨(hk.po hK hpo).2.1, (hk.po hK hpo).2.2.1 4 (by decide), (hk.po hK hpo).2.2.1 4 (by decide), (hk.po hK hpo).2.2.1 3 (by decide)⟩) hF hl.1 rfl (Nat.le_of_ble_eq_true rfl) d_Polys_basis_49 ⟨by decide, by decide⟩ (qv (fun H1 locs hq hF => ?_))
      have hk := hk.tr (hq.w1 ((hk.po hK hpo).2.2.1 4 (by decide)).1)
      refine lv_iinc (k := 0) (v := nI (i + 1)) (lv' := [(6, .int (nI (i + 1))), (5, .int (nI (2 ^ k))), (0, .ref o), (1, .ref t), (2, .int (nI k))]) hx hb d_Polys_basis_52 hl rfl (i_inc i) (by decide) rfl (fun ls hl => ?_)
      refine lv_goto (tgt := 26) hx hb d_Polys_basis_55 (by decide) ?_
      have hl : lv_has ls 7 [(6, .int (nI (i + 1))), (5, .int (nI (2 ^ k))), (0, .ref o), (1, .ref t), (2, .int (nI k))] := lv_sub hl [0, 1, 2, 3, 4] rfl
      exact ih (i + 1) H1 locs ls (by omega) hk hF hl
  exact loop (2 ^ k - i0) i0 _ _ ls (by omega) hk hF hl
end
section

/-- the end of a method that throws -/
def MQT (below : List Frame) (QT : Nat → Heap → Heap → Prop) (s : State) (mc ms : Nat) (n0 : Nat → Prop) : State → Prop := fun t =>
  ∃ x, t.status = .running ∧ Ended t below (.threw x) ∧ QT x s.heap t.heap ∧ s.WarmedH t.vm ∧ ∃ L, s.sameButNew ({ t with vm := s.vm } : State) L mc ms ∧ ∀ q ∈ L, n0 q.base
/-- a contract of a method that throws; s0: the state at the law's entry, which these states came from -/
def CtrT (l : Launch) (y : MethodName) (cw : Cond) (fr lo mc ms : Nat) (n0 : Nat → Prop) (g : WG) (s0 : State) (av : List Value) (P : Heap → Prop) (QT : Nat → Heap → Heap → Prop) : Prop :=
  MetFree l y (headSpec (cw :: BW) { frames := fr, cells := mc, slots := ms, locals := lo }) (va_Pc av (fun U => KW g U ∧ s0.WarmedH U.vm ∧ P U.heap)) (fun _ _ _ _ _ => True)
    (fun _ st o t => ∃ x, o = .threw x ∧ QT x st.heap t.heap ∧ st.WarmedH t.vm ∧ ∃ L, st.sameButNew ({ t with vm := st.vm } : State) L mc ms ∧ ∀ q ∈ L, n0 q.base)
theorem ctrT_mk (l : Launch) {y : MethodName} {cc : ByteArray} {nL : Nat} {ret : Option FieldType} {fr lo mc ms : Nat} {n0 : Nat → Prop} {g : WG} {s0 : State} {av : List Value} {P : Heap → Prop} {QT : Nat → Heap → Heap → Prop} {lv0 : List (Nat × Value)}
    (hy : plainName y.cls = true) (hsz : (lg_sl av).length ≤ nL) (hlv : lv_args 0 av = lv0)
    (body : ∀ (p : Program) (e : Env) (s : State) (m : MethodId) (below : List Frame) (meth : Method) (c : Code) (ls : Array Slot), EV p m c cc nL s av.toArray y.cls g → s0.WarmedH s.vm → meth.locks = false → c.exceptionTable.toList = [] → lv_has ls nL lv0 → P s.heap →
      W p l e { frames := fr, cells := mc, slots := ms, locals := lo } s m av.toArray below meth c s.heap [] 0 0 (MQT below QT s mc ms n0) (F0 m 0 ls [])) :
    CtrT l y (.code y cc nL ret) fr lo mc ms n0 g s0 av P QT := by
  refine MetFree.of_bodyS (code := cc) (maxLocals := nL) (ret := ret) hy ?_ ?_
  · intro args s m h hn
    obtain ⟨meth, c, h1, h2, h3, h4, h5, h6, -, -⟩ := Cond.code_spec hn (atoms_spec (ws := Cond.code y cc nL ret :: BW) h _ List.mem_cons_self)
    exact ⟨meth, c, h1, h2, h3, h4, h5, h6⟩
  · intro p e s m args below meth c s₁ B hml hv _
    obtain ⟨rfl, hK, hw0, hP⟩ := hv
    have hts := atoms_spec (ws := Cond.code y cc nL ret :: BW) B.pre
    have hl := lv_entry av (n := nL) hsz
    rw [hlv] at hl
    have hnh := B.noHandlers (hts _ List.mem_cons_self)
    have hh0 : s₁.heap = s.heap := by rw [B.state]; rfl
    have hbody := body p e s m below meth c _ ⟨B.exec, B.bytes, hml, findClass_of_methodNamed B.named, fun w hw => hts w (List.mem_cons_of_mem _ hw), hK⟩ hw0 B.notSynchronized (by simpa using hnh) hl hP
    rw [← lg_entry_eq] at hbody
    obtain ⟨t, a1, x, b1, b2, b3, b4, b5⟩ := hbody s₁ hh0 (Stand.of_body B)
    exact ⟨t, .threw x, a1, b1, b2, x, rfl, b3, b4, b5⟩
/-- a call that throws comes back so -/
def BackT (l : Launch) (R : Room) (p : Program) (e : Env) (below : List Frame) (s : State) (sargs : Array Value) (y : MethodName) (len W : Nat)
    (Pre : Pt → Array Value → Prop) (Post : Pt → Array Value → Nat → Pt → Prop) : Prop :=
  ∀ (m : MethodId) (meth : Method) (c : Code) (A : Pt) (g : JFrame) (ig : Instr) (mk : MethodId) (a : Array Value),
    Stand p l e R s m sargs below meth c A.U A.locs A.cells A.slots → g.method = m → g.locals.size = c.maxLocals → decode c.code g.pc = .ok (ig, len) →
    2 * g.monitorRoom + (g.stack.map fun v => v.category).sum ≤ W → A.U.methodNamed? y = some mk → Pre A a →
    ∃ (x : Nat) (B : Pt), Stand p l e R s m sargs below meth c B.U B.locs B.cells B.slots ∧ Post A a x B ∧
      Steps p.tables e below (doInvoke e (A.U.setTop g) [] mk a).1 ((B.U.setTop g).pushFrame (.throwing x))
theorem backT_of {l : Launch} {R : Room} {p : Program} {e : Env} {below : List Frame} {s : State} {sargs : Array Value} {y : MethodName} {len W : Nat} {fr lo mc ms : Nat} {n0 : Nat → Prop} {g0 : WG} {s0 : State} {av : List Value} {P : Heap → Prop} {QT : Nat → Heap → Heap → Prop} {bytes : ByteArray} {maxL : Nat} {ret : Option FieldType}
    (hM : CtrT l y (.code y bytes maxL ret) fr lo mc ms n0 g0 s0 av P QT)
    (hframes : fr + 1 ≤ R.frames) (hlocals : W + (maxL + 11) + lo ≤ R.locals)
    (hws : ∀ w ∈ (Cond.code y bytes maxL ret :: BW), ∀ a' U, s.WarmedH U.vm → w.before a' U = true) (hinit : ∀ a' U, s.WarmedH U.vm → (Cond.initialized y.cls).before a' U = true) :
    BackT l R p e below s sargs y len W (fun A a => A.cells + mc ≤ R.cells ∧ A.slots + ms ≤ R.slots ∧ va_Pc av (fun U => KW g0 U ∧ s0.WarmedH U.vm ∧ P U.heap) a A.U)
      (fun A a x B => QT x A.U.heap B.U.heap ∧ (∃ L, B.locs = A.locs ++ L ∧ ∀ q ∈ L, n0 q.base) ∧ B.cells = A.cells + mc ∧ B.slots = A.slots + ms) := by
  intro m meth c A g ig mk a X hg hsize hdg hW hn hp
  obtain ⟨U, Ls, c0, sl0⟩ := A
  dsimp only [Pt.U, Pt.locs, Pt.cells, Pt.slots] at X hn hp ⊢
  have hw := hws _ List.mem_cons_self a U X.warmed
  obtain ⟨methY, cY, hmY, hcY, -, hlY, -, -, -, -⟩ := Cond.code_spec hn hw
  obtain ⟨kY, hkY, -⟩ := className_of_methodNamed hn
  have hinitY : kY.init = .initialized := Cond.initialized_spec (findClass_of_methodNamed hn) hkY (hinit a U X.warmed)
  have h : At U g.method c below := by rw [hg]; exact X.here
  have happ : (headSpec (Cond.code y bytes maxL ret :: BW) { frames := fr, cells := mc, slots := ms, locals := lo }).appliesLoose y e.platform (U.calling g mk a) = true :=
    Spec.appliesLoose_calling (g := g) h hdg hn hkY hinitY
      (X.room_calling (g := g) (R' := { frames := fr, cells := mc, slots := ms, locals := lo }) hsize hmY hcY hframes (by rw [hlY]; dsimp only; omega) hp.1 hp.2.1) (atoms_intro fun w hw => hws w hw _ _ X.warmed)
  obtain ⟨mid, hmid⟩ := h.above
  have hfr : (U.setTop g).frames = (.java g :: mid) ++ below := by rw [State.frames_setTop' g h.top, hmid]; rfl
  obtain ⟨q0, q1, q2, q3⟩ := hp.2.2
  obtain ⟨o, s₂, hsteps, -, hend, x, rfl, hq, hW₂, L, hsame, hL⟩ := Steps.callFree hM p X.admits X.cas X.clock (acts := []) hfr happ (show va_Pc av (fun U => KW g0 U ∧ s0.WarmedH U.vm ∧ P U.heap) a (U.calling g mk a) from ⟨q0, KW.moved (u := U) (U := U.calling g mk a) (Vm.Alike.refl U.vm) q1, q2, q3⟩) trivial
  rw [State.frames_setTop' g h.top] at hend
  obtain ⟨g₀, hg0⟩ := X.frames_eq
  have htl : U.frames.tail = below := by rw [hg0]; rfl
  have hend2 : Ended s₂ (.java g :: below) (.threw x) := by
    rw [htl] at hend
    exact hend
  obtain ⟨T', X', hW', hsame', rfl⟩ := X.outOfThrown hg (mk := mk) (a := a) hend2 hW₂ hsame
  refine ⟨x, ⟨T', Ls ++ L, c0 + mc, sl0 + ms⟩, X', ⟨?_, ⟨L, rfl, hL⟩, rfl, rfl⟩, hsteps⟩
  have e1 : ((T'.setTop g).pushFrame (.throwing x)).heap = T'.heap := Stand.throwing_heap T' g x
  have e2 : QT x U.heap ((T'.setTop g).pushFrame (.throwing x)).heap := hq
  rw [e1] at e2
  exact e2

section KT
variable {p : Program} {l : Launch} {e : Env} {R : Room} {s : State} {m : MethodId} {args : Array Value} {below : List Frame} {meth : Method} {c : Code} {H : Heap} {locs : List Loc} {cells slots : Nat} {Q : State → Prop}
variable {cc : ByteArray} {nL : Nat} {pc : Nat} {ls : Array Slot} {rest : List Value} {g : WG} {own : String} {n0 : Nat → Prop} {a : Nat} {s0 : State}
theorem kd_ws {y : MethodName} {bytes : ByteArray} {maxL : Nat} {ret : Option FieldType} (E : EV p m c cc nL s args own g) (hcw : Cond.code y bytes maxL ret ∈ BW) : ∀ w ∈ (Cond.code y bytes maxL ret :: BW), ∀ (a' : Array Value) (U : State), s.WarmedH U.vm → w.before a' U = true := by
  intro w hw a' U hW
  have hb : w ∈ BW := by
    rcases List.mem_cons.mp hw with rfl | hw
    · exact hcw
    · exact hw
  exact word_at hW (good_of_word (bw_good _ hb)) (E.2.2.2.2.1 _ hb)
/-- what a throwing call brings: the frame with the note laid on it -/
def ThrownRun (p : Program) (l : Launch) (e : Env) (R : Room) (s : State) (m : MethodId) (args : Array Value) (below : List Frame) (meth : Method) (c : Code) (H : Heap) (locs : List Loc) (cells slots mc ms : Nat) (n0 : Nat → Prop) (g : JFrame) (rest : List Value) (QT : Nat → Heap → Heap → Prop) : Prop :=
  ∀ T : State, T.heap = H → Stand p l e R s m args below meth c T locs cells slots → ∃ (x : Nat) (T' : State) (L : List Loc), Stand p l e R s m args below meth c T' (locs ++ L) (cells + mc) (slots + ms) ∧ (∀ q ∈ L, n0 q.base) ∧ QT x H T'.heap ∧
    ∀ target, Steps p.tables e below ((T'.setTop { g with stack := rest }).pushFrame (.throwing x)) target → Steps p.tables e below (T.setTop g) target
theorem q_runST {index maxL fr lo mc ms n : Nat} {y : MethodName} {bytes : ByteArray} {ret : Option FieldType} {As st0 : List Value} {P : Heap → Prop} {QT : Nat → Heap → Heap → Prop} (E : EV p m c cc nL s args own g) (hw0 : s0.WarmedH s.vm)
    (hM : CtrT l y (.code y bytes maxL ret) fr lo mc ms n0 g s0 As P QT) (hcw : Cond.code y bytes maxL ret ∈ BW) (hini : Cond.initialized y.cls ∈ BW) (hl : Cond.methodLink own index y ∈ BW) (him : Cond.static y ∈ BW)
    (hd : y.cls ≠ "java/lang/invoke/MethodHandle" ∧ y.cls ≠ "java/lang/invoke/VarHandle" ∧ (parseMethodDescriptor y.desc).map (fun d => d.parameters.length) = some n) (hn : As.length = n) (hR : fr + 1 ≤ R.frames ∧ 8 + (maxL + 11) + lo ≤ R.locals)
    (hP : P H) (hls : ls.size = nL) (hst : st0 = As.reverse ++ rest) (hW : (rest.map fun v => v.category).sum ≤ 8) (hdg : decode cc pc = .ok (.invokestatic index, 3)) (hf : cells + mc ≤ R.cells ∧ slots + ms ≤ R.slots) :
    ThrownRun p l e R s m args below meth c H locs cells slots mc ms n0 (F0 m pc ls st0) rest QT := by
  intro T hT X
  have hK := backT_of (p := p) (e := e) (below := below) (s := s) (sargs := args) (len := 3) (W := 8) hM hR.1 hR.2 (kd_ws E hcw) (fun a' U hW' => word_at hW' (good_of_word (bw_good _ hini)) (E.2.2.2.2.1 _ hini))
  obtain ⟨hx, hb, hml, hown, hts, hKW⟩ := E
  obtain ⟨mk, hnamed⟩ := Cond.code_named (hts _ hcw)
  obtain ⟨methM, cM, hmethM, -, -, -, -, -, -, hsigM⟩ := Cond.code_spec hnamed (hts _ hcw)
  have hstatic : methM.isStatic = true := Cond.static_spec hnamed hmethM (hts _ him)
  obtain ⟨kP, hkP, -⟩ := className_of_methodNamed hnamed
  have hinitP : kP.init = .initialized := Cond.initialized_spec (findClass_of_methodNamed hnamed) hkP (hts _ hini)
  have hlen : As.length = methM.sig.parameters.length := by
    have h2 := hd.2.2
    rw [hsigM] at h2
    exact hn.trans (Option.some.inj h2).symm
  obtain ⟨vm₁, X₁, hstep₁⟩ := X.invokestatic hx hown (hts _ hl) hnamed hmethM hstatic hkP hinitP ⟨hd.1, hd.2.1⟩ (g := F0 m pc ls st0) rfl (argsL := As) (rest := rest) hlen hst (by rw [hb]; exact hdg)
  obtain ⟨x, ⟨T', l2, c2, sl2⟩, X', ⟨hq, ⟨L, e1, hL⟩, e2, e3⟩, hsteps⟩ := hK m meth c ⟨T.setVm vm₁, locs, cells, slots⟩ (F0 m pc ls rest) (.invokestatic index) mk As.toArray X₁ rfl (hls.trans hml.symm) (by rw [hb]; exact hdg) (lv_room (ls := ls) hW) (X₁.named hnamed)
    ⟨hf.1, hf.2, rfl, KW.moved X₁.warmed.alike hKW, State.WarmedH.trans hw0 X₁.warmed, by show P T.heap; rw [hT]; exact hP⟩
  dsimp only [Pt.U, Pt.locs, Pt.cells, Pt.slots] at X' hq e1 e2 e3 hsteps
  subst e1; subst e2; subst e3
  refine ⟨x, T', L, X', hL, ?_, fun target h => hstep₁ _ fun acts => by rw [doInvoke_state]; exact hsteps.trans h⟩
  have hq' : QT x T.heap T'.heap := hq
  rw [hT] at hq'
  exact hq'
theorem q_runVT {index maxL fr lo mc ms n b : Nat} {y : MethodName} {bytes : ByteArray} {ret : Option FieldType} {As st0 : List Value} {P : Heap → Prop} {QT : Nat → Heap → Heap → Prop} (E : EV p m c cc nL s args own g) (hw0 : s0.WarmedH s.vm)
    (hM : CtrT l y (.code y bytes maxL ret) fr lo mc ms n0 g s0 (.ref b :: As) P QT) (hcw : Cond.code y bytes maxL ret ∈ BW) (hini : Cond.initialized y.cls ∈ BW) (hl : Cond.methodLink own index y ∈ BW) (him : Cond.instanceMethod y ∈ BW) (hsel : Cond.selects y.cls y y ∈ BW)
    (hd : y.cls ≠ "java/lang/invoke/MethodHandle" ∧ y.cls ≠ "java/lang/invoke/VarHandle" ∧ (parseMethodDescriptor y.desc).map (fun d => d.parameters.length) = some n) (hn : As.length = n) (hR : fr + 1 ≤ R.frames ∧ 8 + (maxL + 11) + lo ≤ R.locals)
    (hrecv : ∃ cell : Cell, H[b]? = some cell ∧ cell.vm.isStatics = false ∧ s.vm.findClass y.cls = some cell.cls) (hP : P H) (hls : ls.size = nL) (hst : st0 = As.reverse ++ .ref b :: rest) (hW : (rest.map fun v => v.category).sum ≤ 8) (hdg : decode cc pc = .ok (.invokevirtual index, 3)) (hf : cells + mc ≤ R.cells ∧ slots + ms ≤ R.slots) :
    ThrownRun p l e R s m args below meth c H locs cells slots mc ms n0 (F0 m pc ls st0) rest QT := by
  intro T hT X
  have hK := backT_of (p := p) (e := e) (below := below) (s := s) (sargs := args) (len := 3) (W := 8) hM hR.1 hR.2 (kd_ws E hcw) (fun a' U hW' => word_at hW' (good_of_word (bw_good _ hini)) (E.2.2.2.2.1 _ hini))
  obtain ⟨hx, hb, hml, hown, hts, hKW⟩ := E
  obtain ⟨cellB, hcB, hoB, hclB⟩ := hrecv
  obtain ⟨mk, methM, hnamed, hmethM, hstM, habM⟩ := Cond.instanceMethod_spec (hts _ him)
  obtain ⟨methM', cM, hmethM', -, -, -, -, -, -, hsigM⟩ := Cond.code_spec hnamed (hts _ hcw)
  cases hmethM.symm.trans hmethM'
  obtain ⟨c2, r2, m2, q1, q2, q3, q4, kP, hkP, hkPi⟩ := Cond.selects_spec (hts _ hsel)
  cases hclB.symm.trans q1
  cases (State.methodFound?_of_named hnamed ⟨hd.1, hd.2.1⟩).symm.trans q2
  cases hnamed.symm.trans q3
  have hselP : selectMethod e.platform s.vm cellB.cls mk = .method mk := by rw [Launch.admits_selectMethod X.admits]; exact q4
  have hlen : As.length = methM.sig.parameters.length := by
    have h2 := hd.2.2
    rw [hsigM] at h2
    exact hn.trans (Option.some.inj h2).symm
  obtain ⟨vm₁, X₁, hstep₁⟩ := X.invokevirtual hx hown (hts _ hl) hnamed hmethM hstM hkP hkPi ⟨hd.1, hd.2.1⟩ (a := b) (cell := cellB) (by rw [hT]; exact hcB)
    (fun z h => by rw [h] at hoB; cases hoB) hselP hmethM habM hkP hkPi (g := F0 m pc ls st0) rfl (argsL := As) (rest := rest) hlen hst (by rw [hb]; exact hdg)
  obtain ⟨x, ⟨T', l2, c2, sl2⟩, X', ⟨hq, ⟨L, e1, hL⟩, e2, e3⟩, hsteps⟩ := hK m meth c ⟨T.setVm vm₁, locs, cells, slots⟩ (F0 m pc ls rest) (.invokevirtual index) mk (Value.ref b :: As).toArray X₁ rfl (hls.trans hml.symm) (by rw [hb]; exact hdg) (lv_room (ls := ls) hW) (X₁.named hnamed)
    ⟨hf.1, hf.2, rfl, KW.moved X₁.warmed.alike hKW, State.WarmedH.trans hw0 X₁.warmed, by show P T.heap; rw [hT]; exact hP⟩
  dsimp only [Pt.U, Pt.locs, Pt.cells, Pt.slots] at X' hq e1 e2 e3 hsteps
  subst e1; subst e2; subst e3
  refine ⟨x, T', L, X', hL, ?_, fun target h => hstep₁ _ fun acts => by rw [doInvoke_state]; exact hsteps.trans h⟩
  have hq' : QT x T.heap T'.heap := hq
  rw [hT] at hq'
  exact hq'
/-- the note passes through a method without handlers -/
theorem q_leave {mc ms mc1 ms1 : Nat} {st0 : List Value} {QT QT1 : Nat → Heap → Heap → Prop} (hr : ThrownRun p l e R s m args below meth c H locs cells slots mc ms n0 (F0 m pc ls st0) rest QT) (hlk : meth.locks = false) (hnh : c.exceptionTable.toList = []) (hF : ∀ q ∈ locs, n0 q.base)
    (hq : ∀ x H', QT x H H' → QT1 x s.heap H') (h1 : cells + mc = mc1) (h2 : slots + ms = ms1) : W p l e R s m args below meth c H locs cells slots (MQT below QT1 s mc1 ms1 n0) (F0 m pc ls st0) := by
  intro T hT X
  obtain ⟨x, T', L, X', hL, hqq, st⟩ := hr T hT X
  subst h1; subst h2
  obtain ⟨hw, hrun, hend, hW, hsame⟩ := X'.leaveThrown x (g := { (F0 m pc ls st0) with stack := rest }) rfl rfl rfl (by rw [hnh]; exact fun _ h => absurd h List.not_mem_nil) hlk
  refine ⟨_, st _ hw, x, hrun, hend, ?_, hW, locs ++ L, hsame, fun q h => (List.mem_append.mp h).elim (hF q) (hL q)⟩
  exact hq x _ hqq
/-- athrow in a method without handlers -/
theorem q_athrow {QT1 : Nat → Heap → Heap → Prop} {x : Nat} (hx : p.tables.exec = Jvm.exec) (hb : c.code = cc) (hlk : meth.locks = false) (hnh : c.exceptionTable.toList = []) (hF : ∀ q ∈ locs, n0 q.base)
    (hq : QT1 x s.heap H) (hdg : decode cc pc = .ok (.athrow, 1)) : W p l e R s m args below meth c H locs cells slots (MQT below QT1 s cells slots n0) (F0 m pc ls (.ref x :: rest)) := by
  intro T hT X
  obtain ⟨hw, hrun, hend, hW, hsame⟩ := X.athrowLeaves hx (g := F0 m pc ls (.ref x :: rest)) rfl rfl rfl (by rw [hnh]; exact fun _ h => absurd h List.not_mem_nil) (a := x) (rest := rest) rfl (by rw [hb]; exact hdg) hlk
  exact ⟨_, hw, x, hrun, hend, by rw [← hT] at hq; exact hq, hW, locs, hsame, hF⟩
end KT
end
section

/-- the words on exceptions that a state's heap, or the tables' order, decide -/
def kd_XL : List Cond := [.declares (Bundle.initS "java/lang/RuntimeException"), .declares (Bundle.initS "java/lang/Exception"), .declares (Bundle.initS "java/lang/Throwable"),
  .castable "java/lang/IllegalArgumentException" "java/lang/IllegalArgumentException", .castable "java/lang/IllegalStateException" "java/lang/IllegalStateException", .castable "java/lang/ArithmeticException" "java/lang/ArithmeticException", .castable "java/util/NoSuchElementException" "java/util/NoSuchElementException",
  .laysStatic Bundle.tN "UNASSIGNED_STACK" Bundle.steD, .laysStatic Bundle.tN "SUPPRESSED_SENTINEL" Bundle.listD, .isRef (.static Bundle.tN "UNASSIGNED_STACK" Bundle.steD), .isRef (.static Bundle.tN "SUPPRESSED_SENTINEL" Bundle.listD)]
theorem kd_ls {V s : State} {C n d : String} {A A' : Array Value} (hv : V.vm = s.vm) (ho : ∀ q, q < V.heap.size → s.heap[q]? = V.heap[q]?) (h : (Cond.laysStatic C n d).before A V = true) : (Cond.laysStatic C n d).before A' s = true := by
  have hff : s.fieldFound? C n d = V.fieldFound? C n d := by unfold State.fieldFound?; rw [hv]
  simp only [Cond.before, Cond.holds, Cond.value] at h ⊢
  rw [hff, ← hv]
  cases hc : V.vm.findClass C with
  | none => simp [hc] at h
  | some c =>
    cases hf : V.fieldFound? C n d with
    | none => simp [hc, hf] at h
    | some x =>
      obtain ⟨c', k, i, f⟩ := x
      simp only [hc, hf] at h ⊢
      cases hk : k.statics with
      | none => simp [hk] at h
      | some a =>
        simp only [hk, Option.bind_some] at h ⊢
        cases ha : V.heap[a]? with
        | none => simp [ha] at h
        | some cell =>
          rw [ho a (Array.getElem?_eq_some_iff.mp ha).1, ha]
          rw [ha] at h
          exact h
theorem kd_is {V s : State} {C n d : String} {A A' : Array Value} (hv : V.vm = s.vm) (ho : ∀ q, q < V.heap.size → s.heap[q]? = V.heap[q]?) (h : (Cond.isRef (.static C n d)).before A V = true) : (Cond.isRef (.static C n d)).before A' s = true := by
  have hff : s.fieldNamed? C n d true = V.fieldNamed? C n d true := by unfold State.fieldNamed? State.fieldFound?; rw [hv]
  have he : (Term.static C n d).eval A V none [] V = (Term.static C n d).eval A' s none [] s ∨ (Term.static C n d).eval A V none [] V = none := by
    simp only [Term.eval]
    rw [hff]
    cases hf : V.fieldNamed? C n d true with
    | none => exact Or.inl rfl
    | some x =>
      obtain ⟨c', k, i⟩ := x
      cases hk : k.statics with
      | none => exact Or.inl (by simp [hk])
      | some a =>
        cases ha : V.heap[a]? with
        | none => exact Or.inr (by simp [hk, ha])
        | some cell => exact Or.inl (by simp [hk, ha, ho a (Array.getElem?_eq_some_iff.mp ha).1])
  simp only [Cond.before, Cond.holds, Cond.value] at h ⊢
  rcases he with he | he
  · rw [← he]; exact h
  · rw [he] at h; simp at h
/-- they hold wherever the machine came to from a state in which they held, if the old cells are as they were -/
theorem kd_XL.at {s0 s : State} {args : Array Value} (h : ∀ w ∈ kd_XL, w.before #[] s0 = true) (hW : s0.WarmedH s.vm) (ho : ∀ q, q < s0.heap.size → s.heap[q]? = s0.heap[q]?) : ∀ w ∈ kd_XL, w.before args s = true := by
  have tb : ∀ w : Cond, w.onTables = true → w.warmOk s0 → w.before #[] s0 = true → w.before args s = true := fun w h1 h2 h3 => va_tabs h1 (rfl : (s0.setVm s.vm).vm = s.vm) (Cond.before_warmed hW w h2 h3)
  have ls : ∀ C n d, (Cond.laysStatic C n d).before #[] s0 = true → (Cond.laysStatic C n d).before args s = true := fun C n d h3 => kd_ls (V := s0.setVm s.vm) rfl ho (Cond.before_warmed hW (.laysStatic C n d) rfl h3)
  have is : ∀ C n d, (Cond.isRef (.static C n d)).before #[] s0 = true → (Cond.isRef (.static C n d)).before args s = true := fun C n d h3 => kd_is (V := s0.setVm s.vm) rfl ho (Cond.before_warmed hW (.isRef (.static C n d)) rfl h3)
  unfold kd_XL at h ⊢
  refine List.forall_mem_cons.mpr ⟨tb _ rfl trivial (h _ (by simp)), List.forall_mem_cons.mpr ⟨tb _ rfl trivial (h _ (by simp)), List.forall_mem_cons.mpr ⟨tb _ rfl trivial (h _ (by simp)), List.forall_mem_cons.mpr ⟨tb _ rfl trivial (h _ (by simp)), List.forall_mem_cons.mpr ⟨tb _ rfl trivial (h _ (by simp)), List.forall_mem_cons.mpr ⟨tb _ rfl trivial (h _ (by simp)), List.forall_mem_cons.mpr ⟨tb _ rfl trivial (h _ (by simp)), List.forall_mem_cons.mpr ⟨ls _ _ _ (h _ (by simp)), List.forall_mem_cons.mpr ⟨ls _ _ _ (h _ (by simp)), List.forall_mem_cons.mpr ⟨is _ _ _ (h _ (by simp)), List.forall_mem_cons.mpr ⟨is _ _ _ (h _ (by simp)), fun _ h => absurd h List.not_mem_nil⟩⟩⟩⟩⟩⟩⟩⟩⟩⟩⟩
def kd_rest (X : String) : List Cond :=
  [.instantiable X 6, .castable X X, .selects X Bundle.tFill0 Bundle.tFill0, .selects X Bundle.tFill Bundle.tFill,
   .lays X Bundle.tN "cause" "Ljava/lang/Throwable;", .lays X Bundle.tN "stackTrace" Bundle.steD, .lays X Bundle.tN "suppressedExceptions" Bundle.listD, .lays X Bundle.tN "detailMessage" "Ljava/lang/String;",
   .isRef (.static Bundle.tN "UNASSIGNED_STACK" Bundle.steD), .isRef (.static Bundle.tN "SUPPRESSED_SENTINEL" Bundle.listD),
   .fieldLink Bundle.tN 198 Bundle.tN "backtrace" "Ljava/lang/Object;", .lays Bundle.tN Bundle.tN "backtrace" "Ljava/lang/Object;", .lays X Bundle.tN "backtrace" "Ljava/lang/Object;"]
/-- the chain of constructors above X, two classes between it and Throwable -/
def kd_chain (X : String) (pl : Platform) (s : State) : Prop := ∀ top, s.methodNamed? (Bundle.initS Bundle.tN) = some top → ∃ (P1 : PassC) (Ps : List PassC), Ps.length = 2 ∧ P1.LinksS pl s ∧ (∀ P, P ∈ Ps → P.LinksS pl s) ∧ s.methodNamed? (Bundle.initS X) = some P1.m ∧ P1.sup = firstOf top (Ps.map (·.toPassT)) ∧ PassesOn top (Ps.map (·.toPassT))
section KC
variable {s : State} {args : Array Value}

theorem kd_thr (hts : ∀ w ∈ BW, w.before args s = true) (hx0 : ∀ w ∈ kd_XL, w.before args s = true) : ∀ w ∈ Bundle.throwableAtoms, w.before args s = true := List.forall_mem_cons.mpr ⟨(hts _ w_16), List.forall_mem_cons.mpr ⟨(hts _ w_419), List.forall_mem_cons.mpr ⟨(hts _ w_428), List.forall_mem_cons.mpr ⟨(hts _ w_433), List.forall_mem_cons.mpr ⟨(hts _ w_436), List.forall_mem_cons.mpr ⟨(hts _ w_438), List.forall_mem_cons.mpr ⟨(hts _ w_420), List.forall_mem_cons.mpr ⟨(hts _ w_421), List.forall_mem_cons.mpr ⟨(hts _ w_31), List.forall_mem_cons.mpr ⟨(hts _ w_32), List.forall_mem_cons.mpr ⟨(hts _ w_422), List.forall_mem_cons.mpr ⟨(hts _ w_427), List.forall_mem_cons.mpr ⟨(hts _ w_434), List.forall_mem_cons.mpr ⟨(hts _ w_454), List.forall_mem_cons.mpr ⟨(hts _ w_409), List.forall_mem_cons.mpr ⟨(hts _ w_455), List.forall_mem_cons.mpr ⟨(hts _ w_411), List.forall_mem_cons.mpr ⟨(hts _ w_456), List.forall_mem_cons.mpr ⟨(hts _ w_413), List.forall_mem_cons.mpr ⟨(hts _ w_423), List.forall_mem_cons.mpr ⟨(hx0 _ (by simp [kd_XL])), List.forall_mem_cons.mpr ⟨(hts _ w_425), List.forall_mem_cons.mpr ⟨(hx0 _ (by simp [kd_XL])), List.forall_mem_cons.mpr ⟨(hts _ w_415), fun _ h => absurd h List.not_mem_nil⟩⟩⟩⟩⟩⟩⟩⟩⟩⟩⟩⟩⟩⟩⟩⟩⟩⟩⟩⟩⟩⟩⟩⟩
theorem kd_thrS (hts : ∀ w ∈ BW, w.before args s = true) : ∀ w ∈ Bundle.throwableSAtoms, w.before args s = true := List.forall_mem_cons.mpr ⟨(hts _ w_450), List.forall_mem_cons.mpr ⟨(hts _ w_451), List.forall_mem_cons.mpr ⟨(hts _ w_453), List.forall_mem_cons.mpr ⟨(hts _ w_415), fun _ h => absurd h List.not_mem_nil⟩⟩⟩⟩
theorem kd_rest_iae (hts : ∀ w ∈ BW, w.before args s = true) (hx0 : ∀ w ∈ kd_XL, w.before args s = true) : ∀ w ∈ kd_rest "java/lang/IllegalArgumentException", w.before args s = true := List.forall_mem_cons.mpr ⟨(hts _ w_398), List.forall_mem_cons.mpr ⟨(hx0 _ (by simp [kd_XL])), List.forall_mem_cons.mpr ⟨(hts _ w_406), List.forall_mem_cons.mpr ⟨(hts _ w_407), List.forall_mem_cons.mpr ⟨(hts _ w_408), List.forall_mem_cons.mpr ⟨(hts _ w_410), List.forall_mem_cons.mpr ⟨(hts _ w_412), List.forall_mem_cons.mpr ⟨(hts _ w_414), List.forall_mem_cons.mpr ⟨(hx0 _ (by simp [kd_XL])), List.forall_mem_cons.mpr ⟨(hx0 _ (by simp [kd_XL])), List.forall_mem_cons.mpr ⟨(hts _ w_418), List.forall_mem_cons.mpr ⟨(hts _ w_417), List.forall_mem_cons.mpr ⟨(hts _ w_416), fun _ h => absurd h List.not_mem_nil⟩⟩⟩⟩⟩⟩⟩⟩⟩⟩⟩⟩⟩
theorem kd_rest_ise (hts : ∀ w ∈ BW, w.before args s = true) (hx0 : ∀ w ∈ kd_XL, w.before args s = true) : ∀ w ∈ kd_rest "java/lang/IllegalStateException", w.before args s = true := List.forall_mem_cons.mpr ⟨(hts _ w_466), List.forall_mem_cons.mpr ⟨(hx0 _ (by simp [kd_XL])), List.forall_mem_cons.mpr ⟨(hts _ w_468), List.forall_mem_cons.mpr ⟨(hts _ w_431), List.forall_mem_cons.mpr ⟨(hts _ w_469), List.forall_mem_cons.mpr ⟨(hts _ w_470), List.forall_mem_cons.mpr ⟨(hts _ w_471), List.forall_mem_cons.mpr ⟨(hts _ w_472), List.forall_mem_cons.mpr ⟨(hx0 _ (by simp [kd_XL])), List.forall_mem_cons.mpr ⟨(hx0 _ (by simp [kd_XL])), List.forall_mem_cons.mpr ⟨(hts _ w_418), List.forall_mem_cons.mpr ⟨(hts _ w_417), List.forall_mem_cons.mpr ⟨(hts _ w_473), fun _ h => absurd h List.not_mem_nil⟩⟩⟩⟩⟩⟩⟩⟩⟩⟩⟩⟩⟩
theorem kd_rest_are (hts : ∀ w ∈ BW, w.before args s = true) (hx0 : ∀ w ∈ kd_XL, w.before args s = true) : ∀ w ∈ kd_rest "java/lang/ArithmeticException", w.before args s = true := List.forall_mem_cons.mpr ⟨(hts _ w_550), List.forall_mem_cons.mpr ⟨(hx0 _ (by simp [kd_XL])), List.forall_mem_cons.mpr ⟨(hts _ w_552), List.forall_mem_cons.mpr ⟨(hts _ w_430), List.forall_mem_cons.mpr ⟨(hts _ w_553), List.forall_mem_cons.mpr ⟨(hts _ w_554), List.forall_mem_cons.mpr ⟨(hts _ w_555), List.forall_mem_cons.mpr ⟨(hts _ w_556), List.forall_mem_cons.mpr ⟨(hx0 _ (by simp [kd_XL])), List.forall_mem_cons.mpr ⟨(hx0 _ (by simp [kd_XL])), List.forall_mem_cons.mpr ⟨(hts _ w_418), List.forall_mem_cons.mpr ⟨(hts _ w_417), List.forall_mem_cons.mpr ⟨(hts _ w_557), fun _ h => absurd h List.not_mem_nil⟩⟩⟩⟩⟩⟩⟩⟩⟩⟩⟩⟩⟩
theorem kd_rest_nse (hts : ∀ w ∈ BW, w.before args s = true) (hx0 : ∀ w ∈ kd_XL, w.before args s = true) : ∀ w ∈ kd_rest "java/util/NoSuchElementException", w.before args s = true := List.forall_mem_cons.mpr ⟨(hts _ w_758), List.forall_mem_cons.mpr ⟨(hx0 _ (by simp [kd_XL])), List.forall_mem_cons.mpr ⟨(hts _ w_760), List.forall_mem_cons.mpr ⟨(hts _ w_432), List.forall_mem_cons.mpr ⟨(hts _ w_761), List.forall_mem_cons.mpr ⟨(hts _ w_762), List.forall_mem_cons.mpr ⟨(hts _ w_763), List.forall_mem_cons.mpr ⟨(hts _ w_764), List.forall_mem_cons.mpr ⟨(hx0 _ (by simp [kd_XL])), List.forall_mem_cons.mpr ⟨(hx0 _ (by simp [kd_XL])), List.forall_mem_cons.mpr ⟨(hts _ w_418), List.forall_mem_cons.mpr ⟨(hts _ w_417), List.forall_mem_cons.mpr ⟨(hts _ w_765), fun _ h => absurd h List.not_mem_nil⟩⟩⟩⟩⟩⟩⟩⟩⟩⟩⟩⟩⟩
theorem kd_ps_rt (hts : ∀ w ∈ BW, w.before args s = true) (hx0 : ∀ w ∈ kd_XL, w.before args s = true) : ∀ w ∈ Bundle.passSAtoms "java/lang/RuntimeException" "java/lang/Exception" 7 prog_17_method_2_code, w.before args s = true := List.forall_mem_cons.mpr ⟨(hts _ w_444), List.forall_mem_cons.mpr ⟨(hts _ w_445), List.forall_mem_cons.mpr ⟨(hts _ w_446), List.forall_mem_cons.mpr ⟨(hts _ w_447), List.forall_mem_cons.mpr ⟨(hx0 _ (by simp [kd_XL])), fun _ h => absurd h List.not_mem_nil⟩⟩⟩⟩⟩
theorem kd_ps_ex (hts : ∀ w ∈ BW, w.before args s = true) (hx0 : ∀ w ∈ kd_XL, w.before args s = true) : ∀ w ∈ Bundle.passSAtoms "java/lang/Exception" "java/lang/Throwable" 7 prog_13_method_2_code, w.before args s = true := List.forall_mem_cons.mpr ⟨(hts _ w_447), List.forall_mem_cons.mpr ⟨(hts _ w_448), List.forall_mem_cons.mpr ⟨(hts _ w_449), List.forall_mem_cons.mpr ⟨(hts _ w_450), List.forall_mem_cons.mpr ⟨(hx0 _ (by simp [kd_XL])), fun _ h => absurd h List.not_mem_nil⟩⟩⟩⟩⟩
theorem kd_ps_iae (hts : ∀ w ∈ BW, w.before args s = true) (hx0 : ∀ w ∈ kd_XL, w.before args s = true) : ∀ w ∈ Bundle.passSAtoms "java/lang/IllegalArgumentException" "java/lang/RuntimeException" 7 prog_14_method_2_code, w.before args s = true := List.forall_mem_cons.mpr ⟨(hts _ w_441), List.forall_mem_cons.mpr ⟨(hts _ w_442), List.forall_mem_cons.mpr ⟨(hts _ w_443), List.forall_mem_cons.mpr ⟨(hts _ w_444), List.forall_mem_cons.mpr ⟨(hx0 _ (by simp [kd_XL])), fun _ h => absurd h List.not_mem_nil⟩⟩⟩⟩⟩
theorem kd_ch_iae (hts : ∀ w ∈ BW, w.before args s = true) (hx0 : ∀ w ∈ kd_XL, w.before args s = true) {pl : Platform} (hpl : pl.magicAccessors = ({} : Platform).magicAccessors) : kd_chain "java/lang/IllegalArgumentException" pl s := by
  intro top htop
  obtain ⟨P1, L1, m1, u1⟩ := PassC.ofS_atoms (args := args) (s := s) hpl (X := "java/lang/IllegalArgumentException") (Y := "java/lang/RuntimeException") (index := 7) (bytes := prog_14_method_2_code) (by decide) (by decide) (by decide +kernel) (by decide +kernel) (by decide +kernel) (by decide +kernel) (kd_ps_iae hts hx0)
  obtain ⟨P2, L2, m2, u2⟩ := PassC.ofS_atoms (args := args) (s := s) hpl (X := "java/lang/RuntimeException") (Y := "java/lang/Exception") (index := 7) (bytes := prog_17_method_2_code) (by decide) (by decide) (by decide +kernel) (by decide +kernel) (by decide +kernel) (by decide +kernel) (kd_ps_rt hts hx0)
  obtain ⟨P3, L3, m3, u3⟩ := PassC.ofS_atoms (args := args) (s := s) hpl (X := "java/lang/Exception") (Y := "java/lang/Throwable") (index := 7) (bytes := prog_13_method_2_code) (by decide) (by decide) (by decide +kernel) (by decide +kernel) (by decide +kernel) (by decide +kernel) (kd_ps_ex hts hx0)
  refine ⟨P1, [P2, P3], rfl, L1, ?_, m1, Option.some.inj (u1.symm.trans m2), Option.some.inj (u2.symm.trans m3), Option.some.inj (u3.symm.trans htop), trivial⟩
  intro P hP
  rcases List.mem_cons.mp hP with rfl | hP
  · exact L2
  · rw [List.mem_singleton.mp hP]; exact L3
theorem kd_ps_ise (hts : ∀ w ∈ BW, w.before args s = true) (hx0 : ∀ w ∈ kd_XL, w.before args s = true) : ∀ w ∈ Bundle.passSAtoms "java/lang/IllegalStateException" "java/lang/RuntimeException" 7 prog_15_method_2_code, w.before args s = true := List.forall_mem_cons.mpr ⟨(hts _ w_476), List.forall_mem_cons.mpr ⟨(hts _ w_477), List.forall_mem_cons.mpr ⟨(hts _ w_478), List.forall_mem_cons.mpr ⟨(hts _ w_444), List.forall_mem_cons.mpr ⟨(hx0 _ (by simp [kd_XL])), fun _ h => absurd h List.not_mem_nil⟩⟩⟩⟩⟩
theorem kd_ch_ise (hts : ∀ w ∈ BW, w.before args s = true) (hx0 : ∀ w ∈ kd_XL, w.before args s = true) {pl : Platform} (hpl : pl.magicAccessors = ({} : Platform).magicAccessors) : kd_chain "java/lang/IllegalStateException" pl s := by
  intro top htop
  obtain ⟨P1, L1, m1, u1⟩ := PassC.ofS_atoms (args := args) (s := s) hpl (X := "java/lang/IllegalStateException") (Y := "java/lang/RuntimeException") (index := 7) (bytes := prog_15_method_2_code) (by decide) (by decide) (by decide +kernel) (by decide +kernel) (by decide +kernel) (by decide +kernel) (kd_ps_ise hts hx0)
  obtain ⟨P2, L2, m2, u2⟩ := PassC.ofS_atoms (args := args) (s := s) hpl (X := "java/lang/RuntimeException") (Y := "java/lang/Exception") (index := 7) (bytes := prog_17_method_2_code) (by decide) (by decide) (by decide +kernel) (by decide +kernel) (by decide +kernel) (by decide +kernel) (kd_ps_rt hts hx0)
  obtain ⟨P3, L3, m3, u3⟩ := PassC.ofS_atoms (args := args) (s := s) hpl (X := "java/lang/Exception") (Y := "java/lang/Throwable") (index := 7) (bytes := prog_13_method_2_code) (by decide) (by decide) (by decide +kernel) (by decide +kernel) (by decide +kernel) (by decide +kernel) (kd_ps_ex hts hx0)
  refine ⟨P1, [P2, P3], rfl, L1, ?_, m1, Option.some.inj (u1.symm.trans m2), Option.some.inj (u2.symm.trans m3), Option.some.inj (u3.symm.trans htop), trivial⟩
  intro P hP
  rcases List.mem_cons.mp hP with rfl | hP
  · exact L2
  · rw [List.mem_singleton.mp hP]; exact L3
theorem kd_ps_are (hts : ∀ w ∈ BW, w.before args s = true) (hx0 : ∀ w ∈ kd_XL, w.before args s = true) : ∀ w ∈ Bundle.passSAtoms "java/lang/ArithmeticException" "java/lang/RuntimeException" 7 prog_12_method_2_code, w.before args s = true := List.forall_mem_cons.mpr ⟨(hts _ w_560), List.forall_mem_cons.mpr ⟨(hts _ w_561), List.forall_mem_cons.mpr ⟨(hts _ w_562), List.forall_mem_cons.mpr ⟨(hts _ w_444), List.forall_mem_cons.mpr ⟨(hx0 _ (by simp [kd_XL])), fun _ h => absurd h List.not_mem_nil⟩⟩⟩⟩⟩
theorem kd_ch_are (hts : ∀ w ∈ BW, w.before args s = true) (hx0 : ∀ w ∈ kd_XL, w.before args s = true) {pl : Platform} (hpl : pl.magicAccessors = ({} : Platform).magicAccessors) : kd_chain "java/lang/ArithmeticException" pl s := by
  intro top htop
  obtain ⟨P1, L1, m1, u1⟩ := PassC.ofS_atoms (args := args) (s := s) hpl (X := "java/lang/ArithmeticException") (Y := "java/lang/RuntimeException") (index := 7) (bytes := prog_12_method_2_code) (by decide) (by decide) (by decide +kernel) (by decide +kernel) (by decide +kernel) (by decide +kernel) (kd_ps_are hts hx0)
  obtain ⟨P2, L2, m2, u2⟩ := PassC.ofS_atoms (args := args) (s := s) hpl (X := "java/lang/RuntimeException") (Y := "java/lang/Exception") (index := 7) (bytes := prog_17_method_2_code) (by decide) (by decide) (by decide +kernel) (by decide +kernel) (by decide +kernel) (by decide +kernel) (kd_ps_rt hts hx0)
  obtain ⟨P3, L3, m3, u3⟩ := PassC.ofS_atoms (args := args) (s := s) hpl (X := "java/lang/Exception") (Y := "java/lang/Throwable") (index := 7) (bytes := prog_13_method_2_code) (by decide) (by decide) (by decide +kernel) (by decide +kernel) (by decide +kernel) (by decide +kernel) (kd_ps_ex hts hx0)
  refine ⟨P1, [P2, P3], rfl, L1, ?_, m1, Option.some.inj (u1.symm.trans m2), Option.some.inj (u2.symm.trans m3), Option.some.inj (u3.symm.trans htop), trivial⟩
  intro P hP
  rcases List.mem_cons.mp hP with rfl | hP
  · exact L2
  · rw [List.mem_singleton.mp hP]; exact L3
theorem kd_ps_nse (hts : ∀ w ∈ BW, w.before args s = true) (hx0 : ∀ w ∈ kd_XL, w.before args s = true) : ∀ w ∈ Bundle.passSAtoms "java/util/NoSuchElementException" "java/lang/RuntimeException" 13 prog_24_method_4_code, w.before args s = true := List.forall_mem_cons.mpr ⟨(hts _ w_768), List.forall_mem_cons.mpr ⟨(hts _ w_769), List.forall_mem_cons.mpr ⟨(hts _ w_770), List.forall_mem_cons.mpr ⟨(hts _ w_444), List.forall_mem_cons.mpr ⟨(hx0 _ (by simp [kd_XL])), fun _ h => absurd h List.not_mem_nil⟩⟩⟩⟩⟩
theorem kd_ch_nse (hts : ∀ w ∈ BW, w.before args s = true) (hx0 : ∀ w ∈ kd_XL, w.before args s = true) {pl : Platform} (hpl : pl.magicAccessors = ({} : Platform).magicAccessors) : kd_chain "java/util/NoSuchElementException" pl s := by
  intro top htop
  obtain ⟨P1, L1, m1, u1⟩ := PassC.ofS_atoms (args := args) (s := s) hpl (X := "java/util/NoSuchElementException") (Y := "java/lang/RuntimeException") (index := 13) (bytes := prog_24_method_4_code) (by decide) (by decide) (by decide +kernel) (by decide +kernel) (by decide +kernel) (by decide +kernel) (kd_ps_nse hts hx0)
  obtain ⟨P2, L2, m2, u2⟩ := PassC.ofS_atoms (args := args) (s := s) hpl (X := "java/lang/RuntimeException") (Y := "java/lang/Exception") (index := 7) (bytes := prog_17_method_2_code) (by decide) (by decide) (by decide +kernel) (by decide +kernel) (by decide +kernel) (by decide +kernel) (kd_ps_rt hts hx0)
  obtain ⟨P3, L3, m3, u3⟩ := PassC.ofS_atoms (args := args) (s := s) hpl (X := "java/lang/Exception") (Y := "java/lang/Throwable") (index := 7) (bytes := prog_13_method_2_code) (by decide) (by decide) (by decide +kernel) (by decide +kernel) (by decide +kernel) (by decide +kernel) (kd_ps_ex hts hx0)
  refine ⟨P1, [P2, P3], rfl, L1, ?_, m1, Option.some.inj (u1.symm.trans m2), Option.some.inj (u2.symm.trans m3), Option.some.inj (u3.symm.trans htop), trivial⟩
  intro P hP
  rcases List.mem_cons.mp hP with rfl | hP
  · exact L2
  · rw [List.mem_singleton.mp hP]; exact L3
end KC
end
section

section KC2
variable {p : Program} {l : Launch} {e : Env} {R : Room} {s : State} {m₀ : MethodId} {args : Array Value} {below : List Frame} {meth : Method} {c : Code} {U : State} {cells slots : Nat}
set_option maxHeartbeats 2000000 in
/-- the constructors above a new exception, run on a cell that is new: it keeps its class; nothing else changes -/
theorem kd_ctor (X : Stand p l e R s m₀ args below meth c U [] cells slots) (hexec : p.tables.exec = Jvm.exec) (htr : e.platform.stackTraces = false) {own cls : String} {ic : Nat} {bytes : ByteArray}
    (hown : s.vm.findClass own = some m₀.cls) (hnot : cls ≠ "java/lang/invoke/MethodHandle" ∧ cls ≠ "java/lang/invoke/VarHandle")
    (hA : ∀ w ∈ Bundle.throwableAtoms, w.before args s = true) (hA2 : ∀ w ∈ Bundle.throwableSAtoms, w.before args s = true) (hA3 : ∀ w ∈ kd_rest cls, w.before args s = true) (hch : kd_chain cls e.platform s)
    (hl : (Cond.methodLink own ic (Bundle.initS cls)).before args s = true) (hi : (Cond.instanceMethod (Bundle.initS cls)).before args s = true) (hc : (Cond.code (Bundle.initS cls) bytes 2 none).before args s = true)
    {a : Addr} {cX : ClassId} {kX : Class} (hfoundX : s.vm.findClass cls = some cX) (hkX : s.vm.classes[cX]? = some kX) (hcell : U.heap[a]? = some (freshCell cX kX)) (hnew : s.heap.size ≤ a)
    {msg : Value} (hmsg : msg.isRef = true) {g : JFrame} (hg : g.method = m₀) (hsize : g.locals.size = c.maxLocals) {rest : List Value} (hstack : g.stack = msg :: .ref a :: rest)
    (hd : decode c.code g.pc = .ok (.invokespecial ic, 3)) (hRf : 5 < R.frames) (hRl : 2 * g.monitorRoom + (rest.map fun v => v.category).sum + 81 ≤ R.locals) :
    ∃ (vm' : Vm) (cell' : Cell) (L : List Loc), Stand p l e R s m₀ args below meth c ((U.setVm vm').setCell a cell') L cells slots ∧ cell'.cls = cX ∧ cell'.vm = .none ∧ (∀ y ∈ L, y.base = a) ∧
      ∀ target, Steps p.tables e below (((U.setVm vm').setCell a cell').setTop { g with pc := g.pc + 3, stack := rest }) target → Steps p.tables e below (U.setTop g) target := by
  have howns : e.platform.frameOwnsMonitors = true := by rw [X.admits.platform]
  have hfin : e.platform.finalization = false := by rw [X.admits.platform]
  have hpl : e.platform.magicAccessors = ({} : Platform).magicAccessors := by rw [X.admits.platform]
  have r : ∀ w, w ∈ kd_rest cls → w.holds args s none s [] = true := fun w hw => hA3 w hw
  obtain ⟨T, Z0, L, -, Y⟩ := ThrowableC.of_atoms (args := args) howns hfin hpl hA
  obtain ⟨Z, M, LZ, LM, hnZ⟩ := Init0T.ofS_atoms (args := args) hpl L Y hA2
  obtain ⟨P1, Ps, hlen, L1, hL, hP1m, hlink1, hlink⟩ := hch _ hnZ
  have hfound : s.vm.findClass cls = some P1.m.cls := findClass_of_methodNamed hP1m
  obtain rfl : cX = P1.m.cls := Option.some.inj (hfoundX.symm.trans hfound)
  obtain ⟨c1, kX', hc1, hk, hord, -, -, -⟩ := Cond.instantiable_spec (r (.instantiable cls 6) (by simp [kd_rest]))
  obtain rfl : c1 = P1.m.cls := Option.some.inj (hc1.symm.trans hfound)
  obtain rfl : kX = kX' := Option.some.inj (hkX.symm.trans hk)
  have sel : ∀ (y : MethodName) (q : MethodId), (Cond.selects cls y y).holds args s none s [] = true → s.methodNamed? y = some q → (y.cls ≠ "java/lang/invoke/MethodHandle" ∧ y.cls ≠ "java/lang/invoke/VarHandle") → selectMethod e.platform s.vm P1.m.cls q = .method q := by
    intro y q hs hq hy
    obtain ⟨c2, r2, m2, q1, q2, q3, q4, -⟩ := Cond.selects_spec hs
    obtain rfl : c2 = P1.m.cls := Option.some.inj (q1.symm.trans hfound)
    obtain rfl : r2 = q := Option.some.inj (q2.symm.trans (State.methodFound?_of_named hq hy))
    obtain rfl : m2 = r2 := Option.some.inj (q3.symm.trans hq)
    rw [Launch.admits_selectMethod X.admits]
    exact q4
  have hsel0 := sel Bundle.tFill0 T.fill0 (r _ (by simp [kd_rest])) Y.fill0 (by decide)
  have hselF := sel Bundle.tFill T.fill (r _ (by simp [kd_rest])) Y.fill (by decide)
  obtain ⟨cellS0, hcS0, hiss⟩ := Y.statics
  obtain ⟨u0, hu0⟩ := Cond.staticRefV Y.unassigned L.unassignedStatic L.statics hcS0 hiss (r (.isRef (.static Bundle.tN "UNASSIGNED_STACK" Bundle.steD)) (by simp [kd_rest]))
  obtain ⟨sen, hsen⟩ := Cond.staticRefV Y.sentinel L.sentinelStatic L.statics hcS0 hiss (r (.isRef (.static Bundle.tN "SUPPRESSED_SENTINEL" Bundle.listD)) (by simp [kd_rest]))
  obtain ⟨ci198, i198, fB, hk198, hg198, ha198, hsB, -, hnB, htB, hffB⟩ := Cond.ownField (t := .object "java/lang/Object") Y.found L.cls (by decide +kernel) (r (.fieldLink Bundle.tN 198 Bundle.tN "backtrace" "Ljava/lang/Object;") (by simp [kd_rest])) (r (.lays Bundle.tN Bundle.tN "backtrace" "Ljava/lang/Object;") (by simp [kd_rest])) e.platform hpl
  obtain ⟨cellS, hcS', heS, -, hkeep⟩ := X.same.2.2.2.2.2 T.aS cellS0 hcS0
  have hcellS : U.heap[T.aS]? = some cellS := hcS'
  have hknownS : cellS.vm ≠ .unknown := by
    rw [heS]
    intro hu
    rw [show cellS0.vm = .unknown from hu] at hiss
    cases hiss
  have hneS : T.aS ≠ a := Nat.ne_of_lt (Nat.lt_of_lt_of_le (Array.getElem?_eq_some_iff.mp hcS0).1 hnew)
  obtain ⟨iM, hffM⟩ := Y.msg
  obtain ⟨tyC, dC, hdC, hdnC⟩ := Cond.laysAt hfound hk Y.cause (r (.lays cls Bundle.tN "cause" "Ljava/lang/Throwable;") (by simp [kd_rest]))
  obtain ⟨tyS, dS, hdS, hdnS⟩ := Cond.laysAt hfound hk Y.stack (r (.lays cls Bundle.tN "stackTrace" Bundle.steD) (by simp [kd_rest]))
  obtain ⟨tyP, dP, hdP, hdnP⟩ := Cond.laysAt hfound hk Y.supp (r (.lays cls Bundle.tN "suppressedExceptions" Bundle.listD) (by simp [kd_rest]))
  obtain ⟨tyM, -, -, -⟩ := Cond.laysAt hfound hk hffM (r (.lays cls Bundle.tN "detailMessage" "Ljava/lang/String;") (by simp [kd_rest]))
  obtain ⟨tyB, dB, hdB, hdnB⟩ := Cond.laysAt hfound hk hffB (r (.lays cls Bundle.tN "backtrace" "Ljava/lang/Object;") (by simp [kd_rest]))
  have bC := Cond.laysApart hdB hdC hdnB hdnC (by rw [hnB, Y.causeName]; decide)
  have bS := Cond.laysApart hdB hdS hdnB hdnS (by rw [hnB, Y.stackName]; decide)
  have bP := Cond.laysApart hdB hdP hdnB hdnP (by rw [hnB, Y.suppName]; decide)
  have hskip : SkipFacts T e.platform s (fun u => u) u0 ((preparedCellV T.toThrowableT (freshCell P1.m.cls kX) a u0 sen).withEntry U.cur) :=
    ⟨{ ci198 := ci198, i198 := i198, fBack := fB }, ⟨hk198, hg198, ha198, hsB⟩, by
      have := fresh_default (c := P1.m.cls) tyB
      rw [htB] at this
      simpa [preparedCellV, Cell.setSlot, Cell.withEntry, Array.getElem?_setIfInBounds, bC, bS, bP, bC.symm, bS.symm, bP.symm, defaultValue] using this, fun _ _ => rfl⟩
  obtain ⟨tm, methC, cdC, kC, vm₁, hnC, -, -, -, -, -, -, -, hW₁, st1⟩ := Steps.initColdS (tb := p.tables) (e := e) (below := below) (s := s) (U := U) X.here hexec X.warmed hpl hown (t := Bundle.initS cls) rfl rfl hnot hl hi hc (f := g) hg (a := a) (msg := msg) (rest := rest) hstack hd
  obtain rfl : tm = P1.m := Option.some.inj (hnC.symm.trans hP1m)
  have X₁ := X.noted hW₁
  obtain ⟨vm₂, X₂, st2⟩ := X₁.ctorMessageOffV hexec (g := { g with stack := rest }) hg hsize T L Z LZ M LM (P1 :: Ps)
    (fun P hP => by rcases List.mem_cons.mp hP with rfl | hP; exact L1; exact hL P hP) ⟨hlink1, hlink⟩ (u0 := u0) (sen := sen) (self := a) hmsg (cell := freshCell P1.m.cls kX) (cellS := cellS)
    hcell (fun _ => by simp) (by simp) rfl rfl hsel0 hselF hcellS hneS hknownS (by rw [hkeep _ List.not_mem_nil]; exact hu0) (by rw [hkeep _ List.not_mem_nil]; exact hsen)
    (Takes.of_laid hk hord tyC (by rw [Y.causeType]; rfl)) (Takes.of_laid hk hord tyS (by rw [Y.stackType]; exact fits_refV_array _ u0)) (Takes.of_laid hk hord tyP (by rw [Y.suppType]; exact fits_refV_object _ sen))
    (Takes.of_laid hk hord tyM (by rw [Y.msgType]; exact fits_refV_object _ ⟨msg, hmsg⟩)) Y.objLocals hskip htr [] hd
    (by simp only [List.length_cons, hlen]; omega) (by simp only [List.length_cons, hlen]; omega)
  refine ⟨vm₂, plainBareV T.toThrowableT (freshCell P1.m.cls kX) a u0 sen msg, _, X₂, rfl, rfl, ?_, fun target h => st1 _ (fun acts => ?_)⟩
  · intro y hy
    simp only [List.nil_append, List.mem_cons, List.not_mem_nil, or_false] at hy
    rcases hy with rfl | rfl | rfl | rfl | rfl <;> rfl
  · rw [doInvoke_state]
    exact st2 _ h
end KC2
section KC3
variable {p : Program} {l : Launch} {e : Env} {R : Room} {s : State} {m : MethodId} {args : Array Value} {below : List Frame} {meth : Method} {c : Code} {H : Heap} {locs : List Loc} {cells slots : Nat} {Q : State → Prop}
variable {cc : ByteArray} {nL : Nat} {pc : Nat} {ls : Array Slot} {rest : List Value} {g : WG} {own : String} {n0 : Nat → Prop} {a : Nat} {s0 : State}
/-- the words on an exception class, at a state -/
def kd_XC (cls : String) (bytes : ByteArray) (s : State) (args : Array Value) : Prop :=
  (cls ≠ "java/lang/invoke/MethodHandle" ∧ cls ≠ "java/lang/invoke/VarHandle") ∧ (∀ w ∈ Bundle.throwableAtoms, w.before args s = true) ∧ (∀ w ∈ Bundle.throwableSAtoms, w.before args s = true) ∧ (∀ w ∈ kd_rest cls, w.before args s = true) ∧ (∀ pl : Platform, pl.magicAccessors = ({} : Platform).magicAccessors → kd_chain cls pl s) ∧
  (Cond.instanceMethod (Bundle.initS cls)).before args s = true ∧ (Cond.code (Bundle.initS cls) bytes 2 none).before args s = true
theorem q_ctor {cls : String} {ic : Nat} {bytes : ByteArray} {cX : ClassId} {kX : Class} {msg : Value} (E : EV p m c cc nL s args own g) (hfl : l.flags = flags0) (hX : kd_XC cls bytes s args) (hl : Cond.methodLink own ic (Bundle.initS cls) ∈ BW)
    (hfx : s.vm.findClass cls = some cX) (hkX : s.vm.classes[cX]? = some kX) (hcell : H[a]? = some (freshCell cX kX)) (hnew : s.heap.size ≤ a) (hmsg : msg.isRef = true) (hls : ls.size = nL) (hdg : decode cc pc = .ok (.invokespecial ic, 3)) (hRf : 5 < R.frames) (hRl : (rest.map fun v => v.category).sum + 81 ≤ R.locals)
    (kk : ∀ (H' : Heap) (L : List Loc) (cell : Cell), H'.size = H.size → H'[a]? = some cell → cell.cls = cX → cell.vm = .none → (∀ q, q ≠ a → H'[q]? = H[q]?) → (∀ y ∈ L, y.base = a) → W p l e R s m args below meth c H' L cells slots Q (F0 m (pc + 3) ls rest)) :
    W p l e R s m args below meth c H [] cells slots Q (F0 m pc ls (msg :: .ref a :: rest)) := by
  intro T hT X
  obtain ⟨hnot, hA, hA2, hA3, hch, hi, hc⟩ := hX
  have hpl : e.platform.magicAccessors = ({} : Platform).magicAccessors := by rw [X.admits.platform]
  have htr : e.platform.stackTraces = false := by
    rw [X.admits.platform]
    show l.stackTraces = false
    unfold Launch.stackTraces
    rw [hfl]
    decide +kernel
  obtain ⟨vm', cell', L, X', h1, h2, h3, st⟩ := kd_ctor X E.1 htr E.2.2.2.1 hnot hA hA2 hA3 (hch _ hpl) (E.2.2.2.2.1 _ hl) hi hc hfx hkX (by rw [hT]; exact hcell) hnew hmsg (g := F0 m pc ls (msg :: .ref a :: rest)) rfl (hls.trans E.2.2.1.symm) (rest := rest) rfl (by rw [E.2.1]; exact hdg) hRf (by show 2 * 0 + _ + _ ≤ _; omega)
  have hlt : a < (T.setVm vm').heap.size := by
    show a < T.heap.size
    rw [hT]
    exact (Array.getElem?_eq_some_iff.mp hcell).1
  obtain ⟨t, a1, b1⟩ := kk ((T.setVm vm').setCell a cell').heap L cell' (by rw [size_setCell]; show T.heap.size = _; rw [hT]) (heapAt_setCell_self _ hlt) h1 h2 (fun q hq => by rw [heapAt_setCell_ne _ (Ne.symm hq)]; show T.heap[q]? = _; rw [hT]) h3 _ rfl X'
  exact ⟨t, st t a1, b1⟩
end KC3
section KC4
variable {s : State} {args : Array Value}
theorem kd_xc_iae (hts : ∀ w ∈ BW, w.before args s = true) (hx0 : ∀ w ∈ kd_XL, w.before args s = true) : kd_XC "java/lang/IllegalArgumentException" prog_14_method_2_code s args := ⟨by decide, kd_thr hts hx0, kd_thrS hts, kd_rest_iae hts hx0, fun pl hpl => kd_ch_iae hts hx0 hpl, (hts _ w_441), (hts _ w_442)⟩
theorem kd_xc_ise (hts : ∀ w ∈ BW, w.before args s = true) (hx0 : ∀ w ∈ kd_XL, w.before args s = true) : kd_XC "java/lang/IllegalStateException" prog_15_method_2_code s args := ⟨by decide, kd_thr hts hx0, kd_thrS hts, kd_rest_ise hts hx0, fun pl hpl => kd_ch_ise hts hx0 hpl, (hts _ w_476), (hts _ w_477)⟩
theorem kd_xc_are (hts : ∀ w ∈ BW, w.before args s = true) (hx0 : ∀ w ∈ kd_XL, w.before args s = true) : kd_XC "java/lang/ArithmeticException" prog_12_method_2_code s args := ⟨by decide, kd_thr hts hx0, kd_thrS hts, kd_rest_are hts hx0, fun pl hpl => kd_ch_are hts hx0 hpl, (hts _ w_560), (hts _ w_561)⟩
theorem kd_xc_nse (hts : ∀ w ∈ BW, w.before args s = true) (hx0 : ∀ w ∈ kd_XL, w.before args s = true) : kd_XC "java/util/NoSuchElementException" prog_24_method_4_code s args := ⟨by decide, kd_thr hts hx0, kd_thrS hts, kd_rest_nse hts hx0, fun pl hpl => kd_ch_nse hts hx0 hpl, (hts _ w_768), (hts _ w_769)⟩
end KC4
end
section

def kd_MSG : List (Nat × String) := [(114, "there are 1 to 8 bytes to feed"), (122, "the tape is full"), (285, "there is no such scalar"), (156, "the value is below 0"), (162, "a scalar has words 0 to 7"), (281, "there are kinds 0 to 3"), (177, "a division by 0"), (196, "the exponent is below 0"), (204, "there are unities 0 to 32"), (287, "there is no such point"), (230, "there is no such byte"), (283, "the number is out of its range"), (262, "there are fewer powers"), (279, "there is nothing such to look at")]
/-- what the law's entry brings for exceptions -/
def XS (l : Launch) (s0 : State) : Prop := l.flags = flags0 ∧ (∀ w ∈ kd_XL, w.before #[] s0 = true) ∧ ∀ kt ∈ kd_MSG, ∃ a, vk_R "KateDesk" kt.1 kt.2 a s0
/-- the cells that were there at the law's entry are as they were -/
def OLD (s0 : State) (H : Heap) : Prop := ∀ q, q < s0.heap.size → H[q]? = s0.heap[q]?
theorem OLD.kj {g : WG} {S : Nat → Prop} {s0 : State} {H H' : Heap} (h : OLD s0 H) (hk : KJ g S H H') (hS : ∀ q, S q → s0.heap.size ≤ q) : OLD s0 H' := fun q hq => (hk.off (fun hs => absurd (hS q hs) (Nat.not_le.mpr hq))).trans (h q hq)
/-- an exception of class X came; all that was there is as it was -/
def TQ (s0 : State) (X : String) (x : Nat) (H H' : Heap) : Prop := H.size ≤ H'.size ∧ (∀ q, q < H.size → H'[q]? = H[q]?) ∧ ∃ cell : Cell, H'[x]? = some cell ∧ s0.vm.findClass X = some cell.cls ∧ cell.vm = .none
section KQ
variable {p : Program} {l : Launch} {e : Env} {R : Room} {s : State} {m : MethodId} {args : Array Value} {below : List Frame} {meth : Method} {c : Code} {H : Heap} {locs : List Loc} {cells slots : Nat} {Q : State → Prop}
variable {cc : ByteArray} {nL : Nat} {pc : Nat} {ls : Array Slot} {rest : List Value} {g : WG} {own : String} {n0 : Nat → Prop} {a : Nat} {s0 : State}
theorem q_ldcSW {own tx : String} {index q : Nat} (hexec : p.tables.exec = Jvm.exec) (hb : c.code = cc) (hown : s.vm.findClass own = some m.cls) (hZ : vk_R own index tx q s) (hdg : decode cc pc = .ok (.ldc_w index, 3))
    (k : W p l e R s m args below meth c H locs cells slots Q (F0 m (pc + 3) ls (.ref q :: rest))) : W p l e R s m args below meth c H locs cells slots Q (F0 m pc ls rest) := by
  intro T hT X
  obtain ⟨t, a1, b1⟩ := k T hT X
  exact ⟨t, X.ldcStringW hexec hown (text := tx) (a := q) hZ.1 hZ.2 (g := F0 m pc ls rest) rfl (by rw [hb]; exact hdg) t a1, b1⟩
/-- new X(text); throw: the same for both forms of ldc: from behind it -/
theorem q_throw1 {cls : String} {ic len : Nat} {bytes : ByteArray} {cX : ClassId} {kX : Class} {q : Nat} (E : EV p m c cc nL s args "KateDesk" g) (hxs : XS l s0) (hw0 : s0.WarmedH s.vm) (ho : OLD s0 s.heap) (hlk : meth.locks = false) (hnh : c.exceptionTable.toList = []) (hn0 : n0 s.heap.size)
    (hXC : kd_XC cls bytes s args) (hl : Cond.methodLink "KateDesk" ic (Bundle.initS cls) ∈ BW) (hfx : s.vm.findClass cls = some cX) (hkX : s.vm.classes[cX]? = some kX) (hls : ls.size = nL)
    (hd1 : decode cc pc = .ok (.invokespecial ic, 3)) (hd2 : decode cc (pc + 3) = .ok (.athrow, 1)) (hRf : 5 < R.frames) (hRl : 82 ≤ R.locals) :
    W p l e R s m args below meth c (s.heap.push (freshCell cX kX)) [] 1 6 (MQT below (TQ s0 cls) s 1 6 n0) (F0 m pc ls [.ref q, .ref s.heap.size, .ref s.heap.size]) := by
  refine q_ctor E hxs.1 hXC hl hfx hkX (by simp) (Nat.le_refl _) rfl hls hd1 hRf (by show 1 + 81 ≤ _; exact hRl) (fun H' L cell h1 h2 h3 h4 h5 h6 => ?_)
  refine q_athrow E.1 E.2.1 hlk hnh (fun y hy => by rw [h6 y hy]; exact hn0) ⟨by rw [h1]; simp, fun q hq => ?_, cell, h2, ?_, h4⟩ hd2
  · rw [h5 q (Nat.ne_of_lt hq), Array.getElem?_push_lt hq]
    simp [hq]
  · rw [h3, ← hw0.alike.findClass]
    exact hfx
theorem q_throw {cls tx : String} {ik ic k : Nat} {bytes : ByteArray} (E : EV p m c cc nL s args "KateDesk" g) (hxs : XS l s0) (hw0 : s0.WarmedH s.vm) (ho : OLD s0 s.heap) (hlk : meth.locks = false) (hnh : c.exceptionTable.toList = []) (hn0 : n0 s.heap.size)
    (hXC : kd_XC cls bytes s args) (hcl : Cond.classLink "KateDesk" ik cls ∈ BW) (hins : Cond.instantiable cls 6 ∈ BW) (hini : Cond.initialized cls ∈ BW) (hl : Cond.methodLink "KateDesk" ic (Bundle.initS cls) ∈ BW) (hm : (k, tx) ∈ kd_MSG) (hls : ls.size = nL)
    (hd0 : decode cc pc = .ok (.new ik, 3)) (hd3 : decode cc (pc + 3) = .ok (.dup, 1)) (hd4 : decode cc (pc + 3 + 1) = .ok (.ldc k, 2)) (hd1 : decode cc (pc + 3 + 1 + 2) = .ok (.invokespecial ic, 3)) (hd2 : decode cc (pc + 3 + 1 + 2 + 3) = .ok (.athrow, 1)) (hRc : 1 ≤ R.cells) (hRs : 6 ≤ R.slots) (hRf : 5 < R.frames) (hRl : 82 ≤ R.locals) :
    W p l e R s m args below meth c s.heap [] 0 0 (MQT below (TQ s0 cls) s 1 6 n0) (F0 m pc ls []) := by
  obtain ⟨q, hq⟩ := hxs.2.2 _ hm
  refine W.newc (n := 6) E.1 E.2.1 E.2.2.2.1 (E.2.2.2.2.1 _ hcl) (E.2.2.2.2.1 _ hins) (E.2.2.2.2.1 _ hini) rfl hd0 (by simpa using hRc) (by simpa using hRs) (fun cX kX hfx hkX _ _ => ?_)
  refine lv_dup E.1 E.2.1 hd3 rfl ?_
  refine va_ldcS E.1 E.2.1 E.2.2.2.1 (vk_R.warm hw0 hq) hd4 ?_
  exact q_throw1 E hxs hw0 ho hlk hnh hn0 hXC hl hfx hkX hls hd1 hd2 hRf hRl (len := 2)
theorem q_throwW {cls tx : String} {ik ic k : Nat} {bytes : ByteArray} (E : EV p m c cc nL s args "KateDesk" g) (hxs : XS l s0) (hw0 : s0.WarmedH s.vm) (ho : OLD s0 s.heap) (hlk : meth.locks = false) (hnh : c.exceptionTable.toList = []) (hn0 : n0 s.heap.size)
    (hXC : kd_XC cls bytes s args) (hcl : Cond.classLink "KateDesk" ik cls ∈ BW) (hins : Cond.instantiable cls 6 ∈ BW) (hini : Cond.initialized cls ∈ BW) (hl : Cond.methodLink "KateDesk" ic (Bundle.initS cls) ∈ BW) (hm : (k, tx) ∈ kd_MSG) (hls : ls.size = nL)
    (hd0 : decode cc pc = .ok (.new ik, 3)) (hd3 : decode cc (pc + 3) = .ok (.dup, 1)) (hd4 : decode cc (pc + 3 + 1) = .ok (.ldc_w k, 3)) (hd1 : decode cc (pc + 3 + 1 + 3) = .ok (.invokespecial ic, 3)) (hd2 : decode cc (pc + 3 + 1 + 3 + 3) = .ok (.athrow, 1)) (hRc : 1 ≤ R.cells) (hRs : 6 ≤ R.slots) (hRf : 5 < R.frames) (hRl : 82 ≤ R.locals) :
    W p l e R s m args below meth c s.heap [] 0 0 (MQT below (TQ s0 cls) s 1 6 n0) (F0 m pc ls []) := by
  obtain ⟨q, hq⟩ := hxs.2.2 _ hm
  refine W.newc (n := 6) E.1 E.2.1 E.2.2.2.1 (E.2.2.2.2.1 _ hcl) (E.2.2.2.2.1 _ hins) (E.2.2.2.2.1 _ hini) rfl hd0 (by simpa using hRc) (by simpa using hRs) (fun cX kX hfx hkX _ _ => ?_)
  refine lv_dup E.1 E.2.1 hd3 rfl ?_
  refine q_ldcSW E.1 E.2.1 E.2.2.2.1 (vk_R.warm hw0 hq) hd4 ?_
  exact q_throw1 E hxs hw0 ho hlk hnh hn0 hXC hl hfx hkX hls hd1 hd2 hRf hRl (len := 3)
end KQ
end
section

/-- nothing outside S changed, nothing was made -/
def FRM (S : Nat → Prop) (H H' : Heap) : Prop := H'.size = H.size ∧ ∀ q, ¬ S q → H'[q]? = H[q]?
theorem FRM.rf {S : Nat → Prop} {H : Heap} : FRM S H H := ⟨rfl, fun _ _ => rfl⟩
theorem FRM.tr {S : Nat → Prop} {H H1 H2 : Heap} (h : FRM S H H1) (h' : FRM S H1 H2) : FRM S H H2 := ⟨h'.1.trans h.1, fun q hq => (h'.2 q hq).trans (h.2 q hq)⟩
theorem FRM.mono {S S' : Nat → Prop} {H H' : Heap} (h : FRM S H H') (hs : ∀ q, S q → S' q) : FRM S' H H' := ⟨h.1, fun q hq => h.2 q (fun a => hq (hs q a))⟩
theorem KJ.frm {g : WG} {S : Nat → Prop} {H H' : Heap} (h : KJ g S H H') : FRM S H H' := ⟨h.1, fun _ hq => h.off hq⟩
theorem OB.off {g : WG} {S : Nat → Prop} {H H' : Heap} (h : FRM S H H') {a ci : Nat} {fs : List Value} (ha : ¬ S a) (ho : OB g H a ci fs) : OB g H' a ci fs := by
  obtain ⟨r, hc, cell, h1, h2, h3⟩ := ho
  exact ⟨r, hc, cell, by rw [h.2 a ha]; exact h1, h2, h3⟩
theorem AB.off {g : WG} {S : Nat → Prop} {H H' : Heap} (h : FRM S H H') {a N : Nat} {f : Nat → Int32} (ha : ¬ S a) (hA : AB g H a N f) : AB g H' a N f := by
  unfold AB at hA ⊢
  rw [h.2 a ha]
  exact hA
theorem AJ.off {g : WG} {S : Nat → Prop} {H H' : Heap} (h : FRM S H H') {a N : Nat} {f : Nat → Int64} (ha : ¬ S a) (hA : AJ g H a N f) : AJ g H' a N f := by
  unfold AJ at hA ⊢
  rw [h.2 a ha]
  exact hA
theorem ob_neB {g : WG} {H : Heap} {U : State} (hK : KW g U) {a b ci N : Nat} {fs : List Value} {f : Nat → Int32} (ho : OB g H a ci fs) (hA : AB g H b N f) : a ≠ b := by
  intro e
  subst e
  obtain ⟨r, hc, cell, h1, h2, h3⟩ := ho
  have e : cell = arrV g.2.2.1 N (fun j => .int (f j)) := Option.some.inj (h1.symm.trans hA)
  exact kw_ne hK (t := 1) hc rfl (by rw [← h2, e]; rfl)
section KR3
variable {p : Program} {l : Launch} {e : Env} {R : Room} {s : State} {m : MethodId} {args : Array Value} {below : List Frame} {meth : Method} {c : Code} {H : Heap} {locs : List Loc} {cells slots : Nat} {Q : State → Prop}
variable {cc : ByteArray} {nL : Nat} {pc : Nat} {ls : Array Slot} {rest : List Value} {g : WG} {own : String} {n0 : Nat → Prop} {a : Nat}
theorem q_put {ref C : String} {T : u_T} {N ci index : Nat} (E : EV p m c cc nL s args own g) {fs : List Value} (ho : OB g H a ci fs) (hin : ∀ w ∈ u_ws C T N, w ∈ BW) (ty0 : Nat → FieldType) (hty : ∀ k, k < N → parseFieldDescriptor (T k).2.2.1 = some (ty0 k)) (hnm : ∀ a, a < N → ∀ b, b < N → a ≠ b → (T a).2.1 ≠ (T b).2.1) (hc : CL[ci]? = some (C, T, N)) (k : Nat) (hk : k < N) (hl : Cond.fieldLink own index ref (T k).2.1 (T k).2.2.1 ∈ BW) (hsame : (T k).1 = ref) (hfin : (T k).2.2.2 = false) {ty : FieldType} {v : Value} (hd : parseFieldDescriptor (T k).2.2.1 = some ty) (hn : narrow ty v = v) (hfit : fits ty v = true) (hlen : k < fs.length) (ha : n0 a) (hF : ∀ q ∈ locs, n0 q.base)
    (hdg : decode cc pc = .ok (.putfield index, 3)) (kk : ∀ (H' : Heap) (locs' : List Loc), FRM (fun q => q = a) H H' → OB g H' a ci (fs.set k v) → (∀ q ∈ locs', n0 q.base) → W p l e R s m args below meth c H' locs' cells slots Q (F0 m (pc + 3) ls rest)) : W p l e R s m args below meth c H locs cells slots Q (F0 m pc ls (v :: .ref a :: rest)) := by
  obtain ⟨hexec, hb, -, hown, hts, hKW⟩ := E
  have hap := va_apart (own := own) hts hin ty0 hty hnm hKW.1 hc
  obtain ⟨r, h1, cell, q1, q2, q3, q4⟩ := ho
  have hr : r = (C, T, N) := Option.some.inj (h1.symm.trans hc)
  subst hr
  obtain ⟨hS, hfc, kC, hkC, hkind⟩ := hKW.1.1 ci _ hc
  obtain ⟨cf, kf, fi, f, hi, hsl⟩ := hS k hk
  have hlay := hts _ (hin _ (u_in_lay hk))
  unfold u_lay at hlay
  rw [if_neg (by rw [hfin]; decide)] at hlay
  have hst := (u_facts hfc hkC (u_lays hts hin hk) hi).1
  have h6 := u_store hfc hkC hkind hlay hi hd hn hfit
  refine W.putK hexec hb (f := f) ⟨hown, hts _ hl, ⟨_, _, _, by rw [← hsame]; exact hi⟩, hst⟩ (by rw [q2]; exact h6) q1 q3 (by rw [hsl]; exact k2_hasslot (q4 k hk)) rfl rfl hdg fun H' e1 e2 e3 => ?_
  rw [hsl] at e1
  refine kk H' _ ⟨e2, e3⟩ ⟨_, hc, t_OB.to (V := updV (vp_V fs) k v) ⟨_, e1, q2, q3, t_set q4 hap hk v⟩ (fun j _ => vp_updV_set hlen v j)⟩ (fun q hq => ?_)
  rcases List.mem_append.mp hq with h | h
  · exact hF q h
  · rw [List.mem_singleton.mp h]
    exact ha
theorem q_putF {ref C : String} {T : u_T} {N ci index : Nat} (E : EV p m c cc nL s args own g) {fs : List Value} (ho : OB g H a ci fs) (hin : ∀ w ∈ u_ws C T N, w ∈ BW) (ty0 : Nat → FieldType) (hty : ∀ k, k < N → parseFieldDescriptor (T k).2.2.1 = some (ty0 k)) (hnm : ∀ a, a < N → ∀ b, b < N → a ≠ b → (T a).2.1 ≠ (T b).2.1) (hc : CL[ci]? = some (C, T, N)) (k : Nat) (hk : k < N) (hl : Cond.fieldLink own index ref (T k).2.1 (T k).2.2.1 ∈ BW) (hsame : (T k).1 = ref) (hfin : (T k).2.2.2 = true) (hin2 : meth.name = "<init>") (hdecl : (T k).1 = own) {ty : FieldType} {v : Value} (hd : parseFieldDescriptor (T k).2.2.1 = some ty) (hn : narrow ty v = v) (hfit : fits ty v = true) (hlen : k < fs.length) (ha : n0 a) (hF : ∀ q ∈ locs, n0 q.base)
    (hdg : decode cc pc = .ok (.putfield index, 3)) (kk : ∀ (H' : Heap) (locs' : List Loc), FRM (fun q => q = a) H H' → OB g H' a ci (fs.set k v) → (∀ q ∈ locs', n0 q.base) → W p l e R s m args below meth c H' locs' cells slots Q (F0 m (pc + 3) ls rest)) : W p l e R s m args below meth c H locs cells slots Q (F0 m pc ls (v :: .ref a :: rest)) := by
  obtain ⟨hexec, hb, -, hown, hts, hKW⟩ := E
  have hap := va_apart (own := own) hts hin ty0 hty hnm hKW.1 hc
  obtain ⟨r, h1, cell, q1, q2, q3, q4⟩ := ho
  have hr : r = (C, T, N) := Option.some.inj (h1.symm.trans hc)
  subst hr
  obtain ⟨hS, hfc, kC, hkC, hkind⟩ := hKW.1.1 ci _ hc
  obtain ⟨cf, kf, fi, f, hi, hsl⟩ := hS k hk
  have hlay := hts _ (hin _ (u_in_lay hk))
  unfold u_lay at hlay
  rw [if_pos hfin] at hlay
  have hst := (u_facts hfc hkC (u_lays hts hin hk) hi).1
  have hcf : m.cls = cf := by
    obtain ⟨_, _, c', _, _, _, -, -, hf', -, -, -, hown2, -⟩ := Cond.laysFinal_spec hlay
    have e1 : c' = cf := by have := hi.symm.trans hf'; simp at this; exact this.1.symm
    rw [hdecl] at hown2
    rw [← e1]; exact Option.some.inj (hown.symm.trans hown2)
  have h6 := u_fits hfc hkC hkind (Or.inr hlay) hi hd hn hfit
  refine W.putFinK hexec hb hown (hts _ hl) (show s.fieldFound? ref _ _ = some _ by rw [← hsame]; exact hi) hst hcf hin2 (by rw [q2]; exact h6) q1 q3 (by rw [hsl]; exact k2_hasslot (q4 k hk)) rfl rfl hdg fun H' e1 e2 e3 => ?_
  rw [hsl] at e1
  refine kk H' _ ⟨e2, e3⟩ ⟨_, hc, t_OB.to (V := updV (vp_V fs) k v) ⟨_, e1, q2, q3, t_set q4 hap hk v⟩ (fun j _ => vp_updV_set hlen v j)⟩ (fun q hq => ?_)
  rcases List.mem_append.mp hq with h | h
  · exact hF q h
  · rw [List.mem_singleton.mp h]
    exact ha
end KR3
theorem Ctr.area {l : Launch} {y : MethodName} {cw : Cond} {fr lo mc ms : Nat} {n0 n1 : Nat → Prop} {g : WG} {av : List Value} {P : Heap → Prop} {Qp : Option Value → Heap → Heap → Prop} (h : Ctr l y cw fr lo mc ms n0 g av P Qp) (hn : ∀ q, n0 q → n1 q) : Ctr l y cw fr lo mc ms n1 g av P Qp := by
  intro p e ha hc hk s m args below hf happ hP hK
  obtain ⟨n, o, h1, h2, h3, h4, L, h5, h6⟩ := h p e ha hc hk s m args below hf happ hP hK
  exact ⟨n, o, h1, h2, h3, h4, L, h5, fun q hq => hn _ (h6 q hq)⟩
theorem CtrT.area {l : Launch} {y : MethodName} {cw : Cond} {fr lo mc ms : Nat} {n0 n1 : Nat → Prop} {g : WG} {s0 : State} {av : List Value} {P : Heap → Prop} {QT : Nat → Heap → Heap → Prop} (h : CtrT l y cw fr lo mc ms n0 g s0 av P QT) (hn : ∀ q, n0 q → n1 q) : CtrT l y cw fr lo mc ms n1 g s0 av P QT := by
  intro p e ha hc hk s m args below hf happ hP hK
  obtain ⟨n, o, h1, h2, h3, x, h4, h5, h6, L, h7, h8⟩ := h p e ha hc hk s m args below hf happ hP hK
  exact ⟨n, o, h1, h2, h3, x, h4, h5, h6, L, h7, fun q hq => hn _ (h8 q hq)⟩
end
section
def okK (w : Int32) : Prop := ¬ w < 0 ∧ w ≤ nI 3
def okC (n a b : Int32) : Prop := ¬ n < a ∧ n ≤ b
def okS (a n : Int32) : Prop := n ≤ 0 ∨ (¬ a < 0 ∧ a ≤ nI 32 - n)
def okP (a n : Int32) : Prop := n ≤ 0 ∨ (¬ a < 0 ∧ a ≤ nI 12 - n)
theorem okS_of {k n : Nat} (hn : 0 < n) (h : k + n ≤ 32) : okS (nI k) (nI n) := Or.inr ⟨nI_pos (by omega), by rw [pk_sub (by omega)]; exact nI_le (by omega) (by omega)⟩
theorem okP_of {k n : Nat} (hn : 0 < n) (h : k + n ≤ 12) : okP (nI k) (nI n) := Or.inr ⟨nI_pos (by omega), by rw [pk_sub (by omega)]; exact nI_le (by omega) (by omega)⟩
theorem okS_nat {a : Int32} {n : Nat} (hn : 0 < n) (h32 : n ≤ 32) (h : okS a (nI n)) : ∃ k, a = nI k ∧ k + n ≤ 32 := by
  rcases h with h | ⟨h1, h2⟩
  · exact absurd h (nI_nle hn (by omega))
  · obtain ⟨k, hk, rfl⟩ := nI_of h1
    rw [pk_sub h32] at h2
    exact ⟨k, rfl, by have := (nI_leI hk (by omega)).mp h2; omega⟩
theorem okP_nat {a : Int32} {n : Nat} (hn : 0 < n) (h12 : n ≤ 12) (h : okP a (nI n)) : ∃ k, a = nI k ∧ k + n ≤ 12 := by
  rcases h with h | ⟨h1, h2⟩
  · exact absurd h (nI_nle hn (by omega))
  · obtain ⟨k, hk, rfl⟩ := nI_of h1
    rw [pk_sub h12] at h2
    exact ⟨k, rfl, by have := (nI_leI hk (by omega)).mp h2; omega⟩
theorem okC_nat {n : Int32} {a b : Nat} (ha : a < 2 ^ 31) (hb : b < 2 ^ 31) (h : okC n (nI a) (nI b)) : ∃ k, n = nI k ∧ a ≤ k ∧ k ≤ b := by
  obtain ⟨h1, h2⟩ := h
  have h3 : ¬ n < 0 := fun q => h1 (Int32.lt_of_lt_of_le q (nI_pos' ha))
  obtain ⟨k, hk, rfl⟩ := nI_of h3
  exact ⟨k, rfl, Nat.le_of_not_lt (fun q => h1 (nI_lt q ha)), (nI_leI hk hb).mp h2⟩
theorem okC_of {k a b : Nat} (h1 : a ≤ k) (h2 : k ≤ b) (hb : b < 2 ^ 31) : okC (nI k) (nI a) (nI b) := ⟨nI_nlt h1 (by omega), nI_le h2 hb⟩
abbrev y_Desk_needKind : MethodName := ⟨"KateDesk", "needKind", "(I)V"⟩
theorem hd_Desk_needKind : y_Desk_needKind.cls ≠ "java/lang/invoke/MethodHandle" ∧ y_Desk_needKind.cls ≠ "java/lang/invoke/VarHandle" ∧ (parseMethodDescriptor y_Desk_needKind.desc).map (fun d => d.parameters.length) = some 1 := by decide +kernel
theorem d_Desk_needKind_0 : decode prog_1_method_23_code 0 = .ok (.iload_n 0, 1) := by decide +kernel
theorem d_Desk_needKind_1 : decode prog_1_method_23_code 1 = .ok (.ifCond .lt 8, 3) := by decide +kernel
theorem d_Desk_needKind_4 : decode prog_1_method_23_code 4 = .ok (.iload_n 0, 1) := by decide +kernel
theorem d_Desk_needKind_5 : decode prog_1_method_23_code 5 = .ok (.iconst 3, 1) := by decide +kernel
theorem d_Desk_needKind_6 : decode prog_1_method_23_code 6 = .ok (.if_icmp .le 14, 3) := by decide +kernel
theorem d_Desk_needKind_9 : decode prog_1_method_23_code 9 = .ok (.new 112, 3) := by decide +kernel
theorem d_Desk_needKind_12 : decode prog_1_method_23_code 12 = .ok (.dup, 1) := by decide +kernel
theorem d_Desk_needKind_13 : decode prog_1_method_23_code 13 = .ok (.ldc_w 281, 3) := by decide +kernel
theorem d_Desk_needKind_16 : decode prog_1_method_23_code 16 = .ok (.invokespecial 116, 3) := by decide +kernel
theorem d_Desk_needKind_19 : decode prog_1_method_23_code 19 = .ok (.athrow, 1) := by decide +kernel
theorem d_Desk_needKind_20 : decode prog_1_method_23_code 20 = .ok (.return_, 1) := by decide +kernel
abbrev y_Desk_needCount : MethodName := ⟨"KateDesk", "needCount", "(III)V"⟩
theorem hd_Desk_needCount : y_Desk_needCount.cls ≠ "java/lang/invoke/MethodHandle" ∧ y_Desk_needCount.cls ≠ "java/lang/invoke/VarHandle" ∧ (parseMethodDescriptor y_Desk_needCount.desc).map (fun d => d.parameters.length) = some 3 := by decide +kernel
theorem d_Desk_needCount_0 : decode prog_1_method_24_code 0 = .ok (.iload_n 0, 1) := by decide +kernel
theorem d_Desk_needCount_1 : decode prog_1_method_24_code 1 = .ok (.iload_n 1, 1) := by decide +kernel
theorem d_Desk_needCount_2 : decode prog_1_method_24_code 2 = .ok (.if_icmp .lt 8, 3) := by decide +kernel
theorem d_Desk_needCount_5 : decode prog_1_method_24_code 5 = .ok (.iload_n 0, 1) := by decide +kernel
theorem d_Desk_needCount_6 : decode prog_1_method_24_code 6 = .ok (.iload_n 2, 1) := by decide +kernel
theorem d_Desk_needCount_7 : decode prog_1_method_24_code 7 = .ok (.if_icmp .le 14, 3) := by decide +kernel
theorem d_Desk_needCount_10 : decode prog_1_method_24_code 10 = .ok (.new 112, 3) := by decide +kernel
theorem d_Desk_needCount_13 : decode prog_1_method_24_code 13 = .ok (.dup, 1) := by decide +kernel
theorem d_Desk_needCount_14 : decode prog_1_method_24_code 14 = .ok (.ldc_w 283, 3) := by decide +kernel
theorem d_Desk_needCount_17 : decode prog_1_method_24_code 17 = .ok (.invokespecial 116, 3) := by decide +kernel
theorem d_Desk_needCount_20 : decode prog_1_method_24_code 20 = .ok (.athrow, 1) := by decide +kernel
theorem d_Desk_needCount_21 : decode prog_1_method_24_code 21 = .ok (.return_, 1) := by decide +kernel
abbrev y_Desk_needScalars : MethodName := ⟨"KateDesk", "needScalars", "(II)V"⟩
theorem hd_Desk_needScalars : y_Desk_needScalars.cls ≠ "java/lang/invoke/MethodHandle" ∧ y_Desk_needScalars.cls ≠ "java/lang/invoke/VarHandle" ∧ (parseMethodDescriptor y_Desk_needScalars.desc).map (fun d => d.parameters.length) = some 2 := by decide +kernel
theorem d_Desk_needScalars_0 : decode prog_1_method_25_code 0 = .ok (.iload_n 1, 1) := by decide +kernel
theorem d_Desk_needScalars_1 : decode prog_1_method_25_code 1 = .ok (.ifCond .le 26, 3) := by decide +kernel
theorem d_Desk_needScalars_4 : decode prog_1_method_25_code 4 = .ok (.iload_n 0, 1) := by decide +kernel
theorem d_Desk_needScalars_5 : decode prog_1_method_25_code 5 = .ok (.ifCond .lt 11, 3) := by decide +kernel
theorem d_Desk_needScalars_8 : decode prog_1_method_25_code 8 = .ok (.iload_n 0, 1) := by decide +kernel
theorem d_Desk_needScalars_9 : decode prog_1_method_25_code 9 = .ok (.bipush 32, 2) := by decide +kernel
theorem d_Desk_needScalars_11 : decode prog_1_method_25_code 11 = .ok (.iload_n 1, 1) := by decide +kernel
theorem d_Desk_needScalars_12 : decode prog_1_method_25_code 12 = .ok (.isub, 1) := by decide +kernel
theorem d_Desk_needScalars_13 : decode prog_1_method_25_code 13 = .ok (.if_icmp .le 14, 3) := by decide +kernel
theorem d_Desk_needScalars_16 : decode prog_1_method_25_code 16 = .ok (.new 112, 3) := by decide +kernel
theorem d_Desk_needScalars_19 : decode prog_1_method_25_code 19 = .ok (.dup, 1) := by decide +kernel
theorem d_Desk_needScalars_20 : decode prog_1_method_25_code 20 = .ok (.ldc_w 285, 3) := by decide +kernel
theorem d_Desk_needScalars_23 : decode prog_1_method_25_code 23 = .ok (.invokespecial 116, 3) := by decide +kernel
theorem d_Desk_needScalars_26 : decode prog_1_method_25_code 26 = .ok (.athrow, 1) := by decide +kernel
theorem d_Desk_needScalars_27 : decode prog_1_method_25_code 27 = .ok (.return_, 1) := by decide +kernel
abbrev y_Desk_needPoints : MethodName := ⟨"KateDesk", "needPoints", "(II)V"⟩
theorem hd_Desk_needPoints : y_Desk_needPoints.cls ≠ "java/lang/invoke/MethodHandle" ∧ y_Desk_needPoints.cls ≠ "java/lang/invoke/VarHandle" ∧ (parseMethodDescriptor y_Desk_needPoints.desc).map (fun d => d.parameters.length) = some 2 := by decide +kernel
theorem d_Desk_needPoints_0 : decode prog_1_method_26_code 0 = .ok (.iload_n 1, 1) := by decide +kernel
theorem d_Desk_needPoints_1 : decode prog_1_method_26_code 1 = .ok (.ifCond .le 26, 3) := by decide +kernel
theorem d_Desk_needPoints_4 : decode prog_1_method_26_code 4 = .ok (.iload_n 0, 1) := by decide +kernel
theorem d_Desk_needPoints_5 : decode prog_1_method_26_code 5 = .ok (.ifCond .lt 11, 3) := by decide +kernel
theorem d_Desk_needPoints_8 : decode prog_1_method_26_code 8 = .ok (.iload_n 0, 1) := by decide +kernel
theorem d_Desk_needPoints_9 : decode prog_1_method_26_code 9 = .ok (.bipush 12, 2) := by decide +kernel
theorem d_Desk_needPoints_11 : decode prog_1_method_26_code 11 = .ok (.iload_n 1, 1) := by decide +kernel
theorem d_Desk_needPoints_12 : decode prog_1_method_26_code 12 = .ok (.isub, 1) := by decide +kernel
theorem d_Desk_needPoints_13 : decode prog_1_method_26_code 13 = .ok (.if_icmp .le 14, 3) := by decide +kernel
theorem d_Desk_needPoints_16 : decode prog_1_method_26_code 16 = .ok (.new 112, 3) := by decide +kernel
theorem d_Desk_needPoints_19 : decode prog_1_method_26_code 19 = .ok (.dup, 1) := by decide +kernel
theorem d_Desk_needPoints_20 : decode prog_1_method_26_code 20 = .ok (.ldc_w 287, 3) := by decide +kernel
theorem d_Desk_needPoints_23 : decode prog_1_method_26_code 23 = .ok (.invokespecial 116, 3) := by decide +kernel
theorem d_Desk_needPoints_26 : decode prog_1_method_26_code 26 = .ok (.athrow, 1) := by decide +kernel
theorem d_Desk_needPoints_27 : decode prog_1_method_26_code 27 = .ok (.return_, 1) := by decide +kernel
set_option maxHeartbeats 4000000 in
set_option maxRecDepth 100000 in
theorem c_Desk_needKind (l : Launch) (g : WG) (n0 : Nat → Prop) (w : Int32) (hok : okK w) : Ctr l y_Desk_needKind (.code y_Desk_needKind prog_1_method_23_code 1 none) 0 0 0 0 n0 g [.int w] (fun H => True) (QV (fun H H' => H' = H)) := by
  refine ctr_mk l (lv0 := [(0, .int w)]) (by decide) (Nat.le_of_ble_eq_true rfl) rfl ?_
  intro p e s m below meth c ls E hr hlk hnm hl hP
  have hx := E.1
  have hb := E.2.1
  have hK := E.2.2.2.2.2
  have hF : ∀ q ∈ ([] : List Loc), n0 q.base := fun q hq => absurd hq List.not_mem_nil
  refine lv_iload_n hx hb d_Desk_needKind_0 rfl (lv_at hl 0 rfl) ?_
  refine lv_if_lt (tgt := 9) hx hb d_Desk_needKind_1 (by decide) (fun h9 => absurd h9 (hok.1)) (fun _ => ?_)
  refine lv_iload_n hx hb d_Desk_needKind_4 rfl (lv_at hl 0 rfl) ?_
  refine lv_iconst (v := nI 3) hx hb d_Desk_needKind_5 (by decide) ?_
  refine lv_icmp_le (tgt := 20) hx hb d_Desk_needKind_6 (by decide) (fun _ => ?_) (fun h9 => absurd (hok.2) h9)
  exact q_vret E hr hlk (⟨rfl, rfl⟩) hF d_Desk_needKind_20
set_option maxHeartbeats 4000000 in
set_option maxRecDepth 100000 in
theorem t_Desk_needKind (l : Launch) (g : WG) (n0 : Nat → Prop) (s0 : State) (hxs : XS l s0) (w : Int32) (hok : ¬ okK w) : CtrT l y_Desk_needKind (.code y_Desk_needKind prog_1_method_23_code 1 none) 6 82 1 6 n0 g s0 [.int w] (fun H => OLD s0 H ∧ n0 H.size) (TQ s0 "java/lang/IllegalArgumentException") := by
  refine ctrT_mk l (lv0 := [(0, .int w)]) (by decide) (Nat.le_of_ble_eq_true rfl) rfl ?_
  intro p e s m below meth c ls E hw0 hlk hnh hl hP
  have hx := E.1
  have hb := E.2.1
  have hK := E.2.2.2.2.2
  have hF : ∀ q ∈ ([] : List Loc), n0 q.base := fun q hq => absurd hq List.not_mem_nil
  obtain ⟨ho, hnew⟩ := hP
  refine lv_iload_n hx hb d_Desk_needKind_0 rfl (lv_at hl 0 rfl) ?_
  refine lv_if_lt (tgt := 9) hx hb d_Desk_needKind_1 (by decide) (fun h2 => ?_) (fun h2 => ?_)
  rotate_left
  · skip
    refine lv_iload_n hx hb d_Desk_needKind_4 rfl (lv_at hl 0 rfl) ?_
    refine lv_iconst (v := nI 3) hx hb d_Desk_needKind_5 (by decide) ?_
    refine lv_icmp_le (tgt := 20) hx hb d_Desk_needKind_6 (by decide) (fun h3 => ?_) (fun h3 => ?_)
    rotate_left
    · skip
      exact q_throwW (k := 281) (tx := "there are kinds 0 to 3") E hxs hw0 ho hlk hnh hnew (kd_xc_iae E.2.2.2.2.1 (kd_XL.at hxs.2.1 hw0 ho)) w_397 w_398 w_19 w_440 (by simp [kd_MSG]) hl.1 d_Desk_needKind_9 d_Desk_needKind_12 d_Desk_needKind_13 d_Desk_needKind_16 d_Desk_needKind_19 (by decide) (by decide) (by decide) (by decide)
    exact absurd ⟨h2, h3⟩ hok
  exact q_throwW (k := 281) (tx := "there are kinds 0 to 3") E hxs hw0 ho hlk hnh hnew (kd_xc_iae E.2.2.2.2.1 (kd_XL.at hxs.2.1 hw0 ho)) w_397 w_398 w_19 w_440 (by simp [kd_MSG]) hl.1 d_Desk_needKind_9 d_Desk_needKind_12 d_Desk_needKind_13 d_Desk_needKind_16 d_Desk_needKind_19 (by decide) (by decide) (by decide) (by decide)
set_option maxHeartbeats 4000000 in
set_option maxRecDepth 100000 in
theorem c_Desk_needCount (l : Launch) (g : WG) (n0 : Nat → Prop) (n a b : Int32) (hok : okC n a b) : Ctr l y_Desk_needCount (.code y_Desk_needCount prog_1_method_24_code 3 none) 0 0 0 0 n0 g [.int n, .int a, .int b] (fun H => True) (QV (fun H H' => H' = H)) := by
  refine ctr_mk l (lv0 := [(0, .int n), (1, .int a), (2, .int b)]) (by decide) (Nat.le_of_ble_eq_true rfl) rfl ?_
  intro p e s m below meth c ls E hr hlk hnm hl hP
  have hx := E.1
  have hb := E.2.1
  have hK := E.2.2.2.2.2
  have hF : ∀ q ∈ ([] : List Loc), n0 q.base := fun q hq => absurd hq List.not_mem_nil
  refine lv_iload_n hx hb d_Desk_needCount_0 rfl (lv_at hl 0 rfl) ?_
  refine lv_iload_n hx hb d_Desk_needCount_1 rfl (lv_at hl 1 rfl) ?_
  refine lv_icmp_lt (tgt := 10) hx hb d_Desk_needCount_2 (by decide) (fun h9 => absurd h9 (hok.1)) (fun _ => ?_)
  refine lv_iload_n hx hb d_Desk_needCount_5 rfl (lv_at hl 0 rfl) ?_
  refine lv_iload_n hx hb d_Desk_needCount_6 rfl (lv_at hl 2 rfl) ?_
  refine lv_icmp_le (tgt := 21) hx hb d_Desk_needCount_7 (by decide) (fun _ => ?_) (fun h9 => absurd (hok.2) h9)
  exact q_vret E hr hlk (⟨rfl, rfl⟩) hF d_Desk_needCount_21
set_option maxHeartbeats 4000000 in
set_option maxRecDepth 100000 in
theorem t_Desk_needCount (l : Launch) (g : WG) (n0 : Nat → Prop) (s0 : State) (hxs : XS l s0) (n a b : Int32) (hok : ¬ okC n a b) : CtrT l y_Desk_needCount (.code y_Desk_needCount prog_1_method_24_code 3 none) 6 82 1 6 n0 g s0 [.int n, .int a, .int b] (fun H => OLD s0 H ∧ n0 H.size) (TQ s0 "java/lang/IllegalArgumentException") := by
  refine ctrT_mk l (lv0 := [(0, .int n), (1, .int a), (2, .int b)]) (by decide) (Nat.le_of_ble_eq_true rfl) rfl ?_
  intro p e s m below meth c ls E hw0 hlk hnh hl hP
  have hx := E.1
  have hb := E.2.1
  have hK := E.2.2.2.2.2
  have hF : ∀ q ∈ ([] : List Loc), n0 q.base := fun q hq => absurd hq List.not_mem_nil
  obtain ⟨ho, hnew⟩ := hP
  refine lv_iload_n hx hb d_Desk_needCount_0 rfl (lv_at hl 0 rfl) ?_
  refine lv_iload_n hx hb d_Desk_needCount_1 rfl (lv_at hl 1 rfl) ?_
  refine lv_icmp_lt (tgt := 10) hx hb d_Desk_needCount_2 (by decide) (fun h2 => ?_) (fun h2 => ?_)
  rotate_left
  · skip
    refine lv_iload_n hx hb d_Desk_needCount_5 rfl (lv_at hl 0 rfl) ?_
    refine lv_iload_n hx hb d_Desk_needCount_6 rfl (lv_at hl 2 rfl) ?_
    refine lv_icmp_le (tgt := 21) hx hb d_Desk_needCount_7 (by decide) (fun h3 => ?_) (fun h3 => ?_)
    rotate_left
    · skip
      exact q_throwW (k := 283) (tx := "the number is out of its range") E hxs hw0 ho hlk hnh hnew (kd_xc_iae E.2.2.2.2.1 (kd_XL.at hxs.2.1 hw0 ho)) w_397 w_398 w_19 w_440 (by simp [kd_MSG]) hl.1 d_Desk_needCount_10 d_Desk_needCount_13 d_Desk_needCount_14 d_Desk_needCount_17 d_Desk_needCount_20 (by decide) (by decide) (by decide) (by decide)
    exact absurd ⟨h2, h3⟩ hok
  exact q_throwW (k := 283) (tx := "the number is out of its range") E hxs hw0 ho hlk hnh hnew (kd_xc_iae E.2.2.2.2.1 (kd_XL.at hxs.2.1 hw0 ho)) w_397 w_398 w_19 w_440 (by simp [kd_MSG]) hl.1 d_Desk_needCount_10 d_Desk_needCount_13 d_Desk_needCount_14 d_Desk_needCount_17 d_Desk_needCount_20 (by decide) (by decide) (by decide) (by decide)
set_option maxHeartbeats 4000000 in
set_option maxRecDepth 100000 in
theorem c_Desk_needScalars (l : Launch) (g : WG) (n0 : Nat → Prop) (a n : Int32) (hok : okS a n) : Ctr l y_Desk_needScalars (.code y_Desk_needScalars prog_1_method_25_code 2 none) 0 0 0 0 n0 g [.int a, .int n] (fun H => True) (QV (fun H H' => H' = H)) := by
  refine ctr_mk l (lv0 := [(0, .int a), (1, .int n)]) (by decide) (Nat.le_of_ble_eq_true rfl) rfl ?_
  intro p e s m below meth c ls E hr hlk hnm hl hP
  have hx := E.1
  have hb := E.2.1
  have hK := E.2.2.2.2.2
  have hF : ∀ q ∈ ([] : List Loc), n0 q.base := fun q hq => absurd hq List.not_mem_nil
  refine lv_iload_n hx hb d_Desk_needScalars_0 rfl (lv_at hl 1 rfl) ?_
  refine lv_if_le (tgt := 27) hx hb d_Desk_needScalars_1 (by decide) (fun h1 => ?_) (fun h1 => ?_)
  rotate_left
  · skip
    have hok2 := hok.resolve_left h1
    refine lv_iload_n hx hb d_Desk_needScalars_4 rfl (lv_at hl 0 rfl) ?_
    refine lv_if_lt (tgt := 16) hx hb d_Desk_needScalars_5 (by decide) (fun h9 => absurd h9 (hok2.1)) (fun _ => ?_)
    refine lv_iload_n hx hb d_Desk_needScalars_8 rfl (lv_at hl 0 rfl) ?_
    refine lv_bipush (v := nI 32) hx hb d_Desk_needScalars_9 (by decide) ?_
    refine lv_iload_n hx hb d_Desk_needScalars_11 rfl (lv_at hl 1 rfl) ?_
    refine lv_isub hx hb d_Desk_needScalars_12 ?_
    refine lv_icmp_le (tgt := 27) hx hb d_Desk_needScalars_13 (by decide) (fun _ => ?_) (fun h9 => absurd (hok2.2) h9)
    exact q_vret E hr hlk (⟨rfl, rfl⟩) hF d_Desk_needScalars_27
  exact q_vret E hr hlk (⟨rfl, rfl⟩) hF d_Desk_needScalars_27
set_option maxHeartbeats 4000000 in
set_option maxRecDepth 100000 in
theorem t_Desk_needScalars (l : Launch) (g : WG) (n0 : Nat → Prop) (s0 : State) (hxs : XS l s0) (a n : Int32) (hok : ¬ okS a n) : CtrT l y_Desk_needScalars (.code y_Desk_needScalars prog_1_method_25_code 2 none) 6 82 1 6 n0 g s0 [.int a, .int n] (fun H => OLD s0 H ∧ n0 H.size) (TQ s0 "java/lang/IllegalArgumentException") := by
  refine ctrT_mk l (lv0 := [(0, .int a), (1, .int n)]) (by decide) (Nat.le_of_ble_eq_true rfl) rfl ?_
  intro p e s m below meth c ls E hw0 hlk hnh hl hP
  have hx := E.1
  have hb := E.2.1
  have hK := E.2.2.2.2.2
  have hF : ∀ q ∈ ([] : List Loc), n0 q.base := fun q hq => absurd hq List.not_mem_nil
  obtain ⟨ho, hnew⟩ := hP
  refine lv_iload_n hx hb d_Desk_needScalars_0 rfl (lv_at hl 1 rfl) ?_
  refine lv_if_le (tgt := 27) hx hb d_Desk_needScalars_1 (by decide) (fun h9 => absurd h9 (fun h => hok (Or.inl h))) (fun _ => ?_)
  refine lv_iload_n hx hb d_Desk_needScalars_4 rfl (lv_at hl 0 rfl) ?_
  refine lv_if_lt (tgt := 16) hx hb d_Desk_needScalars_5 (by decide) (fun h2 => ?_) (fun h2 => ?_)
  rotate_left
  · skip
    refine lv_iload_n hx hb d_Desk_needScalars_8 rfl (lv_at hl 0 rfl) ?_
    refine lv_bipush (v := nI 32) hx hb d_Desk_needScalars_9 (by decide) ?_
    refine lv_iload_n hx hb d_Desk_needScalars_11 rfl (lv_at hl 1 rfl) ?_
    refine lv_isub hx hb d_Desk_needScalars_12 ?_
    refine lv_icmp_le (tgt := 27) hx hb d_Desk_needScalars_13 (by decide) (fun h3 => ?_) (fun h3 => ?_)
    rotate_left
    · skip
      exact q_throwW (k := 285) (tx := "there is no such scalar") E hxs hw0 ho hlk hnh hnew (kd_xc_iae E.2.2.2.2.1 (kd_XL.at hxs.2.1 hw0 ho)) w_397 w_398 w_19 w_440 (by simp [kd_MSG]) hl.1 d_Desk_needScalars_16 d_Desk_needScalars_19 d_Desk_needScalars_20 d_Desk_needScalars_23 d_Desk_needScalars_26 (by decide) (by decide) (by decide) (by decide)
    exact absurd (Or.inr ⟨h2, h3⟩) hok
  exact q_throwW (k := 285) (tx := "there is no such scalar") E hxs hw0 ho hlk hnh hnew (kd_xc_iae E.2.2.2.2.1 (kd_XL.at hxs.2.1 hw0 ho)) w_397 w_398 w_19 w_440 (by simp [kd_MSG]) hl.1 d_Desk_needScalars_16 d_Desk_needScalars_19 d_Desk_needScalars_20 d_Desk_needScalars_23 d_Desk_needScalars_26 (by decide) (by decide) (by decide) (by decide)
set_option maxHeartbeats 4000000 in
set_option maxRecDepth 100000 in
theorem c_Desk_needPoints (l : Launch) (g : WG) (n0 : Nat → Prop) (a n : Int32) (hok : okP a n) : Ctr l y_Desk_needPoints (.code y_Desk_needPoints prog_1_method_26_code 2 none) 0 0 0 0 n0 g [.int a, .int n] (fun H => True) (QV (fun H H' => H' = H)) := by
  refine ctr_mk l (lv0 := [(0, .int a), (1, .int n)]) (by decide) (Nat.le_of_ble_eq_true rfl) rfl ?_
  intro p e s m below meth c ls E hr hlk hnm hl hP
  have hx := E.1
  have hb := E.2.1
  have hK := E.2.2.2.2.2
  have hF : ∀ q ∈ ([] : List Loc), n0 q.base := fun q hq => absurd hq List.not_mem_nil
  refine lv_iload_n hx hb d_Desk_needPoints_0 rfl (lv_at hl 1 rfl) ?_
  refine lv_if_le (tgt := 27) hx hb d_Desk_needPoints_1 (by decide) (fun h1 => ?_) (fun h1 => ?_)
  rotate_left
  · skip
    have hok2 := hok.resolve_left h1
    refine lv_iload_n hx hb d_Desk_needPoints_4 rfl (lv_at hl 0 rfl) ?_
    refine lv_if_lt (tgt := 16) hx hb d_Desk_needPoints_5 (by decide) (fun h9 => absurd h9 (hok2.1)) (fun _ => ?_)
    refine lv_iload_n hx hb d_Desk_needPoints_8 rfl (lv_at hl 0 rfl) ?_
    refine lv_bipush (v := nI 12) hx hb d_Desk_needPoints_9 (by decide) ?_
    refine lv_iload_n hx hb d_Desk_needPoints_11 rfl (lv_at hl 1 rfl) ?_
    refine lv_isub hx hb d_Desk_needPoints_12 ?_
    refine lv_icmp_le (tgt := 27) hx hb d_Desk_needPoints_13 (by decide) (fun _ => ?_) (fun h9 => absurd (hok2.2) h9)
    exact q_vret E hr hlk (⟨rfl, rfl⟩) hF d_Desk_needPoints_27
  exact q_vret E hr hlk (⟨rfl, rfl⟩) hF d_Desk_needPoints_27
set_option maxHeartbeats 4000000 in
set_option maxRecDepth 100000 in
theorem t_Desk_needPoints (l : Launch) (g : WG) (n0 : Nat → Prop) (s0 : State) (hxs : XS l s0) (a n : Int32) (hok : ¬ okP a n) : CtrT l y_Desk_needPoints (.code y_Desk_needPoints prog_1_method_26_code 2 none) 6 82 1 6 n0 g s0 [.int a, .int n] (fun H => OLD s0 H ∧ n0 H.size) (TQ s0 "java/lang/IllegalArgumentException") := by
  refine ctrT_mk l (lv0 := [(0, .int a), (1, .int n)]) (by decide) (Nat.le_of_ble_eq_true rfl) rfl ?_
  intro p e s m below meth c ls E hw0 hlk hnh hl hP
  have hx := E.1
  have hb := E.2.1
  have hK := E.2.2.2.2.2
  have hF : ∀ q ∈ ([] : List Loc), n0 q.base := fun q hq => absurd hq List.not_mem_nil
  obtain ⟨ho, hnew⟩ := hP
  refine lv_iload_n hx hb d_Desk_needPoints_0 rfl (lv_at hl 1 rfl) ?_
  refine lv_if_le (tgt := 27) hx hb d_Desk_needPoints_1 (by decide) (fun h9 => absurd h9 (fun h => hok (Or.inl h))) (fun _ => ?_)
  refine lv_iload_n hx hb d_Desk_needPoints_4 rfl (lv_at hl 0 rfl) ?_
  refine lv_if_lt (tgt := 16) hx hb d_Desk_needPoints_5 (by decide) (fun h2 => ?_) (fun h2 => ?_)
  rotate_left
  · skip
    refine lv_iload_n hx hb d_Desk_needPoints_8 rfl (lv_at hl 0 rfl) ?_
    refine lv_bipush (v := nI 12) hx hb d_Desk_needPoints_9 (by decide) ?_
    refine lv_iload_n hx hb d_Desk_needPoints_11 rfl (lv_at hl 1 rfl) ?_
    refine lv_isub hx hb d_Desk_needPoints_12 ?_
    refine lv_icmp_le (tgt := 27) hx hb d_Desk_needPoints_13 (by decide) (fun h3 => ?_) (fun h3 => ?_)
    rotate_left
    · skip
      exact q_throwW (k := 287) (tx := "there is no such point") E hxs hw0 ho hlk hnh hnew (kd_xc_iae E.2.2.2.2.1 (kd_XL.at hxs.2.1 hw0 ho)) w_397 w_398 w_19 w_440 (by simp [kd_MSG]) hl.1 d_Desk_needPoints_16 d_Desk_needPoints_19 d_Desk_needPoints_20 d_Desk_needPoints_23 d_Desk_needPoints_26 (by decide) (by decide) (by decide) (by decide)
    exact absurd (Or.inr ⟨h2, h3⟩) hok
  exact q_throwW (k := 287) (tx := "there is no such point") E hxs hw0 ho hlk hnh hnew (kd_xc_iae E.2.2.2.2.1 (kd_XL.at hxs.2.1 hw0 ho)) w_397 w_398 w_19 w_440 (by simp [kd_MSG]) hl.1 d_Desk_needPoints_16 d_Desk_needPoints_19 d_Desk_needPoints_20 d_Desk_needPoints_23 d_Desk_needPoints_26 (by decide) (by decide) (by decide) (by decide)
end
section
def kFr (b k : Nat) : Nat := if k = 0 then b + 168 else b + 162 + k
def kFq (b k : Nat) : Nat := if k = 0 then b + 175 else b + 169 + k
def kX (b k : Nat) : Nat := b + 177 + k
def kO (b k : Nat) : Nat := b + 188 + 4 * k
def kO1 (b k : Nat) : Nat := b + 189 + 4 * k
def kO2 (b k : Nat) : Nat := b + 190 + 4 * k
def kO3 (b k : Nat) : Nat := b + 191 + 4 * k
def kDG (b k : Nat) : Nat := b + 445 + k
def kY (b k : Nat) : Nat := b + 471 + k
def kV (b k : Nat) : Nat := b + 479 + k
def kSc (b k : Nat) : Nat := b + 2 + k
def kPA (b k : Nat) : Nat := b + 35 + 4 * k
def kPA1 (b k : Nat) : Nat := b + 36 + 4 * k
def kPA2 (b k : Nat) : Nat := b + 37 + 4 * k
def kPA3 (b k : Nat) : Nat := b + 38 + 4 * k
def kPW (b k : Nat) : Nat := b + 84 + 4 * k
def kPW1 (b k : Nat) : Nat := b + 85 + 4 * k
def kPW2 (b k : Nat) : Nat := b + 86 + 4 * k
def kPW3 (b k : Nat) : Nat := b + 87 + 4 * k
/-- a desk whose parts lie as its constructor lays them -/
def DK (g : WG) (n0 : Nat → Prop) (H : Heap) (b : Nat) (pc ts wz : Int32) (mr mq : Int64) : Prop := OB g H b 5 [.ref (b + 162), .ref (b + 176), .ref (b + 186), .ref (b + 465), .ref (b + 470), .ref (b + 1), .ref (b + 34), .ref (b + 83), .int pc, .ref (b + 148), .ref (b + 150), .ref (b + 495), .ref (b + 152), .ref (b + 156), .ref (b + 160), .ref (b + 161)] ∧ FD g n0 H (b + 162) (kFr b) mr ∧ SU g n0 H (b + 186) (b + 176) (b + 187) (b + 444) (b + 461) (b + 462) (b + 463) (b + 464) (b + 169) (kFq b) mq (kX b) (kO b) (kO1 b) (kO2 b) (kO3 b) (kDG b) ∧ PO g n0 H (b + 470) (b + 162) (b + 478) (kFr b) mr (kY b) (kV b) ∧ RS g n0 H (b + 1) 32 (kSc b) ∧ AR g.2.2.2.2.1 H (b + 34) 12 (kPA b) ∧ (∀ k, k < 12 → PT g n0 H (kPA b k) (kPA1 b k) (kPA2 b k) (kPA3 b k)) ∧ AR g.2.2.2.2.1 H (b + 83) 16 (kPW b) ∧ (∀ k, k < 16 → PT g n0 H (kPW b k) (kPW1 b k) (kPW2 b k) (kPW3 b k)) ∧ OB g H (b + 148) 3 [.ref (b + 149), .int ts] ∧ (∃ f, AB g H (b + 149) 96 f) ∧ OB g H (b + 150) 3 [.ref (b + 151), .int wz] ∧ (∃ f, AB g H (b + 151) 96 f) ∧ PT g n0 H (b + 152) (b + 153) (b + 154) (b + 155) ∧ PT g n0 H (b + 156) (b + 157) (b + 158) (b + 159) ∧ J14 g n0 H (b + 160) ∧ J14 g n0 H (b + 161) ∧ OB g H (b + 465) 6 [.ref (b + 169), .ref (b + 176), .ref (b + 466), .ref (b + 467), .ref (b + 468), .ref (b + 469)] ∧ PT g n0 H (b + 495) (b + 496) (b + 497) (b + 498) ∧ (n0 b ∧ n0 (b + 148) ∧ n0 (b + 149) ∧ n0 (b + 150) ∧ n0 (b + 151))
theorem DK.ob {g : WG} {n0 : Nat → Prop} {H : Heap} {b : Nat} {pc ts wz : Int32} {mr mq : Int64} (h : DK g n0 H b pc ts wz mr mq) : OB g H b 5 [.ref (b + 162), .ref (b + 176), .ref (b + 186), .ref (b + 465), .ref (b + 470), .ref (b + 1), .ref (b + 34), .ref (b + 83), .int pc, .ref (b + 148), .ref (b + 150), .ref (b + 495), .ref (b + 152), .ref (b + 156), .ref (b + 160), .ref (b + 161)] := h.1
theorem DK.fr {g : WG} {n0 : Nat → Prop} {H : Heap} {b : Nat} {pc ts wz : Int32} {mr mq : Int64} (h : DK g n0 H b pc ts wz mr mq) : FD g n0 H (b + 162) (kFr b) mr := h.2.1
theorem DK.su {g : WG} {n0 : Nat → Prop} {H : Heap} {b : Nat} {pc ts wz : Int32} {mr mq : Int64} (h : DK g n0 H b pc ts wz mr mq) : SU g n0 H (b + 186) (b + 176) (b + 187) (b + 444) (b + 461) (b + 462) (b + 463) (b + 464) (b + 169) (kFq b) mq (kX b) (kO b) (kO1 b) (kO2 b) (kO3 b) (kDG b) := h.2.2.1
theorem DK.po {g : WG} {n0 : Nat → Prop} {H : Heap} {b : Nat} {pc ts wz : Int32} {mr mq : Int64} (h : DK g n0 H b pc ts wz mr mq) : PO g n0 H (b + 470) (b + 162) (b + 478) (kFr b) mr (kY b) (kV b) := h.2.2.2.1
theorem DK.rs {g : WG} {n0 : Nat → Prop} {H : Heap} {b : Nat} {pc ts wz : Int32} {mr mq : Int64} (h : DK g n0 H b pc ts wz mr mq) : RS g n0 H (b + 1) 32 (kSc b) := h.2.2.2.2.1
theorem DK.pa {g : WG} {n0 : Nat → Prop} {H : Heap} {b : Nat} {pc ts wz : Int32} {mr mq : Int64} (h : DK g n0 H b pc ts wz mr mq) : AR g.2.2.2.2.1 H (b + 34) 12 (kPA b) := h.2.2.2.2.2.1
theorem DK.pt {g : WG} {n0 : Nat → Prop} {H : Heap} {b : Nat} {pc ts wz : Int32} {mr mq : Int64} (h : DK g n0 H b pc ts wz mr mq) : (∀ k, k < 12 → PT g n0 H (kPA b k) (kPA1 b k) (kPA2 b k) (kPA3 b k)) := h.2.2.2.2.2.2.1
theorem DK.pw {g : WG} {n0 : Nat → Prop} {H : Heap} {b : Nat} {pc ts wz : Int32} {mr mq : Int64} (h : DK g n0 H b pc ts wz mr mq) : AR g.2.2.2.2.1 H (b + 83) 16 (kPW b) := h.2.2.2.2.2.2.2.1
theorem DK.pq {g : WG} {n0 : Nat → Prop} {H : Heap} {b : Nat} {pc ts wz : Int32} {mr mq : Int64} (h : DK g n0 H b pc ts wz mr mq) : (∀ k, k < 16 → PT g n0 H (kPW b k) (kPW1 b k) (kPW2 b k) (kPW3 b k)) := h.2.2.2.2.2.2.2.2.1
theorem DK.tp {g : WG} {n0 : Nat → Prop} {H : Heap} {b : Nat} {pc ts wz : Int32} {mr mq : Int64} (h : DK g n0 H b pc ts wz mr mq) : OB g H (b + 148) 3 [.ref (b + 149), .int ts] := h.2.2.2.2.2.2.2.2.2.1
theorem DK.tc {g : WG} {n0 : Nat → Prop} {H : Heap} {b : Nat} {pc ts wz : Int32} {mr mq : Int64} (h : DK g n0 H b pc ts wz mr mq) : (∃ f, AB g H (b + 149) 96 f) := h.2.2.2.2.2.2.2.2.2.2.1
theorem DK.wr {g : WG} {n0 : Nat → Prop} {H : Heap} {b : Nat} {pc ts wz : Int32} {mr mq : Int64} (h : DK g n0 H b pc ts wz mr mq) : OB g H (b + 150) 3 [.ref (b + 151), .int wz] := h.2.2.2.2.2.2.2.2.2.2.2.1
theorem DK.wc {g : WG} {n0 : Nat → Prop} {H : Heap} {b : Nat} {pc ts wz : Int32} {mr mq : Int64} (h : DK g n0 H b pc ts wz mr mq) : (∃ f, AB g H (b + 151) 96 f) := h.2.2.2.2.2.2.2.2.2.2.2.2.1
theorem DK.hp {g : WG} {n0 : Nat → Prop} {H : Heap} {b : Nat} {pc ts wz : Int32} {mr mq : Int64} (h : DK g n0 H b pc ts wz mr mq) : PT g n0 H (b + 152) (b + 153) (b + 154) (b + 155) := h.2.2.2.2.2.2.2.2.2.2.2.2.2.1
theorem DK.mu {g : WG} {n0 : Nat → Prop} {H : Heap} {b : Nat} {pc ts wz : Int32} {mr mq : Int64} (h : DK g n0 H b pc ts wz mr mq) : PT g n0 H (b + 156) (b + 157) (b + 158) (b + 159) := h.2.2.2.2.2.2.2.2.2.2.2.2.2.2.1
theorem DK.hs {g : WG} {n0 : Nat → Prop} {H : Heap} {b : Nat} {pc ts wz : Int32} {mr mq : Int64} (h : DK g n0 H b pc ts wz mr mq) : J14 g n0 H (b + 160) := h.2.2.2.2.2.2.2.2.2.2.2.2.2.2.2.1
theorem DK.fa {g : WG} {n0 : Nat → Prop} {H : Heap} {b : Nat} {pc ts wz : Int32} {mr mq : Int64} (h : DK g n0 H b pc ts wz mr mq) : J14 g n0 H (b + 161) := h.2.2.2.2.2.2.2.2.2.2.2.2.2.2.2.2.1
theorem DK.fm {g : WG} {n0 : Nat → Prop} {H : Heap} {b : Nat} {pc ts wz : Int32} {mr mq : Int64} (h : DK g n0 H b pc ts wz mr mq) : OB g H (b + 465) 6 [.ref (b + 169), .ref (b + 176), .ref (b + 466), .ref (b + 467), .ref (b + 468), .ref (b + 469)] := h.2.2.2.2.2.2.2.2.2.2.2.2.2.2.2.2.2.1
theorem DK.ge {g : WG} {n0 : Nat → Prop} {H : Heap} {b : Nat} {pc ts wz : Int32} {mr mq : Int64} (h : DK g n0 H b pc ts wz mr mq) : PT g n0 H (b + 495) (b + 496) (b + 497) (b + 498) := h.2.2.2.2.2.2.2.2.2.2.2.2.2.2.2.2.2.2.1
theorem DK.no {g : WG} {n0 : Nat → Prop} {H : Heap} {b : Nat} {pc ts wz : Int32} {mr mq : Int64} (h : DK g n0 H b pc ts wz mr mq) : (n0 b ∧ n0 (b + 148) ∧ n0 (b + 149) ∧ n0 (b + 150) ∧ n0 (b + 151)) := h.2.2.2.2.2.2.2.2.2.2.2.2.2.2.2.2.2.2.2
theorem KJ.dk {g : WG} {S n0 : Nat → Prop} {H H' : Heap} {U : State} (h : KJ g S H H') (hK : KW g U) {b : Nat} {pc ts wz : Int32} {mr mq : Int64} (d : DK g n0 H b pc ts wz mr mq) : DK g n0 H' b pc ts wz mr mq := ⟨h.ob hK d.ob, h.fd hK d.fr, h.su hK d.su, h.po hK d.po, h.rs hK d.rs, h.arP hK d.pa, fun k hk => h.pt hK (d.pt k hk), h.arP hK d.pw, fun k hk => h.pt hK (d.pq k hk), h.ob hK d.tp, d.tc.elim (fun _ hf => h.ab hf hK.jb), h.ob hK d.wr, d.wc.elim (fun _ hf => h.ab hf hK.jb), h.pt hK d.hp, h.pt hK d.mu, h.j d.hs, h.j d.fa, h.ob hK d.fm, h.pt hK d.ge, d.no⟩
/-- all numbers 0, all points nothing -/
def FRESH (g : WG) (H : Heap) (b : Nat) : Prop := (∀ k, k < 32 → AJ g H (kSc b k) 14 (fun _ => 0)) ∧ (∀ k, k < 12 → AJ g H (kPA3 b k) 14 (fun _ => 0)) ∧ MD g H (b + 168) ∧ MD g H (b + 175)
end
