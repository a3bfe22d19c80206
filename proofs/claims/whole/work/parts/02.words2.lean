theorem w_447 : (.instanceMethod ⟨"java/lang/Exception", "<init>", "(Ljava/lang/String;)V"⟩ : Cond) ∈ BW := bw_2 (List.mem_of_getElem? (i := 207) rfl) rfl
theorem w_448 : (.code ⟨"java/lang/Exception", "<init>", "(Ljava/lang/String;)V"⟩ prog_13_method_2_code 2 none : Cond) ∈ BW := bw_2 (List.mem_of_getElem? (i := 208) rfl) rfl
theorem w_449 : (.methodLink "java/lang/Exception" 7 ⟨"java/lang/Throwable", "<init>", "(Ljava/lang/String;)V"⟩ : Cond) ∈ BW := bw_2 (List.mem_of_getElem? (i := 209) rfl) rfl
theorem w_450 : (.instanceMethod ⟨"java/lang/Throwable", "<init>", "(Ljava/lang/String;)V"⟩ : Cond) ∈ BW := bw_2 (List.mem_of_getElem? (i := 210) rfl) rfl
theorem w_451 : (.code ⟨"java/lang/Throwable", "<init>", "(Ljava/lang/String;)V"⟩ prog_22_method_2_code 2 none : Cond) ∈ BW := bw_2 (List.mem_of_getElem? (i := 211) rfl) rfl
theorem w_452 : (.fieldLink "java/lang/Throwable" 198 "java/lang/Throwable" "backtrace" "Ljava/lang/Object;" : Cond) ∈ BW := bw_2 (List.mem_of_getElem? (i := 212) rfl) rfl
theorem w_453 : (.fieldLink "java/lang/Throwable" 31 "java/lang/Throwable" "detailMessage" "Ljava/lang/String;" : Cond) ∈ BW := bw_2 (List.mem_of_getElem? (i := 213) rfl) rfl
theorem w_454 : (.fieldLink "java/lang/Throwable" 7 "java/lang/Throwable" "cause" "Ljava/lang/Throwable;" : Cond) ∈ BW := bw_2 (List.mem_of_getElem? (i := 214) rfl) rfl
theorem w_455 : (.fieldLink "java/lang/Throwable" 17 "java/lang/Throwable" "stackTrace" "[Ljava/lang/StackTraceElement;" : Cond) ∈ BW := bw_2 (List.mem_of_getElem? (i := 215) rfl) rfl
theorem w_456 : (.fieldLink "java/lang/Throwable" 24 "java/lang/Throwable" "suppressedExceptions" "Ljava/util/List;" : Cond) ∈ BW := bw_2 (List.mem_of_getElem? (i := 216) rfl) rfl
theorem w_457 : (.soleField "java/lang/Throwable" "backtrace" : Cond) ∈ BW := bw_2 (List.mem_of_getElem? (i := 217) rfl) rfl
theorem w_458 : (.soleField "java/lang/Throwable" "detailMessage" : Cond) ∈ BW := bw_2 (List.mem_of_getElem? (i := 218) rfl) rfl
theorem w_459 : (.soleField "java/lang/Throwable" "cause" : Cond) ∈ BW := bw_2 (List.mem_of_getElem? (i := 219) rfl) rfl
theorem w_460 : (.soleField "java/lang/Throwable" "stackTrace" : Cond) ∈ BW := bw_2 (List.mem_of_getElem? (i := 220) rfl) rfl
theorem w_461 : (.lays "java/lang/IllegalArgumentException" "java/lang/Throwable" "depth" "I" : Cond) ∈ BW := bw_2 (List.mem_of_getElem? (i := 221) rfl) rfl
theorem w_462 : (.soleField "java/lang/Throwable" "depth" : Cond) ∈ BW := bw_2 (List.mem_of_getElem? (i := 222) rfl) rfl
theorem w_463 : (.soleField "java/lang/Throwable" "suppressedExceptions" : Cond) ∈ BW := bw_2 (List.mem_of_getElem? (i := 223) rfl) rfl
theorem w_464 : (.superclass "java/lang/IllegalArgumentException" "java/lang/RuntimeException" : Cond) ∈ BW := bw_2 (List.mem_of_getElem? (i := 224) rfl) rfl
theorem w_465 : (.classLink "KateDesk" 120 "java/lang/IllegalStateException" : Cond) ∈ BW := bw_2 (List.mem_of_getElem? (i := 225) rfl) rfl
theorem w_466 : (.instantiable "java/lang/IllegalStateException" 6 : Cond) ∈ BW := bw_2 (List.mem_of_getElem? (i := 226) rfl) rfl
theorem w_468 : (.selects "java/lang/IllegalStateException" ⟨"java/lang/Throwable", "fillInStackTrace", "(I)Ljava/lang/Throwable;"⟩ ⟨"java/lang/Throwable", "fillInStackTrace", "(I)Ljava/lang/Throwable;"⟩ : Cond) ∈ BW := bw_2 (List.mem_of_getElem? (i := 228) rfl) rfl
theorem w_469 : (.lays "java/lang/IllegalStateException" "java/lang/Throwable" "cause" "Ljava/lang/Throwable;" : Cond) ∈ BW := bw_2 (List.mem_of_getElem? (i := 229) rfl) rfl
theorem w_470 : (.lays "java/lang/IllegalStateException" "java/lang/Throwable" "stackTrace" "[Ljava/lang/StackTraceElement;" : Cond) ∈ BW := bw_2 (List.mem_of_getElem? (i := 230) rfl) rfl
theorem w_471 : (.lays "java/lang/IllegalStateException" "java/lang/Throwable" "suppressedExceptions" "Ljava/util/List;" : Cond) ∈ BW := bw_2 (List.mem_of_getElem? (i := 231) rfl) rfl
theorem w_472 : (.lays "java/lang/IllegalStateException" "java/lang/Throwable" "detailMessage" "Ljava/lang/String;" : Cond) ∈ BW := bw_2 (List.mem_of_getElem? (i := 232) rfl) rfl
theorem w_473 : (.lays "java/lang/IllegalStateException" "java/lang/Throwable" "backtrace" "Ljava/lang/Object;" : Cond) ∈ BW := bw_2 (List.mem_of_getElem? (i := 233) rfl) rfl
theorem w_475 : (.methodLink "KateDesk" 124 ⟨"java/lang/IllegalStateException", "<init>", "(Ljava/lang/String;)V"⟩ : Cond) ∈ BW := bw_2 (List.mem_of_getElem? (i := 235) rfl) rfl
theorem w_476 : (.instanceMethod ⟨"java/lang/IllegalStateException", "<init>", "(Ljava/lang/String;)V"⟩ : Cond) ∈ BW := bw_2 (List.mem_of_getElem? (i := 236) rfl) rfl
theorem w_477 : (.code ⟨"java/lang/IllegalStateException", "<init>", "(Ljava/lang/String;)V"⟩ prog_15_method_2_code 2 none : Cond) ∈ BW := bw_2 (List.mem_of_getElem? (i := 237) rfl) rfl
theorem w_478 : (.methodLink "java/lang/IllegalStateException" 7 ⟨"java/lang/RuntimeException", "<init>", "(Ljava/lang/String;)V"⟩ : Cond) ∈ BW := bw_2 (List.mem_of_getElem? (i := 238) rfl) rfl
theorem w_479 : (.lays "java/lang/IllegalStateException" "java/lang/Throwable" "depth" "I" : Cond) ∈ BW := bw_2 (List.mem_of_getElem? (i := 239) rfl) rfl
theorem w_480 : (.superclass "java/lang/IllegalStateException" "java/lang/RuntimeException" : Cond) ∈ BW := bw_3 (List.mem_of_getElem? (i := 0) rfl) rfl
theorem w_481 : (.methodLink "KateDesk" 125 ⟨"KateDesk$Row", "append", "(I)V"⟩ : Cond) ∈ BW := bw_3 (List.mem_of_getElem? (i := 1) rfl) rfl
theorem w_482 : (.instanceMethod ⟨"KateDesk$Row", "append", "(I)V"⟩ : Cond) ∈ BW := bw_3 (List.mem_of_getElem? (i := 2) rfl) rfl
theorem w_483 : (.selects "KateDesk$Row" ⟨"KateDesk$Row", "append", "(I)V"⟩ ⟨"KateDesk$Row", "append", "(I)V"⟩ : Cond) ∈ BW := bw_3 (List.mem_of_getElem? (i := 3) rfl) rfl
theorem w_484 : (.code ⟨"KateDesk$Row", "append", "(I)V"⟩ prog_8_method_2_code 2 none : Cond) ∈ BW := bw_3 (List.mem_of_getElem? (i := 4) rfl) rfl
theorem w_485 : (.methodLink "KateDeskLaw" 110 ⟨"KateDeskLaw", "number", "(LKateDesk;I[J)I"⟩ : Cond) ∈ BW := bw_3 (List.mem_of_getElem? (i := 5) rfl) rfl
theorem w_486 : (.static ⟨"KateDeskLaw", "number", "(LKateDesk;I[J)I"⟩ : Cond) ∈ BW := bw_3 (List.mem_of_getElem? (i := 6) rfl) rfl
theorem w_487 : (.codeWith ⟨"KateDeskLaw", "number", "(LKateDesk;I[J)I"⟩ method_4_code 4 (Option.some FieldType.int) [(0, 16, 19, 13)] : Cond) ∈ BW := bw_3 (List.mem_of_getElem? (i := 7) rfl) rfl
theorem w_488 : (.methodLink "KateDeskLaw" 17 ⟨"KateDesk", "number", "(I)Z"⟩ : Cond) ∈ BW := bw_3 (List.mem_of_getElem? (i := 8) rfl) rfl
theorem w_489 : (.instanceMethod ⟨"KateDesk", "number", "(I)Z"⟩ : Cond) ∈ BW := bw_3 (List.mem_of_getElem? (i := 9) rfl) rfl
theorem w_490 : (.selects "KateDesk" ⟨"KateDesk", "number", "(I)Z"⟩ ⟨"KateDesk", "number", "(I)Z"⟩ : Cond) ∈ BW := bw_3 (List.mem_of_getElem? (i := 10) rfl) rfl
theorem w_491 : (.code ⟨"KateDesk", "number", "(I)Z"⟩ prog_1_method_3_code 3 (Option.some FieldType.boolean) : Cond) ∈ BW := bw_3 (List.mem_of_getElem? (i := 11) rfl) rfl
theorem w_492 : (.methodLink "KateDesk" 129 ⟨"KateDesk", "needScalars", "(II)V"⟩ : Cond) ∈ BW := bw_3 (List.mem_of_getElem? (i := 12) rfl) rfl
theorem w_493 : (.static ⟨"KateDesk", "needScalars", "(II)V"⟩ : Cond) ∈ BW := bw_3 (List.mem_of_getElem? (i := 13) rfl) rfl
theorem w_494 : (.code ⟨"KateDesk", "needScalars", "(II)V"⟩ prog_1_method_25_code 2 none : Cond) ∈ BW := bw_3 (List.mem_of_getElem? (i := 14) rfl) rfl
theorem w_496 : (.methodLink "KateDesk" 133 ⟨"KateDesk$Limbs", "clear", "([J)V"⟩ : Cond) ∈ BW := bw_3 (List.mem_of_getElem? (i := 16) rfl) rfl
theorem w_497 : (.static ⟨"KateDesk$Limbs", "clear", "([J)V"⟩ : Cond) ∈ BW := bw_3 (List.mem_of_getElem? (i := 17) rfl) rfl
theorem w_498 : (.code ⟨"KateDesk$Limbs", "clear", "([J)V"⟩ prog_5_method_4_code 1 none : Cond) ∈ BW := bw_3 (List.mem_of_getElem? (i := 18) rfl) rfl
theorem w_499 : (.methodLink "KateDesk$Limbs" 25 ⟨"java/util/Arrays", "fill", "([JJ)V"⟩ : Cond) ∈ BW := bw_3 (List.mem_of_getElem? (i := 19) rfl) rfl
theorem w_500 : (.static ⟨"java/util/Arrays", "fill", "([JJ)V"⟩ : Cond) ∈ BW := bw_3 (List.mem_of_getElem? (i := 20) rfl) rfl
theorem w_501 : (.code ⟨"java/util/Arrays", "fill", "([JJ)V"⟩ prog_23_method_101_code 5 none : Cond) ∈ BW := bw_3 (List.mem_of_getElem? (i := 21) rfl) rfl
theorem w_502 : (.methodLink "KateDesk" 137 ⟨"KateDesk$Row", "at", "(I)I"⟩ : Cond) ∈ BW := bw_3 (List.mem_of_getElem? (i := 22) rfl) rfl
theorem w_503 : (.instanceMethod ⟨"KateDesk$Row", "at", "(I)I"⟩ : Cond) ∈ BW := bw_3 (List.mem_of_getElem? (i := 23) rfl) rfl
theorem w_504 : (.selects "KateDesk$Row" ⟨"KateDesk$Row", "at", "(I)I"⟩ ⟨"KateDesk$Row", "at", "(I)I"⟩ : Cond) ∈ BW := bw_3 (List.mem_of_getElem? (i := 24) rfl) rfl
theorem w_505 : (.code ⟨"KateDesk$Row", "at", "(I)I"⟩ prog_8_method_3_code 2 (Option.some FieldType.int) : Cond) ∈ BW := bw_3 (List.mem_of_getElem? (i := 25) rfl) rfl
theorem w_506 : (.methodLink "KateDesk" 141 ⟨"KateDesk$Limbs", "orByte", "([JII)V"⟩ : Cond) ∈ BW := bw_3 (List.mem_of_getElem? (i := 26) rfl) rfl
theorem w_507 : (.static ⟨"KateDesk$Limbs", "orByte", "([JII)V"⟩ : Cond) ∈ BW := bw_3 (List.mem_of_getElem? (i := 27) rfl) rfl
theorem w_508 : (.code ⟨"KateDesk$Limbs", "orByte", "([JII)V"⟩ prog_5_method_10_code 6 none : Cond) ∈ BW := bw_3 (List.mem_of_getElem? (i := 28) rfl) rfl
theorem w_509 : (.constantLong "KateDesk$Limbs" 23 (268435455 : Int64) : Cond) ∈ BW := bw_3 (List.mem_of_getElem? (i := 29) rfl) rfl
theorem w_510 : (.methodLink "KateDesk" 148 ⟨"KateDesk$Limbs", "less", "([J[J)Z"⟩ : Cond) ∈ BW := bw_3 (List.mem_of_getElem? (i := 30) rfl) rfl
theorem w_511 : (.static ⟨"KateDesk$Limbs", "less", "([J[J)Z"⟩ : Cond) ∈ BW := bw_3 (List.mem_of_getElem? (i := 31) rfl) rfl
theorem w_512 : (.code ⟨"KateDesk$Limbs", "less", "([J[J)Z"⟩ prog_5_method_8_code 3 (Option.some FieldType.boolean) : Cond) ∈ BW := bw_3 (List.mem_of_getElem? (i := 32) rfl) rfl
theorem w_513 : (.methodLink "KateDeskLaw" 114 ⟨"KateDeskLaw", "set", "(LKateDesk;IJ)I"⟩ : Cond) ∈ BW := bw_3 (List.mem_of_getElem? (i := 33) rfl) rfl
theorem w_514 : (.static ⟨"KateDeskLaw", "set", "(LKateDesk;IJ)I"⟩ : Cond) ∈ BW := bw_3 (List.mem_of_getElem? (i := 34) rfl) rfl
theorem w_515 : (.codeWith ⟨"KateDeskLaw", "set", "(LKateDesk;IJ)I"⟩ method_5_code 5 (Option.some FieldType.int) [(0, 6, 9, 13)] : Cond) ∈ BW := bw_3 (List.mem_of_getElem? (i := 35) rfl) rfl
theorem w_516 : (.methodLink "KateDeskLaw" 21 ⟨"KateDesk", "set", "(IJ)V"⟩ : Cond) ∈ BW := bw_3 (List.mem_of_getElem? (i := 36) rfl) rfl
theorem w_517 : (.instanceMethod ⟨"KateDesk", "set", "(IJ)V"⟩ : Cond) ∈ BW := bw_3 (List.mem_of_getElem? (i := 37) rfl) rfl
theorem w_518 : (.selects "KateDesk" ⟨"KateDesk", "set", "(IJ)V"⟩ ⟨"KateDesk", "set", "(IJ)V"⟩ : Cond) ∈ BW := bw_3 (List.mem_of_getElem? (i := 38) rfl) rfl
theorem w_519 : (.code ⟨"KateDesk", "set", "(IJ)V"⟩ prog_1_method_4_code 4 none : Cond) ∈ BW := bw_3 (List.mem_of_getElem? (i := 39) rfl) rfl
theorem w_521 : (.methodLink "KateDesk" 158 ⟨"KateDesk$Limbs", "fromLong", "([JJ)V"⟩ : Cond) ∈ BW := bw_3 (List.mem_of_getElem? (i := 41) rfl) rfl
theorem w_522 : (.static ⟨"KateDesk$Limbs", "fromLong", "([JJ)V"⟩ : Cond) ∈ BW := bw_3 (List.mem_of_getElem? (i := 42) rfl) rfl
theorem w_523 : (.code ⟨"KateDesk$Limbs", "fromLong", "([JJ)V"⟩ prog_5_method_3_code 3 none : Cond) ∈ BW := bw_3 (List.mem_of_getElem? (i := 43) rfl) rfl
theorem w_524 : (.methodLink "KateDesk$Limbs" 19 ⟨"KateDesk$Limbs", "clear", "([J)V"⟩ : Cond) ∈ BW := bw_3 (List.mem_of_getElem? (i := 44) rfl) rfl
theorem w_525 : (.methodLink "KateDeskLaw" 118 ⟨"KateDeskLaw", "word", "(LKateDesk;II[J)I"⟩ : Cond) ∈ BW := bw_3 (List.mem_of_getElem? (i := 45) rfl) rfl
theorem w_526 : (.static ⟨"KateDeskLaw", "word", "(LKateDesk;II[J)I"⟩ : Cond) ∈ BW := bw_3 (List.mem_of_getElem? (i := 46) rfl) rfl
theorem w_527 : (.codeWith ⟨"KateDeskLaw", "word", "(LKateDesk;II[J)I"⟩ method_6_code 5 (Option.some FieldType.int) [(0, 9, 12, 13)] : Cond) ∈ BW := bw_3 (List.mem_of_getElem? (i := 47) rfl) rfl
theorem w_528 : (.methodLink "KateDeskLaw" 25 ⟨"KateDesk", "word", "(II)J"⟩ : Cond) ∈ BW := bw_3 (List.mem_of_getElem? (i := 48) rfl) rfl
theorem w_529 : (.instanceMethod ⟨"KateDesk", "word", "(II)J"⟩ : Cond) ∈ BW := bw_3 (List.mem_of_getElem? (i := 49) rfl) rfl
theorem w_530 : (.selects "KateDesk" ⟨"KateDesk", "word", "(II)J"⟩ ⟨"KateDesk", "word", "(II)J"⟩ : Cond) ∈ BW := bw_3 (List.mem_of_getElem? (i := 50) rfl) rfl
theorem w_531 : (.code ⟨"KateDesk", "word", "(II)J"⟩ prog_1_method_5_code 7 (Option.some FieldType.long) : Cond) ∈ BW := bw_3 (List.mem_of_getElem? (i := 51) rfl) rfl
theorem w_533 : (.methodLink "KateDesk" 164 ⟨"KateDesk$Limbs", "bits", "([JII)J"⟩ : Cond) ∈ BW := bw_3 (List.mem_of_getElem? (i := 53) rfl) rfl
theorem w_534 : (.methodLink "KateDeskLaw" 122 ⟨"KateDeskLaw", "reckon", "(LKateDesk;IIII)I"⟩ : Cond) ∈ BW := bw_3 (List.mem_of_getElem? (i := 54) rfl) rfl
theorem w_535 : (.static ⟨"KateDeskLaw", "reckon", "(LKateDesk;IIII)I"⟩ : Cond) ∈ BW := bw_3 (List.mem_of_getElem? (i := 55) rfl) rfl
theorem w_536 : (.codeWith ⟨"KateDeskLaw", "reckon", "(LKateDesk;IIII)I"⟩ method_7_code 6 (Option.some FieldType.int) [(0, 9, 12, 13), (0, 9, 16, 33)] : Cond) ∈ BW := bw_3 (List.mem_of_getElem? (i := 56) rfl) rfl
theorem w_537 : (.classLink "KateDeskLaw" 33 "java/lang/ArithmeticException" : Cond) ∈ BW := bw_3 (List.mem_of_getElem? (i := 57) rfl) rfl
theorem w_538 : (.methodLink "KateDeskLaw" 29 ⟨"KateDesk", "reckon", "(IIII)V"⟩ : Cond) ∈ BW := bw_3 (List.mem_of_getElem? (i := 58) rfl) rfl
theorem w_539 : (.instanceMethod ⟨"KateDesk", "reckon", "(IIII)V"⟩ : Cond) ∈ BW := bw_3 (List.mem_of_getElem? (i := 59) rfl) rfl
theorem w_540 : (.selects "KateDesk" ⟨"KateDesk", "reckon", "(IIII)V"⟩ ⟨"KateDesk", "reckon", "(IIII)V"⟩ : Cond) ∈ BW := bw_3 (List.mem_of_getElem? (i := 60) rfl) rfl
theorem w_541 : (.code ⟨"KateDesk", "reckon", "(IIII)V"⟩ prog_1_method_6_code 5 none : Cond) ∈ BW := bw_3 (List.mem_of_getElem? (i := 61) rfl) rfl
theorem w_542 : (.methodLink "KateDesk" 168 ⟨"KateDesk", "needKind", "(I)V"⟩ : Cond) ∈ BW := bw_3 (List.mem_of_getElem? (i := 62) rfl) rfl
theorem w_543 : (.static ⟨"KateDesk", "needKind", "(I)V"⟩ : Cond) ∈ BW := bw_3 (List.mem_of_getElem? (i := 63) rfl) rfl
theorem w_544 : (.code ⟨"KateDesk", "needKind", "(I)V"⟩ prog_1_method_23_code 1 none : Cond) ∈ BW := bw_3 (List.mem_of_getElem? (i := 64) rfl) rfl
theorem w_546 : (.methodLink "KateDesk" 171 ⟨"KateDesk$Limbs", "isZero", "([J)Z"⟩ : Cond) ∈ BW := bw_3 (List.mem_of_getElem? (i := 66) rfl) rfl
theorem w_547 : (.static ⟨"KateDesk$Limbs", "isZero", "([J)Z"⟩ : Cond) ∈ BW := bw_3 (List.mem_of_getElem? (i := 67) rfl) rfl
theorem w_548 : (.code ⟨"KateDesk$Limbs", "isZero", "([J)Z"⟩ prog_5_method_6_code 2 (Option.some FieldType.boolean) : Cond) ∈ BW := bw_3 (List.mem_of_getElem? (i := 68) rfl) rfl
theorem w_549 : (.classLink "KateDesk" 175 "java/lang/ArithmeticException" : Cond) ∈ BW := bw_3 (List.mem_of_getElem? (i := 69) rfl) rfl
theorem w_550 : (.instantiable "java/lang/ArithmeticException" 6 : Cond) ∈ BW := bw_3 (List.mem_of_getElem? (i := 70) rfl) rfl
theorem w_552 : (.selects "java/lang/ArithmeticException" ⟨"java/lang/Throwable", "fillInStackTrace", "(I)Ljava/lang/Throwable;"⟩ ⟨"java/lang/Throwable", "fillInStackTrace", "(I)Ljava/lang/Throwable;"⟩ : Cond) ∈ BW := bw_3 (List.mem_of_getElem? (i := 72) rfl) rfl
theorem w_553 : (.lays "java/lang/ArithmeticException" "java/lang/Throwable" "cause" "Ljava/lang/Throwable;" : Cond) ∈ BW := bw_3 (List.mem_of_getElem? (i := 73) rfl) rfl
theorem w_554 : (.lays "java/lang/ArithmeticException" "java/lang/Throwable" "stackTrace" "[Ljava/lang/StackTraceElement;" : Cond) ∈ BW := bw_3 (List.mem_of_getElem? (i := 74) rfl) rfl
theorem w_555 : (.lays "java/lang/ArithmeticException" "java/lang/Throwable" "suppressedExceptions" "Ljava/util/List;" : Cond) ∈ BW := bw_3 (List.mem_of_getElem? (i := 75) rfl) rfl
theorem w_556 : (.lays "java/lang/ArithmeticException" "java/lang/Throwable" "detailMessage" "Ljava/lang/String;" : Cond) ∈ BW := bw_3 (List.mem_of_getElem? (i := 76) rfl) rfl
theorem w_557 : (.lays "java/lang/ArithmeticException" "java/lang/Throwable" "backtrace" "Ljava/lang/Object;" : Cond) ∈ BW := bw_3 (List.mem_of_getElem? (i := 77) rfl) rfl
theorem w_559 : (.methodLink "KateDesk" 179 ⟨"java/lang/ArithmeticException", "<init>", "(Ljava/lang/String;)V"⟩ : Cond) ∈ BW := bw_3 (List.mem_of_getElem? (i := 79) rfl) rfl
theorem w_560 : (.instanceMethod ⟨"java/lang/ArithmeticException", "<init>", "(Ljava/lang/String;)V"⟩ : Cond) ∈ BW := bw_3 (List.mem_of_getElem? (i := 80) rfl) rfl
theorem w_561 : (.code ⟨"java/lang/ArithmeticException", "<init>", "(Ljava/lang/String;)V"⟩ prog_12_method_2_code 2 none : Cond) ∈ BW := bw_3 (List.mem_of_getElem? (i := 81) rfl) rfl
theorem w_562 : (.methodLink "java/lang/ArithmeticException" 7 ⟨"java/lang/RuntimeException", "<init>", "(Ljava/lang/String;)V"⟩ : Cond) ∈ BW := bw_3 (List.mem_of_getElem? (i := 82) rfl) rfl
theorem w_563 : (.lays "java/lang/ArithmeticException" "java/lang/Throwable" "depth" "I" : Cond) ∈ BW := bw_3 (List.mem_of_getElem? (i := 83) rfl) rfl
theorem w_564 : (.superclass "java/lang/ArithmeticException" "java/lang/RuntimeException" : Cond) ∈ BW := bw_3 (List.mem_of_getElem? (i := 84) rfl) rfl
theorem w_565 : (.methodLink "KateDesk" 180 ⟨"KateDesk$Field", "add", "([J[J[J)V"⟩ : Cond) ∈ BW := bw_3 (List.mem_of_getElem? (i := 85) rfl) rfl
theorem w_566 : (.methodLink "KateDesk" 184 ⟨"KateDesk$Field", "subtract", "([J[J[J)V"⟩ : Cond) ∈ BW := bw_3 (List.mem_of_getElem? (i := 86) rfl) rfl
theorem w_567 : (.methodLink "KateDesk" 190 ⟨"KateDesk$Field", "invert", "([J[J)V"⟩ : Cond) ∈ BW := bw_3 (List.mem_of_getElem? (i := 87) rfl) rfl
theorem w_568 : (.instanceMethod ⟨"KateDesk$Field", "invert", "([J[J)V"⟩ : Cond) ∈ BW := bw_3 (List.mem_of_getElem? (i := 88) rfl) rfl
theorem w_569 : (.selects "KateDesk$Field" ⟨"KateDesk$Field", "invert", "([J[J)V"⟩ ⟨"KateDesk$Field", "invert", "([J[J)V"⟩ : Cond) ∈ BW := bw_3 (List.mem_of_getElem? (i := 89) rfl) rfl
theorem w_570 : (.code ⟨"KateDesk$Field", "invert", "([J[J)V"⟩ prog_3_method_12_code 3 none : Cond) ∈ BW := bw_3 (List.mem_of_getElem? (i := 90) rfl) rfl
theorem w_571 : (.methodLink "KateDesk$Field" 75 ⟨"KateDesk$Field", "raise", "([J[J[J)V"⟩ : Cond) ∈ BW := bw_3 (List.mem_of_getElem? (i := 91) rfl) rfl
theorem w_572 : (.instanceMethod ⟨"KateDesk$Field", "raise", "([J[J[J)V"⟩ : Cond) ∈ BW := bw_3 (List.mem_of_getElem? (i := 92) rfl) rfl
theorem w_573 : (.selects "KateDesk$Field" ⟨"KateDesk$Field", "raise", "([J[J[J)V"⟩ ⟨"KateDesk$Field", "raise", "([J[J[J)V"⟩ : Cond) ∈ BW := bw_3 (List.mem_of_getElem? (i := 93) rfl) rfl
theorem w_574 : (.code ⟨"KateDesk$Field", "raise", "([J[J[J)V"⟩ prog_3_method_11_code 6 none : Cond) ∈ BW := bw_3 (List.mem_of_getElem? (i := 94) rfl) rfl
theorem w_575 : (.methodLink "KateDesk$Field" 71 ⟨"KateDesk$Limbs", "bits", "([JII)J"⟩ : Cond) ∈ BW := bw_3 (List.mem_of_getElem? (i := 95) rfl) rfl
theorem w_576 : (.methodLink "KateDesk" 193 ⟨"KateDesk$Field", "multiply", "([J[J[J)V"⟩ : Cond) ∈ BW := bw_3 (List.mem_of_getElem? (i := 96) rfl) rfl
theorem w_577 : (.methodLink "KateDeskLaw" 126 ⟨"KateDeskLaw", "power", "(LKateDesk;IIJ)I"⟩ : Cond) ∈ BW := bw_3 (List.mem_of_getElem? (i := 97) rfl) rfl
theorem w_578 : (.static ⟨"KateDeskLaw", "power", "(LKateDesk;IIJ)I"⟩ : Cond) ∈ BW := bw_3 (List.mem_of_getElem? (i := 98) rfl) rfl
theorem w_579 : (.codeWith ⟨"KateDeskLaw", "power", "(LKateDesk;IIJ)I"⟩ method_8_code 6 (Option.some FieldType.int) [(0, 7, 10, 13)] : Cond) ∈ BW := bw_3 (List.mem_of_getElem? (i := 99) rfl) rfl
theorem w_580 : (.methodLink "KateDeskLaw" 35 ⟨"KateDesk", "power", "(IIJ)V"⟩ : Cond) ∈ BW := bw_3 (List.mem_of_getElem? (i := 100) rfl) rfl
theorem w_581 : (.instanceMethod ⟨"KateDesk", "power", "(IIJ)V"⟩ : Cond) ∈ BW := bw_3 (List.mem_of_getElem? (i := 101) rfl) rfl
theorem w_582 : (.selects "KateDesk" ⟨"KateDesk", "power", "(IIJ)V"⟩ ⟨"KateDesk", "power", "(IIJ)V"⟩ : Cond) ∈ BW := bw_3 (List.mem_of_getElem? (i := 102) rfl) rfl
theorem w_583 : (.code ⟨"KateDesk", "power", "(IIJ)V"⟩ prog_1_method_7_code 5 none : Cond) ∈ BW := bw_3 (List.mem_of_getElem? (i := 103) rfl) rfl
theorem w_585 : (.methodLink "KateDesk" 198 ⟨"KateDesk$Field", "raise", "([J[J[J)V"⟩ : Cond) ∈ BW := bw_3 (List.mem_of_getElem? (i := 105) rfl) rfl
theorem w_586 : (.methodLink "KateDesk" 201 ⟨"KateDesk$Field", "lower", "([J[J)V"⟩ : Cond) ∈ BW := bw_3 (List.mem_of_getElem? (i := 106) rfl) rfl
theorem w_587 : (.instanceMethod ⟨"KateDesk$Field", "lower", "([J[J)V"⟩ : Cond) ∈ BW := bw_3 (List.mem_of_getElem? (i := 107) rfl) rfl
theorem w_588 : (.selects "KateDesk$Field" ⟨"KateDesk$Field", "lower", "([J[J)V"⟩ ⟨"KateDesk$Field", "lower", "([J[J)V"⟩ : Cond) ∈ BW := bw_3 (List.mem_of_getElem? (i := 108) rfl) rfl
theorem w_589 : (.code ⟨"KateDesk$Field", "lower", "([J[J)V"⟩ prog_3_method_10_code 3 none : Cond) ∈ BW := bw_3 (List.mem_of_getElem? (i := 109) rfl) rfl
theorem w_590 : (.methodLink "KateDeskLaw" 130 ⟨"KateDeskLaw", "unity", "(LKateDesk;II)I"⟩ : Cond) ∈ BW := bw_3 (List.mem_of_getElem? (i := 110) rfl) rfl
theorem w_591 : (.static ⟨"KateDeskLaw", "unity", "(LKateDesk;II)I"⟩ : Cond) ∈ BW := bw_3 (List.mem_of_getElem? (i := 111) rfl) rfl
theorem w_592 : (.codeWith ⟨"KateDeskLaw", "unity", "(LKateDesk;II)I"⟩ method_9_code 4 (Option.some FieldType.int) [(0, 6, 9, 13)] : Cond) ∈ BW := bw_3 (List.mem_of_getElem? (i := 112) rfl) rfl
theorem w_593 : (.methodLink "KateDeskLaw" 39 ⟨"KateDesk", "unity", "(II)V"⟩ : Cond) ∈ BW := bw_3 (List.mem_of_getElem? (i := 113) rfl) rfl
theorem w_594 : (.instanceMethod ⟨"KateDesk", "unity", "(II)V"⟩ : Cond) ∈ BW := bw_3 (List.mem_of_getElem? (i := 114) rfl) rfl
theorem w_595 : (.selects "KateDesk" ⟨"KateDesk", "unity", "(II)V"⟩ ⟨"KateDesk", "unity", "(II)V"⟩ : Cond) ∈ BW := bw_3 (List.mem_of_getElem? (i := 115) rfl) rfl
theorem w_596 : (.code ⟨"KateDesk", "unity", "(II)V"⟩ prog_1_method_8_code 3 none : Cond) ∈ BW := bw_3 (List.mem_of_getElem? (i := 116) rfl) rfl
theorem w_598 : (.methodLink "KateDesk" 206 ⟨"KateDesk$Polynomials", "liftedRoot", "([JI)V"⟩ : Cond) ∈ BW := bw_3 (List.mem_of_getElem? (i := 118) rfl) rfl
theorem w_599 : (.instanceMethod ⟨"KateDesk$Polynomials", "liftedRoot", "([JI)V"⟩ : Cond) ∈ BW := bw_3 (List.mem_of_getElem? (i := 119) rfl) rfl
theorem w_600 : (.selects "KateDesk$Polynomials" ⟨"KateDesk$Polynomials", "liftedRoot", "([JI)V"⟩ ⟨"KateDesk$Polynomials", "liftedRoot", "([JI)V"⟩ : Cond) ∈ BW := bw_3 (List.mem_of_getElem? (i := 120) rfl) rfl
theorem w_601 : (.code ⟨"KateDesk$Polynomials", "liftedRoot", "([JI)V"⟩ prog_7_method_2_code 3 none : Cond) ∈ BW := bw_3 (List.mem_of_getElem? (i := 121) rfl) rfl
theorem w_602 : (.methodLink "KateDesk$Polynomials" 50 ⟨"KateDesk$Polynomials", "rootExponent", "(I)V"⟩ : Cond) ∈ BW := bw_3 (List.mem_of_getElem? (i := 122) rfl) rfl
theorem w_604 : (.instanceMethod ⟨"KateDesk$Polynomials", "rootExponent", "(I)V"⟩ : Cond) ∈ BW := bw_3 (List.mem_of_getElem? (i := 124) rfl) rfl
theorem w_605 : (.code ⟨"KateDesk$Polynomials", "rootExponent", "(I)V"⟩ prog_7_method_3_code 2 none : Cond) ∈ BW := bw_3 (List.mem_of_getElem? (i := 125) rfl) rfl
theorem w_606 : (.methodLink "KateDesk$Polynomials" 58 ⟨"KateDesk$Field", "negate", "([J[J)V"⟩ : Cond) ∈ BW := bw_3 (List.mem_of_getElem? (i := 126) rfl) rfl
theorem w_607 : (.instanceMethod ⟨"KateDesk$Field", "negate", "([J[J)V"⟩ : Cond) ∈ BW := bw_3 (List.mem_of_getElem? (i := 127) rfl) rfl
theorem w_608 : (.selects "KateDesk$Field" ⟨"KateDesk$Field", "negate", "([J[J)V"⟩ ⟨"KateDesk$Field", "negate", "([J[J)V"⟩ : Cond) ∈ BW := bw_3 (List.mem_of_getElem? (i := 128) rfl) rfl
theorem w_609 : (.code ⟨"KateDesk$Field", "negate", "([J[J)V"⟩ prog_3_method_6_code 3 none : Cond) ∈ BW := bw_3 (List.mem_of_getElem? (i := 129) rfl) rfl
theorem w_610 : (.methodLink "KateDesk$Field" 68 ⟨"KateDesk$Limbs", "clear", "([J)V"⟩ : Cond) ∈ BW := bw_3 (List.mem_of_getElem? (i := 130) rfl) rfl
theorem w_611 : (.methodLink "KateDesk$Polynomials" 61 ⟨"KateDesk$Limbs", "shiftRight", "([J[JI)V"⟩ : Cond) ∈ BW := bw_3 (List.mem_of_getElem? (i := 131) rfl) rfl
theorem w_612 : (.methodLink "KateDesk$Polynomials" 54 ⟨"KateDesk$Field", "raise", "([J[J[J)V"⟩ : Cond) ∈ BW := bw_3 (List.mem_of_getElem? (i := 132) rfl) rfl
theorem w_613 : (.methodLink "KateDeskLaw" 134 ⟨"KateDeskLaw", "point", "(LKateDesk;I[J)I"⟩ : Cond) ∈ BW := bw_3 (List.mem_of_getElem? (i := 133) rfl) rfl
theorem w_614 : (.static ⟨"KateDeskLaw", "point", "(LKateDesk;I[J)I"⟩ : Cond) ∈ BW := bw_3 (List.mem_of_getElem? (i := 134) rfl) rfl
theorem w_615 : (.codeWith ⟨"KateDeskLaw", "point", "(LKateDesk;I[J)I"⟩ method_10_code 4 (Option.some FieldType.int) [(0, 9, 12, 13)] : Cond) ∈ BW := bw_3 (List.mem_of_getElem? (i := 135) rfl) rfl
theorem w_616 : (.methodLink "KateDeskLaw" 43 ⟨"KateDesk", "point", "(I)I"⟩ : Cond) ∈ BW := bw_3 (List.mem_of_getElem? (i := 136) rfl) rfl
theorem w_617 : (.instanceMethod ⟨"KateDesk", "point", "(I)I"⟩ : Cond) ∈ BW := bw_3 (List.mem_of_getElem? (i := 137) rfl) rfl
theorem w_618 : (.selects "KateDesk" ⟨"KateDesk", "point", "(I)I"⟩ ⟨"KateDesk", "point", "(I)I"⟩ : Cond) ∈ BW := bw_3 (List.mem_of_getElem? (i := 138) rfl) rfl
theorem w_619 : (.code ⟨"KateDesk", "point", "(I)I"⟩ prog_1_method_9_code 3 (Option.some FieldType.int) : Cond) ∈ BW := bw_3 (List.mem_of_getElem? (i := 139) rfl) rfl
theorem w_620 : (.methodLink "KateDesk" 210 ⟨"KateDesk", "needPoints", "(II)V"⟩ : Cond) ∈ BW := bw_3 (List.mem_of_getElem? (i := 140) rfl) rfl
theorem w_621 : (.static ⟨"KateDesk", "needPoints", "(II)V"⟩ : Cond) ∈ BW := bw_3 (List.mem_of_getElem? (i := 141) rfl) rfl
theorem w_622 : (.code ⟨"KateDesk", "needPoints", "(II)V"⟩ prog_1_method_26_code 2 none : Cond) ∈ BW := bw_3 (List.mem_of_getElem? (i := 142) rfl) rfl
theorem w_624 : (.methodLink "KateDesk" 213 ⟨"KateDesk$Forms", "read", "(LKateDesk$Point;LKateDesk$Row;)I"⟩ : Cond) ∈ BW := bw_3 (List.mem_of_getElem? (i := 144) rfl) rfl
theorem w_625 : (.instanceMethod ⟨"KateDesk$Forms", "read", "(LKateDesk$Point;LKateDesk$Row;)I"⟩ : Cond) ∈ BW := bw_3 (List.mem_of_getElem? (i := 145) rfl) rfl
theorem w_626 : (.selects "KateDesk$Forms" ⟨"KateDesk$Forms", "read", "(LKateDesk$Point;LKateDesk$Row;)I"⟩ ⟨"KateDesk$Forms", "read", "(LKateDesk$Point;LKateDesk$Row;)I"⟩ : Cond) ∈ BW := bw_3 (List.mem_of_getElem? (i := 146) rfl) rfl
theorem w_627 : (.code ⟨"KateDesk$Forms", "read", "(LKateDesk$Point;LKateDesk$Row;)I"⟩ prog_4_method_2_code 5 (Option.some FieldType.int) : Cond) ∈ BW := bw_3 (List.mem_of_getElem? (i := 147) rfl) rfl
theorem w_628 : (.methodLink "KateDesk$Forms" 47 ⟨"KateDesk$Row", "at", "(I)I"⟩ : Cond) ∈ BW := bw_3 (List.mem_of_getElem? (i := 148) rfl) rfl
theorem w_629 : (.methodLink "KateDesk$Forms" 51 ⟨"KateDesk$Forms", "canBe", "(IZ)Z"⟩ : Cond) ∈ BW := bw_3 (List.mem_of_getElem? (i := 149) rfl) rfl
theorem w_630 : (.static ⟨"KateDesk$Forms", "canBe", "(IZ)Z"⟩ : Cond) ∈ BW := bw_3 (List.mem_of_getElem? (i := 150) rfl) rfl
theorem w_631 : (.code ⟨"KateDesk$Forms", "canBe", "(IZ)Z"⟩ prog_4_method_3_code 2 (Option.some FieldType.boolean) : Cond) ∈ BW := bw_3 (List.mem_of_getElem? (i := 151) rfl) rfl
theorem w_632 : (.methodLink "KateDesk$Forms" 55 ⟨"KateDesk$Point", "becomeNothing", "()V"⟩ : Cond) ∈ BW := bw_3 (List.mem_of_getElem? (i := 152) rfl) rfl
theorem w_633 : (.instanceMethod ⟨"KateDesk$Point", "becomeNothing", "()V"⟩ : Cond) ∈ BW := bw_3 (List.mem_of_getElem? (i := 153) rfl) rfl
theorem w_634 : (.selects "KateDesk$Point" ⟨"KateDesk$Point", "becomeNothing", "()V"⟩ ⟨"KateDesk$Point", "becomeNothing", "()V"⟩ : Cond) ∈ BW := bw_3 (List.mem_of_getElem? (i := 154) rfl) rfl
theorem w_635 : (.code ⟨"KateDesk$Point", "becomeNothing", "()V"⟩ prog_6_method_2_code 1 none : Cond) ∈ BW := bw_3 (List.mem_of_getElem? (i := 155) rfl) rfl
theorem w_636 : (.methodLink "KateDesk$Point" 21 ⟨"KateDesk$Limbs", "clear", "([J)V"⟩ : Cond) ∈ BW := bw_3 (List.mem_of_getElem? (i := 156) rfl) rfl
theorem w_637 : (.methodLink "KateDesk$Forms" 60 ⟨"KateDesk$Forms", "isBare", "(LKateDesk$Row;)Z"⟩ : Cond) ∈ BW := bw_3 (List.mem_of_getElem? (i := 157) rfl) rfl
theorem w_638 : (.static ⟨"KateDesk$Forms", "isBare", "(LKateDesk$Row;)Z"⟩ : Cond) ∈ BW := bw_3 (List.mem_of_getElem? (i := 158) rfl) rfl
theorem w_639 : (.code ⟨"KateDesk$Forms", "isBare", "(LKateDesk$Row;)Z"⟩ prog_4_method_4_code 3 (Option.some FieldType.boolean) : Cond) ∈ BW := bw_3 (List.mem_of_getElem? (i := 159) rfl) rfl
theorem w_640 : (.methodLink "KateDesk$Forms" 67 ⟨"KateDesk$Forms", "readCoordinate", "([JLKateDesk$Row;I)Z"⟩ : Cond) ∈ BW := bw_3 (List.mem_of_getElem? (i := 160) rfl) rfl
theorem w_642 : (.instanceMethod ⟨"KateDesk$Forms", "readCoordinate", "([JLKateDesk$Row;I)Z"⟩ : Cond) ∈ BW := bw_3 (List.mem_of_getElem? (i := 162) rfl) rfl
theorem w_643 : (.code ⟨"KateDesk$Forms", "readCoordinate", "([JLKateDesk$Row;I)Z"⟩ prog_4_method_5_code 6 (Option.some FieldType.boolean) : Cond) ∈ BW := bw_3 (List.mem_of_getElem? (i := 163) rfl) rfl
theorem w_644 : (.methodLink "KateDesk$Forms" 101 ⟨"KateDesk$Limbs", "clear", "([J)V"⟩ : Cond) ∈ BW := bw_3 (List.mem_of_getElem? (i := 164) rfl) rfl
theorem w_645 : (.methodLink "KateDesk$Forms" 105 ⟨"KateDesk$Limbs", "orByte", "([JII)V"⟩ : Cond) ∈ BW := bw_3 (List.mem_of_getElem? (i := 165) rfl) rfl
theorem w_646 : (.methodLink "KateDesk$Forms" 109 ⟨"KateDesk$Field", "lift", "([J[J)V"⟩ : Cond) ∈ BW := bw_3 (List.mem_of_getElem? (i := 166) rfl) rfl
theorem w_647 : (.methodLink "KateDesk$Forms" 112 ⟨"KateDesk$Limbs", "less", "([J[J)Z"⟩ : Cond) ∈ BW := bw_3 (List.mem_of_getElem? (i := 167) rfl) rfl
theorem w_648 : (.methodLink "KateDesk$Forms" 74 ⟨"KateDesk$Curve", "squareOfY", "([J[J)V"⟩ : Cond) ∈ BW := bw_3 (List.mem_of_getElem? (i := 168) rfl) rfl
theorem w_649 : (.instanceMethod ⟨"KateDesk$Curve", "squareOfY", "([J[J)V"⟩ : Cond) ∈ BW := bw_3 (List.mem_of_getElem? (i := 169) rfl) rfl
theorem w_650 : (.selects "KateDesk$Curve" ⟨"KateDesk$Curve", "squareOfY", "([J[J)V"⟩ ⟨"KateDesk$Curve", "squareOfY", "([J[J)V"⟩ : Cond) ∈ BW := bw_3 (List.mem_of_getElem? (i := 170) rfl) rfl
theorem w_651 : (.code ⟨"KateDesk$Curve", "squareOfY", "([J[J)V"⟩ prog_2_method_8_code 3 none : Cond) ∈ BW := bw_3 (List.mem_of_getElem? (i := 171) rfl) rfl
theorem w_652 : (.methodLink "KateDesk$Curve" 57 ⟨"KateDesk$Field", "multiply", "([J[J[J)V"⟩ : Cond) ∈ BW := bw_3 (List.mem_of_getElem? (i := 172) rfl) rfl
theorem w_653 : (.methodLink "KateDesk$Curve" 68 ⟨"KateDesk$Field", "add", "([J[J[J)V"⟩ : Cond) ∈ BW := bw_3 (List.mem_of_getElem? (i := 173) rfl) rfl
theorem w_654 : (.methodLink "KateDesk$Forms" 80 ⟨"KateDesk$Forms", "findY", "([JZ)V"⟩ : Cond) ∈ BW := bw_3 (List.mem_of_getElem? (i := 174) rfl) rfl
theorem w_656 : (.instanceMethod ⟨"KateDesk$Forms", "findY", "([JZ)V"⟩ : Cond) ∈ BW := bw_3 (List.mem_of_getElem? (i := 176) rfl) rfl
theorem w_657 : (.code ⟨"KateDesk$Forms", "findY", "([JZ)V"⟩ prog_4_method_6_code 3 none : Cond) ∈ BW := bw_3 (List.mem_of_getElem? (i := 177) rfl) rfl
theorem w_658 : (.methodLink "KateDesk$Forms" 115 ⟨"KateDesk$Field", "raise", "([J[J[J)V"⟩ : Cond) ∈ BW := bw_3 (List.mem_of_getElem? (i := 178) rfl) rfl
theorem w_659 : (.methodLink "KateDesk$Forms" 118 ⟨"KateDesk$Field", "lower", "([J[J)V"⟩ : Cond) ∈ BW := bw_3 (List.mem_of_getElem? (i := 179) rfl) rfl
theorem w_660 : (.methodLink "KateDesk$Forms" 121 ⟨"KateDesk$Forms", "isGreater", "([J)Z"⟩ : Cond) ∈ BW := bw_3 (List.mem_of_getElem? (i := 180) rfl) rfl
theorem w_662 : (.instanceMethod ⟨"KateDesk$Forms", "isGreater", "([J)Z"⟩ : Cond) ∈ BW := bw_3 (List.mem_of_getElem? (i := 182) rfl) rfl
theorem w_663 : (.code ⟨"KateDesk$Forms", "isGreater", "([J)Z"⟩ prog_4_method_7_code 2 (Option.some FieldType.boolean) : Cond) ∈ BW := bw_3 (List.mem_of_getElem? (i := 183) rfl) rfl
theorem w_664 : (.methodLink "KateDesk$Forms" 125 ⟨"KateDesk$Field", "negate", "([J[J)V"⟩ : Cond) ∈ BW := bw_3 (List.mem_of_getElem? (i := 184) rfl) rfl
theorem w_665 : (.methodLink "KateDesk$Forms" 90 ⟨"KateDesk$Limbs", "copy", "([J[J)V"⟩ : Cond) ∈ BW := bw_3 (List.mem_of_getElem? (i := 185) rfl) rfl
theorem w_666 : (.methodLink "KateDesk$Forms" 93 ⟨"KateDesk$Field", "multiply", "([J[J[J)V"⟩ : Cond) ∈ BW := bw_3 (List.mem_of_getElem? (i := 186) rfl) rfl
theorem w_667 : (.methodLink "KateDesk$Forms" 97 ⟨"KateDesk$Limbs", "equal", "([J[J)Z"⟩ : Cond) ∈ BW := bw_3 (List.mem_of_getElem? (i := 187) rfl) rfl
theorem w_668 : (.static ⟨"KateDesk$Limbs", "equal", "([J[J)Z"⟩ : Cond) ∈ BW := bw_3 (List.mem_of_getElem? (i := 188) rfl) rfl
theorem w_669 : (.code ⟨"KateDesk$Limbs", "equal", "([J[J)Z"⟩ prog_5_method_7_code 3 (Option.some FieldType.boolean) : Cond) ∈ BW := bw_3 (List.mem_of_getElem? (i := 189) rfl) rfl
theorem w_670 : (.methodLink "KateDesk" 217 ⟨"KateDesk", "isGood", "(LKateDesk$Point;)Z"⟩ : Cond) ∈ BW := bw_3 (List.mem_of_getElem? (i := 190) rfl) rfl
theorem w_672 : (.instanceMethod ⟨"KateDesk", "isGood", "(LKateDesk$Point;)Z"⟩ : Cond) ∈ BW := bw_3 (List.mem_of_getElem? (i := 192) rfl) rfl
theorem w_673 : (.code ⟨"KateDesk", "isGood", "(LKateDesk$Point;)Z"⟩ prog_1_method_29_code 2 (Option.some FieldType.boolean) : Cond) ∈ BW := bw_3 (List.mem_of_getElem? (i := 193) rfl) rfl
theorem w_674 : (.methodLink "KateDesk" 239 ⟨"KateDesk$Sums", "place", "(I[JLKateDesk$Point;)V"⟩ : Cond) ∈ BW := bw_3 (List.mem_of_getElem? (i := 194) rfl) rfl
theorem w_675 : (.instanceMethod ⟨"KateDesk$Sums", "place", "(I[JLKateDesk$Point;)V"⟩ : Cond) ∈ BW := bw_3 (List.mem_of_getElem? (i := 195) rfl) rfl
theorem w_676 : (.selects "KateDesk$Sums" ⟨"KateDesk$Sums", "place", "(I[JLKateDesk$Point;)V"⟩ ⟨"KateDesk$Sums", "place", "(I[JLKateDesk$Point;)V"⟩ : Cond) ∈ BW := bw_3 (List.mem_of_getElem? (i := 196) rfl) rfl
theorem w_677 : (.code ⟨"KateDesk$Sums", "place", "(I[JLKateDesk$Point;)V"⟩ prog_9_method_2_code 4 none : Cond) ∈ BW := bw_3 (List.mem_of_getElem? (i := 197) rfl) rfl
theorem w_678 : (.methodLink "KateDesk$Sums" 35 ⟨"KateDesk$Sums", "recode", "(I[JII)V"⟩ : Cond) ∈ BW := bw_3 (List.mem_of_getElem? (i := 198) rfl) rfl
theorem w_679 : (.instanceMethod ⟨"KateDesk$Sums", "recode", "(I[JII)V"⟩ : Cond) ∈ BW := bw_3 (List.mem_of_getElem? (i := 199) rfl) rfl
theorem w_680 : (.selects "KateDesk$Sums" ⟨"KateDesk$Sums", "recode", "(I[JII)V"⟩ ⟨"KateDesk$Sums", "recode", "(I[JII)V"⟩ : Cond) ∈ BW := bw_3 (List.mem_of_getElem? (i := 200) rfl) rfl
theorem w_681 : (.code ⟨"KateDesk$Sums", "recode", "(I[JII)V"⟩ prog_9_method_4_code 10 none : Cond) ∈ BW := bw_3 (List.mem_of_getElem? (i := 201) rfl) rfl
theorem w_682 : (.methodLink "KateDesk$Sums" 63 ⟨"java/util/Arrays", "fill", "([BB)V"⟩ : Cond) ∈ BW := bw_3 (List.mem_of_getElem? (i := 202) rfl) rfl
theorem w_683 : (.static ⟨"java/util/Arrays", "fill", "([BB)V"⟩ : Cond) ∈ BW := bw_3 (List.mem_of_getElem? (i := 203) rfl) rfl
theorem w_684 : (.code ⟨"java/util/Arrays", "fill", "([BB)V"⟩ prog_23_method_109_code 4 none : Cond) ∈ BW := bw_3 (List.mem_of_getElem? (i := 204) rfl) rfl
theorem w_685 : (.methodLink "KateDesk$Sums" 69 ⟨"java/lang/Math", "min", "(II)I"⟩ : Cond) ∈ BW := bw_3 (List.mem_of_getElem? (i := 205) rfl) rfl
theorem w_686 : (.static ⟨"java/lang/Math", "min", "(II)I"⟩ : Cond) ∈ BW := bw_3 (List.mem_of_getElem? (i := 206) rfl) rfl
theorem w_687 : (.code ⟨"java/lang/Math", "min", "(II)I"⟩ prog_16_method_69_code 2 (Option.some FieldType.int) : Cond) ∈ BW := bw_3 (List.mem_of_getElem? (i := 207) rfl) rfl
theorem w_688 : (.methodLink "KateDesk$Sums" 75 ⟨"KateDesk$Limbs", "bits", "([JII)J"⟩ : Cond) ∈ BW := bw_3 (List.mem_of_getElem? (i := 208) rfl) rfl
theorem w_689 : (.methodLink "KateDesk$Sums" 39 ⟨"KateDesk$Limbs", "isZero", "([J)Z"⟩ : Cond) ∈ BW := bw_3 (List.mem_of_getElem? (i := 209) rfl) rfl
theorem w_690 : (.methodLink "KateDesk$Sums" 45 ⟨"KateDesk$Sums", "tabulate", "(ILKateDesk$Point;)V"⟩ : Cond) ∈ BW := bw_3 (List.mem_of_getElem? (i := 210) rfl) rfl
theorem w_691 : (.instanceMethod ⟨"KateDesk$Sums", "tabulate", "(ILKateDesk$Point;)V"⟩ : Cond) ∈ BW := bw_3 (List.mem_of_getElem? (i := 211) rfl) rfl
theorem w_692 : (.selects "KateDesk$Sums" ⟨"KateDesk$Sums", "tabulate", "(ILKateDesk$Point;)V"⟩ ⟨"KateDesk$Sums", "tabulate", "(ILKateDesk$Point;)V"⟩ : Cond) ∈ BW := bw_3 (List.mem_of_getElem? (i := 212) rfl) rfl
theorem w_693 : (.code ⟨"KateDesk$Sums", "tabulate", "(ILKateDesk$Point;)V"⟩ prog_9_method_3_code 5 none : Cond) ∈ BW := bw_3 (List.mem_of_getElem? (i := 213) rfl) rfl
theorem w_694 : (.methodLink "KateDesk$Sums" 49 ⟨"KateDesk$Point", "copy", "(LKateDesk$Point;)V"⟩ : Cond) ∈ BW := bw_3 (List.mem_of_getElem? (i := 214) rfl) rfl
theorem w_695 : (.instanceMethod ⟨"KateDesk$Point", "copy", "(LKateDesk$Point;)V"⟩ : Cond) ∈ BW := bw_3 (List.mem_of_getElem? (i := 215) rfl) rfl
theorem w_696 : (.selects "KateDesk$Point" ⟨"KateDesk$Point", "copy", "(LKateDesk$Point;)V"⟩ ⟨"KateDesk$Point", "copy", "(LKateDesk$Point;)V"⟩ : Cond) ∈ BW := bw_3 (List.mem_of_getElem? (i := 216) rfl) rfl
theorem w_697 : (.code ⟨"KateDesk$Point", "copy", "(LKateDesk$Point;)V"⟩ prog_6_method_3_code 2 none : Cond) ∈ BW := bw_3 (List.mem_of_getElem? (i := 217) rfl) rfl
theorem w_698 : (.methodLink "KateDesk$Point" 25 ⟨"KateDesk$Limbs", "copy", "([J[J)V"⟩ : Cond) ∈ BW := bw_3 (List.mem_of_getElem? (i := 218) rfl) rfl
theorem w_699 : (.methodLink "KateDesk$Sums" 53 ⟨"KateDesk$Curve", "twice", "(LKateDesk$Point;LKateDesk$Point;)V"⟩ : Cond) ∈ BW := bw_3 (List.mem_of_getElem? (i := 219) rfl) rfl
theorem w_700 : (.instanceMethod ⟨"KateDesk$Curve", "twice", "(LKateDesk$Point;LKateDesk$Point;)V"⟩ : Cond) ∈ BW := bw_3 (List.mem_of_getElem? (i := 220) rfl) rfl
theorem w_701 : (.selects "KateDesk$Curve" ⟨"KateDesk$Curve", "twice", "(LKateDesk$Point;LKateDesk$Point;)V"⟩ ⟨"KateDesk$Curve", "twice", "(LKateDesk$Point;LKateDesk$Point;)V"⟩ : Cond) ∈ BW := bw_3 (List.mem_of_getElem? (i := 221) rfl) rfl
theorem w_702 : (.code ⟨"KateDesk$Curve", "twice", "(LKateDesk$Point;LKateDesk$Point;)V"⟩ prog_2_method_5_code 3 none : Cond) ∈ BW := bw_3 (List.mem_of_getElem? (i := 222) rfl) rfl
theorem w_703 : (.methodLink "KateDesk$Curve" 71 ⟨"KateDesk$Curve", "twelvefold", "([J[J)V"⟩ : Cond) ∈ BW := bw_3 (List.mem_of_getElem? (i := 223) rfl) rfl
theorem w_705 : (.instanceMethod ⟨"KateDesk$Curve", "twelvefold", "([J[J)V"⟩ : Cond) ∈ BW := bw_3 (List.mem_of_getElem? (i := 225) rfl) rfl
theorem w_706 : (.code ⟨"KateDesk$Curve", "twelvefold", "([J[J)V"⟩ prog_2_method_4_code 3 none : Cond) ∈ BW := bw_3 (List.mem_of_getElem? (i := 226) rfl) rfl
theorem w_707 : (.methodLink "KateDesk$Curve" 74 ⟨"KateDesk$Field", "subtract", "([J[J[J)V"⟩ : Cond) ∈ BW := bw_3 (List.mem_of_getElem? (i := 227) rfl) rfl
theorem w_708 : (.methodLink "KateDesk$Sums" 59 ⟨"KateDesk$Curve", "add", "(LKateDesk$Point;LKateDesk$Point;LKateDesk$Point;Z)V"⟩ : Cond) ∈ BW := bw_3 (List.mem_of_getElem? (i := 228) rfl) rfl
theorem w_709 : (.instanceMethod ⟨"KateDesk$Curve", "add", "(LKateDesk$Point;LKateDesk$Point;LKateDesk$Point;Z)V"⟩ : Cond) ∈ BW := bw_3 (List.mem_of_getElem? (i := 229) rfl) rfl
theorem w_710 : (.selects "KateDesk$Curve" ⟨"KateDesk$Curve", "add", "(LKateDesk$Point;LKateDesk$Point;LKateDesk$Point;Z)V"⟩ ⟨"KateDesk$Curve", "add", "(LKateDesk$Point;LKateDesk$Point;LKateDesk$Point;Z)V"⟩ : Cond) ∈ BW := bw_3 (List.mem_of_getElem? (i := 230) rfl) rfl
theorem w_711 : (.code ⟨"KateDesk$Curve", "add", "(LKateDesk$Point;LKateDesk$Point;LKateDesk$Point;Z)V"⟩ prog_2_method_2_code 6 none : Cond) ∈ BW := bw_3 (List.mem_of_getElem? (i := 231) rfl) rfl
theorem w_712 : (.methodLink "KateDesk$Curve" 48 ⟨"KateDesk$Field", "negate", "([J[J)V"⟩ : Cond) ∈ BW := bw_3 (List.mem_of_getElem? (i := 232) rfl) rfl
theorem w_713 : (.methodLink "KateDesk$Curve" 64 ⟨"KateDesk$Curve", "mixed", "([J[J[J[J[J[J[J)V"⟩ : Cond) ∈ BW := bw_3 (List.mem_of_getElem? (i := 233) rfl) rfl
theorem w_715 : (.instanceMethod ⟨"KateDesk$Curve", "mixed", "([J[J[J[J[J[J[J)V"⟩ : Cond) ∈ BW := bw_3 (List.mem_of_getElem? (i := 235) rfl) rfl
theorem w_716 : (.code ⟨"KateDesk$Curve", "mixed", "([J[J[J[J[J[J[J)V"⟩ prog_2_method_3_code 8 none : Cond) ∈ BW := bw_3 (List.mem_of_getElem? (i := 236) rfl) rfl
theorem w_717 : (.methodLink "KateDesk" 243 ⟨"KateDesk$Sums", "total", "(LKateDesk$Point;I)V"⟩ : Cond) ∈ BW := bw_3 (List.mem_of_getElem? (i := 237) rfl) rfl
theorem w_718 : (.instanceMethod ⟨"KateDesk$Sums", "total", "(LKateDesk$Point;I)V"⟩ : Cond) ∈ BW := bw_3 (List.mem_of_getElem? (i := 238) rfl) rfl
theorem w_719 : (.selects "KateDesk$Sums" ⟨"KateDesk$Sums", "total", "(LKateDesk$Point;I)V"⟩ ⟨"KateDesk$Sums", "total", "(LKateDesk$Point;I)V"⟩ : Cond) ∈ BW := bw_3 (List.mem_of_getElem? (i := 239) rfl) rfl
theorem w_720 : (.code ⟨"KateDesk$Sums", "total", "(LKateDesk$Point;I)V"⟩ prog_9_method_5_code 7 none : Cond) ∈ BW := bw_4 (List.mem_of_getElem? (i := 0) rfl) rfl
theorem w_721 : (.methodLink "KateDesk$Sums" 79 ⟨"KateDesk$Point", "becomeNothing", "()V"⟩ : Cond) ∈ BW := bw_4 (List.mem_of_getElem? (i := 1) rfl) rfl
theorem w_722 : (.methodLink "KateDesk$Sums" 82 ⟨"java/lang/Math", "abs", "(I)I"⟩ : Cond) ∈ BW := bw_4 (List.mem_of_getElem? (i := 2) rfl) rfl
theorem w_723 : (.static ⟨"java/lang/Math", "abs", "(I)I"⟩ : Cond) ∈ BW := bw_4 (List.mem_of_getElem? (i := 3) rfl) rfl
theorem w_724 : (.code ⟨"java/lang/Math", "abs", "(I)I"⟩ prog_16_method_59_code 1 (Option.some FieldType.int) : Cond) ∈ BW := bw_4 (List.mem_of_getElem? (i := 4) rfl) rfl
theorem w_725 : (.methodLink "KateDesk" 309 ⟨"KateDesk$Point", "isNothing", "()Z"⟩ : Cond) ∈ BW := bw_4 (List.mem_of_getElem? (i := 5) rfl) rfl
theorem w_726 : (.instanceMethod ⟨"KateDesk$Point", "isNothing", "()Z"⟩ : Cond) ∈ BW := bw_4 (List.mem_of_getElem? (i := 6) rfl) rfl
theorem w_727 : (.selects "KateDesk$Point" ⟨"KateDesk$Point", "isNothing", "()Z"⟩ ⟨"KateDesk$Point", "isNothing", "()Z"⟩ : Cond) ∈ BW := bw_4 (List.mem_of_getElem? (i := 7) rfl) rfl
theorem w_728 : (.code ⟨"KateDesk$Point", "isNothing", "()Z"⟩ prog_6_method_4_code 1 (Option.some FieldType.boolean) : Cond) ∈ BW := bw_4 (List.mem_of_getElem? (i := 8) rfl) rfl
theorem w_729 : (.methodLink "KateDesk$Point" 29 ⟨"KateDesk$Limbs", "isZero", "([J)Z"⟩ : Cond) ∈ BW := bw_4 (List.mem_of_getElem? (i := 9) rfl) rfl
theorem w_730 : (.methodLink "KateDesk" 221 ⟨"KateDesk$Point", "copy", "(LKateDesk$Point;)V"⟩ : Cond) ∈ BW := bw_4 (List.mem_of_getElem? (i := 10) rfl) rfl
theorem w_731 : (.methodLink "KateDeskLaw" 137 ⟨"KateDeskLaw", "bytes", "(LKateDesk;IZ)I"⟩ : Cond) ∈ BW := bw_4 (List.mem_of_getElem? (i := 11) rfl) rfl
theorem w_732 : (.static ⟨"KateDeskLaw", "bytes", "(LKateDesk;IZ)I"⟩ : Cond) ∈ BW := bw_4 (List.mem_of_getElem? (i := 12) rfl) rfl
theorem w_733 : (.codeWith ⟨"KateDeskLaw", "bytes", "(LKateDesk;IZ)I"⟩ method_11_code 4 (Option.some FieldType.int) [(0, 6, 9, 13)] : Cond) ∈ BW := bw_4 (List.mem_of_getElem? (i := 13) rfl) rfl
theorem w_734 : (.methodLink "KateDeskLaw" 47 ⟨"KateDesk", "bytes", "(IZ)V"⟩ : Cond) ∈ BW := bw_4 (List.mem_of_getElem? (i := 14) rfl) rfl
theorem w_735 : (.instanceMethod ⟨"KateDesk", "bytes", "(IZ)V"⟩ : Cond) ∈ BW := bw_4 (List.mem_of_getElem? (i := 15) rfl) rfl
theorem w_736 : (.selects "KateDesk" ⟨"KateDesk", "bytes", "(IZ)V"⟩ ⟨"KateDesk", "bytes", "(IZ)V"⟩ : Cond) ∈ BW := bw_4 (List.mem_of_getElem? (i := 16) rfl) rfl
theorem w_737 : (.code ⟨"KateDesk", "bytes", "(IZ)V"⟩ prog_1_method_10_code 3 none : Cond) ∈ BW := bw_4 (List.mem_of_getElem? (i := 17) rfl) rfl
theorem w_738 : (.methodLink "KateDesk" 224 ⟨"KateDesk$Forms", "write", "(LKateDesk$Row;LKateDesk$Point;Z)V"⟩ : Cond) ∈ BW := bw_4 (List.mem_of_getElem? (i := 18) rfl) rfl
theorem w_739 : (.instanceMethod ⟨"KateDesk$Forms", "write", "(LKateDesk$Row;LKateDesk$Point;Z)V"⟩ : Cond) ∈ BW := bw_4 (List.mem_of_getElem? (i := 19) rfl) rfl
theorem w_740 : (.selects "KateDesk$Forms" ⟨"KateDesk$Forms", "write", "(LKateDesk$Row;LKateDesk$Point;Z)V"⟩ ⟨"KateDesk$Forms", "write", "(LKateDesk$Row;LKateDesk$Point;Z)V"⟩ : Cond) ∈ BW := bw_4 (List.mem_of_getElem? (i := 20) rfl) rfl
theorem w_741 : (.code ⟨"KateDesk$Forms", "write", "(LKateDesk$Row;LKateDesk$Point;Z)V"⟩ prog_4_method_8_code 6 none : Cond) ∈ BW := bw_4 (List.mem_of_getElem? (i := 21) rfl) rfl
theorem w_742 : (.methodLink "KateDesk$Forms" 128 ⟨"KateDesk$Point", "isNothing", "()Z"⟩ : Cond) ∈ BW := bw_4 (List.mem_of_getElem? (i := 22) rfl) rfl
theorem w_743 : (.methodLink "KateDesk$Forms" 132 ⟨"KateDesk$Row", "append", "(I)V"⟩ : Cond) ∈ BW := bw_4 (List.mem_of_getElem? (i := 23) rfl) rfl
theorem w_744 : (.methodLink "KateDesk$Forms" 136 ⟨"KateDesk$Field", "invert", "([J[J)V"⟩ : Cond) ∈ BW := bw_4 (List.mem_of_getElem? (i := 24) rfl) rfl
theorem w_745 : (.methodLink "KateDesk$Forms" 139 ⟨"KateDesk$Forms", "writeCoordinate", "(LKateDesk$Row;[JI)V"⟩ : Cond) ∈ BW := bw_4 (List.mem_of_getElem? (i := 25) rfl) rfl
theorem w_746 : (.static ⟨"KateDesk$Forms", "writeCoordinate", "(LKateDesk$Row;[JI)V"⟩ : Cond) ∈ BW := bw_4 (List.mem_of_getElem? (i := 26) rfl) rfl
theorem w_747 : (.code ⟨"KateDesk$Forms", "writeCoordinate", "(LKateDesk$Row;[JI)V"⟩ prog_4_method_9_code 4 none : Cond) ∈ BW := bw_4 (List.mem_of_getElem? (i := 27) rfl) rfl
theorem w_748 : (.methodLink "KateDesk$Forms" 143 ⟨"KateDesk$Limbs", "bits", "([JII)J"⟩ : Cond) ∈ BW := bw_4 (List.mem_of_getElem? (i := 28) rfl) rfl
theorem w_749 : (.methodLink "KateDeskLaw" 141 ⟨"KateDeskLaw", "out", "(LKateDesk;I[J)I"⟩ : Cond) ∈ BW := bw_4 (List.mem_of_getElem? (i := 29) rfl) rfl
theorem w_750 : (.static ⟨"KateDeskLaw", "out", "(LKateDesk;I[J)I"⟩ : Cond) ∈ BW := bw_4 (List.mem_of_getElem? (i := 30) rfl) rfl
theorem w_751 : (.codeWith ⟨"KateDeskLaw", "out", "(LKateDesk;I[J)I"⟩ method_12_code 4 (Option.some FieldType.int) [(0, 8, 11, 55)] : Cond) ∈ BW := bw_4 (List.mem_of_getElem? (i := 31) rfl) rfl
theorem w_752 : (.classLink "KateDeskLaw" 55 "java/util/NoSuchElementException" : Cond) ∈ BW := bw_4 (List.mem_of_getElem? (i := 32) rfl) rfl
theorem w_753 : (.methodLink "KateDeskLaw" 51 ⟨"KateDesk", "out", "(I)J"⟩ : Cond) ∈ BW := bw_4 (List.mem_of_getElem? (i := 33) rfl) rfl
theorem w_754 : (.instanceMethod ⟨"KateDesk", "out", "(I)J"⟩ : Cond) ∈ BW := bw_4 (List.mem_of_getElem? (i := 34) rfl) rfl
theorem w_755 : (.selects "KateDesk" ⟨"KateDesk", "out", "(I)J"⟩ ⟨"KateDesk", "out", "(I)J"⟩ : Cond) ∈ BW := bw_4 (List.mem_of_getElem? (i := 35) rfl) rfl
theorem w_756 : (.code ⟨"KateDesk", "out", "(I)J"⟩ prog_1_method_11_code 5 (Option.some FieldType.long) : Cond) ∈ BW := bw_4 (List.mem_of_getElem? (i := 36) rfl) rfl
theorem w_757 : (.classLink "KateDesk" 228 "java/util/NoSuchElementException" : Cond) ∈ BW := bw_4 (List.mem_of_getElem? (i := 37) rfl) rfl
theorem w_758 : (.instantiable "java/util/NoSuchElementException" 6 : Cond) ∈ BW := bw_4 (List.mem_of_getElem? (i := 38) rfl) rfl
theorem w_760 : (.selects "java/util/NoSuchElementException" ⟨"java/lang/Throwable", "fillInStackTrace", "(I)Ljava/lang/Throwable;"⟩ ⟨"java/lang/Throwable", "fillInStackTrace", "(I)Ljava/lang/Throwable;"⟩ : Cond) ∈ BW := bw_4 (List.mem_of_getElem? (i := 40) rfl) rfl
theorem w_761 : (.lays "java/util/NoSuchElementException" "java/lang/Throwable" "cause" "Ljava/lang/Throwable;" : Cond) ∈ BW := bw_4 (List.mem_of_getElem? (i := 41) rfl) rfl
theorem w_762 : (.lays "java/util/NoSuchElementException" "java/lang/Throwable" "stackTrace" "[Ljava/lang/StackTraceElement;" : Cond) ∈ BW := bw_4 (List.mem_of_getElem? (i := 42) rfl) rfl
theorem w_763 : (.lays "java/util/NoSuchElementException" "java/lang/Throwable" "suppressedExceptions" "Ljava/util/List;" : Cond) ∈ BW := bw_4 (List.mem_of_getElem? (i := 43) rfl) rfl
theorem w_764 : (.lays "java/util/NoSuchElementException" "java/lang/Throwable" "detailMessage" "Ljava/lang/String;" : Cond) ∈ BW := bw_4 (List.mem_of_getElem? (i := 44) rfl) rfl
theorem w_765 : (.lays "java/util/NoSuchElementException" "java/lang/Throwable" "backtrace" "Ljava/lang/Object;" : Cond) ∈ BW := bw_4 (List.mem_of_getElem? (i := 45) rfl) rfl
theorem w_767 : (.methodLink "KateDesk" 232 ⟨"java/util/NoSuchElementException", "<init>", "(Ljava/lang/String;)V"⟩ : Cond) ∈ BW := bw_4 (List.mem_of_getElem? (i := 47) rfl) rfl
theorem w_768 : (.instanceMethod ⟨"java/util/NoSuchElementException", "<init>", "(Ljava/lang/String;)V"⟩ : Cond) ∈ BW := bw_4 (List.mem_of_getElem? (i := 48) rfl) rfl
theorem w_769 : (.code ⟨"java/util/NoSuchElementException", "<init>", "(Ljava/lang/String;)V"⟩ prog_24_method_4_code 2 none : Cond) ∈ BW := bw_4 (List.mem_of_getElem? (i := 49) rfl) rfl
theorem w_770 : (.methodLink "java/util/NoSuchElementException" 13 ⟨"java/lang/RuntimeException", "<init>", "(Ljava/lang/String;)V"⟩ : Cond) ∈ BW := bw_4 (List.mem_of_getElem? (i := 50) rfl) rfl
theorem w_771 : (.lays "java/util/NoSuchElementException" "java/lang/Throwable" "depth" "I" : Cond) ∈ BW := bw_4 (List.mem_of_getElem? (i := 51) rfl) rfl
theorem w_772 : (.superclass "java/util/NoSuchElementException" "java/lang/RuntimeException" : Cond) ∈ BW := bw_4 (List.mem_of_getElem? (i := 52) rfl) rfl
theorem w_773 : (.methodLink "KateDeskLaw" 144 ⟨"KateDeskLaw", "join", "(LKateDesk;IIII)I"⟩ : Cond) ∈ BW := bw_4 (List.mem_of_getElem? (i := 53) rfl) rfl
theorem w_774 : (.static ⟨"KateDeskLaw", "join", "(LKateDesk;IIII)I"⟩ : Cond) ∈ BW := bw_4 (List.mem_of_getElem? (i := 54) rfl) rfl
theorem w_775 : (.codeWith ⟨"KateDeskLaw", "join", "(LKateDesk;IIII)I"⟩ method_13_code 6 (Option.some FieldType.int) [(0, 9, 12, 13)] : Cond) ∈ BW := bw_4 (List.mem_of_getElem? (i := 55) rfl) rfl
theorem w_776 : (.methodLink "KateDeskLaw" 57 ⟨"KateDesk", "join", "(IIII)V"⟩ : Cond) ∈ BW := bw_4 (List.mem_of_getElem? (i := 56) rfl) rfl
theorem w_777 : (.instanceMethod ⟨"KateDesk", "join", "(IIII)V"⟩ : Cond) ∈ BW := bw_4 (List.mem_of_getElem? (i := 57) rfl) rfl
theorem w_778 : (.selects "KateDesk" ⟨"KateDesk", "join", "(IIII)V"⟩ ⟨"KateDesk", "join", "(IIII)V"⟩ : Cond) ∈ BW := bw_4 (List.mem_of_getElem? (i := 58) rfl) rfl
theorem w_779 : (.code ⟨"KateDesk", "join", "(IIII)V"⟩ prog_1_method_12_code 5 none : Cond) ∈ BW := bw_4 (List.mem_of_getElem? (i := 59) rfl) rfl
theorem w_780 : (.methodLink "KateDesk" 233 ⟨"KateDesk$Point", "becomeNothing", "()V"⟩ : Cond) ∈ BW := bw_4 (List.mem_of_getElem? (i := 60) rfl) rfl
theorem w_781 : (.methodLink "KateDesk" 236 ⟨"KateDesk$Curve", "add", "(LKateDesk$Point;LKateDesk$Point;LKateDesk$Point;Z)V"⟩ : Cond) ∈ BW := bw_4 (List.mem_of_getElem? (i := 61) rfl) rfl
theorem w_782 : (.methodLink "KateDeskLaw" 147 ⟨"KateDeskLaw", "times", "(LKateDesk;III)I"⟩ : Cond) ∈ BW := bw_4 (List.mem_of_getElem? (i := 62) rfl) rfl
theorem w_783 : (.static ⟨"KateDeskLaw", "times", "(LKateDesk;III)I"⟩ : Cond) ∈ BW := bw_4 (List.mem_of_getElem? (i := 63) rfl) rfl
theorem w_784 : (.codeWith ⟨"KateDeskLaw", "times", "(LKateDesk;III)I"⟩ method_14_code 5 (Option.some FieldType.int) [(0, 7, 10, 13)] : Cond) ∈ BW := bw_4 (List.mem_of_getElem? (i := 64) rfl) rfl
theorem w_785 : (.methodLink "KateDeskLaw" 60 ⟨"KateDesk", "times", "(III)V"⟩ : Cond) ∈ BW := bw_4 (List.mem_of_getElem? (i := 65) rfl) rfl
theorem w_786 : (.instanceMethod ⟨"KateDesk", "times", "(III)V"⟩ : Cond) ∈ BW := bw_4 (List.mem_of_getElem? (i := 66) rfl) rfl
theorem w_787 : (.selects "KateDesk" ⟨"KateDesk", "times", "(III)V"⟩ ⟨"KateDesk", "times", "(III)V"⟩ : Cond) ∈ BW := bw_4 (List.mem_of_getElem? (i := 67) rfl) rfl
theorem w_788 : (.code ⟨"KateDesk", "times", "(III)V"⟩ prog_1_method_13_code 4 none : Cond) ∈ BW := bw_4 (List.mem_of_getElem? (i := 68) rfl) rfl
theorem w_789 : (.methodLink "KateDeskLaw" 151 ⟨"KateDeskLaw", "combine", "(LKateDesk;IIII)I"⟩ : Cond) ∈ BW := bw_4 (List.mem_of_getElem? (i := 69) rfl) rfl
theorem w_790 : (.static ⟨"KateDeskLaw", "combine", "(LKateDesk;IIII)I"⟩ : Cond) ∈ BW := bw_4 (List.mem_of_getElem? (i := 70) rfl) rfl
theorem w_791 : (.codeWith ⟨"KateDeskLaw", "combine", "(LKateDesk;IIII)I"⟩ method_15_code 6 (Option.some FieldType.int) [(0, 9, 12, 13)] : Cond) ∈ BW := bw_4 (List.mem_of_getElem? (i := 71) rfl) rfl
theorem w_792 : (.methodLink "KateDeskLaw" 64 ⟨"KateDesk", "combine", "(IIII)V"⟩ : Cond) ∈ BW := bw_4 (List.mem_of_getElem? (i := 72) rfl) rfl
theorem w_793 : (.instanceMethod ⟨"KateDesk", "combine", "(IIII)V"⟩ : Cond) ∈ BW := bw_4 (List.mem_of_getElem? (i := 73) rfl) rfl
theorem w_794 : (.selects "KateDesk" ⟨"KateDesk", "combine", "(IIII)V"⟩ ⟨"KateDesk", "combine", "(IIII)V"⟩ : Cond) ∈ BW := bw_4 (List.mem_of_getElem? (i := 74) rfl) rfl
theorem w_795 : (.code ⟨"KateDesk", "combine", "(IIII)V"⟩ prog_1_method_14_code 6 none : Cond) ∈ BW := bw_4 (List.mem_of_getElem? (i := 75) rfl) rfl
theorem w_796 : (.methodLink "KateDesk" 247 ⟨"KateDesk", "needCount", "(III)V"⟩ : Cond) ∈ BW := bw_4 (List.mem_of_getElem? (i := 76) rfl) rfl
theorem w_797 : (.static ⟨"KateDesk", "needCount", "(III)V"⟩ : Cond) ∈ BW := bw_4 (List.mem_of_getElem? (i := 77) rfl) rfl
theorem w_798 : (.code ⟨"KateDesk", "needCount", "(III)V"⟩ prog_1_method_24_code 3 none : Cond) ∈ BW := bw_4 (List.mem_of_getElem? (i := 78) rfl) rfl
theorem w_800 : (.methodLink "KateDeskLaw" 154 ⟨"KateDeskLaw", "same", "(LKateDesk;II[J)I"⟩ : Cond) ∈ BW := bw_4 (List.mem_of_getElem? (i := 80) rfl) rfl
theorem w_801 : (.static ⟨"KateDeskLaw", "same", "(LKateDesk;II[J)I"⟩ : Cond) ∈ BW := bw_4 (List.mem_of_getElem? (i := 81) rfl) rfl
theorem w_802 : (.codeWith ⟨"KateDeskLaw", "same", "(LKateDesk;II[J)I"⟩ method_16_code 5 (Option.some FieldType.int) [(0, 17, 20, 13)] : Cond) ∈ BW := bw_4 (List.mem_of_getElem? (i := 82) rfl) rfl
theorem w_803 : (.methodLink "KateDeskLaw" 67 ⟨"KateDesk", "same", "(II)Z"⟩ : Cond) ∈ BW := bw_4 (List.mem_of_getElem? (i := 83) rfl) rfl
theorem w_804 : (.instanceMethod ⟨"KateDesk", "same", "(II)Z"⟩ : Cond) ∈ BW := bw_4 (List.mem_of_getElem? (i := 84) rfl) rfl
theorem w_805 : (.selects "KateDesk" ⟨"KateDesk", "same", "(II)Z"⟩ ⟨"KateDesk", "same", "(II)Z"⟩ : Cond) ∈ BW := bw_4 (List.mem_of_getElem? (i := 85) rfl) rfl
theorem w_806 : (.code ⟨"KateDesk", "same", "(II)Z"⟩ prog_1_method_15_code 3 (Option.some FieldType.boolean) : Cond) ∈ BW := bw_4 (List.mem_of_getElem? (i := 86) rfl) rfl
theorem w_807 : (.methodLink "KateDesk" 251 ⟨"KateDesk$Curve", "equal", "(LKateDesk$Point;LKateDesk$Point;)Z"⟩ : Cond) ∈ BW := bw_4 (List.mem_of_getElem? (i := 87) rfl) rfl
theorem w_808 : (.instanceMethod ⟨"KateDesk$Curve", "equal", "(LKateDesk$Point;LKateDesk$Point;)Z"⟩ : Cond) ∈ BW := bw_4 (List.mem_of_getElem? (i := 88) rfl) rfl
theorem w_809 : (.selects "KateDesk$Curve" ⟨"KateDesk$Curve", "equal", "(LKateDesk$Point;LKateDesk$Point;)Z"⟩ ⟨"KateDesk$Curve", "equal", "(LKateDesk$Point;LKateDesk$Point;)Z"⟩ : Cond) ∈ BW := bw_4 (List.mem_of_getElem? (i := 89) rfl) rfl
theorem w_810 : (.code ⟨"KateDesk$Curve", "equal", "(LKateDesk$Point;LKateDesk$Point;)Z"⟩ prog_2_method_6_code 3 (Option.some FieldType.boolean) : Cond) ∈ BW := bw_4 (List.mem_of_getElem? (i := 90) rfl) rfl
theorem w_811 : (.methodLink "KateDesk$Curve" 77 ⟨"KateDesk$Curve", "equalRatios", "([J[J[J[J)Z"⟩ : Cond) ∈ BW := bw_4 (List.mem_of_getElem? (i := 91) rfl) rfl
theorem w_813 : (.instanceMethod ⟨"KateDesk$Curve", "equalRatios", "([J[J[J[J)Z"⟩ : Cond) ∈ BW := bw_4 (List.mem_of_getElem? (i := 93) rfl) rfl
theorem w_814 : (.code ⟨"KateDesk$Curve", "equalRatios", "([J[J[J[J)Z"⟩ prog_2_method_7_code 5 (Option.some FieldType.boolean) : Cond) ∈ BW := bw_4 (List.mem_of_getElem? (i := 94) rfl) rfl
theorem w_815 : (.methodLink "KateDesk$Curve" 81 ⟨"KateDesk$Limbs", "equal", "([J[J)Z"⟩ : Cond) ∈ BW := bw_4 (List.mem_of_getElem? (i := 95) rfl) rfl
theorem w_816 : (.methodLink "KateDeskLaw" 157 ⟨"KateDeskLaw", "setup", "(LKateDesk;II)I"⟩ : Cond) ∈ BW := bw_4 (List.mem_of_getElem? (i := 96) rfl) rfl
theorem w_817 : (.static ⟨"KateDeskLaw", "setup", "(LKateDesk;II)I"⟩ : Cond) ∈ BW := bw_4 (List.mem_of_getElem? (i := 97) rfl) rfl
theorem w_818 : (.codeWith ⟨"KateDeskLaw", "setup", "(LKateDesk;II)I"⟩ method_17_code 4 (Option.some FieldType.int) [(0, 6, 9, 13)] : Cond) ∈ BW := bw_4 (List.mem_of_getElem? (i := 98) rfl) rfl
theorem w_819 : (.methodLink "KateDeskLaw" 71 ⟨"KateDesk", "setup", "(II)V"⟩ : Cond) ∈ BW := bw_4 (List.mem_of_getElem? (i := 99) rfl) rfl
theorem w_820 : (.instanceMethod ⟨"KateDesk", "setup", "(II)V"⟩ : Cond) ∈ BW := bw_4 (List.mem_of_getElem? (i := 100) rfl) rfl
theorem w_821 : (.selects "KateDesk" ⟨"KateDesk", "setup", "(II)V"⟩ ⟨"KateDesk", "setup", "(II)V"⟩ : Cond) ∈ BW := bw_4 (List.mem_of_getElem? (i := 101) rfl) rfl
theorem w_822 : (.code ⟨"KateDesk", "setup", "(II)V"⟩ prog_1_method_16_code 4 none : Cond) ∈ BW := bw_4 (List.mem_of_getElem? (i := 102) rfl) rfl
theorem w_823 : (.methodLink "KateDesk" 255 ⟨"KateDesk", "spreadGenerator", "()V"⟩ : Cond) ∈ BW := bw_4 (List.mem_of_getElem? (i := 103) rfl) rfl
theorem w_825 : (.instanceMethod ⟨"KateDesk", "spreadGenerator", "()V"⟩ : Cond) ∈ BW := bw_4 (List.mem_of_getElem? (i := 105) rfl) rfl
theorem w_826 : (.code ⟨"KateDesk", "spreadGenerator", "()V"⟩ prog_1_method_30_code 3 none : Cond) ∈ BW := bw_4 (List.mem_of_getElem? (i := 106) rfl) rfl
theorem w_827 : (.methodLink "KateDesk" 313 ⟨"KateDesk$Sums", "tabulate", "(ILKateDesk$Point;)V"⟩ : Cond) ∈ BW := bw_4 (List.mem_of_getElem? (i := 107) rfl) rfl
theorem w_828 : (.methodLink "KateDesk" 317 ⟨"KateDesk$Curve", "twice", "(LKateDesk$Point;LKateDesk$Point;)V"⟩ : Cond) ∈ BW := bw_4 (List.mem_of_getElem? (i := 108) rfl) rfl
theorem w_829 : (.methodLink "KateDesk" 258 ⟨"KateDesk", "timesGenerator", "(LKateDesk$Point;[J)V"⟩ : Cond) ∈ BW := bw_4 (List.mem_of_getElem? (i := 109) rfl) rfl
theorem w_831 : (.instanceMethod ⟨"KateDesk", "timesGenerator", "(LKateDesk$Point;[J)V"⟩ : Cond) ∈ BW := bw_4 (List.mem_of_getElem? (i := 111) rfl) rfl
theorem w_832 : (.code ⟨"KateDesk", "timesGenerator", "(LKateDesk$Point;[J)V"⟩ prog_1_method_31_code 4 none : Cond) ∈ BW := bw_4 (List.mem_of_getElem? (i := 112) rfl) rfl
theorem w_833 : (.methodLink "KateDesk" 321 ⟨"KateDesk$Sums", "recode", "(I[JII)V"⟩ : Cond) ∈ BW := bw_4 (List.mem_of_getElem? (i := 113) rfl) rfl
theorem w_834 : (.methodLink "KateDeskLaw" 160 ⟨"KateDeskLaw", "commit", "(LKateDesk;III)I"⟩ : Cond) ∈ BW := bw_4 (List.mem_of_getElem? (i := 114) rfl) rfl
theorem w_835 : (.static ⟨"KateDeskLaw", "commit", "(LKateDesk;III)I"⟩ : Cond) ∈ BW := bw_4 (List.mem_of_getElem? (i := 115) rfl) rfl
theorem w_836 : (.codeWith ⟨"KateDeskLaw", "commit", "(LKateDesk;III)I"⟩ method_18_code 5 (Option.some FieldType.int) [(0, 7, 10, 13), (0, 7, 14, 15)] : Cond) ∈ BW := bw_4 (List.mem_of_getElem? (i := 116) rfl) rfl
theorem w_837 : (.methodLink "KateDeskLaw" 74 ⟨"KateDesk", "commit", "(III)V"⟩ : Cond) ∈ BW := bw_4 (List.mem_of_getElem? (i := 117) rfl) rfl
theorem w_838 : (.instanceMethod ⟨"KateDesk", "commit", "(III)V"⟩ : Cond) ∈ BW := bw_4 (List.mem_of_getElem? (i := 118) rfl) rfl
theorem w_839 : (.selects "KateDesk" ⟨"KateDesk", "commit", "(III)V"⟩ ⟨"KateDesk", "commit", "(III)V"⟩ : Cond) ∈ BW := bw_4 (List.mem_of_getElem? (i := 119) rfl) rfl
theorem w_840 : (.code ⟨"KateDesk", "commit", "(III)V"⟩ prog_1_method_17_code 5 none : Cond) ∈ BW := bw_4 (List.mem_of_getElem? (i := 120) rfl) rfl
theorem w_842 : (.methodLink "KateDeskLaw" 163 ⟨"KateDeskLaw", "open", "(LKateDesk;IIII)I"⟩ : Cond) ∈ BW := bw_4 (List.mem_of_getElem? (i := 122) rfl) rfl
theorem w_843 : (.static ⟨"KateDeskLaw", "open", "(LKateDesk;IIII)I"⟩ : Cond) ∈ BW := bw_4 (List.mem_of_getElem? (i := 123) rfl) rfl
theorem w_844 : (.codeWith ⟨"KateDeskLaw", "open", "(LKateDesk;IIII)I"⟩ method_19_code 6 (Option.some FieldType.int) [(0, 9, 12, 13)] : Cond) ∈ BW := bw_4 (List.mem_of_getElem? (i := 124) rfl) rfl
theorem w_845 : (.methodLink "KateDeskLaw" 77 ⟨"KateDesk", "open", "(IIII)V"⟩ : Cond) ∈ BW := bw_4 (List.mem_of_getElem? (i := 125) rfl) rfl
theorem w_846 : (.instanceMethod ⟨"KateDesk", "open", "(IIII)V"⟩ : Cond) ∈ BW := bw_4 (List.mem_of_getElem? (i := 126) rfl) rfl
theorem w_847 : (.selects "KateDesk" ⟨"KateDesk", "open", "(IIII)V"⟩ ⟨"KateDesk", "open", "(IIII)V"⟩ : Cond) ∈ BW := bw_4 (List.mem_of_getElem? (i := 127) rfl) rfl
theorem w_848 : (.code ⟨"KateDesk", "open", "(IIII)V"⟩ prog_1_method_18_code 5 none : Cond) ∈ BW := bw_4 (List.mem_of_getElem? (i := 128) rfl) rfl
theorem w_849 : (.methodLink "KateDesk" 264 ⟨"KateDesk$Polynomials", "divide", "([J[[JII[J)V"⟩ : Cond) ∈ BW := bw_4 (List.mem_of_getElem? (i := 129) rfl) rfl
theorem w_850 : (.instanceMethod ⟨"KateDesk$Polynomials", "divide", "([J[[JII[J)V"⟩ : Cond) ∈ BW := bw_4 (List.mem_of_getElem? (i := 130) rfl) rfl
theorem w_851 : (.selects "KateDesk$Polynomials" ⟨"KateDesk$Polynomials", "divide", "([J[[JII[J)V"⟩ ⟨"KateDesk$Polynomials", "divide", "([J[[JII[J)V"⟩ : Cond) ∈ BW := bw_4 (List.mem_of_getElem? (i := 131) rfl) rfl
theorem w_852 : (.code ⟨"KateDesk$Polynomials", "divide", "([J[[JII[J)V"⟩ prog_7_method_5_code 7 none : Cond) ∈ BW := bw_4 (List.mem_of_getElem? (i := 132) rfl) rfl
theorem w_853 : (.methodLink "KateDesk$Polynomials" 65 ⟨"KateDesk$Limbs", "clear", "([J)V"⟩ : Cond) ∈ BW := bw_4 (List.mem_of_getElem? (i := 133) rfl) rfl
theorem w_854 : (.methodLink "KateDesk$Polynomials" 69 ⟨"KateDesk$Field", "multiply", "([J[J[J)V"⟩ : Cond) ∈ BW := bw_4 (List.mem_of_getElem? (i := 134) rfl) rfl
theorem w_855 : (.methodLink "KateDesk$Polynomials" 72 ⟨"KateDesk$Field", "add", "([J[J[J)V"⟩ : Cond) ∈ BW := bw_4 (List.mem_of_getElem? (i := 135) rfl) rfl
theorem w_856 : (.methodLink "KateDesk$Polynomials" 75 ⟨"KateDesk$Limbs", "copy", "([J[J)V"⟩ : Cond) ∈ BW := bw_4 (List.mem_of_getElem? (i := 136) rfl) rfl
theorem w_857 : (.methodLink "KateDeskLaw" 166 ⟨"KateDeskLaw", "checks", "(LKateDesk;IIIII[J)I"⟩ : Cond) ∈ BW := bw_4 (List.mem_of_getElem? (i := 137) rfl) rfl
theorem w_858 : (.static ⟨"KateDeskLaw", "checks", "(LKateDesk;IIIII[J)I"⟩ : Cond) ∈ BW := bw_4 (List.mem_of_getElem? (i := 138) rfl) rfl
theorem w_859 : (.codeWith ⟨"KateDeskLaw", "checks", "(LKateDesk;IIIII[J)I"⟩ method_20_code 8 (Option.some FieldType.int) [(0, 23, 26, 13)] : Cond) ∈ BW := bw_4 (List.mem_of_getElem? (i := 139) rfl) rfl
theorem w_860 : (.methodLink "KateDeskLaw" 80 ⟨"KateDesk", "checks", "(IIIII)Z"⟩ : Cond) ∈ BW := bw_4 (List.mem_of_getElem? (i := 140) rfl) rfl
theorem w_861 : (.instanceMethod ⟨"KateDesk", "checks", "(IIIII)Z"⟩ : Cond) ∈ BW := bw_4 (List.mem_of_getElem? (i := 141) rfl) rfl
theorem w_862 : (.selects "KateDesk" ⟨"KateDesk", "checks", "(IIIII)Z"⟩ ⟨"KateDesk", "checks", "(IIIII)Z"⟩ : Cond) ∈ BW := bw_4 (List.mem_of_getElem? (i := 142) rfl) rfl
theorem w_863 : (.code ⟨"KateDesk", "checks", "(IIIII)Z"⟩ prog_1_method_19_code 6 (Option.some FieldType.boolean) : Cond) ∈ BW := bw_4 (List.mem_of_getElem? (i := 143) rfl) rfl
theorem w_864 : (.methodLink "KateDeskLaw" 170 ⟨"KateDeskLaw", "transform", "(LKateDesk;IIZ)I"⟩ : Cond) ∈ BW := bw_4 (List.mem_of_getElem? (i := 144) rfl) rfl
theorem w_865 : (.static ⟨"KateDeskLaw", "transform", "(LKateDesk;IIZ)I"⟩ : Cond) ∈ BW := bw_4 (List.mem_of_getElem? (i := 145) rfl) rfl
theorem w_866 : (.codeWith ⟨"KateDeskLaw", "transform", "(LKateDesk;IIZ)I"⟩ method_21_code 5 (Option.some FieldType.int) [(0, 7, 10, 13)] : Cond) ∈ BW := bw_4 (List.mem_of_getElem? (i := 146) rfl) rfl
theorem w_867 : (.methodLink "KateDeskLaw" 84 ⟨"KateDesk", "transform", "(IIZ)V"⟩ : Cond) ∈ BW := bw_4 (List.mem_of_getElem? (i := 147) rfl) rfl
theorem w_868 : (.instanceMethod ⟨"KateDesk", "transform", "(IIZ)V"⟩ : Cond) ∈ BW := bw_4 (List.mem_of_getElem? (i := 148) rfl) rfl
theorem w_869 : (.selects "KateDesk" ⟨"KateDesk", "transform", "(IIZ)V"⟩ ⟨"KateDesk", "transform", "(IIZ)V"⟩ : Cond) ∈ BW := bw_4 (List.mem_of_getElem? (i := 149) rfl) rfl
theorem w_870 : (.code ⟨"KateDesk", "transform", "(IIZ)V"⟩ prog_1_method_20_code 4 none : Cond) ∈ BW := bw_4 (List.mem_of_getElem? (i := 150) rfl) rfl
theorem w_871 : (.methodLink "KateDesk" 268 ⟨"KateDesk$Polynomials", "interpolate", "([[JII)V"⟩ : Cond) ∈ BW := bw_4 (List.mem_of_getElem? (i := 151) rfl) rfl
theorem w_872 : (.instanceMethod ⟨"KateDesk$Polynomials", "interpolate", "([[JII)V"⟩ : Cond) ∈ BW := bw_4 (List.mem_of_getElem? (i := 152) rfl) rfl
theorem w_873 : (.selects "KateDesk$Polynomials" ⟨"KateDesk$Polynomials", "interpolate", "([[JII)V"⟩ ⟨"KateDesk$Polynomials", "interpolate", "([[JII)V"⟩ : Cond) ∈ BW := bw_4 (List.mem_of_getElem? (i := 153) rfl) rfl
theorem w_874 : (.code ⟨"KateDesk$Polynomials", "interpolate", "([[JII)V"⟩ prog_7_method_7_code 6 none : Cond) ∈ BW := bw_4 (List.mem_of_getElem? (i := 154) rfl) rfl
theorem w_875 : (.methodLink "KateDesk$Polynomials" 78 ⟨"KateDesk$Polynomials", "findValues", "([[JII)V"⟩ : Cond) ∈ BW := bw_4 (List.mem_of_getElem? (i := 155) rfl) rfl
theorem w_877 : (.instanceMethod ⟨"KateDesk$Polynomials", "findValues", "([[JII)V"⟩ : Cond) ∈ BW := bw_4 (List.mem_of_getElem? (i := 157) rfl) rfl
theorem w_878 : (.code ⟨"KateDesk$Polynomials", "findValues", "([[JII)V"⟩ prog_7_method_8_code 7 none : Cond) ∈ BW := bw_4 (List.mem_of_getElem? (i := 158) rfl) rfl
theorem w_879 : (.methodLink "KateDesk$Polynomials" 85 ⟨"KateDesk$Polynomials", "liftedRoot", "([JI)V"⟩ : Cond) ∈ BW := bw_4 (List.mem_of_getElem? (i := 159) rfl) rfl
theorem w_880 : (.methodLink "KateDesk$Polynomials" 82 ⟨"KateDesk$Polynomials", "findShare", "(I)V"⟩ : Cond) ∈ BW := bw_4 (List.mem_of_getElem? (i := 160) rfl) rfl
theorem w_882 : (.instanceMethod ⟨"KateDesk$Polynomials", "findShare", "(I)V"⟩ : Cond) ∈ BW := bw_4 (List.mem_of_getElem? (i := 162) rfl) rfl
theorem w_883 : (.code ⟨"KateDesk$Polynomials", "findShare", "(I)V"⟩ prog_7_method_4_code 2 none : Cond) ∈ BW := bw_4 (List.mem_of_getElem? (i := 163) rfl) rfl
theorem w_884 : (.methodLink "KateDesk" 272 ⟨"KateDesk$Polynomials", "evaluate", "([[JII)V"⟩ : Cond) ∈ BW := bw_4 (List.mem_of_getElem? (i := 164) rfl) rfl
theorem w_885 : (.instanceMethod ⟨"KateDesk$Polynomials", "evaluate", "([[JII)V"⟩ : Cond) ∈ BW := bw_4 (List.mem_of_getElem? (i := 165) rfl) rfl
theorem w_886 : (.selects "KateDesk$Polynomials" ⟨"KateDesk$Polynomials", "evaluate", "([[JII)V"⟩ ⟨"KateDesk$Polynomials", "evaluate", "([[JII)V"⟩ : Cond) ∈ BW := bw_4 (List.mem_of_getElem? (i := 166) rfl) rfl
theorem w_887 : (.code ⟨"KateDesk$Polynomials", "evaluate", "([[JII)V"⟩ prog_7_method_6_code 5 none : Cond) ∈ BW := bw_4 (List.mem_of_getElem? (i := 167) rfl) rfl
theorem w_888 : (.methodLink "KateDeskLaw" 174 ⟨"KateDeskLaw", "lagrange", "(LKateDesk;IIII)I"⟩ : Cond) ∈ BW := bw_4 (List.mem_of_getElem? (i := 168) rfl) rfl
theorem w_889 : (.static ⟨"KateDeskLaw", "lagrange", "(LKateDesk;IIII)I"⟩ : Cond) ∈ BW := bw_4 (List.mem_of_getElem? (i := 169) rfl) rfl
theorem w_890 : (.codeWith ⟨"KateDeskLaw", "lagrange", "(LKateDesk;IIII)I"⟩ method_22_code 6 (Option.some FieldType.int) [(0, 9, 12, 13)] : Cond) ∈ BW := bw_4 (List.mem_of_getElem? (i := 170) rfl) rfl
theorem w_891 : (.methodLink "KateDeskLaw" 88 ⟨"KateDesk", "lagrange", "(IIII)V"⟩ : Cond) ∈ BW := bw_4 (List.mem_of_getElem? (i := 171) rfl) rfl
theorem w_892 : (.instanceMethod ⟨"KateDesk", "lagrange", "(IIII)V"⟩ : Cond) ∈ BW := bw_4 (List.mem_of_getElem? (i := 172) rfl) rfl
theorem w_893 : (.selects "KateDesk" ⟨"KateDesk", "lagrange", "(IIII)V"⟩ ⟨"KateDesk", "lagrange", "(IIII)V"⟩ : Cond) ∈ BW := bw_4 (List.mem_of_getElem? (i := 173) rfl) rfl
