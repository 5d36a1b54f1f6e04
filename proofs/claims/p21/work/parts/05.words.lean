/-! the tables' words, by their places; sites of fields, new objects, calls (by program: wip/p1/gen_words.py) -/
theorem t_0 : Jvm.Cond.selects "CardLink$ResetAnswer" (⟨"CardLink$ResetAnswer", "clear", "()V"⟩ : Jvm.MethodName) (⟨"CardLink$ResetAnswer", "clear", "()V"⟩ : Jvm.MethodName) ∈ gW := gW_of (List.mem_of_getElem? (i := 0) (by decide +kernel)) rfl
theorem t_1 : Jvm.Cond.selects "CardLink$ResetAnswer" (⟨"CardLink$ResetAnswer", "readHead", "(LCardLink$Row;)I"⟩ : Jvm.MethodName) (⟨"CardLink$ResetAnswer", "readHead", "(LCardLink$Row;)I"⟩ : Jvm.MethodName) ∈ gW := gW_of (List.mem_of_getElem? (i := 1) (by decide +kernel)) rfl
theorem t_2 : Jvm.Cond.selects "CardLink$ResetAnswer" (⟨"CardLink$ResetAnswer", "readGroups", "(LCardLink$Row;)I"⟩ : Jvm.MethodName) (⟨"CardLink$ResetAnswer", "readGroups", "(LCardLink$Row;)I"⟩ : Jvm.MethodName) ∈ gW := gW_of (List.mem_of_getElem? (i := 2) (by decide +kernel)) rfl
theorem t_3 : Jvm.Cond.selects "CardLink$ResetAnswer" (⟨"CardLink$ResetAnswer", "readGroupByte", "(III)I"⟩ : Jvm.MethodName) (⟨"CardLink$ResetAnswer", "readGroupByte", "(III)I"⟩ : Jvm.MethodName) ∈ gW := gW_of (List.mem_of_getElem? (i := 3) (by decide +kernel)) rfl
theorem t_4 : Jvm.Cond.selects "CardLink$ResetAnswer" (⟨"CardLink$ResetAnswer", "readTd", "(II)I"⟩ : Jvm.MethodName) (⟨"CardLink$ResetAnswer", "readTd", "(II)I"⟩ : Jvm.MethodName) ∈ gW := gW_of (List.mem_of_getElem? (i := 4) (by decide +kernel)) rfl
theorem t_5 : Jvm.Cond.selects "CardLink$ResetAnswer" (⟨"CardLink$ResetAnswer", "readFirstGroup", "(II)I"⟩ : Jvm.MethodName) (⟨"CardLink$ResetAnswer", "readFirstGroup", "(II)I"⟩ : Jvm.MethodName) ∈ gW := gW_of (List.mem_of_getElem? (i := 5) (by decide +kernel)) rfl
theorem t_6 : Jvm.Cond.selects "CardLink$ResetAnswer" (⟨"CardLink$ResetAnswer", "readLinkGroup", "(II)I"⟩ : Jvm.MethodName) (⟨"CardLink$ResetAnswer", "readLinkGroup", "(II)I"⟩ : Jvm.MethodName) ∈ gW := gW_of (List.mem_of_getElem? (i := 6) (by decide +kernel)) rfl
theorem t_7 : Jvm.Cond.selects "CardLink$ResetAnswer" (⟨"CardLink$ResetAnswer", "readTail", "(LCardLink$Row;I)I"⟩ : Jvm.MethodName) (⟨"CardLink$ResetAnswer", "readTail", "(LCardLink$Row;I)I"⟩ : Jvm.MethodName) ∈ gW := gW_of (List.mem_of_getElem? (i := 7) (by decide +kernel)) rfl
theorem t_8 : Jvm.Cond.selects "CardLink" (⟨"CardLink", "mayStart", "()Z"⟩ : Jvm.MethodName) (⟨"CardLink", "mayStart", "()Z"⟩ : Jvm.MethodName) ∈ gW := gW_of (List.mem_of_getElem? (i := 8) (by decide +kernel)) rfl
theorem t_9 : Jvm.Cond.selects "CardLink$Line" (⟨"CardLink$Line", "begin", "(I)V"⟩ : Jvm.MethodName) (⟨"CardLink$Line", "begin", "(I)V"⟩ : Jvm.MethodName) ∈ gW := gW_of (List.mem_of_getElem? (i := 9) (by decide +kernel)) rfl
theorem t_10 : Jvm.Cond.selects "CardLink$Wire" (⟨"CardLink$Wire", "makePlace", "(I)V"⟩ : Jvm.MethodName) (⟨"CardLink$Wire", "makePlace", "(I)V"⟩ : Jvm.MethodName) ∈ gW := gW_of (List.mem_of_getElem? (i := 10) (by decide +kernel)) rfl
theorem t_11 : Jvm.Cond.selects "CardLink" (⟨"CardLink", "onWay", "()Z"⟩ : Jvm.MethodName) (⟨"CardLink", "onWay", "()Z"⟩ : Jvm.MethodName) ∈ gW := gW_of (List.mem_of_getElem? (i := 11) (by decide +kernel)) rfl
theorem t_12 : Jvm.Cond.selects "CardLink$Line" (⟨"CardLink$Line", "firstKind", "()I"⟩ : Jvm.MethodName) (⟨"CardLink$Line", "firstKind", "()I"⟩ : Jvm.MethodName) ∈ gW := gW_of (List.mem_of_getElem? (i := 12) (by decide +kernel)) rfl
theorem t_13 : Jvm.Cond.selects "CardLink$Line" (⟨"CardLink$Line", "readerKind", "()I"⟩ : Jvm.MethodName) (⟨"CardLink$Line", "readerKind", "()I"⟩ : Jvm.MethodName) ∈ gW := gW_of (List.mem_of_getElem? (i := 13) (by decide +kernel)) rfl
theorem t_14 : Jvm.Cond.selects "CardLink$Line" (⟨"CardLink$Line", "onBroken", "(LCardLink$Side;)I"⟩ : Jvm.MethodName) (⟨"CardLink$Line", "onBroken", "(LCardLink$Side;)I"⟩ : Jvm.MethodName) ∈ gW := gW_of (List.mem_of_getElem? (i := 14) (by decide +kernel)) rfl
theorem t_15 : Jvm.Cond.selects "CardLink$Line" (⟨"CardLink$Line", "readerOnAnswer", "()I"⟩ : Jvm.MethodName) (⟨"CardLink$Line", "readerOnAnswer", "()I"⟩ : Jvm.MethodName) ∈ gW := gW_of (List.mem_of_getElem? (i := 15) (by decide +kernel)) rfl
theorem t_16 : Jvm.Cond.selects "CardLink$Line" (⟨"CardLink$Line", "isAnswerTo", "(LCardLink$Side;)Z"⟩ : Jvm.MethodName) (⟨"CardLink$Line", "isAnswerTo", "(LCardLink$Side;)Z"⟩ : Jvm.MethodName) ∈ gW := gW_of (List.mem_of_getElem? (i := 16) (by decide +kernel)) rfl
theorem t_17 : Jvm.Cond.selects "CardLink$Line" (⟨"CardLink$Line", "finish", "(I)I"⟩ : Jvm.MethodName) (⟨"CardLink$Line", "finish", "(I)I"⟩ : Jvm.MethodName) ∈ gW := gW_of (List.mem_of_getElem? (i := 17) (by decide +kernel)) rfl
theorem t_18 : Jvm.Cond.selects "CardLink$Line" (⟨"CardLink$Line", "onRequest", "(LCardLink$Side;LCardLink$Side;I)I"⟩ : Jvm.MethodName) (⟨"CardLink$Line", "onRequest", "(LCardLink$Side;LCardLink$Side;I)I"⟩ : Jvm.MethodName) ∈ gW := gW_of (List.mem_of_getElem? (i := 18) (by decide +kernel)) rfl
theorem t_19 : Jvm.Cond.selects "CardLink$Line" (⟨"CardLink$Line", "refuse", "(LCardLink$Side;)I"⟩ : Jvm.MethodName) (⟨"CardLink$Line", "refuse", "(LCardLink$Side;)I"⟩ : Jvm.MethodName) ∈ gW := gW_of (List.mem_of_getElem? (i := 19) (by decide +kernel)) rfl
theorem t_20 : Jvm.Cond.selects "CardLink$Line" (⟨"CardLink$Line", "onI", "(LCardLink$Side;I)I"⟩ : Jvm.MethodName) (⟨"CardLink$Line", "onI", "(LCardLink$Side;I)I"⟩ : Jvm.MethodName) ∈ gW := gW_of (List.mem_of_getElem? (i := 20) (by decide +kernel)) rfl
theorem t_21 : Jvm.Cond.selects "CardLink$Line" (⟨"CardLink$Line", "onReceipt", "(LCardLink$Side;I)I"⟩ : Jvm.MethodName) (⟨"CardLink$Line", "onReceipt", "(LCardLink$Side;I)I"⟩ : Jvm.MethodName) ∈ gW := gW_of (List.mem_of_getElem? (i := 21) (by decide +kernel)) rfl
theorem t_22 : Jvm.Cond.selects "CardLink$Line" (⟨"CardLink$Line", "countTries", "(I)I"⟩ : Jvm.MethodName) (⟨"CardLink$Line", "countTries", "(I)I"⟩ : Jvm.MethodName) ∈ gW := gW_of (List.mem_of_getElem? (i := 22) (by decide +kernel)) rfl
theorem t_23 : Jvm.Cond.selects "CardLink$Line" (⟨"CardLink$Line", "send", "(LCardLink$Side;LCardLink$Side;I)V"⟩ : Jvm.MethodName) (⟨"CardLink$Line", "send", "(LCardLink$Side;LCardLink$Side;I)V"⟩ : Jvm.MethodName) ∈ gW := gW_of (List.mem_of_getElem? (i := 23) (by decide +kernel)) rfl
theorem t_24 : Jvm.Cond.selects "CardLink$Line" (⟨"CardLink$Line", "compose", "(LCardLink$Side;I)V"⟩ : Jvm.MethodName) (⟨"CardLink$Line", "compose", "(LCardLink$Side;I)V"⟩ : Jvm.MethodName) ∈ gW := gW_of (List.mem_of_getElem? (i := 24) (by decide +kernel)) rfl
theorem t_25 : Jvm.Cond.selects "CardLink$Wire" (⟨"CardLink$Wire", "sendLetter", "()I"⟩ : Jvm.MethodName) (⟨"CardLink$Wire", "sendLetter", "()I"⟩ : Jvm.MethodName) ∈ gW := gW_of (List.mem_of_getElem? (i := 25) (by decide +kernel)) rfl
theorem t_26 : Jvm.Cond.selects "CardLink$Wire" (⟨"CardLink$Wire", "dropNearest", "()V"⟩ : Jvm.MethodName) (⟨"CardLink$Wire", "dropNearest", "()V"⟩ : Jvm.MethodName) ∈ gW := gW_of (List.mem_of_getElem? (i := 26) (by decide +kernel)) rfl
theorem t_27 : Jvm.Cond.selects "CardLink$Line" (⟨"CardLink$Line", "judge", "(II)I"⟩ : Jvm.MethodName) (⟨"CardLink$Line", "judge", "(II)I"⟩ : Jvm.MethodName) ∈ gW := gW_of (List.mem_of_getElem? (i := 27) (by decide +kernel)) rfl
theorem t_28 : Jvm.Cond.selects "CardLink$Line" (⟨"CardLink$Line", "isWellFormed", "(III)Z"⟩ : Jvm.MethodName) (⟨"CardLink$Line", "isWellFormed", "(III)Z"⟩ : Jvm.MethodName) ∈ gW := gW_of (List.mem_of_getElem? (i := 28) (by decide +kernel)) rfl
theorem t_29 : Jvm.Cond.selects "CardLink$Journal" (⟨"CardLink$Journal", "isBlock", "(IILCardLink$Row;)Z"⟩ : Jvm.MethodName) (⟨"CardLink$Journal", "isBlock", "(IILCardLink$Row;)Z"⟩ : Jvm.MethodName) ∈ gW := gW_of (List.mem_of_getElem? (i := 29) (by decide +kernel)) rfl
theorem t_30 : Jvm.Cond.selects "CardLink$Journal" (⟨"CardLink$Journal", "addUnlike", "(ILCardLink$Row;I)I"⟩ : Jvm.MethodName) (⟨"CardLink$Journal", "addUnlike", "(ILCardLink$Row;I)I"⟩ : Jvm.MethodName) ∈ gW := gW_of (List.mem_of_getElem? (i := 30) (by decide +kernel)) rfl
theorem t_31 : Jvm.Cond.selects "CardLink$Line" (⟨"CardLink$Line", "cardKind", "()I"⟩ : Jvm.MethodName) (⟨"CardLink$Line", "cardKind", "()I"⟩ : Jvm.MethodName) ∈ gW := gW_of (List.mem_of_getElem? (i := 31) (by decide +kernel)) rfl
theorem t_32 : Jvm.Cond.selects "CardLink$Line" (⟨"CardLink$Line", "putFirstByte", "()I"⟩ : Jvm.MethodName) (⟨"CardLink$Line", "putFirstByte", "()I"⟩ : Jvm.MethodName) ∈ gW := gW_of (List.mem_of_getElem? (i := 32) (by decide +kernel)) rfl
theorem t_33 : Jvm.Cond.selects "CardLink$Line" (⟨"CardLink$Line", "cardOnAnswer", "()I"⟩ : Jvm.MethodName) (⟨"CardLink$Line", "cardOnAnswer", "()I"⟩ : Jvm.MethodName) ∈ gW := gW_of (List.mem_of_getElem? (i := 33) (by decide +kernel)) rfl
theorem t_34 : Jvm.Cond.selects "CardLink$Line" (⟨"CardLink$Line", "putBehindThird", "()I"⟩ : Jvm.MethodName) (⟨"CardLink$Line", "putBehindThird", "()I"⟩ : Jvm.MethodName) ∈ gW := gW_of (List.mem_of_getElem? (i := 34) (by decide +kernel)) rfl
theorem t_35 : Jvm.Cond.selects "CardLink$Line" (⟨"CardLink$Line", "doMessage", "()I"⟩ : Jvm.MethodName) (⟨"CardLink$Line", "doMessage", "()I"⟩ : Jvm.MethodName) ∈ gW := gW_of (List.mem_of_getElem? (i := 35) (by decide +kernel)) rfl
theorem t_36 : Jvm.Cond.selects "CardLink$Line" (⟨"CardLink$Line", "putCounting", "(I)I"⟩ : Jvm.MethodName) (⟨"CardLink$Line", "putCounting", "(I)I"⟩ : Jvm.MethodName) ∈ gW := gW_of (List.mem_of_getElem? (i := 36) (by decide +kernel)) rfl
theorem t_37 : Jvm.Cond.selects "CardLink" (⟨"CardLink", "sideOf", "(I)LCardLink$Side;"⟩ : Jvm.MethodName) (⟨"CardLink", "sideOf", "(I)LCardLink$Side;"⟩ : Jvm.MethodName) ∈ gW := gW_of (List.mem_of_getElem? (i := 37) (by decide +kernel)) rfl
theorem t_38 : Jvm.Cond.selects "CardLink" (⟨"CardLink", "feedEight", "(J)V"⟩ : Jvm.MethodName) (⟨"CardLink", "feedEight", "(J)V"⟩ : Jvm.MethodName) ∈ gW := gW_of (List.mem_of_getElem? (i := 38) (by decide +kernel)) rfl
theorem t_39 : Jvm.Cond.selects "CardLink$Journal" (⟨"CardLink$Journal", "placeOf", "(I)I"⟩ : Jvm.MethodName) (⟨"CardLink$Journal", "placeOf", "(I)I"⟩ : Jvm.MethodName) ∈ gW := gW_of (List.mem_of_getElem? (i := 39) (by decide +kernel)) rfl
theorem t_41 : (Jvm.Cond.initialized "CardLinkLaw") ∈ gW := gW_of (List.mem_of_getElem? (i := 41) (by decide +kernel)) rfl
theorem t_42 : (Jvm.Cond.initialized "CardLink") ∈ gW := gW_of (List.mem_of_getElem? (i := 42) (by decide +kernel)) rfl
theorem t_43 : (Jvm.Cond.initialized "CardLink$Row") ∈ gW := gW_of (List.mem_of_getElem? (i := 43) (by decide +kernel)) rfl
theorem t_44 : (Jvm.Cond.initialized "java/lang/Math") ∈ gW := gW_of (List.mem_of_getElem? (i := 44) (by decide +kernel)) rfl
theorem t_45 : (Jvm.Cond.initialized "CardLink$Journal") ∈ gW := gW_of (List.mem_of_getElem? (i := 45) (by decide +kernel)) rfl
theorem t_46 : (Jvm.Cond.initialized "CardLink$Line") ∈ gW := gW_of (List.mem_of_getElem? (i := 46) (by decide +kernel)) rfl
theorem t_47 : (Jvm.Cond.initialized "CardLink$Side") ∈ gW := gW_of (List.mem_of_getElem? (i := 47) (by decide +kernel)) rfl
theorem t_48 : (Jvm.Cond.initialized "CardLink$Wire") ∈ gW := gW_of (List.mem_of_getElem? (i := 48) (by decide +kernel)) rfl
theorem t_49 : (Jvm.Cond.initialized "CardLink$Forecast") ∈ gW := gW_of (List.mem_of_getElem? (i := 49) (by decide +kernel)) rfl
theorem t_50 : (Jvm.Cond.initialized "CardLink$ResetAnswer") ∈ gW := gW_of (List.mem_of_getElem? (i := 50) (by decide +kernel)) rfl
theorem t_51 : (Jvm.Cond.initialized "java/lang/System") ∈ gW := gW_of (List.mem_of_getElem? (i := 51) (by decide +kernel)) rfl
theorem t_52 : (Jvm.Cond.initialized "java/util/Arrays") ∈ gW := gW_of (List.mem_of_getElem? (i := 52) (by decide +kernel)) rfl
theorem t_53 : (Jvm.Cond.initialized "java/lang/Throwable") ∈ gW := gW_of (List.mem_of_getElem? (i := 53) (by decide +kernel)) rfl
theorem t_54 : (Jvm.Cond.initialized "java/lang/Exception") ∈ gW := gW_of (List.mem_of_getElem? (i := 54) (by decide +kernel)) rfl
theorem t_55 : (Jvm.Cond.initialized "java/lang/RuntimeException") ∈ gW := gW_of (List.mem_of_getElem? (i := 55) (by decide +kernel)) rfl
theorem t_56 : (Jvm.Cond.initialized "java/util/NoSuchElementException") ∈ gW := gW_of (List.mem_of_getElem? (i := 56) (by decide +kernel)) rfl
theorem t_57 : (Jvm.Cond.classLink "CardLinkLaw" (9 : Nat) "CardLink") ∈ gW := gW_of (List.mem_of_getElem? (i := 57) (by decide +kernel)) rfl
theorem t_58 : (Jvm.Cond.instantiable "CardLink" (7 : Nat)) ∈ gW := gW_of (List.mem_of_getElem? (i := 58) (by decide +kernel)) rfl
theorem t_59 : (Jvm.Cond.methodLink "CardLinkLaw" (40 : Nat) ({ cls := "CardLink", name := "<init>", desc := "()V" } : Jvm.MethodName)) ∈ gW := gW_of (List.mem_of_getElem? (i := 59) (by decide +kernel)) rfl
theorem t_60 : (Jvm.Cond.instanceMethod ({ cls := "CardLink", name := "<init>", desc := "()V" } : Jvm.MethodName)) ∈ gW := gW_of (List.mem_of_getElem? (i := 60) (by decide +kernel)) rfl
theorem t_61 : (Jvm.Cond.code ({ cls := "CardLink", name := "<init>", desc := "()V" } : Jvm.MethodName) prog_1_method_1_code (1 : Nat) (Option.none : Option Jvm.ClassFile.FieldType)) ∈ gW := gW_of (List.mem_of_getElem? (i := 61) (by decide +kernel)) rfl
theorem t_62 : (Jvm.Cond.methodLink "CardLink" (1 : Nat) ({ cls := "java/lang/Object", name := "<init>", desc := "()V" } : Jvm.MethodName)) ∈ gW := gW_of (List.mem_of_getElem? (i := 62) (by decide +kernel)) rfl
theorem t_63 : (Jvm.Cond.instanceMethod ({ cls := "java/lang/Object", name := "<init>", desc := "()V" } : Jvm.MethodName)) ∈ gW := gW_of (List.mem_of_getElem? (i := 63) (by decide +kernel)) rfl
theorem t_64 : (Jvm.Cond.code ({ cls := "java/lang/Object", name := "<init>", desc := "()V" } : Jvm.MethodName) object_method_1_code (1 : Nat) (Option.none : Option Jvm.ClassFile.FieldType)) ∈ gW := gW_of (List.mem_of_getElem? (i := 64) (by decide +kernel)) rfl
theorem t_65 : (Jvm.Cond.classLink "CardLink" (7 : Nat) "CardLink$Row") ∈ gW := gW_of (List.mem_of_getElem? (i := 65) (by decide +kernel)) rfl
theorem t_66 : (Jvm.Cond.instantiable "CardLink$Row" (3 : Nat)) ∈ gW := gW_of (List.mem_of_getElem? (i := 66) (by decide +kernel)) rfl
theorem t_67 : (Jvm.Cond.methodLink "CardLink" (11 : Nat) ({ cls := "CardLink$Row", name := "<init>", desc := "(II)V" } : Jvm.MethodName)) ∈ gW := gW_of (List.mem_of_getElem? (i := 67) (by decide +kernel)) rfl
theorem t_68 : (Jvm.Cond.instanceMethod ({ cls := "CardLink$Row", name := "<init>", desc := "(II)V" } : Jvm.MethodName)) ∈ gW := gW_of (List.mem_of_getElem? (i := 68) (by decide +kernel)) rfl
theorem t_69 : (Jvm.Cond.code ({ cls := "CardLink$Row", name := "<init>", desc := "(II)V" } : Jvm.MethodName) prog_6_method_1_code (3 : Nat) (Option.none : Option Jvm.ClassFile.FieldType)) ∈ gW := gW_of (List.mem_of_getElem? (i := 69) (by decide +kernel)) rfl
theorem t_70 : (Jvm.Cond.methodLink "CardLink$Row" (1 : Nat) ({ cls := "java/lang/Object", name := "<init>", desc := "()V" } : Jvm.MethodName)) ∈ gW := gW_of (List.mem_of_getElem? (i := 70) (by decide +kernel)) rfl
theorem t_71 : (Jvm.Cond.methodLink "CardLink$Row" (13 : Nat) ({ cls := "java/lang/Math", name := "max", desc := "(II)I" } : Jvm.MethodName)) ∈ gW := gW_of (List.mem_of_getElem? (i := 71) (by decide +kernel)) rfl
theorem t_72 : (Jvm.Cond.static ({ cls := "java/lang/Math", name := "max", desc := "(II)I" } : Jvm.MethodName)) ∈ gW := gW_of (List.mem_of_getElem? (i := 72) (by decide +kernel)) rfl
theorem t_73 : (Jvm.Cond.code ({ cls := "java/lang/Math", name := "max", desc := "(II)I" } : Jvm.MethodName) prog_14_method_65_code (2 : Nat) (Option.some Jvm.ClassFile.FieldType.int)) ∈ gW := gW_of (List.mem_of_getElem? (i := 73) (by decide +kernel)) rfl
theorem t_74 : (Jvm.Cond.fieldLink "CardLink$Row" (19 : Nat) "CardLink$Row" "items" "[I") ∈ gW := gW_of (List.mem_of_getElem? (i := 74) (by decide +kernel)) rfl
theorem t_75 : (Jvm.Cond.fieldLink "CardLink$Row" (7 : Nat) "CardLink$Row" "length" "I") ∈ gW := gW_of (List.mem_of_getElem? (i := 75) (by decide +kernel)) rfl
theorem t_76 : (Jvm.Cond.fieldLink "CardLink$Row" (23 : Nat) "CardLink$Row" "most" "I") ∈ gW := gW_of (List.mem_of_getElem? (i := 76) (by decide +kernel)) rfl
theorem t_84 : (Jvm.Cond.arrayClass Jvm.ClassFile.FieldType.int) ∈ gW := gW_of (List.mem_of_getElem? (i := 84) (by decide +kernel)) rfl
theorem t_85 : (Jvm.Cond.classLink "CardLink" (18 : Nat) "CardLink$Journal") ∈ gW := gW_of (List.mem_of_getElem? (i := 85) (by decide +kernel)) rfl
theorem t_86 : (Jvm.Cond.instantiable "CardLink$Journal" (9 : Nat)) ∈ gW := gW_of (List.mem_of_getElem? (i := 86) (by decide +kernel)) rfl
theorem t_88 : (Jvm.Cond.instanceMethod ({ cls := "CardLink$Journal", name := "<init>", desc := "()V" } : Jvm.MethodName)) ∈ gW := gW_of (List.mem_of_getElem? (i := 88) (by decide +kernel)) rfl
theorem t_89 : (Jvm.Cond.code ({ cls := "CardLink$Journal", name := "<init>", desc := "()V" } : Jvm.MethodName) prog_3_method_1_code (1 : Nat) (Option.none : Option Jvm.ClassFile.FieldType)) ∈ gW := gW_of (List.mem_of_getElem? (i := 89) (by decide +kernel)) rfl
theorem t_90 : (Jvm.Cond.methodLink "CardLink$Journal" (3 : Nat) ({ cls := "java/lang/Object", name := "<init>", desc := "()V" } : Jvm.MethodName)) ∈ gW := gW_of (List.mem_of_getElem? (i := 90) (by decide +kernel)) rfl
theorem t_91 : (Jvm.Cond.classLink "CardLink$Journal" (9 : Nat) "CardLink$Row") ∈ gW := gW_of (List.mem_of_getElem? (i := 91) (by decide +kernel)) rfl
theorem t_92 : (Jvm.Cond.constant "CardLink$Journal" (13 : Nat) (1048576 : Int32)) ∈ gW := gW_of (List.mem_of_getElem? (i := 92) (by decide +kernel)) rfl
theorem t_93 : (Jvm.Cond.methodLink "CardLink$Journal" (14 : Nat) ({ cls := "CardLink$Row", name := "<init>", desc := "(II)V" } : Jvm.MethodName)) ∈ gW := gW_of (List.mem_of_getElem? (i := 93) (by decide +kernel)) rfl
theorem t_94 : (Jvm.Cond.constant "CardLink$Journal" (21 : Nat) (65536 : Int32)) ∈ gW := gW_of (List.mem_of_getElem? (i := 94) (by decide +kernel)) rfl
theorem t_95 : (Jvm.Cond.fieldLink "CardLink$Journal" (17 : Nat) "CardLink$Journal" "bytes" "LCardLink$Row;") ∈ gW := gW_of (List.mem_of_getElem? (i := 95) (by decide +kernel)) rfl
theorem t_96 : (Jvm.Cond.fieldLink "CardLink$Journal" (22 : Nat) "CardLink$Journal" "starts" "LCardLink$Row;") ∈ gW := gW_of (List.mem_of_getElem? (i := 96) (by decide +kernel)) rfl
theorem t_97 : (Jvm.Cond.fieldLink "CardLink$Journal" (25 : Nat) "CardLink$Journal" "times" "LCardLink$Row;") ∈ gW := gW_of (List.mem_of_getElem? (i := 97) (by decide +kernel)) rfl
theorem t_98 : (Jvm.Cond.fieldLink "CardLink$Journal" (28 : Nat) "CardLink$Journal" "following" "LCardLink$Row;") ∈ gW := gW_of (List.mem_of_getElem? (i := 98) (by decide +kernel)) rfl
theorem t_99 : (Jvm.Cond.fieldLink "CardLink$Journal" (31 : Nat) "CardLink$Journal" "chains" "LCardLink$Row;") ∈ gW := gW_of (List.mem_of_getElem? (i := 99) (by decide +kernel)) rfl
theorem t_100 : (Jvm.Cond.fieldLink "CardLink$Journal" (34 : Nat) "CardLink$Journal" "latest" "LCardLink$Row;") ∈ gW := gW_of (List.mem_of_getElem? (i := 100) (by decide +kernel)) rfl
theorem t_101 : (Jvm.Cond.fieldLink "CardLink$Journal" (37 : Nat) "CardLink$Journal" "outcomes" "LCardLink$Row;") ∈ gW := gW_of (List.mem_of_getElem? (i := 101) (by decide +kernel)) rfl
theorem t_102 : (Jvm.Cond.fieldLink "CardLink$Journal" (40 : Nat) "CardLink$Journal" "took" "LCardLink$Row;") ∈ gW := gW_of (List.mem_of_getElem? (i := 102) (by decide +kernel)) rfl
theorem t_103 : (Jvm.Cond.fieldLink "CardLink$Journal" (43 : Nat) "CardLink$Journal" "newest" "I") ∈ gW := gW_of (List.mem_of_getElem? (i := 103) (by decide +kernel)) rfl
theorem t_123 : (Jvm.Cond.classLink "CardLink" (25 : Nat) "CardLink$Line") ∈ gW := gW_of (List.mem_of_getElem? (i := 123) (by decide +kernel)) rfl
theorem t_124 : (Jvm.Cond.instantiable "CardLink$Line" (18 : Nat)) ∈ gW := gW_of (List.mem_of_getElem? (i := 124) (by decide +kernel)) rfl
theorem t_125 : (Jvm.Cond.methodLink "CardLink" (27 : Nat) ({ cls := "CardLink$Line", name := "<init>", desc := "(LCardLink$Journal;)V" } : Jvm.MethodName)) ∈ gW := gW_of (List.mem_of_getElem? (i := 125) (by decide +kernel)) rfl
theorem t_126 : (Jvm.Cond.instanceMethod ({ cls := "CardLink$Line", name := "<init>", desc := "(LCardLink$Journal;)V" } : Jvm.MethodName)) ∈ gW := gW_of (List.mem_of_getElem? (i := 126) (by decide +kernel)) rfl
theorem t_127 : (Jvm.Cond.code ({ cls := "CardLink$Line", name := "<init>", desc := "(LCardLink$Journal;)V" } : Jvm.MethodName) prog_4_method_1_code (2 : Nat) (Option.none : Option Jvm.ClassFile.FieldType)) ∈ gW := gW_of (List.mem_of_getElem? (i := 127) (by decide +kernel)) rfl
theorem t_128 : (Jvm.Cond.methodLink "CardLink$Line" (3 : Nat) ({ cls := "java/lang/Object", name := "<init>", desc := "()V" } : Jvm.MethodName)) ∈ gW := gW_of (List.mem_of_getElem? (i := 128) (by decide +kernel)) rfl
theorem t_129 : (Jvm.Cond.classLink "CardLink$Line" (9 : Nat) "CardLink$Side") ∈ gW := gW_of (List.mem_of_getElem? (i := 129) (by decide +kernel)) rfl
theorem t_130 : (Jvm.Cond.instantiable "CardLink$Side" (15 : Nat)) ∈ gW := gW_of (List.mem_of_getElem? (i := 130) (by decide +kernel)) rfl
theorem t_131 : (Jvm.Cond.methodLink "CardLink$Line" (11 : Nat) ({ cls := "CardLink$Side", name := "<init>", desc := "(I)V" } : Jvm.MethodName)) ∈ gW := gW_of (List.mem_of_getElem? (i := 131) (by decide +kernel)) rfl
theorem t_132 : (Jvm.Cond.instanceMethod ({ cls := "CardLink$Side", name := "<init>", desc := "(I)V" } : Jvm.MethodName)) ∈ gW := gW_of (List.mem_of_getElem? (i := 132) (by decide +kernel)) rfl
theorem t_133 : (Jvm.Cond.code ({ cls := "CardLink$Side", name := "<init>", desc := "(I)V" } : Jvm.MethodName) prog_7_method_1_code (2 : Nat) (Option.none : Option Jvm.ClassFile.FieldType)) ∈ gW := gW_of (List.mem_of_getElem? (i := 133) (by decide +kernel)) rfl
theorem t_134 : (Jvm.Cond.methodLink "CardLink$Side" (3 : Nat) ({ cls := "java/lang/Object", name := "<init>", desc := "()V" } : Jvm.MethodName)) ∈ gW := gW_of (List.mem_of_getElem? (i := 134) (by decide +kernel)) rfl
theorem t_135 : (Jvm.Cond.classLink "CardLink$Side" (33 : Nat) "CardLink$Row") ∈ gW := gW_of (List.mem_of_getElem? (i := 135) (by decide +kernel)) rfl
theorem t_136 : (Jvm.Cond.methodLink "CardLink$Side" (35 : Nat) ({ cls := "CardLink$Row", name := "<init>", desc := "(II)V" } : Jvm.MethodName)) ∈ gW := gW_of (List.mem_of_getElem? (i := 136) (by decide +kernel)) rfl
theorem t_137 : (Jvm.Cond.fieldLink "CardLink$Side" (61 : Nat) "CardLink$Side" "number" "I") ∈ gW := gW_of (List.mem_of_getElem? (i := 137) (by decide +kernel)) rfl
theorem t_138 : (Jvm.Cond.fieldLink "CardLink$Line" (267 : Nat) "CardLink$Side" "number" "I") ∈ gW := gW_of (List.mem_of_getElem? (i := 138) (by decide +kernel)) rfl
theorem t_139 : (Jvm.Cond.fieldLink "CardLink$Side" (9 : Nat) "CardLink$Side" "next" "I") ∈ gW := gW_of (List.mem_of_getElem? (i := 139) (by decide +kernel)) rfl
theorem t_140 : (Jvm.Cond.fieldLink "CardLink$Line" (226 : Nat) "CardLink$Side" "next" "I") ∈ gW := gW_of (List.mem_of_getElem? (i := 140) (by decide +kernel)) rfl
theorem t_141 : (Jvm.Cond.fieldLink "CardLink$Side" (15 : Nat) "CardLink$Side" "wanted" "I") ∈ gW := gW_of (List.mem_of_getElem? (i := 141) (by decide +kernel)) rfl
theorem t_142 : (Jvm.Cond.fieldLink "CardLink$Line" (204 : Nat) "CardLink$Side" "wanted" "I") ∈ gW := gW_of (List.mem_of_getElem? (i := 142) (by decide +kernel)) rfl
theorem t_143 : (Jvm.Cond.fieldLink "CardLink$Side" (18 : Nat) "CardLink$Side" "room" "I") ∈ gW := gW_of (List.mem_of_getElem? (i := 143) (by decide +kernel)) rfl
theorem t_144 : (Jvm.Cond.fieldLink "CardLink$Line" (115 : Nat) "CardLink$Side" "room" "I") ∈ gW := gW_of (List.mem_of_getElem? (i := 144) (by decide +kernel)) rfl
theorem t_145 : (Jvm.Cond.fieldLink "CardLink$Side" (21 : Nat) "CardLink$Side" "through" "I") ∈ gW := gW_of (List.mem_of_getElem? (i := 145) (by decide +kernel)) rfl
theorem t_146 : (Jvm.Cond.fieldLink "CardLink$Line" (105 : Nat) "CardLink$Side" "through" "I") ∈ gW := gW_of (List.mem_of_getElem? (i := 146) (by decide +kernel)) rfl
theorem t_147 : (Jvm.Cond.fieldLink "CardLink$Side" (24 : Nat) "CardLink$Side" "asked" "I") ∈ gW := gW_of (List.mem_of_getElem? (i := 147) (by decide +kernel)) rfl
theorem t_148 : (Jvm.Cond.fieldLink "CardLink$Line" (149 : Nat) "CardLink$Side" "asked" "I") ∈ gW := gW_of (List.mem_of_getElem? (i := 148) (by decide +kernel)) rfl
theorem t_149 : (Jvm.Cond.fieldLink "CardLink$Side" (27 : Nat) "CardLink$Side" "askedInf" "I") ∈ gW := gW_of (List.mem_of_getElem? (i := 149) (by decide +kernel)) rfl
theorem t_150 : (Jvm.Cond.fieldLink "CardLink$Line" (194 : Nat) "CardLink$Side" "askedInf" "I") ∈ gW := gW_of (List.mem_of_getElem? (i := 150) (by decide +kernel)) rfl
theorem t_151 : (Jvm.Cond.fieldLink "CardLink$Side" (30 : Nat) "CardLink$Side" "messages" "I") ∈ gW := gW_of (List.mem_of_getElem? (i := 151) (by decide +kernel)) rfl
theorem t_152 : (Jvm.Cond.fieldLink "CardLink" (153 : Nat) "CardLink$Side" "messages" "I") ∈ gW := gW_of (List.mem_of_getElem? (i := 152) (by decide +kernel)) rfl
theorem t_153 : (Jvm.Cond.fieldLink "CardLink$Side" (38 : Nat) "CardLink$Side" "out" "LCardLink$Row;") ∈ gW := gW_of (List.mem_of_getElem? (i := 153) (by decide +kernel)) rfl
theorem t_154 : (Jvm.Cond.fieldLink "CardLink$Line" (102 : Nat) "CardLink$Side" "out" "LCardLink$Row;") ∈ gW := gW_of (List.mem_of_getElem? (i := 154) (by decide +kernel)) rfl
theorem t_155 : (Jvm.Cond.fieldLink "CardLink$Side" (42 : Nat) "CardLink$Side" "got" "LCardLink$Row;") ∈ gW := gW_of (List.mem_of_getElem? (i := 155) (by decide +kernel)) rfl
theorem t_156 : (Jvm.Cond.fieldLink "CardLink" (156 : Nat) "CardLink$Side" "got" "LCardLink$Row;") ∈ gW := gW_of (List.mem_of_getElem? (i := 156) (by decide +kernel)) rfl
theorem t_157 : (Jvm.Cond.fieldLink "CardLink$Line" (235 : Nat) "CardLink$Side" "got" "LCardLink$Row;") ∈ gW := gW_of (List.mem_of_getElem? (i := 157) (by decide +kernel)) rfl
theorem t_158 : (Jvm.Cond.fieldLink "CardLink$Side" (45 : Nat) "CardLink$Side" "in" "LCardLink$Row;") ∈ gW := gW_of (List.mem_of_getElem? (i := 158) (by decide +kernel)) rfl
theorem t_159 : (Jvm.Cond.fieldLink "CardLink$Side" (48 : Nat) "CardLink$Side" "pending" "I") ∈ gW := gW_of (List.mem_of_getElem? (i := 159) (by decide +kernel)) rfl
theorem t_160 : (Jvm.Cond.fieldLink "CardLink$Side" (51 : Nat) "CardLink$Side" "pendingMore" "Z") ∈ gW := gW_of (List.mem_of_getElem? (i := 160) (by decide +kernel)) rfl
theorem t_161 : (Jvm.Cond.fieldLink "CardLink$Side" (55 : Nat) "CardLink$Side" "latestKind" "I") ∈ gW := gW_of (List.mem_of_getElem? (i := 161) (by decide +kernel)) rfl
theorem t_162 : (Jvm.Cond.fieldLink "CardLink$Side" (58 : Nat) "CardLink$Side" "sent" "I") ∈ gW := gW_of (List.mem_of_getElem? (i := 162) (by decide +kernel)) rfl
theorem t_194 : (Jvm.Cond.classLink "CardLink$Line" (23 : Nat) "CardLink$Wire") ∈ gW := gW_of (List.mem_of_getElem? (i := 194) (by decide +kernel)) rfl
theorem t_195 : (Jvm.Cond.instantiable "CardLink$Wire" (10 : Nat)) ∈ gW := gW_of (List.mem_of_getElem? (i := 195) (by decide +kernel)) rfl
theorem t_197 : (Jvm.Cond.instanceMethod ({ cls := "CardLink$Wire", name := "<init>", desc := "()V" } : Jvm.MethodName)) ∈ gW := gW_of (List.mem_of_getElem? (i := 197) (by decide +kernel)) rfl
theorem t_198 : (Jvm.Cond.code ({ cls := "CardLink$Wire", name := "<init>", desc := "()V" } : Jvm.MethodName) prog_8_method_1_code (1 : Nat) (Option.none : Option Jvm.ClassFile.FieldType)) ∈ gW := gW_of (List.mem_of_getElem? (i := 198) (by decide +kernel)) rfl
theorem t_199 : (Jvm.Cond.methodLink "CardLink$Wire" (3 : Nat) ({ cls := "java/lang/Object", name := "<init>", desc := "()V" } : Jvm.MethodName)) ∈ gW := gW_of (List.mem_of_getElem? (i := 199) (by decide +kernel)) rfl
theorem t_200 : (Jvm.Cond.fieldLink "CardLink$Wire" (9 : Nat) "CardLink$Wire" "repeats" "I") ∈ gW := gW_of (List.mem_of_getElem? (i := 200) (by decide +kernel)) rfl
theorem t_201 : (Jvm.Cond.fieldLink "CardLink" (130 : Nat) "CardLink$Wire" "repeats" "I") ∈ gW := gW_of (List.mem_of_getElem? (i := 201) (by decide +kernel)) rfl
theorem t_202 : (Jvm.Cond.fieldLink "CardLink$Wire" (15 : Nat) "CardLink$Wire" "letters" "I") ∈ gW := gW_of (List.mem_of_getElem? (i := 202) (by decide +kernel)) rfl
theorem t_203 : (Jvm.Cond.fieldLink "CardLink" (181 : Nat) "CardLink$Wire" "letters" "I") ∈ gW := gW_of (List.mem_of_getElem? (i := 203) (by decide +kernel)) rfl
theorem t_204 : (Jvm.Cond.fieldLink "CardLink$Line" (257 : Nat) "CardLink$Wire" "letters" "I") ∈ gW := gW_of (List.mem_of_getElem? (i := 204) (by decide +kernel)) rfl
theorem t_205 : (Jvm.Cond.fieldLink "CardLink$Wire" (18 : Nat) "CardLink$Wire" "lettersAgain" "I") ∈ gW := gW_of (List.mem_of_getElem? (i := 205) (by decide +kernel)) rfl
theorem t_206 : (Jvm.Cond.fieldLink "CardLink" (194 : Nat) "CardLink$Wire" "lettersAgain" "I") ∈ gW := gW_of (List.mem_of_getElem? (i := 206) (by decide +kernel)) rfl
theorem t_207 : (Jvm.Cond.fieldLink "CardLink$Wire" (21 : Nat) "CardLink$Wire" "faultLetters" "[I") ∈ gW := gW_of (List.mem_of_getElem? (i := 207) (by decide +kernel)) rfl
theorem t_208 : (Jvm.Cond.fieldLink "CardLink$Wire" (25 : Nat) "CardLink$Wire" "faultKinds" "[I") ∈ gW := gW_of (List.mem_of_getElem? (i := 208) (by decide +kernel)) rfl
theorem t_209 : (Jvm.Cond.fieldLink "CardLink$Wire" (28 : Nat) "CardLink$Wire" "faultBits" "[I") ∈ gW := gW_of (List.mem_of_getElem? (i := 209) (by decide +kernel)) rfl
theorem t_210 : (Jvm.Cond.fieldLink "CardLink$Wire" (31 : Nat) "CardLink$Wire" "faults" "I") ∈ gW := gW_of (List.mem_of_getElem? (i := 210) (by decide +kernel)) rfl
theorem t_211 : (Jvm.Cond.fieldLink "CardLink$Wire" (34 : Nat) "CardLink$Wire" "probeLetter" "I") ∈ gW := gW_of (List.mem_of_getElem? (i := 211) (by decide +kernel)) rfl
theorem t_212 : (Jvm.Cond.fieldLink "CardLink$Wire" (37 : Nat) "CardLink$Wire" "probeKind" "I") ∈ gW := gW_of (List.mem_of_getElem? (i := 212) (by decide +kernel)) rfl
theorem t_213 : (Jvm.Cond.fieldLink "CardLink$Wire" (40 : Nat) "CardLink$Wire" "bitsNow" "I") ∈ gW := gW_of (List.mem_of_getElem? (i := 213) (by decide +kernel)) rfl
theorem t_235 : (Jvm.Cond.classLink "CardLink$Line" (46 : Nat) "CardLink$Row") ∈ gW := gW_of (List.mem_of_getElem? (i := 235) (by decide +kernel)) rfl
theorem t_236 : (Jvm.Cond.methodLink "CardLink$Line" (48 : Nat) ({ cls := "CardLink$Row", name := "<init>", desc := "(II)V" } : Jvm.MethodName)) ∈ gW := gW_of (List.mem_of_getElem? (i := 236) (by decide +kernel)) rfl
theorem t_237 : (Jvm.Cond.fieldLink "CardLink$Line" (14 : Nat) "CardLink$Line" "reader" "LCardLink$Side;") ∈ gW := gW_of (List.mem_of_getElem? (i := 237) (by decide +kernel)) rfl
theorem t_238 : (Jvm.Cond.fieldLink "CardLink" (146 : Nat) "CardLink$Line" "reader" "LCardLink$Side;") ∈ gW := gW_of (List.mem_of_getElem? (i := 238) (by decide +kernel)) rfl
theorem t_239 : (Jvm.Cond.fieldLink "CardLink$Line" (20 : Nat) "CardLink$Line" "card" "LCardLink$Side;") ∈ gW := gW_of (List.mem_of_getElem? (i := 239) (by decide +kernel)) rfl
theorem t_240 : (Jvm.Cond.fieldLink "CardLink" (150 : Nat) "CardLink$Line" "card" "LCardLink$Side;") ∈ gW := gW_of (List.mem_of_getElem? (i := 240) (by decide +kernel)) rfl
theorem t_241 : (Jvm.Cond.fieldLink "CardLink$Line" (26 : Nat) "CardLink$Line" "wire" "LCardLink$Wire;") ∈ gW := gW_of (List.mem_of_getElem? (i := 241) (by decide +kernel)) rfl
theorem t_242 : (Jvm.Cond.fieldLink "CardLink" (114 : Nat) "CardLink$Line" "wire" "LCardLink$Wire;") ∈ gW := gW_of (List.mem_of_getElem? (i := 242) (by decide +kernel)) rfl
theorem t_243 : (Jvm.Cond.fieldLink "CardLink$Line" (30 : Nat) "CardLink$Line" "state" "I") ∈ gW := gW_of (List.mem_of_getElem? (i := 243) (by decide +kernel)) rfl
theorem t_244 : (Jvm.Cond.fieldLink "CardLink" (110 : Nat) "CardLink$Line" "state" "I") ∈ gW := gW_of (List.mem_of_getElem? (i := 244) (by decide +kernel)) rfl
theorem t_245 : (Jvm.Cond.fieldLink "CardLink$Line" (34 : Nat) "CardLink$Line" "tries" "I") ∈ gW := gW_of (List.mem_of_getElem? (i := 245) (by decide +kernel)) rfl
theorem t_246 : (Jvm.Cond.fieldLink "CardLink" (197 : Nat) "CardLink$Line" "tries" "I") ∈ gW := gW_of (List.mem_of_getElem? (i := 246) (by decide +kernel)) rfl
theorem t_247 : (Jvm.Cond.fieldLink "CardLink$Line" (37 : Nat) "CardLink$Line" "waitsEnded" "I") ∈ gW := gW_of (List.mem_of_getElem? (i := 247) (by decide +kernel)) rfl
theorem t_248 : (Jvm.Cond.fieldLink "CardLink" (203 : Nat) "CardLink$Line" "waitsEnded" "I") ∈ gW := gW_of (List.mem_of_getElem? (i := 248) (by decide +kernel)) rfl
theorem t_249 : (Jvm.Cond.fieldLink "CardLink$Line" (40 : Nat) "CardLink$Line" "timesDone" "I") ∈ gW := gW_of (List.mem_of_getElem? (i := 249) (by decide +kernel)) rfl
theorem t_250 : (Jvm.Cond.fieldLink "CardLink" (206 : Nat) "CardLink$Line" "timesDone" "I") ∈ gW := gW_of (List.mem_of_getElem? (i := 250) (by decide +kernel)) rfl
theorem t_251 : (Jvm.Cond.fieldLink "CardLink$Line" (43 : Nat) "CardLink$Line" "timesGivenUp" "I") ∈ gW := gW_of (List.mem_of_getElem? (i := 251) (by decide +kernel)) rfl
theorem t_252 : (Jvm.Cond.fieldLink "CardLink" (209 : Nat) "CardLink$Line" "timesGivenUp" "I") ∈ gW := gW_of (List.mem_of_getElem? (i := 252) (by decide +kernel)) rfl
theorem t_253 : (Jvm.Cond.fieldLink "CardLink$Line" (51 : Nat) "CardLink$Line" "block" "LCardLink$Row;") ∈ gW := gW_of (List.mem_of_getElem? (i := 253) (by decide +kernel)) rfl
theorem t_254 : (Jvm.Cond.fieldLink "CardLink$Line" (55 : Nat) "CardLink$Line" "came" "LCardLink$Row;") ∈ gW := gW_of (List.mem_of_getElem? (i := 254) (by decide +kernel)) rfl
theorem t_255 : (Jvm.Cond.fieldLink "CardLink$Line" (80 : Nat) "CardLink$Line" "journal" "LCardLink$Journal;") ∈ gW := gW_of (List.mem_of_getElem? (i := 255) (by decide +kernel)) rfl
theorem t_256 : (Jvm.Cond.fieldLink "CardLink$Line" (58 : Nat) "CardLink$Line" "outcome" "I") ∈ gW := gW_of (List.mem_of_getElem? (i := 256) (by decide +kernel)) rfl
theorem t_257 : (Jvm.Cond.fieldLink "CardLink$Line" (61 : Nat) "CardLink$Line" "firstTurn" "Z") ∈ gW := gW_of (List.mem_of_getElem? (i := 257) (by decide +kernel)) rfl
theorem t_258 : (Jvm.Cond.fieldLink "CardLink$Line" (65 : Nat) "CardLink$Line" "roomWish" "I") ∈ gW := gW_of (List.mem_of_getElem? (i := 258) (by decide +kernel)) rfl
theorem t_259 : (Jvm.Cond.fieldLink "CardLink$Line" (68 : Nat) "CardLink$Line" "stuck" "Z") ∈ gW := gW_of (List.mem_of_getElem? (i := 259) (by decide +kernel)) rfl
theorem t_260 : (Jvm.Cond.fieldLink "CardLink$Line" (71 : Nat) "CardLink$Line" "toldAbort" "Z") ∈ gW := gW_of (List.mem_of_getElem? (i := 260) (by decide +kernel)) rfl
theorem t_261 : (Jvm.Cond.fieldLink "CardLink$Line" (74 : Nat) "CardLink$Line" "waitsLeft" "I") ∈ gW := gW_of (List.mem_of_getElem? (i := 261) (by decide +kernel)) rfl
theorem t_262 : (Jvm.Cond.fieldLink "CardLink$Line" (77 : Nat) "CardLink$Line" "silentTurns" "I") ∈ gW := gW_of (List.mem_of_getElem? (i := 262) (by decide +kernel)) rfl
theorem t_300 : (Jvm.Cond.classLink "CardLink" (34 : Nat) "CardLink$Forecast") ∈ gW := gW_of (List.mem_of_getElem? (i := 300) (by decide +kernel)) rfl
theorem t_301 : (Jvm.Cond.instantiable "CardLink$Forecast" (7 : Nat)) ∈ gW := gW_of (List.mem_of_getElem? (i := 301) (by decide +kernel)) rfl
theorem t_303 : (Jvm.Cond.instanceMethod ({ cls := "CardLink$Forecast", name := "<init>", desc := "()V" } : Jvm.MethodName)) ∈ gW := gW_of (List.mem_of_getElem? (i := 303) (by decide +kernel)) rfl
theorem t_304 : (Jvm.Cond.code ({ cls := "CardLink$Forecast", name := "<init>", desc := "()V" } : Jvm.MethodName) prog_2_method_1_code (1 : Nat) (Option.none : Option Jvm.ClassFile.FieldType)) ∈ gW := gW_of (List.mem_of_getElem? (i := 304) (by decide +kernel)) rfl
theorem t_305 : (Jvm.Cond.methodLink "CardLink$Forecast" (3 : Nat) ({ cls := "java/lang/Object", name := "<init>", desc := "()V" } : Jvm.MethodName)) ∈ gW := gW_of (List.mem_of_getElem? (i := 305) (by decide +kernel)) rfl
theorem t_306 : (Jvm.Cond.classLink "CardLink$Forecast" (9 : Nat) "CardLink$Line") ∈ gW := gW_of (List.mem_of_getElem? (i := 306) (by decide +kernel)) rfl
theorem t_307 : (Jvm.Cond.methodLink "CardLink$Forecast" (11 : Nat) ({ cls := "CardLink$Line", name := "<init>", desc := "(LCardLink$Journal;)V" } : Jvm.MethodName)) ∈ gW := gW_of (List.mem_of_getElem? (i := 307) (by decide +kernel)) rfl
theorem t_308 : (Jvm.Cond.fieldLink "CardLink$Forecast" (14 : Nat) "CardLink$Forecast" "outlook" "LCardLink$Line;") ∈ gW := gW_of (List.mem_of_getElem? (i := 308) (by decide +kernel)) rfl
theorem t_309 : (Jvm.Cond.fieldLink "CardLink$Forecast" (20 : Nat) "CardLink$Forecast" "walk" "LCardLink$Line;") ∈ gW := gW_of (List.mem_of_getElem? (i := 309) (by decide +kernel)) rfl
theorem t_310 : (Jvm.Cond.fieldLink "CardLink$Forecast" (23 : Nat) "CardLink$Forecast" "fork" "LCardLink$Line;") ∈ gW := gW_of (List.mem_of_getElem? (i := 310) (by decide +kernel)) rfl
theorem t_311 : (Jvm.Cond.fieldLink "CardLink$Forecast" (26 : Nat) "CardLink$Forecast" "outlookKnown" "Z") ∈ gW := gW_of (List.mem_of_getElem? (i := 311) (by decide +kernel)) rfl
theorem t_312 : (Jvm.Cond.fieldLink "CardLink$Forecast" (30 : Nat) "CardLink$Forecast" "tried" "[I") ∈ gW := gW_of (List.mem_of_getElem? (i := 312) (by decide +kernel)) rfl
theorem t_313 : (Jvm.Cond.fieldLink "CardLink$Forecast" (34 : Nat) "CardLink$Forecast" "harmful" "[I") ∈ gW := gW_of (List.mem_of_getElem? (i := 313) (by decide +kernel)) rfl
theorem t_314 : (Jvm.Cond.fieldLink "CardLink$Forecast" (37 : Nat) "CardLink$Forecast" "firsts" "[I") ∈ gW := gW_of (List.mem_of_getElem? (i := 314) (by decide +kernel)) rfl
theorem t_330 : (Jvm.Cond.classLink "CardLink" (41 : Nat) "CardLink$ResetAnswer") ∈ gW := gW_of (List.mem_of_getElem? (i := 330) (by decide +kernel)) rfl
theorem t_331 : (Jvm.Cond.instantiable "CardLink$ResetAnswer" (11 : Nat)) ∈ gW := gW_of (List.mem_of_getElem? (i := 331) (by decide +kernel)) rfl
theorem t_333 : (Jvm.Cond.instanceMethod ({ cls := "CardLink$ResetAnswer", name := "<init>", desc := "()V" } : Jvm.MethodName)) ∈ gW := gW_of (List.mem_of_getElem? (i := 333) (by decide +kernel)) rfl
theorem t_334 : (Jvm.Cond.code ({ cls := "CardLink$ResetAnswer", name := "<init>", desc := "()V" } : Jvm.MethodName) prog_5_method_1_code (1 : Nat) (Option.none : Option Jvm.ClassFile.FieldType)) ∈ gW := gW_of (List.mem_of_getElem? (i := 334) (by decide +kernel)) rfl
theorem t_335 : (Jvm.Cond.methodLink "CardLink$ResetAnswer" (3 : Nat) ({ cls := "java/lang/Object", name := "<init>", desc := "()V" } : Jvm.MethodName)) ∈ gW := gW_of (List.mem_of_getElem? (i := 335) (by decide +kernel)) rfl
theorem t_336 : (Jvm.Cond.classLink "CardLink$ResetAnswer" (9 : Nat) "CardLink$Row") ∈ gW := gW_of (List.mem_of_getElem? (i := 336) (by decide +kernel)) rfl
theorem t_337 : (Jvm.Cond.methodLink "CardLink$ResetAnswer" (11 : Nat) ({ cls := "CardLink$Row", name := "<init>", desc := "(II)V" } : Jvm.MethodName)) ∈ gW := gW_of (List.mem_of_getElem? (i := 337) (by decide +kernel)) rfl
theorem t_338 : (Jvm.Cond.fieldLink "CardLink$ResetAnswer" (73 : Nat) "CardLink$ResetAnswer" "ts" "I") ∈ gW := gW_of (List.mem_of_getElem? (i := 338) (by decide +kernel)) rfl
theorem t_339 : (Jvm.Cond.fieldLink "CardLink$ResetAnswer" (38 : Nat) "CardLink$ResetAnswer" "factor" "I") ∈ gW := gW_of (List.mem_of_getElem? (i := 339) (by decide +kernel)) rfl
theorem t_340 : (Jvm.Cond.fieldLink "CardLink$ResetAnswer" (42 : Nat) "CardLink$ResetAnswer" "guard" "I") ∈ gW := gW_of (List.mem_of_getElem? (i := 340) (by decide +kernel)) rfl
theorem t_341 : (Jvm.Cond.fieldLink "CardLink$ResetAnswer" (45 : Nat) "CardLink$ResetAnswer" "protocol" "I") ∈ gW := gW_of (List.mem_of_getElem? (i := 341) (by decide +kernel)) rfl
theorem t_342 : (Jvm.Cond.fieldLink "CardLink$ResetAnswer" (48 : Nat) "CardLink$ResetAnswer" "groups" "I") ∈ gW := gW_of (List.mem_of_getElem? (i := 342) (by decide +kernel)) rfl
theorem t_343 : (Jvm.Cond.fieldLink "CardLink$ResetAnswer" (51 : Nat) "CardLink$ResetAnswer" "room" "I") ∈ gW := gW_of (List.mem_of_getElem? (i := 343) (by decide +kernel)) rfl
theorem t_344 : (Jvm.Cond.fieldLink "CardLink$ResetAnswer" (54 : Nat) "CardLink$ResetAnswer" "checked" "Z") ∈ gW := gW_of (List.mem_of_getElem? (i := 344) (by decide +kernel)) rfl
theorem t_345 : (Jvm.Cond.fieldLink "CardLink$ResetAnswer" (14 : Nat) "CardLink$ResetAnswer" "historical" "LCardLink$Row;") ∈ gW := gW_of (List.mem_of_getElem? (i := 345) (by decide +kernel)) rfl
theorem t_346 : (Jvm.Cond.fieldLink "CardLink$ResetAnswer" (79 : Nat) "CardLink$ResetAnswer" "place" "I") ∈ gW := gW_of (List.mem_of_getElem? (i := 346) (by decide +kernel)) rfl
theorem t_347 : (Jvm.Cond.fieldLink "CardLink$ResetAnswer" (76 : Nat) "CardLink$ResetAnswer" "told" "I") ∈ gW := gW_of (List.mem_of_getElem? (i := 347) (by decide +kernel)) rfl
theorem t_348 : (Jvm.Cond.fieldLink "CardLink$ResetAnswer" (62 : Nat) "CardLink$ResetAnswer" "linkGroup" "I") ∈ gW := gW_of (List.mem_of_getElem? (i := 348) (by decide +kernel)) rfl
theorem t_372 : (Jvm.Cond.fieldLink "CardLink" (14 : Nat) "CardLink" "tape" "LCardLink$Row;") ∈ gW := gW_of (List.mem_of_getElem? (i := 372) (by decide +kernel)) rfl
theorem t_373 : (Jvm.Cond.fieldLink "CardLink" (21 : Nat) "CardLink" "journal" "LCardLink$Journal;") ∈ gW := gW_of (List.mem_of_getElem? (i := 373) (by decide +kernel)) rfl
theorem t_374 : (Jvm.Cond.fieldLink "CardLink" (30 : Nat) "CardLink" "line" "LCardLink$Line;") ∈ gW := gW_of (List.mem_of_getElem? (i := 374) (by decide +kernel)) rfl
theorem t_375 : (Jvm.Cond.fieldLink "CardLink" (37 : Nat) "CardLink" "forecast" "LCardLink$Forecast;") ∈ gW := gW_of (List.mem_of_getElem? (i := 375) (by decide +kernel)) rfl
theorem t_376 : (Jvm.Cond.fieldLink "CardLink" (44 : Nat) "CardLink" "inForce" "LCardLink$ResetAnswer;") ∈ gW := gW_of (List.mem_of_getElem? (i := 376) (by decide +kernel)) rfl
theorem t_377 : (Jvm.Cond.fieldLink "CardLink" (48 : Nat) "CardLink" "spare" "LCardLink$ResetAnswer;") ∈ gW := gW_of (List.mem_of_getElem? (i := 377) (by decide +kernel)) rfl
theorem t_378 : (Jvm.Cond.fieldLink "CardLink" (51 : Nat) "CardLink" "cardIn" "Z") ∈ gW := gW_of (List.mem_of_getElem? (i := 378) (by decide +kernel)) rfl
theorem t_394 : (Jvm.Cond.methodLink "CardLinkLaw" (59 : Nat) ({ cls := "CardLink", name := "reset", desc := "()I" } : Jvm.MethodName)) ∈ gW := gW_of (List.mem_of_getElem? (i := 394) (by decide +kernel)) rfl
theorem t_395 : (Jvm.Cond.instanceMethod ({ cls := "CardLink", name := "reset", desc := "()I" } : Jvm.MethodName)) ∈ gW := gW_of (List.mem_of_getElem? (i := 395) (by decide +kernel)) rfl
theorem t_396 : (Jvm.Cond.selects "CardLink" ({ cls := "CardLink", name := "reset", desc := "()I" } : Jvm.MethodName) ({ cls := "CardLink", name := "reset", desc := "()I" } : Jvm.MethodName)) ∈ gW := gW_of (List.mem_of_getElem? (i := 396) (by decide +kernel)) rfl
theorem t_397 : (Jvm.Cond.code ({ cls := "CardLink", name := "reset", desc := "()I" } : Jvm.MethodName) prog_1_method_5_code (3 : Nat) (Option.some Jvm.ClassFile.FieldType.int)) ∈ gW := gW_of (List.mem_of_getElem? (i := 397) (by decide +kernel)) rfl
theorem t_398 : (Jvm.Cond.methodLink "CardLink" (70 : Nat) ({ cls := "CardLink$ResetAnswer", name := "read", desc := "(LCardLink$Row;)I" } : Jvm.MethodName)) ∈ gW := gW_of (List.mem_of_getElem? (i := 398) (by decide +kernel)) rfl
theorem t_399 : (Jvm.Cond.instanceMethod ({ cls := "CardLink$ResetAnswer", name := "read", desc := "(LCardLink$Row;)I" } : Jvm.MethodName)) ∈ gW := gW_of (List.mem_of_getElem? (i := 399) (by decide +kernel)) rfl
theorem t_400 : (Jvm.Cond.selects "CardLink$ResetAnswer" ({ cls := "CardLink$ResetAnswer", name := "read", desc := "(LCardLink$Row;)I" } : Jvm.MethodName) ({ cls := "CardLink$ResetAnswer", name := "read", desc := "(LCardLink$Row;)I" } : Jvm.MethodName)) ∈ gW := gW_of (List.mem_of_getElem? (i := 400) (by decide +kernel)) rfl
theorem t_401 : (Jvm.Cond.code ({ cls := "CardLink$ResetAnswer", name := "read", desc := "(LCardLink$Row;)I" } : Jvm.MethodName) prog_5_method_2_code (3 : Nat) (Option.some Jvm.ClassFile.FieldType.int)) ∈ gW := gW_of (List.mem_of_getElem? (i := 401) (by decide +kernel)) rfl
theorem t_402 : (Jvm.Cond.methodLink "CardLink$ResetAnswer" (20 : Nat) ({ cls := "CardLink$ResetAnswer", name := "clear", desc := "()V" } : Jvm.MethodName)) ∈ gW := gW_of (List.mem_of_getElem? (i := 402) (by decide +kernel)) rfl
theorem t_404 : (Jvm.Cond.instanceMethod ({ cls := "CardLink$ResetAnswer", name := "clear", desc := "()V" } : Jvm.MethodName)) ∈ gW := gW_of (List.mem_of_getElem? (i := 404) (by decide +kernel)) rfl
theorem t_405 : (Jvm.Cond.code ({ cls := "CardLink$ResetAnswer", name := "clear", desc := "()V" } : Jvm.MethodName) prog_5_method_3_code (1 : Nat) (Option.none : Option Jvm.ClassFile.FieldType)) ∈ gW := gW_of (List.mem_of_getElem? (i := 405) (by decide +kernel)) rfl
theorem t_406 : (Jvm.Cond.methodLink "CardLink$ResetAnswer" (58 : Nat) ({ cls := "CardLink$Row", name := "keep", desc := "(I)V" } : Jvm.MethodName)) ∈ gW := gW_of (List.mem_of_getElem? (i := 406) (by decide +kernel)) rfl
theorem t_407 : (Jvm.Cond.instanceMethod ({ cls := "CardLink$Row", name := "keep", desc := "(I)V" } : Jvm.MethodName)) ∈ gW := gW_of (List.mem_of_getElem? (i := 407) (by decide +kernel)) rfl
theorem t_408 : (Jvm.Cond.selects "CardLink$Row" ({ cls := "CardLink$Row", name := "keep", desc := "(I)V" } : Jvm.MethodName) ({ cls := "CardLink$Row", name := "keep", desc := "(I)V" } : Jvm.MethodName)) ∈ gW := gW_of (List.mem_of_getElem? (i := 408) (by decide +kernel)) rfl
theorem t_409 : (Jvm.Cond.code ({ cls := "CardLink$Row", name := "keep", desc := "(I)V" } : Jvm.MethodName) prog_6_method_6_code (2 : Nat) (Option.none : Option Jvm.ClassFile.FieldType)) ∈ gW := gW_of (List.mem_of_getElem? (i := 409) (by decide +kernel)) rfl
theorem t_410 : (Jvm.Cond.methodLink "CardLink$Row" (26 : Nat) ({ cls := "java/lang/Math", name := "min", desc := "(II)I" } : Jvm.MethodName)) ∈ gW := gW_of (List.mem_of_getElem? (i := 410) (by decide +kernel)) rfl
theorem t_411 : (Jvm.Cond.static ({ cls := "java/lang/Math", name := "min", desc := "(II)I" } : Jvm.MethodName)) ∈ gW := gW_of (List.mem_of_getElem? (i := 411) (by decide +kernel)) rfl
theorem t_412 : (Jvm.Cond.code ({ cls := "java/lang/Math", name := "min", desc := "(II)I" } : Jvm.MethodName) prog_14_method_69_code (2 : Nat) (Option.some Jvm.ClassFile.FieldType.int)) ∈ gW := gW_of (List.mem_of_getElem? (i := 412) (by decide +kernel)) rfl
theorem t_413 : (Jvm.Cond.methodLink "CardLink$ResetAnswer" (23 : Nat) ({ cls := "CardLink$ResetAnswer", name := "readHead", desc := "(LCardLink$Row;)I" } : Jvm.MethodName)) ∈ gW := gW_of (List.mem_of_getElem? (i := 413) (by decide +kernel)) rfl
theorem t_415 : (Jvm.Cond.instanceMethod ({ cls := "CardLink$ResetAnswer", name := "readHead", desc := "(LCardLink$Row;)I" } : Jvm.MethodName)) ∈ gW := gW_of (List.mem_of_getElem? (i := 415) (by decide +kernel)) rfl
theorem t_416 : (Jvm.Cond.code ({ cls := "CardLink$ResetAnswer", name := "readHead", desc := "(LCardLink$Row;)I" } : Jvm.MethodName) prog_5_method_5_code (2 : Nat) (Option.some Jvm.ClassFile.FieldType.int)) ∈ gW := gW_of (List.mem_of_getElem? (i := 416) (by decide +kernel)) rfl
theorem t_417 : (Jvm.Cond.methodLink "CardLink$ResetAnswer" (65 : Nat) ({ cls := "CardLink$Row", name := "size", desc := "()I" } : Jvm.MethodName)) ∈ gW := gW_of (List.mem_of_getElem? (i := 417) (by decide +kernel)) rfl
theorem t_418 : (Jvm.Cond.instanceMethod ({ cls := "CardLink$Row", name := "size", desc := "()I" } : Jvm.MethodName)) ∈ gW := gW_of (List.mem_of_getElem? (i := 418) (by decide +kernel)) rfl
theorem t_419 : (Jvm.Cond.selects "CardLink$Row" ({ cls := "CardLink$Row", name := "size", desc := "()I" } : Jvm.MethodName) ({ cls := "CardLink$Row", name := "size", desc := "()I" } : Jvm.MethodName)) ∈ gW := gW_of (List.mem_of_getElem? (i := 419) (by decide +kernel)) rfl
theorem t_420 : (Jvm.Cond.code ({ cls := "CardLink$Row", name := "size", desc := "()I" } : Jvm.MethodName) prog_6_method_2_code (1 : Nat) (Option.some Jvm.ClassFile.FieldType.int)) ∈ gW := gW_of (List.mem_of_getElem? (i := 420) (by decide +kernel)) rfl
theorem t_421 : (Jvm.Cond.methodLink "CardLink$ResetAnswer" (69 : Nat) ({ cls := "CardLink$ResetAnswer", name := "faultAt", desc := "(II)I" } : Jvm.MethodName)) ∈ gW := gW_of (List.mem_of_getElem? (i := 421) (by decide +kernel)) rfl
theorem t_422 : (Jvm.Cond.static ({ cls := "CardLink$ResetAnswer", name := "faultAt", desc := "(II)I" } : Jvm.MethodName)) ∈ gW := gW_of (List.mem_of_getElem? (i := 422) (by decide +kernel)) rfl
theorem t_423 : (Jvm.Cond.code ({ cls := "CardLink$ResetAnswer", name := "faultAt", desc := "(II)I" } : Jvm.MethodName) prog_5_method_4_code (2 : Nat) (Option.some Jvm.ClassFile.FieldType.int)) ∈ gW := gW_of (List.mem_of_getElem? (i := 423) (by decide +kernel)) rfl
theorem t_424 : (Jvm.Cond.methodLink "CardLink$ResetAnswer" (30 : Nat) ({ cls := "CardLink$Row", name := "at", desc := "(I)I" } : Jvm.MethodName)) ∈ gW := gW_of (List.mem_of_getElem? (i := 424) (by decide +kernel)) rfl
theorem t_425 : (Jvm.Cond.instanceMethod ({ cls := "CardLink$Row", name := "at", desc := "(I)I" } : Jvm.MethodName)) ∈ gW := gW_of (List.mem_of_getElem? (i := 425) (by decide +kernel)) rfl
theorem t_426 : (Jvm.Cond.selects "CardLink$Row" ({ cls := "CardLink$Row", name := "at", desc := "(I)I" } : Jvm.MethodName) ({ cls := "CardLink$Row", name := "at", desc := "(I)I" } : Jvm.MethodName)) ∈ gW := gW_of (List.mem_of_getElem? (i := 426) (by decide +kernel)) rfl
theorem t_427 : (Jvm.Cond.code ({ cls := "CardLink$Row", name := "at", desc := "(I)I" } : Jvm.MethodName) prog_6_method_3_code (2 : Nat) (Option.some Jvm.ClassFile.FieldType.int)) ∈ gW := gW_of (List.mem_of_getElem? (i := 427) (by decide +kernel)) rfl
theorem t_428 : (Jvm.Cond.methodLink "CardLink$ResetAnswer" (27 : Nat) ({ cls := "CardLink$ResetAnswer", name := "readGroups", desc := "(LCardLink$Row;)I" } : Jvm.MethodName)) ∈ gW := gW_of (List.mem_of_getElem? (i := 428) (by decide +kernel)) rfl
theorem t_430 : (Jvm.Cond.instanceMethod ({ cls := "CardLink$ResetAnswer", name := "readGroups", desc := "(LCardLink$Row;)I" } : Jvm.MethodName)) ∈ gW := gW_of (List.mem_of_getElem? (i := 430) (by decide +kernel)) rfl
theorem t_431 : (Jvm.Cond.code ({ cls := "CardLink$ResetAnswer", name := "readGroups", desc := "(LCardLink$Row;)I" } : Jvm.MethodName) prog_5_method_6_code (6 : Nat) (Option.some Jvm.ClassFile.FieldType.int)) ∈ gW := gW_of (List.mem_of_getElem? (i := 431) (by decide +kernel)) rfl
theorem t_432 : (Jvm.Cond.methodLink "CardLink$ResetAnswer" (82 : Nat) ({ cls := "CardLink$ResetAnswer", name := "readGroupByte", desc := "(III)I" } : Jvm.MethodName)) ∈ gW := gW_of (List.mem_of_getElem? (i := 432) (by decide +kernel)) rfl
theorem t_434 : (Jvm.Cond.instanceMethod ({ cls := "CardLink$ResetAnswer", name := "readGroupByte", desc := "(III)I" } : Jvm.MethodName)) ∈ gW := gW_of (List.mem_of_getElem? (i := 434) (by decide +kernel)) rfl
theorem t_435 : (Jvm.Cond.code ({ cls := "CardLink$ResetAnswer", name := "readGroupByte", desc := "(III)I" } : Jvm.MethodName) prog_5_method_7_code (4 : Nat) (Option.some Jvm.ClassFile.FieldType.int)) ∈ gW := gW_of (List.mem_of_getElem? (i := 435) (by decide +kernel)) rfl
theorem t_436 : (Jvm.Cond.methodLink "CardLink$ResetAnswer" (86 : Nat) ({ cls := "CardLink$ResetAnswer", name := "readTd", desc := "(II)I" } : Jvm.MethodName)) ∈ gW := gW_of (List.mem_of_getElem? (i := 436) (by decide +kernel)) rfl
theorem t_438 : (Jvm.Cond.instanceMethod ({ cls := "CardLink$ResetAnswer", name := "readTd", desc := "(II)I" } : Jvm.MethodName)) ∈ gW := gW_of (List.mem_of_getElem? (i := 438) (by decide +kernel)) rfl
theorem t_439 : (Jvm.Cond.code ({ cls := "CardLink$ResetAnswer", name := "readTd", desc := "(II)I" } : Jvm.MethodName) prog_5_method_10_code (4 : Nat) (Option.some Jvm.ClassFile.FieldType.int)) ∈ gW := gW_of (List.mem_of_getElem? (i := 439) (by decide +kernel)) rfl
theorem t_440 : (Jvm.Cond.methodLink "CardLink$ResetAnswer" (89 : Nat) ({ cls := "CardLink$ResetAnswer", name := "readFirstGroup", desc := "(II)I" } : Jvm.MethodName)) ∈ gW := gW_of (List.mem_of_getElem? (i := 440) (by decide +kernel)) rfl
theorem t_442 : (Jvm.Cond.instanceMethod ({ cls := "CardLink$ResetAnswer", name := "readFirstGroup", desc := "(II)I" } : Jvm.MethodName)) ∈ gW := gW_of (List.mem_of_getElem? (i := 442) (by decide +kernel)) rfl
theorem t_443 : (Jvm.Cond.code ({ cls := "CardLink$ResetAnswer", name := "readFirstGroup", desc := "(II)I" } : Jvm.MethodName) prog_5_method_8_code (3 : Nat) (Option.some Jvm.ClassFile.FieldType.int)) ∈ gW := gW_of (List.mem_of_getElem? (i := 443) (by decide +kernel)) rfl
theorem t_444 : (Jvm.Cond.methodLink "CardLink$ResetAnswer" (95 : Nat) ({ cls := "CardLink$ResetAnswer", name := "clockOf", desc := "(I)I" } : Jvm.MethodName)) ∈ gW := gW_of (List.mem_of_getElem? (i := 444) (by decide +kernel)) rfl
theorem t_445 : (Jvm.Cond.static ({ cls := "CardLink$ResetAnswer", name := "clockOf", desc := "(I)I" } : Jvm.MethodName)) ∈ gW := gW_of (List.mem_of_getElem? (i := 445) (by decide +kernel)) rfl
theorem t_446 : (Jvm.Cond.code ({ cls := "CardLink$ResetAnswer", name := "clockOf", desc := "(I)I" } : Jvm.MethodName) prog_5_method_12_code (2 : Nat) (Option.some Jvm.ClassFile.FieldType.int)) ∈ gW := gW_of (List.mem_of_getElem? (i := 446) (by decide +kernel)) rfl
theorem t_449 : (Jvm.Cond.methodLink "CardLink$ResetAnswer" (98 : Nat) ({ cls := "CardLink$ResetAnswer", name := "divisorOf", desc := "(I)I" } : Jvm.MethodName)) ∈ gW := gW_of (List.mem_of_getElem? (i := 449) (by decide +kernel)) rfl
theorem t_450 : (Jvm.Cond.static ({ cls := "CardLink$ResetAnswer", name := "divisorOf", desc := "(I)I" } : Jvm.MethodName)) ∈ gW := gW_of (List.mem_of_getElem? (i := 450) (by decide +kernel)) rfl
theorem t_451 : (Jvm.Cond.code ({ cls := "CardLink$ResetAnswer", name := "divisorOf", desc := "(I)I" } : Jvm.MethodName) prog_5_method_13_code (2 : Nat) (Option.some Jvm.ClassFile.FieldType.int)) ∈ gW := gW_of (List.mem_of_getElem? (i := 451) (by decide +kernel)) rfl
theorem t_454 : (Jvm.Cond.methodLink "CardLink$ResetAnswer" (92 : Nat) ({ cls := "CardLink$ResetAnswer", name := "readLinkGroup", desc := "(II)I" } : Jvm.MethodName)) ∈ gW := gW_of (List.mem_of_getElem? (i := 454) (by decide +kernel)) rfl
theorem t_456 : (Jvm.Cond.instanceMethod ({ cls := "CardLink$ResetAnswer", name := "readLinkGroup", desc := "(II)I" } : Jvm.MethodName)) ∈ gW := gW_of (List.mem_of_getElem? (i := 456) (by decide +kernel)) rfl
theorem t_457 : (Jvm.Cond.code ({ cls := "CardLink$ResetAnswer", name := "readLinkGroup", desc := "(II)I" } : Jvm.MethodName) prog_5_method_9_code (3 : Nat) (Option.some Jvm.ClassFile.FieldType.int)) ∈ gW := gW_of (List.mem_of_getElem? (i := 457) (by decide +kernel)) rfl
theorem t_458 : (Jvm.Cond.methodLink "CardLink$ResetAnswer" (34 : Nat) ({ cls := "CardLink$ResetAnswer", name := "readTail", desc := "(LCardLink$Row;I)I" } : Jvm.MethodName)) ∈ gW := gW_of (List.mem_of_getElem? (i := 458) (by decide +kernel)) rfl
theorem t_460 : (Jvm.Cond.instanceMethod ({ cls := "CardLink$ResetAnswer", name := "readTail", desc := "(LCardLink$Row;I)I" } : Jvm.MethodName)) ∈ gW := gW_of (List.mem_of_getElem? (i := 460) (by decide +kernel)) rfl
theorem t_461 : (Jvm.Cond.code ({ cls := "CardLink$ResetAnswer", name := "readTail", desc := "(LCardLink$Row;I)I" } : Jvm.MethodName) prog_5_method_11_code (5 : Nat) (Option.some Jvm.ClassFile.FieldType.int)) ∈ gW := gW_of (List.mem_of_getElem? (i := 461) (by decide +kernel)) rfl
theorem t_462 : (Jvm.Cond.methodLink "CardLink$ResetAnswer" (101 : Nat) ({ cls := "CardLink$Row", name := "add", desc := "(I)V" } : Jvm.MethodName)) ∈ gW := gW_of (List.mem_of_getElem? (i := 462) (by decide +kernel)) rfl
theorem t_463 : (Jvm.Cond.instanceMethod ({ cls := "CardLink$Row", name := "add", desc := "(I)V" } : Jvm.MethodName)) ∈ gW := gW_of (List.mem_of_getElem? (i := 463) (by decide +kernel)) rfl
theorem t_464 : (Jvm.Cond.selects "CardLink$Row" ({ cls := "CardLink$Row", name := "add", desc := "(I)V" } : Jvm.MethodName) ({ cls := "CardLink$Row", name := "add", desc := "(I)V" } : Jvm.MethodName)) ∈ gW := gW_of (List.mem_of_getElem? (i := 464) (by decide +kernel)) rfl
theorem t_465 : (Jvm.Cond.code ({ cls := "CardLink$Row", name := "add", desc := "(I)V" } : Jvm.MethodName) prog_6_method_5_code (2 : Nat) (Option.none : Option Jvm.ClassFile.FieldType)) ∈ gW := gW_of (List.mem_of_getElem? (i := 465) (by decide +kernel)) rfl
theorem t_466 : (Jvm.Cond.methodLink "CardLink$Row" (29 : Nat) ({ cls := "java/util/Arrays", name := "copyOf", desc := "([II)[I" } : Jvm.MethodName)) ∈ gW := gW_of (List.mem_of_getElem? (i := 466) (by decide +kernel)) rfl
theorem t_467 : (Jvm.Cond.static ({ cls := "java/util/Arrays", name := "copyOf", desc := "([II)[I" } : Jvm.MethodName)) ∈ gW := gW_of (List.mem_of_getElem? (i := 467) (by decide +kernel)) rfl
theorem t_468 : (Jvm.Cond.code ({ cls := "java/util/Arrays", name := "copyOf", desc := "([II)[I" } : Jvm.MethodName) prog_18_method_123_code (3 : Nat) (Option.some (Jvm.ClassFile.FieldType.array Jvm.ClassFile.FieldType.int))) ∈ gW := gW_of (List.mem_of_getElem? (i := 468) (by decide +kernel)) rfl
theorem t_469 : (Jvm.Cond.methodLink "java/util/Arrays" (316 : Nat) ({ cls := "[I", name := "clone", desc := "()Ljava/lang/Object;" } : Jvm.MethodName)) ∈ gW := gW_of (List.mem_of_getElem? (i := 469) (by decide +kernel)) rfl
theorem t_472 : (Jvm.Cond.instanceMethod ({ cls := "java/lang/Object", name := "clone", desc := "()Ljava/lang/Object;" } : Jvm.MethodName)) ∈ gW := gW_of (List.mem_of_getElem? (i := 472) (by decide +kernel)) rfl
theorem t_475 : (Jvm.Cond.classLink "java/util/Arrays" (317 : Nat) "[I") ∈ gW := gW_of (List.mem_of_getElem? (i := 475) (by decide +kernel)) rfl
theorem t_476 : (Jvm.Cond.methodLink "java/util/Arrays" (304 : Nat) ({ cls := "java/lang/Math", name := "min", desc := "(II)I" } : Jvm.MethodName)) ∈ gW := gW_of (List.mem_of_getElem? (i := 476) (by decide +kernel)) rfl
theorem t_477 : (Jvm.Cond.methodLink "java/util/Arrays" (150 : Nat) ({ cls := "java/lang/System", name := "arraycopy", desc := "(Ljava/lang/Object;ILjava/lang/Object;II)V" } : Jvm.MethodName)) ∈ gW := gW_of (List.mem_of_getElem? (i := 477) (by decide +kernel)) rfl
theorem t_478 : (Jvm.Cond.static ({ cls := "java/lang/System", name := "arraycopy", desc := "(Ljava/lang/Object;ILjava/lang/Object;II)V" } : Jvm.MethodName)) ∈ gW := gW_of (List.mem_of_getElem? (i := 478) (by decide +kernel)) rfl
theorem t_480 : (Jvm.Cond.methodLink "CardLink" (67 : Nat) ({ cls := "CardLink$Row", name := "keep", desc := "(I)V" } : Jvm.MethodName)) ∈ gW := gW_of (List.mem_of_getElem? (i := 480) (by decide +kernel)) rfl
theorem t_481 : (Jvm.Cond.methodLink "CardLink" (74 : Nat) ({ cls := "CardLink$Journal", name := "forgetAll", desc := "()V" } : Jvm.MethodName)) ∈ gW := gW_of (List.mem_of_getElem? (i := 481) (by decide +kernel)) rfl
theorem t_482 : (Jvm.Cond.instanceMethod ({ cls := "CardLink$Journal", name := "forgetAll", desc := "()V" } : Jvm.MethodName)) ∈ gW := gW_of (List.mem_of_getElem? (i := 482) (by decide +kernel)) rfl
theorem t_483 : (Jvm.Cond.selects "CardLink$Journal" ({ cls := "CardLink$Journal", name := "forgetAll", desc := "()V" } : Jvm.MethodName) ({ cls := "CardLink$Journal", name := "forgetAll", desc := "()V" } : Jvm.MethodName)) ∈ gW := gW_of (List.mem_of_getElem? (i := 483) (by decide +kernel)) rfl
theorem t_484 : (Jvm.Cond.code ({ cls := "CardLink$Journal", name := "forgetAll", desc := "()V" } : Jvm.MethodName) prog_3_method_2_code (1 : Nat) (Option.none : Option Jvm.ClassFile.FieldType)) ∈ gW := gW_of (List.mem_of_getElem? (i := 484) (by decide +kernel)) rfl
theorem t_485 : (Jvm.Cond.methodLink "CardLink$Journal" (47 : Nat) ({ cls := "CardLink$Row", name := "keep", desc := "(I)V" } : Jvm.MethodName)) ∈ gW := gW_of (List.mem_of_getElem? (i := 485) (by decide +kernel)) rfl
theorem t_486 : (Jvm.Cond.methodLink "CardLink" (77 : Nat) ({ cls := "CardLink$ResetAnswer", name := "cardRoom", desc := "()I" } : Jvm.MethodName)) ∈ gW := gW_of (List.mem_of_getElem? (i := 486) (by decide +kernel)) rfl
theorem t_487 : (Jvm.Cond.instanceMethod ({ cls := "CardLink$ResetAnswer", name := "cardRoom", desc := "()I" } : Jvm.MethodName)) ∈ gW := gW_of (List.mem_of_getElem? (i := 487) (by decide +kernel)) rfl
theorem t_488 : (Jvm.Cond.selects "CardLink$ResetAnswer" ({ cls := "CardLink$ResetAnswer", name := "cardRoom", desc := "()I" } : Jvm.MethodName) ({ cls := "CardLink$ResetAnswer", name := "cardRoom", desc := "()I" } : Jvm.MethodName)) ∈ gW := gW_of (List.mem_of_getElem? (i := 488) (by decide +kernel)) rfl
theorem t_489 : (Jvm.Cond.code ({ cls := "CardLink$ResetAnswer", name := "cardRoom", desc := "()I" } : Jvm.MethodName) prog_5_method_14_code (1 : Nat) (Option.some Jvm.ClassFile.FieldType.int)) ∈ gW := gW_of (List.mem_of_getElem? (i := 489) (by decide +kernel)) rfl
theorem t_490 : (Jvm.Cond.methodLink "CardLink" (80 : Nat) ({ cls := "CardLink$Line", name := "restart", desc := "(I)V" } : Jvm.MethodName)) ∈ gW := gW_of (List.mem_of_getElem? (i := 490) (by decide +kernel)) rfl
theorem t_491 : (Jvm.Cond.instanceMethod ({ cls := "CardLink$Line", name := "restart", desc := "(I)V" } : Jvm.MethodName)) ∈ gW := gW_of (List.mem_of_getElem? (i := 491) (by decide +kernel)) rfl
theorem t_492 : (Jvm.Cond.selects "CardLink$Line" ({ cls := "CardLink$Line", name := "restart", desc := "(I)V" } : Jvm.MethodName) ({ cls := "CardLink$Line", name := "restart", desc := "(I)V" } : Jvm.MethodName)) ∈ gW := gW_of (List.mem_of_getElem? (i := 492) (by decide +kernel)) rfl
theorem t_493 : (Jvm.Cond.code ({ cls := "CardLink$Line", name := "restart", desc := "(I)V" } : Jvm.MethodName) prog_4_method_2_code (2 : Nat) (Option.none : Option Jvm.ClassFile.FieldType)) ∈ gW := gW_of (List.mem_of_getElem? (i := 493) (by decide +kernel)) rfl
theorem t_494 : (Jvm.Cond.methodLink "CardLink$Line" (84 : Nat) ({ cls := "CardLink$Side", name := "restart", desc := "(I)V" } : Jvm.MethodName)) ∈ gW := gW_of (List.mem_of_getElem? (i := 494) (by decide +kernel)) rfl
theorem t_495 : (Jvm.Cond.instanceMethod ({ cls := "CardLink$Side", name := "restart", desc := "(I)V" } : Jvm.MethodName)) ∈ gW := gW_of (List.mem_of_getElem? (i := 495) (by decide +kernel)) rfl
theorem t_496 : (Jvm.Cond.selects "CardLink$Side" ({ cls := "CardLink$Side", name := "restart", desc := "(I)V" } : Jvm.MethodName) ({ cls := "CardLink$Side", name := "restart", desc := "(I)V" } : Jvm.MethodName)) ∈ gW := gW_of (List.mem_of_getElem? (i := 496) (by decide +kernel)) rfl
theorem t_497 : (Jvm.Cond.code ({ cls := "CardLink$Side", name := "restart", desc := "(I)V" } : Jvm.MethodName) prog_7_method_2_code (2 : Nat) (Option.none : Option Jvm.ClassFile.FieldType)) ∈ gW := gW_of (List.mem_of_getElem? (i := 497) (by decide +kernel)) rfl
theorem t_498 : (Jvm.Cond.methodLink "CardLink$Side" (64 : Nat) ({ cls := "CardLink$Side", name := "emptyAll", desc := "()V" } : Jvm.MethodName)) ∈ gW := gW_of (List.mem_of_getElem? (i := 498) (by decide +kernel)) rfl
theorem t_499 : (Jvm.Cond.instanceMethod ({ cls := "CardLink$Side", name := "emptyAll", desc := "()V" } : Jvm.MethodName)) ∈ gW := gW_of (List.mem_of_getElem? (i := 499) (by decide +kernel)) rfl
theorem t_500 : (Jvm.Cond.selects "CardLink$Side" ({ cls := "CardLink$Side", name := "emptyAll", desc := "()V" } : Jvm.MethodName) ({ cls := "CardLink$Side", name := "emptyAll", desc := "()V" } : Jvm.MethodName)) ∈ gW := gW_of (List.mem_of_getElem? (i := 500) (by decide +kernel)) rfl
theorem t_501 : (Jvm.Cond.code ({ cls := "CardLink$Side", name := "emptyAll", desc := "()V" } : Jvm.MethodName) prog_7_method_4_code (1 : Nat) (Option.none : Option Jvm.ClassFile.FieldType)) ∈ gW := gW_of (List.mem_of_getElem? (i := 501) (by decide +kernel)) rfl
theorem t_502 : (Jvm.Cond.methodLink "CardLink$Side" (67 : Nat) ({ cls := "CardLink$Row", name := "keep", desc := "(I)V" } : Jvm.MethodName)) ∈ gW := gW_of (List.mem_of_getElem? (i := 502) (by decide +kernel)) rfl
theorem t_503 : (Jvm.Cond.methodLink "CardLink$Line" (87 : Nat) ({ cls := "CardLink$Wire", name := "restart", desc := "()V" } : Jvm.MethodName)) ∈ gW := gW_of (List.mem_of_getElem? (i := 503) (by decide +kernel)) rfl
theorem t_504 : (Jvm.Cond.instanceMethod ({ cls := "CardLink$Wire", name := "restart", desc := "()V" } : Jvm.MethodName)) ∈ gW := gW_of (List.mem_of_getElem? (i := 504) (by decide +kernel)) rfl
theorem t_505 : (Jvm.Cond.selects "CardLink$Wire" ({ cls := "CardLink$Wire", name := "restart", desc := "()V" } : Jvm.MethodName) ({ cls := "CardLink$Wire", name := "restart", desc := "()V" } : Jvm.MethodName)) ∈ gW := gW_of (List.mem_of_getElem? (i := 505) (by decide +kernel)) rfl
theorem t_506 : (Jvm.Cond.code ({ cls := "CardLink$Wire", name := "restart", desc := "()V" } : Jvm.MethodName) prog_8_method_2_code (1 : Nat) (Option.none : Option Jvm.ClassFile.FieldType)) ∈ gW := gW_of (List.mem_of_getElem? (i := 506) (by decide +kernel)) rfl
theorem t_507 : (Jvm.Cond.methodLink "CardLink$Line" (89 : Nat) ({ cls := "CardLink$Row", name := "keep", desc := "(I)V" } : Jvm.MethodName)) ∈ gW := gW_of (List.mem_of_getElem? (i := 507) (by decide +kernel)) rfl
theorem t_508 : (Jvm.Cond.methodLink "CardLink" (83 : Nat) ({ cls := "CardLink$Forecast", name := "forget", desc := "()V" } : Jvm.MethodName)) ∈ gW := gW_of (List.mem_of_getElem? (i := 508) (by decide +kernel)) rfl
theorem t_509 : (Jvm.Cond.instanceMethod ({ cls := "CardLink$Forecast", name := "forget", desc := "()V" } : Jvm.MethodName)) ∈ gW := gW_of (List.mem_of_getElem? (i := 509) (by decide +kernel)) rfl
theorem t_510 : (Jvm.Cond.selects "CardLink$Forecast" ({ cls := "CardLink$Forecast", name := "forget", desc := "()V" } : Jvm.MethodName) ({ cls := "CardLink$Forecast", name := "forget", desc := "()V" } : Jvm.MethodName)) ∈ gW := gW_of (List.mem_of_getElem? (i := 510) (by decide +kernel)) rfl
theorem t_511 : (Jvm.Cond.code ({ cls := "CardLink$Forecast", name := "forget", desc := "()V" } : Jvm.MethodName) prog_2_method_2_code (1 : Nat) (Option.none : Option Jvm.ClassFile.FieldType)) ∈ gW := gW_of (List.mem_of_getElem? (i := 511) (by decide +kernel)) rfl
theorem t_512 : (Jvm.Cond.methodLink "CardLink$Forecast" (40 : Nat) ({ cls := "java/util/Arrays", name := "fill", desc := "([II)V" } : Jvm.MethodName)) ∈ gW := gW_of (List.mem_of_getElem? (i := 512) (by decide +kernel)) rfl
theorem t_513 : (Jvm.Cond.static ({ cls := "java/util/Arrays", name := "fill", desc := "([II)V" } : Jvm.MethodName)) ∈ gW := gW_of (List.mem_of_getElem? (i := 513) (by decide +kernel)) rfl
theorem t_514 : (Jvm.Cond.code ({ cls := "java/util/Arrays", name := "fill", desc := "([II)V" } : Jvm.MethodName) prog_18_method_103_code (4 : Nat) (Option.none : Option Jvm.ClassFile.FieldType)) ∈ gW := gW_of (List.mem_of_getElem? (i := 514) (by decide +kernel)) rfl
theorem t_515 : (Jvm.Cond.methodLink "CardLink" (86 : Nat) ({ cls := "CardLink$ResetAnswer", name := "historicalBytes", desc := "()I" } : Jvm.MethodName)) ∈ gW := gW_of (List.mem_of_getElem? (i := 515) (by decide +kernel)) rfl
theorem t_516 : (Jvm.Cond.instanceMethod ({ cls := "CardLink$ResetAnswer", name := "historicalBytes", desc := "()I" } : Jvm.MethodName)) ∈ gW := gW_of (List.mem_of_getElem? (i := 516) (by decide +kernel)) rfl
theorem t_517 : (Jvm.Cond.selects "CardLink$ResetAnswer" ({ cls := "CardLink$ResetAnswer", name := "historicalBytes", desc := "()I" } : Jvm.MethodName) ({ cls := "CardLink$ResetAnswer", name := "historicalBytes", desc := "()I" } : Jvm.MethodName)) ∈ gW := gW_of (List.mem_of_getElem? (i := 517) (by decide +kernel)) rfl
theorem t_518 : (Jvm.Cond.code ({ cls := "CardLink$ResetAnswer", name := "historicalBytes", desc := "()I" } : Jvm.MethodName) prog_5_method_15_code (1 : Nat) (Option.some Jvm.ClassFile.FieldType.int)) ∈ gW := gW_of (List.mem_of_getElem? (i := 518) (by decide +kernel)) rfl
theorem t_519 : (Jvm.Cond.methodLink "CardLinkLaw" (65 : Nat) ({ cls := "CardLink", name := "answer", desc := "(I)I" } : Jvm.MethodName)) ∈ gW := gW_of (List.mem_of_getElem? (i := 519) (by decide +kernel)) rfl
theorem t_520 : (Jvm.Cond.instanceMethod ({ cls := "CardLink", name := "answer", desc := "(I)I" } : Jvm.MethodName)) ∈ gW := gW_of (List.mem_of_getElem? (i := 520) (by decide +kernel)) rfl
theorem t_521 : (Jvm.Cond.selects "CardLink" ({ cls := "CardLink", name := "answer", desc := "(I)I" } : Jvm.MethodName) ({ cls := "CardLink", name := "answer", desc := "(I)I" } : Jvm.MethodName)) ∈ gW := gW_of (List.mem_of_getElem? (i := 521) (by decide +kernel)) rfl
theorem t_522 : (Jvm.Cond.code ({ cls := "CardLink", name := "answer", desc := "(I)I" } : Jvm.MethodName) prog_1_method_6_code (2 : Nat) (Option.some Jvm.ClassFile.FieldType.int)) ∈ gW := gW_of (List.mem_of_getElem? (i := 522) (by decide +kernel)) rfl
theorem t_523 : (Jvm.Cond.methodLink "CardLink" (89 : Nat) ({ cls := "CardLink$ResetAnswer", name := "tell", desc := "(I)I" } : Jvm.MethodName)) ∈ gW := gW_of (List.mem_of_getElem? (i := 523) (by decide +kernel)) rfl
theorem t_524 : (Jvm.Cond.instanceMethod ({ cls := "CardLink$ResetAnswer", name := "tell", desc := "(I)I" } : Jvm.MethodName)) ∈ gW := gW_of (List.mem_of_getElem? (i := 524) (by decide +kernel)) rfl
theorem t_525 : (Jvm.Cond.selects "CardLink$ResetAnswer" ({ cls := "CardLink$ResetAnswer", name := "tell", desc := "(I)I" } : Jvm.MethodName) ({ cls := "CardLink$ResetAnswer", name := "tell", desc := "(I)I" } : Jvm.MethodName)) ∈ gW := gW_of (List.mem_of_getElem? (i := 525) (by decide +kernel)) rfl
theorem t_526 : (Jvm.Cond.code ({ cls := "CardLink$ResetAnswer", name := "tell", desc := "(I)I" } : Jvm.MethodName) prog_5_method_17_code (2 : Nat) (Option.some Jvm.ClassFile.FieldType.int)) ∈ gW := gW_of (List.mem_of_getElem? (i := 526) (by decide +kernel)) rfl
theorem t_527 : (Jvm.Cond.methodLink "CardLinkLaw" (62 : Nat) ({ cls := "CardLink", name := "historical", desc := "(I)I" } : Jvm.MethodName)) ∈ gW := gW_of (List.mem_of_getElem? (i := 527) (by decide +kernel)) rfl
theorem t_528 : (Jvm.Cond.instanceMethod ({ cls := "CardLink", name := "historical", desc := "(I)I" } : Jvm.MethodName)) ∈ gW := gW_of (List.mem_of_getElem? (i := 528) (by decide +kernel)) rfl
theorem t_529 : (Jvm.Cond.selects "CardLink" ({ cls := "CardLink", name := "historical", desc := "(I)I" } : Jvm.MethodName) ({ cls := "CardLink", name := "historical", desc := "(I)I" } : Jvm.MethodName)) ∈ gW := gW_of (List.mem_of_getElem? (i := 529) (by decide +kernel)) rfl
theorem t_530 : (Jvm.Cond.code ({ cls := "CardLink", name := "historical", desc := "(I)I" } : Jvm.MethodName) prog_1_method_7_code (2 : Nat) (Option.some Jvm.ClassFile.FieldType.int)) ∈ gW := gW_of (List.mem_of_getElem? (i := 530) (by decide +kernel)) rfl
theorem t_531 : (Jvm.Cond.methodLink "CardLink" (93 : Nat) ({ cls := "CardLink$ResetAnswer", name := "historicalByte", desc := "(I)I" } : Jvm.MethodName)) ∈ gW := gW_of (List.mem_of_getElem? (i := 531) (by decide +kernel)) rfl
theorem t_532 : (Jvm.Cond.instanceMethod ({ cls := "CardLink$ResetAnswer", name := "historicalByte", desc := "(I)I" } : Jvm.MethodName)) ∈ gW := gW_of (List.mem_of_getElem? (i := 532) (by decide +kernel)) rfl
theorem t_533 : (Jvm.Cond.selects "CardLink$ResetAnswer" ({ cls := "CardLink$ResetAnswer", name := "historicalByte", desc := "(I)I" } : Jvm.MethodName) ({ cls := "CardLink$ResetAnswer", name := "historicalByte", desc := "(I)I" } : Jvm.MethodName)) ∈ gW := gW_of (List.mem_of_getElem? (i := 533) (by decide +kernel)) rfl
theorem t_534 : (Jvm.Cond.code ({ cls := "CardLink$ResetAnswer", name := "historicalByte", desc := "(I)I" } : Jvm.MethodName) prog_5_method_16_code (2 : Nat) (Option.some Jvm.ClassFile.FieldType.int)) ∈ gW := gW_of (List.mem_of_getElem? (i := 534) (by decide +kernel)) rfl
theorem t_535 : (Jvm.Cond.methodLink "CardLinkLaw" (45 : Nat) ({ cls := "CardLink", name := "message", desc := "()I" } : Jvm.MethodName)) ∈ gW := gW_of (List.mem_of_getElem? (i := 535) (by decide +kernel)) rfl
theorem t_536 : (Jvm.Cond.instanceMethod ({ cls := "CardLink", name := "message", desc := "()I" } : Jvm.MethodName)) ∈ gW := gW_of (List.mem_of_getElem? (i := 536) (by decide +kernel)) rfl
theorem t_537 : (Jvm.Cond.selects "CardLink" ({ cls := "CardLink", name := "message", desc := "()I" } : Jvm.MethodName) ({ cls := "CardLink", name := "message", desc := "()I" } : Jvm.MethodName)) ∈ gW := gW_of (List.mem_of_getElem? (i := 537) (by decide +kernel)) rfl
theorem t_538 : (Jvm.Cond.code ({ cls := "CardLink", name := "message", desc := "()I" } : Jvm.MethodName) prog_1_method_8_code (2 : Nat) (Option.some Jvm.ClassFile.FieldType.int)) ∈ gW := gW_of (List.mem_of_getElem? (i := 538) (by decide +kernel)) rfl
theorem t_539 : (Jvm.Cond.methodLink "CardLink" (96 : Nat) ({ cls := "CardLink", name := "mayStart", desc := "()Z" } : Jvm.MethodName)) ∈ gW := gW_of (List.mem_of_getElem? (i := 539) (by decide +kernel)) rfl
theorem t_541 : (Jvm.Cond.instanceMethod ({ cls := "CardLink", name := "mayStart", desc := "()Z" } : Jvm.MethodName)) ∈ gW := gW_of (List.mem_of_getElem? (i := 541) (by decide +kernel)) rfl
theorem t_542 : (Jvm.Cond.code ({ cls := "CardLink", name := "mayStart", desc := "()Z" } : Jvm.MethodName) prog_1_method_10_code (1 : Nat) (Option.some Jvm.ClassFile.FieldType.boolean)) ∈ gW := gW_of (List.mem_of_getElem? (i := 542) (by decide +kernel)) rfl
theorem t_543 : (Jvm.Cond.methodLink "CardLink" (55 : Nat) ({ cls := "CardLink$Row", name := "size", desc := "()I" } : Jvm.MethodName)) ∈ gW := gW_of (List.mem_of_getElem? (i := 543) (by decide +kernel)) rfl
theorem t_544 : (Jvm.Cond.methodLink "CardLink" (100 : Nat) ({ cls := "CardLink$Line", name := "startMessage", desc := "(LCardLink$Row;)V" } : Jvm.MethodName)) ∈ gW := gW_of (List.mem_of_getElem? (i := 544) (by decide +kernel)) rfl
theorem t_545 : (Jvm.Cond.instanceMethod ({ cls := "CardLink$Line", name := "startMessage", desc := "(LCardLink$Row;)V" } : Jvm.MethodName)) ∈ gW := gW_of (List.mem_of_getElem? (i := 545) (by decide +kernel)) rfl
theorem t_546 : (Jvm.Cond.selects "CardLink$Line" ({ cls := "CardLink$Line", name := "startMessage", desc := "(LCardLink$Row;)V" } : Jvm.MethodName) ({ cls := "CardLink$Line", name := "startMessage", desc := "(LCardLink$Row;)V" } : Jvm.MethodName)) ∈ gW := gW_of (List.mem_of_getElem? (i := 546) (by decide +kernel)) rfl
theorem t_547 : (Jvm.Cond.code ({ cls := "CardLink$Line", name := "startMessage", desc := "(LCardLink$Row;)V" } : Jvm.MethodName) prog_4_method_4_code (2 : Nat) (Option.none : Option Jvm.ClassFile.FieldType)) ∈ gW := gW_of (List.mem_of_getElem? (i := 547) (by decide +kernel)) rfl
theorem t_548 : (Jvm.Cond.methodLink "CardLink$Line" (99 : Nat) ({ cls := "CardLink$Row", name := "copy", desc := "(LCardLink$Row;)V" } : Jvm.MethodName)) ∈ gW := gW_of (List.mem_of_getElem? (i := 548) (by decide +kernel)) rfl
theorem t_549 : (Jvm.Cond.instanceMethod ({ cls := "CardLink$Row", name := "copy", desc := "(LCardLink$Row;)V" } : Jvm.MethodName)) ∈ gW := gW_of (List.mem_of_getElem? (i := 549) (by decide +kernel)) rfl
theorem t_550 : (Jvm.Cond.selects "CardLink$Row" ({ cls := "CardLink$Row", name := "copy", desc := "(LCardLink$Row;)V" } : Jvm.MethodName) ({ cls := "CardLink$Row", name := "copy", desc := "(LCardLink$Row;)V" } : Jvm.MethodName)) ∈ gW := gW_of (List.mem_of_getElem? (i := 550) (by decide +kernel)) rfl
theorem t_551 : (Jvm.Cond.code ({ cls := "CardLink$Row", name := "copy", desc := "(LCardLink$Row;)V" } : Jvm.MethodName) prog_6_method_7_code (3 : Nat) (Option.none : Option Jvm.ClassFile.FieldType)) ∈ gW := gW_of (List.mem_of_getElem? (i := 551) (by decide +kernel)) rfl
theorem t_552 : (Jvm.Cond.methodLink "CardLink$Row" (35 : Nat) ({ cls := "java/lang/System", name := "arraycopy", desc := "(Ljava/lang/Object;ILjava/lang/Object;II)V" } : Jvm.MethodName)) ∈ gW := gW_of (List.mem_of_getElem? (i := 552) (by decide +kernel)) rfl
theorem t_553 : (Jvm.Cond.methodLink "CardLink$Line" (108 : Nat) ({ cls := "CardLink$Line", name := "begin", desc := "(I)V" } : Jvm.MethodName)) ∈ gW := gW_of (List.mem_of_getElem? (i := 553) (by decide +kernel)) rfl
theorem t_555 : (Jvm.Cond.instanceMethod ({ cls := "CardLink$Line", name := "begin", desc := "(I)V" } : Jvm.MethodName)) ∈ gW := gW_of (List.mem_of_getElem? (i := 555) (by decide +kernel)) rfl
theorem t_556 : (Jvm.Cond.code ({ cls := "CardLink$Line", name := "begin", desc := "(I)V" } : Jvm.MethodName) prog_4_method_6_code (2 : Nat) (Option.none : Option Jvm.ClassFile.FieldType)) ∈ gW := gW_of (List.mem_of_getElem? (i := 556) (by decide +kernel)) rfl
theorem t_557 : (Jvm.Cond.methodLink "CardLink" (104 : Nat) ({ cls := "CardLink$Line", name := "blocksAhead", desc := "()I" } : Jvm.MethodName)) ∈ gW := gW_of (List.mem_of_getElem? (i := 557) (by decide +kernel)) rfl
theorem t_558 : (Jvm.Cond.instanceMethod ({ cls := "CardLink$Line", name := "blocksAhead", desc := "()I" } : Jvm.MethodName)) ∈ gW := gW_of (List.mem_of_getElem? (i := 558) (by decide +kernel)) rfl
theorem t_559 : (Jvm.Cond.selects "CardLink$Line" ({ cls := "CardLink$Line", name := "blocksAhead", desc := "()I" } : Jvm.MethodName) ({ cls := "CardLink$Line", name := "blocksAhead", desc := "()I" } : Jvm.MethodName)) ∈ gW := gW_of (List.mem_of_getElem? (i := 559) (by decide +kernel)) rfl
theorem t_560 : (Jvm.Cond.code ({ cls := "CardLink$Line", name := "blocksAhead", desc := "()I" } : Jvm.MethodName) prog_4_method_7_code (4 : Nat) (Option.some Jvm.ClassFile.FieldType.int)) ∈ gW := gW_of (List.mem_of_getElem? (i := 560) (by decide +kernel)) rfl
theorem t_561 : (Jvm.Cond.methodLink "CardLink$Line" (111 : Nat) ({ cls := "CardLink$Row", name := "size", desc := "()I" } : Jvm.MethodName)) ∈ gW := gW_of (List.mem_of_getElem? (i := 561) (by decide +kernel)) rfl
theorem t_562 : (Jvm.Cond.methodLink "CardLinkLaw" (80 : Nat) ({ cls := "CardLink", name := "room", desc := "(I)I" } : Jvm.MethodName)) ∈ gW := gW_of (List.mem_of_getElem? (i := 562) (by decide +kernel)) rfl
theorem t_563 : (Jvm.Cond.instanceMethod ({ cls := "CardLink", name := "room", desc := "(I)I" } : Jvm.MethodName)) ∈ gW := gW_of (List.mem_of_getElem? (i := 563) (by decide +kernel)) rfl
theorem t_564 : (Jvm.Cond.selects "CardLink" ({ cls := "CardLink", name := "room", desc := "(I)I" } : Jvm.MethodName) ({ cls := "CardLink", name := "room", desc := "(I)I" } : Jvm.MethodName)) ∈ gW := gW_of (List.mem_of_getElem? (i := 564) (by decide +kernel)) rfl
theorem t_565 : (Jvm.Cond.code ({ cls := "CardLink", name := "room", desc := "(I)I" } : Jvm.MethodName) prog_1_method_9_code (2 : Nat) (Option.some Jvm.ClassFile.FieldType.int)) ∈ gW := gW_of (List.mem_of_getElem? (i := 565) (by decide +kernel)) rfl
theorem t_566 : (Jvm.Cond.methodLink "CardLink" (107 : Nat) ({ cls := "CardLink$Line", name := "startRoom", desc := "(I)V" } : Jvm.MethodName)) ∈ gW := gW_of (List.mem_of_getElem? (i := 566) (by decide +kernel)) rfl
theorem t_567 : (Jvm.Cond.instanceMethod ({ cls := "CardLink$Line", name := "startRoom", desc := "(I)V" } : Jvm.MethodName)) ∈ gW := gW_of (List.mem_of_getElem? (i := 567) (by decide +kernel)) rfl
theorem t_568 : (Jvm.Cond.selects "CardLink$Line" ({ cls := "CardLink$Line", name := "startRoom", desc := "(I)V" } : Jvm.MethodName) ({ cls := "CardLink$Line", name := "startRoom", desc := "(I)V" } : Jvm.MethodName)) ∈ gW := gW_of (List.mem_of_getElem? (i := 568) (by decide +kernel)) rfl
theorem t_569 : (Jvm.Cond.code ({ cls := "CardLink$Line", name := "startRoom", desc := "(I)V" } : Jvm.MethodName) prog_4_method_5_code (2 : Nat) (Option.none : Option Jvm.ClassFile.FieldType)) ∈ gW := gW_of (List.mem_of_getElem? (i := 569) (by decide +kernel)) rfl
theorem t_570 : (Jvm.Cond.methodLink "CardLinkLaw" (76 : Nat) ({ cls := "CardLink", name := "fault", desc := "(III)I" } : Jvm.MethodName)) ∈ gW := gW_of (List.mem_of_getElem? (i := 570) (by decide +kernel)) rfl
theorem t_571 : (Jvm.Cond.instanceMethod ({ cls := "CardLink", name := "fault", desc := "(III)I" } : Jvm.MethodName)) ∈ gW := gW_of (List.mem_of_getElem? (i := 571) (by decide +kernel)) rfl
theorem t_572 : (Jvm.Cond.selects "CardLink" ({ cls := "CardLink", name := "fault", desc := "(III)I" } : Jvm.MethodName) ({ cls := "CardLink", name := "fault", desc := "(III)I" } : Jvm.MethodName)) ∈ gW := gW_of (List.mem_of_getElem? (i := 572) (by decide +kernel)) rfl
theorem t_573 : (Jvm.Cond.code ({ cls := "CardLink", name := "fault", desc := "(III)I" } : Jvm.MethodName) prog_1_method_12_code (5 : Nat) (Option.some Jvm.ClassFile.FieldType.int)) ∈ gW := gW_of (List.mem_of_getElem? (i := 573) (by decide +kernel)) rfl
theorem t_574 : (Jvm.Cond.methodLink "CardLink" (118 : Nat) ({ cls := "CardLink$Wire", name := "isFull", desc := "()Z" } : Jvm.MethodName)) ∈ gW := gW_of (List.mem_of_getElem? (i := 574) (by decide +kernel)) rfl
theorem t_575 : (Jvm.Cond.instanceMethod ({ cls := "CardLink$Wire", name := "isFull", desc := "()Z" } : Jvm.MethodName)) ∈ gW := gW_of (List.mem_of_getElem? (i := 575) (by decide +kernel)) rfl
theorem t_576 : (Jvm.Cond.selects "CardLink$Wire" ({ cls := "CardLink$Wire", name := "isFull", desc := "()Z" } : Jvm.MethodName) ({ cls := "CardLink$Wire", name := "isFull", desc := "()Z" } : Jvm.MethodName)) ∈ gW := gW_of (List.mem_of_getElem? (i := 576) (by decide +kernel)) rfl
theorem t_577 : (Jvm.Cond.code ({ cls := "CardLink$Wire", name := "isFull", desc := "()Z" } : Jvm.MethodName) prog_8_method_6_code (1 : Nat) (Option.some Jvm.ClassFile.FieldType.boolean)) ∈ gW := gW_of (List.mem_of_getElem? (i := 577) (by decide +kernel)) rfl
theorem t_578 : (Jvm.Cond.methodLink "CardLink" (123 : Nat) ({ cls := "CardLink$Wire", name := "addFault", desc := "(III)V" } : Jvm.MethodName)) ∈ gW := gW_of (List.mem_of_getElem? (i := 578) (by decide +kernel)) rfl
theorem t_579 : (Jvm.Cond.instanceMethod ({ cls := "CardLink$Wire", name := "addFault", desc := "(III)V" } : Jvm.MethodName)) ∈ gW := gW_of (List.mem_of_getElem? (i := 579) (by decide +kernel)) rfl
theorem t_580 : (Jvm.Cond.selects "CardLink$Wire" ({ cls := "CardLink$Wire", name := "addFault", desc := "(III)V" } : Jvm.MethodName) ({ cls := "CardLink$Wire", name := "addFault", desc := "(III)V" } : Jvm.MethodName)) ∈ gW := gW_of (List.mem_of_getElem? (i := 580) (by decide +kernel)) rfl
theorem t_581 : (Jvm.Cond.code ({ cls := "CardLink$Wire", name := "addFault", desc := "(III)V" } : Jvm.MethodName) prog_8_method_7_code (6 : Nat) (Option.none : Option Jvm.ClassFile.FieldType)) ∈ gW := gW_of (List.mem_of_getElem? (i := 581) (by decide +kernel)) rfl
theorem t_582 : (Jvm.Cond.methodLink "CardLink$Wire" (43 : Nat) ({ cls := "CardLink$Wire", name := "makePlace", desc := "(I)V" } : Jvm.MethodName)) ∈ gW := gW_of (List.mem_of_getElem? (i := 582) (by decide +kernel)) rfl
theorem t_584 : (Jvm.Cond.instanceMethod ({ cls := "CardLink$Wire", name := "makePlace", desc := "(I)V" } : Jvm.MethodName)) ∈ gW := gW_of (List.mem_of_getElem? (i := 584) (by decide +kernel)) rfl
theorem t_585 : (Jvm.Cond.code ({ cls := "CardLink$Wire", name := "makePlace", desc := "(I)V" } : Jvm.MethodName) prog_8_method_8_code (3 : Nat) (Option.none : Option Jvm.ClassFile.FieldType)) ∈ gW := gW_of (List.mem_of_getElem? (i := 585) (by decide +kernel)) rfl
theorem t_586 : (Jvm.Cond.methodLink "CardLink$Wire" (47 : Nat) ({ cls := "java/lang/Math", name := "min", desc := "(II)I" } : Jvm.MethodName)) ∈ gW := gW_of (List.mem_of_getElem? (i := 586) (by decide +kernel)) rfl
theorem t_587 : (Jvm.Cond.methodLink "CardLink" (127 : Nat) ({ cls := "CardLink$Wire", name := "faults", desc := "()I" } : Jvm.MethodName)) ∈ gW := gW_of (List.mem_of_getElem? (i := 587) (by decide +kernel)) rfl
theorem t_588 : (Jvm.Cond.instanceMethod ({ cls := "CardLink$Wire", name := "faults", desc := "()I" } : Jvm.MethodName)) ∈ gW := gW_of (List.mem_of_getElem? (i := 588) (by decide +kernel)) rfl
theorem t_589 : (Jvm.Cond.selects "CardLink$Wire" ({ cls := "CardLink$Wire", name := "faults", desc := "()I" } : Jvm.MethodName) ({ cls := "CardLink$Wire", name := "faults", desc := "()I" } : Jvm.MethodName)) ∈ gW := gW_of (List.mem_of_getElem? (i := 589) (by decide +kernel)) rfl
theorem t_590 : (Jvm.Cond.code ({ cls := "CardLink$Wire", name := "faults", desc := "()I" } : Jvm.MethodName) prog_8_method_5_code (1 : Nat) (Option.some Jvm.ClassFile.FieldType.int)) ∈ gW := gW_of (List.mem_of_getElem? (i := 590) (by decide +kernel)) rfl
theorem t_591 : (Jvm.Cond.methodLink "CardLinkLaw" (67 : Nat) ({ cls := "CardLink", name := "repeats", desc := "(I)I" } : Jvm.MethodName)) ∈ gW := gW_of (List.mem_of_getElem? (i := 591) (by decide +kernel)) rfl
theorem t_592 : (Jvm.Cond.instanceMethod ({ cls := "CardLink", name := "repeats", desc := "(I)I" } : Jvm.MethodName)) ∈ gW := gW_of (List.mem_of_getElem? (i := 592) (by decide +kernel)) rfl
theorem t_593 : (Jvm.Cond.selects "CardLink" ({ cls := "CardLink", name := "repeats", desc := "(I)I" } : Jvm.MethodName) ({ cls := "CardLink", name := "repeats", desc := "(I)I" } : Jvm.MethodName)) ∈ gW := gW_of (List.mem_of_getElem? (i := 593) (by decide +kernel)) rfl
theorem t_594 : (Jvm.Cond.code ({ cls := "CardLink", name := "repeats", desc := "(I)I" } : Jvm.MethodName) prog_1_method_13_code (3 : Nat) (Option.some Jvm.ClassFile.FieldType.int)) ∈ gW := gW_of (List.mem_of_getElem? (i := 594) (by decide +kernel)) rfl
theorem t_595 : (Jvm.Cond.methodLink "CardLinkLaw" (48 : Nat) ({ cls := "CardLink", name := "step", desc := "(I)I" } : Jvm.MethodName)) ∈ gW := gW_of (List.mem_of_getElem? (i := 595) (by decide +kernel)) rfl
theorem t_596 : (Jvm.Cond.instanceMethod ({ cls := "CardLink", name := "step", desc := "(I)I" } : Jvm.MethodName)) ∈ gW := gW_of (List.mem_of_getElem? (i := 596) (by decide +kernel)) rfl
theorem t_597 : (Jvm.Cond.selects "CardLink" ({ cls := "CardLink", name := "step", desc := "(I)I" } : Jvm.MethodName) ({ cls := "CardLink", name := "step", desc := "(I)I" } : Jvm.MethodName)) ∈ gW := gW_of (List.mem_of_getElem? (i := 597) (by decide +kernel)) rfl
theorem t_598 : (Jvm.Cond.code ({ cls := "CardLink", name := "step", desc := "(I)I" } : Jvm.MethodName) prog_1_method_14_code (2 : Nat) (Option.some Jvm.ClassFile.FieldType.int)) ∈ gW := gW_of (List.mem_of_getElem? (i := 598) (by decide +kernel)) rfl
theorem t_599 : (Jvm.Cond.methodLink "CardLink" (133 : Nat) ({ cls := "CardLink", name := "onWay", desc := "()Z" } : Jvm.MethodName)) ∈ gW := gW_of (List.mem_of_getElem? (i := 599) (by decide +kernel)) rfl
theorem t_601 : (Jvm.Cond.instanceMethod ({ cls := "CardLink", name := "onWay", desc := "()Z" } : Jvm.MethodName)) ∈ gW := gW_of (List.mem_of_getElem? (i := 601) (by decide +kernel)) rfl
theorem t_602 : (Jvm.Cond.code ({ cls := "CardLink", name := "onWay", desc := "()Z" } : Jvm.MethodName) prog_1_method_11_code (1 : Nat) (Option.some Jvm.ClassFile.FieldType.boolean)) ∈ gW := gW_of (List.mem_of_getElem? (i := 602) (by decide +kernel)) rfl
theorem t_603 : (Jvm.Cond.methodLink "CardLink" (136 : Nat) ({ cls := "CardLink$Line", name := "run", desc := "(I)I" } : Jvm.MethodName)) ∈ gW := gW_of (List.mem_of_getElem? (i := 603) (by decide +kernel)) rfl
theorem t_604 : (Jvm.Cond.instanceMethod ({ cls := "CardLink$Line", name := "run", desc := "(I)I" } : Jvm.MethodName)) ∈ gW := gW_of (List.mem_of_getElem? (i := 604) (by decide +kernel)) rfl
theorem t_605 : (Jvm.Cond.selects "CardLink$Line" ({ cls := "CardLink$Line", name := "run", desc := "(I)I" } : Jvm.MethodName) ({ cls := "CardLink$Line", name := "run", desc := "(I)I" } : Jvm.MethodName)) ∈ gW := gW_of (List.mem_of_getElem? (i := 605) (by decide +kernel)) rfl
theorem t_606 : (Jvm.Cond.code ({ cls := "CardLink$Line", name := "run", desc := "(I)I" } : Jvm.MethodName) prog_4_method_9_code (4 : Nat) (Option.some Jvm.ClassFile.FieldType.int)) ∈ gW := gW_of (List.mem_of_getElem? (i := 606) (by decide +kernel)) rfl
theorem t_607 : (Jvm.Cond.methodLink "CardLink$Line" (121 : Nat) ({ cls := "CardLink$Line", name := "blocksSent", desc := "()I" } : Jvm.MethodName)) ∈ gW := gW_of (List.mem_of_getElem? (i := 607) (by decide +kernel)) rfl
theorem t_608 : (Jvm.Cond.instanceMethod ({ cls := "CardLink$Line", name := "blocksSent", desc := "()I" } : Jvm.MethodName)) ∈ gW := gW_of (List.mem_of_getElem? (i := 608) (by decide +kernel)) rfl
theorem t_609 : (Jvm.Cond.selects "CardLink$Line" ({ cls := "CardLink$Line", name := "blocksSent", desc := "()I" } : Jvm.MethodName) ({ cls := "CardLink$Line", name := "blocksSent", desc := "()I" } : Jvm.MethodName)) ∈ gW := gW_of (List.mem_of_getElem? (i := 609) (by decide +kernel)) rfl
theorem t_610 : (Jvm.Cond.code ({ cls := "CardLink$Line", name := "blocksSent", desc := "()I" } : Jvm.MethodName) prog_4_method_8_code (1 : Nat) (Option.some Jvm.ClassFile.FieldType.int)) ∈ gW := gW_of (List.mem_of_getElem? (i := 610) (by decide +kernel)) rfl
theorem t_611 : (Jvm.Cond.methodLink "CardLink$Line" (118 : Nat) ({ cls := "CardLink$Side", name := "blocksSent", desc := "()I" } : Jvm.MethodName)) ∈ gW := gW_of (List.mem_of_getElem? (i := 611) (by decide +kernel)) rfl
theorem t_612 : (Jvm.Cond.instanceMethod ({ cls := "CardLink$Side", name := "blocksSent", desc := "()I" } : Jvm.MethodName)) ∈ gW := gW_of (List.mem_of_getElem? (i := 612) (by decide +kernel)) rfl
theorem t_613 : (Jvm.Cond.selects "CardLink$Side" ({ cls := "CardLink$Side", name := "blocksSent", desc := "()I" } : Jvm.MethodName) ({ cls := "CardLink$Side", name := "blocksSent", desc := "()I" } : Jvm.MethodName)) ∈ gW := gW_of (List.mem_of_getElem? (i := 613) (by decide +kernel)) rfl
theorem t_614 : (Jvm.Cond.code ({ cls := "CardLink$Side", name := "blocksSent", desc := "()I" } : Jvm.MethodName) prog_7_method_19_code (1 : Nat) (Option.some Jvm.ClassFile.FieldType.int)) ∈ gW := gW_of (List.mem_of_getElem? (i := 614) (by decide +kernel)) rfl
theorem t_615 : (Jvm.Cond.methodLink "CardLink$Line" (122 : Nat) ({ cls := "CardLink$Line", name := "turn", desc := "()V" } : Jvm.MethodName)) ∈ gW := gW_of (List.mem_of_getElem? (i := 615) (by decide +kernel)) rfl
theorem t_616 : (Jvm.Cond.instanceMethod ({ cls := "CardLink$Line", name := "turn", desc := "()V" } : Jvm.MethodName)) ∈ gW := gW_of (List.mem_of_getElem? (i := 616) (by decide +kernel)) rfl
theorem t_617 : (Jvm.Cond.selects "CardLink$Line" ({ cls := "CardLink$Line", name := "turn", desc := "()V" } : Jvm.MethodName) ({ cls := "CardLink$Line", name := "turn", desc := "()V" } : Jvm.MethodName)) ∈ gW := gW_of (List.mem_of_getElem? (i := 617) (by decide +kernel)) rfl
theorem t_618 : (Jvm.Cond.code ({ cls := "CardLink$Line", name := "turn", desc := "()V" } : Jvm.MethodName) prog_4_method_10_code (2 : Nat) (Option.none : Option Jvm.ClassFile.FieldType)) ∈ gW := gW_of (List.mem_of_getElem? (i := 618) (by decide +kernel)) rfl
theorem t_619 : (Jvm.Cond.methodLink "CardLink$Line" (125 : Nat) ({ cls := "CardLink$Line", name := "firstKind", desc := "()I" } : Jvm.MethodName)) ∈ gW := gW_of (List.mem_of_getElem? (i := 619) (by decide +kernel)) rfl
theorem t_621 : (Jvm.Cond.instanceMethod ({ cls := "CardLink$Line", name := "firstKind", desc := "()I" } : Jvm.MethodName)) ∈ gW := gW_of (List.mem_of_getElem? (i := 621) (by decide +kernel)) rfl
theorem t_622 : (Jvm.Cond.code ({ cls := "CardLink$Line", name := "firstKind", desc := "()I" } : Jvm.MethodName) prog_4_method_11_code (1 : Nat) (Option.some Jvm.ClassFile.FieldType.int)) ∈ gW := gW_of (List.mem_of_getElem? (i := 622) (by decide +kernel)) rfl
theorem t_623 : (Jvm.Cond.methodLink "CardLink$Line" (145 : Nat) ({ cls := "CardLink$Side", name := "ask", desc := "(II)I" } : Jvm.MethodName)) ∈ gW := gW_of (List.mem_of_getElem? (i := 623) (by decide +kernel)) rfl
theorem t_624 : (Jvm.Cond.instanceMethod ({ cls := "CardLink$Side", name := "ask", desc := "(II)I" } : Jvm.MethodName)) ∈ gW := gW_of (List.mem_of_getElem? (i := 624) (by decide +kernel)) rfl
theorem t_625 : (Jvm.Cond.selects "CardLink$Side" ({ cls := "CardLink$Side", name := "ask", desc := "(II)I" } : Jvm.MethodName) ({ cls := "CardLink$Side", name := "ask", desc := "(II)I" } : Jvm.MethodName)) ∈ gW := gW_of (List.mem_of_getElem? (i := 625) (by decide +kernel)) rfl
theorem t_626 : (Jvm.Cond.code ({ cls := "CardLink$Side", name := "ask", desc := "(II)I" } : Jvm.MethodName) prog_7_method_16_code (3 : Nat) (Option.some Jvm.ClassFile.FieldType.int)) ∈ gW := gW_of (List.mem_of_getElem? (i := 626) (by decide +kernel)) rfl
theorem t_627 : (Jvm.Cond.methodLink "CardLink$Side" (101 : Nat) ({ cls := "CardLink$Side", name := "requestKind", desc := "()I" } : Jvm.MethodName)) ∈ gW := gW_of (List.mem_of_getElem? (i := 627) (by decide +kernel)) rfl
theorem t_628 : (Jvm.Cond.instanceMethod ({ cls := "CardLink$Side", name := "requestKind", desc := "()I" } : Jvm.MethodName)) ∈ gW := gW_of (List.mem_of_getElem? (i := 628) (by decide +kernel)) rfl
theorem t_629 : (Jvm.Cond.selects "CardLink$Side" ({ cls := "CardLink$Side", name := "requestKind", desc := "()I" } : Jvm.MethodName) ({ cls := "CardLink$Side", name := "requestKind", desc := "()I" } : Jvm.MethodName)) ∈ gW := gW_of (List.mem_of_getElem? (i := 629) (by decide +kernel)) rfl
theorem t_630 : (Jvm.Cond.code ({ cls := "CardLink$Side", name := "requestKind", desc := "()I" } : Jvm.MethodName) prog_7_method_15_code (1 : Nat) (Option.some Jvm.ClassFile.FieldType.int)) ∈ gW := gW_of (List.mem_of_getElem? (i := 630) (by decide +kernel)) rfl
theorem t_631 : (Jvm.Cond.methodLink "CardLink$Line" (128 : Nat) ({ cls := "CardLink$Line", name := "readerKind", desc := "()I" } : Jvm.MethodName)) ∈ gW := gW_of (List.mem_of_getElem? (i := 631) (by decide +kernel)) rfl
theorem t_633 : (Jvm.Cond.instanceMethod ({ cls := "CardLink$Line", name := "readerKind", desc := "()I" } : Jvm.MethodName)) ∈ gW := gW_of (List.mem_of_getElem? (i := 633) (by decide +kernel)) rfl
theorem t_634 : (Jvm.Cond.code ({ cls := "CardLink$Line", name := "readerKind", desc := "()I" } : Jvm.MethodName) prog_4_method_13_code (2 : Nat) (Option.some Jvm.ClassFile.FieldType.int)) ∈ gW := gW_of (List.mem_of_getElem? (i := 634) (by decide +kernel)) rfl
theorem t_635 : (Jvm.Cond.methodLink "CardLink$Line" (152 : Nat) ({ cls := "CardLink$Line", name := "onBroken", desc := "(LCardLink$Side;)I" } : Jvm.MethodName)) ∈ gW := gW_of (List.mem_of_getElem? (i := 635) (by decide +kernel)) rfl
theorem t_637 : (Jvm.Cond.instanceMethod ({ cls := "CardLink$Line", name := "onBroken", desc := "(LCardLink$Side;)I" } : Jvm.MethodName)) ∈ gW := gW_of (List.mem_of_getElem? (i := 637) (by decide +kernel)) rfl
theorem t_638 : (Jvm.Cond.code ({ cls := "CardLink$Line", name := "onBroken", desc := "(LCardLink$Side;)I" } : Jvm.MethodName) prog_4_method_15_code (2 : Nat) (Option.some Jvm.ClassFile.FieldType.int)) ∈ gW := gW_of (List.mem_of_getElem? (i := 638) (by decide +kernel)) rfl
theorem t_639 : (Jvm.Cond.methodLink "CardLink$Line" (188 : Nat) ({ cls := "CardLink$Side", name := "requestKind", desc := "()I" } : Jvm.MethodName)) ∈ gW := gW_of (List.mem_of_getElem? (i := 639) (by decide +kernel)) rfl
theorem t_640 : (Jvm.Cond.methodLink "CardLink$Line" (191 : Nat) ({ cls := "CardLink$Side", name := "receipt", desc := "(I)I" } : Jvm.MethodName)) ∈ gW := gW_of (List.mem_of_getElem? (i := 640) (by decide +kernel)) rfl
theorem t_641 : (Jvm.Cond.instanceMethod ({ cls := "CardLink$Side", name := "receipt", desc := "(I)I" } : Jvm.MethodName)) ∈ gW := gW_of (List.mem_of_getElem? (i := 641) (by decide +kernel)) rfl
theorem t_642 : (Jvm.Cond.selects "CardLink$Side" ({ cls := "CardLink$Side", name := "receipt", desc := "(I)I" } : Jvm.MethodName) ({ cls := "CardLink$Side", name := "receipt", desc := "(I)I" } : Jvm.MethodName)) ∈ gW := gW_of (List.mem_of_getElem? (i := 642) (by decide +kernel)) rfl
theorem t_643 : (Jvm.Cond.code ({ cls := "CardLink$Side", name := "receipt", desc := "(I)I" } : Jvm.MethodName) prog_7_method_17_code (2 : Nat) (Option.some Jvm.ClassFile.FieldType.int)) ∈ gW := gW_of (List.mem_of_getElem? (i := 643) (by decide +kernel)) rfl
theorem t_644 : (Jvm.Cond.methodLink "CardLink$Line" (156 : Nat) ({ cls := "CardLink$Row", name := "at", desc := "(I)I" } : Jvm.MethodName)) ∈ gW := gW_of (List.mem_of_getElem? (i := 644) (by decide +kernel)) rfl
theorem t_645 : (Jvm.Cond.methodLink "CardLink$Line" (159 : Nat) ({ cls := "CardLink$Line", name := "readerOnAnswer", desc := "()I" } : Jvm.MethodName)) ∈ gW := gW_of (List.mem_of_getElem? (i := 645) (by decide +kernel)) rfl
theorem t_647 : (Jvm.Cond.instanceMethod ({ cls := "CardLink$Line", name := "readerOnAnswer", desc := "()I" } : Jvm.MethodName)) ∈ gW := gW_of (List.mem_of_getElem? (i := 647) (by decide +kernel)) rfl
theorem t_648 : (Jvm.Cond.code ({ cls := "CardLink$Line", name := "readerOnAnswer", desc := "()I" } : Jvm.MethodName) prog_4_method_18_code (2 : Nat) (Option.some Jvm.ClassFile.FieldType.int)) ∈ gW := gW_of (List.mem_of_getElem? (i := 648) (by decide +kernel)) rfl
theorem t_649 : (Jvm.Cond.methodLink "CardLink$Line" (197 : Nat) ({ cls := "CardLink$Line", name := "isAnswerTo", desc := "(LCardLink$Side;)Z" } : Jvm.MethodName)) ∈ gW := gW_of (List.mem_of_getElem? (i := 649) (by decide +kernel)) rfl
theorem t_651 : (Jvm.Cond.instanceMethod ({ cls := "CardLink$Line", name := "isAnswerTo", desc := "(LCardLink$Side;)Z" } : Jvm.MethodName)) ∈ gW := gW_of (List.mem_of_getElem? (i := 651) (by decide +kernel)) rfl
theorem t_652 : (Jvm.Cond.code ({ cls := "CardLink$Line", name := "isAnswerTo", desc := "(LCardLink$Side;)Z" } : Jvm.MethodName) prog_4_method_17_code (2 : Nat) (Option.some Jvm.ClassFile.FieldType.boolean)) ∈ gW := gW_of (List.mem_of_getElem? (i := 652) (by decide +kernel)) rfl
theorem t_653 : (Jvm.Cond.methodLink "CardLink$Line" (182 : Nat) ({ cls := "CardLink$Side", name := "emptyAll", desc := "()V" } : Jvm.MethodName)) ∈ gW := gW_of (List.mem_of_getElem? (i := 653) (by decide +kernel)) rfl
theorem t_654 : (Jvm.Cond.methodLink "CardLink$Line" (173 : Nat) ({ cls := "CardLink$Line", name := "finish", desc := "(I)I" } : Jvm.MethodName)) ∈ gW := gW_of (List.mem_of_getElem? (i := 654) (by decide +kernel)) rfl
theorem t_656 : (Jvm.Cond.instanceMethod ({ cls := "CardLink$Line", name := "finish", desc := "(I)I" } : Jvm.MethodName)) ∈ gW := gW_of (List.mem_of_getElem? (i := 656) (by decide +kernel)) rfl
theorem t_657 : (Jvm.Cond.code ({ cls := "CardLink$Line", name := "finish", desc := "(I)I" } : Jvm.MethodName) prog_4_method_19_code (2 : Nat) (Option.some Jvm.ClassFile.FieldType.int)) ∈ gW := gW_of (List.mem_of_getElem? (i := 657) (by decide +kernel)) rfl
theorem t_658 : (Jvm.Cond.methodLink "CardLink$Line" (162 : Nat) ({ cls := "CardLink$Line", name := "onRequest", desc := "(LCardLink$Side;LCardLink$Side;I)I" } : Jvm.MethodName)) ∈ gW := gW_of (List.mem_of_getElem? (i := 658) (by decide +kernel)) rfl
theorem t_660 : (Jvm.Cond.instanceMethod ({ cls := "CardLink$Line", name := "onRequest", desc := "(LCardLink$Side;LCardLink$Side;I)I" } : Jvm.MethodName)) ∈ gW := gW_of (List.mem_of_getElem? (i := 660) (by decide +kernel)) rfl
theorem t_661 : (Jvm.Cond.code ({ cls := "CardLink$Line", name := "onRequest", desc := "(LCardLink$Side;LCardLink$Side;I)I" } : Jvm.MethodName) prog_4_method_23_code (5 : Nat) (Option.some Jvm.ClassFile.FieldType.int)) ∈ gW := gW_of (List.mem_of_getElem? (i := 661) (by decide +kernel)) rfl
theorem t_662 : (Jvm.Cond.methodLink "CardLink$Line" (232 : Nat) ({ cls := "CardLink$Side", name := "breakOff", desc := "()V" } : Jvm.MethodName)) ∈ gW := gW_of (List.mem_of_getElem? (i := 662) (by decide +kernel)) rfl
theorem t_663 : (Jvm.Cond.instanceMethod ({ cls := "CardLink$Side", name := "breakOff", desc := "()V" } : Jvm.MethodName)) ∈ gW := gW_of (List.mem_of_getElem? (i := 663) (by decide +kernel)) rfl
theorem t_664 : (Jvm.Cond.selects "CardLink$Side" ({ cls := "CardLink$Side", name := "breakOff", desc := "()V" } : Jvm.MethodName) ({ cls := "CardLink$Side", name := "breakOff", desc := "()V" } : Jvm.MethodName)) ∈ gW := gW_of (List.mem_of_getElem? (i := 664) (by decide +kernel)) rfl
theorem t_665 : (Jvm.Cond.code ({ cls := "CardLink$Side", name := "breakOff", desc := "()V" } : Jvm.MethodName) prog_7_method_5_code (1 : Nat) (Option.none : Option Jvm.ClassFile.FieldType)) ∈ gW := gW_of (List.mem_of_getElem? (i := 665) (by decide +kernel)) rfl
theorem t_666 : (Jvm.Cond.methodLink "CardLink$Side" (75 : Nat) ({ cls := "CardLink$Side", name := "passPending", desc := "()V" } : Jvm.MethodName)) ∈ gW := gW_of (List.mem_of_getElem? (i := 666) (by decide +kernel)) rfl
theorem t_667 : (Jvm.Cond.instanceMethod ({ cls := "CardLink$Side", name := "passPending", desc := "()V" } : Jvm.MethodName)) ∈ gW := gW_of (List.mem_of_getElem? (i := 667) (by decide +kernel)) rfl
theorem t_668 : (Jvm.Cond.selects "CardLink$Side" ({ cls := "CardLink$Side", name := "passPending", desc := "()V" } : Jvm.MethodName) ({ cls := "CardLink$Side", name := "passPending", desc := "()V" } : Jvm.MethodName)) ∈ gW := gW_of (List.mem_of_getElem? (i := 668) (by decide +kernel)) rfl
theorem t_669 : (Jvm.Cond.code ({ cls := "CardLink$Side", name := "passPending", desc := "()V" } : Jvm.MethodName) prog_7_method_11_code (1 : Nat) (Option.none : Option Jvm.ClassFile.FieldType)) ∈ gW := gW_of (List.mem_of_getElem? (i := 669) (by decide +kernel)) rfl
theorem t_670 : (Jvm.Cond.methodLink "CardLink$Line" (211 : Nat) ({ cls := "CardLink$Line", name := "refuse", desc := "(LCardLink$Side;)I" } : Jvm.MethodName)) ∈ gW := gW_of (List.mem_of_getElem? (i := 670) (by decide +kernel)) rfl
theorem t_672 : (Jvm.Cond.instanceMethod ({ cls := "CardLink$Line", name := "refuse", desc := "(LCardLink$Side;)I" } : Jvm.MethodName)) ∈ gW := gW_of (List.mem_of_getElem? (i := 672) (by decide +kernel)) rfl
theorem t_673 : (Jvm.Cond.code ({ cls := "CardLink$Line", name := "refuse", desc := "(LCardLink$Side;)I" } : Jvm.MethodName) prog_4_method_16_code (2 : Nat) (Option.some Jvm.ClassFile.FieldType.int)) ∈ gW := gW_of (List.mem_of_getElem? (i := 673) (by decide +kernel)) rfl
theorem t_674 : (Jvm.Cond.methodLink "CardLink$Line" (166 : Nat) ({ cls := "CardLink$Line", name := "onI", desc := "(LCardLink$Side;I)I" } : Jvm.MethodName)) ∈ gW := gW_of (List.mem_of_getElem? (i := 674) (by decide +kernel)) rfl
theorem t_676 : (Jvm.Cond.instanceMethod ({ cls := "CardLink$Line", name := "onI", desc := "(LCardLink$Side;I)I" } : Jvm.MethodName)) ∈ gW := gW_of (List.mem_of_getElem? (i := 676) (by decide +kernel)) rfl
theorem t_677 : (Jvm.Cond.code ({ cls := "CardLink$Line", name := "onI", desc := "(LCardLink$Side;I)I" } : Jvm.MethodName) prog_4_method_21_code (3 : Nat) (Option.some Jvm.ClassFile.FieldType.int)) ∈ gW := gW_of (List.mem_of_getElem? (i := 677) (by decide +kernel)) rfl
theorem t_678 : (Jvm.Cond.methodLink "CardLink$Line" (207 : Nat) ({ cls := "CardLink$Side", name := "pendingHasMore", desc := "()Z" } : Jvm.MethodName)) ∈ gW := gW_of (List.mem_of_getElem? (i := 678) (by decide +kernel)) rfl
theorem t_679 : (Jvm.Cond.instanceMethod ({ cls := "CardLink$Side", name := "pendingHasMore", desc := "()Z" } : Jvm.MethodName)) ∈ gW := gW_of (List.mem_of_getElem? (i := 679) (by decide +kernel)) rfl
theorem t_680 : (Jvm.Cond.selects "CardLink$Side" ({ cls := "CardLink$Side", name := "pendingHasMore", desc := "()Z" } : Jvm.MethodName) ({ cls := "CardLink$Side", name := "pendingHasMore", desc := "()Z" } : Jvm.MethodName)) ∈ gW := gW_of (List.mem_of_getElem? (i := 680) (by decide +kernel)) rfl
theorem t_681 : (Jvm.Cond.code ({ cls := "CardLink$Side", name := "pendingHasMore", desc := "()Z" } : Jvm.MethodName) prog_7_method_10_code (1 : Nat) (Option.some Jvm.ClassFile.FieldType.boolean)) ∈ gW := gW_of (List.mem_of_getElem? (i := 681) (by decide +kernel)) rfl
theorem t_682 : (Jvm.Cond.methodLink "CardLink$Line" (214 : Nat) ({ cls := "CardLink$Side", name := "passPending", desc := "()V" } : Jvm.MethodName)) ∈ gW := gW_of (List.mem_of_getElem? (i := 682) (by decide +kernel)) rfl
theorem t_683 : (Jvm.Cond.methodLink "CardLink$Line" (217 : Nat) ({ cls := "CardLink$Side", name := "takeInf", desc := "(LCardLink$Row;)V" } : Jvm.MethodName)) ∈ gW := gW_of (List.mem_of_getElem? (i := 683) (by decide +kernel)) rfl
theorem t_684 : (Jvm.Cond.instanceMethod ({ cls := "CardLink$Side", name := "takeInf", desc := "(LCardLink$Row;)V" } : Jvm.MethodName)) ∈ gW := gW_of (List.mem_of_getElem? (i := 684) (by decide +kernel)) rfl
theorem t_685 : (Jvm.Cond.selects "CardLink$Side" ({ cls := "CardLink$Side", name := "takeInf", desc := "(LCardLink$Row;)V" } : Jvm.MethodName) ({ cls := "CardLink$Side", name := "takeInf", desc := "(LCardLink$Row;)V" } : Jvm.MethodName)) ∈ gW := gW_of (List.mem_of_getElem? (i := 685) (by decide +kernel)) rfl
theorem t_686 : (Jvm.Cond.code ({ cls := "CardLink$Side", name := "takeInf", desc := "(LCardLink$Row;)V" } : Jvm.MethodName) prog_7_method_12_code (3 : Nat) (Option.none : Option Jvm.ClassFile.FieldType)) ∈ gW := gW_of (List.mem_of_getElem? (i := 686) (by decide +kernel)) rfl
theorem t_687 : (Jvm.Cond.methodLink "CardLink$Side" (78 : Nat) ({ cls := "CardLink$Row", name := "size", desc := "()I" } : Jvm.MethodName)) ∈ gW := gW_of (List.mem_of_getElem? (i := 687) (by decide +kernel)) rfl
theorem t_688 : (Jvm.Cond.methodLink "CardLink$Side" (94 : Nat) ({ cls := "CardLink$Row", name := "at", desc := "(I)I" } : Jvm.MethodName)) ∈ gW := gW_of (List.mem_of_getElem? (i := 688) (by decide +kernel)) rfl
theorem t_689 : (Jvm.Cond.methodLink "CardLink$Side" (98 : Nat) ({ cls := "CardLink$Row", name := "add", desc := "(I)V" } : Jvm.MethodName)) ∈ gW := gW_of (List.mem_of_getElem? (i := 689) (by decide +kernel)) rfl
theorem t_690 : (Jvm.Cond.methodLink "CardLink$Line" (220 : Nat) ({ cls := "CardLink$Side", name := "takeWhole", desc := "()V" } : Jvm.MethodName)) ∈ gW := gW_of (List.mem_of_getElem? (i := 690) (by decide +kernel)) rfl
theorem t_691 : (Jvm.Cond.instanceMethod ({ cls := "CardLink$Side", name := "takeWhole", desc := "()V" } : Jvm.MethodName)) ∈ gW := gW_of (List.mem_of_getElem? (i := 691) (by decide +kernel)) rfl
theorem t_692 : (Jvm.Cond.selects "CardLink$Side" ({ cls := "CardLink$Side", name := "takeWhole", desc := "()V" } : Jvm.MethodName) ({ cls := "CardLink$Side", name := "takeWhole", desc := "()V" } : Jvm.MethodName)) ∈ gW := gW_of (List.mem_of_getElem? (i := 692) (by decide +kernel)) rfl
theorem t_693 : (Jvm.Cond.code ({ cls := "CardLink$Side", name := "takeWhole", desc := "()V" } : Jvm.MethodName) prog_7_method_13_code (1 : Nat) (Option.none : Option Jvm.ClassFile.FieldType)) ∈ gW := gW_of (List.mem_of_getElem? (i := 693) (by decide +kernel)) rfl
theorem t_694 : (Jvm.Cond.methodLink "CardLink$Side" (71 : Nat) ({ cls := "CardLink$Row", name := "copy", desc := "(LCardLink$Row;)V" } : Jvm.MethodName)) ∈ gW := gW_of (List.mem_of_getElem? (i := 694) (by decide +kernel)) rfl
theorem t_695 : (Jvm.Cond.methodLink "CardLink$Line" (170 : Nat) ({ cls := "CardLink$Side", name := "takeEmpty", desc := "()V" } : Jvm.MethodName)) ∈ gW := gW_of (List.mem_of_getElem? (i := 695) (by decide +kernel)) rfl
theorem t_696 : (Jvm.Cond.instanceMethod ({ cls := "CardLink$Side", name := "takeEmpty", desc := "()V" } : Jvm.MethodName)) ∈ gW := gW_of (List.mem_of_getElem? (i := 696) (by decide +kernel)) rfl
theorem t_697 : (Jvm.Cond.selects "CardLink$Side" ({ cls := "CardLink$Side", name := "takeEmpty", desc := "()V" } : Jvm.MethodName) ({ cls := "CardLink$Side", name := "takeEmpty", desc := "()V" } : Jvm.MethodName)) ∈ gW := gW_of (List.mem_of_getElem? (i := 697) (by decide +kernel)) rfl
theorem t_698 : (Jvm.Cond.code ({ cls := "CardLink$Side", name := "takeEmpty", desc := "()V" } : Jvm.MethodName) prog_7_method_14_code (1 : Nat) (Option.none : Option Jvm.ClassFile.FieldType)) ∈ gW := gW_of (List.mem_of_getElem? (i := 698) (by decide +kernel)) rfl
theorem t_699 : (Jvm.Cond.methodLink "CardLink$Line" (176 : Nat) ({ cls := "CardLink$Line", name := "onReceipt", desc := "(LCardLink$Side;I)I" } : Jvm.MethodName)) ∈ gW := gW_of (List.mem_of_getElem? (i := 699) (by decide +kernel)) rfl
theorem t_701 : (Jvm.Cond.instanceMethod ({ cls := "CardLink$Line", name := "onReceipt", desc := "(LCardLink$Side;I)I" } : Jvm.MethodName)) ∈ gW := gW_of (List.mem_of_getElem? (i := 701) (by decide +kernel)) rfl
theorem t_702 : (Jvm.Cond.code ({ cls := "CardLink$Line", name := "onReceipt", desc := "(LCardLink$Side;I)I" } : Jvm.MethodName) prog_4_method_22_code (4 : Nat) (Option.some Jvm.ClassFile.FieldType.int)) ∈ gW := gW_of (List.mem_of_getElem? (i := 702) (by decide +kernel)) rfl
theorem t_703 : (Jvm.Cond.methodLink "CardLink$Line" (223 : Nat) ({ cls := "CardLink$Side", name := "hasPending", desc := "()Z" } : Jvm.MethodName)) ∈ gW := gW_of (List.mem_of_getElem? (i := 703) (by decide +kernel)) rfl
theorem t_704 : (Jvm.Cond.instanceMethod ({ cls := "CardLink$Side", name := "hasPending", desc := "()Z" } : Jvm.MethodName)) ∈ gW := gW_of (List.mem_of_getElem? (i := 704) (by decide +kernel)) rfl
theorem t_705 : (Jvm.Cond.selects "CardLink$Side" ({ cls := "CardLink$Side", name := "hasPending", desc := "()Z" } : Jvm.MethodName) ({ cls := "CardLink$Side", name := "hasPending", desc := "()Z" } : Jvm.MethodName)) ∈ gW := gW_of (List.mem_of_getElem? (i := 705) (by decide +kernel)) rfl
theorem t_706 : (Jvm.Cond.code ({ cls := "CardLink$Side", name := "hasPending", desc := "()Z" } : Jvm.MethodName) prog_7_method_9_code (1 : Nat) (Option.some Jvm.ClassFile.FieldType.boolean)) ∈ gW := gW_of (List.mem_of_getElem? (i := 706) (by decide +kernel)) rfl
theorem t_707 : (Jvm.Cond.methodLink "CardLink$Line" (229 : Nat) ({ cls := "CardLink$Side", name := "pendingKind", desc := "()I" } : Jvm.MethodName)) ∈ gW := gW_of (List.mem_of_getElem? (i := 707) (by decide +kernel)) rfl
theorem t_708 : (Jvm.Cond.instanceMethod ({ cls := "CardLink$Side", name := "pendingKind", desc := "()I" } : Jvm.MethodName)) ∈ gW := gW_of (List.mem_of_getElem? (i := 708) (by decide +kernel)) rfl
theorem t_709 : (Jvm.Cond.selects "CardLink$Side" ({ cls := "CardLink$Side", name := "pendingKind", desc := "()I" } : Jvm.MethodName) ({ cls := "CardLink$Side", name := "pendingKind", desc := "()I" } : Jvm.MethodName)) ∈ gW := gW_of (List.mem_of_getElem? (i := 709) (by decide +kernel)) rfl
theorem t_710 : (Jvm.Cond.code ({ cls := "CardLink$Side", name := "pendingKind", desc := "()I" } : Jvm.MethodName) prog_7_method_7_code (1 : Nat) (Option.some Jvm.ClassFile.FieldType.int)) ∈ gW := gW_of (List.mem_of_getElem? (i := 710) (by decide +kernel)) rfl
theorem t_711 : (Jvm.Cond.methodLink "CardLink$Line" (131 : Nat) ({ cls := "CardLink$Line", name := "countTries", desc := "(I)I" } : Jvm.MethodName)) ∈ gW := gW_of (List.mem_of_getElem? (i := 711) (by decide +kernel)) rfl
theorem t_713 : (Jvm.Cond.instanceMethod ({ cls := "CardLink$Line", name := "countTries", desc := "(I)I" } : Jvm.MethodName)) ∈ gW := gW_of (List.mem_of_getElem? (i := 713) (by decide +kernel)) rfl
theorem t_714 : (Jvm.Cond.code ({ cls := "CardLink$Line", name := "countTries", desc := "(I)I" } : Jvm.MethodName) prog_4_method_12_code (2 : Nat) (Option.some Jvm.ClassFile.FieldType.int)) ∈ gW := gW_of (List.mem_of_getElem? (i := 714) (by decide +kernel)) rfl
theorem t_715 : (Jvm.Cond.methodLink "CardLink$Line" (135 : Nat) ({ cls := "CardLink$Line", name := "send", desc := "(LCardLink$Side;LCardLink$Side;I)V" } : Jvm.MethodName)) ∈ gW := gW_of (List.mem_of_getElem? (i := 715) (by decide +kernel)) rfl
theorem t_717 : (Jvm.Cond.instanceMethod ({ cls := "CardLink$Line", name := "send", desc := "(LCardLink$Side;LCardLink$Side;I)V" } : Jvm.MethodName)) ∈ gW := gW_of (List.mem_of_getElem? (i := 717) (by decide +kernel)) rfl
theorem t_718 : (Jvm.Cond.code ({ cls := "CardLink$Line", name := "send", desc := "(LCardLink$Side;LCardLink$Side;I)V" } : Jvm.MethodName) prog_4_method_29_code (7 : Nat) (Option.none : Option Jvm.ClassFile.FieldType)) ∈ gW := gW_of (List.mem_of_getElem? (i := 718) (by decide +kernel)) rfl
theorem t_719 : (Jvm.Cond.methodLink "CardLink$Line" (247 : Nat) ({ cls := "CardLink$Line", name := "kindToSend", desc := "(LCardLink$Side;LCardLink$Side;I)I" } : Jvm.MethodName)) ∈ gW := gW_of (List.mem_of_getElem? (i := 719) (by decide +kernel)) rfl
theorem t_720 : (Jvm.Cond.static ({ cls := "CardLink$Line", name := "kindToSend", desc := "(LCardLink$Side;LCardLink$Side;I)I" } : Jvm.MethodName)) ∈ gW := gW_of (List.mem_of_getElem? (i := 720) (by decide +kernel)) rfl
theorem t_721 : (Jvm.Cond.code ({ cls := "CardLink$Line", name := "kindToSend", desc := "(LCardLink$Side;LCardLink$Side;I)I" } : Jvm.MethodName) prog_4_method_28_code (3 : Nat) (Option.some Jvm.ClassFile.FieldType.int)) ∈ gW := gW_of (List.mem_of_getElem? (i := 721) (by decide +kernel)) rfl
theorem t_722 : (Jvm.Cond.methodLink "CardLink$Line" (244 : Nat) ({ cls := "CardLink$Side", name := "cutNext", desc := "(I)I" } : Jvm.MethodName)) ∈ gW := gW_of (List.mem_of_getElem? (i := 722) (by decide +kernel)) rfl
theorem t_723 : (Jvm.Cond.instanceMethod ({ cls := "CardLink$Side", name := "cutNext", desc := "(I)I" } : Jvm.MethodName)) ∈ gW := gW_of (List.mem_of_getElem? (i := 723) (by decide +kernel)) rfl
theorem t_724 : (Jvm.Cond.selects "CardLink$Side" ({ cls := "CardLink$Side", name := "cutNext", desc := "(I)I" } : Jvm.MethodName) ({ cls := "CardLink$Side", name := "cutNext", desc := "(I)I" } : Jvm.MethodName)) ∈ gW := gW_of (List.mem_of_getElem? (i := 724) (by decide +kernel)) rfl
theorem t_725 : (Jvm.Cond.code ({ cls := "CardLink$Side", name := "cutNext", desc := "(I)I" } : Jvm.MethodName) prog_7_method_6_code (3 : Nat) (Option.some Jvm.ClassFile.FieldType.int)) ∈ gW := gW_of (List.mem_of_getElem? (i := 725) (by decide +kernel)) rfl
theorem t_726 : (Jvm.Cond.methodLink "CardLink$Side" (82 : Nat) ({ cls := "java/lang/Math", name := "max", desc := "(II)I" } : Jvm.MethodName)) ∈ gW := gW_of (List.mem_of_getElem? (i := 726) (by decide +kernel)) rfl
theorem t_727 : (Jvm.Cond.methodLink "CardLink$Side" (88 : Nat) ({ cls := "java/lang/Math", name := "min", desc := "(II)I" } : Jvm.MethodName)) ∈ gW := gW_of (List.mem_of_getElem? (i := 727) (by decide +kernel)) rfl
theorem t_728 : (Jvm.Cond.methodLink "CardLink$Side" (91 : Nat) ({ cls := "CardLink$Side", name := "pendingKind", desc := "()I" } : Jvm.MethodName)) ∈ gW := gW_of (List.mem_of_getElem? (i := 728) (by decide +kernel)) rfl
theorem t_729 : (Jvm.Cond.methodLink "CardLink$Line" (250 : Nat) ({ cls := "CardLink$Line", name := "compose", desc := "(LCardLink$Side;I)V" } : Jvm.MethodName)) ∈ gW := gW_of (List.mem_of_getElem? (i := 729) (by decide +kernel)) rfl
theorem t_731 : (Jvm.Cond.instanceMethod ({ cls := "CardLink$Line", name := "compose", desc := "(LCardLink$Side;I)V" } : Jvm.MethodName)) ∈ gW := gW_of (List.mem_of_getElem? (i := 731) (by decide +kernel)) rfl
theorem t_732 : (Jvm.Cond.code ({ cls := "CardLink$Line", name := "compose", desc := "(LCardLink$Side;I)V" } : Jvm.MethodName) prog_4_method_30_code (5 : Nat) (Option.none : Option Jvm.ClassFile.FieldType)) ∈ gW := gW_of (List.mem_of_getElem? (i := 732) (by decide +kernel)) rfl
theorem t_733 : (Jvm.Cond.methodLink "CardLink$Line" (241 : Nat) ({ cls := "CardLink$Row", name := "add", desc := "(I)V" } : Jvm.MethodName)) ∈ gW := gW_of (List.mem_of_getElem? (i := 733) (by decide +kernel)) rfl
theorem t_734 : (Jvm.Cond.methodLink "CardLink$Line" (280 : Nat) ({ cls := "CardLink$Side", name := "pendingSize", desc := "()I" } : Jvm.MethodName)) ∈ gW := gW_of (List.mem_of_getElem? (i := 734) (by decide +kernel)) rfl
theorem t_735 : (Jvm.Cond.instanceMethod ({ cls := "CardLink$Side", name := "pendingSize", desc := "()I" } : Jvm.MethodName)) ∈ gW := gW_of (List.mem_of_getElem? (i := 735) (by decide +kernel)) rfl
theorem t_736 : (Jvm.Cond.selects "CardLink$Side" ({ cls := "CardLink$Side", name := "pendingSize", desc := "()I" } : Jvm.MethodName) ({ cls := "CardLink$Side", name := "pendingSize", desc := "()I" } : Jvm.MethodName)) ∈ gW := gW_of (List.mem_of_getElem? (i := 736) (by decide +kernel)) rfl
theorem t_737 : (Jvm.Cond.code ({ cls := "CardLink$Side", name := "pendingSize", desc := "()I" } : Jvm.MethodName) prog_7_method_8_code (1 : Nat) (Option.some Jvm.ClassFile.FieldType.int)) ∈ gW := gW_of (List.mem_of_getElem? (i := 737) (by decide +kernel)) rfl
theorem t_738 : (Jvm.Cond.methodLink "CardLink$Line" (283 : Nat) ({ cls := "CardLink$Line", name := "hasInf", desc := "(I)Z" } : Jvm.MethodName)) ∈ gW := gW_of (List.mem_of_getElem? (i := 738) (by decide +kernel)) rfl
theorem t_739 : (Jvm.Cond.static ({ cls := "CardLink$Line", name := "hasInf", desc := "(I)Z" } : Jvm.MethodName)) ∈ gW := gW_of (List.mem_of_getElem? (i := 739) (by decide +kernel)) rfl
theorem t_740 : (Jvm.Cond.code ({ cls := "CardLink$Line", name := "hasInf", desc := "(I)Z" } : Jvm.MethodName) prog_4_method_31_code (1 : Nat) (Option.some Jvm.ClassFile.FieldType.boolean)) ∈ gW := gW_of (List.mem_of_getElem? (i := 740) (by decide +kernel)) rfl
theorem t_741 : (Jvm.Cond.methodLink "CardLink$Line" (287 : Nat) ({ cls := "CardLink$Row", name := "xor", desc := "(I)I" } : Jvm.MethodName)) ∈ gW := gW_of (List.mem_of_getElem? (i := 741) (by decide +kernel)) rfl
theorem t_742 : (Jvm.Cond.instanceMethod ({ cls := "CardLink$Row", name := "xor", desc := "(I)I" } : Jvm.MethodName)) ∈ gW := gW_of (List.mem_of_getElem? (i := 742) (by decide +kernel)) rfl
theorem t_743 : (Jvm.Cond.selects "CardLink$Row" ({ cls := "CardLink$Row", name := "xor", desc := "(I)I" } : Jvm.MethodName) ({ cls := "CardLink$Row", name := "xor", desc := "(I)I" } : Jvm.MethodName)) ∈ gW := gW_of (List.mem_of_getElem? (i := 743) (by decide +kernel)) rfl
theorem t_744 : (Jvm.Cond.code ({ cls := "CardLink$Row", name := "xor", desc := "(I)I" } : Jvm.MethodName) prog_6_method_9_code (4 : Nat) (Option.some Jvm.ClassFile.FieldType.int)) ∈ gW := gW_of (List.mem_of_getElem? (i := 744) (by decide +kernel)) rfl
theorem t_745 : (Jvm.Cond.methodLink "CardLink$Row" (41 : Nat) ({ cls := "CardLink$Row", name := "at", desc := "(I)I" } : Jvm.MethodName)) ∈ gW := gW_of (List.mem_of_getElem? (i := 745) (by decide +kernel)) rfl
theorem t_746 : (Jvm.Cond.methodLink "CardLink$Line" (254 : Nat) ({ cls := "CardLink$Side", name := "noteSent", desc := "(I)V" } : Jvm.MethodName)) ∈ gW := gW_of (List.mem_of_getElem? (i := 746) (by decide +kernel)) rfl
theorem t_747 : (Jvm.Cond.instanceMethod ({ cls := "CardLink$Side", name := "noteSent", desc := "(I)V" } : Jvm.MethodName)) ∈ gW := gW_of (List.mem_of_getElem? (i := 747) (by decide +kernel)) rfl
theorem t_748 : (Jvm.Cond.selects "CardLink$Side" ({ cls := "CardLink$Side", name := "noteSent", desc := "(I)V" } : Jvm.MethodName) ({ cls := "CardLink$Side", name := "noteSent", desc := "(I)V" } : Jvm.MethodName)) ∈ gW := gW_of (List.mem_of_getElem? (i := 748) (by decide +kernel)) rfl
theorem t_749 : (Jvm.Cond.code ({ cls := "CardLink$Side", name := "noteSent", desc := "(I)V" } : Jvm.MethodName) prog_7_method_18_code (2 : Nat) (Option.none : Option Jvm.ClassFile.FieldType)) ∈ gW := gW_of (List.mem_of_getElem? (i := 749) (by decide +kernel)) rfl
theorem t_750 : (Jvm.Cond.methodLink "CardLink$Line" (260 : Nat) ({ cls := "CardLink$Wire", name := "carry", desc := "(LCardLink$Row;LCardLink$Row;)I" } : Jvm.MethodName)) ∈ gW := gW_of (List.mem_of_getElem? (i := 750) (by decide +kernel)) rfl
theorem t_751 : (Jvm.Cond.instanceMethod ({ cls := "CardLink$Wire", name := "carry", desc := "(LCardLink$Row;LCardLink$Row;)I" } : Jvm.MethodName)) ∈ gW := gW_of (List.mem_of_getElem? (i := 751) (by decide +kernel)) rfl
theorem t_752 : (Jvm.Cond.selects "CardLink$Wire" ({ cls := "CardLink$Wire", name := "carry", desc := "(LCardLink$Row;LCardLink$Row;)I" } : Jvm.MethodName) ({ cls := "CardLink$Wire", name := "carry", desc := "(LCardLink$Row;LCardLink$Row;)I" } : Jvm.MethodName)) ∈ gW := gW_of (List.mem_of_getElem? (i := 752) (by decide +kernel)) rfl
theorem t_753 : (Jvm.Cond.code ({ cls := "CardLink$Wire", name := "carry", desc := "(LCardLink$Row;LCardLink$Row;)I" } : Jvm.MethodName) prog_8_method_11_code (7 : Nat) (Option.some Jvm.ClassFile.FieldType.int)) ∈ gW := gW_of (List.mem_of_getElem? (i := 753) (by decide +kernel)) rfl
theorem t_754 : (Jvm.Cond.methodLink "CardLink$Wire" (56 : Nat) ({ cls := "CardLink$Row", name := "keep", desc := "(I)V" } : Jvm.MethodName)) ∈ gW := gW_of (List.mem_of_getElem? (i := 754) (by decide +kernel)) rfl
theorem t_755 : (Jvm.Cond.methodLink "CardLink$Wire" (61 : Nat) ({ cls := "CardLink$Row", name := "size", desc := "()I" } : Jvm.MethodName)) ∈ gW := gW_of (List.mem_of_getElem? (i := 755) (by decide +kernel)) rfl
theorem t_756 : (Jvm.Cond.methodLink "CardLink$Wire" (65 : Nat) ({ cls := "CardLink$Wire", name := "sendLetter", desc := "()I" } : Jvm.MethodName)) ∈ gW := gW_of (List.mem_of_getElem? (i := 756) (by decide +kernel)) rfl
theorem t_758 : (Jvm.Cond.instanceMethod ({ cls := "CardLink$Wire", name := "sendLetter", desc := "()I" } : Jvm.MethodName)) ∈ gW := gW_of (List.mem_of_getElem? (i := 758) (by decide +kernel)) rfl
theorem t_759 : (Jvm.Cond.code ({ cls := "CardLink$Wire", name := "sendLetter", desc := "()I" } : Jvm.MethodName) prog_8_method_10_code (2 : Nat) (Option.some Jvm.ClassFile.FieldType.int)) ∈ gW := gW_of (List.mem_of_getElem? (i := 759) (by decide +kernel)) rfl
theorem t_760 : (Jvm.Cond.methodLink "CardLink$Wire" (53 : Nat) ({ cls := "CardLink$Wire", name := "dropNearest", desc := "()V" } : Jvm.MethodName)) ∈ gW := gW_of (List.mem_of_getElem? (i := 760) (by decide +kernel)) rfl
theorem t_762 : (Jvm.Cond.instanceMethod ({ cls := "CardLink$Wire", name := "dropNearest", desc := "()V" } : Jvm.MethodName)) ∈ gW := gW_of (List.mem_of_getElem? (i := 762) (by decide +kernel)) rfl
theorem t_763 : (Jvm.Cond.code ({ cls := "CardLink$Wire", name := "dropNearest", desc := "()V" } : Jvm.MethodName) prog_8_method_9_code (2 : Nat) (Option.none : Option Jvm.ClassFile.FieldType)) ∈ gW := gW_of (List.mem_of_getElem? (i := 763) (by decide +kernel)) rfl
theorem t_764 : (Jvm.Cond.methodLink "CardLink$Wire" (68 : Nat) ({ cls := "CardLink$Row", name := "at", desc := "(I)I" } : Jvm.MethodName)) ∈ gW := gW_of (List.mem_of_getElem? (i := 764) (by decide +kernel)) rfl
theorem t_765 : (Jvm.Cond.methodLink "CardLink$Wire" (72 : Nat) ({ cls := "CardLink$Row", name := "add", desc := "(I)V" } : Jvm.MethodName)) ∈ gW := gW_of (List.mem_of_getElem? (i := 765) (by decide +kernel)) rfl
theorem t_766 : (Jvm.Cond.methodLink "CardLink$Line" (264 : Nat) ({ cls := "CardLink$Line", name := "judge", desc := "(II)I" } : Jvm.MethodName)) ∈ gW := gW_of (List.mem_of_getElem? (i := 766) (by decide +kernel)) rfl
theorem t_768 : (Jvm.Cond.instanceMethod ({ cls := "CardLink$Line", name := "judge", desc := "(II)I" } : Jvm.MethodName)) ∈ gW := gW_of (List.mem_of_getElem? (i := 768) (by decide +kernel)) rfl
theorem t_769 : (Jvm.Cond.code ({ cls := "CardLink$Line", name := "judge", desc := "(II)I" } : Jvm.MethodName) prog_4_method_32_code (3 : Nat) (Option.some Jvm.ClassFile.FieldType.int)) ∈ gW := gW_of (List.mem_of_getElem? (i := 769) (by decide +kernel)) rfl
theorem t_770 : (Jvm.Cond.methodLink "CardLink$Line" (290 : Nat) ({ cls := "CardLink$Line", name := "isWellFormed", desc := "(III)Z" } : Jvm.MethodName)) ∈ gW := gW_of (List.mem_of_getElem? (i := 770) (by decide +kernel)) rfl
theorem t_772 : (Jvm.Cond.instanceMethod ({ cls := "CardLink$Line", name := "isWellFormed", desc := "(III)Z" } : Jvm.MethodName)) ∈ gW := gW_of (List.mem_of_getElem? (i := 772) (by decide +kernel)) rfl
theorem t_773 : (Jvm.Cond.code ({ cls := "CardLink$Line", name := "isWellFormed", desc := "(III)Z" } : Jvm.MethodName) prog_4_method_33_code (4 : Nat) (Option.some Jvm.ClassFile.FieldType.boolean)) ∈ gW := gW_of (List.mem_of_getElem? (i := 773) (by decide +kernel)) rfl
theorem t_774 : (Jvm.Cond.methodLink "CardLink$Line" (270 : Nat) ({ cls := "CardLink$Journal", name := "idOf", desc := "(ILCardLink$Row;)I" } : Jvm.MethodName)) ∈ gW := gW_of (List.mem_of_getElem? (i := 774) (by decide +kernel)) rfl
theorem t_775 : (Jvm.Cond.instanceMethod ({ cls := "CardLink$Journal", name := "idOf", desc := "(ILCardLink$Row;)I" } : Jvm.MethodName)) ∈ gW := gW_of (List.mem_of_getElem? (i := 775) (by decide +kernel)) rfl
theorem t_776 : (Jvm.Cond.selects "CardLink$Journal" ({ cls := "CardLink$Journal", name := "idOf", desc := "(ILCardLink$Row;)I" } : Jvm.MethodName) ({ cls := "CardLink$Journal", name := "idOf", desc := "(ILCardLink$Row;)I" } : Jvm.MethodName)) ∈ gW := gW_of (List.mem_of_getElem? (i := 776) (by decide +kernel)) rfl
theorem t_777 : (Jvm.Cond.code ({ cls := "CardLink$Journal", name := "idOf", desc := "(ILCardLink$Row;)I" } : Jvm.MethodName) prog_3_method_6_code (6 : Nat) (Option.some Jvm.ClassFile.FieldType.int)) ∈ gW := gW_of (List.mem_of_getElem? (i := 777) (by decide +kernel)) rfl
theorem t_778 : (Jvm.Cond.methodLink "CardLink$Journal" (51 : Nat) ({ cls := "CardLink$Row", name := "size", desc := "()I" } : Jvm.MethodName)) ∈ gW := gW_of (List.mem_of_getElem? (i := 778) (by decide +kernel)) rfl
theorem t_779 : (Jvm.Cond.methodLink "CardLink$Journal" (62 : Nat) ({ cls := "CardLink$Row", name := "add", desc := "(I)V" } : Jvm.MethodName)) ∈ gW := gW_of (List.mem_of_getElem? (i := 779) (by decide +kernel)) rfl
theorem t_780 : (Jvm.Cond.methodLink "CardLink$Journal" (65 : Nat) ({ cls := "CardLink$Journal", name := "chainOf", desc := "(ILCardLink$Row;)I" } : Jvm.MethodName)) ∈ gW := gW_of (List.mem_of_getElem? (i := 780) (by decide +kernel)) rfl
theorem t_781 : (Jvm.Cond.static ({ cls := "CardLink$Journal", name := "chainOf", desc := "(ILCardLink$Row;)I" } : Jvm.MethodName)) ∈ gW := gW_of (List.mem_of_getElem? (i := 781) (by decide +kernel)) rfl
theorem t_782 : (Jvm.Cond.code ({ cls := "CardLink$Journal", name := "chainOf", desc := "(ILCardLink$Row;)I" } : Jvm.MethodName) prog_3_method_7_code (4 : Nat) (Option.some Jvm.ClassFile.FieldType.int)) ∈ gW := gW_of (List.mem_of_getElem? (i := 782) (by decide +kernel)) rfl
theorem t_783 : (Jvm.Cond.methodLink "CardLink$Journal" (55 : Nat) ({ cls := "CardLink$Row", name := "at", desc := "(I)I" } : Jvm.MethodName)) ∈ gW := gW_of (List.mem_of_getElem? (i := 783) (by decide +kernel)) rfl
theorem t_784 : (Jvm.Cond.methodLink "CardLink$Journal" (69 : Nat) ({ cls := "CardLink$Journal", name := "isBlock", desc := "(IILCardLink$Row;)Z" } : Jvm.MethodName)) ∈ gW := gW_of (List.mem_of_getElem? (i := 784) (by decide +kernel)) rfl
theorem t_786 : (Jvm.Cond.instanceMethod ({ cls := "CardLink$Journal", name := "isBlock", desc := "(IILCardLink$Row;)Z" } : Jvm.MethodName)) ∈ gW := gW_of (List.mem_of_getElem? (i := 786) (by decide +kernel)) rfl
theorem t_787 : (Jvm.Cond.code ({ cls := "CardLink$Journal", name := "isBlock", desc := "(IILCardLink$Row;)Z" } : Jvm.MethodName) prog_3_method_8_code (6 : Nat) (Option.some Jvm.ClassFile.FieldType.boolean)) ∈ gW := gW_of (List.mem_of_getElem? (i := 787) (by decide +kernel)) rfl
theorem t_788 : (Jvm.Cond.methodLink "CardLink$Journal" (73 : Nat) ({ cls := "CardLink$Journal", name := "addUnlike", desc := "(ILCardLink$Row;I)I" } : Jvm.MethodName)) ∈ gW := gW_of (List.mem_of_getElem? (i := 788) (by decide +kernel)) rfl
theorem t_790 : (Jvm.Cond.instanceMethod ({ cls := "CardLink$Journal", name := "addUnlike", desc := "(ILCardLink$Row;I)I" } : Jvm.MethodName)) ∈ gW := gW_of (List.mem_of_getElem? (i := 790) (by decide +kernel)) rfl
theorem t_791 : (Jvm.Cond.code ({ cls := "CardLink$Journal", name := "addUnlike", desc := "(ILCardLink$Row;I)I" } : Jvm.MethodName) prog_3_method_9_code (6 : Nat) (Option.some Jvm.ClassFile.FieldType.int)) ∈ gW := gW_of (List.mem_of_getElem? (i := 791) (by decide +kernel)) rfl
theorem t_792 : (Jvm.Cond.methodLink "CardLink$Journal" (59 : Nat) ({ cls := "CardLink$Row", name := "put", desc := "(II)V" } : Jvm.MethodName)) ∈ gW := gW_of (List.mem_of_getElem? (i := 792) (by decide +kernel)) rfl
theorem t_793 : (Jvm.Cond.instanceMethod ({ cls := "CardLink$Row", name := "put", desc := "(II)V" } : Jvm.MethodName)) ∈ gW := gW_of (List.mem_of_getElem? (i := 793) (by decide +kernel)) rfl
theorem t_794 : (Jvm.Cond.selects "CardLink$Row" ({ cls := "CardLink$Row", name := "put", desc := "(II)V" } : Jvm.MethodName) ({ cls := "CardLink$Row", name := "put", desc := "(II)V" } : Jvm.MethodName)) ∈ gW := gW_of (List.mem_of_getElem? (i := 794) (by decide +kernel)) rfl
theorem t_795 : (Jvm.Cond.code ({ cls := "CardLink$Row", name := "put", desc := "(II)V" } : Jvm.MethodName) prog_6_method_4_code (3 : Nat) (Option.none : Option Jvm.ClassFile.FieldType)) ∈ gW := gW_of (List.mem_of_getElem? (i := 795) (by decide +kernel)) rfl
theorem t_796 : (Jvm.Cond.methodLink "CardLink$Line" (276 : Nat) ({ cls := "CardLink$Journal", name := "note", desc := "(III)V" } : Jvm.MethodName)) ∈ gW := gW_of (List.mem_of_getElem? (i := 796) (by decide +kernel)) rfl
theorem t_797 : (Jvm.Cond.instanceMethod ({ cls := "CardLink$Journal", name := "note", desc := "(III)V" } : Jvm.MethodName)) ∈ gW := gW_of (List.mem_of_getElem? (i := 797) (by decide +kernel)) rfl
theorem t_798 : (Jvm.Cond.selects "CardLink$Journal" ({ cls := "CardLink$Journal", name := "note", desc := "(III)V" } : Jvm.MethodName) ({ cls := "CardLink$Journal", name := "note", desc := "(III)V" } : Jvm.MethodName)) ∈ gW := gW_of (List.mem_of_getElem? (i := 798) (by decide +kernel)) rfl
theorem t_799 : (Jvm.Cond.code ({ cls := "CardLink$Journal", name := "note", desc := "(III)V" } : Jvm.MethodName) prog_3_method_5_code (4 : Nat) (Option.none : Option Jvm.ClassFile.FieldType)) ∈ gW := gW_of (List.mem_of_getElem? (i := 799) (by decide +kernel)) rfl
theorem t_800 : (Jvm.Cond.methodLink "CardLink$Line" (139 : Nat) ({ cls := "CardLink$Line", name := "cardKind", desc := "()I" } : Jvm.MethodName)) ∈ gW := gW_of (List.mem_of_getElem? (i := 800) (by decide +kernel)) rfl
theorem t_802 : (Jvm.Cond.instanceMethod ({ cls := "CardLink$Line", name := "cardKind", desc := "()I" } : Jvm.MethodName)) ∈ gW := gW_of (List.mem_of_getElem? (i := 802) (by decide +kernel)) rfl
theorem t_803 : (Jvm.Cond.code ({ cls := "CardLink$Line", name := "cardKind", desc := "()I" } : Jvm.MethodName) prog_4_method_14_code (2 : Nat) (Option.some Jvm.ClassFile.FieldType.int)) ∈ gW := gW_of (List.mem_of_getElem? (i := 803) (by decide +kernel)) rfl
theorem t_804 : (Jvm.Cond.methodLink "CardLink$Line" (179 : Nat) ({ cls := "CardLink$Line", name := "putFirstByte", desc := "()I" } : Jvm.MethodName)) ∈ gW := gW_of (List.mem_of_getElem? (i := 804) (by decide +kernel)) rfl
theorem t_806 : (Jvm.Cond.instanceMethod ({ cls := "CardLink$Line", name := "putFirstByte", desc := "()I" } : Jvm.MethodName)) ∈ gW := gW_of (List.mem_of_getElem? (i := 806) (by decide +kernel)) rfl
theorem t_807 : (Jvm.Cond.code ({ cls := "CardLink$Line", name := "putFirstByte", desc := "()I" } : Jvm.MethodName) prog_4_method_27_code (1 : Nat) (Option.some Jvm.ClassFile.FieldType.int)) ∈ gW := gW_of (List.mem_of_getElem? (i := 807) (by decide +kernel)) rfl
theorem t_808 : (Jvm.Cond.methodLink "CardLink$Line" (185 : Nat) ({ cls := "CardLink$Line", name := "cardOnAnswer", desc := "()I" } : Jvm.MethodName)) ∈ gW := gW_of (List.mem_of_getElem? (i := 808) (by decide +kernel)) rfl
theorem t_810 : (Jvm.Cond.instanceMethod ({ cls := "CardLink$Line", name := "cardOnAnswer", desc := "()I" } : Jvm.MethodName)) ∈ gW := gW_of (List.mem_of_getElem? (i := 810) (by decide +kernel)) rfl
theorem t_811 : (Jvm.Cond.code ({ cls := "CardLink$Line", name := "cardOnAnswer", desc := "()I" } : Jvm.MethodName) prog_4_method_20_code (2 : Nat) (Option.some Jvm.ClassFile.FieldType.int)) ∈ gW := gW_of (List.mem_of_getElem? (i := 811) (by decide +kernel)) rfl
theorem t_812 : (Jvm.Cond.methodLink "CardLink$Line" (201 : Nat) ({ cls := "CardLink$Line", name := "putBehindThird", desc := "()I" } : Jvm.MethodName)) ∈ gW := gW_of (List.mem_of_getElem? (i := 812) (by decide +kernel)) rfl
theorem t_814 : (Jvm.Cond.instanceMethod ({ cls := "CardLink$Line", name := "putBehindThird", desc := "()I" } : Jvm.MethodName)) ∈ gW := gW_of (List.mem_of_getElem? (i := 814) (by decide +kernel)) rfl
theorem t_815 : (Jvm.Cond.code ({ cls := "CardLink$Line", name := "putBehindThird", desc := "()I" } : Jvm.MethodName) prog_4_method_26_code (2 : Nat) (Option.some Jvm.ClassFile.FieldType.int)) ∈ gW := gW_of (List.mem_of_getElem? (i := 815) (by decide +kernel)) rfl
theorem t_816 : (Jvm.Cond.methodLink "CardLink$Line" (142 : Nat) ({ cls := "CardLink$Line", name := "doMessage", desc := "()I" } : Jvm.MethodName)) ∈ gW := gW_of (List.mem_of_getElem? (i := 816) (by decide +kernel)) rfl
theorem t_818 : (Jvm.Cond.instanceMethod ({ cls := "CardLink$Line", name := "doMessage", desc := "()I" } : Jvm.MethodName)) ∈ gW := gW_of (List.mem_of_getElem? (i := 818) (by decide +kernel)) rfl
theorem t_819 : (Jvm.Cond.code ({ cls := "CardLink$Line", name := "doMessage", desc := "()I" } : Jvm.MethodName) prog_4_method_24_code (3 : Nat) (Option.some Jvm.ClassFile.FieldType.int)) ∈ gW := gW_of (List.mem_of_getElem? (i := 819) (by decide +kernel)) rfl
theorem t_820 : (Jvm.Cond.methodLink "CardLink$Line" (238 : Nat) ({ cls := "CardLink$Line", name := "putCounting", desc := "(I)I" } : Jvm.MethodName)) ∈ gW := gW_of (List.mem_of_getElem? (i := 820) (by decide +kernel)) rfl
theorem t_822 : (Jvm.Cond.instanceMethod ({ cls := "CardLink$Line", name := "putCounting", desc := "(I)I" } : Jvm.MethodName)) ∈ gW := gW_of (List.mem_of_getElem? (i := 822) (by decide +kernel)) rfl
theorem t_823 : (Jvm.Cond.code ({ cls := "CardLink$Line", name := "putCounting", desc := "(I)I" } : Jvm.MethodName) prog_4_method_25_code (3 : Nat) (Option.some Jvm.ClassFile.FieldType.int)) ∈ gW := gW_of (List.mem_of_getElem? (i := 823) (by decide +kernel)) rfl
theorem t_824 : (Jvm.Cond.methodLink "CardLinkLaw" (41 : Nat) ({ cls := "CardLink", name := "state", desc := "()I" } : Jvm.MethodName)) ∈ gW := gW_of (List.mem_of_getElem? (i := 824) (by decide +kernel)) rfl
theorem t_825 : (Jvm.Cond.instanceMethod ({ cls := "CardLink", name := "state", desc := "()I" } : Jvm.MethodName)) ∈ gW := gW_of (List.mem_of_getElem? (i := 825) (by decide +kernel)) rfl
theorem t_826 : (Jvm.Cond.selects "CardLink" ({ cls := "CardLink", name := "state", desc := "()I" } : Jvm.MethodName) ({ cls := "CardLink", name := "state", desc := "()I" } : Jvm.MethodName)) ∈ gW := gW_of (List.mem_of_getElem? (i := 826) (by decide +kernel)) rfl
theorem t_827 : (Jvm.Cond.code ({ cls := "CardLink", name := "state", desc := "()I" } : Jvm.MethodName) prog_1_method_15_code (1 : Nat) (Option.some Jvm.ClassFile.FieldType.int)) ∈ gW := gW_of (List.mem_of_getElem? (i := 827) (by decide +kernel)) rfl
theorem t_828 : (Jvm.Cond.methodLink "CardLinkLaw" (37 : Nat) ({ cls := "CardLink", name := "side", desc := "(II)I" } : Jvm.MethodName)) ∈ gW := gW_of (List.mem_of_getElem? (i := 828) (by decide +kernel)) rfl
theorem t_829 : (Jvm.Cond.instanceMethod ({ cls := "CardLink", name := "side", desc := "(II)I" } : Jvm.MethodName)) ∈ gW := gW_of (List.mem_of_getElem? (i := 829) (by decide +kernel)) rfl
theorem t_830 : (Jvm.Cond.selects "CardLink" ({ cls := "CardLink", name := "side", desc := "(II)I" } : Jvm.MethodName) ({ cls := "CardLink", name := "side", desc := "(II)I" } : Jvm.MethodName)) ∈ gW := gW_of (List.mem_of_getElem? (i := 830) (by decide +kernel)) rfl
theorem t_831 : (Jvm.Cond.code ({ cls := "CardLink", name := "side", desc := "(II)I" } : Jvm.MethodName) prog_1_method_16_code (3 : Nat) (Option.some Jvm.ClassFile.FieldType.int)) ∈ gW := gW_of (List.mem_of_getElem? (i := 831) (by decide +kernel)) rfl
theorem t_832 : (Jvm.Cond.methodLink "CardLink" (139 : Nat) ({ cls := "CardLink", name := "sideOf", desc := "(I)LCardLink$Side;" } : Jvm.MethodName)) ∈ gW := gW_of (List.mem_of_getElem? (i := 832) (by decide +kernel)) rfl
theorem t_834 : (Jvm.Cond.instanceMethod ({ cls := "CardLink", name := "sideOf", desc := "(I)LCardLink$Side;" } : Jvm.MethodName)) ∈ gW := gW_of (List.mem_of_getElem? (i := 834) (by decide +kernel)) rfl
theorem t_835 : (Jvm.Cond.code ({ cls := "CardLink", name := "sideOf", desc := "(I)LCardLink$Side;" } : Jvm.MethodName) prog_1_method_17_code (2 : Nat) (Option.some (Jvm.ClassFile.FieldType.object "CardLink$Side"))) ∈ gW := gW_of (List.mem_of_getElem? (i := 835) (by decide +kernel)) rfl
theorem t_836 : (Jvm.Cond.methodLink "CardLink" (143 : Nat) ({ cls := "CardLink$Side", name := "tell", desc := "(I)I" } : Jvm.MethodName)) ∈ gW := gW_of (List.mem_of_getElem? (i := 836) (by decide +kernel)) rfl
theorem t_837 : (Jvm.Cond.instanceMethod ({ cls := "CardLink$Side", name := "tell", desc := "(I)I" } : Jvm.MethodName)) ∈ gW := gW_of (List.mem_of_getElem? (i := 837) (by decide +kernel)) rfl
theorem t_838 : (Jvm.Cond.selects "CardLink$Side" ({ cls := "CardLink$Side", name := "tell", desc := "(I)I" } : Jvm.MethodName) ({ cls := "CardLink$Side", name := "tell", desc := "(I)I" } : Jvm.MethodName)) ∈ gW := gW_of (List.mem_of_getElem? (i := 838) (by decide +kernel)) rfl
theorem t_839 : (Jvm.Cond.code ({ cls := "CardLink$Side", name := "tell", desc := "(I)I" } : Jvm.MethodName) prog_7_method_20_code (2 : Nat) (Option.some Jvm.ClassFile.FieldType.int)) ∈ gW := gW_of (List.mem_of_getElem? (i := 839) (by decide +kernel)) rfl
theorem t_840 : (Jvm.Cond.methodLink "CardLinkLaw" (28 : Nat) ({ cls := "CardLink", name := "count", desc := "(I)I" } : Jvm.MethodName)) ∈ gW := gW_of (List.mem_of_getElem? (i := 840) (by decide +kernel)) rfl
theorem t_841 : (Jvm.Cond.instanceMethod ({ cls := "CardLink", name := "count", desc := "(I)I" } : Jvm.MethodName)) ∈ gW := gW_of (List.mem_of_getElem? (i := 841) (by decide +kernel)) rfl
theorem t_842 : (Jvm.Cond.selects "CardLink" ({ cls := "CardLink", name := "count", desc := "(I)I" } : Jvm.MethodName) ({ cls := "CardLink", name := "count", desc := "(I)I" } : Jvm.MethodName)) ∈ gW := gW_of (List.mem_of_getElem? (i := 842) (by decide +kernel)) rfl
theorem t_843 : (Jvm.Cond.code ({ cls := "CardLink", name := "count", desc := "(I)I" } : Jvm.MethodName) prog_1_method_23_code (2 : Nat) (Option.some Jvm.ClassFile.FieldType.int)) ∈ gW := gW_of (List.mem_of_getElem? (i := 843) (by decide +kernel)) rfl
theorem t_844 : (Jvm.Cond.methodLink "CardLink" (200 : Nat) ({ cls := "CardLink$Journal", name := "unlike", desc := "()I" } : Jvm.MethodName)) ∈ gW := gW_of (List.mem_of_getElem? (i := 844) (by decide +kernel)) rfl
theorem t_845 : (Jvm.Cond.instanceMethod ({ cls := "CardLink$Journal", name := "unlike", desc := "()I" } : Jvm.MethodName)) ∈ gW := gW_of (List.mem_of_getElem? (i := 845) (by decide +kernel)) rfl
theorem t_846 : (Jvm.Cond.selects "CardLink$Journal" ({ cls := "CardLink$Journal", name := "unlike", desc := "()I" } : Jvm.MethodName) ({ cls := "CardLink$Journal", name := "unlike", desc := "()I" } : Jvm.MethodName)) ∈ gW := gW_of (List.mem_of_getElem? (i := 846) (by decide +kernel)) rfl
theorem t_847 : (Jvm.Cond.code ({ cls := "CardLink$Journal", name := "unlike", desc := "()I" } : Jvm.MethodName) prog_3_method_3_code (1 : Nat) (Option.some Jvm.ClassFile.FieldType.int)) ∈ gW := gW_of (List.mem_of_getElem? (i := 847) (by decide +kernel)) rfl
theorem t_848 : (Jvm.Cond.methodLink "CardLink" (162 : Nat) ({ cls := "CardLink$Journal", name := "kept", desc := "()I" } : Jvm.MethodName)) ∈ gW := gW_of (List.mem_of_getElem? (i := 848) (by decide +kernel)) rfl
theorem t_849 : (Jvm.Cond.instanceMethod ({ cls := "CardLink$Journal", name := "kept", desc := "()I" } : Jvm.MethodName)) ∈ gW := gW_of (List.mem_of_getElem? (i := 849) (by decide +kernel)) rfl
theorem t_850 : (Jvm.Cond.selects "CardLink$Journal" ({ cls := "CardLink$Journal", name := "kept", desc := "()I" } : Jvm.MethodName) ({ cls := "CardLink$Journal", name := "kept", desc := "()I" } : Jvm.MethodName)) ∈ gW := gW_of (List.mem_of_getElem? (i := 850) (by decide +kernel)) rfl
theorem t_851 : (Jvm.Cond.code ({ cls := "CardLink$Journal", name := "kept", desc := "()I" } : Jvm.MethodName) prog_3_method_4_code (1 : Nat) (Option.some Jvm.ClassFile.FieldType.int)) ∈ gW := gW_of (List.mem_of_getElem? (i := 851) (by decide +kernel)) rfl
theorem t_852 : (Jvm.Cond.methodLink "CardLinkLaw" (18 : Nat) ({ cls := "CardLinkLaw", name := "cell", desc := "([II)I" } : Jvm.MethodName)) ∈ gW := gW_of (List.mem_of_getElem? (i := 852) (by decide +kernel)) rfl
theorem t_853 : (Jvm.Cond.static ({ cls := "CardLinkLaw", name := "cell", desc := "([II)I" } : Jvm.MethodName)) ∈ gW := gW_of (List.mem_of_getElem? (i := 853) (by decide +kernel)) rfl
theorem t_854 : (Jvm.Cond.code ({ cls := "CardLinkLaw", name := "cell", desc := "([II)I" } : Jvm.MethodName) method_2_code (2 : Nat) (Option.some Jvm.ClassFile.FieldType.int)) ∈ gW := gW_of (List.mem_of_getElem? (i := 854) (by decide +kernel)) rfl
theorem t_855 : (Jvm.Cond.constant "CardLinkLaw" (7 : Nat) (40503 : Int32)) ∈ gW := gW_of (List.mem_of_getElem? (i := 855) (by decide +kernel)) rfl
theorem t_856 : (Jvm.Cond.methodLink "CardLinkLaw" (55 : Nat) ({ cls := "CardLinkLaw", name := "types", desc := "(LCardLink;[II)V" } : Jvm.MethodName)) ∈ gW := gW_of (List.mem_of_getElem? (i := 856) (by decide +kernel)) rfl
theorem t_857 : (Jvm.Cond.static ({ cls := "CardLinkLaw", name := "types", desc := "(LCardLink;[II)V" } : Jvm.MethodName)) ∈ gW := gW_of (List.mem_of_getElem? (i := 857) (by decide +kernel)) rfl
theorem t_858 : (Jvm.Cond.code ({ cls := "CardLinkLaw", name := "types", desc := "(LCardLink;[II)V" } : Jvm.MethodName) method_3_code (6 : Nat) (Option.none : Option Jvm.ClassFile.FieldType)) ∈ gW := gW_of (List.mem_of_getElem? (i := 858) (by decide +kernel)) rfl
theorem t_859 : (Jvm.Cond.methodLink "CardLinkLaw" (8 : Nat) ({ cls := "CardLink", name := "feed", desc := "(JJ)I" } : Jvm.MethodName)) ∈ gW := gW_of (List.mem_of_getElem? (i := 859) (by decide +kernel)) rfl
theorem t_860 : (Jvm.Cond.instanceMethod ({ cls := "CardLink", name := "feed", desc := "(JJ)I" } : Jvm.MethodName)) ∈ gW := gW_of (List.mem_of_getElem? (i := 860) (by decide +kernel)) rfl
theorem t_861 : (Jvm.Cond.selects "CardLink" ({ cls := "CardLink", name := "feed", desc := "(JJ)I" } : Jvm.MethodName) ({ cls := "CardLink", name := "feed", desc := "(JJ)I" } : Jvm.MethodName)) ∈ gW := gW_of (List.mem_of_getElem? (i := 861) (by decide +kernel)) rfl
theorem t_862 : (Jvm.Cond.code ({ cls := "CardLink", name := "feed", desc := "(JJ)I" } : Jvm.MethodName) prog_1_method_2_code (5 : Nat) (Option.some Jvm.ClassFile.FieldType.int)) ∈ gW := gW_of (List.mem_of_getElem? (i := 862) (by decide +kernel)) rfl
theorem t_863 : (Jvm.Cond.methodLink "CardLink" (59 : Nat) ({ cls := "CardLink", name := "feedEight", desc := "(J)V" } : Jvm.MethodName)) ∈ gW := gW_of (List.mem_of_getElem? (i := 863) (by decide +kernel)) rfl
theorem t_865 : (Jvm.Cond.instanceMethod ({ cls := "CardLink", name := "feedEight", desc := "(J)V" } : Jvm.MethodName)) ∈ gW := gW_of (List.mem_of_getElem? (i := 865) (by decide +kernel)) rfl
theorem t_866 : (Jvm.Cond.code ({ cls := "CardLink", name := "feedEight", desc := "(J)V" } : Jvm.MethodName) prog_1_method_3_code (4 : Nat) (Option.none : Option Jvm.ClassFile.FieldType)) ∈ gW := gW_of (List.mem_of_getElem? (i := 866) (by decide +kernel)) rfl
theorem t_867 : (Jvm.Cond.methodLink "CardLink" (63 : Nat) ({ cls := "CardLink$Row", name := "add", desc := "(I)V" } : Jvm.MethodName)) ∈ gW := gW_of (List.mem_of_getElem? (i := 867) (by decide +kernel)) rfl
theorem t_868 : (Jvm.Cond.methodLink "CardLinkLaw" (14 : Nat) ({ cls := "CardLink", name := "end", desc := "(I)I" } : Jvm.MethodName)) ∈ gW := gW_of (List.mem_of_getElem? (i := 868) (by decide +kernel)) rfl
theorem t_869 : (Jvm.Cond.instanceMethod ({ cls := "CardLink", name := "end", desc := "(I)I" } : Jvm.MethodName)) ∈ gW := gW_of (List.mem_of_getElem? (i := 869) (by decide +kernel)) rfl
theorem t_870 : (Jvm.Cond.selects "CardLink" ({ cls := "CardLink", name := "end", desc := "(I)I" } : Jvm.MethodName) ({ cls := "CardLink", name := "end", desc := "(I)I" } : Jvm.MethodName)) ∈ gW := gW_of (List.mem_of_getElem? (i := 870) (by decide +kernel)) rfl
theorem t_871 : (Jvm.Cond.code ({ cls := "CardLink", name := "end", desc := "(I)I" } : Jvm.MethodName) prog_1_method_4_code (2 : Nat) (Option.some Jvm.ClassFile.FieldType.int)) ∈ gW := gW_of (List.mem_of_getElem? (i := 871) (by decide +kernel)) rfl
theorem t_872 : (Jvm.Cond.arrayClass Jvm.ClassFile.FieldType.long) ∈ gW := gW_of (List.mem_of_getElem? (i := 872) (by decide +kernel)) rfl
theorem t_873 : (Jvm.Cond.methodLink "CardLinkLaw" (51 : Nat) ({ cls := "CardLinkLaw", name := "answer", desc := "(I)[I" } : Jvm.MethodName)) ∈ gW := gW_of (List.mem_of_getElem? (i := 873) (by decide +kernel)) rfl
theorem t_874 : (Jvm.Cond.static ({ cls := "CardLinkLaw", name := "answer", desc := "(I)[I" } : Jvm.MethodName)) ∈ gW := gW_of (List.mem_of_getElem? (i := 874) (by decide +kernel)) rfl
theorem t_875 : (Jvm.Cond.code ({ cls := "CardLinkLaw", name := "answer", desc := "(I)[I" } : Jvm.MethodName) method_4_code (3 : Nat) (Option.some (Jvm.ClassFile.FieldType.array Jvm.ClassFile.FieldType.int))) ∈ gW := gW_of (List.mem_of_getElem? (i := 875) (by decide +kernel)) rfl
theorem t_876 : (Jvm.Cond.methodLink "CardLinkLaw" (70 : Nat) ({ cls := "CardLinkLaw", name := "size", desc := "([II)I" } : Jvm.MethodName)) ∈ gW := gW_of (List.mem_of_getElem? (i := 876) (by decide +kernel)) rfl
theorem t_877 : (Jvm.Cond.static ({ cls := "CardLinkLaw", name := "size", desc := "([II)I" } : Jvm.MethodName)) ∈ gW := gW_of (List.mem_of_getElem? (i := 877) (by decide +kernel)) rfl
theorem t_878 : (Jvm.Cond.code ({ cls := "CardLinkLaw", name := "size", desc := "([II)I" } : Jvm.MethodName) method_5_code (2 : Nat) (Option.some Jvm.ClassFile.FieldType.int)) ∈ gW := gW_of (List.mem_of_getElem? (i := 878) (by decide +kernel)) rfl
theorem t_879 : (Jvm.Cond.methodLink "CardLinkLaw" (73 : Nat) ({ cls := "CardLinkLaw", name := "message", desc := "([III)[I" } : Jvm.MethodName)) ∈ gW := gW_of (List.mem_of_getElem? (i := 879) (by decide +kernel)) rfl
theorem t_880 : (Jvm.Cond.static ({ cls := "CardLinkLaw", name := "message", desc := "([III)[I" } : Jvm.MethodName)) ∈ gW := gW_of (List.mem_of_getElem? (i := 880) (by decide +kernel)) rfl
theorem t_881 : (Jvm.Cond.code ({ cls := "CardLinkLaw", name := "message", desc := "([III)[I" } : Jvm.MethodName) method_6_code (5 : Nat) (Option.some (Jvm.ClassFile.FieldType.array Jvm.ClassFile.FieldType.int))) ∈ gW := gW_of (List.mem_of_getElem? (i := 881) (by decide +kernel)) rfl
theorem t_882 : (Jvm.Cond.methodLink "CardLinkLaw" (87 : Nat) ({ cls := "CardLinkLaw", name := "expected", desc := "([II)[I" } : Jvm.MethodName)) ∈ gW := gW_of (List.mem_of_getElem? (i := 882) (by decide +kernel)) rfl
theorem t_883 : (Jvm.Cond.static ({ cls := "CardLinkLaw", name := "expected", desc := "([II)[I" } : Jvm.MethodName)) ∈ gW := gW_of (List.mem_of_getElem? (i := 883) (by decide +kernel)) rfl
theorem t_884 : (Jvm.Cond.code ({ cls := "CardLinkLaw", name := "expected", desc := "([II)[I" } : Jvm.MethodName) method_7_code (5 : Nat) (Option.some (Jvm.ClassFile.FieldType.array Jvm.ClassFile.FieldType.int))) ∈ gW := gW_of (List.mem_of_getElem? (i := 884) (by decide +kernel)) rfl
theorem t_885 : (Jvm.Cond.methodLink "CardLinkLaw" (91 : Nat) ({ cls := "CardLinkLaw", name := "isGot", desc := "(LCardLink;I[III)Z" } : Jvm.MethodName)) ∈ gW := gW_of (List.mem_of_getElem? (i := 885) (by decide +kernel)) rfl
theorem t_886 : (Jvm.Cond.static ({ cls := "CardLinkLaw", name := "isGot", desc := "(LCardLink;I[III)Z" } : Jvm.MethodName)) ∈ gW := gW_of (List.mem_of_getElem? (i := 886) (by decide +kernel)) rfl
theorem t_887 : (Jvm.Cond.code ({ cls := "CardLinkLaw", name := "isGot", desc := "(LCardLink;I[III)Z" } : Jvm.MethodName) method_8_code (6 : Nat) (Option.some Jvm.ClassFile.FieldType.boolean)) ∈ gW := gW_of (List.mem_of_getElem? (i := 887) (by decide +kernel)) rfl
theorem t_888 : (Jvm.Cond.methodLink "CardLinkLaw" (24 : Nat) ({ cls := "CardLink", name := "got", desc := "(II)I" } : Jvm.MethodName)) ∈ gW := gW_of (List.mem_of_getElem? (i := 888) (by decide +kernel)) rfl
theorem t_889 : (Jvm.Cond.instanceMethod ({ cls := "CardLink", name := "got", desc := "(II)I" } : Jvm.MethodName)) ∈ gW := gW_of (List.mem_of_getElem? (i := 889) (by decide +kernel)) rfl
theorem t_890 : (Jvm.Cond.selects "CardLink" ({ cls := "CardLink", name := "got", desc := "(II)I" } : Jvm.MethodName) ({ cls := "CardLink", name := "got", desc := "(II)I" } : Jvm.MethodName)) ∈ gW := gW_of (List.mem_of_getElem? (i := 890) (by decide +kernel)) rfl
theorem t_891 : (Jvm.Cond.code ({ cls := "CardLink", name := "got", desc := "(II)I" } : Jvm.MethodName) prog_1_method_18_code (4 : Nat) (Option.some Jvm.ClassFile.FieldType.int)) ∈ gW := gW_of (List.mem_of_getElem? (i := 891) (by decide +kernel)) rfl
theorem t_892 : (Jvm.Cond.methodLink "CardLink" (159 : Nat) ({ cls := "CardLink$Row", name := "at", desc := "(I)I" } : Jvm.MethodName)) ∈ gW := gW_of (List.mem_of_getElem? (i := 892) (by decide +kernel)) rfl
theorem t_893 : (Jvm.Cond.methodLink "CardLinkLaw" (83 : Nat) ({ cls := "CardLinkLaw", name := "sound", desc := "(LCardLink;)Z" } : Jvm.MethodName)) ∈ gW := gW_of (List.mem_of_getElem? (i := 893) (by decide +kernel)) rfl
theorem t_894 : (Jvm.Cond.static ({ cls := "CardLinkLaw", name := "sound", desc := "(LCardLink;)Z" } : Jvm.MethodName)) ∈ gW := gW_of (List.mem_of_getElem? (i := 894) (by decide +kernel)) rfl
theorem t_895 : (Jvm.Cond.code ({ cls := "CardLinkLaw", name := "sound", desc := "(LCardLink;)Z" } : Jvm.MethodName) method_9_code (6 : Nat) (Option.some Jvm.ClassFile.FieldType.boolean)) ∈ gW := gW_of (List.mem_of_getElem? (i := 895) (by decide +kernel)) rfl
theorem t_896 : (Jvm.Cond.methodLink "CardLinkLaw" (31 : Nat) ({ cls := "CardLink", name := "byteOf", desc := "(II)I" } : Jvm.MethodName)) ∈ gW := gW_of (List.mem_of_getElem? (i := 896) (by decide +kernel)) rfl
theorem t_897 : (Jvm.Cond.instanceMethod ({ cls := "CardLink", name := "byteOf", desc := "(II)I" } : Jvm.MethodName)) ∈ gW := gW_of (List.mem_of_getElem? (i := 897) (by decide +kernel)) rfl
theorem t_898 : (Jvm.Cond.selects "CardLink" ({ cls := "CardLink", name := "byteOf", desc := "(II)I" } : Jvm.MethodName) ({ cls := "CardLink", name := "byteOf", desc := "(II)I" } : Jvm.MethodName)) ∈ gW := gW_of (List.mem_of_getElem? (i := 898) (by decide +kernel)) rfl
theorem t_899 : (Jvm.Cond.code ({ cls := "CardLink", name := "byteOf", desc := "(II)I" } : Jvm.MethodName) prog_1_method_20_code (3 : Nat) (Option.some Jvm.ClassFile.FieldType.int)) ∈ gW := gW_of (List.mem_of_getElem? (i := 899) (by decide +kernel)) rfl
theorem t_900 : (Jvm.Cond.methodLink "CardLink" (171 : Nat) ({ cls := "CardLink$Journal", name := "byteAt", desc := "(II)I" } : Jvm.MethodName)) ∈ gW := gW_of (List.mem_of_getElem? (i := 900) (by decide +kernel)) rfl
theorem t_901 : (Jvm.Cond.instanceMethod ({ cls := "CardLink$Journal", name := "byteAt", desc := "(II)I" } : Jvm.MethodName)) ∈ gW := gW_of (List.mem_of_getElem? (i := 901) (by decide +kernel)) rfl
theorem t_902 : (Jvm.Cond.selects "CardLink$Journal" ({ cls := "CardLink$Journal", name := "byteAt", desc := "(II)I" } : Jvm.MethodName) ({ cls := "CardLink$Journal", name := "byteAt", desc := "(II)I" } : Jvm.MethodName)) ∈ gW := gW_of (List.mem_of_getElem? (i := 902) (by decide +kernel)) rfl
theorem t_903 : (Jvm.Cond.code ({ cls := "CardLink$Journal", name := "byteAt", desc := "(II)I" } : Jvm.MethodName) prog_3_method_12_code (4 : Nat) (Option.some Jvm.ClassFile.FieldType.int)) ∈ gW := gW_of (List.mem_of_getElem? (i := 903) (by decide +kernel)) rfl
theorem t_904 : (Jvm.Cond.methodLink "CardLink$Journal" (77 : Nat) ({ cls := "CardLink$Journal", name := "placeOf", desc := "(I)I" } : Jvm.MethodName)) ∈ gW := gW_of (List.mem_of_getElem? (i := 904) (by decide +kernel)) rfl
theorem t_906 : (Jvm.Cond.instanceMethod ({ cls := "CardLink$Journal", name := "placeOf", desc := "(I)I" } : Jvm.MethodName)) ∈ gW := gW_of (List.mem_of_getElem? (i := 906) (by decide +kernel)) rfl
theorem t_907 : (Jvm.Cond.code ({ cls := "CardLink$Journal", name := "placeOf", desc := "(I)I" } : Jvm.MethodName) prog_3_method_10_code (3 : Nat) (Option.some Jvm.ClassFile.FieldType.int)) ∈ gW := gW_of (List.mem_of_getElem? (i := 907) (by decide +kernel)) rfl
theorem t_908 : (Jvm.Cond.methodLink "CardLinkLaw" (34 : Nat) ({ cls := "CardLink", name := "log", desc := "(II)I" } : Jvm.MethodName)) ∈ gW := gW_of (List.mem_of_getElem? (i := 908) (by decide +kernel)) rfl
theorem t_909 : (Jvm.Cond.instanceMethod ({ cls := "CardLink", name := "log", desc := "(II)I" } : Jvm.MethodName)) ∈ gW := gW_of (List.mem_of_getElem? (i := 909) (by decide +kernel)) rfl
theorem t_910 : (Jvm.Cond.selects "CardLink" ({ cls := "CardLink", name := "log", desc := "(II)I" } : Jvm.MethodName) ({ cls := "CardLink", name := "log", desc := "(II)I" } : Jvm.MethodName)) ∈ gW := gW_of (List.mem_of_getElem? (i := 910) (by decide +kernel)) rfl
theorem t_911 : (Jvm.Cond.code ({ cls := "CardLink", name := "log", desc := "(II)I" } : Jvm.MethodName) prog_1_method_19_code (3 : Nat) (Option.some Jvm.ClassFile.FieldType.int)) ∈ gW := gW_of (List.mem_of_getElem? (i := 911) (by decide +kernel)) rfl
theorem t_912 : (Jvm.Cond.classLink "CardLink" (165 : Nat) "java/util/NoSuchElementException") ∈ gW := gW_of (List.mem_of_getElem? (i := 912) (by decide +kernel)) rfl
theorem t_935 : (Jvm.Cond.instanceMethod ({ cls := "java/lang/Throwable", name := "<init>", desc := "()V" } : Jvm.MethodName)) ∈ gW := gW_of (List.mem_of_getElem? (i := 935) (by decide +kernel)) rfl
theorem t_936 : (Jvm.Cond.code ({ cls := "java/lang/Throwable", name := "<init>", desc := "()V" } : Jvm.MethodName) prog_17_method_1_code (1 : Nat) (Option.none : Option Jvm.ClassFile.FieldType)) ∈ gW := gW_of (List.mem_of_getElem? (i := 936) (by decide +kernel)) rfl
theorem t_937 : (Jvm.Cond.methodLink "java/lang/Throwable" (1 : Nat) ({ cls := "java/lang/Object", name := "<init>", desc := "()V" } : Jvm.MethodName)) ∈ gW := gW_of (List.mem_of_getElem? (i := 937) (by decide +kernel)) rfl
theorem t_942 : (Jvm.Cond.methodLink "java/lang/Throwable" (27 : Nat) ({ cls := "java/lang/Throwable", name := "fillInStackTrace", desc := "()Ljava/lang/Throwable;" } : Jvm.MethodName)) ∈ gW := gW_of (List.mem_of_getElem? (i := 942) (by decide +kernel)) rfl
theorem t_943 : (Jvm.Cond.instanceMethod ({ cls := "java/lang/Throwable", name := "fillInStackTrace", desc := "()Ljava/lang/Throwable;" } : Jvm.MethodName)) ∈ gW := gW_of (List.mem_of_getElem? (i := 943) (by decide +kernel)) rfl
theorem t_946 : (Jvm.Cond.methodLink "java/lang/Throwable" (202 : Nat) ({ cls := "java/lang/Throwable", name := "fillInStackTrace", desc := "(I)Ljava/lang/Throwable;" } : Jvm.MethodName)) ∈ gW := gW_of (List.mem_of_getElem? (i := 946) (by decide +kernel)) rfl
theorem t_948 : (Jvm.Cond.instanceMethod ({ cls := "java/lang/Throwable", name := "fillInStackTrace", desc := "(I)Ljava/lang/Throwable;" } : Jvm.MethodName)) ∈ gW := gW_of (List.mem_of_getElem? (i := 948) (by decide +kernel)) rfl
theorem t_951 : (Jvm.Cond.methodLink "CardLink" (167 : Nat) ({ cls := "java/util/NoSuchElementException", name := "<init>", desc := "()V" } : Jvm.MethodName)) ∈ gW := gW_of (List.mem_of_getElem? (i := 951) (by decide +kernel)) rfl
theorem t_952 : (Jvm.Cond.instanceMethod ({ cls := "java/util/NoSuchElementException", name := "<init>", desc := "()V" } : Jvm.MethodName)) ∈ gW := gW_of (List.mem_of_getElem? (i := 952) (by decide +kernel)) rfl
theorem t_953 : (Jvm.Cond.code ({ cls := "java/util/NoSuchElementException", name := "<init>", desc := "()V" } : Jvm.MethodName) prog_19_method_1_code (1 : Nat) (Option.none : Option Jvm.ClassFile.FieldType)) ∈ gW := gW_of (List.mem_of_getElem? (i := 953) (by decide +kernel)) rfl
theorem t_954 : (Jvm.Cond.methodLink "java/util/NoSuchElementException" (1 : Nat) ({ cls := "java/lang/RuntimeException", name := "<init>", desc := "()V" } : Jvm.MethodName)) ∈ gW := gW_of (List.mem_of_getElem? (i := 954) (by decide +kernel)) rfl
theorem t_955 : (Jvm.Cond.instanceMethod ({ cls := "java/lang/RuntimeException", name := "<init>", desc := "()V" } : Jvm.MethodName)) ∈ gW := gW_of (List.mem_of_getElem? (i := 955) (by decide +kernel)) rfl
theorem t_956 : (Jvm.Cond.code ({ cls := "java/lang/RuntimeException", name := "<init>", desc := "()V" } : Jvm.MethodName) prog_15_method_1_code (1 : Nat) (Option.none : Option Jvm.ClassFile.FieldType)) ∈ gW := gW_of (List.mem_of_getElem? (i := 956) (by decide +kernel)) rfl
theorem t_957 : (Jvm.Cond.methodLink "java/lang/RuntimeException" (1 : Nat) ({ cls := "java/lang/Exception", name := "<init>", desc := "()V" } : Jvm.MethodName)) ∈ gW := gW_of (List.mem_of_getElem? (i := 957) (by decide +kernel)) rfl
theorem t_958 : (Jvm.Cond.instanceMethod ({ cls := "java/lang/Exception", name := "<init>", desc := "()V" } : Jvm.MethodName)) ∈ gW := gW_of (List.mem_of_getElem? (i := 958) (by decide +kernel)) rfl
theorem t_959 : (Jvm.Cond.code ({ cls := "java/lang/Exception", name := "<init>", desc := "()V" } : Jvm.MethodName) prog_13_method_1_code (1 : Nat) (Option.none : Option Jvm.ClassFile.FieldType)) ∈ gW := gW_of (List.mem_of_getElem? (i := 959) (by decide +kernel)) rfl
theorem t_960 : (Jvm.Cond.methodLink "java/lang/Exception" (1 : Nat) ({ cls := "java/lang/Throwable", name := "<init>", desc := "()V" } : Jvm.MethodName)) ∈ gW := gW_of (List.mem_of_getElem? (i := 960) (by decide +kernel)) rfl
theorem t_973 : (Jvm.Cond.methodLink "CardLink" (168 : Nat) ({ cls := "CardLink$Journal", name := "tell", desc := "(II)I" } : Jvm.MethodName)) ∈ gW := gW_of (List.mem_of_getElem? (i := 973) (by decide +kernel)) rfl
theorem t_974 : (Jvm.Cond.instanceMethod ({ cls := "CardLink$Journal", name := "tell", desc := "(II)I" } : Jvm.MethodName)) ∈ gW := gW_of (List.mem_of_getElem? (i := 974) (by decide +kernel)) rfl
theorem t_975 : (Jvm.Cond.selects "CardLink$Journal" ({ cls := "CardLink$Journal", name := "tell", desc := "(II)I" } : Jvm.MethodName) ({ cls := "CardLink$Journal", name := "tell", desc := "(II)I" } : Jvm.MethodName)) ∈ gW := gW_of (List.mem_of_getElem? (i := 975) (by decide +kernel)) rfl
theorem t_976 : (Jvm.Cond.code ({ cls := "CardLink$Journal", name := "tell", desc := "(II)I" } : Jvm.MethodName) prog_3_method_11_code (6 : Nat) (Option.some Jvm.ClassFile.FieldType.int)) ∈ gW := gW_of (List.mem_of_getElem? (i := 976) (by decide +kernel)) rfl
theorem uwX0 : ∀ w ∈ u_ws RX0 TX0 7, w ∈ gW := fun w hw => gW_of ((by decide +kernel : ∀ w ∈ u_ws RX0 TX0 7, w ∈ lw_tbl) w hw) ((by decide +kernel : ∀ w ∈ u_ws RX0 TX0 7, goodWord w = true) w hw)
theorem gk0 : gK 0 RX0 TX0 7 tyX0 := ⟨rfl, uwX0, tyX0_ok, nmX0⟩
theorem uwX1 : ∀ w ∈ u_ws RX1 TX1 9, w ∈ gW := fun w hw => gW_of ((by decide +kernel : ∀ w ∈ u_ws RX1 TX1 9, w ∈ lw_tbl) w hw) ((by decide +kernel : ∀ w ∈ u_ws RX1 TX1 9, goodWord w = true) w hw)
theorem gk1 : gK 1 RX1 TX1 9 tyX1 := ⟨rfl, uwX1, tyX1_ok, nmX1⟩
theorem uwX2 : ∀ w ∈ u_ws RX2 TX2 18, w ∈ gW := fun w hw => gW_of ((by decide +kernel : ∀ w ∈ u_ws RX2 TX2 18, w ∈ lw_tbl) w hw) ((by decide +kernel : ∀ w ∈ u_ws RX2 TX2 18, goodWord w = true) w hw)
theorem gk2 : gK 2 RX2 TX2 18 tyX2 := ⟨rfl, uwX2, tyX2_ok, nmX2⟩
theorem uwX3 : ∀ w ∈ u_ws RX3 TX3 11, w ∈ gW := fun w hw => gW_of ((by decide +kernel : ∀ w ∈ u_ws RX3 TX3 11, w ∈ lw_tbl) w hw) ((by decide +kernel : ∀ w ∈ u_ws RX3 TX3 11, goodWord w = true) w hw)
theorem gk3 : gK 3 RX3 TX3 11 tyX3 := ⟨rfl, uwX3, tyX3_ok, nmX3⟩
theorem uwX4 : ∀ w ∈ u_ws RX4 TX4 3, w ∈ gW := fun w hw => gW_of ((by decide +kernel : ∀ w ∈ u_ws RX4 TX4 3, w ∈ lw_tbl) w hw) ((by decide +kernel : ∀ w ∈ u_ws RX4 TX4 3, goodWord w = true) w hw)
theorem gk4 : gK 4 RX4 TX4 3 tyX4 := ⟨rfl, uwX4, tyX4_ok, nmX4⟩
theorem uwX5 : ∀ w ∈ u_ws RX5 TX5 15, w ∈ gW := fun w hw => gW_of ((by decide +kernel : ∀ w ∈ u_ws RX5 TX5 15, w ∈ lw_tbl) w hw) ((by decide +kernel : ∀ w ∈ u_ws RX5 TX5 15, goodWord w = true) w hw)
theorem gk5 : gK 5 RX5 TX5 15 tyX5 := ⟨rfl, uwX5, tyX5_ok, nmX5⟩
theorem uwX6 : ∀ w ∈ u_ws RX6 TX6 10, w ∈ gW := fun w hw => gW_of ((by decide +kernel : ∀ w ∈ u_ws RX6 TX6 10, w ∈ lw_tbl) w hw) ((by decide +kernel : ∀ w ∈ u_ws RX6 TX6 10, goodWord w = true) w hw)
theorem gk6 : gK 6 RX6 TX6 10 tyX6 := ⟨rfl, uwX6, tyX6_ok, nmX6⟩
theorem uwX7 : ∀ w ∈ u_ws RX7 TX7 7, w ∈ gW := fun w hw => gW_of ((by decide +kernel : ∀ w ∈ u_ws RX7 TX7 7, w ∈ lw_tbl) w hw) ((by decide +kernel : ∀ w ∈ u_ws RX7 TX7 7, goodWord w = true) w hw)
theorem gk7 : gK 7 RX7 TX7 7 tyX7 := ⟨rfl, uwX7, tyX7_ok, nmX7⟩
theorem nX7_7 : gNw RX7 7 4 3 [.null, .int 0, .int 0] := ⟨RX4, TX4, tyX4, gk4, t_65, t_66, t_43, by decide +kernel, fun _ _ => rfl⟩
theorem fX7_14 : gF RX7 14 7 0 (.object "CardLink$Row") true := ⟨RX7, TX7, 7, tyX7, gk7, by decide, t_372, rfl, rfl, fun _ => rfl⟩
theorem nX7_18 : gNw RX7 18 1 9 [.null, .null, .null, .null, .null, .null, .null, .null, .int 0] := ⟨RX1, TX1, tyX1, gk1, t_85, t_86, t_45, by decide +kernel, fun _ _ => rfl⟩
theorem fX7_21 : gF RX7 21 7 1 (.object "CardLink$Journal") true := ⟨RX7, TX7, 7, tyX7, gk7, by decide, t_373, rfl, rfl, fun _ => rfl⟩
theorem nX7_25 : gNw RX7 25 2 18 [.null, .null, .null, .int 0, .int 0, .int 0, .int 0, .int 0, .null, .null, .null, .int 0, .int 0, .int 0, .int 0, .int 0, .int 0, .int 0] := ⟨RX2, TX2, tyX2, gk2, t_123, t_124, t_46, by decide +kernel, fun _ _ => rfl⟩
theorem fX7_30 : gF RX7 30 7 2 (.object "CardLink$Line") true := ⟨RX7, TX7, 7, tyX7, gk7, by decide, t_374, rfl, rfl, fun _ => rfl⟩
theorem nX7_34 : gNw RX7 34 0 7 [.null, .null, .null, .int 0, .null, .null, .null] := ⟨RX0, TX0, tyX0, gk0, t_300, t_301, t_49, by decide +kernel, fun _ _ => rfl⟩
theorem fX7_37 : gF RX7 37 7 3 (.object "CardLink$Forecast") true := ⟨RX7, TX7, 7, tyX7, gk7, by decide, t_375, rfl, rfl, fun _ => rfl⟩
theorem nX7_41 : gNw RX7 41 3 11 [.int 0, .int 0, .int 0, .int 0, .int 0, .int 0, .int 0, .null, .int 0, .int 0, .int 0] := ⟨RX3, TX3, tyX3, gk3, t_330, t_331, t_50, by decide +kernel, fun _ _ => rfl⟩
theorem fX7_44 : gF RX7 44 7 4 (.object "CardLink$ResetAnswer") false := ⟨RX7, TX7, 7, tyX7, gk7, by decide, t_376, rfl, rfl, fun h => by cases h⟩
theorem fX7_48 : gF RX7 48 7 5 (.object "CardLink$ResetAnswer") false := ⟨RX7, TX7, 7, tyX7, gk7, by decide, t_377, rfl, rfl, fun h => by cases h⟩
theorem fX7_51 : gF RX7 51 7 6 .boolean false := ⟨RX7, TX7, 7, tyX7, gk7, by decide, t_378, rfl, rfl, fun h => by cases h⟩
theorem fX7_110 : gF RX7 110 2 3 .int false := ⟨RX2, TX2, 18, tyX2, gk2, by decide, t_244, rfl, rfl, fun h => by cases h⟩
theorem fX7_114 : ∃ (RC : String) (T : u_T) (N : Nat) (tf : Nat → FieldType), gK 2 RC T N tf ∧ 2 < N ∧ Cond.fieldLink RX7 114 (T 2).1 (T 2).2.1 (T 2).2.2.1 ∈ gW := ⟨RX2, TX2, 18, tyX2, gk2, by decide, t_242⟩
theorem fX7_130 : gF RX7 130 6 0 .int false := ⟨RX6, TX6, 10, tyX6, gk6, by decide, t_201, rfl, rfl, fun h => by cases h⟩
theorem fX7_146 : ∃ (RC : String) (T : u_T) (N : Nat) (tf : Nat → FieldType), gK 2 RC T N tf ∧ 0 < N ∧ Cond.fieldLink RX7 146 (T 0).1 (T 0).2.1 (T 0).2.2.1 ∈ gW := ⟨RX2, TX2, 18, tyX2, gk2, by decide, t_238⟩
theorem fX7_150 : ∃ (RC : String) (T : u_T) (N : Nat) (tf : Nat → FieldType), gK 2 RC T N tf ∧ 1 < N ∧ Cond.fieldLink RX7 150 (T 1).1 (T 1).2.1 (T 1).2.2.1 ∈ gW := ⟨RX2, TX2, 18, tyX2, gk2, by decide, t_240⟩
theorem fX7_153 : gF RX7 153 5 7 .int false := ⟨RX5, TX5, 15, tyX5, gk5, by decide, t_152, rfl, rfl, fun h => by cases h⟩
theorem fX7_156 : ∃ (RC : String) (T : u_T) (N : Nat) (tf : Nat → FieldType), gK 5 RC T N tf ∧ 9 < N ∧ Cond.fieldLink RX7 156 (T 9).1 (T 9).2.1 (T 9).2.2.1 ∈ gW := ⟨RX5, TX5, 15, tyX5, gk5, by decide, t_156⟩
theorem fX7_181 : gF RX7 181 6 1 .int false := ⟨RX6, TX6, 10, tyX6, gk6, by decide, t_203, rfl, rfl, fun h => by cases h⟩
theorem fX7_194 : gF RX7 194 6 2 .int false := ⟨RX6, TX6, 10, tyX6, gk6, by decide, t_206, rfl, rfl, fun h => by cases h⟩
theorem fX7_197 : gF RX7 197 2 4 .int false := ⟨RX2, TX2, 18, tyX2, gk2, by decide, t_246, rfl, rfl, fun h => by cases h⟩
theorem fX7_203 : gF RX7 203 2 5 .int false := ⟨RX2, TX2, 18, tyX2, gk2, by decide, t_248, rfl, rfl, fun h => by cases h⟩
theorem fX7_206 : gF RX7 206 2 6 .int false := ⟨RX2, TX2, 18, tyX2, gk2, by decide, t_250, rfl, rfl, fun h => by cases h⟩
theorem fX7_209 : gF RX7 209 2 7 .int false := ⟨RX2, TX2, 18, tyX2, gk2, by decide, t_252, rfl, rfl, fun h => by cases h⟩
theorem nX0_9 : gNw RX0 9 2 18 [.null, .null, .null, .int 0, .int 0, .int 0, .int 0, .int 0, .null, .null, .null, .int 0, .int 0, .int 0, .int 0, .int 0, .int 0, .int 0] := ⟨RX2, TX2, tyX2, gk2, t_306, t_124, t_46, by decide +kernel, fun _ _ => rfl⟩
theorem fX0_14 : gF RX0 14 0 0 (.object "CardLink$Line") true := ⟨RX0, TX0, 7, tyX0, gk0, by decide, t_308, rfl, rfl, fun _ => rfl⟩
theorem fX0_20 : gF RX0 20 0 1 (.object "CardLink$Line") true := ⟨RX0, TX0, 7, tyX0, gk0, by decide, t_309, rfl, rfl, fun _ => rfl⟩
theorem fX0_23 : gF RX0 23 0 2 (.object "CardLink$Line") true := ⟨RX0, TX0, 7, tyX0, gk0, by decide, t_310, rfl, rfl, fun _ => rfl⟩
theorem fX0_26 : gF RX0 26 0 3 .boolean false := ⟨RX0, TX0, 7, tyX0, gk0, by decide, t_311, rfl, rfl, fun h => by cases h⟩
theorem fX0_30 : gF RX0 30 0 4 (.array .int) true := ⟨RX0, TX0, 7, tyX0, gk0, by decide, t_312, rfl, rfl, fun _ => rfl⟩
theorem fX0_34 : gF RX0 34 0 5 (.array .int) true := ⟨RX0, TX0, 7, tyX0, gk0, by decide, t_313, rfl, rfl, fun _ => rfl⟩
theorem fX0_37 : gF RX0 37 0 6 (.array .int) true := ⟨RX0, TX0, 7, tyX0, gk0, by decide, t_314, rfl, rfl, fun _ => rfl⟩
theorem nX1_9 : gNw RX1 9 4 3 [.null, .int 0, .int 0] := ⟨RX4, TX4, tyX4, gk4, t_91, t_66, t_43, by decide +kernel, fun _ _ => rfl⟩
theorem fX1_17 : gF RX1 17 1 0 (.object "CardLink$Row") true := ⟨RX1, TX1, 9, tyX1, gk1, by decide, t_95, rfl, rfl, fun _ => rfl⟩
theorem fX1_22 : gF RX1 22 1 1 (.object "CardLink$Row") true := ⟨RX1, TX1, 9, tyX1, gk1, by decide, t_96, rfl, rfl, fun _ => rfl⟩
theorem fX1_25 : gF RX1 25 1 2 (.object "CardLink$Row") true := ⟨RX1, TX1, 9, tyX1, gk1, by decide, t_97, rfl, rfl, fun _ => rfl⟩
theorem fX1_28 : gF RX1 28 1 3 (.object "CardLink$Row") true := ⟨RX1, TX1, 9, tyX1, gk1, by decide, t_98, rfl, rfl, fun _ => rfl⟩
theorem fX1_31 : gF RX1 31 1 4 (.object "CardLink$Row") true := ⟨RX1, TX1, 9, tyX1, gk1, by decide, t_99, rfl, rfl, fun _ => rfl⟩
theorem fX1_34 : gF RX1 34 1 5 (.object "CardLink$Row") true := ⟨RX1, TX1, 9, tyX1, gk1, by decide, t_100, rfl, rfl, fun _ => rfl⟩
theorem fX1_37 : gF RX1 37 1 6 (.object "CardLink$Row") true := ⟨RX1, TX1, 9, tyX1, gk1, by decide, t_101, rfl, rfl, fun _ => rfl⟩
theorem fX1_40 : gF RX1 40 1 7 (.object "CardLink$Row") true := ⟨RX1, TX1, 9, tyX1, gk1, by decide, t_102, rfl, rfl, fun _ => rfl⟩
theorem fX1_43 : gF RX1 43 1 8 .int false := ⟨RX1, TX1, 9, tyX1, gk1, by decide, t_103, rfl, rfl, fun h => by cases h⟩
theorem nX2_9 : gNw RX2 9 5 15 [.int 0, .int 0, .int 0, .int 0, .int 0, .int 0, .int 0, .int 0, .null, .null, .null, .int 0, .int 0, .int 0, .int 0] := ⟨RX5, TX5, tyX5, gk5, t_129, t_130, t_47, by decide +kernel, fun _ _ => rfl⟩
theorem fX2_14 : gF RX2 14 2 0 (.object "CardLink$Side") true := ⟨RX2, TX2, 18, tyX2, gk2, by decide, t_237, rfl, rfl, fun _ => rfl⟩
theorem fX2_20 : gF RX2 20 2 1 (.object "CardLink$Side") true := ⟨RX2, TX2, 18, tyX2, gk2, by decide, t_239, rfl, rfl, fun _ => rfl⟩
theorem nX2_23 : gNw RX2 23 6 10 [.int 0, .int 0, .int 0, .null, .null, .null, .int 0, .int 0, .int 0, .int 0] := ⟨RX6, TX6, tyX6, gk6, t_194, t_195, t_48, by decide +kernel, fun _ _ => rfl⟩
theorem fX2_26 : gF RX2 26 2 2 (.object "CardLink$Wire") true := ⟨RX2, TX2, 18, tyX2, gk2, by decide, t_241, rfl, rfl, fun _ => rfl⟩
theorem fX2_30 : gF RX2 30 2 3 .int false := ⟨RX2, TX2, 18, tyX2, gk2, by decide, t_243, rfl, rfl, fun h => by cases h⟩
theorem fX2_34 : gF RX2 34 2 4 .int false := ⟨RX2, TX2, 18, tyX2, gk2, by decide, t_245, rfl, rfl, fun h => by cases h⟩
theorem fX2_37 : gF RX2 37 2 5 .int false := ⟨RX2, TX2, 18, tyX2, gk2, by decide, t_247, rfl, rfl, fun h => by cases h⟩
theorem fX2_40 : gF RX2 40 2 6 .int false := ⟨RX2, TX2, 18, tyX2, gk2, by decide, t_249, rfl, rfl, fun h => by cases h⟩
theorem fX2_43 : gF RX2 43 2 7 .int false := ⟨RX2, TX2, 18, tyX2, gk2, by decide, t_251, rfl, rfl, fun h => by cases h⟩
theorem nX2_46 : gNw RX2 46 4 3 [.null, .int 0, .int 0] := ⟨RX4, TX4, tyX4, gk4, t_235, t_66, t_43, by decide +kernel, fun _ _ => rfl⟩
theorem fX2_51 : gF RX2 51 2 8 (.object "CardLink$Row") true := ⟨RX2, TX2, 18, tyX2, gk2, by decide, t_253, rfl, rfl, fun _ => rfl⟩
theorem fX2_55 : gF RX2 55 2 9 (.object "CardLink$Row") true := ⟨RX2, TX2, 18, tyX2, gk2, by decide, t_254, rfl, rfl, fun _ => rfl⟩
theorem fX2_58 : gF RX2 58 2 11 .int false := ⟨RX2, TX2, 18, tyX2, gk2, by decide, t_256, rfl, rfl, fun h => by cases h⟩
theorem fX2_61 : gF RX2 61 2 12 .boolean false := ⟨RX2, TX2, 18, tyX2, gk2, by decide, t_257, rfl, rfl, fun h => by cases h⟩
theorem fX2_65 : gF RX2 65 2 13 .int false := ⟨RX2, TX2, 18, tyX2, gk2, by decide, t_258, rfl, rfl, fun h => by cases h⟩
theorem fX2_68 : gF RX2 68 2 14 .boolean false := ⟨RX2, TX2, 18, tyX2, gk2, by decide, t_259, rfl, rfl, fun h => by cases h⟩
theorem fX2_71 : gF RX2 71 2 15 .boolean false := ⟨RX2, TX2, 18, tyX2, gk2, by decide, t_260, rfl, rfl, fun h => by cases h⟩
theorem fX2_74 : gF RX2 74 2 16 .int false := ⟨RX2, TX2, 18, tyX2, gk2, by decide, t_261, rfl, rfl, fun h => by cases h⟩
theorem fX2_77 : gF RX2 77 2 17 .int false := ⟨RX2, TX2, 18, tyX2, gk2, by decide, t_262, rfl, rfl, fun h => by cases h⟩
theorem fX2_80 : gF RX2 80 2 10 (.object "CardLink$Journal") true := ⟨RX2, TX2, 18, tyX2, gk2, by decide, t_255, rfl, rfl, fun _ => rfl⟩
theorem fX2_102 : ∃ (RC : String) (T : u_T) (N : Nat) (tf : Nat → FieldType), gK 5 RC T N tf ∧ 8 < N ∧ Cond.fieldLink RX2 102 (T 8).1 (T 8).2.1 (T 8).2.2.1 ∈ gW := ⟨RX5, TX5, 15, tyX5, gk5, by decide, t_154⟩
theorem fX2_105 : gF RX2 105 5 4 .int false := ⟨RX5, TX5, 15, tyX5, gk5, by decide, t_146, rfl, rfl, fun h => by cases h⟩
theorem fX2_115 : gF RX2 115 5 3 .int false := ⟨RX5, TX5, 15, tyX5, gk5, by decide, t_144, rfl, rfl, fun h => by cases h⟩
theorem fX2_149 : gF RX2 149 5 5 .int false := ⟨RX5, TX5, 15, tyX5, gk5, by decide, t_148, rfl, rfl, fun h => by cases h⟩
theorem fX2_194 : gF RX2 194 5 6 .int false := ⟨RX5, TX5, 15, tyX5, gk5, by decide, t_150, rfl, rfl, fun h => by cases h⟩
theorem fX2_204 : gF RX2 204 5 2 .int false := ⟨RX5, TX5, 15, tyX5, gk5, by decide, t_142, rfl, rfl, fun h => by cases h⟩
theorem fX2_226 : gF RX2 226 5 1 .int false := ⟨RX5, TX5, 15, tyX5, gk5, by decide, t_140, rfl, rfl, fun h => by cases h⟩
theorem fX2_235 : ∃ (RC : String) (T : u_T) (N : Nat) (tf : Nat → FieldType), gK 5 RC T N tf ∧ 9 < N ∧ Cond.fieldLink RX2 235 (T 9).1 (T 9).2.1 (T 9).2.2.1 ∈ gW := ⟨RX5, TX5, 15, tyX5, gk5, by decide, t_157⟩
theorem fX2_257 : gF RX2 257 6 1 .int false := ⟨RX6, TX6, 10, tyX6, gk6, by decide, t_204, rfl, rfl, fun h => by cases h⟩
theorem fX2_267 : ∃ (RC : String) (T : u_T) (N : Nat) (tf : Nat → FieldType), gK 5 RC T N tf ∧ 0 < N ∧ Cond.fieldLink RX2 267 (T 0).1 (T 0).2.1 (T 0).2.2.1 ∈ gW := ⟨RX5, TX5, 15, tyX5, gk5, by decide, t_138⟩
theorem nX3_9 : gNw RX3 9 4 3 [.null, .int 0, .int 0] := ⟨RX4, TX4, tyX4, gk4, t_336, t_66, t_43, by decide +kernel, fun _ _ => rfl⟩
theorem fX3_14 : gF RX3 14 3 7 (.object "CardLink$Row") true := ⟨RX3, TX3, 11, tyX3, gk3, by decide, t_345, rfl, rfl, fun _ => rfl⟩
theorem fX3_38 : gF RX3 38 3 1 .int false := ⟨RX3, TX3, 11, tyX3, gk3, by decide, t_339, rfl, rfl, fun h => by cases h⟩
theorem fX3_42 : gF RX3 42 3 2 .int false := ⟨RX3, TX3, 11, tyX3, gk3, by decide, t_340, rfl, rfl, fun h => by cases h⟩
theorem fX3_45 : gF RX3 45 3 3 .int false := ⟨RX3, TX3, 11, tyX3, gk3, by decide, t_341, rfl, rfl, fun h => by cases h⟩
theorem fX3_48 : gF RX3 48 3 4 .int false := ⟨RX3, TX3, 11, tyX3, gk3, by decide, t_342, rfl, rfl, fun h => by cases h⟩
theorem fX3_51 : gF RX3 51 3 5 .int false := ⟨RX3, TX3, 11, tyX3, gk3, by decide, t_343, rfl, rfl, fun h => by cases h⟩
theorem fX3_54 : gF RX3 54 3 6 .boolean false := ⟨RX3, TX3, 11, tyX3, gk3, by decide, t_344, rfl, rfl, fun h => by cases h⟩
theorem fX3_62 : gF RX3 62 3 10 .int false := ⟨RX3, TX3, 11, tyX3, gk3, by decide, t_348, rfl, rfl, fun h => by cases h⟩
theorem fX3_73 : gF RX3 73 3 0 .int false := ⟨RX3, TX3, 11, tyX3, gk3, by decide, t_338, rfl, rfl, fun h => by cases h⟩
theorem fX3_76 : gF RX3 76 3 9 .int false := ⟨RX3, TX3, 11, tyX3, gk3, by decide, t_347, rfl, rfl, fun h => by cases h⟩
theorem fX3_79 : gF RX3 79 3 8 .int false := ⟨RX3, TX3, 11, tyX3, gk3, by decide, t_346, rfl, rfl, fun h => by cases h⟩
theorem fX4_7 : gF RX4 7 4 1 .int false := ⟨RX4, TX4, 3, tyX4, gk4, by decide, t_75, rfl, rfl, fun h => by cases h⟩
theorem fX4_19 : gF RX4 19 4 0 (.array .int) false := ⟨RX4, TX4, 3, tyX4, gk4, by decide, t_74, rfl, rfl, fun h => by cases h⟩
theorem fX4_23 : gF RX4 23 4 2 .int true := ⟨RX4, TX4, 3, tyX4, gk4, by decide, t_76, rfl, rfl, fun _ => rfl⟩
theorem fX5_9 : gF RX5 9 5 1 .int false := ⟨RX5, TX5, 15, tyX5, gk5, by decide, t_139, rfl, rfl, fun h => by cases h⟩
theorem fX5_15 : gF RX5 15 5 2 .int false := ⟨RX5, TX5, 15, tyX5, gk5, by decide, t_141, rfl, rfl, fun h => by cases h⟩
theorem fX5_18 : gF RX5 18 5 3 .int false := ⟨RX5, TX5, 15, tyX5, gk5, by decide, t_143, rfl, rfl, fun h => by cases h⟩
theorem fX5_21 : gF RX5 21 5 4 .int false := ⟨RX5, TX5, 15, tyX5, gk5, by decide, t_145, rfl, rfl, fun h => by cases h⟩
theorem fX5_24 : gF RX5 24 5 5 .int false := ⟨RX5, TX5, 15, tyX5, gk5, by decide, t_147, rfl, rfl, fun h => by cases h⟩
theorem fX5_27 : gF RX5 27 5 6 .int false := ⟨RX5, TX5, 15, tyX5, gk5, by decide, t_149, rfl, rfl, fun h => by cases h⟩
theorem fX5_30 : gF RX5 30 5 7 .int false := ⟨RX5, TX5, 15, tyX5, gk5, by decide, t_151, rfl, rfl, fun h => by cases h⟩
theorem nX5_33 : gNw RX5 33 4 3 [.null, .int 0, .int 0] := ⟨RX4, TX4, tyX4, gk4, t_135, t_66, t_43, by decide +kernel, fun _ _ => rfl⟩
theorem fX5_38 : gF RX5 38 5 8 (.object "CardLink$Row") true := ⟨RX5, TX5, 15, tyX5, gk5, by decide, t_153, rfl, rfl, fun _ => rfl⟩
theorem fX5_42 : gF RX5 42 5 9 (.object "CardLink$Row") true := ⟨RX5, TX5, 15, tyX5, gk5, by decide, t_155, rfl, rfl, fun _ => rfl⟩
theorem fX5_45 : gF RX5 45 5 10 (.object "CardLink$Row") true := ⟨RX5, TX5, 15, tyX5, gk5, by decide, t_158, rfl, rfl, fun _ => rfl⟩
theorem fX5_48 : gF RX5 48 5 11 .int false := ⟨RX5, TX5, 15, tyX5, gk5, by decide, t_159, rfl, rfl, fun h => by cases h⟩
theorem fX5_51 : gF RX5 51 5 12 .boolean false := ⟨RX5, TX5, 15, tyX5, gk5, by decide, t_160, rfl, rfl, fun h => by cases h⟩
theorem fX5_55 : gF RX5 55 5 13 .int false := ⟨RX5, TX5, 15, tyX5, gk5, by decide, t_161, rfl, rfl, fun h => by cases h⟩
theorem fX5_58 : gF RX5 58 5 14 .int false := ⟨RX5, TX5, 15, tyX5, gk5, by decide, t_162, rfl, rfl, fun h => by cases h⟩
theorem fX5_61 : gF RX5 61 5 0 .int true := ⟨RX5, TX5, 15, tyX5, gk5, by decide, t_137, rfl, rfl, fun _ => rfl⟩
theorem fX6_9 : gF RX6 9 6 0 .int false := ⟨RX6, TX6, 10, tyX6, gk6, by decide, t_200, rfl, rfl, fun h => by cases h⟩
theorem fX6_15 : gF RX6 15 6 1 .int false := ⟨RX6, TX6, 10, tyX6, gk6, by decide, t_202, rfl, rfl, fun h => by cases h⟩
theorem fX6_18 : gF RX6 18 6 2 .int false := ⟨RX6, TX6, 10, tyX6, gk6, by decide, t_205, rfl, rfl, fun h => by cases h⟩
theorem fX6_21 : gF RX6 21 6 3 (.array .int) true := ⟨RX6, TX6, 10, tyX6, gk6, by decide, t_207, rfl, rfl, fun _ => rfl⟩
theorem fX6_25 : gF RX6 25 6 4 (.array .int) true := ⟨RX6, TX6, 10, tyX6, gk6, by decide, t_208, rfl, rfl, fun _ => rfl⟩
theorem fX6_28 : gF RX6 28 6 5 (.array .int) true := ⟨RX6, TX6, 10, tyX6, gk6, by decide, t_209, rfl, rfl, fun _ => rfl⟩
theorem fX6_31 : gF RX6 31 6 6 .int false := ⟨RX6, TX6, 10, tyX6, gk6, by decide, t_210, rfl, rfl, fun h => by cases h⟩
theorem fX6_34 : gF RX6 34 6 7 .int false := ⟨RX6, TX6, 10, tyX6, gk6, by decide, t_211, rfl, rfl, fun h => by cases h⟩
theorem fX6_37 : gF RX6 37 6 8 .int false := ⟨RX6, TX6, 10, tyX6, gk6, by decide, t_212, rfl, rfl, fun h => by cases h⟩
theorem fX6_40 : gF RX6 40 6 9 .int false := ⟨RX6, TX6, 10, tyX6, gk6, by decide, t_213, rfl, rfl, fun h => by cases h⟩
theorem nL_9 : gNw RL 9 7 7 [.null, .null, .null, .null, .null, .null, .int 0] := ⟨RX7, TX7, tyX7, gk7, t_57, t_58, t_42, by decide +kernel, fun _ _ => rfl⟩
theorem gyX0_init : gY yX0_init cX0_init 1 none 0 := ⟨t_49, t_304, by decide +kernel⟩
theorem giX0_init : gVi yX0_init := t_303
theorem gyX0_forget : gY yX0_forget cX0_forget 1 none 0 := ⟨t_49, t_511, by decide +kernel⟩
theorem gvX0_forget : gVv yX0_forget := ⟨t_509, t_510⟩
theorem gyX1_init : gY yX1_init cX1_init 1 none 0 := ⟨t_45, t_89, by decide +kernel⟩
theorem giX1_init : gVi yX1_init := t_88
theorem gyX1_forgetAll : gY yX1_forgetAll cX1_forgetAll 1 none 0 := ⟨t_45, t_484, by decide +kernel⟩
theorem gvX1_forgetAll : gVv yX1_forgetAll := ⟨t_482, t_483⟩
theorem gyX1_unlike : gY yX1_unlike cX1_unlike 1 (some .int) 0 := ⟨t_45, t_847, by decide +kernel⟩
theorem gvX1_unlike : gVv yX1_unlike := ⟨t_845, t_846⟩
theorem gyX1_kept : gY yX1_kept cX1_kept 1 (some .int) 0 := ⟨t_45, t_851, by decide +kernel⟩
theorem gvX1_kept : gVv yX1_kept := ⟨t_849, t_850⟩
theorem gyX1_note : gY yX1_note cX1_note 4 none 3 := ⟨t_45, t_799, by decide +kernel⟩
theorem gvX1_note : gVv yX1_note := ⟨t_797, t_798⟩
theorem gyX1_idOf : gY yX1_idOf cX1_idOf 6 (some .int) 2 := ⟨t_45, t_777, by decide +kernel⟩
theorem gvX1_idOf : gVv yX1_idOf := ⟨t_775, t_776⟩
theorem gyX1_chainOf : gY yX1_chainOf cX1_chainOf 4 (some .int) 2 := ⟨t_45, t_782, by decide +kernel⟩
theorem gyX1_isBlock : gY yX1_isBlock cX1_isBlock 6 (some .boolean) 3 := ⟨t_45, t_787, by decide +kernel⟩
theorem gvX1_isBlock : gVv yX1_isBlock := ⟨t_786, t_29⟩
theorem gyX1_addUnlike : gY yX1_addUnlike cX1_addUnlike 6 (some .int) 3 := ⟨t_45, t_791, by decide +kernel⟩
theorem gvX1_addUnlike : gVv yX1_addUnlike := ⟨t_790, t_30⟩
theorem gyX1_placeOf : gY yX1_placeOf cX1_placeOf 3 (some .int) 1 := ⟨t_45, t_907, by decide +kernel⟩
theorem gvX1_placeOf : gVv yX1_placeOf := ⟨t_906, t_39⟩
theorem gyX1_tell : gY yX1_tell cX1_tell 6 (some .int) 2 := ⟨t_45, t_976, by decide +kernel⟩
theorem gvX1_tell : gVv yX1_tell := ⟨t_974, t_975⟩
theorem gyX1_byteAt : gY yX1_byteAt cX1_byteAt 4 (some .int) 2 := ⟨t_45, t_903, by decide +kernel⟩
theorem gvX1_byteAt : gVv yX1_byteAt := ⟨t_901, t_902⟩
theorem gyX2_init : gY yX2_init cX2_init 2 none 1 := ⟨t_46, t_127, by decide +kernel⟩
theorem giX2_init : gVi yX2_init := t_126
theorem gyX2_restart : gY yX2_restart cX2_restart 2 none 1 := ⟨t_46, t_493, by decide +kernel⟩
theorem gvX2_restart : gVv yX2_restart := ⟨t_491, t_492⟩
theorem gyX2_startMessage : gY yX2_startMessage cX2_startMessage 2 none 1 := ⟨t_46, t_547, by decide +kernel⟩
theorem gvX2_startMessage : gVv yX2_startMessage := ⟨t_545, t_546⟩
theorem gyX2_startRoom : gY yX2_startRoom cX2_startRoom 2 none 1 := ⟨t_46, t_569, by decide +kernel⟩
theorem gvX2_startRoom : gVv yX2_startRoom := ⟨t_567, t_568⟩
theorem gyX2_begin : gY yX2_begin cX2_begin 2 none 1 := ⟨t_46, t_556, by decide +kernel⟩
theorem gvX2_begin : gVv yX2_begin := ⟨t_555, t_9⟩
theorem gyX2_blocksAhead : gY yX2_blocksAhead cX2_blocksAhead 4 (some .int) 0 := ⟨t_46, t_560, by decide +kernel⟩
theorem gvX2_blocksAhead : gVv yX2_blocksAhead := ⟨t_558, t_559⟩
theorem gyX2_blocksSent : gY yX2_blocksSent cX2_blocksSent 1 (some .int) 0 := ⟨t_46, t_610, by decide +kernel⟩
theorem gvX2_blocksSent : gVv yX2_blocksSent := ⟨t_608, t_609⟩
theorem gyX2_run : gY yX2_run cX2_run 4 (some .int) 1 := ⟨t_46, t_606, by decide +kernel⟩
theorem gvX2_run : gVv yX2_run := ⟨t_604, t_605⟩
theorem gyX2_turn : gY yX2_turn cX2_turn 2 none 0 := ⟨t_46, t_618, by decide +kernel⟩
theorem gvX2_turn : gVv yX2_turn := ⟨t_616, t_617⟩
theorem gyX2_firstKind : gY yX2_firstKind cX2_firstKind 1 (some .int) 0 := ⟨t_46, t_622, by decide +kernel⟩
theorem gvX2_firstKind : gVv yX2_firstKind := ⟨t_621, t_12⟩
theorem gyX2_countTries : gY yX2_countTries cX2_countTries 2 (some .int) 1 := ⟨t_46, t_714, by decide +kernel⟩
theorem gvX2_countTries : gVv yX2_countTries := ⟨t_713, t_22⟩
theorem gyX2_readerKind : gY yX2_readerKind cX2_readerKind 2 (some .int) 0 := ⟨t_46, t_634, by decide +kernel⟩
theorem gvX2_readerKind : gVv yX2_readerKind := ⟨t_633, t_13⟩
theorem gyX2_cardKind : gY yX2_cardKind cX2_cardKind 2 (some .int) 0 := ⟨t_46, t_803, by decide +kernel⟩
theorem gvX2_cardKind : gVv yX2_cardKind := ⟨t_802, t_31⟩
theorem gyX2_onBroken : gY yX2_onBroken cX2_onBroken 2 (some .int) 1 := ⟨t_46, t_638, by decide +kernel⟩
theorem gvX2_onBroken : gVv yX2_onBroken := ⟨t_637, t_14⟩
theorem gyX2_refuse : gY yX2_refuse cX2_refuse 2 (some .int) 1 := ⟨t_46, t_673, by decide +kernel⟩
theorem gvX2_refuse : gVv yX2_refuse := ⟨t_672, t_19⟩
theorem gyX2_isAnswerTo : gY yX2_isAnswerTo cX2_isAnswerTo 2 (some .boolean) 1 := ⟨t_46, t_652, by decide +kernel⟩
theorem gvX2_isAnswerTo : gVv yX2_isAnswerTo := ⟨t_651, t_16⟩
theorem gyX2_readerOnAnswer : gY yX2_readerOnAnswer cX2_readerOnAnswer 2 (some .int) 0 := ⟨t_46, t_648, by decide +kernel⟩
theorem gvX2_readerOnAnswer : gVv yX2_readerOnAnswer := ⟨t_647, t_15⟩
theorem gyX2_finish : gY yX2_finish cX2_finish 2 (some .int) 1 := ⟨t_46, t_657, by decide +kernel⟩
theorem gvX2_finish : gVv yX2_finish := ⟨t_656, t_17⟩
theorem gyX2_cardOnAnswer : gY yX2_cardOnAnswer cX2_cardOnAnswer 2 (some .int) 0 := ⟨t_46, t_811, by decide +kernel⟩
theorem gvX2_cardOnAnswer : gVv yX2_cardOnAnswer := ⟨t_810, t_33⟩
theorem gyX2_onI : gY yX2_onI cX2_onI 3 (some .int) 2 := ⟨t_46, t_677, by decide +kernel⟩
theorem gvX2_onI : gVv yX2_onI := ⟨t_676, t_20⟩
theorem gyX2_onReceipt : gY yX2_onReceipt cX2_onReceipt 4 (some .int) 2 := ⟨t_46, t_702, by decide +kernel⟩
theorem gvX2_onReceipt : gVv yX2_onReceipt := ⟨t_701, t_21⟩
theorem gyX2_onRequest : gY yX2_onRequest cX2_onRequest 5 (some .int) 3 := ⟨t_46, t_661, by decide +kernel⟩
theorem gvX2_onRequest : gVv yX2_onRequest := ⟨t_660, t_18⟩
theorem gyX2_doMessage : gY yX2_doMessage cX2_doMessage 3 (some .int) 0 := ⟨t_46, t_819, by decide +kernel⟩
theorem gvX2_doMessage : gVv yX2_doMessage := ⟨t_818, t_35⟩
theorem gyX2_putCounting : gY yX2_putCounting cX2_putCounting 3 (some .int) 1 := ⟨t_46, t_823, by decide +kernel⟩
theorem gvX2_putCounting : gVv yX2_putCounting := ⟨t_822, t_36⟩
theorem gyX2_putBehindThird : gY yX2_putBehindThird cX2_putBehindThird 2 (some .int) 0 := ⟨t_46, t_815, by decide +kernel⟩
theorem gvX2_putBehindThird : gVv yX2_putBehindThird := ⟨t_814, t_34⟩
theorem gyX2_putFirstByte : gY yX2_putFirstByte cX2_putFirstByte 1 (some .int) 0 := ⟨t_46, t_807, by decide +kernel⟩
theorem gvX2_putFirstByte : gVv yX2_putFirstByte := ⟨t_806, t_32⟩
theorem gyX2_kindToSend : gY yX2_kindToSend cX2_kindToSend 3 (some .int) 3 := ⟨t_46, t_721, by decide +kernel⟩
theorem gyX2_send : gY yX2_send cX2_send 7 none 3 := ⟨t_46, t_718, by decide +kernel⟩
theorem gvX2_send : gVv yX2_send := ⟨t_717, t_23⟩
theorem gyX2_compose : gY yX2_compose cX2_compose 5 none 2 := ⟨t_46, t_732, by decide +kernel⟩
theorem gvX2_compose : gVv yX2_compose := ⟨t_731, t_24⟩
theorem gyX2_hasInf : gY yX2_hasInf cX2_hasInf 1 (some .boolean) 1 := ⟨t_46, t_740, by decide +kernel⟩
theorem gyX2_judge : gY yX2_judge cX2_judge 3 (some .int) 2 := ⟨t_46, t_769, by decide +kernel⟩
theorem gvX2_judge : gVv yX2_judge := ⟨t_768, t_27⟩
theorem gyX2_isWellFormed : gY yX2_isWellFormed cX2_isWellFormed 4 (some .boolean) 3 := ⟨t_46, t_773, by decide +kernel⟩
theorem gvX2_isWellFormed : gVv yX2_isWellFormed := ⟨t_772, t_28⟩
theorem gyX3_init : gY yX3_init cX3_init 1 none 0 := ⟨t_50, t_334, by decide +kernel⟩
theorem giX3_init : gVi yX3_init := t_333
theorem gyX3_read : gY yX3_read cX3_read 3 (some .int) 1 := ⟨t_50, t_401, by decide +kernel⟩
theorem gvX3_read : gVv yX3_read := ⟨t_399, t_400⟩
theorem gyX3_clear : gY yX3_clear cX3_clear 1 none 0 := ⟨t_50, t_405, by decide +kernel⟩
theorem gvX3_clear : gVv yX3_clear := ⟨t_404, t_0⟩
theorem gyX3_faultAt : gY yX3_faultAt cX3_faultAt 2 (some .int) 2 := ⟨t_50, t_423, by decide +kernel⟩
theorem gyX3_readHead : gY yX3_readHead cX3_readHead 2 (some .int) 1 := ⟨t_50, t_416, by decide +kernel⟩
theorem gvX3_readHead : gVv yX3_readHead := ⟨t_415, t_1⟩
theorem gyX3_readGroups : gY yX3_readGroups cX3_readGroups 6 (some .int) 1 := ⟨t_50, t_431, by decide +kernel⟩
theorem gvX3_readGroups : gVv yX3_readGroups := ⟨t_430, t_2⟩
theorem gyX3_readGroupByte : gY yX3_readGroupByte cX3_readGroupByte 4 (some .int) 3 := ⟨t_50, t_435, by decide +kernel⟩
theorem gvX3_readGroupByte : gVv yX3_readGroupByte := ⟨t_434, t_3⟩
theorem gyX3_readFirstGroup : gY yX3_readFirstGroup cX3_readFirstGroup 3 (some .int) 2 := ⟨t_50, t_443, by decide +kernel⟩
theorem gvX3_readFirstGroup : gVv yX3_readFirstGroup := ⟨t_442, t_5⟩
theorem gyX3_readLinkGroup : gY yX3_readLinkGroup cX3_readLinkGroup 3 (some .int) 2 := ⟨t_50, t_457, by decide +kernel⟩
theorem gvX3_readLinkGroup : gVv yX3_readLinkGroup := ⟨t_456, t_6⟩
theorem gyX3_readTd : gY yX3_readTd cX3_readTd 4 (some .int) 2 := ⟨t_50, t_439, by decide +kernel⟩
theorem gvX3_readTd : gVv yX3_readTd := ⟨t_438, t_4⟩
theorem gyX3_readTail : gY yX3_readTail cX3_readTail 5 (some .int) 2 := ⟨t_50, t_461, by decide +kernel⟩
theorem gvX3_readTail : gVv yX3_readTail := ⟨t_460, t_7⟩
theorem gyX3_clockOf : gY yX3_clockOf cX3_clockOf 2 (some .int) 1 := ⟨t_50, t_446, by decide +kernel⟩
theorem gyX3_divisorOf : gY yX3_divisorOf cX3_divisorOf 2 (some .int) 1 := ⟨t_50, t_451, by decide +kernel⟩
theorem gyX3_cardRoom : gY yX3_cardRoom cX3_cardRoom 1 (some .int) 0 := ⟨t_50, t_489, by decide +kernel⟩
theorem gvX3_cardRoom : gVv yX3_cardRoom := ⟨t_487, t_488⟩
theorem gyX3_historicalBytes : gY yX3_historicalBytes cX3_historicalBytes 1 (some .int) 0 := ⟨t_50, t_518, by decide +kernel⟩
theorem gvX3_historicalBytes : gVv yX3_historicalBytes := ⟨t_516, t_517⟩
theorem gyX3_historicalByte : gY yX3_historicalByte cX3_historicalByte 2 (some .int) 1 := ⟨t_50, t_534, by decide +kernel⟩
theorem gvX3_historicalByte : gVv yX3_historicalByte := ⟨t_532, t_533⟩
theorem gyX3_tell : gY yX3_tell cX3_tell 2 (some .int) 1 := ⟨t_50, t_526, by decide +kernel⟩
theorem gvX3_tell : gVv yX3_tell := ⟨t_524, t_525⟩
theorem gyX4_init : gY yX4_init cX4_init 3 none 2 := ⟨t_43, t_69, by decide +kernel⟩
theorem giX4_init : gVi yX4_init := t_68
theorem gyX4_size : gY yX4_size cX4_size 1 (some .int) 0 := ⟨t_43, t_420, by decide +kernel⟩
theorem gvX4_size : gVv yX4_size := ⟨t_418, t_419⟩
theorem gyX4_at : gY yX4_at cX4_at 2 (some .int) 1 := ⟨t_43, t_427, by decide +kernel⟩
theorem gvX4_at : gVv yX4_at := ⟨t_425, t_426⟩
theorem gyX4_put : gY yX4_put cX4_put 3 none 2 := ⟨t_43, t_795, by decide +kernel⟩
theorem gvX4_put : gVv yX4_put := ⟨t_793, t_794⟩
theorem gyX4_add : gY yX4_add cX4_add 2 none 1 := ⟨t_43, t_465, by decide +kernel⟩
theorem gvX4_add : gVv yX4_add := ⟨t_463, t_464⟩
theorem gyX4_keep : gY yX4_keep cX4_keep 2 none 1 := ⟨t_43, t_409, by decide +kernel⟩
theorem gvX4_keep : gVv yX4_keep := ⟨t_407, t_408⟩
theorem gyX4_copy : gY yX4_copy cX4_copy 3 none 1 := ⟨t_43, t_551, by decide +kernel⟩
theorem gvX4_copy : gVv yX4_copy := ⟨t_549, t_550⟩
theorem gyX4_xor : gY yX4_xor cX4_xor 4 (some .int) 1 := ⟨t_43, t_744, by decide +kernel⟩
theorem gvX4_xor : gVv yX4_xor := ⟨t_742, t_743⟩
theorem gyX5_init : gY yX5_init cX5_init 2 none 1 := ⟨t_47, t_133, by decide +kernel⟩
theorem giX5_init : gVi yX5_init := t_132
theorem gyX5_restart : gY yX5_restart cX5_restart 2 none 1 := ⟨t_47, t_497, by decide +kernel⟩
theorem gvX5_restart : gVv yX5_restart := ⟨t_495, t_496⟩
theorem gyX5_emptyAll : gY yX5_emptyAll cX5_emptyAll 1 none 0 := ⟨t_47, t_501, by decide +kernel⟩
theorem gvX5_emptyAll : gVv yX5_emptyAll := ⟨t_499, t_500⟩
theorem gyX5_breakOff : gY yX5_breakOff cX5_breakOff 1 none 0 := ⟨t_47, t_665, by decide +kernel⟩
theorem gvX5_breakOff : gVv yX5_breakOff := ⟨t_663, t_664⟩
theorem gyX5_cutNext : gY yX5_cutNext cX5_cutNext 3 (some .int) 1 := ⟨t_47, t_725, by decide +kernel⟩
theorem gvX5_cutNext : gVv yX5_cutNext := ⟨t_723, t_724⟩
theorem gyX5_pendingKind : gY yX5_pendingKind cX5_pendingKind 1 (some .int) 0 := ⟨t_47, t_710, by decide +kernel⟩
theorem gvX5_pendingKind : gVv yX5_pendingKind := ⟨t_708, t_709⟩
theorem gyX5_pendingSize : gY yX5_pendingSize cX5_pendingSize 1 (some .int) 0 := ⟨t_47, t_737, by decide +kernel⟩
theorem gvX5_pendingSize : gVv yX5_pendingSize := ⟨t_735, t_736⟩
theorem gyX5_hasPending : gY yX5_hasPending cX5_hasPending 1 (some .boolean) 0 := ⟨t_47, t_706, by decide +kernel⟩
theorem gvX5_hasPending : gVv yX5_hasPending := ⟨t_704, t_705⟩
theorem gyX5_pendingHasMore : gY yX5_pendingHasMore cX5_pendingHasMore 1 (some .boolean) 0 := ⟨t_47, t_681, by decide +kernel⟩
theorem gvX5_pendingHasMore : gVv yX5_pendingHasMore := ⟨t_679, t_680⟩
theorem gyX5_passPending : gY yX5_passPending cX5_passPending 1 none 0 := ⟨t_47, t_669, by decide +kernel⟩
theorem gvX5_passPending : gVv yX5_passPending := ⟨t_667, t_668⟩
theorem gyX5_takeInf : gY yX5_takeInf cX5_takeInf 3 none 1 := ⟨t_47, t_686, by decide +kernel⟩
theorem gvX5_takeInf : gVv yX5_takeInf := ⟨t_684, t_685⟩
theorem gyX5_takeWhole : gY yX5_takeWhole cX5_takeWhole 1 none 0 := ⟨t_47, t_693, by decide +kernel⟩
theorem gvX5_takeWhole : gVv yX5_takeWhole := ⟨t_691, t_692⟩
theorem gyX5_takeEmpty : gY yX5_takeEmpty cX5_takeEmpty 1 none 0 := ⟨t_47, t_698, by decide +kernel⟩
theorem gvX5_takeEmpty : gVv yX5_takeEmpty := ⟨t_696, t_697⟩
theorem gyX5_requestKind : gY yX5_requestKind cX5_requestKind 1 (some .int) 0 := ⟨t_47, t_630, by decide +kernel⟩
theorem gvX5_requestKind : gVv yX5_requestKind := ⟨t_628, t_629⟩
theorem gyX5_ask : gY yX5_ask cX5_ask 3 (some .int) 2 := ⟨t_47, t_626, by decide +kernel⟩
theorem gvX5_ask : gVv yX5_ask := ⟨t_624, t_625⟩
theorem gyX5_receipt : gY yX5_receipt cX5_receipt 2 (some .int) 1 := ⟨t_47, t_643, by decide +kernel⟩
theorem gvX5_receipt : gVv yX5_receipt := ⟨t_641, t_642⟩
theorem gyX5_noteSent : gY yX5_noteSent cX5_noteSent 2 none 1 := ⟨t_47, t_749, by decide +kernel⟩
theorem gvX5_noteSent : gVv yX5_noteSent := ⟨t_747, t_748⟩
theorem gyX5_blocksSent : gY yX5_blocksSent cX5_blocksSent 1 (some .int) 0 := ⟨t_47, t_614, by decide +kernel⟩
theorem gvX5_blocksSent : gVv yX5_blocksSent := ⟨t_612, t_613⟩
theorem gyX5_tell : gY yX5_tell cX5_tell 2 (some .int) 1 := ⟨t_47, t_839, by decide +kernel⟩
theorem gvX5_tell : gVv yX5_tell := ⟨t_837, t_838⟩
theorem gyX6_init : gY yX6_init cX6_init 1 none 0 := ⟨t_48, t_198, by decide +kernel⟩
theorem giX6_init : gVi yX6_init := t_197
theorem gyX6_restart : gY yX6_restart cX6_restart 1 none 0 := ⟨t_48, t_506, by decide +kernel⟩
theorem gvX6_restart : gVv yX6_restart := ⟨t_504, t_505⟩
theorem gyX6_faults : gY yX6_faults cX6_faults 1 (some .int) 0 := ⟨t_48, t_590, by decide +kernel⟩
theorem gvX6_faults : gVv yX6_faults := ⟨t_588, t_589⟩
theorem gyX6_isFull : gY yX6_isFull cX6_isFull 1 (some .boolean) 0 := ⟨t_48, t_577, by decide +kernel⟩
theorem gvX6_isFull : gVv yX6_isFull := ⟨t_575, t_576⟩
theorem gyX6_addFault : gY yX6_addFault cX6_addFault 6 none 3 := ⟨t_48, t_581, by decide +kernel⟩
theorem gvX6_addFault : gVv yX6_addFault := ⟨t_579, t_580⟩
theorem gyX6_makePlace : gY yX6_makePlace cX6_makePlace 3 none 1 := ⟨t_48, t_585, by decide +kernel⟩
theorem gvX6_makePlace : gVv yX6_makePlace := ⟨t_584, t_10⟩
theorem gyX6_dropNearest : gY yX6_dropNearest cX6_dropNearest 2 none 0 := ⟨t_48, t_763, by decide +kernel⟩
theorem gvX6_dropNearest : gVv yX6_dropNearest := ⟨t_762, t_26⟩
theorem gyX6_sendLetter : gY yX6_sendLetter cX6_sendLetter 2 (some .int) 0 := ⟨t_48, t_759, by decide +kernel⟩
theorem gvX6_sendLetter : gVv yX6_sendLetter := ⟨t_758, t_25⟩
theorem gyX6_carry : gY yX6_carry cX6_carry 7 (some .int) 2 := ⟨t_48, t_753, by decide +kernel⟩
theorem gvX6_carry : gVv yX6_carry := ⟨t_751, t_752⟩
theorem gyX7_init : gY yX7_init cX7_init 1 none 0 := ⟨t_42, t_61, by decide +kernel⟩
theorem giX7_init : gVi yX7_init := t_60
theorem gyX7_feed : gY yX7_feed cX7_feed 5 (some .int) 2 := ⟨t_42, t_862, by decide +kernel⟩
theorem gvX7_feed : gVv yX7_feed := ⟨t_860, t_861⟩
theorem gyX7_feedEight : gY yX7_feedEight cX7_feedEight 4 none 1 := ⟨t_42, t_866, by decide +kernel⟩
theorem gvX7_feedEight : gVv yX7_feedEight := ⟨t_865, t_38⟩
theorem gyX7_end : gY yX7_end cX7_end 2 (some .int) 1 := ⟨t_42, t_871, by decide +kernel⟩
theorem gvX7_end : gVv yX7_end := ⟨t_869, t_870⟩
theorem gyX7_reset : gY yX7_reset cX7_reset 3 (some .int) 0 := ⟨t_42, t_397, by decide +kernel⟩
theorem gvX7_reset : gVv yX7_reset := ⟨t_395, t_396⟩
theorem gyX7_answer : gY yX7_answer cX7_answer 2 (some .int) 1 := ⟨t_42, t_522, by decide +kernel⟩
theorem gvX7_answer : gVv yX7_answer := ⟨t_520, t_521⟩
theorem gyX7_historical : gY yX7_historical cX7_historical 2 (some .int) 1 := ⟨t_42, t_530, by decide +kernel⟩
theorem gvX7_historical : gVv yX7_historical := ⟨t_528, t_529⟩
theorem gyX7_message : gY yX7_message cX7_message 2 (some .int) 0 := ⟨t_42, t_538, by decide +kernel⟩
theorem gvX7_message : gVv yX7_message := ⟨t_536, t_537⟩
theorem gyX7_room : gY yX7_room cX7_room 2 (some .int) 1 := ⟨t_42, t_565, by decide +kernel⟩
theorem gvX7_room : gVv yX7_room := ⟨t_563, t_564⟩
theorem gyX7_mayStart : gY yX7_mayStart cX7_mayStart 1 (some .boolean) 0 := ⟨t_42, t_542, by decide +kernel⟩
theorem gvX7_mayStart : gVv yX7_mayStart := ⟨t_541, t_8⟩
theorem gyX7_onWay : gY yX7_onWay cX7_onWay 1 (some .boolean) 0 := ⟨t_42, t_602, by decide +kernel⟩
theorem gvX7_onWay : gVv yX7_onWay := ⟨t_601, t_11⟩
theorem gyX7_fault : gY yX7_fault cX7_fault 5 (some .int) 3 := ⟨t_42, t_573, by decide +kernel⟩
theorem gvX7_fault : gVv yX7_fault := ⟨t_571, t_572⟩
theorem gyX7_repeats : gY yX7_repeats cX7_repeats 3 (some .int) 1 := ⟨t_42, t_594, by decide +kernel⟩
theorem gvX7_repeats : gVv yX7_repeats := ⟨t_592, t_593⟩
theorem gyX7_step : gY yX7_step cX7_step 2 (some .int) 1 := ⟨t_42, t_598, by decide +kernel⟩
theorem gvX7_step : gVv yX7_step := ⟨t_596, t_597⟩
theorem gyX7_state : gY yX7_state cX7_state 1 (some .int) 0 := ⟨t_42, t_827, by decide +kernel⟩
theorem gvX7_state : gVv yX7_state := ⟨t_825, t_826⟩
theorem gyX7_side : gY yX7_side cX7_side 3 (some .int) 2 := ⟨t_42, t_831, by decide +kernel⟩
theorem gvX7_side : gVv yX7_side := ⟨t_829, t_830⟩
theorem gyX7_sideOf : gY yX7_sideOf cX7_sideOf 2 (some (.object "CardLink$Side")) 1 := ⟨t_42, t_835, by decide +kernel⟩
theorem gvX7_sideOf : gVv yX7_sideOf := ⟨t_834, t_37⟩
theorem gyX7_got : gY yX7_got cX7_got 4 (some .int) 2 := ⟨t_42, t_891, by decide +kernel⟩
theorem gvX7_got : gVv yX7_got := ⟨t_889, t_890⟩
theorem gyX7_log : gY yX7_log cX7_log 3 (some .int) 2 := ⟨t_42, t_911, by decide +kernel⟩
theorem gvX7_log : gVv yX7_log := ⟨t_909, t_910⟩
theorem gyX7_byteOf : gY yX7_byteOf cX7_byteOf 3 (some .int) 2 := ⟨t_42, t_899, by decide +kernel⟩
theorem gvX7_byteOf : gVv yX7_byteOf := ⟨t_897, t_898⟩
theorem gyX7_count : gY yX7_count cX7_count 2 (some .int) 1 := ⟨t_42, t_843, by decide +kernel⟩
theorem gvX7_count : gVv yX7_count := ⟨t_841, t_842⟩
theorem gyJ9_max_7cf53 : gY yJ9_max_7cf53 cJ9_max_7cf53 2 (some .int) 2 := ⟨t_44, t_73, by decide +kernel⟩
theorem gyJ9_min_7cf53 : gY yJ9_min_7cf53 cJ9_min_7cf53 2 (some .int) 2 := ⟨t_44, t_412, by decide +kernel⟩
theorem gyJ7_fill_53178 : gY yJ7_fill_53178 cJ7_fill_53178 4 none 2 := ⟨t_52, t_514, by decide +kernel⟩
theorem gyJ7_copyOf_59c91 : gY yJ7_copyOf_59c91 cJ7_copyOf_59c91 3 (some (.array .int)) 2 := ⟨t_52, t_468, by decide +kernel⟩
theorem gyL_cell : gY yL_cell cL_cell 2 (some .int) 2 := ⟨t_41, t_854, by decide +kernel⟩
theorem gyL_types : gY yL_types cL_types 6 none 3 := ⟨t_41, t_858, by decide +kernel⟩
theorem gyL_answer : gY yL_answer cL_answer 3 (some (.array .int)) 1 := ⟨t_41, t_875, by decide +kernel⟩
theorem gyL_size : gY yL_size cL_size 2 (some .int) 2 := ⟨t_41, t_878, by decide +kernel⟩
theorem gyL_message : gY yL_message cL_message 5 (some (.array .int)) 3 := ⟨t_41, t_881, by decide +kernel⟩
theorem gyL_expected : gY yL_expected cL_expected 5 (some (.array .int)) 2 := ⟨t_41, t_884, by decide +kernel⟩
theorem gyL_isGot : gY yL_isGot cL_isGot 6 (some .boolean) 5 := ⟨t_41, t_887, by decide +kernel⟩
theorem gyL_sound : gY yL_sound cL_sound 6 (some .boolean) 1 := ⟨t_41, t_895, by decide +kernel⟩
