/-! the tables' words, by their places; sites of fields, new objects, calls (by program: wip/p1/gen_words.py) -/
theorem t_0 : Jvm.Cond.selects "CardLink" (⟨"CardLink", "feedEight", "(J)V"⟩ : Jvm.MethodName) (⟨"CardLink", "feedEight", "(J)V"⟩ : Jvm.MethodName) ∈ gW := gW_of (List.mem_of_getElem? (i := 0) (by decide +kernel)) rfl
theorem t_1 : Jvm.Cond.selects "CardLink$ResetAnswer" (⟨"CardLink$ResetAnswer", "clear", "()V"⟩ : Jvm.MethodName) (⟨"CardLink$ResetAnswer", "clear", "()V"⟩ : Jvm.MethodName) ∈ gW := gW_of (List.mem_of_getElem? (i := 1) (by decide +kernel)) rfl
theorem t_2 : Jvm.Cond.selects "CardLink$ResetAnswer" (⟨"CardLink$ResetAnswer", "readHead", "(LCardLink$Row;)I"⟩ : Jvm.MethodName) (⟨"CardLink$ResetAnswer", "readHead", "(LCardLink$Row;)I"⟩ : Jvm.MethodName) ∈ gW := gW_of (List.mem_of_getElem? (i := 2) (by decide +kernel)) rfl
theorem t_3 : Jvm.Cond.selects "CardLink$ResetAnswer" (⟨"CardLink$ResetAnswer", "readGroups", "(LCardLink$Row;)I"⟩ : Jvm.MethodName) (⟨"CardLink$ResetAnswer", "readGroups", "(LCardLink$Row;)I"⟩ : Jvm.MethodName) ∈ gW := gW_of (List.mem_of_getElem? (i := 3) (by decide +kernel)) rfl
theorem t_4 : Jvm.Cond.selects "CardLink$ResetAnswer" (⟨"CardLink$ResetAnswer", "readGroupByte", "(III)I"⟩ : Jvm.MethodName) (⟨"CardLink$ResetAnswer", "readGroupByte", "(III)I"⟩ : Jvm.MethodName) ∈ gW := gW_of (List.mem_of_getElem? (i := 4) (by decide +kernel)) rfl
theorem t_5 : Jvm.Cond.selects "CardLink$ResetAnswer" (⟨"CardLink$ResetAnswer", "readTd", "(II)I"⟩ : Jvm.MethodName) (⟨"CardLink$ResetAnswer", "readTd", "(II)I"⟩ : Jvm.MethodName) ∈ gW := gW_of (List.mem_of_getElem? (i := 5) (by decide +kernel)) rfl
theorem t_6 : Jvm.Cond.selects "CardLink$ResetAnswer" (⟨"CardLink$ResetAnswer", "readFirstGroup", "(II)I"⟩ : Jvm.MethodName) (⟨"CardLink$ResetAnswer", "readFirstGroup", "(II)I"⟩ : Jvm.MethodName) ∈ gW := gW_of (List.mem_of_getElem? (i := 6) (by decide +kernel)) rfl
theorem t_7 : Jvm.Cond.selects "CardLink$ResetAnswer" (⟨"CardLink$ResetAnswer", "readLinkGroup", "(II)I"⟩ : Jvm.MethodName) (⟨"CardLink$ResetAnswer", "readLinkGroup", "(II)I"⟩ : Jvm.MethodName) ∈ gW := gW_of (List.mem_of_getElem? (i := 7) (by decide +kernel)) rfl
theorem t_8 : Jvm.Cond.selects "CardLink$ResetAnswer" (⟨"CardLink$ResetAnswer", "readTail", "(LCardLink$Row;I)I"⟩ : Jvm.MethodName) (⟨"CardLink$ResetAnswer", "readTail", "(LCardLink$Row;I)I"⟩ : Jvm.MethodName) ∈ gW := gW_of (List.mem_of_getElem? (i := 8) (by decide +kernel)) rfl
theorem t_9 : Jvm.Cond.selects "CardLink" (⟨"CardLink", "mayStart", "()Z"⟩ : Jvm.MethodName) (⟨"CardLink", "mayStart", "()Z"⟩ : Jvm.MethodName) ∈ gW := gW_of (List.mem_of_getElem? (i := 9) (by decide +kernel)) rfl
theorem t_10 : Jvm.Cond.selects "CardLink$Line" (⟨"CardLink$Line", "begin", "(I)V"⟩ : Jvm.MethodName) (⟨"CardLink$Line", "begin", "(I)V"⟩ : Jvm.MethodName) ∈ gW := gW_of (List.mem_of_getElem? (i := 10) (by decide +kernel)) rfl
theorem t_11 : Jvm.Cond.selects "CardLink$Wire" (⟨"CardLink$Wire", "makePlace", "(I)V"⟩ : Jvm.MethodName) (⟨"CardLink$Wire", "makePlace", "(I)V"⟩ : Jvm.MethodName) ∈ gW := gW_of (List.mem_of_getElem? (i := 11) (by decide +kernel)) rfl
theorem t_12 : Jvm.Cond.selects "CardLink" (⟨"CardLink", "onWay", "()Z"⟩ : Jvm.MethodName) (⟨"CardLink", "onWay", "()Z"⟩ : Jvm.MethodName) ∈ gW := gW_of (List.mem_of_getElem? (i := 12) (by decide +kernel)) rfl
theorem t_13 : Jvm.Cond.selects "CardLink$Line" (⟨"CardLink$Line", "firstKind", "()I"⟩ : Jvm.MethodName) (⟨"CardLink$Line", "firstKind", "()I"⟩ : Jvm.MethodName) ∈ gW := gW_of (List.mem_of_getElem? (i := 13) (by decide +kernel)) rfl
theorem t_14 : Jvm.Cond.selects "CardLink$Line" (⟨"CardLink$Line", "readerKind", "()I"⟩ : Jvm.MethodName) (⟨"CardLink$Line", "readerKind", "()I"⟩ : Jvm.MethodName) ∈ gW := gW_of (List.mem_of_getElem? (i := 14) (by decide +kernel)) rfl
theorem t_15 : Jvm.Cond.selects "CardLink$Line" (⟨"CardLink$Line", "onBroken", "(LCardLink$Side;)I"⟩ : Jvm.MethodName) (⟨"CardLink$Line", "onBroken", "(LCardLink$Side;)I"⟩ : Jvm.MethodName) ∈ gW := gW_of (List.mem_of_getElem? (i := 15) (by decide +kernel)) rfl
theorem t_16 : Jvm.Cond.selects "CardLink$Line" (⟨"CardLink$Line", "readerOnAnswer", "()I"⟩ : Jvm.MethodName) (⟨"CardLink$Line", "readerOnAnswer", "()I"⟩ : Jvm.MethodName) ∈ gW := gW_of (List.mem_of_getElem? (i := 16) (by decide +kernel)) rfl
theorem t_17 : Jvm.Cond.selects "CardLink$Line" (⟨"CardLink$Line", "isAnswerTo", "(LCardLink$Side;)Z"⟩ : Jvm.MethodName) (⟨"CardLink$Line", "isAnswerTo", "(LCardLink$Side;)Z"⟩ : Jvm.MethodName) ∈ gW := gW_of (List.mem_of_getElem? (i := 17) (by decide +kernel)) rfl
theorem t_18 : Jvm.Cond.selects "CardLink$Line" (⟨"CardLink$Line", "finish", "(I)I"⟩ : Jvm.MethodName) (⟨"CardLink$Line", "finish", "(I)I"⟩ : Jvm.MethodName) ∈ gW := gW_of (List.mem_of_getElem? (i := 18) (by decide +kernel)) rfl
theorem t_19 : Jvm.Cond.selects "CardLink$Line" (⟨"CardLink$Line", "onRequest", "(LCardLink$Side;LCardLink$Side;I)I"⟩ : Jvm.MethodName) (⟨"CardLink$Line", "onRequest", "(LCardLink$Side;LCardLink$Side;I)I"⟩ : Jvm.MethodName) ∈ gW := gW_of (List.mem_of_getElem? (i := 19) (by decide +kernel)) rfl
theorem t_20 : Jvm.Cond.selects "CardLink$Line" (⟨"CardLink$Line", "refuse", "(LCardLink$Side;)I"⟩ : Jvm.MethodName) (⟨"CardLink$Line", "refuse", "(LCardLink$Side;)I"⟩ : Jvm.MethodName) ∈ gW := gW_of (List.mem_of_getElem? (i := 20) (by decide +kernel)) rfl
theorem t_21 : Jvm.Cond.selects "CardLink$Line" (⟨"CardLink$Line", "onI", "(LCardLink$Side;I)I"⟩ : Jvm.MethodName) (⟨"CardLink$Line", "onI", "(LCardLink$Side;I)I"⟩ : Jvm.MethodName) ∈ gW := gW_of (List.mem_of_getElem? (i := 21) (by decide +kernel)) rfl
theorem t_22 : Jvm.Cond.selects "CardLink$Line" (⟨"CardLink$Line", "onReceipt", "(LCardLink$Side;I)I"⟩ : Jvm.MethodName) (⟨"CardLink$Line", "onReceipt", "(LCardLink$Side;I)I"⟩ : Jvm.MethodName) ∈ gW := gW_of (List.mem_of_getElem? (i := 22) (by decide +kernel)) rfl
theorem t_23 : Jvm.Cond.selects "CardLink$Line" (⟨"CardLink$Line", "countTries", "(I)I"⟩ : Jvm.MethodName) (⟨"CardLink$Line", "countTries", "(I)I"⟩ : Jvm.MethodName) ∈ gW := gW_of (List.mem_of_getElem? (i := 23) (by decide +kernel)) rfl
theorem t_24 : Jvm.Cond.selects "CardLink$Line" (⟨"CardLink$Line", "send", "(LCardLink$Side;LCardLink$Side;I)V"⟩ : Jvm.MethodName) (⟨"CardLink$Line", "send", "(LCardLink$Side;LCardLink$Side;I)V"⟩ : Jvm.MethodName) ∈ gW := gW_of (List.mem_of_getElem? (i := 24) (by decide +kernel)) rfl
theorem t_25 : Jvm.Cond.selects "CardLink$Line" (⟨"CardLink$Line", "compose", "(LCardLink$Side;I)V"⟩ : Jvm.MethodName) (⟨"CardLink$Line", "compose", "(LCardLink$Side;I)V"⟩ : Jvm.MethodName) ∈ gW := gW_of (List.mem_of_getElem? (i := 25) (by decide +kernel)) rfl
theorem t_26 : Jvm.Cond.selects "CardLink$Wire" (⟨"CardLink$Wire", "sendLetter", "()I"⟩ : Jvm.MethodName) (⟨"CardLink$Wire", "sendLetter", "()I"⟩ : Jvm.MethodName) ∈ gW := gW_of (List.mem_of_getElem? (i := 26) (by decide +kernel)) rfl
theorem t_27 : Jvm.Cond.selects "CardLink$Wire" (⟨"CardLink$Wire", "dropNearest", "()V"⟩ : Jvm.MethodName) (⟨"CardLink$Wire", "dropNearest", "()V"⟩ : Jvm.MethodName) ∈ gW := gW_of (List.mem_of_getElem? (i := 27) (by decide +kernel)) rfl
theorem t_28 : Jvm.Cond.selects "CardLink$Line" (⟨"CardLink$Line", "judge", "(II)I"⟩ : Jvm.MethodName) (⟨"CardLink$Line", "judge", "(II)I"⟩ : Jvm.MethodName) ∈ gW := gW_of (List.mem_of_getElem? (i := 28) (by decide +kernel)) rfl
theorem t_29 : Jvm.Cond.selects "CardLink$Line" (⟨"CardLink$Line", "isWellFormed", "(III)Z"⟩ : Jvm.MethodName) (⟨"CardLink$Line", "isWellFormed", "(III)Z"⟩ : Jvm.MethodName) ∈ gW := gW_of (List.mem_of_getElem? (i := 29) (by decide +kernel)) rfl
theorem t_30 : Jvm.Cond.selects "CardLink$Journal" (⟨"CardLink$Journal", "isBlock", "(IILCardLink$Row;)Z"⟩ : Jvm.MethodName) (⟨"CardLink$Journal", "isBlock", "(IILCardLink$Row;)Z"⟩ : Jvm.MethodName) ∈ gW := gW_of (List.mem_of_getElem? (i := 30) (by decide +kernel)) rfl
theorem t_31 : Jvm.Cond.selects "CardLink$Journal" (⟨"CardLink$Journal", "addUnlike", "(ILCardLink$Row;I)I"⟩ : Jvm.MethodName) (⟨"CardLink$Journal", "addUnlike", "(ILCardLink$Row;I)I"⟩ : Jvm.MethodName) ∈ gW := gW_of (List.mem_of_getElem? (i := 31) (by decide +kernel)) rfl
theorem t_32 : Jvm.Cond.selects "CardLink$Line" (⟨"CardLink$Line", "cardKind", "()I"⟩ : Jvm.MethodName) (⟨"CardLink$Line", "cardKind", "()I"⟩ : Jvm.MethodName) ∈ gW := gW_of (List.mem_of_getElem? (i := 32) (by decide +kernel)) rfl
theorem t_33 : Jvm.Cond.selects "CardLink$Line" (⟨"CardLink$Line", "putFirstByte", "()I"⟩ : Jvm.MethodName) (⟨"CardLink$Line", "putFirstByte", "()I"⟩ : Jvm.MethodName) ∈ gW := gW_of (List.mem_of_getElem? (i := 33) (by decide +kernel)) rfl
theorem t_34 : Jvm.Cond.selects "CardLink$Line" (⟨"CardLink$Line", "cardOnAnswer", "()I"⟩ : Jvm.MethodName) (⟨"CardLink$Line", "cardOnAnswer", "()I"⟩ : Jvm.MethodName) ∈ gW := gW_of (List.mem_of_getElem? (i := 34) (by decide +kernel)) rfl
theorem t_35 : Jvm.Cond.selects "CardLink$Line" (⟨"CardLink$Line", "putBehindThird", "()I"⟩ : Jvm.MethodName) (⟨"CardLink$Line", "putBehindThird", "()I"⟩ : Jvm.MethodName) ∈ gW := gW_of (List.mem_of_getElem? (i := 35) (by decide +kernel)) rfl
theorem t_36 : Jvm.Cond.selects "CardLink$Line" (⟨"CardLink$Line", "doMessage", "()I"⟩ : Jvm.MethodName) (⟨"CardLink$Line", "doMessage", "()I"⟩ : Jvm.MethodName) ∈ gW := gW_of (List.mem_of_getElem? (i := 36) (by decide +kernel)) rfl
theorem t_37 : Jvm.Cond.selects "CardLink$Line" (⟨"CardLink$Line", "putCounting", "(I)I"⟩ : Jvm.MethodName) (⟨"CardLink$Line", "putCounting", "(I)I"⟩ : Jvm.MethodName) ∈ gW := gW_of (List.mem_of_getElem? (i := 37) (by decide +kernel)) rfl
theorem t_38 : Jvm.Cond.selects "CardLink" (⟨"CardLink", "sideOf", "(I)LCardLink$Side;"⟩ : Jvm.MethodName) (⟨"CardLink", "sideOf", "(I)LCardLink$Side;"⟩ : Jvm.MethodName) ∈ gW := gW_of (List.mem_of_getElem? (i := 38) (by decide +kernel)) rfl
theorem t_39 : Jvm.Cond.selects "CardLink$Journal" (⟨"CardLink$Journal", "placeOf", "(I)I"⟩ : Jvm.MethodName) (⟨"CardLink$Journal", "placeOf", "(I)I"⟩ : Jvm.MethodName) ∈ gW := gW_of (List.mem_of_getElem? (i := 39) (by decide +kernel)) rfl
theorem t_40 : Jvm.Cond.selects "CardLink$Forecast" (⟨"CardLink$Forecast", "forkIsHarmed", "()Z"⟩ : Jvm.MethodName) (⟨"CardLink$Forecast", "forkIsHarmed", "()Z"⟩ : Jvm.MethodName) ∈ gW := gW_of (List.mem_of_getElem? (i := 40) (by decide +kernel)) rfl
theorem t_42 : Jvm.Cond.selects "CardLinkModel" (⟨"CardLinkModel", "begins", "()V"⟩ : Jvm.MethodName) (⟨"CardLinkModel", "begins", "()V"⟩ : Jvm.MethodName) ∈ gW := gW_of (List.mem_of_getElem? (i := 42) (by decide +kernel)) rfl
theorem t_43 : Jvm.Cond.selects "CardLinkModel" (⟨"CardLinkModel", "eight", "(J)V"⟩ : Jvm.MethodName) (⟨"CardLinkModel", "eight", "(J)V"⟩ : Jvm.MethodName) ∈ gW := gW_of (List.mem_of_getElem? (i := 43) (by decide +kernel)) rfl
theorem t_44 : Jvm.Cond.selects "CardLinkModel" (⟨"CardLinkModel", "byteNext", "()I"⟩ : Jvm.MethodName) (⟨"CardLinkModel", "byteNext", "()I"⟩ : Jvm.MethodName) ∈ gW := gW_of (List.mem_of_getElem? (i := 44) (by decide +kernel)) rfl
theorem t_45 : Jvm.Cond.selects "CardLinkModel" (⟨"CardLinkModel", "wrong", "(II)V"⟩ : Jvm.MethodName) (⟨"CardLinkModel", "wrong", "(II)V"⟩ : Jvm.MethodName) ∈ gW := gW_of (List.mem_of_getElem? (i := 45) (by decide +kernel)) rfl
theorem t_46 : Jvm.Cond.selects "CardLinkModel" (⟨"CardLinkModel", "groupsTold", "(I)V"⟩ : Jvm.MethodName) (⟨"CardLinkModel", "groupsTold", "(I)V"⟩ : Jvm.MethodName) ∈ gW := gW_of (List.mem_of_getElem? (i := 46) (by decide +kernel)) rfl
theorem t_47 : Jvm.Cond.selects "CardLinkModel" (⟨"CardLinkModel", "groupTold", "(II)I"⟩ : Jvm.MethodName) (⟨"CardLinkModel", "groupTold", "(II)I"⟩ : Jvm.MethodName) ∈ gW := gW_of (List.mem_of_getElem? (i := 47) (by decide +kernel)) rfl
theorem t_48 : Jvm.Cond.selects "CardLinkModel" (⟨"CardLinkModel", "factor", "()V"⟩ : Jvm.MethodName) (⟨"CardLinkModel", "factor", "()V"⟩ : Jvm.MethodName) ∈ gW := gW_of (List.mem_of_getElem? (i := 48) (by decide +kernel)) rfl
theorem t_49 : Jvm.Cond.selects "CardLinkModel" (⟨"CardLinkModel", "window", "()V"⟩ : Jvm.MethodName) (⟨"CardLinkModel", "window", "()V"⟩ : Jvm.MethodName) ∈ gW := gW_of (List.mem_of_getElem? (i := 49) (by decide +kernel)) rfl
theorem t_50 : Jvm.Cond.selects "CardLinkModel" (⟨"CardLinkModel", "checks", "()V"⟩ : Jvm.MethodName) (⟨"CardLinkModel", "checks", "()V"⟩ : Jvm.MethodName) ∈ gW := gW_of (List.mem_of_getElem? (i := 50) (by decide +kernel)) rfl
theorem t_51 : Jvm.Cond.selects "CardLinkModel" (⟨"CardLinkModel", "canBegin", "()Z"⟩ : Jvm.MethodName) (⟨"CardLinkModel", "canBegin", "()Z"⟩ : Jvm.MethodName) ∈ gW := gW_of (List.mem_of_getElem? (i := 51) (by decide +kernel)) rfl
theorem t_52 : Jvm.Cond.selects "CardLinkModel" (⟨"CardLinkModel", "starts", "(I)V"⟩ : Jvm.MethodName) (⟨"CardLinkModel", "starts", "(I)V"⟩ : Jvm.MethodName) ∈ gW := gW_of (List.mem_of_getElem? (i := 52) (by decide +kernel)) rfl
theorem t_53 : Jvm.Cond.selects "CardLinkModel" (⟨"CardLinkModel", "passes", "()V"⟩ : Jvm.MethodName) (⟨"CardLinkModel", "passes", "()V"⟩ : Jvm.MethodName) ∈ gW := gW_of (List.mem_of_getElem? (i := 53) (by decide +kernel)) rfl
theorem t_54 : Jvm.Cond.selects "CardLinkModel" (⟨"CardLinkModel", "faultAt", "(I)I"⟩ : Jvm.MethodName) (⟨"CardLinkModel", "faultAt", "(I)I"⟩ : Jvm.MethodName) ∈ gW := gW_of (List.mem_of_getElem? (i := 54) (by decide +kernel)) rfl
theorem t_55 : Jvm.Cond.selects "CardLinkModel" (⟨"CardLinkModel", "putsFault", "(III)V"⟩ : Jvm.MethodName) (⟨"CardLinkModel", "putsFault", "(III)V"⟩ : Jvm.MethodName) ∈ gW := gW_of (List.mem_of_getElem? (i := 55) (by decide +kernel)) rfl
theorem t_56 : Jvm.Cond.selects "CardLinkModel" (⟨"CardLinkModel", "turns", "()I"⟩ : Jvm.MethodName) (⟨"CardLinkModel", "turns", "()I"⟩ : Jvm.MethodName) ∈ gW := gW_of (List.mem_of_getElem? (i := 56) (by decide +kernel)) rfl
theorem t_57 : Jvm.Cond.selects "CardLinkModel" (⟨"CardLinkModel", "sendsOut", "(I)V"⟩ : Jvm.MethodName) (⟨"CardLinkModel", "sendsOut", "(I)V"⟩ : Jvm.MethodName) ∈ gW := gW_of (List.mem_of_getElem? (i := 57) (by decide +kernel)) rfl
theorem t_58 : Jvm.Cond.selects "CardLinkModel" (⟨"CardLinkModel", "sendsPending", "(I)V"⟩ : Jvm.MethodName) (⟨"CardLinkModel", "sendsPending", "(I)V"⟩ : Jvm.MethodName) ∈ gW := gW_of (List.mem_of_getElem? (i := 58) (by decide +kernel)) rfl
theorem t_59 : Jvm.Cond.selects "CardLinkModel" (⟨"CardLinkModel", "sends", "(III)V"⟩ : Jvm.MethodName) (⟨"CardLinkModel", "sends", "(III)V"⟩ : Jvm.MethodName) ∈ gW := gW_of (List.mem_of_getElem? (i := 59) (by decide +kernel)) rfl
theorem t_60 : Jvm.Cond.selects "CardLinkModel" (⟨"CardLinkModel", "carries", "(I)V"⟩ : Jvm.MethodName) (⟨"CardLinkModel", "carries", "(I)V"⟩ : Jvm.MethodName) ∈ gW := gW_of (List.mem_of_getElem? (i := 60) (by decide +kernel)) rfl
theorem t_61 : Jvm.Cond.selects "CardLinkModel" (⟨"CardLinkModel", "howCame", "(I)I"⟩ : Jvm.MethodName) (⟨"CardLinkModel", "howCame", "(I)I"⟩ : Jvm.MethodName) ∈ gW := gW_of (List.mem_of_getElem? (i := 61) (by decide +kernel)) rfl
theorem t_62 : Jvm.Cond.selects "CardLinkModel" (⟨"CardLinkModel", "isShaped", "(I)Z"⟩ : Jvm.MethodName) (⟨"CardLinkModel", "isShaped", "(I)Z"⟩ : Jvm.MethodName) ∈ gW := gW_of (List.mem_of_getElem? (i := 62) (by decide +kernel)) rfl
theorem t_63 : Jvm.Cond.selects "CardLinkModel" (⟨"CardLinkModel", "logs", "(II)V"⟩ : Jvm.MethodName) (⟨"CardLinkModel", "logs", "(II)V"⟩ : Jvm.MethodName) ∈ gW := gW_of (List.mem_of_getElem? (i := 63) (by decide +kernel)) rfl
theorem t_64 : Jvm.Cond.selects "CardLinkModel" (⟨"CardLinkModel", "unlikeOf", "(I)I"⟩ : Jvm.MethodName) (⟨"CardLinkModel", "unlikeOf", "(I)I"⟩ : Jvm.MethodName) ∈ gW := gW_of (List.mem_of_getElem? (i := 64) (by decide +kernel)) rfl
theorem t_65 : Jvm.Cond.selects "CardLinkModel" (⟨"CardLinkModel", "isAlike", "(II)Z"⟩ : Jvm.MethodName) (⟨"CardLinkModel", "isAlike", "(II)Z"⟩ : Jvm.MethodName) ∈ gW := gW_of (List.mem_of_getElem? (i := 65) (by decide +kernel)) rfl
theorem t_66 : Jvm.Cond.selects "CardLinkModel" (⟨"CardLinkModel", "asks", "(III)V"⟩ : Jvm.MethodName) (⟨"CardLinkModel", "asks", "(III)V"⟩ : Jvm.MethodName) ∈ gW := gW_of (List.mem_of_getElem? (i := 66) (by decide +kernel)) rfl
theorem t_67 : Jvm.Cond.selects "CardLinkModel" (⟨"CardLinkModel", "sendsAsked", "(I)V"⟩ : Jvm.MethodName) (⟨"CardLinkModel", "sendsAsked", "(I)V"⟩ : Jvm.MethodName) ∈ gW := gW_of (List.mem_of_getElem? (i := 67) (by decide +kernel)) rfl
theorem t_68 : Jvm.Cond.selects "CardLinkModel" (⟨"CardLinkModel", "bringsCame", "()V"⟩ : Jvm.MethodName) (⟨"CardLinkModel", "bringsCame", "()V"⟩ : Jvm.MethodName) ∈ gW := gW_of (List.mem_of_getElem? (i := 68) (by decide +kernel)) rfl
theorem t_69 : Jvm.Cond.selects "CardLinkModel" (⟨"CardLinkModel", "readerGets", "()V"⟩ : Jvm.MethodName) (⟨"CardLinkModel", "readerGets", "()V"⟩ : Jvm.MethodName) ∈ gW := gW_of (List.mem_of_getElem? (i := 69) (by decide +kernel)) rfl
theorem t_70 : Jvm.Cond.selects "CardLinkModel" (⟨"CardLinkModel", "tries", "(II)V"⟩ : Jvm.MethodName) (⟨"CardLinkModel", "tries", "(II)V"⟩ : Jvm.MethodName) ∈ gW := gW_of (List.mem_of_getElem? (i := 70) (by decide +kernel)) rfl
theorem t_71 : Jvm.Cond.selects "CardLinkModel" (⟨"CardLinkModel", "isResponse", "(I)Z"⟩ : Jvm.MethodName) (⟨"CardLinkModel", "isResponse", "(I)Z"⟩ : Jvm.MethodName) ∈ gW := gW_of (List.mem_of_getElem? (i := 71) (by decide +kernel)) rfl
theorem t_72 : Jvm.Cond.selects "CardLinkModel" (⟨"CardLinkModel", "readerAnswered", "()V"⟩ : Jvm.MethodName) (⟨"CardLinkModel", "readerAnswered", "()V"⟩ : Jvm.MethodName) ∈ gW := gW_of (List.mem_of_getElem? (i := 72) (by decide +kernel)) rfl
theorem t_73 : Jvm.Cond.selects "CardLinkModel" (⟨"CardLinkModel", "done", "()V"⟩ : Jvm.MethodName) (⟨"CardLinkModel", "done", "()V"⟩ : Jvm.MethodName) ∈ gW := gW_of (List.mem_of_getElem? (i := 73) (by decide +kernel)) rfl
theorem t_74 : Jvm.Cond.selects "CardLinkModel" (⟨"CardLinkModel", "resynchs", "(I)V"⟩ : Jvm.MethodName) (⟨"CardLinkModel", "resynchs", "(I)V"⟩ : Jvm.MethodName) ∈ gW := gW_of (List.mem_of_getElem? (i := 74) (by decide +kernel)) rfl
theorem t_75 : Jvm.Cond.selects "CardLinkModel" (⟨"CardLinkModel", "empties", "(I)V"⟩ : Jvm.MethodName) (⟨"CardLinkModel", "empties", "(I)V"⟩ : Jvm.MethodName) ∈ gW := gW_of (List.mem_of_getElem? (i := 75) (by decide +kernel)) rfl
theorem t_76 : Jvm.Cond.selects "CardLinkModel" (⟨"CardLinkModel", "takes", "(I)Z"⟩ : Jvm.MethodName) (⟨"CardLinkModel", "takes", "(I)Z"⟩ : Jvm.MethodName) ∈ gW := gW_of (List.mem_of_getElem? (i := 76) (by decide +kernel)) rfl
theorem t_77 : Jvm.Cond.selects "CardLinkModel" (⟨"CardLinkModel", "isThrough", "(I)V"⟩ : Jvm.MethodName) (⟨"CardLinkModel", "isThrough", "(I)V"⟩ : Jvm.MethodName) ∈ gW := gW_of (List.mem_of_getElem? (i := 77) (by decide +kernel)) rfl
theorem t_78 : Jvm.Cond.selects "CardLinkModel" (⟨"CardLinkModel", "hasMoreCome", "()Z"⟩ : Jvm.MethodName) (⟨"CardLinkModel", "hasMoreCome", "()Z"⟩ : Jvm.MethodName) ∈ gW := gW_of (List.mem_of_getElem? (i := 78) (by decide +kernel)) rfl
theorem t_79 : Jvm.Cond.selects "CardLinkModel" (⟨"CardLinkModel", "sendsR", "(II)V"⟩ : Jvm.MethodName) (⟨"CardLinkModel", "sendsR", "(II)V"⟩ : Jvm.MethodName) ∈ gW := gW_of (List.mem_of_getElem? (i := 79) (by decide +kernel)) rfl
theorem t_80 : Jvm.Cond.selects "CardLinkModel" (⟨"CardLinkModel", "messageCame", "(I)V"⟩ : Jvm.MethodName) (⟨"CardLinkModel", "messageCame", "(I)V"⟩ : Jvm.MethodName) ∈ gW := gW_of (List.mem_of_getElem? (i := 80) (by decide +kernel)) rfl
theorem t_81 : Jvm.Cond.selects "CardLinkModel" (⟨"CardLinkModel", "readerTold", "()V"⟩ : Jvm.MethodName) (⟨"CardLinkModel", "readerTold", "()V"⟩ : Jvm.MethodName) ∈ gW := gW_of (List.mem_of_getElem? (i := 81) (by decide +kernel)) rfl
theorem t_82 : Jvm.Cond.selects "CardLinkModel" (⟨"CardLinkModel", "wantsAgain", "(I)Z"⟩ : Jvm.MethodName) (⟨"CardLinkModel", "wantsAgain", "(I)Z"⟩ : Jvm.MethodName) ∈ gW := gW_of (List.mem_of_getElem? (i := 82) (by decide +kernel)) rfl
theorem t_83 : Jvm.Cond.selects "CardLinkModel" (⟨"CardLinkModel", "goesOn", "(I)V"⟩ : Jvm.MethodName) (⟨"CardLinkModel", "goesOn", "(I)V"⟩ : Jvm.MethodName) ∈ gW := gW_of (List.mem_of_getElem? (i := 83) (by decide +kernel)) rfl
theorem t_84 : Jvm.Cond.selects "CardLinkModel" (⟨"CardLinkModel", "readerAsked", "()V"⟩ : Jvm.MethodName) (⟨"CardLinkModel", "readerAsked", "()V"⟩ : Jvm.MethodName) ∈ gW := gW_of (List.mem_of_getElem? (i := 84) (by decide +kernel)) rfl
theorem t_85 : Jvm.Cond.selects "CardLinkModel" (⟨"CardLinkModel", "responds", "(I)V"⟩ : Jvm.MethodName) (⟨"CardLinkModel", "responds", "(I)V"⟩ : Jvm.MethodName) ∈ gW := gW_of (List.mem_of_getElem? (i := 85) (by decide +kernel)) rfl
theorem t_86 : Jvm.Cond.selects "CardLinkModel" (⟨"CardLinkModel", "triesOn", "()V"⟩ : Jvm.MethodName) (⟨"CardLinkModel", "triesOn", "()V"⟩ : Jvm.MethodName) ∈ gW := gW_of (List.mem_of_getElem? (i := 86) (by decide +kernel)) rfl
theorem t_87 : Jvm.Cond.selects "CardLinkModel" (⟨"CardLinkModel", "cardGets", "()V"⟩ : Jvm.MethodName) (⟨"CardLinkModel", "cardGets", "()V"⟩ : Jvm.MethodName) ∈ gW := gW_of (List.mem_of_getElem? (i := 87) (by decide +kernel)) rfl
theorem t_88 : Jvm.Cond.selects "CardLinkModel" (⟨"CardLinkModel", "cardSends", "(II)V"⟩ : Jvm.MethodName) (⟨"CardLinkModel", "cardSends", "(II)V"⟩ : Jvm.MethodName) ∈ gW := gW_of (List.mem_of_getElem? (i := 88) (by decide +kernel)) rfl
theorem t_89 : Jvm.Cond.selects "CardLinkModel" (⟨"CardLinkModel", "cardOut", "(II)V"⟩ : Jvm.MethodName) (⟨"CardLinkModel", "cardOut", "(II)V"⟩ : Jvm.MethodName) ∈ gW := gW_of (List.mem_of_getElem? (i := 89) (by decide +kernel)) rfl
theorem t_90 : Jvm.Cond.selects "CardLinkModel" (⟨"CardLinkModel", "cardAnswered", "()V"⟩ : Jvm.MethodName) (⟨"CardLinkModel", "cardAnswered", "()V"⟩ : Jvm.MethodName) ∈ gW := gW_of (List.mem_of_getElem? (i := 90) (by decide +kernel)) rfl
theorem t_91 : Jvm.Cond.selects "CardLinkModel" (⟨"CardLinkModel", "cardWaits", "()V"⟩ : Jvm.MethodName) (⟨"CardLinkModel", "cardWaits", "()V"⟩ : Jvm.MethodName) ∈ gW := gW_of (List.mem_of_getElem? (i := 91) (by decide +kernel)) rfl
theorem t_92 : Jvm.Cond.selects "CardLinkModel" (⟨"CardLinkModel", "cardDoes", "()V"⟩ : Jvm.MethodName) (⟨"CardLinkModel", "cardDoes", "()V"⟩ : Jvm.MethodName) ∈ gW := gW_of (List.mem_of_getElem? (i := 92) (by decide +kernel)) rfl
theorem t_93 : Jvm.Cond.selects "CardLinkModel" (⟨"CardLinkModel", "gotByte", "(II)I"⟩ : Jvm.MethodName) (⟨"CardLinkModel", "gotByte", "(II)I"⟩ : Jvm.MethodName) ∈ gW := gW_of (List.mem_of_getElem? (i := 93) (by decide +kernel)) rfl
theorem t_94 : Jvm.Cond.selects "CardLinkModel" (⟨"CardLinkModel", "logPlace", "(I)I"⟩ : Jvm.MethodName) (⟨"CardLinkModel", "logPlace", "(I)I"⟩ : Jvm.MethodName) ∈ gW := gW_of (List.mem_of_getElem? (i := 94) (by decide +kernel)) rfl
theorem t_95 : Jvm.Cond.selects "CardLinkModel" (⟨"CardLinkModel", "keeps", "()V"⟩ : Jvm.MethodName) (⟨"CardLinkModel", "keeps", "()V"⟩ : Jvm.MethodName) ∈ gW := gW_of (List.mem_of_getElem? (i := 95) (by decide +kernel)) rfl
theorem t_96 : Jvm.Cond.selects "CardLinkModel" (⟨"CardLinkModel", "triesOut", "()V"⟩ : Jvm.MethodName) (⟨"CardLinkModel", "triesOut", "()V"⟩ : Jvm.MethodName) ∈ gW := gW_of (List.mem_of_getElem? (i := 96) (by decide +kernel)) rfl
theorem t_97 : Jvm.Cond.selects "CardLinkModel" (⟨"CardLinkModel", "comesBack", "()V"⟩ : Jvm.MethodName) (⟨"CardLinkModel", "comesBack", "()V"⟩ : Jvm.MethodName) ∈ gW := gW_of (List.mem_of_getElem? (i := 97) (by decide +kernel)) rfl
theorem t_98 : Jvm.Cond.selects "CardLinkModel" (⟨"CardLinkModel", "isSame", "()Z"⟩ : Jvm.MethodName) (⟨"CardLinkModel", "isSame", "()Z"⟩ : Jvm.MethodName) ∈ gW := gW_of (List.mem_of_getElem? (i := 98) (by decide +kernel)) rfl
theorem t_99 : Jvm.Cond.selects "CardLinkModel" (⟨"CardLinkModel", "faultsToCome", "()I"⟩ : Jvm.MethodName) (⟨"CardLinkModel", "faultsToCome", "()I"⟩ : Jvm.MethodName) ∈ gW := gW_of (List.mem_of_getElem? (i := 99) (by decide +kernel)) rfl
theorem t_100 : (Jvm.Cond.initialized "CardLinkLaw") ∈ gW := gW_of (List.mem_of_getElem? (i := 100) (by decide +kernel)) rfl
theorem t_101 : (Jvm.Cond.initialized "CardLink") ∈ gW := gW_of (List.mem_of_getElem? (i := 101) (by decide +kernel)) rfl
theorem t_102 : (Jvm.Cond.initialized "CardLink$Row") ∈ gW := gW_of (List.mem_of_getElem? (i := 102) (by decide +kernel)) rfl
theorem t_103 : (Jvm.Cond.initialized "java/lang/Math") ∈ gW := gW_of (List.mem_of_getElem? (i := 103) (by decide +kernel)) rfl
theorem t_104 : (Jvm.Cond.initialized "CardLink$Journal") ∈ gW := gW_of (List.mem_of_getElem? (i := 104) (by decide +kernel)) rfl
theorem t_105 : (Jvm.Cond.initialized "CardLink$Line") ∈ gW := gW_of (List.mem_of_getElem? (i := 105) (by decide +kernel)) rfl
theorem t_106 : (Jvm.Cond.initialized "CardLink$Side") ∈ gW := gW_of (List.mem_of_getElem? (i := 106) (by decide +kernel)) rfl
theorem t_107 : (Jvm.Cond.initialized "CardLink$Wire") ∈ gW := gW_of (List.mem_of_getElem? (i := 107) (by decide +kernel)) rfl
theorem t_108 : (Jvm.Cond.initialized "CardLink$Forecast") ∈ gW := gW_of (List.mem_of_getElem? (i := 108) (by decide +kernel)) rfl
theorem t_109 : (Jvm.Cond.initialized "CardLink$ResetAnswer") ∈ gW := gW_of (List.mem_of_getElem? (i := 109) (by decide +kernel)) rfl
theorem t_110 : (Jvm.Cond.initialized "CardLinkModel") ∈ gW := gW_of (List.mem_of_getElem? (i := 110) (by decide +kernel)) rfl
theorem t_111 : (Jvm.Cond.initialized "java/util/Arrays") ∈ gW := gW_of (List.mem_of_getElem? (i := 111) (by decide +kernel)) rfl
theorem t_112 : (Jvm.Cond.initialized "java/lang/System") ∈ gW := gW_of (List.mem_of_getElem? (i := 112) (by decide +kernel)) rfl
theorem t_116 : (Jvm.Cond.initialized "java/util/NoSuchElementException") ∈ gW := gW_of (List.mem_of_getElem? (i := 116) (by decide +kernel)) rfl
theorem t_117 : (Jvm.Cond.classLink "CardLinkLaw" (8 : Nat) "CardLink") ∈ gW := gW_of (List.mem_of_getElem? (i := 117) (by decide +kernel)) rfl
theorem t_118 : (Jvm.Cond.instantiable "CardLink" (7 : Nat)) ∈ gW := gW_of (List.mem_of_getElem? (i := 118) (by decide +kernel)) rfl
theorem t_119 : (Jvm.Cond.methodLink "CardLinkLaw" (15 : Nat) ({ cls := "CardLink", name := "<init>", desc := "()V" } : Jvm.MethodName)) ∈ gW := gW_of (List.mem_of_getElem? (i := 119) (by decide +kernel)) rfl
theorem t_120 : (Jvm.Cond.instanceMethod ({ cls := "CardLink", name := "<init>", desc := "()V" } : Jvm.MethodName)) ∈ gW := gW_of (List.mem_of_getElem? (i := 120) (by decide +kernel)) rfl
theorem t_121 : (Jvm.Cond.code ({ cls := "CardLink", name := "<init>", desc := "()V" } : Jvm.MethodName) prog_1_method_1_code (1 : Nat) (Option.none : Option Jvm.ClassFile.FieldType)) ∈ gW := gW_of (List.mem_append_right _ (List.mem_append_left _ (List.mem_of_getElem? (l := tables_1_1) (i := 21) rfl))) rfl
theorem t_122 : (Jvm.Cond.methodLink "CardLink" (1 : Nat) ({ cls := "java/lang/Object", name := "<init>", desc := "()V" } : Jvm.MethodName)) ∈ gW := gW_of (List.mem_of_getElem? (i := 122) (by decide +kernel)) rfl
theorem t_123 : (Jvm.Cond.instanceMethod ({ cls := "java/lang/Object", name := "<init>", desc := "()V" } : Jvm.MethodName)) ∈ gW := gW_of (List.mem_of_getElem? (i := 123) (by decide +kernel)) rfl
theorem t_124 : (Jvm.Cond.code ({ cls := "java/lang/Object", name := "<init>", desc := "()V" } : Jvm.MethodName) object_method_1_code (1 : Nat) (Option.none : Option Jvm.ClassFile.FieldType)) ∈ gW := gW_of (List.mem_append_right _ (List.mem_append_left _ (List.mem_of_getElem? (l := tables_1_1) (i := 24) rfl))) rfl
theorem t_125 : (Jvm.Cond.classLink "CardLink" (7 : Nat) "CardLink$Row") ∈ gW := gW_of (List.mem_of_getElem? (i := 125) (by decide +kernel)) rfl
theorem t_126 : (Jvm.Cond.instantiable "CardLink$Row" (3 : Nat)) ∈ gW := gW_of (List.mem_of_getElem? (i := 126) (by decide +kernel)) rfl
theorem t_127 : (Jvm.Cond.methodLink "CardLink" (11 : Nat) ({ cls := "CardLink$Row", name := "<init>", desc := "(II)V" } : Jvm.MethodName)) ∈ gW := gW_of (List.mem_of_getElem? (i := 127) (by decide +kernel)) rfl
theorem t_128 : (Jvm.Cond.instanceMethod ({ cls := "CardLink$Row", name := "<init>", desc := "(II)V" } : Jvm.MethodName)) ∈ gW := gW_of (List.mem_of_getElem? (i := 128) (by decide +kernel)) rfl
theorem t_129 : (Jvm.Cond.code ({ cls := "CardLink$Row", name := "<init>", desc := "(II)V" } : Jvm.MethodName) prog_6_method_1_code (3 : Nat) (Option.none : Option Jvm.ClassFile.FieldType)) ∈ gW := gW_of (List.mem_append_right _ (List.mem_append_left _ (List.mem_of_getElem? (l := tables_1_1) (i := 29) rfl))) rfl
theorem t_130 : (Jvm.Cond.methodLink "CardLink$Row" (1 : Nat) ({ cls := "java/lang/Object", name := "<init>", desc := "()V" } : Jvm.MethodName)) ∈ gW := gW_of (List.mem_of_getElem? (i := 130) (by decide +kernel)) rfl
theorem t_131 : (Jvm.Cond.methodLink "CardLink$Row" (13 : Nat) ({ cls := "java/lang/Math", name := "max", desc := "(II)I" } : Jvm.MethodName)) ∈ gW := gW_of (List.mem_of_getElem? (i := 131) (by decide +kernel)) rfl
theorem t_132 : (Jvm.Cond.static ({ cls := "java/lang/Math", name := "max", desc := "(II)I" } : Jvm.MethodName)) ∈ gW := gW_of (List.mem_of_getElem? (i := 132) (by decide +kernel)) rfl
theorem t_133 : (Jvm.Cond.code ({ cls := "java/lang/Math", name := "max", desc := "(II)I" } : Jvm.MethodName) prog_14_method_65_code (2 : Nat) (Option.some Jvm.ClassFile.FieldType.int)) ∈ gW := gW_of (List.mem_append_right _ (List.mem_append_left _ (List.mem_of_getElem? (l := tables_1_1) (i := 33) rfl))) rfl
theorem t_134 : (Jvm.Cond.fieldLink "CardLink$Row" (19 : Nat) "CardLink$Row" "items" "[I") ∈ gW := gW_of (List.mem_of_getElem? (i := 134) (by decide +kernel)) rfl
theorem t_135 : (Jvm.Cond.fieldLink "CardLink$Row" (7 : Nat) "CardLink$Row" "length" "I") ∈ gW := gW_of (List.mem_of_getElem? (i := 135) (by decide +kernel)) rfl
theorem t_136 : (Jvm.Cond.fieldLink "CardLink$Row" (23 : Nat) "CardLink$Row" "most" "I") ∈ gW := gW_of (List.mem_of_getElem? (i := 136) (by decide +kernel)) rfl
theorem t_144 : (Jvm.Cond.arrayClass Jvm.ClassFile.FieldType.int) ∈ gW := gW_of (List.mem_of_getElem? (i := 144) (by decide +kernel)) rfl
theorem t_145 : (Jvm.Cond.classLink "CardLink" (18 : Nat) "CardLink$Journal") ∈ gW := gW_of (List.mem_of_getElem? (i := 145) (by decide +kernel)) rfl
theorem t_146 : (Jvm.Cond.instantiable "CardLink$Journal" (9 : Nat)) ∈ gW := gW_of (List.mem_of_getElem? (i := 146) (by decide +kernel)) rfl
theorem t_148 : (Jvm.Cond.instanceMethod ({ cls := "CardLink$Journal", name := "<init>", desc := "()V" } : Jvm.MethodName)) ∈ gW := gW_of (List.mem_of_getElem? (i := 148) (by decide +kernel)) rfl
theorem t_149 : (Jvm.Cond.code ({ cls := "CardLink$Journal", name := "<init>", desc := "()V" } : Jvm.MethodName) prog_3_method_1_code (1 : Nat) (Option.none : Option Jvm.ClassFile.FieldType)) ∈ gW := gW_of (List.mem_append_right _ (List.mem_append_left _ (List.mem_of_getElem? (l := tables_1_1) (i := 49) rfl))) rfl
theorem t_150 : (Jvm.Cond.methodLink "CardLink$Journal" (3 : Nat) ({ cls := "java/lang/Object", name := "<init>", desc := "()V" } : Jvm.MethodName)) ∈ gW := gW_of (List.mem_of_getElem? (i := 150) (by decide +kernel)) rfl
theorem t_151 : (Jvm.Cond.classLink "CardLink$Journal" (9 : Nat) "CardLink$Row") ∈ gW := gW_of (List.mem_of_getElem? (i := 151) (by decide +kernel)) rfl
theorem t_152 : (Jvm.Cond.constant "CardLink$Journal" (13 : Nat) (1048576 : Int32)) ∈ gW := gW_of (List.mem_of_getElem? (i := 152) (by decide +kernel)) rfl
theorem t_153 : (Jvm.Cond.methodLink "CardLink$Journal" (14 : Nat) ({ cls := "CardLink$Row", name := "<init>", desc := "(II)V" } : Jvm.MethodName)) ∈ gW := gW_of (List.mem_of_getElem? (i := 153) (by decide +kernel)) rfl
theorem t_154 : (Jvm.Cond.constant "CardLink$Journal" (21 : Nat) (65536 : Int32)) ∈ gW := gW_of (List.mem_of_getElem? (i := 154) (by decide +kernel)) rfl
theorem t_155 : (Jvm.Cond.fieldLink "CardLink$Journal" (17 : Nat) "CardLink$Journal" "bytes" "LCardLink$Row;") ∈ gW := gW_of (List.mem_of_getElem? (i := 155) (by decide +kernel)) rfl
theorem t_156 : (Jvm.Cond.fieldLink "CardLink$Journal" (22 : Nat) "CardLink$Journal" "starts" "LCardLink$Row;") ∈ gW := gW_of (List.mem_of_getElem? (i := 156) (by decide +kernel)) rfl
theorem t_157 : (Jvm.Cond.fieldLink "CardLink$Journal" (25 : Nat) "CardLink$Journal" "times" "LCardLink$Row;") ∈ gW := gW_of (List.mem_of_getElem? (i := 157) (by decide +kernel)) rfl
theorem t_158 : (Jvm.Cond.fieldLink "CardLink$Journal" (28 : Nat) "CardLink$Journal" "following" "LCardLink$Row;") ∈ gW := gW_of (List.mem_of_getElem? (i := 158) (by decide +kernel)) rfl
theorem t_159 : (Jvm.Cond.fieldLink "CardLink$Journal" (31 : Nat) "CardLink$Journal" "chains" "LCardLink$Row;") ∈ gW := gW_of (List.mem_of_getElem? (i := 159) (by decide +kernel)) rfl
theorem t_160 : (Jvm.Cond.fieldLink "CardLink$Journal" (34 : Nat) "CardLink$Journal" "latest" "LCardLink$Row;") ∈ gW := gW_of (List.mem_of_getElem? (i := 160) (by decide +kernel)) rfl
theorem t_161 : (Jvm.Cond.fieldLink "CardLink$Journal" (37 : Nat) "CardLink$Journal" "outcomes" "LCardLink$Row;") ∈ gW := gW_of (List.mem_of_getElem? (i := 161) (by decide +kernel)) rfl
theorem t_162 : (Jvm.Cond.fieldLink "CardLink$Journal" (40 : Nat) "CardLink$Journal" "took" "LCardLink$Row;") ∈ gW := gW_of (List.mem_of_getElem? (i := 162) (by decide +kernel)) rfl
theorem t_163 : (Jvm.Cond.fieldLink "CardLink$Journal" (43 : Nat) "CardLink$Journal" "newest" "I") ∈ gW := gW_of (List.mem_of_getElem? (i := 163) (by decide +kernel)) rfl
theorem t_183 : (Jvm.Cond.classLink "CardLink" (25 : Nat) "CardLink$Line") ∈ gW := gW_of (List.mem_of_getElem? (i := 183) (by decide +kernel)) rfl
theorem t_184 : (Jvm.Cond.instantiable "CardLink$Line" (18 : Nat)) ∈ gW := gW_of (List.mem_of_getElem? (i := 184) (by decide +kernel)) rfl
theorem t_185 : (Jvm.Cond.methodLink "CardLink" (27 : Nat) ({ cls := "CardLink$Line", name := "<init>", desc := "(LCardLink$Journal;)V" } : Jvm.MethodName)) ∈ gW := gW_of (List.mem_of_getElem? (i := 185) (by decide +kernel)) rfl
theorem t_186 : (Jvm.Cond.instanceMethod ({ cls := "CardLink$Line", name := "<init>", desc := "(LCardLink$Journal;)V" } : Jvm.MethodName)) ∈ gW := gW_of (List.mem_of_getElem? (i := 186) (by decide +kernel)) rfl
theorem t_187 : (Jvm.Cond.code ({ cls := "CardLink$Line", name := "<init>", desc := "(LCardLink$Journal;)V" } : Jvm.MethodName) prog_4_method_1_code (2 : Nat) (Option.none : Option Jvm.ClassFile.FieldType)) ∈ gW := gW_of (List.mem_append_right _ (List.mem_append_left _ (List.mem_of_getElem? (l := tables_1_1) (i := 87) rfl))) rfl
theorem t_188 : (Jvm.Cond.methodLink "CardLink$Line" (3 : Nat) ({ cls := "java/lang/Object", name := "<init>", desc := "()V" } : Jvm.MethodName)) ∈ gW := gW_of (List.mem_of_getElem? (i := 188) (by decide +kernel)) rfl
theorem t_189 : (Jvm.Cond.classLink "CardLink$Line" (9 : Nat) "CardLink$Side") ∈ gW := gW_of (List.mem_of_getElem? (i := 189) (by decide +kernel)) rfl
theorem t_190 : (Jvm.Cond.instantiable "CardLink$Side" (15 : Nat)) ∈ gW := gW_of (List.mem_of_getElem? (i := 190) (by decide +kernel)) rfl
theorem t_191 : (Jvm.Cond.methodLink "CardLink$Line" (11 : Nat) ({ cls := "CardLink$Side", name := "<init>", desc := "(I)V" } : Jvm.MethodName)) ∈ gW := gW_of (List.mem_of_getElem? (i := 191) (by decide +kernel)) rfl
theorem t_192 : (Jvm.Cond.instanceMethod ({ cls := "CardLink$Side", name := "<init>", desc := "(I)V" } : Jvm.MethodName)) ∈ gW := gW_of (List.mem_of_getElem? (i := 192) (by decide +kernel)) rfl
theorem t_193 : (Jvm.Cond.code ({ cls := "CardLink$Side", name := "<init>", desc := "(I)V" } : Jvm.MethodName) prog_7_method_1_code (2 : Nat) (Option.none : Option Jvm.ClassFile.FieldType)) ∈ gW := gW_of (List.mem_append_right _ (List.mem_append_left _ (List.mem_of_getElem? (l := tables_1_1) (i := 93) rfl))) rfl
theorem t_194 : (Jvm.Cond.methodLink "CardLink$Side" (3 : Nat) ({ cls := "java/lang/Object", name := "<init>", desc := "()V" } : Jvm.MethodName)) ∈ gW := gW_of (List.mem_of_getElem? (i := 194) (by decide +kernel)) rfl
theorem t_195 : (Jvm.Cond.classLink "CardLink$Side" (33 : Nat) "CardLink$Row") ∈ gW := gW_of (List.mem_of_getElem? (i := 195) (by decide +kernel)) rfl
theorem t_196 : (Jvm.Cond.methodLink "CardLink$Side" (35 : Nat) ({ cls := "CardLink$Row", name := "<init>", desc := "(II)V" } : Jvm.MethodName)) ∈ gW := gW_of (List.mem_of_getElem? (i := 196) (by decide +kernel)) rfl
theorem t_197 : (Jvm.Cond.fieldLink "CardLink$Side" (61 : Nat) "CardLink$Side" "number" "I") ∈ gW := gW_of (List.mem_of_getElem? (i := 197) (by decide +kernel)) rfl
theorem t_198 : (Jvm.Cond.fieldLink "CardLink$Line" (267 : Nat) "CardLink$Side" "number" "I") ∈ gW := gW_of (List.mem_of_getElem? (i := 198) (by decide +kernel)) rfl
theorem t_199 : (Jvm.Cond.fieldLink "CardLink$Side" (9 : Nat) "CardLink$Side" "next" "I") ∈ gW := gW_of (List.mem_of_getElem? (i := 199) (by decide +kernel)) rfl
theorem t_200 : (Jvm.Cond.fieldLink "CardLink$Line" (226 : Nat) "CardLink$Side" "next" "I") ∈ gW := gW_of (List.mem_of_getElem? (i := 200) (by decide +kernel)) rfl
theorem t_201 : (Jvm.Cond.fieldLink "CardLink$Side" (15 : Nat) "CardLink$Side" "wanted" "I") ∈ gW := gW_of (List.mem_of_getElem? (i := 201) (by decide +kernel)) rfl
theorem t_202 : (Jvm.Cond.fieldLink "CardLink$Line" (204 : Nat) "CardLink$Side" "wanted" "I") ∈ gW := gW_of (List.mem_of_getElem? (i := 202) (by decide +kernel)) rfl
theorem t_203 : (Jvm.Cond.fieldLink "CardLink$Side" (18 : Nat) "CardLink$Side" "room" "I") ∈ gW := gW_of (List.mem_of_getElem? (i := 203) (by decide +kernel)) rfl
theorem t_204 : (Jvm.Cond.fieldLink "CardLink$Line" (115 : Nat) "CardLink$Side" "room" "I") ∈ gW := gW_of (List.mem_of_getElem? (i := 204) (by decide +kernel)) rfl
theorem t_205 : (Jvm.Cond.fieldLink "CardLink$Side" (21 : Nat) "CardLink$Side" "through" "I") ∈ gW := gW_of (List.mem_of_getElem? (i := 205) (by decide +kernel)) rfl
theorem t_206 : (Jvm.Cond.fieldLink "CardLink$Line" (105 : Nat) "CardLink$Side" "through" "I") ∈ gW := gW_of (List.mem_of_getElem? (i := 206) (by decide +kernel)) rfl
theorem t_207 : (Jvm.Cond.fieldLink "CardLink$Side" (24 : Nat) "CardLink$Side" "asked" "I") ∈ gW := gW_of (List.mem_of_getElem? (i := 207) (by decide +kernel)) rfl
theorem t_208 : (Jvm.Cond.fieldLink "CardLink$Line" (149 : Nat) "CardLink$Side" "asked" "I") ∈ gW := gW_of (List.mem_of_getElem? (i := 208) (by decide +kernel)) rfl
theorem t_209 : (Jvm.Cond.fieldLink "CardLink$Side" (27 : Nat) "CardLink$Side" "askedInf" "I") ∈ gW := gW_of (List.mem_of_getElem? (i := 209) (by decide +kernel)) rfl
theorem t_210 : (Jvm.Cond.fieldLink "CardLink$Line" (194 : Nat) "CardLink$Side" "askedInf" "I") ∈ gW := gW_of (List.mem_of_getElem? (i := 210) (by decide +kernel)) rfl
theorem t_211 : (Jvm.Cond.fieldLink "CardLink$Side" (30 : Nat) "CardLink$Side" "messages" "I") ∈ gW := gW_of (List.mem_of_getElem? (i := 211) (by decide +kernel)) rfl
theorem t_212 : (Jvm.Cond.fieldLink "CardLink" (153 : Nat) "CardLink$Side" "messages" "I") ∈ gW := gW_of (List.mem_of_getElem? (i := 212) (by decide +kernel)) rfl
theorem t_213 : (Jvm.Cond.fieldLink "CardLink$Side" (38 : Nat) "CardLink$Side" "out" "LCardLink$Row;") ∈ gW := gW_of (List.mem_of_getElem? (i := 213) (by decide +kernel)) rfl
theorem t_214 : (Jvm.Cond.fieldLink "CardLink$Line" (102 : Nat) "CardLink$Side" "out" "LCardLink$Row;") ∈ gW := gW_of (List.mem_of_getElem? (i := 214) (by decide +kernel)) rfl
theorem t_215 : (Jvm.Cond.fieldLink "CardLink$Side" (42 : Nat) "CardLink$Side" "got" "LCardLink$Row;") ∈ gW := gW_of (List.mem_of_getElem? (i := 215) (by decide +kernel)) rfl
theorem t_216 : (Jvm.Cond.fieldLink "CardLink$Forecast" (78 : Nat) "CardLink$Side" "got" "LCardLink$Row;") ∈ gW := gW_of (List.mem_of_getElem? (i := 216) (by decide +kernel)) rfl
theorem t_217 : (Jvm.Cond.fieldLink "CardLink" (156 : Nat) "CardLink$Side" "got" "LCardLink$Row;") ∈ gW := gW_of (List.mem_of_getElem? (i := 217) (by decide +kernel)) rfl
theorem t_218 : (Jvm.Cond.fieldLink "CardLink$Line" (235 : Nat) "CardLink$Side" "got" "LCardLink$Row;") ∈ gW := gW_of (List.mem_of_getElem? (i := 218) (by decide +kernel)) rfl
theorem t_219 : (Jvm.Cond.fieldLink "CardLink$Side" (45 : Nat) "CardLink$Side" "in" "LCardLink$Row;") ∈ gW := gW_of (List.mem_of_getElem? (i := 219) (by decide +kernel)) rfl
theorem t_220 : (Jvm.Cond.fieldLink "CardLink$Side" (48 : Nat) "CardLink$Side" "pending" "I") ∈ gW := gW_of (List.mem_of_getElem? (i := 220) (by decide +kernel)) rfl
theorem t_221 : (Jvm.Cond.fieldLink "CardLink$Side" (51 : Nat) "CardLink$Side" "pendingMore" "Z") ∈ gW := gW_of (List.mem_of_getElem? (i := 221) (by decide +kernel)) rfl
theorem t_222 : (Jvm.Cond.fieldLink "CardLink$Side" (55 : Nat) "CardLink$Side" "latestKind" "I") ∈ gW := gW_of (List.mem_of_getElem? (i := 222) (by decide +kernel)) rfl
theorem t_223 : (Jvm.Cond.fieldLink "CardLink$Side" (58 : Nat) "CardLink$Side" "sent" "I") ∈ gW := gW_of (List.mem_of_getElem? (i := 223) (by decide +kernel)) rfl
theorem t_255 : (Jvm.Cond.classLink "CardLink$Line" (23 : Nat) "CardLink$Wire") ∈ gW := gW_of (List.mem_of_getElem? (i := 255) (by decide +kernel)) rfl
theorem t_256 : (Jvm.Cond.instantiable "CardLink$Wire" (10 : Nat)) ∈ gW := gW_of (List.mem_of_getElem? (i := 256) (by decide +kernel)) rfl
theorem t_258 : (Jvm.Cond.instanceMethod ({ cls := "CardLink$Wire", name := "<init>", desc := "()V" } : Jvm.MethodName)) ∈ gW := gW_of (List.mem_of_getElem? (i := 258) (by decide +kernel)) rfl
theorem t_259 : (Jvm.Cond.code ({ cls := "CardLink$Wire", name := "<init>", desc := "()V" } : Jvm.MethodName) prog_8_method_1_code (1 : Nat) (Option.none : Option Jvm.ClassFile.FieldType)) ∈ gW := gW_of (List.mem_append_right _ (List.mem_append_left _ (List.mem_of_getElem? (l := tables_1_1) (i := 159) rfl))) rfl
theorem t_260 : (Jvm.Cond.methodLink "CardLink$Wire" (3 : Nat) ({ cls := "java/lang/Object", name := "<init>", desc := "()V" } : Jvm.MethodName)) ∈ gW := gW_of (List.mem_of_getElem? (i := 260) (by decide +kernel)) rfl
theorem t_261 : (Jvm.Cond.fieldLink "CardLink$Wire" (9 : Nat) "CardLink$Wire" "repeats" "I") ∈ gW := gW_of (List.mem_of_getElem? (i := 261) (by decide +kernel)) rfl
theorem t_262 : (Jvm.Cond.fieldLink "CardLink" (130 : Nat) "CardLink$Wire" "repeats" "I") ∈ gW := gW_of (List.mem_of_getElem? (i := 262) (by decide +kernel)) rfl
theorem t_263 : (Jvm.Cond.fieldLink "CardLink$Wire" (15 : Nat) "CardLink$Wire" "letters" "I") ∈ gW := gW_of (List.mem_of_getElem? (i := 263) (by decide +kernel)) rfl
theorem t_264 : (Jvm.Cond.fieldLink "CardLink$Forecast" (61 : Nat) "CardLink$Wire" "letters" "I") ∈ gW := gW_of (List.mem_of_getElem? (i := 264) (by decide +kernel)) rfl
theorem t_265 : (Jvm.Cond.fieldLink "CardLink" (181 : Nat) "CardLink$Wire" "letters" "I") ∈ gW := gW_of (List.mem_of_getElem? (i := 265) (by decide +kernel)) rfl
theorem t_266 : (Jvm.Cond.fieldLink "CardLink$Line" (257 : Nat) "CardLink$Wire" "letters" "I") ∈ gW := gW_of (List.mem_of_getElem? (i := 266) (by decide +kernel)) rfl
theorem t_267 : (Jvm.Cond.fieldLink "CardLink$Wire" (18 : Nat) "CardLink$Wire" "lettersAgain" "I") ∈ gW := gW_of (List.mem_of_getElem? (i := 267) (by decide +kernel)) rfl
theorem t_268 : (Jvm.Cond.fieldLink "CardLink" (194 : Nat) "CardLink$Wire" "lettersAgain" "I") ∈ gW := gW_of (List.mem_of_getElem? (i := 268) (by decide +kernel)) rfl
theorem t_269 : (Jvm.Cond.fieldLink "CardLink$Wire" (21 : Nat) "CardLink$Wire" "faultLetters" "[I") ∈ gW := gW_of (List.mem_of_getElem? (i := 269) (by decide +kernel)) rfl
theorem t_270 : (Jvm.Cond.fieldLink "CardLink$Wire" (25 : Nat) "CardLink$Wire" "faultKinds" "[I") ∈ gW := gW_of (List.mem_of_getElem? (i := 270) (by decide +kernel)) rfl
theorem t_271 : (Jvm.Cond.fieldLink "CardLink$Wire" (28 : Nat) "CardLink$Wire" "faultBits" "[I") ∈ gW := gW_of (List.mem_of_getElem? (i := 271) (by decide +kernel)) rfl
theorem t_272 : (Jvm.Cond.fieldLink "CardLink$Wire" (31 : Nat) "CardLink$Wire" "faults" "I") ∈ gW := gW_of (List.mem_of_getElem? (i := 272) (by decide +kernel)) rfl
theorem t_273 : (Jvm.Cond.fieldLink "CardLink$Wire" (34 : Nat) "CardLink$Wire" "probeLetter" "I") ∈ gW := gW_of (List.mem_of_getElem? (i := 273) (by decide +kernel)) rfl
theorem t_274 : (Jvm.Cond.fieldLink "CardLink$Wire" (37 : Nat) "CardLink$Wire" "probeKind" "I") ∈ gW := gW_of (List.mem_of_getElem? (i := 274) (by decide +kernel)) rfl
theorem t_275 : (Jvm.Cond.fieldLink "CardLink$Wire" (40 : Nat) "CardLink$Wire" "bitsNow" "I") ∈ gW := gW_of (List.mem_of_getElem? (i := 275) (by decide +kernel)) rfl
theorem t_297 : (Jvm.Cond.classLink "CardLink$Line" (46 : Nat) "CardLink$Row") ∈ gW := gW_of (List.mem_of_getElem? (i := 297) (by decide +kernel)) rfl
theorem t_298 : (Jvm.Cond.methodLink "CardLink$Line" (48 : Nat) ({ cls := "CardLink$Row", name := "<init>", desc := "(II)V" } : Jvm.MethodName)) ∈ gW := gW_of (List.mem_of_getElem? (i := 298) (by decide +kernel)) rfl
theorem t_299 : (Jvm.Cond.fieldLink "CardLink$Line" (14 : Nat) "CardLink$Line" "reader" "LCardLink$Side;") ∈ gW := gW_of (List.mem_of_getElem? (i := 299) (by decide +kernel)) rfl
theorem t_300 : (Jvm.Cond.fieldLink "CardLink$Forecast" (74 : Nat) "CardLink$Line" "reader" "LCardLink$Side;") ∈ gW := gW_of (List.mem_of_getElem? (i := 300) (by decide +kernel)) rfl
theorem t_301 : (Jvm.Cond.fieldLink "CardLink" (146 : Nat) "CardLink$Line" "reader" "LCardLink$Side;") ∈ gW := gW_of (List.mem_of_getElem? (i := 301) (by decide +kernel)) rfl
theorem t_302 : (Jvm.Cond.fieldLink "CardLink$Line" (20 : Nat) "CardLink$Line" "card" "LCardLink$Side;") ∈ gW := gW_of (List.mem_of_getElem? (i := 302) (by decide +kernel)) rfl
theorem t_303 : (Jvm.Cond.fieldLink "CardLink" (150 : Nat) "CardLink$Line" "card" "LCardLink$Side;") ∈ gW := gW_of (List.mem_of_getElem? (i := 303) (by decide +kernel)) rfl
theorem t_304 : (Jvm.Cond.fieldLink "CardLink$Line" (26 : Nat) "CardLink$Line" "wire" "LCardLink$Wire;") ∈ gW := gW_of (List.mem_of_getElem? (i := 304) (by decide +kernel)) rfl
theorem t_305 : (Jvm.Cond.fieldLink "CardLink$Forecast" (57 : Nat) "CardLink$Line" "wire" "LCardLink$Wire;") ∈ gW := gW_of (List.mem_of_getElem? (i := 305) (by decide +kernel)) rfl
theorem t_306 : (Jvm.Cond.fieldLink "CardLink" (114 : Nat) "CardLink$Line" "wire" "LCardLink$Wire;") ∈ gW := gW_of (List.mem_of_getElem? (i := 306) (by decide +kernel)) rfl
theorem t_307 : (Jvm.Cond.fieldLink "CardLink$Line" (30 : Nat) "CardLink$Line" "state" "I") ∈ gW := gW_of (List.mem_of_getElem? (i := 307) (by decide +kernel)) rfl
theorem t_308 : (Jvm.Cond.fieldLink "CardLink$Forecast" (50 : Nat) "CardLink$Line" "state" "I") ∈ gW := gW_of (List.mem_of_getElem? (i := 308) (by decide +kernel)) rfl
theorem t_309 : (Jvm.Cond.fieldLink "CardLink" (110 : Nat) "CardLink$Line" "state" "I") ∈ gW := gW_of (List.mem_of_getElem? (i := 309) (by decide +kernel)) rfl
theorem t_310 : (Jvm.Cond.fieldLink "CardLink$Line" (34 : Nat) "CardLink$Line" "tries" "I") ∈ gW := gW_of (List.mem_of_getElem? (i := 310) (by decide +kernel)) rfl
theorem t_311 : (Jvm.Cond.fieldLink "CardLink" (197 : Nat) "CardLink$Line" "tries" "I") ∈ gW := gW_of (List.mem_of_getElem? (i := 311) (by decide +kernel)) rfl
theorem t_312 : (Jvm.Cond.fieldLink "CardLink$Line" (37 : Nat) "CardLink$Line" "waitsEnded" "I") ∈ gW := gW_of (List.mem_of_getElem? (i := 312) (by decide +kernel)) rfl
theorem t_313 : (Jvm.Cond.fieldLink "CardLink" (203 : Nat) "CardLink$Line" "waitsEnded" "I") ∈ gW := gW_of (List.mem_of_getElem? (i := 313) (by decide +kernel)) rfl
theorem t_314 : (Jvm.Cond.fieldLink "CardLink$Line" (40 : Nat) "CardLink$Line" "timesDone" "I") ∈ gW := gW_of (List.mem_of_getElem? (i := 314) (by decide +kernel)) rfl
theorem t_315 : (Jvm.Cond.fieldLink "CardLink" (206 : Nat) "CardLink$Line" "timesDone" "I") ∈ gW := gW_of (List.mem_of_getElem? (i := 315) (by decide +kernel)) rfl
theorem t_316 : (Jvm.Cond.fieldLink "CardLink$Line" (43 : Nat) "CardLink$Line" "timesGivenUp" "I") ∈ gW := gW_of (List.mem_of_getElem? (i := 316) (by decide +kernel)) rfl
theorem t_317 : (Jvm.Cond.fieldLink "CardLink" (209 : Nat) "CardLink$Line" "timesGivenUp" "I") ∈ gW := gW_of (List.mem_of_getElem? (i := 317) (by decide +kernel)) rfl
theorem t_318 : (Jvm.Cond.fieldLink "CardLink$Line" (51 : Nat) "CardLink$Line" "block" "LCardLink$Row;") ∈ gW := gW_of (List.mem_of_getElem? (i := 318) (by decide +kernel)) rfl
theorem t_319 : (Jvm.Cond.fieldLink "CardLink$Line" (55 : Nat) "CardLink$Line" "came" "LCardLink$Row;") ∈ gW := gW_of (List.mem_of_getElem? (i := 319) (by decide +kernel)) rfl
theorem t_320 : (Jvm.Cond.fieldLink "CardLink$Line" (80 : Nat) "CardLink$Line" "journal" "LCardLink$Journal;") ∈ gW := gW_of (List.mem_of_getElem? (i := 320) (by decide +kernel)) rfl
theorem t_321 : (Jvm.Cond.fieldLink "CardLink$Line" (58 : Nat) "CardLink$Line" "outcome" "I") ∈ gW := gW_of (List.mem_of_getElem? (i := 321) (by decide +kernel)) rfl
theorem t_322 : (Jvm.Cond.fieldLink "CardLink$Line" (61 : Nat) "CardLink$Line" "firstTurn" "Z") ∈ gW := gW_of (List.mem_of_getElem? (i := 322) (by decide +kernel)) rfl
theorem t_323 : (Jvm.Cond.fieldLink "CardLink$Line" (65 : Nat) "CardLink$Line" "roomWish" "I") ∈ gW := gW_of (List.mem_of_getElem? (i := 323) (by decide +kernel)) rfl
theorem t_324 : (Jvm.Cond.fieldLink "CardLink$Line" (68 : Nat) "CardLink$Line" "stuck" "Z") ∈ gW := gW_of (List.mem_of_getElem? (i := 324) (by decide +kernel)) rfl
theorem t_325 : (Jvm.Cond.fieldLink "CardLink$Line" (71 : Nat) "CardLink$Line" "toldAbort" "Z") ∈ gW := gW_of (List.mem_of_getElem? (i := 325) (by decide +kernel)) rfl
theorem t_326 : (Jvm.Cond.fieldLink "CardLink$Line" (74 : Nat) "CardLink$Line" "waitsLeft" "I") ∈ gW := gW_of (List.mem_of_getElem? (i := 326) (by decide +kernel)) rfl
theorem t_327 : (Jvm.Cond.fieldLink "CardLink$Line" (77 : Nat) "CardLink$Line" "silentTurns" "I") ∈ gW := gW_of (List.mem_of_getElem? (i := 327) (by decide +kernel)) rfl
theorem t_365 : (Jvm.Cond.classLink "CardLink" (34 : Nat) "CardLink$Forecast") ∈ gW := gW_of (List.mem_of_getElem? (i := 365) (by decide +kernel)) rfl
theorem t_366 : (Jvm.Cond.instantiable "CardLink$Forecast" (7 : Nat)) ∈ gW := gW_of (List.mem_of_getElem? (i := 366) (by decide +kernel)) rfl
theorem t_368 : (Jvm.Cond.instanceMethod ({ cls := "CardLink$Forecast", name := "<init>", desc := "()V" } : Jvm.MethodName)) ∈ gW := gW_of (List.mem_of_getElem? (i := 368) (by decide +kernel)) rfl
theorem t_369 : (Jvm.Cond.code ({ cls := "CardLink$Forecast", name := "<init>", desc := "()V" } : Jvm.MethodName) prog_2_method_1_code (1 : Nat) (Option.none : Option Jvm.ClassFile.FieldType)) ∈ gW := gW_of (List.mem_append_right _ (List.mem_append_right _ (List.mem_append_left _ (List.mem_of_getElem? (l := tables_1_2) (i := 29) rfl)))) rfl
theorem t_370 : (Jvm.Cond.methodLink "CardLink$Forecast" (3 : Nat) ({ cls := "java/lang/Object", name := "<init>", desc := "()V" } : Jvm.MethodName)) ∈ gW := gW_of (List.mem_of_getElem? (i := 370) (by decide +kernel)) rfl
theorem t_371 : (Jvm.Cond.classLink "CardLink$Forecast" (9 : Nat) "CardLink$Line") ∈ gW := gW_of (List.mem_of_getElem? (i := 371) (by decide +kernel)) rfl
theorem t_372 : (Jvm.Cond.methodLink "CardLink$Forecast" (11 : Nat) ({ cls := "CardLink$Line", name := "<init>", desc := "(LCardLink$Journal;)V" } : Jvm.MethodName)) ∈ gW := gW_of (List.mem_of_getElem? (i := 372) (by decide +kernel)) rfl
theorem t_373 : (Jvm.Cond.fieldLink "CardLink$Forecast" (14 : Nat) "CardLink$Forecast" "outlook" "LCardLink$Line;") ∈ gW := gW_of (List.mem_of_getElem? (i := 373) (by decide +kernel)) rfl
theorem t_374 : (Jvm.Cond.fieldLink "CardLink$Forecast" (20 : Nat) "CardLink$Forecast" "walk" "LCardLink$Line;") ∈ gW := gW_of (List.mem_of_getElem? (i := 374) (by decide +kernel)) rfl
theorem t_375 : (Jvm.Cond.fieldLink "CardLink$Forecast" (23 : Nat) "CardLink$Forecast" "fork" "LCardLink$Line;") ∈ gW := gW_of (List.mem_of_getElem? (i := 375) (by decide +kernel)) rfl
theorem t_376 : (Jvm.Cond.fieldLink "CardLink$Forecast" (26 : Nat) "CardLink$Forecast" "outlookKnown" "Z") ∈ gW := gW_of (List.mem_of_getElem? (i := 376) (by decide +kernel)) rfl
theorem t_377 : (Jvm.Cond.fieldLink "CardLink$Forecast" (30 : Nat) "CardLink$Forecast" "tried" "[I") ∈ gW := gW_of (List.mem_of_getElem? (i := 377) (by decide +kernel)) rfl
theorem t_378 : (Jvm.Cond.fieldLink "CardLink$Forecast" (34 : Nat) "CardLink$Forecast" "harmful" "[I") ∈ gW := gW_of (List.mem_of_getElem? (i := 378) (by decide +kernel)) rfl
theorem t_379 : (Jvm.Cond.fieldLink "CardLink$Forecast" (37 : Nat) "CardLink$Forecast" "firsts" "[I") ∈ gW := gW_of (List.mem_of_getElem? (i := 379) (by decide +kernel)) rfl
theorem t_395 : (Jvm.Cond.classLink "CardLink" (41 : Nat) "CardLink$ResetAnswer") ∈ gW := gW_of (List.mem_of_getElem? (i := 395) (by decide +kernel)) rfl
theorem t_396 : (Jvm.Cond.instantiable "CardLink$ResetAnswer" (11 : Nat)) ∈ gW := gW_of (List.mem_of_getElem? (i := 396) (by decide +kernel)) rfl
theorem t_398 : (Jvm.Cond.instanceMethod ({ cls := "CardLink$ResetAnswer", name := "<init>", desc := "()V" } : Jvm.MethodName)) ∈ gW := gW_of (List.mem_of_getElem? (i := 398) (by decide +kernel)) rfl
theorem t_399 : (Jvm.Cond.code ({ cls := "CardLink$ResetAnswer", name := "<init>", desc := "()V" } : Jvm.MethodName) prog_5_method_1_code (1 : Nat) (Option.none : Option Jvm.ClassFile.FieldType)) ∈ gW := gW_of (List.mem_append_right _ (List.mem_append_right _ (List.mem_append_left _ (List.mem_of_getElem? (l := tables_1_2) (i := 59) rfl)))) rfl
theorem t_400 : (Jvm.Cond.methodLink "CardLink$ResetAnswer" (3 : Nat) ({ cls := "java/lang/Object", name := "<init>", desc := "()V" } : Jvm.MethodName)) ∈ gW := gW_of (List.mem_of_getElem? (i := 400) (by decide +kernel)) rfl
theorem t_401 : (Jvm.Cond.classLink "CardLink$ResetAnswer" (9 : Nat) "CardLink$Row") ∈ gW := gW_of (List.mem_of_getElem? (i := 401) (by decide +kernel)) rfl
theorem t_402 : (Jvm.Cond.methodLink "CardLink$ResetAnswer" (11 : Nat) ({ cls := "CardLink$Row", name := "<init>", desc := "(II)V" } : Jvm.MethodName)) ∈ gW := gW_of (List.mem_of_getElem? (i := 402) (by decide +kernel)) rfl
theorem t_403 : (Jvm.Cond.fieldLink "CardLink$ResetAnswer" (73 : Nat) "CardLink$ResetAnswer" "ts" "I") ∈ gW := gW_of (List.mem_of_getElem? (i := 403) (by decide +kernel)) rfl
theorem t_404 : (Jvm.Cond.fieldLink "CardLink$ResetAnswer" (38 : Nat) "CardLink$ResetAnswer" "factor" "I") ∈ gW := gW_of (List.mem_of_getElem? (i := 404) (by decide +kernel)) rfl
theorem t_405 : (Jvm.Cond.fieldLink "CardLink$ResetAnswer" (42 : Nat) "CardLink$ResetAnswer" "guard" "I") ∈ gW := gW_of (List.mem_of_getElem? (i := 405) (by decide +kernel)) rfl
theorem t_406 : (Jvm.Cond.fieldLink "CardLink$ResetAnswer" (45 : Nat) "CardLink$ResetAnswer" "protocol" "I") ∈ gW := gW_of (List.mem_of_getElem? (i := 406) (by decide +kernel)) rfl
theorem t_407 : (Jvm.Cond.fieldLink "CardLink$ResetAnswer" (48 : Nat) "CardLink$ResetAnswer" "groups" "I") ∈ gW := gW_of (List.mem_of_getElem? (i := 407) (by decide +kernel)) rfl
theorem t_408 : (Jvm.Cond.fieldLink "CardLink$ResetAnswer" (51 : Nat) "CardLink$ResetAnswer" "room" "I") ∈ gW := gW_of (List.mem_of_getElem? (i := 408) (by decide +kernel)) rfl
theorem t_409 : (Jvm.Cond.fieldLink "CardLink$ResetAnswer" (54 : Nat) "CardLink$ResetAnswer" "checked" "Z") ∈ gW := gW_of (List.mem_of_getElem? (i := 409) (by decide +kernel)) rfl
theorem t_410 : (Jvm.Cond.fieldLink "CardLink$ResetAnswer" (14 : Nat) "CardLink$ResetAnswer" "historical" "LCardLink$Row;") ∈ gW := gW_of (List.mem_of_getElem? (i := 410) (by decide +kernel)) rfl
theorem t_411 : (Jvm.Cond.fieldLink "CardLink$ResetAnswer" (79 : Nat) "CardLink$ResetAnswer" "place" "I") ∈ gW := gW_of (List.mem_of_getElem? (i := 411) (by decide +kernel)) rfl
theorem t_412 : (Jvm.Cond.fieldLink "CardLink$ResetAnswer" (76 : Nat) "CardLink$ResetAnswer" "told" "I") ∈ gW := gW_of (List.mem_of_getElem? (i := 412) (by decide +kernel)) rfl
theorem t_413 : (Jvm.Cond.fieldLink "CardLink$ResetAnswer" (62 : Nat) "CardLink$ResetAnswer" "linkGroup" "I") ∈ gW := gW_of (List.mem_of_getElem? (i := 413) (by decide +kernel)) rfl
theorem t_437 : (Jvm.Cond.fieldLink "CardLink" (14 : Nat) "CardLink" "tape" "LCardLink$Row;") ∈ gW := gW_of (List.mem_of_getElem? (i := 437) (by decide +kernel)) rfl
theorem t_438 : (Jvm.Cond.fieldLink "CardLink" (21 : Nat) "CardLink" "journal" "LCardLink$Journal;") ∈ gW := gW_of (List.mem_of_getElem? (i := 438) (by decide +kernel)) rfl
theorem t_439 : (Jvm.Cond.fieldLink "CardLink" (30 : Nat) "CardLink" "line" "LCardLink$Line;") ∈ gW := gW_of (List.mem_of_getElem? (i := 439) (by decide +kernel)) rfl
theorem t_440 : (Jvm.Cond.fieldLink "CardLink" (37 : Nat) "CardLink" "forecast" "LCardLink$Forecast;") ∈ gW := gW_of (List.mem_of_getElem? (i := 440) (by decide +kernel)) rfl
theorem t_441 : (Jvm.Cond.fieldLink "CardLink" (44 : Nat) "CardLink" "inForce" "LCardLink$ResetAnswer;") ∈ gW := gW_of (List.mem_of_getElem? (i := 441) (by decide +kernel)) rfl
theorem t_442 : (Jvm.Cond.fieldLink "CardLink" (48 : Nat) "CardLink" "spare" "LCardLink$ResetAnswer;") ∈ gW := gW_of (List.mem_of_getElem? (i := 442) (by decide +kernel)) rfl
theorem t_443 : (Jvm.Cond.fieldLink "CardLink" (51 : Nat) "CardLink" "cardIn" "Z") ∈ gW := gW_of (List.mem_of_getElem? (i := 443) (by decide +kernel)) rfl
theorem t_459 : (Jvm.Cond.methodLink "CardLinkLaw" (21 : Nat) ({ cls := "CardLink", name := "feed", desc := "(JJ)I" } : Jvm.MethodName)) ∈ gW := gW_of (List.mem_of_getElem? (i := 459) (by decide +kernel)) rfl
theorem t_460 : (Jvm.Cond.instanceMethod ({ cls := "CardLink", name := "feed", desc := "(JJ)I" } : Jvm.MethodName)) ∈ gW := gW_of (List.mem_of_getElem? (i := 460) (by decide +kernel)) rfl
theorem t_461 : (Jvm.Cond.selects "CardLink" ({ cls := "CardLink", name := "feed", desc := "(JJ)I" } : Jvm.MethodName) ({ cls := "CardLink", name := "feed", desc := "(JJ)I" } : Jvm.MethodName)) ∈ gW := gW_of (List.mem_of_getElem? (i := 461) (by decide +kernel)) rfl
theorem t_462 : (Jvm.Cond.code ({ cls := "CardLink", name := "feed", desc := "(JJ)I" } : Jvm.MethodName) prog_1_method_2_code (5 : Nat) (Option.some Jvm.ClassFile.FieldType.int)) ∈ gW := gW_of (List.mem_append_right _ (List.mem_append_right _ (List.mem_append_left _ (List.mem_of_getElem? (l := tables_1_2) (i := 122) rfl)))) rfl
theorem t_463 : (Jvm.Cond.methodLink "CardLink" (55 : Nat) ({ cls := "CardLink$Row", name := "size", desc := "()I" } : Jvm.MethodName)) ∈ gW := gW_of (List.mem_of_getElem? (i := 463) (by decide +kernel)) rfl
theorem t_464 : (Jvm.Cond.instanceMethod ({ cls := "CardLink$Row", name := "size", desc := "()I" } : Jvm.MethodName)) ∈ gW := gW_of (List.mem_of_getElem? (i := 464) (by decide +kernel)) rfl
theorem t_465 : (Jvm.Cond.selects "CardLink$Row" ({ cls := "CardLink$Row", name := "size", desc := "()I" } : Jvm.MethodName) ({ cls := "CardLink$Row", name := "size", desc := "()I" } : Jvm.MethodName)) ∈ gW := gW_of (List.mem_of_getElem? (i := 465) (by decide +kernel)) rfl
theorem t_466 : (Jvm.Cond.code ({ cls := "CardLink$Row", name := "size", desc := "()I" } : Jvm.MethodName) prog_6_method_2_code (1 : Nat) (Option.some Jvm.ClassFile.FieldType.int)) ∈ gW := gW_of (List.mem_append_right _ (List.mem_append_right _ (List.mem_append_left _ (List.mem_of_getElem? (l := tables_1_2) (i := 126) rfl)))) rfl
theorem t_467 : (Jvm.Cond.methodLink "CardLink" (59 : Nat) ({ cls := "CardLink", name := "feedEight", desc := "(J)V" } : Jvm.MethodName)) ∈ gW := gW_of (List.mem_of_getElem? (i := 467) (by decide +kernel)) rfl
theorem t_469 : (Jvm.Cond.instanceMethod ({ cls := "CardLink", name := "feedEight", desc := "(J)V" } : Jvm.MethodName)) ∈ gW := gW_of (List.mem_of_getElem? (i := 469) (by decide +kernel)) rfl
theorem t_470 : (Jvm.Cond.code ({ cls := "CardLink", name := "feedEight", desc := "(J)V" } : Jvm.MethodName) prog_1_method_3_code (4 : Nat) (Option.none : Option Jvm.ClassFile.FieldType)) ∈ gW := gW_of (List.mem_append_right _ (List.mem_append_right _ (List.mem_append_left _ (List.mem_of_getElem? (l := tables_1_2) (i := 130) rfl)))) rfl
theorem t_471 : (Jvm.Cond.methodLink "CardLink" (63 : Nat) ({ cls := "CardLink$Row", name := "add", desc := "(I)V" } : Jvm.MethodName)) ∈ gW := gW_of (List.mem_of_getElem? (i := 471) (by decide +kernel)) rfl
theorem t_472 : (Jvm.Cond.instanceMethod ({ cls := "CardLink$Row", name := "add", desc := "(I)V" } : Jvm.MethodName)) ∈ gW := gW_of (List.mem_of_getElem? (i := 472) (by decide +kernel)) rfl
theorem t_473 : (Jvm.Cond.selects "CardLink$Row" ({ cls := "CardLink$Row", name := "add", desc := "(I)V" } : Jvm.MethodName) ({ cls := "CardLink$Row", name := "add", desc := "(I)V" } : Jvm.MethodName)) ∈ gW := gW_of (List.mem_of_getElem? (i := 473) (by decide +kernel)) rfl
theorem t_474 : (Jvm.Cond.code ({ cls := "CardLink$Row", name := "add", desc := "(I)V" } : Jvm.MethodName) prog_6_method_5_code (2 : Nat) (Option.none : Option Jvm.ClassFile.FieldType)) ∈ gW := gW_of (List.mem_append_right _ (List.mem_append_right _ (List.mem_append_left _ (List.mem_of_getElem? (l := tables_1_2) (i := 134) rfl)))) rfl
theorem t_475 : (Jvm.Cond.methodLink "CardLink$Row" (26 : Nat) ({ cls := "java/lang/Math", name := "min", desc := "(II)I" } : Jvm.MethodName)) ∈ gW := gW_of (List.mem_of_getElem? (i := 475) (by decide +kernel)) rfl
theorem t_476 : (Jvm.Cond.static ({ cls := "java/lang/Math", name := "min", desc := "(II)I" } : Jvm.MethodName)) ∈ gW := gW_of (List.mem_of_getElem? (i := 476) (by decide +kernel)) rfl
theorem t_477 : (Jvm.Cond.code ({ cls := "java/lang/Math", name := "min", desc := "(II)I" } : Jvm.MethodName) prog_14_method_69_code (2 : Nat) (Option.some Jvm.ClassFile.FieldType.int)) ∈ gW := gW_of (List.mem_append_right _ (List.mem_append_right _ (List.mem_append_left _ (List.mem_of_getElem? (l := tables_1_2) (i := 137) rfl)))) rfl
theorem t_478 : (Jvm.Cond.methodLink "CardLink$Row" (29 : Nat) ({ cls := "java/util/Arrays", name := "copyOf", desc := "([II)[I" } : Jvm.MethodName)) ∈ gW := gW_of (List.mem_of_getElem? (i := 478) (by decide +kernel)) rfl
theorem t_479 : (Jvm.Cond.static ({ cls := "java/util/Arrays", name := "copyOf", desc := "([II)[I" } : Jvm.MethodName)) ∈ gW := gW_of (List.mem_of_getElem? (i := 479) (by decide +kernel)) rfl
theorem t_480 : (Jvm.Cond.code ({ cls := "java/util/Arrays", name := "copyOf", desc := "([II)[I" } : Jvm.MethodName) prog_18_method_123_code (3 : Nat) (Option.some (Jvm.ClassFile.FieldType.array Jvm.ClassFile.FieldType.int))) ∈ gW := gW_of (List.mem_append_right _ (List.mem_append_right _ (List.mem_append_left _ (List.mem_of_getElem? (l := tables_1_2) (i := 140) rfl)))) rfl
theorem t_488 : (Jvm.Cond.methodLink "java/util/Arrays" (304 : Nat) ({ cls := "java/lang/Math", name := "min", desc := "(II)I" } : Jvm.MethodName)) ∈ gW := gW_of (List.mem_of_getElem? (i := 488) (by decide +kernel)) rfl
theorem t_489 : (Jvm.Cond.methodLink "java/util/Arrays" (150 : Nat) ({ cls := "java/lang/System", name := "arraycopy", desc := "(Ljava/lang/Object;ILjava/lang/Object;II)V" } : Jvm.MethodName)) ∈ gW := gW_of (List.mem_of_getElem? (i := 489) (by decide +kernel)) rfl
theorem t_490 : (Jvm.Cond.static ({ cls := "java/lang/System", name := "arraycopy", desc := "(Ljava/lang/Object;ILjava/lang/Object;II)V" } : Jvm.MethodName)) ∈ gW := gW_of (List.mem_of_getElem? (i := 490) (by decide +kernel)) rfl
theorem t_492 : (Jvm.Cond.methodLink "CardLinkLaw" (26 : Nat) ({ cls := "CardLink", name := "end", desc := "(I)I" } : Jvm.MethodName)) ∈ gW := gW_of (List.mem_of_getElem? (i := 492) (by decide +kernel)) rfl
theorem t_493 : (Jvm.Cond.instanceMethod ({ cls := "CardLink", name := "end", desc := "(I)I" } : Jvm.MethodName)) ∈ gW := gW_of (List.mem_of_getElem? (i := 493) (by decide +kernel)) rfl
theorem t_494 : (Jvm.Cond.selects "CardLink" ({ cls := "CardLink", name := "end", desc := "(I)I" } : Jvm.MethodName) ({ cls := "CardLink", name := "end", desc := "(I)I" } : Jvm.MethodName)) ∈ gW := gW_of (List.mem_of_getElem? (i := 494) (by decide +kernel)) rfl
theorem t_495 : (Jvm.Cond.code ({ cls := "CardLink", name := "end", desc := "(I)I" } : Jvm.MethodName) prog_1_method_4_code (2 : Nat) (Option.some Jvm.ClassFile.FieldType.int)) ∈ gW := gW_of (List.mem_append_right _ (List.mem_append_right _ (List.mem_append_left _ (List.mem_of_getElem? (l := tables_1_2) (i := 155) rfl)))) rfl
theorem t_496 : (Jvm.Cond.methodLink "CardLink" (67 : Nat) ({ cls := "CardLink$Row", name := "keep", desc := "(I)V" } : Jvm.MethodName)) ∈ gW := gW_of (List.mem_of_getElem? (i := 496) (by decide +kernel)) rfl
theorem t_497 : (Jvm.Cond.instanceMethod ({ cls := "CardLink$Row", name := "keep", desc := "(I)V" } : Jvm.MethodName)) ∈ gW := gW_of (List.mem_of_getElem? (i := 497) (by decide +kernel)) rfl
theorem t_498 : (Jvm.Cond.selects "CardLink$Row" ({ cls := "CardLink$Row", name := "keep", desc := "(I)V" } : Jvm.MethodName) ({ cls := "CardLink$Row", name := "keep", desc := "(I)V" } : Jvm.MethodName)) ∈ gW := gW_of (List.mem_of_getElem? (i := 498) (by decide +kernel)) rfl
theorem t_499 : (Jvm.Cond.code ({ cls := "CardLink$Row", name := "keep", desc := "(I)V" } : Jvm.MethodName) prog_6_method_6_code (2 : Nat) (Option.none : Option Jvm.ClassFile.FieldType)) ∈ gW := gW_of (List.mem_append_right _ (List.mem_append_right _ (List.mem_append_left _ (List.mem_of_getElem? (l := tables_1_2) (i := 159) rfl)))) rfl
theorem t_500 : (Jvm.Cond.methodLink "CardLinkLaw" (31 : Nat) ({ cls := "CardLink", name := "reset", desc := "()I" } : Jvm.MethodName)) ∈ gW := gW_of (List.mem_of_getElem? (i := 500) (by decide +kernel)) rfl
theorem t_501 : (Jvm.Cond.instanceMethod ({ cls := "CardLink", name := "reset", desc := "()I" } : Jvm.MethodName)) ∈ gW := gW_of (List.mem_of_getElem? (i := 501) (by decide +kernel)) rfl
theorem t_502 : (Jvm.Cond.selects "CardLink" ({ cls := "CardLink", name := "reset", desc := "()I" } : Jvm.MethodName) ({ cls := "CardLink", name := "reset", desc := "()I" } : Jvm.MethodName)) ∈ gW := gW_of (List.mem_of_getElem? (i := 502) (by decide +kernel)) rfl
theorem t_503 : (Jvm.Cond.code ({ cls := "CardLink", name := "reset", desc := "()I" } : Jvm.MethodName) prog_1_method_5_code (3 : Nat) (Option.some Jvm.ClassFile.FieldType.int)) ∈ gW := gW_of (List.mem_append_right _ (List.mem_append_right _ (List.mem_append_left _ (List.mem_of_getElem? (l := tables_1_2) (i := 163) rfl)))) rfl
theorem t_504 : (Jvm.Cond.methodLink "CardLink" (70 : Nat) ({ cls := "CardLink$ResetAnswer", name := "read", desc := "(LCardLink$Row;)I" } : Jvm.MethodName)) ∈ gW := gW_of (List.mem_of_getElem? (i := 504) (by decide +kernel)) rfl
theorem t_505 : (Jvm.Cond.instanceMethod ({ cls := "CardLink$ResetAnswer", name := "read", desc := "(LCardLink$Row;)I" } : Jvm.MethodName)) ∈ gW := gW_of (List.mem_of_getElem? (i := 505) (by decide +kernel)) rfl
theorem t_506 : (Jvm.Cond.selects "CardLink$ResetAnswer" ({ cls := "CardLink$ResetAnswer", name := "read", desc := "(LCardLink$Row;)I" } : Jvm.MethodName) ({ cls := "CardLink$ResetAnswer", name := "read", desc := "(LCardLink$Row;)I" } : Jvm.MethodName)) ∈ gW := gW_of (List.mem_of_getElem? (i := 506) (by decide +kernel)) rfl
theorem t_507 : (Jvm.Cond.code ({ cls := "CardLink$ResetAnswer", name := "read", desc := "(LCardLink$Row;)I" } : Jvm.MethodName) prog_5_method_2_code (3 : Nat) (Option.some Jvm.ClassFile.FieldType.int)) ∈ gW := gW_of (List.mem_append_right _ (List.mem_append_right _ (List.mem_append_left _ (List.mem_of_getElem? (l := tables_1_2) (i := 167) rfl)))) rfl
theorem t_508 : (Jvm.Cond.methodLink "CardLink$ResetAnswer" (20 : Nat) ({ cls := "CardLink$ResetAnswer", name := "clear", desc := "()V" } : Jvm.MethodName)) ∈ gW := gW_of (List.mem_of_getElem? (i := 508) (by decide +kernel)) rfl
theorem t_510 : (Jvm.Cond.instanceMethod ({ cls := "CardLink$ResetAnswer", name := "clear", desc := "()V" } : Jvm.MethodName)) ∈ gW := gW_of (List.mem_of_getElem? (i := 510) (by decide +kernel)) rfl
theorem t_511 : (Jvm.Cond.code ({ cls := "CardLink$ResetAnswer", name := "clear", desc := "()V" } : Jvm.MethodName) prog_5_method_3_code (1 : Nat) (Option.none : Option Jvm.ClassFile.FieldType)) ∈ gW := gW_of (List.mem_append_right _ (List.mem_append_right _ (List.mem_append_left _ (List.mem_of_getElem? (l := tables_1_2) (i := 171) rfl)))) rfl
theorem t_512 : (Jvm.Cond.methodLink "CardLink$ResetAnswer" (58 : Nat) ({ cls := "CardLink$Row", name := "keep", desc := "(I)V" } : Jvm.MethodName)) ∈ gW := gW_of (List.mem_of_getElem? (i := 512) (by decide +kernel)) rfl
theorem t_513 : (Jvm.Cond.methodLink "CardLink$ResetAnswer" (23 : Nat) ({ cls := "CardLink$ResetAnswer", name := "readHead", desc := "(LCardLink$Row;)I" } : Jvm.MethodName)) ∈ gW := gW_of (List.mem_of_getElem? (i := 513) (by decide +kernel)) rfl
theorem t_515 : (Jvm.Cond.instanceMethod ({ cls := "CardLink$ResetAnswer", name := "readHead", desc := "(LCardLink$Row;)I" } : Jvm.MethodName)) ∈ gW := gW_of (List.mem_of_getElem? (i := 515) (by decide +kernel)) rfl
theorem t_516 : (Jvm.Cond.code ({ cls := "CardLink$ResetAnswer", name := "readHead", desc := "(LCardLink$Row;)I" } : Jvm.MethodName) prog_5_method_5_code (2 : Nat) (Option.some Jvm.ClassFile.FieldType.int)) ∈ gW := gW_of (List.mem_append_right _ (List.mem_append_right _ (List.mem_append_left _ (List.mem_of_getElem? (l := tables_1_2) (i := 176) rfl)))) rfl
theorem t_517 : (Jvm.Cond.methodLink "CardLink$ResetAnswer" (65 : Nat) ({ cls := "CardLink$Row", name := "size", desc := "()I" } : Jvm.MethodName)) ∈ gW := gW_of (List.mem_of_getElem? (i := 517) (by decide +kernel)) rfl
theorem t_518 : (Jvm.Cond.methodLink "CardLink$ResetAnswer" (69 : Nat) ({ cls := "CardLink$ResetAnswer", name := "faultAt", desc := "(II)I" } : Jvm.MethodName)) ∈ gW := gW_of (List.mem_of_getElem? (i := 518) (by decide +kernel)) rfl
theorem t_519 : (Jvm.Cond.static ({ cls := "CardLink$ResetAnswer", name := "faultAt", desc := "(II)I" } : Jvm.MethodName)) ∈ gW := gW_of (List.mem_of_getElem? (i := 519) (by decide +kernel)) rfl
theorem t_520 : (Jvm.Cond.code ({ cls := "CardLink$ResetAnswer", name := "faultAt", desc := "(II)I" } : Jvm.MethodName) prog_5_method_4_code (2 : Nat) (Option.some Jvm.ClassFile.FieldType.int)) ∈ gW := gW_of (List.mem_append_right _ (List.mem_append_right _ (List.mem_append_left _ (List.mem_of_getElem? (l := tables_1_2) (i := 180) rfl)))) rfl
theorem t_521 : (Jvm.Cond.methodLink "CardLink$ResetAnswer" (30 : Nat) ({ cls := "CardLink$Row", name := "at", desc := "(I)I" } : Jvm.MethodName)) ∈ gW := gW_of (List.mem_of_getElem? (i := 521) (by decide +kernel)) rfl
theorem t_522 : (Jvm.Cond.instanceMethod ({ cls := "CardLink$Row", name := "at", desc := "(I)I" } : Jvm.MethodName)) ∈ gW := gW_of (List.mem_of_getElem? (i := 522) (by decide +kernel)) rfl
theorem t_523 : (Jvm.Cond.selects "CardLink$Row" ({ cls := "CardLink$Row", name := "at", desc := "(I)I" } : Jvm.MethodName) ({ cls := "CardLink$Row", name := "at", desc := "(I)I" } : Jvm.MethodName)) ∈ gW := gW_of (List.mem_of_getElem? (i := 523) (by decide +kernel)) rfl
theorem t_524 : (Jvm.Cond.code ({ cls := "CardLink$Row", name := "at", desc := "(I)I" } : Jvm.MethodName) prog_6_method_3_code (2 : Nat) (Option.some Jvm.ClassFile.FieldType.int)) ∈ gW := gW_of (List.mem_append_right _ (List.mem_append_right _ (List.mem_append_left _ (List.mem_of_getElem? (l := tables_1_2) (i := 184) rfl)))) rfl
theorem t_525 : (Jvm.Cond.methodLink "CardLink$ResetAnswer" (27 : Nat) ({ cls := "CardLink$ResetAnswer", name := "readGroups", desc := "(LCardLink$Row;)I" } : Jvm.MethodName)) ∈ gW := gW_of (List.mem_of_getElem? (i := 525) (by decide +kernel)) rfl
theorem t_527 : (Jvm.Cond.instanceMethod ({ cls := "CardLink$ResetAnswer", name := "readGroups", desc := "(LCardLink$Row;)I" } : Jvm.MethodName)) ∈ gW := gW_of (List.mem_of_getElem? (i := 527) (by decide +kernel)) rfl
theorem t_528 : (Jvm.Cond.code ({ cls := "CardLink$ResetAnswer", name := "readGroups", desc := "(LCardLink$Row;)I" } : Jvm.MethodName) prog_5_method_6_code (6 : Nat) (Option.some Jvm.ClassFile.FieldType.int)) ∈ gW := gW_of (List.mem_append_right _ (List.mem_append_right _ (List.mem_append_left _ (List.mem_of_getElem? (l := tables_1_2) (i := 188) rfl)))) rfl
theorem t_529 : (Jvm.Cond.methodLink "CardLink$ResetAnswer" (82 : Nat) ({ cls := "CardLink$ResetAnswer", name := "readGroupByte", desc := "(III)I" } : Jvm.MethodName)) ∈ gW := gW_of (List.mem_of_getElem? (i := 529) (by decide +kernel)) rfl
theorem t_531 : (Jvm.Cond.instanceMethod ({ cls := "CardLink$ResetAnswer", name := "readGroupByte", desc := "(III)I" } : Jvm.MethodName)) ∈ gW := gW_of (List.mem_of_getElem? (i := 531) (by decide +kernel)) rfl
theorem t_532 : (Jvm.Cond.code ({ cls := "CardLink$ResetAnswer", name := "readGroupByte", desc := "(III)I" } : Jvm.MethodName) prog_5_method_7_code (4 : Nat) (Option.some Jvm.ClassFile.FieldType.int)) ∈ gW := gW_of (List.mem_append_right _ (List.mem_append_right _ (List.mem_append_left _ (List.mem_of_getElem? (l := tables_1_2) (i := 192) rfl)))) rfl
theorem t_533 : (Jvm.Cond.methodLink "CardLink$ResetAnswer" (86 : Nat) ({ cls := "CardLink$ResetAnswer", name := "readTd", desc := "(II)I" } : Jvm.MethodName)) ∈ gW := gW_of (List.mem_of_getElem? (i := 533) (by decide +kernel)) rfl
theorem t_535 : (Jvm.Cond.instanceMethod ({ cls := "CardLink$ResetAnswer", name := "readTd", desc := "(II)I" } : Jvm.MethodName)) ∈ gW := gW_of (List.mem_of_getElem? (i := 535) (by decide +kernel)) rfl
theorem t_536 : (Jvm.Cond.code ({ cls := "CardLink$ResetAnswer", name := "readTd", desc := "(II)I" } : Jvm.MethodName) prog_5_method_10_code (4 : Nat) (Option.some Jvm.ClassFile.FieldType.int)) ∈ gW := gW_of (List.mem_append_right _ (List.mem_append_right _ (List.mem_append_left _ (List.mem_of_getElem? (l := tables_1_2) (i := 196) rfl)))) rfl
theorem t_537 : (Jvm.Cond.methodLink "CardLink$ResetAnswer" (89 : Nat) ({ cls := "CardLink$ResetAnswer", name := "readFirstGroup", desc := "(II)I" } : Jvm.MethodName)) ∈ gW := gW_of (List.mem_of_getElem? (i := 537) (by decide +kernel)) rfl
theorem t_539 : (Jvm.Cond.instanceMethod ({ cls := "CardLink$ResetAnswer", name := "readFirstGroup", desc := "(II)I" } : Jvm.MethodName)) ∈ gW := gW_of (List.mem_of_getElem? (i := 539) (by decide +kernel)) rfl
theorem t_540 : (Jvm.Cond.code ({ cls := "CardLink$ResetAnswer", name := "readFirstGroup", desc := "(II)I" } : Jvm.MethodName) prog_5_method_8_code (3 : Nat) (Option.some Jvm.ClassFile.FieldType.int)) ∈ gW := gW_of (List.mem_append_right _ (List.mem_append_right _ (List.mem_append_left _ (List.mem_of_getElem? (l := tables_1_2) (i := 200) rfl)))) rfl
theorem t_541 : (Jvm.Cond.methodLink "CardLink$ResetAnswer" (95 : Nat) ({ cls := "CardLink$ResetAnswer", name := "clockOf", desc := "(I)I" } : Jvm.MethodName)) ∈ gW := gW_of (List.mem_of_getElem? (i := 541) (by decide +kernel)) rfl
theorem t_542 : (Jvm.Cond.static ({ cls := "CardLink$ResetAnswer", name := "clockOf", desc := "(I)I" } : Jvm.MethodName)) ∈ gW := gW_of (List.mem_of_getElem? (i := 542) (by decide +kernel)) rfl
theorem t_543 : (Jvm.Cond.code ({ cls := "CardLink$ResetAnswer", name := "clockOf", desc := "(I)I" } : Jvm.MethodName) prog_5_method_12_code (2 : Nat) (Option.some Jvm.ClassFile.FieldType.int)) ∈ gW := gW_of (List.mem_append_right _ (List.mem_append_right _ (List.mem_append_left _ (List.mem_of_getElem? (l := tables_1_2) (i := 203) rfl)))) rfl
theorem t_546 : (Jvm.Cond.methodLink "CardLink$ResetAnswer" (98 : Nat) ({ cls := "CardLink$ResetAnswer", name := "divisorOf", desc := "(I)I" } : Jvm.MethodName)) ∈ gW := gW_of (List.mem_of_getElem? (i := 546) (by decide +kernel)) rfl
theorem t_547 : (Jvm.Cond.static ({ cls := "CardLink$ResetAnswer", name := "divisorOf", desc := "(I)I" } : Jvm.MethodName)) ∈ gW := gW_of (List.mem_of_getElem? (i := 547) (by decide +kernel)) rfl
theorem t_548 : (Jvm.Cond.code ({ cls := "CardLink$ResetAnswer", name := "divisorOf", desc := "(I)I" } : Jvm.MethodName) prog_5_method_13_code (2 : Nat) (Option.some Jvm.ClassFile.FieldType.int)) ∈ gW := gW_of (List.mem_append_right _ (List.mem_append_right _ (List.mem_append_left _ (List.mem_of_getElem? (l := tables_1_2) (i := 208) rfl)))) rfl
theorem t_551 : (Jvm.Cond.methodLink "CardLink$ResetAnswer" (92 : Nat) ({ cls := "CardLink$ResetAnswer", name := "readLinkGroup", desc := "(II)I" } : Jvm.MethodName)) ∈ gW := gW_of (List.mem_of_getElem? (i := 551) (by decide +kernel)) rfl
theorem t_553 : (Jvm.Cond.instanceMethod ({ cls := "CardLink$ResetAnswer", name := "readLinkGroup", desc := "(II)I" } : Jvm.MethodName)) ∈ gW := gW_of (List.mem_of_getElem? (i := 553) (by decide +kernel)) rfl
theorem t_554 : (Jvm.Cond.code ({ cls := "CardLink$ResetAnswer", name := "readLinkGroup", desc := "(II)I" } : Jvm.MethodName) prog_5_method_9_code (3 : Nat) (Option.some Jvm.ClassFile.FieldType.int)) ∈ gW := gW_of (List.mem_append_right _ (List.mem_append_right _ (List.mem_append_left _ (List.mem_of_getElem? (l := tables_1_2) (i := 214) rfl)))) rfl
theorem t_555 : (Jvm.Cond.methodLink "CardLink$ResetAnswer" (34 : Nat) ({ cls := "CardLink$ResetAnswer", name := "readTail", desc := "(LCardLink$Row;I)I" } : Jvm.MethodName)) ∈ gW := gW_of (List.mem_of_getElem? (i := 555) (by decide +kernel)) rfl
theorem t_557 : (Jvm.Cond.instanceMethod ({ cls := "CardLink$ResetAnswer", name := "readTail", desc := "(LCardLink$Row;I)I" } : Jvm.MethodName)) ∈ gW := gW_of (List.mem_of_getElem? (i := 557) (by decide +kernel)) rfl
theorem t_558 : (Jvm.Cond.code ({ cls := "CardLink$ResetAnswer", name := "readTail", desc := "(LCardLink$Row;I)I" } : Jvm.MethodName) prog_5_method_11_code (5 : Nat) (Option.some Jvm.ClassFile.FieldType.int)) ∈ gW := gW_of (List.mem_append_right _ (List.mem_append_right _ (List.mem_append_left _ (List.mem_of_getElem? (l := tables_1_2) (i := 218) rfl)))) rfl
theorem t_559 : (Jvm.Cond.methodLink "CardLink$ResetAnswer" (101 : Nat) ({ cls := "CardLink$Row", name := "add", desc := "(I)V" } : Jvm.MethodName)) ∈ gW := gW_of (List.mem_of_getElem? (i := 559) (by decide +kernel)) rfl
theorem t_560 : (Jvm.Cond.methodLink "CardLink" (74 : Nat) ({ cls := "CardLink$Journal", name := "forgetAll", desc := "()V" } : Jvm.MethodName)) ∈ gW := gW_of (List.mem_of_getElem? (i := 560) (by decide +kernel)) rfl
theorem t_561 : (Jvm.Cond.instanceMethod ({ cls := "CardLink$Journal", name := "forgetAll", desc := "()V" } : Jvm.MethodName)) ∈ gW := gW_of (List.mem_of_getElem? (i := 561) (by decide +kernel)) rfl
theorem t_562 : (Jvm.Cond.selects "CardLink$Journal" ({ cls := "CardLink$Journal", name := "forgetAll", desc := "()V" } : Jvm.MethodName) ({ cls := "CardLink$Journal", name := "forgetAll", desc := "()V" } : Jvm.MethodName)) ∈ gW := gW_of (List.mem_of_getElem? (i := 562) (by decide +kernel)) rfl
theorem t_563 : (Jvm.Cond.code ({ cls := "CardLink$Journal", name := "forgetAll", desc := "()V" } : Jvm.MethodName) prog_3_method_2_code (1 : Nat) (Option.none : Option Jvm.ClassFile.FieldType)) ∈ gW := gW_of (List.mem_append_right _ (List.mem_append_right _ (List.mem_append_left _ (List.mem_of_getElem? (l := tables_1_2) (i := 223) rfl)))) rfl
theorem t_564 : (Jvm.Cond.methodLink "CardLink$Journal" (47 : Nat) ({ cls := "CardLink$Row", name := "keep", desc := "(I)V" } : Jvm.MethodName)) ∈ gW := gW_of (List.mem_of_getElem? (i := 564) (by decide +kernel)) rfl
theorem t_565 : (Jvm.Cond.methodLink "CardLink" (77 : Nat) ({ cls := "CardLink$ResetAnswer", name := "cardRoom", desc := "()I" } : Jvm.MethodName)) ∈ gW := gW_of (List.mem_of_getElem? (i := 565) (by decide +kernel)) rfl
theorem t_566 : (Jvm.Cond.instanceMethod ({ cls := "CardLink$ResetAnswer", name := "cardRoom", desc := "()I" } : Jvm.MethodName)) ∈ gW := gW_of (List.mem_of_getElem? (i := 566) (by decide +kernel)) rfl
theorem t_567 : (Jvm.Cond.selects "CardLink$ResetAnswer" ({ cls := "CardLink$ResetAnswer", name := "cardRoom", desc := "()I" } : Jvm.MethodName) ({ cls := "CardLink$ResetAnswer", name := "cardRoom", desc := "()I" } : Jvm.MethodName)) ∈ gW := gW_of (List.mem_of_getElem? (i := 567) (by decide +kernel)) rfl
theorem t_568 : (Jvm.Cond.code ({ cls := "CardLink$ResetAnswer", name := "cardRoom", desc := "()I" } : Jvm.MethodName) prog_5_method_14_code (1 : Nat) (Option.some Jvm.ClassFile.FieldType.int)) ∈ gW := gW_of (List.mem_append_right _ (List.mem_append_right _ (List.mem_append_left _ (List.mem_of_getElem? (l := tables_1_2) (i := 228) rfl)))) rfl
theorem t_569 : (Jvm.Cond.methodLink "CardLink" (80 : Nat) ({ cls := "CardLink$Line", name := "restart", desc := "(I)V" } : Jvm.MethodName)) ∈ gW := gW_of (List.mem_of_getElem? (i := 569) (by decide +kernel)) rfl
theorem t_570 : (Jvm.Cond.instanceMethod ({ cls := "CardLink$Line", name := "restart", desc := "(I)V" } : Jvm.MethodName)) ∈ gW := gW_of (List.mem_of_getElem? (i := 570) (by decide +kernel)) rfl
theorem t_571 : (Jvm.Cond.selects "CardLink$Line" ({ cls := "CardLink$Line", name := "restart", desc := "(I)V" } : Jvm.MethodName) ({ cls := "CardLink$Line", name := "restart", desc := "(I)V" } : Jvm.MethodName)) ∈ gW := gW_of (List.mem_of_getElem? (i := 571) (by decide +kernel)) rfl
theorem t_572 : (Jvm.Cond.code ({ cls := "CardLink$Line", name := "restart", desc := "(I)V" } : Jvm.MethodName) prog_4_method_2_code (2 : Nat) (Option.none : Option Jvm.ClassFile.FieldType)) ∈ gW := gW_of (List.mem_append_right _ (List.mem_append_right _ (List.mem_append_left _ (List.mem_of_getElem? (l := tables_1_2) (i := 232) rfl)))) rfl
theorem t_573 : (Jvm.Cond.methodLink "CardLink$Line" (84 : Nat) ({ cls := "CardLink$Side", name := "restart", desc := "(I)V" } : Jvm.MethodName)) ∈ gW := gW_of (List.mem_of_getElem? (i := 573) (by decide +kernel)) rfl
theorem t_574 : (Jvm.Cond.instanceMethod ({ cls := "CardLink$Side", name := "restart", desc := "(I)V" } : Jvm.MethodName)) ∈ gW := gW_of (List.mem_of_getElem? (i := 574) (by decide +kernel)) rfl
theorem t_575 : (Jvm.Cond.selects "CardLink$Side" ({ cls := "CardLink$Side", name := "restart", desc := "(I)V" } : Jvm.MethodName) ({ cls := "CardLink$Side", name := "restart", desc := "(I)V" } : Jvm.MethodName)) ∈ gW := gW_of (List.mem_of_getElem? (i := 575) (by decide +kernel)) rfl
theorem t_576 : (Jvm.Cond.code ({ cls := "CardLink$Side", name := "restart", desc := "(I)V" } : Jvm.MethodName) prog_7_method_2_code (2 : Nat) (Option.none : Option Jvm.ClassFile.FieldType)) ∈ gW := gW_of (List.mem_append_right _ (List.mem_append_right _ (List.mem_append_left _ (List.mem_of_getElem? (l := tables_1_2) (i := 236) rfl)))) rfl
theorem t_577 : (Jvm.Cond.methodLink "CardLink$Side" (64 : Nat) ({ cls := "CardLink$Side", name := "emptyAll", desc := "()V" } : Jvm.MethodName)) ∈ gW := gW_of (List.mem_of_getElem? (i := 577) (by decide +kernel)) rfl
theorem t_578 : (Jvm.Cond.instanceMethod ({ cls := "CardLink$Side", name := "emptyAll", desc := "()V" } : Jvm.MethodName)) ∈ gW := gW_of (List.mem_of_getElem? (i := 578) (by decide +kernel)) rfl
theorem t_579 : (Jvm.Cond.selects "CardLink$Side" ({ cls := "CardLink$Side", name := "emptyAll", desc := "()V" } : Jvm.MethodName) ({ cls := "CardLink$Side", name := "emptyAll", desc := "()V" } : Jvm.MethodName)) ∈ gW := gW_of (List.mem_of_getElem? (i := 579) (by decide +kernel)) rfl
theorem t_580 : (Jvm.Cond.code ({ cls := "CardLink$Side", name := "emptyAll", desc := "()V" } : Jvm.MethodName) prog_7_method_4_code (1 : Nat) (Option.none : Option Jvm.ClassFile.FieldType)) ∈ gW := gW_of (List.mem_append_right _ (List.mem_append_right _ (List.mem_append_right _ (List.mem_append_left _ (List.mem_of_getElem? (l := tables_1_3) (i := 0) rfl))))) rfl
theorem t_581 : (Jvm.Cond.methodLink "CardLink$Side" (67 : Nat) ({ cls := "CardLink$Row", name := "keep", desc := "(I)V" } : Jvm.MethodName)) ∈ gW := gW_of (List.mem_of_getElem? (i := 581) (by decide +kernel)) rfl
theorem t_582 : (Jvm.Cond.methodLink "CardLink$Line" (87 : Nat) ({ cls := "CardLink$Wire", name := "restart", desc := "()V" } : Jvm.MethodName)) ∈ gW := gW_of (List.mem_of_getElem? (i := 582) (by decide +kernel)) rfl
theorem t_583 : (Jvm.Cond.instanceMethod ({ cls := "CardLink$Wire", name := "restart", desc := "()V" } : Jvm.MethodName)) ∈ gW := gW_of (List.mem_of_getElem? (i := 583) (by decide +kernel)) rfl
theorem t_584 : (Jvm.Cond.selects "CardLink$Wire" ({ cls := "CardLink$Wire", name := "restart", desc := "()V" } : Jvm.MethodName) ({ cls := "CardLink$Wire", name := "restart", desc := "()V" } : Jvm.MethodName)) ∈ gW := gW_of (List.mem_of_getElem? (i := 584) (by decide +kernel)) rfl
theorem t_585 : (Jvm.Cond.code ({ cls := "CardLink$Wire", name := "restart", desc := "()V" } : Jvm.MethodName) prog_8_method_2_code (1 : Nat) (Option.none : Option Jvm.ClassFile.FieldType)) ∈ gW := gW_of (List.mem_append_right _ (List.mem_append_right _ (List.mem_append_right _ (List.mem_append_left _ (List.mem_of_getElem? (l := tables_1_3) (i := 5) rfl))))) rfl
theorem t_586 : (Jvm.Cond.methodLink "CardLink$Line" (89 : Nat) ({ cls := "CardLink$Row", name := "keep", desc := "(I)V" } : Jvm.MethodName)) ∈ gW := gW_of (List.mem_of_getElem? (i := 586) (by decide +kernel)) rfl
theorem t_587 : (Jvm.Cond.methodLink "CardLink" (83 : Nat) ({ cls := "CardLink$Forecast", name := "forget", desc := "()V" } : Jvm.MethodName)) ∈ gW := gW_of (List.mem_of_getElem? (i := 587) (by decide +kernel)) rfl
theorem t_588 : (Jvm.Cond.instanceMethod ({ cls := "CardLink$Forecast", name := "forget", desc := "()V" } : Jvm.MethodName)) ∈ gW := gW_of (List.mem_of_getElem? (i := 588) (by decide +kernel)) rfl
theorem t_589 : (Jvm.Cond.selects "CardLink$Forecast" ({ cls := "CardLink$Forecast", name := "forget", desc := "()V" } : Jvm.MethodName) ({ cls := "CardLink$Forecast", name := "forget", desc := "()V" } : Jvm.MethodName)) ∈ gW := gW_of (List.mem_of_getElem? (i := 589) (by decide +kernel)) rfl
theorem t_590 : (Jvm.Cond.code ({ cls := "CardLink$Forecast", name := "forget", desc := "()V" } : Jvm.MethodName) prog_2_method_2_code (1 : Nat) (Option.none : Option Jvm.ClassFile.FieldType)) ∈ gW := gW_of (List.mem_append_right _ (List.mem_append_right _ (List.mem_append_right _ (List.mem_append_left _ (List.mem_of_getElem? (l := tables_1_3) (i := 10) rfl))))) rfl
theorem t_591 : (Jvm.Cond.methodLink "CardLink$Forecast" (40 : Nat) ({ cls := "java/util/Arrays", name := "fill", desc := "([II)V" } : Jvm.MethodName)) ∈ gW := gW_of (List.mem_of_getElem? (i := 591) (by decide +kernel)) rfl
theorem t_592 : (Jvm.Cond.static ({ cls := "java/util/Arrays", name := "fill", desc := "([II)V" } : Jvm.MethodName)) ∈ gW := gW_of (List.mem_of_getElem? (i := 592) (by decide +kernel)) rfl
theorem t_593 : (Jvm.Cond.code ({ cls := "java/util/Arrays", name := "fill", desc := "([II)V" } : Jvm.MethodName) prog_18_method_103_code (4 : Nat) (Option.none : Option Jvm.ClassFile.FieldType)) ∈ gW := gW_of (List.mem_append_right _ (List.mem_append_right _ (List.mem_append_right _ (List.mem_append_left _ (List.mem_of_getElem? (l := tables_1_3) (i := 13) rfl))))) rfl
theorem t_594 : (Jvm.Cond.methodLink "CardLink" (86 : Nat) ({ cls := "CardLink$ResetAnswer", name := "historicalBytes", desc := "()I" } : Jvm.MethodName)) ∈ gW := gW_of (List.mem_of_getElem? (i := 594) (by decide +kernel)) rfl
theorem t_595 : (Jvm.Cond.instanceMethod ({ cls := "CardLink$ResetAnswer", name := "historicalBytes", desc := "()I" } : Jvm.MethodName)) ∈ gW := gW_of (List.mem_of_getElem? (i := 595) (by decide +kernel)) rfl
theorem t_596 : (Jvm.Cond.selects "CardLink$ResetAnswer" ({ cls := "CardLink$ResetAnswer", name := "historicalBytes", desc := "()I" } : Jvm.MethodName) ({ cls := "CardLink$ResetAnswer", name := "historicalBytes", desc := "()I" } : Jvm.MethodName)) ∈ gW := gW_of (List.mem_of_getElem? (i := 596) (by decide +kernel)) rfl
theorem t_597 : (Jvm.Cond.code ({ cls := "CardLink$ResetAnswer", name := "historicalBytes", desc := "()I" } : Jvm.MethodName) prog_5_method_15_code (1 : Nat) (Option.some Jvm.ClassFile.FieldType.int)) ∈ gW := gW_of (List.mem_append_right _ (List.mem_append_right _ (List.mem_append_right _ (List.mem_append_left _ (List.mem_of_getElem? (l := tables_1_3) (i := 17) rfl))))) rfl
theorem t_598 : (Jvm.Cond.methodLink "CardLinkLaw" (36 : Nat) ({ cls := "CardLink", name := "answer", desc := "(I)I" } : Jvm.MethodName)) ∈ gW := gW_of (List.mem_of_getElem? (i := 598) (by decide +kernel)) rfl
theorem t_599 : (Jvm.Cond.instanceMethod ({ cls := "CardLink", name := "answer", desc := "(I)I" } : Jvm.MethodName)) ∈ gW := gW_of (List.mem_of_getElem? (i := 599) (by decide +kernel)) rfl
theorem t_600 : (Jvm.Cond.selects "CardLink" ({ cls := "CardLink", name := "answer", desc := "(I)I" } : Jvm.MethodName) ({ cls := "CardLink", name := "answer", desc := "(I)I" } : Jvm.MethodName)) ∈ gW := gW_of (List.mem_of_getElem? (i := 600) (by decide +kernel)) rfl
theorem t_601 : (Jvm.Cond.code ({ cls := "CardLink", name := "answer", desc := "(I)I" } : Jvm.MethodName) prog_1_method_6_code (2 : Nat) (Option.some Jvm.ClassFile.FieldType.int)) ∈ gW := gW_of (List.mem_append_right _ (List.mem_append_right _ (List.mem_append_right _ (List.mem_append_left _ (List.mem_of_getElem? (l := tables_1_3) (i := 21) rfl))))) rfl
theorem t_602 : (Jvm.Cond.methodLink "CardLink" (89 : Nat) ({ cls := "CardLink$ResetAnswer", name := "tell", desc := "(I)I" } : Jvm.MethodName)) ∈ gW := gW_of (List.mem_of_getElem? (i := 602) (by decide +kernel)) rfl
theorem t_603 : (Jvm.Cond.instanceMethod ({ cls := "CardLink$ResetAnswer", name := "tell", desc := "(I)I" } : Jvm.MethodName)) ∈ gW := gW_of (List.mem_of_getElem? (i := 603) (by decide +kernel)) rfl
theorem t_604 : (Jvm.Cond.selects "CardLink$ResetAnswer" ({ cls := "CardLink$ResetAnswer", name := "tell", desc := "(I)I" } : Jvm.MethodName) ({ cls := "CardLink$ResetAnswer", name := "tell", desc := "(I)I" } : Jvm.MethodName)) ∈ gW := gW_of (List.mem_of_getElem? (i := 604) (by decide +kernel)) rfl
theorem t_605 : (Jvm.Cond.code ({ cls := "CardLink$ResetAnswer", name := "tell", desc := "(I)I" } : Jvm.MethodName) prog_5_method_17_code (2 : Nat) (Option.some Jvm.ClassFile.FieldType.int)) ∈ gW := gW_of (List.mem_append_right _ (List.mem_append_right _ (List.mem_append_right _ (List.mem_append_left _ (List.mem_of_getElem? (l := tables_1_3) (i := 25) rfl))))) rfl
theorem t_606 : (Jvm.Cond.methodLink "CardLinkLaw" (40 : Nat) ({ cls := "CardLink", name := "historical", desc := "(I)I" } : Jvm.MethodName)) ∈ gW := gW_of (List.mem_of_getElem? (i := 606) (by decide +kernel)) rfl
theorem t_607 : (Jvm.Cond.instanceMethod ({ cls := "CardLink", name := "historical", desc := "(I)I" } : Jvm.MethodName)) ∈ gW := gW_of (List.mem_of_getElem? (i := 607) (by decide +kernel)) rfl
theorem t_608 : (Jvm.Cond.selects "CardLink" ({ cls := "CardLink", name := "historical", desc := "(I)I" } : Jvm.MethodName) ({ cls := "CardLink", name := "historical", desc := "(I)I" } : Jvm.MethodName)) ∈ gW := gW_of (List.mem_of_getElem? (i := 608) (by decide +kernel)) rfl
theorem t_609 : (Jvm.Cond.code ({ cls := "CardLink", name := "historical", desc := "(I)I" } : Jvm.MethodName) prog_1_method_7_code (2 : Nat) (Option.some Jvm.ClassFile.FieldType.int)) ∈ gW := gW_of (List.mem_append_right _ (List.mem_append_right _ (List.mem_append_right _ (List.mem_append_left _ (List.mem_of_getElem? (l := tables_1_3) (i := 29) rfl))))) rfl
theorem t_610 : (Jvm.Cond.methodLink "CardLink" (93 : Nat) ({ cls := "CardLink$ResetAnswer", name := "historicalByte", desc := "(I)I" } : Jvm.MethodName)) ∈ gW := gW_of (List.mem_of_getElem? (i := 610) (by decide +kernel)) rfl
theorem t_611 : (Jvm.Cond.instanceMethod ({ cls := "CardLink$ResetAnswer", name := "historicalByte", desc := "(I)I" } : Jvm.MethodName)) ∈ gW := gW_of (List.mem_of_getElem? (i := 611) (by decide +kernel)) rfl
theorem t_612 : (Jvm.Cond.selects "CardLink$ResetAnswer" ({ cls := "CardLink$ResetAnswer", name := "historicalByte", desc := "(I)I" } : Jvm.MethodName) ({ cls := "CardLink$ResetAnswer", name := "historicalByte", desc := "(I)I" } : Jvm.MethodName)) ∈ gW := gW_of (List.mem_of_getElem? (i := 612) (by decide +kernel)) rfl
theorem t_613 : (Jvm.Cond.code ({ cls := "CardLink$ResetAnswer", name := "historicalByte", desc := "(I)I" } : Jvm.MethodName) prog_5_method_16_code (2 : Nat) (Option.some Jvm.ClassFile.FieldType.int)) ∈ gW := gW_of (List.mem_append_right _ (List.mem_append_right _ (List.mem_append_right _ (List.mem_append_left _ (List.mem_of_getElem? (l := tables_1_3) (i := 33) rfl))))) rfl
theorem t_614 : (Jvm.Cond.methodLink "CardLinkLaw" (44 : Nat) ({ cls := "CardLink", name := "message", desc := "()I" } : Jvm.MethodName)) ∈ gW := gW_of (List.mem_of_getElem? (i := 614) (by decide +kernel)) rfl
theorem t_615 : (Jvm.Cond.instanceMethod ({ cls := "CardLink", name := "message", desc := "()I" } : Jvm.MethodName)) ∈ gW := gW_of (List.mem_of_getElem? (i := 615) (by decide +kernel)) rfl
theorem t_616 : (Jvm.Cond.selects "CardLink" ({ cls := "CardLink", name := "message", desc := "()I" } : Jvm.MethodName) ({ cls := "CardLink", name := "message", desc := "()I" } : Jvm.MethodName)) ∈ gW := gW_of (List.mem_of_getElem? (i := 616) (by decide +kernel)) rfl
theorem t_617 : (Jvm.Cond.code ({ cls := "CardLink", name := "message", desc := "()I" } : Jvm.MethodName) prog_1_method_8_code (2 : Nat) (Option.some Jvm.ClassFile.FieldType.int)) ∈ gW := gW_of (List.mem_append_right _ (List.mem_append_right _ (List.mem_append_right _ (List.mem_append_left _ (List.mem_of_getElem? (l := tables_1_3) (i := 37) rfl))))) rfl
theorem t_618 : (Jvm.Cond.methodLink "CardLink" (96 : Nat) ({ cls := "CardLink", name := "mayStart", desc := "()Z" } : Jvm.MethodName)) ∈ gW := gW_of (List.mem_of_getElem? (i := 618) (by decide +kernel)) rfl
theorem t_620 : (Jvm.Cond.instanceMethod ({ cls := "CardLink", name := "mayStart", desc := "()Z" } : Jvm.MethodName)) ∈ gW := gW_of (List.mem_of_getElem? (i := 620) (by decide +kernel)) rfl
theorem t_621 : (Jvm.Cond.code ({ cls := "CardLink", name := "mayStart", desc := "()Z" } : Jvm.MethodName) prog_1_method_10_code (1 : Nat) (Option.some Jvm.ClassFile.FieldType.boolean)) ∈ gW := gW_of (List.mem_append_right _ (List.mem_append_right _ (List.mem_append_right _ (List.mem_append_left _ (List.mem_of_getElem? (l := tables_1_3) (i := 41) rfl))))) rfl
theorem t_622 : (Jvm.Cond.methodLink "CardLink" (100 : Nat) ({ cls := "CardLink$Line", name := "startMessage", desc := "(LCardLink$Row;)V" } : Jvm.MethodName)) ∈ gW := gW_of (List.mem_of_getElem? (i := 622) (by decide +kernel)) rfl
theorem t_623 : (Jvm.Cond.instanceMethod ({ cls := "CardLink$Line", name := "startMessage", desc := "(LCardLink$Row;)V" } : Jvm.MethodName)) ∈ gW := gW_of (List.mem_of_getElem? (i := 623) (by decide +kernel)) rfl
theorem t_624 : (Jvm.Cond.selects "CardLink$Line" ({ cls := "CardLink$Line", name := "startMessage", desc := "(LCardLink$Row;)V" } : Jvm.MethodName) ({ cls := "CardLink$Line", name := "startMessage", desc := "(LCardLink$Row;)V" } : Jvm.MethodName)) ∈ gW := gW_of (List.mem_of_getElem? (i := 624) (by decide +kernel)) rfl
theorem t_625 : (Jvm.Cond.code ({ cls := "CardLink$Line", name := "startMessage", desc := "(LCardLink$Row;)V" } : Jvm.MethodName) prog_4_method_4_code (2 : Nat) (Option.none : Option Jvm.ClassFile.FieldType)) ∈ gW := gW_of (List.mem_append_right _ (List.mem_append_right _ (List.mem_append_right _ (List.mem_append_left _ (List.mem_of_getElem? (l := tables_1_3) (i := 45) rfl))))) rfl
theorem t_626 : (Jvm.Cond.methodLink "CardLink$Line" (99 : Nat) ({ cls := "CardLink$Row", name := "copy", desc := "(LCardLink$Row;)V" } : Jvm.MethodName)) ∈ gW := gW_of (List.mem_of_getElem? (i := 626) (by decide +kernel)) rfl
theorem t_627 : (Jvm.Cond.instanceMethod ({ cls := "CardLink$Row", name := "copy", desc := "(LCardLink$Row;)V" } : Jvm.MethodName)) ∈ gW := gW_of (List.mem_of_getElem? (i := 627) (by decide +kernel)) rfl
theorem t_628 : (Jvm.Cond.selects "CardLink$Row" ({ cls := "CardLink$Row", name := "copy", desc := "(LCardLink$Row;)V" } : Jvm.MethodName) ({ cls := "CardLink$Row", name := "copy", desc := "(LCardLink$Row;)V" } : Jvm.MethodName)) ∈ gW := gW_of (List.mem_of_getElem? (i := 628) (by decide +kernel)) rfl
theorem t_629 : (Jvm.Cond.code ({ cls := "CardLink$Row", name := "copy", desc := "(LCardLink$Row;)V" } : Jvm.MethodName) prog_6_method_7_code (3 : Nat) (Option.none : Option Jvm.ClassFile.FieldType)) ∈ gW := gW_of (List.mem_append_right _ (List.mem_append_right _ (List.mem_append_right _ (List.mem_append_left _ (List.mem_of_getElem? (l := tables_1_3) (i := 49) rfl))))) rfl
theorem t_630 : (Jvm.Cond.methodLink "CardLink$Row" (35 : Nat) ({ cls := "java/lang/System", name := "arraycopy", desc := "(Ljava/lang/Object;ILjava/lang/Object;II)V" } : Jvm.MethodName)) ∈ gW := gW_of (List.mem_of_getElem? (i := 630) (by decide +kernel)) rfl
theorem t_631 : (Jvm.Cond.methodLink "CardLink$Line" (108 : Nat) ({ cls := "CardLink$Line", name := "begin", desc := "(I)V" } : Jvm.MethodName)) ∈ gW := gW_of (List.mem_of_getElem? (i := 631) (by decide +kernel)) rfl
theorem t_633 : (Jvm.Cond.instanceMethod ({ cls := "CardLink$Line", name := "begin", desc := "(I)V" } : Jvm.MethodName)) ∈ gW := gW_of (List.mem_of_getElem? (i := 633) (by decide +kernel)) rfl
theorem t_634 : (Jvm.Cond.code ({ cls := "CardLink$Line", name := "begin", desc := "(I)V" } : Jvm.MethodName) prog_4_method_6_code (2 : Nat) (Option.none : Option Jvm.ClassFile.FieldType)) ∈ gW := gW_of (List.mem_append_right _ (List.mem_append_right _ (List.mem_append_right _ (List.mem_append_left _ (List.mem_of_getElem? (l := tables_1_3) (i := 54) rfl))))) rfl
theorem t_635 : (Jvm.Cond.methodLink "CardLink" (104 : Nat) ({ cls := "CardLink$Line", name := "blocksAhead", desc := "()I" } : Jvm.MethodName)) ∈ gW := gW_of (List.mem_of_getElem? (i := 635) (by decide +kernel)) rfl
theorem t_636 : (Jvm.Cond.instanceMethod ({ cls := "CardLink$Line", name := "blocksAhead", desc := "()I" } : Jvm.MethodName)) ∈ gW := gW_of (List.mem_of_getElem? (i := 636) (by decide +kernel)) rfl
theorem t_637 : (Jvm.Cond.selects "CardLink$Line" ({ cls := "CardLink$Line", name := "blocksAhead", desc := "()I" } : Jvm.MethodName) ({ cls := "CardLink$Line", name := "blocksAhead", desc := "()I" } : Jvm.MethodName)) ∈ gW := gW_of (List.mem_of_getElem? (i := 637) (by decide +kernel)) rfl
theorem t_638 : (Jvm.Cond.code ({ cls := "CardLink$Line", name := "blocksAhead", desc := "()I" } : Jvm.MethodName) prog_4_method_7_code (4 : Nat) (Option.some Jvm.ClassFile.FieldType.int)) ∈ gW := gW_of (List.mem_append_right _ (List.mem_append_right _ (List.mem_append_right _ (List.mem_append_left _ (List.mem_of_getElem? (l := tables_1_3) (i := 58) rfl))))) rfl
theorem t_639 : (Jvm.Cond.methodLink "CardLink$Line" (111 : Nat) ({ cls := "CardLink$Row", name := "size", desc := "()I" } : Jvm.MethodName)) ∈ gW := gW_of (List.mem_of_getElem? (i := 639) (by decide +kernel)) rfl
theorem t_640 : (Jvm.Cond.methodLink "CardLinkLaw" (48 : Nat) ({ cls := "CardLink", name := "room", desc := "(I)I" } : Jvm.MethodName)) ∈ gW := gW_of (List.mem_of_getElem? (i := 640) (by decide +kernel)) rfl
theorem t_641 : (Jvm.Cond.instanceMethod ({ cls := "CardLink", name := "room", desc := "(I)I" } : Jvm.MethodName)) ∈ gW := gW_of (List.mem_of_getElem? (i := 641) (by decide +kernel)) rfl
theorem t_642 : (Jvm.Cond.selects "CardLink" ({ cls := "CardLink", name := "room", desc := "(I)I" } : Jvm.MethodName) ({ cls := "CardLink", name := "room", desc := "(I)I" } : Jvm.MethodName)) ∈ gW := gW_of (List.mem_of_getElem? (i := 642) (by decide +kernel)) rfl
theorem t_643 : (Jvm.Cond.code ({ cls := "CardLink", name := "room", desc := "(I)I" } : Jvm.MethodName) prog_1_method_9_code (2 : Nat) (Option.some Jvm.ClassFile.FieldType.int)) ∈ gW := gW_of (List.mem_append_right _ (List.mem_append_right _ (List.mem_append_right _ (List.mem_append_left _ (List.mem_of_getElem? (l := tables_1_3) (i := 63) rfl))))) rfl
theorem t_644 : (Jvm.Cond.methodLink "CardLink" (107 : Nat) ({ cls := "CardLink$Line", name := "startRoom", desc := "(I)V" } : Jvm.MethodName)) ∈ gW := gW_of (List.mem_of_getElem? (i := 644) (by decide +kernel)) rfl
theorem t_645 : (Jvm.Cond.instanceMethod ({ cls := "CardLink$Line", name := "startRoom", desc := "(I)V" } : Jvm.MethodName)) ∈ gW := gW_of (List.mem_of_getElem? (i := 645) (by decide +kernel)) rfl
theorem t_646 : (Jvm.Cond.selects "CardLink$Line" ({ cls := "CardLink$Line", name := "startRoom", desc := "(I)V" } : Jvm.MethodName) ({ cls := "CardLink$Line", name := "startRoom", desc := "(I)V" } : Jvm.MethodName)) ∈ gW := gW_of (List.mem_of_getElem? (i := 646) (by decide +kernel)) rfl
theorem t_647 : (Jvm.Cond.code ({ cls := "CardLink$Line", name := "startRoom", desc := "(I)V" } : Jvm.MethodName) prog_4_method_5_code (2 : Nat) (Option.none : Option Jvm.ClassFile.FieldType)) ∈ gW := gW_of (List.mem_append_right _ (List.mem_append_right _ (List.mem_append_right _ (List.mem_append_left _ (List.mem_of_getElem? (l := tables_1_3) (i := 67) rfl))))) rfl
theorem t_648 : (Jvm.Cond.methodLink "CardLinkLaw" (52 : Nat) ({ cls := "CardLink", name := "fault", desc := "(III)I" } : Jvm.MethodName)) ∈ gW := gW_of (List.mem_of_getElem? (i := 648) (by decide +kernel)) rfl
theorem t_649 : (Jvm.Cond.instanceMethod ({ cls := "CardLink", name := "fault", desc := "(III)I" } : Jvm.MethodName)) ∈ gW := gW_of (List.mem_of_getElem? (i := 649) (by decide +kernel)) rfl
theorem t_650 : (Jvm.Cond.selects "CardLink" ({ cls := "CardLink", name := "fault", desc := "(III)I" } : Jvm.MethodName) ({ cls := "CardLink", name := "fault", desc := "(III)I" } : Jvm.MethodName)) ∈ gW := gW_of (List.mem_of_getElem? (i := 650) (by decide +kernel)) rfl
theorem t_651 : (Jvm.Cond.code ({ cls := "CardLink", name := "fault", desc := "(III)I" } : Jvm.MethodName) prog_1_method_12_code (5 : Nat) (Option.some Jvm.ClassFile.FieldType.int)) ∈ gW := gW_of (List.mem_append_right _ (List.mem_append_right _ (List.mem_append_right _ (List.mem_append_left _ (List.mem_of_getElem? (l := tables_1_3) (i := 71) rfl))))) rfl
theorem t_652 : (Jvm.Cond.methodLink "CardLink" (118 : Nat) ({ cls := "CardLink$Wire", name := "isFull", desc := "()Z" } : Jvm.MethodName)) ∈ gW := gW_of (List.mem_of_getElem? (i := 652) (by decide +kernel)) rfl
theorem t_653 : (Jvm.Cond.instanceMethod ({ cls := "CardLink$Wire", name := "isFull", desc := "()Z" } : Jvm.MethodName)) ∈ gW := gW_of (List.mem_of_getElem? (i := 653) (by decide +kernel)) rfl
theorem t_654 : (Jvm.Cond.selects "CardLink$Wire" ({ cls := "CardLink$Wire", name := "isFull", desc := "()Z" } : Jvm.MethodName) ({ cls := "CardLink$Wire", name := "isFull", desc := "()Z" } : Jvm.MethodName)) ∈ gW := gW_of (List.mem_of_getElem? (i := 654) (by decide +kernel)) rfl
theorem t_655 : (Jvm.Cond.code ({ cls := "CardLink$Wire", name := "isFull", desc := "()Z" } : Jvm.MethodName) prog_8_method_6_code (1 : Nat) (Option.some Jvm.ClassFile.FieldType.boolean)) ∈ gW := gW_of (List.mem_append_right _ (List.mem_append_right _ (List.mem_append_right _ (List.mem_append_left _ (List.mem_of_getElem? (l := tables_1_3) (i := 75) rfl))))) rfl
theorem t_656 : (Jvm.Cond.methodLink "CardLink" (123 : Nat) ({ cls := "CardLink$Wire", name := "addFault", desc := "(III)V" } : Jvm.MethodName)) ∈ gW := gW_of (List.mem_of_getElem? (i := 656) (by decide +kernel)) rfl
theorem t_657 : (Jvm.Cond.instanceMethod ({ cls := "CardLink$Wire", name := "addFault", desc := "(III)V" } : Jvm.MethodName)) ∈ gW := gW_of (List.mem_of_getElem? (i := 657) (by decide +kernel)) rfl
theorem t_658 : (Jvm.Cond.selects "CardLink$Wire" ({ cls := "CardLink$Wire", name := "addFault", desc := "(III)V" } : Jvm.MethodName) ({ cls := "CardLink$Wire", name := "addFault", desc := "(III)V" } : Jvm.MethodName)) ∈ gW := gW_of (List.mem_of_getElem? (i := 658) (by decide +kernel)) rfl
theorem t_659 : (Jvm.Cond.code ({ cls := "CardLink$Wire", name := "addFault", desc := "(III)V" } : Jvm.MethodName) prog_8_method_7_code (6 : Nat) (Option.none : Option Jvm.ClassFile.FieldType)) ∈ gW := gW_of (List.mem_append_right _ (List.mem_append_right _ (List.mem_append_right _ (List.mem_append_left _ (List.mem_of_getElem? (l := tables_1_3) (i := 79) rfl))))) rfl
theorem t_660 : (Jvm.Cond.methodLink "CardLink$Wire" (43 : Nat) ({ cls := "CardLink$Wire", name := "makePlace", desc := "(I)V" } : Jvm.MethodName)) ∈ gW := gW_of (List.mem_of_getElem? (i := 660) (by decide +kernel)) rfl
theorem t_662 : (Jvm.Cond.instanceMethod ({ cls := "CardLink$Wire", name := "makePlace", desc := "(I)V" } : Jvm.MethodName)) ∈ gW := gW_of (List.mem_of_getElem? (i := 662) (by decide +kernel)) rfl
theorem t_663 : (Jvm.Cond.code ({ cls := "CardLink$Wire", name := "makePlace", desc := "(I)V" } : Jvm.MethodName) prog_8_method_8_code (3 : Nat) (Option.none : Option Jvm.ClassFile.FieldType)) ∈ gW := gW_of (List.mem_append_right _ (List.mem_append_right _ (List.mem_append_right _ (List.mem_append_left _ (List.mem_of_getElem? (l := tables_1_3) (i := 83) rfl))))) rfl
theorem t_664 : (Jvm.Cond.methodLink "CardLink$Wire" (47 : Nat) ({ cls := "java/lang/Math", name := "min", desc := "(II)I" } : Jvm.MethodName)) ∈ gW := gW_of (List.mem_of_getElem? (i := 664) (by decide +kernel)) rfl
theorem t_665 : (Jvm.Cond.methodLink "CardLink" (127 : Nat) ({ cls := "CardLink$Wire", name := "faults", desc := "()I" } : Jvm.MethodName)) ∈ gW := gW_of (List.mem_of_getElem? (i := 665) (by decide +kernel)) rfl
theorem t_666 : (Jvm.Cond.instanceMethod ({ cls := "CardLink$Wire", name := "faults", desc := "()I" } : Jvm.MethodName)) ∈ gW := gW_of (List.mem_of_getElem? (i := 666) (by decide +kernel)) rfl
theorem t_667 : (Jvm.Cond.selects "CardLink$Wire" ({ cls := "CardLink$Wire", name := "faults", desc := "()I" } : Jvm.MethodName) ({ cls := "CardLink$Wire", name := "faults", desc := "()I" } : Jvm.MethodName)) ∈ gW := gW_of (List.mem_of_getElem? (i := 667) (by decide +kernel)) rfl
theorem t_668 : (Jvm.Cond.code ({ cls := "CardLink$Wire", name := "faults", desc := "()I" } : Jvm.MethodName) prog_8_method_5_code (1 : Nat) (Option.some Jvm.ClassFile.FieldType.int)) ∈ gW := gW_of (List.mem_append_right _ (List.mem_append_right _ (List.mem_append_right _ (List.mem_append_left _ (List.mem_of_getElem? (l := tables_1_3) (i := 88) rfl))))) rfl
theorem t_669 : (Jvm.Cond.methodLink "CardLinkLaw" (57 : Nat) ({ cls := "CardLink", name := "repeats", desc := "(I)I" } : Jvm.MethodName)) ∈ gW := gW_of (List.mem_of_getElem? (i := 669) (by decide +kernel)) rfl
theorem t_670 : (Jvm.Cond.instanceMethod ({ cls := "CardLink", name := "repeats", desc := "(I)I" } : Jvm.MethodName)) ∈ gW := gW_of (List.mem_of_getElem? (i := 670) (by decide +kernel)) rfl
theorem t_671 : (Jvm.Cond.selects "CardLink" ({ cls := "CardLink", name := "repeats", desc := "(I)I" } : Jvm.MethodName) ({ cls := "CardLink", name := "repeats", desc := "(I)I" } : Jvm.MethodName)) ∈ gW := gW_of (List.mem_of_getElem? (i := 671) (by decide +kernel)) rfl
theorem t_672 : (Jvm.Cond.code ({ cls := "CardLink", name := "repeats", desc := "(I)I" } : Jvm.MethodName) prog_1_method_13_code (3 : Nat) (Option.some Jvm.ClassFile.FieldType.int)) ∈ gW := gW_of (List.mem_append_right _ (List.mem_append_right _ (List.mem_append_right _ (List.mem_append_left _ (List.mem_of_getElem? (l := tables_1_3) (i := 92) rfl))))) rfl
theorem t_673 : (Jvm.Cond.methodLink "CardLinkLaw" (61 : Nat) ({ cls := "CardLink", name := "step", desc := "(I)I" } : Jvm.MethodName)) ∈ gW := gW_of (List.mem_of_getElem? (i := 673) (by decide +kernel)) rfl
theorem t_674 : (Jvm.Cond.instanceMethod ({ cls := "CardLink", name := "step", desc := "(I)I" } : Jvm.MethodName)) ∈ gW := gW_of (List.mem_of_getElem? (i := 674) (by decide +kernel)) rfl
theorem t_675 : (Jvm.Cond.selects "CardLink" ({ cls := "CardLink", name := "step", desc := "(I)I" } : Jvm.MethodName) ({ cls := "CardLink", name := "step", desc := "(I)I" } : Jvm.MethodName)) ∈ gW := gW_of (List.mem_of_getElem? (i := 675) (by decide +kernel)) rfl
theorem t_676 : (Jvm.Cond.code ({ cls := "CardLink", name := "step", desc := "(I)I" } : Jvm.MethodName) prog_1_method_14_code (2 : Nat) (Option.some Jvm.ClassFile.FieldType.int)) ∈ gW := gW_of (List.mem_append_right _ (List.mem_append_right _ (List.mem_append_right _ (List.mem_append_left _ (List.mem_of_getElem? (l := tables_1_3) (i := 96) rfl))))) rfl
theorem t_677 : (Jvm.Cond.methodLink "CardLink" (133 : Nat) ({ cls := "CardLink", name := "onWay", desc := "()Z" } : Jvm.MethodName)) ∈ gW := gW_of (List.mem_of_getElem? (i := 677) (by decide +kernel)) rfl
theorem t_679 : (Jvm.Cond.instanceMethod ({ cls := "CardLink", name := "onWay", desc := "()Z" } : Jvm.MethodName)) ∈ gW := gW_of (List.mem_of_getElem? (i := 679) (by decide +kernel)) rfl
theorem t_680 : (Jvm.Cond.code ({ cls := "CardLink", name := "onWay", desc := "()Z" } : Jvm.MethodName) prog_1_method_11_code (1 : Nat) (Option.some Jvm.ClassFile.FieldType.boolean)) ∈ gW := gW_of (List.mem_append_right _ (List.mem_append_right _ (List.mem_append_right _ (List.mem_append_left _ (List.mem_of_getElem? (l := tables_1_3) (i := 100) rfl))))) rfl
theorem t_681 : (Jvm.Cond.methodLink "CardLink" (136 : Nat) ({ cls := "CardLink$Line", name := "run", desc := "(I)I" } : Jvm.MethodName)) ∈ gW := gW_of (List.mem_of_getElem? (i := 681) (by decide +kernel)) rfl
theorem t_682 : (Jvm.Cond.instanceMethod ({ cls := "CardLink$Line", name := "run", desc := "(I)I" } : Jvm.MethodName)) ∈ gW := gW_of (List.mem_of_getElem? (i := 682) (by decide +kernel)) rfl
theorem t_683 : (Jvm.Cond.selects "CardLink$Line" ({ cls := "CardLink$Line", name := "run", desc := "(I)I" } : Jvm.MethodName) ({ cls := "CardLink$Line", name := "run", desc := "(I)I" } : Jvm.MethodName)) ∈ gW := gW_of (List.mem_of_getElem? (i := 683) (by decide +kernel)) rfl
theorem t_684 : (Jvm.Cond.code ({ cls := "CardLink$Line", name := "run", desc := "(I)I" } : Jvm.MethodName) prog_4_method_9_code (4 : Nat) (Option.some Jvm.ClassFile.FieldType.int)) ∈ gW := gW_of (List.mem_append_right _ (List.mem_append_right _ (List.mem_append_right _ (List.mem_append_left _ (List.mem_of_getElem? (l := tables_1_3) (i := 104) rfl))))) rfl
theorem t_685 : (Jvm.Cond.methodLink "CardLink$Line" (121 : Nat) ({ cls := "CardLink$Line", name := "blocksSent", desc := "()I" } : Jvm.MethodName)) ∈ gW := gW_of (List.mem_of_getElem? (i := 685) (by decide +kernel)) rfl
theorem t_686 : (Jvm.Cond.instanceMethod ({ cls := "CardLink$Line", name := "blocksSent", desc := "()I" } : Jvm.MethodName)) ∈ gW := gW_of (List.mem_of_getElem? (i := 686) (by decide +kernel)) rfl
theorem t_687 : (Jvm.Cond.selects "CardLink$Line" ({ cls := "CardLink$Line", name := "blocksSent", desc := "()I" } : Jvm.MethodName) ({ cls := "CardLink$Line", name := "blocksSent", desc := "()I" } : Jvm.MethodName)) ∈ gW := gW_of (List.mem_of_getElem? (i := 687) (by decide +kernel)) rfl
theorem t_688 : (Jvm.Cond.code ({ cls := "CardLink$Line", name := "blocksSent", desc := "()I" } : Jvm.MethodName) prog_4_method_8_code (1 : Nat) (Option.some Jvm.ClassFile.FieldType.int)) ∈ gW := gW_of (List.mem_append_right _ (List.mem_append_right _ (List.mem_append_right _ (List.mem_append_left _ (List.mem_of_getElem? (l := tables_1_3) (i := 108) rfl))))) rfl
theorem t_689 : (Jvm.Cond.methodLink "CardLink$Line" (118 : Nat) ({ cls := "CardLink$Side", name := "blocksSent", desc := "()I" } : Jvm.MethodName)) ∈ gW := gW_of (List.mem_of_getElem? (i := 689) (by decide +kernel)) rfl
theorem t_690 : (Jvm.Cond.instanceMethod ({ cls := "CardLink$Side", name := "blocksSent", desc := "()I" } : Jvm.MethodName)) ∈ gW := gW_of (List.mem_of_getElem? (i := 690) (by decide +kernel)) rfl
theorem t_691 : (Jvm.Cond.selects "CardLink$Side" ({ cls := "CardLink$Side", name := "blocksSent", desc := "()I" } : Jvm.MethodName) ({ cls := "CardLink$Side", name := "blocksSent", desc := "()I" } : Jvm.MethodName)) ∈ gW := gW_of (List.mem_of_getElem? (i := 691) (by decide +kernel)) rfl
theorem t_692 : (Jvm.Cond.code ({ cls := "CardLink$Side", name := "blocksSent", desc := "()I" } : Jvm.MethodName) prog_7_method_19_code (1 : Nat) (Option.some Jvm.ClassFile.FieldType.int)) ∈ gW := gW_of (List.mem_append_right _ (List.mem_append_right _ (List.mem_append_right _ (List.mem_append_left _ (List.mem_of_getElem? (l := tables_1_3) (i := 112) rfl))))) rfl
theorem t_693 : (Jvm.Cond.methodLink "CardLink$Line" (122 : Nat) ({ cls := "CardLink$Line", name := "turn", desc := "()V" } : Jvm.MethodName)) ∈ gW := gW_of (List.mem_of_getElem? (i := 693) (by decide +kernel)) rfl
theorem t_694 : (Jvm.Cond.instanceMethod ({ cls := "CardLink$Line", name := "turn", desc := "()V" } : Jvm.MethodName)) ∈ gW := gW_of (List.mem_of_getElem? (i := 694) (by decide +kernel)) rfl
theorem t_695 : (Jvm.Cond.selects "CardLink$Line" ({ cls := "CardLink$Line", name := "turn", desc := "()V" } : Jvm.MethodName) ({ cls := "CardLink$Line", name := "turn", desc := "()V" } : Jvm.MethodName)) ∈ gW := gW_of (List.mem_of_getElem? (i := 695) (by decide +kernel)) rfl
theorem t_696 : (Jvm.Cond.code ({ cls := "CardLink$Line", name := "turn", desc := "()V" } : Jvm.MethodName) prog_4_method_10_code (2 : Nat) (Option.none : Option Jvm.ClassFile.FieldType)) ∈ gW := gW_of (List.mem_append_right _ (List.mem_append_right _ (List.mem_append_right _ (List.mem_append_left _ (List.mem_of_getElem? (l := tables_1_3) (i := 116) rfl))))) rfl
theorem t_697 : (Jvm.Cond.methodLink "CardLink$Line" (125 : Nat) ({ cls := "CardLink$Line", name := "firstKind", desc := "()I" } : Jvm.MethodName)) ∈ gW := gW_of (List.mem_of_getElem? (i := 697) (by decide +kernel)) rfl
theorem t_699 : (Jvm.Cond.instanceMethod ({ cls := "CardLink$Line", name := "firstKind", desc := "()I" } : Jvm.MethodName)) ∈ gW := gW_of (List.mem_of_getElem? (i := 699) (by decide +kernel)) rfl
theorem t_700 : (Jvm.Cond.code ({ cls := "CardLink$Line", name := "firstKind", desc := "()I" } : Jvm.MethodName) prog_4_method_11_code (1 : Nat) (Option.some Jvm.ClassFile.FieldType.int)) ∈ gW := gW_of (List.mem_append_right _ (List.mem_append_right _ (List.mem_append_right _ (List.mem_append_left _ (List.mem_of_getElem? (l := tables_1_3) (i := 120) rfl))))) rfl
theorem t_701 : (Jvm.Cond.methodLink "CardLink$Line" (145 : Nat) ({ cls := "CardLink$Side", name := "ask", desc := "(II)I" } : Jvm.MethodName)) ∈ gW := gW_of (List.mem_of_getElem? (i := 701) (by decide +kernel)) rfl
theorem t_702 : (Jvm.Cond.instanceMethod ({ cls := "CardLink$Side", name := "ask", desc := "(II)I" } : Jvm.MethodName)) ∈ gW := gW_of (List.mem_of_getElem? (i := 702) (by decide +kernel)) rfl
theorem t_703 : (Jvm.Cond.selects "CardLink$Side" ({ cls := "CardLink$Side", name := "ask", desc := "(II)I" } : Jvm.MethodName) ({ cls := "CardLink$Side", name := "ask", desc := "(II)I" } : Jvm.MethodName)) ∈ gW := gW_of (List.mem_of_getElem? (i := 703) (by decide +kernel)) rfl
theorem t_704 : (Jvm.Cond.code ({ cls := "CardLink$Side", name := "ask", desc := "(II)I" } : Jvm.MethodName) prog_7_method_16_code (3 : Nat) (Option.some Jvm.ClassFile.FieldType.int)) ∈ gW := gW_of (List.mem_append_right _ (List.mem_append_right _ (List.mem_append_right _ (List.mem_append_left _ (List.mem_of_getElem? (l := tables_1_3) (i := 124) rfl))))) rfl
theorem t_705 : (Jvm.Cond.methodLink "CardLink$Side" (101 : Nat) ({ cls := "CardLink$Side", name := "requestKind", desc := "()I" } : Jvm.MethodName)) ∈ gW := gW_of (List.mem_of_getElem? (i := 705) (by decide +kernel)) rfl
theorem t_706 : (Jvm.Cond.instanceMethod ({ cls := "CardLink$Side", name := "requestKind", desc := "()I" } : Jvm.MethodName)) ∈ gW := gW_of (List.mem_of_getElem? (i := 706) (by decide +kernel)) rfl
theorem t_707 : (Jvm.Cond.selects "CardLink$Side" ({ cls := "CardLink$Side", name := "requestKind", desc := "()I" } : Jvm.MethodName) ({ cls := "CardLink$Side", name := "requestKind", desc := "()I" } : Jvm.MethodName)) ∈ gW := gW_of (List.mem_of_getElem? (i := 707) (by decide +kernel)) rfl
theorem t_708 : (Jvm.Cond.code ({ cls := "CardLink$Side", name := "requestKind", desc := "()I" } : Jvm.MethodName) prog_7_method_15_code (1 : Nat) (Option.some Jvm.ClassFile.FieldType.int)) ∈ gW := gW_of (List.mem_append_right _ (List.mem_append_right _ (List.mem_append_right _ (List.mem_append_left _ (List.mem_of_getElem? (l := tables_1_3) (i := 128) rfl))))) rfl
theorem t_709 : (Jvm.Cond.methodLink "CardLink$Line" (128 : Nat) ({ cls := "CardLink$Line", name := "readerKind", desc := "()I" } : Jvm.MethodName)) ∈ gW := gW_of (List.mem_of_getElem? (i := 709) (by decide +kernel)) rfl
theorem t_711 : (Jvm.Cond.instanceMethod ({ cls := "CardLink$Line", name := "readerKind", desc := "()I" } : Jvm.MethodName)) ∈ gW := gW_of (List.mem_of_getElem? (i := 711) (by decide +kernel)) rfl
theorem t_712 : (Jvm.Cond.code ({ cls := "CardLink$Line", name := "readerKind", desc := "()I" } : Jvm.MethodName) prog_4_method_13_code (2 : Nat) (Option.some Jvm.ClassFile.FieldType.int)) ∈ gW := gW_of (List.mem_append_right _ (List.mem_append_right _ (List.mem_append_right _ (List.mem_append_left _ (List.mem_of_getElem? (l := tables_1_3) (i := 132) rfl))))) rfl
theorem t_713 : (Jvm.Cond.methodLink "CardLink$Line" (152 : Nat) ({ cls := "CardLink$Line", name := "onBroken", desc := "(LCardLink$Side;)I" } : Jvm.MethodName)) ∈ gW := gW_of (List.mem_of_getElem? (i := 713) (by decide +kernel)) rfl
theorem t_715 : (Jvm.Cond.instanceMethod ({ cls := "CardLink$Line", name := "onBroken", desc := "(LCardLink$Side;)I" } : Jvm.MethodName)) ∈ gW := gW_of (List.mem_of_getElem? (i := 715) (by decide +kernel)) rfl
theorem t_716 : (Jvm.Cond.code ({ cls := "CardLink$Line", name := "onBroken", desc := "(LCardLink$Side;)I" } : Jvm.MethodName) prog_4_method_15_code (2 : Nat) (Option.some Jvm.ClassFile.FieldType.int)) ∈ gW := gW_of (List.mem_append_right _ (List.mem_append_right _ (List.mem_append_right _ (List.mem_append_left _ (List.mem_of_getElem? (l := tables_1_3) (i := 136) rfl))))) rfl
theorem t_717 : (Jvm.Cond.methodLink "CardLink$Line" (188 : Nat) ({ cls := "CardLink$Side", name := "requestKind", desc := "()I" } : Jvm.MethodName)) ∈ gW := gW_of (List.mem_of_getElem? (i := 717) (by decide +kernel)) rfl
theorem t_718 : (Jvm.Cond.methodLink "CardLink$Line" (191 : Nat) ({ cls := "CardLink$Side", name := "receipt", desc := "(I)I" } : Jvm.MethodName)) ∈ gW := gW_of (List.mem_of_getElem? (i := 718) (by decide +kernel)) rfl
theorem t_719 : (Jvm.Cond.instanceMethod ({ cls := "CardLink$Side", name := "receipt", desc := "(I)I" } : Jvm.MethodName)) ∈ gW := gW_of (List.mem_of_getElem? (i := 719) (by decide +kernel)) rfl
theorem t_720 : (Jvm.Cond.selects "CardLink$Side" ({ cls := "CardLink$Side", name := "receipt", desc := "(I)I" } : Jvm.MethodName) ({ cls := "CardLink$Side", name := "receipt", desc := "(I)I" } : Jvm.MethodName)) ∈ gW := gW_of (List.mem_of_getElem? (i := 720) (by decide +kernel)) rfl
theorem t_721 : (Jvm.Cond.code ({ cls := "CardLink$Side", name := "receipt", desc := "(I)I" } : Jvm.MethodName) prog_7_method_17_code (2 : Nat) (Option.some Jvm.ClassFile.FieldType.int)) ∈ gW := gW_of (List.mem_append_right _ (List.mem_append_right _ (List.mem_append_right _ (List.mem_append_left _ (List.mem_of_getElem? (l := tables_1_3) (i := 141) rfl))))) rfl
theorem t_722 : (Jvm.Cond.methodLink "CardLink$Line" (156 : Nat) ({ cls := "CardLink$Row", name := "at", desc := "(I)I" } : Jvm.MethodName)) ∈ gW := gW_of (List.mem_of_getElem? (i := 722) (by decide +kernel)) rfl
theorem t_723 : (Jvm.Cond.methodLink "CardLink$Line" (159 : Nat) ({ cls := "CardLink$Line", name := "readerOnAnswer", desc := "()I" } : Jvm.MethodName)) ∈ gW := gW_of (List.mem_of_getElem? (i := 723) (by decide +kernel)) rfl
theorem t_725 : (Jvm.Cond.instanceMethod ({ cls := "CardLink$Line", name := "readerOnAnswer", desc := "()I" } : Jvm.MethodName)) ∈ gW := gW_of (List.mem_of_getElem? (i := 725) (by decide +kernel)) rfl
theorem t_726 : (Jvm.Cond.code ({ cls := "CardLink$Line", name := "readerOnAnswer", desc := "()I" } : Jvm.MethodName) prog_4_method_18_code (2 : Nat) (Option.some Jvm.ClassFile.FieldType.int)) ∈ gW := gW_of (List.mem_append_right _ (List.mem_append_right _ (List.mem_append_right _ (List.mem_append_left _ (List.mem_of_getElem? (l := tables_1_3) (i := 146) rfl))))) rfl
theorem t_727 : (Jvm.Cond.methodLink "CardLink$Line" (197 : Nat) ({ cls := "CardLink$Line", name := "isAnswerTo", desc := "(LCardLink$Side;)Z" } : Jvm.MethodName)) ∈ gW := gW_of (List.mem_of_getElem? (i := 727) (by decide +kernel)) rfl
theorem t_729 : (Jvm.Cond.instanceMethod ({ cls := "CardLink$Line", name := "isAnswerTo", desc := "(LCardLink$Side;)Z" } : Jvm.MethodName)) ∈ gW := gW_of (List.mem_of_getElem? (i := 729) (by decide +kernel)) rfl
theorem t_730 : (Jvm.Cond.code ({ cls := "CardLink$Line", name := "isAnswerTo", desc := "(LCardLink$Side;)Z" } : Jvm.MethodName) prog_4_method_17_code (2 : Nat) (Option.some Jvm.ClassFile.FieldType.boolean)) ∈ gW := gW_of (List.mem_append_right _ (List.mem_append_right _ (List.mem_append_right _ (List.mem_append_left _ (List.mem_of_getElem? (l := tables_1_3) (i := 150) rfl))))) rfl
theorem t_731 : (Jvm.Cond.methodLink "CardLink$Line" (182 : Nat) ({ cls := "CardLink$Side", name := "emptyAll", desc := "()V" } : Jvm.MethodName)) ∈ gW := gW_of (List.mem_of_getElem? (i := 731) (by decide +kernel)) rfl
theorem t_732 : (Jvm.Cond.methodLink "CardLink$Line" (173 : Nat) ({ cls := "CardLink$Line", name := "finish", desc := "(I)I" } : Jvm.MethodName)) ∈ gW := gW_of (List.mem_of_getElem? (i := 732) (by decide +kernel)) rfl
theorem t_734 : (Jvm.Cond.instanceMethod ({ cls := "CardLink$Line", name := "finish", desc := "(I)I" } : Jvm.MethodName)) ∈ gW := gW_of (List.mem_of_getElem? (i := 734) (by decide +kernel)) rfl
theorem t_735 : (Jvm.Cond.code ({ cls := "CardLink$Line", name := "finish", desc := "(I)I" } : Jvm.MethodName) prog_4_method_19_code (2 : Nat) (Option.some Jvm.ClassFile.FieldType.int)) ∈ gW := gW_of (List.mem_append_right _ (List.mem_append_right _ (List.mem_append_right _ (List.mem_append_left _ (List.mem_of_getElem? (l := tables_1_3) (i := 155) rfl))))) rfl
theorem t_736 : (Jvm.Cond.methodLink "CardLink$Line" (162 : Nat) ({ cls := "CardLink$Line", name := "onRequest", desc := "(LCardLink$Side;LCardLink$Side;I)I" } : Jvm.MethodName)) ∈ gW := gW_of (List.mem_of_getElem? (i := 736) (by decide +kernel)) rfl
theorem t_738 : (Jvm.Cond.instanceMethod ({ cls := "CardLink$Line", name := "onRequest", desc := "(LCardLink$Side;LCardLink$Side;I)I" } : Jvm.MethodName)) ∈ gW := gW_of (List.mem_of_getElem? (i := 738) (by decide +kernel)) rfl
theorem t_739 : (Jvm.Cond.code ({ cls := "CardLink$Line", name := "onRequest", desc := "(LCardLink$Side;LCardLink$Side;I)I" } : Jvm.MethodName) prog_4_method_23_code (5 : Nat) (Option.some Jvm.ClassFile.FieldType.int)) ∈ gW := gW_of (List.mem_append_right _ (List.mem_append_right _ (List.mem_append_right _ (List.mem_append_left _ (List.mem_of_getElem? (l := tables_1_3) (i := 159) rfl))))) rfl
theorem t_740 : (Jvm.Cond.methodLink "CardLink$Line" (232 : Nat) ({ cls := "CardLink$Side", name := "breakOff", desc := "()V" } : Jvm.MethodName)) ∈ gW := gW_of (List.mem_of_getElem? (i := 740) (by decide +kernel)) rfl
theorem t_741 : (Jvm.Cond.instanceMethod ({ cls := "CardLink$Side", name := "breakOff", desc := "()V" } : Jvm.MethodName)) ∈ gW := gW_of (List.mem_of_getElem? (i := 741) (by decide +kernel)) rfl
theorem t_742 : (Jvm.Cond.selects "CardLink$Side" ({ cls := "CardLink$Side", name := "breakOff", desc := "()V" } : Jvm.MethodName) ({ cls := "CardLink$Side", name := "breakOff", desc := "()V" } : Jvm.MethodName)) ∈ gW := gW_of (List.mem_of_getElem? (i := 742) (by decide +kernel)) rfl
theorem t_743 : (Jvm.Cond.code ({ cls := "CardLink$Side", name := "breakOff", desc := "()V" } : Jvm.MethodName) prog_7_method_5_code (1 : Nat) (Option.none : Option Jvm.ClassFile.FieldType)) ∈ gW := gW_of (List.mem_append_right _ (List.mem_append_right _ (List.mem_append_right _ (List.mem_append_left _ (List.mem_of_getElem? (l := tables_1_3) (i := 163) rfl))))) rfl
theorem t_744 : (Jvm.Cond.methodLink "CardLink$Side" (75 : Nat) ({ cls := "CardLink$Side", name := "passPending", desc := "()V" } : Jvm.MethodName)) ∈ gW := gW_of (List.mem_of_getElem? (i := 744) (by decide +kernel)) rfl
theorem t_745 : (Jvm.Cond.instanceMethod ({ cls := "CardLink$Side", name := "passPending", desc := "()V" } : Jvm.MethodName)) ∈ gW := gW_of (List.mem_of_getElem? (i := 745) (by decide +kernel)) rfl
theorem t_746 : (Jvm.Cond.selects "CardLink$Side" ({ cls := "CardLink$Side", name := "passPending", desc := "()V" } : Jvm.MethodName) ({ cls := "CardLink$Side", name := "passPending", desc := "()V" } : Jvm.MethodName)) ∈ gW := gW_of (List.mem_of_getElem? (i := 746) (by decide +kernel)) rfl
theorem t_747 : (Jvm.Cond.code ({ cls := "CardLink$Side", name := "passPending", desc := "()V" } : Jvm.MethodName) prog_7_method_11_code (1 : Nat) (Option.none : Option Jvm.ClassFile.FieldType)) ∈ gW := gW_of (List.mem_append_right _ (List.mem_append_right _ (List.mem_append_right _ (List.mem_append_left _ (List.mem_of_getElem? (l := tables_1_3) (i := 167) rfl))))) rfl
theorem t_748 : (Jvm.Cond.methodLink "CardLink$Line" (211 : Nat) ({ cls := "CardLink$Line", name := "refuse", desc := "(LCardLink$Side;)I" } : Jvm.MethodName)) ∈ gW := gW_of (List.mem_of_getElem? (i := 748) (by decide +kernel)) rfl
theorem t_750 : (Jvm.Cond.instanceMethod ({ cls := "CardLink$Line", name := "refuse", desc := "(LCardLink$Side;)I" } : Jvm.MethodName)) ∈ gW := gW_of (List.mem_of_getElem? (i := 750) (by decide +kernel)) rfl
theorem t_751 : (Jvm.Cond.code ({ cls := "CardLink$Line", name := "refuse", desc := "(LCardLink$Side;)I" } : Jvm.MethodName) prog_4_method_16_code (2 : Nat) (Option.some Jvm.ClassFile.FieldType.int)) ∈ gW := gW_of (List.mem_append_right _ (List.mem_append_right _ (List.mem_append_right _ (List.mem_append_left _ (List.mem_of_getElem? (l := tables_1_3) (i := 171) rfl))))) rfl
theorem t_752 : (Jvm.Cond.methodLink "CardLink$Line" (166 : Nat) ({ cls := "CardLink$Line", name := "onI", desc := "(LCardLink$Side;I)I" } : Jvm.MethodName)) ∈ gW := gW_of (List.mem_of_getElem? (i := 752) (by decide +kernel)) rfl
theorem t_754 : (Jvm.Cond.instanceMethod ({ cls := "CardLink$Line", name := "onI", desc := "(LCardLink$Side;I)I" } : Jvm.MethodName)) ∈ gW := gW_of (List.mem_of_getElem? (i := 754) (by decide +kernel)) rfl
theorem t_755 : (Jvm.Cond.code ({ cls := "CardLink$Line", name := "onI", desc := "(LCardLink$Side;I)I" } : Jvm.MethodName) prog_4_method_21_code (3 : Nat) (Option.some Jvm.ClassFile.FieldType.int)) ∈ gW := gW_of (List.mem_append_right _ (List.mem_append_right _ (List.mem_append_right _ (List.mem_append_left _ (List.mem_of_getElem? (l := tables_1_3) (i := 175) rfl))))) rfl
theorem t_756 : (Jvm.Cond.methodLink "CardLink$Line" (207 : Nat) ({ cls := "CardLink$Side", name := "pendingHasMore", desc := "()Z" } : Jvm.MethodName)) ∈ gW := gW_of (List.mem_of_getElem? (i := 756) (by decide +kernel)) rfl
theorem t_757 : (Jvm.Cond.instanceMethod ({ cls := "CardLink$Side", name := "pendingHasMore", desc := "()Z" } : Jvm.MethodName)) ∈ gW := gW_of (List.mem_of_getElem? (i := 757) (by decide +kernel)) rfl
theorem t_758 : (Jvm.Cond.selects "CardLink$Side" ({ cls := "CardLink$Side", name := "pendingHasMore", desc := "()Z" } : Jvm.MethodName) ({ cls := "CardLink$Side", name := "pendingHasMore", desc := "()Z" } : Jvm.MethodName)) ∈ gW := gW_of (List.mem_of_getElem? (i := 758) (by decide +kernel)) rfl
theorem t_759 : (Jvm.Cond.code ({ cls := "CardLink$Side", name := "pendingHasMore", desc := "()Z" } : Jvm.MethodName) prog_7_method_10_code (1 : Nat) (Option.some Jvm.ClassFile.FieldType.boolean)) ∈ gW := gW_of (List.mem_append_right _ (List.mem_append_right _ (List.mem_append_right _ (List.mem_append_left _ (List.mem_of_getElem? (l := tables_1_3) (i := 179) rfl))))) rfl
theorem t_760 : (Jvm.Cond.methodLink "CardLink$Line" (214 : Nat) ({ cls := "CardLink$Side", name := "passPending", desc := "()V" } : Jvm.MethodName)) ∈ gW := gW_of (List.mem_of_getElem? (i := 760) (by decide +kernel)) rfl
theorem t_761 : (Jvm.Cond.methodLink "CardLink$Line" (217 : Nat) ({ cls := "CardLink$Side", name := "takeInf", desc := "(LCardLink$Row;)V" } : Jvm.MethodName)) ∈ gW := gW_of (List.mem_of_getElem? (i := 761) (by decide +kernel)) rfl
theorem t_762 : (Jvm.Cond.instanceMethod ({ cls := "CardLink$Side", name := "takeInf", desc := "(LCardLink$Row;)V" } : Jvm.MethodName)) ∈ gW := gW_of (List.mem_of_getElem? (i := 762) (by decide +kernel)) rfl
theorem t_763 : (Jvm.Cond.selects "CardLink$Side" ({ cls := "CardLink$Side", name := "takeInf", desc := "(LCardLink$Row;)V" } : Jvm.MethodName) ({ cls := "CardLink$Side", name := "takeInf", desc := "(LCardLink$Row;)V" } : Jvm.MethodName)) ∈ gW := gW_of (List.mem_of_getElem? (i := 763) (by decide +kernel)) rfl
theorem t_764 : (Jvm.Cond.code ({ cls := "CardLink$Side", name := "takeInf", desc := "(LCardLink$Row;)V" } : Jvm.MethodName) prog_7_method_12_code (3 : Nat) (Option.none : Option Jvm.ClassFile.FieldType)) ∈ gW := gW_of (List.mem_append_right _ (List.mem_append_right _ (List.mem_append_right _ (List.mem_append_left _ (List.mem_of_getElem? (l := tables_1_3) (i := 184) rfl))))) rfl
theorem t_765 : (Jvm.Cond.methodLink "CardLink$Side" (78 : Nat) ({ cls := "CardLink$Row", name := "size", desc := "()I" } : Jvm.MethodName)) ∈ gW := gW_of (List.mem_of_getElem? (i := 765) (by decide +kernel)) rfl
theorem t_766 : (Jvm.Cond.methodLink "CardLink$Side" (94 : Nat) ({ cls := "CardLink$Row", name := "at", desc := "(I)I" } : Jvm.MethodName)) ∈ gW := gW_of (List.mem_of_getElem? (i := 766) (by decide +kernel)) rfl
theorem t_767 : (Jvm.Cond.methodLink "CardLink$Side" (98 : Nat) ({ cls := "CardLink$Row", name := "add", desc := "(I)V" } : Jvm.MethodName)) ∈ gW := gW_of (List.mem_of_getElem? (i := 767) (by decide +kernel)) rfl
theorem t_768 : (Jvm.Cond.methodLink "CardLink$Line" (220 : Nat) ({ cls := "CardLink$Side", name := "takeWhole", desc := "()V" } : Jvm.MethodName)) ∈ gW := gW_of (List.mem_of_getElem? (i := 768) (by decide +kernel)) rfl
theorem t_769 : (Jvm.Cond.instanceMethod ({ cls := "CardLink$Side", name := "takeWhole", desc := "()V" } : Jvm.MethodName)) ∈ gW := gW_of (List.mem_of_getElem? (i := 769) (by decide +kernel)) rfl
theorem t_770 : (Jvm.Cond.selects "CardLink$Side" ({ cls := "CardLink$Side", name := "takeWhole", desc := "()V" } : Jvm.MethodName) ({ cls := "CardLink$Side", name := "takeWhole", desc := "()V" } : Jvm.MethodName)) ∈ gW := gW_of (List.mem_of_getElem? (i := 770) (by decide +kernel)) rfl
theorem t_771 : (Jvm.Cond.code ({ cls := "CardLink$Side", name := "takeWhole", desc := "()V" } : Jvm.MethodName) prog_7_method_13_code (1 : Nat) (Option.none : Option Jvm.ClassFile.FieldType)) ∈ gW := gW_of (List.mem_append_right _ (List.mem_append_right _ (List.mem_append_right _ (List.mem_append_left _ (List.mem_of_getElem? (l := tables_1_3) (i := 191) rfl))))) rfl
theorem t_772 : (Jvm.Cond.methodLink "CardLink$Side" (71 : Nat) ({ cls := "CardLink$Row", name := "copy", desc := "(LCardLink$Row;)V" } : Jvm.MethodName)) ∈ gW := gW_of (List.mem_of_getElem? (i := 772) (by decide +kernel)) rfl
theorem t_773 : (Jvm.Cond.methodLink "CardLink$Line" (170 : Nat) ({ cls := "CardLink$Side", name := "takeEmpty", desc := "()V" } : Jvm.MethodName)) ∈ gW := gW_of (List.mem_of_getElem? (i := 773) (by decide +kernel)) rfl
theorem t_774 : (Jvm.Cond.instanceMethod ({ cls := "CardLink$Side", name := "takeEmpty", desc := "()V" } : Jvm.MethodName)) ∈ gW := gW_of (List.mem_of_getElem? (i := 774) (by decide +kernel)) rfl
theorem t_775 : (Jvm.Cond.selects "CardLink$Side" ({ cls := "CardLink$Side", name := "takeEmpty", desc := "()V" } : Jvm.MethodName) ({ cls := "CardLink$Side", name := "takeEmpty", desc := "()V" } : Jvm.MethodName)) ∈ gW := gW_of (List.mem_of_getElem? (i := 775) (by decide +kernel)) rfl
theorem t_776 : (Jvm.Cond.code ({ cls := "CardLink$Side", name := "takeEmpty", desc := "()V" } : Jvm.MethodName) prog_7_method_14_code (1 : Nat) (Option.none : Option Jvm.ClassFile.FieldType)) ∈ gW := gW_of (List.mem_append_right _ (List.mem_append_right _ (List.mem_append_right _ (List.mem_append_left _ (List.mem_of_getElem? (l := tables_1_3) (i := 196) rfl))))) rfl
theorem t_777 : (Jvm.Cond.methodLink "CardLink$Line" (176 : Nat) ({ cls := "CardLink$Line", name := "onReceipt", desc := "(LCardLink$Side;I)I" } : Jvm.MethodName)) ∈ gW := gW_of (List.mem_of_getElem? (i := 777) (by decide +kernel)) rfl
theorem t_779 : (Jvm.Cond.instanceMethod ({ cls := "CardLink$Line", name := "onReceipt", desc := "(LCardLink$Side;I)I" } : Jvm.MethodName)) ∈ gW := gW_of (List.mem_of_getElem? (i := 779) (by decide +kernel)) rfl
theorem t_780 : (Jvm.Cond.code ({ cls := "CardLink$Line", name := "onReceipt", desc := "(LCardLink$Side;I)I" } : Jvm.MethodName) prog_4_method_22_code (4 : Nat) (Option.some Jvm.ClassFile.FieldType.int)) ∈ gW := gW_of (List.mem_append_right _ (List.mem_append_right _ (List.mem_append_right _ (List.mem_append_left _ (List.mem_of_getElem? (l := tables_1_3) (i := 200) rfl))))) rfl
theorem t_781 : (Jvm.Cond.methodLink "CardLink$Line" (223 : Nat) ({ cls := "CardLink$Side", name := "hasPending", desc := "()Z" } : Jvm.MethodName)) ∈ gW := gW_of (List.mem_of_getElem? (i := 781) (by decide +kernel)) rfl
theorem t_782 : (Jvm.Cond.instanceMethod ({ cls := "CardLink$Side", name := "hasPending", desc := "()Z" } : Jvm.MethodName)) ∈ gW := gW_of (List.mem_of_getElem? (i := 782) (by decide +kernel)) rfl
theorem t_783 : (Jvm.Cond.selects "CardLink$Side" ({ cls := "CardLink$Side", name := "hasPending", desc := "()Z" } : Jvm.MethodName) ({ cls := "CardLink$Side", name := "hasPending", desc := "()Z" } : Jvm.MethodName)) ∈ gW := gW_of (List.mem_of_getElem? (i := 783) (by decide +kernel)) rfl
theorem t_784 : (Jvm.Cond.code ({ cls := "CardLink$Side", name := "hasPending", desc := "()Z" } : Jvm.MethodName) prog_7_method_9_code (1 : Nat) (Option.some Jvm.ClassFile.FieldType.boolean)) ∈ gW := gW_of (List.mem_append_right _ (List.mem_append_right _ (List.mem_append_right _ (List.mem_append_left _ (List.mem_of_getElem? (l := tables_1_3) (i := 204) rfl))))) rfl
theorem t_785 : (Jvm.Cond.methodLink "CardLink$Line" (229 : Nat) ({ cls := "CardLink$Side", name := "pendingKind", desc := "()I" } : Jvm.MethodName)) ∈ gW := gW_of (List.mem_of_getElem? (i := 785) (by decide +kernel)) rfl
theorem t_786 : (Jvm.Cond.instanceMethod ({ cls := "CardLink$Side", name := "pendingKind", desc := "()I" } : Jvm.MethodName)) ∈ gW := gW_of (List.mem_of_getElem? (i := 786) (by decide +kernel)) rfl
theorem t_787 : (Jvm.Cond.selects "CardLink$Side" ({ cls := "CardLink$Side", name := "pendingKind", desc := "()I" } : Jvm.MethodName) ({ cls := "CardLink$Side", name := "pendingKind", desc := "()I" } : Jvm.MethodName)) ∈ gW := gW_of (List.mem_of_getElem? (i := 787) (by decide +kernel)) rfl
theorem t_788 : (Jvm.Cond.code ({ cls := "CardLink$Side", name := "pendingKind", desc := "()I" } : Jvm.MethodName) prog_7_method_7_code (1 : Nat) (Option.some Jvm.ClassFile.FieldType.int)) ∈ gW := gW_of (List.mem_append_right _ (List.mem_append_right _ (List.mem_append_right _ (List.mem_append_left _ (List.mem_of_getElem? (l := tables_1_3) (i := 208) rfl))))) rfl
theorem t_789 : (Jvm.Cond.methodLink "CardLink$Line" (131 : Nat) ({ cls := "CardLink$Line", name := "countTries", desc := "(I)I" } : Jvm.MethodName)) ∈ gW := gW_of (List.mem_of_getElem? (i := 789) (by decide +kernel)) rfl
theorem t_791 : (Jvm.Cond.instanceMethod ({ cls := "CardLink$Line", name := "countTries", desc := "(I)I" } : Jvm.MethodName)) ∈ gW := gW_of (List.mem_of_getElem? (i := 791) (by decide +kernel)) rfl
theorem t_792 : (Jvm.Cond.code ({ cls := "CardLink$Line", name := "countTries", desc := "(I)I" } : Jvm.MethodName) prog_4_method_12_code (2 : Nat) (Option.some Jvm.ClassFile.FieldType.int)) ∈ gW := gW_of (List.mem_append_right _ (List.mem_append_right _ (List.mem_append_right _ (List.mem_append_left _ (List.mem_of_getElem? (l := tables_1_3) (i := 212) rfl))))) rfl
theorem t_793 : (Jvm.Cond.methodLink "CardLink$Line" (135 : Nat) ({ cls := "CardLink$Line", name := "send", desc := "(LCardLink$Side;LCardLink$Side;I)V" } : Jvm.MethodName)) ∈ gW := gW_of (List.mem_of_getElem? (i := 793) (by decide +kernel)) rfl
theorem t_795 : (Jvm.Cond.instanceMethod ({ cls := "CardLink$Line", name := "send", desc := "(LCardLink$Side;LCardLink$Side;I)V" } : Jvm.MethodName)) ∈ gW := gW_of (List.mem_of_getElem? (i := 795) (by decide +kernel)) rfl
theorem t_796 : (Jvm.Cond.code ({ cls := "CardLink$Line", name := "send", desc := "(LCardLink$Side;LCardLink$Side;I)V" } : Jvm.MethodName) prog_4_method_29_code (7 : Nat) (Option.none : Option Jvm.ClassFile.FieldType)) ∈ gW := gW_of (List.mem_append_right _ (List.mem_append_right _ (List.mem_append_right _ (List.mem_append_left _ (List.mem_of_getElem? (l := tables_1_3) (i := 216) rfl))))) rfl
theorem t_797 : (Jvm.Cond.methodLink "CardLink$Line" (247 : Nat) ({ cls := "CardLink$Line", name := "kindToSend", desc := "(LCardLink$Side;LCardLink$Side;I)I" } : Jvm.MethodName)) ∈ gW := gW_of (List.mem_of_getElem? (i := 797) (by decide +kernel)) rfl
theorem t_798 : (Jvm.Cond.static ({ cls := "CardLink$Line", name := "kindToSend", desc := "(LCardLink$Side;LCardLink$Side;I)I" } : Jvm.MethodName)) ∈ gW := gW_of (List.mem_of_getElem? (i := 798) (by decide +kernel)) rfl
theorem t_799 : (Jvm.Cond.code ({ cls := "CardLink$Line", name := "kindToSend", desc := "(LCardLink$Side;LCardLink$Side;I)I" } : Jvm.MethodName) prog_4_method_28_code (3 : Nat) (Option.some Jvm.ClassFile.FieldType.int)) ∈ gW := gW_of (List.mem_append_right _ (List.mem_append_right _ (List.mem_append_right _ (List.mem_append_left _ (List.mem_of_getElem? (l := tables_1_3) (i := 219) rfl))))) rfl
theorem t_800 : (Jvm.Cond.methodLink "CardLink$Line" (244 : Nat) ({ cls := "CardLink$Side", name := "cutNext", desc := "(I)I" } : Jvm.MethodName)) ∈ gW := gW_of (List.mem_of_getElem? (i := 800) (by decide +kernel)) rfl
theorem t_801 : (Jvm.Cond.instanceMethod ({ cls := "CardLink$Side", name := "cutNext", desc := "(I)I" } : Jvm.MethodName)) ∈ gW := gW_of (List.mem_of_getElem? (i := 801) (by decide +kernel)) rfl
theorem t_802 : (Jvm.Cond.selects "CardLink$Side" ({ cls := "CardLink$Side", name := "cutNext", desc := "(I)I" } : Jvm.MethodName) ({ cls := "CardLink$Side", name := "cutNext", desc := "(I)I" } : Jvm.MethodName)) ∈ gW := gW_of (List.mem_of_getElem? (i := 802) (by decide +kernel)) rfl
theorem t_803 : (Jvm.Cond.code ({ cls := "CardLink$Side", name := "cutNext", desc := "(I)I" } : Jvm.MethodName) prog_7_method_6_code (3 : Nat) (Option.some Jvm.ClassFile.FieldType.int)) ∈ gW := gW_of (List.mem_append_right _ (List.mem_append_right _ (List.mem_append_right _ (List.mem_append_left _ (List.mem_of_getElem? (l := tables_1_3) (i := 223) rfl))))) rfl
theorem t_804 : (Jvm.Cond.methodLink "CardLink$Side" (82 : Nat) ({ cls := "java/lang/Math", name := "max", desc := "(II)I" } : Jvm.MethodName)) ∈ gW := gW_of (List.mem_of_getElem? (i := 804) (by decide +kernel)) rfl
theorem t_805 : (Jvm.Cond.methodLink "CardLink$Side" (88 : Nat) ({ cls := "java/lang/Math", name := "min", desc := "(II)I" } : Jvm.MethodName)) ∈ gW := gW_of (List.mem_of_getElem? (i := 805) (by decide +kernel)) rfl
theorem t_806 : (Jvm.Cond.methodLink "CardLink$Side" (91 : Nat) ({ cls := "CardLink$Side", name := "pendingKind", desc := "()I" } : Jvm.MethodName)) ∈ gW := gW_of (List.mem_of_getElem? (i := 806) (by decide +kernel)) rfl
theorem t_807 : (Jvm.Cond.methodLink "CardLink$Line" (250 : Nat) ({ cls := "CardLink$Line", name := "compose", desc := "(LCardLink$Side;I)V" } : Jvm.MethodName)) ∈ gW := gW_of (List.mem_of_getElem? (i := 807) (by decide +kernel)) rfl
theorem t_809 : (Jvm.Cond.instanceMethod ({ cls := "CardLink$Line", name := "compose", desc := "(LCardLink$Side;I)V" } : Jvm.MethodName)) ∈ gW := gW_of (List.mem_of_getElem? (i := 809) (by decide +kernel)) rfl
theorem t_810 : (Jvm.Cond.code ({ cls := "CardLink$Line", name := "compose", desc := "(LCardLink$Side;I)V" } : Jvm.MethodName) prog_4_method_30_code (5 : Nat) (Option.none : Option Jvm.ClassFile.FieldType)) ∈ gW := gW_of (List.mem_append_right _ (List.mem_append_right _ (List.mem_append_right _ (List.mem_append_left _ (List.mem_of_getElem? (l := tables_1_3) (i := 230) rfl))))) rfl
theorem t_811 : (Jvm.Cond.methodLink "CardLink$Line" (241 : Nat) ({ cls := "CardLink$Row", name := "add", desc := "(I)V" } : Jvm.MethodName)) ∈ gW := gW_of (List.mem_of_getElem? (i := 811) (by decide +kernel)) rfl
theorem t_812 : (Jvm.Cond.methodLink "CardLink$Line" (280 : Nat) ({ cls := "CardLink$Side", name := "pendingSize", desc := "()I" } : Jvm.MethodName)) ∈ gW := gW_of (List.mem_of_getElem? (i := 812) (by decide +kernel)) rfl
theorem t_813 : (Jvm.Cond.instanceMethod ({ cls := "CardLink$Side", name := "pendingSize", desc := "()I" } : Jvm.MethodName)) ∈ gW := gW_of (List.mem_of_getElem? (i := 813) (by decide +kernel)) rfl
theorem t_814 : (Jvm.Cond.selects "CardLink$Side" ({ cls := "CardLink$Side", name := "pendingSize", desc := "()I" } : Jvm.MethodName) ({ cls := "CardLink$Side", name := "pendingSize", desc := "()I" } : Jvm.MethodName)) ∈ gW := gW_of (List.mem_of_getElem? (i := 814) (by decide +kernel)) rfl
theorem t_815 : (Jvm.Cond.code ({ cls := "CardLink$Side", name := "pendingSize", desc := "()I" } : Jvm.MethodName) prog_7_method_8_code (1 : Nat) (Option.some Jvm.ClassFile.FieldType.int)) ∈ gW := gW_of (List.mem_append_right _ (List.mem_append_right _ (List.mem_append_right _ (List.mem_append_left _ (List.mem_of_getElem? (l := tables_1_3) (i := 235) rfl))))) rfl
theorem t_816 : (Jvm.Cond.methodLink "CardLink$Line" (283 : Nat) ({ cls := "CardLink$Line", name := "hasInf", desc := "(I)Z" } : Jvm.MethodName)) ∈ gW := gW_of (List.mem_of_getElem? (i := 816) (by decide +kernel)) rfl
theorem t_817 : (Jvm.Cond.static ({ cls := "CardLink$Line", name := "hasInf", desc := "(I)Z" } : Jvm.MethodName)) ∈ gW := gW_of (List.mem_of_getElem? (i := 817) (by decide +kernel)) rfl
theorem t_818 : (Jvm.Cond.code ({ cls := "CardLink$Line", name := "hasInf", desc := "(I)Z" } : Jvm.MethodName) prog_4_method_31_code (1 : Nat) (Option.some Jvm.ClassFile.FieldType.boolean)) ∈ gW := gW_of (List.mem_append_right _ (List.mem_append_right _ (List.mem_append_right _ (List.mem_append_left _ (List.mem_of_getElem? (l := tables_1_3) (i := 238) rfl))))) rfl
theorem t_819 : (Jvm.Cond.methodLink "CardLink$Line" (287 : Nat) ({ cls := "CardLink$Row", name := "xor", desc := "(I)I" } : Jvm.MethodName)) ∈ gW := gW_of (List.mem_of_getElem? (i := 819) (by decide +kernel)) rfl
theorem t_820 : (Jvm.Cond.instanceMethod ({ cls := "CardLink$Row", name := "xor", desc := "(I)I" } : Jvm.MethodName)) ∈ gW := gW_of (List.mem_of_getElem? (i := 820) (by decide +kernel)) rfl
theorem t_821 : (Jvm.Cond.selects "CardLink$Row" ({ cls := "CardLink$Row", name := "xor", desc := "(I)I" } : Jvm.MethodName) ({ cls := "CardLink$Row", name := "xor", desc := "(I)I" } : Jvm.MethodName)) ∈ gW := gW_of (List.mem_of_getElem? (i := 821) (by decide +kernel)) rfl
theorem t_822 : (Jvm.Cond.code ({ cls := "CardLink$Row", name := "xor", desc := "(I)I" } : Jvm.MethodName) prog_6_method_9_code (4 : Nat) (Option.some Jvm.ClassFile.FieldType.int)) ∈ gW := gW_of (List.mem_append_right _ (List.mem_append_right _ (List.mem_append_right _ (List.mem_append_right _ (List.mem_append_left _ (List.mem_of_getElem? (l := tables_1_4) (i := 2) rfl)))))) rfl
theorem t_823 : (Jvm.Cond.methodLink "CardLink$Row" (41 : Nat) ({ cls := "CardLink$Row", name := "at", desc := "(I)I" } : Jvm.MethodName)) ∈ gW := gW_of (List.mem_of_getElem? (i := 823) (by decide +kernel)) rfl
theorem t_824 : (Jvm.Cond.methodLink "CardLink$Line" (254 : Nat) ({ cls := "CardLink$Side", name := "noteSent", desc := "(I)V" } : Jvm.MethodName)) ∈ gW := gW_of (List.mem_of_getElem? (i := 824) (by decide +kernel)) rfl
theorem t_825 : (Jvm.Cond.instanceMethod ({ cls := "CardLink$Side", name := "noteSent", desc := "(I)V" } : Jvm.MethodName)) ∈ gW := gW_of (List.mem_of_getElem? (i := 825) (by decide +kernel)) rfl
theorem t_826 : (Jvm.Cond.selects "CardLink$Side" ({ cls := "CardLink$Side", name := "noteSent", desc := "(I)V" } : Jvm.MethodName) ({ cls := "CardLink$Side", name := "noteSent", desc := "(I)V" } : Jvm.MethodName)) ∈ gW := gW_of (List.mem_of_getElem? (i := 826) (by decide +kernel)) rfl
theorem t_827 : (Jvm.Cond.code ({ cls := "CardLink$Side", name := "noteSent", desc := "(I)V" } : Jvm.MethodName) prog_7_method_18_code (2 : Nat) (Option.none : Option Jvm.ClassFile.FieldType)) ∈ gW := gW_of (List.mem_append_right _ (List.mem_append_right _ (List.mem_append_right _ (List.mem_append_right _ (List.mem_append_left _ (List.mem_of_getElem? (l := tables_1_4) (i := 7) rfl)))))) rfl
theorem t_828 : (Jvm.Cond.methodLink "CardLink$Line" (260 : Nat) ({ cls := "CardLink$Wire", name := "carry", desc := "(LCardLink$Row;LCardLink$Row;)I" } : Jvm.MethodName)) ∈ gW := gW_of (List.mem_of_getElem? (i := 828) (by decide +kernel)) rfl
theorem t_829 : (Jvm.Cond.instanceMethod ({ cls := "CardLink$Wire", name := "carry", desc := "(LCardLink$Row;LCardLink$Row;)I" } : Jvm.MethodName)) ∈ gW := gW_of (List.mem_of_getElem? (i := 829) (by decide +kernel)) rfl
theorem t_830 : (Jvm.Cond.selects "CardLink$Wire" ({ cls := "CardLink$Wire", name := "carry", desc := "(LCardLink$Row;LCardLink$Row;)I" } : Jvm.MethodName) ({ cls := "CardLink$Wire", name := "carry", desc := "(LCardLink$Row;LCardLink$Row;)I" } : Jvm.MethodName)) ∈ gW := gW_of (List.mem_of_getElem? (i := 830) (by decide +kernel)) rfl
theorem t_831 : (Jvm.Cond.code ({ cls := "CardLink$Wire", name := "carry", desc := "(LCardLink$Row;LCardLink$Row;)I" } : Jvm.MethodName) prog_8_method_11_code (7 : Nat) (Option.some Jvm.ClassFile.FieldType.int)) ∈ gW := gW_of (List.mem_append_right _ (List.mem_append_right _ (List.mem_append_right _ (List.mem_append_right _ (List.mem_append_left _ (List.mem_of_getElem? (l := tables_1_4) (i := 11) rfl)))))) rfl
theorem t_832 : (Jvm.Cond.methodLink "CardLink$Wire" (56 : Nat) ({ cls := "CardLink$Row", name := "keep", desc := "(I)V" } : Jvm.MethodName)) ∈ gW := gW_of (List.mem_of_getElem? (i := 832) (by decide +kernel)) rfl
theorem t_833 : (Jvm.Cond.methodLink "CardLink$Wire" (61 : Nat) ({ cls := "CardLink$Row", name := "size", desc := "()I" } : Jvm.MethodName)) ∈ gW := gW_of (List.mem_of_getElem? (i := 833) (by decide +kernel)) rfl
theorem t_834 : (Jvm.Cond.methodLink "CardLink$Wire" (65 : Nat) ({ cls := "CardLink$Wire", name := "sendLetter", desc := "()I" } : Jvm.MethodName)) ∈ gW := gW_of (List.mem_of_getElem? (i := 834) (by decide +kernel)) rfl
theorem t_836 : (Jvm.Cond.instanceMethod ({ cls := "CardLink$Wire", name := "sendLetter", desc := "()I" } : Jvm.MethodName)) ∈ gW := gW_of (List.mem_of_getElem? (i := 836) (by decide +kernel)) rfl
theorem t_837 : (Jvm.Cond.code ({ cls := "CardLink$Wire", name := "sendLetter", desc := "()I" } : Jvm.MethodName) prog_8_method_10_code (2 : Nat) (Option.some Jvm.ClassFile.FieldType.int)) ∈ gW := gW_of (List.mem_append_right _ (List.mem_append_right _ (List.mem_append_right _ (List.mem_append_right _ (List.mem_append_left _ (List.mem_of_getElem? (l := tables_1_4) (i := 17) rfl)))))) rfl
theorem t_838 : (Jvm.Cond.methodLink "CardLink$Wire" (53 : Nat) ({ cls := "CardLink$Wire", name := "dropNearest", desc := "()V" } : Jvm.MethodName)) ∈ gW := gW_of (List.mem_of_getElem? (i := 838) (by decide +kernel)) rfl
theorem t_840 : (Jvm.Cond.instanceMethod ({ cls := "CardLink$Wire", name := "dropNearest", desc := "()V" } : Jvm.MethodName)) ∈ gW := gW_of (List.mem_of_getElem? (i := 840) (by decide +kernel)) rfl
theorem t_841 : (Jvm.Cond.code ({ cls := "CardLink$Wire", name := "dropNearest", desc := "()V" } : Jvm.MethodName) prog_8_method_9_code (2 : Nat) (Option.none : Option Jvm.ClassFile.FieldType)) ∈ gW := gW_of (List.mem_append_right _ (List.mem_append_right _ (List.mem_append_right _ (List.mem_append_right _ (List.mem_append_left _ (List.mem_of_getElem? (l := tables_1_4) (i := 21) rfl)))))) rfl
theorem t_842 : (Jvm.Cond.methodLink "CardLink$Wire" (68 : Nat) ({ cls := "CardLink$Row", name := "at", desc := "(I)I" } : Jvm.MethodName)) ∈ gW := gW_of (List.mem_of_getElem? (i := 842) (by decide +kernel)) rfl
theorem t_843 : (Jvm.Cond.methodLink "CardLink$Wire" (72 : Nat) ({ cls := "CardLink$Row", name := "add", desc := "(I)V" } : Jvm.MethodName)) ∈ gW := gW_of (List.mem_of_getElem? (i := 843) (by decide +kernel)) rfl
theorem t_844 : (Jvm.Cond.methodLink "CardLink$Line" (264 : Nat) ({ cls := "CardLink$Line", name := "judge", desc := "(II)I" } : Jvm.MethodName)) ∈ gW := gW_of (List.mem_of_getElem? (i := 844) (by decide +kernel)) rfl
theorem t_846 : (Jvm.Cond.instanceMethod ({ cls := "CardLink$Line", name := "judge", desc := "(II)I" } : Jvm.MethodName)) ∈ gW := gW_of (List.mem_of_getElem? (i := 846) (by decide +kernel)) rfl
theorem t_847 : (Jvm.Cond.code ({ cls := "CardLink$Line", name := "judge", desc := "(II)I" } : Jvm.MethodName) prog_4_method_32_code (3 : Nat) (Option.some Jvm.ClassFile.FieldType.int)) ∈ gW := gW_of (List.mem_append_right _ (List.mem_append_right _ (List.mem_append_right _ (List.mem_append_right _ (List.mem_append_left _ (List.mem_of_getElem? (l := tables_1_4) (i := 27) rfl)))))) rfl
theorem t_848 : (Jvm.Cond.methodLink "CardLink$Line" (290 : Nat) ({ cls := "CardLink$Line", name := "isWellFormed", desc := "(III)Z" } : Jvm.MethodName)) ∈ gW := gW_of (List.mem_of_getElem? (i := 848) (by decide +kernel)) rfl
theorem t_850 : (Jvm.Cond.instanceMethod ({ cls := "CardLink$Line", name := "isWellFormed", desc := "(III)Z" } : Jvm.MethodName)) ∈ gW := gW_of (List.mem_of_getElem? (i := 850) (by decide +kernel)) rfl
theorem t_851 : (Jvm.Cond.code ({ cls := "CardLink$Line", name := "isWellFormed", desc := "(III)Z" } : Jvm.MethodName) prog_4_method_33_code (4 : Nat) (Option.some Jvm.ClassFile.FieldType.boolean)) ∈ gW := gW_of (List.mem_append_right _ (List.mem_append_right _ (List.mem_append_right _ (List.mem_append_right _ (List.mem_append_left _ (List.mem_of_getElem? (l := tables_1_4) (i := 31) rfl)))))) rfl
theorem t_852 : (Jvm.Cond.methodLink "CardLink$Line" (270 : Nat) ({ cls := "CardLink$Journal", name := "idOf", desc := "(ILCardLink$Row;)I" } : Jvm.MethodName)) ∈ gW := gW_of (List.mem_of_getElem? (i := 852) (by decide +kernel)) rfl
theorem t_853 : (Jvm.Cond.instanceMethod ({ cls := "CardLink$Journal", name := "idOf", desc := "(ILCardLink$Row;)I" } : Jvm.MethodName)) ∈ gW := gW_of (List.mem_of_getElem? (i := 853) (by decide +kernel)) rfl
theorem t_854 : (Jvm.Cond.selects "CardLink$Journal" ({ cls := "CardLink$Journal", name := "idOf", desc := "(ILCardLink$Row;)I" } : Jvm.MethodName) ({ cls := "CardLink$Journal", name := "idOf", desc := "(ILCardLink$Row;)I" } : Jvm.MethodName)) ∈ gW := gW_of (List.mem_of_getElem? (i := 854) (by decide +kernel)) rfl
theorem t_855 : (Jvm.Cond.code ({ cls := "CardLink$Journal", name := "idOf", desc := "(ILCardLink$Row;)I" } : Jvm.MethodName) prog_3_method_6_code (6 : Nat) (Option.some Jvm.ClassFile.FieldType.int)) ∈ gW := gW_of (List.mem_append_right _ (List.mem_append_right _ (List.mem_append_right _ (List.mem_append_right _ (List.mem_append_left _ (List.mem_of_getElem? (l := tables_1_4) (i := 35) rfl)))))) rfl
theorem t_856 : (Jvm.Cond.methodLink "CardLink$Journal" (51 : Nat) ({ cls := "CardLink$Row", name := "size", desc := "()I" } : Jvm.MethodName)) ∈ gW := gW_of (List.mem_of_getElem? (i := 856) (by decide +kernel)) rfl
theorem t_857 : (Jvm.Cond.methodLink "CardLink$Journal" (62 : Nat) ({ cls := "CardLink$Row", name := "add", desc := "(I)V" } : Jvm.MethodName)) ∈ gW := gW_of (List.mem_of_getElem? (i := 857) (by decide +kernel)) rfl
theorem t_858 : (Jvm.Cond.methodLink "CardLink$Journal" (65 : Nat) ({ cls := "CardLink$Journal", name := "chainOf", desc := "(ILCardLink$Row;)I" } : Jvm.MethodName)) ∈ gW := gW_of (List.mem_of_getElem? (i := 858) (by decide +kernel)) rfl
theorem t_859 : (Jvm.Cond.static ({ cls := "CardLink$Journal", name := "chainOf", desc := "(ILCardLink$Row;)I" } : Jvm.MethodName)) ∈ gW := gW_of (List.mem_of_getElem? (i := 859) (by decide +kernel)) rfl
theorem t_860 : (Jvm.Cond.code ({ cls := "CardLink$Journal", name := "chainOf", desc := "(ILCardLink$Row;)I" } : Jvm.MethodName) prog_3_method_7_code (4 : Nat) (Option.some Jvm.ClassFile.FieldType.int)) ∈ gW := gW_of (List.mem_append_right _ (List.mem_append_right _ (List.mem_append_right _ (List.mem_append_right _ (List.mem_append_left _ (List.mem_of_getElem? (l := tables_1_4) (i := 40) rfl)))))) rfl
theorem t_861 : (Jvm.Cond.methodLink "CardLink$Journal" (55 : Nat) ({ cls := "CardLink$Row", name := "at", desc := "(I)I" } : Jvm.MethodName)) ∈ gW := gW_of (List.mem_of_getElem? (i := 861) (by decide +kernel)) rfl
theorem t_862 : (Jvm.Cond.methodLink "CardLink$Journal" (69 : Nat) ({ cls := "CardLink$Journal", name := "isBlock", desc := "(IILCardLink$Row;)Z" } : Jvm.MethodName)) ∈ gW := gW_of (List.mem_of_getElem? (i := 862) (by decide +kernel)) rfl
theorem t_864 : (Jvm.Cond.instanceMethod ({ cls := "CardLink$Journal", name := "isBlock", desc := "(IILCardLink$Row;)Z" } : Jvm.MethodName)) ∈ gW := gW_of (List.mem_of_getElem? (i := 864) (by decide +kernel)) rfl
theorem t_865 : (Jvm.Cond.code ({ cls := "CardLink$Journal", name := "isBlock", desc := "(IILCardLink$Row;)Z" } : Jvm.MethodName) prog_3_method_8_code (6 : Nat) (Option.some Jvm.ClassFile.FieldType.boolean)) ∈ gW := gW_of (List.mem_append_right _ (List.mem_append_right _ (List.mem_append_right _ (List.mem_append_right _ (List.mem_append_left _ (List.mem_of_getElem? (l := tables_1_4) (i := 45) rfl)))))) rfl
theorem t_866 : (Jvm.Cond.methodLink "CardLink$Journal" (73 : Nat) ({ cls := "CardLink$Journal", name := "addUnlike", desc := "(ILCardLink$Row;I)I" } : Jvm.MethodName)) ∈ gW := gW_of (List.mem_of_getElem? (i := 866) (by decide +kernel)) rfl
theorem t_868 : (Jvm.Cond.instanceMethod ({ cls := "CardLink$Journal", name := "addUnlike", desc := "(ILCardLink$Row;I)I" } : Jvm.MethodName)) ∈ gW := gW_of (List.mem_of_getElem? (i := 868) (by decide +kernel)) rfl
theorem t_869 : (Jvm.Cond.code ({ cls := "CardLink$Journal", name := "addUnlike", desc := "(ILCardLink$Row;I)I" } : Jvm.MethodName) prog_3_method_9_code (6 : Nat) (Option.some Jvm.ClassFile.FieldType.int)) ∈ gW := gW_of (List.mem_append_right _ (List.mem_append_right _ (List.mem_append_right _ (List.mem_append_right _ (List.mem_append_left _ (List.mem_of_getElem? (l := tables_1_4) (i := 49) rfl)))))) rfl
theorem t_870 : (Jvm.Cond.methodLink "CardLink$Journal" (59 : Nat) ({ cls := "CardLink$Row", name := "put", desc := "(II)V" } : Jvm.MethodName)) ∈ gW := gW_of (List.mem_of_getElem? (i := 870) (by decide +kernel)) rfl
theorem t_871 : (Jvm.Cond.instanceMethod ({ cls := "CardLink$Row", name := "put", desc := "(II)V" } : Jvm.MethodName)) ∈ gW := gW_of (List.mem_of_getElem? (i := 871) (by decide +kernel)) rfl
theorem t_872 : (Jvm.Cond.selects "CardLink$Row" ({ cls := "CardLink$Row", name := "put", desc := "(II)V" } : Jvm.MethodName) ({ cls := "CardLink$Row", name := "put", desc := "(II)V" } : Jvm.MethodName)) ∈ gW := gW_of (List.mem_of_getElem? (i := 872) (by decide +kernel)) rfl
theorem t_873 : (Jvm.Cond.code ({ cls := "CardLink$Row", name := "put", desc := "(II)V" } : Jvm.MethodName) prog_6_method_4_code (3 : Nat) (Option.none : Option Jvm.ClassFile.FieldType)) ∈ gW := gW_of (List.mem_append_right _ (List.mem_append_right _ (List.mem_append_right _ (List.mem_append_right _ (List.mem_append_left _ (List.mem_of_getElem? (l := tables_1_4) (i := 53) rfl)))))) rfl
theorem t_874 : (Jvm.Cond.methodLink "CardLink$Line" (276 : Nat) ({ cls := "CardLink$Journal", name := "note", desc := "(III)V" } : Jvm.MethodName)) ∈ gW := gW_of (List.mem_of_getElem? (i := 874) (by decide +kernel)) rfl
theorem t_875 : (Jvm.Cond.instanceMethod ({ cls := "CardLink$Journal", name := "note", desc := "(III)V" } : Jvm.MethodName)) ∈ gW := gW_of (List.mem_of_getElem? (i := 875) (by decide +kernel)) rfl
theorem t_876 : (Jvm.Cond.selects "CardLink$Journal" ({ cls := "CardLink$Journal", name := "note", desc := "(III)V" } : Jvm.MethodName) ({ cls := "CardLink$Journal", name := "note", desc := "(III)V" } : Jvm.MethodName)) ∈ gW := gW_of (List.mem_of_getElem? (i := 876) (by decide +kernel)) rfl
theorem t_877 : (Jvm.Cond.code ({ cls := "CardLink$Journal", name := "note", desc := "(III)V" } : Jvm.MethodName) prog_3_method_5_code (4 : Nat) (Option.none : Option Jvm.ClassFile.FieldType)) ∈ gW := gW_of (List.mem_append_right _ (List.mem_append_right _ (List.mem_append_right _ (List.mem_append_right _ (List.mem_append_left _ (List.mem_of_getElem? (l := tables_1_4) (i := 57) rfl)))))) rfl
theorem t_878 : (Jvm.Cond.methodLink "CardLink$Line" (139 : Nat) ({ cls := "CardLink$Line", name := "cardKind", desc := "()I" } : Jvm.MethodName)) ∈ gW := gW_of (List.mem_of_getElem? (i := 878) (by decide +kernel)) rfl
theorem t_880 : (Jvm.Cond.instanceMethod ({ cls := "CardLink$Line", name := "cardKind", desc := "()I" } : Jvm.MethodName)) ∈ gW := gW_of (List.mem_of_getElem? (i := 880) (by decide +kernel)) rfl
theorem t_881 : (Jvm.Cond.code ({ cls := "CardLink$Line", name := "cardKind", desc := "()I" } : Jvm.MethodName) prog_4_method_14_code (2 : Nat) (Option.some Jvm.ClassFile.FieldType.int)) ∈ gW := gW_of (List.mem_append_right _ (List.mem_append_right _ (List.mem_append_right _ (List.mem_append_right _ (List.mem_append_left _ (List.mem_of_getElem? (l := tables_1_4) (i := 61) rfl)))))) rfl
theorem t_882 : (Jvm.Cond.methodLink "CardLink$Line" (179 : Nat) ({ cls := "CardLink$Line", name := "putFirstByte", desc := "()I" } : Jvm.MethodName)) ∈ gW := gW_of (List.mem_of_getElem? (i := 882) (by decide +kernel)) rfl
theorem t_884 : (Jvm.Cond.instanceMethod ({ cls := "CardLink$Line", name := "putFirstByte", desc := "()I" } : Jvm.MethodName)) ∈ gW := gW_of (List.mem_of_getElem? (i := 884) (by decide +kernel)) rfl
theorem t_885 : (Jvm.Cond.code ({ cls := "CardLink$Line", name := "putFirstByte", desc := "()I" } : Jvm.MethodName) prog_4_method_27_code (1 : Nat) (Option.some Jvm.ClassFile.FieldType.int)) ∈ gW := gW_of (List.mem_append_right _ (List.mem_append_right _ (List.mem_append_right _ (List.mem_append_right _ (List.mem_append_left _ (List.mem_of_getElem? (l := tables_1_4) (i := 65) rfl)))))) rfl
theorem t_886 : (Jvm.Cond.methodLink "CardLink$Line" (185 : Nat) ({ cls := "CardLink$Line", name := "cardOnAnswer", desc := "()I" } : Jvm.MethodName)) ∈ gW := gW_of (List.mem_of_getElem? (i := 886) (by decide +kernel)) rfl
theorem t_888 : (Jvm.Cond.instanceMethod ({ cls := "CardLink$Line", name := "cardOnAnswer", desc := "()I" } : Jvm.MethodName)) ∈ gW := gW_of (List.mem_of_getElem? (i := 888) (by decide +kernel)) rfl
theorem t_889 : (Jvm.Cond.code ({ cls := "CardLink$Line", name := "cardOnAnswer", desc := "()I" } : Jvm.MethodName) prog_4_method_20_code (2 : Nat) (Option.some Jvm.ClassFile.FieldType.int)) ∈ gW := gW_of (List.mem_append_right _ (List.mem_append_right _ (List.mem_append_right _ (List.mem_append_right _ (List.mem_append_left _ (List.mem_of_getElem? (l := tables_1_4) (i := 69) rfl)))))) rfl
theorem t_890 : (Jvm.Cond.methodLink "CardLink$Line" (201 : Nat) ({ cls := "CardLink$Line", name := "putBehindThird", desc := "()I" } : Jvm.MethodName)) ∈ gW := gW_of (List.mem_of_getElem? (i := 890) (by decide +kernel)) rfl
theorem t_892 : (Jvm.Cond.instanceMethod ({ cls := "CardLink$Line", name := "putBehindThird", desc := "()I" } : Jvm.MethodName)) ∈ gW := gW_of (List.mem_of_getElem? (i := 892) (by decide +kernel)) rfl
theorem t_893 : (Jvm.Cond.code ({ cls := "CardLink$Line", name := "putBehindThird", desc := "()I" } : Jvm.MethodName) prog_4_method_26_code (2 : Nat) (Option.some Jvm.ClassFile.FieldType.int)) ∈ gW := gW_of (List.mem_append_right _ (List.mem_append_right _ (List.mem_append_right _ (List.mem_append_right _ (List.mem_append_left _ (List.mem_of_getElem? (l := tables_1_4) (i := 73) rfl)))))) rfl
theorem t_894 : (Jvm.Cond.methodLink "CardLink$Line" (142 : Nat) ({ cls := "CardLink$Line", name := "doMessage", desc := "()I" } : Jvm.MethodName)) ∈ gW := gW_of (List.mem_of_getElem? (i := 894) (by decide +kernel)) rfl
theorem t_896 : (Jvm.Cond.instanceMethod ({ cls := "CardLink$Line", name := "doMessage", desc := "()I" } : Jvm.MethodName)) ∈ gW := gW_of (List.mem_of_getElem? (i := 896) (by decide +kernel)) rfl
theorem t_897 : (Jvm.Cond.code ({ cls := "CardLink$Line", name := "doMessage", desc := "()I" } : Jvm.MethodName) prog_4_method_24_code (3 : Nat) (Option.some Jvm.ClassFile.FieldType.int)) ∈ gW := gW_of (List.mem_append_right _ (List.mem_append_right _ (List.mem_append_right _ (List.mem_append_right _ (List.mem_append_left _ (List.mem_of_getElem? (l := tables_1_4) (i := 77) rfl)))))) rfl
theorem t_898 : (Jvm.Cond.methodLink "CardLink$Line" (238 : Nat) ({ cls := "CardLink$Line", name := "putCounting", desc := "(I)I" } : Jvm.MethodName)) ∈ gW := gW_of (List.mem_of_getElem? (i := 898) (by decide +kernel)) rfl
theorem t_900 : (Jvm.Cond.instanceMethod ({ cls := "CardLink$Line", name := "putCounting", desc := "(I)I" } : Jvm.MethodName)) ∈ gW := gW_of (List.mem_of_getElem? (i := 900) (by decide +kernel)) rfl
theorem t_901 : (Jvm.Cond.code ({ cls := "CardLink$Line", name := "putCounting", desc := "(I)I" } : Jvm.MethodName) prog_4_method_25_code (3 : Nat) (Option.some Jvm.ClassFile.FieldType.int)) ∈ gW := gW_of (List.mem_append_right _ (List.mem_append_right _ (List.mem_append_right _ (List.mem_append_right _ (List.mem_append_left _ (List.mem_of_getElem? (l := tables_1_4) (i := 81) rfl)))))) rfl
theorem t_902 : (Jvm.Cond.methodLink "CardLinkLaw" (65 : Nat) ({ cls := "CardLink", name := "state", desc := "()I" } : Jvm.MethodName)) ∈ gW := gW_of (List.mem_of_getElem? (i := 902) (by decide +kernel)) rfl
theorem t_903 : (Jvm.Cond.instanceMethod ({ cls := "CardLink", name := "state", desc := "()I" } : Jvm.MethodName)) ∈ gW := gW_of (List.mem_of_getElem? (i := 903) (by decide +kernel)) rfl
theorem t_904 : (Jvm.Cond.selects "CardLink" ({ cls := "CardLink", name := "state", desc := "()I" } : Jvm.MethodName) ({ cls := "CardLink", name := "state", desc := "()I" } : Jvm.MethodName)) ∈ gW := gW_of (List.mem_of_getElem? (i := 904) (by decide +kernel)) rfl
theorem t_905 : (Jvm.Cond.code ({ cls := "CardLink", name := "state", desc := "()I" } : Jvm.MethodName) prog_1_method_15_code (1 : Nat) (Option.some Jvm.ClassFile.FieldType.int)) ∈ gW := gW_of (List.mem_append_right _ (List.mem_append_right _ (List.mem_append_right _ (List.mem_append_right _ (List.mem_append_left _ (List.mem_of_getElem? (l := tables_1_4) (i := 85) rfl)))))) rfl
theorem t_906 : (Jvm.Cond.methodLink "CardLinkLaw" (69 : Nat) ({ cls := "CardLink", name := "side", desc := "(II)I" } : Jvm.MethodName)) ∈ gW := gW_of (List.mem_of_getElem? (i := 906) (by decide +kernel)) rfl
theorem t_907 : (Jvm.Cond.instanceMethod ({ cls := "CardLink", name := "side", desc := "(II)I" } : Jvm.MethodName)) ∈ gW := gW_of (List.mem_of_getElem? (i := 907) (by decide +kernel)) rfl
theorem t_908 : (Jvm.Cond.selects "CardLink" ({ cls := "CardLink", name := "side", desc := "(II)I" } : Jvm.MethodName) ({ cls := "CardLink", name := "side", desc := "(II)I" } : Jvm.MethodName)) ∈ gW := gW_of (List.mem_of_getElem? (i := 908) (by decide +kernel)) rfl
theorem t_909 : (Jvm.Cond.code ({ cls := "CardLink", name := "side", desc := "(II)I" } : Jvm.MethodName) prog_1_method_16_code (3 : Nat) (Option.some Jvm.ClassFile.FieldType.int)) ∈ gW := gW_of (List.mem_append_right _ (List.mem_append_right _ (List.mem_append_right _ (List.mem_append_right _ (List.mem_append_left _ (List.mem_of_getElem? (l := tables_1_4) (i := 89) rfl)))))) rfl
theorem t_910 : (Jvm.Cond.methodLink "CardLink" (139 : Nat) ({ cls := "CardLink", name := "sideOf", desc := "(I)LCardLink$Side;" } : Jvm.MethodName)) ∈ gW := gW_of (List.mem_of_getElem? (i := 910) (by decide +kernel)) rfl
theorem t_912 : (Jvm.Cond.instanceMethod ({ cls := "CardLink", name := "sideOf", desc := "(I)LCardLink$Side;" } : Jvm.MethodName)) ∈ gW := gW_of (List.mem_of_getElem? (i := 912) (by decide +kernel)) rfl
theorem t_913 : (Jvm.Cond.code ({ cls := "CardLink", name := "sideOf", desc := "(I)LCardLink$Side;" } : Jvm.MethodName) prog_1_method_17_code (2 : Nat) (Option.some (Jvm.ClassFile.FieldType.object "CardLink$Side"))) ∈ gW := gW_of (List.mem_append_right _ (List.mem_append_right _ (List.mem_append_right _ (List.mem_append_right _ (List.mem_append_left _ (List.mem_of_getElem? (l := tables_1_4) (i := 93) rfl)))))) rfl
theorem t_914 : (Jvm.Cond.methodLink "CardLink" (143 : Nat) ({ cls := "CardLink$Side", name := "tell", desc := "(I)I" } : Jvm.MethodName)) ∈ gW := gW_of (List.mem_of_getElem? (i := 914) (by decide +kernel)) rfl
theorem t_915 : (Jvm.Cond.instanceMethod ({ cls := "CardLink$Side", name := "tell", desc := "(I)I" } : Jvm.MethodName)) ∈ gW := gW_of (List.mem_of_getElem? (i := 915) (by decide +kernel)) rfl
theorem t_916 : (Jvm.Cond.selects "CardLink$Side" ({ cls := "CardLink$Side", name := "tell", desc := "(I)I" } : Jvm.MethodName) ({ cls := "CardLink$Side", name := "tell", desc := "(I)I" } : Jvm.MethodName)) ∈ gW := gW_of (List.mem_of_getElem? (i := 916) (by decide +kernel)) rfl
theorem t_917 : (Jvm.Cond.code ({ cls := "CardLink$Side", name := "tell", desc := "(I)I" } : Jvm.MethodName) prog_7_method_20_code (2 : Nat) (Option.some Jvm.ClassFile.FieldType.int)) ∈ gW := gW_of (List.mem_append_right _ (List.mem_append_right _ (List.mem_append_right _ (List.mem_append_right _ (List.mem_append_left _ (List.mem_of_getElem? (l := tables_1_4) (i := 97) rfl)))))) rfl
theorem t_918 : (Jvm.Cond.methodLink "CardLinkLaw" (73 : Nat) ({ cls := "CardLink", name := "got", desc := "(II)I" } : Jvm.MethodName)) ∈ gW := gW_of (List.mem_of_getElem? (i := 918) (by decide +kernel)) rfl
theorem t_919 : (Jvm.Cond.instanceMethod ({ cls := "CardLink", name := "got", desc := "(II)I" } : Jvm.MethodName)) ∈ gW := gW_of (List.mem_of_getElem? (i := 919) (by decide +kernel)) rfl
theorem t_920 : (Jvm.Cond.selects "CardLink" ({ cls := "CardLink", name := "got", desc := "(II)I" } : Jvm.MethodName) ({ cls := "CardLink", name := "got", desc := "(II)I" } : Jvm.MethodName)) ∈ gW := gW_of (List.mem_of_getElem? (i := 920) (by decide +kernel)) rfl
theorem t_921 : (Jvm.Cond.code ({ cls := "CardLink", name := "got", desc := "(II)I" } : Jvm.MethodName) prog_1_method_18_code (4 : Nat) (Option.some Jvm.ClassFile.FieldType.int)) ∈ gW := gW_of (List.mem_append_right _ (List.mem_append_right _ (List.mem_append_right _ (List.mem_append_right _ (List.mem_append_left _ (List.mem_of_getElem? (l := tables_1_4) (i := 101) rfl)))))) rfl
theorem t_922 : (Jvm.Cond.methodLink "CardLink" (159 : Nat) ({ cls := "CardLink$Row", name := "at", desc := "(I)I" } : Jvm.MethodName)) ∈ gW := gW_of (List.mem_of_getElem? (i := 922) (by decide +kernel)) rfl
theorem t_923 : (Jvm.Cond.methodLink "CardLinkLaw" (83 : Nat) ({ cls := "CardLink", name := "byteOf", desc := "(II)I" } : Jvm.MethodName)) ∈ gW := gW_of (List.mem_of_getElem? (i := 923) (by decide +kernel)) rfl
theorem t_924 : (Jvm.Cond.instanceMethod ({ cls := "CardLink", name := "byteOf", desc := "(II)I" } : Jvm.MethodName)) ∈ gW := gW_of (List.mem_of_getElem? (i := 924) (by decide +kernel)) rfl
theorem t_925 : (Jvm.Cond.selects "CardLink" ({ cls := "CardLink", name := "byteOf", desc := "(II)I" } : Jvm.MethodName) ({ cls := "CardLink", name := "byteOf", desc := "(II)I" } : Jvm.MethodName)) ∈ gW := gW_of (List.mem_of_getElem? (i := 925) (by decide +kernel)) rfl
theorem t_926 : (Jvm.Cond.code ({ cls := "CardLink", name := "byteOf", desc := "(II)I" } : Jvm.MethodName) prog_1_method_20_code (3 : Nat) (Option.some Jvm.ClassFile.FieldType.int)) ∈ gW := gW_of (List.mem_append_right _ (List.mem_append_right _ (List.mem_append_right _ (List.mem_append_right _ (List.mem_append_left _ (List.mem_of_getElem? (l := tables_1_4) (i := 106) rfl)))))) rfl
theorem t_927 : (Jvm.Cond.methodLink "CardLink" (162 : Nat) ({ cls := "CardLink$Journal", name := "kept", desc := "()I" } : Jvm.MethodName)) ∈ gW := gW_of (List.mem_of_getElem? (i := 927) (by decide +kernel)) rfl
theorem t_928 : (Jvm.Cond.instanceMethod ({ cls := "CardLink$Journal", name := "kept", desc := "()I" } : Jvm.MethodName)) ∈ gW := gW_of (List.mem_of_getElem? (i := 928) (by decide +kernel)) rfl
theorem t_929 : (Jvm.Cond.selects "CardLink$Journal" ({ cls := "CardLink$Journal", name := "kept", desc := "()I" } : Jvm.MethodName) ({ cls := "CardLink$Journal", name := "kept", desc := "()I" } : Jvm.MethodName)) ∈ gW := gW_of (List.mem_of_getElem? (i := 929) (by decide +kernel)) rfl
theorem t_930 : (Jvm.Cond.code ({ cls := "CardLink$Journal", name := "kept", desc := "()I" } : Jvm.MethodName) prog_3_method_4_code (1 : Nat) (Option.some Jvm.ClassFile.FieldType.int)) ∈ gW := gW_of (List.mem_append_right _ (List.mem_append_right _ (List.mem_append_right _ (List.mem_append_right _ (List.mem_append_left _ (List.mem_of_getElem? (l := tables_1_4) (i := 110) rfl)))))) rfl
theorem t_931 : (Jvm.Cond.methodLink "CardLink" (171 : Nat) ({ cls := "CardLink$Journal", name := "byteAt", desc := "(II)I" } : Jvm.MethodName)) ∈ gW := gW_of (List.mem_of_getElem? (i := 931) (by decide +kernel)) rfl
theorem t_932 : (Jvm.Cond.instanceMethod ({ cls := "CardLink$Journal", name := "byteAt", desc := "(II)I" } : Jvm.MethodName)) ∈ gW := gW_of (List.mem_of_getElem? (i := 932) (by decide +kernel)) rfl
theorem t_933 : (Jvm.Cond.selects "CardLink$Journal" ({ cls := "CardLink$Journal", name := "byteAt", desc := "(II)I" } : Jvm.MethodName) ({ cls := "CardLink$Journal", name := "byteAt", desc := "(II)I" } : Jvm.MethodName)) ∈ gW := gW_of (List.mem_of_getElem? (i := 933) (by decide +kernel)) rfl
theorem t_934 : (Jvm.Cond.code ({ cls := "CardLink$Journal", name := "byteAt", desc := "(II)I" } : Jvm.MethodName) prog_3_method_12_code (4 : Nat) (Option.some Jvm.ClassFile.FieldType.int)) ∈ gW := gW_of (List.mem_append_right _ (List.mem_append_right _ (List.mem_append_right _ (List.mem_append_right _ (List.mem_append_left _ (List.mem_of_getElem? (l := tables_1_4) (i := 114) rfl)))))) rfl
theorem t_935 : (Jvm.Cond.methodLink "CardLink$Journal" (77 : Nat) ({ cls := "CardLink$Journal", name := "placeOf", desc := "(I)I" } : Jvm.MethodName)) ∈ gW := gW_of (List.mem_of_getElem? (i := 935) (by decide +kernel)) rfl
theorem t_937 : (Jvm.Cond.instanceMethod ({ cls := "CardLink$Journal", name := "placeOf", desc := "(I)I" } : Jvm.MethodName)) ∈ gW := gW_of (List.mem_of_getElem? (i := 937) (by decide +kernel)) rfl
theorem t_938 : (Jvm.Cond.code ({ cls := "CardLink$Journal", name := "placeOf", desc := "(I)I" } : Jvm.MethodName) prog_3_method_10_code (3 : Nat) (Option.some Jvm.ClassFile.FieldType.int)) ∈ gW := gW_of (List.mem_append_right _ (List.mem_append_right _ (List.mem_append_right _ (List.mem_append_right _ (List.mem_append_left _ (List.mem_of_getElem? (l := tables_1_4) (i := 118) rfl)))))) rfl
theorem t_939 : (Jvm.Cond.methodLink "CardLinkLaw" (87 : Nat) ({ cls := "CardLink", name := "would", desc := "(I)I" } : Jvm.MethodName)) ∈ gW := gW_of (List.mem_of_getElem? (i := 939) (by decide +kernel)) rfl
theorem t_940 : (Jvm.Cond.instanceMethod ({ cls := "CardLink", name := "would", desc := "(I)I" } : Jvm.MethodName)) ∈ gW := gW_of (List.mem_of_getElem? (i := 940) (by decide +kernel)) rfl
theorem t_941 : (Jvm.Cond.selects "CardLink" ({ cls := "CardLink", name := "would", desc := "(I)I" } : Jvm.MethodName) ({ cls := "CardLink", name := "would", desc := "(I)I" } : Jvm.MethodName)) ∈ gW := gW_of (List.mem_of_getElem? (i := 941) (by decide +kernel)) rfl
theorem t_942 : (Jvm.Cond.code ({ cls := "CardLink", name := "would", desc := "(I)I" } : Jvm.MethodName) prog_1_method_21_code (3 : Nat) (Option.some Jvm.ClassFile.FieldType.int)) ∈ gW := gW_of (List.mem_append_right _ (List.mem_append_right _ (List.mem_append_right _ (List.mem_append_right _ (List.mem_append_left _ (List.mem_of_getElem? (l := tables_1_4) (i := 122) rfl)))))) rfl
theorem t_943 : (Jvm.Cond.methodLink "CardLink" (174 : Nat) ({ cls := "CardLink$Forecast", name := "outlook", desc := "(LCardLink$Line;)LCardLink$Line;" } : Jvm.MethodName)) ∈ gW := gW_of (List.mem_of_getElem? (i := 943) (by decide +kernel)) rfl
theorem t_944 : (Jvm.Cond.instanceMethod ({ cls := "CardLink$Forecast", name := "outlook", desc := "(LCardLink$Line;)LCardLink$Line;" } : Jvm.MethodName)) ∈ gW := gW_of (List.mem_of_getElem? (i := 944) (by decide +kernel)) rfl
theorem t_945 : (Jvm.Cond.selects "CardLink$Forecast" ({ cls := "CardLink$Forecast", name := "outlook", desc := "(LCardLink$Line;)LCardLink$Line;" } : Jvm.MethodName) ({ cls := "CardLink$Forecast", name := "outlook", desc := "(LCardLink$Line;)LCardLink$Line;" } : Jvm.MethodName)) ∈ gW := gW_of (List.mem_of_getElem? (i := 945) (by decide +kernel)) rfl
theorem t_946 : (Jvm.Cond.code ({ cls := "CardLink$Forecast", name := "outlook", desc := "(LCardLink$Line;)LCardLink$Line;" } : Jvm.MethodName) prog_2_method_3_code (3 : Nat) (Option.some (Jvm.ClassFile.FieldType.object "CardLink$Line"))) ∈ gW := gW_of (List.mem_append_right _ (List.mem_append_right _ (List.mem_append_right _ (List.mem_append_right _ (List.mem_append_left _ (List.mem_of_getElem? (l := tables_1_4) (i := 126) rfl)))))) rfl
theorem t_947 : (Jvm.Cond.methodLink "CardLink$Forecast" (46 : Nat) ({ cls := "CardLink$Line", name := "copy", desc := "(LCardLink$Line;)V" } : Jvm.MethodName)) ∈ gW := gW_of (List.mem_of_getElem? (i := 947) (by decide +kernel)) rfl
theorem t_948 : (Jvm.Cond.instanceMethod ({ cls := "CardLink$Line", name := "copy", desc := "(LCardLink$Line;)V" } : Jvm.MethodName)) ∈ gW := gW_of (List.mem_of_getElem? (i := 948) (by decide +kernel)) rfl
theorem t_949 : (Jvm.Cond.selects "CardLink$Line" ({ cls := "CardLink$Line", name := "copy", desc := "(LCardLink$Line;)V" } : Jvm.MethodName) ({ cls := "CardLink$Line", name := "copy", desc := "(LCardLink$Line;)V" } : Jvm.MethodName)) ∈ gW := gW_of (List.mem_of_getElem? (i := 949) (by decide +kernel)) rfl
theorem t_950 : (Jvm.Cond.code ({ cls := "CardLink$Line", name := "copy", desc := "(LCardLink$Line;)V" } : Jvm.MethodName) prog_4_method_3_code (2 : Nat) (Option.none : Option Jvm.ClassFile.FieldType)) ∈ gW := gW_of (List.mem_append_right _ (List.mem_append_right _ (List.mem_append_right _ (List.mem_append_right _ (List.mem_append_left _ (List.mem_of_getElem? (l := tables_1_4) (i := 130) rfl)))))) rfl
theorem t_951 : (Jvm.Cond.methodLink "CardLink$Line" (92 : Nat) ({ cls := "CardLink$Side", name := "copy", desc := "(LCardLink$Side;)V" } : Jvm.MethodName)) ∈ gW := gW_of (List.mem_of_getElem? (i := 951) (by decide +kernel)) rfl
theorem t_952 : (Jvm.Cond.instanceMethod ({ cls := "CardLink$Side", name := "copy", desc := "(LCardLink$Side;)V" } : Jvm.MethodName)) ∈ gW := gW_of (List.mem_of_getElem? (i := 952) (by decide +kernel)) rfl
theorem t_953 : (Jvm.Cond.selects "CardLink$Side" ({ cls := "CardLink$Side", name := "copy", desc := "(LCardLink$Side;)V" } : Jvm.MethodName) ({ cls := "CardLink$Side", name := "copy", desc := "(LCardLink$Side;)V" } : Jvm.MethodName)) ∈ gW := gW_of (List.mem_of_getElem? (i := 953) (by decide +kernel)) rfl
theorem t_954 : (Jvm.Cond.code ({ cls := "CardLink$Side", name := "copy", desc := "(LCardLink$Side;)V" } : Jvm.MethodName) prog_7_method_3_code (2 : Nat) (Option.none : Option Jvm.ClassFile.FieldType)) ∈ gW := gW_of (List.mem_append_right _ (List.mem_append_right _ (List.mem_append_right _ (List.mem_append_right _ (List.mem_append_left _ (List.mem_of_getElem? (l := tables_1_4) (i := 134) rfl)))))) rfl
theorem t_955 : (Jvm.Cond.methodLink "CardLink$Line" (96 : Nat) ({ cls := "CardLink$Wire", name := "copy", desc := "(LCardLink$Wire;)V" } : Jvm.MethodName)) ∈ gW := gW_of (List.mem_of_getElem? (i := 955) (by decide +kernel)) rfl
theorem t_956 : (Jvm.Cond.instanceMethod ({ cls := "CardLink$Wire", name := "copy", desc := "(LCardLink$Wire;)V" } : Jvm.MethodName)) ∈ gW := gW_of (List.mem_of_getElem? (i := 956) (by decide +kernel)) rfl
theorem t_957 : (Jvm.Cond.selects "CardLink$Wire" ({ cls := "CardLink$Wire", name := "copy", desc := "(LCardLink$Wire;)V" } : Jvm.MethodName) ({ cls := "CardLink$Wire", name := "copy", desc := "(LCardLink$Wire;)V" } : Jvm.MethodName)) ∈ gW := gW_of (List.mem_of_getElem? (i := 957) (by decide +kernel)) rfl
theorem t_958 : (Jvm.Cond.code ({ cls := "CardLink$Wire", name := "copy", desc := "(LCardLink$Wire;)V" } : Jvm.MethodName) prog_8_method_3_code (3 : Nat) (Option.none : Option Jvm.ClassFile.FieldType)) ∈ gW := gW_of (List.mem_append_right _ (List.mem_append_right _ (List.mem_append_right _ (List.mem_append_right _ (List.mem_append_left _ (List.mem_of_getElem? (l := tables_1_4) (i := 138) rfl)))))) rfl
theorem t_959 : (Jvm.Cond.methodLink "CardLink$Forecast" (54 : Nat) ({ cls := "CardLink$Line", name := "turn", desc := "()V" } : Jvm.MethodName)) ∈ gW := gW_of (List.mem_of_getElem? (i := 959) (by decide +kernel)) rfl
theorem t_960 : (Jvm.Cond.methodLink "CardLink" (178 : Nat) ({ cls := "CardLink$Line", name := "blocksSent", desc := "()I" } : Jvm.MethodName)) ∈ gW := gW_of (List.mem_of_getElem? (i := 960) (by decide +kernel)) rfl
theorem t_961 : (Jvm.Cond.methodLink "CardLinkLaw" (91 : Nat) ({ cls := "CardLink", name := "harm", desc := "(II)I" } : Jvm.MethodName)) ∈ gW := gW_of (List.mem_of_getElem? (i := 961) (by decide +kernel)) rfl
theorem t_962 : (Jvm.Cond.instanceMethod ({ cls := "CardLink", name := "harm", desc := "(II)I" } : Jvm.MethodName)) ∈ gW := gW_of (List.mem_of_getElem? (i := 962) (by decide +kernel)) rfl
theorem t_963 : (Jvm.Cond.selects "CardLink" ({ cls := "CardLink", name := "harm", desc := "(II)I" } : Jvm.MethodName) ({ cls := "CardLink", name := "harm", desc := "(II)I" } : Jvm.MethodName)) ∈ gW := gW_of (List.mem_of_getElem? (i := 963) (by decide +kernel)) rfl
theorem t_964 : (Jvm.Cond.code ({ cls := "CardLink", name := "harm", desc := "(II)I" } : Jvm.MethodName) prog_1_method_22_code (3 : Nat) (Option.some Jvm.ClassFile.FieldType.int)) ∈ gW := gW_of (List.mem_append_right _ (List.mem_append_right _ (List.mem_append_right _ (List.mem_append_right _ (List.mem_append_left _ (List.mem_of_getElem? (l := tables_1_4) (i := 144) rfl)))))) rfl
theorem t_965 : (Jvm.Cond.methodLink "CardLink" (184 : Nat) ({ cls := "CardLink$Forecast", name := "tryAll", desc := "(LCardLink$Line;I)V" } : Jvm.MethodName)) ∈ gW := gW_of (List.mem_of_getElem? (i := 965) (by decide +kernel)) rfl
theorem t_966 : (Jvm.Cond.instanceMethod ({ cls := "CardLink$Forecast", name := "tryAll", desc := "(LCardLink$Line;I)V" } : Jvm.MethodName)) ∈ gW := gW_of (List.mem_of_getElem? (i := 966) (by decide +kernel)) rfl
theorem t_967 : (Jvm.Cond.selects "CardLink$Forecast" ({ cls := "CardLink$Forecast", name := "tryAll", desc := "(LCardLink$Line;I)V" } : Jvm.MethodName) ({ cls := "CardLink$Forecast", name := "tryAll", desc := "(LCardLink$Line;I)V" } : Jvm.MethodName)) ∈ gW := gW_of (List.mem_of_getElem? (i := 967) (by decide +kernel)) rfl
theorem t_968 : (Jvm.Cond.code ({ cls := "CardLink$Forecast", name := "tryAll", desc := "(LCardLink$Line;I)V" } : Jvm.MethodName) prog_2_method_6_code (8 : Nat) (Option.none : Option Jvm.ClassFile.FieldType)) ∈ gW := gW_of (List.mem_append_right _ (List.mem_append_right _ (List.mem_append_right _ (List.mem_append_right _ (List.mem_append_left _ (List.mem_of_getElem? (l := tables_1_4) (i := 148) rfl)))))) rfl
theorem t_969 : (Jvm.Cond.methodLink "CardLink$Forecast" (66 : Nat) ({ cls := "CardLink$Wire", name := "probe", desc := "(II)V" } : Jvm.MethodName)) ∈ gW := gW_of (List.mem_of_getElem? (i := 969) (by decide +kernel)) rfl
theorem t_970 : (Jvm.Cond.instanceMethod ({ cls := "CardLink$Wire", name := "probe", desc := "(II)V" } : Jvm.MethodName)) ∈ gW := gW_of (List.mem_of_getElem? (i := 970) (by decide +kernel)) rfl
theorem t_971 : (Jvm.Cond.selects "CardLink$Wire" ({ cls := "CardLink$Wire", name := "probe", desc := "(II)V" } : Jvm.MethodName) ({ cls := "CardLink$Wire", name := "probe", desc := "(II)V" } : Jvm.MethodName)) ∈ gW := gW_of (List.mem_of_getElem? (i := 971) (by decide +kernel)) rfl
theorem t_972 : (Jvm.Cond.code ({ cls := "CardLink$Wire", name := "probe", desc := "(II)V" } : Jvm.MethodName) prog_8_method_4_code (3 : Nat) (Option.none : Option Jvm.ClassFile.FieldType)) ∈ gW := gW_of (List.mem_append_right _ (List.mem_append_right _ (List.mem_append_right _ (List.mem_append_right _ (List.mem_append_left _ (List.mem_of_getElem? (l := tables_1_4) (i := 152) rfl)))))) rfl
theorem t_973 : (Jvm.Cond.methodLink "CardLink$Forecast" (70 : Nat) ({ cls := "CardLink$Forecast", name := "forkIsHarmed", desc := "()Z" } : Jvm.MethodName)) ∈ gW := gW_of (List.mem_of_getElem? (i := 973) (by decide +kernel)) rfl
theorem t_975 : (Jvm.Cond.instanceMethod ({ cls := "CardLink$Forecast", name := "forkIsHarmed", desc := "()Z" } : Jvm.MethodName)) ∈ gW := gW_of (List.mem_of_getElem? (i := 975) (by decide +kernel)) rfl
theorem t_976 : (Jvm.Cond.code ({ cls := "CardLink$Forecast", name := "forkIsHarmed", desc := "()Z" } : Jvm.MethodName) prog_2_method_7_code (1 : Nat) (Option.some Jvm.ClassFile.FieldType.boolean)) ∈ gW := gW_of (List.mem_append_right _ (List.mem_append_right _ (List.mem_append_right _ (List.mem_append_right _ (List.mem_append_left _ (List.mem_of_getElem? (l := tables_1_4) (i := 156) rfl)))))) rfl
theorem t_977 : (Jvm.Cond.methodLink "CardLink$Forecast" (84 : Nat) ({ cls := "CardLink$Row", name := "same", desc := "(LCardLink$Row;)Z" } : Jvm.MethodName)) ∈ gW := gW_of (List.mem_of_getElem? (i := 977) (by decide +kernel)) rfl
theorem t_978 : (Jvm.Cond.instanceMethod ({ cls := "CardLink$Row", name := "same", desc := "(LCardLink$Row;)Z" } : Jvm.MethodName)) ∈ gW := gW_of (List.mem_of_getElem? (i := 978) (by decide +kernel)) rfl
theorem t_979 : (Jvm.Cond.selects "CardLink$Row" ({ cls := "CardLink$Row", name := "same", desc := "(LCardLink$Row;)Z" } : Jvm.MethodName) ({ cls := "CardLink$Row", name := "same", desc := "(LCardLink$Row;)Z" } : Jvm.MethodName)) ∈ gW := gW_of (List.mem_of_getElem? (i := 979) (by decide +kernel)) rfl
theorem t_980 : (Jvm.Cond.code ({ cls := "CardLink$Row", name := "same", desc := "(LCardLink$Row;)Z" } : Jvm.MethodName) prog_6_method_8_code (3 : Nat) (Option.some Jvm.ClassFile.FieldType.boolean)) ∈ gW := gW_of (List.mem_append_right _ (List.mem_append_right _ (List.mem_append_right _ (List.mem_append_right _ (List.mem_append_left _ (List.mem_of_getElem? (l := tables_1_4) (i := 160) rfl)))))) rfl
theorem t_981 : (Jvm.Cond.methodLink "CardLink" (188 : Nat) ({ cls := "CardLink$Forecast", name := "harmful", desc := "(I)I" } : Jvm.MethodName)) ∈ gW := gW_of (List.mem_of_getElem? (i := 981) (by decide +kernel)) rfl
theorem t_982 : (Jvm.Cond.instanceMethod ({ cls := "CardLink$Forecast", name := "harmful", desc := "(I)I" } : Jvm.MethodName)) ∈ gW := gW_of (List.mem_of_getElem? (i := 982) (by decide +kernel)) rfl
theorem t_983 : (Jvm.Cond.selects "CardLink$Forecast" ({ cls := "CardLink$Forecast", name := "harmful", desc := "(I)I" } : Jvm.MethodName) ({ cls := "CardLink$Forecast", name := "harmful", desc := "(I)I" } : Jvm.MethodName)) ∈ gW := gW_of (List.mem_of_getElem? (i := 983) (by decide +kernel)) rfl
theorem t_984 : (Jvm.Cond.code ({ cls := "CardLink$Forecast", name := "harmful", desc := "(I)I" } : Jvm.MethodName) prog_2_method_4_code (2 : Nat) (Option.some Jvm.ClassFile.FieldType.int)) ∈ gW := gW_of (List.mem_append_right _ (List.mem_append_right _ (List.mem_append_right _ (List.mem_append_right _ (List.mem_append_left _ (List.mem_of_getElem? (l := tables_1_4) (i := 164) rfl)))))) rfl
theorem t_985 : (Jvm.Cond.methodLink "CardLink" (191 : Nat) ({ cls := "CardLink$Forecast", name := "firstHarmful", desc := "(I)I" } : Jvm.MethodName)) ∈ gW := gW_of (List.mem_of_getElem? (i := 985) (by decide +kernel)) rfl
theorem t_986 : (Jvm.Cond.instanceMethod ({ cls := "CardLink$Forecast", name := "firstHarmful", desc := "(I)I" } : Jvm.MethodName)) ∈ gW := gW_of (List.mem_of_getElem? (i := 986) (by decide +kernel)) rfl
theorem t_987 : (Jvm.Cond.selects "CardLink$Forecast" ({ cls := "CardLink$Forecast", name := "firstHarmful", desc := "(I)I" } : Jvm.MethodName) ({ cls := "CardLink$Forecast", name := "firstHarmful", desc := "(I)I" } : Jvm.MethodName)) ∈ gW := gW_of (List.mem_of_getElem? (i := 987) (by decide +kernel)) rfl
theorem t_988 : (Jvm.Cond.code ({ cls := "CardLink$Forecast", name := "firstHarmful", desc := "(I)I" } : Jvm.MethodName) prog_2_method_5_code (2 : Nat) (Option.some Jvm.ClassFile.FieldType.int)) ∈ gW := gW_of (List.mem_append_right _ (List.mem_append_right _ (List.mem_append_right _ (List.mem_append_right _ (List.mem_append_left _ (List.mem_of_getElem? (l := tables_1_4) (i := 168) rfl)))))) rfl
theorem t_989 : (Jvm.Cond.methodLink "CardLinkLaw" (95 : Nat) ({ cls := "CardLink", name := "count", desc := "(I)I" } : Jvm.MethodName)) ∈ gW := gW_of (List.mem_of_getElem? (i := 989) (by decide +kernel)) rfl
theorem t_990 : (Jvm.Cond.instanceMethod ({ cls := "CardLink", name := "count", desc := "(I)I" } : Jvm.MethodName)) ∈ gW := gW_of (List.mem_of_getElem? (i := 990) (by decide +kernel)) rfl
theorem t_991 : (Jvm.Cond.selects "CardLink" ({ cls := "CardLink", name := "count", desc := "(I)I" } : Jvm.MethodName) ({ cls := "CardLink", name := "count", desc := "(I)I" } : Jvm.MethodName)) ∈ gW := gW_of (List.mem_of_getElem? (i := 991) (by decide +kernel)) rfl
theorem t_992 : (Jvm.Cond.code ({ cls := "CardLink", name := "count", desc := "(I)I" } : Jvm.MethodName) prog_1_method_23_code (2 : Nat) (Option.some Jvm.ClassFile.FieldType.int)) ∈ gW := gW_of (List.mem_append_right _ (List.mem_append_right _ (List.mem_append_right _ (List.mem_append_right _ (List.mem_append_left _ (List.mem_of_getElem? (l := tables_1_4) (i := 172) rfl)))))) rfl
theorem t_993 : (Jvm.Cond.methodLink "CardLink" (200 : Nat) ({ cls := "CardLink$Journal", name := "unlike", desc := "()I" } : Jvm.MethodName)) ∈ gW := gW_of (List.mem_of_getElem? (i := 993) (by decide +kernel)) rfl
theorem t_994 : (Jvm.Cond.instanceMethod ({ cls := "CardLink$Journal", name := "unlike", desc := "()I" } : Jvm.MethodName)) ∈ gW := gW_of (List.mem_of_getElem? (i := 994) (by decide +kernel)) rfl
theorem t_995 : (Jvm.Cond.selects "CardLink$Journal" ({ cls := "CardLink$Journal", name := "unlike", desc := "()I" } : Jvm.MethodName) ({ cls := "CardLink$Journal", name := "unlike", desc := "()I" } : Jvm.MethodName)) ∈ gW := gW_of (List.mem_of_getElem? (i := 995) (by decide +kernel)) rfl
theorem t_996 : (Jvm.Cond.code ({ cls := "CardLink$Journal", name := "unlike", desc := "()I" } : Jvm.MethodName) prog_3_method_3_code (1 : Nat) (Option.some Jvm.ClassFile.FieldType.int)) ∈ gW := gW_of (List.mem_append_right _ (List.mem_append_right _ (List.mem_append_right _ (List.mem_append_right _ (List.mem_append_left _ (List.mem_of_getElem? (l := tables_1_4) (i := 176) rfl)))))) rfl
theorem t_997 : (Jvm.Cond.methodLink "CardLinkLaw" (77 : Nat) ({ cls := "CardLinkLaw", name := "log", desc := "(LCardLink;II[J)I" } : Jvm.MethodName)) ∈ gW := gW_of (List.mem_of_getElem? (i := 997) (by decide +kernel)) rfl
theorem t_998 : (Jvm.Cond.static ({ cls := "CardLinkLaw", name := "log", desc := "(LCardLink;II[J)I" } : Jvm.MethodName)) ∈ gW := gW_of (List.mem_of_getElem? (i := 998) (by decide +kernel)) rfl
theorem t_1001 : (Jvm.Cond.methodLink "CardLinkLaw" (7 : Nat) ({ cls := "CardLink", name := "log", desc := "(II)I" } : Jvm.MethodName)) ∈ gW := gW_of (List.mem_of_getElem? (i := 1001) (by decide +kernel)) rfl
theorem t_1002 : (Jvm.Cond.instanceMethod ({ cls := "CardLink", name := "log", desc := "(II)I" } : Jvm.MethodName)) ∈ gW := gW_of (List.mem_of_getElem? (i := 1002) (by decide +kernel)) rfl
theorem t_1003 : (Jvm.Cond.selects "CardLink" ({ cls := "CardLink", name := "log", desc := "(II)I" } : Jvm.MethodName) ({ cls := "CardLink", name := "log", desc := "(II)I" } : Jvm.MethodName)) ∈ gW := gW_of (List.mem_of_getElem? (i := 1003) (by decide +kernel)) rfl
theorem t_1004 : (Jvm.Cond.code ({ cls := "CardLink", name := "log", desc := "(II)I" } : Jvm.MethodName) prog_1_method_19_code (3 : Nat) (Option.some Jvm.ClassFile.FieldType.int)) ∈ gW := gW_of (List.mem_append_right _ (List.mem_append_right _ (List.mem_append_right _ (List.mem_append_right _ (List.mem_append_left _ (List.mem_of_getElem? (l := tables_1_4) (i := 184) rfl)))))) rfl
theorem t_1005 : (Jvm.Cond.classLink "CardLink" (165 : Nat) "java/util/NoSuchElementException") ∈ gW := gW_of (List.mem_of_getElem? (i := 1005) (by decide +kernel)) rfl
theorem t_1066 : (Jvm.Cond.methodLink "CardLink" (168 : Nat) ({ cls := "CardLink$Journal", name := "tell", desc := "(II)I" } : Jvm.MethodName)) ∈ gW := gW_of (List.mem_of_getElem? (i := 1066) (by decide +kernel)) rfl
theorem t_1067 : (Jvm.Cond.instanceMethod ({ cls := "CardLink$Journal", name := "tell", desc := "(II)I" } : Jvm.MethodName)) ∈ gW := gW_of (List.mem_of_getElem? (i := 1067) (by decide +kernel)) rfl
theorem t_1068 : (Jvm.Cond.selects "CardLink$Journal" ({ cls := "CardLink$Journal", name := "tell", desc := "(II)I" } : Jvm.MethodName) ({ cls := "CardLink$Journal", name := "tell", desc := "(II)I" } : Jvm.MethodName)) ∈ gW := gW_of (List.mem_of_getElem? (i := 1068) (by decide +kernel)) rfl
theorem t_1069 : (Jvm.Cond.code ({ cls := "CardLink$Journal", name := "tell", desc := "(II)I" } : Jvm.MethodName) prog_3_method_11_code (6 : Nat) (Option.some Jvm.ClassFile.FieldType.int)) ∈ gW := gW_of (List.mem_append_right _ (List.mem_append_right _ (List.mem_append_right _ (List.mem_append_right _ (List.mem_append_right _ (List.mem_append_left _ (List.mem_of_getElem? (l := tables_1_5) (i := 9) rfl))))))) rfl
theorem t_1070 : (Jvm.Cond.classLink "CardLinkLaw" (16 : Nat) "CardLinkModel") ∈ gW := gW_of (List.mem_of_getElem? (i := 1070) (by decide +kernel)) rfl
theorem t_1071 : (Jvm.Cond.instantiable "CardLinkModel" (39 : Nat)) ∈ gW := gW_of (List.mem_of_getElem? (i := 1071) (by decide +kernel)) rfl
theorem t_1072 : (Jvm.Cond.methodLink "CardLinkLaw" (18 : Nat) ({ cls := "CardLinkModel", name := "<init>", desc := "()V" } : Jvm.MethodName)) ∈ gW := gW_of (List.mem_of_getElem? (i := 1072) (by decide +kernel)) rfl
theorem t_1073 : (Jvm.Cond.instanceMethod ({ cls := "CardLinkModel", name := "<init>", desc := "()V" } : Jvm.MethodName)) ∈ gW := gW_of (List.mem_of_getElem? (i := 1073) (by decide +kernel)) rfl
theorem t_1074 : (Jvm.Cond.code ({ cls := "CardLinkModel", name := "<init>", desc := "()V" } : Jvm.MethodName) prog_10_method_1_code (1 : Nat) (Option.none : Option Jvm.ClassFile.FieldType)) ∈ gW := gW_of (List.mem_append_right _ (List.mem_append_right _ (List.mem_append_right _ (List.mem_append_right _ (List.mem_append_right _ (List.mem_append_left _ (List.mem_of_getElem? (l := tables_1_5) (i := 14) rfl))))))) rfl
theorem t_1075 : (Jvm.Cond.methodLink "CardLinkModel" (1 : Nat) ({ cls := "java/lang/Object", name := "<init>", desc := "()V" } : Jvm.MethodName)) ∈ gW := gW_of (List.mem_of_getElem? (i := 1075) (by decide +kernel)) rfl
theorem t_1076 : (Jvm.Cond.constant "CardLinkModel" (47 : Nat) (131072 : Int32)) ∈ gW := gW_of (List.mem_of_getElem? (i := 1076) (by decide +kernel)) rfl
theorem t_1077 : (Jvm.Cond.methodLink "CardLinkModel" (63 : Nat) ({ cls := "CardLinkModel", name := "begins", desc := "()V" } : Jvm.MethodName)) ∈ gW := gW_of (List.mem_of_getElem? (i := 1077) (by decide +kernel)) rfl
theorem t_1079 : (Jvm.Cond.instanceMethod ({ cls := "CardLinkModel", name := "begins", desc := "()V" } : Jvm.MethodName)) ∈ gW := gW_of (List.mem_of_getElem? (i := 1079) (by decide +kernel)) rfl
theorem t_1080 : (Jvm.Cond.code ({ cls := "CardLinkModel", name := "begins", desc := "()V" } : Jvm.MethodName) prog_10_method_4_code (2 : Nat) (Option.none : Option Jvm.ClassFile.FieldType)) ∈ gW := gW_of (List.mem_append_right _ (List.mem_append_right _ (List.mem_append_right _ (List.mem_append_right _ (List.mem_append_right _ (List.mem_append_left _ (List.mem_of_getElem? (l := tables_1_5) (i := 20) rfl))))))) rfl
theorem t_1081 : (Jvm.Cond.fieldLink "CardLinkModel" (7 : Nat) "CardLinkModel" "tape" "[I") ∈ gW := gW_of (List.mem_of_getElem? (i := 1081) (by decide +kernel)) rfl
theorem t_1082 : (Jvm.Cond.fieldLink "CardLinkModel" (75 : Nat) "CardLinkModel" "taped" "I") ∈ gW := gW_of (List.mem_of_getElem? (i := 1082) (by decide +kernel)) rfl
theorem t_1083 : (Jvm.Cond.fieldLink "CardLinkModel" (66 : Nat) "CardLinkModel" "thrown" "I") ∈ gW := gW_of (List.mem_of_getElem? (i := 1083) (by decide +kernel)) rfl
theorem t_1084 : (Jvm.Cond.fieldLink "CardLinkModel" (134 : Nat) "CardLinkModel" "hasCard" "Z") ∈ gW := gW_of (List.mem_of_getElem? (i := 1084) (by decide +kernel)) rfl
theorem t_1085 : (Jvm.Cond.fieldLink "CardLinkModel" (13 : Nat) "CardLinkModel" "told" "[I") ∈ gW := gW_of (List.mem_of_getElem? (i := 1085) (by decide +kernel)) rfl
theorem t_1086 : (Jvm.Cond.fieldLink "CardLinkModel" (16 : Nat) "CardLinkModel" "draft" "[I") ∈ gW := gW_of (List.mem_of_getElem? (i := 1086) (by decide +kernel)) rfl
theorem t_1087 : (Jvm.Cond.fieldLink "CardLinkModel" (19 : Nat) "CardLinkModel" "history" "[I") ∈ gW := gW_of (List.mem_of_getElem? (i := 1087) (by decide +kernel)) rfl
theorem t_1088 : (Jvm.Cond.fieldLink "CardLinkModel" (22 : Nat) "CardLinkModel" "s" "[I") ∈ gW := gW_of (List.mem_of_getElem? (i := 1088) (by decide +kernel)) rfl
theorem t_1089 : (Jvm.Cond.fieldLink "CardLinkModel" (25 : Nat) "CardLinkModel" "kept" "[I") ∈ gW := gW_of (List.mem_of_getElem? (i := 1089) (by decide +kernel)) rfl
theorem t_1090 : (Jvm.Cond.fieldLink "CardLinkModel" (28 : Nat) "CardLinkModel" "repeats" "I") ∈ gW := gW_of (List.mem_of_getElem? (i := 1090) (by decide +kernel)) rfl
theorem t_1091 : (Jvm.Cond.fieldLink "CardLinkModel" (32 : Nat) "CardLinkModel" "log" "[I") ∈ gW := gW_of (List.mem_of_getElem? (i := 1091) (by decide +kernel)) rfl
theorem t_1092 : (Jvm.Cond.fieldLink "CardLinkModel" (35 : Nat) "CardLinkModel" "logBytes" "[I") ∈ gW := gW_of (List.mem_of_getElem? (i := 1092) (by decide +kernel)) rfl
theorem t_1093 : (Jvm.Cond.fieldLink "CardLinkModel" (69 : Nat) "CardLinkModel" "logged" "I") ∈ gW := gW_of (List.mem_of_getElem? (i := 1093) (by decide +kernel)) rfl
theorem t_1094 : (Jvm.Cond.fieldLink "CardLinkModel" (192 : Nat) "CardLinkModel" "logAt" "I") ∈ gW := gW_of (List.mem_of_getElem? (i := 1094) (by decide +kernel)) rfl
theorem t_1095 : (Jvm.Cond.fieldLink "CardLinkModel" (38 : Nat) "CardLinkModel" "unlikeFrom" "[I") ∈ gW := gW_of (List.mem_of_getElem? (i := 1095) (by decide +kernel)) rfl
theorem t_1096 : (Jvm.Cond.fieldLink "CardLinkModel" (41 : Nat) "CardLinkModel" "unlikeSide" "[I") ∈ gW := gW_of (List.mem_of_getElem? (i := 1096) (by decide +kernel)) rfl
theorem t_1097 : (Jvm.Cond.fieldLink "CardLinkModel" (44 : Nat) "CardLinkModel" "unlikeOften" "[I") ∈ gW := gW_of (List.mem_of_getElem? (i := 1097) (by decide +kernel)) rfl
theorem t_1098 : (Jvm.Cond.fieldLink "CardLinkModel" (48 : Nat) "CardLinkModel" "unlikeBytes" "[I") ∈ gW := gW_of (List.mem_of_getElem? (i := 1098) (by decide +kernel)) rfl
theorem t_1099 : (Jvm.Cond.fieldLink "CardLinkModel" (72 : Nat) "CardLinkModel" "unlike" "I") ∈ gW := gW_of (List.mem_of_getElem? (i := 1099) (by decide +kernel)) rfl
theorem t_1100 : (Jvm.Cond.fieldLink "CardLinkModel" (182 : Nat) "CardLinkModel" "quiet" "Z") ∈ gW := gW_of (List.mem_of_getElem? (i := 1100) (by decide +kernel)) rfl
theorem t_1101 : (Jvm.Cond.fieldLink "CardLinkModel" (92 : Nat) "CardLinkModel" "size" "I") ∈ gW := gW_of (List.mem_of_getElem? (i := 1101) (by decide +kernel)) rfl
theorem t_1102 : (Jvm.Cond.fieldLink "CardLinkModel" (89 : Nat) "CardLinkModel" "at" "I") ∈ gW := gW_of (List.mem_of_getElem? (i := 1102) (by decide +kernel)) rfl
theorem t_1103 : (Jvm.Cond.fieldLink "CardLinkModel" (86 : Nat) "CardLinkModel" "fault" "I") ∈ gW := gW_of (List.mem_of_getElem? (i := 1103) (by decide +kernel)) rfl
theorem t_1104 : (Jvm.Cond.fieldLink "CardLinkModel" (113 : Nat) "CardLinkModel" "special" "I") ∈ gW := gW_of (List.mem_of_getElem? (i := 1104) (by decide +kernel)) rfl
theorem t_1105 : (Jvm.Cond.fieldLink "CardLinkModel" (123 : Nat) "CardLinkModel" "hasOther" "Z") ∈ gW := gW_of (List.mem_of_getElem? (i := 1105) (by decide +kernel)) rfl
theorem t_1106 : (Jvm.Cond.fieldLink "CardLinkModel" (51 : Nat) "CardLinkModel" "block" "[I") ∈ gW := gW_of (List.mem_of_getElem? (i := 1106) (by decide +kernel)) rfl
theorem t_1107 : (Jvm.Cond.fieldLink "CardLinkModel" (167 : Nat) "CardLinkModel" "blockMany" "I") ∈ gW := gW_of (List.mem_of_getElem? (i := 1107) (by decide +kernel)) rfl
theorem t_1108 : (Jvm.Cond.fieldLink "CardLinkModel" (54 : Nat) "CardLinkModel" "came" "[I") ∈ gW := gW_of (List.mem_of_getElem? (i := 1108) (by decide +kernel)) rfl
theorem t_1109 : (Jvm.Cond.fieldLink "CardLinkModel" (160 : Nat) "CardLinkModel" "cameMany" "I") ∈ gW := gW_of (List.mem_of_getElem? (i := 1109) (by decide +kernel)) rfl
theorem t_1110 : (Jvm.Cond.fieldLink "CardLinkModel" (176 : Nat) "CardLinkModel" "cameHow" "I") ∈ gW := gW_of (List.mem_of_getElem? (i := 1110) (by decide +kernel)) rfl
theorem t_1111 : (Jvm.Cond.fieldLink "CardLinkModel" (154 : Nat) "CardLinkModel" "hasLost" "Z") ∈ gW := gW_of (List.mem_of_getElem? (i := 1111) (by decide +kernel)) rfl
theorem t_1112 : (Jvm.Cond.fieldLink "CardLinkModel" (157 : Nat) "CardLinkModel" "hasSpoilt" "Z") ∈ gW := gW_of (List.mem_of_getElem? (i := 1112) (by decide +kernel)) rfl
theorem t_1113 : (Jvm.Cond.fieldLink "CardLinkModel" (57 : Nat) "CardLinkModel" "inf" "[I") ∈ gW := gW_of (List.mem_of_getElem? (i := 1113) (by decide +kernel)) rfl
theorem t_1114 : (Jvm.Cond.fieldLink "CardLinkModel" (179 : Nat) "CardLinkModel" "hasSent" "Z") ∈ gW := gW_of (List.mem_of_getElem? (i := 1114) (by decide +kernel)) rfl
theorem t_1115 : (Jvm.Cond.fieldLink "CardLinkModel" (219 : Nat) "CardLinkModel" "tryOf" "I") ∈ gW := gW_of (List.mem_of_getElem? (i := 1115) (by decide +kernel)) rfl
theorem t_1116 : (Jvm.Cond.fieldLink "CardLinkModel" (222 : Nat) "CardLinkModel" "reason" "I") ∈ gW := gW_of (List.mem_of_getElem? (i := 1116) (by decide +kernel)) rfl
theorem t_1117 : (Jvm.Cond.fieldLink "CardLinkModel" (306 : Nat) "CardLinkModel" "wouldSend" "I") ∈ gW := gW_of (List.mem_of_getElem? (i := 1117) (by decide +kernel)) rfl
theorem t_1118 : (Jvm.Cond.fieldLink "CardLinkModel" (60 : Nat) "CardLinkModel" "wanted" "[I") ∈ gW := gW_of (List.mem_of_getElem? (i := 1118) (by decide +kernel)) rfl
theorem t_1119 : (Jvm.Cond.fieldLink "CardLinkModel" (318 : Nat) "CardLinkModel" "wantedMany" "I") ∈ gW := gW_of (List.mem_of_getElem? (i := 1119) (by decide +kernel)) rfl
theorem t_1199 : (Jvm.Cond.methodLink "CardLinkLaw" (25 : Nat) ({ cls := "CardLinkModel", name := "feed", desc := "(JJ)I" } : Jvm.MethodName)) ∈ gW := gW_of (List.mem_of_getElem? (i := 1199) (by decide +kernel)) rfl
theorem t_1200 : (Jvm.Cond.instanceMethod ({ cls := "CardLinkModel", name := "feed", desc := "(JJ)I" } : Jvm.MethodName)) ∈ gW := gW_of (List.mem_of_getElem? (i := 1200) (by decide +kernel)) rfl
theorem t_1201 : (Jvm.Cond.selects "CardLinkModel" ({ cls := "CardLinkModel", name := "feed", desc := "(JJ)I" } : Jvm.MethodName) ({ cls := "CardLinkModel", name := "feed", desc := "(JJ)I" } : Jvm.MethodName)) ∈ gW := gW_of (List.mem_of_getElem? (i := 1201) (by decide +kernel)) rfl
theorem t_1202 : (Jvm.Cond.code ({ cls := "CardLinkModel", name := "feed", desc := "(JJ)I" } : Jvm.MethodName) prog_10_method_6_code (5 : Nat) (Option.some Jvm.ClassFile.FieldType.int)) ∈ gW := gW_of (List.mem_append_right _ (List.mem_append_right _ (List.mem_append_right _ (List.mem_append_right _ (List.mem_append_right _ (List.mem_append_left _ (List.mem_of_getElem? (l := tables_1_5) (i := 142) rfl))))))) rfl
theorem t_1203 : (Jvm.Cond.methodLink "CardLinkModel" (78 : Nat) ({ cls := "CardLinkModel", name := "eight", desc := "(J)V" } : Jvm.MethodName)) ∈ gW := gW_of (List.mem_of_getElem? (i := 1203) (by decide +kernel)) rfl
theorem t_1205 : (Jvm.Cond.instanceMethod ({ cls := "CardLinkModel", name := "eight", desc := "(J)V" } : Jvm.MethodName)) ∈ gW := gW_of (List.mem_of_getElem? (i := 1205) (by decide +kernel)) rfl
theorem t_1206 : (Jvm.Cond.code ({ cls := "CardLinkModel", name := "eight", desc := "(J)V" } : Jvm.MethodName) prog_10_method_5_code (4 : Nat) (Option.none : Option Jvm.ClassFile.FieldType)) ∈ gW := gW_of (List.mem_append_right _ (List.mem_append_right _ (List.mem_append_right _ (List.mem_append_right _ (List.mem_append_right _ (List.mem_append_left _ (List.mem_of_getElem? (l := tables_1_5) (i := 146) rfl))))))) rfl
theorem t_1207 : (Jvm.Cond.methodLink "CardLinkLaw" (30 : Nat) ({ cls := "CardLinkModel", name := "end", desc := "(I)I" } : Jvm.MethodName)) ∈ gW := gW_of (List.mem_of_getElem? (i := 1207) (by decide +kernel)) rfl
theorem t_1208 : (Jvm.Cond.instanceMethod ({ cls := "CardLinkModel", name := "end", desc := "(I)I" } : Jvm.MethodName)) ∈ gW := gW_of (List.mem_of_getElem? (i := 1208) (by decide +kernel)) rfl
theorem t_1209 : (Jvm.Cond.selects "CardLinkModel" ({ cls := "CardLinkModel", name := "end", desc := "(I)I" } : Jvm.MethodName) ({ cls := "CardLinkModel", name := "end", desc := "(I)I" } : Jvm.MethodName)) ∈ gW := gW_of (List.mem_of_getElem? (i := 1209) (by decide +kernel)) rfl
theorem t_1210 : (Jvm.Cond.code ({ cls := "CardLinkModel", name := "end", desc := "(I)I" } : Jvm.MethodName) prog_10_method_7_code (2 : Nat) (Option.some Jvm.ClassFile.FieldType.int)) ∈ gW := gW_of (List.mem_append_right _ (List.mem_append_right _ (List.mem_append_right _ (List.mem_append_right _ (List.mem_append_right _ (List.mem_append_left _ (List.mem_of_getElem? (l := tables_1_5) (i := 150) rfl))))))) rfl
theorem t_1211 : (Jvm.Cond.methodLink "CardLinkModel" (82 : Nat) ({ cls := "CardLinkModel", name := "within", desc := "(III)Z" } : Jvm.MethodName)) ∈ gW := gW_of (List.mem_of_getElem? (i := 1211) (by decide +kernel)) rfl
theorem t_1212 : (Jvm.Cond.static ({ cls := "CardLinkModel", name := "within", desc := "(III)Z" } : Jvm.MethodName)) ∈ gW := gW_of (List.mem_of_getElem? (i := 1212) (by decide +kernel)) rfl
theorem t_1213 : (Jvm.Cond.code ({ cls := "CardLinkModel", name := "within", desc := "(III)Z" } : Jvm.MethodName) prog_10_method_3_code (3 : Nat) (Option.some Jvm.ClassFile.FieldType.boolean)) ∈ gW := gW_of (List.mem_append_right _ (List.mem_append_right _ (List.mem_append_right _ (List.mem_append_right _ (List.mem_append_right _ (List.mem_append_left _ (List.mem_of_getElem? (l := tables_1_5) (i := 153) rfl))))))) rfl
theorem t_1214 : (Jvm.Cond.methodLink "CardLinkLaw" (35 : Nat) ({ cls := "CardLinkModel", name := "reset", desc := "()I" } : Jvm.MethodName)) ∈ gW := gW_of (List.mem_of_getElem? (i := 1214) (by decide +kernel)) rfl
theorem t_1215 : (Jvm.Cond.instanceMethod ({ cls := "CardLinkModel", name := "reset", desc := "()I" } : Jvm.MethodName)) ∈ gW := gW_of (List.mem_of_getElem? (i := 1215) (by decide +kernel)) rfl
theorem t_1216 : (Jvm.Cond.selects "CardLinkModel" ({ cls := "CardLinkModel", name := "reset", desc := "()I" } : Jvm.MethodName) ({ cls := "CardLinkModel", name := "reset", desc := "()I" } : Jvm.MethodName)) ∈ gW := gW_of (List.mem_of_getElem? (i := 1216) (by decide +kernel)) rfl
theorem t_1217 : (Jvm.Cond.code ({ cls := "CardLinkModel", name := "reset", desc := "()I" } : Jvm.MethodName) prog_10_method_16_code (4 : Nat) (Option.some Jvm.ClassFile.FieldType.int)) ∈ gW := gW_of (List.mem_append_right _ (List.mem_append_right _ (List.mem_append_right _ (List.mem_append_right _ (List.mem_append_right _ (List.mem_append_left _ (List.mem_of_getElem? (l := tables_1_5) (i := 157) rfl))))))) rfl
theorem t_1218 : (Jvm.Cond.methodLink "CardLinkModel" (99 : Nat) ({ cls := "CardLinkModel", name := "byteNext", desc := "()I" } : Jvm.MethodName)) ∈ gW := gW_of (List.mem_of_getElem? (i := 1218) (by decide +kernel)) rfl
theorem t_1220 : (Jvm.Cond.instanceMethod ({ cls := "CardLinkModel", name := "byteNext", desc := "()I" } : Jvm.MethodName)) ∈ gW := gW_of (List.mem_of_getElem? (i := 1220) (by decide +kernel)) rfl
theorem t_1221 : (Jvm.Cond.code ({ cls := "CardLinkModel", name := "byteNext", desc := "()I" } : Jvm.MethodName) prog_10_method_8_code (1 : Nat) (Option.some Jvm.ClassFile.FieldType.int)) ∈ gW := gW_of (List.mem_append_right _ (List.mem_append_right _ (List.mem_append_right _ (List.mem_append_right _ (List.mem_append_right _ (List.mem_append_left _ (List.mem_of_getElem? (l := tables_1_5) (i := 161) rfl))))))) rfl
theorem t_1222 : (Jvm.Cond.methodLink "CardLinkModel" (95 : Nat) ({ cls := "CardLinkModel", name := "wrong", desc := "(II)V" } : Jvm.MethodName)) ∈ gW := gW_of (List.mem_of_getElem? (i := 1222) (by decide +kernel)) rfl
theorem t_1224 : (Jvm.Cond.instanceMethod ({ cls := "CardLinkModel", name := "wrong", desc := "(II)V" } : Jvm.MethodName)) ∈ gW := gW_of (List.mem_of_getElem? (i := 1224) (by decide +kernel)) rfl
theorem t_1225 : (Jvm.Cond.code ({ cls := "CardLinkModel", name := "wrong", desc := "(II)V" } : Jvm.MethodName) prog_10_method_9_code (3 : Nat) (Option.none : Option Jvm.ClassFile.FieldType)) ∈ gW := gW_of (List.mem_append_right _ (List.mem_append_right _ (List.mem_append_right _ (List.mem_append_right _ (List.mem_append_right _ (List.mem_append_left _ (List.mem_of_getElem? (l := tables_1_5) (i := 165) rfl))))))) rfl
theorem t_1226 : (Jvm.Cond.methodLink "CardLinkModel" (127 : Nat) ({ cls := "CardLinkModel", name := "groupsTold", desc := "(I)V" } : Jvm.MethodName)) ∈ gW := gW_of (List.mem_of_getElem? (i := 1226) (by decide +kernel)) rfl
theorem t_1228 : (Jvm.Cond.instanceMethod ({ cls := "CardLinkModel", name := "groupsTold", desc := "(I)V" } : Jvm.MethodName)) ∈ gW := gW_of (List.mem_of_getElem? (i := 1228) (by decide +kernel)) rfl
theorem t_1229 : (Jvm.Cond.code ({ cls := "CardLinkModel", name := "groupsTold", desc := "(I)V" } : Jvm.MethodName) prog_10_method_15_code (6 : Nat) (Option.none : Option Jvm.ClassFile.FieldType)) ∈ gW := gW_of (List.mem_append_right _ (List.mem_append_right _ (List.mem_append_right _ (List.mem_append_right _ (List.mem_append_right _ (List.mem_append_left _ (List.mem_of_getElem? (l := tables_1_5) (i := 169) rfl))))))) rfl
theorem t_1230 : (Jvm.Cond.methodLink "CardLinkModel" (119 : Nat) ({ cls := "CardLinkModel", name := "groupTold", desc := "(II)I" } : Jvm.MethodName)) ∈ gW := gW_of (List.mem_of_getElem? (i := 1230) (by decide +kernel)) rfl
theorem t_1232 : (Jvm.Cond.instanceMethod ({ cls := "CardLinkModel", name := "groupTold", desc := "(II)I" } : Jvm.MethodName)) ∈ gW := gW_of (List.mem_of_getElem? (i := 1232) (by decide +kernel)) rfl
theorem t_1233 : (Jvm.Cond.code ({ cls := "CardLinkModel", name := "groupTold", desc := "(II)I" } : Jvm.MethodName) prog_10_method_14_code (4 : Nat) (Option.some Jvm.ClassFile.FieldType.int)) ∈ gW := gW_of (List.mem_append_right _ (List.mem_append_right _ (List.mem_append_right _ (List.mem_append_right _ (List.mem_append_right _ (List.mem_append_left _ (List.mem_of_getElem? (l := tables_1_5) (i := 173) rfl))))))) rfl
theorem t_1234 : (Jvm.Cond.methodLink "CardLinkModel" (110 : Nat) ({ cls := "CardLinkModel", name := "factor", desc := "()V" } : Jvm.MethodName)) ∈ gW := gW_of (List.mem_of_getElem? (i := 1234) (by decide +kernel)) rfl
theorem t_1236 : (Jvm.Cond.instanceMethod ({ cls := "CardLinkModel", name := "factor", desc := "()V" } : Jvm.MethodName)) ∈ gW := gW_of (List.mem_of_getElem? (i := 1236) (by decide +kernel)) rfl
theorem t_1237 : (Jvm.Cond.code ({ cls := "CardLinkModel", name := "factor", desc := "()V" } : Jvm.MethodName) prog_10_method_12_code (2 : Nat) (Option.none : Option Jvm.ClassFile.FieldType)) ∈ gW := gW_of (List.mem_append_right _ (List.mem_append_right _ (List.mem_append_right _ (List.mem_append_right _ (List.mem_append_right _ (List.mem_append_left _ (List.mem_of_getElem? (l := tables_1_5) (i := 177) rfl))))))) rfl
theorem t_1238 : (Jvm.Cond.methodLink "CardLinkModel" (103 : Nat) ({ cls := "CardLinkModel", name := "clocks", desc := "(I)I" } : Jvm.MethodName)) ∈ gW := gW_of (List.mem_of_getElem? (i := 1238) (by decide +kernel)) rfl
theorem t_1239 : (Jvm.Cond.static ({ cls := "CardLinkModel", name := "clocks", desc := "(I)I" } : Jvm.MethodName)) ∈ gW := gW_of (List.mem_of_getElem? (i := 1239) (by decide +kernel)) rfl
theorem t_1240 : (Jvm.Cond.code ({ cls := "CardLinkModel", name := "clocks", desc := "(I)I" } : Jvm.MethodName) prog_10_method_10_code (1 : Nat) (Option.some Jvm.ClassFile.FieldType.int)) ∈ gW := gW_of (List.mem_append_right _ (List.mem_append_right _ (List.mem_append_right _ (List.mem_append_right _ (List.mem_append_right _ (List.mem_append_left _ (List.mem_of_getElem? (l := tables_1_5) (i := 180) rfl))))))) rfl
theorem t_1241 : (Jvm.Cond.methodLink "CardLinkModel" (107 : Nat) ({ cls := "CardLinkModel", name := "bits", desc := "(I)I" } : Jvm.MethodName)) ∈ gW := gW_of (List.mem_of_getElem? (i := 1241) (by decide +kernel)) rfl
theorem t_1242 : (Jvm.Cond.static ({ cls := "CardLinkModel", name := "bits", desc := "(I)I" } : Jvm.MethodName)) ∈ gW := gW_of (List.mem_of_getElem? (i := 1242) (by decide +kernel)) rfl
theorem t_1243 : (Jvm.Cond.code ({ cls := "CardLinkModel", name := "bits", desc := "(I)I" } : Jvm.MethodName) prog_10_method_11_code (1 : Nat) (Option.some Jvm.ClassFile.FieldType.int)) ∈ gW := gW_of (List.mem_append_right _ (List.mem_append_right _ (List.mem_append_right _ (List.mem_append_right _ (List.mem_append_right _ (List.mem_append_left _ (List.mem_of_getElem? (l := tables_1_5) (i := 183) rfl))))))) rfl
theorem t_1244 : (Jvm.Cond.methodLink "CardLinkModel" (116 : Nat) ({ cls := "CardLinkModel", name := "window", desc := "()V" } : Jvm.MethodName)) ∈ gW := gW_of (List.mem_of_getElem? (i := 1244) (by decide +kernel)) rfl
theorem t_1246 : (Jvm.Cond.instanceMethod ({ cls := "CardLinkModel", name := "window", desc := "()V" } : Jvm.MethodName)) ∈ gW := gW_of (List.mem_of_getElem? (i := 1246) (by decide +kernel)) rfl
theorem t_1247 : (Jvm.Cond.code ({ cls := "CardLinkModel", name := "window", desc := "()V" } : Jvm.MethodName) prog_10_method_13_code (2 : Nat) (Option.none : Option Jvm.ClassFile.FieldType)) ∈ gW := gW_of (List.mem_append_right _ (List.mem_append_right _ (List.mem_append_right _ (List.mem_append_right _ (List.mem_append_right _ (List.mem_append_left _ (List.mem_of_getElem? (l := tables_1_5) (i := 187) rfl))))))) rfl
theorem t_1248 : (Jvm.Cond.methodLink "CardLinkModel" (131 : Nat) ({ cls := "CardLinkModel", name := "checks", desc := "()V" } : Jvm.MethodName)) ∈ gW := gW_of (List.mem_of_getElem? (i := 1248) (by decide +kernel)) rfl
theorem t_1250 : (Jvm.Cond.instanceMethod ({ cls := "CardLinkModel", name := "checks", desc := "()V" } : Jvm.MethodName)) ∈ gW := gW_of (List.mem_of_getElem? (i := 1250) (by decide +kernel)) rfl
theorem t_1251 : (Jvm.Cond.code ({ cls := "CardLinkModel", name := "checks", desc := "()V" } : Jvm.MethodName) prog_10_method_17_code (3 : Nat) (Option.none : Option Jvm.ClassFile.FieldType)) ∈ gW := gW_of (List.mem_append_right _ (List.mem_append_right _ (List.mem_append_right _ (List.mem_append_right _ (List.mem_append_right _ (List.mem_append_left _ (List.mem_of_getElem? (l := tables_1_5) (i := 191) rfl))))))) rfl
theorem t_1252 : (Jvm.Cond.methodLink "CardLinkLaw" (39 : Nat) ({ cls := "CardLinkModel", name := "answer", desc := "(I)I" } : Jvm.MethodName)) ∈ gW := gW_of (List.mem_of_getElem? (i := 1252) (by decide +kernel)) rfl
theorem t_1253 : (Jvm.Cond.instanceMethod ({ cls := "CardLinkModel", name := "answer", desc := "(I)I" } : Jvm.MethodName)) ∈ gW := gW_of (List.mem_of_getElem? (i := 1253) (by decide +kernel)) rfl
theorem t_1254 : (Jvm.Cond.selects "CardLinkModel" ({ cls := "CardLinkModel", name := "answer", desc := "(I)I" } : Jvm.MethodName) ({ cls := "CardLinkModel", name := "answer", desc := "(I)I" } : Jvm.MethodName)) ∈ gW := gW_of (List.mem_of_getElem? (i := 1254) (by decide +kernel)) rfl
theorem t_1255 : (Jvm.Cond.code ({ cls := "CardLinkModel", name := "answer", desc := "(I)I" } : Jvm.MethodName) prog_10_method_18_code (2 : Nat) (Option.some Jvm.ClassFile.FieldType.int)) ∈ gW := gW_of (List.mem_append_right _ (List.mem_append_right _ (List.mem_append_right _ (List.mem_append_right _ (List.mem_append_right _ (List.mem_append_left _ (List.mem_of_getElem? (l := tables_1_5) (i := 195) rfl))))))) rfl
theorem t_1256 : (Jvm.Cond.methodLink "CardLinkLaw" (43 : Nat) ({ cls := "CardLinkModel", name := "historical", desc := "(I)I" } : Jvm.MethodName)) ∈ gW := gW_of (List.mem_of_getElem? (i := 1256) (by decide +kernel)) rfl
theorem t_1257 : (Jvm.Cond.instanceMethod ({ cls := "CardLinkModel", name := "historical", desc := "(I)I" } : Jvm.MethodName)) ∈ gW := gW_of (List.mem_of_getElem? (i := 1257) (by decide +kernel)) rfl
theorem t_1258 : (Jvm.Cond.selects "CardLinkModel" ({ cls := "CardLinkModel", name := "historical", desc := "(I)I" } : Jvm.MethodName) ({ cls := "CardLinkModel", name := "historical", desc := "(I)I" } : Jvm.MethodName)) ∈ gW := gW_of (List.mem_of_getElem? (i := 1258) (by decide +kernel)) rfl
theorem t_1259 : (Jvm.Cond.code ({ cls := "CardLinkModel", name := "historical", desc := "(I)I" } : Jvm.MethodName) prog_10_method_19_code (2 : Nat) (Option.some Jvm.ClassFile.FieldType.int)) ∈ gW := gW_of (List.mem_append_right _ (List.mem_append_right _ (List.mem_append_right _ (List.mem_append_right _ (List.mem_append_right _ (List.mem_append_left _ (List.mem_of_getElem? (l := tables_1_5) (i := 199) rfl))))))) rfl
theorem t_1260 : (Jvm.Cond.methodLink "CardLinkLaw" (47 : Nat) ({ cls := "CardLinkModel", name := "message", desc := "()I" } : Jvm.MethodName)) ∈ gW := gW_of (List.mem_of_getElem? (i := 1260) (by decide +kernel)) rfl
theorem t_1261 : (Jvm.Cond.instanceMethod ({ cls := "CardLinkModel", name := "message", desc := "()I" } : Jvm.MethodName)) ∈ gW := gW_of (List.mem_of_getElem? (i := 1261) (by decide +kernel)) rfl
theorem t_1262 : (Jvm.Cond.selects "CardLinkModel" ({ cls := "CardLinkModel", name := "message", desc := "()I" } : Jvm.MethodName) ({ cls := "CardLinkModel", name := "message", desc := "()I" } : Jvm.MethodName)) ∈ gW := gW_of (List.mem_of_getElem? (i := 1262) (by decide +kernel)) rfl
theorem t_1263 : (Jvm.Cond.code ({ cls := "CardLinkModel", name := "message", desc := "()I" } : Jvm.MethodName) prog_10_method_22_code (3 : Nat) (Option.some Jvm.ClassFile.FieldType.int)) ∈ gW := gW_of (List.mem_append_right _ (List.mem_append_right _ (List.mem_append_right _ (List.mem_append_right _ (List.mem_append_right _ (List.mem_append_left _ (List.mem_of_getElem? (l := tables_1_5) (i := 203) rfl))))))) rfl
theorem t_1264 : (Jvm.Cond.methodLink "CardLinkModel" (137 : Nat) ({ cls := "CardLinkModel", name := "canBegin", desc := "()Z" } : Jvm.MethodName)) ∈ gW := gW_of (List.mem_of_getElem? (i := 1264) (by decide +kernel)) rfl
theorem t_1266 : (Jvm.Cond.instanceMethod ({ cls := "CardLinkModel", name := "canBegin", desc := "()Z" } : Jvm.MethodName)) ∈ gW := gW_of (List.mem_of_getElem? (i := 1266) (by decide +kernel)) rfl
theorem t_1267 : (Jvm.Cond.code ({ cls := "CardLinkModel", name := "canBegin", desc := "()Z" } : Jvm.MethodName) prog_10_method_20_code (1 : Nat) (Option.some Jvm.ClassFile.FieldType.boolean)) ∈ gW := gW_of (List.mem_append_right _ (List.mem_append_right _ (List.mem_append_right _ (List.mem_append_right _ (List.mem_append_right _ (List.mem_append_left _ (List.mem_of_getElem? (l := tables_1_5) (i := 207) rfl))))))) rfl
theorem t_1268 : (Jvm.Cond.methodLink "CardLinkModel" (141 : Nat) ({ cls := "CardLinkModel", name := "starts", desc := "(I)V" } : Jvm.MethodName)) ∈ gW := gW_of (List.mem_of_getElem? (i := 1268) (by decide +kernel)) rfl
theorem t_1270 : (Jvm.Cond.instanceMethod ({ cls := "CardLinkModel", name := "starts", desc := "(I)V" } : Jvm.MethodName)) ∈ gW := gW_of (List.mem_of_getElem? (i := 1270) (by decide +kernel)) rfl
theorem t_1271 : (Jvm.Cond.code ({ cls := "CardLinkModel", name := "starts", desc := "(I)V" } : Jvm.MethodName) prog_10_method_21_code (2 : Nat) (Option.none : Option Jvm.ClassFile.FieldType)) ∈ gW := gW_of (List.mem_append_right _ (List.mem_append_right _ (List.mem_append_right _ (List.mem_append_right _ (List.mem_append_right _ (List.mem_append_left _ (List.mem_of_getElem? (l := tables_1_5) (i := 211) rfl))))))) rfl
theorem t_1272 : (Jvm.Cond.methodLink "CardLinkLaw" (51 : Nat) ({ cls := "CardLinkModel", name := "room", desc := "(I)I" } : Jvm.MethodName)) ∈ gW := gW_of (List.mem_of_getElem? (i := 1272) (by decide +kernel)) rfl
theorem t_1273 : (Jvm.Cond.instanceMethod ({ cls := "CardLinkModel", name := "room", desc := "(I)I" } : Jvm.MethodName)) ∈ gW := gW_of (List.mem_of_getElem? (i := 1273) (by decide +kernel)) rfl
theorem t_1274 : (Jvm.Cond.selects "CardLinkModel" ({ cls := "CardLinkModel", name := "room", desc := "(I)I" } : Jvm.MethodName) ({ cls := "CardLinkModel", name := "room", desc := "(I)I" } : Jvm.MethodName)) ∈ gW := gW_of (List.mem_of_getElem? (i := 1274) (by decide +kernel)) rfl
theorem t_1275 : (Jvm.Cond.code ({ cls := "CardLinkModel", name := "room", desc := "(I)I" } : Jvm.MethodName) prog_10_method_23_code (2 : Nat) (Option.some Jvm.ClassFile.FieldType.int)) ∈ gW := gW_of (List.mem_append_right _ (List.mem_append_right _ (List.mem_append_right _ (List.mem_append_right _ (List.mem_append_right _ (List.mem_append_left _ (List.mem_of_getElem? (l := tables_1_5) (i := 215) rfl))))))) rfl
theorem t_1276 : (Jvm.Cond.methodLink "CardLinkLaw" (56 : Nat) ({ cls := "CardLinkModel", name := "fault", desc := "(III)I" } : Jvm.MethodName)) ∈ gW := gW_of (List.mem_of_getElem? (i := 1276) (by decide +kernel)) rfl
theorem t_1277 : (Jvm.Cond.instanceMethod ({ cls := "CardLinkModel", name := "fault", desc := "(III)I" } : Jvm.MethodName)) ∈ gW := gW_of (List.mem_of_getElem? (i := 1277) (by decide +kernel)) rfl
theorem t_1278 : (Jvm.Cond.selects "CardLinkModel" ({ cls := "CardLinkModel", name := "fault", desc := "(III)I" } : Jvm.MethodName) ({ cls := "CardLinkModel", name := "fault", desc := "(III)I" } : Jvm.MethodName)) ∈ gW := gW_of (List.mem_of_getElem? (i := 1278) (by decide +kernel)) rfl
theorem t_1279 : (Jvm.Cond.code ({ cls := "CardLinkModel", name := "fault", desc := "(III)I" } : Jvm.MethodName) prog_10_method_27_code (4 : Nat) (Option.some Jvm.ClassFile.FieldType.int)) ∈ gW := gW_of (List.mem_append_right _ (List.mem_append_right _ (List.mem_append_right _ (List.mem_append_right _ (List.mem_append_right _ (List.mem_append_left _ (List.mem_of_getElem? (l := tables_1_5) (i := 219) rfl))))))) rfl
theorem t_1280 : (Jvm.Cond.methodLink "CardLinkModel" (147 : Nat) ({ cls := "CardLinkModel", name := "passes", desc := "()V" } : Jvm.MethodName)) ∈ gW := gW_of (List.mem_of_getElem? (i := 1280) (by decide +kernel)) rfl
theorem t_1282 : (Jvm.Cond.instanceMethod ({ cls := "CardLinkModel", name := "passes", desc := "()V" } : Jvm.MethodName)) ∈ gW := gW_of (List.mem_of_getElem? (i := 1282) (by decide +kernel)) rfl
theorem t_1283 : (Jvm.Cond.code ({ cls := "CardLinkModel", name := "passes", desc := "()V" } : Jvm.MethodName) prog_10_method_25_code (4 : Nat) (Option.none : Option Jvm.ClassFile.FieldType)) ∈ gW := gW_of (List.mem_append_right _ (List.mem_append_right _ (List.mem_append_right _ (List.mem_append_right _ (List.mem_append_right _ (List.mem_append_left _ (List.mem_of_getElem? (l := tables_1_5) (i := 223) rfl))))))) rfl
theorem t_1284 : (Jvm.Cond.methodLink "CardLinkModel" (144 : Nat) ({ cls := "CardLinkModel", name := "faultAt", desc := "(I)I" } : Jvm.MethodName)) ∈ gW := gW_of (List.mem_of_getElem? (i := 1284) (by decide +kernel)) rfl
theorem t_1286 : (Jvm.Cond.instanceMethod ({ cls := "CardLinkModel", name := "faultAt", desc := "(I)I" } : Jvm.MethodName)) ∈ gW := gW_of (List.mem_of_getElem? (i := 1286) (by decide +kernel)) rfl
theorem t_1287 : (Jvm.Cond.code ({ cls := "CardLinkModel", name := "faultAt", desc := "(I)I" } : Jvm.MethodName) prog_10_method_24_code (3 : Nat) (Option.some Jvm.ClassFile.FieldType.int)) ∈ gW := gW_of (List.mem_append_right _ (List.mem_append_right _ (List.mem_append_right _ (List.mem_append_right _ (List.mem_append_right _ (List.mem_append_left _ (List.mem_of_getElem? (l := tables_1_5) (i := 227) rfl))))))) rfl
theorem t_1288 : (Jvm.Cond.methodLink "CardLinkModel" (150 : Nat) ({ cls := "CardLinkModel", name := "putsFault", desc := "(III)V" } : Jvm.MethodName)) ∈ gW := gW_of (List.mem_of_getElem? (i := 1288) (by decide +kernel)) rfl
theorem t_1290 : (Jvm.Cond.instanceMethod ({ cls := "CardLinkModel", name := "putsFault", desc := "(III)V" } : Jvm.MethodName)) ∈ gW := gW_of (List.mem_of_getElem? (i := 1290) (by decide +kernel)) rfl
theorem t_1291 : (Jvm.Cond.code ({ cls := "CardLinkModel", name := "putsFault", desc := "(III)V" } : Jvm.MethodName) prog_10_method_26_code (5 : Nat) (Option.none : Option Jvm.ClassFile.FieldType)) ∈ gW := gW_of (List.mem_append_right _ (List.mem_append_right _ (List.mem_append_right _ (List.mem_append_right _ (List.mem_append_right _ (List.mem_append_left _ (List.mem_of_getElem? (l := tables_1_5) (i := 231) rfl))))))) rfl
theorem t_1292 : (Jvm.Cond.methodLink "CardLinkLaw" (60 : Nat) ({ cls := "CardLinkModel", name := "repeats", desc := "(I)I" } : Jvm.MethodName)) ∈ gW := gW_of (List.mem_of_getElem? (i := 1292) (by decide +kernel)) rfl
theorem t_1293 : (Jvm.Cond.instanceMethod ({ cls := "CardLinkModel", name := "repeats", desc := "(I)I" } : Jvm.MethodName)) ∈ gW := gW_of (List.mem_of_getElem? (i := 1293) (by decide +kernel)) rfl
theorem t_1294 : (Jvm.Cond.selects "CardLinkModel" ({ cls := "CardLinkModel", name := "repeats", desc := "(I)I" } : Jvm.MethodName) ({ cls := "CardLinkModel", name := "repeats", desc := "(I)I" } : Jvm.MethodName)) ∈ gW := gW_of (List.mem_of_getElem? (i := 1294) (by decide +kernel)) rfl
theorem t_1295 : (Jvm.Cond.code ({ cls := "CardLinkModel", name := "repeats", desc := "(I)I" } : Jvm.MethodName) prog_10_method_28_code (3 : Nat) (Option.some Jvm.ClassFile.FieldType.int)) ∈ gW := gW_of (List.mem_append_right _ (List.mem_append_right _ (List.mem_append_right _ (List.mem_append_right _ (List.mem_append_right _ (List.mem_append_left _ (List.mem_of_getElem? (l := tables_1_5) (i := 235) rfl))))))) rfl
theorem t_1296 : (Jvm.Cond.methodLink "CardLinkLaw" (64 : Nat) ({ cls := "CardLinkModel", name := "step", desc := "(I)I" } : Jvm.MethodName)) ∈ gW := gW_of (List.mem_of_getElem? (i := 1296) (by decide +kernel)) rfl
theorem t_1297 : (Jvm.Cond.instanceMethod ({ cls := "CardLinkModel", name := "step", desc := "(I)I" } : Jvm.MethodName)) ∈ gW := gW_of (List.mem_of_getElem? (i := 1297) (by decide +kernel)) rfl
theorem t_1298 : (Jvm.Cond.selects "CardLinkModel" ({ cls := "CardLinkModel", name := "step", desc := "(I)I" } : Jvm.MethodName) ({ cls := "CardLinkModel", name := "step", desc := "(I)I" } : Jvm.MethodName)) ∈ gW := gW_of (List.mem_of_getElem? (i := 1298) (by decide +kernel)) rfl
theorem t_1299 : (Jvm.Cond.code ({ cls := "CardLinkModel", name := "step", desc := "(I)I" } : Jvm.MethodName) prog_10_method_67_code (4 : Nat) (Option.some Jvm.ClassFile.FieldType.int)) ∈ gW := gW_of (List.mem_append_right _ (List.mem_append_right _ (List.mem_append_right _ (List.mem_append_right _ (List.mem_append_right _ (List.mem_append_left _ (List.mem_of_getElem? (l := tables_1_5) (i := 239) rfl))))))) rfl
theorem t_1300 : (Jvm.Cond.methodLink "CardLinkModel" (297 : Nat) ({ cls := "CardLinkModel", name := "turns", desc := "()I" } : Jvm.MethodName)) ∈ gW := gW_of (List.mem_of_getElem? (i := 1300) (by decide +kernel)) rfl
theorem t_1302 : (Jvm.Cond.instanceMethod ({ cls := "CardLinkModel", name := "turns", desc := "()I" } : Jvm.MethodName)) ∈ gW := gW_of (List.mem_of_getElem? (i := 1302) (by decide +kernel)) rfl
theorem t_1303 : (Jvm.Cond.code ({ cls := "CardLinkModel", name := "turns", desc := "()I" } : Jvm.MethodName) prog_10_method_66_code (4 : Nat) (Option.some Jvm.ClassFile.FieldType.int)) ∈ gW := gW_of (List.mem_append_right _ (List.mem_append_right _ (List.mem_append_right _ (List.mem_append_right _ (List.mem_append_right _ (List.mem_append_right _ (List.mem_of_getElem? (l := tables_1_6) (i := 3) rfl))))))) rfl
theorem t_1304 : (Jvm.Cond.methodLink "CardLinkModel" (213 : Nat) ({ cls := "CardLinkModel", name := "sendsOut", desc := "(I)V" } : Jvm.MethodName)) ∈ gW := gW_of (List.mem_of_getElem? (i := 1304) (by decide +kernel)) rfl
theorem t_1306 : (Jvm.Cond.instanceMethod ({ cls := "CardLinkModel", name := "sendsOut", desc := "(I)V" } : Jvm.MethodName)) ∈ gW := gW_of (List.mem_of_getElem? (i := 1306) (by decide +kernel)) rfl
theorem t_1307 : (Jvm.Cond.code ({ cls := "CardLinkModel", name := "sendsOut", desc := "(I)V" } : Jvm.MethodName) prog_10_method_40_code (5 : Nat) (Option.none : Option Jvm.ClassFile.FieldType)) ∈ gW := gW_of (List.mem_append_right _ (List.mem_append_right _ (List.mem_append_right _ (List.mem_append_right _ (List.mem_append_right _ (List.mem_append_right _ (List.mem_of_getElem? (l := tables_1_6) (i := 7) rfl))))))) rfl
theorem t_1308 : (Jvm.Cond.methodLink "CardLinkModel" (204 : Nat) ({ cls := "CardLinkModel", name := "sendsPending", desc := "(I)V" } : Jvm.MethodName)) ∈ gW := gW_of (List.mem_of_getElem? (i := 1308) (by decide +kernel)) rfl
theorem t_1310 : (Jvm.Cond.instanceMethod ({ cls := "CardLinkModel", name := "sendsPending", desc := "(I)V" } : Jvm.MethodName)) ∈ gW := gW_of (List.mem_of_getElem? (i := 1310) (by decide +kernel)) rfl
theorem t_1311 : (Jvm.Cond.code ({ cls := "CardLinkModel", name := "sendsPending", desc := "(I)V" } : Jvm.MethodName) prog_10_method_39_code (5 : Nat) (Option.none : Option Jvm.ClassFile.FieldType)) ∈ gW := gW_of (List.mem_append_right _ (List.mem_append_right _ (List.mem_append_right _ (List.mem_append_right _ (List.mem_append_right _ (List.mem_append_right _ (List.mem_of_getElem? (l := tables_1_6) (i := 11) rfl))))))) rfl
theorem t_1312 : (Jvm.Cond.methodLink "CardLinkModel" (198 : Nat) ({ cls := "CardLinkModel", name := "sends", desc := "(III)V" } : Jvm.MethodName)) ∈ gW := gW_of (List.mem_of_getElem? (i := 1312) (by decide +kernel)) rfl
theorem t_1314 : (Jvm.Cond.instanceMethod ({ cls := "CardLinkModel", name := "sends", desc := "(III)V" } : Jvm.MethodName)) ∈ gW := gW_of (List.mem_of_getElem? (i := 1314) (by decide +kernel)) rfl
theorem t_1315 : (Jvm.Cond.code ({ cls := "CardLinkModel", name := "sends", desc := "(III)V" } : Jvm.MethodName) prog_10_method_32_code (7 : Nat) (Option.none : Option Jvm.ClassFile.FieldType)) ∈ gW := gW_of (List.mem_append_right _ (List.mem_append_right _ (List.mem_append_right _ (List.mem_append_right _ (List.mem_append_right _ (List.mem_append_right _ (List.mem_of_getElem? (l := tables_1_6) (i := 15) rfl))))))) rfl
theorem t_1316 : (Jvm.Cond.methodLink "CardLinkModel" (170 : Nat) ({ cls := "CardLinkModel", name := "carries", desc := "(I)V" } : Jvm.MethodName)) ∈ gW := gW_of (List.mem_of_getElem? (i := 1316) (by decide +kernel)) rfl
theorem t_1318 : (Jvm.Cond.instanceMethod ({ cls := "CardLinkModel", name := "carries", desc := "(I)V" } : Jvm.MethodName)) ∈ gW := gW_of (List.mem_of_getElem? (i := 1318) (by decide +kernel)) rfl
theorem t_1319 : (Jvm.Cond.code ({ cls := "CardLinkModel", name := "carries", desc := "(I)V" } : Jvm.MethodName) prog_10_method_29_code (6 : Nat) (Option.none : Option Jvm.ClassFile.FieldType)) ∈ gW := gW_of (List.mem_append_right _ (List.mem_append_right _ (List.mem_append_right _ (List.mem_append_right _ (List.mem_append_right _ (List.mem_append_right _ (List.mem_of_getElem? (l := tables_1_6) (i := 19) rfl))))))) rfl
theorem t_1320 : (Jvm.Cond.methodLink "CardLinkModel" (173 : Nat) ({ cls := "CardLinkModel", name := "howCame", desc := "(I)I" } : Jvm.MethodName)) ∈ gW := gW_of (List.mem_of_getElem? (i := 1320) (by decide +kernel)) rfl
theorem t_1322 : (Jvm.Cond.instanceMethod ({ cls := "CardLinkModel", name := "howCame", desc := "(I)I" } : Jvm.MethodName)) ∈ gW := gW_of (List.mem_of_getElem? (i := 1322) (by decide +kernel)) rfl
theorem t_1323 : (Jvm.Cond.code ({ cls := "CardLinkModel", name := "howCame", desc := "(I)I" } : Jvm.MethodName) prog_10_method_31_code (4 : Nat) (Option.some Jvm.ClassFile.FieldType.int)) ∈ gW := gW_of (List.mem_append_right _ (List.mem_append_right _ (List.mem_append_right _ (List.mem_append_right _ (List.mem_append_right _ (List.mem_append_right _ (List.mem_of_getElem? (l := tables_1_6) (i := 23) rfl))))))) rfl
theorem t_1324 : (Jvm.Cond.methodLink "CardLinkModel" (163 : Nat) ({ cls := "CardLinkModel", name := "isShaped", desc := "(I)Z" } : Jvm.MethodName)) ∈ gW := gW_of (List.mem_of_getElem? (i := 1324) (by decide +kernel)) rfl
theorem t_1326 : (Jvm.Cond.instanceMethod ({ cls := "CardLinkModel", name := "isShaped", desc := "(I)Z" } : Jvm.MethodName)) ∈ gW := gW_of (List.mem_of_getElem? (i := 1326) (by decide +kernel)) rfl
theorem t_1327 : (Jvm.Cond.code ({ cls := "CardLinkModel", name := "isShaped", desc := "(I)Z" } : Jvm.MethodName) prog_10_method_30_code (5 : Nat) (Option.some Jvm.ClassFile.FieldType.boolean)) ∈ gW := gW_of (List.mem_append_right _ (List.mem_append_right _ (List.mem_append_right _ (List.mem_append_right _ (List.mem_append_right _ (List.mem_append_right _ (List.mem_of_getElem? (l := tables_1_6) (i := 27) rfl))))))) rfl
theorem t_1328 : (Jvm.Cond.methodLink "CardLinkModel" (185 : Nat) ({ cls := "CardLinkModel", name := "logs", desc := "(II)V" } : Jvm.MethodName)) ∈ gW := gW_of (List.mem_of_getElem? (i := 1328) (by decide +kernel)) rfl
theorem t_1330 : (Jvm.Cond.instanceMethod ({ cls := "CardLinkModel", name := "logs", desc := "(II)V" } : Jvm.MethodName)) ∈ gW := gW_of (List.mem_of_getElem? (i := 1330) (by decide +kernel)) rfl
theorem t_1331 : (Jvm.Cond.code ({ cls := "CardLinkModel", name := "logs", desc := "(II)V" } : Jvm.MethodName) prog_10_method_35_code (5 : Nat) (Option.none : Option Jvm.ClassFile.FieldType)) ∈ gW := gW_of (List.mem_append_right _ (List.mem_append_right _ (List.mem_append_right _ (List.mem_append_right _ (List.mem_append_right _ (List.mem_append_right _ (List.mem_of_getElem? (l := tables_1_6) (i := 31) rfl))))))) rfl
theorem t_1332 : (Jvm.Cond.methodLink "CardLinkModel" (195 : Nat) ({ cls := "CardLinkModel", name := "unlikeOf", desc := "(I)I" } : Jvm.MethodName)) ∈ gW := gW_of (List.mem_of_getElem? (i := 1332) (by decide +kernel)) rfl
theorem t_1334 : (Jvm.Cond.instanceMethod ({ cls := "CardLinkModel", name := "unlikeOf", desc := "(I)I" } : Jvm.MethodName)) ∈ gW := gW_of (List.mem_of_getElem? (i := 1334) (by decide +kernel)) rfl
theorem t_1335 : (Jvm.Cond.code ({ cls := "CardLinkModel", name := "unlikeOf", desc := "(I)I" } : Jvm.MethodName) prog_10_method_34_code (3 : Nat) (Option.some Jvm.ClassFile.FieldType.int)) ∈ gW := gW_of (List.mem_append_right _ (List.mem_append_right _ (List.mem_append_right _ (List.mem_append_right _ (List.mem_append_right _ (List.mem_append_right _ (List.mem_of_getElem? (l := tables_1_6) (i := 35) rfl))))))) rfl
theorem t_1336 : (Jvm.Cond.methodLink "CardLinkModel" (188 : Nat) ({ cls := "CardLinkModel", name := "isAlike", desc := "(II)Z" } : Jvm.MethodName)) ∈ gW := gW_of (List.mem_of_getElem? (i := 1336) (by decide +kernel)) rfl
theorem t_1338 : (Jvm.Cond.instanceMethod ({ cls := "CardLinkModel", name := "isAlike", desc := "(II)Z" } : Jvm.MethodName)) ∈ gW := gW_of (List.mem_of_getElem? (i := 1338) (by decide +kernel)) rfl
theorem t_1339 : (Jvm.Cond.code ({ cls := "CardLinkModel", name := "isAlike", desc := "(II)Z" } : Jvm.MethodName) prog_10_method_33_code (4 : Nat) (Option.some Jvm.ClassFile.FieldType.boolean)) ∈ gW := gW_of (List.mem_append_right _ (List.mem_append_right _ (List.mem_append_right _ (List.mem_append_right _ (List.mem_append_right _ (List.mem_append_right _ (List.mem_of_getElem? (l := tables_1_6) (i := 39) rfl))))))) rfl
theorem t_1340 : (Jvm.Cond.methodLink "CardLinkModel" (267 : Nat) ({ cls := "CardLinkModel", name := "asks", desc := "(III)V" } : Jvm.MethodName)) ∈ gW := gW_of (List.mem_of_getElem? (i := 1340) (by decide +kernel)) rfl
theorem t_1342 : (Jvm.Cond.instanceMethod ({ cls := "CardLinkModel", name := "asks", desc := "(III)V" } : Jvm.MethodName)) ∈ gW := gW_of (List.mem_of_getElem? (i := 1342) (by decide +kernel)) rfl
theorem t_1343 : (Jvm.Cond.code ({ cls := "CardLinkModel", name := "asks", desc := "(III)V" } : Jvm.MethodName) prog_10_method_38_code (4 : Nat) (Option.none : Option Jvm.ClassFile.FieldType)) ∈ gW := gW_of (List.mem_append_right _ (List.mem_append_right _ (List.mem_append_right _ (List.mem_append_right _ (List.mem_append_right _ (List.mem_append_right _ (List.mem_of_getElem? (l := tables_1_6) (i := 43) rfl))))))) rfl
theorem t_1344 : (Jvm.Cond.methodLink "CardLinkModel" (201 : Nat) ({ cls := "CardLinkModel", name := "sendsAsked", desc := "(I)V" } : Jvm.MethodName)) ∈ gW := gW_of (List.mem_of_getElem? (i := 1344) (by decide +kernel)) rfl
theorem t_1346 : (Jvm.Cond.instanceMethod ({ cls := "CardLinkModel", name := "sendsAsked", desc := "(I)V" } : Jvm.MethodName)) ∈ gW := gW_of (List.mem_of_getElem? (i := 1346) (by decide +kernel)) rfl
theorem t_1347 : (Jvm.Cond.code ({ cls := "CardLinkModel", name := "sendsAsked", desc := "(I)V" } : Jvm.MethodName) prog_10_method_37_code (3 : Nat) (Option.none : Option Jvm.ClassFile.FieldType)) ∈ gW := gW_of (List.mem_append_right _ (List.mem_append_right _ (List.mem_append_right _ (List.mem_append_right _ (List.mem_append_right _ (List.mem_append_right _ (List.mem_of_getElem? (l := tables_1_6) (i := 47) rfl))))))) rfl
theorem t_1348 : (Jvm.Cond.methodLink "CardLinkModel" (288 : Nat) ({ cls := "CardLinkModel", name := "bringsCame", desc := "()V" } : Jvm.MethodName)) ∈ gW := gW_of (List.mem_of_getElem? (i := 1348) (by decide +kernel)) rfl
theorem t_1350 : (Jvm.Cond.instanceMethod ({ cls := "CardLinkModel", name := "bringsCame", desc := "()V" } : Jvm.MethodName)) ∈ gW := gW_of (List.mem_of_getElem? (i := 1350) (by decide +kernel)) rfl
theorem t_1351 : (Jvm.Cond.code ({ cls := "CardLinkModel", name := "bringsCame", desc := "()V" } : Jvm.MethodName) prog_10_method_65_code (2 : Nat) (Option.none : Option Jvm.ClassFile.FieldType)) ∈ gW := gW_of (List.mem_append_right _ (List.mem_append_right _ (List.mem_append_right _ (List.mem_append_right _ (List.mem_append_right _ (List.mem_append_right _ (List.mem_of_getElem? (l := tables_1_6) (i := 51) rfl))))))) rfl
theorem t_1352 : (Jvm.Cond.methodLink "CardLinkModel" (291 : Nat) ({ cls := "CardLinkModel", name := "readerGets", desc := "()V" } : Jvm.MethodName)) ∈ gW := gW_of (List.mem_of_getElem? (i := 1352) (by decide +kernel)) rfl
theorem t_1354 : (Jvm.Cond.instanceMethod ({ cls := "CardLinkModel", name := "readerGets", desc := "()V" } : Jvm.MethodName)) ∈ gW := gW_of (List.mem_of_getElem? (i := 1354) (by decide +kernel)) rfl
theorem t_1355 : (Jvm.Cond.code ({ cls := "CardLinkModel", name := "readerGets", desc := "()V" } : Jvm.MethodName) prog_10_method_52_code (2 : Nat) (Option.none : Option Jvm.ClassFile.FieldType)) ∈ gW := gW_of (List.mem_append_right _ (List.mem_append_right _ (List.mem_append_right _ (List.mem_append_right _ (List.mem_append_right _ (List.mem_append_right _ (List.mem_of_getElem? (l := tables_1_6) (i := 55) rfl))))))) rfl
theorem t_1356 : (Jvm.Cond.methodLink "CardLinkModel" (225 : Nat) ({ cls := "CardLinkModel", name := "tries", desc := "(II)V" } : Jvm.MethodName)) ∈ gW := gW_of (List.mem_of_getElem? (i := 1356) (by decide +kernel)) rfl
theorem t_1358 : (Jvm.Cond.instanceMethod ({ cls := "CardLinkModel", name := "tries", desc := "(II)V" } : Jvm.MethodName)) ∈ gW := gW_of (List.mem_of_getElem? (i := 1358) (by decide +kernel)) rfl
theorem t_1359 : (Jvm.Cond.code ({ cls := "CardLinkModel", name := "tries", desc := "(II)V" } : Jvm.MethodName) prog_10_method_51_code (3 : Nat) (Option.none : Option Jvm.ClassFile.FieldType)) ∈ gW := gW_of (List.mem_append_right _ (List.mem_append_right _ (List.mem_append_right _ (List.mem_append_right _ (List.mem_append_right _ (List.mem_append_right _ (List.mem_of_getElem? (l := tables_1_6) (i := 59) rfl))))))) rfl
theorem t_1360 : (Jvm.Cond.methodLink "CardLinkModel" (228 : Nat) ({ cls := "CardLinkModel", name := "isResponse", desc := "(I)Z" } : Jvm.MethodName)) ∈ gW := gW_of (List.mem_of_getElem? (i := 1360) (by decide +kernel)) rfl
theorem t_1362 : (Jvm.Cond.instanceMethod ({ cls := "CardLinkModel", name := "isResponse", desc := "(I)Z" } : Jvm.MethodName)) ∈ gW := gW_of (List.mem_of_getElem? (i := 1362) (by decide +kernel)) rfl
theorem t_1363 : (Jvm.Cond.code ({ cls := "CardLinkModel", name := "isResponse", desc := "(I)Z" } : Jvm.MethodName) prog_10_method_44_code (3 : Nat) (Option.some Jvm.ClassFile.FieldType.boolean)) ∈ gW := gW_of (List.mem_append_right _ (List.mem_append_right _ (List.mem_append_right _ (List.mem_append_right _ (List.mem_append_right _ (List.mem_append_right _ (List.mem_of_getElem? (l := tables_1_6) (i := 63) rfl))))))) rfl
theorem t_1364 : (Jvm.Cond.methodLink "CardLinkModel" (231 : Nat) ({ cls := "CardLinkModel", name := "readerAnswered", desc := "()V" } : Jvm.MethodName)) ∈ gW := gW_of (List.mem_of_getElem? (i := 1364) (by decide +kernel)) rfl
theorem t_1366 : (Jvm.Cond.instanceMethod ({ cls := "CardLinkModel", name := "readerAnswered", desc := "()V" } : Jvm.MethodName)) ∈ gW := gW_of (List.mem_of_getElem? (i := 1366) (by decide +kernel)) rfl
theorem t_1367 : (Jvm.Cond.code ({ cls := "CardLinkModel", name := "readerAnswered", desc := "()V" } : Jvm.MethodName) prog_10_method_53_code (2 : Nat) (Option.none : Option Jvm.ClassFile.FieldType)) ∈ gW := gW_of (List.mem_append_right _ (List.mem_append_right _ (List.mem_append_right _ (List.mem_append_right _ (List.mem_append_right _ (List.mem_append_right _ (List.mem_of_getElem? (l := tables_1_6) (i := 67) rfl))))))) rfl
theorem t_1368 : (Jvm.Cond.methodLink "CardLinkModel" (243 : Nat) ({ cls := "CardLinkModel", name := "done", desc := "()V" } : Jvm.MethodName)) ∈ gW := gW_of (List.mem_of_getElem? (i := 1368) (by decide +kernel)) rfl
theorem t_1370 : (Jvm.Cond.instanceMethod ({ cls := "CardLinkModel", name := "done", desc := "()V" } : Jvm.MethodName)) ∈ gW := gW_of (List.mem_of_getElem? (i := 1370) (by decide +kernel)) rfl
theorem t_1371 : (Jvm.Cond.code ({ cls := "CardLinkModel", name := "done", desc := "()V" } : Jvm.MethodName) prog_10_method_50_code (1 : Nat) (Option.none : Option Jvm.ClassFile.FieldType)) ∈ gW := gW_of (List.mem_append_right _ (List.mem_append_right _ (List.mem_append_right _ (List.mem_append_right _ (List.mem_append_right _ (List.mem_append_right _ (List.mem_of_getElem? (l := tables_1_6) (i := 71) rfl))))))) rfl
theorem t_1372 : (Jvm.Cond.methodLink "CardLinkModel" (255 : Nat) ({ cls := "CardLinkModel", name := "resynchs", desc := "(I)V" } : Jvm.MethodName)) ∈ gW := gW_of (List.mem_of_getElem? (i := 1372) (by decide +kernel)) rfl
theorem t_1374 : (Jvm.Cond.instanceMethod ({ cls := "CardLinkModel", name := "resynchs", desc := "(I)V" } : Jvm.MethodName)) ∈ gW := gW_of (List.mem_of_getElem? (i := 1374) (by decide +kernel)) rfl
theorem t_1375 : (Jvm.Cond.code ({ cls := "CardLinkModel", name := "resynchs", desc := "(I)V" } : Jvm.MethodName) prog_10_method_43_code (2 : Nat) (Option.none : Option Jvm.ClassFile.FieldType)) ∈ gW := gW_of (List.mem_append_right _ (List.mem_append_right _ (List.mem_append_right _ (List.mem_append_right _ (List.mem_append_right _ (List.mem_append_right _ (List.mem_of_getElem? (l := tables_1_6) (i := 75) rfl))))))) rfl
theorem t_1376 : (Jvm.Cond.methodLink "CardLinkModel" (207 : Nat) ({ cls := "CardLinkModel", name := "empties", desc := "(I)V" } : Jvm.MethodName)) ∈ gW := gW_of (List.mem_of_getElem? (i := 1376) (by decide +kernel)) rfl
theorem t_1378 : (Jvm.Cond.instanceMethod ({ cls := "CardLinkModel", name := "empties", desc := "(I)V" } : Jvm.MethodName)) ∈ gW := gW_of (List.mem_of_getElem? (i := 1378) (by decide +kernel)) rfl
theorem t_1379 : (Jvm.Cond.code ({ cls := "CardLinkModel", name := "empties", desc := "(I)V" } : Jvm.MethodName) prog_10_method_42_code (3 : Nat) (Option.none : Option Jvm.ClassFile.FieldType)) ∈ gW := gW_of (List.mem_append_right _ (List.mem_append_right _ (List.mem_append_right _ (List.mem_append_right _ (List.mem_append_right _ (List.mem_append_right _ (List.mem_of_getElem? (l := tables_1_6) (i := 79) rfl))))))) rfl
theorem t_1380 : (Jvm.Cond.methodLink "CardLinkModel" (234 : Nat) ({ cls := "CardLinkModel", name := "takes", desc := "(I)Z" } : Jvm.MethodName)) ∈ gW := gW_of (List.mem_of_getElem? (i := 1380) (by decide +kernel)) rfl
theorem t_1382 : (Jvm.Cond.instanceMethod ({ cls := "CardLinkModel", name := "takes", desc := "(I)Z" } : Jvm.MethodName)) ∈ gW := gW_of (List.mem_of_getElem? (i := 1382) (by decide +kernel)) rfl
theorem t_1383 : (Jvm.Cond.code ({ cls := "CardLinkModel", name := "takes", desc := "(I)Z" } : Jvm.MethodName) prog_10_method_45_code (4 : Nat) (Option.some Jvm.ClassFile.FieldType.boolean)) ∈ gW := gW_of (List.mem_append_right _ (List.mem_append_right _ (List.mem_append_right _ (List.mem_append_right _ (List.mem_append_right _ (List.mem_append_right _ (List.mem_of_getElem? (l := tables_1_6) (i := 83) rfl))))))) rfl
theorem t_1384 : (Jvm.Cond.methodLink "CardLinkModel" (210 : Nat) ({ cls := "CardLinkModel", name := "isThrough", desc := "(I)V" } : Jvm.MethodName)) ∈ gW := gW_of (List.mem_of_getElem? (i := 1384) (by decide +kernel)) rfl
theorem t_1386 : (Jvm.Cond.instanceMethod ({ cls := "CardLinkModel", name := "isThrough", desc := "(I)V" } : Jvm.MethodName)) ∈ gW := gW_of (List.mem_of_getElem? (i := 1386) (by decide +kernel)) rfl
theorem t_1387 : (Jvm.Cond.code ({ cls := "CardLinkModel", name := "isThrough", desc := "(I)V" } : Jvm.MethodName) prog_10_method_41_code (3 : Nat) (Option.none : Option Jvm.ClassFile.FieldType)) ∈ gW := gW_of (List.mem_append_right _ (List.mem_append_right _ (List.mem_append_right _ (List.mem_append_right _ (List.mem_append_right _ (List.mem_append_right _ (List.mem_of_getElem? (l := tables_1_6) (i := 87) rfl))))))) rfl
theorem t_1388 : (Jvm.Cond.methodLink "CardLinkModel" (237 : Nat) ({ cls := "CardLinkModel", name := "hasMoreCome", desc := "()Z" } : Jvm.MethodName)) ∈ gW := gW_of (List.mem_of_getElem? (i := 1388) (by decide +kernel)) rfl
theorem t_1390 : (Jvm.Cond.instanceMethod ({ cls := "CardLinkModel", name := "hasMoreCome", desc := "()Z" } : Jvm.MethodName)) ∈ gW := gW_of (List.mem_of_getElem? (i := 1390) (by decide +kernel)) rfl
theorem t_1391 : (Jvm.Cond.code ({ cls := "CardLinkModel", name := "hasMoreCome", desc := "()Z" } : Jvm.MethodName) prog_10_method_46_code (1 : Nat) (Option.some Jvm.ClassFile.FieldType.boolean)) ∈ gW := gW_of (List.mem_append_right _ (List.mem_append_right _ (List.mem_append_right _ (List.mem_append_right _ (List.mem_append_right _ (List.mem_append_right _ (List.mem_of_getElem? (l := tables_1_6) (i := 91) rfl))))))) rfl
theorem t_1392 : (Jvm.Cond.methodLink "CardLinkModel" (216 : Nat) ({ cls := "CardLinkModel", name := "sendsR", desc := "(II)V" } : Jvm.MethodName)) ∈ gW := gW_of (List.mem_of_getElem? (i := 1392) (by decide +kernel)) rfl
theorem t_1394 : (Jvm.Cond.instanceMethod ({ cls := "CardLinkModel", name := "sendsR", desc := "(II)V" } : Jvm.MethodName)) ∈ gW := gW_of (List.mem_of_getElem? (i := 1394) (by decide +kernel)) rfl
theorem t_1395 : (Jvm.Cond.code ({ cls := "CardLinkModel", name := "sendsR", desc := "(II)V" } : Jvm.MethodName) prog_10_method_36_code (3 : Nat) (Option.none : Option Jvm.ClassFile.FieldType)) ∈ gW := gW_of (List.mem_append_right _ (List.mem_append_right _ (List.mem_append_right _ (List.mem_append_right _ (List.mem_append_right _ (List.mem_append_right _ (List.mem_of_getElem? (l := tables_1_6) (i := 95) rfl))))))) rfl
theorem t_1396 : (Jvm.Cond.methodLink "CardLinkModel" (240 : Nat) ({ cls := "CardLinkModel", name := "messageCame", desc := "(I)V" } : Jvm.MethodName)) ∈ gW := gW_of (List.mem_of_getElem? (i := 1396) (by decide +kernel)) rfl
theorem t_1398 : (Jvm.Cond.instanceMethod ({ cls := "CardLinkModel", name := "messageCame", desc := "(I)V" } : Jvm.MethodName)) ∈ gW := gW_of (List.mem_of_getElem? (i := 1398) (by decide +kernel)) rfl
theorem t_1399 : (Jvm.Cond.code ({ cls := "CardLinkModel", name := "messageCame", desc := "(I)V" } : Jvm.MethodName) prog_10_method_47_code (4 : Nat) (Option.none : Option Jvm.ClassFile.FieldType)) ∈ gW := gW_of (List.mem_append_right _ (List.mem_append_right _ (List.mem_append_right _ (List.mem_append_right _ (List.mem_append_right _ (List.mem_append_right _ (List.mem_of_getElem? (l := tables_1_6) (i := 99) rfl))))))) rfl
theorem t_1400 : (Jvm.Cond.methodLink "CardLinkModel" (246 : Nat) ({ cls := "CardLinkModel", name := "readerTold", desc := "()V" } : Jvm.MethodName)) ∈ gW := gW_of (List.mem_of_getElem? (i := 1400) (by decide +kernel)) rfl
theorem t_1402 : (Jvm.Cond.instanceMethod ({ cls := "CardLinkModel", name := "readerTold", desc := "()V" } : Jvm.MethodName)) ∈ gW := gW_of (List.mem_of_getElem? (i := 1402) (by decide +kernel)) rfl
theorem t_1403 : (Jvm.Cond.code ({ cls := "CardLinkModel", name := "readerTold", desc := "()V" } : Jvm.MethodName) prog_10_method_54_code (1 : Nat) (Option.none : Option Jvm.ClassFile.FieldType)) ∈ gW := gW_of (List.mem_append_right _ (List.mem_append_right _ (List.mem_append_right _ (List.mem_append_right _ (List.mem_append_right _ (List.mem_append_right _ (List.mem_of_getElem? (l := tables_1_6) (i := 103) rfl))))))) rfl
theorem t_1404 : (Jvm.Cond.methodLink "CardLinkModel" (258 : Nat) ({ cls := "CardLinkModel", name := "wantsAgain", desc := "(I)Z" } : Jvm.MethodName)) ∈ gW := gW_of (List.mem_of_getElem? (i := 1404) (by decide +kernel)) rfl
theorem t_1406 : (Jvm.Cond.instanceMethod ({ cls := "CardLinkModel", name := "wantsAgain", desc := "(I)Z" } : Jvm.MethodName)) ∈ gW := gW_of (List.mem_of_getElem? (i := 1406) (by decide +kernel)) rfl
theorem t_1407 : (Jvm.Cond.code ({ cls := "CardLinkModel", name := "wantsAgain", desc := "(I)Z" } : Jvm.MethodName) prog_10_method_48_code (2 : Nat) (Option.some Jvm.ClassFile.FieldType.boolean)) ∈ gW := gW_of (List.mem_append_right _ (List.mem_append_right _ (List.mem_append_right _ (List.mem_append_right _ (List.mem_append_right _ (List.mem_append_right _ (List.mem_of_getElem? (l := tables_1_6) (i := 107) rfl))))))) rfl
theorem t_1408 : (Jvm.Cond.methodLink "CardLinkModel" (261 : Nat) ({ cls := "CardLinkModel", name := "goesOn", desc := "(I)V" } : Jvm.MethodName)) ∈ gW := gW_of (List.mem_of_getElem? (i := 1408) (by decide +kernel)) rfl
theorem t_1410 : (Jvm.Cond.instanceMethod ({ cls := "CardLinkModel", name := "goesOn", desc := "(I)V" } : Jvm.MethodName)) ∈ gW := gW_of (List.mem_of_getElem? (i := 1410) (by decide +kernel)) rfl
theorem t_1411 : (Jvm.Cond.code ({ cls := "CardLinkModel", name := "goesOn", desc := "(I)V" } : Jvm.MethodName) prog_10_method_49_code (3 : Nat) (Option.none : Option Jvm.ClassFile.FieldType)) ∈ gW := gW_of (List.mem_append_right _ (List.mem_append_right _ (List.mem_append_right _ (List.mem_append_right _ (List.mem_append_right _ (List.mem_append_right _ (List.mem_of_getElem? (l := tables_1_6) (i := 111) rfl))))))) rfl
theorem t_1412 : (Jvm.Cond.methodLink "CardLinkModel" (249 : Nat) ({ cls := "CardLinkModel", name := "readerAsked", desc := "()V" } : Jvm.MethodName)) ∈ gW := gW_of (List.mem_of_getElem? (i := 1412) (by decide +kernel)) rfl
theorem t_1414 : (Jvm.Cond.instanceMethod ({ cls := "CardLinkModel", name := "readerAsked", desc := "()V" } : Jvm.MethodName)) ∈ gW := gW_of (List.mem_of_getElem? (i := 1414) (by decide +kernel)) rfl
theorem t_1415 : (Jvm.Cond.code ({ cls := "CardLinkModel", name := "readerAsked", desc := "()V" } : Jvm.MethodName) prog_10_method_56_code (2 : Nat) (Option.none : Option Jvm.ClassFile.FieldType)) ∈ gW := gW_of (List.mem_append_right _ (List.mem_append_right _ (List.mem_append_right _ (List.mem_append_right _ (List.mem_append_right _ (List.mem_append_right _ (List.mem_of_getElem? (l := tables_1_6) (i := 115) rfl))))))) rfl
theorem t_1416 : (Jvm.Cond.methodLink "CardLinkModel" (264 : Nat) ({ cls := "CardLinkModel", name := "responds", desc := "(I)V" } : Jvm.MethodName)) ∈ gW := gW_of (List.mem_of_getElem? (i := 1416) (by decide +kernel)) rfl
theorem t_1418 : (Jvm.Cond.instanceMethod ({ cls := "CardLinkModel", name := "responds", desc := "(I)V" } : Jvm.MethodName)) ∈ gW := gW_of (List.mem_of_getElem? (i := 1418) (by decide +kernel)) rfl
theorem t_1419 : (Jvm.Cond.code ({ cls := "CardLinkModel", name := "responds", desc := "(I)V" } : Jvm.MethodName) prog_10_method_55_code (2 : Nat) (Option.none : Option Jvm.ClassFile.FieldType)) ∈ gW := gW_of (List.mem_append_right _ (List.mem_append_right _ (List.mem_append_right _ (List.mem_append_right _ (List.mem_append_right _ (List.mem_append_right _ (List.mem_of_getElem? (l := tables_1_6) (i := 119) rfl))))))) rfl
theorem t_1420 : (Jvm.Cond.methodLink "CardLinkModel" (252 : Nat) ({ cls := "CardLinkModel", name := "triesOn", desc := "()V" } : Jvm.MethodName)) ∈ gW := gW_of (List.mem_of_getElem? (i := 1420) (by decide +kernel)) rfl
theorem t_1422 : (Jvm.Cond.instanceMethod ({ cls := "CardLinkModel", name := "triesOn", desc := "()V" } : Jvm.MethodName)) ∈ gW := gW_of (List.mem_of_getElem? (i := 1422) (by decide +kernel)) rfl
theorem t_1423 : (Jvm.Cond.code ({ cls := "CardLinkModel", name := "triesOn", desc := "()V" } : Jvm.MethodName) prog_10_method_57_code (1 : Nat) (Option.none : Option Jvm.ClassFile.FieldType)) ∈ gW := gW_of (List.mem_append_right _ (List.mem_append_right _ (List.mem_append_right _ (List.mem_append_right _ (List.mem_append_right _ (List.mem_append_right _ (List.mem_of_getElem? (l := tables_1_6) (i := 123) rfl))))))) rfl
theorem t_1424 : (Jvm.Cond.methodLink "CardLinkModel" (294 : Nat) ({ cls := "CardLinkModel", name := "cardGets", desc := "()V" } : Jvm.MethodName)) ∈ gW := gW_of (List.mem_of_getElem? (i := 1424) (by decide +kernel)) rfl
theorem t_1426 : (Jvm.Cond.instanceMethod ({ cls := "CardLinkModel", name := "cardGets", desc := "()V" } : Jvm.MethodName)) ∈ gW := gW_of (List.mem_of_getElem? (i := 1426) (by decide +kernel)) rfl
theorem t_1427 : (Jvm.Cond.code ({ cls := "CardLinkModel", name := "cardGets", desc := "()V" } : Jvm.MethodName) prog_10_method_64_code (2 : Nat) (Option.none : Option Jvm.ClassFile.FieldType)) ∈ gW := gW_of (List.mem_append_right _ (List.mem_append_right _ (List.mem_append_right _ (List.mem_append_right _ (List.mem_append_right _ (List.mem_append_right _ (List.mem_of_getElem? (l := tables_1_6) (i := 127) rfl))))))) rfl
theorem t_1428 : (Jvm.Cond.methodLink "CardLinkModel" (276 : Nat) ({ cls := "CardLinkModel", name := "cardSends", desc := "(II)V" } : Jvm.MethodName)) ∈ gW := gW_of (List.mem_of_getElem? (i := 1428) (by decide +kernel)) rfl
theorem t_1430 : (Jvm.Cond.instanceMethod ({ cls := "CardLinkModel", name := "cardSends", desc := "(II)V" } : Jvm.MethodName)) ∈ gW := gW_of (List.mem_of_getElem? (i := 1430) (by decide +kernel)) rfl
theorem t_1431 : (Jvm.Cond.code ({ cls := "CardLinkModel", name := "cardSends", desc := "(II)V" } : Jvm.MethodName) prog_10_method_59_code (3 : Nat) (Option.none : Option Jvm.ClassFile.FieldType)) ∈ gW := gW_of (List.mem_append_right _ (List.mem_append_right _ (List.mem_append_right _ (List.mem_append_right _ (List.mem_append_right _ (List.mem_append_right _ (List.mem_of_getElem? (l := tables_1_6) (i := 131) rfl))))))) rfl
theorem t_1432 : (Jvm.Cond.methodLink "CardLinkModel" (270 : Nat) ({ cls := "CardLinkModel", name := "cardOut", desc := "(II)V" } : Jvm.MethodName)) ∈ gW := gW_of (List.mem_of_getElem? (i := 1432) (by decide +kernel)) rfl
theorem t_1434 : (Jvm.Cond.instanceMethod ({ cls := "CardLinkModel", name := "cardOut", desc := "(II)V" } : Jvm.MethodName)) ∈ gW := gW_of (List.mem_of_getElem? (i := 1434) (by decide +kernel)) rfl
theorem t_1435 : (Jvm.Cond.code ({ cls := "CardLinkModel", name := "cardOut", desc := "(II)V" } : Jvm.MethodName) prog_10_method_58_code (5 : Nat) (Option.none : Option Jvm.ClassFile.FieldType)) ∈ gW := gW_of (List.mem_append_right _ (List.mem_append_right _ (List.mem_append_right _ (List.mem_append_right _ (List.mem_append_right _ (List.mem_append_right _ (List.mem_of_getElem? (l := tables_1_6) (i := 135) rfl))))))) rfl
theorem t_1436 : (Jvm.Cond.methodLink "CardLinkModel" (282 : Nat) ({ cls := "CardLinkModel", name := "cardAnswered", desc := "()V" } : Jvm.MethodName)) ∈ gW := gW_of (List.mem_of_getElem? (i := 1436) (by decide +kernel)) rfl
theorem t_1438 : (Jvm.Cond.instanceMethod ({ cls := "CardLinkModel", name := "cardAnswered", desc := "()V" } : Jvm.MethodName)) ∈ gW := gW_of (List.mem_of_getElem? (i := 1438) (by decide +kernel)) rfl
theorem t_1439 : (Jvm.Cond.code ({ cls := "CardLinkModel", name := "cardAnswered", desc := "()V" } : Jvm.MethodName) prog_10_method_63_code (2 : Nat) (Option.none : Option Jvm.ClassFile.FieldType)) ∈ gW := gW_of (List.mem_append_right _ (List.mem_append_right _ (List.mem_append_right _ (List.mem_append_right _ (List.mem_append_right _ (List.mem_append_right _ (List.mem_of_getElem? (l := tables_1_6) (i := 139) rfl))))))) rfl
theorem t_1440 : (Jvm.Cond.methodLink "CardLinkModel" (279 : Nat) ({ cls := "CardLinkModel", name := "cardWaits", desc := "()V" } : Jvm.MethodName)) ∈ gW := gW_of (List.mem_of_getElem? (i := 1440) (by decide +kernel)) rfl
theorem t_1442 : (Jvm.Cond.instanceMethod ({ cls := "CardLinkModel", name := "cardWaits", desc := "()V" } : Jvm.MethodName)) ∈ gW := gW_of (List.mem_of_getElem? (i := 1442) (by decide +kernel)) rfl
theorem t_1443 : (Jvm.Cond.code ({ cls := "CardLinkModel", name := "cardWaits", desc := "()V" } : Jvm.MethodName) prog_10_method_62_code (2 : Nat) (Option.none : Option Jvm.ClassFile.FieldType)) ∈ gW := gW_of (List.mem_append_right _ (List.mem_append_right _ (List.mem_append_right _ (List.mem_append_right _ (List.mem_append_right _ (List.mem_append_right _ (List.mem_of_getElem? (l := tables_1_6) (i := 143) rfl))))))) rfl
theorem t_1444 : (Jvm.Cond.methodLink "CardLinkModel" (285 : Nat) ({ cls := "CardLinkModel", name := "cardDoes", desc := "()V" } : Jvm.MethodName)) ∈ gW := gW_of (List.mem_of_getElem? (i := 1444) (by decide +kernel)) rfl
theorem t_1446 : (Jvm.Cond.instanceMethod ({ cls := "CardLinkModel", name := "cardDoes", desc := "()V" } : Jvm.MethodName)) ∈ gW := gW_of (List.mem_of_getElem? (i := 1446) (by decide +kernel)) rfl
theorem t_1447 : (Jvm.Cond.code ({ cls := "CardLinkModel", name := "cardDoes", desc := "()V" } : Jvm.MethodName) prog_10_method_61_code (4 : Nat) (Option.none : Option Jvm.ClassFile.FieldType)) ∈ gW := gW_of (List.mem_append_right _ (List.mem_append_right _ (List.mem_append_right _ (List.mem_append_right _ (List.mem_append_right _ (List.mem_append_right _ (List.mem_of_getElem? (l := tables_1_6) (i := 147) rfl))))))) rfl
theorem t_1448 : (Jvm.Cond.methodLink "CardLinkModel" (273 : Nat) ({ cls := "CardLinkModel", name := "gotByte", desc := "(II)I" } : Jvm.MethodName)) ∈ gW := gW_of (List.mem_of_getElem? (i := 1448) (by decide +kernel)) rfl
theorem t_1450 : (Jvm.Cond.instanceMethod ({ cls := "CardLinkModel", name := "gotByte", desc := "(II)I" } : Jvm.MethodName)) ∈ gW := gW_of (List.mem_of_getElem? (i := 1450) (by decide +kernel)) rfl
theorem t_1451 : (Jvm.Cond.code ({ cls := "CardLinkModel", name := "gotByte", desc := "(II)I" } : Jvm.MethodName) prog_10_method_60_code (3 : Nat) (Option.some Jvm.ClassFile.FieldType.int)) ∈ gW := gW_of (List.mem_append_right _ (List.mem_append_right _ (List.mem_append_right _ (List.mem_append_right _ (List.mem_append_right _ (List.mem_append_right _ (List.mem_of_getElem? (l := tables_1_6) (i := 151) rfl))))))) rfl
theorem t_1452 : (Jvm.Cond.methodLink "CardLinkLaw" (68 : Nat) ({ cls := "CardLinkModel", name := "state", desc := "()I" } : Jvm.MethodName)) ∈ gW := gW_of (List.mem_of_getElem? (i := 1452) (by decide +kernel)) rfl
theorem t_1453 : (Jvm.Cond.instanceMethod ({ cls := "CardLinkModel", name := "state", desc := "()I" } : Jvm.MethodName)) ∈ gW := gW_of (List.mem_of_getElem? (i := 1453) (by decide +kernel)) rfl
theorem t_1454 : (Jvm.Cond.selects "CardLinkModel" ({ cls := "CardLinkModel", name := "state", desc := "()I" } : Jvm.MethodName) ({ cls := "CardLinkModel", name := "state", desc := "()I" } : Jvm.MethodName)) ∈ gW := gW_of (List.mem_of_getElem? (i := 1454) (by decide +kernel)) rfl
theorem t_1455 : (Jvm.Cond.code ({ cls := "CardLinkModel", name := "state", desc := "()I" } : Jvm.MethodName) prog_10_method_68_code (1 : Nat) (Option.some Jvm.ClassFile.FieldType.int)) ∈ gW := gW_of (List.mem_append_right _ (List.mem_append_right _ (List.mem_append_right _ (List.mem_append_right _ (List.mem_append_right _ (List.mem_append_right _ (List.mem_of_getElem? (l := tables_1_6) (i := 155) rfl))))))) rfl
theorem t_1456 : (Jvm.Cond.methodLink "CardLinkLaw" (72 : Nat) ({ cls := "CardLinkModel", name := "side", desc := "(II)I" } : Jvm.MethodName)) ∈ gW := gW_of (List.mem_of_getElem? (i := 1456) (by decide +kernel)) rfl
theorem t_1457 : (Jvm.Cond.instanceMethod ({ cls := "CardLinkModel", name := "side", desc := "(II)I" } : Jvm.MethodName)) ∈ gW := gW_of (List.mem_of_getElem? (i := 1457) (by decide +kernel)) rfl
theorem t_1458 : (Jvm.Cond.selects "CardLinkModel" ({ cls := "CardLinkModel", name := "side", desc := "(II)I" } : Jvm.MethodName) ({ cls := "CardLinkModel", name := "side", desc := "(II)I" } : Jvm.MethodName)) ∈ gW := gW_of (List.mem_of_getElem? (i := 1458) (by decide +kernel)) rfl
theorem t_1459 : (Jvm.Cond.code ({ cls := "CardLinkModel", name := "side", desc := "(II)I" } : Jvm.MethodName) prog_10_method_69_code (3 : Nat) (Option.some Jvm.ClassFile.FieldType.int)) ∈ gW := gW_of (List.mem_append_right _ (List.mem_append_right _ (List.mem_append_right _ (List.mem_append_right _ (List.mem_append_right _ (List.mem_append_right _ (List.mem_of_getElem? (l := tables_1_6) (i := 159) rfl))))))) rfl
theorem t_1462 : (Jvm.Cond.methodLink "CardLinkLaw" (76 : Nat) ({ cls := "CardLinkModel", name := "got", desc := "(II)I" } : Jvm.MethodName)) ∈ gW := gW_of (List.mem_of_getElem? (i := 1462) (by decide +kernel)) rfl
theorem t_1463 : (Jvm.Cond.instanceMethod ({ cls := "CardLinkModel", name := "got", desc := "(II)I" } : Jvm.MethodName)) ∈ gW := gW_of (List.mem_of_getElem? (i := 1463) (by decide +kernel)) rfl
theorem t_1464 : (Jvm.Cond.selects "CardLinkModel" ({ cls := "CardLinkModel", name := "got", desc := "(II)I" } : Jvm.MethodName) ({ cls := "CardLinkModel", name := "got", desc := "(II)I" } : Jvm.MethodName)) ∈ gW := gW_of (List.mem_of_getElem? (i := 1464) (by decide +kernel)) rfl
theorem t_1465 : (Jvm.Cond.code ({ cls := "CardLinkModel", name := "got", desc := "(II)I" } : Jvm.MethodName) prog_10_method_70_code (3 : Nat) (Option.some Jvm.ClassFile.FieldType.int)) ∈ gW := gW_of (List.mem_append_right _ (List.mem_append_right _ (List.mem_append_right _ (List.mem_append_right _ (List.mem_append_right _ (List.mem_append_right _ (List.mem_of_getElem? (l := tables_1_6) (i := 165) rfl))))))) rfl
theorem t_1466 : (Jvm.Cond.methodLink "CardLinkLaw" (82 : Nat) ({ cls := "CardLinkModel", name := "log", desc := "(II)I" } : Jvm.MethodName)) ∈ gW := gW_of (List.mem_of_getElem? (i := 1466) (by decide +kernel)) rfl
theorem t_1467 : (Jvm.Cond.instanceMethod ({ cls := "CardLinkModel", name := "log", desc := "(II)I" } : Jvm.MethodName)) ∈ gW := gW_of (List.mem_of_getElem? (i := 1467) (by decide +kernel)) rfl
theorem t_1468 : (Jvm.Cond.selects "CardLinkModel" ({ cls := "CardLinkModel", name := "log", desc := "(II)I" } : Jvm.MethodName) ({ cls := "CardLinkModel", name := "log", desc := "(II)I" } : Jvm.MethodName)) ∈ gW := gW_of (List.mem_of_getElem? (i := 1468) (by decide +kernel)) rfl
theorem t_1469 : (Jvm.Cond.code ({ cls := "CardLinkModel", name := "log", desc := "(II)I" } : Jvm.MethodName) prog_10_method_72_code (4 : Nat) (Option.some Jvm.ClassFile.FieldType.int)) ∈ gW := gW_of (List.mem_append_right _ (List.mem_append_right _ (List.mem_append_right _ (List.mem_append_right _ (List.mem_append_right _ (List.mem_append_right _ (List.mem_of_getElem? (l := tables_1_6) (i := 169) rfl))))))) rfl
theorem t_1470 : (Jvm.Cond.methodLink "CardLinkModel" (303 : Nat) ({ cls := "CardLinkModel", name := "logPlace", desc := "(I)I" } : Jvm.MethodName)) ∈ gW := gW_of (List.mem_of_getElem? (i := 1470) (by decide +kernel)) rfl
theorem t_1472 : (Jvm.Cond.instanceMethod ({ cls := "CardLinkModel", name := "logPlace", desc := "(I)I" } : Jvm.MethodName)) ∈ gW := gW_of (List.mem_of_getElem? (i := 1472) (by decide +kernel)) rfl
theorem t_1473 : (Jvm.Cond.code ({ cls := "CardLinkModel", name := "logPlace", desc := "(I)I" } : Jvm.MethodName) prog_10_method_71_code (2 : Nat) (Option.some Jvm.ClassFile.FieldType.int)) ∈ gW := gW_of (List.mem_append_right _ (List.mem_append_right _ (List.mem_append_right _ (List.mem_append_right _ (List.mem_append_right _ (List.mem_append_right _ (List.mem_of_getElem? (l := tables_1_6) (i := 173) rfl))))))) rfl
theorem t_1474 : (Jvm.Cond.methodLink "CardLinkLaw" (86 : Nat) ({ cls := "CardLinkModel", name := "byteOf", desc := "(II)I" } : Jvm.MethodName)) ∈ gW := gW_of (List.mem_of_getElem? (i := 1474) (by decide +kernel)) rfl
theorem t_1475 : (Jvm.Cond.instanceMethod ({ cls := "CardLinkModel", name := "byteOf", desc := "(II)I" } : Jvm.MethodName)) ∈ gW := gW_of (List.mem_of_getElem? (i := 1475) (by decide +kernel)) rfl
theorem t_1476 : (Jvm.Cond.selects "CardLinkModel" ({ cls := "CardLinkModel", name := "byteOf", desc := "(II)I" } : Jvm.MethodName) ({ cls := "CardLinkModel", name := "byteOf", desc := "(II)I" } : Jvm.MethodName)) ∈ gW := gW_of (List.mem_of_getElem? (i := 1476) (by decide +kernel)) rfl
theorem t_1477 : (Jvm.Cond.code ({ cls := "CardLinkModel", name := "byteOf", desc := "(II)I" } : Jvm.MethodName) prog_10_method_73_code (3 : Nat) (Option.some Jvm.ClassFile.FieldType.int)) ∈ gW := gW_of (List.mem_append_right _ (List.mem_append_right _ (List.mem_append_right _ (List.mem_append_right _ (List.mem_append_right _ (List.mem_append_right _ (List.mem_of_getElem? (l := tables_1_6) (i := 177) rfl))))))) rfl
theorem t_1478 : (Jvm.Cond.methodLink "CardLinkLaw" (90 : Nat) ({ cls := "CardLinkModel", name := "would", desc := "(I)I" } : Jvm.MethodName)) ∈ gW := gW_of (List.mem_of_getElem? (i := 1478) (by decide +kernel)) rfl
theorem t_1479 : (Jvm.Cond.instanceMethod ({ cls := "CardLinkModel", name := "would", desc := "(I)I" } : Jvm.MethodName)) ∈ gW := gW_of (List.mem_of_getElem? (i := 1479) (by decide +kernel)) rfl
theorem t_1480 : (Jvm.Cond.selects "CardLinkModel" ({ cls := "CardLinkModel", name := "would", desc := "(I)I" } : Jvm.MethodName) ({ cls := "CardLinkModel", name := "would", desc := "(I)I" } : Jvm.MethodName)) ∈ gW := gW_of (List.mem_of_getElem? (i := 1480) (by decide +kernel)) rfl
theorem t_1481 : (Jvm.Cond.code ({ cls := "CardLinkModel", name := "would", desc := "(I)I" } : Jvm.MethodName) prog_10_method_77_code (3 : Nat) (Option.some Jvm.ClassFile.FieldType.int)) ∈ gW := gW_of (List.mem_append_right _ (List.mem_append_right _ (List.mem_append_right _ (List.mem_append_right _ (List.mem_append_right _ (List.mem_append_right _ (List.mem_of_getElem? (l := tables_1_6) (i := 181) rfl))))))) rfl
theorem t_1482 : (Jvm.Cond.methodLink "CardLinkModel" (309 : Nat) ({ cls := "CardLinkModel", name := "keeps", desc := "()V" } : Jvm.MethodName)) ∈ gW := gW_of (List.mem_of_getElem? (i := 1482) (by decide +kernel)) rfl
theorem t_1484 : (Jvm.Cond.instanceMethod ({ cls := "CardLinkModel", name := "keeps", desc := "()V" } : Jvm.MethodName)) ∈ gW := gW_of (List.mem_of_getElem? (i := 1484) (by decide +kernel)) rfl
theorem t_1485 : (Jvm.Cond.code ({ cls := "CardLinkModel", name := "keeps", desc := "()V" } : Jvm.MethodName) prog_10_method_75_code (2 : Nat) (Option.none : Option Jvm.ClassFile.FieldType)) ∈ gW := gW_of (List.mem_append_right _ (List.mem_append_right _ (List.mem_append_right _ (List.mem_append_right _ (List.mem_append_right _ (List.mem_append_right _ (List.mem_of_getElem? (l := tables_1_6) (i := 185) rfl))))))) rfl
theorem t_1486 : (Jvm.Cond.methodLink "CardLinkModel" (312 : Nat) ({ cls := "CardLinkModel", name := "triesOut", desc := "()V" } : Jvm.MethodName)) ∈ gW := gW_of (List.mem_of_getElem? (i := 1486) (by decide +kernel)) rfl
theorem t_1488 : (Jvm.Cond.instanceMethod ({ cls := "CardLinkModel", name := "triesOut", desc := "()V" } : Jvm.MethodName)) ∈ gW := gW_of (List.mem_of_getElem? (i := 1488) (by decide +kernel)) rfl
theorem t_1489 : (Jvm.Cond.code ({ cls := "CardLinkModel", name := "triesOut", desc := "()V" } : Jvm.MethodName) prog_10_method_74_code (2 : Nat) (Option.none : Option Jvm.ClassFile.FieldType)) ∈ gW := gW_of (List.mem_append_right _ (List.mem_append_right _ (List.mem_append_right _ (List.mem_append_right _ (List.mem_append_right _ (List.mem_append_right _ (List.mem_of_getElem? (l := tables_1_6) (i := 189) rfl))))))) rfl
theorem t_1490 : (Jvm.Cond.methodLink "CardLinkModel" (315 : Nat) ({ cls := "CardLinkModel", name := "comesBack", desc := "()V" } : Jvm.MethodName)) ∈ gW := gW_of (List.mem_of_getElem? (i := 1490) (by decide +kernel)) rfl
theorem t_1492 : (Jvm.Cond.instanceMethod ({ cls := "CardLinkModel", name := "comesBack", desc := "()V" } : Jvm.MethodName)) ∈ gW := gW_of (List.mem_of_getElem? (i := 1492) (by decide +kernel)) rfl
theorem t_1493 : (Jvm.Cond.code ({ cls := "CardLinkModel", name := "comesBack", desc := "()V" } : Jvm.MethodName) prog_10_method_76_code (2 : Nat) (Option.none : Option Jvm.ClassFile.FieldType)) ∈ gW := gW_of (List.mem_append_right _ (List.mem_append_right _ (List.mem_append_right _ (List.mem_append_right _ (List.mem_append_right _ (List.mem_append_right _ (List.mem_of_getElem? (l := tables_1_6) (i := 193) rfl))))))) rfl
theorem t_1494 : (Jvm.Cond.methodLink "CardLinkLaw" (94 : Nat) ({ cls := "CardLinkModel", name := "harm", desc := "(II)I" } : Jvm.MethodName)) ∈ gW := gW_of (List.mem_of_getElem? (i := 1494) (by decide +kernel)) rfl
theorem t_1495 : (Jvm.Cond.instanceMethod ({ cls := "CardLinkModel", name := "harm", desc := "(II)I" } : Jvm.MethodName)) ∈ gW := gW_of (List.mem_of_getElem? (i := 1495) (by decide +kernel)) rfl
theorem t_1496 : (Jvm.Cond.selects "CardLinkModel" ({ cls := "CardLinkModel", name := "harm", desc := "(II)I" } : Jvm.MethodName) ({ cls := "CardLinkModel", name := "harm", desc := "(II)I" } : Jvm.MethodName)) ∈ gW := gW_of (List.mem_of_getElem? (i := 1496) (by decide +kernel)) rfl
theorem t_1497 : (Jvm.Cond.code ({ cls := "CardLinkModel", name := "harm", desc := "(II)I" } : Jvm.MethodName) prog_10_method_79_code (9 : Nat) (Option.some Jvm.ClassFile.FieldType.int)) ∈ gW := gW_of (List.mem_append_right _ (List.mem_append_right _ (List.mem_append_right _ (List.mem_append_right _ (List.mem_append_right _ (List.mem_append_right _ (List.mem_of_getElem? (l := tables_1_6) (i := 197) rfl))))))) rfl
theorem t_1498 : (Jvm.Cond.methodLink "CardLinkModel" (321 : Nat) ({ cls := "CardLinkModel", name := "isSame", desc := "()Z" } : Jvm.MethodName)) ∈ gW := gW_of (List.mem_of_getElem? (i := 1498) (by decide +kernel)) rfl
theorem t_1500 : (Jvm.Cond.instanceMethod ({ cls := "CardLinkModel", name := "isSame", desc := "()Z" } : Jvm.MethodName)) ∈ gW := gW_of (List.mem_of_getElem? (i := 1500) (by decide +kernel)) rfl
theorem t_1501 : (Jvm.Cond.code ({ cls := "CardLinkModel", name := "isSame", desc := "()Z" } : Jvm.MethodName) prog_10_method_78_code (2 : Nat) (Option.some Jvm.ClassFile.FieldType.boolean)) ∈ gW := gW_of (List.mem_append_right _ (List.mem_append_right _ (List.mem_append_right _ (List.mem_append_right _ (List.mem_append_right _ (List.mem_append_right _ (List.mem_of_getElem? (l := tables_1_6) (i := 201) rfl))))))) rfl
theorem t_1502 : (Jvm.Cond.methodLink "CardLinkLaw" (98 : Nat) ({ cls := "CardLinkModel", name := "count", desc := "(I)I" } : Jvm.MethodName)) ∈ gW := gW_of (List.mem_of_getElem? (i := 1502) (by decide +kernel)) rfl
theorem t_1503 : (Jvm.Cond.instanceMethod ({ cls := "CardLinkModel", name := "count", desc := "(I)I" } : Jvm.MethodName)) ∈ gW := gW_of (List.mem_of_getElem? (i := 1503) (by decide +kernel)) rfl
theorem t_1504 : (Jvm.Cond.selects "CardLinkModel" ({ cls := "CardLinkModel", name := "count", desc := "(I)I" } : Jvm.MethodName) ({ cls := "CardLinkModel", name := "count", desc := "(I)I" } : Jvm.MethodName)) ∈ gW := gW_of (List.mem_of_getElem? (i := 1504) (by decide +kernel)) rfl
theorem t_1505 : (Jvm.Cond.code ({ cls := "CardLinkModel", name := "count", desc := "(I)I" } : Jvm.MethodName) prog_10_method_81_code (2 : Nat) (Option.some Jvm.ClassFile.FieldType.int)) ∈ gW := gW_of (List.mem_append_right _ (List.mem_append_right _ (List.mem_append_right _ (List.mem_append_right _ (List.mem_append_right _ (List.mem_append_right _ (List.mem_of_getElem? (l := tables_1_6) (i := 205) rfl))))))) rfl
theorem t_1506 : (Jvm.Cond.methodLink "CardLinkModel" (324 : Nat) ({ cls := "CardLinkModel", name := "faultsToCome", desc := "()I" } : Jvm.MethodName)) ∈ gW := gW_of (List.mem_of_getElem? (i := 1506) (by decide +kernel)) rfl
theorem t_1508 : (Jvm.Cond.instanceMethod ({ cls := "CardLinkModel", name := "faultsToCome", desc := "()I" } : Jvm.MethodName)) ∈ gW := gW_of (List.mem_of_getElem? (i := 1508) (by decide +kernel)) rfl
theorem t_1509 : (Jvm.Cond.code ({ cls := "CardLinkModel", name := "faultsToCome", desc := "()I" } : Jvm.MethodName) prog_10_method_80_code (3 : Nat) (Option.some Jvm.ClassFile.FieldType.int)) ∈ gW := gW_of (List.mem_append_right _ (List.mem_append_right _ (List.mem_append_right _ (List.mem_append_right _ (List.mem_append_right _ (List.mem_append_right _ (List.mem_of_getElem? (l := tables_1_6) (i := 209) rfl))))))) rfl
theorem t_1510 : (Jvm.Cond.constantLong "CardLinkLaw" (19 : Nat) (4294967295 : Int64)) ∈ gW := gW_of (List.mem_of_getElem? (i := 1510) (by decide +kernel)) rfl
theorem t_1511 : (Jvm.Cond.arrayClass Jvm.ClassFile.FieldType.long) ∈ gW := gW_of (List.mem_of_getElem? (i := 1511) (by decide +kernel)) rfl
theorem uwX0 : ∀ w ∈ u_ws RX0 TX0 7, w ∈ gW := fun w hw => gW_of ((by decide +kernel : ∀ w ∈ u_ws RX0 TX0 7, w ∈ lw_tbl) w hw) ((by decide +kernel : ∀ w ∈ u_ws RX0 TX0 7, goodWord w = true) w hw)
theorem gk0 : gK 0 RX0 TX0 7 tyX0 := ⟨rfl, uwX0, tyX0_ok, nmX0⟩
theorem uwX1 : ∀ w ∈ u_ws RX1 TX1 9, w ∈ gW := fun w hw => gW_of ((by decide +kernel : ∀ w ∈ u_ws RX1 TX1 9, w ∈ lw_tbl) w hw) ((by decide +kernel : ∀ w ∈ u_ws RX1 TX1 9, goodWord w = true) w hw)
theorem gk1 : gK 1 RX1 TX1 9 tyX1 := ⟨rfl, uwX1, tyX1_ok, nmX1⟩
theorem uwX2 : ∀ w ∈ u_ws RX2 TX2 18, w ∈ gW := fun w hw => gW_of ((by decide +kernel : ∀ w ∈ u_ws RX2 TX2 18, w ∈ lw_tbl) w hw) ((by decide +kernel : ∀ w ∈ u_ws RX2 TX2 18, goodWord w = true) w hw)
theorem gk2 : gK 2 RX2 TX2 18 tyX2 := ⟨rfl, uwX2, tyX2_ok, nmX2⟩
theorem uwX3 : ∀ w ∈ u_ws RX3 TX3 11, w ∈ gW := fun w hw => gW_of ((by decide +kernel : ∀ w ∈ u_ws RX3 TX3 11, w ∈ lw_tbl) w hw) ((by decide +kernel : ∀ w ∈ u_ws RX3 TX3 11, goodWord w = true) w hw)
theorem gk3 : gK 3 RX3 TX3 11 tyX3 := ⟨rfl, uwX3, tyX3_ok, nmX3⟩
theorem uwX4 : ∀ w ∈ u_ws RX4 TX4 3, w ∈ gW := fun w hw => gW_of ((by decide +kernel : ∀ w ∈ u_ws RX4 TX4 3, w ∈ lw_tbl) w hw) ((by decide +kernel : ∀ w ∈ u_ws RX4 TX4 3, goodWord w = true) w hw)
theorem gk4 : gK 4 RX4 TX4 3 tyX4 := ⟨rfl, uwX4, tyX4_ok, nmX4⟩
theorem uwX5 : ∀ w ∈ u_ws RX5 TX5 15, w ∈ gW := fun w hw => gW_of ((by decide +kernel : ∀ w ∈ u_ws RX5 TX5 15, w ∈ lw_tbl) w hw) ((by decide +kernel : ∀ w ∈ u_ws RX5 TX5 15, goodWord w = true) w hw)
theorem gk5 : gK 5 RX5 TX5 15 tyX5 := ⟨rfl, uwX5, tyX5_ok, nmX5⟩
theorem uwX6 : ∀ w ∈ u_ws RX6 TX6 10, w ∈ gW := fun w hw => gW_of ((by decide +kernel : ∀ w ∈ u_ws RX6 TX6 10, w ∈ lw_tbl) w hw) ((by decide +kernel : ∀ w ∈ u_ws RX6 TX6 10, goodWord w = true) w hw)
theorem gk6 : gK 6 RX6 TX6 10 tyX6 := ⟨rfl, uwX6, tyX6_ok, nmX6⟩
theorem uwX7 : ∀ w ∈ u_ws RX7 TX7 7, w ∈ gW := fun w hw => gW_of ((by decide +kernel : ∀ w ∈ u_ws RX7 TX7 7, w ∈ lw_tbl) w hw) ((by decide +kernel : ∀ w ∈ u_ws RX7 TX7 7, goodWord w = true) w hw)
theorem gk7 : gK 7 RX7 TX7 7 tyX7 := ⟨rfl, uwX7, tyX7_ok, nmX7⟩
theorem uwX8 : ∀ w ∈ u_ws RX8 TX8 39, w ∈ gW := fun w hw => gW_of ((by decide +kernel : ∀ w ∈ u_ws RX8 TX8 39, w ∈ lw_tbl) w hw) ((by decide +kernel : ∀ w ∈ u_ws RX8 TX8 39, goodWord w = true) w hw)
theorem gk8 : gK 8 RX8 TX8 39 tyX8 := ⟨rfl, uwX8, tyX8_ok, nmX8⟩
theorem nX7_7 : gNw RX7 7 4 3 [.null, .int 0, .int 0] := ⟨RX4, TX4, tyX4, gk4, t_125, t_126, t_102, by decide +kernel, fun _ _ => rfl⟩
theorem fX7_14 : gF RX7 14 7 0 (.object "CardLink$Row") true := ⟨RX7, TX7, 7, tyX7, gk7, by decide, t_437, rfl, rfl, fun _ => rfl⟩
theorem nX7_18 : gNw RX7 18 1 9 [.null, .null, .null, .null, .null, .null, .null, .null, .int 0] := ⟨RX1, TX1, tyX1, gk1, t_145, t_146, t_104, by decide +kernel, fun _ _ => rfl⟩
theorem fX7_21 : gF RX7 21 7 1 (.object "CardLink$Journal") true := ⟨RX7, TX7, 7, tyX7, gk7, by decide, t_438, rfl, rfl, fun _ => rfl⟩
theorem nX7_25 : gNw RX7 25 2 18 [.null, .null, .null, .int 0, .int 0, .int 0, .int 0, .int 0, .null, .null, .null, .int 0, .int 0, .int 0, .int 0, .int 0, .int 0, .int 0] := ⟨RX2, TX2, tyX2, gk2, t_183, t_184, t_105, by decide +kernel, fun _ _ => rfl⟩
theorem fX7_30 : gF RX7 30 7 2 (.object "CardLink$Line") true := ⟨RX7, TX7, 7, tyX7, gk7, by decide, t_439, rfl, rfl, fun _ => rfl⟩
theorem nX7_34 : gNw RX7 34 0 7 [.null, .null, .null, .int 0, .null, .null, .null] := ⟨RX0, TX0, tyX0, gk0, t_365, t_366, t_108, by decide +kernel, fun _ _ => rfl⟩
theorem fX7_37 : gF RX7 37 7 3 (.object "CardLink$Forecast") true := ⟨RX7, TX7, 7, tyX7, gk7, by decide, t_440, rfl, rfl, fun _ => rfl⟩
theorem nX7_41 : gNw RX7 41 3 11 [.int 0, .int 0, .int 0, .int 0, .int 0, .int 0, .int 0, .null, .int 0, .int 0, .int 0] := ⟨RX3, TX3, tyX3, gk3, t_395, t_396, t_109, by decide +kernel, fun _ _ => rfl⟩
theorem fX7_44 : gF RX7 44 7 4 (.object "CardLink$ResetAnswer") false := ⟨RX7, TX7, 7, tyX7, gk7, by decide, t_441, rfl, rfl, fun h => by cases h⟩
theorem fX7_48 : gF RX7 48 7 5 (.object "CardLink$ResetAnswer") false := ⟨RX7, TX7, 7, tyX7, gk7, by decide, t_442, rfl, rfl, fun h => by cases h⟩
theorem fX7_51 : gF RX7 51 7 6 .boolean false := ⟨RX7, TX7, 7, tyX7, gk7, by decide, t_443, rfl, rfl, fun h => by cases h⟩
theorem fX7_110 : gF RX7 110 2 3 .int false := ⟨RX2, TX2, 18, tyX2, gk2, by decide, t_309, rfl, rfl, fun h => by cases h⟩
theorem fX7_114 : ∃ (RC : String) (T : u_T) (N : Nat) (tf : Nat → FieldType), gK 2 RC T N tf ∧ 2 < N ∧ Cond.fieldLink RX7 114 (T 2).1 (T 2).2.1 (T 2).2.2.1 ∈ gW := ⟨RX2, TX2, 18, tyX2, gk2, by decide, t_306⟩
theorem fX7_130 : gF RX7 130 6 0 .int false := ⟨RX6, TX6, 10, tyX6, gk6, by decide, t_262, rfl, rfl, fun h => by cases h⟩
theorem fX7_146 : ∃ (RC : String) (T : u_T) (N : Nat) (tf : Nat → FieldType), gK 2 RC T N tf ∧ 0 < N ∧ Cond.fieldLink RX7 146 (T 0).1 (T 0).2.1 (T 0).2.2.1 ∈ gW := ⟨RX2, TX2, 18, tyX2, gk2, by decide, t_301⟩
theorem fX7_150 : ∃ (RC : String) (T : u_T) (N : Nat) (tf : Nat → FieldType), gK 2 RC T N tf ∧ 1 < N ∧ Cond.fieldLink RX7 150 (T 1).1 (T 1).2.1 (T 1).2.2.1 ∈ gW := ⟨RX2, TX2, 18, tyX2, gk2, by decide, t_303⟩
theorem fX7_153 : gF RX7 153 5 7 .int false := ⟨RX5, TX5, 15, tyX5, gk5, by decide, t_212, rfl, rfl, fun h => by cases h⟩
theorem fX7_156 : ∃ (RC : String) (T : u_T) (N : Nat) (tf : Nat → FieldType), gK 5 RC T N tf ∧ 9 < N ∧ Cond.fieldLink RX7 156 (T 9).1 (T 9).2.1 (T 9).2.2.1 ∈ gW := ⟨RX5, TX5, 15, tyX5, gk5, by decide, t_217⟩
theorem fX7_181 : gF RX7 181 6 1 .int false := ⟨RX6, TX6, 10, tyX6, gk6, by decide, t_265, rfl, rfl, fun h => by cases h⟩
theorem fX7_194 : gF RX7 194 6 2 .int false := ⟨RX6, TX6, 10, tyX6, gk6, by decide, t_268, rfl, rfl, fun h => by cases h⟩
theorem fX7_197 : gF RX7 197 2 4 .int false := ⟨RX2, TX2, 18, tyX2, gk2, by decide, t_311, rfl, rfl, fun h => by cases h⟩
theorem fX7_203 : gF RX7 203 2 5 .int false := ⟨RX2, TX2, 18, tyX2, gk2, by decide, t_313, rfl, rfl, fun h => by cases h⟩
theorem fX7_206 : gF RX7 206 2 6 .int false := ⟨RX2, TX2, 18, tyX2, gk2, by decide, t_315, rfl, rfl, fun h => by cases h⟩
theorem fX7_209 : gF RX7 209 2 7 .int false := ⟨RX2, TX2, 18, tyX2, gk2, by decide, t_317, rfl, rfl, fun h => by cases h⟩
theorem nX0_9 : gNw RX0 9 2 18 [.null, .null, .null, .int 0, .int 0, .int 0, .int 0, .int 0, .null, .null, .null, .int 0, .int 0, .int 0, .int 0, .int 0, .int 0, .int 0] := ⟨RX2, TX2, tyX2, gk2, t_371, t_184, t_105, by decide +kernel, fun _ _ => rfl⟩
theorem fX0_14 : gF RX0 14 0 0 (.object "CardLink$Line") true := ⟨RX0, TX0, 7, tyX0, gk0, by decide, t_373, rfl, rfl, fun _ => rfl⟩
theorem fX0_20 : gF RX0 20 0 1 (.object "CardLink$Line") true := ⟨RX0, TX0, 7, tyX0, gk0, by decide, t_374, rfl, rfl, fun _ => rfl⟩
theorem fX0_23 : gF RX0 23 0 2 (.object "CardLink$Line") true := ⟨RX0, TX0, 7, tyX0, gk0, by decide, t_375, rfl, rfl, fun _ => rfl⟩
theorem fX0_26 : gF RX0 26 0 3 .boolean false := ⟨RX0, TX0, 7, tyX0, gk0, by decide, t_376, rfl, rfl, fun h => by cases h⟩
theorem fX0_30 : gF RX0 30 0 4 (.array .int) true := ⟨RX0, TX0, 7, tyX0, gk0, by decide, t_377, rfl, rfl, fun _ => rfl⟩
theorem fX0_34 : gF RX0 34 0 5 (.array .int) true := ⟨RX0, TX0, 7, tyX0, gk0, by decide, t_378, rfl, rfl, fun _ => rfl⟩
theorem fX0_37 : gF RX0 37 0 6 (.array .int) true := ⟨RX0, TX0, 7, tyX0, gk0, by decide, t_379, rfl, rfl, fun _ => rfl⟩
theorem fX0_50 : gF RX0 50 2 3 .int false := ⟨RX2, TX2, 18, tyX2, gk2, by decide, t_308, rfl, rfl, fun h => by cases h⟩
theorem fX0_57 : ∃ (RC : String) (T : u_T) (N : Nat) (tf : Nat → FieldType), gK 2 RC T N tf ∧ 2 < N ∧ Cond.fieldLink RX0 57 (T 2).1 (T 2).2.1 (T 2).2.2.1 ∈ gW := ⟨RX2, TX2, 18, tyX2, gk2, by decide, t_305⟩
theorem fX0_61 : gF RX0 61 6 1 .int false := ⟨RX6, TX6, 10, tyX6, gk6, by decide, t_264, rfl, rfl, fun h => by cases h⟩
theorem fX0_74 : ∃ (RC : String) (T : u_T) (N : Nat) (tf : Nat → FieldType), gK 2 RC T N tf ∧ 0 < N ∧ Cond.fieldLink RX0 74 (T 0).1 (T 0).2.1 (T 0).2.2.1 ∈ gW := ⟨RX2, TX2, 18, tyX2, gk2, by decide, t_300⟩
theorem fX0_78 : ∃ (RC : String) (T : u_T) (N : Nat) (tf : Nat → FieldType), gK 5 RC T N tf ∧ 9 < N ∧ Cond.fieldLink RX0 78 (T 9).1 (T 9).2.1 (T 9).2.2.1 ∈ gW := ⟨RX5, TX5, 15, tyX5, gk5, by decide, t_216⟩
theorem nX1_9 : gNw RX1 9 4 3 [.null, .int 0, .int 0] := ⟨RX4, TX4, tyX4, gk4, t_151, t_126, t_102, by decide +kernel, fun _ _ => rfl⟩
theorem fX1_17 : gF RX1 17 1 0 (.object "CardLink$Row") true := ⟨RX1, TX1, 9, tyX1, gk1, by decide, t_155, rfl, rfl, fun _ => rfl⟩
theorem fX1_22 : gF RX1 22 1 1 (.object "CardLink$Row") true := ⟨RX1, TX1, 9, tyX1, gk1, by decide, t_156, rfl, rfl, fun _ => rfl⟩
theorem fX1_25 : gF RX1 25 1 2 (.object "CardLink$Row") true := ⟨RX1, TX1, 9, tyX1, gk1, by decide, t_157, rfl, rfl, fun _ => rfl⟩
theorem fX1_28 : gF RX1 28 1 3 (.object "CardLink$Row") true := ⟨RX1, TX1, 9, tyX1, gk1, by decide, t_158, rfl, rfl, fun _ => rfl⟩
theorem fX1_31 : gF RX1 31 1 4 (.object "CardLink$Row") true := ⟨RX1, TX1, 9, tyX1, gk1, by decide, t_159, rfl, rfl, fun _ => rfl⟩
theorem fX1_34 : gF RX1 34 1 5 (.object "CardLink$Row") true := ⟨RX1, TX1, 9, tyX1, gk1, by decide, t_160, rfl, rfl, fun _ => rfl⟩
theorem fX1_37 : gF RX1 37 1 6 (.object "CardLink$Row") true := ⟨RX1, TX1, 9, tyX1, gk1, by decide, t_161, rfl, rfl, fun _ => rfl⟩
theorem fX1_40 : gF RX1 40 1 7 (.object "CardLink$Row") true := ⟨RX1, TX1, 9, tyX1, gk1, by decide, t_162, rfl, rfl, fun _ => rfl⟩
theorem fX1_43 : gF RX1 43 1 8 .int false := ⟨RX1, TX1, 9, tyX1, gk1, by decide, t_163, rfl, rfl, fun h => by cases h⟩
theorem nX2_9 : gNw RX2 9 5 15 [.int 0, .int 0, .int 0, .int 0, .int 0, .int 0, .int 0, .int 0, .null, .null, .null, .int 0, .int 0, .int 0, .int 0] := ⟨RX5, TX5, tyX5, gk5, t_189, t_190, t_106, by decide +kernel, fun _ _ => rfl⟩
theorem fX2_14 : gF RX2 14 2 0 (.object "CardLink$Side") true := ⟨RX2, TX2, 18, tyX2, gk2, by decide, t_299, rfl, rfl, fun _ => rfl⟩
theorem fX2_20 : gF RX2 20 2 1 (.object "CardLink$Side") true := ⟨RX2, TX2, 18, tyX2, gk2, by decide, t_302, rfl, rfl, fun _ => rfl⟩
theorem nX2_23 : gNw RX2 23 6 10 [.int 0, .int 0, .int 0, .null, .null, .null, .int 0, .int 0, .int 0, .int 0] := ⟨RX6, TX6, tyX6, gk6, t_255, t_256, t_107, by decide +kernel, fun _ _ => rfl⟩
theorem fX2_26 : gF RX2 26 2 2 (.object "CardLink$Wire") true := ⟨RX2, TX2, 18, tyX2, gk2, by decide, t_304, rfl, rfl, fun _ => rfl⟩
theorem fX2_30 : gF RX2 30 2 3 .int false := ⟨RX2, TX2, 18, tyX2, gk2, by decide, t_307, rfl, rfl, fun h => by cases h⟩
theorem fX2_34 : gF RX2 34 2 4 .int false := ⟨RX2, TX2, 18, tyX2, gk2, by decide, t_310, rfl, rfl, fun h => by cases h⟩
theorem fX2_37 : gF RX2 37 2 5 .int false := ⟨RX2, TX2, 18, tyX2, gk2, by decide, t_312, rfl, rfl, fun h => by cases h⟩
theorem fX2_40 : gF RX2 40 2 6 .int false := ⟨RX2, TX2, 18, tyX2, gk2, by decide, t_314, rfl, rfl, fun h => by cases h⟩
theorem fX2_43 : gF RX2 43 2 7 .int false := ⟨RX2, TX2, 18, tyX2, gk2, by decide, t_316, rfl, rfl, fun h => by cases h⟩
theorem nX2_46 : gNw RX2 46 4 3 [.null, .int 0, .int 0] := ⟨RX4, TX4, tyX4, gk4, t_297, t_126, t_102, by decide +kernel, fun _ _ => rfl⟩
theorem fX2_51 : gF RX2 51 2 8 (.object "CardLink$Row") true := ⟨RX2, TX2, 18, tyX2, gk2, by decide, t_318, rfl, rfl, fun _ => rfl⟩
theorem fX2_55 : gF RX2 55 2 9 (.object "CardLink$Row") true := ⟨RX2, TX2, 18, tyX2, gk2, by decide, t_319, rfl, rfl, fun _ => rfl⟩
theorem fX2_58 : gF RX2 58 2 11 .int false := ⟨RX2, TX2, 18, tyX2, gk2, by decide, t_321, rfl, rfl, fun h => by cases h⟩
theorem fX2_61 : gF RX2 61 2 12 .boolean false := ⟨RX2, TX2, 18, tyX2, gk2, by decide, t_322, rfl, rfl, fun h => by cases h⟩
theorem fX2_65 : gF RX2 65 2 13 .int false := ⟨RX2, TX2, 18, tyX2, gk2, by decide, t_323, rfl, rfl, fun h => by cases h⟩
theorem fX2_68 : gF RX2 68 2 14 .boolean false := ⟨RX2, TX2, 18, tyX2, gk2, by decide, t_324, rfl, rfl, fun h => by cases h⟩
theorem fX2_71 : gF RX2 71 2 15 .boolean false := ⟨RX2, TX2, 18, tyX2, gk2, by decide, t_325, rfl, rfl, fun h => by cases h⟩
theorem fX2_74 : gF RX2 74 2 16 .int false := ⟨RX2, TX2, 18, tyX2, gk2, by decide, t_326, rfl, rfl, fun h => by cases h⟩
theorem fX2_77 : gF RX2 77 2 17 .int false := ⟨RX2, TX2, 18, tyX2, gk2, by decide, t_327, rfl, rfl, fun h => by cases h⟩
theorem fX2_80 : gF RX2 80 2 10 (.object "CardLink$Journal") true := ⟨RX2, TX2, 18, tyX2, gk2, by decide, t_320, rfl, rfl, fun _ => rfl⟩
theorem fX2_102 : ∃ (RC : String) (T : u_T) (N : Nat) (tf : Nat → FieldType), gK 5 RC T N tf ∧ 8 < N ∧ Cond.fieldLink RX2 102 (T 8).1 (T 8).2.1 (T 8).2.2.1 ∈ gW := ⟨RX5, TX5, 15, tyX5, gk5, by decide, t_214⟩
theorem fX2_105 : gF RX2 105 5 4 .int false := ⟨RX5, TX5, 15, tyX5, gk5, by decide, t_206, rfl, rfl, fun h => by cases h⟩
theorem fX2_115 : gF RX2 115 5 3 .int false := ⟨RX5, TX5, 15, tyX5, gk5, by decide, t_204, rfl, rfl, fun h => by cases h⟩
theorem fX2_149 : gF RX2 149 5 5 .int false := ⟨RX5, TX5, 15, tyX5, gk5, by decide, t_208, rfl, rfl, fun h => by cases h⟩
theorem fX2_194 : gF RX2 194 5 6 .int false := ⟨RX5, TX5, 15, tyX5, gk5, by decide, t_210, rfl, rfl, fun h => by cases h⟩
theorem fX2_204 : gF RX2 204 5 2 .int false := ⟨RX5, TX5, 15, tyX5, gk5, by decide, t_202, rfl, rfl, fun h => by cases h⟩
theorem fX2_226 : gF RX2 226 5 1 .int false := ⟨RX5, TX5, 15, tyX5, gk5, by decide, t_200, rfl, rfl, fun h => by cases h⟩
theorem fX2_235 : ∃ (RC : String) (T : u_T) (N : Nat) (tf : Nat → FieldType), gK 5 RC T N tf ∧ 9 < N ∧ Cond.fieldLink RX2 235 (T 9).1 (T 9).2.1 (T 9).2.2.1 ∈ gW := ⟨RX5, TX5, 15, tyX5, gk5, by decide, t_218⟩
theorem fX2_257 : gF RX2 257 6 1 .int false := ⟨RX6, TX6, 10, tyX6, gk6, by decide, t_266, rfl, rfl, fun h => by cases h⟩
theorem fX2_267 : ∃ (RC : String) (T : u_T) (N : Nat) (tf : Nat → FieldType), gK 5 RC T N tf ∧ 0 < N ∧ Cond.fieldLink RX2 267 (T 0).1 (T 0).2.1 (T 0).2.2.1 ∈ gW := ⟨RX5, TX5, 15, tyX5, gk5, by decide, t_198⟩
theorem nX3_9 : gNw RX3 9 4 3 [.null, .int 0, .int 0] := ⟨RX4, TX4, tyX4, gk4, t_401, t_126, t_102, by decide +kernel, fun _ _ => rfl⟩
theorem fX3_14 : gF RX3 14 3 7 (.object "CardLink$Row") true := ⟨RX3, TX3, 11, tyX3, gk3, by decide, t_410, rfl, rfl, fun _ => rfl⟩
theorem fX3_38 : gF RX3 38 3 1 .int false := ⟨RX3, TX3, 11, tyX3, gk3, by decide, t_404, rfl, rfl, fun h => by cases h⟩
theorem fX3_42 : gF RX3 42 3 2 .int false := ⟨RX3, TX3, 11, tyX3, gk3, by decide, t_405, rfl, rfl, fun h => by cases h⟩
theorem fX3_45 : gF RX3 45 3 3 .int false := ⟨RX3, TX3, 11, tyX3, gk3, by decide, t_406, rfl, rfl, fun h => by cases h⟩
theorem fX3_48 : gF RX3 48 3 4 .int false := ⟨RX3, TX3, 11, tyX3, gk3, by decide, t_407, rfl, rfl, fun h => by cases h⟩
theorem fX3_51 : gF RX3 51 3 5 .int false := ⟨RX3, TX3, 11, tyX3, gk3, by decide, t_408, rfl, rfl, fun h => by cases h⟩
theorem fX3_54 : gF RX3 54 3 6 .boolean false := ⟨RX3, TX3, 11, tyX3, gk3, by decide, t_409, rfl, rfl, fun h => by cases h⟩
theorem fX3_62 : gF RX3 62 3 10 .int false := ⟨RX3, TX3, 11, tyX3, gk3, by decide, t_413, rfl, rfl, fun h => by cases h⟩
theorem fX3_73 : gF RX3 73 3 0 .int false := ⟨RX3, TX3, 11, tyX3, gk3, by decide, t_403, rfl, rfl, fun h => by cases h⟩
theorem fX3_76 : gF RX3 76 3 9 .int false := ⟨RX3, TX3, 11, tyX3, gk3, by decide, t_412, rfl, rfl, fun h => by cases h⟩
theorem fX3_79 : gF RX3 79 3 8 .int false := ⟨RX3, TX3, 11, tyX3, gk3, by decide, t_411, rfl, rfl, fun h => by cases h⟩
theorem fX4_7 : gF RX4 7 4 1 .int false := ⟨RX4, TX4, 3, tyX4, gk4, by decide, t_135, rfl, rfl, fun h => by cases h⟩
theorem fX4_19 : gF RX4 19 4 0 (.array .int) false := ⟨RX4, TX4, 3, tyX4, gk4, by decide, t_134, rfl, rfl, fun h => by cases h⟩
theorem fX4_23 : gF RX4 23 4 2 .int true := ⟨RX4, TX4, 3, tyX4, gk4, by decide, t_136, rfl, rfl, fun _ => rfl⟩
theorem fX5_9 : gF RX5 9 5 1 .int false := ⟨RX5, TX5, 15, tyX5, gk5, by decide, t_199, rfl, rfl, fun h => by cases h⟩
theorem fX5_15 : gF RX5 15 5 2 .int false := ⟨RX5, TX5, 15, tyX5, gk5, by decide, t_201, rfl, rfl, fun h => by cases h⟩
theorem fX5_18 : gF RX5 18 5 3 .int false := ⟨RX5, TX5, 15, tyX5, gk5, by decide, t_203, rfl, rfl, fun h => by cases h⟩
theorem fX5_21 : gF RX5 21 5 4 .int false := ⟨RX5, TX5, 15, tyX5, gk5, by decide, t_205, rfl, rfl, fun h => by cases h⟩
theorem fX5_24 : gF RX5 24 5 5 .int false := ⟨RX5, TX5, 15, tyX5, gk5, by decide, t_207, rfl, rfl, fun h => by cases h⟩
theorem fX5_27 : gF RX5 27 5 6 .int false := ⟨RX5, TX5, 15, tyX5, gk5, by decide, t_209, rfl, rfl, fun h => by cases h⟩
theorem fX5_30 : gF RX5 30 5 7 .int false := ⟨RX5, TX5, 15, tyX5, gk5, by decide, t_211, rfl, rfl, fun h => by cases h⟩
theorem nX5_33 : gNw RX5 33 4 3 [.null, .int 0, .int 0] := ⟨RX4, TX4, tyX4, gk4, t_195, t_126, t_102, by decide +kernel, fun _ _ => rfl⟩
theorem fX5_38 : gF RX5 38 5 8 (.object "CardLink$Row") true := ⟨RX5, TX5, 15, tyX5, gk5, by decide, t_213, rfl, rfl, fun _ => rfl⟩
theorem fX5_42 : gF RX5 42 5 9 (.object "CardLink$Row") true := ⟨RX5, TX5, 15, tyX5, gk5, by decide, t_215, rfl, rfl, fun _ => rfl⟩
theorem fX5_45 : gF RX5 45 5 10 (.object "CardLink$Row") true := ⟨RX5, TX5, 15, tyX5, gk5, by decide, t_219, rfl, rfl, fun _ => rfl⟩
theorem fX5_48 : gF RX5 48 5 11 .int false := ⟨RX5, TX5, 15, tyX5, gk5, by decide, t_220, rfl, rfl, fun h => by cases h⟩
theorem fX5_51 : gF RX5 51 5 12 .boolean false := ⟨RX5, TX5, 15, tyX5, gk5, by decide, t_221, rfl, rfl, fun h => by cases h⟩
theorem fX5_55 : gF RX5 55 5 13 .int false := ⟨RX5, TX5, 15, tyX5, gk5, by decide, t_222, rfl, rfl, fun h => by cases h⟩
theorem fX5_58 : gF RX5 58 5 14 .int false := ⟨RX5, TX5, 15, tyX5, gk5, by decide, t_223, rfl, rfl, fun h => by cases h⟩
theorem fX5_61 : gF RX5 61 5 0 .int true := ⟨RX5, TX5, 15, tyX5, gk5, by decide, t_197, rfl, rfl, fun _ => rfl⟩
theorem fX6_9 : gF RX6 9 6 0 .int false := ⟨RX6, TX6, 10, tyX6, gk6, by decide, t_261, rfl, rfl, fun h => by cases h⟩
theorem fX6_15 : gF RX6 15 6 1 .int false := ⟨RX6, TX6, 10, tyX6, gk6, by decide, t_263, rfl, rfl, fun h => by cases h⟩
theorem fX6_18 : gF RX6 18 6 2 .int false := ⟨RX6, TX6, 10, tyX6, gk6, by decide, t_267, rfl, rfl, fun h => by cases h⟩
theorem fX6_21 : gF RX6 21 6 3 (.array .int) true := ⟨RX6, TX6, 10, tyX6, gk6, by decide, t_269, rfl, rfl, fun _ => rfl⟩
theorem fX6_25 : gF RX6 25 6 4 (.array .int) true := ⟨RX6, TX6, 10, tyX6, gk6, by decide, t_270, rfl, rfl, fun _ => rfl⟩
theorem fX6_28 : gF RX6 28 6 5 (.array .int) true := ⟨RX6, TX6, 10, tyX6, gk6, by decide, t_271, rfl, rfl, fun _ => rfl⟩
theorem fX6_31 : gF RX6 31 6 6 .int false := ⟨RX6, TX6, 10, tyX6, gk6, by decide, t_272, rfl, rfl, fun h => by cases h⟩
theorem fX6_34 : gF RX6 34 6 7 .int false := ⟨RX6, TX6, 10, tyX6, gk6, by decide, t_273, rfl, rfl, fun h => by cases h⟩
theorem fX6_37 : gF RX6 37 6 8 .int false := ⟨RX6, TX6, 10, tyX6, gk6, by decide, t_274, rfl, rfl, fun h => by cases h⟩
theorem fX6_40 : gF RX6 40 6 9 .int false := ⟨RX6, TX6, 10, tyX6, gk6, by decide, t_275, rfl, rfl, fun h => by cases h⟩
theorem nL_8 : gNw RL 8 7 7 [.null, .null, .null, .null, .null, .null, .int 0] := ⟨RX7, TX7, tyX7, gk7, t_117, t_118, t_101, by decide +kernel, fun _ _ => rfl⟩
theorem nL_16 : gNw RL 16 8 39 [.null, .int 0, .int 0, .int 0, .null, .null, .null, .null, .null, .int 0, .null, .null, .int 0, .int 0, .null, .null, .null, .null, .int 0, .int 0, .int 0, .int 0, .int 0, .int 0, .int 0, .null, .int 0, .null, .int 0, .int 0, .int 0, .int 0, .null, .int 0, .int 0, .int 0, .int 0, .null, .int 0] := ⟨RX8, TX8, tyX8, gk8, t_1070, t_1071, t_110, by decide +kernel, fun _ _ => rfl⟩
theorem fX8_7 : gF RX8 7 8 0 (.array .int) true := ⟨RX8, TX8, 39, tyX8, gk8, by decide, t_1081, rfl, rfl, fun _ => rfl⟩
theorem fX8_13 : gF RX8 13 8 4 (.array .int) true := ⟨RX8, TX8, 39, tyX8, gk8, by decide, t_1085, rfl, rfl, fun _ => rfl⟩
theorem fX8_16 : gF RX8 16 8 5 (.array .int) true := ⟨RX8, TX8, 39, tyX8, gk8, by decide, t_1086, rfl, rfl, fun _ => rfl⟩
theorem fX8_19 : gF RX8 19 8 6 (.array .int) true := ⟨RX8, TX8, 39, tyX8, gk8, by decide, t_1087, rfl, rfl, fun _ => rfl⟩
theorem fX8_22 : gF RX8 22 8 7 (.array .int) true := ⟨RX8, TX8, 39, tyX8, gk8, by decide, t_1088, rfl, rfl, fun _ => rfl⟩
theorem fX8_25 : gF RX8 25 8 8 (.array .int) true := ⟨RX8, TX8, 39, tyX8, gk8, by decide, t_1089, rfl, rfl, fun _ => rfl⟩
theorem fX8_28 : gF RX8 28 8 9 .int false := ⟨RX8, TX8, 39, tyX8, gk8, by decide, t_1090, rfl, rfl, fun h => by cases h⟩
theorem fX8_32 : gF RX8 32 8 10 (.array .int) true := ⟨RX8, TX8, 39, tyX8, gk8, by decide, t_1091, rfl, rfl, fun _ => rfl⟩
theorem fX8_35 : gF RX8 35 8 11 (.array .int) true := ⟨RX8, TX8, 39, tyX8, gk8, by decide, t_1092, rfl, rfl, fun _ => rfl⟩
theorem fX8_38 : gF RX8 38 8 14 (.array .int) true := ⟨RX8, TX8, 39, tyX8, gk8, by decide, t_1095, rfl, rfl, fun _ => rfl⟩
theorem fX8_41 : gF RX8 41 8 15 (.array .int) true := ⟨RX8, TX8, 39, tyX8, gk8, by decide, t_1096, rfl, rfl, fun _ => rfl⟩
theorem fX8_44 : gF RX8 44 8 16 (.array .int) true := ⟨RX8, TX8, 39, tyX8, gk8, by decide, t_1097, rfl, rfl, fun _ => rfl⟩
theorem fX8_48 : gF RX8 48 8 17 (.array .int) true := ⟨RX8, TX8, 39, tyX8, gk8, by decide, t_1098, rfl, rfl, fun _ => rfl⟩
theorem fX8_51 : gF RX8 51 8 25 (.array .int) true := ⟨RX8, TX8, 39, tyX8, gk8, by decide, t_1106, rfl, rfl, fun _ => rfl⟩
theorem fX8_54 : gF RX8 54 8 27 (.array .int) true := ⟨RX8, TX8, 39, tyX8, gk8, by decide, t_1108, rfl, rfl, fun _ => rfl⟩
theorem fX8_57 : gF RX8 57 8 32 (.array .int) true := ⟨RX8, TX8, 39, tyX8, gk8, by decide, t_1113, rfl, rfl, fun _ => rfl⟩
theorem fX8_60 : gF RX8 60 8 37 (.array .int) true := ⟨RX8, TX8, 39, tyX8, gk8, by decide, t_1118, rfl, rfl, fun _ => rfl⟩
theorem fX8_66 : gF RX8 66 8 2 .int false := ⟨RX8, TX8, 39, tyX8, gk8, by decide, t_1083, rfl, rfl, fun h => by cases h⟩
theorem fX8_69 : gF RX8 69 8 12 .int false := ⟨RX8, TX8, 39, tyX8, gk8, by decide, t_1093, rfl, rfl, fun h => by cases h⟩
theorem fX8_72 : gF RX8 72 8 18 .int false := ⟨RX8, TX8, 39, tyX8, gk8, by decide, t_1099, rfl, rfl, fun h => by cases h⟩
theorem fX8_75 : gF RX8 75 8 1 .int false := ⟨RX8, TX8, 39, tyX8, gk8, by decide, t_1082, rfl, rfl, fun h => by cases h⟩
theorem fX8_86 : gF RX8 86 8 22 .int false := ⟨RX8, TX8, 39, tyX8, gk8, by decide, t_1103, rfl, rfl, fun h => by cases h⟩
theorem fX8_89 : gF RX8 89 8 21 .int false := ⟨RX8, TX8, 39, tyX8, gk8, by decide, t_1102, rfl, rfl, fun h => by cases h⟩
theorem fX8_92 : gF RX8 92 8 20 .int false := ⟨RX8, TX8, 39, tyX8, gk8, by decide, t_1101, rfl, rfl, fun h => by cases h⟩
theorem fX8_113 : gF RX8 113 8 23 .int false := ⟨RX8, TX8, 39, tyX8, gk8, by decide, t_1104, rfl, rfl, fun h => by cases h⟩
theorem fX8_123 : gF RX8 123 8 24 .boolean false := ⟨RX8, TX8, 39, tyX8, gk8, by decide, t_1105, rfl, rfl, fun h => by cases h⟩
theorem fX8_134 : gF RX8 134 8 3 .boolean false := ⟨RX8, TX8, 39, tyX8, gk8, by decide, t_1084, rfl, rfl, fun h => by cases h⟩
theorem fX8_154 : gF RX8 154 8 30 .boolean false := ⟨RX8, TX8, 39, tyX8, gk8, by decide, t_1111, rfl, rfl, fun h => by cases h⟩
theorem fX8_157 : gF RX8 157 8 31 .boolean false := ⟨RX8, TX8, 39, tyX8, gk8, by decide, t_1112, rfl, rfl, fun h => by cases h⟩
theorem fX8_160 : gF RX8 160 8 28 .int false := ⟨RX8, TX8, 39, tyX8, gk8, by decide, t_1109, rfl, rfl, fun h => by cases h⟩
theorem fX8_167 : gF RX8 167 8 26 .int false := ⟨RX8, TX8, 39, tyX8, gk8, by decide, t_1107, rfl, rfl, fun h => by cases h⟩
theorem fX8_176 : gF RX8 176 8 29 .int false := ⟨RX8, TX8, 39, tyX8, gk8, by decide, t_1110, rfl, rfl, fun h => by cases h⟩
theorem fX8_179 : gF RX8 179 8 33 .boolean false := ⟨RX8, TX8, 39, tyX8, gk8, by decide, t_1114, rfl, rfl, fun h => by cases h⟩
theorem fX8_182 : gF RX8 182 8 19 .boolean false := ⟨RX8, TX8, 39, tyX8, gk8, by decide, t_1100, rfl, rfl, fun h => by cases h⟩
theorem fX8_192 : gF RX8 192 8 13 .int false := ⟨RX8, TX8, 39, tyX8, gk8, by decide, t_1094, rfl, rfl, fun h => by cases h⟩
theorem fX8_219 : gF RX8 219 8 34 .int false := ⟨RX8, TX8, 39, tyX8, gk8, by decide, t_1115, rfl, rfl, fun h => by cases h⟩
theorem fX8_222 : gF RX8 222 8 35 .int false := ⟨RX8, TX8, 39, tyX8, gk8, by decide, t_1116, rfl, rfl, fun h => by cases h⟩
theorem fX8_306 : gF RX8 306 8 36 .int false := ⟨RX8, TX8, 39, tyX8, gk8, by decide, t_1117, rfl, rfl, fun h => by cases h⟩
theorem fX8_318 : gF RX8 318 8 38 .int false := ⟨RX8, TX8, 39, tyX8, gk8, by decide, t_1119, rfl, rfl, fun h => by cases h⟩
theorem gyX0_init : gY yX0_init cX0_init 1 none 0 := ⟨t_108, t_369, by decide +kernel⟩
theorem giX0_init : gVi yX0_init := t_368
theorem gyX0_forget : gY yX0_forget cX0_forget 1 none 0 := ⟨t_108, t_590, by decide +kernel⟩
theorem gvX0_forget : gVv yX0_forget := ⟨t_588, t_589⟩
theorem gyX0_outlook : gY yX0_outlook cX0_outlook 3 (some (.object "CardLink$Line")) 1 := ⟨t_108, t_946, by decide +kernel⟩
theorem gvX0_outlook : gVv yX0_outlook := ⟨t_944, t_945⟩
theorem gyX0_harmful : gY yX0_harmful cX0_harmful 2 (some .int) 1 := ⟨t_108, t_984, by decide +kernel⟩
theorem gvX0_harmful : gVv yX0_harmful := ⟨t_982, t_983⟩
theorem gyX0_firstHarmful : gY yX0_firstHarmful cX0_firstHarmful 2 (some .int) 1 := ⟨t_108, t_988, by decide +kernel⟩
theorem gvX0_firstHarmful : gVv yX0_firstHarmful := ⟨t_986, t_987⟩
theorem gyX0_tryAll : gY yX0_tryAll cX0_tryAll 8 none 2 := ⟨t_108, t_968, by decide +kernel⟩
theorem gvX0_tryAll : gVv yX0_tryAll := ⟨t_966, t_967⟩
theorem gyX0_forkIsHarmed : gY yX0_forkIsHarmed cX0_forkIsHarmed 1 (some .boolean) 0 := ⟨t_108, t_976, by decide +kernel⟩
theorem gvX0_forkIsHarmed : gVv yX0_forkIsHarmed := ⟨t_975, t_40⟩
theorem gyX1_init : gY yX1_init cX1_init 1 none 0 := ⟨t_104, t_149, by decide +kernel⟩
theorem giX1_init : gVi yX1_init := t_148
theorem gyX1_forgetAll : gY yX1_forgetAll cX1_forgetAll 1 none 0 := ⟨t_104, t_563, by decide +kernel⟩
theorem gvX1_forgetAll : gVv yX1_forgetAll := ⟨t_561, t_562⟩
theorem gyX1_unlike : gY yX1_unlike cX1_unlike 1 (some .int) 0 := ⟨t_104, t_996, by decide +kernel⟩
theorem gvX1_unlike : gVv yX1_unlike := ⟨t_994, t_995⟩
theorem gyX1_kept : gY yX1_kept cX1_kept 1 (some .int) 0 := ⟨t_104, t_930, by decide +kernel⟩
theorem gvX1_kept : gVv yX1_kept := ⟨t_928, t_929⟩
theorem gyX1_note : gY yX1_note cX1_note 4 none 3 := ⟨t_104, t_877, by decide +kernel⟩
theorem gvX1_note : gVv yX1_note := ⟨t_875, t_876⟩
theorem gyX1_idOf : gY yX1_idOf cX1_idOf 6 (some .int) 2 := ⟨t_104, t_855, by decide +kernel⟩
theorem gvX1_idOf : gVv yX1_idOf := ⟨t_853, t_854⟩
theorem gyX1_chainOf : gY yX1_chainOf cX1_chainOf 4 (some .int) 2 := ⟨t_104, t_860, by decide +kernel⟩
theorem gyX1_isBlock : gY yX1_isBlock cX1_isBlock 6 (some .boolean) 3 := ⟨t_104, t_865, by decide +kernel⟩
theorem gvX1_isBlock : gVv yX1_isBlock := ⟨t_864, t_30⟩
theorem gyX1_addUnlike : gY yX1_addUnlike cX1_addUnlike 6 (some .int) 3 := ⟨t_104, t_869, by decide +kernel⟩
theorem gvX1_addUnlike : gVv yX1_addUnlike := ⟨t_868, t_31⟩
theorem gyX1_placeOf : gY yX1_placeOf cX1_placeOf 3 (some .int) 1 := ⟨t_104, t_938, by decide +kernel⟩
theorem gvX1_placeOf : gVv yX1_placeOf := ⟨t_937, t_39⟩
theorem gyX1_tell : gY yX1_tell cX1_tell 6 (some .int) 2 := ⟨t_104, t_1069, by decide +kernel⟩
theorem gvX1_tell : gVv yX1_tell := ⟨t_1067, t_1068⟩
theorem gyX1_byteAt : gY yX1_byteAt cX1_byteAt 4 (some .int) 2 := ⟨t_104, t_934, by decide +kernel⟩
theorem gvX1_byteAt : gVv yX1_byteAt := ⟨t_932, t_933⟩
theorem gyX2_init : gY yX2_init cX2_init 2 none 1 := ⟨t_105, t_187, by decide +kernel⟩
theorem giX2_init : gVi yX2_init := t_186
theorem gyX2_restart : gY yX2_restart cX2_restart 2 none 1 := ⟨t_105, t_572, by decide +kernel⟩
theorem gvX2_restart : gVv yX2_restart := ⟨t_570, t_571⟩
theorem gyX2_copy : gY yX2_copy cX2_copy 2 none 1 := ⟨t_105, t_950, by decide +kernel⟩
theorem gvX2_copy : gVv yX2_copy := ⟨t_948, t_949⟩
theorem gyX2_startMessage : gY yX2_startMessage cX2_startMessage 2 none 1 := ⟨t_105, t_625, by decide +kernel⟩
theorem gvX2_startMessage : gVv yX2_startMessage := ⟨t_623, t_624⟩
theorem gyX2_startRoom : gY yX2_startRoom cX2_startRoom 2 none 1 := ⟨t_105, t_647, by decide +kernel⟩
theorem gvX2_startRoom : gVv yX2_startRoom := ⟨t_645, t_646⟩
theorem gyX2_begin : gY yX2_begin cX2_begin 2 none 1 := ⟨t_105, t_634, by decide +kernel⟩
theorem gvX2_begin : gVv yX2_begin := ⟨t_633, t_10⟩
theorem gyX2_blocksAhead : gY yX2_blocksAhead cX2_blocksAhead 4 (some .int) 0 := ⟨t_105, t_638, by decide +kernel⟩
theorem gvX2_blocksAhead : gVv yX2_blocksAhead := ⟨t_636, t_637⟩
theorem gyX2_blocksSent : gY yX2_blocksSent cX2_blocksSent 1 (some .int) 0 := ⟨t_105, t_688, by decide +kernel⟩
theorem gvX2_blocksSent : gVv yX2_blocksSent := ⟨t_686, t_687⟩
theorem gyX2_run : gY yX2_run cX2_run 4 (some .int) 1 := ⟨t_105, t_684, by decide +kernel⟩
theorem gvX2_run : gVv yX2_run := ⟨t_682, t_683⟩
theorem gyX2_turn : gY yX2_turn cX2_turn 2 none 0 := ⟨t_105, t_696, by decide +kernel⟩
theorem gvX2_turn : gVv yX2_turn := ⟨t_694, t_695⟩
theorem gyX2_firstKind : gY yX2_firstKind cX2_firstKind 1 (some .int) 0 := ⟨t_105, t_700, by decide +kernel⟩
theorem gvX2_firstKind : gVv yX2_firstKind := ⟨t_699, t_13⟩
theorem gyX2_countTries : gY yX2_countTries cX2_countTries 2 (some .int) 1 := ⟨t_105, t_792, by decide +kernel⟩
theorem gvX2_countTries : gVv yX2_countTries := ⟨t_791, t_23⟩
theorem gyX2_readerKind : gY yX2_readerKind cX2_readerKind 2 (some .int) 0 := ⟨t_105, t_712, by decide +kernel⟩
theorem gvX2_readerKind : gVv yX2_readerKind := ⟨t_711, t_14⟩
theorem gyX2_cardKind : gY yX2_cardKind cX2_cardKind 2 (some .int) 0 := ⟨t_105, t_881, by decide +kernel⟩
theorem gvX2_cardKind : gVv yX2_cardKind := ⟨t_880, t_32⟩
theorem gyX2_onBroken : gY yX2_onBroken cX2_onBroken 2 (some .int) 1 := ⟨t_105, t_716, by decide +kernel⟩
theorem gvX2_onBroken : gVv yX2_onBroken := ⟨t_715, t_15⟩
theorem gyX2_refuse : gY yX2_refuse cX2_refuse 2 (some .int) 1 := ⟨t_105, t_751, by decide +kernel⟩
theorem gvX2_refuse : gVv yX2_refuse := ⟨t_750, t_20⟩
theorem gyX2_isAnswerTo : gY yX2_isAnswerTo cX2_isAnswerTo 2 (some .boolean) 1 := ⟨t_105, t_730, by decide +kernel⟩
theorem gvX2_isAnswerTo : gVv yX2_isAnswerTo := ⟨t_729, t_17⟩
theorem gyX2_readerOnAnswer : gY yX2_readerOnAnswer cX2_readerOnAnswer 2 (some .int) 0 := ⟨t_105, t_726, by decide +kernel⟩
theorem gvX2_readerOnAnswer : gVv yX2_readerOnAnswer := ⟨t_725, t_16⟩
theorem gyX2_finish : gY yX2_finish cX2_finish 2 (some .int) 1 := ⟨t_105, t_735, by decide +kernel⟩
theorem gvX2_finish : gVv yX2_finish := ⟨t_734, t_18⟩
theorem gyX2_cardOnAnswer : gY yX2_cardOnAnswer cX2_cardOnAnswer 2 (some .int) 0 := ⟨t_105, t_889, by decide +kernel⟩
theorem gvX2_cardOnAnswer : gVv yX2_cardOnAnswer := ⟨t_888, t_34⟩
theorem gyX2_onI : gY yX2_onI cX2_onI 3 (some .int) 2 := ⟨t_105, t_755, by decide +kernel⟩
theorem gvX2_onI : gVv yX2_onI := ⟨t_754, t_21⟩
theorem gyX2_onReceipt : gY yX2_onReceipt cX2_onReceipt 4 (some .int) 2 := ⟨t_105, t_780, by decide +kernel⟩
theorem gvX2_onReceipt : gVv yX2_onReceipt := ⟨t_779, t_22⟩
theorem gyX2_onRequest : gY yX2_onRequest cX2_onRequest 5 (some .int) 3 := ⟨t_105, t_739, by decide +kernel⟩
theorem gvX2_onRequest : gVv yX2_onRequest := ⟨t_738, t_19⟩
theorem gyX2_doMessage : gY yX2_doMessage cX2_doMessage 3 (some .int) 0 := ⟨t_105, t_897, by decide +kernel⟩
theorem gvX2_doMessage : gVv yX2_doMessage := ⟨t_896, t_36⟩
theorem gyX2_putCounting : gY yX2_putCounting cX2_putCounting 3 (some .int) 1 := ⟨t_105, t_901, by decide +kernel⟩
theorem gvX2_putCounting : gVv yX2_putCounting := ⟨t_900, t_37⟩
theorem gyX2_putBehindThird : gY yX2_putBehindThird cX2_putBehindThird 2 (some .int) 0 := ⟨t_105, t_893, by decide +kernel⟩
theorem gvX2_putBehindThird : gVv yX2_putBehindThird := ⟨t_892, t_35⟩
theorem gyX2_putFirstByte : gY yX2_putFirstByte cX2_putFirstByte 1 (some .int) 0 := ⟨t_105, t_885, by decide +kernel⟩
theorem gvX2_putFirstByte : gVv yX2_putFirstByte := ⟨t_884, t_33⟩
theorem gyX2_kindToSend : gY yX2_kindToSend cX2_kindToSend 3 (some .int) 3 := ⟨t_105, t_799, by decide +kernel⟩
theorem gyX2_send : gY yX2_send cX2_send 7 none 3 := ⟨t_105, t_796, by decide +kernel⟩
theorem gvX2_send : gVv yX2_send := ⟨t_795, t_24⟩
theorem gyX2_compose : gY yX2_compose cX2_compose 5 none 2 := ⟨t_105, t_810, by decide +kernel⟩
theorem gvX2_compose : gVv yX2_compose := ⟨t_809, t_25⟩
theorem gyX2_hasInf : gY yX2_hasInf cX2_hasInf 1 (some .boolean) 1 := ⟨t_105, t_818, by decide +kernel⟩
theorem gyX2_judge : gY yX2_judge cX2_judge 3 (some .int) 2 := ⟨t_105, t_847, by decide +kernel⟩
theorem gvX2_judge : gVv yX2_judge := ⟨t_846, t_28⟩
theorem gyX2_isWellFormed : gY yX2_isWellFormed cX2_isWellFormed 4 (some .boolean) 3 := ⟨t_105, t_851, by decide +kernel⟩
theorem gvX2_isWellFormed : gVv yX2_isWellFormed := ⟨t_850, t_29⟩
theorem gyX3_init : gY yX3_init cX3_init 1 none 0 := ⟨t_109, t_399, by decide +kernel⟩
theorem giX3_init : gVi yX3_init := t_398
theorem gyX3_read : gY yX3_read cX3_read 3 (some .int) 1 := ⟨t_109, t_507, by decide +kernel⟩
theorem gvX3_read : gVv yX3_read := ⟨t_505, t_506⟩
theorem gyX3_clear : gY yX3_clear cX3_clear 1 none 0 := ⟨t_109, t_511, by decide +kernel⟩
theorem gvX3_clear : gVv yX3_clear := ⟨t_510, t_1⟩
theorem gyX3_faultAt : gY yX3_faultAt cX3_faultAt 2 (some .int) 2 := ⟨t_109, t_520, by decide +kernel⟩
theorem gyX3_readHead : gY yX3_readHead cX3_readHead 2 (some .int) 1 := ⟨t_109, t_516, by decide +kernel⟩
theorem gvX3_readHead : gVv yX3_readHead := ⟨t_515, t_2⟩
theorem gyX3_readGroups : gY yX3_readGroups cX3_readGroups 6 (some .int) 1 := ⟨t_109, t_528, by decide +kernel⟩
theorem gvX3_readGroups : gVv yX3_readGroups := ⟨t_527, t_3⟩
theorem gyX3_readGroupByte : gY yX3_readGroupByte cX3_readGroupByte 4 (some .int) 3 := ⟨t_109, t_532, by decide +kernel⟩
theorem gvX3_readGroupByte : gVv yX3_readGroupByte := ⟨t_531, t_4⟩
theorem gyX3_readFirstGroup : gY yX3_readFirstGroup cX3_readFirstGroup 3 (some .int) 2 := ⟨t_109, t_540, by decide +kernel⟩
theorem gvX3_readFirstGroup : gVv yX3_readFirstGroup := ⟨t_539, t_6⟩
theorem gyX3_readLinkGroup : gY yX3_readLinkGroup cX3_readLinkGroup 3 (some .int) 2 := ⟨t_109, t_554, by decide +kernel⟩
theorem gvX3_readLinkGroup : gVv yX3_readLinkGroup := ⟨t_553, t_7⟩
theorem gyX3_readTd : gY yX3_readTd cX3_readTd 4 (some .int) 2 := ⟨t_109, t_536, by decide +kernel⟩
theorem gvX3_readTd : gVv yX3_readTd := ⟨t_535, t_5⟩
theorem gyX3_readTail : gY yX3_readTail cX3_readTail 5 (some .int) 2 := ⟨t_109, t_558, by decide +kernel⟩
theorem gvX3_readTail : gVv yX3_readTail := ⟨t_557, t_8⟩
theorem gyX3_clockOf : gY yX3_clockOf cX3_clockOf 2 (some .int) 1 := ⟨t_109, t_543, by decide +kernel⟩
theorem gyX3_divisorOf : gY yX3_divisorOf cX3_divisorOf 2 (some .int) 1 := ⟨t_109, t_548, by decide +kernel⟩
theorem gyX3_cardRoom : gY yX3_cardRoom cX3_cardRoom 1 (some .int) 0 := ⟨t_109, t_568, by decide +kernel⟩
theorem gvX3_cardRoom : gVv yX3_cardRoom := ⟨t_566, t_567⟩
theorem gyX3_historicalBytes : gY yX3_historicalBytes cX3_historicalBytes 1 (some .int) 0 := ⟨t_109, t_597, by decide +kernel⟩
theorem gvX3_historicalBytes : gVv yX3_historicalBytes := ⟨t_595, t_596⟩
theorem gyX3_historicalByte : gY yX3_historicalByte cX3_historicalByte 2 (some .int) 1 := ⟨t_109, t_613, by decide +kernel⟩
theorem gvX3_historicalByte : gVv yX3_historicalByte := ⟨t_611, t_612⟩
theorem gyX3_tell : gY yX3_tell cX3_tell 2 (some .int) 1 := ⟨t_109, t_605, by decide +kernel⟩
theorem gvX3_tell : gVv yX3_tell := ⟨t_603, t_604⟩
theorem gyX4_init : gY yX4_init cX4_init 3 none 2 := ⟨t_102, t_129, by decide +kernel⟩
theorem giX4_init : gVi yX4_init := t_128
theorem gyX4_size : gY yX4_size cX4_size 1 (some .int) 0 := ⟨t_102, t_466, by decide +kernel⟩
theorem gvX4_size : gVv yX4_size := ⟨t_464, t_465⟩
theorem gyX4_at : gY yX4_at cX4_at 2 (some .int) 1 := ⟨t_102, t_524, by decide +kernel⟩
theorem gvX4_at : gVv yX4_at := ⟨t_522, t_523⟩
theorem gyX4_put : gY yX4_put cX4_put 3 none 2 := ⟨t_102, t_873, by decide +kernel⟩
theorem gvX4_put : gVv yX4_put := ⟨t_871, t_872⟩
theorem gyX4_add : gY yX4_add cX4_add 2 none 1 := ⟨t_102, t_474, by decide +kernel⟩
theorem gvX4_add : gVv yX4_add := ⟨t_472, t_473⟩
theorem gyX4_keep : gY yX4_keep cX4_keep 2 none 1 := ⟨t_102, t_499, by decide +kernel⟩
theorem gvX4_keep : gVv yX4_keep := ⟨t_497, t_498⟩
theorem gyX4_copy : gY yX4_copy cX4_copy 3 none 1 := ⟨t_102, t_629, by decide +kernel⟩
theorem gvX4_copy : gVv yX4_copy := ⟨t_627, t_628⟩
theorem gyX4_same : gY yX4_same cX4_same 3 (some .boolean) 1 := ⟨t_102, t_980, by decide +kernel⟩
theorem gvX4_same : gVv yX4_same := ⟨t_978, t_979⟩
theorem gyX4_xor : gY yX4_xor cX4_xor 4 (some .int) 1 := ⟨t_102, t_822, by decide +kernel⟩
theorem gvX4_xor : gVv yX4_xor := ⟨t_820, t_821⟩
theorem gyX5_init : gY yX5_init cX5_init 2 none 1 := ⟨t_106, t_193, by decide +kernel⟩
theorem giX5_init : gVi yX5_init := t_192
theorem gyX5_restart : gY yX5_restart cX5_restart 2 none 1 := ⟨t_106, t_576, by decide +kernel⟩
theorem gvX5_restart : gVv yX5_restart := ⟨t_574, t_575⟩
theorem gyX5_copy : gY yX5_copy cX5_copy 2 none 1 := ⟨t_106, t_954, by decide +kernel⟩
theorem gvX5_copy : gVv yX5_copy := ⟨t_952, t_953⟩
theorem gyX5_emptyAll : gY yX5_emptyAll cX5_emptyAll 1 none 0 := ⟨t_106, t_580, by decide +kernel⟩
theorem gvX5_emptyAll : gVv yX5_emptyAll := ⟨t_578, t_579⟩
theorem gyX5_breakOff : gY yX5_breakOff cX5_breakOff 1 none 0 := ⟨t_106, t_743, by decide +kernel⟩
theorem gvX5_breakOff : gVv yX5_breakOff := ⟨t_741, t_742⟩
theorem gyX5_cutNext : gY yX5_cutNext cX5_cutNext 3 (some .int) 1 := ⟨t_106, t_803, by decide +kernel⟩
theorem gvX5_cutNext : gVv yX5_cutNext := ⟨t_801, t_802⟩
theorem gyX5_pendingKind : gY yX5_pendingKind cX5_pendingKind 1 (some .int) 0 := ⟨t_106, t_788, by decide +kernel⟩
theorem gvX5_pendingKind : gVv yX5_pendingKind := ⟨t_786, t_787⟩
theorem gyX5_pendingSize : gY yX5_pendingSize cX5_pendingSize 1 (some .int) 0 := ⟨t_106, t_815, by decide +kernel⟩
theorem gvX5_pendingSize : gVv yX5_pendingSize := ⟨t_813, t_814⟩
theorem gyX5_hasPending : gY yX5_hasPending cX5_hasPending 1 (some .boolean) 0 := ⟨t_106, t_784, by decide +kernel⟩
theorem gvX5_hasPending : gVv yX5_hasPending := ⟨t_782, t_783⟩
theorem gyX5_pendingHasMore : gY yX5_pendingHasMore cX5_pendingHasMore 1 (some .boolean) 0 := ⟨t_106, t_759, by decide +kernel⟩
theorem gvX5_pendingHasMore : gVv yX5_pendingHasMore := ⟨t_757, t_758⟩
theorem gyX5_passPending : gY yX5_passPending cX5_passPending 1 none 0 := ⟨t_106, t_747, by decide +kernel⟩
theorem gvX5_passPending : gVv yX5_passPending := ⟨t_745, t_746⟩
theorem gyX5_takeInf : gY yX5_takeInf cX5_takeInf 3 none 1 := ⟨t_106, t_764, by decide +kernel⟩
theorem gvX5_takeInf : gVv yX5_takeInf := ⟨t_762, t_763⟩
theorem gyX5_takeWhole : gY yX5_takeWhole cX5_takeWhole 1 none 0 := ⟨t_106, t_771, by decide +kernel⟩
theorem gvX5_takeWhole : gVv yX5_takeWhole := ⟨t_769, t_770⟩
theorem gyX5_takeEmpty : gY yX5_takeEmpty cX5_takeEmpty 1 none 0 := ⟨t_106, t_776, by decide +kernel⟩
theorem gvX5_takeEmpty : gVv yX5_takeEmpty := ⟨t_774, t_775⟩
theorem gyX5_requestKind : gY yX5_requestKind cX5_requestKind 1 (some .int) 0 := ⟨t_106, t_708, by decide +kernel⟩
theorem gvX5_requestKind : gVv yX5_requestKind := ⟨t_706, t_707⟩
theorem gyX5_ask : gY yX5_ask cX5_ask 3 (some .int) 2 := ⟨t_106, t_704, by decide +kernel⟩
theorem gvX5_ask : gVv yX5_ask := ⟨t_702, t_703⟩
theorem gyX5_receipt : gY yX5_receipt cX5_receipt 2 (some .int) 1 := ⟨t_106, t_721, by decide +kernel⟩
theorem gvX5_receipt : gVv yX5_receipt := ⟨t_719, t_720⟩
theorem gyX5_noteSent : gY yX5_noteSent cX5_noteSent 2 none 1 := ⟨t_106, t_827, by decide +kernel⟩
theorem gvX5_noteSent : gVv yX5_noteSent := ⟨t_825, t_826⟩
theorem gyX5_blocksSent : gY yX5_blocksSent cX5_blocksSent 1 (some .int) 0 := ⟨t_106, t_692, by decide +kernel⟩
theorem gvX5_blocksSent : gVv yX5_blocksSent := ⟨t_690, t_691⟩
theorem gyX5_tell : gY yX5_tell cX5_tell 2 (some .int) 1 := ⟨t_106, t_917, by decide +kernel⟩
theorem gvX5_tell : gVv yX5_tell := ⟨t_915, t_916⟩
theorem gyX6_init : gY yX6_init cX6_init 1 none 0 := ⟨t_107, t_259, by decide +kernel⟩
theorem giX6_init : gVi yX6_init := t_258
theorem gyX6_restart : gY yX6_restart cX6_restart 1 none 0 := ⟨t_107, t_585, by decide +kernel⟩
theorem gvX6_restart : gVv yX6_restart := ⟨t_583, t_584⟩
theorem gyX6_copy : gY yX6_copy cX6_copy 3 none 1 := ⟨t_107, t_958, by decide +kernel⟩
theorem gvX6_copy : gVv yX6_copy := ⟨t_956, t_957⟩
theorem gyX6_probe : gY yX6_probe cX6_probe 3 none 2 := ⟨t_107, t_972, by decide +kernel⟩
theorem gvX6_probe : gVv yX6_probe := ⟨t_970, t_971⟩
theorem gyX6_faults : gY yX6_faults cX6_faults 1 (some .int) 0 := ⟨t_107, t_668, by decide +kernel⟩
theorem gvX6_faults : gVv yX6_faults := ⟨t_666, t_667⟩
theorem gyX6_isFull : gY yX6_isFull cX6_isFull 1 (some .boolean) 0 := ⟨t_107, t_655, by decide +kernel⟩
theorem gvX6_isFull : gVv yX6_isFull := ⟨t_653, t_654⟩
theorem gyX6_addFault : gY yX6_addFault cX6_addFault 6 none 3 := ⟨t_107, t_659, by decide +kernel⟩
theorem gvX6_addFault : gVv yX6_addFault := ⟨t_657, t_658⟩
theorem gyX6_makePlace : gY yX6_makePlace cX6_makePlace 3 none 1 := ⟨t_107, t_663, by decide +kernel⟩
theorem gvX6_makePlace : gVv yX6_makePlace := ⟨t_662, t_11⟩
theorem gyX6_dropNearest : gY yX6_dropNearest cX6_dropNearest 2 none 0 := ⟨t_107, t_841, by decide +kernel⟩
theorem gvX6_dropNearest : gVv yX6_dropNearest := ⟨t_840, t_27⟩
theorem gyX6_sendLetter : gY yX6_sendLetter cX6_sendLetter 2 (some .int) 0 := ⟨t_107, t_837, by decide +kernel⟩
theorem gvX6_sendLetter : gVv yX6_sendLetter := ⟨t_836, t_26⟩
theorem gyX6_carry : gY yX6_carry cX6_carry 7 (some .int) 2 := ⟨t_107, t_831, by decide +kernel⟩
theorem gvX6_carry : gVv yX6_carry := ⟨t_829, t_830⟩
theorem gyX7_init : gY yX7_init cX7_init 1 none 0 := ⟨t_101, t_121, by decide +kernel⟩
theorem giX7_init : gVi yX7_init := t_120
theorem gyX7_feed : gY yX7_feed cX7_feed 5 (some .int) 2 := ⟨t_101, t_462, by decide +kernel⟩
theorem gvX7_feed : gVv yX7_feed := ⟨t_460, t_461⟩
theorem gyX7_feedEight : gY yX7_feedEight cX7_feedEight 4 none 1 := ⟨t_101, t_470, by decide +kernel⟩
theorem gvX7_feedEight : gVv yX7_feedEight := ⟨t_469, t_0⟩
theorem gyX7_end : gY yX7_end cX7_end 2 (some .int) 1 := ⟨t_101, t_495, by decide +kernel⟩
theorem gvX7_end : gVv yX7_end := ⟨t_493, t_494⟩
theorem gyX7_reset : gY yX7_reset cX7_reset 3 (some .int) 0 := ⟨t_101, t_503, by decide +kernel⟩
theorem gvX7_reset : gVv yX7_reset := ⟨t_501, t_502⟩
theorem gyX7_answer : gY yX7_answer cX7_answer 2 (some .int) 1 := ⟨t_101, t_601, by decide +kernel⟩
theorem gvX7_answer : gVv yX7_answer := ⟨t_599, t_600⟩
theorem gyX7_historical : gY yX7_historical cX7_historical 2 (some .int) 1 := ⟨t_101, t_609, by decide +kernel⟩
theorem gvX7_historical : gVv yX7_historical := ⟨t_607, t_608⟩
theorem gyX7_message : gY yX7_message cX7_message 2 (some .int) 0 := ⟨t_101, t_617, by decide +kernel⟩
theorem gvX7_message : gVv yX7_message := ⟨t_615, t_616⟩
theorem gyX7_room : gY yX7_room cX7_room 2 (some .int) 1 := ⟨t_101, t_643, by decide +kernel⟩
theorem gvX7_room : gVv yX7_room := ⟨t_641, t_642⟩
theorem gyX7_mayStart : gY yX7_mayStart cX7_mayStart 1 (some .boolean) 0 := ⟨t_101, t_621, by decide +kernel⟩
theorem gvX7_mayStart : gVv yX7_mayStart := ⟨t_620, t_9⟩
theorem gyX7_onWay : gY yX7_onWay cX7_onWay 1 (some .boolean) 0 := ⟨t_101, t_680, by decide +kernel⟩
theorem gvX7_onWay : gVv yX7_onWay := ⟨t_679, t_12⟩
theorem gyX7_fault : gY yX7_fault cX7_fault 5 (some .int) 3 := ⟨t_101, t_651, by decide +kernel⟩
theorem gvX7_fault : gVv yX7_fault := ⟨t_649, t_650⟩
theorem gyX7_repeats : gY yX7_repeats cX7_repeats 3 (some .int) 1 := ⟨t_101, t_672, by decide +kernel⟩
theorem gvX7_repeats : gVv yX7_repeats := ⟨t_670, t_671⟩
theorem gyX7_step : gY yX7_step cX7_step 2 (some .int) 1 := ⟨t_101, t_676, by decide +kernel⟩
theorem gvX7_step : gVv yX7_step := ⟨t_674, t_675⟩
theorem gyX7_state : gY yX7_state cX7_state 1 (some .int) 0 := ⟨t_101, t_905, by decide +kernel⟩
theorem gvX7_state : gVv yX7_state := ⟨t_903, t_904⟩
theorem gyX7_side : gY yX7_side cX7_side 3 (some .int) 2 := ⟨t_101, t_909, by decide +kernel⟩
theorem gvX7_side : gVv yX7_side := ⟨t_907, t_908⟩
theorem gyX7_sideOf : gY yX7_sideOf cX7_sideOf 2 (some (.object "CardLink$Side")) 1 := ⟨t_101, t_913, by decide +kernel⟩
theorem gvX7_sideOf : gVv yX7_sideOf := ⟨t_912, t_38⟩
theorem gyX7_got : gY yX7_got cX7_got 4 (some .int) 2 := ⟨t_101, t_921, by decide +kernel⟩
theorem gvX7_got : gVv yX7_got := ⟨t_919, t_920⟩
theorem gyX7_log : gY yX7_log cX7_log 3 (some .int) 2 := ⟨t_101, t_1004, by decide +kernel⟩
theorem gvX7_log : gVv yX7_log := ⟨t_1002, t_1003⟩
theorem gyX7_byteOf : gY yX7_byteOf cX7_byteOf 3 (some .int) 2 := ⟨t_101, t_926, by decide +kernel⟩
theorem gvX7_byteOf : gVv yX7_byteOf := ⟨t_924, t_925⟩
theorem gyX7_would : gY yX7_would cX7_would 3 (some .int) 1 := ⟨t_101, t_942, by decide +kernel⟩
theorem gvX7_would : gVv yX7_would := ⟨t_940, t_941⟩
theorem gyX7_harm : gY yX7_harm cX7_harm 3 (some .int) 2 := ⟨t_101, t_964, by decide +kernel⟩
theorem gvX7_harm : gVv yX7_harm := ⟨t_962, t_963⟩
theorem gyX7_count : gY yX7_count cX7_count 2 (some .int) 1 := ⟨t_101, t_992, by decide +kernel⟩
theorem gvX7_count : gVv yX7_count := ⟨t_990, t_991⟩
theorem gyX8_init : gY yX8_init cX8_init 1 none 0 := ⟨t_110, t_1074, by decide +kernel⟩
theorem giX8_init : gVi yX8_init := t_1073
theorem gyX8_within : gY yX8_within cX8_within 3 (some .boolean) 3 := ⟨t_110, t_1213, by decide +kernel⟩
theorem gyX8_begins : gY yX8_begins cX8_begins 2 none 0 := ⟨t_110, t_1080, by decide +kernel⟩
theorem gvX8_begins : gVv yX8_begins := ⟨t_1079, t_42⟩
theorem gyX8_eight : gY yX8_eight cX8_eight 4 none 1 := ⟨t_110, t_1206, by decide +kernel⟩
theorem gvX8_eight : gVv yX8_eight := ⟨t_1205, t_43⟩
theorem gyX8_feed : gY yX8_feed cX8_feed 5 (some .int) 2 := ⟨t_110, t_1202, by decide +kernel⟩
theorem gvX8_feed : gVv yX8_feed := ⟨t_1200, t_1201⟩
theorem gyX8_end : gY yX8_end cX8_end 2 (some .int) 1 := ⟨t_110, t_1210, by decide +kernel⟩
theorem gvX8_end : gVv yX8_end := ⟨t_1208, t_1209⟩
theorem gyX8_byteNext : gY yX8_byteNext cX8_byteNext 1 (some .int) 0 := ⟨t_110, t_1221, by decide +kernel⟩
theorem gvX8_byteNext : gVv yX8_byteNext := ⟨t_1220, t_44⟩
theorem gyX8_wrong : gY yX8_wrong cX8_wrong 3 none 2 := ⟨t_110, t_1225, by decide +kernel⟩
theorem gvX8_wrong : gVv yX8_wrong := ⟨t_1224, t_45⟩
theorem gyX8_clocks : gY yX8_clocks cX8_clocks 1 (some .int) 1 := ⟨t_110, t_1240, by decide +kernel⟩
theorem gyX8_bits : gY yX8_bits cX8_bits 1 (some .int) 1 := ⟨t_110, t_1243, by decide +kernel⟩
theorem gyX8_factor : gY yX8_factor cX8_factor 2 none 0 := ⟨t_110, t_1237, by decide +kernel⟩
theorem gvX8_factor : gVv yX8_factor := ⟨t_1236, t_48⟩
theorem gyX8_window : gY yX8_window cX8_window 2 none 0 := ⟨t_110, t_1247, by decide +kernel⟩
theorem gvX8_window : gVv yX8_window := ⟨t_1246, t_49⟩
theorem gyX8_groupTold : gY yX8_groupTold cX8_groupTold 4 (some .int) 2 := ⟨t_110, t_1233, by decide +kernel⟩
theorem gvX8_groupTold : gVv yX8_groupTold := ⟨t_1232, t_47⟩
theorem gyX8_groupsTold : gY yX8_groupsTold cX8_groupsTold 6 none 1 := ⟨t_110, t_1229, by decide +kernel⟩
theorem gvX8_groupsTold : gVv yX8_groupsTold := ⟨t_1228, t_46⟩
theorem gyX8_reset : gY yX8_reset cX8_reset 4 (some .int) 0 := ⟨t_110, t_1217, by decide +kernel⟩
theorem gvX8_reset : gVv yX8_reset := ⟨t_1215, t_1216⟩
theorem gyX8_checks : gY yX8_checks cX8_checks 3 none 0 := ⟨t_110, t_1251, by decide +kernel⟩
theorem gvX8_checks : gVv yX8_checks := ⟨t_1250, t_50⟩
theorem gyX8_answer : gY yX8_answer cX8_answer 2 (some .int) 1 := ⟨t_110, t_1255, by decide +kernel⟩
theorem gvX8_answer : gVv yX8_answer := ⟨t_1253, t_1254⟩
theorem gyX8_historical : gY yX8_historical cX8_historical 2 (some .int) 1 := ⟨t_110, t_1259, by decide +kernel⟩
theorem gvX8_historical : gVv yX8_historical := ⟨t_1257, t_1258⟩
theorem gyX8_canBegin : gY yX8_canBegin cX8_canBegin 1 (some .boolean) 0 := ⟨t_110, t_1267, by decide +kernel⟩
theorem gvX8_canBegin : gVv yX8_canBegin := ⟨t_1266, t_51⟩
theorem gyX8_starts : gY yX8_starts cX8_starts 2 none 1 := ⟨t_110, t_1271, by decide +kernel⟩
theorem gvX8_starts : gVv yX8_starts := ⟨t_1270, t_52⟩
theorem gyX8_message : gY yX8_message cX8_message 3 (some .int) 0 := ⟨t_110, t_1263, by decide +kernel⟩
theorem gvX8_message : gVv yX8_message := ⟨t_1261, t_1262⟩
theorem gyX8_room : gY yX8_room cX8_room 2 (some .int) 1 := ⟨t_110, t_1275, by decide +kernel⟩
theorem gvX8_room : gVv yX8_room := ⟨t_1273, t_1274⟩
theorem gyX8_faultAt : gY yX8_faultAt cX8_faultAt 3 (some .int) 1 := ⟨t_110, t_1287, by decide +kernel⟩
theorem gvX8_faultAt : gVv yX8_faultAt := ⟨t_1286, t_54⟩
theorem gyX8_passes : gY yX8_passes cX8_passes 4 none 0 := ⟨t_110, t_1283, by decide +kernel⟩
theorem gvX8_passes : gVv yX8_passes := ⟨t_1282, t_53⟩
theorem gyX8_putsFault : gY yX8_putsFault cX8_putsFault 5 none 3 := ⟨t_110, t_1291, by decide +kernel⟩
theorem gvX8_putsFault : gVv yX8_putsFault := ⟨t_1290, t_55⟩
theorem gyX8_fault : gY yX8_fault cX8_fault 4 (some .int) 3 := ⟨t_110, t_1279, by decide +kernel⟩
theorem gvX8_fault : gVv yX8_fault := ⟨t_1277, t_1278⟩
theorem gyX8_repeats : gY yX8_repeats cX8_repeats 3 (some .int) 1 := ⟨t_110, t_1295, by decide +kernel⟩
theorem gvX8_repeats : gVv yX8_repeats := ⟨t_1293, t_1294⟩
theorem gyX8_carries : gY yX8_carries cX8_carries 6 none 1 := ⟨t_110, t_1319, by decide +kernel⟩
theorem gvX8_carries : gVv yX8_carries := ⟨t_1318, t_60⟩
theorem gyX8_isShaped : gY yX8_isShaped cX8_isShaped 5 (some .boolean) 1 := ⟨t_110, t_1327, by decide +kernel⟩
theorem gvX8_isShaped : gVv yX8_isShaped := ⟨t_1326, t_62⟩
theorem gyX8_howCame : gY yX8_howCame cX8_howCame 4 (some .int) 1 := ⟨t_110, t_1323, by decide +kernel⟩
theorem gvX8_howCame : gVv yX8_howCame := ⟨t_1322, t_61⟩
theorem gyX8_sends : gY yX8_sends cX8_sends 7 none 3 := ⟨t_110, t_1315, by decide +kernel⟩
theorem gvX8_sends : gVv yX8_sends := ⟨t_1314, t_59⟩
theorem gyX8_isAlike : gY yX8_isAlike cX8_isAlike 4 (some .boolean) 2 := ⟨t_110, t_1339, by decide +kernel⟩
theorem gvX8_isAlike : gVv yX8_isAlike := ⟨t_1338, t_65⟩
theorem gyX8_unlikeOf : gY yX8_unlikeOf cX8_unlikeOf 3 (some .int) 1 := ⟨t_110, t_1335, by decide +kernel⟩
theorem gvX8_unlikeOf : gVv yX8_unlikeOf := ⟨t_1334, t_64⟩
theorem gyX8_logs : gY yX8_logs cX8_logs 5 none 2 := ⟨t_110, t_1331, by decide +kernel⟩
theorem gvX8_logs : gVv yX8_logs := ⟨t_1330, t_63⟩
theorem gyX8_sendsR : gY yX8_sendsR cX8_sendsR 3 none 2 := ⟨t_110, t_1395, by decide +kernel⟩
theorem gvX8_sendsR : gVv yX8_sendsR := ⟨t_1394, t_79⟩
theorem gyX8_sendsAsked : gY yX8_sendsAsked cX8_sendsAsked 3 none 1 := ⟨t_110, t_1347, by decide +kernel⟩
theorem gvX8_sendsAsked : gVv yX8_sendsAsked := ⟨t_1346, t_67⟩
theorem gyX8_asks : gY yX8_asks cX8_asks 4 none 3 := ⟨t_110, t_1343, by decide +kernel⟩
theorem gvX8_asks : gVv yX8_asks := ⟨t_1342, t_66⟩
theorem gyX8_sendsPending : gY yX8_sendsPending cX8_sendsPending 5 none 1 := ⟨t_110, t_1311, by decide +kernel⟩
theorem gvX8_sendsPending : gVv yX8_sendsPending := ⟨t_1310, t_58⟩
theorem gyX8_sendsOut : gY yX8_sendsOut cX8_sendsOut 5 none 1 := ⟨t_110, t_1307, by decide +kernel⟩
theorem gvX8_sendsOut : gVv yX8_sendsOut := ⟨t_1306, t_57⟩
theorem gyX8_isThrough : gY yX8_isThrough cX8_isThrough 3 none 1 := ⟨t_110, t_1387, by decide +kernel⟩
theorem gvX8_isThrough : gVv yX8_isThrough := ⟨t_1386, t_77⟩
theorem gyX8_empties : gY yX8_empties cX8_empties 3 none 1 := ⟨t_110, t_1379, by decide +kernel⟩
theorem gvX8_empties : gVv yX8_empties := ⟨t_1378, t_75⟩
theorem gyX8_resynchs : gY yX8_resynchs cX8_resynchs 2 none 1 := ⟨t_110, t_1375, by decide +kernel⟩
theorem gvX8_resynchs : gVv yX8_resynchs := ⟨t_1374, t_74⟩
theorem gyX8_isResponse : gY yX8_isResponse cX8_isResponse 3 (some .boolean) 1 := ⟨t_110, t_1363, by decide +kernel⟩
theorem gvX8_isResponse : gVv yX8_isResponse := ⟨t_1362, t_71⟩
theorem gyX8_takes : gY yX8_takes cX8_takes 4 (some .boolean) 1 := ⟨t_110, t_1383, by decide +kernel⟩
theorem gvX8_takes : gVv yX8_takes := ⟨t_1382, t_76⟩
theorem gyX8_hasMoreCome : gY yX8_hasMoreCome cX8_hasMoreCome 1 (some .boolean) 0 := ⟨t_110, t_1391, by decide +kernel⟩
theorem gvX8_hasMoreCome : gVv yX8_hasMoreCome := ⟨t_1390, t_78⟩
theorem gyX8_messageCame : gY yX8_messageCame cX8_messageCame 4 none 1 := ⟨t_110, t_1399, by decide +kernel⟩
theorem gvX8_messageCame : gVv yX8_messageCame := ⟨t_1398, t_80⟩
theorem gyX8_wantsAgain : gY yX8_wantsAgain cX8_wantsAgain 2 (some .boolean) 1 := ⟨t_110, t_1407, by decide +kernel⟩
theorem gvX8_wantsAgain : gVv yX8_wantsAgain := ⟨t_1406, t_82⟩
theorem gyX8_goesOn : gY yX8_goesOn cX8_goesOn 3 none 1 := ⟨t_110, t_1411, by decide +kernel⟩
theorem gvX8_goesOn : gVv yX8_goesOn := ⟨t_1410, t_83⟩
theorem gyX8_done : gY yX8_done cX8_done 1 none 0 := ⟨t_110, t_1371, by decide +kernel⟩
theorem gvX8_done : gVv yX8_done := ⟨t_1370, t_73⟩
theorem gyX8_tries : gY yX8_tries cX8_tries 3 none 2 := ⟨t_110, t_1359, by decide +kernel⟩
theorem gvX8_tries : gVv yX8_tries := ⟨t_1358, t_70⟩
theorem gyX8_readerGets : gY yX8_readerGets cX8_readerGets 2 none 0 := ⟨t_110, t_1355, by decide +kernel⟩
theorem gvX8_readerGets : gVv yX8_readerGets := ⟨t_1354, t_69⟩
theorem gyX8_readerAnswered : gY yX8_readerAnswered cX8_readerAnswered 2 none 0 := ⟨t_110, t_1367, by decide +kernel⟩
theorem gvX8_readerAnswered : gVv yX8_readerAnswered := ⟨t_1366, t_72⟩
theorem gyX8_readerTold : gY yX8_readerTold cX8_readerTold 1 none 0 := ⟨t_110, t_1403, by decide +kernel⟩
theorem gvX8_readerTold : gVv yX8_readerTold := ⟨t_1402, t_81⟩
theorem gyX8_responds : gY yX8_responds cX8_responds 2 none 1 := ⟨t_110, t_1419, by decide +kernel⟩
theorem gvX8_responds : gVv yX8_responds := ⟨t_1418, t_85⟩
theorem gyX8_readerAsked : gY yX8_readerAsked cX8_readerAsked 2 none 0 := ⟨t_110, t_1415, by decide +kernel⟩
theorem gvX8_readerAsked : gVv yX8_readerAsked := ⟨t_1414, t_84⟩
theorem gyX8_triesOn : gY yX8_triesOn cX8_triesOn 1 none 0 := ⟨t_110, t_1423, by decide +kernel⟩
theorem gvX8_triesOn : gVv yX8_triesOn := ⟨t_1422, t_86⟩
theorem gyX8_cardOut : gY yX8_cardOut cX8_cardOut 5 none 2 := ⟨t_110, t_1435, by decide +kernel⟩
theorem gvX8_cardOut : gVv yX8_cardOut := ⟨t_1434, t_89⟩
theorem gyX8_cardSends : gY yX8_cardSends cX8_cardSends 3 none 2 := ⟨t_110, t_1431, by decide +kernel⟩
theorem gvX8_cardSends : gVv yX8_cardSends := ⟨t_1430, t_88⟩
theorem gyX8_gotByte : gY yX8_gotByte cX8_gotByte 3 (some .int) 2 := ⟨t_110, t_1451, by decide +kernel⟩
theorem gvX8_gotByte : gVv yX8_gotByte := ⟨t_1450, t_93⟩
theorem gyX8_cardDoes : gY yX8_cardDoes cX8_cardDoes 4 none 0 := ⟨t_110, t_1447, by decide +kernel⟩
theorem gvX8_cardDoes : gVv yX8_cardDoes := ⟨t_1446, t_92⟩
theorem gyX8_cardWaits : gY yX8_cardWaits cX8_cardWaits 2 none 0 := ⟨t_110, t_1443, by decide +kernel⟩
theorem gvX8_cardWaits : gVv yX8_cardWaits := ⟨t_1442, t_91⟩
theorem gyX8_cardAnswered : gY yX8_cardAnswered cX8_cardAnswered 2 none 0 := ⟨t_110, t_1439, by decide +kernel⟩
theorem gvX8_cardAnswered : gVv yX8_cardAnswered := ⟨t_1438, t_90⟩
theorem gyX8_cardGets : gY yX8_cardGets cX8_cardGets 2 none 0 := ⟨t_110, t_1427, by decide +kernel⟩
theorem gvX8_cardGets : gVv yX8_cardGets := ⟨t_1426, t_87⟩
theorem gyX8_bringsCame : gY yX8_bringsCame cX8_bringsCame 2 none 0 := ⟨t_110, t_1351, by decide +kernel⟩
theorem gvX8_bringsCame : gVv yX8_bringsCame := ⟨t_1350, t_68⟩
theorem gyX8_turns : gY yX8_turns cX8_turns 4 (some .int) 0 := ⟨t_110, t_1303, by decide +kernel⟩
theorem gvX8_turns : gVv yX8_turns := ⟨t_1302, t_56⟩
theorem gyX8_step : gY yX8_step cX8_step 4 (some .int) 1 := ⟨t_110, t_1299, by decide +kernel⟩
theorem gvX8_step : gVv yX8_step := ⟨t_1297, t_1298⟩
theorem gyX8_state : gY yX8_state cX8_state 1 (some .int) 0 := ⟨t_110, t_1455, by decide +kernel⟩
theorem gvX8_state : gVv yX8_state := ⟨t_1453, t_1454⟩
theorem gyX8_side : gY yX8_side cX8_side 3 (some .int) 2 := ⟨t_110, t_1459, by decide +kernel⟩
theorem gvX8_side : gVv yX8_side := ⟨t_1457, t_1458⟩
theorem gyX8_got : gY yX8_got cX8_got 3 (some .int) 2 := ⟨t_110, t_1465, by decide +kernel⟩
theorem gvX8_got : gVv yX8_got := ⟨t_1463, t_1464⟩
theorem gyX8_logPlace : gY yX8_logPlace cX8_logPlace 2 (some .int) 1 := ⟨t_110, t_1473, by decide +kernel⟩
theorem gvX8_logPlace : gVv yX8_logPlace := ⟨t_1472, t_94⟩
theorem gyX8_log : gY yX8_log cX8_log 4 (some .int) 2 := ⟨t_110, t_1469, by decide +kernel⟩
theorem gvX8_log : gVv yX8_log := ⟨t_1467, t_1468⟩
theorem gyX8_byteOf : gY yX8_byteOf cX8_byteOf 3 (some .int) 2 := ⟨t_110, t_1477, by decide +kernel⟩
theorem gvX8_byteOf : gVv yX8_byteOf := ⟨t_1475, t_1476⟩
theorem gyX8_triesOut : gY yX8_triesOut cX8_triesOut 2 none 0 := ⟨t_110, t_1489, by decide +kernel⟩
theorem gvX8_triesOut : gVv yX8_triesOut := ⟨t_1488, t_96⟩
theorem gyX8_keeps : gY yX8_keeps cX8_keeps 2 none 0 := ⟨t_110, t_1485, by decide +kernel⟩
theorem gvX8_keeps : gVv yX8_keeps := ⟨t_1484, t_95⟩
theorem gyX8_comesBack : gY yX8_comesBack cX8_comesBack 2 none 0 := ⟨t_110, t_1493, by decide +kernel⟩
theorem gvX8_comesBack : gVv yX8_comesBack := ⟨t_1492, t_97⟩
theorem gyX8_would : gY yX8_would cX8_would 3 (some .int) 1 := ⟨t_110, t_1481, by decide +kernel⟩
theorem gvX8_would : gVv yX8_would := ⟨t_1479, t_1480⟩
theorem gyX8_isSame : gY yX8_isSame cX8_isSame 2 (some .boolean) 0 := ⟨t_110, t_1501, by decide +kernel⟩
theorem gvX8_isSame : gVv yX8_isSame := ⟨t_1500, t_98⟩
theorem gyX8_harm : gY yX8_harm cX8_harm 9 (some .int) 2 := ⟨t_110, t_1497, by decide +kernel⟩
theorem gvX8_harm : gVv yX8_harm := ⟨t_1495, t_1496⟩
theorem gyX8_faultsToCome : gY yX8_faultsToCome cX8_faultsToCome 3 (some .int) 0 := ⟨t_110, t_1509, by decide +kernel⟩
theorem gvX8_faultsToCome : gVv yX8_faultsToCome := ⟨t_1508, t_99⟩
theorem gyX8_count : gY yX8_count cX8_count 2 (some .int) 1 := ⟨t_110, t_1505, by decide +kernel⟩
theorem gvX8_count : gVv yX8_count := ⟨t_1503, t_1504⟩
theorem gyJ9_max_7cf53 : gY yJ9_max_7cf53 cJ9_max_7cf53 2 (some .int) 2 := ⟨t_103, t_133, by decide +kernel⟩
theorem gyJ9_min_7cf53 : gY yJ9_min_7cf53 cJ9_min_7cf53 2 (some .int) 2 := ⟨t_103, t_477, by decide +kernel⟩
theorem gyJ7_fill_53178 : gY yJ7_fill_53178 cJ7_fill_53178 4 none 2 := ⟨t_111, t_593, by decide +kernel⟩
theorem gyJ7_copyOf_59c91 : gY yJ7_copyOf_59c91 cJ7_copyOf_59c91 3 (some (.array .int)) 2 := ⟨t_111, t_480, by decide +kernel⟩
