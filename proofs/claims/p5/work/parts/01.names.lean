-- ===== PART A: goes FIRST, ahead of the names: the tables' words, and 'selects' of the private methods out of them =====
/-- a private method of a class that the tables say can be made, by its rows of tables_1 -/
def lw_okq (q : MethodName × Nat) : Prop := (q.1.cls ≠ "java/lang/invoke/MethodHandle" ∧ q.1.cls ≠ "java/lang/invoke/VarHandle") ∧ Cond.instantiable q.1.cls q.2 ∈ tables_1 ∧ Cond.privateMethod q.1 ∈ tables_1 ∧ Cond.instanceMethod q.1 ∈ tables_1
theorem lw_p0 : lw_okq (⟨"CardLink", "feedEight", "(J)V"⟩, 7) := ⟨⟨by decide +kernel, by decide +kernel⟩, List.mem_of_getElem? (i := 18) (by decide +kernel), List.mem_of_getElem? (i := 368) (by decide +kernel), List.mem_of_getElem? (i := 369) (by decide +kernel)⟩
theorem lw_p1 : lw_okq (⟨"CardLink$ResetAnswer", "clear", "()V"⟩, 11) := ⟨⟨by decide +kernel, by decide +kernel⟩, List.mem_of_getElem? (i := 296) (by decide +kernel), List.mem_of_getElem? (i := 409) (by decide +kernel), List.mem_of_getElem? (i := 410) (by decide +kernel)⟩
theorem lw_p2 : lw_okq (⟨"CardLink$ResetAnswer", "readHead", "(LCardLink$Row;)I"⟩, 11) := ⟨⟨by decide +kernel, by decide +kernel⟩, List.mem_of_getElem? (i := 296) (by decide +kernel), List.mem_of_getElem? (i := 414) (by decide +kernel), List.mem_of_getElem? (i := 415) (by decide +kernel)⟩
theorem lw_p3 : lw_okq (⟨"CardLink$ResetAnswer", "readGroups", "(LCardLink$Row;)I"⟩, 11) := ⟨⟨by decide +kernel, by decide +kernel⟩, List.mem_of_getElem? (i := 296) (by decide +kernel), List.mem_of_getElem? (i := 426) (by decide +kernel), List.mem_of_getElem? (i := 427) (by decide +kernel)⟩
theorem lw_p4 : lw_okq (⟨"CardLink$ResetAnswer", "readGroupByte", "(III)I"⟩, 11) := ⟨⟨by decide +kernel, by decide +kernel⟩, List.mem_of_getElem? (i := 296) (by decide +kernel), List.mem_of_getElem? (i := 430) (by decide +kernel), List.mem_of_getElem? (i := 431) (by decide +kernel)⟩
theorem lw_p5 : lw_okq (⟨"CardLink$ResetAnswer", "readTd", "(II)I"⟩, 11) := ⟨⟨by decide +kernel, by decide +kernel⟩, List.mem_of_getElem? (i := 296) (by decide +kernel), List.mem_of_getElem? (i := 434) (by decide +kernel), List.mem_of_getElem? (i := 435) (by decide +kernel)⟩
theorem lw_p6 : lw_okq (⟨"CardLink$ResetAnswer", "readFirstGroup", "(II)I"⟩, 11) := ⟨⟨by decide +kernel, by decide +kernel⟩, List.mem_of_getElem? (i := 296) (by decide +kernel), List.mem_of_getElem? (i := 438) (by decide +kernel), List.mem_of_getElem? (i := 439) (by decide +kernel)⟩
theorem lw_p7 : lw_okq (⟨"CardLink$ResetAnswer", "readLinkGroup", "(II)I"⟩, 11) := ⟨⟨by decide +kernel, by decide +kernel⟩, List.mem_of_getElem? (i := 296) (by decide +kernel), List.mem_of_getElem? (i := 452) (by decide +kernel), List.mem_of_getElem? (i := 453) (by decide +kernel)⟩
theorem lw_p8 : lw_okq (⟨"CardLink$ResetAnswer", "readTail", "(LCardLink$Row;I)I"⟩, 11) := ⟨⟨by decide +kernel, by decide +kernel⟩, List.mem_of_getElem? (i := 296) (by decide +kernel), List.mem_of_getElem? (i := 456) (by decide +kernel), List.mem_of_getElem? (i := 457) (by decide +kernel)⟩
theorem lw_p9 : lw_okq (⟨"CardLink", "mayStart", "()Z"⟩, 7) := ⟨⟨by decide +kernel, by decide +kernel⟩, List.mem_of_getElem? (i := 18) (by decide +kernel), List.mem_of_getElem? (i := 519) (by decide +kernel), List.mem_of_getElem? (i := 520) (by decide +kernel)⟩
theorem lw_p10 : lw_okq (⟨"CardLink$Line", "begin", "(I)V"⟩, 18) := ⟨⟨by decide +kernel, by decide +kernel⟩, List.mem_of_getElem? (i := 84) (by decide +kernel), List.mem_of_getElem? (i := 532) (by decide +kernel), List.mem_of_getElem? (i := 533) (by decide +kernel)⟩
theorem lw_p11 : lw_okq (⟨"CardLink$Wire", "makePlace", "(I)V"⟩, 10) := ⟨⟨by decide +kernel, by decide +kernel⟩, List.mem_of_getElem? (i := 156) (by decide +kernel), List.mem_of_getElem? (i := 561) (by decide +kernel), List.mem_of_getElem? (i := 562) (by decide +kernel)⟩
theorem lw_p12 : lw_okq (⟨"CardLink", "onWay", "()Z"⟩, 7) := ⟨⟨by decide +kernel, by decide +kernel⟩, List.mem_of_getElem? (i := 18) (by decide +kernel), List.mem_of_getElem? (i := 578) (by decide +kernel), List.mem_of_getElem? (i := 579) (by decide +kernel)⟩
theorem lw_p13 : lw_okq (⟨"CardLink$Line", "firstKind", "()I"⟩, 18) := ⟨⟨by decide +kernel, by decide +kernel⟩, List.mem_of_getElem? (i := 84) (by decide +kernel), List.mem_of_getElem? (i := 598) (by decide +kernel), List.mem_of_getElem? (i := 599) (by decide +kernel)⟩
theorem lw_p14 : lw_okq (⟨"CardLink$Line", "readerKind", "()I"⟩, 18) := ⟨⟨by decide +kernel, by decide +kernel⟩, List.mem_of_getElem? (i := 84) (by decide +kernel), List.mem_of_getElem? (i := 610) (by decide +kernel), List.mem_of_getElem? (i := 611) (by decide +kernel)⟩
theorem lw_p15 : lw_okq (⟨"CardLink$Line", "onBroken", "(LCardLink$Side;)I"⟩, 18) := ⟨⟨by decide +kernel, by decide +kernel⟩, List.mem_of_getElem? (i := 84) (by decide +kernel), List.mem_of_getElem? (i := 614) (by decide +kernel), List.mem_of_getElem? (i := 615) (by decide +kernel)⟩
def lw_privs_1 : List (MethodName × Nat) := [(⟨"CardLink", "feedEight", "(J)V"⟩, 7), (⟨"CardLink$ResetAnswer", "clear", "()V"⟩, 11), (⟨"CardLink$ResetAnswer", "readHead", "(LCardLink$Row;)I"⟩, 11), (⟨"CardLink$ResetAnswer", "readGroups", "(LCardLink$Row;)I"⟩, 11), (⟨"CardLink$ResetAnswer", "readGroupByte", "(III)I"⟩, 11), (⟨"CardLink$ResetAnswer", "readTd", "(II)I"⟩, 11), (⟨"CardLink$ResetAnswer", "readFirstGroup", "(II)I"⟩, 11), (⟨"CardLink$ResetAnswer", "readLinkGroup", "(II)I"⟩, 11), (⟨"CardLink$ResetAnswer", "readTail", "(LCardLink$Row;I)I"⟩, 11), (⟨"CardLink", "mayStart", "()Z"⟩, 7), (⟨"CardLink$Line", "begin", "(I)V"⟩, 18), (⟨"CardLink$Wire", "makePlace", "(I)V"⟩, 10), (⟨"CardLink", "onWay", "()Z"⟩, 7), (⟨"CardLink$Line", "firstKind", "()I"⟩, 18), (⟨"CardLink$Line", "readerKind", "()I"⟩, 18), (⟨"CardLink$Line", "onBroken", "(LCardLink$Side;)I"⟩, 18)]
theorem lw_r1 : ∀ q ∈ lw_privs_1, lw_okq q := List.forall_mem_cons.mpr ⟨lw_p0, List.forall_mem_cons.mpr ⟨lw_p1, List.forall_mem_cons.mpr ⟨lw_p2, List.forall_mem_cons.mpr ⟨lw_p3, List.forall_mem_cons.mpr ⟨lw_p4, List.forall_mem_cons.mpr ⟨lw_p5, List.forall_mem_cons.mpr ⟨lw_p6, List.forall_mem_cons.mpr ⟨lw_p7, List.forall_mem_cons.mpr ⟨lw_p8, List.forall_mem_cons.mpr ⟨lw_p9, List.forall_mem_cons.mpr ⟨lw_p10, List.forall_mem_cons.mpr ⟨lw_p11, List.forall_mem_cons.mpr ⟨lw_p12, List.forall_mem_cons.mpr ⟨lw_p13, List.forall_mem_cons.mpr ⟨lw_p14, List.forall_mem_cons.mpr ⟨lw_p15, fun _ h => absurd h List.not_mem_nil⟩⟩⟩⟩⟩⟩⟩⟩⟩⟩⟩⟩⟩⟩⟩⟩
theorem lw_p16 : lw_okq (⟨"CardLink$Line", "readerOnAnswer", "()I"⟩, 18) := ⟨⟨by decide +kernel, by decide +kernel⟩, List.mem_of_getElem? (i := 84) (by decide +kernel), List.mem_of_getElem? (i := 624) (by decide +kernel), List.mem_of_getElem? (i := 625) (by decide +kernel)⟩
theorem lw_p17 : lw_okq (⟨"CardLink$Line", "isAnswerTo", "(LCardLink$Side;)Z"⟩, 18) := ⟨⟨by decide +kernel, by decide +kernel⟩, List.mem_of_getElem? (i := 84) (by decide +kernel), List.mem_of_getElem? (i := 628) (by decide +kernel), List.mem_of_getElem? (i := 629) (by decide +kernel)⟩
theorem lw_p18 : lw_okq (⟨"CardLink$Line", "finish", "(I)I"⟩, 18) := ⟨⟨by decide +kernel, by decide +kernel⟩, List.mem_of_getElem? (i := 84) (by decide +kernel), List.mem_of_getElem? (i := 633) (by decide +kernel), List.mem_of_getElem? (i := 634) (by decide +kernel)⟩
theorem lw_p19 : lw_okq (⟨"CardLink$Line", "onRequest", "(LCardLink$Side;LCardLink$Side;I)I"⟩, 18) := ⟨⟨by decide +kernel, by decide +kernel⟩, List.mem_of_getElem? (i := 84) (by decide +kernel), List.mem_of_getElem? (i := 637) (by decide +kernel), List.mem_of_getElem? (i := 638) (by decide +kernel)⟩
theorem lw_p20 : lw_okq (⟨"CardLink$Line", "refuse", "(LCardLink$Side;)I"⟩, 18) := ⟨⟨by decide +kernel, by decide +kernel⟩, List.mem_of_getElem? (i := 84) (by decide +kernel), List.mem_of_getElem? (i := 649) (by decide +kernel), List.mem_of_getElem? (i := 650) (by decide +kernel)⟩
theorem lw_p21 : lw_okq (⟨"CardLink$Line", "onI", "(LCardLink$Side;I)I"⟩, 18) := ⟨⟨by decide +kernel, by decide +kernel⟩, List.mem_of_getElem? (i := 84) (by decide +kernel), List.mem_of_getElem? (i := 653) (by decide +kernel), List.mem_of_getElem? (i := 654) (by decide +kernel)⟩
theorem lw_p22 : lw_okq (⟨"CardLink$Line", "onReceipt", "(LCardLink$Side;I)I"⟩, 18) := ⟨⟨by decide +kernel, by decide +kernel⟩, List.mem_of_getElem? (i := 84) (by decide +kernel), List.mem_of_getElem? (i := 678) (by decide +kernel), List.mem_of_getElem? (i := 679) (by decide +kernel)⟩
theorem lw_p23 : lw_okq (⟨"CardLink$Line", "countTries", "(I)I"⟩, 18) := ⟨⟨by decide +kernel, by decide +kernel⟩, List.mem_of_getElem? (i := 84) (by decide +kernel), List.mem_of_getElem? (i := 690) (by decide +kernel), List.mem_of_getElem? (i := 691) (by decide +kernel)⟩
theorem lw_p24 : lw_okq (⟨"CardLink$Line", "send", "(LCardLink$Side;LCardLink$Side;I)V"⟩, 18) := ⟨⟨by decide +kernel, by decide +kernel⟩, List.mem_of_getElem? (i := 84) (by decide +kernel), List.mem_of_getElem? (i := 694) (by decide +kernel), List.mem_of_getElem? (i := 695) (by decide +kernel)⟩
theorem lw_p25 : lw_okq (⟨"CardLink$Line", "compose", "(LCardLink$Side;I)V"⟩, 18) := ⟨⟨by decide +kernel, by decide +kernel⟩, List.mem_of_getElem? (i := 84) (by decide +kernel), List.mem_of_getElem? (i := 708) (by decide +kernel), List.mem_of_getElem? (i := 709) (by decide +kernel)⟩
theorem lw_p26 : lw_okq (⟨"CardLink$Wire", "sendLetter", "()I"⟩, 10) := ⟨⟨by decide +kernel, by decide +kernel⟩, List.mem_of_getElem? (i := 156) (by decide +kernel), List.mem_of_getElem? (i := 735) (by decide +kernel), List.mem_of_getElem? (i := 736) (by decide +kernel)⟩
theorem lw_p27 : lw_okq (⟨"CardLink$Wire", "dropNearest", "()V"⟩, 10) := ⟨⟨by decide +kernel, by decide +kernel⟩, List.mem_of_getElem? (i := 156) (by decide +kernel), List.mem_of_getElem? (i := 739) (by decide +kernel), List.mem_of_getElem? (i := 740) (by decide +kernel)⟩
theorem lw_p28 : lw_okq (⟨"CardLink$Line", "judge", "(II)I"⟩, 18) := ⟨⟨by decide +kernel, by decide +kernel⟩, List.mem_of_getElem? (i := 84) (by decide +kernel), List.mem_of_getElem? (i := 745) (by decide +kernel), List.mem_of_getElem? (i := 746) (by decide +kernel)⟩
theorem lw_p29 : lw_okq (⟨"CardLink$Line", "isWellFormed", "(III)Z"⟩, 18) := ⟨⟨by decide +kernel, by decide +kernel⟩, List.mem_of_getElem? (i := 84) (by decide +kernel), List.mem_of_getElem? (i := 749) (by decide +kernel), List.mem_of_getElem? (i := 750) (by decide +kernel)⟩
theorem lw_p30 : lw_okq (⟨"CardLink$Journal", "isBlock", "(IILCardLink$Row;)Z"⟩, 9) := ⟨⟨by decide +kernel, by decide +kernel⟩, List.mem_of_getElem? (i := 46) (by decide +kernel), List.mem_of_getElem? (i := 763) (by decide +kernel), List.mem_of_getElem? (i := 764) (by decide +kernel)⟩
theorem lw_p31 : lw_okq (⟨"CardLink$Journal", "addUnlike", "(ILCardLink$Row;I)I"⟩, 9) := ⟨⟨by decide +kernel, by decide +kernel⟩, List.mem_of_getElem? (i := 46) (by decide +kernel), List.mem_of_getElem? (i := 767) (by decide +kernel), List.mem_of_getElem? (i := 768) (by decide +kernel)⟩
def lw_privs_2 : List (MethodName × Nat) := [(⟨"CardLink$Line", "readerOnAnswer", "()I"⟩, 18), (⟨"CardLink$Line", "isAnswerTo", "(LCardLink$Side;)Z"⟩, 18), (⟨"CardLink$Line", "finish", "(I)I"⟩, 18), (⟨"CardLink$Line", "onRequest", "(LCardLink$Side;LCardLink$Side;I)I"⟩, 18), (⟨"CardLink$Line", "refuse", "(LCardLink$Side;)I"⟩, 18), (⟨"CardLink$Line", "onI", "(LCardLink$Side;I)I"⟩, 18), (⟨"CardLink$Line", "onReceipt", "(LCardLink$Side;I)I"⟩, 18), (⟨"CardLink$Line", "countTries", "(I)I"⟩, 18), (⟨"CardLink$Line", "send", "(LCardLink$Side;LCardLink$Side;I)V"⟩, 18), (⟨"CardLink$Line", "compose", "(LCardLink$Side;I)V"⟩, 18), (⟨"CardLink$Wire", "sendLetter", "()I"⟩, 10), (⟨"CardLink$Wire", "dropNearest", "()V"⟩, 10), (⟨"CardLink$Line", "judge", "(II)I"⟩, 18), (⟨"CardLink$Line", "isWellFormed", "(III)Z"⟩, 18), (⟨"CardLink$Journal", "isBlock", "(IILCardLink$Row;)Z"⟩, 9), (⟨"CardLink$Journal", "addUnlike", "(ILCardLink$Row;I)I"⟩, 9)]
theorem lw_r2 : ∀ q ∈ lw_privs_2, lw_okq q := List.forall_mem_cons.mpr ⟨lw_p16, List.forall_mem_cons.mpr ⟨lw_p17, List.forall_mem_cons.mpr ⟨lw_p18, List.forall_mem_cons.mpr ⟨lw_p19, List.forall_mem_cons.mpr ⟨lw_p20, List.forall_mem_cons.mpr ⟨lw_p21, List.forall_mem_cons.mpr ⟨lw_p22, List.forall_mem_cons.mpr ⟨lw_p23, List.forall_mem_cons.mpr ⟨lw_p24, List.forall_mem_cons.mpr ⟨lw_p25, List.forall_mem_cons.mpr ⟨lw_p26, List.forall_mem_cons.mpr ⟨lw_p27, List.forall_mem_cons.mpr ⟨lw_p28, List.forall_mem_cons.mpr ⟨lw_p29, List.forall_mem_cons.mpr ⟨lw_p30, List.forall_mem_cons.mpr ⟨lw_p31, fun _ h => absurd h List.not_mem_nil⟩⟩⟩⟩⟩⟩⟩⟩⟩⟩⟩⟩⟩⟩⟩⟩
theorem lw_p32 : lw_okq (⟨"CardLink$Line", "cardKind", "()I"⟩, 18) := ⟨⟨by decide +kernel, by decide +kernel⟩, List.mem_of_getElem? (i := 84) (by decide +kernel), List.mem_of_getElem? (i := 779) (by decide +kernel), List.mem_of_getElem? (i := 780) (by decide +kernel)⟩
theorem lw_p33 : lw_okq (⟨"CardLink$Line", "putFirstByte", "()I"⟩, 18) := ⟨⟨by decide +kernel, by decide +kernel⟩, List.mem_of_getElem? (i := 84) (by decide +kernel), List.mem_of_getElem? (i := 783) (by decide +kernel), List.mem_of_getElem? (i := 784) (by decide +kernel)⟩
theorem lw_p34 : lw_okq (⟨"CardLink$Line", "cardOnAnswer", "()I"⟩, 18) := ⟨⟨by decide +kernel, by decide +kernel⟩, List.mem_of_getElem? (i := 84) (by decide +kernel), List.mem_of_getElem? (i := 787) (by decide +kernel), List.mem_of_getElem? (i := 788) (by decide +kernel)⟩
theorem lw_p35 : lw_okq (⟨"CardLink$Line", "putBehindThird", "()I"⟩, 18) := ⟨⟨by decide +kernel, by decide +kernel⟩, List.mem_of_getElem? (i := 84) (by decide +kernel), List.mem_of_getElem? (i := 791) (by decide +kernel), List.mem_of_getElem? (i := 792) (by decide +kernel)⟩
theorem lw_p36 : lw_okq (⟨"CardLink$Line", "doMessage", "()I"⟩, 18) := ⟨⟨by decide +kernel, by decide +kernel⟩, List.mem_of_getElem? (i := 84) (by decide +kernel), List.mem_of_getElem? (i := 795) (by decide +kernel), List.mem_of_getElem? (i := 796) (by decide +kernel)⟩
theorem lw_p37 : lw_okq (⟨"CardLink$Line", "putCounting", "(I)I"⟩, 18) := ⟨⟨by decide +kernel, by decide +kernel⟩, List.mem_of_getElem? (i := 84) (by decide +kernel), List.mem_of_getElem? (i := 799) (by decide +kernel), List.mem_of_getElem? (i := 800) (by decide +kernel)⟩
theorem lw_p38 : lw_okq (⟨"CardLink", "sideOf", "(I)LCardLink$Side;"⟩, 7) := ⟨⟨by decide +kernel, by decide +kernel⟩, List.mem_of_getElem? (i := 18) (by decide +kernel), List.mem_of_getElem? (i := 811) (by decide +kernel), List.mem_of_getElem? (i := 812) (by decide +kernel)⟩
theorem lw_p39 : lw_okq (⟨"CardLink$Journal", "placeOf", "(I)I"⟩, 9) := ⟨⟨by decide +kernel, by decide +kernel⟩, List.mem_of_getElem? (i := 46) (by decide +kernel), List.mem_of_getElem? (i := 836) (by decide +kernel), List.mem_of_getElem? (i := 837) (by decide +kernel)⟩
theorem lw_p40 : lw_okq (⟨"CardLink$Forecast", "forkIsHarmed", "()Z"⟩, 7) := ⟨⟨by decide +kernel, by decide +kernel⟩, List.mem_of_getElem? (i := 266) (by decide +kernel), List.mem_of_getElem? (i := 874) (by decide +kernel), List.mem_of_getElem? (i := 875) (by decide +kernel)⟩
theorem lw_p41 : lw_okq (⟨"java/lang/Throwable", "fillInStackTrace", "(I)Ljava/lang/Throwable;"⟩, 6) := ⟨⟨by decide +kernel, by decide +kernel⟩, List.mem_of_getElem? (i := 942) (by decide +kernel), List.mem_of_getElem? (i := 940) (by decide +kernel), List.mem_of_getElem? (i := 941) (by decide +kernel)⟩
theorem lw_p42 : lw_okq (⟨"CardLinkModel", "begins", "()V"⟩, 39) := ⟨⟨by decide +kernel, by decide +kernel⟩, List.mem_of_getElem? (i := 971) (by decide +kernel), List.mem_of_getElem? (i := 978) (by decide +kernel), List.mem_of_getElem? (i := 979) (by decide +kernel)⟩
theorem lw_p43 : lw_okq (⟨"CardLinkModel", "eight", "(J)V"⟩, 39) := ⟨⟨by decide +kernel, by decide +kernel⟩, List.mem_of_getElem? (i := 971) (by decide +kernel), List.mem_of_getElem? (i := 1104) (by decide +kernel), List.mem_of_getElem? (i := 1105) (by decide +kernel)⟩
theorem lw_p44 : lw_okq (⟨"CardLinkModel", "byteNext", "()I"⟩, 39) := ⟨⟨by decide +kernel, by decide +kernel⟩, List.mem_of_getElem? (i := 971) (by decide +kernel), List.mem_of_getElem? (i := 1119) (by decide +kernel), List.mem_of_getElem? (i := 1120) (by decide +kernel)⟩
theorem lw_p45 : lw_okq (⟨"CardLinkModel", "wrong", "(II)V"⟩, 39) := ⟨⟨by decide +kernel, by decide +kernel⟩, List.mem_of_getElem? (i := 971) (by decide +kernel), List.mem_of_getElem? (i := 1123) (by decide +kernel), List.mem_of_getElem? (i := 1124) (by decide +kernel)⟩
theorem lw_p46 : lw_okq (⟨"CardLinkModel", "groupsTold", "(I)V"⟩, 39) := ⟨⟨by decide +kernel, by decide +kernel⟩, List.mem_of_getElem? (i := 971) (by decide +kernel), List.mem_of_getElem? (i := 1127) (by decide +kernel), List.mem_of_getElem? (i := 1128) (by decide +kernel)⟩
theorem lw_p47 : lw_okq (⟨"CardLinkModel", "groupTold", "(II)I"⟩, 39) := ⟨⟨by decide +kernel, by decide +kernel⟩, List.mem_of_getElem? (i := 971) (by decide +kernel), List.mem_of_getElem? (i := 1131) (by decide +kernel), List.mem_of_getElem? (i := 1132) (by decide +kernel)⟩
def lw_privs_3 : List (MethodName × Nat) := [(⟨"CardLink$Line", "cardKind", "()I"⟩, 18), (⟨"CardLink$Line", "putFirstByte", "()I"⟩, 18), (⟨"CardLink$Line", "cardOnAnswer", "()I"⟩, 18), (⟨"CardLink$Line", "putBehindThird", "()I"⟩, 18), (⟨"CardLink$Line", "doMessage", "()I"⟩, 18), (⟨"CardLink$Line", "putCounting", "(I)I"⟩, 18), (⟨"CardLink", "sideOf", "(I)LCardLink$Side;"⟩, 7), (⟨"CardLink$Journal", "placeOf", "(I)I"⟩, 9), (⟨"CardLink$Forecast", "forkIsHarmed", "()Z"⟩, 7), (⟨"java/lang/Throwable", "fillInStackTrace", "(I)Ljava/lang/Throwable;"⟩, 6), (⟨"CardLinkModel", "begins", "()V"⟩, 39), (⟨"CardLinkModel", "eight", "(J)V"⟩, 39), (⟨"CardLinkModel", "byteNext", "()I"⟩, 39), (⟨"CardLinkModel", "wrong", "(II)V"⟩, 39), (⟨"CardLinkModel", "groupsTold", "(I)V"⟩, 39), (⟨"CardLinkModel", "groupTold", "(II)I"⟩, 39)]
theorem lw_r3 : ∀ q ∈ lw_privs_3, lw_okq q := List.forall_mem_cons.mpr ⟨lw_p32, List.forall_mem_cons.mpr ⟨lw_p33, List.forall_mem_cons.mpr ⟨lw_p34, List.forall_mem_cons.mpr ⟨lw_p35, List.forall_mem_cons.mpr ⟨lw_p36, List.forall_mem_cons.mpr ⟨lw_p37, List.forall_mem_cons.mpr ⟨lw_p38, List.forall_mem_cons.mpr ⟨lw_p39, List.forall_mem_cons.mpr ⟨lw_p40, List.forall_mem_cons.mpr ⟨lw_p41, List.forall_mem_cons.mpr ⟨lw_p42, List.forall_mem_cons.mpr ⟨lw_p43, List.forall_mem_cons.mpr ⟨lw_p44, List.forall_mem_cons.mpr ⟨lw_p45, List.forall_mem_cons.mpr ⟨lw_p46, List.forall_mem_cons.mpr ⟨lw_p47, fun _ h => absurd h List.not_mem_nil⟩⟩⟩⟩⟩⟩⟩⟩⟩⟩⟩⟩⟩⟩⟩⟩
theorem lw_p48 : lw_okq (⟨"CardLinkModel", "factor", "()V"⟩, 39) := ⟨⟨by decide +kernel, by decide +kernel⟩, List.mem_of_getElem? (i := 971) (by decide +kernel), List.mem_of_getElem? (i := 1135) (by decide +kernel), List.mem_of_getElem? (i := 1136) (by decide +kernel)⟩
theorem lw_p49 : lw_okq (⟨"CardLinkModel", "window", "()V"⟩, 39) := ⟨⟨by decide +kernel, by decide +kernel⟩, List.mem_of_getElem? (i := 971) (by decide +kernel), List.mem_of_getElem? (i := 1145) (by decide +kernel), List.mem_of_getElem? (i := 1146) (by decide +kernel)⟩
theorem lw_p50 : lw_okq (⟨"CardLinkModel", "checks", "()V"⟩, 39) := ⟨⟨by decide +kernel, by decide +kernel⟩, List.mem_of_getElem? (i := 971) (by decide +kernel), List.mem_of_getElem? (i := 1149) (by decide +kernel), List.mem_of_getElem? (i := 1150) (by decide +kernel)⟩
theorem lw_p51 : lw_okq (⟨"CardLinkModel", "canBegin", "()Z"⟩, 39) := ⟨⟨by decide +kernel, by decide +kernel⟩, List.mem_of_getElem? (i := 971) (by decide +kernel), List.mem_of_getElem? (i := 1165) (by decide +kernel), List.mem_of_getElem? (i := 1166) (by decide +kernel)⟩
theorem lw_p52 : lw_okq (⟨"CardLinkModel", "starts", "(I)V"⟩, 39) := ⟨⟨by decide +kernel, by decide +kernel⟩, List.mem_of_getElem? (i := 971) (by decide +kernel), List.mem_of_getElem? (i := 1169) (by decide +kernel), List.mem_of_getElem? (i := 1170) (by decide +kernel)⟩
theorem lw_p53 : lw_okq (⟨"CardLinkModel", "passes", "()V"⟩, 39) := ⟨⟨by decide +kernel, by decide +kernel⟩, List.mem_of_getElem? (i := 971) (by decide +kernel), List.mem_of_getElem? (i := 1181) (by decide +kernel), List.mem_of_getElem? (i := 1182) (by decide +kernel)⟩
theorem lw_p54 : lw_okq (⟨"CardLinkModel", "faultAt", "(I)I"⟩, 39) := ⟨⟨by decide +kernel, by decide +kernel⟩, List.mem_of_getElem? (i := 971) (by decide +kernel), List.mem_of_getElem? (i := 1185) (by decide +kernel), List.mem_of_getElem? (i := 1186) (by decide +kernel)⟩
theorem lw_p55 : lw_okq (⟨"CardLinkModel", "putsFault", "(III)V"⟩, 39) := ⟨⟨by decide +kernel, by decide +kernel⟩, List.mem_of_getElem? (i := 971) (by decide +kernel), List.mem_of_getElem? (i := 1189) (by decide +kernel), List.mem_of_getElem? (i := 1190) (by decide +kernel)⟩
theorem lw_p56 : lw_okq (⟨"CardLinkModel", "turns", "()I"⟩, 39) := ⟨⟨by decide +kernel, by decide +kernel⟩, List.mem_of_getElem? (i := 971) (by decide +kernel), List.mem_of_getElem? (i := 1201) (by decide +kernel), List.mem_of_getElem? (i := 1202) (by decide +kernel)⟩
theorem lw_p57 : lw_okq (⟨"CardLinkModel", "sendsOut", "(I)V"⟩, 39) := ⟨⟨by decide +kernel, by decide +kernel⟩, List.mem_of_getElem? (i := 971) (by decide +kernel), List.mem_of_getElem? (i := 1205) (by decide +kernel), List.mem_of_getElem? (i := 1206) (by decide +kernel)⟩
theorem lw_p58 : lw_okq (⟨"CardLinkModel", "sendsPending", "(I)V"⟩, 39) := ⟨⟨by decide +kernel, by decide +kernel⟩, List.mem_of_getElem? (i := 971) (by decide +kernel), List.mem_of_getElem? (i := 1209) (by decide +kernel), List.mem_of_getElem? (i := 1210) (by decide +kernel)⟩
theorem lw_p59 : lw_okq (⟨"CardLinkModel", "sends", "(III)V"⟩, 39) := ⟨⟨by decide +kernel, by decide +kernel⟩, List.mem_of_getElem? (i := 971) (by decide +kernel), List.mem_of_getElem? (i := 1213) (by decide +kernel), List.mem_of_getElem? (i := 1214) (by decide +kernel)⟩
theorem lw_p60 : lw_okq (⟨"CardLinkModel", "carries", "(I)V"⟩, 39) := ⟨⟨by decide +kernel, by decide +kernel⟩, List.mem_of_getElem? (i := 971) (by decide +kernel), List.mem_of_getElem? (i := 1217) (by decide +kernel), List.mem_of_getElem? (i := 1218) (by decide +kernel)⟩
theorem lw_p61 : lw_okq (⟨"CardLinkModel", "howCame", "(I)I"⟩, 39) := ⟨⟨by decide +kernel, by decide +kernel⟩, List.mem_of_getElem? (i := 971) (by decide +kernel), List.mem_of_getElem? (i := 1221) (by decide +kernel), List.mem_of_getElem? (i := 1222) (by decide +kernel)⟩
theorem lw_p62 : lw_okq (⟨"CardLinkModel", "isShaped", "(I)Z"⟩, 39) := ⟨⟨by decide +kernel, by decide +kernel⟩, List.mem_of_getElem? (i := 971) (by decide +kernel), List.mem_of_getElem? (i := 1225) (by decide +kernel), List.mem_of_getElem? (i := 1226) (by decide +kernel)⟩
theorem lw_p63 : lw_okq (⟨"CardLinkModel", "logs", "(II)V"⟩, 39) := ⟨⟨by decide +kernel, by decide +kernel⟩, List.mem_of_getElem? (i := 971) (by decide +kernel), List.mem_of_getElem? (i := 1229) (by decide +kernel), List.mem_of_getElem? (i := 1230) (by decide +kernel)⟩
def lw_privs_4 : List (MethodName × Nat) := [(⟨"CardLinkModel", "factor", "()V"⟩, 39), (⟨"CardLinkModel", "window", "()V"⟩, 39), (⟨"CardLinkModel", "checks", "()V"⟩, 39), (⟨"CardLinkModel", "canBegin", "()Z"⟩, 39), (⟨"CardLinkModel", "starts", "(I)V"⟩, 39), (⟨"CardLinkModel", "passes", "()V"⟩, 39), (⟨"CardLinkModel", "faultAt", "(I)I"⟩, 39), (⟨"CardLinkModel", "putsFault", "(III)V"⟩, 39), (⟨"CardLinkModel", "turns", "()I"⟩, 39), (⟨"CardLinkModel", "sendsOut", "(I)V"⟩, 39), (⟨"CardLinkModel", "sendsPending", "(I)V"⟩, 39), (⟨"CardLinkModel", "sends", "(III)V"⟩, 39), (⟨"CardLinkModel", "carries", "(I)V"⟩, 39), (⟨"CardLinkModel", "howCame", "(I)I"⟩, 39), (⟨"CardLinkModel", "isShaped", "(I)Z"⟩, 39), (⟨"CardLinkModel", "logs", "(II)V"⟩, 39)]
theorem lw_r4 : ∀ q ∈ lw_privs_4, lw_okq q := List.forall_mem_cons.mpr ⟨lw_p48, List.forall_mem_cons.mpr ⟨lw_p49, List.forall_mem_cons.mpr ⟨lw_p50, List.forall_mem_cons.mpr ⟨lw_p51, List.forall_mem_cons.mpr ⟨lw_p52, List.forall_mem_cons.mpr ⟨lw_p53, List.forall_mem_cons.mpr ⟨lw_p54, List.forall_mem_cons.mpr ⟨lw_p55, List.forall_mem_cons.mpr ⟨lw_p56, List.forall_mem_cons.mpr ⟨lw_p57, List.forall_mem_cons.mpr ⟨lw_p58, List.forall_mem_cons.mpr ⟨lw_p59, List.forall_mem_cons.mpr ⟨lw_p60, List.forall_mem_cons.mpr ⟨lw_p61, List.forall_mem_cons.mpr ⟨lw_p62, List.forall_mem_cons.mpr ⟨lw_p63, fun _ h => absurd h List.not_mem_nil⟩⟩⟩⟩⟩⟩⟩⟩⟩⟩⟩⟩⟩⟩⟩⟩
theorem lw_p64 : lw_okq (⟨"CardLinkModel", "unlikeOf", "(I)I"⟩, 39) := ⟨⟨by decide +kernel, by decide +kernel⟩, List.mem_of_getElem? (i := 971) (by decide +kernel), List.mem_of_getElem? (i := 1233) (by decide +kernel), List.mem_of_getElem? (i := 1234) (by decide +kernel)⟩
theorem lw_p65 : lw_okq (⟨"CardLinkModel", "isAlike", "(II)Z"⟩, 39) := ⟨⟨by decide +kernel, by decide +kernel⟩, List.mem_of_getElem? (i := 971) (by decide +kernel), List.mem_of_getElem? (i := 1237) (by decide +kernel), List.mem_of_getElem? (i := 1238) (by decide +kernel)⟩
theorem lw_p66 : lw_okq (⟨"CardLinkModel", "asks", "(III)V"⟩, 39) := ⟨⟨by decide +kernel, by decide +kernel⟩, List.mem_of_getElem? (i := 971) (by decide +kernel), List.mem_of_getElem? (i := 1241) (by decide +kernel), List.mem_of_getElem? (i := 1242) (by decide +kernel)⟩
theorem lw_p67 : lw_okq (⟨"CardLinkModel", "sendsAsked", "(I)V"⟩, 39) := ⟨⟨by decide +kernel, by decide +kernel⟩, List.mem_of_getElem? (i := 971) (by decide +kernel), List.mem_of_getElem? (i := 1245) (by decide +kernel), List.mem_of_getElem? (i := 1246) (by decide +kernel)⟩
theorem lw_p68 : lw_okq (⟨"CardLinkModel", "bringsCame", "()V"⟩, 39) := ⟨⟨by decide +kernel, by decide +kernel⟩, List.mem_of_getElem? (i := 971) (by decide +kernel), List.mem_of_getElem? (i := 1249) (by decide +kernel), List.mem_of_getElem? (i := 1250) (by decide +kernel)⟩
theorem lw_p69 : lw_okq (⟨"CardLinkModel", "readerGets", "()V"⟩, 39) := ⟨⟨by decide +kernel, by decide +kernel⟩, List.mem_of_getElem? (i := 971) (by decide +kernel), List.mem_of_getElem? (i := 1253) (by decide +kernel), List.mem_of_getElem? (i := 1254) (by decide +kernel)⟩
theorem lw_p70 : lw_okq (⟨"CardLinkModel", "tries", "(II)V"⟩, 39) := ⟨⟨by decide +kernel, by decide +kernel⟩, List.mem_of_getElem? (i := 971) (by decide +kernel), List.mem_of_getElem? (i := 1257) (by decide +kernel), List.mem_of_getElem? (i := 1258) (by decide +kernel)⟩
theorem lw_p71 : lw_okq (⟨"CardLinkModel", "isResponse", "(I)Z"⟩, 39) := ⟨⟨by decide +kernel, by decide +kernel⟩, List.mem_of_getElem? (i := 971) (by decide +kernel), List.mem_of_getElem? (i := 1261) (by decide +kernel), List.mem_of_getElem? (i := 1262) (by decide +kernel)⟩
theorem lw_p72 : lw_okq (⟨"CardLinkModel", "readerAnswered", "()V"⟩, 39) := ⟨⟨by decide +kernel, by decide +kernel⟩, List.mem_of_getElem? (i := 971) (by decide +kernel), List.mem_of_getElem? (i := 1265) (by decide +kernel), List.mem_of_getElem? (i := 1266) (by decide +kernel)⟩
theorem lw_p73 : lw_okq (⟨"CardLinkModel", "done", "()V"⟩, 39) := ⟨⟨by decide +kernel, by decide +kernel⟩, List.mem_of_getElem? (i := 971) (by decide +kernel), List.mem_of_getElem? (i := 1269) (by decide +kernel), List.mem_of_getElem? (i := 1270) (by decide +kernel)⟩
theorem lw_p74 : lw_okq (⟨"CardLinkModel", "resynchs", "(I)V"⟩, 39) := ⟨⟨by decide +kernel, by decide +kernel⟩, List.mem_of_getElem? (i := 971) (by decide +kernel), List.mem_of_getElem? (i := 1273) (by decide +kernel), List.mem_of_getElem? (i := 1274) (by decide +kernel)⟩
theorem lw_p75 : lw_okq (⟨"CardLinkModel", "empties", "(I)V"⟩, 39) := ⟨⟨by decide +kernel, by decide +kernel⟩, List.mem_of_getElem? (i := 971) (by decide +kernel), List.mem_of_getElem? (i := 1277) (by decide +kernel), List.mem_of_getElem? (i := 1278) (by decide +kernel)⟩
theorem lw_p76 : lw_okq (⟨"CardLinkModel", "takes", "(I)Z"⟩, 39) := ⟨⟨by decide +kernel, by decide +kernel⟩, List.mem_of_getElem? (i := 971) (by decide +kernel), List.mem_of_getElem? (i := 1281) (by decide +kernel), List.mem_of_getElem? (i := 1282) (by decide +kernel)⟩
theorem lw_p77 : lw_okq (⟨"CardLinkModel", "isThrough", "(I)V"⟩, 39) := ⟨⟨by decide +kernel, by decide +kernel⟩, List.mem_of_getElem? (i := 971) (by decide +kernel), List.mem_of_getElem? (i := 1285) (by decide +kernel), List.mem_of_getElem? (i := 1286) (by decide +kernel)⟩
theorem lw_p78 : lw_okq (⟨"CardLinkModel", "hasMoreCome", "()Z"⟩, 39) := ⟨⟨by decide +kernel, by decide +kernel⟩, List.mem_of_getElem? (i := 971) (by decide +kernel), List.mem_of_getElem? (i := 1289) (by decide +kernel), List.mem_of_getElem? (i := 1290) (by decide +kernel)⟩
theorem lw_p79 : lw_okq (⟨"CardLinkModel", "sendsR", "(II)V"⟩, 39) := ⟨⟨by decide +kernel, by decide +kernel⟩, List.mem_of_getElem? (i := 971) (by decide +kernel), List.mem_of_getElem? (i := 1293) (by decide +kernel), List.mem_of_getElem? (i := 1294) (by decide +kernel)⟩
def lw_privs_5 : List (MethodName × Nat) := [(⟨"CardLinkModel", "unlikeOf", "(I)I"⟩, 39), (⟨"CardLinkModel", "isAlike", "(II)Z"⟩, 39), (⟨"CardLinkModel", "asks", "(III)V"⟩, 39), (⟨"CardLinkModel", "sendsAsked", "(I)V"⟩, 39), (⟨"CardLinkModel", "bringsCame", "()V"⟩, 39), (⟨"CardLinkModel", "readerGets", "()V"⟩, 39), (⟨"CardLinkModel", "tries", "(II)V"⟩, 39), (⟨"CardLinkModel", "isResponse", "(I)Z"⟩, 39), (⟨"CardLinkModel", "readerAnswered", "()V"⟩, 39), (⟨"CardLinkModel", "done", "()V"⟩, 39), (⟨"CardLinkModel", "resynchs", "(I)V"⟩, 39), (⟨"CardLinkModel", "empties", "(I)V"⟩, 39), (⟨"CardLinkModel", "takes", "(I)Z"⟩, 39), (⟨"CardLinkModel", "isThrough", "(I)V"⟩, 39), (⟨"CardLinkModel", "hasMoreCome", "()Z"⟩, 39), (⟨"CardLinkModel", "sendsR", "(II)V"⟩, 39)]
theorem lw_r5 : ∀ q ∈ lw_privs_5, lw_okq q := List.forall_mem_cons.mpr ⟨lw_p64, List.forall_mem_cons.mpr ⟨lw_p65, List.forall_mem_cons.mpr ⟨lw_p66, List.forall_mem_cons.mpr ⟨lw_p67, List.forall_mem_cons.mpr ⟨lw_p68, List.forall_mem_cons.mpr ⟨lw_p69, List.forall_mem_cons.mpr ⟨lw_p70, List.forall_mem_cons.mpr ⟨lw_p71, List.forall_mem_cons.mpr ⟨lw_p72, List.forall_mem_cons.mpr ⟨lw_p73, List.forall_mem_cons.mpr ⟨lw_p74, List.forall_mem_cons.mpr ⟨lw_p75, List.forall_mem_cons.mpr ⟨lw_p76, List.forall_mem_cons.mpr ⟨lw_p77, List.forall_mem_cons.mpr ⟨lw_p78, List.forall_mem_cons.mpr ⟨lw_p79, fun _ h => absurd h List.not_mem_nil⟩⟩⟩⟩⟩⟩⟩⟩⟩⟩⟩⟩⟩⟩⟩⟩
theorem lw_p80 : lw_okq (⟨"CardLinkModel", "messageCame", "(I)V"⟩, 39) := ⟨⟨by decide +kernel, by decide +kernel⟩, List.mem_of_getElem? (i := 971) (by decide +kernel), List.mem_of_getElem? (i := 1297) (by decide +kernel), List.mem_of_getElem? (i := 1298) (by decide +kernel)⟩
theorem lw_p81 : lw_okq (⟨"CardLinkModel", "readerTold", "()V"⟩, 39) := ⟨⟨by decide +kernel, by decide +kernel⟩, List.mem_of_getElem? (i := 971) (by decide +kernel), List.mem_of_getElem? (i := 1301) (by decide +kernel), List.mem_of_getElem? (i := 1302) (by decide +kernel)⟩
theorem lw_p82 : lw_okq (⟨"CardLinkModel", "wantsAgain", "(I)Z"⟩, 39) := ⟨⟨by decide +kernel, by decide +kernel⟩, List.mem_of_getElem? (i := 971) (by decide +kernel), List.mem_of_getElem? (i := 1305) (by decide +kernel), List.mem_of_getElem? (i := 1306) (by decide +kernel)⟩
theorem lw_p83 : lw_okq (⟨"CardLinkModel", "goesOn", "(I)V"⟩, 39) := ⟨⟨by decide +kernel, by decide +kernel⟩, List.mem_of_getElem? (i := 971) (by decide +kernel), List.mem_of_getElem? (i := 1309) (by decide +kernel), List.mem_of_getElem? (i := 1310) (by decide +kernel)⟩
theorem lw_p84 : lw_okq (⟨"CardLinkModel", "readerAsked", "()V"⟩, 39) := ⟨⟨by decide +kernel, by decide +kernel⟩, List.mem_of_getElem? (i := 971) (by decide +kernel), List.mem_of_getElem? (i := 1313) (by decide +kernel), List.mem_of_getElem? (i := 1314) (by decide +kernel)⟩
theorem lw_p85 : lw_okq (⟨"CardLinkModel", "responds", "(I)V"⟩, 39) := ⟨⟨by decide +kernel, by decide +kernel⟩, List.mem_of_getElem? (i := 971) (by decide +kernel), List.mem_of_getElem? (i := 1317) (by decide +kernel), List.mem_of_getElem? (i := 1318) (by decide +kernel)⟩
theorem lw_p86 : lw_okq (⟨"CardLinkModel", "triesOn", "()V"⟩, 39) := ⟨⟨by decide +kernel, by decide +kernel⟩, List.mem_of_getElem? (i := 971) (by decide +kernel), List.mem_of_getElem? (i := 1321) (by decide +kernel), List.mem_of_getElem? (i := 1322) (by decide +kernel)⟩
theorem lw_p87 : lw_okq (⟨"CardLinkModel", "cardGets", "()V"⟩, 39) := ⟨⟨by decide +kernel, by decide +kernel⟩, List.mem_of_getElem? (i := 971) (by decide +kernel), List.mem_of_getElem? (i := 1325) (by decide +kernel), List.mem_of_getElem? (i := 1326) (by decide +kernel)⟩
theorem lw_p88 : lw_okq (⟨"CardLinkModel", "cardSends", "(II)V"⟩, 39) := ⟨⟨by decide +kernel, by decide +kernel⟩, List.mem_of_getElem? (i := 971) (by decide +kernel), List.mem_of_getElem? (i := 1329) (by decide +kernel), List.mem_of_getElem? (i := 1330) (by decide +kernel)⟩
theorem lw_p89 : lw_okq (⟨"CardLinkModel", "cardOut", "(II)V"⟩, 39) := ⟨⟨by decide +kernel, by decide +kernel⟩, List.mem_of_getElem? (i := 971) (by decide +kernel), List.mem_of_getElem? (i := 1333) (by decide +kernel), List.mem_of_getElem? (i := 1334) (by decide +kernel)⟩
theorem lw_p90 : lw_okq (⟨"CardLinkModel", "cardAnswered", "()V"⟩, 39) := ⟨⟨by decide +kernel, by decide +kernel⟩, List.mem_of_getElem? (i := 971) (by decide +kernel), List.mem_of_getElem? (i := 1337) (by decide +kernel), List.mem_of_getElem? (i := 1338) (by decide +kernel)⟩
theorem lw_p91 : lw_okq (⟨"CardLinkModel", "cardWaits", "()V"⟩, 39) := ⟨⟨by decide +kernel, by decide +kernel⟩, List.mem_of_getElem? (i := 971) (by decide +kernel), List.mem_of_getElem? (i := 1341) (by decide +kernel), List.mem_of_getElem? (i := 1342) (by decide +kernel)⟩
theorem lw_p92 : lw_okq (⟨"CardLinkModel", "cardDoes", "()V"⟩, 39) := ⟨⟨by decide +kernel, by decide +kernel⟩, List.mem_of_getElem? (i := 971) (by decide +kernel), List.mem_of_getElem? (i := 1345) (by decide +kernel), List.mem_of_getElem? (i := 1346) (by decide +kernel)⟩
theorem lw_p93 : lw_okq (⟨"CardLinkModel", "gotByte", "(II)I"⟩, 39) := ⟨⟨by decide +kernel, by decide +kernel⟩, List.mem_of_getElem? (i := 971) (by decide +kernel), List.mem_of_getElem? (i := 1349) (by decide +kernel), List.mem_of_getElem? (i := 1350) (by decide +kernel)⟩
theorem lw_p94 : lw_okq (⟨"CardLinkModel", "logPlace", "(I)I"⟩, 39) := ⟨⟨by decide +kernel, by decide +kernel⟩, List.mem_of_getElem? (i := 971) (by decide +kernel), List.mem_of_getElem? (i := 1371) (by decide +kernel), List.mem_of_getElem? (i := 1372) (by decide +kernel)⟩
theorem lw_p95 : lw_okq (⟨"CardLinkModel", "keeps", "()V"⟩, 39) := ⟨⟨by decide +kernel, by decide +kernel⟩, List.mem_of_getElem? (i := 971) (by decide +kernel), List.mem_of_getElem? (i := 1383) (by decide +kernel), List.mem_of_getElem? (i := 1384) (by decide +kernel)⟩
def lw_privs_6 : List (MethodName × Nat) := [(⟨"CardLinkModel", "messageCame", "(I)V"⟩, 39), (⟨"CardLinkModel", "readerTold", "()V"⟩, 39), (⟨"CardLinkModel", "wantsAgain", "(I)Z"⟩, 39), (⟨"CardLinkModel", "goesOn", "(I)V"⟩, 39), (⟨"CardLinkModel", "readerAsked", "()V"⟩, 39), (⟨"CardLinkModel", "responds", "(I)V"⟩, 39), (⟨"CardLinkModel", "triesOn", "()V"⟩, 39), (⟨"CardLinkModel", "cardGets", "()V"⟩, 39), (⟨"CardLinkModel", "cardSends", "(II)V"⟩, 39), (⟨"CardLinkModel", "cardOut", "(II)V"⟩, 39), (⟨"CardLinkModel", "cardAnswered", "()V"⟩, 39), (⟨"CardLinkModel", "cardWaits", "()V"⟩, 39), (⟨"CardLinkModel", "cardDoes", "()V"⟩, 39), (⟨"CardLinkModel", "gotByte", "(II)I"⟩, 39), (⟨"CardLinkModel", "logPlace", "(I)I"⟩, 39), (⟨"CardLinkModel", "keeps", "()V"⟩, 39)]
theorem lw_r6 : ∀ q ∈ lw_privs_6, lw_okq q := List.forall_mem_cons.mpr ⟨lw_p80, List.forall_mem_cons.mpr ⟨lw_p81, List.forall_mem_cons.mpr ⟨lw_p82, List.forall_mem_cons.mpr ⟨lw_p83, List.forall_mem_cons.mpr ⟨lw_p84, List.forall_mem_cons.mpr ⟨lw_p85, List.forall_mem_cons.mpr ⟨lw_p86, List.forall_mem_cons.mpr ⟨lw_p87, List.forall_mem_cons.mpr ⟨lw_p88, List.forall_mem_cons.mpr ⟨lw_p89, List.forall_mem_cons.mpr ⟨lw_p90, List.forall_mem_cons.mpr ⟨lw_p91, List.forall_mem_cons.mpr ⟨lw_p92, List.forall_mem_cons.mpr ⟨lw_p93, List.forall_mem_cons.mpr ⟨lw_p94, List.forall_mem_cons.mpr ⟨lw_p95, fun _ h => absurd h List.not_mem_nil⟩⟩⟩⟩⟩⟩⟩⟩⟩⟩⟩⟩⟩⟩⟩⟩
theorem lw_p96 : lw_okq (⟨"CardLinkModel", "triesOut", "()V"⟩, 39) := ⟨⟨by decide +kernel, by decide +kernel⟩, List.mem_of_getElem? (i := 971) (by decide +kernel), List.mem_of_getElem? (i := 1387) (by decide +kernel), List.mem_of_getElem? (i := 1388) (by decide +kernel)⟩
theorem lw_p97 : lw_okq (⟨"CardLinkModel", "comesBack", "()V"⟩, 39) := ⟨⟨by decide +kernel, by decide +kernel⟩, List.mem_of_getElem? (i := 971) (by decide +kernel), List.mem_of_getElem? (i := 1391) (by decide +kernel), List.mem_of_getElem? (i := 1392) (by decide +kernel)⟩
theorem lw_p98 : lw_okq (⟨"CardLinkModel", "isSame", "()Z"⟩, 39) := ⟨⟨by decide +kernel, by decide +kernel⟩, List.mem_of_getElem? (i := 971) (by decide +kernel), List.mem_of_getElem? (i := 1399) (by decide +kernel), List.mem_of_getElem? (i := 1400) (by decide +kernel)⟩
theorem lw_p99 : lw_okq (⟨"CardLinkModel", "faultsToCome", "()I"⟩, 39) := ⟨⟨by decide +kernel, by decide +kernel⟩, List.mem_of_getElem? (i := 971) (by decide +kernel), List.mem_of_getElem? (i := 1407) (by decide +kernel), List.mem_of_getElem? (i := 1408) (by decide +kernel)⟩
def lw_privs_7 : List (MethodName × Nat) := [(⟨"CardLinkModel", "triesOut", "()V"⟩, 39), (⟨"CardLinkModel", "comesBack", "()V"⟩, 39), (⟨"CardLinkModel", "isSame", "()Z"⟩, 39), (⟨"CardLinkModel", "faultsToCome", "()I"⟩, 39)]
theorem lw_r7 : ∀ q ∈ lw_privs_7, lw_okq q := List.forall_mem_cons.mpr ⟨lw_p96, List.forall_mem_cons.mpr ⟨lw_p97, List.forall_mem_cons.mpr ⟨lw_p98, List.forall_mem_cons.mpr ⟨lw_p99, fun _ h => absurd h List.not_mem_nil⟩⟩⟩⟩
def lw_privs : List (MethodName × Nat) := lw_privs_1 ++ (lw_privs_2 ++ (lw_privs_3 ++ (lw_privs_4 ++ (lw_privs_5 ++ (lw_privs_6 ++ (lw_privs_7))))))
def lw_tbl : List Cond := k2_sels lw_privs ++ tables_1
theorem lw_privs_ok : ∀ q ∈ lw_privs, lw_okq q := by
  show ∀ q ∈ lw_privs_1 ++ (lw_privs_2 ++ (lw_privs_3 ++ (lw_privs_4 ++ (lw_privs_5 ++ (lw_privs_6 ++ (lw_privs_7)))))), lw_okq q
  exact List.forall_mem_append.mpr ⟨lw_r1, List.forall_mem_append.mpr ⟨lw_r2, List.forall_mem_append.mpr ⟨lw_r3, List.forall_mem_append.mpr ⟨lw_r4, List.forall_mem_append.mpr ⟨lw_r5, List.forall_mem_append.mpr ⟨lw_r6, lw_r7⟩⟩⟩⟩⟩⟩
/-! ===== BEGIN printed: names, fields, word lists, decode rows ===== -/
def RX0 : String := "CardLink$Forecast"
def TX0 : u_T := fun k => match k with
  | 0 => ("CardLink$Forecast", "outlook", "LCardLink$Line;", true)
  | 1 => ("CardLink$Forecast", "walk", "LCardLink$Line;", true)
  | 2 => ("CardLink$Forecast", "fork", "LCardLink$Line;", true)
  | 3 => ("CardLink$Forecast", "outlookKnown", "Z", false)
  | 4 => ("CardLink$Forecast", "tried", "[I", true)
  | 5 => ("CardLink$Forecast", "harmful", "[I", true)
  | _ => ("CardLink$Forecast", "firsts", "[I", true)
def tyX0 : Nat → FieldType := fun k => match k with
  | 0 => .object "CardLink$Line"
  | 1 => .object "CardLink$Line"
  | 2 => .object "CardLink$Line"
  | 3 => .boolean
  | 4 => .array .int
  | 5 => .array .int
  | _ => .array .int
abbrev wsX00 : List Cond := u_ws RX0 TX0 7
theorem nmX0 : ∀ a, a < 7 → ∀ b, b < 7 → a ≠ b → (TX0 a).2.1 ≠ (TX0 b).2.1 := by decide +kernel
theorem tyX0_ok : ∀ k, k < 7 → parseFieldDescriptor (TX0 k).2.2.1 = some (tyX0 k) := by decide +kernel
abbrev cX0_init : ByteArray := prog_2_method_1_code
def yX0_init : MethodName := ⟨RX0, "<init>", "()V"⟩
abbrev cX0_forget : ByteArray := prog_2_method_2_code
def yX0_forget : MethodName := ⟨RX0, "forget", "()V"⟩
abbrev cX0_outlook : ByteArray := prog_2_method_3_code
def yX0_outlook : MethodName := ⟨RX0, "outlook", "(LCardLink$Line;)LCardLink$Line;"⟩
abbrev cX0_harmful : ByteArray := prog_2_method_4_code
def yX0_harmful : MethodName := ⟨RX0, "harmful", "(I)I"⟩
abbrev cX0_firstHarmful : ByteArray := prog_2_method_5_code
def yX0_firstHarmful : MethodName := ⟨RX0, "firstHarmful", "(I)I"⟩
abbrev cX0_tryAll : ByteArray := prog_2_method_6_code
def yX0_tryAll : MethodName := ⟨RX0, "tryAll", "(LCardLink$Line;I)V"⟩
abbrev cX0_forkIsHarmed : ByteArray := prog_2_method_7_code
def yX0_forkIsHarmed : MethodName := ⟨RX0, "forkIsHarmed", "()Z"⟩
def RX1 : String := "CardLink$Journal"
def TX1 : u_T := fun k => match k with
  | 0 => ("CardLink$Journal", "bytes", "LCardLink$Row;", true)
  | 1 => ("CardLink$Journal", "starts", "LCardLink$Row;", true)
  | 2 => ("CardLink$Journal", "times", "LCardLink$Row;", true)
  | 3 => ("CardLink$Journal", "following", "LCardLink$Row;", true)
  | 4 => ("CardLink$Journal", "chains", "LCardLink$Row;", true)
  | 5 => ("CardLink$Journal", "latest", "LCardLink$Row;", true)
  | 6 => ("CardLink$Journal", "outcomes", "LCardLink$Row;", true)
  | 7 => ("CardLink$Journal", "took", "LCardLink$Row;", true)
  | _ => ("CardLink$Journal", "newest", "I", false)
def tyX1 : Nat → FieldType := fun k => match k with
  | 0 => .object "CardLink$Row"
  | 1 => .object "CardLink$Row"
  | 2 => .object "CardLink$Row"
  | 3 => .object "CardLink$Row"
  | 4 => .object "CardLink$Row"
  | 5 => .object "CardLink$Row"
  | 6 => .object "CardLink$Row"
  | 7 => .object "CardLink$Row"
  | _ => .int
abbrev wsX10 : List Cond := u_ws RX1 TX1 9
theorem nmX1 : ∀ a, a < 9 → ∀ b, b < 9 → a ≠ b → (TX1 a).2.1 ≠ (TX1 b).2.1 := by decide +kernel
theorem tyX1_ok : ∀ k, k < 9 → parseFieldDescriptor (TX1 k).2.2.1 = some (tyX1 k) := by decide +kernel
abbrev cX1_init : ByteArray := prog_3_method_1_code
def yX1_init : MethodName := ⟨RX1, "<init>", "()V"⟩
abbrev cX1_forgetAll : ByteArray := prog_3_method_2_code
def yX1_forgetAll : MethodName := ⟨RX1, "forgetAll", "()V"⟩
abbrev cX1_unlike : ByteArray := prog_3_method_3_code
def yX1_unlike : MethodName := ⟨RX1, "unlike", "()I"⟩
abbrev cX1_kept : ByteArray := prog_3_method_4_code
def yX1_kept : MethodName := ⟨RX1, "kept", "()I"⟩
abbrev cX1_note : ByteArray := prog_3_method_5_code
def yX1_note : MethodName := ⟨RX1, "note", "(III)V"⟩
abbrev cX1_idOf : ByteArray := prog_3_method_6_code
def yX1_idOf : MethodName := ⟨RX1, "idOf", "(ILCardLink$Row;)I"⟩
abbrev cX1_chainOf : ByteArray := prog_3_method_7_code
def yX1_chainOf : MethodName := ⟨RX1, "chainOf", "(ILCardLink$Row;)I"⟩
abbrev cX1_isBlock : ByteArray := prog_3_method_8_code
def yX1_isBlock : MethodName := ⟨RX1, "isBlock", "(IILCardLink$Row;)Z"⟩
abbrev cX1_addUnlike : ByteArray := prog_3_method_9_code
def yX1_addUnlike : MethodName := ⟨RX1, "addUnlike", "(ILCardLink$Row;I)I"⟩
abbrev cX1_placeOf : ByteArray := prog_3_method_10_code
def yX1_placeOf : MethodName := ⟨RX1, "placeOf", "(I)I"⟩
abbrev cX1_tell : ByteArray := prog_3_method_11_code
def yX1_tell : MethodName := ⟨RX1, "tell", "(II)I"⟩
abbrev cX1_byteAt : ByteArray := prog_3_method_12_code
def yX1_byteAt : MethodName := ⟨RX1, "byteAt", "(II)I"⟩
def RX2 : String := "CardLink$Line"
def TX2 : u_T := fun k => match k with
  | 0 => ("CardLink$Line", "reader", "LCardLink$Side;", true)
  | 1 => ("CardLink$Line", "card", "LCardLink$Side;", true)
  | 2 => ("CardLink$Line", "wire", "LCardLink$Wire;", true)
  | 3 => ("CardLink$Line", "state", "I", false)
  | 4 => ("CardLink$Line", "tries", "I", false)
  | 5 => ("CardLink$Line", "waitsEnded", "I", false)
  | 6 => ("CardLink$Line", "timesDone", "I", false)
  | 7 => ("CardLink$Line", "timesGivenUp", "I", false)
  | 8 => ("CardLink$Line", "block", "LCardLink$Row;", true)
  | 9 => ("CardLink$Line", "came", "LCardLink$Row;", true)
  | 10 => ("CardLink$Line", "journal", "LCardLink$Journal;", true)
  | 11 => ("CardLink$Line", "outcome", "I", false)
  | 12 => ("CardLink$Line", "firstTurn", "Z", false)
  | 13 => ("CardLink$Line", "roomWish", "I", false)
  | 14 => ("CardLink$Line", "stuck", "Z", false)
  | 15 => ("CardLink$Line", "toldAbort", "Z", false)
  | 16 => ("CardLink$Line", "waitsLeft", "I", false)
  | _ => ("CardLink$Line", "silentTurns", "I", false)
def tyX2 : Nat → FieldType := fun k => match k with
  | 0 => .object "CardLink$Side"
  | 1 => .object "CardLink$Side"
  | 2 => .object "CardLink$Wire"
  | 3 => .int
  | 4 => .int
  | 5 => .int
  | 6 => .int
  | 7 => .int
  | 8 => .object "CardLink$Row"
  | 9 => .object "CardLink$Row"
  | 10 => .object "CardLink$Journal"
  | 11 => .int
  | 12 => .boolean
  | 13 => .int
  | 14 => .boolean
  | 15 => .boolean
  | 16 => .int
  | _ => .int
abbrev wsX20 : List Cond := u_ws RX2 TX2 18
theorem nmX2 : ∀ a, a < 18 → ∀ b, b < 18 → a ≠ b → (TX2 a).2.1 ≠ (TX2 b).2.1 := by decide +kernel
theorem tyX2_ok : ∀ k, k < 18 → parseFieldDescriptor (TX2 k).2.2.1 = some (tyX2 k) := by decide +kernel
abbrev cX2_init : ByteArray := prog_4_method_1_code
def yX2_init : MethodName := ⟨RX2, "<init>", "(LCardLink$Journal;)V"⟩
abbrev cX2_restart : ByteArray := prog_4_method_2_code
def yX2_restart : MethodName := ⟨RX2, "restart", "(I)V"⟩
abbrev cX2_copy : ByteArray := prog_4_method_3_code
def yX2_copy : MethodName := ⟨RX2, "copy", "(LCardLink$Line;)V"⟩
abbrev cX2_startMessage : ByteArray := prog_4_method_4_code
def yX2_startMessage : MethodName := ⟨RX2, "startMessage", "(LCardLink$Row;)V"⟩
abbrev cX2_startRoom : ByteArray := prog_4_method_5_code
def yX2_startRoom : MethodName := ⟨RX2, "startRoom", "(I)V"⟩
abbrev cX2_begin : ByteArray := prog_4_method_6_code
def yX2_begin : MethodName := ⟨RX2, "begin", "(I)V"⟩
abbrev cX2_blocksAhead : ByteArray := prog_4_method_7_code
def yX2_blocksAhead : MethodName := ⟨RX2, "blocksAhead", "()I"⟩
abbrev cX2_blocksSent : ByteArray := prog_4_method_8_code
def yX2_blocksSent : MethodName := ⟨RX2, "blocksSent", "()I"⟩
abbrev cX2_run : ByteArray := prog_4_method_9_code
def yX2_run : MethodName := ⟨RX2, "run", "(I)I"⟩
abbrev cX2_turn : ByteArray := prog_4_method_10_code
def yX2_turn : MethodName := ⟨RX2, "turn", "()V"⟩
abbrev cX2_firstKind : ByteArray := prog_4_method_11_code
def yX2_firstKind : MethodName := ⟨RX2, "firstKind", "()I"⟩
abbrev cX2_countTries : ByteArray := prog_4_method_12_code
def yX2_countTries : MethodName := ⟨RX2, "countTries", "(I)I"⟩
abbrev cX2_readerKind : ByteArray := prog_4_method_13_code
def yX2_readerKind : MethodName := ⟨RX2, "readerKind", "()I"⟩
abbrev cX2_cardKind : ByteArray := prog_4_method_14_code
def yX2_cardKind : MethodName := ⟨RX2, "cardKind", "()I"⟩
abbrev cX2_onBroken : ByteArray := prog_4_method_15_code
def yX2_onBroken : MethodName := ⟨RX2, "onBroken", "(LCardLink$Side;)I"⟩
abbrev cX2_refuse : ByteArray := prog_4_method_16_code
def yX2_refuse : MethodName := ⟨RX2, "refuse", "(LCardLink$Side;)I"⟩
abbrev cX2_isAnswerTo : ByteArray := prog_4_method_17_code
def yX2_isAnswerTo : MethodName := ⟨RX2, "isAnswerTo", "(LCardLink$Side;)Z"⟩
abbrev cX2_readerOnAnswer : ByteArray := prog_4_method_18_code
def yX2_readerOnAnswer : MethodName := ⟨RX2, "readerOnAnswer", "()I"⟩
abbrev cX2_finish : ByteArray := prog_4_method_19_code
def yX2_finish : MethodName := ⟨RX2, "finish", "(I)I"⟩
abbrev cX2_cardOnAnswer : ByteArray := prog_4_method_20_code
def yX2_cardOnAnswer : MethodName := ⟨RX2, "cardOnAnswer", "()I"⟩
abbrev cX2_onI : ByteArray := prog_4_method_21_code
def yX2_onI : MethodName := ⟨RX2, "onI", "(LCardLink$Side;I)I"⟩
abbrev cX2_onReceipt : ByteArray := prog_4_method_22_code
def yX2_onReceipt : MethodName := ⟨RX2, "onReceipt", "(LCardLink$Side;I)I"⟩
abbrev cX2_onRequest : ByteArray := prog_4_method_23_code
def yX2_onRequest : MethodName := ⟨RX2, "onRequest", "(LCardLink$Side;LCardLink$Side;I)I"⟩
abbrev cX2_doMessage : ByteArray := prog_4_method_24_code
def yX2_doMessage : MethodName := ⟨RX2, "doMessage", "()I"⟩
abbrev cX2_putCounting : ByteArray := prog_4_method_25_code
def yX2_putCounting : MethodName := ⟨RX2, "putCounting", "(I)I"⟩
abbrev cX2_putBehindThird : ByteArray := prog_4_method_26_code
def yX2_putBehindThird : MethodName := ⟨RX2, "putBehindThird", "()I"⟩
abbrev cX2_putFirstByte : ByteArray := prog_4_method_27_code
def yX2_putFirstByte : MethodName := ⟨RX2, "putFirstByte", "()I"⟩
abbrev cX2_kindToSend : ByteArray := prog_4_method_28_code
def yX2_kindToSend : MethodName := ⟨RX2, "kindToSend", "(LCardLink$Side;LCardLink$Side;I)I"⟩
abbrev cX2_send : ByteArray := prog_4_method_29_code
def yX2_send : MethodName := ⟨RX2, "send", "(LCardLink$Side;LCardLink$Side;I)V"⟩
abbrev cX2_compose : ByteArray := prog_4_method_30_code
def yX2_compose : MethodName := ⟨RX2, "compose", "(LCardLink$Side;I)V"⟩
abbrev cX2_hasInf : ByteArray := prog_4_method_31_code
def yX2_hasInf : MethodName := ⟨RX2, "hasInf", "(I)Z"⟩
abbrev cX2_judge : ByteArray := prog_4_method_32_code
def yX2_judge : MethodName := ⟨RX2, "judge", "(II)I"⟩
abbrev cX2_isWellFormed : ByteArray := prog_4_method_33_code
def yX2_isWellFormed : MethodName := ⟨RX2, "isWellFormed", "(III)Z"⟩
def RX3 : String := "CardLink$ResetAnswer"
def TX3 : u_T := fun k => match k with
  | 0 => ("CardLink$ResetAnswer", "ts", "I", false)
  | 1 => ("CardLink$ResetAnswer", "factor", "I", false)
  | 2 => ("CardLink$ResetAnswer", "guard", "I", false)
  | 3 => ("CardLink$ResetAnswer", "protocol", "I", false)
  | 4 => ("CardLink$ResetAnswer", "groups", "I", false)
  | 5 => ("CardLink$ResetAnswer", "room", "I", false)
  | 6 => ("CardLink$ResetAnswer", "checked", "Z", false)
  | 7 => ("CardLink$ResetAnswer", "historical", "LCardLink$Row;", true)
  | 8 => ("CardLink$ResetAnswer", "place", "I", false)
  | 9 => ("CardLink$ResetAnswer", "told", "I", false)
  | _ => ("CardLink$ResetAnswer", "linkGroup", "I", false)
def tyX3 : Nat → FieldType := fun k => match k with
  | 0 => .int
  | 1 => .int
  | 2 => .int
  | 3 => .int
  | 4 => .int
  | 5 => .int
  | 6 => .boolean
  | 7 => .object "CardLink$Row"
  | 8 => .int
  | 9 => .int
  | _ => .int
abbrev wsX30 : List Cond := u_ws RX3 TX3 11
theorem nmX3 : ∀ a, a < 11 → ∀ b, b < 11 → a ≠ b → (TX3 a).2.1 ≠ (TX3 b).2.1 := by decide +kernel
theorem tyX3_ok : ∀ k, k < 11 → parseFieldDescriptor (TX3 k).2.2.1 = some (tyX3 k) := by decide +kernel
abbrev cX3_init : ByteArray := prog_5_method_1_code
def yX3_init : MethodName := ⟨RX3, "<init>", "()V"⟩
abbrev cX3_read : ByteArray := prog_5_method_2_code
def yX3_read : MethodName := ⟨RX3, "read", "(LCardLink$Row;)I"⟩
abbrev cX3_clear : ByteArray := prog_5_method_3_code
def yX3_clear : MethodName := ⟨RX3, "clear", "()V"⟩
abbrev cX3_faultAt : ByteArray := prog_5_method_4_code
def yX3_faultAt : MethodName := ⟨RX3, "faultAt", "(II)I"⟩
abbrev cX3_readHead : ByteArray := prog_5_method_5_code
def yX3_readHead : MethodName := ⟨RX3, "readHead", "(LCardLink$Row;)I"⟩
abbrev cX3_readGroups : ByteArray := prog_5_method_6_code
def yX3_readGroups : MethodName := ⟨RX3, "readGroups", "(LCardLink$Row;)I"⟩
abbrev cX3_readGroupByte : ByteArray := prog_5_method_7_code
def yX3_readGroupByte : MethodName := ⟨RX3, "readGroupByte", "(III)I"⟩
abbrev cX3_readFirstGroup : ByteArray := prog_5_method_8_code
def yX3_readFirstGroup : MethodName := ⟨RX3, "readFirstGroup", "(II)I"⟩
abbrev cX3_readLinkGroup : ByteArray := prog_5_method_9_code
def yX3_readLinkGroup : MethodName := ⟨RX3, "readLinkGroup", "(II)I"⟩
abbrev cX3_readTd : ByteArray := prog_5_method_10_code
def yX3_readTd : MethodName := ⟨RX3, "readTd", "(II)I"⟩
abbrev cX3_readTail : ByteArray := prog_5_method_11_code
def yX3_readTail : MethodName := ⟨RX3, "readTail", "(LCardLink$Row;I)I"⟩
abbrev cX3_clockOf : ByteArray := prog_5_method_12_code
def yX3_clockOf : MethodName := ⟨RX3, "clockOf", "(I)I"⟩
abbrev cX3_divisorOf : ByteArray := prog_5_method_13_code
def yX3_divisorOf : MethodName := ⟨RX3, "divisorOf", "(I)I"⟩
abbrev cX3_cardRoom : ByteArray := prog_5_method_14_code
def yX3_cardRoom : MethodName := ⟨RX3, "cardRoom", "()I"⟩
abbrev cX3_historicalBytes : ByteArray := prog_5_method_15_code
def yX3_historicalBytes : MethodName := ⟨RX3, "historicalBytes", "()I"⟩
abbrev cX3_historicalByte : ByteArray := prog_5_method_16_code
def yX3_historicalByte : MethodName := ⟨RX3, "historicalByte", "(I)I"⟩
abbrev cX3_tell : ByteArray := prog_5_method_17_code
def yX3_tell : MethodName := ⟨RX3, "tell", "(I)I"⟩
def RX4 : String := "CardLink$Row"
def TX4 : u_T := fun k => match k with
  | 0 => ("CardLink$Row", "items", "[I", false)
  | 1 => ("CardLink$Row", "length", "I", false)
  | _ => ("CardLink$Row", "most", "I", true)
def tyX4 : Nat → FieldType := fun k => match k with
  | 0 => .array .int
  | 1 => .int
  | _ => .int
abbrev wsX40 : List Cond := u_ws RX4 TX4 3
theorem nmX4 : ∀ a, a < 3 → ∀ b, b < 3 → a ≠ b → (TX4 a).2.1 ≠ (TX4 b).2.1 := by decide +kernel
theorem tyX4_ok : ∀ k, k < 3 → parseFieldDescriptor (TX4 k).2.2.1 = some (tyX4 k) := by decide +kernel
abbrev cX4_init : ByteArray := prog_6_method_1_code
def yX4_init : MethodName := ⟨RX4, "<init>", "(II)V"⟩
abbrev cX4_size : ByteArray := prog_6_method_2_code
def yX4_size : MethodName := ⟨RX4, "size", "()I"⟩
abbrev cX4_at : ByteArray := prog_6_method_3_code
def yX4_at : MethodName := ⟨RX4, "at", "(I)I"⟩
abbrev cX4_put : ByteArray := prog_6_method_4_code
def yX4_put : MethodName := ⟨RX4, "put", "(II)V"⟩
abbrev cX4_add : ByteArray := prog_6_method_5_code
def yX4_add : MethodName := ⟨RX4, "add", "(I)V"⟩
abbrev cX4_keep : ByteArray := prog_6_method_6_code
def yX4_keep : MethodName := ⟨RX4, "keep", "(I)V"⟩
abbrev cX4_copy : ByteArray := prog_6_method_7_code
def yX4_copy : MethodName := ⟨RX4, "copy", "(LCardLink$Row;)V"⟩
abbrev cX4_same : ByteArray := prog_6_method_8_code
def yX4_same : MethodName := ⟨RX4, "same", "(LCardLink$Row;)Z"⟩
abbrev cX4_xor : ByteArray := prog_6_method_9_code
def yX4_xor : MethodName := ⟨RX4, "xor", "(I)I"⟩
def RX5 : String := "CardLink$Side"
def TX5 : u_T := fun k => match k with
  | 0 => ("CardLink$Side", "number", "I", true)
  | 1 => ("CardLink$Side", "next", "I", false)
  | 2 => ("CardLink$Side", "wanted", "I", false)
  | 3 => ("CardLink$Side", "room", "I", false)
  | 4 => ("CardLink$Side", "through", "I", false)
  | 5 => ("CardLink$Side", "asked", "I", false)
  | 6 => ("CardLink$Side", "askedInf", "I", false)
  | 7 => ("CardLink$Side", "messages", "I", false)
  | 8 => ("CardLink$Side", "out", "LCardLink$Row;", true)
  | 9 => ("CardLink$Side", "got", "LCardLink$Row;", true)
  | 10 => ("CardLink$Side", "in", "LCardLink$Row;", true)
  | 11 => ("CardLink$Side", "pending", "I", false)
  | 12 => ("CardLink$Side", "pendingMore", "Z", false)
  | 13 => ("CardLink$Side", "latestKind", "I", false)
  | _ => ("CardLink$Side", "sent", "I", false)
def tyX5 : Nat → FieldType := fun k => match k with
  | 0 => .int
  | 1 => .int
  | 2 => .int
  | 3 => .int
  | 4 => .int
  | 5 => .int
  | 6 => .int
  | 7 => .int
  | 8 => .object "CardLink$Row"
  | 9 => .object "CardLink$Row"
  | 10 => .object "CardLink$Row"
  | 11 => .int
  | 12 => .boolean
  | 13 => .int
  | _ => .int
abbrev wsX50 : List Cond := u_ws RX5 TX5 15
theorem nmX5 : ∀ a, a < 15 → ∀ b, b < 15 → a ≠ b → (TX5 a).2.1 ≠ (TX5 b).2.1 := by decide +kernel
theorem tyX5_ok : ∀ k, k < 15 → parseFieldDescriptor (TX5 k).2.2.1 = some (tyX5 k) := by decide +kernel
abbrev cX5_init : ByteArray := prog_7_method_1_code
def yX5_init : MethodName := ⟨RX5, "<init>", "(I)V"⟩
abbrev cX5_restart : ByteArray := prog_7_method_2_code
def yX5_restart : MethodName := ⟨RX5, "restart", "(I)V"⟩
abbrev cX5_copy : ByteArray := prog_7_method_3_code
def yX5_copy : MethodName := ⟨RX5, "copy", "(LCardLink$Side;)V"⟩
abbrev cX5_emptyAll : ByteArray := prog_7_method_4_code
def yX5_emptyAll : MethodName := ⟨RX5, "emptyAll", "()V"⟩
abbrev cX5_breakOff : ByteArray := prog_7_method_5_code
def yX5_breakOff : MethodName := ⟨RX5, "breakOff", "()V"⟩
abbrev cX5_cutNext : ByteArray := prog_7_method_6_code
def yX5_cutNext : MethodName := ⟨RX5, "cutNext", "(I)I"⟩
abbrev cX5_pendingKind : ByteArray := prog_7_method_7_code
def yX5_pendingKind : MethodName := ⟨RX5, "pendingKind", "()I"⟩
abbrev cX5_pendingSize : ByteArray := prog_7_method_8_code
def yX5_pendingSize : MethodName := ⟨RX5, "pendingSize", "()I"⟩
abbrev cX5_hasPending : ByteArray := prog_7_method_9_code
def yX5_hasPending : MethodName := ⟨RX5, "hasPending", "()Z"⟩
abbrev cX5_pendingHasMore : ByteArray := prog_7_method_10_code
def yX5_pendingHasMore : MethodName := ⟨RX5, "pendingHasMore", "()Z"⟩
abbrev cX5_passPending : ByteArray := prog_7_method_11_code
def yX5_passPending : MethodName := ⟨RX5, "passPending", "()V"⟩
abbrev cX5_takeInf : ByteArray := prog_7_method_12_code
def yX5_takeInf : MethodName := ⟨RX5, "takeInf", "(LCardLink$Row;)V"⟩
abbrev cX5_takeWhole : ByteArray := prog_7_method_13_code
def yX5_takeWhole : MethodName := ⟨RX5, "takeWhole", "()V"⟩
abbrev cX5_takeEmpty : ByteArray := prog_7_method_14_code
def yX5_takeEmpty : MethodName := ⟨RX5, "takeEmpty", "()V"⟩
abbrev cX5_requestKind : ByteArray := prog_7_method_15_code
def yX5_requestKind : MethodName := ⟨RX5, "requestKind", "()I"⟩
abbrev cX5_ask : ByteArray := prog_7_method_16_code
def yX5_ask : MethodName := ⟨RX5, "ask", "(II)I"⟩
abbrev cX5_receipt : ByteArray := prog_7_method_17_code
def yX5_receipt : MethodName := ⟨RX5, "receipt", "(I)I"⟩
abbrev cX5_noteSent : ByteArray := prog_7_method_18_code
def yX5_noteSent : MethodName := ⟨RX5, "noteSent", "(I)V"⟩
abbrev cX5_blocksSent : ByteArray := prog_7_method_19_code
def yX5_blocksSent : MethodName := ⟨RX5, "blocksSent", "()I"⟩
abbrev cX5_tell : ByteArray := prog_7_method_20_code
def yX5_tell : MethodName := ⟨RX5, "tell", "(I)I"⟩
def RX6 : String := "CardLink$Wire"
def TX6 : u_T := fun k => match k with
  | 0 => ("CardLink$Wire", "repeats", "I", false)
  | 1 => ("CardLink$Wire", "letters", "I", false)
  | 2 => ("CardLink$Wire", "lettersAgain", "I", false)
  | 3 => ("CardLink$Wire", "faultLetters", "[I", true)
  | 4 => ("CardLink$Wire", "faultKinds", "[I", true)
  | 5 => ("CardLink$Wire", "faultBits", "[I", true)
  | 6 => ("CardLink$Wire", "faults", "I", false)
  | 7 => ("CardLink$Wire", "probeLetter", "I", false)
  | 8 => ("CardLink$Wire", "probeKind", "I", false)
  | _ => ("CardLink$Wire", "bitsNow", "I", false)
def tyX6 : Nat → FieldType := fun k => match k with
  | 0 => .int
  | 1 => .int
  | 2 => .int
  | 3 => .array .int
  | 4 => .array .int
  | 5 => .array .int
  | 6 => .int
  | 7 => .int
  | 8 => .int
  | _ => .int
abbrev wsX60 : List Cond := u_ws RX6 TX6 10
theorem nmX6 : ∀ a, a < 10 → ∀ b, b < 10 → a ≠ b → (TX6 a).2.1 ≠ (TX6 b).2.1 := by decide +kernel
theorem tyX6_ok : ∀ k, k < 10 → parseFieldDescriptor (TX6 k).2.2.1 = some (tyX6 k) := by decide +kernel
abbrev cX6_init : ByteArray := prog_8_method_1_code
def yX6_init : MethodName := ⟨RX6, "<init>", "()V"⟩
abbrev cX6_restart : ByteArray := prog_8_method_2_code
def yX6_restart : MethodName := ⟨RX6, "restart", "()V"⟩
abbrev cX6_copy : ByteArray := prog_8_method_3_code
def yX6_copy : MethodName := ⟨RX6, "copy", "(LCardLink$Wire;)V"⟩
abbrev cX6_probe : ByteArray := prog_8_method_4_code
def yX6_probe : MethodName := ⟨RX6, "probe", "(II)V"⟩
abbrev cX6_faults : ByteArray := prog_8_method_5_code
def yX6_faults : MethodName := ⟨RX6, "faults", "()I"⟩
abbrev cX6_isFull : ByteArray := prog_8_method_6_code
def yX6_isFull : MethodName := ⟨RX6, "isFull", "()Z"⟩
abbrev cX6_addFault : ByteArray := prog_8_method_7_code
def yX6_addFault : MethodName := ⟨RX6, "addFault", "(III)V"⟩
abbrev cX6_makePlace : ByteArray := prog_8_method_8_code
def yX6_makePlace : MethodName := ⟨RX6, "makePlace", "(I)V"⟩
abbrev cX6_dropNearest : ByteArray := prog_8_method_9_code
def yX6_dropNearest : MethodName := ⟨RX6, "dropNearest", "()V"⟩
abbrev cX6_sendLetter : ByteArray := prog_8_method_10_code
def yX6_sendLetter : MethodName := ⟨RX6, "sendLetter", "()I"⟩
abbrev cX6_carry : ByteArray := prog_8_method_11_code
def yX6_carry : MethodName := ⟨RX6, "carry", "(LCardLink$Row;LCardLink$Row;)I"⟩
def RX7 : String := "CardLink"
def TX7 : u_T := fun k => match k with
  | 0 => ("CardLink", "tape", "LCardLink$Row;", true)
  | 1 => ("CardLink", "journal", "LCardLink$Journal;", true)
  | 2 => ("CardLink", "line", "LCardLink$Line;", true)
  | 3 => ("CardLink", "forecast", "LCardLink$Forecast;", true)
  | 4 => ("CardLink", "inForce", "LCardLink$ResetAnswer;", false)
  | 5 => ("CardLink", "spare", "LCardLink$ResetAnswer;", false)
  | _ => ("CardLink", "cardIn", "Z", false)
def tyX7 : Nat → FieldType := fun k => match k with
  | 0 => .object "CardLink$Row"
  | 1 => .object "CardLink$Journal"
  | 2 => .object "CardLink$Line"
  | 3 => .object "CardLink$Forecast"
  | 4 => .object "CardLink$ResetAnswer"
  | 5 => .object "CardLink$ResetAnswer"
  | _ => .boolean
abbrev wsX70 : List Cond := u_ws RX7 TX7 7
theorem nmX7 : ∀ a, a < 7 → ∀ b, b < 7 → a ≠ b → (TX7 a).2.1 ≠ (TX7 b).2.1 := by decide +kernel
theorem tyX7_ok : ∀ k, k < 7 → parseFieldDescriptor (TX7 k).2.2.1 = some (tyX7 k) := by decide +kernel
abbrev cX7_init : ByteArray := prog_1_method_1_code
def yX7_init : MethodName := ⟨RX7, "<init>", "()V"⟩
abbrev cX7_feed : ByteArray := prog_1_method_2_code
def yX7_feed : MethodName := ⟨RX7, "feed", "(JJ)I"⟩
abbrev cX7_feedEight : ByteArray := prog_1_method_3_code
def yX7_feedEight : MethodName := ⟨RX7, "feedEight", "(J)V"⟩
abbrev cX7_end : ByteArray := prog_1_method_4_code
def yX7_end : MethodName := ⟨RX7, "end", "(I)I"⟩
abbrev cX7_reset : ByteArray := prog_1_method_5_code
def yX7_reset : MethodName := ⟨RX7, "reset", "()I"⟩
abbrev cX7_answer : ByteArray := prog_1_method_6_code
def yX7_answer : MethodName := ⟨RX7, "answer", "(I)I"⟩
abbrev cX7_historical : ByteArray := prog_1_method_7_code
def yX7_historical : MethodName := ⟨RX7, "historical", "(I)I"⟩
abbrev cX7_message : ByteArray := prog_1_method_8_code
def yX7_message : MethodName := ⟨RX7, "message", "()I"⟩
abbrev cX7_room : ByteArray := prog_1_method_9_code
def yX7_room : MethodName := ⟨RX7, "room", "(I)I"⟩
abbrev cX7_mayStart : ByteArray := prog_1_method_10_code
def yX7_mayStart : MethodName := ⟨RX7, "mayStart", "()Z"⟩
abbrev cX7_onWay : ByteArray := prog_1_method_11_code
def yX7_onWay : MethodName := ⟨RX7, "onWay", "()Z"⟩
abbrev cX7_fault : ByteArray := prog_1_method_12_code
def yX7_fault : MethodName := ⟨RX7, "fault", "(III)I"⟩
abbrev cX7_repeats : ByteArray := prog_1_method_13_code
def yX7_repeats : MethodName := ⟨RX7, "repeats", "(I)I"⟩
abbrev cX7_step : ByteArray := prog_1_method_14_code
def yX7_step : MethodName := ⟨RX7, "step", "(I)I"⟩
abbrev cX7_state : ByteArray := prog_1_method_15_code
def yX7_state : MethodName := ⟨RX7, "state", "()I"⟩
abbrev cX7_side : ByteArray := prog_1_method_16_code
def yX7_side : MethodName := ⟨RX7, "side", "(II)I"⟩
abbrev cX7_sideOf : ByteArray := prog_1_method_17_code
def yX7_sideOf : MethodName := ⟨RX7, "sideOf", "(I)LCardLink$Side;"⟩
abbrev cX7_got : ByteArray := prog_1_method_18_code
def yX7_got : MethodName := ⟨RX7, "got", "(II)I"⟩
abbrev cX7_log : ByteArray := prog_1_method_19_code
def yX7_log : MethodName := ⟨RX7, "log", "(II)I"⟩
abbrev cX7_byteOf : ByteArray := prog_1_method_20_code
def yX7_byteOf : MethodName := ⟨RX7, "byteOf", "(II)I"⟩
abbrev cX7_would : ByteArray := prog_1_method_21_code
def yX7_would : MethodName := ⟨RX7, "would", "(I)I"⟩
abbrev cX7_harm : ByteArray := prog_1_method_22_code
def yX7_harm : MethodName := ⟨RX7, "harm", "(II)I"⟩
abbrev cX7_count : ByteArray := prog_1_method_23_code
def yX7_count : MethodName := ⟨RX7, "count", "(I)I"⟩
def RX8 : String := "CardLinkModel"
def TX8 : u_T := fun k => match k with
  | 0 => ("CardLinkModel", "tape", "[I", true)
  | 1 => ("CardLinkModel", "taped", "I", false)
  | 2 => ("CardLinkModel", "thrown", "I", false)
  | 3 => ("CardLinkModel", "hasCard", "Z", false)
  | 4 => ("CardLinkModel", "told", "[I", true)
  | 5 => ("CardLinkModel", "draft", "[I", true)
  | 6 => ("CardLinkModel", "history", "[I", true)
  | 7 => ("CardLinkModel", "s", "[I", true)
  | 8 => ("CardLinkModel", "kept", "[I", true)
  | 9 => ("CardLinkModel", "repeats", "I", false)
  | 10 => ("CardLinkModel", "log", "[I", true)
  | 11 => ("CardLinkModel", "logBytes", "[I", true)
  | 12 => ("CardLinkModel", "logged", "I", false)
  | 13 => ("CardLinkModel", "logAt", "I", false)
  | 14 => ("CardLinkModel", "unlikeFrom", "[I", true)
  | 15 => ("CardLinkModel", "unlikeSide", "[I", true)
  | 16 => ("CardLinkModel", "unlikeOften", "[I", true)
  | 17 => ("CardLinkModel", "unlikeBytes", "[I", true)
  | 18 => ("CardLinkModel", "unlike", "I", false)
  | 19 => ("CardLinkModel", "quiet", "Z", false)
  | 20 => ("CardLinkModel", "size", "I", false)
  | 21 => ("CardLinkModel", "at", "I", false)
  | 22 => ("CardLinkModel", "fault", "I", false)
  | 23 => ("CardLinkModel", "special", "I", false)
  | 24 => ("CardLinkModel", "hasOther", "Z", false)
  | 25 => ("CardLinkModel", "block", "[I", true)
  | 26 => ("CardLinkModel", "blockMany", "I", false)
  | 27 => ("CardLinkModel", "came", "[I", true)
  | 28 => ("CardLinkModel", "cameMany", "I", false)
  | 29 => ("CardLinkModel", "cameHow", "I", false)
  | 30 => ("CardLinkModel", "hasLost", "Z", false)
  | 31 => ("CardLinkModel", "hasSpoilt", "Z", false)
  | 32 => ("CardLinkModel", "inf", "[I", true)
  | 33 => ("CardLinkModel", "hasSent", "Z", false)
  | 34 => ("CardLinkModel", "tryOf", "I", false)
  | 35 => ("CardLinkModel", "reason", "I", false)
  | 36 => ("CardLinkModel", "wouldSend", "I", false)
  | 37 => ("CardLinkModel", "wanted", "[I", true)
  | _ => ("CardLinkModel", "wantedMany", "I", false)
def tyX8 : Nat → FieldType := fun k => match k with
  | 0 => .array .int
  | 1 => .int
  | 2 => .int
  | 3 => .boolean
  | 4 => .array .int
  | 5 => .array .int
  | 6 => .array .int
  | 7 => .array .int
  | 8 => .array .int
  | 9 => .int
  | 10 => .array .int
  | 11 => .array .int
  | 12 => .int
  | 13 => .int
  | 14 => .array .int
  | 15 => .array .int
  | 16 => .array .int
  | 17 => .array .int
  | 18 => .int
  | 19 => .boolean
  | 20 => .int
  | 21 => .int
  | 22 => .int
  | 23 => .int
  | 24 => .boolean
  | 25 => .array .int
  | 26 => .int
  | 27 => .array .int
  | 28 => .int
  | 29 => .int
  | 30 => .boolean
  | 31 => .boolean
  | 32 => .array .int
  | 33 => .boolean
  | 34 => .int
  | 35 => .int
  | 36 => .int
  | 37 => .array .int
  | _ => .int
abbrev wsX80 : List Cond := u_ws RX8 TX8 39
theorem nmX8 : ∀ a, a < 39 → ∀ b, b < 39 → a ≠ b → (TX8 a).2.1 ≠ (TX8 b).2.1 := by decide +kernel
theorem tyX8_ok : ∀ k, k < 39 → parseFieldDescriptor (TX8 k).2.2.1 = some (tyX8 k) := by decide +kernel
abbrev cX8_init : ByteArray := prog_10_method_1_code
def yX8_init : MethodName := ⟨RX8, "<init>", "()V"⟩
abbrev cX8_within : ByteArray := prog_10_method_3_code
def yX8_within : MethodName := ⟨RX8, "within", "(III)Z"⟩
abbrev cX8_begins : ByteArray := prog_10_method_4_code
def yX8_begins : MethodName := ⟨RX8, "begins", "()V"⟩
abbrev cX8_eight : ByteArray := prog_10_method_5_code
def yX8_eight : MethodName := ⟨RX8, "eight", "(J)V"⟩
abbrev cX8_feed : ByteArray := prog_10_method_6_code
def yX8_feed : MethodName := ⟨RX8, "feed", "(JJ)I"⟩
abbrev cX8_end : ByteArray := prog_10_method_7_code
def yX8_end : MethodName := ⟨RX8, "end", "(I)I"⟩
abbrev cX8_byteNext : ByteArray := prog_10_method_8_code
def yX8_byteNext : MethodName := ⟨RX8, "byteNext", "()I"⟩
abbrev cX8_wrong : ByteArray := prog_10_method_9_code
def yX8_wrong : MethodName := ⟨RX8, "wrong", "(II)V"⟩
abbrev cX8_clocks : ByteArray := prog_10_method_10_code
def yX8_clocks : MethodName := ⟨RX8, "clocks", "(I)I"⟩
abbrev cX8_bits : ByteArray := prog_10_method_11_code
def yX8_bits : MethodName := ⟨RX8, "bits", "(I)I"⟩
abbrev cX8_factor : ByteArray := prog_10_method_12_code
def yX8_factor : MethodName := ⟨RX8, "factor", "()V"⟩
abbrev cX8_window : ByteArray := prog_10_method_13_code
def yX8_window : MethodName := ⟨RX8, "window", "()V"⟩
abbrev cX8_groupTold : ByteArray := prog_10_method_14_code
def yX8_groupTold : MethodName := ⟨RX8, "groupTold", "(II)I"⟩
abbrev cX8_groupsTold : ByteArray := prog_10_method_15_code
def yX8_groupsTold : MethodName := ⟨RX8, "groupsTold", "(I)V"⟩
abbrev cX8_reset : ByteArray := prog_10_method_16_code
def yX8_reset : MethodName := ⟨RX8, "reset", "()I"⟩
abbrev cX8_checks : ByteArray := prog_10_method_17_code
def yX8_checks : MethodName := ⟨RX8, "checks", "()V"⟩
abbrev cX8_answer : ByteArray := prog_10_method_18_code
def yX8_answer : MethodName := ⟨RX8, "answer", "(I)I"⟩
abbrev cX8_historical : ByteArray := prog_10_method_19_code
def yX8_historical : MethodName := ⟨RX8, "historical", "(I)I"⟩
abbrev cX8_canBegin : ByteArray := prog_10_method_20_code
def yX8_canBegin : MethodName := ⟨RX8, "canBegin", "()Z"⟩
abbrev cX8_starts : ByteArray := prog_10_method_21_code
def yX8_starts : MethodName := ⟨RX8, "starts", "(I)V"⟩
abbrev cX8_message : ByteArray := prog_10_method_22_code
def yX8_message : MethodName := ⟨RX8, "message", "()I"⟩
abbrev cX8_room : ByteArray := prog_10_method_23_code
def yX8_room : MethodName := ⟨RX8, "room", "(I)I"⟩
abbrev cX8_faultAt : ByteArray := prog_10_method_24_code
def yX8_faultAt : MethodName := ⟨RX8, "faultAt", "(I)I"⟩
abbrev cX8_passes : ByteArray := prog_10_method_25_code
def yX8_passes : MethodName := ⟨RX8, "passes", "()V"⟩
abbrev cX8_putsFault : ByteArray := prog_10_method_26_code
def yX8_putsFault : MethodName := ⟨RX8, "putsFault", "(III)V"⟩
abbrev cX8_fault : ByteArray := prog_10_method_27_code
def yX8_fault : MethodName := ⟨RX8, "fault", "(III)I"⟩
abbrev cX8_repeats : ByteArray := prog_10_method_28_code
def yX8_repeats : MethodName := ⟨RX8, "repeats", "(I)I"⟩
abbrev cX8_carries : ByteArray := prog_10_method_29_code
def yX8_carries : MethodName := ⟨RX8, "carries", "(I)V"⟩
abbrev cX8_isShaped : ByteArray := prog_10_method_30_code
def yX8_isShaped : MethodName := ⟨RX8, "isShaped", "(I)Z"⟩
abbrev cX8_howCame : ByteArray := prog_10_method_31_code
def yX8_howCame : MethodName := ⟨RX8, "howCame", "(I)I"⟩
abbrev cX8_sends : ByteArray := prog_10_method_32_code
def yX8_sends : MethodName := ⟨RX8, "sends", "(III)V"⟩
abbrev cX8_isAlike : ByteArray := prog_10_method_33_code
def yX8_isAlike : MethodName := ⟨RX8, "isAlike", "(II)Z"⟩
abbrev cX8_unlikeOf : ByteArray := prog_10_method_34_code
def yX8_unlikeOf : MethodName := ⟨RX8, "unlikeOf", "(I)I"⟩
abbrev cX8_logs : ByteArray := prog_10_method_35_code
def yX8_logs : MethodName := ⟨RX8, "logs", "(II)V"⟩
abbrev cX8_sendsR : ByteArray := prog_10_method_36_code
def yX8_sendsR : MethodName := ⟨RX8, "sendsR", "(II)V"⟩
abbrev cX8_sendsAsked : ByteArray := prog_10_method_37_code
def yX8_sendsAsked : MethodName := ⟨RX8, "sendsAsked", "(I)V"⟩
abbrev cX8_asks : ByteArray := prog_10_method_38_code
def yX8_asks : MethodName := ⟨RX8, "asks", "(III)V"⟩
abbrev cX8_sendsPending : ByteArray := prog_10_method_39_code
def yX8_sendsPending : MethodName := ⟨RX8, "sendsPending", "(I)V"⟩
abbrev cX8_sendsOut : ByteArray := prog_10_method_40_code
def yX8_sendsOut : MethodName := ⟨RX8, "sendsOut", "(I)V"⟩
abbrev cX8_isThrough : ByteArray := prog_10_method_41_code
def yX8_isThrough : MethodName := ⟨RX8, "isThrough", "(I)V"⟩
abbrev cX8_empties : ByteArray := prog_10_method_42_code
def yX8_empties : MethodName := ⟨RX8, "empties", "(I)V"⟩
abbrev cX8_resynchs : ByteArray := prog_10_method_43_code
def yX8_resynchs : MethodName := ⟨RX8, "resynchs", "(I)V"⟩
abbrev cX8_isResponse : ByteArray := prog_10_method_44_code
def yX8_isResponse : MethodName := ⟨RX8, "isResponse", "(I)Z"⟩
abbrev cX8_takes : ByteArray := prog_10_method_45_code
def yX8_takes : MethodName := ⟨RX8, "takes", "(I)Z"⟩
abbrev cX8_hasMoreCome : ByteArray := prog_10_method_46_code
def yX8_hasMoreCome : MethodName := ⟨RX8, "hasMoreCome", "()Z"⟩
abbrev cX8_messageCame : ByteArray := prog_10_method_47_code
def yX8_messageCame : MethodName := ⟨RX8, "messageCame", "(I)V"⟩
abbrev cX8_wantsAgain : ByteArray := prog_10_method_48_code
def yX8_wantsAgain : MethodName := ⟨RX8, "wantsAgain", "(I)Z"⟩
abbrev cX8_goesOn : ByteArray := prog_10_method_49_code
def yX8_goesOn : MethodName := ⟨RX8, "goesOn", "(I)V"⟩
abbrev cX8_done : ByteArray := prog_10_method_50_code
def yX8_done : MethodName := ⟨RX8, "done", "()V"⟩
abbrev cX8_tries : ByteArray := prog_10_method_51_code
def yX8_tries : MethodName := ⟨RX8, "tries", "(II)V"⟩
abbrev cX8_readerGets : ByteArray := prog_10_method_52_code
def yX8_readerGets : MethodName := ⟨RX8, "readerGets", "()V"⟩
abbrev cX8_readerAnswered : ByteArray := prog_10_method_53_code
def yX8_readerAnswered : MethodName := ⟨RX8, "readerAnswered", "()V"⟩
abbrev cX8_readerTold : ByteArray := prog_10_method_54_code
def yX8_readerTold : MethodName := ⟨RX8, "readerTold", "()V"⟩
abbrev cX8_responds : ByteArray := prog_10_method_55_code
def yX8_responds : MethodName := ⟨RX8, "responds", "(I)V"⟩
abbrev cX8_readerAsked : ByteArray := prog_10_method_56_code
def yX8_readerAsked : MethodName := ⟨RX8, "readerAsked", "()V"⟩
abbrev cX8_triesOn : ByteArray := prog_10_method_57_code
def yX8_triesOn : MethodName := ⟨RX8, "triesOn", "()V"⟩
abbrev cX8_cardOut : ByteArray := prog_10_method_58_code
def yX8_cardOut : MethodName := ⟨RX8, "cardOut", "(II)V"⟩
abbrev cX8_cardSends : ByteArray := prog_10_method_59_code
def yX8_cardSends : MethodName := ⟨RX8, "cardSends", "(II)V"⟩
abbrev cX8_gotByte : ByteArray := prog_10_method_60_code
def yX8_gotByte : MethodName := ⟨RX8, "gotByte", "(II)I"⟩
abbrev cX8_cardDoes : ByteArray := prog_10_method_61_code
def yX8_cardDoes : MethodName := ⟨RX8, "cardDoes", "()V"⟩
abbrev cX8_cardWaits : ByteArray := prog_10_method_62_code
def yX8_cardWaits : MethodName := ⟨RX8, "cardWaits", "()V"⟩
abbrev cX8_cardAnswered : ByteArray := prog_10_method_63_code
def yX8_cardAnswered : MethodName := ⟨RX8, "cardAnswered", "()V"⟩
abbrev cX8_cardGets : ByteArray := prog_10_method_64_code
def yX8_cardGets : MethodName := ⟨RX8, "cardGets", "()V"⟩
abbrev cX8_bringsCame : ByteArray := prog_10_method_65_code
def yX8_bringsCame : MethodName := ⟨RX8, "bringsCame", "()V"⟩
abbrev cX8_turns : ByteArray := prog_10_method_66_code
def yX8_turns : MethodName := ⟨RX8, "turns", "()I"⟩
abbrev cX8_step : ByteArray := prog_10_method_67_code
def yX8_step : MethodName := ⟨RX8, "step", "(I)I"⟩
abbrev cX8_state : ByteArray := prog_10_method_68_code
def yX8_state : MethodName := ⟨RX8, "state", "()I"⟩
abbrev cX8_side : ByteArray := prog_10_method_69_code
def yX8_side : MethodName := ⟨RX8, "side", "(II)I"⟩
abbrev cX8_got : ByteArray := prog_10_method_70_code
def yX8_got : MethodName := ⟨RX8, "got", "(II)I"⟩
abbrev cX8_logPlace : ByteArray := prog_10_method_71_code
def yX8_logPlace : MethodName := ⟨RX8, "logPlace", "(I)I"⟩
abbrev cX8_log : ByteArray := prog_10_method_72_code
def yX8_log : MethodName := ⟨RX8, "log", "(II)I"⟩
abbrev cX8_byteOf : ByteArray := prog_10_method_73_code
def yX8_byteOf : MethodName := ⟨RX8, "byteOf", "(II)I"⟩
abbrev cX8_triesOut : ByteArray := prog_10_method_74_code
def yX8_triesOut : MethodName := ⟨RX8, "triesOut", "()V"⟩
abbrev cX8_keeps : ByteArray := prog_10_method_75_code
def yX8_keeps : MethodName := ⟨RX8, "keeps", "()V"⟩
abbrev cX8_comesBack : ByteArray := prog_10_method_76_code
def yX8_comesBack : MethodName := ⟨RX8, "comesBack", "()V"⟩
abbrev cX8_would : ByteArray := prog_10_method_77_code
def yX8_would : MethodName := ⟨RX8, "would", "(I)I"⟩
abbrev cX8_isSame : ByteArray := prog_10_method_78_code
def yX8_isSame : MethodName := ⟨RX8, "isSame", "()Z"⟩
abbrev cX8_harm : ByteArray := prog_10_method_79_code
def yX8_harm : MethodName := ⟨RX8, "harm", "(II)I"⟩
abbrev cX8_faultsToCome : ByteArray := prog_10_method_80_code
def yX8_faultsToCome : MethodName := ⟨RX8, "faultsToCome", "()I"⟩
abbrev cX8_count : ByteArray := prog_10_method_81_code
def yX8_count : MethodName := ⟨RX8, "count", "(I)I"⟩
def RJx145de : String := "java/io/Serializable"
def TJx145de : u_T := fun k => match k with
  | _ => ("", "", "", false)
def tyJx145de : Nat → FieldType := fun k => match k with
  | _ => .int
theorem nmJx145de : ∀ a, a < 0 → ∀ b, b < 0 → a ≠ b → (TJx145de a).2.1 ≠ (TJx145de b).2.1 := by decide +kernel
theorem tyJx145de_ok : ∀ k, k < 0 → parseFieldDescriptor (TJx145de k).2.2.1 = some (tyJx145de k) := by decide +kernel
def RJx8e188 : String := "java/lang/Cloneable"
def TJx8e188 : u_T := fun k => match k with
  | _ => ("", "", "", false)
def tyJx8e188 : Nat → FieldType := fun k => match k with
  | _ => .int
theorem nmJx8e188 : ∀ a, a < 0 → ∀ b, b < 0 → a ≠ b → (TJx8e188 a).2.1 ≠ (TJx8e188 b).2.1 := by decide +kernel
theorem tyJx8e188_ok : ∀ k, k < 0 → parseFieldDescriptor (TJx8e188 k).2.2.1 = some (tyJx8e188 k) := by decide +kernel
def RJ9 : String := "java/lang/Math"
def TJ9 : u_T := fun k => match k with
  | _ => ("", "", "", false)
def tyJ9 : Nat → FieldType := fun k => match k with
  | _ => .int
theorem nmJ9 : ∀ a, a < 0 → ∀ b, b < 0 → a ≠ b → (TJ9 a).2.1 ≠ (TJ9 b).2.1 := by decide +kernel
theorem tyJ9_ok : ∀ k, k < 0 → parseFieldDescriptor (TJ9 k).2.2.1 = some (tyJ9 k) := by decide +kernel
abbrev cJ9_max_7cf53 : ByteArray := prog_14_method_65_code
def yJ9_max_7cf53 : MethodName := ⟨RJ9, "max", "(II)I"⟩
abbrev cJ9_min_7cf53 : ByteArray := prog_14_method_69_code
def yJ9_min_7cf53 : MethodName := ⟨RJ9, "min", "(II)I"⟩
def RJ10 : String := "java/lang/System"
def TJ10 : u_T := fun k => match k with
  | _ => ("", "", "", false)
def tyJ10 : Nat → FieldType := fun k => match k with
  | _ => .int
theorem nmJ10 : ∀ a, a < 0 → ∀ b, b < 0 → a ≠ b → (TJ10 a).2.1 ≠ (TJ10 b).2.1 := by decide +kernel
theorem tyJ10_ok : ∀ k, k < 0 → parseFieldDescriptor (TJ10 k).2.2.1 = some (tyJ10 k) := by decide +kernel
def RJ7 : String := "java/util/Arrays"
def TJ7 : u_T := fun k => match k with
  | _ => ("", "", "", false)
def tyJ7 : Nat → FieldType := fun k => match k with
  | _ => .int
theorem nmJ7 : ∀ a, a < 0 → ∀ b, b < 0 → a ≠ b → (TJ7 a).2.1 ≠ (TJ7 b).2.1 := by decide +kernel
theorem tyJ7_ok : ∀ k, k < 0 → parseFieldDescriptor (TJ7 k).2.2.1 = some (tyJ7 k) := by decide +kernel
abbrev cJ7_fill_53178 : ByteArray := prog_18_method_103_code
def yJ7_fill_53178 : MethodName := ⟨RJ7, "fill", "([II)V"⟩
abbrev cJ7_copyOf_59c91 : ByteArray := prog_18_method_123_code
def yJ7_copyOf_59c91 : MethodName := ⟨RJ7, "copyOf", "([II)[I"⟩
def RL : String := "CardLinkLaw"
abbrev cL_log : ByteArray := method_3_code
def yL_log : MethodName := ⟨RL, "log", "(LCardLink;II[J)I"⟩
abbrev cL_law : ByteArray := code
def yL_law : MethodName := ⟨RL, "law", "([I)Z"⟩
abbrev vwCl : List vw_C := [(RX0, TX0, 7), (RX1, TX1, 9), (RX2, TX2, 18), (RX3, TX3, 11), (RX4, TX4, 3), (RX5, TX5, 15), (RX6, TX6, 10), (RX7, TX7, 7), (RX8, TX8, 39)]
