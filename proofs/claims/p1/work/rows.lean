section
-- ===== PART A: goes FIRST, ahead of the names: the tables' words, and 'selects' of the private methods out of them =====
/-- a private method of a class that the tables say can be made, by its rows of tables_1 -/
def lw_okq (q : MethodName × Nat) : Prop := (q.1.cls ≠ "java/lang/invoke/MethodHandle" ∧ q.1.cls ≠ "java/lang/invoke/VarHandle") ∧ Cond.instantiable q.1.cls q.2 ∈ tables_1 ∧ Cond.privateMethod q.1 ∈ tables_1 ∧ Cond.instanceMethod q.1 ∈ tables_1
theorem lw_p0 : lw_okq (⟨"CardLink", "feedEight", "(J)V"⟩, 7) := ⟨⟨by decide +kernel, by decide +kernel⟩, List.mem_of_getElem? (i := 18) (by decide +kernel), List.mem_of_getElem? (i := 368) (by decide +kernel), List.mem_of_getElem? (i := 369) (by decide +kernel)⟩
theorem lw_p1 : lw_okq (⟨"CardLink$ResetAnswer", "clear", "()V"⟩, 11) := ⟨⟨by decide +kernel, by decide +kernel⟩, List.mem_of_getElem? (i := 296) (by decide +kernel), List.mem_of_getElem? (i := 409) (by decide +kernel), List.mem_of_getElem? (i := 410) (by decide +kernel)⟩
theorem lw_p2 : lw_okq (⟨"CardLink$ResetAnswer", "readHead", "(LCardLink$Row;)I"⟩, 11) := ⟨⟨by decide +kernel, by decide +kernel⟩, List.mem_of_getElem? (i := 296) (by decide +kernel), List.mem_of_getElem? (i := 414) (by decide +kernel), List.mem_of_getElem? (i := 415) (by decide +kernel)⟩
theorem lw_p3 : lw_okq (⟨"CardLink$ResetAnswer", "readGroups", "(LCardLink$Row;)I"⟩, 11) := ⟨⟨by decide +kernel, by decide +kernel⟩, List.mem_of_getElem? (i := 296) (by decide +kernel), List.mem_of_getElem? (i := 426) (by decide +kernel), List.mem_of_getElem? (i := 427) (by decide +kernel)⟩
theorem lw_p4 : lw_okq (⟨"CardLink$ResetAnswer", "readGroupByte", "(III)I"⟩, 11) := ⟨⟨by decide +kernel, by decide +kernel⟩, List.mem_of_getElem? (i := 296) (by decide +kernel), List.mem_of_getElem? (i := 430) (by decide +kernel), List.mem_of_getElem? (i := 431) (by decide +kernel)⟩
theorem lw_p5 : lw_okq (⟨"CardLink$ResetAnswer", "readTd", "(II)I"⟩, 11) := ⟨⟨by decide +kernel, by decide +kernel⟩, List.mem_of_getElem? (i := 296) (by decide +kernel), List.mem_of_getElem? (i := 434) (by decide +kernel), List.mem_of_getElem? (i := 435) (by decide +kernel)⟩
theorem lw_p6 : lw_okq (⟨"CardLink$ResetAnswer", "readFirstGroup", "(II)I"⟩, 11) := ⟨⟨by decide +kernel, by decide +kernel⟩, List.mem_of_getElem? (i := 296) (by decide +kernel), List.mem_of_getElem? (i := 438) (by decide +kernel), List.mem_of_getElem? (i := 439) (by decide +kernel)⟩
theorem lw_p7 : lw_okq (⟨"CardLink$ResetAnswer", "readLinkGroup", "(II)I"⟩, 11) := ⟨⟨by decide +kernel, by decide +kernel⟩, List.mem_of_getElem? (i := 296) (by decide +kernel), List.mem_of_getElem? (i := 452) (by decide +kernel), List.mem_of_getElem? (i := 453) (by decide +kernel)⟩
theorem lw_p8 : lw_okq (⟨"CardLink$ResetAnswer", "readTail", "(LCardLink$Row;I)I"⟩, 11) := ⟨⟨by decide +kernel, by decide +kernel⟩, List.mem_of_getElem? (i := 296) (by decide +kernel), List.mem_of_getElem? (i := 456) (by decide +kernel), List.mem_of_getElem? (i := 457) (by decide +kernel)⟩
theorem lw_p9 : lw_okq (⟨"CardLink", "mayStart", "()Z"⟩, 7) := ⟨⟨by decide +kernel, by decide +kernel⟩, List.mem_of_getElem? (i := 18) (by decide +kernel), List.mem_of_getElem? (i := 519) (by decide +kernel), List.mem_of_getElem? (i := 520) (by decide +kernel)⟩
theorem lw_p10 : lw_okq (⟨"CardLink$Line", "begin", "(I)V"⟩, 18) := ⟨⟨by decide +kernel, by decide +kernel⟩, List.mem_of_getElem? (i := 84) (by decide +kernel), List.mem_of_getElem? (i := 532) (by decide +kernel), List.mem_of_getElem? (i := 533) (by decide +kernel)⟩
theorem lw_p11 : lw_okq (⟨"CardLink$Wire", "makePlace", "(I)V"⟩, 10) := ⟨⟨by decide +kernel, by decide +kernel⟩, List.mem_of_getElem? (i := 156) (by decide +kernel), List.mem_of_getElem? (i := 561) (by decide +kernel), List.mem_of_getElem? (i := 562) (by decide +kernel)⟩
theorem lw_p12 : lw_okq (⟨"CardLink", "onWay", "()Z"⟩, 7) := ⟨⟨by decide +kernel, by decide +kernel⟩, List.mem_of_getElem? (i := 18) (by decide +kernel), List.mem_of_getElem? (i := 578) (by decide +kernel), List.mem_of_getElem? (i := 579) (by decide +kernel)⟩
theorem lw_p13 : lw_okq (⟨"CardLink$Line", "firstKind", "()I"⟩, 18) := ⟨⟨by decide +kernel, by decide +kernel⟩, List.mem_of_getElem? (i := 84) (by decide +kernel), List.mem_of_getElem? (i := 598) (by decide +kernel), List.mem_of_getElem? (i := 599) (by decide +kernel)⟩
theorem lw_p14 : lw_okq (⟨"CardLink$Line", "readerKind", "()I"⟩, 18) := ⟨⟨by decide +kernel, by decide +kernel⟩, List.mem_of_getElem? (i := 84) (by decide +kernel), List.mem_of_getElem? (i := 610) (by decide +kernel), List.mem_of_getElem? (i := 611) (by decide +kernel)⟩
theorem lw_p15 : lw_okq (⟨"CardLink$Line", "onBroken", "(LCardLink$Side;)I"⟩, 18) := ⟨⟨by decide +kernel, by decide +kernel⟩, List.mem_of_getElem? (i := 84) (by decide +kernel), List.mem_of_getElem? (i := 614) (by decide +kernel), List.mem_of_getElem? (i := 615) (by decide +kernel)⟩
def lw_privs_1 : List (MethodName × Nat) := [(⟨"CardLink", "feedEight", "(J)V"⟩, 7), (⟨"CardLink$ResetAnswer", "clear", "()V"⟩, 11), (⟨"CardLink$ResetAnswer", "readHead", "(LCardLink$Row;)I"⟩, 11), (⟨"CardLink$ResetAnswer", "readGroups", "(LCardLink$Row;)I"⟩, 11), (⟨"CardLink$ResetAnswer", "readGroupByte", "(III)I"⟩, 11), (⟨"CardLink$ResetAnswer", "readTd", "(II)I"⟩, 11), (⟨"CardLink$ResetAnswer", "readFirstGroup", "(II)I"⟩, 11), (⟨"CardLink$ResetAnswer", "readLinkGroup", "(II)I"⟩, 11), (⟨"CardLink$ResetAnswer", "readTail", "(LCardLink$Row;I)I"⟩, 11), (⟨"CardLink", "mayStart", "()Z"⟩, 7), (⟨"CardLink$Line", "begin", "(I)V"⟩, 18), (⟨"CardLink$Wire", "makePlace", "(I)V"⟩, 10), (⟨"CardLink", "onWay", "()Z"⟩, 7), (⟨"CardLink$Line", "firstKind", "()I"⟩, 18), (⟨"CardLink$Line", "readerKind", "()I"⟩, 18), (⟨"CardLink$Line", "onBroken", "(LCardLink$Side;)I"⟩, 18)]
theorem lw_r1 : ∀ q ∈ lw_privs_1, lw_okq q := List.forall_mem_cons.mpr ⟨lw_p0, List.forall_mem_cons.mpr ⟨lw_p1, List.forall_mem_cons.mpr ⟨lw_p2, List.forall_mem_cons.mpr ⟨lw_p3, List.forall_mem_cons.mpr ⟨lw_p4, List.forall_mem_cons.mpr ⟨lw_p5, List.forall_mem_cons.mpr ⟨lw_p6, List.forall_mem_cons.mpr ⟨lw_p7, List.forall_mem_cons.mpr ⟨lw_p8, List.forall_mem_cons.mpr ⟨lw_p9, List.forall_mem_cons.mpr ⟨lw_p10, List.forall_mem_cons.mpr ⟨lw_p11, List.forall_mem_cons.mpr ⟨lw_p12, List.forall_mem_cons.mpr ⟨lw_p13, List.forall_mem_cons.mpr ⟨lw_p14, List.forall_mem_cons.mpr ⟨lw_p15, fun _ h => absurd h List.not_mem_nil⟩⟩⟩⟩⟩⟩⟩⟩⟩⟩⟩⟩⟩⟩⟩⟩
theorem lw_p16 : lw_okq (⟨"CardLink$Line", "readerOnAnswer", "()I"⟩, 18) := ⟨⟨by decide +kernel, by decide +kernel⟩, List.mem_of_getElem? (i := 84) (by decide +kernel), List.mem_of_getElem? (i := 624) (by decide +kernel), List.mem_of_getElem? (i := 625) (by decide +kernel)⟩
theorem lw_p17 : lw_okq (⟨"CardLink$Line", "isAnswerTo", "(LCardLink$Side;)Z"⟩, 18) := ⟨⟨by decide +kernel, by decide +kernel⟩, List.mem_of_getElem? (i := 84) (by decide +kernel), List.mem_of_getElem? (i := 628) (by decide +kernel), List.mem_of_getElem? (i := 629) (by decide +kernel)⟩
theorem lw_p18 : lw_okq (⟨"CardLink$Line", "finish", "(I)I"⟩, 18) := ⟨⟨by decide +kernel, by decide +kernel⟩, List.mem_of_getElem? (i := 84) (by decide +kernel), List.mem_of_getElem? (i := 633) (by decide +kernel), List.mem_of_getElem? (i := 634) (by decide +kernel)⟩
theorem lw_p19 : lw_okq (⟨"CardLink$Line", "onRequest", "(LCardLink$Side;LCardLink$Side;I)I"⟩, 18) := ⟨⟨by decide +kernel, by decide +kernel⟩, List.mem_of_getElem? (i := 84) (by decide +kernel), List.mem_of_getElem? (i := 637) (by decide +kernel), List.mem_of_getElem? (i := 638) (by decide +kernel)⟩
theorem lw_p20 : lw_okq (⟨"CardLink$Line", "refuse", "(LCardLink$Side;)I"⟩, 18) := ⟨⟨by decide +kernel, by decide +kernel⟩, List.mem_of_getElem? (i := 84) (by decide +kernel), List.mem_of_getElem? (i := 649) (by decide +kernel), List.mem_of_getElem? (i := 650) (by decide +kernel)⟩
theorem lw_p21 : lw_okq (⟨"CardLink$Line", "onI", "(LCardLink$Side;I)I"⟩, 18) := ⟨⟨by decide +kernel, by decide +kernel⟩, List.mem_of_getElem? (i := 84) (by decide +kernel), List.mem_of_getElem? (i := 653) (by decide +kernel), List.mem_of_getElem? (i := 654) (by decide +kernel)⟩
theorem lw_p22 : lw_okq (⟨"CardLink$Line", "onReceipt", "(LCardLink$Side;I)I"⟩, 18) := ⟨⟨by decide +kernel, by decide +kernel⟩, List.mem_of_getElem? (i := 84) (by decide +kernel), List.mem_of_getElem? (i := 678) (by decide +kernel), List.mem_of_getElem? (i := 679) (by decide +kernel)⟩
theorem lw_p23 : lw_okq (⟨"CardLink$Line", "countTries", "(I)I"⟩, 18) := ⟨⟨by decide +kernel, by decide +kernel⟩, List.mem_of_getElem? (i := 84) (by decide +kernel), List.mem_of_getElem? (i := 690) (by decide +kernel), List.mem_of_getElem? (i := 691) (by decide +kernel)⟩
theorem lw_p24 : lw_okq (⟨"CardLink$Line", "send", "(LCardLink$Side;LCardLink$Side;I)V"⟩, 18) := ⟨⟨by decide +kernel, by decide +kernel⟩, List.mem_of_getElem? (i := 84) (by decide +kernel), List.mem_of_getElem? (i := 694) (by decide +kernel), List.mem_of_getElem? (i := 695) (by decide +kernel)⟩
theorem lw_p25 : lw_okq (⟨"CardLink$Line", "compose", "(LCardLink$Side;I)V"⟩, 18) := ⟨⟨by decide +kernel, by decide +kernel⟩, List.mem_of_getElem? (i := 84) (by decide +kernel), List.mem_of_getElem? (i := 708) (by decide +kernel), List.mem_of_getElem? (i := 709) (by decide +kernel)⟩
theorem lw_p26 : lw_okq (⟨"CardLink$Wire", "sendLetter", "()I"⟩, 10) := ⟨⟨by decide +kernel, by decide +kernel⟩, List.mem_of_getElem? (i := 156) (by decide +kernel), List.mem_of_getElem? (i := 735) (by decide +kernel), List.mem_of_getElem? (i := 736) (by decide +kernel)⟩
theorem lw_p27 : lw_okq (⟨"CardLink$Wire", "dropNearest", "()V"⟩, 10) := ⟨⟨by decide +kernel, by decide +kernel⟩, List.mem_of_getElem? (i := 156) (by decide +kernel), List.mem_of_getElem? (i := 739) (by decide +kernel), List.mem_of_getElem? (i := 740) (by decide +kernel)⟩
theorem lw_p28 : lw_okq (⟨"CardLink$Line", "judge", "(II)I"⟩, 18) := ⟨⟨by decide +kernel, by decide +kernel⟩, List.mem_of_getElem? (i := 84) (by decide +kernel), List.mem_of_getElem? (i := 745) (by decide +kernel), List.mem_of_getElem? (i := 746) (by decide +kernel)⟩
theorem lw_p29 : lw_okq (⟨"CardLink$Line", "isWellFormed", "(III)Z"⟩, 18) := ⟨⟨by decide +kernel, by decide +kernel⟩, List.mem_of_getElem? (i := 84) (by decide +kernel), List.mem_of_getElem? (i := 749) (by decide +kernel), List.mem_of_getElem? (i := 750) (by decide +kernel)⟩
theorem lw_p30 : lw_okq (⟨"CardLink$Journal", "isBlock", "(IILCardLink$Row;)Z"⟩, 9) := ⟨⟨by decide +kernel, by decide +kernel⟩, List.mem_of_getElem? (i := 46) (by decide +kernel), List.mem_of_getElem? (i := 763) (by decide +kernel), List.mem_of_getElem? (i := 764) (by decide +kernel)⟩
theorem lw_p31 : lw_okq (⟨"CardLink$Journal", "addUnlike", "(ILCardLink$Row;I)I"⟩, 9) := ⟨⟨by decide +kernel, by decide +kernel⟩, List.mem_of_getElem? (i := 46) (by decide +kernel), List.mem_of_getElem? (i := 767) (by decide +kernel), List.mem_of_getElem? (i := 768) (by decide +kernel)⟩
def lw_privs_2 : List (MethodName × Nat) := [(⟨"CardLink$Line", "readerOnAnswer", "()I"⟩, 18), (⟨"CardLink$Line", "isAnswerTo", "(LCardLink$Side;)Z"⟩, 18), (⟨"CardLink$Line", "finish", "(I)I"⟩, 18), (⟨"CardLink$Line", "onRequest", "(LCardLink$Side;LCardLink$Side;I)I"⟩, 18), (⟨"CardLink$Line", "refuse", "(LCardLink$Side;)I"⟩, 18), (⟨"CardLink$Line", "onI", "(LCardLink$Side;I)I"⟩, 18), (⟨"CardLink$Line", "onReceipt", "(LCardLink$Side;I)I"⟩, 18), (⟨"CardLink$Line", "countTries", "(I)I"⟩, 18), (⟨"CardLink$Line", "send", "(LCardLink$Side;LCardLink$Side;I)V"⟩, 18), (⟨"CardLink$Line", "compose", "(LCardLink$Side;I)V"⟩, 18), (⟨"CardLink$Wire", "sendLetter", "()I"⟩, 10), (⟨"CardLink$Wire", "dropNearest", "()V"⟩, 10), (⟨"CardLink$Line", "judge", "(II)I"⟩, 18), (⟨"CardLink$Line", "isWellFormed", "(III)Z"⟩, 18), (⟨"CardLink$Journal", "isBlock", "(IILCardLink$Row;)Z"⟩, 9), (⟨"CardLink$Journal", "addUnlike", "(ILCardLink$Row;I)I"⟩, 9)]
theorem lw_r2 : ∀ q ∈ lw_privs_2, lw_okq q := List.forall_mem_cons.mpr ⟨lw_p16, List.forall_mem_cons.mpr ⟨lw_p17, List.forall_mem_cons.mpr ⟨lw_p18, List.forall_mem_cons.mpr ⟨lw_p19, List.forall_mem_cons.mpr ⟨lw_p20, List.forall_mem_cons.mpr ⟨lw_p21, List.forall_mem_cons.mpr ⟨lw_p22, List.forall_mem_cons.mpr ⟨lw_p23, List.forall_mem_cons.mpr ⟨lw_p24, List.forall_mem_cons.mpr ⟨lw_p25, List.forall_mem_cons.mpr ⟨lw_p26, List.forall_mem_cons.mpr ⟨lw_p27, List.forall_mem_cons.mpr ⟨lw_p28, List.forall_mem_cons.mpr ⟨lw_p29, List.forall_mem_cons.mpr ⟨lw_p30, List.forall_mem_cons.mpr ⟨lw_p31, fun _ h => absurd h List.not_mem_nil⟩⟩⟩⟩⟩⟩⟩⟩⟩⟩⟩⟩⟩⟩⟩⟩
theorem lw_p32 : lw_okq (⟨"CardLink$Line", "cardKind", "()I"⟩, 18) := ⟨⟨by decide +kernel, by decide +kernel⟩, List.mem_of_getElem? (i := 84) (by decide +kernel), List.mem_of_getElem? (i := 779) (by decide +kernel), List.mem_of_getElem? (i := 780) (by decide +kernel)⟩
theorem lw_p33 : lw_okq (⟨"CardLink$Line", "putFirstByte", "()I"⟩, 18) := ⟨⟨by decide +kernel, by decide +kernel⟩, List.mem_of_getElem? (i := 84) (by decide +kernel), List.mem_of_getElem? (i := 783) (by decide +kernel), List.mem_of_getElem? (i := 784) (by decide +kernel)⟩
theorem lw_p34 : lw_okq (⟨"CardLink$Line", "cardOnAnswer", "()I"⟩, 18) := ⟨⟨by decide +kernel, by decide +kernel⟩, List.mem_of_getElem? (i := 84) (by decide +kernel), List.mem_of_getElem? (i := 787) (by decide +kernel), List.mem_of_getElem? (i := 788) (by decide +kernel)⟩
theorem lw_p35 : lw_okq (⟨"CardLink$Line", "putBehindThird", "()I"⟩, 18) := ⟨⟨by decide +kernel, by decide +kernel⟩, List.mem_of_getElem? (i := 84) (by decide +kernel), List.mem_of_getElem? (i := 791) (by decide +kernel), List.mem_of_getElem? (i := 792) (by decide +kernel)⟩
theorem lw_p36 : lw_okq (⟨"CardLink$Line", "doMessage", "()I"⟩, 18) := ⟨⟨by decide +kernel, by decide +kernel⟩, List.mem_of_getElem? (i := 84) (by decide +kernel), List.mem_of_getElem? (i := 795) (by decide +kernel), List.mem_of_getElem? (i := 796) (by decide +kernel)⟩
theorem lw_p37 : lw_okq (⟨"CardLink$Line", "putCounting", "(I)I"⟩, 18) := ⟨⟨by decide +kernel, by decide +kernel⟩, List.mem_of_getElem? (i := 84) (by decide +kernel), List.mem_of_getElem? (i := 799) (by decide +kernel), List.mem_of_getElem? (i := 800) (by decide +kernel)⟩
theorem lw_p38 : lw_okq (⟨"CardLink", "sideOf", "(I)LCardLink$Side;"⟩, 7) := ⟨⟨by decide +kernel, by decide +kernel⟩, List.mem_of_getElem? (i := 18) (by decide +kernel), List.mem_of_getElem? (i := 811) (by decide +kernel), List.mem_of_getElem? (i := 812) (by decide +kernel)⟩
theorem lw_p39 : lw_okq (⟨"CardLink$Journal", "placeOf", "(I)I"⟩, 9) := ⟨⟨by decide +kernel, by decide +kernel⟩, List.mem_of_getElem? (i := 46) (by decide +kernel), List.mem_of_getElem? (i := 836) (by decide +kernel), List.mem_of_getElem? (i := 837) (by decide +kernel)⟩
theorem lw_p40 : lw_okq (⟨"CardLink$Forecast", "forkIsHarmed", "()Z"⟩, 7) := ⟨⟨by decide +kernel, by decide +kernel⟩, List.mem_of_getElem? (i := 266) (by decide +kernel), List.mem_of_getElem? (i := 874) (by decide +kernel), List.mem_of_getElem? (i := 875) (by decide +kernel)⟩
theorem lw_p41 : lw_okq (⟨"java/lang/Throwable", "fillInStackTrace", "(I)Ljava/lang/Throwable;"⟩, 6) := ⟨⟨by decide +kernel, by decide +kernel⟩, List.mem_of_getElem? (i := 942) (by decide +kernel), List.mem_of_getElem? (i := 940) (by decide +kernel), List.mem_of_getElem? (i := 941) (by decide +kernel)⟩
theorem lw_p42 : lw_okq (⟨"CardLinkModel", "begins", "()V"⟩, 39) := ⟨⟨by decide +kernel, by decide +kernel⟩, List.mem_of_getElem? (i := 971) (by decide +kernel), List.mem_of_getElem? (i := 978) (by decide +kernel), List.mem_of_getElem? (i := 979) (by decide +kernel)⟩
theorem lw_p43 : lw_okq (⟨"CardLinkModel", "eight", "(J)V"⟩, 39) := ⟨⟨by decide +kernel, by decide +kernel⟩, List.mem_of_getElem? (i := 971) (by decide +kernel), List.mem_of_getElem? (i := 1108) (by decide +kernel), List.mem_of_getElem? (i := 1109) (by decide +kernel)⟩
theorem lw_p44 : lw_okq (⟨"CardLinkModel", "byteNext", "()I"⟩, 39) := ⟨⟨by decide +kernel, by decide +kernel⟩, List.mem_of_getElem? (i := 971) (by decide +kernel), List.mem_of_getElem? (i := 1123) (by decide +kernel), List.mem_of_getElem? (i := 1124) (by decide +kernel)⟩
theorem lw_p45 : lw_okq (⟨"CardLinkModel", "wrong", "(II)V"⟩, 39) := ⟨⟨by decide +kernel, by decide +kernel⟩, List.mem_of_getElem? (i := 971) (by decide +kernel), List.mem_of_getElem? (i := 1127) (by decide +kernel), List.mem_of_getElem? (i := 1128) (by decide +kernel)⟩
theorem lw_p46 : lw_okq (⟨"CardLinkModel", "groupsTold", "(I)V"⟩, 39) := ⟨⟨by decide +kernel, by decide +kernel⟩, List.mem_of_getElem? (i := 971) (by decide +kernel), List.mem_of_getElem? (i := 1131) (by decide +kernel), List.mem_of_getElem? (i := 1132) (by decide +kernel)⟩
theorem lw_p47 : lw_okq (⟨"CardLinkModel", "groupTold", "(II)I"⟩, 39) := ⟨⟨by decide +kernel, by decide +kernel⟩, List.mem_of_getElem? (i := 971) (by decide +kernel), List.mem_of_getElem? (i := 1135) (by decide +kernel), List.mem_of_getElem? (i := 1136) (by decide +kernel)⟩
def lw_privs_3 : List (MethodName × Nat) := [(⟨"CardLink$Line", "cardKind", "()I"⟩, 18), (⟨"CardLink$Line", "putFirstByte", "()I"⟩, 18), (⟨"CardLink$Line", "cardOnAnswer", "()I"⟩, 18), (⟨"CardLink$Line", "putBehindThird", "()I"⟩, 18), (⟨"CardLink$Line", "doMessage", "()I"⟩, 18), (⟨"CardLink$Line", "putCounting", "(I)I"⟩, 18), (⟨"CardLink", "sideOf", "(I)LCardLink$Side;"⟩, 7), (⟨"CardLink$Journal", "placeOf", "(I)I"⟩, 9), (⟨"CardLink$Forecast", "forkIsHarmed", "()Z"⟩, 7), (⟨"java/lang/Throwable", "fillInStackTrace", "(I)Ljava/lang/Throwable;"⟩, 6), (⟨"CardLinkModel", "begins", "()V"⟩, 39), (⟨"CardLinkModel", "eight", "(J)V"⟩, 39), (⟨"CardLinkModel", "byteNext", "()I"⟩, 39), (⟨"CardLinkModel", "wrong", "(II)V"⟩, 39), (⟨"CardLinkModel", "groupsTold", "(I)V"⟩, 39), (⟨"CardLinkModel", "groupTold", "(II)I"⟩, 39)]
theorem lw_r3 : ∀ q ∈ lw_privs_3, lw_okq q := List.forall_mem_cons.mpr ⟨lw_p32, List.forall_mem_cons.mpr ⟨lw_p33, List.forall_mem_cons.mpr ⟨lw_p34, List.forall_mem_cons.mpr ⟨lw_p35, List.forall_mem_cons.mpr ⟨lw_p36, List.forall_mem_cons.mpr ⟨lw_p37, List.forall_mem_cons.mpr ⟨lw_p38, List.forall_mem_cons.mpr ⟨lw_p39, List.forall_mem_cons.mpr ⟨lw_p40, List.forall_mem_cons.mpr ⟨lw_p41, List.forall_mem_cons.mpr ⟨lw_p42, List.forall_mem_cons.mpr ⟨lw_p43, List.forall_mem_cons.mpr ⟨lw_p44, List.forall_mem_cons.mpr ⟨lw_p45, List.forall_mem_cons.mpr ⟨lw_p46, List.forall_mem_cons.mpr ⟨lw_p47, fun _ h => absurd h List.not_mem_nil⟩⟩⟩⟩⟩⟩⟩⟩⟩⟩⟩⟩⟩⟩⟩⟩
theorem lw_p48 : lw_okq (⟨"CardLinkModel", "factor", "()V"⟩, 39) := ⟨⟨by decide +kernel, by decide +kernel⟩, List.mem_of_getElem? (i := 971) (by decide +kernel), List.mem_of_getElem? (i := 1139) (by decide +kernel), List.mem_of_getElem? (i := 1140) (by decide +kernel)⟩
theorem lw_p49 : lw_okq (⟨"CardLinkModel", "window", "()V"⟩, 39) := ⟨⟨by decide +kernel, by decide +kernel⟩, List.mem_of_getElem? (i := 971) (by decide +kernel), List.mem_of_getElem? (i := 1149) (by decide +kernel), List.mem_of_getElem? (i := 1150) (by decide +kernel)⟩
theorem lw_p50 : lw_okq (⟨"CardLinkModel", "checks", "()V"⟩, 39) := ⟨⟨by decide +kernel, by decide +kernel⟩, List.mem_of_getElem? (i := 971) (by decide +kernel), List.mem_of_getElem? (i := 1153) (by decide +kernel), List.mem_of_getElem? (i := 1154) (by decide +kernel)⟩
theorem lw_p51 : lw_okq (⟨"CardLinkModel", "canBegin", "()Z"⟩, 39) := ⟨⟨by decide +kernel, by decide +kernel⟩, List.mem_of_getElem? (i := 971) (by decide +kernel), List.mem_of_getElem? (i := 1169) (by decide +kernel), List.mem_of_getElem? (i := 1170) (by decide +kernel)⟩
theorem lw_p52 : lw_okq (⟨"CardLinkModel", "starts", "(I)V"⟩, 39) := ⟨⟨by decide +kernel, by decide +kernel⟩, List.mem_of_getElem? (i := 971) (by decide +kernel), List.mem_of_getElem? (i := 1173) (by decide +kernel), List.mem_of_getElem? (i := 1174) (by decide +kernel)⟩
theorem lw_p53 : lw_okq (⟨"CardLinkModel", "passes", "()V"⟩, 39) := ⟨⟨by decide +kernel, by decide +kernel⟩, List.mem_of_getElem? (i := 971) (by decide +kernel), List.mem_of_getElem? (i := 1185) (by decide +kernel), List.mem_of_getElem? (i := 1186) (by decide +kernel)⟩
theorem lw_p54 : lw_okq (⟨"CardLinkModel", "faultAt", "(I)I"⟩, 39) := ⟨⟨by decide +kernel, by decide +kernel⟩, List.mem_of_getElem? (i := 971) (by decide +kernel), List.mem_of_getElem? (i := 1189) (by decide +kernel), List.mem_of_getElem? (i := 1190) (by decide +kernel)⟩
theorem lw_p55 : lw_okq (⟨"CardLinkModel", "putsFault", "(III)V"⟩, 39) := ⟨⟨by decide +kernel, by decide +kernel⟩, List.mem_of_getElem? (i := 971) (by decide +kernel), List.mem_of_getElem? (i := 1193) (by decide +kernel), List.mem_of_getElem? (i := 1194) (by decide +kernel)⟩
theorem lw_p56 : lw_okq (⟨"CardLinkModel", "turns", "()I"⟩, 39) := ⟨⟨by decide +kernel, by decide +kernel⟩, List.mem_of_getElem? (i := 971) (by decide +kernel), List.mem_of_getElem? (i := 1205) (by decide +kernel), List.mem_of_getElem? (i := 1206) (by decide +kernel)⟩
theorem lw_p57 : lw_okq (⟨"CardLinkModel", "sendsOut", "(I)V"⟩, 39) := ⟨⟨by decide +kernel, by decide +kernel⟩, List.mem_of_getElem? (i := 971) (by decide +kernel), List.mem_of_getElem? (i := 1209) (by decide +kernel), List.mem_of_getElem? (i := 1210) (by decide +kernel)⟩
theorem lw_p58 : lw_okq (⟨"CardLinkModel", "sendsPending", "(I)V"⟩, 39) := ⟨⟨by decide +kernel, by decide +kernel⟩, List.mem_of_getElem? (i := 971) (by decide +kernel), List.mem_of_getElem? (i := 1213) (by decide +kernel), List.mem_of_getElem? (i := 1214) (by decide +kernel)⟩
theorem lw_p59 : lw_okq (⟨"CardLinkModel", "sends", "(III)V"⟩, 39) := ⟨⟨by decide +kernel, by decide +kernel⟩, List.mem_of_getElem? (i := 971) (by decide +kernel), List.mem_of_getElem? (i := 1217) (by decide +kernel), List.mem_of_getElem? (i := 1218) (by decide +kernel)⟩
theorem lw_p60 : lw_okq (⟨"CardLinkModel", "carries", "(I)V"⟩, 39) := ⟨⟨by decide +kernel, by decide +kernel⟩, List.mem_of_getElem? (i := 971) (by decide +kernel), List.mem_of_getElem? (i := 1221) (by decide +kernel), List.mem_of_getElem? (i := 1222) (by decide +kernel)⟩
theorem lw_p61 : lw_okq (⟨"CardLinkModel", "howCame", "(I)I"⟩, 39) := ⟨⟨by decide +kernel, by decide +kernel⟩, List.mem_of_getElem? (i := 971) (by decide +kernel), List.mem_of_getElem? (i := 1225) (by decide +kernel), List.mem_of_getElem? (i := 1226) (by decide +kernel)⟩
theorem lw_p62 : lw_okq (⟨"CardLinkModel", "isShaped", "(I)Z"⟩, 39) := ⟨⟨by decide +kernel, by decide +kernel⟩, List.mem_of_getElem? (i := 971) (by decide +kernel), List.mem_of_getElem? (i := 1229) (by decide +kernel), List.mem_of_getElem? (i := 1230) (by decide +kernel)⟩
theorem lw_p63 : lw_okq (⟨"CardLinkModel", "logs", "(II)V"⟩, 39) := ⟨⟨by decide +kernel, by decide +kernel⟩, List.mem_of_getElem? (i := 971) (by decide +kernel), List.mem_of_getElem? (i := 1233) (by decide +kernel), List.mem_of_getElem? (i := 1234) (by decide +kernel)⟩
def lw_privs_4 : List (MethodName × Nat) := [(⟨"CardLinkModel", "factor", "()V"⟩, 39), (⟨"CardLinkModel", "window", "()V"⟩, 39), (⟨"CardLinkModel", "checks", "()V"⟩, 39), (⟨"CardLinkModel", "canBegin", "()Z"⟩, 39), (⟨"CardLinkModel", "starts", "(I)V"⟩, 39), (⟨"CardLinkModel", "passes", "()V"⟩, 39), (⟨"CardLinkModel", "faultAt", "(I)I"⟩, 39), (⟨"CardLinkModel", "putsFault", "(III)V"⟩, 39), (⟨"CardLinkModel", "turns", "()I"⟩, 39), (⟨"CardLinkModel", "sendsOut", "(I)V"⟩, 39), (⟨"CardLinkModel", "sendsPending", "(I)V"⟩, 39), (⟨"CardLinkModel", "sends", "(III)V"⟩, 39), (⟨"CardLinkModel", "carries", "(I)V"⟩, 39), (⟨"CardLinkModel", "howCame", "(I)I"⟩, 39), (⟨"CardLinkModel", "isShaped", "(I)Z"⟩, 39), (⟨"CardLinkModel", "logs", "(II)V"⟩, 39)]
theorem lw_r4 : ∀ q ∈ lw_privs_4, lw_okq q := List.forall_mem_cons.mpr ⟨lw_p48, List.forall_mem_cons.mpr ⟨lw_p49, List.forall_mem_cons.mpr ⟨lw_p50, List.forall_mem_cons.mpr ⟨lw_p51, List.forall_mem_cons.mpr ⟨lw_p52, List.forall_mem_cons.mpr ⟨lw_p53, List.forall_mem_cons.mpr ⟨lw_p54, List.forall_mem_cons.mpr ⟨lw_p55, List.forall_mem_cons.mpr ⟨lw_p56, List.forall_mem_cons.mpr ⟨lw_p57, List.forall_mem_cons.mpr ⟨lw_p58, List.forall_mem_cons.mpr ⟨lw_p59, List.forall_mem_cons.mpr ⟨lw_p60, List.forall_mem_cons.mpr ⟨lw_p61, List.forall_mem_cons.mpr ⟨lw_p62, List.forall_mem_cons.mpr ⟨lw_p63, fun _ h => absurd h List.not_mem_nil⟩⟩⟩⟩⟩⟩⟩⟩⟩⟩⟩⟩⟩⟩⟩⟩
theorem lw_p64 : lw_okq (⟨"CardLinkModel", "unlikeOf", "(I)I"⟩, 39) := ⟨⟨by decide +kernel, by decide +kernel⟩, List.mem_of_getElem? (i := 971) (by decide +kernel), List.mem_of_getElem? (i := 1237) (by decide +kernel), List.mem_of_getElem? (i := 1238) (by decide +kernel)⟩
theorem lw_p65 : lw_okq (⟨"CardLinkModel", "isAlike", "(II)Z"⟩, 39) := ⟨⟨by decide +kernel, by decide +kernel⟩, List.mem_of_getElem? (i := 971) (by decide +kernel), List.mem_of_getElem? (i := 1241) (by decide +kernel), List.mem_of_getElem? (i := 1242) (by decide +kernel)⟩
theorem lw_p66 : lw_okq (⟨"CardLinkModel", "asks", "(III)V"⟩, 39) := ⟨⟨by decide +kernel, by decide +kernel⟩, List.mem_of_getElem? (i := 971) (by decide +kernel), List.mem_of_getElem? (i := 1245) (by decide +kernel), List.mem_of_getElem? (i := 1246) (by decide +kernel)⟩
theorem lw_p67 : lw_okq (⟨"CardLinkModel", "sendsAsked", "(I)V"⟩, 39) := ⟨⟨by decide +kernel, by decide +kernel⟩, List.mem_of_getElem? (i := 971) (by decide +kernel), List.mem_of_getElem? (i := 1249) (by decide +kernel), List.mem_of_getElem? (i := 1250) (by decide +kernel)⟩
theorem lw_p68 : lw_okq (⟨"CardLinkModel", "bringsCame", "()V"⟩, 39) := ⟨⟨by decide +kernel, by decide +kernel⟩, List.mem_of_getElem? (i := 971) (by decide +kernel), List.mem_of_getElem? (i := 1253) (by decide +kernel), List.mem_of_getElem? (i := 1254) (by decide +kernel)⟩
theorem lw_p69 : lw_okq (⟨"CardLinkModel", "readerGets", "()V"⟩, 39) := ⟨⟨by decide +kernel, by decide +kernel⟩, List.mem_of_getElem? (i := 971) (by decide +kernel), List.mem_of_getElem? (i := 1257) (by decide +kernel), List.mem_of_getElem? (i := 1258) (by decide +kernel)⟩
theorem lw_p70 : lw_okq (⟨"CardLinkModel", "tries", "(II)V"⟩, 39) := ⟨⟨by decide +kernel, by decide +kernel⟩, List.mem_of_getElem? (i := 971) (by decide +kernel), List.mem_of_getElem? (i := 1261) (by decide +kernel), List.mem_of_getElem? (i := 1262) (by decide +kernel)⟩
theorem lw_p71 : lw_okq (⟨"CardLinkModel", "isResponse", "(I)Z"⟩, 39) := ⟨⟨by decide +kernel, by decide +kernel⟩, List.mem_of_getElem? (i := 971) (by decide +kernel), List.mem_of_getElem? (i := 1265) (by decide +kernel), List.mem_of_getElem? (i := 1266) (by decide +kernel)⟩
theorem lw_p72 : lw_okq (⟨"CardLinkModel", "readerAnswered", "()V"⟩, 39) := ⟨⟨by decide +kernel, by decide +kernel⟩, List.mem_of_getElem? (i := 971) (by decide +kernel), List.mem_of_getElem? (i := 1269) (by decide +kernel), List.mem_of_getElem? (i := 1270) (by decide +kernel)⟩
theorem lw_p73 : lw_okq (⟨"CardLinkModel", "done", "()V"⟩, 39) := ⟨⟨by decide +kernel, by decide +kernel⟩, List.mem_of_getElem? (i := 971) (by decide +kernel), List.mem_of_getElem? (i := 1273) (by decide +kernel), List.mem_of_getElem? (i := 1274) (by decide +kernel)⟩
theorem lw_p74 : lw_okq (⟨"CardLinkModel", "resynchs", "(I)V"⟩, 39) := ⟨⟨by decide +kernel, by decide +kernel⟩, List.mem_of_getElem? (i := 971) (by decide +kernel), List.mem_of_getElem? (i := 1277) (by decide +kernel), List.mem_of_getElem? (i := 1278) (by decide +kernel)⟩
theorem lw_p75 : lw_okq (⟨"CardLinkModel", "empties", "(I)V"⟩, 39) := ⟨⟨by decide +kernel, by decide +kernel⟩, List.mem_of_getElem? (i := 971) (by decide +kernel), List.mem_of_getElem? (i := 1281) (by decide +kernel), List.mem_of_getElem? (i := 1282) (by decide +kernel)⟩
theorem lw_p76 : lw_okq (⟨"CardLinkModel", "takes", "(I)Z"⟩, 39) := ⟨⟨by decide +kernel, by decide +kernel⟩, List.mem_of_getElem? (i := 971) (by decide +kernel), List.mem_of_getElem? (i := 1285) (by decide +kernel), List.mem_of_getElem? (i := 1286) (by decide +kernel)⟩
theorem lw_p77 : lw_okq (⟨"CardLinkModel", "isThrough", "(I)V"⟩, 39) := ⟨⟨by decide +kernel, by decide +kernel⟩, List.mem_of_getElem? (i := 971) (by decide +kernel), List.mem_of_getElem? (i := 1289) (by decide +kernel), List.mem_of_getElem? (i := 1290) (by decide +kernel)⟩
theorem lw_p78 : lw_okq (⟨"CardLinkModel", "hasMoreCome", "()Z"⟩, 39) := ⟨⟨by decide +kernel, by decide +kernel⟩, List.mem_of_getElem? (i := 971) (by decide +kernel), List.mem_of_getElem? (i := 1293) (by decide +kernel), List.mem_of_getElem? (i := 1294) (by decide +kernel)⟩
theorem lw_p79 : lw_okq (⟨"CardLinkModel", "sendsR", "(II)V"⟩, 39) := ⟨⟨by decide +kernel, by decide +kernel⟩, List.mem_of_getElem? (i := 971) (by decide +kernel), List.mem_of_getElem? (i := 1297) (by decide +kernel), List.mem_of_getElem? (i := 1298) (by decide +kernel)⟩
def lw_privs_5 : List (MethodName × Nat) := [(⟨"CardLinkModel", "unlikeOf", "(I)I"⟩, 39), (⟨"CardLinkModel", "isAlike", "(II)Z"⟩, 39), (⟨"CardLinkModel", "asks", "(III)V"⟩, 39), (⟨"CardLinkModel", "sendsAsked", "(I)V"⟩, 39), (⟨"CardLinkModel", "bringsCame", "()V"⟩, 39), (⟨"CardLinkModel", "readerGets", "()V"⟩, 39), (⟨"CardLinkModel", "tries", "(II)V"⟩, 39), (⟨"CardLinkModel", "isResponse", "(I)Z"⟩, 39), (⟨"CardLinkModel", "readerAnswered", "()V"⟩, 39), (⟨"CardLinkModel", "done", "()V"⟩, 39), (⟨"CardLinkModel", "resynchs", "(I)V"⟩, 39), (⟨"CardLinkModel", "empties", "(I)V"⟩, 39), (⟨"CardLinkModel", "takes", "(I)Z"⟩, 39), (⟨"CardLinkModel", "isThrough", "(I)V"⟩, 39), (⟨"CardLinkModel", "hasMoreCome", "()Z"⟩, 39), (⟨"CardLinkModel", "sendsR", "(II)V"⟩, 39)]
theorem lw_r5 : ∀ q ∈ lw_privs_5, lw_okq q := List.forall_mem_cons.mpr ⟨lw_p64, List.forall_mem_cons.mpr ⟨lw_p65, List.forall_mem_cons.mpr ⟨lw_p66, List.forall_mem_cons.mpr ⟨lw_p67, List.forall_mem_cons.mpr ⟨lw_p68, List.forall_mem_cons.mpr ⟨lw_p69, List.forall_mem_cons.mpr ⟨lw_p70, List.forall_mem_cons.mpr ⟨lw_p71, List.forall_mem_cons.mpr ⟨lw_p72, List.forall_mem_cons.mpr ⟨lw_p73, List.forall_mem_cons.mpr ⟨lw_p74, List.forall_mem_cons.mpr ⟨lw_p75, List.forall_mem_cons.mpr ⟨lw_p76, List.forall_mem_cons.mpr ⟨lw_p77, List.forall_mem_cons.mpr ⟨lw_p78, List.forall_mem_cons.mpr ⟨lw_p79, fun _ h => absurd h List.not_mem_nil⟩⟩⟩⟩⟩⟩⟩⟩⟩⟩⟩⟩⟩⟩⟩⟩
theorem lw_p80 : lw_okq (⟨"CardLinkModel", "messageCame", "(I)V"⟩, 39) := ⟨⟨by decide +kernel, by decide +kernel⟩, List.mem_of_getElem? (i := 971) (by decide +kernel), List.mem_of_getElem? (i := 1301) (by decide +kernel), List.mem_of_getElem? (i := 1302) (by decide +kernel)⟩
theorem lw_p81 : lw_okq (⟨"CardLinkModel", "readerTold", "()V"⟩, 39) := ⟨⟨by decide +kernel, by decide +kernel⟩, List.mem_of_getElem? (i := 971) (by decide +kernel), List.mem_of_getElem? (i := 1305) (by decide +kernel), List.mem_of_getElem? (i := 1306) (by decide +kernel)⟩
theorem lw_p82 : lw_okq (⟨"CardLinkModel", "wantsAgain", "(I)Z"⟩, 39) := ⟨⟨by decide +kernel, by decide +kernel⟩, List.mem_of_getElem? (i := 971) (by decide +kernel), List.mem_of_getElem? (i := 1309) (by decide +kernel), List.mem_of_getElem? (i := 1310) (by decide +kernel)⟩
theorem lw_p83 : lw_okq (⟨"CardLinkModel", "goesOn", "(I)V"⟩, 39) := ⟨⟨by decide +kernel, by decide +kernel⟩, List.mem_of_getElem? (i := 971) (by decide +kernel), List.mem_of_getElem? (i := 1313) (by decide +kernel), List.mem_of_getElem? (i := 1314) (by decide +kernel)⟩
theorem lw_p84 : lw_okq (⟨"CardLinkModel", "readerAsked", "()V"⟩, 39) := ⟨⟨by decide +kernel, by decide +kernel⟩, List.mem_of_getElem? (i := 971) (by decide +kernel), List.mem_of_getElem? (i := 1317) (by decide +kernel), List.mem_of_getElem? (i := 1318) (by decide +kernel)⟩
theorem lw_p85 : lw_okq (⟨"CardLinkModel", "responds", "(I)V"⟩, 39) := ⟨⟨by decide +kernel, by decide +kernel⟩, List.mem_of_getElem? (i := 971) (by decide +kernel), List.mem_of_getElem? (i := 1321) (by decide +kernel), List.mem_of_getElem? (i := 1322) (by decide +kernel)⟩
theorem lw_p86 : lw_okq (⟨"CardLinkModel", "triesOn", "()V"⟩, 39) := ⟨⟨by decide +kernel, by decide +kernel⟩, List.mem_of_getElem? (i := 971) (by decide +kernel), List.mem_of_getElem? (i := 1325) (by decide +kernel), List.mem_of_getElem? (i := 1326) (by decide +kernel)⟩
theorem lw_p87 : lw_okq (⟨"CardLinkModel", "cardGets", "()V"⟩, 39) := ⟨⟨by decide +kernel, by decide +kernel⟩, List.mem_of_getElem? (i := 971) (by decide +kernel), List.mem_of_getElem? (i := 1329) (by decide +kernel), List.mem_of_getElem? (i := 1330) (by decide +kernel)⟩
theorem lw_p88 : lw_okq (⟨"CardLinkModel", "cardSends", "(II)V"⟩, 39) := ⟨⟨by decide +kernel, by decide +kernel⟩, List.mem_of_getElem? (i := 971) (by decide +kernel), List.mem_of_getElem? (i := 1333) (by decide +kernel), List.mem_of_getElem? (i := 1334) (by decide +kernel)⟩
theorem lw_p89 : lw_okq (⟨"CardLinkModel", "cardOut", "(II)V"⟩, 39) := ⟨⟨by decide +kernel, by decide +kernel⟩, List.mem_of_getElem? (i := 971) (by decide +kernel), List.mem_of_getElem? (i := 1337) (by decide +kernel), List.mem_of_getElem? (i := 1338) (by decide +kernel)⟩
theorem lw_p90 : lw_okq (⟨"CardLinkModel", "cardAnswered", "()V"⟩, 39) := ⟨⟨by decide +kernel, by decide +kernel⟩, List.mem_of_getElem? (i := 971) (by decide +kernel), List.mem_of_getElem? (i := 1341) (by decide +kernel), List.mem_of_getElem? (i := 1342) (by decide +kernel)⟩
theorem lw_p91 : lw_okq (⟨"CardLinkModel", "cardWaits", "()V"⟩, 39) := ⟨⟨by decide +kernel, by decide +kernel⟩, List.mem_of_getElem? (i := 971) (by decide +kernel), List.mem_of_getElem? (i := 1345) (by decide +kernel), List.mem_of_getElem? (i := 1346) (by decide +kernel)⟩
theorem lw_p92 : lw_okq (⟨"CardLinkModel", "cardDoes", "()V"⟩, 39) := ⟨⟨by decide +kernel, by decide +kernel⟩, List.mem_of_getElem? (i := 971) (by decide +kernel), List.mem_of_getElem? (i := 1349) (by decide +kernel), List.mem_of_getElem? (i := 1350) (by decide +kernel)⟩
theorem lw_p93 : lw_okq (⟨"CardLinkModel", "gotByte", "(II)I"⟩, 39) := ⟨⟨by decide +kernel, by decide +kernel⟩, List.mem_of_getElem? (i := 971) (by decide +kernel), List.mem_of_getElem? (i := 1353) (by decide +kernel), List.mem_of_getElem? (i := 1354) (by decide +kernel)⟩
theorem lw_p94 : lw_okq (⟨"CardLinkModel", "logPlace", "(I)I"⟩, 39) := ⟨⟨by decide +kernel, by decide +kernel⟩, List.mem_of_getElem? (i := 971) (by decide +kernel), List.mem_of_getElem? (i := 1375) (by decide +kernel), List.mem_of_getElem? (i := 1376) (by decide +kernel)⟩
theorem lw_p95 : lw_okq (⟨"CardLinkModel", "keeps", "()V"⟩, 39) := ⟨⟨by decide +kernel, by decide +kernel⟩, List.mem_of_getElem? (i := 971) (by decide +kernel), List.mem_of_getElem? (i := 1387) (by decide +kernel), List.mem_of_getElem? (i := 1388) (by decide +kernel)⟩
def lw_privs_6 : List (MethodName × Nat) := [(⟨"CardLinkModel", "messageCame", "(I)V"⟩, 39), (⟨"CardLinkModel", "readerTold", "()V"⟩, 39), (⟨"CardLinkModel", "wantsAgain", "(I)Z"⟩, 39), (⟨"CardLinkModel", "goesOn", "(I)V"⟩, 39), (⟨"CardLinkModel", "readerAsked", "()V"⟩, 39), (⟨"CardLinkModel", "responds", "(I)V"⟩, 39), (⟨"CardLinkModel", "triesOn", "()V"⟩, 39), (⟨"CardLinkModel", "cardGets", "()V"⟩, 39), (⟨"CardLinkModel", "cardSends", "(II)V"⟩, 39), (⟨"CardLinkModel", "cardOut", "(II)V"⟩, 39), (⟨"CardLinkModel", "cardAnswered", "()V"⟩, 39), (⟨"CardLinkModel", "cardWaits", "()V"⟩, 39), (⟨"CardLinkModel", "cardDoes", "()V"⟩, 39), (⟨"CardLinkModel", "gotByte", "(II)I"⟩, 39), (⟨"CardLinkModel", "logPlace", "(I)I"⟩, 39), (⟨"CardLinkModel", "keeps", "()V"⟩, 39)]
theorem lw_r6 : ∀ q ∈ lw_privs_6, lw_okq q := List.forall_mem_cons.mpr ⟨lw_p80, List.forall_mem_cons.mpr ⟨lw_p81, List.forall_mem_cons.mpr ⟨lw_p82, List.forall_mem_cons.mpr ⟨lw_p83, List.forall_mem_cons.mpr ⟨lw_p84, List.forall_mem_cons.mpr ⟨lw_p85, List.forall_mem_cons.mpr ⟨lw_p86, List.forall_mem_cons.mpr ⟨lw_p87, List.forall_mem_cons.mpr ⟨lw_p88, List.forall_mem_cons.mpr ⟨lw_p89, List.forall_mem_cons.mpr ⟨lw_p90, List.forall_mem_cons.mpr ⟨lw_p91, List.forall_mem_cons.mpr ⟨lw_p92, List.forall_mem_cons.mpr ⟨lw_p93, List.forall_mem_cons.mpr ⟨lw_p94, List.forall_mem_cons.mpr ⟨lw_p95, fun _ h => absurd h List.not_mem_nil⟩⟩⟩⟩⟩⟩⟩⟩⟩⟩⟩⟩⟩⟩⟩⟩
theorem lw_p96 : lw_okq (⟨"CardLinkModel", "triesOut", "()V"⟩, 39) := ⟨⟨by decide +kernel, by decide +kernel⟩, List.mem_of_getElem? (i := 971) (by decide +kernel), List.mem_of_getElem? (i := 1391) (by decide +kernel), List.mem_of_getElem? (i := 1392) (by decide +kernel)⟩
theorem lw_p97 : lw_okq (⟨"CardLinkModel", "comesBack", "()V"⟩, 39) := ⟨⟨by decide +kernel, by decide +kernel⟩, List.mem_of_getElem? (i := 971) (by decide +kernel), List.mem_of_getElem? (i := 1395) (by decide +kernel), List.mem_of_getElem? (i := 1396) (by decide +kernel)⟩
theorem lw_p98 : lw_okq (⟨"CardLinkModel", "isSame", "()Z"⟩, 39) := ⟨⟨by decide +kernel, by decide +kernel⟩, List.mem_of_getElem? (i := 971) (by decide +kernel), List.mem_of_getElem? (i := 1403) (by decide +kernel), List.mem_of_getElem? (i := 1404) (by decide +kernel)⟩
theorem lw_p99 : lw_okq (⟨"CardLinkModel", "faultsToCome", "()I"⟩, 39) := ⟨⟨by decide +kernel, by decide +kernel⟩, List.mem_of_getElem? (i := 971) (by decide +kernel), List.mem_of_getElem? (i := 1411) (by decide +kernel), List.mem_of_getElem? (i := 1412) (by decide +kernel)⟩
def lw_privs_7 : List (MethodName × Nat) := [(⟨"CardLinkModel", "triesOut", "()V"⟩, 39), (⟨"CardLinkModel", "comesBack", "()V"⟩, 39), (⟨"CardLinkModel", "isSame", "()Z"⟩, 39), (⟨"CardLinkModel", "faultsToCome", "()I"⟩, 39)]
theorem lw_r7 : ∀ q ∈ lw_privs_7, lw_okq q := List.forall_mem_cons.mpr ⟨lw_p96, List.forall_mem_cons.mpr ⟨lw_p97, List.forall_mem_cons.mpr ⟨lw_p98, List.forall_mem_cons.mpr ⟨lw_p99, fun _ h => absurd h List.not_mem_nil⟩⟩⟩⟩
def lw_privs : List (MethodName × Nat) := lw_privs_1 ++ (lw_privs_2 ++ (lw_privs_3 ++ (lw_privs_4 ++ (lw_privs_5 ++ (lw_privs_6 ++ (lw_privs_7))))))
def lw_tbl : List Cond := k2_sels lw_privs ++ tables_1
theorem lw_privs_ok : ∀ q ∈ lw_privs, lw_okq q := by
  show ∀ q ∈ lw_privs_1 ++ (lw_privs_2 ++ (lw_privs_3 ++ (lw_privs_4 ++ (lw_privs_5 ++ (lw_privs_6 ++ (lw_privs_7)))))), lw_okq q
  exact List.forall_mem_append.mpr ⟨lw_r1, List.forall_mem_append.mpr ⟨lw_r2, List.forall_mem_append.mpr ⟨lw_r3, List.forall_mem_append.mpr ⟨lw_r4, List.forall_mem_append.mpr ⟨lw_r5, List.forall_mem_append.mpr ⟨lw_r6, lw_r7⟩⟩⟩⟩⟩⟩
/-! ===== BEGIN printed: names, fields, word lists, decode rows ===== -/
def RX0 : String := "CardLink$Forecast"
def TX0 : u_T := fun k => match k with
  | 0 => ("CardLink$Forecast", "outlook", "LCardLink$Line;", true)
  | 1 => ("CardLink$Forecast", "walk", "LCardLink$Line;", true)
  | 2 => ("CardLink$Forecast", "fork", "LCardLink$Line;", true)
  | 3 => ("CardLink$Forecast", "outlookKnown", "Z", false)
  | 4 => ("CardLink$Forecast", "tried", "[I", true)
  | 5 => ("CardLink$Forecast", "harmful", "[I", true)
  | _ => ("CardLink$Forecast", "firsts", "[I", true)
def tyX0 : Nat → FieldType := fun k => match k with
  | 0 => .object "CardLink$Line"
  | 1 => .object "CardLink$Line"
  | 2 => .object "CardLink$Line"
  | 3 => .boolean
  | 4 => .array .int
  | 5 => .array .int
  | _ => .array .int
abbrev wsX00 : List Cond := u_ws RX0 TX0 7
theorem nmX0 : ∀ a, a < 7 → ∀ b, b < 7 → a ≠ b → (TX0 a).2.1 ≠ (TX0 b).2.1 := by decide +kernel
theorem tyX0_ok : ∀ k, k < 7 → parseFieldDescriptor (TX0 k).2.2.1 = some (tyX0 k) := by decide +kernel
abbrev cX0_init : ByteArray := prog_2_method_1_code
def yX0_init : MethodName := ⟨RX0, "<init>", "()V"⟩
abbrev cX0_forget : ByteArray := prog_2_method_2_code
def yX0_forget : MethodName := ⟨RX0, "forget", "()V"⟩
abbrev cX0_outlook : ByteArray := prog_2_method_3_code
def yX0_outlook : MethodName := ⟨RX0, "outlook", "(LCardLink$Line;)LCardLink$Line;"⟩
abbrev cX0_harmful : ByteArray := prog_2_method_4_code
def yX0_harmful : MethodName := ⟨RX0, "harmful", "(I)I"⟩
abbrev cX0_firstHarmful : ByteArray := prog_2_method_5_code
def yX0_firstHarmful : MethodName := ⟨RX0, "firstHarmful", "(I)I"⟩
abbrev cX0_tryAll : ByteArray := prog_2_method_6_code
def yX0_tryAll : MethodName := ⟨RX0, "tryAll", "(LCardLink$Line;I)V"⟩
abbrev cX0_forkIsHarmed : ByteArray := prog_2_method_7_code
def yX0_forkIsHarmed : MethodName := ⟨RX0, "forkIsHarmed", "()Z"⟩
def RX1 : String := "CardLink$Journal"
def TX1 : u_T := fun k => match k with
  | 0 => ("CardLink$Journal", "bytes", "LCardLink$Row;", true)
  | 1 => ("CardLink$Journal", "starts", "LCardLink$Row;", true)
  | 2 => ("CardLink$Journal", "times", "LCardLink$Row;", true)
  | 3 => ("CardLink$Journal", "following", "LCardLink$Row;", true)
  | 4 => ("CardLink$Journal", "chains", "LCardLink$Row;", true)
  | 5 => ("CardLink$Journal", "latest", "LCardLink$Row;", true)
  | 6 => ("CardLink$Journal", "outcomes", "LCardLink$Row;", true)
  | 7 => ("CardLink$Journal", "took", "LCardLink$Row;", true)
  | _ => ("CardLink$Journal", "newest", "I", false)
def tyX1 : Nat → FieldType := fun k => match k with
  | 0 => .object "CardLink$Row"
  | 1 => .object "CardLink$Row"
  | 2 => .object "CardLink$Row"
  | 3 => .object "CardLink$Row"
  | 4 => .object "CardLink$Row"
  | 5 => .object "CardLink$Row"
  | 6 => .object "CardLink$Row"
  | 7 => .object "CardLink$Row"
  | _ => .int
abbrev wsX10 : List Cond := u_ws RX1 TX1 9
theorem nmX1 : ∀ a, a < 9 → ∀ b, b < 9 → a ≠ b → (TX1 a).2.1 ≠ (TX1 b).2.1 := by decide +kernel
theorem tyX1_ok : ∀ k, k < 9 → parseFieldDescriptor (TX1 k).2.2.1 = some (tyX1 k) := by decide +kernel
abbrev cX1_init : ByteArray := prog_3_method_1_code
def yX1_init : MethodName := ⟨RX1, "<init>", "()V"⟩
abbrev cX1_forgetAll : ByteArray := prog_3_method_2_code
def yX1_forgetAll : MethodName := ⟨RX1, "forgetAll", "()V"⟩
abbrev cX1_unlike : ByteArray := prog_3_method_3_code
def yX1_unlike : MethodName := ⟨RX1, "unlike", "()I"⟩
abbrev cX1_kept : ByteArray := prog_3_method_4_code
def yX1_kept : MethodName := ⟨RX1, "kept", "()I"⟩
abbrev cX1_note : ByteArray := prog_3_method_5_code
def yX1_note : MethodName := ⟨RX1, "note", "(III)V"⟩
abbrev cX1_idOf : ByteArray := prog_3_method_6_code
def yX1_idOf : MethodName := ⟨RX1, "idOf", "(ILCardLink$Row;)I"⟩
abbrev cX1_chainOf : ByteArray := prog_3_method_7_code
def yX1_chainOf : MethodName := ⟨RX1, "chainOf", "(ILCardLink$Row;)I"⟩
abbrev cX1_isBlock : ByteArray := prog_3_method_8_code
def yX1_isBlock : MethodName := ⟨RX1, "isBlock", "(IILCardLink$Row;)Z"⟩
abbrev cX1_addUnlike : ByteArray := prog_3_method_9_code
def yX1_addUnlike : MethodName := ⟨RX1, "addUnlike", "(ILCardLink$Row;I)I"⟩
abbrev cX1_placeOf : ByteArray := prog_3_method_10_code
def yX1_placeOf : MethodName := ⟨RX1, "placeOf", "(I)I"⟩
abbrev cX1_tell : ByteArray := prog_3_method_11_code
def yX1_tell : MethodName := ⟨RX1, "tell", "(II)I"⟩
abbrev cX1_byteAt : ByteArray := prog_3_method_12_code
def yX1_byteAt : MethodName := ⟨RX1, "byteAt", "(II)I"⟩
def RX2 : String := "CardLink$Line"
def TX2 : u_T := fun k => match k with
  | 0 => ("CardLink$Line", "reader", "LCardLink$Side;", true)
  | 1 => ("CardLink$Line", "card", "LCardLink$Side;", true)
  | 2 => ("CardLink$Line", "wire", "LCardLink$Wire;", true)
  | 3 => ("CardLink$Line", "state", "I", false)
  | 4 => ("CardLink$Line", "tries", "I", false)
  | 5 => ("CardLink$Line", "waitsEnded", "I", false)
  | 6 => ("CardLink$Line", "timesDone", "I", false)
  | 7 => ("CardLink$Line", "timesGivenUp", "I", false)
  | 8 => ("CardLink$Line", "block", "LCardLink$Row;", true)
  | 9 => ("CardLink$Line", "came", "LCardLink$Row;", true)
  | 10 => ("CardLink$Line", "journal", "LCardLink$Journal;", true)
  | 11 => ("CardLink$Line", "outcome", "I", false)
  | 12 => ("CardLink$Line", "firstTurn", "Z", false)
  | 13 => ("CardLink$Line", "roomWish", "I", false)
  | 14 => ("CardLink$Line", "stuck", "Z", false)
  | 15 => ("CardLink$Line", "toldAbort", "Z", false)
  | 16 => ("CardLink$Line", "waitsLeft", "I", false)
  | _ => ("CardLink$Line", "silentTurns", "I", false)
def tyX2 : Nat → FieldType := fun k => match k with
  | 0 => .object "CardLink$Side"
  | 1 => .object "CardLink$Side"
  | 2 => .object "CardLink$Wire"
  | 3 => .int
  | 4 => .int
  | 5 => .int
  | 6 => .int
  | 7 => .int
  | 8 => .object "CardLink$Row"
  | 9 => .object "CardLink$Row"
  | 10 => .object "CardLink$Journal"
  | 11 => .int
  | 12 => .boolean
  | 13 => .int
  | 14 => .boolean
  | 15 => .boolean
  | 16 => .int
  | _ => .int
abbrev wsX20 : List Cond := u_ws RX2 TX2 18
theorem nmX2 : ∀ a, a < 18 → ∀ b, b < 18 → a ≠ b → (TX2 a).2.1 ≠ (TX2 b).2.1 := by decide +kernel
theorem tyX2_ok : ∀ k, k < 18 → parseFieldDescriptor (TX2 k).2.2.1 = some (tyX2 k) := by decide +kernel
abbrev cX2_init : ByteArray := prog_4_method_1_code
def yX2_init : MethodName := ⟨RX2, "<init>", "(LCardLink$Journal;)V"⟩
abbrev cX2_restart : ByteArray := prog_4_method_2_code
def yX2_restart : MethodName := ⟨RX2, "restart", "(I)V"⟩
abbrev cX2_copy : ByteArray := prog_4_method_3_code
def yX2_copy : MethodName := ⟨RX2, "copy", "(LCardLink$Line;)V"⟩
abbrev cX2_startMessage : ByteArray := prog_4_method_4_code
def yX2_startMessage : MethodName := ⟨RX2, "startMessage", "(LCardLink$Row;)V"⟩
abbrev cX2_startRoom : ByteArray := prog_4_method_5_code
def yX2_startRoom : MethodName := ⟨RX2, "startRoom", "(I)V"⟩
abbrev cX2_begin : ByteArray := prog_4_method_6_code
def yX2_begin : MethodName := ⟨RX2, "begin", "(I)V"⟩
abbrev cX2_blocksAhead : ByteArray := prog_4_method_7_code
def yX2_blocksAhead : MethodName := ⟨RX2, "blocksAhead", "()I"⟩
abbrev cX2_blocksSent : ByteArray := prog_4_method_8_code
def yX2_blocksSent : MethodName := ⟨RX2, "blocksSent", "()I"⟩
abbrev cX2_run : ByteArray := prog_4_method_9_code
def yX2_run : MethodName := ⟨RX2, "run", "(I)I"⟩
abbrev cX2_turn : ByteArray := prog_4_method_10_code
def yX2_turn : MethodName := ⟨RX2, "turn", "()V"⟩
abbrev cX2_firstKind : ByteArray := prog_4_method_11_code
def yX2_firstKind : MethodName := ⟨RX2, "firstKind", "()I"⟩
abbrev cX2_countTries : ByteArray := prog_4_method_12_code
def yX2_countTries : MethodName := ⟨RX2, "countTries", "(I)I"⟩
abbrev cX2_readerKind : ByteArray := prog_4_method_13_code
def yX2_readerKind : MethodName := ⟨RX2, "readerKind", "()I"⟩
abbrev cX2_cardKind : ByteArray := prog_4_method_14_code
def yX2_cardKind : MethodName := ⟨RX2, "cardKind", "()I"⟩
abbrev cX2_onBroken : ByteArray := prog_4_method_15_code
def yX2_onBroken : MethodName := ⟨RX2, "onBroken", "(LCardLink$Side;)I"⟩
abbrev cX2_refuse : ByteArray := prog_4_method_16_code
def yX2_refuse : MethodName := ⟨RX2, "refuse", "(LCardLink$Side;)I"⟩
abbrev cX2_isAnswerTo : ByteArray := prog_4_method_17_code
def yX2_isAnswerTo : MethodName := ⟨RX2, "isAnswerTo", "(LCardLink$Side;)Z"⟩
abbrev cX2_readerOnAnswer : ByteArray := prog_4_method_18_code
def yX2_readerOnAnswer : MethodName := ⟨RX2, "readerOnAnswer", "()I"⟩
abbrev cX2_finish : ByteArray := prog_4_method_19_code
def yX2_finish : MethodName := ⟨RX2, "finish", "(I)I"⟩
abbrev cX2_cardOnAnswer : ByteArray := prog_4_method_20_code
def yX2_cardOnAnswer : MethodName := ⟨RX2, "cardOnAnswer", "()I"⟩
abbrev cX2_onI : ByteArray := prog_4_method_21_code
def yX2_onI : MethodName := ⟨RX2, "onI", "(LCardLink$Side;I)I"⟩
abbrev cX2_onReceipt : ByteArray := prog_4_method_22_code
def yX2_onReceipt : MethodName := ⟨RX2, "onReceipt", "(LCardLink$Side;I)I"⟩
abbrev cX2_onRequest : ByteArray := prog_4_method_23_code
def yX2_onRequest : MethodName := ⟨RX2, "onRequest", "(LCardLink$Side;LCardLink$Side;I)I"⟩
abbrev cX2_doMessage : ByteArray := prog_4_method_24_code
def yX2_doMessage : MethodName := ⟨RX2, "doMessage", "()I"⟩
abbrev cX2_putCounting : ByteArray := prog_4_method_25_code
def yX2_putCounting : MethodName := ⟨RX2, "putCounting", "(I)I"⟩
abbrev cX2_putBehindThird : ByteArray := prog_4_method_26_code
def yX2_putBehindThird : MethodName := ⟨RX2, "putBehindThird", "()I"⟩
abbrev cX2_putFirstByte : ByteArray := prog_4_method_27_code
def yX2_putFirstByte : MethodName := ⟨RX2, "putFirstByte", "()I"⟩
abbrev cX2_kindToSend : ByteArray := prog_4_method_28_code
def yX2_kindToSend : MethodName := ⟨RX2, "kindToSend", "(LCardLink$Side;LCardLink$Side;I)I"⟩
abbrev cX2_send : ByteArray := prog_4_method_29_code
def yX2_send : MethodName := ⟨RX2, "send", "(LCardLink$Side;LCardLink$Side;I)V"⟩
abbrev cX2_compose : ByteArray := prog_4_method_30_code
def yX2_compose : MethodName := ⟨RX2, "compose", "(LCardLink$Side;I)V"⟩
abbrev cX2_hasInf : ByteArray := prog_4_method_31_code
def yX2_hasInf : MethodName := ⟨RX2, "hasInf", "(I)Z"⟩
abbrev cX2_judge : ByteArray := prog_4_method_32_code
def yX2_judge : MethodName := ⟨RX2, "judge", "(II)I"⟩
abbrev cX2_isWellFormed : ByteArray := prog_4_method_33_code
def yX2_isWellFormed : MethodName := ⟨RX2, "isWellFormed", "(III)Z"⟩
def RX3 : String := "CardLink$ResetAnswer"
def TX3 : u_T := fun k => match k with
  | 0 => ("CardLink$ResetAnswer", "ts", "I", false)
  | 1 => ("CardLink$ResetAnswer", "factor", "I", false)
  | 2 => ("CardLink$ResetAnswer", "guard", "I", false)
  | 3 => ("CardLink$ResetAnswer", "protocol", "I", false)
  | 4 => ("CardLink$ResetAnswer", "groups", "I", false)
  | 5 => ("CardLink$ResetAnswer", "room", "I", false)
  | 6 => ("CardLink$ResetAnswer", "checked", "Z", false)
  | 7 => ("CardLink$ResetAnswer", "historical", "LCardLink$Row;", true)
  | 8 => ("CardLink$ResetAnswer", "place", "I", false)
  | 9 => ("CardLink$ResetAnswer", "told", "I", false)
  | _ => ("CardLink$ResetAnswer", "linkGroup", "I", false)
def tyX3 : Nat → FieldType := fun k => match k with
  | 0 => .int
  | 1 => .int
  | 2 => .int
  | 3 => .int
  | 4 => .int
  | 5 => .int
  | 6 => .boolean
  | 7 => .object "CardLink$Row"
  | 8 => .int
  | 9 => .int
  | _ => .int
abbrev wsX30 : List Cond := u_ws RX3 TX3 11
theorem nmX3 : ∀ a, a < 11 → ∀ b, b < 11 → a ≠ b → (TX3 a).2.1 ≠ (TX3 b).2.1 := by decide +kernel
theorem tyX3_ok : ∀ k, k < 11 → parseFieldDescriptor (TX3 k).2.2.1 = some (tyX3 k) := by decide +kernel
abbrev cX3_init : ByteArray := prog_5_method_1_code
def yX3_init : MethodName := ⟨RX3, "<init>", "()V"⟩
abbrev cX3_read : ByteArray := prog_5_method_2_code
def yX3_read : MethodName := ⟨RX3, "read", "(LCardLink$Row;)I"⟩
abbrev cX3_clear : ByteArray := prog_5_method_3_code
def yX3_clear : MethodName := ⟨RX3, "clear", "()V"⟩
abbrev cX3_faultAt : ByteArray := prog_5_method_4_code
def yX3_faultAt : MethodName := ⟨RX3, "faultAt", "(II)I"⟩
abbrev cX3_readHead : ByteArray := prog_5_method_5_code
def yX3_readHead : MethodName := ⟨RX3, "readHead", "(LCardLink$Row;)I"⟩
abbrev cX3_readGroups : ByteArray := prog_5_method_6_code
def yX3_readGroups : MethodName := ⟨RX3, "readGroups", "(LCardLink$Row;)I"⟩
abbrev cX3_readGroupByte : ByteArray := prog_5_method_7_code
def yX3_readGroupByte : MethodName := ⟨RX3, "readGroupByte", "(III)I"⟩
abbrev cX3_readFirstGroup : ByteArray := prog_5_method_8_code
def yX3_readFirstGroup : MethodName := ⟨RX3, "readFirstGroup", "(II)I"⟩
abbrev cX3_readLinkGroup : ByteArray := prog_5_method_9_code
def yX3_readLinkGroup : MethodName := ⟨RX3, "readLinkGroup", "(II)I"⟩
abbrev cX3_readTd : ByteArray := prog_5_method_10_code
def yX3_readTd : MethodName := ⟨RX3, "readTd", "(II)I"⟩
abbrev cX3_readTail : ByteArray := prog_5_method_11_code
def yX3_readTail : MethodName := ⟨RX3, "readTail", "(LCardLink$Row;I)I"⟩
abbrev cX3_clockOf : ByteArray := prog_5_method_12_code
def yX3_clockOf : MethodName := ⟨RX3, "clockOf", "(I)I"⟩
abbrev cX3_divisorOf : ByteArray := prog_5_method_13_code
def yX3_divisorOf : MethodName := ⟨RX3, "divisorOf", "(I)I"⟩
abbrev cX3_cardRoom : ByteArray := prog_5_method_14_code
def yX3_cardRoom : MethodName := ⟨RX3, "cardRoom", "()I"⟩
abbrev cX3_historicalBytes : ByteArray := prog_5_method_15_code
def yX3_historicalBytes : MethodName := ⟨RX3, "historicalBytes", "()I"⟩
abbrev cX3_historicalByte : ByteArray := prog_5_method_16_code
def yX3_historicalByte : MethodName := ⟨RX3, "historicalByte", "(I)I"⟩
abbrev cX3_tell : ByteArray := prog_5_method_17_code
def yX3_tell : MethodName := ⟨RX3, "tell", "(I)I"⟩
def RX4 : String := "CardLink$Row"
def TX4 : u_T := fun k => match k with
  | 0 => ("CardLink$Row", "items", "[I", false)
  | 1 => ("CardLink$Row", "length", "I", false)
  | _ => ("CardLink$Row", "most", "I", true)
def tyX4 : Nat → FieldType := fun k => match k with
  | 0 => .array .int
  | 1 => .int
  | _ => .int
abbrev wsX40 : List Cond := u_ws RX4 TX4 3
theorem nmX4 : ∀ a, a < 3 → ∀ b, b < 3 → a ≠ b → (TX4 a).2.1 ≠ (TX4 b).2.1 := by decide +kernel
theorem tyX4_ok : ∀ k, k < 3 → parseFieldDescriptor (TX4 k).2.2.1 = some (tyX4 k) := by decide +kernel
abbrev cX4_init : ByteArray := prog_6_method_1_code
def yX4_init : MethodName := ⟨RX4, "<init>", "(II)V"⟩
abbrev cX4_size : ByteArray := prog_6_method_2_code
def yX4_size : MethodName := ⟨RX4, "size", "()I"⟩
abbrev cX4_at : ByteArray := prog_6_method_3_code
def yX4_at : MethodName := ⟨RX4, "at", "(I)I"⟩
abbrev cX4_put : ByteArray := prog_6_method_4_code
def yX4_put : MethodName := ⟨RX4, "put", "(II)V"⟩
abbrev cX4_add : ByteArray := prog_6_method_5_code
def yX4_add : MethodName := ⟨RX4, "add", "(I)V"⟩
abbrev cX4_keep : ByteArray := prog_6_method_6_code
def yX4_keep : MethodName := ⟨RX4, "keep", "(I)V"⟩
abbrev cX4_copy : ByteArray := prog_6_method_7_code
def yX4_copy : MethodName := ⟨RX4, "copy", "(LCardLink$Row;)V"⟩
abbrev cX4_same : ByteArray := prog_6_method_8_code
def yX4_same : MethodName := ⟨RX4, "same", "(LCardLink$Row;)Z"⟩
abbrev cX4_xor : ByteArray := prog_6_method_9_code
def yX4_xor : MethodName := ⟨RX4, "xor", "(I)I"⟩
def RX5 : String := "CardLink$Side"
def TX5 : u_T := fun k => match k with
  | 0 => ("CardLink$Side", "number", "I", true)
  | 1 => ("CardLink$Side", "next", "I", false)
  | 2 => ("CardLink$Side", "wanted", "I", false)
  | 3 => ("CardLink$Side", "room", "I", false)
  | 4 => ("CardLink$Side", "through", "I", false)
  | 5 => ("CardLink$Side", "asked", "I", false)
  | 6 => ("CardLink$Side", "askedInf", "I", false)
  | 7 => ("CardLink$Side", "messages", "I", false)
  | 8 => ("CardLink$Side", "out", "LCardLink$Row;", true)
  | 9 => ("CardLink$Side", "got", "LCardLink$Row;", true)
  | 10 => ("CardLink$Side", "in", "LCardLink$Row;", true)
  | 11 => ("CardLink$Side", "pending", "I", false)
  | 12 => ("CardLink$Side", "pendingMore", "Z", false)
  | 13 => ("CardLink$Side", "latestKind", "I", false)
  | _ => ("CardLink$Side", "sent", "I", false)
def tyX5 : Nat → FieldType := fun k => match k with
  | 0 => .int
  | 1 => .int
  | 2 => .int
  | 3 => .int
  | 4 => .int
  | 5 => .int
  | 6 => .int
  | 7 => .int
  | 8 => .object "CardLink$Row"
  | 9 => .object "CardLink$Row"
  | 10 => .object "CardLink$Row"
  | 11 => .int
  | 12 => .boolean
  | 13 => .int
  | _ => .int
abbrev wsX50 : List Cond := u_ws RX5 TX5 15
theorem nmX5 : ∀ a, a < 15 → ∀ b, b < 15 → a ≠ b → (TX5 a).2.1 ≠ (TX5 b).2.1 := by decide +kernel
theorem tyX5_ok : ∀ k, k < 15 → parseFieldDescriptor (TX5 k).2.2.1 = some (tyX5 k) := by decide +kernel
abbrev cX5_init : ByteArray := prog_7_method_1_code
def yX5_init : MethodName := ⟨RX5, "<init>", "(I)V"⟩
abbrev cX5_restart : ByteArray := prog_7_method_2_code
def yX5_restart : MethodName := ⟨RX5, "restart", "(I)V"⟩
abbrev cX5_copy : ByteArray := prog_7_method_3_code
def yX5_copy : MethodName := ⟨RX5, "copy", "(LCardLink$Side;)V"⟩
abbrev cX5_emptyAll : ByteArray := prog_7_method_4_code
def yX5_emptyAll : MethodName := ⟨RX5, "emptyAll", "()V"⟩
abbrev cX5_breakOff : ByteArray := prog_7_method_5_code
def yX5_breakOff : MethodName := ⟨RX5, "breakOff", "()V"⟩
abbrev cX5_cutNext : ByteArray := prog_7_method_6_code
def yX5_cutNext : MethodName := ⟨RX5, "cutNext", "(I)I"⟩
abbrev cX5_pendingKind : ByteArray := prog_7_method_7_code
def yX5_pendingKind : MethodName := ⟨RX5, "pendingKind", "()I"⟩
abbrev cX5_pendingSize : ByteArray := prog_7_method_8_code
def yX5_pendingSize : MethodName := ⟨RX5, "pendingSize", "()I"⟩
abbrev cX5_hasPending : ByteArray := prog_7_method_9_code
def yX5_hasPending : MethodName := ⟨RX5, "hasPending", "()Z"⟩
abbrev cX5_pendingHasMore : ByteArray := prog_7_method_10_code
def yX5_pendingHasMore : MethodName := ⟨RX5, "pendingHasMore", "()Z"⟩
abbrev cX5_passPending : ByteArray := prog_7_method_11_code
def yX5_passPending : MethodName := ⟨RX5, "passPending", "()V"⟩
abbrev cX5_takeInf : ByteArray := prog_7_method_12_code
def yX5_takeInf : MethodName := ⟨RX5, "takeInf", "(LCardLink$Row;)V"⟩
abbrev cX5_takeWhole : ByteArray := prog_7_method_13_code
def yX5_takeWhole : MethodName := ⟨RX5, "takeWhole", "()V"⟩
abbrev cX5_takeEmpty : ByteArray := prog_7_method_14_code
def yX5_takeEmpty : MethodName := ⟨RX5, "takeEmpty", "()V"⟩
abbrev cX5_requestKind : ByteArray := prog_7_method_15_code
def yX5_requestKind : MethodName := ⟨RX5, "requestKind", "()I"⟩
abbrev cX5_ask : ByteArray := prog_7_method_16_code
def yX5_ask : MethodName := ⟨RX5, "ask", "(II)I"⟩
abbrev cX5_receipt : ByteArray := prog_7_method_17_code
def yX5_receipt : MethodName := ⟨RX5, "receipt", "(I)I"⟩
abbrev cX5_noteSent : ByteArray := prog_7_method_18_code
def yX5_noteSent : MethodName := ⟨RX5, "noteSent", "(I)V"⟩
abbrev cX5_blocksSent : ByteArray := prog_7_method_19_code
def yX5_blocksSent : MethodName := ⟨RX5, "blocksSent", "()I"⟩
abbrev cX5_tell : ByteArray := prog_7_method_20_code
def yX5_tell : MethodName := ⟨RX5, "tell", "(I)I"⟩
def RX6 : String := "CardLink$Wire"
def TX6 : u_T := fun k => match k with
  | 0 => ("CardLink$Wire", "repeats", "I", false)
  | 1 => ("CardLink$Wire", "letters", "I", false)
  | 2 => ("CardLink$Wire", "lettersAgain", "I", false)
  | 3 => ("CardLink$Wire", "faultLetters", "[I", true)
  | 4 => ("CardLink$Wire", "faultKinds", "[I", true)
  | 5 => ("CardLink$Wire", "faultBits", "[I", true)
  | 6 => ("CardLink$Wire", "faults", "I", false)
  | 7 => ("CardLink$Wire", "probeLetter", "I", false)
  | 8 => ("CardLink$Wire", "probeKind", "I", false)
  | _ => ("CardLink$Wire", "bitsNow", "I", false)
def tyX6 : Nat → FieldType := fun k => match k with
  | 0 => .int
  | 1 => .int
  | 2 => .int
  | 3 => .array .int
  | 4 => .array .int
  | 5 => .array .int
  | 6 => .int
  | 7 => .int
  | 8 => .int
  | _ => .int
abbrev wsX60 : List Cond := u_ws RX6 TX6 10
theorem nmX6 : ∀ a, a < 10 → ∀ b, b < 10 → a ≠ b → (TX6 a).2.1 ≠ (TX6 b).2.1 := by decide +kernel
theorem tyX6_ok : ∀ k, k < 10 → parseFieldDescriptor (TX6 k).2.2.1 = some (tyX6 k) := by decide +kernel
abbrev cX6_init : ByteArray := prog_8_method_1_code
def yX6_init : MethodName := ⟨RX6, "<init>", "()V"⟩
abbrev cX6_restart : ByteArray := prog_8_method_2_code
def yX6_restart : MethodName := ⟨RX6, "restart", "()V"⟩
abbrev cX6_copy : ByteArray := prog_8_method_3_code
def yX6_copy : MethodName := ⟨RX6, "copy", "(LCardLink$Wire;)V"⟩
abbrev cX6_probe : ByteArray := prog_8_method_4_code
def yX6_probe : MethodName := ⟨RX6, "probe", "(II)V"⟩
abbrev cX6_faults : ByteArray := prog_8_method_5_code
def yX6_faults : MethodName := ⟨RX6, "faults", "()I"⟩
abbrev cX6_isFull : ByteArray := prog_8_method_6_code
def yX6_isFull : MethodName := ⟨RX6, "isFull", "()Z"⟩
abbrev cX6_addFault : ByteArray := prog_8_method_7_code
def yX6_addFault : MethodName := ⟨RX6, "addFault", "(III)V"⟩
abbrev cX6_makePlace : ByteArray := prog_8_method_8_code
def yX6_makePlace : MethodName := ⟨RX6, "makePlace", "(I)V"⟩
abbrev cX6_dropNearest : ByteArray := prog_8_method_9_code
def yX6_dropNearest : MethodName := ⟨RX6, "dropNearest", "()V"⟩
abbrev cX6_sendLetter : ByteArray := prog_8_method_10_code
def yX6_sendLetter : MethodName := ⟨RX6, "sendLetter", "()I"⟩
abbrev cX6_carry : ByteArray := prog_8_method_11_code
def yX6_carry : MethodName := ⟨RX6, "carry", "(LCardLink$Row;LCardLink$Row;)I"⟩
def RX7 : String := "CardLink"
def TX7 : u_T := fun k => match k with
  | 0 => ("CardLink", "tape", "LCardLink$Row;", true)
  | 1 => ("CardLink", "journal", "LCardLink$Journal;", true)
  | 2 => ("CardLink", "line", "LCardLink$Line;", true)
  | 3 => ("CardLink", "forecast", "LCardLink$Forecast;", true)
  | 4 => ("CardLink", "inForce", "LCardLink$ResetAnswer;", false)
  | 5 => ("CardLink", "spare", "LCardLink$ResetAnswer;", false)
  | _ => ("CardLink", "cardIn", "Z", false)
def tyX7 : Nat → FieldType := fun k => match k with
  | 0 => .object "CardLink$Row"
  | 1 => .object "CardLink$Journal"
  | 2 => .object "CardLink$Line"
  | 3 => .object "CardLink$Forecast"
  | 4 => .object "CardLink$ResetAnswer"
  | 5 => .object "CardLink$ResetAnswer"
  | _ => .boolean
abbrev wsX70 : List Cond := u_ws RX7 TX7 7
theorem nmX7 : ∀ a, a < 7 → ∀ b, b < 7 → a ≠ b → (TX7 a).2.1 ≠ (TX7 b).2.1 := by decide +kernel
theorem tyX7_ok : ∀ k, k < 7 → parseFieldDescriptor (TX7 k).2.2.1 = some (tyX7 k) := by decide +kernel
abbrev cX7_init : ByteArray := prog_1_method_1_code
def yX7_init : MethodName := ⟨RX7, "<init>", "()V"⟩
abbrev cX7_feed : ByteArray := prog_1_method_2_code
def yX7_feed : MethodName := ⟨RX7, "feed", "(JJ)I"⟩
abbrev cX7_feedEight : ByteArray := prog_1_method_3_code
def yX7_feedEight : MethodName := ⟨RX7, "feedEight", "(J)V"⟩
abbrev cX7_end : ByteArray := prog_1_method_4_code
def yX7_end : MethodName := ⟨RX7, "end", "(I)I"⟩
abbrev cX7_reset : ByteArray := prog_1_method_5_code
def yX7_reset : MethodName := ⟨RX7, "reset", "()I"⟩
abbrev cX7_answer : ByteArray := prog_1_method_6_code
def yX7_answer : MethodName := ⟨RX7, "answer", "(I)I"⟩
abbrev cX7_historical : ByteArray := prog_1_method_7_code
def yX7_historical : MethodName := ⟨RX7, "historical", "(I)I"⟩
abbrev cX7_message : ByteArray := prog_1_method_8_code
def yX7_message : MethodName := ⟨RX7, "message", "()I"⟩
abbrev cX7_room : ByteArray := prog_1_method_9_code
def yX7_room : MethodName := ⟨RX7, "room", "(I)I"⟩
abbrev cX7_mayStart : ByteArray := prog_1_method_10_code
def yX7_mayStart : MethodName := ⟨RX7, "mayStart", "()Z"⟩
abbrev cX7_onWay : ByteArray := prog_1_method_11_code
def yX7_onWay : MethodName := ⟨RX7, "onWay", "()Z"⟩
abbrev cX7_fault : ByteArray := prog_1_method_12_code
def yX7_fault : MethodName := ⟨RX7, "fault", "(III)I"⟩
abbrev cX7_repeats : ByteArray := prog_1_method_13_code
def yX7_repeats : MethodName := ⟨RX7, "repeats", "(I)I"⟩
abbrev cX7_step : ByteArray := prog_1_method_14_code
def yX7_step : MethodName := ⟨RX7, "step", "(I)I"⟩
abbrev cX7_state : ByteArray := prog_1_method_15_code
def yX7_state : MethodName := ⟨RX7, "state", "()I"⟩
abbrev cX7_side : ByteArray := prog_1_method_16_code
def yX7_side : MethodName := ⟨RX7, "side", "(II)I"⟩
abbrev cX7_sideOf : ByteArray := prog_1_method_17_code
def yX7_sideOf : MethodName := ⟨RX7, "sideOf", "(I)LCardLink$Side;"⟩
abbrev cX7_got : ByteArray := prog_1_method_18_code
def yX7_got : MethodName := ⟨RX7, "got", "(II)I"⟩
abbrev cX7_log : ByteArray := prog_1_method_19_code
def yX7_log : MethodName := ⟨RX7, "log", "(II)I"⟩
abbrev cX7_byteOf : ByteArray := prog_1_method_20_code
def yX7_byteOf : MethodName := ⟨RX7, "byteOf", "(II)I"⟩
abbrev cX7_would : ByteArray := prog_1_method_21_code
def yX7_would : MethodName := ⟨RX7, "would", "(I)I"⟩
abbrev cX7_harm : ByteArray := prog_1_method_22_code
def yX7_harm : MethodName := ⟨RX7, "harm", "(II)I"⟩
abbrev cX7_count : ByteArray := prog_1_method_23_code
def yX7_count : MethodName := ⟨RX7, "count", "(I)I"⟩
def RX8 : String := "CardLinkModel"
def TX8 : u_T := fun k => match k with
  | 0 => ("CardLinkModel", "tape", "[I", true)
  | 1 => ("CardLinkModel", "taped", "I", false)
  | 2 => ("CardLinkModel", "thrown", "I", false)
  | 3 => ("CardLinkModel", "hasCard", "Z", false)
  | 4 => ("CardLinkModel", "told", "[I", true)
  | 5 => ("CardLinkModel", "draft", "[I", true)
  | 6 => ("CardLinkModel", "history", "[I", true)
  | 7 => ("CardLinkModel", "s", "[I", true)
  | 8 => ("CardLinkModel", "kept", "[I", true)
  | 9 => ("CardLinkModel", "repeats", "I", false)
  | 10 => ("CardLinkModel", "log", "[I", true)
  | 11 => ("CardLinkModel", "logBytes", "[I", true)
  | 12 => ("CardLinkModel", "logged", "I", false)
  | 13 => ("CardLinkModel", "logAt", "I", false)
  | 14 => ("CardLinkModel", "unlikeFrom", "[I", true)
  | 15 => ("CardLinkModel", "unlikeSide", "[I", true)
  | 16 => ("CardLinkModel", "unlikeOften", "[I", true)
  | 17 => ("CardLinkModel", "unlikeBytes", "[I", true)
  | 18 => ("CardLinkModel", "unlike", "I", false)
  | 19 => ("CardLinkModel", "quiet", "Z", false)
  | 20 => ("CardLinkModel", "size", "I", false)
  | 21 => ("CardLinkModel", "at", "I", false)
  | 22 => ("CardLinkModel", "fault", "I", false)
  | 23 => ("CardLinkModel", "special", "I", false)
  | 24 => ("CardLinkModel", "hasOther", "Z", false)
  | 25 => ("CardLinkModel", "block", "[I", true)
  | 26 => ("CardLinkModel", "blockMany", "I", false)
  | 27 => ("CardLinkModel", "came", "[I", true)
  | 28 => ("CardLinkModel", "cameMany", "I", false)
  | 29 => ("CardLinkModel", "cameHow", "I", false)
  | 30 => ("CardLinkModel", "hasLost", "Z", false)
  | 31 => ("CardLinkModel", "hasSpoilt", "Z", false)
  | 32 => ("CardLinkModel", "inf", "[I", true)
  | 33 => ("CardLinkModel", "hasSent", "Z", false)
  | 34 => ("CardLinkModel", "tryOf", "I", false)
  | 35 => ("CardLinkModel", "reason", "I", false)
  | 36 => ("CardLinkModel", "wouldSend", "I", false)
  | 37 => ("CardLinkModel", "wanted", "[I", true)
  | _ => ("CardLinkModel", "wantedMany", "I", false)
def tyX8 : Nat → FieldType := fun k => match k with
  | 0 => .array .int
  | 1 => .int
  | 2 => .int
  | 3 => .boolean
  | 4 => .array .int
  | 5 => .array .int
  | 6 => .array .int
  | 7 => .array .int
  | 8 => .array .int
  | 9 => .int
  | 10 => .array .int
  | 11 => .array .int
  | 12 => .int
  | 13 => .int
  | 14 => .array .int
  | 15 => .array .int
  | 16 => .array .int
  | 17 => .array .int
  | 18 => .int
  | 19 => .boolean
  | 20 => .int
  | 21 => .int
  | 22 => .int
  | 23 => .int
  | 24 => .boolean
  | 25 => .array .int
  | 26 => .int
  | 27 => .array .int
  | 28 => .int
  | 29 => .int
  | 30 => .boolean
  | 31 => .boolean
  | 32 => .array .int
  | 33 => .boolean
  | 34 => .int
  | 35 => .int
  | 36 => .int
  | 37 => .array .int
  | _ => .int
abbrev wsX80 : List Cond := u_ws RX8 TX8 39
theorem nmX8 : ∀ a, a < 39 → ∀ b, b < 39 → a ≠ b → (TX8 a).2.1 ≠ (TX8 b).2.1 := by decide +kernel
theorem tyX8_ok : ∀ k, k < 39 → parseFieldDescriptor (TX8 k).2.2.1 = some (tyX8 k) := by decide +kernel
abbrev cX8_init : ByteArray := prog_10_method_1_code
def yX8_init : MethodName := ⟨RX8, "<init>", "()V"⟩
abbrev cX8_thrown : ByteArray := prog_10_method_2_code
def yX8_thrown : MethodName := ⟨RX8, "thrown", "()I"⟩
abbrev cX8_within : ByteArray := prog_10_method_3_code
def yX8_within : MethodName := ⟨RX8, "within", "(III)Z"⟩
abbrev cX8_begins : ByteArray := prog_10_method_4_code
def yX8_begins : MethodName := ⟨RX8, "begins", "()V"⟩
abbrev cX8_eight : ByteArray := prog_10_method_5_code
def yX8_eight : MethodName := ⟨RX8, "eight", "(J)V"⟩
abbrev cX8_feed : ByteArray := prog_10_method_6_code
def yX8_feed : MethodName := ⟨RX8, "feed", "(JJ)I"⟩
abbrev cX8_end : ByteArray := prog_10_method_7_code
def yX8_end : MethodName := ⟨RX8, "end", "(I)I"⟩
abbrev cX8_byteNext : ByteArray := prog_10_method_8_code
def yX8_byteNext : MethodName := ⟨RX8, "byteNext", "()I"⟩
abbrev cX8_wrong : ByteArray := prog_10_method_9_code
def yX8_wrong : MethodName := ⟨RX8, "wrong", "(II)V"⟩
abbrev cX8_clocks : ByteArray := prog_10_method_10_code
def yX8_clocks : MethodName := ⟨RX8, "clocks", "(I)I"⟩
abbrev cX8_bits : ByteArray := prog_10_method_11_code
def yX8_bits : MethodName := ⟨RX8, "bits", "(I)I"⟩
abbrev cX8_factor : ByteArray := prog_10_method_12_code
def yX8_factor : MethodName := ⟨RX8, "factor", "()V"⟩
abbrev cX8_window : ByteArray := prog_10_method_13_code
def yX8_window : MethodName := ⟨RX8, "window", "()V"⟩
abbrev cX8_groupTold : ByteArray := prog_10_method_14_code
def yX8_groupTold : MethodName := ⟨RX8, "groupTold", "(II)I"⟩
abbrev cX8_groupsTold : ByteArray := prog_10_method_15_code
def yX8_groupsTold : MethodName := ⟨RX8, "groupsTold", "(I)V"⟩
abbrev cX8_reset : ByteArray := prog_10_method_16_code
def yX8_reset : MethodName := ⟨RX8, "reset", "()I"⟩
abbrev cX8_checks : ByteArray := prog_10_method_17_code
def yX8_checks : MethodName := ⟨RX8, "checks", "()V"⟩
abbrev cX8_answer : ByteArray := prog_10_method_18_code
def yX8_answer : MethodName := ⟨RX8, "answer", "(I)I"⟩
abbrev cX8_historical : ByteArray := prog_10_method_19_code
def yX8_historical : MethodName := ⟨RX8, "historical", "(I)I"⟩
abbrev cX8_canBegin : ByteArray := prog_10_method_20_code
def yX8_canBegin : MethodName := ⟨RX8, "canBegin", "()Z"⟩
abbrev cX8_starts : ByteArray := prog_10_method_21_code
def yX8_starts : MethodName := ⟨RX8, "starts", "(I)V"⟩
abbrev cX8_message : ByteArray := prog_10_method_22_code
def yX8_message : MethodName := ⟨RX8, "message", "()I"⟩
abbrev cX8_room : ByteArray := prog_10_method_23_code
def yX8_room : MethodName := ⟨RX8, "room", "(I)I"⟩
abbrev cX8_faultAt : ByteArray := prog_10_method_24_code
def yX8_faultAt : MethodName := ⟨RX8, "faultAt", "(I)I"⟩
abbrev cX8_passes : ByteArray := prog_10_method_25_code
def yX8_passes : MethodName := ⟨RX8, "passes", "()V"⟩
abbrev cX8_putsFault : ByteArray := prog_10_method_26_code
def yX8_putsFault : MethodName := ⟨RX8, "putsFault", "(III)V"⟩
abbrev cX8_fault : ByteArray := prog_10_method_27_code
def yX8_fault : MethodName := ⟨RX8, "fault", "(III)I"⟩
abbrev cX8_repeats : ByteArray := prog_10_method_28_code
def yX8_repeats : MethodName := ⟨RX8, "repeats", "(I)I"⟩
abbrev cX8_carries : ByteArray := prog_10_method_29_code
def yX8_carries : MethodName := ⟨RX8, "carries", "(I)V"⟩
abbrev cX8_isShaped : ByteArray := prog_10_method_30_code
def yX8_isShaped : MethodName := ⟨RX8, "isShaped", "(I)Z"⟩
abbrev cX8_howCame : ByteArray := prog_10_method_31_code
def yX8_howCame : MethodName := ⟨RX8, "howCame", "(I)I"⟩
abbrev cX8_sends : ByteArray := prog_10_method_32_code
def yX8_sends : MethodName := ⟨RX8, "sends", "(III)V"⟩
abbrev cX8_isAlike : ByteArray := prog_10_method_33_code
def yX8_isAlike : MethodName := ⟨RX8, "isAlike", "(II)Z"⟩
abbrev cX8_unlikeOf : ByteArray := prog_10_method_34_code
def yX8_unlikeOf : MethodName := ⟨RX8, "unlikeOf", "(I)I"⟩
abbrev cX8_logs : ByteArray := prog_10_method_35_code
def yX8_logs : MethodName := ⟨RX8, "logs", "(II)V"⟩
abbrev cX8_sendsR : ByteArray := prog_10_method_36_code
def yX8_sendsR : MethodName := ⟨RX8, "sendsR", "(II)V"⟩
abbrev cX8_sendsAsked : ByteArray := prog_10_method_37_code
def yX8_sendsAsked : MethodName := ⟨RX8, "sendsAsked", "(I)V"⟩
abbrev cX8_asks : ByteArray := prog_10_method_38_code
def yX8_asks : MethodName := ⟨RX8, "asks", "(III)V"⟩
abbrev cX8_sendsPending : ByteArray := prog_10_method_39_code
def yX8_sendsPending : MethodName := ⟨RX8, "sendsPending", "(I)V"⟩
abbrev cX8_sendsOut : ByteArray := prog_10_method_40_code
def yX8_sendsOut : MethodName := ⟨RX8, "sendsOut", "(I)V"⟩
abbrev cX8_isThrough : ByteArray := prog_10_method_41_code
def yX8_isThrough : MethodName := ⟨RX8, "isThrough", "(I)V"⟩
abbrev cX8_empties : ByteArray := prog_10_method_42_code
def yX8_empties : MethodName := ⟨RX8, "empties", "(I)V"⟩
abbrev cX8_resynchs : ByteArray := prog_10_method_43_code
def yX8_resynchs : MethodName := ⟨RX8, "resynchs", "(I)V"⟩
abbrev cX8_isResponse : ByteArray := prog_10_method_44_code
def yX8_isResponse : MethodName := ⟨RX8, "isResponse", "(I)Z"⟩
abbrev cX8_takes : ByteArray := prog_10_method_45_code
def yX8_takes : MethodName := ⟨RX8, "takes", "(I)Z"⟩
abbrev cX8_hasMoreCome : ByteArray := prog_10_method_46_code
def yX8_hasMoreCome : MethodName := ⟨RX8, "hasMoreCome", "()Z"⟩
abbrev cX8_messageCame : ByteArray := prog_10_method_47_code
def yX8_messageCame : MethodName := ⟨RX8, "messageCame", "(I)V"⟩
abbrev cX8_wantsAgain : ByteArray := prog_10_method_48_code
def yX8_wantsAgain : MethodName := ⟨RX8, "wantsAgain", "(I)Z"⟩
abbrev cX8_goesOn : ByteArray := prog_10_method_49_code
def yX8_goesOn : MethodName := ⟨RX8, "goesOn", "(I)V"⟩
abbrev cX8_done : ByteArray := prog_10_method_50_code
def yX8_done : MethodName := ⟨RX8, "done", "()V"⟩
abbrev cX8_tries : ByteArray := prog_10_method_51_code
def yX8_tries : MethodName := ⟨RX8, "tries", "(II)V"⟩
abbrev cX8_readerGets : ByteArray := prog_10_method_52_code
def yX8_readerGets : MethodName := ⟨RX8, "readerGets", "()V"⟩
abbrev cX8_readerAnswered : ByteArray := prog_10_method_53_code
def yX8_readerAnswered : MethodName := ⟨RX8, "readerAnswered", "()V"⟩
abbrev cX8_readerTold : ByteArray := prog_10_method_54_code
def yX8_readerTold : MethodName := ⟨RX8, "readerTold", "()V"⟩
abbrev cX8_responds : ByteArray := prog_10_method_55_code
def yX8_responds : MethodName := ⟨RX8, "responds", "(I)V"⟩
abbrev cX8_readerAsked : ByteArray := prog_10_method_56_code
def yX8_readerAsked : MethodName := ⟨RX8, "readerAsked", "()V"⟩
abbrev cX8_triesOn : ByteArray := prog_10_method_57_code
def yX8_triesOn : MethodName := ⟨RX8, "triesOn", "()V"⟩
abbrev cX8_cardOut : ByteArray := prog_10_method_58_code
def yX8_cardOut : MethodName := ⟨RX8, "cardOut", "(II)V"⟩
abbrev cX8_cardSends : ByteArray := prog_10_method_59_code
def yX8_cardSends : MethodName := ⟨RX8, "cardSends", "(II)V"⟩
abbrev cX8_gotByte : ByteArray := prog_10_method_60_code
def yX8_gotByte : MethodName := ⟨RX8, "gotByte", "(II)I"⟩
abbrev cX8_cardDoes : ByteArray := prog_10_method_61_code
def yX8_cardDoes : MethodName := ⟨RX8, "cardDoes", "()V"⟩
abbrev cX8_cardWaits : ByteArray := prog_10_method_62_code
def yX8_cardWaits : MethodName := ⟨RX8, "cardWaits", "()V"⟩
abbrev cX8_cardAnswered : ByteArray := prog_10_method_63_code
def yX8_cardAnswered : MethodName := ⟨RX8, "cardAnswered", "()V"⟩
abbrev cX8_cardGets : ByteArray := prog_10_method_64_code
def yX8_cardGets : MethodName := ⟨RX8, "cardGets", "()V"⟩
abbrev cX8_bringsCame : ByteArray := prog_10_method_65_code
def yX8_bringsCame : MethodName := ⟨RX8, "bringsCame", "()V"⟩
abbrev cX8_turns : ByteArray := prog_10_method_66_code
def yX8_turns : MethodName := ⟨RX8, "turns", "()I"⟩
abbrev cX8_step : ByteArray := prog_10_method_67_code
def yX8_step : MethodName := ⟨RX8, "step", "(I)I"⟩
abbrev cX8_state : ByteArray := prog_10_method_68_code
def yX8_state : MethodName := ⟨RX8, "state", "()I"⟩
abbrev cX8_side : ByteArray := prog_10_method_69_code
def yX8_side : MethodName := ⟨RX8, "side", "(II)I"⟩
abbrev cX8_got : ByteArray := prog_10_method_70_code
def yX8_got : MethodName := ⟨RX8, "got", "(II)I"⟩
abbrev cX8_logPlace : ByteArray := prog_10_method_71_code
def yX8_logPlace : MethodName := ⟨RX8, "logPlace", "(I)I"⟩
abbrev cX8_log : ByteArray := prog_10_method_72_code
def yX8_log : MethodName := ⟨RX8, "log", "(II)I"⟩
abbrev cX8_byteOf : ByteArray := prog_10_method_73_code
def yX8_byteOf : MethodName := ⟨RX8, "byteOf", "(II)I"⟩
abbrev cX8_triesOut : ByteArray := prog_10_method_74_code
def yX8_triesOut : MethodName := ⟨RX8, "triesOut", "()V"⟩
abbrev cX8_keeps : ByteArray := prog_10_method_75_code
def yX8_keeps : MethodName := ⟨RX8, "keeps", "()V"⟩
abbrev cX8_comesBack : ByteArray := prog_10_method_76_code
def yX8_comesBack : MethodName := ⟨RX8, "comesBack", "()V"⟩
abbrev cX8_would : ByteArray := prog_10_method_77_code
def yX8_would : MethodName := ⟨RX8, "would", "(I)I"⟩
abbrev cX8_isSame : ByteArray := prog_10_method_78_code
def yX8_isSame : MethodName := ⟨RX8, "isSame", "()Z"⟩
abbrev cX8_harm : ByteArray := prog_10_method_79_code
def yX8_harm : MethodName := ⟨RX8, "harm", "(II)I"⟩
abbrev cX8_faultsToCome : ByteArray := prog_10_method_80_code
def yX8_faultsToCome : MethodName := ⟨RX8, "faultsToCome", "()I"⟩
abbrev cX8_count : ByteArray := prog_10_method_81_code
def yX8_count : MethodName := ⟨RX8, "count", "(I)I"⟩
def RJx145de : String := "java/io/Serializable"
def TJx145de : u_T := fun k => match k with
  | _ => ("", "", "", false)
def tyJx145de : Nat → FieldType := fun k => match k with
  | _ => .int
theorem nmJx145de : ∀ a, a < 0 → ∀ b, b < 0 → a ≠ b → (TJx145de a).2.1 ≠ (TJx145de b).2.1 := by decide +kernel
theorem tyJx145de_ok : ∀ k, k < 0 → parseFieldDescriptor (TJx145de k).2.2.1 = some (tyJx145de k) := by decide +kernel
def RJx8e188 : String := "java/lang/Cloneable"
def TJx8e188 : u_T := fun k => match k with
  | _ => ("", "", "", false)
def tyJx8e188 : Nat → FieldType := fun k => match k with
  | _ => .int
theorem nmJx8e188 : ∀ a, a < 0 → ∀ b, b < 0 → a ≠ b → (TJx8e188 a).2.1 ≠ (TJx8e188 b).2.1 := by decide +kernel
theorem tyJx8e188_ok : ∀ k, k < 0 → parseFieldDescriptor (TJx8e188 k).2.2.1 = some (tyJx8e188 k) := by decide +kernel
def RJ9 : String := "java/lang/Math"
def TJ9 : u_T := fun k => match k with
  | _ => ("", "", "", false)
def tyJ9 : Nat → FieldType := fun k => match k with
  | _ => .int
theorem nmJ9 : ∀ a, a < 0 → ∀ b, b < 0 → a ≠ b → (TJ9 a).2.1 ≠ (TJ9 b).2.1 := by decide +kernel
theorem tyJ9_ok : ∀ k, k < 0 → parseFieldDescriptor (TJ9 k).2.2.1 = some (tyJ9 k) := by decide +kernel
abbrev cJ9_max_7cf53 : ByteArray := prog_14_method_65_code
def yJ9_max_7cf53 : MethodName := ⟨RJ9, "max", "(II)I"⟩
abbrev cJ9_min_7cf53 : ByteArray := prog_14_method_69_code
def yJ9_min_7cf53 : MethodName := ⟨RJ9, "min", "(II)I"⟩
def RJ10 : String := "java/lang/System"
def TJ10 : u_T := fun k => match k with
  | _ => ("", "", "", false)
def tyJ10 : Nat → FieldType := fun k => match k with
  | _ => .int
theorem nmJ10 : ∀ a, a < 0 → ∀ b, b < 0 → a ≠ b → (TJ10 a).2.1 ≠ (TJ10 b).2.1 := by decide +kernel
theorem tyJ10_ok : ∀ k, k < 0 → parseFieldDescriptor (TJ10 k).2.2.1 = some (tyJ10 k) := by decide +kernel
def RJ7 : String := "java/util/Arrays"
def TJ7 : u_T := fun k => match k with
  | _ => ("", "", "", false)
def tyJ7 : Nat → FieldType := fun k => match k with
  | _ => .int
theorem nmJ7 : ∀ a, a < 0 → ∀ b, b < 0 → a ≠ b → (TJ7 a).2.1 ≠ (TJ7 b).2.1 := by decide +kernel
theorem tyJ7_ok : ∀ k, k < 0 → parseFieldDescriptor (TJ7 k).2.2.1 = some (tyJ7 k) := by decide +kernel
abbrev cJ7_fill_53178 : ByteArray := prog_18_method_103_code
def yJ7_fill_53178 : MethodName := ⟨RJ7, "fill", "([II)V"⟩
abbrev cJ7_copyOf_59c91 : ByteArray := prog_18_method_123_code
def yJ7_copyOf_59c91 : MethodName := ⟨RJ7, "copyOf", "([II)[I"⟩
def RL : String := "CardLinkLaw"
abbrev cL_log : ByteArray := method_3_code
def yL_log : MethodName := ⟨RL, "log", "(LCardLink;II[J)I"⟩
abbrev cL_law : ByteArray := code
def yL_law : MethodName := ⟨RL, "law", "([I)Z"⟩
abbrev vwCl : List vw_C := [(RX0, TX0, 7), (RX1, TX1, 9), (RX2, TX2, 18), (RX3, TX3, 11), (RX4, TX4, 3), (RX5, TX5, 15), (RX6, TX6, 10), (RX7, TX7, 7), (RX8, TX8, 39)]
end
section
/-! THE ABSTRACT MACHINE: addresses relative to the first new cell, the whole world one list of cells; a rule an instruction -/
abbrev gA : Type := (Nat × (Nat → Int32)) ⊕ ((Nat × (Nat → Int64)) ⊕ (Nat × List Value))
def gv (b0 : Nat) (sa : Nat → Nat) : Value → Value
  | .ref k => .ref (b0 + k)
  | .float j => .ref (sa j.toNat)
  | .int x => .int x
  | .long x => .long x
  | .null => .null
  | v => v
def gce (cI cJ : ClassId) (b0 : Nat) (sa : Nat → Nat) : gA → va_E
  | .inl nf => .inl (cI, nf.1, .inl nf.2)
  | .inr (.inl nf) => .inl (cJ, nf.1, .inr (.inl nf.2))
  | .inr (.inr cf) => .inr (cf.1, cf.2.map (gv b0 sa))
def gH (D : va_G) (cI cJ : ClassId) (b0 : Nat) (sa : Nat → Nat) (hp : List gA) (H : Heap) : Prop :=
  H.size = b0 + hp.length ∧ ∀ (k : Nat) (e : gA), hp[k]? = some e → va_at D vwCl (b0 + k, gce cI cJ b0 sa e) H
def gL (b0 : Nat) (sa : Nat → Nat) (arr : Array Slot) (ls : List (Option Value)) : Prop :=
  arr.size = ls.length ∧ lv_wf arr ∧ ∀ (i : Nat) (v : Value), ls[i]? = some (some v) → arr[i]? = some (.val (gv b0 sa v))
def gW : List Cond := lw_tbl.filter goodWord
theorem gW_of {w : Cond} (h : w ∈ lw_tbl) (hg : goodWord w = true) : w ∈ gW := List.mem_filter.mpr ⟨h, hg⟩
theorem gW_good {w : Cond} (h : w ∈ gW) : (w.onTables && w.keeps) = true ∨ ∃ ty, w = .arrayClass ty := good_of_word (List.mem_filter.mp h).2
abbrev gX : Type := (Program × Launch × Env × Room) × (State × MethodId × Array Value × List Frame) × (Method × Code) × (va_G × ClassId × ClassId) × (Nat × (Nat → Nat)) × (State → Prop)
abbrev xp (X : gX) : Program := X.1.1
abbrev xl (X : gX) : Launch := X.1.2.1
abbrev xe (X : gX) : Env := X.1.2.2.1
abbrev xR (X : gX) : Room := X.1.2.2.2
abbrev xs (X : gX) : State := X.2.1.1
abbrev xm (X : gX) : MethodId := X.2.1.2.1
abbrev xa (X : gX) : Array Value := X.2.1.2.2.1
abbrev xb (X : gX) : List Frame := X.2.1.2.2.2
abbrev xt (X : gX) : Method := X.2.2.1.1
abbrev xc (X : gX) : Code := X.2.2.1.2
abbrev xD (X : gX) : va_G := X.2.2.2.1.1
abbrev xI (X : gX) : ClassId := X.2.2.2.1.2.1
abbrev xJ (X : gX) : ClassId := X.2.2.2.1.2.2
abbrev xB (X : gX) : Nat := X.2.2.2.2.1.1
abbrev xA (X : gX) : Nat → Nat := X.2.2.2.2.1.2
abbrev xQ (X : gX) : State → Prop := X.2.2.2.2.2
def gG (X : gX) (pc : Nat) (ls : List (Option Value)) (st : List Value) (hp : List gA) (cl sl : Nat) : Prop :=
  ∀ (arr : Array Slot) (H : Heap) (locs : List Loc), gL (xB X) (xA X) arr ls → gH (xD X) (xI X) (xJ X) (xB X) (xA X) hp H → va_S (fun q => xB X ≤ q) (xs X).heap H locs →
    W (xp X) (xl X) (xe X) (xR X) (xs X) (xm X) (xa X) (xb X) (xt X) (xc X) H locs cl sl (xQ X) (F0 (xm X) pc arr (st.map (gv (xB X) (xA X))))
/-- the nest mates' constructors that are called: by the Statement's words -/
def gNest : List (String × Nat × MethodName × String) := [(RX7, 20, yX1_init, RX7), (RX2, 25, yX6_init, RX7), (RX7, 36, yX0_init, RX7), (RX7, 43, yX3_init, RX7)]
def gN (U : State) : Prop := ∀ z ∈ gNest, va_Nw (.methodLinkNest z.1 z.2.1 z.2.2.1 z.2.2.2) U
theorem gN.same {u U : State} (h : u.vm = U.vm) (hN : gN u) : gN U := fun z hz => va_Nw.same rfl h (hN z hz)
theorem gN.warm {s U : State} (hW : s.WarmedH U.vm) (hN : gN s) : gN U := fun z hz => va_Nw.warmM hW (hN z hz)
/-- what is known of the method that runs: the machine, its code, its class, the tables' words, the classes, its room -/
def gC (X : gX) (own nm : String) (cc : ByteArray) (nL : Nat) (rm : Room) : Prop :=
  (xp X).tables.exec = Jvm.exec ∧ (xc X).code = cc ∧ (xc X).maxLocals = nL ∧ (xs X).vm.findClass own = some (xm X).cls ∧ (∀ w ∈ gW, w.before (xa X) (xs X) = true) ∧
  va_K (xD X) vwCl [(xI X, .int), (xJ X, .long)] (xs X) ∧ xB X ≤ (xs X).heap.size ∧ (xt X).locks = false ∧ xR X = rm ∧ (xt X).name = nm ∧ gN (xs X)
section GR
variable {X : gX} {own nm : String} {cc : ByteArray} {nL : Nat} {rm : Room} {pc q : Nat} {ls : List (Option Value)} {st : List Value} {hp : List gA} {cl sl : Nat}

theorem g_iconst (C : gC X own nm cc nL rm) {n : Int} {v : Int32} (hd : decode cc pc = .ok (.iconst n, 1)) (hv : Int32.ofInt n = v) (hq : pc + 1 = q) (k : gG X q ls (.int v :: st) hp cl sl) : gG X pc ls (st) hp cl sl := by
  subst hq; exact fun arr H locs hl hh hS => lv_iconst C.1 C.2.1 hd hv (k arr H locs hl hh hS)
theorem g_bipush (C : gC X own nm cc nL rm) {n : Int} {v : Int32} (hd : decode cc pc = .ok (.bipush n, 2)) (hv : (Int8.ofInt n).toInt32 = v) (hq : pc + 2 = q) (k : gG X q ls (.int v :: st) hp cl sl) : gG X pc ls (st) hp cl sl := by
  subst hq; exact fun arr H locs hl hh hS => lv_bipush C.1 C.2.1 hd hv (k arr H locs hl hh hS)
theorem g_sipush (C : gC X own nm cc nL rm) {n : Int} {v : Int32} (hd : decode cc pc = .ok (.sipush n, 3)) (hv : (Int16.ofInt n).toInt32 = v) (hq : pc + 3 = q) (k : gG X q ls (.int v :: st) hp cl sl) : gG X pc ls (st) hp cl sl := by
  subst hq; exact fun arr H locs hl hh hS => lv_sipush C.1 C.2.1 hd hv (k arr H locs hl hh hS)
theorem g_ldc (C : gC X own nm cc nL rm) {ix : Nat} {v : Int32} (hk : Jvm.Cond.constant own ix v ∈ gW) (hd : decode cc pc = .ok (.ldc ix, 2)) (hq : pc + 2 = q) (k : gG X q ls (.int v :: st) hp cl sl) : gG X pc ls (st) hp cl sl := by
  subst hq; exact fun arr H locs hl hh hS => lv_ldc C.1 C.2.1 C.2.2.2.1 (C.2.2.2.2.1 _ hk) hd (k arr H locs hl hh hS)
theorem g_ldc2 (C : gC X own nm cc nL rm) {ix : Nat} {v : Int64} (hk : Jvm.Cond.constantLong own ix v ∈ gW) (hd : decode cc pc = .ok (.ldc2_w ix, 3)) (hq : pc + 3 = q) (k : gG X q ls (.long v :: st) hp cl sl) : gG X pc ls (st) hp cl sl := by
  subst hq; exact fun arr H locs hl hh hS => lv_ldc2 C.1 C.2.1 C.2.2.2.1 (C.2.2.2.2.1 _ hk) hd (k arr H locs hl hh hS)
theorem g_null (C : gC X own nm cc nL rm) (hd : decode cc pc = .ok (.aconst_null, 1)) (hq : pc + 1 = q) (k : gG X q ls (.null :: st) hp cl sl) : gG X pc ls (st) hp cl sl := by
  subst hq; exact fun arr H locs hl hh hS => lv_null C.1 C.2.1 hd (k arr H locs hl hh hS)
theorem g_iadd (C : gC X own nm cc nL rm) {x z : Int32} (hd : decode cc pc = .ok (.iadd, 1)) (hq : pc + 1 = q) (k : gG X q ls (.int (x + z) :: st) hp cl sl) : gG X pc ls (.int z :: .int x :: st) hp cl sl := by
  subst hq; exact fun arr H locs hl hh hS => lv_iadd C.1 C.2.1 hd (k arr H locs hl hh hS)
theorem g_isub (C : gC X own nm cc nL rm) {x z : Int32} (hd : decode cc pc = .ok (.isub, 1)) (hq : pc + 1 = q) (k : gG X q ls (.int (x - z) :: st) hp cl sl) : gG X pc ls (.int z :: .int x :: st) hp cl sl := by
  subst hq; exact fun arr H locs hl hh hS => lv_isub C.1 C.2.1 hd (k arr H locs hl hh hS)
theorem g_imul (C : gC X own nm cc nL rm) {x z : Int32} (hd : decode cc pc = .ok (.imul, 1)) (hq : pc + 1 = q) (k : gG X q ls (.int (x * z) :: st) hp cl sl) : gG X pc ls (.int z :: .int x :: st) hp cl sl := by
  subst hq; exact fun arr H locs hl hh hS => lv_imul C.1 C.2.1 hd (k arr H locs hl hh hS)
theorem g_iand (C : gC X own nm cc nL rm) {x z : Int32} (hd : decode cc pc = .ok (.iand, 1)) (hq : pc + 1 = q) (k : gG X q ls (.int (x &&& z) :: st) hp cl sl) : gG X pc ls (.int z :: .int x :: st) hp cl sl := by
  subst hq; exact fun arr H locs hl hh hS => lv_iand C.1 C.2.1 hd (k arr H locs hl hh hS)
theorem g_ior (C : gC X own nm cc nL rm) {x z : Int32} (hd : decode cc pc = .ok (.ior, 1)) (hq : pc + 1 = q) (k : gG X q ls (.int (x ||| z) :: st) hp cl sl) : gG X pc ls (.int z :: .int x :: st) hp cl sl := by
  subst hq; exact fun arr H locs hl hh hS => lv_ior C.1 C.2.1 hd (k arr H locs hl hh hS)
theorem g_ixor (C : gC X own nm cc nL rm) {x z : Int32} (hd : decode cc pc = .ok (.ixor, 1)) (hq : pc + 1 = q) (k : gG X q ls (.int (x ^^^ z) :: st) hp cl sl) : gG X pc ls (.int z :: .int x :: st) hp cl sl := by
  subst hq; exact fun arr H locs hl hh hS => lv_ixor C.1 C.2.1 hd (k arr H locs hl hh hS)
theorem g_ishl (C : gC X own nm cc nL rm) {x z : Int32} (hd : decode cc pc = .ok (.ishl, 1)) (hq : pc + 1 = q) (k : gG X q ls (.int (x <<< (z &&& 31)) :: st) hp cl sl) : gG X pc ls (.int z :: .int x :: st) hp cl sl := by
  subst hq; exact fun arr H locs hl hh hS => lv_ishl C.1 C.2.1 hd (k arr H locs hl hh hS)
theorem g_ishr (C : gC X own nm cc nL rm) {x z : Int32} (hd : decode cc pc = .ok (.ishr, 1)) (hq : pc + 1 = q) (k : gG X q ls (.int (x >>> (z &&& 31)) :: st) hp cl sl) : gG X pc ls (.int z :: .int x :: st) hp cl sl := by
  subst hq; exact fun arr H locs hl hh hS => lv_ishr C.1 C.2.1 hd (k arr H locs hl hh hS)
theorem g_iushr (C : gC X own nm cc nL rm) {x z : Int32} (hd : decode cc pc = .ok (.iushr, 1)) (hq : pc + 1 = q) (k : gG X q ls (.int ((x.toUInt32 >>> (z.toUInt32 &&& Int32.toUInt32 31)).toInt32) :: st) hp cl sl) : gG X pc ls (.int z :: .int x :: st) hp cl sl := by
  subst hq; exact fun arr H locs hl hh hS => lv_iushr C.1 C.2.1 hd rfl (k arr H locs hl hh hS)
theorem g_ineg (C : gC X own nm cc nL rm) {x : Int32} (hd : decode cc pc = .ok (.ineg, 1)) (hq : pc + 1 = q) (k : gG X q ls (.int (-x) :: st) hp cl sl) : gG X pc ls (.int x :: st) hp cl sl := by
  subst hq; exact fun arr H locs hl hh hS => lv_ineg C.1 C.2.1 hd (k arr H locs hl hh hS)
theorem g_idiv (C : gC X own nm cc nL rm) {x z : Int32} (hd : decode cc pc = .ok (.idiv, 1)) (hne : ¬ z = 0) (hq : pc + 1 = q) (k : gG X q ls (.int (x / z) :: st) hp cl sl) : gG X pc ls (.int z :: .int x :: st) hp cl sl := by
  subst hq; exact fun arr H locs hl hh hS => lv_idiv C.1 C.2.1 hd hne (k arr H locs hl hh hS)
theorem g_irem (C : gC X own nm cc nL rm) {x z : Int32} (hd : decode cc pc = .ok (.irem, 1)) (hne : ¬ z = 0) (hq : pc + 1 = q) (k : gG X q ls (.int (x - x / z * z) :: st) hp cl sl) : gG X pc ls (.int z :: .int x :: st) hp cl sl := by
  subst hq; exact fun arr H locs hl hh hS => lv_irem C.1 C.2.1 hd hne (k arr H locs hl hh hS)
theorem g_i2l (C : gC X own nm cc nL rm) {x : Int32} (hd : decode cc pc = .ok (.i2l, 1)) (hq : pc + 1 = q) (k : gG X q ls (.long x.toInt64 :: st) hp cl sl) : gG X pc ls (.int x :: st) hp cl sl := by
  subst hq; exact fun arr H locs hl hh hS => lv_i2l C.1 C.2.1 hd rfl (k arr H locs hl hh hS)
theorem g_l2i (C : gC X own nm cc nL rm) {x : Int64} (hd : decode cc pc = .ok (.l2i, 1)) (hq : pc + 1 = q) (k : gG X q ls (.int x.toInt32 :: st) hp cl sl) : gG X pc ls (.long x :: st) hp cl sl := by
  subst hq; exact fun arr H locs hl hh hS => lv_l2i C.1 C.2.1 hd rfl (k arr H locs hl hh hS)
theorem g_lushr (C : gC X own nm cc nL rm) {x : Int64} {z : Int32} (hd : decode cc pc = .ok (.lushr, 1)) (hq : pc + 1 = q) (k : gG X q ls (.long ((x.toUInt64 >>> (z.toInt64.toUInt64 &&& Int64.toUInt64 63)).toInt64) :: st) hp cl sl) : gG X pc ls (.int z :: .long x :: st) hp cl sl := by
  subst hq; exact fun arr H locs hl hh hS => lv_lushr C.1 C.2.1 hd rfl (k arr H locs hl hh hS)
theorem g_lshl (C : gC X own nm cc nL rm) {x : Int64} {z : Int32} (hd : decode cc pc = .ok (.lshl, 1)) (hq : pc + 1 = q) (k : gG X q ls (.long (x <<< (z.toInt64 &&& 63)) :: st) hp cl sl) : gG X pc ls (.int z :: .long x :: st) hp cl sl := by
  subst hq; exact fun arr H locs hl hh hS => lv_lshl C.1 C.2.1 hd rfl (k arr H locs hl hh hS)
theorem g_lshr (C : gC X own nm cc nL rm) {x : Int64} {z : Int32} (hd : decode cc pc = .ok (.lshr, 1)) (hq : pc + 1 = q) (k : gG X q ls (.long (x >>> (z.toInt64 &&& 63)) :: st) hp cl sl) : gG X pc ls (.int z :: .long x :: st) hp cl sl := by
  subst hq; exact fun arr H locs hl hh hS => lv_lshr C.1 C.2.1 hd rfl (k arr H locs hl hh hS)
theorem g_land (C : gC X own nm cc nL rm) {x z : Int64} (hd : decode cc pc = .ok (.land, 1)) (hq : pc + 1 = q) (k : gG X q ls (.long (x &&& z) :: st) hp cl sl) : gG X pc ls (.long z :: .long x :: st) hp cl sl := by
  subst hq; exact fun arr H locs hl hh hS => lv_land C.1 C.2.1 hd (k arr H locs hl hh hS)
theorem g_lor (C : gC X own nm cc nL rm) {x z : Int64} (hd : decode cc pc = .ok (.lor, 1)) (hq : pc + 1 = q) (k : gG X q ls (.long (x ||| z) :: st) hp cl sl) : gG X pc ls (.long z :: .long x :: st) hp cl sl := by
  subst hq; exact fun arr H locs hl hh hS => lv_lor C.1 C.2.1 hd (k arr H locs hl hh hS)
theorem g_lcmp (C : gC X own nm cc nL rm) {x z : Int64} (hd : decode cc pc = .ok (.lcmp, 1)) (hq : pc + 1 = q) (k : gG X q ls (.int (lg_cmp x z) :: st) hp cl sl) : gG X pc ls (.long z :: .long x :: st) hp cl sl := by
  subst hq; exact fun arr H locs hl hh hS => W.lcmp C.1 C.2.1 hd (k arr H locs hl hh hS)
theorem gv_cat (b0 : Nat) (sa : Nat → Nat) (v : Value) : (gv b0 sa v).category = v.category := by cases v <;> rfl
theorem g_dup (C : gC X own nm cc nL rm) {v : Value} (hd : decode cc pc = .ok (.dup, 1)) (hv : v.category = 1) (hq : pc + 1 = q) (k : gG X q ls (v :: v :: st) hp cl sl) : gG X pc ls (v :: st) hp cl sl := by
  subst hq; exact fun arr H locs hl hh hS => lv_dup C.1 C.2.1 hd (by rw [gv_cat]; exact hv) (k arr H locs hl hh hS)
theorem g_pop (C : gC X own nm cc nL rm) {v : Value} (hd : decode cc pc = .ok (.pop, 1)) (hv : v.category = 1) (hq : pc + 1 = q) (k : gG X q ls (st) hp cl sl) : gG X pc ls (v :: st) hp cl sl := by
  subst hq; exact fun arr H locs hl hh hS => lv_pop C.1 C.2.1 hd (by rw [gv_cat]; exact hv) (k arr H locs hl hh hS)
theorem g_dup_x1 (C : gC X own nm cc nL rm) {v v2 : Value} (hd : decode cc pc = .ok (.dup_x1, 1)) (hv : v.category = 1) (hv2 : v2.category = 1) (hq : pc + 1 = q) (k : gG X q ls (v :: v2 :: v :: st) hp cl sl) : gG X pc ls (v :: v2 :: st) hp cl sl := by
  subst hq; exact fun arr H locs hl hh hS => lv_dup_x1 C.1 C.2.1 hd (by rw [gv_cat]; exact hv) (by rw [gv_cat]; exact hv2) (k arr H locs hl hh hS)
theorem g_dup2 (C : gC X own nm cc nL rm) {v v2 : Value} (hd : decode cc pc = .ok (.dup2, 1)) (hv : v.category = 1) (hv2 : v2.category = 1) (hq : pc + 1 = q) (k : gG X q ls (v :: v2 :: v :: v2 :: st) hp cl sl) : gG X pc ls (v :: v2 :: st) hp cl sl := by
  subst hq; exact fun arr H locs hl hh hS => lv_dup2_11 C.1 C.2.1 hd (by rw [gv_cat]; exact hv) (by rw [gv_cat]; exact hv2) (k arr H locs hl hh hS)
theorem g_goto (C : gC X own nm cc nL rm) {off : Int} (hd : decode cc pc = .ok (.goto off, 3)) (ht : (pc : Int) + off = (q : Int)) (k : gG X q ls st hp cl sl) : gG X pc ls st hp cl sl :=
  fun arr H locs hl hh hS => lv_goto C.1 C.2.1 hd ht (k arr H locs hl hh hS)
theorem g_if_eq (C : gC X own nm cc nL rm) {x : Int32} {off : Int} {t : Nat} (hd : decode cc pc = .ok (.ifCond .eq off, 3)) (ht : (pc : Int) + off = (t : Int)) (hq : pc + 3 = q) (kt : x = 0 → gG X t ls st hp cl sl) (kf : ¬ x = 0 → gG X q ls st hp cl sl) : gG X pc ls (.int x :: st) hp cl sl := by
  subst hq; exact fun arr H locs hl hh hS => lv_if_eq C.1 C.2.1 hd ht (fun h => kt h arr H locs hl hh hS) (fun h => kf h arr H locs hl hh hS)
theorem g_if_eq_t (C : gC X own nm cc nL rm) {x : Int32} {off : Int} {t : Nat} (hd : decode cc pc = .ok (.ifCond .eq off, 3)) (ht : (pc : Int) + off = (t : Int)) (h : x = 0) (kt : gG X t ls st hp cl sl) : gG X pc ls (.int x :: st) hp cl sl := g_if_eq C hd ht rfl (fun _ => kt) (fun h9 => absurd (h) (h9))
theorem g_if_eq_f (C : gC X own nm cc nL rm) {x : Int32} {off : Int} {t : Nat} (hd : decode cc pc = .ok (.ifCond .eq off, 3)) (ht : (pc : Int) + off = (t : Int)) (hq : pc + 3 = q) (h : ¬ x = 0) (kf : gG X q ls st hp cl sl) : gG X pc ls (.int x :: st) hp cl sl := g_if_eq C hd ht hq (fun h9 => absurd (h9) (h)) (fun _ => kf)
theorem g_icmp_eq (C : gC X own nm cc nL rm) {x z : Int32} {off : Int} {t : Nat} (hd : decode cc pc = .ok (.if_icmp .eq off, 3)) (ht : (pc : Int) + off = (t : Int)) (hq : pc + 3 = q) (kt : x = z → gG X t ls st hp cl sl) (kf : ¬ x = z → gG X q ls st hp cl sl) : gG X pc ls (.int z :: .int x :: st) hp cl sl := by
  subst hq; exact fun arr H locs hl hh hS => lv_icmp_eq C.1 C.2.1 hd ht (fun h => kt h arr H locs hl hh hS) (fun h => kf h arr H locs hl hh hS)
theorem g_icmp_eq_t (C : gC X own nm cc nL rm) {x z : Int32} {off : Int} {t : Nat} (hd : decode cc pc = .ok (.if_icmp .eq off, 3)) (ht : (pc : Int) + off = (t : Int)) (h : x = z) (kt : gG X t ls st hp cl sl) : gG X pc ls (.int z :: .int x :: st) hp cl sl := g_icmp_eq C hd ht rfl (fun _ => kt) (fun h9 => absurd (h) (h9))
theorem g_icmp_eq_f (C : gC X own nm cc nL rm) {x z : Int32} {off : Int} {t : Nat} (hd : decode cc pc = .ok (.if_icmp .eq off, 3)) (ht : (pc : Int) + off = (t : Int)) (hq : pc + 3 = q) (h : ¬ x = z) (kf : gG X q ls st hp cl sl) : gG X pc ls (.int z :: .int x :: st) hp cl sl := g_icmp_eq C hd ht hq (fun h9 => absurd (h9) (h)) (fun _ => kf)
theorem g_if_ne (C : gC X own nm cc nL rm) {x : Int32} {off : Int} {t : Nat} (hd : decode cc pc = .ok (.ifCond .ne off, 3)) (ht : (pc : Int) + off = (t : Int)) (hq : pc + 3 = q) (kt : ¬ x = 0 → gG X t ls st hp cl sl) (kf : x = 0 → gG X q ls st hp cl sl) : gG X pc ls (.int x :: st) hp cl sl := by
  subst hq; exact fun arr H locs hl hh hS => lv_if_ne C.1 C.2.1 hd ht (fun h => kt h arr H locs hl hh hS) (fun h => kf h arr H locs hl hh hS)
theorem g_if_ne_t (C : gC X own nm cc nL rm) {x : Int32} {off : Int} {t : Nat} (hd : decode cc pc = .ok (.ifCond .ne off, 3)) (ht : (pc : Int) + off = (t : Int)) (h : ¬ x = 0) (kt : gG X t ls st hp cl sl) : gG X pc ls (.int x :: st) hp cl sl := g_if_ne C hd ht rfl (fun _ => kt) (fun h9 => absurd (h9) (h))
theorem g_if_ne_f (C : gC X own nm cc nL rm) {x : Int32} {off : Int} {t : Nat} (hd : decode cc pc = .ok (.ifCond .ne off, 3)) (ht : (pc : Int) + off = (t : Int)) (hq : pc + 3 = q) (h : x = 0) (kf : gG X q ls st hp cl sl) : gG X pc ls (.int x :: st) hp cl sl := g_if_ne C hd ht hq (fun h9 => absurd (h) (h9)) (fun _ => kf)
theorem g_icmp_ne (C : gC X own nm cc nL rm) {x z : Int32} {off : Int} {t : Nat} (hd : decode cc pc = .ok (.if_icmp .ne off, 3)) (ht : (pc : Int) + off = (t : Int)) (hq : pc + 3 = q) (kt : ¬ x = z → gG X t ls st hp cl sl) (kf : x = z → gG X q ls st hp cl sl) : gG X pc ls (.int z :: .int x :: st) hp cl sl := by
  subst hq; exact fun arr H locs hl hh hS => lv_icmp_ne C.1 C.2.1 hd ht (fun h => kt h arr H locs hl hh hS) (fun h => kf h arr H locs hl hh hS)
theorem g_icmp_ne_t (C : gC X own nm cc nL rm) {x z : Int32} {off : Int} {t : Nat} (hd : decode cc pc = .ok (.if_icmp .ne off, 3)) (ht : (pc : Int) + off = (t : Int)) (h : ¬ x = z) (kt : gG X t ls st hp cl sl) : gG X pc ls (.int z :: .int x :: st) hp cl sl := g_icmp_ne C hd ht rfl (fun _ => kt) (fun h9 => absurd (h9) (h))
theorem g_icmp_ne_f (C : gC X own nm cc nL rm) {x z : Int32} {off : Int} {t : Nat} (hd : decode cc pc = .ok (.if_icmp .ne off, 3)) (ht : (pc : Int) + off = (t : Int)) (hq : pc + 3 = q) (h : x = z) (kf : gG X q ls st hp cl sl) : gG X pc ls (.int z :: .int x :: st) hp cl sl := g_icmp_ne C hd ht hq (fun h9 => absurd (h) (h9)) (fun _ => kf)
theorem g_if_lt (C : gC X own nm cc nL rm) {x : Int32} {off : Int} {t : Nat} (hd : decode cc pc = .ok (.ifCond .lt off, 3)) (ht : (pc : Int) + off = (t : Int)) (hq : pc + 3 = q) (kt : x < 0 → gG X t ls st hp cl sl) (kf : ¬ x < 0 → gG X q ls st hp cl sl) : gG X pc ls (.int x :: st) hp cl sl := by
  subst hq; exact fun arr H locs hl hh hS => lv_if_lt C.1 C.2.1 hd ht (fun h => kt h arr H locs hl hh hS) (fun h => kf h arr H locs hl hh hS)
theorem g_if_lt_t (C : gC X own nm cc nL rm) {x : Int32} {off : Int} {t : Nat} (hd : decode cc pc = .ok (.ifCond .lt off, 3)) (ht : (pc : Int) + off = (t : Int)) (h : x < 0) (kt : gG X t ls st hp cl sl) : gG X pc ls (.int x :: st) hp cl sl := g_if_lt C hd ht rfl (fun _ => kt) (fun h9 => absurd (h) (h9))
theorem g_if_lt_f (C : gC X own nm cc nL rm) {x : Int32} {off : Int} {t : Nat} (hd : decode cc pc = .ok (.ifCond .lt off, 3)) (ht : (pc : Int) + off = (t : Int)) (hq : pc + 3 = q) (h : ¬ x < 0) (kf : gG X q ls st hp cl sl) : gG X pc ls (.int x :: st) hp cl sl := g_if_lt C hd ht hq (fun h9 => absurd (h9) (h)) (fun _ => kf)
theorem g_icmp_lt (C : gC X own nm cc nL rm) {x z : Int32} {off : Int} {t : Nat} (hd : decode cc pc = .ok (.if_icmp .lt off, 3)) (ht : (pc : Int) + off = (t : Int)) (hq : pc + 3 = q) (kt : x < z → gG X t ls st hp cl sl) (kf : ¬ x < z → gG X q ls st hp cl sl) : gG X pc ls (.int z :: .int x :: st) hp cl sl := by
  subst hq; exact fun arr H locs hl hh hS => lv_icmp_lt C.1 C.2.1 hd ht (fun h => kt h arr H locs hl hh hS) (fun h => kf h arr H locs hl hh hS)
theorem g_icmp_lt_t (C : gC X own nm cc nL rm) {x z : Int32} {off : Int} {t : Nat} (hd : decode cc pc = .ok (.if_icmp .lt off, 3)) (ht : (pc : Int) + off = (t : Int)) (h : x < z) (kt : gG X t ls st hp cl sl) : gG X pc ls (.int z :: .int x :: st) hp cl sl := g_icmp_lt C hd ht rfl (fun _ => kt) (fun h9 => absurd (h) (h9))
theorem g_icmp_lt_f (C : gC X own nm cc nL rm) {x z : Int32} {off : Int} {t : Nat} (hd : decode cc pc = .ok (.if_icmp .lt off, 3)) (ht : (pc : Int) + off = (t : Int)) (hq : pc + 3 = q) (h : ¬ x < z) (kf : gG X q ls st hp cl sl) : gG X pc ls (.int z :: .int x :: st) hp cl sl := g_icmp_lt C hd ht hq (fun h9 => absurd (h9) (h)) (fun _ => kf)
theorem g_if_ge (C : gC X own nm cc nL rm) {x : Int32} {off : Int} {t : Nat} (hd : decode cc pc = .ok (.ifCond .ge off, 3)) (ht : (pc : Int) + off = (t : Int)) (hq : pc + 3 = q) (kt : 0 ≤ x → gG X t ls st hp cl sl) (kf : ¬ 0 ≤ x → gG X q ls st hp cl sl) : gG X pc ls (.int x :: st) hp cl sl := by
  subst hq; exact fun arr H locs hl hh hS => lv_if_ge C.1 C.2.1 hd ht (fun h => kt h arr H locs hl hh hS) (fun h => kf h arr H locs hl hh hS)
theorem g_if_ge_t (C : gC X own nm cc nL rm) {x : Int32} {off : Int} {t : Nat} (hd : decode cc pc = .ok (.ifCond .ge off, 3)) (ht : (pc : Int) + off = (t : Int)) (h : 0 ≤ x) (kt : gG X t ls st hp cl sl) : gG X pc ls (.int x :: st) hp cl sl := g_if_ge C hd ht rfl (fun _ => kt) (fun h9 => absurd (h) (h9))
theorem g_if_ge_f (C : gC X own nm cc nL rm) {x : Int32} {off : Int} {t : Nat} (hd : decode cc pc = .ok (.ifCond .ge off, 3)) (ht : (pc : Int) + off = (t : Int)) (hq : pc + 3 = q) (h : ¬ 0 ≤ x) (kf : gG X q ls st hp cl sl) : gG X pc ls (.int x :: st) hp cl sl := g_if_ge C hd ht hq (fun h9 => absurd (h9) (h)) (fun _ => kf)
theorem g_icmp_ge (C : gC X own nm cc nL rm) {x z : Int32} {off : Int} {t : Nat} (hd : decode cc pc = .ok (.if_icmp .ge off, 3)) (ht : (pc : Int) + off = (t : Int)) (hq : pc + 3 = q) (kt : z ≤ x → gG X t ls st hp cl sl) (kf : ¬ z ≤ x → gG X q ls st hp cl sl) : gG X pc ls (.int z :: .int x :: st) hp cl sl := by
  subst hq; exact fun arr H locs hl hh hS => lv_icmp_ge C.1 C.2.1 hd ht (fun h => kt h arr H locs hl hh hS) (fun h => kf h arr H locs hl hh hS)
theorem g_icmp_ge_t (C : gC X own nm cc nL rm) {x z : Int32} {off : Int} {t : Nat} (hd : decode cc pc = .ok (.if_icmp .ge off, 3)) (ht : (pc : Int) + off = (t : Int)) (h : z ≤ x) (kt : gG X t ls st hp cl sl) : gG X pc ls (.int z :: .int x :: st) hp cl sl := g_icmp_ge C hd ht rfl (fun _ => kt) (fun h9 => absurd (h) (h9))
theorem g_icmp_ge_f (C : gC X own nm cc nL rm) {x z : Int32} {off : Int} {t : Nat} (hd : decode cc pc = .ok (.if_icmp .ge off, 3)) (ht : (pc : Int) + off = (t : Int)) (hq : pc + 3 = q) (h : ¬ z ≤ x) (kf : gG X q ls st hp cl sl) : gG X pc ls (.int z :: .int x :: st) hp cl sl := g_icmp_ge C hd ht hq (fun h9 => absurd (h9) (h)) (fun _ => kf)
theorem g_if_gt (C : gC X own nm cc nL rm) {x : Int32} {off : Int} {t : Nat} (hd : decode cc pc = .ok (.ifCond .gt off, 3)) (ht : (pc : Int) + off = (t : Int)) (hq : pc + 3 = q) (kt : 0 < x → gG X t ls st hp cl sl) (kf : ¬ 0 < x → gG X q ls st hp cl sl) : gG X pc ls (.int x :: st) hp cl sl := by
  subst hq; exact fun arr H locs hl hh hS => lv_if_gt C.1 C.2.1 hd ht (fun h => kt h arr H locs hl hh hS) (fun h => kf h arr H locs hl hh hS)
theorem g_if_gt_t (C : gC X own nm cc nL rm) {x : Int32} {off : Int} {t : Nat} (hd : decode cc pc = .ok (.ifCond .gt off, 3)) (ht : (pc : Int) + off = (t : Int)) (h : 0 < x) (kt : gG X t ls st hp cl sl) : gG X pc ls (.int x :: st) hp cl sl := g_if_gt C hd ht rfl (fun _ => kt) (fun h9 => absurd (h) (h9))
theorem g_if_gt_f (C : gC X own nm cc nL rm) {x : Int32} {off : Int} {t : Nat} (hd : decode cc pc = .ok (.ifCond .gt off, 3)) (ht : (pc : Int) + off = (t : Int)) (hq : pc + 3 = q) (h : ¬ 0 < x) (kf : gG X q ls st hp cl sl) : gG X pc ls (.int x :: st) hp cl sl := g_if_gt C hd ht hq (fun h9 => absurd (h9) (h)) (fun _ => kf)
theorem g_icmp_gt (C : gC X own nm cc nL rm) {x z : Int32} {off : Int} {t : Nat} (hd : decode cc pc = .ok (.if_icmp .gt off, 3)) (ht : (pc : Int) + off = (t : Int)) (hq : pc + 3 = q) (kt : z < x → gG X t ls st hp cl sl) (kf : ¬ z < x → gG X q ls st hp cl sl) : gG X pc ls (.int z :: .int x :: st) hp cl sl := by
  subst hq; exact fun arr H locs hl hh hS => lv_icmp_gt C.1 C.2.1 hd ht (fun h => kt h arr H locs hl hh hS) (fun h => kf h arr H locs hl hh hS)
theorem g_icmp_gt_t (C : gC X own nm cc nL rm) {x z : Int32} {off : Int} {t : Nat} (hd : decode cc pc = .ok (.if_icmp .gt off, 3)) (ht : (pc : Int) + off = (t : Int)) (h : z < x) (kt : gG X t ls st hp cl sl) : gG X pc ls (.int z :: .int x :: st) hp cl sl := g_icmp_gt C hd ht rfl (fun _ => kt) (fun h9 => absurd (h) (h9))
theorem g_icmp_gt_f (C : gC X own nm cc nL rm) {x z : Int32} {off : Int} {t : Nat} (hd : decode cc pc = .ok (.if_icmp .gt off, 3)) (ht : (pc : Int) + off = (t : Int)) (hq : pc + 3 = q) (h : ¬ z < x) (kf : gG X q ls st hp cl sl) : gG X pc ls (.int z :: .int x :: st) hp cl sl := g_icmp_gt C hd ht hq (fun h9 => absurd (h9) (h)) (fun _ => kf)
theorem g_if_le (C : gC X own nm cc nL rm) {x : Int32} {off : Int} {t : Nat} (hd : decode cc pc = .ok (.ifCond .le off, 3)) (ht : (pc : Int) + off = (t : Int)) (hq : pc + 3 = q) (kt : x ≤ 0 → gG X t ls st hp cl sl) (kf : ¬ x ≤ 0 → gG X q ls st hp cl sl) : gG X pc ls (.int x :: st) hp cl sl := by
  subst hq; exact fun arr H locs hl hh hS => lv_if_le C.1 C.2.1 hd ht (fun h => kt h arr H locs hl hh hS) (fun h => kf h arr H locs hl hh hS)
theorem g_if_le_t (C : gC X own nm cc nL rm) {x : Int32} {off : Int} {t : Nat} (hd : decode cc pc = .ok (.ifCond .le off, 3)) (ht : (pc : Int) + off = (t : Int)) (h : x ≤ 0) (kt : gG X t ls st hp cl sl) : gG X pc ls (.int x :: st) hp cl sl := g_if_le C hd ht rfl (fun _ => kt) (fun h9 => absurd (h) (h9))
theorem g_if_le_f (C : gC X own nm cc nL rm) {x : Int32} {off : Int} {t : Nat} (hd : decode cc pc = .ok (.ifCond .le off, 3)) (ht : (pc : Int) + off = (t : Int)) (hq : pc + 3 = q) (h : ¬ x ≤ 0) (kf : gG X q ls st hp cl sl) : gG X pc ls (.int x :: st) hp cl sl := g_if_le C hd ht hq (fun h9 => absurd (h9) (h)) (fun _ => kf)
theorem g_icmp_le (C : gC X own nm cc nL rm) {x z : Int32} {off : Int} {t : Nat} (hd : decode cc pc = .ok (.if_icmp .le off, 3)) (ht : (pc : Int) + off = (t : Int)) (hq : pc + 3 = q) (kt : x ≤ z → gG X t ls st hp cl sl) (kf : ¬ x ≤ z → gG X q ls st hp cl sl) : gG X pc ls (.int z :: .int x :: st) hp cl sl := by
  subst hq; exact fun arr H locs hl hh hS => lv_icmp_le C.1 C.2.1 hd ht (fun h => kt h arr H locs hl hh hS) (fun h => kf h arr H locs hl hh hS)
theorem g_icmp_le_t (C : gC X own nm cc nL rm) {x z : Int32} {off : Int} {t : Nat} (hd : decode cc pc = .ok (.if_icmp .le off, 3)) (ht : (pc : Int) + off = (t : Int)) (h : x ≤ z) (kt : gG X t ls st hp cl sl) : gG X pc ls (.int z :: .int x :: st) hp cl sl := g_icmp_le C hd ht rfl (fun _ => kt) (fun h9 => absurd (h) (h9))
theorem g_icmp_le_f (C : gC X own nm cc nL rm) {x z : Int32} {off : Int} {t : Nat} (hd : decode cc pc = .ok (.if_icmp .le off, 3)) (ht : (pc : Int) + off = (t : Int)) (hq : pc + 3 = q) (h : ¬ x ≤ z) (kf : gG X q ls st hp cl sl) : gG X pc ls (.int z :: .int x :: st) hp cl sl := g_icmp_le C hd ht hq (fun h9 => absurd (h9) (h)) (fun _ => kf)
theorem g_tableOut (C : gC X own nm cc nL rm) {dflt lo hi : Int} {offs : Array Int} {len : Nat} {x : Int32} {t : Nat} (hd : decode cc pc = .ok (.tableswitch dflt lo hi offs, len)) (h : x.toInt < lo ∨ hi < x.toInt) (ht : (pc : Int) + dflt = (t : Int)) (k : gG X t ls st hp cl sl) : gG X pc ls (.int x :: st) hp cl sl :=
  fun arr H locs hl hh hS => lv_tableOut C.1 C.2.1 hd h ht (k arr H locs hl hh hS)
theorem g_tableIn (C : gC X own nm cc nL rm) {dflt lo hi : Int} {offs : Array Int} {len : Nat} {x : Int32} {off : Int} {t : Nat} (hd : decode cc pc = .ok (.tableswitch dflt lo hi offs, len)) (h1 : ¬ x.toInt < lo) (h2 : ¬ hi < x.toInt) (ho : offs[(x.toInt - lo).toNat]? = some off) (ht : (pc : Int) + off = (t : Int)) (k : gG X t ls st hp cl sl) : gG X pc ls (.int x :: st) hp cl sl :=
  fun arr H locs hl hh hS => lv_tableIn C.1 C.2.1 hd h1 h2 ho ht (k arr H locs hl hh hS)
theorem g_ifnull (C : gC X own nm cc nL rm) {k0 : Nat} {off : Int} (hd : decode cc pc = .ok (.ifnull off, 3)) (hq : pc + 3 = q) (k : gG X q ls st hp cl sl) : gG X pc ls (.ref k0 :: st) hp cl sl := by
  subst hq; exact fun arr H locs hl hh hS => lv_ifnull C.1 C.2.1 hd (k arr H locs hl hh hS)
theorem g_ifnullN (C : gC X own nm cc nL rm) {off : Int} {t : Nat} (hd : decode cc pc = .ok (.ifnull off, 3)) (ht : (pc : Int) + off = (t : Int)) (k : gG X t ls st hp cl sl) : gG X pc ls (.null :: st) hp cl sl :=
  fun arr H locs hl hh hS => lv_ifnullN C.1 C.2.1 hd ht (k arr H locs hl hh hS)
theorem g_acmp_ne (C : gC X own nm cc nL rm) {a1 a2 : Nat} {off : Int} {t : Nat} (hd : decode cc pc = .ok (.if_acmp .ne off, 3)) (ht : (pc : Int) + off = (t : Int)) (hq : pc + 3 = q) (kt : ¬ a1 = a2 → gG X t ls st hp cl sl) (kf : a1 = a2 → gG X q ls st hp cl sl) : gG X pc ls (.ref a2 :: .ref a1 :: st) hp cl sl := by
  subst hq
  intro arr H locs hl hh hS
  exact lv_acmp_ne (rx := some (xB X + a1)) (ry := some (xB X + a2)) C.1 C.2.1 hd ht (fun h => kt (fun h2 => h (by rw [h2])) arr H locs hl hh hS) (fun h => kf (Nat.add_left_cancel (Option.some.inj h)) arr H locs hl hh hS)
theorem g_weaken {cl' sl' : Nat} (h1 : cl ≤ cl') (h2 : sl ≤ sl') (k : gG X pc ls st hp cl' sl') : gG X pc ls st hp cl sl :=
  fun arr H locs hl hh hS => W.widen h1 h2 (k arr H locs hl hh hS)
/-- locals forgotten -/
theorem g_forget {ls' : List (Option Value)} (hn : ls'.length = ls.length) (h : ∀ (i : Nat) (v : Value), ls'[i]? = some (some v) → ls[i]? = some (some v)) (k : gG X pc ls' st hp cl sl) : gG X pc ls st hp cl sl :=
  fun arr H locs hl hh hS => k arr H locs ⟨hl.1.trans hn.symm, hl.2.1, fun i v hv => hl.2.2 i v (h i v hv)⟩ hh hS
/-! locals -/
theorem gL_at {b0 : Nat} {sa : Nat → Nat} {arr : Array Slot} {v : Value} {i : Nat} (h : gL b0 sa arr ls) (hi : ls[i]? = some (some v)) : arr[i]? = some (.val (gv b0 sa v)) := h.2.2 i v hi
/-- the pairs of a row of locals -/
def gP (b0 : Nat) (sa : Nat → Nat) (ls : List (Option Value)) : List (Nat × Value) := (List.range ls.length).filterMap fun i => (ls[i]?.join).map fun v => (i, gv b0 sa v)
theorem gP_mem {b0 : Nat} {sa : Nat → Nat} {ls : List (Option Value)} {z : Nat × Value} : z ∈ gP b0 sa ls ↔ ∃ v, ls[z.1]? = some (some v) ∧ z.2 = gv b0 sa v := by
  unfold gP
  rw [List.mem_filterMap]
  constructor
  · rintro ⟨i, hi, h⟩
    cases h1 : ls[i]? with
    | none => rw [h1] at h; simp at h
    | some o =>
      cases o with
      | none => rw [h1] at h; simp at h
      | some v =>
        rw [h1] at h
        simp at h
        subst h
        exact ⟨v, h1, rfl⟩
  · rintro ⟨v, h1, h2⟩
    obtain ⟨i, u⟩ := z
    dsimp only at h1 h2
    subst h2
    have hlt : i < ls.length := (List.getElem?_eq_some_iff.mp h1).1
    exact ⟨i, List.mem_range.mpr hlt, by rw [h1]; rfl⟩
theorem gL_has {b0 : Nat} {sa : Nat → Nat} {arr : Array Slot} (h : gL b0 sa arr ls) : lv_has arr ls.length (gP b0 sa ls) := by
  refine ⟨h.1, h.2.1, fun z hz => ?_⟩
  obtain ⟨v, h1, h2⟩ := gP_mem.mp hz
  rw [h2]
  exact h.2.2 _ _ h1
/-- what a store leaves: ls' agrees with ls but at i, and a long that ended at i is gone -/
def gSt (ls ls' : List (Option Value)) (i : Nat) (v : Value) : Prop :=
  i < ls.length ∧ ls'.length = ls.length ∧ ∀ (j : Nat) (u : Value), ls'[j]? = some (some u) → (j = i ∧ u = v) ∨ (j ≠ i ∧ ls[j]? = some (some u) ∧ ¬ (j + 1 = i ∧ u.category = 2))
theorem gL_store {b0 : Nat} {sa : Nat → Nat} {arr' : Array Slot} {ls' : List (Option Value)} {i : Nat} {v : Value} (hs : gSt ls ls' i v) (h : lv_has arr' ls.length ((i, gv b0 sa v) :: (gP b0 sa ls).filter (fun q => !(q.1 == i) && !(q.1 + 1 == i && q.2.category == 2)))) : gL b0 sa arr' ls' := by
  obtain ⟨h1, h2, h3⟩ := h
  refine ⟨h1.trans hs.2.1.symm, h2, fun j u hu => ?_⟩
  rcases hs.2.2 j u hu with ⟨rfl, rfl⟩ | ⟨hne, hl, hk⟩
  · exact h3 _ List.mem_cons_self
  · refine h3 (j, gv b0 sa u) (List.mem_cons_of_mem _ (List.mem_filter.mpr ⟨gP_mem.mpr ⟨u, hl, rfl⟩, ?_⟩))
    simp only [gv_cat]
    simp only [Bool.and_eq_true, Bool.not_eq_true', beq_eq_false_iff_ne, ne_eq, Bool.and_eq_false_iff]
    refine ⟨hne, ?_⟩
    by_cases hj : j + 1 = i
    · exact Or.inr (fun hc => hk ⟨hj, hc⟩)
    · exact Or.inl hj
/-- likewise, of a long -/
def gSt2 (ls ls' : List (Option Value)) (i : Nat) (v : Value) : Prop :=
  i + 1 < ls.length ∧ ls'.length = ls.length ∧ ∀ (j : Nat) (u : Value), ls'[j]? = some (some u) → (j = i ∧ u = v) ∨ (j ≠ i ∧ j ≠ i + 1 ∧ ls[j]? = some (some u) ∧ ¬ (j + 1 = i ∧ u.category = 2))
theorem gL_store2 {b0 : Nat} {sa : Nat → Nat} {arr' : Array Slot} {ls' : List (Option Value)} {i : Nat} {v : Value} (hs : gSt2 ls ls' i v) (h : lv_has arr' ls.length ((i, gv b0 sa v) :: (gP b0 sa ls).filter (fun q => !(q.1 == i) && (!(q.1 == i + 1) && !(q.1 + 1 == i && q.2.category == 2))))) : gL b0 sa arr' ls' := by
  obtain ⟨h1, h2, h3⟩ := h
  refine ⟨h1.trans hs.2.1.symm, h2, fun j u hu => ?_⟩
  rcases hs.2.2 j u hu with ⟨rfl, rfl⟩ | ⟨hne, hne2, hl, hk⟩
  · exact h3 _ List.mem_cons_self
  · refine h3 (j, gv b0 sa u) (List.mem_cons_of_mem _ (List.mem_filter.mpr ⟨gP_mem.mpr ⟨u, hl, rfl⟩, ?_⟩))
    simp only [gv_cat]
    simp only [Bool.and_eq_true, Bool.not_eq_true', beq_eq_false_iff_ne, ne_eq, Bool.and_eq_false_iff]
    refine ⟨hne, hne2, ?_⟩
    by_cases hj : j + 1 = i
    · exact Or.inr (fun hc => hk ⟨hj, hc⟩)
    · exact Or.inl hj
/-- the store, by computing -/
def gset : List (Option Value) → Nat → Value → List (Option Value)
  | [], _, _ => []
  | _ :: t, 0, v => some v :: t
  | o :: t, 1, v => (match o with | some (.long _) => none | some (.double _) => none | z => z) :: gset t 0 v
  | o :: t, i + 2, v => o :: gset t (i + 1) v
theorem gset_len : ∀ (ls : List (Option Value)) (i : Nat) (v : Value), (gset ls i v).length = ls.length
  | [], _, _ => rfl
  | _ :: t, 0, v => rfl
  | o :: t, 1, v => by simp [gset, gset_len t 0 v]
  | o :: t, i + 2, v => by simp [gset, gset_len t (i + 1) v]
theorem gset_at : ∀ (ls : List (Option Value)) (i : Nat) (v : Value) (j : Nat) (u : Value), (gset ls i v)[j]? = some (some u) → (j = i ∧ u = v) ∨ (j ≠ i ∧ ls[j]? = some (some u) ∧ ¬ (j + 1 = i ∧ u.category = 2))
  | [], _, _, j, u, h => by simp [gset] at h
  | o :: t, 0, v, 0, u, h => by
    simp [gset] at h
    exact Or.inl ⟨rfl, h.symm⟩
  | o :: t, 0, v, j + 1, u, h => by
    simp [gset] at h
    exact Or.inr ⟨by omega, by simpa using h, by omega⟩
  | o :: t, 1, v, 0, u, h => by
    refine Or.inr ⟨by omega, ?_⟩
    cases o with
    | none => simp [gset] at h
    | some z => cases z <;> simp [gset] at h <;> (subst h; simp [Value.category])
  | o :: t, 1, v, j + 1, u, h => by
    have h2 : (gset t 0 v)[j]? = some (some u) := by simpa [gset] using h
    rcases gset_at t 0 v j u h2 with ⟨a, b⟩ | ⟨a, b, c9⟩
    · exact Or.inl ⟨by omega, b⟩
    · exact Or.inr ⟨by omega, by simpa using b, by omega⟩
  | o :: t, i + 2, v, 0, u, h => by
    simp [gset] at h
    exact Or.inr ⟨by omega, by simpa using h, by omega⟩
  | o :: t, i + 2, v, j + 1, u, h => by
    have h2 : (gset t (i + 1) v)[j]? = some (some u) := by simpa [gset] using h
    rcases gset_at t (i + 1) v j u h2 with ⟨a, b⟩ | ⟨a, b, c9⟩
    · exact Or.inl ⟨by omega, b⟩
    · exact Or.inr ⟨by omega, by simpa using b, fun hh => c9 ⟨by omega, hh.2⟩⟩
theorem gset_st {ls : List (Option Value)} {i : Nat} {v : Value} (h : i < ls.length) : gSt ls (gset ls i v) i v := ⟨h, gset_len ls i v, gset_at ls i v⟩
theorem gset2_st {ls : List (Option Value)} {i : Nat} {v : Value} (h : i + 1 < ls.length) : gSt2 ls ((gset ls i v).set (i + 1) none) i v := by
  refine ⟨h, by rw [List.length_set, gset_len], fun j u hu => ?_⟩
  by_cases hj : j = i + 1
  · subst hj
    rw [List.getElem?_set_self (by rw [gset_len]; exact h)] at hu
    cases hu
  · rw [List.getElem?_set_ne (Ne.symm hj)] at hu
    rcases gset_at ls i v j u hu with a | ⟨a, b, c9⟩
    · exact Or.inl a
    · exact Or.inr ⟨a, hj, b, c9⟩

theorem g_iload (C : gC X own nm cc nL rm) {i : Nat} {x : Int32} (hd : decode cc pc = .ok (.iload i, 2)) (hl0 : ls[i]? = some (some (.int x))) (hq : pc + 2 = q) (k : gG X q ls (.int x :: st) hp cl sl) : gG X pc ls st hp cl sl := by
  subst hq; exact fun arr H locs hl hh hS => lv_iload C.1 C.2.1 hd (gL_at hl hl0) (k arr H locs hl hh hS)
theorem g_iload_n (C : gC X own nm cc nL rm) {i : Fin 4} {x : Int32} (hd : decode cc pc = .ok (.iload_n i, 1)) (hl0 : ls[i.val]? = some (some (.int x))) (hq : pc + 1 = q) (k : gG X q ls (.int x :: st) hp cl sl) : gG X pc ls st hp cl sl := by
  subst hq; exact fun arr H locs hl hh hS => lv_iload_n C.1 C.2.1 hd rfl (gL_at hl hl0) (k arr H locs hl hh hS)
theorem g_lload (C : gC X own nm cc nL rm) {i : Nat} {x : Int64} (hd : decode cc pc = .ok (.lload i, 2)) (hl0 : ls[i]? = some (some (.long x))) (hq : pc + 2 = q) (k : gG X q ls (.long x :: st) hp cl sl) : gG X pc ls st hp cl sl := by
  subst hq; exact fun arr H locs hl hh hS => lv_lload C.1 C.2.1 hd (gL_at hl hl0) (k arr H locs hl hh hS)
theorem g_lload_n (C : gC X own nm cc nL rm) {i : Fin 4} {x : Int64} (hd : decode cc pc = .ok (.lload_n i, 1)) (hl0 : ls[i.val]? = some (some (.long x))) (hq : pc + 1 = q) (k : gG X q ls (.long x :: st) hp cl sl) : gG X pc ls st hp cl sl := by
  subst hq; exact fun arr H locs hl hh hS => lv_lload_n C.1 C.2.1 hd rfl (gL_at hl hl0) (k arr H locs hl hh hS)
theorem g_aload (C : gC X own nm cc nL rm) {i : Nat} {x : Nat} (hd : decode cc pc = .ok (.aload i, 2)) (hl0 : ls[i]? = some (some (.ref x))) (hq : pc + 2 = q) (k : gG X q ls (.ref x :: st) hp cl sl) : gG X pc ls st hp cl sl := by
  subst hq; exact fun arr H locs hl hh hS => lv_aload C.1 C.2.1 hd (gL_at hl hl0) (k arr H locs hl hh hS)
theorem g_aload_n (C : gC X own nm cc nL rm) {i : Fin 4} {x : Nat} (hd : decode cc pc = .ok (.aload_n i, 1)) (hl0 : ls[i.val]? = some (some (.ref x))) (hq : pc + 1 = q) (k : gG X q ls (.ref x :: st) hp cl sl) : gG X pc ls st hp cl sl := by
  subst hq; exact fun arr H locs hl hh hS => lv_aload_n C.1 C.2.1 hd rfl (gL_at hl hl0) (k arr H locs hl hh hS)
theorem g_aloadS (C : gC X own nm cc nL rm) {i : Nat} {j : UInt32} (hd : decode cc pc = .ok (.aload i, 2)) (hl0 : ls[i]? = some (some (.float j))) (hq : pc + 2 = q) (k : gG X q ls (.float j :: st) hp cl sl) : gG X pc ls st hp cl sl := by
  subst hq; exact fun arr H locs hl hh hS => lv_aload C.1 C.2.1 hd (gL_at hl hl0) (k arr H locs hl hh hS)
theorem g_aloadS_n (C : gC X own nm cc nL rm) {i : Fin 4} {j : UInt32} (hd : decode cc pc = .ok (.aload_n i, 1)) (hl0 : ls[i.val]? = some (some (.float j))) (hq : pc + 1 = q) (k : gG X q ls (.float j :: st) hp cl sl) : gG X pc ls st hp cl sl := by
  subst hq; exact fun arr H locs hl hh hS => lv_aload_n C.1 C.2.1 hd rfl (gL_at hl hl0) (k arr H locs hl hh hS)
theorem g_aloadN (C : gC X own nm cc nL rm) {i : Nat}  (hd : decode cc pc = .ok (.aload i, 2)) (hl0 : ls[i]? = some (some (.null))) (hq : pc + 2 = q) (k : gG X q ls (.null :: st) hp cl sl) : gG X pc ls st hp cl sl := by
  subst hq; exact fun arr H locs hl hh hS => lv_aloadN C.1 C.2.1 hd (gL_at hl hl0) (k arr H locs hl hh hS)
theorem g_aloadN_n (C : gC X own nm cc nL rm) {i : Fin 4}  (hd : decode cc pc = .ok (.aload_n i, 1)) (hl0 : ls[i.val]? = some (some (.null))) (hq : pc + 1 = q) (k : gG X q ls (.null :: st) hp cl sl) : gG X pc ls st hp cl sl := by
  subst hq; exact fun arr H locs hl hh hS => lv_aload_nN C.1 C.2.1 hd rfl (gL_at hl hl0) (k arr H locs hl hh hS)
theorem g_istore (C : gC X own nm cc nL rm) {i : Nat} {x : Int32} {ls' : List (Option Value)} (hd : decode cc pc = .ok (.istore i, 2)) (hi : i < ls.length) (he : gset ls i (.int x) = ls') (hq : pc + 2 = q) (k : gG X q ls' st hp cl sl) : gG X pc ls (.int x :: st) hp cl sl := by
  subst hq; subst he; exact fun arr H locs hl hh hS => lv_istore C.1 C.2.1 hd (gL_has hl) hi rfl (fun arr' h' => k arr' H locs (gL_store (gset_st hi) h') hh hS)
theorem g_istore_n (C : gC X own nm cc nL rm) {i : Fin 4} {x : Int32} {ls' : List (Option Value)} (hd : decode cc pc = .ok (.istore_n i, 1)) (hi : i.val < ls.length) (he : gset ls i.val (.int x) = ls') (hq : pc + 1 = q) (k : gG X q ls' st hp cl sl) : gG X pc ls (.int x :: st) hp cl sl := by
  subst hq; subst he; exact fun arr H locs hl hh hS => lv_istore_n C.1 C.2.1 hd rfl (gL_has hl) hi rfl (fun arr' h' => k arr' H locs (gL_store (gset_st hi) h') hh hS)
theorem g_astore (C : gC X own nm cc nL rm) {i : Nat} {x : Nat} {ls' : List (Option Value)} (hd : decode cc pc = .ok (.astore i, 2)) (hi : i < ls.length) (he : gset ls i (.ref x) = ls') (hq : pc + 2 = q) (k : gG X q ls' st hp cl sl) : gG X pc ls (.ref x :: st) hp cl sl := by
  subst hq; subst he; exact fun arr H locs hl hh hS => lv_astore C.1 C.2.1 hd (gL_has hl) hi rfl (fun arr' h' => k arr' H locs (gL_store (gset_st hi) h') hh hS)
theorem g_astore_n (C : gC X own nm cc nL rm) {i : Fin 4} {x : Nat} {ls' : List (Option Value)} (hd : decode cc pc = .ok (.astore_n i, 1)) (hi : i.val < ls.length) (he : gset ls i.val (.ref x) = ls') (hq : pc + 1 = q) (k : gG X q ls' st hp cl sl) : gG X pc ls (.ref x :: st) hp cl sl := by
  subst hq; subst he; exact fun arr H locs hl hh hS => lv_astore_n C.1 C.2.1 hd rfl (gL_has hl) hi rfl (fun arr' h' => k arr' H locs (gL_store (gset_st hi) h') hh hS)
theorem g_astoreS (C : gC X own nm cc nL rm) {i : Nat} {j : UInt32} {ls' : List (Option Value)} (hd : decode cc pc = .ok (.astore i, 2)) (hi : i < ls.length) (he : gset ls i (.float j) = ls') (hq : pc + 2 = q) (k : gG X q ls' st hp cl sl) : gG X pc ls (.float j :: st) hp cl sl := by
  subst hq; subst he; exact fun arr H locs hl hh hS => lv_astore (x := xA X j.toNat) C.1 C.2.1 hd (gL_has hl) hi rfl (fun arr' h' => k arr' H locs (gL_store (v := .float j) (gset_st hi) h') hh hS)
theorem g_lstore (C : gC X own nm cc nL rm) {i : Nat} {x : Int64} {ls' : List (Option Value)} (hd : decode cc pc = .ok (.lstore i, 2)) (hi : i + 1 < ls.length) (he : (gset ls i (.long x)).set (i + 1) none = ls') (hq : pc + 2 = q) (k : gG X q ls' st hp cl sl) : gG X pc ls (.long x :: st) hp cl sl := by
  subst hq; subst he; exact fun arr H locs hl hh hS => lv_lstore C.1 C.2.1 hd (gL_has hl) hi rfl (fun arr' h' => k arr' H locs (gL_store2 (v := .long x) (gset2_st hi) h') hh hS)
theorem g_lstore_n (C : gC X own nm cc nL rm) {i : Fin 4} {x : Int64} {ls' : List (Option Value)} (hd : decode cc pc = .ok (.lstore_n i, 1)) (hi : i.val + 1 < ls.length) (he : (gset ls i.val (.long x)).set (i.val + 1) none = ls') (hq : pc + 1 = q) (k : gG X q ls' st hp cl sl) : gG X pc ls (.long x :: st) hp cl sl := by
  subst hq; subst he; exact fun arr H locs hl hh hS => lv_lstore_n C.1 C.2.1 hd rfl (gL_has hl) hi rfl (fun arr' h' => k arr' H locs (gL_store2 (v := .long x) (gset2_st hi) h') hh hS)
theorem g_iinc (C : gC X own nm cc nL rm) {i : Nat} {n : Int} {x v : Int32} {ls' : List (Option Value)} (hd : decode cc pc = .ok (.iinc i n, 3)) (hl0 : ls[i]? = some (some (.int x))) (hv : x + Int32.ofInt n = v) (he : gset ls i (.int v) = ls') (hq : pc + 3 = q) (k : gG X q ls' st hp cl sl) : gG X pc ls st hp cl sl := by
  subst hq; subst he
  have hi : i < ls.length := (List.getElem?_eq_some_iff.mp hl0).1
  intro arr H locs hl hh hS
  obtain ⟨k0, hk0⟩ := List.getElem?_of_mem (gP_mem (b0 := xB X) (sa := xA X) (z := (i, .int x)).mpr ⟨_, hl0, rfl⟩)
  exact lv_iinc C.1 C.2.1 hd (gL_has hl) hk0 hv hi rfl (fun arr' h' => k arr' H locs (gL_store (v := .int v) (gset_st hi) h') hh hS)
end GR
end
section
/-! the heap: reads, writes, new cells; calls; a method's start and end -/
section GHP
variable {D : va_G} {cI cJ : ClassId} {b0 : Nat} {sa : Nat → Nat} {hp : List gA} {H H1 : Heap}
theorem gH_set {k : Nat} {e : gA} (h : gH D cI cJ b0 sa hp H) (z : H1.size = H.size) (oq : ∀ q : Nat, q ≠ b0 + k → H1[q]? = H[q]?) (he : va_at D vwCl (b0 + k, gce cI cJ b0 sa e) H1) : gH D cI cJ b0 sa (hp.set k e) H1 := by
  refine ⟨by rw [z, h.1, List.length_set], fun j u hu => ?_⟩
  by_cases hj : j = k
  · subst hj
    have hlt : j < hp.length := by
      have := (List.getElem?_eq_some_iff.mp hu).1
      rwa [List.length_set] at this
    rw [List.getElem?_set_self hlt] at hu
    cases hu
    exact he
  · rw [List.getElem?_set_ne (Ne.symm hj)] at hu
    exact (h.2 j u hu).kept (oq (b0 + j) (by omega))
theorem gH_push {e : gA} (h : gH D cI cJ b0 sa hp H) (z : H1.size = H.size + 1) (oq : ∀ q : Nat, q < H.size → H1[q]? = H[q]?) (he : va_at D vwCl (b0 + hp.length, gce cI cJ b0 sa e) H1) : gH D cI cJ b0 sa (hp ++ [e]) H1 := by
  refine ⟨by rw [z, h.1, List.length_append]; simp; omega, fun j u hu => ?_⟩
  by_cases hj : j < hp.length
  · rw [List.getElem?_append_left hj] at hu
    exact (h.2 j u hu).kept (oq (b0 + j) (by rw [h.1]; omega))
  · rw [List.getElem?_append_right (by omega)] at hu
    have hz : j - hp.length < 1 := (List.getElem?_eq_some_iff.mp hu).1
    have hj2 : j = hp.length := by omega
    subst hj2
    rw [Nat.sub_self] at hu
    cases hu
    exact he
theorem gS_push {A : Nat → Prop} {H0 : Heap} {locs : List Loc} (h : va_S A H0 H locs) (z : H1.size = H.size + 1) (oq : ∀ q : Nat, q < H.size → H1[q]? = H[q]?) : va_S A H0 H1 locs :=
  ⟨Nat.le_trans h.1 (by omega), fun q h1 h2 => (oq q (Nat.lt_of_lt_of_le h1 h.1)).trans (h.2.1 q h1 h2), h.2.2⟩
end GHP
/-- a class of the world: its number, table, slots, types -/
def gK (ci : Nat) (RC : String) (T : u_T) (N : Nat) (tf : Nat → FieldType) : Prop :=
  vwCl[ci]? = some (RC, T, N) ∧ (∀ w ∈ u_ws RC T N, w ∈ gW) ∧ (∀ k, k < N → parseFieldDescriptor (T k).2.2.1 = some (tf k)) ∧ (∀ a, a < N → ∀ b, b < N → a ≠ b → (T a).2.1 ≠ (T b).2.1)
/-- a field's site: own class and pool number; class, place, type, final -/
def gF (own : String) (ix ci j : Nat) (ty : FieldType) (fin : Bool) : Prop :=
  ∃ (RC : String) (T : u_T) (N : Nat) (tf : Nat → FieldType), gK ci RC T N tf ∧ j < N ∧ Cond.fieldLink own ix (T j).1 (T j).2.1 (T j).2.2.1 ∈ gW ∧ tf j = ty ∧ (T j).2.2.2 = fin ∧ (fin = true → (T j).1 = own)
/-- a new object's site -/
def gNw (own : String) (ix ci n : Nat) (fs : List Value) : Prop :=
  ∃ (RC : String) (T : u_T) (tf : Nat → FieldType), gK ci RC T n tf ∧ Cond.classLink own ix RC ∈ gW ∧ Cond.instantiable RC n ∈ gW ∧ Cond.initialized RC ∈ gW ∧ (∀ j, j < n → defaultValue (tf j) = vp_V fs j) ∧ ∀ b0 sa, fs.map (gv b0 sa) = fs
section GR3
variable {X : gX} {own nm : String} {cc : ByteArray} {nL : Nat} {rm : Room} {pc q : Nat} {ls : List (Option Value)} {st : List Value} {hp : List gA} {cl sl : Nat}
theorem gC_hts (C : gC X own nm cc nL rm) {w : Cond} (h : w ∈ gW) : w.before (xa X) (xs X) = true := C.2.2.2.2.1 w h
theorem gC_K (C : gC X own nm cc nL rm) : va_K (xD X) vwCl [(xI X, .int), (xJ X, .long)] (xs X) := C.2.2.2.2.2.1
theorem gv_V (b0 : Nat) (sa : Nat → Nat) {fs : List Value} {j : Nat} {v : Value} (h : fs[j]? = some v) : (fs.map (gv b0 sa))[j]? = some (gv b0 sa v) := by rw [List.getElem?_map, h]; rfl
theorem g_getfield (C : gC X own nm cc nL rm) {ix ci j k : Nat} {ty : FieldType} {fin : Bool} {fs : List Value} {v : Value} (F : gF own ix ci j ty fin) (hd : decode cc pc = .ok (.getfield ix, 3)) (hq : pc + 3 = q) (ho : hp[k]? = some (.inr (.inr (ci, fs)))) (hv : fs[j]? = some v) (kk : gG X q ls (v :: st) hp cl sl) : gG X pc ls (.ref k :: st) hp cl sl := by
  subst hq
  obtain ⟨RC, T, N, tf, K, hj, hlink, -, -, -⟩ := F
  intro arr H locs hl hh hS
  have hP : va_P (xD X) vwCl [(xB X + k, .inr (ci, fs.map (gv (xB X) (xA X))))] H := by
    intro i z hz
    have hi : i < 1 := (List.getElem?_eq_some_iff.mp hz).1
    have : i = 0 := by omega
    subst this
    cases hz
    exact hh.2 k _ ho
  exact va_get C.1 C.2.1 (fun w hw => gC_hts C hw) K.2.1 C.2.2.2.1 (gC_K C) hP 0 rfl K.1 j hj (gC_hts C hlink) (fun _ h9 => h9) (gv_V _ _ hv) hd (kk arr H locs hl hh hS)
theorem gv_nar {b0 : Nat} {sa : Nat → Nat} {ty : FieldType} {v : Value} (h1 : narrow ty v = v) (h2 : fits ty v = true) (h3 : ∀ z, v ≠ .float z) : narrow ty (gv b0 sa v) = gv b0 sa v ∧ fits ty (gv b0 sa v) = true := by
  cases v with
  | float z => exact absurd rfl (h3 z)
  | ref a => cases ty <;> simp [narrow, gv, fits] at h2 ⊢
  | _ => exact ⟨h1, h2⟩
theorem g_putfield (C : gC X own nm cc nL rm) {ix ci j k : Nat} {ty : FieldType} {fin : Bool} {fs : List Value} {v : Value} (F : gF own ix ci j ty fin) (hd : decode cc pc = .ok (.putfield ix, 3)) (hq : pc + 3 = q) (ho : hp[k]? = some (.inr (.inr (ci, fs)))) (hj2 : j < fs.length) (hfin : fin = false ∨ nm = "<init>") (h1 : narrow ty v = v) (h2 : fits ty v = true) (h3 : ∀ z, v ≠ .float z) (kk : gG X q ls st (hp.set k (.inr (.inr (ci, fs.set j v)))) cl sl) : gG X pc ls (v :: .ref k :: st) hp cl sl := by
  subst hq
  obtain ⟨RC, T, N, tf, K, hj, hlink, hty, hf, hdecl⟩ := F
  obtain ⟨n1, n2⟩ := gv_nar (b0 := xB X) (sa := xA X) h1 h2 h3
  intro arr H locs hl hh hS
  have hts := fun w hw => gC_hts C (w := w) hw
  have hin := K.2.1
  have hap := va_apart (own := own) hts hin tf K.2.2.1 K.2.2.2 (gC_K C) K.1
  obtain ⟨r, e1, cell, q1, q2, q3, q4⟩ := hh.2 k _ ho
  have hr : r = (RC, T, N) := Option.some.inj (e1.symm.trans K.1)
  subst hr
  obtain ⟨hSl, hfc, kC, hkC, hkind⟩ := (gC_K C).1 ci _ K.1
  obtain ⟨cf, kf, fi, f, hi, hsl⟩ := hSl j hj
  have hlay := hts _ (hin _ (u_in_lay hj))
  have hst := (u_facts hfc hkC (u_lays hts hin hj) hi).1
  have hpd : parseFieldDescriptor (T j).2.2.1 = some ty := by rw [← hty]; exact K.2.2.1 j hj
  have hl2 : j < (fs.map (gv (xB X) (xA X))).length := by rw [List.length_map]; exact hj2
  have fin_case : ∀ (H' : Heap), H'[xB X + k]? = some (cell.setSlot f.slot (gv (xB X) (xA X) v)) → H'.size = H.size → (∀ q, q ≠ xB X + k → H'[q]? = H[q]?) →
      W (xp X) (xl X) (xe X) (xR X) (xs X) (xm X) (xa X) (xb X) (xt X) (xc X) H' (locs ++ [⟨xB X + k, f.slot⟩]) cl sl (xQ X) (F0 (xm X) (pc + 3) arr (st.map (gv (xB X) (xA X)))) := by
    intro H' z1 z2 z3
    rw [hsl] at z1 ⊢
    refine kk arr H' _ hl (gH_set hh z2 z3 ?_) (hS.put z2 z3 (Nat.le_add_right _ _))
    refine ⟨_, K.1, ?_⟩
    show t_OB _ _ _ _ _ (vp_V ((fs.set j v).map (gv (xB X) (xA X))))
    rw [List.map_set]
    exact t_OB.to (V := updV (vp_V (fs.map (gv (xB X) (xA X)))) j (gv (xB X) (xA X) v)) ⟨_, z1, q2, q3, t_set q4 hap hj _⟩ (fun i _ => vp_updV_set hl2 _ i)
  cases hfb : (T j).2.2.2 with
  | false =>
    unfold u_lay at hlay
    rw [if_neg (by rw [hfb]; decide)] at hlay
    have h6 := u_store hfc hkC hkind hlay hi hpd n1 n2
    exact W.putK C.1 C.2.1 (f := f) ⟨C.2.2.2.1, hts _ hlink, ⟨_, _, _, hi⟩, hst⟩ (by rw [q2]; exact h6) q1 q3 (by rw [hsl]; exact k2_hasslot (q4 j hj)) rfl rfl hd fin_case
  | true =>
    unfold u_lay at hlay
    rw [if_pos hfb] at hlay
    have hft : fin = true := by rw [← hf]; exact hfb
    have hnm : (xt X).name = "<init>" := by
      rcases hfin with z | z
      · rw [hft] at z; cases z
      · rw [C.2.2.2.2.2.2.2.2.2.1]; exact z
    have hcf : (xm X).cls = cf := by
      obtain ⟨_, _, c', _, _, _, -, -, hf', -, -, -, hown2, -⟩ := Cond.laysFinal_spec hlay
      have e1 : c' = cf := by have := hi.symm.trans hf'; simp at this; exact this.1.symm
      rw [hdecl hft] at hown2
      rw [← e1]; exact Option.some.inj (C.2.2.2.1.symm.trans hown2)
    have h6 := u_fits hfc hkC hkind (Or.inr hlay) hi hpd n1 n2
    exact W.putFinK C.1 C.2.1 C.2.2.2.1 (hts _ hlink) hi hst hcf hnm (by rw [q2]; exact h6) q1 q3 (by rw [hsl]; exact k2_hasslot (q4 j hj)) rfl rfl hd fin_case
theorem g_new (C : gC X own nm cc nL rm) {ix ci n k : Nat} {fs : List Value} (F : gNw own ix ci n fs) (hd : decode cc pc = .ok (.new ix, 3)) (hq : pc + 3 = q) (hk : hp.length = k) (h1 : cl + 1 ≤ rm.cells) (h2 : sl + n ≤ rm.slots) (kk : gG X q ls (.ref k :: st) (hp ++ [.inr (.inr (ci, fs))]) (cl + 1) (sl + n)) : gG X pc ls st hp cl sl := by
  subst hq; subst hk
  obtain ⟨RC, T, tf, K, hl1, hl2, hl3, hdv, hgv⟩ := F
  have hR := C.2.2.2.2.2.2.2.2.1
  intro arr H locs hl hh hS
  have hKn := (gC_K C).1 ci _ K.1
  refine W.newcK C.1 C.2.1 C.2.2.2.1 (gC_hts C hl1) (gC_hts C hl2) (gC_hts C hl3) rfl hd (by rw [hR]; exact h1) (by rw [hR]; exact h2) hKn.2.1 hh.1 fun H' kC hkC e1 z1 o1 => ?_
  refine kk arr H' locs hl (gH_push hh (by rw [z1, hh.1]) (by rw [hh.1]; exact o1) ?_) (gS_push hS (by rw [z1, hh.1]) (by rw [hh.1]; exact o1))
  refine ⟨_, K.1, ?_⟩
  show t_OB _ _ _ _ _ (vp_V (fs.map (gv (xB X) (xA X))))
  rw [hgv]
  exact (u_born tf (fun w hw => gC_hts C hw) K.2.1 hKn hkC e1 K.2.2.1).to hdv
theorem g_newarray (C : gC X own nm cc nL rm) {n : Int32} {N k : Nat} (hw : Cond.arrayClass .int ∈ gW) (hd : decode cc pc = .ok (.newarray .int, 2)) (hq : pc + 2 = q) (hk : hp.length = k) (hn : ¬ n < 0) (hN : n.toNatClampNeg = N) (hb : N ≤ 100000000) (h1 : cl + 1 ≤ rm.cells) (h2 : sl + N ≤ rm.slots) (kk : gG X q ls (.ref k :: st) (hp ++ [.inl (N, fun _ => 0)]) (cl + 1) (sl + N)) : gG X pc ls (.int n :: st) hp cl sl := by
  subst hq; subst hk
  have hR := C.2.2.2.2.2.2.2.2.1
  intro arr H locs hl hh hS
  refine va_newaK (atype := .int) C.1 C.2.1 (gC_hts C hw) rfl hd rfl hn hN (by show N * 4 ≤ _; omega) (by rw [hR]; exact h1) (by rw [hR]; exact h2) hh.1 fun H' cA e1 z1 o1 hAr hNm => ?_
  refine kk arr H' locs hl (gH_push hh (by rw [z1, hh.1]) (by rw [hh.1]; exact o1) ?_) (gS_push hS (by rw [z1, hh.1]) (by rw [hh.1]; exact o1))
  have hc : xI X = cA := Option.some.inj (((gC_K C).2 0 _ rfl).2.symm.trans hNm)
  show H'[_]? = some (vp_cell (xI X) _)
  rw [hc]
  exact e1
theorem g_newarrayL (C : gC X own nm cc nL rm) {n : Int32} {N k : Nat} (hw : Cond.arrayClass .long ∈ gW) (hd : decode cc pc = .ok (.newarray .long, 2)) (hq : pc + 2 = q) (hk : hp.length = k) (hn : ¬ n < 0) (hN : n.toNatClampNeg = N) (hb : N ≤ 50000000) (h1 : cl + 1 ≤ rm.cells) (h2 : sl + N ≤ rm.slots) (kk : gG X q ls (.ref k :: st) (hp ++ [.inr (.inl (N, fun _ => 0))]) (cl + 1) (sl + N)) : gG X pc ls (.int n :: st) hp cl sl := by
  subst hq; subst hk
  have hR := C.2.2.2.2.2.2.2.2.1
  intro arr H locs hl hh hS
  refine va_newaK (atype := .long) C.1 C.2.1 (gC_hts C hw) rfl hd rfl hn hN (by show N * 8 ≤ _; omega) (by rw [hR]; exact h1) (by rw [hR]; exact h2) hh.1 fun H' cA e1 z1 o1 hAr hNm => ?_
  refine kk arr H' locs hl (gH_push hh (by rw [z1, hh.1]) (by rw [hh.1]; exact o1) ?_) (gS_push hS (by rw [z1, hh.1]) (by rw [hh.1]; exact o1))
  have hc : xJ X = cA := Option.some.inj (((gC_K C).2 1 _ rfl).2.symm.trans hNm)
  show H'[_]? = some (vp_cell (xJ X) _)
  rw [hc]
  exact e1
theorem gP1 {e : va_E} {k : Nat} {H : Heap} (h : va_at (xD X) vwCl (k, e) H) : va_P (xD X) vwCl [(k, e)] H := by
  intro i z hz
  have hi : i < 1 := (List.getElem?_eq_some_iff.mp hz).1
  have : i = 0 := by omega
  subst this
  cases hz
  exact h
theorem g_iaload (C : gC X own nm cc nL rm) {k n : Nat} {f : Nat → Int32} {i : Int32} (hd : decode cc pc = .ok (.iaload, 1)) (hq : pc + 1 = q) (ho : hp[k]? = some (.inl (n, f))) (hi : vp_in i n) (kk : gG X q ls (.int (f i.toNatClampNeg) :: st) hp cl sl) : gG X pc ls (.int i :: .ref k :: st) hp cl sl := by
  subst hq
  intro arr H locs hl hh hS
  exact va_iald C.1 C.2.1 (gC_K C) (gP1 (hh.2 k _ ho)) 0 0 rfl rfl hi hd (kk arr H locs hl hh hS)
theorem g_laload (C : gC X own nm cc nL rm) {k n : Nat} {f : Nat → Int64} {i : Int32} (hd : decode cc pc = .ok (.laload, 1)) (hq : pc + 1 = q) (ho : hp[k]? = some (.inr (.inl (n, f)))) (hi : vp_in i n) (kk : gG X q ls (.long (f i.toNatClampNeg) :: st) hp cl sl) : gG X pc ls (.int i :: .ref k :: st) hp cl sl := by
  subst hq
  intro arr H locs hl hh hS
  exact va_lald C.1 C.2.1 (gC_K C) (gP1 (hh.2 k _ ho)) 0 1 rfl rfl hi hd (kk arr H locs hl hh hS)
theorem g_arraylength (C : gC X own nm cc nL rm) {k n : Nat} {f : Nat → Int32} {v : Int32} (hd : decode cc pc = .ok (.arraylength, 1)) (hq : pc + 1 = q) (ho : hp[k]? = some (.inl (n, f))) (hv : Int32.ofNat n = v) (kk : gG X q ls (.int v :: st) hp cl sl) : gG X pc ls (.ref k :: st) hp cl sl := by
  subst hq
  intro arr H locs hl hh hS
  exact va_alen C.1 C.2.1 (gC_K C) (gP1 (hh.2 k _ ho)) 0 0 rfl rfl hv hd (kk arr H locs hl hh hS)
theorem g_iastore (C : gC X own nm cc nL rm) {k n : Nat} {f : Nat → Int32} {i x : Int32} (hd : decode cc pc = .ok (.iastore, 1)) (hq : pc + 1 = q) (ho : hp[k]? = some (.inl (n, f))) (hi : vp_in i n) (kk : gG X q ls st (hp.set k (.inl (n, upd f i.toNatClampNeg x))) cl sl) : gG X pc ls (.int x :: .int i :: .ref k :: st) hp cl sl := by
  subst hq
  intro arr H locs hl hh hS
  refine W.iast C.1 C.2.1 (hh.2 k _ ho) (((gC_K C).2 0 _ rfl).1 n (fun j => .int (f j))) (fun z => by cases z) (by show ¬ (i < 0 ∨ (arrV _ _ _).slots.size ≤ _); rw [arrV_size]; exact hi) rfl rfl hd fun H1 e z oq => ?_
  refine kk arr H1 _ hl (gH_set hh z oq ?_) (hS.put z oq (Nat.le_add_right _ _))
  show H1[_]? = some (vp_cell _ _)
  rw [e]
  show some ((arrV (xI X) n (fun j => Value.int (f j))).setSlot _ _) = some (arrV (xI X) n (fun j => Value.int (upd f i.toNatClampNeg x j)))
  rw [arrV_store]
  congr 2
  funext z2
  by_cases hz : z2 = i.toNatClampNeg
  · subst hz; simp [updV, upd]
  · simp [updV, upd, hz]
theorem g_lastore (C : gC X own nm cc nL rm) {k n : Nat} {f : Nat → Int64} {i : Int32} {x : Int64} (hd : decode cc pc = .ok (.lastore, 1)) (hq : pc + 1 = q) (ho : hp[k]? = some (.inr (.inl (n, f)))) (hi : vp_in i n) (kk : gG X q ls st (hp.set k (.inr (.inl (n, vp_updL f i.toNatClampNeg x)))) cl sl) : gG X pc ls (.long x :: .int i :: .ref k :: st) hp cl sl := by
  subst hq
  intro arr H locs hl hh hS
  refine W.last C.1 C.2.1 (hh.2 k _ ho) (((gC_K C).2 1 _ rfl).1 n (fun j => .long (f j))) (fun z => by cases z) (by show ¬ (i < 0 ∨ (arrV _ _ _).slots.size ≤ _); rw [arrV_size]; exact hi) rfl rfl hd fun H1 e z oq => ?_
  refine kk arr H1 _ hl (gH_set hh z oq ?_) (hS.put z oq (Nat.le_add_right _ _))
  show H1[_]? = some (vp_cell _ _)
  rw [e]
  show some ((arrV (xJ X) n (fun j => Value.long (f j))).setSlot _ _) = some (arrV (xJ X) n (fun j => Value.long (vp_updL f i.toNatClampNeg x j)))
  rw [arrV_store]
  congr 2
  funext z2
  by_cases hz : z2 = i.toNatClampNeg
  · subst hz; simp [updV, vp_updL]
  · simp [updV, vp_updL, hz]
theorem g_objInit (C : gC X own nm cc nL rm) {ix k : Nat} (hm : Cond.methodLink own ix objectInit ∈ gW) (hi : Cond.instanceMethod objectInit ∈ gW) (hcd : Cond.code objectInit ⟨#[0xb1]⟩ 1 none ∈ gW) (hd : decode cc pc = .ok (.invokespecial ix, 3)) (hq : pc + 3 = q) (hls : ls.length = nL) (hf : 1 ≤ rm.frames) (hl0 : (st.map fun v => v.category).sum + 12 ≤ rm.locals) (kk : gG X q ls st hp cl sl) : gG X pc ls (.ref k :: st) hp cl sl := by
  subst hq
  have hR := C.2.2.2.2.2.2.2.2.1
  intro arr H locs hl hh hS
  have hsz : (F0 (xm X) pc arr ((Value.ref k :: st).map (gv (xB X) (xA X)))).locals.size = (xc X).maxLocals := by rw [C.2.2.1, ← hls]; exact hl.1
  refine W.objInit C.1 C.2.1 C.2.2.2.1 (gC_hts C hm) (gC_hts C hi) (gC_hts C hcd) rfl hsz rfl hd (by rw [hR]; exact hf) ?_ (W.eq (g2 := F0 (xm X) (pc + 3) arr (st.map (gv (xB X) (xA X)))) rfl (kk arr H locs hl hh hS))
  rw [hR, List.map_map]
  have e : ((fun v => v.category) ∘ gv (xB X) (xA X)) = fun v : Value => v.category := by funext v; exact gv_cat _ _ v
  rw [e]
  have hm0 : (F0 (xm X) pc arr ((Value.ref k :: st).map (gv (xB X) (xA X)))).monitorRoom = 0 := by simp [JFrame.monitorRoom]
  rw [hm0]
  omega
end GR3
end
section
/-! methods: a contract over the abstract world, its start, its end, its calls -/
def gPc (D : va_G) (cI cJ : ClassId) (b0 : Nat) (sa : Nat → Nat) (av : List Value) (hp : List gA) : Array Value → State → Prop := fun a U =>
  a = (av.map (gv b0 sa)).toArray ∧ gH D cI cJ b0 sa hp U.heap ∧ va_K D vwCl [(cI, .int), (cJ, .long)] U ∧ gN U
def gQc (D : va_G) (cI cJ : ClassId) (b0 : Nat) (sa : Nat → Nat) (P : Option Value → List gA → Prop) : Array Value → State → Outcome → State → Prop := fun _ st o t =>
  (∃ (v : Option Value) (hp' : List gA), o = .returned (v.map (gv b0 sa)) ∧ P v hp' ∧ gH D cI cJ b0 sa hp' t.heap) ∧ va_F (fun q => b0 ≤ q) st t
/-- the method y, called with av in the world hp, makes at most mc cells of ms slots, and comes back with P -/
def gM (y : MethodName) (bytes : ByteArray) (maxL : Nat) (ret : Option FieldType) (fr lo : Nat) (av : List Value) (hp : List gA) (mc ms : Nat) (P : Option Value → List gA → Prop) : Prop :=
  ∀ (l : Launch) (D : va_G) (cI cJ : ClassId) (b0 : Nat) (sa : Nat → Nat), Met l y (Cond.code y bytes maxL ret :: gW) ({ frames := fr, cells := mc, slots := ms, locals := lo }) (gPc D cI cJ b0 sa av hp) (gQc D cI cJ b0 sa P) mc ms (fun q => b0 ≤ q)
/-- how the method that runs may end -/
def gEnd (X : gX) (cc : ByteArray) (ret : Option FieldType) (P : Option Value → List gA → Prop) (mc ms : Nat) : Prop :=
  (∀ (pc : Nat) (ls : List (Option Value)) (v : Int32) (hp : List gA) (cl sl : Nat) (ty : FieldType), decode cc pc = .ok (.ireturn, 1) → ret = some ty → narrow ty (.int v) = .int v → cl ≤ mc → sl ≤ ms → P (some (.int v)) hp → gG X pc ls [.int v] hp cl sl) ∧
  (∀ (pc : Nat) (ls : List (Option Value)) (hp : List gA) (cl sl : Nat), decode cc pc = .ok (.return_, 1) → ret = none → cl ≤ mc → sl ≤ ms → P none hp → gG X pc ls [] hp cl sl) ∧
  (∀ (pc : Nat) (ls : List (Option Value)) (k : Nat) (hp : List gA) (cl sl : Nat) (ty : FieldType), decode cc pc = .ok (.areturn, 1) → ret = some ty → ((∃ n, ty = .object n) ∨ ∃ t, ty = .array t) → cl ≤ mc → sl ≤ ms → P (some (.ref k)) hp → gG X pc ls [.ref k] hp cl sl)
def gent : List Value → List (Option Value)
  | [] => []
  | .long x :: t => some (.long x) :: none :: gent t
  | .double x :: t => some (.double x) :: none :: gent t
  | v :: t => some v :: gent t
theorem gent_len (b0 : Nat) (sa : Nat → Nat) : ∀ av : List Value, (lg_sl (av.map (gv b0 sa))).length = (gent av).length
  | [] => rfl
  | v :: t => by
    have h := gent_len b0 sa t
    cases v <;> simp [gent, lg_sl, gv, Value.category] at h ⊢ <;> omega
theorem gent_at (b0 : Nat) (sa : Nat → Nat) : ∀ (av : List Value) (i : Nat) (v : Value), (gent av)[i]? = some (some v) → (lg_sl (av.map (gv b0 sa)))[i]? = some (.val (gv b0 sa v))
  | [], i, v, h => by simp [gent] at h
  | .long x :: t, 0, v, h => by simp [gent] at h; subst h; simp [lg_sl, gv, Value.category]
  | .long x :: t, 1, v, h => by simp [gent] at h
  | .long x :: t, i + 2, v, h => by
    have h2 : (gent t)[i]? = some (some v) := by simpa [gent] using h
    have h3 := gent_at b0 sa t i v h2
    simpa [lg_sl, gv, Value.category] using h3
  | .double x :: t, 0, v, h => by simp [gent] at h; subst h; simp [lg_sl, gv, Value.category]
  | .double x :: t, 1, v, h => by simp [gent] at h
  | .double x :: t, i + 2, v, h => by
    have h2 : (gent t)[i]? = some (some v) := by simpa [gent] using h
    have h3 := gent_at b0 sa t i v h2
    simpa [lg_sl, gv, Value.category] using h3
  | .int x :: t, 0, v, h => by simp [gent] at h; subst h; simp [lg_sl, gv, Value.category]
  | .int x :: t, i + 1, v, h => by
    have h3 := gent_at b0 sa t i v (by simpa [gent] using h)
    simpa [lg_sl, gv, Value.category] using h3
  | .float x :: t, 0, v, h => by simp [gent] at h; subst h; simp [lg_sl, gv, Value.category]
  | .float x :: t, i + 1, v, h => by
    have h3 := gent_at b0 sa t i v (by simpa [gent] using h)
    simpa [lg_sl, gv, Value.category] using h3
  | .null :: t, 0, v, h => by simp [gent] at h; subst h; simp [lg_sl, gv, Value.category]
  | .null :: t, i + 1, v, h => by
    have h3 := gent_at b0 sa t i v (by simpa [gent] using h)
    simpa [lg_sl, gv, Value.category] using h3
  | .ref x :: t, 0, v, h => by simp [gent] at h; subst h; simp [lg_sl, gv, Value.category]
  | .ref x :: t, i + 1, v, h => by
    have h3 := gent_at b0 sa t i v (by simpa [gent] using h)
    simpa [lg_sl, gv, Value.category] using h3
  | .retAddr x :: t, 0, v, h => by simp [gent] at h; subst h; simp [lg_sl, gv, Value.category]
  | .retAddr x :: t, i + 1, v, h => by
    have h3 := gent_at b0 sa t i v (by simpa [gent] using h)
    simpa [lg_sl, gv, Value.category] using h3
theorem gL_entry (b0 : Nat) (sa : Nat → Nat) (av : List Value) {n : Nat} (h : (gent av).length ≤ n) : gL b0 sa ((lg_sl (av.map (gv b0 sa)) ++ List.replicate (n - (lg_sl (av.map (gv b0 sa))).length) Slot.unset).toArray) (gent av ++ List.replicate (n - (gent av).length) none) := by
  have hlen := gent_len b0 sa av
  obtain ⟨h1, h2, -⟩ := lv_entry (av.map (gv b0 sa)) (n := n) (by rw [hlen]; exact h)
  refine ⟨?_, h2, fun i v hv => ?_⟩
  · rw [h1, List.length_append, List.length_replicate]; omega
  · by_cases hi : i < (gent av).length
    · rw [List.getElem?_append_left hi] at hv
      rw [List.getElem?_toArray, List.getElem?_append_left (by rw [hlen]; exact hi)]
      exact gent_at b0 sa av i v hv
    · rw [List.getElem?_append_right (by omega)] at hv
      have := List.eq_of_mem_replicate (List.mem_of_getElem? hv)
      cases this
/-- a contract out of a walk of the body, for a method that is no native row (the JDK's own methods too) -/
theorem gofW {l : Launch} {y : MethodName} {ws ws' : List Cond} {rm : Room} {Pc : Array Value → State → Prop} {Qc : Array Value → State → Outcome → State → Prop} {mc ms : Nat} {free : Addr → Prop} {cc : ByteArray} {maxL : Nat} {ret : Option FieldType}
    (hy : plainFor y = true) (hw : ws = Cond.code y cc maxL ret :: ws')
    (body : ∀ p e s m args below meth c s₁, BodyLoose p l y (headSpec ws rm) cc maxL ret e s m args below meth c s₁ → c.maxLocals = maxL → Pc args s →
      W p l e (headSpec ws rm).room s m args below meth c s.heap [] 0 0 (MQ below Qc args s mc ms free) (entryFrame m args maxL)) : Met l y ws rm Pc Qc mc ms free := by
  refine MetFree.of_bodySF (code := cc) (maxLocals := maxL) (ret := ret) hy (fun args s m h hn => ?_) (fun p e s m args below meth c s₁ B hml hP _ => ?_)
  · obtain ⟨meth, c, h1, h2, h3, h4, h5, h6, -, -⟩ := Cond.code_spec hn (atoms_spec (ws := ws) h _ (by rw [hw]; exact List.mem_cons_self))
    exact ⟨meth, c, h1, h2, h3, h4, h5, h6⟩
  · have hh0 : s₁.heap = s.heap := by rw [B.state]; rfl
    obtain ⟨t, a1, o, b1, b2, b3⟩ := body p e s m args below meth c s₁ B hml hP s₁ hh0 (Stand.of_body B)
    exact ⟨t, o, a1, b1, b2, ⟨b3.1, b3.2⟩⟩
theorem gM_of {y : MethodName} {bytes : ByteArray} {maxL : Nat} {ret : Option FieldType} {fr lo : Nat} {av : List Value} {hp : List gA} {mc ms : Nat} {P : Option Value → List gA → Prop} {ls0 : List (Option Value)} (hy : plainFor y = true) (hn : (gent av).length ≤ maxL) (hl : gent av ++ List.replicate (maxL - (gent av).length) none = ls0)
    (body : ∀ X : gX, gC X y.cls y.name bytes maxL ({ frames := fr, cells := mc, slots := ms, locals := lo }) → gEnd X bytes ret P mc ms → gG X 0 ls0 [] hp 0 0) : gM y bytes maxL ret fr lo av hp mc ms P := by
  intro l D cI cJ b0 sa
  refine gofW (cc := bytes) (maxL := maxL) (ret := ret) hy rfl ?_
  intro p e s m args below meth c s₁ B hml hv
  obtain ⟨rfl, hH, hK, hN⟩ := hv
  have hts := atoms_spec (ws := Cond.code y bytes maxL ret :: gW) B.pre
  have C : gC ((p, l, e, (headSpec (Cond.code y bytes maxL ret :: gW) { frames := fr, cells := mc, slots := ms, locals := lo }).room), (s, m, (av.map (gv b0 sa)).toArray, below), (meth, c), (D, cI, cJ), (b0, sa), MQ below (gQc D cI cJ b0 sa P) (av.map (gv b0 sa)).toArray s mc ms (fun q => b0 ≤ q)) y.cls y.name bytes maxL ({ frames := fr, cells := mc, slots := ms, locals := lo }) :=
    ⟨B.exec, B.bytes, hml, findClass_of_methodNamed B.named, fun w hw => hts w (List.mem_cons_of_mem _ hw), hK, by show b0 ≤ s.heap.size; rw [hH.1]; omega, B.notSynchronized, rfl, (name_of_methodNamed B.named B.method).1, hN⟩
  have hr := B.returns
  have hlk := B.notSynchronized
  have G := body _ C ⟨?_, ?_, ?_⟩
  · have hE := gL_entry b0 sa av hn
    rw [hl] at hE
    rw [lg_entry_eq]
    exact G _ s.heap [] hE hH va_S.rf
  · intro pc ls v hp1 cl sl ty hd hty hnr h1 h2 hP arr H locs hl1 hh hS
    exact W.widen h1 h2 (W.zret B.exec B.bytes (hr.trans hty) hnr (fun t ht hW => ⟨⟨some (.int v), hp1, rfl, hP, by rw [ht]; exact hh⟩, hS.F ht⟩) hS.2.2 hd hlk)
  · intro pc ls hp1 cl sl hd hty h1 h2 hP arr H locs hl1 hh hS
    exact W.widen h1 h2 (W.vret B.exec B.bytes (hr.trans hty) (fun t ht hW => ⟨⟨none, hp1, rfl, hP, by rw [ht]; exact hh⟩, hS.F ht⟩) hS.2.2 hd hlk)
  · intro pc ls k hp1 cl sl ty hd hty hrt h1 h2 hP arr H locs hl1 hh hS
    exact W.widen h1 h2 (W.aret B.exec B.bytes (hr.trans hty) hrt (Or.inr ⟨_, rfl⟩) (fun t ht hW => ⟨⟨some (.ref k), hp1, rfl, hP, by rw [ht]; exact hh⟩, hS.F ht⟩) hS.2.2 hd hlk)
/-- call sites: by the tables' words -/
def gY (y : MethodName) (bytes : ByteArray) (maxL : Nat) (ret : Option FieldType) (n : Nat) : Prop :=
  Cond.initialized y.cls ∈ gW ∧ Cond.code y bytes maxL ret ∈ gW ∧ (y.cls ≠ "java/lang/invoke/MethodHandle" ∧ y.cls ≠ "java/lang/invoke/VarHandle" ∧ (parseMethodDescriptor y.desc).map (fun d => d.parameters.length) = some n)
def gVi (y : MethodName) : Prop := Cond.instanceMethod y ∈ gW
def gVv (y : MethodName) : Prop := Cond.instanceMethod y ∈ gW ∧ Cond.selects y.cls y y ∈ gW
theorem gGood {w : Cond} (h : w ∈ gW) : GoodIn gW (w :: gW) := fun u hu => by
  rcases List.mem_cons.mp hu with rfl | hu
  · exact ⟨h, gW_good h⟩
  · exact ⟨hu, gW_good hu⟩
theorem gPc_blind (D : va_G) (cI cJ : ClassId) (b0 : Nat) (sa : Nat → Nat) (av : List Value) (hp : List gA) : FrameBlind (gPc D cI cJ b0 sa av hp) := fun a U g mk h =>
  ⟨h.1, h.2.1, va_K.moved (u := U) (U := U.calling g mk a) (Vm.Alike.refl U.vm) h.2.2.1, gN.same (u := U) (U := U.calling g mk a) rfl h.2.2.2⟩
section GCA
variable {X : gX} {own nm : String} {cc : ByteArray} {nL : Nat} {rm : Room} {pc q : Nat} {ls : List (Option Value)} {st stk : List Value} {hp : List gA} {cl sl : Nat}
variable {y : MethodName} {bytes : ByteArray} {maxL n ix b fr lo mc ms : Nat} {ret : Option FieldType} {As : List Value} {P : Option Value → List gA → Prop}
theorem g_back {arr : Array Slot} {H : Heap} {locs : List Loc} {st0 : List Value} {a : Array Value} (hr : va_Run (xp X) (xl X) (xe X) (xR X) (xs X) (xm X) (xa X) (xb X) (xt X) (xc X) H locs cl sl mc ms (F0 (xm X) pc arr st0) (st.map (gv (xB X) (xA X))) (gQc (xD X) (xI X) (xJ X) (xB X) (xA X) P a) (fun q => xB X ≤ q)) (hl : gL (xB X) (xA X) arr ls) (hS : va_S (fun q => xB X ≤ q) (xs X).heap H locs)
    (kk : ∀ (v : Option Value) (hp' : List gA), P v hp' → gG X (pc + 3) ls (v.toList ++ st) hp' (cl + mc) (sl + ms)) : W (xp X) (xl X) (xe X) (xR X) (xs X) (xm X) (xa X) (xb X) (xt X) (xc X) H locs cl sl (xQ X) (F0 (xm X) pc arr st0) := by
  intro T hT Y
  obtain ⟨v, st₀, t, T', L, h0, Y', hL, e1, e2, ⟨⟨v', hp', hv, hp, hb⟩, hz, hk⟩, hst⟩ := hr T hT Y
  have hv' : v = v'.map (gv (xB X) (xA X)) := Outcome.returned.inj hv
  rw [h0] at hz hk
  have hS' : va_S (fun q => xB X ≤ q) (xs X).heap T'.heap (locs ++ L) :=
    ⟨Nat.le_trans hS.1 (by rw [e1]; exact hz), fun q h1 h2 => by rw [e1, hk q (Nat.lt_of_lt_of_le h1 hS.1) h2]; exact hS.2.1 q h1 h2, fun q hq => by
      rcases List.mem_append.mp hq with h | h
      · exact hS.2.2 q h
      · exact hL q h⟩
  obtain ⟨t2, a1, b1⟩ := kk v' hp' hp arr T'.heap (locs ++ L) hl (by rw [e1]; exact hb) hS' T' rfl Y'
  refine ⟨t2, hst t2 ?_, b1⟩
  have e : v.toList ++ st.map (gv (xB X) (xA X)) = (v'.toList ++ st).map (gv (xB X) (xA X)) := by
    rw [hv']; cases v' <;> simp
  rw [show ({ (F0 (xm X) pc arr st0) with pc := (F0 (xm X) pc arr st0).pc + 3, stack := v.toList ++ st.map (gv (xB X) (xA X)) } : JFrame) = F0 (xm X) (pc + 3) arr ((v'.toList ++ st).map (gv (xB X) (xA X))) by rw [e]]
  exact a1
theorem g_cat (b0 : Nat) (sa : Nat → Nat) (h : (st.map fun v => v.category).sum ≤ 8) {m : MethodId} {arr : Array Slot} {s0 : List Value} : 2 * (F0 m pc arr s0).monitorRoom + ((st.map (gv b0 sa)).map fun v => v.category).sum ≤ 8 := by
  refine lv_room ?_
  rw [List.map_map]
  have e : ((fun v => v.category) ∘ gv b0 sa) = fun v : Value => v.category := by funext v; exact gv_cat _ _ v
  rw [e]; exact h
theorem g_callV (C : gC X own nm cc nL rm) (Y : gY y bytes maxL ret n) (V : gVv y) (hl0 : Cond.methodLink own ix y ∈ gW) (hM : gM y bytes maxL ret fr lo (.ref b :: As) hp mc ms P) (hd : decode cc pc = .ok (.invokevirtual ix, 3)) (hq : pc + 3 = q) {ci N : Nat} {T : u_T} {fs : List Value} (ho : hp[b]? = some (.inr (.inr (ci, fs)))) (hci : vwCl[ci]? = some (y.cls, T, N)) (hn : As.length = n) (hls : ls.length = nL) (hfr : fr + 1 ≤ rm.frames) (hlo : 8 + (maxL + 11) + lo ≤ rm.locals) (hw : (st.map fun v => v.category).sum ≤ 8) (hc : cl + mc ≤ rm.cells) (hs2 : sl + ms ≤ rm.slots) (hst : stk = As.reverse ++ .ref b :: st)
    (kk : ∀ (v : Option Value) (hp' : List gA), P v hp' → gG X q ls (v.toList ++ st) hp' (cl + mc) (sl + ms)) : gG X pc ls stk hp cl sl := by
  subst hq; subst hst
  have hR := C.2.2.2.2.2.2.2.2.1
  have hts := fun w (hw : w ∈ gW) => gC_hts C (w := w) hw
  intro arr H locs hl hh hS
  obtain ⟨h1, h2, h3⟩ := Y
  have cb : CallB (xR X) (xs X) (xa X) own ix y bytes maxL ret (Cond.code y bytes maxL ret :: gW) ({ frames := fr, cells := mc, slots := ms, locals := lo }) mc ms n := callB_of n hts (gGood h2) rfl rfl rfl (hts _ h1) (hts _ hl0) h3 (by rw [hR]; exact ⟨hfr, hlo⟩)
  have hp0 : PreV (xs X) H y.cls (xB X + b) (gPc (xD X) (xI X) (xJ X) (xB X) (xA X) (.ref b :: As) hp) (As.map (gv (xB X) (xA X))) :=
    ⟨gPc_blind _ _ _ _ _ _ _, va_recv (gC_K C) (gP1 (hh.2 b _ ho)) hci (q0 := 0) rfl, fun U hU hW => ⟨rfl, by rw [hU]; exact hh, va_K.moved hW.alike (gC_K C), gN.warm hW C.2.2.2.2.2.2.2.2.2.2⟩⟩
  have hsz : arr.size = nL := hl.1.trans hls
  refine g_back (va_runV (b := xB X + b) (As := As.map (gv (xB X) (xA X))) (rest := st.map (gv (xB X) (xA X))) ⟨C.1, C.2.1, C.2.2.1, C.2.2.2.1, hts⟩ (hM _ _ _ _ _ _) ⟨cb, hts _ V.1, hts _ V.2⟩ hp0 rfl (by rw [List.length_map]; exact hn) hsz ?_ (g_cat _ _ hw) hd (by rw [hR]; exact ⟨hc, hs2⟩)) hl hS kk
  show (As.reverse ++ .ref b :: st).map _ = _
  rw [List.map_append, List.map_reverse]; rfl
theorem g_callS (C : gC X own nm cc nL rm) (Y : gY y bytes maxL ret n) (V : Cond.static y ∈ gW) (hl0 : Cond.methodLink own ix y ∈ gW) (hM : gM y bytes maxL ret fr lo As hp mc ms P) (hd : decode cc pc = .ok (.invokestatic ix, 3)) (hq : pc + 3 = q) (hn : As.length = n) (hls : ls.length = nL) (hfr : fr + 1 ≤ rm.frames) (hlo : 8 + (maxL + 11) + lo ≤ rm.locals) (hw : (st.map fun v => v.category).sum ≤ 8) (hc : cl + mc ≤ rm.cells) (hs2 : sl + ms ≤ rm.slots) (hst : stk = As.reverse ++ st)
    (kk : ∀ (v : Option Value) (hp' : List gA), P v hp' → gG X q ls (v.toList ++ st) hp' (cl + mc) (sl + ms)) : gG X pc ls stk hp cl sl := by
  subst hq; subst hst
  have hR := C.2.2.2.2.2.2.2.2.1
  have hts := fun w (hw : w ∈ gW) => gC_hts C (w := w) hw
  intro arr H locs hl hh hS
  obtain ⟨h1, h2, h3⟩ := Y
  have cb : CallB (xR X) (xs X) (xa X) own ix y bytes maxL ret (Cond.code y bytes maxL ret :: gW) ({ frames := fr, cells := mc, slots := ms, locals := lo }) mc ms n := callB_of n hts (gGood h2) rfl rfl rfl (hts _ h1) (hts _ hl0) h3 (by rw [hR]; exact ⟨hfr, hlo⟩)
  have hp0 : PreS (xs X) H (gPc (xD X) (xI X) (xJ X) (xB X) (xA X) As hp) (As.map (gv (xB X) (xA X))) :=
    ⟨gPc_blind _ _ _ _ _ _ _, fun U hU hW => ⟨rfl, by rw [hU]; exact hh, va_K.moved hW.alike (gC_K C), gN.warm hW C.2.2.2.2.2.2.2.2.2.2⟩⟩
  have hsz : arr.size = nL := hl.1.trans hls
  refine g_back (va_runS (As := As.map (gv (xB X) (xA X))) (rest := st.map (gv (xB X) (xA X))) ⟨C.1, C.2.1, C.2.2.1, C.2.2.2.1, hts⟩ (hM _ _ _ _ _ _) ⟨cb, hts _ V⟩ hp0 rfl (by rw [List.length_map]; exact hn) hsz ?_ (g_cat _ _ hw) hd (by rw [hR]; exact ⟨hc, hs2⟩)) hl hS kk
  show (As.reverse ++ st).map _ = _
  rw [List.map_append, List.map_reverse]
theorem g_callI (C : gC X own nm cc nL rm) (Y : gY y bytes maxL none n) (V : gVi y) (hyi : y.name = "<init>") (hl0 : Cond.methodLink own ix y ∈ gW) (hM : gM y bytes maxL none fr lo (.ref b :: As) hp mc ms P) (hd : decode cc pc = .ok (.invokespecial ix, 3)) (hq : pc + 3 = q) (hn : As.length = n) (hls : ls.length = nL) (hfr : fr + 1 ≤ rm.frames) (hlo : 8 + (maxL + 11) + lo ≤ rm.locals) (hw : (st.map fun v => v.category).sum ≤ 8) (hc : cl + mc ≤ rm.cells) (hs2 : sl + ms ≤ rm.slots) (hst : stk = As.reverse ++ .ref b :: st)
    (kk : ∀ (v : Option Value) (hp' : List gA), P v hp' → gG X q ls (v.toList ++ st) hp' (cl + mc) (sl + ms)) : gG X pc ls stk hp cl sl := by
  subst hq; subst hst
  have hR := C.2.2.2.2.2.2.2.2.1
  have hts := fun w (hw : w ∈ gW) => gC_hts C (w := w) hw
  intro arr H locs hl hh hS
  obtain ⟨h1, h2, h3⟩ := Y
  have cb : CallB (xR X) (xs X) (xa X) own ix y bytes maxL none (Cond.code y bytes maxL none :: gW) ({ frames := fr, cells := mc, slots := ms, locals := lo }) mc ms n := callB_of n hts (gGood h2) rfl rfl rfl (hts _ h1) (hts _ hl0) h3 (by rw [hR]; exact ⟨hfr, hlo⟩)
  have hp0 : PreS (xs X) H (gPc (xD X) (xI X) (xJ X) (xB X) (xA X) (.ref b :: As) hp) (.ref (xB X + b) :: As.map (gv (xB X) (xA X))) :=
    ⟨gPc_blind _ _ _ _ _ _ _, fun U hU hW => ⟨rfl, by rw [hU]; exact hh, va_K.moved hW.alike (gC_K C), gN.warm hW C.2.2.2.2.2.2.2.2.2.2⟩⟩
  have hsz : arr.size = nL := hl.1.trans hls
  refine g_back (va_runI (b := xB X + b) (As := As.map (gv (xB X) (xA X))) (rest := st.map (gv (xB X) (xA X))) ⟨C.1, C.2.1, C.2.2.1, C.2.2.2.1, hts⟩ (hM _ _ _ _ _ _) ⟨cb, hyi, hts _ V⟩ hp0 rfl (by rw [List.length_map]; exact hn) hsz ?_ (g_cat _ _ hw) hd (by rw [hR]; exact ⟨hc, hs2⟩)) hl hS kk
  show (As.reverse ++ .ref b :: st).map _ = _
  rw [List.map_append, List.map_reverse]; rfl
theorem g_callIN (C : gC X own nm cc nL rm) (Y : gY y bytes maxL none n) (V : gVi y) (hyi : y.name = "<init>") {host : String} (hl0 : (own, ix, y, host) ∈ gNest) (hM : gM y bytes maxL none fr lo (.ref b :: As) hp mc ms P) (hd : decode cc pc = .ok (.invokespecial ix, 3)) (hq : pc + 3 = q) (hn : As.length = n) (hls : ls.length = nL) (hfr : fr + 1 ≤ rm.frames) (hlo : 8 + (maxL + 11) + lo ≤ rm.locals) (hw : (st.map fun v => v.category).sum ≤ 8) (hc : cl + mc ≤ rm.cells) (hs2 : sl + ms ≤ rm.slots) (hst : stk = As.reverse ++ .ref b :: st)
    (kk : ∀ (v : Option Value) (hp' : List gA), P v hp' → gG X q ls (v.toList ++ st) hp' (cl + mc) (sl + ms)) : gG X pc ls stk hp cl sl := by
  subst hq; subst hst
  have hR := C.2.2.2.2.2.2.2.2.1
  have hts := fun w (hw : w ∈ gW) => gC_hts C (w := w) hw
  intro arr H locs hl hh hS
  obtain ⟨h1, h2, h3⟩ := Y
  have cb : va_CN (xR X) (xs X) (xa X) own ix y host bytes maxL none (Cond.code y bytes maxL none :: gW) ({ frames := fr, cells := mc, slots := ms, locals := lo }) mc ms n := va_cnB n hts (gGood h2) rfl rfl rfl (C.2.2.2.2.2.2.2.2.2.2 _ hl0) (hts _ h1) h3 (by rw [hR]; exact ⟨hfr, hlo⟩)
  have hp0 : PreS (xs X) H (gPc (xD X) (xI X) (xJ X) (xB X) (xA X) (.ref b :: As) hp) (.ref (xB X + b) :: As.map (gv (xB X) (xA X))) :=
    ⟨gPc_blind _ _ _ _ _ _ _, fun U hU hW => ⟨rfl, by rw [hU]; exact hh, va_K.moved hW.alike (gC_K C), gN.warm hW C.2.2.2.2.2.2.2.2.2.2⟩⟩
  have hsz : arr.size = nL := hl.1.trans hls
  refine g_back (va_runIN (b := xB X + b) (As := As.map (gv (xB X) (xA X))) (rest := st.map (gv (xB X) (xA X))) ⟨C.1, C.2.1, C.2.2.1, C.2.2.2.1, hts⟩ (hM _ _ _ _ _ _) ⟨cb, hyi, hts _ V⟩ hp0 rfl (by rw [List.length_map]; exact hn) hsz ?_ (g_cat _ _ hw) hd (by rw [hR]; exact ⟨hc, hs2⟩)) hl hS kk
  show (As.reverse ++ .ref b :: st).map _ = _
  rw [List.map_append, List.map_reverse]; rfl
end GCA
end
section
/-! the tables' words, by their places; sites of fields, new objects, calls (by program: wip/p1/gen_words.py) -/
theorem t_0 : Jvm.Cond.selects "CardLink" (⟨"CardLink", "feedEight", "(J)V"⟩ : Jvm.MethodName) (⟨"CardLink", "feedEight", "(J)V"⟩ : Jvm.MethodName) ∈ gW := gW_of (List.mem_of_getElem? (i := 0) (by decide +kernel)) rfl
theorem t_1 : Jvm.Cond.selects "CardLink$ResetAnswer" (⟨"CardLink$ResetAnswer", "clear", "()V"⟩ : Jvm.MethodName) (⟨"CardLink$ResetAnswer", "clear", "()V"⟩ : Jvm.MethodName) ∈ gW := gW_of (List.mem_of_getElem? (i := 1) (by decide +kernel)) rfl
theorem t_2 : Jvm.Cond.selects "CardLink$ResetAnswer" (⟨"CardLink$ResetAnswer", "readHead", "(LCardLink$Row;)I"⟩ : Jvm.MethodName) (⟨"CardLink$ResetAnswer", "readHead", "(LCardLink$Row;)I"⟩ : Jvm.MethodName) ∈ gW := gW_of (List.mem_of_getElem? (i := 2) (by decide +kernel)) rfl
theorem t_3 : Jvm.Cond.selects "CardLink$ResetAnswer" (⟨"CardLink$ResetAnswer", "readGroups", "(LCardLink$Row;)I"⟩ : Jvm.MethodName) (⟨"CardLink$ResetAnswer", "readGroups", "(LCardLink$Row;)I"⟩ : Jvm.MethodName) ∈ gW := gW_of (List.mem_of_getElem? (i := 3) (by decide +kernel)) rfl
theorem t_4 : Jvm.Cond.selects "CardLink$ResetAnswer" (⟨"CardLink$ResetAnswer", "readGroupByte", "(III)I"⟩ : Jvm.MethodName) (⟨"CardLink$ResetAnswer", "readGroupByte", "(III)I"⟩ : Jvm.MethodName) ∈ gW := gW_of (List.mem_of_getElem? (i := 4) (by decide +kernel)) rfl
theorem t_5 : Jvm.Cond.selects "CardLink$ResetAnswer" (⟨"CardLink$ResetAnswer", "readTd", "(II)I"⟩ : Jvm.MethodName) (⟨"CardLink$ResetAnswer", "readTd", "(II)I"⟩ : Jvm.MethodName) ∈ gW := gW_of (List.mem_of_getElem? (i := 5) (by decide +kernel)) rfl
theorem t_6 : Jvm.Cond.selects "CardLink$ResetAnswer" (⟨"CardLink$ResetAnswer", "readFirstGroup", "(II)I"⟩ : Jvm.MethodName) (⟨"CardLink$ResetAnswer", "readFirstGroup", "(II)I"⟩ : Jvm.MethodName) ∈ gW := gW_of (List.mem_of_getElem? (i := 6) (by decide +kernel)) rfl
theorem t_7 : Jvm.Cond.selects "CardLink$ResetAnswer" (⟨"CardLink$ResetAnswer", "readLinkGroup", "(II)I"⟩ : Jvm.MethodName) (⟨"CardLink$ResetAnswer", "readLinkGroup", "(II)I"⟩ : Jvm.MethodName) ∈ gW := gW_of (List.mem_of_getElem? (i := 7) (by decide +kernel)) rfl
theorem t_8 : Jvm.Cond.selects "CardLink$ResetAnswer" (⟨"CardLink$ResetAnswer", "readTail", "(LCardLink$Row;I)I"⟩ : Jvm.MethodName) (⟨"CardLink$ResetAnswer", "readTail", "(LCardLink$Row;I)I"⟩ : Jvm.MethodName) ∈ gW := gW_of (List.mem_of_getElem? (i := 8) (by decide +kernel)) rfl
theorem t_9 : Jvm.Cond.selects "CardLink" (⟨"CardLink", "mayStart", "()Z"⟩ : Jvm.MethodName) (⟨"CardLink", "mayStart", "()Z"⟩ : Jvm.MethodName) ∈ gW := gW_of (List.mem_of_getElem? (i := 9) (by decide +kernel)) rfl
theorem t_10 : Jvm.Cond.selects "CardLink$Line" (⟨"CardLink$Line", "begin", "(I)V"⟩ : Jvm.MethodName) (⟨"CardLink$Line", "begin", "(I)V"⟩ : Jvm.MethodName) ∈ gW := gW_of (List.mem_of_getElem? (i := 10) (by decide +kernel)) rfl
theorem t_11 : Jvm.Cond.selects "CardLink$Wire" (⟨"CardLink$Wire", "makePlace", "(I)V"⟩ : Jvm.MethodName) (⟨"CardLink$Wire", "makePlace", "(I)V"⟩ : Jvm.MethodName) ∈ gW := gW_of (List.mem_of_getElem? (i := 11) (by decide +kernel)) rfl
theorem t_12 : Jvm.Cond.selects "CardLink" (⟨"CardLink", "onWay", "()Z"⟩ : Jvm.MethodName) (⟨"CardLink", "onWay", "()Z"⟩ : Jvm.MethodName) ∈ gW := gW_of (List.mem_of_getElem? (i := 12) (by decide +kernel)) rfl
theorem t_13 : Jvm.Cond.selects "CardLink$Line" (⟨"CardLink$Line", "firstKind", "()I"⟩ : Jvm.MethodName) (⟨"CardLink$Line", "firstKind", "()I"⟩ : Jvm.MethodName) ∈ gW := gW_of (List.mem_of_getElem? (i := 13) (by decide +kernel)) rfl
theorem t_14 : Jvm.Cond.selects "CardLink$Line" (⟨"CardLink$Line", "readerKind", "()I"⟩ : Jvm.MethodName) (⟨"CardLink$Line", "readerKind", "()I"⟩ : Jvm.MethodName) ∈ gW := gW_of (List.mem_of_getElem? (i := 14) (by decide +kernel)) rfl
theorem t_15 : Jvm.Cond.selects "CardLink$Line" (⟨"CardLink$Line", "onBroken", "(LCardLink$Side;)I"⟩ : Jvm.MethodName) (⟨"CardLink$Line", "onBroken", "(LCardLink$Side;)I"⟩ : Jvm.MethodName) ∈ gW := gW_of (List.mem_of_getElem? (i := 15) (by decide +kernel)) rfl
theorem t_16 : Jvm.Cond.selects "CardLink$Line" (⟨"CardLink$Line", "readerOnAnswer", "()I"⟩ : Jvm.MethodName) (⟨"CardLink$Line", "readerOnAnswer", "()I"⟩ : Jvm.MethodName) ∈ gW := gW_of (List.mem_of_getElem? (i := 16) (by decide +kernel)) rfl
theorem t_17 : Jvm.Cond.selects "CardLink$Line" (⟨"CardLink$Line", "isAnswerTo", "(LCardLink$Side;)Z"⟩ : Jvm.MethodName) (⟨"CardLink$Line", "isAnswerTo", "(LCardLink$Side;)Z"⟩ : Jvm.MethodName) ∈ gW := gW_of (List.mem_of_getElem? (i := 17) (by decide +kernel)) rfl
theorem t_18 : Jvm.Cond.selects "CardLink$Line" (⟨"CardLink$Line", "finish", "(I)I"⟩ : Jvm.MethodName) (⟨"CardLink$Line", "finish", "(I)I"⟩ : Jvm.MethodName) ∈ gW := gW_of (List.mem_of_getElem? (i := 18) (by decide +kernel)) rfl
theorem t_19 : Jvm.Cond.selects "CardLink$Line" (⟨"CardLink$Line", "onRequest", "(LCardLink$Side;LCardLink$Side;I)I"⟩ : Jvm.MethodName) (⟨"CardLink$Line", "onRequest", "(LCardLink$Side;LCardLink$Side;I)I"⟩ : Jvm.MethodName) ∈ gW := gW_of (List.mem_of_getElem? (i := 19) (by decide +kernel)) rfl
theorem t_20 : Jvm.Cond.selects "CardLink$Line" (⟨"CardLink$Line", "refuse", "(LCardLink$Side;)I"⟩ : Jvm.MethodName) (⟨"CardLink$Line", "refuse", "(LCardLink$Side;)I"⟩ : Jvm.MethodName) ∈ gW := gW_of (List.mem_of_getElem? (i := 20) (by decide +kernel)) rfl
theorem t_21 : Jvm.Cond.selects "CardLink$Line" (⟨"CardLink$Line", "onI", "(LCardLink$Side;I)I"⟩ : Jvm.MethodName) (⟨"CardLink$Line", "onI", "(LCardLink$Side;I)I"⟩ : Jvm.MethodName) ∈ gW := gW_of (List.mem_of_getElem? (i := 21) (by decide +kernel)) rfl
theorem t_22 : Jvm.Cond.selects "CardLink$Line" (⟨"CardLink$Line", "onReceipt", "(LCardLink$Side;I)I"⟩ : Jvm.MethodName) (⟨"CardLink$Line", "onReceipt", "(LCardLink$Side;I)I"⟩ : Jvm.MethodName) ∈ gW := gW_of (List.mem_of_getElem? (i := 22) (by decide +kernel)) rfl
theorem t_23 : Jvm.Cond.selects "CardLink$Line" (⟨"CardLink$Line", "countTries", "(I)I"⟩ : Jvm.MethodName) (⟨"CardLink$Line", "countTries", "(I)I"⟩ : Jvm.MethodName) ∈ gW := gW_of (List.mem_of_getElem? (i := 23) (by decide +kernel)) rfl
theorem t_24 : Jvm.Cond.selects "CardLink$Line" (⟨"CardLink$Line", "send", "(LCardLink$Side;LCardLink$Side;I)V"⟩ : Jvm.MethodName) (⟨"CardLink$Line", "send", "(LCardLink$Side;LCardLink$Side;I)V"⟩ : Jvm.MethodName) ∈ gW := gW_of (List.mem_of_getElem? (i := 24) (by decide +kernel)) rfl
theorem t_25 : Jvm.Cond.selects "CardLink$Line" (⟨"CardLink$Line", "compose", "(LCardLink$Side;I)V"⟩ : Jvm.MethodName) (⟨"CardLink$Line", "compose", "(LCardLink$Side;I)V"⟩ : Jvm.MethodName) ∈ gW := gW_of (List.mem_of_getElem? (i := 25) (by decide +kernel)) rfl
theorem t_26 : Jvm.Cond.selects "CardLink$Wire" (⟨"CardLink$Wire", "sendLetter", "()I"⟩ : Jvm.MethodName) (⟨"CardLink$Wire", "sendLetter", "()I"⟩ : Jvm.MethodName) ∈ gW := gW_of (List.mem_of_getElem? (i := 26) (by decide +kernel)) rfl
theorem t_27 : Jvm.Cond.selects "CardLink$Wire" (⟨"CardLink$Wire", "dropNearest", "()V"⟩ : Jvm.MethodName) (⟨"CardLink$Wire", "dropNearest", "()V"⟩ : Jvm.MethodName) ∈ gW := gW_of (List.mem_of_getElem? (i := 27) (by decide +kernel)) rfl
theorem t_28 : Jvm.Cond.selects "CardLink$Line" (⟨"CardLink$Line", "judge", "(II)I"⟩ : Jvm.MethodName) (⟨"CardLink$Line", "judge", "(II)I"⟩ : Jvm.MethodName) ∈ gW := gW_of (List.mem_of_getElem? (i := 28) (by decide +kernel)) rfl
theorem t_29 : Jvm.Cond.selects "CardLink$Line" (⟨"CardLink$Line", "isWellFormed", "(III)Z"⟩ : Jvm.MethodName) (⟨"CardLink$Line", "isWellFormed", "(III)Z"⟩ : Jvm.MethodName) ∈ gW := gW_of (List.mem_of_getElem? (i := 29) (by decide +kernel)) rfl
theorem t_30 : Jvm.Cond.selects "CardLink$Journal" (⟨"CardLink$Journal", "isBlock", "(IILCardLink$Row;)Z"⟩ : Jvm.MethodName) (⟨"CardLink$Journal", "isBlock", "(IILCardLink$Row;)Z"⟩ : Jvm.MethodName) ∈ gW := gW_of (List.mem_of_getElem? (i := 30) (by decide +kernel)) rfl
theorem t_31 : Jvm.Cond.selects "CardLink$Journal" (⟨"CardLink$Journal", "addUnlike", "(ILCardLink$Row;I)I"⟩ : Jvm.MethodName) (⟨"CardLink$Journal", "addUnlike", "(ILCardLink$Row;I)I"⟩ : Jvm.MethodName) ∈ gW := gW_of (List.mem_of_getElem? (i := 31) (by decide +kernel)) rfl
theorem t_32 : Jvm.Cond.selects "CardLink$Line" (⟨"CardLink$Line", "cardKind", "()I"⟩ : Jvm.MethodName) (⟨"CardLink$Line", "cardKind", "()I"⟩ : Jvm.MethodName) ∈ gW := gW_of (List.mem_of_getElem? (i := 32) (by decide +kernel)) rfl
theorem t_33 : Jvm.Cond.selects "CardLink$Line" (⟨"CardLink$Line", "putFirstByte", "()I"⟩ : Jvm.MethodName) (⟨"CardLink$Line", "putFirstByte", "()I"⟩ : Jvm.MethodName) ∈ gW := gW_of (List.mem_of_getElem? (i := 33) (by decide +kernel)) rfl
theorem t_34 : Jvm.Cond.selects "CardLink$Line" (⟨"CardLink$Line", "cardOnAnswer", "()I"⟩ : Jvm.MethodName) (⟨"CardLink$Line", "cardOnAnswer", "()I"⟩ : Jvm.MethodName) ∈ gW := gW_of (List.mem_of_getElem? (i := 34) (by decide +kernel)) rfl
theorem t_35 : Jvm.Cond.selects "CardLink$Line" (⟨"CardLink$Line", "putBehindThird", "()I"⟩ : Jvm.MethodName) (⟨"CardLink$Line", "putBehindThird", "()I"⟩ : Jvm.MethodName) ∈ gW := gW_of (List.mem_of_getElem? (i := 35) (by decide +kernel)) rfl
theorem t_36 : Jvm.Cond.selects "CardLink$Line" (⟨"CardLink$Line", "doMessage", "()I"⟩ : Jvm.MethodName) (⟨"CardLink$Line", "doMessage", "()I"⟩ : Jvm.MethodName) ∈ gW := gW_of (List.mem_of_getElem? (i := 36) (by decide +kernel)) rfl
theorem t_37 : Jvm.Cond.selects "CardLink$Line" (⟨"CardLink$Line", "putCounting", "(I)I"⟩ : Jvm.MethodName) (⟨"CardLink$Line", "putCounting", "(I)I"⟩ : Jvm.MethodName) ∈ gW := gW_of (List.mem_of_getElem? (i := 37) (by decide +kernel)) rfl
theorem t_38 : Jvm.Cond.selects "CardLink" (⟨"CardLink", "sideOf", "(I)LCardLink$Side;"⟩ : Jvm.MethodName) (⟨"CardLink", "sideOf", "(I)LCardLink$Side;"⟩ : Jvm.MethodName) ∈ gW := gW_of (List.mem_of_getElem? (i := 38) (by decide +kernel)) rfl
theorem t_39 : Jvm.Cond.selects "CardLink$Journal" (⟨"CardLink$Journal", "placeOf", "(I)I"⟩ : Jvm.MethodName) (⟨"CardLink$Journal", "placeOf", "(I)I"⟩ : Jvm.MethodName) ∈ gW := gW_of (List.mem_of_getElem? (i := 39) (by decide +kernel)) rfl
theorem t_40 : Jvm.Cond.selects "CardLink$Forecast" (⟨"CardLink$Forecast", "forkIsHarmed", "()Z"⟩ : Jvm.MethodName) (⟨"CardLink$Forecast", "forkIsHarmed", "()Z"⟩ : Jvm.MethodName) ∈ gW := gW_of (List.mem_of_getElem? (i := 40) (by decide +kernel)) rfl
theorem t_42 : Jvm.Cond.selects "CardLinkModel" (⟨"CardLinkModel", "begins", "()V"⟩ : Jvm.MethodName) (⟨"CardLinkModel", "begins", "()V"⟩ : Jvm.MethodName) ∈ gW := gW_of (List.mem_of_getElem? (i := 42) (by decide +kernel)) rfl
theorem t_43 : Jvm.Cond.selects "CardLinkModel" (⟨"CardLinkModel", "eight", "(J)V"⟩ : Jvm.MethodName) (⟨"CardLinkModel", "eight", "(J)V"⟩ : Jvm.MethodName) ∈ gW := gW_of (List.mem_of_getElem? (i := 43) (by decide +kernel)) rfl
theorem t_44 : Jvm.Cond.selects "CardLinkModel" (⟨"CardLinkModel", "byteNext", "()I"⟩ : Jvm.MethodName) (⟨"CardLinkModel", "byteNext", "()I"⟩ : Jvm.MethodName) ∈ gW := gW_of (List.mem_of_getElem? (i := 44) (by decide +kernel)) rfl
theorem t_45 : Jvm.Cond.selects "CardLinkModel" (⟨"CardLinkModel", "wrong", "(II)V"⟩ : Jvm.MethodName) (⟨"CardLinkModel", "wrong", "(II)V"⟩ : Jvm.MethodName) ∈ gW := gW_of (List.mem_of_getElem? (i := 45) (by decide +kernel)) rfl
theorem t_46 : Jvm.Cond.selects "CardLinkModel" (⟨"CardLinkModel", "groupsTold", "(I)V"⟩ : Jvm.MethodName) (⟨"CardLinkModel", "groupsTold", "(I)V"⟩ : Jvm.MethodName) ∈ gW := gW_of (List.mem_of_getElem? (i := 46) (by decide +kernel)) rfl
theorem t_47 : Jvm.Cond.selects "CardLinkModel" (⟨"CardLinkModel", "groupTold", "(II)I"⟩ : Jvm.MethodName) (⟨"CardLinkModel", "groupTold", "(II)I"⟩ : Jvm.MethodName) ∈ gW := gW_of (List.mem_of_getElem? (i := 47) (by decide +kernel)) rfl
theorem t_48 : Jvm.Cond.selects "CardLinkModel" (⟨"CardLinkModel", "factor", "()V"⟩ : Jvm.MethodName) (⟨"CardLinkModel", "factor", "()V"⟩ : Jvm.MethodName) ∈ gW := gW_of (List.mem_of_getElem? (i := 48) (by decide +kernel)) rfl
theorem t_49 : Jvm.Cond.selects "CardLinkModel" (⟨"CardLinkModel", "window", "()V"⟩ : Jvm.MethodName) (⟨"CardLinkModel", "window", "()V"⟩ : Jvm.MethodName) ∈ gW := gW_of (List.mem_of_getElem? (i := 49) (by decide +kernel)) rfl
theorem t_50 : Jvm.Cond.selects "CardLinkModel" (⟨"CardLinkModel", "checks", "()V"⟩ : Jvm.MethodName) (⟨"CardLinkModel", "checks", "()V"⟩ : Jvm.MethodName) ∈ gW := gW_of (List.mem_of_getElem? (i := 50) (by decide +kernel)) rfl
theorem t_51 : Jvm.Cond.selects "CardLinkModel" (⟨"CardLinkModel", "canBegin", "()Z"⟩ : Jvm.MethodName) (⟨"CardLinkModel", "canBegin", "()Z"⟩ : Jvm.MethodName) ∈ gW := gW_of (List.mem_of_getElem? (i := 51) (by decide +kernel)) rfl
theorem t_52 : Jvm.Cond.selects "CardLinkModel" (⟨"CardLinkModel", "starts", "(I)V"⟩ : Jvm.MethodName) (⟨"CardLinkModel", "starts", "(I)V"⟩ : Jvm.MethodName) ∈ gW := gW_of (List.mem_of_getElem? (i := 52) (by decide +kernel)) rfl
theorem t_53 : Jvm.Cond.selects "CardLinkModel" (⟨"CardLinkModel", "passes", "()V"⟩ : Jvm.MethodName) (⟨"CardLinkModel", "passes", "()V"⟩ : Jvm.MethodName) ∈ gW := gW_of (List.mem_of_getElem? (i := 53) (by decide +kernel)) rfl
theorem t_54 : Jvm.Cond.selects "CardLinkModel" (⟨"CardLinkModel", "faultAt", "(I)I"⟩ : Jvm.MethodName) (⟨"CardLinkModel", "faultAt", "(I)I"⟩ : Jvm.MethodName) ∈ gW := gW_of (List.mem_of_getElem? (i := 54) (by decide +kernel)) rfl
theorem t_55 : Jvm.Cond.selects "CardLinkModel" (⟨"CardLinkModel", "putsFault", "(III)V"⟩ : Jvm.MethodName) (⟨"CardLinkModel", "putsFault", "(III)V"⟩ : Jvm.MethodName) ∈ gW := gW_of (List.mem_of_getElem? (i := 55) (by decide +kernel)) rfl
theorem t_56 : Jvm.Cond.selects "CardLinkModel" (⟨"CardLinkModel", "turns", "()I"⟩ : Jvm.MethodName) (⟨"CardLinkModel", "turns", "()I"⟩ : Jvm.MethodName) ∈ gW := gW_of (List.mem_of_getElem? (i := 56) (by decide +kernel)) rfl
theorem t_57 : Jvm.Cond.selects "CardLinkModel" (⟨"CardLinkModel", "sendsOut", "(I)V"⟩ : Jvm.MethodName) (⟨"CardLinkModel", "sendsOut", "(I)V"⟩ : Jvm.MethodName) ∈ gW := gW_of (List.mem_of_getElem? (i := 57) (by decide +kernel)) rfl
theorem t_58 : Jvm.Cond.selects "CardLinkModel" (⟨"CardLinkModel", "sendsPending", "(I)V"⟩ : Jvm.MethodName) (⟨"CardLinkModel", "sendsPending", "(I)V"⟩ : Jvm.MethodName) ∈ gW := gW_of (List.mem_of_getElem? (i := 58) (by decide +kernel)) rfl
theorem t_59 : Jvm.Cond.selects "CardLinkModel" (⟨"CardLinkModel", "sends", "(III)V"⟩ : Jvm.MethodName) (⟨"CardLinkModel", "sends", "(III)V"⟩ : Jvm.MethodName) ∈ gW := gW_of (List.mem_of_getElem? (i := 59) (by decide +kernel)) rfl
theorem t_60 : Jvm.Cond.selects "CardLinkModel" (⟨"CardLinkModel", "carries", "(I)V"⟩ : Jvm.MethodName) (⟨"CardLinkModel", "carries", "(I)V"⟩ : Jvm.MethodName) ∈ gW := gW_of (List.mem_of_getElem? (i := 60) (by decide +kernel)) rfl
theorem t_61 : Jvm.Cond.selects "CardLinkModel" (⟨"CardLinkModel", "howCame", "(I)I"⟩ : Jvm.MethodName) (⟨"CardLinkModel", "howCame", "(I)I"⟩ : Jvm.MethodName) ∈ gW := gW_of (List.mem_of_getElem? (i := 61) (by decide +kernel)) rfl
theorem t_62 : Jvm.Cond.selects "CardLinkModel" (⟨"CardLinkModel", "isShaped", "(I)Z"⟩ : Jvm.MethodName) (⟨"CardLinkModel", "isShaped", "(I)Z"⟩ : Jvm.MethodName) ∈ gW := gW_of (List.mem_of_getElem? (i := 62) (by decide +kernel)) rfl
theorem t_63 : Jvm.Cond.selects "CardLinkModel" (⟨"CardLinkModel", "logs", "(II)V"⟩ : Jvm.MethodName) (⟨"CardLinkModel", "logs", "(II)V"⟩ : Jvm.MethodName) ∈ gW := gW_of (List.mem_of_getElem? (i := 63) (by decide +kernel)) rfl
theorem t_64 : Jvm.Cond.selects "CardLinkModel" (⟨"CardLinkModel", "unlikeOf", "(I)I"⟩ : Jvm.MethodName) (⟨"CardLinkModel", "unlikeOf", "(I)I"⟩ : Jvm.MethodName) ∈ gW := gW_of (List.mem_of_getElem? (i := 64) (by decide +kernel)) rfl
theorem t_65 : Jvm.Cond.selects "CardLinkModel" (⟨"CardLinkModel", "isAlike", "(II)Z"⟩ : Jvm.MethodName) (⟨"CardLinkModel", "isAlike", "(II)Z"⟩ : Jvm.MethodName) ∈ gW := gW_of (List.mem_of_getElem? (i := 65) (by decide +kernel)) rfl
theorem t_66 : Jvm.Cond.selects "CardLinkModel" (⟨"CardLinkModel", "asks", "(III)V"⟩ : Jvm.MethodName) (⟨"CardLinkModel", "asks", "(III)V"⟩ : Jvm.MethodName) ∈ gW := gW_of (List.mem_of_getElem? (i := 66) (by decide +kernel)) rfl
theorem t_67 : Jvm.Cond.selects "CardLinkModel" (⟨"CardLinkModel", "sendsAsked", "(I)V"⟩ : Jvm.MethodName) (⟨"CardLinkModel", "sendsAsked", "(I)V"⟩ : Jvm.MethodName) ∈ gW := gW_of (List.mem_of_getElem? (i := 67) (by decide +kernel)) rfl
theorem t_68 : Jvm.Cond.selects "CardLinkModel" (⟨"CardLinkModel", "bringsCame", "()V"⟩ : Jvm.MethodName) (⟨"CardLinkModel", "bringsCame", "()V"⟩ : Jvm.MethodName) ∈ gW := gW_of (List.mem_of_getElem? (i := 68) (by decide +kernel)) rfl
theorem t_69 : Jvm.Cond.selects "CardLinkModel" (⟨"CardLinkModel", "readerGets", "()V"⟩ : Jvm.MethodName) (⟨"CardLinkModel", "readerGets", "()V"⟩ : Jvm.MethodName) ∈ gW := gW_of (List.mem_of_getElem? (i := 69) (by decide +kernel)) rfl
theorem t_70 : Jvm.Cond.selects "CardLinkModel" (⟨"CardLinkModel", "tries", "(II)V"⟩ : Jvm.MethodName) (⟨"CardLinkModel", "tries", "(II)V"⟩ : Jvm.MethodName) ∈ gW := gW_of (List.mem_of_getElem? (i := 70) (by decide +kernel)) rfl
theorem t_71 : Jvm.Cond.selects "CardLinkModel" (⟨"CardLinkModel", "isResponse", "(I)Z"⟩ : Jvm.MethodName) (⟨"CardLinkModel", "isResponse", "(I)Z"⟩ : Jvm.MethodName) ∈ gW := gW_of (List.mem_of_getElem? (i := 71) (by decide +kernel)) rfl
theorem t_72 : Jvm.Cond.selects "CardLinkModel" (⟨"CardLinkModel", "readerAnswered", "()V"⟩ : Jvm.MethodName) (⟨"CardLinkModel", "readerAnswered", "()V"⟩ : Jvm.MethodName) ∈ gW := gW_of (List.mem_of_getElem? (i := 72) (by decide +kernel)) rfl
theorem t_73 : Jvm.Cond.selects "CardLinkModel" (⟨"CardLinkModel", "done", "()V"⟩ : Jvm.MethodName) (⟨"CardLinkModel", "done", "()V"⟩ : Jvm.MethodName) ∈ gW := gW_of (List.mem_of_getElem? (i := 73) (by decide +kernel)) rfl
theorem t_74 : Jvm.Cond.selects "CardLinkModel" (⟨"CardLinkModel", "resynchs", "(I)V"⟩ : Jvm.MethodName) (⟨"CardLinkModel", "resynchs", "(I)V"⟩ : Jvm.MethodName) ∈ gW := gW_of (List.mem_of_getElem? (i := 74) (by decide +kernel)) rfl
theorem t_75 : Jvm.Cond.selects "CardLinkModel" (⟨"CardLinkModel", "empties", "(I)V"⟩ : Jvm.MethodName) (⟨"CardLinkModel", "empties", "(I)V"⟩ : Jvm.MethodName) ∈ gW := gW_of (List.mem_of_getElem? (i := 75) (by decide +kernel)) rfl
theorem t_76 : Jvm.Cond.selects "CardLinkModel" (⟨"CardLinkModel", "takes", "(I)Z"⟩ : Jvm.MethodName) (⟨"CardLinkModel", "takes", "(I)Z"⟩ : Jvm.MethodName) ∈ gW := gW_of (List.mem_of_getElem? (i := 76) (by decide +kernel)) rfl
theorem t_77 : Jvm.Cond.selects "CardLinkModel" (⟨"CardLinkModel", "isThrough", "(I)V"⟩ : Jvm.MethodName) (⟨"CardLinkModel", "isThrough", "(I)V"⟩ : Jvm.MethodName) ∈ gW := gW_of (List.mem_of_getElem? (i := 77) (by decide +kernel)) rfl
theorem t_78 : Jvm.Cond.selects "CardLinkModel" (⟨"CardLinkModel", "hasMoreCome", "()Z"⟩ : Jvm.MethodName) (⟨"CardLinkModel", "hasMoreCome", "()Z"⟩ : Jvm.MethodName) ∈ gW := gW_of (List.mem_of_getElem? (i := 78) (by decide +kernel)) rfl
theorem t_79 : Jvm.Cond.selects "CardLinkModel" (⟨"CardLinkModel", "sendsR", "(II)V"⟩ : Jvm.MethodName) (⟨"CardLinkModel", "sendsR", "(II)V"⟩ : Jvm.MethodName) ∈ gW := gW_of (List.mem_of_getElem? (i := 79) (by decide +kernel)) rfl
theorem t_80 : Jvm.Cond.selects "CardLinkModel" (⟨"CardLinkModel", "messageCame", "(I)V"⟩ : Jvm.MethodName) (⟨"CardLinkModel", "messageCame", "(I)V"⟩ : Jvm.MethodName) ∈ gW := gW_of (List.mem_of_getElem? (i := 80) (by decide +kernel)) rfl
theorem t_81 : Jvm.Cond.selects "CardLinkModel" (⟨"CardLinkModel", "readerTold", "()V"⟩ : Jvm.MethodName) (⟨"CardLinkModel", "readerTold", "()V"⟩ : Jvm.MethodName) ∈ gW := gW_of (List.mem_of_getElem? (i := 81) (by decide +kernel)) rfl
theorem t_82 : Jvm.Cond.selects "CardLinkModel" (⟨"CardLinkModel", "wantsAgain", "(I)Z"⟩ : Jvm.MethodName) (⟨"CardLinkModel", "wantsAgain", "(I)Z"⟩ : Jvm.MethodName) ∈ gW := gW_of (List.mem_of_getElem? (i := 82) (by decide +kernel)) rfl
theorem t_83 : Jvm.Cond.selects "CardLinkModel" (⟨"CardLinkModel", "goesOn", "(I)V"⟩ : Jvm.MethodName) (⟨"CardLinkModel", "goesOn", "(I)V"⟩ : Jvm.MethodName) ∈ gW := gW_of (List.mem_of_getElem? (i := 83) (by decide +kernel)) rfl
theorem t_84 : Jvm.Cond.selects "CardLinkModel" (⟨"CardLinkModel", "readerAsked", "()V"⟩ : Jvm.MethodName) (⟨"CardLinkModel", "readerAsked", "()V"⟩ : Jvm.MethodName) ∈ gW := gW_of (List.mem_of_getElem? (i := 84) (by decide +kernel)) rfl
theorem t_85 : Jvm.Cond.selects "CardLinkModel" (⟨"CardLinkModel", "responds", "(I)V"⟩ : Jvm.MethodName) (⟨"CardLinkModel", "responds", "(I)V"⟩ : Jvm.MethodName) ∈ gW := gW_of (List.mem_of_getElem? (i := 85) (by decide +kernel)) rfl
theorem t_86 : Jvm.Cond.selects "CardLinkModel" (⟨"CardLinkModel", "triesOn", "()V"⟩ : Jvm.MethodName) (⟨"CardLinkModel", "triesOn", "()V"⟩ : Jvm.MethodName) ∈ gW := gW_of (List.mem_of_getElem? (i := 86) (by decide +kernel)) rfl
theorem t_87 : Jvm.Cond.selects "CardLinkModel" (⟨"CardLinkModel", "cardGets", "()V"⟩ : Jvm.MethodName) (⟨"CardLinkModel", "cardGets", "()V"⟩ : Jvm.MethodName) ∈ gW := gW_of (List.mem_of_getElem? (i := 87) (by decide +kernel)) rfl
theorem t_88 : Jvm.Cond.selects "CardLinkModel" (⟨"CardLinkModel", "cardSends", "(II)V"⟩ : Jvm.MethodName) (⟨"CardLinkModel", "cardSends", "(II)V"⟩ : Jvm.MethodName) ∈ gW := gW_of (List.mem_of_getElem? (i := 88) (by decide +kernel)) rfl
theorem t_89 : Jvm.Cond.selects "CardLinkModel" (⟨"CardLinkModel", "cardOut", "(II)V"⟩ : Jvm.MethodName) (⟨"CardLinkModel", "cardOut", "(II)V"⟩ : Jvm.MethodName) ∈ gW := gW_of (List.mem_of_getElem? (i := 89) (by decide +kernel)) rfl
theorem t_90 : Jvm.Cond.selects "CardLinkModel" (⟨"CardLinkModel", "cardAnswered", "()V"⟩ : Jvm.MethodName) (⟨"CardLinkModel", "cardAnswered", "()V"⟩ : Jvm.MethodName) ∈ gW := gW_of (List.mem_of_getElem? (i := 90) (by decide +kernel)) rfl
theorem t_91 : Jvm.Cond.selects "CardLinkModel" (⟨"CardLinkModel", "cardWaits", "()V"⟩ : Jvm.MethodName) (⟨"CardLinkModel", "cardWaits", "()V"⟩ : Jvm.MethodName) ∈ gW := gW_of (List.mem_of_getElem? (i := 91) (by decide +kernel)) rfl
theorem t_92 : Jvm.Cond.selects "CardLinkModel" (⟨"CardLinkModel", "cardDoes", "()V"⟩ : Jvm.MethodName) (⟨"CardLinkModel", "cardDoes", "()V"⟩ : Jvm.MethodName) ∈ gW := gW_of (List.mem_of_getElem? (i := 92) (by decide +kernel)) rfl
theorem t_93 : Jvm.Cond.selects "CardLinkModel" (⟨"CardLinkModel", "gotByte", "(II)I"⟩ : Jvm.MethodName) (⟨"CardLinkModel", "gotByte", "(II)I"⟩ : Jvm.MethodName) ∈ gW := gW_of (List.mem_of_getElem? (i := 93) (by decide +kernel)) rfl
theorem t_94 : Jvm.Cond.selects "CardLinkModel" (⟨"CardLinkModel", "logPlace", "(I)I"⟩ : Jvm.MethodName) (⟨"CardLinkModel", "logPlace", "(I)I"⟩ : Jvm.MethodName) ∈ gW := gW_of (List.mem_of_getElem? (i := 94) (by decide +kernel)) rfl
theorem t_95 : Jvm.Cond.selects "CardLinkModel" (⟨"CardLinkModel", "keeps", "()V"⟩ : Jvm.MethodName) (⟨"CardLinkModel", "keeps", "()V"⟩ : Jvm.MethodName) ∈ gW := gW_of (List.mem_of_getElem? (i := 95) (by decide +kernel)) rfl
theorem t_96 : Jvm.Cond.selects "CardLinkModel" (⟨"CardLinkModel", "triesOut", "()V"⟩ : Jvm.MethodName) (⟨"CardLinkModel", "triesOut", "()V"⟩ : Jvm.MethodName) ∈ gW := gW_of (List.mem_of_getElem? (i := 96) (by decide +kernel)) rfl
theorem t_97 : Jvm.Cond.selects "CardLinkModel" (⟨"CardLinkModel", "comesBack", "()V"⟩ : Jvm.MethodName) (⟨"CardLinkModel", "comesBack", "()V"⟩ : Jvm.MethodName) ∈ gW := gW_of (List.mem_of_getElem? (i := 97) (by decide +kernel)) rfl
theorem t_98 : Jvm.Cond.selects "CardLinkModel" (⟨"CardLinkModel", "isSame", "()Z"⟩ : Jvm.MethodName) (⟨"CardLinkModel", "isSame", "()Z"⟩ : Jvm.MethodName) ∈ gW := gW_of (List.mem_of_getElem? (i := 98) (by decide +kernel)) rfl
theorem t_99 : Jvm.Cond.selects "CardLinkModel" (⟨"CardLinkModel", "faultsToCome", "()I"⟩ : Jvm.MethodName) (⟨"CardLinkModel", "faultsToCome", "()I"⟩ : Jvm.MethodName) ∈ gW := gW_of (List.mem_of_getElem? (i := 99) (by decide +kernel)) rfl
theorem t_100 : (Jvm.Cond.initialized "CardLinkLaw") ∈ gW := gW_of (List.mem_of_getElem? (i := 100) (by decide +kernel)) rfl
theorem t_101 : (Jvm.Cond.initialized "CardLink") ∈ gW := gW_of (List.mem_of_getElem? (i := 101) (by decide +kernel)) rfl
theorem t_102 : (Jvm.Cond.initialized "CardLink$Row") ∈ gW := gW_of (List.mem_of_getElem? (i := 102) (by decide +kernel)) rfl
theorem t_103 : (Jvm.Cond.initialized "java/lang/Math") ∈ gW := gW_of (List.mem_of_getElem? (i := 103) (by decide +kernel)) rfl
theorem t_104 : (Jvm.Cond.initialized "CardLink$Journal") ∈ gW := gW_of (List.mem_of_getElem? (i := 104) (by decide +kernel)) rfl
theorem t_105 : (Jvm.Cond.initialized "CardLink$Line") ∈ gW := gW_of (List.mem_of_getElem? (i := 105) (by decide +kernel)) rfl
theorem t_106 : (Jvm.Cond.initialized "CardLink$Side") ∈ gW := gW_of (List.mem_of_getElem? (i := 106) (by decide +kernel)) rfl
theorem t_107 : (Jvm.Cond.initialized "CardLink$Wire") ∈ gW := gW_of (List.mem_of_getElem? (i := 107) (by decide +kernel)) rfl
theorem t_108 : (Jvm.Cond.initialized "CardLink$Forecast") ∈ gW := gW_of (List.mem_of_getElem? (i := 108) (by decide +kernel)) rfl
theorem t_109 : (Jvm.Cond.initialized "CardLink$ResetAnswer") ∈ gW := gW_of (List.mem_of_getElem? (i := 109) (by decide +kernel)) rfl
theorem t_110 : (Jvm.Cond.initialized "CardLinkModel") ∈ gW := gW_of (List.mem_of_getElem? (i := 110) (by decide +kernel)) rfl
theorem t_111 : (Jvm.Cond.initialized "java/util/Arrays") ∈ gW := gW_of (List.mem_of_getElem? (i := 111) (by decide +kernel)) rfl
theorem t_112 : (Jvm.Cond.initialized "java/lang/System") ∈ gW := gW_of (List.mem_of_getElem? (i := 112) (by decide +kernel)) rfl
theorem t_113 : (Jvm.Cond.initialized "java/lang/Throwable") ∈ gW := gW_of (List.mem_of_getElem? (i := 113) (by decide +kernel)) rfl
theorem t_114 : (Jvm.Cond.initialized "java/lang/Exception") ∈ gW := gW_of (List.mem_of_getElem? (i := 114) (by decide +kernel)) rfl
theorem t_115 : (Jvm.Cond.initialized "java/lang/RuntimeException") ∈ gW := gW_of (List.mem_of_getElem? (i := 115) (by decide +kernel)) rfl
theorem t_116 : (Jvm.Cond.initialized "java/util/NoSuchElementException") ∈ gW := gW_of (List.mem_of_getElem? (i := 116) (by decide +kernel)) rfl
theorem t_117 : (Jvm.Cond.classLink "CardLinkLaw" (8 : Nat) "CardLink") ∈ gW := gW_of (List.mem_of_getElem? (i := 117) (by decide +kernel)) rfl
theorem t_118 : (Jvm.Cond.instantiable "CardLink" (7 : Nat)) ∈ gW := gW_of (List.mem_of_getElem? (i := 118) (by decide +kernel)) rfl
theorem t_119 : (Jvm.Cond.methodLink "CardLinkLaw" (15 : Nat) ({ cls := "CardLink", name := "<init>", desc := "()V" } : Jvm.MethodName)) ∈ gW := gW_of (List.mem_of_getElem? (i := 119) (by decide +kernel)) rfl
theorem t_120 : (Jvm.Cond.instanceMethod ({ cls := "CardLink", name := "<init>", desc := "()V" } : Jvm.MethodName)) ∈ gW := gW_of (List.mem_of_getElem? (i := 120) (by decide +kernel)) rfl
theorem t_121 : (Jvm.Cond.code ({ cls := "CardLink", name := "<init>", desc := "()V" } : Jvm.MethodName) prog_1_method_1_code (1 : Nat) (Option.none : Option Jvm.ClassFile.FieldType)) ∈ gW := gW_of (List.mem_of_getElem? (i := 121) (by decide +kernel)) rfl
theorem t_122 : (Jvm.Cond.methodLink "CardLink" (1 : Nat) ({ cls := "java/lang/Object", name := "<init>", desc := "()V" } : Jvm.MethodName)) ∈ gW := gW_of (List.mem_of_getElem? (i := 122) (by decide +kernel)) rfl
theorem t_123 : (Jvm.Cond.instanceMethod ({ cls := "java/lang/Object", name := "<init>", desc := "()V" } : Jvm.MethodName)) ∈ gW := gW_of (List.mem_of_getElem? (i := 123) (by decide +kernel)) rfl
theorem t_124 : (Jvm.Cond.code ({ cls := "java/lang/Object", name := "<init>", desc := "()V" } : Jvm.MethodName) object_method_1_code (1 : Nat) (Option.none : Option Jvm.ClassFile.FieldType)) ∈ gW := gW_of (List.mem_of_getElem? (i := 124) (by decide +kernel)) rfl
theorem t_125 : (Jvm.Cond.classLink "CardLink" (7 : Nat) "CardLink$Row") ∈ gW := gW_of (List.mem_of_getElem? (i := 125) (by decide +kernel)) rfl
theorem t_126 : (Jvm.Cond.instantiable "CardLink$Row" (3 : Nat)) ∈ gW := gW_of (List.mem_of_getElem? (i := 126) (by decide +kernel)) rfl
theorem t_127 : (Jvm.Cond.methodLink "CardLink" (11 : Nat) ({ cls := "CardLink$Row", name := "<init>", desc := "(II)V" } : Jvm.MethodName)) ∈ gW := gW_of (List.mem_of_getElem? (i := 127) (by decide +kernel)) rfl
theorem t_128 : (Jvm.Cond.instanceMethod ({ cls := "CardLink$Row", name := "<init>", desc := "(II)V" } : Jvm.MethodName)) ∈ gW := gW_of (List.mem_of_getElem? (i := 128) (by decide +kernel)) rfl
theorem t_129 : (Jvm.Cond.code ({ cls := "CardLink$Row", name := "<init>", desc := "(II)V" } : Jvm.MethodName) prog_6_method_1_code (3 : Nat) (Option.none : Option Jvm.ClassFile.FieldType)) ∈ gW := gW_of (List.mem_of_getElem? (i := 129) (by decide +kernel)) rfl
theorem t_130 : (Jvm.Cond.methodLink "CardLink$Row" (1 : Nat) ({ cls := "java/lang/Object", name := "<init>", desc := "()V" } : Jvm.MethodName)) ∈ gW := gW_of (List.mem_of_getElem? (i := 130) (by decide +kernel)) rfl
theorem t_131 : (Jvm.Cond.methodLink "CardLink$Row" (13 : Nat) ({ cls := "java/lang/Math", name := "max", desc := "(II)I" } : Jvm.MethodName)) ∈ gW := gW_of (List.mem_of_getElem? (i := 131) (by decide +kernel)) rfl
theorem t_132 : (Jvm.Cond.static ({ cls := "java/lang/Math", name := "max", desc := "(II)I" } : Jvm.MethodName)) ∈ gW := gW_of (List.mem_of_getElem? (i := 132) (by decide +kernel)) rfl
theorem t_133 : (Jvm.Cond.code ({ cls := "java/lang/Math", name := "max", desc := "(II)I" } : Jvm.MethodName) prog_14_method_65_code (2 : Nat) (Option.some Jvm.ClassFile.FieldType.int)) ∈ gW := gW_of (List.mem_of_getElem? (i := 133) (by decide +kernel)) rfl
theorem t_134 : (Jvm.Cond.fieldLink "CardLink$Row" (19 : Nat) "CardLink$Row" "items" "[I") ∈ gW := gW_of (List.mem_of_getElem? (i := 134) (by decide +kernel)) rfl
theorem t_135 : (Jvm.Cond.fieldLink "CardLink$Row" (7 : Nat) "CardLink$Row" "length" "I") ∈ gW := gW_of (List.mem_of_getElem? (i := 135) (by decide +kernel)) rfl
theorem t_136 : (Jvm.Cond.fieldLink "CardLink$Row" (23 : Nat) "CardLink$Row" "most" "I") ∈ gW := gW_of (List.mem_of_getElem? (i := 136) (by decide +kernel)) rfl
theorem t_144 : (Jvm.Cond.arrayClass Jvm.ClassFile.FieldType.int) ∈ gW := gW_of (List.mem_of_getElem? (i := 144) (by decide +kernel)) rfl
theorem t_145 : (Jvm.Cond.classLink "CardLink" (18 : Nat) "CardLink$Journal") ∈ gW := gW_of (List.mem_of_getElem? (i := 145) (by decide +kernel)) rfl
theorem t_146 : (Jvm.Cond.instantiable "CardLink$Journal" (9 : Nat)) ∈ gW := gW_of (List.mem_of_getElem? (i := 146) (by decide +kernel)) rfl
theorem t_148 : (Jvm.Cond.instanceMethod ({ cls := "CardLink$Journal", name := "<init>", desc := "()V" } : Jvm.MethodName)) ∈ gW := gW_of (List.mem_of_getElem? (i := 148) (by decide +kernel)) rfl
theorem t_149 : (Jvm.Cond.code ({ cls := "CardLink$Journal", name := "<init>", desc := "()V" } : Jvm.MethodName) prog_3_method_1_code (1 : Nat) (Option.none : Option Jvm.ClassFile.FieldType)) ∈ gW := gW_of (List.mem_of_getElem? (i := 149) (by decide +kernel)) rfl
theorem t_150 : (Jvm.Cond.methodLink "CardLink$Journal" (3 : Nat) ({ cls := "java/lang/Object", name := "<init>", desc := "()V" } : Jvm.MethodName)) ∈ gW := gW_of (List.mem_of_getElem? (i := 150) (by decide +kernel)) rfl
theorem t_151 : (Jvm.Cond.classLink "CardLink$Journal" (9 : Nat) "CardLink$Row") ∈ gW := gW_of (List.mem_of_getElem? (i := 151) (by decide +kernel)) rfl
theorem t_152 : (Jvm.Cond.constant "CardLink$Journal" (13 : Nat) (1048576 : Int32)) ∈ gW := gW_of (List.mem_of_getElem? (i := 152) (by decide +kernel)) rfl
theorem t_153 : (Jvm.Cond.methodLink "CardLink$Journal" (14 : Nat) ({ cls := "CardLink$Row", name := "<init>", desc := "(II)V" } : Jvm.MethodName)) ∈ gW := gW_of (List.mem_of_getElem? (i := 153) (by decide +kernel)) rfl
theorem t_154 : (Jvm.Cond.constant "CardLink$Journal" (21 : Nat) (65536 : Int32)) ∈ gW := gW_of (List.mem_of_getElem? (i := 154) (by decide +kernel)) rfl
theorem t_155 : (Jvm.Cond.fieldLink "CardLink$Journal" (17 : Nat) "CardLink$Journal" "bytes" "LCardLink$Row;") ∈ gW := gW_of (List.mem_of_getElem? (i := 155) (by decide +kernel)) rfl
theorem t_156 : (Jvm.Cond.fieldLink "CardLink$Journal" (22 : Nat) "CardLink$Journal" "starts" "LCardLink$Row;") ∈ gW := gW_of (List.mem_of_getElem? (i := 156) (by decide +kernel)) rfl
theorem t_157 : (Jvm.Cond.fieldLink "CardLink$Journal" (25 : Nat) "CardLink$Journal" "times" "LCardLink$Row;") ∈ gW := gW_of (List.mem_of_getElem? (i := 157) (by decide +kernel)) rfl
theorem t_158 : (Jvm.Cond.fieldLink "CardLink$Journal" (28 : Nat) "CardLink$Journal" "following" "LCardLink$Row;") ∈ gW := gW_of (List.mem_of_getElem? (i := 158) (by decide +kernel)) rfl
theorem t_159 : (Jvm.Cond.fieldLink "CardLink$Journal" (31 : Nat) "CardLink$Journal" "chains" "LCardLink$Row;") ∈ gW := gW_of (List.mem_of_getElem? (i := 159) (by decide +kernel)) rfl
theorem t_160 : (Jvm.Cond.fieldLink "CardLink$Journal" (34 : Nat) "CardLink$Journal" "latest" "LCardLink$Row;") ∈ gW := gW_of (List.mem_of_getElem? (i := 160) (by decide +kernel)) rfl
theorem t_161 : (Jvm.Cond.fieldLink "CardLink$Journal" (37 : Nat) "CardLink$Journal" "outcomes" "LCardLink$Row;") ∈ gW := gW_of (List.mem_of_getElem? (i := 161) (by decide +kernel)) rfl
theorem t_162 : (Jvm.Cond.fieldLink "CardLink$Journal" (40 : Nat) "CardLink$Journal" "took" "LCardLink$Row;") ∈ gW := gW_of (List.mem_of_getElem? (i := 162) (by decide +kernel)) rfl
theorem t_163 : (Jvm.Cond.fieldLink "CardLink$Journal" (43 : Nat) "CardLink$Journal" "newest" "I") ∈ gW := gW_of (List.mem_of_getElem? (i := 163) (by decide +kernel)) rfl
theorem t_183 : (Jvm.Cond.classLink "CardLink" (25 : Nat) "CardLink$Line") ∈ gW := gW_of (List.mem_of_getElem? (i := 183) (by decide +kernel)) rfl
theorem t_184 : (Jvm.Cond.instantiable "CardLink$Line" (18 : Nat)) ∈ gW := gW_of (List.mem_of_getElem? (i := 184) (by decide +kernel)) rfl
theorem t_185 : (Jvm.Cond.methodLink "CardLink" (27 : Nat) ({ cls := "CardLink$Line", name := "<init>", desc := "(LCardLink$Journal;)V" } : Jvm.MethodName)) ∈ gW := gW_of (List.mem_of_getElem? (i := 185) (by decide +kernel)) rfl
theorem t_186 : (Jvm.Cond.instanceMethod ({ cls := "CardLink$Line", name := "<init>", desc := "(LCardLink$Journal;)V" } : Jvm.MethodName)) ∈ gW := gW_of (List.mem_of_getElem? (i := 186) (by decide +kernel)) rfl
theorem t_187 : (Jvm.Cond.code ({ cls := "CardLink$Line", name := "<init>", desc := "(LCardLink$Journal;)V" } : Jvm.MethodName) prog_4_method_1_code (2 : Nat) (Option.none : Option Jvm.ClassFile.FieldType)) ∈ gW := gW_of (List.mem_of_getElem? (i := 187) (by decide +kernel)) rfl
theorem t_188 : (Jvm.Cond.methodLink "CardLink$Line" (3 : Nat) ({ cls := "java/lang/Object", name := "<init>", desc := "()V" } : Jvm.MethodName)) ∈ gW := gW_of (List.mem_of_getElem? (i := 188) (by decide +kernel)) rfl
theorem t_189 : (Jvm.Cond.classLink "CardLink$Line" (9 : Nat) "CardLink$Side") ∈ gW := gW_of (List.mem_of_getElem? (i := 189) (by decide +kernel)) rfl
theorem t_190 : (Jvm.Cond.instantiable "CardLink$Side" (15 : Nat)) ∈ gW := gW_of (List.mem_of_getElem? (i := 190) (by decide +kernel)) rfl
theorem t_191 : (Jvm.Cond.methodLink "CardLink$Line" (11 : Nat) ({ cls := "CardLink$Side", name := "<init>", desc := "(I)V" } : Jvm.MethodName)) ∈ gW := gW_of (List.mem_of_getElem? (i := 191) (by decide +kernel)) rfl
theorem t_192 : (Jvm.Cond.instanceMethod ({ cls := "CardLink$Side", name := "<init>", desc := "(I)V" } : Jvm.MethodName)) ∈ gW := gW_of (List.mem_of_getElem? (i := 192) (by decide +kernel)) rfl
theorem t_193 : (Jvm.Cond.code ({ cls := "CardLink$Side", name := "<init>", desc := "(I)V" } : Jvm.MethodName) prog_7_method_1_code (2 : Nat) (Option.none : Option Jvm.ClassFile.FieldType)) ∈ gW := gW_of (List.mem_of_getElem? (i := 193) (by decide +kernel)) rfl
theorem t_194 : (Jvm.Cond.methodLink "CardLink$Side" (3 : Nat) ({ cls := "java/lang/Object", name := "<init>", desc := "()V" } : Jvm.MethodName)) ∈ gW := gW_of (List.mem_of_getElem? (i := 194) (by decide +kernel)) rfl
theorem t_195 : (Jvm.Cond.classLink "CardLink$Side" (33 : Nat) "CardLink$Row") ∈ gW := gW_of (List.mem_of_getElem? (i := 195) (by decide +kernel)) rfl
theorem t_196 : (Jvm.Cond.methodLink "CardLink$Side" (35 : Nat) ({ cls := "CardLink$Row", name := "<init>", desc := "(II)V" } : Jvm.MethodName)) ∈ gW := gW_of (List.mem_of_getElem? (i := 196) (by decide +kernel)) rfl
theorem t_197 : (Jvm.Cond.fieldLink "CardLink$Side" (61 : Nat) "CardLink$Side" "number" "I") ∈ gW := gW_of (List.mem_of_getElem? (i := 197) (by decide +kernel)) rfl
theorem t_198 : (Jvm.Cond.fieldLink "CardLink$Line" (267 : Nat) "CardLink$Side" "number" "I") ∈ gW := gW_of (List.mem_of_getElem? (i := 198) (by decide +kernel)) rfl
theorem t_199 : (Jvm.Cond.fieldLink "CardLink$Side" (9 : Nat) "CardLink$Side" "next" "I") ∈ gW := gW_of (List.mem_of_getElem? (i := 199) (by decide +kernel)) rfl
theorem t_200 : (Jvm.Cond.fieldLink "CardLink$Line" (226 : Nat) "CardLink$Side" "next" "I") ∈ gW := gW_of (List.mem_of_getElem? (i := 200) (by decide +kernel)) rfl
theorem t_201 : (Jvm.Cond.fieldLink "CardLink$Side" (15 : Nat) "CardLink$Side" "wanted" "I") ∈ gW := gW_of (List.mem_of_getElem? (i := 201) (by decide +kernel)) rfl
theorem t_202 : (Jvm.Cond.fieldLink "CardLink$Line" (204 : Nat) "CardLink$Side" "wanted" "I") ∈ gW := gW_of (List.mem_of_getElem? (i := 202) (by decide +kernel)) rfl
theorem t_203 : (Jvm.Cond.fieldLink "CardLink$Side" (18 : Nat) "CardLink$Side" "room" "I") ∈ gW := gW_of (List.mem_of_getElem? (i := 203) (by decide +kernel)) rfl
theorem t_204 : (Jvm.Cond.fieldLink "CardLink$Line" (115 : Nat) "CardLink$Side" "room" "I") ∈ gW := gW_of (List.mem_of_getElem? (i := 204) (by decide +kernel)) rfl
theorem t_205 : (Jvm.Cond.fieldLink "CardLink$Side" (21 : Nat) "CardLink$Side" "through" "I") ∈ gW := gW_of (List.mem_of_getElem? (i := 205) (by decide +kernel)) rfl
theorem t_206 : (Jvm.Cond.fieldLink "CardLink$Line" (105 : Nat) "CardLink$Side" "through" "I") ∈ gW := gW_of (List.mem_of_getElem? (i := 206) (by decide +kernel)) rfl
theorem t_207 : (Jvm.Cond.fieldLink "CardLink$Side" (24 : Nat) "CardLink$Side" "asked" "I") ∈ gW := gW_of (List.mem_of_getElem? (i := 207) (by decide +kernel)) rfl
theorem t_208 : (Jvm.Cond.fieldLink "CardLink$Line" (149 : Nat) "CardLink$Side" "asked" "I") ∈ gW := gW_of (List.mem_of_getElem? (i := 208) (by decide +kernel)) rfl
theorem t_209 : (Jvm.Cond.fieldLink "CardLink$Side" (27 : Nat) "CardLink$Side" "askedInf" "I") ∈ gW := gW_of (List.mem_of_getElem? (i := 209) (by decide +kernel)) rfl
theorem t_210 : (Jvm.Cond.fieldLink "CardLink$Line" (194 : Nat) "CardLink$Side" "askedInf" "I") ∈ gW := gW_of (List.mem_of_getElem? (i := 210) (by decide +kernel)) rfl
theorem t_211 : (Jvm.Cond.fieldLink "CardLink$Side" (30 : Nat) "CardLink$Side" "messages" "I") ∈ gW := gW_of (List.mem_of_getElem? (i := 211) (by decide +kernel)) rfl
theorem t_212 : (Jvm.Cond.fieldLink "CardLink" (153 : Nat) "CardLink$Side" "messages" "I") ∈ gW := gW_of (List.mem_of_getElem? (i := 212) (by decide +kernel)) rfl
theorem t_213 : (Jvm.Cond.fieldLink "CardLink$Side" (38 : Nat) "CardLink$Side" "out" "LCardLink$Row;") ∈ gW := gW_of (List.mem_of_getElem? (i := 213) (by decide +kernel)) rfl
theorem t_214 : (Jvm.Cond.fieldLink "CardLink$Line" (102 : Nat) "CardLink$Side" "out" "LCardLink$Row;") ∈ gW := gW_of (List.mem_of_getElem? (i := 214) (by decide +kernel)) rfl
theorem t_215 : (Jvm.Cond.fieldLink "CardLink$Side" (42 : Nat) "CardLink$Side" "got" "LCardLink$Row;") ∈ gW := gW_of (List.mem_of_getElem? (i := 215) (by decide +kernel)) rfl
theorem t_216 : (Jvm.Cond.fieldLink "CardLink$Forecast" (78 : Nat) "CardLink$Side" "got" "LCardLink$Row;") ∈ gW := gW_of (List.mem_of_getElem? (i := 216) (by decide +kernel)) rfl
theorem t_217 : (Jvm.Cond.fieldLink "CardLink" (156 : Nat) "CardLink$Side" "got" "LCardLink$Row;") ∈ gW := gW_of (List.mem_of_getElem? (i := 217) (by decide +kernel)) rfl
theorem t_218 : (Jvm.Cond.fieldLink "CardLink$Line" (235 : Nat) "CardLink$Side" "got" "LCardLink$Row;") ∈ gW := gW_of (List.mem_of_getElem? (i := 218) (by decide +kernel)) rfl
theorem t_219 : (Jvm.Cond.fieldLink "CardLink$Side" (45 : Nat) "CardLink$Side" "in" "LCardLink$Row;") ∈ gW := gW_of (List.mem_of_getElem? (i := 219) (by decide +kernel)) rfl
theorem t_220 : (Jvm.Cond.fieldLink "CardLink$Side" (48 : Nat) "CardLink$Side" "pending" "I") ∈ gW := gW_of (List.mem_of_getElem? (i := 220) (by decide +kernel)) rfl
theorem t_221 : (Jvm.Cond.fieldLink "CardLink$Side" (51 : Nat) "CardLink$Side" "pendingMore" "Z") ∈ gW := gW_of (List.mem_of_getElem? (i := 221) (by decide +kernel)) rfl
theorem t_222 : (Jvm.Cond.fieldLink "CardLink$Side" (55 : Nat) "CardLink$Side" "latestKind" "I") ∈ gW := gW_of (List.mem_of_getElem? (i := 222) (by decide +kernel)) rfl
theorem t_223 : (Jvm.Cond.fieldLink "CardLink$Side" (58 : Nat) "CardLink$Side" "sent" "I") ∈ gW := gW_of (List.mem_of_getElem? (i := 223) (by decide +kernel)) rfl
theorem t_255 : (Jvm.Cond.classLink "CardLink$Line" (23 : Nat) "CardLink$Wire") ∈ gW := gW_of (List.mem_of_getElem? (i := 255) (by decide +kernel)) rfl
theorem t_256 : (Jvm.Cond.instantiable "CardLink$Wire" (10 : Nat)) ∈ gW := gW_of (List.mem_of_getElem? (i := 256) (by decide +kernel)) rfl
theorem t_258 : (Jvm.Cond.instanceMethod ({ cls := "CardLink$Wire", name := "<init>", desc := "()V" } : Jvm.MethodName)) ∈ gW := gW_of (List.mem_of_getElem? (i := 258) (by decide +kernel)) rfl
theorem t_259 : (Jvm.Cond.code ({ cls := "CardLink$Wire", name := "<init>", desc := "()V" } : Jvm.MethodName) prog_8_method_1_code (1 : Nat) (Option.none : Option Jvm.ClassFile.FieldType)) ∈ gW := gW_of (List.mem_of_getElem? (i := 259) (by decide +kernel)) rfl
theorem t_260 : (Jvm.Cond.methodLink "CardLink$Wire" (3 : Nat) ({ cls := "java/lang/Object", name := "<init>", desc := "()V" } : Jvm.MethodName)) ∈ gW := gW_of (List.mem_of_getElem? (i := 260) (by decide +kernel)) rfl
theorem t_261 : (Jvm.Cond.fieldLink "CardLink$Wire" (9 : Nat) "CardLink$Wire" "repeats" "I") ∈ gW := gW_of (List.mem_of_getElem? (i := 261) (by decide +kernel)) rfl
theorem t_262 : (Jvm.Cond.fieldLink "CardLink" (130 : Nat) "CardLink$Wire" "repeats" "I") ∈ gW := gW_of (List.mem_of_getElem? (i := 262) (by decide +kernel)) rfl
theorem t_263 : (Jvm.Cond.fieldLink "CardLink$Wire" (15 : Nat) "CardLink$Wire" "letters" "I") ∈ gW := gW_of (List.mem_of_getElem? (i := 263) (by decide +kernel)) rfl
theorem t_264 : (Jvm.Cond.fieldLink "CardLink$Forecast" (61 : Nat) "CardLink$Wire" "letters" "I") ∈ gW := gW_of (List.mem_of_getElem? (i := 264) (by decide +kernel)) rfl
theorem t_265 : (Jvm.Cond.fieldLink "CardLink" (181 : Nat) "CardLink$Wire" "letters" "I") ∈ gW := gW_of (List.mem_of_getElem? (i := 265) (by decide +kernel)) rfl
theorem t_266 : (Jvm.Cond.fieldLink "CardLink$Line" (257 : Nat) "CardLink$Wire" "letters" "I") ∈ gW := gW_of (List.mem_of_getElem? (i := 266) (by decide +kernel)) rfl
theorem t_267 : (Jvm.Cond.fieldLink "CardLink$Wire" (18 : Nat) "CardLink$Wire" "lettersAgain" "I") ∈ gW := gW_of (List.mem_of_getElem? (i := 267) (by decide +kernel)) rfl
theorem t_268 : (Jvm.Cond.fieldLink "CardLink" (194 : Nat) "CardLink$Wire" "lettersAgain" "I") ∈ gW := gW_of (List.mem_of_getElem? (i := 268) (by decide +kernel)) rfl
theorem t_269 : (Jvm.Cond.fieldLink "CardLink$Wire" (21 : Nat) "CardLink$Wire" "faultLetters" "[I") ∈ gW := gW_of (List.mem_of_getElem? (i := 269) (by decide +kernel)) rfl
theorem t_270 : (Jvm.Cond.fieldLink "CardLink$Wire" (25 : Nat) "CardLink$Wire" "faultKinds" "[I") ∈ gW := gW_of (List.mem_of_getElem? (i := 270) (by decide +kernel)) rfl
theorem t_271 : (Jvm.Cond.fieldLink "CardLink$Wire" (28 : Nat) "CardLink$Wire" "faultBits" "[I") ∈ gW := gW_of (List.mem_of_getElem? (i := 271) (by decide +kernel)) rfl
theorem t_272 : (Jvm.Cond.fieldLink "CardLink$Wire" (31 : Nat) "CardLink$Wire" "faults" "I") ∈ gW := gW_of (List.mem_of_getElem? (i := 272) (by decide +kernel)) rfl
theorem t_273 : (Jvm.Cond.fieldLink "CardLink$Wire" (34 : Nat) "CardLink$Wire" "probeLetter" "I") ∈ gW := gW_of (List.mem_of_getElem? (i := 273) (by decide +kernel)) rfl
theorem t_274 : (Jvm.Cond.fieldLink "CardLink$Wire" (37 : Nat) "CardLink$Wire" "probeKind" "I") ∈ gW := gW_of (List.mem_of_getElem? (i := 274) (by decide +kernel)) rfl
theorem t_275 : (Jvm.Cond.fieldLink "CardLink$Wire" (40 : Nat) "CardLink$Wire" "bitsNow" "I") ∈ gW := gW_of (List.mem_of_getElem? (i := 275) (by decide +kernel)) rfl
theorem t_297 : (Jvm.Cond.classLink "CardLink$Line" (46 : Nat) "CardLink$Row") ∈ gW := gW_of (List.mem_of_getElem? (i := 297) (by decide +kernel)) rfl
theorem t_298 : (Jvm.Cond.methodLink "CardLink$Line" (48 : Nat) ({ cls := "CardLink$Row", name := "<init>", desc := "(II)V" } : Jvm.MethodName)) ∈ gW := gW_of (List.mem_of_getElem? (i := 298) (by decide +kernel)) rfl
theorem t_299 : (Jvm.Cond.fieldLink "CardLink$Line" (14 : Nat) "CardLink$Line" "reader" "LCardLink$Side;") ∈ gW := gW_of (List.mem_of_getElem? (i := 299) (by decide +kernel)) rfl
theorem t_300 : (Jvm.Cond.fieldLink "CardLink$Forecast" (74 : Nat) "CardLink$Line" "reader" "LCardLink$Side;") ∈ gW := gW_of (List.mem_of_getElem? (i := 300) (by decide +kernel)) rfl
theorem t_301 : (Jvm.Cond.fieldLink "CardLink" (146 : Nat) "CardLink$Line" "reader" "LCardLink$Side;") ∈ gW := gW_of (List.mem_of_getElem? (i := 301) (by decide +kernel)) rfl
theorem t_302 : (Jvm.Cond.fieldLink "CardLink$Line" (20 : Nat) "CardLink$Line" "card" "LCardLink$Side;") ∈ gW := gW_of (List.mem_of_getElem? (i := 302) (by decide +kernel)) rfl
theorem t_303 : (Jvm.Cond.fieldLink "CardLink" (150 : Nat) "CardLink$Line" "card" "LCardLink$Side;") ∈ gW := gW_of (List.mem_of_getElem? (i := 303) (by decide +kernel)) rfl
theorem t_304 : (Jvm.Cond.fieldLink "CardLink$Line" (26 : Nat) "CardLink$Line" "wire" "LCardLink$Wire;") ∈ gW := gW_of (List.mem_of_getElem? (i := 304) (by decide +kernel)) rfl
theorem t_305 : (Jvm.Cond.fieldLink "CardLink$Forecast" (57 : Nat) "CardLink$Line" "wire" "LCardLink$Wire;") ∈ gW := gW_of (List.mem_of_getElem? (i := 305) (by decide +kernel)) rfl
theorem t_306 : (Jvm.Cond.fieldLink "CardLink" (114 : Nat) "CardLink$Line" "wire" "LCardLink$Wire;") ∈ gW := gW_of (List.mem_of_getElem? (i := 306) (by decide +kernel)) rfl
theorem t_307 : (Jvm.Cond.fieldLink "CardLink$Line" (30 : Nat) "CardLink$Line" "state" "I") ∈ gW := gW_of (List.mem_of_getElem? (i := 307) (by decide +kernel)) rfl
theorem t_308 : (Jvm.Cond.fieldLink "CardLink$Forecast" (50 : Nat) "CardLink$Line" "state" "I") ∈ gW := gW_of (List.mem_of_getElem? (i := 308) (by decide +kernel)) rfl
theorem t_309 : (Jvm.Cond.fieldLink "CardLink" (110 : Nat) "CardLink$Line" "state" "I") ∈ gW := gW_of (List.mem_of_getElem? (i := 309) (by decide +kernel)) rfl
theorem t_310 : (Jvm.Cond.fieldLink "CardLink$Line" (34 : Nat) "CardLink$Line" "tries" "I") ∈ gW := gW_of (List.mem_of_getElem? (i := 310) (by decide +kernel)) rfl
theorem t_311 : (Jvm.Cond.fieldLink "CardLink" (197 : Nat) "CardLink$Line" "tries" "I") ∈ gW := gW_of (List.mem_of_getElem? (i := 311) (by decide +kernel)) rfl
theorem t_312 : (Jvm.Cond.fieldLink "CardLink$Line" (37 : Nat) "CardLink$Line" "waitsEnded" "I") ∈ gW := gW_of (List.mem_of_getElem? (i := 312) (by decide +kernel)) rfl
theorem t_313 : (Jvm.Cond.fieldLink "CardLink" (203 : Nat) "CardLink$Line" "waitsEnded" "I") ∈ gW := gW_of (List.mem_of_getElem? (i := 313) (by decide +kernel)) rfl
theorem t_314 : (Jvm.Cond.fieldLink "CardLink$Line" (40 : Nat) "CardLink$Line" "timesDone" "I") ∈ gW := gW_of (List.mem_of_getElem? (i := 314) (by decide +kernel)) rfl
theorem t_315 : (Jvm.Cond.fieldLink "CardLink" (206 : Nat) "CardLink$Line" "timesDone" "I") ∈ gW := gW_of (List.mem_of_getElem? (i := 315) (by decide +kernel)) rfl
theorem t_316 : (Jvm.Cond.fieldLink "CardLink$Line" (43 : Nat) "CardLink$Line" "timesGivenUp" "I") ∈ gW := gW_of (List.mem_of_getElem? (i := 316) (by decide +kernel)) rfl
theorem t_317 : (Jvm.Cond.fieldLink "CardLink" (209 : Nat) "CardLink$Line" "timesGivenUp" "I") ∈ gW := gW_of (List.mem_of_getElem? (i := 317) (by decide +kernel)) rfl
theorem t_318 : (Jvm.Cond.fieldLink "CardLink$Line" (51 : Nat) "CardLink$Line" "block" "LCardLink$Row;") ∈ gW := gW_of (List.mem_of_getElem? (i := 318) (by decide +kernel)) rfl
theorem t_319 : (Jvm.Cond.fieldLink "CardLink$Line" (55 : Nat) "CardLink$Line" "came" "LCardLink$Row;") ∈ gW := gW_of (List.mem_of_getElem? (i := 319) (by decide +kernel)) rfl
theorem t_320 : (Jvm.Cond.fieldLink "CardLink$Line" (80 : Nat) "CardLink$Line" "journal" "LCardLink$Journal;") ∈ gW := gW_of (List.mem_of_getElem? (i := 320) (by decide +kernel)) rfl
theorem t_321 : (Jvm.Cond.fieldLink "CardLink$Line" (58 : Nat) "CardLink$Line" "outcome" "I") ∈ gW := gW_of (List.mem_of_getElem? (i := 321) (by decide +kernel)) rfl
theorem t_322 : (Jvm.Cond.fieldLink "CardLink$Line" (61 : Nat) "CardLink$Line" "firstTurn" "Z") ∈ gW := gW_of (List.mem_of_getElem? (i := 322) (by decide +kernel)) rfl
theorem t_323 : (Jvm.Cond.fieldLink "CardLink$Line" (65 : Nat) "CardLink$Line" "roomWish" "I") ∈ gW := gW_of (List.mem_of_getElem? (i := 323) (by decide +kernel)) rfl
theorem t_324 : (Jvm.Cond.fieldLink "CardLink$Line" (68 : Nat) "CardLink$Line" "stuck" "Z") ∈ gW := gW_of (List.mem_of_getElem? (i := 324) (by decide +kernel)) rfl
theorem t_325 : (Jvm.Cond.fieldLink "CardLink$Line" (71 : Nat) "CardLink$Line" "toldAbort" "Z") ∈ gW := gW_of (List.mem_of_getElem? (i := 325) (by decide +kernel)) rfl
theorem t_326 : (Jvm.Cond.fieldLink "CardLink$Line" (74 : Nat) "CardLink$Line" "waitsLeft" "I") ∈ gW := gW_of (List.mem_of_getElem? (i := 326) (by decide +kernel)) rfl
theorem t_327 : (Jvm.Cond.fieldLink "CardLink$Line" (77 : Nat) "CardLink$Line" "silentTurns" "I") ∈ gW := gW_of (List.mem_of_getElem? (i := 327) (by decide +kernel)) rfl
theorem t_365 : (Jvm.Cond.classLink "CardLink" (34 : Nat) "CardLink$Forecast") ∈ gW := gW_of (List.mem_of_getElem? (i := 365) (by decide +kernel)) rfl
theorem t_366 : (Jvm.Cond.instantiable "CardLink$Forecast" (7 : Nat)) ∈ gW := gW_of (List.mem_of_getElem? (i := 366) (by decide +kernel)) rfl
theorem t_368 : (Jvm.Cond.instanceMethod ({ cls := "CardLink$Forecast", name := "<init>", desc := "()V" } : Jvm.MethodName)) ∈ gW := gW_of (List.mem_of_getElem? (i := 368) (by decide +kernel)) rfl
theorem t_369 : (Jvm.Cond.code ({ cls := "CardLink$Forecast", name := "<init>", desc := "()V" } : Jvm.MethodName) prog_2_method_1_code (1 : Nat) (Option.none : Option Jvm.ClassFile.FieldType)) ∈ gW := gW_of (List.mem_of_getElem? (i := 369) (by decide +kernel)) rfl
theorem t_370 : (Jvm.Cond.methodLink "CardLink$Forecast" (3 : Nat) ({ cls := "java/lang/Object", name := "<init>", desc := "()V" } : Jvm.MethodName)) ∈ gW := gW_of (List.mem_of_getElem? (i := 370) (by decide +kernel)) rfl
theorem t_371 : (Jvm.Cond.classLink "CardLink$Forecast" (9 : Nat) "CardLink$Line") ∈ gW := gW_of (List.mem_of_getElem? (i := 371) (by decide +kernel)) rfl
theorem t_372 : (Jvm.Cond.methodLink "CardLink$Forecast" (11 : Nat) ({ cls := "CardLink$Line", name := "<init>", desc := "(LCardLink$Journal;)V" } : Jvm.MethodName)) ∈ gW := gW_of (List.mem_of_getElem? (i := 372) (by decide +kernel)) rfl
theorem t_373 : (Jvm.Cond.fieldLink "CardLink$Forecast" (14 : Nat) "CardLink$Forecast" "outlook" "LCardLink$Line;") ∈ gW := gW_of (List.mem_of_getElem? (i := 373) (by decide +kernel)) rfl
theorem t_374 : (Jvm.Cond.fieldLink "CardLink$Forecast" (20 : Nat) "CardLink$Forecast" "walk" "LCardLink$Line;") ∈ gW := gW_of (List.mem_of_getElem? (i := 374) (by decide +kernel)) rfl
theorem t_375 : (Jvm.Cond.fieldLink "CardLink$Forecast" (23 : Nat) "CardLink$Forecast" "fork" "LCardLink$Line;") ∈ gW := gW_of (List.mem_of_getElem? (i := 375) (by decide +kernel)) rfl
theorem t_376 : (Jvm.Cond.fieldLink "CardLink$Forecast" (26 : Nat) "CardLink$Forecast" "outlookKnown" "Z") ∈ gW := gW_of (List.mem_of_getElem? (i := 376) (by decide +kernel)) rfl
theorem t_377 : (Jvm.Cond.fieldLink "CardLink$Forecast" (30 : Nat) "CardLink$Forecast" "tried" "[I") ∈ gW := gW_of (List.mem_of_getElem? (i := 377) (by decide +kernel)) rfl
theorem t_378 : (Jvm.Cond.fieldLink "CardLink$Forecast" (34 : Nat) "CardLink$Forecast" "harmful" "[I") ∈ gW := gW_of (List.mem_of_getElem? (i := 378) (by decide +kernel)) rfl
theorem t_379 : (Jvm.Cond.fieldLink "CardLink$Forecast" (37 : Nat) "CardLink$Forecast" "firsts" "[I") ∈ gW := gW_of (List.mem_of_getElem? (i := 379) (by decide +kernel)) rfl
theorem t_395 : (Jvm.Cond.classLink "CardLink" (41 : Nat) "CardLink$ResetAnswer") ∈ gW := gW_of (List.mem_of_getElem? (i := 395) (by decide +kernel)) rfl
theorem t_396 : (Jvm.Cond.instantiable "CardLink$ResetAnswer" (11 : Nat)) ∈ gW := gW_of (List.mem_of_getElem? (i := 396) (by decide +kernel)) rfl
theorem t_398 : (Jvm.Cond.instanceMethod ({ cls := "CardLink$ResetAnswer", name := "<init>", desc := "()V" } : Jvm.MethodName)) ∈ gW := gW_of (List.mem_of_getElem? (i := 398) (by decide +kernel)) rfl
theorem t_399 : (Jvm.Cond.code ({ cls := "CardLink$ResetAnswer", name := "<init>", desc := "()V" } : Jvm.MethodName) prog_5_method_1_code (1 : Nat) (Option.none : Option Jvm.ClassFile.FieldType)) ∈ gW := gW_of (List.mem_of_getElem? (i := 399) (by decide +kernel)) rfl
theorem t_400 : (Jvm.Cond.methodLink "CardLink$ResetAnswer" (3 : Nat) ({ cls := "java/lang/Object", name := "<init>", desc := "()V" } : Jvm.MethodName)) ∈ gW := gW_of (List.mem_of_getElem? (i := 400) (by decide +kernel)) rfl
theorem t_401 : (Jvm.Cond.classLink "CardLink$ResetAnswer" (9 : Nat) "CardLink$Row") ∈ gW := gW_of (List.mem_of_getElem? (i := 401) (by decide +kernel)) rfl
theorem t_402 : (Jvm.Cond.methodLink "CardLink$ResetAnswer" (11 : Nat) ({ cls := "CardLink$Row", name := "<init>", desc := "(II)V" } : Jvm.MethodName)) ∈ gW := gW_of (List.mem_of_getElem? (i := 402) (by decide +kernel)) rfl
theorem t_403 : (Jvm.Cond.fieldLink "CardLink$ResetAnswer" (73 : Nat) "CardLink$ResetAnswer" "ts" "I") ∈ gW := gW_of (List.mem_of_getElem? (i := 403) (by decide +kernel)) rfl
theorem t_404 : (Jvm.Cond.fieldLink "CardLink$ResetAnswer" (38 : Nat) "CardLink$ResetAnswer" "factor" "I") ∈ gW := gW_of (List.mem_of_getElem? (i := 404) (by decide +kernel)) rfl
theorem t_405 : (Jvm.Cond.fieldLink "CardLink$ResetAnswer" (42 : Nat) "CardLink$ResetAnswer" "guard" "I") ∈ gW := gW_of (List.mem_of_getElem? (i := 405) (by decide +kernel)) rfl
theorem t_406 : (Jvm.Cond.fieldLink "CardLink$ResetAnswer" (45 : Nat) "CardLink$ResetAnswer" "protocol" "I") ∈ gW := gW_of (List.mem_of_getElem? (i := 406) (by decide +kernel)) rfl
theorem t_407 : (Jvm.Cond.fieldLink "CardLink$ResetAnswer" (48 : Nat) "CardLink$ResetAnswer" "groups" "I") ∈ gW := gW_of (List.mem_of_getElem? (i := 407) (by decide +kernel)) rfl
theorem t_408 : (Jvm.Cond.fieldLink "CardLink$ResetAnswer" (51 : Nat) "CardLink$ResetAnswer" "room" "I") ∈ gW := gW_of (List.mem_of_getElem? (i := 408) (by decide +kernel)) rfl
theorem t_409 : (Jvm.Cond.fieldLink "CardLink$ResetAnswer" (54 : Nat) "CardLink$ResetAnswer" "checked" "Z") ∈ gW := gW_of (List.mem_of_getElem? (i := 409) (by decide +kernel)) rfl
theorem t_410 : (Jvm.Cond.fieldLink "CardLink$ResetAnswer" (14 : Nat) "CardLink$ResetAnswer" "historical" "LCardLink$Row;") ∈ gW := gW_of (List.mem_of_getElem? (i := 410) (by decide +kernel)) rfl
theorem t_411 : (Jvm.Cond.fieldLink "CardLink$ResetAnswer" (79 : Nat) "CardLink$ResetAnswer" "place" "I") ∈ gW := gW_of (List.mem_of_getElem? (i := 411) (by decide +kernel)) rfl
theorem t_412 : (Jvm.Cond.fieldLink "CardLink$ResetAnswer" (76 : Nat) "CardLink$ResetAnswer" "told" "I") ∈ gW := gW_of (List.mem_of_getElem? (i := 412) (by decide +kernel)) rfl
theorem t_413 : (Jvm.Cond.fieldLink "CardLink$ResetAnswer" (62 : Nat) "CardLink$ResetAnswer" "linkGroup" "I") ∈ gW := gW_of (List.mem_of_getElem? (i := 413) (by decide +kernel)) rfl
theorem t_437 : (Jvm.Cond.fieldLink "CardLink" (14 : Nat) "CardLink" "tape" "LCardLink$Row;") ∈ gW := gW_of (List.mem_of_getElem? (i := 437) (by decide +kernel)) rfl
theorem t_438 : (Jvm.Cond.fieldLink "CardLink" (21 : Nat) "CardLink" "journal" "LCardLink$Journal;") ∈ gW := gW_of (List.mem_of_getElem? (i := 438) (by decide +kernel)) rfl
theorem t_439 : (Jvm.Cond.fieldLink "CardLink" (30 : Nat) "CardLink" "line" "LCardLink$Line;") ∈ gW := gW_of (List.mem_of_getElem? (i := 439) (by decide +kernel)) rfl
theorem t_440 : (Jvm.Cond.fieldLink "CardLink" (37 : Nat) "CardLink" "forecast" "LCardLink$Forecast;") ∈ gW := gW_of (List.mem_of_getElem? (i := 440) (by decide +kernel)) rfl
theorem t_441 : (Jvm.Cond.fieldLink "CardLink" (44 : Nat) "CardLink" "inForce" "LCardLink$ResetAnswer;") ∈ gW := gW_of (List.mem_of_getElem? (i := 441) (by decide +kernel)) rfl
theorem t_442 : (Jvm.Cond.fieldLink "CardLink" (48 : Nat) "CardLink" "spare" "LCardLink$ResetAnswer;") ∈ gW := gW_of (List.mem_of_getElem? (i := 442) (by decide +kernel)) rfl
theorem t_443 : (Jvm.Cond.fieldLink "CardLink" (51 : Nat) "CardLink" "cardIn" "Z") ∈ gW := gW_of (List.mem_of_getElem? (i := 443) (by decide +kernel)) rfl
theorem t_459 : (Jvm.Cond.methodLink "CardLinkLaw" (21 : Nat) ({ cls := "CardLink", name := "feed", desc := "(JJ)I" } : Jvm.MethodName)) ∈ gW := gW_of (List.mem_of_getElem? (i := 459) (by decide +kernel)) rfl
theorem t_460 : (Jvm.Cond.instanceMethod ({ cls := "CardLink", name := "feed", desc := "(JJ)I" } : Jvm.MethodName)) ∈ gW := gW_of (List.mem_of_getElem? (i := 460) (by decide +kernel)) rfl
theorem t_461 : (Jvm.Cond.selects "CardLink" ({ cls := "CardLink", name := "feed", desc := "(JJ)I" } : Jvm.MethodName) ({ cls := "CardLink", name := "feed", desc := "(JJ)I" } : Jvm.MethodName)) ∈ gW := gW_of (List.mem_of_getElem? (i := 461) (by decide +kernel)) rfl
theorem t_462 : (Jvm.Cond.code ({ cls := "CardLink", name := "feed", desc := "(JJ)I" } : Jvm.MethodName) prog_1_method_2_code (5 : Nat) (Option.some Jvm.ClassFile.FieldType.int)) ∈ gW := gW_of (List.mem_of_getElem? (i := 462) (by decide +kernel)) rfl
theorem t_463 : (Jvm.Cond.methodLink "CardLink" (55 : Nat) ({ cls := "CardLink$Row", name := "size", desc := "()I" } : Jvm.MethodName)) ∈ gW := gW_of (List.mem_of_getElem? (i := 463) (by decide +kernel)) rfl
theorem t_464 : (Jvm.Cond.instanceMethod ({ cls := "CardLink$Row", name := "size", desc := "()I" } : Jvm.MethodName)) ∈ gW := gW_of (List.mem_of_getElem? (i := 464) (by decide +kernel)) rfl
theorem t_465 : (Jvm.Cond.selects "CardLink$Row" ({ cls := "CardLink$Row", name := "size", desc := "()I" } : Jvm.MethodName) ({ cls := "CardLink$Row", name := "size", desc := "()I" } : Jvm.MethodName)) ∈ gW := gW_of (List.mem_of_getElem? (i := 465) (by decide +kernel)) rfl
theorem t_466 : (Jvm.Cond.code ({ cls := "CardLink$Row", name := "size", desc := "()I" } : Jvm.MethodName) prog_6_method_2_code (1 : Nat) (Option.some Jvm.ClassFile.FieldType.int)) ∈ gW := gW_of (List.mem_of_getElem? (i := 466) (by decide +kernel)) rfl
theorem t_467 : (Jvm.Cond.methodLink "CardLink" (59 : Nat) ({ cls := "CardLink", name := "feedEight", desc := "(J)V" } : Jvm.MethodName)) ∈ gW := gW_of (List.mem_of_getElem? (i := 467) (by decide +kernel)) rfl
theorem t_469 : (Jvm.Cond.instanceMethod ({ cls := "CardLink", name := "feedEight", desc := "(J)V" } : Jvm.MethodName)) ∈ gW := gW_of (List.mem_of_getElem? (i := 469) (by decide +kernel)) rfl
theorem t_470 : (Jvm.Cond.code ({ cls := "CardLink", name := "feedEight", desc := "(J)V" } : Jvm.MethodName) prog_1_method_3_code (4 : Nat) (Option.none : Option Jvm.ClassFile.FieldType)) ∈ gW := gW_of (List.mem_of_getElem? (i := 470) (by decide +kernel)) rfl
theorem t_471 : (Jvm.Cond.methodLink "CardLink" (63 : Nat) ({ cls := "CardLink$Row", name := "add", desc := "(I)V" } : Jvm.MethodName)) ∈ gW := gW_of (List.mem_of_getElem? (i := 471) (by decide +kernel)) rfl
theorem t_472 : (Jvm.Cond.instanceMethod ({ cls := "CardLink$Row", name := "add", desc := "(I)V" } : Jvm.MethodName)) ∈ gW := gW_of (List.mem_of_getElem? (i := 472) (by decide +kernel)) rfl
theorem t_473 : (Jvm.Cond.selects "CardLink$Row" ({ cls := "CardLink$Row", name := "add", desc := "(I)V" } : Jvm.MethodName) ({ cls := "CardLink$Row", name := "add", desc := "(I)V" } : Jvm.MethodName)) ∈ gW := gW_of (List.mem_of_getElem? (i := 473) (by decide +kernel)) rfl
theorem t_474 : (Jvm.Cond.code ({ cls := "CardLink$Row", name := "add", desc := "(I)V" } : Jvm.MethodName) prog_6_method_5_code (2 : Nat) (Option.none : Option Jvm.ClassFile.FieldType)) ∈ gW := gW_of (List.mem_of_getElem? (i := 474) (by decide +kernel)) rfl
theorem t_475 : (Jvm.Cond.methodLink "CardLink$Row" (26 : Nat) ({ cls := "java/lang/Math", name := "min", desc := "(II)I" } : Jvm.MethodName)) ∈ gW := gW_of (List.mem_of_getElem? (i := 475) (by decide +kernel)) rfl
theorem t_476 : (Jvm.Cond.static ({ cls := "java/lang/Math", name := "min", desc := "(II)I" } : Jvm.MethodName)) ∈ gW := gW_of (List.mem_of_getElem? (i := 476) (by decide +kernel)) rfl
theorem t_477 : (Jvm.Cond.code ({ cls := "java/lang/Math", name := "min", desc := "(II)I" } : Jvm.MethodName) prog_14_method_69_code (2 : Nat) (Option.some Jvm.ClassFile.FieldType.int)) ∈ gW := gW_of (List.mem_of_getElem? (i := 477) (by decide +kernel)) rfl
theorem t_478 : (Jvm.Cond.methodLink "CardLink$Row" (29 : Nat) ({ cls := "java/util/Arrays", name := "copyOf", desc := "([II)[I" } : Jvm.MethodName)) ∈ gW := gW_of (List.mem_of_getElem? (i := 478) (by decide +kernel)) rfl
theorem t_479 : (Jvm.Cond.static ({ cls := "java/util/Arrays", name := "copyOf", desc := "([II)[I" } : Jvm.MethodName)) ∈ gW := gW_of (List.mem_of_getElem? (i := 479) (by decide +kernel)) rfl
theorem t_480 : (Jvm.Cond.code ({ cls := "java/util/Arrays", name := "copyOf", desc := "([II)[I" } : Jvm.MethodName) prog_18_method_123_code (3 : Nat) (Option.some (Jvm.ClassFile.FieldType.array Jvm.ClassFile.FieldType.int))) ∈ gW := gW_of (List.mem_of_getElem? (i := 480) (by decide +kernel)) rfl
theorem t_481 : (Jvm.Cond.methodLink "java/util/Arrays" (316 : Nat) ({ cls := "[I", name := "clone", desc := "()Ljava/lang/Object;" } : Jvm.MethodName)) ∈ gW := gW_of (List.mem_of_getElem? (i := 481) (by decide +kernel)) rfl
theorem t_484 : (Jvm.Cond.instanceMethod ({ cls := "java/lang/Object", name := "clone", desc := "()Ljava/lang/Object;" } : Jvm.MethodName)) ∈ gW := gW_of (List.mem_of_getElem? (i := 484) (by decide +kernel)) rfl
theorem t_487 : (Jvm.Cond.classLink "java/util/Arrays" (317 : Nat) "[I") ∈ gW := gW_of (List.mem_of_getElem? (i := 487) (by decide +kernel)) rfl
theorem t_488 : (Jvm.Cond.methodLink "java/util/Arrays" (304 : Nat) ({ cls := "java/lang/Math", name := "min", desc := "(II)I" } : Jvm.MethodName)) ∈ gW := gW_of (List.mem_of_getElem? (i := 488) (by decide +kernel)) rfl
theorem t_489 : (Jvm.Cond.methodLink "java/util/Arrays" (150 : Nat) ({ cls := "java/lang/System", name := "arraycopy", desc := "(Ljava/lang/Object;ILjava/lang/Object;II)V" } : Jvm.MethodName)) ∈ gW := gW_of (List.mem_of_getElem? (i := 489) (by decide +kernel)) rfl
theorem t_490 : (Jvm.Cond.static ({ cls := "java/lang/System", name := "arraycopy", desc := "(Ljava/lang/Object;ILjava/lang/Object;II)V" } : Jvm.MethodName)) ∈ gW := gW_of (List.mem_of_getElem? (i := 490) (by decide +kernel)) rfl
theorem t_492 : (Jvm.Cond.methodLink "CardLinkLaw" (26 : Nat) ({ cls := "CardLink", name := "end", desc := "(I)I" } : Jvm.MethodName)) ∈ gW := gW_of (List.mem_of_getElem? (i := 492) (by decide +kernel)) rfl
theorem t_493 : (Jvm.Cond.instanceMethod ({ cls := "CardLink", name := "end", desc := "(I)I" } : Jvm.MethodName)) ∈ gW := gW_of (List.mem_of_getElem? (i := 493) (by decide +kernel)) rfl
theorem t_494 : (Jvm.Cond.selects "CardLink" ({ cls := "CardLink", name := "end", desc := "(I)I" } : Jvm.MethodName) ({ cls := "CardLink", name := "end", desc := "(I)I" } : Jvm.MethodName)) ∈ gW := gW_of (List.mem_of_getElem? (i := 494) (by decide +kernel)) rfl
theorem t_495 : (Jvm.Cond.code ({ cls := "CardLink", name := "end", desc := "(I)I" } : Jvm.MethodName) prog_1_method_4_code (2 : Nat) (Option.some Jvm.ClassFile.FieldType.int)) ∈ gW := gW_of (List.mem_of_getElem? (i := 495) (by decide +kernel)) rfl
theorem t_496 : (Jvm.Cond.methodLink "CardLink" (67 : Nat) ({ cls := "CardLink$Row", name := "keep", desc := "(I)V" } : Jvm.MethodName)) ∈ gW := gW_of (List.mem_of_getElem? (i := 496) (by decide +kernel)) rfl
theorem t_497 : (Jvm.Cond.instanceMethod ({ cls := "CardLink$Row", name := "keep", desc := "(I)V" } : Jvm.MethodName)) ∈ gW := gW_of (List.mem_of_getElem? (i := 497) (by decide +kernel)) rfl
theorem t_498 : (Jvm.Cond.selects "CardLink$Row" ({ cls := "CardLink$Row", name := "keep", desc := "(I)V" } : Jvm.MethodName) ({ cls := "CardLink$Row", name := "keep", desc := "(I)V" } : Jvm.MethodName)) ∈ gW := gW_of (List.mem_of_getElem? (i := 498) (by decide +kernel)) rfl
theorem t_499 : (Jvm.Cond.code ({ cls := "CardLink$Row", name := "keep", desc := "(I)V" } : Jvm.MethodName) prog_6_method_6_code (2 : Nat) (Option.none : Option Jvm.ClassFile.FieldType)) ∈ gW := gW_of (List.mem_of_getElem? (i := 499) (by decide +kernel)) rfl
theorem t_500 : (Jvm.Cond.methodLink "CardLinkLaw" (31 : Nat) ({ cls := "CardLink", name := "reset", desc := "()I" } : Jvm.MethodName)) ∈ gW := gW_of (List.mem_of_getElem? (i := 500) (by decide +kernel)) rfl
theorem t_501 : (Jvm.Cond.instanceMethod ({ cls := "CardLink", name := "reset", desc := "()I" } : Jvm.MethodName)) ∈ gW := gW_of (List.mem_of_getElem? (i := 501) (by decide +kernel)) rfl
theorem t_502 : (Jvm.Cond.selects "CardLink" ({ cls := "CardLink", name := "reset", desc := "()I" } : Jvm.MethodName) ({ cls := "CardLink", name := "reset", desc := "()I" } : Jvm.MethodName)) ∈ gW := gW_of (List.mem_of_getElem? (i := 502) (by decide +kernel)) rfl
theorem t_503 : (Jvm.Cond.code ({ cls := "CardLink", name := "reset", desc := "()I" } : Jvm.MethodName) prog_1_method_5_code (3 : Nat) (Option.some Jvm.ClassFile.FieldType.int)) ∈ gW := gW_of (List.mem_of_getElem? (i := 503) (by decide +kernel)) rfl
theorem t_504 : (Jvm.Cond.methodLink "CardLink" (70 : Nat) ({ cls := "CardLink$ResetAnswer", name := "read", desc := "(LCardLink$Row;)I" } : Jvm.MethodName)) ∈ gW := gW_of (List.mem_of_getElem? (i := 504) (by decide +kernel)) rfl
theorem t_505 : (Jvm.Cond.instanceMethod ({ cls := "CardLink$ResetAnswer", name := "read", desc := "(LCardLink$Row;)I" } : Jvm.MethodName)) ∈ gW := gW_of (List.mem_of_getElem? (i := 505) (by decide +kernel)) rfl
theorem t_506 : (Jvm.Cond.selects "CardLink$ResetAnswer" ({ cls := "CardLink$ResetAnswer", name := "read", desc := "(LCardLink$Row;)I" } : Jvm.MethodName) ({ cls := "CardLink$ResetAnswer", name := "read", desc := "(LCardLink$Row;)I" } : Jvm.MethodName)) ∈ gW := gW_of (List.mem_of_getElem? (i := 506) (by decide +kernel)) rfl
theorem t_507 : (Jvm.Cond.code ({ cls := "CardLink$ResetAnswer", name := "read", desc := "(LCardLink$Row;)I" } : Jvm.MethodName) prog_5_method_2_code (3 : Nat) (Option.some Jvm.ClassFile.FieldType.int)) ∈ gW := gW_of (List.mem_of_getElem? (i := 507) (by decide +kernel)) rfl
theorem t_508 : (Jvm.Cond.methodLink "CardLink$ResetAnswer" (20 : Nat) ({ cls := "CardLink$ResetAnswer", name := "clear", desc := "()V" } : Jvm.MethodName)) ∈ gW := gW_of (List.mem_of_getElem? (i := 508) (by decide +kernel)) rfl
theorem t_510 : (Jvm.Cond.instanceMethod ({ cls := "CardLink$ResetAnswer", name := "clear", desc := "()V" } : Jvm.MethodName)) ∈ gW := gW_of (List.mem_of_getElem? (i := 510) (by decide +kernel)) rfl
theorem t_511 : (Jvm.Cond.code ({ cls := "CardLink$ResetAnswer", name := "clear", desc := "()V" } : Jvm.MethodName) prog_5_method_3_code (1 : Nat) (Option.none : Option Jvm.ClassFile.FieldType)) ∈ gW := gW_of (List.mem_of_getElem? (i := 511) (by decide +kernel)) rfl
theorem t_512 : (Jvm.Cond.methodLink "CardLink$ResetAnswer" (58 : Nat) ({ cls := "CardLink$Row", name := "keep", desc := "(I)V" } : Jvm.MethodName)) ∈ gW := gW_of (List.mem_of_getElem? (i := 512) (by decide +kernel)) rfl
theorem t_513 : (Jvm.Cond.methodLink "CardLink$ResetAnswer" (23 : Nat) ({ cls := "CardLink$ResetAnswer", name := "readHead", desc := "(LCardLink$Row;)I" } : Jvm.MethodName)) ∈ gW := gW_of (List.mem_of_getElem? (i := 513) (by decide +kernel)) rfl
theorem t_515 : (Jvm.Cond.instanceMethod ({ cls := "CardLink$ResetAnswer", name := "readHead", desc := "(LCardLink$Row;)I" } : Jvm.MethodName)) ∈ gW := gW_of (List.mem_of_getElem? (i := 515) (by decide +kernel)) rfl
theorem t_516 : (Jvm.Cond.code ({ cls := "CardLink$ResetAnswer", name := "readHead", desc := "(LCardLink$Row;)I" } : Jvm.MethodName) prog_5_method_5_code (2 : Nat) (Option.some Jvm.ClassFile.FieldType.int)) ∈ gW := gW_of (List.mem_of_getElem? (i := 516) (by decide +kernel)) rfl
theorem t_517 : (Jvm.Cond.methodLink "CardLink$ResetAnswer" (65 : Nat) ({ cls := "CardLink$Row", name := "size", desc := "()I" } : Jvm.MethodName)) ∈ gW := gW_of (List.mem_of_getElem? (i := 517) (by decide +kernel)) rfl
theorem t_518 : (Jvm.Cond.methodLink "CardLink$ResetAnswer" (69 : Nat) ({ cls := "CardLink$ResetAnswer", name := "faultAt", desc := "(II)I" } : Jvm.MethodName)) ∈ gW := gW_of (List.mem_of_getElem? (i := 518) (by decide +kernel)) rfl
theorem t_519 : (Jvm.Cond.static ({ cls := "CardLink$ResetAnswer", name := "faultAt", desc := "(II)I" } : Jvm.MethodName)) ∈ gW := gW_of (List.mem_of_getElem? (i := 519) (by decide +kernel)) rfl
theorem t_520 : (Jvm.Cond.code ({ cls := "CardLink$ResetAnswer", name := "faultAt", desc := "(II)I" } : Jvm.MethodName) prog_5_method_4_code (2 : Nat) (Option.some Jvm.ClassFile.FieldType.int)) ∈ gW := gW_of (List.mem_of_getElem? (i := 520) (by decide +kernel)) rfl
theorem t_521 : (Jvm.Cond.methodLink "CardLink$ResetAnswer" (30 : Nat) ({ cls := "CardLink$Row", name := "at", desc := "(I)I" } : Jvm.MethodName)) ∈ gW := gW_of (List.mem_of_getElem? (i := 521) (by decide +kernel)) rfl
theorem t_522 : (Jvm.Cond.instanceMethod ({ cls := "CardLink$Row", name := "at", desc := "(I)I" } : Jvm.MethodName)) ∈ gW := gW_of (List.mem_of_getElem? (i := 522) (by decide +kernel)) rfl
theorem t_523 : (Jvm.Cond.selects "CardLink$Row" ({ cls := "CardLink$Row", name := "at", desc := "(I)I" } : Jvm.MethodName) ({ cls := "CardLink$Row", name := "at", desc := "(I)I" } : Jvm.MethodName)) ∈ gW := gW_of (List.mem_of_getElem? (i := 523) (by decide +kernel)) rfl
theorem t_524 : (Jvm.Cond.code ({ cls := "CardLink$Row", name := "at", desc := "(I)I" } : Jvm.MethodName) prog_6_method_3_code (2 : Nat) (Option.some Jvm.ClassFile.FieldType.int)) ∈ gW := gW_of (List.mem_of_getElem? (i := 524) (by decide +kernel)) rfl
theorem t_525 : (Jvm.Cond.methodLink "CardLink$ResetAnswer" (27 : Nat) ({ cls := "CardLink$ResetAnswer", name := "readGroups", desc := "(LCardLink$Row;)I" } : Jvm.MethodName)) ∈ gW := gW_of (List.mem_of_getElem? (i := 525) (by decide +kernel)) rfl
theorem t_527 : (Jvm.Cond.instanceMethod ({ cls := "CardLink$ResetAnswer", name := "readGroups", desc := "(LCardLink$Row;)I" } : Jvm.MethodName)) ∈ gW := gW_of (List.mem_of_getElem? (i := 527) (by decide +kernel)) rfl
theorem t_528 : (Jvm.Cond.code ({ cls := "CardLink$ResetAnswer", name := "readGroups", desc := "(LCardLink$Row;)I" } : Jvm.MethodName) prog_5_method_6_code (6 : Nat) (Option.some Jvm.ClassFile.FieldType.int)) ∈ gW := gW_of (List.mem_of_getElem? (i := 528) (by decide +kernel)) rfl
theorem t_529 : (Jvm.Cond.methodLink "CardLink$ResetAnswer" (82 : Nat) ({ cls := "CardLink$ResetAnswer", name := "readGroupByte", desc := "(III)I" } : Jvm.MethodName)) ∈ gW := gW_of (List.mem_of_getElem? (i := 529) (by decide +kernel)) rfl
theorem t_531 : (Jvm.Cond.instanceMethod ({ cls := "CardLink$ResetAnswer", name := "readGroupByte", desc := "(III)I" } : Jvm.MethodName)) ∈ gW := gW_of (List.mem_of_getElem? (i := 531) (by decide +kernel)) rfl
theorem t_532 : (Jvm.Cond.code ({ cls := "CardLink$ResetAnswer", name := "readGroupByte", desc := "(III)I" } : Jvm.MethodName) prog_5_method_7_code (4 : Nat) (Option.some Jvm.ClassFile.FieldType.int)) ∈ gW := gW_of (List.mem_of_getElem? (i := 532) (by decide +kernel)) rfl
theorem t_533 : (Jvm.Cond.methodLink "CardLink$ResetAnswer" (86 : Nat) ({ cls := "CardLink$ResetAnswer", name := "readTd", desc := "(II)I" } : Jvm.MethodName)) ∈ gW := gW_of (List.mem_of_getElem? (i := 533) (by decide +kernel)) rfl
theorem t_535 : (Jvm.Cond.instanceMethod ({ cls := "CardLink$ResetAnswer", name := "readTd", desc := "(II)I" } : Jvm.MethodName)) ∈ gW := gW_of (List.mem_of_getElem? (i := 535) (by decide +kernel)) rfl
theorem t_536 : (Jvm.Cond.code ({ cls := "CardLink$ResetAnswer", name := "readTd", desc := "(II)I" } : Jvm.MethodName) prog_5_method_10_code (4 : Nat) (Option.some Jvm.ClassFile.FieldType.int)) ∈ gW := gW_of (List.mem_of_getElem? (i := 536) (by decide +kernel)) rfl
theorem t_537 : (Jvm.Cond.methodLink "CardLink$ResetAnswer" (89 : Nat) ({ cls := "CardLink$ResetAnswer", name := "readFirstGroup", desc := "(II)I" } : Jvm.MethodName)) ∈ gW := gW_of (List.mem_of_getElem? (i := 537) (by decide +kernel)) rfl
theorem t_539 : (Jvm.Cond.instanceMethod ({ cls := "CardLink$ResetAnswer", name := "readFirstGroup", desc := "(II)I" } : Jvm.MethodName)) ∈ gW := gW_of (List.mem_of_getElem? (i := 539) (by decide +kernel)) rfl
theorem t_540 : (Jvm.Cond.code ({ cls := "CardLink$ResetAnswer", name := "readFirstGroup", desc := "(II)I" } : Jvm.MethodName) prog_5_method_8_code (3 : Nat) (Option.some Jvm.ClassFile.FieldType.int)) ∈ gW := gW_of (List.mem_of_getElem? (i := 540) (by decide +kernel)) rfl
theorem t_541 : (Jvm.Cond.methodLink "CardLink$ResetAnswer" (95 : Nat) ({ cls := "CardLink$ResetAnswer", name := "clockOf", desc := "(I)I" } : Jvm.MethodName)) ∈ gW := gW_of (List.mem_of_getElem? (i := 541) (by decide +kernel)) rfl
theorem t_542 : (Jvm.Cond.static ({ cls := "CardLink$ResetAnswer", name := "clockOf", desc := "(I)I" } : Jvm.MethodName)) ∈ gW := gW_of (List.mem_of_getElem? (i := 542) (by decide +kernel)) rfl
theorem t_543 : (Jvm.Cond.code ({ cls := "CardLink$ResetAnswer", name := "clockOf", desc := "(I)I" } : Jvm.MethodName) prog_5_method_12_code (2 : Nat) (Option.some Jvm.ClassFile.FieldType.int)) ∈ gW := gW_of (List.mem_of_getElem? (i := 543) (by decide +kernel)) rfl
theorem t_546 : (Jvm.Cond.methodLink "CardLink$ResetAnswer" (98 : Nat) ({ cls := "CardLink$ResetAnswer", name := "divisorOf", desc := "(I)I" } : Jvm.MethodName)) ∈ gW := gW_of (List.mem_of_getElem? (i := 546) (by decide +kernel)) rfl
theorem t_547 : (Jvm.Cond.static ({ cls := "CardLink$ResetAnswer", name := "divisorOf", desc := "(I)I" } : Jvm.MethodName)) ∈ gW := gW_of (List.mem_of_getElem? (i := 547) (by decide +kernel)) rfl
theorem t_548 : (Jvm.Cond.code ({ cls := "CardLink$ResetAnswer", name := "divisorOf", desc := "(I)I" } : Jvm.MethodName) prog_5_method_13_code (2 : Nat) (Option.some Jvm.ClassFile.FieldType.int)) ∈ gW := gW_of (List.mem_of_getElem? (i := 548) (by decide +kernel)) rfl
theorem t_551 : (Jvm.Cond.methodLink "CardLink$ResetAnswer" (92 : Nat) ({ cls := "CardLink$ResetAnswer", name := "readLinkGroup", desc := "(II)I" } : Jvm.MethodName)) ∈ gW := gW_of (List.mem_of_getElem? (i := 551) (by decide +kernel)) rfl
theorem t_553 : (Jvm.Cond.instanceMethod ({ cls := "CardLink$ResetAnswer", name := "readLinkGroup", desc := "(II)I" } : Jvm.MethodName)) ∈ gW := gW_of (List.mem_of_getElem? (i := 553) (by decide +kernel)) rfl
theorem t_554 : (Jvm.Cond.code ({ cls := "CardLink$ResetAnswer", name := "readLinkGroup", desc := "(II)I" } : Jvm.MethodName) prog_5_method_9_code (3 : Nat) (Option.some Jvm.ClassFile.FieldType.int)) ∈ gW := gW_of (List.mem_of_getElem? (i := 554) (by decide +kernel)) rfl
theorem t_555 : (Jvm.Cond.methodLink "CardLink$ResetAnswer" (34 : Nat) ({ cls := "CardLink$ResetAnswer", name := "readTail", desc := "(LCardLink$Row;I)I" } : Jvm.MethodName)) ∈ gW := gW_of (List.mem_of_getElem? (i := 555) (by decide +kernel)) rfl
theorem t_557 : (Jvm.Cond.instanceMethod ({ cls := "CardLink$ResetAnswer", name := "readTail", desc := "(LCardLink$Row;I)I" } : Jvm.MethodName)) ∈ gW := gW_of (List.mem_of_getElem? (i := 557) (by decide +kernel)) rfl
theorem t_558 : (Jvm.Cond.code ({ cls := "CardLink$ResetAnswer", name := "readTail", desc := "(LCardLink$Row;I)I" } : Jvm.MethodName) prog_5_method_11_code (5 : Nat) (Option.some Jvm.ClassFile.FieldType.int)) ∈ gW := gW_of (List.mem_of_getElem? (i := 558) (by decide +kernel)) rfl
theorem t_559 : (Jvm.Cond.methodLink "CardLink$ResetAnswer" (101 : Nat) ({ cls := "CardLink$Row", name := "add", desc := "(I)V" } : Jvm.MethodName)) ∈ gW := gW_of (List.mem_of_getElem? (i := 559) (by decide +kernel)) rfl
theorem t_560 : (Jvm.Cond.methodLink "CardLink" (74 : Nat) ({ cls := "CardLink$Journal", name := "forgetAll", desc := "()V" } : Jvm.MethodName)) ∈ gW := gW_of (List.mem_of_getElem? (i := 560) (by decide +kernel)) rfl
theorem t_561 : (Jvm.Cond.instanceMethod ({ cls := "CardLink$Journal", name := "forgetAll", desc := "()V" } : Jvm.MethodName)) ∈ gW := gW_of (List.mem_of_getElem? (i := 561) (by decide +kernel)) rfl
theorem t_562 : (Jvm.Cond.selects "CardLink$Journal" ({ cls := "CardLink$Journal", name := "forgetAll", desc := "()V" } : Jvm.MethodName) ({ cls := "CardLink$Journal", name := "forgetAll", desc := "()V" } : Jvm.MethodName)) ∈ gW := gW_of (List.mem_of_getElem? (i := 562) (by decide +kernel)) rfl
theorem t_563 : (Jvm.Cond.code ({ cls := "CardLink$Journal", name := "forgetAll", desc := "()V" } : Jvm.MethodName) prog_3_method_2_code (1 : Nat) (Option.none : Option Jvm.ClassFile.FieldType)) ∈ gW := gW_of (List.mem_of_getElem? (i := 563) (by decide +kernel)) rfl
theorem t_564 : (Jvm.Cond.methodLink "CardLink$Journal" (47 : Nat) ({ cls := "CardLink$Row", name := "keep", desc := "(I)V" } : Jvm.MethodName)) ∈ gW := gW_of (List.mem_of_getElem? (i := 564) (by decide +kernel)) rfl
theorem t_565 : (Jvm.Cond.methodLink "CardLink" (77 : Nat) ({ cls := "CardLink$ResetAnswer", name := "cardRoom", desc := "()I" } : Jvm.MethodName)) ∈ gW := gW_of (List.mem_of_getElem? (i := 565) (by decide +kernel)) rfl
theorem t_566 : (Jvm.Cond.instanceMethod ({ cls := "CardLink$ResetAnswer", name := "cardRoom", desc := "()I" } : Jvm.MethodName)) ∈ gW := gW_of (List.mem_of_getElem? (i := 566) (by decide +kernel)) rfl
theorem t_567 : (Jvm.Cond.selects "CardLink$ResetAnswer" ({ cls := "CardLink$ResetAnswer", name := "cardRoom", desc := "()I" } : Jvm.MethodName) ({ cls := "CardLink$ResetAnswer", name := "cardRoom", desc := "()I" } : Jvm.MethodName)) ∈ gW := gW_of (List.mem_of_getElem? (i := 567) (by decide +kernel)) rfl
theorem t_568 : (Jvm.Cond.code ({ cls := "CardLink$ResetAnswer", name := "cardRoom", desc := "()I" } : Jvm.MethodName) prog_5_method_14_code (1 : Nat) (Option.some Jvm.ClassFile.FieldType.int)) ∈ gW := gW_of (List.mem_of_getElem? (i := 568) (by decide +kernel)) rfl
theorem t_569 : (Jvm.Cond.methodLink "CardLink" (80 : Nat) ({ cls := "CardLink$Line", name := "restart", desc := "(I)V" } : Jvm.MethodName)) ∈ gW := gW_of (List.mem_of_getElem? (i := 569) (by decide +kernel)) rfl
theorem t_570 : (Jvm.Cond.instanceMethod ({ cls := "CardLink$Line", name := "restart", desc := "(I)V" } : Jvm.MethodName)) ∈ gW := gW_of (List.mem_of_getElem? (i := 570) (by decide +kernel)) rfl
theorem t_571 : (Jvm.Cond.selects "CardLink$Line" ({ cls := "CardLink$Line", name := "restart", desc := "(I)V" } : Jvm.MethodName) ({ cls := "CardLink$Line", name := "restart", desc := "(I)V" } : Jvm.MethodName)) ∈ gW := gW_of (List.mem_of_getElem? (i := 571) (by decide +kernel)) rfl
theorem t_572 : (Jvm.Cond.code ({ cls := "CardLink$Line", name := "restart", desc := "(I)V" } : Jvm.MethodName) prog_4_method_2_code (2 : Nat) (Option.none : Option Jvm.ClassFile.FieldType)) ∈ gW := gW_of (List.mem_of_getElem? (i := 572) (by decide +kernel)) rfl
theorem t_573 : (Jvm.Cond.methodLink "CardLink$Line" (84 : Nat) ({ cls := "CardLink$Side", name := "restart", desc := "(I)V" } : Jvm.MethodName)) ∈ gW := gW_of (List.mem_of_getElem? (i := 573) (by decide +kernel)) rfl
theorem t_574 : (Jvm.Cond.instanceMethod ({ cls := "CardLink$Side", name := "restart", desc := "(I)V" } : Jvm.MethodName)) ∈ gW := gW_of (List.mem_of_getElem? (i := 574) (by decide +kernel)) rfl
theorem t_575 : (Jvm.Cond.selects "CardLink$Side" ({ cls := "CardLink$Side", name := "restart", desc := "(I)V" } : Jvm.MethodName) ({ cls := "CardLink$Side", name := "restart", desc := "(I)V" } : Jvm.MethodName)) ∈ gW := gW_of (List.mem_of_getElem? (i := 575) (by decide +kernel)) rfl
theorem t_576 : (Jvm.Cond.code ({ cls := "CardLink$Side", name := "restart", desc := "(I)V" } : Jvm.MethodName) prog_7_method_2_code (2 : Nat) (Option.none : Option Jvm.ClassFile.FieldType)) ∈ gW := gW_of (List.mem_of_getElem? (i := 576) (by decide +kernel)) rfl
theorem t_577 : (Jvm.Cond.methodLink "CardLink$Side" (64 : Nat) ({ cls := "CardLink$Side", name := "emptyAll", desc := "()V" } : Jvm.MethodName)) ∈ gW := gW_of (List.mem_of_getElem? (i := 577) (by decide +kernel)) rfl
theorem t_578 : (Jvm.Cond.instanceMethod ({ cls := "CardLink$Side", name := "emptyAll", desc := "()V" } : Jvm.MethodName)) ∈ gW := gW_of (List.mem_of_getElem? (i := 578) (by decide +kernel)) rfl
theorem t_579 : (Jvm.Cond.selects "CardLink$Side" ({ cls := "CardLink$Side", name := "emptyAll", desc := "()V" } : Jvm.MethodName) ({ cls := "CardLink$Side", name := "emptyAll", desc := "()V" } : Jvm.MethodName)) ∈ gW := gW_of (List.mem_of_getElem? (i := 579) (by decide +kernel)) rfl
theorem t_580 : (Jvm.Cond.code ({ cls := "CardLink$Side", name := "emptyAll", desc := "()V" } : Jvm.MethodName) prog_7_method_4_code (1 : Nat) (Option.none : Option Jvm.ClassFile.FieldType)) ∈ gW := gW_of (List.mem_of_getElem? (i := 580) (by decide +kernel)) rfl
theorem t_581 : (Jvm.Cond.methodLink "CardLink$Side" (67 : Nat) ({ cls := "CardLink$Row", name := "keep", desc := "(I)V" } : Jvm.MethodName)) ∈ gW := gW_of (List.mem_of_getElem? (i := 581) (by decide +kernel)) rfl
theorem t_582 : (Jvm.Cond.methodLink "CardLink$Line" (87 : Nat) ({ cls := "CardLink$Wire", name := "restart", desc := "()V" } : Jvm.MethodName)) ∈ gW := gW_of (List.mem_of_getElem? (i := 582) (by decide +kernel)) rfl
theorem t_583 : (Jvm.Cond.instanceMethod ({ cls := "CardLink$Wire", name := "restart", desc := "()V" } : Jvm.MethodName)) ∈ gW := gW_of (List.mem_of_getElem? (i := 583) (by decide +kernel)) rfl
theorem t_584 : (Jvm.Cond.selects "CardLink$Wire" ({ cls := "CardLink$Wire", name := "restart", desc := "()V" } : Jvm.MethodName) ({ cls := "CardLink$Wire", name := "restart", desc := "()V" } : Jvm.MethodName)) ∈ gW := gW_of (List.mem_of_getElem? (i := 584) (by decide +kernel)) rfl
theorem t_585 : (Jvm.Cond.code ({ cls := "CardLink$Wire", name := "restart", desc := "()V" } : Jvm.MethodName) prog_8_method_2_code (1 : Nat) (Option.none : Option Jvm.ClassFile.FieldType)) ∈ gW := gW_of (List.mem_of_getElem? (i := 585) (by decide +kernel)) rfl
theorem t_586 : (Jvm.Cond.methodLink "CardLink$Line" (89 : Nat) ({ cls := "CardLink$Row", name := "keep", desc := "(I)V" } : Jvm.MethodName)) ∈ gW := gW_of (List.mem_of_getElem? (i := 586) (by decide +kernel)) rfl
theorem t_587 : (Jvm.Cond.methodLink "CardLink" (83 : Nat) ({ cls := "CardLink$Forecast", name := "forget", desc := "()V" } : Jvm.MethodName)) ∈ gW := gW_of (List.mem_of_getElem? (i := 587) (by decide +kernel)) rfl
theorem t_588 : (Jvm.Cond.instanceMethod ({ cls := "CardLink$Forecast", name := "forget", desc := "()V" } : Jvm.MethodName)) ∈ gW := gW_of (List.mem_of_getElem? (i := 588) (by decide +kernel)) rfl
theorem t_589 : (Jvm.Cond.selects "CardLink$Forecast" ({ cls := "CardLink$Forecast", name := "forget", desc := "()V" } : Jvm.MethodName) ({ cls := "CardLink$Forecast", name := "forget", desc := "()V" } : Jvm.MethodName)) ∈ gW := gW_of (List.mem_of_getElem? (i := 589) (by decide +kernel)) rfl
theorem t_590 : (Jvm.Cond.code ({ cls := "CardLink$Forecast", name := "forget", desc := "()V" } : Jvm.MethodName) prog_2_method_2_code (1 : Nat) (Option.none : Option Jvm.ClassFile.FieldType)) ∈ gW := gW_of (List.mem_of_getElem? (i := 590) (by decide +kernel)) rfl
theorem t_591 : (Jvm.Cond.methodLink "CardLink$Forecast" (40 : Nat) ({ cls := "java/util/Arrays", name := "fill", desc := "([II)V" } : Jvm.MethodName)) ∈ gW := gW_of (List.mem_of_getElem? (i := 591) (by decide +kernel)) rfl
theorem t_592 : (Jvm.Cond.static ({ cls := "java/util/Arrays", name := "fill", desc := "([II)V" } : Jvm.MethodName)) ∈ gW := gW_of (List.mem_of_getElem? (i := 592) (by decide +kernel)) rfl
theorem t_593 : (Jvm.Cond.code ({ cls := "java/util/Arrays", name := "fill", desc := "([II)V" } : Jvm.MethodName) prog_18_method_103_code (4 : Nat) (Option.none : Option Jvm.ClassFile.FieldType)) ∈ gW := gW_of (List.mem_of_getElem? (i := 593) (by decide +kernel)) rfl
theorem t_594 : (Jvm.Cond.methodLink "CardLink" (86 : Nat) ({ cls := "CardLink$ResetAnswer", name := "historicalBytes", desc := "()I" } : Jvm.MethodName)) ∈ gW := gW_of (List.mem_of_getElem? (i := 594) (by decide +kernel)) rfl
theorem t_595 : (Jvm.Cond.instanceMethod ({ cls := "CardLink$ResetAnswer", name := "historicalBytes", desc := "()I" } : Jvm.MethodName)) ∈ gW := gW_of (List.mem_of_getElem? (i := 595) (by decide +kernel)) rfl
theorem t_596 : (Jvm.Cond.selects "CardLink$ResetAnswer" ({ cls := "CardLink$ResetAnswer", name := "historicalBytes", desc := "()I" } : Jvm.MethodName) ({ cls := "CardLink$ResetAnswer", name := "historicalBytes", desc := "()I" } : Jvm.MethodName)) ∈ gW := gW_of (List.mem_of_getElem? (i := 596) (by decide +kernel)) rfl
theorem t_597 : (Jvm.Cond.code ({ cls := "CardLink$ResetAnswer", name := "historicalBytes", desc := "()I" } : Jvm.MethodName) prog_5_method_15_code (1 : Nat) (Option.some Jvm.ClassFile.FieldType.int)) ∈ gW := gW_of (List.mem_of_getElem? (i := 597) (by decide +kernel)) rfl
theorem t_598 : (Jvm.Cond.methodLink "CardLinkLaw" (36 : Nat) ({ cls := "CardLink", name := "answer", desc := "(I)I" } : Jvm.MethodName)) ∈ gW := gW_of (List.mem_of_getElem? (i := 598) (by decide +kernel)) rfl
theorem t_599 : (Jvm.Cond.instanceMethod ({ cls := "CardLink", name := "answer", desc := "(I)I" } : Jvm.MethodName)) ∈ gW := gW_of (List.mem_of_getElem? (i := 599) (by decide +kernel)) rfl
theorem t_600 : (Jvm.Cond.selects "CardLink" ({ cls := "CardLink", name := "answer", desc := "(I)I" } : Jvm.MethodName) ({ cls := "CardLink", name := "answer", desc := "(I)I" } : Jvm.MethodName)) ∈ gW := gW_of (List.mem_of_getElem? (i := 600) (by decide +kernel)) rfl
theorem t_601 : (Jvm.Cond.code ({ cls := "CardLink", name := "answer", desc := "(I)I" } : Jvm.MethodName) prog_1_method_6_code (2 : Nat) (Option.some Jvm.ClassFile.FieldType.int)) ∈ gW := gW_of (List.mem_of_getElem? (i := 601) (by decide +kernel)) rfl
theorem t_602 : (Jvm.Cond.methodLink "CardLink" (89 : Nat) ({ cls := "CardLink$ResetAnswer", name := "tell", desc := "(I)I" } : Jvm.MethodName)) ∈ gW := gW_of (List.mem_of_getElem? (i := 602) (by decide +kernel)) rfl
theorem t_603 : (Jvm.Cond.instanceMethod ({ cls := "CardLink$ResetAnswer", name := "tell", desc := "(I)I" } : Jvm.MethodName)) ∈ gW := gW_of (List.mem_of_getElem? (i := 603) (by decide +kernel)) rfl
theorem t_604 : (Jvm.Cond.selects "CardLink$ResetAnswer" ({ cls := "CardLink$ResetAnswer", name := "tell", desc := "(I)I" } : Jvm.MethodName) ({ cls := "CardLink$ResetAnswer", name := "tell", desc := "(I)I" } : Jvm.MethodName)) ∈ gW := gW_of (List.mem_of_getElem? (i := 604) (by decide +kernel)) rfl
theorem t_605 : (Jvm.Cond.code ({ cls := "CardLink$ResetAnswer", name := "tell", desc := "(I)I" } : Jvm.MethodName) prog_5_method_17_code (2 : Nat) (Option.some Jvm.ClassFile.FieldType.int)) ∈ gW := gW_of (List.mem_of_getElem? (i := 605) (by decide +kernel)) rfl
theorem t_606 : (Jvm.Cond.methodLink "CardLinkLaw" (40 : Nat) ({ cls := "CardLink", name := "historical", desc := "(I)I" } : Jvm.MethodName)) ∈ gW := gW_of (List.mem_of_getElem? (i := 606) (by decide +kernel)) rfl
theorem t_607 : (Jvm.Cond.instanceMethod ({ cls := "CardLink", name := "historical", desc := "(I)I" } : Jvm.MethodName)) ∈ gW := gW_of (List.mem_of_getElem? (i := 607) (by decide +kernel)) rfl
theorem t_608 : (Jvm.Cond.selects "CardLink" ({ cls := "CardLink", name := "historical", desc := "(I)I" } : Jvm.MethodName) ({ cls := "CardLink", name := "historical", desc := "(I)I" } : Jvm.MethodName)) ∈ gW := gW_of (List.mem_of_getElem? (i := 608) (by decide +kernel)) rfl
theorem t_609 : (Jvm.Cond.code ({ cls := "CardLink", name := "historical", desc := "(I)I" } : Jvm.MethodName) prog_1_method_7_code (2 : Nat) (Option.some Jvm.ClassFile.FieldType.int)) ∈ gW := gW_of (List.mem_of_getElem? (i := 609) (by decide +kernel)) rfl
theorem t_610 : (Jvm.Cond.methodLink "CardLink" (93 : Nat) ({ cls := "CardLink$ResetAnswer", name := "historicalByte", desc := "(I)I" } : Jvm.MethodName)) ∈ gW := gW_of (List.mem_of_getElem? (i := 610) (by decide +kernel)) rfl
theorem t_611 : (Jvm.Cond.instanceMethod ({ cls := "CardLink$ResetAnswer", name := "historicalByte", desc := "(I)I" } : Jvm.MethodName)) ∈ gW := gW_of (List.mem_of_getElem? (i := 611) (by decide +kernel)) rfl
theorem t_612 : (Jvm.Cond.selects "CardLink$ResetAnswer" ({ cls := "CardLink$ResetAnswer", name := "historicalByte", desc := "(I)I" } : Jvm.MethodName) ({ cls := "CardLink$ResetAnswer", name := "historicalByte", desc := "(I)I" } : Jvm.MethodName)) ∈ gW := gW_of (List.mem_of_getElem? (i := 612) (by decide +kernel)) rfl
theorem t_613 : (Jvm.Cond.code ({ cls := "CardLink$ResetAnswer", name := "historicalByte", desc := "(I)I" } : Jvm.MethodName) prog_5_method_16_code (2 : Nat) (Option.some Jvm.ClassFile.FieldType.int)) ∈ gW := gW_of (List.mem_of_getElem? (i := 613) (by decide +kernel)) rfl
theorem t_614 : (Jvm.Cond.methodLink "CardLinkLaw" (44 : Nat) ({ cls := "CardLink", name := "message", desc := "()I" } : Jvm.MethodName)) ∈ gW := gW_of (List.mem_of_getElem? (i := 614) (by decide +kernel)) rfl
theorem t_615 : (Jvm.Cond.instanceMethod ({ cls := "CardLink", name := "message", desc := "()I" } : Jvm.MethodName)) ∈ gW := gW_of (List.mem_of_getElem? (i := 615) (by decide +kernel)) rfl
theorem t_616 : (Jvm.Cond.selects "CardLink" ({ cls := "CardLink", name := "message", desc := "()I" } : Jvm.MethodName) ({ cls := "CardLink", name := "message", desc := "()I" } : Jvm.MethodName)) ∈ gW := gW_of (List.mem_of_getElem? (i := 616) (by decide +kernel)) rfl
theorem t_617 : (Jvm.Cond.code ({ cls := "CardLink", name := "message", desc := "()I" } : Jvm.MethodName) prog_1_method_8_code (2 : Nat) (Option.some Jvm.ClassFile.FieldType.int)) ∈ gW := gW_of (List.mem_of_getElem? (i := 617) (by decide +kernel)) rfl
theorem t_618 : (Jvm.Cond.methodLink "CardLink" (96 : Nat) ({ cls := "CardLink", name := "mayStart", desc := "()Z" } : Jvm.MethodName)) ∈ gW := gW_of (List.mem_of_getElem? (i := 618) (by decide +kernel)) rfl
theorem t_620 : (Jvm.Cond.instanceMethod ({ cls := "CardLink", name := "mayStart", desc := "()Z" } : Jvm.MethodName)) ∈ gW := gW_of (List.mem_of_getElem? (i := 620) (by decide +kernel)) rfl
theorem t_621 : (Jvm.Cond.code ({ cls := "CardLink", name := "mayStart", desc := "()Z" } : Jvm.MethodName) prog_1_method_10_code (1 : Nat) (Option.some Jvm.ClassFile.FieldType.boolean)) ∈ gW := gW_of (List.mem_of_getElem? (i := 621) (by decide +kernel)) rfl
theorem t_622 : (Jvm.Cond.methodLink "CardLink" (100 : Nat) ({ cls := "CardLink$Line", name := "startMessage", desc := "(LCardLink$Row;)V" } : Jvm.MethodName)) ∈ gW := gW_of (List.mem_of_getElem? (i := 622) (by decide +kernel)) rfl
theorem t_623 : (Jvm.Cond.instanceMethod ({ cls := "CardLink$Line", name := "startMessage", desc := "(LCardLink$Row;)V" } : Jvm.MethodName)) ∈ gW := gW_of (List.mem_of_getElem? (i := 623) (by decide +kernel)) rfl
theorem t_624 : (Jvm.Cond.selects "CardLink$Line" ({ cls := "CardLink$Line", name := "startMessage", desc := "(LCardLink$Row;)V" } : Jvm.MethodName) ({ cls := "CardLink$Line", name := "startMessage", desc := "(LCardLink$Row;)V" } : Jvm.MethodName)) ∈ gW := gW_of (List.mem_of_getElem? (i := 624) (by decide +kernel)) rfl
theorem t_625 : (Jvm.Cond.code ({ cls := "CardLink$Line", name := "startMessage", desc := "(LCardLink$Row;)V" } : Jvm.MethodName) prog_4_method_4_code (2 : Nat) (Option.none : Option Jvm.ClassFile.FieldType)) ∈ gW := gW_of (List.mem_of_getElem? (i := 625) (by decide +kernel)) rfl
theorem t_626 : (Jvm.Cond.methodLink "CardLink$Line" (99 : Nat) ({ cls := "CardLink$Row", name := "copy", desc := "(LCardLink$Row;)V" } : Jvm.MethodName)) ∈ gW := gW_of (List.mem_of_getElem? (i := 626) (by decide +kernel)) rfl
theorem t_627 : (Jvm.Cond.instanceMethod ({ cls := "CardLink$Row", name := "copy", desc := "(LCardLink$Row;)V" } : Jvm.MethodName)) ∈ gW := gW_of (List.mem_of_getElem? (i := 627) (by decide +kernel)) rfl
theorem t_628 : (Jvm.Cond.selects "CardLink$Row" ({ cls := "CardLink$Row", name := "copy", desc := "(LCardLink$Row;)V" } : Jvm.MethodName) ({ cls := "CardLink$Row", name := "copy", desc := "(LCardLink$Row;)V" } : Jvm.MethodName)) ∈ gW := gW_of (List.mem_of_getElem? (i := 628) (by decide +kernel)) rfl
theorem t_629 : (Jvm.Cond.code ({ cls := "CardLink$Row", name := "copy", desc := "(LCardLink$Row;)V" } : Jvm.MethodName) prog_6_method_7_code (3 : Nat) (Option.none : Option Jvm.ClassFile.FieldType)) ∈ gW := gW_of (List.mem_of_getElem? (i := 629) (by decide +kernel)) rfl
theorem t_630 : (Jvm.Cond.methodLink "CardLink$Row" (35 : Nat) ({ cls := "java/lang/System", name := "arraycopy", desc := "(Ljava/lang/Object;ILjava/lang/Object;II)V" } : Jvm.MethodName)) ∈ gW := gW_of (List.mem_of_getElem? (i := 630) (by decide +kernel)) rfl
theorem t_631 : (Jvm.Cond.methodLink "CardLink$Line" (108 : Nat) ({ cls := "CardLink$Line", name := "begin", desc := "(I)V" } : Jvm.MethodName)) ∈ gW := gW_of (List.mem_of_getElem? (i := 631) (by decide +kernel)) rfl
theorem t_633 : (Jvm.Cond.instanceMethod ({ cls := "CardLink$Line", name := "begin", desc := "(I)V" } : Jvm.MethodName)) ∈ gW := gW_of (List.mem_of_getElem? (i := 633) (by decide +kernel)) rfl
theorem t_634 : (Jvm.Cond.code ({ cls := "CardLink$Line", name := "begin", desc := "(I)V" } : Jvm.MethodName) prog_4_method_6_code (2 : Nat) (Option.none : Option Jvm.ClassFile.FieldType)) ∈ gW := gW_of (List.mem_of_getElem? (i := 634) (by decide +kernel)) rfl
theorem t_635 : (Jvm.Cond.methodLink "CardLink" (104 : Nat) ({ cls := "CardLink$Line", name := "blocksAhead", desc := "()I" } : Jvm.MethodName)) ∈ gW := gW_of (List.mem_of_getElem? (i := 635) (by decide +kernel)) rfl
theorem t_636 : (Jvm.Cond.instanceMethod ({ cls := "CardLink$Line", name := "blocksAhead", desc := "()I" } : Jvm.MethodName)) ∈ gW := gW_of (List.mem_of_getElem? (i := 636) (by decide +kernel)) rfl
theorem t_637 : (Jvm.Cond.selects "CardLink$Line" ({ cls := "CardLink$Line", name := "blocksAhead", desc := "()I" } : Jvm.MethodName) ({ cls := "CardLink$Line", name := "blocksAhead", desc := "()I" } : Jvm.MethodName)) ∈ gW := gW_of (List.mem_of_getElem? (i := 637) (by decide +kernel)) rfl
theorem t_638 : (Jvm.Cond.code ({ cls := "CardLink$Line", name := "blocksAhead", desc := "()I" } : Jvm.MethodName) prog_4_method_7_code (4 : Nat) (Option.some Jvm.ClassFile.FieldType.int)) ∈ gW := gW_of (List.mem_of_getElem? (i := 638) (by decide +kernel)) rfl
theorem t_639 : (Jvm.Cond.methodLink "CardLink$Line" (111 : Nat) ({ cls := "CardLink$Row", name := "size", desc := "()I" } : Jvm.MethodName)) ∈ gW := gW_of (List.mem_of_getElem? (i := 639) (by decide +kernel)) rfl
theorem t_640 : (Jvm.Cond.methodLink "CardLinkLaw" (48 : Nat) ({ cls := "CardLink", name := "room", desc := "(I)I" } : Jvm.MethodName)) ∈ gW := gW_of (List.mem_of_getElem? (i := 640) (by decide +kernel)) rfl
theorem t_641 : (Jvm.Cond.instanceMethod ({ cls := "CardLink", name := "room", desc := "(I)I" } : Jvm.MethodName)) ∈ gW := gW_of (List.mem_of_getElem? (i := 641) (by decide +kernel)) rfl
theorem t_642 : (Jvm.Cond.selects "CardLink" ({ cls := "CardLink", name := "room", desc := "(I)I" } : Jvm.MethodName) ({ cls := "CardLink", name := "room", desc := "(I)I" } : Jvm.MethodName)) ∈ gW := gW_of (List.mem_of_getElem? (i := 642) (by decide +kernel)) rfl
theorem t_643 : (Jvm.Cond.code ({ cls := "CardLink", name := "room", desc := "(I)I" } : Jvm.MethodName) prog_1_method_9_code (2 : Nat) (Option.some Jvm.ClassFile.FieldType.int)) ∈ gW := gW_of (List.mem_of_getElem? (i := 643) (by decide +kernel)) rfl
theorem t_644 : (Jvm.Cond.methodLink "CardLink" (107 : Nat) ({ cls := "CardLink$Line", name := "startRoom", desc := "(I)V" } : Jvm.MethodName)) ∈ gW := gW_of (List.mem_of_getElem? (i := 644) (by decide +kernel)) rfl
theorem t_645 : (Jvm.Cond.instanceMethod ({ cls := "CardLink$Line", name := "startRoom", desc := "(I)V" } : Jvm.MethodName)) ∈ gW := gW_of (List.mem_of_getElem? (i := 645) (by decide +kernel)) rfl
theorem t_646 : (Jvm.Cond.selects "CardLink$Line" ({ cls := "CardLink$Line", name := "startRoom", desc := "(I)V" } : Jvm.MethodName) ({ cls := "CardLink$Line", name := "startRoom", desc := "(I)V" } : Jvm.MethodName)) ∈ gW := gW_of (List.mem_of_getElem? (i := 646) (by decide +kernel)) rfl
theorem t_647 : (Jvm.Cond.code ({ cls := "CardLink$Line", name := "startRoom", desc := "(I)V" } : Jvm.MethodName) prog_4_method_5_code (2 : Nat) (Option.none : Option Jvm.ClassFile.FieldType)) ∈ gW := gW_of (List.mem_of_getElem? (i := 647) (by decide +kernel)) rfl
theorem t_648 : (Jvm.Cond.methodLink "CardLinkLaw" (52 : Nat) ({ cls := "CardLink", name := "fault", desc := "(III)I" } : Jvm.MethodName)) ∈ gW := gW_of (List.mem_of_getElem? (i := 648) (by decide +kernel)) rfl
theorem t_649 : (Jvm.Cond.instanceMethod ({ cls := "CardLink", name := "fault", desc := "(III)I" } : Jvm.MethodName)) ∈ gW := gW_of (List.mem_of_getElem? (i := 649) (by decide +kernel)) rfl
theorem t_650 : (Jvm.Cond.selects "CardLink" ({ cls := "CardLink", name := "fault", desc := "(III)I" } : Jvm.MethodName) ({ cls := "CardLink", name := "fault", desc := "(III)I" } : Jvm.MethodName)) ∈ gW := gW_of (List.mem_of_getElem? (i := 650) (by decide +kernel)) rfl
theorem t_651 : (Jvm.Cond.code ({ cls := "CardLink", name := "fault", desc := "(III)I" } : Jvm.MethodName) prog_1_method_12_code (5 : Nat) (Option.some Jvm.ClassFile.FieldType.int)) ∈ gW := gW_of (List.mem_of_getElem? (i := 651) (by decide +kernel)) rfl
theorem t_652 : (Jvm.Cond.methodLink "CardLink" (118 : Nat) ({ cls := "CardLink$Wire", name := "isFull", desc := "()Z" } : Jvm.MethodName)) ∈ gW := gW_of (List.mem_of_getElem? (i := 652) (by decide +kernel)) rfl
theorem t_653 : (Jvm.Cond.instanceMethod ({ cls := "CardLink$Wire", name := "isFull", desc := "()Z" } : Jvm.MethodName)) ∈ gW := gW_of (List.mem_of_getElem? (i := 653) (by decide +kernel)) rfl
theorem t_654 : (Jvm.Cond.selects "CardLink$Wire" ({ cls := "CardLink$Wire", name := "isFull", desc := "()Z" } : Jvm.MethodName) ({ cls := "CardLink$Wire", name := "isFull", desc := "()Z" } : Jvm.MethodName)) ∈ gW := gW_of (List.mem_of_getElem? (i := 654) (by decide +kernel)) rfl
theorem t_655 : (Jvm.Cond.code ({ cls := "CardLink$Wire", name := "isFull", desc := "()Z" } : Jvm.MethodName) prog_8_method_6_code (1 : Nat) (Option.some Jvm.ClassFile.FieldType.boolean)) ∈ gW := gW_of (List.mem_of_getElem? (i := 655) (by decide +kernel)) rfl
theorem t_656 : (Jvm.Cond.methodLink "CardLink" (123 : Nat) ({ cls := "CardLink$Wire", name := "addFault", desc := "(III)V" } : Jvm.MethodName)) ∈ gW := gW_of (List.mem_of_getElem? (i := 656) (by decide +kernel)) rfl
theorem t_657 : (Jvm.Cond.instanceMethod ({ cls := "CardLink$Wire", name := "addFault", desc := "(III)V" } : Jvm.MethodName)) ∈ gW := gW_of (List.mem_of_getElem? (i := 657) (by decide +kernel)) rfl
theorem t_658 : (Jvm.Cond.selects "CardLink$Wire" ({ cls := "CardLink$Wire", name := "addFault", desc := "(III)V" } : Jvm.MethodName) ({ cls := "CardLink$Wire", name := "addFault", desc := "(III)V" } : Jvm.MethodName)) ∈ gW := gW_of (List.mem_of_getElem? (i := 658) (by decide +kernel)) rfl
theorem t_659 : (Jvm.Cond.code ({ cls := "CardLink$Wire", name := "addFault", desc := "(III)V" } : Jvm.MethodName) prog_8_method_7_code (6 : Nat) (Option.none : Option Jvm.ClassFile.FieldType)) ∈ gW := gW_of (List.mem_of_getElem? (i := 659) (by decide +kernel)) rfl
theorem t_660 : (Jvm.Cond.methodLink "CardLink$Wire" (43 : Nat) ({ cls := "CardLink$Wire", name := "makePlace", desc := "(I)V" } : Jvm.MethodName)) ∈ gW := gW_of (List.mem_of_getElem? (i := 660) (by decide +kernel)) rfl
theorem t_662 : (Jvm.Cond.instanceMethod ({ cls := "CardLink$Wire", name := "makePlace", desc := "(I)V" } : Jvm.MethodName)) ∈ gW := gW_of (List.mem_of_getElem? (i := 662) (by decide +kernel)) rfl
theorem t_663 : (Jvm.Cond.code ({ cls := "CardLink$Wire", name := "makePlace", desc := "(I)V" } : Jvm.MethodName) prog_8_method_8_code (3 : Nat) (Option.none : Option Jvm.ClassFile.FieldType)) ∈ gW := gW_of (List.mem_of_getElem? (i := 663) (by decide +kernel)) rfl
theorem t_664 : (Jvm.Cond.methodLink "CardLink$Wire" (47 : Nat) ({ cls := "java/lang/Math", name := "min", desc := "(II)I" } : Jvm.MethodName)) ∈ gW := gW_of (List.mem_of_getElem? (i := 664) (by decide +kernel)) rfl
theorem t_665 : (Jvm.Cond.methodLink "CardLink" (127 : Nat) ({ cls := "CardLink$Wire", name := "faults", desc := "()I" } : Jvm.MethodName)) ∈ gW := gW_of (List.mem_of_getElem? (i := 665) (by decide +kernel)) rfl
theorem t_666 : (Jvm.Cond.instanceMethod ({ cls := "CardLink$Wire", name := "faults", desc := "()I" } : Jvm.MethodName)) ∈ gW := gW_of (List.mem_of_getElem? (i := 666) (by decide +kernel)) rfl
theorem t_667 : (Jvm.Cond.selects "CardLink$Wire" ({ cls := "CardLink$Wire", name := "faults", desc := "()I" } : Jvm.MethodName) ({ cls := "CardLink$Wire", name := "faults", desc := "()I" } : Jvm.MethodName)) ∈ gW := gW_of (List.mem_of_getElem? (i := 667) (by decide +kernel)) rfl
theorem t_668 : (Jvm.Cond.code ({ cls := "CardLink$Wire", name := "faults", desc := "()I" } : Jvm.MethodName) prog_8_method_5_code (1 : Nat) (Option.some Jvm.ClassFile.FieldType.int)) ∈ gW := gW_of (List.mem_of_getElem? (i := 668) (by decide +kernel)) rfl
theorem t_669 : (Jvm.Cond.methodLink "CardLinkLaw" (57 : Nat) ({ cls := "CardLink", name := "repeats", desc := "(I)I" } : Jvm.MethodName)) ∈ gW := gW_of (List.mem_of_getElem? (i := 669) (by decide +kernel)) rfl
theorem t_670 : (Jvm.Cond.instanceMethod ({ cls := "CardLink", name := "repeats", desc := "(I)I" } : Jvm.MethodName)) ∈ gW := gW_of (List.mem_of_getElem? (i := 670) (by decide +kernel)) rfl
theorem t_671 : (Jvm.Cond.selects "CardLink" ({ cls := "CardLink", name := "repeats", desc := "(I)I" } : Jvm.MethodName) ({ cls := "CardLink", name := "repeats", desc := "(I)I" } : Jvm.MethodName)) ∈ gW := gW_of (List.mem_of_getElem? (i := 671) (by decide +kernel)) rfl
theorem t_672 : (Jvm.Cond.code ({ cls := "CardLink", name := "repeats", desc := "(I)I" } : Jvm.MethodName) prog_1_method_13_code (3 : Nat) (Option.some Jvm.ClassFile.FieldType.int)) ∈ gW := gW_of (List.mem_of_getElem? (i := 672) (by decide +kernel)) rfl
theorem t_673 : (Jvm.Cond.methodLink "CardLinkLaw" (61 : Nat) ({ cls := "CardLink", name := "step", desc := "(I)I" } : Jvm.MethodName)) ∈ gW := gW_of (List.mem_of_getElem? (i := 673) (by decide +kernel)) rfl
theorem t_674 : (Jvm.Cond.instanceMethod ({ cls := "CardLink", name := "step", desc := "(I)I" } : Jvm.MethodName)) ∈ gW := gW_of (List.mem_of_getElem? (i := 674) (by decide +kernel)) rfl
theorem t_675 : (Jvm.Cond.selects "CardLink" ({ cls := "CardLink", name := "step", desc := "(I)I" } : Jvm.MethodName) ({ cls := "CardLink", name := "step", desc := "(I)I" } : Jvm.MethodName)) ∈ gW := gW_of (List.mem_of_getElem? (i := 675) (by decide +kernel)) rfl
theorem t_676 : (Jvm.Cond.code ({ cls := "CardLink", name := "step", desc := "(I)I" } : Jvm.MethodName) prog_1_method_14_code (2 : Nat) (Option.some Jvm.ClassFile.FieldType.int)) ∈ gW := gW_of (List.mem_of_getElem? (i := 676) (by decide +kernel)) rfl
theorem t_677 : (Jvm.Cond.methodLink "CardLink" (133 : Nat) ({ cls := "CardLink", name := "onWay", desc := "()Z" } : Jvm.MethodName)) ∈ gW := gW_of (List.mem_of_getElem? (i := 677) (by decide +kernel)) rfl
theorem t_679 : (Jvm.Cond.instanceMethod ({ cls := "CardLink", name := "onWay", desc := "()Z" } : Jvm.MethodName)) ∈ gW := gW_of (List.mem_of_getElem? (i := 679) (by decide +kernel)) rfl
theorem t_680 : (Jvm.Cond.code ({ cls := "CardLink", name := "onWay", desc := "()Z" } : Jvm.MethodName) prog_1_method_11_code (1 : Nat) (Option.some Jvm.ClassFile.FieldType.boolean)) ∈ gW := gW_of (List.mem_of_getElem? (i := 680) (by decide +kernel)) rfl
theorem t_681 : (Jvm.Cond.methodLink "CardLink" (136 : Nat) ({ cls := "CardLink$Line", name := "run", desc := "(I)I" } : Jvm.MethodName)) ∈ gW := gW_of (List.mem_of_getElem? (i := 681) (by decide +kernel)) rfl
theorem t_682 : (Jvm.Cond.instanceMethod ({ cls := "CardLink$Line", name := "run", desc := "(I)I" } : Jvm.MethodName)) ∈ gW := gW_of (List.mem_of_getElem? (i := 682) (by decide +kernel)) rfl
theorem t_683 : (Jvm.Cond.selects "CardLink$Line" ({ cls := "CardLink$Line", name := "run", desc := "(I)I" } : Jvm.MethodName) ({ cls := "CardLink$Line", name := "run", desc := "(I)I" } : Jvm.MethodName)) ∈ gW := gW_of (List.mem_of_getElem? (i := 683) (by decide +kernel)) rfl
theorem t_684 : (Jvm.Cond.code ({ cls := "CardLink$Line", name := "run", desc := "(I)I" } : Jvm.MethodName) prog_4_method_9_code (4 : Nat) (Option.some Jvm.ClassFile.FieldType.int)) ∈ gW := gW_of (List.mem_of_getElem? (i := 684) (by decide +kernel)) rfl
theorem t_685 : (Jvm.Cond.methodLink "CardLink$Line" (121 : Nat) ({ cls := "CardLink$Line", name := "blocksSent", desc := "()I" } : Jvm.MethodName)) ∈ gW := gW_of (List.mem_of_getElem? (i := 685) (by decide +kernel)) rfl
theorem t_686 : (Jvm.Cond.instanceMethod ({ cls := "CardLink$Line", name := "blocksSent", desc := "()I" } : Jvm.MethodName)) ∈ gW := gW_of (List.mem_of_getElem? (i := 686) (by decide +kernel)) rfl
theorem t_687 : (Jvm.Cond.selects "CardLink$Line" ({ cls := "CardLink$Line", name := "blocksSent", desc := "()I" } : Jvm.MethodName) ({ cls := "CardLink$Line", name := "blocksSent", desc := "()I" } : Jvm.MethodName)) ∈ gW := gW_of (List.mem_of_getElem? (i := 687) (by decide +kernel)) rfl
theorem t_688 : (Jvm.Cond.code ({ cls := "CardLink$Line", name := "blocksSent", desc := "()I" } : Jvm.MethodName) prog_4_method_8_code (1 : Nat) (Option.some Jvm.ClassFile.FieldType.int)) ∈ gW := gW_of (List.mem_of_getElem? (i := 688) (by decide +kernel)) rfl
theorem t_689 : (Jvm.Cond.methodLink "CardLink$Line" (118 : Nat) ({ cls := "CardLink$Side", name := "blocksSent", desc := "()I" } : Jvm.MethodName)) ∈ gW := gW_of (List.mem_of_getElem? (i := 689) (by decide +kernel)) rfl
theorem t_690 : (Jvm.Cond.instanceMethod ({ cls := "CardLink$Side", name := "blocksSent", desc := "()I" } : Jvm.MethodName)) ∈ gW := gW_of (List.mem_of_getElem? (i := 690) (by decide +kernel)) rfl
theorem t_691 : (Jvm.Cond.selects "CardLink$Side" ({ cls := "CardLink$Side", name := "blocksSent", desc := "()I" } : Jvm.MethodName) ({ cls := "CardLink$Side", name := "blocksSent", desc := "()I" } : Jvm.MethodName)) ∈ gW := gW_of (List.mem_of_getElem? (i := 691) (by decide +kernel)) rfl
theorem t_692 : (Jvm.Cond.code ({ cls := "CardLink$Side", name := "blocksSent", desc := "()I" } : Jvm.MethodName) prog_7_method_19_code (1 : Nat) (Option.some Jvm.ClassFile.FieldType.int)) ∈ gW := gW_of (List.mem_of_getElem? (i := 692) (by decide +kernel)) rfl
theorem t_693 : (Jvm.Cond.methodLink "CardLink$Line" (122 : Nat) ({ cls := "CardLink$Line", name := "turn", desc := "()V" } : Jvm.MethodName)) ∈ gW := gW_of (List.mem_of_getElem? (i := 693) (by decide +kernel)) rfl
theorem t_694 : (Jvm.Cond.instanceMethod ({ cls := "CardLink$Line", name := "turn", desc := "()V" } : Jvm.MethodName)) ∈ gW := gW_of (List.mem_of_getElem? (i := 694) (by decide +kernel)) rfl
theorem t_695 : (Jvm.Cond.selects "CardLink$Line" ({ cls := "CardLink$Line", name := "turn", desc := "()V" } : Jvm.MethodName) ({ cls := "CardLink$Line", name := "turn", desc := "()V" } : Jvm.MethodName)) ∈ gW := gW_of (List.mem_of_getElem? (i := 695) (by decide +kernel)) rfl
theorem t_696 : (Jvm.Cond.code ({ cls := "CardLink$Line", name := "turn", desc := "()V" } : Jvm.MethodName) prog_4_method_10_code (2 : Nat) (Option.none : Option Jvm.ClassFile.FieldType)) ∈ gW := gW_of (List.mem_of_getElem? (i := 696) (by decide +kernel)) rfl
theorem t_697 : (Jvm.Cond.methodLink "CardLink$Line" (125 : Nat) ({ cls := "CardLink$Line", name := "firstKind", desc := "()I" } : Jvm.MethodName)) ∈ gW := gW_of (List.mem_of_getElem? (i := 697) (by decide +kernel)) rfl
theorem t_699 : (Jvm.Cond.instanceMethod ({ cls := "CardLink$Line", name := "firstKind", desc := "()I" } : Jvm.MethodName)) ∈ gW := gW_of (List.mem_of_getElem? (i := 699) (by decide +kernel)) rfl
theorem t_700 : (Jvm.Cond.code ({ cls := "CardLink$Line", name := "firstKind", desc := "()I" } : Jvm.MethodName) prog_4_method_11_code (1 : Nat) (Option.some Jvm.ClassFile.FieldType.int)) ∈ gW := gW_of (List.mem_of_getElem? (i := 700) (by decide +kernel)) rfl
theorem t_701 : (Jvm.Cond.methodLink "CardLink$Line" (145 : Nat) ({ cls := "CardLink$Side", name := "ask", desc := "(II)I" } : Jvm.MethodName)) ∈ gW := gW_of (List.mem_of_getElem? (i := 701) (by decide +kernel)) rfl
theorem t_702 : (Jvm.Cond.instanceMethod ({ cls := "CardLink$Side", name := "ask", desc := "(II)I" } : Jvm.MethodName)) ∈ gW := gW_of (List.mem_of_getElem? (i := 702) (by decide +kernel)) rfl
theorem t_703 : (Jvm.Cond.selects "CardLink$Side" ({ cls := "CardLink$Side", name := "ask", desc := "(II)I" } : Jvm.MethodName) ({ cls := "CardLink$Side", name := "ask", desc := "(II)I" } : Jvm.MethodName)) ∈ gW := gW_of (List.mem_of_getElem? (i := 703) (by decide +kernel)) rfl
theorem t_704 : (Jvm.Cond.code ({ cls := "CardLink$Side", name := "ask", desc := "(II)I" } : Jvm.MethodName) prog_7_method_16_code (3 : Nat) (Option.some Jvm.ClassFile.FieldType.int)) ∈ gW := gW_of (List.mem_of_getElem? (i := 704) (by decide +kernel)) rfl
theorem t_705 : (Jvm.Cond.methodLink "CardLink$Side" (101 : Nat) ({ cls := "CardLink$Side", name := "requestKind", desc := "()I" } : Jvm.MethodName)) ∈ gW := gW_of (List.mem_of_getElem? (i := 705) (by decide +kernel)) rfl
theorem t_706 : (Jvm.Cond.instanceMethod ({ cls := "CardLink$Side", name := "requestKind", desc := "()I" } : Jvm.MethodName)) ∈ gW := gW_of (List.mem_of_getElem? (i := 706) (by decide +kernel)) rfl
theorem t_707 : (Jvm.Cond.selects "CardLink$Side" ({ cls := "CardLink$Side", name := "requestKind", desc := "()I" } : Jvm.MethodName) ({ cls := "CardLink$Side", name := "requestKind", desc := "()I" } : Jvm.MethodName)) ∈ gW := gW_of (List.mem_of_getElem? (i := 707) (by decide +kernel)) rfl
theorem t_708 : (Jvm.Cond.code ({ cls := "CardLink$Side", name := "requestKind", desc := "()I" } : Jvm.MethodName) prog_7_method_15_code (1 : Nat) (Option.some Jvm.ClassFile.FieldType.int)) ∈ gW := gW_of (List.mem_of_getElem? (i := 708) (by decide +kernel)) rfl
theorem t_709 : (Jvm.Cond.methodLink "CardLink$Line" (128 : Nat) ({ cls := "CardLink$Line", name := "readerKind", desc := "()I" } : Jvm.MethodName)) ∈ gW := gW_of (List.mem_of_getElem? (i := 709) (by decide +kernel)) rfl
theorem t_711 : (Jvm.Cond.instanceMethod ({ cls := "CardLink$Line", name := "readerKind", desc := "()I" } : Jvm.MethodName)) ∈ gW := gW_of (List.mem_of_getElem? (i := 711) (by decide +kernel)) rfl
theorem t_712 : (Jvm.Cond.code ({ cls := "CardLink$Line", name := "readerKind", desc := "()I" } : Jvm.MethodName) prog_4_method_13_code (2 : Nat) (Option.some Jvm.ClassFile.FieldType.int)) ∈ gW := gW_of (List.mem_of_getElem? (i := 712) (by decide +kernel)) rfl
theorem t_713 : (Jvm.Cond.methodLink "CardLink$Line" (152 : Nat) ({ cls := "CardLink$Line", name := "onBroken", desc := "(LCardLink$Side;)I" } : Jvm.MethodName)) ∈ gW := gW_of (List.mem_of_getElem? (i := 713) (by decide +kernel)) rfl
theorem t_715 : (Jvm.Cond.instanceMethod ({ cls := "CardLink$Line", name := "onBroken", desc := "(LCardLink$Side;)I" } : Jvm.MethodName)) ∈ gW := gW_of (List.mem_of_getElem? (i := 715) (by decide +kernel)) rfl
theorem t_716 : (Jvm.Cond.code ({ cls := "CardLink$Line", name := "onBroken", desc := "(LCardLink$Side;)I" } : Jvm.MethodName) prog_4_method_15_code (2 : Nat) (Option.some Jvm.ClassFile.FieldType.int)) ∈ gW := gW_of (List.mem_of_getElem? (i := 716) (by decide +kernel)) rfl
theorem t_717 : (Jvm.Cond.methodLink "CardLink$Line" (188 : Nat) ({ cls := "CardLink$Side", name := "requestKind", desc := "()I" } : Jvm.MethodName)) ∈ gW := gW_of (List.mem_of_getElem? (i := 717) (by decide +kernel)) rfl
theorem t_718 : (Jvm.Cond.methodLink "CardLink$Line" (191 : Nat) ({ cls := "CardLink$Side", name := "receipt", desc := "(I)I" } : Jvm.MethodName)) ∈ gW := gW_of (List.mem_of_getElem? (i := 718) (by decide +kernel)) rfl
theorem t_719 : (Jvm.Cond.instanceMethod ({ cls := "CardLink$Side", name := "receipt", desc := "(I)I" } : Jvm.MethodName)) ∈ gW := gW_of (List.mem_of_getElem? (i := 719) (by decide +kernel)) rfl
theorem t_720 : (Jvm.Cond.selects "CardLink$Side" ({ cls := "CardLink$Side", name := "receipt", desc := "(I)I" } : Jvm.MethodName) ({ cls := "CardLink$Side", name := "receipt", desc := "(I)I" } : Jvm.MethodName)) ∈ gW := gW_of (List.mem_of_getElem? (i := 720) (by decide +kernel)) rfl
theorem t_721 : (Jvm.Cond.code ({ cls := "CardLink$Side", name := "receipt", desc := "(I)I" } : Jvm.MethodName) prog_7_method_17_code (2 : Nat) (Option.some Jvm.ClassFile.FieldType.int)) ∈ gW := gW_of (List.mem_of_getElem? (i := 721) (by decide +kernel)) rfl
theorem t_722 : (Jvm.Cond.methodLink "CardLink$Line" (156 : Nat) ({ cls := "CardLink$Row", name := "at", desc := "(I)I" } : Jvm.MethodName)) ∈ gW := gW_of (List.mem_of_getElem? (i := 722) (by decide +kernel)) rfl
theorem t_723 : (Jvm.Cond.methodLink "CardLink$Line" (159 : Nat) ({ cls := "CardLink$Line", name := "readerOnAnswer", desc := "()I" } : Jvm.MethodName)) ∈ gW := gW_of (List.mem_of_getElem? (i := 723) (by decide +kernel)) rfl
theorem t_725 : (Jvm.Cond.instanceMethod ({ cls := "CardLink$Line", name := "readerOnAnswer", desc := "()I" } : Jvm.MethodName)) ∈ gW := gW_of (List.mem_of_getElem? (i := 725) (by decide +kernel)) rfl
theorem t_726 : (Jvm.Cond.code ({ cls := "CardLink$Line", name := "readerOnAnswer", desc := "()I" } : Jvm.MethodName) prog_4_method_18_code (2 : Nat) (Option.some Jvm.ClassFile.FieldType.int)) ∈ gW := gW_of (List.mem_of_getElem? (i := 726) (by decide +kernel)) rfl
theorem t_727 : (Jvm.Cond.methodLink "CardLink$Line" (197 : Nat) ({ cls := "CardLink$Line", name := "isAnswerTo", desc := "(LCardLink$Side;)Z" } : Jvm.MethodName)) ∈ gW := gW_of (List.mem_of_getElem? (i := 727) (by decide +kernel)) rfl
theorem t_729 : (Jvm.Cond.instanceMethod ({ cls := "CardLink$Line", name := "isAnswerTo", desc := "(LCardLink$Side;)Z" } : Jvm.MethodName)) ∈ gW := gW_of (List.mem_of_getElem? (i := 729) (by decide +kernel)) rfl
theorem t_730 : (Jvm.Cond.code ({ cls := "CardLink$Line", name := "isAnswerTo", desc := "(LCardLink$Side;)Z" } : Jvm.MethodName) prog_4_method_17_code (2 : Nat) (Option.some Jvm.ClassFile.FieldType.boolean)) ∈ gW := gW_of (List.mem_of_getElem? (i := 730) (by decide +kernel)) rfl
theorem t_731 : (Jvm.Cond.methodLink "CardLink$Line" (182 : Nat) ({ cls := "CardLink$Side", name := "emptyAll", desc := "()V" } : Jvm.MethodName)) ∈ gW := gW_of (List.mem_of_getElem? (i := 731) (by decide +kernel)) rfl
theorem t_732 : (Jvm.Cond.methodLink "CardLink$Line" (173 : Nat) ({ cls := "CardLink$Line", name := "finish", desc := "(I)I" } : Jvm.MethodName)) ∈ gW := gW_of (List.mem_of_getElem? (i := 732) (by decide +kernel)) rfl
theorem t_734 : (Jvm.Cond.instanceMethod ({ cls := "CardLink$Line", name := "finish", desc := "(I)I" } : Jvm.MethodName)) ∈ gW := gW_of (List.mem_of_getElem? (i := 734) (by decide +kernel)) rfl
theorem t_735 : (Jvm.Cond.code ({ cls := "CardLink$Line", name := "finish", desc := "(I)I" } : Jvm.MethodName) prog_4_method_19_code (2 : Nat) (Option.some Jvm.ClassFile.FieldType.int)) ∈ gW := gW_of (List.mem_of_getElem? (i := 735) (by decide +kernel)) rfl
theorem t_736 : (Jvm.Cond.methodLink "CardLink$Line" (162 : Nat) ({ cls := "CardLink$Line", name := "onRequest", desc := "(LCardLink$Side;LCardLink$Side;I)I" } : Jvm.MethodName)) ∈ gW := gW_of (List.mem_of_getElem? (i := 736) (by decide +kernel)) rfl
theorem t_738 : (Jvm.Cond.instanceMethod ({ cls := "CardLink$Line", name := "onRequest", desc := "(LCardLink$Side;LCardLink$Side;I)I" } : Jvm.MethodName)) ∈ gW := gW_of (List.mem_of_getElem? (i := 738) (by decide +kernel)) rfl
theorem t_739 : (Jvm.Cond.code ({ cls := "CardLink$Line", name := "onRequest", desc := "(LCardLink$Side;LCardLink$Side;I)I" } : Jvm.MethodName) prog_4_method_23_code (5 : Nat) (Option.some Jvm.ClassFile.FieldType.int)) ∈ gW := gW_of (List.mem_of_getElem? (i := 739) (by decide +kernel)) rfl
theorem t_740 : (Jvm.Cond.methodLink "CardLink$Line" (232 : Nat) ({ cls := "CardLink$Side", name := "breakOff", desc := "()V" } : Jvm.MethodName)) ∈ gW := gW_of (List.mem_of_getElem? (i := 740) (by decide +kernel)) rfl
theorem t_741 : (Jvm.Cond.instanceMethod ({ cls := "CardLink$Side", name := "breakOff", desc := "()V" } : Jvm.MethodName)) ∈ gW := gW_of (List.mem_of_getElem? (i := 741) (by decide +kernel)) rfl
theorem t_742 : (Jvm.Cond.selects "CardLink$Side" ({ cls := "CardLink$Side", name := "breakOff", desc := "()V" } : Jvm.MethodName) ({ cls := "CardLink$Side", name := "breakOff", desc := "()V" } : Jvm.MethodName)) ∈ gW := gW_of (List.mem_of_getElem? (i := 742) (by decide +kernel)) rfl
theorem t_743 : (Jvm.Cond.code ({ cls := "CardLink$Side", name := "breakOff", desc := "()V" } : Jvm.MethodName) prog_7_method_5_code (1 : Nat) (Option.none : Option Jvm.ClassFile.FieldType)) ∈ gW := gW_of (List.mem_of_getElem? (i := 743) (by decide +kernel)) rfl
theorem t_744 : (Jvm.Cond.methodLink "CardLink$Side" (75 : Nat) ({ cls := "CardLink$Side", name := "passPending", desc := "()V" } : Jvm.MethodName)) ∈ gW := gW_of (List.mem_of_getElem? (i := 744) (by decide +kernel)) rfl
theorem t_745 : (Jvm.Cond.instanceMethod ({ cls := "CardLink$Side", name := "passPending", desc := "()V" } : Jvm.MethodName)) ∈ gW := gW_of (List.mem_of_getElem? (i := 745) (by decide +kernel)) rfl
theorem t_746 : (Jvm.Cond.selects "CardLink$Side" ({ cls := "CardLink$Side", name := "passPending", desc := "()V" } : Jvm.MethodName) ({ cls := "CardLink$Side", name := "passPending", desc := "()V" } : Jvm.MethodName)) ∈ gW := gW_of (List.mem_of_getElem? (i := 746) (by decide +kernel)) rfl
theorem t_747 : (Jvm.Cond.code ({ cls := "CardLink$Side", name := "passPending", desc := "()V" } : Jvm.MethodName) prog_7_method_11_code (1 : Nat) (Option.none : Option Jvm.ClassFile.FieldType)) ∈ gW := gW_of (List.mem_of_getElem? (i := 747) (by decide +kernel)) rfl
theorem t_748 : (Jvm.Cond.methodLink "CardLink$Line" (211 : Nat) ({ cls := "CardLink$Line", name := "refuse", desc := "(LCardLink$Side;)I" } : Jvm.MethodName)) ∈ gW := gW_of (List.mem_of_getElem? (i := 748) (by decide +kernel)) rfl
theorem t_750 : (Jvm.Cond.instanceMethod ({ cls := "CardLink$Line", name := "refuse", desc := "(LCardLink$Side;)I" } : Jvm.MethodName)) ∈ gW := gW_of (List.mem_of_getElem? (i := 750) (by decide +kernel)) rfl
theorem t_751 : (Jvm.Cond.code ({ cls := "CardLink$Line", name := "refuse", desc := "(LCardLink$Side;)I" } : Jvm.MethodName) prog_4_method_16_code (2 : Nat) (Option.some Jvm.ClassFile.FieldType.int)) ∈ gW := gW_of (List.mem_of_getElem? (i := 751) (by decide +kernel)) rfl
theorem t_752 : (Jvm.Cond.methodLink "CardLink$Line" (166 : Nat) ({ cls := "CardLink$Line", name := "onI", desc := "(LCardLink$Side;I)I" } : Jvm.MethodName)) ∈ gW := gW_of (List.mem_of_getElem? (i := 752) (by decide +kernel)) rfl
theorem t_754 : (Jvm.Cond.instanceMethod ({ cls := "CardLink$Line", name := "onI", desc := "(LCardLink$Side;I)I" } : Jvm.MethodName)) ∈ gW := gW_of (List.mem_of_getElem? (i := 754) (by decide +kernel)) rfl
theorem t_755 : (Jvm.Cond.code ({ cls := "CardLink$Line", name := "onI", desc := "(LCardLink$Side;I)I" } : Jvm.MethodName) prog_4_method_21_code (3 : Nat) (Option.some Jvm.ClassFile.FieldType.int)) ∈ gW := gW_of (List.mem_of_getElem? (i := 755) (by decide +kernel)) rfl
theorem t_756 : (Jvm.Cond.methodLink "CardLink$Line" (207 : Nat) ({ cls := "CardLink$Side", name := "pendingHasMore", desc := "()Z" } : Jvm.MethodName)) ∈ gW := gW_of (List.mem_of_getElem? (i := 756) (by decide +kernel)) rfl
theorem t_757 : (Jvm.Cond.instanceMethod ({ cls := "CardLink$Side", name := "pendingHasMore", desc := "()Z" } : Jvm.MethodName)) ∈ gW := gW_of (List.mem_of_getElem? (i := 757) (by decide +kernel)) rfl
theorem t_758 : (Jvm.Cond.selects "CardLink$Side" ({ cls := "CardLink$Side", name := "pendingHasMore", desc := "()Z" } : Jvm.MethodName) ({ cls := "CardLink$Side", name := "pendingHasMore", desc := "()Z" } : Jvm.MethodName)) ∈ gW := gW_of (List.mem_of_getElem? (i := 758) (by decide +kernel)) rfl
theorem t_759 : (Jvm.Cond.code ({ cls := "CardLink$Side", name := "pendingHasMore", desc := "()Z" } : Jvm.MethodName) prog_7_method_10_code (1 : Nat) (Option.some Jvm.ClassFile.FieldType.boolean)) ∈ gW := gW_of (List.mem_of_getElem? (i := 759) (by decide +kernel)) rfl
theorem t_760 : (Jvm.Cond.methodLink "CardLink$Line" (214 : Nat) ({ cls := "CardLink$Side", name := "passPending", desc := "()V" } : Jvm.MethodName)) ∈ gW := gW_of (List.mem_of_getElem? (i := 760) (by decide +kernel)) rfl
theorem t_761 : (Jvm.Cond.methodLink "CardLink$Line" (217 : Nat) ({ cls := "CardLink$Side", name := "takeInf", desc := "(LCardLink$Row;)V" } : Jvm.MethodName)) ∈ gW := gW_of (List.mem_of_getElem? (i := 761) (by decide +kernel)) rfl
theorem t_762 : (Jvm.Cond.instanceMethod ({ cls := "CardLink$Side", name := "takeInf", desc := "(LCardLink$Row;)V" } : Jvm.MethodName)) ∈ gW := gW_of (List.mem_of_getElem? (i := 762) (by decide +kernel)) rfl
theorem t_763 : (Jvm.Cond.selects "CardLink$Side" ({ cls := "CardLink$Side", name := "takeInf", desc := "(LCardLink$Row;)V" } : Jvm.MethodName) ({ cls := "CardLink$Side", name := "takeInf", desc := "(LCardLink$Row;)V" } : Jvm.MethodName)) ∈ gW := gW_of (List.mem_of_getElem? (i := 763) (by decide +kernel)) rfl
theorem t_764 : (Jvm.Cond.code ({ cls := "CardLink$Side", name := "takeInf", desc := "(LCardLink$Row;)V" } : Jvm.MethodName) prog_7_method_12_code (3 : Nat) (Option.none : Option Jvm.ClassFile.FieldType)) ∈ gW := gW_of (List.mem_of_getElem? (i := 764) (by decide +kernel)) rfl
theorem t_765 : (Jvm.Cond.methodLink "CardLink$Side" (78 : Nat) ({ cls := "CardLink$Row", name := "size", desc := "()I" } : Jvm.MethodName)) ∈ gW := gW_of (List.mem_of_getElem? (i := 765) (by decide +kernel)) rfl
theorem t_766 : (Jvm.Cond.methodLink "CardLink$Side" (94 : Nat) ({ cls := "CardLink$Row", name := "at", desc := "(I)I" } : Jvm.MethodName)) ∈ gW := gW_of (List.mem_of_getElem? (i := 766) (by decide +kernel)) rfl
theorem t_767 : (Jvm.Cond.methodLink "CardLink$Side" (98 : Nat) ({ cls := "CardLink$Row", name := "add", desc := "(I)V" } : Jvm.MethodName)) ∈ gW := gW_of (List.mem_of_getElem? (i := 767) (by decide +kernel)) rfl
theorem t_768 : (Jvm.Cond.methodLink "CardLink$Line" (220 : Nat) ({ cls := "CardLink$Side", name := "takeWhole", desc := "()V" } : Jvm.MethodName)) ∈ gW := gW_of (List.mem_of_getElem? (i := 768) (by decide +kernel)) rfl
theorem t_769 : (Jvm.Cond.instanceMethod ({ cls := "CardLink$Side", name := "takeWhole", desc := "()V" } : Jvm.MethodName)) ∈ gW := gW_of (List.mem_of_getElem? (i := 769) (by decide +kernel)) rfl
theorem t_770 : (Jvm.Cond.selects "CardLink$Side" ({ cls := "CardLink$Side", name := "takeWhole", desc := "()V" } : Jvm.MethodName) ({ cls := "CardLink$Side", name := "takeWhole", desc := "()V" } : Jvm.MethodName)) ∈ gW := gW_of (List.mem_of_getElem? (i := 770) (by decide +kernel)) rfl
theorem t_771 : (Jvm.Cond.code ({ cls := "CardLink$Side", name := "takeWhole", desc := "()V" } : Jvm.MethodName) prog_7_method_13_code (1 : Nat) (Option.none : Option Jvm.ClassFile.FieldType)) ∈ gW := gW_of (List.mem_of_getElem? (i := 771) (by decide +kernel)) rfl
theorem t_772 : (Jvm.Cond.methodLink "CardLink$Side" (71 : Nat) ({ cls := "CardLink$Row", name := "copy", desc := "(LCardLink$Row;)V" } : Jvm.MethodName)) ∈ gW := gW_of (List.mem_of_getElem? (i := 772) (by decide +kernel)) rfl
theorem t_773 : (Jvm.Cond.methodLink "CardLink$Line" (170 : Nat) ({ cls := "CardLink$Side", name := "takeEmpty", desc := "()V" } : Jvm.MethodName)) ∈ gW := gW_of (List.mem_of_getElem? (i := 773) (by decide +kernel)) rfl
theorem t_774 : (Jvm.Cond.instanceMethod ({ cls := "CardLink$Side", name := "takeEmpty", desc := "()V" } : Jvm.MethodName)) ∈ gW := gW_of (List.mem_of_getElem? (i := 774) (by decide +kernel)) rfl
theorem t_775 : (Jvm.Cond.selects "CardLink$Side" ({ cls := "CardLink$Side", name := "takeEmpty", desc := "()V" } : Jvm.MethodName) ({ cls := "CardLink$Side", name := "takeEmpty", desc := "()V" } : Jvm.MethodName)) ∈ gW := gW_of (List.mem_of_getElem? (i := 775) (by decide +kernel)) rfl
theorem t_776 : (Jvm.Cond.code ({ cls := "CardLink$Side", name := "takeEmpty", desc := "()V" } : Jvm.MethodName) prog_7_method_14_code (1 : Nat) (Option.none : Option Jvm.ClassFile.FieldType)) ∈ gW := gW_of (List.mem_of_getElem? (i := 776) (by decide +kernel)) rfl
theorem t_777 : (Jvm.Cond.methodLink "CardLink$Line" (176 : Nat) ({ cls := "CardLink$Line", name := "onReceipt", desc := "(LCardLink$Side;I)I" } : Jvm.MethodName)) ∈ gW := gW_of (List.mem_of_getElem? (i := 777) (by decide +kernel)) rfl
theorem t_779 : (Jvm.Cond.instanceMethod ({ cls := "CardLink$Line", name := "onReceipt", desc := "(LCardLink$Side;I)I" } : Jvm.MethodName)) ∈ gW := gW_of (List.mem_of_getElem? (i := 779) (by decide +kernel)) rfl
theorem t_780 : (Jvm.Cond.code ({ cls := "CardLink$Line", name := "onReceipt", desc := "(LCardLink$Side;I)I" } : Jvm.MethodName) prog_4_method_22_code (4 : Nat) (Option.some Jvm.ClassFile.FieldType.int)) ∈ gW := gW_of (List.mem_of_getElem? (i := 780) (by decide +kernel)) rfl
theorem t_781 : (Jvm.Cond.methodLink "CardLink$Line" (223 : Nat) ({ cls := "CardLink$Side", name := "hasPending", desc := "()Z" } : Jvm.MethodName)) ∈ gW := gW_of (List.mem_of_getElem? (i := 781) (by decide +kernel)) rfl
theorem t_782 : (Jvm.Cond.instanceMethod ({ cls := "CardLink$Side", name := "hasPending", desc := "()Z" } : Jvm.MethodName)) ∈ gW := gW_of (List.mem_of_getElem? (i := 782) (by decide +kernel)) rfl
theorem t_783 : (Jvm.Cond.selects "CardLink$Side" ({ cls := "CardLink$Side", name := "hasPending", desc := "()Z" } : Jvm.MethodName) ({ cls := "CardLink$Side", name := "hasPending", desc := "()Z" } : Jvm.MethodName)) ∈ gW := gW_of (List.mem_of_getElem? (i := 783) (by decide +kernel)) rfl
theorem t_784 : (Jvm.Cond.code ({ cls := "CardLink$Side", name := "hasPending", desc := "()Z" } : Jvm.MethodName) prog_7_method_9_code (1 : Nat) (Option.some Jvm.ClassFile.FieldType.boolean)) ∈ gW := gW_of (List.mem_of_getElem? (i := 784) (by decide +kernel)) rfl
theorem t_785 : (Jvm.Cond.methodLink "CardLink$Line" (229 : Nat) ({ cls := "CardLink$Side", name := "pendingKind", desc := "()I" } : Jvm.MethodName)) ∈ gW := gW_of (List.mem_of_getElem? (i := 785) (by decide +kernel)) rfl
theorem t_786 : (Jvm.Cond.instanceMethod ({ cls := "CardLink$Side", name := "pendingKind", desc := "()I" } : Jvm.MethodName)) ∈ gW := gW_of (List.mem_of_getElem? (i := 786) (by decide +kernel)) rfl
theorem t_787 : (Jvm.Cond.selects "CardLink$Side" ({ cls := "CardLink$Side", name := "pendingKind", desc := "()I" } : Jvm.MethodName) ({ cls := "CardLink$Side", name := "pendingKind", desc := "()I" } : Jvm.MethodName)) ∈ gW := gW_of (List.mem_of_getElem? (i := 787) (by decide +kernel)) rfl
theorem t_788 : (Jvm.Cond.code ({ cls := "CardLink$Side", name := "pendingKind", desc := "()I" } : Jvm.MethodName) prog_7_method_7_code (1 : Nat) (Option.some Jvm.ClassFile.FieldType.int)) ∈ gW := gW_of (List.mem_of_getElem? (i := 788) (by decide +kernel)) rfl
theorem t_789 : (Jvm.Cond.methodLink "CardLink$Line" (131 : Nat) ({ cls := "CardLink$Line", name := "countTries", desc := "(I)I" } : Jvm.MethodName)) ∈ gW := gW_of (List.mem_of_getElem? (i := 789) (by decide +kernel)) rfl
theorem t_791 : (Jvm.Cond.instanceMethod ({ cls := "CardLink$Line", name := "countTries", desc := "(I)I" } : Jvm.MethodName)) ∈ gW := gW_of (List.mem_of_getElem? (i := 791) (by decide +kernel)) rfl
theorem t_792 : (Jvm.Cond.code ({ cls := "CardLink$Line", name := "countTries", desc := "(I)I" } : Jvm.MethodName) prog_4_method_12_code (2 : Nat) (Option.some Jvm.ClassFile.FieldType.int)) ∈ gW := gW_of (List.mem_of_getElem? (i := 792) (by decide +kernel)) rfl
theorem t_793 : (Jvm.Cond.methodLink "CardLink$Line" (135 : Nat) ({ cls := "CardLink$Line", name := "send", desc := "(LCardLink$Side;LCardLink$Side;I)V" } : Jvm.MethodName)) ∈ gW := gW_of (List.mem_of_getElem? (i := 793) (by decide +kernel)) rfl
theorem t_795 : (Jvm.Cond.instanceMethod ({ cls := "CardLink$Line", name := "send", desc := "(LCardLink$Side;LCardLink$Side;I)V" } : Jvm.MethodName)) ∈ gW := gW_of (List.mem_of_getElem? (i := 795) (by decide +kernel)) rfl
theorem t_796 : (Jvm.Cond.code ({ cls := "CardLink$Line", name := "send", desc := "(LCardLink$Side;LCardLink$Side;I)V" } : Jvm.MethodName) prog_4_method_29_code (7 : Nat) (Option.none : Option Jvm.ClassFile.FieldType)) ∈ gW := gW_of (List.mem_of_getElem? (i := 796) (by decide +kernel)) rfl
theorem t_797 : (Jvm.Cond.methodLink "CardLink$Line" (247 : Nat) ({ cls := "CardLink$Line", name := "kindToSend", desc := "(LCardLink$Side;LCardLink$Side;I)I" } : Jvm.MethodName)) ∈ gW := gW_of (List.mem_of_getElem? (i := 797) (by decide +kernel)) rfl
theorem t_798 : (Jvm.Cond.static ({ cls := "CardLink$Line", name := "kindToSend", desc := "(LCardLink$Side;LCardLink$Side;I)I" } : Jvm.MethodName)) ∈ gW := gW_of (List.mem_of_getElem? (i := 798) (by decide +kernel)) rfl
theorem t_799 : (Jvm.Cond.code ({ cls := "CardLink$Line", name := "kindToSend", desc := "(LCardLink$Side;LCardLink$Side;I)I" } : Jvm.MethodName) prog_4_method_28_code (3 : Nat) (Option.some Jvm.ClassFile.FieldType.int)) ∈ gW := gW_of (List.mem_of_getElem? (i := 799) (by decide +kernel)) rfl
theorem t_800 : (Jvm.Cond.methodLink "CardLink$Line" (244 : Nat) ({ cls := "CardLink$Side", name := "cutNext", desc := "(I)I" } : Jvm.MethodName)) ∈ gW := gW_of (List.mem_of_getElem? (i := 800) (by decide +kernel)) rfl
theorem t_801 : (Jvm.Cond.instanceMethod ({ cls := "CardLink$Side", name := "cutNext", desc := "(I)I" } : Jvm.MethodName)) ∈ gW := gW_of (List.mem_of_getElem? (i := 801) (by decide +kernel)) rfl
theorem t_802 : (Jvm.Cond.selects "CardLink$Side" ({ cls := "CardLink$Side", name := "cutNext", desc := "(I)I" } : Jvm.MethodName) ({ cls := "CardLink$Side", name := "cutNext", desc := "(I)I" } : Jvm.MethodName)) ∈ gW := gW_of (List.mem_of_getElem? (i := 802) (by decide +kernel)) rfl
theorem t_803 : (Jvm.Cond.code ({ cls := "CardLink$Side", name := "cutNext", desc := "(I)I" } : Jvm.MethodName) prog_7_method_6_code (3 : Nat) (Option.some Jvm.ClassFile.FieldType.int)) ∈ gW := gW_of (List.mem_of_getElem? (i := 803) (by decide +kernel)) rfl
theorem t_804 : (Jvm.Cond.methodLink "CardLink$Side" (82 : Nat) ({ cls := "java/lang/Math", name := "max", desc := "(II)I" } : Jvm.MethodName)) ∈ gW := gW_of (List.mem_of_getElem? (i := 804) (by decide +kernel)) rfl
theorem t_805 : (Jvm.Cond.methodLink "CardLink$Side" (88 : Nat) ({ cls := "java/lang/Math", name := "min", desc := "(II)I" } : Jvm.MethodName)) ∈ gW := gW_of (List.mem_of_getElem? (i := 805) (by decide +kernel)) rfl
theorem t_806 : (Jvm.Cond.methodLink "CardLink$Side" (91 : Nat) ({ cls := "CardLink$Side", name := "pendingKind", desc := "()I" } : Jvm.MethodName)) ∈ gW := gW_of (List.mem_of_getElem? (i := 806) (by decide +kernel)) rfl
theorem t_807 : (Jvm.Cond.methodLink "CardLink$Line" (250 : Nat) ({ cls := "CardLink$Line", name := "compose", desc := "(LCardLink$Side;I)V" } : Jvm.MethodName)) ∈ gW := gW_of (List.mem_of_getElem? (i := 807) (by decide +kernel)) rfl
theorem t_809 : (Jvm.Cond.instanceMethod ({ cls := "CardLink$Line", name := "compose", desc := "(LCardLink$Side;I)V" } : Jvm.MethodName)) ∈ gW := gW_of (List.mem_of_getElem? (i := 809) (by decide +kernel)) rfl
theorem t_810 : (Jvm.Cond.code ({ cls := "CardLink$Line", name := "compose", desc := "(LCardLink$Side;I)V" } : Jvm.MethodName) prog_4_method_30_code (5 : Nat) (Option.none : Option Jvm.ClassFile.FieldType)) ∈ gW := gW_of (List.mem_of_getElem? (i := 810) (by decide +kernel)) rfl
theorem t_811 : (Jvm.Cond.methodLink "CardLink$Line" (241 : Nat) ({ cls := "CardLink$Row", name := "add", desc := "(I)V" } : Jvm.MethodName)) ∈ gW := gW_of (List.mem_of_getElem? (i := 811) (by decide +kernel)) rfl
theorem t_812 : (Jvm.Cond.methodLink "CardLink$Line" (280 : Nat) ({ cls := "CardLink$Side", name := "pendingSize", desc := "()I" } : Jvm.MethodName)) ∈ gW := gW_of (List.mem_of_getElem? (i := 812) (by decide +kernel)) rfl
theorem t_813 : (Jvm.Cond.instanceMethod ({ cls := "CardLink$Side", name := "pendingSize", desc := "()I" } : Jvm.MethodName)) ∈ gW := gW_of (List.mem_of_getElem? (i := 813) (by decide +kernel)) rfl
theorem t_814 : (Jvm.Cond.selects "CardLink$Side" ({ cls := "CardLink$Side", name := "pendingSize", desc := "()I" } : Jvm.MethodName) ({ cls := "CardLink$Side", name := "pendingSize", desc := "()I" } : Jvm.MethodName)) ∈ gW := gW_of (List.mem_of_getElem? (i := 814) (by decide +kernel)) rfl
theorem t_815 : (Jvm.Cond.code ({ cls := "CardLink$Side", name := "pendingSize", desc := "()I" } : Jvm.MethodName) prog_7_method_8_code (1 : Nat) (Option.some Jvm.ClassFile.FieldType.int)) ∈ gW := gW_of (List.mem_of_getElem? (i := 815) (by decide +kernel)) rfl
theorem t_816 : (Jvm.Cond.methodLink "CardLink$Line" (283 : Nat) ({ cls := "CardLink$Line", name := "hasInf", desc := "(I)Z" } : Jvm.MethodName)) ∈ gW := gW_of (List.mem_of_getElem? (i := 816) (by decide +kernel)) rfl
theorem t_817 : (Jvm.Cond.static ({ cls := "CardLink$Line", name := "hasInf", desc := "(I)Z" } : Jvm.MethodName)) ∈ gW := gW_of (List.mem_of_getElem? (i := 817) (by decide +kernel)) rfl
theorem t_818 : (Jvm.Cond.code ({ cls := "CardLink$Line", name := "hasInf", desc := "(I)Z" } : Jvm.MethodName) prog_4_method_31_code (1 : Nat) (Option.some Jvm.ClassFile.FieldType.boolean)) ∈ gW := gW_of (List.mem_of_getElem? (i := 818) (by decide +kernel)) rfl
theorem t_819 : (Jvm.Cond.methodLink "CardLink$Line" (287 : Nat) ({ cls := "CardLink$Row", name := "xor", desc := "(I)I" } : Jvm.MethodName)) ∈ gW := gW_of (List.mem_of_getElem? (i := 819) (by decide +kernel)) rfl
theorem t_820 : (Jvm.Cond.instanceMethod ({ cls := "CardLink$Row", name := "xor", desc := "(I)I" } : Jvm.MethodName)) ∈ gW := gW_of (List.mem_of_getElem? (i := 820) (by decide +kernel)) rfl
theorem t_821 : (Jvm.Cond.selects "CardLink$Row" ({ cls := "CardLink$Row", name := "xor", desc := "(I)I" } : Jvm.MethodName) ({ cls := "CardLink$Row", name := "xor", desc := "(I)I" } : Jvm.MethodName)) ∈ gW := gW_of (List.mem_of_getElem? (i := 821) (by decide +kernel)) rfl
theorem t_822 : (Jvm.Cond.code ({ cls := "CardLink$Row", name := "xor", desc := "(I)I" } : Jvm.MethodName) prog_6_method_9_code (4 : Nat) (Option.some Jvm.ClassFile.FieldType.int)) ∈ gW := gW_of (List.mem_of_getElem? (i := 822) (by decide +kernel)) rfl
theorem t_823 : (Jvm.Cond.methodLink "CardLink$Row" (41 : Nat) ({ cls := "CardLink$Row", name := "at", desc := "(I)I" } : Jvm.MethodName)) ∈ gW := gW_of (List.mem_of_getElem? (i := 823) (by decide +kernel)) rfl
theorem t_824 : (Jvm.Cond.methodLink "CardLink$Line" (254 : Nat) ({ cls := "CardLink$Side", name := "noteSent", desc := "(I)V" } : Jvm.MethodName)) ∈ gW := gW_of (List.mem_of_getElem? (i := 824) (by decide +kernel)) rfl
theorem t_825 : (Jvm.Cond.instanceMethod ({ cls := "CardLink$Side", name := "noteSent", desc := "(I)V" } : Jvm.MethodName)) ∈ gW := gW_of (List.mem_of_getElem? (i := 825) (by decide +kernel)) rfl
theorem t_826 : (Jvm.Cond.selects "CardLink$Side" ({ cls := "CardLink$Side", name := "noteSent", desc := "(I)V" } : Jvm.MethodName) ({ cls := "CardLink$Side", name := "noteSent", desc := "(I)V" } : Jvm.MethodName)) ∈ gW := gW_of (List.mem_of_getElem? (i := 826) (by decide +kernel)) rfl
theorem t_827 : (Jvm.Cond.code ({ cls := "CardLink$Side", name := "noteSent", desc := "(I)V" } : Jvm.MethodName) prog_7_method_18_code (2 : Nat) (Option.none : Option Jvm.ClassFile.FieldType)) ∈ gW := gW_of (List.mem_of_getElem? (i := 827) (by decide +kernel)) rfl
theorem t_828 : (Jvm.Cond.methodLink "CardLink$Line" (260 : Nat) ({ cls := "CardLink$Wire", name := "carry", desc := "(LCardLink$Row;LCardLink$Row;)I" } : Jvm.MethodName)) ∈ gW := gW_of (List.mem_of_getElem? (i := 828) (by decide +kernel)) rfl
theorem t_829 : (Jvm.Cond.instanceMethod ({ cls := "CardLink$Wire", name := "carry", desc := "(LCardLink$Row;LCardLink$Row;)I" } : Jvm.MethodName)) ∈ gW := gW_of (List.mem_of_getElem? (i := 829) (by decide +kernel)) rfl
theorem t_830 : (Jvm.Cond.selects "CardLink$Wire" ({ cls := "CardLink$Wire", name := "carry", desc := "(LCardLink$Row;LCardLink$Row;)I" } : Jvm.MethodName) ({ cls := "CardLink$Wire", name := "carry", desc := "(LCardLink$Row;LCardLink$Row;)I" } : Jvm.MethodName)) ∈ gW := gW_of (List.mem_of_getElem? (i := 830) (by decide +kernel)) rfl
theorem t_831 : (Jvm.Cond.code ({ cls := "CardLink$Wire", name := "carry", desc := "(LCardLink$Row;LCardLink$Row;)I" } : Jvm.MethodName) prog_8_method_11_code (7 : Nat) (Option.some Jvm.ClassFile.FieldType.int)) ∈ gW := gW_of (List.mem_of_getElem? (i := 831) (by decide +kernel)) rfl
theorem t_832 : (Jvm.Cond.methodLink "CardLink$Wire" (56 : Nat) ({ cls := "CardLink$Row", name := "keep", desc := "(I)V" } : Jvm.MethodName)) ∈ gW := gW_of (List.mem_of_getElem? (i := 832) (by decide +kernel)) rfl
theorem t_833 : (Jvm.Cond.methodLink "CardLink$Wire" (61 : Nat) ({ cls := "CardLink$Row", name := "size", desc := "()I" } : Jvm.MethodName)) ∈ gW := gW_of (List.mem_of_getElem? (i := 833) (by decide +kernel)) rfl
theorem t_834 : (Jvm.Cond.methodLink "CardLink$Wire" (65 : Nat) ({ cls := "CardLink$Wire", name := "sendLetter", desc := "()I" } : Jvm.MethodName)) ∈ gW := gW_of (List.mem_of_getElem? (i := 834) (by decide +kernel)) rfl
theorem t_836 : (Jvm.Cond.instanceMethod ({ cls := "CardLink$Wire", name := "sendLetter", desc := "()I" } : Jvm.MethodName)) ∈ gW := gW_of (List.mem_of_getElem? (i := 836) (by decide +kernel)) rfl
theorem t_837 : (Jvm.Cond.code ({ cls := "CardLink$Wire", name := "sendLetter", desc := "()I" } : Jvm.MethodName) prog_8_method_10_code (2 : Nat) (Option.some Jvm.ClassFile.FieldType.int)) ∈ gW := gW_of (List.mem_of_getElem? (i := 837) (by decide +kernel)) rfl
theorem t_838 : (Jvm.Cond.methodLink "CardLink$Wire" (53 : Nat) ({ cls := "CardLink$Wire", name := "dropNearest", desc := "()V" } : Jvm.MethodName)) ∈ gW := gW_of (List.mem_of_getElem? (i := 838) (by decide +kernel)) rfl
theorem t_840 : (Jvm.Cond.instanceMethod ({ cls := "CardLink$Wire", name := "dropNearest", desc := "()V" } : Jvm.MethodName)) ∈ gW := gW_of (List.mem_of_getElem? (i := 840) (by decide +kernel)) rfl
theorem t_841 : (Jvm.Cond.code ({ cls := "CardLink$Wire", name := "dropNearest", desc := "()V" } : Jvm.MethodName) prog_8_method_9_code (2 : Nat) (Option.none : Option Jvm.ClassFile.FieldType)) ∈ gW := gW_of (List.mem_of_getElem? (i := 841) (by decide +kernel)) rfl
theorem t_842 : (Jvm.Cond.methodLink "CardLink$Wire" (68 : Nat) ({ cls := "CardLink$Row", name := "at", desc := "(I)I" } : Jvm.MethodName)) ∈ gW := gW_of (List.mem_of_getElem? (i := 842) (by decide +kernel)) rfl
theorem t_843 : (Jvm.Cond.methodLink "CardLink$Wire" (72 : Nat) ({ cls := "CardLink$Row", name := "add", desc := "(I)V" } : Jvm.MethodName)) ∈ gW := gW_of (List.mem_of_getElem? (i := 843) (by decide +kernel)) rfl
theorem t_844 : (Jvm.Cond.methodLink "CardLink$Line" (264 : Nat) ({ cls := "CardLink$Line", name := "judge", desc := "(II)I" } : Jvm.MethodName)) ∈ gW := gW_of (List.mem_of_getElem? (i := 844) (by decide +kernel)) rfl
theorem t_846 : (Jvm.Cond.instanceMethod ({ cls := "CardLink$Line", name := "judge", desc := "(II)I" } : Jvm.MethodName)) ∈ gW := gW_of (List.mem_of_getElem? (i := 846) (by decide +kernel)) rfl
theorem t_847 : (Jvm.Cond.code ({ cls := "CardLink$Line", name := "judge", desc := "(II)I" } : Jvm.MethodName) prog_4_method_32_code (3 : Nat) (Option.some Jvm.ClassFile.FieldType.int)) ∈ gW := gW_of (List.mem_of_getElem? (i := 847) (by decide +kernel)) rfl
theorem t_848 : (Jvm.Cond.methodLink "CardLink$Line" (290 : Nat) ({ cls := "CardLink$Line", name := "isWellFormed", desc := "(III)Z" } : Jvm.MethodName)) ∈ gW := gW_of (List.mem_of_getElem? (i := 848) (by decide +kernel)) rfl
theorem t_850 : (Jvm.Cond.instanceMethod ({ cls := "CardLink$Line", name := "isWellFormed", desc := "(III)Z" } : Jvm.MethodName)) ∈ gW := gW_of (List.mem_of_getElem? (i := 850) (by decide +kernel)) rfl
theorem t_851 : (Jvm.Cond.code ({ cls := "CardLink$Line", name := "isWellFormed", desc := "(III)Z" } : Jvm.MethodName) prog_4_method_33_code (4 : Nat) (Option.some Jvm.ClassFile.FieldType.boolean)) ∈ gW := gW_of (List.mem_of_getElem? (i := 851) (by decide +kernel)) rfl
theorem t_852 : (Jvm.Cond.methodLink "CardLink$Line" (270 : Nat) ({ cls := "CardLink$Journal", name := "idOf", desc := "(ILCardLink$Row;)I" } : Jvm.MethodName)) ∈ gW := gW_of (List.mem_of_getElem? (i := 852) (by decide +kernel)) rfl
theorem t_853 : (Jvm.Cond.instanceMethod ({ cls := "CardLink$Journal", name := "idOf", desc := "(ILCardLink$Row;)I" } : Jvm.MethodName)) ∈ gW := gW_of (List.mem_of_getElem? (i := 853) (by decide +kernel)) rfl
theorem t_854 : (Jvm.Cond.selects "CardLink$Journal" ({ cls := "CardLink$Journal", name := "idOf", desc := "(ILCardLink$Row;)I" } : Jvm.MethodName) ({ cls := "CardLink$Journal", name := "idOf", desc := "(ILCardLink$Row;)I" } : Jvm.MethodName)) ∈ gW := gW_of (List.mem_of_getElem? (i := 854) (by decide +kernel)) rfl
theorem t_855 : (Jvm.Cond.code ({ cls := "CardLink$Journal", name := "idOf", desc := "(ILCardLink$Row;)I" } : Jvm.MethodName) prog_3_method_6_code (6 : Nat) (Option.some Jvm.ClassFile.FieldType.int)) ∈ gW := gW_of (List.mem_of_getElem? (i := 855) (by decide +kernel)) rfl
theorem t_856 : (Jvm.Cond.methodLink "CardLink$Journal" (51 : Nat) ({ cls := "CardLink$Row", name := "size", desc := "()I" } : Jvm.MethodName)) ∈ gW := gW_of (List.mem_of_getElem? (i := 856) (by decide +kernel)) rfl
theorem t_857 : (Jvm.Cond.methodLink "CardLink$Journal" (62 : Nat) ({ cls := "CardLink$Row", name := "add", desc := "(I)V" } : Jvm.MethodName)) ∈ gW := gW_of (List.mem_of_getElem? (i := 857) (by decide +kernel)) rfl
theorem t_858 : (Jvm.Cond.methodLink "CardLink$Journal" (65 : Nat) ({ cls := "CardLink$Journal", name := "chainOf", desc := "(ILCardLink$Row;)I" } : Jvm.MethodName)) ∈ gW := gW_of (List.mem_of_getElem? (i := 858) (by decide +kernel)) rfl
theorem t_859 : (Jvm.Cond.static ({ cls := "CardLink$Journal", name := "chainOf", desc := "(ILCardLink$Row;)I" } : Jvm.MethodName)) ∈ gW := gW_of (List.mem_of_getElem? (i := 859) (by decide +kernel)) rfl
theorem t_860 : (Jvm.Cond.code ({ cls := "CardLink$Journal", name := "chainOf", desc := "(ILCardLink$Row;)I" } : Jvm.MethodName) prog_3_method_7_code (4 : Nat) (Option.some Jvm.ClassFile.FieldType.int)) ∈ gW := gW_of (List.mem_of_getElem? (i := 860) (by decide +kernel)) rfl
theorem t_861 : (Jvm.Cond.methodLink "CardLink$Journal" (55 : Nat) ({ cls := "CardLink$Row", name := "at", desc := "(I)I" } : Jvm.MethodName)) ∈ gW := gW_of (List.mem_of_getElem? (i := 861) (by decide +kernel)) rfl
theorem t_862 : (Jvm.Cond.methodLink "CardLink$Journal" (69 : Nat) ({ cls := "CardLink$Journal", name := "isBlock", desc := "(IILCardLink$Row;)Z" } : Jvm.MethodName)) ∈ gW := gW_of (List.mem_of_getElem? (i := 862) (by decide +kernel)) rfl
theorem t_864 : (Jvm.Cond.instanceMethod ({ cls := "CardLink$Journal", name := "isBlock", desc := "(IILCardLink$Row;)Z" } : Jvm.MethodName)) ∈ gW := gW_of (List.mem_of_getElem? (i := 864) (by decide +kernel)) rfl
theorem t_865 : (Jvm.Cond.code ({ cls := "CardLink$Journal", name := "isBlock", desc := "(IILCardLink$Row;)Z" } : Jvm.MethodName) prog_3_method_8_code (6 : Nat) (Option.some Jvm.ClassFile.FieldType.boolean)) ∈ gW := gW_of (List.mem_of_getElem? (i := 865) (by decide +kernel)) rfl
theorem t_866 : (Jvm.Cond.methodLink "CardLink$Journal" (73 : Nat) ({ cls := "CardLink$Journal", name := "addUnlike", desc := "(ILCardLink$Row;I)I" } : Jvm.MethodName)) ∈ gW := gW_of (List.mem_of_getElem? (i := 866) (by decide +kernel)) rfl
theorem t_868 : (Jvm.Cond.instanceMethod ({ cls := "CardLink$Journal", name := "addUnlike", desc := "(ILCardLink$Row;I)I" } : Jvm.MethodName)) ∈ gW := gW_of (List.mem_of_getElem? (i := 868) (by decide +kernel)) rfl
theorem t_869 : (Jvm.Cond.code ({ cls := "CardLink$Journal", name := "addUnlike", desc := "(ILCardLink$Row;I)I" } : Jvm.MethodName) prog_3_method_9_code (6 : Nat) (Option.some Jvm.ClassFile.FieldType.int)) ∈ gW := gW_of (List.mem_of_getElem? (i := 869) (by decide +kernel)) rfl
theorem t_870 : (Jvm.Cond.methodLink "CardLink$Journal" (59 : Nat) ({ cls := "CardLink$Row", name := "put", desc := "(II)V" } : Jvm.MethodName)) ∈ gW := gW_of (List.mem_of_getElem? (i := 870) (by decide +kernel)) rfl
theorem t_871 : (Jvm.Cond.instanceMethod ({ cls := "CardLink$Row", name := "put", desc := "(II)V" } : Jvm.MethodName)) ∈ gW := gW_of (List.mem_of_getElem? (i := 871) (by decide +kernel)) rfl
theorem t_872 : (Jvm.Cond.selects "CardLink$Row" ({ cls := "CardLink$Row", name := "put", desc := "(II)V" } : Jvm.MethodName) ({ cls := "CardLink$Row", name := "put", desc := "(II)V" } : Jvm.MethodName)) ∈ gW := gW_of (List.mem_of_getElem? (i := 872) (by decide +kernel)) rfl
theorem t_873 : (Jvm.Cond.code ({ cls := "CardLink$Row", name := "put", desc := "(II)V" } : Jvm.MethodName) prog_6_method_4_code (3 : Nat) (Option.none : Option Jvm.ClassFile.FieldType)) ∈ gW := gW_of (List.mem_of_getElem? (i := 873) (by decide +kernel)) rfl
theorem t_874 : (Jvm.Cond.methodLink "CardLink$Line" (276 : Nat) ({ cls := "CardLink$Journal", name := "note", desc := "(III)V" } : Jvm.MethodName)) ∈ gW := gW_of (List.mem_of_getElem? (i := 874) (by decide +kernel)) rfl
theorem t_875 : (Jvm.Cond.instanceMethod ({ cls := "CardLink$Journal", name := "note", desc := "(III)V" } : Jvm.MethodName)) ∈ gW := gW_of (List.mem_of_getElem? (i := 875) (by decide +kernel)) rfl
theorem t_876 : (Jvm.Cond.selects "CardLink$Journal" ({ cls := "CardLink$Journal", name := "note", desc := "(III)V" } : Jvm.MethodName) ({ cls := "CardLink$Journal", name := "note", desc := "(III)V" } : Jvm.MethodName)) ∈ gW := gW_of (List.mem_of_getElem? (i := 876) (by decide +kernel)) rfl
theorem t_877 : (Jvm.Cond.code ({ cls := "CardLink$Journal", name := "note", desc := "(III)V" } : Jvm.MethodName) prog_3_method_5_code (4 : Nat) (Option.none : Option Jvm.ClassFile.FieldType)) ∈ gW := gW_of (List.mem_of_getElem? (i := 877) (by decide +kernel)) rfl
theorem t_878 : (Jvm.Cond.methodLink "CardLink$Line" (139 : Nat) ({ cls := "CardLink$Line", name := "cardKind", desc := "()I" } : Jvm.MethodName)) ∈ gW := gW_of (List.mem_of_getElem? (i := 878) (by decide +kernel)) rfl
theorem t_880 : (Jvm.Cond.instanceMethod ({ cls := "CardLink$Line", name := "cardKind", desc := "()I" } : Jvm.MethodName)) ∈ gW := gW_of (List.mem_of_getElem? (i := 880) (by decide +kernel)) rfl
theorem t_881 : (Jvm.Cond.code ({ cls := "CardLink$Line", name := "cardKind", desc := "()I" } : Jvm.MethodName) prog_4_method_14_code (2 : Nat) (Option.some Jvm.ClassFile.FieldType.int)) ∈ gW := gW_of (List.mem_of_getElem? (i := 881) (by decide +kernel)) rfl
theorem t_882 : (Jvm.Cond.methodLink "CardLink$Line" (179 : Nat) ({ cls := "CardLink$Line", name := "putFirstByte", desc := "()I" } : Jvm.MethodName)) ∈ gW := gW_of (List.mem_of_getElem? (i := 882) (by decide +kernel)) rfl
theorem t_884 : (Jvm.Cond.instanceMethod ({ cls := "CardLink$Line", name := "putFirstByte", desc := "()I" } : Jvm.MethodName)) ∈ gW := gW_of (List.mem_of_getElem? (i := 884) (by decide +kernel)) rfl
theorem t_885 : (Jvm.Cond.code ({ cls := "CardLink$Line", name := "putFirstByte", desc := "()I" } : Jvm.MethodName) prog_4_method_27_code (1 : Nat) (Option.some Jvm.ClassFile.FieldType.int)) ∈ gW := gW_of (List.mem_of_getElem? (i := 885) (by decide +kernel)) rfl
theorem t_886 : (Jvm.Cond.methodLink "CardLink$Line" (185 : Nat) ({ cls := "CardLink$Line", name := "cardOnAnswer", desc := "()I" } : Jvm.MethodName)) ∈ gW := gW_of (List.mem_of_getElem? (i := 886) (by decide +kernel)) rfl
theorem t_888 : (Jvm.Cond.instanceMethod ({ cls := "CardLink$Line", name := "cardOnAnswer", desc := "()I" } : Jvm.MethodName)) ∈ gW := gW_of (List.mem_of_getElem? (i := 888) (by decide +kernel)) rfl
theorem t_889 : (Jvm.Cond.code ({ cls := "CardLink$Line", name := "cardOnAnswer", desc := "()I" } : Jvm.MethodName) prog_4_method_20_code (2 : Nat) (Option.some Jvm.ClassFile.FieldType.int)) ∈ gW := gW_of (List.mem_of_getElem? (i := 889) (by decide +kernel)) rfl
theorem t_890 : (Jvm.Cond.methodLink "CardLink$Line" (201 : Nat) ({ cls := "CardLink$Line", name := "putBehindThird", desc := "()I" } : Jvm.MethodName)) ∈ gW := gW_of (List.mem_of_getElem? (i := 890) (by decide +kernel)) rfl
theorem t_892 : (Jvm.Cond.instanceMethod ({ cls := "CardLink$Line", name := "putBehindThird", desc := "()I" } : Jvm.MethodName)) ∈ gW := gW_of (List.mem_of_getElem? (i := 892) (by decide +kernel)) rfl
theorem t_893 : (Jvm.Cond.code ({ cls := "CardLink$Line", name := "putBehindThird", desc := "()I" } : Jvm.MethodName) prog_4_method_26_code (2 : Nat) (Option.some Jvm.ClassFile.FieldType.int)) ∈ gW := gW_of (List.mem_of_getElem? (i := 893) (by decide +kernel)) rfl
theorem t_894 : (Jvm.Cond.methodLink "CardLink$Line" (142 : Nat) ({ cls := "CardLink$Line", name := "doMessage", desc := "()I" } : Jvm.MethodName)) ∈ gW := gW_of (List.mem_of_getElem? (i := 894) (by decide +kernel)) rfl
theorem t_896 : (Jvm.Cond.instanceMethod ({ cls := "CardLink$Line", name := "doMessage", desc := "()I" } : Jvm.MethodName)) ∈ gW := gW_of (List.mem_of_getElem? (i := 896) (by decide +kernel)) rfl
theorem t_897 : (Jvm.Cond.code ({ cls := "CardLink$Line", name := "doMessage", desc := "()I" } : Jvm.MethodName) prog_4_method_24_code (3 : Nat) (Option.some Jvm.ClassFile.FieldType.int)) ∈ gW := gW_of (List.mem_of_getElem? (i := 897) (by decide +kernel)) rfl
theorem t_898 : (Jvm.Cond.methodLink "CardLink$Line" (238 : Nat) ({ cls := "CardLink$Line", name := "putCounting", desc := "(I)I" } : Jvm.MethodName)) ∈ gW := gW_of (List.mem_of_getElem? (i := 898) (by decide +kernel)) rfl
theorem t_900 : (Jvm.Cond.instanceMethod ({ cls := "CardLink$Line", name := "putCounting", desc := "(I)I" } : Jvm.MethodName)) ∈ gW := gW_of (List.mem_of_getElem? (i := 900) (by decide +kernel)) rfl
theorem t_901 : (Jvm.Cond.code ({ cls := "CardLink$Line", name := "putCounting", desc := "(I)I" } : Jvm.MethodName) prog_4_method_25_code (3 : Nat) (Option.some Jvm.ClassFile.FieldType.int)) ∈ gW := gW_of (List.mem_of_getElem? (i := 901) (by decide +kernel)) rfl
theorem t_902 : (Jvm.Cond.methodLink "CardLinkLaw" (65 : Nat) ({ cls := "CardLink", name := "state", desc := "()I" } : Jvm.MethodName)) ∈ gW := gW_of (List.mem_of_getElem? (i := 902) (by decide +kernel)) rfl
theorem t_903 : (Jvm.Cond.instanceMethod ({ cls := "CardLink", name := "state", desc := "()I" } : Jvm.MethodName)) ∈ gW := gW_of (List.mem_of_getElem? (i := 903) (by decide +kernel)) rfl
theorem t_904 : (Jvm.Cond.selects "CardLink" ({ cls := "CardLink", name := "state", desc := "()I" } : Jvm.MethodName) ({ cls := "CardLink", name := "state", desc := "()I" } : Jvm.MethodName)) ∈ gW := gW_of (List.mem_of_getElem? (i := 904) (by decide +kernel)) rfl
theorem t_905 : (Jvm.Cond.code ({ cls := "CardLink", name := "state", desc := "()I" } : Jvm.MethodName) prog_1_method_15_code (1 : Nat) (Option.some Jvm.ClassFile.FieldType.int)) ∈ gW := gW_of (List.mem_of_getElem? (i := 905) (by decide +kernel)) rfl
theorem t_906 : (Jvm.Cond.methodLink "CardLinkLaw" (69 : Nat) ({ cls := "CardLink", name := "side", desc := "(II)I" } : Jvm.MethodName)) ∈ gW := gW_of (List.mem_of_getElem? (i := 906) (by decide +kernel)) rfl
theorem t_907 : (Jvm.Cond.instanceMethod ({ cls := "CardLink", name := "side", desc := "(II)I" } : Jvm.MethodName)) ∈ gW := gW_of (List.mem_of_getElem? (i := 907) (by decide +kernel)) rfl
theorem t_908 : (Jvm.Cond.selects "CardLink" ({ cls := "CardLink", name := "side", desc := "(II)I" } : Jvm.MethodName) ({ cls := "CardLink", name := "side", desc := "(II)I" } : Jvm.MethodName)) ∈ gW := gW_of (List.mem_of_getElem? (i := 908) (by decide +kernel)) rfl
theorem t_909 : (Jvm.Cond.code ({ cls := "CardLink", name := "side", desc := "(II)I" } : Jvm.MethodName) prog_1_method_16_code (3 : Nat) (Option.some Jvm.ClassFile.FieldType.int)) ∈ gW := gW_of (List.mem_of_getElem? (i := 909) (by decide +kernel)) rfl
theorem t_910 : (Jvm.Cond.methodLink "CardLink" (139 : Nat) ({ cls := "CardLink", name := "sideOf", desc := "(I)LCardLink$Side;" } : Jvm.MethodName)) ∈ gW := gW_of (List.mem_of_getElem? (i := 910) (by decide +kernel)) rfl
theorem t_912 : (Jvm.Cond.instanceMethod ({ cls := "CardLink", name := "sideOf", desc := "(I)LCardLink$Side;" } : Jvm.MethodName)) ∈ gW := gW_of (List.mem_of_getElem? (i := 912) (by decide +kernel)) rfl
theorem t_913 : (Jvm.Cond.code ({ cls := "CardLink", name := "sideOf", desc := "(I)LCardLink$Side;" } : Jvm.MethodName) prog_1_method_17_code (2 : Nat) (Option.some (Jvm.ClassFile.FieldType.object "CardLink$Side"))) ∈ gW := gW_of (List.mem_of_getElem? (i := 913) (by decide +kernel)) rfl
theorem t_914 : (Jvm.Cond.methodLink "CardLink" (143 : Nat) ({ cls := "CardLink$Side", name := "tell", desc := "(I)I" } : Jvm.MethodName)) ∈ gW := gW_of (List.mem_of_getElem? (i := 914) (by decide +kernel)) rfl
theorem t_915 : (Jvm.Cond.instanceMethod ({ cls := "CardLink$Side", name := "tell", desc := "(I)I" } : Jvm.MethodName)) ∈ gW := gW_of (List.mem_of_getElem? (i := 915) (by decide +kernel)) rfl
theorem t_916 : (Jvm.Cond.selects "CardLink$Side" ({ cls := "CardLink$Side", name := "tell", desc := "(I)I" } : Jvm.MethodName) ({ cls := "CardLink$Side", name := "tell", desc := "(I)I" } : Jvm.MethodName)) ∈ gW := gW_of (List.mem_of_getElem? (i := 916) (by decide +kernel)) rfl
theorem t_917 : (Jvm.Cond.code ({ cls := "CardLink$Side", name := "tell", desc := "(I)I" } : Jvm.MethodName) prog_7_method_20_code (2 : Nat) (Option.some Jvm.ClassFile.FieldType.int)) ∈ gW := gW_of (List.mem_of_getElem? (i := 917) (by decide +kernel)) rfl
theorem t_918 : (Jvm.Cond.methodLink "CardLinkLaw" (73 : Nat) ({ cls := "CardLink", name := "got", desc := "(II)I" } : Jvm.MethodName)) ∈ gW := gW_of (List.mem_of_getElem? (i := 918) (by decide +kernel)) rfl
theorem t_919 : (Jvm.Cond.instanceMethod ({ cls := "CardLink", name := "got", desc := "(II)I" } : Jvm.MethodName)) ∈ gW := gW_of (List.mem_of_getElem? (i := 919) (by decide +kernel)) rfl
theorem t_920 : (Jvm.Cond.selects "CardLink" ({ cls := "CardLink", name := "got", desc := "(II)I" } : Jvm.MethodName) ({ cls := "CardLink", name := "got", desc := "(II)I" } : Jvm.MethodName)) ∈ gW := gW_of (List.mem_of_getElem? (i := 920) (by decide +kernel)) rfl
theorem t_921 : (Jvm.Cond.code ({ cls := "CardLink", name := "got", desc := "(II)I" } : Jvm.MethodName) prog_1_method_18_code (4 : Nat) (Option.some Jvm.ClassFile.FieldType.int)) ∈ gW := gW_of (List.mem_of_getElem? (i := 921) (by decide +kernel)) rfl
theorem t_922 : (Jvm.Cond.methodLink "CardLink" (159 : Nat) ({ cls := "CardLink$Row", name := "at", desc := "(I)I" } : Jvm.MethodName)) ∈ gW := gW_of (List.mem_of_getElem? (i := 922) (by decide +kernel)) rfl
theorem t_923 : (Jvm.Cond.methodLink "CardLinkLaw" (86 : Nat) ({ cls := "CardLink", name := "byteOf", desc := "(II)I" } : Jvm.MethodName)) ∈ gW := gW_of (List.mem_of_getElem? (i := 923) (by decide +kernel)) rfl
theorem t_924 : (Jvm.Cond.instanceMethod ({ cls := "CardLink", name := "byteOf", desc := "(II)I" } : Jvm.MethodName)) ∈ gW := gW_of (List.mem_of_getElem? (i := 924) (by decide +kernel)) rfl
theorem t_925 : (Jvm.Cond.selects "CardLink" ({ cls := "CardLink", name := "byteOf", desc := "(II)I" } : Jvm.MethodName) ({ cls := "CardLink", name := "byteOf", desc := "(II)I" } : Jvm.MethodName)) ∈ gW := gW_of (List.mem_of_getElem? (i := 925) (by decide +kernel)) rfl
theorem t_926 : (Jvm.Cond.code ({ cls := "CardLink", name := "byteOf", desc := "(II)I" } : Jvm.MethodName) prog_1_method_20_code (3 : Nat) (Option.some Jvm.ClassFile.FieldType.int)) ∈ gW := gW_of (List.mem_of_getElem? (i := 926) (by decide +kernel)) rfl
theorem t_927 : (Jvm.Cond.methodLink "CardLink" (162 : Nat) ({ cls := "CardLink$Journal", name := "kept", desc := "()I" } : Jvm.MethodName)) ∈ gW := gW_of (List.mem_of_getElem? (i := 927) (by decide +kernel)) rfl
theorem t_928 : (Jvm.Cond.instanceMethod ({ cls := "CardLink$Journal", name := "kept", desc := "()I" } : Jvm.MethodName)) ∈ gW := gW_of (List.mem_of_getElem? (i := 928) (by decide +kernel)) rfl
theorem t_929 : (Jvm.Cond.selects "CardLink$Journal" ({ cls := "CardLink$Journal", name := "kept", desc := "()I" } : Jvm.MethodName) ({ cls := "CardLink$Journal", name := "kept", desc := "()I" } : Jvm.MethodName)) ∈ gW := gW_of (List.mem_of_getElem? (i := 929) (by decide +kernel)) rfl
theorem t_930 : (Jvm.Cond.code ({ cls := "CardLink$Journal", name := "kept", desc := "()I" } : Jvm.MethodName) prog_3_method_4_code (1 : Nat) (Option.some Jvm.ClassFile.FieldType.int)) ∈ gW := gW_of (List.mem_of_getElem? (i := 930) (by decide +kernel)) rfl
theorem t_931 : (Jvm.Cond.methodLink "CardLink" (171 : Nat) ({ cls := "CardLink$Journal", name := "byteAt", desc := "(II)I" } : Jvm.MethodName)) ∈ gW := gW_of (List.mem_of_getElem? (i := 931) (by decide +kernel)) rfl
theorem t_932 : (Jvm.Cond.instanceMethod ({ cls := "CardLink$Journal", name := "byteAt", desc := "(II)I" } : Jvm.MethodName)) ∈ gW := gW_of (List.mem_of_getElem? (i := 932) (by decide +kernel)) rfl
theorem t_933 : (Jvm.Cond.selects "CardLink$Journal" ({ cls := "CardLink$Journal", name := "byteAt", desc := "(II)I" } : Jvm.MethodName) ({ cls := "CardLink$Journal", name := "byteAt", desc := "(II)I" } : Jvm.MethodName)) ∈ gW := gW_of (List.mem_of_getElem? (i := 933) (by decide +kernel)) rfl
theorem t_934 : (Jvm.Cond.code ({ cls := "CardLink$Journal", name := "byteAt", desc := "(II)I" } : Jvm.MethodName) prog_3_method_12_code (4 : Nat) (Option.some Jvm.ClassFile.FieldType.int)) ∈ gW := gW_of (List.mem_of_getElem? (i := 934) (by decide +kernel)) rfl
theorem t_935 : (Jvm.Cond.methodLink "CardLink$Journal" (77 : Nat) ({ cls := "CardLink$Journal", name := "placeOf", desc := "(I)I" } : Jvm.MethodName)) ∈ gW := gW_of (List.mem_of_getElem? (i := 935) (by decide +kernel)) rfl
theorem t_937 : (Jvm.Cond.instanceMethod ({ cls := "CardLink$Journal", name := "placeOf", desc := "(I)I" } : Jvm.MethodName)) ∈ gW := gW_of (List.mem_of_getElem? (i := 937) (by decide +kernel)) rfl
theorem t_938 : (Jvm.Cond.code ({ cls := "CardLink$Journal", name := "placeOf", desc := "(I)I" } : Jvm.MethodName) prog_3_method_10_code (3 : Nat) (Option.some Jvm.ClassFile.FieldType.int)) ∈ gW := gW_of (List.mem_of_getElem? (i := 938) (by decide +kernel)) rfl
theorem t_939 : (Jvm.Cond.methodLink "CardLinkLaw" (90 : Nat) ({ cls := "CardLink", name := "would", desc := "(I)I" } : Jvm.MethodName)) ∈ gW := gW_of (List.mem_of_getElem? (i := 939) (by decide +kernel)) rfl
theorem t_940 : (Jvm.Cond.instanceMethod ({ cls := "CardLink", name := "would", desc := "(I)I" } : Jvm.MethodName)) ∈ gW := gW_of (List.mem_of_getElem? (i := 940) (by decide +kernel)) rfl
theorem t_941 : (Jvm.Cond.selects "CardLink" ({ cls := "CardLink", name := "would", desc := "(I)I" } : Jvm.MethodName) ({ cls := "CardLink", name := "would", desc := "(I)I" } : Jvm.MethodName)) ∈ gW := gW_of (List.mem_of_getElem? (i := 941) (by decide +kernel)) rfl
theorem t_942 : (Jvm.Cond.code ({ cls := "CardLink", name := "would", desc := "(I)I" } : Jvm.MethodName) prog_1_method_21_code (3 : Nat) (Option.some Jvm.ClassFile.FieldType.int)) ∈ gW := gW_of (List.mem_of_getElem? (i := 942) (by decide +kernel)) rfl
theorem t_943 : (Jvm.Cond.methodLink "CardLink" (174 : Nat) ({ cls := "CardLink$Forecast", name := "outlook", desc := "(LCardLink$Line;)LCardLink$Line;" } : Jvm.MethodName)) ∈ gW := gW_of (List.mem_of_getElem? (i := 943) (by decide +kernel)) rfl
theorem t_944 : (Jvm.Cond.instanceMethod ({ cls := "CardLink$Forecast", name := "outlook", desc := "(LCardLink$Line;)LCardLink$Line;" } : Jvm.MethodName)) ∈ gW := gW_of (List.mem_of_getElem? (i := 944) (by decide +kernel)) rfl
theorem t_945 : (Jvm.Cond.selects "CardLink$Forecast" ({ cls := "CardLink$Forecast", name := "outlook", desc := "(LCardLink$Line;)LCardLink$Line;" } : Jvm.MethodName) ({ cls := "CardLink$Forecast", name := "outlook", desc := "(LCardLink$Line;)LCardLink$Line;" } : Jvm.MethodName)) ∈ gW := gW_of (List.mem_of_getElem? (i := 945) (by decide +kernel)) rfl
theorem t_946 : (Jvm.Cond.code ({ cls := "CardLink$Forecast", name := "outlook", desc := "(LCardLink$Line;)LCardLink$Line;" } : Jvm.MethodName) prog_2_method_3_code (3 : Nat) (Option.some (Jvm.ClassFile.FieldType.object "CardLink$Line"))) ∈ gW := gW_of (List.mem_of_getElem? (i := 946) (by decide +kernel)) rfl
theorem t_947 : (Jvm.Cond.methodLink "CardLink$Forecast" (46 : Nat) ({ cls := "CardLink$Line", name := "copy", desc := "(LCardLink$Line;)V" } : Jvm.MethodName)) ∈ gW := gW_of (List.mem_of_getElem? (i := 947) (by decide +kernel)) rfl
theorem t_948 : (Jvm.Cond.instanceMethod ({ cls := "CardLink$Line", name := "copy", desc := "(LCardLink$Line;)V" } : Jvm.MethodName)) ∈ gW := gW_of (List.mem_of_getElem? (i := 948) (by decide +kernel)) rfl
theorem t_949 : (Jvm.Cond.selects "CardLink$Line" ({ cls := "CardLink$Line", name := "copy", desc := "(LCardLink$Line;)V" } : Jvm.MethodName) ({ cls := "CardLink$Line", name := "copy", desc := "(LCardLink$Line;)V" } : Jvm.MethodName)) ∈ gW := gW_of (List.mem_of_getElem? (i := 949) (by decide +kernel)) rfl
theorem t_950 : (Jvm.Cond.code ({ cls := "CardLink$Line", name := "copy", desc := "(LCardLink$Line;)V" } : Jvm.MethodName) prog_4_method_3_code (2 : Nat) (Option.none : Option Jvm.ClassFile.FieldType)) ∈ gW := gW_of (List.mem_of_getElem? (i := 950) (by decide +kernel)) rfl
theorem t_951 : (Jvm.Cond.methodLink "CardLink$Line" (92 : Nat) ({ cls := "CardLink$Side", name := "copy", desc := "(LCardLink$Side;)V" } : Jvm.MethodName)) ∈ gW := gW_of (List.mem_of_getElem? (i := 951) (by decide +kernel)) rfl
theorem t_952 : (Jvm.Cond.instanceMethod ({ cls := "CardLink$Side", name := "copy", desc := "(LCardLink$Side;)V" } : Jvm.MethodName)) ∈ gW := gW_of (List.mem_of_getElem? (i := 952) (by decide +kernel)) rfl
theorem t_953 : (Jvm.Cond.selects "CardLink$Side" ({ cls := "CardLink$Side", name := "copy", desc := "(LCardLink$Side;)V" } : Jvm.MethodName) ({ cls := "CardLink$Side", name := "copy", desc := "(LCardLink$Side;)V" } : Jvm.MethodName)) ∈ gW := gW_of (List.mem_of_getElem? (i := 953) (by decide +kernel)) rfl
theorem t_954 : (Jvm.Cond.code ({ cls := "CardLink$Side", name := "copy", desc := "(LCardLink$Side;)V" } : Jvm.MethodName) prog_7_method_3_code (2 : Nat) (Option.none : Option Jvm.ClassFile.FieldType)) ∈ gW := gW_of (List.mem_of_getElem? (i := 954) (by decide +kernel)) rfl
theorem t_955 : (Jvm.Cond.methodLink "CardLink$Line" (96 : Nat) ({ cls := "CardLink$Wire", name := "copy", desc := "(LCardLink$Wire;)V" } : Jvm.MethodName)) ∈ gW := gW_of (List.mem_of_getElem? (i := 955) (by decide +kernel)) rfl
theorem t_956 : (Jvm.Cond.instanceMethod ({ cls := "CardLink$Wire", name := "copy", desc := "(LCardLink$Wire;)V" } : Jvm.MethodName)) ∈ gW := gW_of (List.mem_of_getElem? (i := 956) (by decide +kernel)) rfl
theorem t_957 : (Jvm.Cond.selects "CardLink$Wire" ({ cls := "CardLink$Wire", name := "copy", desc := "(LCardLink$Wire;)V" } : Jvm.MethodName) ({ cls := "CardLink$Wire", name := "copy", desc := "(LCardLink$Wire;)V" } : Jvm.MethodName)) ∈ gW := gW_of (List.mem_of_getElem? (i := 957) (by decide +kernel)) rfl
theorem t_958 : (Jvm.Cond.code ({ cls := "CardLink$Wire", name := "copy", desc := "(LCardLink$Wire;)V" } : Jvm.MethodName) prog_8_method_3_code (3 : Nat) (Option.none : Option Jvm.ClassFile.FieldType)) ∈ gW := gW_of (List.mem_of_getElem? (i := 958) (by decide +kernel)) rfl
theorem t_959 : (Jvm.Cond.methodLink "CardLink$Forecast" (54 : Nat) ({ cls := "CardLink$Line", name := "turn", desc := "()V" } : Jvm.MethodName)) ∈ gW := gW_of (List.mem_of_getElem? (i := 959) (by decide +kernel)) rfl
theorem t_960 : (Jvm.Cond.methodLink "CardLink" (178 : Nat) ({ cls := "CardLink$Line", name := "blocksSent", desc := "()I" } : Jvm.MethodName)) ∈ gW := gW_of (List.mem_of_getElem? (i := 960) (by decide +kernel)) rfl
theorem t_961 : (Jvm.Cond.methodLink "CardLinkLaw" (94 : Nat) ({ cls := "CardLink", name := "harm", desc := "(II)I" } : Jvm.MethodName)) ∈ gW := gW_of (List.mem_of_getElem? (i := 961) (by decide +kernel)) rfl
theorem t_962 : (Jvm.Cond.instanceMethod ({ cls := "CardLink", name := "harm", desc := "(II)I" } : Jvm.MethodName)) ∈ gW := gW_of (List.mem_of_getElem? (i := 962) (by decide +kernel)) rfl
theorem t_963 : (Jvm.Cond.selects "CardLink" ({ cls := "CardLink", name := "harm", desc := "(II)I" } : Jvm.MethodName) ({ cls := "CardLink", name := "harm", desc := "(II)I" } : Jvm.MethodName)) ∈ gW := gW_of (List.mem_of_getElem? (i := 963) (by decide +kernel)) rfl
theorem t_964 : (Jvm.Cond.code ({ cls := "CardLink", name := "harm", desc := "(II)I" } : Jvm.MethodName) prog_1_method_22_code (3 : Nat) (Option.some Jvm.ClassFile.FieldType.int)) ∈ gW := gW_of (List.mem_of_getElem? (i := 964) (by decide +kernel)) rfl
theorem t_965 : (Jvm.Cond.methodLink "CardLink" (184 : Nat) ({ cls := "CardLink$Forecast", name := "tryAll", desc := "(LCardLink$Line;I)V" } : Jvm.MethodName)) ∈ gW := gW_of (List.mem_of_getElem? (i := 965) (by decide +kernel)) rfl
theorem t_966 : (Jvm.Cond.instanceMethod ({ cls := "CardLink$Forecast", name := "tryAll", desc := "(LCardLink$Line;I)V" } : Jvm.MethodName)) ∈ gW := gW_of (List.mem_of_getElem? (i := 966) (by decide +kernel)) rfl
theorem t_967 : (Jvm.Cond.selects "CardLink$Forecast" ({ cls := "CardLink$Forecast", name := "tryAll", desc := "(LCardLink$Line;I)V" } : Jvm.MethodName) ({ cls := "CardLink$Forecast", name := "tryAll", desc := "(LCardLink$Line;I)V" } : Jvm.MethodName)) ∈ gW := gW_of (List.mem_of_getElem? (i := 967) (by decide +kernel)) rfl
theorem t_968 : (Jvm.Cond.code ({ cls := "CardLink$Forecast", name := "tryAll", desc := "(LCardLink$Line;I)V" } : Jvm.MethodName) prog_2_method_6_code (8 : Nat) (Option.none : Option Jvm.ClassFile.FieldType)) ∈ gW := gW_of (List.mem_of_getElem? (i := 968) (by decide +kernel)) rfl
theorem t_969 : (Jvm.Cond.methodLink "CardLink$Forecast" (66 : Nat) ({ cls := "CardLink$Wire", name := "probe", desc := "(II)V" } : Jvm.MethodName)) ∈ gW := gW_of (List.mem_of_getElem? (i := 969) (by decide +kernel)) rfl
theorem t_970 : (Jvm.Cond.instanceMethod ({ cls := "CardLink$Wire", name := "probe", desc := "(II)V" } : Jvm.MethodName)) ∈ gW := gW_of (List.mem_of_getElem? (i := 970) (by decide +kernel)) rfl
theorem t_971 : (Jvm.Cond.selects "CardLink$Wire" ({ cls := "CardLink$Wire", name := "probe", desc := "(II)V" } : Jvm.MethodName) ({ cls := "CardLink$Wire", name := "probe", desc := "(II)V" } : Jvm.MethodName)) ∈ gW := gW_of (List.mem_of_getElem? (i := 971) (by decide +kernel)) rfl
theorem t_972 : (Jvm.Cond.code ({ cls := "CardLink$Wire", name := "probe", desc := "(II)V" } : Jvm.MethodName) prog_8_method_4_code (3 : Nat) (Option.none : Option Jvm.ClassFile.FieldType)) ∈ gW := gW_of (List.mem_of_getElem? (i := 972) (by decide +kernel)) rfl
theorem t_973 : (Jvm.Cond.methodLink "CardLink$Forecast" (70 : Nat) ({ cls := "CardLink$Forecast", name := "forkIsHarmed", desc := "()Z" } : Jvm.MethodName)) ∈ gW := gW_of (List.mem_of_getElem? (i := 973) (by decide +kernel)) rfl
theorem t_975 : (Jvm.Cond.instanceMethod ({ cls := "CardLink$Forecast", name := "forkIsHarmed", desc := "()Z" } : Jvm.MethodName)) ∈ gW := gW_of (List.mem_of_getElem? (i := 975) (by decide +kernel)) rfl
theorem t_976 : (Jvm.Cond.code ({ cls := "CardLink$Forecast", name := "forkIsHarmed", desc := "()Z" } : Jvm.MethodName) prog_2_method_7_code (1 : Nat) (Option.some Jvm.ClassFile.FieldType.boolean)) ∈ gW := gW_of (List.mem_of_getElem? (i := 976) (by decide +kernel)) rfl
theorem t_977 : (Jvm.Cond.methodLink "CardLink$Forecast" (84 : Nat) ({ cls := "CardLink$Row", name := "same", desc := "(LCardLink$Row;)Z" } : Jvm.MethodName)) ∈ gW := gW_of (List.mem_of_getElem? (i := 977) (by decide +kernel)) rfl
theorem t_978 : (Jvm.Cond.instanceMethod ({ cls := "CardLink$Row", name := "same", desc := "(LCardLink$Row;)Z" } : Jvm.MethodName)) ∈ gW := gW_of (List.mem_of_getElem? (i := 978) (by decide +kernel)) rfl
theorem t_979 : (Jvm.Cond.selects "CardLink$Row" ({ cls := "CardLink$Row", name := "same", desc := "(LCardLink$Row;)Z" } : Jvm.MethodName) ({ cls := "CardLink$Row", name := "same", desc := "(LCardLink$Row;)Z" } : Jvm.MethodName)) ∈ gW := gW_of (List.mem_of_getElem? (i := 979) (by decide +kernel)) rfl
theorem t_980 : (Jvm.Cond.code ({ cls := "CardLink$Row", name := "same", desc := "(LCardLink$Row;)Z" } : Jvm.MethodName) prog_6_method_8_code (3 : Nat) (Option.some Jvm.ClassFile.FieldType.boolean)) ∈ gW := gW_of (List.mem_of_getElem? (i := 980) (by decide +kernel)) rfl
theorem t_981 : (Jvm.Cond.methodLink "CardLink" (188 : Nat) ({ cls := "CardLink$Forecast", name := "harmful", desc := "(I)I" } : Jvm.MethodName)) ∈ gW := gW_of (List.mem_of_getElem? (i := 981) (by decide +kernel)) rfl
theorem t_982 : (Jvm.Cond.instanceMethod ({ cls := "CardLink$Forecast", name := "harmful", desc := "(I)I" } : Jvm.MethodName)) ∈ gW := gW_of (List.mem_of_getElem? (i := 982) (by decide +kernel)) rfl
theorem t_983 : (Jvm.Cond.selects "CardLink$Forecast" ({ cls := "CardLink$Forecast", name := "harmful", desc := "(I)I" } : Jvm.MethodName) ({ cls := "CardLink$Forecast", name := "harmful", desc := "(I)I" } : Jvm.MethodName)) ∈ gW := gW_of (List.mem_of_getElem? (i := 983) (by decide +kernel)) rfl
theorem t_984 : (Jvm.Cond.code ({ cls := "CardLink$Forecast", name := "harmful", desc := "(I)I" } : Jvm.MethodName) prog_2_method_4_code (2 : Nat) (Option.some Jvm.ClassFile.FieldType.int)) ∈ gW := gW_of (List.mem_of_getElem? (i := 984) (by decide +kernel)) rfl
theorem t_985 : (Jvm.Cond.methodLink "CardLink" (191 : Nat) ({ cls := "CardLink$Forecast", name := "firstHarmful", desc := "(I)I" } : Jvm.MethodName)) ∈ gW := gW_of (List.mem_of_getElem? (i := 985) (by decide +kernel)) rfl
theorem t_986 : (Jvm.Cond.instanceMethod ({ cls := "CardLink$Forecast", name := "firstHarmful", desc := "(I)I" } : Jvm.MethodName)) ∈ gW := gW_of (List.mem_of_getElem? (i := 986) (by decide +kernel)) rfl
theorem t_987 : (Jvm.Cond.selects "CardLink$Forecast" ({ cls := "CardLink$Forecast", name := "firstHarmful", desc := "(I)I" } : Jvm.MethodName) ({ cls := "CardLink$Forecast", name := "firstHarmful", desc := "(I)I" } : Jvm.MethodName)) ∈ gW := gW_of (List.mem_of_getElem? (i := 987) (by decide +kernel)) rfl
theorem t_988 : (Jvm.Cond.code ({ cls := "CardLink$Forecast", name := "firstHarmful", desc := "(I)I" } : Jvm.MethodName) prog_2_method_5_code (2 : Nat) (Option.some Jvm.ClassFile.FieldType.int)) ∈ gW := gW_of (List.mem_of_getElem? (i := 988) (by decide +kernel)) rfl
theorem t_989 : (Jvm.Cond.methodLink "CardLinkLaw" (98 : Nat) ({ cls := "CardLink", name := "count", desc := "(I)I" } : Jvm.MethodName)) ∈ gW := gW_of (List.mem_of_getElem? (i := 989) (by decide +kernel)) rfl
theorem t_990 : (Jvm.Cond.instanceMethod ({ cls := "CardLink", name := "count", desc := "(I)I" } : Jvm.MethodName)) ∈ gW := gW_of (List.mem_of_getElem? (i := 990) (by decide +kernel)) rfl
theorem t_991 : (Jvm.Cond.selects "CardLink" ({ cls := "CardLink", name := "count", desc := "(I)I" } : Jvm.MethodName) ({ cls := "CardLink", name := "count", desc := "(I)I" } : Jvm.MethodName)) ∈ gW := gW_of (List.mem_of_getElem? (i := 991) (by decide +kernel)) rfl
theorem t_992 : (Jvm.Cond.code ({ cls := "CardLink", name := "count", desc := "(I)I" } : Jvm.MethodName) prog_1_method_23_code (2 : Nat) (Option.some Jvm.ClassFile.FieldType.int)) ∈ gW := gW_of (List.mem_of_getElem? (i := 992) (by decide +kernel)) rfl
theorem t_993 : (Jvm.Cond.methodLink "CardLink" (200 : Nat) ({ cls := "CardLink$Journal", name := "unlike", desc := "()I" } : Jvm.MethodName)) ∈ gW := gW_of (List.mem_of_getElem? (i := 993) (by decide +kernel)) rfl
theorem t_994 : (Jvm.Cond.instanceMethod ({ cls := "CardLink$Journal", name := "unlike", desc := "()I" } : Jvm.MethodName)) ∈ gW := gW_of (List.mem_of_getElem? (i := 994) (by decide +kernel)) rfl
theorem t_995 : (Jvm.Cond.selects "CardLink$Journal" ({ cls := "CardLink$Journal", name := "unlike", desc := "()I" } : Jvm.MethodName) ({ cls := "CardLink$Journal", name := "unlike", desc := "()I" } : Jvm.MethodName)) ∈ gW := gW_of (List.mem_of_getElem? (i := 995) (by decide +kernel)) rfl
theorem t_996 : (Jvm.Cond.code ({ cls := "CardLink$Journal", name := "unlike", desc := "()I" } : Jvm.MethodName) prog_3_method_3_code (1 : Nat) (Option.some Jvm.ClassFile.FieldType.int)) ∈ gW := gW_of (List.mem_of_getElem? (i := 996) (by decide +kernel)) rfl
theorem t_997 : (Jvm.Cond.methodLink "CardLinkLaw" (77 : Nat) ({ cls := "CardLinkLaw", name := "log", desc := "(LCardLink;II[J)I" } : Jvm.MethodName)) ∈ gW := gW_of (List.mem_of_getElem? (i := 997) (by decide +kernel)) rfl
theorem t_998 : (Jvm.Cond.static ({ cls := "CardLinkLaw", name := "log", desc := "(LCardLink;II[J)I" } : Jvm.MethodName)) ∈ gW := gW_of (List.mem_of_getElem? (i := 998) (by decide +kernel)) rfl
theorem t_1000 : (Jvm.Cond.classLink "CardLinkLaw" (13 : Nat) "java/util/NoSuchElementException") ∈ gW := gW_of (List.mem_of_getElem? (i := 1000) (by decide +kernel)) rfl
theorem t_1001 : (Jvm.Cond.methodLink "CardLinkLaw" (7 : Nat) ({ cls := "CardLink", name := "log", desc := "(II)I" } : Jvm.MethodName)) ∈ gW := gW_of (List.mem_of_getElem? (i := 1001) (by decide +kernel)) rfl
theorem t_1002 : (Jvm.Cond.instanceMethod ({ cls := "CardLink", name := "log", desc := "(II)I" } : Jvm.MethodName)) ∈ gW := gW_of (List.mem_of_getElem? (i := 1002) (by decide +kernel)) rfl
theorem t_1003 : (Jvm.Cond.selects "CardLink" ({ cls := "CardLink", name := "log", desc := "(II)I" } : Jvm.MethodName) ({ cls := "CardLink", name := "log", desc := "(II)I" } : Jvm.MethodName)) ∈ gW := gW_of (List.mem_of_getElem? (i := 1003) (by decide +kernel)) rfl
theorem t_1004 : (Jvm.Cond.code ({ cls := "CardLink", name := "log", desc := "(II)I" } : Jvm.MethodName) prog_1_method_19_code (3 : Nat) (Option.some Jvm.ClassFile.FieldType.int)) ∈ gW := gW_of (List.mem_of_getElem? (i := 1004) (by decide +kernel)) rfl
theorem t_1005 : (Jvm.Cond.classLink "CardLink" (165 : Nat) "java/util/NoSuchElementException") ∈ gW := gW_of (List.mem_of_getElem? (i := 1005) (by decide +kernel)) rfl
theorem t_1028 : (Jvm.Cond.instanceMethod ({ cls := "java/lang/Throwable", name := "<init>", desc := "()V" } : Jvm.MethodName)) ∈ gW := gW_of (List.mem_of_getElem? (i := 1028) (by decide +kernel)) rfl
theorem t_1029 : (Jvm.Cond.code ({ cls := "java/lang/Throwable", name := "<init>", desc := "()V" } : Jvm.MethodName) prog_17_method_1_code (1 : Nat) (Option.none : Option Jvm.ClassFile.FieldType)) ∈ gW := gW_of (List.mem_of_getElem? (i := 1029) (by decide +kernel)) rfl
theorem t_1030 : (Jvm.Cond.methodLink "java/lang/Throwable" (1 : Nat) ({ cls := "java/lang/Object", name := "<init>", desc := "()V" } : Jvm.MethodName)) ∈ gW := gW_of (List.mem_of_getElem? (i := 1030) (by decide +kernel)) rfl
theorem t_1035 : (Jvm.Cond.methodLink "java/lang/Throwable" (27 : Nat) ({ cls := "java/lang/Throwable", name := "fillInStackTrace", desc := "()Ljava/lang/Throwable;" } : Jvm.MethodName)) ∈ gW := gW_of (List.mem_of_getElem? (i := 1035) (by decide +kernel)) rfl
theorem t_1036 : (Jvm.Cond.instanceMethod ({ cls := "java/lang/Throwable", name := "fillInStackTrace", desc := "()Ljava/lang/Throwable;" } : Jvm.MethodName)) ∈ gW := gW_of (List.mem_of_getElem? (i := 1036) (by decide +kernel)) rfl
theorem t_1039 : (Jvm.Cond.methodLink "java/lang/Throwable" (202 : Nat) ({ cls := "java/lang/Throwable", name := "fillInStackTrace", desc := "(I)Ljava/lang/Throwable;" } : Jvm.MethodName)) ∈ gW := gW_of (List.mem_of_getElem? (i := 1039) (by decide +kernel)) rfl
theorem t_1041 : (Jvm.Cond.instanceMethod ({ cls := "java/lang/Throwable", name := "fillInStackTrace", desc := "(I)Ljava/lang/Throwable;" } : Jvm.MethodName)) ∈ gW := gW_of (List.mem_of_getElem? (i := 1041) (by decide +kernel)) rfl
theorem t_1044 : (Jvm.Cond.methodLink "CardLink" (167 : Nat) ({ cls := "java/util/NoSuchElementException", name := "<init>", desc := "()V" } : Jvm.MethodName)) ∈ gW := gW_of (List.mem_of_getElem? (i := 1044) (by decide +kernel)) rfl
theorem t_1045 : (Jvm.Cond.instanceMethod ({ cls := "java/util/NoSuchElementException", name := "<init>", desc := "()V" } : Jvm.MethodName)) ∈ gW := gW_of (List.mem_of_getElem? (i := 1045) (by decide +kernel)) rfl
theorem t_1046 : (Jvm.Cond.code ({ cls := "java/util/NoSuchElementException", name := "<init>", desc := "()V" } : Jvm.MethodName) prog_19_method_1_code (1 : Nat) (Option.none : Option Jvm.ClassFile.FieldType)) ∈ gW := gW_of (List.mem_of_getElem? (i := 1046) (by decide +kernel)) rfl
theorem t_1047 : (Jvm.Cond.methodLink "java/util/NoSuchElementException" (1 : Nat) ({ cls := "java/lang/RuntimeException", name := "<init>", desc := "()V" } : Jvm.MethodName)) ∈ gW := gW_of (List.mem_of_getElem? (i := 1047) (by decide +kernel)) rfl
theorem t_1048 : (Jvm.Cond.instanceMethod ({ cls := "java/lang/RuntimeException", name := "<init>", desc := "()V" } : Jvm.MethodName)) ∈ gW := gW_of (List.mem_of_getElem? (i := 1048) (by decide +kernel)) rfl
theorem t_1049 : (Jvm.Cond.code ({ cls := "java/lang/RuntimeException", name := "<init>", desc := "()V" } : Jvm.MethodName) prog_15_method_1_code (1 : Nat) (Option.none : Option Jvm.ClassFile.FieldType)) ∈ gW := gW_of (List.mem_of_getElem? (i := 1049) (by decide +kernel)) rfl
theorem t_1050 : (Jvm.Cond.methodLink "java/lang/RuntimeException" (1 : Nat) ({ cls := "java/lang/Exception", name := "<init>", desc := "()V" } : Jvm.MethodName)) ∈ gW := gW_of (List.mem_of_getElem? (i := 1050) (by decide +kernel)) rfl
theorem t_1051 : (Jvm.Cond.instanceMethod ({ cls := "java/lang/Exception", name := "<init>", desc := "()V" } : Jvm.MethodName)) ∈ gW := gW_of (List.mem_of_getElem? (i := 1051) (by decide +kernel)) rfl
theorem t_1052 : (Jvm.Cond.code ({ cls := "java/lang/Exception", name := "<init>", desc := "()V" } : Jvm.MethodName) prog_13_method_1_code (1 : Nat) (Option.none : Option Jvm.ClassFile.FieldType)) ∈ gW := gW_of (List.mem_of_getElem? (i := 1052) (by decide +kernel)) rfl
theorem t_1053 : (Jvm.Cond.methodLink "java/lang/Exception" (1 : Nat) ({ cls := "java/lang/Throwable", name := "<init>", desc := "()V" } : Jvm.MethodName)) ∈ gW := gW_of (List.mem_of_getElem? (i := 1053) (by decide +kernel)) rfl
theorem t_1066 : (Jvm.Cond.methodLink "CardLink" (168 : Nat) ({ cls := "CardLink$Journal", name := "tell", desc := "(II)I" } : Jvm.MethodName)) ∈ gW := gW_of (List.mem_of_getElem? (i := 1066) (by decide +kernel)) rfl
theorem t_1067 : (Jvm.Cond.instanceMethod ({ cls := "CardLink$Journal", name := "tell", desc := "(II)I" } : Jvm.MethodName)) ∈ gW := gW_of (List.mem_of_getElem? (i := 1067) (by decide +kernel)) rfl
theorem t_1068 : (Jvm.Cond.selects "CardLink$Journal" ({ cls := "CardLink$Journal", name := "tell", desc := "(II)I" } : Jvm.MethodName) ({ cls := "CardLink$Journal", name := "tell", desc := "(II)I" } : Jvm.MethodName)) ∈ gW := gW_of (List.mem_of_getElem? (i := 1068) (by decide +kernel)) rfl
theorem t_1069 : (Jvm.Cond.code ({ cls := "CardLink$Journal", name := "tell", desc := "(II)I" } : Jvm.MethodName) prog_3_method_11_code (6 : Nat) (Option.some Jvm.ClassFile.FieldType.int)) ∈ gW := gW_of (List.mem_of_getElem? (i := 1069) (by decide +kernel)) rfl
theorem t_1070 : (Jvm.Cond.classLink "CardLinkLaw" (16 : Nat) "CardLinkModel") ∈ gW := gW_of (List.mem_of_getElem? (i := 1070) (by decide +kernel)) rfl
theorem t_1071 : (Jvm.Cond.instantiable "CardLinkModel" (39 : Nat)) ∈ gW := gW_of (List.mem_of_getElem? (i := 1071) (by decide +kernel)) rfl
theorem t_1072 : (Jvm.Cond.methodLink "CardLinkLaw" (18 : Nat) ({ cls := "CardLinkModel", name := "<init>", desc := "()V" } : Jvm.MethodName)) ∈ gW := gW_of (List.mem_of_getElem? (i := 1072) (by decide +kernel)) rfl
theorem t_1073 : (Jvm.Cond.instanceMethod ({ cls := "CardLinkModel", name := "<init>", desc := "()V" } : Jvm.MethodName)) ∈ gW := gW_of (List.mem_of_getElem? (i := 1073) (by decide +kernel)) rfl
theorem t_1074 : (Jvm.Cond.code ({ cls := "CardLinkModel", name := "<init>", desc := "()V" } : Jvm.MethodName) prog_10_method_1_code (1 : Nat) (Option.none : Option Jvm.ClassFile.FieldType)) ∈ gW := gW_of (List.mem_of_getElem? (i := 1074) (by decide +kernel)) rfl
theorem t_1075 : (Jvm.Cond.methodLink "CardLinkModel" (1 : Nat) ({ cls := "java/lang/Object", name := "<init>", desc := "()V" } : Jvm.MethodName)) ∈ gW := gW_of (List.mem_of_getElem? (i := 1075) (by decide +kernel)) rfl
theorem t_1076 : (Jvm.Cond.constant "CardLinkModel" (47 : Nat) (131072 : Int32)) ∈ gW := gW_of (List.mem_of_getElem? (i := 1076) (by decide +kernel)) rfl
theorem t_1077 : (Jvm.Cond.methodLink "CardLinkModel" (63 : Nat) ({ cls := "CardLinkModel", name := "begins", desc := "()V" } : Jvm.MethodName)) ∈ gW := gW_of (List.mem_of_getElem? (i := 1077) (by decide +kernel)) rfl
theorem t_1079 : (Jvm.Cond.instanceMethod ({ cls := "CardLinkModel", name := "begins", desc := "()V" } : Jvm.MethodName)) ∈ gW := gW_of (List.mem_of_getElem? (i := 1079) (by decide +kernel)) rfl
theorem t_1080 : (Jvm.Cond.code ({ cls := "CardLinkModel", name := "begins", desc := "()V" } : Jvm.MethodName) prog_10_method_4_code (2 : Nat) (Option.none : Option Jvm.ClassFile.FieldType)) ∈ gW := gW_of (List.mem_of_getElem? (i := 1080) (by decide +kernel)) rfl
theorem t_1081 : (Jvm.Cond.fieldLink "CardLinkModel" (7 : Nat) "CardLinkModel" "tape" "[I") ∈ gW := gW_of (List.mem_of_getElem? (i := 1081) (by decide +kernel)) rfl
theorem t_1082 : (Jvm.Cond.fieldLink "CardLinkModel" (75 : Nat) "CardLinkModel" "taped" "I") ∈ gW := gW_of (List.mem_of_getElem? (i := 1082) (by decide +kernel)) rfl
theorem t_1083 : (Jvm.Cond.fieldLink "CardLinkModel" (66 : Nat) "CardLinkModel" "thrown" "I") ∈ gW := gW_of (List.mem_of_getElem? (i := 1083) (by decide +kernel)) rfl
theorem t_1084 : (Jvm.Cond.fieldLink "CardLinkModel" (134 : Nat) "CardLinkModel" "hasCard" "Z") ∈ gW := gW_of (List.mem_of_getElem? (i := 1084) (by decide +kernel)) rfl
theorem t_1085 : (Jvm.Cond.fieldLink "CardLinkModel" (13 : Nat) "CardLinkModel" "told" "[I") ∈ gW := gW_of (List.mem_of_getElem? (i := 1085) (by decide +kernel)) rfl
theorem t_1086 : (Jvm.Cond.fieldLink "CardLinkModel" (16 : Nat) "CardLinkModel" "draft" "[I") ∈ gW := gW_of (List.mem_of_getElem? (i := 1086) (by decide +kernel)) rfl
theorem t_1087 : (Jvm.Cond.fieldLink "CardLinkModel" (19 : Nat) "CardLinkModel" "history" "[I") ∈ gW := gW_of (List.mem_of_getElem? (i := 1087) (by decide +kernel)) rfl
theorem t_1088 : (Jvm.Cond.fieldLink "CardLinkModel" (22 : Nat) "CardLinkModel" "s" "[I") ∈ gW := gW_of (List.mem_of_getElem? (i := 1088) (by decide +kernel)) rfl
theorem t_1089 : (Jvm.Cond.fieldLink "CardLinkModel" (25 : Nat) "CardLinkModel" "kept" "[I") ∈ gW := gW_of (List.mem_of_getElem? (i := 1089) (by decide +kernel)) rfl
theorem t_1090 : (Jvm.Cond.fieldLink "CardLinkModel" (28 : Nat) "CardLinkModel" "repeats" "I") ∈ gW := gW_of (List.mem_of_getElem? (i := 1090) (by decide +kernel)) rfl
theorem t_1091 : (Jvm.Cond.fieldLink "CardLinkModel" (32 : Nat) "CardLinkModel" "log" "[I") ∈ gW := gW_of (List.mem_of_getElem? (i := 1091) (by decide +kernel)) rfl
theorem t_1092 : (Jvm.Cond.fieldLink "CardLinkModel" (35 : Nat) "CardLinkModel" "logBytes" "[I") ∈ gW := gW_of (List.mem_of_getElem? (i := 1092) (by decide +kernel)) rfl
theorem t_1093 : (Jvm.Cond.fieldLink "CardLinkModel" (69 : Nat) "CardLinkModel" "logged" "I") ∈ gW := gW_of (List.mem_of_getElem? (i := 1093) (by decide +kernel)) rfl
theorem t_1094 : (Jvm.Cond.fieldLink "CardLinkModel" (192 : Nat) "CardLinkModel" "logAt" "I") ∈ gW := gW_of (List.mem_of_getElem? (i := 1094) (by decide +kernel)) rfl
theorem t_1095 : (Jvm.Cond.fieldLink "CardLinkModel" (38 : Nat) "CardLinkModel" "unlikeFrom" "[I") ∈ gW := gW_of (List.mem_of_getElem? (i := 1095) (by decide +kernel)) rfl
theorem t_1096 : (Jvm.Cond.fieldLink "CardLinkModel" (41 : Nat) "CardLinkModel" "unlikeSide" "[I") ∈ gW := gW_of (List.mem_of_getElem? (i := 1096) (by decide +kernel)) rfl
theorem t_1097 : (Jvm.Cond.fieldLink "CardLinkModel" (44 : Nat) "CardLinkModel" "unlikeOften" "[I") ∈ gW := gW_of (List.mem_of_getElem? (i := 1097) (by decide +kernel)) rfl
theorem t_1098 : (Jvm.Cond.fieldLink "CardLinkModel" (48 : Nat) "CardLinkModel" "unlikeBytes" "[I") ∈ gW := gW_of (List.mem_of_getElem? (i := 1098) (by decide +kernel)) rfl
theorem t_1099 : (Jvm.Cond.fieldLink "CardLinkModel" (72 : Nat) "CardLinkModel" "unlike" "I") ∈ gW := gW_of (List.mem_of_getElem? (i := 1099) (by decide +kernel)) rfl
theorem t_1100 : (Jvm.Cond.fieldLink "CardLinkModel" (182 : Nat) "CardLinkModel" "quiet" "Z") ∈ gW := gW_of (List.mem_of_getElem? (i := 1100) (by decide +kernel)) rfl
theorem t_1101 : (Jvm.Cond.fieldLink "CardLinkModel" (92 : Nat) "CardLinkModel" "size" "I") ∈ gW := gW_of (List.mem_of_getElem? (i := 1101) (by decide +kernel)) rfl
theorem t_1102 : (Jvm.Cond.fieldLink "CardLinkModel" (89 : Nat) "CardLinkModel" "at" "I") ∈ gW := gW_of (List.mem_of_getElem? (i := 1102) (by decide +kernel)) rfl
theorem t_1103 : (Jvm.Cond.fieldLink "CardLinkModel" (86 : Nat) "CardLinkModel" "fault" "I") ∈ gW := gW_of (List.mem_of_getElem? (i := 1103) (by decide +kernel)) rfl
theorem t_1104 : (Jvm.Cond.fieldLink "CardLinkModel" (113 : Nat) "CardLinkModel" "special" "I") ∈ gW := gW_of (List.mem_of_getElem? (i := 1104) (by decide +kernel)) rfl
theorem t_1105 : (Jvm.Cond.fieldLink "CardLinkModel" (123 : Nat) "CardLinkModel" "hasOther" "Z") ∈ gW := gW_of (List.mem_of_getElem? (i := 1105) (by decide +kernel)) rfl
theorem t_1106 : (Jvm.Cond.fieldLink "CardLinkModel" (51 : Nat) "CardLinkModel" "block" "[I") ∈ gW := gW_of (List.mem_of_getElem? (i := 1106) (by decide +kernel)) rfl
theorem t_1107 : (Jvm.Cond.fieldLink "CardLinkModel" (167 : Nat) "CardLinkModel" "blockMany" "I") ∈ gW := gW_of (List.mem_of_getElem? (i := 1107) (by decide +kernel)) rfl
theorem t_1108 : (Jvm.Cond.fieldLink "CardLinkModel" (54 : Nat) "CardLinkModel" "came" "[I") ∈ gW := gW_of (List.mem_of_getElem? (i := 1108) (by decide +kernel)) rfl
theorem t_1109 : (Jvm.Cond.fieldLink "CardLinkModel" (160 : Nat) "CardLinkModel" "cameMany" "I") ∈ gW := gW_of (List.mem_of_getElem? (i := 1109) (by decide +kernel)) rfl
theorem t_1110 : (Jvm.Cond.fieldLink "CardLinkModel" (176 : Nat) "CardLinkModel" "cameHow" "I") ∈ gW := gW_of (List.mem_of_getElem? (i := 1110) (by decide +kernel)) rfl
theorem t_1111 : (Jvm.Cond.fieldLink "CardLinkModel" (154 : Nat) "CardLinkModel" "hasLost" "Z") ∈ gW := gW_of (List.mem_of_getElem? (i := 1111) (by decide +kernel)) rfl
theorem t_1112 : (Jvm.Cond.fieldLink "CardLinkModel" (157 : Nat) "CardLinkModel" "hasSpoilt" "Z") ∈ gW := gW_of (List.mem_of_getElem? (i := 1112) (by decide +kernel)) rfl
theorem t_1113 : (Jvm.Cond.fieldLink "CardLinkModel" (57 : Nat) "CardLinkModel" "inf" "[I") ∈ gW := gW_of (List.mem_of_getElem? (i := 1113) (by decide +kernel)) rfl
theorem t_1114 : (Jvm.Cond.fieldLink "CardLinkModel" (179 : Nat) "CardLinkModel" "hasSent" "Z") ∈ gW := gW_of (List.mem_of_getElem? (i := 1114) (by decide +kernel)) rfl
theorem t_1115 : (Jvm.Cond.fieldLink "CardLinkModel" (219 : Nat) "CardLinkModel" "tryOf" "I") ∈ gW := gW_of (List.mem_of_getElem? (i := 1115) (by decide +kernel)) rfl
theorem t_1116 : (Jvm.Cond.fieldLink "CardLinkModel" (222 : Nat) "CardLinkModel" "reason" "I") ∈ gW := gW_of (List.mem_of_getElem? (i := 1116) (by decide +kernel)) rfl
theorem t_1117 : (Jvm.Cond.fieldLink "CardLinkModel" (306 : Nat) "CardLinkModel" "wouldSend" "I") ∈ gW := gW_of (List.mem_of_getElem? (i := 1117) (by decide +kernel)) rfl
theorem t_1118 : (Jvm.Cond.fieldLink "CardLinkModel" (60 : Nat) "CardLinkModel" "wanted" "[I") ∈ gW := gW_of (List.mem_of_getElem? (i := 1118) (by decide +kernel)) rfl
theorem t_1119 : (Jvm.Cond.fieldLink "CardLinkModel" (318 : Nat) "CardLinkModel" "wantedMany" "I") ∈ gW := gW_of (List.mem_of_getElem? (i := 1119) (by decide +kernel)) rfl
theorem t_1199 : (Jvm.Cond.methodLink "CardLinkLaw" (83 : Nat) ({ cls := "CardLinkModel", name := "thrown", desc := "()I" } : Jvm.MethodName)) ∈ gW := gW_of (List.mem_of_getElem? (i := 1199) (by decide +kernel)) rfl
theorem t_1200 : (Jvm.Cond.instanceMethod ({ cls := "CardLinkModel", name := "thrown", desc := "()I" } : Jvm.MethodName)) ∈ gW := gW_of (List.mem_of_getElem? (i := 1200) (by decide +kernel)) rfl
theorem t_1201 : (Jvm.Cond.selects "CardLinkModel" ({ cls := "CardLinkModel", name := "thrown", desc := "()I" } : Jvm.MethodName) ({ cls := "CardLinkModel", name := "thrown", desc := "()I" } : Jvm.MethodName)) ∈ gW := gW_of (List.mem_of_getElem? (i := 1201) (by decide +kernel)) rfl
theorem t_1202 : (Jvm.Cond.code ({ cls := "CardLinkModel", name := "thrown", desc := "()I" } : Jvm.MethodName) prog_10_method_2_code (1 : Nat) (Option.some Jvm.ClassFile.FieldType.int)) ∈ gW := gW_of (List.mem_of_getElem? (i := 1202) (by decide +kernel)) rfl
theorem t_1203 : (Jvm.Cond.methodLink "CardLinkLaw" (25 : Nat) ({ cls := "CardLinkModel", name := "feed", desc := "(JJ)I" } : Jvm.MethodName)) ∈ gW := gW_of (List.mem_of_getElem? (i := 1203) (by decide +kernel)) rfl
theorem t_1204 : (Jvm.Cond.instanceMethod ({ cls := "CardLinkModel", name := "feed", desc := "(JJ)I" } : Jvm.MethodName)) ∈ gW := gW_of (List.mem_of_getElem? (i := 1204) (by decide +kernel)) rfl
theorem t_1205 : (Jvm.Cond.selects "CardLinkModel" ({ cls := "CardLinkModel", name := "feed", desc := "(JJ)I" } : Jvm.MethodName) ({ cls := "CardLinkModel", name := "feed", desc := "(JJ)I" } : Jvm.MethodName)) ∈ gW := gW_of (List.mem_of_getElem? (i := 1205) (by decide +kernel)) rfl
theorem t_1206 : (Jvm.Cond.code ({ cls := "CardLinkModel", name := "feed", desc := "(JJ)I" } : Jvm.MethodName) prog_10_method_6_code (5 : Nat) (Option.some Jvm.ClassFile.FieldType.int)) ∈ gW := gW_of (List.mem_of_getElem? (i := 1206) (by decide +kernel)) rfl
theorem t_1207 : (Jvm.Cond.methodLink "CardLinkModel" (78 : Nat) ({ cls := "CardLinkModel", name := "eight", desc := "(J)V" } : Jvm.MethodName)) ∈ gW := gW_of (List.mem_of_getElem? (i := 1207) (by decide +kernel)) rfl
theorem t_1209 : (Jvm.Cond.instanceMethod ({ cls := "CardLinkModel", name := "eight", desc := "(J)V" } : Jvm.MethodName)) ∈ gW := gW_of (List.mem_of_getElem? (i := 1209) (by decide +kernel)) rfl
theorem t_1210 : (Jvm.Cond.code ({ cls := "CardLinkModel", name := "eight", desc := "(J)V" } : Jvm.MethodName) prog_10_method_5_code (4 : Nat) (Option.none : Option Jvm.ClassFile.FieldType)) ∈ gW := gW_of (List.mem_of_getElem? (i := 1210) (by decide +kernel)) rfl
theorem t_1211 : (Jvm.Cond.methodLink "CardLinkLaw" (30 : Nat) ({ cls := "CardLinkModel", name := "end", desc := "(I)I" } : Jvm.MethodName)) ∈ gW := gW_of (List.mem_of_getElem? (i := 1211) (by decide +kernel)) rfl
theorem t_1212 : (Jvm.Cond.instanceMethod ({ cls := "CardLinkModel", name := "end", desc := "(I)I" } : Jvm.MethodName)) ∈ gW := gW_of (List.mem_of_getElem? (i := 1212) (by decide +kernel)) rfl
theorem t_1213 : (Jvm.Cond.selects "CardLinkModel" ({ cls := "CardLinkModel", name := "end", desc := "(I)I" } : Jvm.MethodName) ({ cls := "CardLinkModel", name := "end", desc := "(I)I" } : Jvm.MethodName)) ∈ gW := gW_of (List.mem_of_getElem? (i := 1213) (by decide +kernel)) rfl
theorem t_1214 : (Jvm.Cond.code ({ cls := "CardLinkModel", name := "end", desc := "(I)I" } : Jvm.MethodName) prog_10_method_7_code (2 : Nat) (Option.some Jvm.ClassFile.FieldType.int)) ∈ gW := gW_of (List.mem_of_getElem? (i := 1214) (by decide +kernel)) rfl
theorem t_1215 : (Jvm.Cond.methodLink "CardLinkModel" (82 : Nat) ({ cls := "CardLinkModel", name := "within", desc := "(III)Z" } : Jvm.MethodName)) ∈ gW := gW_of (List.mem_of_getElem? (i := 1215) (by decide +kernel)) rfl
theorem t_1216 : (Jvm.Cond.static ({ cls := "CardLinkModel", name := "within", desc := "(III)Z" } : Jvm.MethodName)) ∈ gW := gW_of (List.mem_of_getElem? (i := 1216) (by decide +kernel)) rfl
theorem t_1217 : (Jvm.Cond.code ({ cls := "CardLinkModel", name := "within", desc := "(III)Z" } : Jvm.MethodName) prog_10_method_3_code (3 : Nat) (Option.some Jvm.ClassFile.FieldType.boolean)) ∈ gW := gW_of (List.mem_of_getElem? (i := 1217) (by decide +kernel)) rfl
theorem t_1218 : (Jvm.Cond.methodLink "CardLinkLaw" (35 : Nat) ({ cls := "CardLinkModel", name := "reset", desc := "()I" } : Jvm.MethodName)) ∈ gW := gW_of (List.mem_of_getElem? (i := 1218) (by decide +kernel)) rfl
theorem t_1219 : (Jvm.Cond.instanceMethod ({ cls := "CardLinkModel", name := "reset", desc := "()I" } : Jvm.MethodName)) ∈ gW := gW_of (List.mem_of_getElem? (i := 1219) (by decide +kernel)) rfl
theorem t_1220 : (Jvm.Cond.selects "CardLinkModel" ({ cls := "CardLinkModel", name := "reset", desc := "()I" } : Jvm.MethodName) ({ cls := "CardLinkModel", name := "reset", desc := "()I" } : Jvm.MethodName)) ∈ gW := gW_of (List.mem_of_getElem? (i := 1220) (by decide +kernel)) rfl
theorem t_1221 : (Jvm.Cond.code ({ cls := "CardLinkModel", name := "reset", desc := "()I" } : Jvm.MethodName) prog_10_method_16_code (4 : Nat) (Option.some Jvm.ClassFile.FieldType.int)) ∈ gW := gW_of (List.mem_of_getElem? (i := 1221) (by decide +kernel)) rfl
theorem t_1222 : (Jvm.Cond.methodLink "CardLinkModel" (99 : Nat) ({ cls := "CardLinkModel", name := "byteNext", desc := "()I" } : Jvm.MethodName)) ∈ gW := gW_of (List.mem_of_getElem? (i := 1222) (by decide +kernel)) rfl
theorem t_1224 : (Jvm.Cond.instanceMethod ({ cls := "CardLinkModel", name := "byteNext", desc := "()I" } : Jvm.MethodName)) ∈ gW := gW_of (List.mem_of_getElem? (i := 1224) (by decide +kernel)) rfl
theorem t_1225 : (Jvm.Cond.code ({ cls := "CardLinkModel", name := "byteNext", desc := "()I" } : Jvm.MethodName) prog_10_method_8_code (1 : Nat) (Option.some Jvm.ClassFile.FieldType.int)) ∈ gW := gW_of (List.mem_of_getElem? (i := 1225) (by decide +kernel)) rfl
theorem t_1226 : (Jvm.Cond.methodLink "CardLinkModel" (95 : Nat) ({ cls := "CardLinkModel", name := "wrong", desc := "(II)V" } : Jvm.MethodName)) ∈ gW := gW_of (List.mem_of_getElem? (i := 1226) (by decide +kernel)) rfl
theorem t_1228 : (Jvm.Cond.instanceMethod ({ cls := "CardLinkModel", name := "wrong", desc := "(II)V" } : Jvm.MethodName)) ∈ gW := gW_of (List.mem_of_getElem? (i := 1228) (by decide +kernel)) rfl
theorem t_1229 : (Jvm.Cond.code ({ cls := "CardLinkModel", name := "wrong", desc := "(II)V" } : Jvm.MethodName) prog_10_method_9_code (3 : Nat) (Option.none : Option Jvm.ClassFile.FieldType)) ∈ gW := gW_of (List.mem_of_getElem? (i := 1229) (by decide +kernel)) rfl
theorem t_1230 : (Jvm.Cond.methodLink "CardLinkModel" (127 : Nat) ({ cls := "CardLinkModel", name := "groupsTold", desc := "(I)V" } : Jvm.MethodName)) ∈ gW := gW_of (List.mem_of_getElem? (i := 1230) (by decide +kernel)) rfl
theorem t_1232 : (Jvm.Cond.instanceMethod ({ cls := "CardLinkModel", name := "groupsTold", desc := "(I)V" } : Jvm.MethodName)) ∈ gW := gW_of (List.mem_of_getElem? (i := 1232) (by decide +kernel)) rfl
theorem t_1233 : (Jvm.Cond.code ({ cls := "CardLinkModel", name := "groupsTold", desc := "(I)V" } : Jvm.MethodName) prog_10_method_15_code (6 : Nat) (Option.none : Option Jvm.ClassFile.FieldType)) ∈ gW := gW_of (List.mem_of_getElem? (i := 1233) (by decide +kernel)) rfl
theorem t_1234 : (Jvm.Cond.methodLink "CardLinkModel" (119 : Nat) ({ cls := "CardLinkModel", name := "groupTold", desc := "(II)I" } : Jvm.MethodName)) ∈ gW := gW_of (List.mem_of_getElem? (i := 1234) (by decide +kernel)) rfl
theorem t_1236 : (Jvm.Cond.instanceMethod ({ cls := "CardLinkModel", name := "groupTold", desc := "(II)I" } : Jvm.MethodName)) ∈ gW := gW_of (List.mem_of_getElem? (i := 1236) (by decide +kernel)) rfl
theorem t_1237 : (Jvm.Cond.code ({ cls := "CardLinkModel", name := "groupTold", desc := "(II)I" } : Jvm.MethodName) prog_10_method_14_code (4 : Nat) (Option.some Jvm.ClassFile.FieldType.int)) ∈ gW := gW_of (List.mem_of_getElem? (i := 1237) (by decide +kernel)) rfl
theorem t_1238 : (Jvm.Cond.methodLink "CardLinkModel" (110 : Nat) ({ cls := "CardLinkModel", name := "factor", desc := "()V" } : Jvm.MethodName)) ∈ gW := gW_of (List.mem_of_getElem? (i := 1238) (by decide +kernel)) rfl
theorem t_1240 : (Jvm.Cond.instanceMethod ({ cls := "CardLinkModel", name := "factor", desc := "()V" } : Jvm.MethodName)) ∈ gW := gW_of (List.mem_of_getElem? (i := 1240) (by decide +kernel)) rfl
theorem t_1241 : (Jvm.Cond.code ({ cls := "CardLinkModel", name := "factor", desc := "()V" } : Jvm.MethodName) prog_10_method_12_code (2 : Nat) (Option.none : Option Jvm.ClassFile.FieldType)) ∈ gW := gW_of (List.mem_of_getElem? (i := 1241) (by decide +kernel)) rfl
theorem t_1242 : (Jvm.Cond.methodLink "CardLinkModel" (103 : Nat) ({ cls := "CardLinkModel", name := "clocks", desc := "(I)I" } : Jvm.MethodName)) ∈ gW := gW_of (List.mem_of_getElem? (i := 1242) (by decide +kernel)) rfl
theorem t_1243 : (Jvm.Cond.static ({ cls := "CardLinkModel", name := "clocks", desc := "(I)I" } : Jvm.MethodName)) ∈ gW := gW_of (List.mem_of_getElem? (i := 1243) (by decide +kernel)) rfl
theorem t_1244 : (Jvm.Cond.code ({ cls := "CardLinkModel", name := "clocks", desc := "(I)I" } : Jvm.MethodName) prog_10_method_10_code (1 : Nat) (Option.some Jvm.ClassFile.FieldType.int)) ∈ gW := gW_of (List.mem_of_getElem? (i := 1244) (by decide +kernel)) rfl
theorem t_1245 : (Jvm.Cond.methodLink "CardLinkModel" (107 : Nat) ({ cls := "CardLinkModel", name := "bits", desc := "(I)I" } : Jvm.MethodName)) ∈ gW := gW_of (List.mem_of_getElem? (i := 1245) (by decide +kernel)) rfl
theorem t_1246 : (Jvm.Cond.static ({ cls := "CardLinkModel", name := "bits", desc := "(I)I" } : Jvm.MethodName)) ∈ gW := gW_of (List.mem_of_getElem? (i := 1246) (by decide +kernel)) rfl
theorem t_1247 : (Jvm.Cond.code ({ cls := "CardLinkModel", name := "bits", desc := "(I)I" } : Jvm.MethodName) prog_10_method_11_code (1 : Nat) (Option.some Jvm.ClassFile.FieldType.int)) ∈ gW := gW_of (List.mem_of_getElem? (i := 1247) (by decide +kernel)) rfl
theorem t_1248 : (Jvm.Cond.methodLink "CardLinkModel" (116 : Nat) ({ cls := "CardLinkModel", name := "window", desc := "()V" } : Jvm.MethodName)) ∈ gW := gW_of (List.mem_of_getElem? (i := 1248) (by decide +kernel)) rfl
theorem t_1250 : (Jvm.Cond.instanceMethod ({ cls := "CardLinkModel", name := "window", desc := "()V" } : Jvm.MethodName)) ∈ gW := gW_of (List.mem_of_getElem? (i := 1250) (by decide +kernel)) rfl
theorem t_1251 : (Jvm.Cond.code ({ cls := "CardLinkModel", name := "window", desc := "()V" } : Jvm.MethodName) prog_10_method_13_code (2 : Nat) (Option.none : Option Jvm.ClassFile.FieldType)) ∈ gW := gW_of (List.mem_of_getElem? (i := 1251) (by decide +kernel)) rfl
theorem t_1252 : (Jvm.Cond.methodLink "CardLinkModel" (131 : Nat) ({ cls := "CardLinkModel", name := "checks", desc := "()V" } : Jvm.MethodName)) ∈ gW := gW_of (List.mem_of_getElem? (i := 1252) (by decide +kernel)) rfl
theorem t_1254 : (Jvm.Cond.instanceMethod ({ cls := "CardLinkModel", name := "checks", desc := "()V" } : Jvm.MethodName)) ∈ gW := gW_of (List.mem_of_getElem? (i := 1254) (by decide +kernel)) rfl
theorem t_1255 : (Jvm.Cond.code ({ cls := "CardLinkModel", name := "checks", desc := "()V" } : Jvm.MethodName) prog_10_method_17_code (3 : Nat) (Option.none : Option Jvm.ClassFile.FieldType)) ∈ gW := gW_of (List.mem_of_getElem? (i := 1255) (by decide +kernel)) rfl
theorem t_1256 : (Jvm.Cond.methodLink "CardLinkLaw" (39 : Nat) ({ cls := "CardLinkModel", name := "answer", desc := "(I)I" } : Jvm.MethodName)) ∈ gW := gW_of (List.mem_of_getElem? (i := 1256) (by decide +kernel)) rfl
theorem t_1257 : (Jvm.Cond.instanceMethod ({ cls := "CardLinkModel", name := "answer", desc := "(I)I" } : Jvm.MethodName)) ∈ gW := gW_of (List.mem_of_getElem? (i := 1257) (by decide +kernel)) rfl
theorem t_1258 : (Jvm.Cond.selects "CardLinkModel" ({ cls := "CardLinkModel", name := "answer", desc := "(I)I" } : Jvm.MethodName) ({ cls := "CardLinkModel", name := "answer", desc := "(I)I" } : Jvm.MethodName)) ∈ gW := gW_of (List.mem_of_getElem? (i := 1258) (by decide +kernel)) rfl
theorem t_1259 : (Jvm.Cond.code ({ cls := "CardLinkModel", name := "answer", desc := "(I)I" } : Jvm.MethodName) prog_10_method_18_code (2 : Nat) (Option.some Jvm.ClassFile.FieldType.int)) ∈ gW := gW_of (List.mem_of_getElem? (i := 1259) (by decide +kernel)) rfl
theorem t_1260 : (Jvm.Cond.methodLink "CardLinkLaw" (43 : Nat) ({ cls := "CardLinkModel", name := "historical", desc := "(I)I" } : Jvm.MethodName)) ∈ gW := gW_of (List.mem_of_getElem? (i := 1260) (by decide +kernel)) rfl
theorem t_1261 : (Jvm.Cond.instanceMethod ({ cls := "CardLinkModel", name := "historical", desc := "(I)I" } : Jvm.MethodName)) ∈ gW := gW_of (List.mem_of_getElem? (i := 1261) (by decide +kernel)) rfl
theorem t_1262 : (Jvm.Cond.selects "CardLinkModel" ({ cls := "CardLinkModel", name := "historical", desc := "(I)I" } : Jvm.MethodName) ({ cls := "CardLinkModel", name := "historical", desc := "(I)I" } : Jvm.MethodName)) ∈ gW := gW_of (List.mem_of_getElem? (i := 1262) (by decide +kernel)) rfl
theorem t_1263 : (Jvm.Cond.code ({ cls := "CardLinkModel", name := "historical", desc := "(I)I" } : Jvm.MethodName) prog_10_method_19_code (2 : Nat) (Option.some Jvm.ClassFile.FieldType.int)) ∈ gW := gW_of (List.mem_of_getElem? (i := 1263) (by decide +kernel)) rfl
theorem t_1264 : (Jvm.Cond.methodLink "CardLinkLaw" (47 : Nat) ({ cls := "CardLinkModel", name := "message", desc := "()I" } : Jvm.MethodName)) ∈ gW := gW_of (List.mem_of_getElem? (i := 1264) (by decide +kernel)) rfl
theorem t_1265 : (Jvm.Cond.instanceMethod ({ cls := "CardLinkModel", name := "message", desc := "()I" } : Jvm.MethodName)) ∈ gW := gW_of (List.mem_of_getElem? (i := 1265) (by decide +kernel)) rfl
theorem t_1266 : (Jvm.Cond.selects "CardLinkModel" ({ cls := "CardLinkModel", name := "message", desc := "()I" } : Jvm.MethodName) ({ cls := "CardLinkModel", name := "message", desc := "()I" } : Jvm.MethodName)) ∈ gW := gW_of (List.mem_of_getElem? (i := 1266) (by decide +kernel)) rfl
theorem t_1267 : (Jvm.Cond.code ({ cls := "CardLinkModel", name := "message", desc := "()I" } : Jvm.MethodName) prog_10_method_22_code (3 : Nat) (Option.some Jvm.ClassFile.FieldType.int)) ∈ gW := gW_of (List.mem_of_getElem? (i := 1267) (by decide +kernel)) rfl
theorem t_1268 : (Jvm.Cond.methodLink "CardLinkModel" (137 : Nat) ({ cls := "CardLinkModel", name := "canBegin", desc := "()Z" } : Jvm.MethodName)) ∈ gW := gW_of (List.mem_of_getElem? (i := 1268) (by decide +kernel)) rfl
theorem t_1270 : (Jvm.Cond.instanceMethod ({ cls := "CardLinkModel", name := "canBegin", desc := "()Z" } : Jvm.MethodName)) ∈ gW := gW_of (List.mem_of_getElem? (i := 1270) (by decide +kernel)) rfl
theorem t_1271 : (Jvm.Cond.code ({ cls := "CardLinkModel", name := "canBegin", desc := "()Z" } : Jvm.MethodName) prog_10_method_20_code (1 : Nat) (Option.some Jvm.ClassFile.FieldType.boolean)) ∈ gW := gW_of (List.mem_of_getElem? (i := 1271) (by decide +kernel)) rfl
theorem t_1272 : (Jvm.Cond.methodLink "CardLinkModel" (141 : Nat) ({ cls := "CardLinkModel", name := "starts", desc := "(I)V" } : Jvm.MethodName)) ∈ gW := gW_of (List.mem_of_getElem? (i := 1272) (by decide +kernel)) rfl
theorem t_1274 : (Jvm.Cond.instanceMethod ({ cls := "CardLinkModel", name := "starts", desc := "(I)V" } : Jvm.MethodName)) ∈ gW := gW_of (List.mem_of_getElem? (i := 1274) (by decide +kernel)) rfl
theorem t_1275 : (Jvm.Cond.code ({ cls := "CardLinkModel", name := "starts", desc := "(I)V" } : Jvm.MethodName) prog_10_method_21_code (2 : Nat) (Option.none : Option Jvm.ClassFile.FieldType)) ∈ gW := gW_of (List.mem_of_getElem? (i := 1275) (by decide +kernel)) rfl
theorem t_1276 : (Jvm.Cond.methodLink "CardLinkLaw" (51 : Nat) ({ cls := "CardLinkModel", name := "room", desc := "(I)I" } : Jvm.MethodName)) ∈ gW := gW_of (List.mem_of_getElem? (i := 1276) (by decide +kernel)) rfl
theorem t_1277 : (Jvm.Cond.instanceMethod ({ cls := "CardLinkModel", name := "room", desc := "(I)I" } : Jvm.MethodName)) ∈ gW := gW_of (List.mem_of_getElem? (i := 1277) (by decide +kernel)) rfl
theorem t_1278 : (Jvm.Cond.selects "CardLinkModel" ({ cls := "CardLinkModel", name := "room", desc := "(I)I" } : Jvm.MethodName) ({ cls := "CardLinkModel", name := "room", desc := "(I)I" } : Jvm.MethodName)) ∈ gW := gW_of (List.mem_of_getElem? (i := 1278) (by decide +kernel)) rfl
theorem t_1279 : (Jvm.Cond.code ({ cls := "CardLinkModel", name := "room", desc := "(I)I" } : Jvm.MethodName) prog_10_method_23_code (2 : Nat) (Option.some Jvm.ClassFile.FieldType.int)) ∈ gW := gW_of (List.mem_of_getElem? (i := 1279) (by decide +kernel)) rfl
theorem t_1280 : (Jvm.Cond.methodLink "CardLinkLaw" (56 : Nat) ({ cls := "CardLinkModel", name := "fault", desc := "(III)I" } : Jvm.MethodName)) ∈ gW := gW_of (List.mem_of_getElem? (i := 1280) (by decide +kernel)) rfl
theorem t_1281 : (Jvm.Cond.instanceMethod ({ cls := "CardLinkModel", name := "fault", desc := "(III)I" } : Jvm.MethodName)) ∈ gW := gW_of (List.mem_of_getElem? (i := 1281) (by decide +kernel)) rfl
theorem t_1282 : (Jvm.Cond.selects "CardLinkModel" ({ cls := "CardLinkModel", name := "fault", desc := "(III)I" } : Jvm.MethodName) ({ cls := "CardLinkModel", name := "fault", desc := "(III)I" } : Jvm.MethodName)) ∈ gW := gW_of (List.mem_of_getElem? (i := 1282) (by decide +kernel)) rfl
theorem t_1283 : (Jvm.Cond.code ({ cls := "CardLinkModel", name := "fault", desc := "(III)I" } : Jvm.MethodName) prog_10_method_27_code (4 : Nat) (Option.some Jvm.ClassFile.FieldType.int)) ∈ gW := gW_of (List.mem_of_getElem? (i := 1283) (by decide +kernel)) rfl
theorem t_1284 : (Jvm.Cond.methodLink "CardLinkModel" (147 : Nat) ({ cls := "CardLinkModel", name := "passes", desc := "()V" } : Jvm.MethodName)) ∈ gW := gW_of (List.mem_of_getElem? (i := 1284) (by decide +kernel)) rfl
theorem t_1286 : (Jvm.Cond.instanceMethod ({ cls := "CardLinkModel", name := "passes", desc := "()V" } : Jvm.MethodName)) ∈ gW := gW_of (List.mem_of_getElem? (i := 1286) (by decide +kernel)) rfl
theorem t_1287 : (Jvm.Cond.code ({ cls := "CardLinkModel", name := "passes", desc := "()V" } : Jvm.MethodName) prog_10_method_25_code (4 : Nat) (Option.none : Option Jvm.ClassFile.FieldType)) ∈ gW := gW_of (List.mem_of_getElem? (i := 1287) (by decide +kernel)) rfl
theorem t_1288 : (Jvm.Cond.methodLink "CardLinkModel" (144 : Nat) ({ cls := "CardLinkModel", name := "faultAt", desc := "(I)I" } : Jvm.MethodName)) ∈ gW := gW_of (List.mem_of_getElem? (i := 1288) (by decide +kernel)) rfl
theorem t_1290 : (Jvm.Cond.instanceMethod ({ cls := "CardLinkModel", name := "faultAt", desc := "(I)I" } : Jvm.MethodName)) ∈ gW := gW_of (List.mem_of_getElem? (i := 1290) (by decide +kernel)) rfl
theorem t_1291 : (Jvm.Cond.code ({ cls := "CardLinkModel", name := "faultAt", desc := "(I)I" } : Jvm.MethodName) prog_10_method_24_code (3 : Nat) (Option.some Jvm.ClassFile.FieldType.int)) ∈ gW := gW_of (List.mem_of_getElem? (i := 1291) (by decide +kernel)) rfl
theorem t_1292 : (Jvm.Cond.methodLink "CardLinkModel" (150 : Nat) ({ cls := "CardLinkModel", name := "putsFault", desc := "(III)V" } : Jvm.MethodName)) ∈ gW := gW_of (List.mem_of_getElem? (i := 1292) (by decide +kernel)) rfl
theorem t_1294 : (Jvm.Cond.instanceMethod ({ cls := "CardLinkModel", name := "putsFault", desc := "(III)V" } : Jvm.MethodName)) ∈ gW := gW_of (List.mem_of_getElem? (i := 1294) (by decide +kernel)) rfl
theorem t_1295 : (Jvm.Cond.code ({ cls := "CardLinkModel", name := "putsFault", desc := "(III)V" } : Jvm.MethodName) prog_10_method_26_code (5 : Nat) (Option.none : Option Jvm.ClassFile.FieldType)) ∈ gW := gW_of (List.mem_of_getElem? (i := 1295) (by decide +kernel)) rfl
theorem t_1296 : (Jvm.Cond.methodLink "CardLinkLaw" (60 : Nat) ({ cls := "CardLinkModel", name := "repeats", desc := "(I)I" } : Jvm.MethodName)) ∈ gW := gW_of (List.mem_of_getElem? (i := 1296) (by decide +kernel)) rfl
theorem t_1297 : (Jvm.Cond.instanceMethod ({ cls := "CardLinkModel", name := "repeats", desc := "(I)I" } : Jvm.MethodName)) ∈ gW := gW_of (List.mem_of_getElem? (i := 1297) (by decide +kernel)) rfl
theorem t_1298 : (Jvm.Cond.selects "CardLinkModel" ({ cls := "CardLinkModel", name := "repeats", desc := "(I)I" } : Jvm.MethodName) ({ cls := "CardLinkModel", name := "repeats", desc := "(I)I" } : Jvm.MethodName)) ∈ gW := gW_of (List.mem_of_getElem? (i := 1298) (by decide +kernel)) rfl
theorem t_1299 : (Jvm.Cond.code ({ cls := "CardLinkModel", name := "repeats", desc := "(I)I" } : Jvm.MethodName) prog_10_method_28_code (3 : Nat) (Option.some Jvm.ClassFile.FieldType.int)) ∈ gW := gW_of (List.mem_of_getElem? (i := 1299) (by decide +kernel)) rfl
theorem t_1300 : (Jvm.Cond.methodLink "CardLinkLaw" (64 : Nat) ({ cls := "CardLinkModel", name := "step", desc := "(I)I" } : Jvm.MethodName)) ∈ gW := gW_of (List.mem_of_getElem? (i := 1300) (by decide +kernel)) rfl
theorem t_1301 : (Jvm.Cond.instanceMethod ({ cls := "CardLinkModel", name := "step", desc := "(I)I" } : Jvm.MethodName)) ∈ gW := gW_of (List.mem_of_getElem? (i := 1301) (by decide +kernel)) rfl
theorem t_1302 : (Jvm.Cond.selects "CardLinkModel" ({ cls := "CardLinkModel", name := "step", desc := "(I)I" } : Jvm.MethodName) ({ cls := "CardLinkModel", name := "step", desc := "(I)I" } : Jvm.MethodName)) ∈ gW := gW_of (List.mem_of_getElem? (i := 1302) (by decide +kernel)) rfl
theorem t_1303 : (Jvm.Cond.code ({ cls := "CardLinkModel", name := "step", desc := "(I)I" } : Jvm.MethodName) prog_10_method_67_code (4 : Nat) (Option.some Jvm.ClassFile.FieldType.int)) ∈ gW := gW_of (List.mem_of_getElem? (i := 1303) (by decide +kernel)) rfl
theorem t_1304 : (Jvm.Cond.methodLink "CardLinkModel" (297 : Nat) ({ cls := "CardLinkModel", name := "turns", desc := "()I" } : Jvm.MethodName)) ∈ gW := gW_of (List.mem_of_getElem? (i := 1304) (by decide +kernel)) rfl
theorem t_1306 : (Jvm.Cond.instanceMethod ({ cls := "CardLinkModel", name := "turns", desc := "()I" } : Jvm.MethodName)) ∈ gW := gW_of (List.mem_of_getElem? (i := 1306) (by decide +kernel)) rfl
theorem t_1307 : (Jvm.Cond.code ({ cls := "CardLinkModel", name := "turns", desc := "()I" } : Jvm.MethodName) prog_10_method_66_code (4 : Nat) (Option.some Jvm.ClassFile.FieldType.int)) ∈ gW := gW_of (List.mem_of_getElem? (i := 1307) (by decide +kernel)) rfl
theorem t_1308 : (Jvm.Cond.methodLink "CardLinkModel" (213 : Nat) ({ cls := "CardLinkModel", name := "sendsOut", desc := "(I)V" } : Jvm.MethodName)) ∈ gW := gW_of (List.mem_of_getElem? (i := 1308) (by decide +kernel)) rfl
theorem t_1310 : (Jvm.Cond.instanceMethod ({ cls := "CardLinkModel", name := "sendsOut", desc := "(I)V" } : Jvm.MethodName)) ∈ gW := gW_of (List.mem_of_getElem? (i := 1310) (by decide +kernel)) rfl
theorem t_1311 : (Jvm.Cond.code ({ cls := "CardLinkModel", name := "sendsOut", desc := "(I)V" } : Jvm.MethodName) prog_10_method_40_code (5 : Nat) (Option.none : Option Jvm.ClassFile.FieldType)) ∈ gW := gW_of (List.mem_of_getElem? (i := 1311) (by decide +kernel)) rfl
theorem t_1312 : (Jvm.Cond.methodLink "CardLinkModel" (204 : Nat) ({ cls := "CardLinkModel", name := "sendsPending", desc := "(I)V" } : Jvm.MethodName)) ∈ gW := gW_of (List.mem_of_getElem? (i := 1312) (by decide +kernel)) rfl
theorem t_1314 : (Jvm.Cond.instanceMethod ({ cls := "CardLinkModel", name := "sendsPending", desc := "(I)V" } : Jvm.MethodName)) ∈ gW := gW_of (List.mem_of_getElem? (i := 1314) (by decide +kernel)) rfl
theorem t_1315 : (Jvm.Cond.code ({ cls := "CardLinkModel", name := "sendsPending", desc := "(I)V" } : Jvm.MethodName) prog_10_method_39_code (5 : Nat) (Option.none : Option Jvm.ClassFile.FieldType)) ∈ gW := gW_of (List.mem_of_getElem? (i := 1315) (by decide +kernel)) rfl
theorem t_1316 : (Jvm.Cond.methodLink "CardLinkModel" (198 : Nat) ({ cls := "CardLinkModel", name := "sends", desc := "(III)V" } : Jvm.MethodName)) ∈ gW := gW_of (List.mem_of_getElem? (i := 1316) (by decide +kernel)) rfl
theorem t_1318 : (Jvm.Cond.instanceMethod ({ cls := "CardLinkModel", name := "sends", desc := "(III)V" } : Jvm.MethodName)) ∈ gW := gW_of (List.mem_of_getElem? (i := 1318) (by decide +kernel)) rfl
theorem t_1319 : (Jvm.Cond.code ({ cls := "CardLinkModel", name := "sends", desc := "(III)V" } : Jvm.MethodName) prog_10_method_32_code (7 : Nat) (Option.none : Option Jvm.ClassFile.FieldType)) ∈ gW := gW_of (List.mem_of_getElem? (i := 1319) (by decide +kernel)) rfl
theorem t_1320 : (Jvm.Cond.methodLink "CardLinkModel" (170 : Nat) ({ cls := "CardLinkModel", name := "carries", desc := "(I)V" } : Jvm.MethodName)) ∈ gW := gW_of (List.mem_of_getElem? (i := 1320) (by decide +kernel)) rfl
theorem t_1322 : (Jvm.Cond.instanceMethod ({ cls := "CardLinkModel", name := "carries", desc := "(I)V" } : Jvm.MethodName)) ∈ gW := gW_of (List.mem_of_getElem? (i := 1322) (by decide +kernel)) rfl
theorem t_1323 : (Jvm.Cond.code ({ cls := "CardLinkModel", name := "carries", desc := "(I)V" } : Jvm.MethodName) prog_10_method_29_code (6 : Nat) (Option.none : Option Jvm.ClassFile.FieldType)) ∈ gW := gW_of (List.mem_of_getElem? (i := 1323) (by decide +kernel)) rfl
theorem t_1324 : (Jvm.Cond.methodLink "CardLinkModel" (173 : Nat) ({ cls := "CardLinkModel", name := "howCame", desc := "(I)I" } : Jvm.MethodName)) ∈ gW := gW_of (List.mem_of_getElem? (i := 1324) (by decide +kernel)) rfl
theorem t_1326 : (Jvm.Cond.instanceMethod ({ cls := "CardLinkModel", name := "howCame", desc := "(I)I" } : Jvm.MethodName)) ∈ gW := gW_of (List.mem_of_getElem? (i := 1326) (by decide +kernel)) rfl
theorem t_1327 : (Jvm.Cond.code ({ cls := "CardLinkModel", name := "howCame", desc := "(I)I" } : Jvm.MethodName) prog_10_method_31_code (4 : Nat) (Option.some Jvm.ClassFile.FieldType.int)) ∈ gW := gW_of (List.mem_of_getElem? (i := 1327) (by decide +kernel)) rfl
theorem t_1328 : (Jvm.Cond.methodLink "CardLinkModel" (163 : Nat) ({ cls := "CardLinkModel", name := "isShaped", desc := "(I)Z" } : Jvm.MethodName)) ∈ gW := gW_of (List.mem_of_getElem? (i := 1328) (by decide +kernel)) rfl
theorem t_1330 : (Jvm.Cond.instanceMethod ({ cls := "CardLinkModel", name := "isShaped", desc := "(I)Z" } : Jvm.MethodName)) ∈ gW := gW_of (List.mem_of_getElem? (i := 1330) (by decide +kernel)) rfl
theorem t_1331 : (Jvm.Cond.code ({ cls := "CardLinkModel", name := "isShaped", desc := "(I)Z" } : Jvm.MethodName) prog_10_method_30_code (5 : Nat) (Option.some Jvm.ClassFile.FieldType.boolean)) ∈ gW := gW_of (List.mem_of_getElem? (i := 1331) (by decide +kernel)) rfl
theorem t_1332 : (Jvm.Cond.methodLink "CardLinkModel" (185 : Nat) ({ cls := "CardLinkModel", name := "logs", desc := "(II)V" } : Jvm.MethodName)) ∈ gW := gW_of (List.mem_of_getElem? (i := 1332) (by decide +kernel)) rfl
theorem t_1334 : (Jvm.Cond.instanceMethod ({ cls := "CardLinkModel", name := "logs", desc := "(II)V" } : Jvm.MethodName)) ∈ gW := gW_of (List.mem_of_getElem? (i := 1334) (by decide +kernel)) rfl
theorem t_1335 : (Jvm.Cond.code ({ cls := "CardLinkModel", name := "logs", desc := "(II)V" } : Jvm.MethodName) prog_10_method_35_code (5 : Nat) (Option.none : Option Jvm.ClassFile.FieldType)) ∈ gW := gW_of (List.mem_of_getElem? (i := 1335) (by decide +kernel)) rfl
theorem t_1336 : (Jvm.Cond.methodLink "CardLinkModel" (195 : Nat) ({ cls := "CardLinkModel", name := "unlikeOf", desc := "(I)I" } : Jvm.MethodName)) ∈ gW := gW_of (List.mem_of_getElem? (i := 1336) (by decide +kernel)) rfl
theorem t_1338 : (Jvm.Cond.instanceMethod ({ cls := "CardLinkModel", name := "unlikeOf", desc := "(I)I" } : Jvm.MethodName)) ∈ gW := gW_of (List.mem_of_getElem? (i := 1338) (by decide +kernel)) rfl
theorem t_1339 : (Jvm.Cond.code ({ cls := "CardLinkModel", name := "unlikeOf", desc := "(I)I" } : Jvm.MethodName) prog_10_method_34_code (3 : Nat) (Option.some Jvm.ClassFile.FieldType.int)) ∈ gW := gW_of (List.mem_of_getElem? (i := 1339) (by decide +kernel)) rfl
theorem t_1340 : (Jvm.Cond.methodLink "CardLinkModel" (188 : Nat) ({ cls := "CardLinkModel", name := "isAlike", desc := "(II)Z" } : Jvm.MethodName)) ∈ gW := gW_of (List.mem_of_getElem? (i := 1340) (by decide +kernel)) rfl
theorem t_1342 : (Jvm.Cond.instanceMethod ({ cls := "CardLinkModel", name := "isAlike", desc := "(II)Z" } : Jvm.MethodName)) ∈ gW := gW_of (List.mem_of_getElem? (i := 1342) (by decide +kernel)) rfl
theorem t_1343 : (Jvm.Cond.code ({ cls := "CardLinkModel", name := "isAlike", desc := "(II)Z" } : Jvm.MethodName) prog_10_method_33_code (4 : Nat) (Option.some Jvm.ClassFile.FieldType.boolean)) ∈ gW := gW_of (List.mem_of_getElem? (i := 1343) (by decide +kernel)) rfl
theorem t_1344 : (Jvm.Cond.methodLink "CardLinkModel" (267 : Nat) ({ cls := "CardLinkModel", name := "asks", desc := "(III)V" } : Jvm.MethodName)) ∈ gW := gW_of (List.mem_of_getElem? (i := 1344) (by decide +kernel)) rfl
theorem t_1346 : (Jvm.Cond.instanceMethod ({ cls := "CardLinkModel", name := "asks", desc := "(III)V" } : Jvm.MethodName)) ∈ gW := gW_of (List.mem_of_getElem? (i := 1346) (by decide +kernel)) rfl
theorem t_1347 : (Jvm.Cond.code ({ cls := "CardLinkModel", name := "asks", desc := "(III)V" } : Jvm.MethodName) prog_10_method_38_code (4 : Nat) (Option.none : Option Jvm.ClassFile.FieldType)) ∈ gW := gW_of (List.mem_of_getElem? (i := 1347) (by decide +kernel)) rfl
theorem t_1348 : (Jvm.Cond.methodLink "CardLinkModel" (201 : Nat) ({ cls := "CardLinkModel", name := "sendsAsked", desc := "(I)V" } : Jvm.MethodName)) ∈ gW := gW_of (List.mem_of_getElem? (i := 1348) (by decide +kernel)) rfl
theorem t_1350 : (Jvm.Cond.instanceMethod ({ cls := "CardLinkModel", name := "sendsAsked", desc := "(I)V" } : Jvm.MethodName)) ∈ gW := gW_of (List.mem_of_getElem? (i := 1350) (by decide +kernel)) rfl
theorem t_1351 : (Jvm.Cond.code ({ cls := "CardLinkModel", name := "sendsAsked", desc := "(I)V" } : Jvm.MethodName) prog_10_method_37_code (3 : Nat) (Option.none : Option Jvm.ClassFile.FieldType)) ∈ gW := gW_of (List.mem_of_getElem? (i := 1351) (by decide +kernel)) rfl
theorem t_1352 : (Jvm.Cond.methodLink "CardLinkModel" (288 : Nat) ({ cls := "CardLinkModel", name := "bringsCame", desc := "()V" } : Jvm.MethodName)) ∈ gW := gW_of (List.mem_of_getElem? (i := 1352) (by decide +kernel)) rfl
theorem t_1354 : (Jvm.Cond.instanceMethod ({ cls := "CardLinkModel", name := "bringsCame", desc := "()V" } : Jvm.MethodName)) ∈ gW := gW_of (List.mem_of_getElem? (i := 1354) (by decide +kernel)) rfl
theorem t_1355 : (Jvm.Cond.code ({ cls := "CardLinkModel", name := "bringsCame", desc := "()V" } : Jvm.MethodName) prog_10_method_65_code (2 : Nat) (Option.none : Option Jvm.ClassFile.FieldType)) ∈ gW := gW_of (List.mem_of_getElem? (i := 1355) (by decide +kernel)) rfl
theorem t_1356 : (Jvm.Cond.methodLink "CardLinkModel" (291 : Nat) ({ cls := "CardLinkModel", name := "readerGets", desc := "()V" } : Jvm.MethodName)) ∈ gW := gW_of (List.mem_of_getElem? (i := 1356) (by decide +kernel)) rfl
theorem t_1358 : (Jvm.Cond.instanceMethod ({ cls := "CardLinkModel", name := "readerGets", desc := "()V" } : Jvm.MethodName)) ∈ gW := gW_of (List.mem_of_getElem? (i := 1358) (by decide +kernel)) rfl
theorem t_1359 : (Jvm.Cond.code ({ cls := "CardLinkModel", name := "readerGets", desc := "()V" } : Jvm.MethodName) prog_10_method_52_code (2 : Nat) (Option.none : Option Jvm.ClassFile.FieldType)) ∈ gW := gW_of (List.mem_of_getElem? (i := 1359) (by decide +kernel)) rfl
theorem t_1360 : (Jvm.Cond.methodLink "CardLinkModel" (225 : Nat) ({ cls := "CardLinkModel", name := "tries", desc := "(II)V" } : Jvm.MethodName)) ∈ gW := gW_of (List.mem_of_getElem? (i := 1360) (by decide +kernel)) rfl
theorem t_1362 : (Jvm.Cond.instanceMethod ({ cls := "CardLinkModel", name := "tries", desc := "(II)V" } : Jvm.MethodName)) ∈ gW := gW_of (List.mem_of_getElem? (i := 1362) (by decide +kernel)) rfl
theorem t_1363 : (Jvm.Cond.code ({ cls := "CardLinkModel", name := "tries", desc := "(II)V" } : Jvm.MethodName) prog_10_method_51_code (3 : Nat) (Option.none : Option Jvm.ClassFile.FieldType)) ∈ gW := gW_of (List.mem_of_getElem? (i := 1363) (by decide +kernel)) rfl
theorem t_1364 : (Jvm.Cond.methodLink "CardLinkModel" (228 : Nat) ({ cls := "CardLinkModel", name := "isResponse", desc := "(I)Z" } : Jvm.MethodName)) ∈ gW := gW_of (List.mem_of_getElem? (i := 1364) (by decide +kernel)) rfl
theorem t_1366 : (Jvm.Cond.instanceMethod ({ cls := "CardLinkModel", name := "isResponse", desc := "(I)Z" } : Jvm.MethodName)) ∈ gW := gW_of (List.mem_of_getElem? (i := 1366) (by decide +kernel)) rfl
theorem t_1367 : (Jvm.Cond.code ({ cls := "CardLinkModel", name := "isResponse", desc := "(I)Z" } : Jvm.MethodName) prog_10_method_44_code (3 : Nat) (Option.some Jvm.ClassFile.FieldType.boolean)) ∈ gW := gW_of (List.mem_of_getElem? (i := 1367) (by decide +kernel)) rfl
theorem t_1368 : (Jvm.Cond.methodLink "CardLinkModel" (231 : Nat) ({ cls := "CardLinkModel", name := "readerAnswered", desc := "()V" } : Jvm.MethodName)) ∈ gW := gW_of (List.mem_of_getElem? (i := 1368) (by decide +kernel)) rfl
theorem t_1370 : (Jvm.Cond.instanceMethod ({ cls := "CardLinkModel", name := "readerAnswered", desc := "()V" } : Jvm.MethodName)) ∈ gW := gW_of (List.mem_of_getElem? (i := 1370) (by decide +kernel)) rfl
theorem t_1371 : (Jvm.Cond.code ({ cls := "CardLinkModel", name := "readerAnswered", desc := "()V" } : Jvm.MethodName) prog_10_method_53_code (2 : Nat) (Option.none : Option Jvm.ClassFile.FieldType)) ∈ gW := gW_of (List.mem_of_getElem? (i := 1371) (by decide +kernel)) rfl
theorem t_1372 : (Jvm.Cond.methodLink "CardLinkModel" (243 : Nat) ({ cls := "CardLinkModel", name := "done", desc := "()V" } : Jvm.MethodName)) ∈ gW := gW_of (List.mem_of_getElem? (i := 1372) (by decide +kernel)) rfl
theorem t_1374 : (Jvm.Cond.instanceMethod ({ cls := "CardLinkModel", name := "done", desc := "()V" } : Jvm.MethodName)) ∈ gW := gW_of (List.mem_of_getElem? (i := 1374) (by decide +kernel)) rfl
theorem t_1375 : (Jvm.Cond.code ({ cls := "CardLinkModel", name := "done", desc := "()V" } : Jvm.MethodName) prog_10_method_50_code (1 : Nat) (Option.none : Option Jvm.ClassFile.FieldType)) ∈ gW := gW_of (List.mem_of_getElem? (i := 1375) (by decide +kernel)) rfl
theorem t_1376 : (Jvm.Cond.methodLink "CardLinkModel" (255 : Nat) ({ cls := "CardLinkModel", name := "resynchs", desc := "(I)V" } : Jvm.MethodName)) ∈ gW := gW_of (List.mem_of_getElem? (i := 1376) (by decide +kernel)) rfl
theorem t_1378 : (Jvm.Cond.instanceMethod ({ cls := "CardLinkModel", name := "resynchs", desc := "(I)V" } : Jvm.MethodName)) ∈ gW := gW_of (List.mem_of_getElem? (i := 1378) (by decide +kernel)) rfl
theorem t_1379 : (Jvm.Cond.code ({ cls := "CardLinkModel", name := "resynchs", desc := "(I)V" } : Jvm.MethodName) prog_10_method_43_code (2 : Nat) (Option.none : Option Jvm.ClassFile.FieldType)) ∈ gW := gW_of (List.mem_of_getElem? (i := 1379) (by decide +kernel)) rfl
theorem t_1380 : (Jvm.Cond.methodLink "CardLinkModel" (207 : Nat) ({ cls := "CardLinkModel", name := "empties", desc := "(I)V" } : Jvm.MethodName)) ∈ gW := gW_of (List.mem_of_getElem? (i := 1380) (by decide +kernel)) rfl
theorem t_1382 : (Jvm.Cond.instanceMethod ({ cls := "CardLinkModel", name := "empties", desc := "(I)V" } : Jvm.MethodName)) ∈ gW := gW_of (List.mem_of_getElem? (i := 1382) (by decide +kernel)) rfl
theorem t_1383 : (Jvm.Cond.code ({ cls := "CardLinkModel", name := "empties", desc := "(I)V" } : Jvm.MethodName) prog_10_method_42_code (3 : Nat) (Option.none : Option Jvm.ClassFile.FieldType)) ∈ gW := gW_of (List.mem_of_getElem? (i := 1383) (by decide +kernel)) rfl
theorem t_1384 : (Jvm.Cond.methodLink "CardLinkModel" (234 : Nat) ({ cls := "CardLinkModel", name := "takes", desc := "(I)Z" } : Jvm.MethodName)) ∈ gW := gW_of (List.mem_of_getElem? (i := 1384) (by decide +kernel)) rfl
theorem t_1386 : (Jvm.Cond.instanceMethod ({ cls := "CardLinkModel", name := "takes", desc := "(I)Z" } : Jvm.MethodName)) ∈ gW := gW_of (List.mem_of_getElem? (i := 1386) (by decide +kernel)) rfl
theorem t_1387 : (Jvm.Cond.code ({ cls := "CardLinkModel", name := "takes", desc := "(I)Z" } : Jvm.MethodName) prog_10_method_45_code (4 : Nat) (Option.some Jvm.ClassFile.FieldType.boolean)) ∈ gW := gW_of (List.mem_of_getElem? (i := 1387) (by decide +kernel)) rfl
theorem t_1388 : (Jvm.Cond.methodLink "CardLinkModel" (210 : Nat) ({ cls := "CardLinkModel", name := "isThrough", desc := "(I)V" } : Jvm.MethodName)) ∈ gW := gW_of (List.mem_of_getElem? (i := 1388) (by decide +kernel)) rfl
theorem t_1390 : (Jvm.Cond.instanceMethod ({ cls := "CardLinkModel", name := "isThrough", desc := "(I)V" } : Jvm.MethodName)) ∈ gW := gW_of (List.mem_of_getElem? (i := 1390) (by decide +kernel)) rfl
theorem t_1391 : (Jvm.Cond.code ({ cls := "CardLinkModel", name := "isThrough", desc := "(I)V" } : Jvm.MethodName) prog_10_method_41_code (3 : Nat) (Option.none : Option Jvm.ClassFile.FieldType)) ∈ gW := gW_of (List.mem_of_getElem? (i := 1391) (by decide +kernel)) rfl
theorem t_1392 : (Jvm.Cond.methodLink "CardLinkModel" (237 : Nat) ({ cls := "CardLinkModel", name := "hasMoreCome", desc := "()Z" } : Jvm.MethodName)) ∈ gW := gW_of (List.mem_of_getElem? (i := 1392) (by decide +kernel)) rfl
theorem t_1394 : (Jvm.Cond.instanceMethod ({ cls := "CardLinkModel", name := "hasMoreCome", desc := "()Z" } : Jvm.MethodName)) ∈ gW := gW_of (List.mem_of_getElem? (i := 1394) (by decide +kernel)) rfl
theorem t_1395 : (Jvm.Cond.code ({ cls := "CardLinkModel", name := "hasMoreCome", desc := "()Z" } : Jvm.MethodName) prog_10_method_46_code (1 : Nat) (Option.some Jvm.ClassFile.FieldType.boolean)) ∈ gW := gW_of (List.mem_of_getElem? (i := 1395) (by decide +kernel)) rfl
theorem t_1396 : (Jvm.Cond.methodLink "CardLinkModel" (216 : Nat) ({ cls := "CardLinkModel", name := "sendsR", desc := "(II)V" } : Jvm.MethodName)) ∈ gW := gW_of (List.mem_of_getElem? (i := 1396) (by decide +kernel)) rfl
theorem t_1398 : (Jvm.Cond.instanceMethod ({ cls := "CardLinkModel", name := "sendsR", desc := "(II)V" } : Jvm.MethodName)) ∈ gW := gW_of (List.mem_of_getElem? (i := 1398) (by decide +kernel)) rfl
theorem t_1399 : (Jvm.Cond.code ({ cls := "CardLinkModel", name := "sendsR", desc := "(II)V" } : Jvm.MethodName) prog_10_method_36_code (3 : Nat) (Option.none : Option Jvm.ClassFile.FieldType)) ∈ gW := gW_of (List.mem_of_getElem? (i := 1399) (by decide +kernel)) rfl
theorem t_1400 : (Jvm.Cond.methodLink "CardLinkModel" (240 : Nat) ({ cls := "CardLinkModel", name := "messageCame", desc := "(I)V" } : Jvm.MethodName)) ∈ gW := gW_of (List.mem_of_getElem? (i := 1400) (by decide +kernel)) rfl
theorem t_1402 : (Jvm.Cond.instanceMethod ({ cls := "CardLinkModel", name := "messageCame", desc := "(I)V" } : Jvm.MethodName)) ∈ gW := gW_of (List.mem_of_getElem? (i := 1402) (by decide +kernel)) rfl
theorem t_1403 : (Jvm.Cond.code ({ cls := "CardLinkModel", name := "messageCame", desc := "(I)V" } : Jvm.MethodName) prog_10_method_47_code (4 : Nat) (Option.none : Option Jvm.ClassFile.FieldType)) ∈ gW := gW_of (List.mem_of_getElem? (i := 1403) (by decide +kernel)) rfl
theorem t_1404 : (Jvm.Cond.methodLink "CardLinkModel" (246 : Nat) ({ cls := "CardLinkModel", name := "readerTold", desc := "()V" } : Jvm.MethodName)) ∈ gW := gW_of (List.mem_of_getElem? (i := 1404) (by decide +kernel)) rfl
theorem t_1406 : (Jvm.Cond.instanceMethod ({ cls := "CardLinkModel", name := "readerTold", desc := "()V" } : Jvm.MethodName)) ∈ gW := gW_of (List.mem_of_getElem? (i := 1406) (by decide +kernel)) rfl
theorem t_1407 : (Jvm.Cond.code ({ cls := "CardLinkModel", name := "readerTold", desc := "()V" } : Jvm.MethodName) prog_10_method_54_code (1 : Nat) (Option.none : Option Jvm.ClassFile.FieldType)) ∈ gW := gW_of (List.mem_of_getElem? (i := 1407) (by decide +kernel)) rfl
theorem t_1408 : (Jvm.Cond.methodLink "CardLinkModel" (258 : Nat) ({ cls := "CardLinkModel", name := "wantsAgain", desc := "(I)Z" } : Jvm.MethodName)) ∈ gW := gW_of (List.mem_of_getElem? (i := 1408) (by decide +kernel)) rfl
theorem t_1410 : (Jvm.Cond.instanceMethod ({ cls := "CardLinkModel", name := "wantsAgain", desc := "(I)Z" } : Jvm.MethodName)) ∈ gW := gW_of (List.mem_of_getElem? (i := 1410) (by decide +kernel)) rfl
theorem t_1411 : (Jvm.Cond.code ({ cls := "CardLinkModel", name := "wantsAgain", desc := "(I)Z" } : Jvm.MethodName) prog_10_method_48_code (2 : Nat) (Option.some Jvm.ClassFile.FieldType.boolean)) ∈ gW := gW_of (List.mem_of_getElem? (i := 1411) (by decide +kernel)) rfl
theorem t_1412 : (Jvm.Cond.methodLink "CardLinkModel" (261 : Nat) ({ cls := "CardLinkModel", name := "goesOn", desc := "(I)V" } : Jvm.MethodName)) ∈ gW := gW_of (List.mem_of_getElem? (i := 1412) (by decide +kernel)) rfl
theorem t_1414 : (Jvm.Cond.instanceMethod ({ cls := "CardLinkModel", name := "goesOn", desc := "(I)V" } : Jvm.MethodName)) ∈ gW := gW_of (List.mem_of_getElem? (i := 1414) (by decide +kernel)) rfl
theorem t_1415 : (Jvm.Cond.code ({ cls := "CardLinkModel", name := "goesOn", desc := "(I)V" } : Jvm.MethodName) prog_10_method_49_code (3 : Nat) (Option.none : Option Jvm.ClassFile.FieldType)) ∈ gW := gW_of (List.mem_of_getElem? (i := 1415) (by decide +kernel)) rfl
theorem t_1416 : (Jvm.Cond.methodLink "CardLinkModel" (249 : Nat) ({ cls := "CardLinkModel", name := "readerAsked", desc := "()V" } : Jvm.MethodName)) ∈ gW := gW_of (List.mem_of_getElem? (i := 1416) (by decide +kernel)) rfl
theorem t_1418 : (Jvm.Cond.instanceMethod ({ cls := "CardLinkModel", name := "readerAsked", desc := "()V" } : Jvm.MethodName)) ∈ gW := gW_of (List.mem_of_getElem? (i := 1418) (by decide +kernel)) rfl
theorem t_1419 : (Jvm.Cond.code ({ cls := "CardLinkModel", name := "readerAsked", desc := "()V" } : Jvm.MethodName) prog_10_method_56_code (2 : Nat) (Option.none : Option Jvm.ClassFile.FieldType)) ∈ gW := gW_of (List.mem_of_getElem? (i := 1419) (by decide +kernel)) rfl
theorem t_1420 : (Jvm.Cond.methodLink "CardLinkModel" (264 : Nat) ({ cls := "CardLinkModel", name := "responds", desc := "(I)V" } : Jvm.MethodName)) ∈ gW := gW_of (List.mem_of_getElem? (i := 1420) (by decide +kernel)) rfl
theorem t_1422 : (Jvm.Cond.instanceMethod ({ cls := "CardLinkModel", name := "responds", desc := "(I)V" } : Jvm.MethodName)) ∈ gW := gW_of (List.mem_of_getElem? (i := 1422) (by decide +kernel)) rfl
theorem t_1423 : (Jvm.Cond.code ({ cls := "CardLinkModel", name := "responds", desc := "(I)V" } : Jvm.MethodName) prog_10_method_55_code (2 : Nat) (Option.none : Option Jvm.ClassFile.FieldType)) ∈ gW := gW_of (List.mem_of_getElem? (i := 1423) (by decide +kernel)) rfl
theorem t_1424 : (Jvm.Cond.methodLink "CardLinkModel" (252 : Nat) ({ cls := "CardLinkModel", name := "triesOn", desc := "()V" } : Jvm.MethodName)) ∈ gW := gW_of (List.mem_of_getElem? (i := 1424) (by decide +kernel)) rfl
theorem t_1426 : (Jvm.Cond.instanceMethod ({ cls := "CardLinkModel", name := "triesOn", desc := "()V" } : Jvm.MethodName)) ∈ gW := gW_of (List.mem_of_getElem? (i := 1426) (by decide +kernel)) rfl
theorem t_1427 : (Jvm.Cond.code ({ cls := "CardLinkModel", name := "triesOn", desc := "()V" } : Jvm.MethodName) prog_10_method_57_code (1 : Nat) (Option.none : Option Jvm.ClassFile.FieldType)) ∈ gW := gW_of (List.mem_of_getElem? (i := 1427) (by decide +kernel)) rfl
theorem t_1428 : (Jvm.Cond.methodLink "CardLinkModel" (294 : Nat) ({ cls := "CardLinkModel", name := "cardGets", desc := "()V" } : Jvm.MethodName)) ∈ gW := gW_of (List.mem_of_getElem? (i := 1428) (by decide +kernel)) rfl
theorem t_1430 : (Jvm.Cond.instanceMethod ({ cls := "CardLinkModel", name := "cardGets", desc := "()V" } : Jvm.MethodName)) ∈ gW := gW_of (List.mem_of_getElem? (i := 1430) (by decide +kernel)) rfl
theorem t_1431 : (Jvm.Cond.code ({ cls := "CardLinkModel", name := "cardGets", desc := "()V" } : Jvm.MethodName) prog_10_method_64_code (2 : Nat) (Option.none : Option Jvm.ClassFile.FieldType)) ∈ gW := gW_of (List.mem_of_getElem? (i := 1431) (by decide +kernel)) rfl
theorem t_1432 : (Jvm.Cond.methodLink "CardLinkModel" (276 : Nat) ({ cls := "CardLinkModel", name := "cardSends", desc := "(II)V" } : Jvm.MethodName)) ∈ gW := gW_of (List.mem_of_getElem? (i := 1432) (by decide +kernel)) rfl
theorem t_1434 : (Jvm.Cond.instanceMethod ({ cls := "CardLinkModel", name := "cardSends", desc := "(II)V" } : Jvm.MethodName)) ∈ gW := gW_of (List.mem_of_getElem? (i := 1434) (by decide +kernel)) rfl
theorem t_1435 : (Jvm.Cond.code ({ cls := "CardLinkModel", name := "cardSends", desc := "(II)V" } : Jvm.MethodName) prog_10_method_59_code (3 : Nat) (Option.none : Option Jvm.ClassFile.FieldType)) ∈ gW := gW_of (List.mem_of_getElem? (i := 1435) (by decide +kernel)) rfl
theorem t_1436 : (Jvm.Cond.methodLink "CardLinkModel" (270 : Nat) ({ cls := "CardLinkModel", name := "cardOut", desc := "(II)V" } : Jvm.MethodName)) ∈ gW := gW_of (List.mem_of_getElem? (i := 1436) (by decide +kernel)) rfl
theorem t_1438 : (Jvm.Cond.instanceMethod ({ cls := "CardLinkModel", name := "cardOut", desc := "(II)V" } : Jvm.MethodName)) ∈ gW := gW_of (List.mem_of_getElem? (i := 1438) (by decide +kernel)) rfl
theorem t_1439 : (Jvm.Cond.code ({ cls := "CardLinkModel", name := "cardOut", desc := "(II)V" } : Jvm.MethodName) prog_10_method_58_code (5 : Nat) (Option.none : Option Jvm.ClassFile.FieldType)) ∈ gW := gW_of (List.mem_of_getElem? (i := 1439) (by decide +kernel)) rfl
theorem t_1440 : (Jvm.Cond.methodLink "CardLinkModel" (282 : Nat) ({ cls := "CardLinkModel", name := "cardAnswered", desc := "()V" } : Jvm.MethodName)) ∈ gW := gW_of (List.mem_of_getElem? (i := 1440) (by decide +kernel)) rfl
theorem t_1442 : (Jvm.Cond.instanceMethod ({ cls := "CardLinkModel", name := "cardAnswered", desc := "()V" } : Jvm.MethodName)) ∈ gW := gW_of (List.mem_of_getElem? (i := 1442) (by decide +kernel)) rfl
theorem t_1443 : (Jvm.Cond.code ({ cls := "CardLinkModel", name := "cardAnswered", desc := "()V" } : Jvm.MethodName) prog_10_method_63_code (2 : Nat) (Option.none : Option Jvm.ClassFile.FieldType)) ∈ gW := gW_of (List.mem_of_getElem? (i := 1443) (by decide +kernel)) rfl
theorem t_1444 : (Jvm.Cond.methodLink "CardLinkModel" (279 : Nat) ({ cls := "CardLinkModel", name := "cardWaits", desc := "()V" } : Jvm.MethodName)) ∈ gW := gW_of (List.mem_of_getElem? (i := 1444) (by decide +kernel)) rfl
theorem t_1446 : (Jvm.Cond.instanceMethod ({ cls := "CardLinkModel", name := "cardWaits", desc := "()V" } : Jvm.MethodName)) ∈ gW := gW_of (List.mem_of_getElem? (i := 1446) (by decide +kernel)) rfl
theorem t_1447 : (Jvm.Cond.code ({ cls := "CardLinkModel", name := "cardWaits", desc := "()V" } : Jvm.MethodName) prog_10_method_62_code (2 : Nat) (Option.none : Option Jvm.ClassFile.FieldType)) ∈ gW := gW_of (List.mem_of_getElem? (i := 1447) (by decide +kernel)) rfl
theorem t_1448 : (Jvm.Cond.methodLink "CardLinkModel" (285 : Nat) ({ cls := "CardLinkModel", name := "cardDoes", desc := "()V" } : Jvm.MethodName)) ∈ gW := gW_of (List.mem_of_getElem? (i := 1448) (by decide +kernel)) rfl
theorem t_1450 : (Jvm.Cond.instanceMethod ({ cls := "CardLinkModel", name := "cardDoes", desc := "()V" } : Jvm.MethodName)) ∈ gW := gW_of (List.mem_of_getElem? (i := 1450) (by decide +kernel)) rfl
theorem t_1451 : (Jvm.Cond.code ({ cls := "CardLinkModel", name := "cardDoes", desc := "()V" } : Jvm.MethodName) prog_10_method_61_code (4 : Nat) (Option.none : Option Jvm.ClassFile.FieldType)) ∈ gW := gW_of (List.mem_of_getElem? (i := 1451) (by decide +kernel)) rfl
theorem t_1452 : (Jvm.Cond.methodLink "CardLinkModel" (273 : Nat) ({ cls := "CardLinkModel", name := "gotByte", desc := "(II)I" } : Jvm.MethodName)) ∈ gW := gW_of (List.mem_of_getElem? (i := 1452) (by decide +kernel)) rfl
theorem t_1454 : (Jvm.Cond.instanceMethod ({ cls := "CardLinkModel", name := "gotByte", desc := "(II)I" } : Jvm.MethodName)) ∈ gW := gW_of (List.mem_of_getElem? (i := 1454) (by decide +kernel)) rfl
theorem t_1455 : (Jvm.Cond.code ({ cls := "CardLinkModel", name := "gotByte", desc := "(II)I" } : Jvm.MethodName) prog_10_method_60_code (3 : Nat) (Option.some Jvm.ClassFile.FieldType.int)) ∈ gW := gW_of (List.mem_of_getElem? (i := 1455) (by decide +kernel)) rfl
theorem t_1456 : (Jvm.Cond.methodLink "CardLinkLaw" (68 : Nat) ({ cls := "CardLinkModel", name := "state", desc := "()I" } : Jvm.MethodName)) ∈ gW := gW_of (List.mem_of_getElem? (i := 1456) (by decide +kernel)) rfl
theorem t_1457 : (Jvm.Cond.instanceMethod ({ cls := "CardLinkModel", name := "state", desc := "()I" } : Jvm.MethodName)) ∈ gW := gW_of (List.mem_of_getElem? (i := 1457) (by decide +kernel)) rfl
theorem t_1458 : (Jvm.Cond.selects "CardLinkModel" ({ cls := "CardLinkModel", name := "state", desc := "()I" } : Jvm.MethodName) ({ cls := "CardLinkModel", name := "state", desc := "()I" } : Jvm.MethodName)) ∈ gW := gW_of (List.mem_of_getElem? (i := 1458) (by decide +kernel)) rfl
theorem t_1459 : (Jvm.Cond.code ({ cls := "CardLinkModel", name := "state", desc := "()I" } : Jvm.MethodName) prog_10_method_68_code (1 : Nat) (Option.some Jvm.ClassFile.FieldType.int)) ∈ gW := gW_of (List.mem_of_getElem? (i := 1459) (by decide +kernel)) rfl
theorem t_1460 : (Jvm.Cond.methodLink "CardLinkLaw" (72 : Nat) ({ cls := "CardLinkModel", name := "side", desc := "(II)I" } : Jvm.MethodName)) ∈ gW := gW_of (List.mem_of_getElem? (i := 1460) (by decide +kernel)) rfl
theorem t_1461 : (Jvm.Cond.instanceMethod ({ cls := "CardLinkModel", name := "side", desc := "(II)I" } : Jvm.MethodName)) ∈ gW := gW_of (List.mem_of_getElem? (i := 1461) (by decide +kernel)) rfl
theorem t_1462 : (Jvm.Cond.selects "CardLinkModel" ({ cls := "CardLinkModel", name := "side", desc := "(II)I" } : Jvm.MethodName) ({ cls := "CardLinkModel", name := "side", desc := "(II)I" } : Jvm.MethodName)) ∈ gW := gW_of (List.mem_of_getElem? (i := 1462) (by decide +kernel)) rfl
theorem t_1463 : (Jvm.Cond.code ({ cls := "CardLinkModel", name := "side", desc := "(II)I" } : Jvm.MethodName) prog_10_method_69_code (3 : Nat) (Option.some Jvm.ClassFile.FieldType.int)) ∈ gW := gW_of (List.mem_of_getElem? (i := 1463) (by decide +kernel)) rfl
theorem t_1466 : (Jvm.Cond.methodLink "CardLinkLaw" (76 : Nat) ({ cls := "CardLinkModel", name := "got", desc := "(II)I" } : Jvm.MethodName)) ∈ gW := gW_of (List.mem_of_getElem? (i := 1466) (by decide +kernel)) rfl
theorem t_1467 : (Jvm.Cond.instanceMethod ({ cls := "CardLinkModel", name := "got", desc := "(II)I" } : Jvm.MethodName)) ∈ gW := gW_of (List.mem_of_getElem? (i := 1467) (by decide +kernel)) rfl
theorem t_1468 : (Jvm.Cond.selects "CardLinkModel" ({ cls := "CardLinkModel", name := "got", desc := "(II)I" } : Jvm.MethodName) ({ cls := "CardLinkModel", name := "got", desc := "(II)I" } : Jvm.MethodName)) ∈ gW := gW_of (List.mem_of_getElem? (i := 1468) (by decide +kernel)) rfl
theorem t_1469 : (Jvm.Cond.code ({ cls := "CardLinkModel", name := "got", desc := "(II)I" } : Jvm.MethodName) prog_10_method_70_code (3 : Nat) (Option.some Jvm.ClassFile.FieldType.int)) ∈ gW := gW_of (List.mem_of_getElem? (i := 1469) (by decide +kernel)) rfl
theorem t_1470 : (Jvm.Cond.methodLink "CardLinkLaw" (82 : Nat) ({ cls := "CardLinkModel", name := "log", desc := "(II)I" } : Jvm.MethodName)) ∈ gW := gW_of (List.mem_of_getElem? (i := 1470) (by decide +kernel)) rfl
theorem t_1471 : (Jvm.Cond.instanceMethod ({ cls := "CardLinkModel", name := "log", desc := "(II)I" } : Jvm.MethodName)) ∈ gW := gW_of (List.mem_of_getElem? (i := 1471) (by decide +kernel)) rfl
theorem t_1472 : (Jvm.Cond.selects "CardLinkModel" ({ cls := "CardLinkModel", name := "log", desc := "(II)I" } : Jvm.MethodName) ({ cls := "CardLinkModel", name := "log", desc := "(II)I" } : Jvm.MethodName)) ∈ gW := gW_of (List.mem_of_getElem? (i := 1472) (by decide +kernel)) rfl
theorem t_1473 : (Jvm.Cond.code ({ cls := "CardLinkModel", name := "log", desc := "(II)I" } : Jvm.MethodName) prog_10_method_72_code (4 : Nat) (Option.some Jvm.ClassFile.FieldType.int)) ∈ gW := gW_of (List.mem_of_getElem? (i := 1473) (by decide +kernel)) rfl
theorem t_1474 : (Jvm.Cond.methodLink "CardLinkModel" (303 : Nat) ({ cls := "CardLinkModel", name := "logPlace", desc := "(I)I" } : Jvm.MethodName)) ∈ gW := gW_of (List.mem_of_getElem? (i := 1474) (by decide +kernel)) rfl
theorem t_1476 : (Jvm.Cond.instanceMethod ({ cls := "CardLinkModel", name := "logPlace", desc := "(I)I" } : Jvm.MethodName)) ∈ gW := gW_of (List.mem_of_getElem? (i := 1476) (by decide +kernel)) rfl
theorem t_1477 : (Jvm.Cond.code ({ cls := "CardLinkModel", name := "logPlace", desc := "(I)I" } : Jvm.MethodName) prog_10_method_71_code (2 : Nat) (Option.some Jvm.ClassFile.FieldType.int)) ∈ gW := gW_of (List.mem_of_getElem? (i := 1477) (by decide +kernel)) rfl
theorem t_1478 : (Jvm.Cond.methodLink "CardLinkLaw" (89 : Nat) ({ cls := "CardLinkModel", name := "byteOf", desc := "(II)I" } : Jvm.MethodName)) ∈ gW := gW_of (List.mem_of_getElem? (i := 1478) (by decide +kernel)) rfl
theorem t_1479 : (Jvm.Cond.instanceMethod ({ cls := "CardLinkModel", name := "byteOf", desc := "(II)I" } : Jvm.MethodName)) ∈ gW := gW_of (List.mem_of_getElem? (i := 1479) (by decide +kernel)) rfl
theorem t_1480 : (Jvm.Cond.selects "CardLinkModel" ({ cls := "CardLinkModel", name := "byteOf", desc := "(II)I" } : Jvm.MethodName) ({ cls := "CardLinkModel", name := "byteOf", desc := "(II)I" } : Jvm.MethodName)) ∈ gW := gW_of (List.mem_of_getElem? (i := 1480) (by decide +kernel)) rfl
theorem t_1481 : (Jvm.Cond.code ({ cls := "CardLinkModel", name := "byteOf", desc := "(II)I" } : Jvm.MethodName) prog_10_method_73_code (3 : Nat) (Option.some Jvm.ClassFile.FieldType.int)) ∈ gW := gW_of (List.mem_of_getElem? (i := 1481) (by decide +kernel)) rfl
theorem t_1482 : (Jvm.Cond.methodLink "CardLinkLaw" (93 : Nat) ({ cls := "CardLinkModel", name := "would", desc := "(I)I" } : Jvm.MethodName)) ∈ gW := gW_of (List.mem_of_getElem? (i := 1482) (by decide +kernel)) rfl
theorem t_1483 : (Jvm.Cond.instanceMethod ({ cls := "CardLinkModel", name := "would", desc := "(I)I" } : Jvm.MethodName)) ∈ gW := gW_of (List.mem_of_getElem? (i := 1483) (by decide +kernel)) rfl
theorem t_1484 : (Jvm.Cond.selects "CardLinkModel" ({ cls := "CardLinkModel", name := "would", desc := "(I)I" } : Jvm.MethodName) ({ cls := "CardLinkModel", name := "would", desc := "(I)I" } : Jvm.MethodName)) ∈ gW := gW_of (List.mem_of_getElem? (i := 1484) (by decide +kernel)) rfl
theorem t_1485 : (Jvm.Cond.code ({ cls := "CardLinkModel", name := "would", desc := "(I)I" } : Jvm.MethodName) prog_10_method_77_code (3 : Nat) (Option.some Jvm.ClassFile.FieldType.int)) ∈ gW := gW_of (List.mem_of_getElem? (i := 1485) (by decide +kernel)) rfl
theorem t_1486 : (Jvm.Cond.methodLink "CardLinkModel" (309 : Nat) ({ cls := "CardLinkModel", name := "keeps", desc := "()V" } : Jvm.MethodName)) ∈ gW := gW_of (List.mem_of_getElem? (i := 1486) (by decide +kernel)) rfl
theorem t_1488 : (Jvm.Cond.instanceMethod ({ cls := "CardLinkModel", name := "keeps", desc := "()V" } : Jvm.MethodName)) ∈ gW := gW_of (List.mem_of_getElem? (i := 1488) (by decide +kernel)) rfl
theorem t_1489 : (Jvm.Cond.code ({ cls := "CardLinkModel", name := "keeps", desc := "()V" } : Jvm.MethodName) prog_10_method_75_code (2 : Nat) (Option.none : Option Jvm.ClassFile.FieldType)) ∈ gW := gW_of (List.mem_of_getElem? (i := 1489) (by decide +kernel)) rfl
theorem t_1490 : (Jvm.Cond.methodLink "CardLinkModel" (312 : Nat) ({ cls := "CardLinkModel", name := "triesOut", desc := "()V" } : Jvm.MethodName)) ∈ gW := gW_of (List.mem_of_getElem? (i := 1490) (by decide +kernel)) rfl
theorem t_1492 : (Jvm.Cond.instanceMethod ({ cls := "CardLinkModel", name := "triesOut", desc := "()V" } : Jvm.MethodName)) ∈ gW := gW_of (List.mem_of_getElem? (i := 1492) (by decide +kernel)) rfl
theorem t_1493 : (Jvm.Cond.code ({ cls := "CardLinkModel", name := "triesOut", desc := "()V" } : Jvm.MethodName) prog_10_method_74_code (2 : Nat) (Option.none : Option Jvm.ClassFile.FieldType)) ∈ gW := gW_of (List.mem_of_getElem? (i := 1493) (by decide +kernel)) rfl
theorem t_1494 : (Jvm.Cond.methodLink "CardLinkModel" (315 : Nat) ({ cls := "CardLinkModel", name := "comesBack", desc := "()V" } : Jvm.MethodName)) ∈ gW := gW_of (List.mem_of_getElem? (i := 1494) (by decide +kernel)) rfl
theorem t_1496 : (Jvm.Cond.instanceMethod ({ cls := "CardLinkModel", name := "comesBack", desc := "()V" } : Jvm.MethodName)) ∈ gW := gW_of (List.mem_of_getElem? (i := 1496) (by decide +kernel)) rfl
theorem t_1497 : (Jvm.Cond.code ({ cls := "CardLinkModel", name := "comesBack", desc := "()V" } : Jvm.MethodName) prog_10_method_76_code (2 : Nat) (Option.none : Option Jvm.ClassFile.FieldType)) ∈ gW := gW_of (List.mem_of_getElem? (i := 1497) (by decide +kernel)) rfl
theorem t_1498 : (Jvm.Cond.methodLink "CardLinkLaw" (97 : Nat) ({ cls := "CardLinkModel", name := "harm", desc := "(II)I" } : Jvm.MethodName)) ∈ gW := gW_of (List.mem_of_getElem? (i := 1498) (by decide +kernel)) rfl
theorem t_1499 : (Jvm.Cond.instanceMethod ({ cls := "CardLinkModel", name := "harm", desc := "(II)I" } : Jvm.MethodName)) ∈ gW := gW_of (List.mem_of_getElem? (i := 1499) (by decide +kernel)) rfl
theorem t_1500 : (Jvm.Cond.selects "CardLinkModel" ({ cls := "CardLinkModel", name := "harm", desc := "(II)I" } : Jvm.MethodName) ({ cls := "CardLinkModel", name := "harm", desc := "(II)I" } : Jvm.MethodName)) ∈ gW := gW_of (List.mem_of_getElem? (i := 1500) (by decide +kernel)) rfl
theorem t_1501 : (Jvm.Cond.code ({ cls := "CardLinkModel", name := "harm", desc := "(II)I" } : Jvm.MethodName) prog_10_method_79_code (9 : Nat) (Option.some Jvm.ClassFile.FieldType.int)) ∈ gW := gW_of (List.mem_of_getElem? (i := 1501) (by decide +kernel)) rfl
theorem t_1502 : (Jvm.Cond.methodLink "CardLinkModel" (321 : Nat) ({ cls := "CardLinkModel", name := "isSame", desc := "()Z" } : Jvm.MethodName)) ∈ gW := gW_of (List.mem_of_getElem? (i := 1502) (by decide +kernel)) rfl
theorem t_1504 : (Jvm.Cond.instanceMethod ({ cls := "CardLinkModel", name := "isSame", desc := "()Z" } : Jvm.MethodName)) ∈ gW := gW_of (List.mem_of_getElem? (i := 1504) (by decide +kernel)) rfl
theorem t_1505 : (Jvm.Cond.code ({ cls := "CardLinkModel", name := "isSame", desc := "()Z" } : Jvm.MethodName) prog_10_method_78_code (2 : Nat) (Option.some Jvm.ClassFile.FieldType.boolean)) ∈ gW := gW_of (List.mem_of_getElem? (i := 1505) (by decide +kernel)) rfl
theorem t_1506 : (Jvm.Cond.methodLink "CardLinkLaw" (101 : Nat) ({ cls := "CardLinkModel", name := "count", desc := "(I)I" } : Jvm.MethodName)) ∈ gW := gW_of (List.mem_of_getElem? (i := 1506) (by decide +kernel)) rfl
theorem t_1507 : (Jvm.Cond.instanceMethod ({ cls := "CardLinkModel", name := "count", desc := "(I)I" } : Jvm.MethodName)) ∈ gW := gW_of (List.mem_of_getElem? (i := 1507) (by decide +kernel)) rfl
theorem t_1508 : (Jvm.Cond.selects "CardLinkModel" ({ cls := "CardLinkModel", name := "count", desc := "(I)I" } : Jvm.MethodName) ({ cls := "CardLinkModel", name := "count", desc := "(I)I" } : Jvm.MethodName)) ∈ gW := gW_of (List.mem_of_getElem? (i := 1508) (by decide +kernel)) rfl
theorem t_1509 : (Jvm.Cond.code ({ cls := "CardLinkModel", name := "count", desc := "(I)I" } : Jvm.MethodName) prog_10_method_81_code (2 : Nat) (Option.some Jvm.ClassFile.FieldType.int)) ∈ gW := gW_of (List.mem_of_getElem? (i := 1509) (by decide +kernel)) rfl
theorem t_1510 : (Jvm.Cond.methodLink "CardLinkModel" (324 : Nat) ({ cls := "CardLinkModel", name := "faultsToCome", desc := "()I" } : Jvm.MethodName)) ∈ gW := gW_of (List.mem_of_getElem? (i := 1510) (by decide +kernel)) rfl
theorem t_1512 : (Jvm.Cond.instanceMethod ({ cls := "CardLinkModel", name := "faultsToCome", desc := "()I" } : Jvm.MethodName)) ∈ gW := gW_of (List.mem_of_getElem? (i := 1512) (by decide +kernel)) rfl
theorem t_1513 : (Jvm.Cond.code ({ cls := "CardLinkModel", name := "faultsToCome", desc := "()I" } : Jvm.MethodName) prog_10_method_80_code (3 : Nat) (Option.some Jvm.ClassFile.FieldType.int)) ∈ gW := gW_of (List.mem_of_getElem? (i := 1513) (by decide +kernel)) rfl
theorem t_1514 : (Jvm.Cond.constantLong "CardLinkLaw" (19 : Nat) (4294967295 : Int64)) ∈ gW := gW_of (List.mem_of_getElem? (i := 1514) (by decide +kernel)) rfl
theorem t_1515 : (Jvm.Cond.arrayClass Jvm.ClassFile.FieldType.long) ∈ gW := gW_of (List.mem_of_getElem? (i := 1515) (by decide +kernel)) rfl
theorem uwX0 : ∀ w ∈ u_ws RX0 TX0 7, w ∈ gW := fun w hw => gW_of ((by decide +kernel : ∀ w ∈ u_ws RX0 TX0 7, w ∈ lw_tbl) w hw) ((by decide +kernel : ∀ w ∈ u_ws RX0 TX0 7, goodWord w = true) w hw)
theorem gk0 : gK 0 RX0 TX0 7 tyX0 := ⟨rfl, uwX0, tyX0_ok, nmX0⟩
theorem uwX1 : ∀ w ∈ u_ws RX1 TX1 9, w ∈ gW := fun w hw => gW_of ((by decide +kernel : ∀ w ∈ u_ws RX1 TX1 9, w ∈ lw_tbl) w hw) ((by decide +kernel : ∀ w ∈ u_ws RX1 TX1 9, goodWord w = true) w hw)
theorem gk1 : gK 1 RX1 TX1 9 tyX1 := ⟨rfl, uwX1, tyX1_ok, nmX1⟩
theorem uwX2 : ∀ w ∈ u_ws RX2 TX2 18, w ∈ gW := fun w hw => gW_of ((by decide +kernel : ∀ w ∈ u_ws RX2 TX2 18, w ∈ lw_tbl) w hw) ((by decide +kernel : ∀ w ∈ u_ws RX2 TX2 18, goodWord w = true) w hw)
theorem gk2 : gK 2 RX2 TX2 18 tyX2 := ⟨rfl, uwX2, tyX2_ok, nmX2⟩
theorem uwX3 : ∀ w ∈ u_ws RX3 TX3 11, w ∈ gW := fun w hw => gW_of ((by decide +kernel : ∀ w ∈ u_ws RX3 TX3 11, w ∈ lw_tbl) w hw) ((by decide +kernel : ∀ w ∈ u_ws RX3 TX3 11, goodWord w = true) w hw)
theorem gk3 : gK 3 RX3 TX3 11 tyX3 := ⟨rfl, uwX3, tyX3_ok, nmX3⟩
theorem uwX4 : ∀ w ∈ u_ws RX4 TX4 3, w ∈ gW := fun w hw => gW_of ((by decide +kernel : ∀ w ∈ u_ws RX4 TX4 3, w ∈ lw_tbl) w hw) ((by decide +kernel : ∀ w ∈ u_ws RX4 TX4 3, goodWord w = true) w hw)
theorem gk4 : gK 4 RX4 TX4 3 tyX4 := ⟨rfl, uwX4, tyX4_ok, nmX4⟩
theorem uwX5 : ∀ w ∈ u_ws RX5 TX5 15, w ∈ gW := fun w hw => gW_of ((by decide +kernel : ∀ w ∈ u_ws RX5 TX5 15, w ∈ lw_tbl) w hw) ((by decide +kernel : ∀ w ∈ u_ws RX5 TX5 15, goodWord w = true) w hw)
theorem gk5 : gK 5 RX5 TX5 15 tyX5 := ⟨rfl, uwX5, tyX5_ok, nmX5⟩
theorem uwX6 : ∀ w ∈ u_ws RX6 TX6 10, w ∈ gW := fun w hw => gW_of ((by decide +kernel : ∀ w ∈ u_ws RX6 TX6 10, w ∈ lw_tbl) w hw) ((by decide +kernel : ∀ w ∈ u_ws RX6 TX6 10, goodWord w = true) w hw)
theorem gk6 : gK 6 RX6 TX6 10 tyX6 := ⟨rfl, uwX6, tyX6_ok, nmX6⟩
theorem uwX7 : ∀ w ∈ u_ws RX7 TX7 7, w ∈ gW := fun w hw => gW_of ((by decide +kernel : ∀ w ∈ u_ws RX7 TX7 7, w ∈ lw_tbl) w hw) ((by decide +kernel : ∀ w ∈ u_ws RX7 TX7 7, goodWord w = true) w hw)
theorem gk7 : gK 7 RX7 TX7 7 tyX7 := ⟨rfl, uwX7, tyX7_ok, nmX7⟩
theorem uwX8 : ∀ w ∈ u_ws RX8 TX8 39, w ∈ gW := fun w hw => gW_of ((by decide +kernel : ∀ w ∈ u_ws RX8 TX8 39, w ∈ lw_tbl) w hw) ((by decide +kernel : ∀ w ∈ u_ws RX8 TX8 39, goodWord w = true) w hw)
theorem gk8 : gK 8 RX8 TX8 39 tyX8 := ⟨rfl, uwX8, tyX8_ok, nmX8⟩
theorem nX7_7 : gNw RX7 7 4 3 [.null, .int 0, .int 0] := ⟨RX4, TX4, tyX4, gk4, t_125, t_126, t_102, by decide +kernel, fun _ _ => rfl⟩
theorem fX7_14 : gF RX7 14 7 0 (.object "CardLink$Row") true := ⟨RX7, TX7, 7, tyX7, gk7, by decide, t_437, rfl, rfl, fun _ => rfl⟩
theorem nX7_18 : gNw RX7 18 1 9 [.null, .null, .null, .null, .null, .null, .null, .null, .int 0] := ⟨RX1, TX1, tyX1, gk1, t_145, t_146, t_104, by decide +kernel, fun _ _ => rfl⟩
theorem fX7_21 : gF RX7 21 7 1 (.object "CardLink$Journal") true := ⟨RX7, TX7, 7, tyX7, gk7, by decide, t_438, rfl, rfl, fun _ => rfl⟩
theorem nX7_25 : gNw RX7 25 2 18 [.null, .null, .null, .int 0, .int 0, .int 0, .int 0, .int 0, .null, .null, .null, .int 0, .int 0, .int 0, .int 0, .int 0, .int 0, .int 0] := ⟨RX2, TX2, tyX2, gk2, t_183, t_184, t_105, by decide +kernel, fun _ _ => rfl⟩
theorem fX7_30 : gF RX7 30 7 2 (.object "CardLink$Line") true := ⟨RX7, TX7, 7, tyX7, gk7, by decide, t_439, rfl, rfl, fun _ => rfl⟩
theorem nX7_34 : gNw RX7 34 0 7 [.null, .null, .null, .int 0, .null, .null, .null] := ⟨RX0, TX0, tyX0, gk0, t_365, t_366, t_108, by decide +kernel, fun _ _ => rfl⟩
theorem fX7_37 : gF RX7 37 7 3 (.object "CardLink$Forecast") true := ⟨RX7, TX7, 7, tyX7, gk7, by decide, t_440, rfl, rfl, fun _ => rfl⟩
theorem nX7_41 : gNw RX7 41 3 11 [.int 0, .int 0, .int 0, .int 0, .int 0, .int 0, .int 0, .null, .int 0, .int 0, .int 0] := ⟨RX3, TX3, tyX3, gk3, t_395, t_396, t_109, by decide +kernel, fun _ _ => rfl⟩
theorem fX7_44 : gF RX7 44 7 4 (.object "CardLink$ResetAnswer") false := ⟨RX7, TX7, 7, tyX7, gk7, by decide, t_441, rfl, rfl, fun h => by cases h⟩
theorem fX7_48 : gF RX7 48 7 5 (.object "CardLink$ResetAnswer") false := ⟨RX7, TX7, 7, tyX7, gk7, by decide, t_442, rfl, rfl, fun h => by cases h⟩
theorem fX7_51 : gF RX7 51 7 6 .boolean false := ⟨RX7, TX7, 7, tyX7, gk7, by decide, t_443, rfl, rfl, fun h => by cases h⟩
theorem fX7_110 : gF RX7 110 2 3 .int false := ⟨RX2, TX2, 18, tyX2, gk2, by decide, t_309, rfl, rfl, fun h => by cases h⟩
theorem fX7_114 : ∃ (RC : String) (T : u_T) (N : Nat) (tf : Nat → FieldType), gK 2 RC T N tf ∧ 2 < N ∧ Cond.fieldLink RX7 114 (T 2).1 (T 2).2.1 (T 2).2.2.1 ∈ gW := ⟨RX2, TX2, 18, tyX2, gk2, by decide, t_306⟩
theorem fX7_130 : gF RX7 130 6 0 .int false := ⟨RX6, TX6, 10, tyX6, gk6, by decide, t_262, rfl, rfl, fun h => by cases h⟩
theorem fX7_146 : ∃ (RC : String) (T : u_T) (N : Nat) (tf : Nat → FieldType), gK 2 RC T N tf ∧ 0 < N ∧ Cond.fieldLink RX7 146 (T 0).1 (T 0).2.1 (T 0).2.2.1 ∈ gW := ⟨RX2, TX2, 18, tyX2, gk2, by decide, t_301⟩
theorem fX7_150 : ∃ (RC : String) (T : u_T) (N : Nat) (tf : Nat → FieldType), gK 2 RC T N tf ∧ 1 < N ∧ Cond.fieldLink RX7 150 (T 1).1 (T 1).2.1 (T 1).2.2.1 ∈ gW := ⟨RX2, TX2, 18, tyX2, gk2, by decide, t_303⟩
theorem fX7_153 : gF RX7 153 5 7 .int false := ⟨RX5, TX5, 15, tyX5, gk5, by decide, t_212, rfl, rfl, fun h => by cases h⟩
theorem fX7_156 : ∃ (RC : String) (T : u_T) (N : Nat) (tf : Nat → FieldType), gK 5 RC T N tf ∧ 9 < N ∧ Cond.fieldLink RX7 156 (T 9).1 (T 9).2.1 (T 9).2.2.1 ∈ gW := ⟨RX5, TX5, 15, tyX5, gk5, by decide, t_217⟩
theorem fX7_181 : gF RX7 181 6 1 .int false := ⟨RX6, TX6, 10, tyX6, gk6, by decide, t_265, rfl, rfl, fun h => by cases h⟩
theorem fX7_194 : gF RX7 194 6 2 .int false := ⟨RX6, TX6, 10, tyX6, gk6, by decide, t_268, rfl, rfl, fun h => by cases h⟩
theorem fX7_197 : gF RX7 197 2 4 .int false := ⟨RX2, TX2, 18, tyX2, gk2, by decide, t_311, rfl, rfl, fun h => by cases h⟩
theorem fX7_203 : gF RX7 203 2 5 .int false := ⟨RX2, TX2, 18, tyX2, gk2, by decide, t_313, rfl, rfl, fun h => by cases h⟩
theorem fX7_206 : gF RX7 206 2 6 .int false := ⟨RX2, TX2, 18, tyX2, gk2, by decide, t_315, rfl, rfl, fun h => by cases h⟩
theorem fX7_209 : gF RX7 209 2 7 .int false := ⟨RX2, TX2, 18, tyX2, gk2, by decide, t_317, rfl, rfl, fun h => by cases h⟩
theorem nX0_9 : gNw RX0 9 2 18 [.null, .null, .null, .int 0, .int 0, .int 0, .int 0, .int 0, .null, .null, .null, .int 0, .int 0, .int 0, .int 0, .int 0, .int 0, .int 0] := ⟨RX2, TX2, tyX2, gk2, t_371, t_184, t_105, by decide +kernel, fun _ _ => rfl⟩
theorem fX0_14 : gF RX0 14 0 0 (.object "CardLink$Line") true := ⟨RX0, TX0, 7, tyX0, gk0, by decide, t_373, rfl, rfl, fun _ => rfl⟩
theorem fX0_20 : gF RX0 20 0 1 (.object "CardLink$Line") true := ⟨RX0, TX0, 7, tyX0, gk0, by decide, t_374, rfl, rfl, fun _ => rfl⟩
theorem fX0_23 : gF RX0 23 0 2 (.object "CardLink$Line") true := ⟨RX0, TX0, 7, tyX0, gk0, by decide, t_375, rfl, rfl, fun _ => rfl⟩
theorem fX0_26 : gF RX0 26 0 3 .boolean false := ⟨RX0, TX0, 7, tyX0, gk0, by decide, t_376, rfl, rfl, fun h => by cases h⟩
theorem fX0_30 : gF RX0 30 0 4 (.array .int) true := ⟨RX0, TX0, 7, tyX0, gk0, by decide, t_377, rfl, rfl, fun _ => rfl⟩
theorem fX0_34 : gF RX0 34 0 5 (.array .int) true := ⟨RX0, TX0, 7, tyX0, gk0, by decide, t_378, rfl, rfl, fun _ => rfl⟩
theorem fX0_37 : gF RX0 37 0 6 (.array .int) true := ⟨RX0, TX0, 7, tyX0, gk0, by decide, t_379, rfl, rfl, fun _ => rfl⟩
theorem fX0_50 : gF RX0 50 2 3 .int false := ⟨RX2, TX2, 18, tyX2, gk2, by decide, t_308, rfl, rfl, fun h => by cases h⟩
theorem fX0_57 : ∃ (RC : String) (T : u_T) (N : Nat) (tf : Nat → FieldType), gK 2 RC T N tf ∧ 2 < N ∧ Cond.fieldLink RX0 57 (T 2).1 (T 2).2.1 (T 2).2.2.1 ∈ gW := ⟨RX2, TX2, 18, tyX2, gk2, by decide, t_305⟩
theorem fX0_61 : gF RX0 61 6 1 .int false := ⟨RX6, TX6, 10, tyX6, gk6, by decide, t_264, rfl, rfl, fun h => by cases h⟩
theorem fX0_74 : ∃ (RC : String) (T : u_T) (N : Nat) (tf : Nat → FieldType), gK 2 RC T N tf ∧ 0 < N ∧ Cond.fieldLink RX0 74 (T 0).1 (T 0).2.1 (T 0).2.2.1 ∈ gW := ⟨RX2, TX2, 18, tyX2, gk2, by decide, t_300⟩
theorem fX0_78 : ∃ (RC : String) (T : u_T) (N : Nat) (tf : Nat → FieldType), gK 5 RC T N tf ∧ 9 < N ∧ Cond.fieldLink RX0 78 (T 9).1 (T 9).2.1 (T 9).2.2.1 ∈ gW := ⟨RX5, TX5, 15, tyX5, gk5, by decide, t_216⟩
theorem nX1_9 : gNw RX1 9 4 3 [.null, .int 0, .int 0] := ⟨RX4, TX4, tyX4, gk4, t_151, t_126, t_102, by decide +kernel, fun _ _ => rfl⟩
theorem fX1_17 : gF RX1 17 1 0 (.object "CardLink$Row") true := ⟨RX1, TX1, 9, tyX1, gk1, by decide, t_155, rfl, rfl, fun _ => rfl⟩
theorem fX1_22 : gF RX1 22 1 1 (.object "CardLink$Row") true := ⟨RX1, TX1, 9, tyX1, gk1, by decide, t_156, rfl, rfl, fun _ => rfl⟩
theorem fX1_25 : gF RX1 25 1 2 (.object "CardLink$Row") true := ⟨RX1, TX1, 9, tyX1, gk1, by decide, t_157, rfl, rfl, fun _ => rfl⟩
theorem fX1_28 : gF RX1 28 1 3 (.object "CardLink$Row") true := ⟨RX1, TX1, 9, tyX1, gk1, by decide, t_158, rfl, rfl, fun _ => rfl⟩
theorem fX1_31 : gF RX1 31 1 4 (.object "CardLink$Row") true := ⟨RX1, TX1, 9, tyX1, gk1, by decide, t_159, rfl, rfl, fun _ => rfl⟩
theorem fX1_34 : gF RX1 34 1 5 (.object "CardLink$Row") true := ⟨RX1, TX1, 9, tyX1, gk1, by decide, t_160, rfl, rfl, fun _ => rfl⟩
theorem fX1_37 : gF RX1 37 1 6 (.object "CardLink$Row") true := ⟨RX1, TX1, 9, tyX1, gk1, by decide, t_161, rfl, rfl, fun _ => rfl⟩
theorem fX1_40 : gF RX1 40 1 7 (.object "CardLink$Row") true := ⟨RX1, TX1, 9, tyX1, gk1, by decide, t_162, rfl, rfl, fun _ => rfl⟩
theorem fX1_43 : gF RX1 43 1 8 .int false := ⟨RX1, TX1, 9, tyX1, gk1, by decide, t_163, rfl, rfl, fun h => by cases h⟩
theorem nX2_9 : gNw RX2 9 5 15 [.int 0, .int 0, .int 0, .int 0, .int 0, .int 0, .int 0, .int 0, .null, .null, .null, .int 0, .int 0, .int 0, .int 0] := ⟨RX5, TX5, tyX5, gk5, t_189, t_190, t_106, by decide +kernel, fun _ _ => rfl⟩
theorem fX2_14 : gF RX2 14 2 0 (.object "CardLink$Side") true := ⟨RX2, TX2, 18, tyX2, gk2, by decide, t_299, rfl, rfl, fun _ => rfl⟩
theorem fX2_20 : gF RX2 20 2 1 (.object "CardLink$Side") true := ⟨RX2, TX2, 18, tyX2, gk2, by decide, t_302, rfl, rfl, fun _ => rfl⟩
theorem nX2_23 : gNw RX2 23 6 10 [.int 0, .int 0, .int 0, .null, .null, .null, .int 0, .int 0, .int 0, .int 0] := ⟨RX6, TX6, tyX6, gk6, t_255, t_256, t_107, by decide +kernel, fun _ _ => rfl⟩
theorem fX2_26 : gF RX2 26 2 2 (.object "CardLink$Wire") true := ⟨RX2, TX2, 18, tyX2, gk2, by decide, t_304, rfl, rfl, fun _ => rfl⟩
theorem fX2_30 : gF RX2 30 2 3 .int false := ⟨RX2, TX2, 18, tyX2, gk2, by decide, t_307, rfl, rfl, fun h => by cases h⟩
theorem fX2_34 : gF RX2 34 2 4 .int false := ⟨RX2, TX2, 18, tyX2, gk2, by decide, t_310, rfl, rfl, fun h => by cases h⟩
theorem fX2_37 : gF RX2 37 2 5 .int false := ⟨RX2, TX2, 18, tyX2, gk2, by decide, t_312, rfl, rfl, fun h => by cases h⟩
theorem fX2_40 : gF RX2 40 2 6 .int false := ⟨RX2, TX2, 18, tyX2, gk2, by decide, t_314, rfl, rfl, fun h => by cases h⟩
theorem fX2_43 : gF RX2 43 2 7 .int false := ⟨RX2, TX2, 18, tyX2, gk2, by decide, t_316, rfl, rfl, fun h => by cases h⟩
theorem nX2_46 : gNw RX2 46 4 3 [.null, .int 0, .int 0] := ⟨RX4, TX4, tyX4, gk4, t_297, t_126, t_102, by decide +kernel, fun _ _ => rfl⟩
theorem fX2_51 : gF RX2 51 2 8 (.object "CardLink$Row") true := ⟨RX2, TX2, 18, tyX2, gk2, by decide, t_318, rfl, rfl, fun _ => rfl⟩
theorem fX2_55 : gF RX2 55 2 9 (.object "CardLink$Row") true := ⟨RX2, TX2, 18, tyX2, gk2, by decide, t_319, rfl, rfl, fun _ => rfl⟩
theorem fX2_58 : gF RX2 58 2 11 .int false := ⟨RX2, TX2, 18, tyX2, gk2, by decide, t_321, rfl, rfl, fun h => by cases h⟩
theorem fX2_61 : gF RX2 61 2 12 .boolean false := ⟨RX2, TX2, 18, tyX2, gk2, by decide, t_322, rfl, rfl, fun h => by cases h⟩
theorem fX2_65 : gF RX2 65 2 13 .int false := ⟨RX2, TX2, 18, tyX2, gk2, by decide, t_323, rfl, rfl, fun h => by cases h⟩
theorem fX2_68 : gF RX2 68 2 14 .boolean false := ⟨RX2, TX2, 18, tyX2, gk2, by decide, t_324, rfl, rfl, fun h => by cases h⟩
theorem fX2_71 : gF RX2 71 2 15 .boolean false := ⟨RX2, TX2, 18, tyX2, gk2, by decide, t_325, rfl, rfl, fun h => by cases h⟩
theorem fX2_74 : gF RX2 74 2 16 .int false := ⟨RX2, TX2, 18, tyX2, gk2, by decide, t_326, rfl, rfl, fun h => by cases h⟩
theorem fX2_77 : gF RX2 77 2 17 .int false := ⟨RX2, TX2, 18, tyX2, gk2, by decide, t_327, rfl, rfl, fun h => by cases h⟩
theorem fX2_80 : gF RX2 80 2 10 (.object "CardLink$Journal") true := ⟨RX2, TX2, 18, tyX2, gk2, by decide, t_320, rfl, rfl, fun _ => rfl⟩
theorem fX2_102 : ∃ (RC : String) (T : u_T) (N : Nat) (tf : Nat → FieldType), gK 5 RC T N tf ∧ 8 < N ∧ Cond.fieldLink RX2 102 (T 8).1 (T 8).2.1 (T 8).2.2.1 ∈ gW := ⟨RX5, TX5, 15, tyX5, gk5, by decide, t_214⟩
theorem fX2_105 : gF RX2 105 5 4 .int false := ⟨RX5, TX5, 15, tyX5, gk5, by decide, t_206, rfl, rfl, fun h => by cases h⟩
theorem fX2_115 : gF RX2 115 5 3 .int false := ⟨RX5, TX5, 15, tyX5, gk5, by decide, t_204, rfl, rfl, fun h => by cases h⟩
theorem fX2_149 : gF RX2 149 5 5 .int false := ⟨RX5, TX5, 15, tyX5, gk5, by decide, t_208, rfl, rfl, fun h => by cases h⟩
theorem fX2_194 : gF RX2 194 5 6 .int false := ⟨RX5, TX5, 15, tyX5, gk5, by decide, t_210, rfl, rfl, fun h => by cases h⟩
theorem fX2_204 : gF RX2 204 5 2 .int false := ⟨RX5, TX5, 15, tyX5, gk5, by decide, t_202, rfl, rfl, fun h => by cases h⟩
theorem fX2_226 : gF RX2 226 5 1 .int false := ⟨RX5, TX5, 15, tyX5, gk5, by decide, t_200, rfl, rfl, fun h => by cases h⟩
theorem fX2_235 : ∃ (RC : String) (T : u_T) (N : Nat) (tf : Nat → FieldType), gK 5 RC T N tf ∧ 9 < N ∧ Cond.fieldLink RX2 235 (T 9).1 (T 9).2.1 (T 9).2.2.1 ∈ gW := ⟨RX5, TX5, 15, tyX5, gk5, by decide, t_218⟩
theorem fX2_257 : gF RX2 257 6 1 .int false := ⟨RX6, TX6, 10, tyX6, gk6, by decide, t_266, rfl, rfl, fun h => by cases h⟩
theorem fX2_267 : ∃ (RC : String) (T : u_T) (N : Nat) (tf : Nat → FieldType), gK 5 RC T N tf ∧ 0 < N ∧ Cond.fieldLink RX2 267 (T 0).1 (T 0).2.1 (T 0).2.2.1 ∈ gW := ⟨RX5, TX5, 15, tyX5, gk5, by decide, t_198⟩
theorem nX3_9 : gNw RX3 9 4 3 [.null, .int 0, .int 0] := ⟨RX4, TX4, tyX4, gk4, t_401, t_126, t_102, by decide +kernel, fun _ _ => rfl⟩
theorem fX3_14 : gF RX3 14 3 7 (.object "CardLink$Row") true := ⟨RX3, TX3, 11, tyX3, gk3, by decide, t_410, rfl, rfl, fun _ => rfl⟩
theorem fX3_38 : gF RX3 38 3 1 .int false := ⟨RX3, TX3, 11, tyX3, gk3, by decide, t_404, rfl, rfl, fun h => by cases h⟩
theorem fX3_42 : gF RX3 42 3 2 .int false := ⟨RX3, TX3, 11, tyX3, gk3, by decide, t_405, rfl, rfl, fun h => by cases h⟩
theorem fX3_45 : gF RX3 45 3 3 .int false := ⟨RX3, TX3, 11, tyX3, gk3, by decide, t_406, rfl, rfl, fun h => by cases h⟩
theorem fX3_48 : gF RX3 48 3 4 .int false := ⟨RX3, TX3, 11, tyX3, gk3, by decide, t_407, rfl, rfl, fun h => by cases h⟩
theorem fX3_51 : gF RX3 51 3 5 .int false := ⟨RX3, TX3, 11, tyX3, gk3, by decide, t_408, rfl, rfl, fun h => by cases h⟩
theorem fX3_54 : gF RX3 54 3 6 .boolean false := ⟨RX3, TX3, 11, tyX3, gk3, by decide, t_409, rfl, rfl, fun h => by cases h⟩
theorem fX3_62 : gF RX3 62 3 10 .int false := ⟨RX3, TX3, 11, tyX3, gk3, by decide, t_413, rfl, rfl, fun h => by cases h⟩
theorem fX3_73 : gF RX3 73 3 0 .int false := ⟨RX3, TX3, 11, tyX3, gk3, by decide, t_403, rfl, rfl, fun h => by cases h⟩
theorem fX3_76 : gF RX3 76 3 9 .int false := ⟨RX3, TX3, 11, tyX3, gk3, by decide, t_412, rfl, rfl, fun h => by cases h⟩
theorem fX3_79 : gF RX3 79 3 8 .int false := ⟨RX3, TX3, 11, tyX3, gk3, by decide, t_411, rfl, rfl, fun h => by cases h⟩
theorem fX4_7 : gF RX4 7 4 1 .int false := ⟨RX4, TX4, 3, tyX4, gk4, by decide, t_135, rfl, rfl, fun h => by cases h⟩
theorem fX4_19 : gF RX4 19 4 0 (.array .int) false := ⟨RX4, TX4, 3, tyX4, gk4, by decide, t_134, rfl, rfl, fun h => by cases h⟩
theorem fX4_23 : gF RX4 23 4 2 .int true := ⟨RX4, TX4, 3, tyX4, gk4, by decide, t_136, rfl, rfl, fun _ => rfl⟩
theorem fX5_9 : gF RX5 9 5 1 .int false := ⟨RX5, TX5, 15, tyX5, gk5, by decide, t_199, rfl, rfl, fun h => by cases h⟩
theorem fX5_15 : gF RX5 15 5 2 .int false := ⟨RX5, TX5, 15, tyX5, gk5, by decide, t_201, rfl, rfl, fun h => by cases h⟩
theorem fX5_18 : gF RX5 18 5 3 .int false := ⟨RX5, TX5, 15, tyX5, gk5, by decide, t_203, rfl, rfl, fun h => by cases h⟩
theorem fX5_21 : gF RX5 21 5 4 .int false := ⟨RX5, TX5, 15, tyX5, gk5, by decide, t_205, rfl, rfl, fun h => by cases h⟩
theorem fX5_24 : gF RX5 24 5 5 .int false := ⟨RX5, TX5, 15, tyX5, gk5, by decide, t_207, rfl, rfl, fun h => by cases h⟩
theorem fX5_27 : gF RX5 27 5 6 .int false := ⟨RX5, TX5, 15, tyX5, gk5, by decide, t_209, rfl, rfl, fun h => by cases h⟩
theorem fX5_30 : gF RX5 30 5 7 .int false := ⟨RX5, TX5, 15, tyX5, gk5, by decide, t_211, rfl, rfl, fun h => by cases h⟩
theorem nX5_33 : gNw RX5 33 4 3 [.null, .int 0, .int 0] := ⟨RX4, TX4, tyX4, gk4, t_195, t_126, t_102, by decide +kernel, fun _ _ => rfl⟩
theorem fX5_38 : gF RX5 38 5 8 (.object "CardLink$Row") true := ⟨RX5, TX5, 15, tyX5, gk5, by decide, t_213, rfl, rfl, fun _ => rfl⟩
theorem fX5_42 : gF RX5 42 5 9 (.object "CardLink$Row") true := ⟨RX5, TX5, 15, tyX5, gk5, by decide, t_215, rfl, rfl, fun _ => rfl⟩
theorem fX5_45 : gF RX5 45 5 10 (.object "CardLink$Row") true := ⟨RX5, TX5, 15, tyX5, gk5, by decide, t_219, rfl, rfl, fun _ => rfl⟩
theorem fX5_48 : gF RX5 48 5 11 .int false := ⟨RX5, TX5, 15, tyX5, gk5, by decide, t_220, rfl, rfl, fun h => by cases h⟩
theorem fX5_51 : gF RX5 51 5 12 .boolean false := ⟨RX5, TX5, 15, tyX5, gk5, by decide, t_221, rfl, rfl, fun h => by cases h⟩
theorem fX5_55 : gF RX5 55 5 13 .int false := ⟨RX5, TX5, 15, tyX5, gk5, by decide, t_222, rfl, rfl, fun h => by cases h⟩
theorem fX5_58 : gF RX5 58 5 14 .int false := ⟨RX5, TX5, 15, tyX5, gk5, by decide, t_223, rfl, rfl, fun h => by cases h⟩
theorem fX5_61 : gF RX5 61 5 0 .int true := ⟨RX5, TX5, 15, tyX5, gk5, by decide, t_197, rfl, rfl, fun _ => rfl⟩
theorem fX6_9 : gF RX6 9 6 0 .int false := ⟨RX6, TX6, 10, tyX6, gk6, by decide, t_261, rfl, rfl, fun h => by cases h⟩
theorem fX6_15 : gF RX6 15 6 1 .int false := ⟨RX6, TX6, 10, tyX6, gk6, by decide, t_263, rfl, rfl, fun h => by cases h⟩
theorem fX6_18 : gF RX6 18 6 2 .int false := ⟨RX6, TX6, 10, tyX6, gk6, by decide, t_267, rfl, rfl, fun h => by cases h⟩
theorem fX6_21 : gF RX6 21 6 3 (.array .int) true := ⟨RX6, TX6, 10, tyX6, gk6, by decide, t_269, rfl, rfl, fun _ => rfl⟩
theorem fX6_25 : gF RX6 25 6 4 (.array .int) true := ⟨RX6, TX6, 10, tyX6, gk6, by decide, t_270, rfl, rfl, fun _ => rfl⟩
theorem fX6_28 : gF RX6 28 6 5 (.array .int) true := ⟨RX6, TX6, 10, tyX6, gk6, by decide, t_271, rfl, rfl, fun _ => rfl⟩
theorem fX6_31 : gF RX6 31 6 6 .int false := ⟨RX6, TX6, 10, tyX6, gk6, by decide, t_272, rfl, rfl, fun h => by cases h⟩
theorem fX6_34 : gF RX6 34 6 7 .int false := ⟨RX6, TX6, 10, tyX6, gk6, by decide, t_273, rfl, rfl, fun h => by cases h⟩
theorem fX6_37 : gF RX6 37 6 8 .int false := ⟨RX6, TX6, 10, tyX6, gk6, by decide, t_274, rfl, rfl, fun h => by cases h⟩
theorem fX6_40 : gF RX6 40 6 9 .int false := ⟨RX6, TX6, 10, tyX6, gk6, by decide, t_275, rfl, rfl, fun h => by cases h⟩
theorem nL_8 : gNw RL 8 7 7 [.null, .null, .null, .null, .null, .null, .int 0] := ⟨RX7, TX7, tyX7, gk7, t_117, t_118, t_101, by decide +kernel, fun _ _ => rfl⟩
theorem nL_16 : gNw RL 16 8 39 [.null, .int 0, .int 0, .int 0, .null, .null, .null, .null, .null, .int 0, .null, .null, .int 0, .int 0, .null, .null, .null, .null, .int 0, .int 0, .int 0, .int 0, .int 0, .int 0, .int 0, .null, .int 0, .null, .int 0, .int 0, .int 0, .int 0, .null, .int 0, .int 0, .int 0, .int 0, .null, .int 0] := ⟨RX8, TX8, tyX8, gk8, t_1070, t_1071, t_110, by decide +kernel, fun _ _ => rfl⟩
theorem fX8_7 : gF RX8 7 8 0 (.array .int) true := ⟨RX8, TX8, 39, tyX8, gk8, by decide, t_1081, rfl, rfl, fun _ => rfl⟩
theorem fX8_13 : gF RX8 13 8 4 (.array .int) true := ⟨RX8, TX8, 39, tyX8, gk8, by decide, t_1085, rfl, rfl, fun _ => rfl⟩
theorem fX8_16 : gF RX8 16 8 5 (.array .int) true := ⟨RX8, TX8, 39, tyX8, gk8, by decide, t_1086, rfl, rfl, fun _ => rfl⟩
theorem fX8_19 : gF RX8 19 8 6 (.array .int) true := ⟨RX8, TX8, 39, tyX8, gk8, by decide, t_1087, rfl, rfl, fun _ => rfl⟩
theorem fX8_22 : gF RX8 22 8 7 (.array .int) true := ⟨RX8, TX8, 39, tyX8, gk8, by decide, t_1088, rfl, rfl, fun _ => rfl⟩
theorem fX8_25 : gF RX8 25 8 8 (.array .int) true := ⟨RX8, TX8, 39, tyX8, gk8, by decide, t_1089, rfl, rfl, fun _ => rfl⟩
theorem fX8_28 : gF RX8 28 8 9 .int false := ⟨RX8, TX8, 39, tyX8, gk8, by decide, t_1090, rfl, rfl, fun h => by cases h⟩
theorem fX8_32 : gF RX8 32 8 10 (.array .int) true := ⟨RX8, TX8, 39, tyX8, gk8, by decide, t_1091, rfl, rfl, fun _ => rfl⟩
theorem fX8_35 : gF RX8 35 8 11 (.array .int) true := ⟨RX8, TX8, 39, tyX8, gk8, by decide, t_1092, rfl, rfl, fun _ => rfl⟩
theorem fX8_38 : gF RX8 38 8 14 (.array .int) true := ⟨RX8, TX8, 39, tyX8, gk8, by decide, t_1095, rfl, rfl, fun _ => rfl⟩
theorem fX8_41 : gF RX8 41 8 15 (.array .int) true := ⟨RX8, TX8, 39, tyX8, gk8, by decide, t_1096, rfl, rfl, fun _ => rfl⟩
theorem fX8_44 : gF RX8 44 8 16 (.array .int) true := ⟨RX8, TX8, 39, tyX8, gk8, by decide, t_1097, rfl, rfl, fun _ => rfl⟩
theorem fX8_48 : gF RX8 48 8 17 (.array .int) true := ⟨RX8, TX8, 39, tyX8, gk8, by decide, t_1098, rfl, rfl, fun _ => rfl⟩
theorem fX8_51 : gF RX8 51 8 25 (.array .int) true := ⟨RX8, TX8, 39, tyX8, gk8, by decide, t_1106, rfl, rfl, fun _ => rfl⟩
theorem fX8_54 : gF RX8 54 8 27 (.array .int) true := ⟨RX8, TX8, 39, tyX8, gk8, by decide, t_1108, rfl, rfl, fun _ => rfl⟩
theorem fX8_57 : gF RX8 57 8 32 (.array .int) true := ⟨RX8, TX8, 39, tyX8, gk8, by decide, t_1113, rfl, rfl, fun _ => rfl⟩
theorem fX8_60 : gF RX8 60 8 37 (.array .int) true := ⟨RX8, TX8, 39, tyX8, gk8, by decide, t_1118, rfl, rfl, fun _ => rfl⟩
theorem fX8_66 : gF RX8 66 8 2 .int false := ⟨RX8, TX8, 39, tyX8, gk8, by decide, t_1083, rfl, rfl, fun h => by cases h⟩
theorem fX8_69 : gF RX8 69 8 12 .int false := ⟨RX8, TX8, 39, tyX8, gk8, by decide, t_1093, rfl, rfl, fun h => by cases h⟩
theorem fX8_72 : gF RX8 72 8 18 .int false := ⟨RX8, TX8, 39, tyX8, gk8, by decide, t_1099, rfl, rfl, fun h => by cases h⟩
theorem fX8_75 : gF RX8 75 8 1 .int false := ⟨RX8, TX8, 39, tyX8, gk8, by decide, t_1082, rfl, rfl, fun h => by cases h⟩
theorem fX8_86 : gF RX8 86 8 22 .int false := ⟨RX8, TX8, 39, tyX8, gk8, by decide, t_1103, rfl, rfl, fun h => by cases h⟩
theorem fX8_89 : gF RX8 89 8 21 .int false := ⟨RX8, TX8, 39, tyX8, gk8, by decide, t_1102, rfl, rfl, fun h => by cases h⟩
theorem fX8_92 : gF RX8 92 8 20 .int false := ⟨RX8, TX8, 39, tyX8, gk8, by decide, t_1101, rfl, rfl, fun h => by cases h⟩
theorem fX8_113 : gF RX8 113 8 23 .int false := ⟨RX8, TX8, 39, tyX8, gk8, by decide, t_1104, rfl, rfl, fun h => by cases h⟩
theorem fX8_123 : gF RX8 123 8 24 .boolean false := ⟨RX8, TX8, 39, tyX8, gk8, by decide, t_1105, rfl, rfl, fun h => by cases h⟩
theorem fX8_134 : gF RX8 134 8 3 .boolean false := ⟨RX8, TX8, 39, tyX8, gk8, by decide, t_1084, rfl, rfl, fun h => by cases h⟩
theorem fX8_154 : gF RX8 154 8 30 .boolean false := ⟨RX8, TX8, 39, tyX8, gk8, by decide, t_1111, rfl, rfl, fun h => by cases h⟩
theorem fX8_157 : gF RX8 157 8 31 .boolean false := ⟨RX8, TX8, 39, tyX8, gk8, by decide, t_1112, rfl, rfl, fun h => by cases h⟩
theorem fX8_160 : gF RX8 160 8 28 .int false := ⟨RX8, TX8, 39, tyX8, gk8, by decide, t_1109, rfl, rfl, fun h => by cases h⟩
theorem fX8_167 : gF RX8 167 8 26 .int false := ⟨RX8, TX8, 39, tyX8, gk8, by decide, t_1107, rfl, rfl, fun h => by cases h⟩
theorem fX8_176 : gF RX8 176 8 29 .int false := ⟨RX8, TX8, 39, tyX8, gk8, by decide, t_1110, rfl, rfl, fun h => by cases h⟩
theorem fX8_179 : gF RX8 179 8 33 .boolean false := ⟨RX8, TX8, 39, tyX8, gk8, by decide, t_1114, rfl, rfl, fun h => by cases h⟩
theorem fX8_182 : gF RX8 182 8 19 .boolean false := ⟨RX8, TX8, 39, tyX8, gk8, by decide, t_1100, rfl, rfl, fun h => by cases h⟩
theorem fX8_192 : gF RX8 192 8 13 .int false := ⟨RX8, TX8, 39, tyX8, gk8, by decide, t_1094, rfl, rfl, fun h => by cases h⟩
theorem fX8_219 : gF RX8 219 8 34 .int false := ⟨RX8, TX8, 39, tyX8, gk8, by decide, t_1115, rfl, rfl, fun h => by cases h⟩
theorem fX8_222 : gF RX8 222 8 35 .int false := ⟨RX8, TX8, 39, tyX8, gk8, by decide, t_1116, rfl, rfl, fun h => by cases h⟩
theorem fX8_306 : gF RX8 306 8 36 .int false := ⟨RX8, TX8, 39, tyX8, gk8, by decide, t_1117, rfl, rfl, fun h => by cases h⟩
theorem fX8_318 : gF RX8 318 8 38 .int false := ⟨RX8, TX8, 39, tyX8, gk8, by decide, t_1119, rfl, rfl, fun h => by cases h⟩
theorem gyX0_init : gY yX0_init cX0_init 1 none 0 := ⟨t_108, t_369, by decide +kernel⟩
theorem giX0_init : gVi yX0_init := t_368
theorem gyX0_forget : gY yX0_forget cX0_forget 1 none 0 := ⟨t_108, t_590, by decide +kernel⟩
theorem gvX0_forget : gVv yX0_forget := ⟨t_588, t_589⟩
theorem gyX0_outlook : gY yX0_outlook cX0_outlook 3 (some (.object "CardLink$Line")) 1 := ⟨t_108, t_946, by decide +kernel⟩
theorem gvX0_outlook : gVv yX0_outlook := ⟨t_944, t_945⟩
theorem gyX0_harmful : gY yX0_harmful cX0_harmful 2 (some .int) 1 := ⟨t_108, t_984, by decide +kernel⟩
theorem gvX0_harmful : gVv yX0_harmful := ⟨t_982, t_983⟩
theorem gyX0_firstHarmful : gY yX0_firstHarmful cX0_firstHarmful 2 (some .int) 1 := ⟨t_108, t_988, by decide +kernel⟩
theorem gvX0_firstHarmful : gVv yX0_firstHarmful := ⟨t_986, t_987⟩
theorem gyX0_tryAll : gY yX0_tryAll cX0_tryAll 8 none 2 := ⟨t_108, t_968, by decide +kernel⟩
theorem gvX0_tryAll : gVv yX0_tryAll := ⟨t_966, t_967⟩
theorem gyX0_forkIsHarmed : gY yX0_forkIsHarmed cX0_forkIsHarmed 1 (some .boolean) 0 := ⟨t_108, t_976, by decide +kernel⟩
theorem gvX0_forkIsHarmed : gVv yX0_forkIsHarmed := ⟨t_975, t_40⟩
theorem gyX1_init : gY yX1_init cX1_init 1 none 0 := ⟨t_104, t_149, by decide +kernel⟩
theorem giX1_init : gVi yX1_init := t_148
theorem gyX1_forgetAll : gY yX1_forgetAll cX1_forgetAll 1 none 0 := ⟨t_104, t_563, by decide +kernel⟩
theorem gvX1_forgetAll : gVv yX1_forgetAll := ⟨t_561, t_562⟩
theorem gyX1_unlike : gY yX1_unlike cX1_unlike 1 (some .int) 0 := ⟨t_104, t_996, by decide +kernel⟩
theorem gvX1_unlike : gVv yX1_unlike := ⟨t_994, t_995⟩
theorem gyX1_kept : gY yX1_kept cX1_kept 1 (some .int) 0 := ⟨t_104, t_930, by decide +kernel⟩
theorem gvX1_kept : gVv yX1_kept := ⟨t_928, t_929⟩
theorem gyX1_note : gY yX1_note cX1_note 4 none 3 := ⟨t_104, t_877, by decide +kernel⟩
theorem gvX1_note : gVv yX1_note := ⟨t_875, t_876⟩
theorem gyX1_idOf : gY yX1_idOf cX1_idOf 6 (some .int) 2 := ⟨t_104, t_855, by decide +kernel⟩
theorem gvX1_idOf : gVv yX1_idOf := ⟨t_853, t_854⟩
theorem gyX1_chainOf : gY yX1_chainOf cX1_chainOf 4 (some .int) 2 := ⟨t_104, t_860, by decide +kernel⟩
theorem gyX1_isBlock : gY yX1_isBlock cX1_isBlock 6 (some .boolean) 3 := ⟨t_104, t_865, by decide +kernel⟩
theorem gvX1_isBlock : gVv yX1_isBlock := ⟨t_864, t_30⟩
theorem gyX1_addUnlike : gY yX1_addUnlike cX1_addUnlike 6 (some .int) 3 := ⟨t_104, t_869, by decide +kernel⟩
theorem gvX1_addUnlike : gVv yX1_addUnlike := ⟨t_868, t_31⟩
theorem gyX1_placeOf : gY yX1_placeOf cX1_placeOf 3 (some .int) 1 := ⟨t_104, t_938, by decide +kernel⟩
theorem gvX1_placeOf : gVv yX1_placeOf := ⟨t_937, t_39⟩
theorem gyX1_tell : gY yX1_tell cX1_tell 6 (some .int) 2 := ⟨t_104, t_1069, by decide +kernel⟩
theorem gvX1_tell : gVv yX1_tell := ⟨t_1067, t_1068⟩
theorem gyX1_byteAt : gY yX1_byteAt cX1_byteAt 4 (some .int) 2 := ⟨t_104, t_934, by decide +kernel⟩
theorem gvX1_byteAt : gVv yX1_byteAt := ⟨t_932, t_933⟩
theorem gyX2_init : gY yX2_init cX2_init 2 none 1 := ⟨t_105, t_187, by decide +kernel⟩
theorem giX2_init : gVi yX2_init := t_186
theorem gyX2_restart : gY yX2_restart cX2_restart 2 none 1 := ⟨t_105, t_572, by decide +kernel⟩
theorem gvX2_restart : gVv yX2_restart := ⟨t_570, t_571⟩
theorem gyX2_copy : gY yX2_copy cX2_copy 2 none 1 := ⟨t_105, t_950, by decide +kernel⟩
theorem gvX2_copy : gVv yX2_copy := ⟨t_948, t_949⟩
theorem gyX2_startMessage : gY yX2_startMessage cX2_startMessage 2 none 1 := ⟨t_105, t_625, by decide +kernel⟩
theorem gvX2_startMessage : gVv yX2_startMessage := ⟨t_623, t_624⟩
theorem gyX2_startRoom : gY yX2_startRoom cX2_startRoom 2 none 1 := ⟨t_105, t_647, by decide +kernel⟩
theorem gvX2_startRoom : gVv yX2_startRoom := ⟨t_645, t_646⟩
theorem gyX2_begin : gY yX2_begin cX2_begin 2 none 1 := ⟨t_105, t_634, by decide +kernel⟩
theorem gvX2_begin : gVv yX2_begin := ⟨t_633, t_10⟩
theorem gyX2_blocksAhead : gY yX2_blocksAhead cX2_blocksAhead 4 (some .int) 0 := ⟨t_105, t_638, by decide +kernel⟩
theorem gvX2_blocksAhead : gVv yX2_blocksAhead := ⟨t_636, t_637⟩
theorem gyX2_blocksSent : gY yX2_blocksSent cX2_blocksSent 1 (some .int) 0 := ⟨t_105, t_688, by decide +kernel⟩
theorem gvX2_blocksSent : gVv yX2_blocksSent := ⟨t_686, t_687⟩
theorem gyX2_run : gY yX2_run cX2_run 4 (some .int) 1 := ⟨t_105, t_684, by decide +kernel⟩
theorem gvX2_run : gVv yX2_run := ⟨t_682, t_683⟩
theorem gyX2_turn : gY yX2_turn cX2_turn 2 none 0 := ⟨t_105, t_696, by decide +kernel⟩
theorem gvX2_turn : gVv yX2_turn := ⟨t_694, t_695⟩
theorem gyX2_firstKind : gY yX2_firstKind cX2_firstKind 1 (some .int) 0 := ⟨t_105, t_700, by decide +kernel⟩
theorem gvX2_firstKind : gVv yX2_firstKind := ⟨t_699, t_13⟩
theorem gyX2_countTries : gY yX2_countTries cX2_countTries 2 (some .int) 1 := ⟨t_105, t_792, by decide +kernel⟩
theorem gvX2_countTries : gVv yX2_countTries := ⟨t_791, t_23⟩
theorem gyX2_readerKind : gY yX2_readerKind cX2_readerKind 2 (some .int) 0 := ⟨t_105, t_712, by decide +kernel⟩
theorem gvX2_readerKind : gVv yX2_readerKind := ⟨t_711, t_14⟩
theorem gyX2_cardKind : gY yX2_cardKind cX2_cardKind 2 (some .int) 0 := ⟨t_105, t_881, by decide +kernel⟩
theorem gvX2_cardKind : gVv yX2_cardKind := ⟨t_880, t_32⟩
theorem gyX2_onBroken : gY yX2_onBroken cX2_onBroken 2 (some .int) 1 := ⟨t_105, t_716, by decide +kernel⟩
theorem gvX2_onBroken : gVv yX2_onBroken := ⟨t_715, t_15⟩
theorem gyX2_refuse : gY yX2_refuse cX2_refuse 2 (some .int) 1 := ⟨t_105, t_751, by decide +kernel⟩
theorem gvX2_refuse : gVv yX2_refuse := ⟨t_750, t_20⟩
theorem gyX2_isAnswerTo : gY yX2_isAnswerTo cX2_isAnswerTo 2 (some .boolean) 1 := ⟨t_105, t_730, by decide +kernel⟩
theorem gvX2_isAnswerTo : gVv yX2_isAnswerTo := ⟨t_729, t_17⟩
theorem gyX2_readerOnAnswer : gY yX2_readerOnAnswer cX2_readerOnAnswer 2 (some .int) 0 := ⟨t_105, t_726, by decide +kernel⟩
theorem gvX2_readerOnAnswer : gVv yX2_readerOnAnswer := ⟨t_725, t_16⟩
theorem gyX2_finish : gY yX2_finish cX2_finish 2 (some .int) 1 := ⟨t_105, t_735, by decide +kernel⟩
theorem gvX2_finish : gVv yX2_finish := ⟨t_734, t_18⟩
theorem gyX2_cardOnAnswer : gY yX2_cardOnAnswer cX2_cardOnAnswer 2 (some .int) 0 := ⟨t_105, t_889, by decide +kernel⟩
theorem gvX2_cardOnAnswer : gVv yX2_cardOnAnswer := ⟨t_888, t_34⟩
theorem gyX2_onI : gY yX2_onI cX2_onI 3 (some .int) 2 := ⟨t_105, t_755, by decide +kernel⟩
theorem gvX2_onI : gVv yX2_onI := ⟨t_754, t_21⟩
theorem gyX2_onReceipt : gY yX2_onReceipt cX2_onReceipt 4 (some .int) 2 := ⟨t_105, t_780, by decide +kernel⟩
theorem gvX2_onReceipt : gVv yX2_onReceipt := ⟨t_779, t_22⟩
theorem gyX2_onRequest : gY yX2_onRequest cX2_onRequest 5 (some .int) 3 := ⟨t_105, t_739, by decide +kernel⟩
theorem gvX2_onRequest : gVv yX2_onRequest := ⟨t_738, t_19⟩
theorem gyX2_doMessage : gY yX2_doMessage cX2_doMessage 3 (some .int) 0 := ⟨t_105, t_897, by decide +kernel⟩
theorem gvX2_doMessage : gVv yX2_doMessage := ⟨t_896, t_36⟩
theorem gyX2_putCounting : gY yX2_putCounting cX2_putCounting 3 (some .int) 1 := ⟨t_105, t_901, by decide +kernel⟩
theorem gvX2_putCounting : gVv yX2_putCounting := ⟨t_900, t_37⟩
theorem gyX2_putBehindThird : gY yX2_putBehindThird cX2_putBehindThird 2 (some .int) 0 := ⟨t_105, t_893, by decide +kernel⟩
theorem gvX2_putBehindThird : gVv yX2_putBehindThird := ⟨t_892, t_35⟩
theorem gyX2_putFirstByte : gY yX2_putFirstByte cX2_putFirstByte 1 (some .int) 0 := ⟨t_105, t_885, by decide +kernel⟩
theorem gvX2_putFirstByte : gVv yX2_putFirstByte := ⟨t_884, t_33⟩
theorem gyX2_kindToSend : gY yX2_kindToSend cX2_kindToSend 3 (some .int) 3 := ⟨t_105, t_799, by decide +kernel⟩
theorem gyX2_send : gY yX2_send cX2_send 7 none 3 := ⟨t_105, t_796, by decide +kernel⟩
theorem gvX2_send : gVv yX2_send := ⟨t_795, t_24⟩
theorem gyX2_compose : gY yX2_compose cX2_compose 5 none 2 := ⟨t_105, t_810, by decide +kernel⟩
theorem gvX2_compose : gVv yX2_compose := ⟨t_809, t_25⟩
theorem gyX2_hasInf : gY yX2_hasInf cX2_hasInf 1 (some .boolean) 1 := ⟨t_105, t_818, by decide +kernel⟩
theorem gyX2_judge : gY yX2_judge cX2_judge 3 (some .int) 2 := ⟨t_105, t_847, by decide +kernel⟩
theorem gvX2_judge : gVv yX2_judge := ⟨t_846, t_28⟩
theorem gyX2_isWellFormed : gY yX2_isWellFormed cX2_isWellFormed 4 (some .boolean) 3 := ⟨t_105, t_851, by decide +kernel⟩
theorem gvX2_isWellFormed : gVv yX2_isWellFormed := ⟨t_850, t_29⟩
theorem gyX3_init : gY yX3_init cX3_init 1 none 0 := ⟨t_109, t_399, by decide +kernel⟩
theorem giX3_init : gVi yX3_init := t_398
theorem gyX3_read : gY yX3_read cX3_read 3 (some .int) 1 := ⟨t_109, t_507, by decide +kernel⟩
theorem gvX3_read : gVv yX3_read := ⟨t_505, t_506⟩
theorem gyX3_clear : gY yX3_clear cX3_clear 1 none 0 := ⟨t_109, t_511, by decide +kernel⟩
theorem gvX3_clear : gVv yX3_clear := ⟨t_510, t_1⟩
theorem gyX3_faultAt : gY yX3_faultAt cX3_faultAt 2 (some .int) 2 := ⟨t_109, t_520, by decide +kernel⟩
theorem gyX3_readHead : gY yX3_readHead cX3_readHead 2 (some .int) 1 := ⟨t_109, t_516, by decide +kernel⟩
theorem gvX3_readHead : gVv yX3_readHead := ⟨t_515, t_2⟩
theorem gyX3_readGroups : gY yX3_readGroups cX3_readGroups 6 (some .int) 1 := ⟨t_109, t_528, by decide +kernel⟩
theorem gvX3_readGroups : gVv yX3_readGroups := ⟨t_527, t_3⟩
theorem gyX3_readGroupByte : gY yX3_readGroupByte cX3_readGroupByte 4 (some .int) 3 := ⟨t_109, t_532, by decide +kernel⟩
theorem gvX3_readGroupByte : gVv yX3_readGroupByte := ⟨t_531, t_4⟩
theorem gyX3_readFirstGroup : gY yX3_readFirstGroup cX3_readFirstGroup 3 (some .int) 2 := ⟨t_109, t_540, by decide +kernel⟩
theorem gvX3_readFirstGroup : gVv yX3_readFirstGroup := ⟨t_539, t_6⟩
theorem gyX3_readLinkGroup : gY yX3_readLinkGroup cX3_readLinkGroup 3 (some .int) 2 := ⟨t_109, t_554, by decide +kernel⟩
theorem gvX3_readLinkGroup : gVv yX3_readLinkGroup := ⟨t_553, t_7⟩
theorem gyX3_readTd : gY yX3_readTd cX3_readTd 4 (some .int) 2 := ⟨t_109, t_536, by decide +kernel⟩
theorem gvX3_readTd : gVv yX3_readTd := ⟨t_535, t_5⟩
theorem gyX3_readTail : gY yX3_readTail cX3_readTail 5 (some .int) 2 := ⟨t_109, t_558, by decide +kernel⟩
theorem gvX3_readTail : gVv yX3_readTail := ⟨t_557, t_8⟩
theorem gyX3_clockOf : gY yX3_clockOf cX3_clockOf 2 (some .int) 1 := ⟨t_109, t_543, by decide +kernel⟩
theorem gyX3_divisorOf : gY yX3_divisorOf cX3_divisorOf 2 (some .int) 1 := ⟨t_109, t_548, by decide +kernel⟩
theorem gyX3_cardRoom : gY yX3_cardRoom cX3_cardRoom 1 (some .int) 0 := ⟨t_109, t_568, by decide +kernel⟩
theorem gvX3_cardRoom : gVv yX3_cardRoom := ⟨t_566, t_567⟩
theorem gyX3_historicalBytes : gY yX3_historicalBytes cX3_historicalBytes 1 (some .int) 0 := ⟨t_109, t_597, by decide +kernel⟩
theorem gvX3_historicalBytes : gVv yX3_historicalBytes := ⟨t_595, t_596⟩
theorem gyX3_historicalByte : gY yX3_historicalByte cX3_historicalByte 2 (some .int) 1 := ⟨t_109, t_613, by decide +kernel⟩
theorem gvX3_historicalByte : gVv yX3_historicalByte := ⟨t_611, t_612⟩
theorem gyX3_tell : gY yX3_tell cX3_tell 2 (some .int) 1 := ⟨t_109, t_605, by decide +kernel⟩
theorem gvX3_tell : gVv yX3_tell := ⟨t_603, t_604⟩
theorem gyX4_init : gY yX4_init cX4_init 3 none 2 := ⟨t_102, t_129, by decide +kernel⟩
theorem giX4_init : gVi yX4_init := t_128
theorem gyX4_size : gY yX4_size cX4_size 1 (some .int) 0 := ⟨t_102, t_466, by decide +kernel⟩
theorem gvX4_size : gVv yX4_size := ⟨t_464, t_465⟩
theorem gyX4_at : gY yX4_at cX4_at 2 (some .int) 1 := ⟨t_102, t_524, by decide +kernel⟩
theorem gvX4_at : gVv yX4_at := ⟨t_522, t_523⟩
theorem gyX4_put : gY yX4_put cX4_put 3 none 2 := ⟨t_102, t_873, by decide +kernel⟩
theorem gvX4_put : gVv yX4_put := ⟨t_871, t_872⟩
theorem gyX4_add : gY yX4_add cX4_add 2 none 1 := ⟨t_102, t_474, by decide +kernel⟩
theorem gvX4_add : gVv yX4_add := ⟨t_472, t_473⟩
theorem gyX4_keep : gY yX4_keep cX4_keep 2 none 1 := ⟨t_102, t_499, by decide +kernel⟩
theorem gvX4_keep : gVv yX4_keep := ⟨t_497, t_498⟩
theorem gyX4_copy : gY yX4_copy cX4_copy 3 none 1 := ⟨t_102, t_629, by decide +kernel⟩
theorem gvX4_copy : gVv yX4_copy := ⟨t_627, t_628⟩
theorem gyX4_same : gY yX4_same cX4_same 3 (some .boolean) 1 := ⟨t_102, t_980, by decide +kernel⟩
theorem gvX4_same : gVv yX4_same := ⟨t_978, t_979⟩
theorem gyX4_xor : gY yX4_xor cX4_xor 4 (some .int) 1 := ⟨t_102, t_822, by decide +kernel⟩
theorem gvX4_xor : gVv yX4_xor := ⟨t_820, t_821⟩
theorem gyX5_init : gY yX5_init cX5_init 2 none 1 := ⟨t_106, t_193, by decide +kernel⟩
theorem giX5_init : gVi yX5_init := t_192
theorem gyX5_restart : gY yX5_restart cX5_restart 2 none 1 := ⟨t_106, t_576, by decide +kernel⟩
theorem gvX5_restart : gVv yX5_restart := ⟨t_574, t_575⟩
theorem gyX5_copy : gY yX5_copy cX5_copy 2 none 1 := ⟨t_106, t_954, by decide +kernel⟩
theorem gvX5_copy : gVv yX5_copy := ⟨t_952, t_953⟩
theorem gyX5_emptyAll : gY yX5_emptyAll cX5_emptyAll 1 none 0 := ⟨t_106, t_580, by decide +kernel⟩
theorem gvX5_emptyAll : gVv yX5_emptyAll := ⟨t_578, t_579⟩
theorem gyX5_breakOff : gY yX5_breakOff cX5_breakOff 1 none 0 := ⟨t_106, t_743, by decide +kernel⟩
theorem gvX5_breakOff : gVv yX5_breakOff := ⟨t_741, t_742⟩
theorem gyX5_cutNext : gY yX5_cutNext cX5_cutNext 3 (some .int) 1 := ⟨t_106, t_803, by decide +kernel⟩
theorem gvX5_cutNext : gVv yX5_cutNext := ⟨t_801, t_802⟩
theorem gyX5_pendingKind : gY yX5_pendingKind cX5_pendingKind 1 (some .int) 0 := ⟨t_106, t_788, by decide +kernel⟩
theorem gvX5_pendingKind : gVv yX5_pendingKind := ⟨t_786, t_787⟩
theorem gyX5_pendingSize : gY yX5_pendingSize cX5_pendingSize 1 (some .int) 0 := ⟨t_106, t_815, by decide +kernel⟩
theorem gvX5_pendingSize : gVv yX5_pendingSize := ⟨t_813, t_814⟩
theorem gyX5_hasPending : gY yX5_hasPending cX5_hasPending 1 (some .boolean) 0 := ⟨t_106, t_784, by decide +kernel⟩
theorem gvX5_hasPending : gVv yX5_hasPending := ⟨t_782, t_783⟩
theorem gyX5_pendingHasMore : gY yX5_pendingHasMore cX5_pendingHasMore 1 (some .boolean) 0 := ⟨t_106, t_759, by decide +kernel⟩
theorem gvX5_pendingHasMore : gVv yX5_pendingHasMore := ⟨t_757, t_758⟩
theorem gyX5_passPending : gY yX5_passPending cX5_passPending 1 none 0 := ⟨t_106, t_747, by decide +kernel⟩
theorem gvX5_passPending : gVv yX5_passPending := ⟨t_745, t_746⟩
theorem gyX5_takeInf : gY yX5_takeInf cX5_takeInf 3 none 1 := ⟨t_106, t_764, by decide +kernel⟩
theorem gvX5_takeInf : gVv yX5_takeInf := ⟨t_762, t_763⟩
theorem gyX5_takeWhole : gY yX5_takeWhole cX5_takeWhole 1 none 0 := ⟨t_106, t_771, by decide +kernel⟩
theorem gvX5_takeWhole : gVv yX5_takeWhole := ⟨t_769, t_770⟩
theorem gyX5_takeEmpty : gY yX5_takeEmpty cX5_takeEmpty 1 none 0 := ⟨t_106, t_776, by decide +kernel⟩
theorem gvX5_takeEmpty : gVv yX5_takeEmpty := ⟨t_774, t_775⟩
theorem gyX5_requestKind : gY yX5_requestKind cX5_requestKind 1 (some .int) 0 := ⟨t_106, t_708, by decide +kernel⟩
theorem gvX5_requestKind : gVv yX5_requestKind := ⟨t_706, t_707⟩
theorem gyX5_ask : gY yX5_ask cX5_ask 3 (some .int) 2 := ⟨t_106, t_704, by decide +kernel⟩
theorem gvX5_ask : gVv yX5_ask := ⟨t_702, t_703⟩
theorem gyX5_receipt : gY yX5_receipt cX5_receipt 2 (some .int) 1 := ⟨t_106, t_721, by decide +kernel⟩
theorem gvX5_receipt : gVv yX5_receipt := ⟨t_719, t_720⟩
theorem gyX5_noteSent : gY yX5_noteSent cX5_noteSent 2 none 1 := ⟨t_106, t_827, by decide +kernel⟩
theorem gvX5_noteSent : gVv yX5_noteSent := ⟨t_825, t_826⟩
theorem gyX5_blocksSent : gY yX5_blocksSent cX5_blocksSent 1 (some .int) 0 := ⟨t_106, t_692, by decide +kernel⟩
theorem gvX5_blocksSent : gVv yX5_blocksSent := ⟨t_690, t_691⟩
theorem gyX5_tell : gY yX5_tell cX5_tell 2 (some .int) 1 := ⟨t_106, t_917, by decide +kernel⟩
theorem gvX5_tell : gVv yX5_tell := ⟨t_915, t_916⟩
theorem gyX6_init : gY yX6_init cX6_init 1 none 0 := ⟨t_107, t_259, by decide +kernel⟩
theorem giX6_init : gVi yX6_init := t_258
theorem gyX6_restart : gY yX6_restart cX6_restart 1 none 0 := ⟨t_107, t_585, by decide +kernel⟩
theorem gvX6_restart : gVv yX6_restart := ⟨t_583, t_584⟩
theorem gyX6_copy : gY yX6_copy cX6_copy 3 none 1 := ⟨t_107, t_958, by decide +kernel⟩
theorem gvX6_copy : gVv yX6_copy := ⟨t_956, t_957⟩
theorem gyX6_probe : gY yX6_probe cX6_probe 3 none 2 := ⟨t_107, t_972, by decide +kernel⟩
theorem gvX6_probe : gVv yX6_probe := ⟨t_970, t_971⟩
theorem gyX6_faults : gY yX6_faults cX6_faults 1 (some .int) 0 := ⟨t_107, t_668, by decide +kernel⟩
theorem gvX6_faults : gVv yX6_faults := ⟨t_666, t_667⟩
theorem gyX6_isFull : gY yX6_isFull cX6_isFull 1 (some .boolean) 0 := ⟨t_107, t_655, by decide +kernel⟩
theorem gvX6_isFull : gVv yX6_isFull := ⟨t_653, t_654⟩
theorem gyX6_addFault : gY yX6_addFault cX6_addFault 6 none 3 := ⟨t_107, t_659, by decide +kernel⟩
theorem gvX6_addFault : gVv yX6_addFault := ⟨t_657, t_658⟩
theorem gyX6_makePlace : gY yX6_makePlace cX6_makePlace 3 none 1 := ⟨t_107, t_663, by decide +kernel⟩
theorem gvX6_makePlace : gVv yX6_makePlace := ⟨t_662, t_11⟩
theorem gyX6_dropNearest : gY yX6_dropNearest cX6_dropNearest 2 none 0 := ⟨t_107, t_841, by decide +kernel⟩
theorem gvX6_dropNearest : gVv yX6_dropNearest := ⟨t_840, t_27⟩
theorem gyX6_sendLetter : gY yX6_sendLetter cX6_sendLetter 2 (some .int) 0 := ⟨t_107, t_837, by decide +kernel⟩
theorem gvX6_sendLetter : gVv yX6_sendLetter := ⟨t_836, t_26⟩
theorem gyX6_carry : gY yX6_carry cX6_carry 7 (some .int) 2 := ⟨t_107, t_831, by decide +kernel⟩
theorem gvX6_carry : gVv yX6_carry := ⟨t_829, t_830⟩
theorem gyX7_init : gY yX7_init cX7_init 1 none 0 := ⟨t_101, t_121, by decide +kernel⟩
theorem giX7_init : gVi yX7_init := t_120
theorem gyX7_feed : gY yX7_feed cX7_feed 5 (some .int) 2 := ⟨t_101, t_462, by decide +kernel⟩
theorem gvX7_feed : gVv yX7_feed := ⟨t_460, t_461⟩
theorem gyX7_feedEight : gY yX7_feedEight cX7_feedEight 4 none 1 := ⟨t_101, t_470, by decide +kernel⟩
theorem gvX7_feedEight : gVv yX7_feedEight := ⟨t_469, t_0⟩
theorem gyX7_end : gY yX7_end cX7_end 2 (some .int) 1 := ⟨t_101, t_495, by decide +kernel⟩
theorem gvX7_end : gVv yX7_end := ⟨t_493, t_494⟩
theorem gyX7_reset : gY yX7_reset cX7_reset 3 (some .int) 0 := ⟨t_101, t_503, by decide +kernel⟩
theorem gvX7_reset : gVv yX7_reset := ⟨t_501, t_502⟩
theorem gyX7_answer : gY yX7_answer cX7_answer 2 (some .int) 1 := ⟨t_101, t_601, by decide +kernel⟩
theorem gvX7_answer : gVv yX7_answer := ⟨t_599, t_600⟩
theorem gyX7_historical : gY yX7_historical cX7_historical 2 (some .int) 1 := ⟨t_101, t_609, by decide +kernel⟩
theorem gvX7_historical : gVv yX7_historical := ⟨t_607, t_608⟩
theorem gyX7_message : gY yX7_message cX7_message 2 (some .int) 0 := ⟨t_101, t_617, by decide +kernel⟩
theorem gvX7_message : gVv yX7_message := ⟨t_615, t_616⟩
theorem gyX7_room : gY yX7_room cX7_room 2 (some .int) 1 := ⟨t_101, t_643, by decide +kernel⟩
theorem gvX7_room : gVv yX7_room := ⟨t_641, t_642⟩
theorem gyX7_mayStart : gY yX7_mayStart cX7_mayStart 1 (some .boolean) 0 := ⟨t_101, t_621, by decide +kernel⟩
theorem gvX7_mayStart : gVv yX7_mayStart := ⟨t_620, t_9⟩
theorem gyX7_onWay : gY yX7_onWay cX7_onWay 1 (some .boolean) 0 := ⟨t_101, t_680, by decide +kernel⟩
theorem gvX7_onWay : gVv yX7_onWay := ⟨t_679, t_12⟩
theorem gyX7_fault : gY yX7_fault cX7_fault 5 (some .int) 3 := ⟨t_101, t_651, by decide +kernel⟩
theorem gvX7_fault : gVv yX7_fault := ⟨t_649, t_650⟩
theorem gyX7_repeats : gY yX7_repeats cX7_repeats 3 (some .int) 1 := ⟨t_101, t_672, by decide +kernel⟩
theorem gvX7_repeats : gVv yX7_repeats := ⟨t_670, t_671⟩
theorem gyX7_step : gY yX7_step cX7_step 2 (some .int) 1 := ⟨t_101, t_676, by decide +kernel⟩
theorem gvX7_step : gVv yX7_step := ⟨t_674, t_675⟩
theorem gyX7_state : gY yX7_state cX7_state 1 (some .int) 0 := ⟨t_101, t_905, by decide +kernel⟩
theorem gvX7_state : gVv yX7_state := ⟨t_903, t_904⟩
theorem gyX7_side : gY yX7_side cX7_side 3 (some .int) 2 := ⟨t_101, t_909, by decide +kernel⟩
theorem gvX7_side : gVv yX7_side := ⟨t_907, t_908⟩
theorem gyX7_sideOf : gY yX7_sideOf cX7_sideOf 2 (some (.object "CardLink$Side")) 1 := ⟨t_101, t_913, by decide +kernel⟩
theorem gvX7_sideOf : gVv yX7_sideOf := ⟨t_912, t_38⟩
theorem gyX7_got : gY yX7_got cX7_got 4 (some .int) 2 := ⟨t_101, t_921, by decide +kernel⟩
theorem gvX7_got : gVv yX7_got := ⟨t_919, t_920⟩
theorem gyX7_log : gY yX7_log cX7_log 3 (some .int) 2 := ⟨t_101, t_1004, by decide +kernel⟩
theorem gvX7_log : gVv yX7_log := ⟨t_1002, t_1003⟩
theorem gyX7_byteOf : gY yX7_byteOf cX7_byteOf 3 (some .int) 2 := ⟨t_101, t_926, by decide +kernel⟩
theorem gvX7_byteOf : gVv yX7_byteOf := ⟨t_924, t_925⟩
theorem gyX7_would : gY yX7_would cX7_would 3 (some .int) 1 := ⟨t_101, t_942, by decide +kernel⟩
theorem gvX7_would : gVv yX7_would := ⟨t_940, t_941⟩
theorem gyX7_harm : gY yX7_harm cX7_harm 3 (some .int) 2 := ⟨t_101, t_964, by decide +kernel⟩
theorem gvX7_harm : gVv yX7_harm := ⟨t_962, t_963⟩
theorem gyX7_count : gY yX7_count cX7_count 2 (some .int) 1 := ⟨t_101, t_992, by decide +kernel⟩
theorem gvX7_count : gVv yX7_count := ⟨t_990, t_991⟩
theorem gyX8_init : gY yX8_init cX8_init 1 none 0 := ⟨t_110, t_1074, by decide +kernel⟩
theorem giX8_init : gVi yX8_init := t_1073
theorem gyX8_thrown : gY yX8_thrown cX8_thrown 1 (some .int) 0 := ⟨t_110, t_1202, by decide +kernel⟩
theorem gvX8_thrown : gVv yX8_thrown := ⟨t_1200, t_1201⟩
theorem gyX8_within : gY yX8_within cX8_within 3 (some .boolean) 3 := ⟨t_110, t_1217, by decide +kernel⟩
theorem gyX8_begins : gY yX8_begins cX8_begins 2 none 0 := ⟨t_110, t_1080, by decide +kernel⟩
theorem gvX8_begins : gVv yX8_begins := ⟨t_1079, t_42⟩
theorem gyX8_eight : gY yX8_eight cX8_eight 4 none 1 := ⟨t_110, t_1210, by decide +kernel⟩
theorem gvX8_eight : gVv yX8_eight := ⟨t_1209, t_43⟩
theorem gyX8_feed : gY yX8_feed cX8_feed 5 (some .int) 2 := ⟨t_110, t_1206, by decide +kernel⟩
theorem gvX8_feed : gVv yX8_feed := ⟨t_1204, t_1205⟩
theorem gyX8_end : gY yX8_end cX8_end 2 (some .int) 1 := ⟨t_110, t_1214, by decide +kernel⟩
theorem gvX8_end : gVv yX8_end := ⟨t_1212, t_1213⟩
theorem gyX8_byteNext : gY yX8_byteNext cX8_byteNext 1 (some .int) 0 := ⟨t_110, t_1225, by decide +kernel⟩
theorem gvX8_byteNext : gVv yX8_byteNext := ⟨t_1224, t_44⟩
theorem gyX8_wrong : gY yX8_wrong cX8_wrong 3 none 2 := ⟨t_110, t_1229, by decide +kernel⟩
theorem gvX8_wrong : gVv yX8_wrong := ⟨t_1228, t_45⟩
theorem gyX8_clocks : gY yX8_clocks cX8_clocks 1 (some .int) 1 := ⟨t_110, t_1244, by decide +kernel⟩
theorem gyX8_bits : gY yX8_bits cX8_bits 1 (some .int) 1 := ⟨t_110, t_1247, by decide +kernel⟩
theorem gyX8_factor : gY yX8_factor cX8_factor 2 none 0 := ⟨t_110, t_1241, by decide +kernel⟩
theorem gvX8_factor : gVv yX8_factor := ⟨t_1240, t_48⟩
theorem gyX8_window : gY yX8_window cX8_window 2 none 0 := ⟨t_110, t_1251, by decide +kernel⟩
theorem gvX8_window : gVv yX8_window := ⟨t_1250, t_49⟩
theorem gyX8_groupTold : gY yX8_groupTold cX8_groupTold 4 (some .int) 2 := ⟨t_110, t_1237, by decide +kernel⟩
theorem gvX8_groupTold : gVv yX8_groupTold := ⟨t_1236, t_47⟩
theorem gyX8_groupsTold : gY yX8_groupsTold cX8_groupsTold 6 none 1 := ⟨t_110, t_1233, by decide +kernel⟩
theorem gvX8_groupsTold : gVv yX8_groupsTold := ⟨t_1232, t_46⟩
theorem gyX8_reset : gY yX8_reset cX8_reset 4 (some .int) 0 := ⟨t_110, t_1221, by decide +kernel⟩
theorem gvX8_reset : gVv yX8_reset := ⟨t_1219, t_1220⟩
theorem gyX8_checks : gY yX8_checks cX8_checks 3 none 0 := ⟨t_110, t_1255, by decide +kernel⟩
theorem gvX8_checks : gVv yX8_checks := ⟨t_1254, t_50⟩
theorem gyX8_answer : gY yX8_answer cX8_answer 2 (some .int) 1 := ⟨t_110, t_1259, by decide +kernel⟩
theorem gvX8_answer : gVv yX8_answer := ⟨t_1257, t_1258⟩
theorem gyX8_historical : gY yX8_historical cX8_historical 2 (some .int) 1 := ⟨t_110, t_1263, by decide +kernel⟩
theorem gvX8_historical : gVv yX8_historical := ⟨t_1261, t_1262⟩
theorem gyX8_canBegin : gY yX8_canBegin cX8_canBegin 1 (some .boolean) 0 := ⟨t_110, t_1271, by decide +kernel⟩
theorem gvX8_canBegin : gVv yX8_canBegin := ⟨t_1270, t_51⟩
theorem gyX8_starts : gY yX8_starts cX8_starts 2 none 1 := ⟨t_110, t_1275, by decide +kernel⟩
theorem gvX8_starts : gVv yX8_starts := ⟨t_1274, t_52⟩
theorem gyX8_message : gY yX8_message cX8_message 3 (some .int) 0 := ⟨t_110, t_1267, by decide +kernel⟩
theorem gvX8_message : gVv yX8_message := ⟨t_1265, t_1266⟩
theorem gyX8_room : gY yX8_room cX8_room 2 (some .int) 1 := ⟨t_110, t_1279, by decide +kernel⟩
theorem gvX8_room : gVv yX8_room := ⟨t_1277, t_1278⟩
theorem gyX8_faultAt : gY yX8_faultAt cX8_faultAt 3 (some .int) 1 := ⟨t_110, t_1291, by decide +kernel⟩
theorem gvX8_faultAt : gVv yX8_faultAt := ⟨t_1290, t_54⟩
theorem gyX8_passes : gY yX8_passes cX8_passes 4 none 0 := ⟨t_110, t_1287, by decide +kernel⟩
theorem gvX8_passes : gVv yX8_passes := ⟨t_1286, t_53⟩
theorem gyX8_putsFault : gY yX8_putsFault cX8_putsFault 5 none 3 := ⟨t_110, t_1295, by decide +kernel⟩
theorem gvX8_putsFault : gVv yX8_putsFault := ⟨t_1294, t_55⟩
theorem gyX8_fault : gY yX8_fault cX8_fault 4 (some .int) 3 := ⟨t_110, t_1283, by decide +kernel⟩
theorem gvX8_fault : gVv yX8_fault := ⟨t_1281, t_1282⟩
theorem gyX8_repeats : gY yX8_repeats cX8_repeats 3 (some .int) 1 := ⟨t_110, t_1299, by decide +kernel⟩
theorem gvX8_repeats : gVv yX8_repeats := ⟨t_1297, t_1298⟩
theorem gyX8_carries : gY yX8_carries cX8_carries 6 none 1 := ⟨t_110, t_1323, by decide +kernel⟩
theorem gvX8_carries : gVv yX8_carries := ⟨t_1322, t_60⟩
theorem gyX8_isShaped : gY yX8_isShaped cX8_isShaped 5 (some .boolean) 1 := ⟨t_110, t_1331, by decide +kernel⟩
theorem gvX8_isShaped : gVv yX8_isShaped := ⟨t_1330, t_62⟩
theorem gyX8_howCame : gY yX8_howCame cX8_howCame 4 (some .int) 1 := ⟨t_110, t_1327, by decide +kernel⟩
theorem gvX8_howCame : gVv yX8_howCame := ⟨t_1326, t_61⟩
theorem gyX8_sends : gY yX8_sends cX8_sends 7 none 3 := ⟨t_110, t_1319, by decide +kernel⟩
theorem gvX8_sends : gVv yX8_sends := ⟨t_1318, t_59⟩
theorem gyX8_isAlike : gY yX8_isAlike cX8_isAlike 4 (some .boolean) 2 := ⟨t_110, t_1343, by decide +kernel⟩
theorem gvX8_isAlike : gVv yX8_isAlike := ⟨t_1342, t_65⟩
theorem gyX8_unlikeOf : gY yX8_unlikeOf cX8_unlikeOf 3 (some .int) 1 := ⟨t_110, t_1339, by decide +kernel⟩
theorem gvX8_unlikeOf : gVv yX8_unlikeOf := ⟨t_1338, t_64⟩
theorem gyX8_logs : gY yX8_logs cX8_logs 5 none 2 := ⟨t_110, t_1335, by decide +kernel⟩
theorem gvX8_logs : gVv yX8_logs := ⟨t_1334, t_63⟩
theorem gyX8_sendsR : gY yX8_sendsR cX8_sendsR 3 none 2 := ⟨t_110, t_1399, by decide +kernel⟩
theorem gvX8_sendsR : gVv yX8_sendsR := ⟨t_1398, t_79⟩
theorem gyX8_sendsAsked : gY yX8_sendsAsked cX8_sendsAsked 3 none 1 := ⟨t_110, t_1351, by decide +kernel⟩
theorem gvX8_sendsAsked : gVv yX8_sendsAsked := ⟨t_1350, t_67⟩
theorem gyX8_asks : gY yX8_asks cX8_asks 4 none 3 := ⟨t_110, t_1347, by decide +kernel⟩
theorem gvX8_asks : gVv yX8_asks := ⟨t_1346, t_66⟩
theorem gyX8_sendsPending : gY yX8_sendsPending cX8_sendsPending 5 none 1 := ⟨t_110, t_1315, by decide +kernel⟩
theorem gvX8_sendsPending : gVv yX8_sendsPending := ⟨t_1314, t_58⟩
theorem gyX8_sendsOut : gY yX8_sendsOut cX8_sendsOut 5 none 1 := ⟨t_110, t_1311, by decide +kernel⟩
theorem gvX8_sendsOut : gVv yX8_sendsOut := ⟨t_1310, t_57⟩
theorem gyX8_isThrough : gY yX8_isThrough cX8_isThrough 3 none 1 := ⟨t_110, t_1391, by decide +kernel⟩
theorem gvX8_isThrough : gVv yX8_isThrough := ⟨t_1390, t_77⟩
theorem gyX8_empties : gY yX8_empties cX8_empties 3 none 1 := ⟨t_110, t_1383, by decide +kernel⟩
theorem gvX8_empties : gVv yX8_empties := ⟨t_1382, t_75⟩
theorem gyX8_resynchs : gY yX8_resynchs cX8_resynchs 2 none 1 := ⟨t_110, t_1379, by decide +kernel⟩
theorem gvX8_resynchs : gVv yX8_resynchs := ⟨t_1378, t_74⟩
theorem gyX8_isResponse : gY yX8_isResponse cX8_isResponse 3 (some .boolean) 1 := ⟨t_110, t_1367, by decide +kernel⟩
theorem gvX8_isResponse : gVv yX8_isResponse := ⟨t_1366, t_71⟩
theorem gyX8_takes : gY yX8_takes cX8_takes 4 (some .boolean) 1 := ⟨t_110, t_1387, by decide +kernel⟩
theorem gvX8_takes : gVv yX8_takes := ⟨t_1386, t_76⟩
theorem gyX8_hasMoreCome : gY yX8_hasMoreCome cX8_hasMoreCome 1 (some .boolean) 0 := ⟨t_110, t_1395, by decide +kernel⟩
theorem gvX8_hasMoreCome : gVv yX8_hasMoreCome := ⟨t_1394, t_78⟩
theorem gyX8_messageCame : gY yX8_messageCame cX8_messageCame 4 none 1 := ⟨t_110, t_1403, by decide +kernel⟩
theorem gvX8_messageCame : gVv yX8_messageCame := ⟨t_1402, t_80⟩
theorem gyX8_wantsAgain : gY yX8_wantsAgain cX8_wantsAgain 2 (some .boolean) 1 := ⟨t_110, t_1411, by decide +kernel⟩
theorem gvX8_wantsAgain : gVv yX8_wantsAgain := ⟨t_1410, t_82⟩
theorem gyX8_goesOn : gY yX8_goesOn cX8_goesOn 3 none 1 := ⟨t_110, t_1415, by decide +kernel⟩
theorem gvX8_goesOn : gVv yX8_goesOn := ⟨t_1414, t_83⟩
theorem gyX8_done : gY yX8_done cX8_done 1 none 0 := ⟨t_110, t_1375, by decide +kernel⟩
theorem gvX8_done : gVv yX8_done := ⟨t_1374, t_73⟩
theorem gyX8_tries : gY yX8_tries cX8_tries 3 none 2 := ⟨t_110, t_1363, by decide +kernel⟩
theorem gvX8_tries : gVv yX8_tries := ⟨t_1362, t_70⟩
theorem gyX8_readerGets : gY yX8_readerGets cX8_readerGets 2 none 0 := ⟨t_110, t_1359, by decide +kernel⟩
theorem gvX8_readerGets : gVv yX8_readerGets := ⟨t_1358, t_69⟩
theorem gyX8_readerAnswered : gY yX8_readerAnswered cX8_readerAnswered 2 none 0 := ⟨t_110, t_1371, by decide +kernel⟩
theorem gvX8_readerAnswered : gVv yX8_readerAnswered := ⟨t_1370, t_72⟩
theorem gyX8_readerTold : gY yX8_readerTold cX8_readerTold 1 none 0 := ⟨t_110, t_1407, by decide +kernel⟩
theorem gvX8_readerTold : gVv yX8_readerTold := ⟨t_1406, t_81⟩
theorem gyX8_responds : gY yX8_responds cX8_responds 2 none 1 := ⟨t_110, t_1423, by decide +kernel⟩
theorem gvX8_responds : gVv yX8_responds := ⟨t_1422, t_85⟩
theorem gyX8_readerAsked : gY yX8_readerAsked cX8_readerAsked 2 none 0 := ⟨t_110, t_1419, by decide +kernel⟩
theorem gvX8_readerAsked : gVv yX8_readerAsked := ⟨t_1418, t_84⟩
theorem gyX8_triesOn : gY yX8_triesOn cX8_triesOn 1 none 0 := ⟨t_110, t_1427, by decide +kernel⟩
theorem gvX8_triesOn : gVv yX8_triesOn := ⟨t_1426, t_86⟩
theorem gyX8_cardOut : gY yX8_cardOut cX8_cardOut 5 none 2 := ⟨t_110, t_1439, by decide +kernel⟩
theorem gvX8_cardOut : gVv yX8_cardOut := ⟨t_1438, t_89⟩
theorem gyX8_cardSends : gY yX8_cardSends cX8_cardSends 3 none 2 := ⟨t_110, t_1435, by decide +kernel⟩
theorem gvX8_cardSends : gVv yX8_cardSends := ⟨t_1434, t_88⟩
theorem gyX8_gotByte : gY yX8_gotByte cX8_gotByte 3 (some .int) 2 := ⟨t_110, t_1455, by decide +kernel⟩
theorem gvX8_gotByte : gVv yX8_gotByte := ⟨t_1454, t_93⟩
theorem gyX8_cardDoes : gY yX8_cardDoes cX8_cardDoes 4 none 0 := ⟨t_110, t_1451, by decide +kernel⟩
theorem gvX8_cardDoes : gVv yX8_cardDoes := ⟨t_1450, t_92⟩
theorem gyX8_cardWaits : gY yX8_cardWaits cX8_cardWaits 2 none 0 := ⟨t_110, t_1447, by decide +kernel⟩
theorem gvX8_cardWaits : gVv yX8_cardWaits := ⟨t_1446, t_91⟩
theorem gyX8_cardAnswered : gY yX8_cardAnswered cX8_cardAnswered 2 none 0 := ⟨t_110, t_1443, by decide +kernel⟩
theorem gvX8_cardAnswered : gVv yX8_cardAnswered := ⟨t_1442, t_90⟩
theorem gyX8_cardGets : gY yX8_cardGets cX8_cardGets 2 none 0 := ⟨t_110, t_1431, by decide +kernel⟩
theorem gvX8_cardGets : gVv yX8_cardGets := ⟨t_1430, t_87⟩
theorem gyX8_bringsCame : gY yX8_bringsCame cX8_bringsCame 2 none 0 := ⟨t_110, t_1355, by decide +kernel⟩
theorem gvX8_bringsCame : gVv yX8_bringsCame := ⟨t_1354, t_68⟩
theorem gyX8_turns : gY yX8_turns cX8_turns 4 (some .int) 0 := ⟨t_110, t_1307, by decide +kernel⟩
theorem gvX8_turns : gVv yX8_turns := ⟨t_1306, t_56⟩
theorem gyX8_step : gY yX8_step cX8_step 4 (some .int) 1 := ⟨t_110, t_1303, by decide +kernel⟩
theorem gvX8_step : gVv yX8_step := ⟨t_1301, t_1302⟩
theorem gyX8_state : gY yX8_state cX8_state 1 (some .int) 0 := ⟨t_110, t_1459, by decide +kernel⟩
theorem gvX8_state : gVv yX8_state := ⟨t_1457, t_1458⟩
theorem gyX8_side : gY yX8_side cX8_side 3 (some .int) 2 := ⟨t_110, t_1463, by decide +kernel⟩
theorem gvX8_side : gVv yX8_side := ⟨t_1461, t_1462⟩
theorem gyX8_got : gY yX8_got cX8_got 3 (some .int) 2 := ⟨t_110, t_1469, by decide +kernel⟩
theorem gvX8_got : gVv yX8_got := ⟨t_1467, t_1468⟩
theorem gyX8_logPlace : gY yX8_logPlace cX8_logPlace 2 (some .int) 1 := ⟨t_110, t_1477, by decide +kernel⟩
theorem gvX8_logPlace : gVv yX8_logPlace := ⟨t_1476, t_94⟩
theorem gyX8_log : gY yX8_log cX8_log 4 (some .int) 2 := ⟨t_110, t_1473, by decide +kernel⟩
theorem gvX8_log : gVv yX8_log := ⟨t_1471, t_1472⟩
theorem gyX8_byteOf : gY yX8_byteOf cX8_byteOf 3 (some .int) 2 := ⟨t_110, t_1481, by decide +kernel⟩
theorem gvX8_byteOf : gVv yX8_byteOf := ⟨t_1479, t_1480⟩
theorem gyX8_triesOut : gY yX8_triesOut cX8_triesOut 2 none 0 := ⟨t_110, t_1493, by decide +kernel⟩
theorem gvX8_triesOut : gVv yX8_triesOut := ⟨t_1492, t_96⟩
theorem gyX8_keeps : gY yX8_keeps cX8_keeps 2 none 0 := ⟨t_110, t_1489, by decide +kernel⟩
theorem gvX8_keeps : gVv yX8_keeps := ⟨t_1488, t_95⟩
theorem gyX8_comesBack : gY yX8_comesBack cX8_comesBack 2 none 0 := ⟨t_110, t_1497, by decide +kernel⟩
theorem gvX8_comesBack : gVv yX8_comesBack := ⟨t_1496, t_97⟩
theorem gyX8_would : gY yX8_would cX8_would 3 (some .int) 1 := ⟨t_110, t_1485, by decide +kernel⟩
theorem gvX8_would : gVv yX8_would := ⟨t_1483, t_1484⟩
theorem gyX8_isSame : gY yX8_isSame cX8_isSame 2 (some .boolean) 0 := ⟨t_110, t_1505, by decide +kernel⟩
theorem gvX8_isSame : gVv yX8_isSame := ⟨t_1504, t_98⟩
theorem gyX8_harm : gY yX8_harm cX8_harm 9 (some .int) 2 := ⟨t_110, t_1501, by decide +kernel⟩
theorem gvX8_harm : gVv yX8_harm := ⟨t_1499, t_1500⟩
theorem gyX8_faultsToCome : gY yX8_faultsToCome cX8_faultsToCome 3 (some .int) 0 := ⟨t_110, t_1513, by decide +kernel⟩
theorem gvX8_faultsToCome : gVv yX8_faultsToCome := ⟨t_1512, t_99⟩
theorem gyX8_count : gY yX8_count cX8_count 2 (some .int) 1 := ⟨t_110, t_1509, by decide +kernel⟩
theorem gvX8_count : gVv yX8_count := ⟨t_1507, t_1508⟩
theorem gyJ9_max_7cf53 : gY yJ9_max_7cf53 cJ9_max_7cf53 2 (some .int) 2 := ⟨t_103, t_133, by decide +kernel⟩
theorem gyJ9_min_7cf53 : gY yJ9_min_7cf53 cJ9_min_7cf53 2 (some .int) 2 := ⟨t_103, t_477, by decide +kernel⟩
theorem gyJ7_fill_53178 : gY yJ7_fill_53178 cJ7_fill_53178 4 none 2 := ⟨t_111, t_593, by decide +kernel⟩
theorem gyJ7_copyOf_59c91 : gY yJ7_copyOf_59c91 cJ7_copyOf_59c91 3 (some (.array .int)) 2 := ⟨t_111, t_480, by decide +kernel⟩
end
section
/-! lists of cells; calls by the kind of what they answer -/
theorem gset_self {hp : List gA} {k : Nat} {e e0 : gA} (h : hp[k]? = some e0) : (hp.set k e)[k]? = some e := List.getElem?_set_self (List.getElem?_eq_some_iff.mp h).1
theorem gset_other {hp : List gA} {k j : Nat} {e : gA} {x : Option gA} (h : hp[j]? = x) (hne : k ≠ j) : (hp.set k e)[j]? = x := by rw [List.getElem?_set_ne hne]; exact h
theorem gapp_old {hp l : List gA} {k : Nat} {x : gA} (h : hp[k]? = some x) : (hp ++ l)[k]? = some x := by rw [List.getElem?_append_left (List.getElem?_eq_some_iff.mp h).1]; exact h
theorem gapp_new {hp l : List gA} {n j : Nat} {x : gA} (hn : hp.length = n) (h : l[j]? = some x) : (hp ++ l)[n + j]? = some x := by subst hn; rw [List.getElem?_append_right (by omega), Nat.add_sub_cancel_left]; exact h
theorem gapp_set {hp l : List gA} {n j : Nat} {x : gA} (hn : hp.length = n) : (hp ++ l).set (n + j) x = hp ++ l.set j x := by subst hn; rw [List.set_append_right _ _ (by omega), Nat.add_sub_cancel_left]
theorem gne {hp : List gA} {k j : Nat} {e1 e2 : gA} (h1 : hp[k]? = some e1) (h2 : hp[j]? = some e2) (hd : e1 ≠ e2) : k ≠ j := by intro h; subst h; rw [h1] at h2; exact hd (Option.some.inj h2)
theorem vp_in0 {i : Int32} {n : Nat} (h1 : 0 ≤ i.toInt) (h2 : i.toInt < n) : vp_in i n := vp_in_iff.mpr ⟨h1, h2⟩
section GU
variable {X : gX} {own nm : String} {cc : ByteArray} {nL : Nat} {rm : Room} {pc q : Nat} {ls : List (Option Value)} {st stk : List Value} {hp : List gA} {cl sl : Nat}
theorem g_getfieldW (C : gC X own nm cc nL rm) {ix ci j k : Nat} {fs : List Value} {v : Value} (F : ∃ (RC : String) (T : u_T) (N : Nat) (tf : Nat → FieldType), gK ci RC T N tf ∧ j < N ∧ Cond.fieldLink own ix (T j).1 (T j).2.1 (T j).2.2.1 ∈ gW) (hd : decode cc pc = .ok (.getfield ix, 3)) (hq : pc + 3 = q) (ho : hp[k]? = some (.inr (.inr (ci, fs)))) (hv : fs[j]? = some v) (kk : gG X q ls (v :: st) hp cl sl) : gG X pc ls (.ref k :: st) hp cl sl := by
  subst hq
  obtain ⟨RC, T, N, tf, K, hj, hlink⟩ := F
  intro arr H locs hl hh hS
  exact va_get C.1 C.2.1 (fun w hw => gC_hts C hw) K.2.1 C.2.2.2.1 (gC_K C) (gP1 (hh.2 k _ ho)) 0 rfl K.1 j hj (gC_hts C hlink) (fun _ h9 => h9) (gv_V _ _ hv) hd (kk arr H locs hl hh hS)
/-- a put into a world whose last part is told -/
theorem g_putE (C : gC X own nm cc nL rm) {ix ci j k : Nat} {ty : FieldType} {fin : Bool} {fs fs' : List Value} {v : Value} {hp' : List gA} (F : gF own ix ci j ty fin) (hd : decode cc pc = .ok (.putfield ix, 3)) (hq : pc + 3 = q) (ho : hp[k]? = some (.inr (.inr (ci, fs)))) (hj2 : j < fs.length) (hfin : fin = false ∨ nm = "<init>") (h1 : narrow ty v = v) (h2 : fits ty v = true) (h3 : ∀ z, v ≠ .float z) (hf : fs.set j v = fs') (he : hp.set k (.inr (.inr (ci, fs'))) = hp') (kk : gG X q ls st hp' cl sl) : gG X pc ls (v :: .ref k :: st) hp cl sl := by
  subst hf; subst he; exact g_putfield C F hd hq ho hj2 hfin h1 h2 h3 kk
variable {y : MethodName} {bytes : ByteArray} {maxL n ix b fr lo mc ms : Nat} {ret : Option FieldType} {As : List Value}

theorem g_callVv {hp2 : List gA} (C : gC X own nm cc nL rm) (Y : gY y bytes maxL ret n) (V : gVv y) (hl0 : Cond.methodLink own ix y ∈ gW) (hM : gM y bytes maxL ret fr lo (.ref b :: As) hp mc ms (fun v h => v = none ∧ h = hp2)) (hd : decode cc pc = .ok (.invokevirtual ix, 3)) (hq : pc + 3 = q) {ci N : Nat} {T : u_T} {fs : List Value} (ho : hp[b]? = some (.inr (.inr (ci, fs)))) (hci : vwCl[ci]? = some (y.cls, T, N)) (hn : As.length = n) (hls : ls.length = nL) (hfr : fr + 1 ≤ rm.frames) (hlo : 8 + (maxL + 11) + lo ≤ rm.locals) (hw : (st.map fun v => v.category).sum ≤ 8) (hc : cl + mc ≤ rm.cells) (hs2 : sl + ms ≤ rm.slots) (hst : stk = As.reverse ++ .ref b :: st) (kk : gG X q ls st hp2 (cl + mc) (sl + ms)) : gG X pc ls stk hp cl sl :=
  g_callV C Y V hl0 hM hd hq ho hci hn hls hfr hlo hw hc hs2 hst fun v h z => by obtain ⟨rfl, rfl⟩ := z; exact kk
theorem g_callVvp {P : List gA → Prop} (C : gC X own nm cc nL rm) (Y : gY y bytes maxL ret n) (V : gVv y) (hl0 : Cond.methodLink own ix y ∈ gW) (hM : gM y bytes maxL ret fr lo (.ref b :: As) hp mc ms (fun v h => v = none ∧ P h)) (hd : decode cc pc = .ok (.invokevirtual ix, 3)) (hq : pc + 3 = q) {ci N : Nat} {T : u_T} {fs : List Value} (ho : hp[b]? = some (.inr (.inr (ci, fs)))) (hci : vwCl[ci]? = some (y.cls, T, N)) (hn : As.length = n) (hls : ls.length = nL) (hfr : fr + 1 ≤ rm.frames) (hlo : 8 + (maxL + 11) + lo ≤ rm.locals) (hw : (st.map fun v => v.category).sum ≤ 8) (hc : cl + mc ≤ rm.cells) (hs2 : sl + ms ≤ rm.slots) (hst : stk = As.reverse ++ .ref b :: st) (kk : ∀ hp2 : List gA, P hp2 → gG X q ls st hp2 (cl + mc) (sl + ms)) : gG X pc ls stk hp cl sl :=
  g_callV C Y V hl0 hM hd hq ho hci hn hls hfr hlo hw hc hs2 hst fun v h z => by obtain ⟨rfl, z⟩ := z; exact kk h z
theorem g_callVi {x : Int32} {hp2 : List gA} (C : gC X own nm cc nL rm) (Y : gY y bytes maxL ret n) (V : gVv y) (hl0 : Cond.methodLink own ix y ∈ gW) (hM : gM y bytes maxL ret fr lo (.ref b :: As) hp mc ms (fun v h => v = some (.int x) ∧ h = hp2)) (hd : decode cc pc = .ok (.invokevirtual ix, 3)) (hq : pc + 3 = q) {ci N : Nat} {T : u_T} {fs : List Value} (ho : hp[b]? = some (.inr (.inr (ci, fs)))) (hci : vwCl[ci]? = some (y.cls, T, N)) (hn : As.length = n) (hls : ls.length = nL) (hfr : fr + 1 ≤ rm.frames) (hlo : 8 + (maxL + 11) + lo ≤ rm.locals) (hw : (st.map fun v => v.category).sum ≤ 8) (hc : cl + mc ≤ rm.cells) (hs2 : sl + ms ≤ rm.slots) (hst : stk = As.reverse ++ .ref b :: st) (kk : gG X q ls (.int x :: st) hp2 (cl + mc) (sl + ms)) : gG X pc ls stk hp cl sl :=
  g_callV C Y V hl0 hM hd hq ho hci hn hls hfr hlo hw hc hs2 hst fun v h z => by obtain ⟨rfl, rfl⟩ := z; exact kk
theorem g_callVip {P : Int32 → List gA → Prop} (C : gC X own nm cc nL rm) (Y : gY y bytes maxL ret n) (V : gVv y) (hl0 : Cond.methodLink own ix y ∈ gW) (hM : gM y bytes maxL ret fr lo (.ref b :: As) hp mc ms (fun v h => ∃ x, v = some (.int x) ∧ P x h)) (hd : decode cc pc = .ok (.invokevirtual ix, 3)) (hq : pc + 3 = q) {ci N : Nat} {T : u_T} {fs : List Value} (ho : hp[b]? = some (.inr (.inr (ci, fs)))) (hci : vwCl[ci]? = some (y.cls, T, N)) (hn : As.length = n) (hls : ls.length = nL) (hfr : fr + 1 ≤ rm.frames) (hlo : 8 + (maxL + 11) + lo ≤ rm.locals) (hw : (st.map fun v => v.category).sum ≤ 8) (hc : cl + mc ≤ rm.cells) (hs2 : sl + ms ≤ rm.slots) (hst : stk = As.reverse ++ .ref b :: st) (kk : ∀ (x : Int32) (hp2 : List gA), P x hp2 → gG X q ls (.int x :: st) hp2 (cl + mc) (sl + ms)) : gG X pc ls stk hp cl sl :=
  g_callV C Y V hl0 hM hd hq ho hci hn hls hfr hlo hw hc hs2 hst fun v h z => by obtain ⟨x, rfl, z⟩ := z; exact kk x h z
theorem g_callVr {x : Nat} {hp2 : List gA} (C : gC X own nm cc nL rm) (Y : gY y bytes maxL ret n) (V : gVv y) (hl0 : Cond.methodLink own ix y ∈ gW) (hM : gM y bytes maxL ret fr lo (.ref b :: As) hp mc ms (fun v h => v = some (.ref x) ∧ h = hp2)) (hd : decode cc pc = .ok (.invokevirtual ix, 3)) (hq : pc + 3 = q) {ci N : Nat} {T : u_T} {fs : List Value} (ho : hp[b]? = some (.inr (.inr (ci, fs)))) (hci : vwCl[ci]? = some (y.cls, T, N)) (hn : As.length = n) (hls : ls.length = nL) (hfr : fr + 1 ≤ rm.frames) (hlo : 8 + (maxL + 11) + lo ≤ rm.locals) (hw : (st.map fun v => v.category).sum ≤ 8) (hc : cl + mc ≤ rm.cells) (hs2 : sl + ms ≤ rm.slots) (hst : stk = As.reverse ++ .ref b :: st) (kk : gG X q ls (.ref x :: st) hp2 (cl + mc) (sl + ms)) : gG X pc ls stk hp cl sl :=
  g_callV C Y V hl0 hM hd hq ho hci hn hls hfr hlo hw hc hs2 hst fun v h z => by obtain ⟨rfl, rfl⟩ := z; exact kk
theorem g_callSv {hp2 : List gA} (C : gC X own nm cc nL rm) (Y : gY y bytes maxL ret n) (V : Cond.static y ∈ gW) (hl0 : Cond.methodLink own ix y ∈ gW) (hM : gM y bytes maxL ret fr lo (As) hp mc ms (fun v h => v = none ∧ h = hp2)) (hd : decode cc pc = .ok (.invokestatic ix, 3)) (hq : pc + 3 = q) (hn : As.length = n) (hls : ls.length = nL) (hfr : fr + 1 ≤ rm.frames) (hlo : 8 + (maxL + 11) + lo ≤ rm.locals) (hw : (st.map fun v => v.category).sum ≤ 8) (hc : cl + mc ≤ rm.cells) (hs2 : sl + ms ≤ rm.slots) (hst : stk = As.reverse ++ st) (kk : gG X q ls st hp2 (cl + mc) (sl + ms)) : gG X pc ls stk hp cl sl :=
  g_callS C Y V hl0 hM hd hq hn hls hfr hlo hw hc hs2 hst fun v h z => by obtain ⟨rfl, rfl⟩ := z; exact kk
theorem g_callSvp {P : List gA → Prop} (C : gC X own nm cc nL rm) (Y : gY y bytes maxL ret n) (V : Cond.static y ∈ gW) (hl0 : Cond.methodLink own ix y ∈ gW) (hM : gM y bytes maxL ret fr lo (As) hp mc ms (fun v h => v = none ∧ P h)) (hd : decode cc pc = .ok (.invokestatic ix, 3)) (hq : pc + 3 = q) (hn : As.length = n) (hls : ls.length = nL) (hfr : fr + 1 ≤ rm.frames) (hlo : 8 + (maxL + 11) + lo ≤ rm.locals) (hw : (st.map fun v => v.category).sum ≤ 8) (hc : cl + mc ≤ rm.cells) (hs2 : sl + ms ≤ rm.slots) (hst : stk = As.reverse ++ st) (kk : ∀ hp2 : List gA, P hp2 → gG X q ls st hp2 (cl + mc) (sl + ms)) : gG X pc ls stk hp cl sl :=
  g_callS C Y V hl0 hM hd hq hn hls hfr hlo hw hc hs2 hst fun v h z => by obtain ⟨rfl, z⟩ := z; exact kk h z
theorem g_callSi {x : Int32} {hp2 : List gA} (C : gC X own nm cc nL rm) (Y : gY y bytes maxL ret n) (V : Cond.static y ∈ gW) (hl0 : Cond.methodLink own ix y ∈ gW) (hM : gM y bytes maxL ret fr lo (As) hp mc ms (fun v h => v = some (.int x) ∧ h = hp2)) (hd : decode cc pc = .ok (.invokestatic ix, 3)) (hq : pc + 3 = q) (hn : As.length = n) (hls : ls.length = nL) (hfr : fr + 1 ≤ rm.frames) (hlo : 8 + (maxL + 11) + lo ≤ rm.locals) (hw : (st.map fun v => v.category).sum ≤ 8) (hc : cl + mc ≤ rm.cells) (hs2 : sl + ms ≤ rm.slots) (hst : stk = As.reverse ++ st) (kk : gG X q ls (.int x :: st) hp2 (cl + mc) (sl + ms)) : gG X pc ls stk hp cl sl :=
  g_callS C Y V hl0 hM hd hq hn hls hfr hlo hw hc hs2 hst fun v h z => by obtain ⟨rfl, rfl⟩ := z; exact kk
theorem g_callSip {P : Int32 → List gA → Prop} (C : gC X own nm cc nL rm) (Y : gY y bytes maxL ret n) (V : Cond.static y ∈ gW) (hl0 : Cond.methodLink own ix y ∈ gW) (hM : gM y bytes maxL ret fr lo (As) hp mc ms (fun v h => ∃ x, v = some (.int x) ∧ P x h)) (hd : decode cc pc = .ok (.invokestatic ix, 3)) (hq : pc + 3 = q) (hn : As.length = n) (hls : ls.length = nL) (hfr : fr + 1 ≤ rm.frames) (hlo : 8 + (maxL + 11) + lo ≤ rm.locals) (hw : (st.map fun v => v.category).sum ≤ 8) (hc : cl + mc ≤ rm.cells) (hs2 : sl + ms ≤ rm.slots) (hst : stk = As.reverse ++ st) (kk : ∀ (x : Int32) (hp2 : List gA), P x hp2 → gG X q ls (.int x :: st) hp2 (cl + mc) (sl + ms)) : gG X pc ls stk hp cl sl :=
  g_callS C Y V hl0 hM hd hq hn hls hfr hlo hw hc hs2 hst fun v h z => by obtain ⟨x, rfl, z⟩ := z; exact kk x h z
theorem g_callSr {x : Nat} {hp2 : List gA} (C : gC X own nm cc nL rm) (Y : gY y bytes maxL ret n) (V : Cond.static y ∈ gW) (hl0 : Cond.methodLink own ix y ∈ gW) (hM : gM y bytes maxL ret fr lo (As) hp mc ms (fun v h => v = some (.ref x) ∧ h = hp2)) (hd : decode cc pc = .ok (.invokestatic ix, 3)) (hq : pc + 3 = q) (hn : As.length = n) (hls : ls.length = nL) (hfr : fr + 1 ≤ rm.frames) (hlo : 8 + (maxL + 11) + lo ≤ rm.locals) (hw : (st.map fun v => v.category).sum ≤ 8) (hc : cl + mc ≤ rm.cells) (hs2 : sl + ms ≤ rm.slots) (hst : stk = As.reverse ++ st) (kk : gG X q ls (.ref x :: st) hp2 (cl + mc) (sl + ms)) : gG X pc ls stk hp cl sl :=
  g_callS C Y V hl0 hM hd hq hn hls hfr hlo hw hc hs2 hst fun v h z => by obtain ⟨rfl, rfl⟩ := z; exact kk
theorem g_callIv {hp2 : List gA} (C : gC X own nm cc nL rm) (Y : gY y bytes maxL none n) (V : gVi y) (hyi : y.name = "<init>") (hl0 : Cond.methodLink own ix y ∈ gW) (hM : gM y bytes maxL none fr lo (.ref b :: As) hp mc ms (fun v h => v = none ∧ h = hp2)) (hd : decode cc pc = .ok (.invokespecial ix, 3)) (hq : pc + 3 = q) (hn : As.length = n) (hls : ls.length = nL) (hfr : fr + 1 ≤ rm.frames) (hlo : 8 + (maxL + 11) + lo ≤ rm.locals) (hw : (st.map fun v => v.category).sum ≤ 8) (hc : cl + mc ≤ rm.cells) (hs2 : sl + ms ≤ rm.slots) (hst : stk = As.reverse ++ .ref b :: st) (kk : gG X q ls st hp2 (cl + mc) (sl + ms)) : gG X pc ls stk hp cl sl :=
  g_callI C Y V hyi hl0 hM hd hq hn hls hfr hlo hw hc hs2 hst fun v h z => by obtain ⟨rfl, rfl⟩ := z; exact kk
theorem g_callIvp {P : List gA → Prop} (C : gC X own nm cc nL rm) (Y : gY y bytes maxL none n) (V : gVi y) (hyi : y.name = "<init>") (hl0 : Cond.methodLink own ix y ∈ gW) (hM : gM y bytes maxL none fr lo (.ref b :: As) hp mc ms (fun v h => v = none ∧ P h)) (hd : decode cc pc = .ok (.invokespecial ix, 3)) (hq : pc + 3 = q) (hn : As.length = n) (hls : ls.length = nL) (hfr : fr + 1 ≤ rm.frames) (hlo : 8 + (maxL + 11) + lo ≤ rm.locals) (hw : (st.map fun v => v.category).sum ≤ 8) (hc : cl + mc ≤ rm.cells) (hs2 : sl + ms ≤ rm.slots) (hst : stk = As.reverse ++ .ref b :: st) (kk : ∀ hp2 : List gA, P hp2 → gG X q ls st hp2 (cl + mc) (sl + ms)) : gG X pc ls stk hp cl sl :=
  g_callI C Y V hyi hl0 hM hd hq hn hls hfr hlo hw hc hs2 hst fun v h z => by obtain ⟨rfl, z⟩ := z; exact kk h z
theorem g_callINv {hp2 : List gA} (C : gC X own nm cc nL rm) (Y : gY y bytes maxL none n) (V : gVi y) (hyi : y.name = "<init>") {host : String} (hl0 : (own, ix, y, host) ∈ gNest) (hM : gM y bytes maxL none fr lo (.ref b :: As) hp mc ms (fun v h => v = none ∧ h = hp2)) (hd : decode cc pc = .ok (.invokespecial ix, 3)) (hq : pc + 3 = q) (hn : As.length = n) (hls : ls.length = nL) (hfr : fr + 1 ≤ rm.frames) (hlo : 8 + (maxL + 11) + lo ≤ rm.locals) (hw : (st.map fun v => v.category).sum ≤ 8) (hc : cl + mc ≤ rm.cells) (hs2 : sl + ms ≤ rm.slots) (hst : stk = As.reverse ++ .ref b :: st) (kk : gG X q ls st hp2 (cl + mc) (sl + ms)) : gG X pc ls stk hp cl sl :=
  g_callIN C Y V hyi hl0 hM hd hq hn hls hfr hlo hw hc hs2 hst fun v h z => by obtain ⟨rfl, rfl⟩ := z; exact kk
theorem g_callINvp {P : List gA → Prop} (C : gC X own nm cc nL rm) (Y : gY y bytes maxL none n) (V : gVi y) (hyi : y.name = "<init>") {host : String} (hl0 : (own, ix, y, host) ∈ gNest) (hM : gM y bytes maxL none fr lo (.ref b :: As) hp mc ms (fun v h => v = none ∧ P h)) (hd : decode cc pc = .ok (.invokespecial ix, 3)) (hq : pc + 3 = q) (hn : As.length = n) (hls : ls.length = nL) (hfr : fr + 1 ≤ rm.frames) (hlo : 8 + (maxL + 11) + lo ≤ rm.locals) (hw : (st.map fun v => v.category).sum ≤ 8) (hc : cl + mc ≤ rm.cells) (hs2 : sl + ms ≤ rm.slots) (hst : stk = As.reverse ++ .ref b :: st) (kk : ∀ hp2 : List gA, P hp2 → gG X q ls st hp2 (cl + mc) (sl + ms)) : gG X pc ls stk hp cl sl :=
  g_callIN C Y V hyi hl0 hM hd hq hn hls hfr hlo hw hc hs2 hst fun v h z => by obtain ⟨rfl, z⟩ := z; exact kk h z
theorem g_ialoadN (C : gC X own nm cc nL rm) {k n j : Nat} {f : Nat → Int32} {i x : Int32} (hd : decode cc pc = .ok (.iaload, 1)) (hq : pc + 1 = q) (ho : hp[k]? = some (.inl (n, f))) (hi : vp_in i n) (hj : i.toNatClampNeg = j) (hx : f j = x) (kk : gG X q ls (.int x :: st) hp cl sl) : gG X pc ls (.int i :: .ref k :: st) hp cl sl := by
  subst hj; subst hx; exact g_iaload C hd hq ho hi kk
theorem g_iastoreN (C : gC X own nm cc nL rm) {k n j : Nat} {f : Nat → Int32} {i x : Int32} (hd : decode cc pc = .ok (.iastore, 1)) (hq : pc + 1 = q) (ho : hp[k]? = some (.inl (n, f))) (hi : vp_in i n) (hj : i.toNatClampNeg = j) (kk : gG X q ls st (hp.set k (.inl (n, upd f j x))) cl sl) : gG X pc ls (.int x :: .int i :: .ref k :: st) hp cl sl := by
  subst hj; exact g_iastore C hd hq ho hi kk
theorem vp_inN {i : Int32} {n j : Nat} (hj : i.toNatClampNeg = j) (h0 : ¬ i < 0) (h : j < n) : vp_in i n := by subst hj; exact fun z => z.elim h0 (fun z => absurd h (Nat.not_lt.mpr z))
theorem g_heap {hp2 : List gA} (h : hp = hp2) (k : gG X pc ls st hp2 cl sl) : gG X pc ls st hp cl sl := by subst h; exact k
end GU
def gmax (a b : Int32) : Int32 := if a < b then b else a
def gmin (a b : Int32) : Int32 := if b < a then b else a
theorem gmax0 (a : Int32) : ¬ gmax 0 a < 0 := by unfold gmax; split <;> simp_all [Int32.lt_iff_toInt_lt] <;> omega
theorem gOut4 {x : Int32} (c0 : ¬ x = 0) (c1 : ¬ x = 1) (c2 : ¬ x = 2) (c3 : ¬ x = 3) : x.toInt < 0 ∨ 3 < x.toInt := by have d0 : x.toInt ≠ 0 := fun h => c0 (Int32.toInt_inj.mp (h.trans (by decide))); have d1 : x.toInt ≠ 1 := fun h => c1 (Int32.toInt_inj.mp (h.trans (by decide))); have d2 : x.toInt ≠ 2 := fun h => c2 (Int32.toInt_inj.mp (h.trans (by decide))); have d3 : x.toInt ≠ 3 := fun h => c3 (Int32.toInt_inj.mp (h.trans (by decide))); omega
theorem gOut5 {x : Int32} (c0 : ¬ x = 0) (c1 : ¬ x = 1) (c2 : ¬ x = 2) (c3 : ¬ x = 3) (c4 : ¬ x = 4) : x.toInt < 0 ∨ 4 < x.toInt := by have d0 : x.toInt ≠ 0 := fun h => c0 (Int32.toInt_inj.mp (h.trans (by decide))); have d1 : x.toInt ≠ 1 := fun h => c1 (Int32.toInt_inj.mp (h.trans (by decide))); have d2 : x.toInt ≠ 2 := fun h => c2 (Int32.toInt_inj.mp (h.trans (by decide))); have d3 : x.toInt ≠ 3 := fun h => c3 (Int32.toInt_inj.mp (h.trans (by decide))); have d4 : x.toInt ≠ 4 := fun h => c4 (Int32.toInt_inj.mp (h.trans (by decide))); omega
theorem gOut8 {x : Int32} (c0 : ¬ x = 0) (c1 : ¬ x = 1) (c2 : ¬ x = 2) (c3 : ¬ x = 3) (c4 : ¬ x = 4) (c5 : ¬ x = 5) (c6 : ¬ x = 6) (c7 : ¬ x = 7) : x.toInt < 0 ∨ 7 < x.toInt := by have d0 : x.toInt ≠ 0 := fun h => c0 (Int32.toInt_inj.mp (h.trans (by decide))); have d1 : x.toInt ≠ 1 := fun h => c1 (Int32.toInt_inj.mp (h.trans (by decide))); have d2 : x.toInt ≠ 2 := fun h => c2 (Int32.toInt_inj.mp (h.trans (by decide))); have d3 : x.toInt ≠ 3 := fun h => c3 (Int32.toInt_inj.mp (h.trans (by decide))); have d4 : x.toInt ≠ 4 := fun h => c4 (Int32.toInt_inj.mp (h.trans (by decide))); have d5 : x.toInt ≠ 5 := fun h => c5 (Int32.toInt_inj.mp (h.trans (by decide))); have d6 : x.toInt ≠ 6 := fun h => c6 (Int32.toInt_inj.mp (h.trans (by decide))); have d7 : x.toInt ≠ 7 := fun h => c7 (Int32.toInt_inj.mp (h.trans (by decide))); omega
theorem gOut9 {x : Int32} (c0 : ¬ x = 0) (c1 : ¬ x = 1) (c2 : ¬ x = 2) (c3 : ¬ x = 3) (c4 : ¬ x = 4) (c5 : ¬ x = 5) (c6 : ¬ x = 6) (c7 : ¬ x = 7) (c8 : ¬ x = 8) : x.toInt < 0 ∨ 8 < x.toInt := by have d0 : x.toInt ≠ 0 := fun h => c0 (Int32.toInt_inj.mp (h.trans (by decide))); have d1 : x.toInt ≠ 1 := fun h => c1 (Int32.toInt_inj.mp (h.trans (by decide))); have d2 : x.toInt ≠ 2 := fun h => c2 (Int32.toInt_inj.mp (h.trans (by decide))); have d3 : x.toInt ≠ 3 := fun h => c3 (Int32.toInt_inj.mp (h.trans (by decide))); have d4 : x.toInt ≠ 4 := fun h => c4 (Int32.toInt_inj.mp (h.trans (by decide))); have d5 : x.toInt ≠ 5 := fun h => c5 (Int32.toInt_inj.mp (h.trans (by decide))); have d6 : x.toInt ≠ 6 := fun h => c6 (Int32.toInt_inj.mp (h.trans (by decide))); have d7 : x.toInt ≠ 7 := fun h => c7 (Int32.toInt_inj.mp (h.trans (by decide))); have d8 : x.toInt ≠ 8 := fun h => c8 (Int32.toInt_inj.mp (h.trans (by decide))); omega
theorem gOut11 {x : Int32} (c0 : ¬ x = 0) (c1 : ¬ x = 1) (c2 : ¬ x = 2) (c3 : ¬ x = 3) (c4 : ¬ x = 4) (c5 : ¬ x = 5) (c6 : ¬ x = 6) (c7 : ¬ x = 7) (c8 : ¬ x = 8) (c9 : ¬ x = 9) (c10 : ¬ x = 10) : x.toInt < 0 ∨ 10 < x.toInt := by have d0 : x.toInt ≠ 0 := fun h => c0 (Int32.toInt_inj.mp (h.trans (by decide))); have d1 : x.toInt ≠ 1 := fun h => c1 (Int32.toInt_inj.mp (h.trans (by decide))); have d2 : x.toInt ≠ 2 := fun h => c2 (Int32.toInt_inj.mp (h.trans (by decide))); have d3 : x.toInt ≠ 3 := fun h => c3 (Int32.toInt_inj.mp (h.trans (by decide))); have d4 : x.toInt ≠ 4 := fun h => c4 (Int32.toInt_inj.mp (h.trans (by decide))); have d5 : x.toInt ≠ 5 := fun h => c5 (Int32.toInt_inj.mp (h.trans (by decide))); have d6 : x.toInt ≠ 6 := fun h => c6 (Int32.toInt_inj.mp (h.trans (by decide))); have d7 : x.toInt ≠ 7 := fun h => c7 (Int32.toInt_inj.mp (h.trans (by decide))); have d8 : x.toInt ≠ 8 := fun h => c8 (Int32.toInt_inj.mp (h.trans (by decide))); have d9 : x.toInt ≠ 9 := fun h => c9 (Int32.toInt_inj.mp (h.trans (by decide))); have d10 : x.toInt ≠ 10 := fun h => c10 (Int32.toInt_inj.mp (h.trans (by decide))); omega
theorem gOut18 {x : Int32} (c0 : ¬ x = 0) (c1 : ¬ x = 1) (c2 : ¬ x = 2) (c3 : ¬ x = 3) (c4 : ¬ x = 4) (c5 : ¬ x = 5) (c6 : ¬ x = 6) (c7 : ¬ x = 7) (c8 : ¬ x = 8) (c9 : ¬ x = 9) (c10 : ¬ x = 10) (c11 : ¬ x = 11) (c12 : ¬ x = 12) (c13 : ¬ x = 13) (c14 : ¬ x = 14) (c15 : ¬ x = 15) (c16 : ¬ x = 16) (c17 : ¬ x = 17) : x.toInt < 0 ∨ 17 < x.toInt := by have d0 : x.toInt ≠ 0 := fun h => c0 (Int32.toInt_inj.mp (h.trans (by decide))); have d1 : x.toInt ≠ 1 := fun h => c1 (Int32.toInt_inj.mp (h.trans (by decide))); have d2 : x.toInt ≠ 2 := fun h => c2 (Int32.toInt_inj.mp (h.trans (by decide))); have d3 : x.toInt ≠ 3 := fun h => c3 (Int32.toInt_inj.mp (h.trans (by decide))); have d4 : x.toInt ≠ 4 := fun h => c4 (Int32.toInt_inj.mp (h.trans (by decide))); have d5 : x.toInt ≠ 5 := fun h => c5 (Int32.toInt_inj.mp (h.trans (by decide))); have d6 : x.toInt ≠ 6 := fun h => c6 (Int32.toInt_inj.mp (h.trans (by decide))); have d7 : x.toInt ≠ 7 := fun h => c7 (Int32.toInt_inj.mp (h.trans (by decide))); have d8 : x.toInt ≠ 8 := fun h => c8 (Int32.toInt_inj.mp (h.trans (by decide))); have d9 : x.toInt ≠ 9 := fun h => c9 (Int32.toInt_inj.mp (h.trans (by decide))); have d10 : x.toInt ≠ 10 := fun h => c10 (Int32.toInt_inj.mp (h.trans (by decide))); have d11 : x.toInt ≠ 11 := fun h => c11 (Int32.toInt_inj.mp (h.trans (by decide))); have d12 : x.toInt ≠ 12 := fun h => c12 (Int32.toInt_inj.mp (h.trans (by decide))); have d13 : x.toInt ≠ 13 := fun h => c13 (Int32.toInt_inj.mp (h.trans (by decide))); have d14 : x.toInt ≠ 14 := fun h => c14 (Int32.toInt_inj.mp (h.trans (by decide))); have d15 : x.toInt ≠ 15 := fun h => c15 (Int32.toInt_inj.mp (h.trans (by decide))); have d16 : x.toInt ≠ 16 := fun h => c16 (Int32.toInt_inj.mp (h.trans (by decide))); have d17 : x.toInt ≠ 17 := fun h => c17 (Int32.toInt_inj.mp (h.trans (by decide))); omega
end
section
/-! Math.max, min; Row (by program: wip/p1/m_rows.py) -/
theorem dJ9_max_7cf53_0 : decode cJ9_max_7cf53 0 = .ok (.iload_n 0, 1) := by decide +kernel
theorem dJ9_max_7cf53_1 : decode cJ9_max_7cf53 1 = .ok (.iload_n 1, 1) := by decide +kernel
theorem dJ9_max_7cf53_2 : decode cJ9_max_7cf53 2 = .ok (.if_icmp .lt 7, 3) := by decide +kernel
theorem dJ9_max_7cf53_5 : decode cJ9_max_7cf53 5 = .ok (.iload_n 0, 1) := by decide +kernel
theorem dJ9_max_7cf53_6 : decode cJ9_max_7cf53 6 = .ok (.goto 4, 3) := by decide +kernel
theorem dJ9_max_7cf53_9 : decode cJ9_max_7cf53 9 = .ok (.iload_n 1, 1) := by decide +kernel
theorem dJ9_max_7cf53_10 : decode cJ9_max_7cf53 10 = .ok (.ireturn, 1) := by decide +kernel
set_option maxRecDepth 100000 in
set_option maxHeartbeats 4000000 in
theorem c_J9_max_7cf53 {hp : List gA} {a b : Int32}  : gM yJ9_max_7cf53 cJ9_max_7cf53 2 ((some .int)) 0 0 [.int a, .int b] (hp) (0) (0) (fun v h => v = some (.int (gmax a b)) ∧ h = hp) := by
  refine gM_of (ls0 := [some (.int a), some (.int b)]) (by decide +kernel) (Nat.le_of_ble_eq_true rfl) rfl fun X C E => ?_
  refine g_iload_n (q := 1) C dJ9_max_7cf53_0 rfl rfl ?_
  refine g_iload_n (q := 2) C dJ9_max_7cf53_1 rfl rfl ?_
  refine g_icmp_lt (t := 9) (q := 5) C dJ9_max_7cf53_2 (by decide) rfl (fun c_2 => ?_) (fun c_2 => ?_)
  · -- to 9
    refine g_iload_n (q := 10) C dJ9_max_7cf53_9 rfl rfl ?_
    exact E.1 _ _ _ _ _ _ _ dJ9_max_7cf53_10 rfl rfl (Nat.le_of_ble_eq_true rfl) (Nat.le_of_ble_eq_true rfl) ⟨by simp [*, gmax], rfl⟩
  · -- to 5
    refine g_iload_n (q := 6) C dJ9_max_7cf53_5 rfl rfl ?_
    refine g_goto (q := 10) C dJ9_max_7cf53_6 (by decide) ?_
    exact E.1 _ _ _ _ _ _ _ dJ9_max_7cf53_10 rfl rfl (Nat.le_of_ble_eq_true rfl) (Nat.le_of_ble_eq_true rfl) ⟨by simp [*, gmax], rfl⟩
theorem dJ9_min_7cf53_0 : decode cJ9_min_7cf53 0 = .ok (.iload_n 0, 1) := by decide +kernel
theorem dJ9_min_7cf53_1 : decode cJ9_min_7cf53 1 = .ok (.iload_n 1, 1) := by decide +kernel
theorem dJ9_min_7cf53_2 : decode cJ9_min_7cf53 2 = .ok (.if_icmp .gt 7, 3) := by decide +kernel
theorem dJ9_min_7cf53_5 : decode cJ9_min_7cf53 5 = .ok (.iload_n 0, 1) := by decide +kernel
theorem dJ9_min_7cf53_6 : decode cJ9_min_7cf53 6 = .ok (.goto 4, 3) := by decide +kernel
theorem dJ9_min_7cf53_9 : decode cJ9_min_7cf53 9 = .ok (.iload_n 1, 1) := by decide +kernel
theorem dJ9_min_7cf53_10 : decode cJ9_min_7cf53 10 = .ok (.ireturn, 1) := by decide +kernel
set_option maxRecDepth 100000 in
set_option maxHeartbeats 4000000 in
theorem c_J9_min_7cf53 {hp : List gA} {a b : Int32}  : gM yJ9_min_7cf53 cJ9_min_7cf53 2 ((some .int)) 0 0 [.int a, .int b] (hp) (0) (0) (fun v h => v = some (.int (gmin a b)) ∧ h = hp) := by
  refine gM_of (ls0 := [some (.int a), some (.int b)]) (by decide +kernel) (Nat.le_of_ble_eq_true rfl) rfl fun X C E => ?_
  refine g_iload_n (q := 1) C dJ9_min_7cf53_0 rfl rfl ?_
  refine g_iload_n (q := 2) C dJ9_min_7cf53_1 rfl rfl ?_
  refine g_icmp_gt (t := 9) (q := 5) C dJ9_min_7cf53_2 (by decide) rfl (fun c_2 => ?_) (fun c_2 => ?_)
  · -- to 9
    refine g_iload_n (q := 10) C dJ9_min_7cf53_9 rfl rfl ?_
    exact E.1 _ _ _ _ _ _ _ dJ9_min_7cf53_10 rfl rfl (Nat.le_of_ble_eq_true rfl) (Nat.le_of_ble_eq_true rfl) ⟨by simp [*, gmin], rfl⟩
  · -- to 5
    refine g_iload_n (q := 6) C dJ9_min_7cf53_5 rfl rfl ?_
    refine g_goto (q := 10) C dJ9_min_7cf53_6 (by decide) ?_
    exact E.1 _ _ _ _ _ _ _ dJ9_min_7cf53_10 rfl rfl (Nat.le_of_ble_eq_true rfl) (Nat.le_of_ble_eq_true rfl) ⟨by simp [*, gmin], rfl⟩
theorem dX4_size_0 : decode cX4_size 0 = .ok (.aload_n 0, 1) := by decide +kernel
theorem dX4_size_1 : decode cX4_size 1 = .ok (.getfield 7, 3) := by decide +kernel
theorem dX4_size_4 : decode cX4_size 4 = .ok (.ireturn, 1) := by decide +kernel
set_option maxRecDepth 100000 in
set_option maxHeartbeats 4000000 in
theorem c_X4_size {hp : List gA} {r a : Nat} {len most : Int32} (hr : hp[r]? = some (.inr (.inr (4, [.ref a, .int len, .int most])))) : gM yX4_size cX4_size 1 ((some .int)) 0 0 [.ref r] (hp) (0) (0) (fun v h => v = some (.int len) ∧ h = hp) := by
  refine gM_of (ls0 := [some (.ref r)]) (by decide +kernel) (Nat.le_of_ble_eq_true rfl) rfl fun X C E => ?_
  refine g_aload_n (q := 1) C dX4_size_0 rfl rfl ?_
  refine g_getfield (q := 4) C fX4_7 dX4_size_1 rfl hr rfl ?_
  exact E.1 _ _ _ _ _ _ _ dX4_size_4 rfl rfl (Nat.le_of_ble_eq_true rfl) (Nat.le_of_ble_eq_true rfl) ⟨rfl, rfl⟩
theorem dX4_keep_0 : decode cX4_keep 0 = .ok (.aload_n 0, 1) := by decide +kernel
theorem dX4_keep_1 : decode cX4_keep 1 = .ok (.iconst 0, 1) := by decide +kernel
theorem dX4_keep_2 : decode cX4_keep 2 = .ok (.iload_n 1, 1) := by decide +kernel
theorem dX4_keep_3 : decode cX4_keep 3 = .ok (.aload_n 0, 1) := by decide +kernel
theorem dX4_keep_4 : decode cX4_keep 4 = .ok (.getfield 7, 3) := by decide +kernel
theorem dX4_keep_7 : decode cX4_keep 7 = .ok (.invokestatic 26, 3) := by decide +kernel
theorem dX4_keep_10 : decode cX4_keep 10 = .ok (.invokestatic 13, 3) := by decide +kernel
theorem dX4_keep_13 : decode cX4_keep 13 = .ok (.putfield 7, 3) := by decide +kernel
theorem dX4_keep_16 : decode cX4_keep 16 = .ok (.return_, 1) := by decide +kernel
set_option maxRecDepth 100000 in
set_option maxHeartbeats 4000000 in
theorem c_X4_keep {hp : List gA} {r a : Nat} {len most x : Int32} (hr : hp[r]? = some (.inr (.inr (4, [.ref a, .int len, .int most])))) : gM yX4_keep cX4_keep 2 (none) 1 21 [.ref r, .int x] (hp) (0) (0) (fun v h => v = none ∧ h = hp.set r (.inr (.inr (4, [.ref a, .int (gmax 0 (gmin x len)), .int most])))) := by
  refine gM_of (ls0 := [some (.ref r), some (.int x)]) (by decide +kernel) (Nat.le_of_ble_eq_true rfl) rfl fun X C E => ?_
  refine g_aload_n (q := 1) C dX4_keep_0 rfl rfl ?_
  refine g_iconst (v := 0) (q := 2) C dX4_keep_1 (by decide) rfl ?_
  refine g_iload_n (q := 3) C dX4_keep_2 rfl rfl ?_
  refine g_aload_n (q := 4) C dX4_keep_3 rfl rfl ?_
  refine g_getfield (q := 7) C fX4_7 dX4_keep_4 rfl hr rfl ?_
  refine g_callSi (q := 10) (As := [.int x, .int len]) C gyJ9_min_7cf53 t_476 t_475 (c_J9_min_7cf53) dX4_keep_7 rfl rfl rfl (Nat.le_of_ble_eq_true rfl) (Nat.le_of_ble_eq_true rfl) (Nat.le_of_ble_eq_true rfl) (Nat.le_of_ble_eq_true rfl) (Nat.le_of_ble_eq_true rfl) rfl ?_
  refine g_callSi (q := 13) (As := [.int 0, .int _]) C gyJ9_max_7cf53 t_132 t_131 (c_J9_max_7cf53) dX4_keep_10 rfl rfl rfl (Nat.le_of_ble_eq_true rfl) (Nat.le_of_ble_eq_true rfl) (Nat.le_of_ble_eq_true rfl) (Nat.le_of_ble_eq_true rfl) (Nat.le_of_ble_eq_true rfl) rfl ?_
  refine g_putfield (q := 16) C fX4_7 dX4_keep_13 rfl hr (Nat.le_of_ble_eq_true rfl) (Or.inl rfl) rfl rfl (by intro z h; cases h) ?_
  exact E.2.1 _ _ _ _ _ dX4_keep_16 rfl (Nat.le_of_ble_eq_true rfl) (Nat.le_of_ble_eq_true rfl) ⟨rfl, rfl⟩
theorem dX4_init_0 : decode cX4_init 0 = .ok (.aload_n 0, 1) := by decide +kernel
theorem dX4_init_1 : decode cX4_init 1 = .ok (.invokespecial 1, 3) := by decide +kernel
theorem dX4_init_4 : decode cX4_init 4 = .ok (.aload_n 0, 1) := by decide +kernel
theorem dX4_init_5 : decode cX4_init 5 = .ok (.iconst 0, 1) := by decide +kernel
theorem dX4_init_6 : decode cX4_init 6 = .ok (.putfield 7, 3) := by decide +kernel
theorem dX4_init_9 : decode cX4_init 9 = .ok (.aload_n 0, 1) := by decide +kernel
theorem dX4_init_10 : decode cX4_init 10 = .ok (.iconst 0, 1) := by decide +kernel
theorem dX4_init_11 : decode cX4_init 11 = .ok (.iload_n 1, 1) := by decide +kernel
theorem dX4_init_12 : decode cX4_init 12 = .ok (.invokestatic 13, 3) := by decide +kernel
theorem dX4_init_15 : decode cX4_init 15 = .ok (.newarray .int, 2) := by decide +kernel
theorem dX4_init_17 : decode cX4_init 17 = .ok (.putfield 19, 3) := by decide +kernel
theorem dX4_init_20 : decode cX4_init 20 = .ok (.aload_n 0, 1) := by decide +kernel
theorem dX4_init_21 : decode cX4_init 21 = .ok (.iload_n 2, 1) := by decide +kernel
theorem dX4_init_22 : decode cX4_init 22 = .ok (.putfield 23, 3) := by decide +kernel
theorem dX4_init_25 : decode cX4_init 25 = .ok (.return_, 1) := by decide +kernel
set_option maxRecDepth 100000 in
set_option maxHeartbeats 4000000 in
theorem c_X4_init {hp : List gA} {n N : Nat} {first most : Int32} (hn : hp.length = n) (hN : (gmax 0 first).toNatClampNeg = N) (hb : N ≤ 100000000) : gM yX4_init cX4_init 3 (none) 1 21 [.ref (n + 0), .int first, .int most] (hp ++ [.inr (.inr (4, [.null, .int 0, .int 0]))]) (1) (N) (fun v h => v = none ∧ h = hp ++ [.inr (.inr (4, [.ref (n + 1), .int 0, .int most])), .inl (N, fun _ => 0)]) := by
  refine gM_of (ls0 := [some (.ref (n + 0)), some (.int first), some (.int most)]) (by decide +kernel) (Nat.le_of_ble_eq_true rfl) rfl fun X C E => ?_
  refine g_aload_n (q := 1) C dX4_init_0 rfl rfl ?_
  refine g_objInit (q := 4) C t_130 t_123 t_124 dX4_init_1 rfl rfl (Nat.le_of_ble_eq_true rfl) (Nat.le_of_ble_eq_true rfl) ?_
  refine g_aload_n (q := 5) C dX4_init_4 rfl rfl ?_
  refine g_iconst (v := 0) (q := 6) C dX4_init_5 (by decide) rfl ?_
  refine g_putE (q := 9) (hp' := hp ++ [.inr (.inr (4, [.null, .int 0, .int 0]))]) C fX4_7 dX4_init_6 rfl (gapp_new hn rfl) (Nat.le_of_ble_eq_true rfl) (Or.inl rfl) rfl rfl (by intro z h; cases h) rfl (gapp_set hn) ?_
  refine g_aload_n (q := 10) C dX4_init_9 rfl rfl ?_
  refine g_iconst (v := 0) (q := 11) C dX4_init_10 (by decide) rfl ?_
  refine g_iload_n (q := 12) C dX4_init_11 rfl rfl ?_
  refine g_callSi (q := 15) (As := [.int 0, .int first]) C gyJ9_max_7cf53 t_132 t_131 (c_J9_max_7cf53) dX4_init_12 rfl rfl rfl (Nat.le_of_ble_eq_true rfl) (Nat.le_of_ble_eq_true rfl) (Nat.le_of_ble_eq_true rfl) (Nat.le_of_ble_eq_true rfl) (Nat.le_of_ble_eq_true rfl) rfl ?_
  refine g_newarray (q := 17) (k := n + 1) (N := N) C t_144 dX4_init_15 rfl (by rw [List.length_append, hn]; rfl) (gmax0 _) hN hb (Nat.le_refl _) (by show 0 + N ≤ N; omega) ?_
  refine g_heap (hp2 := hp ++ [.inr (.inr (4, [.null, .int 0, .int 0])), .inl (N, fun _ => 0)]) (by simp only [List.append_assoc, List.cons_append, List.nil_append]) ?_
  refine g_putE (q := 20) (hp' := hp ++ [.inr (.inr (4, [.ref (n + 1), .int 0, .int 0])), .inl (N, fun _ => 0)]) C fX4_19 dX4_init_17 rfl (gapp_new hn rfl) (Nat.le_of_ble_eq_true rfl) (Or.inl rfl) rfl rfl (by intro z h; cases h) rfl (gapp_set hn) ?_
  refine g_aload_n (q := 21) C dX4_init_20 rfl rfl ?_
  refine g_iload_n (q := 22) C dX4_init_21 rfl rfl ?_
  refine g_putE (q := 25) (hp' := hp ++ [.inr (.inr (4, [.ref (n + 1), .int 0, .int most])), .inl (N, fun _ => 0)]) C fX4_23 dX4_init_22 rfl (gapp_new hn rfl) (Nat.le_of_ble_eq_true rfl) (Or.inr rfl) rfl rfl (by intro z h; cases h) rfl (gapp_set hn) ?_
  exact E.2.1 _ _ _ _ _ dX4_init_25 rfl (by omega) (by omega) ⟨rfl, rfl⟩
theorem dX4_add_0 : decode cX4_add 0 = .ok (.aload_n 0, 1) := by decide +kernel
theorem dX4_add_1 : decode cX4_add 1 = .ok (.getfield 7, 3) := by decide +kernel
theorem dX4_add_4 : decode cX4_add 4 = .ok (.aload_n 0, 1) := by decide +kernel
theorem dX4_add_5 : decode cX4_add 5 = .ok (.getfield 23, 3) := by decide +kernel
theorem dX4_add_8 : decode cX4_add 8 = .ok (.if_icmp .lt 4, 3) := by decide +kernel
theorem dX4_add_12 : decode cX4_add 12 = .ok (.aload_n 0, 1) := by decide +kernel
theorem dX4_add_13 : decode cX4_add 13 = .ok (.getfield 7, 3) := by decide +kernel
theorem dX4_add_16 : decode cX4_add 16 = .ok (.aload_n 0, 1) := by decide +kernel
theorem dX4_add_17 : decode cX4_add 17 = .ok (.getfield 19, 3) := by decide +kernel
theorem dX4_add_20 : decode cX4_add 20 = .ok (.arraylength, 1) := by decide +kernel
theorem dX4_add_21 : decode cX4_add 21 = .ok (.if_icmp .lt 32, 3) := by decide +kernel
theorem dX4_add_53 : decode cX4_add 53 = .ok (.aload_n 0, 1) := by decide +kernel
theorem dX4_add_54 : decode cX4_add 54 = .ok (.getfield 7, 3) := by decide +kernel
theorem dX4_add_57 : decode cX4_add 57 = .ok (.ifCond .lt 35, 3) := by decide +kernel
theorem dX4_add_60 : decode cX4_add 60 = .ok (.aload_n 0, 1) := by decide +kernel
theorem dX4_add_61 : decode cX4_add 61 = .ok (.getfield 7, 3) := by decide +kernel
theorem dX4_add_64 : decode cX4_add 64 = .ok (.aload_n 0, 1) := by decide +kernel
theorem dX4_add_65 : decode cX4_add 65 = .ok (.getfield 19, 3) := by decide +kernel
theorem dX4_add_68 : decode cX4_add 68 = .ok (.arraylength, 1) := by decide +kernel
theorem dX4_add_69 : decode cX4_add 69 = .ok (.if_icmp .ge 23, 3) := by decide +kernel
theorem dX4_add_72 : decode cX4_add 72 = .ok (.aload_n 0, 1) := by decide +kernel
theorem dX4_add_73 : decode cX4_add 73 = .ok (.getfield 19, 3) := by decide +kernel
theorem dX4_add_76 : decode cX4_add 76 = .ok (.aload_n 0, 1) := by decide +kernel
theorem dX4_add_77 : decode cX4_add 77 = .ok (.getfield 7, 3) := by decide +kernel
theorem dX4_add_80 : decode cX4_add 80 = .ok (.iload_n 1, 1) := by decide +kernel
theorem dX4_add_81 : decode cX4_add 81 = .ok (.iastore, 1) := by decide +kernel
theorem dX4_add_82 : decode cX4_add 82 = .ok (.aload_n 0, 1) := by decide +kernel
theorem dX4_add_83 : decode cX4_add 83 = .ok (.dup, 1) := by decide +kernel
theorem dX4_add_84 : decode cX4_add 84 = .ok (.getfield 7, 3) := by decide +kernel
theorem dX4_add_87 : decode cX4_add 87 = .ok (.iconst 1, 1) := by decide +kernel
theorem dX4_add_88 : decode cX4_add 88 = .ok (.iadd, 1) := by decide +kernel
theorem dX4_add_89 : decode cX4_add 89 = .ok (.putfield 7, 3) := by decide +kernel
theorem dX4_add_92 : decode cX4_add 92 = .ok (.return_, 1) := by decide +kernel
set_option maxRecDepth 100000 in
set_option maxHeartbeats 4000000 in
theorem c_X4_add_in {hp : List gA} {r a n : Nat} {f : Nat → Int32} {len most x : Int32} (hr : hp[r]? = some (.inr (.inr (4, [.ref a, .int len, .int most])))) (ha : hp[a]? = some (.inl (n, f))) (h1 : len < most) (h2 : len < Int32.ofNat n) (h3 : ¬ len < 0) (h4 : ¬ Int32.ofNat n ≤ len) (h5 : vp_in len n) : gM yX4_add cX4_add 2 (none) 2 82 [.ref r, .int x] (hp) (0) (0) (fun v h => v = none ∧ h = (hp.set a (.inl (n, upd f len.toNatClampNeg x))).set r (.inr (.inr (4, [.ref a, .int (len + 1), .int most])))) := by
  have n_a_r : a ≠ r := gne ha hr (by intro h; cases h)
  refine gM_of (ls0 := [some (.ref r), some (.int x)]) (by decide +kernel) (Nat.le_of_ble_eq_true rfl) rfl fun X C E => ?_
  refine g_aload_n (q := 1) C dX4_add_0 rfl rfl ?_
  refine g_getfield (q := 4) C fX4_7 dX4_add_1 rfl hr rfl ?_
  refine g_aload_n (q := 5) C dX4_add_4 rfl rfl ?_
  refine g_getfield (q := 8) C fX4_23 dX4_add_5 rfl hr rfl ?_
  refine g_icmp_lt_t (t := 12) C dX4_add_8 (by decide) h1 ?_
  refine g_aload_n (q := 13) C dX4_add_12 rfl rfl ?_
  refine g_getfield (q := 16) C fX4_7 dX4_add_13 rfl hr rfl ?_
  refine g_aload_n (q := 17) C dX4_add_16 rfl rfl ?_
  refine g_getfield (q := 20) C fX4_19 dX4_add_17 rfl hr rfl ?_
  refine g_arraylength (q := 21) C dX4_add_20 rfl ha rfl ?_
  refine g_icmp_lt_t (t := 53) C dX4_add_21 (by decide) h2 ?_
  refine g_aload_n (q := 54) C dX4_add_53 rfl rfl ?_
  refine g_getfield (q := 57) C fX4_7 dX4_add_54 rfl hr rfl ?_
  refine g_if_lt_f (t := 92) (q := 60) C dX4_add_57 (by decide) rfl h3 ?_
  refine g_aload_n (q := 61) C dX4_add_60 rfl rfl ?_
  refine g_getfield (q := 64) C fX4_7 dX4_add_61 rfl hr rfl ?_
  refine g_aload_n (q := 65) C dX4_add_64 rfl rfl ?_
  refine g_getfield (q := 68) C fX4_19 dX4_add_65 rfl hr rfl ?_
  refine g_arraylength (q := 69) C dX4_add_68 rfl ha rfl ?_
  refine g_icmp_ge_f (t := 92) (q := 72) C dX4_add_69 (by decide) rfl h4 ?_
  refine g_aload_n (q := 73) C dX4_add_72 rfl rfl ?_
  refine g_getfield (q := 76) C fX4_19 dX4_add_73 rfl hr rfl ?_
  refine g_aload_n (q := 77) C dX4_add_76 rfl rfl ?_
  refine g_getfield (q := 80) C fX4_7 dX4_add_77 rfl hr rfl ?_
  refine g_iload_n (q := 81) C dX4_add_80 rfl rfl ?_
  refine g_iastore (q := 82) C dX4_add_81 rfl ha h5 ?_
  refine g_aload_n (q := 83) C dX4_add_82 rfl rfl ?_
  refine g_dup (q := 84) C dX4_add_83 rfl rfl ?_
  refine g_getfield (q := 87) C fX4_7 dX4_add_84 rfl (gset_other hr n_a_r) rfl ?_
  refine g_iconst (v := 1) (q := 88) C dX4_add_87 (by decide) rfl ?_
  refine g_iadd (q := 89) C dX4_add_88 rfl ?_
  refine g_putfield (q := 92) C fX4_7 dX4_add_89 rfl (gset_other hr n_a_r) (Nat.le_of_ble_eq_true rfl) (Or.inl rfl) rfl rfl (by intro z h; cases h) ?_
  exact E.2.1 _ _ _ _ _ dX4_add_92 rfl (Nat.le_of_ble_eq_true rfl) (Nat.le_of_ble_eq_true rfl) ⟨rfl, rfl⟩
end
section
/-! the constructors of the class (by program: wip/p1/m_ctors.py) -/
theorem dX1_init_0 : decode cX1_init 0 = .ok (.aload_n 0, 1) := by decide +kernel
theorem dX1_init_1 : decode cX1_init 1 = .ok (.invokespecial 3, 3) := by decide +kernel
theorem dX1_init_4 : decode cX1_init 4 = .ok (.aload_n 0, 1) := by decide +kernel
theorem dX1_init_5 : decode cX1_init 5 = .ok (.new 9, 3) := by decide +kernel
theorem dX1_init_8 : decode cX1_init 8 = .ok (.dup, 1) := by decide +kernel
theorem dX1_init_9 : decode cX1_init 9 = .ok (.sipush 256, 3) := by decide +kernel
theorem dX1_init_12 : decode cX1_init 12 = .ok (.ldc 13, 2) := by decide +kernel
theorem dX1_init_14 : decode cX1_init 14 = .ok (.invokespecial 14, 3) := by decide +kernel
theorem dX1_init_17 : decode cX1_init 17 = .ok (.putfield 17, 3) := by decide +kernel
theorem dX1_init_20 : decode cX1_init 20 = .ok (.aload_n 0, 1) := by decide +kernel
theorem dX1_init_21 : decode cX1_init 21 = .ok (.new 9, 3) := by decide +kernel
theorem dX1_init_24 : decode cX1_init 24 = .ok (.dup, 1) := by decide +kernel
theorem dX1_init_25 : decode cX1_init 25 = .ok (.bipush 32, 2) := by decide +kernel
theorem dX1_init_27 : decode cX1_init 27 = .ok (.ldc 21, 2) := by decide +kernel
theorem dX1_init_29 : decode cX1_init 29 = .ok (.invokespecial 14, 3) := by decide +kernel
theorem dX1_init_32 : decode cX1_init 32 = .ok (.putfield 22, 3) := by decide +kernel
theorem dX1_init_35 : decode cX1_init 35 = .ok (.aload_n 0, 1) := by decide +kernel
theorem dX1_init_36 : decode cX1_init 36 = .ok (.new 9, 3) := by decide +kernel
theorem dX1_init_39 : decode cX1_init 39 = .ok (.dup, 1) := by decide +kernel
theorem dX1_init_40 : decode cX1_init 40 = .ok (.bipush 32, 2) := by decide +kernel
theorem dX1_init_42 : decode cX1_init 42 = .ok (.ldc 21, 2) := by decide +kernel
theorem dX1_init_44 : decode cX1_init 44 = .ok (.invokespecial 14, 3) := by decide +kernel
theorem dX1_init_47 : decode cX1_init 47 = .ok (.putfield 25, 3) := by decide +kernel
theorem dX1_init_50 : decode cX1_init 50 = .ok (.aload_n 0, 1) := by decide +kernel
theorem dX1_init_51 : decode cX1_init 51 = .ok (.new 9, 3) := by decide +kernel
theorem dX1_init_54 : decode cX1_init 54 = .ok (.dup, 1) := by decide +kernel
theorem dX1_init_55 : decode cX1_init 55 = .ok (.bipush 32, 2) := by decide +kernel
theorem dX1_init_57 : decode cX1_init 57 = .ok (.ldc 21, 2) := by decide +kernel
theorem dX1_init_59 : decode cX1_init 59 = .ok (.invokespecial 14, 3) := by decide +kernel
theorem dX1_init_62 : decode cX1_init 62 = .ok (.putfield 28, 3) := by decide +kernel
theorem dX1_init_65 : decode cX1_init 65 = .ok (.aload_n 0, 1) := by decide +kernel
theorem dX1_init_66 : decode cX1_init 66 = .ok (.new 9, 3) := by decide +kernel
theorem dX1_init_69 : decode cX1_init 69 = .ok (.dup, 1) := by decide +kernel
theorem dX1_init_70 : decode cX1_init 70 = .ok (.sipush 256, 3) := by decide +kernel
theorem dX1_init_73 : decode cX1_init 73 = .ok (.sipush 256, 3) := by decide +kernel
theorem dX1_init_76 : decode cX1_init 76 = .ok (.invokespecial 14, 3) := by decide +kernel
theorem dX1_init_79 : decode cX1_init 79 = .ok (.putfield 31, 3) := by decide +kernel
theorem dX1_init_82 : decode cX1_init 82 = .ok (.aload_n 0, 1) := by decide +kernel
theorem dX1_init_83 : decode cX1_init 83 = .ok (.new 9, 3) := by decide +kernel
theorem dX1_init_86 : decode cX1_init 86 = .ok (.dup, 1) := by decide +kernel
theorem dX1_init_87 : decode cX1_init 87 = .ok (.bipush 30, 2) := by decide +kernel
theorem dX1_init_89 : decode cX1_init 89 = .ok (.bipush 30, 2) := by decide +kernel
theorem dX1_init_91 : decode cX1_init 91 = .ok (.invokespecial 14, 3) := by decide +kernel
theorem dX1_init_94 : decode cX1_init 94 = .ok (.putfield 34, 3) := by decide +kernel
theorem dX1_init_97 : decode cX1_init 97 = .ok (.aload_n 0, 1) := by decide +kernel
theorem dX1_init_98 : decode cX1_init 98 = .ok (.new 9, 3) := by decide +kernel
theorem dX1_init_101 : decode cX1_init 101 = .ok (.dup, 1) := by decide +kernel
theorem dX1_init_102 : decode cX1_init 102 = .ok (.bipush 30, 2) := by decide +kernel
theorem dX1_init_104 : decode cX1_init 104 = .ok (.bipush 30, 2) := by decide +kernel
theorem dX1_init_106 : decode cX1_init 106 = .ok (.invokespecial 14, 3) := by decide +kernel
theorem dX1_init_109 : decode cX1_init 109 = .ok (.putfield 37, 3) := by decide +kernel
theorem dX1_init_112 : decode cX1_init 112 = .ok (.aload_n 0, 1) := by decide +kernel
theorem dX1_init_113 : decode cX1_init 113 = .ok (.new 9, 3) := by decide +kernel
theorem dX1_init_116 : decode cX1_init 116 = .ok (.dup, 1) := by decide +kernel
theorem dX1_init_117 : decode cX1_init 117 = .ok (.bipush 30, 2) := by decide +kernel
theorem dX1_init_119 : decode cX1_init 119 = .ok (.bipush 30, 2) := by decide +kernel
theorem dX1_init_121 : decode cX1_init 121 = .ok (.invokespecial 14, 3) := by decide +kernel
theorem dX1_init_124 : decode cX1_init 124 = .ok (.putfield 40, 3) := by decide +kernel
theorem dX1_init_127 : decode cX1_init 127 = .ok (.aload_n 0, 1) := by decide +kernel
theorem dX1_init_128 : decode cX1_init 128 = .ok (.iconst (-1), 1) := by decide +kernel
theorem dX1_init_129 : decode cX1_init 129 = .ok (.putfield 43, 3) := by decide +kernel
theorem dX1_init_132 : decode cX1_init 132 = .ok (.return_, 1) := by decide +kernel
set_option maxRecDepth 100000 in
set_option maxHeartbeats 4000000 in
theorem c_X1_init {hp : List gA} {n : Nat}  (hn : hp.length = n) : gM yX1_init cX1_init 1 (none) 2 43 [.ref (n + 0)] (hp ++ [.inr (.inr (1, [.null, .null, .null, .null, .null, .null, .null, .null, .int 0]))]) (16) (722) (fun v h => v = none ∧ h = hp ++ [.inr (.inr (1, [.ref (n + 1), .ref (n + 3), .ref (n + 5), .ref (n + 7), .ref (n + 9), .ref (n + 11), .ref (n + 13), .ref (n + 15), .int ((-1))])), .inr (.inr (4, [.ref (n + 2), .int 0, .int 1048576])), .inl (256, fun _ => 0), .inr (.inr (4, [.ref (n + 4), .int 0, .int 65536])), .inl (32, fun _ => 0), .inr (.inr (4, [.ref (n + 6), .int 0, .int 65536])), .inl (32, fun _ => 0), .inr (.inr (4, [.ref (n + 8), .int 0, .int 65536])), .inl (32, fun _ => 0), .inr (.inr (4, [.ref (n + 10), .int 0, .int 256])), .inl (256, fun _ => 0), .inr (.inr (4, [.ref (n + 12), .int 0, .int 30])), .inl (30, fun _ => 0), .inr (.inr (4, [.ref (n + 14), .int 0, .int 30])), .inl (30, fun _ => 0), .inr (.inr (4, [.ref (n + 16), .int 0, .int 30])), .inl (30, fun _ => 0)]) := by
  refine gM_of (ls0 := [some (.ref (n + 0))]) (by decide +kernel) (Nat.le_of_ble_eq_true rfl) rfl fun X C E => ?_
  refine g_aload_n (q := 1) C dX1_init_0 rfl rfl ?_
  refine g_objInit (q := 4) C t_150 t_123 t_124 dX1_init_1 rfl rfl (Nat.le_of_ble_eq_true rfl) (Nat.le_of_ble_eq_true rfl) ?_
  refine g_aload_n (q := 5) C dX1_init_4 rfl rfl ?_
  refine g_new (q := 8) (k := n + 1) C nX1_9 dX1_init_5 rfl (by rw [List.length_append, hn]; rfl) (Nat.le_of_ble_eq_true rfl) (Nat.le_of_ble_eq_true rfl) ?_
  refine g_heap (hp2 := hp ++ [.inr (.inr (1, [.null, .null, .null, .null, .null, .null, .null, .null, .int 0])), .inr (.inr (4, [.null, .int 0, .int 0]))]) (by simp only [List.append_assoc, List.cons_append, List.nil_append]) ?_
  refine g_dup (q := 9) C dX1_init_8 rfl rfl ?_
  refine g_sipush (v := 256) (q := 12) C dX1_init_9 (by decide) rfl ?_
  refine g_ldc (q := 14) C t_152 dX1_init_12 rfl ?_
  refine g_heap (hp2 := (hp ++ [.inr (.inr (1, [.null, .null, .null, .null, .null, .null, .null, .null, .int 0]))]) ++ [.inr (.inr (4, [.null, .int 0, .int 0]))]) (by simp only [List.append_assoc, List.cons_append, List.nil_append]) ?_
  refine g_callIv (q := 17) (As := [.int 256, .int 1048576]) C gyX4_init giX4_init rfl t_153 (c_X4_init (n := n + 1) (N := 256) (first := 256) (by rw [List.length_append, hn]; rfl) (by decide) (by decide)) dX1_init_14 rfl rfl rfl (Nat.le_of_ble_eq_true rfl) (Nat.le_of_ble_eq_true rfl) (Nat.le_of_ble_eq_true rfl) (Nat.le_of_ble_eq_true rfl) (Nat.le_of_ble_eq_true rfl) rfl ?_
  refine g_heap (hp2 := hp ++ [.inr (.inr (1, [.null, .null, .null, .null, .null, .null, .null, .null, .int 0])), .inr (.inr (4, [.ref (n + 2), .int 0, .int 1048576])), .inl (256, fun _ => 0)]) (by simp only [List.append_assoc, List.cons_append, List.nil_append, Nat.add_assoc, Nat.reduceAdd, Nat.add_zero]) ?_
  refine g_putE (q := 20) (hp' := hp ++ [.inr (.inr (1, [.ref (n + 1), .null, .null, .null, .null, .null, .null, .null, .int 0])), .inr (.inr (4, [.ref (n + 2), .int 0, .int 1048576])), .inl (256, fun _ => 0)]) C fX1_17 dX1_init_17 rfl (gapp_new hn rfl) (Nat.le_of_ble_eq_true rfl) (Or.inr rfl) rfl rfl (by intro z h; cases h) rfl (gapp_set hn) ?_
  refine g_aload_n (q := 21) C dX1_init_20 rfl rfl ?_
  refine g_new (q := 24) (k := n + 3) C nX1_9 dX1_init_21 rfl (by rw [List.length_append, hn]; rfl) (Nat.le_of_ble_eq_true rfl) (Nat.le_of_ble_eq_true rfl) ?_
  refine g_heap (hp2 := hp ++ [.inr (.inr (1, [.ref (n + 1), .null, .null, .null, .null, .null, .null, .null, .int 0])), .inr (.inr (4, [.ref (n + 2), .int 0, .int 1048576])), .inl (256, fun _ => 0), .inr (.inr (4, [.null, .int 0, .int 0]))]) (by simp only [List.append_assoc, List.cons_append, List.nil_append]) ?_
  refine g_dup (q := 25) C dX1_init_24 rfl rfl ?_
  refine g_bipush (v := 32) (q := 27) C dX1_init_25 (by decide) rfl ?_
  refine g_ldc (q := 29) C t_154 dX1_init_27 rfl ?_
  refine g_heap (hp2 := (hp ++ [.inr (.inr (1, [.ref (n + 1), .null, .null, .null, .null, .null, .null, .null, .int 0])), .inr (.inr (4, [.ref (n + 2), .int 0, .int 1048576])), .inl (256, fun _ => 0)]) ++ [.inr (.inr (4, [.null, .int 0, .int 0]))]) (by simp only [List.append_assoc, List.cons_append, List.nil_append]) ?_
  refine g_callIv (q := 32) (As := [.int 32, .int 65536]) C gyX4_init giX4_init rfl t_153 (c_X4_init (n := n + 3) (N := 32) (first := 32) (by rw [List.length_append, hn]; rfl) (by decide) (by decide)) dX1_init_29 rfl rfl rfl (Nat.le_of_ble_eq_true rfl) (Nat.le_of_ble_eq_true rfl) (Nat.le_of_ble_eq_true rfl) (Nat.le_of_ble_eq_true rfl) (Nat.le_of_ble_eq_true rfl) rfl ?_
  refine g_heap (hp2 := hp ++ [.inr (.inr (1, [.ref (n + 1), .null, .null, .null, .null, .null, .null, .null, .int 0])), .inr (.inr (4, [.ref (n + 2), .int 0, .int 1048576])), .inl (256, fun _ => 0), .inr (.inr (4, [.ref (n + 4), .int 0, .int 65536])), .inl (32, fun _ => 0)]) (by simp only [List.append_assoc, List.cons_append, List.nil_append, Nat.add_assoc, Nat.reduceAdd, Nat.add_zero]) ?_
  refine g_putE (q := 35) (hp' := hp ++ [.inr (.inr (1, [.ref (n + 1), .ref (n + 3), .null, .null, .null, .null, .null, .null, .int 0])), .inr (.inr (4, [.ref (n + 2), .int 0, .int 1048576])), .inl (256, fun _ => 0), .inr (.inr (4, [.ref (n + 4), .int 0, .int 65536])), .inl (32, fun _ => 0)]) C fX1_22 dX1_init_32 rfl (gapp_new hn rfl) (Nat.le_of_ble_eq_true rfl) (Or.inr rfl) rfl rfl (by intro z h; cases h) rfl (gapp_set hn) ?_
  refine g_aload_n (q := 36) C dX1_init_35 rfl rfl ?_
  refine g_new (q := 39) (k := n + 5) C nX1_9 dX1_init_36 rfl (by rw [List.length_append, hn]; rfl) (Nat.le_of_ble_eq_true rfl) (Nat.le_of_ble_eq_true rfl) ?_
  refine g_heap (hp2 := hp ++ [.inr (.inr (1, [.ref (n + 1), .ref (n + 3), .null, .null, .null, .null, .null, .null, .int 0])), .inr (.inr (4, [.ref (n + 2), .int 0, .int 1048576])), .inl (256, fun _ => 0), .inr (.inr (4, [.ref (n + 4), .int 0, .int 65536])), .inl (32, fun _ => 0), .inr (.inr (4, [.null, .int 0, .int 0]))]) (by simp only [List.append_assoc, List.cons_append, List.nil_append]) ?_
  refine g_dup (q := 40) C dX1_init_39 rfl rfl ?_
  refine g_bipush (v := 32) (q := 42) C dX1_init_40 (by decide) rfl ?_
  refine g_ldc (q := 44) C t_154 dX1_init_42 rfl ?_
  refine g_heap (hp2 := (hp ++ [.inr (.inr (1, [.ref (n + 1), .ref (n + 3), .null, .null, .null, .null, .null, .null, .int 0])), .inr (.inr (4, [.ref (n + 2), .int 0, .int 1048576])), .inl (256, fun _ => 0), .inr (.inr (4, [.ref (n + 4), .int 0, .int 65536])), .inl (32, fun _ => 0)]) ++ [.inr (.inr (4, [.null, .int 0, .int 0]))]) (by simp only [List.append_assoc, List.cons_append, List.nil_append]) ?_
  refine g_callIv (q := 47) (As := [.int 32, .int 65536]) C gyX4_init giX4_init rfl t_153 (c_X4_init (n := n + 5) (N := 32) (first := 32) (by rw [List.length_append, hn]; rfl) (by decide) (by decide)) dX1_init_44 rfl rfl rfl (Nat.le_of_ble_eq_true rfl) (Nat.le_of_ble_eq_true rfl) (Nat.le_of_ble_eq_true rfl) (Nat.le_of_ble_eq_true rfl) (Nat.le_of_ble_eq_true rfl) rfl ?_
  refine g_heap (hp2 := hp ++ [.inr (.inr (1, [.ref (n + 1), .ref (n + 3), .null, .null, .null, .null, .null, .null, .int 0])), .inr (.inr (4, [.ref (n + 2), .int 0, .int 1048576])), .inl (256, fun _ => 0), .inr (.inr (4, [.ref (n + 4), .int 0, .int 65536])), .inl (32, fun _ => 0), .inr (.inr (4, [.ref (n + 6), .int 0, .int 65536])), .inl (32, fun _ => 0)]) (by simp only [List.append_assoc, List.cons_append, List.nil_append, Nat.add_assoc, Nat.reduceAdd, Nat.add_zero]) ?_
  refine g_putE (q := 50) (hp' := hp ++ [.inr (.inr (1, [.ref (n + 1), .ref (n + 3), .ref (n + 5), .null, .null, .null, .null, .null, .int 0])), .inr (.inr (4, [.ref (n + 2), .int 0, .int 1048576])), .inl (256, fun _ => 0), .inr (.inr (4, [.ref (n + 4), .int 0, .int 65536])), .inl (32, fun _ => 0), .inr (.inr (4, [.ref (n + 6), .int 0, .int 65536])), .inl (32, fun _ => 0)]) C fX1_25 dX1_init_47 rfl (gapp_new hn rfl) (Nat.le_of_ble_eq_true rfl) (Or.inr rfl) rfl rfl (by intro z h; cases h) rfl (gapp_set hn) ?_
  refine g_aload_n (q := 51) C dX1_init_50 rfl rfl ?_
  refine g_new (q := 54) (k := n + 7) C nX1_9 dX1_init_51 rfl (by rw [List.length_append, hn]; rfl) (Nat.le_of_ble_eq_true rfl) (Nat.le_of_ble_eq_true rfl) ?_
  refine g_heap (hp2 := hp ++ [.inr (.inr (1, [.ref (n + 1), .ref (n + 3), .ref (n + 5), .null, .null, .null, .null, .null, .int 0])), .inr (.inr (4, [.ref (n + 2), .int 0, .int 1048576])), .inl (256, fun _ => 0), .inr (.inr (4, [.ref (n + 4), .int 0, .int 65536])), .inl (32, fun _ => 0), .inr (.inr (4, [.ref (n + 6), .int 0, .int 65536])), .inl (32, fun _ => 0), .inr (.inr (4, [.null, .int 0, .int 0]))]) (by simp only [List.append_assoc, List.cons_append, List.nil_append]) ?_
  refine g_dup (q := 55) C dX1_init_54 rfl rfl ?_
  refine g_bipush (v := 32) (q := 57) C dX1_init_55 (by decide) rfl ?_
  refine g_ldc (q := 59) C t_154 dX1_init_57 rfl ?_
  refine g_heap (hp2 := (hp ++ [.inr (.inr (1, [.ref (n + 1), .ref (n + 3), .ref (n + 5), .null, .null, .null, .null, .null, .int 0])), .inr (.inr (4, [.ref (n + 2), .int 0, .int 1048576])), .inl (256, fun _ => 0), .inr (.inr (4, [.ref (n + 4), .int 0, .int 65536])), .inl (32, fun _ => 0), .inr (.inr (4, [.ref (n + 6), .int 0, .int 65536])), .inl (32, fun _ => 0)]) ++ [.inr (.inr (4, [.null, .int 0, .int 0]))]) (by simp only [List.append_assoc, List.cons_append, List.nil_append]) ?_
  refine g_callIv (q := 62) (As := [.int 32, .int 65536]) C gyX4_init giX4_init rfl t_153 (c_X4_init (n := n + 7) (N := 32) (first := 32) (by rw [List.length_append, hn]; rfl) (by decide) (by decide)) dX1_init_59 rfl rfl rfl (Nat.le_of_ble_eq_true rfl) (Nat.le_of_ble_eq_true rfl) (Nat.le_of_ble_eq_true rfl) (Nat.le_of_ble_eq_true rfl) (Nat.le_of_ble_eq_true rfl) rfl ?_
  refine g_heap (hp2 := hp ++ [.inr (.inr (1, [.ref (n + 1), .ref (n + 3), .ref (n + 5), .null, .null, .null, .null, .null, .int 0])), .inr (.inr (4, [.ref (n + 2), .int 0, .int 1048576])), .inl (256, fun _ => 0), .inr (.inr (4, [.ref (n + 4), .int 0, .int 65536])), .inl (32, fun _ => 0), .inr (.inr (4, [.ref (n + 6), .int 0, .int 65536])), .inl (32, fun _ => 0), .inr (.inr (4, [.ref (n + 8), .int 0, .int 65536])), .inl (32, fun _ => 0)]) (by simp only [List.append_assoc, List.cons_append, List.nil_append, Nat.add_assoc, Nat.reduceAdd, Nat.add_zero]) ?_
  refine g_putE (q := 65) (hp' := hp ++ [.inr (.inr (1, [.ref (n + 1), .ref (n + 3), .ref (n + 5), .ref (n + 7), .null, .null, .null, .null, .int 0])), .inr (.inr (4, [.ref (n + 2), .int 0, .int 1048576])), .inl (256, fun _ => 0), .inr (.inr (4, [.ref (n + 4), .int 0, .int 65536])), .inl (32, fun _ => 0), .inr (.inr (4, [.ref (n + 6), .int 0, .int 65536])), .inl (32, fun _ => 0), .inr (.inr (4, [.ref (n + 8), .int 0, .int 65536])), .inl (32, fun _ => 0)]) C fX1_28 dX1_init_62 rfl (gapp_new hn rfl) (Nat.le_of_ble_eq_true rfl) (Or.inr rfl) rfl rfl (by intro z h; cases h) rfl (gapp_set hn) ?_
  refine g_aload_n (q := 66) C dX1_init_65 rfl rfl ?_
  refine g_new (q := 69) (k := n + 9) C nX1_9 dX1_init_66 rfl (by rw [List.length_append, hn]; rfl) (Nat.le_of_ble_eq_true rfl) (Nat.le_of_ble_eq_true rfl) ?_
  refine g_heap (hp2 := hp ++ [.inr (.inr (1, [.ref (n + 1), .ref (n + 3), .ref (n + 5), .ref (n + 7), .null, .null, .null, .null, .int 0])), .inr (.inr (4, [.ref (n + 2), .int 0, .int 1048576])), .inl (256, fun _ => 0), .inr (.inr (4, [.ref (n + 4), .int 0, .int 65536])), .inl (32, fun _ => 0), .inr (.inr (4, [.ref (n + 6), .int 0, .int 65536])), .inl (32, fun _ => 0), .inr (.inr (4, [.ref (n + 8), .int 0, .int 65536])), .inl (32, fun _ => 0), .inr (.inr (4, [.null, .int 0, .int 0]))]) (by simp only [List.append_assoc, List.cons_append, List.nil_append]) ?_
  refine g_dup (q := 70) C dX1_init_69 rfl rfl ?_
  refine g_sipush (v := 256) (q := 73) C dX1_init_70 (by decide) rfl ?_
  refine g_sipush (v := 256) (q := 76) C dX1_init_73 (by decide) rfl ?_
  refine g_heap (hp2 := (hp ++ [.inr (.inr (1, [.ref (n + 1), .ref (n + 3), .ref (n + 5), .ref (n + 7), .null, .null, .null, .null, .int 0])), .inr (.inr (4, [.ref (n + 2), .int 0, .int 1048576])), .inl (256, fun _ => 0), .inr (.inr (4, [.ref (n + 4), .int 0, .int 65536])), .inl (32, fun _ => 0), .inr (.inr (4, [.ref (n + 6), .int 0, .int 65536])), .inl (32, fun _ => 0), .inr (.inr (4, [.ref (n + 8), .int 0, .int 65536])), .inl (32, fun _ => 0)]) ++ [.inr (.inr (4, [.null, .int 0, .int 0]))]) (by simp only [List.append_assoc, List.cons_append, List.nil_append]) ?_
  refine g_callIv (q := 79) (As := [.int 256, .int 256]) C gyX4_init giX4_init rfl t_153 (c_X4_init (n := n + 9) (N := 256) (first := 256) (by rw [List.length_append, hn]; rfl) (by decide) (by decide)) dX1_init_76 rfl rfl rfl (Nat.le_of_ble_eq_true rfl) (Nat.le_of_ble_eq_true rfl) (Nat.le_of_ble_eq_true rfl) (Nat.le_of_ble_eq_true rfl) (Nat.le_of_ble_eq_true rfl) rfl ?_
  refine g_heap (hp2 := hp ++ [.inr (.inr (1, [.ref (n + 1), .ref (n + 3), .ref (n + 5), .ref (n + 7), .null, .null, .null, .null, .int 0])), .inr (.inr (4, [.ref (n + 2), .int 0, .int 1048576])), .inl (256, fun _ => 0), .inr (.inr (4, [.ref (n + 4), .int 0, .int 65536])), .inl (32, fun _ => 0), .inr (.inr (4, [.ref (n + 6), .int 0, .int 65536])), .inl (32, fun _ => 0), .inr (.inr (4, [.ref (n + 8), .int 0, .int 65536])), .inl (32, fun _ => 0), .inr (.inr (4, [.ref (n + 10), .int 0, .int 256])), .inl (256, fun _ => 0)]) (by simp only [List.append_assoc, List.cons_append, List.nil_append, Nat.add_assoc, Nat.reduceAdd, Nat.add_zero]) ?_
  refine g_putE (q := 82) (hp' := hp ++ [.inr (.inr (1, [.ref (n + 1), .ref (n + 3), .ref (n + 5), .ref (n + 7), .ref (n + 9), .null, .null, .null, .int 0])), .inr (.inr (4, [.ref (n + 2), .int 0, .int 1048576])), .inl (256, fun _ => 0), .inr (.inr (4, [.ref (n + 4), .int 0, .int 65536])), .inl (32, fun _ => 0), .inr (.inr (4, [.ref (n + 6), .int 0, .int 65536])), .inl (32, fun _ => 0), .inr (.inr (4, [.ref (n + 8), .int 0, .int 65536])), .inl (32, fun _ => 0), .inr (.inr (4, [.ref (n + 10), .int 0, .int 256])), .inl (256, fun _ => 0)]) C fX1_31 dX1_init_79 rfl (gapp_new hn rfl) (Nat.le_of_ble_eq_true rfl) (Or.inr rfl) rfl rfl (by intro z h; cases h) rfl (gapp_set hn) ?_
  refine g_aload_n (q := 83) C dX1_init_82 rfl rfl ?_
  refine g_new (q := 86) (k := n + 11) C nX1_9 dX1_init_83 rfl (by rw [List.length_append, hn]; rfl) (Nat.le_of_ble_eq_true rfl) (Nat.le_of_ble_eq_true rfl) ?_
  refine g_heap (hp2 := hp ++ [.inr (.inr (1, [.ref (n + 1), .ref (n + 3), .ref (n + 5), .ref (n + 7), .ref (n + 9), .null, .null, .null, .int 0])), .inr (.inr (4, [.ref (n + 2), .int 0, .int 1048576])), .inl (256, fun _ => 0), .inr (.inr (4, [.ref (n + 4), .int 0, .int 65536])), .inl (32, fun _ => 0), .inr (.inr (4, [.ref (n + 6), .int 0, .int 65536])), .inl (32, fun _ => 0), .inr (.inr (4, [.ref (n + 8), .int 0, .int 65536])), .inl (32, fun _ => 0), .inr (.inr (4, [.ref (n + 10), .int 0, .int 256])), .inl (256, fun _ => 0), .inr (.inr (4, [.null, .int 0, .int 0]))]) (by simp only [List.append_assoc, List.cons_append, List.nil_append]) ?_
  refine g_dup (q := 87) C dX1_init_86 rfl rfl ?_
  refine g_bipush (v := 30) (q := 89) C dX1_init_87 (by decide) rfl ?_
  refine g_bipush (v := 30) (q := 91) C dX1_init_89 (by decide) rfl ?_
  refine g_heap (hp2 := (hp ++ [.inr (.inr (1, [.ref (n + 1), .ref (n + 3), .ref (n + 5), .ref (n + 7), .ref (n + 9), .null, .null, .null, .int 0])), .inr (.inr (4, [.ref (n + 2), .int 0, .int 1048576])), .inl (256, fun _ => 0), .inr (.inr (4, [.ref (n + 4), .int 0, .int 65536])), .inl (32, fun _ => 0), .inr (.inr (4, [.ref (n + 6), .int 0, .int 65536])), .inl (32, fun _ => 0), .inr (.inr (4, [.ref (n + 8), .int 0, .int 65536])), .inl (32, fun _ => 0), .inr (.inr (4, [.ref (n + 10), .int 0, .int 256])), .inl (256, fun _ => 0)]) ++ [.inr (.inr (4, [.null, .int 0, .int 0]))]) (by simp only [List.append_assoc, List.cons_append, List.nil_append]) ?_
  refine g_callIv (q := 94) (As := [.int 30, .int 30]) C gyX4_init giX4_init rfl t_153 (c_X4_init (n := n + 11) (N := 30) (first := 30) (by rw [List.length_append, hn]; rfl) (by decide) (by decide)) dX1_init_91 rfl rfl rfl (Nat.le_of_ble_eq_true rfl) (Nat.le_of_ble_eq_true rfl) (Nat.le_of_ble_eq_true rfl) (Nat.le_of_ble_eq_true rfl) (Nat.le_of_ble_eq_true rfl) rfl ?_
  refine g_heap (hp2 := hp ++ [.inr (.inr (1, [.ref (n + 1), .ref (n + 3), .ref (n + 5), .ref (n + 7), .ref (n + 9), .null, .null, .null, .int 0])), .inr (.inr (4, [.ref (n + 2), .int 0, .int 1048576])), .inl (256, fun _ => 0), .inr (.inr (4, [.ref (n + 4), .int 0, .int 65536])), .inl (32, fun _ => 0), .inr (.inr (4, [.ref (n + 6), .int 0, .int 65536])), .inl (32, fun _ => 0), .inr (.inr (4, [.ref (n + 8), .int 0, .int 65536])), .inl (32, fun _ => 0), .inr (.inr (4, [.ref (n + 10), .int 0, .int 256])), .inl (256, fun _ => 0), .inr (.inr (4, [.ref (n + 12), .int 0, .int 30])), .inl (30, fun _ => 0)]) (by simp only [List.append_assoc, List.cons_append, List.nil_append, Nat.add_assoc, Nat.reduceAdd, Nat.add_zero]) ?_
  refine g_putE (q := 97) (hp' := hp ++ [.inr (.inr (1, [.ref (n + 1), .ref (n + 3), .ref (n + 5), .ref (n + 7), .ref (n + 9), .ref (n + 11), .null, .null, .int 0])), .inr (.inr (4, [.ref (n + 2), .int 0, .int 1048576])), .inl (256, fun _ => 0), .inr (.inr (4, [.ref (n + 4), .int 0, .int 65536])), .inl (32, fun _ => 0), .inr (.inr (4, [.ref (n + 6), .int 0, .int 65536])), .inl (32, fun _ => 0), .inr (.inr (4, [.ref (n + 8), .int 0, .int 65536])), .inl (32, fun _ => 0), .inr (.inr (4, [.ref (n + 10), .int 0, .int 256])), .inl (256, fun _ => 0), .inr (.inr (4, [.ref (n + 12), .int 0, .int 30])), .inl (30, fun _ => 0)]) C fX1_34 dX1_init_94 rfl (gapp_new hn rfl) (Nat.le_of_ble_eq_true rfl) (Or.inr rfl) rfl rfl (by intro z h; cases h) rfl (gapp_set hn) ?_
  refine g_aload_n (q := 98) C dX1_init_97 rfl rfl ?_
  refine g_new (q := 101) (k := n + 13) C nX1_9 dX1_init_98 rfl (by rw [List.length_append, hn]; rfl) (Nat.le_of_ble_eq_true rfl) (Nat.le_of_ble_eq_true rfl) ?_
  refine g_heap (hp2 := hp ++ [.inr (.inr (1, [.ref (n + 1), .ref (n + 3), .ref (n + 5), .ref (n + 7), .ref (n + 9), .ref (n + 11), .null, .null, .int 0])), .inr (.inr (4, [.ref (n + 2), .int 0, .int 1048576])), .inl (256, fun _ => 0), .inr (.inr (4, [.ref (n + 4), .int 0, .int 65536])), .inl (32, fun _ => 0), .inr (.inr (4, [.ref (n + 6), .int 0, .int 65536])), .inl (32, fun _ => 0), .inr (.inr (4, [.ref (n + 8), .int 0, .int 65536])), .inl (32, fun _ => 0), .inr (.inr (4, [.ref (n + 10), .int 0, .int 256])), .inl (256, fun _ => 0), .inr (.inr (4, [.ref (n + 12), .int 0, .int 30])), .inl (30, fun _ => 0), .inr (.inr (4, [.null, .int 0, .int 0]))]) (by simp only [List.append_assoc, List.cons_append, List.nil_append]) ?_
  refine g_dup (q := 102) C dX1_init_101 rfl rfl ?_
  refine g_bipush (v := 30) (q := 104) C dX1_init_102 (by decide) rfl ?_
  refine g_bipush (v := 30) (q := 106) C dX1_init_104 (by decide) rfl ?_
  refine g_heap (hp2 := (hp ++ [.inr (.inr (1, [.ref (n + 1), .ref (n + 3), .ref (n + 5), .ref (n + 7), .ref (n + 9), .ref (n + 11), .null, .null, .int 0])), .inr (.inr (4, [.ref (n + 2), .int 0, .int 1048576])), .inl (256, fun _ => 0), .inr (.inr (4, [.ref (n + 4), .int 0, .int 65536])), .inl (32, fun _ => 0), .inr (.inr (4, [.ref (n + 6), .int 0, .int 65536])), .inl (32, fun _ => 0), .inr (.inr (4, [.ref (n + 8), .int 0, .int 65536])), .inl (32, fun _ => 0), .inr (.inr (4, [.ref (n + 10), .int 0, .int 256])), .inl (256, fun _ => 0), .inr (.inr (4, [.ref (n + 12), .int 0, .int 30])), .inl (30, fun _ => 0)]) ++ [.inr (.inr (4, [.null, .int 0, .int 0]))]) (by simp only [List.append_assoc, List.cons_append, List.nil_append]) ?_
  refine g_callIv (q := 109) (As := [.int 30, .int 30]) C gyX4_init giX4_init rfl t_153 (c_X4_init (n := n + 13) (N := 30) (first := 30) (by rw [List.length_append, hn]; rfl) (by decide) (by decide)) dX1_init_106 rfl rfl rfl (Nat.le_of_ble_eq_true rfl) (Nat.le_of_ble_eq_true rfl) (Nat.le_of_ble_eq_true rfl) (Nat.le_of_ble_eq_true rfl) (Nat.le_of_ble_eq_true rfl) rfl ?_
  refine g_heap (hp2 := hp ++ [.inr (.inr (1, [.ref (n + 1), .ref (n + 3), .ref (n + 5), .ref (n + 7), .ref (n + 9), .ref (n + 11), .null, .null, .int 0])), .inr (.inr (4, [.ref (n + 2), .int 0, .int 1048576])), .inl (256, fun _ => 0), .inr (.inr (4, [.ref (n + 4), .int 0, .int 65536])), .inl (32, fun _ => 0), .inr (.inr (4, [.ref (n + 6), .int 0, .int 65536])), .inl (32, fun _ => 0), .inr (.inr (4, [.ref (n + 8), .int 0, .int 65536])), .inl (32, fun _ => 0), .inr (.inr (4, [.ref (n + 10), .int 0, .int 256])), .inl (256, fun _ => 0), .inr (.inr (4, [.ref (n + 12), .int 0, .int 30])), .inl (30, fun _ => 0), .inr (.inr (4, [.ref (n + 14), .int 0, .int 30])), .inl (30, fun _ => 0)]) (by simp only [List.append_assoc, List.cons_append, List.nil_append, Nat.add_assoc, Nat.reduceAdd, Nat.add_zero]) ?_
  refine g_putE (q := 112) (hp' := hp ++ [.inr (.inr (1, [.ref (n + 1), .ref (n + 3), .ref (n + 5), .ref (n + 7), .ref (n + 9), .ref (n + 11), .ref (n + 13), .null, .int 0])), .inr (.inr (4, [.ref (n + 2), .int 0, .int 1048576])), .inl (256, fun _ => 0), .inr (.inr (4, [.ref (n + 4), .int 0, .int 65536])), .inl (32, fun _ => 0), .inr (.inr (4, [.ref (n + 6), .int 0, .int 65536])), .inl (32, fun _ => 0), .inr (.inr (4, [.ref (n + 8), .int 0, .int 65536])), .inl (32, fun _ => 0), .inr (.inr (4, [.ref (n + 10), .int 0, .int 256])), .inl (256, fun _ => 0), .inr (.inr (4, [.ref (n + 12), .int 0, .int 30])), .inl (30, fun _ => 0), .inr (.inr (4, [.ref (n + 14), .int 0, .int 30])), .inl (30, fun _ => 0)]) C fX1_37 dX1_init_109 rfl (gapp_new hn rfl) (Nat.le_of_ble_eq_true rfl) (Or.inr rfl) rfl rfl (by intro z h; cases h) rfl (gapp_set hn) ?_
  refine g_aload_n (q := 113) C dX1_init_112 rfl rfl ?_
  refine g_new (q := 116) (k := n + 15) C nX1_9 dX1_init_113 rfl (by rw [List.length_append, hn]; rfl) (Nat.le_of_ble_eq_true rfl) (Nat.le_of_ble_eq_true rfl) ?_
  refine g_heap (hp2 := hp ++ [.inr (.inr (1, [.ref (n + 1), .ref (n + 3), .ref (n + 5), .ref (n + 7), .ref (n + 9), .ref (n + 11), .ref (n + 13), .null, .int 0])), .inr (.inr (4, [.ref (n + 2), .int 0, .int 1048576])), .inl (256, fun _ => 0), .inr (.inr (4, [.ref (n + 4), .int 0, .int 65536])), .inl (32, fun _ => 0), .inr (.inr (4, [.ref (n + 6), .int 0, .int 65536])), .inl (32, fun _ => 0), .inr (.inr (4, [.ref (n + 8), .int 0, .int 65536])), .inl (32, fun _ => 0), .inr (.inr (4, [.ref (n + 10), .int 0, .int 256])), .inl (256, fun _ => 0), .inr (.inr (4, [.ref (n + 12), .int 0, .int 30])), .inl (30, fun _ => 0), .inr (.inr (4, [.ref (n + 14), .int 0, .int 30])), .inl (30, fun _ => 0), .inr (.inr (4, [.null, .int 0, .int 0]))]) (by simp only [List.append_assoc, List.cons_append, List.nil_append]) ?_
  refine g_dup (q := 117) C dX1_init_116 rfl rfl ?_
  refine g_bipush (v := 30) (q := 119) C dX1_init_117 (by decide) rfl ?_
  refine g_bipush (v := 30) (q := 121) C dX1_init_119 (by decide) rfl ?_
  refine g_heap (hp2 := (hp ++ [.inr (.inr (1, [.ref (n + 1), .ref (n + 3), .ref (n + 5), .ref (n + 7), .ref (n + 9), .ref (n + 11), .ref (n + 13), .null, .int 0])), .inr (.inr (4, [.ref (n + 2), .int 0, .int 1048576])), .inl (256, fun _ => 0), .inr (.inr (4, [.ref (n + 4), .int 0, .int 65536])), .inl (32, fun _ => 0), .inr (.inr (4, [.ref (n + 6), .int 0, .int 65536])), .inl (32, fun _ => 0), .inr (.inr (4, [.ref (n + 8), .int 0, .int 65536])), .inl (32, fun _ => 0), .inr (.inr (4, [.ref (n + 10), .int 0, .int 256])), .inl (256, fun _ => 0), .inr (.inr (4, [.ref (n + 12), .int 0, .int 30])), .inl (30, fun _ => 0), .inr (.inr (4, [.ref (n + 14), .int 0, .int 30])), .inl (30, fun _ => 0)]) ++ [.inr (.inr (4, [.null, .int 0, .int 0]))]) (by simp only [List.append_assoc, List.cons_append, List.nil_append]) ?_
  refine g_callIv (q := 124) (As := [.int 30, .int 30]) C gyX4_init giX4_init rfl t_153 (c_X4_init (n := n + 15) (N := 30) (first := 30) (by rw [List.length_append, hn]; rfl) (by decide) (by decide)) dX1_init_121 rfl rfl rfl (Nat.le_of_ble_eq_true rfl) (Nat.le_of_ble_eq_true rfl) (Nat.le_of_ble_eq_true rfl) (Nat.le_of_ble_eq_true rfl) (Nat.le_of_ble_eq_true rfl) rfl ?_
  refine g_heap (hp2 := hp ++ [.inr (.inr (1, [.ref (n + 1), .ref (n + 3), .ref (n + 5), .ref (n + 7), .ref (n + 9), .ref (n + 11), .ref (n + 13), .null, .int 0])), .inr (.inr (4, [.ref (n + 2), .int 0, .int 1048576])), .inl (256, fun _ => 0), .inr (.inr (4, [.ref (n + 4), .int 0, .int 65536])), .inl (32, fun _ => 0), .inr (.inr (4, [.ref (n + 6), .int 0, .int 65536])), .inl (32, fun _ => 0), .inr (.inr (4, [.ref (n + 8), .int 0, .int 65536])), .inl (32, fun _ => 0), .inr (.inr (4, [.ref (n + 10), .int 0, .int 256])), .inl (256, fun _ => 0), .inr (.inr (4, [.ref (n + 12), .int 0, .int 30])), .inl (30, fun _ => 0), .inr (.inr (4, [.ref (n + 14), .int 0, .int 30])), .inl (30, fun _ => 0), .inr (.inr (4, [.ref (n + 16), .int 0, .int 30])), .inl (30, fun _ => 0)]) (by simp only [List.append_assoc, List.cons_append, List.nil_append, Nat.add_assoc, Nat.reduceAdd, Nat.add_zero]) ?_
  refine g_putE (q := 127) (hp' := hp ++ [.inr (.inr (1, [.ref (n + 1), .ref (n + 3), .ref (n + 5), .ref (n + 7), .ref (n + 9), .ref (n + 11), .ref (n + 13), .ref (n + 15), .int 0])), .inr (.inr (4, [.ref (n + 2), .int 0, .int 1048576])), .inl (256, fun _ => 0), .inr (.inr (4, [.ref (n + 4), .int 0, .int 65536])), .inl (32, fun _ => 0), .inr (.inr (4, [.ref (n + 6), .int 0, .int 65536])), .inl (32, fun _ => 0), .inr (.inr (4, [.ref (n + 8), .int 0, .int 65536])), .inl (32, fun _ => 0), .inr (.inr (4, [.ref (n + 10), .int 0, .int 256])), .inl (256, fun _ => 0), .inr (.inr (4, [.ref (n + 12), .int 0, .int 30])), .inl (30, fun _ => 0), .inr (.inr (4, [.ref (n + 14), .int 0, .int 30])), .inl (30, fun _ => 0), .inr (.inr (4, [.ref (n + 16), .int 0, .int 30])), .inl (30, fun _ => 0)]) C fX1_40 dX1_init_124 rfl (gapp_new hn rfl) (Nat.le_of_ble_eq_true rfl) (Or.inr rfl) rfl rfl (by intro z h; cases h) rfl (gapp_set hn) ?_
  refine g_aload_n (q := 128) C dX1_init_127 rfl rfl ?_
  refine g_iconst (v := (-1)) (q := 129) C dX1_init_128 (by decide) rfl ?_
  refine g_putE (q := 132) (hp' := hp ++ [.inr (.inr (1, [.ref (n + 1), .ref (n + 3), .ref (n + 5), .ref (n + 7), .ref (n + 9), .ref (n + 11), .ref (n + 13), .ref (n + 15), .int ((-1))])), .inr (.inr (4, [.ref (n + 2), .int 0, .int 1048576])), .inl (256, fun _ => 0), .inr (.inr (4, [.ref (n + 4), .int 0, .int 65536])), .inl (32, fun _ => 0), .inr (.inr (4, [.ref (n + 6), .int 0, .int 65536])), .inl (32, fun _ => 0), .inr (.inr (4, [.ref (n + 8), .int 0, .int 65536])), .inl (32, fun _ => 0), .inr (.inr (4, [.ref (n + 10), .int 0, .int 256])), .inl (256, fun _ => 0), .inr (.inr (4, [.ref (n + 12), .int 0, .int 30])), .inl (30, fun _ => 0), .inr (.inr (4, [.ref (n + 14), .int 0, .int 30])), .inl (30, fun _ => 0), .inr (.inr (4, [.ref (n + 16), .int 0, .int 30])), .inl (30, fun _ => 0)]) C fX1_43 dX1_init_129 rfl (gapp_new hn rfl) (Nat.le_of_ble_eq_true rfl) (Or.inl rfl) rfl rfl (by intro z h; cases h) rfl (gapp_set hn) ?_
  exact E.2.1 _ _ _ _ _ dX1_init_132 rfl (Nat.le_of_ble_eq_true rfl) (Nat.le_of_ble_eq_true rfl) ⟨rfl, rfl⟩
theorem dX6_init_0 : decode cX6_init 0 = .ok (.aload_n 0, 1) := by decide +kernel
theorem dX6_init_1 : decode cX6_init 1 = .ok (.invokespecial 3, 3) := by decide +kernel
theorem dX6_init_4 : decode cX6_init 4 = .ok (.aload_n 0, 1) := by decide +kernel
theorem dX6_init_5 : decode cX6_init 5 = .ok (.iconst 1, 1) := by decide +kernel
theorem dX6_init_6 : decode cX6_init 6 = .ok (.putfield 9, 3) := by decide +kernel
theorem dX6_init_9 : decode cX6_init 9 = .ok (.aload_n 0, 1) := by decide +kernel
theorem dX6_init_10 : decode cX6_init 10 = .ok (.iconst 0, 1) := by decide +kernel
theorem dX6_init_11 : decode cX6_init 11 = .ok (.putfield 15, 3) := by decide +kernel
theorem dX6_init_14 : decode cX6_init 14 = .ok (.aload_n 0, 1) := by decide +kernel
theorem dX6_init_15 : decode cX6_init 15 = .ok (.iconst 0, 1) := by decide +kernel
theorem dX6_init_16 : decode cX6_init 16 = .ok (.putfield 18, 3) := by decide +kernel
theorem dX6_init_19 : decode cX6_init 19 = .ok (.aload_n 0, 1) := by decide +kernel
theorem dX6_init_20 : decode cX6_init 20 = .ok (.bipush 24, 2) := by decide +kernel
theorem dX6_init_22 : decode cX6_init 22 = .ok (.newarray .int, 2) := by decide +kernel
theorem dX6_init_24 : decode cX6_init 24 = .ok (.putfield 21, 3) := by decide +kernel
theorem dX6_init_27 : decode cX6_init 27 = .ok (.aload_n 0, 1) := by decide +kernel
theorem dX6_init_28 : decode cX6_init 28 = .ok (.bipush 24, 2) := by decide +kernel
theorem dX6_init_30 : decode cX6_init 30 = .ok (.newarray .int, 2) := by decide +kernel
theorem dX6_init_32 : decode cX6_init 32 = .ok (.putfield 25, 3) := by decide +kernel
theorem dX6_init_35 : decode cX6_init 35 = .ok (.aload_n 0, 1) := by decide +kernel
theorem dX6_init_36 : decode cX6_init 36 = .ok (.bipush 24, 2) := by decide +kernel
theorem dX6_init_38 : decode cX6_init 38 = .ok (.newarray .int, 2) := by decide +kernel
theorem dX6_init_40 : decode cX6_init 40 = .ok (.putfield 28, 3) := by decide +kernel
theorem dX6_init_43 : decode cX6_init 43 = .ok (.aload_n 0, 1) := by decide +kernel
theorem dX6_init_44 : decode cX6_init 44 = .ok (.iconst 0, 1) := by decide +kernel
theorem dX6_init_45 : decode cX6_init 45 = .ok (.putfield 31, 3) := by decide +kernel
theorem dX6_init_48 : decode cX6_init 48 = .ok (.aload_n 0, 1) := by decide +kernel
theorem dX6_init_49 : decode cX6_init 49 = .ok (.iconst (-1), 1) := by decide +kernel
theorem dX6_init_50 : decode cX6_init 50 = .ok (.putfield 34, 3) := by decide +kernel
theorem dX6_init_53 : decode cX6_init 53 = .ok (.aload_n 0, 1) := by decide +kernel
theorem dX6_init_54 : decode cX6_init 54 = .ok (.iconst 0, 1) := by decide +kernel
theorem dX6_init_55 : decode cX6_init 55 = .ok (.putfield 37, 3) := by decide +kernel
theorem dX6_init_58 : decode cX6_init 58 = .ok (.aload_n 0, 1) := by decide +kernel
theorem dX6_init_59 : decode cX6_init 59 = .ok (.iconst 0, 1) := by decide +kernel
theorem dX6_init_60 : decode cX6_init 60 = .ok (.putfield 40, 3) := by decide +kernel
theorem dX6_init_63 : decode cX6_init 63 = .ok (.return_, 1) := by decide +kernel
set_option maxRecDepth 100000 in
set_option maxHeartbeats 4000000 in
theorem c_X6_init {hp : List gA} {n : Nat}  (hn : hp.length = n) : gM yX6_init cX6_init 1 (none) 1 20 [.ref (n + 0)] (hp ++ [.inr (.inr (6, [.int 0, .int 0, .int 0, .null, .null, .null, .int 0, .int 0, .int 0, .int 0]))]) (3) (72) (fun v h => v = none ∧ h = hp ++ [.inr (.inr (6, [.int 1, .int 0, .int 0, .ref (n + 1), .ref (n + 2), .ref (n + 3), .int 0, .int ((-1)), .int 0, .int 0])), .inl (24, fun _ => 0), .inl (24, fun _ => 0), .inl (24, fun _ => 0)]) := by
  refine gM_of (ls0 := [some (.ref (n + 0))]) (by decide +kernel) (Nat.le_of_ble_eq_true rfl) rfl fun X C E => ?_
  refine g_aload_n (q := 1) C dX6_init_0 rfl rfl ?_
  refine g_objInit (q := 4) C t_260 t_123 t_124 dX6_init_1 rfl rfl (Nat.le_of_ble_eq_true rfl) (Nat.le_of_ble_eq_true rfl) ?_
  refine g_aload_n (q := 5) C dX6_init_4 rfl rfl ?_
  refine g_iconst (v := 1) (q := 6) C dX6_init_5 (by decide) rfl ?_
  refine g_putE (q := 9) (hp' := hp ++ [.inr (.inr (6, [.int 1, .int 0, .int 0, .null, .null, .null, .int 0, .int 0, .int 0, .int 0]))]) C fX6_9 dX6_init_6 rfl (gapp_new hn rfl) (Nat.le_of_ble_eq_true rfl) (Or.inl rfl) rfl rfl (by intro z h; cases h) rfl (gapp_set hn) ?_
  refine g_aload_n (q := 10) C dX6_init_9 rfl rfl ?_
  refine g_iconst (v := 0) (q := 11) C dX6_init_10 (by decide) rfl ?_
  refine g_putE (q := 14) (hp' := hp ++ [.inr (.inr (6, [.int 1, .int 0, .int 0, .null, .null, .null, .int 0, .int 0, .int 0, .int 0]))]) C fX6_15 dX6_init_11 rfl (gapp_new hn rfl) (Nat.le_of_ble_eq_true rfl) (Or.inl rfl) rfl rfl (by intro z h; cases h) rfl (gapp_set hn) ?_
  refine g_aload_n (q := 15) C dX6_init_14 rfl rfl ?_
  refine g_iconst (v := 0) (q := 16) C dX6_init_15 (by decide) rfl ?_
  refine g_putE (q := 19) (hp' := hp ++ [.inr (.inr (6, [.int 1, .int 0, .int 0, .null, .null, .null, .int 0, .int 0, .int 0, .int 0]))]) C fX6_18 dX6_init_16 rfl (gapp_new hn rfl) (Nat.le_of_ble_eq_true rfl) (Or.inl rfl) rfl rfl (by intro z h; cases h) rfl (gapp_set hn) ?_
  refine g_aload_n (q := 20) C dX6_init_19 rfl rfl ?_
  refine g_bipush (v := 24) (q := 22) C dX6_init_20 (by decide) rfl ?_
  refine g_newarray (q := 24) (k := n + 1) (N := 24) C t_144 dX6_init_22 rfl (by rw [List.length_append, hn]; rfl) (by decide) (by decide) (by decide) (Nat.le_of_ble_eq_true rfl) (Nat.le_of_ble_eq_true rfl) ?_
  refine g_heap (hp2 := hp ++ [.inr (.inr (6, [.int 1, .int 0, .int 0, .null, .null, .null, .int 0, .int 0, .int 0, .int 0])), .inl (24, fun _ => 0)]) (by simp only [List.append_assoc, List.cons_append, List.nil_append]) ?_
  refine g_putE (q := 27) (hp' := hp ++ [.inr (.inr (6, [.int 1, .int 0, .int 0, .ref (n + 1), .null, .null, .int 0, .int 0, .int 0, .int 0])), .inl (24, fun _ => 0)]) C fX6_21 dX6_init_24 rfl (gapp_new hn rfl) (Nat.le_of_ble_eq_true rfl) (Or.inr rfl) rfl rfl (by intro z h; cases h) rfl (gapp_set hn) ?_
  refine g_aload_n (q := 28) C dX6_init_27 rfl rfl ?_
  refine g_bipush (v := 24) (q := 30) C dX6_init_28 (by decide) rfl ?_
  refine g_newarray (q := 32) (k := n + 2) (N := 24) C t_144 dX6_init_30 rfl (by rw [List.length_append, hn]; rfl) (by decide) (by decide) (by decide) (Nat.le_of_ble_eq_true rfl) (Nat.le_of_ble_eq_true rfl) ?_
  refine g_heap (hp2 := hp ++ [.inr (.inr (6, [.int 1, .int 0, .int 0, .ref (n + 1), .null, .null, .int 0, .int 0, .int 0, .int 0])), .inl (24, fun _ => 0), .inl (24, fun _ => 0)]) (by simp only [List.append_assoc, List.cons_append, List.nil_append]) ?_
  refine g_putE (q := 35) (hp' := hp ++ [.inr (.inr (6, [.int 1, .int 0, .int 0, .ref (n + 1), .ref (n + 2), .null, .int 0, .int 0, .int 0, .int 0])), .inl (24, fun _ => 0), .inl (24, fun _ => 0)]) C fX6_25 dX6_init_32 rfl (gapp_new hn rfl) (Nat.le_of_ble_eq_true rfl) (Or.inr rfl) rfl rfl (by intro z h; cases h) rfl (gapp_set hn) ?_
  refine g_aload_n (q := 36) C dX6_init_35 rfl rfl ?_
  refine g_bipush (v := 24) (q := 38) C dX6_init_36 (by decide) rfl ?_
  refine g_newarray (q := 40) (k := n + 3) (N := 24) C t_144 dX6_init_38 rfl (by rw [List.length_append, hn]; rfl) (by decide) (by decide) (by decide) (Nat.le_of_ble_eq_true rfl) (Nat.le_of_ble_eq_true rfl) ?_
  refine g_heap (hp2 := hp ++ [.inr (.inr (6, [.int 1, .int 0, .int 0, .ref (n + 1), .ref (n + 2), .null, .int 0, .int 0, .int 0, .int 0])), .inl (24, fun _ => 0), .inl (24, fun _ => 0), .inl (24, fun _ => 0)]) (by simp only [List.append_assoc, List.cons_append, List.nil_append]) ?_
  refine g_putE (q := 43) (hp' := hp ++ [.inr (.inr (6, [.int 1, .int 0, .int 0, .ref (n + 1), .ref (n + 2), .ref (n + 3), .int 0, .int 0, .int 0, .int 0])), .inl (24, fun _ => 0), .inl (24, fun _ => 0), .inl (24, fun _ => 0)]) C fX6_28 dX6_init_40 rfl (gapp_new hn rfl) (Nat.le_of_ble_eq_true rfl) (Or.inr rfl) rfl rfl (by intro z h; cases h) rfl (gapp_set hn) ?_
  refine g_aload_n (q := 44) C dX6_init_43 rfl rfl ?_
  refine g_iconst (v := 0) (q := 45) C dX6_init_44 (by decide) rfl ?_
  refine g_putE (q := 48) (hp' := hp ++ [.inr (.inr (6, [.int 1, .int 0, .int 0, .ref (n + 1), .ref (n + 2), .ref (n + 3), .int 0, .int 0, .int 0, .int 0])), .inl (24, fun _ => 0), .inl (24, fun _ => 0), .inl (24, fun _ => 0)]) C fX6_31 dX6_init_45 rfl (gapp_new hn rfl) (Nat.le_of_ble_eq_true rfl) (Or.inl rfl) rfl rfl (by intro z h; cases h) rfl (gapp_set hn) ?_
  refine g_aload_n (q := 49) C dX6_init_48 rfl rfl ?_
  refine g_iconst (v := (-1)) (q := 50) C dX6_init_49 (by decide) rfl ?_
  refine g_putE (q := 53) (hp' := hp ++ [.inr (.inr (6, [.int 1, .int 0, .int 0, .ref (n + 1), .ref (n + 2), .ref (n + 3), .int 0, .int ((-1)), .int 0, .int 0])), .inl (24, fun _ => 0), .inl (24, fun _ => 0), .inl (24, fun _ => 0)]) C fX6_34 dX6_init_50 rfl (gapp_new hn rfl) (Nat.le_of_ble_eq_true rfl) (Or.inl rfl) rfl rfl (by intro z h; cases h) rfl (gapp_set hn) ?_
  refine g_aload_n (q := 54) C dX6_init_53 rfl rfl ?_
  refine g_iconst (v := 0) (q := 55) C dX6_init_54 (by decide) rfl ?_
  refine g_putE (q := 58) (hp' := hp ++ [.inr (.inr (6, [.int 1, .int 0, .int 0, .ref (n + 1), .ref (n + 2), .ref (n + 3), .int 0, .int ((-1)), .int 0, .int 0])), .inl (24, fun _ => 0), .inl (24, fun _ => 0), .inl (24, fun _ => 0)]) C fX6_37 dX6_init_55 rfl (gapp_new hn rfl) (Nat.le_of_ble_eq_true rfl) (Or.inl rfl) rfl rfl (by intro z h; cases h) rfl (gapp_set hn) ?_
  refine g_aload_n (q := 59) C dX6_init_58 rfl rfl ?_
  refine g_iconst (v := 0) (q := 60) C dX6_init_59 (by decide) rfl ?_
  refine g_putE (q := 63) (hp' := hp ++ [.inr (.inr (6, [.int 1, .int 0, .int 0, .ref (n + 1), .ref (n + 2), .ref (n + 3), .int 0, .int ((-1)), .int 0, .int 0])), .inl (24, fun _ => 0), .inl (24, fun _ => 0), .inl (24, fun _ => 0)]) C fX6_40 dX6_init_60 rfl (gapp_new hn rfl) (Nat.le_of_ble_eq_true rfl) (Or.inl rfl) rfl rfl (by intro z h; cases h) rfl (gapp_set hn) ?_
  exact E.2.1 _ _ _ _ _ dX6_init_63 rfl (Nat.le_of_ble_eq_true rfl) (Nat.le_of_ble_eq_true rfl) ⟨rfl, rfl⟩
theorem dX5_init_0 : decode cX5_init 0 = .ok (.aload_n 0, 1) := by decide +kernel
theorem dX5_init_1 : decode cX5_init 1 = .ok (.invokespecial 3, 3) := by decide +kernel
theorem dX5_init_4 : decode cX5_init 4 = .ok (.aload_n 0, 1) := by decide +kernel
theorem dX5_init_5 : decode cX5_init 5 = .ok (.iconst 0, 1) := by decide +kernel
theorem dX5_init_6 : decode cX5_init 6 = .ok (.putfield 9, 3) := by decide +kernel
theorem dX5_init_9 : decode cX5_init 9 = .ok (.aload_n 0, 1) := by decide +kernel
theorem dX5_init_10 : decode cX5_init 10 = .ok (.iconst 0, 1) := by decide +kernel
theorem dX5_init_11 : decode cX5_init 11 = .ok (.putfield 15, 3) := by decide +kernel
theorem dX5_init_14 : decode cX5_init 14 = .ok (.aload_n 0, 1) := by decide +kernel
theorem dX5_init_15 : decode cX5_init 15 = .ok (.bipush 32, 2) := by decide +kernel
theorem dX5_init_17 : decode cX5_init 17 = .ok (.putfield 18, 3) := by decide +kernel
theorem dX5_init_20 : decode cX5_init 20 = .ok (.aload_n 0, 1) := by decide +kernel
theorem dX5_init_21 : decode cX5_init 21 = .ok (.iconst 0, 1) := by decide +kernel
theorem dX5_init_22 : decode cX5_init 22 = .ok (.putfield 21, 3) := by decide +kernel
theorem dX5_init_25 : decode cX5_init 25 = .ok (.aload_n 0, 1) := by decide +kernel
theorem dX5_init_26 : decode cX5_init 26 = .ok (.iconst (-1), 1) := by decide +kernel
theorem dX5_init_27 : decode cX5_init 27 = .ok (.putfield 24, 3) := by decide +kernel
theorem dX5_init_30 : decode cX5_init 30 = .ok (.aload_n 0, 1) := by decide +kernel
theorem dX5_init_31 : decode cX5_init 31 = .ok (.iconst 0, 1) := by decide +kernel
theorem dX5_init_32 : decode cX5_init 32 = .ok (.putfield 27, 3) := by decide +kernel
theorem dX5_init_35 : decode cX5_init 35 = .ok (.aload_n 0, 1) := by decide +kernel
theorem dX5_init_36 : decode cX5_init 36 = .ok (.iconst 0, 1) := by decide +kernel
theorem dX5_init_37 : decode cX5_init 37 = .ok (.putfield 30, 3) := by decide +kernel
theorem dX5_init_40 : decode cX5_init 40 = .ok (.aload_n 0, 1) := by decide +kernel
theorem dX5_init_41 : decode cX5_init 41 = .ok (.new 33, 3) := by decide +kernel
theorem dX5_init_44 : decode cX5_init 44 = .ok (.dup, 1) := by decide +kernel
theorem dX5_init_45 : decode cX5_init 45 = .ok (.bipush 60, 2) := by decide +kernel
theorem dX5_init_47 : decode cX5_init 47 = .ok (.bipush 60, 2) := by decide +kernel
theorem dX5_init_49 : decode cX5_init 49 = .ok (.invokespecial 35, 3) := by decide +kernel
theorem dX5_init_52 : decode cX5_init 52 = .ok (.putfield 38, 3) := by decide +kernel
theorem dX5_init_55 : decode cX5_init 55 = .ok (.aload_n 0, 1) := by decide +kernel
theorem dX5_init_56 : decode cX5_init 56 = .ok (.new 33, 3) := by decide +kernel
theorem dX5_init_59 : decode cX5_init 59 = .ok (.dup, 1) := by decide +kernel
theorem dX5_init_60 : decode cX5_init 60 = .ok (.bipush 60, 2) := by decide +kernel
theorem dX5_init_62 : decode cX5_init 62 = .ok (.bipush 60, 2) := by decide +kernel
theorem dX5_init_64 : decode cX5_init 64 = .ok (.invokespecial 35, 3) := by decide +kernel
theorem dX5_init_67 : decode cX5_init 67 = .ok (.putfield 42, 3) := by decide +kernel
theorem dX5_init_70 : decode cX5_init 70 = .ok (.aload_n 0, 1) := by decide +kernel
theorem dX5_init_71 : decode cX5_init 71 = .ok (.new 33, 3) := by decide +kernel
theorem dX5_init_74 : decode cX5_init 74 = .ok (.dup, 1) := by decide +kernel
theorem dX5_init_75 : decode cX5_init 75 = .ok (.bipush 60, 2) := by decide +kernel
theorem dX5_init_77 : decode cX5_init 77 = .ok (.bipush 60, 2) := by decide +kernel
theorem dX5_init_79 : decode cX5_init 79 = .ok (.invokespecial 35, 3) := by decide +kernel
theorem dX5_init_82 : decode cX5_init 82 = .ok (.putfield 45, 3) := by decide +kernel
theorem dX5_init_85 : decode cX5_init 85 = .ok (.aload_n 0, 1) := by decide +kernel
theorem dX5_init_86 : decode cX5_init 86 = .ok (.iconst (-1), 1) := by decide +kernel
theorem dX5_init_87 : decode cX5_init 87 = .ok (.putfield 48, 3) := by decide +kernel
theorem dX5_init_90 : decode cX5_init 90 = .ok (.aload_n 0, 1) := by decide +kernel
theorem dX5_init_91 : decode cX5_init 91 = .ok (.iconst 0, 1) := by decide +kernel
theorem dX5_init_92 : decode cX5_init 92 = .ok (.putfield 51, 3) := by decide +kernel
theorem dX5_init_95 : decode cX5_init 95 = .ok (.aload_n 0, 1) := by decide +kernel
theorem dX5_init_96 : decode cX5_init 96 = .ok (.iconst (-1), 1) := by decide +kernel
theorem dX5_init_97 : decode cX5_init 97 = .ok (.putfield 55, 3) := by decide +kernel
theorem dX5_init_100 : decode cX5_init 100 = .ok (.aload_n 0, 1) := by decide +kernel
theorem dX5_init_101 : decode cX5_init 101 = .ok (.iconst 0, 1) := by decide +kernel
theorem dX5_init_102 : decode cX5_init 102 = .ok (.putfield 58, 3) := by decide +kernel
theorem dX5_init_105 : decode cX5_init 105 = .ok (.aload_n 0, 1) := by decide +kernel
theorem dX5_init_106 : decode cX5_init 106 = .ok (.iload_n 1, 1) := by decide +kernel
theorem dX5_init_107 : decode cX5_init 107 = .ok (.putfield 61, 3) := by decide +kernel
theorem dX5_init_110 : decode cX5_init 110 = .ok (.return_, 1) := by decide +kernel
set_option maxRecDepth 100000 in
set_option maxHeartbeats 4000000 in
theorem c_X5_init {hp : List gA} {n : Nat} {num : Int32} (hn : hp.length = n) : gM yX5_init cX5_init 2 (none) 2 43 [.ref (n + 0), .int num] (hp ++ [.inr (.inr (5, [.int 0, .int 0, .int 0, .int 0, .int 0, .int 0, .int 0, .int 0, .null, .null, .null, .int 0, .int 0, .int 0, .int 0]))]) (6) (189) (fun v h => v = none ∧ h = hp ++ [.inr (.inr (5, [.int num, .int 0, .int 0, .int 32, .int 0, .int ((-1)), .int 0, .int 0, .ref (n + 1), .ref (n + 3), .ref (n + 5), .int ((-1)), .int 0, .int ((-1)), .int 0])), .inr (.inr (4, [.ref (n + 2), .int 0, .int 60])), .inl (60, fun _ => 0), .inr (.inr (4, [.ref (n + 4), .int 0, .int 60])), .inl (60, fun _ => 0), .inr (.inr (4, [.ref (n + 6), .int 0, .int 60])), .inl (60, fun _ => 0)]) := by
  refine gM_of (ls0 := [some (.ref (n + 0)), some (.int num)]) (by decide +kernel) (Nat.le_of_ble_eq_true rfl) rfl fun X C E => ?_
  refine g_aload_n (q := 1) C dX5_init_0 rfl rfl ?_
  refine g_objInit (q := 4) C t_194 t_123 t_124 dX5_init_1 rfl rfl (Nat.le_of_ble_eq_true rfl) (Nat.le_of_ble_eq_true rfl) ?_
  refine g_aload_n (q := 5) C dX5_init_4 rfl rfl ?_
  refine g_iconst (v := 0) (q := 6) C dX5_init_5 (by decide) rfl ?_
  refine g_putE (q := 9) (hp' := hp ++ [.inr (.inr (5, [.int 0, .int 0, .int 0, .int 0, .int 0, .int 0, .int 0, .int 0, .null, .null, .null, .int 0, .int 0, .int 0, .int 0]))]) C fX5_9 dX5_init_6 rfl (gapp_new hn rfl) (Nat.le_of_ble_eq_true rfl) (Or.inl rfl) rfl rfl (by intro z h; cases h) rfl (gapp_set hn) ?_
  refine g_aload_n (q := 10) C dX5_init_9 rfl rfl ?_
  refine g_iconst (v := 0) (q := 11) C dX5_init_10 (by decide) rfl ?_
  refine g_putE (q := 14) (hp' := hp ++ [.inr (.inr (5, [.int 0, .int 0, .int 0, .int 0, .int 0, .int 0, .int 0, .int 0, .null, .null, .null, .int 0, .int 0, .int 0, .int 0]))]) C fX5_15 dX5_init_11 rfl (gapp_new hn rfl) (Nat.le_of_ble_eq_true rfl) (Or.inl rfl) rfl rfl (by intro z h; cases h) rfl (gapp_set hn) ?_
  refine g_aload_n (q := 15) C dX5_init_14 rfl rfl ?_
  refine g_bipush (v := 32) (q := 17) C dX5_init_15 (by decide) rfl ?_
  refine g_putE (q := 20) (hp' := hp ++ [.inr (.inr (5, [.int 0, .int 0, .int 0, .int 32, .int 0, .int 0, .int 0, .int 0, .null, .null, .null, .int 0, .int 0, .int 0, .int 0]))]) C fX5_18 dX5_init_17 rfl (gapp_new hn rfl) (Nat.le_of_ble_eq_true rfl) (Or.inl rfl) rfl rfl (by intro z h; cases h) rfl (gapp_set hn) ?_
  refine g_aload_n (q := 21) C dX5_init_20 rfl rfl ?_
  refine g_iconst (v := 0) (q := 22) C dX5_init_21 (by decide) rfl ?_
  refine g_putE (q := 25) (hp' := hp ++ [.inr (.inr (5, [.int 0, .int 0, .int 0, .int 32, .int 0, .int 0, .int 0, .int 0, .null, .null, .null, .int 0, .int 0, .int 0, .int 0]))]) C fX5_21 dX5_init_22 rfl (gapp_new hn rfl) (Nat.le_of_ble_eq_true rfl) (Or.inl rfl) rfl rfl (by intro z h; cases h) rfl (gapp_set hn) ?_
  refine g_aload_n (q := 26) C dX5_init_25 rfl rfl ?_
  refine g_iconst (v := (-1)) (q := 27) C dX5_init_26 (by decide) rfl ?_
  refine g_putE (q := 30) (hp' := hp ++ [.inr (.inr (5, [.int 0, .int 0, .int 0, .int 32, .int 0, .int ((-1)), .int 0, .int 0, .null, .null, .null, .int 0, .int 0, .int 0, .int 0]))]) C fX5_24 dX5_init_27 rfl (gapp_new hn rfl) (Nat.le_of_ble_eq_true rfl) (Or.inl rfl) rfl rfl (by intro z h; cases h) rfl (gapp_set hn) ?_
  refine g_aload_n (q := 31) C dX5_init_30 rfl rfl ?_
  refine g_iconst (v := 0) (q := 32) C dX5_init_31 (by decide) rfl ?_
  refine g_putE (q := 35) (hp' := hp ++ [.inr (.inr (5, [.int 0, .int 0, .int 0, .int 32, .int 0, .int ((-1)), .int 0, .int 0, .null, .null, .null, .int 0, .int 0, .int 0, .int 0]))]) C fX5_27 dX5_init_32 rfl (gapp_new hn rfl) (Nat.le_of_ble_eq_true rfl) (Or.inl rfl) rfl rfl (by intro z h; cases h) rfl (gapp_set hn) ?_
  refine g_aload_n (q := 36) C dX5_init_35 rfl rfl ?_
  refine g_iconst (v := 0) (q := 37) C dX5_init_36 (by decide) rfl ?_
  refine g_putE (q := 40) (hp' := hp ++ [.inr (.inr (5, [.int 0, .int 0, .int 0, .int 32, .int 0, .int ((-1)), .int 0, .int 0, .null, .null, .null, .int 0, .int 0, .int 0, .int 0]))]) C fX5_30 dX5_init_37 rfl (gapp_new hn rfl) (Nat.le_of_ble_eq_true rfl) (Or.inl rfl) rfl rfl (by intro z h; cases h) rfl (gapp_set hn) ?_
  refine g_aload_n (q := 41) C dX5_init_40 rfl rfl ?_
  refine g_new (q := 44) (k := n + 1) C nX5_33 dX5_init_41 rfl (by rw [List.length_append, hn]; rfl) (Nat.le_of_ble_eq_true rfl) (Nat.le_of_ble_eq_true rfl) ?_
  refine g_heap (hp2 := hp ++ [.inr (.inr (5, [.int 0, .int 0, .int 0, .int 32, .int 0, .int ((-1)), .int 0, .int 0, .null, .null, .null, .int 0, .int 0, .int 0, .int 0])), .inr (.inr (4, [.null, .int 0, .int 0]))]) (by simp only [List.append_assoc, List.cons_append, List.nil_append]) ?_
  refine g_dup (q := 45) C dX5_init_44 rfl rfl ?_
  refine g_bipush (v := 60) (q := 47) C dX5_init_45 (by decide) rfl ?_
  refine g_bipush (v := 60) (q := 49) C dX5_init_47 (by decide) rfl ?_
  refine g_heap (hp2 := (hp ++ [.inr (.inr (5, [.int 0, .int 0, .int 0, .int 32, .int 0, .int ((-1)), .int 0, .int 0, .null, .null, .null, .int 0, .int 0, .int 0, .int 0]))]) ++ [.inr (.inr (4, [.null, .int 0, .int 0]))]) (by simp only [List.append_assoc, List.cons_append, List.nil_append]) ?_
  refine g_callIv (q := 52) (As := [.int 60, .int 60]) C gyX4_init giX4_init rfl t_196 (c_X4_init (n := n + 1) (N := 60) (first := 60) (by rw [List.length_append, hn]; rfl) (by decide) (by decide)) dX5_init_49 rfl rfl rfl (Nat.le_of_ble_eq_true rfl) (Nat.le_of_ble_eq_true rfl) (Nat.le_of_ble_eq_true rfl) (Nat.le_of_ble_eq_true rfl) (Nat.le_of_ble_eq_true rfl) rfl ?_
  refine g_heap (hp2 := hp ++ [.inr (.inr (5, [.int 0, .int 0, .int 0, .int 32, .int 0, .int ((-1)), .int 0, .int 0, .null, .null, .null, .int 0, .int 0, .int 0, .int 0])), .inr (.inr (4, [.ref (n + 2), .int 0, .int 60])), .inl (60, fun _ => 0)]) (by simp only [List.append_assoc, List.cons_append, List.nil_append, Nat.add_assoc, Nat.reduceAdd, Nat.add_zero]) ?_
  refine g_putE (q := 55) (hp' := hp ++ [.inr (.inr (5, [.int 0, .int 0, .int 0, .int 32, .int 0, .int ((-1)), .int 0, .int 0, .ref (n + 1), .null, .null, .int 0, .int 0, .int 0, .int 0])), .inr (.inr (4, [.ref (n + 2), .int 0, .int 60])), .inl (60, fun _ => 0)]) C fX5_38 dX5_init_52 rfl (gapp_new hn rfl) (Nat.le_of_ble_eq_true rfl) (Or.inr rfl) rfl rfl (by intro z h; cases h) rfl (gapp_set hn) ?_
  refine g_aload_n (q := 56) C dX5_init_55 rfl rfl ?_
  refine g_new (q := 59) (k := n + 3) C nX5_33 dX5_init_56 rfl (by rw [List.length_append, hn]; rfl) (Nat.le_of_ble_eq_true rfl) (Nat.le_of_ble_eq_true rfl) ?_
  refine g_heap (hp2 := hp ++ [.inr (.inr (5, [.int 0, .int 0, .int 0, .int 32, .int 0, .int ((-1)), .int 0, .int 0, .ref (n + 1), .null, .null, .int 0, .int 0, .int 0, .int 0])), .inr (.inr (4, [.ref (n + 2), .int 0, .int 60])), .inl (60, fun _ => 0), .inr (.inr (4, [.null, .int 0, .int 0]))]) (by simp only [List.append_assoc, List.cons_append, List.nil_append]) ?_
  refine g_dup (q := 60) C dX5_init_59 rfl rfl ?_
  refine g_bipush (v := 60) (q := 62) C dX5_init_60 (by decide) rfl ?_
  refine g_bipush (v := 60) (q := 64) C dX5_init_62 (by decide) rfl ?_
  refine g_heap (hp2 := (hp ++ [.inr (.inr (5, [.int 0, .int 0, .int 0, .int 32, .int 0, .int ((-1)), .int 0, .int 0, .ref (n + 1), .null, .null, .int 0, .int 0, .int 0, .int 0])), .inr (.inr (4, [.ref (n + 2), .int 0, .int 60])), .inl (60, fun _ => 0)]) ++ [.inr (.inr (4, [.null, .int 0, .int 0]))]) (by simp only [List.append_assoc, List.cons_append, List.nil_append]) ?_
  refine g_callIv (q := 67) (As := [.int 60, .int 60]) C gyX4_init giX4_init rfl t_196 (c_X4_init (n := n + 3) (N := 60) (first := 60) (by rw [List.length_append, hn]; rfl) (by decide) (by decide)) dX5_init_64 rfl rfl rfl (Nat.le_of_ble_eq_true rfl) (Nat.le_of_ble_eq_true rfl) (Nat.le_of_ble_eq_true rfl) (Nat.le_of_ble_eq_true rfl) (Nat.le_of_ble_eq_true rfl) rfl ?_
  refine g_heap (hp2 := hp ++ [.inr (.inr (5, [.int 0, .int 0, .int 0, .int 32, .int 0, .int ((-1)), .int 0, .int 0, .ref (n + 1), .null, .null, .int 0, .int 0, .int 0, .int 0])), .inr (.inr (4, [.ref (n + 2), .int 0, .int 60])), .inl (60, fun _ => 0), .inr (.inr (4, [.ref (n + 4), .int 0, .int 60])), .inl (60, fun _ => 0)]) (by simp only [List.append_assoc, List.cons_append, List.nil_append, Nat.add_assoc, Nat.reduceAdd, Nat.add_zero]) ?_
  refine g_putE (q := 70) (hp' := hp ++ [.inr (.inr (5, [.int 0, .int 0, .int 0, .int 32, .int 0, .int ((-1)), .int 0, .int 0, .ref (n + 1), .ref (n + 3), .null, .int 0, .int 0, .int 0, .int 0])), .inr (.inr (4, [.ref (n + 2), .int 0, .int 60])), .inl (60, fun _ => 0), .inr (.inr (4, [.ref (n + 4), .int 0, .int 60])), .inl (60, fun _ => 0)]) C fX5_42 dX5_init_67 rfl (gapp_new hn rfl) (Nat.le_of_ble_eq_true rfl) (Or.inr rfl) rfl rfl (by intro z h; cases h) rfl (gapp_set hn) ?_
  refine g_aload_n (q := 71) C dX5_init_70 rfl rfl ?_
  refine g_new (q := 74) (k := n + 5) C nX5_33 dX5_init_71 rfl (by rw [List.length_append, hn]; rfl) (Nat.le_of_ble_eq_true rfl) (Nat.le_of_ble_eq_true rfl) ?_
  refine g_heap (hp2 := hp ++ [.inr (.inr (5, [.int 0, .int 0, .int 0, .int 32, .int 0, .int ((-1)), .int 0, .int 0, .ref (n + 1), .ref (n + 3), .null, .int 0, .int 0, .int 0, .int 0])), .inr (.inr (4, [.ref (n + 2), .int 0, .int 60])), .inl (60, fun _ => 0), .inr (.inr (4, [.ref (n + 4), .int 0, .int 60])), .inl (60, fun _ => 0), .inr (.inr (4, [.null, .int 0, .int 0]))]) (by simp only [List.append_assoc, List.cons_append, List.nil_append]) ?_
  refine g_dup (q := 75) C dX5_init_74 rfl rfl ?_
  refine g_bipush (v := 60) (q := 77) C dX5_init_75 (by decide) rfl ?_
  refine g_bipush (v := 60) (q := 79) C dX5_init_77 (by decide) rfl ?_
  refine g_heap (hp2 := (hp ++ [.inr (.inr (5, [.int 0, .int 0, .int 0, .int 32, .int 0, .int ((-1)), .int 0, .int 0, .ref (n + 1), .ref (n + 3), .null, .int 0, .int 0, .int 0, .int 0])), .inr (.inr (4, [.ref (n + 2), .int 0, .int 60])), .inl (60, fun _ => 0), .inr (.inr (4, [.ref (n + 4), .int 0, .int 60])), .inl (60, fun _ => 0)]) ++ [.inr (.inr (4, [.null, .int 0, .int 0]))]) (by simp only [List.append_assoc, List.cons_append, List.nil_append]) ?_
  refine g_callIv (q := 82) (As := [.int 60, .int 60]) C gyX4_init giX4_init rfl t_196 (c_X4_init (n := n + 5) (N := 60) (first := 60) (by rw [List.length_append, hn]; rfl) (by decide) (by decide)) dX5_init_79 rfl rfl rfl (Nat.le_of_ble_eq_true rfl) (Nat.le_of_ble_eq_true rfl) (Nat.le_of_ble_eq_true rfl) (Nat.le_of_ble_eq_true rfl) (Nat.le_of_ble_eq_true rfl) rfl ?_
  refine g_heap (hp2 := hp ++ [.inr (.inr (5, [.int 0, .int 0, .int 0, .int 32, .int 0, .int ((-1)), .int 0, .int 0, .ref (n + 1), .ref (n + 3), .null, .int 0, .int 0, .int 0, .int 0])), .inr (.inr (4, [.ref (n + 2), .int 0, .int 60])), .inl (60, fun _ => 0), .inr (.inr (4, [.ref (n + 4), .int 0, .int 60])), .inl (60, fun _ => 0), .inr (.inr (4, [.ref (n + 6), .int 0, .int 60])), .inl (60, fun _ => 0)]) (by simp only [List.append_assoc, List.cons_append, List.nil_append, Nat.add_assoc, Nat.reduceAdd, Nat.add_zero]) ?_
  refine g_putE (q := 85) (hp' := hp ++ [.inr (.inr (5, [.int 0, .int 0, .int 0, .int 32, .int 0, .int ((-1)), .int 0, .int 0, .ref (n + 1), .ref (n + 3), .ref (n + 5), .int 0, .int 0, .int 0, .int 0])), .inr (.inr (4, [.ref (n + 2), .int 0, .int 60])), .inl (60, fun _ => 0), .inr (.inr (4, [.ref (n + 4), .int 0, .int 60])), .inl (60, fun _ => 0), .inr (.inr (4, [.ref (n + 6), .int 0, .int 60])), .inl (60, fun _ => 0)]) C fX5_45 dX5_init_82 rfl (gapp_new hn rfl) (Nat.le_of_ble_eq_true rfl) (Or.inr rfl) rfl rfl (by intro z h; cases h) rfl (gapp_set hn) ?_
  refine g_aload_n (q := 86) C dX5_init_85 rfl rfl ?_
  refine g_iconst (v := (-1)) (q := 87) C dX5_init_86 (by decide) rfl ?_
  refine g_putE (q := 90) (hp' := hp ++ [.inr (.inr (5, [.int 0, .int 0, .int 0, .int 32, .int 0, .int ((-1)), .int 0, .int 0, .ref (n + 1), .ref (n + 3), .ref (n + 5), .int ((-1)), .int 0, .int 0, .int 0])), .inr (.inr (4, [.ref (n + 2), .int 0, .int 60])), .inl (60, fun _ => 0), .inr (.inr (4, [.ref (n + 4), .int 0, .int 60])), .inl (60, fun _ => 0), .inr (.inr (4, [.ref (n + 6), .int 0, .int 60])), .inl (60, fun _ => 0)]) C fX5_48 dX5_init_87 rfl (gapp_new hn rfl) (Nat.le_of_ble_eq_true rfl) (Or.inl rfl) rfl rfl (by intro z h; cases h) rfl (gapp_set hn) ?_
  refine g_aload_n (q := 91) C dX5_init_90 rfl rfl ?_
  refine g_iconst (v := 0) (q := 92) C dX5_init_91 (by decide) rfl ?_
  refine g_putE (q := 95) (hp' := hp ++ [.inr (.inr (5, [.int 0, .int 0, .int 0, .int 32, .int 0, .int ((-1)), .int 0, .int 0, .ref (n + 1), .ref (n + 3), .ref (n + 5), .int ((-1)), .int 0, .int 0, .int 0])), .inr (.inr (4, [.ref (n + 2), .int 0, .int 60])), .inl (60, fun _ => 0), .inr (.inr (4, [.ref (n + 4), .int 0, .int 60])), .inl (60, fun _ => 0), .inr (.inr (4, [.ref (n + 6), .int 0, .int 60])), .inl (60, fun _ => 0)]) C fX5_51 dX5_init_92 rfl (gapp_new hn rfl) (Nat.le_of_ble_eq_true rfl) (Or.inl rfl) rfl rfl (by intro z h; cases h) rfl (gapp_set hn) ?_
  refine g_aload_n (q := 96) C dX5_init_95 rfl rfl ?_
  refine g_iconst (v := (-1)) (q := 97) C dX5_init_96 (by decide) rfl ?_
  refine g_putE (q := 100) (hp' := hp ++ [.inr (.inr (5, [.int 0, .int 0, .int 0, .int 32, .int 0, .int ((-1)), .int 0, .int 0, .ref (n + 1), .ref (n + 3), .ref (n + 5), .int ((-1)), .int 0, .int ((-1)), .int 0])), .inr (.inr (4, [.ref (n + 2), .int 0, .int 60])), .inl (60, fun _ => 0), .inr (.inr (4, [.ref (n + 4), .int 0, .int 60])), .inl (60, fun _ => 0), .inr (.inr (4, [.ref (n + 6), .int 0, .int 60])), .inl (60, fun _ => 0)]) C fX5_55 dX5_init_97 rfl (gapp_new hn rfl) (Nat.le_of_ble_eq_true rfl) (Or.inl rfl) rfl rfl (by intro z h; cases h) rfl (gapp_set hn) ?_
  refine g_aload_n (q := 101) C dX5_init_100 rfl rfl ?_
  refine g_iconst (v := 0) (q := 102) C dX5_init_101 (by decide) rfl ?_
  refine g_putE (q := 105) (hp' := hp ++ [.inr (.inr (5, [.int 0, .int 0, .int 0, .int 32, .int 0, .int ((-1)), .int 0, .int 0, .ref (n + 1), .ref (n + 3), .ref (n + 5), .int ((-1)), .int 0, .int ((-1)), .int 0])), .inr (.inr (4, [.ref (n + 2), .int 0, .int 60])), .inl (60, fun _ => 0), .inr (.inr (4, [.ref (n + 4), .int 0, .int 60])), .inl (60, fun _ => 0), .inr (.inr (4, [.ref (n + 6), .int 0, .int 60])), .inl (60, fun _ => 0)]) C fX5_58 dX5_init_102 rfl (gapp_new hn rfl) (Nat.le_of_ble_eq_true rfl) (Or.inl rfl) rfl rfl (by intro z h; cases h) rfl (gapp_set hn) ?_
  refine g_aload_n (q := 106) C dX5_init_105 rfl rfl ?_
  refine g_iload_n (q := 107) C dX5_init_106 rfl rfl ?_
  refine g_putE (q := 110) (hp' := hp ++ [.inr (.inr (5, [.int num, .int 0, .int 0, .int 32, .int 0, .int ((-1)), .int 0, .int 0, .ref (n + 1), .ref (n + 3), .ref (n + 5), .int ((-1)), .int 0, .int ((-1)), .int 0])), .inr (.inr (4, [.ref (n + 2), .int 0, .int 60])), .inl (60, fun _ => 0), .inr (.inr (4, [.ref (n + 4), .int 0, .int 60])), .inl (60, fun _ => 0), .inr (.inr (4, [.ref (n + 6), .int 0, .int 60])), .inl (60, fun _ => 0)]) C fX5_61 dX5_init_107 rfl (gapp_new hn rfl) (Nat.le_of_ble_eq_true rfl) (Or.inr rfl) rfl rfl (by intro z h; cases h) rfl (gapp_set hn) ?_
  exact E.2.1 _ _ _ _ _ dX5_init_110 rfl (Nat.le_of_ble_eq_true rfl) (Nat.le_of_ble_eq_true rfl) ⟨rfl, rfl⟩
theorem dX2_init_0 : decode cX2_init 0 = .ok (.aload_n 0, 1) := by decide +kernel
theorem dX2_init_1 : decode cX2_init 1 = .ok (.invokespecial 3, 3) := by decide +kernel
theorem dX2_init_4 : decode cX2_init 4 = .ok (.aload_n 0, 1) := by decide +kernel
theorem dX2_init_5 : decode cX2_init 5 = .ok (.new 9, 3) := by decide +kernel
theorem dX2_init_8 : decode cX2_init 8 = .ok (.dup, 1) := by decide +kernel
theorem dX2_init_9 : decode cX2_init 9 = .ok (.iconst 0, 1) := by decide +kernel
theorem dX2_init_10 : decode cX2_init 10 = .ok (.invokespecial 11, 3) := by decide +kernel
theorem dX2_init_13 : decode cX2_init 13 = .ok (.putfield 14, 3) := by decide +kernel
theorem dX2_init_16 : decode cX2_init 16 = .ok (.aload_n 0, 1) := by decide +kernel
theorem dX2_init_17 : decode cX2_init 17 = .ok (.new 9, 3) := by decide +kernel
theorem dX2_init_20 : decode cX2_init 20 = .ok (.dup, 1) := by decide +kernel
theorem dX2_init_21 : decode cX2_init 21 = .ok (.iconst 1, 1) := by decide +kernel
theorem dX2_init_22 : decode cX2_init 22 = .ok (.invokespecial 11, 3) := by decide +kernel
theorem dX2_init_25 : decode cX2_init 25 = .ok (.putfield 20, 3) := by decide +kernel
theorem dX2_init_28 : decode cX2_init 28 = .ok (.aload_n 0, 1) := by decide +kernel
theorem dX2_init_29 : decode cX2_init 29 = .ok (.new 23, 3) := by decide +kernel
theorem dX2_init_32 : decode cX2_init 32 = .ok (.dup, 1) := by decide +kernel
theorem dX2_init_33 : decode cX2_init 33 = .ok (.invokespecial 25, 3) := by decide +kernel
theorem dX2_init_36 : decode cX2_init 36 = .ok (.putfield 26, 3) := by decide +kernel
theorem dX2_init_39 : decode cX2_init 39 = .ok (.aload_n 0, 1) := by decide +kernel
theorem dX2_init_40 : decode cX2_init 40 = .ok (.iconst 0, 1) := by decide +kernel
theorem dX2_init_41 : decode cX2_init 41 = .ok (.putfield 30, 3) := by decide +kernel
theorem dX2_init_44 : decode cX2_init 44 = .ok (.aload_n 0, 1) := by decide +kernel
theorem dX2_init_45 : decode cX2_init 45 = .ok (.iconst 0, 1) := by decide +kernel
theorem dX2_init_46 : decode cX2_init 46 = .ok (.putfield 34, 3) := by decide +kernel
theorem dX2_init_49 : decode cX2_init 49 = .ok (.aload_n 0, 1) := by decide +kernel
theorem dX2_init_50 : decode cX2_init 50 = .ok (.iconst 0, 1) := by decide +kernel
theorem dX2_init_51 : decode cX2_init 51 = .ok (.putfield 37, 3) := by decide +kernel
theorem dX2_init_54 : decode cX2_init 54 = .ok (.aload_n 0, 1) := by decide +kernel
theorem dX2_init_55 : decode cX2_init 55 = .ok (.iconst 0, 1) := by decide +kernel
theorem dX2_init_56 : decode cX2_init 56 = .ok (.putfield 40, 3) := by decide +kernel
theorem dX2_init_59 : decode cX2_init 59 = .ok (.aload_n 0, 1) := by decide +kernel
theorem dX2_init_60 : decode cX2_init 60 = .ok (.iconst 0, 1) := by decide +kernel
theorem dX2_init_61 : decode cX2_init 61 = .ok (.putfield 43, 3) := by decide +kernel
theorem dX2_init_64 : decode cX2_init 64 = .ok (.aload_n 0, 1) := by decide +kernel
theorem dX2_init_65 : decode cX2_init 65 = .ok (.new 46, 3) := by decide +kernel
theorem dX2_init_68 : decode cX2_init 68 = .ok (.dup, 1) := by decide +kernel
theorem dX2_init_69 : decode cX2_init 69 = .ok (.bipush 64, 2) := by decide +kernel
theorem dX2_init_71 : decode cX2_init 71 = .ok (.bipush 64, 2) := by decide +kernel
theorem dX2_init_73 : decode cX2_init 73 = .ok (.invokespecial 48, 3) := by decide +kernel
theorem dX2_init_76 : decode cX2_init 76 = .ok (.putfield 51, 3) := by decide +kernel
theorem dX2_init_79 : decode cX2_init 79 = .ok (.aload_n 0, 1) := by decide +kernel
theorem dX2_init_80 : decode cX2_init 80 = .ok (.new 46, 3) := by decide +kernel
theorem dX2_init_83 : decode cX2_init 83 = .ok (.dup, 1) := by decide +kernel
theorem dX2_init_84 : decode cX2_init 84 = .ok (.bipush 64, 2) := by decide +kernel
theorem dX2_init_86 : decode cX2_init 86 = .ok (.bipush 64, 2) := by decide +kernel
theorem dX2_init_88 : decode cX2_init 88 = .ok (.invokespecial 48, 3) := by decide +kernel
theorem dX2_init_91 : decode cX2_init 91 = .ok (.putfield 55, 3) := by decide +kernel
theorem dX2_init_94 : decode cX2_init 94 = .ok (.aload_n 0, 1) := by decide +kernel
theorem dX2_init_95 : decode cX2_init 95 = .ok (.iconst 3, 1) := by decide +kernel
theorem dX2_init_96 : decode cX2_init 96 = .ok (.putfield 58, 3) := by decide +kernel
theorem dX2_init_99 : decode cX2_init 99 = .ok (.aload_n 0, 1) := by decide +kernel
theorem dX2_init_100 : decode cX2_init 100 = .ok (.iconst 0, 1) := by decide +kernel
theorem dX2_init_101 : decode cX2_init 101 = .ok (.putfield 61, 3) := by decide +kernel
theorem dX2_init_104 : decode cX2_init 104 = .ok (.aload_n 0, 1) := by decide +kernel
theorem dX2_init_105 : decode cX2_init 105 = .ok (.iconst (-1), 1) := by decide +kernel
theorem dX2_init_106 : decode cX2_init 106 = .ok (.putfield 65, 3) := by decide +kernel
theorem dX2_init_109 : decode cX2_init 109 = .ok (.aload_n 0, 1) := by decide +kernel
theorem dX2_init_110 : decode cX2_init 110 = .ok (.iconst 0, 1) := by decide +kernel
theorem dX2_init_111 : decode cX2_init 111 = .ok (.putfield 68, 3) := by decide +kernel
theorem dX2_init_114 : decode cX2_init 114 = .ok (.aload_n 0, 1) := by decide +kernel
theorem dX2_init_115 : decode cX2_init 115 = .ok (.iconst 0, 1) := by decide +kernel
theorem dX2_init_116 : decode cX2_init 116 = .ok (.putfield 71, 3) := by decide +kernel
theorem dX2_init_119 : decode cX2_init 119 = .ok (.aload_n 0, 1) := by decide +kernel
theorem dX2_init_120 : decode cX2_init 120 = .ok (.iconst 0, 1) := by decide +kernel
theorem dX2_init_121 : decode cX2_init 121 = .ok (.putfield 74, 3) := by decide +kernel
theorem dX2_init_124 : decode cX2_init 124 = .ok (.aload_n 0, 1) := by decide +kernel
theorem dX2_init_125 : decode cX2_init 125 = .ok (.iconst 0, 1) := by decide +kernel
theorem dX2_init_126 : decode cX2_init 126 = .ok (.putfield 77, 3) := by decide +kernel
theorem dX2_init_129 : decode cX2_init 129 = .ok (.aload_n 0, 1) := by decide +kernel
theorem dX2_init_130 : decode cX2_init 130 = .ok (.aload_n 1, 1) := by decide +kernel
theorem dX2_init_131 : decode cX2_init 131 = .ok (.putfield 80, 3) := by decide +kernel
theorem dX2_init_134 : decode cX2_init 134 = .ok (.return_, 1) := by decide +kernel
set_option maxRecDepth 100000 in
set_option maxHeartbeats 4000000 in
theorem c_X2_init_j {hp : List gA} {n : Nat} {jr : Nat} (hn : hp.length = n) : gM yX2_init cX2_init 2 (none) 3 64 [.ref (n + 0), .ref jr] (hp ++ [.inr (.inr (2, [.null, .null, .null, .int 0, .int 0, .int 0, .int 0, .int 0, .null, .null, .null, .int 0, .int 0, .int 0, .int 0, .int 0, .int 0, .int 0]))]) (22) (624) (fun v h => v = none ∧ h = hp ++ [.inr (.inr (2, [.ref (n + 1), .ref (n + 8), .ref (n + 15), .int 0, .int 0, .int 0, .int 0, .int 0, .ref (n + 19), .ref (n + 21), .ref jr, .int 3, .int 0, .int ((-1)), .int 0, .int 0, .int 0, .int 0])), .inr (.inr (5, [.int 0, .int 0, .int 0, .int 32, .int 0, .int ((-1)), .int 0, .int 0, .ref (n + 2), .ref (n + 4), .ref (n + 6), .int ((-1)), .int 0, .int ((-1)), .int 0])), .inr (.inr (4, [.ref (n + 3), .int 0, .int 60])), .inl (60, fun _ => 0), .inr (.inr (4, [.ref (n + 5), .int 0, .int 60])), .inl (60, fun _ => 0), .inr (.inr (4, [.ref (n + 7), .int 0, .int 60])), .inl (60, fun _ => 0), .inr (.inr (5, [.int 1, .int 0, .int 0, .int 32, .int 0, .int ((-1)), .int 0, .int 0, .ref (n + 9), .ref (n + 11), .ref (n + 13), .int ((-1)), .int 0, .int ((-1)), .int 0])), .inr (.inr (4, [.ref (n + 10), .int 0, .int 60])), .inl (60, fun _ => 0), .inr (.inr (4, [.ref (n + 12), .int 0, .int 60])), .inl (60, fun _ => 0), .inr (.inr (4, [.ref (n + 14), .int 0, .int 60])), .inl (60, fun _ => 0), .inr (.inr (6, [.int 1, .int 0, .int 0, .ref (n + 16), .ref (n + 17), .ref (n + 18), .int 0, .int ((-1)), .int 0, .int 0])), .inl (24, fun _ => 0), .inl (24, fun _ => 0), .inl (24, fun _ => 0), .inr (.inr (4, [.ref (n + 20), .int 0, .int 64])), .inl (64, fun _ => 0), .inr (.inr (4, [.ref (n + 22), .int 0, .int 64])), .inl (64, fun _ => 0)]) := by
  refine gM_of (ls0 := [some (.ref (n + 0)), some (.ref jr)]) (by decide +kernel) (Nat.le_of_ble_eq_true rfl) rfl fun X C E => ?_
  refine g_aload_n (q := 1) C dX2_init_0 rfl rfl ?_
  refine g_objInit (q := 4) C t_188 t_123 t_124 dX2_init_1 rfl rfl (Nat.le_of_ble_eq_true rfl) (Nat.le_of_ble_eq_true rfl) ?_
  refine g_aload_n (q := 5) C dX2_init_4 rfl rfl ?_
  refine g_new (q := 8) (k := n + 1) C nX2_9 dX2_init_5 rfl (by rw [List.length_append, hn]; rfl) (Nat.le_of_ble_eq_true rfl) (Nat.le_of_ble_eq_true rfl) ?_
  refine g_heap (hp2 := hp ++ [.inr (.inr (2, [.null, .null, .null, .int 0, .int 0, .int 0, .int 0, .int 0, .null, .null, .null, .int 0, .int 0, .int 0, .int 0, .int 0, .int 0, .int 0])), .inr (.inr (5, [.int 0, .int 0, .int 0, .int 0, .int 0, .int 0, .int 0, .int 0, .null, .null, .null, .int 0, .int 0, .int 0, .int 0]))]) (by simp only [List.append_assoc, List.cons_append, List.nil_append]) ?_
  refine g_dup (q := 9) C dX2_init_8 rfl rfl ?_
  refine g_iconst (v := 0) (q := 10) C dX2_init_9 (by decide) rfl ?_
  refine g_heap (hp2 := (hp ++ [.inr (.inr (2, [.null, .null, .null, .int 0, .int 0, .int 0, .int 0, .int 0, .null, .null, .null, .int 0, .int 0, .int 0, .int 0, .int 0, .int 0, .int 0]))]) ++ [.inr (.inr (5, [.int 0, .int 0, .int 0, .int 0, .int 0, .int 0, .int 0, .int 0, .null, .null, .null, .int 0, .int 0, .int 0, .int 0]))]) (by simp only [List.append_assoc, List.cons_append, List.nil_append]) ?_
  refine g_callIv (q := 13) (As := [.int 0]) C gyX5_init giX5_init rfl t_191 (c_X5_init (n := n + 1) (by rw [List.length_append, hn]; rfl)) dX2_init_10 rfl rfl rfl (Nat.le_of_ble_eq_true rfl) (Nat.le_of_ble_eq_true rfl) (Nat.le_of_ble_eq_true rfl) (Nat.le_of_ble_eq_true rfl) (Nat.le_of_ble_eq_true rfl) rfl ?_
  refine g_heap (hp2 := hp ++ [.inr (.inr (2, [.null, .null, .null, .int 0, .int 0, .int 0, .int 0, .int 0, .null, .null, .null, .int 0, .int 0, .int 0, .int 0, .int 0, .int 0, .int 0])), .inr (.inr (5, [.int 0, .int 0, .int 0, .int 32, .int 0, .int ((-1)), .int 0, .int 0, .ref (n + 2), .ref (n + 4), .ref (n + 6), .int ((-1)), .int 0, .int ((-1)), .int 0])), .inr (.inr (4, [.ref (n + 3), .int 0, .int 60])), .inl (60, fun _ => 0), .inr (.inr (4, [.ref (n + 5), .int 0, .int 60])), .inl (60, fun _ => 0), .inr (.inr (4, [.ref (n + 7), .int 0, .int 60])), .inl (60, fun _ => 0)]) (by simp only [List.append_assoc, List.cons_append, List.nil_append, Nat.add_assoc, Nat.reduceAdd, Nat.add_zero]) ?_
  refine g_putE (q := 16) (hp' := hp ++ [.inr (.inr (2, [.ref (n + 1), .null, .null, .int 0, .int 0, .int 0, .int 0, .int 0, .null, .null, .null, .int 0, .int 0, .int 0, .int 0, .int 0, .int 0, .int 0])), .inr (.inr (5, [.int 0, .int 0, .int 0, .int 32, .int 0, .int ((-1)), .int 0, .int 0, .ref (n + 2), .ref (n + 4), .ref (n + 6), .int ((-1)), .int 0, .int ((-1)), .int 0])), .inr (.inr (4, [.ref (n + 3), .int 0, .int 60])), .inl (60, fun _ => 0), .inr (.inr (4, [.ref (n + 5), .int 0, .int 60])), .inl (60, fun _ => 0), .inr (.inr (4, [.ref (n + 7), .int 0, .int 60])), .inl (60, fun _ => 0)]) C fX2_14 dX2_init_13 rfl (gapp_new hn rfl) (Nat.le_of_ble_eq_true rfl) (Or.inr rfl) rfl rfl (by intro z h; cases h) rfl (gapp_set hn) ?_
  refine g_aload_n (q := 17) C dX2_init_16 rfl rfl ?_
  refine g_new (q := 20) (k := n + 8) C nX2_9 dX2_init_17 rfl (by rw [List.length_append, hn]; rfl) (Nat.le_of_ble_eq_true rfl) (Nat.le_of_ble_eq_true rfl) ?_
  refine g_heap (hp2 := hp ++ [.inr (.inr (2, [.ref (n + 1), .null, .null, .int 0, .int 0, .int 0, .int 0, .int 0, .null, .null, .null, .int 0, .int 0, .int 0, .int 0, .int 0, .int 0, .int 0])), .inr (.inr (5, [.int 0, .int 0, .int 0, .int 32, .int 0, .int ((-1)), .int 0, .int 0, .ref (n + 2), .ref (n + 4), .ref (n + 6), .int ((-1)), .int 0, .int ((-1)), .int 0])), .inr (.inr (4, [.ref (n + 3), .int 0, .int 60])), .inl (60, fun _ => 0), .inr (.inr (4, [.ref (n + 5), .int 0, .int 60])), .inl (60, fun _ => 0), .inr (.inr (4, [.ref (n + 7), .int 0, .int 60])), .inl (60, fun _ => 0), .inr (.inr (5, [.int 0, .int 0, .int 0, .int 0, .int 0, .int 0, .int 0, .int 0, .null, .null, .null, .int 0, .int 0, .int 0, .int 0]))]) (by simp only [List.append_assoc, List.cons_append, List.nil_append]) ?_
  refine g_dup (q := 21) C dX2_init_20 rfl rfl ?_
  refine g_iconst (v := 1) (q := 22) C dX2_init_21 (by decide) rfl ?_
  refine g_heap (hp2 := (hp ++ [.inr (.inr (2, [.ref (n + 1), .null, .null, .int 0, .int 0, .int 0, .int 0, .int 0, .null, .null, .null, .int 0, .int 0, .int 0, .int 0, .int 0, .int 0, .int 0])), .inr (.inr (5, [.int 0, .int 0, .int 0, .int 32, .int 0, .int ((-1)), .int 0, .int 0, .ref (n + 2), .ref (n + 4), .ref (n + 6), .int ((-1)), .int 0, .int ((-1)), .int 0])), .inr (.inr (4, [.ref (n + 3), .int 0, .int 60])), .inl (60, fun _ => 0), .inr (.inr (4, [.ref (n + 5), .int 0, .int 60])), .inl (60, fun _ => 0), .inr (.inr (4, [.ref (n + 7), .int 0, .int 60])), .inl (60, fun _ => 0)]) ++ [.inr (.inr (5, [.int 0, .int 0, .int 0, .int 0, .int 0, .int 0, .int 0, .int 0, .null, .null, .null, .int 0, .int 0, .int 0, .int 0]))]) (by simp only [List.append_assoc, List.cons_append, List.nil_append]) ?_
  refine g_callIv (q := 25) (As := [.int 1]) C gyX5_init giX5_init rfl t_191 (c_X5_init (n := n + 8) (by rw [List.length_append, hn]; rfl)) dX2_init_22 rfl rfl rfl (Nat.le_of_ble_eq_true rfl) (Nat.le_of_ble_eq_true rfl) (Nat.le_of_ble_eq_true rfl) (Nat.le_of_ble_eq_true rfl) (Nat.le_of_ble_eq_true rfl) rfl ?_
  refine g_heap (hp2 := hp ++ [.inr (.inr (2, [.ref (n + 1), .null, .null, .int 0, .int 0, .int 0, .int 0, .int 0, .null, .null, .null, .int 0, .int 0, .int 0, .int 0, .int 0, .int 0, .int 0])), .inr (.inr (5, [.int 0, .int 0, .int 0, .int 32, .int 0, .int ((-1)), .int 0, .int 0, .ref (n + 2), .ref (n + 4), .ref (n + 6), .int ((-1)), .int 0, .int ((-1)), .int 0])), .inr (.inr (4, [.ref (n + 3), .int 0, .int 60])), .inl (60, fun _ => 0), .inr (.inr (4, [.ref (n + 5), .int 0, .int 60])), .inl (60, fun _ => 0), .inr (.inr (4, [.ref (n + 7), .int 0, .int 60])), .inl (60, fun _ => 0), .inr (.inr (5, [.int 1, .int 0, .int 0, .int 32, .int 0, .int ((-1)), .int 0, .int 0, .ref (n + 9), .ref (n + 11), .ref (n + 13), .int ((-1)), .int 0, .int ((-1)), .int 0])), .inr (.inr (4, [.ref (n + 10), .int 0, .int 60])), .inl (60, fun _ => 0), .inr (.inr (4, [.ref (n + 12), .int 0, .int 60])), .inl (60, fun _ => 0), .inr (.inr (4, [.ref (n + 14), .int 0, .int 60])), .inl (60, fun _ => 0)]) (by simp only [List.append_assoc, List.cons_append, List.nil_append, Nat.add_assoc, Nat.reduceAdd, Nat.add_zero]) ?_
  refine g_putE (q := 28) (hp' := hp ++ [.inr (.inr (2, [.ref (n + 1), .ref (n + 8), .null, .int 0, .int 0, .int 0, .int 0, .int 0, .null, .null, .null, .int 0, .int 0, .int 0, .int 0, .int 0, .int 0, .int 0])), .inr (.inr (5, [.int 0, .int 0, .int 0, .int 32, .int 0, .int ((-1)), .int 0, .int 0, .ref (n + 2), .ref (n + 4), .ref (n + 6), .int ((-1)), .int 0, .int ((-1)), .int 0])), .inr (.inr (4, [.ref (n + 3), .int 0, .int 60])), .inl (60, fun _ => 0), .inr (.inr (4, [.ref (n + 5), .int 0, .int 60])), .inl (60, fun _ => 0), .inr (.inr (4, [.ref (n + 7), .int 0, .int 60])), .inl (60, fun _ => 0), .inr (.inr (5, [.int 1, .int 0, .int 0, .int 32, .int 0, .int ((-1)), .int 0, .int 0, .ref (n + 9), .ref (n + 11), .ref (n + 13), .int ((-1)), .int 0, .int ((-1)), .int 0])), .inr (.inr (4, [.ref (n + 10), .int 0, .int 60])), .inl (60, fun _ => 0), .inr (.inr (4, [.ref (n + 12), .int 0, .int 60])), .inl (60, fun _ => 0), .inr (.inr (4, [.ref (n + 14), .int 0, .int 60])), .inl (60, fun _ => 0)]) C fX2_20 dX2_init_25 rfl (gapp_new hn rfl) (Nat.le_of_ble_eq_true rfl) (Or.inr rfl) rfl rfl (by intro z h; cases h) rfl (gapp_set hn) ?_
  refine g_aload_n (q := 29) C dX2_init_28 rfl rfl ?_
  refine g_new (q := 32) (k := n + 15) C nX2_23 dX2_init_29 rfl (by rw [List.length_append, hn]; rfl) (Nat.le_of_ble_eq_true rfl) (Nat.le_of_ble_eq_true rfl) ?_
  refine g_heap (hp2 := hp ++ [.inr (.inr (2, [.ref (n + 1), .ref (n + 8), .null, .int 0, .int 0, .int 0, .int 0, .int 0, .null, .null, .null, .int 0, .int 0, .int 0, .int 0, .int 0, .int 0, .int 0])), .inr (.inr (5, [.int 0, .int 0, .int 0, .int 32, .int 0, .int ((-1)), .int 0, .int 0, .ref (n + 2), .ref (n + 4), .ref (n + 6), .int ((-1)), .int 0, .int ((-1)), .int 0])), .inr (.inr (4, [.ref (n + 3), .int 0, .int 60])), .inl (60, fun _ => 0), .inr (.inr (4, [.ref (n + 5), .int 0, .int 60])), .inl (60, fun _ => 0), .inr (.inr (4, [.ref (n + 7), .int 0, .int 60])), .inl (60, fun _ => 0), .inr (.inr (5, [.int 1, .int 0, .int 0, .int 32, .int 0, .int ((-1)), .int 0, .int 0, .ref (n + 9), .ref (n + 11), .ref (n + 13), .int ((-1)), .int 0, .int ((-1)), .int 0])), .inr (.inr (4, [.ref (n + 10), .int 0, .int 60])), .inl (60, fun _ => 0), .inr (.inr (4, [.ref (n + 12), .int 0, .int 60])), .inl (60, fun _ => 0), .inr (.inr (4, [.ref (n + 14), .int 0, .int 60])), .inl (60, fun _ => 0), .inr (.inr (6, [.int 0, .int 0, .int 0, .null, .null, .null, .int 0, .int 0, .int 0, .int 0]))]) (by simp only [List.append_assoc, List.cons_append, List.nil_append]) ?_
  refine g_dup (q := 33) C dX2_init_32 rfl rfl ?_
  refine g_heap (hp2 := (hp ++ [.inr (.inr (2, [.ref (n + 1), .ref (n + 8), .null, .int 0, .int 0, .int 0, .int 0, .int 0, .null, .null, .null, .int 0, .int 0, .int 0, .int 0, .int 0, .int 0, .int 0])), .inr (.inr (5, [.int 0, .int 0, .int 0, .int 32, .int 0, .int ((-1)), .int 0, .int 0, .ref (n + 2), .ref (n + 4), .ref (n + 6), .int ((-1)), .int 0, .int ((-1)), .int 0])), .inr (.inr (4, [.ref (n + 3), .int 0, .int 60])), .inl (60, fun _ => 0), .inr (.inr (4, [.ref (n + 5), .int 0, .int 60])), .inl (60, fun _ => 0), .inr (.inr (4, [.ref (n + 7), .int 0, .int 60])), .inl (60, fun _ => 0), .inr (.inr (5, [.int 1, .int 0, .int 0, .int 32, .int 0, .int ((-1)), .int 0, .int 0, .ref (n + 9), .ref (n + 11), .ref (n + 13), .int ((-1)), .int 0, .int ((-1)), .int 0])), .inr (.inr (4, [.ref (n + 10), .int 0, .int 60])), .inl (60, fun _ => 0), .inr (.inr (4, [.ref (n + 12), .int 0, .int 60])), .inl (60, fun _ => 0), .inr (.inr (4, [.ref (n + 14), .int 0, .int 60])), .inl (60, fun _ => 0)]) ++ [.inr (.inr (6, [.int 0, .int 0, .int 0, .null, .null, .null, .int 0, .int 0, .int 0, .int 0]))]) (by simp only [List.append_assoc, List.cons_append, List.nil_append]) ?_
  refine g_callINv (q := 36) (As := []) C gyX6_init giX6_init rfl (host := RX7) (by decide +kernel) (c_X6_init (n := n + 15) (by rw [List.length_append, hn]; rfl)) dX2_init_33 rfl rfl rfl (Nat.le_of_ble_eq_true rfl) (Nat.le_of_ble_eq_true rfl) (Nat.le_of_ble_eq_true rfl) (Nat.le_of_ble_eq_true rfl) (Nat.le_of_ble_eq_true rfl) rfl ?_
  refine g_heap (hp2 := hp ++ [.inr (.inr (2, [.ref (n + 1), .ref (n + 8), .null, .int 0, .int 0, .int 0, .int 0, .int 0, .null, .null, .null, .int 0, .int 0, .int 0, .int 0, .int 0, .int 0, .int 0])), .inr (.inr (5, [.int 0, .int 0, .int 0, .int 32, .int 0, .int ((-1)), .int 0, .int 0, .ref (n + 2), .ref (n + 4), .ref (n + 6), .int ((-1)), .int 0, .int ((-1)), .int 0])), .inr (.inr (4, [.ref (n + 3), .int 0, .int 60])), .inl (60, fun _ => 0), .inr (.inr (4, [.ref (n + 5), .int 0, .int 60])), .inl (60, fun _ => 0), .inr (.inr (4, [.ref (n + 7), .int 0, .int 60])), .inl (60, fun _ => 0), .inr (.inr (5, [.int 1, .int 0, .int 0, .int 32, .int 0, .int ((-1)), .int 0, .int 0, .ref (n + 9), .ref (n + 11), .ref (n + 13), .int ((-1)), .int 0, .int ((-1)), .int 0])), .inr (.inr (4, [.ref (n + 10), .int 0, .int 60])), .inl (60, fun _ => 0), .inr (.inr (4, [.ref (n + 12), .int 0, .int 60])), .inl (60, fun _ => 0), .inr (.inr (4, [.ref (n + 14), .int 0, .int 60])), .inl (60, fun _ => 0), .inr (.inr (6, [.int 1, .int 0, .int 0, .ref (n + 16), .ref (n + 17), .ref (n + 18), .int 0, .int ((-1)), .int 0, .int 0])), .inl (24, fun _ => 0), .inl (24, fun _ => 0), .inl (24, fun _ => 0)]) (by simp only [List.append_assoc, List.cons_append, List.nil_append, Nat.add_assoc, Nat.reduceAdd, Nat.add_zero]) ?_
  refine g_putE (q := 39) (hp' := hp ++ [.inr (.inr (2, [.ref (n + 1), .ref (n + 8), .ref (n + 15), .int 0, .int 0, .int 0, .int 0, .int 0, .null, .null, .null, .int 0, .int 0, .int 0, .int 0, .int 0, .int 0, .int 0])), .inr (.inr (5, [.int 0, .int 0, .int 0, .int 32, .int 0, .int ((-1)), .int 0, .int 0, .ref (n + 2), .ref (n + 4), .ref (n + 6), .int ((-1)), .int 0, .int ((-1)), .int 0])), .inr (.inr (4, [.ref (n + 3), .int 0, .int 60])), .inl (60, fun _ => 0), .inr (.inr (4, [.ref (n + 5), .int 0, .int 60])), .inl (60, fun _ => 0), .inr (.inr (4, [.ref (n + 7), .int 0, .int 60])), .inl (60, fun _ => 0), .inr (.inr (5, [.int 1, .int 0, .int 0, .int 32, .int 0, .int ((-1)), .int 0, .int 0, .ref (n + 9), .ref (n + 11), .ref (n + 13), .int ((-1)), .int 0, .int ((-1)), .int 0])), .inr (.inr (4, [.ref (n + 10), .int 0, .int 60])), .inl (60, fun _ => 0), .inr (.inr (4, [.ref (n + 12), .int 0, .int 60])), .inl (60, fun _ => 0), .inr (.inr (4, [.ref (n + 14), .int 0, .int 60])), .inl (60, fun _ => 0), .inr (.inr (6, [.int 1, .int 0, .int 0, .ref (n + 16), .ref (n + 17), .ref (n + 18), .int 0, .int ((-1)), .int 0, .int 0])), .inl (24, fun _ => 0), .inl (24, fun _ => 0), .inl (24, fun _ => 0)]) C fX2_26 dX2_init_36 rfl (gapp_new hn rfl) (Nat.le_of_ble_eq_true rfl) (Or.inr rfl) rfl rfl (by intro z h; cases h) rfl (gapp_set hn) ?_
  refine g_aload_n (q := 40) C dX2_init_39 rfl rfl ?_
  refine g_iconst (v := 0) (q := 41) C dX2_init_40 (by decide) rfl ?_
  refine g_putE (q := 44) (hp' := hp ++ [.inr (.inr (2, [.ref (n + 1), .ref (n + 8), .ref (n + 15), .int 0, .int 0, .int 0, .int 0, .int 0, .null, .null, .null, .int 0, .int 0, .int 0, .int 0, .int 0, .int 0, .int 0])), .inr (.inr (5, [.int 0, .int 0, .int 0, .int 32, .int 0, .int ((-1)), .int 0, .int 0, .ref (n + 2), .ref (n + 4), .ref (n + 6), .int ((-1)), .int 0, .int ((-1)), .int 0])), .inr (.inr (4, [.ref (n + 3), .int 0, .int 60])), .inl (60, fun _ => 0), .inr (.inr (4, [.ref (n + 5), .int 0, .int 60])), .inl (60, fun _ => 0), .inr (.inr (4, [.ref (n + 7), .int 0, .int 60])), .inl (60, fun _ => 0), .inr (.inr (5, [.int 1, .int 0, .int 0, .int 32, .int 0, .int ((-1)), .int 0, .int 0, .ref (n + 9), .ref (n + 11), .ref (n + 13), .int ((-1)), .int 0, .int ((-1)), .int 0])), .inr (.inr (4, [.ref (n + 10), .int 0, .int 60])), .inl (60, fun _ => 0), .inr (.inr (4, [.ref (n + 12), .int 0, .int 60])), .inl (60, fun _ => 0), .inr (.inr (4, [.ref (n + 14), .int 0, .int 60])), .inl (60, fun _ => 0), .inr (.inr (6, [.int 1, .int 0, .int 0, .ref (n + 16), .ref (n + 17), .ref (n + 18), .int 0, .int ((-1)), .int 0, .int 0])), .inl (24, fun _ => 0), .inl (24, fun _ => 0), .inl (24, fun _ => 0)]) C fX2_30 dX2_init_41 rfl (gapp_new hn rfl) (Nat.le_of_ble_eq_true rfl) (Or.inl rfl) rfl rfl (by intro z h; cases h) rfl (gapp_set hn) ?_
  refine g_aload_n (q := 45) C dX2_init_44 rfl rfl ?_
  refine g_iconst (v := 0) (q := 46) C dX2_init_45 (by decide) rfl ?_
  refine g_putE (q := 49) (hp' := hp ++ [.inr (.inr (2, [.ref (n + 1), .ref (n + 8), .ref (n + 15), .int 0, .int 0, .int 0, .int 0, .int 0, .null, .null, .null, .int 0, .int 0, .int 0, .int 0, .int 0, .int 0, .int 0])), .inr (.inr (5, [.int 0, .int 0, .int 0, .int 32, .int 0, .int ((-1)), .int 0, .int 0, .ref (n + 2), .ref (n + 4), .ref (n + 6), .int ((-1)), .int 0, .int ((-1)), .int 0])), .inr (.inr (4, [.ref (n + 3), .int 0, .int 60])), .inl (60, fun _ => 0), .inr (.inr (4, [.ref (n + 5), .int 0, .int 60])), .inl (60, fun _ => 0), .inr (.inr (4, [.ref (n + 7), .int 0, .int 60])), .inl (60, fun _ => 0), .inr (.inr (5, [.int 1, .int 0, .int 0, .int 32, .int 0, .int ((-1)), .int 0, .int 0, .ref (n + 9), .ref (n + 11), .ref (n + 13), .int ((-1)), .int 0, .int ((-1)), .int 0])), .inr (.inr (4, [.ref (n + 10), .int 0, .int 60])), .inl (60, fun _ => 0), .inr (.inr (4, [.ref (n + 12), .int 0, .int 60])), .inl (60, fun _ => 0), .inr (.inr (4, [.ref (n + 14), .int 0, .int 60])), .inl (60, fun _ => 0), .inr (.inr (6, [.int 1, .int 0, .int 0, .ref (n + 16), .ref (n + 17), .ref (n + 18), .int 0, .int ((-1)), .int 0, .int 0])), .inl (24, fun _ => 0), .inl (24, fun _ => 0), .inl (24, fun _ => 0)]) C fX2_34 dX2_init_46 rfl (gapp_new hn rfl) (Nat.le_of_ble_eq_true rfl) (Or.inl rfl) rfl rfl (by intro z h; cases h) rfl (gapp_set hn) ?_
  refine g_aload_n (q := 50) C dX2_init_49 rfl rfl ?_
  refine g_iconst (v := 0) (q := 51) C dX2_init_50 (by decide) rfl ?_
  refine g_putE (q := 54) (hp' := hp ++ [.inr (.inr (2, [.ref (n + 1), .ref (n + 8), .ref (n + 15), .int 0, .int 0, .int 0, .int 0, .int 0, .null, .null, .null, .int 0, .int 0, .int 0, .int 0, .int 0, .int 0, .int 0])), .inr (.inr (5, [.int 0, .int 0, .int 0, .int 32, .int 0, .int ((-1)), .int 0, .int 0, .ref (n + 2), .ref (n + 4), .ref (n + 6), .int ((-1)), .int 0, .int ((-1)), .int 0])), .inr (.inr (4, [.ref (n + 3), .int 0, .int 60])), .inl (60, fun _ => 0), .inr (.inr (4, [.ref (n + 5), .int 0, .int 60])), .inl (60, fun _ => 0), .inr (.inr (4, [.ref (n + 7), .int 0, .int 60])), .inl (60, fun _ => 0), .inr (.inr (5, [.int 1, .int 0, .int 0, .int 32, .int 0, .int ((-1)), .int 0, .int 0, .ref (n + 9), .ref (n + 11), .ref (n + 13), .int ((-1)), .int 0, .int ((-1)), .int 0])), .inr (.inr (4, [.ref (n + 10), .int 0, .int 60])), .inl (60, fun _ => 0), .inr (.inr (4, [.ref (n + 12), .int 0, .int 60])), .inl (60, fun _ => 0), .inr (.inr (4, [.ref (n + 14), .int 0, .int 60])), .inl (60, fun _ => 0), .inr (.inr (6, [.int 1, .int 0, .int 0, .ref (n + 16), .ref (n + 17), .ref (n + 18), .int 0, .int ((-1)), .int 0, .int 0])), .inl (24, fun _ => 0), .inl (24, fun _ => 0), .inl (24, fun _ => 0)]) C fX2_37 dX2_init_51 rfl (gapp_new hn rfl) (Nat.le_of_ble_eq_true rfl) (Or.inl rfl) rfl rfl (by intro z h; cases h) rfl (gapp_set hn) ?_
  refine g_aload_n (q := 55) C dX2_init_54 rfl rfl ?_
  refine g_iconst (v := 0) (q := 56) C dX2_init_55 (by decide) rfl ?_
  refine g_putE (q := 59) (hp' := hp ++ [.inr (.inr (2, [.ref (n + 1), .ref (n + 8), .ref (n + 15), .int 0, .int 0, .int 0, .int 0, .int 0, .null, .null, .null, .int 0, .int 0, .int 0, .int 0, .int 0, .int 0, .int 0])), .inr (.inr (5, [.int 0, .int 0, .int 0, .int 32, .int 0, .int ((-1)), .int 0, .int 0, .ref (n + 2), .ref (n + 4), .ref (n + 6), .int ((-1)), .int 0, .int ((-1)), .int 0])), .inr (.inr (4, [.ref (n + 3), .int 0, .int 60])), .inl (60, fun _ => 0), .inr (.inr (4, [.ref (n + 5), .int 0, .int 60])), .inl (60, fun _ => 0), .inr (.inr (4, [.ref (n + 7), .int 0, .int 60])), .inl (60, fun _ => 0), .inr (.inr (5, [.int 1, .int 0, .int 0, .int 32, .int 0, .int ((-1)), .int 0, .int 0, .ref (n + 9), .ref (n + 11), .ref (n + 13), .int ((-1)), .int 0, .int ((-1)), .int 0])), .inr (.inr (4, [.ref (n + 10), .int 0, .int 60])), .inl (60, fun _ => 0), .inr (.inr (4, [.ref (n + 12), .int 0, .int 60])), .inl (60, fun _ => 0), .inr (.inr (4, [.ref (n + 14), .int 0, .int 60])), .inl (60, fun _ => 0), .inr (.inr (6, [.int 1, .int 0, .int 0, .ref (n + 16), .ref (n + 17), .ref (n + 18), .int 0, .int ((-1)), .int 0, .int 0])), .inl (24, fun _ => 0), .inl (24, fun _ => 0), .inl (24, fun _ => 0)]) C fX2_40 dX2_init_56 rfl (gapp_new hn rfl) (Nat.le_of_ble_eq_true rfl) (Or.inl rfl) rfl rfl (by intro z h; cases h) rfl (gapp_set hn) ?_
  refine g_aload_n (q := 60) C dX2_init_59 rfl rfl ?_
  refine g_iconst (v := 0) (q := 61) C dX2_init_60 (by decide) rfl ?_
  refine g_putE (q := 64) (hp' := hp ++ [.inr (.inr (2, [.ref (n + 1), .ref (n + 8), .ref (n + 15), .int 0, .int 0, .int 0, .int 0, .int 0, .null, .null, .null, .int 0, .int 0, .int 0, .int 0, .int 0, .int 0, .int 0])), .inr (.inr (5, [.int 0, .int 0, .int 0, .int 32, .int 0, .int ((-1)), .int 0, .int 0, .ref (n + 2), .ref (n + 4), .ref (n + 6), .int ((-1)), .int 0, .int ((-1)), .int 0])), .inr (.inr (4, [.ref (n + 3), .int 0, .int 60])), .inl (60, fun _ => 0), .inr (.inr (4, [.ref (n + 5), .int 0, .int 60])), .inl (60, fun _ => 0), .inr (.inr (4, [.ref (n + 7), .int 0, .int 60])), .inl (60, fun _ => 0), .inr (.inr (5, [.int 1, .int 0, .int 0, .int 32, .int 0, .int ((-1)), .int 0, .int 0, .ref (n + 9), .ref (n + 11), .ref (n + 13), .int ((-1)), .int 0, .int ((-1)), .int 0])), .inr (.inr (4, [.ref (n + 10), .int 0, .int 60])), .inl (60, fun _ => 0), .inr (.inr (4, [.ref (n + 12), .int 0, .int 60])), .inl (60, fun _ => 0), .inr (.inr (4, [.ref (n + 14), .int 0, .int 60])), .inl (60, fun _ => 0), .inr (.inr (6, [.int 1, .int 0, .int 0, .ref (n + 16), .ref (n + 17), .ref (n + 18), .int 0, .int ((-1)), .int 0, .int 0])), .inl (24, fun _ => 0), .inl (24, fun _ => 0), .inl (24, fun _ => 0)]) C fX2_43 dX2_init_61 rfl (gapp_new hn rfl) (Nat.le_of_ble_eq_true rfl) (Or.inl rfl) rfl rfl (by intro z h; cases h) rfl (gapp_set hn) ?_
  refine g_aload_n (q := 65) C dX2_init_64 rfl rfl ?_
  refine g_new (q := 68) (k := n + 19) C nX2_46 dX2_init_65 rfl (by rw [List.length_append, hn]; rfl) (Nat.le_of_ble_eq_true rfl) (Nat.le_of_ble_eq_true rfl) ?_
  refine g_heap (hp2 := hp ++ [.inr (.inr (2, [.ref (n + 1), .ref (n + 8), .ref (n + 15), .int 0, .int 0, .int 0, .int 0, .int 0, .null, .null, .null, .int 0, .int 0, .int 0, .int 0, .int 0, .int 0, .int 0])), .inr (.inr (5, [.int 0, .int 0, .int 0, .int 32, .int 0, .int ((-1)), .int 0, .int 0, .ref (n + 2), .ref (n + 4), .ref (n + 6), .int ((-1)), .int 0, .int ((-1)), .int 0])), .inr (.inr (4, [.ref (n + 3), .int 0, .int 60])), .inl (60, fun _ => 0), .inr (.inr (4, [.ref (n + 5), .int 0, .int 60])), .inl (60, fun _ => 0), .inr (.inr (4, [.ref (n + 7), .int 0, .int 60])), .inl (60, fun _ => 0), .inr (.inr (5, [.int 1, .int 0, .int 0, .int 32, .int 0, .int ((-1)), .int 0, .int 0, .ref (n + 9), .ref (n + 11), .ref (n + 13), .int ((-1)), .int 0, .int ((-1)), .int 0])), .inr (.inr (4, [.ref (n + 10), .int 0, .int 60])), .inl (60, fun _ => 0), .inr (.inr (4, [.ref (n + 12), .int 0, .int 60])), .inl (60, fun _ => 0), .inr (.inr (4, [.ref (n + 14), .int 0, .int 60])), .inl (60, fun _ => 0), .inr (.inr (6, [.int 1, .int 0, .int 0, .ref (n + 16), .ref (n + 17), .ref (n + 18), .int 0, .int ((-1)), .int 0, .int 0])), .inl (24, fun _ => 0), .inl (24, fun _ => 0), .inl (24, fun _ => 0), .inr (.inr (4, [.null, .int 0, .int 0]))]) (by simp only [List.append_assoc, List.cons_append, List.nil_append]) ?_
  refine g_dup (q := 69) C dX2_init_68 rfl rfl ?_
  refine g_bipush (v := 64) (q := 71) C dX2_init_69 (by decide) rfl ?_
  refine g_bipush (v := 64) (q := 73) C dX2_init_71 (by decide) rfl ?_
  refine g_heap (hp2 := (hp ++ [.inr (.inr (2, [.ref (n + 1), .ref (n + 8), .ref (n + 15), .int 0, .int 0, .int 0, .int 0, .int 0, .null, .null, .null, .int 0, .int 0, .int 0, .int 0, .int 0, .int 0, .int 0])), .inr (.inr (5, [.int 0, .int 0, .int 0, .int 32, .int 0, .int ((-1)), .int 0, .int 0, .ref (n + 2), .ref (n + 4), .ref (n + 6), .int ((-1)), .int 0, .int ((-1)), .int 0])), .inr (.inr (4, [.ref (n + 3), .int 0, .int 60])), .inl (60, fun _ => 0), .inr (.inr (4, [.ref (n + 5), .int 0, .int 60])), .inl (60, fun _ => 0), .inr (.inr (4, [.ref (n + 7), .int 0, .int 60])), .inl (60, fun _ => 0), .inr (.inr (5, [.int 1, .int 0, .int 0, .int 32, .int 0, .int ((-1)), .int 0, .int 0, .ref (n + 9), .ref (n + 11), .ref (n + 13), .int ((-1)), .int 0, .int ((-1)), .int 0])), .inr (.inr (4, [.ref (n + 10), .int 0, .int 60])), .inl (60, fun _ => 0), .inr (.inr (4, [.ref (n + 12), .int 0, .int 60])), .inl (60, fun _ => 0), .inr (.inr (4, [.ref (n + 14), .int 0, .int 60])), .inl (60, fun _ => 0), .inr (.inr (6, [.int 1, .int 0, .int 0, .ref (n + 16), .ref (n + 17), .ref (n + 18), .int 0, .int ((-1)), .int 0, .int 0])), .inl (24, fun _ => 0), .inl (24, fun _ => 0), .inl (24, fun _ => 0)]) ++ [.inr (.inr (4, [.null, .int 0, .int 0]))]) (by simp only [List.append_assoc, List.cons_append, List.nil_append]) ?_
  refine g_callIv (q := 76) (As := [.int 64, .int 64]) C gyX4_init giX4_init rfl t_298 (c_X4_init (n := n + 19) (N := 64) (first := 64) (by rw [List.length_append, hn]; rfl) (by decide) (by decide)) dX2_init_73 rfl rfl rfl (Nat.le_of_ble_eq_true rfl) (Nat.le_of_ble_eq_true rfl) (Nat.le_of_ble_eq_true rfl) (Nat.le_of_ble_eq_true rfl) (Nat.le_of_ble_eq_true rfl) rfl ?_
  refine g_heap (hp2 := hp ++ [.inr (.inr (2, [.ref (n + 1), .ref (n + 8), .ref (n + 15), .int 0, .int 0, .int 0, .int 0, .int 0, .null, .null, .null, .int 0, .int 0, .int 0, .int 0, .int 0, .int 0, .int 0])), .inr (.inr (5, [.int 0, .int 0, .int 0, .int 32, .int 0, .int ((-1)), .int 0, .int 0, .ref (n + 2), .ref (n + 4), .ref (n + 6), .int ((-1)), .int 0, .int ((-1)), .int 0])), .inr (.inr (4, [.ref (n + 3), .int 0, .int 60])), .inl (60, fun _ => 0), .inr (.inr (4, [.ref (n + 5), .int 0, .int 60])), .inl (60, fun _ => 0), .inr (.inr (4, [.ref (n + 7), .int 0, .int 60])), .inl (60, fun _ => 0), .inr (.inr (5, [.int 1, .int 0, .int 0, .int 32, .int 0, .int ((-1)), .int 0, .int 0, .ref (n + 9), .ref (n + 11), .ref (n + 13), .int ((-1)), .int 0, .int ((-1)), .int 0])), .inr (.inr (4, [.ref (n + 10), .int 0, .int 60])), .inl (60, fun _ => 0), .inr (.inr (4, [.ref (n + 12), .int 0, .int 60])), .inl (60, fun _ => 0), .inr (.inr (4, [.ref (n + 14), .int 0, .int 60])), .inl (60, fun _ => 0), .inr (.inr (6, [.int 1, .int 0, .int 0, .ref (n + 16), .ref (n + 17), .ref (n + 18), .int 0, .int ((-1)), .int 0, .int 0])), .inl (24, fun _ => 0), .inl (24, fun _ => 0), .inl (24, fun _ => 0), .inr (.inr (4, [.ref (n + 20), .int 0, .int 64])), .inl (64, fun _ => 0)]) (by simp only [List.append_assoc, List.cons_append, List.nil_append, Nat.add_assoc, Nat.reduceAdd, Nat.add_zero]) ?_
  refine g_putE (q := 79) (hp' := hp ++ [.inr (.inr (2, [.ref (n + 1), .ref (n + 8), .ref (n + 15), .int 0, .int 0, .int 0, .int 0, .int 0, .ref (n + 19), .null, .null, .int 0, .int 0, .int 0, .int 0, .int 0, .int 0, .int 0])), .inr (.inr (5, [.int 0, .int 0, .int 0, .int 32, .int 0, .int ((-1)), .int 0, .int 0, .ref (n + 2), .ref (n + 4), .ref (n + 6), .int ((-1)), .int 0, .int ((-1)), .int 0])), .inr (.inr (4, [.ref (n + 3), .int 0, .int 60])), .inl (60, fun _ => 0), .inr (.inr (4, [.ref (n + 5), .int 0, .int 60])), .inl (60, fun _ => 0), .inr (.inr (4, [.ref (n + 7), .int 0, .int 60])), .inl (60, fun _ => 0), .inr (.inr (5, [.int 1, .int 0, .int 0, .int 32, .int 0, .int ((-1)), .int 0, .int 0, .ref (n + 9), .ref (n + 11), .ref (n + 13), .int ((-1)), .int 0, .int ((-1)), .int 0])), .inr (.inr (4, [.ref (n + 10), .int 0, .int 60])), .inl (60, fun _ => 0), .inr (.inr (4, [.ref (n + 12), .int 0, .int 60])), .inl (60, fun _ => 0), .inr (.inr (4, [.ref (n + 14), .int 0, .int 60])), .inl (60, fun _ => 0), .inr (.inr (6, [.int 1, .int 0, .int 0, .ref (n + 16), .ref (n + 17), .ref (n + 18), .int 0, .int ((-1)), .int 0, .int 0])), .inl (24, fun _ => 0), .inl (24, fun _ => 0), .inl (24, fun _ => 0), .inr (.inr (4, [.ref (n + 20), .int 0, .int 64])), .inl (64, fun _ => 0)]) C fX2_51 dX2_init_76 rfl (gapp_new hn rfl) (Nat.le_of_ble_eq_true rfl) (Or.inr rfl) rfl rfl (by intro z h; cases h) rfl (gapp_set hn) ?_
  refine g_aload_n (q := 80) C dX2_init_79 rfl rfl ?_
  refine g_new (q := 83) (k := n + 21) C nX2_46 dX2_init_80 rfl (by rw [List.length_append, hn]; rfl) (Nat.le_of_ble_eq_true rfl) (Nat.le_of_ble_eq_true rfl) ?_
  refine g_heap (hp2 := hp ++ [.inr (.inr (2, [.ref (n + 1), .ref (n + 8), .ref (n + 15), .int 0, .int 0, .int 0, .int 0, .int 0, .ref (n + 19), .null, .null, .int 0, .int 0, .int 0, .int 0, .int 0, .int 0, .int 0])), .inr (.inr (5, [.int 0, .int 0, .int 0, .int 32, .int 0, .int ((-1)), .int 0, .int 0, .ref (n + 2), .ref (n + 4), .ref (n + 6), .int ((-1)), .int 0, .int ((-1)), .int 0])), .inr (.inr (4, [.ref (n + 3), .int 0, .int 60])), .inl (60, fun _ => 0), .inr (.inr (4, [.ref (n + 5), .int 0, .int 60])), .inl (60, fun _ => 0), .inr (.inr (4, [.ref (n + 7), .int 0, .int 60])), .inl (60, fun _ => 0), .inr (.inr (5, [.int 1, .int 0, .int 0, .int 32, .int 0, .int ((-1)), .int 0, .int 0, .ref (n + 9), .ref (n + 11), .ref (n + 13), .int ((-1)), .int 0, .int ((-1)), .int 0])), .inr (.inr (4, [.ref (n + 10), .int 0, .int 60])), .inl (60, fun _ => 0), .inr (.inr (4, [.ref (n + 12), .int 0, .int 60])), .inl (60, fun _ => 0), .inr (.inr (4, [.ref (n + 14), .int 0, .int 60])), .inl (60, fun _ => 0), .inr (.inr (6, [.int 1, .int 0, .int 0, .ref (n + 16), .ref (n + 17), .ref (n + 18), .int 0, .int ((-1)), .int 0, .int 0])), .inl (24, fun _ => 0), .inl (24, fun _ => 0), .inl (24, fun _ => 0), .inr (.inr (4, [.ref (n + 20), .int 0, .int 64])), .inl (64, fun _ => 0), .inr (.inr (4, [.null, .int 0, .int 0]))]) (by simp only [List.append_assoc, List.cons_append, List.nil_append]) ?_
  refine g_dup (q := 84) C dX2_init_83 rfl rfl ?_
  refine g_bipush (v := 64) (q := 86) C dX2_init_84 (by decide) rfl ?_
  refine g_bipush (v := 64) (q := 88) C dX2_init_86 (by decide) rfl ?_
  refine g_heap (hp2 := (hp ++ [.inr (.inr (2, [.ref (n + 1), .ref (n + 8), .ref (n + 15), .int 0, .int 0, .int 0, .int 0, .int 0, .ref (n + 19), .null, .null, .int 0, .int 0, .int 0, .int 0, .int 0, .int 0, .int 0])), .inr (.inr (5, [.int 0, .int 0, .int 0, .int 32, .int 0, .int ((-1)), .int 0, .int 0, .ref (n + 2), .ref (n + 4), .ref (n + 6), .int ((-1)), .int 0, .int ((-1)), .int 0])), .inr (.inr (4, [.ref (n + 3), .int 0, .int 60])), .inl (60, fun _ => 0), .inr (.inr (4, [.ref (n + 5), .int 0, .int 60])), .inl (60, fun _ => 0), .inr (.inr (4, [.ref (n + 7), .int 0, .int 60])), .inl (60, fun _ => 0), .inr (.inr (5, [.int 1, .int 0, .int 0, .int 32, .int 0, .int ((-1)), .int 0, .int 0, .ref (n + 9), .ref (n + 11), .ref (n + 13), .int ((-1)), .int 0, .int ((-1)), .int 0])), .inr (.inr (4, [.ref (n + 10), .int 0, .int 60])), .inl (60, fun _ => 0), .inr (.inr (4, [.ref (n + 12), .int 0, .int 60])), .inl (60, fun _ => 0), .inr (.inr (4, [.ref (n + 14), .int 0, .int 60])), .inl (60, fun _ => 0), .inr (.inr (6, [.int 1, .int 0, .int 0, .ref (n + 16), .ref (n + 17), .ref (n + 18), .int 0, .int ((-1)), .int 0, .int 0])), .inl (24, fun _ => 0), .inl (24, fun _ => 0), .inl (24, fun _ => 0), .inr (.inr (4, [.ref (n + 20), .int 0, .int 64])), .inl (64, fun _ => 0)]) ++ [.inr (.inr (4, [.null, .int 0, .int 0]))]) (by simp only [List.append_assoc, List.cons_append, List.nil_append]) ?_
  refine g_callIv (q := 91) (As := [.int 64, .int 64]) C gyX4_init giX4_init rfl t_298 (c_X4_init (n := n + 21) (N := 64) (first := 64) (by rw [List.length_append, hn]; rfl) (by decide) (by decide)) dX2_init_88 rfl rfl rfl (Nat.le_of_ble_eq_true rfl) (Nat.le_of_ble_eq_true rfl) (Nat.le_of_ble_eq_true rfl) (Nat.le_of_ble_eq_true rfl) (Nat.le_of_ble_eq_true rfl) rfl ?_
  refine g_heap (hp2 := hp ++ [.inr (.inr (2, [.ref (n + 1), .ref (n + 8), .ref (n + 15), .int 0, .int 0, .int 0, .int 0, .int 0, .ref (n + 19), .null, .null, .int 0, .int 0, .int 0, .int 0, .int 0, .int 0, .int 0])), .inr (.inr (5, [.int 0, .int 0, .int 0, .int 32, .int 0, .int ((-1)), .int 0, .int 0, .ref (n + 2), .ref (n + 4), .ref (n + 6), .int ((-1)), .int 0, .int ((-1)), .int 0])), .inr (.inr (4, [.ref (n + 3), .int 0, .int 60])), .inl (60, fun _ => 0), .inr (.inr (4, [.ref (n + 5), .int 0, .int 60])), .inl (60, fun _ => 0), .inr (.inr (4, [.ref (n + 7), .int 0, .int 60])), .inl (60, fun _ => 0), .inr (.inr (5, [.int 1, .int 0, .int 0, .int 32, .int 0, .int ((-1)), .int 0, .int 0, .ref (n + 9), .ref (n + 11), .ref (n + 13), .int ((-1)), .int 0, .int ((-1)), .int 0])), .inr (.inr (4, [.ref (n + 10), .int 0, .int 60])), .inl (60, fun _ => 0), .inr (.inr (4, [.ref (n + 12), .int 0, .int 60])), .inl (60, fun _ => 0), .inr (.inr (4, [.ref (n + 14), .int 0, .int 60])), .inl (60, fun _ => 0), .inr (.inr (6, [.int 1, .int 0, .int 0, .ref (n + 16), .ref (n + 17), .ref (n + 18), .int 0, .int ((-1)), .int 0, .int 0])), .inl (24, fun _ => 0), .inl (24, fun _ => 0), .inl (24, fun _ => 0), .inr (.inr (4, [.ref (n + 20), .int 0, .int 64])), .inl (64, fun _ => 0), .inr (.inr (4, [.ref (n + 22), .int 0, .int 64])), .inl (64, fun _ => 0)]) (by simp only [List.append_assoc, List.cons_append, List.nil_append, Nat.add_assoc, Nat.reduceAdd, Nat.add_zero]) ?_
  refine g_putE (q := 94) (hp' := hp ++ [.inr (.inr (2, [.ref (n + 1), .ref (n + 8), .ref (n + 15), .int 0, .int 0, .int 0, .int 0, .int 0, .ref (n + 19), .ref (n + 21), .null, .int 0, .int 0, .int 0, .int 0, .int 0, .int 0, .int 0])), .inr (.inr (5, [.int 0, .int 0, .int 0, .int 32, .int 0, .int ((-1)), .int 0, .int 0, .ref (n + 2), .ref (n + 4), .ref (n + 6), .int ((-1)), .int 0, .int ((-1)), .int 0])), .inr (.inr (4, [.ref (n + 3), .int 0, .int 60])), .inl (60, fun _ => 0), .inr (.inr (4, [.ref (n + 5), .int 0, .int 60])), .inl (60, fun _ => 0), .inr (.inr (4, [.ref (n + 7), .int 0, .int 60])), .inl (60, fun _ => 0), .inr (.inr (5, [.int 1, .int 0, .int 0, .int 32, .int 0, .int ((-1)), .int 0, .int 0, .ref (n + 9), .ref (n + 11), .ref (n + 13), .int ((-1)), .int 0, .int ((-1)), .int 0])), .inr (.inr (4, [.ref (n + 10), .int 0, .int 60])), .inl (60, fun _ => 0), .inr (.inr (4, [.ref (n + 12), .int 0, .int 60])), .inl (60, fun _ => 0), .inr (.inr (4, [.ref (n + 14), .int 0, .int 60])), .inl (60, fun _ => 0), .inr (.inr (6, [.int 1, .int 0, .int 0, .ref (n + 16), .ref (n + 17), .ref (n + 18), .int 0, .int ((-1)), .int 0, .int 0])), .inl (24, fun _ => 0), .inl (24, fun _ => 0), .inl (24, fun _ => 0), .inr (.inr (4, [.ref (n + 20), .int 0, .int 64])), .inl (64, fun _ => 0), .inr (.inr (4, [.ref (n + 22), .int 0, .int 64])), .inl (64, fun _ => 0)]) C fX2_55 dX2_init_91 rfl (gapp_new hn rfl) (Nat.le_of_ble_eq_true rfl) (Or.inr rfl) rfl rfl (by intro z h; cases h) rfl (gapp_set hn) ?_
  refine g_aload_n (q := 95) C dX2_init_94 rfl rfl ?_
  refine g_iconst (v := 3) (q := 96) C dX2_init_95 (by decide) rfl ?_
  refine g_putE (q := 99) (hp' := hp ++ [.inr (.inr (2, [.ref (n + 1), .ref (n + 8), .ref (n + 15), .int 0, .int 0, .int 0, .int 0, .int 0, .ref (n + 19), .ref (n + 21), .null, .int 3, .int 0, .int 0, .int 0, .int 0, .int 0, .int 0])), .inr (.inr (5, [.int 0, .int 0, .int 0, .int 32, .int 0, .int ((-1)), .int 0, .int 0, .ref (n + 2), .ref (n + 4), .ref (n + 6), .int ((-1)), .int 0, .int ((-1)), .int 0])), .inr (.inr (4, [.ref (n + 3), .int 0, .int 60])), .inl (60, fun _ => 0), .inr (.inr (4, [.ref (n + 5), .int 0, .int 60])), .inl (60, fun _ => 0), .inr (.inr (4, [.ref (n + 7), .int 0, .int 60])), .inl (60, fun _ => 0), .inr (.inr (5, [.int 1, .int 0, .int 0, .int 32, .int 0, .int ((-1)), .int 0, .int 0, .ref (n + 9), .ref (n + 11), .ref (n + 13), .int ((-1)), .int 0, .int ((-1)), .int 0])), .inr (.inr (4, [.ref (n + 10), .int 0, .int 60])), .inl (60, fun _ => 0), .inr (.inr (4, [.ref (n + 12), .int 0, .int 60])), .inl (60, fun _ => 0), .inr (.inr (4, [.ref (n + 14), .int 0, .int 60])), .inl (60, fun _ => 0), .inr (.inr (6, [.int 1, .int 0, .int 0, .ref (n + 16), .ref (n + 17), .ref (n + 18), .int 0, .int ((-1)), .int 0, .int 0])), .inl (24, fun _ => 0), .inl (24, fun _ => 0), .inl (24, fun _ => 0), .inr (.inr (4, [.ref (n + 20), .int 0, .int 64])), .inl (64, fun _ => 0), .inr (.inr (4, [.ref (n + 22), .int 0, .int 64])), .inl (64, fun _ => 0)]) C fX2_58 dX2_init_96 rfl (gapp_new hn rfl) (Nat.le_of_ble_eq_true rfl) (Or.inl rfl) rfl rfl (by intro z h; cases h) rfl (gapp_set hn) ?_
  refine g_aload_n (q := 100) C dX2_init_99 rfl rfl ?_
  refine g_iconst (v := 0) (q := 101) C dX2_init_100 (by decide) rfl ?_
  refine g_putE (q := 104) (hp' := hp ++ [.inr (.inr (2, [.ref (n + 1), .ref (n + 8), .ref (n + 15), .int 0, .int 0, .int 0, .int 0, .int 0, .ref (n + 19), .ref (n + 21), .null, .int 3, .int 0, .int 0, .int 0, .int 0, .int 0, .int 0])), .inr (.inr (5, [.int 0, .int 0, .int 0, .int 32, .int 0, .int ((-1)), .int 0, .int 0, .ref (n + 2), .ref (n + 4), .ref (n + 6), .int ((-1)), .int 0, .int ((-1)), .int 0])), .inr (.inr (4, [.ref (n + 3), .int 0, .int 60])), .inl (60, fun _ => 0), .inr (.inr (4, [.ref (n + 5), .int 0, .int 60])), .inl (60, fun _ => 0), .inr (.inr (4, [.ref (n + 7), .int 0, .int 60])), .inl (60, fun _ => 0), .inr (.inr (5, [.int 1, .int 0, .int 0, .int 32, .int 0, .int ((-1)), .int 0, .int 0, .ref (n + 9), .ref (n + 11), .ref (n + 13), .int ((-1)), .int 0, .int ((-1)), .int 0])), .inr (.inr (4, [.ref (n + 10), .int 0, .int 60])), .inl (60, fun _ => 0), .inr (.inr (4, [.ref (n + 12), .int 0, .int 60])), .inl (60, fun _ => 0), .inr (.inr (4, [.ref (n + 14), .int 0, .int 60])), .inl (60, fun _ => 0), .inr (.inr (6, [.int 1, .int 0, .int 0, .ref (n + 16), .ref (n + 17), .ref (n + 18), .int 0, .int ((-1)), .int 0, .int 0])), .inl (24, fun _ => 0), .inl (24, fun _ => 0), .inl (24, fun _ => 0), .inr (.inr (4, [.ref (n + 20), .int 0, .int 64])), .inl (64, fun _ => 0), .inr (.inr (4, [.ref (n + 22), .int 0, .int 64])), .inl (64, fun _ => 0)]) C fX2_61 dX2_init_101 rfl (gapp_new hn rfl) (Nat.le_of_ble_eq_true rfl) (Or.inl rfl) rfl rfl (by intro z h; cases h) rfl (gapp_set hn) ?_
  refine g_aload_n (q := 105) C dX2_init_104 rfl rfl ?_
  refine g_iconst (v := (-1)) (q := 106) C dX2_init_105 (by decide) rfl ?_
  refine g_putE (q := 109) (hp' := hp ++ [.inr (.inr (2, [.ref (n + 1), .ref (n + 8), .ref (n + 15), .int 0, .int 0, .int 0, .int 0, .int 0, .ref (n + 19), .ref (n + 21), .null, .int 3, .int 0, .int ((-1)), .int 0, .int 0, .int 0, .int 0])), .inr (.inr (5, [.int 0, .int 0, .int 0, .int 32, .int 0, .int ((-1)), .int 0, .int 0, .ref (n + 2), .ref (n + 4), .ref (n + 6), .int ((-1)), .int 0, .int ((-1)), .int 0])), .inr (.inr (4, [.ref (n + 3), .int 0, .int 60])), .inl (60, fun _ => 0), .inr (.inr (4, [.ref (n + 5), .int 0, .int 60])), .inl (60, fun _ => 0), .inr (.inr (4, [.ref (n + 7), .int 0, .int 60])), .inl (60, fun _ => 0), .inr (.inr (5, [.int 1, .int 0, .int 0, .int 32, .int 0, .int ((-1)), .int 0, .int 0, .ref (n + 9), .ref (n + 11), .ref (n + 13), .int ((-1)), .int 0, .int ((-1)), .int 0])), .inr (.inr (4, [.ref (n + 10), .int 0, .int 60])), .inl (60, fun _ => 0), .inr (.inr (4, [.ref (n + 12), .int 0, .int 60])), .inl (60, fun _ => 0), .inr (.inr (4, [.ref (n + 14), .int 0, .int 60])), .inl (60, fun _ => 0), .inr (.inr (6, [.int 1, .int 0, .int 0, .ref (n + 16), .ref (n + 17), .ref (n + 18), .int 0, .int ((-1)), .int 0, .int 0])), .inl (24, fun _ => 0), .inl (24, fun _ => 0), .inl (24, fun _ => 0), .inr (.inr (4, [.ref (n + 20), .int 0, .int 64])), .inl (64, fun _ => 0), .inr (.inr (4, [.ref (n + 22), .int 0, .int 64])), .inl (64, fun _ => 0)]) C fX2_65 dX2_init_106 rfl (gapp_new hn rfl) (Nat.le_of_ble_eq_true rfl) (Or.inl rfl) rfl rfl (by intro z h; cases h) rfl (gapp_set hn) ?_
  refine g_aload_n (q := 110) C dX2_init_109 rfl rfl ?_
  refine g_iconst (v := 0) (q := 111) C dX2_init_110 (by decide) rfl ?_
  refine g_putE (q := 114) (hp' := hp ++ [.inr (.inr (2, [.ref (n + 1), .ref (n + 8), .ref (n + 15), .int 0, .int 0, .int 0, .int 0, .int 0, .ref (n + 19), .ref (n + 21), .null, .int 3, .int 0, .int ((-1)), .int 0, .int 0, .int 0, .int 0])), .inr (.inr (5, [.int 0, .int 0, .int 0, .int 32, .int 0, .int ((-1)), .int 0, .int 0, .ref (n + 2), .ref (n + 4), .ref (n + 6), .int ((-1)), .int 0, .int ((-1)), .int 0])), .inr (.inr (4, [.ref (n + 3), .int 0, .int 60])), .inl (60, fun _ => 0), .inr (.inr (4, [.ref (n + 5), .int 0, .int 60])), .inl (60, fun _ => 0), .inr (.inr (4, [.ref (n + 7), .int 0, .int 60])), .inl (60, fun _ => 0), .inr (.inr (5, [.int 1, .int 0, .int 0, .int 32, .int 0, .int ((-1)), .int 0, .int 0, .ref (n + 9), .ref (n + 11), .ref (n + 13), .int ((-1)), .int 0, .int ((-1)), .int 0])), .inr (.inr (4, [.ref (n + 10), .int 0, .int 60])), .inl (60, fun _ => 0), .inr (.inr (4, [.ref (n + 12), .int 0, .int 60])), .inl (60, fun _ => 0), .inr (.inr (4, [.ref (n + 14), .int 0, .int 60])), .inl (60, fun _ => 0), .inr (.inr (6, [.int 1, .int 0, .int 0, .ref (n + 16), .ref (n + 17), .ref (n + 18), .int 0, .int ((-1)), .int 0, .int 0])), .inl (24, fun _ => 0), .inl (24, fun _ => 0), .inl (24, fun _ => 0), .inr (.inr (4, [.ref (n + 20), .int 0, .int 64])), .inl (64, fun _ => 0), .inr (.inr (4, [.ref (n + 22), .int 0, .int 64])), .inl (64, fun _ => 0)]) C fX2_68 dX2_init_111 rfl (gapp_new hn rfl) (Nat.le_of_ble_eq_true rfl) (Or.inl rfl) rfl rfl (by intro z h; cases h) rfl (gapp_set hn) ?_
  refine g_aload_n (q := 115) C dX2_init_114 rfl rfl ?_
  refine g_iconst (v := 0) (q := 116) C dX2_init_115 (by decide) rfl ?_
  refine g_putE (q := 119) (hp' := hp ++ [.inr (.inr (2, [.ref (n + 1), .ref (n + 8), .ref (n + 15), .int 0, .int 0, .int 0, .int 0, .int 0, .ref (n + 19), .ref (n + 21), .null, .int 3, .int 0, .int ((-1)), .int 0, .int 0, .int 0, .int 0])), .inr (.inr (5, [.int 0, .int 0, .int 0, .int 32, .int 0, .int ((-1)), .int 0, .int 0, .ref (n + 2), .ref (n + 4), .ref (n + 6), .int ((-1)), .int 0, .int ((-1)), .int 0])), .inr (.inr (4, [.ref (n + 3), .int 0, .int 60])), .inl (60, fun _ => 0), .inr (.inr (4, [.ref (n + 5), .int 0, .int 60])), .inl (60, fun _ => 0), .inr (.inr (4, [.ref (n + 7), .int 0, .int 60])), .inl (60, fun _ => 0), .inr (.inr (5, [.int 1, .int 0, .int 0, .int 32, .int 0, .int ((-1)), .int 0, .int 0, .ref (n + 9), .ref (n + 11), .ref (n + 13), .int ((-1)), .int 0, .int ((-1)), .int 0])), .inr (.inr (4, [.ref (n + 10), .int 0, .int 60])), .inl (60, fun _ => 0), .inr (.inr (4, [.ref (n + 12), .int 0, .int 60])), .inl (60, fun _ => 0), .inr (.inr (4, [.ref (n + 14), .int 0, .int 60])), .inl (60, fun _ => 0), .inr (.inr (6, [.int 1, .int 0, .int 0, .ref (n + 16), .ref (n + 17), .ref (n + 18), .int 0, .int ((-1)), .int 0, .int 0])), .inl (24, fun _ => 0), .inl (24, fun _ => 0), .inl (24, fun _ => 0), .inr (.inr (4, [.ref (n + 20), .int 0, .int 64])), .inl (64, fun _ => 0), .inr (.inr (4, [.ref (n + 22), .int 0, .int 64])), .inl (64, fun _ => 0)]) C fX2_71 dX2_init_116 rfl (gapp_new hn rfl) (Nat.le_of_ble_eq_true rfl) (Or.inl rfl) rfl rfl (by intro z h; cases h) rfl (gapp_set hn) ?_
  refine g_aload_n (q := 120) C dX2_init_119 rfl rfl ?_
  refine g_iconst (v := 0) (q := 121) C dX2_init_120 (by decide) rfl ?_
  refine g_putE (q := 124) (hp' := hp ++ [.inr (.inr (2, [.ref (n + 1), .ref (n + 8), .ref (n + 15), .int 0, .int 0, .int 0, .int 0, .int 0, .ref (n + 19), .ref (n + 21), .null, .int 3, .int 0, .int ((-1)), .int 0, .int 0, .int 0, .int 0])), .inr (.inr (5, [.int 0, .int 0, .int 0, .int 32, .int 0, .int ((-1)), .int 0, .int 0, .ref (n + 2), .ref (n + 4), .ref (n + 6), .int ((-1)), .int 0, .int ((-1)), .int 0])), .inr (.inr (4, [.ref (n + 3), .int 0, .int 60])), .inl (60, fun _ => 0), .inr (.inr (4, [.ref (n + 5), .int 0, .int 60])), .inl (60, fun _ => 0), .inr (.inr (4, [.ref (n + 7), .int 0, .int 60])), .inl (60, fun _ => 0), .inr (.inr (5, [.int 1, .int 0, .int 0, .int 32, .int 0, .int ((-1)), .int 0, .int 0, .ref (n + 9), .ref (n + 11), .ref (n + 13), .int ((-1)), .int 0, .int ((-1)), .int 0])), .inr (.inr (4, [.ref (n + 10), .int 0, .int 60])), .inl (60, fun _ => 0), .inr (.inr (4, [.ref (n + 12), .int 0, .int 60])), .inl (60, fun _ => 0), .inr (.inr (4, [.ref (n + 14), .int 0, .int 60])), .inl (60, fun _ => 0), .inr (.inr (6, [.int 1, .int 0, .int 0, .ref (n + 16), .ref (n + 17), .ref (n + 18), .int 0, .int ((-1)), .int 0, .int 0])), .inl (24, fun _ => 0), .inl (24, fun _ => 0), .inl (24, fun _ => 0), .inr (.inr (4, [.ref (n + 20), .int 0, .int 64])), .inl (64, fun _ => 0), .inr (.inr (4, [.ref (n + 22), .int 0, .int 64])), .inl (64, fun _ => 0)]) C fX2_74 dX2_init_121 rfl (gapp_new hn rfl) (Nat.le_of_ble_eq_true rfl) (Or.inl rfl) rfl rfl (by intro z h; cases h) rfl (gapp_set hn) ?_
  refine g_aload_n (q := 125) C dX2_init_124 rfl rfl ?_
  refine g_iconst (v := 0) (q := 126) C dX2_init_125 (by decide) rfl ?_
  refine g_putE (q := 129) (hp' := hp ++ [.inr (.inr (2, [.ref (n + 1), .ref (n + 8), .ref (n + 15), .int 0, .int 0, .int 0, .int 0, .int 0, .ref (n + 19), .ref (n + 21), .null, .int 3, .int 0, .int ((-1)), .int 0, .int 0, .int 0, .int 0])), .inr (.inr (5, [.int 0, .int 0, .int 0, .int 32, .int 0, .int ((-1)), .int 0, .int 0, .ref (n + 2), .ref (n + 4), .ref (n + 6), .int ((-1)), .int 0, .int ((-1)), .int 0])), .inr (.inr (4, [.ref (n + 3), .int 0, .int 60])), .inl (60, fun _ => 0), .inr (.inr (4, [.ref (n + 5), .int 0, .int 60])), .inl (60, fun _ => 0), .inr (.inr (4, [.ref (n + 7), .int 0, .int 60])), .inl (60, fun _ => 0), .inr (.inr (5, [.int 1, .int 0, .int 0, .int 32, .int 0, .int ((-1)), .int 0, .int 0, .ref (n + 9), .ref (n + 11), .ref (n + 13), .int ((-1)), .int 0, .int ((-1)), .int 0])), .inr (.inr (4, [.ref (n + 10), .int 0, .int 60])), .inl (60, fun _ => 0), .inr (.inr (4, [.ref (n + 12), .int 0, .int 60])), .inl (60, fun _ => 0), .inr (.inr (4, [.ref (n + 14), .int 0, .int 60])), .inl (60, fun _ => 0), .inr (.inr (6, [.int 1, .int 0, .int 0, .ref (n + 16), .ref (n + 17), .ref (n + 18), .int 0, .int ((-1)), .int 0, .int 0])), .inl (24, fun _ => 0), .inl (24, fun _ => 0), .inl (24, fun _ => 0), .inr (.inr (4, [.ref (n + 20), .int 0, .int 64])), .inl (64, fun _ => 0), .inr (.inr (4, [.ref (n + 22), .int 0, .int 64])), .inl (64, fun _ => 0)]) C fX2_77 dX2_init_126 rfl (gapp_new hn rfl) (Nat.le_of_ble_eq_true rfl) (Or.inl rfl) rfl rfl (by intro z h; cases h) rfl (gapp_set hn) ?_
  refine g_aload_n (q := 130) C dX2_init_129 rfl rfl ?_
  refine g_aload_n (q := 131) C dX2_init_130 rfl rfl ?_
  refine g_putE (q := 134) (hp' := hp ++ [.inr (.inr (2, [.ref (n + 1), .ref (n + 8), .ref (n + 15), .int 0, .int 0, .int 0, .int 0, .int 0, .ref (n + 19), .ref (n + 21), .ref jr, .int 3, .int 0, .int ((-1)), .int 0, .int 0, .int 0, .int 0])), .inr (.inr (5, [.int 0, .int 0, .int 0, .int 32, .int 0, .int ((-1)), .int 0, .int 0, .ref (n + 2), .ref (n + 4), .ref (n + 6), .int ((-1)), .int 0, .int ((-1)), .int 0])), .inr (.inr (4, [.ref (n + 3), .int 0, .int 60])), .inl (60, fun _ => 0), .inr (.inr (4, [.ref (n + 5), .int 0, .int 60])), .inl (60, fun _ => 0), .inr (.inr (4, [.ref (n + 7), .int 0, .int 60])), .inl (60, fun _ => 0), .inr (.inr (5, [.int 1, .int 0, .int 0, .int 32, .int 0, .int ((-1)), .int 0, .int 0, .ref (n + 9), .ref (n + 11), .ref (n + 13), .int ((-1)), .int 0, .int ((-1)), .int 0])), .inr (.inr (4, [.ref (n + 10), .int 0, .int 60])), .inl (60, fun _ => 0), .inr (.inr (4, [.ref (n + 12), .int 0, .int 60])), .inl (60, fun _ => 0), .inr (.inr (4, [.ref (n + 14), .int 0, .int 60])), .inl (60, fun _ => 0), .inr (.inr (6, [.int 1, .int 0, .int 0, .ref (n + 16), .ref (n + 17), .ref (n + 18), .int 0, .int ((-1)), .int 0, .int 0])), .inl (24, fun _ => 0), .inl (24, fun _ => 0), .inl (24, fun _ => 0), .inr (.inr (4, [.ref (n + 20), .int 0, .int 64])), .inl (64, fun _ => 0), .inr (.inr (4, [.ref (n + 22), .int 0, .int 64])), .inl (64, fun _ => 0)]) C fX2_80 dX2_init_131 rfl (gapp_new hn rfl) (Nat.le_of_ble_eq_true rfl) (Or.inr rfl) rfl rfl (by intro z h; cases h) rfl (gapp_set hn) ?_
  exact E.2.1 _ _ _ _ _ dX2_init_134 rfl (Nat.le_of_ble_eq_true rfl) (Nat.le_of_ble_eq_true rfl) ⟨rfl, rfl⟩
set_option maxRecDepth 100000 in
set_option maxHeartbeats 4000000 in
theorem c_X2_init_n {hp : List gA} {n : Nat}  (hn : hp.length = n) : gM yX2_init cX2_init 2 (none) 3 64 [.ref (n + 0), .null] (hp ++ [.inr (.inr (2, [.null, .null, .null, .int 0, .int 0, .int 0, .int 0, .int 0, .null, .null, .null, .int 0, .int 0, .int 0, .int 0, .int 0, .int 0, .int 0]))]) (22) (624) (fun v h => v = none ∧ h = hp ++ [.inr (.inr (2, [.ref (n + 1), .ref (n + 8), .ref (n + 15), .int 0, .int 0, .int 0, .int 0, .int 0, .ref (n + 19), .ref (n + 21), .null, .int 3, .int 0, .int ((-1)), .int 0, .int 0, .int 0, .int 0])), .inr (.inr (5, [.int 0, .int 0, .int 0, .int 32, .int 0, .int ((-1)), .int 0, .int 0, .ref (n + 2), .ref (n + 4), .ref (n + 6), .int ((-1)), .int 0, .int ((-1)), .int 0])), .inr (.inr (4, [.ref (n + 3), .int 0, .int 60])), .inl (60, fun _ => 0), .inr (.inr (4, [.ref (n + 5), .int 0, .int 60])), .inl (60, fun _ => 0), .inr (.inr (4, [.ref (n + 7), .int 0, .int 60])), .inl (60, fun _ => 0), .inr (.inr (5, [.int 1, .int 0, .int 0, .int 32, .int 0, .int ((-1)), .int 0, .int 0, .ref (n + 9), .ref (n + 11), .ref (n + 13), .int ((-1)), .int 0, .int ((-1)), .int 0])), .inr (.inr (4, [.ref (n + 10), .int 0, .int 60])), .inl (60, fun _ => 0), .inr (.inr (4, [.ref (n + 12), .int 0, .int 60])), .inl (60, fun _ => 0), .inr (.inr (4, [.ref (n + 14), .int 0, .int 60])), .inl (60, fun _ => 0), .inr (.inr (6, [.int 1, .int 0, .int 0, .ref (n + 16), .ref (n + 17), .ref (n + 18), .int 0, .int ((-1)), .int 0, .int 0])), .inl (24, fun _ => 0), .inl (24, fun _ => 0), .inl (24, fun _ => 0), .inr (.inr (4, [.ref (n + 20), .int 0, .int 64])), .inl (64, fun _ => 0), .inr (.inr (4, [.ref (n + 22), .int 0, .int 64])), .inl (64, fun _ => 0)]) := by
  refine gM_of (ls0 := [some (.ref (n + 0)), some (.null)]) (by decide +kernel) (Nat.le_of_ble_eq_true rfl) rfl fun X C E => ?_
  refine g_aload_n (q := 1) C dX2_init_0 rfl rfl ?_
  refine g_objInit (q := 4) C t_188 t_123 t_124 dX2_init_1 rfl rfl (Nat.le_of_ble_eq_true rfl) (Nat.le_of_ble_eq_true rfl) ?_
  refine g_aload_n (q := 5) C dX2_init_4 rfl rfl ?_
  refine g_new (q := 8) (k := n + 1) C nX2_9 dX2_init_5 rfl (by rw [List.length_append, hn]; rfl) (Nat.le_of_ble_eq_true rfl) (Nat.le_of_ble_eq_true rfl) ?_
  refine g_heap (hp2 := hp ++ [.inr (.inr (2, [.null, .null, .null, .int 0, .int 0, .int 0, .int 0, .int 0, .null, .null, .null, .int 0, .int 0, .int 0, .int 0, .int 0, .int 0, .int 0])), .inr (.inr (5, [.int 0, .int 0, .int 0, .int 0, .int 0, .int 0, .int 0, .int 0, .null, .null, .null, .int 0, .int 0, .int 0, .int 0]))]) (by simp only [List.append_assoc, List.cons_append, List.nil_append]) ?_
  refine g_dup (q := 9) C dX2_init_8 rfl rfl ?_
  refine g_iconst (v := 0) (q := 10) C dX2_init_9 (by decide) rfl ?_
  refine g_heap (hp2 := (hp ++ [.inr (.inr (2, [.null, .null, .null, .int 0, .int 0, .int 0, .int 0, .int 0, .null, .null, .null, .int 0, .int 0, .int 0, .int 0, .int 0, .int 0, .int 0]))]) ++ [.inr (.inr (5, [.int 0, .int 0, .int 0, .int 0, .int 0, .int 0, .int 0, .int 0, .null, .null, .null, .int 0, .int 0, .int 0, .int 0]))]) (by simp only [List.append_assoc, List.cons_append, List.nil_append]) ?_
  refine g_callIv (q := 13) (As := [.int 0]) C gyX5_init giX5_init rfl t_191 (c_X5_init (n := n + 1) (by rw [List.length_append, hn]; rfl)) dX2_init_10 rfl rfl rfl (Nat.le_of_ble_eq_true rfl) (Nat.le_of_ble_eq_true rfl) (Nat.le_of_ble_eq_true rfl) (Nat.le_of_ble_eq_true rfl) (Nat.le_of_ble_eq_true rfl) rfl ?_
  refine g_heap (hp2 := hp ++ [.inr (.inr (2, [.null, .null, .null, .int 0, .int 0, .int 0, .int 0, .int 0, .null, .null, .null, .int 0, .int 0, .int 0, .int 0, .int 0, .int 0, .int 0])), .inr (.inr (5, [.int 0, .int 0, .int 0, .int 32, .int 0, .int ((-1)), .int 0, .int 0, .ref (n + 2), .ref (n + 4), .ref (n + 6), .int ((-1)), .int 0, .int ((-1)), .int 0])), .inr (.inr (4, [.ref (n + 3), .int 0, .int 60])), .inl (60, fun _ => 0), .inr (.inr (4, [.ref (n + 5), .int 0, .int 60])), .inl (60, fun _ => 0), .inr (.inr (4, [.ref (n + 7), .int 0, .int 60])), .inl (60, fun _ => 0)]) (by simp only [List.append_assoc, List.cons_append, List.nil_append, Nat.add_assoc, Nat.reduceAdd, Nat.add_zero]) ?_
  refine g_putE (q := 16) (hp' := hp ++ [.inr (.inr (2, [.ref (n + 1), .null, .null, .int 0, .int 0, .int 0, .int 0, .int 0, .null, .null, .null, .int 0, .int 0, .int 0, .int 0, .int 0, .int 0, .int 0])), .inr (.inr (5, [.int 0, .int 0, .int 0, .int 32, .int 0, .int ((-1)), .int 0, .int 0, .ref (n + 2), .ref (n + 4), .ref (n + 6), .int ((-1)), .int 0, .int ((-1)), .int 0])), .inr (.inr (4, [.ref (n + 3), .int 0, .int 60])), .inl (60, fun _ => 0), .inr (.inr (4, [.ref (n + 5), .int 0, .int 60])), .inl (60, fun _ => 0), .inr (.inr (4, [.ref (n + 7), .int 0, .int 60])), .inl (60, fun _ => 0)]) C fX2_14 dX2_init_13 rfl (gapp_new hn rfl) (Nat.le_of_ble_eq_true rfl) (Or.inr rfl) rfl rfl (by intro z h; cases h) rfl (gapp_set hn) ?_
  refine g_aload_n (q := 17) C dX2_init_16 rfl rfl ?_
  refine g_new (q := 20) (k := n + 8) C nX2_9 dX2_init_17 rfl (by rw [List.length_append, hn]; rfl) (Nat.le_of_ble_eq_true rfl) (Nat.le_of_ble_eq_true rfl) ?_
  refine g_heap (hp2 := hp ++ [.inr (.inr (2, [.ref (n + 1), .null, .null, .int 0, .int 0, .int 0, .int 0, .int 0, .null, .null, .null, .int 0, .int 0, .int 0, .int 0, .int 0, .int 0, .int 0])), .inr (.inr (5, [.int 0, .int 0, .int 0, .int 32, .int 0, .int ((-1)), .int 0, .int 0, .ref (n + 2), .ref (n + 4), .ref (n + 6), .int ((-1)), .int 0, .int ((-1)), .int 0])), .inr (.inr (4, [.ref (n + 3), .int 0, .int 60])), .inl (60, fun _ => 0), .inr (.inr (4, [.ref (n + 5), .int 0, .int 60])), .inl (60, fun _ => 0), .inr (.inr (4, [.ref (n + 7), .int 0, .int 60])), .inl (60, fun _ => 0), .inr (.inr (5, [.int 0, .int 0, .int 0, .int 0, .int 0, .int 0, .int 0, .int 0, .null, .null, .null, .int 0, .int 0, .int 0, .int 0]))]) (by simp only [List.append_assoc, List.cons_append, List.nil_append]) ?_
  refine g_dup (q := 21) C dX2_init_20 rfl rfl ?_
  refine g_iconst (v := 1) (q := 22) C dX2_init_21 (by decide) rfl ?_
  refine g_heap (hp2 := (hp ++ [.inr (.inr (2, [.ref (n + 1), .null, .null, .int 0, .int 0, .int 0, .int 0, .int 0, .null, .null, .null, .int 0, .int 0, .int 0, .int 0, .int 0, .int 0, .int 0])), .inr (.inr (5, [.int 0, .int 0, .int 0, .int 32, .int 0, .int ((-1)), .int 0, .int 0, .ref (n + 2), .ref (n + 4), .ref (n + 6), .int ((-1)), .int 0, .int ((-1)), .int 0])), .inr (.inr (4, [.ref (n + 3), .int 0, .int 60])), .inl (60, fun _ => 0), .inr (.inr (4, [.ref (n + 5), .int 0, .int 60])), .inl (60, fun _ => 0), .inr (.inr (4, [.ref (n + 7), .int 0, .int 60])), .inl (60, fun _ => 0)]) ++ [.inr (.inr (5, [.int 0, .int 0, .int 0, .int 0, .int 0, .int 0, .int 0, .int 0, .null, .null, .null, .int 0, .int 0, .int 0, .int 0]))]) (by simp only [List.append_assoc, List.cons_append, List.nil_append]) ?_
  refine g_callIv (q := 25) (As := [.int 1]) C gyX5_init giX5_init rfl t_191 (c_X5_init (n := n + 8) (by rw [List.length_append, hn]; rfl)) dX2_init_22 rfl rfl rfl (Nat.le_of_ble_eq_true rfl) (Nat.le_of_ble_eq_true rfl) (Nat.le_of_ble_eq_true rfl) (Nat.le_of_ble_eq_true rfl) (Nat.le_of_ble_eq_true rfl) rfl ?_
  refine g_heap (hp2 := hp ++ [.inr (.inr (2, [.ref (n + 1), .null, .null, .int 0, .int 0, .int 0, .int 0, .int 0, .null, .null, .null, .int 0, .int 0, .int 0, .int 0, .int 0, .int 0, .int 0])), .inr (.inr (5, [.int 0, .int 0, .int 0, .int 32, .int 0, .int ((-1)), .int 0, .int 0, .ref (n + 2), .ref (n + 4), .ref (n + 6), .int ((-1)), .int 0, .int ((-1)), .int 0])), .inr (.inr (4, [.ref (n + 3), .int 0, .int 60])), .inl (60, fun _ => 0), .inr (.inr (4, [.ref (n + 5), .int 0, .int 60])), .inl (60, fun _ => 0), .inr (.inr (4, [.ref (n + 7), .int 0, .int 60])), .inl (60, fun _ => 0), .inr (.inr (5, [.int 1, .int 0, .int 0, .int 32, .int 0, .int ((-1)), .int 0, .int 0, .ref (n + 9), .ref (n + 11), .ref (n + 13), .int ((-1)), .int 0, .int ((-1)), .int 0])), .inr (.inr (4, [.ref (n + 10), .int 0, .int 60])), .inl (60, fun _ => 0), .inr (.inr (4, [.ref (n + 12), .int 0, .int 60])), .inl (60, fun _ => 0), .inr (.inr (4, [.ref (n + 14), .int 0, .int 60])), .inl (60, fun _ => 0)]) (by simp only [List.append_assoc, List.cons_append, List.nil_append, Nat.add_assoc, Nat.reduceAdd, Nat.add_zero]) ?_
  refine g_putE (q := 28) (hp' := hp ++ [.inr (.inr (2, [.ref (n + 1), .ref (n + 8), .null, .int 0, .int 0, .int 0, .int 0, .int 0, .null, .null, .null, .int 0, .int 0, .int 0, .int 0, .int 0, .int 0, .int 0])), .inr (.inr (5, [.int 0, .int 0, .int 0, .int 32, .int 0, .int ((-1)), .int 0, .int 0, .ref (n + 2), .ref (n + 4), .ref (n + 6), .int ((-1)), .int 0, .int ((-1)), .int 0])), .inr (.inr (4, [.ref (n + 3), .int 0, .int 60])), .inl (60, fun _ => 0), .inr (.inr (4, [.ref (n + 5), .int 0, .int 60])), .inl (60, fun _ => 0), .inr (.inr (4, [.ref (n + 7), .int 0, .int 60])), .inl (60, fun _ => 0), .inr (.inr (5, [.int 1, .int 0, .int 0, .int 32, .int 0, .int ((-1)), .int 0, .int 0, .ref (n + 9), .ref (n + 11), .ref (n + 13), .int ((-1)), .int 0, .int ((-1)), .int 0])), .inr (.inr (4, [.ref (n + 10), .int 0, .int 60])), .inl (60, fun _ => 0), .inr (.inr (4, [.ref (n + 12), .int 0, .int 60])), .inl (60, fun _ => 0), .inr (.inr (4, [.ref (n + 14), .int 0, .int 60])), .inl (60, fun _ => 0)]) C fX2_20 dX2_init_25 rfl (gapp_new hn rfl) (Nat.le_of_ble_eq_true rfl) (Or.inr rfl) rfl rfl (by intro z h; cases h) rfl (gapp_set hn) ?_
  refine g_aload_n (q := 29) C dX2_init_28 rfl rfl ?_
  refine g_new (q := 32) (k := n + 15) C nX2_23 dX2_init_29 rfl (by rw [List.length_append, hn]; rfl) (Nat.le_of_ble_eq_true rfl) (Nat.le_of_ble_eq_true rfl) ?_
  refine g_heap (hp2 := hp ++ [.inr (.inr (2, [.ref (n + 1), .ref (n + 8), .null, .int 0, .int 0, .int 0, .int 0, .int 0, .null, .null, .null, .int 0, .int 0, .int 0, .int 0, .int 0, .int 0, .int 0])), .inr (.inr (5, [.int 0, .int 0, .int 0, .int 32, .int 0, .int ((-1)), .int 0, .int 0, .ref (n + 2), .ref (n + 4), .ref (n + 6), .int ((-1)), .int 0, .int ((-1)), .int 0])), .inr (.inr (4, [.ref (n + 3), .int 0, .int 60])), .inl (60, fun _ => 0), .inr (.inr (4, [.ref (n + 5), .int 0, .int 60])), .inl (60, fun _ => 0), .inr (.inr (4, [.ref (n + 7), .int 0, .int 60])), .inl (60, fun _ => 0), .inr (.inr (5, [.int 1, .int 0, .int 0, .int 32, .int 0, .int ((-1)), .int 0, .int 0, .ref (n + 9), .ref (n + 11), .ref (n + 13), .int ((-1)), .int 0, .int ((-1)), .int 0])), .inr (.inr (4, [.ref (n + 10), .int 0, .int 60])), .inl (60, fun _ => 0), .inr (.inr (4, [.ref (n + 12), .int 0, .int 60])), .inl (60, fun _ => 0), .inr (.inr (4, [.ref (n + 14), .int 0, .int 60])), .inl (60, fun _ => 0), .inr (.inr (6, [.int 0, .int 0, .int 0, .null, .null, .null, .int 0, .int 0, .int 0, .int 0]))]) (by simp only [List.append_assoc, List.cons_append, List.nil_append]) ?_
  refine g_dup (q := 33) C dX2_init_32 rfl rfl ?_
  refine g_heap (hp2 := (hp ++ [.inr (.inr (2, [.ref (n + 1), .ref (n + 8), .null, .int 0, .int 0, .int 0, .int 0, .int 0, .null, .null, .null, .int 0, .int 0, .int 0, .int 0, .int 0, .int 0, .int 0])), .inr (.inr (5, [.int 0, .int 0, .int 0, .int 32, .int 0, .int ((-1)), .int 0, .int 0, .ref (n + 2), .ref (n + 4), .ref (n + 6), .int ((-1)), .int 0, .int ((-1)), .int 0])), .inr (.inr (4, [.ref (n + 3), .int 0, .int 60])), .inl (60, fun _ => 0), .inr (.inr (4, [.ref (n + 5), .int 0, .int 60])), .inl (60, fun _ => 0), .inr (.inr (4, [.ref (n + 7), .int 0, .int 60])), .inl (60, fun _ => 0), .inr (.inr (5, [.int 1, .int 0, .int 0, .int 32, .int 0, .int ((-1)), .int 0, .int 0, .ref (n + 9), .ref (n + 11), .ref (n + 13), .int ((-1)), .int 0, .int ((-1)), .int 0])), .inr (.inr (4, [.ref (n + 10), .int 0, .int 60])), .inl (60, fun _ => 0), .inr (.inr (4, [.ref (n + 12), .int 0, .int 60])), .inl (60, fun _ => 0), .inr (.inr (4, [.ref (n + 14), .int 0, .int 60])), .inl (60, fun _ => 0)]) ++ [.inr (.inr (6, [.int 0, .int 0, .int 0, .null, .null, .null, .int 0, .int 0, .int 0, .int 0]))]) (by simp only [List.append_assoc, List.cons_append, List.nil_append]) ?_
  refine g_callINv (q := 36) (As := []) C gyX6_init giX6_init rfl (host := RX7) (by decide +kernel) (c_X6_init (n := n + 15) (by rw [List.length_append, hn]; rfl)) dX2_init_33 rfl rfl rfl (Nat.le_of_ble_eq_true rfl) (Nat.le_of_ble_eq_true rfl) (Nat.le_of_ble_eq_true rfl) (Nat.le_of_ble_eq_true rfl) (Nat.le_of_ble_eq_true rfl) rfl ?_
  refine g_heap (hp2 := hp ++ [.inr (.inr (2, [.ref (n + 1), .ref (n + 8), .null, .int 0, .int 0, .int 0, .int 0, .int 0, .null, .null, .null, .int 0, .int 0, .int 0, .int 0, .int 0, .int 0, .int 0])), .inr (.inr (5, [.int 0, .int 0, .int 0, .int 32, .int 0, .int ((-1)), .int 0, .int 0, .ref (n + 2), .ref (n + 4), .ref (n + 6), .int ((-1)), .int 0, .int ((-1)), .int 0])), .inr (.inr (4, [.ref (n + 3), .int 0, .int 60])), .inl (60, fun _ => 0), .inr (.inr (4, [.ref (n + 5), .int 0, .int 60])), .inl (60, fun _ => 0), .inr (.inr (4, [.ref (n + 7), .int 0, .int 60])), .inl (60, fun _ => 0), .inr (.inr (5, [.int 1, .int 0, .int 0, .int 32, .int 0, .int ((-1)), .int 0, .int 0, .ref (n + 9), .ref (n + 11), .ref (n + 13), .int ((-1)), .int 0, .int ((-1)), .int 0])), .inr (.inr (4, [.ref (n + 10), .int 0, .int 60])), .inl (60, fun _ => 0), .inr (.inr (4, [.ref (n + 12), .int 0, .int 60])), .inl (60, fun _ => 0), .inr (.inr (4, [.ref (n + 14), .int 0, .int 60])), .inl (60, fun _ => 0), .inr (.inr (6, [.int 1, .int 0, .int 0, .ref (n + 16), .ref (n + 17), .ref (n + 18), .int 0, .int ((-1)), .int 0, .int 0])), .inl (24, fun _ => 0), .inl (24, fun _ => 0), .inl (24, fun _ => 0)]) (by simp only [List.append_assoc, List.cons_append, List.nil_append, Nat.add_assoc, Nat.reduceAdd, Nat.add_zero]) ?_
  refine g_putE (q := 39) (hp' := hp ++ [.inr (.inr (2, [.ref (n + 1), .ref (n + 8), .ref (n + 15), .int 0, .int 0, .int 0, .int 0, .int 0, .null, .null, .null, .int 0, .int 0, .int 0, .int 0, .int 0, .int 0, .int 0])), .inr (.inr (5, [.int 0, .int 0, .int 0, .int 32, .int 0, .int ((-1)), .int 0, .int 0, .ref (n + 2), .ref (n + 4), .ref (n + 6), .int ((-1)), .int 0, .int ((-1)), .int 0])), .inr (.inr (4, [.ref (n + 3), .int 0, .int 60])), .inl (60, fun _ => 0), .inr (.inr (4, [.ref (n + 5), .int 0, .int 60])), .inl (60, fun _ => 0), .inr (.inr (4, [.ref (n + 7), .int 0, .int 60])), .inl (60, fun _ => 0), .inr (.inr (5, [.int 1, .int 0, .int 0, .int 32, .int 0, .int ((-1)), .int 0, .int 0, .ref (n + 9), .ref (n + 11), .ref (n + 13), .int ((-1)), .int 0, .int ((-1)), .int 0])), .inr (.inr (4, [.ref (n + 10), .int 0, .int 60])), .inl (60, fun _ => 0), .inr (.inr (4, [.ref (n + 12), .int 0, .int 60])), .inl (60, fun _ => 0), .inr (.inr (4, [.ref (n + 14), .int 0, .int 60])), .inl (60, fun _ => 0), .inr (.inr (6, [.int 1, .int 0, .int 0, .ref (n + 16), .ref (n + 17), .ref (n + 18), .int 0, .int ((-1)), .int 0, .int 0])), .inl (24, fun _ => 0), .inl (24, fun _ => 0), .inl (24, fun _ => 0)]) C fX2_26 dX2_init_36 rfl (gapp_new hn rfl) (Nat.le_of_ble_eq_true rfl) (Or.inr rfl) rfl rfl (by intro z h; cases h) rfl (gapp_set hn) ?_
  refine g_aload_n (q := 40) C dX2_init_39 rfl rfl ?_
  refine g_iconst (v := 0) (q := 41) C dX2_init_40 (by decide) rfl ?_
  refine g_putE (q := 44) (hp' := hp ++ [.inr (.inr (2, [.ref (n + 1), .ref (n + 8), .ref (n + 15), .int 0, .int 0, .int 0, .int 0, .int 0, .null, .null, .null, .int 0, .int 0, .int 0, .int 0, .int 0, .int 0, .int 0])), .inr (.inr (5, [.int 0, .int 0, .int 0, .int 32, .int 0, .int ((-1)), .int 0, .int 0, .ref (n + 2), .ref (n + 4), .ref (n + 6), .int ((-1)), .int 0, .int ((-1)), .int 0])), .inr (.inr (4, [.ref (n + 3), .int 0, .int 60])), .inl (60, fun _ => 0), .inr (.inr (4, [.ref (n + 5), .int 0, .int 60])), .inl (60, fun _ => 0), .inr (.inr (4, [.ref (n + 7), .int 0, .int 60])), .inl (60, fun _ => 0), .inr (.inr (5, [.int 1, .int 0, .int 0, .int 32, .int 0, .int ((-1)), .int 0, .int 0, .ref (n + 9), .ref (n + 11), .ref (n + 13), .int ((-1)), .int 0, .int ((-1)), .int 0])), .inr (.inr (4, [.ref (n + 10), .int 0, .int 60])), .inl (60, fun _ => 0), .inr (.inr (4, [.ref (n + 12), .int 0, .int 60])), .inl (60, fun _ => 0), .inr (.inr (4, [.ref (n + 14), .int 0, .int 60])), .inl (60, fun _ => 0), .inr (.inr (6, [.int 1, .int 0, .int 0, .ref (n + 16), .ref (n + 17), .ref (n + 18), .int 0, .int ((-1)), .int 0, .int 0])), .inl (24, fun _ => 0), .inl (24, fun _ => 0), .inl (24, fun _ => 0)]) C fX2_30 dX2_init_41 rfl (gapp_new hn rfl) (Nat.le_of_ble_eq_true rfl) (Or.inl rfl) rfl rfl (by intro z h; cases h) rfl (gapp_set hn) ?_
  refine g_aload_n (q := 45) C dX2_init_44 rfl rfl ?_
  refine g_iconst (v := 0) (q := 46) C dX2_init_45 (by decide) rfl ?_
  refine g_putE (q := 49) (hp' := hp ++ [.inr (.inr (2, [.ref (n + 1), .ref (n + 8), .ref (n + 15), .int 0, .int 0, .int 0, .int 0, .int 0, .null, .null, .null, .int 0, .int 0, .int 0, .int 0, .int 0, .int 0, .int 0])), .inr (.inr (5, [.int 0, .int 0, .int 0, .int 32, .int 0, .int ((-1)), .int 0, .int 0, .ref (n + 2), .ref (n + 4), .ref (n + 6), .int ((-1)), .int 0, .int ((-1)), .int 0])), .inr (.inr (4, [.ref (n + 3), .int 0, .int 60])), .inl (60, fun _ => 0), .inr (.inr (4, [.ref (n + 5), .int 0, .int 60])), .inl (60, fun _ => 0), .inr (.inr (4, [.ref (n + 7), .int 0, .int 60])), .inl (60, fun _ => 0), .inr (.inr (5, [.int 1, .int 0, .int 0, .int 32, .int 0, .int ((-1)), .int 0, .int 0, .ref (n + 9), .ref (n + 11), .ref (n + 13), .int ((-1)), .int 0, .int ((-1)), .int 0])), .inr (.inr (4, [.ref (n + 10), .int 0, .int 60])), .inl (60, fun _ => 0), .inr (.inr (4, [.ref (n + 12), .int 0, .int 60])), .inl (60, fun _ => 0), .inr (.inr (4, [.ref (n + 14), .int 0, .int 60])), .inl (60, fun _ => 0), .inr (.inr (6, [.int 1, .int 0, .int 0, .ref (n + 16), .ref (n + 17), .ref (n + 18), .int 0, .int ((-1)), .int 0, .int 0])), .inl (24, fun _ => 0), .inl (24, fun _ => 0), .inl (24, fun _ => 0)]) C fX2_34 dX2_init_46 rfl (gapp_new hn rfl) (Nat.le_of_ble_eq_true rfl) (Or.inl rfl) rfl rfl (by intro z h; cases h) rfl (gapp_set hn) ?_
  refine g_aload_n (q := 50) C dX2_init_49 rfl rfl ?_
  refine g_iconst (v := 0) (q := 51) C dX2_init_50 (by decide) rfl ?_
  refine g_putE (q := 54) (hp' := hp ++ [.inr (.inr (2, [.ref (n + 1), .ref (n + 8), .ref (n + 15), .int 0, .int 0, .int 0, .int 0, .int 0, .null, .null, .null, .int 0, .int 0, .int 0, .int 0, .int 0, .int 0, .int 0])), .inr (.inr (5, [.int 0, .int 0, .int 0, .int 32, .int 0, .int ((-1)), .int 0, .int 0, .ref (n + 2), .ref (n + 4), .ref (n + 6), .int ((-1)), .int 0, .int ((-1)), .int 0])), .inr (.inr (4, [.ref (n + 3), .int 0, .int 60])), .inl (60, fun _ => 0), .inr (.inr (4, [.ref (n + 5), .int 0, .int 60])), .inl (60, fun _ => 0), .inr (.inr (4, [.ref (n + 7), .int 0, .int 60])), .inl (60, fun _ => 0), .inr (.inr (5, [.int 1, .int 0, .int 0, .int 32, .int 0, .int ((-1)), .int 0, .int 0, .ref (n + 9), .ref (n + 11), .ref (n + 13), .int ((-1)), .int 0, .int ((-1)), .int 0])), .inr (.inr (4, [.ref (n + 10), .int 0, .int 60])), .inl (60, fun _ => 0), .inr (.inr (4, [.ref (n + 12), .int 0, .int 60])), .inl (60, fun _ => 0), .inr (.inr (4, [.ref (n + 14), .int 0, .int 60])), .inl (60, fun _ => 0), .inr (.inr (6, [.int 1, .int 0, .int 0, .ref (n + 16), .ref (n + 17), .ref (n + 18), .int 0, .int ((-1)), .int 0, .int 0])), .inl (24, fun _ => 0), .inl (24, fun _ => 0), .inl (24, fun _ => 0)]) C fX2_37 dX2_init_51 rfl (gapp_new hn rfl) (Nat.le_of_ble_eq_true rfl) (Or.inl rfl) rfl rfl (by intro z h; cases h) rfl (gapp_set hn) ?_
  refine g_aload_n (q := 55) C dX2_init_54 rfl rfl ?_
  refine g_iconst (v := 0) (q := 56) C dX2_init_55 (by decide) rfl ?_
  refine g_putE (q := 59) (hp' := hp ++ [.inr (.inr (2, [.ref (n + 1), .ref (n + 8), .ref (n + 15), .int 0, .int 0, .int 0, .int 0, .int 0, .null, .null, .null, .int 0, .int 0, .int 0, .int 0, .int 0, .int 0, .int 0])), .inr (.inr (5, [.int 0, .int 0, .int 0, .int 32, .int 0, .int ((-1)), .int 0, .int 0, .ref (n + 2), .ref (n + 4), .ref (n + 6), .int ((-1)), .int 0, .int ((-1)), .int 0])), .inr (.inr (4, [.ref (n + 3), .int 0, .int 60])), .inl (60, fun _ => 0), .inr (.inr (4, [.ref (n + 5), .int 0, .int 60])), .inl (60, fun _ => 0), .inr (.inr (4, [.ref (n + 7), .int 0, .int 60])), .inl (60, fun _ => 0), .inr (.inr (5, [.int 1, .int 0, .int 0, .int 32, .int 0, .int ((-1)), .int 0, .int 0, .ref (n + 9), .ref (n + 11), .ref (n + 13), .int ((-1)), .int 0, .int ((-1)), .int 0])), .inr (.inr (4, [.ref (n + 10), .int 0, .int 60])), .inl (60, fun _ => 0), .inr (.inr (4, [.ref (n + 12), .int 0, .int 60])), .inl (60, fun _ => 0), .inr (.inr (4, [.ref (n + 14), .int 0, .int 60])), .inl (60, fun _ => 0), .inr (.inr (6, [.int 1, .int 0, .int 0, .ref (n + 16), .ref (n + 17), .ref (n + 18), .int 0, .int ((-1)), .int 0, .int 0])), .inl (24, fun _ => 0), .inl (24, fun _ => 0), .inl (24, fun _ => 0)]) C fX2_40 dX2_init_56 rfl (gapp_new hn rfl) (Nat.le_of_ble_eq_true rfl) (Or.inl rfl) rfl rfl (by intro z h; cases h) rfl (gapp_set hn) ?_
  refine g_aload_n (q := 60) C dX2_init_59 rfl rfl ?_
  refine g_iconst (v := 0) (q := 61) C dX2_init_60 (by decide) rfl ?_
  refine g_putE (q := 64) (hp' := hp ++ [.inr (.inr (2, [.ref (n + 1), .ref (n + 8), .ref (n + 15), .int 0, .int 0, .int 0, .int 0, .int 0, .null, .null, .null, .int 0, .int 0, .int 0, .int 0, .int 0, .int 0, .int 0])), .inr (.inr (5, [.int 0, .int 0, .int 0, .int 32, .int 0, .int ((-1)), .int 0, .int 0, .ref (n + 2), .ref (n + 4), .ref (n + 6), .int ((-1)), .int 0, .int ((-1)), .int 0])), .inr (.inr (4, [.ref (n + 3), .int 0, .int 60])), .inl (60, fun _ => 0), .inr (.inr (4, [.ref (n + 5), .int 0, .int 60])), .inl (60, fun _ => 0), .inr (.inr (4, [.ref (n + 7), .int 0, .int 60])), .inl (60, fun _ => 0), .inr (.inr (5, [.int 1, .int 0, .int 0, .int 32, .int 0, .int ((-1)), .int 0, .int 0, .ref (n + 9), .ref (n + 11), .ref (n + 13), .int ((-1)), .int 0, .int ((-1)), .int 0])), .inr (.inr (4, [.ref (n + 10), .int 0, .int 60])), .inl (60, fun _ => 0), .inr (.inr (4, [.ref (n + 12), .int 0, .int 60])), .inl (60, fun _ => 0), .inr (.inr (4, [.ref (n + 14), .int 0, .int 60])), .inl (60, fun _ => 0), .inr (.inr (6, [.int 1, .int 0, .int 0, .ref (n + 16), .ref (n + 17), .ref (n + 18), .int 0, .int ((-1)), .int 0, .int 0])), .inl (24, fun _ => 0), .inl (24, fun _ => 0), .inl (24, fun _ => 0)]) C fX2_43 dX2_init_61 rfl (gapp_new hn rfl) (Nat.le_of_ble_eq_true rfl) (Or.inl rfl) rfl rfl (by intro z h; cases h) rfl (gapp_set hn) ?_
  refine g_aload_n (q := 65) C dX2_init_64 rfl rfl ?_
  refine g_new (q := 68) (k := n + 19) C nX2_46 dX2_init_65 rfl (by rw [List.length_append, hn]; rfl) (Nat.le_of_ble_eq_true rfl) (Nat.le_of_ble_eq_true rfl) ?_
  refine g_heap (hp2 := hp ++ [.inr (.inr (2, [.ref (n + 1), .ref (n + 8), .ref (n + 15), .int 0, .int 0, .int 0, .int 0, .int 0, .null, .null, .null, .int 0, .int 0, .int 0, .int 0, .int 0, .int 0, .int 0])), .inr (.inr (5, [.int 0, .int 0, .int 0, .int 32, .int 0, .int ((-1)), .int 0, .int 0, .ref (n + 2), .ref (n + 4), .ref (n + 6), .int ((-1)), .int 0, .int ((-1)), .int 0])), .inr (.inr (4, [.ref (n + 3), .int 0, .int 60])), .inl (60, fun _ => 0), .inr (.inr (4, [.ref (n + 5), .int 0, .int 60])), .inl (60, fun _ => 0), .inr (.inr (4, [.ref (n + 7), .int 0, .int 60])), .inl (60, fun _ => 0), .inr (.inr (5, [.int 1, .int 0, .int 0, .int 32, .int 0, .int ((-1)), .int 0, .int 0, .ref (n + 9), .ref (n + 11), .ref (n + 13), .int ((-1)), .int 0, .int ((-1)), .int 0])), .inr (.inr (4, [.ref (n + 10), .int 0, .int 60])), .inl (60, fun _ => 0), .inr (.inr (4, [.ref (n + 12), .int 0, .int 60])), .inl (60, fun _ => 0), .inr (.inr (4, [.ref (n + 14), .int 0, .int 60])), .inl (60, fun _ => 0), .inr (.inr (6, [.int 1, .int 0, .int 0, .ref (n + 16), .ref (n + 17), .ref (n + 18), .int 0, .int ((-1)), .int 0, .int 0])), .inl (24, fun _ => 0), .inl (24, fun _ => 0), .inl (24, fun _ => 0), .inr (.inr (4, [.null, .int 0, .int 0]))]) (by simp only [List.append_assoc, List.cons_append, List.nil_append]) ?_
  refine g_dup (q := 69) C dX2_init_68 rfl rfl ?_
  refine g_bipush (v := 64) (q := 71) C dX2_init_69 (by decide) rfl ?_
  refine g_bipush (v := 64) (q := 73) C dX2_init_71 (by decide) rfl ?_
  refine g_heap (hp2 := (hp ++ [.inr (.inr (2, [.ref (n + 1), .ref (n + 8), .ref (n + 15), .int 0, .int 0, .int 0, .int 0, .int 0, .null, .null, .null, .int 0, .int 0, .int 0, .int 0, .int 0, .int 0, .int 0])), .inr (.inr (5, [.int 0, .int 0, .int 0, .int 32, .int 0, .int ((-1)), .int 0, .int 0, .ref (n + 2), .ref (n + 4), .ref (n + 6), .int ((-1)), .int 0, .int ((-1)), .int 0])), .inr (.inr (4, [.ref (n + 3), .int 0, .int 60])), .inl (60, fun _ => 0), .inr (.inr (4, [.ref (n + 5), .int 0, .int 60])), .inl (60, fun _ => 0), .inr (.inr (4, [.ref (n + 7), .int 0, .int 60])), .inl (60, fun _ => 0), .inr (.inr (5, [.int 1, .int 0, .int 0, .int 32, .int 0, .int ((-1)), .int 0, .int 0, .ref (n + 9), .ref (n + 11), .ref (n + 13), .int ((-1)), .int 0, .int ((-1)), .int 0])), .inr (.inr (4, [.ref (n + 10), .int 0, .int 60])), .inl (60, fun _ => 0), .inr (.inr (4, [.ref (n + 12), .int 0, .int 60])), .inl (60, fun _ => 0), .inr (.inr (4, [.ref (n + 14), .int 0, .int 60])), .inl (60, fun _ => 0), .inr (.inr (6, [.int 1, .int 0, .int 0, .ref (n + 16), .ref (n + 17), .ref (n + 18), .int 0, .int ((-1)), .int 0, .int 0])), .inl (24, fun _ => 0), .inl (24, fun _ => 0), .inl (24, fun _ => 0)]) ++ [.inr (.inr (4, [.null, .int 0, .int 0]))]) (by simp only [List.append_assoc, List.cons_append, List.nil_append]) ?_
  refine g_callIv (q := 76) (As := [.int 64, .int 64]) C gyX4_init giX4_init rfl t_298 (c_X4_init (n := n + 19) (N := 64) (first := 64) (by rw [List.length_append, hn]; rfl) (by decide) (by decide)) dX2_init_73 rfl rfl rfl (Nat.le_of_ble_eq_true rfl) (Nat.le_of_ble_eq_true rfl) (Nat.le_of_ble_eq_true rfl) (Nat.le_of_ble_eq_true rfl) (Nat.le_of_ble_eq_true rfl) rfl ?_
  refine g_heap (hp2 := hp ++ [.inr (.inr (2, [.ref (n + 1), .ref (n + 8), .ref (n + 15), .int 0, .int 0, .int 0, .int 0, .int 0, .null, .null, .null, .int 0, .int 0, .int 0, .int 0, .int 0, .int 0, .int 0])), .inr (.inr (5, [.int 0, .int 0, .int 0, .int 32, .int 0, .int ((-1)), .int 0, .int 0, .ref (n + 2), .ref (n + 4), .ref (n + 6), .int ((-1)), .int 0, .int ((-1)), .int 0])), .inr (.inr (4, [.ref (n + 3), .int 0, .int 60])), .inl (60, fun _ => 0), .inr (.inr (4, [.ref (n + 5), .int 0, .int 60])), .inl (60, fun _ => 0), .inr (.inr (4, [.ref (n + 7), .int 0, .int 60])), .inl (60, fun _ => 0), .inr (.inr (5, [.int 1, .int 0, .int 0, .int 32, .int 0, .int ((-1)), .int 0, .int 0, .ref (n + 9), .ref (n + 11), .ref (n + 13), .int ((-1)), .int 0, .int ((-1)), .int 0])), .inr (.inr (4, [.ref (n + 10), .int 0, .int 60])), .inl (60, fun _ => 0), .inr (.inr (4, [.ref (n + 12), .int 0, .int 60])), .inl (60, fun _ => 0), .inr (.inr (4, [.ref (n + 14), .int 0, .int 60])), .inl (60, fun _ => 0), .inr (.inr (6, [.int 1, .int 0, .int 0, .ref (n + 16), .ref (n + 17), .ref (n + 18), .int 0, .int ((-1)), .int 0, .int 0])), .inl (24, fun _ => 0), .inl (24, fun _ => 0), .inl (24, fun _ => 0), .inr (.inr (4, [.ref (n + 20), .int 0, .int 64])), .inl (64, fun _ => 0)]) (by simp only [List.append_assoc, List.cons_append, List.nil_append, Nat.add_assoc, Nat.reduceAdd, Nat.add_zero]) ?_
  refine g_putE (q := 79) (hp' := hp ++ [.inr (.inr (2, [.ref (n + 1), .ref (n + 8), .ref (n + 15), .int 0, .int 0, .int 0, .int 0, .int 0, .ref (n + 19), .null, .null, .int 0, .int 0, .int 0, .int 0, .int 0, .int 0, .int 0])), .inr (.inr (5, [.int 0, .int 0, .int 0, .int 32, .int 0, .int ((-1)), .int 0, .int 0, .ref (n + 2), .ref (n + 4), .ref (n + 6), .int ((-1)), .int 0, .int ((-1)), .int 0])), .inr (.inr (4, [.ref (n + 3), .int 0, .int 60])), .inl (60, fun _ => 0), .inr (.inr (4, [.ref (n + 5), .int 0, .int 60])), .inl (60, fun _ => 0), .inr (.inr (4, [.ref (n + 7), .int 0, .int 60])), .inl (60, fun _ => 0), .inr (.inr (5, [.int 1, .int 0, .int 0, .int 32, .int 0, .int ((-1)), .int 0, .int 0, .ref (n + 9), .ref (n + 11), .ref (n + 13), .int ((-1)), .int 0, .int ((-1)), .int 0])), .inr (.inr (4, [.ref (n + 10), .int 0, .int 60])), .inl (60, fun _ => 0), .inr (.inr (4, [.ref (n + 12), .int 0, .int 60])), .inl (60, fun _ => 0), .inr (.inr (4, [.ref (n + 14), .int 0, .int 60])), .inl (60, fun _ => 0), .inr (.inr (6, [.int 1, .int 0, .int 0, .ref (n + 16), .ref (n + 17), .ref (n + 18), .int 0, .int ((-1)), .int 0, .int 0])), .inl (24, fun _ => 0), .inl (24, fun _ => 0), .inl (24, fun _ => 0), .inr (.inr (4, [.ref (n + 20), .int 0, .int 64])), .inl (64, fun _ => 0)]) C fX2_51 dX2_init_76 rfl (gapp_new hn rfl) (Nat.le_of_ble_eq_true rfl) (Or.inr rfl) rfl rfl (by intro z h; cases h) rfl (gapp_set hn) ?_
  refine g_aload_n (q := 80) C dX2_init_79 rfl rfl ?_
  refine g_new (q := 83) (k := n + 21) C nX2_46 dX2_init_80 rfl (by rw [List.length_append, hn]; rfl) (Nat.le_of_ble_eq_true rfl) (Nat.le_of_ble_eq_true rfl) ?_
  refine g_heap (hp2 := hp ++ [.inr (.inr (2, [.ref (n + 1), .ref (n + 8), .ref (n + 15), .int 0, .int 0, .int 0, .int 0, .int 0, .ref (n + 19), .null, .null, .int 0, .int 0, .int 0, .int 0, .int 0, .int 0, .int 0])), .inr (.inr (5, [.int 0, .int 0, .int 0, .int 32, .int 0, .int ((-1)), .int 0, .int 0, .ref (n + 2), .ref (n + 4), .ref (n + 6), .int ((-1)), .int 0, .int ((-1)), .int 0])), .inr (.inr (4, [.ref (n + 3), .int 0, .int 60])), .inl (60, fun _ => 0), .inr (.inr (4, [.ref (n + 5), .int 0, .int 60])), .inl (60, fun _ => 0), .inr (.inr (4, [.ref (n + 7), .int 0, .int 60])), .inl (60, fun _ => 0), .inr (.inr (5, [.int 1, .int 0, .int 0, .int 32, .int 0, .int ((-1)), .int 0, .int 0, .ref (n + 9), .ref (n + 11), .ref (n + 13), .int ((-1)), .int 0, .int ((-1)), .int 0])), .inr (.inr (4, [.ref (n + 10), .int 0, .int 60])), .inl (60, fun _ => 0), .inr (.inr (4, [.ref (n + 12), .int 0, .int 60])), .inl (60, fun _ => 0), .inr (.inr (4, [.ref (n + 14), .int 0, .int 60])), .inl (60, fun _ => 0), .inr (.inr (6, [.int 1, .int 0, .int 0, .ref (n + 16), .ref (n + 17), .ref (n + 18), .int 0, .int ((-1)), .int 0, .int 0])), .inl (24, fun _ => 0), .inl (24, fun _ => 0), .inl (24, fun _ => 0), .inr (.inr (4, [.ref (n + 20), .int 0, .int 64])), .inl (64, fun _ => 0), .inr (.inr (4, [.null, .int 0, .int 0]))]) (by simp only [List.append_assoc, List.cons_append, List.nil_append]) ?_
  refine g_dup (q := 84) C dX2_init_83 rfl rfl ?_
  refine g_bipush (v := 64) (q := 86) C dX2_init_84 (by decide) rfl ?_
  refine g_bipush (v := 64) (q := 88) C dX2_init_86 (by decide) rfl ?_
  refine g_heap (hp2 := (hp ++ [.inr (.inr (2, [.ref (n + 1), .ref (n + 8), .ref (n + 15), .int 0, .int 0, .int 0, .int 0, .int 0, .ref (n + 19), .null, .null, .int 0, .int 0, .int 0, .int 0, .int 0, .int 0, .int 0])), .inr (.inr (5, [.int 0, .int 0, .int 0, .int 32, .int 0, .int ((-1)), .int 0, .int 0, .ref (n + 2), .ref (n + 4), .ref (n + 6), .int ((-1)), .int 0, .int ((-1)), .int 0])), .inr (.inr (4, [.ref (n + 3), .int 0, .int 60])), .inl (60, fun _ => 0), .inr (.inr (4, [.ref (n + 5), .int 0, .int 60])), .inl (60, fun _ => 0), .inr (.inr (4, [.ref (n + 7), .int 0, .int 60])), .inl (60, fun _ => 0), .inr (.inr (5, [.int 1, .int 0, .int 0, .int 32, .int 0, .int ((-1)), .int 0, .int 0, .ref (n + 9), .ref (n + 11), .ref (n + 13), .int ((-1)), .int 0, .int ((-1)), .int 0])), .inr (.inr (4, [.ref (n + 10), .int 0, .int 60])), .inl (60, fun _ => 0), .inr (.inr (4, [.ref (n + 12), .int 0, .int 60])), .inl (60, fun _ => 0), .inr (.inr (4, [.ref (n + 14), .int 0, .int 60])), .inl (60, fun _ => 0), .inr (.inr (6, [.int 1, .int 0, .int 0, .ref (n + 16), .ref (n + 17), .ref (n + 18), .int 0, .int ((-1)), .int 0, .int 0])), .inl (24, fun _ => 0), .inl (24, fun _ => 0), .inl (24, fun _ => 0), .inr (.inr (4, [.ref (n + 20), .int 0, .int 64])), .inl (64, fun _ => 0)]) ++ [.inr (.inr (4, [.null, .int 0, .int 0]))]) (by simp only [List.append_assoc, List.cons_append, List.nil_append]) ?_
  refine g_callIv (q := 91) (As := [.int 64, .int 64]) C gyX4_init giX4_init rfl t_298 (c_X4_init (n := n + 21) (N := 64) (first := 64) (by rw [List.length_append, hn]; rfl) (by decide) (by decide)) dX2_init_88 rfl rfl rfl (Nat.le_of_ble_eq_true rfl) (Nat.le_of_ble_eq_true rfl) (Nat.le_of_ble_eq_true rfl) (Nat.le_of_ble_eq_true rfl) (Nat.le_of_ble_eq_true rfl) rfl ?_
  refine g_heap (hp2 := hp ++ [.inr (.inr (2, [.ref (n + 1), .ref (n + 8), .ref (n + 15), .int 0, .int 0, .int 0, .int 0, .int 0, .ref (n + 19), .null, .null, .int 0, .int 0, .int 0, .int 0, .int 0, .int 0, .int 0])), .inr (.inr (5, [.int 0, .int 0, .int 0, .int 32, .int 0, .int ((-1)), .int 0, .int 0, .ref (n + 2), .ref (n + 4), .ref (n + 6), .int ((-1)), .int 0, .int ((-1)), .int 0])), .inr (.inr (4, [.ref (n + 3), .int 0, .int 60])), .inl (60, fun _ => 0), .inr (.inr (4, [.ref (n + 5), .int 0, .int 60])), .inl (60, fun _ => 0), .inr (.inr (4, [.ref (n + 7), .int 0, .int 60])), .inl (60, fun _ => 0), .inr (.inr (5, [.int 1, .int 0, .int 0, .int 32, .int 0, .int ((-1)), .int 0, .int 0, .ref (n + 9), .ref (n + 11), .ref (n + 13), .int ((-1)), .int 0, .int ((-1)), .int 0])), .inr (.inr (4, [.ref (n + 10), .int 0, .int 60])), .inl (60, fun _ => 0), .inr (.inr (4, [.ref (n + 12), .int 0, .int 60])), .inl (60, fun _ => 0), .inr (.inr (4, [.ref (n + 14), .int 0, .int 60])), .inl (60, fun _ => 0), .inr (.inr (6, [.int 1, .int 0, .int 0, .ref (n + 16), .ref (n + 17), .ref (n + 18), .int 0, .int ((-1)), .int 0, .int 0])), .inl (24, fun _ => 0), .inl (24, fun _ => 0), .inl (24, fun _ => 0), .inr (.inr (4, [.ref (n + 20), .int 0, .int 64])), .inl (64, fun _ => 0), .inr (.inr (4, [.ref (n + 22), .int 0, .int 64])), .inl (64, fun _ => 0)]) (by simp only [List.append_assoc, List.cons_append, List.nil_append, Nat.add_assoc, Nat.reduceAdd, Nat.add_zero]) ?_
  refine g_putE (q := 94) (hp' := hp ++ [.inr (.inr (2, [.ref (n + 1), .ref (n + 8), .ref (n + 15), .int 0, .int 0, .int 0, .int 0, .int 0, .ref (n + 19), .ref (n + 21), .null, .int 0, .int 0, .int 0, .int 0, .int 0, .int 0, .int 0])), .inr (.inr (5, [.int 0, .int 0, .int 0, .int 32, .int 0, .int ((-1)), .int 0, .int 0, .ref (n + 2), .ref (n + 4), .ref (n + 6), .int ((-1)), .int 0, .int ((-1)), .int 0])), .inr (.inr (4, [.ref (n + 3), .int 0, .int 60])), .inl (60, fun _ => 0), .inr (.inr (4, [.ref (n + 5), .int 0, .int 60])), .inl (60, fun _ => 0), .inr (.inr (4, [.ref (n + 7), .int 0, .int 60])), .inl (60, fun _ => 0), .inr (.inr (5, [.int 1, .int 0, .int 0, .int 32, .int 0, .int ((-1)), .int 0, .int 0, .ref (n + 9), .ref (n + 11), .ref (n + 13), .int ((-1)), .int 0, .int ((-1)), .int 0])), .inr (.inr (4, [.ref (n + 10), .int 0, .int 60])), .inl (60, fun _ => 0), .inr (.inr (4, [.ref (n + 12), .int 0, .int 60])), .inl (60, fun _ => 0), .inr (.inr (4, [.ref (n + 14), .int 0, .int 60])), .inl (60, fun _ => 0), .inr (.inr (6, [.int 1, .int 0, .int 0, .ref (n + 16), .ref (n + 17), .ref (n + 18), .int 0, .int ((-1)), .int 0, .int 0])), .inl (24, fun _ => 0), .inl (24, fun _ => 0), .inl (24, fun _ => 0), .inr (.inr (4, [.ref (n + 20), .int 0, .int 64])), .inl (64, fun _ => 0), .inr (.inr (4, [.ref (n + 22), .int 0, .int 64])), .inl (64, fun _ => 0)]) C fX2_55 dX2_init_91 rfl (gapp_new hn rfl) (Nat.le_of_ble_eq_true rfl) (Or.inr rfl) rfl rfl (by intro z h; cases h) rfl (gapp_set hn) ?_
  refine g_aload_n (q := 95) C dX2_init_94 rfl rfl ?_
  refine g_iconst (v := 3) (q := 96) C dX2_init_95 (by decide) rfl ?_
  refine g_putE (q := 99) (hp' := hp ++ [.inr (.inr (2, [.ref (n + 1), .ref (n + 8), .ref (n + 15), .int 0, .int 0, .int 0, .int 0, .int 0, .ref (n + 19), .ref (n + 21), .null, .int 3, .int 0, .int 0, .int 0, .int 0, .int 0, .int 0])), .inr (.inr (5, [.int 0, .int 0, .int 0, .int 32, .int 0, .int ((-1)), .int 0, .int 0, .ref (n + 2), .ref (n + 4), .ref (n + 6), .int ((-1)), .int 0, .int ((-1)), .int 0])), .inr (.inr (4, [.ref (n + 3), .int 0, .int 60])), .inl (60, fun _ => 0), .inr (.inr (4, [.ref (n + 5), .int 0, .int 60])), .inl (60, fun _ => 0), .inr (.inr (4, [.ref (n + 7), .int 0, .int 60])), .inl (60, fun _ => 0), .inr (.inr (5, [.int 1, .int 0, .int 0, .int 32, .int 0, .int ((-1)), .int 0, .int 0, .ref (n + 9), .ref (n + 11), .ref (n + 13), .int ((-1)), .int 0, .int ((-1)), .int 0])), .inr (.inr (4, [.ref (n + 10), .int 0, .int 60])), .inl (60, fun _ => 0), .inr (.inr (4, [.ref (n + 12), .int 0, .int 60])), .inl (60, fun _ => 0), .inr (.inr (4, [.ref (n + 14), .int 0, .int 60])), .inl (60, fun _ => 0), .inr (.inr (6, [.int 1, .int 0, .int 0, .ref (n + 16), .ref (n + 17), .ref (n + 18), .int 0, .int ((-1)), .int 0, .int 0])), .inl (24, fun _ => 0), .inl (24, fun _ => 0), .inl (24, fun _ => 0), .inr (.inr (4, [.ref (n + 20), .int 0, .int 64])), .inl (64, fun _ => 0), .inr (.inr (4, [.ref (n + 22), .int 0, .int 64])), .inl (64, fun _ => 0)]) C fX2_58 dX2_init_96 rfl (gapp_new hn rfl) (Nat.le_of_ble_eq_true rfl) (Or.inl rfl) rfl rfl (by intro z h; cases h) rfl (gapp_set hn) ?_
  refine g_aload_n (q := 100) C dX2_init_99 rfl rfl ?_
  refine g_iconst (v := 0) (q := 101) C dX2_init_100 (by decide) rfl ?_
  refine g_putE (q := 104) (hp' := hp ++ [.inr (.inr (2, [.ref (n + 1), .ref (n + 8), .ref (n + 15), .int 0, .int 0, .int 0, .int 0, .int 0, .ref (n + 19), .ref (n + 21), .null, .int 3, .int 0, .int 0, .int 0, .int 0, .int 0, .int 0])), .inr (.inr (5, [.int 0, .int 0, .int 0, .int 32, .int 0, .int ((-1)), .int 0, .int 0, .ref (n + 2), .ref (n + 4), .ref (n + 6), .int ((-1)), .int 0, .int ((-1)), .int 0])), .inr (.inr (4, [.ref (n + 3), .int 0, .int 60])), .inl (60, fun _ => 0), .inr (.inr (4, [.ref (n + 5), .int 0, .int 60])), .inl (60, fun _ => 0), .inr (.inr (4, [.ref (n + 7), .int 0, .int 60])), .inl (60, fun _ => 0), .inr (.inr (5, [.int 1, .int 0, .int 0, .int 32, .int 0, .int ((-1)), .int 0, .int 0, .ref (n + 9), .ref (n + 11), .ref (n + 13), .int ((-1)), .int 0, .int ((-1)), .int 0])), .inr (.inr (4, [.ref (n + 10), .int 0, .int 60])), .inl (60, fun _ => 0), .inr (.inr (4, [.ref (n + 12), .int 0, .int 60])), .inl (60, fun _ => 0), .inr (.inr (4, [.ref (n + 14), .int 0, .int 60])), .inl (60, fun _ => 0), .inr (.inr (6, [.int 1, .int 0, .int 0, .ref (n + 16), .ref (n + 17), .ref (n + 18), .int 0, .int ((-1)), .int 0, .int 0])), .inl (24, fun _ => 0), .inl (24, fun _ => 0), .inl (24, fun _ => 0), .inr (.inr (4, [.ref (n + 20), .int 0, .int 64])), .inl (64, fun _ => 0), .inr (.inr (4, [.ref (n + 22), .int 0, .int 64])), .inl (64, fun _ => 0)]) C fX2_61 dX2_init_101 rfl (gapp_new hn rfl) (Nat.le_of_ble_eq_true rfl) (Or.inl rfl) rfl rfl (by intro z h; cases h) rfl (gapp_set hn) ?_
  refine g_aload_n (q := 105) C dX2_init_104 rfl rfl ?_
  refine g_iconst (v := (-1)) (q := 106) C dX2_init_105 (by decide) rfl ?_
  refine g_putE (q := 109) (hp' := hp ++ [.inr (.inr (2, [.ref (n + 1), .ref (n + 8), .ref (n + 15), .int 0, .int 0, .int 0, .int 0, .int 0, .ref (n + 19), .ref (n + 21), .null, .int 3, .int 0, .int ((-1)), .int 0, .int 0, .int 0, .int 0])), .inr (.inr (5, [.int 0, .int 0, .int 0, .int 32, .int 0, .int ((-1)), .int 0, .int 0, .ref (n + 2), .ref (n + 4), .ref (n + 6), .int ((-1)), .int 0, .int ((-1)), .int 0])), .inr (.inr (4, [.ref (n + 3), .int 0, .int 60])), .inl (60, fun _ => 0), .inr (.inr (4, [.ref (n + 5), .int 0, .int 60])), .inl (60, fun _ => 0), .inr (.inr (4, [.ref (n + 7), .int 0, .int 60])), .inl (60, fun _ => 0), .inr (.inr (5, [.int 1, .int 0, .int 0, .int 32, .int 0, .int ((-1)), .int 0, .int 0, .ref (n + 9), .ref (n + 11), .ref (n + 13), .int ((-1)), .int 0, .int ((-1)), .int 0])), .inr (.inr (4, [.ref (n + 10), .int 0, .int 60])), .inl (60, fun _ => 0), .inr (.inr (4, [.ref (n + 12), .int 0, .int 60])), .inl (60, fun _ => 0), .inr (.inr (4, [.ref (n + 14), .int 0, .int 60])), .inl (60, fun _ => 0), .inr (.inr (6, [.int 1, .int 0, .int 0, .ref (n + 16), .ref (n + 17), .ref (n + 18), .int 0, .int ((-1)), .int 0, .int 0])), .inl (24, fun _ => 0), .inl (24, fun _ => 0), .inl (24, fun _ => 0), .inr (.inr (4, [.ref (n + 20), .int 0, .int 64])), .inl (64, fun _ => 0), .inr (.inr (4, [.ref (n + 22), .int 0, .int 64])), .inl (64, fun _ => 0)]) C fX2_65 dX2_init_106 rfl (gapp_new hn rfl) (Nat.le_of_ble_eq_true rfl) (Or.inl rfl) rfl rfl (by intro z h; cases h) rfl (gapp_set hn) ?_
  refine g_aload_n (q := 110) C dX2_init_109 rfl rfl ?_
  refine g_iconst (v := 0) (q := 111) C dX2_init_110 (by decide) rfl ?_
  refine g_putE (q := 114) (hp' := hp ++ [.inr (.inr (2, [.ref (n + 1), .ref (n + 8), .ref (n + 15), .int 0, .int 0, .int 0, .int 0, .int 0, .ref (n + 19), .ref (n + 21), .null, .int 3, .int 0, .int ((-1)), .int 0, .int 0, .int 0, .int 0])), .inr (.inr (5, [.int 0, .int 0, .int 0, .int 32, .int 0, .int ((-1)), .int 0, .int 0, .ref (n + 2), .ref (n + 4), .ref (n + 6), .int ((-1)), .int 0, .int ((-1)), .int 0])), .inr (.inr (4, [.ref (n + 3), .int 0, .int 60])), .inl (60, fun _ => 0), .inr (.inr (4, [.ref (n + 5), .int 0, .int 60])), .inl (60, fun _ => 0), .inr (.inr (4, [.ref (n + 7), .int 0, .int 60])), .inl (60, fun _ => 0), .inr (.inr (5, [.int 1, .int 0, .int 0, .int 32, .int 0, .int ((-1)), .int 0, .int 0, .ref (n + 9), .ref (n + 11), .ref (n + 13), .int ((-1)), .int 0, .int ((-1)), .int 0])), .inr (.inr (4, [.ref (n + 10), .int 0, .int 60])), .inl (60, fun _ => 0), .inr (.inr (4, [.ref (n + 12), .int 0, .int 60])), .inl (60, fun _ => 0), .inr (.inr (4, [.ref (n + 14), .int 0, .int 60])), .inl (60, fun _ => 0), .inr (.inr (6, [.int 1, .int 0, .int 0, .ref (n + 16), .ref (n + 17), .ref (n + 18), .int 0, .int ((-1)), .int 0, .int 0])), .inl (24, fun _ => 0), .inl (24, fun _ => 0), .inl (24, fun _ => 0), .inr (.inr (4, [.ref (n + 20), .int 0, .int 64])), .inl (64, fun _ => 0), .inr (.inr (4, [.ref (n + 22), .int 0, .int 64])), .inl (64, fun _ => 0)]) C fX2_68 dX2_init_111 rfl (gapp_new hn rfl) (Nat.le_of_ble_eq_true rfl) (Or.inl rfl) rfl rfl (by intro z h; cases h) rfl (gapp_set hn) ?_
  refine g_aload_n (q := 115) C dX2_init_114 rfl rfl ?_
  refine g_iconst (v := 0) (q := 116) C dX2_init_115 (by decide) rfl ?_
  refine g_putE (q := 119) (hp' := hp ++ [.inr (.inr (2, [.ref (n + 1), .ref (n + 8), .ref (n + 15), .int 0, .int 0, .int 0, .int 0, .int 0, .ref (n + 19), .ref (n + 21), .null, .int 3, .int 0, .int ((-1)), .int 0, .int 0, .int 0, .int 0])), .inr (.inr (5, [.int 0, .int 0, .int 0, .int 32, .int 0, .int ((-1)), .int 0, .int 0, .ref (n + 2), .ref (n + 4), .ref (n + 6), .int ((-1)), .int 0, .int ((-1)), .int 0])), .inr (.inr (4, [.ref (n + 3), .int 0, .int 60])), .inl (60, fun _ => 0), .inr (.inr (4, [.ref (n + 5), .int 0, .int 60])), .inl (60, fun _ => 0), .inr (.inr (4, [.ref (n + 7), .int 0, .int 60])), .inl (60, fun _ => 0), .inr (.inr (5, [.int 1, .int 0, .int 0, .int 32, .int 0, .int ((-1)), .int 0, .int 0, .ref (n + 9), .ref (n + 11), .ref (n + 13), .int ((-1)), .int 0, .int ((-1)), .int 0])), .inr (.inr (4, [.ref (n + 10), .int 0, .int 60])), .inl (60, fun _ => 0), .inr (.inr (4, [.ref (n + 12), .int 0, .int 60])), .inl (60, fun _ => 0), .inr (.inr (4, [.ref (n + 14), .int 0, .int 60])), .inl (60, fun _ => 0), .inr (.inr (6, [.int 1, .int 0, .int 0, .ref (n + 16), .ref (n + 17), .ref (n + 18), .int 0, .int ((-1)), .int 0, .int 0])), .inl (24, fun _ => 0), .inl (24, fun _ => 0), .inl (24, fun _ => 0), .inr (.inr (4, [.ref (n + 20), .int 0, .int 64])), .inl (64, fun _ => 0), .inr (.inr (4, [.ref (n + 22), .int 0, .int 64])), .inl (64, fun _ => 0)]) C fX2_71 dX2_init_116 rfl (gapp_new hn rfl) (Nat.le_of_ble_eq_true rfl) (Or.inl rfl) rfl rfl (by intro z h; cases h) rfl (gapp_set hn) ?_
  refine g_aload_n (q := 120) C dX2_init_119 rfl rfl ?_
  refine g_iconst (v := 0) (q := 121) C dX2_init_120 (by decide) rfl ?_
  refine g_putE (q := 124) (hp' := hp ++ [.inr (.inr (2, [.ref (n + 1), .ref (n + 8), .ref (n + 15), .int 0, .int 0, .int 0, .int 0, .int 0, .ref (n + 19), .ref (n + 21), .null, .int 3, .int 0, .int ((-1)), .int 0, .int 0, .int 0, .int 0])), .inr (.inr (5, [.int 0, .int 0, .int 0, .int 32, .int 0, .int ((-1)), .int 0, .int 0, .ref (n + 2), .ref (n + 4), .ref (n + 6), .int ((-1)), .int 0, .int ((-1)), .int 0])), .inr (.inr (4, [.ref (n + 3), .int 0, .int 60])), .inl (60, fun _ => 0), .inr (.inr (4, [.ref (n + 5), .int 0, .int 60])), .inl (60, fun _ => 0), .inr (.inr (4, [.ref (n + 7), .int 0, .int 60])), .inl (60, fun _ => 0), .inr (.inr (5, [.int 1, .int 0, .int 0, .int 32, .int 0, .int ((-1)), .int 0, .int 0, .ref (n + 9), .ref (n + 11), .ref (n + 13), .int ((-1)), .int 0, .int ((-1)), .int 0])), .inr (.inr (4, [.ref (n + 10), .int 0, .int 60])), .inl (60, fun _ => 0), .inr (.inr (4, [.ref (n + 12), .int 0, .int 60])), .inl (60, fun _ => 0), .inr (.inr (4, [.ref (n + 14), .int 0, .int 60])), .inl (60, fun _ => 0), .inr (.inr (6, [.int 1, .int 0, .int 0, .ref (n + 16), .ref (n + 17), .ref (n + 18), .int 0, .int ((-1)), .int 0, .int 0])), .inl (24, fun _ => 0), .inl (24, fun _ => 0), .inl (24, fun _ => 0), .inr (.inr (4, [.ref (n + 20), .int 0, .int 64])), .inl (64, fun _ => 0), .inr (.inr (4, [.ref (n + 22), .int 0, .int 64])), .inl (64, fun _ => 0)]) C fX2_74 dX2_init_121 rfl (gapp_new hn rfl) (Nat.le_of_ble_eq_true rfl) (Or.inl rfl) rfl rfl (by intro z h; cases h) rfl (gapp_set hn) ?_
  refine g_aload_n (q := 125) C dX2_init_124 rfl rfl ?_
  refine g_iconst (v := 0) (q := 126) C dX2_init_125 (by decide) rfl ?_
  refine g_putE (q := 129) (hp' := hp ++ [.inr (.inr (2, [.ref (n + 1), .ref (n + 8), .ref (n + 15), .int 0, .int 0, .int 0, .int 0, .int 0, .ref (n + 19), .ref (n + 21), .null, .int 3, .int 0, .int ((-1)), .int 0, .int 0, .int 0, .int 0])), .inr (.inr (5, [.int 0, .int 0, .int 0, .int 32, .int 0, .int ((-1)), .int 0, .int 0, .ref (n + 2), .ref (n + 4), .ref (n + 6), .int ((-1)), .int 0, .int ((-1)), .int 0])), .inr (.inr (4, [.ref (n + 3), .int 0, .int 60])), .inl (60, fun _ => 0), .inr (.inr (4, [.ref (n + 5), .int 0, .int 60])), .inl (60, fun _ => 0), .inr (.inr (4, [.ref (n + 7), .int 0, .int 60])), .inl (60, fun _ => 0), .inr (.inr (5, [.int 1, .int 0, .int 0, .int 32, .int 0, .int ((-1)), .int 0, .int 0, .ref (n + 9), .ref (n + 11), .ref (n + 13), .int ((-1)), .int 0, .int ((-1)), .int 0])), .inr (.inr (4, [.ref (n + 10), .int 0, .int 60])), .inl (60, fun _ => 0), .inr (.inr (4, [.ref (n + 12), .int 0, .int 60])), .inl (60, fun _ => 0), .inr (.inr (4, [.ref (n + 14), .int 0, .int 60])), .inl (60, fun _ => 0), .inr (.inr (6, [.int 1, .int 0, .int 0, .ref (n + 16), .ref (n + 17), .ref (n + 18), .int 0, .int ((-1)), .int 0, .int 0])), .inl (24, fun _ => 0), .inl (24, fun _ => 0), .inl (24, fun _ => 0), .inr (.inr (4, [.ref (n + 20), .int 0, .int 64])), .inl (64, fun _ => 0), .inr (.inr (4, [.ref (n + 22), .int 0, .int 64])), .inl (64, fun _ => 0)]) C fX2_77 dX2_init_126 rfl (gapp_new hn rfl) (Nat.le_of_ble_eq_true rfl) (Or.inl rfl) rfl rfl (by intro z h; cases h) rfl (gapp_set hn) ?_
  refine g_aload_n (q := 130) C dX2_init_129 rfl rfl ?_
  refine g_aloadN_n (q := 131) C dX2_init_130 rfl rfl ?_
  refine g_putE (q := 134) (hp' := hp ++ [.inr (.inr (2, [.ref (n + 1), .ref (n + 8), .ref (n + 15), .int 0, .int 0, .int 0, .int 0, .int 0, .ref (n + 19), .ref (n + 21), .null, .int 3, .int 0, .int ((-1)), .int 0, .int 0, .int 0, .int 0])), .inr (.inr (5, [.int 0, .int 0, .int 0, .int 32, .int 0, .int ((-1)), .int 0, .int 0, .ref (n + 2), .ref (n + 4), .ref (n + 6), .int ((-1)), .int 0, .int ((-1)), .int 0])), .inr (.inr (4, [.ref (n + 3), .int 0, .int 60])), .inl (60, fun _ => 0), .inr (.inr (4, [.ref (n + 5), .int 0, .int 60])), .inl (60, fun _ => 0), .inr (.inr (4, [.ref (n + 7), .int 0, .int 60])), .inl (60, fun _ => 0), .inr (.inr (5, [.int 1, .int 0, .int 0, .int 32, .int 0, .int ((-1)), .int 0, .int 0, .ref (n + 9), .ref (n + 11), .ref (n + 13), .int ((-1)), .int 0, .int ((-1)), .int 0])), .inr (.inr (4, [.ref (n + 10), .int 0, .int 60])), .inl (60, fun _ => 0), .inr (.inr (4, [.ref (n + 12), .int 0, .int 60])), .inl (60, fun _ => 0), .inr (.inr (4, [.ref (n + 14), .int 0, .int 60])), .inl (60, fun _ => 0), .inr (.inr (6, [.int 1, .int 0, .int 0, .ref (n + 16), .ref (n + 17), .ref (n + 18), .int 0, .int ((-1)), .int 0, .int 0])), .inl (24, fun _ => 0), .inl (24, fun _ => 0), .inl (24, fun _ => 0), .inr (.inr (4, [.ref (n + 20), .int 0, .int 64])), .inl (64, fun _ => 0), .inr (.inr (4, [.ref (n + 22), .int 0, .int 64])), .inl (64, fun _ => 0)]) C fX2_80 dX2_init_131 rfl (gapp_new hn rfl) (Nat.le_of_ble_eq_true rfl) (Or.inr rfl) rfl rfl (by intro z h; cases h) rfl (gapp_set hn) ?_
  exact E.2.1 _ _ _ _ _ dX2_init_134 rfl (Nat.le_of_ble_eq_true rfl) (Nat.le_of_ble_eq_true rfl) ⟨rfl, rfl⟩
theorem dX0_init_0 : decode cX0_init 0 = .ok (.aload_n 0, 1) := by decide +kernel
theorem dX0_init_1 : decode cX0_init 1 = .ok (.invokespecial 3, 3) := by decide +kernel
theorem dX0_init_4 : decode cX0_init 4 = .ok (.aload_n 0, 1) := by decide +kernel
theorem dX0_init_5 : decode cX0_init 5 = .ok (.new 9, 3) := by decide +kernel
theorem dX0_init_8 : decode cX0_init 8 = .ok (.dup, 1) := by decide +kernel
theorem dX0_init_9 : decode cX0_init 9 = .ok (.aconst_null, 1) := by decide +kernel
theorem dX0_init_10 : decode cX0_init 10 = .ok (.invokespecial 11, 3) := by decide +kernel
theorem dX0_init_13 : decode cX0_init 13 = .ok (.putfield 14, 3) := by decide +kernel
theorem dX0_init_16 : decode cX0_init 16 = .ok (.aload_n 0, 1) := by decide +kernel
theorem dX0_init_17 : decode cX0_init 17 = .ok (.new 9, 3) := by decide +kernel
theorem dX0_init_20 : decode cX0_init 20 = .ok (.dup, 1) := by decide +kernel
theorem dX0_init_21 : decode cX0_init 21 = .ok (.aconst_null, 1) := by decide +kernel
theorem dX0_init_22 : decode cX0_init 22 = .ok (.invokespecial 11, 3) := by decide +kernel
theorem dX0_init_25 : decode cX0_init 25 = .ok (.putfield 20, 3) := by decide +kernel
theorem dX0_init_28 : decode cX0_init 28 = .ok (.aload_n 0, 1) := by decide +kernel
theorem dX0_init_29 : decode cX0_init 29 = .ok (.new 9, 3) := by decide +kernel
theorem dX0_init_32 : decode cX0_init 32 = .ok (.dup, 1) := by decide +kernel
theorem dX0_init_33 : decode cX0_init 33 = .ok (.aconst_null, 1) := by decide +kernel
theorem dX0_init_34 : decode cX0_init 34 = .ok (.invokespecial 11, 3) := by decide +kernel
theorem dX0_init_37 : decode cX0_init 37 = .ok (.putfield 23, 3) := by decide +kernel
theorem dX0_init_40 : decode cX0_init 40 = .ok (.aload_n 0, 1) := by decide +kernel
theorem dX0_init_41 : decode cX0_init 41 = .ok (.iconst 0, 1) := by decide +kernel
theorem dX0_init_42 : decode cX0_init 42 = .ok (.putfield 26, 3) := by decide +kernel
theorem dX0_init_45 : decode cX0_init 45 = .ok (.aload_n 0, 1) := by decide +kernel
theorem dX0_init_46 : decode cX0_init 46 = .ok (.iconst 4, 1) := by decide +kernel
theorem dX0_init_47 : decode cX0_init 47 = .ok (.newarray .int, 2) := by decide +kernel
theorem dX0_init_49 : decode cX0_init 49 = .ok (.putfield 30, 3) := by decide +kernel
theorem dX0_init_52 : decode cX0_init 52 = .ok (.aload_n 0, 1) := by decide +kernel
theorem dX0_init_53 : decode cX0_init 53 = .ok (.iconst 4, 1) := by decide +kernel
theorem dX0_init_54 : decode cX0_init 54 = .ok (.newarray .int, 2) := by decide +kernel
theorem dX0_init_56 : decode cX0_init 56 = .ok (.putfield 34, 3) := by decide +kernel
theorem dX0_init_59 : decode cX0_init 59 = .ok (.aload_n 0, 1) := by decide +kernel
theorem dX0_init_60 : decode cX0_init 60 = .ok (.iconst 4, 1) := by decide +kernel
theorem dX0_init_61 : decode cX0_init 61 = .ok (.newarray .int, 2) := by decide +kernel
theorem dX0_init_63 : decode cX0_init 63 = .ok (.putfield 37, 3) := by decide +kernel
theorem dX0_init_66 : decode cX0_init 66 = .ok (.return_, 1) := by decide +kernel
set_option maxRecDepth 100000 in
set_option maxHeartbeats 4000000 in
theorem c_X0_init {hp : List gA} {n : Nat}  (hn : hp.length = n) : gM yX0_init cX0_init 1 (none) 4 85 [.ref (n + 0)] (hp ++ [.inr (.inr (0, [.null, .null, .null, .int 0, .null, .null, .null]))]) (72) (1938) (fun v h => v = none ∧ h = hp ++ [.inr (.inr (0, [.ref (n + 1), .ref (n + 24), .ref (n + 47), .int 0, .ref (n + 70), .ref (n + 71), .ref (n + 72)])), .inr (.inr (2, [.ref (n + 2), .ref (n + 9), .ref (n + 16), .int 0, .int 0, .int 0, .int 0, .int 0, .ref (n + 20), .ref (n + 22), .null, .int 3, .int 0, .int ((-1)), .int 0, .int 0, .int 0, .int 0])), .inr (.inr (5, [.int 0, .int 0, .int 0, .int 32, .int 0, .int ((-1)), .int 0, .int 0, .ref (n + 3), .ref (n + 5), .ref (n + 7), .int ((-1)), .int 0, .int ((-1)), .int 0])), .inr (.inr (4, [.ref (n + 4), .int 0, .int 60])), .inl (60, fun _ => 0), .inr (.inr (4, [.ref (n + 6), .int 0, .int 60])), .inl (60, fun _ => 0), .inr (.inr (4, [.ref (n + 8), .int 0, .int 60])), .inl (60, fun _ => 0), .inr (.inr (5, [.int 1, .int 0, .int 0, .int 32, .int 0, .int ((-1)), .int 0, .int 0, .ref (n + 10), .ref (n + 12), .ref (n + 14), .int ((-1)), .int 0, .int ((-1)), .int 0])), .inr (.inr (4, [.ref (n + 11), .int 0, .int 60])), .inl (60, fun _ => 0), .inr (.inr (4, [.ref (n + 13), .int 0, .int 60])), .inl (60, fun _ => 0), .inr (.inr (4, [.ref (n + 15), .int 0, .int 60])), .inl (60, fun _ => 0), .inr (.inr (6, [.int 1, .int 0, .int 0, .ref (n + 17), .ref (n + 18), .ref (n + 19), .int 0, .int ((-1)), .int 0, .int 0])), .inl (24, fun _ => 0), .inl (24, fun _ => 0), .inl (24, fun _ => 0), .inr (.inr (4, [.ref (n + 21), .int 0, .int 64])), .inl (64, fun _ => 0), .inr (.inr (4, [.ref (n + 23), .int 0, .int 64])), .inl (64, fun _ => 0), .inr (.inr (2, [.ref (n + 25), .ref (n + 32), .ref (n + 39), .int 0, .int 0, .int 0, .int 0, .int 0, .ref (n + 43), .ref (n + 45), .null, .int 3, .int 0, .int ((-1)), .int 0, .int 0, .int 0, .int 0])), .inr (.inr (5, [.int 0, .int 0, .int 0, .int 32, .int 0, .int ((-1)), .int 0, .int 0, .ref (n + 26), .ref (n + 28), .ref (n + 30), .int ((-1)), .int 0, .int ((-1)), .int 0])), .inr (.inr (4, [.ref (n + 27), .int 0, .int 60])), .inl (60, fun _ => 0), .inr (.inr (4, [.ref (n + 29), .int 0, .int 60])), .inl (60, fun _ => 0), .inr (.inr (4, [.ref (n + 31), .int 0, .int 60])), .inl (60, fun _ => 0), .inr (.inr (5, [.int 1, .int 0, .int 0, .int 32, .int 0, .int ((-1)), .int 0, .int 0, .ref (n + 33), .ref (n + 35), .ref (n + 37), .int ((-1)), .int 0, .int ((-1)), .int 0])), .inr (.inr (4, [.ref (n + 34), .int 0, .int 60])), .inl (60, fun _ => 0), .inr (.inr (4, [.ref (n + 36), .int 0, .int 60])), .inl (60, fun _ => 0), .inr (.inr (4, [.ref (n + 38), .int 0, .int 60])), .inl (60, fun _ => 0), .inr (.inr (6, [.int 1, .int 0, .int 0, .ref (n + 40), .ref (n + 41), .ref (n + 42), .int 0, .int ((-1)), .int 0, .int 0])), .inl (24, fun _ => 0), .inl (24, fun _ => 0), .inl (24, fun _ => 0), .inr (.inr (4, [.ref (n + 44), .int 0, .int 64])), .inl (64, fun _ => 0), .inr (.inr (4, [.ref (n + 46), .int 0, .int 64])), .inl (64, fun _ => 0), .inr (.inr (2, [.ref (n + 48), .ref (n + 55), .ref (n + 62), .int 0, .int 0, .int 0, .int 0, .int 0, .ref (n + 66), .ref (n + 68), .null, .int 3, .int 0, .int ((-1)), .int 0, .int 0, .int 0, .int 0])), .inr (.inr (5, [.int 0, .int 0, .int 0, .int 32, .int 0, .int ((-1)), .int 0, .int 0, .ref (n + 49), .ref (n + 51), .ref (n + 53), .int ((-1)), .int 0, .int ((-1)), .int 0])), .inr (.inr (4, [.ref (n + 50), .int 0, .int 60])), .inl (60, fun _ => 0), .inr (.inr (4, [.ref (n + 52), .int 0, .int 60])), .inl (60, fun _ => 0), .inr (.inr (4, [.ref (n + 54), .int 0, .int 60])), .inl (60, fun _ => 0), .inr (.inr (5, [.int 1, .int 0, .int 0, .int 32, .int 0, .int ((-1)), .int 0, .int 0, .ref (n + 56), .ref (n + 58), .ref (n + 60), .int ((-1)), .int 0, .int ((-1)), .int 0])), .inr (.inr (4, [.ref (n + 57), .int 0, .int 60])), .inl (60, fun _ => 0), .inr (.inr (4, [.ref (n + 59), .int 0, .int 60])), .inl (60, fun _ => 0), .inr (.inr (4, [.ref (n + 61), .int 0, .int 60])), .inl (60, fun _ => 0), .inr (.inr (6, [.int 1, .int 0, .int 0, .ref (n + 63), .ref (n + 64), .ref (n + 65), .int 0, .int ((-1)), .int 0, .int 0])), .inl (24, fun _ => 0), .inl (24, fun _ => 0), .inl (24, fun _ => 0), .inr (.inr (4, [.ref (n + 67), .int 0, .int 64])), .inl (64, fun _ => 0), .inr (.inr (4, [.ref (n + 69), .int 0, .int 64])), .inl (64, fun _ => 0), .inl (4, fun _ => 0), .inl (4, fun _ => 0), .inl (4, fun _ => 0)]) := by
  refine gM_of (ls0 := [some (.ref (n + 0))]) (by decide +kernel) (Nat.le_of_ble_eq_true rfl) rfl fun X C E => ?_
  refine g_aload_n (q := 1) C dX0_init_0 rfl rfl ?_
  refine g_objInit (q := 4) C t_370 t_123 t_124 dX0_init_1 rfl rfl (Nat.le_of_ble_eq_true rfl) (Nat.le_of_ble_eq_true rfl) ?_
  refine g_aload_n (q := 5) C dX0_init_4 rfl rfl ?_
  refine g_new (q := 8) (k := n + 1) C nX0_9 dX0_init_5 rfl (by rw [List.length_append, hn]; rfl) (Nat.le_of_ble_eq_true rfl) (Nat.le_of_ble_eq_true rfl) ?_
  refine g_heap (hp2 := hp ++ [.inr (.inr (0, [.null, .null, .null, .int 0, .null, .null, .null])), .inr (.inr (2, [.null, .null, .null, .int 0, .int 0, .int 0, .int 0, .int 0, .null, .null, .null, .int 0, .int 0, .int 0, .int 0, .int 0, .int 0, .int 0]))]) (by simp only [List.append_assoc, List.cons_append, List.nil_append]) ?_
  refine g_dup (q := 9) C dX0_init_8 rfl rfl ?_
  refine g_null (q := 10) C dX0_init_9 rfl ?_
  refine g_heap (hp2 := (hp ++ [.inr (.inr (0, [.null, .null, .null, .int 0, .null, .null, .null]))]) ++ [.inr (.inr (2, [.null, .null, .null, .int 0, .int 0, .int 0, .int 0, .int 0, .null, .null, .null, .int 0, .int 0, .int 0, .int 0, .int 0, .int 0, .int 0]))]) (by simp only [List.append_assoc, List.cons_append, List.nil_append]) ?_
  refine g_callIv (q := 13) (As := [.null]) C gyX2_init giX2_init rfl t_372 (c_X2_init_n (n := n + 1) (by rw [List.length_append, hn]; rfl)) dX0_init_10 rfl rfl rfl (Nat.le_of_ble_eq_true rfl) (Nat.le_of_ble_eq_true rfl) (Nat.le_of_ble_eq_true rfl) (Nat.le_of_ble_eq_true rfl) (Nat.le_of_ble_eq_true rfl) rfl ?_
  refine g_heap (hp2 := hp ++ [.inr (.inr (0, [.null, .null, .null, .int 0, .null, .null, .null])), .inr (.inr (2, [.ref (n + 2), .ref (n + 9), .ref (n + 16), .int 0, .int 0, .int 0, .int 0, .int 0, .ref (n + 20), .ref (n + 22), .null, .int 3, .int 0, .int ((-1)), .int 0, .int 0, .int 0, .int 0])), .inr (.inr (5, [.int 0, .int 0, .int 0, .int 32, .int 0, .int ((-1)), .int 0, .int 0, .ref (n + 3), .ref (n + 5), .ref (n + 7), .int ((-1)), .int 0, .int ((-1)), .int 0])), .inr (.inr (4, [.ref (n + 4), .int 0, .int 60])), .inl (60, fun _ => 0), .inr (.inr (4, [.ref (n + 6), .int 0, .int 60])), .inl (60, fun _ => 0), .inr (.inr (4, [.ref (n + 8), .int 0, .int 60])), .inl (60, fun _ => 0), .inr (.inr (5, [.int 1, .int 0, .int 0, .int 32, .int 0, .int ((-1)), .int 0, .int 0, .ref (n + 10), .ref (n + 12), .ref (n + 14), .int ((-1)), .int 0, .int ((-1)), .int 0])), .inr (.inr (4, [.ref (n + 11), .int 0, .int 60])), .inl (60, fun _ => 0), .inr (.inr (4, [.ref (n + 13), .int 0, .int 60])), .inl (60, fun _ => 0), .inr (.inr (4, [.ref (n + 15), .int 0, .int 60])), .inl (60, fun _ => 0), .inr (.inr (6, [.int 1, .int 0, .int 0, .ref (n + 17), .ref (n + 18), .ref (n + 19), .int 0, .int ((-1)), .int 0, .int 0])), .inl (24, fun _ => 0), .inl (24, fun _ => 0), .inl (24, fun _ => 0), .inr (.inr (4, [.ref (n + 21), .int 0, .int 64])), .inl (64, fun _ => 0), .inr (.inr (4, [.ref (n + 23), .int 0, .int 64])), .inl (64, fun _ => 0)]) (by simp only [List.append_assoc, List.cons_append, List.nil_append, Nat.add_assoc, Nat.reduceAdd, Nat.add_zero]) ?_
  refine g_putE (q := 16) (hp' := hp ++ [.inr (.inr (0, [.ref (n + 1), .null, .null, .int 0, .null, .null, .null])), .inr (.inr (2, [.ref (n + 2), .ref (n + 9), .ref (n + 16), .int 0, .int 0, .int 0, .int 0, .int 0, .ref (n + 20), .ref (n + 22), .null, .int 3, .int 0, .int ((-1)), .int 0, .int 0, .int 0, .int 0])), .inr (.inr (5, [.int 0, .int 0, .int 0, .int 32, .int 0, .int ((-1)), .int 0, .int 0, .ref (n + 3), .ref (n + 5), .ref (n + 7), .int ((-1)), .int 0, .int ((-1)), .int 0])), .inr (.inr (4, [.ref (n + 4), .int 0, .int 60])), .inl (60, fun _ => 0), .inr (.inr (4, [.ref (n + 6), .int 0, .int 60])), .inl (60, fun _ => 0), .inr (.inr (4, [.ref (n + 8), .int 0, .int 60])), .inl (60, fun _ => 0), .inr (.inr (5, [.int 1, .int 0, .int 0, .int 32, .int 0, .int ((-1)), .int 0, .int 0, .ref (n + 10), .ref (n + 12), .ref (n + 14), .int ((-1)), .int 0, .int ((-1)), .int 0])), .inr (.inr (4, [.ref (n + 11), .int 0, .int 60])), .inl (60, fun _ => 0), .inr (.inr (4, [.ref (n + 13), .int 0, .int 60])), .inl (60, fun _ => 0), .inr (.inr (4, [.ref (n + 15), .int 0, .int 60])), .inl (60, fun _ => 0), .inr (.inr (6, [.int 1, .int 0, .int 0, .ref (n + 17), .ref (n + 18), .ref (n + 19), .int 0, .int ((-1)), .int 0, .int 0])), .inl (24, fun _ => 0), .inl (24, fun _ => 0), .inl (24, fun _ => 0), .inr (.inr (4, [.ref (n + 21), .int 0, .int 64])), .inl (64, fun _ => 0), .inr (.inr (4, [.ref (n + 23), .int 0, .int 64])), .inl (64, fun _ => 0)]) C fX0_14 dX0_init_13 rfl (gapp_new hn rfl) (Nat.le_of_ble_eq_true rfl) (Or.inr rfl) rfl rfl (by intro z h; cases h) rfl (gapp_set hn) ?_
  refine g_aload_n (q := 17) C dX0_init_16 rfl rfl ?_
  refine g_new (q := 20) (k := n + 24) C nX0_9 dX0_init_17 rfl (by rw [List.length_append, hn]; rfl) (Nat.le_of_ble_eq_true rfl) (Nat.le_of_ble_eq_true rfl) ?_
  refine g_heap (hp2 := hp ++ [.inr (.inr (0, [.ref (n + 1), .null, .null, .int 0, .null, .null, .null])), .inr (.inr (2, [.ref (n + 2), .ref (n + 9), .ref (n + 16), .int 0, .int 0, .int 0, .int 0, .int 0, .ref (n + 20), .ref (n + 22), .null, .int 3, .int 0, .int ((-1)), .int 0, .int 0, .int 0, .int 0])), .inr (.inr (5, [.int 0, .int 0, .int 0, .int 32, .int 0, .int ((-1)), .int 0, .int 0, .ref (n + 3), .ref (n + 5), .ref (n + 7), .int ((-1)), .int 0, .int ((-1)), .int 0])), .inr (.inr (4, [.ref (n + 4), .int 0, .int 60])), .inl (60, fun _ => 0), .inr (.inr (4, [.ref (n + 6), .int 0, .int 60])), .inl (60, fun _ => 0), .inr (.inr (4, [.ref (n + 8), .int 0, .int 60])), .inl (60, fun _ => 0), .inr (.inr (5, [.int 1, .int 0, .int 0, .int 32, .int 0, .int ((-1)), .int 0, .int 0, .ref (n + 10), .ref (n + 12), .ref (n + 14), .int ((-1)), .int 0, .int ((-1)), .int 0])), .inr (.inr (4, [.ref (n + 11), .int 0, .int 60])), .inl (60, fun _ => 0), .inr (.inr (4, [.ref (n + 13), .int 0, .int 60])), .inl (60, fun _ => 0), .inr (.inr (4, [.ref (n + 15), .int 0, .int 60])), .inl (60, fun _ => 0), .inr (.inr (6, [.int 1, .int 0, .int 0, .ref (n + 17), .ref (n + 18), .ref (n + 19), .int 0, .int ((-1)), .int 0, .int 0])), .inl (24, fun _ => 0), .inl (24, fun _ => 0), .inl (24, fun _ => 0), .inr (.inr (4, [.ref (n + 21), .int 0, .int 64])), .inl (64, fun _ => 0), .inr (.inr (4, [.ref (n + 23), .int 0, .int 64])), .inl (64, fun _ => 0), .inr (.inr (2, [.null, .null, .null, .int 0, .int 0, .int 0, .int 0, .int 0, .null, .null, .null, .int 0, .int 0, .int 0, .int 0, .int 0, .int 0, .int 0]))]) (by simp only [List.append_assoc, List.cons_append, List.nil_append]) ?_
  refine g_dup (q := 21) C dX0_init_20 rfl rfl ?_
  refine g_null (q := 22) C dX0_init_21 rfl ?_
  refine g_heap (hp2 := (hp ++ [.inr (.inr (0, [.ref (n + 1), .null, .null, .int 0, .null, .null, .null])), .inr (.inr (2, [.ref (n + 2), .ref (n + 9), .ref (n + 16), .int 0, .int 0, .int 0, .int 0, .int 0, .ref (n + 20), .ref (n + 22), .null, .int 3, .int 0, .int ((-1)), .int 0, .int 0, .int 0, .int 0])), .inr (.inr (5, [.int 0, .int 0, .int 0, .int 32, .int 0, .int ((-1)), .int 0, .int 0, .ref (n + 3), .ref (n + 5), .ref (n + 7), .int ((-1)), .int 0, .int ((-1)), .int 0])), .inr (.inr (4, [.ref (n + 4), .int 0, .int 60])), .inl (60, fun _ => 0), .inr (.inr (4, [.ref (n + 6), .int 0, .int 60])), .inl (60, fun _ => 0), .inr (.inr (4, [.ref (n + 8), .int 0, .int 60])), .inl (60, fun _ => 0), .inr (.inr (5, [.int 1, .int 0, .int 0, .int 32, .int 0, .int ((-1)), .int 0, .int 0, .ref (n + 10), .ref (n + 12), .ref (n + 14), .int ((-1)), .int 0, .int ((-1)), .int 0])), .inr (.inr (4, [.ref (n + 11), .int 0, .int 60])), .inl (60, fun _ => 0), .inr (.inr (4, [.ref (n + 13), .int 0, .int 60])), .inl (60, fun _ => 0), .inr (.inr (4, [.ref (n + 15), .int 0, .int 60])), .inl (60, fun _ => 0), .inr (.inr (6, [.int 1, .int 0, .int 0, .ref (n + 17), .ref (n + 18), .ref (n + 19), .int 0, .int ((-1)), .int 0, .int 0])), .inl (24, fun _ => 0), .inl (24, fun _ => 0), .inl (24, fun _ => 0), .inr (.inr (4, [.ref (n + 21), .int 0, .int 64])), .inl (64, fun _ => 0), .inr (.inr (4, [.ref (n + 23), .int 0, .int 64])), .inl (64, fun _ => 0)]) ++ [.inr (.inr (2, [.null, .null, .null, .int 0, .int 0, .int 0, .int 0, .int 0, .null, .null, .null, .int 0, .int 0, .int 0, .int 0, .int 0, .int 0, .int 0]))]) (by simp only [List.append_assoc, List.cons_append, List.nil_append]) ?_
  refine g_callIv (q := 25) (As := [.null]) C gyX2_init giX2_init rfl t_372 (c_X2_init_n (n := n + 24) (by rw [List.length_append, hn]; rfl)) dX0_init_22 rfl rfl rfl (Nat.le_of_ble_eq_true rfl) (Nat.le_of_ble_eq_true rfl) (Nat.le_of_ble_eq_true rfl) (Nat.le_of_ble_eq_true rfl) (Nat.le_of_ble_eq_true rfl) rfl ?_
  refine g_heap (hp2 := hp ++ [.inr (.inr (0, [.ref (n + 1), .null, .null, .int 0, .null, .null, .null])), .inr (.inr (2, [.ref (n + 2), .ref (n + 9), .ref (n + 16), .int 0, .int 0, .int 0, .int 0, .int 0, .ref (n + 20), .ref (n + 22), .null, .int 3, .int 0, .int ((-1)), .int 0, .int 0, .int 0, .int 0])), .inr (.inr (5, [.int 0, .int 0, .int 0, .int 32, .int 0, .int ((-1)), .int 0, .int 0, .ref (n + 3), .ref (n + 5), .ref (n + 7), .int ((-1)), .int 0, .int ((-1)), .int 0])), .inr (.inr (4, [.ref (n + 4), .int 0, .int 60])), .inl (60, fun _ => 0), .inr (.inr (4, [.ref (n + 6), .int 0, .int 60])), .inl (60, fun _ => 0), .inr (.inr (4, [.ref (n + 8), .int 0, .int 60])), .inl (60, fun _ => 0), .inr (.inr (5, [.int 1, .int 0, .int 0, .int 32, .int 0, .int ((-1)), .int 0, .int 0, .ref (n + 10), .ref (n + 12), .ref (n + 14), .int ((-1)), .int 0, .int ((-1)), .int 0])), .inr (.inr (4, [.ref (n + 11), .int 0, .int 60])), .inl (60, fun _ => 0), .inr (.inr (4, [.ref (n + 13), .int 0, .int 60])), .inl (60, fun _ => 0), .inr (.inr (4, [.ref (n + 15), .int 0, .int 60])), .inl (60, fun _ => 0), .inr (.inr (6, [.int 1, .int 0, .int 0, .ref (n + 17), .ref (n + 18), .ref (n + 19), .int 0, .int ((-1)), .int 0, .int 0])), .inl (24, fun _ => 0), .inl (24, fun _ => 0), .inl (24, fun _ => 0), .inr (.inr (4, [.ref (n + 21), .int 0, .int 64])), .inl (64, fun _ => 0), .inr (.inr (4, [.ref (n + 23), .int 0, .int 64])), .inl (64, fun _ => 0), .inr (.inr (2, [.ref (n + 25), .ref (n + 32), .ref (n + 39), .int 0, .int 0, .int 0, .int 0, .int 0, .ref (n + 43), .ref (n + 45), .null, .int 3, .int 0, .int ((-1)), .int 0, .int 0, .int 0, .int 0])), .inr (.inr (5, [.int 0, .int 0, .int 0, .int 32, .int 0, .int ((-1)), .int 0, .int 0, .ref (n + 26), .ref (n + 28), .ref (n + 30), .int ((-1)), .int 0, .int ((-1)), .int 0])), .inr (.inr (4, [.ref (n + 27), .int 0, .int 60])), .inl (60, fun _ => 0), .inr (.inr (4, [.ref (n + 29), .int 0, .int 60])), .inl (60, fun _ => 0), .inr (.inr (4, [.ref (n + 31), .int 0, .int 60])), .inl (60, fun _ => 0), .inr (.inr (5, [.int 1, .int 0, .int 0, .int 32, .int 0, .int ((-1)), .int 0, .int 0, .ref (n + 33), .ref (n + 35), .ref (n + 37), .int ((-1)), .int 0, .int ((-1)), .int 0])), .inr (.inr (4, [.ref (n + 34), .int 0, .int 60])), .inl (60, fun _ => 0), .inr (.inr (4, [.ref (n + 36), .int 0, .int 60])), .inl (60, fun _ => 0), .inr (.inr (4, [.ref (n + 38), .int 0, .int 60])), .inl (60, fun _ => 0), .inr (.inr (6, [.int 1, .int 0, .int 0, .ref (n + 40), .ref (n + 41), .ref (n + 42), .int 0, .int ((-1)), .int 0, .int 0])), .inl (24, fun _ => 0), .inl (24, fun _ => 0), .inl (24, fun _ => 0), .inr (.inr (4, [.ref (n + 44), .int 0, .int 64])), .inl (64, fun _ => 0), .inr (.inr (4, [.ref (n + 46), .int 0, .int 64])), .inl (64, fun _ => 0)]) (by simp only [List.append_assoc, List.cons_append, List.nil_append, Nat.add_assoc, Nat.reduceAdd, Nat.add_zero]) ?_
  refine g_putE (q := 28) (hp' := hp ++ [.inr (.inr (0, [.ref (n + 1), .ref (n + 24), .null, .int 0, .null, .null, .null])), .inr (.inr (2, [.ref (n + 2), .ref (n + 9), .ref (n + 16), .int 0, .int 0, .int 0, .int 0, .int 0, .ref (n + 20), .ref (n + 22), .null, .int 3, .int 0, .int ((-1)), .int 0, .int 0, .int 0, .int 0])), .inr (.inr (5, [.int 0, .int 0, .int 0, .int 32, .int 0, .int ((-1)), .int 0, .int 0, .ref (n + 3), .ref (n + 5), .ref (n + 7), .int ((-1)), .int 0, .int ((-1)), .int 0])), .inr (.inr (4, [.ref (n + 4), .int 0, .int 60])), .inl (60, fun _ => 0), .inr (.inr (4, [.ref (n + 6), .int 0, .int 60])), .inl (60, fun _ => 0), .inr (.inr (4, [.ref (n + 8), .int 0, .int 60])), .inl (60, fun _ => 0), .inr (.inr (5, [.int 1, .int 0, .int 0, .int 32, .int 0, .int ((-1)), .int 0, .int 0, .ref (n + 10), .ref (n + 12), .ref (n + 14), .int ((-1)), .int 0, .int ((-1)), .int 0])), .inr (.inr (4, [.ref (n + 11), .int 0, .int 60])), .inl (60, fun _ => 0), .inr (.inr (4, [.ref (n + 13), .int 0, .int 60])), .inl (60, fun _ => 0), .inr (.inr (4, [.ref (n + 15), .int 0, .int 60])), .inl (60, fun _ => 0), .inr (.inr (6, [.int 1, .int 0, .int 0, .ref (n + 17), .ref (n + 18), .ref (n + 19), .int 0, .int ((-1)), .int 0, .int 0])), .inl (24, fun _ => 0), .inl (24, fun _ => 0), .inl (24, fun _ => 0), .inr (.inr (4, [.ref (n + 21), .int 0, .int 64])), .inl (64, fun _ => 0), .inr (.inr (4, [.ref (n + 23), .int 0, .int 64])), .inl (64, fun _ => 0), .inr (.inr (2, [.ref (n + 25), .ref (n + 32), .ref (n + 39), .int 0, .int 0, .int 0, .int 0, .int 0, .ref (n + 43), .ref (n + 45), .null, .int 3, .int 0, .int ((-1)), .int 0, .int 0, .int 0, .int 0])), .inr (.inr (5, [.int 0, .int 0, .int 0, .int 32, .int 0, .int ((-1)), .int 0, .int 0, .ref (n + 26), .ref (n + 28), .ref (n + 30), .int ((-1)), .int 0, .int ((-1)), .int 0])), .inr (.inr (4, [.ref (n + 27), .int 0, .int 60])), .inl (60, fun _ => 0), .inr (.inr (4, [.ref (n + 29), .int 0, .int 60])), .inl (60, fun _ => 0), .inr (.inr (4, [.ref (n + 31), .int 0, .int 60])), .inl (60, fun _ => 0), .inr (.inr (5, [.int 1, .int 0, .int 0, .int 32, .int 0, .int ((-1)), .int 0, .int 0, .ref (n + 33), .ref (n + 35), .ref (n + 37), .int ((-1)), .int 0, .int ((-1)), .int 0])), .inr (.inr (4, [.ref (n + 34), .int 0, .int 60])), .inl (60, fun _ => 0), .inr (.inr (4, [.ref (n + 36), .int 0, .int 60])), .inl (60, fun _ => 0), .inr (.inr (4, [.ref (n + 38), .int 0, .int 60])), .inl (60, fun _ => 0), .inr (.inr (6, [.int 1, .int 0, .int 0, .ref (n + 40), .ref (n + 41), .ref (n + 42), .int 0, .int ((-1)), .int 0, .int 0])), .inl (24, fun _ => 0), .inl (24, fun _ => 0), .inl (24, fun _ => 0), .inr (.inr (4, [.ref (n + 44), .int 0, .int 64])), .inl (64, fun _ => 0), .inr (.inr (4, [.ref (n + 46), .int 0, .int 64])), .inl (64, fun _ => 0)]) C fX0_20 dX0_init_25 rfl (gapp_new hn rfl) (Nat.le_of_ble_eq_true rfl) (Or.inr rfl) rfl rfl (by intro z h; cases h) rfl (gapp_set hn) ?_
  refine g_aload_n (q := 29) C dX0_init_28 rfl rfl ?_
  refine g_new (q := 32) (k := n + 47) C nX0_9 dX0_init_29 rfl (by rw [List.length_append, hn]; rfl) (Nat.le_of_ble_eq_true rfl) (Nat.le_of_ble_eq_true rfl) ?_
  refine g_heap (hp2 := hp ++ [.inr (.inr (0, [.ref (n + 1), .ref (n + 24), .null, .int 0, .null, .null, .null])), .inr (.inr (2, [.ref (n + 2), .ref (n + 9), .ref (n + 16), .int 0, .int 0, .int 0, .int 0, .int 0, .ref (n + 20), .ref (n + 22), .null, .int 3, .int 0, .int ((-1)), .int 0, .int 0, .int 0, .int 0])), .inr (.inr (5, [.int 0, .int 0, .int 0, .int 32, .int 0, .int ((-1)), .int 0, .int 0, .ref (n + 3), .ref (n + 5), .ref (n + 7), .int ((-1)), .int 0, .int ((-1)), .int 0])), .inr (.inr (4, [.ref (n + 4), .int 0, .int 60])), .inl (60, fun _ => 0), .inr (.inr (4, [.ref (n + 6), .int 0, .int 60])), .inl (60, fun _ => 0), .inr (.inr (4, [.ref (n + 8), .int 0, .int 60])), .inl (60, fun _ => 0), .inr (.inr (5, [.int 1, .int 0, .int 0, .int 32, .int 0, .int ((-1)), .int 0, .int 0, .ref (n + 10), .ref (n + 12), .ref (n + 14), .int ((-1)), .int 0, .int ((-1)), .int 0])), .inr (.inr (4, [.ref (n + 11), .int 0, .int 60])), .inl (60, fun _ => 0), .inr (.inr (4, [.ref (n + 13), .int 0, .int 60])), .inl (60, fun _ => 0), .inr (.inr (4, [.ref (n + 15), .int 0, .int 60])), .inl (60, fun _ => 0), .inr (.inr (6, [.int 1, .int 0, .int 0, .ref (n + 17), .ref (n + 18), .ref (n + 19), .int 0, .int ((-1)), .int 0, .int 0])), .inl (24, fun _ => 0), .inl (24, fun _ => 0), .inl (24, fun _ => 0), .inr (.inr (4, [.ref (n + 21), .int 0, .int 64])), .inl (64, fun _ => 0), .inr (.inr (4, [.ref (n + 23), .int 0, .int 64])), .inl (64, fun _ => 0), .inr (.inr (2, [.ref (n + 25), .ref (n + 32), .ref (n + 39), .int 0, .int 0, .int 0, .int 0, .int 0, .ref (n + 43), .ref (n + 45), .null, .int 3, .int 0, .int ((-1)), .int 0, .int 0, .int 0, .int 0])), .inr (.inr (5, [.int 0, .int 0, .int 0, .int 32, .int 0, .int ((-1)), .int 0, .int 0, .ref (n + 26), .ref (n + 28), .ref (n + 30), .int ((-1)), .int 0, .int ((-1)), .int 0])), .inr (.inr (4, [.ref (n + 27), .int 0, .int 60])), .inl (60, fun _ => 0), .inr (.inr (4, [.ref (n + 29), .int 0, .int 60])), .inl (60, fun _ => 0), .inr (.inr (4, [.ref (n + 31), .int 0, .int 60])), .inl (60, fun _ => 0), .inr (.inr (5, [.int 1, .int 0, .int 0, .int 32, .int 0, .int ((-1)), .int 0, .int 0, .ref (n + 33), .ref (n + 35), .ref (n + 37), .int ((-1)), .int 0, .int ((-1)), .int 0])), .inr (.inr (4, [.ref (n + 34), .int 0, .int 60])), .inl (60, fun _ => 0), .inr (.inr (4, [.ref (n + 36), .int 0, .int 60])), .inl (60, fun _ => 0), .inr (.inr (4, [.ref (n + 38), .int 0, .int 60])), .inl (60, fun _ => 0), .inr (.inr (6, [.int 1, .int 0, .int 0, .ref (n + 40), .ref (n + 41), .ref (n + 42), .int 0, .int ((-1)), .int 0, .int 0])), .inl (24, fun _ => 0), .inl (24, fun _ => 0), .inl (24, fun _ => 0), .inr (.inr (4, [.ref (n + 44), .int 0, .int 64])), .inl (64, fun _ => 0), .inr (.inr (4, [.ref (n + 46), .int 0, .int 64])), .inl (64, fun _ => 0), .inr (.inr (2, [.null, .null, .null, .int 0, .int 0, .int 0, .int 0, .int 0, .null, .null, .null, .int 0, .int 0, .int 0, .int 0, .int 0, .int 0, .int 0]))]) (by simp only [List.append_assoc, List.cons_append, List.nil_append]) ?_
  refine g_dup (q := 33) C dX0_init_32 rfl rfl ?_
  refine g_null (q := 34) C dX0_init_33 rfl ?_
  refine g_heap (hp2 := (hp ++ [.inr (.inr (0, [.ref (n + 1), .ref (n + 24), .null, .int 0, .null, .null, .null])), .inr (.inr (2, [.ref (n + 2), .ref (n + 9), .ref (n + 16), .int 0, .int 0, .int 0, .int 0, .int 0, .ref (n + 20), .ref (n + 22), .null, .int 3, .int 0, .int ((-1)), .int 0, .int 0, .int 0, .int 0])), .inr (.inr (5, [.int 0, .int 0, .int 0, .int 32, .int 0, .int ((-1)), .int 0, .int 0, .ref (n + 3), .ref (n + 5), .ref (n + 7), .int ((-1)), .int 0, .int ((-1)), .int 0])), .inr (.inr (4, [.ref (n + 4), .int 0, .int 60])), .inl (60, fun _ => 0), .inr (.inr (4, [.ref (n + 6), .int 0, .int 60])), .inl (60, fun _ => 0), .inr (.inr (4, [.ref (n + 8), .int 0, .int 60])), .inl (60, fun _ => 0), .inr (.inr (5, [.int 1, .int 0, .int 0, .int 32, .int 0, .int ((-1)), .int 0, .int 0, .ref (n + 10), .ref (n + 12), .ref (n + 14), .int ((-1)), .int 0, .int ((-1)), .int 0])), .inr (.inr (4, [.ref (n + 11), .int 0, .int 60])), .inl (60, fun _ => 0), .inr (.inr (4, [.ref (n + 13), .int 0, .int 60])), .inl (60, fun _ => 0), .inr (.inr (4, [.ref (n + 15), .int 0, .int 60])), .inl (60, fun _ => 0), .inr (.inr (6, [.int 1, .int 0, .int 0, .ref (n + 17), .ref (n + 18), .ref (n + 19), .int 0, .int ((-1)), .int 0, .int 0])), .inl (24, fun _ => 0), .inl (24, fun _ => 0), .inl (24, fun _ => 0), .inr (.inr (4, [.ref (n + 21), .int 0, .int 64])), .inl (64, fun _ => 0), .inr (.inr (4, [.ref (n + 23), .int 0, .int 64])), .inl (64, fun _ => 0), .inr (.inr (2, [.ref (n + 25), .ref (n + 32), .ref (n + 39), .int 0, .int 0, .int 0, .int 0, .int 0, .ref (n + 43), .ref (n + 45), .null, .int 3, .int 0, .int ((-1)), .int 0, .int 0, .int 0, .int 0])), .inr (.inr (5, [.int 0, .int 0, .int 0, .int 32, .int 0, .int ((-1)), .int 0, .int 0, .ref (n + 26), .ref (n + 28), .ref (n + 30), .int ((-1)), .int 0, .int ((-1)), .int 0])), .inr (.inr (4, [.ref (n + 27), .int 0, .int 60])), .inl (60, fun _ => 0), .inr (.inr (4, [.ref (n + 29), .int 0, .int 60])), .inl (60, fun _ => 0), .inr (.inr (4, [.ref (n + 31), .int 0, .int 60])), .inl (60, fun _ => 0), .inr (.inr (5, [.int 1, .int 0, .int 0, .int 32, .int 0, .int ((-1)), .int 0, .int 0, .ref (n + 33), .ref (n + 35), .ref (n + 37), .int ((-1)), .int 0, .int ((-1)), .int 0])), .inr (.inr (4, [.ref (n + 34), .int 0, .int 60])), .inl (60, fun _ => 0), .inr (.inr (4, [.ref (n + 36), .int 0, .int 60])), .inl (60, fun _ => 0), .inr (.inr (4, [.ref (n + 38), .int 0, .int 60])), .inl (60, fun _ => 0), .inr (.inr (6, [.int 1, .int 0, .int 0, .ref (n + 40), .ref (n + 41), .ref (n + 42), .int 0, .int ((-1)), .int 0, .int 0])), .inl (24, fun _ => 0), .inl (24, fun _ => 0), .inl (24, fun _ => 0), .inr (.inr (4, [.ref (n + 44), .int 0, .int 64])), .inl (64, fun _ => 0), .inr (.inr (4, [.ref (n + 46), .int 0, .int 64])), .inl (64, fun _ => 0)]) ++ [.inr (.inr (2, [.null, .null, .null, .int 0, .int 0, .int 0, .int 0, .int 0, .null, .null, .null, .int 0, .int 0, .int 0, .int 0, .int 0, .int 0, .int 0]))]) (by simp only [List.append_assoc, List.cons_append, List.nil_append]) ?_
  refine g_callIv (q := 37) (As := [.null]) C gyX2_init giX2_init rfl t_372 (c_X2_init_n (n := n + 47) (by rw [List.length_append, hn]; rfl)) dX0_init_34 rfl rfl rfl (Nat.le_of_ble_eq_true rfl) (Nat.le_of_ble_eq_true rfl) (Nat.le_of_ble_eq_true rfl) (Nat.le_of_ble_eq_true rfl) (Nat.le_of_ble_eq_true rfl) rfl ?_
  refine g_heap (hp2 := hp ++ [.inr (.inr (0, [.ref (n + 1), .ref (n + 24), .null, .int 0, .null, .null, .null])), .inr (.inr (2, [.ref (n + 2), .ref (n + 9), .ref (n + 16), .int 0, .int 0, .int 0, .int 0, .int 0, .ref (n + 20), .ref (n + 22), .null, .int 3, .int 0, .int ((-1)), .int 0, .int 0, .int 0, .int 0])), .inr (.inr (5, [.int 0, .int 0, .int 0, .int 32, .int 0, .int ((-1)), .int 0, .int 0, .ref (n + 3), .ref (n + 5), .ref (n + 7), .int ((-1)), .int 0, .int ((-1)), .int 0])), .inr (.inr (4, [.ref (n + 4), .int 0, .int 60])), .inl (60, fun _ => 0), .inr (.inr (4, [.ref (n + 6), .int 0, .int 60])), .inl (60, fun _ => 0), .inr (.inr (4, [.ref (n + 8), .int 0, .int 60])), .inl (60, fun _ => 0), .inr (.inr (5, [.int 1, .int 0, .int 0, .int 32, .int 0, .int ((-1)), .int 0, .int 0, .ref (n + 10), .ref (n + 12), .ref (n + 14), .int ((-1)), .int 0, .int ((-1)), .int 0])), .inr (.inr (4, [.ref (n + 11), .int 0, .int 60])), .inl (60, fun _ => 0), .inr (.inr (4, [.ref (n + 13), .int 0, .int 60])), .inl (60, fun _ => 0), .inr (.inr (4, [.ref (n + 15), .int 0, .int 60])), .inl (60, fun _ => 0), .inr (.inr (6, [.int 1, .int 0, .int 0, .ref (n + 17), .ref (n + 18), .ref (n + 19), .int 0, .int ((-1)), .int 0, .int 0])), .inl (24, fun _ => 0), .inl (24, fun _ => 0), .inl (24, fun _ => 0), .inr (.inr (4, [.ref (n + 21), .int 0, .int 64])), .inl (64, fun _ => 0), .inr (.inr (4, [.ref (n + 23), .int 0, .int 64])), .inl (64, fun _ => 0), .inr (.inr (2, [.ref (n + 25), .ref (n + 32), .ref (n + 39), .int 0, .int 0, .int 0, .int 0, .int 0, .ref (n + 43), .ref (n + 45), .null, .int 3, .int 0, .int ((-1)), .int 0, .int 0, .int 0, .int 0])), .inr (.inr (5, [.int 0, .int 0, .int 0, .int 32, .int 0, .int ((-1)), .int 0, .int 0, .ref (n + 26), .ref (n + 28), .ref (n + 30), .int ((-1)), .int 0, .int ((-1)), .int 0])), .inr (.inr (4, [.ref (n + 27), .int 0, .int 60])), .inl (60, fun _ => 0), .inr (.inr (4, [.ref (n + 29), .int 0, .int 60])), .inl (60, fun _ => 0), .inr (.inr (4, [.ref (n + 31), .int 0, .int 60])), .inl (60, fun _ => 0), .inr (.inr (5, [.int 1, .int 0, .int 0, .int 32, .int 0, .int ((-1)), .int 0, .int 0, .ref (n + 33), .ref (n + 35), .ref (n + 37), .int ((-1)), .int 0, .int ((-1)), .int 0])), .inr (.inr (4, [.ref (n + 34), .int 0, .int 60])), .inl (60, fun _ => 0), .inr (.inr (4, [.ref (n + 36), .int 0, .int 60])), .inl (60, fun _ => 0), .inr (.inr (4, [.ref (n + 38), .int 0, .int 60])), .inl (60, fun _ => 0), .inr (.inr (6, [.int 1, .int 0, .int 0, .ref (n + 40), .ref (n + 41), .ref (n + 42), .int 0, .int ((-1)), .int 0, .int 0])), .inl (24, fun _ => 0), .inl (24, fun _ => 0), .inl (24, fun _ => 0), .inr (.inr (4, [.ref (n + 44), .int 0, .int 64])), .inl (64, fun _ => 0), .inr (.inr (4, [.ref (n + 46), .int 0, .int 64])), .inl (64, fun _ => 0), .inr (.inr (2, [.ref (n + 48), .ref (n + 55), .ref (n + 62), .int 0, .int 0, .int 0, .int 0, .int 0, .ref (n + 66), .ref (n + 68), .null, .int 3, .int 0, .int ((-1)), .int 0, .int 0, .int 0, .int 0])), .inr (.inr (5, [.int 0, .int 0, .int 0, .int 32, .int 0, .int ((-1)), .int 0, .int 0, .ref (n + 49), .ref (n + 51), .ref (n + 53), .int ((-1)), .int 0, .int ((-1)), .int 0])), .inr (.inr (4, [.ref (n + 50), .int 0, .int 60])), .inl (60, fun _ => 0), .inr (.inr (4, [.ref (n + 52), .int 0, .int 60])), .inl (60, fun _ => 0), .inr (.inr (4, [.ref (n + 54), .int 0, .int 60])), .inl (60, fun _ => 0), .inr (.inr (5, [.int 1, .int 0, .int 0, .int 32, .int 0, .int ((-1)), .int 0, .int 0, .ref (n + 56), .ref (n + 58), .ref (n + 60), .int ((-1)), .int 0, .int ((-1)), .int 0])), .inr (.inr (4, [.ref (n + 57), .int 0, .int 60])), .inl (60, fun _ => 0), .inr (.inr (4, [.ref (n + 59), .int 0, .int 60])), .inl (60, fun _ => 0), .inr (.inr (4, [.ref (n + 61), .int 0, .int 60])), .inl (60, fun _ => 0), .inr (.inr (6, [.int 1, .int 0, .int 0, .ref (n + 63), .ref (n + 64), .ref (n + 65), .int 0, .int ((-1)), .int 0, .int 0])), .inl (24, fun _ => 0), .inl (24, fun _ => 0), .inl (24, fun _ => 0), .inr (.inr (4, [.ref (n + 67), .int 0, .int 64])), .inl (64, fun _ => 0), .inr (.inr (4, [.ref (n + 69), .int 0, .int 64])), .inl (64, fun _ => 0)]) (by simp only [List.append_assoc, List.cons_append, List.nil_append, Nat.add_assoc, Nat.reduceAdd, Nat.add_zero]) ?_
  refine g_putE (q := 40) (hp' := hp ++ [.inr (.inr (0, [.ref (n + 1), .ref (n + 24), .ref (n + 47), .int 0, .null, .null, .null])), .inr (.inr (2, [.ref (n + 2), .ref (n + 9), .ref (n + 16), .int 0, .int 0, .int 0, .int 0, .int 0, .ref (n + 20), .ref (n + 22), .null, .int 3, .int 0, .int ((-1)), .int 0, .int 0, .int 0, .int 0])), .inr (.inr (5, [.int 0, .int 0, .int 0, .int 32, .int 0, .int ((-1)), .int 0, .int 0, .ref (n + 3), .ref (n + 5), .ref (n + 7), .int ((-1)), .int 0, .int ((-1)), .int 0])), .inr (.inr (4, [.ref (n + 4), .int 0, .int 60])), .inl (60, fun _ => 0), .inr (.inr (4, [.ref (n + 6), .int 0, .int 60])), .inl (60, fun _ => 0), .inr (.inr (4, [.ref (n + 8), .int 0, .int 60])), .inl (60, fun _ => 0), .inr (.inr (5, [.int 1, .int 0, .int 0, .int 32, .int 0, .int ((-1)), .int 0, .int 0, .ref (n + 10), .ref (n + 12), .ref (n + 14), .int ((-1)), .int 0, .int ((-1)), .int 0])), .inr (.inr (4, [.ref (n + 11), .int 0, .int 60])), .inl (60, fun _ => 0), .inr (.inr (4, [.ref (n + 13), .int 0, .int 60])), .inl (60, fun _ => 0), .inr (.inr (4, [.ref (n + 15), .int 0, .int 60])), .inl (60, fun _ => 0), .inr (.inr (6, [.int 1, .int 0, .int 0, .ref (n + 17), .ref (n + 18), .ref (n + 19), .int 0, .int ((-1)), .int 0, .int 0])), .inl (24, fun _ => 0), .inl (24, fun _ => 0), .inl (24, fun _ => 0), .inr (.inr (4, [.ref (n + 21), .int 0, .int 64])), .inl (64, fun _ => 0), .inr (.inr (4, [.ref (n + 23), .int 0, .int 64])), .inl (64, fun _ => 0), .inr (.inr (2, [.ref (n + 25), .ref (n + 32), .ref (n + 39), .int 0, .int 0, .int 0, .int 0, .int 0, .ref (n + 43), .ref (n + 45), .null, .int 3, .int 0, .int ((-1)), .int 0, .int 0, .int 0, .int 0])), .inr (.inr (5, [.int 0, .int 0, .int 0, .int 32, .int 0, .int ((-1)), .int 0, .int 0, .ref (n + 26), .ref (n + 28), .ref (n + 30), .int ((-1)), .int 0, .int ((-1)), .int 0])), .inr (.inr (4, [.ref (n + 27), .int 0, .int 60])), .inl (60, fun _ => 0), .inr (.inr (4, [.ref (n + 29), .int 0, .int 60])), .inl (60, fun _ => 0), .inr (.inr (4, [.ref (n + 31), .int 0, .int 60])), .inl (60, fun _ => 0), .inr (.inr (5, [.int 1, .int 0, .int 0, .int 32, .int 0, .int ((-1)), .int 0, .int 0, .ref (n + 33), .ref (n + 35), .ref (n + 37), .int ((-1)), .int 0, .int ((-1)), .int 0])), .inr (.inr (4, [.ref (n + 34), .int 0, .int 60])), .inl (60, fun _ => 0), .inr (.inr (4, [.ref (n + 36), .int 0, .int 60])), .inl (60, fun _ => 0), .inr (.inr (4, [.ref (n + 38), .int 0, .int 60])), .inl (60, fun _ => 0), .inr (.inr (6, [.int 1, .int 0, .int 0, .ref (n + 40), .ref (n + 41), .ref (n + 42), .int 0, .int ((-1)), .int 0, .int 0])), .inl (24, fun _ => 0), .inl (24, fun _ => 0), .inl (24, fun _ => 0), .inr (.inr (4, [.ref (n + 44), .int 0, .int 64])), .inl (64, fun _ => 0), .inr (.inr (4, [.ref (n + 46), .int 0, .int 64])), .inl (64, fun _ => 0), .inr (.inr (2, [.ref (n + 48), .ref (n + 55), .ref (n + 62), .int 0, .int 0, .int 0, .int 0, .int 0, .ref (n + 66), .ref (n + 68), .null, .int 3, .int 0, .int ((-1)), .int 0, .int 0, .int 0, .int 0])), .inr (.inr (5, [.int 0, .int 0, .int 0, .int 32, .int 0, .int ((-1)), .int 0, .int 0, .ref (n + 49), .ref (n + 51), .ref (n + 53), .int ((-1)), .int 0, .int ((-1)), .int 0])), .inr (.inr (4, [.ref (n + 50), .int 0, .int 60])), .inl (60, fun _ => 0), .inr (.inr (4, [.ref (n + 52), .int 0, .int 60])), .inl (60, fun _ => 0), .inr (.inr (4, [.ref (n + 54), .int 0, .int 60])), .inl (60, fun _ => 0), .inr (.inr (5, [.int 1, .int 0, .int 0, .int 32, .int 0, .int ((-1)), .int 0, .int 0, .ref (n + 56), .ref (n + 58), .ref (n + 60), .int ((-1)), .int 0, .int ((-1)), .int 0])), .inr (.inr (4, [.ref (n + 57), .int 0, .int 60])), .inl (60, fun _ => 0), .inr (.inr (4, [.ref (n + 59), .int 0, .int 60])), .inl (60, fun _ => 0), .inr (.inr (4, [.ref (n + 61), .int 0, .int 60])), .inl (60, fun _ => 0), .inr (.inr (6, [.int 1, .int 0, .int 0, .ref (n + 63), .ref (n + 64), .ref (n + 65), .int 0, .int ((-1)), .int 0, .int 0])), .inl (24, fun _ => 0), .inl (24, fun _ => 0), .inl (24, fun _ => 0), .inr (.inr (4, [.ref (n + 67), .int 0, .int 64])), .inl (64, fun _ => 0), .inr (.inr (4, [.ref (n + 69), .int 0, .int 64])), .inl (64, fun _ => 0)]) C fX0_23 dX0_init_37 rfl (gapp_new hn rfl) (Nat.le_of_ble_eq_true rfl) (Or.inr rfl) rfl rfl (by intro z h; cases h) rfl (gapp_set hn) ?_
  refine g_aload_n (q := 41) C dX0_init_40 rfl rfl ?_
  refine g_iconst (v := 0) (q := 42) C dX0_init_41 (by decide) rfl ?_
  refine g_putE (q := 45) (hp' := hp ++ [.inr (.inr (0, [.ref (n + 1), .ref (n + 24), .ref (n + 47), .int 0, .null, .null, .null])), .inr (.inr (2, [.ref (n + 2), .ref (n + 9), .ref (n + 16), .int 0, .int 0, .int 0, .int 0, .int 0, .ref (n + 20), .ref (n + 22), .null, .int 3, .int 0, .int ((-1)), .int 0, .int 0, .int 0, .int 0])), .inr (.inr (5, [.int 0, .int 0, .int 0, .int 32, .int 0, .int ((-1)), .int 0, .int 0, .ref (n + 3), .ref (n + 5), .ref (n + 7), .int ((-1)), .int 0, .int ((-1)), .int 0])), .inr (.inr (4, [.ref (n + 4), .int 0, .int 60])), .inl (60, fun _ => 0), .inr (.inr (4, [.ref (n + 6), .int 0, .int 60])), .inl (60, fun _ => 0), .inr (.inr (4, [.ref (n + 8), .int 0, .int 60])), .inl (60, fun _ => 0), .inr (.inr (5, [.int 1, .int 0, .int 0, .int 32, .int 0, .int ((-1)), .int 0, .int 0, .ref (n + 10), .ref (n + 12), .ref (n + 14), .int ((-1)), .int 0, .int ((-1)), .int 0])), .inr (.inr (4, [.ref (n + 11), .int 0, .int 60])), .inl (60, fun _ => 0), .inr (.inr (4, [.ref (n + 13), .int 0, .int 60])), .inl (60, fun _ => 0), .inr (.inr (4, [.ref (n + 15), .int 0, .int 60])), .inl (60, fun _ => 0), .inr (.inr (6, [.int 1, .int 0, .int 0, .ref (n + 17), .ref (n + 18), .ref (n + 19), .int 0, .int ((-1)), .int 0, .int 0])), .inl (24, fun _ => 0), .inl (24, fun _ => 0), .inl (24, fun _ => 0), .inr (.inr (4, [.ref (n + 21), .int 0, .int 64])), .inl (64, fun _ => 0), .inr (.inr (4, [.ref (n + 23), .int 0, .int 64])), .inl (64, fun _ => 0), .inr (.inr (2, [.ref (n + 25), .ref (n + 32), .ref (n + 39), .int 0, .int 0, .int 0, .int 0, .int 0, .ref (n + 43), .ref (n + 45), .null, .int 3, .int 0, .int ((-1)), .int 0, .int 0, .int 0, .int 0])), .inr (.inr (5, [.int 0, .int 0, .int 0, .int 32, .int 0, .int ((-1)), .int 0, .int 0, .ref (n + 26), .ref (n + 28), .ref (n + 30), .int ((-1)), .int 0, .int ((-1)), .int 0])), .inr (.inr (4, [.ref (n + 27), .int 0, .int 60])), .inl (60, fun _ => 0), .inr (.inr (4, [.ref (n + 29), .int 0, .int 60])), .inl (60, fun _ => 0), .inr (.inr (4, [.ref (n + 31), .int 0, .int 60])), .inl (60, fun _ => 0), .inr (.inr (5, [.int 1, .int 0, .int 0, .int 32, .int 0, .int ((-1)), .int 0, .int 0, .ref (n + 33), .ref (n + 35), .ref (n + 37), .int ((-1)), .int 0, .int ((-1)), .int 0])), .inr (.inr (4, [.ref (n + 34), .int 0, .int 60])), .inl (60, fun _ => 0), .inr (.inr (4, [.ref (n + 36), .int 0, .int 60])), .inl (60, fun _ => 0), .inr (.inr (4, [.ref (n + 38), .int 0, .int 60])), .inl (60, fun _ => 0), .inr (.inr (6, [.int 1, .int 0, .int 0, .ref (n + 40), .ref (n + 41), .ref (n + 42), .int 0, .int ((-1)), .int 0, .int 0])), .inl (24, fun _ => 0), .inl (24, fun _ => 0), .inl (24, fun _ => 0), .inr (.inr (4, [.ref (n + 44), .int 0, .int 64])), .inl (64, fun _ => 0), .inr (.inr (4, [.ref (n + 46), .int 0, .int 64])), .inl (64, fun _ => 0), .inr (.inr (2, [.ref (n + 48), .ref (n + 55), .ref (n + 62), .int 0, .int 0, .int 0, .int 0, .int 0, .ref (n + 66), .ref (n + 68), .null, .int 3, .int 0, .int ((-1)), .int 0, .int 0, .int 0, .int 0])), .inr (.inr (5, [.int 0, .int 0, .int 0, .int 32, .int 0, .int ((-1)), .int 0, .int 0, .ref (n + 49), .ref (n + 51), .ref (n + 53), .int ((-1)), .int 0, .int ((-1)), .int 0])), .inr (.inr (4, [.ref (n + 50), .int 0, .int 60])), .inl (60, fun _ => 0), .inr (.inr (4, [.ref (n + 52), .int 0, .int 60])), .inl (60, fun _ => 0), .inr (.inr (4, [.ref (n + 54), .int 0, .int 60])), .inl (60, fun _ => 0), .inr (.inr (5, [.int 1, .int 0, .int 0, .int 32, .int 0, .int ((-1)), .int 0, .int 0, .ref (n + 56), .ref (n + 58), .ref (n + 60), .int ((-1)), .int 0, .int ((-1)), .int 0])), .inr (.inr (4, [.ref (n + 57), .int 0, .int 60])), .inl (60, fun _ => 0), .inr (.inr (4, [.ref (n + 59), .int 0, .int 60])), .inl (60, fun _ => 0), .inr (.inr (4, [.ref (n + 61), .int 0, .int 60])), .inl (60, fun _ => 0), .inr (.inr (6, [.int 1, .int 0, .int 0, .ref (n + 63), .ref (n + 64), .ref (n + 65), .int 0, .int ((-1)), .int 0, .int 0])), .inl (24, fun _ => 0), .inl (24, fun _ => 0), .inl (24, fun _ => 0), .inr (.inr (4, [.ref (n + 67), .int 0, .int 64])), .inl (64, fun _ => 0), .inr (.inr (4, [.ref (n + 69), .int 0, .int 64])), .inl (64, fun _ => 0)]) C fX0_26 dX0_init_42 rfl (gapp_new hn rfl) (Nat.le_of_ble_eq_true rfl) (Or.inl rfl) rfl rfl (by intro z h; cases h) rfl (gapp_set hn) ?_
  refine g_aload_n (q := 46) C dX0_init_45 rfl rfl ?_
  refine g_iconst (v := 4) (q := 47) C dX0_init_46 (by decide) rfl ?_
  refine g_newarray (q := 49) (k := n + 70) (N := 4) C t_144 dX0_init_47 rfl (by rw [List.length_append, hn]; rfl) (by decide) (by decide) (by decide) (Nat.le_of_ble_eq_true rfl) (Nat.le_of_ble_eq_true rfl) ?_
  refine g_heap (hp2 := hp ++ [.inr (.inr (0, [.ref (n + 1), .ref (n + 24), .ref (n + 47), .int 0, .null, .null, .null])), .inr (.inr (2, [.ref (n + 2), .ref (n + 9), .ref (n + 16), .int 0, .int 0, .int 0, .int 0, .int 0, .ref (n + 20), .ref (n + 22), .null, .int 3, .int 0, .int ((-1)), .int 0, .int 0, .int 0, .int 0])), .inr (.inr (5, [.int 0, .int 0, .int 0, .int 32, .int 0, .int ((-1)), .int 0, .int 0, .ref (n + 3), .ref (n + 5), .ref (n + 7), .int ((-1)), .int 0, .int ((-1)), .int 0])), .inr (.inr (4, [.ref (n + 4), .int 0, .int 60])), .inl (60, fun _ => 0), .inr (.inr (4, [.ref (n + 6), .int 0, .int 60])), .inl (60, fun _ => 0), .inr (.inr (4, [.ref (n + 8), .int 0, .int 60])), .inl (60, fun _ => 0), .inr (.inr (5, [.int 1, .int 0, .int 0, .int 32, .int 0, .int ((-1)), .int 0, .int 0, .ref (n + 10), .ref (n + 12), .ref (n + 14), .int ((-1)), .int 0, .int ((-1)), .int 0])), .inr (.inr (4, [.ref (n + 11), .int 0, .int 60])), .inl (60, fun _ => 0), .inr (.inr (4, [.ref (n + 13), .int 0, .int 60])), .inl (60, fun _ => 0), .inr (.inr (4, [.ref (n + 15), .int 0, .int 60])), .inl (60, fun _ => 0), .inr (.inr (6, [.int 1, .int 0, .int 0, .ref (n + 17), .ref (n + 18), .ref (n + 19), .int 0, .int ((-1)), .int 0, .int 0])), .inl (24, fun _ => 0), .inl (24, fun _ => 0), .inl (24, fun _ => 0), .inr (.inr (4, [.ref (n + 21), .int 0, .int 64])), .inl (64, fun _ => 0), .inr (.inr (4, [.ref (n + 23), .int 0, .int 64])), .inl (64, fun _ => 0), .inr (.inr (2, [.ref (n + 25), .ref (n + 32), .ref (n + 39), .int 0, .int 0, .int 0, .int 0, .int 0, .ref (n + 43), .ref (n + 45), .null, .int 3, .int 0, .int ((-1)), .int 0, .int 0, .int 0, .int 0])), .inr (.inr (5, [.int 0, .int 0, .int 0, .int 32, .int 0, .int ((-1)), .int 0, .int 0, .ref (n + 26), .ref (n + 28), .ref (n + 30), .int ((-1)), .int 0, .int ((-1)), .int 0])), .inr (.inr (4, [.ref (n + 27), .int 0, .int 60])), .inl (60, fun _ => 0), .inr (.inr (4, [.ref (n + 29), .int 0, .int 60])), .inl (60, fun _ => 0), .inr (.inr (4, [.ref (n + 31), .int 0, .int 60])), .inl (60, fun _ => 0), .inr (.inr (5, [.int 1, .int 0, .int 0, .int 32, .int 0, .int ((-1)), .int 0, .int 0, .ref (n + 33), .ref (n + 35), .ref (n + 37), .int ((-1)), .int 0, .int ((-1)), .int 0])), .inr (.inr (4, [.ref (n + 34), .int 0, .int 60])), .inl (60, fun _ => 0), .inr (.inr (4, [.ref (n + 36), .int 0, .int 60])), .inl (60, fun _ => 0), .inr (.inr (4, [.ref (n + 38), .int 0, .int 60])), .inl (60, fun _ => 0), .inr (.inr (6, [.int 1, .int 0, .int 0, .ref (n + 40), .ref (n + 41), .ref (n + 42), .int 0, .int ((-1)), .int 0, .int 0])), .inl (24, fun _ => 0), .inl (24, fun _ => 0), .inl (24, fun _ => 0), .inr (.inr (4, [.ref (n + 44), .int 0, .int 64])), .inl (64, fun _ => 0), .inr (.inr (4, [.ref (n + 46), .int 0, .int 64])), .inl (64, fun _ => 0), .inr (.inr (2, [.ref (n + 48), .ref (n + 55), .ref (n + 62), .int 0, .int 0, .int 0, .int 0, .int 0, .ref (n + 66), .ref (n + 68), .null, .int 3, .int 0, .int ((-1)), .int 0, .int 0, .int 0, .int 0])), .inr (.inr (5, [.int 0, .int 0, .int 0, .int 32, .int 0, .int ((-1)), .int 0, .int 0, .ref (n + 49), .ref (n + 51), .ref (n + 53), .int ((-1)), .int 0, .int ((-1)), .int 0])), .inr (.inr (4, [.ref (n + 50), .int 0, .int 60])), .inl (60, fun _ => 0), .inr (.inr (4, [.ref (n + 52), .int 0, .int 60])), .inl (60, fun _ => 0), .inr (.inr (4, [.ref (n + 54), .int 0, .int 60])), .inl (60, fun _ => 0), .inr (.inr (5, [.int 1, .int 0, .int 0, .int 32, .int 0, .int ((-1)), .int 0, .int 0, .ref (n + 56), .ref (n + 58), .ref (n + 60), .int ((-1)), .int 0, .int ((-1)), .int 0])), .inr (.inr (4, [.ref (n + 57), .int 0, .int 60])), .inl (60, fun _ => 0), .inr (.inr (4, [.ref (n + 59), .int 0, .int 60])), .inl (60, fun _ => 0), .inr (.inr (4, [.ref (n + 61), .int 0, .int 60])), .inl (60, fun _ => 0), .inr (.inr (6, [.int 1, .int 0, .int 0, .ref (n + 63), .ref (n + 64), .ref (n + 65), .int 0, .int ((-1)), .int 0, .int 0])), .inl (24, fun _ => 0), .inl (24, fun _ => 0), .inl (24, fun _ => 0), .inr (.inr (4, [.ref (n + 67), .int 0, .int 64])), .inl (64, fun _ => 0), .inr (.inr (4, [.ref (n + 69), .int 0, .int 64])), .inl (64, fun _ => 0), .inl (4, fun _ => 0)]) (by simp only [List.append_assoc, List.cons_append, List.nil_append]) ?_
  refine g_putE (q := 52) (hp' := hp ++ [.inr (.inr (0, [.ref (n + 1), .ref (n + 24), .ref (n + 47), .int 0, .ref (n + 70), .null, .null])), .inr (.inr (2, [.ref (n + 2), .ref (n + 9), .ref (n + 16), .int 0, .int 0, .int 0, .int 0, .int 0, .ref (n + 20), .ref (n + 22), .null, .int 3, .int 0, .int ((-1)), .int 0, .int 0, .int 0, .int 0])), .inr (.inr (5, [.int 0, .int 0, .int 0, .int 32, .int 0, .int ((-1)), .int 0, .int 0, .ref (n + 3), .ref (n + 5), .ref (n + 7), .int ((-1)), .int 0, .int ((-1)), .int 0])), .inr (.inr (4, [.ref (n + 4), .int 0, .int 60])), .inl (60, fun _ => 0), .inr (.inr (4, [.ref (n + 6), .int 0, .int 60])), .inl (60, fun _ => 0), .inr (.inr (4, [.ref (n + 8), .int 0, .int 60])), .inl (60, fun _ => 0), .inr (.inr (5, [.int 1, .int 0, .int 0, .int 32, .int 0, .int ((-1)), .int 0, .int 0, .ref (n + 10), .ref (n + 12), .ref (n + 14), .int ((-1)), .int 0, .int ((-1)), .int 0])), .inr (.inr (4, [.ref (n + 11), .int 0, .int 60])), .inl (60, fun _ => 0), .inr (.inr (4, [.ref (n + 13), .int 0, .int 60])), .inl (60, fun _ => 0), .inr (.inr (4, [.ref (n + 15), .int 0, .int 60])), .inl (60, fun _ => 0), .inr (.inr (6, [.int 1, .int 0, .int 0, .ref (n + 17), .ref (n + 18), .ref (n + 19), .int 0, .int ((-1)), .int 0, .int 0])), .inl (24, fun _ => 0), .inl (24, fun _ => 0), .inl (24, fun _ => 0), .inr (.inr (4, [.ref (n + 21), .int 0, .int 64])), .inl (64, fun _ => 0), .inr (.inr (4, [.ref (n + 23), .int 0, .int 64])), .inl (64, fun _ => 0), .inr (.inr (2, [.ref (n + 25), .ref (n + 32), .ref (n + 39), .int 0, .int 0, .int 0, .int 0, .int 0, .ref (n + 43), .ref (n + 45), .null, .int 3, .int 0, .int ((-1)), .int 0, .int 0, .int 0, .int 0])), .inr (.inr (5, [.int 0, .int 0, .int 0, .int 32, .int 0, .int ((-1)), .int 0, .int 0, .ref (n + 26), .ref (n + 28), .ref (n + 30), .int ((-1)), .int 0, .int ((-1)), .int 0])), .inr (.inr (4, [.ref (n + 27), .int 0, .int 60])), .inl (60, fun _ => 0), .inr (.inr (4, [.ref (n + 29), .int 0, .int 60])), .inl (60, fun _ => 0), .inr (.inr (4, [.ref (n + 31), .int 0, .int 60])), .inl (60, fun _ => 0), .inr (.inr (5, [.int 1, .int 0, .int 0, .int 32, .int 0, .int ((-1)), .int 0, .int 0, .ref (n + 33), .ref (n + 35), .ref (n + 37), .int ((-1)), .int 0, .int ((-1)), .int 0])), .inr (.inr (4, [.ref (n + 34), .int 0, .int 60])), .inl (60, fun _ => 0), .inr (.inr (4, [.ref (n + 36), .int 0, .int 60])), .inl (60, fun _ => 0), .inr (.inr (4, [.ref (n + 38), .int 0, .int 60])), .inl (60, fun _ => 0), .inr (.inr (6, [.int 1, .int 0, .int 0, .ref (n + 40), .ref (n + 41), .ref (n + 42), .int 0, .int ((-1)), .int 0, .int 0])), .inl (24, fun _ => 0), .inl (24, fun _ => 0), .inl (24, fun _ => 0), .inr (.inr (4, [.ref (n + 44), .int 0, .int 64])), .inl (64, fun _ => 0), .inr (.inr (4, [.ref (n + 46), .int 0, .int 64])), .inl (64, fun _ => 0), .inr (.inr (2, [.ref (n + 48), .ref (n + 55), .ref (n + 62), .int 0, .int 0, .int 0, .int 0, .int 0, .ref (n + 66), .ref (n + 68), .null, .int 3, .int 0, .int ((-1)), .int 0, .int 0, .int 0, .int 0])), .inr (.inr (5, [.int 0, .int 0, .int 0, .int 32, .int 0, .int ((-1)), .int 0, .int 0, .ref (n + 49), .ref (n + 51), .ref (n + 53), .int ((-1)), .int 0, .int ((-1)), .int 0])), .inr (.inr (4, [.ref (n + 50), .int 0, .int 60])), .inl (60, fun _ => 0), .inr (.inr (4, [.ref (n + 52), .int 0, .int 60])), .inl (60, fun _ => 0), .inr (.inr (4, [.ref (n + 54), .int 0, .int 60])), .inl (60, fun _ => 0), .inr (.inr (5, [.int 1, .int 0, .int 0, .int 32, .int 0, .int ((-1)), .int 0, .int 0, .ref (n + 56), .ref (n + 58), .ref (n + 60), .int ((-1)), .int 0, .int ((-1)), .int 0])), .inr (.inr (4, [.ref (n + 57), .int 0, .int 60])), .inl (60, fun _ => 0), .inr (.inr (4, [.ref (n + 59), .int 0, .int 60])), .inl (60, fun _ => 0), .inr (.inr (4, [.ref (n + 61), .int 0, .int 60])), .inl (60, fun _ => 0), .inr (.inr (6, [.int 1, .int 0, .int 0, .ref (n + 63), .ref (n + 64), .ref (n + 65), .int 0, .int ((-1)), .int 0, .int 0])), .inl (24, fun _ => 0), .inl (24, fun _ => 0), .inl (24, fun _ => 0), .inr (.inr (4, [.ref (n + 67), .int 0, .int 64])), .inl (64, fun _ => 0), .inr (.inr (4, [.ref (n + 69), .int 0, .int 64])), .inl (64, fun _ => 0), .inl (4, fun _ => 0)]) C fX0_30 dX0_init_49 rfl (gapp_new hn rfl) (Nat.le_of_ble_eq_true rfl) (Or.inr rfl) rfl rfl (by intro z h; cases h) rfl (gapp_set hn) ?_
  refine g_aload_n (q := 53) C dX0_init_52 rfl rfl ?_
  refine g_iconst (v := 4) (q := 54) C dX0_init_53 (by decide) rfl ?_
  refine g_newarray (q := 56) (k := n + 71) (N := 4) C t_144 dX0_init_54 rfl (by rw [List.length_append, hn]; rfl) (by decide) (by decide) (by decide) (Nat.le_of_ble_eq_true rfl) (Nat.le_of_ble_eq_true rfl) ?_
  refine g_heap (hp2 := hp ++ [.inr (.inr (0, [.ref (n + 1), .ref (n + 24), .ref (n + 47), .int 0, .ref (n + 70), .null, .null])), .inr (.inr (2, [.ref (n + 2), .ref (n + 9), .ref (n + 16), .int 0, .int 0, .int 0, .int 0, .int 0, .ref (n + 20), .ref (n + 22), .null, .int 3, .int 0, .int ((-1)), .int 0, .int 0, .int 0, .int 0])), .inr (.inr (5, [.int 0, .int 0, .int 0, .int 32, .int 0, .int ((-1)), .int 0, .int 0, .ref (n + 3), .ref (n + 5), .ref (n + 7), .int ((-1)), .int 0, .int ((-1)), .int 0])), .inr (.inr (4, [.ref (n + 4), .int 0, .int 60])), .inl (60, fun _ => 0), .inr (.inr (4, [.ref (n + 6), .int 0, .int 60])), .inl (60, fun _ => 0), .inr (.inr (4, [.ref (n + 8), .int 0, .int 60])), .inl (60, fun _ => 0), .inr (.inr (5, [.int 1, .int 0, .int 0, .int 32, .int 0, .int ((-1)), .int 0, .int 0, .ref (n + 10), .ref (n + 12), .ref (n + 14), .int ((-1)), .int 0, .int ((-1)), .int 0])), .inr (.inr (4, [.ref (n + 11), .int 0, .int 60])), .inl (60, fun _ => 0), .inr (.inr (4, [.ref (n + 13), .int 0, .int 60])), .inl (60, fun _ => 0), .inr (.inr (4, [.ref (n + 15), .int 0, .int 60])), .inl (60, fun _ => 0), .inr (.inr (6, [.int 1, .int 0, .int 0, .ref (n + 17), .ref (n + 18), .ref (n + 19), .int 0, .int ((-1)), .int 0, .int 0])), .inl (24, fun _ => 0), .inl (24, fun _ => 0), .inl (24, fun _ => 0), .inr (.inr (4, [.ref (n + 21), .int 0, .int 64])), .inl (64, fun _ => 0), .inr (.inr (4, [.ref (n + 23), .int 0, .int 64])), .inl (64, fun _ => 0), .inr (.inr (2, [.ref (n + 25), .ref (n + 32), .ref (n + 39), .int 0, .int 0, .int 0, .int 0, .int 0, .ref (n + 43), .ref (n + 45), .null, .int 3, .int 0, .int ((-1)), .int 0, .int 0, .int 0, .int 0])), .inr (.inr (5, [.int 0, .int 0, .int 0, .int 32, .int 0, .int ((-1)), .int 0, .int 0, .ref (n + 26), .ref (n + 28), .ref (n + 30), .int ((-1)), .int 0, .int ((-1)), .int 0])), .inr (.inr (4, [.ref (n + 27), .int 0, .int 60])), .inl (60, fun _ => 0), .inr (.inr (4, [.ref (n + 29), .int 0, .int 60])), .inl (60, fun _ => 0), .inr (.inr (4, [.ref (n + 31), .int 0, .int 60])), .inl (60, fun _ => 0), .inr (.inr (5, [.int 1, .int 0, .int 0, .int 32, .int 0, .int ((-1)), .int 0, .int 0, .ref (n + 33), .ref (n + 35), .ref (n + 37), .int ((-1)), .int 0, .int ((-1)), .int 0])), .inr (.inr (4, [.ref (n + 34), .int 0, .int 60])), .inl (60, fun _ => 0), .inr (.inr (4, [.ref (n + 36), .int 0, .int 60])), .inl (60, fun _ => 0), .inr (.inr (4, [.ref (n + 38), .int 0, .int 60])), .inl (60, fun _ => 0), .inr (.inr (6, [.int 1, .int 0, .int 0, .ref (n + 40), .ref (n + 41), .ref (n + 42), .int 0, .int ((-1)), .int 0, .int 0])), .inl (24, fun _ => 0), .inl (24, fun _ => 0), .inl (24, fun _ => 0), .inr (.inr (4, [.ref (n + 44), .int 0, .int 64])), .inl (64, fun _ => 0), .inr (.inr (4, [.ref (n + 46), .int 0, .int 64])), .inl (64, fun _ => 0), .inr (.inr (2, [.ref (n + 48), .ref (n + 55), .ref (n + 62), .int 0, .int 0, .int 0, .int 0, .int 0, .ref (n + 66), .ref (n + 68), .null, .int 3, .int 0, .int ((-1)), .int 0, .int 0, .int 0, .int 0])), .inr (.inr (5, [.int 0, .int 0, .int 0, .int 32, .int 0, .int ((-1)), .int 0, .int 0, .ref (n + 49), .ref (n + 51), .ref (n + 53), .int ((-1)), .int 0, .int ((-1)), .int 0])), .inr (.inr (4, [.ref (n + 50), .int 0, .int 60])), .inl (60, fun _ => 0), .inr (.inr (4, [.ref (n + 52), .int 0, .int 60])), .inl (60, fun _ => 0), .inr (.inr (4, [.ref (n + 54), .int 0, .int 60])), .inl (60, fun _ => 0), .inr (.inr (5, [.int 1, .int 0, .int 0, .int 32, .int 0, .int ((-1)), .int 0, .int 0, .ref (n + 56), .ref (n + 58), .ref (n + 60), .int ((-1)), .int 0, .int ((-1)), .int 0])), .inr (.inr (4, [.ref (n + 57), .int 0, .int 60])), .inl (60, fun _ => 0), .inr (.inr (4, [.ref (n + 59), .int 0, .int 60])), .inl (60, fun _ => 0), .inr (.inr (4, [.ref (n + 61), .int 0, .int 60])), .inl (60, fun _ => 0), .inr (.inr (6, [.int 1, .int 0, .int 0, .ref (n + 63), .ref (n + 64), .ref (n + 65), .int 0, .int ((-1)), .int 0, .int 0])), .inl (24, fun _ => 0), .inl (24, fun _ => 0), .inl (24, fun _ => 0), .inr (.inr (4, [.ref (n + 67), .int 0, .int 64])), .inl (64, fun _ => 0), .inr (.inr (4, [.ref (n + 69), .int 0, .int 64])), .inl (64, fun _ => 0), .inl (4, fun _ => 0), .inl (4, fun _ => 0)]) (by simp only [List.append_assoc, List.cons_append, List.nil_append]) ?_
  refine g_putE (q := 59) (hp' := hp ++ [.inr (.inr (0, [.ref (n + 1), .ref (n + 24), .ref (n + 47), .int 0, .ref (n + 70), .ref (n + 71), .null])), .inr (.inr (2, [.ref (n + 2), .ref (n + 9), .ref (n + 16), .int 0, .int 0, .int 0, .int 0, .int 0, .ref (n + 20), .ref (n + 22), .null, .int 3, .int 0, .int ((-1)), .int 0, .int 0, .int 0, .int 0])), .inr (.inr (5, [.int 0, .int 0, .int 0, .int 32, .int 0, .int ((-1)), .int 0, .int 0, .ref (n + 3), .ref (n + 5), .ref (n + 7), .int ((-1)), .int 0, .int ((-1)), .int 0])), .inr (.inr (4, [.ref (n + 4), .int 0, .int 60])), .inl (60, fun _ => 0), .inr (.inr (4, [.ref (n + 6), .int 0, .int 60])), .inl (60, fun _ => 0), .inr (.inr (4, [.ref (n + 8), .int 0, .int 60])), .inl (60, fun _ => 0), .inr (.inr (5, [.int 1, .int 0, .int 0, .int 32, .int 0, .int ((-1)), .int 0, .int 0, .ref (n + 10), .ref (n + 12), .ref (n + 14), .int ((-1)), .int 0, .int ((-1)), .int 0])), .inr (.inr (4, [.ref (n + 11), .int 0, .int 60])), .inl (60, fun _ => 0), .inr (.inr (4, [.ref (n + 13), .int 0, .int 60])), .inl (60, fun _ => 0), .inr (.inr (4, [.ref (n + 15), .int 0, .int 60])), .inl (60, fun _ => 0), .inr (.inr (6, [.int 1, .int 0, .int 0, .ref (n + 17), .ref (n + 18), .ref (n + 19), .int 0, .int ((-1)), .int 0, .int 0])), .inl (24, fun _ => 0), .inl (24, fun _ => 0), .inl (24, fun _ => 0), .inr (.inr (4, [.ref (n + 21), .int 0, .int 64])), .inl (64, fun _ => 0), .inr (.inr (4, [.ref (n + 23), .int 0, .int 64])), .inl (64, fun _ => 0), .inr (.inr (2, [.ref (n + 25), .ref (n + 32), .ref (n + 39), .int 0, .int 0, .int 0, .int 0, .int 0, .ref (n + 43), .ref (n + 45), .null, .int 3, .int 0, .int ((-1)), .int 0, .int 0, .int 0, .int 0])), .inr (.inr (5, [.int 0, .int 0, .int 0, .int 32, .int 0, .int ((-1)), .int 0, .int 0, .ref (n + 26), .ref (n + 28), .ref (n + 30), .int ((-1)), .int 0, .int ((-1)), .int 0])), .inr (.inr (4, [.ref (n + 27), .int 0, .int 60])), .inl (60, fun _ => 0), .inr (.inr (4, [.ref (n + 29), .int 0, .int 60])), .inl (60, fun _ => 0), .inr (.inr (4, [.ref (n + 31), .int 0, .int 60])), .inl (60, fun _ => 0), .inr (.inr (5, [.int 1, .int 0, .int 0, .int 32, .int 0, .int ((-1)), .int 0, .int 0, .ref (n + 33), .ref (n + 35), .ref (n + 37), .int ((-1)), .int 0, .int ((-1)), .int 0])), .inr (.inr (4, [.ref (n + 34), .int 0, .int 60])), .inl (60, fun _ => 0), .inr (.inr (4, [.ref (n + 36), .int 0, .int 60])), .inl (60, fun _ => 0), .inr (.inr (4, [.ref (n + 38), .int 0, .int 60])), .inl (60, fun _ => 0), .inr (.inr (6, [.int 1, .int 0, .int 0, .ref (n + 40), .ref (n + 41), .ref (n + 42), .int 0, .int ((-1)), .int 0, .int 0])), .inl (24, fun _ => 0), .inl (24, fun _ => 0), .inl (24, fun _ => 0), .inr (.inr (4, [.ref (n + 44), .int 0, .int 64])), .inl (64, fun _ => 0), .inr (.inr (4, [.ref (n + 46), .int 0, .int 64])), .inl (64, fun _ => 0), .inr (.inr (2, [.ref (n + 48), .ref (n + 55), .ref (n + 62), .int 0, .int 0, .int 0, .int 0, .int 0, .ref (n + 66), .ref (n + 68), .null, .int 3, .int 0, .int ((-1)), .int 0, .int 0, .int 0, .int 0])), .inr (.inr (5, [.int 0, .int 0, .int 0, .int 32, .int 0, .int ((-1)), .int 0, .int 0, .ref (n + 49), .ref (n + 51), .ref (n + 53), .int ((-1)), .int 0, .int ((-1)), .int 0])), .inr (.inr (4, [.ref (n + 50), .int 0, .int 60])), .inl (60, fun _ => 0), .inr (.inr (4, [.ref (n + 52), .int 0, .int 60])), .inl (60, fun _ => 0), .inr (.inr (4, [.ref (n + 54), .int 0, .int 60])), .inl (60, fun _ => 0), .inr (.inr (5, [.int 1, .int 0, .int 0, .int 32, .int 0, .int ((-1)), .int 0, .int 0, .ref (n + 56), .ref (n + 58), .ref (n + 60), .int ((-1)), .int 0, .int ((-1)), .int 0])), .inr (.inr (4, [.ref (n + 57), .int 0, .int 60])), .inl (60, fun _ => 0), .inr (.inr (4, [.ref (n + 59), .int 0, .int 60])), .inl (60, fun _ => 0), .inr (.inr (4, [.ref (n + 61), .int 0, .int 60])), .inl (60, fun _ => 0), .inr (.inr (6, [.int 1, .int 0, .int 0, .ref (n + 63), .ref (n + 64), .ref (n + 65), .int 0, .int ((-1)), .int 0, .int 0])), .inl (24, fun _ => 0), .inl (24, fun _ => 0), .inl (24, fun _ => 0), .inr (.inr (4, [.ref (n + 67), .int 0, .int 64])), .inl (64, fun _ => 0), .inr (.inr (4, [.ref (n + 69), .int 0, .int 64])), .inl (64, fun _ => 0), .inl (4, fun _ => 0), .inl (4, fun _ => 0)]) C fX0_34 dX0_init_56 rfl (gapp_new hn rfl) (Nat.le_of_ble_eq_true rfl) (Or.inr rfl) rfl rfl (by intro z h; cases h) rfl (gapp_set hn) ?_
  refine g_aload_n (q := 60) C dX0_init_59 rfl rfl ?_
  refine g_iconst (v := 4) (q := 61) C dX0_init_60 (by decide) rfl ?_
  refine g_newarray (q := 63) (k := n + 72) (N := 4) C t_144 dX0_init_61 rfl (by rw [List.length_append, hn]; rfl) (by decide) (by decide) (by decide) (Nat.le_of_ble_eq_true rfl) (Nat.le_of_ble_eq_true rfl) ?_
  refine g_heap (hp2 := hp ++ [.inr (.inr (0, [.ref (n + 1), .ref (n + 24), .ref (n + 47), .int 0, .ref (n + 70), .ref (n + 71), .null])), .inr (.inr (2, [.ref (n + 2), .ref (n + 9), .ref (n + 16), .int 0, .int 0, .int 0, .int 0, .int 0, .ref (n + 20), .ref (n + 22), .null, .int 3, .int 0, .int ((-1)), .int 0, .int 0, .int 0, .int 0])), .inr (.inr (5, [.int 0, .int 0, .int 0, .int 32, .int 0, .int ((-1)), .int 0, .int 0, .ref (n + 3), .ref (n + 5), .ref (n + 7), .int ((-1)), .int 0, .int ((-1)), .int 0])), .inr (.inr (4, [.ref (n + 4), .int 0, .int 60])), .inl (60, fun _ => 0), .inr (.inr (4, [.ref (n + 6), .int 0, .int 60])), .inl (60, fun _ => 0), .inr (.inr (4, [.ref (n + 8), .int 0, .int 60])), .inl (60, fun _ => 0), .inr (.inr (5, [.int 1, .int 0, .int 0, .int 32, .int 0, .int ((-1)), .int 0, .int 0, .ref (n + 10), .ref (n + 12), .ref (n + 14), .int ((-1)), .int 0, .int ((-1)), .int 0])), .inr (.inr (4, [.ref (n + 11), .int 0, .int 60])), .inl (60, fun _ => 0), .inr (.inr (4, [.ref (n + 13), .int 0, .int 60])), .inl (60, fun _ => 0), .inr (.inr (4, [.ref (n + 15), .int 0, .int 60])), .inl (60, fun _ => 0), .inr (.inr (6, [.int 1, .int 0, .int 0, .ref (n + 17), .ref (n + 18), .ref (n + 19), .int 0, .int ((-1)), .int 0, .int 0])), .inl (24, fun _ => 0), .inl (24, fun _ => 0), .inl (24, fun _ => 0), .inr (.inr (4, [.ref (n + 21), .int 0, .int 64])), .inl (64, fun _ => 0), .inr (.inr (4, [.ref (n + 23), .int 0, .int 64])), .inl (64, fun _ => 0), .inr (.inr (2, [.ref (n + 25), .ref (n + 32), .ref (n + 39), .int 0, .int 0, .int 0, .int 0, .int 0, .ref (n + 43), .ref (n + 45), .null, .int 3, .int 0, .int ((-1)), .int 0, .int 0, .int 0, .int 0])), .inr (.inr (5, [.int 0, .int 0, .int 0, .int 32, .int 0, .int ((-1)), .int 0, .int 0, .ref (n + 26), .ref (n + 28), .ref (n + 30), .int ((-1)), .int 0, .int ((-1)), .int 0])), .inr (.inr (4, [.ref (n + 27), .int 0, .int 60])), .inl (60, fun _ => 0), .inr (.inr (4, [.ref (n + 29), .int 0, .int 60])), .inl (60, fun _ => 0), .inr (.inr (4, [.ref (n + 31), .int 0, .int 60])), .inl (60, fun _ => 0), .inr (.inr (5, [.int 1, .int 0, .int 0, .int 32, .int 0, .int ((-1)), .int 0, .int 0, .ref (n + 33), .ref (n + 35), .ref (n + 37), .int ((-1)), .int 0, .int ((-1)), .int 0])), .inr (.inr (4, [.ref (n + 34), .int 0, .int 60])), .inl (60, fun _ => 0), .inr (.inr (4, [.ref (n + 36), .int 0, .int 60])), .inl (60, fun _ => 0), .inr (.inr (4, [.ref (n + 38), .int 0, .int 60])), .inl (60, fun _ => 0), .inr (.inr (6, [.int 1, .int 0, .int 0, .ref (n + 40), .ref (n + 41), .ref (n + 42), .int 0, .int ((-1)), .int 0, .int 0])), .inl (24, fun _ => 0), .inl (24, fun _ => 0), .inl (24, fun _ => 0), .inr (.inr (4, [.ref (n + 44), .int 0, .int 64])), .inl (64, fun _ => 0), .inr (.inr (4, [.ref (n + 46), .int 0, .int 64])), .inl (64, fun _ => 0), .inr (.inr (2, [.ref (n + 48), .ref (n + 55), .ref (n + 62), .int 0, .int 0, .int 0, .int 0, .int 0, .ref (n + 66), .ref (n + 68), .null, .int 3, .int 0, .int ((-1)), .int 0, .int 0, .int 0, .int 0])), .inr (.inr (5, [.int 0, .int 0, .int 0, .int 32, .int 0, .int ((-1)), .int 0, .int 0, .ref (n + 49), .ref (n + 51), .ref (n + 53), .int ((-1)), .int 0, .int ((-1)), .int 0])), .inr (.inr (4, [.ref (n + 50), .int 0, .int 60])), .inl (60, fun _ => 0), .inr (.inr (4, [.ref (n + 52), .int 0, .int 60])), .inl (60, fun _ => 0), .inr (.inr (4, [.ref (n + 54), .int 0, .int 60])), .inl (60, fun _ => 0), .inr (.inr (5, [.int 1, .int 0, .int 0, .int 32, .int 0, .int ((-1)), .int 0, .int 0, .ref (n + 56), .ref (n + 58), .ref (n + 60), .int ((-1)), .int 0, .int ((-1)), .int 0])), .inr (.inr (4, [.ref (n + 57), .int 0, .int 60])), .inl (60, fun _ => 0), .inr (.inr (4, [.ref (n + 59), .int 0, .int 60])), .inl (60, fun _ => 0), .inr (.inr (4, [.ref (n + 61), .int 0, .int 60])), .inl (60, fun _ => 0), .inr (.inr (6, [.int 1, .int 0, .int 0, .ref (n + 63), .ref (n + 64), .ref (n + 65), .int 0, .int ((-1)), .int 0, .int 0])), .inl (24, fun _ => 0), .inl (24, fun _ => 0), .inl (24, fun _ => 0), .inr (.inr (4, [.ref (n + 67), .int 0, .int 64])), .inl (64, fun _ => 0), .inr (.inr (4, [.ref (n + 69), .int 0, .int 64])), .inl (64, fun _ => 0), .inl (4, fun _ => 0), .inl (4, fun _ => 0), .inl (4, fun _ => 0)]) (by simp only [List.append_assoc, List.cons_append, List.nil_append]) ?_
  refine g_putE (q := 66) (hp' := hp ++ [.inr (.inr (0, [.ref (n + 1), .ref (n + 24), .ref (n + 47), .int 0, .ref (n + 70), .ref (n + 71), .ref (n + 72)])), .inr (.inr (2, [.ref (n + 2), .ref (n + 9), .ref (n + 16), .int 0, .int 0, .int 0, .int 0, .int 0, .ref (n + 20), .ref (n + 22), .null, .int 3, .int 0, .int ((-1)), .int 0, .int 0, .int 0, .int 0])), .inr (.inr (5, [.int 0, .int 0, .int 0, .int 32, .int 0, .int ((-1)), .int 0, .int 0, .ref (n + 3), .ref (n + 5), .ref (n + 7), .int ((-1)), .int 0, .int ((-1)), .int 0])), .inr (.inr (4, [.ref (n + 4), .int 0, .int 60])), .inl (60, fun _ => 0), .inr (.inr (4, [.ref (n + 6), .int 0, .int 60])), .inl (60, fun _ => 0), .inr (.inr (4, [.ref (n + 8), .int 0, .int 60])), .inl (60, fun _ => 0), .inr (.inr (5, [.int 1, .int 0, .int 0, .int 32, .int 0, .int ((-1)), .int 0, .int 0, .ref (n + 10), .ref (n + 12), .ref (n + 14), .int ((-1)), .int 0, .int ((-1)), .int 0])), .inr (.inr (4, [.ref (n + 11), .int 0, .int 60])), .inl (60, fun _ => 0), .inr (.inr (4, [.ref (n + 13), .int 0, .int 60])), .inl (60, fun _ => 0), .inr (.inr (4, [.ref (n + 15), .int 0, .int 60])), .inl (60, fun _ => 0), .inr (.inr (6, [.int 1, .int 0, .int 0, .ref (n + 17), .ref (n + 18), .ref (n + 19), .int 0, .int ((-1)), .int 0, .int 0])), .inl (24, fun _ => 0), .inl (24, fun _ => 0), .inl (24, fun _ => 0), .inr (.inr (4, [.ref (n + 21), .int 0, .int 64])), .inl (64, fun _ => 0), .inr (.inr (4, [.ref (n + 23), .int 0, .int 64])), .inl (64, fun _ => 0), .inr (.inr (2, [.ref (n + 25), .ref (n + 32), .ref (n + 39), .int 0, .int 0, .int 0, .int 0, .int 0, .ref (n + 43), .ref (n + 45), .null, .int 3, .int 0, .int ((-1)), .int 0, .int 0, .int 0, .int 0])), .inr (.inr (5, [.int 0, .int 0, .int 0, .int 32, .int 0, .int ((-1)), .int 0, .int 0, .ref (n + 26), .ref (n + 28), .ref (n + 30), .int ((-1)), .int 0, .int ((-1)), .int 0])), .inr (.inr (4, [.ref (n + 27), .int 0, .int 60])), .inl (60, fun _ => 0), .inr (.inr (4, [.ref (n + 29), .int 0, .int 60])), .inl (60, fun _ => 0), .inr (.inr (4, [.ref (n + 31), .int 0, .int 60])), .inl (60, fun _ => 0), .inr (.inr (5, [.int 1, .int 0, .int 0, .int 32, .int 0, .int ((-1)), .int 0, .int 0, .ref (n + 33), .ref (n + 35), .ref (n + 37), .int ((-1)), .int 0, .int ((-1)), .int 0])), .inr (.inr (4, [.ref (n + 34), .int 0, .int 60])), .inl (60, fun _ => 0), .inr (.inr (4, [.ref (n + 36), .int 0, .int 60])), .inl (60, fun _ => 0), .inr (.inr (4, [.ref (n + 38), .int 0, .int 60])), .inl (60, fun _ => 0), .inr (.inr (6, [.int 1, .int 0, .int 0, .ref (n + 40), .ref (n + 41), .ref (n + 42), .int 0, .int ((-1)), .int 0, .int 0])), .inl (24, fun _ => 0), .inl (24, fun _ => 0), .inl (24, fun _ => 0), .inr (.inr (4, [.ref (n + 44), .int 0, .int 64])), .inl (64, fun _ => 0), .inr (.inr (4, [.ref (n + 46), .int 0, .int 64])), .inl (64, fun _ => 0), .inr (.inr (2, [.ref (n + 48), .ref (n + 55), .ref (n + 62), .int 0, .int 0, .int 0, .int 0, .int 0, .ref (n + 66), .ref (n + 68), .null, .int 3, .int 0, .int ((-1)), .int 0, .int 0, .int 0, .int 0])), .inr (.inr (5, [.int 0, .int 0, .int 0, .int 32, .int 0, .int ((-1)), .int 0, .int 0, .ref (n + 49), .ref (n + 51), .ref (n + 53), .int ((-1)), .int 0, .int ((-1)), .int 0])), .inr (.inr (4, [.ref (n + 50), .int 0, .int 60])), .inl (60, fun _ => 0), .inr (.inr (4, [.ref (n + 52), .int 0, .int 60])), .inl (60, fun _ => 0), .inr (.inr (4, [.ref (n + 54), .int 0, .int 60])), .inl (60, fun _ => 0), .inr (.inr (5, [.int 1, .int 0, .int 0, .int 32, .int 0, .int ((-1)), .int 0, .int 0, .ref (n + 56), .ref (n + 58), .ref (n + 60), .int ((-1)), .int 0, .int ((-1)), .int 0])), .inr (.inr (4, [.ref (n + 57), .int 0, .int 60])), .inl (60, fun _ => 0), .inr (.inr (4, [.ref (n + 59), .int 0, .int 60])), .inl (60, fun _ => 0), .inr (.inr (4, [.ref (n + 61), .int 0, .int 60])), .inl (60, fun _ => 0), .inr (.inr (6, [.int 1, .int 0, .int 0, .ref (n + 63), .ref (n + 64), .ref (n + 65), .int 0, .int ((-1)), .int 0, .int 0])), .inl (24, fun _ => 0), .inl (24, fun _ => 0), .inl (24, fun _ => 0), .inr (.inr (4, [.ref (n + 67), .int 0, .int 64])), .inl (64, fun _ => 0), .inr (.inr (4, [.ref (n + 69), .int 0, .int 64])), .inl (64, fun _ => 0), .inl (4, fun _ => 0), .inl (4, fun _ => 0), .inl (4, fun _ => 0)]) C fX0_37 dX0_init_63 rfl (gapp_new hn rfl) (Nat.le_of_ble_eq_true rfl) (Or.inr rfl) rfl rfl (by intro z h; cases h) rfl (gapp_set hn) ?_
  exact E.2.1 _ _ _ _ _ dX0_init_66 rfl (Nat.le_of_ble_eq_true rfl) (Nat.le_of_ble_eq_true rfl) ⟨rfl, rfl⟩
theorem dX3_init_0 : decode cX3_init 0 = .ok (.aload_n 0, 1) := by decide +kernel
theorem dX3_init_1 : decode cX3_init 1 = .ok (.invokespecial 3, 3) := by decide +kernel
theorem dX3_init_4 : decode cX3_init 4 = .ok (.aload_n 0, 1) := by decide +kernel
theorem dX3_init_5 : decode cX3_init 5 = .ok (.new 9, 3) := by decide +kernel
theorem dX3_init_8 : decode cX3_init 8 = .ok (.dup, 1) := by decide +kernel
theorem dX3_init_9 : decode cX3_init 9 = .ok (.bipush 15, 2) := by decide +kernel
theorem dX3_init_11 : decode cX3_init 11 = .ok (.bipush 15, 2) := by decide +kernel
theorem dX3_init_13 : decode cX3_init 13 = .ok (.invokespecial 11, 3) := by decide +kernel
theorem dX3_init_16 : decode cX3_init 16 = .ok (.putfield 14, 3) := by decide +kernel
theorem dX3_init_19 : decode cX3_init 19 = .ok (.return_, 1) := by decide +kernel
set_option maxRecDepth 100000 in
set_option maxHeartbeats 4000000 in
theorem c_X3_init {hp : List gA} {n : Nat}  (hn : hp.length = n) : gM yX3_init cX3_init 1 (none) 2 43 [.ref (n + 0)] (hp ++ [.inr (.inr (3, [.int 0, .int 0, .int 0, .int 0, .int 0, .int 0, .int 0, .null, .int 0, .int 0, .int 0]))]) (2) (18) (fun v h => v = none ∧ h = hp ++ [.inr (.inr (3, [.int 0, .int 0, .int 0, .int 0, .int 0, .int 0, .int 0, .ref (n + 1), .int 0, .int 0, .int 0])), .inr (.inr (4, [.ref (n + 2), .int 0, .int 15])), .inl (15, fun _ => 0)]) := by
  refine gM_of (ls0 := [some (.ref (n + 0))]) (by decide +kernel) (Nat.le_of_ble_eq_true rfl) rfl fun X C E => ?_
  refine g_aload_n (q := 1) C dX3_init_0 rfl rfl ?_
  refine g_objInit (q := 4) C t_400 t_123 t_124 dX3_init_1 rfl rfl (Nat.le_of_ble_eq_true rfl) (Nat.le_of_ble_eq_true rfl) ?_
  refine g_aload_n (q := 5) C dX3_init_4 rfl rfl ?_
  refine g_new (q := 8) (k := n + 1) C nX3_9 dX3_init_5 rfl (by rw [List.length_append, hn]; rfl) (Nat.le_of_ble_eq_true rfl) (Nat.le_of_ble_eq_true rfl) ?_
  refine g_heap (hp2 := hp ++ [.inr (.inr (3, [.int 0, .int 0, .int 0, .int 0, .int 0, .int 0, .int 0, .null, .int 0, .int 0, .int 0])), .inr (.inr (4, [.null, .int 0, .int 0]))]) (by simp only [List.append_assoc, List.cons_append, List.nil_append]) ?_
  refine g_dup (q := 9) C dX3_init_8 rfl rfl ?_
  refine g_bipush (v := 15) (q := 11) C dX3_init_9 (by decide) rfl ?_
  refine g_bipush (v := 15) (q := 13) C dX3_init_11 (by decide) rfl ?_
  refine g_heap (hp2 := (hp ++ [.inr (.inr (3, [.int 0, .int 0, .int 0, .int 0, .int 0, .int 0, .int 0, .null, .int 0, .int 0, .int 0]))]) ++ [.inr (.inr (4, [.null, .int 0, .int 0]))]) (by simp only [List.append_assoc, List.cons_append, List.nil_append]) ?_
  refine g_callIv (q := 16) (As := [.int 15, .int 15]) C gyX4_init giX4_init rfl t_402 (c_X4_init (n := n + 1) (N := 15) (first := 15) (by rw [List.length_append, hn]; rfl) (by decide) (by decide)) dX3_init_13 rfl rfl rfl (Nat.le_of_ble_eq_true rfl) (Nat.le_of_ble_eq_true rfl) (Nat.le_of_ble_eq_true rfl) (Nat.le_of_ble_eq_true rfl) (Nat.le_of_ble_eq_true rfl) rfl ?_
  refine g_heap (hp2 := hp ++ [.inr (.inr (3, [.int 0, .int 0, .int 0, .int 0, .int 0, .int 0, .int 0, .null, .int 0, .int 0, .int 0])), .inr (.inr (4, [.ref (n + 2), .int 0, .int 15])), .inl (15, fun _ => 0)]) (by simp only [List.append_assoc, List.cons_append, List.nil_append, Nat.add_assoc, Nat.reduceAdd, Nat.add_zero]) ?_
  refine g_putE (q := 19) (hp' := hp ++ [.inr (.inr (3, [.int 0, .int 0, .int 0, .int 0, .int 0, .int 0, .int 0, .ref (n + 1), .int 0, .int 0, .int 0])), .inr (.inr (4, [.ref (n + 2), .int 0, .int 15])), .inl (15, fun _ => 0)]) C fX3_14 dX3_init_16 rfl (gapp_new hn rfl) (Nat.le_of_ble_eq_true rfl) (Or.inr rfl) rfl rfl (by intro z h; cases h) rfl (gapp_set hn) ?_
  exact E.2.1 _ _ _ _ _ dX3_init_19 rfl (Nat.le_of_ble_eq_true rfl) (Nat.le_of_ble_eq_true rfl) ⟨rfl, rfl⟩
theorem dX7_init_0 : decode cX7_init 0 = .ok (.aload_n 0, 1) := by decide +kernel
theorem dX7_init_1 : decode cX7_init 1 = .ok (.invokespecial 1, 3) := by decide +kernel
theorem dX7_init_4 : decode cX7_init 4 = .ok (.aload_n 0, 1) := by decide +kernel
theorem dX7_init_5 : decode cX7_init 5 = .ok (.new 7, 3) := by decide +kernel
theorem dX7_init_8 : decode cX7_init 8 = .ok (.dup, 1) := by decide +kernel
theorem dX7_init_9 : decode cX7_init 9 = .ok (.bipush 96, 2) := by decide +kernel
theorem dX7_init_11 : decode cX7_init 11 = .ok (.bipush 96, 2) := by decide +kernel
theorem dX7_init_13 : decode cX7_init 13 = .ok (.invokespecial 11, 3) := by decide +kernel
theorem dX7_init_16 : decode cX7_init 16 = .ok (.putfield 14, 3) := by decide +kernel
theorem dX7_init_19 : decode cX7_init 19 = .ok (.aload_n 0, 1) := by decide +kernel
theorem dX7_init_20 : decode cX7_init 20 = .ok (.new 18, 3) := by decide +kernel
theorem dX7_init_23 : decode cX7_init 23 = .ok (.dup, 1) := by decide +kernel
theorem dX7_init_24 : decode cX7_init 24 = .ok (.invokespecial 20, 3) := by decide +kernel
theorem dX7_init_27 : decode cX7_init 27 = .ok (.putfield 21, 3) := by decide +kernel
theorem dX7_init_30 : decode cX7_init 30 = .ok (.aload_n 0, 1) := by decide +kernel
theorem dX7_init_31 : decode cX7_init 31 = .ok (.new 25, 3) := by decide +kernel
theorem dX7_init_34 : decode cX7_init 34 = .ok (.dup, 1) := by decide +kernel
theorem dX7_init_35 : decode cX7_init 35 = .ok (.aload_n 0, 1) := by decide +kernel
theorem dX7_init_36 : decode cX7_init 36 = .ok (.getfield 21, 3) := by decide +kernel
theorem dX7_init_39 : decode cX7_init 39 = .ok (.invokespecial 27, 3) := by decide +kernel
theorem dX7_init_42 : decode cX7_init 42 = .ok (.putfield 30, 3) := by decide +kernel
theorem dX7_init_45 : decode cX7_init 45 = .ok (.aload_n 0, 1) := by decide +kernel
theorem dX7_init_46 : decode cX7_init 46 = .ok (.new 34, 3) := by decide +kernel
theorem dX7_init_49 : decode cX7_init 49 = .ok (.dup, 1) := by decide +kernel
theorem dX7_init_50 : decode cX7_init 50 = .ok (.invokespecial 36, 3) := by decide +kernel
theorem dX7_init_53 : decode cX7_init 53 = .ok (.putfield 37, 3) := by decide +kernel
theorem dX7_init_56 : decode cX7_init 56 = .ok (.aload_n 0, 1) := by decide +kernel
theorem dX7_init_57 : decode cX7_init 57 = .ok (.new 41, 3) := by decide +kernel
theorem dX7_init_60 : decode cX7_init 60 = .ok (.dup, 1) := by decide +kernel
theorem dX7_init_61 : decode cX7_init 61 = .ok (.invokespecial 43, 3) := by decide +kernel
theorem dX7_init_64 : decode cX7_init 64 = .ok (.putfield 44, 3) := by decide +kernel
theorem dX7_init_67 : decode cX7_init 67 = .ok (.aload_n 0, 1) := by decide +kernel
theorem dX7_init_68 : decode cX7_init 68 = .ok (.new 41, 3) := by decide +kernel
theorem dX7_init_71 : decode cX7_init 71 = .ok (.dup, 1) := by decide +kernel
theorem dX7_init_72 : decode cX7_init 72 = .ok (.invokespecial 43, 3) := by decide +kernel
theorem dX7_init_75 : decode cX7_init 75 = .ok (.putfield 48, 3) := by decide +kernel
theorem dX7_init_78 : decode cX7_init 78 = .ok (.aload_n 0, 1) := by decide +kernel
theorem dX7_init_79 : decode cX7_init 79 = .ok (.iconst 0, 1) := by decide +kernel
theorem dX7_init_80 : decode cX7_init 80 = .ok (.putfield 51, 3) := by decide +kernel
theorem dX7_init_83 : decode cX7_init 83 = .ok (.return_, 1) := by decide +kernel
set_option maxRecDepth 100000 in
set_option maxHeartbeats 4000000 in
theorem c_X7_init {hp : List gA} {n : Nat}  (hn : hp.length = n) : gM yX7_init cX7_init 1 (none) 5 105 [.ref (n + 0)] (hp ++ [.inr (.inr (7, [.null, .null, .null, .null, .null, .null, .int 0]))]) (121) (3475) (fun v h => v = none ∧ h = hp ++ [.inr (.inr (7, [.ref (n + 1), .ref (n + 3), .ref (n + 20), .ref (n + 43), .ref (n + 116), .ref (n + 119), .int 0])), .inr (.inr (4, [.ref (n + 2), .int 0, .int 96])), .inl (96, fun _ => 0), .inr (.inr (1, [.ref (n + 4), .ref (n + 6), .ref (n + 8), .ref (n + 10), .ref (n + 12), .ref (n + 14), .ref (n + 16), .ref (n + 18), .int ((-1))])), .inr (.inr (4, [.ref (n + 5), .int 0, .int 1048576])), .inl (256, fun _ => 0), .inr (.inr (4, [.ref (n + 7), .int 0, .int 65536])), .inl (32, fun _ => 0), .inr (.inr (4, [.ref (n + 9), .int 0, .int 65536])), .inl (32, fun _ => 0), .inr (.inr (4, [.ref (n + 11), .int 0, .int 65536])), .inl (32, fun _ => 0), .inr (.inr (4, [.ref (n + 13), .int 0, .int 256])), .inl (256, fun _ => 0), .inr (.inr (4, [.ref (n + 15), .int 0, .int 30])), .inl (30, fun _ => 0), .inr (.inr (4, [.ref (n + 17), .int 0, .int 30])), .inl (30, fun _ => 0), .inr (.inr (4, [.ref (n + 19), .int 0, .int 30])), .inl (30, fun _ => 0), .inr (.inr (2, [.ref (n + 21), .ref (n + 28), .ref (n + 35), .int 0, .int 0, .int 0, .int 0, .int 0, .ref (n + 39), .ref (n + 41), .ref (n + 3), .int 3, .int 0, .int ((-1)), .int 0, .int 0, .int 0, .int 0])), .inr (.inr (5, [.int 0, .int 0, .int 0, .int 32, .int 0, .int ((-1)), .int 0, .int 0, .ref (n + 22), .ref (n + 24), .ref (n + 26), .int ((-1)), .int 0, .int ((-1)), .int 0])), .inr (.inr (4, [.ref (n + 23), .int 0, .int 60])), .inl (60, fun _ => 0), .inr (.inr (4, [.ref (n + 25), .int 0, .int 60])), .inl (60, fun _ => 0), .inr (.inr (4, [.ref (n + 27), .int 0, .int 60])), .inl (60, fun _ => 0), .inr (.inr (5, [.int 1, .int 0, .int 0, .int 32, .int 0, .int ((-1)), .int 0, .int 0, .ref (n + 29), .ref (n + 31), .ref (n + 33), .int ((-1)), .int 0, .int ((-1)), .int 0])), .inr (.inr (4, [.ref (n + 30), .int 0, .int 60])), .inl (60, fun _ => 0), .inr (.inr (4, [.ref (n + 32), .int 0, .int 60])), .inl (60, fun _ => 0), .inr (.inr (4, [.ref (n + 34), .int 0, .int 60])), .inl (60, fun _ => 0), .inr (.inr (6, [.int 1, .int 0, .int 0, .ref (n + 36), .ref (n + 37), .ref (n + 38), .int 0, .int ((-1)), .int 0, .int 0])), .inl (24, fun _ => 0), .inl (24, fun _ => 0), .inl (24, fun _ => 0), .inr (.inr (4, [.ref (n + 40), .int 0, .int 64])), .inl (64, fun _ => 0), .inr (.inr (4, [.ref (n + 42), .int 0, .int 64])), .inl (64, fun _ => 0), .inr (.inr (0, [.ref (n + 44), .ref (n + 67), .ref (n + 90), .int 0, .ref (n + 113), .ref (n + 114), .ref (n + 115)])), .inr (.inr (2, [.ref (n + 45), .ref (n + 52), .ref (n + 59), .int 0, .int 0, .int 0, .int 0, .int 0, .ref (n + 63), .ref (n + 65), .null, .int 3, .int 0, .int ((-1)), .int 0, .int 0, .int 0, .int 0])), .inr (.inr (5, [.int 0, .int 0, .int 0, .int 32, .int 0, .int ((-1)), .int 0, .int 0, .ref (n + 46), .ref (n + 48), .ref (n + 50), .int ((-1)), .int 0, .int ((-1)), .int 0])), .inr (.inr (4, [.ref (n + 47), .int 0, .int 60])), .inl (60, fun _ => 0), .inr (.inr (4, [.ref (n + 49), .int 0, .int 60])), .inl (60, fun _ => 0), .inr (.inr (4, [.ref (n + 51), .int 0, .int 60])), .inl (60, fun _ => 0), .inr (.inr (5, [.int 1, .int 0, .int 0, .int 32, .int 0, .int ((-1)), .int 0, .int 0, .ref (n + 53), .ref (n + 55), .ref (n + 57), .int ((-1)), .int 0, .int ((-1)), .int 0])), .inr (.inr (4, [.ref (n + 54), .int 0, .int 60])), .inl (60, fun _ => 0), .inr (.inr (4, [.ref (n + 56), .int 0, .int 60])), .inl (60, fun _ => 0), .inr (.inr (4, [.ref (n + 58), .int 0, .int 60])), .inl (60, fun _ => 0), .inr (.inr (6, [.int 1, .int 0, .int 0, .ref (n + 60), .ref (n + 61), .ref (n + 62), .int 0, .int ((-1)), .int 0, .int 0])), .inl (24, fun _ => 0), .inl (24, fun _ => 0), .inl (24, fun _ => 0), .inr (.inr (4, [.ref (n + 64), .int 0, .int 64])), .inl (64, fun _ => 0), .inr (.inr (4, [.ref (n + 66), .int 0, .int 64])), .inl (64, fun _ => 0), .inr (.inr (2, [.ref (n + 68), .ref (n + 75), .ref (n + 82), .int 0, .int 0, .int 0, .int 0, .int 0, .ref (n + 86), .ref (n + 88), .null, .int 3, .int 0, .int ((-1)), .int 0, .int 0, .int 0, .int 0])), .inr (.inr (5, [.int 0, .int 0, .int 0, .int 32, .int 0, .int ((-1)), .int 0, .int 0, .ref (n + 69), .ref (n + 71), .ref (n + 73), .int ((-1)), .int 0, .int ((-1)), .int 0])), .inr (.inr (4, [.ref (n + 70), .int 0, .int 60])), .inl (60, fun _ => 0), .inr (.inr (4, [.ref (n + 72), .int 0, .int 60])), .inl (60, fun _ => 0), .inr (.inr (4, [.ref (n + 74), .int 0, .int 60])), .inl (60, fun _ => 0), .inr (.inr (5, [.int 1, .int 0, .int 0, .int 32, .int 0, .int ((-1)), .int 0, .int 0, .ref (n + 76), .ref (n + 78), .ref (n + 80), .int ((-1)), .int 0, .int ((-1)), .int 0])), .inr (.inr (4, [.ref (n + 77), .int 0, .int 60])), .inl (60, fun _ => 0), .inr (.inr (4, [.ref (n + 79), .int 0, .int 60])), .inl (60, fun _ => 0), .inr (.inr (4, [.ref (n + 81), .int 0, .int 60])), .inl (60, fun _ => 0), .inr (.inr (6, [.int 1, .int 0, .int 0, .ref (n + 83), .ref (n + 84), .ref (n + 85), .int 0, .int ((-1)), .int 0, .int 0])), .inl (24, fun _ => 0), .inl (24, fun _ => 0), .inl (24, fun _ => 0), .inr (.inr (4, [.ref (n + 87), .int 0, .int 64])), .inl (64, fun _ => 0), .inr (.inr (4, [.ref (n + 89), .int 0, .int 64])), .inl (64, fun _ => 0), .inr (.inr (2, [.ref (n + 91), .ref (n + 98), .ref (n + 105), .int 0, .int 0, .int 0, .int 0, .int 0, .ref (n + 109), .ref (n + 111), .null, .int 3, .int 0, .int ((-1)), .int 0, .int 0, .int 0, .int 0])), .inr (.inr (5, [.int 0, .int 0, .int 0, .int 32, .int 0, .int ((-1)), .int 0, .int 0, .ref (n + 92), .ref (n + 94), .ref (n + 96), .int ((-1)), .int 0, .int ((-1)), .int 0])), .inr (.inr (4, [.ref (n + 93), .int 0, .int 60])), .inl (60, fun _ => 0), .inr (.inr (4, [.ref (n + 95), .int 0, .int 60])), .inl (60, fun _ => 0), .inr (.inr (4, [.ref (n + 97), .int 0, .int 60])), .inl (60, fun _ => 0), .inr (.inr (5, [.int 1, .int 0, .int 0, .int 32, .int 0, .int ((-1)), .int 0, .int 0, .ref (n + 99), .ref (n + 101), .ref (n + 103), .int ((-1)), .int 0, .int ((-1)), .int 0])), .inr (.inr (4, [.ref (n + 100), .int 0, .int 60])), .inl (60, fun _ => 0), .inr (.inr (4, [.ref (n + 102), .int 0, .int 60])), .inl (60, fun _ => 0), .inr (.inr (4, [.ref (n + 104), .int 0, .int 60])), .inl (60, fun _ => 0), .inr (.inr (6, [.int 1, .int 0, .int 0, .ref (n + 106), .ref (n + 107), .ref (n + 108), .int 0, .int ((-1)), .int 0, .int 0])), .inl (24, fun _ => 0), .inl (24, fun _ => 0), .inl (24, fun _ => 0), .inr (.inr (4, [.ref (n + 110), .int 0, .int 64])), .inl (64, fun _ => 0), .inr (.inr (4, [.ref (n + 112), .int 0, .int 64])), .inl (64, fun _ => 0), .inl (4, fun _ => 0), .inl (4, fun _ => 0), .inl (4, fun _ => 0), .inr (.inr (3, [.int 0, .int 0, .int 0, .int 0, .int 0, .int 0, .int 0, .ref (n + 117), .int 0, .int 0, .int 0])), .inr (.inr (4, [.ref (n + 118), .int 0, .int 15])), .inl (15, fun _ => 0), .inr (.inr (3, [.int 0, .int 0, .int 0, .int 0, .int 0, .int 0, .int 0, .ref (n + 120), .int 0, .int 0, .int 0])), .inr (.inr (4, [.ref (n + 121), .int 0, .int 15])), .inl (15, fun _ => 0)]) := by
  refine gM_of (ls0 := [some (.ref (n + 0))]) (by decide +kernel) (Nat.le_of_ble_eq_true rfl) rfl fun X C E => ?_
  refine g_aload_n (q := 1) C dX7_init_0 rfl rfl ?_
  refine g_objInit (q := 4) C t_122 t_123 t_124 dX7_init_1 rfl rfl (Nat.le_of_ble_eq_true rfl) (Nat.le_of_ble_eq_true rfl) ?_
  refine g_aload_n (q := 5) C dX7_init_4 rfl rfl ?_
  refine g_new (q := 8) (k := n + 1) C nX7_7 dX7_init_5 rfl (by rw [List.length_append, hn]; rfl) (Nat.le_of_ble_eq_true rfl) (Nat.le_of_ble_eq_true rfl) ?_
  refine g_heap (hp2 := hp ++ [.inr (.inr (7, [.null, .null, .null, .null, .null, .null, .int 0])), .inr (.inr (4, [.null, .int 0, .int 0]))]) (by simp only [List.append_assoc, List.cons_append, List.nil_append]) ?_
  refine g_dup (q := 9) C dX7_init_8 rfl rfl ?_
  refine g_bipush (v := 96) (q := 11) C dX7_init_9 (by decide) rfl ?_
  refine g_bipush (v := 96) (q := 13) C dX7_init_11 (by decide) rfl ?_
  refine g_heap (hp2 := (hp ++ [.inr (.inr (7, [.null, .null, .null, .null, .null, .null, .int 0]))]) ++ [.inr (.inr (4, [.null, .int 0, .int 0]))]) (by simp only [List.append_assoc, List.cons_append, List.nil_append]) ?_
  refine g_callIv (q := 16) (As := [.int 96, .int 96]) C gyX4_init giX4_init rfl t_127 (c_X4_init (n := n + 1) (N := 96) (first := 96) (by rw [List.length_append, hn]; rfl) (by decide) (by decide)) dX7_init_13 rfl rfl rfl (Nat.le_of_ble_eq_true rfl) (Nat.le_of_ble_eq_true rfl) (Nat.le_of_ble_eq_true rfl) (Nat.le_of_ble_eq_true rfl) (Nat.le_of_ble_eq_true rfl) rfl ?_
  refine g_heap (hp2 := hp ++ [.inr (.inr (7, [.null, .null, .null, .null, .null, .null, .int 0])), .inr (.inr (4, [.ref (n + 2), .int 0, .int 96])), .inl (96, fun _ => 0)]) (by simp only [List.append_assoc, List.cons_append, List.nil_append, Nat.add_assoc, Nat.reduceAdd, Nat.add_zero]) ?_
  refine g_putE (q := 19) (hp' := hp ++ [.inr (.inr (7, [.ref (n + 1), .null, .null, .null, .null, .null, .int 0])), .inr (.inr (4, [.ref (n + 2), .int 0, .int 96])), .inl (96, fun _ => 0)]) C fX7_14 dX7_init_16 rfl (gapp_new hn rfl) (Nat.le_of_ble_eq_true rfl) (Or.inr rfl) rfl rfl (by intro z h; cases h) rfl (gapp_set hn) ?_
  refine g_aload_n (q := 20) C dX7_init_19 rfl rfl ?_
  refine g_new (q := 23) (k := n + 3) C nX7_18 dX7_init_20 rfl (by rw [List.length_append, hn]; rfl) (Nat.le_of_ble_eq_true rfl) (Nat.le_of_ble_eq_true rfl) ?_
  refine g_heap (hp2 := hp ++ [.inr (.inr (7, [.ref (n + 1), .null, .null, .null, .null, .null, .int 0])), .inr (.inr (4, [.ref (n + 2), .int 0, .int 96])), .inl (96, fun _ => 0), .inr (.inr (1, [.null, .null, .null, .null, .null, .null, .null, .null, .int 0]))]) (by simp only [List.append_assoc, List.cons_append, List.nil_append]) ?_
  refine g_dup (q := 24) C dX7_init_23 rfl rfl ?_
  refine g_heap (hp2 := (hp ++ [.inr (.inr (7, [.ref (n + 1), .null, .null, .null, .null, .null, .int 0])), .inr (.inr (4, [.ref (n + 2), .int 0, .int 96])), .inl (96, fun _ => 0)]) ++ [.inr (.inr (1, [.null, .null, .null, .null, .null, .null, .null, .null, .int 0]))]) (by simp only [List.append_assoc, List.cons_append, List.nil_append]) ?_
  refine g_callINv (q := 27) (As := []) C gyX1_init giX1_init rfl (host := RX7) (by decide +kernel) (c_X1_init (n := n + 3) (by rw [List.length_append, hn]; rfl)) dX7_init_24 rfl rfl rfl (Nat.le_of_ble_eq_true rfl) (Nat.le_of_ble_eq_true rfl) (Nat.le_of_ble_eq_true rfl) (Nat.le_of_ble_eq_true rfl) (Nat.le_of_ble_eq_true rfl) rfl ?_
  refine g_heap (hp2 := hp ++ [.inr (.inr (7, [.ref (n + 1), .null, .null, .null, .null, .null, .int 0])), .inr (.inr (4, [.ref (n + 2), .int 0, .int 96])), .inl (96, fun _ => 0), .inr (.inr (1, [.ref (n + 4), .ref (n + 6), .ref (n + 8), .ref (n + 10), .ref (n + 12), .ref (n + 14), .ref (n + 16), .ref (n + 18), .int ((-1))])), .inr (.inr (4, [.ref (n + 5), .int 0, .int 1048576])), .inl (256, fun _ => 0), .inr (.inr (4, [.ref (n + 7), .int 0, .int 65536])), .inl (32, fun _ => 0), .inr (.inr (4, [.ref (n + 9), .int 0, .int 65536])), .inl (32, fun _ => 0), .inr (.inr (4, [.ref (n + 11), .int 0, .int 65536])), .inl (32, fun _ => 0), .inr (.inr (4, [.ref (n + 13), .int 0, .int 256])), .inl (256, fun _ => 0), .inr (.inr (4, [.ref (n + 15), .int 0, .int 30])), .inl (30, fun _ => 0), .inr (.inr (4, [.ref (n + 17), .int 0, .int 30])), .inl (30, fun _ => 0), .inr (.inr (4, [.ref (n + 19), .int 0, .int 30])), .inl (30, fun _ => 0)]) (by simp only [List.append_assoc, List.cons_append, List.nil_append, Nat.add_assoc, Nat.reduceAdd, Nat.add_zero]) ?_
  refine g_putE (q := 30) (hp' := hp ++ [.inr (.inr (7, [.ref (n + 1), .ref (n + 3), .null, .null, .null, .null, .int 0])), .inr (.inr (4, [.ref (n + 2), .int 0, .int 96])), .inl (96, fun _ => 0), .inr (.inr (1, [.ref (n + 4), .ref (n + 6), .ref (n + 8), .ref (n + 10), .ref (n + 12), .ref (n + 14), .ref (n + 16), .ref (n + 18), .int ((-1))])), .inr (.inr (4, [.ref (n + 5), .int 0, .int 1048576])), .inl (256, fun _ => 0), .inr (.inr (4, [.ref (n + 7), .int 0, .int 65536])), .inl (32, fun _ => 0), .inr (.inr (4, [.ref (n + 9), .int 0, .int 65536])), .inl (32, fun _ => 0), .inr (.inr (4, [.ref (n + 11), .int 0, .int 65536])), .inl (32, fun _ => 0), .inr (.inr (4, [.ref (n + 13), .int 0, .int 256])), .inl (256, fun _ => 0), .inr (.inr (4, [.ref (n + 15), .int 0, .int 30])), .inl (30, fun _ => 0), .inr (.inr (4, [.ref (n + 17), .int 0, .int 30])), .inl (30, fun _ => 0), .inr (.inr (4, [.ref (n + 19), .int 0, .int 30])), .inl (30, fun _ => 0)]) C fX7_21 dX7_init_27 rfl (gapp_new hn rfl) (Nat.le_of_ble_eq_true rfl) (Or.inr rfl) rfl rfl (by intro z h; cases h) rfl (gapp_set hn) ?_
  refine g_aload_n (q := 31) C dX7_init_30 rfl rfl ?_
  refine g_new (q := 34) (k := n + 20) C nX7_25 dX7_init_31 rfl (by rw [List.length_append, hn]; rfl) (Nat.le_of_ble_eq_true rfl) (Nat.le_of_ble_eq_true rfl) ?_
  refine g_heap (hp2 := hp ++ [.inr (.inr (7, [.ref (n + 1), .ref (n + 3), .null, .null, .null, .null, .int 0])), .inr (.inr (4, [.ref (n + 2), .int 0, .int 96])), .inl (96, fun _ => 0), .inr (.inr (1, [.ref (n + 4), .ref (n + 6), .ref (n + 8), .ref (n + 10), .ref (n + 12), .ref (n + 14), .ref (n + 16), .ref (n + 18), .int ((-1))])), .inr (.inr (4, [.ref (n + 5), .int 0, .int 1048576])), .inl (256, fun _ => 0), .inr (.inr (4, [.ref (n + 7), .int 0, .int 65536])), .inl (32, fun _ => 0), .inr (.inr (4, [.ref (n + 9), .int 0, .int 65536])), .inl (32, fun _ => 0), .inr (.inr (4, [.ref (n + 11), .int 0, .int 65536])), .inl (32, fun _ => 0), .inr (.inr (4, [.ref (n + 13), .int 0, .int 256])), .inl (256, fun _ => 0), .inr (.inr (4, [.ref (n + 15), .int 0, .int 30])), .inl (30, fun _ => 0), .inr (.inr (4, [.ref (n + 17), .int 0, .int 30])), .inl (30, fun _ => 0), .inr (.inr (4, [.ref (n + 19), .int 0, .int 30])), .inl (30, fun _ => 0), .inr (.inr (2, [.null, .null, .null, .int 0, .int 0, .int 0, .int 0, .int 0, .null, .null, .null, .int 0, .int 0, .int 0, .int 0, .int 0, .int 0, .int 0]))]) (by simp only [List.append_assoc, List.cons_append, List.nil_append]) ?_
  refine g_dup (q := 35) C dX7_init_34 rfl rfl ?_
  refine g_aload_n (q := 36) C dX7_init_35 rfl rfl ?_
  refine g_getfield (q := 39) C fX7_21 dX7_init_36 rfl (gapp_new hn rfl) rfl ?_
  refine g_heap (hp2 := (hp ++ [.inr (.inr (7, [.ref (n + 1), .ref (n + 3), .null, .null, .null, .null, .int 0])), .inr (.inr (4, [.ref (n + 2), .int 0, .int 96])), .inl (96, fun _ => 0), .inr (.inr (1, [.ref (n + 4), .ref (n + 6), .ref (n + 8), .ref (n + 10), .ref (n + 12), .ref (n + 14), .ref (n + 16), .ref (n + 18), .int ((-1))])), .inr (.inr (4, [.ref (n + 5), .int 0, .int 1048576])), .inl (256, fun _ => 0), .inr (.inr (4, [.ref (n + 7), .int 0, .int 65536])), .inl (32, fun _ => 0), .inr (.inr (4, [.ref (n + 9), .int 0, .int 65536])), .inl (32, fun _ => 0), .inr (.inr (4, [.ref (n + 11), .int 0, .int 65536])), .inl (32, fun _ => 0), .inr (.inr (4, [.ref (n + 13), .int 0, .int 256])), .inl (256, fun _ => 0), .inr (.inr (4, [.ref (n + 15), .int 0, .int 30])), .inl (30, fun _ => 0), .inr (.inr (4, [.ref (n + 17), .int 0, .int 30])), .inl (30, fun _ => 0), .inr (.inr (4, [.ref (n + 19), .int 0, .int 30])), .inl (30, fun _ => 0)]) ++ [.inr (.inr (2, [.null, .null, .null, .int 0, .int 0, .int 0, .int 0, .int 0, .null, .null, .null, .int 0, .int 0, .int 0, .int 0, .int 0, .int 0, .int 0]))]) (by simp only [List.append_assoc, List.cons_append, List.nil_append]) ?_
  refine g_callIv (q := 42) (As := [.ref (n + 3)]) C gyX2_init giX2_init rfl t_185 (c_X2_init_j (n := n + 20) (by rw [List.length_append, hn]; rfl)) dX7_init_39 rfl rfl rfl (Nat.le_of_ble_eq_true rfl) (Nat.le_of_ble_eq_true rfl) (Nat.le_of_ble_eq_true rfl) (Nat.le_of_ble_eq_true rfl) (Nat.le_of_ble_eq_true rfl) rfl ?_
  refine g_heap (hp2 := hp ++ [.inr (.inr (7, [.ref (n + 1), .ref (n + 3), .null, .null, .null, .null, .int 0])), .inr (.inr (4, [.ref (n + 2), .int 0, .int 96])), .inl (96, fun _ => 0), .inr (.inr (1, [.ref (n + 4), .ref (n + 6), .ref (n + 8), .ref (n + 10), .ref (n + 12), .ref (n + 14), .ref (n + 16), .ref (n + 18), .int ((-1))])), .inr (.inr (4, [.ref (n + 5), .int 0, .int 1048576])), .inl (256, fun _ => 0), .inr (.inr (4, [.ref (n + 7), .int 0, .int 65536])), .inl (32, fun _ => 0), .inr (.inr (4, [.ref (n + 9), .int 0, .int 65536])), .inl (32, fun _ => 0), .inr (.inr (4, [.ref (n + 11), .int 0, .int 65536])), .inl (32, fun _ => 0), .inr (.inr (4, [.ref (n + 13), .int 0, .int 256])), .inl (256, fun _ => 0), .inr (.inr (4, [.ref (n + 15), .int 0, .int 30])), .inl (30, fun _ => 0), .inr (.inr (4, [.ref (n + 17), .int 0, .int 30])), .inl (30, fun _ => 0), .inr (.inr (4, [.ref (n + 19), .int 0, .int 30])), .inl (30, fun _ => 0), .inr (.inr (2, [.ref (n + 21), .ref (n + 28), .ref (n + 35), .int 0, .int 0, .int 0, .int 0, .int 0, .ref (n + 39), .ref (n + 41), .ref (n + 3), .int 3, .int 0, .int ((-1)), .int 0, .int 0, .int 0, .int 0])), .inr (.inr (5, [.int 0, .int 0, .int 0, .int 32, .int 0, .int ((-1)), .int 0, .int 0, .ref (n + 22), .ref (n + 24), .ref (n + 26), .int ((-1)), .int 0, .int ((-1)), .int 0])), .inr (.inr (4, [.ref (n + 23), .int 0, .int 60])), .inl (60, fun _ => 0), .inr (.inr (4, [.ref (n + 25), .int 0, .int 60])), .inl (60, fun _ => 0), .inr (.inr (4, [.ref (n + 27), .int 0, .int 60])), .inl (60, fun _ => 0), .inr (.inr (5, [.int 1, .int 0, .int 0, .int 32, .int 0, .int ((-1)), .int 0, .int 0, .ref (n + 29), .ref (n + 31), .ref (n + 33), .int ((-1)), .int 0, .int ((-1)), .int 0])), .inr (.inr (4, [.ref (n + 30), .int 0, .int 60])), .inl (60, fun _ => 0), .inr (.inr (4, [.ref (n + 32), .int 0, .int 60])), .inl (60, fun _ => 0), .inr (.inr (4, [.ref (n + 34), .int 0, .int 60])), .inl (60, fun _ => 0), .inr (.inr (6, [.int 1, .int 0, .int 0, .ref (n + 36), .ref (n + 37), .ref (n + 38), .int 0, .int ((-1)), .int 0, .int 0])), .inl (24, fun _ => 0), .inl (24, fun _ => 0), .inl (24, fun _ => 0), .inr (.inr (4, [.ref (n + 40), .int 0, .int 64])), .inl (64, fun _ => 0), .inr (.inr (4, [.ref (n + 42), .int 0, .int 64])), .inl (64, fun _ => 0)]) (by simp only [List.append_assoc, List.cons_append, List.nil_append, Nat.add_assoc, Nat.reduceAdd, Nat.add_zero]) ?_
  refine g_putE (q := 45) (hp' := hp ++ [.inr (.inr (7, [.ref (n + 1), .ref (n + 3), .ref (n + 20), .null, .null, .null, .int 0])), .inr (.inr (4, [.ref (n + 2), .int 0, .int 96])), .inl (96, fun _ => 0), .inr (.inr (1, [.ref (n + 4), .ref (n + 6), .ref (n + 8), .ref (n + 10), .ref (n + 12), .ref (n + 14), .ref (n + 16), .ref (n + 18), .int ((-1))])), .inr (.inr (4, [.ref (n + 5), .int 0, .int 1048576])), .inl (256, fun _ => 0), .inr (.inr (4, [.ref (n + 7), .int 0, .int 65536])), .inl (32, fun _ => 0), .inr (.inr (4, [.ref (n + 9), .int 0, .int 65536])), .inl (32, fun _ => 0), .inr (.inr (4, [.ref (n + 11), .int 0, .int 65536])), .inl (32, fun _ => 0), .inr (.inr (4, [.ref (n + 13), .int 0, .int 256])), .inl (256, fun _ => 0), .inr (.inr (4, [.ref (n + 15), .int 0, .int 30])), .inl (30, fun _ => 0), .inr (.inr (4, [.ref (n + 17), .int 0, .int 30])), .inl (30, fun _ => 0), .inr (.inr (4, [.ref (n + 19), .int 0, .int 30])), .inl (30, fun _ => 0), .inr (.inr (2, [.ref (n + 21), .ref (n + 28), .ref (n + 35), .int 0, .int 0, .int 0, .int 0, .int 0, .ref (n + 39), .ref (n + 41), .ref (n + 3), .int 3, .int 0, .int ((-1)), .int 0, .int 0, .int 0, .int 0])), .inr (.inr (5, [.int 0, .int 0, .int 0, .int 32, .int 0, .int ((-1)), .int 0, .int 0, .ref (n + 22), .ref (n + 24), .ref (n + 26), .int ((-1)), .int 0, .int ((-1)), .int 0])), .inr (.inr (4, [.ref (n + 23), .int 0, .int 60])), .inl (60, fun _ => 0), .inr (.inr (4, [.ref (n + 25), .int 0, .int 60])), .inl (60, fun _ => 0), .inr (.inr (4, [.ref (n + 27), .int 0, .int 60])), .inl (60, fun _ => 0), .inr (.inr (5, [.int 1, .int 0, .int 0, .int 32, .int 0, .int ((-1)), .int 0, .int 0, .ref (n + 29), .ref (n + 31), .ref (n + 33), .int ((-1)), .int 0, .int ((-1)), .int 0])), .inr (.inr (4, [.ref (n + 30), .int 0, .int 60])), .inl (60, fun _ => 0), .inr (.inr (4, [.ref (n + 32), .int 0, .int 60])), .inl (60, fun _ => 0), .inr (.inr (4, [.ref (n + 34), .int 0, .int 60])), .inl (60, fun _ => 0), .inr (.inr (6, [.int 1, .int 0, .int 0, .ref (n + 36), .ref (n + 37), .ref (n + 38), .int 0, .int ((-1)), .int 0, .int 0])), .inl (24, fun _ => 0), .inl (24, fun _ => 0), .inl (24, fun _ => 0), .inr (.inr (4, [.ref (n + 40), .int 0, .int 64])), .inl (64, fun _ => 0), .inr (.inr (4, [.ref (n + 42), .int 0, .int 64])), .inl (64, fun _ => 0)]) C fX7_30 dX7_init_42 rfl (gapp_new hn rfl) (Nat.le_of_ble_eq_true rfl) (Or.inr rfl) rfl rfl (by intro z h; cases h) rfl (gapp_set hn) ?_
  refine g_aload_n (q := 46) C dX7_init_45 rfl rfl ?_
  refine g_new (q := 49) (k := n + 43) C nX7_34 dX7_init_46 rfl (by rw [List.length_append, hn]; rfl) (Nat.le_of_ble_eq_true rfl) (Nat.le_of_ble_eq_true rfl) ?_
  refine g_heap (hp2 := hp ++ [.inr (.inr (7, [.ref (n + 1), .ref (n + 3), .ref (n + 20), .null, .null, .null, .int 0])), .inr (.inr (4, [.ref (n + 2), .int 0, .int 96])), .inl (96, fun _ => 0), .inr (.inr (1, [.ref (n + 4), .ref (n + 6), .ref (n + 8), .ref (n + 10), .ref (n + 12), .ref (n + 14), .ref (n + 16), .ref (n + 18), .int ((-1))])), .inr (.inr (4, [.ref (n + 5), .int 0, .int 1048576])), .inl (256, fun _ => 0), .inr (.inr (4, [.ref (n + 7), .int 0, .int 65536])), .inl (32, fun _ => 0), .inr (.inr (4, [.ref (n + 9), .int 0, .int 65536])), .inl (32, fun _ => 0), .inr (.inr (4, [.ref (n + 11), .int 0, .int 65536])), .inl (32, fun _ => 0), .inr (.inr (4, [.ref (n + 13), .int 0, .int 256])), .inl (256, fun _ => 0), .inr (.inr (4, [.ref (n + 15), .int 0, .int 30])), .inl (30, fun _ => 0), .inr (.inr (4, [.ref (n + 17), .int 0, .int 30])), .inl (30, fun _ => 0), .inr (.inr (4, [.ref (n + 19), .int 0, .int 30])), .inl (30, fun _ => 0), .inr (.inr (2, [.ref (n + 21), .ref (n + 28), .ref (n + 35), .int 0, .int 0, .int 0, .int 0, .int 0, .ref (n + 39), .ref (n + 41), .ref (n + 3), .int 3, .int 0, .int ((-1)), .int 0, .int 0, .int 0, .int 0])), .inr (.inr (5, [.int 0, .int 0, .int 0, .int 32, .int 0, .int ((-1)), .int 0, .int 0, .ref (n + 22), .ref (n + 24), .ref (n + 26), .int ((-1)), .int 0, .int ((-1)), .int 0])), .inr (.inr (4, [.ref (n + 23), .int 0, .int 60])), .inl (60, fun _ => 0), .inr (.inr (4, [.ref (n + 25), .int 0, .int 60])), .inl (60, fun _ => 0), .inr (.inr (4, [.ref (n + 27), .int 0, .int 60])), .inl (60, fun _ => 0), .inr (.inr (5, [.int 1, .int 0, .int 0, .int 32, .int 0, .int ((-1)), .int 0, .int 0, .ref (n + 29), .ref (n + 31), .ref (n + 33), .int ((-1)), .int 0, .int ((-1)), .int 0])), .inr (.inr (4, [.ref (n + 30), .int 0, .int 60])), .inl (60, fun _ => 0), .inr (.inr (4, [.ref (n + 32), .int 0, .int 60])), .inl (60, fun _ => 0), .inr (.inr (4, [.ref (n + 34), .int 0, .int 60])), .inl (60, fun _ => 0), .inr (.inr (6, [.int 1, .int 0, .int 0, .ref (n + 36), .ref (n + 37), .ref (n + 38), .int 0, .int ((-1)), .int 0, .int 0])), .inl (24, fun _ => 0), .inl (24, fun _ => 0), .inl (24, fun _ => 0), .inr (.inr (4, [.ref (n + 40), .int 0, .int 64])), .inl (64, fun _ => 0), .inr (.inr (4, [.ref (n + 42), .int 0, .int 64])), .inl (64, fun _ => 0), .inr (.inr (0, [.null, .null, .null, .int 0, .null, .null, .null]))]) (by simp only [List.append_assoc, List.cons_append, List.nil_append]) ?_
  refine g_dup (q := 50) C dX7_init_49 rfl rfl ?_
  refine g_heap (hp2 := (hp ++ [.inr (.inr (7, [.ref (n + 1), .ref (n + 3), .ref (n + 20), .null, .null, .null, .int 0])), .inr (.inr (4, [.ref (n + 2), .int 0, .int 96])), .inl (96, fun _ => 0), .inr (.inr (1, [.ref (n + 4), .ref (n + 6), .ref (n + 8), .ref (n + 10), .ref (n + 12), .ref (n + 14), .ref (n + 16), .ref (n + 18), .int ((-1))])), .inr (.inr (4, [.ref (n + 5), .int 0, .int 1048576])), .inl (256, fun _ => 0), .inr (.inr (4, [.ref (n + 7), .int 0, .int 65536])), .inl (32, fun _ => 0), .inr (.inr (4, [.ref (n + 9), .int 0, .int 65536])), .inl (32, fun _ => 0), .inr (.inr (4, [.ref (n + 11), .int 0, .int 65536])), .inl (32, fun _ => 0), .inr (.inr (4, [.ref (n + 13), .int 0, .int 256])), .inl (256, fun _ => 0), .inr (.inr (4, [.ref (n + 15), .int 0, .int 30])), .inl (30, fun _ => 0), .inr (.inr (4, [.ref (n + 17), .int 0, .int 30])), .inl (30, fun _ => 0), .inr (.inr (4, [.ref (n + 19), .int 0, .int 30])), .inl (30, fun _ => 0), .inr (.inr (2, [.ref (n + 21), .ref (n + 28), .ref (n + 35), .int 0, .int 0, .int 0, .int 0, .int 0, .ref (n + 39), .ref (n + 41), .ref (n + 3), .int 3, .int 0, .int ((-1)), .int 0, .int 0, .int 0, .int 0])), .inr (.inr (5, [.int 0, .int 0, .int 0, .int 32, .int 0, .int ((-1)), .int 0, .int 0, .ref (n + 22), .ref (n + 24), .ref (n + 26), .int ((-1)), .int 0, .int ((-1)), .int 0])), .inr (.inr (4, [.ref (n + 23), .int 0, .int 60])), .inl (60, fun _ => 0), .inr (.inr (4, [.ref (n + 25), .int 0, .int 60])), .inl (60, fun _ => 0), .inr (.inr (4, [.ref (n + 27), .int 0, .int 60])), .inl (60, fun _ => 0), .inr (.inr (5, [.int 1, .int 0, .int 0, .int 32, .int 0, .int ((-1)), .int 0, .int 0, .ref (n + 29), .ref (n + 31), .ref (n + 33), .int ((-1)), .int 0, .int ((-1)), .int 0])), .inr (.inr (4, [.ref (n + 30), .int 0, .int 60])), .inl (60, fun _ => 0), .inr (.inr (4, [.ref (n + 32), .int 0, .int 60])), .inl (60, fun _ => 0), .inr (.inr (4, [.ref (n + 34), .int 0, .int 60])), .inl (60, fun _ => 0), .inr (.inr (6, [.int 1, .int 0, .int 0, .ref (n + 36), .ref (n + 37), .ref (n + 38), .int 0, .int ((-1)), .int 0, .int 0])), .inl (24, fun _ => 0), .inl (24, fun _ => 0), .inl (24, fun _ => 0), .inr (.inr (4, [.ref (n + 40), .int 0, .int 64])), .inl (64, fun _ => 0), .inr (.inr (4, [.ref (n + 42), .int 0, .int 64])), .inl (64, fun _ => 0)]) ++ [.inr (.inr (0, [.null, .null, .null, .int 0, .null, .null, .null]))]) (by simp only [List.append_assoc, List.cons_append, List.nil_append]) ?_
  refine g_callINv (q := 53) (As := []) C gyX0_init giX0_init rfl (host := RX7) (by decide +kernel) (c_X0_init (n := n + 43) (by rw [List.length_append, hn]; rfl)) dX7_init_50 rfl rfl rfl (Nat.le_of_ble_eq_true rfl) (Nat.le_of_ble_eq_true rfl) (Nat.le_of_ble_eq_true rfl) (Nat.le_of_ble_eq_true rfl) (Nat.le_of_ble_eq_true rfl) rfl ?_
  refine g_heap (hp2 := hp ++ [.inr (.inr (7, [.ref (n + 1), .ref (n + 3), .ref (n + 20), .null, .null, .null, .int 0])), .inr (.inr (4, [.ref (n + 2), .int 0, .int 96])), .inl (96, fun _ => 0), .inr (.inr (1, [.ref (n + 4), .ref (n + 6), .ref (n + 8), .ref (n + 10), .ref (n + 12), .ref (n + 14), .ref (n + 16), .ref (n + 18), .int ((-1))])), .inr (.inr (4, [.ref (n + 5), .int 0, .int 1048576])), .inl (256, fun _ => 0), .inr (.inr (4, [.ref (n + 7), .int 0, .int 65536])), .inl (32, fun _ => 0), .inr (.inr (4, [.ref (n + 9), .int 0, .int 65536])), .inl (32, fun _ => 0), .inr (.inr (4, [.ref (n + 11), .int 0, .int 65536])), .inl (32, fun _ => 0), .inr (.inr (4, [.ref (n + 13), .int 0, .int 256])), .inl (256, fun _ => 0), .inr (.inr (4, [.ref (n + 15), .int 0, .int 30])), .inl (30, fun _ => 0), .inr (.inr (4, [.ref (n + 17), .int 0, .int 30])), .inl (30, fun _ => 0), .inr (.inr (4, [.ref (n + 19), .int 0, .int 30])), .inl (30, fun _ => 0), .inr (.inr (2, [.ref (n + 21), .ref (n + 28), .ref (n + 35), .int 0, .int 0, .int 0, .int 0, .int 0, .ref (n + 39), .ref (n + 41), .ref (n + 3), .int 3, .int 0, .int ((-1)), .int 0, .int 0, .int 0, .int 0])), .inr (.inr (5, [.int 0, .int 0, .int 0, .int 32, .int 0, .int ((-1)), .int 0, .int 0, .ref (n + 22), .ref (n + 24), .ref (n + 26), .int ((-1)), .int 0, .int ((-1)), .int 0])), .inr (.inr (4, [.ref (n + 23), .int 0, .int 60])), .inl (60, fun _ => 0), .inr (.inr (4, [.ref (n + 25), .int 0, .int 60])), .inl (60, fun _ => 0), .inr (.inr (4, [.ref (n + 27), .int 0, .int 60])), .inl (60, fun _ => 0), .inr (.inr (5, [.int 1, .int 0, .int 0, .int 32, .int 0, .int ((-1)), .int 0, .int 0, .ref (n + 29), .ref (n + 31), .ref (n + 33), .int ((-1)), .int 0, .int ((-1)), .int 0])), .inr (.inr (4, [.ref (n + 30), .int 0, .int 60])), .inl (60, fun _ => 0), .inr (.inr (4, [.ref (n + 32), .int 0, .int 60])), .inl (60, fun _ => 0), .inr (.inr (4, [.ref (n + 34), .int 0, .int 60])), .inl (60, fun _ => 0), .inr (.inr (6, [.int 1, .int 0, .int 0, .ref (n + 36), .ref (n + 37), .ref (n + 38), .int 0, .int ((-1)), .int 0, .int 0])), .inl (24, fun _ => 0), .inl (24, fun _ => 0), .inl (24, fun _ => 0), .inr (.inr (4, [.ref (n + 40), .int 0, .int 64])), .inl (64, fun _ => 0), .inr (.inr (4, [.ref (n + 42), .int 0, .int 64])), .inl (64, fun _ => 0), .inr (.inr (0, [.ref (n + 44), .ref (n + 67), .ref (n + 90), .int 0, .ref (n + 113), .ref (n + 114), .ref (n + 115)])), .inr (.inr (2, [.ref (n + 45), .ref (n + 52), .ref (n + 59), .int 0, .int 0, .int 0, .int 0, .int 0, .ref (n + 63), .ref (n + 65), .null, .int 3, .int 0, .int ((-1)), .int 0, .int 0, .int 0, .int 0])), .inr (.inr (5, [.int 0, .int 0, .int 0, .int 32, .int 0, .int ((-1)), .int 0, .int 0, .ref (n + 46), .ref (n + 48), .ref (n + 50), .int ((-1)), .int 0, .int ((-1)), .int 0])), .inr (.inr (4, [.ref (n + 47), .int 0, .int 60])), .inl (60, fun _ => 0), .inr (.inr (4, [.ref (n + 49), .int 0, .int 60])), .inl (60, fun _ => 0), .inr (.inr (4, [.ref (n + 51), .int 0, .int 60])), .inl (60, fun _ => 0), .inr (.inr (5, [.int 1, .int 0, .int 0, .int 32, .int 0, .int ((-1)), .int 0, .int 0, .ref (n + 53), .ref (n + 55), .ref (n + 57), .int ((-1)), .int 0, .int ((-1)), .int 0])), .inr (.inr (4, [.ref (n + 54), .int 0, .int 60])), .inl (60, fun _ => 0), .inr (.inr (4, [.ref (n + 56), .int 0, .int 60])), .inl (60, fun _ => 0), .inr (.inr (4, [.ref (n + 58), .int 0, .int 60])), .inl (60, fun _ => 0), .inr (.inr (6, [.int 1, .int 0, .int 0, .ref (n + 60), .ref (n + 61), .ref (n + 62), .int 0, .int ((-1)), .int 0, .int 0])), .inl (24, fun _ => 0), .inl (24, fun _ => 0), .inl (24, fun _ => 0), .inr (.inr (4, [.ref (n + 64), .int 0, .int 64])), .inl (64, fun _ => 0), .inr (.inr (4, [.ref (n + 66), .int 0, .int 64])), .inl (64, fun _ => 0), .inr (.inr (2, [.ref (n + 68), .ref (n + 75), .ref (n + 82), .int 0, .int 0, .int 0, .int 0, .int 0, .ref (n + 86), .ref (n + 88), .null, .int 3, .int 0, .int ((-1)), .int 0, .int 0, .int 0, .int 0])), .inr (.inr (5, [.int 0, .int 0, .int 0, .int 32, .int 0, .int ((-1)), .int 0, .int 0, .ref (n + 69), .ref (n + 71), .ref (n + 73), .int ((-1)), .int 0, .int ((-1)), .int 0])), .inr (.inr (4, [.ref (n + 70), .int 0, .int 60])), .inl (60, fun _ => 0), .inr (.inr (4, [.ref (n + 72), .int 0, .int 60])), .inl (60, fun _ => 0), .inr (.inr (4, [.ref (n + 74), .int 0, .int 60])), .inl (60, fun _ => 0), .inr (.inr (5, [.int 1, .int 0, .int 0, .int 32, .int 0, .int ((-1)), .int 0, .int 0, .ref (n + 76), .ref (n + 78), .ref (n + 80), .int ((-1)), .int 0, .int ((-1)), .int 0])), .inr (.inr (4, [.ref (n + 77), .int 0, .int 60])), .inl (60, fun _ => 0), .inr (.inr (4, [.ref (n + 79), .int 0, .int 60])), .inl (60, fun _ => 0), .inr (.inr (4, [.ref (n + 81), .int 0, .int 60])), .inl (60, fun _ => 0), .inr (.inr (6, [.int 1, .int 0, .int 0, .ref (n + 83), .ref (n + 84), .ref (n + 85), .int 0, .int ((-1)), .int 0, .int 0])), .inl (24, fun _ => 0), .inl (24, fun _ => 0), .inl (24, fun _ => 0), .inr (.inr (4, [.ref (n + 87), .int 0, .int 64])), .inl (64, fun _ => 0), .inr (.inr (4, [.ref (n + 89), .int 0, .int 64])), .inl (64, fun _ => 0), .inr (.inr (2, [.ref (n + 91), .ref (n + 98), .ref (n + 105), .int 0, .int 0, .int 0, .int 0, .int 0, .ref (n + 109), .ref (n + 111), .null, .int 3, .int 0, .int ((-1)), .int 0, .int 0, .int 0, .int 0])), .inr (.inr (5, [.int 0, .int 0, .int 0, .int 32, .int 0, .int ((-1)), .int 0, .int 0, .ref (n + 92), .ref (n + 94), .ref (n + 96), .int ((-1)), .int 0, .int ((-1)), .int 0])), .inr (.inr (4, [.ref (n + 93), .int 0, .int 60])), .inl (60, fun _ => 0), .inr (.inr (4, [.ref (n + 95), .int 0, .int 60])), .inl (60, fun _ => 0), .inr (.inr (4, [.ref (n + 97), .int 0, .int 60])), .inl (60, fun _ => 0), .inr (.inr (5, [.int 1, .int 0, .int 0, .int 32, .int 0, .int ((-1)), .int 0, .int 0, .ref (n + 99), .ref (n + 101), .ref (n + 103), .int ((-1)), .int 0, .int ((-1)), .int 0])), .inr (.inr (4, [.ref (n + 100), .int 0, .int 60])), .inl (60, fun _ => 0), .inr (.inr (4, [.ref (n + 102), .int 0, .int 60])), .inl (60, fun _ => 0), .inr (.inr (4, [.ref (n + 104), .int 0, .int 60])), .inl (60, fun _ => 0), .inr (.inr (6, [.int 1, .int 0, .int 0, .ref (n + 106), .ref (n + 107), .ref (n + 108), .int 0, .int ((-1)), .int 0, .int 0])), .inl (24, fun _ => 0), .inl (24, fun _ => 0), .inl (24, fun _ => 0), .inr (.inr (4, [.ref (n + 110), .int 0, .int 64])), .inl (64, fun _ => 0), .inr (.inr (4, [.ref (n + 112), .int 0, .int 64])), .inl (64, fun _ => 0), .inl (4, fun _ => 0), .inl (4, fun _ => 0), .inl (4, fun _ => 0)]) (by simp only [List.append_assoc, List.cons_append, List.nil_append, Nat.add_assoc, Nat.reduceAdd, Nat.add_zero]) ?_
  refine g_putE (q := 56) (hp' := hp ++ [.inr (.inr (7, [.ref (n + 1), .ref (n + 3), .ref (n + 20), .ref (n + 43), .null, .null, .int 0])), .inr (.inr (4, [.ref (n + 2), .int 0, .int 96])), .inl (96, fun _ => 0), .inr (.inr (1, [.ref (n + 4), .ref (n + 6), .ref (n + 8), .ref (n + 10), .ref (n + 12), .ref (n + 14), .ref (n + 16), .ref (n + 18), .int ((-1))])), .inr (.inr (4, [.ref (n + 5), .int 0, .int 1048576])), .inl (256, fun _ => 0), .inr (.inr (4, [.ref (n + 7), .int 0, .int 65536])), .inl (32, fun _ => 0), .inr (.inr (4, [.ref (n + 9), .int 0, .int 65536])), .inl (32, fun _ => 0), .inr (.inr (4, [.ref (n + 11), .int 0, .int 65536])), .inl (32, fun _ => 0), .inr (.inr (4, [.ref (n + 13), .int 0, .int 256])), .inl (256, fun _ => 0), .inr (.inr (4, [.ref (n + 15), .int 0, .int 30])), .inl (30, fun _ => 0), .inr (.inr (4, [.ref (n + 17), .int 0, .int 30])), .inl (30, fun _ => 0), .inr (.inr (4, [.ref (n + 19), .int 0, .int 30])), .inl (30, fun _ => 0), .inr (.inr (2, [.ref (n + 21), .ref (n + 28), .ref (n + 35), .int 0, .int 0, .int 0, .int 0, .int 0, .ref (n + 39), .ref (n + 41), .ref (n + 3), .int 3, .int 0, .int ((-1)), .int 0, .int 0, .int 0, .int 0])), .inr (.inr (5, [.int 0, .int 0, .int 0, .int 32, .int 0, .int ((-1)), .int 0, .int 0, .ref (n + 22), .ref (n + 24), .ref (n + 26), .int ((-1)), .int 0, .int ((-1)), .int 0])), .inr (.inr (4, [.ref (n + 23), .int 0, .int 60])), .inl (60, fun _ => 0), .inr (.inr (4, [.ref (n + 25), .int 0, .int 60])), .inl (60, fun _ => 0), .inr (.inr (4, [.ref (n + 27), .int 0, .int 60])), .inl (60, fun _ => 0), .inr (.inr (5, [.int 1, .int 0, .int 0, .int 32, .int 0, .int ((-1)), .int 0, .int 0, .ref (n + 29), .ref (n + 31), .ref (n + 33), .int ((-1)), .int 0, .int ((-1)), .int 0])), .inr (.inr (4, [.ref (n + 30), .int 0, .int 60])), .inl (60, fun _ => 0), .inr (.inr (4, [.ref (n + 32), .int 0, .int 60])), .inl (60, fun _ => 0), .inr (.inr (4, [.ref (n + 34), .int 0, .int 60])), .inl (60, fun _ => 0), .inr (.inr (6, [.int 1, .int 0, .int 0, .ref (n + 36), .ref (n + 37), .ref (n + 38), .int 0, .int ((-1)), .int 0, .int 0])), .inl (24, fun _ => 0), .inl (24, fun _ => 0), .inl (24, fun _ => 0), .inr (.inr (4, [.ref (n + 40), .int 0, .int 64])), .inl (64, fun _ => 0), .inr (.inr (4, [.ref (n + 42), .int 0, .int 64])), .inl (64, fun _ => 0), .inr (.inr (0, [.ref (n + 44), .ref (n + 67), .ref (n + 90), .int 0, .ref (n + 113), .ref (n + 114), .ref (n + 115)])), .inr (.inr (2, [.ref (n + 45), .ref (n + 52), .ref (n + 59), .int 0, .int 0, .int 0, .int 0, .int 0, .ref (n + 63), .ref (n + 65), .null, .int 3, .int 0, .int ((-1)), .int 0, .int 0, .int 0, .int 0])), .inr (.inr (5, [.int 0, .int 0, .int 0, .int 32, .int 0, .int ((-1)), .int 0, .int 0, .ref (n + 46), .ref (n + 48), .ref (n + 50), .int ((-1)), .int 0, .int ((-1)), .int 0])), .inr (.inr (4, [.ref (n + 47), .int 0, .int 60])), .inl (60, fun _ => 0), .inr (.inr (4, [.ref (n + 49), .int 0, .int 60])), .inl (60, fun _ => 0), .inr (.inr (4, [.ref (n + 51), .int 0, .int 60])), .inl (60, fun _ => 0), .inr (.inr (5, [.int 1, .int 0, .int 0, .int 32, .int 0, .int ((-1)), .int 0, .int 0, .ref (n + 53), .ref (n + 55), .ref (n + 57), .int ((-1)), .int 0, .int ((-1)), .int 0])), .inr (.inr (4, [.ref (n + 54), .int 0, .int 60])), .inl (60, fun _ => 0), .inr (.inr (4, [.ref (n + 56), .int 0, .int 60])), .inl (60, fun _ => 0), .inr (.inr (4, [.ref (n + 58), .int 0, .int 60])), .inl (60, fun _ => 0), .inr (.inr (6, [.int 1, .int 0, .int 0, .ref (n + 60), .ref (n + 61), .ref (n + 62), .int 0, .int ((-1)), .int 0, .int 0])), .inl (24, fun _ => 0), .inl (24, fun _ => 0), .inl (24, fun _ => 0), .inr (.inr (4, [.ref (n + 64), .int 0, .int 64])), .inl (64, fun _ => 0), .inr (.inr (4, [.ref (n + 66), .int 0, .int 64])), .inl (64, fun _ => 0), .inr (.inr (2, [.ref (n + 68), .ref (n + 75), .ref (n + 82), .int 0, .int 0, .int 0, .int 0, .int 0, .ref (n + 86), .ref (n + 88), .null, .int 3, .int 0, .int ((-1)), .int 0, .int 0, .int 0, .int 0])), .inr (.inr (5, [.int 0, .int 0, .int 0, .int 32, .int 0, .int ((-1)), .int 0, .int 0, .ref (n + 69), .ref (n + 71), .ref (n + 73), .int ((-1)), .int 0, .int ((-1)), .int 0])), .inr (.inr (4, [.ref (n + 70), .int 0, .int 60])), .inl (60, fun _ => 0), .inr (.inr (4, [.ref (n + 72), .int 0, .int 60])), .inl (60, fun _ => 0), .inr (.inr (4, [.ref (n + 74), .int 0, .int 60])), .inl (60, fun _ => 0), .inr (.inr (5, [.int 1, .int 0, .int 0, .int 32, .int 0, .int ((-1)), .int 0, .int 0, .ref (n + 76), .ref (n + 78), .ref (n + 80), .int ((-1)), .int 0, .int ((-1)), .int 0])), .inr (.inr (4, [.ref (n + 77), .int 0, .int 60])), .inl (60, fun _ => 0), .inr (.inr (4, [.ref (n + 79), .int 0, .int 60])), .inl (60, fun _ => 0), .inr (.inr (4, [.ref (n + 81), .int 0, .int 60])), .inl (60, fun _ => 0), .inr (.inr (6, [.int 1, .int 0, .int 0, .ref (n + 83), .ref (n + 84), .ref (n + 85), .int 0, .int ((-1)), .int 0, .int 0])), .inl (24, fun _ => 0), .inl (24, fun _ => 0), .inl (24, fun _ => 0), .inr (.inr (4, [.ref (n + 87), .int 0, .int 64])), .inl (64, fun _ => 0), .inr (.inr (4, [.ref (n + 89), .int 0, .int 64])), .inl (64, fun _ => 0), .inr (.inr (2, [.ref (n + 91), .ref (n + 98), .ref (n + 105), .int 0, .int 0, .int 0, .int 0, .int 0, .ref (n + 109), .ref (n + 111), .null, .int 3, .int 0, .int ((-1)), .int 0, .int 0, .int 0, .int 0])), .inr (.inr (5, [.int 0, .int 0, .int 0, .int 32, .int 0, .int ((-1)), .int 0, .int 0, .ref (n + 92), .ref (n + 94), .ref (n + 96), .int ((-1)), .int 0, .int ((-1)), .int 0])), .inr (.inr (4, [.ref (n + 93), .int 0, .int 60])), .inl (60, fun _ => 0), .inr (.inr (4, [.ref (n + 95), .int 0, .int 60])), .inl (60, fun _ => 0), .inr (.inr (4, [.ref (n + 97), .int 0, .int 60])), .inl (60, fun _ => 0), .inr (.inr (5, [.int 1, .int 0, .int 0, .int 32, .int 0, .int ((-1)), .int 0, .int 0, .ref (n + 99), .ref (n + 101), .ref (n + 103), .int ((-1)), .int 0, .int ((-1)), .int 0])), .inr (.inr (4, [.ref (n + 100), .int 0, .int 60])), .inl (60, fun _ => 0), .inr (.inr (4, [.ref (n + 102), .int 0, .int 60])), .inl (60, fun _ => 0), .inr (.inr (4, [.ref (n + 104), .int 0, .int 60])), .inl (60, fun _ => 0), .inr (.inr (6, [.int 1, .int 0, .int 0, .ref (n + 106), .ref (n + 107), .ref (n + 108), .int 0, .int ((-1)), .int 0, .int 0])), .inl (24, fun _ => 0), .inl (24, fun _ => 0), .inl (24, fun _ => 0), .inr (.inr (4, [.ref (n + 110), .int 0, .int 64])), .inl (64, fun _ => 0), .inr (.inr (4, [.ref (n + 112), .int 0, .int 64])), .inl (64, fun _ => 0), .inl (4, fun _ => 0), .inl (4, fun _ => 0), .inl (4, fun _ => 0)]) C fX7_37 dX7_init_53 rfl (gapp_new hn rfl) (Nat.le_of_ble_eq_true rfl) (Or.inr rfl) rfl rfl (by intro z h; cases h) rfl (gapp_set hn) ?_
  refine g_aload_n (q := 57) C dX7_init_56 rfl rfl ?_
  refine g_new (q := 60) (k := n + 116) C nX7_41 dX7_init_57 rfl (by rw [List.length_append, hn]; rfl) (Nat.le_of_ble_eq_true rfl) (Nat.le_of_ble_eq_true rfl) ?_
  refine g_heap (hp2 := hp ++ [.inr (.inr (7, [.ref (n + 1), .ref (n + 3), .ref (n + 20), .ref (n + 43), .null, .null, .int 0])), .inr (.inr (4, [.ref (n + 2), .int 0, .int 96])), .inl (96, fun _ => 0), .inr (.inr (1, [.ref (n + 4), .ref (n + 6), .ref (n + 8), .ref (n + 10), .ref (n + 12), .ref (n + 14), .ref (n + 16), .ref (n + 18), .int ((-1))])), .inr (.inr (4, [.ref (n + 5), .int 0, .int 1048576])), .inl (256, fun _ => 0), .inr (.inr (4, [.ref (n + 7), .int 0, .int 65536])), .inl (32, fun _ => 0), .inr (.inr (4, [.ref (n + 9), .int 0, .int 65536])), .inl (32, fun _ => 0), .inr (.inr (4, [.ref (n + 11), .int 0, .int 65536])), .inl (32, fun _ => 0), .inr (.inr (4, [.ref (n + 13), .int 0, .int 256])), .inl (256, fun _ => 0), .inr (.inr (4, [.ref (n + 15), .int 0, .int 30])), .inl (30, fun _ => 0), .inr (.inr (4, [.ref (n + 17), .int 0, .int 30])), .inl (30, fun _ => 0), .inr (.inr (4, [.ref (n + 19), .int 0, .int 30])), .inl (30, fun _ => 0), .inr (.inr (2, [.ref (n + 21), .ref (n + 28), .ref (n + 35), .int 0, .int 0, .int 0, .int 0, .int 0, .ref (n + 39), .ref (n + 41), .ref (n + 3), .int 3, .int 0, .int ((-1)), .int 0, .int 0, .int 0, .int 0])), .inr (.inr (5, [.int 0, .int 0, .int 0, .int 32, .int 0, .int ((-1)), .int 0, .int 0, .ref (n + 22), .ref (n + 24), .ref (n + 26), .int ((-1)), .int 0, .int ((-1)), .int 0])), .inr (.inr (4, [.ref (n + 23), .int 0, .int 60])), .inl (60, fun _ => 0), .inr (.inr (4, [.ref (n + 25), .int 0, .int 60])), .inl (60, fun _ => 0), .inr (.inr (4, [.ref (n + 27), .int 0, .int 60])), .inl (60, fun _ => 0), .inr (.inr (5, [.int 1, .int 0, .int 0, .int 32, .int 0, .int ((-1)), .int 0, .int 0, .ref (n + 29), .ref (n + 31), .ref (n + 33), .int ((-1)), .int 0, .int ((-1)), .int 0])), .inr (.inr (4, [.ref (n + 30), .int 0, .int 60])), .inl (60, fun _ => 0), .inr (.inr (4, [.ref (n + 32), .int 0, .int 60])), .inl (60, fun _ => 0), .inr (.inr (4, [.ref (n + 34), .int 0, .int 60])), .inl (60, fun _ => 0), .inr (.inr (6, [.int 1, .int 0, .int 0, .ref (n + 36), .ref (n + 37), .ref (n + 38), .int 0, .int ((-1)), .int 0, .int 0])), .inl (24, fun _ => 0), .inl (24, fun _ => 0), .inl (24, fun _ => 0), .inr (.inr (4, [.ref (n + 40), .int 0, .int 64])), .inl (64, fun _ => 0), .inr (.inr (4, [.ref (n + 42), .int 0, .int 64])), .inl (64, fun _ => 0), .inr (.inr (0, [.ref (n + 44), .ref (n + 67), .ref (n + 90), .int 0, .ref (n + 113), .ref (n + 114), .ref (n + 115)])), .inr (.inr (2, [.ref (n + 45), .ref (n + 52), .ref (n + 59), .int 0, .int 0, .int 0, .int 0, .int 0, .ref (n + 63), .ref (n + 65), .null, .int 3, .int 0, .int ((-1)), .int 0, .int 0, .int 0, .int 0])), .inr (.inr (5, [.int 0, .int 0, .int 0, .int 32, .int 0, .int ((-1)), .int 0, .int 0, .ref (n + 46), .ref (n + 48), .ref (n + 50), .int ((-1)), .int 0, .int ((-1)), .int 0])), .inr (.inr (4, [.ref (n + 47), .int 0, .int 60])), .inl (60, fun _ => 0), .inr (.inr (4, [.ref (n + 49), .int 0, .int 60])), .inl (60, fun _ => 0), .inr (.inr (4, [.ref (n + 51), .int 0, .int 60])), .inl (60, fun _ => 0), .inr (.inr (5, [.int 1, .int 0, .int 0, .int 32, .int 0, .int ((-1)), .int 0, .int 0, .ref (n + 53), .ref (n + 55), .ref (n + 57), .int ((-1)), .int 0, .int ((-1)), .int 0])), .inr (.inr (4, [.ref (n + 54), .int 0, .int 60])), .inl (60, fun _ => 0), .inr (.inr (4, [.ref (n + 56), .int 0, .int 60])), .inl (60, fun _ => 0), .inr (.inr (4, [.ref (n + 58), .int 0, .int 60])), .inl (60, fun _ => 0), .inr (.inr (6, [.int 1, .int 0, .int 0, .ref (n + 60), .ref (n + 61), .ref (n + 62), .int 0, .int ((-1)), .int 0, .int 0])), .inl (24, fun _ => 0), .inl (24, fun _ => 0), .inl (24, fun _ => 0), .inr (.inr (4, [.ref (n + 64), .int 0, .int 64])), .inl (64, fun _ => 0), .inr (.inr (4, [.ref (n + 66), .int 0, .int 64])), .inl (64, fun _ => 0), .inr (.inr (2, [.ref (n + 68), .ref (n + 75), .ref (n + 82), .int 0, .int 0, .int 0, .int 0, .int 0, .ref (n + 86), .ref (n + 88), .null, .int 3, .int 0, .int ((-1)), .int 0, .int 0, .int 0, .int 0])), .inr (.inr (5, [.int 0, .int 0, .int 0, .int 32, .int 0, .int ((-1)), .int 0, .int 0, .ref (n + 69), .ref (n + 71), .ref (n + 73), .int ((-1)), .int 0, .int ((-1)), .int 0])), .inr (.inr (4, [.ref (n + 70), .int 0, .int 60])), .inl (60, fun _ => 0), .inr (.inr (4, [.ref (n + 72), .int 0, .int 60])), .inl (60, fun _ => 0), .inr (.inr (4, [.ref (n + 74), .int 0, .int 60])), .inl (60, fun _ => 0), .inr (.inr (5, [.int 1, .int 0, .int 0, .int 32, .int 0, .int ((-1)), .int 0, .int 0, .ref (n + 76), .ref (n + 78), .ref (n + 80), .int ((-1)), .int 0, .int ((-1)), .int 0])), .inr (.inr (4, [.ref (n + 77), .int 0, .int 60])), .inl (60, fun _ => 0), .inr (.inr (4, [.ref (n + 79), .int 0, .int 60])), .inl (60, fun _ => 0), .inr (.inr (4, [.ref (n + 81), .int 0, .int 60])), .inl (60, fun _ => 0), .inr (.inr (6, [.int 1, .int 0, .int 0, .ref (n + 83), .ref (n + 84), .ref (n + 85), .int 0, .int ((-1)), .int 0, .int 0])), .inl (24, fun _ => 0), .inl (24, fun _ => 0), .inl (24, fun _ => 0), .inr (.inr (4, [.ref (n + 87), .int 0, .int 64])), .inl (64, fun _ => 0), .inr (.inr (4, [.ref (n + 89), .int 0, .int 64])), .inl (64, fun _ => 0), .inr (.inr (2, [.ref (n + 91), .ref (n + 98), .ref (n + 105), .int 0, .int 0, .int 0, .int 0, .int 0, .ref (n + 109), .ref (n + 111), .null, .int 3, .int 0, .int ((-1)), .int 0, .int 0, .int 0, .int 0])), .inr (.inr (5, [.int 0, .int 0, .int 0, .int 32, .int 0, .int ((-1)), .int 0, .int 0, .ref (n + 92), .ref (n + 94), .ref (n + 96), .int ((-1)), .int 0, .int ((-1)), .int 0])), .inr (.inr (4, [.ref (n + 93), .int 0, .int 60])), .inl (60, fun _ => 0), .inr (.inr (4, [.ref (n + 95), .int 0, .int 60])), .inl (60, fun _ => 0), .inr (.inr (4, [.ref (n + 97), .int 0, .int 60])), .inl (60, fun _ => 0), .inr (.inr (5, [.int 1, .int 0, .int 0, .int 32, .int 0, .int ((-1)), .int 0, .int 0, .ref (n + 99), .ref (n + 101), .ref (n + 103), .int ((-1)), .int 0, .int ((-1)), .int 0])), .inr (.inr (4, [.ref (n + 100), .int 0, .int 60])), .inl (60, fun _ => 0), .inr (.inr (4, [.ref (n + 102), .int 0, .int 60])), .inl (60, fun _ => 0), .inr (.inr (4, [.ref (n + 104), .int 0, .int 60])), .inl (60, fun _ => 0), .inr (.inr (6, [.int 1, .int 0, .int 0, .ref (n + 106), .ref (n + 107), .ref (n + 108), .int 0, .int ((-1)), .int 0, .int 0])), .inl (24, fun _ => 0), .inl (24, fun _ => 0), .inl (24, fun _ => 0), .inr (.inr (4, [.ref (n + 110), .int 0, .int 64])), .inl (64, fun _ => 0), .inr (.inr (4, [.ref (n + 112), .int 0, .int 64])), .inl (64, fun _ => 0), .inl (4, fun _ => 0), .inl (4, fun _ => 0), .inl (4, fun _ => 0), .inr (.inr (3, [.int 0, .int 0, .int 0, .int 0, .int 0, .int 0, .int 0, .null, .int 0, .int 0, .int 0]))]) (by simp only [List.append_assoc, List.cons_append, List.nil_append]) ?_
  refine g_dup (q := 61) C dX7_init_60 rfl rfl ?_
  refine g_heap (hp2 := (hp ++ [.inr (.inr (7, [.ref (n + 1), .ref (n + 3), .ref (n + 20), .ref (n + 43), .null, .null, .int 0])), .inr (.inr (4, [.ref (n + 2), .int 0, .int 96])), .inl (96, fun _ => 0), .inr (.inr (1, [.ref (n + 4), .ref (n + 6), .ref (n + 8), .ref (n + 10), .ref (n + 12), .ref (n + 14), .ref (n + 16), .ref (n + 18), .int ((-1))])), .inr (.inr (4, [.ref (n + 5), .int 0, .int 1048576])), .inl (256, fun _ => 0), .inr (.inr (4, [.ref (n + 7), .int 0, .int 65536])), .inl (32, fun _ => 0), .inr (.inr (4, [.ref (n + 9), .int 0, .int 65536])), .inl (32, fun _ => 0), .inr (.inr (4, [.ref (n + 11), .int 0, .int 65536])), .inl (32, fun _ => 0), .inr (.inr (4, [.ref (n + 13), .int 0, .int 256])), .inl (256, fun _ => 0), .inr (.inr (4, [.ref (n + 15), .int 0, .int 30])), .inl (30, fun _ => 0), .inr (.inr (4, [.ref (n + 17), .int 0, .int 30])), .inl (30, fun _ => 0), .inr (.inr (4, [.ref (n + 19), .int 0, .int 30])), .inl (30, fun _ => 0), .inr (.inr (2, [.ref (n + 21), .ref (n + 28), .ref (n + 35), .int 0, .int 0, .int 0, .int 0, .int 0, .ref (n + 39), .ref (n + 41), .ref (n + 3), .int 3, .int 0, .int ((-1)), .int 0, .int 0, .int 0, .int 0])), .inr (.inr (5, [.int 0, .int 0, .int 0, .int 32, .int 0, .int ((-1)), .int 0, .int 0, .ref (n + 22), .ref (n + 24), .ref (n + 26), .int ((-1)), .int 0, .int ((-1)), .int 0])), .inr (.inr (4, [.ref (n + 23), .int 0, .int 60])), .inl (60, fun _ => 0), .inr (.inr (4, [.ref (n + 25), .int 0, .int 60])), .inl (60, fun _ => 0), .inr (.inr (4, [.ref (n + 27), .int 0, .int 60])), .inl (60, fun _ => 0), .inr (.inr (5, [.int 1, .int 0, .int 0, .int 32, .int 0, .int ((-1)), .int 0, .int 0, .ref (n + 29), .ref (n + 31), .ref (n + 33), .int ((-1)), .int 0, .int ((-1)), .int 0])), .inr (.inr (4, [.ref (n + 30), .int 0, .int 60])), .inl (60, fun _ => 0), .inr (.inr (4, [.ref (n + 32), .int 0, .int 60])), .inl (60, fun _ => 0), .inr (.inr (4, [.ref (n + 34), .int 0, .int 60])), .inl (60, fun _ => 0), .inr (.inr (6, [.int 1, .int 0, .int 0, .ref (n + 36), .ref (n + 37), .ref (n + 38), .int 0, .int ((-1)), .int 0, .int 0])), .inl (24, fun _ => 0), .inl (24, fun _ => 0), .inl (24, fun _ => 0), .inr (.inr (4, [.ref (n + 40), .int 0, .int 64])), .inl (64, fun _ => 0), .inr (.inr (4, [.ref (n + 42), .int 0, .int 64])), .inl (64, fun _ => 0), .inr (.inr (0, [.ref (n + 44), .ref (n + 67), .ref (n + 90), .int 0, .ref (n + 113), .ref (n + 114), .ref (n + 115)])), .inr (.inr (2, [.ref (n + 45), .ref (n + 52), .ref (n + 59), .int 0, .int 0, .int 0, .int 0, .int 0, .ref (n + 63), .ref (n + 65), .null, .int 3, .int 0, .int ((-1)), .int 0, .int 0, .int 0, .int 0])), .inr (.inr (5, [.int 0, .int 0, .int 0, .int 32, .int 0, .int ((-1)), .int 0, .int 0, .ref (n + 46), .ref (n + 48), .ref (n + 50), .int ((-1)), .int 0, .int ((-1)), .int 0])), .inr (.inr (4, [.ref (n + 47), .int 0, .int 60])), .inl (60, fun _ => 0), .inr (.inr (4, [.ref (n + 49), .int 0, .int 60])), .inl (60, fun _ => 0), .inr (.inr (4, [.ref (n + 51), .int 0, .int 60])), .inl (60, fun _ => 0), .inr (.inr (5, [.int 1, .int 0, .int 0, .int 32, .int 0, .int ((-1)), .int 0, .int 0, .ref (n + 53), .ref (n + 55), .ref (n + 57), .int ((-1)), .int 0, .int ((-1)), .int 0])), .inr (.inr (4, [.ref (n + 54), .int 0, .int 60])), .inl (60, fun _ => 0), .inr (.inr (4, [.ref (n + 56), .int 0, .int 60])), .inl (60, fun _ => 0), .inr (.inr (4, [.ref (n + 58), .int 0, .int 60])), .inl (60, fun _ => 0), .inr (.inr (6, [.int 1, .int 0, .int 0, .ref (n + 60), .ref (n + 61), .ref (n + 62), .int 0, .int ((-1)), .int 0, .int 0])), .inl (24, fun _ => 0), .inl (24, fun _ => 0), .inl (24, fun _ => 0), .inr (.inr (4, [.ref (n + 64), .int 0, .int 64])), .inl (64, fun _ => 0), .inr (.inr (4, [.ref (n + 66), .int 0, .int 64])), .inl (64, fun _ => 0), .inr (.inr (2, [.ref (n + 68), .ref (n + 75), .ref (n + 82), .int 0, .int 0, .int 0, .int 0, .int 0, .ref (n + 86), .ref (n + 88), .null, .int 3, .int 0, .int ((-1)), .int 0, .int 0, .int 0, .int 0])), .inr (.inr (5, [.int 0, .int 0, .int 0, .int 32, .int 0, .int ((-1)), .int 0, .int 0, .ref (n + 69), .ref (n + 71), .ref (n + 73), .int ((-1)), .int 0, .int ((-1)), .int 0])), .inr (.inr (4, [.ref (n + 70), .int 0, .int 60])), .inl (60, fun _ => 0), .inr (.inr (4, [.ref (n + 72), .int 0, .int 60])), .inl (60, fun _ => 0), .inr (.inr (4, [.ref (n + 74), .int 0, .int 60])), .inl (60, fun _ => 0), .inr (.inr (5, [.int 1, .int 0, .int 0, .int 32, .int 0, .int ((-1)), .int 0, .int 0, .ref (n + 76), .ref (n + 78), .ref (n + 80), .int ((-1)), .int 0, .int ((-1)), .int 0])), .inr (.inr (4, [.ref (n + 77), .int 0, .int 60])), .inl (60, fun _ => 0), .inr (.inr (4, [.ref (n + 79), .int 0, .int 60])), .inl (60, fun _ => 0), .inr (.inr (4, [.ref (n + 81), .int 0, .int 60])), .inl (60, fun _ => 0), .inr (.inr (6, [.int 1, .int 0, .int 0, .ref (n + 83), .ref (n + 84), .ref (n + 85), .int 0, .int ((-1)), .int 0, .int 0])), .inl (24, fun _ => 0), .inl (24, fun _ => 0), .inl (24, fun _ => 0), .inr (.inr (4, [.ref (n + 87), .int 0, .int 64])), .inl (64, fun _ => 0), .inr (.inr (4, [.ref (n + 89), .int 0, .int 64])), .inl (64, fun _ => 0), .inr (.inr (2, [.ref (n + 91), .ref (n + 98), .ref (n + 105), .int 0, .int 0, .int 0, .int 0, .int 0, .ref (n + 109), .ref (n + 111), .null, .int 3, .int 0, .int ((-1)), .int 0, .int 0, .int 0, .int 0])), .inr (.inr (5, [.int 0, .int 0, .int 0, .int 32, .int 0, .int ((-1)), .int 0, .int 0, .ref (n + 92), .ref (n + 94), .ref (n + 96), .int ((-1)), .int 0, .int ((-1)), .int 0])), .inr (.inr (4, [.ref (n + 93), .int 0, .int 60])), .inl (60, fun _ => 0), .inr (.inr (4, [.ref (n + 95), .int 0, .int 60])), .inl (60, fun _ => 0), .inr (.inr (4, [.ref (n + 97), .int 0, .int 60])), .inl (60, fun _ => 0), .inr (.inr (5, [.int 1, .int 0, .int 0, .int 32, .int 0, .int ((-1)), .int 0, .int 0, .ref (n + 99), .ref (n + 101), .ref (n + 103), .int ((-1)), .int 0, .int ((-1)), .int 0])), .inr (.inr (4, [.ref (n + 100), .int 0, .int 60])), .inl (60, fun _ => 0), .inr (.inr (4, [.ref (n + 102), .int 0, .int 60])), .inl (60, fun _ => 0), .inr (.inr (4, [.ref (n + 104), .int 0, .int 60])), .inl (60, fun _ => 0), .inr (.inr (6, [.int 1, .int 0, .int 0, .ref (n + 106), .ref (n + 107), .ref (n + 108), .int 0, .int ((-1)), .int 0, .int 0])), .inl (24, fun _ => 0), .inl (24, fun _ => 0), .inl (24, fun _ => 0), .inr (.inr (4, [.ref (n + 110), .int 0, .int 64])), .inl (64, fun _ => 0), .inr (.inr (4, [.ref (n + 112), .int 0, .int 64])), .inl (64, fun _ => 0), .inl (4, fun _ => 0), .inl (4, fun _ => 0), .inl (4, fun _ => 0)]) ++ [.inr (.inr (3, [.int 0, .int 0, .int 0, .int 0, .int 0, .int 0, .int 0, .null, .int 0, .int 0, .int 0]))]) (by simp only [List.append_assoc, List.cons_append, List.nil_append]) ?_
  refine g_callINv (q := 64) (As := []) C gyX3_init giX3_init rfl (host := RX7) (by decide +kernel) (c_X3_init (n := n + 116) (by rw [List.length_append, hn]; rfl)) dX7_init_61 rfl rfl rfl (Nat.le_of_ble_eq_true rfl) (Nat.le_of_ble_eq_true rfl) (Nat.le_of_ble_eq_true rfl) (Nat.le_of_ble_eq_true rfl) (Nat.le_of_ble_eq_true rfl) rfl ?_
  refine g_heap (hp2 := hp ++ [.inr (.inr (7, [.ref (n + 1), .ref (n + 3), .ref (n + 20), .ref (n + 43), .null, .null, .int 0])), .inr (.inr (4, [.ref (n + 2), .int 0, .int 96])), .inl (96, fun _ => 0), .inr (.inr (1, [.ref (n + 4), .ref (n + 6), .ref (n + 8), .ref (n + 10), .ref (n + 12), .ref (n + 14), .ref (n + 16), .ref (n + 18), .int ((-1))])), .inr (.inr (4, [.ref (n + 5), .int 0, .int 1048576])), .inl (256, fun _ => 0), .inr (.inr (4, [.ref (n + 7), .int 0, .int 65536])), .inl (32, fun _ => 0), .inr (.inr (4, [.ref (n + 9), .int 0, .int 65536])), .inl (32, fun _ => 0), .inr (.inr (4, [.ref (n + 11), .int 0, .int 65536])), .inl (32, fun _ => 0), .inr (.inr (4, [.ref (n + 13), .int 0, .int 256])), .inl (256, fun _ => 0), .inr (.inr (4, [.ref (n + 15), .int 0, .int 30])), .inl (30, fun _ => 0), .inr (.inr (4, [.ref (n + 17), .int 0, .int 30])), .inl (30, fun _ => 0), .inr (.inr (4, [.ref (n + 19), .int 0, .int 30])), .inl (30, fun _ => 0), .inr (.inr (2, [.ref (n + 21), .ref (n + 28), .ref (n + 35), .int 0, .int 0, .int 0, .int 0, .int 0, .ref (n + 39), .ref (n + 41), .ref (n + 3), .int 3, .int 0, .int ((-1)), .int 0, .int 0, .int 0, .int 0])), .inr (.inr (5, [.int 0, .int 0, .int 0, .int 32, .int 0, .int ((-1)), .int 0, .int 0, .ref (n + 22), .ref (n + 24), .ref (n + 26), .int ((-1)), .int 0, .int ((-1)), .int 0])), .inr (.inr (4, [.ref (n + 23), .int 0, .int 60])), .inl (60, fun _ => 0), .inr (.inr (4, [.ref (n + 25), .int 0, .int 60])), .inl (60, fun _ => 0), .inr (.inr (4, [.ref (n + 27), .int 0, .int 60])), .inl (60, fun _ => 0), .inr (.inr (5, [.int 1, .int 0, .int 0, .int 32, .int 0, .int ((-1)), .int 0, .int 0, .ref (n + 29), .ref (n + 31), .ref (n + 33), .int ((-1)), .int 0, .int ((-1)), .int 0])), .inr (.inr (4, [.ref (n + 30), .int 0, .int 60])), .inl (60, fun _ => 0), .inr (.inr (4, [.ref (n + 32), .int 0, .int 60])), .inl (60, fun _ => 0), .inr (.inr (4, [.ref (n + 34), .int 0, .int 60])), .inl (60, fun _ => 0), .inr (.inr (6, [.int 1, .int 0, .int 0, .ref (n + 36), .ref (n + 37), .ref (n + 38), .int 0, .int ((-1)), .int 0, .int 0])), .inl (24, fun _ => 0), .inl (24, fun _ => 0), .inl (24, fun _ => 0), .inr (.inr (4, [.ref (n + 40), .int 0, .int 64])), .inl (64, fun _ => 0), .inr (.inr (4, [.ref (n + 42), .int 0, .int 64])), .inl (64, fun _ => 0), .inr (.inr (0, [.ref (n + 44), .ref (n + 67), .ref (n + 90), .int 0, .ref (n + 113), .ref (n + 114), .ref (n + 115)])), .inr (.inr (2, [.ref (n + 45), .ref (n + 52), .ref (n + 59), .int 0, .int 0, .int 0, .int 0, .int 0, .ref (n + 63), .ref (n + 65), .null, .int 3, .int 0, .int ((-1)), .int 0, .int 0, .int 0, .int 0])), .inr (.inr (5, [.int 0, .int 0, .int 0, .int 32, .int 0, .int ((-1)), .int 0, .int 0, .ref (n + 46), .ref (n + 48), .ref (n + 50), .int ((-1)), .int 0, .int ((-1)), .int 0])), .inr (.inr (4, [.ref (n + 47), .int 0, .int 60])), .inl (60, fun _ => 0), .inr (.inr (4, [.ref (n + 49), .int 0, .int 60])), .inl (60, fun _ => 0), .inr (.inr (4, [.ref (n + 51), .int 0, .int 60])), .inl (60, fun _ => 0), .inr (.inr (5, [.int 1, .int 0, .int 0, .int 32, .int 0, .int ((-1)), .int 0, .int 0, .ref (n + 53), .ref (n + 55), .ref (n + 57), .int ((-1)), .int 0, .int ((-1)), .int 0])), .inr (.inr (4, [.ref (n + 54), .int 0, .int 60])), .inl (60, fun _ => 0), .inr (.inr (4, [.ref (n + 56), .int 0, .int 60])), .inl (60, fun _ => 0), .inr (.inr (4, [.ref (n + 58), .int 0, .int 60])), .inl (60, fun _ => 0), .inr (.inr (6, [.int 1, .int 0, .int 0, .ref (n + 60), .ref (n + 61), .ref (n + 62), .int 0, .int ((-1)), .int 0, .int 0])), .inl (24, fun _ => 0), .inl (24, fun _ => 0), .inl (24, fun _ => 0), .inr (.inr (4, [.ref (n + 64), .int 0, .int 64])), .inl (64, fun _ => 0), .inr (.inr (4, [.ref (n + 66), .int 0, .int 64])), .inl (64, fun _ => 0), .inr (.inr (2, [.ref (n + 68), .ref (n + 75), .ref (n + 82), .int 0, .int 0, .int 0, .int 0, .int 0, .ref (n + 86), .ref (n + 88), .null, .int 3, .int 0, .int ((-1)), .int 0, .int 0, .int 0, .int 0])), .inr (.inr (5, [.int 0, .int 0, .int 0, .int 32, .int 0, .int ((-1)), .int 0, .int 0, .ref (n + 69), .ref (n + 71), .ref (n + 73), .int ((-1)), .int 0, .int ((-1)), .int 0])), .inr (.inr (4, [.ref (n + 70), .int 0, .int 60])), .inl (60, fun _ => 0), .inr (.inr (4, [.ref (n + 72), .int 0, .int 60])), .inl (60, fun _ => 0), .inr (.inr (4, [.ref (n + 74), .int 0, .int 60])), .inl (60, fun _ => 0), .inr (.inr (5, [.int 1, .int 0, .int 0, .int 32, .int 0, .int ((-1)), .int 0, .int 0, .ref (n + 76), .ref (n + 78), .ref (n + 80), .int ((-1)), .int 0, .int ((-1)), .int 0])), .inr (.inr (4, [.ref (n + 77), .int 0, .int 60])), .inl (60, fun _ => 0), .inr (.inr (4, [.ref (n + 79), .int 0, .int 60])), .inl (60, fun _ => 0), .inr (.inr (4, [.ref (n + 81), .int 0, .int 60])), .inl (60, fun _ => 0), .inr (.inr (6, [.int 1, .int 0, .int 0, .ref (n + 83), .ref (n + 84), .ref (n + 85), .int 0, .int ((-1)), .int 0, .int 0])), .inl (24, fun _ => 0), .inl (24, fun _ => 0), .inl (24, fun _ => 0), .inr (.inr (4, [.ref (n + 87), .int 0, .int 64])), .inl (64, fun _ => 0), .inr (.inr (4, [.ref (n + 89), .int 0, .int 64])), .inl (64, fun _ => 0), .inr (.inr (2, [.ref (n + 91), .ref (n + 98), .ref (n + 105), .int 0, .int 0, .int 0, .int 0, .int 0, .ref (n + 109), .ref (n + 111), .null, .int 3, .int 0, .int ((-1)), .int 0, .int 0, .int 0, .int 0])), .inr (.inr (5, [.int 0, .int 0, .int 0, .int 32, .int 0, .int ((-1)), .int 0, .int 0, .ref (n + 92), .ref (n + 94), .ref (n + 96), .int ((-1)), .int 0, .int ((-1)), .int 0])), .inr (.inr (4, [.ref (n + 93), .int 0, .int 60])), .inl (60, fun _ => 0), .inr (.inr (4, [.ref (n + 95), .int 0, .int 60])), .inl (60, fun _ => 0), .inr (.inr (4, [.ref (n + 97), .int 0, .int 60])), .inl (60, fun _ => 0), .inr (.inr (5, [.int 1, .int 0, .int 0, .int 32, .int 0, .int ((-1)), .int 0, .int 0, .ref (n + 99), .ref (n + 101), .ref (n + 103), .int ((-1)), .int 0, .int ((-1)), .int 0])), .inr (.inr (4, [.ref (n + 100), .int 0, .int 60])), .inl (60, fun _ => 0), .inr (.inr (4, [.ref (n + 102), .int 0, .int 60])), .inl (60, fun _ => 0), .inr (.inr (4, [.ref (n + 104), .int 0, .int 60])), .inl (60, fun _ => 0), .inr (.inr (6, [.int 1, .int 0, .int 0, .ref (n + 106), .ref (n + 107), .ref (n + 108), .int 0, .int ((-1)), .int 0, .int 0])), .inl (24, fun _ => 0), .inl (24, fun _ => 0), .inl (24, fun _ => 0), .inr (.inr (4, [.ref (n + 110), .int 0, .int 64])), .inl (64, fun _ => 0), .inr (.inr (4, [.ref (n + 112), .int 0, .int 64])), .inl (64, fun _ => 0), .inl (4, fun _ => 0), .inl (4, fun _ => 0), .inl (4, fun _ => 0), .inr (.inr (3, [.int 0, .int 0, .int 0, .int 0, .int 0, .int 0, .int 0, .ref (n + 117), .int 0, .int 0, .int 0])), .inr (.inr (4, [.ref (n + 118), .int 0, .int 15])), .inl (15, fun _ => 0)]) (by simp only [List.append_assoc, List.cons_append, List.nil_append, Nat.add_assoc, Nat.reduceAdd, Nat.add_zero]) ?_
  refine g_putE (q := 67) (hp' := hp ++ [.inr (.inr (7, [.ref (n + 1), .ref (n + 3), .ref (n + 20), .ref (n + 43), .ref (n + 116), .null, .int 0])), .inr (.inr (4, [.ref (n + 2), .int 0, .int 96])), .inl (96, fun _ => 0), .inr (.inr (1, [.ref (n + 4), .ref (n + 6), .ref (n + 8), .ref (n + 10), .ref (n + 12), .ref (n + 14), .ref (n + 16), .ref (n + 18), .int ((-1))])), .inr (.inr (4, [.ref (n + 5), .int 0, .int 1048576])), .inl (256, fun _ => 0), .inr (.inr (4, [.ref (n + 7), .int 0, .int 65536])), .inl (32, fun _ => 0), .inr (.inr (4, [.ref (n + 9), .int 0, .int 65536])), .inl (32, fun _ => 0), .inr (.inr (4, [.ref (n + 11), .int 0, .int 65536])), .inl (32, fun _ => 0), .inr (.inr (4, [.ref (n + 13), .int 0, .int 256])), .inl (256, fun _ => 0), .inr (.inr (4, [.ref (n + 15), .int 0, .int 30])), .inl (30, fun _ => 0), .inr (.inr (4, [.ref (n + 17), .int 0, .int 30])), .inl (30, fun _ => 0), .inr (.inr (4, [.ref (n + 19), .int 0, .int 30])), .inl (30, fun _ => 0), .inr (.inr (2, [.ref (n + 21), .ref (n + 28), .ref (n + 35), .int 0, .int 0, .int 0, .int 0, .int 0, .ref (n + 39), .ref (n + 41), .ref (n + 3), .int 3, .int 0, .int ((-1)), .int 0, .int 0, .int 0, .int 0])), .inr (.inr (5, [.int 0, .int 0, .int 0, .int 32, .int 0, .int ((-1)), .int 0, .int 0, .ref (n + 22), .ref (n + 24), .ref (n + 26), .int ((-1)), .int 0, .int ((-1)), .int 0])), .inr (.inr (4, [.ref (n + 23), .int 0, .int 60])), .inl (60, fun _ => 0), .inr (.inr (4, [.ref (n + 25), .int 0, .int 60])), .inl (60, fun _ => 0), .inr (.inr (4, [.ref (n + 27), .int 0, .int 60])), .inl (60, fun _ => 0), .inr (.inr (5, [.int 1, .int 0, .int 0, .int 32, .int 0, .int ((-1)), .int 0, .int 0, .ref (n + 29), .ref (n + 31), .ref (n + 33), .int ((-1)), .int 0, .int ((-1)), .int 0])), .inr (.inr (4, [.ref (n + 30), .int 0, .int 60])), .inl (60, fun _ => 0), .inr (.inr (4, [.ref (n + 32), .int 0, .int 60])), .inl (60, fun _ => 0), .inr (.inr (4, [.ref (n + 34), .int 0, .int 60])), .inl (60, fun _ => 0), .inr (.inr (6, [.int 1, .int 0, .int 0, .ref (n + 36), .ref (n + 37), .ref (n + 38), .int 0, .int ((-1)), .int 0, .int 0])), .inl (24, fun _ => 0), .inl (24, fun _ => 0), .inl (24, fun _ => 0), .inr (.inr (4, [.ref (n + 40), .int 0, .int 64])), .inl (64, fun _ => 0), .inr (.inr (4, [.ref (n + 42), .int 0, .int 64])), .inl (64, fun _ => 0), .inr (.inr (0, [.ref (n + 44), .ref (n + 67), .ref (n + 90), .int 0, .ref (n + 113), .ref (n + 114), .ref (n + 115)])), .inr (.inr (2, [.ref (n + 45), .ref (n + 52), .ref (n + 59), .int 0, .int 0, .int 0, .int 0, .int 0, .ref (n + 63), .ref (n + 65), .null, .int 3, .int 0, .int ((-1)), .int 0, .int 0, .int 0, .int 0])), .inr (.inr (5, [.int 0, .int 0, .int 0, .int 32, .int 0, .int ((-1)), .int 0, .int 0, .ref (n + 46), .ref (n + 48), .ref (n + 50), .int ((-1)), .int 0, .int ((-1)), .int 0])), .inr (.inr (4, [.ref (n + 47), .int 0, .int 60])), .inl (60, fun _ => 0), .inr (.inr (4, [.ref (n + 49), .int 0, .int 60])), .inl (60, fun _ => 0), .inr (.inr (4, [.ref (n + 51), .int 0, .int 60])), .inl (60, fun _ => 0), .inr (.inr (5, [.int 1, .int 0, .int 0, .int 32, .int 0, .int ((-1)), .int 0, .int 0, .ref (n + 53), .ref (n + 55), .ref (n + 57), .int ((-1)), .int 0, .int ((-1)), .int 0])), .inr (.inr (4, [.ref (n + 54), .int 0, .int 60])), .inl (60, fun _ => 0), .inr (.inr (4, [.ref (n + 56), .int 0, .int 60])), .inl (60, fun _ => 0), .inr (.inr (4, [.ref (n + 58), .int 0, .int 60])), .inl (60, fun _ => 0), .inr (.inr (6, [.int 1, .int 0, .int 0, .ref (n + 60), .ref (n + 61), .ref (n + 62), .int 0, .int ((-1)), .int 0, .int 0])), .inl (24, fun _ => 0), .inl (24, fun _ => 0), .inl (24, fun _ => 0), .inr (.inr (4, [.ref (n + 64), .int 0, .int 64])), .inl (64, fun _ => 0), .inr (.inr (4, [.ref (n + 66), .int 0, .int 64])), .inl (64, fun _ => 0), .inr (.inr (2, [.ref (n + 68), .ref (n + 75), .ref (n + 82), .int 0, .int 0, .int 0, .int 0, .int 0, .ref (n + 86), .ref (n + 88), .null, .int 3, .int 0, .int ((-1)), .int 0, .int 0, .int 0, .int 0])), .inr (.inr (5, [.int 0, .int 0, .int 0, .int 32, .int 0, .int ((-1)), .int 0, .int 0, .ref (n + 69), .ref (n + 71), .ref (n + 73), .int ((-1)), .int 0, .int ((-1)), .int 0])), .inr (.inr (4, [.ref (n + 70), .int 0, .int 60])), .inl (60, fun _ => 0), .inr (.inr (4, [.ref (n + 72), .int 0, .int 60])), .inl (60, fun _ => 0), .inr (.inr (4, [.ref (n + 74), .int 0, .int 60])), .inl (60, fun _ => 0), .inr (.inr (5, [.int 1, .int 0, .int 0, .int 32, .int 0, .int ((-1)), .int 0, .int 0, .ref (n + 76), .ref (n + 78), .ref (n + 80), .int ((-1)), .int 0, .int ((-1)), .int 0])), .inr (.inr (4, [.ref (n + 77), .int 0, .int 60])), .inl (60, fun _ => 0), .inr (.inr (4, [.ref (n + 79), .int 0, .int 60])), .inl (60, fun _ => 0), .inr (.inr (4, [.ref (n + 81), .int 0, .int 60])), .inl (60, fun _ => 0), .inr (.inr (6, [.int 1, .int 0, .int 0, .ref (n + 83), .ref (n + 84), .ref (n + 85), .int 0, .int ((-1)), .int 0, .int 0])), .inl (24, fun _ => 0), .inl (24, fun _ => 0), .inl (24, fun _ => 0), .inr (.inr (4, [.ref (n + 87), .int 0, .int 64])), .inl (64, fun _ => 0), .inr (.inr (4, [.ref (n + 89), .int 0, .int 64])), .inl (64, fun _ => 0), .inr (.inr (2, [.ref (n + 91), .ref (n + 98), .ref (n + 105), .int 0, .int 0, .int 0, .int 0, .int 0, .ref (n + 109), .ref (n + 111), .null, .int 3, .int 0, .int ((-1)), .int 0, .int 0, .int 0, .int 0])), .inr (.inr (5, [.int 0, .int 0, .int 0, .int 32, .int 0, .int ((-1)), .int 0, .int 0, .ref (n + 92), .ref (n + 94), .ref (n + 96), .int ((-1)), .int 0, .int ((-1)), .int 0])), .inr (.inr (4, [.ref (n + 93), .int 0, .int 60])), .inl (60, fun _ => 0), .inr (.inr (4, [.ref (n + 95), .int 0, .int 60])), .inl (60, fun _ => 0), .inr (.inr (4, [.ref (n + 97), .int 0, .int 60])), .inl (60, fun _ => 0), .inr (.inr (5, [.int 1, .int 0, .int 0, .int 32, .int 0, .int ((-1)), .int 0, .int 0, .ref (n + 99), .ref (n + 101), .ref (n + 103), .int ((-1)), .int 0, .int ((-1)), .int 0])), .inr (.inr (4, [.ref (n + 100), .int 0, .int 60])), .inl (60, fun _ => 0), .inr (.inr (4, [.ref (n + 102), .int 0, .int 60])), .inl (60, fun _ => 0), .inr (.inr (4, [.ref (n + 104), .int 0, .int 60])), .inl (60, fun _ => 0), .inr (.inr (6, [.int 1, .int 0, .int 0, .ref (n + 106), .ref (n + 107), .ref (n + 108), .int 0, .int ((-1)), .int 0, .int 0])), .inl (24, fun _ => 0), .inl (24, fun _ => 0), .inl (24, fun _ => 0), .inr (.inr (4, [.ref (n + 110), .int 0, .int 64])), .inl (64, fun _ => 0), .inr (.inr (4, [.ref (n + 112), .int 0, .int 64])), .inl (64, fun _ => 0), .inl (4, fun _ => 0), .inl (4, fun _ => 0), .inl (4, fun _ => 0), .inr (.inr (3, [.int 0, .int 0, .int 0, .int 0, .int 0, .int 0, .int 0, .ref (n + 117), .int 0, .int 0, .int 0])), .inr (.inr (4, [.ref (n + 118), .int 0, .int 15])), .inl (15, fun _ => 0)]) C fX7_44 dX7_init_64 rfl (gapp_new hn rfl) (Nat.le_of_ble_eq_true rfl) (Or.inl rfl) rfl rfl (by intro z h; cases h) rfl (gapp_set hn) ?_
  refine g_aload_n (q := 68) C dX7_init_67 rfl rfl ?_
  refine g_new (q := 71) (k := n + 119) C nX7_41 dX7_init_68 rfl (by rw [List.length_append, hn]; rfl) (Nat.le_of_ble_eq_true rfl) (Nat.le_of_ble_eq_true rfl) ?_
  refine g_heap (hp2 := hp ++ [.inr (.inr (7, [.ref (n + 1), .ref (n + 3), .ref (n + 20), .ref (n + 43), .ref (n + 116), .null, .int 0])), .inr (.inr (4, [.ref (n + 2), .int 0, .int 96])), .inl (96, fun _ => 0), .inr (.inr (1, [.ref (n + 4), .ref (n + 6), .ref (n + 8), .ref (n + 10), .ref (n + 12), .ref (n + 14), .ref (n + 16), .ref (n + 18), .int ((-1))])), .inr (.inr (4, [.ref (n + 5), .int 0, .int 1048576])), .inl (256, fun _ => 0), .inr (.inr (4, [.ref (n + 7), .int 0, .int 65536])), .inl (32, fun _ => 0), .inr (.inr (4, [.ref (n + 9), .int 0, .int 65536])), .inl (32, fun _ => 0), .inr (.inr (4, [.ref (n + 11), .int 0, .int 65536])), .inl (32, fun _ => 0), .inr (.inr (4, [.ref (n + 13), .int 0, .int 256])), .inl (256, fun _ => 0), .inr (.inr (4, [.ref (n + 15), .int 0, .int 30])), .inl (30, fun _ => 0), .inr (.inr (4, [.ref (n + 17), .int 0, .int 30])), .inl (30, fun _ => 0), .inr (.inr (4, [.ref (n + 19), .int 0, .int 30])), .inl (30, fun _ => 0), .inr (.inr (2, [.ref (n + 21), .ref (n + 28), .ref (n + 35), .int 0, .int 0, .int 0, .int 0, .int 0, .ref (n + 39), .ref (n + 41), .ref (n + 3), .int 3, .int 0, .int ((-1)), .int 0, .int 0, .int 0, .int 0])), .inr (.inr (5, [.int 0, .int 0, .int 0, .int 32, .int 0, .int ((-1)), .int 0, .int 0, .ref (n + 22), .ref (n + 24), .ref (n + 26), .int ((-1)), .int 0, .int ((-1)), .int 0])), .inr (.inr (4, [.ref (n + 23), .int 0, .int 60])), .inl (60, fun _ => 0), .inr (.inr (4, [.ref (n + 25), .int 0, .int 60])), .inl (60, fun _ => 0), .inr (.inr (4, [.ref (n + 27), .int 0, .int 60])), .inl (60, fun _ => 0), .inr (.inr (5, [.int 1, .int 0, .int 0, .int 32, .int 0, .int ((-1)), .int 0, .int 0, .ref (n + 29), .ref (n + 31), .ref (n + 33), .int ((-1)), .int 0, .int ((-1)), .int 0])), .inr (.inr (4, [.ref (n + 30), .int 0, .int 60])), .inl (60, fun _ => 0), .inr (.inr (4, [.ref (n + 32), .int 0, .int 60])), .inl (60, fun _ => 0), .inr (.inr (4, [.ref (n + 34), .int 0, .int 60])), .inl (60, fun _ => 0), .inr (.inr (6, [.int 1, .int 0, .int 0, .ref (n + 36), .ref (n + 37), .ref (n + 38), .int 0, .int ((-1)), .int 0, .int 0])), .inl (24, fun _ => 0), .inl (24, fun _ => 0), .inl (24, fun _ => 0), .inr (.inr (4, [.ref (n + 40), .int 0, .int 64])), .inl (64, fun _ => 0), .inr (.inr (4, [.ref (n + 42), .int 0, .int 64])), .inl (64, fun _ => 0), .inr (.inr (0, [.ref (n + 44), .ref (n + 67), .ref (n + 90), .int 0, .ref (n + 113), .ref (n + 114), .ref (n + 115)])), .inr (.inr (2, [.ref (n + 45), .ref (n + 52), .ref (n + 59), .int 0, .int 0, .int 0, .int 0, .int 0, .ref (n + 63), .ref (n + 65), .null, .int 3, .int 0, .int ((-1)), .int 0, .int 0, .int 0, .int 0])), .inr (.inr (5, [.int 0, .int 0, .int 0, .int 32, .int 0, .int ((-1)), .int 0, .int 0, .ref (n + 46), .ref (n + 48), .ref (n + 50), .int ((-1)), .int 0, .int ((-1)), .int 0])), .inr (.inr (4, [.ref (n + 47), .int 0, .int 60])), .inl (60, fun _ => 0), .inr (.inr (4, [.ref (n + 49), .int 0, .int 60])), .inl (60, fun _ => 0), .inr (.inr (4, [.ref (n + 51), .int 0, .int 60])), .inl (60, fun _ => 0), .inr (.inr (5, [.int 1, .int 0, .int 0, .int 32, .int 0, .int ((-1)), .int 0, .int 0, .ref (n + 53), .ref (n + 55), .ref (n + 57), .int ((-1)), .int 0, .int ((-1)), .int 0])), .inr (.inr (4, [.ref (n + 54), .int 0, .int 60])), .inl (60, fun _ => 0), .inr (.inr (4, [.ref (n + 56), .int 0, .int 60])), .inl (60, fun _ => 0), .inr (.inr (4, [.ref (n + 58), .int 0, .int 60])), .inl (60, fun _ => 0), .inr (.inr (6, [.int 1, .int 0, .int 0, .ref (n + 60), .ref (n + 61), .ref (n + 62), .int 0, .int ((-1)), .int 0, .int 0])), .inl (24, fun _ => 0), .inl (24, fun _ => 0), .inl (24, fun _ => 0), .inr (.inr (4, [.ref (n + 64), .int 0, .int 64])), .inl (64, fun _ => 0), .inr (.inr (4, [.ref (n + 66), .int 0, .int 64])), .inl (64, fun _ => 0), .inr (.inr (2, [.ref (n + 68), .ref (n + 75), .ref (n + 82), .int 0, .int 0, .int 0, .int 0, .int 0, .ref (n + 86), .ref (n + 88), .null, .int 3, .int 0, .int ((-1)), .int 0, .int 0, .int 0, .int 0])), .inr (.inr (5, [.int 0, .int 0, .int 0, .int 32, .int 0, .int ((-1)), .int 0, .int 0, .ref (n + 69), .ref (n + 71), .ref (n + 73), .int ((-1)), .int 0, .int ((-1)), .int 0])), .inr (.inr (4, [.ref (n + 70), .int 0, .int 60])), .inl (60, fun _ => 0), .inr (.inr (4, [.ref (n + 72), .int 0, .int 60])), .inl (60, fun _ => 0), .inr (.inr (4, [.ref (n + 74), .int 0, .int 60])), .inl (60, fun _ => 0), .inr (.inr (5, [.int 1, .int 0, .int 0, .int 32, .int 0, .int ((-1)), .int 0, .int 0, .ref (n + 76), .ref (n + 78), .ref (n + 80), .int ((-1)), .int 0, .int ((-1)), .int 0])), .inr (.inr (4, [.ref (n + 77), .int 0, .int 60])), .inl (60, fun _ => 0), .inr (.inr (4, [.ref (n + 79), .int 0, .int 60])), .inl (60, fun _ => 0), .inr (.inr (4, [.ref (n + 81), .int 0, .int 60])), .inl (60, fun _ => 0), .inr (.inr (6, [.int 1, .int 0, .int 0, .ref (n + 83), .ref (n + 84), .ref (n + 85), .int 0, .int ((-1)), .int 0, .int 0])), .inl (24, fun _ => 0), .inl (24, fun _ => 0), .inl (24, fun _ => 0), .inr (.inr (4, [.ref (n + 87), .int 0, .int 64])), .inl (64, fun _ => 0), .inr (.inr (4, [.ref (n + 89), .int 0, .int 64])), .inl (64, fun _ => 0), .inr (.inr (2, [.ref (n + 91), .ref (n + 98), .ref (n + 105), .int 0, .int 0, .int 0, .int 0, .int 0, .ref (n + 109), .ref (n + 111), .null, .int 3, .int 0, .int ((-1)), .int 0, .int 0, .int 0, .int 0])), .inr (.inr (5, [.int 0, .int 0, .int 0, .int 32, .int 0, .int ((-1)), .int 0, .int 0, .ref (n + 92), .ref (n + 94), .ref (n + 96), .int ((-1)), .int 0, .int ((-1)), .int 0])), .inr (.inr (4, [.ref (n + 93), .int 0, .int 60])), .inl (60, fun _ => 0), .inr (.inr (4, [.ref (n + 95), .int 0, .int 60])), .inl (60, fun _ => 0), .inr (.inr (4, [.ref (n + 97), .int 0, .int 60])), .inl (60, fun _ => 0), .inr (.inr (5, [.int 1, .int 0, .int 0, .int 32, .int 0, .int ((-1)), .int 0, .int 0, .ref (n + 99), .ref (n + 101), .ref (n + 103), .int ((-1)), .int 0, .int ((-1)), .int 0])), .inr (.inr (4, [.ref (n + 100), .int 0, .int 60])), .inl (60, fun _ => 0), .inr (.inr (4, [.ref (n + 102), .int 0, .int 60])), .inl (60, fun _ => 0), .inr (.inr (4, [.ref (n + 104), .int 0, .int 60])), .inl (60, fun _ => 0), .inr (.inr (6, [.int 1, .int 0, .int 0, .ref (n + 106), .ref (n + 107), .ref (n + 108), .int 0, .int ((-1)), .int 0, .int 0])), .inl (24, fun _ => 0), .inl (24, fun _ => 0), .inl (24, fun _ => 0), .inr (.inr (4, [.ref (n + 110), .int 0, .int 64])), .inl (64, fun _ => 0), .inr (.inr (4, [.ref (n + 112), .int 0, .int 64])), .inl (64, fun _ => 0), .inl (4, fun _ => 0), .inl (4, fun _ => 0), .inl (4, fun _ => 0), .inr (.inr (3, [.int 0, .int 0, .int 0, .int 0, .int 0, .int 0, .int 0, .ref (n + 117), .int 0, .int 0, .int 0])), .inr (.inr (4, [.ref (n + 118), .int 0, .int 15])), .inl (15, fun _ => 0), .inr (.inr (3, [.int 0, .int 0, .int 0, .int 0, .int 0, .int 0, .int 0, .null, .int 0, .int 0, .int 0]))]) (by simp only [List.append_assoc, List.cons_append, List.nil_append]) ?_
  refine g_dup (q := 72) C dX7_init_71 rfl rfl ?_
  refine g_heap (hp2 := (hp ++ [.inr (.inr (7, [.ref (n + 1), .ref (n + 3), .ref (n + 20), .ref (n + 43), .ref (n + 116), .null, .int 0])), .inr (.inr (4, [.ref (n + 2), .int 0, .int 96])), .inl (96, fun _ => 0), .inr (.inr (1, [.ref (n + 4), .ref (n + 6), .ref (n + 8), .ref (n + 10), .ref (n + 12), .ref (n + 14), .ref (n + 16), .ref (n + 18), .int ((-1))])), .inr (.inr (4, [.ref (n + 5), .int 0, .int 1048576])), .inl (256, fun _ => 0), .inr (.inr (4, [.ref (n + 7), .int 0, .int 65536])), .inl (32, fun _ => 0), .inr (.inr (4, [.ref (n + 9), .int 0, .int 65536])), .inl (32, fun _ => 0), .inr (.inr (4, [.ref (n + 11), .int 0, .int 65536])), .inl (32, fun _ => 0), .inr (.inr (4, [.ref (n + 13), .int 0, .int 256])), .inl (256, fun _ => 0), .inr (.inr (4, [.ref (n + 15), .int 0, .int 30])), .inl (30, fun _ => 0), .inr (.inr (4, [.ref (n + 17), .int 0, .int 30])), .inl (30, fun _ => 0), .inr (.inr (4, [.ref (n + 19), .int 0, .int 30])), .inl (30, fun _ => 0), .inr (.inr (2, [.ref (n + 21), .ref (n + 28), .ref (n + 35), .int 0, .int 0, .int 0, .int 0, .int 0, .ref (n + 39), .ref (n + 41), .ref (n + 3), .int 3, .int 0, .int ((-1)), .int 0, .int 0, .int 0, .int 0])), .inr (.inr (5, [.int 0, .int 0, .int 0, .int 32, .int 0, .int ((-1)), .int 0, .int 0, .ref (n + 22), .ref (n + 24), .ref (n + 26), .int ((-1)), .int 0, .int ((-1)), .int 0])), .inr (.inr (4, [.ref (n + 23), .int 0, .int 60])), .inl (60, fun _ => 0), .inr (.inr (4, [.ref (n + 25), .int 0, .int 60])), .inl (60, fun _ => 0), .inr (.inr (4, [.ref (n + 27), .int 0, .int 60])), .inl (60, fun _ => 0), .inr (.inr (5, [.int 1, .int 0, .int 0, .int 32, .int 0, .int ((-1)), .int 0, .int 0, .ref (n + 29), .ref (n + 31), .ref (n + 33), .int ((-1)), .int 0, .int ((-1)), .int 0])), .inr (.inr (4, [.ref (n + 30), .int 0, .int 60])), .inl (60, fun _ => 0), .inr (.inr (4, [.ref (n + 32), .int 0, .int 60])), .inl (60, fun _ => 0), .inr (.inr (4, [.ref (n + 34), .int 0, .int 60])), .inl (60, fun _ => 0), .inr (.inr (6, [.int 1, .int 0, .int 0, .ref (n + 36), .ref (n + 37), .ref (n + 38), .int 0, .int ((-1)), .int 0, .int 0])), .inl (24, fun _ => 0), .inl (24, fun _ => 0), .inl (24, fun _ => 0), .inr (.inr (4, [.ref (n + 40), .int 0, .int 64])), .inl (64, fun _ => 0), .inr (.inr (4, [.ref (n + 42), .int 0, .int 64])), .inl (64, fun _ => 0), .inr (.inr (0, [.ref (n + 44), .ref (n + 67), .ref (n + 90), .int 0, .ref (n + 113), .ref (n + 114), .ref (n + 115)])), .inr (.inr (2, [.ref (n + 45), .ref (n + 52), .ref (n + 59), .int 0, .int 0, .int 0, .int 0, .int 0, .ref (n + 63), .ref (n + 65), .null, .int 3, .int 0, .int ((-1)), .int 0, .int 0, .int 0, .int 0])), .inr (.inr (5, [.int 0, .int 0, .int 0, .int 32, .int 0, .int ((-1)), .int 0, .int 0, .ref (n + 46), .ref (n + 48), .ref (n + 50), .int ((-1)), .int 0, .int ((-1)), .int 0])), .inr (.inr (4, [.ref (n + 47), .int 0, .int 60])), .inl (60, fun _ => 0), .inr (.inr (4, [.ref (n + 49), .int 0, .int 60])), .inl (60, fun _ => 0), .inr (.inr (4, [.ref (n + 51), .int 0, .int 60])), .inl (60, fun _ => 0), .inr (.inr (5, [.int 1, .int 0, .int 0, .int 32, .int 0, .int ((-1)), .int 0, .int 0, .ref (n + 53), .ref (n + 55), .ref (n + 57), .int ((-1)), .int 0, .int ((-1)), .int 0])), .inr (.inr (4, [.ref (n + 54), .int 0, .int 60])), .inl (60, fun _ => 0), .inr (.inr (4, [.ref (n + 56), .int 0, .int 60])), .inl (60, fun _ => 0), .inr (.inr (4, [.ref (n + 58), .int 0, .int 60])), .inl (60, fun _ => 0), .inr (.inr (6, [.int 1, .int 0, .int 0, .ref (n + 60), .ref (n + 61), .ref (n + 62), .int 0, .int ((-1)), .int 0, .int 0])), .inl (24, fun _ => 0), .inl (24, fun _ => 0), .inl (24, fun _ => 0), .inr (.inr (4, [.ref (n + 64), .int 0, .int 64])), .inl (64, fun _ => 0), .inr (.inr (4, [.ref (n + 66), .int 0, .int 64])), .inl (64, fun _ => 0), .inr (.inr (2, [.ref (n + 68), .ref (n + 75), .ref (n + 82), .int 0, .int 0, .int 0, .int 0, .int 0, .ref (n + 86), .ref (n + 88), .null, .int 3, .int 0, .int ((-1)), .int 0, .int 0, .int 0, .int 0])), .inr (.inr (5, [.int 0, .int 0, .int 0, .int 32, .int 0, .int ((-1)), .int 0, .int 0, .ref (n + 69), .ref (n + 71), .ref (n + 73), .int ((-1)), .int 0, .int ((-1)), .int 0])), .inr (.inr (4, [.ref (n + 70), .int 0, .int 60])), .inl (60, fun _ => 0), .inr (.inr (4, [.ref (n + 72), .int 0, .int 60])), .inl (60, fun _ => 0), .inr (.inr (4, [.ref (n + 74), .int 0, .int 60])), .inl (60, fun _ => 0), .inr (.inr (5, [.int 1, .int 0, .int 0, .int 32, .int 0, .int ((-1)), .int 0, .int 0, .ref (n + 76), .ref (n + 78), .ref (n + 80), .int ((-1)), .int 0, .int ((-1)), .int 0])), .inr (.inr (4, [.ref (n + 77), .int 0, .int 60])), .inl (60, fun _ => 0), .inr (.inr (4, [.ref (n + 79), .int 0, .int 60])), .inl (60, fun _ => 0), .inr (.inr (4, [.ref (n + 81), .int 0, .int 60])), .inl (60, fun _ => 0), .inr (.inr (6, [.int 1, .int 0, .int 0, .ref (n + 83), .ref (n + 84), .ref (n + 85), .int 0, .int ((-1)), .int 0, .int 0])), .inl (24, fun _ => 0), .inl (24, fun _ => 0), .inl (24, fun _ => 0), .inr (.inr (4, [.ref (n + 87), .int 0, .int 64])), .inl (64, fun _ => 0), .inr (.inr (4, [.ref (n + 89), .int 0, .int 64])), .inl (64, fun _ => 0), .inr (.inr (2, [.ref (n + 91), .ref (n + 98), .ref (n + 105), .int 0, .int 0, .int 0, .int 0, .int 0, .ref (n + 109), .ref (n + 111), .null, .int 3, .int 0, .int ((-1)), .int 0, .int 0, .int 0, .int 0])), .inr (.inr (5, [.int 0, .int 0, .int 0, .int 32, .int 0, .int ((-1)), .int 0, .int 0, .ref (n + 92), .ref (n + 94), .ref (n + 96), .int ((-1)), .int 0, .int ((-1)), .int 0])), .inr (.inr (4, [.ref (n + 93), .int 0, .int 60])), .inl (60, fun _ => 0), .inr (.inr (4, [.ref (n + 95), .int 0, .int 60])), .inl (60, fun _ => 0), .inr (.inr (4, [.ref (n + 97), .int 0, .int 60])), .inl (60, fun _ => 0), .inr (.inr (5, [.int 1, .int 0, .int 0, .int 32, .int 0, .int ((-1)), .int 0, .int 0, .ref (n + 99), .ref (n + 101), .ref (n + 103), .int ((-1)), .int 0, .int ((-1)), .int 0])), .inr (.inr (4, [.ref (n + 100), .int 0, .int 60])), .inl (60, fun _ => 0), .inr (.inr (4, [.ref (n + 102), .int 0, .int 60])), .inl (60, fun _ => 0), .inr (.inr (4, [.ref (n + 104), .int 0, .int 60])), .inl (60, fun _ => 0), .inr (.inr (6, [.int 1, .int 0, .int 0, .ref (n + 106), .ref (n + 107), .ref (n + 108), .int 0, .int ((-1)), .int 0, .int 0])), .inl (24, fun _ => 0), .inl (24, fun _ => 0), .inl (24, fun _ => 0), .inr (.inr (4, [.ref (n + 110), .int 0, .int 64])), .inl (64, fun _ => 0), .inr (.inr (4, [.ref (n + 112), .int 0, .int 64])), .inl (64, fun _ => 0), .inl (4, fun _ => 0), .inl (4, fun _ => 0), .inl (4, fun _ => 0), .inr (.inr (3, [.int 0, .int 0, .int 0, .int 0, .int 0, .int 0, .int 0, .ref (n + 117), .int 0, .int 0, .int 0])), .inr (.inr (4, [.ref (n + 118), .int 0, .int 15])), .inl (15, fun _ => 0)]) ++ [.inr (.inr (3, [.int 0, .int 0, .int 0, .int 0, .int 0, .int 0, .int 0, .null, .int 0, .int 0, .int 0]))]) (by simp only [List.append_assoc, List.cons_append, List.nil_append]) ?_
  refine g_callINv (q := 75) (As := []) C gyX3_init giX3_init rfl (host := RX7) (by decide +kernel) (c_X3_init (n := n + 119) (by rw [List.length_append, hn]; rfl)) dX7_init_72 rfl rfl rfl (Nat.le_of_ble_eq_true rfl) (Nat.le_of_ble_eq_true rfl) (Nat.le_of_ble_eq_true rfl) (Nat.le_of_ble_eq_true rfl) (Nat.le_of_ble_eq_true rfl) rfl ?_
  refine g_heap (hp2 := hp ++ [.inr (.inr (7, [.ref (n + 1), .ref (n + 3), .ref (n + 20), .ref (n + 43), .ref (n + 116), .null, .int 0])), .inr (.inr (4, [.ref (n + 2), .int 0, .int 96])), .inl (96, fun _ => 0), .inr (.inr (1, [.ref (n + 4), .ref (n + 6), .ref (n + 8), .ref (n + 10), .ref (n + 12), .ref (n + 14), .ref (n + 16), .ref (n + 18), .int ((-1))])), .inr (.inr (4, [.ref (n + 5), .int 0, .int 1048576])), .inl (256, fun _ => 0), .inr (.inr (4, [.ref (n + 7), .int 0, .int 65536])), .inl (32, fun _ => 0), .inr (.inr (4, [.ref (n + 9), .int 0, .int 65536])), .inl (32, fun _ => 0), .inr (.inr (4, [.ref (n + 11), .int 0, .int 65536])), .inl (32, fun _ => 0), .inr (.inr (4, [.ref (n + 13), .int 0, .int 256])), .inl (256, fun _ => 0), .inr (.inr (4, [.ref (n + 15), .int 0, .int 30])), .inl (30, fun _ => 0), .inr (.inr (4, [.ref (n + 17), .int 0, .int 30])), .inl (30, fun _ => 0), .inr (.inr (4, [.ref (n + 19), .int 0, .int 30])), .inl (30, fun _ => 0), .inr (.inr (2, [.ref (n + 21), .ref (n + 28), .ref (n + 35), .int 0, .int 0, .int 0, .int 0, .int 0, .ref (n + 39), .ref (n + 41), .ref (n + 3), .int 3, .int 0, .int ((-1)), .int 0, .int 0, .int 0, .int 0])), .inr (.inr (5, [.int 0, .int 0, .int 0, .int 32, .int 0, .int ((-1)), .int 0, .int 0, .ref (n + 22), .ref (n + 24), .ref (n + 26), .int ((-1)), .int 0, .int ((-1)), .int 0])), .inr (.inr (4, [.ref (n + 23), .int 0, .int 60])), .inl (60, fun _ => 0), .inr (.inr (4, [.ref (n + 25), .int 0, .int 60])), .inl (60, fun _ => 0), .inr (.inr (4, [.ref (n + 27), .int 0, .int 60])), .inl (60, fun _ => 0), .inr (.inr (5, [.int 1, .int 0, .int 0, .int 32, .int 0, .int ((-1)), .int 0, .int 0, .ref (n + 29), .ref (n + 31), .ref (n + 33), .int ((-1)), .int 0, .int ((-1)), .int 0])), .inr (.inr (4, [.ref (n + 30), .int 0, .int 60])), .inl (60, fun _ => 0), .inr (.inr (4, [.ref (n + 32), .int 0, .int 60])), .inl (60, fun _ => 0), .inr (.inr (4, [.ref (n + 34), .int 0, .int 60])), .inl (60, fun _ => 0), .inr (.inr (6, [.int 1, .int 0, .int 0, .ref (n + 36), .ref (n + 37), .ref (n + 38), .int 0, .int ((-1)), .int 0, .int 0])), .inl (24, fun _ => 0), .inl (24, fun _ => 0), .inl (24, fun _ => 0), .inr (.inr (4, [.ref (n + 40), .int 0, .int 64])), .inl (64, fun _ => 0), .inr (.inr (4, [.ref (n + 42), .int 0, .int 64])), .inl (64, fun _ => 0), .inr (.inr (0, [.ref (n + 44), .ref (n + 67), .ref (n + 90), .int 0, .ref (n + 113), .ref (n + 114), .ref (n + 115)])), .inr (.inr (2, [.ref (n + 45), .ref (n + 52), .ref (n + 59), .int 0, .int 0, .int 0, .int 0, .int 0, .ref (n + 63), .ref (n + 65), .null, .int 3, .int 0, .int ((-1)), .int 0, .int 0, .int 0, .int 0])), .inr (.inr (5, [.int 0, .int 0, .int 0, .int 32, .int 0, .int ((-1)), .int 0, .int 0, .ref (n + 46), .ref (n + 48), .ref (n + 50), .int ((-1)), .int 0, .int ((-1)), .int 0])), .inr (.inr (4, [.ref (n + 47), .int 0, .int 60])), .inl (60, fun _ => 0), .inr (.inr (4, [.ref (n + 49), .int 0, .int 60])), .inl (60, fun _ => 0), .inr (.inr (4, [.ref (n + 51), .int 0, .int 60])), .inl (60, fun _ => 0), .inr (.inr (5, [.int 1, .int 0, .int 0, .int 32, .int 0, .int ((-1)), .int 0, .int 0, .ref (n + 53), .ref (n + 55), .ref (n + 57), .int ((-1)), .int 0, .int ((-1)), .int 0])), .inr (.inr (4, [.ref (n + 54), .int 0, .int 60])), .inl (60, fun _ => 0), .inr (.inr (4, [.ref (n + 56), .int 0, .int 60])), .inl (60, fun _ => 0), .inr (.inr (4, [.ref (n + 58), .int 0, .int 60])), .inl (60, fun _ => 0), .inr (.inr (6, [.int 1, .int 0, .int 0, .ref (n + 60), .ref (n + 61), .ref (n + 62), .int 0, .int ((-1)), .int 0, .int 0])), .inl (24, fun _ => 0), .inl (24, fun _ => 0), .inl (24, fun _ => 0), .inr (.inr (4, [.ref (n + 64), .int 0, .int 64])), .inl (64, fun _ => 0), .inr (.inr (4, [.ref (n + 66), .int 0, .int 64])), .inl (64, fun _ => 0), .inr (.inr (2, [.ref (n + 68), .ref (n + 75), .ref (n + 82), .int 0, .int 0, .int 0, .int 0, .int 0, .ref (n + 86), .ref (n + 88), .null, .int 3, .int 0, .int ((-1)), .int 0, .int 0, .int 0, .int 0])), .inr (.inr (5, [.int 0, .int 0, .int 0, .int 32, .int 0, .int ((-1)), .int 0, .int 0, .ref (n + 69), .ref (n + 71), .ref (n + 73), .int ((-1)), .int 0, .int ((-1)), .int 0])), .inr (.inr (4, [.ref (n + 70), .int 0, .int 60])), .inl (60, fun _ => 0), .inr (.inr (4, [.ref (n + 72), .int 0, .int 60])), .inl (60, fun _ => 0), .inr (.inr (4, [.ref (n + 74), .int 0, .int 60])), .inl (60, fun _ => 0), .inr (.inr (5, [.int 1, .int 0, .int 0, .int 32, .int 0, .int ((-1)), .int 0, .int 0, .ref (n + 76), .ref (n + 78), .ref (n + 80), .int ((-1)), .int 0, .int ((-1)), .int 0])), .inr (.inr (4, [.ref (n + 77), .int 0, .int 60])), .inl (60, fun _ => 0), .inr (.inr (4, [.ref (n + 79), .int 0, .int 60])), .inl (60, fun _ => 0), .inr (.inr (4, [.ref (n + 81), .int 0, .int 60])), .inl (60, fun _ => 0), .inr (.inr (6, [.int 1, .int 0, .int 0, .ref (n + 83), .ref (n + 84), .ref (n + 85), .int 0, .int ((-1)), .int 0, .int 0])), .inl (24, fun _ => 0), .inl (24, fun _ => 0), .inl (24, fun _ => 0), .inr (.inr (4, [.ref (n + 87), .int 0, .int 64])), .inl (64, fun _ => 0), .inr (.inr (4, [.ref (n + 89), .int 0, .int 64])), .inl (64, fun _ => 0), .inr (.inr (2, [.ref (n + 91), .ref (n + 98), .ref (n + 105), .int 0, .int 0, .int 0, .int 0, .int 0, .ref (n + 109), .ref (n + 111), .null, .int 3, .int 0, .int ((-1)), .int 0, .int 0, .int 0, .int 0])), .inr (.inr (5, [.int 0, .int 0, .int 0, .int 32, .int 0, .int ((-1)), .int 0, .int 0, .ref (n + 92), .ref (n + 94), .ref (n + 96), .int ((-1)), .int 0, .int ((-1)), .int 0])), .inr (.inr (4, [.ref (n + 93), .int 0, .int 60])), .inl (60, fun _ => 0), .inr (.inr (4, [.ref (n + 95), .int 0, .int 60])), .inl (60, fun _ => 0), .inr (.inr (4, [.ref (n + 97), .int 0, .int 60])), .inl (60, fun _ => 0), .inr (.inr (5, [.int 1, .int 0, .int 0, .int 32, .int 0, .int ((-1)), .int 0, .int 0, .ref (n + 99), .ref (n + 101), .ref (n + 103), .int ((-1)), .int 0, .int ((-1)), .int 0])), .inr (.inr (4, [.ref (n + 100), .int 0, .int 60])), .inl (60, fun _ => 0), .inr (.inr (4, [.ref (n + 102), .int 0, .int 60])), .inl (60, fun _ => 0), .inr (.inr (4, [.ref (n + 104), .int 0, .int 60])), .inl (60, fun _ => 0), .inr (.inr (6, [.int 1, .int 0, .int 0, .ref (n + 106), .ref (n + 107), .ref (n + 108), .int 0, .int ((-1)), .int 0, .int 0])), .inl (24, fun _ => 0), .inl (24, fun _ => 0), .inl (24, fun _ => 0), .inr (.inr (4, [.ref (n + 110), .int 0, .int 64])), .inl (64, fun _ => 0), .inr (.inr (4, [.ref (n + 112), .int 0, .int 64])), .inl (64, fun _ => 0), .inl (4, fun _ => 0), .inl (4, fun _ => 0), .inl (4, fun _ => 0), .inr (.inr (3, [.int 0, .int 0, .int 0, .int 0, .int 0, .int 0, .int 0, .ref (n + 117), .int 0, .int 0, .int 0])), .inr (.inr (4, [.ref (n + 118), .int 0, .int 15])), .inl (15, fun _ => 0), .inr (.inr (3, [.int 0, .int 0, .int 0, .int 0, .int 0, .int 0, .int 0, .ref (n + 120), .int 0, .int 0, .int 0])), .inr (.inr (4, [.ref (n + 121), .int 0, .int 15])), .inl (15, fun _ => 0)]) (by simp only [List.append_assoc, List.cons_append, List.nil_append, Nat.add_assoc, Nat.reduceAdd, Nat.add_zero]) ?_
  refine g_putE (q := 78) (hp' := hp ++ [.inr (.inr (7, [.ref (n + 1), .ref (n + 3), .ref (n + 20), .ref (n + 43), .ref (n + 116), .ref (n + 119), .int 0])), .inr (.inr (4, [.ref (n + 2), .int 0, .int 96])), .inl (96, fun _ => 0), .inr (.inr (1, [.ref (n + 4), .ref (n + 6), .ref (n + 8), .ref (n + 10), .ref (n + 12), .ref (n + 14), .ref (n + 16), .ref (n + 18), .int ((-1))])), .inr (.inr (4, [.ref (n + 5), .int 0, .int 1048576])), .inl (256, fun _ => 0), .inr (.inr (4, [.ref (n + 7), .int 0, .int 65536])), .inl (32, fun _ => 0), .inr (.inr (4, [.ref (n + 9), .int 0, .int 65536])), .inl (32, fun _ => 0), .inr (.inr (4, [.ref (n + 11), .int 0, .int 65536])), .inl (32, fun _ => 0), .inr (.inr (4, [.ref (n + 13), .int 0, .int 256])), .inl (256, fun _ => 0), .inr (.inr (4, [.ref (n + 15), .int 0, .int 30])), .inl (30, fun _ => 0), .inr (.inr (4, [.ref (n + 17), .int 0, .int 30])), .inl (30, fun _ => 0), .inr (.inr (4, [.ref (n + 19), .int 0, .int 30])), .inl (30, fun _ => 0), .inr (.inr (2, [.ref (n + 21), .ref (n + 28), .ref (n + 35), .int 0, .int 0, .int 0, .int 0, .int 0, .ref (n + 39), .ref (n + 41), .ref (n + 3), .int 3, .int 0, .int ((-1)), .int 0, .int 0, .int 0, .int 0])), .inr (.inr (5, [.int 0, .int 0, .int 0, .int 32, .int 0, .int ((-1)), .int 0, .int 0, .ref (n + 22), .ref (n + 24), .ref (n + 26), .int ((-1)), .int 0, .int ((-1)), .int 0])), .inr (.inr (4, [.ref (n + 23), .int 0, .int 60])), .inl (60, fun _ => 0), .inr (.inr (4, [.ref (n + 25), .int 0, .int 60])), .inl (60, fun _ => 0), .inr (.inr (4, [.ref (n + 27), .int 0, .int 60])), .inl (60, fun _ => 0), .inr (.inr (5, [.int 1, .int 0, .int 0, .int 32, .int 0, .int ((-1)), .int 0, .int 0, .ref (n + 29), .ref (n + 31), .ref (n + 33), .int ((-1)), .int 0, .int ((-1)), .int 0])), .inr (.inr (4, [.ref (n + 30), .int 0, .int 60])), .inl (60, fun _ => 0), .inr (.inr (4, [.ref (n + 32), .int 0, .int 60])), .inl (60, fun _ => 0), .inr (.inr (4, [.ref (n + 34), .int 0, .int 60])), .inl (60, fun _ => 0), .inr (.inr (6, [.int 1, .int 0, .int 0, .ref (n + 36), .ref (n + 37), .ref (n + 38), .int 0, .int ((-1)), .int 0, .int 0])), .inl (24, fun _ => 0), .inl (24, fun _ => 0), .inl (24, fun _ => 0), .inr (.inr (4, [.ref (n + 40), .int 0, .int 64])), .inl (64, fun _ => 0), .inr (.inr (4, [.ref (n + 42), .int 0, .int 64])), .inl (64, fun _ => 0), .inr (.inr (0, [.ref (n + 44), .ref (n + 67), .ref (n + 90), .int 0, .ref (n + 113), .ref (n + 114), .ref (n + 115)])), .inr (.inr (2, [.ref (n + 45), .ref (n + 52), .ref (n + 59), .int 0, .int 0, .int 0, .int 0, .int 0, .ref (n + 63), .ref (n + 65), .null, .int 3, .int 0, .int ((-1)), .int 0, .int 0, .int 0, .int 0])), .inr (.inr (5, [.int 0, .int 0, .int 0, .int 32, .int 0, .int ((-1)), .int 0, .int 0, .ref (n + 46), .ref (n + 48), .ref (n + 50), .int ((-1)), .int 0, .int ((-1)), .int 0])), .inr (.inr (4, [.ref (n + 47), .int 0, .int 60])), .inl (60, fun _ => 0), .inr (.inr (4, [.ref (n + 49), .int 0, .int 60])), .inl (60, fun _ => 0), .inr (.inr (4, [.ref (n + 51), .int 0, .int 60])), .inl (60, fun _ => 0), .inr (.inr (5, [.int 1, .int 0, .int 0, .int 32, .int 0, .int ((-1)), .int 0, .int 0, .ref (n + 53), .ref (n + 55), .ref (n + 57), .int ((-1)), .int 0, .int ((-1)), .int 0])), .inr (.inr (4, [.ref (n + 54), .int 0, .int 60])), .inl (60, fun _ => 0), .inr (.inr (4, [.ref (n + 56), .int 0, .int 60])), .inl (60, fun _ => 0), .inr (.inr (4, [.ref (n + 58), .int 0, .int 60])), .inl (60, fun _ => 0), .inr (.inr (6, [.int 1, .int 0, .int 0, .ref (n + 60), .ref (n + 61), .ref (n + 62), .int 0, .int ((-1)), .int 0, .int 0])), .inl (24, fun _ => 0), .inl (24, fun _ => 0), .inl (24, fun _ => 0), .inr (.inr (4, [.ref (n + 64), .int 0, .int 64])), .inl (64, fun _ => 0), .inr (.inr (4, [.ref (n + 66), .int 0, .int 64])), .inl (64, fun _ => 0), .inr (.inr (2, [.ref (n + 68), .ref (n + 75), .ref (n + 82), .int 0, .int 0, .int 0, .int 0, .int 0, .ref (n + 86), .ref (n + 88), .null, .int 3, .int 0, .int ((-1)), .int 0, .int 0, .int 0, .int 0])), .inr (.inr (5, [.int 0, .int 0, .int 0, .int 32, .int 0, .int ((-1)), .int 0, .int 0, .ref (n + 69), .ref (n + 71), .ref (n + 73), .int ((-1)), .int 0, .int ((-1)), .int 0])), .inr (.inr (4, [.ref (n + 70), .int 0, .int 60])), .inl (60, fun _ => 0), .inr (.inr (4, [.ref (n + 72), .int 0, .int 60])), .inl (60, fun _ => 0), .inr (.inr (4, [.ref (n + 74), .int 0, .int 60])), .inl (60, fun _ => 0), .inr (.inr (5, [.int 1, .int 0, .int 0, .int 32, .int 0, .int ((-1)), .int 0, .int 0, .ref (n + 76), .ref (n + 78), .ref (n + 80), .int ((-1)), .int 0, .int ((-1)), .int 0])), .inr (.inr (4, [.ref (n + 77), .int 0, .int 60])), .inl (60, fun _ => 0), .inr (.inr (4, [.ref (n + 79), .int 0, .int 60])), .inl (60, fun _ => 0), .inr (.inr (4, [.ref (n + 81), .int 0, .int 60])), .inl (60, fun _ => 0), .inr (.inr (6, [.int 1, .int 0, .int 0, .ref (n + 83), .ref (n + 84), .ref (n + 85), .int 0, .int ((-1)), .int 0, .int 0])), .inl (24, fun _ => 0), .inl (24, fun _ => 0), .inl (24, fun _ => 0), .inr (.inr (4, [.ref (n + 87), .int 0, .int 64])), .inl (64, fun _ => 0), .inr (.inr (4, [.ref (n + 89), .int 0, .int 64])), .inl (64, fun _ => 0), .inr (.inr (2, [.ref (n + 91), .ref (n + 98), .ref (n + 105), .int 0, .int 0, .int 0, .int 0, .int 0, .ref (n + 109), .ref (n + 111), .null, .int 3, .int 0, .int ((-1)), .int 0, .int 0, .int 0, .int 0])), .inr (.inr (5, [.int 0, .int 0, .int 0, .int 32, .int 0, .int ((-1)), .int 0, .int 0, .ref (n + 92), .ref (n + 94), .ref (n + 96), .int ((-1)), .int 0, .int ((-1)), .int 0])), .inr (.inr (4, [.ref (n + 93), .int 0, .int 60])), .inl (60, fun _ => 0), .inr (.inr (4, [.ref (n + 95), .int 0, .int 60])), .inl (60, fun _ => 0), .inr (.inr (4, [.ref (n + 97), .int 0, .int 60])), .inl (60, fun _ => 0), .inr (.inr (5, [.int 1, .int 0, .int 0, .int 32, .int 0, .int ((-1)), .int 0, .int 0, .ref (n + 99), .ref (n + 101), .ref (n + 103), .int ((-1)), .int 0, .int ((-1)), .int 0])), .inr (.inr (4, [.ref (n + 100), .int 0, .int 60])), .inl (60, fun _ => 0), .inr (.inr (4, [.ref (n + 102), .int 0, .int 60])), .inl (60, fun _ => 0), .inr (.inr (4, [.ref (n + 104), .int 0, .int 60])), .inl (60, fun _ => 0), .inr (.inr (6, [.int 1, .int 0, .int 0, .ref (n + 106), .ref (n + 107), .ref (n + 108), .int 0, .int ((-1)), .int 0, .int 0])), .inl (24, fun _ => 0), .inl (24, fun _ => 0), .inl (24, fun _ => 0), .inr (.inr (4, [.ref (n + 110), .int 0, .int 64])), .inl (64, fun _ => 0), .inr (.inr (4, [.ref (n + 112), .int 0, .int 64])), .inl (64, fun _ => 0), .inl (4, fun _ => 0), .inl (4, fun _ => 0), .inl (4, fun _ => 0), .inr (.inr (3, [.int 0, .int 0, .int 0, .int 0, .int 0, .int 0, .int 0, .ref (n + 117), .int 0, .int 0, .int 0])), .inr (.inr (4, [.ref (n + 118), .int 0, .int 15])), .inl (15, fun _ => 0), .inr (.inr (3, [.int 0, .int 0, .int 0, .int 0, .int 0, .int 0, .int 0, .ref (n + 120), .int 0, .int 0, .int 0])), .inr (.inr (4, [.ref (n + 121), .int 0, .int 15])), .inl (15, fun _ => 0)]) C fX7_48 dX7_init_75 rfl (gapp_new hn rfl) (Nat.le_of_ble_eq_true rfl) (Or.inl rfl) rfl rfl (by intro z h; cases h) rfl (gapp_set hn) ?_
  refine g_aload_n (q := 79) C dX7_init_78 rfl rfl ?_
  refine g_iconst (v := 0) (q := 80) C dX7_init_79 (by decide) rfl ?_
  refine g_putE (q := 83) (hp' := hp ++ [.inr (.inr (7, [.ref (n + 1), .ref (n + 3), .ref (n + 20), .ref (n + 43), .ref (n + 116), .ref (n + 119), .int 0])), .inr (.inr (4, [.ref (n + 2), .int 0, .int 96])), .inl (96, fun _ => 0), .inr (.inr (1, [.ref (n + 4), .ref (n + 6), .ref (n + 8), .ref (n + 10), .ref (n + 12), .ref (n + 14), .ref (n + 16), .ref (n + 18), .int ((-1))])), .inr (.inr (4, [.ref (n + 5), .int 0, .int 1048576])), .inl (256, fun _ => 0), .inr (.inr (4, [.ref (n + 7), .int 0, .int 65536])), .inl (32, fun _ => 0), .inr (.inr (4, [.ref (n + 9), .int 0, .int 65536])), .inl (32, fun _ => 0), .inr (.inr (4, [.ref (n + 11), .int 0, .int 65536])), .inl (32, fun _ => 0), .inr (.inr (4, [.ref (n + 13), .int 0, .int 256])), .inl (256, fun _ => 0), .inr (.inr (4, [.ref (n + 15), .int 0, .int 30])), .inl (30, fun _ => 0), .inr (.inr (4, [.ref (n + 17), .int 0, .int 30])), .inl (30, fun _ => 0), .inr (.inr (4, [.ref (n + 19), .int 0, .int 30])), .inl (30, fun _ => 0), .inr (.inr (2, [.ref (n + 21), .ref (n + 28), .ref (n + 35), .int 0, .int 0, .int 0, .int 0, .int 0, .ref (n + 39), .ref (n + 41), .ref (n + 3), .int 3, .int 0, .int ((-1)), .int 0, .int 0, .int 0, .int 0])), .inr (.inr (5, [.int 0, .int 0, .int 0, .int 32, .int 0, .int ((-1)), .int 0, .int 0, .ref (n + 22), .ref (n + 24), .ref (n + 26), .int ((-1)), .int 0, .int ((-1)), .int 0])), .inr (.inr (4, [.ref (n + 23), .int 0, .int 60])), .inl (60, fun _ => 0), .inr (.inr (4, [.ref (n + 25), .int 0, .int 60])), .inl (60, fun _ => 0), .inr (.inr (4, [.ref (n + 27), .int 0, .int 60])), .inl (60, fun _ => 0), .inr (.inr (5, [.int 1, .int 0, .int 0, .int 32, .int 0, .int ((-1)), .int 0, .int 0, .ref (n + 29), .ref (n + 31), .ref (n + 33), .int ((-1)), .int 0, .int ((-1)), .int 0])), .inr (.inr (4, [.ref (n + 30), .int 0, .int 60])), .inl (60, fun _ => 0), .inr (.inr (4, [.ref (n + 32), .int 0, .int 60])), .inl (60, fun _ => 0), .inr (.inr (4, [.ref (n + 34), .int 0, .int 60])), .inl (60, fun _ => 0), .inr (.inr (6, [.int 1, .int 0, .int 0, .ref (n + 36), .ref (n + 37), .ref (n + 38), .int 0, .int ((-1)), .int 0, .int 0])), .inl (24, fun _ => 0), .inl (24, fun _ => 0), .inl (24, fun _ => 0), .inr (.inr (4, [.ref (n + 40), .int 0, .int 64])), .inl (64, fun _ => 0), .inr (.inr (4, [.ref (n + 42), .int 0, .int 64])), .inl (64, fun _ => 0), .inr (.inr (0, [.ref (n + 44), .ref (n + 67), .ref (n + 90), .int 0, .ref (n + 113), .ref (n + 114), .ref (n + 115)])), .inr (.inr (2, [.ref (n + 45), .ref (n + 52), .ref (n + 59), .int 0, .int 0, .int 0, .int 0, .int 0, .ref (n + 63), .ref (n + 65), .null, .int 3, .int 0, .int ((-1)), .int 0, .int 0, .int 0, .int 0])), .inr (.inr (5, [.int 0, .int 0, .int 0, .int 32, .int 0, .int ((-1)), .int 0, .int 0, .ref (n + 46), .ref (n + 48), .ref (n + 50), .int ((-1)), .int 0, .int ((-1)), .int 0])), .inr (.inr (4, [.ref (n + 47), .int 0, .int 60])), .inl (60, fun _ => 0), .inr (.inr (4, [.ref (n + 49), .int 0, .int 60])), .inl (60, fun _ => 0), .inr (.inr (4, [.ref (n + 51), .int 0, .int 60])), .inl (60, fun _ => 0), .inr (.inr (5, [.int 1, .int 0, .int 0, .int 32, .int 0, .int ((-1)), .int 0, .int 0, .ref (n + 53), .ref (n + 55), .ref (n + 57), .int ((-1)), .int 0, .int ((-1)), .int 0])), .inr (.inr (4, [.ref (n + 54), .int 0, .int 60])), .inl (60, fun _ => 0), .inr (.inr (4, [.ref (n + 56), .int 0, .int 60])), .inl (60, fun _ => 0), .inr (.inr (4, [.ref (n + 58), .int 0, .int 60])), .inl (60, fun _ => 0), .inr (.inr (6, [.int 1, .int 0, .int 0, .ref (n + 60), .ref (n + 61), .ref (n + 62), .int 0, .int ((-1)), .int 0, .int 0])), .inl (24, fun _ => 0), .inl (24, fun _ => 0), .inl (24, fun _ => 0), .inr (.inr (4, [.ref (n + 64), .int 0, .int 64])), .inl (64, fun _ => 0), .inr (.inr (4, [.ref (n + 66), .int 0, .int 64])), .inl (64, fun _ => 0), .inr (.inr (2, [.ref (n + 68), .ref (n + 75), .ref (n + 82), .int 0, .int 0, .int 0, .int 0, .int 0, .ref (n + 86), .ref (n + 88), .null, .int 3, .int 0, .int ((-1)), .int 0, .int 0, .int 0, .int 0])), .inr (.inr (5, [.int 0, .int 0, .int 0, .int 32, .int 0, .int ((-1)), .int 0, .int 0, .ref (n + 69), .ref (n + 71), .ref (n + 73), .int ((-1)), .int 0, .int ((-1)), .int 0])), .inr (.inr (4, [.ref (n + 70), .int 0, .int 60])), .inl (60, fun _ => 0), .inr (.inr (4, [.ref (n + 72), .int 0, .int 60])), .inl (60, fun _ => 0), .inr (.inr (4, [.ref (n + 74), .int 0, .int 60])), .inl (60, fun _ => 0), .inr (.inr (5, [.int 1, .int 0, .int 0, .int 32, .int 0, .int ((-1)), .int 0, .int 0, .ref (n + 76), .ref (n + 78), .ref (n + 80), .int ((-1)), .int 0, .int ((-1)), .int 0])), .inr (.inr (4, [.ref (n + 77), .int 0, .int 60])), .inl (60, fun _ => 0), .inr (.inr (4, [.ref (n + 79), .int 0, .int 60])), .inl (60, fun _ => 0), .inr (.inr (4, [.ref (n + 81), .int 0, .int 60])), .inl (60, fun _ => 0), .inr (.inr (6, [.int 1, .int 0, .int 0, .ref (n + 83), .ref (n + 84), .ref (n + 85), .int 0, .int ((-1)), .int 0, .int 0])), .inl (24, fun _ => 0), .inl (24, fun _ => 0), .inl (24, fun _ => 0), .inr (.inr (4, [.ref (n + 87), .int 0, .int 64])), .inl (64, fun _ => 0), .inr (.inr (4, [.ref (n + 89), .int 0, .int 64])), .inl (64, fun _ => 0), .inr (.inr (2, [.ref (n + 91), .ref (n + 98), .ref (n + 105), .int 0, .int 0, .int 0, .int 0, .int 0, .ref (n + 109), .ref (n + 111), .null, .int 3, .int 0, .int ((-1)), .int 0, .int 0, .int 0, .int 0])), .inr (.inr (5, [.int 0, .int 0, .int 0, .int 32, .int 0, .int ((-1)), .int 0, .int 0, .ref (n + 92), .ref (n + 94), .ref (n + 96), .int ((-1)), .int 0, .int ((-1)), .int 0])), .inr (.inr (4, [.ref (n + 93), .int 0, .int 60])), .inl (60, fun _ => 0), .inr (.inr (4, [.ref (n + 95), .int 0, .int 60])), .inl (60, fun _ => 0), .inr (.inr (4, [.ref (n + 97), .int 0, .int 60])), .inl (60, fun _ => 0), .inr (.inr (5, [.int 1, .int 0, .int 0, .int 32, .int 0, .int ((-1)), .int 0, .int 0, .ref (n + 99), .ref (n + 101), .ref (n + 103), .int ((-1)), .int 0, .int ((-1)), .int 0])), .inr (.inr (4, [.ref (n + 100), .int 0, .int 60])), .inl (60, fun _ => 0), .inr (.inr (4, [.ref (n + 102), .int 0, .int 60])), .inl (60, fun _ => 0), .inr (.inr (4, [.ref (n + 104), .int 0, .int 60])), .inl (60, fun _ => 0), .inr (.inr (6, [.int 1, .int 0, .int 0, .ref (n + 106), .ref (n + 107), .ref (n + 108), .int 0, .int ((-1)), .int 0, .int 0])), .inl (24, fun _ => 0), .inl (24, fun _ => 0), .inl (24, fun _ => 0), .inr (.inr (4, [.ref (n + 110), .int 0, .int 64])), .inl (64, fun _ => 0), .inr (.inr (4, [.ref (n + 112), .int 0, .int 64])), .inl (64, fun _ => 0), .inl (4, fun _ => 0), .inl (4, fun _ => 0), .inl (4, fun _ => 0), .inr (.inr (3, [.int 0, .int 0, .int 0, .int 0, .int 0, .int 0, .int 0, .ref (n + 117), .int 0, .int 0, .int 0])), .inr (.inr (4, [.ref (n + 118), .int 0, .int 15])), .inl (15, fun _ => 0), .inr (.inr (3, [.int 0, .int 0, .int 0, .int 0, .int 0, .int 0, .int 0, .ref (n + 120), .int 0, .int 0, .int 0])), .inr (.inr (4, [.ref (n + 121), .int 0, .int 15])), .inl (15, fun _ => 0)]) C fX7_51 dX7_init_80 rfl (gapp_new hn rfl) (Nat.le_of_ble_eq_true rfl) (Or.inl rfl) rfl rfl (by intro z h; cases h) rfl (gapp_set hn) ?_
  exact E.2.1 _ _ _ _ _ dX7_init_83 rfl (Nat.le_of_ble_eq_true rfl) (Nat.le_of_ble_eq_true rfl) ⟨rfl, rfl⟩
end
section
/-! the reference: its constructor (by program: wip/p1/m_model.py) -/
def gS0 : Nat → Int32 := upd (upd (upd (upd (upd (upd (upd (upd (upd (upd (upd (upd (fun _ => 0) 2 32) 5 (-1)) 9 (-1)) 11 (-1)) 14 (-1)) 18 32) 21 (-1)) 25 (-1)) 27 (-1)) 30 (-1)) 418 (-1)) 428 3
theorem gset_id {hp : List gA} {k : Nat} {e : gA} (h : hp[k]? = some e) : hp.set k e = hp := by
  apply List.ext_getElem?
  intro j
  by_cases hj : k = j
  · subst hj; rw [gset_self h, h]
  · rw [List.getElem?_set_ne hj]
theorem dX8_begins_0 : decode cX8_begins 0 = .ok (.iconst 0, 1) := by decide +kernel
theorem dX8_begins_1 : decode cX8_begins 1 = .ok (.istore_n 1, 1) := by decide +kernel
theorem dX8_begins_2 : decode cX8_begins 2 = .ok (.iload_n 1, 1) := by decide +kernel
theorem dX8_begins_3 : decode cX8_begins 3 = .ok (.sipush 772, 3) := by decide +kernel
theorem dX8_begins_6 : decode cX8_begins 6 = .ok (.if_icmp .ge 16, 3) := by decide +kernel
theorem dX8_begins_9 : decode cX8_begins 9 = .ok (.aload_n 0, 1) := by decide +kernel
theorem dX8_begins_10 : decode cX8_begins 10 = .ok (.getfield 22, 3) := by decide +kernel
theorem dX8_begins_13 : decode cX8_begins 13 = .ok (.iload_n 1, 1) := by decide +kernel
theorem dX8_begins_14 : decode cX8_begins 14 = .ok (.iconst 0, 1) := by decide +kernel
theorem dX8_begins_15 : decode cX8_begins 15 = .ok (.iastore, 1) := by decide +kernel
theorem dX8_begins_16 : decode cX8_begins 16 = .ok (.iinc 1 1, 3) := by decide +kernel
theorem dX8_begins_19 : decode cX8_begins 19 = .ok (.goto (-17), 3) := by decide +kernel
theorem dX8_begins_22 : decode cX8_begins 22 = .ok (.iconst 0, 1) := by decide +kernel
theorem dX8_begins_23 : decode cX8_begins 23 = .ok (.istore_n 1, 1) := by decide +kernel
theorem dX8_begins_24 : decode cX8_begins 24 = .ok (.iload_n 1, 1) := by decide +kernel
theorem dX8_begins_25 : decode cX8_begins 25 = .ok (.iconst 2, 1) := by decide +kernel
theorem dX8_begins_26 : decode cX8_begins 26 = .ok (.if_icmp .ge 73, 3) := by decide +kernel
theorem dX8_begins_29 : decode cX8_begins 29 = .ok (.aload_n 0, 1) := by decide +kernel
theorem dX8_begins_30 : decode cX8_begins 30 = .ok (.getfield 22, 3) := by decide +kernel
theorem dX8_begins_33 : decode cX8_begins 33 = .ok (.bipush 16, 2) := by decide +kernel
theorem dX8_begins_35 : decode cX8_begins 35 = .ok (.iload_n 1, 1) := by decide +kernel
theorem dX8_begins_36 : decode cX8_begins 36 = .ok (.imul, 1) := by decide +kernel
theorem dX8_begins_37 : decode cX8_begins 37 = .ok (.iconst 2, 1) := by decide +kernel
theorem dX8_begins_38 : decode cX8_begins 38 = .ok (.iadd, 1) := by decide +kernel
theorem dX8_begins_39 : decode cX8_begins 39 = .ok (.bipush 32, 2) := by decide +kernel
theorem dX8_begins_41 : decode cX8_begins 41 = .ok (.iastore, 1) := by decide +kernel
theorem dX8_begins_42 : decode cX8_begins 42 = .ok (.aload_n 0, 1) := by decide +kernel
theorem dX8_begins_43 : decode cX8_begins 43 = .ok (.getfield 22, 3) := by decide +kernel
theorem dX8_begins_46 : decode cX8_begins 46 = .ok (.bipush 16, 2) := by decide +kernel
theorem dX8_begins_48 : decode cX8_begins 48 = .ok (.iload_n 1, 1) := by decide +kernel
theorem dX8_begins_49 : decode cX8_begins 49 = .ok (.imul, 1) := by decide +kernel
theorem dX8_begins_50 : decode cX8_begins 50 = .ok (.iconst 5, 1) := by decide +kernel
theorem dX8_begins_51 : decode cX8_begins 51 = .ok (.iadd, 1) := by decide +kernel
theorem dX8_begins_52 : decode cX8_begins 52 = .ok (.iconst (-1), 1) := by decide +kernel
theorem dX8_begins_53 : decode cX8_begins 53 = .ok (.iastore, 1) := by decide +kernel
theorem dX8_begins_54 : decode cX8_begins 54 = .ok (.aload_n 0, 1) := by decide +kernel
theorem dX8_begins_55 : decode cX8_begins 55 = .ok (.getfield 22, 3) := by decide +kernel
theorem dX8_begins_58 : decode cX8_begins 58 = .ok (.bipush 16, 2) := by decide +kernel
theorem dX8_begins_60 : decode cX8_begins 60 = .ok (.iload_n 1, 1) := by decide +kernel
theorem dX8_begins_61 : decode cX8_begins 61 = .ok (.imul, 1) := by decide +kernel
theorem dX8_begins_62 : decode cX8_begins 62 = .ok (.bipush 9, 2) := by decide +kernel
theorem dX8_begins_64 : decode cX8_begins 64 = .ok (.iadd, 1) := by decide +kernel
theorem dX8_begins_65 : decode cX8_begins 65 = .ok (.iconst (-1), 1) := by decide +kernel
theorem dX8_begins_66 : decode cX8_begins 66 = .ok (.iastore, 1) := by decide +kernel
theorem dX8_begins_67 : decode cX8_begins 67 = .ok (.aload_n 0, 1) := by decide +kernel
theorem dX8_begins_68 : decode cX8_begins 68 = .ok (.getfield 22, 3) := by decide +kernel
theorem dX8_begins_71 : decode cX8_begins 71 = .ok (.bipush 16, 2) := by decide +kernel
theorem dX8_begins_73 : decode cX8_begins 73 = .ok (.iload_n 1, 1) := by decide +kernel
theorem dX8_begins_74 : decode cX8_begins 74 = .ok (.imul, 1) := by decide +kernel
theorem dX8_begins_75 : decode cX8_begins 75 = .ok (.bipush 11, 2) := by decide +kernel
theorem dX8_begins_77 : decode cX8_begins 77 = .ok (.iadd, 1) := by decide +kernel
theorem dX8_begins_78 : decode cX8_begins 78 = .ok (.iconst (-1), 1) := by decide +kernel
theorem dX8_begins_79 : decode cX8_begins 79 = .ok (.iastore, 1) := by decide +kernel
theorem dX8_begins_80 : decode cX8_begins 80 = .ok (.aload_n 0, 1) := by decide +kernel
theorem dX8_begins_81 : decode cX8_begins 81 = .ok (.getfield 22, 3) := by decide +kernel
theorem dX8_begins_84 : decode cX8_begins 84 = .ok (.bipush 16, 2) := by decide +kernel
theorem dX8_begins_86 : decode cX8_begins 86 = .ok (.iload_n 1, 1) := by decide +kernel
theorem dX8_begins_87 : decode cX8_begins 87 = .ok (.imul, 1) := by decide +kernel
theorem dX8_begins_88 : decode cX8_begins 88 = .ok (.bipush 14, 2) := by decide +kernel
theorem dX8_begins_90 : decode cX8_begins 90 = .ok (.iadd, 1) := by decide +kernel
theorem dX8_begins_91 : decode cX8_begins 91 = .ok (.iconst (-1), 1) := by decide +kernel
theorem dX8_begins_92 : decode cX8_begins 92 = .ok (.iastore, 1) := by decide +kernel
theorem dX8_begins_93 : decode cX8_begins 93 = .ok (.iinc 1 1, 3) := by decide +kernel
theorem dX8_begins_96 : decode cX8_begins 96 = .ok (.goto (-72), 3) := by decide +kernel
theorem dX8_begins_99 : decode cX8_begins 99 = .ok (.aload_n 0, 1) := by decide +kernel
theorem dX8_begins_100 : decode cX8_begins 100 = .ok (.getfield 22, 3) := by decide +kernel
theorem dX8_begins_103 : decode cX8_begins 103 = .ok (.sipush 418, 3) := by decide +kernel
theorem dX8_begins_106 : decode cX8_begins 106 = .ok (.iconst (-1), 1) := by decide +kernel
theorem dX8_begins_107 : decode cX8_begins 107 = .ok (.iastore, 1) := by decide +kernel
theorem dX8_begins_108 : decode cX8_begins 108 = .ok (.aload_n 0, 1) := by decide +kernel
theorem dX8_begins_109 : decode cX8_begins 109 = .ok (.getfield 22, 3) := by decide +kernel
theorem dX8_begins_112 : decode cX8_begins 112 = .ok (.sipush 428, 3) := by decide +kernel
theorem dX8_begins_115 : decode cX8_begins 115 = .ok (.iconst 3, 1) := by decide +kernel
theorem dX8_begins_116 : decode cX8_begins 116 = .ok (.iastore, 1) := by decide +kernel
theorem dX8_begins_117 : decode cX8_begins 117 = .ok (.aload_n 0, 1) := by decide +kernel
theorem dX8_begins_118 : decode cX8_begins 118 = .ok (.iconst 0, 1) := by decide +kernel
theorem dX8_begins_119 : decode cX8_begins 119 = .ok (.putfield 69, 3) := by decide +kernel
theorem dX8_begins_122 : decode cX8_begins 122 = .ok (.aload_n 0, 1) := by decide +kernel
theorem dX8_begins_123 : decode cX8_begins 123 = .ok (.iconst 0, 1) := by decide +kernel
theorem dX8_begins_124 : decode cX8_begins 124 = .ok (.putfield 72, 3) := by decide +kernel
theorem dX8_begins_127 : decode cX8_begins 127 = .ok (.return_, 1) := by decide +kernel
set_option maxRecDepth 100000 in
set_option maxHeartbeats 4000000 in
theorem c_X8_begins {hp : List gA} {m : Nat} {taped0 thrown0 hasCard0 repeats0 logged0 logAt0 unlike0 quiet0 size0 at0 fault0 special0 hasOther0 blockMany0 cameMany0 cameHow0 hasLost0 hasSpoilt0 hasSent0 tryOf0 reason0 wouldSend0 wantedMany0 : Int32} {tapeA toldA draftA historyA sA keptA logA logBytesA unlikeFromA unlikeSideA unlikeOftenA unlikeBytesA blockA cameA infA wantedA : Nat} {f0 : Nat → Int32} (hm : hp[m]? = some (.inr (.inr (8, [.ref tapeA, .int taped0, .int thrown0, .int hasCard0, .ref toldA, .ref draftA, .ref historyA, .ref sA, .ref keptA, .int repeats0, .ref logA, .ref logBytesA, .int logged0, .int logAt0, .ref unlikeFromA, .ref unlikeSideA, .ref unlikeOftenA, .ref unlikeBytesA, .int unlike0, .int quiet0, .int size0, .int at0, .int fault0, .int special0, .int hasOther0, .ref blockA, .int blockMany0, .ref cameA, .int cameMany0, .int cameHow0, .int hasLost0, .int hasSpoilt0, .ref infA, .int hasSent0, .int tryOf0, .int reason0, .int wouldSend0, .ref wantedA, .int wantedMany0])))) (hs : hp[sA]? = some (.inl (772, f0))) : gM yX8_begins cX8_begins 2 (none) 0 0 [.ref m] (hp) (0) (0) (fun v h => v = none ∧ ∃ f1, (∀ j, j < 772 → f1 j = gS0 j) ∧ h = (hp.set sA (.inl (772, f1))).set m (.inr (.inr (8, [.ref tapeA, .int taped0, .int thrown0, .int hasCard0, .ref toldA, .ref draftA, .ref historyA, .ref sA, .ref keptA, .int repeats0, .ref logA, .ref logBytesA, .int 0, .int logAt0, .ref unlikeFromA, .ref unlikeSideA, .ref unlikeOftenA, .ref unlikeBytesA, .int 0, .int quiet0, .int size0, .int at0, .int fault0, .int special0, .int hasOther0, .ref blockA, .int blockMany0, .ref cameA, .int cameMany0, .int cameHow0, .int hasLost0, .int hasSpoilt0, .ref infA, .int hasSent0, .int tryOf0, .int reason0, .int wouldSend0, .ref wantedA, .int wantedMany0])))) := by
  have n_m_sA : m ≠ sA := gne hm hs (by intro h; cases h)
  have n_sA_m : sA ≠ m := gne hs hm (by intro h; cases h)
  refine gM_of (ls0 := [some (.ref m), none]) (by decide +kernel) (Nat.le_of_ble_eq_true rfl) rfl fun X C E => ?_
  have n_sA_m : sA ≠ m := gne hs hm (by intro h; cases h)
  have n_m_sA : m ≠ sA := Ne.symm n_sA_m
  have L2 : ∀ f : Nat → Int32, (∀ j, j < 772 → f j = 0) → gG X 22 [some (.ref m), some (.int (nI 772))] [] (hp.set sA (.inl (772, f))) 0 0 := by
    intro f hf
    refine g_iconst (v := 0) (q := 23) C dX8_begins_22 (by decide) rfl ?_
    refine g_istore_n (q := 24) C dX8_begins_23 (Nat.le_of_ble_eq_true rfl) (by simp only [gset]; rfl) rfl ?_
    refine g_iload_n (q := 25) C dX8_begins_24 rfl rfl ?_
    refine g_iconst (v := 2) (q := 26) C dX8_begins_25 (by decide) rfl ?_
    refine g_icmp_ge_f (t := 99) (q := 29) C dX8_begins_26 (by decide) rfl (by decide) ?_
    refine g_aload_n (q := 30) C dX8_begins_29 rfl rfl ?_
    refine g_getfield (q := 33) C fX8_22 dX8_begins_30 rfl (gset_other hm n_sA_m) rfl ?_
    refine g_bipush (v := 16) (q := 35) C dX8_begins_33 (by decide) rfl ?_
    refine g_iload_n (q := 36) C dX8_begins_35 rfl rfl ?_
    refine g_imul (q := 37) C dX8_begins_36 rfl ?_
    refine g_iconst (v := 2) (q := 38) C dX8_begins_37 (by decide) rfl ?_
    refine g_iadd (q := 39) C dX8_begins_38 rfl ?_
    refine g_bipush (v := 32) (q := 41) C dX8_begins_39 (by decide) rfl ?_
    refine g_iastoreN (j := 2) (q := 42) C dX8_begins_41 rfl (gset_self hs) (by unfold vp_in; decide) (by decide) ?_
    refine g_aload_n (q := 43) C dX8_begins_42 rfl rfl ?_
    refine g_getfield (q := 46) C fX8_22 dX8_begins_43 rfl (gset_other (gset_other hm n_sA_m) n_sA_m) rfl ?_
    refine g_bipush (v := 16) (q := 48) C dX8_begins_46 (by decide) rfl ?_
    refine g_iload_n (q := 49) C dX8_begins_48 rfl rfl ?_
    refine g_imul (q := 50) C dX8_begins_49 rfl ?_
    refine g_iconst (v := 5) (q := 51) C dX8_begins_50 (by decide) rfl ?_
    refine g_iadd (q := 52) C dX8_begins_51 rfl ?_
    refine g_iconst (v := (-1)) (q := 53) C dX8_begins_52 (by decide) rfl ?_
    refine g_iastoreN (j := 5) (q := 54) C dX8_begins_53 rfl (gset_self (gset_self hs)) (by unfold vp_in; decide) (by decide) ?_
    refine g_aload_n (q := 55) C dX8_begins_54 rfl rfl ?_
    refine g_getfield (q := 58) C fX8_22 dX8_begins_55 rfl (gset_other (gset_other (gset_other hm n_sA_m) n_sA_m) n_sA_m) rfl ?_
    refine g_bipush (v := 16) (q := 60) C dX8_begins_58 (by decide) rfl ?_
    refine g_iload_n (q := 61) C dX8_begins_60 rfl rfl ?_
    refine g_imul (q := 62) C dX8_begins_61 rfl ?_
    refine g_bipush (v := 9) (q := 64) C dX8_begins_62 (by decide) rfl ?_
    refine g_iadd (q := 65) C dX8_begins_64 rfl ?_
    refine g_iconst (v := (-1)) (q := 66) C dX8_begins_65 (by decide) rfl ?_
    refine g_iastoreN (j := 9) (q := 67) C dX8_begins_66 rfl (gset_self (gset_self (gset_self hs))) (by unfold vp_in; decide) (by decide) ?_
    refine g_aload_n (q := 68) C dX8_begins_67 rfl rfl ?_
    refine g_getfield (q := 71) C fX8_22 dX8_begins_68 rfl (gset_other (gset_other (gset_other (gset_other hm n_sA_m) n_sA_m) n_sA_m) n_sA_m) rfl ?_
    refine g_bipush (v := 16) (q := 73) C dX8_begins_71 (by decide) rfl ?_
    refine g_iload_n (q := 74) C dX8_begins_73 rfl rfl ?_
    refine g_imul (q := 75) C dX8_begins_74 rfl ?_
    refine g_bipush (v := 11) (q := 77) C dX8_begins_75 (by decide) rfl ?_
    refine g_iadd (q := 78) C dX8_begins_77 rfl ?_
    refine g_iconst (v := (-1)) (q := 79) C dX8_begins_78 (by decide) rfl ?_
    refine g_iastoreN (j := 11) (q := 80) C dX8_begins_79 rfl (gset_self (gset_self (gset_self (gset_self hs)))) (by unfold vp_in; decide) (by decide) ?_
    refine g_aload_n (q := 81) C dX8_begins_80 rfl rfl ?_
    refine g_getfield (q := 84) C fX8_22 dX8_begins_81 rfl (gset_other (gset_other (gset_other (gset_other (gset_other hm n_sA_m) n_sA_m) n_sA_m) n_sA_m) n_sA_m) rfl ?_
    refine g_bipush (v := 16) (q := 86) C dX8_begins_84 (by decide) rfl ?_
    refine g_iload_n (q := 87) C dX8_begins_86 rfl rfl ?_
    refine g_imul (q := 88) C dX8_begins_87 rfl ?_
    refine g_bipush (v := 14) (q := 90) C dX8_begins_88 (by decide) rfl ?_
    refine g_iadd (q := 91) C dX8_begins_90 rfl ?_
    refine g_iconst (v := (-1)) (q := 92) C dX8_begins_91 (by decide) rfl ?_
    refine g_iastoreN (j := 14) (q := 93) C dX8_begins_92 rfl (gset_self (gset_self (gset_self (gset_self (gset_self hs))))) (by unfold vp_in; decide) (by decide) ?_
    refine g_iinc (v := 1) (q := 96) C dX8_begins_93 rfl (by decide) (by simp only [gset]; rfl) rfl ?_
    refine g_goto (q := 24) C dX8_begins_96 (by decide) ?_
    refine g_iload_n (q := 25) C dX8_begins_24 rfl rfl ?_
    refine g_iconst (v := 2) (q := 26) C dX8_begins_25 (by decide) rfl ?_
    refine g_icmp_ge_f (t := 99) (q := 29) C dX8_begins_26 (by decide) rfl (by decide) ?_
    refine g_aload_n (q := 30) C dX8_begins_29 rfl rfl ?_
    refine g_getfield (q := 33) C fX8_22 dX8_begins_30 rfl (gset_other (gset_other (gset_other (gset_other (gset_other (gset_other hm n_sA_m) n_sA_m) n_sA_m) n_sA_m) n_sA_m) n_sA_m) rfl ?_
    refine g_bipush (v := 16) (q := 35) C dX8_begins_33 (by decide) rfl ?_
    refine g_iload_n (q := 36) C dX8_begins_35 rfl rfl ?_
    refine g_imul (q := 37) C dX8_begins_36 rfl ?_
    refine g_iconst (v := 2) (q := 38) C dX8_begins_37 (by decide) rfl ?_
    refine g_iadd (q := 39) C dX8_begins_38 rfl ?_
    refine g_bipush (v := 32) (q := 41) C dX8_begins_39 (by decide) rfl ?_
    refine g_iastoreN (j := 18) (q := 42) C dX8_begins_41 rfl (gset_self (gset_self (gset_self (gset_self (gset_self (gset_self hs)))))) (by unfold vp_in; decide) (by decide) ?_
    refine g_aload_n (q := 43) C dX8_begins_42 rfl rfl ?_
    refine g_getfield (q := 46) C fX8_22 dX8_begins_43 rfl (gset_other (gset_other (gset_other (gset_other (gset_other (gset_other (gset_other hm n_sA_m) n_sA_m) n_sA_m) n_sA_m) n_sA_m) n_sA_m) n_sA_m) rfl ?_
    refine g_bipush (v := 16) (q := 48) C dX8_begins_46 (by decide) rfl ?_
    refine g_iload_n (q := 49) C dX8_begins_48 rfl rfl ?_
    refine g_imul (q := 50) C dX8_begins_49 rfl ?_
    refine g_iconst (v := 5) (q := 51) C dX8_begins_50 (by decide) rfl ?_
    refine g_iadd (q := 52) C dX8_begins_51 rfl ?_
    refine g_iconst (v := (-1)) (q := 53) C dX8_begins_52 (by decide) rfl ?_
    refine g_iastoreN (j := 21) (q := 54) C dX8_begins_53 rfl (gset_self (gset_self (gset_self (gset_self (gset_self (gset_self (gset_self hs))))))) (by unfold vp_in; decide) (by decide) ?_
    refine g_aload_n (q := 55) C dX8_begins_54 rfl rfl ?_
    refine g_getfield (q := 58) C fX8_22 dX8_begins_55 rfl (gset_other (gset_other (gset_other (gset_other (gset_other (gset_other (gset_other (gset_other hm n_sA_m) n_sA_m) n_sA_m) n_sA_m) n_sA_m) n_sA_m) n_sA_m) n_sA_m) rfl ?_
    refine g_bipush (v := 16) (q := 60) C dX8_begins_58 (by decide) rfl ?_
    refine g_iload_n (q := 61) C dX8_begins_60 rfl rfl ?_
    refine g_imul (q := 62) C dX8_begins_61 rfl ?_
    refine g_bipush (v := 9) (q := 64) C dX8_begins_62 (by decide) rfl ?_
    refine g_iadd (q := 65) C dX8_begins_64 rfl ?_
    refine g_iconst (v := (-1)) (q := 66) C dX8_begins_65 (by decide) rfl ?_
    refine g_iastoreN (j := 25) (q := 67) C dX8_begins_66 rfl (gset_self (gset_self (gset_self (gset_self (gset_self (gset_self (gset_self (gset_self hs)))))))) (by unfold vp_in; decide) (by decide) ?_
    refine g_aload_n (q := 68) C dX8_begins_67 rfl rfl ?_
    refine g_getfield (q := 71) C fX8_22 dX8_begins_68 rfl (gset_other (gset_other (gset_other (gset_other (gset_other (gset_other (gset_other (gset_other (gset_other hm n_sA_m) n_sA_m) n_sA_m) n_sA_m) n_sA_m) n_sA_m) n_sA_m) n_sA_m) n_sA_m) rfl ?_
    refine g_bipush (v := 16) (q := 73) C dX8_begins_71 (by decide) rfl ?_
    refine g_iload_n (q := 74) C dX8_begins_73 rfl rfl ?_
    refine g_imul (q := 75) C dX8_begins_74 rfl ?_
    refine g_bipush (v := 11) (q := 77) C dX8_begins_75 (by decide) rfl ?_
    refine g_iadd (q := 78) C dX8_begins_77 rfl ?_
    refine g_iconst (v := (-1)) (q := 79) C dX8_begins_78 (by decide) rfl ?_
    refine g_iastoreN (j := 27) (q := 80) C dX8_begins_79 rfl (gset_self (gset_self (gset_self (gset_self (gset_self (gset_self (gset_self (gset_self (gset_self hs))))))))) (by unfold vp_in; decide) (by decide) ?_
    refine g_aload_n (q := 81) C dX8_begins_80 rfl rfl ?_
    refine g_getfield (q := 84) C fX8_22 dX8_begins_81 rfl (gset_other (gset_other (gset_other (gset_other (gset_other (gset_other (gset_other (gset_other (gset_other (gset_other hm n_sA_m) n_sA_m) n_sA_m) n_sA_m) n_sA_m) n_sA_m) n_sA_m) n_sA_m) n_sA_m) n_sA_m) rfl ?_
    refine g_bipush (v := 16) (q := 86) C dX8_begins_84 (by decide) rfl ?_
    refine g_iload_n (q := 87) C dX8_begins_86 rfl rfl ?_
    refine g_imul (q := 88) C dX8_begins_87 rfl ?_
    refine g_bipush (v := 14) (q := 90) C dX8_begins_88 (by decide) rfl ?_
    refine g_iadd (q := 91) C dX8_begins_90 rfl ?_
    refine g_iconst (v := (-1)) (q := 92) C dX8_begins_91 (by decide) rfl ?_
    refine g_iastoreN (j := 30) (q := 93) C dX8_begins_92 rfl (gset_self (gset_self (gset_self (gset_self (gset_self (gset_self (gset_self (gset_self (gset_self (gset_self hs)))))))))) (by unfold vp_in; decide) (by decide) ?_
    refine g_iinc (v := 2) (q := 96) C dX8_begins_93 rfl (by decide) (by simp only [gset]; rfl) rfl ?_
    refine g_goto (q := 24) C dX8_begins_96 (by decide) ?_
    refine g_iload_n (q := 25) C dX8_begins_24 rfl rfl ?_
    refine g_iconst (v := 2) (q := 26) C dX8_begins_25 (by decide) rfl ?_
    refine g_icmp_ge_t (t := 99) C dX8_begins_26 (by decide) (by decide) ?_
    refine g_aload_n (q := 100) C dX8_begins_99 rfl rfl ?_
    refine g_getfield (q := 103) C fX8_22 dX8_begins_100 rfl (gset_other (gset_other (gset_other (gset_other (gset_other (gset_other (gset_other (gset_other (gset_other (gset_other (gset_other hm n_sA_m) n_sA_m) n_sA_m) n_sA_m) n_sA_m) n_sA_m) n_sA_m) n_sA_m) n_sA_m) n_sA_m) n_sA_m) rfl ?_
    refine g_sipush (v := 418) (q := 106) C dX8_begins_103 (by decide) rfl ?_
    refine g_iconst (v := (-1)) (q := 107) C dX8_begins_106 (by decide) rfl ?_
    refine g_iastoreN (j := 418) (q := 108) C dX8_begins_107 rfl (gset_self (gset_self (gset_self (gset_self (gset_self (gset_self (gset_self (gset_self (gset_self (gset_self (gset_self hs))))))))))) (by unfold vp_in; decide) (by decide) ?_
    refine g_aload_n (q := 109) C dX8_begins_108 rfl rfl ?_
    refine g_getfield (q := 112) C fX8_22 dX8_begins_109 rfl (gset_other (gset_other (gset_other (gset_other (gset_other (gset_other (gset_other (gset_other (gset_other (gset_other (gset_other (gset_other hm n_sA_m) n_sA_m) n_sA_m) n_sA_m) n_sA_m) n_sA_m) n_sA_m) n_sA_m) n_sA_m) n_sA_m) n_sA_m) n_sA_m) rfl ?_
    refine g_sipush (v := 428) (q := 115) C dX8_begins_112 (by decide) rfl ?_
    refine g_iconst (v := 3) (q := 116) C dX8_begins_115 (by decide) rfl ?_
    refine g_iastoreN (j := 428) (q := 117) C dX8_begins_116 rfl (gset_self (gset_self (gset_self (gset_self (gset_self (gset_self (gset_self (gset_self (gset_self (gset_self (gset_self (gset_self hs)))))))))))) (by unfold vp_in; decide) (by decide) ?_
    refine g_aload_n (q := 118) C dX8_begins_117 rfl rfl ?_
    refine g_iconst (v := 0) (q := 119) C dX8_begins_118 (by decide) rfl ?_
    refine g_putfield (q := 122) C fX8_69 dX8_begins_119 rfl (gset_other (gset_other (gset_other (gset_other (gset_other (gset_other (gset_other (gset_other (gset_other (gset_other (gset_other (gset_other (gset_other hm n_sA_m) n_sA_m) n_sA_m) n_sA_m) n_sA_m) n_sA_m) n_sA_m) n_sA_m) n_sA_m) n_sA_m) n_sA_m) n_sA_m) n_sA_m) (Nat.le_of_ble_eq_true rfl) (Or.inl rfl) rfl rfl (by intro z h; cases h) ?_
    refine g_aload_n (q := 123) C dX8_begins_122 rfl rfl ?_
    refine g_iconst (v := 0) (q := 124) C dX8_begins_123 (by decide) rfl ?_
    refine g_putfield (q := 127) C fX8_72 dX8_begins_124 rfl (gset_self (gset_other (gset_other (gset_other (gset_other (gset_other (gset_other (gset_other (gset_other (gset_other (gset_other (gset_other (gset_other (gset_other hm n_sA_m) n_sA_m) n_sA_m) n_sA_m) n_sA_m) n_sA_m) n_sA_m) n_sA_m) n_sA_m) n_sA_m) n_sA_m) n_sA_m) n_sA_m)) (Nat.le_of_ble_eq_true rfl) (Or.inl rfl) rfl rfl (by intro z h; cases h) ?_
    refine E.2.1 _ _ _ _ _ dX8_begins_127 rfl (Nat.le_of_ble_eq_true rfl) (Nat.le_of_ble_eq_true rfl) ⟨rfl, (upd (upd (upd (upd (upd (upd (upd (upd (upd (upd (upd (upd f 2 32) 5 (-1)) 9 (-1)) 11 (-1)) 14 (-1)) 18 32) 21 (-1)) 25 (-1)) 27 (-1)) 30 (-1)) 418 (-1)) 428 3), fun j hj => ?_, ?_⟩
    rotate_left 1
    · simp only [List.set_set]
      rfl
    · simp only [gS0, upd]
      rw [hf j hj]
  have L1 : ∀ (d k : Nat) (f : Nat → Int32), k + d = 772 → (∀ j, j < k → f j = 0) → gG X 2 [some (.ref m), some (.int (nI k))] [] (hp.set sA (.inl (772, f))) 0 0 := by
    intro d
    induction d with
    | zero =>
      intro k f hk hf
      have hk2 : k = 772 := by omega
      subst hk2
      refine g_iload_n (q := 3) C dX8_begins_2 rfl rfl ?_
      refine g_sipush (v := 772) (q := 6) C dX8_begins_3 (by decide) rfl ?_
      refine g_icmp_ge_t (t := 22) C dX8_begins_6 (by decide) (by decide) ?_
      exact L2 f hf
    | succ d ih =>
      intro k f hk hf
      refine g_iload_n (q := 3) C dX8_begins_2 rfl rfl ?_
      refine g_sipush (v := 772) (q := 6) C dX8_begins_3 (by decide) rfl ?_
      refine g_icmp_ge_f (t := 22) (q := 9) C dX8_begins_6 (by decide) rfl (by show ¬ nI 772 ≤ nI k; exact nI_ge (by omega) (by omega)) ?_
      refine g_aload_n (q := 10) C dX8_begins_9 rfl rfl ?_
      refine g_getfield (q := 13) C fX8_22 dX8_begins_10 rfl (gset_other hm n_sA_m) rfl ?_
      refine g_iload_n (q := 14) C dX8_begins_13 rfl rfl ?_
      refine g_iconst (v := 0) (q := 15) C dX8_begins_14 (by decide) rfl ?_
      refine g_iastoreN (j := k) (q := 16) C dX8_begins_15 rfl (gset_self hs) (vp_inN (nI_clamp (by omega)) (nI_pos (by omega)) (by omega)) (nI_clamp (by omega)) ?_
      refine g_iinc (v := nI (k + 1)) (q := 19) C dX8_begins_16 rfl (nI_1 k) (by simp only [gset]; rfl) rfl ?_
      refine g_goto (q := 2) C dX8_begins_19 (by decide) ?_
      simp only [List.set_set]
      exact ih (k + 1) _ (by omega) (fun j hj => by unfold upd; split; rfl; exact hf j (by omega))
  refine g_iconst (v := 0) (q := 1) C dX8_begins_0 (by decide) rfl ?_
  refine g_istore_n (q := 2) C dX8_begins_1 (Nat.le_of_ble_eq_true rfl) (by simp only [gset]; rfl) rfl ?_
  have h0 := L1 772 0 f0 rfl (fun j hj => absurd hj (Nat.not_lt_zero j))
  rw [gset_id hs] at h0
  exact h0
  
theorem dX8_init_0 : decode cX8_init 0 = .ok (.aload_n 0, 1) := by decide +kernel
theorem dX8_init_1 : decode cX8_init 1 = .ok (.invokespecial 1, 3) := by decide +kernel
theorem dX8_init_4 : decode cX8_init 4 = .ok (.aload_n 0, 1) := by decide +kernel
theorem dX8_init_5 : decode cX8_init 5 = .ok (.bipush 96, 2) := by decide +kernel
theorem dX8_init_7 : decode cX8_init 7 = .ok (.newarray .int, 2) := by decide +kernel
theorem dX8_init_9 : decode cX8_init 9 = .ok (.putfield 7, 3) := by decide +kernel
theorem dX8_init_12 : decode cX8_init 12 = .ok (.aload_n 0, 1) := by decide +kernel
theorem dX8_init_13 : decode cX8_init 13 = .ok (.bipush 9, 2) := by decide +kernel
theorem dX8_init_15 : decode cX8_init 15 = .ok (.newarray .int, 2) := by decide +kernel
theorem dX8_init_17 : decode cX8_init 17 = .ok (.putfield 13, 3) := by decide +kernel
theorem dX8_init_20 : decode cX8_init 20 = .ok (.aload_n 0, 1) := by decide +kernel
theorem dX8_init_21 : decode cX8_init 21 = .ok (.bipush 9, 2) := by decide +kernel
theorem dX8_init_23 : decode cX8_init 23 = .ok (.newarray .int, 2) := by decide +kernel
theorem dX8_init_25 : decode cX8_init 25 = .ok (.putfield 16, 3) := by decide +kernel
theorem dX8_init_28 : decode cX8_init 28 = .ok (.aload_n 0, 1) := by decide +kernel
theorem dX8_init_29 : decode cX8_init 29 = .ok (.bipush 15, 2) := by decide +kernel
theorem dX8_init_31 : decode cX8_init 31 = .ok (.newarray .int, 2) := by decide +kernel
theorem dX8_init_33 : decode cX8_init 33 = .ok (.putfield 19, 3) := by decide +kernel
theorem dX8_init_36 : decode cX8_init 36 = .ok (.aload_n 0, 1) := by decide +kernel
theorem dX8_init_37 : decode cX8_init 37 = .ok (.sipush 772, 3) := by decide +kernel
theorem dX8_init_40 : decode cX8_init 40 = .ok (.newarray .int, 2) := by decide +kernel
theorem dX8_init_42 : decode cX8_init 42 = .ok (.putfield 22, 3) := by decide +kernel
theorem dX8_init_45 : decode cX8_init 45 = .ok (.aload_n 0, 1) := by decide +kernel
theorem dX8_init_46 : decode cX8_init 46 = .ok (.sipush 772, 3) := by decide +kernel
theorem dX8_init_49 : decode cX8_init 49 = .ok (.newarray .int, 2) := by decide +kernel
theorem dX8_init_51 : decode cX8_init 51 = .ok (.putfield 25, 3) := by decide +kernel
theorem dX8_init_54 : decode cX8_init 54 = .ok (.aload_n 0, 1) := by decide +kernel
theorem dX8_init_55 : decode cX8_init 55 = .ok (.iconst 1, 1) := by decide +kernel
theorem dX8_init_56 : decode cX8_init 56 = .ok (.putfield 28, 3) := by decide +kernel
theorem dX8_init_59 : decode cX8_init 59 = .ok (.aload_n 0, 1) := by decide +kernel
theorem dX8_init_60 : decode cX8_init 60 = .ok (.sipush 180, 3) := by decide +kernel
theorem dX8_init_63 : decode cX8_init 63 = .ok (.newarray .int, 2) := by decide +kernel
theorem dX8_init_65 : decode cX8_init 65 = .ok (.putfield 32, 3) := by decide +kernel
theorem dX8_init_68 : decode cX8_init 68 = .ok (.aload_n 0, 1) := by decide +kernel
theorem dX8_init_69 : decode cX8_init 69 = .ok (.sipush 7740, 3) := by decide +kernel
theorem dX8_init_72 : decode cX8_init 72 = .ok (.newarray .int, 2) := by decide +kernel
theorem dX8_init_74 : decode cX8_init 74 = .ok (.putfield 35, 3) := by decide +kernel
theorem dX8_init_77 : decode cX8_init 77 = .ok (.aload_n 0, 1) := by decide +kernel
theorem dX8_init_78 : decode cX8_init 78 = .ok (.sipush 8193, 3) := by decide +kernel
theorem dX8_init_81 : decode cX8_init 81 = .ok (.newarray .int, 2) := by decide +kernel
theorem dX8_init_83 : decode cX8_init 83 = .ok (.putfield 38, 3) := by decide +kernel
theorem dX8_init_86 : decode cX8_init 86 = .ok (.aload_n 0, 1) := by decide +kernel
theorem dX8_init_87 : decode cX8_init 87 = .ok (.sipush 8192, 3) := by decide +kernel
theorem dX8_init_90 : decode cX8_init 90 = .ok (.newarray .int, 2) := by decide +kernel
theorem dX8_init_92 : decode cX8_init 92 = .ok (.putfield 41, 3) := by decide +kernel
theorem dX8_init_95 : decode cX8_init 95 = .ok (.aload_n 0, 1) := by decide +kernel
theorem dX8_init_96 : decode cX8_init 96 = .ok (.sipush 8192, 3) := by decide +kernel
theorem dX8_init_99 : decode cX8_init 99 = .ok (.newarray .int, 2) := by decide +kernel
theorem dX8_init_101 : decode cX8_init 101 = .ok (.putfield 44, 3) := by decide +kernel
theorem dX8_init_104 : decode cX8_init 104 = .ok (.aload_n 0, 1) := by decide +kernel
theorem dX8_init_105 : decode cX8_init 105 = .ok (.ldc 47, 2) := by decide +kernel
theorem dX8_init_107 : decode cX8_init 107 = .ok (.newarray .int, 2) := by decide +kernel
theorem dX8_init_109 : decode cX8_init 109 = .ok (.putfield 48, 3) := by decide +kernel
theorem dX8_init_112 : decode cX8_init 112 = .ok (.aload_n 0, 1) := by decide +kernel
theorem dX8_init_113 : decode cX8_init 113 = .ok (.sipush 260, 3) := by decide +kernel
theorem dX8_init_116 : decode cX8_init 116 = .ok (.newarray .int, 2) := by decide +kernel
theorem dX8_init_118 : decode cX8_init 118 = .ok (.putfield 51, 3) := by decide +kernel
theorem dX8_init_121 : decode cX8_init 121 = .ok (.aload_n 0, 1) := by decide +kernel
theorem dX8_init_122 : decode cX8_init 122 = .ok (.sipush 260, 3) := by decide +kernel
theorem dX8_init_125 : decode cX8_init 125 = .ok (.newarray .int, 2) := by decide +kernel
theorem dX8_init_127 : decode cX8_init 127 = .ok (.putfield 54, 3) := by decide +kernel
theorem dX8_init_130 : decode cX8_init 130 = .ok (.aload_n 0, 1) := by decide +kernel
theorem dX8_init_131 : decode cX8_init 131 = .ok (.sipush 256, 3) := by decide +kernel
theorem dX8_init_134 : decode cX8_init 134 = .ok (.newarray .int, 2) := by decide +kernel
theorem dX8_init_136 : decode cX8_init 136 = .ok (.putfield 57, 3) := by decide +kernel
theorem dX8_init_139 : decode cX8_init 139 = .ok (.aload_n 0, 1) := by decide +kernel
theorem dX8_init_140 : decode cX8_init 140 = .ok (.bipush 64, 2) := by decide +kernel
theorem dX8_init_142 : decode cX8_init 142 = .ok (.newarray .int, 2) := by decide +kernel
theorem dX8_init_144 : decode cX8_init 144 = .ok (.putfield 60, 3) := by decide +kernel
theorem dX8_init_147 : decode cX8_init 147 = .ok (.aload_n 0, 1) := by decide +kernel
theorem dX8_init_148 : decode cX8_init 148 = .ok (.invokevirtual 63, 3) := by decide +kernel
theorem dX8_init_151 : decode cX8_init 151 = .ok (.return_, 1) := by decide +kernel
set_option maxRecDepth 100000 in
set_option maxHeartbeats 4000000 in
theorem c_X8_init {hp : List gA} {n : Nat} (hn : hp.length = n) : gM yX8_init cX8_init 1 (none) 1 21 [.ref (n + 0)] (hp ++ [.inr (.inr (8, [.null, .int 0, .int 0, .int 0, .null, .null, .null, .null, .null, .int 0, .null, .null, .int 0, .int 0, .null, .null, .null, .null, .int 0, .int 0, .int 0, .int 0, .int 0, .int 0, .int 0, .null, .int 0, .null, .int 0, .int 0, .int 0, .int 0, .null, .int 0, .int 0, .int 0, .int 0, .null, .int 0]))]) (16) (166082) (fun v h => v = none ∧ ∃ f9, (∀ j, j < 772 → f9 j = gS0 j) ∧ h = hp ++ [.inr (.inr (8, [.ref (n + 1), .int 0, .int 0, .int 0, .ref (n + 2), .ref (n + 3), .ref (n + 4), .ref (n + 5), .ref (n + 6), .int 1, .ref (n + 7), .ref (n + 8), .int 0, .int 0, .ref (n + 9), .ref (n + 10), .ref (n + 11), .ref (n + 12), .int 0, .int 0, .int 0, .int 0, .int 0, .int 0, .int 0, .ref (n + 13), .int 0, .ref (n + 14), .int 0, .int 0, .int 0, .int 0, .ref (n + 15), .int 0, .int 0, .int 0, .int 0, .ref (n + 16), .int 0])), .inl (96, fun _ => 0), .inl (9, fun _ => 0), .inl (9, fun _ => 0), .inl (15, fun _ => 0), .inl (772, f9), .inl (772, fun _ => 0), .inl (180, fun _ => 0), .inl (7740, fun _ => 0), .inl (8193, fun _ => 0), .inl (8192, fun _ => 0), .inl (8192, fun _ => 0), .inl (131072, fun _ => 0), .inl (260, fun _ => 0), .inl (260, fun _ => 0), .inl (256, fun _ => 0), .inl (64, fun _ => 0)]) := by
  refine gM_of (ls0 := [some (.ref (n + 0))]) (by decide +kernel) (Nat.le_of_ble_eq_true rfl) rfl fun X C E => ?_
  refine g_aload_n (q := 1) C dX8_init_0 rfl rfl ?_
  refine g_objInit (q := 4) C t_1075 t_123 t_124 dX8_init_1 rfl rfl (Nat.le_of_ble_eq_true rfl) (Nat.le_of_ble_eq_true rfl) ?_
  refine g_aload_n (q := 5) C dX8_init_4 rfl rfl ?_
  refine g_bipush (v := 96) (q := 7) C dX8_init_5 (by decide) rfl ?_
  refine g_newarray (q := 9) (k := n + 1) (N := 96) C t_144 dX8_init_7 rfl (by rw [List.length_append, hn]; rfl) (by decide) (by decide +kernel) (by decide) (Nat.le_of_ble_eq_true rfl) (Nat.le_of_ble_eq_true rfl) ?_
  refine g_heap (hp2 := hp ++ [.inr (.inr (8, [.null, .int 0, .int 0, .int 0, .null, .null, .null, .null, .null, .int 0, .null, .null, .int 0, .int 0, .null, .null, .null, .null, .int 0, .int 0, .int 0, .int 0, .int 0, .int 0, .int 0, .null, .int 0, .null, .int 0, .int 0, .int 0, .int 0, .null, .int 0, .int 0, .int 0, .int 0, .null, .int 0])), .inl (96, fun _ => 0)]) (by simp only [List.append_assoc, List.cons_append, List.nil_append]) ?_
  refine g_putE (q := 12) (hp' := hp ++ [.inr (.inr (8, [.ref (n + 1), .int 0, .int 0, .int 0, .null, .null, .null, .null, .null, .int 0, .null, .null, .int 0, .int 0, .null, .null, .null, .null, .int 0, .int 0, .int 0, .int 0, .int 0, .int 0, .int 0, .null, .int 0, .null, .int 0, .int 0, .int 0, .int 0, .null, .int 0, .int 0, .int 0, .int 0, .null, .int 0])), .inl (96, fun _ => 0)]) C fX8_7 dX8_init_9 rfl (gapp_new hn rfl) (Nat.le_of_ble_eq_true rfl) (Or.inr rfl) rfl rfl (by intro z h; cases h) rfl (gapp_set hn) ?_
  refine g_aload_n (q := 13) C dX8_init_12 rfl rfl ?_
  refine g_bipush (v := 9) (q := 15) C dX8_init_13 (by decide) rfl ?_
  refine g_newarray (q := 17) (k := n + 2) (N := 9) C t_144 dX8_init_15 rfl (by rw [List.length_append, hn]; rfl) (by decide) (by decide +kernel) (by decide) (Nat.le_of_ble_eq_true rfl) (Nat.le_of_ble_eq_true rfl) ?_
  refine g_heap (hp2 := hp ++ [.inr (.inr (8, [.ref (n + 1), .int 0, .int 0, .int 0, .null, .null, .null, .null, .null, .int 0, .null, .null, .int 0, .int 0, .null, .null, .null, .null, .int 0, .int 0, .int 0, .int 0, .int 0, .int 0, .int 0, .null, .int 0, .null, .int 0, .int 0, .int 0, .int 0, .null, .int 0, .int 0, .int 0, .int 0, .null, .int 0])), .inl (96, fun _ => 0), .inl (9, fun _ => 0)]) (by simp only [List.append_assoc, List.cons_append, List.nil_append]) ?_
  refine g_putE (q := 20) (hp' := hp ++ [.inr (.inr (8, [.ref (n + 1), .int 0, .int 0, .int 0, .ref (n + 2), .null, .null, .null, .null, .int 0, .null, .null, .int 0, .int 0, .null, .null, .null, .null, .int 0, .int 0, .int 0, .int 0, .int 0, .int 0, .int 0, .null, .int 0, .null, .int 0, .int 0, .int 0, .int 0, .null, .int 0, .int 0, .int 0, .int 0, .null, .int 0])), .inl (96, fun _ => 0), .inl (9, fun _ => 0)]) C fX8_13 dX8_init_17 rfl (gapp_new hn rfl) (Nat.le_of_ble_eq_true rfl) (Or.inr rfl) rfl rfl (by intro z h; cases h) rfl (gapp_set hn) ?_
  refine g_aload_n (q := 21) C dX8_init_20 rfl rfl ?_
  refine g_bipush (v := 9) (q := 23) C dX8_init_21 (by decide) rfl ?_
  refine g_newarray (q := 25) (k := n + 3) (N := 9) C t_144 dX8_init_23 rfl (by rw [List.length_append, hn]; rfl) (by decide) (by decide +kernel) (by decide) (Nat.le_of_ble_eq_true rfl) (Nat.le_of_ble_eq_true rfl) ?_
  refine g_heap (hp2 := hp ++ [.inr (.inr (8, [.ref (n + 1), .int 0, .int 0, .int 0, .ref (n + 2), .null, .null, .null, .null, .int 0, .null, .null, .int 0, .int 0, .null, .null, .null, .null, .int 0, .int 0, .int 0, .int 0, .int 0, .int 0, .int 0, .null, .int 0, .null, .int 0, .int 0, .int 0, .int 0, .null, .int 0, .int 0, .int 0, .int 0, .null, .int 0])), .inl (96, fun _ => 0), .inl (9, fun _ => 0), .inl (9, fun _ => 0)]) (by simp only [List.append_assoc, List.cons_append, List.nil_append]) ?_
  refine g_putE (q := 28) (hp' := hp ++ [.inr (.inr (8, [.ref (n + 1), .int 0, .int 0, .int 0, .ref (n + 2), .ref (n + 3), .null, .null, .null, .int 0, .null, .null, .int 0, .int 0, .null, .null, .null, .null, .int 0, .int 0, .int 0, .int 0, .int 0, .int 0, .int 0, .null, .int 0, .null, .int 0, .int 0, .int 0, .int 0, .null, .int 0, .int 0, .int 0, .int 0, .null, .int 0])), .inl (96, fun _ => 0), .inl (9, fun _ => 0), .inl (9, fun _ => 0)]) C fX8_16 dX8_init_25 rfl (gapp_new hn rfl) (Nat.le_of_ble_eq_true rfl) (Or.inr rfl) rfl rfl (by intro z h; cases h) rfl (gapp_set hn) ?_
  refine g_aload_n (q := 29) C dX8_init_28 rfl rfl ?_
  refine g_bipush (v := 15) (q := 31) C dX8_init_29 (by decide) rfl ?_
  refine g_newarray (q := 33) (k := n + 4) (N := 15) C t_144 dX8_init_31 rfl (by rw [List.length_append, hn]; rfl) (by decide) (by decide +kernel) (by decide) (Nat.le_of_ble_eq_true rfl) (Nat.le_of_ble_eq_true rfl) ?_
  refine g_heap (hp2 := hp ++ [.inr (.inr (8, [.ref (n + 1), .int 0, .int 0, .int 0, .ref (n + 2), .ref (n + 3), .null, .null, .null, .int 0, .null, .null, .int 0, .int 0, .null, .null, .null, .null, .int 0, .int 0, .int 0, .int 0, .int 0, .int 0, .int 0, .null, .int 0, .null, .int 0, .int 0, .int 0, .int 0, .null, .int 0, .int 0, .int 0, .int 0, .null, .int 0])), .inl (96, fun _ => 0), .inl (9, fun _ => 0), .inl (9, fun _ => 0), .inl (15, fun _ => 0)]) (by simp only [List.append_assoc, List.cons_append, List.nil_append]) ?_
  refine g_putE (q := 36) (hp' := hp ++ [.inr (.inr (8, [.ref (n + 1), .int 0, .int 0, .int 0, .ref (n + 2), .ref (n + 3), .ref (n + 4), .null, .null, .int 0, .null, .null, .int 0, .int 0, .null, .null, .null, .null, .int 0, .int 0, .int 0, .int 0, .int 0, .int 0, .int 0, .null, .int 0, .null, .int 0, .int 0, .int 0, .int 0, .null, .int 0, .int 0, .int 0, .int 0, .null, .int 0])), .inl (96, fun _ => 0), .inl (9, fun _ => 0), .inl (9, fun _ => 0), .inl (15, fun _ => 0)]) C fX8_19 dX8_init_33 rfl (gapp_new hn rfl) (Nat.le_of_ble_eq_true rfl) (Or.inr rfl) rfl rfl (by intro z h; cases h) rfl (gapp_set hn) ?_
  refine g_aload_n (q := 37) C dX8_init_36 rfl rfl ?_
  refine g_sipush (v := 772) (q := 40) C dX8_init_37 (by decide) rfl ?_
  refine g_newarray (q := 42) (k := n + 5) (N := 772) C t_144 dX8_init_40 rfl (by rw [List.length_append, hn]; rfl) (by decide) (by decide +kernel) (by decide) (Nat.le_of_ble_eq_true rfl) (Nat.le_of_ble_eq_true rfl) ?_
  refine g_heap (hp2 := hp ++ [.inr (.inr (8, [.ref (n + 1), .int 0, .int 0, .int 0, .ref (n + 2), .ref (n + 3), .ref (n + 4), .null, .null, .int 0, .null, .null, .int 0, .int 0, .null, .null, .null, .null, .int 0, .int 0, .int 0, .int 0, .int 0, .int 0, .int 0, .null, .int 0, .null, .int 0, .int 0, .int 0, .int 0, .null, .int 0, .int 0, .int 0, .int 0, .null, .int 0])), .inl (96, fun _ => 0), .inl (9, fun _ => 0), .inl (9, fun _ => 0), .inl (15, fun _ => 0), .inl (772, fun _ => 0)]) (by simp only [List.append_assoc, List.cons_append, List.nil_append]) ?_
  refine g_putE (q := 45) (hp' := hp ++ [.inr (.inr (8, [.ref (n + 1), .int 0, .int 0, .int 0, .ref (n + 2), .ref (n + 3), .ref (n + 4), .ref (n + 5), .null, .int 0, .null, .null, .int 0, .int 0, .null, .null, .null, .null, .int 0, .int 0, .int 0, .int 0, .int 0, .int 0, .int 0, .null, .int 0, .null, .int 0, .int 0, .int 0, .int 0, .null, .int 0, .int 0, .int 0, .int 0, .null, .int 0])), .inl (96, fun _ => 0), .inl (9, fun _ => 0), .inl (9, fun _ => 0), .inl (15, fun _ => 0), .inl (772, fun _ => 0)]) C fX8_22 dX8_init_42 rfl (gapp_new hn rfl) (Nat.le_of_ble_eq_true rfl) (Or.inr rfl) rfl rfl (by intro z h; cases h) rfl (gapp_set hn) ?_
  refine g_aload_n (q := 46) C dX8_init_45 rfl rfl ?_
  refine g_sipush (v := 772) (q := 49) C dX8_init_46 (by decide) rfl ?_
  refine g_newarray (q := 51) (k := n + 6) (N := 772) C t_144 dX8_init_49 rfl (by rw [List.length_append, hn]; rfl) (by decide) (by decide +kernel) (by decide) (Nat.le_of_ble_eq_true rfl) (Nat.le_of_ble_eq_true rfl) ?_
  refine g_heap (hp2 := hp ++ [.inr (.inr (8, [.ref (n + 1), .int 0, .int 0, .int 0, .ref (n + 2), .ref (n + 3), .ref (n + 4), .ref (n + 5), .null, .int 0, .null, .null, .int 0, .int 0, .null, .null, .null, .null, .int 0, .int 0, .int 0, .int 0, .int 0, .int 0, .int 0, .null, .int 0, .null, .int 0, .int 0, .int 0, .int 0, .null, .int 0, .int 0, .int 0, .int 0, .null, .int 0])), .inl (96, fun _ => 0), .inl (9, fun _ => 0), .inl (9, fun _ => 0), .inl (15, fun _ => 0), .inl (772, fun _ => 0), .inl (772, fun _ => 0)]) (by simp only [List.append_assoc, List.cons_append, List.nil_append]) ?_
  refine g_putE (q := 54) (hp' := hp ++ [.inr (.inr (8, [.ref (n + 1), .int 0, .int 0, .int 0, .ref (n + 2), .ref (n + 3), .ref (n + 4), .ref (n + 5), .ref (n + 6), .int 0, .null, .null, .int 0, .int 0, .null, .null, .null, .null, .int 0, .int 0, .int 0, .int 0, .int 0, .int 0, .int 0, .null, .int 0, .null, .int 0, .int 0, .int 0, .int 0, .null, .int 0, .int 0, .int 0, .int 0, .null, .int 0])), .inl (96, fun _ => 0), .inl (9, fun _ => 0), .inl (9, fun _ => 0), .inl (15, fun _ => 0), .inl (772, fun _ => 0), .inl (772, fun _ => 0)]) C fX8_25 dX8_init_51 rfl (gapp_new hn rfl) (Nat.le_of_ble_eq_true rfl) (Or.inr rfl) rfl rfl (by intro z h; cases h) rfl (gapp_set hn) ?_
  refine g_aload_n (q := 55) C dX8_init_54 rfl rfl ?_
  refine g_iconst (v := 1) (q := 56) C dX8_init_55 (by decide) rfl ?_
  refine g_putE (q := 59) (hp' := hp ++ [.inr (.inr (8, [.ref (n + 1), .int 0, .int 0, .int 0, .ref (n + 2), .ref (n + 3), .ref (n + 4), .ref (n + 5), .ref (n + 6), .int 1, .null, .null, .int 0, .int 0, .null, .null, .null, .null, .int 0, .int 0, .int 0, .int 0, .int 0, .int 0, .int 0, .null, .int 0, .null, .int 0, .int 0, .int 0, .int 0, .null, .int 0, .int 0, .int 0, .int 0, .null, .int 0])), .inl (96, fun _ => 0), .inl (9, fun _ => 0), .inl (9, fun _ => 0), .inl (15, fun _ => 0), .inl (772, fun _ => 0), .inl (772, fun _ => 0)]) C fX8_28 dX8_init_56 rfl (gapp_new hn rfl) (Nat.le_of_ble_eq_true rfl) (Or.inl rfl) rfl rfl (by intro z h; cases h) rfl (gapp_set hn) ?_
  refine g_aload_n (q := 60) C dX8_init_59 rfl rfl ?_
  refine g_sipush (v := 180) (q := 63) C dX8_init_60 (by decide) rfl ?_
  refine g_newarray (q := 65) (k := n + 7) (N := 180) C t_144 dX8_init_63 rfl (by rw [List.length_append, hn]; rfl) (by decide) (by decide +kernel) (by decide) (Nat.le_of_ble_eq_true rfl) (Nat.le_of_ble_eq_true rfl) ?_
  refine g_heap (hp2 := hp ++ [.inr (.inr (8, [.ref (n + 1), .int 0, .int 0, .int 0, .ref (n + 2), .ref (n + 3), .ref (n + 4), .ref (n + 5), .ref (n + 6), .int 1, .null, .null, .int 0, .int 0, .null, .null, .null, .null, .int 0, .int 0, .int 0, .int 0, .int 0, .int 0, .int 0, .null, .int 0, .null, .int 0, .int 0, .int 0, .int 0, .null, .int 0, .int 0, .int 0, .int 0, .null, .int 0])), .inl (96, fun _ => 0), .inl (9, fun _ => 0), .inl (9, fun _ => 0), .inl (15, fun _ => 0), .inl (772, fun _ => 0), .inl (772, fun _ => 0), .inl (180, fun _ => 0)]) (by simp only [List.append_assoc, List.cons_append, List.nil_append]) ?_
  refine g_putE (q := 68) (hp' := hp ++ [.inr (.inr (8, [.ref (n + 1), .int 0, .int 0, .int 0, .ref (n + 2), .ref (n + 3), .ref (n + 4), .ref (n + 5), .ref (n + 6), .int 1, .ref (n + 7), .null, .int 0, .int 0, .null, .null, .null, .null, .int 0, .int 0, .int 0, .int 0, .int 0, .int 0, .int 0, .null, .int 0, .null, .int 0, .int 0, .int 0, .int 0, .null, .int 0, .int 0, .int 0, .int 0, .null, .int 0])), .inl (96, fun _ => 0), .inl (9, fun _ => 0), .inl (9, fun _ => 0), .inl (15, fun _ => 0), .inl (772, fun _ => 0), .inl (772, fun _ => 0), .inl (180, fun _ => 0)]) C fX8_32 dX8_init_65 rfl (gapp_new hn rfl) (Nat.le_of_ble_eq_true rfl) (Or.inr rfl) rfl rfl (by intro z h; cases h) rfl (gapp_set hn) ?_
  refine g_aload_n (q := 69) C dX8_init_68 rfl rfl ?_
  refine g_sipush (v := 7740) (q := 72) C dX8_init_69 (by decide) rfl ?_
  refine g_newarray (q := 74) (k := n + 8) (N := 7740) C t_144 dX8_init_72 rfl (by rw [List.length_append, hn]; rfl) (by decide) (by decide +kernel) (by decide) (Nat.le_of_ble_eq_true rfl) (Nat.le_of_ble_eq_true rfl) ?_
  refine g_heap (hp2 := hp ++ [.inr (.inr (8, [.ref (n + 1), .int 0, .int 0, .int 0, .ref (n + 2), .ref (n + 3), .ref (n + 4), .ref (n + 5), .ref (n + 6), .int 1, .ref (n + 7), .null, .int 0, .int 0, .null, .null, .null, .null, .int 0, .int 0, .int 0, .int 0, .int 0, .int 0, .int 0, .null, .int 0, .null, .int 0, .int 0, .int 0, .int 0, .null, .int 0, .int 0, .int 0, .int 0, .null, .int 0])), .inl (96, fun _ => 0), .inl (9, fun _ => 0), .inl (9, fun _ => 0), .inl (15, fun _ => 0), .inl (772, fun _ => 0), .inl (772, fun _ => 0), .inl (180, fun _ => 0), .inl (7740, fun _ => 0)]) (by simp only [List.append_assoc, List.cons_append, List.nil_append]) ?_
  refine g_putE (q := 77) (hp' := hp ++ [.inr (.inr (8, [.ref (n + 1), .int 0, .int 0, .int 0, .ref (n + 2), .ref (n + 3), .ref (n + 4), .ref (n + 5), .ref (n + 6), .int 1, .ref (n + 7), .ref (n + 8), .int 0, .int 0, .null, .null, .null, .null, .int 0, .int 0, .int 0, .int 0, .int 0, .int 0, .int 0, .null, .int 0, .null, .int 0, .int 0, .int 0, .int 0, .null, .int 0, .int 0, .int 0, .int 0, .null, .int 0])), .inl (96, fun _ => 0), .inl (9, fun _ => 0), .inl (9, fun _ => 0), .inl (15, fun _ => 0), .inl (772, fun _ => 0), .inl (772, fun _ => 0), .inl (180, fun _ => 0), .inl (7740, fun _ => 0)]) C fX8_35 dX8_init_74 rfl (gapp_new hn rfl) (Nat.le_of_ble_eq_true rfl) (Or.inr rfl) rfl rfl (by intro z h; cases h) rfl (gapp_set hn) ?_
  refine g_aload_n (q := 78) C dX8_init_77 rfl rfl ?_
  refine g_sipush (v := 8193) (q := 81) C dX8_init_78 (by decide) rfl ?_
  refine g_newarray (q := 83) (k := n + 9) (N := 8193) C t_144 dX8_init_81 rfl (by rw [List.length_append, hn]; rfl) (by decide) (by decide +kernel) (by decide) (Nat.le_of_ble_eq_true rfl) (Nat.le_of_ble_eq_true rfl) ?_
  refine g_heap (hp2 := hp ++ [.inr (.inr (8, [.ref (n + 1), .int 0, .int 0, .int 0, .ref (n + 2), .ref (n + 3), .ref (n + 4), .ref (n + 5), .ref (n + 6), .int 1, .ref (n + 7), .ref (n + 8), .int 0, .int 0, .null, .null, .null, .null, .int 0, .int 0, .int 0, .int 0, .int 0, .int 0, .int 0, .null, .int 0, .null, .int 0, .int 0, .int 0, .int 0, .null, .int 0, .int 0, .int 0, .int 0, .null, .int 0])), .inl (96, fun _ => 0), .inl (9, fun _ => 0), .inl (9, fun _ => 0), .inl (15, fun _ => 0), .inl (772, fun _ => 0), .inl (772, fun _ => 0), .inl (180, fun _ => 0), .inl (7740, fun _ => 0), .inl (8193, fun _ => 0)]) (by simp only [List.append_assoc, List.cons_append, List.nil_append]) ?_
  refine g_putE (q := 86) (hp' := hp ++ [.inr (.inr (8, [.ref (n + 1), .int 0, .int 0, .int 0, .ref (n + 2), .ref (n + 3), .ref (n + 4), .ref (n + 5), .ref (n + 6), .int 1, .ref (n + 7), .ref (n + 8), .int 0, .int 0, .ref (n + 9), .null, .null, .null, .int 0, .int 0, .int 0, .int 0, .int 0, .int 0, .int 0, .null, .int 0, .null, .int 0, .int 0, .int 0, .int 0, .null, .int 0, .int 0, .int 0, .int 0, .null, .int 0])), .inl (96, fun _ => 0), .inl (9, fun _ => 0), .inl (9, fun _ => 0), .inl (15, fun _ => 0), .inl (772, fun _ => 0), .inl (772, fun _ => 0), .inl (180, fun _ => 0), .inl (7740, fun _ => 0), .inl (8193, fun _ => 0)]) C fX8_38 dX8_init_83 rfl (gapp_new hn rfl) (Nat.le_of_ble_eq_true rfl) (Or.inr rfl) rfl rfl (by intro z h; cases h) rfl (gapp_set hn) ?_
  refine g_aload_n (q := 87) C dX8_init_86 rfl rfl ?_
  refine g_sipush (v := 8192) (q := 90) C dX8_init_87 (by decide) rfl ?_
  refine g_newarray (q := 92) (k := n + 10) (N := 8192) C t_144 dX8_init_90 rfl (by rw [List.length_append, hn]; rfl) (by decide) (by decide +kernel) (by decide) (Nat.le_of_ble_eq_true rfl) (Nat.le_of_ble_eq_true rfl) ?_
  refine g_heap (hp2 := hp ++ [.inr (.inr (8, [.ref (n + 1), .int 0, .int 0, .int 0, .ref (n + 2), .ref (n + 3), .ref (n + 4), .ref (n + 5), .ref (n + 6), .int 1, .ref (n + 7), .ref (n + 8), .int 0, .int 0, .ref (n + 9), .null, .null, .null, .int 0, .int 0, .int 0, .int 0, .int 0, .int 0, .int 0, .null, .int 0, .null, .int 0, .int 0, .int 0, .int 0, .null, .int 0, .int 0, .int 0, .int 0, .null, .int 0])), .inl (96, fun _ => 0), .inl (9, fun _ => 0), .inl (9, fun _ => 0), .inl (15, fun _ => 0), .inl (772, fun _ => 0), .inl (772, fun _ => 0), .inl (180, fun _ => 0), .inl (7740, fun _ => 0), .inl (8193, fun _ => 0), .inl (8192, fun _ => 0)]) (by simp only [List.append_assoc, List.cons_append, List.nil_append]) ?_
  refine g_putE (q := 95) (hp' := hp ++ [.inr (.inr (8, [.ref (n + 1), .int 0, .int 0, .int 0, .ref (n + 2), .ref (n + 3), .ref (n + 4), .ref (n + 5), .ref (n + 6), .int 1, .ref (n + 7), .ref (n + 8), .int 0, .int 0, .ref (n + 9), .ref (n + 10), .null, .null, .int 0, .int 0, .int 0, .int 0, .int 0, .int 0, .int 0, .null, .int 0, .null, .int 0, .int 0, .int 0, .int 0, .null, .int 0, .int 0, .int 0, .int 0, .null, .int 0])), .inl (96, fun _ => 0), .inl (9, fun _ => 0), .inl (9, fun _ => 0), .inl (15, fun _ => 0), .inl (772, fun _ => 0), .inl (772, fun _ => 0), .inl (180, fun _ => 0), .inl (7740, fun _ => 0), .inl (8193, fun _ => 0), .inl (8192, fun _ => 0)]) C fX8_41 dX8_init_92 rfl (gapp_new hn rfl) (Nat.le_of_ble_eq_true rfl) (Or.inr rfl) rfl rfl (by intro z h; cases h) rfl (gapp_set hn) ?_
  refine g_aload_n (q := 96) C dX8_init_95 rfl rfl ?_
  refine g_sipush (v := 8192) (q := 99) C dX8_init_96 (by decide) rfl ?_
  refine g_newarray (q := 101) (k := n + 11) (N := 8192) C t_144 dX8_init_99 rfl (by rw [List.length_append, hn]; rfl) (by decide) (by decide +kernel) (by decide) (Nat.le_of_ble_eq_true rfl) (Nat.le_of_ble_eq_true rfl) ?_
  refine g_heap (hp2 := hp ++ [.inr (.inr (8, [.ref (n + 1), .int 0, .int 0, .int 0, .ref (n + 2), .ref (n + 3), .ref (n + 4), .ref (n + 5), .ref (n + 6), .int 1, .ref (n + 7), .ref (n + 8), .int 0, .int 0, .ref (n + 9), .ref (n + 10), .null, .null, .int 0, .int 0, .int 0, .int 0, .int 0, .int 0, .int 0, .null, .int 0, .null, .int 0, .int 0, .int 0, .int 0, .null, .int 0, .int 0, .int 0, .int 0, .null, .int 0])), .inl (96, fun _ => 0), .inl (9, fun _ => 0), .inl (9, fun _ => 0), .inl (15, fun _ => 0), .inl (772, fun _ => 0), .inl (772, fun _ => 0), .inl (180, fun _ => 0), .inl (7740, fun _ => 0), .inl (8193, fun _ => 0), .inl (8192, fun _ => 0), .inl (8192, fun _ => 0)]) (by simp only [List.append_assoc, List.cons_append, List.nil_append]) ?_
  refine g_putE (q := 104) (hp' := hp ++ [.inr (.inr (8, [.ref (n + 1), .int 0, .int 0, .int 0, .ref (n + 2), .ref (n + 3), .ref (n + 4), .ref (n + 5), .ref (n + 6), .int 1, .ref (n + 7), .ref (n + 8), .int 0, .int 0, .ref (n + 9), .ref (n + 10), .ref (n + 11), .null, .int 0, .int 0, .int 0, .int 0, .int 0, .int 0, .int 0, .null, .int 0, .null, .int 0, .int 0, .int 0, .int 0, .null, .int 0, .int 0, .int 0, .int 0, .null, .int 0])), .inl (96, fun _ => 0), .inl (9, fun _ => 0), .inl (9, fun _ => 0), .inl (15, fun _ => 0), .inl (772, fun _ => 0), .inl (772, fun _ => 0), .inl (180, fun _ => 0), .inl (7740, fun _ => 0), .inl (8193, fun _ => 0), .inl (8192, fun _ => 0), .inl (8192, fun _ => 0)]) C fX8_44 dX8_init_101 rfl (gapp_new hn rfl) (Nat.le_of_ble_eq_true rfl) (Or.inr rfl) rfl rfl (by intro z h; cases h) rfl (gapp_set hn) ?_
  refine g_aload_n (q := 105) C dX8_init_104 rfl rfl ?_
  refine g_ldc (q := 107) C t_1076 dX8_init_105 rfl ?_
  refine g_newarray (q := 109) (k := n + 12) (N := 131072) C t_144 dX8_init_107 rfl (by rw [List.length_append, hn]; rfl) (by decide) (by decide +kernel) (by decide) (Nat.le_of_ble_eq_true rfl) (Nat.le_of_ble_eq_true rfl) ?_
  refine g_heap (hp2 := hp ++ [.inr (.inr (8, [.ref (n + 1), .int 0, .int 0, .int 0, .ref (n + 2), .ref (n + 3), .ref (n + 4), .ref (n + 5), .ref (n + 6), .int 1, .ref (n + 7), .ref (n + 8), .int 0, .int 0, .ref (n + 9), .ref (n + 10), .ref (n + 11), .null, .int 0, .int 0, .int 0, .int 0, .int 0, .int 0, .int 0, .null, .int 0, .null, .int 0, .int 0, .int 0, .int 0, .null, .int 0, .int 0, .int 0, .int 0, .null, .int 0])), .inl (96, fun _ => 0), .inl (9, fun _ => 0), .inl (9, fun _ => 0), .inl (15, fun _ => 0), .inl (772, fun _ => 0), .inl (772, fun _ => 0), .inl (180, fun _ => 0), .inl (7740, fun _ => 0), .inl (8193, fun _ => 0), .inl (8192, fun _ => 0), .inl (8192, fun _ => 0), .inl (131072, fun _ => 0)]) (by simp only [List.append_assoc, List.cons_append, List.nil_append]) ?_
  refine g_putE (q := 112) (hp' := hp ++ [.inr (.inr (8, [.ref (n + 1), .int 0, .int 0, .int 0, .ref (n + 2), .ref (n + 3), .ref (n + 4), .ref (n + 5), .ref (n + 6), .int 1, .ref (n + 7), .ref (n + 8), .int 0, .int 0, .ref (n + 9), .ref (n + 10), .ref (n + 11), .ref (n + 12), .int 0, .int 0, .int 0, .int 0, .int 0, .int 0, .int 0, .null, .int 0, .null, .int 0, .int 0, .int 0, .int 0, .null, .int 0, .int 0, .int 0, .int 0, .null, .int 0])), .inl (96, fun _ => 0), .inl (9, fun _ => 0), .inl (9, fun _ => 0), .inl (15, fun _ => 0), .inl (772, fun _ => 0), .inl (772, fun _ => 0), .inl (180, fun _ => 0), .inl (7740, fun _ => 0), .inl (8193, fun _ => 0), .inl (8192, fun _ => 0), .inl (8192, fun _ => 0), .inl (131072, fun _ => 0)]) C fX8_48 dX8_init_109 rfl (gapp_new hn rfl) (Nat.le_of_ble_eq_true rfl) (Or.inr rfl) rfl rfl (by intro z h; cases h) rfl (gapp_set hn) ?_
  refine g_aload_n (q := 113) C dX8_init_112 rfl rfl ?_
  refine g_sipush (v := 260) (q := 116) C dX8_init_113 (by decide) rfl ?_
  refine g_newarray (q := 118) (k := n + 13) (N := 260) C t_144 dX8_init_116 rfl (by rw [List.length_append, hn]; rfl) (by decide) (by decide +kernel) (by decide) (Nat.le_of_ble_eq_true rfl) (Nat.le_of_ble_eq_true rfl) ?_
  refine g_heap (hp2 := hp ++ [.inr (.inr (8, [.ref (n + 1), .int 0, .int 0, .int 0, .ref (n + 2), .ref (n + 3), .ref (n + 4), .ref (n + 5), .ref (n + 6), .int 1, .ref (n + 7), .ref (n + 8), .int 0, .int 0, .ref (n + 9), .ref (n + 10), .ref (n + 11), .ref (n + 12), .int 0, .int 0, .int 0, .int 0, .int 0, .int 0, .int 0, .null, .int 0, .null, .int 0, .int 0, .int 0, .int 0, .null, .int 0, .int 0, .int 0, .int 0, .null, .int 0])), .inl (96, fun _ => 0), .inl (9, fun _ => 0), .inl (9, fun _ => 0), .inl (15, fun _ => 0), .inl (772, fun _ => 0), .inl (772, fun _ => 0), .inl (180, fun _ => 0), .inl (7740, fun _ => 0), .inl (8193, fun _ => 0), .inl (8192, fun _ => 0), .inl (8192, fun _ => 0), .inl (131072, fun _ => 0), .inl (260, fun _ => 0)]) (by simp only [List.append_assoc, List.cons_append, List.nil_append]) ?_
  refine g_putE (q := 121) (hp' := hp ++ [.inr (.inr (8, [.ref (n + 1), .int 0, .int 0, .int 0, .ref (n + 2), .ref (n + 3), .ref (n + 4), .ref (n + 5), .ref (n + 6), .int 1, .ref (n + 7), .ref (n + 8), .int 0, .int 0, .ref (n + 9), .ref (n + 10), .ref (n + 11), .ref (n + 12), .int 0, .int 0, .int 0, .int 0, .int 0, .int 0, .int 0, .ref (n + 13), .int 0, .null, .int 0, .int 0, .int 0, .int 0, .null, .int 0, .int 0, .int 0, .int 0, .null, .int 0])), .inl (96, fun _ => 0), .inl (9, fun _ => 0), .inl (9, fun _ => 0), .inl (15, fun _ => 0), .inl (772, fun _ => 0), .inl (772, fun _ => 0), .inl (180, fun _ => 0), .inl (7740, fun _ => 0), .inl (8193, fun _ => 0), .inl (8192, fun _ => 0), .inl (8192, fun _ => 0), .inl (131072, fun _ => 0), .inl (260, fun _ => 0)]) C fX8_51 dX8_init_118 rfl (gapp_new hn rfl) (Nat.le_of_ble_eq_true rfl) (Or.inr rfl) rfl rfl (by intro z h; cases h) rfl (gapp_set hn) ?_
  refine g_aload_n (q := 122) C dX8_init_121 rfl rfl ?_
  refine g_sipush (v := 260) (q := 125) C dX8_init_122 (by decide) rfl ?_
  refine g_newarray (q := 127) (k := n + 14) (N := 260) C t_144 dX8_init_125 rfl (by rw [List.length_append, hn]; rfl) (by decide) (by decide +kernel) (by decide) (Nat.le_of_ble_eq_true rfl) (Nat.le_of_ble_eq_true rfl) ?_
  refine g_heap (hp2 := hp ++ [.inr (.inr (8, [.ref (n + 1), .int 0, .int 0, .int 0, .ref (n + 2), .ref (n + 3), .ref (n + 4), .ref (n + 5), .ref (n + 6), .int 1, .ref (n + 7), .ref (n + 8), .int 0, .int 0, .ref (n + 9), .ref (n + 10), .ref (n + 11), .ref (n + 12), .int 0, .int 0, .int 0, .int 0, .int 0, .int 0, .int 0, .ref (n + 13), .int 0, .null, .int 0, .int 0, .int 0, .int 0, .null, .int 0, .int 0, .int 0, .int 0, .null, .int 0])), .inl (96, fun _ => 0), .inl (9, fun _ => 0), .inl (9, fun _ => 0), .inl (15, fun _ => 0), .inl (772, fun _ => 0), .inl (772, fun _ => 0), .inl (180, fun _ => 0), .inl (7740, fun _ => 0), .inl (8193, fun _ => 0), .inl (8192, fun _ => 0), .inl (8192, fun _ => 0), .inl (131072, fun _ => 0), .inl (260, fun _ => 0), .inl (260, fun _ => 0)]) (by simp only [List.append_assoc, List.cons_append, List.nil_append]) ?_
  refine g_putE (q := 130) (hp' := hp ++ [.inr (.inr (8, [.ref (n + 1), .int 0, .int 0, .int 0, .ref (n + 2), .ref (n + 3), .ref (n + 4), .ref (n + 5), .ref (n + 6), .int 1, .ref (n + 7), .ref (n + 8), .int 0, .int 0, .ref (n + 9), .ref (n + 10), .ref (n + 11), .ref (n + 12), .int 0, .int 0, .int 0, .int 0, .int 0, .int 0, .int 0, .ref (n + 13), .int 0, .ref (n + 14), .int 0, .int 0, .int 0, .int 0, .null, .int 0, .int 0, .int 0, .int 0, .null, .int 0])), .inl (96, fun _ => 0), .inl (9, fun _ => 0), .inl (9, fun _ => 0), .inl (15, fun _ => 0), .inl (772, fun _ => 0), .inl (772, fun _ => 0), .inl (180, fun _ => 0), .inl (7740, fun _ => 0), .inl (8193, fun _ => 0), .inl (8192, fun _ => 0), .inl (8192, fun _ => 0), .inl (131072, fun _ => 0), .inl (260, fun _ => 0), .inl (260, fun _ => 0)]) C fX8_54 dX8_init_127 rfl (gapp_new hn rfl) (Nat.le_of_ble_eq_true rfl) (Or.inr rfl) rfl rfl (by intro z h; cases h) rfl (gapp_set hn) ?_
  refine g_aload_n (q := 131) C dX8_init_130 rfl rfl ?_
  refine g_sipush (v := 256) (q := 134) C dX8_init_131 (by decide) rfl ?_
  refine g_newarray (q := 136) (k := n + 15) (N := 256) C t_144 dX8_init_134 rfl (by rw [List.length_append, hn]; rfl) (by decide) (by decide +kernel) (by decide) (Nat.le_of_ble_eq_true rfl) (Nat.le_of_ble_eq_true rfl) ?_
  refine g_heap (hp2 := hp ++ [.inr (.inr (8, [.ref (n + 1), .int 0, .int 0, .int 0, .ref (n + 2), .ref (n + 3), .ref (n + 4), .ref (n + 5), .ref (n + 6), .int 1, .ref (n + 7), .ref (n + 8), .int 0, .int 0, .ref (n + 9), .ref (n + 10), .ref (n + 11), .ref (n + 12), .int 0, .int 0, .int 0, .int 0, .int 0, .int 0, .int 0, .ref (n + 13), .int 0, .ref (n + 14), .int 0, .int 0, .int 0, .int 0, .null, .int 0, .int 0, .int 0, .int 0, .null, .int 0])), .inl (96, fun _ => 0), .inl (9, fun _ => 0), .inl (9, fun _ => 0), .inl (15, fun _ => 0), .inl (772, fun _ => 0), .inl (772, fun _ => 0), .inl (180, fun _ => 0), .inl (7740, fun _ => 0), .inl (8193, fun _ => 0), .inl (8192, fun _ => 0), .inl (8192, fun _ => 0), .inl (131072, fun _ => 0), .inl (260, fun _ => 0), .inl (260, fun _ => 0), .inl (256, fun _ => 0)]) (by simp only [List.append_assoc, List.cons_append, List.nil_append]) ?_
  refine g_putE (q := 139) (hp' := hp ++ [.inr (.inr (8, [.ref (n + 1), .int 0, .int 0, .int 0, .ref (n + 2), .ref (n + 3), .ref (n + 4), .ref (n + 5), .ref (n + 6), .int 1, .ref (n + 7), .ref (n + 8), .int 0, .int 0, .ref (n + 9), .ref (n + 10), .ref (n + 11), .ref (n + 12), .int 0, .int 0, .int 0, .int 0, .int 0, .int 0, .int 0, .ref (n + 13), .int 0, .ref (n + 14), .int 0, .int 0, .int 0, .int 0, .ref (n + 15), .int 0, .int 0, .int 0, .int 0, .null, .int 0])), .inl (96, fun _ => 0), .inl (9, fun _ => 0), .inl (9, fun _ => 0), .inl (15, fun _ => 0), .inl (772, fun _ => 0), .inl (772, fun _ => 0), .inl (180, fun _ => 0), .inl (7740, fun _ => 0), .inl (8193, fun _ => 0), .inl (8192, fun _ => 0), .inl (8192, fun _ => 0), .inl (131072, fun _ => 0), .inl (260, fun _ => 0), .inl (260, fun _ => 0), .inl (256, fun _ => 0)]) C fX8_57 dX8_init_136 rfl (gapp_new hn rfl) (Nat.le_of_ble_eq_true rfl) (Or.inr rfl) rfl rfl (by intro z h; cases h) rfl (gapp_set hn) ?_
  refine g_aload_n (q := 140) C dX8_init_139 rfl rfl ?_
  refine g_bipush (v := 64) (q := 142) C dX8_init_140 (by decide) rfl ?_
  refine g_newarray (q := 144) (k := n + 16) (N := 64) C t_144 dX8_init_142 rfl (by rw [List.length_append, hn]; rfl) (by decide) (by decide +kernel) (by decide) (Nat.le_of_ble_eq_true rfl) (Nat.le_of_ble_eq_true rfl) ?_
  refine g_heap (hp2 := hp ++ [.inr (.inr (8, [.ref (n + 1), .int 0, .int 0, .int 0, .ref (n + 2), .ref (n + 3), .ref (n + 4), .ref (n + 5), .ref (n + 6), .int 1, .ref (n + 7), .ref (n + 8), .int 0, .int 0, .ref (n + 9), .ref (n + 10), .ref (n + 11), .ref (n + 12), .int 0, .int 0, .int 0, .int 0, .int 0, .int 0, .int 0, .ref (n + 13), .int 0, .ref (n + 14), .int 0, .int 0, .int 0, .int 0, .ref (n + 15), .int 0, .int 0, .int 0, .int 0, .null, .int 0])), .inl (96, fun _ => 0), .inl (9, fun _ => 0), .inl (9, fun _ => 0), .inl (15, fun _ => 0), .inl (772, fun _ => 0), .inl (772, fun _ => 0), .inl (180, fun _ => 0), .inl (7740, fun _ => 0), .inl (8193, fun _ => 0), .inl (8192, fun _ => 0), .inl (8192, fun _ => 0), .inl (131072, fun _ => 0), .inl (260, fun _ => 0), .inl (260, fun _ => 0), .inl (256, fun _ => 0), .inl (64, fun _ => 0)]) (by simp only [List.append_assoc, List.cons_append, List.nil_append]) ?_
  refine g_putE (q := 147) (hp' := hp ++ [.inr (.inr (8, [.ref (n + 1), .int 0, .int 0, .int 0, .ref (n + 2), .ref (n + 3), .ref (n + 4), .ref (n + 5), .ref (n + 6), .int 1, .ref (n + 7), .ref (n + 8), .int 0, .int 0, .ref (n + 9), .ref (n + 10), .ref (n + 11), .ref (n + 12), .int 0, .int 0, .int 0, .int 0, .int 0, .int 0, .int 0, .ref (n + 13), .int 0, .ref (n + 14), .int 0, .int 0, .int 0, .int 0, .ref (n + 15), .int 0, .int 0, .int 0, .int 0, .ref (n + 16), .int 0])), .inl (96, fun _ => 0), .inl (9, fun _ => 0), .inl (9, fun _ => 0), .inl (15, fun _ => 0), .inl (772, fun _ => 0), .inl (772, fun _ => 0), .inl (180, fun _ => 0), .inl (7740, fun _ => 0), .inl (8193, fun _ => 0), .inl (8192, fun _ => 0), .inl (8192, fun _ => 0), .inl (131072, fun _ => 0), .inl (260, fun _ => 0), .inl (260, fun _ => 0), .inl (256, fun _ => 0), .inl (64, fun _ => 0)]) C fX8_60 dX8_init_144 rfl (gapp_new hn rfl) (Nat.le_of_ble_eq_true rfl) (Or.inr rfl) rfl rfl (by intro z h; cases h) rfl (gapp_set hn) ?_
  refine g_aload_n (q := 148) C dX8_init_147 rfl rfl ?_
  refine g_callVvp (q := 151) (As := []) C gyX8_begins gvX8_begins t_1077 (c_X8_begins (m := n + 0) (sA := n + 5) (gapp_new hn rfl) (gapp_new hn rfl)) dX8_init_148 rfl (gapp_new hn rfl) rfl rfl rfl (Nat.le_of_ble_eq_true rfl) (Nat.le_of_ble_eq_true rfl) (Nat.le_of_ble_eq_true rfl) (Nat.le_of_ble_eq_true rfl) (Nat.le_of_ble_eq_true rfl) rfl (fun h9 z9 => ?_)
  obtain ⟨f9, e9, rfl⟩ := z9
  refine g_heap (hp2 := hp ++ [.inr (.inr (8, [.ref (n + 1), .int 0, .int 0, .int 0, .ref (n + 2), .ref (n + 3), .ref (n + 4), .ref (n + 5), .ref (n + 6), .int 1, .ref (n + 7), .ref (n + 8), .int 0, .int 0, .ref (n + 9), .ref (n + 10), .ref (n + 11), .ref (n + 12), .int 0, .int 0, .int 0, .int 0, .int 0, .int 0, .int 0, .ref (n + 13), .int 0, .ref (n + 14), .int 0, .int 0, .int 0, .int 0, .ref (n + 15), .int 0, .int 0, .int 0, .int 0, .ref (n + 16), .int 0])), .inl (96, fun _ => 0), .inl (9, fun _ => 0), .inl (9, fun _ => 0), .inl (15, fun _ => 0), .inl (772, f9), .inl (772, fun _ => 0), .inl (180, fun _ => 0), .inl (7740, fun _ => 0), .inl (8193, fun _ => 0), .inl (8192, fun _ => 0), .inl (8192, fun _ => 0), .inl (131072, fun _ => 0), .inl (260, fun _ => 0), .inl (260, fun _ => 0), .inl (256, fun _ => 0), .inl (64, fun _ => 0)]) (by rw [gapp_set hn, gapp_set hn]; rfl) ?_
  exact E.2.1 _ _ _ _ _ dX8_init_151 rfl (Nat.le_of_ble_eq_true rfl) (Nat.le_of_ble_eq_true rfl) ⟨rfl, f9, e9, rfl⟩
end
section
/-! the class's calls on a new object, its cells at their places 0 to 121 (by program: wip/p1/m_fresh.py) -/
theorem dX1_kept_0 : decode cX1_kept 0 = .ok (.aload_n 0, 1) := by decide +kernel
theorem dX1_kept_1 : decode cX1_kept 1 = .ok (.getfield 34, 3) := by decide +kernel
theorem dX1_kept_4 : decode cX1_kept 4 = .ok (.invokevirtual 51, 3) := by decide +kernel
theorem dX1_kept_7 : decode cX1_kept 7 = .ok (.ireturn, 1) := by decide +kernel
set_option maxRecDepth 100000 in
set_option maxHeartbeats 4000000 in
theorem c_X1_kept {hp : List gA} {j j0 j1 j2 j3 j4 j5 j6 j7 a : Nat} {j8 len most : Int32} (hj : hp[j]? = some (.inr (.inr (1, [.ref j0, .ref j1, .ref j2, .ref j3, .ref j4, .ref j5, .ref j6, .ref j7, .int j8])))) (hr : hp[j5]? = some (.inr (.inr (4, [.ref a, .int len, .int most])))) : gM yX1_kept cX1_kept 1 ((some .int)) 1 20 [.ref j] (hp) (0) (0) (fun v h => v = some (.int len) ∧ h = hp) := by
  refine gM_of (ls0 := [some (.ref j)]) (by decide +kernel) (Nat.le_of_ble_eq_true rfl) rfl fun X C E => ?_
  refine g_aload_n (q := 1) C dX1_kept_0 rfl rfl ?_
  refine g_getfield (q := 4) C fX1_34 dX1_kept_1 rfl hj rfl ?_
  refine g_callVi (q := 7) (As := []) C gyX4_size gvX4_size t_856 (c_X4_size hr) dX1_kept_4 rfl hr rfl rfl rfl (Nat.le_of_ble_eq_true rfl) (Nat.le_of_ble_eq_true rfl) (Nat.le_of_ble_eq_true rfl) (Nat.le_of_ble_eq_true rfl) (Nat.le_of_ble_eq_true rfl) rfl ?_
  exact E.1 _ _ _ _ _ _ _ dX1_kept_7 rfl rfl (Nat.le_of_ble_eq_true rfl) (Nat.le_of_ble_eq_true rfl) ⟨rfl, rfl⟩
theorem dX1_unlike_0 : decode cX1_unlike 0 = .ok (.aload_n 0, 1) := by decide +kernel
theorem dX1_unlike_1 : decode cX1_unlike 1 = .ok (.getfield 22, 3) := by decide +kernel
theorem dX1_unlike_4 : decode cX1_unlike 4 = .ok (.invokevirtual 51, 3) := by decide +kernel
theorem dX1_unlike_7 : decode cX1_unlike 7 = .ok (.ireturn, 1) := by decide +kernel
set_option maxRecDepth 100000 in
set_option maxHeartbeats 4000000 in
theorem c_X1_unlike {hp : List gA} {j j0 j1 j2 j3 j4 j5 j6 j7 a : Nat} {j8 len most : Int32} (hj : hp[j]? = some (.inr (.inr (1, [.ref j0, .ref j1, .ref j2, .ref j3, .ref j4, .ref j5, .ref j6, .ref j7, .int j8])))) (hr : hp[j1]? = some (.inr (.inr (4, [.ref a, .int len, .int most])))) : gM yX1_unlike cX1_unlike 1 ((some .int)) 1 20 [.ref j] (hp) (0) (0) (fun v h => v = some (.int len) ∧ h = hp) := by
  refine gM_of (ls0 := [some (.ref j)]) (by decide +kernel) (Nat.le_of_ble_eq_true rfl) rfl fun X C E => ?_
  refine g_aload_n (q := 1) C dX1_unlike_0 rfl rfl ?_
  refine g_getfield (q := 4) C fX1_22 dX1_unlike_1 rfl hj rfl ?_
  refine g_callVi (q := 7) (As := []) C gyX4_size gvX4_size t_856 (c_X4_size hr) dX1_unlike_4 rfl hr rfl rfl rfl (Nat.le_of_ble_eq_true rfl) (Nat.le_of_ble_eq_true rfl) (Nat.le_of_ble_eq_true rfl) (Nat.le_of_ble_eq_true rfl) (Nat.le_of_ble_eq_true rfl) rfl ?_
  exact E.1 _ _ _ _ _ _ _ dX1_unlike_7 rfl rfl (Nat.le_of_ble_eq_true rfl) (Nat.le_of_ble_eq_true rfl) ⟨rfl, rfl⟩
theorem dX6_faults_0 : decode cX6_faults 0 = .ok (.aload_n 0, 1) := by decide +kernel
theorem dX6_faults_1 : decode cX6_faults 1 = .ok (.getfield 31, 3) := by decide +kernel
theorem dX6_faults_4 : decode cX6_faults 4 = .ok (.ireturn, 1) := by decide +kernel
set_option maxRecDepth 100000 in
set_option maxHeartbeats 4000000 in
theorem c_X6_faults {hp : List gA} {w a b c : Nat} {w0 w1 w2 w6 w7 w8 w9 : Int32} (hw : hp[w]? = some (.inr (.inr (6, [.int w0, .int w1, .int w2, .ref a, .ref b, .ref c, .int w6, .int w7, .int w8, .int w9])))) : gM yX6_faults cX6_faults 1 ((some .int)) 0 0 [.ref w] (hp) (0) (0) (fun v h => v = some (.int w6) ∧ h = hp) := by
  refine gM_of (ls0 := [some (.ref w)]) (by decide +kernel) (Nat.le_of_ble_eq_true rfl) rfl fun X C E => ?_
  refine g_aload_n (q := 1) C dX6_faults_0 rfl rfl ?_
  refine g_getfield (q := 4) C fX6_31 dX6_faults_1 rfl hw rfl ?_
  exact E.1 _ _ _ _ _ _ _ dX6_faults_4 rfl rfl (Nat.le_of_ble_eq_true rfl) (Nat.le_of_ble_eq_true rfl) ⟨rfl, rfl⟩
theorem dX3_faultAt_0 : decode cX3_faultAt 0 = .ok (.bipush 8, 2) := by decide +kernel
theorem dX3_faultAt_2 : decode cX3_faultAt 2 = .ok (.iload_n 0, 1) := by decide +kernel
theorem dX3_faultAt_3 : decode cX3_faultAt 3 = .ok (.imul, 1) := by decide +kernel
theorem dX3_faultAt_4 : decode cX3_faultAt 4 = .ok (.iload_n 1, 1) := by decide +kernel
theorem dX3_faultAt_5 : decode cX3_faultAt 5 = .ok (.iadd, 1) := by decide +kernel
theorem dX3_faultAt_6 : decode cX3_faultAt 6 = .ok (.ireturn, 1) := by decide +kernel
set_option maxRecDepth 100000 in
set_option maxHeartbeats 4000000 in
theorem c_X3_faultAt {hp : List gA} {a b : Int32}  : gM yX3_faultAt cX3_faultAt 2 ((some .int)) 0 0 [.int a, .int b] (hp) (0) (0) (fun v h => v = some (.int (8 * a + b)) ∧ h = hp) := by
  refine gM_of (ls0 := [some (.int a), some (.int b)]) (by decide +kernel) (Nat.le_of_ble_eq_true rfl) rfl fun X C E => ?_
  refine g_bipush (v := 8) (q := 2) C dX3_faultAt_0 (by decide) rfl ?_
  refine g_iload_n (q := 3) C dX3_faultAt_2 rfl rfl ?_
  refine g_imul (q := 4) C dX3_faultAt_3 rfl ?_
  refine g_iload_n (q := 5) C dX3_faultAt_4 rfl rfl ?_
  refine g_iadd (q := 6) C dX3_faultAt_5 rfl ?_
  exact E.1 _ _ _ _ _ _ _ dX3_faultAt_6 rfl rfl (Nat.le_of_ble_eq_true rfl) (Nat.le_of_ble_eq_true rfl) ⟨rfl, rfl⟩
theorem dX7_mayStart_0 : decode cX7_mayStart 0 = .ok (.aload_n 0, 1) := by decide +kernel
theorem dX7_mayStart_1 : decode cX7_mayStart 1 = .ok (.getfield 51, 3) := by decide +kernel
theorem dX7_mayStart_4 : decode cX7_mayStart 4 = .ok (.ifCond .eq 29, 3) := by decide +kernel
theorem dX7_mayStart_33 : decode cX7_mayStart 33 = .ok (.iconst 0, 1) := by decide +kernel
theorem dX7_mayStart_34 : decode cX7_mayStart 34 = .ok (.ireturn, 1) := by decide +kernel
set_option maxRecDepth 100000 in
set_option maxHeartbeats 4000000 in
theorem c_X7_mayStart_0 {hp : List gA}  (H0 : hp[0]? = some (.inr (.inr (7, [.ref 1, .ref 3, .ref 20, .ref 43, .ref 116, .ref 119, .int 0])))) : gM yX7_mayStart cX7_mayStart 1 ((some .boolean)) 0 0 [.ref 0] (hp) (0) (0) (fun v h => v = some (.int 0) ∧ h = hp) := by
  refine gM_of (ls0 := [some (.ref 0)]) (by decide +kernel) (Nat.le_of_ble_eq_true rfl) rfl fun X C E => ?_
  refine g_aload_n (q := 1) C dX7_mayStart_0 rfl rfl ?_
  refine g_getfield (q := 4) C fX7_51 dX7_mayStart_1 rfl H0 rfl ?_
  refine g_if_eq_t (t := 33) C dX7_mayStart_4 (by decide) (by decide) ?_
  refine g_iconst (v := 0) (q := 34) C dX7_mayStart_33 (by decide) rfl ?_
  exact E.1 _ _ _ _ _ _ _ dX7_mayStart_34 rfl rfl (Nat.le_of_ble_eq_true rfl) (Nat.le_of_ble_eq_true rfl) ⟨rfl, rfl⟩
theorem dX7_onWay_0 : decode cX7_onWay 0 = .ok (.aload_n 0, 1) := by decide +kernel
theorem dX7_onWay_1 : decode cX7_onWay 1 = .ok (.getfield 51, 3) := by decide +kernel
theorem dX7_onWay_4 : decode cX7_onWay 4 = .ok (.ifCond .eq 18, 3) := by decide +kernel
theorem dX7_onWay_22 : decode cX7_onWay 22 = .ok (.iconst 0, 1) := by decide +kernel
theorem dX7_onWay_23 : decode cX7_onWay 23 = .ok (.ireturn, 1) := by decide +kernel
set_option maxRecDepth 100000 in
set_option maxHeartbeats 4000000 in
theorem c_X7_onWay_0 {hp : List gA}  (H0 : hp[0]? = some (.inr (.inr (7, [.ref 1, .ref 3, .ref 20, .ref 43, .ref 116, .ref 119, .int 0])))) : gM yX7_onWay cX7_onWay 1 ((some .boolean)) 0 0 [.ref 0] (hp) (0) (0) (fun v h => v = some (.int 0) ∧ h = hp) := by
  refine gM_of (ls0 := [some (.ref 0)]) (by decide +kernel) (Nat.le_of_ble_eq_true rfl) rfl fun X C E => ?_
  refine g_aload_n (q := 1) C dX7_onWay_0 rfl rfl ?_
  refine g_getfield (q := 4) C fX7_51 dX7_onWay_1 rfl H0 rfl ?_
  refine g_if_eq_t (t := 22) C dX7_onWay_4 (by decide) (by decide) ?_
  refine g_iconst (v := 0) (q := 23) C dX7_onWay_22 (by decide) rfl ?_
  exact E.1 _ _ _ _ _ _ _ dX7_onWay_23 rfl rfl (Nat.le_of_ble_eq_true rfl) (Nat.le_of_ble_eq_true rfl) ⟨rfl, rfl⟩
theorem dX7_answer_0 : decode cX7_answer 0 = .ok (.aload_n 0, 1) := by decide +kernel
theorem dX7_answer_1 : decode cX7_answer 1 = .ok (.getfield 51, 3) := by decide +kernel
theorem dX7_answer_4 : decode cX7_answer 4 = .ok (.ifCond .eq 14, 3) := by decide +kernel
theorem dX7_answer_18 : decode cX7_answer 18 = .ok (.iconst (-1), 1) := by decide +kernel
theorem dX7_answer_19 : decode cX7_answer 19 = .ok (.ireturn, 1) := by decide +kernel
set_option maxRecDepth 100000 in
set_option maxHeartbeats 4000000 in
theorem c_X7_answer_0 {hp : List gA} {p0 : Int32} (H0 : hp[0]? = some (.inr (.inr (7, [.ref 1, .ref 3, .ref 20, .ref 43, .ref 116, .ref 119, .int 0])))) : gM yX7_answer cX7_answer 2 ((some .int)) 2 42 [.ref 0, .int p0] (hp) (0) (0) (fun v h => v = some (.int (-1)) ∧ ∀ k, 122 ≤ k → h[k]? = hp[k]?) := by
  refine gM_of (ls0 := [some (.ref 0), some (.int p0)]) (by decide +kernel) (Nat.le_of_ble_eq_true rfl) rfl fun X C E => ?_
  refine g_aload_n (q := 1) C dX7_answer_0 rfl rfl ?_
  refine g_getfield (q := 4) C fX7_51 dX7_answer_1 rfl H0 rfl ?_
  refine g_if_eq_t (t := 18) C dX7_answer_4 (by decide) (by decide) ?_
  refine g_iconst (v := (-1)) (q := 19) C dX7_answer_18 (by decide) rfl ?_
  exact E.1 _ _ _ _ _ _ _ dX7_answer_19 rfl rfl (Nat.le_of_ble_eq_true rfl) (Nat.le_of_ble_eq_true rfl) ⟨rfl, (fun k hk => by repeat (first | rfl | rw [List.getElem?_set_ne (by omega)]))⟩
theorem dX7_historical_0 : decode cX7_historical 0 = .ok (.aload_n 0, 1) := by decide +kernel
theorem dX7_historical_1 : decode cX7_historical 1 = .ok (.getfield 51, 3) := by decide +kernel
theorem dX7_historical_4 : decode cX7_historical 4 = .ok (.ifCond .eq 18, 3) := by decide +kernel
theorem dX7_historical_22 : decode cX7_historical 22 = .ok (.iconst (-1), 1) := by decide +kernel
theorem dX7_historical_23 : decode cX7_historical 23 = .ok (.ireturn, 1) := by decide +kernel
set_option maxRecDepth 100000 in
set_option maxHeartbeats 4000000 in
theorem c_X7_historical_0 {hp : List gA} {p0 : Int32} (H0 : hp[0]? = some (.inr (.inr (7, [.ref 1, .ref 3, .ref 20, .ref 43, .ref 116, .ref 119, .int 0])))) : gM yX7_historical cX7_historical 2 ((some .int)) 2 42 [.ref 0, .int p0] (hp) (0) (0) (fun v h => v = some (.int (-1)) ∧ ∀ k, 122 ≤ k → h[k]? = hp[k]?) := by
  refine gM_of (ls0 := [some (.ref 0), some (.int p0)]) (by decide +kernel) (Nat.le_of_ble_eq_true rfl) rfl fun X C E => ?_
  refine g_aload_n (q := 1) C dX7_historical_0 rfl rfl ?_
  refine g_getfield (q := 4) C fX7_51 dX7_historical_1 rfl H0 rfl ?_
  refine g_if_eq_t (t := 22) C dX7_historical_4 (by decide) (by decide) ?_
  refine g_iconst (v := (-1)) (q := 23) C dX7_historical_22 (by decide) rfl ?_
  exact E.1 _ _ _ _ _ _ _ dX7_historical_23 rfl rfl (Nat.le_of_ble_eq_true rfl) (Nat.le_of_ble_eq_true rfl) ⟨rfl, (fun k hk => by repeat (first | rfl | rw [List.getElem?_set_ne (by omega)]))⟩
theorem dX7_state_0 : decode cX7_state 0 = .ok (.aload_n 0, 1) := by decide +kernel
theorem dX7_state_1 : decode cX7_state 1 = .ok (.getfield 51, 3) := by decide +kernel
theorem dX7_state_4 : decode cX7_state 4 = .ok (.ifCond .eq 13, 3) := by decide +kernel
theorem dX7_state_17 : decode cX7_state 17 = .ok (.iconst (-1), 1) := by decide +kernel
theorem dX7_state_18 : decode cX7_state 18 = .ok (.ireturn, 1) := by decide +kernel
set_option maxRecDepth 100000 in
set_option maxHeartbeats 4000000 in
theorem c_X7_state_0 {hp : List gA}  (H0 : hp[0]? = some (.inr (.inr (7, [.ref 1, .ref 3, .ref 20, .ref 43, .ref 116, .ref 119, .int 0])))) : gM yX7_state cX7_state 1 ((some .int)) 0 0 [.ref 0] (hp) (0) (0) (fun v h => v = some (.int (-1)) ∧ ∀ k, 122 ≤ k → h[k]? = hp[k]?) := by
  refine gM_of (ls0 := [some (.ref 0)]) (by decide +kernel) (Nat.le_of_ble_eq_true rfl) rfl fun X C E => ?_
  refine g_aload_n (q := 1) C dX7_state_0 rfl rfl ?_
  refine g_getfield (q := 4) C fX7_51 dX7_state_1 rfl H0 rfl ?_
  refine g_if_eq_t (t := 17) C dX7_state_4 (by decide) (by decide) ?_
  refine g_iconst (v := (-1)) (q := 18) C dX7_state_17 (by decide) rfl ?_
  exact E.1 _ _ _ _ _ _ _ dX7_state_18 rfl rfl (Nat.le_of_ble_eq_true rfl) (Nat.le_of_ble_eq_true rfl) ⟨rfl, (fun k hk => by repeat (first | rfl | rw [List.getElem?_set_ne (by omega)]))⟩
theorem dX7_side_0 : decode cX7_side 0 = .ok (.aload_n 0, 1) := by decide +kernel
theorem dX7_side_1 : decode cX7_side 1 = .ok (.getfield 51, 3) := by decide +kernel
theorem dX7_side_4 : decode cX7_side 4 = .ok (.ifCond .eq 12, 3) := by decide +kernel
theorem dX7_side_16 : decode cX7_side 16 = .ok (.bipush (-2), 2) := by decide +kernel
theorem dX7_side_18 : decode cX7_side 18 = .ok (.ireturn, 1) := by decide +kernel
set_option maxRecDepth 100000 in
set_option maxHeartbeats 4000000 in
theorem c_X7_side_0 {hp : List gA} {p0 : Int32} {p1 : Int32} (H0 : hp[0]? = some (.inr (.inr (7, [.ref 1, .ref 3, .ref 20, .ref 43, .ref 116, .ref 119, .int 0])))) : gM yX7_side cX7_side 3 ((some .int)) 2 41 [.ref 0, .int p0, .int p1] (hp) (0) (0) (fun v h => v = some (.int (-2)) ∧ ∀ k, 122 ≤ k → h[k]? = hp[k]?) := by
  refine gM_of (ls0 := [some (.ref 0), some (.int p0), some (.int p1)]) (by decide +kernel) (Nat.le_of_ble_eq_true rfl) rfl fun X C E => ?_
  refine g_aload_n (q := 1) C dX7_side_0 rfl rfl ?_
  refine g_getfield (q := 4) C fX7_51 dX7_side_1 rfl H0 rfl ?_
  refine g_if_eq_t (t := 16) C dX7_side_4 (by decide) (by decide) ?_
  refine g_bipush (v := (-2)) (q := 18) C dX7_side_16 (by decide) rfl ?_
  exact E.1 _ _ _ _ _ _ _ dX7_side_18 rfl rfl (Nat.le_of_ble_eq_true rfl) (Nat.le_of_ble_eq_true rfl) ⟨rfl, (fun k hk => by repeat (first | rfl | rw [List.getElem?_set_ne (by omega)]))⟩
theorem dX7_got_0 : decode cX7_got 0 = .ok (.aload_n 0, 1) := by decide +kernel
theorem dX7_got_1 : decode cX7_got 1 = .ok (.getfield 51, 3) := by decide +kernel
theorem dX7_got_4 : decode cX7_got 4 = .ok (.ifCond .eq 12, 3) := by decide +kernel
theorem dX7_got_16 : decode cX7_got 16 = .ok (.bipush (-2), 2) := by decide +kernel
theorem dX7_got_18 : decode cX7_got 18 = .ok (.ireturn, 1) := by decide +kernel
set_option maxRecDepth 100000 in
set_option maxHeartbeats 4000000 in
theorem c_X7_got_0 {hp : List gA} {p0 : Int32} {p1 : Int32} (H0 : hp[0]? = some (.inr (.inr (7, [.ref 1, .ref 3, .ref 20, .ref 43, .ref 116, .ref 119, .int 0])))) : gM yX7_got cX7_got 4 ((some .int)) 1 21 [.ref 0, .int p0, .int p1] (hp) (0) (0) (fun v h => v = some (.int (-2)) ∧ ∀ k, 122 ≤ k → h[k]? = hp[k]?) := by
  refine gM_of (ls0 := [some (.ref 0), some (.int p0), some (.int p1), none]) (by decide +kernel) (Nat.le_of_ble_eq_true rfl) rfl fun X C E => ?_
  refine g_aload_n (q := 1) C dX7_got_0 rfl rfl ?_
  refine g_getfield (q := 4) C fX7_51 dX7_got_1 rfl H0 rfl ?_
  refine g_if_eq_t (t := 16) C dX7_got_4 (by decide) (by decide) ?_
  refine g_bipush (v := (-2)) (q := 18) C dX7_got_16 (by decide) rfl ?_
  exact E.1 _ _ _ _ _ _ _ dX7_got_18 rfl rfl (Nat.le_of_ble_eq_true rfl) (Nat.le_of_ble_eq_true rfl) ⟨rfl, (fun k hk => by repeat (first | rfl | rw [List.getElem?_set_ne (by omega)]))⟩
theorem dX7_room_0 : decode cX7_room 0 = .ok (.aload_n 0, 1) := by decide +kernel
theorem dX7_room_1 : decode cX7_room 1 = .ok (.invokevirtual 96, 3) := by decide +kernel
theorem dX7_room_4 : decode cX7_room 4 = .ok (.ifCond .eq 15, 3) := by decide +kernel
theorem dX7_room_19 : decode cX7_room 19 = .ok (.iconst (-1), 1) := by decide +kernel
theorem dX7_room_20 : decode cX7_room 20 = .ok (.ireturn, 1) := by decide +kernel
set_option maxRecDepth 100000 in
set_option maxHeartbeats 4000000 in
theorem c_X7_room_0 {hp : List gA} {p0 : Int32} (H0 : hp[0]? = some (.inr (.inr (7, [.ref 1, .ref 3, .ref 20, .ref 43, .ref 116, .ref 119, .int 0])))) : gM yX7_room cX7_room 2 ((some .int)) 2 43 [.ref 0, .int p0] (hp) (0) (0) (fun v h => v = some (.int (-1)) ∧ ∀ k, 122 ≤ k → h[k]? = hp[k]?) := by
  refine gM_of (ls0 := [some (.ref 0), some (.int p0)]) (by decide +kernel) (Nat.le_of_ble_eq_true rfl) rfl fun X C E => ?_
  refine g_aload_n (q := 1) C dX7_room_0 rfl rfl ?_
  refine g_callVi (q := 4) (As := []) C gyX7_mayStart gvX7_mayStart t_618 (c_X7_mayStart_0 H0) dX7_room_1 rfl H0 rfl rfl rfl (Nat.le_of_ble_eq_true rfl) (Nat.le_of_ble_eq_true rfl) (Nat.le_of_ble_eq_true rfl) (Nat.le_of_ble_eq_true rfl) (Nat.le_of_ble_eq_true rfl) rfl ?_
  refine g_if_eq_t (t := 19) C dX7_room_4 (by decide) (by decide) ?_
  refine g_iconst (v := (-1)) (q := 20) C dX7_room_19 (by decide) rfl ?_
  exact E.1 _ _ _ _ _ _ _ dX7_room_20 rfl rfl (Nat.le_of_ble_eq_true rfl) (Nat.le_of_ble_eq_true rfl) ⟨rfl, (fun k hk => by repeat (first | rfl | rw [List.getElem?_set_ne (by omega)]))⟩
theorem dX7_step_0 : decode cX7_step 0 = .ok (.iload_n 1, 1) := by decide +kernel
theorem dX7_step_1 : decode cX7_step 1 = .ok (.iconst 1, 1) := by decide +kernel
theorem dX7_step_2 : decode cX7_step 2 = .ok (.if_icmp .lt 16, 3) := by decide +kernel
theorem dX7_step_5 : decode cX7_step 5 = .ok (.iload_n 1, 1) := by decide +kernel
theorem dX7_step_6 : decode cX7_step 6 = .ok (.bipush 60, 2) := by decide +kernel
theorem dX7_step_8 : decode cX7_step 8 = .ok (.if_icmp .gt 10, 3) := by decide +kernel
theorem dX7_step_11 : decode cX7_step 11 = .ok (.aload_n 0, 1) := by decide +kernel
theorem dX7_step_12 : decode cX7_step 12 = .ok (.invokevirtual 133, 3) := by decide +kernel
theorem dX7_step_15 : decode cX7_step 15 = .ok (.ifCond .ne 5, 3) := by decide +kernel
theorem dX7_step_18 : decode cX7_step 18 = .ok (.iconst (-1), 1) := by decide +kernel
theorem dX7_step_19 : decode cX7_step 19 = .ok (.ireturn, 1) := by decide +kernel
set_option maxRecDepth 100000 in
set_option maxHeartbeats 4000000 in
theorem c_X7_step_0 {hp : List gA} {p0 : Int32} (H0 : hp[0]? = some (.inr (.inr (7, [.ref 1, .ref 3, .ref 20, .ref 43, .ref 116, .ref 119, .int 0])))) : gM yX7_step cX7_step 2 ((some .int)) 8 223 [.ref 0, .int p0] (hp) (0) (0) (fun v h => v = some (.int (-1)) ∧ ∀ k, 122 ≤ k → h[k]? = hp[k]?) := by
  refine gM_of (ls0 := [some (.ref 0), some (.int p0)]) (by decide +kernel) (Nat.le_of_ble_eq_true rfl) rfl fun X C E => ?_
  refine g_iload_n (q := 1) C dX7_step_0 rfl rfl ?_
  refine g_iconst (v := 1) (q := 2) C dX7_step_1 (by decide) rfl ?_
  refine g_icmp_lt (t := 18) (q := 5) C dX7_step_2 (by decide) rfl (fun c_2 => ?_) (fun c_2 => ?_)
  · -- to 18
    refine g_iconst (v := (-1)) (q := 19) C dX7_step_18 (by decide) rfl ?_
    exact E.1 _ _ _ _ _ _ _ dX7_step_19 rfl rfl (Nat.le_of_ble_eq_true rfl) (Nat.le_of_ble_eq_true rfl) ⟨rfl, (fun k hk => by repeat (first | rfl | rw [List.getElem?_set_ne (by omega)]))⟩
  · -- to 5
    refine g_iload_n (q := 6) C dX7_step_5 rfl rfl ?_
    refine g_bipush (v := 60) (q := 8) C dX7_step_6 (by decide) rfl ?_
    refine g_icmp_gt (t := 18) (q := 11) C dX7_step_8 (by decide) rfl (fun c_8 => ?_) (fun c_8 => ?_)
    · -- to 18
      refine g_iconst (v := (-1)) (q := 19) C dX7_step_18 (by decide) rfl ?_
      exact E.1 _ _ _ _ _ _ _ dX7_step_19 rfl rfl (Nat.le_of_ble_eq_true rfl) (Nat.le_of_ble_eq_true rfl) ⟨rfl, (fun k hk => by repeat (first | rfl | rw [List.getElem?_set_ne (by omega)]))⟩
    · -- to 11
      refine g_aload_n (q := 12) C dX7_step_11 rfl rfl ?_
      refine g_callVi (q := 15) (As := []) C gyX7_onWay gvX7_onWay t_677 (c_X7_onWay_0 H0) dX7_step_12 rfl H0 rfl rfl rfl (Nat.le_of_ble_eq_true rfl) (Nat.le_of_ble_eq_true rfl) (Nat.le_of_ble_eq_true rfl) (Nat.le_of_ble_eq_true rfl) (Nat.le_of_ble_eq_true rfl) rfl ?_
      refine g_if_ne_f (t := 20) (q := 18) C dX7_step_15 (by decide) rfl (by decide) ?_
      refine g_iconst (v := (-1)) (q := 19) C dX7_step_18 (by decide) rfl ?_
      exact E.1 _ _ _ _ _ _ _ dX7_step_19 rfl rfl (Nat.le_of_ble_eq_true rfl) (Nat.le_of_ble_eq_true rfl) ⟨rfl, (fun k hk => by repeat (first | rfl | rw [List.getElem?_set_ne (by omega)]))⟩
theorem dX7_would_0 : decode cX7_would 0 = .ok (.aload_n 0, 1) := by decide +kernel
theorem dX7_would_1 : decode cX7_would 1 = .ok (.invokevirtual 133, 3) := by decide +kernel
theorem dX7_would_4 : decode cX7_would 4 = .ok (.ifCond .ne 5, 3) := by decide +kernel
theorem dX7_would_7 : decode cX7_would 7 = .ok (.iconst (-1), 1) := by decide +kernel
theorem dX7_would_8 : decode cX7_would 8 = .ok (.ireturn, 1) := by decide +kernel
set_option maxRecDepth 100000 in
set_option maxHeartbeats 4000000 in
theorem c_X7_would_0 {hp : List gA} {p0 : Int32} (H0 : hp[0]? = some (.inr (.inr (7, [.ref 1, .ref 3, .ref 20, .ref 43, .ref 116, .ref 119, .int 0])))) : gM yX7_would cX7_would 3 ((some .int)) 8 222 [.ref 0, .int p0] (hp) (0) (0) (fun v h => v = some (.int (-1)) ∧ ∀ k, 122 ≤ k → h[k]? = hp[k]?) := by
  refine gM_of (ls0 := [some (.ref 0), some (.int p0), none]) (by decide +kernel) (Nat.le_of_ble_eq_true rfl) rfl fun X C E => ?_
  refine g_aload_n (q := 1) C dX7_would_0 rfl rfl ?_
  refine g_callVi (q := 4) (As := []) C gyX7_onWay gvX7_onWay t_677 (c_X7_onWay_0 H0) dX7_would_1 rfl H0 rfl rfl rfl (Nat.le_of_ble_eq_true rfl) (Nat.le_of_ble_eq_true rfl) (Nat.le_of_ble_eq_true rfl) (Nat.le_of_ble_eq_true rfl) (Nat.le_of_ble_eq_true rfl) rfl ?_
  refine g_if_ne_f (t := 9) (q := 7) C dX7_would_4 (by decide) rfl (by decide) ?_
  refine g_iconst (v := (-1)) (q := 8) C dX7_would_7 (by decide) rfl ?_
  exact E.1 _ _ _ _ _ _ _ dX7_would_8 rfl rfl (Nat.le_of_ble_eq_true rfl) (Nat.le_of_ble_eq_true rfl) ⟨rfl, (fun k hk => by repeat (first | rfl | rw [List.getElem?_set_ne (by omega)]))⟩
theorem dX7_harm_0 : decode cX7_harm 0 = .ok (.iload_n 1, 1) := by decide +kernel
theorem dX7_harm_1 : decode cX7_harm 1 = .ok (.iconst 1, 1) := by decide +kernel
theorem dX7_harm_2 : decode cX7_harm 2 = .ok (.if_icmp .lt 24, 3) := by decide +kernel
theorem dX7_harm_5 : decode cX7_harm 5 = .ok (.iload_n 1, 1) := by decide +kernel
theorem dX7_harm_6 : decode cX7_harm 6 = .ok (.iconst 3, 1) := by decide +kernel
theorem dX7_harm_7 : decode cX7_harm 7 = .ok (.if_icmp .gt 19, 3) := by decide +kernel
theorem dX7_harm_10 : decode cX7_harm 10 = .ok (.iload_n 2, 1) := by decide +kernel
theorem dX7_harm_11 : decode cX7_harm 11 = .ok (.ifCond .lt 15, 3) := by decide +kernel
theorem dX7_harm_14 : decode cX7_harm 14 = .ok (.iload_n 2, 1) := by decide +kernel
theorem dX7_harm_15 : decode cX7_harm 15 = .ok (.iconst 1, 1) := by decide +kernel
theorem dX7_harm_16 : decode cX7_harm 16 = .ok (.if_icmp .gt 10, 3) := by decide +kernel
theorem dX7_harm_19 : decode cX7_harm 19 = .ok (.aload_n 0, 1) := by decide +kernel
theorem dX7_harm_20 : decode cX7_harm 20 = .ok (.invokevirtual 133, 3) := by decide +kernel
theorem dX7_harm_23 : decode cX7_harm 23 = .ok (.ifCond .ne 5, 3) := by decide +kernel
theorem dX7_harm_26 : decode cX7_harm 26 = .ok (.iconst (-1), 1) := by decide +kernel
theorem dX7_harm_27 : decode cX7_harm 27 = .ok (.ireturn, 1) := by decide +kernel
set_option maxRecDepth 100000 in
set_option maxHeartbeats 4000000 in
theorem c_X7_harm_0 {hp : List gA} {p0 : Int32} {p1 : Int32} (H0 : hp[0]? = some (.inr (.inr (7, [.ref 1, .ref 3, .ref 20, .ref 43, .ref 116, .ref 119, .int 0])))) : gM yX7_harm cX7_harm 3 ((some .int)) 8 227 [.ref 0, .int p0, .int p1] (hp) (0) (0) (fun v h => v = some (.int (-1)) ∧ ∀ k, 122 ≤ k → h[k]? = hp[k]?) := by
  refine gM_of (ls0 := [some (.ref 0), some (.int p0), some (.int p1)]) (by decide +kernel) (Nat.le_of_ble_eq_true rfl) rfl fun X C E => ?_
  refine g_iload_n (q := 1) C dX7_harm_0 rfl rfl ?_
  refine g_iconst (v := 1) (q := 2) C dX7_harm_1 (by decide) rfl ?_
  refine g_icmp_lt (t := 26) (q := 5) C dX7_harm_2 (by decide) rfl (fun c_2 => ?_) (fun c_2 => ?_)
  · -- to 26
    refine g_iconst (v := (-1)) (q := 27) C dX7_harm_26 (by decide) rfl ?_
    exact E.1 _ _ _ _ _ _ _ dX7_harm_27 rfl rfl (Nat.le_of_ble_eq_true rfl) (Nat.le_of_ble_eq_true rfl) ⟨rfl, (fun k hk => by repeat (first | rfl | rw [List.getElem?_set_ne (by omega)]))⟩
  · -- to 5
    refine g_iload_n (q := 6) C dX7_harm_5 rfl rfl ?_
    refine g_iconst (v := 3) (q := 7) C dX7_harm_6 (by decide) rfl ?_
    refine g_icmp_gt (t := 26) (q := 10) C dX7_harm_7 (by decide) rfl (fun c_7 => ?_) (fun c_7 => ?_)
    · -- to 26
      refine g_iconst (v := (-1)) (q := 27) C dX7_harm_26 (by decide) rfl ?_
      exact E.1 _ _ _ _ _ _ _ dX7_harm_27 rfl rfl (Nat.le_of_ble_eq_true rfl) (Nat.le_of_ble_eq_true rfl) ⟨rfl, (fun k hk => by repeat (first | rfl | rw [List.getElem?_set_ne (by omega)]))⟩
    · -- to 10
      refine g_iload_n (q := 11) C dX7_harm_10 rfl rfl ?_
      refine g_if_lt (t := 26) (q := 14) C dX7_harm_11 (by decide) rfl (fun c_11 => ?_) (fun c_11 => ?_)
      · -- to 26
        refine g_iconst (v := (-1)) (q := 27) C dX7_harm_26 (by decide) rfl ?_
        exact E.1 _ _ _ _ _ _ _ dX7_harm_27 rfl rfl (Nat.le_of_ble_eq_true rfl) (Nat.le_of_ble_eq_true rfl) ⟨rfl, (fun k hk => by repeat (first | rfl | rw [List.getElem?_set_ne (by omega)]))⟩
      · -- to 14
        refine g_iload_n (q := 15) C dX7_harm_14 rfl rfl ?_
        refine g_iconst (v := 1) (q := 16) C dX7_harm_15 (by decide) rfl ?_
        refine g_icmp_gt (t := 26) (q := 19) C dX7_harm_16 (by decide) rfl (fun c_16 => ?_) (fun c_16 => ?_)
        · -- to 26
          refine g_iconst (v := (-1)) (q := 27) C dX7_harm_26 (by decide) rfl ?_
          exact E.1 _ _ _ _ _ _ _ dX7_harm_27 rfl rfl (Nat.le_of_ble_eq_true rfl) (Nat.le_of_ble_eq_true rfl) ⟨rfl, (fun k hk => by repeat (first | rfl | rw [List.getElem?_set_ne (by omega)]))⟩
        · -- to 19
          refine g_aload_n (q := 20) C dX7_harm_19 rfl rfl ?_
          refine g_callVi (q := 23) (As := []) C gyX7_onWay gvX7_onWay t_677 (c_X7_onWay_0 H0) dX7_harm_20 rfl H0 rfl rfl rfl (Nat.le_of_ble_eq_true rfl) (Nat.le_of_ble_eq_true rfl) (Nat.le_of_ble_eq_true rfl) (Nat.le_of_ble_eq_true rfl) (Nat.le_of_ble_eq_true rfl) rfl ?_
          refine g_if_ne_f (t := 28) (q := 26) C dX7_harm_23 (by decide) rfl (by decide) ?_
          refine g_iconst (v := (-1)) (q := 27) C dX7_harm_26 (by decide) rfl ?_
          exact E.1 _ _ _ _ _ _ _ dX7_harm_27 rfl rfl (Nat.le_of_ble_eq_true rfl) (Nat.le_of_ble_eq_true rfl) ⟨rfl, (fun k hk => by repeat (first | rfl | rw [List.getElem?_set_ne (by omega)]))⟩
theorem dX7_message_0 : decode cX7_message 0 = .ok (.iconst (-1), 1) := by decide +kernel
theorem dX7_message_1 : decode cX7_message 1 = .ok (.istore_n 1, 1) := by decide +kernel
theorem dX7_message_2 : decode cX7_message 2 = .ok (.aload_n 0, 1) := by decide +kernel
theorem dX7_message_3 : decode cX7_message 3 = .ok (.invokevirtual 96, 3) := by decide +kernel
theorem dX7_message_6 : decode cX7_message 6 = .ok (.ifCond .eq 41, 3) := by decide +kernel
theorem dX7_message_47 : decode cX7_message 47 = .ok (.aload_n 0, 1) := by decide +kernel
theorem dX7_message_48 : decode cX7_message 48 = .ok (.getfield 14, 3) := by decide +kernel
theorem dX7_message_51 : decode cX7_message 51 = .ok (.iconst 0, 1) := by decide +kernel
theorem dX7_message_52 : decode cX7_message 52 = .ok (.invokevirtual 67, 3) := by decide +kernel
theorem dX7_message_55 : decode cX7_message 55 = .ok (.iload_n 1, 1) := by decide +kernel
theorem dX7_message_56 : decode cX7_message 56 = .ok (.ireturn, 1) := by decide +kernel
set_option maxRecDepth 100000 in
set_option maxHeartbeats 4000000 in
theorem c_X7_message_0 {hp : List gA}  (H0 : hp[0]? = some (.inr (.inr (7, [.ref 1, .ref 3, .ref 20, .ref 43, .ref 116, .ref 119, .int 0])))) (H1 : hp[1]? = some (.inr (.inr (4, [.ref 2, .int 0, .int 96])))) : gM yX7_message cX7_message 2 ((some .int)) 3 103 [.ref 0] (hp) (0) (0) (fun v h => v = some (.int (-1)) ∧ ∀ k, 122 ≤ k → h[k]? = hp[k]?) := by
  refine gM_of (ls0 := [some (.ref 0), none]) (by decide +kernel) (Nat.le_of_ble_eq_true rfl) rfl fun X C E => ?_
  refine g_iconst (v := (-1)) (q := 1) C dX7_message_0 (by decide) rfl ?_
  refine g_istore_n (q := 2) C dX7_message_1 (Nat.le_of_ble_eq_true rfl) (by simp only [gset]; rfl) rfl ?_
  refine g_aload_n (q := 3) C dX7_message_2 rfl rfl ?_
  refine g_callVi (q := 6) (As := []) C gyX7_mayStart gvX7_mayStart t_618 (c_X7_mayStart_0 H0) dX7_message_3 rfl H0 rfl rfl rfl (Nat.le_of_ble_eq_true rfl) (Nat.le_of_ble_eq_true rfl) (Nat.le_of_ble_eq_true rfl) (Nat.le_of_ble_eq_true rfl) (Nat.le_of_ble_eq_true rfl) rfl ?_
  refine g_if_eq_t (t := 47) C dX7_message_6 (by decide) (by decide) ?_
  refine g_aload_n (q := 48) C dX7_message_47 rfl rfl ?_
  refine g_getfield (q := 51) C fX7_14 dX7_message_48 rfl H0 rfl ?_
  refine g_iconst (v := 0) (q := 52) C dX7_message_51 (by decide) rfl ?_
  refine g_callVv (q := 55) (As := [.int 0]) C gyX4_keep gvX4_keep t_496 (c_X4_keep H1) dX7_message_52 rfl H1 rfl rfl rfl (Nat.le_of_ble_eq_true rfl) (Nat.le_of_ble_eq_true rfl) (Nat.le_of_ble_eq_true rfl) (Nat.le_of_ble_eq_true rfl) (Nat.le_of_ble_eq_true rfl) rfl ?_
  refine g_iload_n (q := 56) C dX7_message_55 rfl rfl ?_
  exact E.1 _ _ _ _ _ _ _ dX7_message_56 rfl rfl (Nat.le_of_ble_eq_true rfl) (Nat.le_of_ble_eq_true rfl) ⟨rfl, (fun k hk => by repeat (first | rfl | rw [List.getElem?_set_ne (by omega)]))⟩
theorem dX7_fault_0 : decode cX7_fault 0 = .ok (.iload_n 2, 1) := by decide +kernel
theorem dX7_fault_1 : decode cX7_fault 1 = .ok (.iconst 2, 1) := by decide +kernel
theorem dX7_fault_2 : decode cX7_fault 2 = .ok (.if_icmp .ne 23, 3) := by decide +kernel
theorem dX7_fault_5 : decode cX7_fault 5 = .ok (.iload_n 3, 1) := by decide +kernel
theorem dX7_fault_6 : decode cX7_fault 6 = .ok (.iconst 1, 1) := by decide +kernel
theorem dX7_fault_7 : decode cX7_fault 7 = .ok (.if_icmp .lt 14, 3) := by decide +kernel
theorem dX7_fault_10 : decode cX7_fault 10 = .ok (.iload_n 3, 1) := by decide +kernel
theorem dX7_fault_11 : decode cX7_fault 11 = .ok (.sipush 255, 3) := by decide +kernel
theorem dX7_fault_14 : decode cX7_fault 14 = .ok (.if_icmp .gt 7, 3) := by decide +kernel
theorem dX7_fault_17 : decode cX7_fault 17 = .ok (.iconst 1, 1) := by decide +kernel
theorem dX7_fault_18 : decode cX7_fault 18 = .ok (.goto 16, 3) := by decide +kernel
theorem dX7_fault_21 : decode cX7_fault 21 = .ok (.iconst 0, 1) := by decide +kernel
theorem dX7_fault_22 : decode cX7_fault 22 = .ok (.goto 12, 3) := by decide +kernel
theorem dX7_fault_25 : decode cX7_fault 25 = .ok (.iload_n 3, 1) := by decide +kernel
theorem dX7_fault_26 : decode cX7_fault 26 = .ok (.ifCond .ne 7, 3) := by decide +kernel
theorem dX7_fault_29 : decode cX7_fault 29 = .ok (.iconst 1, 1) := by decide +kernel
theorem dX7_fault_30 : decode cX7_fault 30 = .ok (.goto 4, 3) := by decide +kernel
theorem dX7_fault_33 : decode cX7_fault 33 = .ok (.iconst 0, 1) := by decide +kernel
theorem dX7_fault_34 : decode cX7_fault 34 = .ok (.istore 4, 2) := by decide +kernel
theorem dX7_fault_36 : decode cX7_fault 36 = .ok (.aload_n 0, 1) := by decide +kernel
theorem dX7_fault_37 : decode cX7_fault 37 = .ok (.getfield 51, 3) := by decide +kernel
theorem dX7_fault_40 : decode cX7_fault 40 = .ok (.ifCond .eq 29, 3) := by decide +kernel
theorem dX7_fault_69 : decode cX7_fault 69 = .ok (.iconst (-1), 1) := by decide +kernel
theorem dX7_fault_70 : decode cX7_fault 70 = .ok (.ireturn, 1) := by decide +kernel
set_option maxRecDepth 100000 in
set_option maxHeartbeats 4000000 in
theorem c_X7_fault_0 {hp : List gA} {p0 : Int32} {p1 : Int32} {p2 : Int32} (H0 : hp[0]? = some (.inr (.inr (7, [.ref 1, .ref 3, .ref 20, .ref 43, .ref 116, .ref 119, .int 0])))) : gM yX7_fault cX7_fault 5 ((some .int)) 3 68 [.ref 0, .int p0, .int p1, .int p2] (hp) (0) (0) (fun v h => v = some (.int (-1)) ∧ ∀ k, 122 ≤ k → h[k]? = hp[k]?) := by
  refine gM_of (ls0 := [some (.ref 0), some (.int p0), some (.int p1), some (.int p2), none]) (by decide +kernel) (Nat.le_of_ble_eq_true rfl) rfl fun X C E => ?_
  refine g_iload_n (q := 1) C dX7_fault_0 rfl rfl ?_
  refine g_iconst (v := 2) (q := 2) C dX7_fault_1 (by decide) rfl ?_
  refine g_icmp_ne (t := 25) (q := 5) C dX7_fault_2 (by decide) rfl (fun c_2 => ?_) (fun c_2 => ?_)
  · -- to 25
    refine g_iload_n (q := 26) C dX7_fault_25 rfl rfl ?_
    refine g_if_ne (t := 33) (q := 29) C dX7_fault_26 (by decide) rfl (fun c_26 => ?_) (fun c_26 => ?_)
    · -- to 33
      refine g_iconst (v := 0) (q := 34) C dX7_fault_33 (by decide) rfl ?_
      refine g_istore (q := 36) C dX7_fault_34 (Nat.le_of_ble_eq_true rfl) (by simp only [gset]; rfl) rfl ?_
      refine g_aload_n (q := 37) C dX7_fault_36 rfl rfl ?_
      refine g_getfield (q := 40) C fX7_51 dX7_fault_37 rfl H0 rfl ?_
      refine g_if_eq_t (t := 69) C dX7_fault_40 (by decide) (by decide) ?_
      refine g_iconst (v := (-1)) (q := 70) C dX7_fault_69 (by decide) rfl ?_
      exact E.1 _ _ _ _ _ _ _ dX7_fault_70 rfl rfl (Nat.le_of_ble_eq_true rfl) (Nat.le_of_ble_eq_true rfl) ⟨rfl, (fun k hk => by repeat (first | rfl | rw [List.getElem?_set_ne (by omega)]))⟩
    · -- to 29
      refine g_iconst (v := 1) (q := 30) C dX7_fault_29 (by decide) rfl ?_
      refine g_goto (q := 34) C dX7_fault_30 (by decide) ?_
      refine g_istore (q := 36) C dX7_fault_34 (Nat.le_of_ble_eq_true rfl) (by simp only [gset]; rfl) rfl ?_
      refine g_aload_n (q := 37) C dX7_fault_36 rfl rfl ?_
      refine g_getfield (q := 40) C fX7_51 dX7_fault_37 rfl H0 rfl ?_
      refine g_if_eq_t (t := 69) C dX7_fault_40 (by decide) (by decide) ?_
      refine g_iconst (v := (-1)) (q := 70) C dX7_fault_69 (by decide) rfl ?_
      exact E.1 _ _ _ _ _ _ _ dX7_fault_70 rfl rfl (Nat.le_of_ble_eq_true rfl) (Nat.le_of_ble_eq_true rfl) ⟨rfl, (fun k hk => by repeat (first | rfl | rw [List.getElem?_set_ne (by omega)]))⟩
  · -- to 5
    refine g_iload_n (q := 6) C dX7_fault_5 rfl rfl ?_
    refine g_iconst (v := 1) (q := 7) C dX7_fault_6 (by decide) rfl ?_
    refine g_icmp_lt (t := 21) (q := 10) C dX7_fault_7 (by decide) rfl (fun c_7 => ?_) (fun c_7 => ?_)
    · -- to 21
      refine g_iconst (v := 0) (q := 22) C dX7_fault_21 (by decide) rfl ?_
      refine g_goto (q := 34) C dX7_fault_22 (by decide) ?_
      refine g_istore (q := 36) C dX7_fault_34 (Nat.le_of_ble_eq_true rfl) (by simp only [gset]; rfl) rfl ?_
      refine g_aload_n (q := 37) C dX7_fault_36 rfl rfl ?_
      refine g_getfield (q := 40) C fX7_51 dX7_fault_37 rfl H0 rfl ?_
      refine g_if_eq_t (t := 69) C dX7_fault_40 (by decide) (by decide) ?_
      refine g_iconst (v := (-1)) (q := 70) C dX7_fault_69 (by decide) rfl ?_
      exact E.1 _ _ _ _ _ _ _ dX7_fault_70 rfl rfl (Nat.le_of_ble_eq_true rfl) (Nat.le_of_ble_eq_true rfl) ⟨rfl, (fun k hk => by repeat (first | rfl | rw [List.getElem?_set_ne (by omega)]))⟩
    · -- to 10
      refine g_iload_n (q := 11) C dX7_fault_10 rfl rfl ?_
      refine g_sipush (v := 255) (q := 14) C dX7_fault_11 (by decide) rfl ?_
      refine g_icmp_gt (t := 21) (q := 17) C dX7_fault_14 (by decide) rfl (fun c_14 => ?_) (fun c_14 => ?_)
      · -- to 21
        refine g_iconst (v := 0) (q := 22) C dX7_fault_21 (by decide) rfl ?_
        refine g_goto (q := 34) C dX7_fault_22 (by decide) ?_
        refine g_istore (q := 36) C dX7_fault_34 (Nat.le_of_ble_eq_true rfl) (by simp only [gset]; rfl) rfl ?_
        refine g_aload_n (q := 37) C dX7_fault_36 rfl rfl ?_
        refine g_getfield (q := 40) C fX7_51 dX7_fault_37 rfl H0 rfl ?_
        refine g_if_eq_t (t := 69) C dX7_fault_40 (by decide) (by decide) ?_
        refine g_iconst (v := (-1)) (q := 70) C dX7_fault_69 (by decide) rfl ?_
        exact E.1 _ _ _ _ _ _ _ dX7_fault_70 rfl rfl (Nat.le_of_ble_eq_true rfl) (Nat.le_of_ble_eq_true rfl) ⟨rfl, (fun k hk => by repeat (first | rfl | rw [List.getElem?_set_ne (by omega)]))⟩
      · -- to 17
        refine g_iconst (v := 1) (q := 18) C dX7_fault_17 (by decide) rfl ?_
        refine g_goto (q := 34) C dX7_fault_18 (by decide) ?_
        refine g_istore (q := 36) C dX7_fault_34 (Nat.le_of_ble_eq_true rfl) (by simp only [gset]; rfl) rfl ?_
        refine g_aload_n (q := 37) C dX7_fault_36 rfl rfl ?_
        refine g_getfield (q := 40) C fX7_51 dX7_fault_37 rfl H0 rfl ?_
        refine g_if_eq_t (t := 69) C dX7_fault_40 (by decide) (by decide) ?_
        refine g_iconst (v := (-1)) (q := 70) C dX7_fault_69 (by decide) rfl ?_
        exact E.1 _ _ _ _ _ _ _ dX7_fault_70 rfl rfl (Nat.le_of_ble_eq_true rfl) (Nat.le_of_ble_eq_true rfl) ⟨rfl, (fun k hk => by repeat (first | rfl | rw [List.getElem?_set_ne (by omega)]))⟩
theorem dX7_byteOf_0 : decode cX7_byteOf 0 = .ok (.iload_n 1, 1) := by decide +kernel
theorem dX7_byteOf_1 : decode cX7_byteOf 1 = .ok (.ifCond .lt 14, 3) := by decide +kernel
theorem dX7_byteOf_4 : decode cX7_byteOf 4 = .ok (.iload_n 1, 1) := by decide +kernel
theorem dX7_byteOf_5 : decode cX7_byteOf 5 = .ok (.aload_n 0, 1) := by decide +kernel
theorem dX7_byteOf_6 : decode cX7_byteOf 6 = .ok (.getfield 21, 3) := by decide +kernel
theorem dX7_byteOf_9 : decode cX7_byteOf 9 = .ok (.invokevirtual 162, 3) := by decide +kernel
theorem dX7_byteOf_12 : decode cX7_byteOf 12 = .ok (.if_icmp .lt 5, 3) := by decide +kernel
theorem dX7_byteOf_15 : decode cX7_byteOf 15 = .ok (.iconst (-1), 1) := by decide +kernel
theorem dX7_byteOf_16 : decode cX7_byteOf 16 = .ok (.ireturn, 1) := by decide +kernel
set_option maxRecDepth 100000 in
set_option maxHeartbeats 4000000 in
theorem c_X7_byteOf_0 {hp : List gA} {p0 : Int32} {p1 : Int32} (H0 : hp[0]? = some (.inr (.inr (7, [.ref 1, .ref 3, .ref 20, .ref 43, .ref 116, .ref 119, .int 0])))) (H3 : hp[3]? = some (.inr (.inr (1, [.ref 4, .ref 6, .ref 8, .ref 10, .ref 12, .ref 14, .ref 16, .ref 18, .int ((-1))])))) (H14 : hp[14]? = some (.inr (.inr (4, [.ref 15, .int 0, .int 30])))) : gM yX7_byteOf cX7_byteOf 3 ((some .int)) 2 45 [.ref 0, .int p0, .int p1] (hp) (0) (0) (fun v h => v = some (.int (-1)) ∧ ∀ k, 122 ≤ k → h[k]? = hp[k]?) := by
  refine gM_of (ls0 := [some (.ref 0), some (.int p0), some (.int p1)]) (by decide +kernel) (Nat.le_of_ble_eq_true rfl) rfl fun X C E => ?_
  refine g_iload_n (q := 1) C dX7_byteOf_0 rfl rfl ?_
  refine g_if_lt (t := 15) (q := 4) C dX7_byteOf_1 (by decide) rfl (fun c_1 => ?_) (fun c_1 => ?_)
  · -- to 15
    refine g_iconst (v := (-1)) (q := 16) C dX7_byteOf_15 (by decide) rfl ?_
    exact E.1 _ _ _ _ _ _ _ dX7_byteOf_16 rfl rfl (Nat.le_of_ble_eq_true rfl) (Nat.le_of_ble_eq_true rfl) ⟨rfl, (fun k hk => by repeat (first | rfl | rw [List.getElem?_set_ne (by omega)]))⟩
  · -- to 4
    refine g_iload_n (q := 5) C dX7_byteOf_4 rfl rfl ?_
    refine g_aload_n (q := 6) C dX7_byteOf_5 rfl rfl ?_
    refine g_getfield (q := 9) C fX7_21 dX7_byteOf_6 rfl H0 rfl ?_
    refine g_callVi (q := 12) (As := []) C gyX1_kept gvX1_kept t_927 (c_X1_kept H3 H14) dX7_byteOf_9 rfl H3 rfl rfl rfl (Nat.le_of_ble_eq_true rfl) (Nat.le_of_ble_eq_true rfl) (Nat.le_of_ble_eq_true rfl) (Nat.le_of_ble_eq_true rfl) (Nat.le_of_ble_eq_true rfl) rfl ?_
    refine g_icmp_lt_f (t := 17) (q := 15) C dX7_byteOf_12 (by decide) rfl c_1 ?_
    refine g_iconst (v := (-1)) (q := 16) C dX7_byteOf_15 (by decide) rfl ?_
    exact E.1 _ _ _ _ _ _ _ dX7_byteOf_16 rfl rfl (Nat.le_of_ble_eq_true rfl) (Nat.le_of_ble_eq_true rfl) ⟨rfl, (fun k hk => by repeat (first | rfl | rw [List.getElem?_set_ne (by omega)]))⟩
def gE1 (n : Int32) : Int32 := if n < 0 then -1 else if 0 < n then -1 else n
theorem gle_lt {a b : Int32} : ¬ a ≤ b ↔ b < a := by rw [Int32.le_iff_toInt_le, Int32.lt_iff_toInt_lt]; omega
theorem dX7_end_0 : decode cX7_end 0 = .ok (.iload_n 1, 1) := by decide +kernel
theorem dX7_end_1 : decode cX7_end 1 = .ok (.ifCond .lt 14, 3) := by decide +kernel
theorem dX7_end_4 : decode cX7_end 4 = .ok (.iload_n 1, 1) := by decide +kernel
theorem dX7_end_5 : decode cX7_end 5 = .ok (.aload_n 0, 1) := by decide +kernel
theorem dX7_end_6 : decode cX7_end 6 = .ok (.getfield 14, 3) := by decide +kernel
theorem dX7_end_9 : decode cX7_end 9 = .ok (.invokevirtual 55, 3) := by decide +kernel
theorem dX7_end_12 : decode cX7_end 12 = .ok (.if_icmp .le 5, 3) := by decide +kernel
theorem dX7_end_15 : decode cX7_end 15 = .ok (.iconst (-1), 1) := by decide +kernel
theorem dX7_end_16 : decode cX7_end 16 = .ok (.ireturn, 1) := by decide +kernel
theorem dX7_end_17 : decode cX7_end 17 = .ok (.aload_n 0, 1) := by decide +kernel
theorem dX7_end_18 : decode cX7_end 18 = .ok (.getfield 14, 3) := by decide +kernel
theorem dX7_end_21 : decode cX7_end 21 = .ok (.iload_n 1, 1) := by decide +kernel
theorem dX7_end_22 : decode cX7_end 22 = .ok (.invokevirtual 67, 3) := by decide +kernel
theorem dX7_end_25 : decode cX7_end 25 = .ok (.iload_n 1, 1) := by decide +kernel
theorem dX7_end_26 : decode cX7_end 26 = .ok (.ireturn, 1) := by decide +kernel
set_option maxRecDepth 100000 in
set_option maxHeartbeats 4000000 in
theorem c_X7_end_0 {hp : List gA} {p0 : Int32} (H0 : hp[0]? = some (.inr (.inr (7, [.ref 1, .ref 3, .ref 20, .ref 43, .ref 116, .ref 119, .int 0])))) (H1 : hp[1]? = some (.inr (.inr (4, [.ref 2, .int 0, .int 96])))) : gM yX7_end cX7_end 2 ((some .int)) 2 42 [.ref 0, .int p0] (hp) (0) (0) (fun v h => v = some (.int (gE1 p0)) ∧ ∀ k, 122 ≤ k → h[k]? = hp[k]?) := by
  refine gM_of (ls0 := [some (.ref 0), some (.int p0)]) (by decide +kernel) (Nat.le_of_ble_eq_true rfl) rfl fun X C E => ?_
  refine g_iload_n (q := 1) C dX7_end_0 rfl rfl ?_
  refine g_if_lt (t := 15) (q := 4) C dX7_end_1 (by decide) rfl (fun c_1 => ?_) (fun c_1 => ?_)
  · -- to 15
    refine g_iconst (v := (-1)) (q := 16) C dX7_end_15 (by decide) rfl ?_
    exact E.1 _ _ _ _ _ _ _ dX7_end_16 rfl rfl (Nat.le_of_ble_eq_true rfl) (Nat.le_of_ble_eq_true rfl) ⟨by simp_all [gE1, gle_lt], (fun k hk => by repeat (first | rfl | rw [List.getElem?_set_ne (by omega)]))⟩
  · -- to 4
    refine g_iload_n (q := 5) C dX7_end_4 rfl rfl ?_
    refine g_aload_n (q := 6) C dX7_end_5 rfl rfl ?_
    refine g_getfield (q := 9) C fX7_14 dX7_end_6 rfl H0 rfl ?_
    refine g_callVi (q := 12) (As := []) C gyX4_size gvX4_size t_463 (c_X4_size H1) dX7_end_9 rfl H1 rfl rfl rfl (Nat.le_of_ble_eq_true rfl) (Nat.le_of_ble_eq_true rfl) (Nat.le_of_ble_eq_true rfl) (Nat.le_of_ble_eq_true rfl) (Nat.le_of_ble_eq_true rfl) rfl ?_
    refine g_icmp_le (t := 17) (q := 15) C dX7_end_12 (by decide) rfl (fun c_12 => ?_) (fun c_12 => ?_)
    · -- to 17
      refine g_aload_n (q := 18) C dX7_end_17 rfl rfl ?_
      refine g_getfield (q := 21) C fX7_14 dX7_end_18 rfl H0 rfl ?_
      refine g_iload_n (q := 22) C dX7_end_21 rfl rfl ?_
      refine g_callVv (q := 25) (As := [.int p0]) C gyX4_keep gvX4_keep t_496 (c_X4_keep H1) dX7_end_22 rfl H1 rfl rfl rfl (Nat.le_of_ble_eq_true rfl) (Nat.le_of_ble_eq_true rfl) (Nat.le_of_ble_eq_true rfl) (Nat.le_of_ble_eq_true rfl) (Nat.le_of_ble_eq_true rfl) rfl ?_
      refine g_iload_n (q := 26) C dX7_end_25 rfl rfl ?_
      exact E.1 _ _ _ _ _ _ _ dX7_end_26 rfl rfl (Nat.le_of_ble_eq_true rfl) (Nat.le_of_ble_eq_true rfl) ⟨by rw [gE1, if_neg c_1, if_neg (fun h => absurd c_12 (gle_lt.mpr h))], (fun k hk => by repeat (first | rfl | rw [List.getElem?_set_ne (by omega)]))⟩
    · -- to 15
      refine g_iconst (v := (-1)) (q := 16) C dX7_end_15 (by decide) rfl ?_
      exact E.1 _ _ _ _ _ _ _ dX7_end_16 rfl rfl (Nat.le_of_ble_eq_true rfl) (Nat.le_of_ble_eq_true rfl) ⟨by simp_all [gE1, gle_lt], (fun k hk => by repeat (first | rfl | rw [List.getElem?_set_ne (by omega)]))⟩
def gE2 (w : Int32) : Int32 := if w = 6 then 1 else if w.toInt < 0 ∨ 10 < w.toInt then -1 else 0
theorem dX7_count_0 : decode cX7_count 0 = .ok (.iload_n 1, 1) := by decide +kernel
theorem dX7_count_1 : decode cX7_count 1 = .ok (.tableswitch 159 0 10 #[59, 70, 81, 92, 100, 108, 116, 127, 135, 143, 151], 59) := by decide +kernel
theorem dX7_count_60 : decode cX7_count 60 = .ok (.aload_n 0, 1) := by decide +kernel
theorem dX7_count_61 : decode cX7_count 61 = .ok (.getfield 30, 3) := by decide +kernel
theorem dX7_count_64 : decode cX7_count 64 = .ok (.getfield 114, 3) := by decide +kernel
theorem dX7_count_67 : decode cX7_count 67 = .ok (.getfield 181, 3) := by decide +kernel
theorem dX7_count_70 : decode cX7_count 70 = .ok (.ireturn, 1) := by decide +kernel
theorem dX7_count_71 : decode cX7_count 71 = .ok (.aload_n 0, 1) := by decide +kernel
theorem dX7_count_72 : decode cX7_count 72 = .ok (.getfield 30, 3) := by decide +kernel
theorem dX7_count_75 : decode cX7_count 75 = .ok (.getfield 114, 3) := by decide +kernel
theorem dX7_count_78 : decode cX7_count 78 = .ok (.getfield 194, 3) := by decide +kernel
theorem dX7_count_81 : decode cX7_count 81 = .ok (.ireturn, 1) := by decide +kernel
theorem dX7_count_82 : decode cX7_count 82 = .ok (.aload_n 0, 1) := by decide +kernel
theorem dX7_count_83 : decode cX7_count 83 = .ok (.getfield 30, 3) := by decide +kernel
theorem dX7_count_86 : decode cX7_count 86 = .ok (.getfield 114, 3) := by decide +kernel
theorem dX7_count_89 : decode cX7_count 89 = .ok (.invokevirtual 127, 3) := by decide +kernel
theorem dX7_count_92 : decode cX7_count 92 = .ok (.ireturn, 1) := by decide +kernel
theorem dX7_count_93 : decode cX7_count 93 = .ok (.aload_n 0, 1) := by decide +kernel
theorem dX7_count_94 : decode cX7_count 94 = .ok (.getfield 30, 3) := by decide +kernel
theorem dX7_count_97 : decode cX7_count 97 = .ok (.getfield 197, 3) := by decide +kernel
theorem dX7_count_100 : decode cX7_count 100 = .ok (.ireturn, 1) := by decide +kernel
theorem dX7_count_101 : decode cX7_count 101 = .ok (.aload_n 0, 1) := by decide +kernel
theorem dX7_count_102 : decode cX7_count 102 = .ok (.getfield 21, 3) := by decide +kernel
theorem dX7_count_105 : decode cX7_count 105 = .ok (.invokevirtual 200, 3) := by decide +kernel
theorem dX7_count_108 : decode cX7_count 108 = .ok (.ireturn, 1) := by decide +kernel
theorem dX7_count_109 : decode cX7_count 109 = .ok (.aload_n 0, 1) := by decide +kernel
theorem dX7_count_110 : decode cX7_count 110 = .ok (.getfield 21, 3) := by decide +kernel
theorem dX7_count_113 : decode cX7_count 113 = .ok (.invokevirtual 162, 3) := by decide +kernel
theorem dX7_count_116 : decode cX7_count 116 = .ok (.ireturn, 1) := by decide +kernel
theorem dX7_count_117 : decode cX7_count 117 = .ok (.aload_n 0, 1) := by decide +kernel
theorem dX7_count_118 : decode cX7_count 118 = .ok (.getfield 30, 3) := by decide +kernel
theorem dX7_count_121 : decode cX7_count 121 = .ok (.getfield 114, 3) := by decide +kernel
theorem dX7_count_124 : decode cX7_count 124 = .ok (.getfield 130, 3) := by decide +kernel
theorem dX7_count_127 : decode cX7_count 127 = .ok (.ireturn, 1) := by decide +kernel
theorem dX7_count_128 : decode cX7_count 128 = .ok (.aload_n 0, 1) := by decide +kernel
theorem dX7_count_129 : decode cX7_count 129 = .ok (.getfield 30, 3) := by decide +kernel
theorem dX7_count_132 : decode cX7_count 132 = .ok (.getfield 203, 3) := by decide +kernel
theorem dX7_count_135 : decode cX7_count 135 = .ok (.ireturn, 1) := by decide +kernel
theorem dX7_count_136 : decode cX7_count 136 = .ok (.aload_n 0, 1) := by decide +kernel
theorem dX7_count_137 : decode cX7_count 137 = .ok (.getfield 30, 3) := by decide +kernel
theorem dX7_count_140 : decode cX7_count 140 = .ok (.getfield 206, 3) := by decide +kernel
theorem dX7_count_143 : decode cX7_count 143 = .ok (.ireturn, 1) := by decide +kernel
theorem dX7_count_144 : decode cX7_count 144 = .ok (.aload_n 0, 1) := by decide +kernel
theorem dX7_count_145 : decode cX7_count 145 = .ok (.getfield 30, 3) := by decide +kernel
theorem dX7_count_148 : decode cX7_count 148 = .ok (.getfield 209, 3) := by decide +kernel
theorem dX7_count_151 : decode cX7_count 151 = .ok (.ireturn, 1) := by decide +kernel
theorem dX7_count_152 : decode cX7_count 152 = .ok (.aload_n 0, 1) := by decide +kernel
theorem dX7_count_153 : decode cX7_count 153 = .ok (.getfield 14, 3) := by decide +kernel
theorem dX7_count_156 : decode cX7_count 156 = .ok (.invokevirtual 55, 3) := by decide +kernel
theorem dX7_count_159 : decode cX7_count 159 = .ok (.ireturn, 1) := by decide +kernel
theorem dX7_count_160 : decode cX7_count 160 = .ok (.iconst (-1), 1) := by decide +kernel
theorem dX7_count_161 : decode cX7_count 161 = .ok (.ireturn, 1) := by decide +kernel
set_option maxRecDepth 100000 in
set_option maxHeartbeats 4000000 in
theorem c_X7_count_0 {hp : List gA} {p0 : Int32} (H0 : hp[0]? = some (.inr (.inr (7, [.ref 1, .ref 3, .ref 20, .ref 43, .ref 116, .ref 119, .int 0])))) (H1 : hp[1]? = some (.inr (.inr (4, [.ref 2, .int 0, .int 96])))) (H3 : hp[3]? = some (.inr (.inr (1, [.ref 4, .ref 6, .ref 8, .ref 10, .ref 12, .ref 14, .ref 16, .ref 18, .int ((-1))])))) (H14 : hp[14]? = some (.inr (.inr (4, [.ref 15, .int 0, .int 30])))) (H6 : hp[6]? = some (.inr (.inr (4, [.ref 7, .int 0, .int 65536])))) (H20 : hp[20]? = some (.inr (.inr (2, [.ref 21, .ref 28, .ref 35, .int 0, .int 0, .int 0, .int 0, .int 0, .ref 39, .ref 41, .ref 3, .int 3, .int 0, .int ((-1)), .int 0, .int 0, .int 0, .int 0])))) (H35 : hp[35]? = some (.inr (.inr (6, [.int 1, .int 0, .int 0, .ref 36, .ref 37, .ref 38, .int 0, .int ((-1)), .int 0, .int 0])))) : gM yX7_count cX7_count 2 ((some .int)) 2 40 [.ref 0, .int p0] (hp) (0) (0) (fun v h => v = some (.int (gE2 p0)) ∧ ∀ k, 122 ≤ k → h[k]? = hp[k]?) := by
  refine gM_of (ls0 := [some (.ref 0), some (.int p0)]) (by decide +kernel) (Nat.le_of_ble_eq_true rfl) rfl fun X C E => ?_
  refine g_iload_n (q := 1) C dX7_count_0 rfl rfl ?_
  by_cases c_1_0 : p0 = 0
  · subst c_1_0
    refine g_tableIn (off := 59) (t := 60) C dX7_count_1 (by decide) (by decide) (by decide) (by decide) ?_
    refine g_aload_n (q := 61) C dX7_count_60 rfl rfl ?_
    refine g_getfield (q := 64) C fX7_30 dX7_count_61 rfl H0 rfl ?_
    refine g_getfieldW (q := 67) C fX7_114 dX7_count_64 rfl H20 rfl ?_
    refine g_getfield (q := 70) C fX7_181 dX7_count_67 rfl H35 rfl ?_
    exact E.1 _ _ _ _ _ _ _ dX7_count_70 rfl rfl (Nat.le_of_ble_eq_true rfl) (Nat.le_of_ble_eq_true rfl) ⟨by decide, (fun k hk => by repeat (first | rfl | rw [List.getElem?_set_ne (by omega)]))⟩
  by_cases c_1_1 : p0 = 1
  · subst c_1_1
    refine g_tableIn (off := 70) (t := 71) C dX7_count_1 (by decide) (by decide) (by decide) (by decide) ?_
    refine g_aload_n (q := 72) C dX7_count_71 rfl rfl ?_
    refine g_getfield (q := 75) C fX7_30 dX7_count_72 rfl H0 rfl ?_
    refine g_getfieldW (q := 78) C fX7_114 dX7_count_75 rfl H20 rfl ?_
    refine g_getfield (q := 81) C fX7_194 dX7_count_78 rfl H35 rfl ?_
    exact E.1 _ _ _ _ _ _ _ dX7_count_81 rfl rfl (Nat.le_of_ble_eq_true rfl) (Nat.le_of_ble_eq_true rfl) ⟨by decide, (fun k hk => by repeat (first | rfl | rw [List.getElem?_set_ne (by omega)]))⟩
  by_cases c_1_2 : p0 = 2
  · subst c_1_2
    refine g_tableIn (off := 81) (t := 82) C dX7_count_1 (by decide) (by decide) (by decide) (by decide) ?_
    refine g_aload_n (q := 83) C dX7_count_82 rfl rfl ?_
    refine g_getfield (q := 86) C fX7_30 dX7_count_83 rfl H0 rfl ?_
    refine g_getfieldW (q := 89) C fX7_114 dX7_count_86 rfl H20 rfl ?_
    refine g_callVi (q := 92) (As := []) C gyX6_faults gvX6_faults t_665 (c_X6_faults H35) dX7_count_89 rfl H35 rfl rfl rfl (Nat.le_of_ble_eq_true rfl) (Nat.le_of_ble_eq_true rfl) (Nat.le_of_ble_eq_true rfl) (Nat.le_of_ble_eq_true rfl) (Nat.le_of_ble_eq_true rfl) rfl ?_
    exact E.1 _ _ _ _ _ _ _ dX7_count_92 rfl rfl (Nat.le_of_ble_eq_true rfl) (Nat.le_of_ble_eq_true rfl) ⟨by decide, (fun k hk => by repeat (first | rfl | rw [List.getElem?_set_ne (by omega)]))⟩
  by_cases c_1_3 : p0 = 3
  · subst c_1_3
    refine g_tableIn (off := 92) (t := 93) C dX7_count_1 (by decide) (by decide) (by decide) (by decide) ?_
    refine g_aload_n (q := 94) C dX7_count_93 rfl rfl ?_
    refine g_getfield (q := 97) C fX7_30 dX7_count_94 rfl H0 rfl ?_
    refine g_getfield (q := 100) C fX7_197 dX7_count_97 rfl H20 rfl ?_
    exact E.1 _ _ _ _ _ _ _ dX7_count_100 rfl rfl (Nat.le_of_ble_eq_true rfl) (Nat.le_of_ble_eq_true rfl) ⟨by decide, (fun k hk => by repeat (first | rfl | rw [List.getElem?_set_ne (by omega)]))⟩
  by_cases c_1_4 : p0 = 4
  · subst c_1_4
    refine g_tableIn (off := 100) (t := 101) C dX7_count_1 (by decide) (by decide) (by decide) (by decide) ?_
    refine g_aload_n (q := 102) C dX7_count_101 rfl rfl ?_
    refine g_getfield (q := 105) C fX7_21 dX7_count_102 rfl H0 rfl ?_
    refine g_callVi (q := 108) (As := []) C gyX1_unlike gvX1_unlike t_993 (c_X1_unlike H3 H6) dX7_count_105 rfl H3 rfl rfl rfl (Nat.le_of_ble_eq_true rfl) (Nat.le_of_ble_eq_true rfl) (Nat.le_of_ble_eq_true rfl) (Nat.le_of_ble_eq_true rfl) (Nat.le_of_ble_eq_true rfl) rfl ?_
    exact E.1 _ _ _ _ _ _ _ dX7_count_108 rfl rfl (Nat.le_of_ble_eq_true rfl) (Nat.le_of_ble_eq_true rfl) ⟨by decide, (fun k hk => by repeat (first | rfl | rw [List.getElem?_set_ne (by omega)]))⟩
  by_cases c_1_5 : p0 = 5
  · subst c_1_5
    refine g_tableIn (off := 108) (t := 109) C dX7_count_1 (by decide) (by decide) (by decide) (by decide) ?_
    refine g_aload_n (q := 110) C dX7_count_109 rfl rfl ?_
    refine g_getfield (q := 113) C fX7_21 dX7_count_110 rfl H0 rfl ?_
    refine g_callVi (q := 116) (As := []) C gyX1_kept gvX1_kept t_927 (c_X1_kept H3 H14) dX7_count_113 rfl H3 rfl rfl rfl (Nat.le_of_ble_eq_true rfl) (Nat.le_of_ble_eq_true rfl) (Nat.le_of_ble_eq_true rfl) (Nat.le_of_ble_eq_true rfl) (Nat.le_of_ble_eq_true rfl) rfl ?_
    exact E.1 _ _ _ _ _ _ _ dX7_count_116 rfl rfl (Nat.le_of_ble_eq_true rfl) (Nat.le_of_ble_eq_true rfl) ⟨by decide, (fun k hk => by repeat (first | rfl | rw [List.getElem?_set_ne (by omega)]))⟩
  by_cases c_1_6 : p0 = 6
  · subst c_1_6
    refine g_tableIn (off := 116) (t := 117) C dX7_count_1 (by decide) (by decide) (by decide) (by decide) ?_
    refine g_aload_n (q := 118) C dX7_count_117 rfl rfl ?_
    refine g_getfield (q := 121) C fX7_30 dX7_count_118 rfl H0 rfl ?_
    refine g_getfieldW (q := 124) C fX7_114 dX7_count_121 rfl H20 rfl ?_
    refine g_getfield (q := 127) C fX7_130 dX7_count_124 rfl H35 rfl ?_
    exact E.1 _ _ _ _ _ _ _ dX7_count_127 rfl rfl (Nat.le_of_ble_eq_true rfl) (Nat.le_of_ble_eq_true rfl) ⟨by decide, (fun k hk => by repeat (first | rfl | rw [List.getElem?_set_ne (by omega)]))⟩
  by_cases c_1_7 : p0 = 7
  · subst c_1_7
    refine g_tableIn (off := 127) (t := 128) C dX7_count_1 (by decide) (by decide) (by decide) (by decide) ?_
    refine g_aload_n (q := 129) C dX7_count_128 rfl rfl ?_
    refine g_getfield (q := 132) C fX7_30 dX7_count_129 rfl H0 rfl ?_
    refine g_getfield (q := 135) C fX7_203 dX7_count_132 rfl H20 rfl ?_
    exact E.1 _ _ _ _ _ _ _ dX7_count_135 rfl rfl (Nat.le_of_ble_eq_true rfl) (Nat.le_of_ble_eq_true rfl) ⟨by decide, (fun k hk => by repeat (first | rfl | rw [List.getElem?_set_ne (by omega)]))⟩
  by_cases c_1_8 : p0 = 8
  · subst c_1_8
    refine g_tableIn (off := 135) (t := 136) C dX7_count_1 (by decide) (by decide) (by decide) (by decide) ?_
    refine g_aload_n (q := 137) C dX7_count_136 rfl rfl ?_
    refine g_getfield (q := 140) C fX7_30 dX7_count_137 rfl H0 rfl ?_
    refine g_getfield (q := 143) C fX7_206 dX7_count_140 rfl H20 rfl ?_
    exact E.1 _ _ _ _ _ _ _ dX7_count_143 rfl rfl (Nat.le_of_ble_eq_true rfl) (Nat.le_of_ble_eq_true rfl) ⟨by decide, (fun k hk => by repeat (first | rfl | rw [List.getElem?_set_ne (by omega)]))⟩
  by_cases c_1_9 : p0 = 9
  · subst c_1_9
    refine g_tableIn (off := 143) (t := 144) C dX7_count_1 (by decide) (by decide) (by decide) (by decide) ?_
    refine g_aload_n (q := 145) C dX7_count_144 rfl rfl ?_
    refine g_getfield (q := 148) C fX7_30 dX7_count_145 rfl H0 rfl ?_
    refine g_getfield (q := 151) C fX7_209 dX7_count_148 rfl H20 rfl ?_
    exact E.1 _ _ _ _ _ _ _ dX7_count_151 rfl rfl (Nat.le_of_ble_eq_true rfl) (Nat.le_of_ble_eq_true rfl) ⟨by decide, (fun k hk => by repeat (first | rfl | rw [List.getElem?_set_ne (by omega)]))⟩
  by_cases c_1_10 : p0 = 10
  · subst c_1_10
    refine g_tableIn (off := 151) (t := 152) C dX7_count_1 (by decide) (by decide) (by decide) (by decide) ?_
    refine g_aload_n (q := 153) C dX7_count_152 rfl rfl ?_
    refine g_getfield (q := 156) C fX7_14 dX7_count_153 rfl H0 rfl ?_
    refine g_callVi (q := 159) (As := []) C gyX4_size gvX4_size t_463 (c_X4_size H1) dX7_count_156 rfl H1 rfl rfl rfl (Nat.le_of_ble_eq_true rfl) (Nat.le_of_ble_eq_true rfl) (Nat.le_of_ble_eq_true rfl) (Nat.le_of_ble_eq_true rfl) (Nat.le_of_ble_eq_true rfl) rfl ?_
    exact E.1 _ _ _ _ _ _ _ dX7_count_159 rfl rfl (Nat.le_of_ble_eq_true rfl) (Nat.le_of_ble_eq_true rfl) ⟨by decide, (fun k hk => by repeat (first | rfl | rw [List.getElem?_set_ne (by omega)]))⟩
  refine g_tableOut (t := 160) C dX7_count_1 (gOut11 c_1_0 c_1_1 c_1_2 c_1_3 c_1_4 c_1_5 c_1_6 c_1_7 c_1_8 c_1_9 c_1_10) (by decide) ?_
  refine g_iconst (v := (-1)) (q := 161) C dX7_count_160 (by decide) rfl ?_
  exact E.1 _ _ _ _ _ _ _ dX7_count_161 rfl rfl (Nat.le_of_ble_eq_true rfl) (Nat.le_of_ble_eq_true rfl) ⟨by rw [gE2, if_neg c_1_6, if_pos (gOut11 c_1_0 c_1_1 c_1_2 c_1_3 c_1_4 c_1_5 c_1_6 c_1_7 c_1_8 c_1_9 c_1_10)], (fun k hk => by repeat (first | rfl | rw [List.getElem?_set_ne (by omega)]))⟩
end
section
/-! the class's calls on a new object that write: repeats, feed, reset (by program: wip/p1/m_fresh2.py) -/
theorem dJ7_fill_53178_0 : decode cJ7_fill_53178 0 = .ok (.iconst 0, 1) := by decide +kernel
theorem dJ7_fill_53178_1 : decode cJ7_fill_53178 1 = .ok (.istore_n 2, 1) := by decide +kernel
theorem dJ7_fill_53178_2 : decode cJ7_fill_53178 2 = .ok (.aload_n 0, 1) := by decide +kernel
theorem dJ7_fill_53178_3 : decode cJ7_fill_53178 3 = .ok (.arraylength, 1) := by decide +kernel
theorem dJ7_fill_53178_4 : decode cJ7_fill_53178 4 = .ok (.istore_n 3, 1) := by decide +kernel
theorem dJ7_fill_53178_5 : decode cJ7_fill_53178 5 = .ok (.iload_n 2, 1) := by decide +kernel
theorem dJ7_fill_53178_6 : decode cJ7_fill_53178 6 = .ok (.iload_n 3, 1) := by decide +kernel
theorem dJ7_fill_53178_7 : decode cJ7_fill_53178 7 = .ok (.if_icmp .ge 13, 3) := by decide +kernel
theorem dJ7_fill_53178_10 : decode cJ7_fill_53178 10 = .ok (.aload_n 0, 1) := by decide +kernel
theorem dJ7_fill_53178_11 : decode cJ7_fill_53178 11 = .ok (.iload_n 2, 1) := by decide +kernel
theorem dJ7_fill_53178_12 : decode cJ7_fill_53178 12 = .ok (.iload_n 1, 1) := by decide +kernel
theorem dJ7_fill_53178_13 : decode cJ7_fill_53178 13 = .ok (.iastore, 1) := by decide +kernel
theorem dJ7_fill_53178_14 : decode cJ7_fill_53178 14 = .ok (.iinc 2 1, 3) := by decide +kernel
theorem dJ7_fill_53178_17 : decode cJ7_fill_53178 17 = .ok (.goto (-12), 3) := by decide +kernel
theorem dJ7_fill_53178_20 : decode cJ7_fill_53178 20 = .ok (.return_, 1) := by decide +kernel
set_option maxRecDepth 100000 in
set_option maxHeartbeats 4000000 in
theorem c_J7_fill_53178 {hp : List gA} {a n : Nat} {x : Int32} {f0 : Nat → Int32} (ha : hp[a]? = some (.inl (n, f0))) (hn31 : n < 2 ^ 31) : gM yJ7_fill_53178 cJ7_fill_53178 4 (none) 0 0 [.ref a, .int x] (hp) (0) (0) (fun v h => v = none ∧ ∃ f1, h = hp.set a (.inl (n, f1))) := by
  refine gM_of (ls0 := [some (.ref a), some (.int x), none, none]) (by decide +kernel) (Nat.le_of_ble_eq_true rfl) rfl fun X C E => ?_
  have L1 : ∀ (d k : Nat) (f : Nat → Int32), k + d = n → gG X 5 [some (.ref a), some (.int x), some (.int (nI k)), some (.int (nI n))] [] (hp.set a (.inl (n, f))) 0 0 := by
    intro d
    induction d with
    | zero =>
      intro k f hk
      refine g_iload_n (q := 6) C dJ7_fill_53178_5 rfl rfl ?_
      refine g_iload_n (q := 7) C dJ7_fill_53178_6 rfl rfl ?_
      refine g_icmp_ge_t (t := 20) C dJ7_fill_53178_7 (by decide) (nI_le (by omega) (by omega)) ?_
      exact E.2.1 _ _ _ _ _ dJ7_fill_53178_20 rfl (Nat.le_of_ble_eq_true rfl) (Nat.le_of_ble_eq_true rfl) ⟨rfl, f, rfl⟩
    | succ d ih =>
      intro k f hk
      refine g_iload_n (q := 6) C dJ7_fill_53178_5 rfl rfl ?_
      refine g_iload_n (q := 7) C dJ7_fill_53178_6 rfl rfl ?_
      refine g_icmp_ge_f (t := 20) (q := 10) C dJ7_fill_53178_7 (by decide) rfl (nI_ge (by omega) (by omega)) ?_
      refine g_aload_n (q := 11) C dJ7_fill_53178_10 rfl rfl ?_
      refine g_iload_n (q := 12) C dJ7_fill_53178_11 rfl rfl ?_
      refine g_iload_n (q := 13) C dJ7_fill_53178_12 rfl rfl ?_
      refine g_iastoreN (j := k) (q := 14) C dJ7_fill_53178_13 rfl (gset_self ha) (vp_inN (nI_clamp (by omega)) (nI_pos (by omega)) (by omega)) (nI_clamp (by omega)) ?_
      refine g_iinc (v := nI (k + 1)) (q := 17) C dJ7_fill_53178_14 rfl (nI_1 k) (by simp only [gset]; rfl) rfl ?_
      refine g_goto (q := 5) C dJ7_fill_53178_17 (by decide) ?_
      simp only [List.set_set]
      exact ih (k + 1) _ (by omega)
  refine g_iconst (v := 0) (q := 1) C dJ7_fill_53178_0 (by decide) rfl ?_
  refine g_istore_n (q := 2) C dJ7_fill_53178_1 (Nat.le_of_ble_eq_true rfl) (by simp only [gset]; rfl) rfl ?_
  refine g_aload_n (q := 3) C dJ7_fill_53178_2 rfl rfl ?_
  refine g_arraylength (q := 4) C dJ7_fill_53178_3 rfl ha rfl ?_
  refine g_istore_n (q := 5) C dJ7_fill_53178_4 (Nat.le_of_ble_eq_true rfl) (by simp only [gset]; rfl) rfl ?_
  have h0 := L1 n 0 f0 (by omega)
  rw [gset_id ha] at h0
  exact h0
  
theorem dX0_forget_0 : decode cX0_forget 0 = .ok (.aload_n 0, 1) := by decide +kernel
theorem dX0_forget_1 : decode cX0_forget 1 = .ok (.iconst 0, 1) := by decide +kernel
theorem dX0_forget_2 : decode cX0_forget 2 = .ok (.putfield 26, 3) := by decide +kernel
theorem dX0_forget_5 : decode cX0_forget 5 = .ok (.aload_n 0, 1) := by decide +kernel
theorem dX0_forget_6 : decode cX0_forget 6 = .ok (.getfield 30, 3) := by decide +kernel
theorem dX0_forget_9 : decode cX0_forget 9 = .ok (.iconst 0, 1) := by decide +kernel
theorem dX0_forget_10 : decode cX0_forget 10 = .ok (.invokestatic 40, 3) := by decide +kernel
theorem dX0_forget_13 : decode cX0_forget 13 = .ok (.return_, 1) := by decide +kernel
set_option maxRecDepth 100000 in
set_option maxHeartbeats 4000000 in
theorem c_X0_forget {hp : List gA} {fc t o0 o1 o2 o5 o6 : Nat} {o3 : Int32} {f0 : Nat → Int32} (hf : hp[fc]? = some (.inr (.inr (0, [.ref o0, .ref o1, .ref o2, .int o3, .ref t, .ref o5, .ref o6])))) (ht : hp[t]? = some (.inl (4, f0))) : gM yX0_forget cX0_forget 1 (none) 1 23 [.ref fc] (hp) (0) (0) (fun v h => v = none ∧ ∃ f1, h = (hp.set fc (.inr (.inr (0, [.ref o0, .ref o1, .ref o2, .int 0, .ref t, .ref o5, .ref o6])))).set t (.inl (4, f1))) := by
  have n_fc_t : fc ≠ t := gne hf ht (by intro h; cases h)
  refine gM_of (ls0 := [some (.ref fc)]) (by decide +kernel) (Nat.le_of_ble_eq_true rfl) rfl fun X C E => ?_
  refine g_aload_n (q := 1) C dX0_forget_0 rfl rfl ?_
  refine g_iconst (v := 0) (q := 2) C dX0_forget_1 (by decide) rfl ?_
  refine g_putfield (q := 5) C fX0_26 dX0_forget_2 rfl hf (Nat.le_of_ble_eq_true rfl) (Or.inl rfl) rfl rfl (by intro z h; cases h) ?_
  refine g_aload_n (q := 6) C dX0_forget_5 rfl rfl ?_
  refine g_getfield (q := 9) C fX0_30 dX0_forget_6 rfl (gset_self hf) rfl ?_
  refine g_iconst (v := 0) (q := 10) C dX0_forget_9 (by decide) rfl ?_
  refine g_callSvp (q := 13) (As := [.ref t, .int 0]) C gyJ7_fill_53178 t_592 t_591 (c_J7_fill_53178 (gset_other ht n_fc_t) (by decide)) dX0_forget_10 rfl rfl rfl (Nat.le_of_ble_eq_true rfl) (Nat.le_of_ble_eq_true rfl) (Nat.le_of_ble_eq_true rfl) (Nat.le_of_ble_eq_true rfl) (Nat.le_of_ble_eq_true rfl) rfl (fun h9 z9 => ?_)
  obtain ⟨f1, rfl⟩ := z9
  exact E.2.1 _ _ _ _ _ dX0_forget_13 rfl (Nat.le_of_ble_eq_true rfl) (Nat.le_of_ble_eq_true rfl) ⟨rfl, f1, rfl⟩
def gE3 (n : Int32) : Int32 := if n < 0 then -1 else if 3 < n then -1 else 1
theorem dX7_repeats_0 : decode cX7_repeats 0 = .ok (.iload_n 1, 1) := by decide +kernel
theorem dX7_repeats_1 : decode cX7_repeats 1 = .ok (.ifCond .lt 8, 3) := by decide +kernel
theorem dX7_repeats_4 : decode cX7_repeats 4 = .ok (.iload_n 1, 1) := by decide +kernel
theorem dX7_repeats_5 : decode cX7_repeats 5 = .ok (.iconst 3, 1) := by decide +kernel
theorem dX7_repeats_6 : decode cX7_repeats 6 = .ok (.if_icmp .le 5, 3) := by decide +kernel
theorem dX7_repeats_9 : decode cX7_repeats 9 = .ok (.iconst (-1), 1) := by decide +kernel
theorem dX7_repeats_10 : decode cX7_repeats 10 = .ok (.ireturn, 1) := by decide +kernel
theorem dX7_repeats_11 : decode cX7_repeats 11 = .ok (.aload_n 0, 1) := by decide +kernel
theorem dX7_repeats_12 : decode cX7_repeats 12 = .ok (.getfield 30, 3) := by decide +kernel
theorem dX7_repeats_15 : decode cX7_repeats 15 = .ok (.getfield 114, 3) := by decide +kernel
theorem dX7_repeats_18 : decode cX7_repeats 18 = .ok (.getfield 130, 3) := by decide +kernel
theorem dX7_repeats_21 : decode cX7_repeats 21 = .ok (.istore_n 2, 1) := by decide +kernel
theorem dX7_repeats_22 : decode cX7_repeats 22 = .ok (.aload_n 0, 1) := by decide +kernel
theorem dX7_repeats_23 : decode cX7_repeats 23 = .ok (.getfield 30, 3) := by decide +kernel
theorem dX7_repeats_26 : decode cX7_repeats 26 = .ok (.getfield 114, 3) := by decide +kernel
theorem dX7_repeats_29 : decode cX7_repeats 29 = .ok (.iload_n 1, 1) := by decide +kernel
theorem dX7_repeats_30 : decode cX7_repeats 30 = .ok (.putfield 130, 3) := by decide +kernel
theorem dX7_repeats_33 : decode cX7_repeats 33 = .ok (.aload_n 0, 1) := by decide +kernel
theorem dX7_repeats_34 : decode cX7_repeats 34 = .ok (.getfield 37, 3) := by decide +kernel
theorem dX7_repeats_37 : decode cX7_repeats 37 = .ok (.invokevirtual 83, 3) := by decide +kernel
theorem dX7_repeats_40 : decode cX7_repeats 40 = .ok (.iload_n 2, 1) := by decide +kernel
theorem dX7_repeats_41 : decode cX7_repeats 41 = .ok (.ireturn, 1) := by decide +kernel
set_option maxRecDepth 100000 in
set_option maxHeartbeats 4000000 in
theorem c_X7_repeats_0 {hp : List gA} {p0 : Int32} {f113 : Nat → Int32} (H0 : hp[0]? = some (.inr (.inr (7, [.ref 1, .ref 3, .ref 20, .ref 43, .ref 116, .ref 119, .int 0])))) (H20 : hp[20]? = some (.inr (.inr (2, [.ref 21, .ref 28, .ref 35, .int 0, .int 0, .int 0, .int 0, .int 0, .ref 39, .ref 41, .ref 3, .int 3, .int 0, .int ((-1)), .int 0, .int 0, .int 0, .int 0])))) (H35 : hp[35]? = some (.inr (.inr (6, [.int 1, .int 0, .int 0, .ref 36, .ref 37, .ref 38, .int 0, .int ((-1)), .int 0, .int 0])))) (H43 : hp[43]? = some (.inr (.inr (0, [.ref 44, .ref 67, .ref 90, .int 0, .ref 113, .ref 114, .ref 115])))) (H113 : hp[113]? = some (.inl (4, f113))) : gM yX7_repeats cX7_repeats 3 ((some .int)) 2 43 [.ref 0, .int p0] (hp) (0) (0) (fun v h => v = some (.int (gE3 p0)) ∧ ∀ k, 122 ≤ k → h[k]? = hp[k]?) := by
  refine gM_of (ls0 := [some (.ref 0), some (.int p0), none]) (by decide +kernel) (Nat.le_of_ble_eq_true rfl) rfl fun X C E => ?_
  refine g_iload_n (q := 1) C dX7_repeats_0 rfl rfl ?_
  refine g_if_lt (t := 9) (q := 4) C dX7_repeats_1 (by decide) rfl (fun c_1 => ?_) (fun c_1 => ?_)
  · -- to 9
    refine g_iconst (v := (-1)) (q := 10) C dX7_repeats_9 (by decide) rfl ?_
    exact E.1 _ _ _ _ _ _ _ dX7_repeats_10 rfl rfl (Nat.le_of_ble_eq_true rfl) (Nat.le_of_ble_eq_true rfl) ⟨by simp_all [gE3, gle_lt], (fun k hk => by repeat (first | rfl | rw [List.getElem?_set_ne (by omega)]))⟩
  · -- to 4
    refine g_iload_n (q := 5) C dX7_repeats_4 rfl rfl ?_
    refine g_iconst (v := 3) (q := 6) C dX7_repeats_5 (by decide) rfl ?_
    refine g_icmp_le (t := 11) (q := 9) C dX7_repeats_6 (by decide) rfl (fun c_6 => ?_) (fun c_6 => ?_)
    · -- to 11
      refine g_aload_n (q := 12) C dX7_repeats_11 rfl rfl ?_
      refine g_getfield (q := 15) C fX7_30 dX7_repeats_12 rfl H0 rfl ?_
      refine g_getfieldW (q := 18) C fX7_114 dX7_repeats_15 rfl H20 rfl ?_
      refine g_getfield (q := 21) C fX7_130 dX7_repeats_18 rfl H35 rfl ?_
      refine g_istore_n (q := 22) C dX7_repeats_21 (Nat.le_of_ble_eq_true rfl) (by simp only [gset]; rfl) rfl ?_
      refine g_aload_n (q := 23) C dX7_repeats_22 rfl rfl ?_
      refine g_getfield (q := 26) C fX7_30 dX7_repeats_23 rfl H0 rfl ?_
      refine g_getfieldW (q := 29) C fX7_114 dX7_repeats_26 rfl H20 rfl ?_
      refine g_iload_n (q := 30) C dX7_repeats_29 rfl rfl ?_
      refine g_putfield (q := 33) C fX7_130 dX7_repeats_30 rfl H35 (Nat.le_of_ble_eq_true rfl) (Or.inl rfl) rfl rfl (by intro z h; cases h) ?_
      refine g_aload_n (q := 34) C dX7_repeats_33 rfl rfl ?_
      refine g_getfield (q := 37) C fX7_37 dX7_repeats_34 rfl (gset_other H0 (by decide)) rfl ?_
      refine g_callVvp (q := 40) (As := []) C gyX0_forget gvX0_forget t_587 (c_X0_forget (gset_other H43 (by decide)) (gset_other H113 (by decide))) dX7_repeats_37 rfl (gset_other H43 (by decide)) rfl rfl rfl (Nat.le_of_ble_eq_true rfl) (Nat.le_of_ble_eq_true rfl) (Nat.le_of_ble_eq_true rfl) (Nat.le_of_ble_eq_true rfl) (Nat.le_of_ble_eq_true rfl) rfl (fun h9 z9 => ?_)
      obtain ⟨f1, rfl⟩ := z9
      refine g_iload_n (q := 41) C dX7_repeats_40 rfl rfl ?_
      exact E.1 _ _ _ _ _ _ _ dX7_repeats_41 rfl rfl (Nat.le_of_ble_eq_true rfl) (Nat.le_of_ble_eq_true rfl) ⟨by rw [gE3, if_neg c_1, if_neg (fun h => absurd c_6 (gle_lt.mpr h))], (fun k hk => by repeat (first | rfl | rw [List.getElem?_set_ne (by omega)]))⟩
    · -- to 9
      refine g_iconst (v := (-1)) (q := 10) C dX7_repeats_9 (by decide) rfl ?_
      exact E.1 _ _ _ _ _ _ _ dX7_repeats_10 rfl rfl (Nat.le_of_ble_eq_true rfl) (Nat.le_of_ble_eq_true rfl) ⟨by simp_all [gE3, gle_lt], (fun k hk => by repeat (first | rfl | rw [List.getElem?_set_ne (by omega)]))⟩
theorem g8 (d : Nat) : nI (8 * (d + 1)) - 8 = nI (8 * d) := by
  rw [show (8 : Int32) = nI 8 from rfl, pk_sub (by omega)]
  congr 1
theorem gsw {hp : List gA} {a b : Nat} {e1 e2 e3 e4 : gA} (h : a ≠ b) : (((hp.set a e1).set b e2).set a e3).set b e4 = (hp.set a e3).set b e4 := by
  rw [List.set_comm e2 e3 (Ne.symm h), List.set_set, List.set_set]
theorem dX7_feedEight_0 : decode cX7_feedEight 0 = .ok (.bipush 56, 2) := by decide +kernel
theorem dX7_feedEight_2 : decode cX7_feedEight 2 = .ok (.istore_n 3, 1) := by decide +kernel
theorem dX7_feedEight_3 : decode cX7_feedEight 3 = .ok (.iload_n 3, 1) := by decide +kernel
theorem dX7_feedEight_4 : decode cX7_feedEight 4 = .ok (.ifCond .lt 24, 3) := by decide +kernel
theorem dX7_feedEight_7 : decode cX7_feedEight 7 = .ok (.aload_n 0, 1) := by decide +kernel
theorem dX7_feedEight_8 : decode cX7_feedEight 8 = .ok (.getfield 14, 3) := by decide +kernel
theorem dX7_feedEight_11 : decode cX7_feedEight 11 = .ok (.lload_n 1, 1) := by decide +kernel
theorem dX7_feedEight_12 : decode cX7_feedEight 12 = .ok (.iload_n 3, 1) := by decide +kernel
theorem dX7_feedEight_13 : decode cX7_feedEight 13 = .ok (.lushr, 1) := by decide +kernel
theorem dX7_feedEight_14 : decode cX7_feedEight 14 = .ok (.l2i, 1) := by decide +kernel
theorem dX7_feedEight_15 : decode cX7_feedEight 15 = .ok (.sipush 255, 3) := by decide +kernel
theorem dX7_feedEight_18 : decode cX7_feedEight 18 = .ok (.iand, 1) := by decide +kernel
theorem dX7_feedEight_19 : decode cX7_feedEight 19 = .ok (.invokevirtual 63, 3) := by decide +kernel
theorem dX7_feedEight_22 : decode cX7_feedEight 22 = .ok (.iinc 3 (-8), 3) := by decide +kernel
theorem dX7_feedEight_25 : decode cX7_feedEight 25 = .ok (.goto (-22), 3) := by decide +kernel
theorem dX7_feedEight_28 : decode cX7_feedEight 28 = .ok (.return_, 1) := by decide +kernel
set_option maxRecDepth 100000 in
set_option maxHeartbeats 4000000 in
theorem c_X7_feedEight {hp : List gA} {x t ta L x1 x2 x3 x4 x5 : Nat} {x6 : Int32} {a : Int64} {f0 : Nat → Int32} (hx : hp[x]? = some (.inr (.inr (7, [.ref t, .ref x1, .ref x2, .ref x3, .ref x4, .ref x5, .int x6])))) (ht : hp[t]? = some (.inr (.inr (4, [.ref ta, .int (nI L), .int 96])))) (hta : hp[ta]? = some (.inl (96, f0))) (hL : L + 8 ≤ 96) : gM yX7_feedEight cX7_feedEight 4 (none) 3 103 [.ref x, .long a] (hp) (0) (0) (fun v h => v = none ∧ ∃ f1, h = (hp.set ta (.inl (96, f1))).set t (.inr (.inr (4, [.ref ta, .int (nI (L + 8)), .int 96])))) := by
  refine gM_of (ls0 := [some (.ref x), some (.long a), none, none]) (by decide +kernel) (Nat.le_of_ble_eq_true rfl) rfl fun X C E => ?_
  have n_t_ta : t ≠ ta := gne ht hta (by intro h; cases h)
  have n_ta_t : ta ≠ t := Ne.symm n_t_ta
  have n_ta_x : ta ≠ x := gne hta hx (by intro h; cases h)
  have n_t_x : t ≠ x := gne ht hx (by intro h; cases h)
  have L1 : ∀ (d k : Nat) (f : Nat → Int32), k + d = 8 → gG X 3 [some (.ref x), some (.long a), none, some (.int (nI (8 * d) - 8))] [] ((hp.set ta (.inl (96, f))).set t (.inr (.inr (4, [.ref ta, .int (nI (L + k)), .int 96])))) 0 0 := by
    intro d
    induction d with
    | zero =>
      intro k f hk
      have hk8 : k = 8 := by omega
      subst hk8
      refine g_iload_n (q := 4) C dX7_feedEight_3 rfl rfl ?_
      refine g_if_lt_t (t := 28) C dX7_feedEight_4 (by decide) (by decide) ?_
      exact E.2.1 _ _ _ _ _ dX7_feedEight_28 rfl (Nat.le_of_ble_eq_true rfl) (Nat.le_of_ble_eq_true rfl) ⟨rfl, f, rfl⟩
    | succ d ih =>
      intro k f hk
      refine g_iload_n (q := 4) C dX7_feedEight_3 rfl rfl ?_
      refine g_if_lt_f (t := 28) (q := 7) C dX7_feedEight_4 (by decide) rfl (by rw [g8]; exact nI_pos (by omega)) ?_
      refine g_aload_n (q := 8) C dX7_feedEight_7 rfl rfl ?_
      refine g_getfield (q := 11) C fX7_14 dX7_feedEight_8 rfl (gset_other (gset_other hx n_ta_x) n_t_x) rfl ?_
      refine g_lload_n (q := 12) C dX7_feedEight_11 rfl rfl ?_
      refine g_iload_n (q := 13) C dX7_feedEight_12 rfl rfl ?_
      refine g_lushr (q := 14) C dX7_feedEight_13 rfl ?_
      refine g_l2i (q := 15) C dX7_feedEight_14 rfl ?_
      refine g_sipush (v := 255) (q := 18) C dX7_feedEight_15 (by decide) rfl ?_
      refine g_iand (q := 19) C dX7_feedEight_18 rfl ?_
      refine g_callVv (q := 22) (As := [.int _]) C gyX4_add gvX4_add t_471 (c_X4_add_in (gset_self (gset_other ht n_ta_t)) (gset_other (gset_self hta) n_t_ta) (nI_lt (b := 96) (by omega) (by omega)) (nI_lt (b := 96) (by omega) (by omega)) (nI_pos (by omega)) (nI_ge (b := 96) (by omega) (by omega)) (vp_in_nI (by omega) (by omega))) dX7_feedEight_19 rfl (gset_self (gset_other ht n_ta_t)) rfl rfl rfl (Nat.le_of_ble_eq_true rfl) (Nat.le_of_ble_eq_true rfl) (Nat.le_of_ble_eq_true rfl) (Nat.le_of_ble_eq_true rfl) (Nat.le_of_ble_eq_true rfl) rfl ?_
      refine g_iinc (v := nI (8 * d) - 8) (q := 25) C dX7_feedEight_22 rfl (by rw [g8, Int32.sub_eq_add_neg]; rfl) (by simp only [gset]; rfl) rfl ?_
      refine g_goto (q := 3) C dX7_feedEight_25 (by decide) ?_
      refine g_heap (gsw n_ta_t) ?_
      rw [nI_1, Nat.add_assoc]
      exact ih (k + 1) _ (by omega)
  refine g_bipush (v := 56) (q := 2) C dX7_feedEight_0 (by decide) rfl ?_
  refine g_istore_n (q := 3) C dX7_feedEight_2 (Nat.le_of_ble_eq_true rfl) (by simp only [gset]; rfl) rfl ?_
  have h0 := L1 8 0 f0 (by omega)
  rw [gset_id hta, Nat.add_zero, gset_id ht] at h0
  exact h0
  
theorem dX7_feed_0 : decode cX7_feed 0 = .ok (.aload_n 0, 1) := by decide +kernel
theorem dX7_feed_1 : decode cX7_feed 1 = .ok (.getfield 14, 3) := by decide +kernel
theorem dX7_feed_4 : decode cX7_feed 4 = .ok (.invokevirtual 55, 3) := by decide +kernel
theorem dX7_feed_7 : decode cX7_feed 7 = .ok (.bipush 16, 2) := by decide +kernel
theorem dX7_feed_9 : decode cX7_feed 9 = .ok (.iadd, 1) := by decide +kernel
theorem dX7_feed_10 : decode cX7_feed 10 = .ok (.bipush 96, 2) := by decide +kernel
theorem dX7_feed_12 : decode cX7_feed 12 = .ok (.if_icmp .le 5, 3) := by decide +kernel
theorem dX7_feed_17 : decode cX7_feed 17 = .ok (.aload_n 0, 1) := by decide +kernel
theorem dX7_feed_18 : decode cX7_feed 18 = .ok (.lload_n 1, 1) := by decide +kernel
theorem dX7_feed_19 : decode cX7_feed 19 = .ok (.invokevirtual 59, 3) := by decide +kernel
theorem dX7_feed_22 : decode cX7_feed 22 = .ok (.aload_n 0, 1) := by decide +kernel
theorem dX7_feed_23 : decode cX7_feed 23 = .ok (.lload_n 3, 1) := by decide +kernel
theorem dX7_feed_24 : decode cX7_feed 24 = .ok (.invokevirtual 59, 3) := by decide +kernel
theorem dX7_feed_27 : decode cX7_feed 27 = .ok (.aload_n 0, 1) := by decide +kernel
theorem dX7_feed_28 : decode cX7_feed 28 = .ok (.getfield 14, 3) := by decide +kernel
theorem dX7_feed_31 : decode cX7_feed 31 = .ok (.invokevirtual 55, 3) := by decide +kernel
theorem dX7_feed_34 : decode cX7_feed 34 = .ok (.ireturn, 1) := by decide +kernel
set_option maxRecDepth 100000 in
set_option maxHeartbeats 4000000 in
theorem c_X7_feed_0 {hp : List gA} {p0 : Int64} {p1 : Int64} {f2 : Nat → Int32} (H0 : hp[0]? = some (.inr (.inr (7, [.ref 1, .ref 3, .ref 20, .ref 43, .ref 116, .ref 119, .int 0])))) (H1 : hp[1]? = some (.inr (.inr (4, [.ref 2, .int 0, .int 96])))) (H2 : hp[2]? = some (.inl (96, f2))) : gM yX7_feed cX7_feed 5 ((some .int)) 4 126 [.ref 0, .long p0, .long p1] (hp) (0) (0) (fun v h => v = some (.int (16)) ∧ ∀ k, 122 ≤ k → h[k]? = hp[k]?) := by
  refine gM_of (ls0 := [some (.ref 0), some (.long p0), none, some (.long p1), none]) (by decide +kernel) (Nat.le_of_ble_eq_true rfl) rfl fun X C E => ?_
  refine g_aload_n (q := 1) C dX7_feed_0 rfl rfl ?_
  refine g_getfield (q := 4) C fX7_14 dX7_feed_1 rfl H0 rfl ?_
  refine g_callVi (q := 7) (As := []) C gyX4_size gvX4_size t_463 (c_X4_size H1) dX7_feed_4 rfl H1 rfl rfl rfl (Nat.le_of_ble_eq_true rfl) (Nat.le_of_ble_eq_true rfl) (Nat.le_of_ble_eq_true rfl) (Nat.le_of_ble_eq_true rfl) (Nat.le_of_ble_eq_true rfl) rfl ?_
  refine g_bipush (v := 16) (q := 9) C dX7_feed_7 (by decide) rfl ?_
  refine g_iadd (q := 10) C dX7_feed_9 rfl ?_
  refine g_bipush (v := 96) (q := 12) C dX7_feed_10 (by decide) rfl ?_
  refine g_icmp_le_t (t := 17) C dX7_feed_12 (by decide) (by decide) ?_
  refine g_aload_n (q := 18) C dX7_feed_17 rfl rfl ?_
  refine g_lload_n (q := 19) C dX7_feed_18 rfl rfl ?_
  refine g_callVvp (q := 22) (As := [.long p0]) C gyX7_feedEight gvX7_feedEight t_467 (c_X7_feedEight (L := 0) H0 H1 H2 (by decide)) dX7_feed_19 rfl H0 rfl rfl rfl (Nat.le_of_ble_eq_true rfl) (Nat.le_of_ble_eq_true rfl) (Nat.le_of_ble_eq_true rfl) (Nat.le_of_ble_eq_true rfl) (Nat.le_of_ble_eq_true rfl) rfl (fun h9 z9 => ?_)
  obtain ⟨f11, rfl⟩ := z9
  refine g_aload_n (q := 23) C dX7_feed_22 rfl rfl ?_
  refine g_lload_n (q := 24) C dX7_feed_23 rfl rfl ?_
  refine g_callVvp (q := 27) (As := [.long p1]) C gyX7_feedEight gvX7_feedEight t_467 (c_X7_feedEight (L := 8) (gset_other (gset_other H0 (by decide)) (by decide)) (gset_self (gset_other H1 (by decide))) (gset_other (gset_self H2) (by decide)) (by decide)) dX7_feed_24 rfl (gset_other (gset_other H0 (by decide)) (by decide)) rfl rfl rfl (Nat.le_of_ble_eq_true rfl) (Nat.le_of_ble_eq_true rfl) (Nat.le_of_ble_eq_true rfl) (Nat.le_of_ble_eq_true rfl) (Nat.le_of_ble_eq_true rfl) rfl (fun h9 z9 => ?_)
  obtain ⟨f12, rfl⟩ := z9
  refine g_aload_n (q := 28) C dX7_feed_27 rfl rfl ?_
  refine g_getfield (q := 31) C fX7_14 dX7_feed_28 rfl (gset_other (gset_other (gset_other (gset_other H0 (by decide)) (by decide)) (by decide)) (by decide)) rfl ?_
  refine g_callVi (q := 34) (As := []) C gyX4_size gvX4_size t_463 (c_X4_size (gset_self (gset_other (gset_self (gset_other H1 (by decide))) (by decide)))) dX7_feed_31 rfl (gset_self (gset_other (gset_self (gset_other H1 (by decide))) (by decide))) rfl rfl rfl (Nat.le_of_ble_eq_true rfl) (Nat.le_of_ble_eq_true rfl) (Nat.le_of_ble_eq_true rfl) (Nat.le_of_ble_eq_true rfl) (Nat.le_of_ble_eq_true rfl) rfl ?_
  exact E.1 _ _ _ _ _ _ _ dX7_feed_34 rfl rfl (Nat.le_of_ble_eq_true rfl) (Nat.le_of_ble_eq_true rfl) ⟨rfl, (fun k hk => by repeat (first | rfl | rw [List.getElem?_set_ne (by omega)]))⟩
theorem dX3_clear_0 : decode cX3_clear 0 = .ok (.aload_n 0, 1) := by decide +kernel
theorem dX3_clear_1 : decode cX3_clear 1 = .ok (.bipush 17, 2) := by decide +kernel
theorem dX3_clear_3 : decode cX3_clear 3 = .ok (.putfield 38, 3) := by decide +kernel
theorem dX3_clear_6 : decode cX3_clear 6 = .ok (.aload_n 0, 1) := by decide +kernel
theorem dX3_clear_7 : decode cX3_clear 7 = .ok (.iconst 0, 1) := by decide +kernel
theorem dX3_clear_8 : decode cX3_clear 8 = .ok (.putfield 42, 3) := by decide +kernel
theorem dX3_clear_11 : decode cX3_clear 11 = .ok (.aload_n 0, 1) := by decide +kernel
theorem dX3_clear_12 : decode cX3_clear 12 = .ok (.iconst 0, 1) := by decide +kernel
theorem dX3_clear_13 : decode cX3_clear 13 = .ok (.putfield 45, 3) := by decide +kernel
theorem dX3_clear_16 : decode cX3_clear 16 = .ok (.aload_n 0, 1) := by decide +kernel
theorem dX3_clear_17 : decode cX3_clear 17 = .ok (.iconst 0, 1) := by decide +kernel
theorem dX3_clear_18 : decode cX3_clear 18 = .ok (.putfield 48, 3) := by decide +kernel
theorem dX3_clear_21 : decode cX3_clear 21 = .ok (.aload_n 0, 1) := by decide +kernel
theorem dX3_clear_22 : decode cX3_clear 22 = .ok (.bipush 32, 2) := by decide +kernel
theorem dX3_clear_24 : decode cX3_clear 24 = .ok (.putfield 51, 3) := by decide +kernel
theorem dX3_clear_27 : decode cX3_clear 27 = .ok (.aload_n 0, 1) := by decide +kernel
theorem dX3_clear_28 : decode cX3_clear 28 = .ok (.iconst 0, 1) := by decide +kernel
theorem dX3_clear_29 : decode cX3_clear 29 = .ok (.putfield 54, 3) := by decide +kernel
theorem dX3_clear_32 : decode cX3_clear 32 = .ok (.aload_n 0, 1) := by decide +kernel
theorem dX3_clear_33 : decode cX3_clear 33 = .ok (.getfield 14, 3) := by decide +kernel
theorem dX3_clear_36 : decode cX3_clear 36 = .ok (.iconst 0, 1) := by decide +kernel
theorem dX3_clear_37 : decode cX3_clear 37 = .ok (.invokevirtual 58, 3) := by decide +kernel
theorem dX3_clear_40 : decode cX3_clear 40 = .ok (.aload_n 0, 1) := by decide +kernel
theorem dX3_clear_41 : decode cX3_clear 41 = .ok (.iconst 0, 1) := by decide +kernel
theorem dX3_clear_42 : decode cX3_clear 42 = .ok (.putfield 62, 3) := by decide +kernel
theorem dX3_clear_45 : decode cX3_clear 45 = .ok (.return_, 1) := by decide +kernel
set_option maxRecDepth 100000 in
set_option maxHeartbeats 4000000 in
theorem c_X3_clear_0 {hp : List gA}  (H119 : hp[119]? = some (.inr (.inr (3, [.int 0, .int 0, .int 0, .int 0, .int 0, .int 0, .int 0, .ref 120, .int 0, .int 0, .int 0])))) (H120 : hp[120]? = some (.inr (.inr (4, [.ref 121, .int 0, .int 15])))) : gM yX3_clear cX3_clear 1 (none) 2 42 [.ref 119] (hp) (0) (0) (fun v h => v = none ∧ (∃ fs, h[119]? = some (.inr (.inr (3, fs)))) ∧ ∀ k, k ≠ 119 → k ≠ 120 → h[k]? = hp[k]?) := by
  refine gM_of (ls0 := [some (.ref 119)]) (by decide +kernel) (Nat.le_of_ble_eq_true rfl) rfl fun X C E => ?_
  refine g_aload_n (q := 1) C dX3_clear_0 rfl rfl ?_
  refine g_bipush (v := 17) (q := 3) C dX3_clear_1 (by decide) rfl ?_
  refine g_putfield (q := 6) C fX3_38 dX3_clear_3 rfl H119 (Nat.le_of_ble_eq_true rfl) (Or.inl rfl) rfl rfl (by intro z h; cases h) ?_
  refine g_aload_n (q := 7) C dX3_clear_6 rfl rfl ?_
  refine g_iconst (v := 0) (q := 8) C dX3_clear_7 (by decide) rfl ?_
  refine g_putfield (q := 11) C fX3_42 dX3_clear_8 rfl (gset_self H119) (Nat.le_of_ble_eq_true rfl) (Or.inl rfl) rfl rfl (by intro z h; cases h) ?_
  refine g_aload_n (q := 12) C dX3_clear_11 rfl rfl ?_
  refine g_iconst (v := 0) (q := 13) C dX3_clear_12 (by decide) rfl ?_
  refine g_putfield (q := 16) C fX3_45 dX3_clear_13 rfl (gset_self (gset_self H119)) (Nat.le_of_ble_eq_true rfl) (Or.inl rfl) rfl rfl (by intro z h; cases h) ?_
  refine g_aload_n (q := 17) C dX3_clear_16 rfl rfl ?_
  refine g_iconst (v := 0) (q := 18) C dX3_clear_17 (by decide) rfl ?_
  refine g_putfield (q := 21) C fX3_48 dX3_clear_18 rfl (gset_self (gset_self (gset_self H119))) (Nat.le_of_ble_eq_true rfl) (Or.inl rfl) rfl rfl (by intro z h; cases h) ?_
  refine g_aload_n (q := 22) C dX3_clear_21 rfl rfl ?_
  refine g_bipush (v := 32) (q := 24) C dX3_clear_22 (by decide) rfl ?_
  refine g_putfield (q := 27) C fX3_51 dX3_clear_24 rfl (gset_self (gset_self (gset_self (gset_self H119)))) (Nat.le_of_ble_eq_true rfl) (Or.inl rfl) rfl rfl (by intro z h; cases h) ?_
  refine g_aload_n (q := 28) C dX3_clear_27 rfl rfl ?_
  refine g_iconst (v := 0) (q := 29) C dX3_clear_28 (by decide) rfl ?_
  refine g_putfield (q := 32) C fX3_54 dX3_clear_29 rfl (gset_self (gset_self (gset_self (gset_self (gset_self H119))))) (Nat.le_of_ble_eq_true rfl) (Or.inl rfl) rfl rfl (by intro z h; cases h) ?_
  refine g_aload_n (q := 33) C dX3_clear_32 rfl rfl ?_
  refine g_getfield (q := 36) C fX3_14 dX3_clear_33 rfl (gset_self (gset_self (gset_self (gset_self (gset_self (gset_self H119)))))) rfl ?_
  refine g_iconst (v := 0) (q := 37) C dX3_clear_36 (by decide) rfl ?_
  refine g_callVv (q := 40) (As := [.int 0]) C gyX4_keep gvX4_keep t_512 (c_X4_keep (gset_other (gset_other (gset_other (gset_other (gset_other (gset_other H120 (by decide)) (by decide)) (by decide)) (by decide)) (by decide)) (by decide))) dX3_clear_37 rfl (gset_other (gset_other (gset_other (gset_other (gset_other (gset_other H120 (by decide)) (by decide)) (by decide)) (by decide)) (by decide)) (by decide)) rfl rfl rfl (Nat.le_of_ble_eq_true rfl) (Nat.le_of_ble_eq_true rfl) (Nat.le_of_ble_eq_true rfl) (Nat.le_of_ble_eq_true rfl) (Nat.le_of_ble_eq_true rfl) rfl ?_
  refine g_aload_n (q := 41) C dX3_clear_40 rfl rfl ?_
  refine g_iconst (v := 0) (q := 42) C dX3_clear_41 (by decide) rfl ?_
  refine g_putfield (q := 45) C fX3_62 dX3_clear_42 rfl (gset_other (gset_self (gset_self (gset_self (gset_self (gset_self (gset_self H119)))))) (by decide)) (Nat.le_of_ble_eq_true rfl) (Or.inl rfl) rfl rfl (by intro z h; cases h) ?_
  exact E.2.1 _ _ _ _ _ dX3_clear_45 rfl (Nat.le_of_ble_eq_true rfl) (Nat.le_of_ble_eq_true rfl) ⟨rfl, ⟨_, (gset_self (gset_other (gset_self (gset_self (gset_self (gset_self (gset_self (gset_self H119)))))) (by decide)))⟩, fun k h1 h2 => by repeat (first | rfl | rw [List.getElem?_set_ne (Ne.symm h1)] | rw [List.getElem?_set_ne (Ne.symm h2)])⟩
theorem dX3_readHead_0 : decode cX3_readHead 0 = .ok (.aload_n 1, 1) := by decide +kernel
theorem dX3_readHead_1 : decode cX3_readHead 1 = .ok (.invokevirtual 65, 3) := by decide +kernel
theorem dX3_readHead_4 : decode cX3_readHead 4 = .ok (.ifCond .ne 9, 3) := by decide +kernel
theorem dX3_readHead_7 : decode cX3_readHead 7 = .ok (.iconst 0, 1) := by decide +kernel
theorem dX3_readHead_8 : decode cX3_readHead 8 = .ok (.iconst 1, 1) := by decide +kernel
theorem dX3_readHead_9 : decode cX3_readHead 9 = .ok (.invokestatic 69, 3) := by decide +kernel
theorem dX3_readHead_12 : decode cX3_readHead 12 = .ok (.ireturn, 1) := by decide +kernel
set_option maxRecDepth 100000 in
set_option maxHeartbeats 4000000 in
theorem c_X3_readHead_0 {hp : List gA} {rs : Nat} (H1 : hp[1]? = some (.inr (.inr (4, [.ref 2, .int 0, .int 96])))) : gM yX3_readHead cX3_readHead 2 ((some .int)) 1 21 [.ref rs, .ref 1] (hp) (0) (0) (fun v h => v = some (.int 1) ∧ h = hp) := by
  refine gM_of (ls0 := [some (.ref rs), some (.ref 1)]) (by decide +kernel) (Nat.le_of_ble_eq_true rfl) rfl fun X C E => ?_
  refine g_aload_n (q := 1) C dX3_readHead_0 rfl rfl ?_
  refine g_callVi (q := 4) (As := []) C gyX4_size gvX4_size t_517 (c_X4_size H1) dX3_readHead_1 rfl H1 rfl rfl rfl (Nat.le_of_ble_eq_true rfl) (Nat.le_of_ble_eq_true rfl) (Nat.le_of_ble_eq_true rfl) (Nat.le_of_ble_eq_true rfl) (Nat.le_of_ble_eq_true rfl) rfl ?_
  refine g_if_ne_f (t := 13) (q := 7) C dX3_readHead_4 (by decide) rfl (by decide) ?_
  refine g_iconst (v := 0) (q := 8) C dX3_readHead_7 (by decide) rfl ?_
  refine g_iconst (v := 1) (q := 9) C dX3_readHead_8 (by decide) rfl ?_
  refine g_callSi (q := 12) (As := [.int 0, .int 1]) C gyX3_faultAt t_519 t_518 (c_X3_faultAt) dX3_readHead_9 rfl rfl rfl (Nat.le_of_ble_eq_true rfl) (Nat.le_of_ble_eq_true rfl) (Nat.le_of_ble_eq_true rfl) (Nat.le_of_ble_eq_true rfl) (Nat.le_of_ble_eq_true rfl) rfl ?_
  exact E.1 _ _ _ _ _ _ _ dX3_readHead_12 rfl rfl (Nat.le_of_ble_eq_true rfl) (Nat.le_of_ble_eq_true rfl) ⟨rfl, rfl⟩
theorem dX3_read_0 : decode cX3_read 0 = .ok (.aload_n 0, 1) := by decide +kernel
theorem dX3_read_1 : decode cX3_read 1 = .ok (.invokevirtual 20, 3) := by decide +kernel
theorem dX3_read_4 : decode cX3_read 4 = .ok (.aload_n 0, 1) := by decide +kernel
theorem dX3_read_5 : decode cX3_read 5 = .ok (.aload_n 1, 1) := by decide +kernel
theorem dX3_read_6 : decode cX3_read 6 = .ok (.invokevirtual 23, 3) := by decide +kernel
theorem dX3_read_9 : decode cX3_read 9 = .ok (.istore_n 2, 1) := by decide +kernel
theorem dX3_read_10 : decode cX3_read 10 = .ok (.iload_n 2, 1) := by decide +kernel
theorem dX3_read_11 : decode cX3_read 11 = .ok (.ifCond .ne 9, 3) := by decide +kernel
theorem dX3_read_20 : decode cX3_read 20 = .ok (.iload_n 2, 1) := by decide +kernel
theorem dX3_read_21 : decode cX3_read 21 = .ok (.ifCond .ne 17, 3) := by decide +kernel
theorem dX3_read_38 : decode cX3_read 38 = .ok (.iload_n 2, 1) := by decide +kernel
theorem dX3_read_39 : decode cX3_read 39 = .ok (.ireturn, 1) := by decide +kernel
set_option maxRecDepth 100000 in
set_option maxHeartbeats 4000000 in
theorem c_X3_read_0 {hp : List gA}  (H1 : hp[1]? = some (.inr (.inr (4, [.ref 2, .int 0, .int 96])))) (H119 : hp[119]? = some (.inr (.inr (3, [.int 0, .int 0, .int 0, .int 0, .int 0, .int 0, .int 0, .ref 120, .int 0, .int 0, .int 0])))) (H120 : hp[120]? = some (.inr (.inr (4, [.ref 121, .int 0, .int 15])))) : gM yX3_read cX3_read 3 ((some .int)) 4 127 [.ref 119, .ref 1] (hp) (0) (0) (fun v h => v = some (.int 1) ∧ ∀ k, k ≠ 119 → k ≠ 120 → h[k]? = hp[k]?) := by
  refine gM_of (ls0 := [some (.ref 119), some (.ref 1), none]) (by decide +kernel) (Nat.le_of_ble_eq_true rfl) rfl fun X C E => ?_
  refine g_aload_n (q := 1) C dX3_read_0 rfl rfl ?_
  refine g_callVvp (q := 4) (As := []) C gyX3_clear gvX3_clear t_508 (c_X3_clear_0 H119 H120) dX3_read_1 rfl H119 rfl rfl rfl (Nat.le_of_ble_eq_true rfl) (Nat.le_of_ble_eq_true rfl) (Nat.le_of_ble_eq_true rfl) (Nat.le_of_ble_eq_true rfl) (Nat.le_of_ble_eq_true rfl) rfl (fun h9 z9 => ?_)
  obtain ⟨⟨fs9, e119⟩, fr9⟩ := z9
  refine g_aload_n (q := 5) C dX3_read_4 rfl rfl ?_
  refine g_aload_n (q := 6) C dX3_read_5 rfl rfl ?_
  refine g_callVi (q := 9) (As := [.ref 1]) C gyX3_readHead gvX3_readHead t_513 (c_X3_readHead_0 ((fr9 1 (by decide) (by decide)).trans H1)) dX3_read_6 rfl e119 rfl rfl rfl (Nat.le_of_ble_eq_true rfl) (Nat.le_of_ble_eq_true rfl) (Nat.le_of_ble_eq_true rfl) (Nat.le_of_ble_eq_true rfl) (Nat.le_of_ble_eq_true rfl) rfl ?_
  refine g_istore_n (q := 10) C dX3_read_9 (Nat.le_of_ble_eq_true rfl) (by simp only [gset]; rfl) rfl ?_
  refine g_iload_n (q := 11) C dX3_read_10 rfl rfl ?_
  refine g_if_ne_t (t := 20) C dX3_read_11 (by decide) (by decide) ?_
  refine g_iload_n (q := 21) C dX3_read_20 rfl rfl ?_
  refine g_if_ne_t (t := 38) C dX3_read_21 (by decide) (by decide) ?_
  refine g_iload_n (q := 39) C dX3_read_38 rfl rfl ?_
  exact E.1 _ _ _ _ _ _ _ dX3_read_39 rfl rfl (Nat.le_of_ble_eq_true rfl) (Nat.le_of_ble_eq_true rfl) ⟨rfl, fr9⟩
theorem gM_ip {y : MethodName} {bytes : ByteArray} {maxL : Nat} {ret : Option FieldType} {fr lo : Nat} {av : List Value} {hp : List gA} {mc ms : Nat} {x : Int32} {P : List gA → Prop} (h : gM y bytes maxL ret fr lo av hp mc ms (fun v h => v = some (.int x) ∧ P h)) : gM y bytes maxL ret fr lo av hp mc ms (fun v h => ∃ z, v = some (.int z) ∧ (z = x ∧ P h)) := by
  have e : (fun (v : Option Value) (h : List gA) => ∃ z, v = some (.int z) ∧ (z = x ∧ P h)) = (fun v h => v = some (.int x) ∧ P h) := by
    funext v h
    apply propext
    constructor
    · rintro ⟨z, a, rfl, b⟩; exact ⟨a, b⟩
    · rintro ⟨a, b⟩; exact ⟨x, a, rfl, b⟩
  rw [e]; exact h
theorem dX7_reset_0 : decode cX7_reset 0 = .ok (.aload_n 0, 1) := by decide +kernel
theorem dX7_reset_1 : decode cX7_reset 1 = .ok (.getfield 48, 3) := by decide +kernel
theorem dX7_reset_4 : decode cX7_reset 4 = .ok (.aload_n 0, 1) := by decide +kernel
theorem dX7_reset_5 : decode cX7_reset 5 = .ok (.getfield 14, 3) := by decide +kernel
theorem dX7_reset_8 : decode cX7_reset 8 = .ok (.invokevirtual 70, 3) := by decide +kernel
theorem dX7_reset_11 : decode cX7_reset 11 = .ok (.istore_n 1, 1) := by decide +kernel
theorem dX7_reset_12 : decode cX7_reset 12 = .ok (.aload_n 0, 1) := by decide +kernel
theorem dX7_reset_13 : decode cX7_reset 13 = .ok (.getfield 14, 3) := by decide +kernel
theorem dX7_reset_16 : decode cX7_reset 16 = .ok (.iconst 0, 1) := by decide +kernel
theorem dX7_reset_17 : decode cX7_reset 17 = .ok (.invokevirtual 67, 3) := by decide +kernel
theorem dX7_reset_20 : decode cX7_reset 20 = .ok (.iload_n 1, 1) := by decide +kernel
theorem dX7_reset_21 : decode cX7_reset 21 = .ok (.ifCond .eq 8, 3) := by decide +kernel
theorem dX7_reset_24 : decode cX7_reset 24 = .ok (.bipush (-2), 2) := by decide +kernel
theorem dX7_reset_26 : decode cX7_reset 26 = .ok (.iload_n 1, 1) := by decide +kernel
theorem dX7_reset_27 : decode cX7_reset 27 = .ok (.isub, 1) := by decide +kernel
theorem dX7_reset_28 : decode cX7_reset 28 = .ok (.ireturn, 1) := by decide +kernel
set_option maxRecDepth 100000 in
set_option maxHeartbeats 4000000 in
theorem c_X7_reset_0 {hp : List gA}  (H0 : hp[0]? = some (.inr (.inr (7, [.ref 1, .ref 3, .ref 20, .ref 43, .ref 116, .ref 119, .int 0])))) (H1 : hp[1]? = some (.inr (.inr (4, [.ref 2, .int 0, .int 96])))) (H119 : hp[119]? = some (.inr (.inr (3, [.int 0, .int 0, .int 0, .int 0, .int 0, .int 0, .int 0, .ref 120, .int 0, .int 0, .int 0])))) (H120 : hp[120]? = some (.inr (.inr (4, [.ref 121, .int 0, .int 15])))) : gM yX7_reset cX7_reset 3 ((some .int)) 5 149 [.ref 0] (hp) (0) (0) (fun v h => v = some (.int (-3)) ∧ ∀ k, 122 ≤ k → h[k]? = hp[k]?) := by
  refine gM_of (ls0 := [some (.ref 0), none, none]) (by decide +kernel) (Nat.le_of_ble_eq_true rfl) rfl fun X C E => ?_
  refine g_aload_n (q := 1) C dX7_reset_0 rfl rfl ?_
  refine g_getfield (q := 4) C fX7_48 dX7_reset_1 rfl H0 rfl ?_
  refine g_aload_n (q := 5) C dX7_reset_4 rfl rfl ?_
  refine g_getfield (q := 8) C fX7_14 dX7_reset_5 rfl H0 rfl ?_
  refine g_callVip (q := 11) (As := [.ref 1]) C gyX3_read gvX3_read t_504 (gM_ip (c_X3_read_0 H1 H119 H120)) dX7_reset_8 rfl H119 rfl rfl rfl (Nat.le_of_ble_eq_true rfl) (Nat.le_of_ble_eq_true rfl) (Nat.le_of_ble_eq_true rfl) (Nat.le_of_ble_eq_true rfl) (Nat.le_of_ble_eq_true rfl) rfl (fun x9 h9 z9 => ?_)
  obtain ⟨rfl, fr9⟩ := z9
  refine g_istore_n (q := 12) C dX7_reset_11 (Nat.le_of_ble_eq_true rfl) (by simp only [gset]; rfl) rfl ?_
  refine g_aload_n (q := 13) C dX7_reset_12 rfl rfl ?_
  refine g_getfield (q := 16) C fX7_14 dX7_reset_13 rfl ((fr9 0 (by decide) (by decide)).trans H0) rfl ?_
  refine g_iconst (v := 0) (q := 17) C dX7_reset_16 (by decide) rfl ?_
  refine g_callVv (q := 20) (As := [.int 0]) C gyX4_keep gvX4_keep t_496 (c_X4_keep ((fr9 1 (by decide) (by decide)).trans H1)) dX7_reset_17 rfl ((fr9 1 (by decide) (by decide)).trans H1) rfl rfl rfl (Nat.le_of_ble_eq_true rfl) (Nat.le_of_ble_eq_true rfl) (Nat.le_of_ble_eq_true rfl) (Nat.le_of_ble_eq_true rfl) (Nat.le_of_ble_eq_true rfl) rfl ?_
  refine g_iload_n (q := 21) C dX7_reset_20 rfl rfl ?_
  refine g_if_eq_f (t := 29) (q := 24) C dX7_reset_21 (by decide) rfl (by decide) ?_
  refine g_bipush (v := (-2)) (q := 26) C dX7_reset_24 (by decide) rfl ?_
  refine g_iload_n (q := 27) C dX7_reset_26 rfl rfl ?_
  refine g_isub (q := 28) C dX7_reset_27 rfl ?_
  exact E.1 _ _ _ _ _ _ _ dX7_reset_28 rfl rfl (Nat.le_of_ble_eq_true rfl) (Nat.le_of_ble_eq_true rfl) ⟨rfl, fun k hk => (List.getElem?_set_ne (by omega)).trans (fr9 k (by omega) (by omega))⟩
end
section
/-! the end -/
theorem gZend : True := trivial
end
