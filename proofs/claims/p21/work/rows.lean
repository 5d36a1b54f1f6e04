section
-- ===== PART A: goes FIRST, ahead of the names: the tables' words, and 'selects' of the private methods out of them =====
/-- a private method of a class that the tables say can be made, by its rows of tables_1 -/
def lw_okq (q : MethodName × Nat) : Prop := (q.1.cls ≠ "java/lang/invoke/MethodHandle" ∧ q.1.cls ≠ "java/lang/invoke/VarHandle") ∧ Cond.instantiable q.1.cls q.2 ∈ tables_1 ∧ Cond.privateMethod q.1 ∈ tables_1 ∧ Cond.instanceMethod q.1 ∈ tables_1
theorem lw_p0 : lw_okq (⟨"CardLink$ResetAnswer", "clear", "()V"⟩, 11) := ⟨⟨by decide +kernel, by decide +kernel⟩, List.mem_of_getElem? (i := 290) (by decide +kernel), List.mem_of_getElem? (i := 362) (by decide +kernel), List.mem_of_getElem? (i := 363) (by decide +kernel)⟩
theorem lw_p1 : lw_okq (⟨"CardLink$ResetAnswer", "readHead", "(LCardLink$Row;)I"⟩, 11) := ⟨⟨by decide +kernel, by decide +kernel⟩, List.mem_of_getElem? (i := 290) (by decide +kernel), List.mem_of_getElem? (i := 373) (by decide +kernel), List.mem_of_getElem? (i := 374) (by decide +kernel)⟩
theorem lw_p2 : lw_okq (⟨"CardLink$ResetAnswer", "readGroups", "(LCardLink$Row;)I"⟩, 11) := ⟨⟨by decide +kernel, by decide +kernel⟩, List.mem_of_getElem? (i := 290) (by decide +kernel), List.mem_of_getElem? (i := 388) (by decide +kernel), List.mem_of_getElem? (i := 389) (by decide +kernel)⟩
theorem lw_p3 : lw_okq (⟨"CardLink$ResetAnswer", "readGroupByte", "(III)I"⟩, 11) := ⟨⟨by decide +kernel, by decide +kernel⟩, List.mem_of_getElem? (i := 290) (by decide +kernel), List.mem_of_getElem? (i := 392) (by decide +kernel), List.mem_of_getElem? (i := 393) (by decide +kernel)⟩
theorem lw_p4 : lw_okq (⟨"CardLink$ResetAnswer", "readTd", "(II)I"⟩, 11) := ⟨⟨by decide +kernel, by decide +kernel⟩, List.mem_of_getElem? (i := 290) (by decide +kernel), List.mem_of_getElem? (i := 396) (by decide +kernel), List.mem_of_getElem? (i := 397) (by decide +kernel)⟩
theorem lw_p5 : lw_okq (⟨"CardLink$ResetAnswer", "readFirstGroup", "(II)I"⟩, 11) := ⟨⟨by decide +kernel, by decide +kernel⟩, List.mem_of_getElem? (i := 290) (by decide +kernel), List.mem_of_getElem? (i := 400) (by decide +kernel), List.mem_of_getElem? (i := 401) (by decide +kernel)⟩
theorem lw_p6 : lw_okq (⟨"CardLink$ResetAnswer", "readLinkGroup", "(II)I"⟩, 11) := ⟨⟨by decide +kernel, by decide +kernel⟩, List.mem_of_getElem? (i := 290) (by decide +kernel), List.mem_of_getElem? (i := 414) (by decide +kernel), List.mem_of_getElem? (i := 415) (by decide +kernel)⟩
theorem lw_p7 : lw_okq (⟨"CardLink$ResetAnswer", "readTail", "(LCardLink$Row;I)I"⟩, 11) := ⟨⟨by decide +kernel, by decide +kernel⟩, List.mem_of_getElem? (i := 290) (by decide +kernel), List.mem_of_getElem? (i := 418) (by decide +kernel), List.mem_of_getElem? (i := 419) (by decide +kernel)⟩
theorem lw_p8 : lw_okq (⟨"CardLink", "mayStart", "()Z"⟩, 7) := ⟨⟨by decide +kernel, by decide +kernel⟩, List.mem_of_getElem? (i := 17) (by decide +kernel), List.mem_of_getElem? (i := 499) (by decide +kernel), List.mem_of_getElem? (i := 500) (by decide +kernel)⟩
theorem lw_p9 : lw_okq (⟨"CardLink$Line", "begin", "(I)V"⟩, 18) := ⟨⟨by decide +kernel, by decide +kernel⟩, List.mem_of_getElem? (i := 83) (by decide +kernel), List.mem_of_getElem? (i := 513) (by decide +kernel), List.mem_of_getElem? (i := 514) (by decide +kernel)⟩
theorem lw_p10 : lw_okq (⟨"CardLink$Wire", "makePlace", "(I)V"⟩, 10) := ⟨⟨by decide +kernel, by decide +kernel⟩, List.mem_of_getElem? (i := 154) (by decide +kernel), List.mem_of_getElem? (i := 542) (by decide +kernel), List.mem_of_getElem? (i := 543) (by decide +kernel)⟩
theorem lw_p11 : lw_okq (⟨"CardLink", "onWay", "()Z"⟩, 7) := ⟨⟨by decide +kernel, by decide +kernel⟩, List.mem_of_getElem? (i := 17) (by decide +kernel), List.mem_of_getElem? (i := 559) (by decide +kernel), List.mem_of_getElem? (i := 560) (by decide +kernel)⟩
theorem lw_p12 : lw_okq (⟨"CardLink$Line", "firstKind", "()I"⟩, 18) := ⟨⟨by decide +kernel, by decide +kernel⟩, List.mem_of_getElem? (i := 83) (by decide +kernel), List.mem_of_getElem? (i := 579) (by decide +kernel), List.mem_of_getElem? (i := 580) (by decide +kernel)⟩
theorem lw_p13 : lw_okq (⟨"CardLink$Line", "readerKind", "()I"⟩, 18) := ⟨⟨by decide +kernel, by decide +kernel⟩, List.mem_of_getElem? (i := 83) (by decide +kernel), List.mem_of_getElem? (i := 591) (by decide +kernel), List.mem_of_getElem? (i := 592) (by decide +kernel)⟩
theorem lw_p14 : lw_okq (⟨"CardLink$Line", "onBroken", "(LCardLink$Side;)I"⟩, 18) := ⟨⟨by decide +kernel, by decide +kernel⟩, List.mem_of_getElem? (i := 83) (by decide +kernel), List.mem_of_getElem? (i := 595) (by decide +kernel), List.mem_of_getElem? (i := 596) (by decide +kernel)⟩
theorem lw_p15 : lw_okq (⟨"CardLink$Line", "readerOnAnswer", "()I"⟩, 18) := ⟨⟨by decide +kernel, by decide +kernel⟩, List.mem_of_getElem? (i := 83) (by decide +kernel), List.mem_of_getElem? (i := 605) (by decide +kernel), List.mem_of_getElem? (i := 606) (by decide +kernel)⟩
def lw_privs_1 : List (MethodName × Nat) := [(⟨"CardLink$ResetAnswer", "clear", "()V"⟩, 11), (⟨"CardLink$ResetAnswer", "readHead", "(LCardLink$Row;)I"⟩, 11), (⟨"CardLink$ResetAnswer", "readGroups", "(LCardLink$Row;)I"⟩, 11), (⟨"CardLink$ResetAnswer", "readGroupByte", "(III)I"⟩, 11), (⟨"CardLink$ResetAnswer", "readTd", "(II)I"⟩, 11), (⟨"CardLink$ResetAnswer", "readFirstGroup", "(II)I"⟩, 11), (⟨"CardLink$ResetAnswer", "readLinkGroup", "(II)I"⟩, 11), (⟨"CardLink$ResetAnswer", "readTail", "(LCardLink$Row;I)I"⟩, 11), (⟨"CardLink", "mayStart", "()Z"⟩, 7), (⟨"CardLink$Line", "begin", "(I)V"⟩, 18), (⟨"CardLink$Wire", "makePlace", "(I)V"⟩, 10), (⟨"CardLink", "onWay", "()Z"⟩, 7), (⟨"CardLink$Line", "firstKind", "()I"⟩, 18), (⟨"CardLink$Line", "readerKind", "()I"⟩, 18), (⟨"CardLink$Line", "onBroken", "(LCardLink$Side;)I"⟩, 18), (⟨"CardLink$Line", "readerOnAnswer", "()I"⟩, 18)]
theorem lw_r1 : ∀ q ∈ lw_privs_1, lw_okq q := List.forall_mem_cons.mpr ⟨lw_p0, List.forall_mem_cons.mpr ⟨lw_p1, List.forall_mem_cons.mpr ⟨lw_p2, List.forall_mem_cons.mpr ⟨lw_p3, List.forall_mem_cons.mpr ⟨lw_p4, List.forall_mem_cons.mpr ⟨lw_p5, List.forall_mem_cons.mpr ⟨lw_p6, List.forall_mem_cons.mpr ⟨lw_p7, List.forall_mem_cons.mpr ⟨lw_p8, List.forall_mem_cons.mpr ⟨lw_p9, List.forall_mem_cons.mpr ⟨lw_p10, List.forall_mem_cons.mpr ⟨lw_p11, List.forall_mem_cons.mpr ⟨lw_p12, List.forall_mem_cons.mpr ⟨lw_p13, List.forall_mem_cons.mpr ⟨lw_p14, List.forall_mem_cons.mpr ⟨lw_p15, fun _ h => absurd h List.not_mem_nil⟩⟩⟩⟩⟩⟩⟩⟩⟩⟩⟩⟩⟩⟩⟩⟩
theorem lw_p16 : lw_okq (⟨"CardLink$Line", "isAnswerTo", "(LCardLink$Side;)Z"⟩, 18) := ⟨⟨by decide +kernel, by decide +kernel⟩, List.mem_of_getElem? (i := 83) (by decide +kernel), List.mem_of_getElem? (i := 609) (by decide +kernel), List.mem_of_getElem? (i := 610) (by decide +kernel)⟩
theorem lw_p17 : lw_okq (⟨"CardLink$Line", "finish", "(I)I"⟩, 18) := ⟨⟨by decide +kernel, by decide +kernel⟩, List.mem_of_getElem? (i := 83) (by decide +kernel), List.mem_of_getElem? (i := 614) (by decide +kernel), List.mem_of_getElem? (i := 615) (by decide +kernel)⟩
theorem lw_p18 : lw_okq (⟨"CardLink$Line", "onRequest", "(LCardLink$Side;LCardLink$Side;I)I"⟩, 18) := ⟨⟨by decide +kernel, by decide +kernel⟩, List.mem_of_getElem? (i := 83) (by decide +kernel), List.mem_of_getElem? (i := 618) (by decide +kernel), List.mem_of_getElem? (i := 619) (by decide +kernel)⟩
theorem lw_p19 : lw_okq (⟨"CardLink$Line", "refuse", "(LCardLink$Side;)I"⟩, 18) := ⟨⟨by decide +kernel, by decide +kernel⟩, List.mem_of_getElem? (i := 83) (by decide +kernel), List.mem_of_getElem? (i := 630) (by decide +kernel), List.mem_of_getElem? (i := 631) (by decide +kernel)⟩
theorem lw_p20 : lw_okq (⟨"CardLink$Line", "onI", "(LCardLink$Side;I)I"⟩, 18) := ⟨⟨by decide +kernel, by decide +kernel⟩, List.mem_of_getElem? (i := 83) (by decide +kernel), List.mem_of_getElem? (i := 634) (by decide +kernel), List.mem_of_getElem? (i := 635) (by decide +kernel)⟩
theorem lw_p21 : lw_okq (⟨"CardLink$Line", "onReceipt", "(LCardLink$Side;I)I"⟩, 18) := ⟨⟨by decide +kernel, by decide +kernel⟩, List.mem_of_getElem? (i := 83) (by decide +kernel), List.mem_of_getElem? (i := 659) (by decide +kernel), List.mem_of_getElem? (i := 660) (by decide +kernel)⟩
theorem lw_p22 : lw_okq (⟨"CardLink$Line", "countTries", "(I)I"⟩, 18) := ⟨⟨by decide +kernel, by decide +kernel⟩, List.mem_of_getElem? (i := 83) (by decide +kernel), List.mem_of_getElem? (i := 671) (by decide +kernel), List.mem_of_getElem? (i := 672) (by decide +kernel)⟩
theorem lw_p23 : lw_okq (⟨"CardLink$Line", "send", "(LCardLink$Side;LCardLink$Side;I)V"⟩, 18) := ⟨⟨by decide +kernel, by decide +kernel⟩, List.mem_of_getElem? (i := 83) (by decide +kernel), List.mem_of_getElem? (i := 675) (by decide +kernel), List.mem_of_getElem? (i := 676) (by decide +kernel)⟩
theorem lw_p24 : lw_okq (⟨"CardLink$Line", "compose", "(LCardLink$Side;I)V"⟩, 18) := ⟨⟨by decide +kernel, by decide +kernel⟩, List.mem_of_getElem? (i := 83) (by decide +kernel), List.mem_of_getElem? (i := 689) (by decide +kernel), List.mem_of_getElem? (i := 690) (by decide +kernel)⟩
theorem lw_p25 : lw_okq (⟨"CardLink$Wire", "sendLetter", "()I"⟩, 10) := ⟨⟨by decide +kernel, by decide +kernel⟩, List.mem_of_getElem? (i := 154) (by decide +kernel), List.mem_of_getElem? (i := 716) (by decide +kernel), List.mem_of_getElem? (i := 717) (by decide +kernel)⟩
theorem lw_p26 : lw_okq (⟨"CardLink$Wire", "dropNearest", "()V"⟩, 10) := ⟨⟨by decide +kernel, by decide +kernel⟩, List.mem_of_getElem? (i := 154) (by decide +kernel), List.mem_of_getElem? (i := 720) (by decide +kernel), List.mem_of_getElem? (i := 721) (by decide +kernel)⟩
theorem lw_p27 : lw_okq (⟨"CardLink$Line", "judge", "(II)I"⟩, 18) := ⟨⟨by decide +kernel, by decide +kernel⟩, List.mem_of_getElem? (i := 83) (by decide +kernel), List.mem_of_getElem? (i := 726) (by decide +kernel), List.mem_of_getElem? (i := 727) (by decide +kernel)⟩
theorem lw_p28 : lw_okq (⟨"CardLink$Line", "isWellFormed", "(III)Z"⟩, 18) := ⟨⟨by decide +kernel, by decide +kernel⟩, List.mem_of_getElem? (i := 83) (by decide +kernel), List.mem_of_getElem? (i := 730) (by decide +kernel), List.mem_of_getElem? (i := 731) (by decide +kernel)⟩
theorem lw_p29 : lw_okq (⟨"CardLink$Journal", "isBlock", "(IILCardLink$Row;)Z"⟩, 9) := ⟨⟨by decide +kernel, by decide +kernel⟩, List.mem_of_getElem? (i := 45) (by decide +kernel), List.mem_of_getElem? (i := 744) (by decide +kernel), List.mem_of_getElem? (i := 745) (by decide +kernel)⟩
theorem lw_p30 : lw_okq (⟨"CardLink$Journal", "addUnlike", "(ILCardLink$Row;I)I"⟩, 9) := ⟨⟨by decide +kernel, by decide +kernel⟩, List.mem_of_getElem? (i := 45) (by decide +kernel), List.mem_of_getElem? (i := 748) (by decide +kernel), List.mem_of_getElem? (i := 749) (by decide +kernel)⟩
theorem lw_p31 : lw_okq (⟨"CardLink$Line", "cardKind", "()I"⟩, 18) := ⟨⟨by decide +kernel, by decide +kernel⟩, List.mem_of_getElem? (i := 83) (by decide +kernel), List.mem_of_getElem? (i := 760) (by decide +kernel), List.mem_of_getElem? (i := 761) (by decide +kernel)⟩
def lw_privs_2 : List (MethodName × Nat) := [(⟨"CardLink$Line", "isAnswerTo", "(LCardLink$Side;)Z"⟩, 18), (⟨"CardLink$Line", "finish", "(I)I"⟩, 18), (⟨"CardLink$Line", "onRequest", "(LCardLink$Side;LCardLink$Side;I)I"⟩, 18), (⟨"CardLink$Line", "refuse", "(LCardLink$Side;)I"⟩, 18), (⟨"CardLink$Line", "onI", "(LCardLink$Side;I)I"⟩, 18), (⟨"CardLink$Line", "onReceipt", "(LCardLink$Side;I)I"⟩, 18), (⟨"CardLink$Line", "countTries", "(I)I"⟩, 18), (⟨"CardLink$Line", "send", "(LCardLink$Side;LCardLink$Side;I)V"⟩, 18), (⟨"CardLink$Line", "compose", "(LCardLink$Side;I)V"⟩, 18), (⟨"CardLink$Wire", "sendLetter", "()I"⟩, 10), (⟨"CardLink$Wire", "dropNearest", "()V"⟩, 10), (⟨"CardLink$Line", "judge", "(II)I"⟩, 18), (⟨"CardLink$Line", "isWellFormed", "(III)Z"⟩, 18), (⟨"CardLink$Journal", "isBlock", "(IILCardLink$Row;)Z"⟩, 9), (⟨"CardLink$Journal", "addUnlike", "(ILCardLink$Row;I)I"⟩, 9), (⟨"CardLink$Line", "cardKind", "()I"⟩, 18)]
theorem lw_r2 : ∀ q ∈ lw_privs_2, lw_okq q := List.forall_mem_cons.mpr ⟨lw_p16, List.forall_mem_cons.mpr ⟨lw_p17, List.forall_mem_cons.mpr ⟨lw_p18, List.forall_mem_cons.mpr ⟨lw_p19, List.forall_mem_cons.mpr ⟨lw_p20, List.forall_mem_cons.mpr ⟨lw_p21, List.forall_mem_cons.mpr ⟨lw_p22, List.forall_mem_cons.mpr ⟨lw_p23, List.forall_mem_cons.mpr ⟨lw_p24, List.forall_mem_cons.mpr ⟨lw_p25, List.forall_mem_cons.mpr ⟨lw_p26, List.forall_mem_cons.mpr ⟨lw_p27, List.forall_mem_cons.mpr ⟨lw_p28, List.forall_mem_cons.mpr ⟨lw_p29, List.forall_mem_cons.mpr ⟨lw_p30, List.forall_mem_cons.mpr ⟨lw_p31, fun _ h => absurd h List.not_mem_nil⟩⟩⟩⟩⟩⟩⟩⟩⟩⟩⟩⟩⟩⟩⟩⟩
theorem lw_p32 : lw_okq (⟨"CardLink$Line", "putFirstByte", "()I"⟩, 18) := ⟨⟨by decide +kernel, by decide +kernel⟩, List.mem_of_getElem? (i := 83) (by decide +kernel), List.mem_of_getElem? (i := 764) (by decide +kernel), List.mem_of_getElem? (i := 765) (by decide +kernel)⟩
theorem lw_p33 : lw_okq (⟨"CardLink$Line", "cardOnAnswer", "()I"⟩, 18) := ⟨⟨by decide +kernel, by decide +kernel⟩, List.mem_of_getElem? (i := 83) (by decide +kernel), List.mem_of_getElem? (i := 768) (by decide +kernel), List.mem_of_getElem? (i := 769) (by decide +kernel)⟩
theorem lw_p34 : lw_okq (⟨"CardLink$Line", "putBehindThird", "()I"⟩, 18) := ⟨⟨by decide +kernel, by decide +kernel⟩, List.mem_of_getElem? (i := 83) (by decide +kernel), List.mem_of_getElem? (i := 772) (by decide +kernel), List.mem_of_getElem? (i := 773) (by decide +kernel)⟩
theorem lw_p35 : lw_okq (⟨"CardLink$Line", "doMessage", "()I"⟩, 18) := ⟨⟨by decide +kernel, by decide +kernel⟩, List.mem_of_getElem? (i := 83) (by decide +kernel), List.mem_of_getElem? (i := 776) (by decide +kernel), List.mem_of_getElem? (i := 777) (by decide +kernel)⟩
theorem lw_p36 : lw_okq (⟨"CardLink$Line", "putCounting", "(I)I"⟩, 18) := ⟨⟨by decide +kernel, by decide +kernel⟩, List.mem_of_getElem? (i := 83) (by decide +kernel), List.mem_of_getElem? (i := 780) (by decide +kernel), List.mem_of_getElem? (i := 781) (by decide +kernel)⟩
theorem lw_p37 : lw_okq (⟨"CardLink", "sideOf", "(I)LCardLink$Side;"⟩, 7) := ⟨⟨by decide +kernel, by decide +kernel⟩, List.mem_of_getElem? (i := 17) (by decide +kernel), List.mem_of_getElem? (i := 792) (by decide +kernel), List.mem_of_getElem? (i := 793) (by decide +kernel)⟩
theorem lw_p38 : lw_okq (⟨"CardLink", "feedEight", "(J)V"⟩, 7) := ⟨⟨by decide +kernel, by decide +kernel⟩, List.mem_of_getElem? (i := 17) (by decide +kernel), List.mem_of_getElem? (i := 823) (by decide +kernel), List.mem_of_getElem? (i := 824) (by decide +kernel)⟩
theorem lw_p39 : lw_okq (⟨"CardLink$Journal", "placeOf", "(I)I"⟩, 9) := ⟨⟨by decide +kernel, by decide +kernel⟩, List.mem_of_getElem? (i := 45) (by decide +kernel), List.mem_of_getElem? (i := 864) (by decide +kernel), List.mem_of_getElem? (i := 865) (by decide +kernel)⟩
theorem lw_p40 : lw_okq (⟨"java/lang/Throwable", "fillInStackTrace", "(I)Ljava/lang/Throwable;"⟩, 6) := ⟨⟨by decide +kernel, by decide +kernel⟩, List.mem_of_getElem? (i := 908) (by decide +kernel), List.mem_of_getElem? (i := 906) (by decide +kernel), List.mem_of_getElem? (i := 907) (by decide +kernel)⟩
def lw_privs_3 : List (MethodName × Nat) := [(⟨"CardLink$Line", "putFirstByte", "()I"⟩, 18), (⟨"CardLink$Line", "cardOnAnswer", "()I"⟩, 18), (⟨"CardLink$Line", "putBehindThird", "()I"⟩, 18), (⟨"CardLink$Line", "doMessage", "()I"⟩, 18), (⟨"CardLink$Line", "putCounting", "(I)I"⟩, 18), (⟨"CardLink", "sideOf", "(I)LCardLink$Side;"⟩, 7), (⟨"CardLink", "feedEight", "(J)V"⟩, 7), (⟨"CardLink$Journal", "placeOf", "(I)I"⟩, 9), (⟨"java/lang/Throwable", "fillInStackTrace", "(I)Ljava/lang/Throwable;"⟩, 6)]
theorem lw_r3 : ∀ q ∈ lw_privs_3, lw_okq q := List.forall_mem_cons.mpr ⟨lw_p32, List.forall_mem_cons.mpr ⟨lw_p33, List.forall_mem_cons.mpr ⟨lw_p34, List.forall_mem_cons.mpr ⟨lw_p35, List.forall_mem_cons.mpr ⟨lw_p36, List.forall_mem_cons.mpr ⟨lw_p37, List.forall_mem_cons.mpr ⟨lw_p38, List.forall_mem_cons.mpr ⟨lw_p39, List.forall_mem_cons.mpr ⟨lw_p40, fun _ h => absurd h List.not_mem_nil⟩⟩⟩⟩⟩⟩⟩⟩⟩
def lw_privs : List (MethodName × Nat) := lw_privs_1 ++ (lw_privs_2 ++ (lw_privs_3))
def lw_tbl : List Cond := k2_sels lw_privs ++ tables_1
theorem lw_privs_ok : ∀ q ∈ lw_privs, lw_okq q := by
  show ∀ q ∈ lw_privs_1 ++ (lw_privs_2 ++ (lw_privs_3)), lw_okq q
  exact List.forall_mem_append.mpr ⟨lw_r1, List.forall_mem_append.mpr ⟨lw_r2, lw_r3⟩⟩
/-! ===== BEGIN printed: names, fields, word lists, decode rows ===== -/
def RX0 : String := "CardLink$Forecast"
def TX0 : u_T := fun k => match k with
  | 0 => ("CardLink$Forecast", "outlook", "LCardLink$Line;", true)
  | 1 => ("CardLink$Forecast", "walk", "LCardLink$Line;", true)
  | 2 => ("CardLink$Forecast", "fork", "LCardLink$Line;", true)
  | 3 => ("CardLink$Forecast", "outlookKnown", "Z", false)
  | 4 => ("CardLink$Forecast", "tried", "[I", true)
  | 5 => ("CardLink$Forecast", "harmful", "[I", true)
  | _ => ("CardLink$Forecast", "firsts", "[I", true)
def tyX0 : Nat → FieldType := fun k => match k with
  | 0 => .object "CardLink$Line"
  | 1 => .object "CardLink$Line"
  | 2 => .object "CardLink$Line"
  | 3 => .boolean
  | 4 => .array .int
  | 5 => .array .int
  | _ => .array .int
abbrev wsX00 : List Cond := u_ws RX0 TX0 7
theorem nmX0 : ∀ a, a < 7 → ∀ b, b < 7 → a ≠ b → (TX0 a).2.1 ≠ (TX0 b).2.1 := by decide +kernel
theorem tyX0_ok : ∀ k, k < 7 → parseFieldDescriptor (TX0 k).2.2.1 = some (tyX0 k) := by decide +kernel
abbrev cX0_init : ByteArray := prog_2_method_1_code
def yX0_init : MethodName := ⟨RX0, "<init>", "()V"⟩
abbrev cX0_forget : ByteArray := prog_2_method_2_code
def yX0_forget : MethodName := ⟨RX0, "forget", "()V"⟩
def RX1 : String := "CardLink$Journal"
def TX1 : u_T := fun k => match k with
  | 0 => ("CardLink$Journal", "bytes", "LCardLink$Row;", true)
  | 1 => ("CardLink$Journal", "starts", "LCardLink$Row;", true)
  | 2 => ("CardLink$Journal", "times", "LCardLink$Row;", true)
  | 3 => ("CardLink$Journal", "following", "LCardLink$Row;", true)
  | 4 => ("CardLink$Journal", "chains", "LCardLink$Row;", true)
  | 5 => ("CardLink$Journal", "latest", "LCardLink$Row;", true)
  | 6 => ("CardLink$Journal", "outcomes", "LCardLink$Row;", true)
  | 7 => ("CardLink$Journal", "took", "LCardLink$Row;", true)
  | _ => ("CardLink$Journal", "newest", "I", false)
def tyX1 : Nat → FieldType := fun k => match k with
  | 0 => .object "CardLink$Row"
  | 1 => .object "CardLink$Row"
  | 2 => .object "CardLink$Row"
  | 3 => .object "CardLink$Row"
  | 4 => .object "CardLink$Row"
  | 5 => .object "CardLink$Row"
  | 6 => .object "CardLink$Row"
  | 7 => .object "CardLink$Row"
  | _ => .int
abbrev wsX10 : List Cond := u_ws RX1 TX1 9
theorem nmX1 : ∀ a, a < 9 → ∀ b, b < 9 → a ≠ b → (TX1 a).2.1 ≠ (TX1 b).2.1 := by decide +kernel
theorem tyX1_ok : ∀ k, k < 9 → parseFieldDescriptor (TX1 k).2.2.1 = some (tyX1 k) := by decide +kernel
abbrev cX1_init : ByteArray := prog_3_method_1_code
def yX1_init : MethodName := ⟨RX1, "<init>", "()V"⟩
abbrev cX1_forgetAll : ByteArray := prog_3_method_2_code
def yX1_forgetAll : MethodName := ⟨RX1, "forgetAll", "()V"⟩
abbrev cX1_unlike : ByteArray := prog_3_method_3_code
def yX1_unlike : MethodName := ⟨RX1, "unlike", "()I"⟩
abbrev cX1_kept : ByteArray := prog_3_method_4_code
def yX1_kept : MethodName := ⟨RX1, "kept", "()I"⟩
abbrev cX1_note : ByteArray := prog_3_method_5_code
def yX1_note : MethodName := ⟨RX1, "note", "(III)V"⟩
abbrev cX1_idOf : ByteArray := prog_3_method_6_code
def yX1_idOf : MethodName := ⟨RX1, "idOf", "(ILCardLink$Row;)I"⟩
abbrev cX1_chainOf : ByteArray := prog_3_method_7_code
def yX1_chainOf : MethodName := ⟨RX1, "chainOf", "(ILCardLink$Row;)I"⟩
abbrev cX1_isBlock : ByteArray := prog_3_method_8_code
def yX1_isBlock : MethodName := ⟨RX1, "isBlock", "(IILCardLink$Row;)Z"⟩
abbrev cX1_addUnlike : ByteArray := prog_3_method_9_code
def yX1_addUnlike : MethodName := ⟨RX1, "addUnlike", "(ILCardLink$Row;I)I"⟩
abbrev cX1_placeOf : ByteArray := prog_3_method_10_code
def yX1_placeOf : MethodName := ⟨RX1, "placeOf", "(I)I"⟩
abbrev cX1_tell : ByteArray := prog_3_method_11_code
def yX1_tell : MethodName := ⟨RX1, "tell", "(II)I"⟩
abbrev cX1_byteAt : ByteArray := prog_3_method_12_code
def yX1_byteAt : MethodName := ⟨RX1, "byteAt", "(II)I"⟩
def RX2 : String := "CardLink$Line"
def TX2 : u_T := fun k => match k with
  | 0 => ("CardLink$Line", "reader", "LCardLink$Side;", true)
  | 1 => ("CardLink$Line", "card", "LCardLink$Side;", true)
  | 2 => ("CardLink$Line", "wire", "LCardLink$Wire;", true)
  | 3 => ("CardLink$Line", "state", "I", false)
  | 4 => ("CardLink$Line", "tries", "I", false)
  | 5 => ("CardLink$Line", "waitsEnded", "I", false)
  | 6 => ("CardLink$Line", "timesDone", "I", false)
  | 7 => ("CardLink$Line", "timesGivenUp", "I", false)
  | 8 => ("CardLink$Line", "block", "LCardLink$Row;", true)
  | 9 => ("CardLink$Line", "came", "LCardLink$Row;", true)
  | 10 => ("CardLink$Line", "journal", "LCardLink$Journal;", true)
  | 11 => ("CardLink$Line", "outcome", "I", false)
  | 12 => ("CardLink$Line", "firstTurn", "Z", false)
  | 13 => ("CardLink$Line", "roomWish", "I", false)
  | 14 => ("CardLink$Line", "stuck", "Z", false)
  | 15 => ("CardLink$Line", "toldAbort", "Z", false)
  | 16 => ("CardLink$Line", "waitsLeft", "I", false)
  | _ => ("CardLink$Line", "silentTurns", "I", false)
def tyX2 : Nat → FieldType := fun k => match k with
  | 0 => .object "CardLink$Side"
  | 1 => .object "CardLink$Side"
  | 2 => .object "CardLink$Wire"
  | 3 => .int
  | 4 => .int
  | 5 => .int
  | 6 => .int
  | 7 => .int
  | 8 => .object "CardLink$Row"
  | 9 => .object "CardLink$Row"
  | 10 => .object "CardLink$Journal"
  | 11 => .int
  | 12 => .boolean
  | 13 => .int
  | 14 => .boolean
  | 15 => .boolean
  | 16 => .int
  | _ => .int
abbrev wsX20 : List Cond := u_ws RX2 TX2 18
theorem nmX2 : ∀ a, a < 18 → ∀ b, b < 18 → a ≠ b → (TX2 a).2.1 ≠ (TX2 b).2.1 := by decide +kernel
theorem tyX2_ok : ∀ k, k < 18 → parseFieldDescriptor (TX2 k).2.2.1 = some (tyX2 k) := by decide +kernel
abbrev cX2_init : ByteArray := prog_4_method_1_code
def yX2_init : MethodName := ⟨RX2, "<init>", "(LCardLink$Journal;)V"⟩
abbrev cX2_restart : ByteArray := prog_4_method_2_code
def yX2_restart : MethodName := ⟨RX2, "restart", "(I)V"⟩
abbrev cX2_startMessage : ByteArray := prog_4_method_4_code
def yX2_startMessage : MethodName := ⟨RX2, "startMessage", "(LCardLink$Row;)V"⟩
abbrev cX2_startRoom : ByteArray := prog_4_method_5_code
def yX2_startRoom : MethodName := ⟨RX2, "startRoom", "(I)V"⟩
abbrev cX2_begin : ByteArray := prog_4_method_6_code
def yX2_begin : MethodName := ⟨RX2, "begin", "(I)V"⟩
abbrev cX2_blocksAhead : ByteArray := prog_4_method_7_code
def yX2_blocksAhead : MethodName := ⟨RX2, "blocksAhead", "()I"⟩
abbrev cX2_blocksSent : ByteArray := prog_4_method_8_code
def yX2_blocksSent : MethodName := ⟨RX2, "blocksSent", "()I"⟩
abbrev cX2_run : ByteArray := prog_4_method_9_code
def yX2_run : MethodName := ⟨RX2, "run", "(I)I"⟩
abbrev cX2_turn : ByteArray := prog_4_method_10_code
def yX2_turn : MethodName := ⟨RX2, "turn", "()V"⟩
abbrev cX2_firstKind : ByteArray := prog_4_method_11_code
def yX2_firstKind : MethodName := ⟨RX2, "firstKind", "()I"⟩
abbrev cX2_countTries : ByteArray := prog_4_method_12_code
def yX2_countTries : MethodName := ⟨RX2, "countTries", "(I)I"⟩
abbrev cX2_readerKind : ByteArray := prog_4_method_13_code
def yX2_readerKind : MethodName := ⟨RX2, "readerKind", "()I"⟩
abbrev cX2_cardKind : ByteArray := prog_4_method_14_code
def yX2_cardKind : MethodName := ⟨RX2, "cardKind", "()I"⟩
abbrev cX2_onBroken : ByteArray := prog_4_method_15_code
def yX2_onBroken : MethodName := ⟨RX2, "onBroken", "(LCardLink$Side;)I"⟩
abbrev cX2_refuse : ByteArray := prog_4_method_16_code
def yX2_refuse : MethodName := ⟨RX2, "refuse", "(LCardLink$Side;)I"⟩
abbrev cX2_isAnswerTo : ByteArray := prog_4_method_17_code
def yX2_isAnswerTo : MethodName := ⟨RX2, "isAnswerTo", "(LCardLink$Side;)Z"⟩
abbrev cX2_readerOnAnswer : ByteArray := prog_4_method_18_code
def yX2_readerOnAnswer : MethodName := ⟨RX2, "readerOnAnswer", "()I"⟩
abbrev cX2_finish : ByteArray := prog_4_method_19_code
def yX2_finish : MethodName := ⟨RX2, "finish", "(I)I"⟩
abbrev cX2_cardOnAnswer : ByteArray := prog_4_method_20_code
def yX2_cardOnAnswer : MethodName := ⟨RX2, "cardOnAnswer", "()I"⟩
abbrev cX2_onI : ByteArray := prog_4_method_21_code
def yX2_onI : MethodName := ⟨RX2, "onI", "(LCardLink$Side;I)I"⟩
abbrev cX2_onReceipt : ByteArray := prog_4_method_22_code
def yX2_onReceipt : MethodName := ⟨RX2, "onReceipt", "(LCardLink$Side;I)I"⟩
abbrev cX2_onRequest : ByteArray := prog_4_method_23_code
def yX2_onRequest : MethodName := ⟨RX2, "onRequest", "(LCardLink$Side;LCardLink$Side;I)I"⟩
abbrev cX2_doMessage : ByteArray := prog_4_method_24_code
def yX2_doMessage : MethodName := ⟨RX2, "doMessage", "()I"⟩
abbrev cX2_putCounting : ByteArray := prog_4_method_25_code
def yX2_putCounting : MethodName := ⟨RX2, "putCounting", "(I)I"⟩
abbrev cX2_putBehindThird : ByteArray := prog_4_method_26_code
def yX2_putBehindThird : MethodName := ⟨RX2, "putBehindThird", "()I"⟩
abbrev cX2_putFirstByte : ByteArray := prog_4_method_27_code
def yX2_putFirstByte : MethodName := ⟨RX2, "putFirstByte", "()I"⟩
abbrev cX2_kindToSend : ByteArray := prog_4_method_28_code
def yX2_kindToSend : MethodName := ⟨RX2, "kindToSend", "(LCardLink$Side;LCardLink$Side;I)I"⟩
abbrev cX2_send : ByteArray := prog_4_method_29_code
def yX2_send : MethodName := ⟨RX2, "send", "(LCardLink$Side;LCardLink$Side;I)V"⟩
abbrev cX2_compose : ByteArray := prog_4_method_30_code
def yX2_compose : MethodName := ⟨RX2, "compose", "(LCardLink$Side;I)V"⟩
abbrev cX2_hasInf : ByteArray := prog_4_method_31_code
def yX2_hasInf : MethodName := ⟨RX2, "hasInf", "(I)Z"⟩
abbrev cX2_judge : ByteArray := prog_4_method_32_code
def yX2_judge : MethodName := ⟨RX2, "judge", "(II)I"⟩
abbrev cX2_isWellFormed : ByteArray := prog_4_method_33_code
def yX2_isWellFormed : MethodName := ⟨RX2, "isWellFormed", "(III)Z"⟩
def RX3 : String := "CardLink$ResetAnswer"
def TX3 : u_T := fun k => match k with
  | 0 => ("CardLink$ResetAnswer", "ts", "I", false)
  | 1 => ("CardLink$ResetAnswer", "factor", "I", false)
  | 2 => ("CardLink$ResetAnswer", "guard", "I", false)
  | 3 => ("CardLink$ResetAnswer", "protocol", "I", false)
  | 4 => ("CardLink$ResetAnswer", "groups", "I", false)
  | 5 => ("CardLink$ResetAnswer", "room", "I", false)
  | 6 => ("CardLink$ResetAnswer", "checked", "Z", false)
  | 7 => ("CardLink$ResetAnswer", "historical", "LCardLink$Row;", true)
  | 8 => ("CardLink$ResetAnswer", "place", "I", false)
  | 9 => ("CardLink$ResetAnswer", "told", "I", false)
  | _ => ("CardLink$ResetAnswer", "linkGroup", "I", false)
def tyX3 : Nat → FieldType := fun k => match k with
  | 0 => .int
  | 1 => .int
  | 2 => .int
  | 3 => .int
  | 4 => .int
  | 5 => .int
  | 6 => .boolean
  | 7 => .object "CardLink$Row"
  | 8 => .int
  | 9 => .int
  | _ => .int
abbrev wsX30 : List Cond := u_ws RX3 TX3 11
theorem nmX3 : ∀ a, a < 11 → ∀ b, b < 11 → a ≠ b → (TX3 a).2.1 ≠ (TX3 b).2.1 := by decide +kernel
theorem tyX3_ok : ∀ k, k < 11 → parseFieldDescriptor (TX3 k).2.2.1 = some (tyX3 k) := by decide +kernel
abbrev cX3_init : ByteArray := prog_5_method_1_code
def yX3_init : MethodName := ⟨RX3, "<init>", "()V"⟩
abbrev cX3_read : ByteArray := prog_5_method_2_code
def yX3_read : MethodName := ⟨RX3, "read", "(LCardLink$Row;)I"⟩
abbrev cX3_clear : ByteArray := prog_5_method_3_code
def yX3_clear : MethodName := ⟨RX3, "clear", "()V"⟩
abbrev cX3_faultAt : ByteArray := prog_5_method_4_code
def yX3_faultAt : MethodName := ⟨RX3, "faultAt", "(II)I"⟩
abbrev cX3_readHead : ByteArray := prog_5_method_5_code
def yX3_readHead : MethodName := ⟨RX3, "readHead", "(LCardLink$Row;)I"⟩
abbrev cX3_readGroups : ByteArray := prog_5_method_6_code
def yX3_readGroups : MethodName := ⟨RX3, "readGroups", "(LCardLink$Row;)I"⟩
abbrev cX3_readGroupByte : ByteArray := prog_5_method_7_code
def yX3_readGroupByte : MethodName := ⟨RX3, "readGroupByte", "(III)I"⟩
abbrev cX3_readFirstGroup : ByteArray := prog_5_method_8_code
def yX3_readFirstGroup : MethodName := ⟨RX3, "readFirstGroup", "(II)I"⟩
abbrev cX3_readLinkGroup : ByteArray := prog_5_method_9_code
def yX3_readLinkGroup : MethodName := ⟨RX3, "readLinkGroup", "(II)I"⟩
abbrev cX3_readTd : ByteArray := prog_5_method_10_code
def yX3_readTd : MethodName := ⟨RX3, "readTd", "(II)I"⟩
abbrev cX3_readTail : ByteArray := prog_5_method_11_code
def yX3_readTail : MethodName := ⟨RX3, "readTail", "(LCardLink$Row;I)I"⟩
abbrev cX3_clockOf : ByteArray := prog_5_method_12_code
def yX3_clockOf : MethodName := ⟨RX3, "clockOf", "(I)I"⟩
abbrev cX3_divisorOf : ByteArray := prog_5_method_13_code
def yX3_divisorOf : MethodName := ⟨RX3, "divisorOf", "(I)I"⟩
abbrev cX3_cardRoom : ByteArray := prog_5_method_14_code
def yX3_cardRoom : MethodName := ⟨RX3, "cardRoom", "()I"⟩
abbrev cX3_historicalBytes : ByteArray := prog_5_method_15_code
def yX3_historicalBytes : MethodName := ⟨RX3, "historicalBytes", "()I"⟩
abbrev cX3_historicalByte : ByteArray := prog_5_method_16_code
def yX3_historicalByte : MethodName := ⟨RX3, "historicalByte", "(I)I"⟩
abbrev cX3_tell : ByteArray := prog_5_method_17_code
def yX3_tell : MethodName := ⟨RX3, "tell", "(I)I"⟩
def RX4 : String := "CardLink$Row"
def TX4 : u_T := fun k => match k with
  | 0 => ("CardLink$Row", "items", "[I", false)
  | 1 => ("CardLink$Row", "length", "I", false)
  | _ => ("CardLink$Row", "most", "I", true)
def tyX4 : Nat → FieldType := fun k => match k with
  | 0 => .array .int
  | 1 => .int
  | _ => .int
abbrev wsX40 : List Cond := u_ws RX4 TX4 3
theorem nmX4 : ∀ a, a < 3 → ∀ b, b < 3 → a ≠ b → (TX4 a).2.1 ≠ (TX4 b).2.1 := by decide +kernel
theorem tyX4_ok : ∀ k, k < 3 → parseFieldDescriptor (TX4 k).2.2.1 = some (tyX4 k) := by decide +kernel
abbrev cX4_init : ByteArray := prog_6_method_1_code
def yX4_init : MethodName := ⟨RX4, "<init>", "(II)V"⟩
abbrev cX4_size : ByteArray := prog_6_method_2_code
def yX4_size : MethodName := ⟨RX4, "size", "()I"⟩
abbrev cX4_at : ByteArray := prog_6_method_3_code
def yX4_at : MethodName := ⟨RX4, "at", "(I)I"⟩
abbrev cX4_put : ByteArray := prog_6_method_4_code
def yX4_put : MethodName := ⟨RX4, "put", "(II)V"⟩
abbrev cX4_add : ByteArray := prog_6_method_5_code
def yX4_add : MethodName := ⟨RX4, "add", "(I)V"⟩
abbrev cX4_keep : ByteArray := prog_6_method_6_code
def yX4_keep : MethodName := ⟨RX4, "keep", "(I)V"⟩
abbrev cX4_copy : ByteArray := prog_6_method_7_code
def yX4_copy : MethodName := ⟨RX4, "copy", "(LCardLink$Row;)V"⟩
abbrev cX4_xor : ByteArray := prog_6_method_9_code
def yX4_xor : MethodName := ⟨RX4, "xor", "(I)I"⟩
def RX5 : String := "CardLink$Side"
def TX5 : u_T := fun k => match k with
  | 0 => ("CardLink$Side", "number", "I", true)
  | 1 => ("CardLink$Side", "next", "I", false)
  | 2 => ("CardLink$Side", "wanted", "I", false)
  | 3 => ("CardLink$Side", "room", "I", false)
  | 4 => ("CardLink$Side", "through", "I", false)
  | 5 => ("CardLink$Side", "asked", "I", false)
  | 6 => ("CardLink$Side", "askedInf", "I", false)
  | 7 => ("CardLink$Side", "messages", "I", false)
  | 8 => ("CardLink$Side", "out", "LCardLink$Row;", true)
  | 9 => ("CardLink$Side", "got", "LCardLink$Row;", true)
  | 10 => ("CardLink$Side", "in", "LCardLink$Row;", true)
  | 11 => ("CardLink$Side", "pending", "I", false)
  | 12 => ("CardLink$Side", "pendingMore", "Z", false)
  | 13 => ("CardLink$Side", "latestKind", "I", false)
  | _ => ("CardLink$Side", "sent", "I", false)
def tyX5 : Nat → FieldType := fun k => match k with
  | 0 => .int
  | 1 => .int
  | 2 => .int
  | 3 => .int
  | 4 => .int
  | 5 => .int
  | 6 => .int
  | 7 => .int
  | 8 => .object "CardLink$Row"
  | 9 => .object "CardLink$Row"
  | 10 => .object "CardLink$Row"
  | 11 => .int
  | 12 => .boolean
  | 13 => .int
  | _ => .int
abbrev wsX50 : List Cond := u_ws RX5 TX5 15
theorem nmX5 : ∀ a, a < 15 → ∀ b, b < 15 → a ≠ b → (TX5 a).2.1 ≠ (TX5 b).2.1 := by decide +kernel
theorem tyX5_ok : ∀ k, k < 15 → parseFieldDescriptor (TX5 k).2.2.1 = some (tyX5 k) := by decide +kernel
abbrev cX5_init : ByteArray := prog_7_method_1_code
def yX5_init : MethodName := ⟨RX5, "<init>", "(I)V"⟩
abbrev cX5_restart : ByteArray := prog_7_method_2_code
def yX5_restart : MethodName := ⟨RX5, "restart", "(I)V"⟩
abbrev cX5_emptyAll : ByteArray := prog_7_method_4_code
def yX5_emptyAll : MethodName := ⟨RX5, "emptyAll", "()V"⟩
abbrev cX5_breakOff : ByteArray := prog_7_method_5_code
def yX5_breakOff : MethodName := ⟨RX5, "breakOff", "()V"⟩
abbrev cX5_cutNext : ByteArray := prog_7_method_6_code
def yX5_cutNext : MethodName := ⟨RX5, "cutNext", "(I)I"⟩
abbrev cX5_pendingKind : ByteArray := prog_7_method_7_code
def yX5_pendingKind : MethodName := ⟨RX5, "pendingKind", "()I"⟩
abbrev cX5_pendingSize : ByteArray := prog_7_method_8_code
def yX5_pendingSize : MethodName := ⟨RX5, "pendingSize", "()I"⟩
abbrev cX5_hasPending : ByteArray := prog_7_method_9_code
def yX5_hasPending : MethodName := ⟨RX5, "hasPending", "()Z"⟩
abbrev cX5_pendingHasMore : ByteArray := prog_7_method_10_code
def yX5_pendingHasMore : MethodName := ⟨RX5, "pendingHasMore", "()Z"⟩
abbrev cX5_passPending : ByteArray := prog_7_method_11_code
def yX5_passPending : MethodName := ⟨RX5, "passPending", "()V"⟩
abbrev cX5_takeInf : ByteArray := prog_7_method_12_code
def yX5_takeInf : MethodName := ⟨RX5, "takeInf", "(LCardLink$Row;)V"⟩
abbrev cX5_takeWhole : ByteArray := prog_7_method_13_code
def yX5_takeWhole : MethodName := ⟨RX5, "takeWhole", "()V"⟩
abbrev cX5_takeEmpty : ByteArray := prog_7_method_14_code
def yX5_takeEmpty : MethodName := ⟨RX5, "takeEmpty", "()V"⟩
abbrev cX5_requestKind : ByteArray := prog_7_method_15_code
def yX5_requestKind : MethodName := ⟨RX5, "requestKind", "()I"⟩
abbrev cX5_ask : ByteArray := prog_7_method_16_code
def yX5_ask : MethodName := ⟨RX5, "ask", "(II)I"⟩
abbrev cX5_receipt : ByteArray := prog_7_method_17_code
def yX5_receipt : MethodName := ⟨RX5, "receipt", "(I)I"⟩
abbrev cX5_noteSent : ByteArray := prog_7_method_18_code
def yX5_noteSent : MethodName := ⟨RX5, "noteSent", "(I)V"⟩
abbrev cX5_blocksSent : ByteArray := prog_7_method_19_code
def yX5_blocksSent : MethodName := ⟨RX5, "blocksSent", "()I"⟩
abbrev cX5_tell : ByteArray := prog_7_method_20_code
def yX5_tell : MethodName := ⟨RX5, "tell", "(I)I"⟩
def RX6 : String := "CardLink$Wire"
def TX6 : u_T := fun k => match k with
  | 0 => ("CardLink$Wire", "repeats", "I", false)
  | 1 => ("CardLink$Wire", "letters", "I", false)
  | 2 => ("CardLink$Wire", "lettersAgain", "I", false)
  | 3 => ("CardLink$Wire", "faultLetters", "[I", true)
  | 4 => ("CardLink$Wire", "faultKinds", "[I", true)
  | 5 => ("CardLink$Wire", "faultBits", "[I", true)
  | 6 => ("CardLink$Wire", "faults", "I", false)
  | 7 => ("CardLink$Wire", "probeLetter", "I", false)
  | 8 => ("CardLink$Wire", "probeKind", "I", false)
  | _ => ("CardLink$Wire", "bitsNow", "I", false)
def tyX6 : Nat → FieldType := fun k => match k with
  | 0 => .int
  | 1 => .int
  | 2 => .int
  | 3 => .array .int
  | 4 => .array .int
  | 5 => .array .int
  | 6 => .int
  | 7 => .int
  | 8 => .int
  | _ => .int
abbrev wsX60 : List Cond := u_ws RX6 TX6 10
theorem nmX6 : ∀ a, a < 10 → ∀ b, b < 10 → a ≠ b → (TX6 a).2.1 ≠ (TX6 b).2.1 := by decide +kernel
theorem tyX6_ok : ∀ k, k < 10 → parseFieldDescriptor (TX6 k).2.2.1 = some (tyX6 k) := by decide +kernel
abbrev cX6_init : ByteArray := prog_8_method_1_code
def yX6_init : MethodName := ⟨RX6, "<init>", "()V"⟩
abbrev cX6_restart : ByteArray := prog_8_method_2_code
def yX6_restart : MethodName := ⟨RX6, "restart", "()V"⟩
abbrev cX6_faults : ByteArray := prog_8_method_5_code
def yX6_faults : MethodName := ⟨RX6, "faults", "()I"⟩
abbrev cX6_isFull : ByteArray := prog_8_method_6_code
def yX6_isFull : MethodName := ⟨RX6, "isFull", "()Z"⟩
abbrev cX6_addFault : ByteArray := prog_8_method_7_code
def yX6_addFault : MethodName := ⟨RX6, "addFault", "(III)V"⟩
abbrev cX6_makePlace : ByteArray := prog_8_method_8_code
def yX6_makePlace : MethodName := ⟨RX6, "makePlace", "(I)V"⟩
abbrev cX6_dropNearest : ByteArray := prog_8_method_9_code
def yX6_dropNearest : MethodName := ⟨RX6, "dropNearest", "()V"⟩
abbrev cX6_sendLetter : ByteArray := prog_8_method_10_code
def yX6_sendLetter : MethodName := ⟨RX6, "sendLetter", "()I"⟩
abbrev cX6_carry : ByteArray := prog_8_method_11_code
def yX6_carry : MethodName := ⟨RX6, "carry", "(LCardLink$Row;LCardLink$Row;)I"⟩
def RX7 : String := "CardLink"
def TX7 : u_T := fun k => match k with
  | 0 => ("CardLink", "tape", "LCardLink$Row;", true)
  | 1 => ("CardLink", "journal", "LCardLink$Journal;", true)
  | 2 => ("CardLink", "line", "LCardLink$Line;", true)
  | 3 => ("CardLink", "forecast", "LCardLink$Forecast;", true)
  | 4 => ("CardLink", "inForce", "LCardLink$ResetAnswer;", false)
  | 5 => ("CardLink", "spare", "LCardLink$ResetAnswer;", false)
  | _ => ("CardLink", "cardIn", "Z", false)
def tyX7 : Nat → FieldType := fun k => match k with
  | 0 => .object "CardLink$Row"
  | 1 => .object "CardLink$Journal"
  | 2 => .object "CardLink$Line"
  | 3 => .object "CardLink$Forecast"
  | 4 => .object "CardLink$ResetAnswer"
  | 5 => .object "CardLink$ResetAnswer"
  | _ => .boolean
abbrev wsX70 : List Cond := u_ws RX7 TX7 7
theorem nmX7 : ∀ a, a < 7 → ∀ b, b < 7 → a ≠ b → (TX7 a).2.1 ≠ (TX7 b).2.1 := by decide +kernel
theorem tyX7_ok : ∀ k, k < 7 → parseFieldDescriptor (TX7 k).2.2.1 = some (tyX7 k) := by decide +kernel
abbrev cX7_init : ByteArray := prog_1_method_1_code
def yX7_init : MethodName := ⟨RX7, "<init>", "()V"⟩
abbrev cX7_feed : ByteArray := prog_1_method_2_code
def yX7_feed : MethodName := ⟨RX7, "feed", "(JJ)I"⟩
abbrev cX7_feedEight : ByteArray := prog_1_method_3_code
def yX7_feedEight : MethodName := ⟨RX7, "feedEight", "(J)V"⟩
abbrev cX7_end : ByteArray := prog_1_method_4_code
def yX7_end : MethodName := ⟨RX7, "end", "(I)I"⟩
abbrev cX7_reset : ByteArray := prog_1_method_5_code
def yX7_reset : MethodName := ⟨RX7, "reset", "()I"⟩
abbrev cX7_answer : ByteArray := prog_1_method_6_code
def yX7_answer : MethodName := ⟨RX7, "answer", "(I)I"⟩
abbrev cX7_historical : ByteArray := prog_1_method_7_code
def yX7_historical : MethodName := ⟨RX7, "historical", "(I)I"⟩
abbrev cX7_message : ByteArray := prog_1_method_8_code
def yX7_message : MethodName := ⟨RX7, "message", "()I"⟩
abbrev cX7_room : ByteArray := prog_1_method_9_code
def yX7_room : MethodName := ⟨RX7, "room", "(I)I"⟩
abbrev cX7_mayStart : ByteArray := prog_1_method_10_code
def yX7_mayStart : MethodName := ⟨RX7, "mayStart", "()Z"⟩
abbrev cX7_onWay : ByteArray := prog_1_method_11_code
def yX7_onWay : MethodName := ⟨RX7, "onWay", "()Z"⟩
abbrev cX7_fault : ByteArray := prog_1_method_12_code
def yX7_fault : MethodName := ⟨RX7, "fault", "(III)I"⟩
abbrev cX7_repeats : ByteArray := prog_1_method_13_code
def yX7_repeats : MethodName := ⟨RX7, "repeats", "(I)I"⟩
abbrev cX7_step : ByteArray := prog_1_method_14_code
def yX7_step : MethodName := ⟨RX7, "step", "(I)I"⟩
abbrev cX7_state : ByteArray := prog_1_method_15_code
def yX7_state : MethodName := ⟨RX7, "state", "()I"⟩
abbrev cX7_side : ByteArray := prog_1_method_16_code
def yX7_side : MethodName := ⟨RX7, "side", "(II)I"⟩
abbrev cX7_sideOf : ByteArray := prog_1_method_17_code
def yX7_sideOf : MethodName := ⟨RX7, "sideOf", "(I)LCardLink$Side;"⟩
abbrev cX7_got : ByteArray := prog_1_method_18_code
def yX7_got : MethodName := ⟨RX7, "got", "(II)I"⟩
abbrev cX7_log : ByteArray := prog_1_method_19_code
def yX7_log : MethodName := ⟨RX7, "log", "(II)I"⟩
abbrev cX7_byteOf : ByteArray := prog_1_method_20_code
def yX7_byteOf : MethodName := ⟨RX7, "byteOf", "(II)I"⟩
abbrev cX7_count : ByteArray := prog_1_method_23_code
def yX7_count : MethodName := ⟨RX7, "count", "(I)I"⟩
def RX8 : String := "CardLinkModel"
def TX8 : u_T := fun k => match k with
  | _ => ("", "", "", false)
def tyX8 : Nat → FieldType := fun k => match k with
  | _ => .int
abbrev wsX80 : List Cond := u_ws RX8 TX8 0
theorem nmX8 : ∀ a, a < 0 → ∀ b, b < 0 → a ≠ b → (TX8 a).2.1 ≠ (TX8 b).2.1 := by decide +kernel
theorem tyX8_ok : ∀ k, k < 0 → parseFieldDescriptor (TX8 k).2.2.1 = some (tyX8 k) := by decide +kernel
def RJx145de : String := "java/io/Serializable"
def TJx145de : u_T := fun k => match k with
  | _ => ("", "", "", false)
def tyJx145de : Nat → FieldType := fun k => match k with
  | _ => .int
theorem nmJx145de : ∀ a, a < 0 → ∀ b, b < 0 → a ≠ b → (TJx145de a).2.1 ≠ (TJx145de b).2.1 := by decide +kernel
theorem tyJx145de_ok : ∀ k, k < 0 → parseFieldDescriptor (TJx145de k).2.2.1 = some (tyJx145de k) := by decide +kernel
def RJx8e188 : String := "java/lang/Cloneable"
def TJx8e188 : u_T := fun k => match k with
  | _ => ("", "", "", false)
def tyJx8e188 : Nat → FieldType := fun k => match k with
  | _ => .int
theorem nmJx8e188 : ∀ a, a < 0 → ∀ b, b < 0 → a ≠ b → (TJx8e188 a).2.1 ≠ (TJx8e188 b).2.1 := by decide +kernel
theorem tyJx8e188_ok : ∀ k, k < 0 → parseFieldDescriptor (TJx8e188 k).2.2.1 = some (tyJx8e188 k) := by decide +kernel
def RJ9 : String := "java/lang/Math"
def TJ9 : u_T := fun k => match k with
  | _ => ("", "", "", false)
def tyJ9 : Nat → FieldType := fun k => match k with
  | _ => .int
theorem nmJ9 : ∀ a, a < 0 → ∀ b, b < 0 → a ≠ b → (TJ9 a).2.1 ≠ (TJ9 b).2.1 := by decide +kernel
theorem tyJ9_ok : ∀ k, k < 0 → parseFieldDescriptor (TJ9 k).2.2.1 = some (tyJ9 k) := by decide +kernel
abbrev cJ9_max_7cf53 : ByteArray := prog_14_method_65_code
def yJ9_max_7cf53 : MethodName := ⟨RJ9, "max", "(II)I"⟩
abbrev cJ9_min_7cf53 : ByteArray := prog_14_method_69_code
def yJ9_min_7cf53 : MethodName := ⟨RJ9, "min", "(II)I"⟩
def RJ10 : String := "java/lang/System"
def TJ10 : u_T := fun k => match k with
  | _ => ("", "", "", false)
def tyJ10 : Nat → FieldType := fun k => match k with
  | _ => .int
theorem nmJ10 : ∀ a, a < 0 → ∀ b, b < 0 → a ≠ b → (TJ10 a).2.1 ≠ (TJ10 b).2.1 := by decide +kernel
theorem tyJ10_ok : ∀ k, k < 0 → parseFieldDescriptor (TJ10 k).2.2.1 = some (tyJ10 k) := by decide +kernel
def RJ7 : String := "java/util/Arrays"
def TJ7 : u_T := fun k => match k with
  | _ => ("", "", "", false)
def tyJ7 : Nat → FieldType := fun k => match k with
  | _ => .int
theorem nmJ7 : ∀ a, a < 0 → ∀ b, b < 0 → a ≠ b → (TJ7 a).2.1 ≠ (TJ7 b).2.1 := by decide +kernel
theorem tyJ7_ok : ∀ k, k < 0 → parseFieldDescriptor (TJ7 k).2.2.1 = some (tyJ7 k) := by decide +kernel
abbrev cJ7_fill_53178 : ByteArray := prog_18_method_103_code
def yJ7_fill_53178 : MethodName := ⟨RJ7, "fill", "([II)V"⟩
abbrev cJ7_copyOf_59c91 : ByteArray := prog_18_method_123_code
def yJ7_copyOf_59c91 : MethodName := ⟨RJ7, "copyOf", "([II)[I"⟩
def RL : String := "CardLinkLaw"
abbrev cL_cell : ByteArray := method_2_code
def yL_cell : MethodName := ⟨RL, "cell", "([II)I"⟩
abbrev cL_types : ByteArray := method_3_code
def yL_types : MethodName := ⟨RL, "types", "(LCardLink;[II)V"⟩
abbrev cL_answer : ByteArray := method_4_code
def yL_answer : MethodName := ⟨RL, "answer", "(I)[I"⟩
abbrev cL_size : ByteArray := method_5_code
def yL_size : MethodName := ⟨RL, "size", "([II)I"⟩
abbrev cL_message : ByteArray := method_6_code
def yL_message : MethodName := ⟨RL, "message", "([III)[I"⟩
abbrev cL_expected : ByteArray := method_7_code
def yL_expected : MethodName := ⟨RL, "expected", "([II)[I"⟩
abbrev cL_isGot : ByteArray := method_8_code
def yL_isGot : MethodName := ⟨RL, "isGot", "(LCardLink;I[III)Z"⟩
abbrev cL_sound : ByteArray := method_9_code
def yL_sound : MethodName := ⟨RL, "sound", "(LCardLink;)Z"⟩
abbrev cL_law : ByteArray := code
def yL_law : MethodName := ⟨RL, "law", "([I)Z"⟩
abbrev vwCl : List vw_C := [(RX0, TX0, 7), (RX1, TX1, 9), (RX2, TX2, 18), (RX3, TX3, 11), (RX4, TX4, 3), (RX5, TX5, 15), (RX6, TX6, 10), (RX7, TX7, 7)]
end
section
/-! ===== BEGIN words of one list among another's, by their places ===== -/
theorem goodIn_r {big : List Cond} (ws : List Cond) (ps : List Nat) (hp : ws = ps.filterMap (fun i => big[i]?)) (h : ws.all goodWord = true) : GoodIn big ws := by
  intro w hw
  have h1 := List.all_eq_true.mp h w hw
  rw [hp] at hw
  obtain ⟨i, -, hi⟩ := List.mem_filterMap.mp hw
  have hm : w ∈ big := by first | exact List.mem_of_getElem? hi | exact List.getElem?_mem hi
  exact ⟨hm, good_of_word h1⟩
theorem goodIn_app {big a b : List Cond} (ha : GoodIn big a) (hb : GoodIn big b) : GoodIn big (a ++ b) := fun w h => (List.mem_append.mp h).elim (ha w) (hb w)
theorem goodIn_ca {big a b : List Cond} {c : Cond} (ha : GoodIn big (c :: a)) (hb : GoodIn big b) : GoodIn big (c :: (a ++ b)) := fun w h => (List.mem_cons.mp h).elim (fun e => ha w (List.mem_cons.mpr (Or.inl e))) (fun h => (List.mem_append.mp h).elim (fun h => ha w (List.mem_cons.mpr (Or.inr h))) (hb w))
theorem goodIn_sub {big ws : List Cond} (hm : ∀ w ∈ ws, w ∈ big) (h : ws.all goodWord = true) : GoodIn big ws := fun w hw => ⟨hm w hw, good_of_word (List.all_eq_true.mp h w hw)⟩
/-! ===== END ===== -/

/-! ===== BEGIN exceptions that leave a method, and their catching by the caller (launches without stack traces) ===== -/
section VXA
/-! The laws vx_back, vx_callV, vx_callS, vx_callSW, vx_throw0, vx_throwS follow proofs of the library, with one case more: JvmDerived/Free/Laws.lean (Back.of_free), Shelf42/LK1.lean (callV, callS), Shelf/KitTraced.lean (throwNew0V, throwNewS). -/
/-- where a method has thrown q: the class by its name, the cell, what was written, the world -/
def vx_T (XC : String → State → State → Prop) (st : State) (q : Addr) (t : State) (mc ms : Nat) (free : Addr → Prop) : Prop :=
  ∃ (E : String) (ce : Cell) (L : List Loc), XC E st t ∧ t.heap[q]? = some ce ∧ ce.vm = .none ∧ st.vm.findClass E = some ce.cls ∧ st.WarmedH t.vm ∧ st.sameButNew ({ t with vm := st.vm } : State) L mc ms ∧ ∀ z ∈ L, free z.base
def vx_Q (Qc : Array Value → State → Outcome → State → Prop) (XC : String → State → State → Prop) (mc ms : Nat) (free : Addr → Prop) : Array Value → State → Outcome → State → Prop := fun a st o t =>
  (Qc a st o t ∧ ∃ L, FrameEnd st o t L mc ms ∧ ∀ q ∈ L, free q.base) ∨ ∃ q, o = .threw q ∧ vx_T XC st q t mc ms free
/-- a callee that returns or throws -/
def vx_Met (l : Launch) (y : MethodName) (ws : List Cond) (rm : Room) (Pc : Array Value → State → Prop) (Qc : Array Value → State → Outcome → State → Prop) (XC : String → State → State → Prop) (mc ms : Nat) (free : Addr → Prop) : Prop :=
  MetFree l y (headSpec ws rm) Pc (fun _ _ _ _ _ => True) (vx_Q Qc XC mc ms free)
def vx_Post (XC : String → State → State → Prop) (mc ms : Nat) (free : Addr → Prop) : Pt → Array Value → Addr → Pt → Prop := fun A a q B =>
  ∃ (g : JFrame) (mk : MethodId) (t : State) (L : List Loc) (E : String) (ce : Cell), B.U.heap = t.heap ∧ B.U.vm = t.vm ∧ XC E (A.U.calling g mk a) t ∧ t.heap[q]? = some ce ∧ ce.vm = .none ∧ A.U.vm.findClass E = some ce.cls ∧ B.locs = A.locs ++ L ∧ (∀ z ∈ L, free z.base) ∧ B.cells = A.cells + mc ∧ B.slots = A.slots + ms
def vx_Back (l : Launch) (R : Room) (p : Program) (e : Env) (below : List Frame) (s : State) (sargs : Array Value) (y : MethodName) (len W9 : Nat)
    (Pre : Pt → Array Value → Prop) (Post : Pt → Array Value → Option Value → Pt → Prop) (PostX : Pt → Array Value → Addr → Pt → Prop) : Prop :=
  ∀ (m : MethodId) (meth : Method) (c : Code) (A : Pt) (g : JFrame) (ig : Instr) (mk : MethodId) (a : Array Value),
    Stand p l e R s m sargs below meth c A.U A.locs A.cells A.slots → g.method = m → g.locals.size = c.maxLocals → decode c.code g.pc = .ok (ig, len) →
    2 * g.monitorRoom + (g.stack.map fun v => v.category).sum ≤ W9 → A.U.methodNamed? y = some mk → Pre A a →
    (∃ (v : Option Value) (B : Pt), Stand p l e R s m sargs below meth c B.U B.locs B.cells B.slots ∧ Post A a v B ∧
      Steps p.tables e below (doInvoke e (A.U.setTop g) [] mk a).1 (B.U.setTop { g with pc := g.pc + len, stack := v.toList ++ g.stack })) ∨
    (∃ (q : Addr) (B : Pt), Stand p l e R s m sargs below meth c B.U B.locs B.cells B.slots ∧ PostX A a q B ∧
      Steps p.tables e below (doInvoke e (A.U.setTop g) [] mk a).1 ((B.U.setTop g).pushFrame (.throwing q)))
section Payer
variable {l : Launch} {R : Room} {p : Program} {e : Env} {below : List Frame} {s : State} {sargs : Array Value} {y : MethodName} {len W9 : Nat}
theorem vx_back {ws : List Cond} {rm : Room} {Pc : Array Value → State → Prop} {Qc : Array Value → State → Outcome → State → Prop} {XC : String → State → State → Prop} {mc ms : Nat} {free : Addr → Prop} {bytes : ByteArray} {maxL : Nat} {ret : Option FieldType}
    (hM : vx_Met l y ws rm Pc Qc XC mc ms free) (hblind : FrameBlind Pc) (hrc : rm.cells = mc) (hrs : rm.slots = ms)
    (hframes : rm.frames + 1 ≤ R.frames) (hlocals : W9 + (maxL + 11) + rm.locals ≤ R.locals)
    (hws : ∀ w ∈ ws, ∀ a' U, s.WarmedH U.vm → w.before a' U = true) (hcode : Cond.code y bytes maxL ret ∈ ws) (hinit : ∀ a' U, s.WarmedH U.vm → (Cond.initialized y.cls).before a' U = true) :
    vx_Back l R p e below s sargs y len W9 (PreOf R mc ms Pc) (PostOf Qc mc ms free) (vx_Post XC mc ms free) := by
  intro m meth c A g ig mk a X hg hsize hdg hW hn hp
  have h1 : (headSpec ws rm).pre.before a A.U = true := atoms_intro fun w hw => hws w hw _ _ X.warmed
  have h2 : (Cond.code y bytes maxL ret).before a A.U = true := hws _ hcode _ _ X.warmed
  have h3 : (Cond.initialized y.cls).before a A.U = true := hinit _ _ X.warmed
  have h4 : A.cells + (headSpec ws rm).room.cells ≤ R.cells := by rw [show (headSpec ws rm).room.cells = mc from hrc]; exact hp.1
  have h5 : A.slots + (headSpec ws rm).room.slots ≤ R.slots := by rw [show (headSpec ws rm).room.slots = ms from hrs]; exact hp.2.1
  have hPc : Pc a (A.U.calling g mk a) := hblind _ _ _ _ hp.2.2
  obtain ⟨U, Ls, c0, s0⟩ := A
  dsimp only [Pt.U, Pt.locs, Pt.cells, Pt.slots] at h1 h2 h3 h4 h5 X hn hPc ⊢
  obtain ⟨methY, cY, hmY, hcY, -, hlY, -, -, -, -⟩ := Cond.code_spec hn h2
  obtain ⟨kY, hkY, -⟩ := className_of_methodNamed hn
  have hinitY : kY.init = .initialized := Cond.initialized_spec (findClass_of_methodNamed hn) hkY h3
  have h : At U g.method c below := by rw [hg]; exact X.here
  have hlocals9 : W9 + (maxL + 11) + (headSpec ws rm).room.locals ≤ R.locals := hlocals
  have happ : (headSpec ws rm).appliesLoose y e.platform (U.calling g mk a) = true :=
    Spec.appliesLoose_calling (g := g) h hdg hn hkY hinitY
      (X.room_calling (g := g) (R' := (headSpec ws rm).room) hsize hmY hcY hframes (by rw [hlY]; omega) h4 h5) h1
  obtain ⟨mid, hmid⟩ := h.above
  have hfr : (U.setTop g).frames = (.java g :: mid) ++ below := by rw [State.frames_setTop' g h.top, hmid]; rfl
  obtain ⟨o, s₂, hsteps, -, hend, hq⟩ := Steps.callFree hM p X.admits X.cas X.clock (acts := []) hfr happ hPc trivial
  have hq' : vx_Q Qc XC mc ms free a (U.calling g mk a) o s₂ := hq
  rw [State.frames_setTop' g h.top] at hend
  obtain ⟨g₀, hg0⟩ := Option.isSome_iff_exists.mp h.top
  obtain ⟨r, hr⟩ := State.topJava?_eq_some.mp hg0
  have hr' : (({ U with heap := s₂.heap, slotsUsed := s₂.slotsUsed } : State).setVm s₂.vm).frames = .java g₀ :: r := hr
  rcases hq' with ⟨hqc, L, hfe, hL⟩ | ⟨q, rfl, E, ce, L, hx, hce, hcv, hcl, hW₂, hsm, hL⟩
  · obtain ⟨⟨v, rfl⟩, hW₂, e2, q2, q3, q4, q5, q6⟩ := id hfe
    have e3 : s₂ = ({ (U.calling g mk a).setFrames s₂.frames with heap := s₂.heap, slotsUsed := s₂.slotsUsed } : State).setVm s₂.vm := by
      have : s₂ = ({ s₂ with vm := (U.calling g mk a).vm } : State).setVm s₂.vm := rfl
      rw [e2] at this
      exact this
    obtain ⟨c₂, i₂, len₂, hc₂, hd₂, hf₂⟩ := hend
    have hW' : U.WarmedH s₂.vm := hW₂
    have hcc : c₂ = c := by
      have h1 : s₂.code? g.method = U.code? g.method := by
        rw [State.code?_eq, State.code?_eq, hW'.alike.method?]
      exact Option.some.inj (hc₂.symm.trans (h1.trans h.code))
    subst hcc
    have hlen : len₂ = len := by rw [hdg] at hd₂; cases hd₂; rfl
    subst hlen
    have hs₂ : s₂ = (({ U with heap := s₂.heap, slotsUsed := s₂.slotsUsed } : State).setVm s₂.vm).setTop { g with pc := g.pc + len₂, stack := v.toList ++ g.stack } := by
      refine e3.trans ?_
      rw [hf₂, State.calling_eq h.top, State.setFrames_setFrames, State.setTop_of_frames _ hr', hr]
      rfl
    have hsame : U.sameButNew ({ U with heap := s₂.heap, slotsUsed := s₂.slotsUsed } : State) L mc ms := by
      refine ⟨?_, q2, q3, q4, q5, q6⟩
      obtain ⟨t, ht, -⟩ := State.frames_cons hr
      show ({ U with heap := s₂.heap, slotsUsed := s₂.slotsUsed } : State) = { U.setFrames U.frames with heap := s₂.heap, slotsUsed := s₂.slotsUsed }
      rw [State.setFrames_self ht]
    subst hg
    refine Or.inl ⟨v, ⟨(({ U with heap := s₂.heap, slotsUsed := s₂.slotsUsed } : State).setVm s₂.vm), Ls ++ L, c0 + mc, s0 + ms⟩,
      ⟨X.admits, X.cas, X.clock, X.frames, X.room, X.hears, X.method, X.code, (X.here.setHeapUsed s₂.heap s₂.slotsUsed).setVm hW'.alike, X.tail, State.WarmedH.trans X.warmed hW', X.limits, X.bytes, X.same.trans (hsame.setVm s.vm)⟩,
      ⟨g, mk, s₂, L, rfl, rfl, hqc, rfl, hL, rfl, rfl⟩, ?_⟩
    show Steps p.tables e below _ ((({ U with heap := s₂.heap, slotsUsed := s₂.slotsUsed } : State).setVm s₂.vm).setTop { g with pc := g.pc + len₂, stack := v.toList ++ g.stack })
    rw [← hs₂]
    exact hsteps
  · obtain ⟨e2, q2, q3, q4, q5, q6⟩ := id hsm
    have e3 : s₂ = ({ (U.calling g mk a).setFrames s₂.frames with heap := s₂.heap, slotsUsed := s₂.slotsUsed } : State).setVm s₂.vm := by
      have : s₂ = ({ s₂ with vm := (U.calling g mk a).vm } : State).setVm s₂.vm := rfl
      rw [e2] at this
      exact this
    have hf₂ : s₂.frames = .throwing q :: .java g :: U.frames.tail := hend
    have hW' : U.WarmedH s₂.vm := hW₂
    have hs₂ : s₂ = ((({ U with heap := s₂.heap, slotsUsed := s₂.slotsUsed } : State).setVm s₂.vm).setTop g).pushFrame (.throwing q) := by
      refine e3.trans ?_
      rw [hf₂, State.calling_eq h.top, State.setFrames_setFrames, State.pushFrame, State.frames_setTop _ hr', State.setTop_of_frames _ hr', State.setFrames_setFrames, hr]
      rfl
    have hsame : U.sameButNew ({ U with heap := s₂.heap, slotsUsed := s₂.slotsUsed } : State) L mc ms := by
      refine ⟨?_, q2, q3, q4, q5, q6⟩
      obtain ⟨t, ht, -⟩ := State.frames_cons hr
      show ({ U with heap := s₂.heap, slotsUsed := s₂.slotsUsed } : State) = { U.setFrames U.frames with heap := s₂.heap, slotsUsed := s₂.slotsUsed }
      rw [State.setFrames_self ht]
    subst hg
    refine Or.inr ⟨q, ⟨(({ U with heap := s₂.heap, slotsUsed := s₂.slotsUsed } : State).setVm s₂.vm), Ls ++ L, c0 + mc, s0 + ms⟩,
      ⟨X.admits, X.cas, X.clock, X.frames, X.room, X.hears, X.method, X.code, (X.here.setHeapUsed s₂.heap s₂.slotsUsed).setVm hW'.alike, X.tail, State.WarmedH.trans X.warmed hW', X.limits, X.bytes, X.same.trans (hsame.setVm s.vm)⟩,
      ⟨g, mk, s₂, L, E, ce, rfl, rfl, hx, hce, hcv, hcl, rfl, hL, rfl, rfl⟩, ?_⟩
    show Steps p.tables e below _ (((({ U with heap := s₂.heap, slotsUsed := s₂.slotsUsed } : State).setVm s₂.vm).setTop g).pushFrame (.throwing q))
    rw [← hs₂]
    exact hsteps
end Payer
section Calls
variable {p : Program} {l : Launch} {e : Env} {R : Room} {s : State} {m : MethodId} {args : Array Value} {below : List Frame} {meth : Method} {c : Code} {T : State} {locs : List Loc} {cells slots : Nat}
theorem vx_callV (X : Stand p l e R s m args below meth c T locs cells slots) (hexec : p.tables.exec = Jvm.exec) {own C : String} {index : Nat} {y : MethodName} {bytes : ByteArray} {maxL : Nat} {ret : Option FieldType}
    (hown : s.vm.findClass own = some m.cls) (hlink : (Cond.methodLink own index y).before args s = true) (hinst : (Cond.instanceMethod y).before args s = true) (hsel : (Cond.selects C y y).before args s = true)
    (hcode : (Cond.code y bytes maxL ret).before args s = true) (hy : y.cls ≠ "java/lang/invoke/MethodHandle" ∧ y.cls ≠ "java/lang/invoke/VarHandle")
    {W9 : Nat} {Pre : Pt → Array Value → Prop} {Post : Pt → Array Value → Option Value → Pt → Prop} {PostX : Pt → Array Value → Addr → Pt → Prop} (hK : vx_Back l R p e below s args y 3 W9 Pre Post PostX)
    {b : Addr} {cellB : Cell} (hcell : T.heap[b]? = some cellB) (hobj : cellB.vm.isStatics = false) (hcls : s.vm.findClass C = some cellB.cls)
    {g : JFrame} (hg : g.method = m) (hsize : g.locals.size = c.maxLocals) {argsL rest : List Value} (hlen : ∀ sig, parseMethodDescriptor y.desc = some sig → argsL.length = sig.parameters.length)
    (hstack : g.stack = argsL.reverse ++ .ref b :: rest) (hW : 2 * g.monitorRoom + (rest.map fun v => v.category).sum ≤ W9) (hdg : decode c.code g.pc = .ok (.invokevirtual index, 3))
    (hpre : ∀ vm₁, s.WarmedH vm₁ → Pre ⟨T.setVm vm₁, locs, cells, slots⟩ (Value.ref b :: argsL).toArray) :
    (∃ (v : Option Value) (vm₁ : Vm) (B : Pt), s.WarmedH vm₁ ∧ Stand p l e R s m args below meth c B.U B.locs B.cells B.slots ∧ Post ⟨T.setVm vm₁, locs, cells, slots⟩ (Value.ref b :: argsL).toArray v B ∧
      ∀ target, Steps p.tables e below (B.U.setTop { g with pc := g.pc + 3, stack := v.toList ++ rest }) target → Steps p.tables e below (T.setTop g) target) ∨
    (∃ (q : Addr) (vm₁ : Vm) (B : Pt), s.WarmedH vm₁ ∧ Stand p l e R s m args below meth c B.U B.locs B.cells B.slots ∧ PostX ⟨T.setVm vm₁, locs, cells, slots⟩ (Value.ref b :: argsL).toArray q B ∧
      Steps p.tables e below (T.setTop g) ((B.U.setTop { g with stack := rest }).pushFrame (.throwing q))) := by
  obtain ⟨mk, methM, hnamed, hmethM, hstM, habM⟩ := Cond.instanceMethod_spec hinst
  obtain ⟨methM', cM, hmethM', -, -, -, -, -, -, hsigM⟩ := Cond.code_spec hnamed hcode
  cases hmethM.symm.trans hmethM'
  obtain ⟨c2, r2, m2, q1, q2, q3, q4, kP, hkP, hkPi⟩ := Cond.selects_spec hsel
  cases hcls.symm.trans q1
  cases (State.methodFound?_of_named hnamed hy).symm.trans q2
  cases hnamed.symm.trans q3
  have hselP : selectMethod e.platform s.vm cellB.cls mk = .method mk := by rw [Launch.admits_selectMethod X.admits]; exact q4
  obtain ⟨vm₁, X₁, hstep₁⟩ := X.invokevirtual hexec hown hlink hnamed hmethM hstM hkP hkPi hy (a := b) (cell := cellB) hcell
    (fun z h => by rw [h] at hobj; cases hobj) hselP hmethM habM hkP hkPi (g := g) hg (argsL := argsL) (rest := rest) (hlen _ hsigM) hstack hdg
  rcases hK m meth c ⟨T.setVm vm₁, locs, cells, slots⟩ { g with stack := rest } (.invokevirtual index) mk (Value.ref b :: argsL).toArray X₁ hg hsize hdg hW (X₁.named hnamed) (hpre vm₁ X₁.warmed) with ⟨v, B, X', hpost, hsteps⟩ | ⟨q, B, X', hpost, hsteps⟩
  · exact Or.inl ⟨v, vm₁, B, X₁.warmed, X', hpost, fun target h => hstep₁ _ fun acts => by rw [doInvoke_state]; exact hsteps.trans h⟩
  · exact Or.inr ⟨q, vm₁, B, X₁.warmed, X', hpost, hstep₁ _ fun acts => by rw [doInvoke_state]; exact hsteps⟩
theorem vx_callS (X : Stand p l e R s m args below meth c T locs cells slots) (hexec : p.tables.exec = Jvm.exec) {own : String} {index : Nat} {y : MethodName} {bytes : ByteArray} {maxL : Nat} {ret : Option FieldType}
    (hown : s.vm.findClass own = some m.cls) (hlink : (Cond.methodLink own index y).before args s = true) (hstat : (Cond.static y).before args s = true) (hinit : (Cond.initialized y.cls).before args s = true)
    (hcode : (Cond.code y bytes maxL ret).before args s = true) (hy : y.cls ≠ "java/lang/invoke/MethodHandle" ∧ y.cls ≠ "java/lang/invoke/VarHandle")
    {W9 : Nat} {Pre : Pt → Array Value → Prop} {Post : Pt → Array Value → Option Value → Pt → Prop} {PostX : Pt → Array Value → Addr → Pt → Prop} (hK : vx_Back l R p e below s args y 3 W9 Pre Post PostX)
    {g : JFrame} (hg : g.method = m) (hsize : g.locals.size = c.maxLocals) {argsL rest : List Value} (hlen : ∀ sig, parseMethodDescriptor y.desc = some sig → argsL.length = sig.parameters.length)
    (hstack : g.stack = argsL.reverse ++ rest) (hW : 2 * g.monitorRoom + (rest.map fun v => v.category).sum ≤ W9) (hdg : decode c.code g.pc = .ok (.invokestatic index, 3))
    (hpre : ∀ vm₁, s.WarmedH vm₁ → Pre ⟨T.setVm vm₁, locs, cells, slots⟩ argsL.toArray) :
    (∃ (v : Option Value) (vm₁ : Vm) (B : Pt), s.WarmedH vm₁ ∧ Stand p l e R s m args below meth c B.U B.locs B.cells B.slots ∧ Post ⟨T.setVm vm₁, locs, cells, slots⟩ argsL.toArray v B ∧
      ∀ target, Steps p.tables e below (B.U.setTop { g with pc := g.pc + 3, stack := v.toList ++ rest }) target → Steps p.tables e below (T.setTop g) target) ∨
    (∃ (q : Addr) (vm₁ : Vm) (B : Pt), s.WarmedH vm₁ ∧ Stand p l e R s m args below meth c B.U B.locs B.cells B.slots ∧ PostX ⟨T.setVm vm₁, locs, cells, slots⟩ argsL.toArray q B ∧
      Steps p.tables e below (T.setTop g) ((B.U.setTop { g with stack := rest }).pushFrame (.throwing q))) := by
  obtain ⟨mk, hnamed⟩ := Cond.code_named hcode
  obtain ⟨methM, cM, hmethM, -, -, -, -, -, -, hsigM⟩ := Cond.code_spec hnamed hcode
  have hstatic : methM.isStatic = true := Cond.static_spec hnamed hmethM hstat
  obtain ⟨kP, hkP, -⟩ := className_of_methodNamed hnamed
  have hinitP : kP.init = .initialized := Cond.initialized_spec (findClass_of_methodNamed hnamed) hkP hinit
  obtain ⟨vm₁, X₁, hstep₁⟩ := X.invokestatic hexec hown hlink hnamed hmethM hstatic hkP hinitP hy (g := g) hg (argsL := argsL) (rest := rest) (hlen _ hsigM) hstack hdg
  rcases hK m meth c ⟨T.setVm vm₁, locs, cells, slots⟩ { g with stack := rest } (.invokestatic index) mk argsL.toArray X₁ hg hsize hdg hW (X₁.named hnamed) (hpre vm₁ X₁.warmed) with ⟨v, B, X', hpost, hsteps⟩ | ⟨q, B, X', hpost, hsteps⟩
  · exact Or.inl ⟨v, vm₁, B, X₁.warmed, X', hpost, fun target h => hstep₁ _ fun acts => by rw [doInvoke_state]; exact hsteps.trans h⟩
  · exact Or.inr ⟨q, vm₁, B, X₁.warmed, X', hpost, hstep₁ _ fun acts => by rw [doInvoke_state]; exact hsteps⟩
end Calls
theorem vx_cls {s : State} {T : State} {vm₁ : Vm} {E : String} {k : ClassId} (hW : s.WarmedH vm₁) (h : (T.setVm vm₁).vm.findClass E = some k) : s.vm.findClass E = some k := by
  have h1 : vm₁.findClass E = some k := h
  rw [hW.alike.findClass] at h1
  exact h1
/-- the method's frame g, with q thrown over it -/
def vx_W (p : Program) (l : Launch) (e : Env) (R : Room) (s : State) (m : MethodId) (args : Array Value) (below : List Frame) (meth : Method) (c : Code) (H : Heap) (locs : List Loc) (cells slots : Nat) (Q : State → Prop) (g : JFrame) (q : Addr) : Prop :=
  ∀ T : State, T.heap = H → Stand p l e R s m args below meth c T locs cells slots → ∃ t, Steps p.tables e below ((T.setTop g).pushFrame (.throwing q)) t ∧ Q t
def vx_Run (p : Program) (l : Launch) (e : Env) (R : Room) (s : State) (m : MethodId) (args : Array Value) (below : List Frame) (meth : Method) (c : Code) (H : Heap) (locs : List Loc) (cells slots mc ms : Nat) (g : JFrame) (rest : List Value) (Qa : State → Outcome → State → Prop) (XC : String → State → State → Prop) (free : Addr → Prop) : Prop :=
  ∀ T : State, T.heap = H → Stand p l e R s m args below meth c T locs cells slots →
    (∃ (v : Option Value) (st₀ t T' : State) (L : List Loc), st₀.heap = H ∧ Stand p l e R s m args below meth c T' (locs ++ L) (cells + mc) (slots + ms) ∧ (∀ q ∈ L, free q.base) ∧ T'.heap = t.heap ∧ T'.vm = t.vm ∧ Qa st₀ (.returned v) t ∧
      Goes p e below T g T' { g with pc := g.pc + 3, stack := v.toList ++ rest }) ∨
    (∃ (q : Addr) (st₀ t T' : State) (L : List Loc) (E : String) (ce : Cell), st₀.heap = H ∧ Stand p l e R s m args below meth c T' (locs ++ L) (cells + mc) (slots + ms) ∧ (∀ z ∈ L, free z.base) ∧ T'.heap = t.heap ∧ T'.vm = t.vm ∧ XC E st₀ t ∧ t.heap[q]? = some ce ∧ ce.vm = .none ∧ s.vm.findClass E = some ce.cls ∧
      Steps p.tables e below (T.setTop g) ((T'.setTop { g with stack := rest }).pushFrame (.throwing q)))
def vx_X {S : Type} (px : S → Prop) (B : String → S → State → Prop) (A : Nat → Prop) : String → State → State → Prop := fun E st t => ∃ u : S, px u ∧ B E u t ∧ va_F A st t
section Runs
variable {p : Program} {l : Launch} {e : Env} {R : Room} {s : State} {m : MethodId} {args : Array Value} {below : List Frame} {meth : Method} {c : Code} {H : Heap} {locs : List Loc} {cells slots : Nat}
variable {y : MethodName} {bytes cc : ByteArray} {maxL nL mc ms n index : Nat} {ret : Option FieldType} {ws : List Cond} {rm : Room} {Pc : Array Value → State → Prop} {Qc : Array Value → State → Outcome → State → Prop} {XC : String → State → State → Prop} {free : Addr → Prop} {Ts : List Cond} {own C : String} {b : Addr} {As rest : List Value} {g : JFrame}
theorem vx_callBack (cb : CallB R s args own index y bytes maxL ret ws rm mc ms n) (hM : vx_Met l y ws rm Pc Qc XC mc ms free) (hbl : FrameBlind Pc) : vx_Back l R p e below s args y 3 8 (PreOf R mc ms Pc) (PostOf Qc mc ms free) (vx_Post XC mc ms free) := by
  obtain ⟨hrc, hrs, hfr, hlo, hws, hcw, -, hini, -⟩ := cb
  exact vx_back (bytes := bytes) (maxL := maxL) (ret := ret) hM hbl hrc hrs hfr hlo hws hcw (fun a' U hW => word_at hW (Or.inl (by first | rfl | simp [Cond.onTables, Cond.keeps, Cond.steady])) hini)
theorem vx_runV (S : CallFix p m c cc nL s args Ts own) (hM : vx_Met l y ws rm Pc Qc XC mc ms free) (cw : CallW R s args own C index y bytes maxL ret ws rm mc ms n) (hp : PreV s H C b Pc As)
    (hg : g.method = m) (hn : As.length = n) (hsize : g.locals.size = nL) (hstack : g.stack = As.reverse ++ .ref b :: rest) (hW : 2 * g.monitorRoom + (rest.map fun v => v.category).sum ≤ 8) (hdg : decode cc g.pc = .ok (.invokevirtual index, 3)) (hf : cells + mc ≤ R.cells ∧ slots + ms ≤ R.slots) :
    vx_Run p l e R s m args below meth c H locs cells slots mc ms g rest (Qc (Value.ref b :: As).toArray) XC free := by
  have hK : vx_Back l R p e below s args y 3 8 (PreOf R mc ms Pc) (PostOf Qc mc ms free) (vx_Post XC mc ms free) := vx_callBack cw.1 hM hp.1
  obtain ⟨⟨-, -, -, -, -, -, hcode, -, hy, hlen, hl⟩, hin, hse⟩ := cw
  obtain ⟨hx, hb, hml, ho, -⟩ := S
  obtain ⟨-, ⟨cellB, hcB, hoB, hclB⟩, hPc⟩ := hp
  intro T hT X
  rcases vx_callV X hx (C := C) (bytes := bytes) (maxL := maxL) (ret := ret) ho hl hin hse hcode hy hK (by rw [hT]; exact hcB) hoB hclB hg (hsize.trans hml.symm) (argsL := As) (rest := rest) (fun sig h => hn.trans (hlen sig h)) hstack hW (by rw [hb]; exact hdg)
    (fun vm₁ hW₁ => ⟨hf.1, hf.2, hPc (T.setVm vm₁) hT hW₁⟩) with ⟨v, vm₁, ⟨U', l2, c2, s2⟩, hW₁, X', ⟨g', mk, t, L, e1, e2, hq, h1, hL, h2, h3⟩, st⟩ | ⟨q, vm₁, ⟨U', l2, c2, s2⟩, hW₁, X', ⟨g', mk, t, L, E, ce, e1, e2, hq, hce, hcv, hcl, h1, hL, h2, h3⟩, st⟩
  · dsimp only [Pt.U, Pt.locs, Pt.cells, Pt.slots] at X' e1 e2 h1 h2 h3 st
    subst h1; subst h2; subst h3
    exact Or.inl ⟨v, (T.setVm vm₁).calling g' mk (Value.ref b :: As).toArray, t, U', L, hT, X', hL, e1, e2, hq, st⟩
  · dsimp only [Pt.U, Pt.locs, Pt.cells, Pt.slots] at X' e1 e2 h1 h2 h3 st hcl
    subst h1; subst h2; subst h3
    exact Or.inr ⟨q, (T.setVm vm₁).calling g' mk (Value.ref b :: As).toArray, t, U', L, E, ce, hT, X', hL, e1, e2, hq, hce, hcv, vx_cls hW₁ hcl, st⟩
theorem vx_runS (S : CallFix p m c cc nL s args Ts own) (hM : vx_Met l y ws rm Pc Qc XC mc ms free) (cw : CallB R s args own index y bytes maxL ret ws rm mc ms n ∧ (Cond.static y).before args s = true) (hp : PreS s H Pc As)
    (hg : g.method = m) (hn : As.length = n) (hsize : g.locals.size = nL) (hstack : g.stack = As.reverse ++ rest) (hW : 2 * g.monitorRoom + (rest.map fun v => v.category).sum ≤ 8) (hdg : decode cc g.pc = .ok (.invokestatic index, 3)) (hf : cells + mc ≤ R.cells ∧ slots + ms ≤ R.slots) :
    vx_Run p l e R s m args below meth c H locs cells slots mc ms g rest (Qc As.toArray) XC free := by
  have hK : vx_Back l R p e below s args y 3 8 (PreOf R mc ms Pc) (PostOf Qc mc ms free) (vx_Post XC mc ms free) := vx_callBack cw.1 hM hp.1
  obtain ⟨⟨-, -, -, -, -, -, hcode, hini, hy, hlen, hl⟩, hstt⟩ := cw
  obtain ⟨hx, hb, hml, ho, -⟩ := S
  intro T hT X
  rcases vx_callS X hx (bytes := bytes) (maxL := maxL) (ret := ret) ho hl hstt hini hcode hy hK hg (hsize.trans hml.symm) (argsL := As) (rest := rest) (fun sig h => hn.trans (hlen sig h)) hstack hW (by rw [hb]; exact hdg)
    (fun vm₁ hW₁ => ⟨hf.1, hf.2, hp.2 (T.setVm vm₁) hT hW₁⟩) with ⟨v, vm₁, ⟨U', l2, c2, s2⟩, hW₁, X', ⟨g', mk, t, L, e1, e2, hq, h1, hL, h2, h3⟩, st⟩ | ⟨q, vm₁, ⟨U', l2, c2, s2⟩, hW₁, X', ⟨g', mk, t, L, E, ce, e1, e2, hq, hce, hcv, hcl, h1, hL, h2, h3⟩, st⟩
  · dsimp only [Pt.U, Pt.locs, Pt.cells, Pt.slots] at X' e1 e2 h1 h2 h3 st
    subst h1; subst h2; subst h3
    exact Or.inl ⟨v, (T.setVm vm₁).calling g' mk As.toArray, t, U', L, hT, X', hL, e1, e2, hq, st⟩
  · dsimp only [Pt.U, Pt.locs, Pt.cells, Pt.slots] at X' e1 e2 h1 h2 h3 st hcl
    subst h1; subst h2; subst h3
    exact Or.inr ⟨q, (T.setVm vm₁).calling g' mk As.toArray, t, U', L, E, ce, hT, X', hL, e1, e2, hq, hce, hcv, vx_cls hW₁ hcl, st⟩
end Runs
section Rows
variable {p : Program} {l : Launch} {e : Env} {R : Room} {s : State} {m : MethodId} {args : Array Value} {below : List Frame} {meth : Method} {c : Code} {H : Heap} {locs : List Loc} {cells slots : Nat} {Q : State → Prop}
variable {mc ms : Nat} {free : Addr → Prop} {A0 A1 : Nat → Prop} {H0 : Heap} {a : Array Value} {pc : Nat} {ls : Array Slot} {st0 rest : List Value}
theorem vx_keep {st₀ t T' : State} {L : List Loc} (h0 : st₀.heap = H) (e1 : T'.heap = t.heap) (hS : va_S A0 H0 H locs) (hA : ∀ q, q < H.size → A1 q → A0 q) (hf : ∀ q, free q → A0 q) (hL : ∀ q ∈ L, free q.base) (hF : va_F A1 st₀ t) :
    H.size ≤ T'.heap.size ∧ (∀ q : Nat, q < H.size → ¬ A1 q → T'.heap[q]? = H[q]?) ∧ va_S A0 H0 T'.heap (locs ++ L) := by
  obtain ⟨hz, hk⟩ := hF
  rw [h0] at hz hk
  exact ⟨by rw [e1]; exact hz, fun q h1 h2 => by rw [e1]; exact hk q h1 h2,
    ⟨Nat.le_trans hS.1 (by rw [e1]; exact hz), fun q h1 h2 => by rw [e1, hk q (Nat.lt_of_lt_of_le h1 hS.1) (fun z => h2 (hA q (Nat.lt_of_lt_of_le h1 hS.1) z))]; exact hS.2.1 q h1 h2, fun q hq => by
      rcases List.mem_append.mp hq with h | h
      · exact hS.2.2 q h
      · exact hf _ (hL q h)⟩⟩
theorem vx_calli {S SX : Type} {post : Int32 → S → Prop} {px : SX → Prop} {B : S → State → Prop} {BX : String → SX → State → Prop} {AX : Nat → Prop} (hr : vx_Run p l e R s m args below meth c H locs cells slots mc ms (F0 m pc ls st0) rest (va_Qi post B A1 a) (vx_X px BX AX) free) (hS : va_S A0 H0 H locs) (hA : ∀ q, q < H.size → A1 q → A0 q) (hf : ∀ q, free q → A0 q) (hAX : ∀ q, q < H.size → AX q → A0 q)
    (kx : ∀ (E : String) (ce : Cell) (q9 : Addr) (u : SX) (t : State) (H1 : Heap) (locs1 : List Loc), t.heap = H1 → s.vm.Alike t.vm → px u → BX E u t → H.size ≤ H1.size → (∀ q : Nat, q < H.size → ¬ AX q → H1[q]? = H[q]?) → va_S A0 H0 H1 locs1 → H1[q9]? = some ce → ce.vm = .none → s.vm.findClass E = some ce.cls → vx_W p l e R s m args below meth c H1 locs1 (cells + mc) (slots + ms) Q (F0 m pc ls rest) q9)
    (kk : ∀ (r : Int32) (u : S) (t : State) (H1 : Heap) (locs1 : List Loc), t.heap = H1 → s.vm.Alike t.vm → post r u → B u t → H.size ≤ H1.size → (∀ q : Nat, q < H.size → ¬ A1 q → H1[q]? = H[q]?) → va_S A0 H0 H1 locs1 → W p l e R s m args below meth c H1 locs1 (cells + mc) (slots + ms) Q (F0 m (pc + 3) ls (.int r :: rest))) : W p l e R s m args below meth c H locs cells slots Q (F0 m pc ls st0) := by
  intro T hT X
  rcases hr T hT X with ⟨v, st₀, t, T', L, h0, X', hL, e1, e2, ⟨⟨r, u, hv, hp, hb⟩, hF⟩, st⟩ | ⟨q, st₀, t, T', L, E, ce, h0, X', hL, e1, e2, ⟨u, hp, hb, hF⟩, hce, hcv, hcl, st⟩
  · cases hv
    obtain ⟨k1, k2, k3⟩ := vx_keep h0 e1 hS hA hf hL hF
    obtain ⟨t2, a1, b1⟩ := kk r u t T'.heap (locs ++ L) e1.symm (by rw [← e2]; exact X'.warmed.alike) hp hb k1 k2 k3 T' rfl X'
    exact ⟨t2, st t2 a1, b1⟩
  · obtain ⟨k1, k2, k3⟩ := vx_keep h0 e1 hS hAX hf hL hF
    obtain ⟨t2, a1, b1⟩ := kx E ce q u t T'.heap (locs ++ L) e1.symm (by rw [← e2]; exact X'.warmed.alike) hp hb k1 k2 k3 (by rw [e1]; exact hce) hcv hcl T' rfl X'
    exact ⟨t2, st.trans a1, b1⟩
theorem vx_calll {S SX : Type} {post : Int64 → S → Prop} {px : SX → Prop} {B : S → State → Prop} {BX : String → SX → State → Prop} {AX : Nat → Prop} (hr : vx_Run p l e R s m args below meth c H locs cells slots mc ms (F0 m pc ls st0) rest (va_Ql post B A1 a) (vx_X px BX AX) free) (hS : va_S A0 H0 H locs) (hA : ∀ q, q < H.size → A1 q → A0 q) (hf : ∀ q, free q → A0 q) (hAX : ∀ q, q < H.size → AX q → A0 q)
    (kx : ∀ (E : String) (ce : Cell) (q9 : Addr) (u : SX) (t : State) (H1 : Heap) (locs1 : List Loc), t.heap = H1 → s.vm.Alike t.vm → px u → BX E u t → H.size ≤ H1.size → (∀ q : Nat, q < H.size → ¬ AX q → H1[q]? = H[q]?) → va_S A0 H0 H1 locs1 → H1[q9]? = some ce → ce.vm = .none → s.vm.findClass E = some ce.cls → vx_W p l e R s m args below meth c H1 locs1 (cells + mc) (slots + ms) Q (F0 m pc ls rest) q9)
    (kk : ∀ (r : Int64) (u : S) (t : State) (H1 : Heap) (locs1 : List Loc), t.heap = H1 → s.vm.Alike t.vm → post r u → B u t → H.size ≤ H1.size → (∀ q : Nat, q < H.size → ¬ A1 q → H1[q]? = H[q]?) → va_S A0 H0 H1 locs1 → W p l e R s m args below meth c H1 locs1 (cells + mc) (slots + ms) Q (F0 m (pc + 3) ls (.long r :: rest))) : W p l e R s m args below meth c H locs cells slots Q (F0 m pc ls st0) := by
  intro T hT X
  rcases hr T hT X with ⟨v, st₀, t, T', L, h0, X', hL, e1, e2, ⟨⟨r, u, hv, hp, hb⟩, hF⟩, st⟩ | ⟨q, st₀, t, T', L, E, ce, h0, X', hL, e1, e2, ⟨u, hp, hb, hF⟩, hce, hcv, hcl, st⟩
  · cases hv
    obtain ⟨k1, k2, k3⟩ := vx_keep h0 e1 hS hA hf hL hF
    obtain ⟨t2, a1, b1⟩ := kk r u t T'.heap (locs ++ L) e1.symm (by rw [← e2]; exact X'.warmed.alike) hp hb k1 k2 k3 T' rfl X'
    exact ⟨t2, st t2 a1, b1⟩
  · obtain ⟨k1, k2, k3⟩ := vx_keep h0 e1 hS hAX hf hL hF
    obtain ⟨t2, a1, b1⟩ := kx E ce q u t T'.heap (locs ++ L) e1.symm (by rw [← e2]; exact X'.warmed.alike) hp hb k1 k2 k3 (by rw [e1]; exact hce) hcv hcl T' rfl X'
    exact ⟨t2, st.trans a1, b1⟩
theorem vx_callf {S SX : Type} {post : UInt32 → S → Prop} {px : SX → Prop} {B : S → State → Prop} {BX : String → SX → State → Prop} {AX : Nat → Prop} (hr : vx_Run p l e R s m args below meth c H locs cells slots mc ms (F0 m pc ls st0) rest (va_Qf post B A1 a) (vx_X px BX AX) free) (hS : va_S A0 H0 H locs) (hA : ∀ q, q < H.size → A1 q → A0 q) (hf : ∀ q, free q → A0 q) (hAX : ∀ q, q < H.size → AX q → A0 q)
    (kx : ∀ (E : String) (ce : Cell) (q9 : Addr) (u : SX) (t : State) (H1 : Heap) (locs1 : List Loc), t.heap = H1 → s.vm.Alike t.vm → px u → BX E u t → H.size ≤ H1.size → (∀ q : Nat, q < H.size → ¬ AX q → H1[q]? = H[q]?) → va_S A0 H0 H1 locs1 → H1[q9]? = some ce → ce.vm = .none → s.vm.findClass E = some ce.cls → vx_W p l e R s m args below meth c H1 locs1 (cells + mc) (slots + ms) Q (F0 m pc ls rest) q9)
    (kk : ∀ (r : UInt32) (u : S) (t : State) (H1 : Heap) (locs1 : List Loc), t.heap = H1 → s.vm.Alike t.vm → post r u → B u t → H.size ≤ H1.size → (∀ q : Nat, q < H.size → ¬ A1 q → H1[q]? = H[q]?) → va_S A0 H0 H1 locs1 → W p l e R s m args below meth c H1 locs1 (cells + mc) (slots + ms) Q (F0 m (pc + 3) ls (.float r :: rest))) : W p l e R s m args below meth c H locs cells slots Q (F0 m pc ls st0) := by
  intro T hT X
  rcases hr T hT X with ⟨v, st₀, t, T', L, h0, X', hL, e1, e2, ⟨⟨r, u, hv, hp, hb⟩, hF⟩, st⟩ | ⟨q, st₀, t, T', L, E, ce, h0, X', hL, e1, e2, ⟨u, hp, hb, hF⟩, hce, hcv, hcl, st⟩
  · cases hv
    obtain ⟨k1, k2, k3⟩ := vx_keep h0 e1 hS hA hf hL hF
    obtain ⟨t2, a1, b1⟩ := kk r u t T'.heap (locs ++ L) e1.symm (by rw [← e2]; exact X'.warmed.alike) hp hb k1 k2 k3 T' rfl X'
    exact ⟨t2, st t2 a1, b1⟩
  · obtain ⟨k1, k2, k3⟩ := vx_keep h0 e1 hS hAX hf hL hF
    obtain ⟨t2, a1, b1⟩ := kx E ce q u t T'.heap (locs ++ L) e1.symm (by rw [← e2]; exact X'.warmed.alike) hp hb k1 k2 k3 (by rw [e1]; exact hce) hcv hcl T' rfl X'
    exact ⟨t2, st.trans a1, b1⟩
theorem vx_calld {S SX : Type} {post : UInt64 → S → Prop} {px : SX → Prop} {B : S → State → Prop} {BX : String → SX → State → Prop} {AX : Nat → Prop} (hr : vx_Run p l e R s m args below meth c H locs cells slots mc ms (F0 m pc ls st0) rest (va_Qd post B A1 a) (vx_X px BX AX) free) (hS : va_S A0 H0 H locs) (hA : ∀ q, q < H.size → A1 q → A0 q) (hf : ∀ q, free q → A0 q) (hAX : ∀ q, q < H.size → AX q → A0 q)
    (kx : ∀ (E : String) (ce : Cell) (q9 : Addr) (u : SX) (t : State) (H1 : Heap) (locs1 : List Loc), t.heap = H1 → s.vm.Alike t.vm → px u → BX E u t → H.size ≤ H1.size → (∀ q : Nat, q < H.size → ¬ AX q → H1[q]? = H[q]?) → va_S A0 H0 H1 locs1 → H1[q9]? = some ce → ce.vm = .none → s.vm.findClass E = some ce.cls → vx_W p l e R s m args below meth c H1 locs1 (cells + mc) (slots + ms) Q (F0 m pc ls rest) q9)
    (kk : ∀ (r : UInt64) (u : S) (t : State) (H1 : Heap) (locs1 : List Loc), t.heap = H1 → s.vm.Alike t.vm → post r u → B u t → H.size ≤ H1.size → (∀ q : Nat, q < H.size → ¬ A1 q → H1[q]? = H[q]?) → va_S A0 H0 H1 locs1 → W p l e R s m args below meth c H1 locs1 (cells + mc) (slots + ms) Q (F0 m (pc + 3) ls (.double r :: rest))) : W p l e R s m args below meth c H locs cells slots Q (F0 m pc ls st0) := by
  intro T hT X
  rcases hr T hT X with ⟨v, st₀, t, T', L, h0, X', hL, e1, e2, ⟨⟨r, u, hv, hp, hb⟩, hF⟩, st⟩ | ⟨q, st₀, t, T', L, E, ce, h0, X', hL, e1, e2, ⟨u, hp, hb, hF⟩, hce, hcv, hcl, st⟩
  · cases hv
    obtain ⟨k1, k2, k3⟩ := vx_keep h0 e1 hS hA hf hL hF
    obtain ⟨t2, a1, b1⟩ := kk r u t T'.heap (locs ++ L) e1.symm (by rw [← e2]; exact X'.warmed.alike) hp hb k1 k2 k3 T' rfl X'
    exact ⟨t2, st t2 a1, b1⟩
  · obtain ⟨k1, k2, k3⟩ := vx_keep h0 e1 hS hAX hf hL hF
    obtain ⟨t2, a1, b1⟩ := kx E ce q u t T'.heap (locs ++ L) e1.symm (by rw [← e2]; exact X'.warmed.alike) hp hb k1 k2 k3 (by rw [e1]; exact hce) hcv hcl T' rfl X'
    exact ⟨t2, st.trans a1, b1⟩
theorem vx_callv {S SX : Type} {post : S → Prop} {px : SX → Prop} {B : S → State → Prop} {BX : String → SX → State → Prop} {AX : Nat → Prop} (hr : vx_Run p l e R s m args below meth c H locs cells slots mc ms (F0 m pc ls st0) rest (va_Qv post B A1 a) (vx_X px BX AX) free) (hS : va_S A0 H0 H locs) (hA : ∀ q, q < H.size → A1 q → A0 q) (hf : ∀ q, free q → A0 q) (hAX : ∀ q, q < H.size → AX q → A0 q)
    (kx : ∀ (E : String) (ce : Cell) (q9 : Addr) (u : SX) (t : State) (H1 : Heap) (locs1 : List Loc), t.heap = H1 → s.vm.Alike t.vm → px u → BX E u t → H.size ≤ H1.size → (∀ q : Nat, q < H.size → ¬ AX q → H1[q]? = H[q]?) → va_S A0 H0 H1 locs1 → H1[q9]? = some ce → ce.vm = .none → s.vm.findClass E = some ce.cls → vx_W p l e R s m args below meth c H1 locs1 (cells + mc) (slots + ms) Q (F0 m pc ls rest) q9)
    (kk : ∀ (u : S) (t : State) (H1 : Heap) (locs1 : List Loc), t.heap = H1 → s.vm.Alike t.vm → post u → B u t → H.size ≤ H1.size → (∀ q : Nat, q < H.size → ¬ A1 q → H1[q]? = H[q]?) → va_S A0 H0 H1 locs1 → W p l e R s m args below meth c H1 locs1 (cells + mc) (slots + ms) Q (F0 m (pc + 3) ls (rest))) : W p l e R s m args below meth c H locs cells slots Q (F0 m pc ls st0) := by
  intro T hT X
  rcases hr T hT X with ⟨v, st₀, t, T', L, h0, X', hL, e1, e2, ⟨⟨u, hv, hp, hb⟩, hF⟩, st⟩ | ⟨q, st₀, t, T', L, E, ce, h0, X', hL, e1, e2, ⟨u, hp, hb, hF⟩, hce, hcv, hcl, st⟩
  · cases hv
    obtain ⟨k1, k2, k3⟩ := vx_keep h0 e1 hS hA hf hL hF
    obtain ⟨t2, a1, b1⟩ := kk u t T'.heap (locs ++ L) e1.symm (by rw [← e2]; exact X'.warmed.alike) hp hb k1 k2 k3 T' rfl X'
    exact ⟨t2, st t2 a1, b1⟩
  · obtain ⟨k1, k2, k3⟩ := vx_keep h0 e1 hS hAX hf hL hF
    obtain ⟨t2, a1, b1⟩ := kx E ce q u t T'.heap (locs ++ L) e1.symm (by rw [← e2]; exact X'.warmed.alike) hp hb k1 k2 k3 (by rw [e1]; exact hce) hcv hcl T' rfl X'
    exact ⟨t2, st.trans a1, b1⟩
/-- caught by the row x of this method's table; the rows ahead don't take it -/
theorem vx_catch {own name : String} {E : String} {ce : Cell} {q : Addr} (hown : s.vm.findClass own = some m.cls) (pre : List ExceptionTableEntry) (x : ExceptionTableEntry) (suf : List ExceptionTableEntry) (hsplit : c.exceptionTable.toList = pre ++ x :: suf)
    (hpass : ∀ z ∈ pre, covers z pc = false ∨ (z.catchType ≠ 0 ∧ ∃ nm : String, (Cond.classLink own z.catchType nm).before args s = true ∧ va_Nc E nm s)) (hx : covers x pc = true) (h0 : x.catchType ≠ 0)
    (hlink : (Cond.classLink own x.catchType name).before args s = true) (hcast : (Cond.castable E name).before args s = true) (hcell : H[q]? = some ce) (hv : ce.vm = .none) (hcl : s.vm.findClass E = some ce.cls)
    (kk : W p l e R s m args below meth c H locs cells slots Q (F0 m x.handlerPc ls [.ref q])) : vx_W p l e R s m args below meth c H locs cells slots Q (F0 m pc ls rest) q := by
  intro T hT X
  have hpl : e.platform.magicAccessors = ({} : Platform).magicAccessors := by rw [X.admits.platform]
  obtain ⟨c3, c4, hc3, hc4, hasg⟩ := Cond.castable_spec hcast
  cases Option.some.inj (hc3.symm.trans hcl)
  obtain ⟨c5, hc5, hcl5⟩ := Cond.classLink_spec hown hlink e.platform hpl
  cases Option.some.inj (hc4.symm.trans hc5)
  obtain ⟨vm', X', st⟩ := X.thenCaughtThrough q (g := F0 m pc ls rest) rfl (Steps.refl _) (by rw [hT]; exact hcell) (by rw [hv]; rfl) (by obtain ⟨k9, h9, -⟩ := Vm.findClass_spec hcl; exact ⟨k9, h9⟩) pre x suf hsplit
    (fun z hz => by
      rcases hpass z hz with h | ⟨hz0, nm, hl1, hn1⟩
      · exact Or.inl h
      · obtain ⟨c6, hc6, hcl6⟩ := Cond.classLink_spec hown hl1 e.platform hpl
        obtain ⟨a8, b8, h1, h2, h3⟩ := hn1
        cases Option.some.inj (h1.symm.trans hcl)
        cases Option.some.inj (h2.symm.trans hc6)
        exact Or.inr ⟨hz0, _, hcl6, h3⟩) hx (Or.inr ⟨h0, c4, hcl5, hasg⟩)
  obtain ⟨t, a1, b1⟩ := kk (T.setVm vm') hT X'
  exact ⟨t, st.trans a1, b1⟩
end Rows
section Ends
variable {p : Program} {l : Launch} {e : Env} {R : Room} {s : State} {m : MethodId} {args : Array Value} {below : List Frame} {meth : Method} {c : Code} {H : Heap} {locs : List Loc} {cells slots : Nat} {Q : State → Prop}
variable {mc ms : Nat} {free : Addr → Prop} {A0 A1 : Nat → Prop} {H0 : Heap} {a : Array Value} {ls : Array Slot} {st0 rest : List Value}
variable {Qc : Array Value → State → Outcome → State → Prop} {XC : String → State → State → Prop}
/-- what a body that may throw owes at its end -/
def vx_MQ (below : List Frame) (Qc : Array Value → State → Outcome → State → Prop) (XC : String → State → State → Prop) (a : Array Value) (s : State) (mc ms : Nat) (free : Addr → Prop) : State → Prop := fun t =>
  ∃ o, t.status = .running ∧ Ended t below o ∧ vx_Q Qc XC mc ms free a s o t
theorem vx_ret {g : JFrame} {mc ms : Nat} (k : W p l e R s m args below meth c H locs cells slots (MQ below Qc args s mc ms free) g) : W p l e R s m args below meth c H locs cells slots (vx_MQ below Qc XC args s mc ms free) g := by
  intro T hT X
  obtain ⟨t, a1, o, b1, b2, b3, b4⟩ := k T hT X
  exact ⟨t, a1, o, b1, b2, Or.inl ⟨b3, b4⟩⟩
/-- not caught here: it goes on to the caller -/
theorem vx_widen {g : JFrame} {q : Addr} {k n : Nat} (h1 : cells ≤ k) (h2 : slots ≤ n) (kk : vx_W p l e R s m args below meth c H locs k n Q g q) : vx_W p l e R s m args below meth c H locs cells slots Q g q := fun T hT X => kk T hT (stand_widen X h1 h2)
theorem vx_out {pc : Nat} {E : String} {ce : Cell} {q : Addr} {mc ms : Nat} (hout : ∀ x ∈ c.exceptionTable.toList, covers x pc = false) (hlocks : meth.locks = false) (hcell : H[q]? = some ce) (hv : ce.vm = .none) (hcl : s.vm.findClass E = some ce.cls)
    (hx : ∀ t : State, t.heap = H → s.vm.Alike t.vm → XC E s t) (hf : ∀ z ∈ locs, free z.base) (hc : cells ≤ mc) (hs : slots ≤ ms) :
    vx_W p l e R s m args below meth c H locs cells slots (vx_MQ below Qc XC args s mc ms free) (F0 m pc ls rest) q := by
  intro T hT X
  obtain ⟨st1, hrun, hend, hW, hsm⟩ := X.leaveThrown q (g := F0 m pc ls rest) rfl rfl rfl hout hlocks
  have hcell9 : (T.setFrames (.throwing q :: below)).heap[q]? = some ce := by
    show T.heap[q]? = some ce
    rw [hT]; exact hcell
  exact ⟨_, st1, .threw q, hrun, hend, Or.inr ⟨q, rfl, E, ce, locs, hx _ hT hW.alike, hcell9, hv, hcl, hW, hsm.mono hc hs, hf⟩⟩
theorem vx_frame {U : State} {k n : Nat} (h : s.sameButNew ({ U with vm := s.vm } : State) locs k n) : s.heap.size ≤ U.heap.size ∧ ∀ q : Nat, q < s.heap.size → (∀ z ∈ locs, z.base ≠ q) → U.heap[q]? = s.heap[q]? := by
  obtain ⟨-, h2, -, -, -, h6⟩ := h
  refine ⟨h2, fun q hq hz => ?_⟩
  obtain ⟨c9, e1, e2, e3, e4⟩ := h6 q _ (Array.getElem?_eq_getElem hq)
  have hs : c9.slots = (s.heap[q]).slots := Array.ext_getElem? fun i => e4 i fun hm => hz _ hm rfl
  have h9 : c9 = s.heap[q] := by
    rw [hs] at e2
    exact e2
  have e5 : U.heap[q]? = some c9 := e1
  rw [e5, h9, Array.getElem?_eq_getElem hq]
/-- the words of a throw but the four that speak of the heap -/
def vx_no (w : Cond) : Bool := decide (w ≠ .isRef (.static Bundle.tN "UNASSIGNED_STACK" Bundle.steD)) && decide (w ≠ .isRef (.static Bundle.tN "SUPPRESSED_SENTINEL" Bundle.listD)) && decide (w ≠ .laysStatic Bundle.tN "UNASSIGNED_STACK" Bundle.steD) && decide (w ≠ .laysStatic Bundle.tN "SUPPRESSED_SENTINEL" Bundle.listD)
def vx_at0 (own : String) (ic : Nat) (X : String) (names : List String) : List Cond := (Bundle.ownAtoms0 own ic X names).filter vx_no
def vx_atS (own : String) (ic : Nat) (X : String) (names : List String) : List Cond := (Bundle.ownAtoms own ic X names).filter vx_no
/-- a word that the tables alone decide, or a good one -/
def vx_ot (w : Cond) : Bool := w.onTables || goodWord w
theorem vx_ot_at {args a' : Array Value} {s U : State} {w : Cond} (hW : s.WarmedH U.vm) (hvm : s.vm = U.vm) (hg : vx_ot w = true) (h : w.before args s = true) : w.before a' U = true := by
  simp only [vx_ot, Bool.or_eq_true] at hg
  rcases hg with hg | hg
  · exact va_tabs hg hvm h
  · exact word_at hW (good_of_word hg) h
/-- a list's words: the good ones out of the method's own list, the others by premises of their own -/
theorem vx_hat {args : Array Value} {s : State} {L B : List Cond} (h1 : ∀ w ∈ L.filter goodWord, w.before args s = true) (h2 : ∀ w ∈ L.filter (fun w => !goodWord w), w ∈ B) (h3 : ∀ w ∈ B, w.before args s = true) : ∀ w ∈ L, w.before args s = true := by
  intro w hw
  by_cases g : goodWord w = true
  · exact h1 w (List.mem_filter.mpr ⟨hw, g⟩)
  · refine h3 w (h2 w (List.mem_filter.mpr ⟨hw, ?_⟩))
    show (!goodWord w) = true
    cases hgw : goodWord w
    · rfl
    · exact absurd hgw g
theorem vx_c {args : Array Value} {s : State} {w : Cond} {B : List Cond} (h : w.before args s = true) (t : ∀ w ∈ B, w.before args s = true) : ∀ w' ∈ w :: B, w'.before args s = true := fun w' h' => (List.mem_cons.mp h').elim (fun e => by rw [e]; exact h) (t w')
theorem vx_n {args : Array Value} {s : State} : ∀ w ∈ ([] : List Cond), w.before args s = true := fun _ h => nomatch h
theorem vx_own {args : Array Value} {s : State} {L : List Cond} (h1 : ∀ w ∈ L.filter vx_no, w.before args s = true)
    (hU : (Cond.isRef (.static Bundle.tN "UNASSIGNED_STACK" Bundle.steD)).before args s = true) (hN : (Cond.isRef (.static Bundle.tN "SUPPRESSED_SENTINEL" Bundle.listD)).before args s = true)
    (lU : (Cond.laysStatic Bundle.tN "UNASSIGNED_STACK" Bundle.steD).before args s = true) (lN : (Cond.laysStatic Bundle.tN "SUPPRESSED_SENTINEL" Bundle.listD).before args s = true) : ∀ w ∈ L, w.before args s = true := by
  intro w hw
  by_cases e1 : w = .isRef (.static Bundle.tN "UNASSIGNED_STACK" Bundle.steD)
  · rw [e1]; exact hU
  · by_cases e2 : w = .isRef (.static Bundle.tN "SUPPRESSED_SENTINEL" Bundle.listD)
    · rw [e2]; exact hN
    · by_cases e3 : w = .laysStatic Bundle.tN "UNASSIGNED_STACK" Bundle.steD
      · rw [e3]; exact lU
      · by_cases e4 : w = .laysStatic Bundle.tN "SUPPRESSED_SENTINEL" Bundle.listD
        · rw [e4]; exact lN
        · exact h1 w (List.mem_filter.mpr ⟨hw, by unfold vx_no; rw [decide_eq_true e1, decide_eq_true e2, decide_eq_true e3, decide_eq_true e4]; rfl⟩)
/-- where a static field lies, its class's statics cell in H -/
def vx_L (C n d : String) (A : Nat → Prop) (U : State) (H : Heap) : Prop := ∃ (c : ClassId) (k : Class) (i : Nat) (f : Field) (a : Nat) (cell : Cell), U.vm.findClass C = some c ∧ U.fieldFound? C n d = some (c, k, i, f) ∧ f.isStatic = true ∧ k.statics = some a ∧ H[a]? = some cell ∧ cell.vm.isStatics = true ∧ cell.cls = c ∧ f.slot < cell.slots.size ∧ k.staticTypes[f.slot]? = some f.type ∧ ¬ A a
theorem vx_L.moved {C n d : String} {A : Nat → Prop} {u U : State} {H : Heap} (hvm : u.vm.Alike U.vm) (h : vx_L C n d A u H) : vx_L C n d A U H := by
  obtain ⟨c, k, i, f, a, cell, h1, h2, h3, h4, h5, h6, h7, h8, h9, h10⟩ := h
  obtain ⟨k', hi', he⟩ := State.fieldFound?_setVm hvm h2
  exact ⟨c, k', i, f, a, cell, by rw [hvm.findClass]; exact h1, hi', h3, by rw [he]; exact h4, h5, h6, h7, h8, by rw [he]; exact h9, h10⟩
theorem vx_L.kept {C n d : String} {A : Nat → Prop} {U : State} {H H1 : Heap} (h : vx_L C n d A U H) (hq : ∀ a : Nat, a < H.size → ¬ A a → H1[a]? = H[a]?) : vx_L C n d A U H1 := by
  obtain ⟨c, k, i, f, a, cell, h1, h2, h3, h4, h5, h6, h7, h8, h9, h10⟩ := h
  exact ⟨c, k, i, f, a, cell, h1, h2, h3, h4, by rw [hq a (Array.getElem?_eq_some_iff.mp h5).1 h10]; exact h5, h6, h7, h8, h9, h10⟩
theorem vx_L.narrow {C n d : String} {A B : Nat → Prop} {U : State} {H : Heap} (h : vx_L C n d A U H) (hAB : ∀ q, B q → A q) : vx_L C n d B U H := by
  obtain ⟨c, k, i, f, a, cell, h1, h2, h3, h4, h5, h6, h7, h8, h9, h10⟩ := h
  exact ⟨c, k, i, f, a, cell, h1, h2, h3, h4, h5, h6, h7, h8, h9, fun z => h10 (hAB _ z)⟩
theorem vx_L.word {C n d : String} {A : Nat → Prop} {s : State} {args : Array Value} (h : vx_L C n d A s s.heap) : (Cond.laysStatic C n d).before args s = true := by
  obtain ⟨c, k, i, f, a, cell, h1, h2, h3, h4, h5, h6, h7, h8, h9, -⟩ := h
  show (Cond.laysStatic C n d).holds args s none s [] = true
  exact Cond.laysStatic_of h1 h2 h3 h4 h5 h6 h7 h8 h9
/-- .. and what it holds: null or some reference -/
def vx_Zq (C n d : String) (A : Nat → Prop) (U : State) (H : Heap) : Prop := va_Zq C n d A U H ∧ vx_L C n d A U H
theorem vx_Zq.moved {C n d : String} {A : Nat → Prop} {u U : State} {H : Heap} (hvm : u.vm.Alike U.vm) (h : vx_Zq C n d A u H) : vx_Zq C n d A U H := ⟨va_Zq.moved hvm h.1, vx_L.moved hvm h.2⟩
theorem vx_Zq.kept {C n d : String} {A : Nat → Prop} {U : State} {H H1 : Heap} (h : vx_Zq C n d A U H) (hq : ∀ a : Nat, a < H.size → ¬ A a → H1[a]? = H[a]?) : vx_Zq C n d A U H1 := ⟨va_Zq.kept h.1 hq, vx_L.kept h.2 hq⟩
theorem vx_Zq.narrow {C n d : String} {A B : Nat → Prop} {U : State} {H : Heap} (h : vx_Zq C n d A U H) (hAB : ∀ q, B q → A q) : vx_Zq C n d B U H := ⟨va_Zq.narrow h.1 hAB, vx_L.narrow h.2 hAB⟩
theorem vx_Zqof {args : Array Value} {s : State} {C n d : String} {A : Nat → Prop} (hl : (Cond.laysStatic C n d).before args s = true) (hini : (Cond.initialized C).before args s = true) (h : (Cond.isRef (.static C n d)).before args s = true) (hA : ∀ a : Nat, a < s.heap.size → ¬ A a) : vx_Zq C n d A s s.heap := by
  refine ⟨va_Zqof hl hini h hA, ?_⟩
  obtain ⟨c, k, i, f, a, cell, h1, h2, h3, h4, h5, h6, h7, h8, h9⟩ := Cond.laysStatic_spec hl
  exact ⟨c, k, i, f, a, cell, h1, h2, h3, h4, h5, h6, h7, h8, h9, hA a (Array.getElem?_eq_some_iff.mp h5).1⟩
theorem vx_isRef {C n d : String} {v : Value} {A : Nat → Prop} {s : State} {args : Array Value} (h : va_Z C n d v A s s.heap) (hv : v.isRef = true) : (Cond.isRef (.static C n d)).before args s = true := by
  obtain ⟨cf, kf, fi, f, a, cell, h1, h2, h3, h4, h5, h6, h7, -⟩ := h
  have he : (Term.static C n d).eval args s none [] s = some v := by
    simp [Term.eval, State.fieldNamed?, h1, h2, h4, h5, h6, h7]
  simp only [Cond.before, Cond.holds, Cond.value, he]
  cases v <;> simp_all [Value.isRef]
theorem vx_isRefq {C n d : String} {A : Nat → Prop} {s : State} {args : Array Value} (h : va_Zq C n d A s s.heap) : (Cond.isRef (.static C n d)).before args s = true := by
  rcases h with h | ⟨t, h⟩
  · exact vx_isRef h rfl
  · exact vx_isRef h rfl
/-- the same frame, seen from here: as if the method were called anew in this heap -/
theorem vx_rebase {T : State} (X : Stand p l e R s m args below meth c T locs cells slots) {R' : Room} (hf : R'.frames ≤ R.frames) (hl : R'.locals ≤ R.locals) (hc : cells + R'.cells ≤ R.cells) (hs : slots + R'.slots ≤ R.slots) :
    Stand p l e R' ((T.setVm s.vm).setFrames (.invoking m args :: below)) m args below meth c T [] 0 0 := by
  have htop : (T.setVm s.vm).topJava?.isSome := X.here.top
  have hF : ((T.setVm s.vm).setFrames (.invoking m args :: below)).frames = .invoking m args :: below := State.frames_setFrames _ (State.cur_lt_of_top htop)
  obtain ⟨g₀, hg0⟩ := Option.isSome_iff_exists.mp htop
  obtain ⟨r, hr⟩ := State.topJava?_eq_some.mp hg0
  have hl9 : e.platform.stackLimits (T.setVm s.vm).me = e.platform.stackLimits s.me := X.limits
  have hb9 : (T.setVm s.vm).me.stackBytes = s.me.stackBytes := X.bytes
  refine ⟨X.admits, X.cas, X.clock, hF, ?_, X.hears, X.method, X.code, X.here, X.tail, X.warmed, ?_, ?_, ?_⟩
  · have h := X.room
    have hU : ((T.setVm s.vm).setFrames (.invoking m args :: below)).localsInUse = s.localsInUse := by
      rw [State.localsInUse_invoking hF (meth := meth) (c := c) X.method X.code, State.localsInUse_invoking X.frames X.method X.code]
    simp only [State.hasRoom, Bool.and_eq_true, decide_eq_true_eq] at h ⊢
    obtain ⟨⟨⟨⟨h1, h2, h3, h4, h5, h6⟩, h7⟩, h8⟩, h9⟩ := h
    rw [X.frames, List.length_cons] at h2 h3
    have q1 := X.heapSize
    have q2 := X.used
    simp only [hF, hU, List.length_cons, State.stackLimits_setFrames, State.stackBytes_setFrames, hl9, hb9]
    refine ⟨⟨⟨⟨by omega, by omega, by omega, by omega, by omega, h6⟩, ?_⟩, ?_⟩, X.book⟩
    · show T.heap.size + R'.cells ≤ e.platform.maxCells
      omega
    · show T.slotsUsed + R'.slots ≤ e.platform.maxSlots
      omega
  · rw [State.stackLimits_setFrames]; rfl
  · rw [State.stackBytes_setFrames]; rfl
  · refine ⟨?_, Nat.le_refl _, Nat.le_refl _, ?_, ?_, fun a c9 h9 => ⟨c9, h9, rfl, rfl, fun _ _ => rfl⟩⟩
    · obtain ⟨t, ht, -⟩ := State.frames_cons hr
      show T.setVm s.vm = { ((T.setVm s.vm).setFrames (.invoking m args :: below)).setFrames (T.setVm s.vm).frames with heap := T.heap, slotsUsed := T.slotsUsed }
      rw [State.setFrames_setFrames, State.setFrames_self ht]
      rfl
    · show T.slotsUsed = T.slotsUsed + ((T.heap.toList.drop T.heap.size).map (·.slots.size)).sum
      rw [List.drop_eq_nil_of_le (Nat.le_of_eq Array.length_toList)]
      rfl
    · show ((T.heap.toList.drop T.heap.size).map (·.slots.size)).sum ≤ 0
      rw [List.drop_eq_nil_of_le (Nat.le_of_eq Array.length_toList)]
      exact Nat.le_refl _
/-- 'throw new E()': new; dup; invokespecial; athrow -/
theorem vx_throw0 {cc : ByteArray} {pc : Nat} (hexec : p.tables.exec = Jvm.exec) (hb : c.code = cc) (hl : l.stackTraces = false) {own cls : String} {names : List String} {ik ic mc ms : Nat} {A : Nat → Prop}
    (hown : s.vm.findClass own = some m.cls) (hcls : Bundle.fit cls = true) (hnames : ∀ n ∈ names, Bundle.fit n = true)
    (hk : (Cond.classLink own ik cls).before args s = true) (hini : (Cond.initialized cls).before args s = true) (hat : ∀ w ∈ vx_at0 own ic cls names, w.before args s = true)
    (hgood : ∀ w ∈ Cond.classLink own ik cls :: Cond.initialized cls :: vx_at0 own ic cls names, vx_ot w = true)
    (hU : vx_Zq Bundle.tN "UNASSIGNED_STACK" Bundle.steD A s s.heap) (hN : vx_Zq Bundle.tN "SUPPRESSED_SENTINEL" Bundle.listD A s s.heap) (hS : va_S A s.heap H locs) (hsize : ls.size = c.maxLocals)
    (d0 : decode cc pc = .ok (.new ik, 3)) (d3 : decode cc (pc + 3) = .ok (.dup, 1)) (d4 : decode cc (pc + 4) = .ok (.invokespecial ic, 3)) (d7 : decode cc (pc + 7) = .ok (.athrow, 1))
    (hout : ∀ x ∈ c.exceptionTable.toList, covers x (pc + 7) = false)
    (hRframes : names.length + 3 < R.frames) (hRlocals : (rest.map fun v => v.category).sum + (13 * (names.length + 1) + 42) ≤ R.locals) (hRcells : cells + 1 ≤ R.cells) (hRslots : slots + 6 ≤ R.slots) (hlocks : meth.locks = false)
    (hx : ∀ t : State, s.vm.Alike t.vm → H.size ≤ t.heap.size → (∀ q : Nat, q < H.size → t.heap[q]? = H[q]?) → XC cls s t)
    (hf : ∀ z ∈ locs, free z.base) (hc : cells + 1 ≤ mc) (hs : slots + 6 ≤ ms) :
    W p l e R s m args below meth c H locs cells slots (vx_MQ below Qc XC args s mc ms free) (F0 m pc ls rest) := by
  intro T hT X
  have htr : e.platform.stackTraces = false := (show e.platform.stackTraces = l.stackTraces by rw [X.admits.platform]).trans hl
  have Y := vx_rebase X (R' := { frames := R.frames, locals := R.locals, cells := 1, slots := 6 }) (Nat.le_refl _) (Nat.le_refl _) hRcells hRslots
  obtain ⟨s', hA⟩ : ∃ z, z = (T.setVm s.vm).setFrames (.invoking m args :: below) := ⟨_, rfl⟩
  rw [← hA] at Y
  have hvm : s'.vm = s.vm := by rw [hA]; rfl
  have hhp : s'.heap = H := by rw [hA]; exact hT
  have hW0 : s.WarmedH s'.vm := by rw [hvm]; exact State.WarmedH.refl s
  have hat' : ∀ w ∈ vx_at0 own ic cls names, w.before args s' = true := fun w hw => vx_ot_at hW0 hvm.symm (hgood w (List.mem_cons_of_mem _ (List.mem_cons_of_mem _ hw))) (hat w hw)
  have hk' : (Cond.classLink own ik cls).before args s' = true := vx_ot_at hW0 hvm.symm (hgood _ List.mem_cons_self) hk
  have hini' : (Cond.initialized cls).before args s' = true := vx_ot_at hW0 hvm.symm (hgood _ (List.mem_cons_of_mem _ List.mem_cons_self)) hini
  have hU' : vx_Zq Bundle.tN "UNASSIGNED_STACK" Bundle.steD A s' s'.heap := by rw [hhp]; exact vx_Zq.moved hW0.alike (hU.kept hS.2.1)
  have hN' : vx_Zq Bundle.tN "SUPPRESSED_SENTINEL" Bundle.listD A s' s'.heap := by rw [hhp]; exact vx_Zq.moved hW0.alike (hN.kept hS.2.1)
  have h : ∀ w ∈ Bundle.ownAtoms0 own ic cls names, w.before args s' = true := vx_own hat' (vx_isRefq hU'.1) (vx_isRefq hN'.1) hU'.2.word hN'.2.word
  have hown' : s'.vm.findClass own = some m.cls := by rw [hvm]; exact hown
  have hins : (Cond.instantiable cls 6).before args s' = true := h _ (by simp [Bundle.ownAtoms0])
  obtain ⟨vm₁, cX, kX, hfX, hkX, -, -, X₁, st1⟩ := Y.newCold hexec (own := own) (C := cls) (index := ik) (n := 6) hown' hk' hins hini'
    (g := F0 m pc ls rest) rfl (by rw [hb]; exact d0) (Nat.le_refl _) (Nat.le_refl _)
  generalize hT1 : (T.setVm vm₁).pushCell { cls := cX, slots := kX.instanceTypes.map defaultValue, vm := .none } = T1 at X₁ st1
  have hcat : (Value.ref T.heap.size).category = 1 := rfl
  have hcellA : T1.heap[T.heap.size]? = some (freshCell cX kX) := by rw [← hT1]; exact State.heap_pushCell_size _ _
  have d3' : decode c.code (pc + 3) = .ok (.dup, 1) := by rw [hb]; exact d3
  obtain ⟨U, hsteps, hrun, hend, hW, hsame, ce, hce, hO⟩ := X₁.ctorThrow0 hexec htr (own := own) (cls := cls) (names := names) (ic := ic) hown' hcls hnames h (fun x hx => nomatch hx) hfX hkX hcellA (by rw [hhp, hT]; exact Nat.le_refl _)
    (g := { method := m, pc := pc + 4, locals := ls, stack := .ref T.heap.size :: .ref T.heap.size :: rest, locked := none }) rfl hsize rfl rfl (rest := rest) rfl
    (by rw [hb]; exact d4) (by rw [hb]; exact d7) hout hRframes (by simp only [List.map_cons, List.sum_cons, hcat]; omega) hlocks
  obtain ⟨f1, f2⟩ := vx_frame hsame
  rw [hhp] at f1 f2
  have hWs : s.WarmedH U.vm := State.WarmedH.trans hW0 hW
  have hcl : s.vm.findClass cls = some ce.cls := by
    have h9 := hO.cls
    rw [hvm] at h9
    exact h9
  have hall : s.sameButNew ({ U with vm := s.vm } : State) locs mc ms := by
    subst hA
    obtain ⟨e1, e2⟩ := hsame
    rw [State.setFrames_setFrames] at e1
    have h2 : (T.setVm s.vm).sameButNew ({ U with vm := s.vm } : State) [] (0 + 1) (0 + 6) := ⟨e1, e2⟩
    have h3 := X.same.trans h2
    rw [List.append_nil] at h3
    exact h3.mono hc hs
  refine ⟨U, ?_, .threw T.heap.size, hrun, hend, Or.inr ⟨T.heap.size, rfl, cls, ce, locs, hx U hWs.alike f1 (fun q hq => f2 q hq (fun z hz => nomatch hz)), hce, hO.vm, hcl, hWs, hall, hf⟩⟩
  refine st1 _ ?_
  show Steps p.tables e below (T1.setTop { method := m, pc := pc + 3, locals := ls, stack := .ref T.heap.size :: rest, locked := none }) _
  jvm_step X₁.here [X₁.here.top, hexec, d3', Value.category]
  exact hsteps
/-- 'throw new E("text")': new; dup; ldc; invokespecial; athrow -/
theorem vx_throwS {cc : ByteArray} {pc : Nat} (hexec : p.tables.exec = Jvm.exec) (hb : c.code = cc) (hl : l.stackTraces = false) {own cls text : String} {names : List String} {ik is ic mc ms sa : Nat} {A : Nat → Prop}
    (hown : s.vm.findClass own = some m.cls) (hcls : Bundle.fit cls = true) (hnames : ∀ n ∈ names, Bundle.fit n = true)
    (hk : (Cond.classLink own ik cls).before args s = true) (hini : (Cond.initialized cls).before args s = true) (hstr : vk_R own is text sa s) (hat : ∀ w ∈ vx_atS own ic cls names, w.before args s = true)
    (hgood : ∀ w ∈ Cond.classLink own ik cls :: Cond.initialized cls :: vx_atS own ic cls names, vx_ot w = true)
    (hU : vx_Zq Bundle.tN "UNASSIGNED_STACK" Bundle.steD A s s.heap) (hN : vx_Zq Bundle.tN "SUPPRESSED_SENTINEL" Bundle.listD A s s.heap) (hS : va_S A s.heap H locs) (hsize : ls.size = c.maxLocals)
    (d0 : decode cc pc = .ok (.new ik, 3)) (d3 : decode cc (pc + 3) = .ok (.dup, 1)) (d4 : decode cc (pc + 4) = .ok (.ldc is, 2)) (d6 : decode cc (pc + 6) = .ok (.invokespecial ic, 3)) (d9 : decode cc (pc + 9) = .ok (.athrow, 1))
    (hout : ∀ x ∈ c.exceptionTable.toList, covers x (pc + 9) = false)
    (hRframes : names.length + 3 < R.frames) (hRlocals : (rest.map fun v => v.category).sum + (13 * (names.length + 1) + 43) ≤ R.locals) (hRcells : cells + 1 ≤ R.cells) (hRslots : slots + 6 ≤ R.slots) (hlocks : meth.locks = false)
    (hx : ∀ t : State, s.vm.Alike t.vm → H.size ≤ t.heap.size → (∀ q : Nat, q < H.size → t.heap[q]? = H[q]?) → XC cls s t)
    (hf : ∀ z ∈ locs, free z.base) (hc : cells + 1 ≤ mc) (hs : slots + 6 ≤ ms) :
    W p l e R s m args below meth c H locs cells slots (vx_MQ below Qc XC args s mc ms free) (F0 m pc ls rest) := by
  intro T hT X
  have htr : e.platform.stackTraces = false := (show e.platform.stackTraces = l.stackTraces by rw [X.admits.platform]).trans hl
  have Y := vx_rebase X (R' := { frames := R.frames, locals := R.locals, cells := 1, slots := 6 }) (Nat.le_refl _) (Nat.le_refl _) hRcells hRslots
  obtain ⟨s', hA⟩ : ∃ z, z = (T.setVm s.vm).setFrames (.invoking m args :: below) := ⟨_, rfl⟩
  rw [← hA] at Y
  have hvm : s'.vm = s.vm := by rw [hA]; rfl
  have hhp : s'.heap = H := by rw [hA]; exact hT
  have hW0 : s.WarmedH s'.vm := by rw [hvm]; exact State.WarmedH.refl s
  have hat' : ∀ w ∈ vx_atS own ic cls names, w.before args s' = true := fun w hw => vx_ot_at hW0 hvm.symm (hgood w (List.mem_cons_of_mem _ (List.mem_cons_of_mem _ hw))) (hat w hw)
  have hk' : (Cond.classLink own ik cls).before args s' = true := vx_ot_at hW0 hvm.symm (hgood _ List.mem_cons_self) hk
  have hini' : (Cond.initialized cls).before args s' = true := vx_ot_at hW0 hvm.symm (hgood _ (List.mem_cons_of_mem _ List.mem_cons_self)) hini
  have hU' : vx_Zq Bundle.tN "UNASSIGNED_STACK" Bundle.steD A s' s'.heap := by rw [hhp]; exact vx_Zq.moved hW0.alike (hU.kept hS.2.1)
  have hN' : vx_Zq Bundle.tN "SUPPRESSED_SENTINEL" Bundle.listD A s' s'.heap := by rw [hhp]; exact vx_Zq.moved hW0.alike (hN.kept hS.2.1)
  have h : ∀ w ∈ Bundle.ownAtoms own ic cls names, w.before args s' = true := vx_own hat' (vx_isRefq hU'.1) (vx_isRefq hN'.1) hU'.2.word hN'.2.word
  have hown' : s'.vm.findClass own = some m.cls := by rw [hvm]; exact hown
  have hins : (Cond.instantiable cls 6).before args s' = true := h _ (by simp [Bundle.ownAtoms])
  obtain ⟨vm₁, cX, kX, hfX, hkX, -, -, X₁, st1⟩ := Y.newCold hexec (own := own) (C := cls) (index := ik) (n := 6) hown' hk' hins hini'
    (g := F0 m pc ls rest) rfl (by rw [hb]; exact d0) (Nat.le_refl _) (Nat.le_refl _)
  generalize hT1 : (T.setVm vm₁).pushCell { cls := cX, slots := kX.instanceTypes.map defaultValue, vm := .none } = T1 at X₁ st1
  have hcat : (Value.ref T.heap.size).category = 1 := rfl
  have hcellA : T1.heap[T.heap.size]? = some (freshCell cX kX) := by rw [← hT1]; exact State.heap_pushCell_size _ _
  have d3' : decode c.code (pc + 3) = .ok (.dup, 1) := by rw [hb]; exact d3
  have d4' : decode c.code (pc + 4) = .ok (.ldc is, 2) := by rw [hb]; exact d4
  have hstr' : vk_R own is text sa s' := vk_R.warm hW0 hstr
  obtain ⟨U, hsteps, hrun, hend, hW, hsame, ce, hce, hO⟩ := X₁.ctorThrowS hexec htr (own := own) (cls := cls) (names := names) (ic := ic) hown' hcls hnames h (fun x hx => nomatch hx) hfX hkX hcellA (by rw [hhp, hT]; exact Nat.le_refl _) (msg := .ref sa) rfl
    (g := { method := m, pc := pc + 6, locals := ls, stack := .ref sa :: .ref T.heap.size :: .ref T.heap.size :: rest, locked := none }) rfl hsize rfl rfl (rest := rest) rfl
    (by rw [hb]; exact d6) (by rw [hb]; exact d9) hout hRframes (by simp only [List.map_cons, List.sum_cons, hcat]; omega) hlocks
  obtain ⟨f1, f2⟩ := vx_frame hsame
  rw [hhp] at f1 f2
  have hWs : s.WarmedH U.vm := State.WarmedH.trans hW0 hW
  have hcl : s.vm.findClass cls = some ce.cls := by
    have h9 := hO.cls
    rw [hvm] at h9
    exact h9
  have hall : s.sameButNew ({ U with vm := s.vm } : State) locs mc ms := by
    subst hA
    obtain ⟨e1, e2⟩ := hsame
    rw [State.setFrames_setFrames] at e1
    have h2 : (T.setVm s.vm).sameButNew ({ U with vm := s.vm } : State) [] (0 + 1) (0 + 6) := ⟨e1, e2⟩
    have h3 := X.same.trans h2
    rw [List.append_nil] at h3
    exact h3.mono hc hs
  refine ⟨U, ?_, .threw T.heap.size, hrun, hend, Or.inr ⟨T.heap.size, rfl, cls, ce, locs, hx U hWs.alike f1 (fun q hq => f2 q hq (fun z hz => nomatch hz)), hce, hO.vm, hcl, hWs, hall, hf⟩⟩
  refine st1 _ ?_
  show Steps p.tables e below (T1.setTop { method := m, pc := pc + 3, locals := ls, stack := .ref T.heap.size :: rest, locked := none }) _
  jvm_step X₁.here [X₁.here.top, hexec, d3', Value.category]
  exact X₁.ldcString hexec (own := own) (text := text) (index := is) (a := sa) hown' hstr'.1 hstr'.2
    (g := { method := m, pc := pc + 4, locals := ls, stack := .ref T.heap.size :: .ref T.heap.size :: rest, locked := none }) rfl d4' _ hsteps
/-- 'throw new E("text")', the text by a wide index -/
theorem vx_throwSW {cc : ByteArray} {pc : Nat} (hexec : p.tables.exec = Jvm.exec) (hb : c.code = cc) (hl : l.stackTraces = false) {own cls text : String} {names : List String} {ik is ic mc ms sa : Nat} {A : Nat → Prop}
    (hown : s.vm.findClass own = some m.cls) (hcls : Bundle.fit cls = true) (hnames : ∀ n ∈ names, Bundle.fit n = true)
    (hk : (Cond.classLink own ik cls).before args s = true) (hini : (Cond.initialized cls).before args s = true) (hstr : vk_R own is text sa s) (hat : ∀ w ∈ vx_atS own ic cls names, w.before args s = true)
    (hgood : ∀ w ∈ Cond.classLink own ik cls :: Cond.initialized cls :: vx_atS own ic cls names, vx_ot w = true)
    (hU : vx_Zq Bundle.tN "UNASSIGNED_STACK" Bundle.steD A s s.heap) (hN : vx_Zq Bundle.tN "SUPPRESSED_SENTINEL" Bundle.listD A s s.heap) (hS : va_S A s.heap H locs) (hsize : ls.size = c.maxLocals)
    (d0 : decode cc pc = .ok (.new ik, 3)) (d3 : decode cc (pc + 3) = .ok (.dup, 1)) (d4 : decode cc (pc + 4) = .ok (.ldc_w is, 3)) (d7 : decode cc (pc + 7) = .ok (.invokespecial ic, 3)) (d10 : decode cc (pc + 10) = .ok (.athrow, 1))
    (hout : ∀ x ∈ c.exceptionTable.toList, covers x (pc + 10) = false)
    (hRframes : names.length + 3 < R.frames) (hRlocals : (rest.map fun v => v.category).sum + (13 * (names.length + 1) + 43) ≤ R.locals) (hRcells : cells + 1 ≤ R.cells) (hRslots : slots + 6 ≤ R.slots) (hlocks : meth.locks = false)
    (hx : ∀ t : State, s.vm.Alike t.vm → H.size ≤ t.heap.size → (∀ q : Nat, q < H.size → t.heap[q]? = H[q]?) → XC cls s t)
    (hf : ∀ z ∈ locs, free z.base) (hc : cells + 1 ≤ mc) (hs : slots + 6 ≤ ms) :
    W p l e R s m args below meth c H locs cells slots (vx_MQ below Qc XC args s mc ms free) (F0 m pc ls rest) := by
  intro T hT X
  have htr : e.platform.stackTraces = false := (show e.platform.stackTraces = l.stackTraces by rw [X.admits.platform]).trans hl
  have Y := vx_rebase X (R' := { frames := R.frames, locals := R.locals, cells := 1, slots := 6 }) (Nat.le_refl _) (Nat.le_refl _) hRcells hRslots
  obtain ⟨s', hA⟩ : ∃ z, z = (T.setVm s.vm).setFrames (.invoking m args :: below) := ⟨_, rfl⟩
  rw [← hA] at Y
  have hvm : s'.vm = s.vm := by rw [hA]; rfl
  have hhp : s'.heap = H := by rw [hA]; exact hT
  have hW0 : s.WarmedH s'.vm := by rw [hvm]; exact State.WarmedH.refl s
  have hat' : ∀ w ∈ vx_atS own ic cls names, w.before args s' = true := fun w hw => vx_ot_at hW0 hvm.symm (hgood w (List.mem_cons_of_mem _ (List.mem_cons_of_mem _ hw))) (hat w hw)
  have hk' : (Cond.classLink own ik cls).before args s' = true := vx_ot_at hW0 hvm.symm (hgood _ List.mem_cons_self) hk
  have hini' : (Cond.initialized cls).before args s' = true := vx_ot_at hW0 hvm.symm (hgood _ (List.mem_cons_of_mem _ List.mem_cons_self)) hini
  have hU' : vx_Zq Bundle.tN "UNASSIGNED_STACK" Bundle.steD A s' s'.heap := by rw [hhp]; exact vx_Zq.moved hW0.alike (hU.kept hS.2.1)
  have hN' : vx_Zq Bundle.tN "SUPPRESSED_SENTINEL" Bundle.listD A s' s'.heap := by rw [hhp]; exact vx_Zq.moved hW0.alike (hN.kept hS.2.1)
  have h : ∀ w ∈ Bundle.ownAtoms own ic cls names, w.before args s' = true := vx_own hat' (vx_isRefq hU'.1) (vx_isRefq hN'.1) hU'.2.word hN'.2.word
  have hown' : s'.vm.findClass own = some m.cls := by rw [hvm]; exact hown
  have hins : (Cond.instantiable cls 6).before args s' = true := h _ (by simp [Bundle.ownAtoms])
  obtain ⟨vm₁, cX, kX, hfX, hkX, -, -, X₁, st1⟩ := Y.newCold hexec (own := own) (C := cls) (index := ik) (n := 6) hown' hk' hins hini'
    (g := F0 m pc ls rest) rfl (by rw [hb]; exact d0) (Nat.le_refl _) (Nat.le_refl _)
  generalize hT1 : (T.setVm vm₁).pushCell { cls := cX, slots := kX.instanceTypes.map defaultValue, vm := .none } = T1 at X₁ st1
  have hcat : (Value.ref T.heap.size).category = 1 := rfl
  have hcellA : T1.heap[T.heap.size]? = some (freshCell cX kX) := by rw [← hT1]; exact State.heap_pushCell_size _ _
  have d3' : decode c.code (pc + 3) = .ok (.dup, 1) := by rw [hb]; exact d3
  have d4' : decode c.code (pc + 4) = .ok (.ldc_w is, 3) := by rw [hb]; exact d4
  have hstr' : vk_R own is text sa s' := vk_R.warm hW0 hstr
  obtain ⟨U, hsteps, hrun, hend, hW, hsame, ce, hce, hO⟩ := X₁.ctorThrowS hexec htr (own := own) (cls := cls) (names := names) (ic := ic) hown' hcls hnames h (fun x hx => nomatch hx) hfX hkX hcellA (by rw [hhp, hT]; exact Nat.le_refl _) (msg := .ref sa) rfl
    (g := { method := m, pc := pc + 7, locals := ls, stack := .ref sa :: .ref T.heap.size :: .ref T.heap.size :: rest, locked := none }) rfl hsize rfl rfl (rest := rest) rfl
    (by rw [hb]; exact d7) (by rw [hb]; exact d10) hout hRframes (by simp only [List.map_cons, List.sum_cons, hcat]; omega) hlocks
  obtain ⟨f1, f2⟩ := vx_frame hsame
  rw [hhp] at f1 f2
  have hWs : s.WarmedH U.vm := State.WarmedH.trans hW0 hW
  have hcl : s.vm.findClass cls = some ce.cls := by
    have h9 := hO.cls
    rw [hvm] at h9
    exact h9
  have hall : s.sameButNew ({ U with vm := s.vm } : State) locs mc ms := by
    subst hA
    obtain ⟨e1, e2⟩ := hsame
    rw [State.setFrames_setFrames] at e1
    have h2 : (T.setVm s.vm).sameButNew ({ U with vm := s.vm } : State) [] (0 + 1) (0 + 6) := ⟨e1, e2⟩
    have h3 := X.same.trans h2
    rw [List.append_nil] at h3
    exact h3.mono hc hs
  refine ⟨U, ?_, .threw T.heap.size, hrun, hend, Or.inr ⟨T.heap.size, rfl, cls, ce, locs, hx U hWs.alike f1 (fun q hq => f2 q hq (fun z hz => nomatch hz)), hce, hO.vm, hcl, hWs, hall, hf⟩⟩
  refine st1 _ ?_
  show Steps p.tables e below (T1.setTop { method := m, pc := pc + 3, locals := ls, stack := .ref T.heap.size :: rest, locked := none }) _
  jvm_step X₁.here [X₁.here.top, hexec, d3', Value.category]
  exact X₁.ldcStringW hexec (own := own) (text := text) (index := is) (a := sa) hown' hstr'.1 hstr'.2
    (g := { method := m, pc := pc + 4, locals := ls, stack := .ref T.heap.size :: .ref T.heap.size :: rest, locked := none }) rfl d4' _ hsteps
end Ends
section Bodies
variable {l : Launch}
theorem vx_ofW {y : MethodName} {ws ws' : List Cond} {rm : Room} {Pc : Array Value → State → Prop} {Qc : Array Value → State → Outcome → State → Prop} {XC : String → State → State → Prop} {mc ms : Nat} {free : Addr → Prop} {cc : ByteArray} {maxL : Nat} {ret : Option FieldType}
    (hy : plainName y.cls = true) (hw : ws = Cond.code y cc maxL ret :: ws')
    (body : ∀ p e s m args below meth c s₁, BodyLoose p l y (headSpec ws rm) cc maxL ret e s m args below meth c s₁ → c.maxLocals = maxL → (∀ x ∈ c.exceptionTable.toList, False) → Pc args s →
      W p l e (headSpec ws rm).room s m args below meth c s.heap [] 0 0 (vx_MQ below Qc XC args s mc ms free) (entryFrame m args maxL)) : vx_Met l y ws rm Pc Qc XC mc ms free := by
  refine MetFree.of_bodyS (code := cc) (maxLocals := maxL) (ret := ret) hy ?_ ?_
  · intro args s m h hn
    obtain ⟨meth, c, h1, h2, h3, h4, h5, h6, -, -⟩ := Cond.code_spec hn (atoms_spec (ws := ws) h _ (by rw [hw]; exact List.mem_cons_self))
    exact ⟨meth, c, h1, h2, h3, h4, h5, h6⟩
  · intro p e s m args below meth c s₁ B hml hP _
    have hh0 : s₁.heap = s.heap := by rw [B.state]; rfl
    have ht : ∀ x ∈ c.exceptionTable.toList, False := by
      obtain ⟨meth9, c9, h1, h2, -, -, -, -, h7, -⟩ := Cond.code_spec B.named (atoms_spec (ws := ws) B.pre _ (by rw [hw]; exact List.mem_cons_self))
      cases Option.some.inj (h1.symm.trans B.method)
      cases Option.some.inj (h2.symm.trans (Stand.of_body B).code)
      intro x hx
      rw [Array.isEmpty_iff.mp h7] at hx
      cases hx
    obtain ⟨t, a1, o, b1, b2, b3⟩ := body p e s m args below meth c s₁ B hml ht hP s₁ hh0 (Stand.of_body B)
    exact ⟨t, o, a1, b1, b2, b3⟩
/-- the table of a body with handlers -/
theorem vx_table {p : Program} {x y : MethodName} {S : Spec} {cc bytes : ByteArray} {maxL maxL' : Nat} {ret ret' : Option FieldType} {e : Env} {s s₁ : State} {m : MethodId} {args : Array Value} {below : List Frame} {meth : Method} {c : Code} {hh : List (Nat × Nat × Nat × Nat)}
    (B : BodyLoose p l y S cc maxL ret e s m args below meth c s₁) (h : (Cond.codeWith y bytes maxL' ret' hh).before args s = true) : c.exceptionTable.toList = tableOf hh := by
  obtain ⟨m9, meth9, c9, hn9, h1, h2, -, -, h6, -⟩ := Cond.codeWith_spec h
  cases Option.some.inj (hn9.symm.trans B.named)
  cases Option.some.inj (h1.symm.trans B.method)
  cases Option.some.inj (h2.symm.trans (Stand.of_body B).code)
  rw [← h6, table_eq]
end Bodies
end VXA
/-! ===== END ===== -/
/-! ===== BEGIN a static call of a method with an exception table ===== -/
section VXS
variable {p : Program} {l : Launch} {e : Env} {R : Room} {s : State} {m : MethodId} {args : Array Value} {below : List Frame} {meth : Method} {c : Code} {T : State} {H : Heap} {locs : List Loc} {cells slots : Nat}
abbrev vx_CSW (R : Room) (s : State) (args : Array Value) (own : String) (index : Nat) (y : MethodName) (bytes : ByteArray) (maxL : Nat) (ret : Option FieldType) (hh : List (Nat × Nat × Nat × Nat)) (ws : List Cond) (rm : Room) (mc ms n : Nat) : Prop :=
  (rm.cells = mc ∧ rm.slots = ms ∧ rm.frames + 1 ≤ R.frames ∧ 8 + (maxL + 11) + rm.locals ≤ R.locals ∧ (∀ w ∈ ws, ∀ (a' : Array Value) (U : State), s.WarmedH U.vm → w.before a' U = true) ∧ Cond.codeWith y bytes maxL ret hh ∈ ws) ∧
  (Cond.codeWith y bytes maxL ret hh).before args s = true ∧ (Cond.initialized y.cls).before args s = true ∧ (y.cls ≠ "java/lang/invoke/MethodHandle" ∧ y.cls ≠ "java/lang/invoke/VarHandle") ∧
  (∀ sig, parseMethodDescriptor y.desc = some sig → n = sig.parameters.length) ∧ (Cond.methodLink own index y).before args s = true ∧ (Cond.static y).before args s = true
theorem vx_cwSW {own : String} {index maxL mc ms : Nat} {y : MethodName} {bytes : ByteArray} {ret : Option FieldType} {hh : List (Nat × Nat × Nat × Nat)} {Ts ws ws' : List Cond} {rm : Room} (n : Nat) (ht : ∀ w ∈ Ts, w.before args s = true) (hT : GoodIn Ts (va_wsS own index y ws)) (hw : ws = Cond.codeWith y bytes maxL ret hh :: ws') (hrc : rm.cells = mc) (hrs : rm.slots = ms)
    (hd : y.cls ≠ "java/lang/invoke/MethodHandle" ∧ y.cls ≠ "java/lang/invoke/VarHandle" ∧ (parseMethodDescriptor y.desc).map (fun d => d.parameters.length) = some n) (hR : rm.frames + 1 ≤ R.frames ∧ 8 + (maxL + 11) + rm.locals ≤ R.locals) :
    vx_CSW R s args own index y bytes maxL ret hh ws rm mc ms n := by
  have ok : ∀ w ∈ va_wsS own index y ws, w.before args s = true := fun w h => ht w (hT w h).1
  have hG : GoodIn Ts ws := fun w h => hT w (by unfold va_wsS; exact List.mem_append_right _ h)
  have hc : Cond.codeWith y bytes maxL ret hh ∈ ws := by rw [hw]; exact List.mem_cons_self
  refine ⟨⟨hrc, hrs, hR.1, hR.2, pay_in ht hG, hc⟩, ht _ (hG _ hc).1, ok _ (by simp [va_wsS]), ⟨hd.1, hd.2.1⟩, fun sig h => ?_, ok _ (by simp [va_wsS]), ok _ (by simp [va_wsS])⟩
  have h2 := hd.2.2
  rw [h] at h2
  exact (Option.some.inj h2).symm
theorem vx_callSW (X : Stand p l e R s m args below meth c T locs cells slots) (hexec : p.tables.exec = Jvm.exec) {own : String} {index : Nat} {y : MethodName} {bytes : ByteArray} {maxL : Nat} {ret : Option FieldType} {hh : List (Nat × Nat × Nat × Nat)}
    (hown : s.vm.findClass own = some m.cls) (hlink : (Cond.methodLink own index y).before args s = true) (hstat : (Cond.static y).before args s = true) (hinit : (Cond.initialized y.cls).before args s = true)
    (hcode : (Cond.codeWith y bytes maxL ret hh).before args s = true) (hy : y.cls ≠ "java/lang/invoke/MethodHandle" ∧ y.cls ≠ "java/lang/invoke/VarHandle")
    {W9 : Nat} {Pre : Pt → Array Value → Prop} {Post : Pt → Array Value → Option Value → Pt → Prop} (hK : Back l R p e below s args y 3 W9 Pre Post)
    {g : JFrame} (hg : g.method = m) (hsize : g.locals.size = c.maxLocals) {argsL rest : List Value} (hlen : ∀ sig, parseMethodDescriptor y.desc = some sig → argsL.length = sig.parameters.length)
    (hstack : g.stack = argsL.reverse ++ rest) (hW : 2 * g.monitorRoom + (rest.map fun v => v.category).sum ≤ W9) (hdg : decode c.code g.pc = .ok (.invokestatic index, 3))
    (hpre : ∀ vm₁, s.WarmedH vm₁ → Pre ⟨T.setVm vm₁, locs, cells, slots⟩ argsL.toArray) :
    ∃ (v : Option Value) (vm₁ : Vm) (B : Pt), s.WarmedH vm₁ ∧ Stand p l e R s m args below meth c B.U B.locs B.cells B.slots ∧ Post ⟨T.setVm vm₁, locs, cells, slots⟩ argsL.toArray v B ∧
      ∀ target, Steps p.tables e below (B.U.setTop { g with pc := g.pc + 3, stack := v.toList ++ rest }) target → Steps p.tables e below (T.setTop g) target := by
  obtain ⟨mk, methM, cM, hnamed, hmethM, -, -, -, -, -, -, hsigM⟩ := Cond.codeWith_spec hcode
  have hstatic : methM.isStatic = true := Cond.static_spec hnamed hmethM hstat
  obtain ⟨kP, hkP, -⟩ := className_of_methodNamed hnamed
  have hinitP : kP.init = .initialized := Cond.initialized_spec (findClass_of_methodNamed hnamed) hkP hinit
  obtain ⟨vm₁, X₁, hstep₁⟩ := X.invokestatic hexec hown hlink hnamed hmethM hstatic hkP hinitP hy (g := g) hg (argsL := argsL) (rest := rest) (hlen _ hsigM) hstack hdg
  obtain ⟨v, B, X', hpost, hsteps⟩ := hK m meth c ⟨T.setVm vm₁, locs, cells, slots⟩ { g with stack := rest } (.invokestatic index) mk argsL.toArray X₁ hg hsize hdg hW (X₁.named hnamed) (hpre vm₁ X₁.warmed)
  exact ⟨v, vm₁, B, X₁.warmed, X', hpost, fun target h => hstep₁ _ fun acts => by rw [doInvoke_state]; exact hsteps.trans h⟩
theorem vx_runSW {y : MethodName} {bytes cc : ByteArray} {maxL nL mc ms n index : Nat} {ret : Option FieldType} {hh : List (Nat × Nat × Nat × Nat)} {ws : List Cond} {rm : Room} {Pc : Array Value → State → Prop} {Qc : Array Value → State → Outcome → State → Prop} {free : Addr → Prop} {Ts : List Cond} {own : String} {As rest : List Value} {g : JFrame}
    (S : CallFix p m c cc nL s args Ts own) (hM : Met l y ws rm Pc Qc mc ms free) (cw : vx_CSW R s args own index y bytes maxL ret hh ws rm mc ms n) (hp : PreS s H Pc As)
    (hg : g.method = m) (hn : As.length = n) (hsize : g.locals.size = nL) (hstack : g.stack = As.reverse ++ rest) (hW : 2 * g.monitorRoom + (rest.map fun v => v.category).sum ≤ 8) (hdg : decode cc g.pc = .ok (.invokestatic index, 3)) (hf : cells + mc ≤ R.cells ∧ slots + ms ≤ R.slots) :
    va_Run p l e R s m args below meth c H locs cells slots mc ms g rest (Qc As.toArray) (free) := by
  obtain ⟨⟨hrc, hrs, hfr, hlo, hws, hcw⟩, hcode, hini, hy, hlen, hl, hstt⟩ := cw
  have hK : Back l R p e below s args y 3 8 (PreOf R mc ms Pc) (PostOf Qc mc ms free) := va_backW (hh := hh) (bytes := bytes) (maxL := maxL) (ret := ret) hM hp.1 hrc hrs hfr hlo hws hcw (fun a' U hW => word_at hW (Or.inl (by first | rfl | simp [Cond.onTables, Cond.keeps, Cond.steady])) hini)
  obtain ⟨hx, hb, hml, ho, -⟩ := S
  intro T hT X
  obtain ⟨v, vm₁, ⟨U', l2, c2, s2⟩, hW₁, X', ⟨g', mk, t, L, e1, e2, hq, h1, hL, h2, h3⟩, st⟩ := vx_callSW X hx (hh := hh) (bytes := bytes) (maxL := maxL) (ret := ret) ho hl hstt hini hcode hy hK hg (hsize.trans hml.symm) (argsL := As) (rest := rest) (fun sig h => hn.trans (hlen sig h)) hstack hW (by rw [hb]; exact hdg)
    (fun vm₁ hW₁ => ⟨hf.1, hf.2, hp.2 (T.setVm vm₁) hT hW₁⟩)
  dsimp only [Pt.U, Pt.locs, Pt.cells, Pt.slots] at X' e1 e2 h1 h2 h3 st
  subst h1; subst h2; subst h3
  exact ⟨v, (T.setVm vm₁).calling g' mk As.toArray, t, U', L, hT, X', hL, e1, e2, hq, st⟩
/-- not caught here, past rows that name other classes: it goes on to the caller -/
theorem vx_outP {p : Program} {l : Launch} {e : Env} {R : Room} {s : State} {m : MethodId} {args : Array Value} {below : List Frame} {meth : Method} {c : Code} {H : Heap} {locs : List Loc} {cells slots : Nat} {free : Addr → Prop} {ls : Array Slot} {rest : List Value} {Qc : Array Value → State → Outcome → State → Prop} {XC : String → State → State → Prop}
    {pc : Nat} {own E : String} {ce : Cell} {q : Addr} {mc ms : Nat} (hown : s.vm.findClass own = some m.cls) (hlocks : meth.locks = false)
    (hpass : ∀ z ∈ c.exceptionTable.toList, covers z pc = false ∨ (z.catchType ≠ 0 ∧ ∃ nm : String, (Cond.classLink own z.catchType nm).before args s = true ∧ va_Nc E nm s)) (hcell : H[q]? = some ce) (hv : ce.vm = .none) (hcl : s.vm.findClass E = some ce.cls)
    (hx : ∀ t : State, t.heap = H → s.vm.Alike t.vm → XC E s t) (hf : ∀ z ∈ locs, free z.base) (hc : cells ≤ mc) (hs : slots ≤ ms) :
    vx_W p l e R s m args below meth c H locs cells slots (vx_MQ below Qc XC args s mc ms free) (F0 m pc ls rest) q := by
  intro T hT X
  have hpl : e.platform.magicAccessors = ({} : Platform).magicAccessors := by rw [X.admits.platform]
  obtain ⟨vm', hW', X', st⟩ := X.outThrough hlocks q (g := F0 m pc ls rest) rfl rfl rfl (cell := ce) (by rw [hT]; exact hcell) (by rw [hv]; rfl)
    (by obtain ⟨k9, h9, -⟩ := Vm.findClass_spec hcl; exact ⟨k9, h9⟩) (fun z hz => by
      rcases hpass z hz with h | ⟨hz0, nm, hl1, hn1⟩
      · exact Or.inl h
      · obtain ⟨c6, hc6, hcl6⟩ := Cond.classLink_spec hown hl1 e.platform hpl
        obtain ⟨a8, b8, h1, h2, h3⟩ := hn1
        cases Option.some.inj (h1.symm.trans hcl)
        cases Option.some.inj (h2.symm.trans hc6)
        exact Or.inr ⟨hz0, _, hcl6, h3⟩)
  obtain ⟨g₀, hfr⟩ := X'.frames_eq
  have hcell9 : ((T.setVm vm').setFrames (.throwing q :: below)).heap[q]? = some ce := by
    show T.heap[q]? = some ce
    rw [hT]; exact hcell
  have hend : Ended ((T.setVm vm').setFrames (.throwing q :: below)) below (.threw q) := State.frames_setFrames _ (State.cur_lt_of_frames hfr)
  refine ⟨(T.setVm vm').setFrames (.throwing q :: below), ?_, .threw q, X'.here.running, hend, Or.inr ⟨q, rfl, E, ce, locs, hx _ hT (X'.ends _).1.alike, hcell9, hv, hcl, (X'.ends _).1, (X'.ends _).2.mono hc hs, hf⟩⟩
  rw [X.pushThrowing_eq]
  exact st
/-- a thing of a world lies in the heap -/
theorem vx_lt {D : va_G} {cl : List vw_C} {ws : va_W} {H1 : Heap} (h : va_P D cl ws H1) {k : Nat} {q : Nat × va_E} (hk : ws[k]? = some q) : q.1 < H1.size := (h k q hk).lt
end VXS
/-! ===== END ===== -/
/-! ===== BEGIN methods with a table of their own: called by a name, returning or throwing ===== -/
section VXH
/-! vx_backW, vx_callVX, vx_callSX, vx_callVW, vx_runVW, vx_runVX, vx_runSX, vx_ofWH follow the same proofs as their sisters above (Free/Laws.lean, Shelf42/LK1.lean); vx_outP calls Shelf42/NT130.lean (outThrough). -/
section
variable {l : Launch} {R : Room} {p : Program} {e : Env} {below : List Frame} {s : State} {sargs : Array Value} {y : MethodName} {len W9 : Nat}
theorem vx_backW {ws : List Cond} {rm : Room} {Pc : Array Value → State → Prop} {Qc : Array Value → State → Outcome → State → Prop} {XC : String → State → State → Prop} {mc ms : Nat} {free : Addr → Prop} {bytes : ByteArray} {maxL : Nat} {ret : Option FieldType} {hh : List (Nat × Nat × Nat × Nat)}
    (hM : vx_Met l y ws rm Pc Qc XC mc ms free) (hblind : FrameBlind Pc) (hrc : rm.cells = mc) (hrs : rm.slots = ms)
    (hframes : rm.frames + 1 ≤ R.frames) (hlocals : W9 + (maxL + 11) + rm.locals ≤ R.locals)
    (hws : ∀ w ∈ ws, ∀ a' U, s.WarmedH U.vm → w.before a' U = true) (hcode : Cond.codeWith y bytes maxL ret hh ∈ ws) (hinit : ∀ a' U, s.WarmedH U.vm → (Cond.initialized y.cls).before a' U = true) :
    vx_Back l R p e below s sargs y len W9 (PreOf R mc ms Pc) (PostOf Qc mc ms free) (vx_Post XC mc ms free) := by
  intro m meth c A g ig mk a X hg hsize hdg hW hn hp
  have h1 : (headSpec ws rm).pre.before a A.U = true := atoms_intro fun w hw => hws w hw _ _ X.warmed
  have h2 : (Cond.codeWith y bytes maxL ret hh).before a A.U = true := hws _ hcode _ _ X.warmed
  have h3 : (Cond.initialized y.cls).before a A.U = true := hinit _ _ X.warmed
  have h4 : A.cells + (headSpec ws rm).room.cells ≤ R.cells := by rw [show (headSpec ws rm).room.cells = mc from hrc]; exact hp.1
  have h5 : A.slots + (headSpec ws rm).room.slots ≤ R.slots := by rw [show (headSpec ws rm).room.slots = ms from hrs]; exact hp.2.1
  have hPc : Pc a (A.U.calling g mk a) := hblind _ _ _ _ hp.2.2
  obtain ⟨U, Ls, c0, s0⟩ := A
  dsimp only [Pt.U, Pt.locs, Pt.cells, Pt.slots] at h1 h2 h3 h4 h5 X hn hPc ⊢
  obtain ⟨m9, methY, cY, hn9, hmY, hcY, -, hlY, -⟩ := Cond.codeWith_spec h2
  cases Option.some.inj (hn9.symm.trans hn)
  obtain ⟨kY, hkY, -⟩ := className_of_methodNamed hn
  have hinitY : kY.init = .initialized := Cond.initialized_spec (findClass_of_methodNamed hn) hkY h3
  have h : At U g.method c below := by rw [hg]; exact X.here
  have hlocals9 : W9 + (maxL + 11) + (headSpec ws rm).room.locals ≤ R.locals := hlocals
  have happ : (headSpec ws rm).appliesLoose y e.platform (U.calling g mk a) = true :=
    Spec.appliesLoose_calling (g := g) h hdg hn hkY hinitY
      (X.room_calling (g := g) (R' := (headSpec ws rm).room) hsize hmY hcY hframes (by rw [hlY]; omega) h4 h5) h1
  obtain ⟨mid, hmid⟩ := h.above
  have hfr : (U.setTop g).frames = (.java g :: mid) ++ below := by rw [State.frames_setTop' g h.top, hmid]; rfl
  obtain ⟨o, s₂, hsteps, -, hend, hq⟩ := Steps.callFree hM p X.admits X.cas X.clock (acts := []) hfr happ hPc trivial
  have hq' : vx_Q Qc XC mc ms free a (U.calling g mk a) o s₂ := hq
  rw [State.frames_setTop' g h.top] at hend
  obtain ⟨g₀, hg0⟩ := Option.isSome_iff_exists.mp h.top
  obtain ⟨r, hr⟩ := State.topJava?_eq_some.mp hg0
  have hr' : (({ U with heap := s₂.heap, slotsUsed := s₂.slotsUsed } : State).setVm s₂.vm).frames = .java g₀ :: r := hr
  rcases hq' with ⟨hqc, L, hfe, hL⟩ | ⟨q, rfl, E, ce, L, hx, hce, hcv, hcl, hW₂, hsm, hL⟩
  · obtain ⟨⟨v, rfl⟩, hW₂, e2, q2, q3, q4, q5, q6⟩ := id hfe
    have e3 : s₂ = ({ (U.calling g mk a).setFrames s₂.frames with heap := s₂.heap, slotsUsed := s₂.slotsUsed } : State).setVm s₂.vm := by
      have : s₂ = ({ s₂ with vm := (U.calling g mk a).vm } : State).setVm s₂.vm := rfl
      rw [e2] at this
      exact this
    obtain ⟨c₂, i₂, len₂, hc₂, hd₂, hf₂⟩ := hend
    have hW' : U.WarmedH s₂.vm := hW₂
    have hcc : c₂ = c := by
      have h1 : s₂.code? g.method = U.code? g.method := by
        rw [State.code?_eq, State.code?_eq, hW'.alike.method?]
      exact Option.some.inj (hc₂.symm.trans (h1.trans h.code))
    subst hcc
    have hlen : len₂ = len := by rw [hdg] at hd₂; cases hd₂; rfl
    subst hlen
    have hs₂ : s₂ = (({ U with heap := s₂.heap, slotsUsed := s₂.slotsUsed } : State).setVm s₂.vm).setTop { g with pc := g.pc + len₂, stack := v.toList ++ g.stack } := by
      refine e3.trans ?_
      rw [hf₂, State.calling_eq h.top, State.setFrames_setFrames, State.setTop_of_frames _ hr', hr]
      rfl
    have hsame : U.sameButNew ({ U with heap := s₂.heap, slotsUsed := s₂.slotsUsed } : State) L mc ms := by
      refine ⟨?_, q2, q3, q4, q5, q6⟩
      obtain ⟨t, ht, -⟩ := State.frames_cons hr
      show ({ U with heap := s₂.heap, slotsUsed := s₂.slotsUsed } : State) = { U.setFrames U.frames with heap := s₂.heap, slotsUsed := s₂.slotsUsed }
      rw [State.setFrames_self ht]
    subst hg
    refine Or.inl ⟨v, ⟨(({ U with heap := s₂.heap, slotsUsed := s₂.slotsUsed } : State).setVm s₂.vm), Ls ++ L, c0 + mc, s0 + ms⟩,
      ⟨X.admits, X.cas, X.clock, X.frames, X.room, X.hears, X.method, X.code, (X.here.setHeapUsed s₂.heap s₂.slotsUsed).setVm hW'.alike, X.tail, State.WarmedH.trans X.warmed hW', X.limits, X.bytes, X.same.trans (hsame.setVm s.vm)⟩,
      ⟨g, mk, s₂, L, rfl, rfl, hqc, rfl, hL, rfl, rfl⟩, ?_⟩
    show Steps p.tables e below _ ((({ U with heap := s₂.heap, slotsUsed := s₂.slotsUsed } : State).setVm s₂.vm).setTop { g with pc := g.pc + len₂, stack := v.toList ++ g.stack })
    rw [← hs₂]
    exact hsteps
  · obtain ⟨e2, q2, q3, q4, q5, q6⟩ := id hsm
    have e3 : s₂ = ({ (U.calling g mk a).setFrames s₂.frames with heap := s₂.heap, slotsUsed := s₂.slotsUsed } : State).setVm s₂.vm := by
      have : s₂ = ({ s₂ with vm := (U.calling g mk a).vm } : State).setVm s₂.vm := rfl
      rw [e2] at this
      exact this
    have hf₂ : s₂.frames = .throwing q :: .java g :: U.frames.tail := hend
    have hW' : U.WarmedH s₂.vm := hW₂
    have hs₂ : s₂ = ((({ U with heap := s₂.heap, slotsUsed := s₂.slotsUsed } : State).setVm s₂.vm).setTop g).pushFrame (.throwing q) := by
      refine e3.trans ?_
      rw [hf₂, State.calling_eq h.top, State.setFrames_setFrames, State.pushFrame, State.frames_setTop _ hr', State.setTop_of_frames _ hr', State.setFrames_setFrames, hr]
      rfl
    have hsame : U.sameButNew ({ U with heap := s₂.heap, slotsUsed := s₂.slotsUsed } : State) L mc ms := by
      refine ⟨?_, q2, q3, q4, q5, q6⟩
      obtain ⟨t, ht, -⟩ := State.frames_cons hr
      show ({ U with heap := s₂.heap, slotsUsed := s₂.slotsUsed } : State) = { U.setFrames U.frames with heap := s₂.heap, slotsUsed := s₂.slotsUsed }
      rw [State.setFrames_self ht]
    subst hg
    refine Or.inr ⟨q, ⟨(({ U with heap := s₂.heap, slotsUsed := s₂.slotsUsed } : State).setVm s₂.vm), Ls ++ L, c0 + mc, s0 + ms⟩,
      ⟨X.admits, X.cas, X.clock, X.frames, X.room, X.hears, X.method, X.code, (X.here.setHeapUsed s₂.heap s₂.slotsUsed).setVm hW'.alike, X.tail, State.WarmedH.trans X.warmed hW', X.limits, X.bytes, X.same.trans (hsame.setVm s.vm)⟩,
      ⟨g, mk, s₂, L, E, ce, rfl, rfl, hx, hce, hcv, hcl, rfl, hL, rfl, rfl⟩, ?_⟩
    show Steps p.tables e below _ (((({ U with heap := s₂.heap, slotsUsed := s₂.slotsUsed } : State).setVm s₂.vm).setTop g).pushFrame (.throwing q))
    rw [← hs₂]
    exact hsteps
end
variable {p : Program} {l : Launch} {e : Env} {R : Room} {s : State} {m : MethodId} {args : Array Value} {below : List Frame} {meth : Method} {c : Code} {T : State} {H : Heap} {locs : List Loc} {cells slots : Nat}
theorem vx_callVX (X : Stand p l e R s m args below meth c T locs cells slots) (hexec : p.tables.exec = Jvm.exec) {own C : String} {index : Nat} {y : MethodName} {bytes : ByteArray} {maxL : Nat} {ret : Option FieldType} {hh : List (Nat × Nat × Nat × Nat)}
    (hown : s.vm.findClass own = some m.cls) (hlink : (Cond.methodLink own index y).before args s = true) (hinst : (Cond.instanceMethod y).before args s = true) (hsel : (Cond.selects C y y).before args s = true)
    (hcode : (Cond.codeWith y bytes maxL ret hh).before args s = true) (hy : y.cls ≠ "java/lang/invoke/MethodHandle" ∧ y.cls ≠ "java/lang/invoke/VarHandle")
    {W9 : Nat} {Pre : Pt → Array Value → Prop} {Post : Pt → Array Value → Option Value → Pt → Prop} {PostX : Pt → Array Value → Addr → Pt → Prop} (hK : vx_Back l R p e below s args y 3 W9 Pre Post PostX)
    {b : Addr} {cellB : Cell} (hcell : T.heap[b]? = some cellB) (hobj : cellB.vm.isStatics = false) (hcls : s.vm.findClass C = some cellB.cls)
    {g : JFrame} (hg : g.method = m) (hsize : g.locals.size = c.maxLocals) {argsL rest : List Value} (hlen : ∀ sig, parseMethodDescriptor y.desc = some sig → argsL.length = sig.parameters.length)
    (hstack : g.stack = argsL.reverse ++ .ref b :: rest) (hW : 2 * g.monitorRoom + (rest.map fun v => v.category).sum ≤ W9) (hdg : decode c.code g.pc = .ok (.invokevirtual index, 3))
    (hpre : ∀ vm₁, s.WarmedH vm₁ → Pre ⟨T.setVm vm₁, locs, cells, slots⟩ (Value.ref b :: argsL).toArray) :
    (∃ (v : Option Value) (vm₁ : Vm) (B : Pt), s.WarmedH vm₁ ∧ Stand p l e R s m args below meth c B.U B.locs B.cells B.slots ∧ Post ⟨T.setVm vm₁, locs, cells, slots⟩ (Value.ref b :: argsL).toArray v B ∧
      ∀ target, Steps p.tables e below (B.U.setTop { g with pc := g.pc + 3, stack := v.toList ++ rest }) target → Steps p.tables e below (T.setTop g) target) ∨
    (∃ (q : Addr) (vm₁ : Vm) (B : Pt), s.WarmedH vm₁ ∧ Stand p l e R s m args below meth c B.U B.locs B.cells B.slots ∧ PostX ⟨T.setVm vm₁, locs, cells, slots⟩ (Value.ref b :: argsL).toArray q B ∧
      Steps p.tables e below (T.setTop g) ((B.U.setTop { g with stack := rest }).pushFrame (.throwing q))) := by
  obtain ⟨mk, methM, hnamed, hmethM, hstM, habM⟩ := Cond.instanceMethod_spec hinst
  obtain ⟨m8, methM', cM, hn8, hmethM', -, -, -, -, -, -, hsigM⟩ := Cond.codeWith_spec hcode
  cases Option.some.inj (hn8.symm.trans hnamed)
  cases hmethM.symm.trans hmethM'
  obtain ⟨c2, r2, m2, q1, q2, q3, q4, kP, hkP, hkPi⟩ := Cond.selects_spec hsel
  cases hcls.symm.trans q1
  cases (State.methodFound?_of_named hnamed hy).symm.trans q2
  cases hnamed.symm.trans q3
  have hselP : selectMethod e.platform s.vm cellB.cls mk = .method mk := by rw [Launch.admits_selectMethod X.admits]; exact q4
  obtain ⟨vm₁, X₁, hstep₁⟩ := X.invokevirtual hexec hown hlink hnamed hmethM hstM hkP hkPi hy (a := b) (cell := cellB) hcell
    (fun z h => by rw [h] at hobj; cases hobj) hselP hmethM habM hkP hkPi (g := g) hg (argsL := argsL) (rest := rest) (hlen _ hsigM) hstack hdg
  rcases hK m meth c ⟨T.setVm vm₁, locs, cells, slots⟩ { g with stack := rest } (.invokevirtual index) mk (Value.ref b :: argsL).toArray X₁ hg hsize hdg hW (X₁.named hnamed) (hpre vm₁ X₁.warmed) with ⟨v, B, X', hpost, hsteps⟩ | ⟨q, B, X', hpost, hsteps⟩
  · exact Or.inl ⟨v, vm₁, B, X₁.warmed, X', hpost, fun target h => hstep₁ _ fun acts => by rw [doInvoke_state]; exact hsteps.trans h⟩
  · exact Or.inr ⟨q, vm₁, B, X₁.warmed, X', hpost, hstep₁ _ fun acts => by rw [doInvoke_state]; exact hsteps⟩
theorem vx_callSX (X : Stand p l e R s m args below meth c T locs cells slots) (hexec : p.tables.exec = Jvm.exec) {own : String} {index : Nat} {y : MethodName} {bytes : ByteArray} {maxL : Nat} {ret : Option FieldType} {hh : List (Nat × Nat × Nat × Nat)}
    (hown : s.vm.findClass own = some m.cls) (hlink : (Cond.methodLink own index y).before args s = true) (hstat : (Cond.static y).before args s = true) (hinit : (Cond.initialized y.cls).before args s = true)
    (hcode : (Cond.codeWith y bytes maxL ret hh).before args s = true) (hy : y.cls ≠ "java/lang/invoke/MethodHandle" ∧ y.cls ≠ "java/lang/invoke/VarHandle")
    {W9 : Nat} {Pre : Pt → Array Value → Prop} {Post : Pt → Array Value → Option Value → Pt → Prop} {PostX : Pt → Array Value → Addr → Pt → Prop} (hK : vx_Back l R p e below s args y 3 W9 Pre Post PostX)
    {g : JFrame} (hg : g.method = m) (hsize : g.locals.size = c.maxLocals) {argsL rest : List Value} (hlen : ∀ sig, parseMethodDescriptor y.desc = some sig → argsL.length = sig.parameters.length)
    (hstack : g.stack = argsL.reverse ++ rest) (hW : 2 * g.monitorRoom + (rest.map fun v => v.category).sum ≤ W9) (hdg : decode c.code g.pc = .ok (.invokestatic index, 3))
    (hpre : ∀ vm₁, s.WarmedH vm₁ → Pre ⟨T.setVm vm₁, locs, cells, slots⟩ argsL.toArray) :
    (∃ (v : Option Value) (vm₁ : Vm) (B : Pt), s.WarmedH vm₁ ∧ Stand p l e R s m args below meth c B.U B.locs B.cells B.slots ∧ Post ⟨T.setVm vm₁, locs, cells, slots⟩ argsL.toArray v B ∧
      ∀ target, Steps p.tables e below (B.U.setTop { g with pc := g.pc + 3, stack := v.toList ++ rest }) target → Steps p.tables e below (T.setTop g) target) ∨
    (∃ (q : Addr) (vm₁ : Vm) (B : Pt), s.WarmedH vm₁ ∧ Stand p l e R s m args below meth c B.U B.locs B.cells B.slots ∧ PostX ⟨T.setVm vm₁, locs, cells, slots⟩ argsL.toArray q B ∧
      Steps p.tables e below (T.setTop g) ((B.U.setTop { g with stack := rest }).pushFrame (.throwing q))) := by
  obtain ⟨mk, methM, cM, hnamed, hmethM, -, -, -, -, -, -, hsigM⟩ := Cond.codeWith_spec hcode
  have hstatic : methM.isStatic = true := Cond.static_spec hnamed hmethM hstat
  obtain ⟨kP, hkP, -⟩ := className_of_methodNamed hnamed
  have hinitP : kP.init = .initialized := Cond.initialized_spec (findClass_of_methodNamed hnamed) hkP hinit
  obtain ⟨vm₁, X₁, hstep₁⟩ := X.invokestatic hexec hown hlink hnamed hmethM hstatic hkP hinitP hy (g := g) hg (argsL := argsL) (rest := rest) (hlen _ hsigM) hstack hdg
  rcases hK m meth c ⟨T.setVm vm₁, locs, cells, slots⟩ { g with stack := rest } (.invokestatic index) mk argsL.toArray X₁ hg hsize hdg hW (X₁.named hnamed) (hpre vm₁ X₁.warmed) with ⟨v, B, X', hpost, hsteps⟩ | ⟨q, B, X', hpost, hsteps⟩
  · exact Or.inl ⟨v, vm₁, B, X₁.warmed, X', hpost, fun target h => hstep₁ _ fun acts => by rw [doInvoke_state]; exact hsteps.trans h⟩
  · exact Or.inr ⟨q, vm₁, B, X₁.warmed, X', hpost, hstep₁ _ fun acts => by rw [doInvoke_state]; exact hsteps⟩
theorem vx_callVW (X : Stand p l e R s m args below meth c T locs cells slots) (hexec : p.tables.exec = Jvm.exec) {own C : String} {index : Nat} {y : MethodName} {bytes : ByteArray} {maxL : Nat} {ret : Option FieldType} {hh : List (Nat × Nat × Nat × Nat)}
    (hown : s.vm.findClass own = some m.cls) (hlink : (Cond.methodLink own index y).before args s = true) (hinst : (Cond.instanceMethod y).before args s = true) (hsel : (Cond.selects C y y).before args s = true)
    (hcode : (Cond.codeWith y bytes maxL ret hh).before args s = true) (hy : y.cls ≠ "java/lang/invoke/MethodHandle" ∧ y.cls ≠ "java/lang/invoke/VarHandle")
    {W9 : Nat} {Pre : Pt → Array Value → Prop} {Post : Pt → Array Value → Option Value → Pt → Prop} (hK : Back l R p e below s args y 3 W9 Pre Post)
    {b : Addr} {cellB : Cell} (hcell : T.heap[b]? = some cellB) (hobj : cellB.vm.isStatics = false) (hcls : s.vm.findClass C = some cellB.cls)
    {g : JFrame} (hg : g.method = m) (hsize : g.locals.size = c.maxLocals) {argsL rest : List Value} (hlen : ∀ sig, parseMethodDescriptor y.desc = some sig → argsL.length = sig.parameters.length)
    (hstack : g.stack = argsL.reverse ++ .ref b :: rest) (hW : 2 * g.monitorRoom + (rest.map fun v => v.category).sum ≤ W9) (hdg : decode c.code g.pc = .ok (.invokevirtual index, 3))
    (hpre : ∀ vm₁, s.WarmedH vm₁ → Pre ⟨T.setVm vm₁, locs, cells, slots⟩ (Value.ref b :: argsL).toArray) :
    ∃ (v : Option Value) (vm₁ : Vm) (B : Pt), s.WarmedH vm₁ ∧ Stand p l e R s m args below meth c B.U B.locs B.cells B.slots ∧ Post ⟨T.setVm vm₁, locs, cells, slots⟩ (Value.ref b :: argsL).toArray v B ∧
      ∀ target, Steps p.tables e below (B.U.setTop { g with pc := g.pc + 3, stack := v.toList ++ rest }) target → Steps p.tables e below (T.setTop g) target := by
  obtain ⟨mk, methM, hnamed, hmethM, hstM, habM⟩ := Cond.instanceMethod_spec hinst
  obtain ⟨m8, methM', cM, hn8, hmethM', -, -, -, -, -, -, hsigM⟩ := Cond.codeWith_spec hcode
  cases Option.some.inj (hn8.symm.trans hnamed)
  cases hmethM.symm.trans hmethM'
  obtain ⟨c2, r2, m2, q1, q2, q3, q4, kP, hkP, hkPi⟩ := Cond.selects_spec hsel
  cases hcls.symm.trans q1
  cases (State.methodFound?_of_named hnamed hy).symm.trans q2
  cases hnamed.symm.trans q3
  have hselP : selectMethod e.platform s.vm cellB.cls mk = .method mk := by rw [Launch.admits_selectMethod X.admits]; exact q4
  obtain ⟨vm₁, X₁, hstep₁⟩ := X.invokevirtual hexec hown hlink hnamed hmethM hstM hkP hkPi hy (a := b) (cell := cellB) hcell
    (fun z h => by rw [h] at hobj; cases hobj) hselP hmethM habM hkP hkPi (g := g) hg (argsL := argsL) (rest := rest) (hlen _ hsigM) hstack hdg
  obtain ⟨v, B, X', hpost, hsteps⟩ := hK m meth c ⟨T.setVm vm₁, locs, cells, slots⟩ { g with stack := rest } (.invokevirtual index) mk (Value.ref b :: argsL).toArray X₁ hg hsize hdg hW (X₁.named hnamed) (hpre vm₁ X₁.warmed)
  exact ⟨v, vm₁, B, X₁.warmed, X', hpost, fun target h => hstep₁ _ fun acts => by rw [doInvoke_state]; exact hsteps.trans h⟩
abbrev vx_CVW (R : Room) (s : State) (args : Array Value) (own C : String) (index : Nat) (y : MethodName) (bytes : ByteArray) (maxL : Nat) (ret : Option FieldType) (hh : List (Nat × Nat × Nat × Nat)) (ws : List Cond) (rm : Room) (mc ms n : Nat) : Prop :=
  (rm.cells = mc ∧ rm.slots = ms ∧ rm.frames + 1 ≤ R.frames ∧ 8 + (maxL + 11) + rm.locals ≤ R.locals ∧ (∀ w ∈ ws, ∀ (a' : Array Value) (U : State), s.WarmedH U.vm → w.before a' U = true) ∧ Cond.codeWith y bytes maxL ret hh ∈ ws) ∧
  (Cond.codeWith y bytes maxL ret hh).before args s = true ∧ (Cond.initialized y.cls).before args s = true ∧ (y.cls ≠ "java/lang/invoke/MethodHandle" ∧ y.cls ≠ "java/lang/invoke/VarHandle") ∧
  (∀ sig, parseMethodDescriptor y.desc = some sig → n = sig.parameters.length) ∧ (Cond.methodLink own index y).before args s = true ∧ (Cond.instanceMethod y).before args s = true ∧ (Cond.selects C y y).before args s = true
theorem vx_cwVW {own C : String} {index maxL mc ms : Nat} {y : MethodName} {bytes : ByteArray} {ret : Option FieldType} {hh : List (Nat × Nat × Nat × Nat)} {Ts ws ws' : List Cond} {rm : Room} (n : Nat) (ht : ∀ w ∈ Ts, w.before args s = true) (hT : GoodIn Ts (wsV own index C y ws)) (hw : ws = Cond.codeWith y bytes maxL ret hh :: ws') (hrc : rm.cells = mc) (hrs : rm.slots = ms)
    (hd : y.cls = C ∧ y.cls ≠ "java/lang/invoke/MethodHandle" ∧ y.cls ≠ "java/lang/invoke/VarHandle" ∧ (parseMethodDescriptor y.desc).map (fun d => d.parameters.length) = some n) (hR : rm.frames + 1 ≤ R.frames ∧ 8 + (maxL + 11) + rm.locals ≤ R.locals) :
    vx_CVW R s args own C index y bytes maxL ret hh ws rm mc ms n := by
  obtain ⟨hC, hd⟩ := hd
  subst hC
  have ok : ∀ w ∈ wsV own index y.cls y ws, w.before args s = true := fun w h => ht w (hT w h).1
  have hG : GoodIn Ts ws := fun w h => hT w (by unfold wsV; exact List.mem_append_right _ h)
  have hc : Cond.codeWith y bytes maxL ret hh ∈ ws := by rw [hw]; exact List.mem_cons_self
  refine ⟨⟨hrc, hrs, hR.1, hR.2, pay_in ht hG, hc⟩, ht _ (hG _ hc).1, ok _ (by simp [wsV]), ⟨hd.1, hd.2.1⟩, fun sig h => ?_, ok _ (by simp [wsV]), ok _ (by simp [wsV]), ok _ (by simp [wsV])⟩
  have h2 := hd.2.2
  rw [h] at h2
  exact (Option.some.inj h2).symm
theorem vx_runVW {y : MethodName} {bytes cc : ByteArray} {maxL nL mc ms n index : Nat} {ret : Option FieldType} {hh : List (Nat × Nat × Nat × Nat)} {ws : List Cond} {rm : Room} {Pc : Array Value → State → Prop} {Qc : Array Value → State → Outcome → State → Prop} {free : Addr → Prop} {Ts : List Cond} {own C : String} {b : Addr} {As rest : List Value} {g : JFrame}
    (S : CallFix p m c cc nL s args Ts own) (hM : Met l y ws rm Pc Qc mc ms free) (cw : vx_CVW R s args own C index y bytes maxL ret hh ws rm mc ms n) (hp : PreV s H C b Pc As)
    (hg : g.method = m) (hn : As.length = n) (hsize : g.locals.size = nL) (hstack : g.stack = As.reverse ++ .ref b :: rest) (hW : 2 * g.monitorRoom + (rest.map fun v => v.category).sum ≤ 8) (hdg : decode cc g.pc = .ok (.invokevirtual index, 3)) (hf : cells + mc ≤ R.cells ∧ slots + ms ≤ R.slots) :
    va_Run p l e R s m args below meth c H locs cells slots mc ms g rest (Qc (Value.ref b :: As).toArray) free := by
  obtain ⟨⟨hrc, hrs, hfr, hlo, hws, hcw⟩, hcode, hini, hy, hlen, hl, hin, hse⟩ := cw
  have hK : Back l R p e below s args y 3 8 (PreOf R mc ms Pc) (PostOf Qc mc ms free) := va_backW (hh := hh) (bytes := bytes) (maxL := maxL) (ret := ret) hM hp.1 hrc hrs hfr hlo hws hcw (fun a' U hW => word_at hW (Or.inl (by first | rfl | simp [Cond.onTables, Cond.keeps, Cond.steady])) hini)
  obtain ⟨hx, hb, hml, ho, -⟩ := S
  obtain ⟨-, ⟨cellB, hcB, hoB, hclB⟩, hPc⟩ := hp
  intro T hT X
  obtain ⟨v, vm₁, ⟨U', l2, c2, s2⟩, hW₁, X', ⟨g', mk, t, L, e1, e2, hq, h1, hL, h2, h3⟩, st⟩ := vx_callVW X hx (C := C) (hh := hh) (bytes := bytes) (maxL := maxL) (ret := ret) ho hl hin hse hcode hy hK (by rw [hT]; exact hcB) hoB hclB hg (hsize.trans hml.symm) (argsL := As) (rest := rest) (fun sig h => hn.trans (hlen sig h)) hstack hW (by rw [hb]; exact hdg)
    (fun vm₁ hW₁ => ⟨hf.1, hf.2, hPc (T.setVm vm₁) hT hW₁⟩)
  dsimp only [Pt.U, Pt.locs, Pt.cells, Pt.slots] at X' e1 e2 h1 h2 h3 st
  subst h1; subst h2; subst h3
  exact ⟨v, (T.setVm vm₁).calling g' mk (Value.ref b :: As).toArray, t, U', L, hT, X', hL, e1, e2, hq, st⟩
section
variable {y : MethodName} {bytes cc : ByteArray} {maxL nL mc ms n index : Nat} {ret : Option FieldType} {ws : List Cond} {rm : Room} {Pc : Array Value → State → Prop} {Qc : Array Value → State → Outcome → State → Prop} {XC : String → State → State → Prop} {free : Addr → Prop} {Ts : List Cond} {own C : String} {b : Addr} {As rest : List Value} {g : JFrame}
theorem vx_runVX {hh : List (Nat × Nat × Nat × Nat)} (S : CallFix p m c cc nL s args Ts own) (hM : vx_Met l y ws rm Pc Qc XC mc ms free) (cw : vx_CVW R s args own C index y bytes maxL ret hh ws rm mc ms n) (hp : PreV s H C b Pc As)
    (hg : g.method = m) (hn : As.length = n) (hsize : g.locals.size = nL) (hstack : g.stack = As.reverse ++ .ref b :: rest) (hW : 2 * g.monitorRoom + (rest.map fun v => v.category).sum ≤ 8) (hdg : decode cc g.pc = .ok (.invokevirtual index, 3)) (hf : cells + mc ≤ R.cells ∧ slots + ms ≤ R.slots) :
    vx_Run p l e R s m args below meth c H locs cells slots mc ms g rest (Qc (Value.ref b :: As).toArray) XC free := by
  obtain ⟨⟨hrc, hrs, hfr, hlo, hws, hcw⟩, hcode, hini, hy, hlen, hl, hin, hse⟩ := cw
  have hK : vx_Back l R p e below s args y 3 8 (PreOf R mc ms Pc) (PostOf Qc mc ms free) (vx_Post XC mc ms free) := vx_backW (hh := hh) (bytes := bytes) (maxL := maxL) (ret := ret) hM hp.1 hrc hrs hfr hlo hws hcw (fun a' U hW => word_at hW (Or.inl (by first | rfl | simp [Cond.onTables, Cond.keeps, Cond.steady])) hini)
  obtain ⟨hx, hb, hml, ho, -⟩ := S
  obtain ⟨-, ⟨cellB, hcB, hoB, hclB⟩, hPc⟩ := hp
  intro T hT X
  rcases vx_callVX X hx (C := C) (hh := hh) (bytes := bytes) (maxL := maxL) (ret := ret) ho hl hin hse hcode hy hK (by rw [hT]; exact hcB) hoB hclB hg (hsize.trans hml.symm) (argsL := As) (rest := rest) (fun sig h => hn.trans (hlen sig h)) hstack hW (by rw [hb]; exact hdg)
    (fun vm₁ hW₁ => ⟨hf.1, hf.2, hPc (T.setVm vm₁) hT hW₁⟩) with ⟨v, vm₁, ⟨U', l2, c2, s2⟩, hW₁, X', ⟨g', mk, t, L, e1, e2, hq, h1, hL, h2, h3⟩, st⟩ | ⟨q, vm₁, ⟨U', l2, c2, s2⟩, hW₁, X', ⟨g', mk, t, L, E, ce, e1, e2, hq, hce, hcv, hcl, h1, hL, h2, h3⟩, st⟩
  · dsimp only [Pt.U, Pt.locs, Pt.cells, Pt.slots] at X' e1 e2 h1 h2 h3 st
    subst h1; subst h2; subst h3
    exact Or.inl ⟨v, (T.setVm vm₁).calling g' mk (Value.ref b :: As).toArray, t, U', L, hT, X', hL, e1, e2, hq, st⟩
  · dsimp only [Pt.U, Pt.locs, Pt.cells, Pt.slots] at X' e1 e2 h1 h2 h3 st hcl
    subst h1; subst h2; subst h3
    exact Or.inr ⟨q, (T.setVm vm₁).calling g' mk (Value.ref b :: As).toArray, t, U', L, E, ce, hT, X', hL, e1, e2, hq, hce, hcv, vx_cls hW₁ hcl, st⟩
theorem vx_runSX {hh : List (Nat × Nat × Nat × Nat)} (S : CallFix p m c cc nL s args Ts own) (hM : vx_Met l y ws rm Pc Qc XC mc ms free) (cw : vx_CSW R s args own index y bytes maxL ret hh ws rm mc ms n) (hp : PreS s H Pc As)
    (hg : g.method = m) (hn : As.length = n) (hsize : g.locals.size = nL) (hstack : g.stack = As.reverse ++ rest) (hW : 2 * g.monitorRoom + (rest.map fun v => v.category).sum ≤ 8) (hdg : decode cc g.pc = .ok (.invokestatic index, 3)) (hf : cells + mc ≤ R.cells ∧ slots + ms ≤ R.slots) :
    vx_Run p l e R s m args below meth c H locs cells slots mc ms g rest (Qc As.toArray) XC free := by
  obtain ⟨⟨hrc, hrs, hfr, hlo, hws, hcw⟩, hcode, hini, hy, hlen, hl, hstt⟩ := cw
  have hK : vx_Back l R p e below s args y 3 8 (PreOf R mc ms Pc) (PostOf Qc mc ms free) (vx_Post XC mc ms free) := vx_backW (hh := hh) (bytes := bytes) (maxL := maxL) (ret := ret) hM hp.1 hrc hrs hfr hlo hws hcw (fun a' U hW => word_at hW (Or.inl (by first | rfl | simp [Cond.onTables, Cond.keeps, Cond.steady])) hini)
  obtain ⟨hx, hb, hml, ho, -⟩ := S
  intro T hT X
  rcases vx_callSX X hx (hh := hh) (bytes := bytes) (maxL := maxL) (ret := ret) ho hl hstt hini hcode hy hK hg (hsize.trans hml.symm) (argsL := As) (rest := rest) (fun sig h => hn.trans (hlen sig h)) hstack hW (by rw [hb]; exact hdg)
    (fun vm₁ hW₁ => ⟨hf.1, hf.2, hp.2 (T.setVm vm₁) hT hW₁⟩) with ⟨v, vm₁, ⟨U', l2, c2, s2⟩, hW₁, X', ⟨g', mk, t, L, e1, e2, hq, h1, hL, h2, h3⟩, st⟩ | ⟨q, vm₁, ⟨U', l2, c2, s2⟩, hW₁, X', ⟨g', mk, t, L, E, ce, e1, e2, hq, hce, hcv, hcl, h1, hL, h2, h3⟩, st⟩
  · dsimp only [Pt.U, Pt.locs, Pt.cells, Pt.slots] at X' e1 e2 h1 h2 h3 st
    subst h1; subst h2; subst h3
    exact Or.inl ⟨v, (T.setVm vm₁).calling g' mk As.toArray, t, U', L, hT, X', hL, e1, e2, hq, st⟩
  · dsimp only [Pt.U, Pt.locs, Pt.cells, Pt.slots] at X' e1 e2 h1 h2 h3 st hcl
    subst h1; subst h2; subst h3
    exact Or.inr ⟨q, (T.setVm vm₁).calling g' mk As.toArray, t, U', L, E, ce, hT, X', hL, e1, e2, hq, hce, hcv, vx_cls hW₁ hcl, st⟩
end
end VXH
theorem vx_ofWH {l : Launch} {y : MethodName} {ws ws' : List Cond} {rm : Room} {Pc : Array Value → State → Prop} {Qc : Array Value → State → Outcome → State → Prop} {XC : String → State → State → Prop} {mc ms : Nat} {free : Addr → Prop} {cc : ByteArray} {maxL : Nat} {ret : Option FieldType} {hh : List (Nat × Nat × Nat × Nat)}
    (hy : plainName y.cls = true) (hw : ws = Cond.codeWith y cc maxL ret hh :: ws')
    (body : ∀ p e s m args below meth c s₁, BodyLoose p l y (headSpec ws rm) cc maxL ret e s m args below meth c s₁ → c.maxLocals = maxL → Pc args s →
      W p l e (headSpec ws rm).room s m args below meth c s.heap [] 0 0 (vx_MQ below Qc XC args s mc ms free) (entryFrame m args maxL)) : vx_Met l y ws rm Pc Qc XC mc ms free := by
  refine MetFree.of_bodyS (code := cc) (maxLocals := maxL) (ret := ret) hy ?_ ?_
  · intro args s m h hn
    obtain ⟨m9, meth, c, hn9, h1, h2, h3, h4, -, h5, h6, -⟩ := Cond.codeWith_spec (atoms_spec (ws := ws) h _ (by rw [hw]; exact List.mem_cons_self))
    cases hn.symm.trans hn9
    exact ⟨meth, c, h1, h2, h3, h4, h5, h6⟩
  · intro p e s m args below meth c s₁ B hml hP _
    have hh0 : s₁.heap = s.heap := by rw [B.state]; rfl
    obtain ⟨t, a1, o, b1, b2, b3⟩ := body p e s m args below meth c s₁ B hml hP s₁ hh0 (Stand.of_body B)
    exact ⟨t, o, a1, b1, b2, b3⟩
/-! ===== END ===== -/
end
section
/-! THE ABSTRACT MACHINE: addresses relative to the first new cell, the whole world one list of cells; a rule an instruction -/
abbrev gA : Type := (Nat × (Nat → Int32)) ⊕ ((Nat × (Nat → Int64)) ⊕ (Nat × List Value))
def gv (b0 : Nat) (sa : Nat → Nat) : Value → Value
  | .ref k => .ref (b0 + k)
  | .float j => .ref (sa j.toNat)
  | .int x => .int x
  | .long x => .long x
  | .null => .null
  | v => v
def gce (cI cJ : ClassId) (b0 : Nat) (sa : Nat → Nat) : gA → va_E
  | .inl nf => .inl (cI, nf.1, .inl nf.2)
  | .inr (.inl nf) => .inl (cJ, nf.1, .inr (.inl nf.2))
  | .inr (.inr cf) => .inr (cf.1, cf.2.map (gv b0 sa))
/-- a cell of which nothing is told (an exception that was thrown) -/
def gJunk : gA := .inr (.inr (1000, []))
def gH (D : va_G) (cI cJ : ClassId) (b0 : Nat) (sa : Nat → Nat) (hp : List gA) (H : Heap) : Prop :=
  H.size = b0 + hp.length ∧ ∀ (k : Nat) (e : gA), hp[k]? = some e → e ≠ gJunk → va_at D vwCl (b0 + k, gce cI cJ b0 sa e) H
def gL (b0 : Nat) (sa : Nat → Nat) (arr : Array Slot) (ls : List (Option Value)) : Prop :=
  arr.size = ls.length ∧ lv_wf arr ∧ ∀ (i : Nat) (v : Value), ls[i]? = some (some v) → arr[i]? = some (.val (gv b0 sa v))
def gW : List Cond := lw_tbl.filter goodWord
theorem gW_of {w : Cond} (h : w ∈ lw_tbl) (hg : goodWord w = true) : w ∈ gW := List.mem_filter.mpr ⟨h, hg⟩
theorem gW_good {w : Cond} (h : w ∈ gW) : (w.onTables && w.keeps) = true ∨ ∃ ty, w = .arrayClass ty := good_of_word (List.mem_filter.mp h).2
abbrev gX : Type := (Program × Launch × Env × Room) × (State × MethodId × Array Value × List Frame) × (Method × Code) × (va_G × ClassId × ClassId) × (Nat × (Nat → Nat)) × (State → Prop)
abbrev xp (X : gX) : Program := X.1.1
abbrev xl (X : gX) : Launch := X.1.2.1
abbrev xe (X : gX) : Env := X.1.2.2.1
abbrev xR (X : gX) : Room := X.1.2.2.2
abbrev xs (X : gX) : State := X.2.1.1
abbrev xm (X : gX) : MethodId := X.2.1.2.1
abbrev xa (X : gX) : Array Value := X.2.1.2.2.1
abbrev xb (X : gX) : List Frame := X.2.1.2.2.2
abbrev xt (X : gX) : Method := X.2.2.1.1
abbrev xc (X : gX) : Code := X.2.2.1.2
abbrev xD (X : gX) : va_G := X.2.2.2.1.1
abbrev xI (X : gX) : ClassId := X.2.2.2.1.2.1
abbrev xJ (X : gX) : ClassId := X.2.2.2.1.2.2
abbrev xB (X : gX) : Nat := X.2.2.2.2.1.1
abbrev xA (X : gX) : Nat → Nat := X.2.2.2.2.1.2
abbrev xQ (X : gX) : State → Prop := X.2.2.2.2.2
def gG (X : gX) (pc : Nat) (ls : List (Option Value)) (st : List Value) (hp : List gA) (cl sl : Nat) : Prop :=
  ∀ (arr : Array Slot) (H : Heap) (locs : List Loc), gL (xB X) (xA X) arr ls → gH (xD X) (xI X) (xJ X) (xB X) (xA X) hp H → va_S (fun q => xB X ≤ q) (xs X).heap H locs →
    W (xp X) (xl X) (xe X) (xR X) (xs X) (xm X) (xa X) (xb X) (xt X) (xc X) H locs cl sl (xQ X) (F0 (xm X) pc arr (st.map (gv (xB X) (xA X))))
/-- the nest mates' constructors that are called: by the Statement's words -/
def gNest : List (String × Nat × MethodName × String) := [(RX7, 20, yX1_init, RX7), (RX2, 25, yX6_init, RX7), (RX7, 36, yX0_init, RX7), (RX7, 43, yX3_init, RX7)]
def gNSE : String := "java/util/NoSuchElementException"
/-- what else is carried along: the nest mates, the exception's class, Throwable's two statics -/
def gN (b0 : Nat) (U : State) : Prop := (∀ z ∈ gNest, va_Nw (.methodLinkNest z.1 z.2.1 z.2.2.1 z.2.2.2) U) ∧ va_Nw (.castable gNSE gNSE) U ∧
  vx_Zq Bundle.tN "UNASSIGNED_STACK" Bundle.steD (fun q => b0 ≤ q) U U.heap ∧ vx_Zq Bundle.tN "SUPPRESSED_SENTINEL" Bundle.listD (fun q => b0 ≤ q) U U.heap
theorem gN.same {b0 : Nat} {u U : State} (h : u.vm = U.vm) (hh : U.heap = u.heap) (hN : gN b0 u) : gN b0 U :=
  ⟨fun z hz => va_Nw.same rfl h (hN.1 z hz), va_Nw.same rfl h hN.2.1, by rw [hh]; exact vx_Zq.moved (by rw [h]; exact Vm.Alike.refl _) hN.2.2.1, by rw [hh]; exact vx_Zq.moved (by rw [h]; exact Vm.Alike.refl _) hN.2.2.2⟩
theorem gN.warm {b0 : Nat} {s U : State} {H : Heap} {locs : List Loc} (hW : s.WarmedH U.vm) (hS : va_S (fun q => b0 ≤ q) s.heap H locs) (hU : U.heap = H) (hN : gN b0 s) : gN b0 U :=
  ⟨fun z hz => va_Nw.warmM hW (hN.1 z hz), va_Nw.warmC hW hN.2.1, by rw [hU]; exact vx_Zq.moved hW.alike (hN.2.2.1.kept hS.2.1), by rw [hU]; exact vx_Zq.moved hW.alike (hN.2.2.2.kept hS.2.1)⟩
/-- what is known of the method that runs: the machine, its code, its class, the tables' words, the classes, its room -/
def gC (X : gX) (own nm : String) (cc : ByteArray) (nL : Nat) (rm : Room) : Prop :=
  (xp X).tables.exec = Jvm.exec ∧ (xc X).code = cc ∧ (xc X).maxLocals = nL ∧ (xs X).vm.findClass own = some (xm X).cls ∧ (∀ w ∈ gW, w.before (xa X) (xs X) = true) ∧
  va_K (xD X) vwCl [(xI X, .int), (xJ X, .long)] (xs X) ∧ xB X ≤ (xs X).heap.size ∧ (xt X).locks = false ∧ xR X = rm ∧ (xt X).name = nm ∧ gN (xB X) (xs X)
section GR
variable {X : gX} {own nm : String} {cc : ByteArray} {nL : Nat} {rm : Room} {pc q : Nat} {ls : List (Option Value)} {st : List Value} {hp : List gA} {cl sl : Nat}

theorem g_iconst (C : gC X own nm cc nL rm) {n : Int} {v : Int32} (hd : decode cc pc = .ok (.iconst n, 1)) (hv : Int32.ofInt n = v) (hq : pc + 1 = q) (k : gG X q ls (.int v :: st) hp cl sl) : gG X pc ls (st) hp cl sl := by
  subst hq; exact fun arr H locs hl hh hS => lv_iconst C.1 C.2.1 hd hv (k arr H locs hl hh hS)
theorem g_bipush (C : gC X own nm cc nL rm) {n : Int} {v : Int32} (hd : decode cc pc = .ok (.bipush n, 2)) (hv : (Int8.ofInt n).toInt32 = v) (hq : pc + 2 = q) (k : gG X q ls (.int v :: st) hp cl sl) : gG X pc ls (st) hp cl sl := by
  subst hq; exact fun arr H locs hl hh hS => lv_bipush C.1 C.2.1 hd hv (k arr H locs hl hh hS)
theorem g_sipush (C : gC X own nm cc nL rm) {n : Int} {v : Int32} (hd : decode cc pc = .ok (.sipush n, 3)) (hv : (Int16.ofInt n).toInt32 = v) (hq : pc + 3 = q) (k : gG X q ls (.int v :: st) hp cl sl) : gG X pc ls (st) hp cl sl := by
  subst hq; exact fun arr H locs hl hh hS => lv_sipush C.1 C.2.1 hd hv (k arr H locs hl hh hS)
theorem g_ldc (C : gC X own nm cc nL rm) {ix : Nat} {v : Int32} (hk : Jvm.Cond.constant own ix v ∈ gW) (hd : decode cc pc = .ok (.ldc ix, 2)) (hq : pc + 2 = q) (k : gG X q ls (.int v :: st) hp cl sl) : gG X pc ls (st) hp cl sl := by
  subst hq; exact fun arr H locs hl hh hS => lv_ldc C.1 C.2.1 C.2.2.2.1 (C.2.2.2.2.1 _ hk) hd (k arr H locs hl hh hS)
theorem g_ldc2 (C : gC X own nm cc nL rm) {ix : Nat} {v : Int64} (hk : Jvm.Cond.constantLong own ix v ∈ gW) (hd : decode cc pc = .ok (.ldc2_w ix, 3)) (hq : pc + 3 = q) (k : gG X q ls (.long v :: st) hp cl sl) : gG X pc ls (st) hp cl sl := by
  subst hq; exact fun arr H locs hl hh hS => lv_ldc2 C.1 C.2.1 C.2.2.2.1 (C.2.2.2.2.1 _ hk) hd (k arr H locs hl hh hS)
theorem g_null (C : gC X own nm cc nL rm) (hd : decode cc pc = .ok (.aconst_null, 1)) (hq : pc + 1 = q) (k : gG X q ls (.null :: st) hp cl sl) : gG X pc ls (st) hp cl sl := by
  subst hq; exact fun arr H locs hl hh hS => lv_null C.1 C.2.1 hd (k arr H locs hl hh hS)
theorem g_iadd (C : gC X own nm cc nL rm) {x z : Int32} (hd : decode cc pc = .ok (.iadd, 1)) (hq : pc + 1 = q) (k : gG X q ls (.int (x + z) :: st) hp cl sl) : gG X pc ls (.int z :: .int x :: st) hp cl sl := by
  subst hq; exact fun arr H locs hl hh hS => lv_iadd C.1 C.2.1 hd (k arr H locs hl hh hS)
theorem g_isub (C : gC X own nm cc nL rm) {x z : Int32} (hd : decode cc pc = .ok (.isub, 1)) (hq : pc + 1 = q) (k : gG X q ls (.int (x - z) :: st) hp cl sl) : gG X pc ls (.int z :: .int x :: st) hp cl sl := by
  subst hq; exact fun arr H locs hl hh hS => lv_isub C.1 C.2.1 hd (k arr H locs hl hh hS)
theorem g_imul (C : gC X own nm cc nL rm) {x z : Int32} (hd : decode cc pc = .ok (.imul, 1)) (hq : pc + 1 = q) (k : gG X q ls (.int (x * z) :: st) hp cl sl) : gG X pc ls (.int z :: .int x :: st) hp cl sl := by
  subst hq; exact fun arr H locs hl hh hS => lv_imul C.1 C.2.1 hd (k arr H locs hl hh hS)
theorem g_iand (C : gC X own nm cc nL rm) {x z : Int32} (hd : decode cc pc = .ok (.iand, 1)) (hq : pc + 1 = q) (k : gG X q ls (.int (x &&& z) :: st) hp cl sl) : gG X pc ls (.int z :: .int x :: st) hp cl sl := by
  subst hq; exact fun arr H locs hl hh hS => lv_iand C.1 C.2.1 hd (k arr H locs hl hh hS)
theorem g_ior (C : gC X own nm cc nL rm) {x z : Int32} (hd : decode cc pc = .ok (.ior, 1)) (hq : pc + 1 = q) (k : gG X q ls (.int (x ||| z) :: st) hp cl sl) : gG X pc ls (.int z :: .int x :: st) hp cl sl := by
  subst hq; exact fun arr H locs hl hh hS => lv_ior C.1 C.2.1 hd (k arr H locs hl hh hS)
theorem g_ixor (C : gC X own nm cc nL rm) {x z : Int32} (hd : decode cc pc = .ok (.ixor, 1)) (hq : pc + 1 = q) (k : gG X q ls (.int (x ^^^ z) :: st) hp cl sl) : gG X pc ls (.int z :: .int x :: st) hp cl sl := by
  subst hq; exact fun arr H locs hl hh hS => lv_ixor C.1 C.2.1 hd (k arr H locs hl hh hS)
theorem g_ishl (C : gC X own nm cc nL rm) {x z : Int32} (hd : decode cc pc = .ok (.ishl, 1)) (hq : pc + 1 = q) (k : gG X q ls (.int (x <<< (z &&& 31)) :: st) hp cl sl) : gG X pc ls (.int z :: .int x :: st) hp cl sl := by
  subst hq; exact fun arr H locs hl hh hS => lv_ishl C.1 C.2.1 hd (k arr H locs hl hh hS)
theorem g_ishr (C : gC X own nm cc nL rm) {x z : Int32} (hd : decode cc pc = .ok (.ishr, 1)) (hq : pc + 1 = q) (k : gG X q ls (.int (x >>> (z &&& 31)) :: st) hp cl sl) : gG X pc ls (.int z :: .int x :: st) hp cl sl := by
  subst hq; exact fun arr H locs hl hh hS => lv_ishr C.1 C.2.1 hd (k arr H locs hl hh hS)
theorem g_iushr (C : gC X own nm cc nL rm) {x z : Int32} (hd : decode cc pc = .ok (.iushr, 1)) (hq : pc + 1 = q) (k : gG X q ls (.int ((x.toUInt32 >>> (z.toUInt32 &&& Int32.toUInt32 31)).toInt32) :: st) hp cl sl) : gG X pc ls (.int z :: .int x :: st) hp cl sl := by
  subst hq; exact fun arr H locs hl hh hS => lv_iushr C.1 C.2.1 hd rfl (k arr H locs hl hh hS)
theorem g_ineg (C : gC X own nm cc nL rm) {x : Int32} (hd : decode cc pc = .ok (.ineg, 1)) (hq : pc + 1 = q) (k : gG X q ls (.int (-x) :: st) hp cl sl) : gG X pc ls (.int x :: st) hp cl sl := by
  subst hq; exact fun arr H locs hl hh hS => lv_ineg C.1 C.2.1 hd (k arr H locs hl hh hS)
theorem g_idiv (C : gC X own nm cc nL rm) {x z : Int32} (hd : decode cc pc = .ok (.idiv, 1)) (hne : ¬ z = 0) (hq : pc + 1 = q) (k : gG X q ls (.int (x / z) :: st) hp cl sl) : gG X pc ls (.int z :: .int x :: st) hp cl sl := by
  subst hq; exact fun arr H locs hl hh hS => lv_idiv C.1 C.2.1 hd hne (k arr H locs hl hh hS)
theorem g_irem (C : gC X own nm cc nL rm) {x z : Int32} (hd : decode cc pc = .ok (.irem, 1)) (hne : ¬ z = 0) (hq : pc + 1 = q) (k : gG X q ls (.int (x - x / z * z) :: st) hp cl sl) : gG X pc ls (.int z :: .int x :: st) hp cl sl := by
  subst hq; exact fun arr H locs hl hh hS => lv_irem C.1 C.2.1 hd hne (k arr H locs hl hh hS)
theorem g_i2l (C : gC X own nm cc nL rm) {x : Int32} (hd : decode cc pc = .ok (.i2l, 1)) (hq : pc + 1 = q) (k : gG X q ls (.long x.toInt64 :: st) hp cl sl) : gG X pc ls (.int x :: st) hp cl sl := by
  subst hq; exact fun arr H locs hl hh hS => lv_i2l C.1 C.2.1 hd rfl (k arr H locs hl hh hS)
theorem g_l2i (C : gC X own nm cc nL rm) {x : Int64} (hd : decode cc pc = .ok (.l2i, 1)) (hq : pc + 1 = q) (k : gG X q ls (.int x.toInt32 :: st) hp cl sl) : gG X pc ls (.long x :: st) hp cl sl := by
  subst hq; exact fun arr H locs hl hh hS => lv_l2i C.1 C.2.1 hd rfl (k arr H locs hl hh hS)
theorem g_lushr (C : gC X own nm cc nL rm) {x : Int64} {z : Int32} (hd : decode cc pc = .ok (.lushr, 1)) (hq : pc + 1 = q) (k : gG X q ls (.long ((x.toUInt64 >>> (z.toInt64.toUInt64 &&& Int64.toUInt64 63)).toInt64) :: st) hp cl sl) : gG X pc ls (.int z :: .long x :: st) hp cl sl := by
  subst hq; exact fun arr H locs hl hh hS => lv_lushr C.1 C.2.1 hd rfl (k arr H locs hl hh hS)
theorem g_lshl (C : gC X own nm cc nL rm) {x : Int64} {z : Int32} (hd : decode cc pc = .ok (.lshl, 1)) (hq : pc + 1 = q) (k : gG X q ls (.long (x <<< (z.toInt64 &&& 63)) :: st) hp cl sl) : gG X pc ls (.int z :: .long x :: st) hp cl sl := by
  subst hq; exact fun arr H locs hl hh hS => lv_lshl C.1 C.2.1 hd rfl (k arr H locs hl hh hS)
theorem g_lshr (C : gC X own nm cc nL rm) {x : Int64} {z : Int32} (hd : decode cc pc = .ok (.lshr, 1)) (hq : pc + 1 = q) (k : gG X q ls (.long (x >>> (z.toInt64 &&& 63)) :: st) hp cl sl) : gG X pc ls (.int z :: .long x :: st) hp cl sl := by
  subst hq; exact fun arr H locs hl hh hS => lv_lshr C.1 C.2.1 hd rfl (k arr H locs hl hh hS)
theorem g_land (C : gC X own nm cc nL rm) {x z : Int64} (hd : decode cc pc = .ok (.land, 1)) (hq : pc + 1 = q) (k : gG X q ls (.long (x &&& z) :: st) hp cl sl) : gG X pc ls (.long z :: .long x :: st) hp cl sl := by
  subst hq; exact fun arr H locs hl hh hS => lv_land C.1 C.2.1 hd (k arr H locs hl hh hS)
theorem g_lor (C : gC X own nm cc nL rm) {x z : Int64} (hd : decode cc pc = .ok (.lor, 1)) (hq : pc + 1 = q) (k : gG X q ls (.long (x ||| z) :: st) hp cl sl) : gG X pc ls (.long z :: .long x :: st) hp cl sl := by
  subst hq; exact fun arr H locs hl hh hS => lv_lor C.1 C.2.1 hd (k arr H locs hl hh hS)
theorem g_lcmp (C : gC X own nm cc nL rm) {x z : Int64} (hd : decode cc pc = .ok (.lcmp, 1)) (hq : pc + 1 = q) (k : gG X q ls (.int (lg_cmp x z) :: st) hp cl sl) : gG X pc ls (.long z :: .long x :: st) hp cl sl := by
  subst hq; exact fun arr H locs hl hh hS => W.lcmp C.1 C.2.1 hd (k arr H locs hl hh hS)
theorem gv_cat (b0 : Nat) (sa : Nat → Nat) (v : Value) : (gv b0 sa v).category = v.category := by cases v <;> rfl
theorem g_dup (C : gC X own nm cc nL rm) {v : Value} (hd : decode cc pc = .ok (.dup, 1)) (hv : v.category = 1) (hq : pc + 1 = q) (k : gG X q ls (v :: v :: st) hp cl sl) : gG X pc ls (v :: st) hp cl sl := by
  subst hq; exact fun arr H locs hl hh hS => lv_dup C.1 C.2.1 hd (by rw [gv_cat]; exact hv) (k arr H locs hl hh hS)
theorem g_pop (C : gC X own nm cc nL rm) {v : Value} (hd : decode cc pc = .ok (.pop, 1)) (hv : v.category = 1) (hq : pc + 1 = q) (k : gG X q ls (st) hp cl sl) : gG X pc ls (v :: st) hp cl sl := by
  subst hq; exact fun arr H locs hl hh hS => lv_pop C.1 C.2.1 hd (by rw [gv_cat]; exact hv) (k arr H locs hl hh hS)
theorem g_dup_x1 (C : gC X own nm cc nL rm) {v v2 : Value} (hd : decode cc pc = .ok (.dup_x1, 1)) (hv : v.category = 1) (hv2 : v2.category = 1) (hq : pc + 1 = q) (k : gG X q ls (v :: v2 :: v :: st) hp cl sl) : gG X pc ls (v :: v2 :: st) hp cl sl := by
  subst hq; exact fun arr H locs hl hh hS => lv_dup_x1 C.1 C.2.1 hd (by rw [gv_cat]; exact hv) (by rw [gv_cat]; exact hv2) (k arr H locs hl hh hS)
theorem g_dup2 (C : gC X own nm cc nL rm) {v v2 : Value} (hd : decode cc pc = .ok (.dup2, 1)) (hv : v.category = 1) (hv2 : v2.category = 1) (hq : pc + 1 = q) (k : gG X q ls (v :: v2 :: v :: v2 :: st) hp cl sl) : gG X pc ls (v :: v2 :: st) hp cl sl := by
  subst hq; exact fun arr H locs hl hh hS => lv_dup2_11 C.1 C.2.1 hd (by rw [gv_cat]; exact hv) (by rw [gv_cat]; exact hv2) (k arr H locs hl hh hS)
theorem g_goto (C : gC X own nm cc nL rm) {off : Int} (hd : decode cc pc = .ok (.goto off, 3)) (ht : (pc : Int) + off = (q : Int)) (k : gG X q ls st hp cl sl) : gG X pc ls st hp cl sl :=
  fun arr H locs hl hh hS => lv_goto C.1 C.2.1 hd ht (k arr H locs hl hh hS)
theorem g_if_eq (C : gC X own nm cc nL rm) {x : Int32} {off : Int} {t : Nat} (hd : decode cc pc = .ok (.ifCond .eq off, 3)) (ht : (pc : Int) + off = (t : Int)) (hq : pc + 3 = q) (kt : x = 0 → gG X t ls st hp cl sl) (kf : ¬ x = 0 → gG X q ls st hp cl sl) : gG X pc ls (.int x :: st) hp cl sl := by
  subst hq; exact fun arr H locs hl hh hS => lv_if_eq C.1 C.2.1 hd ht (fun h => kt h arr H locs hl hh hS) (fun h => kf h arr H locs hl hh hS)
theorem g_if_eq_t (C : gC X own nm cc nL rm) {x : Int32} {off : Int} {t : Nat} (hd : decode cc pc = .ok (.ifCond .eq off, 3)) (ht : (pc : Int) + off = (t : Int)) (h : x = 0) (kt : gG X t ls st hp cl sl) : gG X pc ls (.int x :: st) hp cl sl := g_if_eq C hd ht rfl (fun _ => kt) (fun h9 => absurd (h) (h9))
theorem g_if_eq_f (C : gC X own nm cc nL rm) {x : Int32} {off : Int} {t : Nat} (hd : decode cc pc = .ok (.ifCond .eq off, 3)) (ht : (pc : Int) + off = (t : Int)) (hq : pc + 3 = q) (h : ¬ x = 0) (kf : gG X q ls st hp cl sl) : gG X pc ls (.int x :: st) hp cl sl := g_if_eq C hd ht hq (fun h9 => absurd (h9) (h)) (fun _ => kf)
theorem g_icmp_eq (C : gC X own nm cc nL rm) {x z : Int32} {off : Int} {t : Nat} (hd : decode cc pc = .ok (.if_icmp .eq off, 3)) (ht : (pc : Int) + off = (t : Int)) (hq : pc + 3 = q) (kt : x = z → gG X t ls st hp cl sl) (kf : ¬ x = z → gG X q ls st hp cl sl) : gG X pc ls (.int z :: .int x :: st) hp cl sl := by
  subst hq; exact fun arr H locs hl hh hS => lv_icmp_eq C.1 C.2.1 hd ht (fun h => kt h arr H locs hl hh hS) (fun h => kf h arr H locs hl hh hS)
theorem g_icmp_eq_t (C : gC X own nm cc nL rm) {x z : Int32} {off : Int} {t : Nat} (hd : decode cc pc = .ok (.if_icmp .eq off, 3)) (ht : (pc : Int) + off = (t : Int)) (h : x = z) (kt : gG X t ls st hp cl sl) : gG X pc ls (.int z :: .int x :: st) hp cl sl := g_icmp_eq C hd ht rfl (fun _ => kt) (fun h9 => absurd (h) (h9))
theorem g_icmp_eq_f (C : gC X own nm cc nL rm) {x z : Int32} {off : Int} {t : Nat} (hd : decode cc pc = .ok (.if_icmp .eq off, 3)) (ht : (pc : Int) + off = (t : Int)) (hq : pc + 3 = q) (h : ¬ x = z) (kf : gG X q ls st hp cl sl) : gG X pc ls (.int z :: .int x :: st) hp cl sl := g_icmp_eq C hd ht hq (fun h9 => absurd (h9) (h)) (fun _ => kf)
theorem g_if_ne (C : gC X own nm cc nL rm) {x : Int32} {off : Int} {t : Nat} (hd : decode cc pc = .ok (.ifCond .ne off, 3)) (ht : (pc : Int) + off = (t : Int)) (hq : pc + 3 = q) (kt : ¬ x = 0 → gG X t ls st hp cl sl) (kf : x = 0 → gG X q ls st hp cl sl) : gG X pc ls (.int x :: st) hp cl sl := by
  subst hq; exact fun arr H locs hl hh hS => lv_if_ne C.1 C.2.1 hd ht (fun h => kt h arr H locs hl hh hS) (fun h => kf h arr H locs hl hh hS)
theorem g_if_ne_t (C : gC X own nm cc nL rm) {x : Int32} {off : Int} {t : Nat} (hd : decode cc pc = .ok (.ifCond .ne off, 3)) (ht : (pc : Int) + off = (t : Int)) (h : ¬ x = 0) (kt : gG X t ls st hp cl sl) : gG X pc ls (.int x :: st) hp cl sl := g_if_ne C hd ht rfl (fun _ => kt) (fun h9 => absurd (h9) (h))
theorem g_if_ne_f (C : gC X own nm cc nL rm) {x : Int32} {off : Int} {t : Nat} (hd : decode cc pc = .ok (.ifCond .ne off, 3)) (ht : (pc : Int) + off = (t : Int)) (hq : pc + 3 = q) (h : x = 0) (kf : gG X q ls st hp cl sl) : gG X pc ls (.int x :: st) hp cl sl := g_if_ne C hd ht hq (fun h9 => absurd (h) (h9)) (fun _ => kf)
theorem g_icmp_ne (C : gC X own nm cc nL rm) {x z : Int32} {off : Int} {t : Nat} (hd : decode cc pc = .ok (.if_icmp .ne off, 3)) (ht : (pc : Int) + off = (t : Int)) (hq : pc + 3 = q) (kt : ¬ x = z → gG X t ls st hp cl sl) (kf : x = z → gG X q ls st hp cl sl) : gG X pc ls (.int z :: .int x :: st) hp cl sl := by
  subst hq; exact fun arr H locs hl hh hS => lv_icmp_ne C.1 C.2.1 hd ht (fun h => kt h arr H locs hl hh hS) (fun h => kf h arr H locs hl hh hS)
theorem g_icmp_ne_t (C : gC X own nm cc nL rm) {x z : Int32} {off : Int} {t : Nat} (hd : decode cc pc = .ok (.if_icmp .ne off, 3)) (ht : (pc : Int) + off = (t : Int)) (h : ¬ x = z) (kt : gG X t ls st hp cl sl) : gG X pc ls (.int z :: .int x :: st) hp cl sl := g_icmp_ne C hd ht rfl (fun _ => kt) (fun h9 => absurd (h9) (h))
theorem g_icmp_ne_f (C : gC X own nm cc nL rm) {x z : Int32} {off : Int} {t : Nat} (hd : decode cc pc = .ok (.if_icmp .ne off, 3)) (ht : (pc : Int) + off = (t : Int)) (hq : pc + 3 = q) (h : x = z) (kf : gG X q ls st hp cl sl) : gG X pc ls (.int z :: .int x :: st) hp cl sl := g_icmp_ne C hd ht hq (fun h9 => absurd (h) (h9)) (fun _ => kf)
theorem g_if_lt (C : gC X own nm cc nL rm) {x : Int32} {off : Int} {t : Nat} (hd : decode cc pc = .ok (.ifCond .lt off, 3)) (ht : (pc : Int) + off = (t : Int)) (hq : pc + 3 = q) (kt : x < 0 → gG X t ls st hp cl sl) (kf : ¬ x < 0 → gG X q ls st hp cl sl) : gG X pc ls (.int x :: st) hp cl sl := by
  subst hq; exact fun arr H locs hl hh hS => lv_if_lt C.1 C.2.1 hd ht (fun h => kt h arr H locs hl hh hS) (fun h => kf h arr H locs hl hh hS)
theorem g_if_lt_t (C : gC X own nm cc nL rm) {x : Int32} {off : Int} {t : Nat} (hd : decode cc pc = .ok (.ifCond .lt off, 3)) (ht : (pc : Int) + off = (t : Int)) (h : x < 0) (kt : gG X t ls st hp cl sl) : gG X pc ls (.int x :: st) hp cl sl := g_if_lt C hd ht rfl (fun _ => kt) (fun h9 => absurd (h) (h9))
theorem g_if_lt_f (C : gC X own nm cc nL rm) {x : Int32} {off : Int} {t : Nat} (hd : decode cc pc = .ok (.ifCond .lt off, 3)) (ht : (pc : Int) + off = (t : Int)) (hq : pc + 3 = q) (h : ¬ x < 0) (kf : gG X q ls st hp cl sl) : gG X pc ls (.int x :: st) hp cl sl := g_if_lt C hd ht hq (fun h9 => absurd (h9) (h)) (fun _ => kf)
theorem g_icmp_lt (C : gC X own nm cc nL rm) {x z : Int32} {off : Int} {t : Nat} (hd : decode cc pc = .ok (.if_icmp .lt off, 3)) (ht : (pc : Int) + off = (t : Int)) (hq : pc + 3 = q) (kt : x < z → gG X t ls st hp cl sl) (kf : ¬ x < z → gG X q ls st hp cl sl) : gG X pc ls (.int z :: .int x :: st) hp cl sl := by
  subst hq; exact fun arr H locs hl hh hS => lv_icmp_lt C.1 C.2.1 hd ht (fun h => kt h arr H locs hl hh hS) (fun h => kf h arr H locs hl hh hS)
theorem g_icmp_lt_t (C : gC X own nm cc nL rm) {x z : Int32} {off : Int} {t : Nat} (hd : decode cc pc = .ok (.if_icmp .lt off, 3)) (ht : (pc : Int) + off = (t : Int)) (h : x < z) (kt : gG X t ls st hp cl sl) : gG X pc ls (.int z :: .int x :: st) hp cl sl := g_icmp_lt C hd ht rfl (fun _ => kt) (fun h9 => absurd (h) (h9))
theorem g_icmp_lt_f (C : gC X own nm cc nL rm) {x z : Int32} {off : Int} {t : Nat} (hd : decode cc pc = .ok (.if_icmp .lt off, 3)) (ht : (pc : Int) + off = (t : Int)) (hq : pc + 3 = q) (h : ¬ x < z) (kf : gG X q ls st hp cl sl) : gG X pc ls (.int z :: .int x :: st) hp cl sl := g_icmp_lt C hd ht hq (fun h9 => absurd (h9) (h)) (fun _ => kf)
theorem g_if_ge (C : gC X own nm cc nL rm) {x : Int32} {off : Int} {t : Nat} (hd : decode cc pc = .ok (.ifCond .ge off, 3)) (ht : (pc : Int) + off = (t : Int)) (hq : pc + 3 = q) (kt : 0 ≤ x → gG X t ls st hp cl sl) (kf : ¬ 0 ≤ x → gG X q ls st hp cl sl) : gG X pc ls (.int x :: st) hp cl sl := by
  subst hq; exact fun arr H locs hl hh hS => lv_if_ge C.1 C.2.1 hd ht (fun h => kt h arr H locs hl hh hS) (fun h => kf h arr H locs hl hh hS)
theorem g_if_ge_t (C : gC X own nm cc nL rm) {x : Int32} {off : Int} {t : Nat} (hd : decode cc pc = .ok (.ifCond .ge off, 3)) (ht : (pc : Int) + off = (t : Int)) (h : 0 ≤ x) (kt : gG X t ls st hp cl sl) : gG X pc ls (.int x :: st) hp cl sl := g_if_ge C hd ht rfl (fun _ => kt) (fun h9 => absurd (h) (h9))
theorem g_if_ge_f (C : gC X own nm cc nL rm) {x : Int32} {off : Int} {t : Nat} (hd : decode cc pc = .ok (.ifCond .ge off, 3)) (ht : (pc : Int) + off = (t : Int)) (hq : pc + 3 = q) (h : ¬ 0 ≤ x) (kf : gG X q ls st hp cl sl) : gG X pc ls (.int x :: st) hp cl sl := g_if_ge C hd ht hq (fun h9 => absurd (h9) (h)) (fun _ => kf)
theorem g_icmp_ge (C : gC X own nm cc nL rm) {x z : Int32} {off : Int} {t : Nat} (hd : decode cc pc = .ok (.if_icmp .ge off, 3)) (ht : (pc : Int) + off = (t : Int)) (hq : pc + 3 = q) (kt : z ≤ x → gG X t ls st hp cl sl) (kf : ¬ z ≤ x → gG X q ls st hp cl sl) : gG X pc ls (.int z :: .int x :: st) hp cl sl := by
  subst hq; exact fun arr H locs hl hh hS => lv_icmp_ge C.1 C.2.1 hd ht (fun h => kt h arr H locs hl hh hS) (fun h => kf h arr H locs hl hh hS)
theorem g_icmp_ge_t (C : gC X own nm cc nL rm) {x z : Int32} {off : Int} {t : Nat} (hd : decode cc pc = .ok (.if_icmp .ge off, 3)) (ht : (pc : Int) + off = (t : Int)) (h : z ≤ x) (kt : gG X t ls st hp cl sl) : gG X pc ls (.int z :: .int x :: st) hp cl sl := g_icmp_ge C hd ht rfl (fun _ => kt) (fun h9 => absurd (h) (h9))
theorem g_icmp_ge_f (C : gC X own nm cc nL rm) {x z : Int32} {off : Int} {t : Nat} (hd : decode cc pc = .ok (.if_icmp .ge off, 3)) (ht : (pc : Int) + off = (t : Int)) (hq : pc + 3 = q) (h : ¬ z ≤ x) (kf : gG X q ls st hp cl sl) : gG X pc ls (.int z :: .int x :: st) hp cl sl := g_icmp_ge C hd ht hq (fun h9 => absurd (h9) (h)) (fun _ => kf)
theorem g_if_gt (C : gC X own nm cc nL rm) {x : Int32} {off : Int} {t : Nat} (hd : decode cc pc = .ok (.ifCond .gt off, 3)) (ht : (pc : Int) + off = (t : Int)) (hq : pc + 3 = q) (kt : 0 < x → gG X t ls st hp cl sl) (kf : ¬ 0 < x → gG X q ls st hp cl sl) : gG X pc ls (.int x :: st) hp cl sl := by
  subst hq; exact fun arr H locs hl hh hS => lv_if_gt C.1 C.2.1 hd ht (fun h => kt h arr H locs hl hh hS) (fun h => kf h arr H locs hl hh hS)
theorem g_if_gt_t (C : gC X own nm cc nL rm) {x : Int32} {off : Int} {t : Nat} (hd : decode cc pc = .ok (.ifCond .gt off, 3)) (ht : (pc : Int) + off = (t : Int)) (h : 0 < x) (kt : gG X t ls st hp cl sl) : gG X pc ls (.int x :: st) hp cl sl := g_if_gt C hd ht rfl (fun _ => kt) (fun h9 => absurd (h) (h9))
theorem g_if_gt_f (C : gC X own nm cc nL rm) {x : Int32} {off : Int} {t : Nat} (hd : decode cc pc = .ok (.ifCond .gt off, 3)) (ht : (pc : Int) + off = (t : Int)) (hq : pc + 3 = q) (h : ¬ 0 < x) (kf : gG X q ls st hp cl sl) : gG X pc ls (.int x :: st) hp cl sl := g_if_gt C hd ht hq (fun h9 => absurd (h9) (h)) (fun _ => kf)
theorem g_icmp_gt (C : gC X own nm cc nL rm) {x z : Int32} {off : Int} {t : Nat} (hd : decode cc pc = .ok (.if_icmp .gt off, 3)) (ht : (pc : Int) + off = (t : Int)) (hq : pc + 3 = q) (kt : z < x → gG X t ls st hp cl sl) (kf : ¬ z < x → gG X q ls st hp cl sl) : gG X pc ls (.int z :: .int x :: st) hp cl sl := by
  subst hq; exact fun arr H locs hl hh hS => lv_icmp_gt C.1 C.2.1 hd ht (fun h => kt h arr H locs hl hh hS) (fun h => kf h arr H locs hl hh hS)
theorem g_icmp_gt_t (C : gC X own nm cc nL rm) {x z : Int32} {off : Int} {t : Nat} (hd : decode cc pc = .ok (.if_icmp .gt off, 3)) (ht : (pc : Int) + off = (t : Int)) (h : z < x) (kt : gG X t ls st hp cl sl) : gG X pc ls (.int z :: .int x :: st) hp cl sl := g_icmp_gt C hd ht rfl (fun _ => kt) (fun h9 => absurd (h) (h9))
theorem g_icmp_gt_f (C : gC X own nm cc nL rm) {x z : Int32} {off : Int} {t : Nat} (hd : decode cc pc = .ok (.if_icmp .gt off, 3)) (ht : (pc : Int) + off = (t : Int)) (hq : pc + 3 = q) (h : ¬ z < x) (kf : gG X q ls st hp cl sl) : gG X pc ls (.int z :: .int x :: st) hp cl sl := g_icmp_gt C hd ht hq (fun h9 => absurd (h9) (h)) (fun _ => kf)
theorem g_if_le (C : gC X own nm cc nL rm) {x : Int32} {off : Int} {t : Nat} (hd : decode cc pc = .ok (.ifCond .le off, 3)) (ht : (pc : Int) + off = (t : Int)) (hq : pc + 3 = q) (kt : x ≤ 0 → gG X t ls st hp cl sl) (kf : ¬ x ≤ 0 → gG X q ls st hp cl sl) : gG X pc ls (.int x :: st) hp cl sl := by
  subst hq; exact fun arr H locs hl hh hS => lv_if_le C.1 C.2.1 hd ht (fun h => kt h arr H locs hl hh hS) (fun h => kf h arr H locs hl hh hS)
theorem g_if_le_t (C : gC X own nm cc nL rm) {x : Int32} {off : Int} {t : Nat} (hd : decode cc pc = .ok (.ifCond .le off, 3)) (ht : (pc : Int) + off = (t : Int)) (h : x ≤ 0) (kt : gG X t ls st hp cl sl) : gG X pc ls (.int x :: st) hp cl sl := g_if_le C hd ht rfl (fun _ => kt) (fun h9 => absurd (h) (h9))
theorem g_if_le_f (C : gC X own nm cc nL rm) {x : Int32} {off : Int} {t : Nat} (hd : decode cc pc = .ok (.ifCond .le off, 3)) (ht : (pc : Int) + off = (t : Int)) (hq : pc + 3 = q) (h : ¬ x ≤ 0) (kf : gG X q ls st hp cl sl) : gG X pc ls (.int x :: st) hp cl sl := g_if_le C hd ht hq (fun h9 => absurd (h9) (h)) (fun _ => kf)
theorem g_icmp_le (C : gC X own nm cc nL rm) {x z : Int32} {off : Int} {t : Nat} (hd : decode cc pc = .ok (.if_icmp .le off, 3)) (ht : (pc : Int) + off = (t : Int)) (hq : pc + 3 = q) (kt : x ≤ z → gG X t ls st hp cl sl) (kf : ¬ x ≤ z → gG X q ls st hp cl sl) : gG X pc ls (.int z :: .int x :: st) hp cl sl := by
  subst hq; exact fun arr H locs hl hh hS => lv_icmp_le C.1 C.2.1 hd ht (fun h => kt h arr H locs hl hh hS) (fun h => kf h arr H locs hl hh hS)
theorem g_icmp_le_t (C : gC X own nm cc nL rm) {x z : Int32} {off : Int} {t : Nat} (hd : decode cc pc = .ok (.if_icmp .le off, 3)) (ht : (pc : Int) + off = (t : Int)) (h : x ≤ z) (kt : gG X t ls st hp cl sl) : gG X pc ls (.int z :: .int x :: st) hp cl sl := g_icmp_le C hd ht rfl (fun _ => kt) (fun h9 => absurd (h) (h9))
theorem g_icmp_le_f (C : gC X own nm cc nL rm) {x z : Int32} {off : Int} {t : Nat} (hd : decode cc pc = .ok (.if_icmp .le off, 3)) (ht : (pc : Int) + off = (t : Int)) (hq : pc + 3 = q) (h : ¬ x ≤ z) (kf : gG X q ls st hp cl sl) : gG X pc ls (.int z :: .int x :: st) hp cl sl := g_icmp_le C hd ht hq (fun h9 => absurd (h9) (h)) (fun _ => kf)
theorem g_sld (C : gC X own nm cc nL rm) {j : UInt32} {L : Nat} {f : Nat → Int32} {i : Int32} (hX : va_X (xA X j.toNat) L f (xs X) (xs X).heap) (hbl : xA X j.toNat < (xs X).heap.size) (hb0 : ¬ xB X ≤ xA X j.toNat) (hd : decode cc pc = .ok (.iaload, 1)) (hq : pc + 1 = q) (hi : vp_in i L) (k : gG X q ls (.int (f i.toNatClampNeg) :: st) hp cl sl) : gG X pc ls (.int i :: .float j :: st) hp cl sl := by
  subst hq; exact fun arr H locs hl hh hS => va_sld C.1 C.2.1 hX hbl hb0 hS hi hd (k arr H locs hl hh hS)
theorem g_slen (C : gC X own nm cc nL rm) {j : UInt32} {L : Nat} {f : Nat → Int32} (hX : va_X (xA X j.toNat) L f (xs X) (xs X).heap) (hbl : xA X j.toNat < (xs X).heap.size) (hb0 : ¬ xB X ≤ xA X j.toNat) (hd : decode cc pc = .ok (.arraylength, 1)) (hq : pc + 1 = q) (k : gG X q ls (.int (nI L) :: st) hp cl sl) : gG X pc ls (.float j :: st) hp cl sl := by
  subst hq; exact fun arr H locs hl hh hS => va_slen C.1 C.2.1 hX hbl hb0 hS hd (k arr H locs hl hh hS)
theorem g_tableOut (C : gC X own nm cc nL rm) {dflt lo hi : Int} {offs : Array Int} {len : Nat} {x : Int32} {t : Nat} (hd : decode cc pc = .ok (.tableswitch dflt lo hi offs, len)) (h : x.toInt < lo ∨ hi < x.toInt) (ht : (pc : Int) + dflt = (t : Int)) (k : gG X t ls st hp cl sl) : gG X pc ls (.int x :: st) hp cl sl :=
  fun arr H locs hl hh hS => lv_tableOut C.1 C.2.1 hd h ht (k arr H locs hl hh hS)
theorem g_tableIn (C : gC X own nm cc nL rm) {dflt lo hi : Int} {offs : Array Int} {len : Nat} {x : Int32} {off : Int} {t : Nat} (hd : decode cc pc = .ok (.tableswitch dflt lo hi offs, len)) (h1 : ¬ x.toInt < lo) (h2 : ¬ hi < x.toInt) (ho : offs[(x.toInt - lo).toNat]? = some off) (ht : (pc : Int) + off = (t : Int)) (k : gG X t ls st hp cl sl) : gG X pc ls (.int x :: st) hp cl sl :=
  fun arr H locs hl hh hS => lv_tableIn C.1 C.2.1 hd h1 h2 ho ht (k arr H locs hl hh hS)
theorem g_ifnull (C : gC X own nm cc nL rm) {k0 : Nat} {off : Int} (hd : decode cc pc = .ok (.ifnull off, 3)) (hq : pc + 3 = q) (k : gG X q ls st hp cl sl) : gG X pc ls (.ref k0 :: st) hp cl sl := by
  subst hq; exact fun arr H locs hl hh hS => lv_ifnull C.1 C.2.1 hd (k arr H locs hl hh hS)
theorem g_ifnullN (C : gC X own nm cc nL rm) {off : Int} {t : Nat} (hd : decode cc pc = .ok (.ifnull off, 3)) (ht : (pc : Int) + off = (t : Int)) (k : gG X t ls st hp cl sl) : gG X pc ls (.null :: st) hp cl sl :=
  fun arr H locs hl hh hS => lv_ifnullN C.1 C.2.1 hd ht (k arr H locs hl hh hS)
theorem g_acmp_ne (C : gC X own nm cc nL rm) {a1 a2 : Nat} {off : Int} {t : Nat} (hd : decode cc pc = .ok (.if_acmp .ne off, 3)) (ht : (pc : Int) + off = (t : Int)) (hq : pc + 3 = q) (kt : ¬ a1 = a2 → gG X t ls st hp cl sl) (kf : a1 = a2 → gG X q ls st hp cl sl) : gG X pc ls (.ref a2 :: .ref a1 :: st) hp cl sl := by
  subst hq
  intro arr H locs hl hh hS
  exact lv_acmp_ne (rx := some (xB X + a1)) (ry := some (xB X + a2)) C.1 C.2.1 hd ht (fun h => kt (fun h2 => h (by rw [h2])) arr H locs hl hh hS) (fun h => kf (Nat.add_left_cancel (Option.some.inj h)) arr H locs hl hh hS)
theorem g_weaken {cl' sl' : Nat} (h1 : cl ≤ cl') (h2 : sl ≤ sl') (k : gG X pc ls st hp cl' sl') : gG X pc ls st hp cl sl :=
  fun arr H locs hl hh hS => W.widen h1 h2 (k arr H locs hl hh hS)
/-- locals forgotten -/
theorem g_forget {ls' : List (Option Value)} (hn : ls'.length = ls.length) (h : ∀ (i : Nat) (v : Value), ls'[i]? = some (some v) → ls[i]? = some (some v)) (k : gG X pc ls' st hp cl sl) : gG X pc ls st hp cl sl :=
  fun arr H locs hl hh hS => k arr H locs ⟨hl.1.trans hn.symm, hl.2.1, fun i v hv => hl.2.2 i v (h i v hv)⟩ hh hS
/-! locals -/
theorem gL_at {b0 : Nat} {sa : Nat → Nat} {arr : Array Slot} {v : Value} {i : Nat} (h : gL b0 sa arr ls) (hi : ls[i]? = some (some v)) : arr[i]? = some (.val (gv b0 sa v)) := h.2.2 i v hi
/-- the pairs of a row of locals -/
def gP (b0 : Nat) (sa : Nat → Nat) (ls : List (Option Value)) : List (Nat × Value) := (List.range ls.length).filterMap fun i => (ls[i]?.join).map fun v => (i, gv b0 sa v)
theorem gP_mem {b0 : Nat} {sa : Nat → Nat} {ls : List (Option Value)} {z : Nat × Value} : z ∈ gP b0 sa ls ↔ ∃ v, ls[z.1]? = some (some v) ∧ z.2 = gv b0 sa v := by
  unfold gP
  rw [List.mem_filterMap]
  constructor
  · rintro ⟨i, hi, h⟩
    cases h1 : ls[i]? with
    | none => rw [h1] at h; simp at h
    | some o =>
      cases o with
      | none => rw [h1] at h; simp at h
      | some v =>
        rw [h1] at h
        simp at h
        subst h
        exact ⟨v, h1, rfl⟩
  · rintro ⟨v, h1, h2⟩
    obtain ⟨i, u⟩ := z
    dsimp only at h1 h2
    subst h2
    have hlt : i < ls.length := (List.getElem?_eq_some_iff.mp h1).1
    exact ⟨i, List.mem_range.mpr hlt, by rw [h1]; rfl⟩
theorem gL_has {b0 : Nat} {sa : Nat → Nat} {arr : Array Slot} (h : gL b0 sa arr ls) : lv_has arr ls.length (gP b0 sa ls) := by
  refine ⟨h.1, h.2.1, fun z hz => ?_⟩
  obtain ⟨v, h1, h2⟩ := gP_mem.mp hz
  rw [h2]
  exact h.2.2 _ _ h1
/-- what a store leaves: ls' agrees with ls but at i, and a long that ended at i is gone -/
def gSt (ls ls' : List (Option Value)) (i : Nat) (v : Value) : Prop :=
  i < ls.length ∧ ls'.length = ls.length ∧ ∀ (j : Nat) (u : Value), ls'[j]? = some (some u) → (j = i ∧ u = v) ∨ (j ≠ i ∧ ls[j]? = some (some u) ∧ ¬ (j + 1 = i ∧ u.category = 2))
theorem gL_store {b0 : Nat} {sa : Nat → Nat} {arr' : Array Slot} {ls' : List (Option Value)} {i : Nat} {v : Value} (hs : gSt ls ls' i v) (h : lv_has arr' ls.length ((i, gv b0 sa v) :: (gP b0 sa ls).filter (fun q => !(q.1 == i) && !(q.1 + 1 == i && q.2.category == 2)))) : gL b0 sa arr' ls' := by
  obtain ⟨h1, h2, h3⟩ := h
  refine ⟨h1.trans hs.2.1.symm, h2, fun j u hu => ?_⟩
  rcases hs.2.2 j u hu with ⟨rfl, rfl⟩ | ⟨hne, hl, hk⟩
  · exact h3 _ List.mem_cons_self
  · refine h3 (j, gv b0 sa u) (List.mem_cons_of_mem _ (List.mem_filter.mpr ⟨gP_mem.mpr ⟨u, hl, rfl⟩, ?_⟩))
    simp only [gv_cat]
    simp only [Bool.and_eq_true, Bool.not_eq_true', beq_eq_false_iff_ne, ne_eq, Bool.and_eq_false_iff]
    refine ⟨hne, ?_⟩
    by_cases hj : j + 1 = i
    · exact Or.inr (fun hc => hk ⟨hj, hc⟩)
    · exact Or.inl hj
/-- likewise, of a long -/
def gSt2 (ls ls' : List (Option Value)) (i : Nat) (v : Value) : Prop :=
  i + 1 < ls.length ∧ ls'.length = ls.length ∧ ∀ (j : Nat) (u : Value), ls'[j]? = some (some u) → (j = i ∧ u = v) ∨ (j ≠ i ∧ j ≠ i + 1 ∧ ls[j]? = some (some u) ∧ ¬ (j + 1 = i ∧ u.category = 2))
theorem gL_store2 {b0 : Nat} {sa : Nat → Nat} {arr' : Array Slot} {ls' : List (Option Value)} {i : Nat} {v : Value} (hs : gSt2 ls ls' i v) (h : lv_has arr' ls.length ((i, gv b0 sa v) :: (gP b0 sa ls).filter (fun q => !(q.1 == i) && (!(q.1 == i + 1) && !(q.1 + 1 == i && q.2.category == 2))))) : gL b0 sa arr' ls' := by
  obtain ⟨h1, h2, h3⟩ := h
  refine ⟨h1.trans hs.2.1.symm, h2, fun j u hu => ?_⟩
  rcases hs.2.2 j u hu with ⟨rfl, rfl⟩ | ⟨hne, hne2, hl, hk⟩
  · exact h3 _ List.mem_cons_self
  · refine h3 (j, gv b0 sa u) (List.mem_cons_of_mem _ (List.mem_filter.mpr ⟨gP_mem.mpr ⟨u, hl, rfl⟩, ?_⟩))
    simp only [gv_cat]
    simp only [Bool.and_eq_true, Bool.not_eq_true', beq_eq_false_iff_ne, ne_eq, Bool.and_eq_false_iff]
    refine ⟨hne, hne2, ?_⟩
    by_cases hj : j + 1 = i
    · exact Or.inr (fun hc => hk ⟨hj, hc⟩)
    · exact Or.inl hj
/-- the store, by computing -/
def gset : List (Option Value) → Nat → Value → List (Option Value)
  | [], _, _ => []
  | _ :: t, 0, v => some v :: t
  | o :: t, 1, v => (match o with | some (.long _) => none | some (.double _) => none | z => z) :: gset t 0 v
  | o :: t, i + 2, v => o :: gset t (i + 1) v
theorem gset_len : ∀ (ls : List (Option Value)) (i : Nat) (v : Value), (gset ls i v).length = ls.length
  | [], _, _ => rfl
  | _ :: t, 0, v => rfl
  | o :: t, 1, v => by simp [gset, gset_len t 0 v]
  | o :: t, i + 2, v => by simp [gset, gset_len t (i + 1) v]
theorem gset_at : ∀ (ls : List (Option Value)) (i : Nat) (v : Value) (j : Nat) (u : Value), (gset ls i v)[j]? = some (some u) → (j = i ∧ u = v) ∨ (j ≠ i ∧ ls[j]? = some (some u) ∧ ¬ (j + 1 = i ∧ u.category = 2))
  | [], _, _, j, u, h => by simp [gset] at h
  | o :: t, 0, v, 0, u, h => by
    simp [gset] at h
    exact Or.inl ⟨rfl, h.symm⟩
  | o :: t, 0, v, j + 1, u, h => by
    simp [gset] at h
    exact Or.inr ⟨by omega, by simpa using h, by omega⟩
  | o :: t, 1, v, 0, u, h => by
    refine Or.inr ⟨by omega, ?_⟩
    cases o with
    | none => simp [gset] at h
    | some z => cases z <;> simp [gset] at h <;> (subst h; simp [Value.category])
  | o :: t, 1, v, j + 1, u, h => by
    have h2 : (gset t 0 v)[j]? = some (some u) := by simpa [gset] using h
    rcases gset_at t 0 v j u h2 with ⟨a, b⟩ | ⟨a, b, c9⟩
    · exact Or.inl ⟨by omega, b⟩
    · exact Or.inr ⟨by omega, by simpa using b, by omega⟩
  | o :: t, i + 2, v, 0, u, h => by
    simp [gset] at h
    exact Or.inr ⟨by omega, by simpa using h, by omega⟩
  | o :: t, i + 2, v, j + 1, u, h => by
    have h2 : (gset t (i + 1) v)[j]? = some (some u) := by simpa [gset] using h
    rcases gset_at t (i + 1) v j u h2 with ⟨a, b⟩ | ⟨a, b, c9⟩
    · exact Or.inl ⟨by omega, b⟩
    · exact Or.inr ⟨by omega, by simpa using b, fun hh => c9 ⟨by omega, hh.2⟩⟩
theorem gset_st {ls : List (Option Value)} {i : Nat} {v : Value} (h : i < ls.length) : gSt ls (gset ls i v) i v := ⟨h, gset_len ls i v, gset_at ls i v⟩
theorem gset2_st {ls : List (Option Value)} {i : Nat} {v : Value} (h : i + 1 < ls.length) : gSt2 ls ((gset ls i v).set (i + 1) none) i v := by
  refine ⟨h, by rw [List.length_set, gset_len], fun j u hu => ?_⟩
  by_cases hj : j = i + 1
  · subst hj
    rw [List.getElem?_set_self (by rw [gset_len]; exact h)] at hu
    cases hu
  · rw [List.getElem?_set_ne (Ne.symm hj)] at hu
    rcases gset_at ls i v j u hu with a | ⟨a, b, c9⟩
    · exact Or.inl a
    · exact Or.inr ⟨a, hj, b, c9⟩

theorem g_iload (C : gC X own nm cc nL rm) {i : Nat} {x : Int32} (hd : decode cc pc = .ok (.iload i, 2)) (hl0 : ls[i]? = some (some (.int x))) (hq : pc + 2 = q) (k : gG X q ls (.int x :: st) hp cl sl) : gG X pc ls st hp cl sl := by
  subst hq; exact fun arr H locs hl hh hS => lv_iload C.1 C.2.1 hd (gL_at hl hl0) (k arr H locs hl hh hS)
theorem g_iload_n (C : gC X own nm cc nL rm) {i : Fin 4} {x : Int32} (hd : decode cc pc = .ok (.iload_n i, 1)) (hl0 : ls[i.val]? = some (some (.int x))) (hq : pc + 1 = q) (k : gG X q ls (.int x :: st) hp cl sl) : gG X pc ls st hp cl sl := by
  subst hq; exact fun arr H locs hl hh hS => lv_iload_n C.1 C.2.1 hd rfl (gL_at hl hl0) (k arr H locs hl hh hS)
theorem g_lload (C : gC X own nm cc nL rm) {i : Nat} {x : Int64} (hd : decode cc pc = .ok (.lload i, 2)) (hl0 : ls[i]? = some (some (.long x))) (hq : pc + 2 = q) (k : gG X q ls (.long x :: st) hp cl sl) : gG X pc ls st hp cl sl := by
  subst hq; exact fun arr H locs hl hh hS => lv_lload C.1 C.2.1 hd (gL_at hl hl0) (k arr H locs hl hh hS)
theorem g_lload_n (C : gC X own nm cc nL rm) {i : Fin 4} {x : Int64} (hd : decode cc pc = .ok (.lload_n i, 1)) (hl0 : ls[i.val]? = some (some (.long x))) (hq : pc + 1 = q) (k : gG X q ls (.long x :: st) hp cl sl) : gG X pc ls st hp cl sl := by
  subst hq; exact fun arr H locs hl hh hS => lv_lload_n C.1 C.2.1 hd rfl (gL_at hl hl0) (k arr H locs hl hh hS)
theorem g_aload (C : gC X own nm cc nL rm) {i : Nat} {x : Nat} (hd : decode cc pc = .ok (.aload i, 2)) (hl0 : ls[i]? = some (some (.ref x))) (hq : pc + 2 = q) (k : gG X q ls (.ref x :: st) hp cl sl) : gG X pc ls st hp cl sl := by
  subst hq; exact fun arr H locs hl hh hS => lv_aload C.1 C.2.1 hd (gL_at hl hl0) (k arr H locs hl hh hS)
theorem g_aload_n (C : gC X own nm cc nL rm) {i : Fin 4} {x : Nat} (hd : decode cc pc = .ok (.aload_n i, 1)) (hl0 : ls[i.val]? = some (some (.ref x))) (hq : pc + 1 = q) (k : gG X q ls (.ref x :: st) hp cl sl) : gG X pc ls st hp cl sl := by
  subst hq; exact fun arr H locs hl hh hS => lv_aload_n C.1 C.2.1 hd rfl (gL_at hl hl0) (k arr H locs hl hh hS)
theorem g_aloadS (C : gC X own nm cc nL rm) {i : Nat} {j : UInt32} (hd : decode cc pc = .ok (.aload i, 2)) (hl0 : ls[i]? = some (some (.float j))) (hq : pc + 2 = q) (k : gG X q ls (.float j :: st) hp cl sl) : gG X pc ls st hp cl sl := by
  subst hq; exact fun arr H locs hl hh hS => lv_aload C.1 C.2.1 hd (gL_at hl hl0) (k arr H locs hl hh hS)
theorem g_aloadS_n (C : gC X own nm cc nL rm) {i : Fin 4} {j : UInt32} (hd : decode cc pc = .ok (.aload_n i, 1)) (hl0 : ls[i.val]? = some (some (.float j))) (hq : pc + 1 = q) (k : gG X q ls (.float j :: st) hp cl sl) : gG X pc ls st hp cl sl := by
  subst hq; exact fun arr H locs hl hh hS => lv_aload_n C.1 C.2.1 hd rfl (gL_at hl hl0) (k arr H locs hl hh hS)
theorem g_aloadN (C : gC X own nm cc nL rm) {i : Nat}  (hd : decode cc pc = .ok (.aload i, 2)) (hl0 : ls[i]? = some (some (.null))) (hq : pc + 2 = q) (k : gG X q ls (.null :: st) hp cl sl) : gG X pc ls st hp cl sl := by
  subst hq; exact fun arr H locs hl hh hS => lv_aloadN C.1 C.2.1 hd (gL_at hl hl0) (k arr H locs hl hh hS)
theorem g_aloadN_n (C : gC X own nm cc nL rm) {i : Fin 4}  (hd : decode cc pc = .ok (.aload_n i, 1)) (hl0 : ls[i.val]? = some (some (.null))) (hq : pc + 1 = q) (k : gG X q ls (.null :: st) hp cl sl) : gG X pc ls st hp cl sl := by
  subst hq; exact fun arr H locs hl hh hS => lv_aload_nN C.1 C.2.1 hd rfl (gL_at hl hl0) (k arr H locs hl hh hS)
theorem g_istore (C : gC X own nm cc nL rm) {i : Nat} {x : Int32} {ls' : List (Option Value)} (hd : decode cc pc = .ok (.istore i, 2)) (hi : i < ls.length) (he : gset ls i (.int x) = ls') (hq : pc + 2 = q) (k : gG X q ls' st hp cl sl) : gG X pc ls (.int x :: st) hp cl sl := by
  subst hq; subst he; exact fun arr H locs hl hh hS => lv_istore C.1 C.2.1 hd (gL_has hl) hi rfl (fun arr' h' => k arr' H locs (gL_store (gset_st hi) h') hh hS)
theorem g_istore_n (C : gC X own nm cc nL rm) {i : Fin 4} {x : Int32} {ls' : List (Option Value)} (hd : decode cc pc = .ok (.istore_n i, 1)) (hi : i.val < ls.length) (he : gset ls i.val (.int x) = ls') (hq : pc + 1 = q) (k : gG X q ls' st hp cl sl) : gG X pc ls (.int x :: st) hp cl sl := by
  subst hq; subst he; exact fun arr H locs hl hh hS => lv_istore_n C.1 C.2.1 hd rfl (gL_has hl) hi rfl (fun arr' h' => k arr' H locs (gL_store (gset_st hi) h') hh hS)
theorem g_astore (C : gC X own nm cc nL rm) {i : Nat} {x : Nat} {ls' : List (Option Value)} (hd : decode cc pc = .ok (.astore i, 2)) (hi : i < ls.length) (he : gset ls i (.ref x) = ls') (hq : pc + 2 = q) (k : gG X q ls' st hp cl sl) : gG X pc ls (.ref x :: st) hp cl sl := by
  subst hq; subst he; exact fun arr H locs hl hh hS => lv_astore C.1 C.2.1 hd (gL_has hl) hi rfl (fun arr' h' => k arr' H locs (gL_store (gset_st hi) h') hh hS)
theorem g_astore_n (C : gC X own nm cc nL rm) {i : Fin 4} {x : Nat} {ls' : List (Option Value)} (hd : decode cc pc = .ok (.astore_n i, 1)) (hi : i.val < ls.length) (he : gset ls i.val (.ref x) = ls') (hq : pc + 1 = q) (k : gG X q ls' st hp cl sl) : gG X pc ls (.ref x :: st) hp cl sl := by
  subst hq; subst he; exact fun arr H locs hl hh hS => lv_astore_n C.1 C.2.1 hd rfl (gL_has hl) hi rfl (fun arr' h' => k arr' H locs (gL_store (gset_st hi) h') hh hS)
theorem g_astoreS (C : gC X own nm cc nL rm) {i : Nat} {j : UInt32} {ls' : List (Option Value)} (hd : decode cc pc = .ok (.astore i, 2)) (hi : i < ls.length) (he : gset ls i (.float j) = ls') (hq : pc + 2 = q) (k : gG X q ls' st hp cl sl) : gG X pc ls (.float j :: st) hp cl sl := by
  subst hq; subst he; exact fun arr H locs hl hh hS => lv_astore (x := xA X j.toNat) C.1 C.2.1 hd (gL_has hl) hi rfl (fun arr' h' => k arr' H locs (gL_store (v := .float j) (gset_st hi) h') hh hS)
theorem g_lstore (C : gC X own nm cc nL rm) {i : Nat} {x : Int64} {ls' : List (Option Value)} (hd : decode cc pc = .ok (.lstore i, 2)) (hi : i + 1 < ls.length) (he : (gset ls i (.long x)).set (i + 1) none = ls') (hq : pc + 2 = q) (k : gG X q ls' st hp cl sl) : gG X pc ls (.long x :: st) hp cl sl := by
  subst hq; subst he; exact fun arr H locs hl hh hS => lv_lstore C.1 C.2.1 hd (gL_has hl) hi rfl (fun arr' h' => k arr' H locs (gL_store2 (v := .long x) (gset2_st hi) h') hh hS)
theorem g_lstore_n (C : gC X own nm cc nL rm) {i : Fin 4} {x : Int64} {ls' : List (Option Value)} (hd : decode cc pc = .ok (.lstore_n i, 1)) (hi : i.val + 1 < ls.length) (he : (gset ls i.val (.long x)).set (i.val + 1) none = ls') (hq : pc + 1 = q) (k : gG X q ls' st hp cl sl) : gG X pc ls (.long x :: st) hp cl sl := by
  subst hq; subst he; exact fun arr H locs hl hh hS => lv_lstore_n C.1 C.2.1 hd rfl (gL_has hl) hi rfl (fun arr' h' => k arr' H locs (gL_store2 (v := .long x) (gset2_st hi) h') hh hS)
theorem g_iinc (C : gC X own nm cc nL rm) {i : Nat} {n : Int} {x v : Int32} {ls' : List (Option Value)} (hd : decode cc pc = .ok (.iinc i n, 3)) (hl0 : ls[i]? = some (some (.int x))) (hv : x + Int32.ofInt n = v) (he : gset ls i (.int v) = ls') (hq : pc + 3 = q) (k : gG X q ls' st hp cl sl) : gG X pc ls st hp cl sl := by
  subst hq; subst he
  have hi : i < ls.length := (List.getElem?_eq_some_iff.mp hl0).1
  intro arr H locs hl hh hS
  obtain ⟨k0, hk0⟩ := List.getElem?_of_mem (gP_mem (b0 := xB X) (sa := xA X) (z := (i, .int x)).mpr ⟨_, hl0, rfl⟩)
  exact lv_iinc C.1 C.2.1 hd (gL_has hl) hk0 hv hi rfl (fun arr' h' => k arr' H locs (gL_store (v := .int v) (gset_st hi) h') hh hS)
end GR
end
section
/-! the heap: reads, writes, new cells; calls; a method's start and end -/
section GHP
variable {D : va_G} {cI cJ : ClassId} {b0 : Nat} {sa : Nat → Nat} {hp : List gA} {H H1 : Heap}
theorem gH_at {k : Nat} {e : gA} (h : gH D cI cJ b0 sa hp H) (ho : hp[k]? = some e) (hne : e ≠ gJunk) : va_at D vwCl (b0 + k, gce cI cJ b0 sa e) H := h.2 k e ho hne
theorem gJ1 {ci : Nat} {fs : List Value} {z : vw_C} (hc : vwCl[ci]? = some z) : (Sum.inr (Sum.inr (ci, fs)) : gA) ≠ gJunk := by
  intro h
  have h1 : ci = 1000 := by simp only [gJunk, Sum.inr.injEq, Prod.mk.injEq] at h; exact h.1
  subst h1
  simp [vwCl] at hc
theorem gJ2 {z : Nat × (Nat → Int32)} : (Sum.inl z : gA) ≠ gJunk := by intro h; unfold gJunk at h; cases h
theorem gJ3 {z : Nat × (Nat → Int64)} : (Sum.inr (Sum.inl z) : gA) ≠ gJunk := by intro h; unfold gJunk at h; cases h
theorem gH_set {k : Nat} {e : gA} (h : gH D cI cJ b0 sa hp H) (z : H1.size = H.size) (oq : ∀ q : Nat, q ≠ b0 + k → H1[q]? = H[q]?) (he : va_at D vwCl (b0 + k, gce cI cJ b0 sa e) H1) : gH D cI cJ b0 sa (hp.set k e) H1 := by
  refine ⟨by rw [z, h.1, List.length_set], fun j u hu hne => ?_⟩
  by_cases hj : j = k
  · subst hj
    have hlt : j < hp.length := by
      have := (List.getElem?_eq_some_iff.mp hu).1
      rwa [List.length_set] at this
    rw [List.getElem?_set_self hlt] at hu
    cases hu
    exact he
  · rw [List.getElem?_set_ne (Ne.symm hj)] at hu
    exact (h.2 j u hu hne).kept (oq (b0 + j) (by omega))
theorem gH_push {e : gA} (h : gH D cI cJ b0 sa hp H) (z : H1.size = H.size + 1) (oq : ∀ q : Nat, q < H.size → H1[q]? = H[q]?) (he : va_at D vwCl (b0 + hp.length, gce cI cJ b0 sa e) H1) : gH D cI cJ b0 sa (hp ++ [e]) H1 := by
  refine ⟨by rw [z, h.1, List.length_append]; simp; omega, fun j u hu hne => ?_⟩
  by_cases hj : j < hp.length
  · rw [List.getElem?_append_left hj] at hu
    exact (h.2 j u hu hne).kept (oq (b0 + j) (by rw [h.1]; omega))
  · rw [List.getElem?_append_right (by omega)] at hu
    have hz : j - hp.length < 1 := (List.getElem?_eq_some_iff.mp hu).1
    have hj2 : j = hp.length := by omega
    subst hj2
    rw [Nat.sub_self] at hu
    cases hu
    exact he
/-- cells of which nothing is told come -/
theorem gH_junk {j : Nat} (h : gH D cI cJ b0 sa hp H) (z : H1.size = H.size + j) (oq : ∀ q : Nat, q < H.size → H1[q]? = H[q]?) : gH D cI cJ b0 sa (hp ++ List.replicate j gJunk) H1 := by
  refine ⟨by rw [z, h.1, List.length_append, List.length_replicate]; omega, fun i u hu hne => ?_⟩
  by_cases hi : i < hp.length
  · rw [List.getElem?_append_left hi] at hu
    exact (h.2 i u hu hne).kept (oq (b0 + i) (by rw [h.1]; omega))
  · rw [List.getElem?_append_right (by omega)] at hu
    exact absurd (List.eq_of_mem_replicate (List.mem_of_getElem? hu)) hne
theorem gS_push {A : Nat → Prop} {H0 : Heap} {locs : List Loc} (h : va_S A H0 H locs) (z : H1.size = H.size + 1) (oq : ∀ q : Nat, q < H.size → H1[q]? = H[q]?) : va_S A H0 H1 locs :=
  ⟨Nat.le_trans h.1 (by omega), fun q h1 h2 => (oq q (Nat.lt_of_lt_of_le h1 h.1)).trans (h.2.1 q h1 h2), h.2.2⟩
end GHP
/-- a class of the world: its number, table, slots, types -/
def gK (ci : Nat) (RC : String) (T : u_T) (N : Nat) (tf : Nat → FieldType) : Prop :=
  vwCl[ci]? = some (RC, T, N) ∧ (∀ w ∈ u_ws RC T N, w ∈ gW) ∧ (∀ k, k < N → parseFieldDescriptor (T k).2.2.1 = some (tf k)) ∧ (∀ a, a < N → ∀ b, b < N → a ≠ b → (T a).2.1 ≠ (T b).2.1)
/-- a field's site: own class and pool number; class, place, type, final -/
def gF (own : String) (ix ci j : Nat) (ty : FieldType) (fin : Bool) : Prop :=
  ∃ (RC : String) (T : u_T) (N : Nat) (tf : Nat → FieldType), gK ci RC T N tf ∧ j < N ∧ Cond.fieldLink own ix (T j).1 (T j).2.1 (T j).2.2.1 ∈ gW ∧ tf j = ty ∧ (T j).2.2.2 = fin ∧ (fin = true → (T j).1 = own)
/-- a new object's site -/
def gNw (own : String) (ix ci n : Nat) (fs : List Value) : Prop :=
  ∃ (RC : String) (T : u_T) (tf : Nat → FieldType), gK ci RC T n tf ∧ Cond.classLink own ix RC ∈ gW ∧ Cond.instantiable RC n ∈ gW ∧ Cond.initialized RC ∈ gW ∧ (∀ j, j < n → defaultValue (tf j) = vp_V fs j) ∧ ∀ b0 sa, fs.map (gv b0 sa) = fs
section GR3
variable {X : gX} {own nm : String} {cc : ByteArray} {nL : Nat} {rm : Room} {pc q : Nat} {ls : List (Option Value)} {st : List Value} {hp : List gA} {cl sl : Nat}
theorem gC_hts (C : gC X own nm cc nL rm) {w : Cond} (h : w ∈ gW) : w.before (xa X) (xs X) = true := C.2.2.2.2.1 w h
theorem gC_K (C : gC X own nm cc nL rm) : va_K (xD X) vwCl [(xI X, .int), (xJ X, .long)] (xs X) := C.2.2.2.2.2.1
theorem gv_V (b0 : Nat) (sa : Nat → Nat) {fs : List Value} {j : Nat} {v : Value} (h : fs[j]? = some v) : (fs.map (gv b0 sa))[j]? = some (gv b0 sa v) := by rw [List.getElem?_map, h]; rfl
theorem g_getfield (C : gC X own nm cc nL rm) {ix ci j k : Nat} {ty : FieldType} {fin : Bool} {fs : List Value} {v : Value} (F : gF own ix ci j ty fin) (hd : decode cc pc = .ok (.getfield ix, 3)) (hq : pc + 3 = q) (ho : hp[k]? = some (.inr (.inr (ci, fs)))) (hv : fs[j]? = some v) (kk : gG X q ls (v :: st) hp cl sl) : gG X pc ls (.ref k :: st) hp cl sl := by
  subst hq
  obtain ⟨RC, T, N, tf, K, hj, hlink, -, -, -⟩ := F
  intro arr H locs hl hh hS
  have hP : va_P (xD X) vwCl [(xB X + k, .inr (ci, fs.map (gv (xB X) (xA X))))] H := by
    intro i z hz
    have hi : i < 1 := (List.getElem?_eq_some_iff.mp hz).1
    have : i = 0 := by omega
    subst this
    cases hz
    exact hh.2 k _ ho (gJ1 K.1)
  exact va_get C.1 C.2.1 (fun w hw => gC_hts C hw) K.2.1 C.2.2.2.1 (gC_K C) hP 0 rfl K.1 j hj (gC_hts C hlink) (fun _ h9 => h9) (gv_V _ _ hv) hd (kk arr H locs hl hh hS)
theorem gv_nar {b0 : Nat} {sa : Nat → Nat} {ty : FieldType} {v : Value} (h1 : narrow ty v = v) (h2 : fits ty v = true) (h3 : ∀ z, v ≠ .float z) : narrow ty (gv b0 sa v) = gv b0 sa v ∧ fits ty (gv b0 sa v) = true := by
  cases v with
  | float z => exact absurd rfl (h3 z)
  | ref a => cases ty <;> simp [narrow, gv, fits] at h2 ⊢
  | _ => exact ⟨h1, h2⟩
theorem g_putfield (C : gC X own nm cc nL rm) {ix ci j k : Nat} {ty : FieldType} {fin : Bool} {fs : List Value} {v : Value} (F : gF own ix ci j ty fin) (hd : decode cc pc = .ok (.putfield ix, 3)) (hq : pc + 3 = q) (ho : hp[k]? = some (.inr (.inr (ci, fs)))) (hj2 : j < fs.length) (hfin : fin = false ∨ nm = "<init>") (h1 : narrow ty v = v) (h2 : fits ty v = true) (h3 : ∀ z, v ≠ .float z) (kk : gG X q ls st (hp.set k (.inr (.inr (ci, fs.set j v)))) cl sl) : gG X pc ls (v :: .ref k :: st) hp cl sl := by
  subst hq
  obtain ⟨RC, T, N, tf, K, hj, hlink, hty, hf, hdecl⟩ := F
  obtain ⟨n1, n2⟩ := gv_nar (b0 := xB X) (sa := xA X) h1 h2 h3
  intro arr H locs hl hh hS
  have hts := fun w hw => gC_hts C (w := w) hw
  have hin := K.2.1
  have hap := va_apart (own := own) hts hin tf K.2.2.1 K.2.2.2 (gC_K C) K.1
  obtain ⟨r, e1, cell, q1, q2, q3, q4⟩ := hh.2 k _ ho (gJ1 K.1)
  have hr : r = (RC, T, N) := Option.some.inj (e1.symm.trans K.1)
  subst hr
  obtain ⟨hSl, hfc, kC, hkC, hkind⟩ := (gC_K C).1 ci _ K.1
  obtain ⟨cf, kf, fi, f, hi, hsl⟩ := hSl j hj
  have hlay := hts _ (hin _ (u_in_lay hj))
  have hst := (u_facts hfc hkC (u_lays hts hin hj) hi).1
  have hpd : parseFieldDescriptor (T j).2.2.1 = some ty := by rw [← hty]; exact K.2.2.1 j hj
  have hl2 : j < (fs.map (gv (xB X) (xA X))).length := by rw [List.length_map]; exact hj2
  have fin_case : ∀ (H' : Heap), H'[xB X + k]? = some (cell.setSlot f.slot (gv (xB X) (xA X) v)) → H'.size = H.size → (∀ q, q ≠ xB X + k → H'[q]? = H[q]?) →
      W (xp X) (xl X) (xe X) (xR X) (xs X) (xm X) (xa X) (xb X) (xt X) (xc X) H' (locs ++ [⟨xB X + k, f.slot⟩]) cl sl (xQ X) (F0 (xm X) (pc + 3) arr (st.map (gv (xB X) (xA X)))) := by
    intro H' z1 z2 z3
    rw [hsl] at z1 ⊢
    refine kk arr H' _ hl (gH_set hh z2 z3 ?_) (hS.put z2 z3 (Nat.le_add_right _ _))
    refine ⟨_, K.1, ?_⟩
    show t_OB _ _ _ _ _ (vp_V ((fs.set j v).map (gv (xB X) (xA X))))
    rw [List.map_set]
    exact t_OB.to (V := updV (vp_V (fs.map (gv (xB X) (xA X)))) j (gv (xB X) (xA X) v)) ⟨_, z1, q2, q3, t_set q4 hap hj _⟩ (fun i _ => vp_updV_set hl2 _ i)
  cases hfb : (T j).2.2.2 with
  | false =>
    unfold u_lay at hlay
    rw [if_neg (by rw [hfb]; decide)] at hlay
    have h6 := u_store hfc hkC hkind hlay hi hpd n1 n2
    exact W.putK C.1 C.2.1 (f := f) ⟨C.2.2.2.1, hts _ hlink, ⟨_, _, _, hi⟩, hst⟩ (by rw [q2]; exact h6) q1 q3 (by rw [hsl]; exact k2_hasslot (q4 j hj)) rfl rfl hd fin_case
  | true =>
    unfold u_lay at hlay
    rw [if_pos hfb] at hlay
    have hft : fin = true := by rw [← hf]; exact hfb
    have hnm : (xt X).name = "<init>" := by
      rcases hfin with z | z
      · rw [hft] at z; cases z
      · rw [C.2.2.2.2.2.2.2.2.2.1]; exact z
    have hcf : (xm X).cls = cf := by
      obtain ⟨_, _, c', _, _, _, -, -, hf', -, -, -, hown2, -⟩ := Cond.laysFinal_spec hlay
      have e1 : c' = cf := by have := hi.symm.trans hf'; simp at this; exact this.1.symm
      rw [hdecl hft] at hown2
      rw [← e1]; exact Option.some.inj (C.2.2.2.1.symm.trans hown2)
    have h6 := u_fits hfc hkC hkind (Or.inr hlay) hi hpd n1 n2
    exact W.putFinK C.1 C.2.1 C.2.2.2.1 (hts _ hlink) hi hst hcf hnm (by rw [q2]; exact h6) q1 q3 (by rw [hsl]; exact k2_hasslot (q4 j hj)) rfl rfl hd fin_case
theorem g_new (C : gC X own nm cc nL rm) {ix ci n k : Nat} {fs : List Value} (F : gNw own ix ci n fs) (hd : decode cc pc = .ok (.new ix, 3)) (hq : pc + 3 = q) (hk : hp.length = k) (h1 : cl + 1 ≤ rm.cells) (h2 : sl + n ≤ rm.slots) (kk : gG X q ls (.ref k :: st) (hp ++ [.inr (.inr (ci, fs))]) (cl + 1) (sl + n)) : gG X pc ls st hp cl sl := by
  subst hq; subst hk
  obtain ⟨RC, T, tf, K, hl1, hl2, hl3, hdv, hgv⟩ := F
  have hR := C.2.2.2.2.2.2.2.2.1
  intro arr H locs hl hh hS
  have hKn := (gC_K C).1 ci _ K.1
  refine W.newcK C.1 C.2.1 C.2.2.2.1 (gC_hts C hl1) (gC_hts C hl2) (gC_hts C hl3) rfl hd (by rw [hR]; exact h1) (by rw [hR]; exact h2) hKn.2.1 hh.1 fun H' kC hkC e1 z1 o1 => ?_
  refine kk arr H' locs hl (gH_push hh (by rw [z1, hh.1]) (by rw [hh.1]; exact o1) ?_) (gS_push hS (by rw [z1, hh.1]) (by rw [hh.1]; exact o1))
  refine ⟨_, K.1, ?_⟩
  show t_OB _ _ _ _ _ (vp_V (fs.map (gv (xB X) (xA X))))
  rw [hgv]
  exact (u_born tf (fun w hw => gC_hts C hw) K.2.1 hKn hkC e1 K.2.2.1).to hdv
theorem g_newarray (C : gC X own nm cc nL rm) {n : Int32} {N k : Nat} (hw : Cond.arrayClass .int ∈ gW) (hd : decode cc pc = .ok (.newarray .int, 2)) (hq : pc + 2 = q) (hk : hp.length = k) (hn : ¬ n < 0) (hN : n.toNatClampNeg = N) (hb : N ≤ 100000000) (h1 : cl + 1 ≤ rm.cells) (h2 : sl + N ≤ rm.slots) (kk : gG X q ls (.ref k :: st) (hp ++ [.inl (N, fun _ => 0)]) (cl + 1) (sl + N)) : gG X pc ls (.int n :: st) hp cl sl := by
  subst hq; subst hk
  have hR := C.2.2.2.2.2.2.2.2.1
  intro arr H locs hl hh hS
  refine va_newaK (atype := .int) C.1 C.2.1 (gC_hts C hw) rfl hd rfl hn hN (by show N * 4 ≤ _; omega) (by rw [hR]; exact h1) (by rw [hR]; exact h2) hh.1 fun H' cA e1 z1 o1 hAr hNm => ?_
  refine kk arr H' locs hl (gH_push hh (by rw [z1, hh.1]) (by rw [hh.1]; exact o1) ?_) (gS_push hS (by rw [z1, hh.1]) (by rw [hh.1]; exact o1))
  have hc : xI X = cA := Option.some.inj (((gC_K C).2 0 _ rfl).2.symm.trans hNm)
  show H'[_]? = some (vp_cell (xI X) _)
  rw [hc]
  exact e1
theorem g_newarrayL (C : gC X own nm cc nL rm) {n : Int32} {N k : Nat} (hw : Cond.arrayClass .long ∈ gW) (hd : decode cc pc = .ok (.newarray .long, 2)) (hq : pc + 2 = q) (hk : hp.length = k) (hn : ¬ n < 0) (hN : n.toNatClampNeg = N) (hb : N ≤ 50000000) (h1 : cl + 1 ≤ rm.cells) (h2 : sl + N ≤ rm.slots) (kk : gG X q ls (.ref k :: st) (hp ++ [.inr (.inl (N, fun _ => 0))]) (cl + 1) (sl + N)) : gG X pc ls (.int n :: st) hp cl sl := by
  subst hq; subst hk
  have hR := C.2.2.2.2.2.2.2.2.1
  intro arr H locs hl hh hS
  refine va_newaK (atype := .long) C.1 C.2.1 (gC_hts C hw) rfl hd rfl hn hN (by show N * 8 ≤ _; omega) (by rw [hR]; exact h1) (by rw [hR]; exact h2) hh.1 fun H' cA e1 z1 o1 hAr hNm => ?_
  refine kk arr H' locs hl (gH_push hh (by rw [z1, hh.1]) (by rw [hh.1]; exact o1) ?_) (gS_push hS (by rw [z1, hh.1]) (by rw [hh.1]; exact o1))
  have hc : xJ X = cA := Option.some.inj (((gC_K C).2 1 _ rfl).2.symm.trans hNm)
  show H'[_]? = some (vp_cell (xJ X) _)
  rw [hc]
  exact e1
theorem gP1 {e : va_E} {k : Nat} {H : Heap} (h : va_at (xD X) vwCl (k, e) H) : va_P (xD X) vwCl [(k, e)] H := by
  intro i z hz
  have hi : i < 1 := (List.getElem?_eq_some_iff.mp hz).1
  have : i = 0 := by omega
  subst this
  cases hz
  exact h
theorem g_iaload (C : gC X own nm cc nL rm) {k n : Nat} {f : Nat → Int32} {i : Int32} (hd : decode cc pc = .ok (.iaload, 1)) (hq : pc + 1 = q) (ho : hp[k]? = some (.inl (n, f))) (hi : vp_in i n) (kk : gG X q ls (.int (f i.toNatClampNeg) :: st) hp cl sl) : gG X pc ls (.int i :: .ref k :: st) hp cl sl := by
  subst hq
  intro arr H locs hl hh hS
  exact va_iald C.1 C.2.1 (gC_K C) (gP1 (hh.2 k _ ho gJ2)) 0 0 rfl rfl hi hd (kk arr H locs hl hh hS)
theorem g_laload (C : gC X own nm cc nL rm) {k n : Nat} {f : Nat → Int64} {i : Int32} (hd : decode cc pc = .ok (.laload, 1)) (hq : pc + 1 = q) (ho : hp[k]? = some (.inr (.inl (n, f)))) (hi : vp_in i n) (kk : gG X q ls (.long (f i.toNatClampNeg) :: st) hp cl sl) : gG X pc ls (.int i :: .ref k :: st) hp cl sl := by
  subst hq
  intro arr H locs hl hh hS
  exact va_lald C.1 C.2.1 (gC_K C) (gP1 (hh.2 k _ ho gJ3)) 0 1 rfl rfl hi hd (kk arr H locs hl hh hS)
theorem g_arraylength (C : gC X own nm cc nL rm) {k n : Nat} {f : Nat → Int32} {v : Int32} (hd : decode cc pc = .ok (.arraylength, 1)) (hq : pc + 1 = q) (ho : hp[k]? = some (.inl (n, f))) (hv : Int32.ofNat n = v) (kk : gG X q ls (.int v :: st) hp cl sl) : gG X pc ls (.ref k :: st) hp cl sl := by
  subst hq
  intro arr H locs hl hh hS
  exact va_alen C.1 C.2.1 (gC_K C) (gP1 (hh.2 k _ ho gJ2)) 0 0 rfl rfl hv hd (kk arr H locs hl hh hS)
theorem g_iastore (C : gC X own nm cc nL rm) {k n : Nat} {f : Nat → Int32} {i x : Int32} (hd : decode cc pc = .ok (.iastore, 1)) (hq : pc + 1 = q) (ho : hp[k]? = some (.inl (n, f))) (hi : vp_in i n) (kk : gG X q ls st (hp.set k (.inl (n, upd f i.toNatClampNeg x))) cl sl) : gG X pc ls (.int x :: .int i :: .ref k :: st) hp cl sl := by
  subst hq
  intro arr H locs hl hh hS
  refine W.iast C.1 C.2.1 (hh.2 k _ ho gJ2) (((gC_K C).2 0 _ rfl).1 n (fun j => .int (f j))) (fun z => by cases z) (by show ¬ (i < 0 ∨ (arrV _ _ _).slots.size ≤ _); rw [arrV_size]; exact hi) rfl rfl hd fun H1 e z oq => ?_
  refine kk arr H1 _ hl (gH_set hh z oq ?_) (hS.put z oq (Nat.le_add_right _ _))
  show H1[_]? = some (vp_cell _ _)
  rw [e]
  show some ((arrV (xI X) n (fun j => Value.int (f j))).setSlot _ _) = some (arrV (xI X) n (fun j => Value.int (upd f i.toNatClampNeg x j)))
  rw [arrV_store]
  congr 2
  funext z2
  by_cases hz : z2 = i.toNatClampNeg
  · subst hz; simp [updV, upd]
  · simp [updV, upd, hz]
theorem g_lastore (C : gC X own nm cc nL rm) {k n : Nat} {f : Nat → Int64} {i : Int32} {x : Int64} (hd : decode cc pc = .ok (.lastore, 1)) (hq : pc + 1 = q) (ho : hp[k]? = some (.inr (.inl (n, f)))) (hi : vp_in i n) (kk : gG X q ls st (hp.set k (.inr (.inl (n, vp_updL f i.toNatClampNeg x)))) cl sl) : gG X pc ls (.long x :: .int i :: .ref k :: st) hp cl sl := by
  subst hq
  intro arr H locs hl hh hS
  refine W.last C.1 C.2.1 (hh.2 k _ ho gJ3) (((gC_K C).2 1 _ rfl).1 n (fun j => .long (f j))) (fun z => by cases z) (by show ¬ (i < 0 ∨ (arrV _ _ _).slots.size ≤ _); rw [arrV_size]; exact hi) rfl rfl hd fun H1 e z oq => ?_
  refine kk arr H1 _ hl (gH_set hh z oq ?_) (hS.put z oq (Nat.le_add_right _ _))
  show H1[_]? = some (vp_cell _ _)
  rw [e]
  show some ((arrV (xJ X) n (fun j => Value.long (f j))).setSlot _ _) = some (arrV (xJ X) n (fun j => Value.long (vp_updL f i.toNatClampNeg x j)))
  rw [arrV_store]
  congr 2
  funext z2
  by_cases hz : z2 = i.toNatClampNeg
  · subst hz; simp [updV, vp_updL]
  · simp [updV, vp_updL, hz]
theorem g_objInit (C : gC X own nm cc nL rm) {ix k : Nat} (hm : Cond.methodLink own ix objectInit ∈ gW) (hi : Cond.instanceMethod objectInit ∈ gW) (hcd : Cond.code objectInit ⟨#[0xb1]⟩ 1 none ∈ gW) (hd : decode cc pc = .ok (.invokespecial ix, 3)) (hq : pc + 3 = q) (hls : ls.length = nL) (hf : 1 ≤ rm.frames) (hl0 : (st.map fun v => v.category).sum + 12 ≤ rm.locals) (kk : gG X q ls st hp cl sl) : gG X pc ls (.ref k :: st) hp cl sl := by
  subst hq
  have hR := C.2.2.2.2.2.2.2.2.1
  intro arr H locs hl hh hS
  have hsz : (F0 (xm X) pc arr ((Value.ref k :: st).map (gv (xB X) (xA X)))).locals.size = (xc X).maxLocals := by rw [C.2.2.1, ← hls]; exact hl.1
  refine W.objInit C.1 C.2.1 C.2.2.2.1 (gC_hts C hm) (gC_hts C hi) (gC_hts C hcd) rfl hsz rfl hd (by rw [hR]; exact hf) ?_ (W.eq (g2 := F0 (xm X) (pc + 3) arr (st.map (gv (xB X) (xA X)))) rfl (kk arr H locs hl hh hS))
  rw [hR, List.map_map]
  have e : ((fun v => v.category) ∘ gv (xB X) (xA X)) = fun v : Value => v.category := by funext v; exact gv_cat _ _ v
  rw [e]
  have hm0 : (F0 (xm X) pc arr ((Value.ref k :: st).map (gv (xB X) (xA X)))).monitorRoom = 0 := by simp [JFrame.monitorRoom]
  rw [hm0]
  omega
end GR3
end
section
/-! methods: a contract over the abstract world, its start, its end, its calls -/
def gPc (D : va_G) (cI cJ : ClassId) (b0 : Nat) (sa : Nat → Nat) (av : List Value) (hp : List gA) : Array Value → State → Prop := fun a U =>
  a = (av.map (gv b0 sa)).toArray ∧ gH D cI cJ b0 sa hp U.heap ∧ va_K D vwCl [(cI, .int), (cJ, .long)] U ∧ gN b0 U
def gQc (D : va_G) (cI cJ : ClassId) (b0 : Nat) (sa : Nat → Nat) (P : Option Value → List gA → Prop) : Array Value → State → Outcome → State → Prop := fun _ st o t =>
  (∃ (v : Option Value) (hp' : List gA), o = .returned (v.map (gv b0 sa)) ∧ P v hp' ∧ gH D cI cJ b0 sa hp' t.heap) ∧ va_F (fun q => b0 ≤ q) st t
/-- the method y, called with av in the world hp, makes at most mc cells of ms slots, and comes back with P -/
def gM (y : MethodName) (bytes : ByteArray) (maxL : Nat) (ret : Option FieldType) (fr lo : Nat) (av : List Value) (hp : List gA) (mc ms : Nat) (P : Option Value → List gA → Prop) : Prop :=
  ∀ (l : Launch) (D : va_G) (cI cJ : ClassId) (b0 : Nat) (sa : Nat → Nat), Met l y (Cond.code y bytes maxL ret :: gW) ({ frames := fr, cells := mc, slots := ms, locals := lo }) (gPc D cI cJ b0 sa av hp) (gQc D cI cJ b0 sa P) mc ms (fun q => b0 ≤ q)
/-- how the method that runs may end -/
def gEnd (X : gX) (cc : ByteArray) (ret : Option FieldType) (P : Option Value → List gA → Prop) (mc ms : Nat) : Prop :=
  (∀ (pc : Nat) (ls : List (Option Value)) (v : Int32) (hp : List gA) (cl sl : Nat) (ty : FieldType), decode cc pc = .ok (.ireturn, 1) → ret = some ty → narrow ty (.int v) = .int v → cl ≤ mc → sl ≤ ms → P (some (.int v)) hp → gG X pc ls [.int v] hp cl sl) ∧
  (∀ (pc : Nat) (ls : List (Option Value)) (hp : List gA) (cl sl : Nat), decode cc pc = .ok (.return_, 1) → ret = none → cl ≤ mc → sl ≤ ms → P none hp → gG X pc ls [] hp cl sl) ∧
  (∀ (pc : Nat) (ls : List (Option Value)) (k : Nat) (hp : List gA) (cl sl : Nat) (ty : FieldType), decode cc pc = .ok (.areturn, 1) → ret = some ty → ((∃ n, ty = .object n) ∨ ∃ t, ty = .array t) → cl ≤ mc → sl ≤ ms → P (some (.ref k)) hp → gG X pc ls [.ref k] hp cl sl)
def gent : List Value → List (Option Value)
  | [] => []
  | .long x :: t => some (.long x) :: none :: gent t
  | .double x :: t => some (.double x) :: none :: gent t
  | v :: t => some v :: gent t
theorem gent_len (b0 : Nat) (sa : Nat → Nat) : ∀ av : List Value, (lg_sl (av.map (gv b0 sa))).length = (gent av).length
  | [] => rfl
  | v :: t => by
    have h := gent_len b0 sa t
    cases v <;> simp [gent, lg_sl, gv, Value.category] at h ⊢ <;> omega
theorem gent_at (b0 : Nat) (sa : Nat → Nat) : ∀ (av : List Value) (i : Nat) (v : Value), (gent av)[i]? = some (some v) → (lg_sl (av.map (gv b0 sa)))[i]? = some (.val (gv b0 sa v))
  | [], i, v, h => by simp [gent] at h
  | .long x :: t, 0, v, h => by simp [gent] at h; subst h; simp [lg_sl, gv, Value.category]
  | .long x :: t, 1, v, h => by simp [gent] at h
  | .long x :: t, i + 2, v, h => by
    have h2 : (gent t)[i]? = some (some v) := by simpa [gent] using h
    have h3 := gent_at b0 sa t i v h2
    simpa [lg_sl, gv, Value.category] using h3
  | .double x :: t, 0, v, h => by simp [gent] at h; subst h; simp [lg_sl, gv, Value.category]
  | .double x :: t, 1, v, h => by simp [gent] at h
  | .double x :: t, i + 2, v, h => by
    have h2 : (gent t)[i]? = some (some v) := by simpa [gent] using h
    have h3 := gent_at b0 sa t i v h2
    simpa [lg_sl, gv, Value.category] using h3
  | .int x :: t, 0, v, h => by simp [gent] at h; subst h; simp [lg_sl, gv, Value.category]
  | .int x :: t, i + 1, v, h => by
    have h3 := gent_at b0 sa t i v (by simpa [gent] using h)
    simpa [lg_sl, gv, Value.category] using h3
  | .float x :: t, 0, v, h => by simp [gent] at h; subst h; simp [lg_sl, gv, Value.category]
  | .float x :: t, i + 1, v, h => by
    have h3 := gent_at b0 sa t i v (by simpa [gent] using h)
    simpa [lg_sl, gv, Value.category] using h3
  | .null :: t, 0, v, h => by simp [gent] at h; subst h; simp [lg_sl, gv, Value.category]
  | .null :: t, i + 1, v, h => by
    have h3 := gent_at b0 sa t i v (by simpa [gent] using h)
    simpa [lg_sl, gv, Value.category] using h3
  | .ref x :: t, 0, v, h => by simp [gent] at h; subst h; simp [lg_sl, gv, Value.category]
  | .ref x :: t, i + 1, v, h => by
    have h3 := gent_at b0 sa t i v (by simpa [gent] using h)
    simpa [lg_sl, gv, Value.category] using h3
  | .retAddr x :: t, 0, v, h => by simp [gent] at h; subst h; simp [lg_sl, gv, Value.category]
  | .retAddr x :: t, i + 1, v, h => by
    have h3 := gent_at b0 sa t i v (by simpa [gent] using h)
    simpa [lg_sl, gv, Value.category] using h3
theorem gL_entry (b0 : Nat) (sa : Nat → Nat) (av : List Value) {n : Nat} (h : (gent av).length ≤ n) : gL b0 sa ((lg_sl (av.map (gv b0 sa)) ++ List.replicate (n - (lg_sl (av.map (gv b0 sa))).length) Slot.unset).toArray) (gent av ++ List.replicate (n - (gent av).length) none) := by
  have hlen := gent_len b0 sa av
  obtain ⟨h1, h2, -⟩ := lv_entry (av.map (gv b0 sa)) (n := n) (by rw [hlen]; exact h)
  refine ⟨?_, h2, fun i v hv => ?_⟩
  · rw [h1, List.length_append, List.length_replicate]; omega
  · by_cases hi : i < (gent av).length
    · rw [List.getElem?_append_left hi] at hv
      rw [List.getElem?_toArray, List.getElem?_append_left (by rw [hlen]; exact hi)]
      exact gent_at b0 sa av i v hv
    · rw [List.getElem?_append_right (by omega)] at hv
      have := List.eq_of_mem_replicate (List.mem_of_getElem? hv)
      cases this
/-- a contract out of a walk of the body, for a method that is no native row (the JDK's own methods too) -/
theorem gofW {l : Launch} {y : MethodName} {ws ws' : List Cond} {rm : Room} {Pc : Array Value → State → Prop} {Qc : Array Value → State → Outcome → State → Prop} {mc ms : Nat} {free : Addr → Prop} {cc : ByteArray} {maxL : Nat} {ret : Option FieldType}
    (hy : plainFor y = true) (hw : ws = Cond.code y cc maxL ret :: ws')
    (body : ∀ p e s m args below meth c s₁, BodyLoose p l y (headSpec ws rm) cc maxL ret e s m args below meth c s₁ → c.maxLocals = maxL → Pc args s →
      W p l e (headSpec ws rm).room s m args below meth c s.heap [] 0 0 (MQ below Qc args s mc ms free) (entryFrame m args maxL)) : Met l y ws rm Pc Qc mc ms free := by
  refine MetFree.of_bodySF (code := cc) (maxLocals := maxL) (ret := ret) hy (fun args s m h hn => ?_) (fun p e s m args below meth c s₁ B hml hP _ => ?_)
  · obtain ⟨meth, c, h1, h2, h3, h4, h5, h6, -, -⟩ := Cond.code_spec hn (atoms_spec (ws := ws) h _ (by rw [hw]; exact List.mem_cons_self))
    exact ⟨meth, c, h1, h2, h3, h4, h5, h6⟩
  · have hh0 : s₁.heap = s.heap := by rw [B.state]; rfl
    obtain ⟨t, a1, o, b1, b2, b3⟩ := body p e s m args below meth c s₁ B hml hP s₁ hh0 (Stand.of_body B)
    exact ⟨t, o, a1, b1, b2, ⟨b3.1, b3.2⟩⟩
theorem gM_of {y : MethodName} {bytes : ByteArray} {maxL : Nat} {ret : Option FieldType} {fr lo : Nat} {av : List Value} {hp : List gA} {mc ms : Nat} {P : Option Value → List gA → Prop} {ls0 : List (Option Value)} (hy : plainFor y = true) (hn : (gent av).length ≤ maxL) (hl : gent av ++ List.replicate (maxL - (gent av).length) none = ls0)
    (body : ∀ X : gX, gC X y.cls y.name bytes maxL ({ frames := fr, cells := mc, slots := ms, locals := lo }) → gEnd X bytes ret P mc ms → gG X 0 ls0 [] hp 0 0) : gM y bytes maxL ret fr lo av hp mc ms P := by
  intro l D cI cJ b0 sa
  refine gofW (cc := bytes) (maxL := maxL) (ret := ret) hy rfl ?_
  intro p e s m args below meth c s₁ B hml hv
  obtain ⟨rfl, hH, hK, hN⟩ := hv
  have hts := atoms_spec (ws := Cond.code y bytes maxL ret :: gW) B.pre
  have C : gC ((p, l, e, (headSpec (Cond.code y bytes maxL ret :: gW) { frames := fr, cells := mc, slots := ms, locals := lo }).room), (s, m, (av.map (gv b0 sa)).toArray, below), (meth, c), (D, cI, cJ), (b0, sa), MQ below (gQc D cI cJ b0 sa P) (av.map (gv b0 sa)).toArray s mc ms (fun q => b0 ≤ q)) y.cls y.name bytes maxL ({ frames := fr, cells := mc, slots := ms, locals := lo }) :=
    ⟨B.exec, B.bytes, hml, findClass_of_methodNamed B.named, fun w hw => hts w (List.mem_cons_of_mem _ hw), hK, by show b0 ≤ s.heap.size; rw [hH.1]; omega, B.notSynchronized, rfl, (name_of_methodNamed B.named B.method).1, hN⟩
  have hr := B.returns
  have hlk := B.notSynchronized
  have G := body _ C ⟨?_, ?_, ?_⟩
  · have hE := gL_entry b0 sa av hn
    rw [hl] at hE
    rw [lg_entry_eq]
    exact G _ s.heap [] hE hH va_S.rf
  · intro pc ls v hp1 cl sl ty hd hty hnr h1 h2 hP arr H locs hl1 hh hS
    exact W.widen h1 h2 (W.zret B.exec B.bytes (hr.trans hty) hnr (fun t ht hW => ⟨⟨some (.int v), hp1, rfl, hP, by rw [ht]; exact hh⟩, hS.F ht⟩) hS.2.2 hd hlk)
  · intro pc ls hp1 cl sl hd hty h1 h2 hP arr H locs hl1 hh hS
    exact W.widen h1 h2 (W.vret B.exec B.bytes (hr.trans hty) (fun t ht hW => ⟨⟨none, hp1, rfl, hP, by rw [ht]; exact hh⟩, hS.F ht⟩) hS.2.2 hd hlk)
  · intro pc ls k hp1 cl sl ty hd hty hrt h1 h2 hP arr H locs hl1 hh hS
    exact W.widen h1 h2 (W.aret B.exec B.bytes (hr.trans hty) hrt (Or.inr ⟨_, rfl⟩) (fun t ht hW => ⟨⟨some (.ref k), hp1, rfl, hP, by rw [ht]; exact hh⟩, hS.F ht⟩) hS.2.2 hd hlk)
/-- call sites: by the tables' words -/
def gY (y : MethodName) (bytes : ByteArray) (maxL : Nat) (ret : Option FieldType) (n : Nat) : Prop :=
  Cond.initialized y.cls ∈ gW ∧ Cond.code y bytes maxL ret ∈ gW ∧ (y.cls ≠ "java/lang/invoke/MethodHandle" ∧ y.cls ≠ "java/lang/invoke/VarHandle" ∧ (parseMethodDescriptor y.desc).map (fun d => d.parameters.length) = some n)
def gVi (y : MethodName) : Prop := Cond.instanceMethod y ∈ gW
def gVv (y : MethodName) : Prop := Cond.instanceMethod y ∈ gW ∧ Cond.selects y.cls y y ∈ gW
theorem gGood {w : Cond} (h : w ∈ gW) : GoodIn gW (w :: gW) := fun u hu => by
  rcases List.mem_cons.mp hu with rfl | hu
  · exact ⟨h, gW_good h⟩
  · exact ⟨hu, gW_good hu⟩
theorem gPc_blind (D : va_G) (cI cJ : ClassId) (b0 : Nat) (sa : Nat → Nat) (av : List Value) (hp : List gA) : FrameBlind (gPc D cI cJ b0 sa av hp) := fun a U g mk h =>
  ⟨h.1, h.2.1, va_K.moved (u := U) (U := U.calling g mk a) (Vm.Alike.refl U.vm) h.2.2.1, gN.same (u := U) (U := U.calling g mk a) rfl rfl h.2.2.2⟩
section GCA
variable {X : gX} {own nm : String} {cc : ByteArray} {nL : Nat} {rm : Room} {pc q : Nat} {ls : List (Option Value)} {st stk : List Value} {hp : List gA} {cl sl : Nat}
variable {y : MethodName} {bytes : ByteArray} {maxL n ix b fr lo mc ms : Nat} {ret : Option FieldType} {As : List Value} {P : Option Value → List gA → Prop}
theorem g_back {arr : Array Slot} {H : Heap} {locs : List Loc} {st0 : List Value} {a : Array Value} (hr : va_Run (xp X) (xl X) (xe X) (xR X) (xs X) (xm X) (xa X) (xb X) (xt X) (xc X) H locs cl sl mc ms (F0 (xm X) pc arr st0) (st.map (gv (xB X) (xA X))) (gQc (xD X) (xI X) (xJ X) (xB X) (xA X) P a) (fun q => xB X ≤ q)) (hl : gL (xB X) (xA X) arr ls) (hS : va_S (fun q => xB X ≤ q) (xs X).heap H locs)
    (kk : ∀ (v : Option Value) (hp' : List gA), P v hp' → gG X (pc + 3) ls (v.toList ++ st) hp' (cl + mc) (sl + ms)) : W (xp X) (xl X) (xe X) (xR X) (xs X) (xm X) (xa X) (xb X) (xt X) (xc X) H locs cl sl (xQ X) (F0 (xm X) pc arr st0) := by
  intro T hT Y
  obtain ⟨v, st₀, t, T', L, h0, Y', hL, e1, e2, ⟨⟨v', hp', hv, hp, hb⟩, hz, hk⟩, hst⟩ := hr T hT Y
  have hv' : v = v'.map (gv (xB X) (xA X)) := Outcome.returned.inj hv
  rw [h0] at hz hk
  have hS' : va_S (fun q => xB X ≤ q) (xs X).heap T'.heap (locs ++ L) :=
    ⟨Nat.le_trans hS.1 (by rw [e1]; exact hz), fun q h1 h2 => by rw [e1, hk q (Nat.lt_of_lt_of_le h1 hS.1) h2]; exact hS.2.1 q h1 h2, fun q hq => by
      rcases List.mem_append.mp hq with h | h
      · exact hS.2.2 q h
      · exact hL q h⟩
  obtain ⟨t2, a1, b1⟩ := kk v' hp' hp arr T'.heap (locs ++ L) hl (by rw [e1]; exact hb) hS' T' rfl Y'
  refine ⟨t2, hst t2 ?_, b1⟩
  have e : v.toList ++ st.map (gv (xB X) (xA X)) = (v'.toList ++ st).map (gv (xB X) (xA X)) := by
    rw [hv']; cases v' <;> simp
  rw [show ({ (F0 (xm X) pc arr st0) with pc := (F0 (xm X) pc arr st0).pc + 3, stack := v.toList ++ st.map (gv (xB X) (xA X)) } : JFrame) = F0 (xm X) (pc + 3) arr ((v'.toList ++ st).map (gv (xB X) (xA X))) by rw [e]]
  exact a1
theorem g_cat (b0 : Nat) (sa : Nat → Nat) (h : (st.map fun v => v.category).sum ≤ 8) {m : MethodId} {arr : Array Slot} {s0 : List Value} : 2 * (F0 m pc arr s0).monitorRoom + ((st.map (gv b0 sa)).map fun v => v.category).sum ≤ 8 := by
  refine lv_room ?_
  rw [List.map_map]
  have e : ((fun v => v.category) ∘ gv b0 sa) = fun v : Value => v.category := by funext v; exact gv_cat _ _ v
  rw [e]; exact h
theorem g_callV (C : gC X own nm cc nL rm) (Y : gY y bytes maxL ret n) (V : gVv y) (hl0 : Cond.methodLink own ix y ∈ gW) (hM : gM y bytes maxL ret fr lo (.ref b :: As) hp mc ms P) (hd : decode cc pc = .ok (.invokevirtual ix, 3)) (hq : pc + 3 = q) {ci N : Nat} {T : u_T} {fs : List Value} (ho : hp[b]? = some (.inr (.inr (ci, fs)))) (hci : vwCl[ci]? = some (y.cls, T, N)) (hn : As.length = n) (hls : ls.length = nL) (hfr : fr + 1 ≤ rm.frames) (hlo : 8 + (maxL + 11) + lo ≤ rm.locals) (hw : (st.map fun v => v.category).sum ≤ 8) (hc : cl + mc ≤ rm.cells) (hs2 : sl + ms ≤ rm.slots) (hst : stk = As.reverse ++ .ref b :: st)
    (kk : ∀ (v : Option Value) (hp' : List gA), P v hp' → gG X q ls (v.toList ++ st) hp' (cl + mc) (sl + ms)) : gG X pc ls stk hp cl sl := by
  subst hq; subst hst
  have hR := C.2.2.2.2.2.2.2.2.1
  have hts := fun w (hw : w ∈ gW) => gC_hts C (w := w) hw
  intro arr H locs hl hh hS
  obtain ⟨h1, h2, h3⟩ := Y
  have cb : CallB (xR X) (xs X) (xa X) own ix y bytes maxL ret (Cond.code y bytes maxL ret :: gW) ({ frames := fr, cells := mc, slots := ms, locals := lo }) mc ms n := callB_of n hts (gGood h2) rfl rfl rfl (hts _ h1) (hts _ hl0) h3 (by rw [hR]; exact ⟨hfr, hlo⟩)
  have hp0 : PreV (xs X) H y.cls (xB X + b) (gPc (xD X) (xI X) (xJ X) (xB X) (xA X) (.ref b :: As) hp) (As.map (gv (xB X) (xA X))) :=
    ⟨gPc_blind _ _ _ _ _ _ _, va_recv (gC_K C) (gP1 (hh.2 b _ ho (gJ1 hci))) hci (q0 := 0) rfl, fun U hU hW => ⟨rfl, by rw [hU]; exact hh, va_K.moved hW.alike (gC_K C), gN.warm hW hS hU C.2.2.2.2.2.2.2.2.2.2⟩⟩
  have hsz : arr.size = nL := hl.1.trans hls
  refine g_back (va_runV (b := xB X + b) (As := As.map (gv (xB X) (xA X))) (rest := st.map (gv (xB X) (xA X))) ⟨C.1, C.2.1, C.2.2.1, C.2.2.2.1, hts⟩ (hM _ _ _ _ _ _) ⟨cb, hts _ V.1, hts _ V.2⟩ hp0 rfl (by rw [List.length_map]; exact hn) hsz ?_ (g_cat _ _ hw) hd (by rw [hR]; exact ⟨hc, hs2⟩)) hl hS kk
  show (As.reverse ++ .ref b :: st).map _ = _
  rw [List.map_append, List.map_reverse]; rfl
theorem g_callS (C : gC X own nm cc nL rm) (Y : gY y bytes maxL ret n) (V : Cond.static y ∈ gW) (hl0 : Cond.methodLink own ix y ∈ gW) (hM : gM y bytes maxL ret fr lo As hp mc ms P) (hd : decode cc pc = .ok (.invokestatic ix, 3)) (hq : pc + 3 = q) (hn : As.length = n) (hls : ls.length = nL) (hfr : fr + 1 ≤ rm.frames) (hlo : 8 + (maxL + 11) + lo ≤ rm.locals) (hw : (st.map fun v => v.category).sum ≤ 8) (hc : cl + mc ≤ rm.cells) (hs2 : sl + ms ≤ rm.slots) (hst : stk = As.reverse ++ st)
    (kk : ∀ (v : Option Value) (hp' : List gA), P v hp' → gG X q ls (v.toList ++ st) hp' (cl + mc) (sl + ms)) : gG X pc ls stk hp cl sl := by
  subst hq; subst hst
  have hR := C.2.2.2.2.2.2.2.2.1
  have hts := fun w (hw : w ∈ gW) => gC_hts C (w := w) hw
  intro arr H locs hl hh hS
  obtain ⟨h1, h2, h3⟩ := Y
  have cb : CallB (xR X) (xs X) (xa X) own ix y bytes maxL ret (Cond.code y bytes maxL ret :: gW) ({ frames := fr, cells := mc, slots := ms, locals := lo }) mc ms n := callB_of n hts (gGood h2) rfl rfl rfl (hts _ h1) (hts _ hl0) h3 (by rw [hR]; exact ⟨hfr, hlo⟩)
  have hp0 : PreS (xs X) H (gPc (xD X) (xI X) (xJ X) (xB X) (xA X) As hp) (As.map (gv (xB X) (xA X))) :=
    ⟨gPc_blind _ _ _ _ _ _ _, fun U hU hW => ⟨rfl, by rw [hU]; exact hh, va_K.moved hW.alike (gC_K C), gN.warm hW hS hU C.2.2.2.2.2.2.2.2.2.2⟩⟩
  have hsz : arr.size = nL := hl.1.trans hls
  refine g_back (va_runS (As := As.map (gv (xB X) (xA X))) (rest := st.map (gv (xB X) (xA X))) ⟨C.1, C.2.1, C.2.2.1, C.2.2.2.1, hts⟩ (hM _ _ _ _ _ _) ⟨cb, hts _ V⟩ hp0 rfl (by rw [List.length_map]; exact hn) hsz ?_ (g_cat _ _ hw) hd (by rw [hR]; exact ⟨hc, hs2⟩)) hl hS kk
  show (As.reverse ++ st).map _ = _
  rw [List.map_append, List.map_reverse]
theorem g_callI (C : gC X own nm cc nL rm) (Y : gY y bytes maxL none n) (V : gVi y) (hyi : y.name = "<init>") (hl0 : Cond.methodLink own ix y ∈ gW) (hM : gM y bytes maxL none fr lo (.ref b :: As) hp mc ms P) (hd : decode cc pc = .ok (.invokespecial ix, 3)) (hq : pc + 3 = q) (hn : As.length = n) (hls : ls.length = nL) (hfr : fr + 1 ≤ rm.frames) (hlo : 8 + (maxL + 11) + lo ≤ rm.locals) (hw : (st.map fun v => v.category).sum ≤ 8) (hc : cl + mc ≤ rm.cells) (hs2 : sl + ms ≤ rm.slots) (hst : stk = As.reverse ++ .ref b :: st)
    (kk : ∀ (v : Option Value) (hp' : List gA), P v hp' → gG X q ls (v.toList ++ st) hp' (cl + mc) (sl + ms)) : gG X pc ls stk hp cl sl := by
  subst hq; subst hst
  have hR := C.2.2.2.2.2.2.2.2.1
  have hts := fun w (hw : w ∈ gW) => gC_hts C (w := w) hw
  intro arr H locs hl hh hS
  obtain ⟨h1, h2, h3⟩ := Y
  have cb : CallB (xR X) (xs X) (xa X) own ix y bytes maxL none (Cond.code y bytes maxL none :: gW) ({ frames := fr, cells := mc, slots := ms, locals := lo }) mc ms n := callB_of n hts (gGood h2) rfl rfl rfl (hts _ h1) (hts _ hl0) h3 (by rw [hR]; exact ⟨hfr, hlo⟩)
  have hp0 : PreS (xs X) H (gPc (xD X) (xI X) (xJ X) (xB X) (xA X) (.ref b :: As) hp) (.ref (xB X + b) :: As.map (gv (xB X) (xA X))) :=
    ⟨gPc_blind _ _ _ _ _ _ _, fun U hU hW => ⟨rfl, by rw [hU]; exact hh, va_K.moved hW.alike (gC_K C), gN.warm hW hS hU C.2.2.2.2.2.2.2.2.2.2⟩⟩
  have hsz : arr.size = nL := hl.1.trans hls
  refine g_back (va_runI (b := xB X + b) (As := As.map (gv (xB X) (xA X))) (rest := st.map (gv (xB X) (xA X))) ⟨C.1, C.2.1, C.2.2.1, C.2.2.2.1, hts⟩ (hM _ _ _ _ _ _) ⟨cb, hyi, hts _ V⟩ hp0 rfl (by rw [List.length_map]; exact hn) hsz ?_ (g_cat _ _ hw) hd (by rw [hR]; exact ⟨hc, hs2⟩)) hl hS kk
  show (As.reverse ++ .ref b :: st).map _ = _
  rw [List.map_append, List.map_reverse]; rfl
theorem g_callIN (C : gC X own nm cc nL rm) (Y : gY y bytes maxL none n) (V : gVi y) (hyi : y.name = "<init>") {host : String} (hl0 : (own, ix, y, host) ∈ gNest) (hM : gM y bytes maxL none fr lo (.ref b :: As) hp mc ms P) (hd : decode cc pc = .ok (.invokespecial ix, 3)) (hq : pc + 3 = q) (hn : As.length = n) (hls : ls.length = nL) (hfr : fr + 1 ≤ rm.frames) (hlo : 8 + (maxL + 11) + lo ≤ rm.locals) (hw : (st.map fun v => v.category).sum ≤ 8) (hc : cl + mc ≤ rm.cells) (hs2 : sl + ms ≤ rm.slots) (hst : stk = As.reverse ++ .ref b :: st)
    (kk : ∀ (v : Option Value) (hp' : List gA), P v hp' → gG X q ls (v.toList ++ st) hp' (cl + mc) (sl + ms)) : gG X pc ls stk hp cl sl := by
  subst hq; subst hst
  have hR := C.2.2.2.2.2.2.2.2.1
  have hts := fun w (hw : w ∈ gW) => gC_hts C (w := w) hw
  intro arr H locs hl hh hS
  obtain ⟨h1, h2, h3⟩ := Y
  have cb : va_CN (xR X) (xs X) (xa X) own ix y host bytes maxL none (Cond.code y bytes maxL none :: gW) ({ frames := fr, cells := mc, slots := ms, locals := lo }) mc ms n := va_cnB n hts (gGood h2) rfl rfl rfl (C.2.2.2.2.2.2.2.2.2.2.1 _ hl0) (hts _ h1) h3 (by rw [hR]; exact ⟨hfr, hlo⟩)
  have hp0 : PreS (xs X) H (gPc (xD X) (xI X) (xJ X) (xB X) (xA X) (.ref b :: As) hp) (.ref (xB X + b) :: As.map (gv (xB X) (xA X))) :=
    ⟨gPc_blind _ _ _ _ _ _ _, fun U hU hW => ⟨rfl, by rw [hU]; exact hh, va_K.moved hW.alike (gC_K C), gN.warm hW hS hU C.2.2.2.2.2.2.2.2.2.2⟩⟩
  have hsz : arr.size = nL := hl.1.trans hls
  refine g_back (va_runIN (b := xB X + b) (As := As.map (gv (xB X) (xA X))) (rest := st.map (gv (xB X) (xA X))) ⟨C.1, C.2.1, C.2.2.1, C.2.2.2.1, hts⟩ (hM _ _ _ _ _ _) ⟨cb, hyi, hts _ V⟩ hp0 rfl (by rw [List.length_map]; exact hn) hsz ?_ (g_cat _ _ hw) hd (by rw [hR]; exact ⟨hc, hs2⟩)) hl hS kk
  show (As.reverse ++ .ref b :: st).map _ = _
  rw [List.map_append, List.map_reverse]; rfl
end GCA
end
section
/-! the tables' words, by their places; sites of fields, new objects, calls (by program: wip/p1/gen_words.py) -/
theorem t_0 : Jvm.Cond.selects "CardLink$ResetAnswer" (⟨"CardLink$ResetAnswer", "clear", "()V"⟩ : Jvm.MethodName) (⟨"CardLink$ResetAnswer", "clear", "()V"⟩ : Jvm.MethodName) ∈ gW := gW_of (List.mem_of_getElem? (i := 0) (by decide +kernel)) rfl
theorem t_1 : Jvm.Cond.selects "CardLink$ResetAnswer" (⟨"CardLink$ResetAnswer", "readHead", "(LCardLink$Row;)I"⟩ : Jvm.MethodName) (⟨"CardLink$ResetAnswer", "readHead", "(LCardLink$Row;)I"⟩ : Jvm.MethodName) ∈ gW := gW_of (List.mem_of_getElem? (i := 1) (by decide +kernel)) rfl
theorem t_2 : Jvm.Cond.selects "CardLink$ResetAnswer" (⟨"CardLink$ResetAnswer", "readGroups", "(LCardLink$Row;)I"⟩ : Jvm.MethodName) (⟨"CardLink$ResetAnswer", "readGroups", "(LCardLink$Row;)I"⟩ : Jvm.MethodName) ∈ gW := gW_of (List.mem_of_getElem? (i := 2) (by decide +kernel)) rfl
theorem t_3 : Jvm.Cond.selects "CardLink$ResetAnswer" (⟨"CardLink$ResetAnswer", "readGroupByte", "(III)I"⟩ : Jvm.MethodName) (⟨"CardLink$ResetAnswer", "readGroupByte", "(III)I"⟩ : Jvm.MethodName) ∈ gW := gW_of (List.mem_of_getElem? (i := 3) (by decide +kernel)) rfl
theorem t_4 : Jvm.Cond.selects "CardLink$ResetAnswer" (⟨"CardLink$ResetAnswer", "readTd", "(II)I"⟩ : Jvm.MethodName) (⟨"CardLink$ResetAnswer", "readTd", "(II)I"⟩ : Jvm.MethodName) ∈ gW := gW_of (List.mem_of_getElem? (i := 4) (by decide +kernel)) rfl
theorem t_5 : Jvm.Cond.selects "CardLink$ResetAnswer" (⟨"CardLink$ResetAnswer", "readFirstGroup", "(II)I"⟩ : Jvm.MethodName) (⟨"CardLink$ResetAnswer", "readFirstGroup", "(II)I"⟩ : Jvm.MethodName) ∈ gW := gW_of (List.mem_of_getElem? (i := 5) (by decide +kernel)) rfl
theorem t_6 : Jvm.Cond.selects "CardLink$ResetAnswer" (⟨"CardLink$ResetAnswer", "readLinkGroup", "(II)I"⟩ : Jvm.MethodName) (⟨"CardLink$ResetAnswer", "readLinkGroup", "(II)I"⟩ : Jvm.MethodName) ∈ gW := gW_of (List.mem_of_getElem? (i := 6) (by decide +kernel)) rfl
theorem t_7 : Jvm.Cond.selects "CardLink$ResetAnswer" (⟨"CardLink$ResetAnswer", "readTail", "(LCardLink$Row;I)I"⟩ : Jvm.MethodName) (⟨"CardLink$ResetAnswer", "readTail", "(LCardLink$Row;I)I"⟩ : Jvm.MethodName) ∈ gW := gW_of (List.mem_of_getElem? (i := 7) (by decide +kernel)) rfl
theorem t_8 : Jvm.Cond.selects "CardLink" (⟨"CardLink", "mayStart", "()Z"⟩ : Jvm.MethodName) (⟨"CardLink", "mayStart", "()Z"⟩ : Jvm.MethodName) ∈ gW := gW_of (List.mem_of_getElem? (i := 8) (by decide +kernel)) rfl
theorem t_9 : Jvm.Cond.selects "CardLink$Line" (⟨"CardLink$Line", "begin", "(I)V"⟩ : Jvm.MethodName) (⟨"CardLink$Line", "begin", "(I)V"⟩ : Jvm.MethodName) ∈ gW := gW_of (List.mem_of_getElem? (i := 9) (by decide +kernel)) rfl
theorem t_10 : Jvm.Cond.selects "CardLink$Wire" (⟨"CardLink$Wire", "makePlace", "(I)V"⟩ : Jvm.MethodName) (⟨"CardLink$Wire", "makePlace", "(I)V"⟩ : Jvm.MethodName) ∈ gW := gW_of (List.mem_of_getElem? (i := 10) (by decide +kernel)) rfl
theorem t_11 : Jvm.Cond.selects "CardLink" (⟨"CardLink", "onWay", "()Z"⟩ : Jvm.MethodName) (⟨"CardLink", "onWay", "()Z"⟩ : Jvm.MethodName) ∈ gW := gW_of (List.mem_of_getElem? (i := 11) (by decide +kernel)) rfl
theorem t_12 : Jvm.Cond.selects "CardLink$Line" (⟨"CardLink$Line", "firstKind", "()I"⟩ : Jvm.MethodName) (⟨"CardLink$Line", "firstKind", "()I"⟩ : Jvm.MethodName) ∈ gW := gW_of (List.mem_of_getElem? (i := 12) (by decide +kernel)) rfl
theorem t_13 : Jvm.Cond.selects "CardLink$Line" (⟨"CardLink$Line", "readerKind", "()I"⟩ : Jvm.MethodName) (⟨"CardLink$Line", "readerKind", "()I"⟩ : Jvm.MethodName) ∈ gW := gW_of (List.mem_of_getElem? (i := 13) (by decide +kernel)) rfl
theorem t_14 : Jvm.Cond.selects "CardLink$Line" (⟨"CardLink$Line", "onBroken", "(LCardLink$Side;)I"⟩ : Jvm.MethodName) (⟨"CardLink$Line", "onBroken", "(LCardLink$Side;)I"⟩ : Jvm.MethodName) ∈ gW := gW_of (List.mem_of_getElem? (i := 14) (by decide +kernel)) rfl
theorem t_15 : Jvm.Cond.selects "CardLink$Line" (⟨"CardLink$Line", "readerOnAnswer", "()I"⟩ : Jvm.MethodName) (⟨"CardLink$Line", "readerOnAnswer", "()I"⟩ : Jvm.MethodName) ∈ gW := gW_of (List.mem_of_getElem? (i := 15) (by decide +kernel)) rfl
theorem t_16 : Jvm.Cond.selects "CardLink$Line" (⟨"CardLink$Line", "isAnswerTo", "(LCardLink$Side;)Z"⟩ : Jvm.MethodName) (⟨"CardLink$Line", "isAnswerTo", "(LCardLink$Side;)Z"⟩ : Jvm.MethodName) ∈ gW := gW_of (List.mem_of_getElem? (i := 16) (by decide +kernel)) rfl
theorem t_17 : Jvm.Cond.selects "CardLink$Line" (⟨"CardLink$Line", "finish", "(I)I"⟩ : Jvm.MethodName) (⟨"CardLink$Line", "finish", "(I)I"⟩ : Jvm.MethodName) ∈ gW := gW_of (List.mem_of_getElem? (i := 17) (by decide +kernel)) rfl
theorem t_18 : Jvm.Cond.selects "CardLink$Line" (⟨"CardLink$Line", "onRequest", "(LCardLink$Side;LCardLink$Side;I)I"⟩ : Jvm.MethodName) (⟨"CardLink$Line", "onRequest", "(LCardLink$Side;LCardLink$Side;I)I"⟩ : Jvm.MethodName) ∈ gW := gW_of (List.mem_of_getElem? (i := 18) (by decide +kernel)) rfl
theorem t_19 : Jvm.Cond.selects "CardLink$Line" (⟨"CardLink$Line", "refuse", "(LCardLink$Side;)I"⟩ : Jvm.MethodName) (⟨"CardLink$Line", "refuse", "(LCardLink$Side;)I"⟩ : Jvm.MethodName) ∈ gW := gW_of (List.mem_of_getElem? (i := 19) (by decide +kernel)) rfl
theorem t_20 : Jvm.Cond.selects "CardLink$Line" (⟨"CardLink$Line", "onI", "(LCardLink$Side;I)I"⟩ : Jvm.MethodName) (⟨"CardLink$Line", "onI", "(LCardLink$Side;I)I"⟩ : Jvm.MethodName) ∈ gW := gW_of (List.mem_of_getElem? (i := 20) (by decide +kernel)) rfl
theorem t_21 : Jvm.Cond.selects "CardLink$Line" (⟨"CardLink$Line", "onReceipt", "(LCardLink$Side;I)I"⟩ : Jvm.MethodName) (⟨"CardLink$Line", "onReceipt", "(LCardLink$Side;I)I"⟩ : Jvm.MethodName) ∈ gW := gW_of (List.mem_of_getElem? (i := 21) (by decide +kernel)) rfl
theorem t_22 : Jvm.Cond.selects "CardLink$Line" (⟨"CardLink$Line", "countTries", "(I)I"⟩ : Jvm.MethodName) (⟨"CardLink$Line", "countTries", "(I)I"⟩ : Jvm.MethodName) ∈ gW := gW_of (List.mem_of_getElem? (i := 22) (by decide +kernel)) rfl
theorem t_23 : Jvm.Cond.selects "CardLink$Line" (⟨"CardLink$Line", "send", "(LCardLink$Side;LCardLink$Side;I)V"⟩ : Jvm.MethodName) (⟨"CardLink$Line", "send", "(LCardLink$Side;LCardLink$Side;I)V"⟩ : Jvm.MethodName) ∈ gW := gW_of (List.mem_of_getElem? (i := 23) (by decide +kernel)) rfl
theorem t_24 : Jvm.Cond.selects "CardLink$Line" (⟨"CardLink$Line", "compose", "(LCardLink$Side;I)V"⟩ : Jvm.MethodName) (⟨"CardLink$Line", "compose", "(LCardLink$Side;I)V"⟩ : Jvm.MethodName) ∈ gW := gW_of (List.mem_of_getElem? (i := 24) (by decide +kernel)) rfl
theorem t_25 : Jvm.Cond.selects "CardLink$Wire" (⟨"CardLink$Wire", "sendLetter", "()I"⟩ : Jvm.MethodName) (⟨"CardLink$Wire", "sendLetter", "()I"⟩ : Jvm.MethodName) ∈ gW := gW_of (List.mem_of_getElem? (i := 25) (by decide +kernel)) rfl
theorem t_26 : Jvm.Cond.selects "CardLink$Wire" (⟨"CardLink$Wire", "dropNearest", "()V"⟩ : Jvm.MethodName) (⟨"CardLink$Wire", "dropNearest", "()V"⟩ : Jvm.MethodName) ∈ gW := gW_of (List.mem_of_getElem? (i := 26) (by decide +kernel)) rfl
theorem t_27 : Jvm.Cond.selects "CardLink$Line" (⟨"CardLink$Line", "judge", "(II)I"⟩ : Jvm.MethodName) (⟨"CardLink$Line", "judge", "(II)I"⟩ : Jvm.MethodName) ∈ gW := gW_of (List.mem_of_getElem? (i := 27) (by decide +kernel)) rfl
theorem t_28 : Jvm.Cond.selects "CardLink$Line" (⟨"CardLink$Line", "isWellFormed", "(III)Z"⟩ : Jvm.MethodName) (⟨"CardLink$Line", "isWellFormed", "(III)Z"⟩ : Jvm.MethodName) ∈ gW := gW_of (List.mem_of_getElem? (i := 28) (by decide +kernel)) rfl
theorem t_29 : Jvm.Cond.selects "CardLink$Journal" (⟨"CardLink$Journal", "isBlock", "(IILCardLink$Row;)Z"⟩ : Jvm.MethodName) (⟨"CardLink$Journal", "isBlock", "(IILCardLink$Row;)Z"⟩ : Jvm.MethodName) ∈ gW := gW_of (List.mem_of_getElem? (i := 29) (by decide +kernel)) rfl
theorem t_30 : Jvm.Cond.selects "CardLink$Journal" (⟨"CardLink$Journal", "addUnlike", "(ILCardLink$Row;I)I"⟩ : Jvm.MethodName) (⟨"CardLink$Journal", "addUnlike", "(ILCardLink$Row;I)I"⟩ : Jvm.MethodName) ∈ gW := gW_of (List.mem_of_getElem? (i := 30) (by decide +kernel)) rfl
theorem t_31 : Jvm.Cond.selects "CardLink$Line" (⟨"CardLink$Line", "cardKind", "()I"⟩ : Jvm.MethodName) (⟨"CardLink$Line", "cardKind", "()I"⟩ : Jvm.MethodName) ∈ gW := gW_of (List.mem_of_getElem? (i := 31) (by decide +kernel)) rfl
theorem t_32 : Jvm.Cond.selects "CardLink$Line" (⟨"CardLink$Line", "putFirstByte", "()I"⟩ : Jvm.MethodName) (⟨"CardLink$Line", "putFirstByte", "()I"⟩ : Jvm.MethodName) ∈ gW := gW_of (List.mem_of_getElem? (i := 32) (by decide +kernel)) rfl
theorem t_33 : Jvm.Cond.selects "CardLink$Line" (⟨"CardLink$Line", "cardOnAnswer", "()I"⟩ : Jvm.MethodName) (⟨"CardLink$Line", "cardOnAnswer", "()I"⟩ : Jvm.MethodName) ∈ gW := gW_of (List.mem_of_getElem? (i := 33) (by decide +kernel)) rfl
theorem t_34 : Jvm.Cond.selects "CardLink$Line" (⟨"CardLink$Line", "putBehindThird", "()I"⟩ : Jvm.MethodName) (⟨"CardLink$Line", "putBehindThird", "()I"⟩ : Jvm.MethodName) ∈ gW := gW_of (List.mem_of_getElem? (i := 34) (by decide +kernel)) rfl
theorem t_35 : Jvm.Cond.selects "CardLink$Line" (⟨"CardLink$Line", "doMessage", "()I"⟩ : Jvm.MethodName) (⟨"CardLink$Line", "doMessage", "()I"⟩ : Jvm.MethodName) ∈ gW := gW_of (List.mem_of_getElem? (i := 35) (by decide +kernel)) rfl
theorem t_36 : Jvm.Cond.selects "CardLink$Line" (⟨"CardLink$Line", "putCounting", "(I)I"⟩ : Jvm.MethodName) (⟨"CardLink$Line", "putCounting", "(I)I"⟩ : Jvm.MethodName) ∈ gW := gW_of (List.mem_of_getElem? (i := 36) (by decide +kernel)) rfl
theorem t_37 : Jvm.Cond.selects "CardLink" (⟨"CardLink", "sideOf", "(I)LCardLink$Side;"⟩ : Jvm.MethodName) (⟨"CardLink", "sideOf", "(I)LCardLink$Side;"⟩ : Jvm.MethodName) ∈ gW := gW_of (List.mem_of_getElem? (i := 37) (by decide +kernel)) rfl
theorem t_38 : Jvm.Cond.selects "CardLink" (⟨"CardLink", "feedEight", "(J)V"⟩ : Jvm.MethodName) (⟨"CardLink", "feedEight", "(J)V"⟩ : Jvm.MethodName) ∈ gW := gW_of (List.mem_of_getElem? (i := 38) (by decide +kernel)) rfl
theorem t_39 : Jvm.Cond.selects "CardLink$Journal" (⟨"CardLink$Journal", "placeOf", "(I)I"⟩ : Jvm.MethodName) (⟨"CardLink$Journal", "placeOf", "(I)I"⟩ : Jvm.MethodName) ∈ gW := gW_of (List.mem_of_getElem? (i := 39) (by decide +kernel)) rfl
theorem t_41 : (Jvm.Cond.initialized "CardLinkLaw") ∈ gW := gW_of (List.mem_of_getElem? (i := 41) (by decide +kernel)) rfl
theorem t_42 : (Jvm.Cond.initialized "CardLink") ∈ gW := gW_of (List.mem_of_getElem? (i := 42) (by decide +kernel)) rfl
theorem t_43 : (Jvm.Cond.initialized "CardLink$Row") ∈ gW := gW_of (List.mem_of_getElem? (i := 43) (by decide +kernel)) rfl
theorem t_44 : (Jvm.Cond.initialized "java/lang/Math") ∈ gW := gW_of (List.mem_of_getElem? (i := 44) (by decide +kernel)) rfl
theorem t_45 : (Jvm.Cond.initialized "CardLink$Journal") ∈ gW := gW_of (List.mem_of_getElem? (i := 45) (by decide +kernel)) rfl
theorem t_46 : (Jvm.Cond.initialized "CardLink$Line") ∈ gW := gW_of (List.mem_of_getElem? (i := 46) (by decide +kernel)) rfl
theorem t_47 : (Jvm.Cond.initialized "CardLink$Side") ∈ gW := gW_of (List.mem_of_getElem? (i := 47) (by decide +kernel)) rfl
theorem t_48 : (Jvm.Cond.initialized "CardLink$Wire") ∈ gW := gW_of (List.mem_of_getElem? (i := 48) (by decide +kernel)) rfl
theorem t_49 : (Jvm.Cond.initialized "CardLink$Forecast") ∈ gW := gW_of (List.mem_of_getElem? (i := 49) (by decide +kernel)) rfl
theorem t_50 : (Jvm.Cond.initialized "CardLink$ResetAnswer") ∈ gW := gW_of (List.mem_of_getElem? (i := 50) (by decide +kernel)) rfl
theorem t_51 : (Jvm.Cond.initialized "java/lang/System") ∈ gW := gW_of (List.mem_of_getElem? (i := 51) (by decide +kernel)) rfl
theorem t_52 : (Jvm.Cond.initialized "java/util/Arrays") ∈ gW := gW_of (List.mem_of_getElem? (i := 52) (by decide +kernel)) rfl
theorem t_53 : (Jvm.Cond.initialized "java/lang/Throwable") ∈ gW := gW_of (List.mem_of_getElem? (i := 53) (by decide +kernel)) rfl
theorem t_54 : (Jvm.Cond.initialized "java/lang/Exception") ∈ gW := gW_of (List.mem_of_getElem? (i := 54) (by decide +kernel)) rfl
theorem t_55 : (Jvm.Cond.initialized "java/lang/RuntimeException") ∈ gW := gW_of (List.mem_of_getElem? (i := 55) (by decide +kernel)) rfl
theorem t_56 : (Jvm.Cond.initialized "java/util/NoSuchElementException") ∈ gW := gW_of (List.mem_of_getElem? (i := 56) (by decide +kernel)) rfl
theorem t_57 : (Jvm.Cond.classLink "CardLinkLaw" (9 : Nat) "CardLink") ∈ gW := gW_of (List.mem_of_getElem? (i := 57) (by decide +kernel)) rfl
theorem t_58 : (Jvm.Cond.instantiable "CardLink" (7 : Nat)) ∈ gW := gW_of (List.mem_of_getElem? (i := 58) (by decide +kernel)) rfl
theorem t_59 : (Jvm.Cond.methodLink "CardLinkLaw" (40 : Nat) ({ cls := "CardLink", name := "<init>", desc := "()V" } : Jvm.MethodName)) ∈ gW := gW_of (List.mem_of_getElem? (i := 59) (by decide +kernel)) rfl
theorem t_60 : (Jvm.Cond.instanceMethod ({ cls := "CardLink", name := "<init>", desc := "()V" } : Jvm.MethodName)) ∈ gW := gW_of (List.mem_of_getElem? (i := 60) (by decide +kernel)) rfl
theorem t_61 : (Jvm.Cond.code ({ cls := "CardLink", name := "<init>", desc := "()V" } : Jvm.MethodName) prog_1_method_1_code (1 : Nat) (Option.none : Option Jvm.ClassFile.FieldType)) ∈ gW := gW_of (List.mem_of_getElem? (i := 61) (by decide +kernel)) rfl
theorem t_62 : (Jvm.Cond.methodLink "CardLink" (1 : Nat) ({ cls := "java/lang/Object", name := "<init>", desc := "()V" } : Jvm.MethodName)) ∈ gW := gW_of (List.mem_of_getElem? (i := 62) (by decide +kernel)) rfl
theorem t_63 : (Jvm.Cond.instanceMethod ({ cls := "java/lang/Object", name := "<init>", desc := "()V" } : Jvm.MethodName)) ∈ gW := gW_of (List.mem_of_getElem? (i := 63) (by decide +kernel)) rfl
theorem t_64 : (Jvm.Cond.code ({ cls := "java/lang/Object", name := "<init>", desc := "()V" } : Jvm.MethodName) object_method_1_code (1 : Nat) (Option.none : Option Jvm.ClassFile.FieldType)) ∈ gW := gW_of (List.mem_of_getElem? (i := 64) (by decide +kernel)) rfl
theorem t_65 : (Jvm.Cond.classLink "CardLink" (7 : Nat) "CardLink$Row") ∈ gW := gW_of (List.mem_of_getElem? (i := 65) (by decide +kernel)) rfl
theorem t_66 : (Jvm.Cond.instantiable "CardLink$Row" (3 : Nat)) ∈ gW := gW_of (List.mem_of_getElem? (i := 66) (by decide +kernel)) rfl
theorem t_67 : (Jvm.Cond.methodLink "CardLink" (11 : Nat) ({ cls := "CardLink$Row", name := "<init>", desc := "(II)V" } : Jvm.MethodName)) ∈ gW := gW_of (List.mem_of_getElem? (i := 67) (by decide +kernel)) rfl
theorem t_68 : (Jvm.Cond.instanceMethod ({ cls := "CardLink$Row", name := "<init>", desc := "(II)V" } : Jvm.MethodName)) ∈ gW := gW_of (List.mem_of_getElem? (i := 68) (by decide +kernel)) rfl
theorem t_69 : (Jvm.Cond.code ({ cls := "CardLink$Row", name := "<init>", desc := "(II)V" } : Jvm.MethodName) prog_6_method_1_code (3 : Nat) (Option.none : Option Jvm.ClassFile.FieldType)) ∈ gW := gW_of (List.mem_of_getElem? (i := 69) (by decide +kernel)) rfl
theorem t_70 : (Jvm.Cond.methodLink "CardLink$Row" (1 : Nat) ({ cls := "java/lang/Object", name := "<init>", desc := "()V" } : Jvm.MethodName)) ∈ gW := gW_of (List.mem_of_getElem? (i := 70) (by decide +kernel)) rfl
theorem t_71 : (Jvm.Cond.methodLink "CardLink$Row" (13 : Nat) ({ cls := "java/lang/Math", name := "max", desc := "(II)I" } : Jvm.MethodName)) ∈ gW := gW_of (List.mem_of_getElem? (i := 71) (by decide +kernel)) rfl
theorem t_72 : (Jvm.Cond.static ({ cls := "java/lang/Math", name := "max", desc := "(II)I" } : Jvm.MethodName)) ∈ gW := gW_of (List.mem_of_getElem? (i := 72) (by decide +kernel)) rfl
theorem t_73 : (Jvm.Cond.code ({ cls := "java/lang/Math", name := "max", desc := "(II)I" } : Jvm.MethodName) prog_14_method_65_code (2 : Nat) (Option.some Jvm.ClassFile.FieldType.int)) ∈ gW := gW_of (List.mem_of_getElem? (i := 73) (by decide +kernel)) rfl
theorem t_74 : (Jvm.Cond.fieldLink "CardLink$Row" (19 : Nat) "CardLink$Row" "items" "[I") ∈ gW := gW_of (List.mem_of_getElem? (i := 74) (by decide +kernel)) rfl
theorem t_75 : (Jvm.Cond.fieldLink "CardLink$Row" (7 : Nat) "CardLink$Row" "length" "I") ∈ gW := gW_of (List.mem_of_getElem? (i := 75) (by decide +kernel)) rfl
theorem t_76 : (Jvm.Cond.fieldLink "CardLink$Row" (23 : Nat) "CardLink$Row" "most" "I") ∈ gW := gW_of (List.mem_of_getElem? (i := 76) (by decide +kernel)) rfl
theorem t_84 : (Jvm.Cond.arrayClass Jvm.ClassFile.FieldType.int) ∈ gW := gW_of (List.mem_of_getElem? (i := 84) (by decide +kernel)) rfl
theorem t_85 : (Jvm.Cond.classLink "CardLink" (18 : Nat) "CardLink$Journal") ∈ gW := gW_of (List.mem_of_getElem? (i := 85) (by decide +kernel)) rfl
theorem t_86 : (Jvm.Cond.instantiable "CardLink$Journal" (9 : Nat)) ∈ gW := gW_of (List.mem_of_getElem? (i := 86) (by decide +kernel)) rfl
theorem t_88 : (Jvm.Cond.instanceMethod ({ cls := "CardLink$Journal", name := "<init>", desc := "()V" } : Jvm.MethodName)) ∈ gW := gW_of (List.mem_of_getElem? (i := 88) (by decide +kernel)) rfl
theorem t_89 : (Jvm.Cond.code ({ cls := "CardLink$Journal", name := "<init>", desc := "()V" } : Jvm.MethodName) prog_3_method_1_code (1 : Nat) (Option.none : Option Jvm.ClassFile.FieldType)) ∈ gW := gW_of (List.mem_of_getElem? (i := 89) (by decide +kernel)) rfl
theorem t_90 : (Jvm.Cond.methodLink "CardLink$Journal" (3 : Nat) ({ cls := "java/lang/Object", name := "<init>", desc := "()V" } : Jvm.MethodName)) ∈ gW := gW_of (List.mem_of_getElem? (i := 90) (by decide +kernel)) rfl
theorem t_91 : (Jvm.Cond.classLink "CardLink$Journal" (9 : Nat) "CardLink$Row") ∈ gW := gW_of (List.mem_of_getElem? (i := 91) (by decide +kernel)) rfl
theorem t_92 : (Jvm.Cond.constant "CardLink$Journal" (13 : Nat) (1048576 : Int32)) ∈ gW := gW_of (List.mem_of_getElem? (i := 92) (by decide +kernel)) rfl
theorem t_93 : (Jvm.Cond.methodLink "CardLink$Journal" (14 : Nat) ({ cls := "CardLink$Row", name := "<init>", desc := "(II)V" } : Jvm.MethodName)) ∈ gW := gW_of (List.mem_of_getElem? (i := 93) (by decide +kernel)) rfl
theorem t_94 : (Jvm.Cond.constant "CardLink$Journal" (21 : Nat) (65536 : Int32)) ∈ gW := gW_of (List.mem_of_getElem? (i := 94) (by decide +kernel)) rfl
theorem t_95 : (Jvm.Cond.fieldLink "CardLink$Journal" (17 : Nat) "CardLink$Journal" "bytes" "LCardLink$Row;") ∈ gW := gW_of (List.mem_of_getElem? (i := 95) (by decide +kernel)) rfl
theorem t_96 : (Jvm.Cond.fieldLink "CardLink$Journal" (22 : Nat) "CardLink$Journal" "starts" "LCardLink$Row;") ∈ gW := gW_of (List.mem_of_getElem? (i := 96) (by decide +kernel)) rfl
theorem t_97 : (Jvm.Cond.fieldLink "CardLink$Journal" (25 : Nat) "CardLink$Journal" "times" "LCardLink$Row;") ∈ gW := gW_of (List.mem_of_getElem? (i := 97) (by decide +kernel)) rfl
theorem t_98 : (Jvm.Cond.fieldLink "CardLink$Journal" (28 : Nat) "CardLink$Journal" "following" "LCardLink$Row;") ∈ gW := gW_of (List.mem_of_getElem? (i := 98) (by decide +kernel)) rfl
theorem t_99 : (Jvm.Cond.fieldLink "CardLink$Journal" (31 : Nat) "CardLink$Journal" "chains" "LCardLink$Row;") ∈ gW := gW_of (List.mem_of_getElem? (i := 99) (by decide +kernel)) rfl
theorem t_100 : (Jvm.Cond.fieldLink "CardLink$Journal" (34 : Nat) "CardLink$Journal" "latest" "LCardLink$Row;") ∈ gW := gW_of (List.mem_of_getElem? (i := 100) (by decide +kernel)) rfl
theorem t_101 : (Jvm.Cond.fieldLink "CardLink$Journal" (37 : Nat) "CardLink$Journal" "outcomes" "LCardLink$Row;") ∈ gW := gW_of (List.mem_of_getElem? (i := 101) (by decide +kernel)) rfl
theorem t_102 : (Jvm.Cond.fieldLink "CardLink$Journal" (40 : Nat) "CardLink$Journal" "took" "LCardLink$Row;") ∈ gW := gW_of (List.mem_of_getElem? (i := 102) (by decide +kernel)) rfl
theorem t_103 : (Jvm.Cond.fieldLink "CardLink$Journal" (43 : Nat) "CardLink$Journal" "newest" "I") ∈ gW := gW_of (List.mem_of_getElem? (i := 103) (by decide +kernel)) rfl
theorem t_123 : (Jvm.Cond.classLink "CardLink" (25 : Nat) "CardLink$Line") ∈ gW := gW_of (List.mem_of_getElem? (i := 123) (by decide +kernel)) rfl
theorem t_124 : (Jvm.Cond.instantiable "CardLink$Line" (18 : Nat)) ∈ gW := gW_of (List.mem_of_getElem? (i := 124) (by decide +kernel)) rfl
theorem t_125 : (Jvm.Cond.methodLink "CardLink" (27 : Nat) ({ cls := "CardLink$Line", name := "<init>", desc := "(LCardLink$Journal;)V" } : Jvm.MethodName)) ∈ gW := gW_of (List.mem_of_getElem? (i := 125) (by decide +kernel)) rfl
theorem t_126 : (Jvm.Cond.instanceMethod ({ cls := "CardLink$Line", name := "<init>", desc := "(LCardLink$Journal;)V" } : Jvm.MethodName)) ∈ gW := gW_of (List.mem_of_getElem? (i := 126) (by decide +kernel)) rfl
theorem t_127 : (Jvm.Cond.code ({ cls := "CardLink$Line", name := "<init>", desc := "(LCardLink$Journal;)V" } : Jvm.MethodName) prog_4_method_1_code (2 : Nat) (Option.none : Option Jvm.ClassFile.FieldType)) ∈ gW := gW_of (List.mem_of_getElem? (i := 127) (by decide +kernel)) rfl
theorem t_128 : (Jvm.Cond.methodLink "CardLink$Line" (3 : Nat) ({ cls := "java/lang/Object", name := "<init>", desc := "()V" } : Jvm.MethodName)) ∈ gW := gW_of (List.mem_of_getElem? (i := 128) (by decide +kernel)) rfl
theorem t_129 : (Jvm.Cond.classLink "CardLink$Line" (9 : Nat) "CardLink$Side") ∈ gW := gW_of (List.mem_of_getElem? (i := 129) (by decide +kernel)) rfl
theorem t_130 : (Jvm.Cond.instantiable "CardLink$Side" (15 : Nat)) ∈ gW := gW_of (List.mem_of_getElem? (i := 130) (by decide +kernel)) rfl
theorem t_131 : (Jvm.Cond.methodLink "CardLink$Line" (11 : Nat) ({ cls := "CardLink$Side", name := "<init>", desc := "(I)V" } : Jvm.MethodName)) ∈ gW := gW_of (List.mem_of_getElem? (i := 131) (by decide +kernel)) rfl
theorem t_132 : (Jvm.Cond.instanceMethod ({ cls := "CardLink$Side", name := "<init>", desc := "(I)V" } : Jvm.MethodName)) ∈ gW := gW_of (List.mem_of_getElem? (i := 132) (by decide +kernel)) rfl
theorem t_133 : (Jvm.Cond.code ({ cls := "CardLink$Side", name := "<init>", desc := "(I)V" } : Jvm.MethodName) prog_7_method_1_code (2 : Nat) (Option.none : Option Jvm.ClassFile.FieldType)) ∈ gW := gW_of (List.mem_of_getElem? (i := 133) (by decide +kernel)) rfl
theorem t_134 : (Jvm.Cond.methodLink "CardLink$Side" (3 : Nat) ({ cls := "java/lang/Object", name := "<init>", desc := "()V" } : Jvm.MethodName)) ∈ gW := gW_of (List.mem_of_getElem? (i := 134) (by decide +kernel)) rfl
theorem t_135 : (Jvm.Cond.classLink "CardLink$Side" (33 : Nat) "CardLink$Row") ∈ gW := gW_of (List.mem_of_getElem? (i := 135) (by decide +kernel)) rfl
theorem t_136 : (Jvm.Cond.methodLink "CardLink$Side" (35 : Nat) ({ cls := "CardLink$Row", name := "<init>", desc := "(II)V" } : Jvm.MethodName)) ∈ gW := gW_of (List.mem_of_getElem? (i := 136) (by decide +kernel)) rfl
theorem t_137 : (Jvm.Cond.fieldLink "CardLink$Side" (61 : Nat) "CardLink$Side" "number" "I") ∈ gW := gW_of (List.mem_of_getElem? (i := 137) (by decide +kernel)) rfl
theorem t_138 : (Jvm.Cond.fieldLink "CardLink$Line" (267 : Nat) "CardLink$Side" "number" "I") ∈ gW := gW_of (List.mem_of_getElem? (i := 138) (by decide +kernel)) rfl
theorem t_139 : (Jvm.Cond.fieldLink "CardLink$Side" (9 : Nat) "CardLink$Side" "next" "I") ∈ gW := gW_of (List.mem_of_getElem? (i := 139) (by decide +kernel)) rfl
theorem t_140 : (Jvm.Cond.fieldLink "CardLink$Line" (226 : Nat) "CardLink$Side" "next" "I") ∈ gW := gW_of (List.mem_of_getElem? (i := 140) (by decide +kernel)) rfl
theorem t_141 : (Jvm.Cond.fieldLink "CardLink$Side" (15 : Nat) "CardLink$Side" "wanted" "I") ∈ gW := gW_of (List.mem_of_getElem? (i := 141) (by decide +kernel)) rfl
theorem t_142 : (Jvm.Cond.fieldLink "CardLink$Line" (204 : Nat) "CardLink$Side" "wanted" "I") ∈ gW := gW_of (List.mem_of_getElem? (i := 142) (by decide +kernel)) rfl
theorem t_143 : (Jvm.Cond.fieldLink "CardLink$Side" (18 : Nat) "CardLink$Side" "room" "I") ∈ gW := gW_of (List.mem_of_getElem? (i := 143) (by decide +kernel)) rfl
theorem t_144 : (Jvm.Cond.fieldLink "CardLink$Line" (115 : Nat) "CardLink$Side" "room" "I") ∈ gW := gW_of (List.mem_of_getElem? (i := 144) (by decide +kernel)) rfl
theorem t_145 : (Jvm.Cond.fieldLink "CardLink$Side" (21 : Nat) "CardLink$Side" "through" "I") ∈ gW := gW_of (List.mem_of_getElem? (i := 145) (by decide +kernel)) rfl
theorem t_146 : (Jvm.Cond.fieldLink "CardLink$Line" (105 : Nat) "CardLink$Side" "through" "I") ∈ gW := gW_of (List.mem_of_getElem? (i := 146) (by decide +kernel)) rfl
theorem t_147 : (Jvm.Cond.fieldLink "CardLink$Side" (24 : Nat) "CardLink$Side" "asked" "I") ∈ gW := gW_of (List.mem_of_getElem? (i := 147) (by decide +kernel)) rfl
theorem t_148 : (Jvm.Cond.fieldLink "CardLink$Line" (149 : Nat) "CardLink$Side" "asked" "I") ∈ gW := gW_of (List.mem_of_getElem? (i := 148) (by decide +kernel)) rfl
theorem t_149 : (Jvm.Cond.fieldLink "CardLink$Side" (27 : Nat) "CardLink$Side" "askedInf" "I") ∈ gW := gW_of (List.mem_of_getElem? (i := 149) (by decide +kernel)) rfl
theorem t_150 : (Jvm.Cond.fieldLink "CardLink$Line" (194 : Nat) "CardLink$Side" "askedInf" "I") ∈ gW := gW_of (List.mem_of_getElem? (i := 150) (by decide +kernel)) rfl
theorem t_151 : (Jvm.Cond.fieldLink "CardLink$Side" (30 : Nat) "CardLink$Side" "messages" "I") ∈ gW := gW_of (List.mem_of_getElem? (i := 151) (by decide +kernel)) rfl
theorem t_152 : (Jvm.Cond.fieldLink "CardLink" (153 : Nat) "CardLink$Side" "messages" "I") ∈ gW := gW_of (List.mem_of_getElem? (i := 152) (by decide +kernel)) rfl
theorem t_153 : (Jvm.Cond.fieldLink "CardLink$Side" (38 : Nat) "CardLink$Side" "out" "LCardLink$Row;") ∈ gW := gW_of (List.mem_of_getElem? (i := 153) (by decide +kernel)) rfl
theorem t_154 : (Jvm.Cond.fieldLink "CardLink$Line" (102 : Nat) "CardLink$Side" "out" "LCardLink$Row;") ∈ gW := gW_of (List.mem_of_getElem? (i := 154) (by decide +kernel)) rfl
theorem t_155 : (Jvm.Cond.fieldLink "CardLink$Side" (42 : Nat) "CardLink$Side" "got" "LCardLink$Row;") ∈ gW := gW_of (List.mem_of_getElem? (i := 155) (by decide +kernel)) rfl
theorem t_156 : (Jvm.Cond.fieldLink "CardLink" (156 : Nat) "CardLink$Side" "got" "LCardLink$Row;") ∈ gW := gW_of (List.mem_of_getElem? (i := 156) (by decide +kernel)) rfl
theorem t_157 : (Jvm.Cond.fieldLink "CardLink$Line" (235 : Nat) "CardLink$Side" "got" "LCardLink$Row;") ∈ gW := gW_of (List.mem_of_getElem? (i := 157) (by decide +kernel)) rfl
theorem t_158 : (Jvm.Cond.fieldLink "CardLink$Side" (45 : Nat) "CardLink$Side" "in" "LCardLink$Row;") ∈ gW := gW_of (List.mem_of_getElem? (i := 158) (by decide +kernel)) rfl
theorem t_159 : (Jvm.Cond.fieldLink "CardLink$Side" (48 : Nat) "CardLink$Side" "pending" "I") ∈ gW := gW_of (List.mem_of_getElem? (i := 159) (by decide +kernel)) rfl
theorem t_160 : (Jvm.Cond.fieldLink "CardLink$Side" (51 : Nat) "CardLink$Side" "pendingMore" "Z") ∈ gW := gW_of (List.mem_of_getElem? (i := 160) (by decide +kernel)) rfl
theorem t_161 : (Jvm.Cond.fieldLink "CardLink$Side" (55 : Nat) "CardLink$Side" "latestKind" "I") ∈ gW := gW_of (List.mem_of_getElem? (i := 161) (by decide +kernel)) rfl
theorem t_162 : (Jvm.Cond.fieldLink "CardLink$Side" (58 : Nat) "CardLink$Side" "sent" "I") ∈ gW := gW_of (List.mem_of_getElem? (i := 162) (by decide +kernel)) rfl
theorem t_194 : (Jvm.Cond.classLink "CardLink$Line" (23 : Nat) "CardLink$Wire") ∈ gW := gW_of (List.mem_of_getElem? (i := 194) (by decide +kernel)) rfl
theorem t_195 : (Jvm.Cond.instantiable "CardLink$Wire" (10 : Nat)) ∈ gW := gW_of (List.mem_of_getElem? (i := 195) (by decide +kernel)) rfl
theorem t_197 : (Jvm.Cond.instanceMethod ({ cls := "CardLink$Wire", name := "<init>", desc := "()V" } : Jvm.MethodName)) ∈ gW := gW_of (List.mem_of_getElem? (i := 197) (by decide +kernel)) rfl
theorem t_198 : (Jvm.Cond.code ({ cls := "CardLink$Wire", name := "<init>", desc := "()V" } : Jvm.MethodName) prog_8_method_1_code (1 : Nat) (Option.none : Option Jvm.ClassFile.FieldType)) ∈ gW := gW_of (List.mem_of_getElem? (i := 198) (by decide +kernel)) rfl
theorem t_199 : (Jvm.Cond.methodLink "CardLink$Wire" (3 : Nat) ({ cls := "java/lang/Object", name := "<init>", desc := "()V" } : Jvm.MethodName)) ∈ gW := gW_of (List.mem_of_getElem? (i := 199) (by decide +kernel)) rfl
theorem t_200 : (Jvm.Cond.fieldLink "CardLink$Wire" (9 : Nat) "CardLink$Wire" "repeats" "I") ∈ gW := gW_of (List.mem_of_getElem? (i := 200) (by decide +kernel)) rfl
theorem t_201 : (Jvm.Cond.fieldLink "CardLink" (130 : Nat) "CardLink$Wire" "repeats" "I") ∈ gW := gW_of (List.mem_of_getElem? (i := 201) (by decide +kernel)) rfl
theorem t_202 : (Jvm.Cond.fieldLink "CardLink$Wire" (15 : Nat) "CardLink$Wire" "letters" "I") ∈ gW := gW_of (List.mem_of_getElem? (i := 202) (by decide +kernel)) rfl
theorem t_203 : (Jvm.Cond.fieldLink "CardLink" (181 : Nat) "CardLink$Wire" "letters" "I") ∈ gW := gW_of (List.mem_of_getElem? (i := 203) (by decide +kernel)) rfl
theorem t_204 : (Jvm.Cond.fieldLink "CardLink$Line" (257 : Nat) "CardLink$Wire" "letters" "I") ∈ gW := gW_of (List.mem_of_getElem? (i := 204) (by decide +kernel)) rfl
theorem t_205 : (Jvm.Cond.fieldLink "CardLink$Wire" (18 : Nat) "CardLink$Wire" "lettersAgain" "I") ∈ gW := gW_of (List.mem_of_getElem? (i := 205) (by decide +kernel)) rfl
theorem t_206 : (Jvm.Cond.fieldLink "CardLink" (194 : Nat) "CardLink$Wire" "lettersAgain" "I") ∈ gW := gW_of (List.mem_of_getElem? (i := 206) (by decide +kernel)) rfl
theorem t_207 : (Jvm.Cond.fieldLink "CardLink$Wire" (21 : Nat) "CardLink$Wire" "faultLetters" "[I") ∈ gW := gW_of (List.mem_of_getElem? (i := 207) (by decide +kernel)) rfl
theorem t_208 : (Jvm.Cond.fieldLink "CardLink$Wire" (25 : Nat) "CardLink$Wire" "faultKinds" "[I") ∈ gW := gW_of (List.mem_of_getElem? (i := 208) (by decide +kernel)) rfl
theorem t_209 : (Jvm.Cond.fieldLink "CardLink$Wire" (28 : Nat) "CardLink$Wire" "faultBits" "[I") ∈ gW := gW_of (List.mem_of_getElem? (i := 209) (by decide +kernel)) rfl
theorem t_210 : (Jvm.Cond.fieldLink "CardLink$Wire" (31 : Nat) "CardLink$Wire" "faults" "I") ∈ gW := gW_of (List.mem_of_getElem? (i := 210) (by decide +kernel)) rfl
theorem t_211 : (Jvm.Cond.fieldLink "CardLink$Wire" (34 : Nat) "CardLink$Wire" "probeLetter" "I") ∈ gW := gW_of (List.mem_of_getElem? (i := 211) (by decide +kernel)) rfl
theorem t_212 : (Jvm.Cond.fieldLink "CardLink$Wire" (37 : Nat) "CardLink$Wire" "probeKind" "I") ∈ gW := gW_of (List.mem_of_getElem? (i := 212) (by decide +kernel)) rfl
theorem t_213 : (Jvm.Cond.fieldLink "CardLink$Wire" (40 : Nat) "CardLink$Wire" "bitsNow" "I") ∈ gW := gW_of (List.mem_of_getElem? (i := 213) (by decide +kernel)) rfl
theorem t_235 : (Jvm.Cond.classLink "CardLink$Line" (46 : Nat) "CardLink$Row") ∈ gW := gW_of (List.mem_of_getElem? (i := 235) (by decide +kernel)) rfl
theorem t_236 : (Jvm.Cond.methodLink "CardLink$Line" (48 : Nat) ({ cls := "CardLink$Row", name := "<init>", desc := "(II)V" } : Jvm.MethodName)) ∈ gW := gW_of (List.mem_of_getElem? (i := 236) (by decide +kernel)) rfl
theorem t_237 : (Jvm.Cond.fieldLink "CardLink$Line" (14 : Nat) "CardLink$Line" "reader" "LCardLink$Side;") ∈ gW := gW_of (List.mem_of_getElem? (i := 237) (by decide +kernel)) rfl
theorem t_238 : (Jvm.Cond.fieldLink "CardLink" (146 : Nat) "CardLink$Line" "reader" "LCardLink$Side;") ∈ gW := gW_of (List.mem_of_getElem? (i := 238) (by decide +kernel)) rfl
theorem t_239 : (Jvm.Cond.fieldLink "CardLink$Line" (20 : Nat) "CardLink$Line" "card" "LCardLink$Side;") ∈ gW := gW_of (List.mem_of_getElem? (i := 239) (by decide +kernel)) rfl
theorem t_240 : (Jvm.Cond.fieldLink "CardLink" (150 : Nat) "CardLink$Line" "card" "LCardLink$Side;") ∈ gW := gW_of (List.mem_of_getElem? (i := 240) (by decide +kernel)) rfl
theorem t_241 : (Jvm.Cond.fieldLink "CardLink$Line" (26 : Nat) "CardLink$Line" "wire" "LCardLink$Wire;") ∈ gW := gW_of (List.mem_of_getElem? (i := 241) (by decide +kernel)) rfl
theorem t_242 : (Jvm.Cond.fieldLink "CardLink" (114 : Nat) "CardLink$Line" "wire" "LCardLink$Wire;") ∈ gW := gW_of (List.mem_of_getElem? (i := 242) (by decide +kernel)) rfl
theorem t_243 : (Jvm.Cond.fieldLink "CardLink$Line" (30 : Nat) "CardLink$Line" "state" "I") ∈ gW := gW_of (List.mem_of_getElem? (i := 243) (by decide +kernel)) rfl
theorem t_244 : (Jvm.Cond.fieldLink "CardLink" (110 : Nat) "CardLink$Line" "state" "I") ∈ gW := gW_of (List.mem_of_getElem? (i := 244) (by decide +kernel)) rfl
theorem t_245 : (Jvm.Cond.fieldLink "CardLink$Line" (34 : Nat) "CardLink$Line" "tries" "I") ∈ gW := gW_of (List.mem_of_getElem? (i := 245) (by decide +kernel)) rfl
theorem t_246 : (Jvm.Cond.fieldLink "CardLink" (197 : Nat) "CardLink$Line" "tries" "I") ∈ gW := gW_of (List.mem_of_getElem? (i := 246) (by decide +kernel)) rfl
theorem t_247 : (Jvm.Cond.fieldLink "CardLink$Line" (37 : Nat) "CardLink$Line" "waitsEnded" "I") ∈ gW := gW_of (List.mem_of_getElem? (i := 247) (by decide +kernel)) rfl
theorem t_248 : (Jvm.Cond.fieldLink "CardLink" (203 : Nat) "CardLink$Line" "waitsEnded" "I") ∈ gW := gW_of (List.mem_of_getElem? (i := 248) (by decide +kernel)) rfl
theorem t_249 : (Jvm.Cond.fieldLink "CardLink$Line" (40 : Nat) "CardLink$Line" "timesDone" "I") ∈ gW := gW_of (List.mem_of_getElem? (i := 249) (by decide +kernel)) rfl
theorem t_250 : (Jvm.Cond.fieldLink "CardLink" (206 : Nat) "CardLink$Line" "timesDone" "I") ∈ gW := gW_of (List.mem_of_getElem? (i := 250) (by decide +kernel)) rfl
theorem t_251 : (Jvm.Cond.fieldLink "CardLink$Line" (43 : Nat) "CardLink$Line" "timesGivenUp" "I") ∈ gW := gW_of (List.mem_of_getElem? (i := 251) (by decide +kernel)) rfl
theorem t_252 : (Jvm.Cond.fieldLink "CardLink" (209 : Nat) "CardLink$Line" "timesGivenUp" "I") ∈ gW := gW_of (List.mem_of_getElem? (i := 252) (by decide +kernel)) rfl
theorem t_253 : (Jvm.Cond.fieldLink "CardLink$Line" (51 : Nat) "CardLink$Line" "block" "LCardLink$Row;") ∈ gW := gW_of (List.mem_of_getElem? (i := 253) (by decide +kernel)) rfl
theorem t_254 : (Jvm.Cond.fieldLink "CardLink$Line" (55 : Nat) "CardLink$Line" "came" "LCardLink$Row;") ∈ gW := gW_of (List.mem_of_getElem? (i := 254) (by decide +kernel)) rfl
theorem t_255 : (Jvm.Cond.fieldLink "CardLink$Line" (80 : Nat) "CardLink$Line" "journal" "LCardLink$Journal;") ∈ gW := gW_of (List.mem_of_getElem? (i := 255) (by decide +kernel)) rfl
theorem t_256 : (Jvm.Cond.fieldLink "CardLink$Line" (58 : Nat) "CardLink$Line" "outcome" "I") ∈ gW := gW_of (List.mem_of_getElem? (i := 256) (by decide +kernel)) rfl
theorem t_257 : (Jvm.Cond.fieldLink "CardLink$Line" (61 : Nat) "CardLink$Line" "firstTurn" "Z") ∈ gW := gW_of (List.mem_of_getElem? (i := 257) (by decide +kernel)) rfl
theorem t_258 : (Jvm.Cond.fieldLink "CardLink$Line" (65 : Nat) "CardLink$Line" "roomWish" "I") ∈ gW := gW_of (List.mem_of_getElem? (i := 258) (by decide +kernel)) rfl
theorem t_259 : (Jvm.Cond.fieldLink "CardLink$Line" (68 : Nat) "CardLink$Line" "stuck" "Z") ∈ gW := gW_of (List.mem_of_getElem? (i := 259) (by decide +kernel)) rfl
theorem t_260 : (Jvm.Cond.fieldLink "CardLink$Line" (71 : Nat) "CardLink$Line" "toldAbort" "Z") ∈ gW := gW_of (List.mem_of_getElem? (i := 260) (by decide +kernel)) rfl
theorem t_261 : (Jvm.Cond.fieldLink "CardLink$Line" (74 : Nat) "CardLink$Line" "waitsLeft" "I") ∈ gW := gW_of (List.mem_of_getElem? (i := 261) (by decide +kernel)) rfl
theorem t_262 : (Jvm.Cond.fieldLink "CardLink$Line" (77 : Nat) "CardLink$Line" "silentTurns" "I") ∈ gW := gW_of (List.mem_of_getElem? (i := 262) (by decide +kernel)) rfl
theorem t_300 : (Jvm.Cond.classLink "CardLink" (34 : Nat) "CardLink$Forecast") ∈ gW := gW_of (List.mem_of_getElem? (i := 300) (by decide +kernel)) rfl
theorem t_301 : (Jvm.Cond.instantiable "CardLink$Forecast" (7 : Nat)) ∈ gW := gW_of (List.mem_of_getElem? (i := 301) (by decide +kernel)) rfl
theorem t_303 : (Jvm.Cond.instanceMethod ({ cls := "CardLink$Forecast", name := "<init>", desc := "()V" } : Jvm.MethodName)) ∈ gW := gW_of (List.mem_of_getElem? (i := 303) (by decide +kernel)) rfl
theorem t_304 : (Jvm.Cond.code ({ cls := "CardLink$Forecast", name := "<init>", desc := "()V" } : Jvm.MethodName) prog_2_method_1_code (1 : Nat) (Option.none : Option Jvm.ClassFile.FieldType)) ∈ gW := gW_of (List.mem_of_getElem? (i := 304) (by decide +kernel)) rfl
theorem t_305 : (Jvm.Cond.methodLink "CardLink$Forecast" (3 : Nat) ({ cls := "java/lang/Object", name := "<init>", desc := "()V" } : Jvm.MethodName)) ∈ gW := gW_of (List.mem_of_getElem? (i := 305) (by decide +kernel)) rfl
theorem t_306 : (Jvm.Cond.classLink "CardLink$Forecast" (9 : Nat) "CardLink$Line") ∈ gW := gW_of (List.mem_of_getElem? (i := 306) (by decide +kernel)) rfl
theorem t_307 : (Jvm.Cond.methodLink "CardLink$Forecast" (11 : Nat) ({ cls := "CardLink$Line", name := "<init>", desc := "(LCardLink$Journal;)V" } : Jvm.MethodName)) ∈ gW := gW_of (List.mem_of_getElem? (i := 307) (by decide +kernel)) rfl
theorem t_308 : (Jvm.Cond.fieldLink "CardLink$Forecast" (14 : Nat) "CardLink$Forecast" "outlook" "LCardLink$Line;") ∈ gW := gW_of (List.mem_of_getElem? (i := 308) (by decide +kernel)) rfl
theorem t_309 : (Jvm.Cond.fieldLink "CardLink$Forecast" (20 : Nat) "CardLink$Forecast" "walk" "LCardLink$Line;") ∈ gW := gW_of (List.mem_of_getElem? (i := 309) (by decide +kernel)) rfl
theorem t_310 : (Jvm.Cond.fieldLink "CardLink$Forecast" (23 : Nat) "CardLink$Forecast" "fork" "LCardLink$Line;") ∈ gW := gW_of (List.mem_of_getElem? (i := 310) (by decide +kernel)) rfl
theorem t_311 : (Jvm.Cond.fieldLink "CardLink$Forecast" (26 : Nat) "CardLink$Forecast" "outlookKnown" "Z") ∈ gW := gW_of (List.mem_of_getElem? (i := 311) (by decide +kernel)) rfl
theorem t_312 : (Jvm.Cond.fieldLink "CardLink$Forecast" (30 : Nat) "CardLink$Forecast" "tried" "[I") ∈ gW := gW_of (List.mem_of_getElem? (i := 312) (by decide +kernel)) rfl
theorem t_313 : (Jvm.Cond.fieldLink "CardLink$Forecast" (34 : Nat) "CardLink$Forecast" "harmful" "[I") ∈ gW := gW_of (List.mem_of_getElem? (i := 313) (by decide +kernel)) rfl
theorem t_314 : (Jvm.Cond.fieldLink "CardLink$Forecast" (37 : Nat) "CardLink$Forecast" "firsts" "[I") ∈ gW := gW_of (List.mem_of_getElem? (i := 314) (by decide +kernel)) rfl
theorem t_330 : (Jvm.Cond.classLink "CardLink" (41 : Nat) "CardLink$ResetAnswer") ∈ gW := gW_of (List.mem_of_getElem? (i := 330) (by decide +kernel)) rfl
theorem t_331 : (Jvm.Cond.instantiable "CardLink$ResetAnswer" (11 : Nat)) ∈ gW := gW_of (List.mem_of_getElem? (i := 331) (by decide +kernel)) rfl
theorem t_333 : (Jvm.Cond.instanceMethod ({ cls := "CardLink$ResetAnswer", name := "<init>", desc := "()V" } : Jvm.MethodName)) ∈ gW := gW_of (List.mem_of_getElem? (i := 333) (by decide +kernel)) rfl
theorem t_334 : (Jvm.Cond.code ({ cls := "CardLink$ResetAnswer", name := "<init>", desc := "()V" } : Jvm.MethodName) prog_5_method_1_code (1 : Nat) (Option.none : Option Jvm.ClassFile.FieldType)) ∈ gW := gW_of (List.mem_of_getElem? (i := 334) (by decide +kernel)) rfl
theorem t_335 : (Jvm.Cond.methodLink "CardLink$ResetAnswer" (3 : Nat) ({ cls := "java/lang/Object", name := "<init>", desc := "()V" } : Jvm.MethodName)) ∈ gW := gW_of (List.mem_of_getElem? (i := 335) (by decide +kernel)) rfl
theorem t_336 : (Jvm.Cond.classLink "CardLink$ResetAnswer" (9 : Nat) "CardLink$Row") ∈ gW := gW_of (List.mem_of_getElem? (i := 336) (by decide +kernel)) rfl
theorem t_337 : (Jvm.Cond.methodLink "CardLink$ResetAnswer" (11 : Nat) ({ cls := "CardLink$Row", name := "<init>", desc := "(II)V" } : Jvm.MethodName)) ∈ gW := gW_of (List.mem_of_getElem? (i := 337) (by decide +kernel)) rfl
theorem t_338 : (Jvm.Cond.fieldLink "CardLink$ResetAnswer" (73 : Nat) "CardLink$ResetAnswer" "ts" "I") ∈ gW := gW_of (List.mem_of_getElem? (i := 338) (by decide +kernel)) rfl
theorem t_339 : (Jvm.Cond.fieldLink "CardLink$ResetAnswer" (38 : Nat) "CardLink$ResetAnswer" "factor" "I") ∈ gW := gW_of (List.mem_of_getElem? (i := 339) (by decide +kernel)) rfl
theorem t_340 : (Jvm.Cond.fieldLink "CardLink$ResetAnswer" (42 : Nat) "CardLink$ResetAnswer" "guard" "I") ∈ gW := gW_of (List.mem_of_getElem? (i := 340) (by decide +kernel)) rfl
theorem t_341 : (Jvm.Cond.fieldLink "CardLink$ResetAnswer" (45 : Nat) "CardLink$ResetAnswer" "protocol" "I") ∈ gW := gW_of (List.mem_of_getElem? (i := 341) (by decide +kernel)) rfl
theorem t_342 : (Jvm.Cond.fieldLink "CardLink$ResetAnswer" (48 : Nat) "CardLink$ResetAnswer" "groups" "I") ∈ gW := gW_of (List.mem_of_getElem? (i := 342) (by decide +kernel)) rfl
theorem t_343 : (Jvm.Cond.fieldLink "CardLink$ResetAnswer" (51 : Nat) "CardLink$ResetAnswer" "room" "I") ∈ gW := gW_of (List.mem_of_getElem? (i := 343) (by decide +kernel)) rfl
theorem t_344 : (Jvm.Cond.fieldLink "CardLink$ResetAnswer" (54 : Nat) "CardLink$ResetAnswer" "checked" "Z") ∈ gW := gW_of (List.mem_of_getElem? (i := 344) (by decide +kernel)) rfl
theorem t_345 : (Jvm.Cond.fieldLink "CardLink$ResetAnswer" (14 : Nat) "CardLink$ResetAnswer" "historical" "LCardLink$Row;") ∈ gW := gW_of (List.mem_of_getElem? (i := 345) (by decide +kernel)) rfl
theorem t_346 : (Jvm.Cond.fieldLink "CardLink$ResetAnswer" (79 : Nat) "CardLink$ResetAnswer" "place" "I") ∈ gW := gW_of (List.mem_of_getElem? (i := 346) (by decide +kernel)) rfl
theorem t_347 : (Jvm.Cond.fieldLink "CardLink$ResetAnswer" (76 : Nat) "CardLink$ResetAnswer" "told" "I") ∈ gW := gW_of (List.mem_of_getElem? (i := 347) (by decide +kernel)) rfl
theorem t_348 : (Jvm.Cond.fieldLink "CardLink$ResetAnswer" (62 : Nat) "CardLink$ResetAnswer" "linkGroup" "I") ∈ gW := gW_of (List.mem_of_getElem? (i := 348) (by decide +kernel)) rfl
theorem t_372 : (Jvm.Cond.fieldLink "CardLink" (14 : Nat) "CardLink" "tape" "LCardLink$Row;") ∈ gW := gW_of (List.mem_of_getElem? (i := 372) (by decide +kernel)) rfl
theorem t_373 : (Jvm.Cond.fieldLink "CardLink" (21 : Nat) "CardLink" "journal" "LCardLink$Journal;") ∈ gW := gW_of (List.mem_of_getElem? (i := 373) (by decide +kernel)) rfl
theorem t_374 : (Jvm.Cond.fieldLink "CardLink" (30 : Nat) "CardLink" "line" "LCardLink$Line;") ∈ gW := gW_of (List.mem_of_getElem? (i := 374) (by decide +kernel)) rfl
theorem t_375 : (Jvm.Cond.fieldLink "CardLink" (37 : Nat) "CardLink" "forecast" "LCardLink$Forecast;") ∈ gW := gW_of (List.mem_of_getElem? (i := 375) (by decide +kernel)) rfl
theorem t_376 : (Jvm.Cond.fieldLink "CardLink" (44 : Nat) "CardLink" "inForce" "LCardLink$ResetAnswer;") ∈ gW := gW_of (List.mem_of_getElem? (i := 376) (by decide +kernel)) rfl
theorem t_377 : (Jvm.Cond.fieldLink "CardLink" (48 : Nat) "CardLink" "spare" "LCardLink$ResetAnswer;") ∈ gW := gW_of (List.mem_of_getElem? (i := 377) (by decide +kernel)) rfl
theorem t_378 : (Jvm.Cond.fieldLink "CardLink" (51 : Nat) "CardLink" "cardIn" "Z") ∈ gW := gW_of (List.mem_of_getElem? (i := 378) (by decide +kernel)) rfl
theorem t_394 : (Jvm.Cond.methodLink "CardLinkLaw" (59 : Nat) ({ cls := "CardLink", name := "reset", desc := "()I" } : Jvm.MethodName)) ∈ gW := gW_of (List.mem_of_getElem? (i := 394) (by decide +kernel)) rfl
theorem t_395 : (Jvm.Cond.instanceMethod ({ cls := "CardLink", name := "reset", desc := "()I" } : Jvm.MethodName)) ∈ gW := gW_of (List.mem_of_getElem? (i := 395) (by decide +kernel)) rfl
theorem t_396 : (Jvm.Cond.selects "CardLink" ({ cls := "CardLink", name := "reset", desc := "()I" } : Jvm.MethodName) ({ cls := "CardLink", name := "reset", desc := "()I" } : Jvm.MethodName)) ∈ gW := gW_of (List.mem_of_getElem? (i := 396) (by decide +kernel)) rfl
theorem t_397 : (Jvm.Cond.code ({ cls := "CardLink", name := "reset", desc := "()I" } : Jvm.MethodName) prog_1_method_5_code (3 : Nat) (Option.some Jvm.ClassFile.FieldType.int)) ∈ gW := gW_of (List.mem_of_getElem? (i := 397) (by decide +kernel)) rfl
theorem t_398 : (Jvm.Cond.methodLink "CardLink" (70 : Nat) ({ cls := "CardLink$ResetAnswer", name := "read", desc := "(LCardLink$Row;)I" } : Jvm.MethodName)) ∈ gW := gW_of (List.mem_of_getElem? (i := 398) (by decide +kernel)) rfl
theorem t_399 : (Jvm.Cond.instanceMethod ({ cls := "CardLink$ResetAnswer", name := "read", desc := "(LCardLink$Row;)I" } : Jvm.MethodName)) ∈ gW := gW_of (List.mem_of_getElem? (i := 399) (by decide +kernel)) rfl
theorem t_400 : (Jvm.Cond.selects "CardLink$ResetAnswer" ({ cls := "CardLink$ResetAnswer", name := "read", desc := "(LCardLink$Row;)I" } : Jvm.MethodName) ({ cls := "CardLink$ResetAnswer", name := "read", desc := "(LCardLink$Row;)I" } : Jvm.MethodName)) ∈ gW := gW_of (List.mem_of_getElem? (i := 400) (by decide +kernel)) rfl
theorem t_401 : (Jvm.Cond.code ({ cls := "CardLink$ResetAnswer", name := "read", desc := "(LCardLink$Row;)I" } : Jvm.MethodName) prog_5_method_2_code (3 : Nat) (Option.some Jvm.ClassFile.FieldType.int)) ∈ gW := gW_of (List.mem_of_getElem? (i := 401) (by decide +kernel)) rfl
theorem t_402 : (Jvm.Cond.methodLink "CardLink$ResetAnswer" (20 : Nat) ({ cls := "CardLink$ResetAnswer", name := "clear", desc := "()V" } : Jvm.MethodName)) ∈ gW := gW_of (List.mem_of_getElem? (i := 402) (by decide +kernel)) rfl
theorem t_404 : (Jvm.Cond.instanceMethod ({ cls := "CardLink$ResetAnswer", name := "clear", desc := "()V" } : Jvm.MethodName)) ∈ gW := gW_of (List.mem_of_getElem? (i := 404) (by decide +kernel)) rfl
theorem t_405 : (Jvm.Cond.code ({ cls := "CardLink$ResetAnswer", name := "clear", desc := "()V" } : Jvm.MethodName) prog_5_method_3_code (1 : Nat) (Option.none : Option Jvm.ClassFile.FieldType)) ∈ gW := gW_of (List.mem_of_getElem? (i := 405) (by decide +kernel)) rfl
theorem t_406 : (Jvm.Cond.methodLink "CardLink$ResetAnswer" (58 : Nat) ({ cls := "CardLink$Row", name := "keep", desc := "(I)V" } : Jvm.MethodName)) ∈ gW := gW_of (List.mem_of_getElem? (i := 406) (by decide +kernel)) rfl
theorem t_407 : (Jvm.Cond.instanceMethod ({ cls := "CardLink$Row", name := "keep", desc := "(I)V" } : Jvm.MethodName)) ∈ gW := gW_of (List.mem_of_getElem? (i := 407) (by decide +kernel)) rfl
theorem t_408 : (Jvm.Cond.selects "CardLink$Row" ({ cls := "CardLink$Row", name := "keep", desc := "(I)V" } : Jvm.MethodName) ({ cls := "CardLink$Row", name := "keep", desc := "(I)V" } : Jvm.MethodName)) ∈ gW := gW_of (List.mem_of_getElem? (i := 408) (by decide +kernel)) rfl
theorem t_409 : (Jvm.Cond.code ({ cls := "CardLink$Row", name := "keep", desc := "(I)V" } : Jvm.MethodName) prog_6_method_6_code (2 : Nat) (Option.none : Option Jvm.ClassFile.FieldType)) ∈ gW := gW_of (List.mem_of_getElem? (i := 409) (by decide +kernel)) rfl
theorem t_410 : (Jvm.Cond.methodLink "CardLink$Row" (26 : Nat) ({ cls := "java/lang/Math", name := "min", desc := "(II)I" } : Jvm.MethodName)) ∈ gW := gW_of (List.mem_of_getElem? (i := 410) (by decide +kernel)) rfl
theorem t_411 : (Jvm.Cond.static ({ cls := "java/lang/Math", name := "min", desc := "(II)I" } : Jvm.MethodName)) ∈ gW := gW_of (List.mem_of_getElem? (i := 411) (by decide +kernel)) rfl
theorem t_412 : (Jvm.Cond.code ({ cls := "java/lang/Math", name := "min", desc := "(II)I" } : Jvm.MethodName) prog_14_method_69_code (2 : Nat) (Option.some Jvm.ClassFile.FieldType.int)) ∈ gW := gW_of (List.mem_of_getElem? (i := 412) (by decide +kernel)) rfl
theorem t_413 : (Jvm.Cond.methodLink "CardLink$ResetAnswer" (23 : Nat) ({ cls := "CardLink$ResetAnswer", name := "readHead", desc := "(LCardLink$Row;)I" } : Jvm.MethodName)) ∈ gW := gW_of (List.mem_of_getElem? (i := 413) (by decide +kernel)) rfl
theorem t_415 : (Jvm.Cond.instanceMethod ({ cls := "CardLink$ResetAnswer", name := "readHead", desc := "(LCardLink$Row;)I" } : Jvm.MethodName)) ∈ gW := gW_of (List.mem_of_getElem? (i := 415) (by decide +kernel)) rfl
theorem t_416 : (Jvm.Cond.code ({ cls := "CardLink$ResetAnswer", name := "readHead", desc := "(LCardLink$Row;)I" } : Jvm.MethodName) prog_5_method_5_code (2 : Nat) (Option.some Jvm.ClassFile.FieldType.int)) ∈ gW := gW_of (List.mem_of_getElem? (i := 416) (by decide +kernel)) rfl
theorem t_417 : (Jvm.Cond.methodLink "CardLink$ResetAnswer" (65 : Nat) ({ cls := "CardLink$Row", name := "size", desc := "()I" } : Jvm.MethodName)) ∈ gW := gW_of (List.mem_of_getElem? (i := 417) (by decide +kernel)) rfl
theorem t_418 : (Jvm.Cond.instanceMethod ({ cls := "CardLink$Row", name := "size", desc := "()I" } : Jvm.MethodName)) ∈ gW := gW_of (List.mem_of_getElem? (i := 418) (by decide +kernel)) rfl
theorem t_419 : (Jvm.Cond.selects "CardLink$Row" ({ cls := "CardLink$Row", name := "size", desc := "()I" } : Jvm.MethodName) ({ cls := "CardLink$Row", name := "size", desc := "()I" } : Jvm.MethodName)) ∈ gW := gW_of (List.mem_of_getElem? (i := 419) (by decide +kernel)) rfl
theorem t_420 : (Jvm.Cond.code ({ cls := "CardLink$Row", name := "size", desc := "()I" } : Jvm.MethodName) prog_6_method_2_code (1 : Nat) (Option.some Jvm.ClassFile.FieldType.int)) ∈ gW := gW_of (List.mem_of_getElem? (i := 420) (by decide +kernel)) rfl
theorem t_421 : (Jvm.Cond.methodLink "CardLink$ResetAnswer" (69 : Nat) ({ cls := "CardLink$ResetAnswer", name := "faultAt", desc := "(II)I" } : Jvm.MethodName)) ∈ gW := gW_of (List.mem_of_getElem? (i := 421) (by decide +kernel)) rfl
theorem t_422 : (Jvm.Cond.static ({ cls := "CardLink$ResetAnswer", name := "faultAt", desc := "(II)I" } : Jvm.MethodName)) ∈ gW := gW_of (List.mem_of_getElem? (i := 422) (by decide +kernel)) rfl
theorem t_423 : (Jvm.Cond.code ({ cls := "CardLink$ResetAnswer", name := "faultAt", desc := "(II)I" } : Jvm.MethodName) prog_5_method_4_code (2 : Nat) (Option.some Jvm.ClassFile.FieldType.int)) ∈ gW := gW_of (List.mem_of_getElem? (i := 423) (by decide +kernel)) rfl
theorem t_424 : (Jvm.Cond.methodLink "CardLink$ResetAnswer" (30 : Nat) ({ cls := "CardLink$Row", name := "at", desc := "(I)I" } : Jvm.MethodName)) ∈ gW := gW_of (List.mem_of_getElem? (i := 424) (by decide +kernel)) rfl
theorem t_425 : (Jvm.Cond.instanceMethod ({ cls := "CardLink$Row", name := "at", desc := "(I)I" } : Jvm.MethodName)) ∈ gW := gW_of (List.mem_of_getElem? (i := 425) (by decide +kernel)) rfl
theorem t_426 : (Jvm.Cond.selects "CardLink$Row" ({ cls := "CardLink$Row", name := "at", desc := "(I)I" } : Jvm.MethodName) ({ cls := "CardLink$Row", name := "at", desc := "(I)I" } : Jvm.MethodName)) ∈ gW := gW_of (List.mem_of_getElem? (i := 426) (by decide +kernel)) rfl
theorem t_427 : (Jvm.Cond.code ({ cls := "CardLink$Row", name := "at", desc := "(I)I" } : Jvm.MethodName) prog_6_method_3_code (2 : Nat) (Option.some Jvm.ClassFile.FieldType.int)) ∈ gW := gW_of (List.mem_of_getElem? (i := 427) (by decide +kernel)) rfl
theorem t_428 : (Jvm.Cond.methodLink "CardLink$ResetAnswer" (27 : Nat) ({ cls := "CardLink$ResetAnswer", name := "readGroups", desc := "(LCardLink$Row;)I" } : Jvm.MethodName)) ∈ gW := gW_of (List.mem_of_getElem? (i := 428) (by decide +kernel)) rfl
theorem t_430 : (Jvm.Cond.instanceMethod ({ cls := "CardLink$ResetAnswer", name := "readGroups", desc := "(LCardLink$Row;)I" } : Jvm.MethodName)) ∈ gW := gW_of (List.mem_of_getElem? (i := 430) (by decide +kernel)) rfl
theorem t_431 : (Jvm.Cond.code ({ cls := "CardLink$ResetAnswer", name := "readGroups", desc := "(LCardLink$Row;)I" } : Jvm.MethodName) prog_5_method_6_code (6 : Nat) (Option.some Jvm.ClassFile.FieldType.int)) ∈ gW := gW_of (List.mem_of_getElem? (i := 431) (by decide +kernel)) rfl
theorem t_432 : (Jvm.Cond.methodLink "CardLink$ResetAnswer" (82 : Nat) ({ cls := "CardLink$ResetAnswer", name := "readGroupByte", desc := "(III)I" } : Jvm.MethodName)) ∈ gW := gW_of (List.mem_of_getElem? (i := 432) (by decide +kernel)) rfl
theorem t_434 : (Jvm.Cond.instanceMethod ({ cls := "CardLink$ResetAnswer", name := "readGroupByte", desc := "(III)I" } : Jvm.MethodName)) ∈ gW := gW_of (List.mem_of_getElem? (i := 434) (by decide +kernel)) rfl
theorem t_435 : (Jvm.Cond.code ({ cls := "CardLink$ResetAnswer", name := "readGroupByte", desc := "(III)I" } : Jvm.MethodName) prog_5_method_7_code (4 : Nat) (Option.some Jvm.ClassFile.FieldType.int)) ∈ gW := gW_of (List.mem_of_getElem? (i := 435) (by decide +kernel)) rfl
theorem t_436 : (Jvm.Cond.methodLink "CardLink$ResetAnswer" (86 : Nat) ({ cls := "CardLink$ResetAnswer", name := "readTd", desc := "(II)I" } : Jvm.MethodName)) ∈ gW := gW_of (List.mem_of_getElem? (i := 436) (by decide +kernel)) rfl
theorem t_438 : (Jvm.Cond.instanceMethod ({ cls := "CardLink$ResetAnswer", name := "readTd", desc := "(II)I" } : Jvm.MethodName)) ∈ gW := gW_of (List.mem_of_getElem? (i := 438) (by decide +kernel)) rfl
theorem t_439 : (Jvm.Cond.code ({ cls := "CardLink$ResetAnswer", name := "readTd", desc := "(II)I" } : Jvm.MethodName) prog_5_method_10_code (4 : Nat) (Option.some Jvm.ClassFile.FieldType.int)) ∈ gW := gW_of (List.mem_of_getElem? (i := 439) (by decide +kernel)) rfl
theorem t_440 : (Jvm.Cond.methodLink "CardLink$ResetAnswer" (89 : Nat) ({ cls := "CardLink$ResetAnswer", name := "readFirstGroup", desc := "(II)I" } : Jvm.MethodName)) ∈ gW := gW_of (List.mem_of_getElem? (i := 440) (by decide +kernel)) rfl
theorem t_442 : (Jvm.Cond.instanceMethod ({ cls := "CardLink$ResetAnswer", name := "readFirstGroup", desc := "(II)I" } : Jvm.MethodName)) ∈ gW := gW_of (List.mem_of_getElem? (i := 442) (by decide +kernel)) rfl
theorem t_443 : (Jvm.Cond.code ({ cls := "CardLink$ResetAnswer", name := "readFirstGroup", desc := "(II)I" } : Jvm.MethodName) prog_5_method_8_code (3 : Nat) (Option.some Jvm.ClassFile.FieldType.int)) ∈ gW := gW_of (List.mem_of_getElem? (i := 443) (by decide +kernel)) rfl
theorem t_444 : (Jvm.Cond.methodLink "CardLink$ResetAnswer" (95 : Nat) ({ cls := "CardLink$ResetAnswer", name := "clockOf", desc := "(I)I" } : Jvm.MethodName)) ∈ gW := gW_of (List.mem_of_getElem? (i := 444) (by decide +kernel)) rfl
theorem t_445 : (Jvm.Cond.static ({ cls := "CardLink$ResetAnswer", name := "clockOf", desc := "(I)I" } : Jvm.MethodName)) ∈ gW := gW_of (List.mem_of_getElem? (i := 445) (by decide +kernel)) rfl
theorem t_446 : (Jvm.Cond.code ({ cls := "CardLink$ResetAnswer", name := "clockOf", desc := "(I)I" } : Jvm.MethodName) prog_5_method_12_code (2 : Nat) (Option.some Jvm.ClassFile.FieldType.int)) ∈ gW := gW_of (List.mem_of_getElem? (i := 446) (by decide +kernel)) rfl
theorem t_449 : (Jvm.Cond.methodLink "CardLink$ResetAnswer" (98 : Nat) ({ cls := "CardLink$ResetAnswer", name := "divisorOf", desc := "(I)I" } : Jvm.MethodName)) ∈ gW := gW_of (List.mem_of_getElem? (i := 449) (by decide +kernel)) rfl
theorem t_450 : (Jvm.Cond.static ({ cls := "CardLink$ResetAnswer", name := "divisorOf", desc := "(I)I" } : Jvm.MethodName)) ∈ gW := gW_of (List.mem_of_getElem? (i := 450) (by decide +kernel)) rfl
theorem t_451 : (Jvm.Cond.code ({ cls := "CardLink$ResetAnswer", name := "divisorOf", desc := "(I)I" } : Jvm.MethodName) prog_5_method_13_code (2 : Nat) (Option.some Jvm.ClassFile.FieldType.int)) ∈ gW := gW_of (List.mem_of_getElem? (i := 451) (by decide +kernel)) rfl
theorem t_454 : (Jvm.Cond.methodLink "CardLink$ResetAnswer" (92 : Nat) ({ cls := "CardLink$ResetAnswer", name := "readLinkGroup", desc := "(II)I" } : Jvm.MethodName)) ∈ gW := gW_of (List.mem_of_getElem? (i := 454) (by decide +kernel)) rfl
theorem t_456 : (Jvm.Cond.instanceMethod ({ cls := "CardLink$ResetAnswer", name := "readLinkGroup", desc := "(II)I" } : Jvm.MethodName)) ∈ gW := gW_of (List.mem_of_getElem? (i := 456) (by decide +kernel)) rfl
theorem t_457 : (Jvm.Cond.code ({ cls := "CardLink$ResetAnswer", name := "readLinkGroup", desc := "(II)I" } : Jvm.MethodName) prog_5_method_9_code (3 : Nat) (Option.some Jvm.ClassFile.FieldType.int)) ∈ gW := gW_of (List.mem_of_getElem? (i := 457) (by decide +kernel)) rfl
theorem t_458 : (Jvm.Cond.methodLink "CardLink$ResetAnswer" (34 : Nat) ({ cls := "CardLink$ResetAnswer", name := "readTail", desc := "(LCardLink$Row;I)I" } : Jvm.MethodName)) ∈ gW := gW_of (List.mem_of_getElem? (i := 458) (by decide +kernel)) rfl
theorem t_460 : (Jvm.Cond.instanceMethod ({ cls := "CardLink$ResetAnswer", name := "readTail", desc := "(LCardLink$Row;I)I" } : Jvm.MethodName)) ∈ gW := gW_of (List.mem_of_getElem? (i := 460) (by decide +kernel)) rfl
theorem t_461 : (Jvm.Cond.code ({ cls := "CardLink$ResetAnswer", name := "readTail", desc := "(LCardLink$Row;I)I" } : Jvm.MethodName) prog_5_method_11_code (5 : Nat) (Option.some Jvm.ClassFile.FieldType.int)) ∈ gW := gW_of (List.mem_of_getElem? (i := 461) (by decide +kernel)) rfl
theorem t_462 : (Jvm.Cond.methodLink "CardLink$ResetAnswer" (101 : Nat) ({ cls := "CardLink$Row", name := "add", desc := "(I)V" } : Jvm.MethodName)) ∈ gW := gW_of (List.mem_of_getElem? (i := 462) (by decide +kernel)) rfl
theorem t_463 : (Jvm.Cond.instanceMethod ({ cls := "CardLink$Row", name := "add", desc := "(I)V" } : Jvm.MethodName)) ∈ gW := gW_of (List.mem_of_getElem? (i := 463) (by decide +kernel)) rfl
theorem t_464 : (Jvm.Cond.selects "CardLink$Row" ({ cls := "CardLink$Row", name := "add", desc := "(I)V" } : Jvm.MethodName) ({ cls := "CardLink$Row", name := "add", desc := "(I)V" } : Jvm.MethodName)) ∈ gW := gW_of (List.mem_of_getElem? (i := 464) (by decide +kernel)) rfl
theorem t_465 : (Jvm.Cond.code ({ cls := "CardLink$Row", name := "add", desc := "(I)V" } : Jvm.MethodName) prog_6_method_5_code (2 : Nat) (Option.none : Option Jvm.ClassFile.FieldType)) ∈ gW := gW_of (List.mem_of_getElem? (i := 465) (by decide +kernel)) rfl
theorem t_466 : (Jvm.Cond.methodLink "CardLink$Row" (29 : Nat) ({ cls := "java/util/Arrays", name := "copyOf", desc := "([II)[I" } : Jvm.MethodName)) ∈ gW := gW_of (List.mem_of_getElem? (i := 466) (by decide +kernel)) rfl
theorem t_467 : (Jvm.Cond.static ({ cls := "java/util/Arrays", name := "copyOf", desc := "([II)[I" } : Jvm.MethodName)) ∈ gW := gW_of (List.mem_of_getElem? (i := 467) (by decide +kernel)) rfl
theorem t_468 : (Jvm.Cond.code ({ cls := "java/util/Arrays", name := "copyOf", desc := "([II)[I" } : Jvm.MethodName) prog_18_method_123_code (3 : Nat) (Option.some (Jvm.ClassFile.FieldType.array Jvm.ClassFile.FieldType.int))) ∈ gW := gW_of (List.mem_of_getElem? (i := 468) (by decide +kernel)) rfl
theorem t_469 : (Jvm.Cond.methodLink "java/util/Arrays" (316 : Nat) ({ cls := "[I", name := "clone", desc := "()Ljava/lang/Object;" } : Jvm.MethodName)) ∈ gW := gW_of (List.mem_of_getElem? (i := 469) (by decide +kernel)) rfl
theorem t_472 : (Jvm.Cond.instanceMethod ({ cls := "java/lang/Object", name := "clone", desc := "()Ljava/lang/Object;" } : Jvm.MethodName)) ∈ gW := gW_of (List.mem_of_getElem? (i := 472) (by decide +kernel)) rfl
theorem t_475 : (Jvm.Cond.classLink "java/util/Arrays" (317 : Nat) "[I") ∈ gW := gW_of (List.mem_of_getElem? (i := 475) (by decide +kernel)) rfl
theorem t_476 : (Jvm.Cond.methodLink "java/util/Arrays" (304 : Nat) ({ cls := "java/lang/Math", name := "min", desc := "(II)I" } : Jvm.MethodName)) ∈ gW := gW_of (List.mem_of_getElem? (i := 476) (by decide +kernel)) rfl
theorem t_477 : (Jvm.Cond.methodLink "java/util/Arrays" (150 : Nat) ({ cls := "java/lang/System", name := "arraycopy", desc := "(Ljava/lang/Object;ILjava/lang/Object;II)V" } : Jvm.MethodName)) ∈ gW := gW_of (List.mem_of_getElem? (i := 477) (by decide +kernel)) rfl
theorem t_478 : (Jvm.Cond.static ({ cls := "java/lang/System", name := "arraycopy", desc := "(Ljava/lang/Object;ILjava/lang/Object;II)V" } : Jvm.MethodName)) ∈ gW := gW_of (List.mem_of_getElem? (i := 478) (by decide +kernel)) rfl
theorem t_480 : (Jvm.Cond.methodLink "CardLink" (67 : Nat) ({ cls := "CardLink$Row", name := "keep", desc := "(I)V" } : Jvm.MethodName)) ∈ gW := gW_of (List.mem_of_getElem? (i := 480) (by decide +kernel)) rfl
theorem t_481 : (Jvm.Cond.methodLink "CardLink" (74 : Nat) ({ cls := "CardLink$Journal", name := "forgetAll", desc := "()V" } : Jvm.MethodName)) ∈ gW := gW_of (List.mem_of_getElem? (i := 481) (by decide +kernel)) rfl
theorem t_482 : (Jvm.Cond.instanceMethod ({ cls := "CardLink$Journal", name := "forgetAll", desc := "()V" } : Jvm.MethodName)) ∈ gW := gW_of (List.mem_of_getElem? (i := 482) (by decide +kernel)) rfl
theorem t_483 : (Jvm.Cond.selects "CardLink$Journal" ({ cls := "CardLink$Journal", name := "forgetAll", desc := "()V" } : Jvm.MethodName) ({ cls := "CardLink$Journal", name := "forgetAll", desc := "()V" } : Jvm.MethodName)) ∈ gW := gW_of (List.mem_of_getElem? (i := 483) (by decide +kernel)) rfl
theorem t_484 : (Jvm.Cond.code ({ cls := "CardLink$Journal", name := "forgetAll", desc := "()V" } : Jvm.MethodName) prog_3_method_2_code (1 : Nat) (Option.none : Option Jvm.ClassFile.FieldType)) ∈ gW := gW_of (List.mem_of_getElem? (i := 484) (by decide +kernel)) rfl
theorem t_485 : (Jvm.Cond.methodLink "CardLink$Journal" (47 : Nat) ({ cls := "CardLink$Row", name := "keep", desc := "(I)V" } : Jvm.MethodName)) ∈ gW := gW_of (List.mem_of_getElem? (i := 485) (by decide +kernel)) rfl
theorem t_486 : (Jvm.Cond.methodLink "CardLink" (77 : Nat) ({ cls := "CardLink$ResetAnswer", name := "cardRoom", desc := "()I" } : Jvm.MethodName)) ∈ gW := gW_of (List.mem_of_getElem? (i := 486) (by decide +kernel)) rfl
theorem t_487 : (Jvm.Cond.instanceMethod ({ cls := "CardLink$ResetAnswer", name := "cardRoom", desc := "()I" } : Jvm.MethodName)) ∈ gW := gW_of (List.mem_of_getElem? (i := 487) (by decide +kernel)) rfl
theorem t_488 : (Jvm.Cond.selects "CardLink$ResetAnswer" ({ cls := "CardLink$ResetAnswer", name := "cardRoom", desc := "()I" } : Jvm.MethodName) ({ cls := "CardLink$ResetAnswer", name := "cardRoom", desc := "()I" } : Jvm.MethodName)) ∈ gW := gW_of (List.mem_of_getElem? (i := 488) (by decide +kernel)) rfl
theorem t_489 : (Jvm.Cond.code ({ cls := "CardLink$ResetAnswer", name := "cardRoom", desc := "()I" } : Jvm.MethodName) prog_5_method_14_code (1 : Nat) (Option.some Jvm.ClassFile.FieldType.int)) ∈ gW := gW_of (List.mem_of_getElem? (i := 489) (by decide +kernel)) rfl
theorem t_490 : (Jvm.Cond.methodLink "CardLink" (80 : Nat) ({ cls := "CardLink$Line", name := "restart", desc := "(I)V" } : Jvm.MethodName)) ∈ gW := gW_of (List.mem_of_getElem? (i := 490) (by decide +kernel)) rfl
theorem t_491 : (Jvm.Cond.instanceMethod ({ cls := "CardLink$Line", name := "restart", desc := "(I)V" } : Jvm.MethodName)) ∈ gW := gW_of (List.mem_of_getElem? (i := 491) (by decide +kernel)) rfl
theorem t_492 : (Jvm.Cond.selects "CardLink$Line" ({ cls := "CardLink$Line", name := "restart", desc := "(I)V" } : Jvm.MethodName) ({ cls := "CardLink$Line", name := "restart", desc := "(I)V" } : Jvm.MethodName)) ∈ gW := gW_of (List.mem_of_getElem? (i := 492) (by decide +kernel)) rfl
theorem t_493 : (Jvm.Cond.code ({ cls := "CardLink$Line", name := "restart", desc := "(I)V" } : Jvm.MethodName) prog_4_method_2_code (2 : Nat) (Option.none : Option Jvm.ClassFile.FieldType)) ∈ gW := gW_of (List.mem_of_getElem? (i := 493) (by decide +kernel)) rfl
theorem t_494 : (Jvm.Cond.methodLink "CardLink$Line" (84 : Nat) ({ cls := "CardLink$Side", name := "restart", desc := "(I)V" } : Jvm.MethodName)) ∈ gW := gW_of (List.mem_of_getElem? (i := 494) (by decide +kernel)) rfl
theorem t_495 : (Jvm.Cond.instanceMethod ({ cls := "CardLink$Side", name := "restart", desc := "(I)V" } : Jvm.MethodName)) ∈ gW := gW_of (List.mem_of_getElem? (i := 495) (by decide +kernel)) rfl
theorem t_496 : (Jvm.Cond.selects "CardLink$Side" ({ cls := "CardLink$Side", name := "restart", desc := "(I)V" } : Jvm.MethodName) ({ cls := "CardLink$Side", name := "restart", desc := "(I)V" } : Jvm.MethodName)) ∈ gW := gW_of (List.mem_of_getElem? (i := 496) (by decide +kernel)) rfl
theorem t_497 : (Jvm.Cond.code ({ cls := "CardLink$Side", name := "restart", desc := "(I)V" } : Jvm.MethodName) prog_7_method_2_code (2 : Nat) (Option.none : Option Jvm.ClassFile.FieldType)) ∈ gW := gW_of (List.mem_of_getElem? (i := 497) (by decide +kernel)) rfl
theorem t_498 : (Jvm.Cond.methodLink "CardLink$Side" (64 : Nat) ({ cls := "CardLink$Side", name := "emptyAll", desc := "()V" } : Jvm.MethodName)) ∈ gW := gW_of (List.mem_of_getElem? (i := 498) (by decide +kernel)) rfl
theorem t_499 : (Jvm.Cond.instanceMethod ({ cls := "CardLink$Side", name := "emptyAll", desc := "()V" } : Jvm.MethodName)) ∈ gW := gW_of (List.mem_of_getElem? (i := 499) (by decide +kernel)) rfl
theorem t_500 : (Jvm.Cond.selects "CardLink$Side" ({ cls := "CardLink$Side", name := "emptyAll", desc := "()V" } : Jvm.MethodName) ({ cls := "CardLink$Side", name := "emptyAll", desc := "()V" } : Jvm.MethodName)) ∈ gW := gW_of (List.mem_of_getElem? (i := 500) (by decide +kernel)) rfl
theorem t_501 : (Jvm.Cond.code ({ cls := "CardLink$Side", name := "emptyAll", desc := "()V" } : Jvm.MethodName) prog_7_method_4_code (1 : Nat) (Option.none : Option Jvm.ClassFile.FieldType)) ∈ gW := gW_of (List.mem_of_getElem? (i := 501) (by decide +kernel)) rfl
theorem t_502 : (Jvm.Cond.methodLink "CardLink$Side" (67 : Nat) ({ cls := "CardLink$Row", name := "keep", desc := "(I)V" } : Jvm.MethodName)) ∈ gW := gW_of (List.mem_of_getElem? (i := 502) (by decide +kernel)) rfl
theorem t_503 : (Jvm.Cond.methodLink "CardLink$Line" (87 : Nat) ({ cls := "CardLink$Wire", name := "restart", desc := "()V" } : Jvm.MethodName)) ∈ gW := gW_of (List.mem_of_getElem? (i := 503) (by decide +kernel)) rfl
theorem t_504 : (Jvm.Cond.instanceMethod ({ cls := "CardLink$Wire", name := "restart", desc := "()V" } : Jvm.MethodName)) ∈ gW := gW_of (List.mem_of_getElem? (i := 504) (by decide +kernel)) rfl
theorem t_505 : (Jvm.Cond.selects "CardLink$Wire" ({ cls := "CardLink$Wire", name := "restart", desc := "()V" } : Jvm.MethodName) ({ cls := "CardLink$Wire", name := "restart", desc := "()V" } : Jvm.MethodName)) ∈ gW := gW_of (List.mem_of_getElem? (i := 505) (by decide +kernel)) rfl
theorem t_506 : (Jvm.Cond.code ({ cls := "CardLink$Wire", name := "restart", desc := "()V" } : Jvm.MethodName) prog_8_method_2_code (1 : Nat) (Option.none : Option Jvm.ClassFile.FieldType)) ∈ gW := gW_of (List.mem_of_getElem? (i := 506) (by decide +kernel)) rfl
theorem t_507 : (Jvm.Cond.methodLink "CardLink$Line" (89 : Nat) ({ cls := "CardLink$Row", name := "keep", desc := "(I)V" } : Jvm.MethodName)) ∈ gW := gW_of (List.mem_of_getElem? (i := 507) (by decide +kernel)) rfl
theorem t_508 : (Jvm.Cond.methodLink "CardLink" (83 : Nat) ({ cls := "CardLink$Forecast", name := "forget", desc := "()V" } : Jvm.MethodName)) ∈ gW := gW_of (List.mem_of_getElem? (i := 508) (by decide +kernel)) rfl
theorem t_509 : (Jvm.Cond.instanceMethod ({ cls := "CardLink$Forecast", name := "forget", desc := "()V" } : Jvm.MethodName)) ∈ gW := gW_of (List.mem_of_getElem? (i := 509) (by decide +kernel)) rfl
theorem t_510 : (Jvm.Cond.selects "CardLink$Forecast" ({ cls := "CardLink$Forecast", name := "forget", desc := "()V" } : Jvm.MethodName) ({ cls := "CardLink$Forecast", name := "forget", desc := "()V" } : Jvm.MethodName)) ∈ gW := gW_of (List.mem_of_getElem? (i := 510) (by decide +kernel)) rfl
theorem t_511 : (Jvm.Cond.code ({ cls := "CardLink$Forecast", name := "forget", desc := "()V" } : Jvm.MethodName) prog_2_method_2_code (1 : Nat) (Option.none : Option Jvm.ClassFile.FieldType)) ∈ gW := gW_of (List.mem_of_getElem? (i := 511) (by decide +kernel)) rfl
theorem t_512 : (Jvm.Cond.methodLink "CardLink$Forecast" (40 : Nat) ({ cls := "java/util/Arrays", name := "fill", desc := "([II)V" } : Jvm.MethodName)) ∈ gW := gW_of (List.mem_of_getElem? (i := 512) (by decide +kernel)) rfl
theorem t_513 : (Jvm.Cond.static ({ cls := "java/util/Arrays", name := "fill", desc := "([II)V" } : Jvm.MethodName)) ∈ gW := gW_of (List.mem_of_getElem? (i := 513) (by decide +kernel)) rfl
theorem t_514 : (Jvm.Cond.code ({ cls := "java/util/Arrays", name := "fill", desc := "([II)V" } : Jvm.MethodName) prog_18_method_103_code (4 : Nat) (Option.none : Option Jvm.ClassFile.FieldType)) ∈ gW := gW_of (List.mem_of_getElem? (i := 514) (by decide +kernel)) rfl
theorem t_515 : (Jvm.Cond.methodLink "CardLink" (86 : Nat) ({ cls := "CardLink$ResetAnswer", name := "historicalBytes", desc := "()I" } : Jvm.MethodName)) ∈ gW := gW_of (List.mem_of_getElem? (i := 515) (by decide +kernel)) rfl
theorem t_516 : (Jvm.Cond.instanceMethod ({ cls := "CardLink$ResetAnswer", name := "historicalBytes", desc := "()I" } : Jvm.MethodName)) ∈ gW := gW_of (List.mem_of_getElem? (i := 516) (by decide +kernel)) rfl
theorem t_517 : (Jvm.Cond.selects "CardLink$ResetAnswer" ({ cls := "CardLink$ResetAnswer", name := "historicalBytes", desc := "()I" } : Jvm.MethodName) ({ cls := "CardLink$ResetAnswer", name := "historicalBytes", desc := "()I" } : Jvm.MethodName)) ∈ gW := gW_of (List.mem_of_getElem? (i := 517) (by decide +kernel)) rfl
theorem t_518 : (Jvm.Cond.code ({ cls := "CardLink$ResetAnswer", name := "historicalBytes", desc := "()I" } : Jvm.MethodName) prog_5_method_15_code (1 : Nat) (Option.some Jvm.ClassFile.FieldType.int)) ∈ gW := gW_of (List.mem_of_getElem? (i := 518) (by decide +kernel)) rfl
theorem t_519 : (Jvm.Cond.methodLink "CardLinkLaw" (65 : Nat) ({ cls := "CardLink", name := "answer", desc := "(I)I" } : Jvm.MethodName)) ∈ gW := gW_of (List.mem_of_getElem? (i := 519) (by decide +kernel)) rfl
theorem t_520 : (Jvm.Cond.instanceMethod ({ cls := "CardLink", name := "answer", desc := "(I)I" } : Jvm.MethodName)) ∈ gW := gW_of (List.mem_of_getElem? (i := 520) (by decide +kernel)) rfl
theorem t_521 : (Jvm.Cond.selects "CardLink" ({ cls := "CardLink", name := "answer", desc := "(I)I" } : Jvm.MethodName) ({ cls := "CardLink", name := "answer", desc := "(I)I" } : Jvm.MethodName)) ∈ gW := gW_of (List.mem_of_getElem? (i := 521) (by decide +kernel)) rfl
theorem t_522 : (Jvm.Cond.code ({ cls := "CardLink", name := "answer", desc := "(I)I" } : Jvm.MethodName) prog_1_method_6_code (2 : Nat) (Option.some Jvm.ClassFile.FieldType.int)) ∈ gW := gW_of (List.mem_of_getElem? (i := 522) (by decide +kernel)) rfl
theorem t_523 : (Jvm.Cond.methodLink "CardLink" (89 : Nat) ({ cls := "CardLink$ResetAnswer", name := "tell", desc := "(I)I" } : Jvm.MethodName)) ∈ gW := gW_of (List.mem_of_getElem? (i := 523) (by decide +kernel)) rfl
theorem t_524 : (Jvm.Cond.instanceMethod ({ cls := "CardLink$ResetAnswer", name := "tell", desc := "(I)I" } : Jvm.MethodName)) ∈ gW := gW_of (List.mem_of_getElem? (i := 524) (by decide +kernel)) rfl
theorem t_525 : (Jvm.Cond.selects "CardLink$ResetAnswer" ({ cls := "CardLink$ResetAnswer", name := "tell", desc := "(I)I" } : Jvm.MethodName) ({ cls := "CardLink$ResetAnswer", name := "tell", desc := "(I)I" } : Jvm.MethodName)) ∈ gW := gW_of (List.mem_of_getElem? (i := 525) (by decide +kernel)) rfl
theorem t_526 : (Jvm.Cond.code ({ cls := "CardLink$ResetAnswer", name := "tell", desc := "(I)I" } : Jvm.MethodName) prog_5_method_17_code (2 : Nat) (Option.some Jvm.ClassFile.FieldType.int)) ∈ gW := gW_of (List.mem_of_getElem? (i := 526) (by decide +kernel)) rfl
theorem t_527 : (Jvm.Cond.methodLink "CardLinkLaw" (62 : Nat) ({ cls := "CardLink", name := "historical", desc := "(I)I" } : Jvm.MethodName)) ∈ gW := gW_of (List.mem_of_getElem? (i := 527) (by decide +kernel)) rfl
theorem t_528 : (Jvm.Cond.instanceMethod ({ cls := "CardLink", name := "historical", desc := "(I)I" } : Jvm.MethodName)) ∈ gW := gW_of (List.mem_of_getElem? (i := 528) (by decide +kernel)) rfl
theorem t_529 : (Jvm.Cond.selects "CardLink" ({ cls := "CardLink", name := "historical", desc := "(I)I" } : Jvm.MethodName) ({ cls := "CardLink", name := "historical", desc := "(I)I" } : Jvm.MethodName)) ∈ gW := gW_of (List.mem_of_getElem? (i := 529) (by decide +kernel)) rfl
theorem t_530 : (Jvm.Cond.code ({ cls := "CardLink", name := "historical", desc := "(I)I" } : Jvm.MethodName) prog_1_method_7_code (2 : Nat) (Option.some Jvm.ClassFile.FieldType.int)) ∈ gW := gW_of (List.mem_of_getElem? (i := 530) (by decide +kernel)) rfl
theorem t_531 : (Jvm.Cond.methodLink "CardLink" (93 : Nat) ({ cls := "CardLink$ResetAnswer", name := "historicalByte", desc := "(I)I" } : Jvm.MethodName)) ∈ gW := gW_of (List.mem_of_getElem? (i := 531) (by decide +kernel)) rfl
theorem t_532 : (Jvm.Cond.instanceMethod ({ cls := "CardLink$ResetAnswer", name := "historicalByte", desc := "(I)I" } : Jvm.MethodName)) ∈ gW := gW_of (List.mem_of_getElem? (i := 532) (by decide +kernel)) rfl
theorem t_533 : (Jvm.Cond.selects "CardLink$ResetAnswer" ({ cls := "CardLink$ResetAnswer", name := "historicalByte", desc := "(I)I" } : Jvm.MethodName) ({ cls := "CardLink$ResetAnswer", name := "historicalByte", desc := "(I)I" } : Jvm.MethodName)) ∈ gW := gW_of (List.mem_of_getElem? (i := 533) (by decide +kernel)) rfl
theorem t_534 : (Jvm.Cond.code ({ cls := "CardLink$ResetAnswer", name := "historicalByte", desc := "(I)I" } : Jvm.MethodName) prog_5_method_16_code (2 : Nat) (Option.some Jvm.ClassFile.FieldType.int)) ∈ gW := gW_of (List.mem_of_getElem? (i := 534) (by decide +kernel)) rfl
theorem t_535 : (Jvm.Cond.methodLink "CardLinkLaw" (45 : Nat) ({ cls := "CardLink", name := "message", desc := "()I" } : Jvm.MethodName)) ∈ gW := gW_of (List.mem_of_getElem? (i := 535) (by decide +kernel)) rfl
theorem t_536 : (Jvm.Cond.instanceMethod ({ cls := "CardLink", name := "message", desc := "()I" } : Jvm.MethodName)) ∈ gW := gW_of (List.mem_of_getElem? (i := 536) (by decide +kernel)) rfl
theorem t_537 : (Jvm.Cond.selects "CardLink" ({ cls := "CardLink", name := "message", desc := "()I" } : Jvm.MethodName) ({ cls := "CardLink", name := "message", desc := "()I" } : Jvm.MethodName)) ∈ gW := gW_of (List.mem_of_getElem? (i := 537) (by decide +kernel)) rfl
theorem t_538 : (Jvm.Cond.code ({ cls := "CardLink", name := "message", desc := "()I" } : Jvm.MethodName) prog_1_method_8_code (2 : Nat) (Option.some Jvm.ClassFile.FieldType.int)) ∈ gW := gW_of (List.mem_of_getElem? (i := 538) (by decide +kernel)) rfl
theorem t_539 : (Jvm.Cond.methodLink "CardLink" (96 : Nat) ({ cls := "CardLink", name := "mayStart", desc := "()Z" } : Jvm.MethodName)) ∈ gW := gW_of (List.mem_of_getElem? (i := 539) (by decide +kernel)) rfl
theorem t_541 : (Jvm.Cond.instanceMethod ({ cls := "CardLink", name := "mayStart", desc := "()Z" } : Jvm.MethodName)) ∈ gW := gW_of (List.mem_of_getElem? (i := 541) (by decide +kernel)) rfl
theorem t_542 : (Jvm.Cond.code ({ cls := "CardLink", name := "mayStart", desc := "()Z" } : Jvm.MethodName) prog_1_method_10_code (1 : Nat) (Option.some Jvm.ClassFile.FieldType.boolean)) ∈ gW := gW_of (List.mem_of_getElem? (i := 542) (by decide +kernel)) rfl
theorem t_543 : (Jvm.Cond.methodLink "CardLink" (55 : Nat) ({ cls := "CardLink$Row", name := "size", desc := "()I" } : Jvm.MethodName)) ∈ gW := gW_of (List.mem_of_getElem? (i := 543) (by decide +kernel)) rfl
theorem t_544 : (Jvm.Cond.methodLink "CardLink" (100 : Nat) ({ cls := "CardLink$Line", name := "startMessage", desc := "(LCardLink$Row;)V" } : Jvm.MethodName)) ∈ gW := gW_of (List.mem_of_getElem? (i := 544) (by decide +kernel)) rfl
theorem t_545 : (Jvm.Cond.instanceMethod ({ cls := "CardLink$Line", name := "startMessage", desc := "(LCardLink$Row;)V" } : Jvm.MethodName)) ∈ gW := gW_of (List.mem_of_getElem? (i := 545) (by decide +kernel)) rfl
theorem t_546 : (Jvm.Cond.selects "CardLink$Line" ({ cls := "CardLink$Line", name := "startMessage", desc := "(LCardLink$Row;)V" } : Jvm.MethodName) ({ cls := "CardLink$Line", name := "startMessage", desc := "(LCardLink$Row;)V" } : Jvm.MethodName)) ∈ gW := gW_of (List.mem_of_getElem? (i := 546) (by decide +kernel)) rfl
theorem t_547 : (Jvm.Cond.code ({ cls := "CardLink$Line", name := "startMessage", desc := "(LCardLink$Row;)V" } : Jvm.MethodName) prog_4_method_4_code (2 : Nat) (Option.none : Option Jvm.ClassFile.FieldType)) ∈ gW := gW_of (List.mem_of_getElem? (i := 547) (by decide +kernel)) rfl
theorem t_548 : (Jvm.Cond.methodLink "CardLink$Line" (99 : Nat) ({ cls := "CardLink$Row", name := "copy", desc := "(LCardLink$Row;)V" } : Jvm.MethodName)) ∈ gW := gW_of (List.mem_of_getElem? (i := 548) (by decide +kernel)) rfl
theorem t_549 : (Jvm.Cond.instanceMethod ({ cls := "CardLink$Row", name := "copy", desc := "(LCardLink$Row;)V" } : Jvm.MethodName)) ∈ gW := gW_of (List.mem_of_getElem? (i := 549) (by decide +kernel)) rfl
theorem t_550 : (Jvm.Cond.selects "CardLink$Row" ({ cls := "CardLink$Row", name := "copy", desc := "(LCardLink$Row;)V" } : Jvm.MethodName) ({ cls := "CardLink$Row", name := "copy", desc := "(LCardLink$Row;)V" } : Jvm.MethodName)) ∈ gW := gW_of (List.mem_of_getElem? (i := 550) (by decide +kernel)) rfl
theorem t_551 : (Jvm.Cond.code ({ cls := "CardLink$Row", name := "copy", desc := "(LCardLink$Row;)V" } : Jvm.MethodName) prog_6_method_7_code (3 : Nat) (Option.none : Option Jvm.ClassFile.FieldType)) ∈ gW := gW_of (List.mem_of_getElem? (i := 551) (by decide +kernel)) rfl
theorem t_552 : (Jvm.Cond.methodLink "CardLink$Row" (35 : Nat) ({ cls := "java/lang/System", name := "arraycopy", desc := "(Ljava/lang/Object;ILjava/lang/Object;II)V" } : Jvm.MethodName)) ∈ gW := gW_of (List.mem_of_getElem? (i := 552) (by decide +kernel)) rfl
theorem t_553 : (Jvm.Cond.methodLink "CardLink$Line" (108 : Nat) ({ cls := "CardLink$Line", name := "begin", desc := "(I)V" } : Jvm.MethodName)) ∈ gW := gW_of (List.mem_of_getElem? (i := 553) (by decide +kernel)) rfl
theorem t_555 : (Jvm.Cond.instanceMethod ({ cls := "CardLink$Line", name := "begin", desc := "(I)V" } : Jvm.MethodName)) ∈ gW := gW_of (List.mem_of_getElem? (i := 555) (by decide +kernel)) rfl
theorem t_556 : (Jvm.Cond.code ({ cls := "CardLink$Line", name := "begin", desc := "(I)V" } : Jvm.MethodName) prog_4_method_6_code (2 : Nat) (Option.none : Option Jvm.ClassFile.FieldType)) ∈ gW := gW_of (List.mem_of_getElem? (i := 556) (by decide +kernel)) rfl
theorem t_557 : (Jvm.Cond.methodLink "CardLink" (104 : Nat) ({ cls := "CardLink$Line", name := "blocksAhead", desc := "()I" } : Jvm.MethodName)) ∈ gW := gW_of (List.mem_of_getElem? (i := 557) (by decide +kernel)) rfl
theorem t_558 : (Jvm.Cond.instanceMethod ({ cls := "CardLink$Line", name := "blocksAhead", desc := "()I" } : Jvm.MethodName)) ∈ gW := gW_of (List.mem_of_getElem? (i := 558) (by decide +kernel)) rfl
theorem t_559 : (Jvm.Cond.selects "CardLink$Line" ({ cls := "CardLink$Line", name := "blocksAhead", desc := "()I" } : Jvm.MethodName) ({ cls := "CardLink$Line", name := "blocksAhead", desc := "()I" } : Jvm.MethodName)) ∈ gW := gW_of (List.mem_of_getElem? (i := 559) (by decide +kernel)) rfl
theorem t_560 : (Jvm.Cond.code ({ cls := "CardLink$Line", name := "blocksAhead", desc := "()I" } : Jvm.MethodName) prog_4_method_7_code (4 : Nat) (Option.some Jvm.ClassFile.FieldType.int)) ∈ gW := gW_of (List.mem_of_getElem? (i := 560) (by decide +kernel)) rfl
theorem t_561 : (Jvm.Cond.methodLink "CardLink$Line" (111 : Nat) ({ cls := "CardLink$Row", name := "size", desc := "()I" } : Jvm.MethodName)) ∈ gW := gW_of (List.mem_of_getElem? (i := 561) (by decide +kernel)) rfl
theorem t_562 : (Jvm.Cond.methodLink "CardLinkLaw" (80 : Nat) ({ cls := "CardLink", name := "room", desc := "(I)I" } : Jvm.MethodName)) ∈ gW := gW_of (List.mem_of_getElem? (i := 562) (by decide +kernel)) rfl
theorem t_563 : (Jvm.Cond.instanceMethod ({ cls := "CardLink", name := "room", desc := "(I)I" } : Jvm.MethodName)) ∈ gW := gW_of (List.mem_of_getElem? (i := 563) (by decide +kernel)) rfl
theorem t_564 : (Jvm.Cond.selects "CardLink" ({ cls := "CardLink", name := "room", desc := "(I)I" } : Jvm.MethodName) ({ cls := "CardLink", name := "room", desc := "(I)I" } : Jvm.MethodName)) ∈ gW := gW_of (List.mem_of_getElem? (i := 564) (by decide +kernel)) rfl
theorem t_565 : (Jvm.Cond.code ({ cls := "CardLink", name := "room", desc := "(I)I" } : Jvm.MethodName) prog_1_method_9_code (2 : Nat) (Option.some Jvm.ClassFile.FieldType.int)) ∈ gW := gW_of (List.mem_of_getElem? (i := 565) (by decide +kernel)) rfl
theorem t_566 : (Jvm.Cond.methodLink "CardLink" (107 : Nat) ({ cls := "CardLink$Line", name := "startRoom", desc := "(I)V" } : Jvm.MethodName)) ∈ gW := gW_of (List.mem_of_getElem? (i := 566) (by decide +kernel)) rfl
theorem t_567 : (Jvm.Cond.instanceMethod ({ cls := "CardLink$Line", name := "startRoom", desc := "(I)V" } : Jvm.MethodName)) ∈ gW := gW_of (List.mem_of_getElem? (i := 567) (by decide +kernel)) rfl
theorem t_568 : (Jvm.Cond.selects "CardLink$Line" ({ cls := "CardLink$Line", name := "startRoom", desc := "(I)V" } : Jvm.MethodName) ({ cls := "CardLink$Line", name := "startRoom", desc := "(I)V" } : Jvm.MethodName)) ∈ gW := gW_of (List.mem_of_getElem? (i := 568) (by decide +kernel)) rfl
theorem t_569 : (Jvm.Cond.code ({ cls := "CardLink$Line", name := "startRoom", desc := "(I)V" } : Jvm.MethodName) prog_4_method_5_code (2 : Nat) (Option.none : Option Jvm.ClassFile.FieldType)) ∈ gW := gW_of (List.mem_of_getElem? (i := 569) (by decide +kernel)) rfl
theorem t_570 : (Jvm.Cond.methodLink "CardLinkLaw" (76 : Nat) ({ cls := "CardLink", name := "fault", desc := "(III)I" } : Jvm.MethodName)) ∈ gW := gW_of (List.mem_of_getElem? (i := 570) (by decide +kernel)) rfl
theorem t_571 : (Jvm.Cond.instanceMethod ({ cls := "CardLink", name := "fault", desc := "(III)I" } : Jvm.MethodName)) ∈ gW := gW_of (List.mem_of_getElem? (i := 571) (by decide +kernel)) rfl
theorem t_572 : (Jvm.Cond.selects "CardLink" ({ cls := "CardLink", name := "fault", desc := "(III)I" } : Jvm.MethodName) ({ cls := "CardLink", name := "fault", desc := "(III)I" } : Jvm.MethodName)) ∈ gW := gW_of (List.mem_of_getElem? (i := 572) (by decide +kernel)) rfl
theorem t_573 : (Jvm.Cond.code ({ cls := "CardLink", name := "fault", desc := "(III)I" } : Jvm.MethodName) prog_1_method_12_code (5 : Nat) (Option.some Jvm.ClassFile.FieldType.int)) ∈ gW := gW_of (List.mem_of_getElem? (i := 573) (by decide +kernel)) rfl
theorem t_574 : (Jvm.Cond.methodLink "CardLink" (118 : Nat) ({ cls := "CardLink$Wire", name := "isFull", desc := "()Z" } : Jvm.MethodName)) ∈ gW := gW_of (List.mem_of_getElem? (i := 574) (by decide +kernel)) rfl
theorem t_575 : (Jvm.Cond.instanceMethod ({ cls := "CardLink$Wire", name := "isFull", desc := "()Z" } : Jvm.MethodName)) ∈ gW := gW_of (List.mem_of_getElem? (i := 575) (by decide +kernel)) rfl
theorem t_576 : (Jvm.Cond.selects "CardLink$Wire" ({ cls := "CardLink$Wire", name := "isFull", desc := "()Z" } : Jvm.MethodName) ({ cls := "CardLink$Wire", name := "isFull", desc := "()Z" } : Jvm.MethodName)) ∈ gW := gW_of (List.mem_of_getElem? (i := 576) (by decide +kernel)) rfl
theorem t_577 : (Jvm.Cond.code ({ cls := "CardLink$Wire", name := "isFull", desc := "()Z" } : Jvm.MethodName) prog_8_method_6_code (1 : Nat) (Option.some Jvm.ClassFile.FieldType.boolean)) ∈ gW := gW_of (List.mem_of_getElem? (i := 577) (by decide +kernel)) rfl
theorem t_578 : (Jvm.Cond.methodLink "CardLink" (123 : Nat) ({ cls := "CardLink$Wire", name := "addFault", desc := "(III)V" } : Jvm.MethodName)) ∈ gW := gW_of (List.mem_of_getElem? (i := 578) (by decide +kernel)) rfl
theorem t_579 : (Jvm.Cond.instanceMethod ({ cls := "CardLink$Wire", name := "addFault", desc := "(III)V" } : Jvm.MethodName)) ∈ gW := gW_of (List.mem_of_getElem? (i := 579) (by decide +kernel)) rfl
theorem t_580 : (Jvm.Cond.selects "CardLink$Wire" ({ cls := "CardLink$Wire", name := "addFault", desc := "(III)V" } : Jvm.MethodName) ({ cls := "CardLink$Wire", name := "addFault", desc := "(III)V" } : Jvm.MethodName)) ∈ gW := gW_of (List.mem_of_getElem? (i := 580) (by decide +kernel)) rfl
theorem t_581 : (Jvm.Cond.code ({ cls := "CardLink$Wire", name := "addFault", desc := "(III)V" } : Jvm.MethodName) prog_8_method_7_code (6 : Nat) (Option.none : Option Jvm.ClassFile.FieldType)) ∈ gW := gW_of (List.mem_of_getElem? (i := 581) (by decide +kernel)) rfl
theorem t_582 : (Jvm.Cond.methodLink "CardLink$Wire" (43 : Nat) ({ cls := "CardLink$Wire", name := "makePlace", desc := "(I)V" } : Jvm.MethodName)) ∈ gW := gW_of (List.mem_of_getElem? (i := 582) (by decide +kernel)) rfl
theorem t_584 : (Jvm.Cond.instanceMethod ({ cls := "CardLink$Wire", name := "makePlace", desc := "(I)V" } : Jvm.MethodName)) ∈ gW := gW_of (List.mem_of_getElem? (i := 584) (by decide +kernel)) rfl
theorem t_585 : (Jvm.Cond.code ({ cls := "CardLink$Wire", name := "makePlace", desc := "(I)V" } : Jvm.MethodName) prog_8_method_8_code (3 : Nat) (Option.none : Option Jvm.ClassFile.FieldType)) ∈ gW := gW_of (List.mem_of_getElem? (i := 585) (by decide +kernel)) rfl
theorem t_586 : (Jvm.Cond.methodLink "CardLink$Wire" (47 : Nat) ({ cls := "java/lang/Math", name := "min", desc := "(II)I" } : Jvm.MethodName)) ∈ gW := gW_of (List.mem_of_getElem? (i := 586) (by decide +kernel)) rfl
theorem t_587 : (Jvm.Cond.methodLink "CardLink" (127 : Nat) ({ cls := "CardLink$Wire", name := "faults", desc := "()I" } : Jvm.MethodName)) ∈ gW := gW_of (List.mem_of_getElem? (i := 587) (by decide +kernel)) rfl
theorem t_588 : (Jvm.Cond.instanceMethod ({ cls := "CardLink$Wire", name := "faults", desc := "()I" } : Jvm.MethodName)) ∈ gW := gW_of (List.mem_of_getElem? (i := 588) (by decide +kernel)) rfl
theorem t_589 : (Jvm.Cond.selects "CardLink$Wire" ({ cls := "CardLink$Wire", name := "faults", desc := "()I" } : Jvm.MethodName) ({ cls := "CardLink$Wire", name := "faults", desc := "()I" } : Jvm.MethodName)) ∈ gW := gW_of (List.mem_of_getElem? (i := 589) (by decide +kernel)) rfl
theorem t_590 : (Jvm.Cond.code ({ cls := "CardLink$Wire", name := "faults", desc := "()I" } : Jvm.MethodName) prog_8_method_5_code (1 : Nat) (Option.some Jvm.ClassFile.FieldType.int)) ∈ gW := gW_of (List.mem_of_getElem? (i := 590) (by decide +kernel)) rfl
theorem t_591 : (Jvm.Cond.methodLink "CardLinkLaw" (67 : Nat) ({ cls := "CardLink", name := "repeats", desc := "(I)I" } : Jvm.MethodName)) ∈ gW := gW_of (List.mem_of_getElem? (i := 591) (by decide +kernel)) rfl
theorem t_592 : (Jvm.Cond.instanceMethod ({ cls := "CardLink", name := "repeats", desc := "(I)I" } : Jvm.MethodName)) ∈ gW := gW_of (List.mem_of_getElem? (i := 592) (by decide +kernel)) rfl
theorem t_593 : (Jvm.Cond.selects "CardLink" ({ cls := "CardLink", name := "repeats", desc := "(I)I" } : Jvm.MethodName) ({ cls := "CardLink", name := "repeats", desc := "(I)I" } : Jvm.MethodName)) ∈ gW := gW_of (List.mem_of_getElem? (i := 593) (by decide +kernel)) rfl
theorem t_594 : (Jvm.Cond.code ({ cls := "CardLink", name := "repeats", desc := "(I)I" } : Jvm.MethodName) prog_1_method_13_code (3 : Nat) (Option.some Jvm.ClassFile.FieldType.int)) ∈ gW := gW_of (List.mem_of_getElem? (i := 594) (by decide +kernel)) rfl
theorem t_595 : (Jvm.Cond.methodLink "CardLinkLaw" (48 : Nat) ({ cls := "CardLink", name := "step", desc := "(I)I" } : Jvm.MethodName)) ∈ gW := gW_of (List.mem_of_getElem? (i := 595) (by decide +kernel)) rfl
theorem t_596 : (Jvm.Cond.instanceMethod ({ cls := "CardLink", name := "step", desc := "(I)I" } : Jvm.MethodName)) ∈ gW := gW_of (List.mem_of_getElem? (i := 596) (by decide +kernel)) rfl
theorem t_597 : (Jvm.Cond.selects "CardLink" ({ cls := "CardLink", name := "step", desc := "(I)I" } : Jvm.MethodName) ({ cls := "CardLink", name := "step", desc := "(I)I" } : Jvm.MethodName)) ∈ gW := gW_of (List.mem_of_getElem? (i := 597) (by decide +kernel)) rfl
theorem t_598 : (Jvm.Cond.code ({ cls := "CardLink", name := "step", desc := "(I)I" } : Jvm.MethodName) prog_1_method_14_code (2 : Nat) (Option.some Jvm.ClassFile.FieldType.int)) ∈ gW := gW_of (List.mem_of_getElem? (i := 598) (by decide +kernel)) rfl
theorem t_599 : (Jvm.Cond.methodLink "CardLink" (133 : Nat) ({ cls := "CardLink", name := "onWay", desc := "()Z" } : Jvm.MethodName)) ∈ gW := gW_of (List.mem_of_getElem? (i := 599) (by decide +kernel)) rfl
theorem t_601 : (Jvm.Cond.instanceMethod ({ cls := "CardLink", name := "onWay", desc := "()Z" } : Jvm.MethodName)) ∈ gW := gW_of (List.mem_of_getElem? (i := 601) (by decide +kernel)) rfl
theorem t_602 : (Jvm.Cond.code ({ cls := "CardLink", name := "onWay", desc := "()Z" } : Jvm.MethodName) prog_1_method_11_code (1 : Nat) (Option.some Jvm.ClassFile.FieldType.boolean)) ∈ gW := gW_of (List.mem_of_getElem? (i := 602) (by decide +kernel)) rfl
theorem t_603 : (Jvm.Cond.methodLink "CardLink" (136 : Nat) ({ cls := "CardLink$Line", name := "run", desc := "(I)I" } : Jvm.MethodName)) ∈ gW := gW_of (List.mem_of_getElem? (i := 603) (by decide +kernel)) rfl
theorem t_604 : (Jvm.Cond.instanceMethod ({ cls := "CardLink$Line", name := "run", desc := "(I)I" } : Jvm.MethodName)) ∈ gW := gW_of (List.mem_of_getElem? (i := 604) (by decide +kernel)) rfl
theorem t_605 : (Jvm.Cond.selects "CardLink$Line" ({ cls := "CardLink$Line", name := "run", desc := "(I)I" } : Jvm.MethodName) ({ cls := "CardLink$Line", name := "run", desc := "(I)I" } : Jvm.MethodName)) ∈ gW := gW_of (List.mem_of_getElem? (i := 605) (by decide +kernel)) rfl
theorem t_606 : (Jvm.Cond.code ({ cls := "CardLink$Line", name := "run", desc := "(I)I" } : Jvm.MethodName) prog_4_method_9_code (4 : Nat) (Option.some Jvm.ClassFile.FieldType.int)) ∈ gW := gW_of (List.mem_of_getElem? (i := 606) (by decide +kernel)) rfl
theorem t_607 : (Jvm.Cond.methodLink "CardLink$Line" (121 : Nat) ({ cls := "CardLink$Line", name := "blocksSent", desc := "()I" } : Jvm.MethodName)) ∈ gW := gW_of (List.mem_of_getElem? (i := 607) (by decide +kernel)) rfl
theorem t_608 : (Jvm.Cond.instanceMethod ({ cls := "CardLink$Line", name := "blocksSent", desc := "()I" } : Jvm.MethodName)) ∈ gW := gW_of (List.mem_of_getElem? (i := 608) (by decide +kernel)) rfl
theorem t_609 : (Jvm.Cond.selects "CardLink$Line" ({ cls := "CardLink$Line", name := "blocksSent", desc := "()I" } : Jvm.MethodName) ({ cls := "CardLink$Line", name := "blocksSent", desc := "()I" } : Jvm.MethodName)) ∈ gW := gW_of (List.mem_of_getElem? (i := 609) (by decide +kernel)) rfl
theorem t_610 : (Jvm.Cond.code ({ cls := "CardLink$Line", name := "blocksSent", desc := "()I" } : Jvm.MethodName) prog_4_method_8_code (1 : Nat) (Option.some Jvm.ClassFile.FieldType.int)) ∈ gW := gW_of (List.mem_of_getElem? (i := 610) (by decide +kernel)) rfl
theorem t_611 : (Jvm.Cond.methodLink "CardLink$Line" (118 : Nat) ({ cls := "CardLink$Side", name := "blocksSent", desc := "()I" } : Jvm.MethodName)) ∈ gW := gW_of (List.mem_of_getElem? (i := 611) (by decide +kernel)) rfl
theorem t_612 : (Jvm.Cond.instanceMethod ({ cls := "CardLink$Side", name := "blocksSent", desc := "()I" } : Jvm.MethodName)) ∈ gW := gW_of (List.mem_of_getElem? (i := 612) (by decide +kernel)) rfl
theorem t_613 : (Jvm.Cond.selects "CardLink$Side" ({ cls := "CardLink$Side", name := "blocksSent", desc := "()I" } : Jvm.MethodName) ({ cls := "CardLink$Side", name := "blocksSent", desc := "()I" } : Jvm.MethodName)) ∈ gW := gW_of (List.mem_of_getElem? (i := 613) (by decide +kernel)) rfl
theorem t_614 : (Jvm.Cond.code ({ cls := "CardLink$Side", name := "blocksSent", desc := "()I" } : Jvm.MethodName) prog_7_method_19_code (1 : Nat) (Option.some Jvm.ClassFile.FieldType.int)) ∈ gW := gW_of (List.mem_of_getElem? (i := 614) (by decide +kernel)) rfl
theorem t_615 : (Jvm.Cond.methodLink "CardLink$Line" (122 : Nat) ({ cls := "CardLink$Line", name := "turn", desc := "()V" } : Jvm.MethodName)) ∈ gW := gW_of (List.mem_of_getElem? (i := 615) (by decide +kernel)) rfl
theorem t_616 : (Jvm.Cond.instanceMethod ({ cls := "CardLink$Line", name := "turn", desc := "()V" } : Jvm.MethodName)) ∈ gW := gW_of (List.mem_of_getElem? (i := 616) (by decide +kernel)) rfl
theorem t_617 : (Jvm.Cond.selects "CardLink$Line" ({ cls := "CardLink$Line", name := "turn", desc := "()V" } : Jvm.MethodName) ({ cls := "CardLink$Line", name := "turn", desc := "()V" } : Jvm.MethodName)) ∈ gW := gW_of (List.mem_of_getElem? (i := 617) (by decide +kernel)) rfl
theorem t_618 : (Jvm.Cond.code ({ cls := "CardLink$Line", name := "turn", desc := "()V" } : Jvm.MethodName) prog_4_method_10_code (2 : Nat) (Option.none : Option Jvm.ClassFile.FieldType)) ∈ gW := gW_of (List.mem_of_getElem? (i := 618) (by decide +kernel)) rfl
theorem t_619 : (Jvm.Cond.methodLink "CardLink$Line" (125 : Nat) ({ cls := "CardLink$Line", name := "firstKind", desc := "()I" } : Jvm.MethodName)) ∈ gW := gW_of (List.mem_of_getElem? (i := 619) (by decide +kernel)) rfl
theorem t_621 : (Jvm.Cond.instanceMethod ({ cls := "CardLink$Line", name := "firstKind", desc := "()I" } : Jvm.MethodName)) ∈ gW := gW_of (List.mem_of_getElem? (i := 621) (by decide +kernel)) rfl
theorem t_622 : (Jvm.Cond.code ({ cls := "CardLink$Line", name := "firstKind", desc := "()I" } : Jvm.MethodName) prog_4_method_11_code (1 : Nat) (Option.some Jvm.ClassFile.FieldType.int)) ∈ gW := gW_of (List.mem_of_getElem? (i := 622) (by decide +kernel)) rfl
theorem t_623 : (Jvm.Cond.methodLink "CardLink$Line" (145 : Nat) ({ cls := "CardLink$Side", name := "ask", desc := "(II)I" } : Jvm.MethodName)) ∈ gW := gW_of (List.mem_of_getElem? (i := 623) (by decide +kernel)) rfl
theorem t_624 : (Jvm.Cond.instanceMethod ({ cls := "CardLink$Side", name := "ask", desc := "(II)I" } : Jvm.MethodName)) ∈ gW := gW_of (List.mem_of_getElem? (i := 624) (by decide +kernel)) rfl
theorem t_625 : (Jvm.Cond.selects "CardLink$Side" ({ cls := "CardLink$Side", name := "ask", desc := "(II)I" } : Jvm.MethodName) ({ cls := "CardLink$Side", name := "ask", desc := "(II)I" } : Jvm.MethodName)) ∈ gW := gW_of (List.mem_of_getElem? (i := 625) (by decide +kernel)) rfl
theorem t_626 : (Jvm.Cond.code ({ cls := "CardLink$Side", name := "ask", desc := "(II)I" } : Jvm.MethodName) prog_7_method_16_code (3 : Nat) (Option.some Jvm.ClassFile.FieldType.int)) ∈ gW := gW_of (List.mem_of_getElem? (i := 626) (by decide +kernel)) rfl
theorem t_627 : (Jvm.Cond.methodLink "CardLink$Side" (101 : Nat) ({ cls := "CardLink$Side", name := "requestKind", desc := "()I" } : Jvm.MethodName)) ∈ gW := gW_of (List.mem_of_getElem? (i := 627) (by decide +kernel)) rfl
theorem t_628 : (Jvm.Cond.instanceMethod ({ cls := "CardLink$Side", name := "requestKind", desc := "()I" } : Jvm.MethodName)) ∈ gW := gW_of (List.mem_of_getElem? (i := 628) (by decide +kernel)) rfl
theorem t_629 : (Jvm.Cond.selects "CardLink$Side" ({ cls := "CardLink$Side", name := "requestKind", desc := "()I" } : Jvm.MethodName) ({ cls := "CardLink$Side", name := "requestKind", desc := "()I" } : Jvm.MethodName)) ∈ gW := gW_of (List.mem_of_getElem? (i := 629) (by decide +kernel)) rfl
theorem t_630 : (Jvm.Cond.code ({ cls := "CardLink$Side", name := "requestKind", desc := "()I" } : Jvm.MethodName) prog_7_method_15_code (1 : Nat) (Option.some Jvm.ClassFile.FieldType.int)) ∈ gW := gW_of (List.mem_of_getElem? (i := 630) (by decide +kernel)) rfl
theorem t_631 : (Jvm.Cond.methodLink "CardLink$Line" (128 : Nat) ({ cls := "CardLink$Line", name := "readerKind", desc := "()I" } : Jvm.MethodName)) ∈ gW := gW_of (List.mem_of_getElem? (i := 631) (by decide +kernel)) rfl
theorem t_633 : (Jvm.Cond.instanceMethod ({ cls := "CardLink$Line", name := "readerKind", desc := "()I" } : Jvm.MethodName)) ∈ gW := gW_of (List.mem_of_getElem? (i := 633) (by decide +kernel)) rfl
theorem t_634 : (Jvm.Cond.code ({ cls := "CardLink$Line", name := "readerKind", desc := "()I" } : Jvm.MethodName) prog_4_method_13_code (2 : Nat) (Option.some Jvm.ClassFile.FieldType.int)) ∈ gW := gW_of (List.mem_of_getElem? (i := 634) (by decide +kernel)) rfl
theorem t_635 : (Jvm.Cond.methodLink "CardLink$Line" (152 : Nat) ({ cls := "CardLink$Line", name := "onBroken", desc := "(LCardLink$Side;)I" } : Jvm.MethodName)) ∈ gW := gW_of (List.mem_of_getElem? (i := 635) (by decide +kernel)) rfl
theorem t_637 : (Jvm.Cond.instanceMethod ({ cls := "CardLink$Line", name := "onBroken", desc := "(LCardLink$Side;)I" } : Jvm.MethodName)) ∈ gW := gW_of (List.mem_of_getElem? (i := 637) (by decide +kernel)) rfl
theorem t_638 : (Jvm.Cond.code ({ cls := "CardLink$Line", name := "onBroken", desc := "(LCardLink$Side;)I" } : Jvm.MethodName) prog_4_method_15_code (2 : Nat) (Option.some Jvm.ClassFile.FieldType.int)) ∈ gW := gW_of (List.mem_of_getElem? (i := 638) (by decide +kernel)) rfl
theorem t_639 : (Jvm.Cond.methodLink "CardLink$Line" (188 : Nat) ({ cls := "CardLink$Side", name := "requestKind", desc := "()I" } : Jvm.MethodName)) ∈ gW := gW_of (List.mem_of_getElem? (i := 639) (by decide +kernel)) rfl
theorem t_640 : (Jvm.Cond.methodLink "CardLink$Line" (191 : Nat) ({ cls := "CardLink$Side", name := "receipt", desc := "(I)I" } : Jvm.MethodName)) ∈ gW := gW_of (List.mem_of_getElem? (i := 640) (by decide +kernel)) rfl
theorem t_641 : (Jvm.Cond.instanceMethod ({ cls := "CardLink$Side", name := "receipt", desc := "(I)I" } : Jvm.MethodName)) ∈ gW := gW_of (List.mem_of_getElem? (i := 641) (by decide +kernel)) rfl
theorem t_642 : (Jvm.Cond.selects "CardLink$Side" ({ cls := "CardLink$Side", name := "receipt", desc := "(I)I" } : Jvm.MethodName) ({ cls := "CardLink$Side", name := "receipt", desc := "(I)I" } : Jvm.MethodName)) ∈ gW := gW_of (List.mem_of_getElem? (i := 642) (by decide +kernel)) rfl
theorem t_643 : (Jvm.Cond.code ({ cls := "CardLink$Side", name := "receipt", desc := "(I)I" } : Jvm.MethodName) prog_7_method_17_code (2 : Nat) (Option.some Jvm.ClassFile.FieldType.int)) ∈ gW := gW_of (List.mem_of_getElem? (i := 643) (by decide +kernel)) rfl
theorem t_644 : (Jvm.Cond.methodLink "CardLink$Line" (156 : Nat) ({ cls := "CardLink$Row", name := "at", desc := "(I)I" } : Jvm.MethodName)) ∈ gW := gW_of (List.mem_of_getElem? (i := 644) (by decide +kernel)) rfl
theorem t_645 : (Jvm.Cond.methodLink "CardLink$Line" (159 : Nat) ({ cls := "CardLink$Line", name := "readerOnAnswer", desc := "()I" } : Jvm.MethodName)) ∈ gW := gW_of (List.mem_of_getElem? (i := 645) (by decide +kernel)) rfl
theorem t_647 : (Jvm.Cond.instanceMethod ({ cls := "CardLink$Line", name := "readerOnAnswer", desc := "()I" } : Jvm.MethodName)) ∈ gW := gW_of (List.mem_of_getElem? (i := 647) (by decide +kernel)) rfl
theorem t_648 : (Jvm.Cond.code ({ cls := "CardLink$Line", name := "readerOnAnswer", desc := "()I" } : Jvm.MethodName) prog_4_method_18_code (2 : Nat) (Option.some Jvm.ClassFile.FieldType.int)) ∈ gW := gW_of (List.mem_of_getElem? (i := 648) (by decide +kernel)) rfl
theorem t_649 : (Jvm.Cond.methodLink "CardLink$Line" (197 : Nat) ({ cls := "CardLink$Line", name := "isAnswerTo", desc := "(LCardLink$Side;)Z" } : Jvm.MethodName)) ∈ gW := gW_of (List.mem_of_getElem? (i := 649) (by decide +kernel)) rfl
theorem t_651 : (Jvm.Cond.instanceMethod ({ cls := "CardLink$Line", name := "isAnswerTo", desc := "(LCardLink$Side;)Z" } : Jvm.MethodName)) ∈ gW := gW_of (List.mem_of_getElem? (i := 651) (by decide +kernel)) rfl
theorem t_652 : (Jvm.Cond.code ({ cls := "CardLink$Line", name := "isAnswerTo", desc := "(LCardLink$Side;)Z" } : Jvm.MethodName) prog_4_method_17_code (2 : Nat) (Option.some Jvm.ClassFile.FieldType.boolean)) ∈ gW := gW_of (List.mem_of_getElem? (i := 652) (by decide +kernel)) rfl
theorem t_653 : (Jvm.Cond.methodLink "CardLink$Line" (182 : Nat) ({ cls := "CardLink$Side", name := "emptyAll", desc := "()V" } : Jvm.MethodName)) ∈ gW := gW_of (List.mem_of_getElem? (i := 653) (by decide +kernel)) rfl
theorem t_654 : (Jvm.Cond.methodLink "CardLink$Line" (173 : Nat) ({ cls := "CardLink$Line", name := "finish", desc := "(I)I" } : Jvm.MethodName)) ∈ gW := gW_of (List.mem_of_getElem? (i := 654) (by decide +kernel)) rfl
theorem t_656 : (Jvm.Cond.instanceMethod ({ cls := "CardLink$Line", name := "finish", desc := "(I)I" } : Jvm.MethodName)) ∈ gW := gW_of (List.mem_of_getElem? (i := 656) (by decide +kernel)) rfl
theorem t_657 : (Jvm.Cond.code ({ cls := "CardLink$Line", name := "finish", desc := "(I)I" } : Jvm.MethodName) prog_4_method_19_code (2 : Nat) (Option.some Jvm.ClassFile.FieldType.int)) ∈ gW := gW_of (List.mem_of_getElem? (i := 657) (by decide +kernel)) rfl
theorem t_658 : (Jvm.Cond.methodLink "CardLink$Line" (162 : Nat) ({ cls := "CardLink$Line", name := "onRequest", desc := "(LCardLink$Side;LCardLink$Side;I)I" } : Jvm.MethodName)) ∈ gW := gW_of (List.mem_of_getElem? (i := 658) (by decide +kernel)) rfl
theorem t_660 : (Jvm.Cond.instanceMethod ({ cls := "CardLink$Line", name := "onRequest", desc := "(LCardLink$Side;LCardLink$Side;I)I" } : Jvm.MethodName)) ∈ gW := gW_of (List.mem_of_getElem? (i := 660) (by decide +kernel)) rfl
theorem t_661 : (Jvm.Cond.code ({ cls := "CardLink$Line", name := "onRequest", desc := "(LCardLink$Side;LCardLink$Side;I)I" } : Jvm.MethodName) prog_4_method_23_code (5 : Nat) (Option.some Jvm.ClassFile.FieldType.int)) ∈ gW := gW_of (List.mem_of_getElem? (i := 661) (by decide +kernel)) rfl
theorem t_662 : (Jvm.Cond.methodLink "CardLink$Line" (232 : Nat) ({ cls := "CardLink$Side", name := "breakOff", desc := "()V" } : Jvm.MethodName)) ∈ gW := gW_of (List.mem_of_getElem? (i := 662) (by decide +kernel)) rfl
theorem t_663 : (Jvm.Cond.instanceMethod ({ cls := "CardLink$Side", name := "breakOff", desc := "()V" } : Jvm.MethodName)) ∈ gW := gW_of (List.mem_of_getElem? (i := 663) (by decide +kernel)) rfl
theorem t_664 : (Jvm.Cond.selects "CardLink$Side" ({ cls := "CardLink$Side", name := "breakOff", desc := "()V" } : Jvm.MethodName) ({ cls := "CardLink$Side", name := "breakOff", desc := "()V" } : Jvm.MethodName)) ∈ gW := gW_of (List.mem_of_getElem? (i := 664) (by decide +kernel)) rfl
theorem t_665 : (Jvm.Cond.code ({ cls := "CardLink$Side", name := "breakOff", desc := "()V" } : Jvm.MethodName) prog_7_method_5_code (1 : Nat) (Option.none : Option Jvm.ClassFile.FieldType)) ∈ gW := gW_of (List.mem_of_getElem? (i := 665) (by decide +kernel)) rfl
theorem t_666 : (Jvm.Cond.methodLink "CardLink$Side" (75 : Nat) ({ cls := "CardLink$Side", name := "passPending", desc := "()V" } : Jvm.MethodName)) ∈ gW := gW_of (List.mem_of_getElem? (i := 666) (by decide +kernel)) rfl
theorem t_667 : (Jvm.Cond.instanceMethod ({ cls := "CardLink$Side", name := "passPending", desc := "()V" } : Jvm.MethodName)) ∈ gW := gW_of (List.mem_of_getElem? (i := 667) (by decide +kernel)) rfl
theorem t_668 : (Jvm.Cond.selects "CardLink$Side" ({ cls := "CardLink$Side", name := "passPending", desc := "()V" } : Jvm.MethodName) ({ cls := "CardLink$Side", name := "passPending", desc := "()V" } : Jvm.MethodName)) ∈ gW := gW_of (List.mem_of_getElem? (i := 668) (by decide +kernel)) rfl
theorem t_669 : (Jvm.Cond.code ({ cls := "CardLink$Side", name := "passPending", desc := "()V" } : Jvm.MethodName) prog_7_method_11_code (1 : Nat) (Option.none : Option Jvm.ClassFile.FieldType)) ∈ gW := gW_of (List.mem_of_getElem? (i := 669) (by decide +kernel)) rfl
theorem t_670 : (Jvm.Cond.methodLink "CardLink$Line" (211 : Nat) ({ cls := "CardLink$Line", name := "refuse", desc := "(LCardLink$Side;)I" } : Jvm.MethodName)) ∈ gW := gW_of (List.mem_of_getElem? (i := 670) (by decide +kernel)) rfl
theorem t_672 : (Jvm.Cond.instanceMethod ({ cls := "CardLink$Line", name := "refuse", desc := "(LCardLink$Side;)I" } : Jvm.MethodName)) ∈ gW := gW_of (List.mem_of_getElem? (i := 672) (by decide +kernel)) rfl
theorem t_673 : (Jvm.Cond.code ({ cls := "CardLink$Line", name := "refuse", desc := "(LCardLink$Side;)I" } : Jvm.MethodName) prog_4_method_16_code (2 : Nat) (Option.some Jvm.ClassFile.FieldType.int)) ∈ gW := gW_of (List.mem_of_getElem? (i := 673) (by decide +kernel)) rfl
theorem t_674 : (Jvm.Cond.methodLink "CardLink$Line" (166 : Nat) ({ cls := "CardLink$Line", name := "onI", desc := "(LCardLink$Side;I)I" } : Jvm.MethodName)) ∈ gW := gW_of (List.mem_of_getElem? (i := 674) (by decide +kernel)) rfl
theorem t_676 : (Jvm.Cond.instanceMethod ({ cls := "CardLink$Line", name := "onI", desc := "(LCardLink$Side;I)I" } : Jvm.MethodName)) ∈ gW := gW_of (List.mem_of_getElem? (i := 676) (by decide +kernel)) rfl
theorem t_677 : (Jvm.Cond.code ({ cls := "CardLink$Line", name := "onI", desc := "(LCardLink$Side;I)I" } : Jvm.MethodName) prog_4_method_21_code (3 : Nat) (Option.some Jvm.ClassFile.FieldType.int)) ∈ gW := gW_of (List.mem_of_getElem? (i := 677) (by decide +kernel)) rfl
theorem t_678 : (Jvm.Cond.methodLink "CardLink$Line" (207 : Nat) ({ cls := "CardLink$Side", name := "pendingHasMore", desc := "()Z" } : Jvm.MethodName)) ∈ gW := gW_of (List.mem_of_getElem? (i := 678) (by decide +kernel)) rfl
theorem t_679 : (Jvm.Cond.instanceMethod ({ cls := "CardLink$Side", name := "pendingHasMore", desc := "()Z" } : Jvm.MethodName)) ∈ gW := gW_of (List.mem_of_getElem? (i := 679) (by decide +kernel)) rfl
theorem t_680 : (Jvm.Cond.selects "CardLink$Side" ({ cls := "CardLink$Side", name := "pendingHasMore", desc := "()Z" } : Jvm.MethodName) ({ cls := "CardLink$Side", name := "pendingHasMore", desc := "()Z" } : Jvm.MethodName)) ∈ gW := gW_of (List.mem_of_getElem? (i := 680) (by decide +kernel)) rfl
theorem t_681 : (Jvm.Cond.code ({ cls := "CardLink$Side", name := "pendingHasMore", desc := "()Z" } : Jvm.MethodName) prog_7_method_10_code (1 : Nat) (Option.some Jvm.ClassFile.FieldType.boolean)) ∈ gW := gW_of (List.mem_of_getElem? (i := 681) (by decide +kernel)) rfl
theorem t_682 : (Jvm.Cond.methodLink "CardLink$Line" (214 : Nat) ({ cls := "CardLink$Side", name := "passPending", desc := "()V" } : Jvm.MethodName)) ∈ gW := gW_of (List.mem_of_getElem? (i := 682) (by decide +kernel)) rfl
theorem t_683 : (Jvm.Cond.methodLink "CardLink$Line" (217 : Nat) ({ cls := "CardLink$Side", name := "takeInf", desc := "(LCardLink$Row;)V" } : Jvm.MethodName)) ∈ gW := gW_of (List.mem_of_getElem? (i := 683) (by decide +kernel)) rfl
theorem t_684 : (Jvm.Cond.instanceMethod ({ cls := "CardLink$Side", name := "takeInf", desc := "(LCardLink$Row;)V" } : Jvm.MethodName)) ∈ gW := gW_of (List.mem_of_getElem? (i := 684) (by decide +kernel)) rfl
theorem t_685 : (Jvm.Cond.selects "CardLink$Side" ({ cls := "CardLink$Side", name := "takeInf", desc := "(LCardLink$Row;)V" } : Jvm.MethodName) ({ cls := "CardLink$Side", name := "takeInf", desc := "(LCardLink$Row;)V" } : Jvm.MethodName)) ∈ gW := gW_of (List.mem_of_getElem? (i := 685) (by decide +kernel)) rfl
theorem t_686 : (Jvm.Cond.code ({ cls := "CardLink$Side", name := "takeInf", desc := "(LCardLink$Row;)V" } : Jvm.MethodName) prog_7_method_12_code (3 : Nat) (Option.none : Option Jvm.ClassFile.FieldType)) ∈ gW := gW_of (List.mem_of_getElem? (i := 686) (by decide +kernel)) rfl
theorem t_687 : (Jvm.Cond.methodLink "CardLink$Side" (78 : Nat) ({ cls := "CardLink$Row", name := "size", desc := "()I" } : Jvm.MethodName)) ∈ gW := gW_of (List.mem_of_getElem? (i := 687) (by decide +kernel)) rfl
theorem t_688 : (Jvm.Cond.methodLink "CardLink$Side" (94 : Nat) ({ cls := "CardLink$Row", name := "at", desc := "(I)I" } : Jvm.MethodName)) ∈ gW := gW_of (List.mem_of_getElem? (i := 688) (by decide +kernel)) rfl
theorem t_689 : (Jvm.Cond.methodLink "CardLink$Side" (98 : Nat) ({ cls := "CardLink$Row", name := "add", desc := "(I)V" } : Jvm.MethodName)) ∈ gW := gW_of (List.mem_of_getElem? (i := 689) (by decide +kernel)) rfl
theorem t_690 : (Jvm.Cond.methodLink "CardLink$Line" (220 : Nat) ({ cls := "CardLink$Side", name := "takeWhole", desc := "()V" } : Jvm.MethodName)) ∈ gW := gW_of (List.mem_of_getElem? (i := 690) (by decide +kernel)) rfl
theorem t_691 : (Jvm.Cond.instanceMethod ({ cls := "CardLink$Side", name := "takeWhole", desc := "()V" } : Jvm.MethodName)) ∈ gW := gW_of (List.mem_of_getElem? (i := 691) (by decide +kernel)) rfl
theorem t_692 : (Jvm.Cond.selects "CardLink$Side" ({ cls := "CardLink$Side", name := "takeWhole", desc := "()V" } : Jvm.MethodName) ({ cls := "CardLink$Side", name := "takeWhole", desc := "()V" } : Jvm.MethodName)) ∈ gW := gW_of (List.mem_of_getElem? (i := 692) (by decide +kernel)) rfl
theorem t_693 : (Jvm.Cond.code ({ cls := "CardLink$Side", name := "takeWhole", desc := "()V" } : Jvm.MethodName) prog_7_method_13_code (1 : Nat) (Option.none : Option Jvm.ClassFile.FieldType)) ∈ gW := gW_of (List.mem_of_getElem? (i := 693) (by decide +kernel)) rfl
theorem t_694 : (Jvm.Cond.methodLink "CardLink$Side" (71 : Nat) ({ cls := "CardLink$Row", name := "copy", desc := "(LCardLink$Row;)V" } : Jvm.MethodName)) ∈ gW := gW_of (List.mem_of_getElem? (i := 694) (by decide +kernel)) rfl
theorem t_695 : (Jvm.Cond.methodLink "CardLink$Line" (170 : Nat) ({ cls := "CardLink$Side", name := "takeEmpty", desc := "()V" } : Jvm.MethodName)) ∈ gW := gW_of (List.mem_of_getElem? (i := 695) (by decide +kernel)) rfl
theorem t_696 : (Jvm.Cond.instanceMethod ({ cls := "CardLink$Side", name := "takeEmpty", desc := "()V" } : Jvm.MethodName)) ∈ gW := gW_of (List.mem_of_getElem? (i := 696) (by decide +kernel)) rfl
theorem t_697 : (Jvm.Cond.selects "CardLink$Side" ({ cls := "CardLink$Side", name := "takeEmpty", desc := "()V" } : Jvm.MethodName) ({ cls := "CardLink$Side", name := "takeEmpty", desc := "()V" } : Jvm.MethodName)) ∈ gW := gW_of (List.mem_of_getElem? (i := 697) (by decide +kernel)) rfl
theorem t_698 : (Jvm.Cond.code ({ cls := "CardLink$Side", name := "takeEmpty", desc := "()V" } : Jvm.MethodName) prog_7_method_14_code (1 : Nat) (Option.none : Option Jvm.ClassFile.FieldType)) ∈ gW := gW_of (List.mem_of_getElem? (i := 698) (by decide +kernel)) rfl
theorem t_699 : (Jvm.Cond.methodLink "CardLink$Line" (176 : Nat) ({ cls := "CardLink$Line", name := "onReceipt", desc := "(LCardLink$Side;I)I" } : Jvm.MethodName)) ∈ gW := gW_of (List.mem_of_getElem? (i := 699) (by decide +kernel)) rfl
theorem t_701 : (Jvm.Cond.instanceMethod ({ cls := "CardLink$Line", name := "onReceipt", desc := "(LCardLink$Side;I)I" } : Jvm.MethodName)) ∈ gW := gW_of (List.mem_of_getElem? (i := 701) (by decide +kernel)) rfl
theorem t_702 : (Jvm.Cond.code ({ cls := "CardLink$Line", name := "onReceipt", desc := "(LCardLink$Side;I)I" } : Jvm.MethodName) prog_4_method_22_code (4 : Nat) (Option.some Jvm.ClassFile.FieldType.int)) ∈ gW := gW_of (List.mem_of_getElem? (i := 702) (by decide +kernel)) rfl
theorem t_703 : (Jvm.Cond.methodLink "CardLink$Line" (223 : Nat) ({ cls := "CardLink$Side", name := "hasPending", desc := "()Z" } : Jvm.MethodName)) ∈ gW := gW_of (List.mem_of_getElem? (i := 703) (by decide +kernel)) rfl
theorem t_704 : (Jvm.Cond.instanceMethod ({ cls := "CardLink$Side", name := "hasPending", desc := "()Z" } : Jvm.MethodName)) ∈ gW := gW_of (List.mem_of_getElem? (i := 704) (by decide +kernel)) rfl
theorem t_705 : (Jvm.Cond.selects "CardLink$Side" ({ cls := "CardLink$Side", name := "hasPending", desc := "()Z" } : Jvm.MethodName) ({ cls := "CardLink$Side", name := "hasPending", desc := "()Z" } : Jvm.MethodName)) ∈ gW := gW_of (List.mem_of_getElem? (i := 705) (by decide +kernel)) rfl
theorem t_706 : (Jvm.Cond.code ({ cls := "CardLink$Side", name := "hasPending", desc := "()Z" } : Jvm.MethodName) prog_7_method_9_code (1 : Nat) (Option.some Jvm.ClassFile.FieldType.boolean)) ∈ gW := gW_of (List.mem_of_getElem? (i := 706) (by decide +kernel)) rfl
theorem t_707 : (Jvm.Cond.methodLink "CardLink$Line" (229 : Nat) ({ cls := "CardLink$Side", name := "pendingKind", desc := "()I" } : Jvm.MethodName)) ∈ gW := gW_of (List.mem_of_getElem? (i := 707) (by decide +kernel)) rfl
theorem t_708 : (Jvm.Cond.instanceMethod ({ cls := "CardLink$Side", name := "pendingKind", desc := "()I" } : Jvm.MethodName)) ∈ gW := gW_of (List.mem_of_getElem? (i := 708) (by decide +kernel)) rfl
theorem t_709 : (Jvm.Cond.selects "CardLink$Side" ({ cls := "CardLink$Side", name := "pendingKind", desc := "()I" } : Jvm.MethodName) ({ cls := "CardLink$Side", name := "pendingKind", desc := "()I" } : Jvm.MethodName)) ∈ gW := gW_of (List.mem_of_getElem? (i := 709) (by decide +kernel)) rfl
theorem t_710 : (Jvm.Cond.code ({ cls := "CardLink$Side", name := "pendingKind", desc := "()I" } : Jvm.MethodName) prog_7_method_7_code (1 : Nat) (Option.some Jvm.ClassFile.FieldType.int)) ∈ gW := gW_of (List.mem_of_getElem? (i := 710) (by decide +kernel)) rfl
theorem t_711 : (Jvm.Cond.methodLink "CardLink$Line" (131 : Nat) ({ cls := "CardLink$Line", name := "countTries", desc := "(I)I" } : Jvm.MethodName)) ∈ gW := gW_of (List.mem_of_getElem? (i := 711) (by decide +kernel)) rfl
theorem t_713 : (Jvm.Cond.instanceMethod ({ cls := "CardLink$Line", name := "countTries", desc := "(I)I" } : Jvm.MethodName)) ∈ gW := gW_of (List.mem_of_getElem? (i := 713) (by decide +kernel)) rfl
theorem t_714 : (Jvm.Cond.code ({ cls := "CardLink$Line", name := "countTries", desc := "(I)I" } : Jvm.MethodName) prog_4_method_12_code (2 : Nat) (Option.some Jvm.ClassFile.FieldType.int)) ∈ gW := gW_of (List.mem_of_getElem? (i := 714) (by decide +kernel)) rfl
theorem t_715 : (Jvm.Cond.methodLink "CardLink$Line" (135 : Nat) ({ cls := "CardLink$Line", name := "send", desc := "(LCardLink$Side;LCardLink$Side;I)V" } : Jvm.MethodName)) ∈ gW := gW_of (List.mem_of_getElem? (i := 715) (by decide +kernel)) rfl
theorem t_717 : (Jvm.Cond.instanceMethod ({ cls := "CardLink$Line", name := "send", desc := "(LCardLink$Side;LCardLink$Side;I)V" } : Jvm.MethodName)) ∈ gW := gW_of (List.mem_of_getElem? (i := 717) (by decide +kernel)) rfl
theorem t_718 : (Jvm.Cond.code ({ cls := "CardLink$Line", name := "send", desc := "(LCardLink$Side;LCardLink$Side;I)V" } : Jvm.MethodName) prog_4_method_29_code (7 : Nat) (Option.none : Option Jvm.ClassFile.FieldType)) ∈ gW := gW_of (List.mem_of_getElem? (i := 718) (by decide +kernel)) rfl
theorem t_719 : (Jvm.Cond.methodLink "CardLink$Line" (247 : Nat) ({ cls := "CardLink$Line", name := "kindToSend", desc := "(LCardLink$Side;LCardLink$Side;I)I" } : Jvm.MethodName)) ∈ gW := gW_of (List.mem_of_getElem? (i := 719) (by decide +kernel)) rfl
theorem t_720 : (Jvm.Cond.static ({ cls := "CardLink$Line", name := "kindToSend", desc := "(LCardLink$Side;LCardLink$Side;I)I" } : Jvm.MethodName)) ∈ gW := gW_of (List.mem_of_getElem? (i := 720) (by decide +kernel)) rfl
theorem t_721 : (Jvm.Cond.code ({ cls := "CardLink$Line", name := "kindToSend", desc := "(LCardLink$Side;LCardLink$Side;I)I" } : Jvm.MethodName) prog_4_method_28_code (3 : Nat) (Option.some Jvm.ClassFile.FieldType.int)) ∈ gW := gW_of (List.mem_of_getElem? (i := 721) (by decide +kernel)) rfl
theorem t_722 : (Jvm.Cond.methodLink "CardLink$Line" (244 : Nat) ({ cls := "CardLink$Side", name := "cutNext", desc := "(I)I" } : Jvm.MethodName)) ∈ gW := gW_of (List.mem_of_getElem? (i := 722) (by decide +kernel)) rfl
theorem t_723 : (Jvm.Cond.instanceMethod ({ cls := "CardLink$Side", name := "cutNext", desc := "(I)I" } : Jvm.MethodName)) ∈ gW := gW_of (List.mem_of_getElem? (i := 723) (by decide +kernel)) rfl
theorem t_724 : (Jvm.Cond.selects "CardLink$Side" ({ cls := "CardLink$Side", name := "cutNext", desc := "(I)I" } : Jvm.MethodName) ({ cls := "CardLink$Side", name := "cutNext", desc := "(I)I" } : Jvm.MethodName)) ∈ gW := gW_of (List.mem_of_getElem? (i := 724) (by decide +kernel)) rfl
theorem t_725 : (Jvm.Cond.code ({ cls := "CardLink$Side", name := "cutNext", desc := "(I)I" } : Jvm.MethodName) prog_7_method_6_code (3 : Nat) (Option.some Jvm.ClassFile.FieldType.int)) ∈ gW := gW_of (List.mem_of_getElem? (i := 725) (by decide +kernel)) rfl
theorem t_726 : (Jvm.Cond.methodLink "CardLink$Side" (82 : Nat) ({ cls := "java/lang/Math", name := "max", desc := "(II)I" } : Jvm.MethodName)) ∈ gW := gW_of (List.mem_of_getElem? (i := 726) (by decide +kernel)) rfl
theorem t_727 : (Jvm.Cond.methodLink "CardLink$Side" (88 : Nat) ({ cls := "java/lang/Math", name := "min", desc := "(II)I" } : Jvm.MethodName)) ∈ gW := gW_of (List.mem_of_getElem? (i := 727) (by decide +kernel)) rfl
theorem t_728 : (Jvm.Cond.methodLink "CardLink$Side" (91 : Nat) ({ cls := "CardLink$Side", name := "pendingKind", desc := "()I" } : Jvm.MethodName)) ∈ gW := gW_of (List.mem_of_getElem? (i := 728) (by decide +kernel)) rfl
theorem t_729 : (Jvm.Cond.methodLink "CardLink$Line" (250 : Nat) ({ cls := "CardLink$Line", name := "compose", desc := "(LCardLink$Side;I)V" } : Jvm.MethodName)) ∈ gW := gW_of (List.mem_of_getElem? (i := 729) (by decide +kernel)) rfl
theorem t_731 : (Jvm.Cond.instanceMethod ({ cls := "CardLink$Line", name := "compose", desc := "(LCardLink$Side;I)V" } : Jvm.MethodName)) ∈ gW := gW_of (List.mem_of_getElem? (i := 731) (by decide +kernel)) rfl
theorem t_732 : (Jvm.Cond.code ({ cls := "CardLink$Line", name := "compose", desc := "(LCardLink$Side;I)V" } : Jvm.MethodName) prog_4_method_30_code (5 : Nat) (Option.none : Option Jvm.ClassFile.FieldType)) ∈ gW := gW_of (List.mem_of_getElem? (i := 732) (by decide +kernel)) rfl
theorem t_733 : (Jvm.Cond.methodLink "CardLink$Line" (241 : Nat) ({ cls := "CardLink$Row", name := "add", desc := "(I)V" } : Jvm.MethodName)) ∈ gW := gW_of (List.mem_of_getElem? (i := 733) (by decide +kernel)) rfl
theorem t_734 : (Jvm.Cond.methodLink "CardLink$Line" (280 : Nat) ({ cls := "CardLink$Side", name := "pendingSize", desc := "()I" } : Jvm.MethodName)) ∈ gW := gW_of (List.mem_of_getElem? (i := 734) (by decide +kernel)) rfl
theorem t_735 : (Jvm.Cond.instanceMethod ({ cls := "CardLink$Side", name := "pendingSize", desc := "()I" } : Jvm.MethodName)) ∈ gW := gW_of (List.mem_of_getElem? (i := 735) (by decide +kernel)) rfl
theorem t_736 : (Jvm.Cond.selects "CardLink$Side" ({ cls := "CardLink$Side", name := "pendingSize", desc := "()I" } : Jvm.MethodName) ({ cls := "CardLink$Side", name := "pendingSize", desc := "()I" } : Jvm.MethodName)) ∈ gW := gW_of (List.mem_of_getElem? (i := 736) (by decide +kernel)) rfl
theorem t_737 : (Jvm.Cond.code ({ cls := "CardLink$Side", name := "pendingSize", desc := "()I" } : Jvm.MethodName) prog_7_method_8_code (1 : Nat) (Option.some Jvm.ClassFile.FieldType.int)) ∈ gW := gW_of (List.mem_of_getElem? (i := 737) (by decide +kernel)) rfl
theorem t_738 : (Jvm.Cond.methodLink "CardLink$Line" (283 : Nat) ({ cls := "CardLink$Line", name := "hasInf", desc := "(I)Z" } : Jvm.MethodName)) ∈ gW := gW_of (List.mem_of_getElem? (i := 738) (by decide +kernel)) rfl
theorem t_739 : (Jvm.Cond.static ({ cls := "CardLink$Line", name := "hasInf", desc := "(I)Z" } : Jvm.MethodName)) ∈ gW := gW_of (List.mem_of_getElem? (i := 739) (by decide +kernel)) rfl
theorem t_740 : (Jvm.Cond.code ({ cls := "CardLink$Line", name := "hasInf", desc := "(I)Z" } : Jvm.MethodName) prog_4_method_31_code (1 : Nat) (Option.some Jvm.ClassFile.FieldType.boolean)) ∈ gW := gW_of (List.mem_of_getElem? (i := 740) (by decide +kernel)) rfl
theorem t_741 : (Jvm.Cond.methodLink "CardLink$Line" (287 : Nat) ({ cls := "CardLink$Row", name := "xor", desc := "(I)I" } : Jvm.MethodName)) ∈ gW := gW_of (List.mem_of_getElem? (i := 741) (by decide +kernel)) rfl
theorem t_742 : (Jvm.Cond.instanceMethod ({ cls := "CardLink$Row", name := "xor", desc := "(I)I" } : Jvm.MethodName)) ∈ gW := gW_of (List.mem_of_getElem? (i := 742) (by decide +kernel)) rfl
theorem t_743 : (Jvm.Cond.selects "CardLink$Row" ({ cls := "CardLink$Row", name := "xor", desc := "(I)I" } : Jvm.MethodName) ({ cls := "CardLink$Row", name := "xor", desc := "(I)I" } : Jvm.MethodName)) ∈ gW := gW_of (List.mem_of_getElem? (i := 743) (by decide +kernel)) rfl
theorem t_744 : (Jvm.Cond.code ({ cls := "CardLink$Row", name := "xor", desc := "(I)I" } : Jvm.MethodName) prog_6_method_9_code (4 : Nat) (Option.some Jvm.ClassFile.FieldType.int)) ∈ gW := gW_of (List.mem_of_getElem? (i := 744) (by decide +kernel)) rfl
theorem t_745 : (Jvm.Cond.methodLink "CardLink$Row" (41 : Nat) ({ cls := "CardLink$Row", name := "at", desc := "(I)I" } : Jvm.MethodName)) ∈ gW := gW_of (List.mem_of_getElem? (i := 745) (by decide +kernel)) rfl
theorem t_746 : (Jvm.Cond.methodLink "CardLink$Line" (254 : Nat) ({ cls := "CardLink$Side", name := "noteSent", desc := "(I)V" } : Jvm.MethodName)) ∈ gW := gW_of (List.mem_of_getElem? (i := 746) (by decide +kernel)) rfl
theorem t_747 : (Jvm.Cond.instanceMethod ({ cls := "CardLink$Side", name := "noteSent", desc := "(I)V" } : Jvm.MethodName)) ∈ gW := gW_of (List.mem_of_getElem? (i := 747) (by decide +kernel)) rfl
theorem t_748 : (Jvm.Cond.selects "CardLink$Side" ({ cls := "CardLink$Side", name := "noteSent", desc := "(I)V" } : Jvm.MethodName) ({ cls := "CardLink$Side", name := "noteSent", desc := "(I)V" } : Jvm.MethodName)) ∈ gW := gW_of (List.mem_of_getElem? (i := 748) (by decide +kernel)) rfl
theorem t_749 : (Jvm.Cond.code ({ cls := "CardLink$Side", name := "noteSent", desc := "(I)V" } : Jvm.MethodName) prog_7_method_18_code (2 : Nat) (Option.none : Option Jvm.ClassFile.FieldType)) ∈ gW := gW_of (List.mem_of_getElem? (i := 749) (by decide +kernel)) rfl
theorem t_750 : (Jvm.Cond.methodLink "CardLink$Line" (260 : Nat) ({ cls := "CardLink$Wire", name := "carry", desc := "(LCardLink$Row;LCardLink$Row;)I" } : Jvm.MethodName)) ∈ gW := gW_of (List.mem_of_getElem? (i := 750) (by decide +kernel)) rfl
theorem t_751 : (Jvm.Cond.instanceMethod ({ cls := "CardLink$Wire", name := "carry", desc := "(LCardLink$Row;LCardLink$Row;)I" } : Jvm.MethodName)) ∈ gW := gW_of (List.mem_of_getElem? (i := 751) (by decide +kernel)) rfl
theorem t_752 : (Jvm.Cond.selects "CardLink$Wire" ({ cls := "CardLink$Wire", name := "carry", desc := "(LCardLink$Row;LCardLink$Row;)I" } : Jvm.MethodName) ({ cls := "CardLink$Wire", name := "carry", desc := "(LCardLink$Row;LCardLink$Row;)I" } : Jvm.MethodName)) ∈ gW := gW_of (List.mem_of_getElem? (i := 752) (by decide +kernel)) rfl
theorem t_753 : (Jvm.Cond.code ({ cls := "CardLink$Wire", name := "carry", desc := "(LCardLink$Row;LCardLink$Row;)I" } : Jvm.MethodName) prog_8_method_11_code (7 : Nat) (Option.some Jvm.ClassFile.FieldType.int)) ∈ gW := gW_of (List.mem_of_getElem? (i := 753) (by decide +kernel)) rfl
theorem t_754 : (Jvm.Cond.methodLink "CardLink$Wire" (56 : Nat) ({ cls := "CardLink$Row", name := "keep", desc := "(I)V" } : Jvm.MethodName)) ∈ gW := gW_of (List.mem_of_getElem? (i := 754) (by decide +kernel)) rfl
theorem t_755 : (Jvm.Cond.methodLink "CardLink$Wire" (61 : Nat) ({ cls := "CardLink$Row", name := "size", desc := "()I" } : Jvm.MethodName)) ∈ gW := gW_of (List.mem_of_getElem? (i := 755) (by decide +kernel)) rfl
theorem t_756 : (Jvm.Cond.methodLink "CardLink$Wire" (65 : Nat) ({ cls := "CardLink$Wire", name := "sendLetter", desc := "()I" } : Jvm.MethodName)) ∈ gW := gW_of (List.mem_of_getElem? (i := 756) (by decide +kernel)) rfl
theorem t_758 : (Jvm.Cond.instanceMethod ({ cls := "CardLink$Wire", name := "sendLetter", desc := "()I" } : Jvm.MethodName)) ∈ gW := gW_of (List.mem_of_getElem? (i := 758) (by decide +kernel)) rfl
theorem t_759 : (Jvm.Cond.code ({ cls := "CardLink$Wire", name := "sendLetter", desc := "()I" } : Jvm.MethodName) prog_8_method_10_code (2 : Nat) (Option.some Jvm.ClassFile.FieldType.int)) ∈ gW := gW_of (List.mem_of_getElem? (i := 759) (by decide +kernel)) rfl
theorem t_760 : (Jvm.Cond.methodLink "CardLink$Wire" (53 : Nat) ({ cls := "CardLink$Wire", name := "dropNearest", desc := "()V" } : Jvm.MethodName)) ∈ gW := gW_of (List.mem_of_getElem? (i := 760) (by decide +kernel)) rfl
theorem t_762 : (Jvm.Cond.instanceMethod ({ cls := "CardLink$Wire", name := "dropNearest", desc := "()V" } : Jvm.MethodName)) ∈ gW := gW_of (List.mem_of_getElem? (i := 762) (by decide +kernel)) rfl
theorem t_763 : (Jvm.Cond.code ({ cls := "CardLink$Wire", name := "dropNearest", desc := "()V" } : Jvm.MethodName) prog_8_method_9_code (2 : Nat) (Option.none : Option Jvm.ClassFile.FieldType)) ∈ gW := gW_of (List.mem_of_getElem? (i := 763) (by decide +kernel)) rfl
theorem t_764 : (Jvm.Cond.methodLink "CardLink$Wire" (68 : Nat) ({ cls := "CardLink$Row", name := "at", desc := "(I)I" } : Jvm.MethodName)) ∈ gW := gW_of (List.mem_of_getElem? (i := 764) (by decide +kernel)) rfl
theorem t_765 : (Jvm.Cond.methodLink "CardLink$Wire" (72 : Nat) ({ cls := "CardLink$Row", name := "add", desc := "(I)V" } : Jvm.MethodName)) ∈ gW := gW_of (List.mem_of_getElem? (i := 765) (by decide +kernel)) rfl
theorem t_766 : (Jvm.Cond.methodLink "CardLink$Line" (264 : Nat) ({ cls := "CardLink$Line", name := "judge", desc := "(II)I" } : Jvm.MethodName)) ∈ gW := gW_of (List.mem_of_getElem? (i := 766) (by decide +kernel)) rfl
theorem t_768 : (Jvm.Cond.instanceMethod ({ cls := "CardLink$Line", name := "judge", desc := "(II)I" } : Jvm.MethodName)) ∈ gW := gW_of (List.mem_of_getElem? (i := 768) (by decide +kernel)) rfl
theorem t_769 : (Jvm.Cond.code ({ cls := "CardLink$Line", name := "judge", desc := "(II)I" } : Jvm.MethodName) prog_4_method_32_code (3 : Nat) (Option.some Jvm.ClassFile.FieldType.int)) ∈ gW := gW_of (List.mem_of_getElem? (i := 769) (by decide +kernel)) rfl
theorem t_770 : (Jvm.Cond.methodLink "CardLink$Line" (290 : Nat) ({ cls := "CardLink$Line", name := "isWellFormed", desc := "(III)Z" } : Jvm.MethodName)) ∈ gW := gW_of (List.mem_of_getElem? (i := 770) (by decide +kernel)) rfl
theorem t_772 : (Jvm.Cond.instanceMethod ({ cls := "CardLink$Line", name := "isWellFormed", desc := "(III)Z" } : Jvm.MethodName)) ∈ gW := gW_of (List.mem_of_getElem? (i := 772) (by decide +kernel)) rfl
theorem t_773 : (Jvm.Cond.code ({ cls := "CardLink$Line", name := "isWellFormed", desc := "(III)Z" } : Jvm.MethodName) prog_4_method_33_code (4 : Nat) (Option.some Jvm.ClassFile.FieldType.boolean)) ∈ gW := gW_of (List.mem_of_getElem? (i := 773) (by decide +kernel)) rfl
theorem t_774 : (Jvm.Cond.methodLink "CardLink$Line" (270 : Nat) ({ cls := "CardLink$Journal", name := "idOf", desc := "(ILCardLink$Row;)I" } : Jvm.MethodName)) ∈ gW := gW_of (List.mem_of_getElem? (i := 774) (by decide +kernel)) rfl
theorem t_775 : (Jvm.Cond.instanceMethod ({ cls := "CardLink$Journal", name := "idOf", desc := "(ILCardLink$Row;)I" } : Jvm.MethodName)) ∈ gW := gW_of (List.mem_of_getElem? (i := 775) (by decide +kernel)) rfl
theorem t_776 : (Jvm.Cond.selects "CardLink$Journal" ({ cls := "CardLink$Journal", name := "idOf", desc := "(ILCardLink$Row;)I" } : Jvm.MethodName) ({ cls := "CardLink$Journal", name := "idOf", desc := "(ILCardLink$Row;)I" } : Jvm.MethodName)) ∈ gW := gW_of (List.mem_of_getElem? (i := 776) (by decide +kernel)) rfl
theorem t_777 : (Jvm.Cond.code ({ cls := "CardLink$Journal", name := "idOf", desc := "(ILCardLink$Row;)I" } : Jvm.MethodName) prog_3_method_6_code (6 : Nat) (Option.some Jvm.ClassFile.FieldType.int)) ∈ gW := gW_of (List.mem_of_getElem? (i := 777) (by decide +kernel)) rfl
theorem t_778 : (Jvm.Cond.methodLink "CardLink$Journal" (51 : Nat) ({ cls := "CardLink$Row", name := "size", desc := "()I" } : Jvm.MethodName)) ∈ gW := gW_of (List.mem_of_getElem? (i := 778) (by decide +kernel)) rfl
theorem t_779 : (Jvm.Cond.methodLink "CardLink$Journal" (62 : Nat) ({ cls := "CardLink$Row", name := "add", desc := "(I)V" } : Jvm.MethodName)) ∈ gW := gW_of (List.mem_of_getElem? (i := 779) (by decide +kernel)) rfl
theorem t_780 : (Jvm.Cond.methodLink "CardLink$Journal" (65 : Nat) ({ cls := "CardLink$Journal", name := "chainOf", desc := "(ILCardLink$Row;)I" } : Jvm.MethodName)) ∈ gW := gW_of (List.mem_of_getElem? (i := 780) (by decide +kernel)) rfl
theorem t_781 : (Jvm.Cond.static ({ cls := "CardLink$Journal", name := "chainOf", desc := "(ILCardLink$Row;)I" } : Jvm.MethodName)) ∈ gW := gW_of (List.mem_of_getElem? (i := 781) (by decide +kernel)) rfl
theorem t_782 : (Jvm.Cond.code ({ cls := "CardLink$Journal", name := "chainOf", desc := "(ILCardLink$Row;)I" } : Jvm.MethodName) prog_3_method_7_code (4 : Nat) (Option.some Jvm.ClassFile.FieldType.int)) ∈ gW := gW_of (List.mem_of_getElem? (i := 782) (by decide +kernel)) rfl
theorem t_783 : (Jvm.Cond.methodLink "CardLink$Journal" (55 : Nat) ({ cls := "CardLink$Row", name := "at", desc := "(I)I" } : Jvm.MethodName)) ∈ gW := gW_of (List.mem_of_getElem? (i := 783) (by decide +kernel)) rfl
theorem t_784 : (Jvm.Cond.methodLink "CardLink$Journal" (69 : Nat) ({ cls := "CardLink$Journal", name := "isBlock", desc := "(IILCardLink$Row;)Z" } : Jvm.MethodName)) ∈ gW := gW_of (List.mem_of_getElem? (i := 784) (by decide +kernel)) rfl
theorem t_786 : (Jvm.Cond.instanceMethod ({ cls := "CardLink$Journal", name := "isBlock", desc := "(IILCardLink$Row;)Z" } : Jvm.MethodName)) ∈ gW := gW_of (List.mem_of_getElem? (i := 786) (by decide +kernel)) rfl
theorem t_787 : (Jvm.Cond.code ({ cls := "CardLink$Journal", name := "isBlock", desc := "(IILCardLink$Row;)Z" } : Jvm.MethodName) prog_3_method_8_code (6 : Nat) (Option.some Jvm.ClassFile.FieldType.boolean)) ∈ gW := gW_of (List.mem_of_getElem? (i := 787) (by decide +kernel)) rfl
theorem t_788 : (Jvm.Cond.methodLink "CardLink$Journal" (73 : Nat) ({ cls := "CardLink$Journal", name := "addUnlike", desc := "(ILCardLink$Row;I)I" } : Jvm.MethodName)) ∈ gW := gW_of (List.mem_of_getElem? (i := 788) (by decide +kernel)) rfl
theorem t_790 : (Jvm.Cond.instanceMethod ({ cls := "CardLink$Journal", name := "addUnlike", desc := "(ILCardLink$Row;I)I" } : Jvm.MethodName)) ∈ gW := gW_of (List.mem_of_getElem? (i := 790) (by decide +kernel)) rfl
theorem t_791 : (Jvm.Cond.code ({ cls := "CardLink$Journal", name := "addUnlike", desc := "(ILCardLink$Row;I)I" } : Jvm.MethodName) prog_3_method_9_code (6 : Nat) (Option.some Jvm.ClassFile.FieldType.int)) ∈ gW := gW_of (List.mem_of_getElem? (i := 791) (by decide +kernel)) rfl
theorem t_792 : (Jvm.Cond.methodLink "CardLink$Journal" (59 : Nat) ({ cls := "CardLink$Row", name := "put", desc := "(II)V" } : Jvm.MethodName)) ∈ gW := gW_of (List.mem_of_getElem? (i := 792) (by decide +kernel)) rfl
theorem t_793 : (Jvm.Cond.instanceMethod ({ cls := "CardLink$Row", name := "put", desc := "(II)V" } : Jvm.MethodName)) ∈ gW := gW_of (List.mem_of_getElem? (i := 793) (by decide +kernel)) rfl
theorem t_794 : (Jvm.Cond.selects "CardLink$Row" ({ cls := "CardLink$Row", name := "put", desc := "(II)V" } : Jvm.MethodName) ({ cls := "CardLink$Row", name := "put", desc := "(II)V" } : Jvm.MethodName)) ∈ gW := gW_of (List.mem_of_getElem? (i := 794) (by decide +kernel)) rfl
theorem t_795 : (Jvm.Cond.code ({ cls := "CardLink$Row", name := "put", desc := "(II)V" } : Jvm.MethodName) prog_6_method_4_code (3 : Nat) (Option.none : Option Jvm.ClassFile.FieldType)) ∈ gW := gW_of (List.mem_of_getElem? (i := 795) (by decide +kernel)) rfl
theorem t_796 : (Jvm.Cond.methodLink "CardLink$Line" (276 : Nat) ({ cls := "CardLink$Journal", name := "note", desc := "(III)V" } : Jvm.MethodName)) ∈ gW := gW_of (List.mem_of_getElem? (i := 796) (by decide +kernel)) rfl
theorem t_797 : (Jvm.Cond.instanceMethod ({ cls := "CardLink$Journal", name := "note", desc := "(III)V" } : Jvm.MethodName)) ∈ gW := gW_of (List.mem_of_getElem? (i := 797) (by decide +kernel)) rfl
theorem t_798 : (Jvm.Cond.selects "CardLink$Journal" ({ cls := "CardLink$Journal", name := "note", desc := "(III)V" } : Jvm.MethodName) ({ cls := "CardLink$Journal", name := "note", desc := "(III)V" } : Jvm.MethodName)) ∈ gW := gW_of (List.mem_of_getElem? (i := 798) (by decide +kernel)) rfl
theorem t_799 : (Jvm.Cond.code ({ cls := "CardLink$Journal", name := "note", desc := "(III)V" } : Jvm.MethodName) prog_3_method_5_code (4 : Nat) (Option.none : Option Jvm.ClassFile.FieldType)) ∈ gW := gW_of (List.mem_of_getElem? (i := 799) (by decide +kernel)) rfl
theorem t_800 : (Jvm.Cond.methodLink "CardLink$Line" (139 : Nat) ({ cls := "CardLink$Line", name := "cardKind", desc := "()I" } : Jvm.MethodName)) ∈ gW := gW_of (List.mem_of_getElem? (i := 800) (by decide +kernel)) rfl
theorem t_802 : (Jvm.Cond.instanceMethod ({ cls := "CardLink$Line", name := "cardKind", desc := "()I" } : Jvm.MethodName)) ∈ gW := gW_of (List.mem_of_getElem? (i := 802) (by decide +kernel)) rfl
theorem t_803 : (Jvm.Cond.code ({ cls := "CardLink$Line", name := "cardKind", desc := "()I" } : Jvm.MethodName) prog_4_method_14_code (2 : Nat) (Option.some Jvm.ClassFile.FieldType.int)) ∈ gW := gW_of (List.mem_of_getElem? (i := 803) (by decide +kernel)) rfl
theorem t_804 : (Jvm.Cond.methodLink "CardLink$Line" (179 : Nat) ({ cls := "CardLink$Line", name := "putFirstByte", desc := "()I" } : Jvm.MethodName)) ∈ gW := gW_of (List.mem_of_getElem? (i := 804) (by decide +kernel)) rfl
theorem t_806 : (Jvm.Cond.instanceMethod ({ cls := "CardLink$Line", name := "putFirstByte", desc := "()I" } : Jvm.MethodName)) ∈ gW := gW_of (List.mem_of_getElem? (i := 806) (by decide +kernel)) rfl
theorem t_807 : (Jvm.Cond.code ({ cls := "CardLink$Line", name := "putFirstByte", desc := "()I" } : Jvm.MethodName) prog_4_method_27_code (1 : Nat) (Option.some Jvm.ClassFile.FieldType.int)) ∈ gW := gW_of (List.mem_of_getElem? (i := 807) (by decide +kernel)) rfl
theorem t_808 : (Jvm.Cond.methodLink "CardLink$Line" (185 : Nat) ({ cls := "CardLink$Line", name := "cardOnAnswer", desc := "()I" } : Jvm.MethodName)) ∈ gW := gW_of (List.mem_of_getElem? (i := 808) (by decide +kernel)) rfl
theorem t_810 : (Jvm.Cond.instanceMethod ({ cls := "CardLink$Line", name := "cardOnAnswer", desc := "()I" } : Jvm.MethodName)) ∈ gW := gW_of (List.mem_of_getElem? (i := 810) (by decide +kernel)) rfl
theorem t_811 : (Jvm.Cond.code ({ cls := "CardLink$Line", name := "cardOnAnswer", desc := "()I" } : Jvm.MethodName) prog_4_method_20_code (2 : Nat) (Option.some Jvm.ClassFile.FieldType.int)) ∈ gW := gW_of (List.mem_of_getElem? (i := 811) (by decide +kernel)) rfl
theorem t_812 : (Jvm.Cond.methodLink "CardLink$Line" (201 : Nat) ({ cls := "CardLink$Line", name := "putBehindThird", desc := "()I" } : Jvm.MethodName)) ∈ gW := gW_of (List.mem_of_getElem? (i := 812) (by decide +kernel)) rfl
theorem t_814 : (Jvm.Cond.instanceMethod ({ cls := "CardLink$Line", name := "putBehindThird", desc := "()I" } : Jvm.MethodName)) ∈ gW := gW_of (List.mem_of_getElem? (i := 814) (by decide +kernel)) rfl
theorem t_815 : (Jvm.Cond.code ({ cls := "CardLink$Line", name := "putBehindThird", desc := "()I" } : Jvm.MethodName) prog_4_method_26_code (2 : Nat) (Option.some Jvm.ClassFile.FieldType.int)) ∈ gW := gW_of (List.mem_of_getElem? (i := 815) (by decide +kernel)) rfl
theorem t_816 : (Jvm.Cond.methodLink "CardLink$Line" (142 : Nat) ({ cls := "CardLink$Line", name := "doMessage", desc := "()I" } : Jvm.MethodName)) ∈ gW := gW_of (List.mem_of_getElem? (i := 816) (by decide +kernel)) rfl
theorem t_818 : (Jvm.Cond.instanceMethod ({ cls := "CardLink$Line", name := "doMessage", desc := "()I" } : Jvm.MethodName)) ∈ gW := gW_of (List.mem_of_getElem? (i := 818) (by decide +kernel)) rfl
theorem t_819 : (Jvm.Cond.code ({ cls := "CardLink$Line", name := "doMessage", desc := "()I" } : Jvm.MethodName) prog_4_method_24_code (3 : Nat) (Option.some Jvm.ClassFile.FieldType.int)) ∈ gW := gW_of (List.mem_of_getElem? (i := 819) (by decide +kernel)) rfl
theorem t_820 : (Jvm.Cond.methodLink "CardLink$Line" (238 : Nat) ({ cls := "CardLink$Line", name := "putCounting", desc := "(I)I" } : Jvm.MethodName)) ∈ gW := gW_of (List.mem_of_getElem? (i := 820) (by decide +kernel)) rfl
theorem t_822 : (Jvm.Cond.instanceMethod ({ cls := "CardLink$Line", name := "putCounting", desc := "(I)I" } : Jvm.MethodName)) ∈ gW := gW_of (List.mem_of_getElem? (i := 822) (by decide +kernel)) rfl
theorem t_823 : (Jvm.Cond.code ({ cls := "CardLink$Line", name := "putCounting", desc := "(I)I" } : Jvm.MethodName) prog_4_method_25_code (3 : Nat) (Option.some Jvm.ClassFile.FieldType.int)) ∈ gW := gW_of (List.mem_of_getElem? (i := 823) (by decide +kernel)) rfl
theorem t_824 : (Jvm.Cond.methodLink "CardLinkLaw" (41 : Nat) ({ cls := "CardLink", name := "state", desc := "()I" } : Jvm.MethodName)) ∈ gW := gW_of (List.mem_of_getElem? (i := 824) (by decide +kernel)) rfl
theorem t_825 : (Jvm.Cond.instanceMethod ({ cls := "CardLink", name := "state", desc := "()I" } : Jvm.MethodName)) ∈ gW := gW_of (List.mem_of_getElem? (i := 825) (by decide +kernel)) rfl
theorem t_826 : (Jvm.Cond.selects "CardLink" ({ cls := "CardLink", name := "state", desc := "()I" } : Jvm.MethodName) ({ cls := "CardLink", name := "state", desc := "()I" } : Jvm.MethodName)) ∈ gW := gW_of (List.mem_of_getElem? (i := 826) (by decide +kernel)) rfl
theorem t_827 : (Jvm.Cond.code ({ cls := "CardLink", name := "state", desc := "()I" } : Jvm.MethodName) prog_1_method_15_code (1 : Nat) (Option.some Jvm.ClassFile.FieldType.int)) ∈ gW := gW_of (List.mem_of_getElem? (i := 827) (by decide +kernel)) rfl
theorem t_828 : (Jvm.Cond.methodLink "CardLinkLaw" (37 : Nat) ({ cls := "CardLink", name := "side", desc := "(II)I" } : Jvm.MethodName)) ∈ gW := gW_of (List.mem_of_getElem? (i := 828) (by decide +kernel)) rfl
theorem t_829 : (Jvm.Cond.instanceMethod ({ cls := "CardLink", name := "side", desc := "(II)I" } : Jvm.MethodName)) ∈ gW := gW_of (List.mem_of_getElem? (i := 829) (by decide +kernel)) rfl
theorem t_830 : (Jvm.Cond.selects "CardLink" ({ cls := "CardLink", name := "side", desc := "(II)I" } : Jvm.MethodName) ({ cls := "CardLink", name := "side", desc := "(II)I" } : Jvm.MethodName)) ∈ gW := gW_of (List.mem_of_getElem? (i := 830) (by decide +kernel)) rfl
theorem t_831 : (Jvm.Cond.code ({ cls := "CardLink", name := "side", desc := "(II)I" } : Jvm.MethodName) prog_1_method_16_code (3 : Nat) (Option.some Jvm.ClassFile.FieldType.int)) ∈ gW := gW_of (List.mem_of_getElem? (i := 831) (by decide +kernel)) rfl
theorem t_832 : (Jvm.Cond.methodLink "CardLink" (139 : Nat) ({ cls := "CardLink", name := "sideOf", desc := "(I)LCardLink$Side;" } : Jvm.MethodName)) ∈ gW := gW_of (List.mem_of_getElem? (i := 832) (by decide +kernel)) rfl
theorem t_834 : (Jvm.Cond.instanceMethod ({ cls := "CardLink", name := "sideOf", desc := "(I)LCardLink$Side;" } : Jvm.MethodName)) ∈ gW := gW_of (List.mem_of_getElem? (i := 834) (by decide +kernel)) rfl
theorem t_835 : (Jvm.Cond.code ({ cls := "CardLink", name := "sideOf", desc := "(I)LCardLink$Side;" } : Jvm.MethodName) prog_1_method_17_code (2 : Nat) (Option.some (Jvm.ClassFile.FieldType.object "CardLink$Side"))) ∈ gW := gW_of (List.mem_of_getElem? (i := 835) (by decide +kernel)) rfl
theorem t_836 : (Jvm.Cond.methodLink "CardLink" (143 : Nat) ({ cls := "CardLink$Side", name := "tell", desc := "(I)I" } : Jvm.MethodName)) ∈ gW := gW_of (List.mem_of_getElem? (i := 836) (by decide +kernel)) rfl
theorem t_837 : (Jvm.Cond.instanceMethod ({ cls := "CardLink$Side", name := "tell", desc := "(I)I" } : Jvm.MethodName)) ∈ gW := gW_of (List.mem_of_getElem? (i := 837) (by decide +kernel)) rfl
theorem t_838 : (Jvm.Cond.selects "CardLink$Side" ({ cls := "CardLink$Side", name := "tell", desc := "(I)I" } : Jvm.MethodName) ({ cls := "CardLink$Side", name := "tell", desc := "(I)I" } : Jvm.MethodName)) ∈ gW := gW_of (List.mem_of_getElem? (i := 838) (by decide +kernel)) rfl
theorem t_839 : (Jvm.Cond.code ({ cls := "CardLink$Side", name := "tell", desc := "(I)I" } : Jvm.MethodName) prog_7_method_20_code (2 : Nat) (Option.some Jvm.ClassFile.FieldType.int)) ∈ gW := gW_of (List.mem_of_getElem? (i := 839) (by decide +kernel)) rfl
theorem t_840 : (Jvm.Cond.methodLink "CardLinkLaw" (28 : Nat) ({ cls := "CardLink", name := "count", desc := "(I)I" } : Jvm.MethodName)) ∈ gW := gW_of (List.mem_of_getElem? (i := 840) (by decide +kernel)) rfl
theorem t_841 : (Jvm.Cond.instanceMethod ({ cls := "CardLink", name := "count", desc := "(I)I" } : Jvm.MethodName)) ∈ gW := gW_of (List.mem_of_getElem? (i := 841) (by decide +kernel)) rfl
theorem t_842 : (Jvm.Cond.selects "CardLink" ({ cls := "CardLink", name := "count", desc := "(I)I" } : Jvm.MethodName) ({ cls := "CardLink", name := "count", desc := "(I)I" } : Jvm.MethodName)) ∈ gW := gW_of (List.mem_of_getElem? (i := 842) (by decide +kernel)) rfl
theorem t_843 : (Jvm.Cond.code ({ cls := "CardLink", name := "count", desc := "(I)I" } : Jvm.MethodName) prog_1_method_23_code (2 : Nat) (Option.some Jvm.ClassFile.FieldType.int)) ∈ gW := gW_of (List.mem_of_getElem? (i := 843) (by decide +kernel)) rfl
theorem t_844 : (Jvm.Cond.methodLink "CardLink" (200 : Nat) ({ cls := "CardLink$Journal", name := "unlike", desc := "()I" } : Jvm.MethodName)) ∈ gW := gW_of (List.mem_of_getElem? (i := 844) (by decide +kernel)) rfl
theorem t_845 : (Jvm.Cond.instanceMethod ({ cls := "CardLink$Journal", name := "unlike", desc := "()I" } : Jvm.MethodName)) ∈ gW := gW_of (List.mem_of_getElem? (i := 845) (by decide +kernel)) rfl
theorem t_846 : (Jvm.Cond.selects "CardLink$Journal" ({ cls := "CardLink$Journal", name := "unlike", desc := "()I" } : Jvm.MethodName) ({ cls := "CardLink$Journal", name := "unlike", desc := "()I" } : Jvm.MethodName)) ∈ gW := gW_of (List.mem_of_getElem? (i := 846) (by decide +kernel)) rfl
theorem t_847 : (Jvm.Cond.code ({ cls := "CardLink$Journal", name := "unlike", desc := "()I" } : Jvm.MethodName) prog_3_method_3_code (1 : Nat) (Option.some Jvm.ClassFile.FieldType.int)) ∈ gW := gW_of (List.mem_of_getElem? (i := 847) (by decide +kernel)) rfl
theorem t_848 : (Jvm.Cond.methodLink "CardLink" (162 : Nat) ({ cls := "CardLink$Journal", name := "kept", desc := "()I" } : Jvm.MethodName)) ∈ gW := gW_of (List.mem_of_getElem? (i := 848) (by decide +kernel)) rfl
theorem t_849 : (Jvm.Cond.instanceMethod ({ cls := "CardLink$Journal", name := "kept", desc := "()I" } : Jvm.MethodName)) ∈ gW := gW_of (List.mem_of_getElem? (i := 849) (by decide +kernel)) rfl
theorem t_850 : (Jvm.Cond.selects "CardLink$Journal" ({ cls := "CardLink$Journal", name := "kept", desc := "()I" } : Jvm.MethodName) ({ cls := "CardLink$Journal", name := "kept", desc := "()I" } : Jvm.MethodName)) ∈ gW := gW_of (List.mem_of_getElem? (i := 850) (by decide +kernel)) rfl
theorem t_851 : (Jvm.Cond.code ({ cls := "CardLink$Journal", name := "kept", desc := "()I" } : Jvm.MethodName) prog_3_method_4_code (1 : Nat) (Option.some Jvm.ClassFile.FieldType.int)) ∈ gW := gW_of (List.mem_of_getElem? (i := 851) (by decide +kernel)) rfl
theorem t_852 : (Jvm.Cond.methodLink "CardLinkLaw" (18 : Nat) ({ cls := "CardLinkLaw", name := "cell", desc := "([II)I" } : Jvm.MethodName)) ∈ gW := gW_of (List.mem_of_getElem? (i := 852) (by decide +kernel)) rfl
theorem t_853 : (Jvm.Cond.static ({ cls := "CardLinkLaw", name := "cell", desc := "([II)I" } : Jvm.MethodName)) ∈ gW := gW_of (List.mem_of_getElem? (i := 853) (by decide +kernel)) rfl
theorem t_854 : (Jvm.Cond.code ({ cls := "CardLinkLaw", name := "cell", desc := "([II)I" } : Jvm.MethodName) method_2_code (2 : Nat) (Option.some Jvm.ClassFile.FieldType.int)) ∈ gW := gW_of (List.mem_of_getElem? (i := 854) (by decide +kernel)) rfl
theorem t_855 : (Jvm.Cond.constant "CardLinkLaw" (7 : Nat) (40503 : Int32)) ∈ gW := gW_of (List.mem_of_getElem? (i := 855) (by decide +kernel)) rfl
theorem t_856 : (Jvm.Cond.methodLink "CardLinkLaw" (55 : Nat) ({ cls := "CardLinkLaw", name := "types", desc := "(LCardLink;[II)V" } : Jvm.MethodName)) ∈ gW := gW_of (List.mem_of_getElem? (i := 856) (by decide +kernel)) rfl
theorem t_857 : (Jvm.Cond.static ({ cls := "CardLinkLaw", name := "types", desc := "(LCardLink;[II)V" } : Jvm.MethodName)) ∈ gW := gW_of (List.mem_of_getElem? (i := 857) (by decide +kernel)) rfl
theorem t_858 : (Jvm.Cond.code ({ cls := "CardLinkLaw", name := "types", desc := "(LCardLink;[II)V" } : Jvm.MethodName) method_3_code (6 : Nat) (Option.none : Option Jvm.ClassFile.FieldType)) ∈ gW := gW_of (List.mem_of_getElem? (i := 858) (by decide +kernel)) rfl
theorem t_859 : (Jvm.Cond.methodLink "CardLinkLaw" (8 : Nat) ({ cls := "CardLink", name := "feed", desc := "(JJ)I" } : Jvm.MethodName)) ∈ gW := gW_of (List.mem_of_getElem? (i := 859) (by decide +kernel)) rfl
theorem t_860 : (Jvm.Cond.instanceMethod ({ cls := "CardLink", name := "feed", desc := "(JJ)I" } : Jvm.MethodName)) ∈ gW := gW_of (List.mem_of_getElem? (i := 860) (by decide +kernel)) rfl
theorem t_861 : (Jvm.Cond.selects "CardLink" ({ cls := "CardLink", name := "feed", desc := "(JJ)I" } : Jvm.MethodName) ({ cls := "CardLink", name := "feed", desc := "(JJ)I" } : Jvm.MethodName)) ∈ gW := gW_of (List.mem_of_getElem? (i := 861) (by decide +kernel)) rfl
theorem t_862 : (Jvm.Cond.code ({ cls := "CardLink", name := "feed", desc := "(JJ)I" } : Jvm.MethodName) prog_1_method_2_code (5 : Nat) (Option.some Jvm.ClassFile.FieldType.int)) ∈ gW := gW_of (List.mem_of_getElem? (i := 862) (by decide +kernel)) rfl
theorem t_863 : (Jvm.Cond.methodLink "CardLink" (59 : Nat) ({ cls := "CardLink", name := "feedEight", desc := "(J)V" } : Jvm.MethodName)) ∈ gW := gW_of (List.mem_of_getElem? (i := 863) (by decide +kernel)) rfl
theorem t_865 : (Jvm.Cond.instanceMethod ({ cls := "CardLink", name := "feedEight", desc := "(J)V" } : Jvm.MethodName)) ∈ gW := gW_of (List.mem_of_getElem? (i := 865) (by decide +kernel)) rfl
theorem t_866 : (Jvm.Cond.code ({ cls := "CardLink", name := "feedEight", desc := "(J)V" } : Jvm.MethodName) prog_1_method_3_code (4 : Nat) (Option.none : Option Jvm.ClassFile.FieldType)) ∈ gW := gW_of (List.mem_of_getElem? (i := 866) (by decide +kernel)) rfl
theorem t_867 : (Jvm.Cond.methodLink "CardLink" (63 : Nat) ({ cls := "CardLink$Row", name := "add", desc := "(I)V" } : Jvm.MethodName)) ∈ gW := gW_of (List.mem_of_getElem? (i := 867) (by decide +kernel)) rfl
theorem t_868 : (Jvm.Cond.methodLink "CardLinkLaw" (14 : Nat) ({ cls := "CardLink", name := "end", desc := "(I)I" } : Jvm.MethodName)) ∈ gW := gW_of (List.mem_of_getElem? (i := 868) (by decide +kernel)) rfl
theorem t_869 : (Jvm.Cond.instanceMethod ({ cls := "CardLink", name := "end", desc := "(I)I" } : Jvm.MethodName)) ∈ gW := gW_of (List.mem_of_getElem? (i := 869) (by decide +kernel)) rfl
theorem t_870 : (Jvm.Cond.selects "CardLink" ({ cls := "CardLink", name := "end", desc := "(I)I" } : Jvm.MethodName) ({ cls := "CardLink", name := "end", desc := "(I)I" } : Jvm.MethodName)) ∈ gW := gW_of (List.mem_of_getElem? (i := 870) (by decide +kernel)) rfl
theorem t_871 : (Jvm.Cond.code ({ cls := "CardLink", name := "end", desc := "(I)I" } : Jvm.MethodName) prog_1_method_4_code (2 : Nat) (Option.some Jvm.ClassFile.FieldType.int)) ∈ gW := gW_of (List.mem_of_getElem? (i := 871) (by decide +kernel)) rfl
theorem t_872 : (Jvm.Cond.arrayClass Jvm.ClassFile.FieldType.long) ∈ gW := gW_of (List.mem_of_getElem? (i := 872) (by decide +kernel)) rfl
theorem t_873 : (Jvm.Cond.methodLink "CardLinkLaw" (51 : Nat) ({ cls := "CardLinkLaw", name := "answer", desc := "(I)[I" } : Jvm.MethodName)) ∈ gW := gW_of (List.mem_of_getElem? (i := 873) (by decide +kernel)) rfl
theorem t_874 : (Jvm.Cond.static ({ cls := "CardLinkLaw", name := "answer", desc := "(I)[I" } : Jvm.MethodName)) ∈ gW := gW_of (List.mem_of_getElem? (i := 874) (by decide +kernel)) rfl
theorem t_875 : (Jvm.Cond.code ({ cls := "CardLinkLaw", name := "answer", desc := "(I)[I" } : Jvm.MethodName) method_4_code (3 : Nat) (Option.some (Jvm.ClassFile.FieldType.array Jvm.ClassFile.FieldType.int))) ∈ gW := gW_of (List.mem_of_getElem? (i := 875) (by decide +kernel)) rfl
theorem t_876 : (Jvm.Cond.methodLink "CardLinkLaw" (70 : Nat) ({ cls := "CardLinkLaw", name := "size", desc := "([II)I" } : Jvm.MethodName)) ∈ gW := gW_of (List.mem_of_getElem? (i := 876) (by decide +kernel)) rfl
theorem t_877 : (Jvm.Cond.static ({ cls := "CardLinkLaw", name := "size", desc := "([II)I" } : Jvm.MethodName)) ∈ gW := gW_of (List.mem_of_getElem? (i := 877) (by decide +kernel)) rfl
theorem t_878 : (Jvm.Cond.code ({ cls := "CardLinkLaw", name := "size", desc := "([II)I" } : Jvm.MethodName) method_5_code (2 : Nat) (Option.some Jvm.ClassFile.FieldType.int)) ∈ gW := gW_of (List.mem_of_getElem? (i := 878) (by decide +kernel)) rfl
theorem t_879 : (Jvm.Cond.methodLink "CardLinkLaw" (73 : Nat) ({ cls := "CardLinkLaw", name := "message", desc := "([III)[I" } : Jvm.MethodName)) ∈ gW := gW_of (List.mem_of_getElem? (i := 879) (by decide +kernel)) rfl
theorem t_880 : (Jvm.Cond.static ({ cls := "CardLinkLaw", name := "message", desc := "([III)[I" } : Jvm.MethodName)) ∈ gW := gW_of (List.mem_of_getElem? (i := 880) (by decide +kernel)) rfl
theorem t_881 : (Jvm.Cond.code ({ cls := "CardLinkLaw", name := "message", desc := "([III)[I" } : Jvm.MethodName) method_6_code (5 : Nat) (Option.some (Jvm.ClassFile.FieldType.array Jvm.ClassFile.FieldType.int))) ∈ gW := gW_of (List.mem_of_getElem? (i := 881) (by decide +kernel)) rfl
theorem t_882 : (Jvm.Cond.methodLink "CardLinkLaw" (87 : Nat) ({ cls := "CardLinkLaw", name := "expected", desc := "([II)[I" } : Jvm.MethodName)) ∈ gW := gW_of (List.mem_of_getElem? (i := 882) (by decide +kernel)) rfl
theorem t_883 : (Jvm.Cond.static ({ cls := "CardLinkLaw", name := "expected", desc := "([II)[I" } : Jvm.MethodName)) ∈ gW := gW_of (List.mem_of_getElem? (i := 883) (by decide +kernel)) rfl
theorem t_884 : (Jvm.Cond.code ({ cls := "CardLinkLaw", name := "expected", desc := "([II)[I" } : Jvm.MethodName) method_7_code (5 : Nat) (Option.some (Jvm.ClassFile.FieldType.array Jvm.ClassFile.FieldType.int))) ∈ gW := gW_of (List.mem_of_getElem? (i := 884) (by decide +kernel)) rfl
theorem t_885 : (Jvm.Cond.methodLink "CardLinkLaw" (91 : Nat) ({ cls := "CardLinkLaw", name := "isGot", desc := "(LCardLink;I[III)Z" } : Jvm.MethodName)) ∈ gW := gW_of (List.mem_of_getElem? (i := 885) (by decide +kernel)) rfl
theorem t_886 : (Jvm.Cond.static ({ cls := "CardLinkLaw", name := "isGot", desc := "(LCardLink;I[III)Z" } : Jvm.MethodName)) ∈ gW := gW_of (List.mem_of_getElem? (i := 886) (by decide +kernel)) rfl
theorem t_887 : (Jvm.Cond.code ({ cls := "CardLinkLaw", name := "isGot", desc := "(LCardLink;I[III)Z" } : Jvm.MethodName) method_8_code (6 : Nat) (Option.some Jvm.ClassFile.FieldType.boolean)) ∈ gW := gW_of (List.mem_of_getElem? (i := 887) (by decide +kernel)) rfl
theorem t_888 : (Jvm.Cond.methodLink "CardLinkLaw" (24 : Nat) ({ cls := "CardLink", name := "got", desc := "(II)I" } : Jvm.MethodName)) ∈ gW := gW_of (List.mem_of_getElem? (i := 888) (by decide +kernel)) rfl
theorem t_889 : (Jvm.Cond.instanceMethod ({ cls := "CardLink", name := "got", desc := "(II)I" } : Jvm.MethodName)) ∈ gW := gW_of (List.mem_of_getElem? (i := 889) (by decide +kernel)) rfl
theorem t_890 : (Jvm.Cond.selects "CardLink" ({ cls := "CardLink", name := "got", desc := "(II)I" } : Jvm.MethodName) ({ cls := "CardLink", name := "got", desc := "(II)I" } : Jvm.MethodName)) ∈ gW := gW_of (List.mem_of_getElem? (i := 890) (by decide +kernel)) rfl
theorem t_891 : (Jvm.Cond.code ({ cls := "CardLink", name := "got", desc := "(II)I" } : Jvm.MethodName) prog_1_method_18_code (4 : Nat) (Option.some Jvm.ClassFile.FieldType.int)) ∈ gW := gW_of (List.mem_of_getElem? (i := 891) (by decide +kernel)) rfl
theorem t_892 : (Jvm.Cond.methodLink "CardLink" (159 : Nat) ({ cls := "CardLink$Row", name := "at", desc := "(I)I" } : Jvm.MethodName)) ∈ gW := gW_of (List.mem_of_getElem? (i := 892) (by decide +kernel)) rfl
theorem t_893 : (Jvm.Cond.methodLink "CardLinkLaw" (83 : Nat) ({ cls := "CardLinkLaw", name := "sound", desc := "(LCardLink;)Z" } : Jvm.MethodName)) ∈ gW := gW_of (List.mem_of_getElem? (i := 893) (by decide +kernel)) rfl
theorem t_894 : (Jvm.Cond.static ({ cls := "CardLinkLaw", name := "sound", desc := "(LCardLink;)Z" } : Jvm.MethodName)) ∈ gW := gW_of (List.mem_of_getElem? (i := 894) (by decide +kernel)) rfl
theorem t_895 : (Jvm.Cond.code ({ cls := "CardLinkLaw", name := "sound", desc := "(LCardLink;)Z" } : Jvm.MethodName) method_9_code (6 : Nat) (Option.some Jvm.ClassFile.FieldType.boolean)) ∈ gW := gW_of (List.mem_of_getElem? (i := 895) (by decide +kernel)) rfl
theorem t_896 : (Jvm.Cond.methodLink "CardLinkLaw" (31 : Nat) ({ cls := "CardLink", name := "byteOf", desc := "(II)I" } : Jvm.MethodName)) ∈ gW := gW_of (List.mem_of_getElem? (i := 896) (by decide +kernel)) rfl
theorem t_897 : (Jvm.Cond.instanceMethod ({ cls := "CardLink", name := "byteOf", desc := "(II)I" } : Jvm.MethodName)) ∈ gW := gW_of (List.mem_of_getElem? (i := 897) (by decide +kernel)) rfl
theorem t_898 : (Jvm.Cond.selects "CardLink" ({ cls := "CardLink", name := "byteOf", desc := "(II)I" } : Jvm.MethodName) ({ cls := "CardLink", name := "byteOf", desc := "(II)I" } : Jvm.MethodName)) ∈ gW := gW_of (List.mem_of_getElem? (i := 898) (by decide +kernel)) rfl
theorem t_899 : (Jvm.Cond.code ({ cls := "CardLink", name := "byteOf", desc := "(II)I" } : Jvm.MethodName) prog_1_method_20_code (3 : Nat) (Option.some Jvm.ClassFile.FieldType.int)) ∈ gW := gW_of (List.mem_of_getElem? (i := 899) (by decide +kernel)) rfl
theorem t_900 : (Jvm.Cond.methodLink "CardLink" (171 : Nat) ({ cls := "CardLink$Journal", name := "byteAt", desc := "(II)I" } : Jvm.MethodName)) ∈ gW := gW_of (List.mem_of_getElem? (i := 900) (by decide +kernel)) rfl
theorem t_901 : (Jvm.Cond.instanceMethod ({ cls := "CardLink$Journal", name := "byteAt", desc := "(II)I" } : Jvm.MethodName)) ∈ gW := gW_of (List.mem_of_getElem? (i := 901) (by decide +kernel)) rfl
theorem t_902 : (Jvm.Cond.selects "CardLink$Journal" ({ cls := "CardLink$Journal", name := "byteAt", desc := "(II)I" } : Jvm.MethodName) ({ cls := "CardLink$Journal", name := "byteAt", desc := "(II)I" } : Jvm.MethodName)) ∈ gW := gW_of (List.mem_of_getElem? (i := 902) (by decide +kernel)) rfl
theorem t_903 : (Jvm.Cond.code ({ cls := "CardLink$Journal", name := "byteAt", desc := "(II)I" } : Jvm.MethodName) prog_3_method_12_code (4 : Nat) (Option.some Jvm.ClassFile.FieldType.int)) ∈ gW := gW_of (List.mem_of_getElem? (i := 903) (by decide +kernel)) rfl
theorem t_904 : (Jvm.Cond.methodLink "CardLink$Journal" (77 : Nat) ({ cls := "CardLink$Journal", name := "placeOf", desc := "(I)I" } : Jvm.MethodName)) ∈ gW := gW_of (List.mem_of_getElem? (i := 904) (by decide +kernel)) rfl
theorem t_906 : (Jvm.Cond.instanceMethod ({ cls := "CardLink$Journal", name := "placeOf", desc := "(I)I" } : Jvm.MethodName)) ∈ gW := gW_of (List.mem_of_getElem? (i := 906) (by decide +kernel)) rfl
theorem t_907 : (Jvm.Cond.code ({ cls := "CardLink$Journal", name := "placeOf", desc := "(I)I" } : Jvm.MethodName) prog_3_method_10_code (3 : Nat) (Option.some Jvm.ClassFile.FieldType.int)) ∈ gW := gW_of (List.mem_of_getElem? (i := 907) (by decide +kernel)) rfl
theorem t_908 : (Jvm.Cond.methodLink "CardLinkLaw" (34 : Nat) ({ cls := "CardLink", name := "log", desc := "(II)I" } : Jvm.MethodName)) ∈ gW := gW_of (List.mem_of_getElem? (i := 908) (by decide +kernel)) rfl
theorem t_909 : (Jvm.Cond.instanceMethod ({ cls := "CardLink", name := "log", desc := "(II)I" } : Jvm.MethodName)) ∈ gW := gW_of (List.mem_of_getElem? (i := 909) (by decide +kernel)) rfl
theorem t_910 : (Jvm.Cond.selects "CardLink" ({ cls := "CardLink", name := "log", desc := "(II)I" } : Jvm.MethodName) ({ cls := "CardLink", name := "log", desc := "(II)I" } : Jvm.MethodName)) ∈ gW := gW_of (List.mem_of_getElem? (i := 910) (by decide +kernel)) rfl
theorem t_911 : (Jvm.Cond.code ({ cls := "CardLink", name := "log", desc := "(II)I" } : Jvm.MethodName) prog_1_method_19_code (3 : Nat) (Option.some Jvm.ClassFile.FieldType.int)) ∈ gW := gW_of (List.mem_of_getElem? (i := 911) (by decide +kernel)) rfl
theorem t_912 : (Jvm.Cond.classLink "CardLink" (165 : Nat) "java/util/NoSuchElementException") ∈ gW := gW_of (List.mem_of_getElem? (i := 912) (by decide +kernel)) rfl
theorem t_935 : (Jvm.Cond.instanceMethod ({ cls := "java/lang/Throwable", name := "<init>", desc := "()V" } : Jvm.MethodName)) ∈ gW := gW_of (List.mem_of_getElem? (i := 935) (by decide +kernel)) rfl
theorem t_936 : (Jvm.Cond.code ({ cls := "java/lang/Throwable", name := "<init>", desc := "()V" } : Jvm.MethodName) prog_17_method_1_code (1 : Nat) (Option.none : Option Jvm.ClassFile.FieldType)) ∈ gW := gW_of (List.mem_of_getElem? (i := 936) (by decide +kernel)) rfl
theorem t_937 : (Jvm.Cond.methodLink "java/lang/Throwable" (1 : Nat) ({ cls := "java/lang/Object", name := "<init>", desc := "()V" } : Jvm.MethodName)) ∈ gW := gW_of (List.mem_of_getElem? (i := 937) (by decide +kernel)) rfl
theorem t_942 : (Jvm.Cond.methodLink "java/lang/Throwable" (27 : Nat) ({ cls := "java/lang/Throwable", name := "fillInStackTrace", desc := "()Ljava/lang/Throwable;" } : Jvm.MethodName)) ∈ gW := gW_of (List.mem_of_getElem? (i := 942) (by decide +kernel)) rfl
theorem t_943 : (Jvm.Cond.instanceMethod ({ cls := "java/lang/Throwable", name := "fillInStackTrace", desc := "()Ljava/lang/Throwable;" } : Jvm.MethodName)) ∈ gW := gW_of (List.mem_of_getElem? (i := 943) (by decide +kernel)) rfl
theorem t_946 : (Jvm.Cond.methodLink "java/lang/Throwable" (202 : Nat) ({ cls := "java/lang/Throwable", name := "fillInStackTrace", desc := "(I)Ljava/lang/Throwable;" } : Jvm.MethodName)) ∈ gW := gW_of (List.mem_of_getElem? (i := 946) (by decide +kernel)) rfl
theorem t_948 : (Jvm.Cond.instanceMethod ({ cls := "java/lang/Throwable", name := "fillInStackTrace", desc := "(I)Ljava/lang/Throwable;" } : Jvm.MethodName)) ∈ gW := gW_of (List.mem_of_getElem? (i := 948) (by decide +kernel)) rfl
theorem t_951 : (Jvm.Cond.methodLink "CardLink" (167 : Nat) ({ cls := "java/util/NoSuchElementException", name := "<init>", desc := "()V" } : Jvm.MethodName)) ∈ gW := gW_of (List.mem_of_getElem? (i := 951) (by decide +kernel)) rfl
theorem t_952 : (Jvm.Cond.instanceMethod ({ cls := "java/util/NoSuchElementException", name := "<init>", desc := "()V" } : Jvm.MethodName)) ∈ gW := gW_of (List.mem_of_getElem? (i := 952) (by decide +kernel)) rfl
theorem t_953 : (Jvm.Cond.code ({ cls := "java/util/NoSuchElementException", name := "<init>", desc := "()V" } : Jvm.MethodName) prog_19_method_1_code (1 : Nat) (Option.none : Option Jvm.ClassFile.FieldType)) ∈ gW := gW_of (List.mem_of_getElem? (i := 953) (by decide +kernel)) rfl
theorem t_954 : (Jvm.Cond.methodLink "java/util/NoSuchElementException" (1 : Nat) ({ cls := "java/lang/RuntimeException", name := "<init>", desc := "()V" } : Jvm.MethodName)) ∈ gW := gW_of (List.mem_of_getElem? (i := 954) (by decide +kernel)) rfl
theorem t_955 : (Jvm.Cond.instanceMethod ({ cls := "java/lang/RuntimeException", name := "<init>", desc := "()V" } : Jvm.MethodName)) ∈ gW := gW_of (List.mem_of_getElem? (i := 955) (by decide +kernel)) rfl
theorem t_956 : (Jvm.Cond.code ({ cls := "java/lang/RuntimeException", name := "<init>", desc := "()V" } : Jvm.MethodName) prog_15_method_1_code (1 : Nat) (Option.none : Option Jvm.ClassFile.FieldType)) ∈ gW := gW_of (List.mem_of_getElem? (i := 956) (by decide +kernel)) rfl
theorem t_957 : (Jvm.Cond.methodLink "java/lang/RuntimeException" (1 : Nat) ({ cls := "java/lang/Exception", name := "<init>", desc := "()V" } : Jvm.MethodName)) ∈ gW := gW_of (List.mem_of_getElem? (i := 957) (by decide +kernel)) rfl
theorem t_958 : (Jvm.Cond.instanceMethod ({ cls := "java/lang/Exception", name := "<init>", desc := "()V" } : Jvm.MethodName)) ∈ gW := gW_of (List.mem_of_getElem? (i := 958) (by decide +kernel)) rfl
theorem t_959 : (Jvm.Cond.code ({ cls := "java/lang/Exception", name := "<init>", desc := "()V" } : Jvm.MethodName) prog_13_method_1_code (1 : Nat) (Option.none : Option Jvm.ClassFile.FieldType)) ∈ gW := gW_of (List.mem_of_getElem? (i := 959) (by decide +kernel)) rfl
theorem t_960 : (Jvm.Cond.methodLink "java/lang/Exception" (1 : Nat) ({ cls := "java/lang/Throwable", name := "<init>", desc := "()V" } : Jvm.MethodName)) ∈ gW := gW_of (List.mem_of_getElem? (i := 960) (by decide +kernel)) rfl
theorem t_973 : (Jvm.Cond.methodLink "CardLink" (168 : Nat) ({ cls := "CardLink$Journal", name := "tell", desc := "(II)I" } : Jvm.MethodName)) ∈ gW := gW_of (List.mem_of_getElem? (i := 973) (by decide +kernel)) rfl
theorem t_974 : (Jvm.Cond.instanceMethod ({ cls := "CardLink$Journal", name := "tell", desc := "(II)I" } : Jvm.MethodName)) ∈ gW := gW_of (List.mem_of_getElem? (i := 974) (by decide +kernel)) rfl
theorem t_975 : (Jvm.Cond.selects "CardLink$Journal" ({ cls := "CardLink$Journal", name := "tell", desc := "(II)I" } : Jvm.MethodName) ({ cls := "CardLink$Journal", name := "tell", desc := "(II)I" } : Jvm.MethodName)) ∈ gW := gW_of (List.mem_of_getElem? (i := 975) (by decide +kernel)) rfl
theorem t_976 : (Jvm.Cond.code ({ cls := "CardLink$Journal", name := "tell", desc := "(II)I" } : Jvm.MethodName) prog_3_method_11_code (6 : Nat) (Option.some Jvm.ClassFile.FieldType.int)) ∈ gW := gW_of (List.mem_of_getElem? (i := 976) (by decide +kernel)) rfl
theorem uwX0 : ∀ w ∈ u_ws RX0 TX0 7, w ∈ gW := fun w hw => gW_of ((by decide +kernel : ∀ w ∈ u_ws RX0 TX0 7, w ∈ lw_tbl) w hw) ((by decide +kernel : ∀ w ∈ u_ws RX0 TX0 7, goodWord w = true) w hw)
theorem gk0 : gK 0 RX0 TX0 7 tyX0 := ⟨rfl, uwX0, tyX0_ok, nmX0⟩
theorem uwX1 : ∀ w ∈ u_ws RX1 TX1 9, w ∈ gW := fun w hw => gW_of ((by decide +kernel : ∀ w ∈ u_ws RX1 TX1 9, w ∈ lw_tbl) w hw) ((by decide +kernel : ∀ w ∈ u_ws RX1 TX1 9, goodWord w = true) w hw)
theorem gk1 : gK 1 RX1 TX1 9 tyX1 := ⟨rfl, uwX1, tyX1_ok, nmX1⟩
theorem uwX2 : ∀ w ∈ u_ws RX2 TX2 18, w ∈ gW := fun w hw => gW_of ((by decide +kernel : ∀ w ∈ u_ws RX2 TX2 18, w ∈ lw_tbl) w hw) ((by decide +kernel : ∀ w ∈ u_ws RX2 TX2 18, goodWord w = true) w hw)
theorem gk2 : gK 2 RX2 TX2 18 tyX2 := ⟨rfl, uwX2, tyX2_ok, nmX2⟩
theorem uwX3 : ∀ w ∈ u_ws RX3 TX3 11, w ∈ gW := fun w hw => gW_of ((by decide +kernel : ∀ w ∈ u_ws RX3 TX3 11, w ∈ lw_tbl) w hw) ((by decide +kernel : ∀ w ∈ u_ws RX3 TX3 11, goodWord w = true) w hw)
theorem gk3 : gK 3 RX3 TX3 11 tyX3 := ⟨rfl, uwX3, tyX3_ok, nmX3⟩
theorem uwX4 : ∀ w ∈ u_ws RX4 TX4 3, w ∈ gW := fun w hw => gW_of ((by decide +kernel : ∀ w ∈ u_ws RX4 TX4 3, w ∈ lw_tbl) w hw) ((by decide +kernel : ∀ w ∈ u_ws RX4 TX4 3, goodWord w = true) w hw)
theorem gk4 : gK 4 RX4 TX4 3 tyX4 := ⟨rfl, uwX4, tyX4_ok, nmX4⟩
theorem uwX5 : ∀ w ∈ u_ws RX5 TX5 15, w ∈ gW := fun w hw => gW_of ((by decide +kernel : ∀ w ∈ u_ws RX5 TX5 15, w ∈ lw_tbl) w hw) ((by decide +kernel : ∀ w ∈ u_ws RX5 TX5 15, goodWord w = true) w hw)
theorem gk5 : gK 5 RX5 TX5 15 tyX5 := ⟨rfl, uwX5, tyX5_ok, nmX5⟩
theorem uwX6 : ∀ w ∈ u_ws RX6 TX6 10, w ∈ gW := fun w hw => gW_of ((by decide +kernel : ∀ w ∈ u_ws RX6 TX6 10, w ∈ lw_tbl) w hw) ((by decide +kernel : ∀ w ∈ u_ws RX6 TX6 10, goodWord w = true) w hw)
theorem gk6 : gK 6 RX6 TX6 10 tyX6 := ⟨rfl, uwX6, tyX6_ok, nmX6⟩
theorem uwX7 : ∀ w ∈ u_ws RX7 TX7 7, w ∈ gW := fun w hw => gW_of ((by decide +kernel : ∀ w ∈ u_ws RX7 TX7 7, w ∈ lw_tbl) w hw) ((by decide +kernel : ∀ w ∈ u_ws RX7 TX7 7, goodWord w = true) w hw)
theorem gk7 : gK 7 RX7 TX7 7 tyX7 := ⟨rfl, uwX7, tyX7_ok, nmX7⟩
theorem nX7_7 : gNw RX7 7 4 3 [.null, .int 0, .int 0] := ⟨RX4, TX4, tyX4, gk4, t_65, t_66, t_43, by decide +kernel, fun _ _ => rfl⟩
theorem fX7_14 : gF RX7 14 7 0 (.object "CardLink$Row") true := ⟨RX7, TX7, 7, tyX7, gk7, by decide, t_372, rfl, rfl, fun _ => rfl⟩
theorem nX7_18 : gNw RX7 18 1 9 [.null, .null, .null, .null, .null, .null, .null, .null, .int 0] := ⟨RX1, TX1, tyX1, gk1, t_85, t_86, t_45, by decide +kernel, fun _ _ => rfl⟩
theorem fX7_21 : gF RX7 21 7 1 (.object "CardLink$Journal") true := ⟨RX7, TX7, 7, tyX7, gk7, by decide, t_373, rfl, rfl, fun _ => rfl⟩
theorem nX7_25 : gNw RX7 25 2 18 [.null, .null, .null, .int 0, .int 0, .int 0, .int 0, .int 0, .null, .null, .null, .int 0, .int 0, .int 0, .int 0, .int 0, .int 0, .int 0] := ⟨RX2, TX2, tyX2, gk2, t_123, t_124, t_46, by decide +kernel, fun _ _ => rfl⟩
theorem fX7_30 : gF RX7 30 7 2 (.object "CardLink$Line") true := ⟨RX7, TX7, 7, tyX7, gk7, by decide, t_374, rfl, rfl, fun _ => rfl⟩
theorem nX7_34 : gNw RX7 34 0 7 [.null, .null, .null, .int 0, .null, .null, .null] := ⟨RX0, TX0, tyX0, gk0, t_300, t_301, t_49, by decide +kernel, fun _ _ => rfl⟩
theorem fX7_37 : gF RX7 37 7 3 (.object "CardLink$Forecast") true := ⟨RX7, TX7, 7, tyX7, gk7, by decide, t_375, rfl, rfl, fun _ => rfl⟩
theorem nX7_41 : gNw RX7 41 3 11 [.int 0, .int 0, .int 0, .int 0, .int 0, .int 0, .int 0, .null, .int 0, .int 0, .int 0] := ⟨RX3, TX3, tyX3, gk3, t_330, t_331, t_50, by decide +kernel, fun _ _ => rfl⟩
theorem fX7_44 : gF RX7 44 7 4 (.object "CardLink$ResetAnswer") false := ⟨RX7, TX7, 7, tyX7, gk7, by decide, t_376, rfl, rfl, fun h => by cases h⟩
theorem fX7_48 : gF RX7 48 7 5 (.object "CardLink$ResetAnswer") false := ⟨RX7, TX7, 7, tyX7, gk7, by decide, t_377, rfl, rfl, fun h => by cases h⟩
theorem fX7_51 : gF RX7 51 7 6 .boolean false := ⟨RX7, TX7, 7, tyX7, gk7, by decide, t_378, rfl, rfl, fun h => by cases h⟩
theorem fX7_110 : gF RX7 110 2 3 .int false := ⟨RX2, TX2, 18, tyX2, gk2, by decide, t_244, rfl, rfl, fun h => by cases h⟩
theorem fX7_114 : ∃ (RC : String) (T : u_T) (N : Nat) (tf : Nat → FieldType), gK 2 RC T N tf ∧ 2 < N ∧ Cond.fieldLink RX7 114 (T 2).1 (T 2).2.1 (T 2).2.2.1 ∈ gW := ⟨RX2, TX2, 18, tyX2, gk2, by decide, t_242⟩
theorem fX7_130 : gF RX7 130 6 0 .int false := ⟨RX6, TX6, 10, tyX6, gk6, by decide, t_201, rfl, rfl, fun h => by cases h⟩
theorem fX7_146 : ∃ (RC : String) (T : u_T) (N : Nat) (tf : Nat → FieldType), gK 2 RC T N tf ∧ 0 < N ∧ Cond.fieldLink RX7 146 (T 0).1 (T 0).2.1 (T 0).2.2.1 ∈ gW := ⟨RX2, TX2, 18, tyX2, gk2, by decide, t_238⟩
theorem fX7_150 : ∃ (RC : String) (T : u_T) (N : Nat) (tf : Nat → FieldType), gK 2 RC T N tf ∧ 1 < N ∧ Cond.fieldLink RX7 150 (T 1).1 (T 1).2.1 (T 1).2.2.1 ∈ gW := ⟨RX2, TX2, 18, tyX2, gk2, by decide, t_240⟩
theorem fX7_153 : gF RX7 153 5 7 .int false := ⟨RX5, TX5, 15, tyX5, gk5, by decide, t_152, rfl, rfl, fun h => by cases h⟩
theorem fX7_156 : ∃ (RC : String) (T : u_T) (N : Nat) (tf : Nat → FieldType), gK 5 RC T N tf ∧ 9 < N ∧ Cond.fieldLink RX7 156 (T 9).1 (T 9).2.1 (T 9).2.2.1 ∈ gW := ⟨RX5, TX5, 15, tyX5, gk5, by decide, t_156⟩
theorem fX7_181 : gF RX7 181 6 1 .int false := ⟨RX6, TX6, 10, tyX6, gk6, by decide, t_203, rfl, rfl, fun h => by cases h⟩
theorem fX7_194 : gF RX7 194 6 2 .int false := ⟨RX6, TX6, 10, tyX6, gk6, by decide, t_206, rfl, rfl, fun h => by cases h⟩
theorem fX7_197 : gF RX7 197 2 4 .int false := ⟨RX2, TX2, 18, tyX2, gk2, by decide, t_246, rfl, rfl, fun h => by cases h⟩
theorem fX7_203 : gF RX7 203 2 5 .int false := ⟨RX2, TX2, 18, tyX2, gk2, by decide, t_248, rfl, rfl, fun h => by cases h⟩
theorem fX7_206 : gF RX7 206 2 6 .int false := ⟨RX2, TX2, 18, tyX2, gk2, by decide, t_250, rfl, rfl, fun h => by cases h⟩
theorem fX7_209 : gF RX7 209 2 7 .int false := ⟨RX2, TX2, 18, tyX2, gk2, by decide, t_252, rfl, rfl, fun h => by cases h⟩
theorem nX0_9 : gNw RX0 9 2 18 [.null, .null, .null, .int 0, .int 0, .int 0, .int 0, .int 0, .null, .null, .null, .int 0, .int 0, .int 0, .int 0, .int 0, .int 0, .int 0] := ⟨RX2, TX2, tyX2, gk2, t_306, t_124, t_46, by decide +kernel, fun _ _ => rfl⟩
theorem fX0_14 : gF RX0 14 0 0 (.object "CardLink$Line") true := ⟨RX0, TX0, 7, tyX0, gk0, by decide, t_308, rfl, rfl, fun _ => rfl⟩
theorem fX0_20 : gF RX0 20 0 1 (.object "CardLink$Line") true := ⟨RX0, TX0, 7, tyX0, gk0, by decide, t_309, rfl, rfl, fun _ => rfl⟩
theorem fX0_23 : gF RX0 23 0 2 (.object "CardLink$Line") true := ⟨RX0, TX0, 7, tyX0, gk0, by decide, t_310, rfl, rfl, fun _ => rfl⟩
theorem fX0_26 : gF RX0 26 0 3 .boolean false := ⟨RX0, TX0, 7, tyX0, gk0, by decide, t_311, rfl, rfl, fun h => by cases h⟩
theorem fX0_30 : gF RX0 30 0 4 (.array .int) true := ⟨RX0, TX0, 7, tyX0, gk0, by decide, t_312, rfl, rfl, fun _ => rfl⟩
theorem fX0_34 : gF RX0 34 0 5 (.array .int) true := ⟨RX0, TX0, 7, tyX0, gk0, by decide, t_313, rfl, rfl, fun _ => rfl⟩
theorem fX0_37 : gF RX0 37 0 6 (.array .int) true := ⟨RX0, TX0, 7, tyX0, gk0, by decide, t_314, rfl, rfl, fun _ => rfl⟩
theorem nX1_9 : gNw RX1 9 4 3 [.null, .int 0, .int 0] := ⟨RX4, TX4, tyX4, gk4, t_91, t_66, t_43, by decide +kernel, fun _ _ => rfl⟩
theorem fX1_17 : gF RX1 17 1 0 (.object "CardLink$Row") true := ⟨RX1, TX1, 9, tyX1, gk1, by decide, t_95, rfl, rfl, fun _ => rfl⟩
theorem fX1_22 : gF RX1 22 1 1 (.object "CardLink$Row") true := ⟨RX1, TX1, 9, tyX1, gk1, by decide, t_96, rfl, rfl, fun _ => rfl⟩
theorem fX1_25 : gF RX1 25 1 2 (.object "CardLink$Row") true := ⟨RX1, TX1, 9, tyX1, gk1, by decide, t_97, rfl, rfl, fun _ => rfl⟩
theorem fX1_28 : gF RX1 28 1 3 (.object "CardLink$Row") true := ⟨RX1, TX1, 9, tyX1, gk1, by decide, t_98, rfl, rfl, fun _ => rfl⟩
theorem fX1_31 : gF RX1 31 1 4 (.object "CardLink$Row") true := ⟨RX1, TX1, 9, tyX1, gk1, by decide, t_99, rfl, rfl, fun _ => rfl⟩
theorem fX1_34 : gF RX1 34 1 5 (.object "CardLink$Row") true := ⟨RX1, TX1, 9, tyX1, gk1, by decide, t_100, rfl, rfl, fun _ => rfl⟩
theorem fX1_37 : gF RX1 37 1 6 (.object "CardLink$Row") true := ⟨RX1, TX1, 9, tyX1, gk1, by decide, t_101, rfl, rfl, fun _ => rfl⟩
theorem fX1_40 : gF RX1 40 1 7 (.object "CardLink$Row") true := ⟨RX1, TX1, 9, tyX1, gk1, by decide, t_102, rfl, rfl, fun _ => rfl⟩
theorem fX1_43 : gF RX1 43 1 8 .int false := ⟨RX1, TX1, 9, tyX1, gk1, by decide, t_103, rfl, rfl, fun h => by cases h⟩
theorem nX2_9 : gNw RX2 9 5 15 [.int 0, .int 0, .int 0, .int 0, .int 0, .int 0, .int 0, .int 0, .null, .null, .null, .int 0, .int 0, .int 0, .int 0] := ⟨RX5, TX5, tyX5, gk5, t_129, t_130, t_47, by decide +kernel, fun _ _ => rfl⟩
theorem fX2_14 : gF RX2 14 2 0 (.object "CardLink$Side") true := ⟨RX2, TX2, 18, tyX2, gk2, by decide, t_237, rfl, rfl, fun _ => rfl⟩
theorem fX2_20 : gF RX2 20 2 1 (.object "CardLink$Side") true := ⟨RX2, TX2, 18, tyX2, gk2, by decide, t_239, rfl, rfl, fun _ => rfl⟩
theorem nX2_23 : gNw RX2 23 6 10 [.int 0, .int 0, .int 0, .null, .null, .null, .int 0, .int 0, .int 0, .int 0] := ⟨RX6, TX6, tyX6, gk6, t_194, t_195, t_48, by decide +kernel, fun _ _ => rfl⟩
theorem fX2_26 : gF RX2 26 2 2 (.object "CardLink$Wire") true := ⟨RX2, TX2, 18, tyX2, gk2, by decide, t_241, rfl, rfl, fun _ => rfl⟩
theorem fX2_30 : gF RX2 30 2 3 .int false := ⟨RX2, TX2, 18, tyX2, gk2, by decide, t_243, rfl, rfl, fun h => by cases h⟩
theorem fX2_34 : gF RX2 34 2 4 .int false := ⟨RX2, TX2, 18, tyX2, gk2, by decide, t_245, rfl, rfl, fun h => by cases h⟩
theorem fX2_37 : gF RX2 37 2 5 .int false := ⟨RX2, TX2, 18, tyX2, gk2, by decide, t_247, rfl, rfl, fun h => by cases h⟩
theorem fX2_40 : gF RX2 40 2 6 .int false := ⟨RX2, TX2, 18, tyX2, gk2, by decide, t_249, rfl, rfl, fun h => by cases h⟩
theorem fX2_43 : gF RX2 43 2 7 .int false := ⟨RX2, TX2, 18, tyX2, gk2, by decide, t_251, rfl, rfl, fun h => by cases h⟩
theorem nX2_46 : gNw RX2 46 4 3 [.null, .int 0, .int 0] := ⟨RX4, TX4, tyX4, gk4, t_235, t_66, t_43, by decide +kernel, fun _ _ => rfl⟩
theorem fX2_51 : gF RX2 51 2 8 (.object "CardLink$Row") true := ⟨RX2, TX2, 18, tyX2, gk2, by decide, t_253, rfl, rfl, fun _ => rfl⟩
theorem fX2_55 : gF RX2 55 2 9 (.object "CardLink$Row") true := ⟨RX2, TX2, 18, tyX2, gk2, by decide, t_254, rfl, rfl, fun _ => rfl⟩
theorem fX2_58 : gF RX2 58 2 11 .int false := ⟨RX2, TX2, 18, tyX2, gk2, by decide, t_256, rfl, rfl, fun h => by cases h⟩
theorem fX2_61 : gF RX2 61 2 12 .boolean false := ⟨RX2, TX2, 18, tyX2, gk2, by decide, t_257, rfl, rfl, fun h => by cases h⟩
theorem fX2_65 : gF RX2 65 2 13 .int false := ⟨RX2, TX2, 18, tyX2, gk2, by decide, t_258, rfl, rfl, fun h => by cases h⟩
theorem fX2_68 : gF RX2 68 2 14 .boolean false := ⟨RX2, TX2, 18, tyX2, gk2, by decide, t_259, rfl, rfl, fun h => by cases h⟩
theorem fX2_71 : gF RX2 71 2 15 .boolean false := ⟨RX2, TX2, 18, tyX2, gk2, by decide, t_260, rfl, rfl, fun h => by cases h⟩
theorem fX2_74 : gF RX2 74 2 16 .int false := ⟨RX2, TX2, 18, tyX2, gk2, by decide, t_261, rfl, rfl, fun h => by cases h⟩
theorem fX2_77 : gF RX2 77 2 17 .int false := ⟨RX2, TX2, 18, tyX2, gk2, by decide, t_262, rfl, rfl, fun h => by cases h⟩
theorem fX2_80 : gF RX2 80 2 10 (.object "CardLink$Journal") true := ⟨RX2, TX2, 18, tyX2, gk2, by decide, t_255, rfl, rfl, fun _ => rfl⟩
theorem fX2_102 : ∃ (RC : String) (T : u_T) (N : Nat) (tf : Nat → FieldType), gK 5 RC T N tf ∧ 8 < N ∧ Cond.fieldLink RX2 102 (T 8).1 (T 8).2.1 (T 8).2.2.1 ∈ gW := ⟨RX5, TX5, 15, tyX5, gk5, by decide, t_154⟩
theorem fX2_105 : gF RX2 105 5 4 .int false := ⟨RX5, TX5, 15, tyX5, gk5, by decide, t_146, rfl, rfl, fun h => by cases h⟩
theorem fX2_115 : gF RX2 115 5 3 .int false := ⟨RX5, TX5, 15, tyX5, gk5, by decide, t_144, rfl, rfl, fun h => by cases h⟩
theorem fX2_149 : gF RX2 149 5 5 .int false := ⟨RX5, TX5, 15, tyX5, gk5, by decide, t_148, rfl, rfl, fun h => by cases h⟩
theorem fX2_194 : gF RX2 194 5 6 .int false := ⟨RX5, TX5, 15, tyX5, gk5, by decide, t_150, rfl, rfl, fun h => by cases h⟩
theorem fX2_204 : gF RX2 204 5 2 .int false := ⟨RX5, TX5, 15, tyX5, gk5, by decide, t_142, rfl, rfl, fun h => by cases h⟩
theorem fX2_226 : gF RX2 226 5 1 .int false := ⟨RX5, TX5, 15, tyX5, gk5, by decide, t_140, rfl, rfl, fun h => by cases h⟩
theorem fX2_235 : ∃ (RC : String) (T : u_T) (N : Nat) (tf : Nat → FieldType), gK 5 RC T N tf ∧ 9 < N ∧ Cond.fieldLink RX2 235 (T 9).1 (T 9).2.1 (T 9).2.2.1 ∈ gW := ⟨RX5, TX5, 15, tyX5, gk5, by decide, t_157⟩
theorem fX2_257 : gF RX2 257 6 1 .int false := ⟨RX6, TX6, 10, tyX6, gk6, by decide, t_204, rfl, rfl, fun h => by cases h⟩
theorem fX2_267 : ∃ (RC : String) (T : u_T) (N : Nat) (tf : Nat → FieldType), gK 5 RC T N tf ∧ 0 < N ∧ Cond.fieldLink RX2 267 (T 0).1 (T 0).2.1 (T 0).2.2.1 ∈ gW := ⟨RX5, TX5, 15, tyX5, gk5, by decide, t_138⟩
theorem nX3_9 : gNw RX3 9 4 3 [.null, .int 0, .int 0] := ⟨RX4, TX4, tyX4, gk4, t_336, t_66, t_43, by decide +kernel, fun _ _ => rfl⟩
theorem fX3_14 : gF RX3 14 3 7 (.object "CardLink$Row") true := ⟨RX3, TX3, 11, tyX3, gk3, by decide, t_345, rfl, rfl, fun _ => rfl⟩
theorem fX3_38 : gF RX3 38 3 1 .int false := ⟨RX3, TX3, 11, tyX3, gk3, by decide, t_339, rfl, rfl, fun h => by cases h⟩
theorem fX3_42 : gF RX3 42 3 2 .int false := ⟨RX3, TX3, 11, tyX3, gk3, by decide, t_340, rfl, rfl, fun h => by cases h⟩
theorem fX3_45 : gF RX3 45 3 3 .int false := ⟨RX3, TX3, 11, tyX3, gk3, by decide, t_341, rfl, rfl, fun h => by cases h⟩
theorem fX3_48 : gF RX3 48 3 4 .int false := ⟨RX3, TX3, 11, tyX3, gk3, by decide, t_342, rfl, rfl, fun h => by cases h⟩
theorem fX3_51 : gF RX3 51 3 5 .int false := ⟨RX3, TX3, 11, tyX3, gk3, by decide, t_343, rfl, rfl, fun h => by cases h⟩
theorem fX3_54 : gF RX3 54 3 6 .boolean false := ⟨RX3, TX3, 11, tyX3, gk3, by decide, t_344, rfl, rfl, fun h => by cases h⟩
theorem fX3_62 : gF RX3 62 3 10 .int false := ⟨RX3, TX3, 11, tyX3, gk3, by decide, t_348, rfl, rfl, fun h => by cases h⟩
theorem fX3_73 : gF RX3 73 3 0 .int false := ⟨RX3, TX3, 11, tyX3, gk3, by decide, t_338, rfl, rfl, fun h => by cases h⟩
theorem fX3_76 : gF RX3 76 3 9 .int false := ⟨RX3, TX3, 11, tyX3, gk3, by decide, t_347, rfl, rfl, fun h => by cases h⟩
theorem fX3_79 : gF RX3 79 3 8 .int false := ⟨RX3, TX3, 11, tyX3, gk3, by decide, t_346, rfl, rfl, fun h => by cases h⟩
theorem fX4_7 : gF RX4 7 4 1 .int false := ⟨RX4, TX4, 3, tyX4, gk4, by decide, t_75, rfl, rfl, fun h => by cases h⟩
theorem fX4_19 : gF RX4 19 4 0 (.array .int) false := ⟨RX4, TX4, 3, tyX4, gk4, by decide, t_74, rfl, rfl, fun h => by cases h⟩
theorem fX4_23 : gF RX4 23 4 2 .int true := ⟨RX4, TX4, 3, tyX4, gk4, by decide, t_76, rfl, rfl, fun _ => rfl⟩
theorem fX5_9 : gF RX5 9 5 1 .int false := ⟨RX5, TX5, 15, tyX5, gk5, by decide, t_139, rfl, rfl, fun h => by cases h⟩
theorem fX5_15 : gF RX5 15 5 2 .int false := ⟨RX5, TX5, 15, tyX5, gk5, by decide, t_141, rfl, rfl, fun h => by cases h⟩
theorem fX5_18 : gF RX5 18 5 3 .int false := ⟨RX5, TX5, 15, tyX5, gk5, by decide, t_143, rfl, rfl, fun h => by cases h⟩
theorem fX5_21 : gF RX5 21 5 4 .int false := ⟨RX5, TX5, 15, tyX5, gk5, by decide, t_145, rfl, rfl, fun h => by cases h⟩
theorem fX5_24 : gF RX5 24 5 5 .int false := ⟨RX5, TX5, 15, tyX5, gk5, by decide, t_147, rfl, rfl, fun h => by cases h⟩
theorem fX5_27 : gF RX5 27 5 6 .int false := ⟨RX5, TX5, 15, tyX5, gk5, by decide, t_149, rfl, rfl, fun h => by cases h⟩
theorem fX5_30 : gF RX5 30 5 7 .int false := ⟨RX5, TX5, 15, tyX5, gk5, by decide, t_151, rfl, rfl, fun h => by cases h⟩
theorem nX5_33 : gNw RX5 33 4 3 [.null, .int 0, .int 0] := ⟨RX4, TX4, tyX4, gk4, t_135, t_66, t_43, by decide +kernel, fun _ _ => rfl⟩
theorem fX5_38 : gF RX5 38 5 8 (.object "CardLink$Row") true := ⟨RX5, TX5, 15, tyX5, gk5, by decide, t_153, rfl, rfl, fun _ => rfl⟩
theorem fX5_42 : gF RX5 42 5 9 (.object "CardLink$Row") true := ⟨RX5, TX5, 15, tyX5, gk5, by decide, t_155, rfl, rfl, fun _ => rfl⟩
theorem fX5_45 : gF RX5 45 5 10 (.object "CardLink$Row") true := ⟨RX5, TX5, 15, tyX5, gk5, by decide, t_158, rfl, rfl, fun _ => rfl⟩
theorem fX5_48 : gF RX5 48 5 11 .int false := ⟨RX5, TX5, 15, tyX5, gk5, by decide, t_159, rfl, rfl, fun h => by cases h⟩
theorem fX5_51 : gF RX5 51 5 12 .boolean false := ⟨RX5, TX5, 15, tyX5, gk5, by decide, t_160, rfl, rfl, fun h => by cases h⟩
theorem fX5_55 : gF RX5 55 5 13 .int false := ⟨RX5, TX5, 15, tyX5, gk5, by decide, t_161, rfl, rfl, fun h => by cases h⟩
theorem fX5_58 : gF RX5 58 5 14 .int false := ⟨RX5, TX5, 15, tyX5, gk5, by decide, t_162, rfl, rfl, fun h => by cases h⟩
theorem fX5_61 : gF RX5 61 5 0 .int true := ⟨RX5, TX5, 15, tyX5, gk5, by decide, t_137, rfl, rfl, fun _ => rfl⟩
theorem fX6_9 : gF RX6 9 6 0 .int false := ⟨RX6, TX6, 10, tyX6, gk6, by decide, t_200, rfl, rfl, fun h => by cases h⟩
theorem fX6_15 : gF RX6 15 6 1 .int false := ⟨RX6, TX6, 10, tyX6, gk6, by decide, t_202, rfl, rfl, fun h => by cases h⟩
theorem fX6_18 : gF RX6 18 6 2 .int false := ⟨RX6, TX6, 10, tyX6, gk6, by decide, t_205, rfl, rfl, fun h => by cases h⟩
theorem fX6_21 : gF RX6 21 6 3 (.array .int) true := ⟨RX6, TX6, 10, tyX6, gk6, by decide, t_207, rfl, rfl, fun _ => rfl⟩
theorem fX6_25 : gF RX6 25 6 4 (.array .int) true := ⟨RX6, TX6, 10, tyX6, gk6, by decide, t_208, rfl, rfl, fun _ => rfl⟩
theorem fX6_28 : gF RX6 28 6 5 (.array .int) true := ⟨RX6, TX6, 10, tyX6, gk6, by decide, t_209, rfl, rfl, fun _ => rfl⟩
theorem fX6_31 : gF RX6 31 6 6 .int false := ⟨RX6, TX6, 10, tyX6, gk6, by decide, t_210, rfl, rfl, fun h => by cases h⟩
theorem fX6_34 : gF RX6 34 6 7 .int false := ⟨RX6, TX6, 10, tyX6, gk6, by decide, t_211, rfl, rfl, fun h => by cases h⟩
theorem fX6_37 : gF RX6 37 6 8 .int false := ⟨RX6, TX6, 10, tyX6, gk6, by decide, t_212, rfl, rfl, fun h => by cases h⟩
theorem fX6_40 : gF RX6 40 6 9 .int false := ⟨RX6, TX6, 10, tyX6, gk6, by decide, t_213, rfl, rfl, fun h => by cases h⟩
theorem nL_9 : gNw RL 9 7 7 [.null, .null, .null, .null, .null, .null, .int 0] := ⟨RX7, TX7, tyX7, gk7, t_57, t_58, t_42, by decide +kernel, fun _ _ => rfl⟩
theorem gyX0_init : gY yX0_init cX0_init 1 none 0 := ⟨t_49, t_304, by decide +kernel⟩
theorem giX0_init : gVi yX0_init := t_303
theorem gyX0_forget : gY yX0_forget cX0_forget 1 none 0 := ⟨t_49, t_511, by decide +kernel⟩
theorem gvX0_forget : gVv yX0_forget := ⟨t_509, t_510⟩
theorem gyX1_init : gY yX1_init cX1_init 1 none 0 := ⟨t_45, t_89, by decide +kernel⟩
theorem giX1_init : gVi yX1_init := t_88
theorem gyX1_forgetAll : gY yX1_forgetAll cX1_forgetAll 1 none 0 := ⟨t_45, t_484, by decide +kernel⟩
theorem gvX1_forgetAll : gVv yX1_forgetAll := ⟨t_482, t_483⟩
theorem gyX1_unlike : gY yX1_unlike cX1_unlike 1 (some .int) 0 := ⟨t_45, t_847, by decide +kernel⟩
theorem gvX1_unlike : gVv yX1_unlike := ⟨t_845, t_846⟩
theorem gyX1_kept : gY yX1_kept cX1_kept 1 (some .int) 0 := ⟨t_45, t_851, by decide +kernel⟩
theorem gvX1_kept : gVv yX1_kept := ⟨t_849, t_850⟩
theorem gyX1_note : gY yX1_note cX1_note 4 none 3 := ⟨t_45, t_799, by decide +kernel⟩
theorem gvX1_note : gVv yX1_note := ⟨t_797, t_798⟩
theorem gyX1_idOf : gY yX1_idOf cX1_idOf 6 (some .int) 2 := ⟨t_45, t_777, by decide +kernel⟩
theorem gvX1_idOf : gVv yX1_idOf := ⟨t_775, t_776⟩
theorem gyX1_chainOf : gY yX1_chainOf cX1_chainOf 4 (some .int) 2 := ⟨t_45, t_782, by decide +kernel⟩
theorem gyX1_isBlock : gY yX1_isBlock cX1_isBlock 6 (some .boolean) 3 := ⟨t_45, t_787, by decide +kernel⟩
theorem gvX1_isBlock : gVv yX1_isBlock := ⟨t_786, t_29⟩
theorem gyX1_addUnlike : gY yX1_addUnlike cX1_addUnlike 6 (some .int) 3 := ⟨t_45, t_791, by decide +kernel⟩
theorem gvX1_addUnlike : gVv yX1_addUnlike := ⟨t_790, t_30⟩
theorem gyX1_placeOf : gY yX1_placeOf cX1_placeOf 3 (some .int) 1 := ⟨t_45, t_907, by decide +kernel⟩
theorem gvX1_placeOf : gVv yX1_placeOf := ⟨t_906, t_39⟩
theorem gyX1_tell : gY yX1_tell cX1_tell 6 (some .int) 2 := ⟨t_45, t_976, by decide +kernel⟩
theorem gvX1_tell : gVv yX1_tell := ⟨t_974, t_975⟩
theorem gyX1_byteAt : gY yX1_byteAt cX1_byteAt 4 (some .int) 2 := ⟨t_45, t_903, by decide +kernel⟩
theorem gvX1_byteAt : gVv yX1_byteAt := ⟨t_901, t_902⟩
theorem gyX2_init : gY yX2_init cX2_init 2 none 1 := ⟨t_46, t_127, by decide +kernel⟩
theorem giX2_init : gVi yX2_init := t_126
theorem gyX2_restart : gY yX2_restart cX2_restart 2 none 1 := ⟨t_46, t_493, by decide +kernel⟩
theorem gvX2_restart : gVv yX2_restart := ⟨t_491, t_492⟩
theorem gyX2_startMessage : gY yX2_startMessage cX2_startMessage 2 none 1 := ⟨t_46, t_547, by decide +kernel⟩
theorem gvX2_startMessage : gVv yX2_startMessage := ⟨t_545, t_546⟩
theorem gyX2_startRoom : gY yX2_startRoom cX2_startRoom 2 none 1 := ⟨t_46, t_569, by decide +kernel⟩
theorem gvX2_startRoom : gVv yX2_startRoom := ⟨t_567, t_568⟩
theorem gyX2_begin : gY yX2_begin cX2_begin 2 none 1 := ⟨t_46, t_556, by decide +kernel⟩
theorem gvX2_begin : gVv yX2_begin := ⟨t_555, t_9⟩
theorem gyX2_blocksAhead : gY yX2_blocksAhead cX2_blocksAhead 4 (some .int) 0 := ⟨t_46, t_560, by decide +kernel⟩
theorem gvX2_blocksAhead : gVv yX2_blocksAhead := ⟨t_558, t_559⟩
theorem gyX2_blocksSent : gY yX2_blocksSent cX2_blocksSent 1 (some .int) 0 := ⟨t_46, t_610, by decide +kernel⟩
theorem gvX2_blocksSent : gVv yX2_blocksSent := ⟨t_608, t_609⟩
theorem gyX2_run : gY yX2_run cX2_run 4 (some .int) 1 := ⟨t_46, t_606, by decide +kernel⟩
theorem gvX2_run : gVv yX2_run := ⟨t_604, t_605⟩
theorem gyX2_turn : gY yX2_turn cX2_turn 2 none 0 := ⟨t_46, t_618, by decide +kernel⟩
theorem gvX2_turn : gVv yX2_turn := ⟨t_616, t_617⟩
theorem gyX2_firstKind : gY yX2_firstKind cX2_firstKind 1 (some .int) 0 := ⟨t_46, t_622, by decide +kernel⟩
theorem gvX2_firstKind : gVv yX2_firstKind := ⟨t_621, t_12⟩
theorem gyX2_countTries : gY yX2_countTries cX2_countTries 2 (some .int) 1 := ⟨t_46, t_714, by decide +kernel⟩
theorem gvX2_countTries : gVv yX2_countTries := ⟨t_713, t_22⟩
theorem gyX2_readerKind : gY yX2_readerKind cX2_readerKind 2 (some .int) 0 := ⟨t_46, t_634, by decide +kernel⟩
theorem gvX2_readerKind : gVv yX2_readerKind := ⟨t_633, t_13⟩
theorem gyX2_cardKind : gY yX2_cardKind cX2_cardKind 2 (some .int) 0 := ⟨t_46, t_803, by decide +kernel⟩
theorem gvX2_cardKind : gVv yX2_cardKind := ⟨t_802, t_31⟩
theorem gyX2_onBroken : gY yX2_onBroken cX2_onBroken 2 (some .int) 1 := ⟨t_46, t_638, by decide +kernel⟩
theorem gvX2_onBroken : gVv yX2_onBroken := ⟨t_637, t_14⟩
theorem gyX2_refuse : gY yX2_refuse cX2_refuse 2 (some .int) 1 := ⟨t_46, t_673, by decide +kernel⟩
theorem gvX2_refuse : gVv yX2_refuse := ⟨t_672, t_19⟩
theorem gyX2_isAnswerTo : gY yX2_isAnswerTo cX2_isAnswerTo 2 (some .boolean) 1 := ⟨t_46, t_652, by decide +kernel⟩
theorem gvX2_isAnswerTo : gVv yX2_isAnswerTo := ⟨t_651, t_16⟩
theorem gyX2_readerOnAnswer : gY yX2_readerOnAnswer cX2_readerOnAnswer 2 (some .int) 0 := ⟨t_46, t_648, by decide +kernel⟩
theorem gvX2_readerOnAnswer : gVv yX2_readerOnAnswer := ⟨t_647, t_15⟩
theorem gyX2_finish : gY yX2_finish cX2_finish 2 (some .int) 1 := ⟨t_46, t_657, by decide +kernel⟩
theorem gvX2_finish : gVv yX2_finish := ⟨t_656, t_17⟩
theorem gyX2_cardOnAnswer : gY yX2_cardOnAnswer cX2_cardOnAnswer 2 (some .int) 0 := ⟨t_46, t_811, by decide +kernel⟩
theorem gvX2_cardOnAnswer : gVv yX2_cardOnAnswer := ⟨t_810, t_33⟩
theorem gyX2_onI : gY yX2_onI cX2_onI 3 (some .int) 2 := ⟨t_46, t_677, by decide +kernel⟩
theorem gvX2_onI : gVv yX2_onI := ⟨t_676, t_20⟩
theorem gyX2_onReceipt : gY yX2_onReceipt cX2_onReceipt 4 (some .int) 2 := ⟨t_46, t_702, by decide +kernel⟩
theorem gvX2_onReceipt : gVv yX2_onReceipt := ⟨t_701, t_21⟩
theorem gyX2_onRequest : gY yX2_onRequest cX2_onRequest 5 (some .int) 3 := ⟨t_46, t_661, by decide +kernel⟩
theorem gvX2_onRequest : gVv yX2_onRequest := ⟨t_660, t_18⟩
theorem gyX2_doMessage : gY yX2_doMessage cX2_doMessage 3 (some .int) 0 := ⟨t_46, t_819, by decide +kernel⟩
theorem gvX2_doMessage : gVv yX2_doMessage := ⟨t_818, t_35⟩
theorem gyX2_putCounting : gY yX2_putCounting cX2_putCounting 3 (some .int) 1 := ⟨t_46, t_823, by decide +kernel⟩
theorem gvX2_putCounting : gVv yX2_putCounting := ⟨t_822, t_36⟩
theorem gyX2_putBehindThird : gY yX2_putBehindThird cX2_putBehindThird 2 (some .int) 0 := ⟨t_46, t_815, by decide +kernel⟩
theorem gvX2_putBehindThird : gVv yX2_putBehindThird := ⟨t_814, t_34⟩
theorem gyX2_putFirstByte : gY yX2_putFirstByte cX2_putFirstByte 1 (some .int) 0 := ⟨t_46, t_807, by decide +kernel⟩
theorem gvX2_putFirstByte : gVv yX2_putFirstByte := ⟨t_806, t_32⟩
theorem gyX2_kindToSend : gY yX2_kindToSend cX2_kindToSend 3 (some .int) 3 := ⟨t_46, t_721, by decide +kernel⟩
theorem gyX2_send : gY yX2_send cX2_send 7 none 3 := ⟨t_46, t_718, by decide +kernel⟩
theorem gvX2_send : gVv yX2_send := ⟨t_717, t_23⟩
theorem gyX2_compose : gY yX2_compose cX2_compose 5 none 2 := ⟨t_46, t_732, by decide +kernel⟩
theorem gvX2_compose : gVv yX2_compose := ⟨t_731, t_24⟩
theorem gyX2_hasInf : gY yX2_hasInf cX2_hasInf 1 (some .boolean) 1 := ⟨t_46, t_740, by decide +kernel⟩
theorem gyX2_judge : gY yX2_judge cX2_judge 3 (some .int) 2 := ⟨t_46, t_769, by decide +kernel⟩
theorem gvX2_judge : gVv yX2_judge := ⟨t_768, t_27⟩
theorem gyX2_isWellFormed : gY yX2_isWellFormed cX2_isWellFormed 4 (some .boolean) 3 := ⟨t_46, t_773, by decide +kernel⟩
theorem gvX2_isWellFormed : gVv yX2_isWellFormed := ⟨t_772, t_28⟩
theorem gyX3_init : gY yX3_init cX3_init 1 none 0 := ⟨t_50, t_334, by decide +kernel⟩
theorem giX3_init : gVi yX3_init := t_333
theorem gyX3_read : gY yX3_read cX3_read 3 (some .int) 1 := ⟨t_50, t_401, by decide +kernel⟩
theorem gvX3_read : gVv yX3_read := ⟨t_399, t_400⟩
theorem gyX3_clear : gY yX3_clear cX3_clear 1 none 0 := ⟨t_50, t_405, by decide +kernel⟩
theorem gvX3_clear : gVv yX3_clear := ⟨t_404, t_0⟩
theorem gyX3_faultAt : gY yX3_faultAt cX3_faultAt 2 (some .int) 2 := ⟨t_50, t_423, by decide +kernel⟩
theorem gyX3_readHead : gY yX3_readHead cX3_readHead 2 (some .int) 1 := ⟨t_50, t_416, by decide +kernel⟩
theorem gvX3_readHead : gVv yX3_readHead := ⟨t_415, t_1⟩
theorem gyX3_readGroups : gY yX3_readGroups cX3_readGroups 6 (some .int) 1 := ⟨t_50, t_431, by decide +kernel⟩
theorem gvX3_readGroups : gVv yX3_readGroups := ⟨t_430, t_2⟩
theorem gyX3_readGroupByte : gY yX3_readGroupByte cX3_readGroupByte 4 (some .int) 3 := ⟨t_50, t_435, by decide +kernel⟩
theorem gvX3_readGroupByte : gVv yX3_readGroupByte := ⟨t_434, t_3⟩
theorem gyX3_readFirstGroup : gY yX3_readFirstGroup cX3_readFirstGroup 3 (some .int) 2 := ⟨t_50, t_443, by decide +kernel⟩
theorem gvX3_readFirstGroup : gVv yX3_readFirstGroup := ⟨t_442, t_5⟩
theorem gyX3_readLinkGroup : gY yX3_readLinkGroup cX3_readLinkGroup 3 (some .int) 2 := ⟨t_50, t_457, by decide +kernel⟩
theorem gvX3_readLinkGroup : gVv yX3_readLinkGroup := ⟨t_456, t_6⟩
theorem gyX3_readTd : gY yX3_readTd cX3_readTd 4 (some .int) 2 := ⟨t_50, t_439, by decide +kernel⟩
theorem gvX3_readTd : gVv yX3_readTd := ⟨t_438, t_4⟩
theorem gyX3_readTail : gY yX3_readTail cX3_readTail 5 (some .int) 2 := ⟨t_50, t_461, by decide +kernel⟩
theorem gvX3_readTail : gVv yX3_readTail := ⟨t_460, t_7⟩
theorem gyX3_clockOf : gY yX3_clockOf cX3_clockOf 2 (some .int) 1 := ⟨t_50, t_446, by decide +kernel⟩
theorem gyX3_divisorOf : gY yX3_divisorOf cX3_divisorOf 2 (some .int) 1 := ⟨t_50, t_451, by decide +kernel⟩
theorem gyX3_cardRoom : gY yX3_cardRoom cX3_cardRoom 1 (some .int) 0 := ⟨t_50, t_489, by decide +kernel⟩
theorem gvX3_cardRoom : gVv yX3_cardRoom := ⟨t_487, t_488⟩
theorem gyX3_historicalBytes : gY yX3_historicalBytes cX3_historicalBytes 1 (some .int) 0 := ⟨t_50, t_518, by decide +kernel⟩
theorem gvX3_historicalBytes : gVv yX3_historicalBytes := ⟨t_516, t_517⟩
theorem gyX3_historicalByte : gY yX3_historicalByte cX3_historicalByte 2 (some .int) 1 := ⟨t_50, t_534, by decide +kernel⟩
theorem gvX3_historicalByte : gVv yX3_historicalByte := ⟨t_532, t_533⟩
theorem gyX3_tell : gY yX3_tell cX3_tell 2 (some .int) 1 := ⟨t_50, t_526, by decide +kernel⟩
theorem gvX3_tell : gVv yX3_tell := ⟨t_524, t_525⟩
theorem gyX4_init : gY yX4_init cX4_init 3 none 2 := ⟨t_43, t_69, by decide +kernel⟩
theorem giX4_init : gVi yX4_init := t_68
theorem gyX4_size : gY yX4_size cX4_size 1 (some .int) 0 := ⟨t_43, t_420, by decide +kernel⟩
theorem gvX4_size : gVv yX4_size := ⟨t_418, t_419⟩
theorem gyX4_at : gY yX4_at cX4_at 2 (some .int) 1 := ⟨t_43, t_427, by decide +kernel⟩
theorem gvX4_at : gVv yX4_at := ⟨t_425, t_426⟩
theorem gyX4_put : gY yX4_put cX4_put 3 none 2 := ⟨t_43, t_795, by decide +kernel⟩
theorem gvX4_put : gVv yX4_put := ⟨t_793, t_794⟩
theorem gyX4_add : gY yX4_add cX4_add 2 none 1 := ⟨t_43, t_465, by decide +kernel⟩
theorem gvX4_add : gVv yX4_add := ⟨t_463, t_464⟩
theorem gyX4_keep : gY yX4_keep cX4_keep 2 none 1 := ⟨t_43, t_409, by decide +kernel⟩
theorem gvX4_keep : gVv yX4_keep := ⟨t_407, t_408⟩
theorem gyX4_copy : gY yX4_copy cX4_copy 3 none 1 := ⟨t_43, t_551, by decide +kernel⟩
theorem gvX4_copy : gVv yX4_copy := ⟨t_549, t_550⟩
theorem gyX4_xor : gY yX4_xor cX4_xor 4 (some .int) 1 := ⟨t_43, t_744, by decide +kernel⟩
theorem gvX4_xor : gVv yX4_xor := ⟨t_742, t_743⟩
theorem gyX5_init : gY yX5_init cX5_init 2 none 1 := ⟨t_47, t_133, by decide +kernel⟩
theorem giX5_init : gVi yX5_init := t_132
theorem gyX5_restart : gY yX5_restart cX5_restart 2 none 1 := ⟨t_47, t_497, by decide +kernel⟩
theorem gvX5_restart : gVv yX5_restart := ⟨t_495, t_496⟩
theorem gyX5_emptyAll : gY yX5_emptyAll cX5_emptyAll 1 none 0 := ⟨t_47, t_501, by decide +kernel⟩
theorem gvX5_emptyAll : gVv yX5_emptyAll := ⟨t_499, t_500⟩
theorem gyX5_breakOff : gY yX5_breakOff cX5_breakOff 1 none 0 := ⟨t_47, t_665, by decide +kernel⟩
theorem gvX5_breakOff : gVv yX5_breakOff := ⟨t_663, t_664⟩
theorem gyX5_cutNext : gY yX5_cutNext cX5_cutNext 3 (some .int) 1 := ⟨t_47, t_725, by decide +kernel⟩
theorem gvX5_cutNext : gVv yX5_cutNext := ⟨t_723, t_724⟩
theorem gyX5_pendingKind : gY yX5_pendingKind cX5_pendingKind 1 (some .int) 0 := ⟨t_47, t_710, by decide +kernel⟩
theorem gvX5_pendingKind : gVv yX5_pendingKind := ⟨t_708, t_709⟩
theorem gyX5_pendingSize : gY yX5_pendingSize cX5_pendingSize 1 (some .int) 0 := ⟨t_47, t_737, by decide +kernel⟩
theorem gvX5_pendingSize : gVv yX5_pendingSize := ⟨t_735, t_736⟩
theorem gyX5_hasPending : gY yX5_hasPending cX5_hasPending 1 (some .boolean) 0 := ⟨t_47, t_706, by decide +kernel⟩
theorem gvX5_hasPending : gVv yX5_hasPending := ⟨t_704, t_705⟩
theorem gyX5_pendingHasMore : gY yX5_pendingHasMore cX5_pendingHasMore 1 (some .boolean) 0 := ⟨t_47, t_681, by decide +kernel⟩
theorem gvX5_pendingHasMore : gVv yX5_pendingHasMore := ⟨t_679, t_680⟩
theorem gyX5_passPending : gY yX5_passPending cX5_passPending 1 none 0 := ⟨t_47, t_669, by decide +kernel⟩
theorem gvX5_passPending : gVv yX5_passPending := ⟨t_667, t_668⟩
theorem gyX5_takeInf : gY yX5_takeInf cX5_takeInf 3 none 1 := ⟨t_47, t_686, by decide +kernel⟩
theorem gvX5_takeInf : gVv yX5_takeInf := ⟨t_684, t_685⟩
theorem gyX5_takeWhole : gY yX5_takeWhole cX5_takeWhole 1 none 0 := ⟨t_47, t_693, by decide +kernel⟩
theorem gvX5_takeWhole : gVv yX5_takeWhole := ⟨t_691, t_692⟩
theorem gyX5_takeEmpty : gY yX5_takeEmpty cX5_takeEmpty 1 none 0 := ⟨t_47, t_698, by decide +kernel⟩
theorem gvX5_takeEmpty : gVv yX5_takeEmpty := ⟨t_696, t_697⟩
theorem gyX5_requestKind : gY yX5_requestKind cX5_requestKind 1 (some .int) 0 := ⟨t_47, t_630, by decide +kernel⟩
theorem gvX5_requestKind : gVv yX5_requestKind := ⟨t_628, t_629⟩
theorem gyX5_ask : gY yX5_ask cX5_ask 3 (some .int) 2 := ⟨t_47, t_626, by decide +kernel⟩
theorem gvX5_ask : gVv yX5_ask := ⟨t_624, t_625⟩
theorem gyX5_receipt : gY yX5_receipt cX5_receipt 2 (some .int) 1 := ⟨t_47, t_643, by decide +kernel⟩
theorem gvX5_receipt : gVv yX5_receipt := ⟨t_641, t_642⟩
theorem gyX5_noteSent : gY yX5_noteSent cX5_noteSent 2 none 1 := ⟨t_47, t_749, by decide +kernel⟩
theorem gvX5_noteSent : gVv yX5_noteSent := ⟨t_747, t_748⟩
theorem gyX5_blocksSent : gY yX5_blocksSent cX5_blocksSent 1 (some .int) 0 := ⟨t_47, t_614, by decide +kernel⟩
theorem gvX5_blocksSent : gVv yX5_blocksSent := ⟨t_612, t_613⟩
theorem gyX5_tell : gY yX5_tell cX5_tell 2 (some .int) 1 := ⟨t_47, t_839, by decide +kernel⟩
theorem gvX5_tell : gVv yX5_tell := ⟨t_837, t_838⟩
theorem gyX6_init : gY yX6_init cX6_init 1 none 0 := ⟨t_48, t_198, by decide +kernel⟩
theorem giX6_init : gVi yX6_init := t_197
theorem gyX6_restart : gY yX6_restart cX6_restart 1 none 0 := ⟨t_48, t_506, by decide +kernel⟩
theorem gvX6_restart : gVv yX6_restart := ⟨t_504, t_505⟩
theorem gyX6_faults : gY yX6_faults cX6_faults 1 (some .int) 0 := ⟨t_48, t_590, by decide +kernel⟩
theorem gvX6_faults : gVv yX6_faults := ⟨t_588, t_589⟩
theorem gyX6_isFull : gY yX6_isFull cX6_isFull 1 (some .boolean) 0 := ⟨t_48, t_577, by decide +kernel⟩
theorem gvX6_isFull : gVv yX6_isFull := ⟨t_575, t_576⟩
theorem gyX6_addFault : gY yX6_addFault cX6_addFault 6 none 3 := ⟨t_48, t_581, by decide +kernel⟩
theorem gvX6_addFault : gVv yX6_addFault := ⟨t_579, t_580⟩
theorem gyX6_makePlace : gY yX6_makePlace cX6_makePlace 3 none 1 := ⟨t_48, t_585, by decide +kernel⟩
theorem gvX6_makePlace : gVv yX6_makePlace := ⟨t_584, t_10⟩
theorem gyX6_dropNearest : gY yX6_dropNearest cX6_dropNearest 2 none 0 := ⟨t_48, t_763, by decide +kernel⟩
theorem gvX6_dropNearest : gVv yX6_dropNearest := ⟨t_762, t_26⟩
theorem gyX6_sendLetter : gY yX6_sendLetter cX6_sendLetter 2 (some .int) 0 := ⟨t_48, t_759, by decide +kernel⟩
theorem gvX6_sendLetter : gVv yX6_sendLetter := ⟨t_758, t_25⟩
theorem gyX6_carry : gY yX6_carry cX6_carry 7 (some .int) 2 := ⟨t_48, t_753, by decide +kernel⟩
theorem gvX6_carry : gVv yX6_carry := ⟨t_751, t_752⟩
theorem gyX7_init : gY yX7_init cX7_init 1 none 0 := ⟨t_42, t_61, by decide +kernel⟩
theorem giX7_init : gVi yX7_init := t_60
theorem gyX7_feed : gY yX7_feed cX7_feed 5 (some .int) 2 := ⟨t_42, t_862, by decide +kernel⟩
theorem gvX7_feed : gVv yX7_feed := ⟨t_860, t_861⟩
theorem gyX7_feedEight : gY yX7_feedEight cX7_feedEight 4 none 1 := ⟨t_42, t_866, by decide +kernel⟩
theorem gvX7_feedEight : gVv yX7_feedEight := ⟨t_865, t_38⟩
theorem gyX7_end : gY yX7_end cX7_end 2 (some .int) 1 := ⟨t_42, t_871, by decide +kernel⟩
theorem gvX7_end : gVv yX7_end := ⟨t_869, t_870⟩
theorem gyX7_reset : gY yX7_reset cX7_reset 3 (some .int) 0 := ⟨t_42, t_397, by decide +kernel⟩
theorem gvX7_reset : gVv yX7_reset := ⟨t_395, t_396⟩
theorem gyX7_answer : gY yX7_answer cX7_answer 2 (some .int) 1 := ⟨t_42, t_522, by decide +kernel⟩
theorem gvX7_answer : gVv yX7_answer := ⟨t_520, t_521⟩
theorem gyX7_historical : gY yX7_historical cX7_historical 2 (some .int) 1 := ⟨t_42, t_530, by decide +kernel⟩
theorem gvX7_historical : gVv yX7_historical := ⟨t_528, t_529⟩
theorem gyX7_message : gY yX7_message cX7_message 2 (some .int) 0 := ⟨t_42, t_538, by decide +kernel⟩
theorem gvX7_message : gVv yX7_message := ⟨t_536, t_537⟩
theorem gyX7_room : gY yX7_room cX7_room 2 (some .int) 1 := ⟨t_42, t_565, by decide +kernel⟩
theorem gvX7_room : gVv yX7_room := ⟨t_563, t_564⟩
theorem gyX7_mayStart : gY yX7_mayStart cX7_mayStart 1 (some .boolean) 0 := ⟨t_42, t_542, by decide +kernel⟩
theorem gvX7_mayStart : gVv yX7_mayStart := ⟨t_541, t_8⟩
theorem gyX7_onWay : gY yX7_onWay cX7_onWay 1 (some .boolean) 0 := ⟨t_42, t_602, by decide +kernel⟩
theorem gvX7_onWay : gVv yX7_onWay := ⟨t_601, t_11⟩
theorem gyX7_fault : gY yX7_fault cX7_fault 5 (some .int) 3 := ⟨t_42, t_573, by decide +kernel⟩
theorem gvX7_fault : gVv yX7_fault := ⟨t_571, t_572⟩
theorem gyX7_repeats : gY yX7_repeats cX7_repeats 3 (some .int) 1 := ⟨t_42, t_594, by decide +kernel⟩
theorem gvX7_repeats : gVv yX7_repeats := ⟨t_592, t_593⟩
theorem gyX7_step : gY yX7_step cX7_step 2 (some .int) 1 := ⟨t_42, t_598, by decide +kernel⟩
theorem gvX7_step : gVv yX7_step := ⟨t_596, t_597⟩
theorem gyX7_state : gY yX7_state cX7_state 1 (some .int) 0 := ⟨t_42, t_827, by decide +kernel⟩
theorem gvX7_state : gVv yX7_state := ⟨t_825, t_826⟩
theorem gyX7_side : gY yX7_side cX7_side 3 (some .int) 2 := ⟨t_42, t_831, by decide +kernel⟩
theorem gvX7_side : gVv yX7_side := ⟨t_829, t_830⟩
theorem gyX7_sideOf : gY yX7_sideOf cX7_sideOf 2 (some (.object "CardLink$Side")) 1 := ⟨t_42, t_835, by decide +kernel⟩
theorem gvX7_sideOf : gVv yX7_sideOf := ⟨t_834, t_37⟩
theorem gyX7_got : gY yX7_got cX7_got 4 (some .int) 2 := ⟨t_42, t_891, by decide +kernel⟩
theorem gvX7_got : gVv yX7_got := ⟨t_889, t_890⟩
theorem gyX7_log : gY yX7_log cX7_log 3 (some .int) 2 := ⟨t_42, t_911, by decide +kernel⟩
theorem gvX7_log : gVv yX7_log := ⟨t_909, t_910⟩
theorem gyX7_byteOf : gY yX7_byteOf cX7_byteOf 3 (some .int) 2 := ⟨t_42, t_899, by decide +kernel⟩
theorem gvX7_byteOf : gVv yX7_byteOf := ⟨t_897, t_898⟩
theorem gyX7_count : gY yX7_count cX7_count 2 (some .int) 1 := ⟨t_42, t_843, by decide +kernel⟩
theorem gvX7_count : gVv yX7_count := ⟨t_841, t_842⟩
theorem gyJ9_max_7cf53 : gY yJ9_max_7cf53 cJ9_max_7cf53 2 (some .int) 2 := ⟨t_44, t_73, by decide +kernel⟩
theorem gyJ9_min_7cf53 : gY yJ9_min_7cf53 cJ9_min_7cf53 2 (some .int) 2 := ⟨t_44, t_412, by decide +kernel⟩
theorem gyJ7_fill_53178 : gY yJ7_fill_53178 cJ7_fill_53178 4 none 2 := ⟨t_52, t_514, by decide +kernel⟩
theorem gyJ7_copyOf_59c91 : gY yJ7_copyOf_59c91 cJ7_copyOf_59c91 3 (some (.array .int)) 2 := ⟨t_52, t_468, by decide +kernel⟩
theorem gyL_cell : gY yL_cell cL_cell 2 (some .int) 2 := ⟨t_41, t_854, by decide +kernel⟩
theorem gyL_types : gY yL_types cL_types 6 none 3 := ⟨t_41, t_858, by decide +kernel⟩
theorem gyL_answer : gY yL_answer cL_answer 3 (some (.array .int)) 1 := ⟨t_41, t_875, by decide +kernel⟩
theorem gyL_size : gY yL_size cL_size 2 (some .int) 2 := ⟨t_41, t_878, by decide +kernel⟩
theorem gyL_message : gY yL_message cL_message 5 (some (.array .int)) 3 := ⟨t_41, t_881, by decide +kernel⟩
theorem gyL_expected : gY yL_expected cL_expected 5 (some (.array .int)) 2 := ⟨t_41, t_884, by decide +kernel⟩
theorem gyL_isGot : gY yL_isGot cL_isGot 6 (some .boolean) 5 := ⟨t_41, t_887, by decide +kernel⟩
theorem gyL_sound : gY yL_sound cL_sound 6 (some .boolean) 1 := ⟨t_41, t_895, by decide +kernel⟩
end
section
/-! lists of cells; calls by the kind of what they answer -/
theorem gset_self {hp : List gA} {k : Nat} {e e0 : gA} (h : hp[k]? = some e0) : (hp.set k e)[k]? = some e := List.getElem?_set_self (List.getElem?_eq_some_iff.mp h).1
theorem gset_other {hp : List gA} {k j : Nat} {e : gA} {x : Option gA} (h : hp[j]? = x) (hne : k ≠ j) : (hp.set k e)[j]? = x := by rw [List.getElem?_set_ne hne]; exact h
theorem gapp_old {hp l : List gA} {k : Nat} {x : gA} (h : hp[k]? = some x) : (hp ++ l)[k]? = some x := by rw [List.getElem?_append_left (List.getElem?_eq_some_iff.mp h).1]; exact h
theorem gapp_new {hp l : List gA} {n j : Nat} {x : gA} (hn : hp.length = n) (h : l[j]? = some x) : (hp ++ l)[n + j]? = some x := by subst hn; rw [List.getElem?_append_right (by omega), Nat.add_sub_cancel_left]; exact h
theorem gapp_set {hp l : List gA} {n j : Nat} {x : gA} (hn : hp.length = n) : (hp ++ l).set (n + j) x = hp ++ l.set j x := by subst hn; rw [List.set_append_right _ _ (by omega), Nat.add_sub_cancel_left]
theorem gne {hp : List gA} {k j : Nat} {e1 e2 : gA} (h1 : hp[k]? = some e1) (h2 : hp[j]? = some e2) (hd : e1 ≠ e2) : k ≠ j := by intro h; subst h; rw [h1] at h2; exact hd (Option.some.inj h2)
theorem vp_in0 {i : Int32} {n : Nat} (h1 : 0 ≤ i.toInt) (h2 : i.toInt < n) : vp_in i n := vp_in_iff.mpr ⟨h1, h2⟩
section GU
variable {X : gX} {own nm : String} {cc : ByteArray} {nL : Nat} {rm : Room} {pc q : Nat} {ls : List (Option Value)} {st stk : List Value} {hp : List gA} {cl sl : Nat}
theorem g_getfieldW (C : gC X own nm cc nL rm) {ix ci j k : Nat} {fs : List Value} {v : Value} (F : ∃ (RC : String) (T : u_T) (N : Nat) (tf : Nat → FieldType), gK ci RC T N tf ∧ j < N ∧ Cond.fieldLink own ix (T j).1 (T j).2.1 (T j).2.2.1 ∈ gW) (hd : decode cc pc = .ok (.getfield ix, 3)) (hq : pc + 3 = q) (ho : hp[k]? = some (.inr (.inr (ci, fs)))) (hv : fs[j]? = some v) (kk : gG X q ls (v :: st) hp cl sl) : gG X pc ls (.ref k :: st) hp cl sl := by
  subst hq
  obtain ⟨RC, T, N, tf, K, hj, hlink⟩ := F
  intro arr H locs hl hh hS
  exact va_get C.1 C.2.1 (fun w hw => gC_hts C hw) K.2.1 C.2.2.2.1 (gC_K C) (gP1 (hh.2 k _ ho (gJ1 K.1))) 0 rfl K.1 j hj (gC_hts C hlink) (fun _ h9 => h9) (gv_V _ _ hv) hd (kk arr H locs hl hh hS)
/-- a put into a world whose last part is told -/
theorem g_putE (C : gC X own nm cc nL rm) {ix ci j k : Nat} {ty : FieldType} {fin : Bool} {fs fs' : List Value} {v : Value} {hp' : List gA} (F : gF own ix ci j ty fin) (hd : decode cc pc = .ok (.putfield ix, 3)) (hq : pc + 3 = q) (ho : hp[k]? = some (.inr (.inr (ci, fs)))) (hj2 : j < fs.length) (hfin : fin = false ∨ nm = "<init>") (h1 : narrow ty v = v) (h2 : fits ty v = true) (h3 : ∀ z, v ≠ .float z) (hf : fs.set j v = fs') (he : hp.set k (.inr (.inr (ci, fs'))) = hp') (kk : gG X q ls st hp' cl sl) : gG X pc ls (v :: .ref k :: st) hp cl sl := by
  subst hf; subst he; exact g_putfield C F hd hq ho hj2 hfin h1 h2 h3 kk
variable {y : MethodName} {bytes : ByteArray} {maxL n ix b fr lo mc ms : Nat} {ret : Option FieldType} {As : List Value}

theorem g_callVv {hp2 : List gA} (C : gC X own nm cc nL rm) (Y : gY y bytes maxL ret n) (V : gVv y) (hl0 : Cond.methodLink own ix y ∈ gW) (hM : gM y bytes maxL ret fr lo (.ref b :: As) hp mc ms (fun v h => v = none ∧ h = hp2)) (hd : decode cc pc = .ok (.invokevirtual ix, 3)) (hq : pc + 3 = q) {ci N : Nat} {T : u_T} {fs : List Value} (ho : hp[b]? = some (.inr (.inr (ci, fs)))) (hci : vwCl[ci]? = some (y.cls, T, N)) (hn : As.length = n) (hls : ls.length = nL) (hfr : fr + 1 ≤ rm.frames) (hlo : 8 + (maxL + 11) + lo ≤ rm.locals) (hw : (st.map fun v => v.category).sum ≤ 8) (hc : cl + mc ≤ rm.cells) (hs2 : sl + ms ≤ rm.slots) (hst : stk = As.reverse ++ .ref b :: st) (kk : gG X q ls st hp2 (cl + mc) (sl + ms)) : gG X pc ls stk hp cl sl :=
  g_callV C Y V hl0 hM hd hq ho hci hn hls hfr hlo hw hc hs2 hst fun v h z => by obtain ⟨rfl, rfl⟩ := z; exact kk
theorem g_callVvp {P : List gA → Prop} (C : gC X own nm cc nL rm) (Y : gY y bytes maxL ret n) (V : gVv y) (hl0 : Cond.methodLink own ix y ∈ gW) (hM : gM y bytes maxL ret fr lo (.ref b :: As) hp mc ms (fun v h => v = none ∧ P h)) (hd : decode cc pc = .ok (.invokevirtual ix, 3)) (hq : pc + 3 = q) {ci N : Nat} {T : u_T} {fs : List Value} (ho : hp[b]? = some (.inr (.inr (ci, fs)))) (hci : vwCl[ci]? = some (y.cls, T, N)) (hn : As.length = n) (hls : ls.length = nL) (hfr : fr + 1 ≤ rm.frames) (hlo : 8 + (maxL + 11) + lo ≤ rm.locals) (hw : (st.map fun v => v.category).sum ≤ 8) (hc : cl + mc ≤ rm.cells) (hs2 : sl + ms ≤ rm.slots) (hst : stk = As.reverse ++ .ref b :: st) (kk : ∀ hp2 : List gA, P hp2 → gG X q ls st hp2 (cl + mc) (sl + ms)) : gG X pc ls stk hp cl sl :=
  g_callV C Y V hl0 hM hd hq ho hci hn hls hfr hlo hw hc hs2 hst fun v h z => by obtain ⟨rfl, z⟩ := z; exact kk h z
theorem g_callVi {x : Int32} {hp2 : List gA} (C : gC X own nm cc nL rm) (Y : gY y bytes maxL ret n) (V : gVv y) (hl0 : Cond.methodLink own ix y ∈ gW) (hM : gM y bytes maxL ret fr lo (.ref b :: As) hp mc ms (fun v h => v = some (.int x) ∧ h = hp2)) (hd : decode cc pc = .ok (.invokevirtual ix, 3)) (hq : pc + 3 = q) {ci N : Nat} {T : u_T} {fs : List Value} (ho : hp[b]? = some (.inr (.inr (ci, fs)))) (hci : vwCl[ci]? = some (y.cls, T, N)) (hn : As.length = n) (hls : ls.length = nL) (hfr : fr + 1 ≤ rm.frames) (hlo : 8 + (maxL + 11) + lo ≤ rm.locals) (hw : (st.map fun v => v.category).sum ≤ 8) (hc : cl + mc ≤ rm.cells) (hs2 : sl + ms ≤ rm.slots) (hst : stk = As.reverse ++ .ref b :: st) (kk : gG X q ls (.int x :: st) hp2 (cl + mc) (sl + ms)) : gG X pc ls stk hp cl sl :=
  g_callV C Y V hl0 hM hd hq ho hci hn hls hfr hlo hw hc hs2 hst fun v h z => by obtain ⟨rfl, rfl⟩ := z; exact kk
theorem g_callVip {P : Int32 → List gA → Prop} (C : gC X own nm cc nL rm) (Y : gY y bytes maxL ret n) (V : gVv y) (hl0 : Cond.methodLink own ix y ∈ gW) (hM : gM y bytes maxL ret fr lo (.ref b :: As) hp mc ms (fun v h => ∃ x, v = some (.int x) ∧ P x h)) (hd : decode cc pc = .ok (.invokevirtual ix, 3)) (hq : pc + 3 = q) {ci N : Nat} {T : u_T} {fs : List Value} (ho : hp[b]? = some (.inr (.inr (ci, fs)))) (hci : vwCl[ci]? = some (y.cls, T, N)) (hn : As.length = n) (hls : ls.length = nL) (hfr : fr + 1 ≤ rm.frames) (hlo : 8 + (maxL + 11) + lo ≤ rm.locals) (hw : (st.map fun v => v.category).sum ≤ 8) (hc : cl + mc ≤ rm.cells) (hs2 : sl + ms ≤ rm.slots) (hst : stk = As.reverse ++ .ref b :: st) (kk : ∀ (x : Int32) (hp2 : List gA), P x hp2 → gG X q ls (.int x :: st) hp2 (cl + mc) (sl + ms)) : gG X pc ls stk hp cl sl :=
  g_callV C Y V hl0 hM hd hq ho hci hn hls hfr hlo hw hc hs2 hst fun v h z => by obtain ⟨x, rfl, z⟩ := z; exact kk x h z
theorem g_callVr {x : Nat} {hp2 : List gA} (C : gC X own nm cc nL rm) (Y : gY y bytes maxL ret n) (V : gVv y) (hl0 : Cond.methodLink own ix y ∈ gW) (hM : gM y bytes maxL ret fr lo (.ref b :: As) hp mc ms (fun v h => v = some (.ref x) ∧ h = hp2)) (hd : decode cc pc = .ok (.invokevirtual ix, 3)) (hq : pc + 3 = q) {ci N : Nat} {T : u_T} {fs : List Value} (ho : hp[b]? = some (.inr (.inr (ci, fs)))) (hci : vwCl[ci]? = some (y.cls, T, N)) (hn : As.length = n) (hls : ls.length = nL) (hfr : fr + 1 ≤ rm.frames) (hlo : 8 + (maxL + 11) + lo ≤ rm.locals) (hw : (st.map fun v => v.category).sum ≤ 8) (hc : cl + mc ≤ rm.cells) (hs2 : sl + ms ≤ rm.slots) (hst : stk = As.reverse ++ .ref b :: st) (kk : gG X q ls (.ref x :: st) hp2 (cl + mc) (sl + ms)) : gG X pc ls stk hp cl sl :=
  g_callV C Y V hl0 hM hd hq ho hci hn hls hfr hlo hw hc hs2 hst fun v h z => by obtain ⟨rfl, rfl⟩ := z; exact kk
theorem g_callSv {hp2 : List gA} (C : gC X own nm cc nL rm) (Y : gY y bytes maxL ret n) (V : Cond.static y ∈ gW) (hl0 : Cond.methodLink own ix y ∈ gW) (hM : gM y bytes maxL ret fr lo (As) hp mc ms (fun v h => v = none ∧ h = hp2)) (hd : decode cc pc = .ok (.invokestatic ix, 3)) (hq : pc + 3 = q) (hn : As.length = n) (hls : ls.length = nL) (hfr : fr + 1 ≤ rm.frames) (hlo : 8 + (maxL + 11) + lo ≤ rm.locals) (hw : (st.map fun v => v.category).sum ≤ 8) (hc : cl + mc ≤ rm.cells) (hs2 : sl + ms ≤ rm.slots) (hst : stk = As.reverse ++ st) (kk : gG X q ls st hp2 (cl + mc) (sl + ms)) : gG X pc ls stk hp cl sl :=
  g_callS C Y V hl0 hM hd hq hn hls hfr hlo hw hc hs2 hst fun v h z => by obtain ⟨rfl, rfl⟩ := z; exact kk
theorem g_callSvp {P : List gA → Prop} (C : gC X own nm cc nL rm) (Y : gY y bytes maxL ret n) (V : Cond.static y ∈ gW) (hl0 : Cond.methodLink own ix y ∈ gW) (hM : gM y bytes maxL ret fr lo (As) hp mc ms (fun v h => v = none ∧ P h)) (hd : decode cc pc = .ok (.invokestatic ix, 3)) (hq : pc + 3 = q) (hn : As.length = n) (hls : ls.length = nL) (hfr : fr + 1 ≤ rm.frames) (hlo : 8 + (maxL + 11) + lo ≤ rm.locals) (hw : (st.map fun v => v.category).sum ≤ 8) (hc : cl + mc ≤ rm.cells) (hs2 : sl + ms ≤ rm.slots) (hst : stk = As.reverse ++ st) (kk : ∀ hp2 : List gA, P hp2 → gG X q ls st hp2 (cl + mc) (sl + ms)) : gG X pc ls stk hp cl sl :=
  g_callS C Y V hl0 hM hd hq hn hls hfr hlo hw hc hs2 hst fun v h z => by obtain ⟨rfl, z⟩ := z; exact kk h z
theorem g_callSi {x : Int32} {hp2 : List gA} (C : gC X own nm cc nL rm) (Y : gY y bytes maxL ret n) (V : Cond.static y ∈ gW) (hl0 : Cond.methodLink own ix y ∈ gW) (hM : gM y bytes maxL ret fr lo (As) hp mc ms (fun v h => v = some (.int x) ∧ h = hp2)) (hd : decode cc pc = .ok (.invokestatic ix, 3)) (hq : pc + 3 = q) (hn : As.length = n) (hls : ls.length = nL) (hfr : fr + 1 ≤ rm.frames) (hlo : 8 + (maxL + 11) + lo ≤ rm.locals) (hw : (st.map fun v => v.category).sum ≤ 8) (hc : cl + mc ≤ rm.cells) (hs2 : sl + ms ≤ rm.slots) (hst : stk = As.reverse ++ st) (kk : gG X q ls (.int x :: st) hp2 (cl + mc) (sl + ms)) : gG X pc ls stk hp cl sl :=
  g_callS C Y V hl0 hM hd hq hn hls hfr hlo hw hc hs2 hst fun v h z => by obtain ⟨rfl, rfl⟩ := z; exact kk
theorem g_callSip {P : Int32 → List gA → Prop} (C : gC X own nm cc nL rm) (Y : gY y bytes maxL ret n) (V : Cond.static y ∈ gW) (hl0 : Cond.methodLink own ix y ∈ gW) (hM : gM y bytes maxL ret fr lo (As) hp mc ms (fun v h => ∃ x, v = some (.int x) ∧ P x h)) (hd : decode cc pc = .ok (.invokestatic ix, 3)) (hq : pc + 3 = q) (hn : As.length = n) (hls : ls.length = nL) (hfr : fr + 1 ≤ rm.frames) (hlo : 8 + (maxL + 11) + lo ≤ rm.locals) (hw : (st.map fun v => v.category).sum ≤ 8) (hc : cl + mc ≤ rm.cells) (hs2 : sl + ms ≤ rm.slots) (hst : stk = As.reverse ++ st) (kk : ∀ (x : Int32) (hp2 : List gA), P x hp2 → gG X q ls (.int x :: st) hp2 (cl + mc) (sl + ms)) : gG X pc ls stk hp cl sl :=
  g_callS C Y V hl0 hM hd hq hn hls hfr hlo hw hc hs2 hst fun v h z => by obtain ⟨x, rfl, z⟩ := z; exact kk x h z
theorem g_callSr {x : Nat} {hp2 : List gA} (C : gC X own nm cc nL rm) (Y : gY y bytes maxL ret n) (V : Cond.static y ∈ gW) (hl0 : Cond.methodLink own ix y ∈ gW) (hM : gM y bytes maxL ret fr lo (As) hp mc ms (fun v h => v = some (.ref x) ∧ h = hp2)) (hd : decode cc pc = .ok (.invokestatic ix, 3)) (hq : pc + 3 = q) (hn : As.length = n) (hls : ls.length = nL) (hfr : fr + 1 ≤ rm.frames) (hlo : 8 + (maxL + 11) + lo ≤ rm.locals) (hw : (st.map fun v => v.category).sum ≤ 8) (hc : cl + mc ≤ rm.cells) (hs2 : sl + ms ≤ rm.slots) (hst : stk = As.reverse ++ st) (kk : gG X q ls (.ref x :: st) hp2 (cl + mc) (sl + ms)) : gG X pc ls stk hp cl sl :=
  g_callS C Y V hl0 hM hd hq hn hls hfr hlo hw hc hs2 hst fun v h z => by obtain ⟨rfl, rfl⟩ := z; exact kk
theorem g_callIv {hp2 : List gA} (C : gC X own nm cc nL rm) (Y : gY y bytes maxL none n) (V : gVi y) (hyi : y.name = "<init>") (hl0 : Cond.methodLink own ix y ∈ gW) (hM : gM y bytes maxL none fr lo (.ref b :: As) hp mc ms (fun v h => v = none ∧ h = hp2)) (hd : decode cc pc = .ok (.invokespecial ix, 3)) (hq : pc + 3 = q) (hn : As.length = n) (hls : ls.length = nL) (hfr : fr + 1 ≤ rm.frames) (hlo : 8 + (maxL + 11) + lo ≤ rm.locals) (hw : (st.map fun v => v.category).sum ≤ 8) (hc : cl + mc ≤ rm.cells) (hs2 : sl + ms ≤ rm.slots) (hst : stk = As.reverse ++ .ref b :: st) (kk : gG X q ls st hp2 (cl + mc) (sl + ms)) : gG X pc ls stk hp cl sl :=
  g_callI C Y V hyi hl0 hM hd hq hn hls hfr hlo hw hc hs2 hst fun v h z => by obtain ⟨rfl, rfl⟩ := z; exact kk
theorem g_callIvp {P : List gA → Prop} (C : gC X own nm cc nL rm) (Y : gY y bytes maxL none n) (V : gVi y) (hyi : y.name = "<init>") (hl0 : Cond.methodLink own ix y ∈ gW) (hM : gM y bytes maxL none fr lo (.ref b :: As) hp mc ms (fun v h => v = none ∧ P h)) (hd : decode cc pc = .ok (.invokespecial ix, 3)) (hq : pc + 3 = q) (hn : As.length = n) (hls : ls.length = nL) (hfr : fr + 1 ≤ rm.frames) (hlo : 8 + (maxL + 11) + lo ≤ rm.locals) (hw : (st.map fun v => v.category).sum ≤ 8) (hc : cl + mc ≤ rm.cells) (hs2 : sl + ms ≤ rm.slots) (hst : stk = As.reverse ++ .ref b :: st) (kk : ∀ hp2 : List gA, P hp2 → gG X q ls st hp2 (cl + mc) (sl + ms)) : gG X pc ls stk hp cl sl :=
  g_callI C Y V hyi hl0 hM hd hq hn hls hfr hlo hw hc hs2 hst fun v h z => by obtain ⟨rfl, z⟩ := z; exact kk h z
theorem g_callINv {hp2 : List gA} (C : gC X own nm cc nL rm) (Y : gY y bytes maxL none n) (V : gVi y) (hyi : y.name = "<init>") {host : String} (hl0 : (own, ix, y, host) ∈ gNest) (hM : gM y bytes maxL none fr lo (.ref b :: As) hp mc ms (fun v h => v = none ∧ h = hp2)) (hd : decode cc pc = .ok (.invokespecial ix, 3)) (hq : pc + 3 = q) (hn : As.length = n) (hls : ls.length = nL) (hfr : fr + 1 ≤ rm.frames) (hlo : 8 + (maxL + 11) + lo ≤ rm.locals) (hw : (st.map fun v => v.category).sum ≤ 8) (hc : cl + mc ≤ rm.cells) (hs2 : sl + ms ≤ rm.slots) (hst : stk = As.reverse ++ .ref b :: st) (kk : gG X q ls st hp2 (cl + mc) (sl + ms)) : gG X pc ls stk hp cl sl :=
  g_callIN C Y V hyi hl0 hM hd hq hn hls hfr hlo hw hc hs2 hst fun v h z => by obtain ⟨rfl, rfl⟩ := z; exact kk
theorem g_callINvp {P : List gA → Prop} (C : gC X own nm cc nL rm) (Y : gY y bytes maxL none n) (V : gVi y) (hyi : y.name = "<init>") {host : String} (hl0 : (own, ix, y, host) ∈ gNest) (hM : gM y bytes maxL none fr lo (.ref b :: As) hp mc ms (fun v h => v = none ∧ P h)) (hd : decode cc pc = .ok (.invokespecial ix, 3)) (hq : pc + 3 = q) (hn : As.length = n) (hls : ls.length = nL) (hfr : fr + 1 ≤ rm.frames) (hlo : 8 + (maxL + 11) + lo ≤ rm.locals) (hw : (st.map fun v => v.category).sum ≤ 8) (hc : cl + mc ≤ rm.cells) (hs2 : sl + ms ≤ rm.slots) (hst : stk = As.reverse ++ .ref b :: st) (kk : ∀ hp2 : List gA, P hp2 → gG X q ls st hp2 (cl + mc) (sl + ms)) : gG X pc ls stk hp cl sl :=
  g_callIN C Y V hyi hl0 hM hd hq hn hls hfr hlo hw hc hs2 hst fun v h z => by obtain ⟨rfl, z⟩ := z; exact kk h z
theorem g_ialoadN (C : gC X own nm cc nL rm) {k n j : Nat} {f : Nat → Int32} {i x : Int32} (hd : decode cc pc = .ok (.iaload, 1)) (hq : pc + 1 = q) (ho : hp[k]? = some (.inl (n, f))) (hi : vp_in i n) (hj : i.toNatClampNeg = j) (hx : f j = x) (kk : gG X q ls (.int x :: st) hp cl sl) : gG X pc ls (.int i :: .ref k :: st) hp cl sl := by
  subst hj; subst hx; exact g_iaload C hd hq ho hi kk
theorem g_iastoreN (C : gC X own nm cc nL rm) {k n j : Nat} {f : Nat → Int32} {i x : Int32} (hd : decode cc pc = .ok (.iastore, 1)) (hq : pc + 1 = q) (ho : hp[k]? = some (.inl (n, f))) (hi : vp_in i n) (hj : i.toNatClampNeg = j) (kk : gG X q ls st (hp.set k (.inl (n, upd f j x))) cl sl) : gG X pc ls (.int x :: .int i :: .ref k :: st) hp cl sl := by
  subst hj; exact g_iastore C hd hq ho hi kk
theorem vp_inN {i : Int32} {n j : Nat} (hj : i.toNatClampNeg = j) (h0 : ¬ i < 0) (h : j < n) : vp_in i n := by subst hj; exact fun z => z.elim h0 (fun z => absurd h (Nat.not_lt.mpr z))
theorem g_heap {hp2 : List gA} (h : hp = hp2) (k : gG X pc ls st hp2 cl sl) : gG X pc ls st hp cl sl := by subst h; exact k
end GU
def gmax (a b : Int32) : Int32 := if a < b then b else a
def gmin (a b : Int32) : Int32 := if b < a then b else a
theorem gmax0 (a : Int32) : ¬ gmax 0 a < 0 := by unfold gmax; split <;> simp_all [Int32.lt_iff_toInt_lt] <;> omega
theorem gOut4 {x : Int32} (c0 : ¬ x = 0) (c1 : ¬ x = 1) (c2 : ¬ x = 2) (c3 : ¬ x = 3) : x.toInt < 0 ∨ 3 < x.toInt := by have d0 : x.toInt ≠ 0 := fun h => c0 (Int32.toInt_inj.mp (h.trans (by decide))); have d1 : x.toInt ≠ 1 := fun h => c1 (Int32.toInt_inj.mp (h.trans (by decide))); have d2 : x.toInt ≠ 2 := fun h => c2 (Int32.toInt_inj.mp (h.trans (by decide))); have d3 : x.toInt ≠ 3 := fun h => c3 (Int32.toInt_inj.mp (h.trans (by decide))); omega
theorem gOut5 {x : Int32} (c0 : ¬ x = 0) (c1 : ¬ x = 1) (c2 : ¬ x = 2) (c3 : ¬ x = 3) (c4 : ¬ x = 4) : x.toInt < 0 ∨ 4 < x.toInt := by have d0 : x.toInt ≠ 0 := fun h => c0 (Int32.toInt_inj.mp (h.trans (by decide))); have d1 : x.toInt ≠ 1 := fun h => c1 (Int32.toInt_inj.mp (h.trans (by decide))); have d2 : x.toInt ≠ 2 := fun h => c2 (Int32.toInt_inj.mp (h.trans (by decide))); have d3 : x.toInt ≠ 3 := fun h => c3 (Int32.toInt_inj.mp (h.trans (by decide))); have d4 : x.toInt ≠ 4 := fun h => c4 (Int32.toInt_inj.mp (h.trans (by decide))); omega
theorem gOut8 {x : Int32} (c0 : ¬ x = 0) (c1 : ¬ x = 1) (c2 : ¬ x = 2) (c3 : ¬ x = 3) (c4 : ¬ x = 4) (c5 : ¬ x = 5) (c6 : ¬ x = 6) (c7 : ¬ x = 7) : x.toInt < 0 ∨ 7 < x.toInt := by have d0 : x.toInt ≠ 0 := fun h => c0 (Int32.toInt_inj.mp (h.trans (by decide))); have d1 : x.toInt ≠ 1 := fun h => c1 (Int32.toInt_inj.mp (h.trans (by decide))); have d2 : x.toInt ≠ 2 := fun h => c2 (Int32.toInt_inj.mp (h.trans (by decide))); have d3 : x.toInt ≠ 3 := fun h => c3 (Int32.toInt_inj.mp (h.trans (by decide))); have d4 : x.toInt ≠ 4 := fun h => c4 (Int32.toInt_inj.mp (h.trans (by decide))); have d5 : x.toInt ≠ 5 := fun h => c5 (Int32.toInt_inj.mp (h.trans (by decide))); have d6 : x.toInt ≠ 6 := fun h => c6 (Int32.toInt_inj.mp (h.trans (by decide))); have d7 : x.toInt ≠ 7 := fun h => c7 (Int32.toInt_inj.mp (h.trans (by decide))); omega
theorem gOut9 {x : Int32} (c0 : ¬ x = 0) (c1 : ¬ x = 1) (c2 : ¬ x = 2) (c3 : ¬ x = 3) (c4 : ¬ x = 4) (c5 : ¬ x = 5) (c6 : ¬ x = 6) (c7 : ¬ x = 7) (c8 : ¬ x = 8) : x.toInt < 0 ∨ 8 < x.toInt := by have d0 : x.toInt ≠ 0 := fun h => c0 (Int32.toInt_inj.mp (h.trans (by decide))); have d1 : x.toInt ≠ 1 := fun h => c1 (Int32.toInt_inj.mp (h.trans (by decide))); have d2 : x.toInt ≠ 2 := fun h => c2 (Int32.toInt_inj.mp (h.trans (by decide))); have d3 : x.toInt ≠ 3 := fun h => c3 (Int32.toInt_inj.mp (h.trans (by decide))); have d4 : x.toInt ≠ 4 := fun h => c4 (Int32.toInt_inj.mp (h.trans (by decide))); have d5 : x.toInt ≠ 5 := fun h => c5 (Int32.toInt_inj.mp (h.trans (by decide))); have d6 : x.toInt ≠ 6 := fun h => c6 (Int32.toInt_inj.mp (h.trans (by decide))); have d7 : x.toInt ≠ 7 := fun h => c7 (Int32.toInt_inj.mp (h.trans (by decide))); have d8 : x.toInt ≠ 8 := fun h => c8 (Int32.toInt_inj.mp (h.trans (by decide))); omega
theorem gOut11 {x : Int32} (c0 : ¬ x = 0) (c1 : ¬ x = 1) (c2 : ¬ x = 2) (c3 : ¬ x = 3) (c4 : ¬ x = 4) (c5 : ¬ x = 5) (c6 : ¬ x = 6) (c7 : ¬ x = 7) (c8 : ¬ x = 8) (c9 : ¬ x = 9) (c10 : ¬ x = 10) : x.toInt < 0 ∨ 10 < x.toInt := by have d0 : x.toInt ≠ 0 := fun h => c0 (Int32.toInt_inj.mp (h.trans (by decide))); have d1 : x.toInt ≠ 1 := fun h => c1 (Int32.toInt_inj.mp (h.trans (by decide))); have d2 : x.toInt ≠ 2 := fun h => c2 (Int32.toInt_inj.mp (h.trans (by decide))); have d3 : x.toInt ≠ 3 := fun h => c3 (Int32.toInt_inj.mp (h.trans (by decide))); have d4 : x.toInt ≠ 4 := fun h => c4 (Int32.toInt_inj.mp (h.trans (by decide))); have d5 : x.toInt ≠ 5 := fun h => c5 (Int32.toInt_inj.mp (h.trans (by decide))); have d6 : x.toInt ≠ 6 := fun h => c6 (Int32.toInt_inj.mp (h.trans (by decide))); have d7 : x.toInt ≠ 7 := fun h => c7 (Int32.toInt_inj.mp (h.trans (by decide))); have d8 : x.toInt ≠ 8 := fun h => c8 (Int32.toInt_inj.mp (h.trans (by decide))); have d9 : x.toInt ≠ 9 := fun h => c9 (Int32.toInt_inj.mp (h.trans (by decide))); have d10 : x.toInt ≠ 10 := fun h => c10 (Int32.toInt_inj.mp (h.trans (by decide))); omega
theorem gOut18 {x : Int32} (c0 : ¬ x = 0) (c1 : ¬ x = 1) (c2 : ¬ x = 2) (c3 : ¬ x = 3) (c4 : ¬ x = 4) (c5 : ¬ x = 5) (c6 : ¬ x = 6) (c7 : ¬ x = 7) (c8 : ¬ x = 8) (c9 : ¬ x = 9) (c10 : ¬ x = 10) (c11 : ¬ x = 11) (c12 : ¬ x = 12) (c13 : ¬ x = 13) (c14 : ¬ x = 14) (c15 : ¬ x = 15) (c16 : ¬ x = 16) (c17 : ¬ x = 17) : x.toInt < 0 ∨ 17 < x.toInt := by have d0 : x.toInt ≠ 0 := fun h => c0 (Int32.toInt_inj.mp (h.trans (by decide))); have d1 : x.toInt ≠ 1 := fun h => c1 (Int32.toInt_inj.mp (h.trans (by decide))); have d2 : x.toInt ≠ 2 := fun h => c2 (Int32.toInt_inj.mp (h.trans (by decide))); have d3 : x.toInt ≠ 3 := fun h => c3 (Int32.toInt_inj.mp (h.trans (by decide))); have d4 : x.toInt ≠ 4 := fun h => c4 (Int32.toInt_inj.mp (h.trans (by decide))); have d5 : x.toInt ≠ 5 := fun h => c5 (Int32.toInt_inj.mp (h.trans (by decide))); have d6 : x.toInt ≠ 6 := fun h => c6 (Int32.toInt_inj.mp (h.trans (by decide))); have d7 : x.toInt ≠ 7 := fun h => c7 (Int32.toInt_inj.mp (h.trans (by decide))); have d8 : x.toInt ≠ 8 := fun h => c8 (Int32.toInt_inj.mp (h.trans (by decide))); have d9 : x.toInt ≠ 9 := fun h => c9 (Int32.toInt_inj.mp (h.trans (by decide))); have d10 : x.toInt ≠ 10 := fun h => c10 (Int32.toInt_inj.mp (h.trans (by decide))); have d11 : x.toInt ≠ 11 := fun h => c11 (Int32.toInt_inj.mp (h.trans (by decide))); have d12 : x.toInt ≠ 12 := fun h => c12 (Int32.toInt_inj.mp (h.trans (by decide))); have d13 : x.toInt ≠ 13 := fun h => c13 (Int32.toInt_inj.mp (h.trans (by decide))); have d14 : x.toInt ≠ 14 := fun h => c14 (Int32.toInt_inj.mp (h.trans (by decide))); have d15 : x.toInt ≠ 15 := fun h => c15 (Int32.toInt_inj.mp (h.trans (by decide))); have d16 : x.toInt ≠ 16 := fun h => c16 (Int32.toInt_inj.mp (h.trans (by decide))); have d17 : x.toInt ≠ 17 := fun h => c17 (Int32.toInt_inj.mp (h.trans (by decide))); omega
end
section
/-! Math.max, min; Row (by program: wip/p1/m_rows.py) -/
theorem dJ9_max_7cf53_0 : decode cJ9_max_7cf53 0 = .ok (.iload_n 0, 1) := by decide +kernel
theorem dJ9_max_7cf53_1 : decode cJ9_max_7cf53 1 = .ok (.iload_n 1, 1) := by decide +kernel
theorem dJ9_max_7cf53_2 : decode cJ9_max_7cf53 2 = .ok (.if_icmp .lt 7, 3) := by decide +kernel
theorem dJ9_max_7cf53_5 : decode cJ9_max_7cf53 5 = .ok (.iload_n 0, 1) := by decide +kernel
theorem dJ9_max_7cf53_6 : decode cJ9_max_7cf53 6 = .ok (.goto 4, 3) := by decide +kernel
theorem dJ9_max_7cf53_9 : decode cJ9_max_7cf53 9 = .ok (.iload_n 1, 1) := by decide +kernel
theorem dJ9_max_7cf53_10 : decode cJ9_max_7cf53 10 = .ok (.ireturn, 1) := by decide +kernel
set_option maxRecDepth 100000 in
set_option maxHeartbeats 4000000 in
theorem c_J9_max_7cf53 {hp : List gA} {a b : Int32}  : gM yJ9_max_7cf53 cJ9_max_7cf53 2 ((some .int)) 0 0 [.int a, .int b] (hp) (0) (0) (fun v h => v = some (.int (gmax a b)) ∧ h = hp) := by
  refine gM_of (ls0 := [some (.int a), some (.int b)]) (by decide +kernel) (Nat.le_of_ble_eq_true rfl) rfl fun X C E => ?_
  refine g_iload_n (q := 1) C dJ9_max_7cf53_0 rfl rfl ?_
  refine g_iload_n (q := 2) C dJ9_max_7cf53_1 rfl rfl ?_
  refine g_icmp_lt (t := 9) (q := 5) C dJ9_max_7cf53_2 (by decide) rfl (fun c_2 => ?_) (fun c_2 => ?_)
  · -- to 9
    refine g_iload_n (q := 10) C dJ9_max_7cf53_9 rfl rfl ?_
    exact E.1 _ _ _ _ _ _ _ dJ9_max_7cf53_10 rfl rfl (Nat.le_of_ble_eq_true rfl) (Nat.le_of_ble_eq_true rfl) ⟨by simp [*, gmax], rfl⟩
  · -- to 5
    refine g_iload_n (q := 6) C dJ9_max_7cf53_5 rfl rfl ?_
    refine g_goto (q := 10) C dJ9_max_7cf53_6 (by decide) ?_
    exact E.1 _ _ _ _ _ _ _ dJ9_max_7cf53_10 rfl rfl (Nat.le_of_ble_eq_true rfl) (Nat.le_of_ble_eq_true rfl) ⟨by simp [*, gmax], rfl⟩
theorem dJ9_min_7cf53_0 : decode cJ9_min_7cf53 0 = .ok (.iload_n 0, 1) := by decide +kernel
theorem dJ9_min_7cf53_1 : decode cJ9_min_7cf53 1 = .ok (.iload_n 1, 1) := by decide +kernel
theorem dJ9_min_7cf53_2 : decode cJ9_min_7cf53 2 = .ok (.if_icmp .gt 7, 3) := by decide +kernel
theorem dJ9_min_7cf53_5 : decode cJ9_min_7cf53 5 = .ok (.iload_n 0, 1) := by decide +kernel
theorem dJ9_min_7cf53_6 : decode cJ9_min_7cf53 6 = .ok (.goto 4, 3) := by decide +kernel
theorem dJ9_min_7cf53_9 : decode cJ9_min_7cf53 9 = .ok (.iload_n 1, 1) := by decide +kernel
theorem dJ9_min_7cf53_10 : decode cJ9_min_7cf53 10 = .ok (.ireturn, 1) := by decide +kernel
set_option maxRecDepth 100000 in
set_option maxHeartbeats 4000000 in
theorem c_J9_min_7cf53 {hp : List gA} {a b : Int32}  : gM yJ9_min_7cf53 cJ9_min_7cf53 2 ((some .int)) 0 0 [.int a, .int b] (hp) (0) (0) (fun v h => v = some (.int (gmin a b)) ∧ h = hp) := by
  refine gM_of (ls0 := [some (.int a), some (.int b)]) (by decide +kernel) (Nat.le_of_ble_eq_true rfl) rfl fun X C E => ?_
  refine g_iload_n (q := 1) C dJ9_min_7cf53_0 rfl rfl ?_
  refine g_iload_n (q := 2) C dJ9_min_7cf53_1 rfl rfl ?_
  refine g_icmp_gt (t := 9) (q := 5) C dJ9_min_7cf53_2 (by decide) rfl (fun c_2 => ?_) (fun c_2 => ?_)
  · -- to 9
    refine g_iload_n (q := 10) C dJ9_min_7cf53_9 rfl rfl ?_
    exact E.1 _ _ _ _ _ _ _ dJ9_min_7cf53_10 rfl rfl (Nat.le_of_ble_eq_true rfl) (Nat.le_of_ble_eq_true rfl) ⟨by simp [*, gmin], rfl⟩
  · -- to 5
    refine g_iload_n (q := 6) C dJ9_min_7cf53_5 rfl rfl ?_
    refine g_goto (q := 10) C dJ9_min_7cf53_6 (by decide) ?_
    exact E.1 _ _ _ _ _ _ _ dJ9_min_7cf53_10 rfl rfl (Nat.le_of_ble_eq_true rfl) (Nat.le_of_ble_eq_true rfl) ⟨by simp [*, gmin], rfl⟩
theorem dX4_size_0 : decode cX4_size 0 = .ok (.aload_n 0, 1) := by decide +kernel
theorem dX4_size_1 : decode cX4_size 1 = .ok (.getfield 7, 3) := by decide +kernel
theorem dX4_size_4 : decode cX4_size 4 = .ok (.ireturn, 1) := by decide +kernel
set_option maxRecDepth 100000 in
set_option maxHeartbeats 4000000 in
theorem c_X4_size {hp : List gA} {r a : Nat} {len most : Int32} (hr : hp[r]? = some (.inr (.inr (4, [.ref a, .int len, .int most])))) : gM yX4_size cX4_size 1 ((some .int)) 0 0 [.ref r] (hp) (0) (0) (fun v h => v = some (.int len) ∧ h = hp) := by
  refine gM_of (ls0 := [some (.ref r)]) (by decide +kernel) (Nat.le_of_ble_eq_true rfl) rfl fun X C E => ?_
  refine g_aload_n (q := 1) C dX4_size_0 rfl rfl ?_
  refine g_getfield (q := 4) C fX4_7 dX4_size_1 rfl hr rfl ?_
  exact E.1 _ _ _ _ _ _ _ dX4_size_4 rfl rfl (Nat.le_of_ble_eq_true rfl) (Nat.le_of_ble_eq_true rfl) ⟨rfl, rfl⟩
theorem dX4_keep_0 : decode cX4_keep 0 = .ok (.aload_n 0, 1) := by decide +kernel
theorem dX4_keep_1 : decode cX4_keep 1 = .ok (.iconst 0, 1) := by decide +kernel
theorem dX4_keep_2 : decode cX4_keep 2 = .ok (.iload_n 1, 1) := by decide +kernel
theorem dX4_keep_3 : decode cX4_keep 3 = .ok (.aload_n 0, 1) := by decide +kernel
theorem dX4_keep_4 : decode cX4_keep 4 = .ok (.getfield 7, 3) := by decide +kernel
theorem dX4_keep_7 : decode cX4_keep 7 = .ok (.invokestatic 26, 3) := by decide +kernel
theorem dX4_keep_10 : decode cX4_keep 10 = .ok (.invokestatic 13, 3) := by decide +kernel
theorem dX4_keep_13 : decode cX4_keep 13 = .ok (.putfield 7, 3) := by decide +kernel
theorem dX4_keep_16 : decode cX4_keep 16 = .ok (.return_, 1) := by decide +kernel
set_option maxRecDepth 100000 in
set_option maxHeartbeats 4000000 in
theorem c_X4_keep {hp : List gA} {r a : Nat} {len most x : Int32} (hr : hp[r]? = some (.inr (.inr (4, [.ref a, .int len, .int most])))) : gM yX4_keep cX4_keep 2 (none) 1 21 [.ref r, .int x] (hp) (0) (0) (fun v h => v = none ∧ h = hp.set r (.inr (.inr (4, [.ref a, .int (gmax 0 (gmin x len)), .int most])))) := by
  refine gM_of (ls0 := [some (.ref r), some (.int x)]) (by decide +kernel) (Nat.le_of_ble_eq_true rfl) rfl fun X C E => ?_
  refine g_aload_n (q := 1) C dX4_keep_0 rfl rfl ?_
  refine g_iconst (v := 0) (q := 2) C dX4_keep_1 (by decide) rfl ?_
  refine g_iload_n (q := 3) C dX4_keep_2 rfl rfl ?_
  refine g_aload_n (q := 4) C dX4_keep_3 rfl rfl ?_
  refine g_getfield (q := 7) C fX4_7 dX4_keep_4 rfl hr rfl ?_
  refine g_callSi (q := 10) (As := [.int x, .int len]) C gyJ9_min_7cf53 t_411 t_410 (c_J9_min_7cf53) dX4_keep_7 rfl rfl rfl (Nat.le_of_ble_eq_true rfl) (Nat.le_of_ble_eq_true rfl) (Nat.le_of_ble_eq_true rfl) (Nat.le_of_ble_eq_true rfl) (Nat.le_of_ble_eq_true rfl) rfl ?_
  refine g_callSi (q := 13) (As := [.int 0, .int _]) C gyJ9_max_7cf53 t_72 t_71 (c_J9_max_7cf53) dX4_keep_10 rfl rfl rfl (Nat.le_of_ble_eq_true rfl) (Nat.le_of_ble_eq_true rfl) (Nat.le_of_ble_eq_true rfl) (Nat.le_of_ble_eq_true rfl) (Nat.le_of_ble_eq_true rfl) rfl ?_
  refine g_putfield (q := 16) C fX4_7 dX4_keep_13 rfl hr (Nat.le_of_ble_eq_true rfl) (Or.inl rfl) rfl rfl (by intro z h; cases h) ?_
  exact E.2.1 _ _ _ _ _ dX4_keep_16 rfl (Nat.le_of_ble_eq_true rfl) (Nat.le_of_ble_eq_true rfl) ⟨rfl, rfl⟩
theorem dX4_init_0 : decode cX4_init 0 = .ok (.aload_n 0, 1) := by decide +kernel
theorem dX4_init_1 : decode cX4_init 1 = .ok (.invokespecial 1, 3) := by decide +kernel
theorem dX4_init_4 : decode cX4_init 4 = .ok (.aload_n 0, 1) := by decide +kernel
theorem dX4_init_5 : decode cX4_init 5 = .ok (.iconst 0, 1) := by decide +kernel
theorem dX4_init_6 : decode cX4_init 6 = .ok (.putfield 7, 3) := by decide +kernel
theorem dX4_init_9 : decode cX4_init 9 = .ok (.aload_n 0, 1) := by decide +kernel
theorem dX4_init_10 : decode cX4_init 10 = .ok (.iconst 0, 1) := by decide +kernel
theorem dX4_init_11 : decode cX4_init 11 = .ok (.iload_n 1, 1) := by decide +kernel
theorem dX4_init_12 : decode cX4_init 12 = .ok (.invokestatic 13, 3) := by decide +kernel
theorem dX4_init_15 : decode cX4_init 15 = .ok (.newarray .int, 2) := by decide +kernel
theorem dX4_init_17 : decode cX4_init 17 = .ok (.putfield 19, 3) := by decide +kernel
theorem dX4_init_20 : decode cX4_init 20 = .ok (.aload_n 0, 1) := by decide +kernel
theorem dX4_init_21 : decode cX4_init 21 = .ok (.iload_n 2, 1) := by decide +kernel
theorem dX4_init_22 : decode cX4_init 22 = .ok (.putfield 23, 3) := by decide +kernel
theorem dX4_init_25 : decode cX4_init 25 = .ok (.return_, 1) := by decide +kernel
set_option maxRecDepth 100000 in
set_option maxHeartbeats 4000000 in
theorem c_X4_init {hp : List gA} {n N : Nat} {first most : Int32} (hn : hp.length = n) (hN : (gmax 0 first).toNatClampNeg = N) (hb : N ≤ 100000000) : gM yX4_init cX4_init 3 (none) 1 21 [.ref (n + 0), .int first, .int most] (hp ++ [.inr (.inr (4, [.null, .int 0, .int 0]))]) (1) (N) (fun v h => v = none ∧ h = hp ++ [.inr (.inr (4, [.ref (n + 1), .int 0, .int most])), .inl (N, fun _ => 0)]) := by
  refine gM_of (ls0 := [some (.ref (n + 0)), some (.int first), some (.int most)]) (by decide +kernel) (Nat.le_of_ble_eq_true rfl) rfl fun X C E => ?_
  refine g_aload_n (q := 1) C dX4_init_0 rfl rfl ?_
  refine g_objInit (q := 4) C t_70 t_63 t_64 dX4_init_1 rfl rfl (Nat.le_of_ble_eq_true rfl) (Nat.le_of_ble_eq_true rfl) ?_
  refine g_aload_n (q := 5) C dX4_init_4 rfl rfl ?_
  refine g_iconst (v := 0) (q := 6) C dX4_init_5 (by decide) rfl ?_
  refine g_putE (q := 9) (hp' := hp ++ [.inr (.inr (4, [.null, .int 0, .int 0]))]) C fX4_7 dX4_init_6 rfl (gapp_new hn rfl) (Nat.le_of_ble_eq_true rfl) (Or.inl rfl) rfl rfl (by intro z h; cases h) rfl (gapp_set hn) ?_
  refine g_aload_n (q := 10) C dX4_init_9 rfl rfl ?_
  refine g_iconst (v := 0) (q := 11) C dX4_init_10 (by decide) rfl ?_
  refine g_iload_n (q := 12) C dX4_init_11 rfl rfl ?_
  refine g_callSi (q := 15) (As := [.int 0, .int first]) C gyJ9_max_7cf53 t_72 t_71 (c_J9_max_7cf53) dX4_init_12 rfl rfl rfl (Nat.le_of_ble_eq_true rfl) (Nat.le_of_ble_eq_true rfl) (Nat.le_of_ble_eq_true rfl) (Nat.le_of_ble_eq_true rfl) (Nat.le_of_ble_eq_true rfl) rfl ?_
  refine g_newarray (q := 17) (k := n + 1) (N := N) C t_84 dX4_init_15 rfl (by rw [List.length_append, hn]; rfl) (gmax0 _) hN hb (Nat.le_refl _) (by show 0 + N ≤ N; omega) ?_
  refine g_heap (hp2 := hp ++ [.inr (.inr (4, [.null, .int 0, .int 0])), .inl (N, fun _ => 0)]) (by simp only [List.append_assoc, List.cons_append, List.nil_append]) ?_
  refine g_putE (q := 20) (hp' := hp ++ [.inr (.inr (4, [.ref (n + 1), .int 0, .int 0])), .inl (N, fun _ => 0)]) C fX4_19 dX4_init_17 rfl (gapp_new hn rfl) (Nat.le_of_ble_eq_true rfl) (Or.inl rfl) rfl rfl (by intro z h; cases h) rfl (gapp_set hn) ?_
  refine g_aload_n (q := 21) C dX4_init_20 rfl rfl ?_
  refine g_iload_n (q := 22) C dX4_init_21 rfl rfl ?_
  refine g_putE (q := 25) (hp' := hp ++ [.inr (.inr (4, [.ref (n + 1), .int 0, .int most])), .inl (N, fun _ => 0)]) C fX4_23 dX4_init_22 rfl (gapp_new hn rfl) (Nat.le_of_ble_eq_true rfl) (Or.inr rfl) rfl rfl (by intro z h; cases h) rfl (gapp_set hn) ?_
  exact E.2.1 _ _ _ _ _ dX4_init_25 rfl (by omega) (by omega) ⟨rfl, rfl⟩
theorem dX4_add_0 : decode cX4_add 0 = .ok (.aload_n 0, 1) := by decide +kernel
theorem dX4_add_1 : decode cX4_add 1 = .ok (.getfield 7, 3) := by decide +kernel
theorem dX4_add_4 : decode cX4_add 4 = .ok (.aload_n 0, 1) := by decide +kernel
theorem dX4_add_5 : decode cX4_add 5 = .ok (.getfield 23, 3) := by decide +kernel
theorem dX4_add_8 : decode cX4_add 8 = .ok (.if_icmp .lt 4, 3) := by decide +kernel
theorem dX4_add_12 : decode cX4_add 12 = .ok (.aload_n 0, 1) := by decide +kernel
theorem dX4_add_13 : decode cX4_add 13 = .ok (.getfield 7, 3) := by decide +kernel
theorem dX4_add_16 : decode cX4_add 16 = .ok (.aload_n 0, 1) := by decide +kernel
theorem dX4_add_17 : decode cX4_add 17 = .ok (.getfield 19, 3) := by decide +kernel
theorem dX4_add_20 : decode cX4_add 20 = .ok (.arraylength, 1) := by decide +kernel
theorem dX4_add_21 : decode cX4_add 21 = .ok (.if_icmp .lt 32, 3) := by decide +kernel
theorem dX4_add_53 : decode cX4_add 53 = .ok (.aload_n 0, 1) := by decide +kernel
theorem dX4_add_54 : decode cX4_add 54 = .ok (.getfield 7, 3) := by decide +kernel
theorem dX4_add_57 : decode cX4_add 57 = .ok (.ifCond .lt 35, 3) := by decide +kernel
theorem dX4_add_60 : decode cX4_add 60 = .ok (.aload_n 0, 1) := by decide +kernel
theorem dX4_add_61 : decode cX4_add 61 = .ok (.getfield 7, 3) := by decide +kernel
theorem dX4_add_64 : decode cX4_add 64 = .ok (.aload_n 0, 1) := by decide +kernel
theorem dX4_add_65 : decode cX4_add 65 = .ok (.getfield 19, 3) := by decide +kernel
theorem dX4_add_68 : decode cX4_add 68 = .ok (.arraylength, 1) := by decide +kernel
theorem dX4_add_69 : decode cX4_add 69 = .ok (.if_icmp .ge 23, 3) := by decide +kernel
theorem dX4_add_72 : decode cX4_add 72 = .ok (.aload_n 0, 1) := by decide +kernel
theorem dX4_add_73 : decode cX4_add 73 = .ok (.getfield 19, 3) := by decide +kernel
theorem dX4_add_76 : decode cX4_add 76 = .ok (.aload_n 0, 1) := by decide +kernel
theorem dX4_add_77 : decode cX4_add 77 = .ok (.getfield 7, 3) := by decide +kernel
theorem dX4_add_80 : decode cX4_add 80 = .ok (.iload_n 1, 1) := by decide +kernel
theorem dX4_add_81 : decode cX4_add 81 = .ok (.iastore, 1) := by decide +kernel
theorem dX4_add_82 : decode cX4_add 82 = .ok (.aload_n 0, 1) := by decide +kernel
theorem dX4_add_83 : decode cX4_add 83 = .ok (.dup, 1) := by decide +kernel
theorem dX4_add_84 : decode cX4_add 84 = .ok (.getfield 7, 3) := by decide +kernel
theorem dX4_add_87 : decode cX4_add 87 = .ok (.iconst 1, 1) := by decide +kernel
theorem dX4_add_88 : decode cX4_add 88 = .ok (.iadd, 1) := by decide +kernel
theorem dX4_add_89 : decode cX4_add 89 = .ok (.putfield 7, 3) := by decide +kernel
theorem dX4_add_92 : decode cX4_add 92 = .ok (.return_, 1) := by decide +kernel
set_option maxRecDepth 100000 in
set_option maxHeartbeats 4000000 in
theorem c_X4_add_in {hp : List gA} {r a n : Nat} {f : Nat → Int32} {len most x : Int32} (hr : hp[r]? = some (.inr (.inr (4, [.ref a, .int len, .int most])))) (ha : hp[a]? = some (.inl (n, f))) (h1 : len < most) (h2 : len < Int32.ofNat n) (h3 : ¬ len < 0) (h4 : ¬ Int32.ofNat n ≤ len) (h5 : vp_in len n) : gM yX4_add cX4_add 2 (none) 2 82 [.ref r, .int x] (hp) (0) (0) (fun v h => v = none ∧ h = (hp.set a (.inl (n, upd f len.toNatClampNeg x))).set r (.inr (.inr (4, [.ref a, .int (len + 1), .int most])))) := by
  have n_a_r : a ≠ r := gne ha hr (by intro h; cases h)
  refine gM_of (ls0 := [some (.ref r), some (.int x)]) (by decide +kernel) (Nat.le_of_ble_eq_true rfl) rfl fun X C E => ?_
  refine g_aload_n (q := 1) C dX4_add_0 rfl rfl ?_
  refine g_getfield (q := 4) C fX4_7 dX4_add_1 rfl hr rfl ?_
  refine g_aload_n (q := 5) C dX4_add_4 rfl rfl ?_
  refine g_getfield (q := 8) C fX4_23 dX4_add_5 rfl hr rfl ?_
  refine g_icmp_lt_t (t := 12) C dX4_add_8 (by decide) h1 ?_
  refine g_aload_n (q := 13) C dX4_add_12 rfl rfl ?_
  refine g_getfield (q := 16) C fX4_7 dX4_add_13 rfl hr rfl ?_
  refine g_aload_n (q := 17) C dX4_add_16 rfl rfl ?_
  refine g_getfield (q := 20) C fX4_19 dX4_add_17 rfl hr rfl ?_
  refine g_arraylength (q := 21) C dX4_add_20 rfl ha rfl ?_
  refine g_icmp_lt_t (t := 53) C dX4_add_21 (by decide) h2 ?_
  refine g_aload_n (q := 54) C dX4_add_53 rfl rfl ?_
  refine g_getfield (q := 57) C fX4_7 dX4_add_54 rfl hr rfl ?_
  refine g_if_lt_f (t := 92) (q := 60) C dX4_add_57 (by decide) rfl h3 ?_
  refine g_aload_n (q := 61) C dX4_add_60 rfl rfl ?_
  refine g_getfield (q := 64) C fX4_7 dX4_add_61 rfl hr rfl ?_
  refine g_aload_n (q := 65) C dX4_add_64 rfl rfl ?_
  refine g_getfield (q := 68) C fX4_19 dX4_add_65 rfl hr rfl ?_
  refine g_arraylength (q := 69) C dX4_add_68 rfl ha rfl ?_
  refine g_icmp_ge_f (t := 92) (q := 72) C dX4_add_69 (by decide) rfl h4 ?_
  refine g_aload_n (q := 73) C dX4_add_72 rfl rfl ?_
  refine g_getfield (q := 76) C fX4_19 dX4_add_73 rfl hr rfl ?_
  refine g_aload_n (q := 77) C dX4_add_76 rfl rfl ?_
  refine g_getfield (q := 80) C fX4_7 dX4_add_77 rfl hr rfl ?_
  refine g_iload_n (q := 81) C dX4_add_80 rfl rfl ?_
  refine g_iastore (q := 82) C dX4_add_81 rfl ha h5 ?_
  refine g_aload_n (q := 83) C dX4_add_82 rfl rfl ?_
  refine g_dup (q := 84) C dX4_add_83 rfl rfl ?_
  refine g_getfield (q := 87) C fX4_7 dX4_add_84 rfl (gset_other hr n_a_r) rfl ?_
  refine g_iconst (v := 1) (q := 88) C dX4_add_87 (by decide) rfl ?_
  refine g_iadd (q := 89) C dX4_add_88 rfl ?_
  refine g_putfield (q := 92) C fX4_7 dX4_add_89 rfl (gset_other hr n_a_r) (Nat.le_of_ble_eq_true rfl) (Or.inl rfl) rfl rfl (by intro z h; cases h) ?_
  exact E.2.1 _ _ _ _ _ dX4_add_92 rfl (Nat.le_of_ble_eq_true rfl) (Nat.le_of_ble_eq_true rfl) ⟨rfl, rfl⟩
end
section
/-! the constructors of the class (by program: wip/p1/m_ctors.py) -/
theorem dX1_init_0 : decode cX1_init 0 = .ok (.aload_n 0, 1) := by decide +kernel
theorem dX1_init_1 : decode cX1_init 1 = .ok (.invokespecial 3, 3) := by decide +kernel
theorem dX1_init_4 : decode cX1_init 4 = .ok (.aload_n 0, 1) := by decide +kernel
theorem dX1_init_5 : decode cX1_init 5 = .ok (.new 9, 3) := by decide +kernel
theorem dX1_init_8 : decode cX1_init 8 = .ok (.dup, 1) := by decide +kernel
theorem dX1_init_9 : decode cX1_init 9 = .ok (.sipush 256, 3) := by decide +kernel
theorem dX1_init_12 : decode cX1_init 12 = .ok (.ldc 13, 2) := by decide +kernel
theorem dX1_init_14 : decode cX1_init 14 = .ok (.invokespecial 14, 3) := by decide +kernel
theorem dX1_init_17 : decode cX1_init 17 = .ok (.putfield 17, 3) := by decide +kernel
theorem dX1_init_20 : decode cX1_init 20 = .ok (.aload_n 0, 1) := by decide +kernel
theorem dX1_init_21 : decode cX1_init 21 = .ok (.new 9, 3) := by decide +kernel
theorem dX1_init_24 : decode cX1_init 24 = .ok (.dup, 1) := by decide +kernel
theorem dX1_init_25 : decode cX1_init 25 = .ok (.bipush 32, 2) := by decide +kernel
theorem dX1_init_27 : decode cX1_init 27 = .ok (.ldc 21, 2) := by decide +kernel
theorem dX1_init_29 : decode cX1_init 29 = .ok (.invokespecial 14, 3) := by decide +kernel
theorem dX1_init_32 : decode cX1_init 32 = .ok (.putfield 22, 3) := by decide +kernel
theorem dX1_init_35 : decode cX1_init 35 = .ok (.aload_n 0, 1) := by decide +kernel
theorem dX1_init_36 : decode cX1_init 36 = .ok (.new 9, 3) := by decide +kernel
theorem dX1_init_39 : decode cX1_init 39 = .ok (.dup, 1) := by decide +kernel
theorem dX1_init_40 : decode cX1_init 40 = .ok (.bipush 32, 2) := by decide +kernel
theorem dX1_init_42 : decode cX1_init 42 = .ok (.ldc 21, 2) := by decide +kernel
theorem dX1_init_44 : decode cX1_init 44 = .ok (.invokespecial 14, 3) := by decide +kernel
theorem dX1_init_47 : decode cX1_init 47 = .ok (.putfield 25, 3) := by decide +kernel
theorem dX1_init_50 : decode cX1_init 50 = .ok (.aload_n 0, 1) := by decide +kernel
theorem dX1_init_51 : decode cX1_init 51 = .ok (.new 9, 3) := by decide +kernel
theorem dX1_init_54 : decode cX1_init 54 = .ok (.dup, 1) := by decide +kernel
theorem dX1_init_55 : decode cX1_init 55 = .ok (.bipush 32, 2) := by decide +kernel
theorem dX1_init_57 : decode cX1_init 57 = .ok (.ldc 21, 2) := by decide +kernel
theorem dX1_init_59 : decode cX1_init 59 = .ok (.invokespecial 14, 3) := by decide +kernel
theorem dX1_init_62 : decode cX1_init 62 = .ok (.putfield 28, 3) := by decide +kernel
theorem dX1_init_65 : decode cX1_init 65 = .ok (.aload_n 0, 1) := by decide +kernel
theorem dX1_init_66 : decode cX1_init 66 = .ok (.new 9, 3) := by decide +kernel
theorem dX1_init_69 : decode cX1_init 69 = .ok (.dup, 1) := by decide +kernel
theorem dX1_init_70 : decode cX1_init 70 = .ok (.sipush 256, 3) := by decide +kernel
theorem dX1_init_73 : decode cX1_init 73 = .ok (.sipush 256, 3) := by decide +kernel
theorem dX1_init_76 : decode cX1_init 76 = .ok (.invokespecial 14, 3) := by decide +kernel
theorem dX1_init_79 : decode cX1_init 79 = .ok (.putfield 31, 3) := by decide +kernel
theorem dX1_init_82 : decode cX1_init 82 = .ok (.aload_n 0, 1) := by decide +kernel
theorem dX1_init_83 : decode cX1_init 83 = .ok (.new 9, 3) := by decide +kernel
theorem dX1_init_86 : decode cX1_init 86 = .ok (.dup, 1) := by decide +kernel
theorem dX1_init_87 : decode cX1_init 87 = .ok (.bipush 30, 2) := by decide +kernel
theorem dX1_init_89 : decode cX1_init 89 = .ok (.bipush 30, 2) := by decide +kernel
theorem dX1_init_91 : decode cX1_init 91 = .ok (.invokespecial 14, 3) := by decide +kernel
theorem dX1_init_94 : decode cX1_init 94 = .ok (.putfield 34, 3) := by decide +kernel
theorem dX1_init_97 : decode cX1_init 97 = .ok (.aload_n 0, 1) := by decide +kernel
theorem dX1_init_98 : decode cX1_init 98 = .ok (.new 9, 3) := by decide +kernel
theorem dX1_init_101 : decode cX1_init 101 = .ok (.dup, 1) := by decide +kernel
theorem dX1_init_102 : decode cX1_init 102 = .ok (.bipush 30, 2) := by decide +kernel
theorem dX1_init_104 : decode cX1_init 104 = .ok (.bipush 30, 2) := by decide +kernel
theorem dX1_init_106 : decode cX1_init 106 = .ok (.invokespecial 14, 3) := by decide +kernel
theorem dX1_init_109 : decode cX1_init 109 = .ok (.putfield 37, 3) := by decide +kernel
theorem dX1_init_112 : decode cX1_init 112 = .ok (.aload_n 0, 1) := by decide +kernel
theorem dX1_init_113 : decode cX1_init 113 = .ok (.new 9, 3) := by decide +kernel
theorem dX1_init_116 : decode cX1_init 116 = .ok (.dup, 1) := by decide +kernel
theorem dX1_init_117 : decode cX1_init 117 = .ok (.bipush 30, 2) := by decide +kernel
theorem dX1_init_119 : decode cX1_init 119 = .ok (.bipush 30, 2) := by decide +kernel
theorem dX1_init_121 : decode cX1_init 121 = .ok (.invokespecial 14, 3) := by decide +kernel
theorem dX1_init_124 : decode cX1_init 124 = .ok (.putfield 40, 3) := by decide +kernel
theorem dX1_init_127 : decode cX1_init 127 = .ok (.aload_n 0, 1) := by decide +kernel
theorem dX1_init_128 : decode cX1_init 128 = .ok (.iconst (-1), 1) := by decide +kernel
theorem dX1_init_129 : decode cX1_init 129 = .ok (.putfield 43, 3) := by decide +kernel
theorem dX1_init_132 : decode cX1_init 132 = .ok (.return_, 1) := by decide +kernel
set_option maxRecDepth 100000 in
set_option maxHeartbeats 4000000 in
theorem c_X1_init {hp : List gA} {n : Nat}  (hn : hp.length = n) : gM yX1_init cX1_init 1 (none) 2 43 [.ref (n + 0)] (hp ++ [.inr (.inr (1, [.null, .null, .null, .null, .null, .null, .null, .null, .int 0]))]) (16) (722) (fun v h => v = none ∧ h = hp ++ [.inr (.inr (1, [.ref (n + 1), .ref (n + 3), .ref (n + 5), .ref (n + 7), .ref (n + 9), .ref (n + 11), .ref (n + 13), .ref (n + 15), .int ((-1))])), .inr (.inr (4, [.ref (n + 2), .int 0, .int 1048576])), .inl (256, fun _ => 0), .inr (.inr (4, [.ref (n + 4), .int 0, .int 65536])), .inl (32, fun _ => 0), .inr (.inr (4, [.ref (n + 6), .int 0, .int 65536])), .inl (32, fun _ => 0), .inr (.inr (4, [.ref (n + 8), .int 0, .int 65536])), .inl (32, fun _ => 0), .inr (.inr (4, [.ref (n + 10), .int 0, .int 256])), .inl (256, fun _ => 0), .inr (.inr (4, [.ref (n + 12), .int 0, .int 30])), .inl (30, fun _ => 0), .inr (.inr (4, [.ref (n + 14), .int 0, .int 30])), .inl (30, fun _ => 0), .inr (.inr (4, [.ref (n + 16), .int 0, .int 30])), .inl (30, fun _ => 0)]) := by
  refine gM_of (ls0 := [some (.ref (n + 0))]) (by decide +kernel) (Nat.le_of_ble_eq_true rfl) rfl fun X C E => ?_
  refine g_aload_n (q := 1) C dX1_init_0 rfl rfl ?_
  refine g_objInit (q := 4) C t_90 t_63 t_64 dX1_init_1 rfl rfl (Nat.le_of_ble_eq_true rfl) (Nat.le_of_ble_eq_true rfl) ?_
  refine g_aload_n (q := 5) C dX1_init_4 rfl rfl ?_
  refine g_new (q := 8) (k := n + 1) C nX1_9 dX1_init_5 rfl (by rw [List.length_append, hn]; rfl) (Nat.le_of_ble_eq_true rfl) (Nat.le_of_ble_eq_true rfl) ?_
  refine g_heap (hp2 := hp ++ [.inr (.inr (1, [.null, .null, .null, .null, .null, .null, .null, .null, .int 0])), .inr (.inr (4, [.null, .int 0, .int 0]))]) (by simp only [List.append_assoc, List.cons_append, List.nil_append]) ?_
  refine g_dup (q := 9) C dX1_init_8 rfl rfl ?_
  refine g_sipush (v := 256) (q := 12) C dX1_init_9 (by decide) rfl ?_
  refine g_ldc (q := 14) C t_92 dX1_init_12 rfl ?_
  refine g_heap (hp2 := (hp ++ [.inr (.inr (1, [.null, .null, .null, .null, .null, .null, .null, .null, .int 0]))]) ++ [.inr (.inr (4, [.null, .int 0, .int 0]))]) (by simp only [List.append_assoc, List.cons_append, List.nil_append]) ?_
  refine g_callIv (q := 17) (As := [.int 256, .int 1048576]) C gyX4_init giX4_init rfl t_93 (c_X4_init (n := n + 1) (N := 256) (first := 256) (by rw [List.length_append, hn]; rfl) (by decide) (by decide)) dX1_init_14 rfl rfl rfl (Nat.le_of_ble_eq_true rfl) (Nat.le_of_ble_eq_true rfl) (Nat.le_of_ble_eq_true rfl) (Nat.le_of_ble_eq_true rfl) (Nat.le_of_ble_eq_true rfl) rfl ?_
  refine g_heap (hp2 := hp ++ [.inr (.inr (1, [.null, .null, .null, .null, .null, .null, .null, .null, .int 0])), .inr (.inr (4, [.ref (n + 2), .int 0, .int 1048576])), .inl (256, fun _ => 0)]) (by simp only [List.append_assoc, List.cons_append, List.nil_append, Nat.add_assoc, Nat.reduceAdd, Nat.add_zero]) ?_
  refine g_putE (q := 20) (hp' := hp ++ [.inr (.inr (1, [.ref (n + 1), .null, .null, .null, .null, .null, .null, .null, .int 0])), .inr (.inr (4, [.ref (n + 2), .int 0, .int 1048576])), .inl (256, fun _ => 0)]) C fX1_17 dX1_init_17 rfl (gapp_new hn rfl) (Nat.le_of_ble_eq_true rfl) (Or.inr rfl) rfl rfl (by intro z h; cases h) rfl (gapp_set hn) ?_
  refine g_aload_n (q := 21) C dX1_init_20 rfl rfl ?_
  refine g_new (q := 24) (k := n + 3) C nX1_9 dX1_init_21 rfl (by rw [List.length_append, hn]; rfl) (Nat.le_of_ble_eq_true rfl) (Nat.le_of_ble_eq_true rfl) ?_
  refine g_heap (hp2 := hp ++ [.inr (.inr (1, [.ref (n + 1), .null, .null, .null, .null, .null, .null, .null, .int 0])), .inr (.inr (4, [.ref (n + 2), .int 0, .int 1048576])), .inl (256, fun _ => 0), .inr (.inr (4, [.null, .int 0, .int 0]))]) (by simp only [List.append_assoc, List.cons_append, List.nil_append]) ?_
  refine g_dup (q := 25) C dX1_init_24 rfl rfl ?_
  refine g_bipush (v := 32) (q := 27) C dX1_init_25 (by decide) rfl ?_
  refine g_ldc (q := 29) C t_94 dX1_init_27 rfl ?_
  refine g_heap (hp2 := (hp ++ [.inr (.inr (1, [.ref (n + 1), .null, .null, .null, .null, .null, .null, .null, .int 0])), .inr (.inr (4, [.ref (n + 2), .int 0, .int 1048576])), .inl (256, fun _ => 0)]) ++ [.inr (.inr (4, [.null, .int 0, .int 0]))]) (by simp only [List.append_assoc, List.cons_append, List.nil_append]) ?_
  refine g_callIv (q := 32) (As := [.int 32, .int 65536]) C gyX4_init giX4_init rfl t_93 (c_X4_init (n := n + 3) (N := 32) (first := 32) (by rw [List.length_append, hn]; rfl) (by decide) (by decide)) dX1_init_29 rfl rfl rfl (Nat.le_of_ble_eq_true rfl) (Nat.le_of_ble_eq_true rfl) (Nat.le_of_ble_eq_true rfl) (Nat.le_of_ble_eq_true rfl) (Nat.le_of_ble_eq_true rfl) rfl ?_
  refine g_heap (hp2 := hp ++ [.inr (.inr (1, [.ref (n + 1), .null, .null, .null, .null, .null, .null, .null, .int 0])), .inr (.inr (4, [.ref (n + 2), .int 0, .int 1048576])), .inl (256, fun _ => 0), .inr (.inr (4, [.ref (n + 4), .int 0, .int 65536])), .inl (32, fun _ => 0)]) (by simp only [List.append_assoc, List.cons_append, List.nil_append, Nat.add_assoc, Nat.reduceAdd, Nat.add_zero]) ?_
  refine g_putE (q := 35) (hp' := hp ++ [.inr (.inr (1, [.ref (n + 1), .ref (n + 3), .null, .null, .null, .null, .null, .null, .int 0])), .inr (.inr (4, [.ref (n + 2), .int 0, .int 1048576])), .inl (256, fun _ => 0), .inr (.inr (4, [.ref (n + 4), .int 0, .int 65536])), .inl (32, fun _ => 0)]) C fX1_22 dX1_init_32 rfl (gapp_new hn rfl) (Nat.le_of_ble_eq_true rfl) (Or.inr rfl) rfl rfl (by intro z h; cases h) rfl (gapp_set hn) ?_
  refine g_aload_n (q := 36) C dX1_init_35 rfl rfl ?_
  refine g_new (q := 39) (k := n + 5) C nX1_9 dX1_init_36 rfl (by rw [List.length_append, hn]; rfl) (Nat.le_of_ble_eq_true rfl) (Nat.le_of_ble_eq_true rfl) ?_
  refine g_heap (hp2 := hp ++ [.inr (.inr (1, [.ref (n + 1), .ref (n + 3), .null, .null, .null, .null, .null, .null, .int 0])), .inr (.inr (4, [.ref (n + 2), .int 0, .int 1048576])), .inl (256, fun _ => 0), .inr (.inr (4, [.ref (n + 4), .int 0, .int 65536])), .inl (32, fun _ => 0), .inr (.inr (4, [.null, .int 0, .int 0]))]) (by simp only [List.append_assoc, List.cons_append, List.nil_append]) ?_
  refine g_dup (q := 40) C dX1_init_39 rfl rfl ?_
  refine g_bipush (v := 32) (q := 42) C dX1_init_40 (by decide) rfl ?_
  refine g_ldc (q := 44) C t_94 dX1_init_42 rfl ?_
  refine g_heap (hp2 := (hp ++ [.inr (.inr (1, [.ref (n + 1), .ref (n + 3), .null, .null, .null, .null, .null, .null, .int 0])), .inr (.inr (4, [.ref (n + 2), .int 0, .int 1048576])), .inl (256, fun _ => 0), .inr (.inr (4, [.ref (n + 4), .int 0, .int 65536])), .inl (32, fun _ => 0)]) ++ [.inr (.inr (4, [.null, .int 0, .int 0]))]) (by simp only [List.append_assoc, List.cons_append, List.nil_append]) ?_
  refine g_callIv (q := 47) (As := [.int 32, .int 65536]) C gyX4_init giX4_init rfl t_93 (c_X4_init (n := n + 5) (N := 32) (first := 32) (by rw [List.length_append, hn]; rfl) (by decide) (by decide)) dX1_init_44 rfl rfl rfl (Nat.le_of_ble_eq_true rfl) (Nat.le_of_ble_eq_true rfl) (Nat.le_of_ble_eq_true rfl) (Nat.le_of_ble_eq_true rfl) (Nat.le_of_ble_eq_true rfl) rfl ?_
  refine g_heap (hp2 := hp ++ [.inr (.inr (1, [.ref (n + 1), .ref (n + 3), .null, .null, .null, .null, .null, .null, .int 0])), .inr (.inr (4, [.ref (n + 2), .int 0, .int 1048576])), .inl (256, fun _ => 0), .inr (.inr (4, [.ref (n + 4), .int 0, .int 65536])), .inl (32, fun _ => 0), .inr (.inr (4, [.ref (n + 6), .int 0, .int 65536])), .inl (32, fun _ => 0)]) (by simp only [List.append_assoc, List.cons_append, List.nil_append, Nat.add_assoc, Nat.reduceAdd, Nat.add_zero]) ?_
  refine g_putE (q := 50) (hp' := hp ++ [.inr (.inr (1, [.ref (n + 1), .ref (n + 3), .ref (n + 5), .null, .null, .null, .null, .null, .int 0])), .inr (.inr (4, [.ref (n + 2), .int 0, .int 1048576])), .inl (256, fun _ => 0), .inr (.inr (4, [.ref (n + 4), .int 0, .int 65536])), .inl (32, fun _ => 0), .inr (.inr (4, [.ref (n + 6), .int 0, .int 65536])), .inl (32, fun _ => 0)]) C fX1_25 dX1_init_47 rfl (gapp_new hn rfl) (Nat.le_of_ble_eq_true rfl) (Or.inr rfl) rfl rfl (by intro z h; cases h) rfl (gapp_set hn) ?_
  refine g_aload_n (q := 51) C dX1_init_50 rfl rfl ?_
  refine g_new (q := 54) (k := n + 7) C nX1_9 dX1_init_51 rfl (by rw [List.length_append, hn]; rfl) (Nat.le_of_ble_eq_true rfl) (Nat.le_of_ble_eq_true rfl) ?_
  refine g_heap (hp2 := hp ++ [.inr (.inr (1, [.ref (n + 1), .ref (n + 3), .ref (n + 5), .null, .null, .null, .null, .null, .int 0])), .inr (.inr (4, [.ref (n + 2), .int 0, .int 1048576])), .inl (256, fun _ => 0), .inr (.inr (4, [.ref (n + 4), .int 0, .int 65536])), .inl (32, fun _ => 0), .inr (.inr (4, [.ref (n + 6), .int 0, .int 65536])), .inl (32, fun _ => 0), .inr (.inr (4, [.null, .int 0, .int 0]))]) (by simp only [List.append_assoc, List.cons_append, List.nil_append]) ?_
  refine g_dup (q := 55) C dX1_init_54 rfl rfl ?_
  refine g_bipush (v := 32) (q := 57) C dX1_init_55 (by decide) rfl ?_
  refine g_ldc (q := 59) C t_94 dX1_init_57 rfl ?_
  refine g_heap (hp2 := (hp ++ [.inr (.inr (1, [.ref (n + 1), .ref (n + 3), .ref (n + 5), .null, .null, .null, .null, .null, .int 0])), .inr (.inr (4, [.ref (n + 2), .int 0, .int 1048576])), .inl (256, fun _ => 0), .inr (.inr (4, [.ref (n + 4), .int 0, .int 65536])), .inl (32, fun _ => 0), .inr (.inr (4, [.ref (n + 6), .int 0, .int 65536])), .inl (32, fun _ => 0)]) ++ [.inr (.inr (4, [.null, .int 0, .int 0]))]) (by simp only [List.append_assoc, List.cons_append, List.nil_append]) ?_
  refine g_callIv (q := 62) (As := [.int 32, .int 65536]) C gyX4_init giX4_init rfl t_93 (c_X4_init (n := n + 7) (N := 32) (first := 32) (by rw [List.length_append, hn]; rfl) (by decide) (by decide)) dX1_init_59 rfl rfl rfl (Nat.le_of_ble_eq_true rfl) (Nat.le_of_ble_eq_true rfl) (Nat.le_of_ble_eq_true rfl) (Nat.le_of_ble_eq_true rfl) (Nat.le_of_ble_eq_true rfl) rfl ?_
  refine g_heap (hp2 := hp ++ [.inr (.inr (1, [.ref (n + 1), .ref (n + 3), .ref (n + 5), .null, .null, .null, .null, .null, .int 0])), .inr (.inr (4, [.ref (n + 2), .int 0, .int 1048576])), .inl (256, fun _ => 0), .inr (.inr (4, [.ref (n + 4), .int 0, .int 65536])), .inl (32, fun _ => 0), .inr (.inr (4, [.ref (n + 6), .int 0, .int 65536])), .inl (32, fun _ => 0), .inr (.inr (4, [.ref (n + 8), .int 0, .int 65536])), .inl (32, fun _ => 0)]) (by simp only [List.append_assoc, List.cons_append, List.nil_append, Nat.add_assoc, Nat.reduceAdd, Nat.add_zero]) ?_
  refine g_putE (q := 65) (hp' := hp ++ [.inr (.inr (1, [.ref (n + 1), .ref (n + 3), .ref (n + 5), .ref (n + 7), .null, .null, .null, .null, .int 0])), .inr (.inr (4, [.ref (n + 2), .int 0, .int 1048576])), .inl (256, fun _ => 0), .inr (.inr (4, [.ref (n + 4), .int 0, .int 65536])), .inl (32, fun _ => 0), .inr (.inr (4, [.ref (n + 6), .int 0, .int 65536])), .inl (32, fun _ => 0), .inr (.inr (4, [.ref (n + 8), .int 0, .int 65536])), .inl (32, fun _ => 0)]) C fX1_28 dX1_init_62 rfl (gapp_new hn rfl) (Nat.le_of_ble_eq_true rfl) (Or.inr rfl) rfl rfl (by intro z h; cases h) rfl (gapp_set hn) ?_
  refine g_aload_n (q := 66) C dX1_init_65 rfl rfl ?_
  refine g_new (q := 69) (k := n + 9) C nX1_9 dX1_init_66 rfl (by rw [List.length_append, hn]; rfl) (Nat.le_of_ble_eq_true rfl) (Nat.le_of_ble_eq_true rfl) ?_
  refine g_heap (hp2 := hp ++ [.inr (.inr (1, [.ref (n + 1), .ref (n + 3), .ref (n + 5), .ref (n + 7), .null, .null, .null, .null, .int 0])), .inr (.inr (4, [.ref (n + 2), .int 0, .int 1048576])), .inl (256, fun _ => 0), .inr (.inr (4, [.ref (n + 4), .int 0, .int 65536])), .inl (32, fun _ => 0), .inr (.inr (4, [.ref (n + 6), .int 0, .int 65536])), .inl (32, fun _ => 0), .inr (.inr (4, [.ref (n + 8), .int 0, .int 65536])), .inl (32, fun _ => 0), .inr (.inr (4, [.null, .int 0, .int 0]))]) (by simp only [List.append_assoc, List.cons_append, List.nil_append]) ?_
  refine g_dup (q := 70) C dX1_init_69 rfl rfl ?_
  refine g_sipush (v := 256) (q := 73) C dX1_init_70 (by decide) rfl ?_
  refine g_sipush (v := 256) (q := 76) C dX1_init_73 (by decide) rfl ?_
  refine g_heap (hp2 := (hp ++ [.inr (.inr (1, [.ref (n + 1), .ref (n + 3), .ref (n + 5), .ref (n + 7), .null, .null, .null, .null, .int 0])), .inr (.inr (4, [.ref (n + 2), .int 0, .int 1048576])), .inl (256, fun _ => 0), .inr (.inr (4, [.ref (n + 4), .int 0, .int 65536])), .inl (32, fun _ => 0), .inr (.inr (4, [.ref (n + 6), .int 0, .int 65536])), .inl (32, fun _ => 0), .inr (.inr (4, [.ref (n + 8), .int 0, .int 65536])), .inl (32, fun _ => 0)]) ++ [.inr (.inr (4, [.null, .int 0, .int 0]))]) (by simp only [List.append_assoc, List.cons_append, List.nil_append]) ?_
  refine g_callIv (q := 79) (As := [.int 256, .int 256]) C gyX4_init giX4_init rfl t_93 (c_X4_init (n := n + 9) (N := 256) (first := 256) (by rw [List.length_append, hn]; rfl) (by decide) (by decide)) dX1_init_76 rfl rfl rfl (Nat.le_of_ble_eq_true rfl) (Nat.le_of_ble_eq_true rfl) (Nat.le_of_ble_eq_true rfl) (Nat.le_of_ble_eq_true rfl) (Nat.le_of_ble_eq_true rfl) rfl ?_
  refine g_heap (hp2 := hp ++ [.inr (.inr (1, [.ref (n + 1), .ref (n + 3), .ref (n + 5), .ref (n + 7), .null, .null, .null, .null, .int 0])), .inr (.inr (4, [.ref (n + 2), .int 0, .int 1048576])), .inl (256, fun _ => 0), .inr (.inr (4, [.ref (n + 4), .int 0, .int 65536])), .inl (32, fun _ => 0), .inr (.inr (4, [.ref (n + 6), .int 0, .int 65536])), .inl (32, fun _ => 0), .inr (.inr (4, [.ref (n + 8), .int 0, .int 65536])), .inl (32, fun _ => 0), .inr (.inr (4, [.ref (n + 10), .int 0, .int 256])), .inl (256, fun _ => 0)]) (by simp only [List.append_assoc, List.cons_append, List.nil_append, Nat.add_assoc, Nat.reduceAdd, Nat.add_zero]) ?_
  refine g_putE (q := 82) (hp' := hp ++ [.inr (.inr (1, [.ref (n + 1), .ref (n + 3), .ref (n + 5), .ref (n + 7), .ref (n + 9), .null, .null, .null, .int 0])), .inr (.inr (4, [.ref (n + 2), .int 0, .int 1048576])), .inl (256, fun _ => 0), .inr (.inr (4, [.ref (n + 4), .int 0, .int 65536])), .inl (32, fun _ => 0), .inr (.inr (4, [.ref (n + 6), .int 0, .int 65536])), .inl (32, fun _ => 0), .inr (.inr (4, [.ref (n + 8), .int 0, .int 65536])), .inl (32, fun _ => 0), .inr (.inr (4, [.ref (n + 10), .int 0, .int 256])), .inl (256, fun _ => 0)]) C fX1_31 dX1_init_79 rfl (gapp_new hn rfl) (Nat.le_of_ble_eq_true rfl) (Or.inr rfl) rfl rfl (by intro z h; cases h) rfl (gapp_set hn) ?_
  refine g_aload_n (q := 83) C dX1_init_82 rfl rfl ?_
  refine g_new (q := 86) (k := n + 11) C nX1_9 dX1_init_83 rfl (by rw [List.length_append, hn]; rfl) (Nat.le_of_ble_eq_true rfl) (Nat.le_of_ble_eq_true rfl) ?_
  refine g_heap (hp2 := hp ++ [.inr (.inr (1, [.ref (n + 1), .ref (n + 3), .ref (n + 5), .ref (n + 7), .ref (n + 9), .null, .null, .null, .int 0])), .inr (.inr (4, [.ref (n + 2), .int 0, .int 1048576])), .inl (256, fun _ => 0), .inr (.inr (4, [.ref (n + 4), .int 0, .int 65536])), .inl (32, fun _ => 0), .inr (.inr (4, [.ref (n + 6), .int 0, .int 65536])), .inl (32, fun _ => 0), .inr (.inr (4, [.ref (n + 8), .int 0, .int 65536])), .inl (32, fun _ => 0), .inr (.inr (4, [.ref (n + 10), .int 0, .int 256])), .inl (256, fun _ => 0), .inr (.inr (4, [.null, .int 0, .int 0]))]) (by simp only [List.append_assoc, List.cons_append, List.nil_append]) ?_
  refine g_dup (q := 87) C dX1_init_86 rfl rfl ?_
  refine g_bipush (v := 30) (q := 89) C dX1_init_87 (by decide) rfl ?_
  refine g_bipush (v := 30) (q := 91) C dX1_init_89 (by decide) rfl ?_
  refine g_heap (hp2 := (hp ++ [.inr (.inr (1, [.ref (n + 1), .ref (n + 3), .ref (n + 5), .ref (n + 7), .ref (n + 9), .null, .null, .null, .int 0])), .inr (.inr (4, [.ref (n + 2), .int 0, .int 1048576])), .inl (256, fun _ => 0), .inr (.inr (4, [.ref (n + 4), .int 0, .int 65536])), .inl (32, fun _ => 0), .inr (.inr (4, [.ref (n + 6), .int 0, .int 65536])), .inl (32, fun _ => 0), .inr (.inr (4, [.ref (n + 8), .int 0, .int 65536])), .inl (32, fun _ => 0), .inr (.inr (4, [.ref (n + 10), .int 0, .int 256])), .inl (256, fun _ => 0)]) ++ [.inr (.inr (4, [.null, .int 0, .int 0]))]) (by simp only [List.append_assoc, List.cons_append, List.nil_append]) ?_
  refine g_callIv (q := 94) (As := [.int 30, .int 30]) C gyX4_init giX4_init rfl t_93 (c_X4_init (n := n + 11) (N := 30) (first := 30) (by rw [List.length_append, hn]; rfl) (by decide) (by decide)) dX1_init_91 rfl rfl rfl (Nat.le_of_ble_eq_true rfl) (Nat.le_of_ble_eq_true rfl) (Nat.le_of_ble_eq_true rfl) (Nat.le_of_ble_eq_true rfl) (Nat.le_of_ble_eq_true rfl) rfl ?_
  refine g_heap (hp2 := hp ++ [.inr (.inr (1, [.ref (n + 1), .ref (n + 3), .ref (n + 5), .ref (n + 7), .ref (n + 9), .null, .null, .null, .int 0])), .inr (.inr (4, [.ref (n + 2), .int 0, .int 1048576])), .inl (256, fun _ => 0), .inr (.inr (4, [.ref (n + 4), .int 0, .int 65536])), .inl (32, fun _ => 0), .inr (.inr (4, [.ref (n + 6), .int 0, .int 65536])), .inl (32, fun _ => 0), .inr (.inr (4, [.ref (n + 8), .int 0, .int 65536])), .inl (32, fun _ => 0), .inr (.inr (4, [.ref (n + 10), .int 0, .int 256])), .inl (256, fun _ => 0), .inr (.inr (4, [.ref (n + 12), .int 0, .int 30])), .inl (30, fun _ => 0)]) (by simp only [List.append_assoc, List.cons_append, List.nil_append, Nat.add_assoc, Nat.reduceAdd, Nat.add_zero]) ?_
  refine g_putE (q := 97) (hp' := hp ++ [.inr (.inr (1, [.ref (n + 1), .ref (n + 3), .ref (n + 5), .ref (n + 7), .ref (n + 9), .ref (n + 11), .null, .null, .int 0])), .inr (.inr (4, [.ref (n + 2), .int 0, .int 1048576])), .inl (256, fun _ => 0), .inr (.inr (4, [.ref (n + 4), .int 0, .int 65536])), .inl (32, fun _ => 0), .inr (.inr (4, [.ref (n + 6), .int 0, .int 65536])), .inl (32, fun _ => 0), .inr (.inr (4, [.ref (n + 8), .int 0, .int 65536])), .inl (32, fun _ => 0), .inr (.inr (4, [.ref (n + 10), .int 0, .int 256])), .inl (256, fun _ => 0), .inr (.inr (4, [.ref (n + 12), .int 0, .int 30])), .inl (30, fun _ => 0)]) C fX1_34 dX1_init_94 rfl (gapp_new hn rfl) (Nat.le_of_ble_eq_true rfl) (Or.inr rfl) rfl rfl (by intro z h; cases h) rfl (gapp_set hn) ?_
  refine g_aload_n (q := 98) C dX1_init_97 rfl rfl ?_
  refine g_new (q := 101) (k := n + 13) C nX1_9 dX1_init_98 rfl (by rw [List.length_append, hn]; rfl) (Nat.le_of_ble_eq_true rfl) (Nat.le_of_ble_eq_true rfl) ?_
  refine g_heap (hp2 := hp ++ [.inr (.inr (1, [.ref (n + 1), .ref (n + 3), .ref (n + 5), .ref (n + 7), .ref (n + 9), .ref (n + 11), .null, .null, .int 0])), .inr (.inr (4, [.ref (n + 2), .int 0, .int 1048576])), .inl (256, fun _ => 0), .inr (.inr (4, [.ref (n + 4), .int 0, .int 65536])), .inl (32, fun _ => 0), .inr (.inr (4, [.ref (n + 6), .int 0, .int 65536])), .inl (32, fun _ => 0), .inr (.inr (4, [.ref (n + 8), .int 0, .int 65536])), .inl (32, fun _ => 0), .inr (.inr (4, [.ref (n + 10), .int 0, .int 256])), .inl (256, fun _ => 0), .inr (.inr (4, [.ref (n + 12), .int 0, .int 30])), .inl (30, fun _ => 0), .inr (.inr (4, [.null, .int 0, .int 0]))]) (by simp only [List.append_assoc, List.cons_append, List.nil_append]) ?_
  refine g_dup (q := 102) C dX1_init_101 rfl rfl ?_
  refine g_bipush (v := 30) (q := 104) C dX1_init_102 (by decide) rfl ?_
  refine g_bipush (v := 30) (q := 106) C dX1_init_104 (by decide) rfl ?_
  refine g_heap (hp2 := (hp ++ [.inr (.inr (1, [.ref (n + 1), .ref (n + 3), .ref (n + 5), .ref (n + 7), .ref (n + 9), .ref (n + 11), .null, .null, .int 0])), .inr (.inr (4, [.ref (n + 2), .int 0, .int 1048576])), .inl (256, fun _ => 0), .inr (.inr (4, [.ref (n + 4), .int 0, .int 65536])), .inl (32, fun _ => 0), .inr (.inr (4, [.ref (n + 6), .int 0, .int 65536])), .inl (32, fun _ => 0), .inr (.inr (4, [.ref (n + 8), .int 0, .int 65536])), .inl (32, fun _ => 0), .inr (.inr (4, [.ref (n + 10), .int 0, .int 256])), .inl (256, fun _ => 0), .inr (.inr (4, [.ref (n + 12), .int 0, .int 30])), .inl (30, fun _ => 0)]) ++ [.inr (.inr (4, [.null, .int 0, .int 0]))]) (by simp only [List.append_assoc, List.cons_append, List.nil_append]) ?_
  refine g_callIv (q := 109) (As := [.int 30, .int 30]) C gyX4_init giX4_init rfl t_93 (c_X4_init (n := n + 13) (N := 30) (first := 30) (by rw [List.length_append, hn]; rfl) (by decide) (by decide)) dX1_init_106 rfl rfl rfl (Nat.le_of_ble_eq_true rfl) (Nat.le_of_ble_eq_true rfl) (Nat.le_of_ble_eq_true rfl) (Nat.le_of_ble_eq_true rfl) (Nat.le_of_ble_eq_true rfl) rfl ?_
  refine g_heap (hp2 := hp ++ [.inr (.inr (1, [.ref (n + 1), .ref (n + 3), .ref (n + 5), .ref (n + 7), .ref (n + 9), .ref (n + 11), .null, .null, .int 0])), .inr (.inr (4, [.ref (n + 2), .int 0, .int 1048576])), .inl (256, fun _ => 0), .inr (.inr (4, [.ref (n + 4), .int 0, .int 65536])), .inl (32, fun _ => 0), .inr (.inr (4, [.ref (n + 6), .int 0, .int 65536])), .inl (32, fun _ => 0), .inr (.inr (4, [.ref (n + 8), .int 0, .int 65536])), .inl (32, fun _ => 0), .inr (.inr (4, [.ref (n + 10), .int 0, .int 256])), .inl (256, fun _ => 0), .inr (.inr (4, [.ref (n + 12), .int 0, .int 30])), .inl (30, fun _ => 0), .inr (.inr (4, [.ref (n + 14), .int 0, .int 30])), .inl (30, fun _ => 0)]) (by simp only [List.append_assoc, List.cons_append, List.nil_append, Nat.add_assoc, Nat.reduceAdd, Nat.add_zero]) ?_
  refine g_putE (q := 112) (hp' := hp ++ [.inr (.inr (1, [.ref (n + 1), .ref (n + 3), .ref (n + 5), .ref (n + 7), .ref (n + 9), .ref (n + 11), .ref (n + 13), .null, .int 0])), .inr (.inr (4, [.ref (n + 2), .int 0, .int 1048576])), .inl (256, fun _ => 0), .inr (.inr (4, [.ref (n + 4), .int 0, .int 65536])), .inl (32, fun _ => 0), .inr (.inr (4, [.ref (n + 6), .int 0, .int 65536])), .inl (32, fun _ => 0), .inr (.inr (4, [.ref (n + 8), .int 0, .int 65536])), .inl (32, fun _ => 0), .inr (.inr (4, [.ref (n + 10), .int 0, .int 256])), .inl (256, fun _ => 0), .inr (.inr (4, [.ref (n + 12), .int 0, .int 30])), .inl (30, fun _ => 0), .inr (.inr (4, [.ref (n + 14), .int 0, .int 30])), .inl (30, fun _ => 0)]) C fX1_37 dX1_init_109 rfl (gapp_new hn rfl) (Nat.le_of_ble_eq_true rfl) (Or.inr rfl) rfl rfl (by intro z h; cases h) rfl (gapp_set hn) ?_
  refine g_aload_n (q := 113) C dX1_init_112 rfl rfl ?_
  refine g_new (q := 116) (k := n + 15) C nX1_9 dX1_init_113 rfl (by rw [List.length_append, hn]; rfl) (Nat.le_of_ble_eq_true rfl) (Nat.le_of_ble_eq_true rfl) ?_
  refine g_heap (hp2 := hp ++ [.inr (.inr (1, [.ref (n + 1), .ref (n + 3), .ref (n + 5), .ref (n + 7), .ref (n + 9), .ref (n + 11), .ref (n + 13), .null, .int 0])), .inr (.inr (4, [.ref (n + 2), .int 0, .int 1048576])), .inl (256, fun _ => 0), .inr (.inr (4, [.ref (n + 4), .int 0, .int 65536])), .inl (32, fun _ => 0), .inr (.inr (4, [.ref (n + 6), .int 0, .int 65536])), .inl (32, fun _ => 0), .inr (.inr (4, [.ref (n + 8), .int 0, .int 65536])), .inl (32, fun _ => 0), .inr (.inr (4, [.ref (n + 10), .int 0, .int 256])), .inl (256, fun _ => 0), .inr (.inr (4, [.ref (n + 12), .int 0, .int 30])), .inl (30, fun _ => 0), .inr (.inr (4, [.ref (n + 14), .int 0, .int 30])), .inl (30, fun _ => 0), .inr (.inr (4, [.null, .int 0, .int 0]))]) (by simp only [List.append_assoc, List.cons_append, List.nil_append]) ?_
  refine g_dup (q := 117) C dX1_init_116 rfl rfl ?_
  refine g_bipush (v := 30) (q := 119) C dX1_init_117 (by decide) rfl ?_
  refine g_bipush (v := 30) (q := 121) C dX1_init_119 (by decide) rfl ?_
  refine g_heap (hp2 := (hp ++ [.inr (.inr (1, [.ref (n + 1), .ref (n + 3), .ref (n + 5), .ref (n + 7), .ref (n + 9), .ref (n + 11), .ref (n + 13), .null, .int 0])), .inr (.inr (4, [.ref (n + 2), .int 0, .int 1048576])), .inl (256, fun _ => 0), .inr (.inr (4, [.ref (n + 4), .int 0, .int 65536])), .inl (32, fun _ => 0), .inr (.inr (4, [.ref (n + 6), .int 0, .int 65536])), .inl (32, fun _ => 0), .inr (.inr (4, [.ref (n + 8), .int 0, .int 65536])), .inl (32, fun _ => 0), .inr (.inr (4, [.ref (n + 10), .int 0, .int 256])), .inl (256, fun _ => 0), .inr (.inr (4, [.ref (n + 12), .int 0, .int 30])), .inl (30, fun _ => 0), .inr (.inr (4, [.ref (n + 14), .int 0, .int 30])), .inl (30, fun _ => 0)]) ++ [.inr (.inr (4, [.null, .int 0, .int 0]))]) (by simp only [List.append_assoc, List.cons_append, List.nil_append]) ?_
  refine g_callIv (q := 124) (As := [.int 30, .int 30]) C gyX4_init giX4_init rfl t_93 (c_X4_init (n := n + 15) (N := 30) (first := 30) (by rw [List.length_append, hn]; rfl) (by decide) (by decide)) dX1_init_121 rfl rfl rfl (Nat.le_of_ble_eq_true rfl) (Nat.le_of_ble_eq_true rfl) (Nat.le_of_ble_eq_true rfl) (Nat.le_of_ble_eq_true rfl) (Nat.le_of_ble_eq_true rfl) rfl ?_
  refine g_heap (hp2 := hp ++ [.inr (.inr (1, [.ref (n + 1), .ref (n + 3), .ref (n + 5), .ref (n + 7), .ref (n + 9), .ref (n + 11), .ref (n + 13), .null, .int 0])), .inr (.inr (4, [.ref (n + 2), .int 0, .int 1048576])), .inl (256, fun _ => 0), .inr (.inr (4, [.ref (n + 4), .int 0, .int 65536])), .inl (32, fun _ => 0), .inr (.inr (4, [.ref (n + 6), .int 0, .int 65536])), .inl (32, fun _ => 0), .inr (.inr (4, [.ref (n + 8), .int 0, .int 65536])), .inl (32, fun _ => 0), .inr (.inr (4, [.ref (n + 10), .int 0, .int 256])), .inl (256, fun _ => 0), .inr (.inr (4, [.ref (n + 12), .int 0, .int 30])), .inl (30, fun _ => 0), .inr (.inr (4, [.ref (n + 14), .int 0, .int 30])), .inl (30, fun _ => 0), .inr (.inr (4, [.ref (n + 16), .int 0, .int 30])), .inl (30, fun _ => 0)]) (by simp only [List.append_assoc, List.cons_append, List.nil_append, Nat.add_assoc, Nat.reduceAdd, Nat.add_zero]) ?_
  refine g_putE (q := 127) (hp' := hp ++ [.inr (.inr (1, [.ref (n + 1), .ref (n + 3), .ref (n + 5), .ref (n + 7), .ref (n + 9), .ref (n + 11), .ref (n + 13), .ref (n + 15), .int 0])), .inr (.inr (4, [.ref (n + 2), .int 0, .int 1048576])), .inl (256, fun _ => 0), .inr (.inr (4, [.ref (n + 4), .int 0, .int 65536])), .inl (32, fun _ => 0), .inr (.inr (4, [.ref (n + 6), .int 0, .int 65536])), .inl (32, fun _ => 0), .inr (.inr (4, [.ref (n + 8), .int 0, .int 65536])), .inl (32, fun _ => 0), .inr (.inr (4, [.ref (n + 10), .int 0, .int 256])), .inl (256, fun _ => 0), .inr (.inr (4, [.ref (n + 12), .int 0, .int 30])), .inl (30, fun _ => 0), .inr (.inr (4, [.ref (n + 14), .int 0, .int 30])), .inl (30, fun _ => 0), .inr (.inr (4, [.ref (n + 16), .int 0, .int 30])), .inl (30, fun _ => 0)]) C fX1_40 dX1_init_124 rfl (gapp_new hn rfl) (Nat.le_of_ble_eq_true rfl) (Or.inr rfl) rfl rfl (by intro z h; cases h) rfl (gapp_set hn) ?_
  refine g_aload_n (q := 128) C dX1_init_127 rfl rfl ?_
  refine g_iconst (v := (-1)) (q := 129) C dX1_init_128 (by decide) rfl ?_
  refine g_putE (q := 132) (hp' := hp ++ [.inr (.inr (1, [.ref (n + 1), .ref (n + 3), .ref (n + 5), .ref (n + 7), .ref (n + 9), .ref (n + 11), .ref (n + 13), .ref (n + 15), .int ((-1))])), .inr (.inr (4, [.ref (n + 2), .int 0, .int 1048576])), .inl (256, fun _ => 0), .inr (.inr (4, [.ref (n + 4), .int 0, .int 65536])), .inl (32, fun _ => 0), .inr (.inr (4, [.ref (n + 6), .int 0, .int 65536])), .inl (32, fun _ => 0), .inr (.inr (4, [.ref (n + 8), .int 0, .int 65536])), .inl (32, fun _ => 0), .inr (.inr (4, [.ref (n + 10), .int 0, .int 256])), .inl (256, fun _ => 0), .inr (.inr (4, [.ref (n + 12), .int 0, .int 30])), .inl (30, fun _ => 0), .inr (.inr (4, [.ref (n + 14), .int 0, .int 30])), .inl (30, fun _ => 0), .inr (.inr (4, [.ref (n + 16), .int 0, .int 30])), .inl (30, fun _ => 0)]) C fX1_43 dX1_init_129 rfl (gapp_new hn rfl) (Nat.le_of_ble_eq_true rfl) (Or.inl rfl) rfl rfl (by intro z h; cases h) rfl (gapp_set hn) ?_
  exact E.2.1 _ _ _ _ _ dX1_init_132 rfl (Nat.le_of_ble_eq_true rfl) (Nat.le_of_ble_eq_true rfl) ⟨rfl, rfl⟩
theorem dX6_init_0 : decode cX6_init 0 = .ok (.aload_n 0, 1) := by decide +kernel
theorem dX6_init_1 : decode cX6_init 1 = .ok (.invokespecial 3, 3) := by decide +kernel
theorem dX6_init_4 : decode cX6_init 4 = .ok (.aload_n 0, 1) := by decide +kernel
theorem dX6_init_5 : decode cX6_init 5 = .ok (.iconst 1, 1) := by decide +kernel
theorem dX6_init_6 : decode cX6_init 6 = .ok (.putfield 9, 3) := by decide +kernel
theorem dX6_init_9 : decode cX6_init 9 = .ok (.aload_n 0, 1) := by decide +kernel
theorem dX6_init_10 : decode cX6_init 10 = .ok (.iconst 0, 1) := by decide +kernel
theorem dX6_init_11 : decode cX6_init 11 = .ok (.putfield 15, 3) := by decide +kernel
theorem dX6_init_14 : decode cX6_init 14 = .ok (.aload_n 0, 1) := by decide +kernel
theorem dX6_init_15 : decode cX6_init 15 = .ok (.iconst 0, 1) := by decide +kernel
theorem dX6_init_16 : decode cX6_init 16 = .ok (.putfield 18, 3) := by decide +kernel
theorem dX6_init_19 : decode cX6_init 19 = .ok (.aload_n 0, 1) := by decide +kernel
theorem dX6_init_20 : decode cX6_init 20 = .ok (.bipush 24, 2) := by decide +kernel
theorem dX6_init_22 : decode cX6_init 22 = .ok (.newarray .int, 2) := by decide +kernel
theorem dX6_init_24 : decode cX6_init 24 = .ok (.putfield 21, 3) := by decide +kernel
theorem dX6_init_27 : decode cX6_init 27 = .ok (.aload_n 0, 1) := by decide +kernel
theorem dX6_init_28 : decode cX6_init 28 = .ok (.bipush 24, 2) := by decide +kernel
theorem dX6_init_30 : decode cX6_init 30 = .ok (.newarray .int, 2) := by decide +kernel
theorem dX6_init_32 : decode cX6_init 32 = .ok (.putfield 25, 3) := by decide +kernel
theorem dX6_init_35 : decode cX6_init 35 = .ok (.aload_n 0, 1) := by decide +kernel
theorem dX6_init_36 : decode cX6_init 36 = .ok (.bipush 24, 2) := by decide +kernel
theorem dX6_init_38 : decode cX6_init 38 = .ok (.newarray .int, 2) := by decide +kernel
theorem dX6_init_40 : decode cX6_init 40 = .ok (.putfield 28, 3) := by decide +kernel
theorem dX6_init_43 : decode cX6_init 43 = .ok (.aload_n 0, 1) := by decide +kernel
theorem dX6_init_44 : decode cX6_init 44 = .ok (.iconst 0, 1) := by decide +kernel
theorem dX6_init_45 : decode cX6_init 45 = .ok (.putfield 31, 3) := by decide +kernel
theorem dX6_init_48 : decode cX6_init 48 = .ok (.aload_n 0, 1) := by decide +kernel
theorem dX6_init_49 : decode cX6_init 49 = .ok (.iconst (-1), 1) := by decide +kernel
theorem dX6_init_50 : decode cX6_init 50 = .ok (.putfield 34, 3) := by decide +kernel
theorem dX6_init_53 : decode cX6_init 53 = .ok (.aload_n 0, 1) := by decide +kernel
theorem dX6_init_54 : decode cX6_init 54 = .ok (.iconst 0, 1) := by decide +kernel
theorem dX6_init_55 : decode cX6_init 55 = .ok (.putfield 37, 3) := by decide +kernel
theorem dX6_init_58 : decode cX6_init 58 = .ok (.aload_n 0, 1) := by decide +kernel
theorem dX6_init_59 : decode cX6_init 59 = .ok (.iconst 0, 1) := by decide +kernel
theorem dX6_init_60 : decode cX6_init 60 = .ok (.putfield 40, 3) := by decide +kernel
theorem dX6_init_63 : decode cX6_init 63 = .ok (.return_, 1) := by decide +kernel
set_option maxRecDepth 100000 in
set_option maxHeartbeats 4000000 in
theorem c_X6_init {hp : List gA} {n : Nat}  (hn : hp.length = n) : gM yX6_init cX6_init 1 (none) 1 20 [.ref (n + 0)] (hp ++ [.inr (.inr (6, [.int 0, .int 0, .int 0, .null, .null, .null, .int 0, .int 0, .int 0, .int 0]))]) (3) (72) (fun v h => v = none ∧ h = hp ++ [.inr (.inr (6, [.int 1, .int 0, .int 0, .ref (n + 1), .ref (n + 2), .ref (n + 3), .int 0, .int ((-1)), .int 0, .int 0])), .inl (24, fun _ => 0), .inl (24, fun _ => 0), .inl (24, fun _ => 0)]) := by
  refine gM_of (ls0 := [some (.ref (n + 0))]) (by decide +kernel) (Nat.le_of_ble_eq_true rfl) rfl fun X C E => ?_
  refine g_aload_n (q := 1) C dX6_init_0 rfl rfl ?_
  refine g_objInit (q := 4) C t_199 t_63 t_64 dX6_init_1 rfl rfl (Nat.le_of_ble_eq_true rfl) (Nat.le_of_ble_eq_true rfl) ?_
  refine g_aload_n (q := 5) C dX6_init_4 rfl rfl ?_
  refine g_iconst (v := 1) (q := 6) C dX6_init_5 (by decide) rfl ?_
  refine g_putE (q := 9) (hp' := hp ++ [.inr (.inr (6, [.int 1, .int 0, .int 0, .null, .null, .null, .int 0, .int 0, .int 0, .int 0]))]) C fX6_9 dX6_init_6 rfl (gapp_new hn rfl) (Nat.le_of_ble_eq_true rfl) (Or.inl rfl) rfl rfl (by intro z h; cases h) rfl (gapp_set hn) ?_
  refine g_aload_n (q := 10) C dX6_init_9 rfl rfl ?_
  refine g_iconst (v := 0) (q := 11) C dX6_init_10 (by decide) rfl ?_
  refine g_putE (q := 14) (hp' := hp ++ [.inr (.inr (6, [.int 1, .int 0, .int 0, .null, .null, .null, .int 0, .int 0, .int 0, .int 0]))]) C fX6_15 dX6_init_11 rfl (gapp_new hn rfl) (Nat.le_of_ble_eq_true rfl) (Or.inl rfl) rfl rfl (by intro z h; cases h) rfl (gapp_set hn) ?_
  refine g_aload_n (q := 15) C dX6_init_14 rfl rfl ?_
  refine g_iconst (v := 0) (q := 16) C dX6_init_15 (by decide) rfl ?_
  refine g_putE (q := 19) (hp' := hp ++ [.inr (.inr (6, [.int 1, .int 0, .int 0, .null, .null, .null, .int 0, .int 0, .int 0, .int 0]))]) C fX6_18 dX6_init_16 rfl (gapp_new hn rfl) (Nat.le_of_ble_eq_true rfl) (Or.inl rfl) rfl rfl (by intro z h; cases h) rfl (gapp_set hn) ?_
  refine g_aload_n (q := 20) C dX6_init_19 rfl rfl ?_
  refine g_bipush (v := 24) (q := 22) C dX6_init_20 (by decide) rfl ?_
  refine g_newarray (q := 24) (k := n + 1) (N := 24) C t_84 dX6_init_22 rfl (by rw [List.length_append, hn]; rfl) (by decide) (by decide) (by decide) (Nat.le_of_ble_eq_true rfl) (Nat.le_of_ble_eq_true rfl) ?_
  refine g_heap (hp2 := hp ++ [.inr (.inr (6, [.int 1, .int 0, .int 0, .null, .null, .null, .int 0, .int 0, .int 0, .int 0])), .inl (24, fun _ => 0)]) (by simp only [List.append_assoc, List.cons_append, List.nil_append]) ?_
  refine g_putE (q := 27) (hp' := hp ++ [.inr (.inr (6, [.int 1, .int 0, .int 0, .ref (n + 1), .null, .null, .int 0, .int 0, .int 0, .int 0])), .inl (24, fun _ => 0)]) C fX6_21 dX6_init_24 rfl (gapp_new hn rfl) (Nat.le_of_ble_eq_true rfl) (Or.inr rfl) rfl rfl (by intro z h; cases h) rfl (gapp_set hn) ?_
  refine g_aload_n (q := 28) C dX6_init_27 rfl rfl ?_
  refine g_bipush (v := 24) (q := 30) C dX6_init_28 (by decide) rfl ?_
  refine g_newarray (q := 32) (k := n + 2) (N := 24) C t_84 dX6_init_30 rfl (by rw [List.length_append, hn]; rfl) (by decide) (by decide) (by decide) (Nat.le_of_ble_eq_true rfl) (Nat.le_of_ble_eq_true rfl) ?_
  refine g_heap (hp2 := hp ++ [.inr (.inr (6, [.int 1, .int 0, .int 0, .ref (n + 1), .null, .null, .int 0, .int 0, .int 0, .int 0])), .inl (24, fun _ => 0), .inl (24, fun _ => 0)]) (by simp only [List.append_assoc, List.cons_append, List.nil_append]) ?_
  refine g_putE (q := 35) (hp' := hp ++ [.inr (.inr (6, [.int 1, .int 0, .int 0, .ref (n + 1), .ref (n + 2), .null, .int 0, .int 0, .int 0, .int 0])), .inl (24, fun _ => 0), .inl (24, fun _ => 0)]) C fX6_25 dX6_init_32 rfl (gapp_new hn rfl) (Nat.le_of_ble_eq_true rfl) (Or.inr rfl) rfl rfl (by intro z h; cases h) rfl (gapp_set hn) ?_
  refine g_aload_n (q := 36) C dX6_init_35 rfl rfl ?_
  refine g_bipush (v := 24) (q := 38) C dX6_init_36 (by decide) rfl ?_
  refine g_newarray (q := 40) (k := n + 3) (N := 24) C t_84 dX6_init_38 rfl (by rw [List.length_append, hn]; rfl) (by decide) (by decide) (by decide) (Nat.le_of_ble_eq_true rfl) (Nat.le_of_ble_eq_true rfl) ?_
  refine g_heap (hp2 := hp ++ [.inr (.inr (6, [.int 1, .int 0, .int 0, .ref (n + 1), .ref (n + 2), .null, .int 0, .int 0, .int 0, .int 0])), .inl (24, fun _ => 0), .inl (24, fun _ => 0), .inl (24, fun _ => 0)]) (by simp only [List.append_assoc, List.cons_append, List.nil_append]) ?_
  refine g_putE (q := 43) (hp' := hp ++ [.inr (.inr (6, [.int 1, .int 0, .int 0, .ref (n + 1), .ref (n + 2), .ref (n + 3), .int 0, .int 0, .int 0, .int 0])), .inl (24, fun _ => 0), .inl (24, fun _ => 0), .inl (24, fun _ => 0)]) C fX6_28 dX6_init_40 rfl (gapp_new hn rfl) (Nat.le_of_ble_eq_true rfl) (Or.inr rfl) rfl rfl (by intro z h; cases h) rfl (gapp_set hn) ?_
  refine g_aload_n (q := 44) C dX6_init_43 rfl rfl ?_
  refine g_iconst (v := 0) (q := 45) C dX6_init_44 (by decide) rfl ?_
  refine g_putE (q := 48) (hp' := hp ++ [.inr (.inr (6, [.int 1, .int 0, .int 0, .ref (n + 1), .ref (n + 2), .ref (n + 3), .int 0, .int 0, .int 0, .int 0])), .inl (24, fun _ => 0), .inl (24, fun _ => 0), .inl (24, fun _ => 0)]) C fX6_31 dX6_init_45 rfl (gapp_new hn rfl) (Nat.le_of_ble_eq_true rfl) (Or.inl rfl) rfl rfl (by intro z h; cases h) rfl (gapp_set hn) ?_
  refine g_aload_n (q := 49) C dX6_init_48 rfl rfl ?_
  refine g_iconst (v := (-1)) (q := 50) C dX6_init_49 (by decide) rfl ?_
  refine g_putE (q := 53) (hp' := hp ++ [.inr (.inr (6, [.int 1, .int 0, .int 0, .ref (n + 1), .ref (n + 2), .ref (n + 3), .int 0, .int ((-1)), .int 0, .int 0])), .inl (24, fun _ => 0), .inl (24, fun _ => 0), .inl (24, fun _ => 0)]) C fX6_34 dX6_init_50 rfl (gapp_new hn rfl) (Nat.le_of_ble_eq_true rfl) (Or.inl rfl) rfl rfl (by intro z h; cases h) rfl (gapp_set hn) ?_
  refine g_aload_n (q := 54) C dX6_init_53 rfl rfl ?_
  refine g_iconst (v := 0) (q := 55) C dX6_init_54 (by decide) rfl ?_
  refine g_putE (q := 58) (hp' := hp ++ [.inr (.inr (6, [.int 1, .int 0, .int 0, .ref (n + 1), .ref (n + 2), .ref (n + 3), .int 0, .int ((-1)), .int 0, .int 0])), .inl (24, fun _ => 0), .inl (24, fun _ => 0), .inl (24, fun _ => 0)]) C fX6_37 dX6_init_55 rfl (gapp_new hn rfl) (Nat.le_of_ble_eq_true rfl) (Or.inl rfl) rfl rfl (by intro z h; cases h) rfl (gapp_set hn) ?_
  refine g_aload_n (q := 59) C dX6_init_58 rfl rfl ?_
  refine g_iconst (v := 0) (q := 60) C dX6_init_59 (by decide) rfl ?_
  refine g_putE (q := 63) (hp' := hp ++ [.inr (.inr (6, [.int 1, .int 0, .int 0, .ref (n + 1), .ref (n + 2), .ref (n + 3), .int 0, .int ((-1)), .int 0, .int 0])), .inl (24, fun _ => 0), .inl (24, fun _ => 0), .inl (24, fun _ => 0)]) C fX6_40 dX6_init_60 rfl (gapp_new hn rfl) (Nat.le_of_ble_eq_true rfl) (Or.inl rfl) rfl rfl (by intro z h; cases h) rfl (gapp_set hn) ?_
  exact E.2.1 _ _ _ _ _ dX6_init_63 rfl (Nat.le_of_ble_eq_true rfl) (Nat.le_of_ble_eq_true rfl) ⟨rfl, rfl⟩
theorem dX5_init_0 : decode cX5_init 0 = .ok (.aload_n 0, 1) := by decide +kernel
theorem dX5_init_1 : decode cX5_init 1 = .ok (.invokespecial 3, 3) := by decide +kernel
theorem dX5_init_4 : decode cX5_init 4 = .ok (.aload_n 0, 1) := by decide +kernel
theorem dX5_init_5 : decode cX5_init 5 = .ok (.iconst 0, 1) := by decide +kernel
theorem dX5_init_6 : decode cX5_init 6 = .ok (.putfield 9, 3) := by decide +kernel
theorem dX5_init_9 : decode cX5_init 9 = .ok (.aload_n 0, 1) := by decide +kernel
theorem dX5_init_10 : decode cX5_init 10 = .ok (.iconst 0, 1) := by decide +kernel
theorem dX5_init_11 : decode cX5_init 11 = .ok (.putfield 15, 3) := by decide +kernel
theorem dX5_init_14 : decode cX5_init 14 = .ok (.aload_n 0, 1) := by decide +kernel
theorem dX5_init_15 : decode cX5_init 15 = .ok (.bipush 32, 2) := by decide +kernel
theorem dX5_init_17 : decode cX5_init 17 = .ok (.putfield 18, 3) := by decide +kernel
theorem dX5_init_20 : decode cX5_init 20 = .ok (.aload_n 0, 1) := by decide +kernel
theorem dX5_init_21 : decode cX5_init 21 = .ok (.iconst 0, 1) := by decide +kernel
theorem dX5_init_22 : decode cX5_init 22 = .ok (.putfield 21, 3) := by decide +kernel
theorem dX5_init_25 : decode cX5_init 25 = .ok (.aload_n 0, 1) := by decide +kernel
theorem dX5_init_26 : decode cX5_init 26 = .ok (.iconst (-1), 1) := by decide +kernel
theorem dX5_init_27 : decode cX5_init 27 = .ok (.putfield 24, 3) := by decide +kernel
theorem dX5_init_30 : decode cX5_init 30 = .ok (.aload_n 0, 1) := by decide +kernel
theorem dX5_init_31 : decode cX5_init 31 = .ok (.iconst 0, 1) := by decide +kernel
theorem dX5_init_32 : decode cX5_init 32 = .ok (.putfield 27, 3) := by decide +kernel
theorem dX5_init_35 : decode cX5_init 35 = .ok (.aload_n 0, 1) := by decide +kernel
theorem dX5_init_36 : decode cX5_init 36 = .ok (.iconst 0, 1) := by decide +kernel
theorem dX5_init_37 : decode cX5_init 37 = .ok (.putfield 30, 3) := by decide +kernel
theorem dX5_init_40 : decode cX5_init 40 = .ok (.aload_n 0, 1) := by decide +kernel
theorem dX5_init_41 : decode cX5_init 41 = .ok (.new 33, 3) := by decide +kernel
theorem dX5_init_44 : decode cX5_init 44 = .ok (.dup, 1) := by decide +kernel
theorem dX5_init_45 : decode cX5_init 45 = .ok (.bipush 60, 2) := by decide +kernel
theorem dX5_init_47 : decode cX5_init 47 = .ok (.bipush 60, 2) := by decide +kernel
theorem dX5_init_49 : decode cX5_init 49 = .ok (.invokespecial 35, 3) := by decide +kernel
theorem dX5_init_52 : decode cX5_init 52 = .ok (.putfield 38, 3) := by decide +kernel
theorem dX5_init_55 : decode cX5_init 55 = .ok (.aload_n 0, 1) := by decide +kernel
theorem dX5_init_56 : decode cX5_init 56 = .ok (.new 33, 3) := by decide +kernel
theorem dX5_init_59 : decode cX5_init 59 = .ok (.dup, 1) := by decide +kernel
theorem dX5_init_60 : decode cX5_init 60 = .ok (.bipush 60, 2) := by decide +kernel
theorem dX5_init_62 : decode cX5_init 62 = .ok (.bipush 60, 2) := by decide +kernel
theorem dX5_init_64 : decode cX5_init 64 = .ok (.invokespecial 35, 3) := by decide +kernel
theorem dX5_init_67 : decode cX5_init 67 = .ok (.putfield 42, 3) := by decide +kernel
theorem dX5_init_70 : decode cX5_init 70 = .ok (.aload_n 0, 1) := by decide +kernel
theorem dX5_init_71 : decode cX5_init 71 = .ok (.new 33, 3) := by decide +kernel
theorem dX5_init_74 : decode cX5_init 74 = .ok (.dup, 1) := by decide +kernel
theorem dX5_init_75 : decode cX5_init 75 = .ok (.bipush 60, 2) := by decide +kernel
theorem dX5_init_77 : decode cX5_init 77 = .ok (.bipush 60, 2) := by decide +kernel
theorem dX5_init_79 : decode cX5_init 79 = .ok (.invokespecial 35, 3) := by decide +kernel
theorem dX5_init_82 : decode cX5_init 82 = .ok (.putfield 45, 3) := by decide +kernel
theorem dX5_init_85 : decode cX5_init 85 = .ok (.aload_n 0, 1) := by decide +kernel
theorem dX5_init_86 : decode cX5_init 86 = .ok (.iconst (-1), 1) := by decide +kernel
theorem dX5_init_87 : decode cX5_init 87 = .ok (.putfield 48, 3) := by decide +kernel
theorem dX5_init_90 : decode cX5_init 90 = .ok (.aload_n 0, 1) := by decide +kernel
theorem dX5_init_91 : decode cX5_init 91 = .ok (.iconst 0, 1) := by decide +kernel
theorem dX5_init_92 : decode cX5_init 92 = .ok (.putfield 51, 3) := by decide +kernel
theorem dX5_init_95 : decode cX5_init 95 = .ok (.aload_n 0, 1) := by decide +kernel
theorem dX5_init_96 : decode cX5_init 96 = .ok (.iconst (-1), 1) := by decide +kernel
theorem dX5_init_97 : decode cX5_init 97 = .ok (.putfield 55, 3) := by decide +kernel
theorem dX5_init_100 : decode cX5_init 100 = .ok (.aload_n 0, 1) := by decide +kernel
theorem dX5_init_101 : decode cX5_init 101 = .ok (.iconst 0, 1) := by decide +kernel
theorem dX5_init_102 : decode cX5_init 102 = .ok (.putfield 58, 3) := by decide +kernel
theorem dX5_init_105 : decode cX5_init 105 = .ok (.aload_n 0, 1) := by decide +kernel
theorem dX5_init_106 : decode cX5_init 106 = .ok (.iload_n 1, 1) := by decide +kernel
theorem dX5_init_107 : decode cX5_init 107 = .ok (.putfield 61, 3) := by decide +kernel
theorem dX5_init_110 : decode cX5_init 110 = .ok (.return_, 1) := by decide +kernel
set_option maxRecDepth 100000 in
set_option maxHeartbeats 4000000 in
theorem c_X5_init {hp : List gA} {n : Nat} {num : Int32} (hn : hp.length = n) : gM yX5_init cX5_init 2 (none) 2 43 [.ref (n + 0), .int num] (hp ++ [.inr (.inr (5, [.int 0, .int 0, .int 0, .int 0, .int 0, .int 0, .int 0, .int 0, .null, .null, .null, .int 0, .int 0, .int 0, .int 0]))]) (6) (189) (fun v h => v = none ∧ h = hp ++ [.inr (.inr (5, [.int num, .int 0, .int 0, .int 32, .int 0, .int ((-1)), .int 0, .int 0, .ref (n + 1), .ref (n + 3), .ref (n + 5), .int ((-1)), .int 0, .int ((-1)), .int 0])), .inr (.inr (4, [.ref (n + 2), .int 0, .int 60])), .inl (60, fun _ => 0), .inr (.inr (4, [.ref (n + 4), .int 0, .int 60])), .inl (60, fun _ => 0), .inr (.inr (4, [.ref (n + 6), .int 0, .int 60])), .inl (60, fun _ => 0)]) := by
  refine gM_of (ls0 := [some (.ref (n + 0)), some (.int num)]) (by decide +kernel) (Nat.le_of_ble_eq_true rfl) rfl fun X C E => ?_
  refine g_aload_n (q := 1) C dX5_init_0 rfl rfl ?_
  refine g_objInit (q := 4) C t_134 t_63 t_64 dX5_init_1 rfl rfl (Nat.le_of_ble_eq_true rfl) (Nat.le_of_ble_eq_true rfl) ?_
  refine g_aload_n (q := 5) C dX5_init_4 rfl rfl ?_
  refine g_iconst (v := 0) (q := 6) C dX5_init_5 (by decide) rfl ?_
  refine g_putE (q := 9) (hp' := hp ++ [.inr (.inr (5, [.int 0, .int 0, .int 0, .int 0, .int 0, .int 0, .int 0, .int 0, .null, .null, .null, .int 0, .int 0, .int 0, .int 0]))]) C fX5_9 dX5_init_6 rfl (gapp_new hn rfl) (Nat.le_of_ble_eq_true rfl) (Or.inl rfl) rfl rfl (by intro z h; cases h) rfl (gapp_set hn) ?_
  refine g_aload_n (q := 10) C dX5_init_9 rfl rfl ?_
  refine g_iconst (v := 0) (q := 11) C dX5_init_10 (by decide) rfl ?_
  refine g_putE (q := 14) (hp' := hp ++ [.inr (.inr (5, [.int 0, .int 0, .int 0, .int 0, .int 0, .int 0, .int 0, .int 0, .null, .null, .null, .int 0, .int 0, .int 0, .int 0]))]) C fX5_15 dX5_init_11 rfl (gapp_new hn rfl) (Nat.le_of_ble_eq_true rfl) (Or.inl rfl) rfl rfl (by intro z h; cases h) rfl (gapp_set hn) ?_
  refine g_aload_n (q := 15) C dX5_init_14 rfl rfl ?_
  refine g_bipush (v := 32) (q := 17) C dX5_init_15 (by decide) rfl ?_
  refine g_putE (q := 20) (hp' := hp ++ [.inr (.inr (5, [.int 0, .int 0, .int 0, .int 32, .int 0, .int 0, .int 0, .int 0, .null, .null, .null, .int 0, .int 0, .int 0, .int 0]))]) C fX5_18 dX5_init_17 rfl (gapp_new hn rfl) (Nat.le_of_ble_eq_true rfl) (Or.inl rfl) rfl rfl (by intro z h; cases h) rfl (gapp_set hn) ?_
  refine g_aload_n (q := 21) C dX5_init_20 rfl rfl ?_
  refine g_iconst (v := 0) (q := 22) C dX5_init_21 (by decide) rfl ?_
  refine g_putE (q := 25) (hp' := hp ++ [.inr (.inr (5, [.int 0, .int 0, .int 0, .int 32, .int 0, .int 0, .int 0, .int 0, .null, .null, .null, .int 0, .int 0, .int 0, .int 0]))]) C fX5_21 dX5_init_22 rfl (gapp_new hn rfl) (Nat.le_of_ble_eq_true rfl) (Or.inl rfl) rfl rfl (by intro z h; cases h) rfl (gapp_set hn) ?_
  refine g_aload_n (q := 26) C dX5_init_25 rfl rfl ?_
  refine g_iconst (v := (-1)) (q := 27) C dX5_init_26 (by decide) rfl ?_
  refine g_putE (q := 30) (hp' := hp ++ [.inr (.inr (5, [.int 0, .int 0, .int 0, .int 32, .int 0, .int ((-1)), .int 0, .int 0, .null, .null, .null, .int 0, .int 0, .int 0, .int 0]))]) C fX5_24 dX5_init_27 rfl (gapp_new hn rfl) (Nat.le_of_ble_eq_true rfl) (Or.inl rfl) rfl rfl (by intro z h; cases h) rfl (gapp_set hn) ?_
  refine g_aload_n (q := 31) C dX5_init_30 rfl rfl ?_
  refine g_iconst (v := 0) (q := 32) C dX5_init_31 (by decide) rfl ?_
  refine g_putE (q := 35) (hp' := hp ++ [.inr (.inr (5, [.int 0, .int 0, .int 0, .int 32, .int 0, .int ((-1)), .int 0, .int 0, .null, .null, .null, .int 0, .int 0, .int 0, .int 0]))]) C fX5_27 dX5_init_32 rfl (gapp_new hn rfl) (Nat.le_of_ble_eq_true rfl) (Or.inl rfl) rfl rfl (by intro z h; cases h) rfl (gapp_set hn) ?_
  refine g_aload_n (q := 36) C dX5_init_35 rfl rfl ?_
  refine g_iconst (v := 0) (q := 37) C dX5_init_36 (by decide) rfl ?_
  refine g_putE (q := 40) (hp' := hp ++ [.inr (.inr (5, [.int 0, .int 0, .int 0, .int 32, .int 0, .int ((-1)), .int 0, .int 0, .null, .null, .null, .int 0, .int 0, .int 0, .int 0]))]) C fX5_30 dX5_init_37 rfl (gapp_new hn rfl) (Nat.le_of_ble_eq_true rfl) (Or.inl rfl) rfl rfl (by intro z h; cases h) rfl (gapp_set hn) ?_
  refine g_aload_n (q := 41) C dX5_init_40 rfl rfl ?_
  refine g_new (q := 44) (k := n + 1) C nX5_33 dX5_init_41 rfl (by rw [List.length_append, hn]; rfl) (Nat.le_of_ble_eq_true rfl) (Nat.le_of_ble_eq_true rfl) ?_
  refine g_heap (hp2 := hp ++ [.inr (.inr (5, [.int 0, .int 0, .int 0, .int 32, .int 0, .int ((-1)), .int 0, .int 0, .null, .null, .null, .int 0, .int 0, .int 0, .int 0])), .inr (.inr (4, [.null, .int 0, .int 0]))]) (by simp only [List.append_assoc, List.cons_append, List.nil_append]) ?_
  refine g_dup (q := 45) C dX5_init_44 rfl rfl ?_
  refine g_bipush (v := 60) (q := 47) C dX5_init_45 (by decide) rfl ?_
  refine g_bipush (v := 60) (q := 49) C dX5_init_47 (by decide) rfl ?_
  refine g_heap (hp2 := (hp ++ [.inr (.inr (5, [.int 0, .int 0, .int 0, .int 32, .int 0, .int ((-1)), .int 0, .int 0, .null, .null, .null, .int 0, .int 0, .int 0, .int 0]))]) ++ [.inr (.inr (4, [.null, .int 0, .int 0]))]) (by simp only [List.append_assoc, List.cons_append, List.nil_append]) ?_
  refine g_callIv (q := 52) (As := [.int 60, .int 60]) C gyX4_init giX4_init rfl t_136 (c_X4_init (n := n + 1) (N := 60) (first := 60) (by rw [List.length_append, hn]; rfl) (by decide) (by decide)) dX5_init_49 rfl rfl rfl (Nat.le_of_ble_eq_true rfl) (Nat.le_of_ble_eq_true rfl) (Nat.le_of_ble_eq_true rfl) (Nat.le_of_ble_eq_true rfl) (Nat.le_of_ble_eq_true rfl) rfl ?_
  refine g_heap (hp2 := hp ++ [.inr (.inr (5, [.int 0, .int 0, .int 0, .int 32, .int 0, .int ((-1)), .int 0, .int 0, .null, .null, .null, .int 0, .int 0, .int 0, .int 0])), .inr (.inr (4, [.ref (n + 2), .int 0, .int 60])), .inl (60, fun _ => 0)]) (by simp only [List.append_assoc, List.cons_append, List.nil_append, Nat.add_assoc, Nat.reduceAdd, Nat.add_zero]) ?_
  refine g_putE (q := 55) (hp' := hp ++ [.inr (.inr (5, [.int 0, .int 0, .int 0, .int 32, .int 0, .int ((-1)), .int 0, .int 0, .ref (n + 1), .null, .null, .int 0, .int 0, .int 0, .int 0])), .inr (.inr (4, [.ref (n + 2), .int 0, .int 60])), .inl (60, fun _ => 0)]) C fX5_38 dX5_init_52 rfl (gapp_new hn rfl) (Nat.le_of_ble_eq_true rfl) (Or.inr rfl) rfl rfl (by intro z h; cases h) rfl (gapp_set hn) ?_
  refine g_aload_n (q := 56) C dX5_init_55 rfl rfl ?_
  refine g_new (q := 59) (k := n + 3) C nX5_33 dX5_init_56 rfl (by rw [List.length_append, hn]; rfl) (Nat.le_of_ble_eq_true rfl) (Nat.le_of_ble_eq_true rfl) ?_
  refine g_heap (hp2 := hp ++ [.inr (.inr (5, [.int 0, .int 0, .int 0, .int 32, .int 0, .int ((-1)), .int 0, .int 0, .ref (n + 1), .null, .null, .int 0, .int 0, .int 0, .int 0])), .inr (.inr (4, [.ref (n + 2), .int 0, .int 60])), .inl (60, fun _ => 0), .inr (.inr (4, [.null, .int 0, .int 0]))]) (by simp only [List.append_assoc, List.cons_append, List.nil_append]) ?_
  refine g_dup (q := 60) C dX5_init_59 rfl rfl ?_
  refine g_bipush (v := 60) (q := 62) C dX5_init_60 (by decide) rfl ?_
  refine g_bipush (v := 60) (q := 64) C dX5_init_62 (by decide) rfl ?_
  refine g_heap (hp2 := (hp ++ [.inr (.inr (5, [.int 0, .int 0, .int 0, .int 32, .int 0, .int ((-1)), .int 0, .int 0, .ref (n + 1), .null, .null, .int 0, .int 0, .int 0, .int 0])), .inr (.inr (4, [.ref (n + 2), .int 0, .int 60])), .inl (60, fun _ => 0)]) ++ [.inr (.inr (4, [.null, .int 0, .int 0]))]) (by simp only [List.append_assoc, List.cons_append, List.nil_append]) ?_
  refine g_callIv (q := 67) (As := [.int 60, .int 60]) C gyX4_init giX4_init rfl t_136 (c_X4_init (n := n + 3) (N := 60) (first := 60) (by rw [List.length_append, hn]; rfl) (by decide) (by decide)) dX5_init_64 rfl rfl rfl (Nat.le_of_ble_eq_true rfl) (Nat.le_of_ble_eq_true rfl) (Nat.le_of_ble_eq_true rfl) (Nat.le_of_ble_eq_true rfl) (Nat.le_of_ble_eq_true rfl) rfl ?_
  refine g_heap (hp2 := hp ++ [.inr (.inr (5, [.int 0, .int 0, .int 0, .int 32, .int 0, .int ((-1)), .int 0, .int 0, .ref (n + 1), .null, .null, .int 0, .int 0, .int 0, .int 0])), .inr (.inr (4, [.ref (n + 2), .int 0, .int 60])), .inl (60, fun _ => 0), .inr (.inr (4, [.ref (n + 4), .int 0, .int 60])), .inl (60, fun _ => 0)]) (by simp only [List.append_assoc, List.cons_append, List.nil_append, Nat.add_assoc, Nat.reduceAdd, Nat.add_zero]) ?_
  refine g_putE (q := 70) (hp' := hp ++ [.inr (.inr (5, [.int 0, .int 0, .int 0, .int 32, .int 0, .int ((-1)), .int 0, .int 0, .ref (n + 1), .ref (n + 3), .null, .int 0, .int 0, .int 0, .int 0])), .inr (.inr (4, [.ref (n + 2), .int 0, .int 60])), .inl (60, fun _ => 0), .inr (.inr (4, [.ref (n + 4), .int 0, .int 60])), .inl (60, fun _ => 0)]) C fX5_42 dX5_init_67 rfl (gapp_new hn rfl) (Nat.le_of_ble_eq_true rfl) (Or.inr rfl) rfl rfl (by intro z h; cases h) rfl (gapp_set hn) ?_
  refine g_aload_n (q := 71) C dX5_init_70 rfl rfl ?_
  refine g_new (q := 74) (k := n + 5) C nX5_33 dX5_init_71 rfl (by rw [List.length_append, hn]; rfl) (Nat.le_of_ble_eq_true rfl) (Nat.le_of_ble_eq_true rfl) ?_
  refine g_heap (hp2 := hp ++ [.inr (.inr (5, [.int 0, .int 0, .int 0, .int 32, .int 0, .int ((-1)), .int 0, .int 0, .ref (n + 1), .ref (n + 3), .null, .int 0, .int 0, .int 0, .int 0])), .inr (.inr (4, [.ref (n + 2), .int 0, .int 60])), .inl (60, fun _ => 0), .inr (.inr (4, [.ref (n + 4), .int 0, .int 60])), .inl (60, fun _ => 0), .inr (.inr (4, [.null, .int 0, .int 0]))]) (by simp only [List.append_assoc, List.cons_append, List.nil_append]) ?_
  refine g_dup (q := 75) C dX5_init_74 rfl rfl ?_
  refine g_bipush (v := 60) (q := 77) C dX5_init_75 (by decide) rfl ?_
  refine g_bipush (v := 60) (q := 79) C dX5_init_77 (by decide) rfl ?_
  refine g_heap (hp2 := (hp ++ [.inr (.inr (5, [.int 0, .int 0, .int 0, .int 32, .int 0, .int ((-1)), .int 0, .int 0, .ref (n + 1), .ref (n + 3), .null, .int 0, .int 0, .int 0, .int 0])), .inr (.inr (4, [.ref (n + 2), .int 0, .int 60])), .inl (60, fun _ => 0), .inr (.inr (4, [.ref (n + 4), .int 0, .int 60])), .inl (60, fun _ => 0)]) ++ [.inr (.inr (4, [.null, .int 0, .int 0]))]) (by simp only [List.append_assoc, List.cons_append, List.nil_append]) ?_
  refine g_callIv (q := 82) (As := [.int 60, .int 60]) C gyX4_init giX4_init rfl t_136 (c_X4_init (n := n + 5) (N := 60) (first := 60) (by rw [List.length_append, hn]; rfl) (by decide) (by decide)) dX5_init_79 rfl rfl rfl (Nat.le_of_ble_eq_true rfl) (Nat.le_of_ble_eq_true rfl) (Nat.le_of_ble_eq_true rfl) (Nat.le_of_ble_eq_true rfl) (Nat.le_of_ble_eq_true rfl) rfl ?_
  refine g_heap (hp2 := hp ++ [.inr (.inr (5, [.int 0, .int 0, .int 0, .int 32, .int 0, .int ((-1)), .int 0, .int 0, .ref (n + 1), .ref (n + 3), .null, .int 0, .int 0, .int 0, .int 0])), .inr (.inr (4, [.ref (n + 2), .int 0, .int 60])), .inl (60, fun _ => 0), .inr (.inr (4, [.ref (n + 4), .int 0, .int 60])), .inl (60, fun _ => 0), .inr (.inr (4, [.ref (n + 6), .int 0, .int 60])), .inl (60, fun _ => 0)]) (by simp only [List.append_assoc, List.cons_append, List.nil_append, Nat.add_assoc, Nat.reduceAdd, Nat.add_zero]) ?_
  refine g_putE (q := 85) (hp' := hp ++ [.inr (.inr (5, [.int 0, .int 0, .int 0, .int 32, .int 0, .int ((-1)), .int 0, .int 0, .ref (n + 1), .ref (n + 3), .ref (n + 5), .int 0, .int 0, .int 0, .int 0])), .inr (.inr (4, [.ref (n + 2), .int 0, .int 60])), .inl (60, fun _ => 0), .inr (.inr (4, [.ref (n + 4), .int 0, .int 60])), .inl (60, fun _ => 0), .inr (.inr (4, [.ref (n + 6), .int 0, .int 60])), .inl (60, fun _ => 0)]) C fX5_45 dX5_init_82 rfl (gapp_new hn rfl) (Nat.le_of_ble_eq_true rfl) (Or.inr rfl) rfl rfl (by intro z h; cases h) rfl (gapp_set hn) ?_
  refine g_aload_n (q := 86) C dX5_init_85 rfl rfl ?_
  refine g_iconst (v := (-1)) (q := 87) C dX5_init_86 (by decide) rfl ?_
  refine g_putE (q := 90) (hp' := hp ++ [.inr (.inr (5, [.int 0, .int 0, .int 0, .int 32, .int 0, .int ((-1)), .int 0, .int 0, .ref (n + 1), .ref (n + 3), .ref (n + 5), .int ((-1)), .int 0, .int 0, .int 0])), .inr (.inr (4, [.ref (n + 2), .int 0, .int 60])), .inl (60, fun _ => 0), .inr (.inr (4, [.ref (n + 4), .int 0, .int 60])), .inl (60, fun _ => 0), .inr (.inr (4, [.ref (n + 6), .int 0, .int 60])), .inl (60, fun _ => 0)]) C fX5_48 dX5_init_87 rfl (gapp_new hn rfl) (Nat.le_of_ble_eq_true rfl) (Or.inl rfl) rfl rfl (by intro z h; cases h) rfl (gapp_set hn) ?_
  refine g_aload_n (q := 91) C dX5_init_90 rfl rfl ?_
  refine g_iconst (v := 0) (q := 92) C dX5_init_91 (by decide) rfl ?_
  refine g_putE (q := 95) (hp' := hp ++ [.inr (.inr (5, [.int 0, .int 0, .int 0, .int 32, .int 0, .int ((-1)), .int 0, .int 0, .ref (n + 1), .ref (n + 3), .ref (n + 5), .int ((-1)), .int 0, .int 0, .int 0])), .inr (.inr (4, [.ref (n + 2), .int 0, .int 60])), .inl (60, fun _ => 0), .inr (.inr (4, [.ref (n + 4), .int 0, .int 60])), .inl (60, fun _ => 0), .inr (.inr (4, [.ref (n + 6), .int 0, .int 60])), .inl (60, fun _ => 0)]) C fX5_51 dX5_init_92 rfl (gapp_new hn rfl) (Nat.le_of_ble_eq_true rfl) (Or.inl rfl) rfl rfl (by intro z h; cases h) rfl (gapp_set hn) ?_
  refine g_aload_n (q := 96) C dX5_init_95 rfl rfl ?_
  refine g_iconst (v := (-1)) (q := 97) C dX5_init_96 (by decide) rfl ?_
  refine g_putE (q := 100) (hp' := hp ++ [.inr (.inr (5, [.int 0, .int 0, .int 0, .int 32, .int 0, .int ((-1)), .int 0, .int 0, .ref (n + 1), .ref (n + 3), .ref (n + 5), .int ((-1)), .int 0, .int ((-1)), .int 0])), .inr (.inr (4, [.ref (n + 2), .int 0, .int 60])), .inl (60, fun _ => 0), .inr (.inr (4, [.ref (n + 4), .int 0, .int 60])), .inl (60, fun _ => 0), .inr (.inr (4, [.ref (n + 6), .int 0, .int 60])), .inl (60, fun _ => 0)]) C fX5_55 dX5_init_97 rfl (gapp_new hn rfl) (Nat.le_of_ble_eq_true rfl) (Or.inl rfl) rfl rfl (by intro z h; cases h) rfl (gapp_set hn) ?_
  refine g_aload_n (q := 101) C dX5_init_100 rfl rfl ?_
  refine g_iconst (v := 0) (q := 102) C dX5_init_101 (by decide) rfl ?_
  refine g_putE (q := 105) (hp' := hp ++ [.inr (.inr (5, [.int 0, .int 0, .int 0, .int 32, .int 0, .int ((-1)), .int 0, .int 0, .ref (n + 1), .ref (n + 3), .ref (n + 5), .int ((-1)), .int 0, .int ((-1)), .int 0])), .inr (.inr (4, [.ref (n + 2), .int 0, .int 60])), .inl (60, fun _ => 0), .inr (.inr (4, [.ref (n + 4), .int 0, .int 60])), .inl (60, fun _ => 0), .inr (.inr (4, [.ref (n + 6), .int 0, .int 60])), .inl (60, fun _ => 0)]) C fX5_58 dX5_init_102 rfl (gapp_new hn rfl) (Nat.le_of_ble_eq_true rfl) (Or.inl rfl) rfl rfl (by intro z h; cases h) rfl (gapp_set hn) ?_
  refine g_aload_n (q := 106) C dX5_init_105 rfl rfl ?_
  refine g_iload_n (q := 107) C dX5_init_106 rfl rfl ?_
  refine g_putE (q := 110) (hp' := hp ++ [.inr (.inr (5, [.int num, .int 0, .int 0, .int 32, .int 0, .int ((-1)), .int 0, .int 0, .ref (n + 1), .ref (n + 3), .ref (n + 5), .int ((-1)), .int 0, .int ((-1)), .int 0])), .inr (.inr (4, [.ref (n + 2), .int 0, .int 60])), .inl (60, fun _ => 0), .inr (.inr (4, [.ref (n + 4), .int 0, .int 60])), .inl (60, fun _ => 0), .inr (.inr (4, [.ref (n + 6), .int 0, .int 60])), .inl (60, fun _ => 0)]) C fX5_61 dX5_init_107 rfl (gapp_new hn rfl) (Nat.le_of_ble_eq_true rfl) (Or.inr rfl) rfl rfl (by intro z h; cases h) rfl (gapp_set hn) ?_
  exact E.2.1 _ _ _ _ _ dX5_init_110 rfl (Nat.le_of_ble_eq_true rfl) (Nat.le_of_ble_eq_true rfl) ⟨rfl, rfl⟩
theorem dX2_init_0 : decode cX2_init 0 = .ok (.aload_n 0, 1) := by decide +kernel
theorem dX2_init_1 : decode cX2_init 1 = .ok (.invokespecial 3, 3) := by decide +kernel
theorem dX2_init_4 : decode cX2_init 4 = .ok (.aload_n 0, 1) := by decide +kernel
theorem dX2_init_5 : decode cX2_init 5 = .ok (.new 9, 3) := by decide +kernel
theorem dX2_init_8 : decode cX2_init 8 = .ok (.dup, 1) := by decide +kernel
theorem dX2_init_9 : decode cX2_init 9 = .ok (.iconst 0, 1) := by decide +kernel
theorem dX2_init_10 : decode cX2_init 10 = .ok (.invokespecial 11, 3) := by decide +kernel
theorem dX2_init_13 : decode cX2_init 13 = .ok (.putfield 14, 3) := by decide +kernel
theorem dX2_init_16 : decode cX2_init 16 = .ok (.aload_n 0, 1) := by decide +kernel
theorem dX2_init_17 : decode cX2_init 17 = .ok (.new 9, 3) := by decide +kernel
theorem dX2_init_20 : decode cX2_init 20 = .ok (.dup, 1) := by decide +kernel
theorem dX2_init_21 : decode cX2_init 21 = .ok (.iconst 1, 1) := by decide +kernel
theorem dX2_init_22 : decode cX2_init 22 = .ok (.invokespecial 11, 3) := by decide +kernel
theorem dX2_init_25 : decode cX2_init 25 = .ok (.putfield 20, 3) := by decide +kernel
theorem dX2_init_28 : decode cX2_init 28 = .ok (.aload_n 0, 1) := by decide +kernel
theorem dX2_init_29 : decode cX2_init 29 = .ok (.new 23, 3) := by decide +kernel
theorem dX2_init_32 : decode cX2_init 32 = .ok (.dup, 1) := by decide +kernel
theorem dX2_init_33 : decode cX2_init 33 = .ok (.invokespecial 25, 3) := by decide +kernel
theorem dX2_init_36 : decode cX2_init 36 = .ok (.putfield 26, 3) := by decide +kernel
theorem dX2_init_39 : decode cX2_init 39 = .ok (.aload_n 0, 1) := by decide +kernel
theorem dX2_init_40 : decode cX2_init 40 = .ok (.iconst 0, 1) := by decide +kernel
theorem dX2_init_41 : decode cX2_init 41 = .ok (.putfield 30, 3) := by decide +kernel
theorem dX2_init_44 : decode cX2_init 44 = .ok (.aload_n 0, 1) := by decide +kernel
theorem dX2_init_45 : decode cX2_init 45 = .ok (.iconst 0, 1) := by decide +kernel
theorem dX2_init_46 : decode cX2_init 46 = .ok (.putfield 34, 3) := by decide +kernel
theorem dX2_init_49 : decode cX2_init 49 = .ok (.aload_n 0, 1) := by decide +kernel
theorem dX2_init_50 : decode cX2_init 50 = .ok (.iconst 0, 1) := by decide +kernel
theorem dX2_init_51 : decode cX2_init 51 = .ok (.putfield 37, 3) := by decide +kernel
theorem dX2_init_54 : decode cX2_init 54 = .ok (.aload_n 0, 1) := by decide +kernel
theorem dX2_init_55 : decode cX2_init 55 = .ok (.iconst 0, 1) := by decide +kernel
theorem dX2_init_56 : decode cX2_init 56 = .ok (.putfield 40, 3) := by decide +kernel
theorem dX2_init_59 : decode cX2_init 59 = .ok (.aload_n 0, 1) := by decide +kernel
theorem dX2_init_60 : decode cX2_init 60 = .ok (.iconst 0, 1) := by decide +kernel
theorem dX2_init_61 : decode cX2_init 61 = .ok (.putfield 43, 3) := by decide +kernel
theorem dX2_init_64 : decode cX2_init 64 = .ok (.aload_n 0, 1) := by decide +kernel
theorem dX2_init_65 : decode cX2_init 65 = .ok (.new 46, 3) := by decide +kernel
theorem dX2_init_68 : decode cX2_init 68 = .ok (.dup, 1) := by decide +kernel
theorem dX2_init_69 : decode cX2_init 69 = .ok (.bipush 64, 2) := by decide +kernel
theorem dX2_init_71 : decode cX2_init 71 = .ok (.bipush 64, 2) := by decide +kernel
theorem dX2_init_73 : decode cX2_init 73 = .ok (.invokespecial 48, 3) := by decide +kernel
theorem dX2_init_76 : decode cX2_init 76 = .ok (.putfield 51, 3) := by decide +kernel
theorem dX2_init_79 : decode cX2_init 79 = .ok (.aload_n 0, 1) := by decide +kernel
theorem dX2_init_80 : decode cX2_init 80 = .ok (.new 46, 3) := by decide +kernel
theorem dX2_init_83 : decode cX2_init 83 = .ok (.dup, 1) := by decide +kernel
theorem dX2_init_84 : decode cX2_init 84 = .ok (.bipush 64, 2) := by decide +kernel
theorem dX2_init_86 : decode cX2_init 86 = .ok (.bipush 64, 2) := by decide +kernel
theorem dX2_init_88 : decode cX2_init 88 = .ok (.invokespecial 48, 3) := by decide +kernel
theorem dX2_init_91 : decode cX2_init 91 = .ok (.putfield 55, 3) := by decide +kernel
theorem dX2_init_94 : decode cX2_init 94 = .ok (.aload_n 0, 1) := by decide +kernel
theorem dX2_init_95 : decode cX2_init 95 = .ok (.iconst 3, 1) := by decide +kernel
theorem dX2_init_96 : decode cX2_init 96 = .ok (.putfield 58, 3) := by decide +kernel
theorem dX2_init_99 : decode cX2_init 99 = .ok (.aload_n 0, 1) := by decide +kernel
theorem dX2_init_100 : decode cX2_init 100 = .ok (.iconst 0, 1) := by decide +kernel
theorem dX2_init_101 : decode cX2_init 101 = .ok (.putfield 61, 3) := by decide +kernel
theorem dX2_init_104 : decode cX2_init 104 = .ok (.aload_n 0, 1) := by decide +kernel
theorem dX2_init_105 : decode cX2_init 105 = .ok (.iconst (-1), 1) := by decide +kernel
theorem dX2_init_106 : decode cX2_init 106 = .ok (.putfield 65, 3) := by decide +kernel
theorem dX2_init_109 : decode cX2_init 109 = .ok (.aload_n 0, 1) := by decide +kernel
theorem dX2_init_110 : decode cX2_init 110 = .ok (.iconst 0, 1) := by decide +kernel
theorem dX2_init_111 : decode cX2_init 111 = .ok (.putfield 68, 3) := by decide +kernel
theorem dX2_init_114 : decode cX2_init 114 = .ok (.aload_n 0, 1) := by decide +kernel
theorem dX2_init_115 : decode cX2_init 115 = .ok (.iconst 0, 1) := by decide +kernel
theorem dX2_init_116 : decode cX2_init 116 = .ok (.putfield 71, 3) := by decide +kernel
theorem dX2_init_119 : decode cX2_init 119 = .ok (.aload_n 0, 1) := by decide +kernel
theorem dX2_init_120 : decode cX2_init 120 = .ok (.iconst 0, 1) := by decide +kernel
theorem dX2_init_121 : decode cX2_init 121 = .ok (.putfield 74, 3) := by decide +kernel
theorem dX2_init_124 : decode cX2_init 124 = .ok (.aload_n 0, 1) := by decide +kernel
theorem dX2_init_125 : decode cX2_init 125 = .ok (.iconst 0, 1) := by decide +kernel
theorem dX2_init_126 : decode cX2_init 126 = .ok (.putfield 77, 3) := by decide +kernel
theorem dX2_init_129 : decode cX2_init 129 = .ok (.aload_n 0, 1) := by decide +kernel
theorem dX2_init_130 : decode cX2_init 130 = .ok (.aload_n 1, 1) := by decide +kernel
theorem dX2_init_131 : decode cX2_init 131 = .ok (.putfield 80, 3) := by decide +kernel
theorem dX2_init_134 : decode cX2_init 134 = .ok (.return_, 1) := by decide +kernel
set_option maxRecDepth 100000 in
set_option maxHeartbeats 4000000 in
theorem c_X2_init_j {hp : List gA} {n : Nat} {jr : Nat} (hn : hp.length = n) : gM yX2_init cX2_init 2 (none) 3 64 [.ref (n + 0), .ref jr] (hp ++ [.inr (.inr (2, [.null, .null, .null, .int 0, .int 0, .int 0, .int 0, .int 0, .null, .null, .null, .int 0, .int 0, .int 0, .int 0, .int 0, .int 0, .int 0]))]) (22) (624) (fun v h => v = none ∧ h = hp ++ [.inr (.inr (2, [.ref (n + 1), .ref (n + 8), .ref (n + 15), .int 0, .int 0, .int 0, .int 0, .int 0, .ref (n + 19), .ref (n + 21), .ref jr, .int 3, .int 0, .int ((-1)), .int 0, .int 0, .int 0, .int 0])), .inr (.inr (5, [.int 0, .int 0, .int 0, .int 32, .int 0, .int ((-1)), .int 0, .int 0, .ref (n + 2), .ref (n + 4), .ref (n + 6), .int ((-1)), .int 0, .int ((-1)), .int 0])), .inr (.inr (4, [.ref (n + 3), .int 0, .int 60])), .inl (60, fun _ => 0), .inr (.inr (4, [.ref (n + 5), .int 0, .int 60])), .inl (60, fun _ => 0), .inr (.inr (4, [.ref (n + 7), .int 0, .int 60])), .inl (60, fun _ => 0), .inr (.inr (5, [.int 1, .int 0, .int 0, .int 32, .int 0, .int ((-1)), .int 0, .int 0, .ref (n + 9), .ref (n + 11), .ref (n + 13), .int ((-1)), .int 0, .int ((-1)), .int 0])), .inr (.inr (4, [.ref (n + 10), .int 0, .int 60])), .inl (60, fun _ => 0), .inr (.inr (4, [.ref (n + 12), .int 0, .int 60])), .inl (60, fun _ => 0), .inr (.inr (4, [.ref (n + 14), .int 0, .int 60])), .inl (60, fun _ => 0), .inr (.inr (6, [.int 1, .int 0, .int 0, .ref (n + 16), .ref (n + 17), .ref (n + 18), .int 0, .int ((-1)), .int 0, .int 0])), .inl (24, fun _ => 0), .inl (24, fun _ => 0), .inl (24, fun _ => 0), .inr (.inr (4, [.ref (n + 20), .int 0, .int 64])), .inl (64, fun _ => 0), .inr (.inr (4, [.ref (n + 22), .int 0, .int 64])), .inl (64, fun _ => 0)]) := by
  refine gM_of (ls0 := [some (.ref (n + 0)), some (.ref jr)]) (by decide +kernel) (Nat.le_of_ble_eq_true rfl) rfl fun X C E => ?_
  refine g_aload_n (q := 1) C dX2_init_0 rfl rfl ?_
  refine g_objInit (q := 4) C t_128 t_63 t_64 dX2_init_1 rfl rfl (Nat.le_of_ble_eq_true rfl) (Nat.le_of_ble_eq_true rfl) ?_
  refine g_aload_n (q := 5) C dX2_init_4 rfl rfl ?_
  refine g_new (q := 8) (k := n + 1) C nX2_9 dX2_init_5 rfl (by rw [List.length_append, hn]; rfl) (Nat.le_of_ble_eq_true rfl) (Nat.le_of_ble_eq_true rfl) ?_
  refine g_heap (hp2 := hp ++ [.inr (.inr (2, [.null, .null, .null, .int 0, .int 0, .int 0, .int 0, .int 0, .null, .null, .null, .int 0, .int 0, .int 0, .int 0, .int 0, .int 0, .int 0])), .inr (.inr (5, [.int 0, .int 0, .int 0, .int 0, .int 0, .int 0, .int 0, .int 0, .null, .null, .null, .int 0, .int 0, .int 0, .int 0]))]) (by simp only [List.append_assoc, List.cons_append, List.nil_append]) ?_
  refine g_dup (q := 9) C dX2_init_8 rfl rfl ?_
  refine g_iconst (v := 0) (q := 10) C dX2_init_9 (by decide) rfl ?_
  refine g_heap (hp2 := (hp ++ [.inr (.inr (2, [.null, .null, .null, .int 0, .int 0, .int 0, .int 0, .int 0, .null, .null, .null, .int 0, .int 0, .int 0, .int 0, .int 0, .int 0, .int 0]))]) ++ [.inr (.inr (5, [.int 0, .int 0, .int 0, .int 0, .int 0, .int 0, .int 0, .int 0, .null, .null, .null, .int 0, .int 0, .int 0, .int 0]))]) (by simp only [List.append_assoc, List.cons_append, List.nil_append]) ?_
  refine g_callIv (q := 13) (As := [.int 0]) C gyX5_init giX5_init rfl t_131 (c_X5_init (n := n + 1) (by rw [List.length_append, hn]; rfl)) dX2_init_10 rfl rfl rfl (Nat.le_of_ble_eq_true rfl) (Nat.le_of_ble_eq_true rfl) (Nat.le_of_ble_eq_true rfl) (Nat.le_of_ble_eq_true rfl) (Nat.le_of_ble_eq_true rfl) rfl ?_
  refine g_heap (hp2 := hp ++ [.inr (.inr (2, [.null, .null, .null, .int 0, .int 0, .int 0, .int 0, .int 0, .null, .null, .null, .int 0, .int 0, .int 0, .int 0, .int 0, .int 0, .int 0])), .inr (.inr (5, [.int 0, .int 0, .int 0, .int 32, .int 0, .int ((-1)), .int 0, .int 0, .ref (n + 2), .ref (n + 4), .ref (n + 6), .int ((-1)), .int 0, .int ((-1)), .int 0])), .inr (.inr (4, [.ref (n + 3), .int 0, .int 60])), .inl (60, fun _ => 0), .inr (.inr (4, [.ref (n + 5), .int 0, .int 60])), .inl (60, fun _ => 0), .inr (.inr (4, [.ref (n + 7), .int 0, .int 60])), .inl (60, fun _ => 0)]) (by simp only [List.append_assoc, List.cons_append, List.nil_append, Nat.add_assoc, Nat.reduceAdd, Nat.add_zero]) ?_
  refine g_putE (q := 16) (hp' := hp ++ [.inr (.inr (2, [.ref (n + 1), .null, .null, .int 0, .int 0, .int 0, .int 0, .int 0, .null, .null, .null, .int 0, .int 0, .int 0, .int 0, .int 0, .int 0, .int 0])), .inr (.inr (5, [.int 0, .int 0, .int 0, .int 32, .int 0, .int ((-1)), .int 0, .int 0, .ref (n + 2), .ref (n + 4), .ref (n + 6), .int ((-1)), .int 0, .int ((-1)), .int 0])), .inr (.inr (4, [.ref (n + 3), .int 0, .int 60])), .inl (60, fun _ => 0), .inr (.inr (4, [.ref (n + 5), .int 0, .int 60])), .inl (60, fun _ => 0), .inr (.inr (4, [.ref (n + 7), .int 0, .int 60])), .inl (60, fun _ => 0)]) C fX2_14 dX2_init_13 rfl (gapp_new hn rfl) (Nat.le_of_ble_eq_true rfl) (Or.inr rfl) rfl rfl (by intro z h; cases h) rfl (gapp_set hn) ?_
  refine g_aload_n (q := 17) C dX2_init_16 rfl rfl ?_
  refine g_new (q := 20) (k := n + 8) C nX2_9 dX2_init_17 rfl (by rw [List.length_append, hn]; rfl) (Nat.le_of_ble_eq_true rfl) (Nat.le_of_ble_eq_true rfl) ?_
  refine g_heap (hp2 := hp ++ [.inr (.inr (2, [.ref (n + 1), .null, .null, .int 0, .int 0, .int 0, .int 0, .int 0, .null, .null, .null, .int 0, .int 0, .int 0, .int 0, .int 0, .int 0, .int 0])), .inr (.inr (5, [.int 0, .int 0, .int 0, .int 32, .int 0, .int ((-1)), .int 0, .int 0, .ref (n + 2), .ref (n + 4), .ref (n + 6), .int ((-1)), .int 0, .int ((-1)), .int 0])), .inr (.inr (4, [.ref (n + 3), .int 0, .int 60])), .inl (60, fun _ => 0), .inr (.inr (4, [.ref (n + 5), .int 0, .int 60])), .inl (60, fun _ => 0), .inr (.inr (4, [.ref (n + 7), .int 0, .int 60])), .inl (60, fun _ => 0), .inr (.inr (5, [.int 0, .int 0, .int 0, .int 0, .int 0, .int 0, .int 0, .int 0, .null, .null, .null, .int 0, .int 0, .int 0, .int 0]))]) (by simp only [List.append_assoc, List.cons_append, List.nil_append]) ?_
  refine g_dup (q := 21) C dX2_init_20 rfl rfl ?_
  refine g_iconst (v := 1) (q := 22) C dX2_init_21 (by decide) rfl ?_
  refine g_heap (hp2 := (hp ++ [.inr (.inr (2, [.ref (n + 1), .null, .null, .int 0, .int 0, .int 0, .int 0, .int 0, .null, .null, .null, .int 0, .int 0, .int 0, .int 0, .int 0, .int 0, .int 0])), .inr (.inr (5, [.int 0, .int 0, .int 0, .int 32, .int 0, .int ((-1)), .int 0, .int 0, .ref (n + 2), .ref (n + 4), .ref (n + 6), .int ((-1)), .int 0, .int ((-1)), .int 0])), .inr (.inr (4, [.ref (n + 3), .int 0, .int 60])), .inl (60, fun _ => 0), .inr (.inr (4, [.ref (n + 5), .int 0, .int 60])), .inl (60, fun _ => 0), .inr (.inr (4, [.ref (n + 7), .int 0, .int 60])), .inl (60, fun _ => 0)]) ++ [.inr (.inr (5, [.int 0, .int 0, .int 0, .int 0, .int 0, .int 0, .int 0, .int 0, .null, .null, .null, .int 0, .int 0, .int 0, .int 0]))]) (by simp only [List.append_assoc, List.cons_append, List.nil_append]) ?_
  refine g_callIv (q := 25) (As := [.int 1]) C gyX5_init giX5_init rfl t_131 (c_X5_init (n := n + 8) (by rw [List.length_append, hn]; rfl)) dX2_init_22 rfl rfl rfl (Nat.le_of_ble_eq_true rfl) (Nat.le_of_ble_eq_true rfl) (Nat.le_of_ble_eq_true rfl) (Nat.le_of_ble_eq_true rfl) (Nat.le_of_ble_eq_true rfl) rfl ?_
  refine g_heap (hp2 := hp ++ [.inr (.inr (2, [.ref (n + 1), .null, .null, .int 0, .int 0, .int 0, .int 0, .int 0, .null, .null, .null, .int 0, .int 0, .int 0, .int 0, .int 0, .int 0, .int 0])), .inr (.inr (5, [.int 0, .int 0, .int 0, .int 32, .int 0, .int ((-1)), .int 0, .int 0, .ref (n + 2), .ref (n + 4), .ref (n + 6), .int ((-1)), .int 0, .int ((-1)), .int 0])), .inr (.inr (4, [.ref (n + 3), .int 0, .int 60])), .inl (60, fun _ => 0), .inr (.inr (4, [.ref (n + 5), .int 0, .int 60])), .inl (60, fun _ => 0), .inr (.inr (4, [.ref (n + 7), .int 0, .int 60])), .inl (60, fun _ => 0), .inr (.inr (5, [.int 1, .int 0, .int 0, .int 32, .int 0, .int ((-1)), .int 0, .int 0, .ref (n + 9), .ref (n + 11), .ref (n + 13), .int ((-1)), .int 0, .int ((-1)), .int 0])), .inr (.inr (4, [.ref (n + 10), .int 0, .int 60])), .inl (60, fun _ => 0), .inr (.inr (4, [.ref (n + 12), .int 0, .int 60])), .inl (60, fun _ => 0), .inr (.inr (4, [.ref (n + 14), .int 0, .int 60])), .inl (60, fun _ => 0)]) (by simp only [List.append_assoc, List.cons_append, List.nil_append, Nat.add_assoc, Nat.reduceAdd, Nat.add_zero]) ?_
  refine g_putE (q := 28) (hp' := hp ++ [.inr (.inr (2, [.ref (n + 1), .ref (n + 8), .null, .int 0, .int 0, .int 0, .int 0, .int 0, .null, .null, .null, .int 0, .int 0, .int 0, .int 0, .int 0, .int 0, .int 0])), .inr (.inr (5, [.int 0, .int 0, .int 0, .int 32, .int 0, .int ((-1)), .int 0, .int 0, .ref (n + 2), .ref (n + 4), .ref (n + 6), .int ((-1)), .int 0, .int ((-1)), .int 0])), .inr (.inr (4, [.ref (n + 3), .int 0, .int 60])), .inl (60, fun _ => 0), .inr (.inr (4, [.ref (n + 5), .int 0, .int 60])), .inl (60, fun _ => 0), .inr (.inr (4, [.ref (n + 7), .int 0, .int 60])), .inl (60, fun _ => 0), .inr (.inr (5, [.int 1, .int 0, .int 0, .int 32, .int 0, .int ((-1)), .int 0, .int 0, .ref (n + 9), .ref (n + 11), .ref (n + 13), .int ((-1)), .int 0, .int ((-1)), .int 0])), .inr (.inr (4, [.ref (n + 10), .int 0, .int 60])), .inl (60, fun _ => 0), .inr (.inr (4, [.ref (n + 12), .int 0, .int 60])), .inl (60, fun _ => 0), .inr (.inr (4, [.ref (n + 14), .int 0, .int 60])), .inl (60, fun _ => 0)]) C fX2_20 dX2_init_25 rfl (gapp_new hn rfl) (Nat.le_of_ble_eq_true rfl) (Or.inr rfl) rfl rfl (by intro z h; cases h) rfl (gapp_set hn) ?_
  refine g_aload_n (q := 29) C dX2_init_28 rfl rfl ?_
  refine g_new (q := 32) (k := n + 15) C nX2_23 dX2_init_29 rfl (by rw [List.length_append, hn]; rfl) (Nat.le_of_ble_eq_true rfl) (Nat.le_of_ble_eq_true rfl) ?_
  refine g_heap (hp2 := hp ++ [.inr (.inr (2, [.ref (n + 1), .ref (n + 8), .null, .int 0, .int 0, .int 0, .int 0, .int 0, .null, .null, .null, .int 0, .int 0, .int 0, .int 0, .int 0, .int 0, .int 0])), .inr (.inr (5, [.int 0, .int 0, .int 0, .int 32, .int 0, .int ((-1)), .int 0, .int 0, .ref (n + 2), .ref (n + 4), .ref (n + 6), .int ((-1)), .int 0, .int ((-1)), .int 0])), .inr (.inr (4, [.ref (n + 3), .int 0, .int 60])), .inl (60, fun _ => 0), .inr (.inr (4, [.ref (n + 5), .int 0, .int 60])), .inl (60, fun _ => 0), .inr (.inr (4, [.ref (n + 7), .int 0, .int 60])), .inl (60, fun _ => 0), .inr (.inr (5, [.int 1, .int 0, .int 0, .int 32, .int 0, .int ((-1)), .int 0, .int 0, .ref (n + 9), .ref (n + 11), .ref (n + 13), .int ((-1)), .int 0, .int ((-1)), .int 0])), .inr (.inr (4, [.ref (n + 10), .int 0, .int 60])), .inl (60, fun _ => 0), .inr (.inr (4, [.ref (n + 12), .int 0, .int 60])), .inl (60, fun _ => 0), .inr (.inr (4, [.ref (n + 14), .int 0, .int 60])), .inl (60, fun _ => 0), .inr (.inr (6, [.int 0, .int 0, .int 0, .null, .null, .null, .int 0, .int 0, .int 0, .int 0]))]) (by simp only [List.append_assoc, List.cons_append, List.nil_append]) ?_
  refine g_dup (q := 33) C dX2_init_32 rfl rfl ?_
  refine g_heap (hp2 := (hp ++ [.inr (.inr (2, [.ref (n + 1), .ref (n + 8), .null, .int 0, .int 0, .int 0, .int 0, .int 0, .null, .null, .null, .int 0, .int 0, .int 0, .int 0, .int 0, .int 0, .int 0])), .inr (.inr (5, [.int 0, .int 0, .int 0, .int 32, .int 0, .int ((-1)), .int 0, .int 0, .ref (n + 2), .ref (n + 4), .ref (n + 6), .int ((-1)), .int 0, .int ((-1)), .int 0])), .inr (.inr (4, [.ref (n + 3), .int 0, .int 60])), .inl (60, fun _ => 0), .inr (.inr (4, [.ref (n + 5), .int 0, .int 60])), .inl (60, fun _ => 0), .inr (.inr (4, [.ref (n + 7), .int 0, .int 60])), .inl (60, fun _ => 0), .inr (.inr (5, [.int 1, .int 0, .int 0, .int 32, .int 0, .int ((-1)), .int 0, .int 0, .ref (n + 9), .ref (n + 11), .ref (n + 13), .int ((-1)), .int 0, .int ((-1)), .int 0])), .inr (.inr (4, [.ref (n + 10), .int 0, .int 60])), .inl (60, fun _ => 0), .inr (.inr (4, [.ref (n + 12), .int 0, .int 60])), .inl (60, fun _ => 0), .inr (.inr (4, [.ref (n + 14), .int 0, .int 60])), .inl (60, fun _ => 0)]) ++ [.inr (.inr (6, [.int 0, .int 0, .int 0, .null, .null, .null, .int 0, .int 0, .int 0, .int 0]))]) (by simp only [List.append_assoc, List.cons_append, List.nil_append]) ?_
  refine g_callINv (q := 36) (As := []) C gyX6_init giX6_init rfl (host := RX7) (by decide +kernel) (c_X6_init (n := n + 15) (by rw [List.length_append, hn]; rfl)) dX2_init_33 rfl rfl rfl (Nat.le_of_ble_eq_true rfl) (Nat.le_of_ble_eq_true rfl) (Nat.le_of_ble_eq_true rfl) (Nat.le_of_ble_eq_true rfl) (Nat.le_of_ble_eq_true rfl) rfl ?_
  refine g_heap (hp2 := hp ++ [.inr (.inr (2, [.ref (n + 1), .ref (n + 8), .null, .int 0, .int 0, .int 0, .int 0, .int 0, .null, .null, .null, .int 0, .int 0, .int 0, .int 0, .int 0, .int 0, .int 0])), .inr (.inr (5, [.int 0, .int 0, .int 0, .int 32, .int 0, .int ((-1)), .int 0, .int 0, .ref (n + 2), .ref (n + 4), .ref (n + 6), .int ((-1)), .int 0, .int ((-1)), .int 0])), .inr (.inr (4, [.ref (n + 3), .int 0, .int 60])), .inl (60, fun _ => 0), .inr (.inr (4, [.ref (n + 5), .int 0, .int 60])), .inl (60, fun _ => 0), .inr (.inr (4, [.ref (n + 7), .int 0, .int 60])), .inl (60, fun _ => 0), .inr (.inr (5, [.int 1, .int 0, .int 0, .int 32, .int 0, .int ((-1)), .int 0, .int 0, .ref (n + 9), .ref (n + 11), .ref (n + 13), .int ((-1)), .int 0, .int ((-1)), .int 0])), .inr (.inr (4, [.ref (n + 10), .int 0, .int 60])), .inl (60, fun _ => 0), .inr (.inr (4, [.ref (n + 12), .int 0, .int 60])), .inl (60, fun _ => 0), .inr (.inr (4, [.ref (n + 14), .int 0, .int 60])), .inl (60, fun _ => 0), .inr (.inr (6, [.int 1, .int 0, .int 0, .ref (n + 16), .ref (n + 17), .ref (n + 18), .int 0, .int ((-1)), .int 0, .int 0])), .inl (24, fun _ => 0), .inl (24, fun _ => 0), .inl (24, fun _ => 0)]) (by simp only [List.append_assoc, List.cons_append, List.nil_append, Nat.add_assoc, Nat.reduceAdd, Nat.add_zero]) ?_
  refine g_putE (q := 39) (hp' := hp ++ [.inr (.inr (2, [.ref (n + 1), .ref (n + 8), .ref (n + 15), .int 0, .int 0, .int 0, .int 0, .int 0, .null, .null, .null, .int 0, .int 0, .int 0, .int 0, .int 0, .int 0, .int 0])), .inr (.inr (5, [.int 0, .int 0, .int 0, .int 32, .int 0, .int ((-1)), .int 0, .int 0, .ref (n + 2), .ref (n + 4), .ref (n + 6), .int ((-1)), .int 0, .int ((-1)), .int 0])), .inr (.inr (4, [.ref (n + 3), .int 0, .int 60])), .inl (60, fun _ => 0), .inr (.inr (4, [.ref (n + 5), .int 0, .int 60])), .inl (60, fun _ => 0), .inr (.inr (4, [.ref (n + 7), .int 0, .int 60])), .inl (60, fun _ => 0), .inr (.inr (5, [.int 1, .int 0, .int 0, .int 32, .int 0, .int ((-1)), .int 0, .int 0, .ref (n + 9), .ref (n + 11), .ref (n + 13), .int ((-1)), .int 0, .int ((-1)), .int 0])), .inr (.inr (4, [.ref (n + 10), .int 0, .int 60])), .inl (60, fun _ => 0), .inr (.inr (4, [.ref (n + 12), .int 0, .int 60])), .inl (60, fun _ => 0), .inr (.inr (4, [.ref (n + 14), .int 0, .int 60])), .inl (60, fun _ => 0), .inr (.inr (6, [.int 1, .int 0, .int 0, .ref (n + 16), .ref (n + 17), .ref (n + 18), .int 0, .int ((-1)), .int 0, .int 0])), .inl (24, fun _ => 0), .inl (24, fun _ => 0), .inl (24, fun _ => 0)]) C fX2_26 dX2_init_36 rfl (gapp_new hn rfl) (Nat.le_of_ble_eq_true rfl) (Or.inr rfl) rfl rfl (by intro z h; cases h) rfl (gapp_set hn) ?_
  refine g_aload_n (q := 40) C dX2_init_39 rfl rfl ?_
  refine g_iconst (v := 0) (q := 41) C dX2_init_40 (by decide) rfl ?_
  refine g_putE (q := 44) (hp' := hp ++ [.inr (.inr (2, [.ref (n + 1), .ref (n + 8), .ref (n + 15), .int 0, .int 0, .int 0, .int 0, .int 0, .null, .null, .null, .int 0, .int 0, .int 0, .int 0, .int 0, .int 0, .int 0])), .inr (.inr (5, [.int 0, .int 0, .int 0, .int 32, .int 0, .int ((-1)), .int 0, .int 0, .ref (n + 2), .ref (n + 4), .ref (n + 6), .int ((-1)), .int 0, .int ((-1)), .int 0])), .inr (.inr (4, [.ref (n + 3), .int 0, .int 60])), .inl (60, fun _ => 0), .inr (.inr (4, [.ref (n + 5), .int 0, .int 60])), .inl (60, fun _ => 0), .inr (.inr (4, [.ref (n + 7), .int 0, .int 60])), .inl (60, fun _ => 0), .inr (.inr (5, [.int 1, .int 0, .int 0, .int 32, .int 0, .int ((-1)), .int 0, .int 0, .ref (n + 9), .ref (n + 11), .ref (n + 13), .int ((-1)), .int 0, .int ((-1)), .int 0])), .inr (.inr (4, [.ref (n + 10), .int 0, .int 60])), .inl (60, fun _ => 0), .inr (.inr (4, [.ref (n + 12), .int 0, .int 60])), .inl (60, fun _ => 0), .inr (.inr (4, [.ref (n + 14), .int 0, .int 60])), .inl (60, fun _ => 0), .inr (.inr (6, [.int 1, .int 0, .int 0, .ref (n + 16), .ref (n + 17), .ref (n + 18), .int 0, .int ((-1)), .int 0, .int 0])), .inl (24, fun _ => 0), .inl (24, fun _ => 0), .inl (24, fun _ => 0)]) C fX2_30 dX2_init_41 rfl (gapp_new hn rfl) (Nat.le_of_ble_eq_true rfl) (Or.inl rfl) rfl rfl (by intro z h; cases h) rfl (gapp_set hn) ?_
  refine g_aload_n (q := 45) C dX2_init_44 rfl rfl ?_
  refine g_iconst (v := 0) (q := 46) C dX2_init_45 (by decide) rfl ?_
  refine g_putE (q := 49) (hp' := hp ++ [.inr (.inr (2, [.ref (n + 1), .ref (n + 8), .ref (n + 15), .int 0, .int 0, .int 0, .int 0, .int 0, .null, .null, .null, .int 0, .int 0, .int 0, .int 0, .int 0, .int 0, .int 0])), .inr (.inr (5, [.int 0, .int 0, .int 0, .int 32, .int 0, .int ((-1)), .int 0, .int 0, .ref (n + 2), .ref (n + 4), .ref (n + 6), .int ((-1)), .int 0, .int ((-1)), .int 0])), .inr (.inr (4, [.ref (n + 3), .int 0, .int 60])), .inl (60, fun _ => 0), .inr (.inr (4, [.ref (n + 5), .int 0, .int 60])), .inl (60, fun _ => 0), .inr (.inr (4, [.ref (n + 7), .int 0, .int 60])), .inl (60, fun _ => 0), .inr (.inr (5, [.int 1, .int 0, .int 0, .int 32, .int 0, .int ((-1)), .int 0, .int 0, .ref (n + 9), .ref (n + 11), .ref (n + 13), .int ((-1)), .int 0, .int ((-1)), .int 0])), .inr (.inr (4, [.ref (n + 10), .int 0, .int 60])), .inl (60, fun _ => 0), .inr (.inr (4, [.ref (n + 12), .int 0, .int 60])), .inl (60, fun _ => 0), .inr (.inr (4, [.ref (n + 14), .int 0, .int 60])), .inl (60, fun _ => 0), .inr (.inr (6, [.int 1, .int 0, .int 0, .ref (n + 16), .ref (n + 17), .ref (n + 18), .int 0, .int ((-1)), .int 0, .int 0])), .inl (24, fun _ => 0), .inl (24, fun _ => 0), .inl (24, fun _ => 0)]) C fX2_34 dX2_init_46 rfl (gapp_new hn rfl) (Nat.le_of_ble_eq_true rfl) (Or.inl rfl) rfl rfl (by intro z h; cases h) rfl (gapp_set hn) ?_
  refine g_aload_n (q := 50) C dX2_init_49 rfl rfl ?_
  refine g_iconst (v := 0) (q := 51) C dX2_init_50 (by decide) rfl ?_
  refine g_putE (q := 54) (hp' := hp ++ [.inr (.inr (2, [.ref (n + 1), .ref (n + 8), .ref (n + 15), .int 0, .int 0, .int 0, .int 0, .int 0, .null, .null, .null, .int 0, .int 0, .int 0, .int 0, .int 0, .int 0, .int 0])), .inr (.inr (5, [.int 0, .int 0, .int 0, .int 32, .int 0, .int ((-1)), .int 0, .int 0, .ref (n + 2), .ref (n + 4), .ref (n + 6), .int ((-1)), .int 0, .int ((-1)), .int 0])), .inr (.inr (4, [.ref (n + 3), .int 0, .int 60])), .inl (60, fun _ => 0), .inr (.inr (4, [.ref (n + 5), .int 0, .int 60])), .inl (60, fun _ => 0), .inr (.inr (4, [.ref (n + 7), .int 0, .int 60])), .inl (60, fun _ => 0), .inr (.inr (5, [.int 1, .int 0, .int 0, .int 32, .int 0, .int ((-1)), .int 0, .int 0, .ref (n + 9), .ref (n + 11), .ref (n + 13), .int ((-1)), .int 0, .int ((-1)), .int 0])), .inr (.inr (4, [.ref (n + 10), .int 0, .int 60])), .inl (60, fun _ => 0), .inr (.inr (4, [.ref (n + 12), .int 0, .int 60])), .inl (60, fun _ => 0), .inr (.inr (4, [.ref (n + 14), .int 0, .int 60])), .inl (60, fun _ => 0), .inr (.inr (6, [.int 1, .int 0, .int 0, .ref (n + 16), .ref (n + 17), .ref (n + 18), .int 0, .int ((-1)), .int 0, .int 0])), .inl (24, fun _ => 0), .inl (24, fun _ => 0), .inl (24, fun _ => 0)]) C fX2_37 dX2_init_51 rfl (gapp_new hn rfl) (Nat.le_of_ble_eq_true rfl) (Or.inl rfl) rfl rfl (by intro z h; cases h) rfl (gapp_set hn) ?_
  refine g_aload_n (q := 55) C dX2_init_54 rfl rfl ?_
  refine g_iconst (v := 0) (q := 56) C dX2_init_55 (by decide) rfl ?_
  refine g_putE (q := 59) (hp' := hp ++ [.inr (.inr (2, [.ref (n + 1), .ref (n + 8), .ref (n + 15), .int 0, .int 0, .int 0, .int 0, .int 0, .null, .null, .null, .int 0, .int 0, .int 0, .int 0, .int 0, .int 0, .int 0])), .inr (.inr (5, [.int 0, .int 0, .int 0, .int 32, .int 0, .int ((-1)), .int 0, .int 0, .ref (n + 2), .ref (n + 4), .ref (n + 6), .int ((-1)), .int 0, .int ((-1)), .int 0])), .inr (.inr (4, [.ref (n + 3), .int 0, .int 60])), .inl (60, fun _ => 0), .inr (.inr (4, [.ref (n + 5), .int 0, .int 60])), .inl (60, fun _ => 0), .inr (.inr (4, [.ref (n + 7), .int 0, .int 60])), .inl (60, fun _ => 0), .inr (.inr (5, [.int 1, .int 0, .int 0, .int 32, .int 0, .int ((-1)), .int 0, .int 0, .ref (n + 9), .ref (n + 11), .ref (n + 13), .int ((-1)), .int 0, .int ((-1)), .int 0])), .inr (.inr (4, [.ref (n + 10), .int 0, .int 60])), .inl (60, fun _ => 0), .inr (.inr (4, [.ref (n + 12), .int 0, .int 60])), .inl (60, fun _ => 0), .inr (.inr (4, [.ref (n + 14), .int 0, .int 60])), .inl (60, fun _ => 0), .inr (.inr (6, [.int 1, .int 0, .int 0, .ref (n + 16), .ref (n + 17), .ref (n + 18), .int 0, .int ((-1)), .int 0, .int 0])), .inl (24, fun _ => 0), .inl (24, fun _ => 0), .inl (24, fun _ => 0)]) C fX2_40 dX2_init_56 rfl (gapp_new hn rfl) (Nat.le_of_ble_eq_true rfl) (Or.inl rfl) rfl rfl (by intro z h; cases h) rfl (gapp_set hn) ?_
  refine g_aload_n (q := 60) C dX2_init_59 rfl rfl ?_
  refine g_iconst (v := 0) (q := 61) C dX2_init_60 (by decide) rfl ?_
  refine g_putE (q := 64) (hp' := hp ++ [.inr (.inr (2, [.ref (n + 1), .ref (n + 8), .ref (n + 15), .int 0, .int 0, .int 0, .int 0, .int 0, .null, .null, .null, .int 0, .int 0, .int 0, .int 0, .int 0, .int 0, .int 0])), .inr (.inr (5, [.int 0, .int 0, .int 0, .int 32, .int 0, .int ((-1)), .int 0, .int 0, .ref (n + 2), .ref (n + 4), .ref (n + 6), .int ((-1)), .int 0, .int ((-1)), .int 0])), .inr (.inr (4, [.ref (n + 3), .int 0, .int 60])), .inl (60, fun _ => 0), .inr (.inr (4, [.ref (n + 5), .int 0, .int 60])), .inl (60, fun _ => 0), .inr (.inr (4, [.ref (n + 7), .int 0, .int 60])), .inl (60, fun _ => 0), .inr (.inr (5, [.int 1, .int 0, .int 0, .int 32, .int 0, .int ((-1)), .int 0, .int 0, .ref (n + 9), .ref (n + 11), .ref (n + 13), .int ((-1)), .int 0, .int ((-1)), .int 0])), .inr (.inr (4, [.ref (n + 10), .int 0, .int 60])), .inl (60, fun _ => 0), .inr (.inr (4, [.ref (n + 12), .int 0, .int 60])), .inl (60, fun _ => 0), .inr (.inr (4, [.ref (n + 14), .int 0, .int 60])), .inl (60, fun _ => 0), .inr (.inr (6, [.int 1, .int 0, .int 0, .ref (n + 16), .ref (n + 17), .ref (n + 18), .int 0, .int ((-1)), .int 0, .int 0])), .inl (24, fun _ => 0), .inl (24, fun _ => 0), .inl (24, fun _ => 0)]) C fX2_43 dX2_init_61 rfl (gapp_new hn rfl) (Nat.le_of_ble_eq_true rfl) (Or.inl rfl) rfl rfl (by intro z h; cases h) rfl (gapp_set hn) ?_
  refine g_aload_n (q := 65) C dX2_init_64 rfl rfl ?_
  refine g_new (q := 68) (k := n + 19) C nX2_46 dX2_init_65 rfl (by rw [List.length_append, hn]; rfl) (Nat.le_of_ble_eq_true rfl) (Nat.le_of_ble_eq_true rfl) ?_
  refine g_heap (hp2 := hp ++ [.inr (.inr (2, [.ref (n + 1), .ref (n + 8), .ref (n + 15), .int 0, .int 0, .int 0, .int 0, .int 0, .null, .null, .null, .int 0, .int 0, .int 0, .int 0, .int 0, .int 0, .int 0])), .inr (.inr (5, [.int 0, .int 0, .int 0, .int 32, .int 0, .int ((-1)), .int 0, .int 0, .ref (n + 2), .ref (n + 4), .ref (n + 6), .int ((-1)), .int 0, .int ((-1)), .int 0])), .inr (.inr (4, [.ref (n + 3), .int 0, .int 60])), .inl (60, fun _ => 0), .inr (.inr (4, [.ref (n + 5), .int 0, .int 60])), .inl (60, fun _ => 0), .inr (.inr (4, [.ref (n + 7), .int 0, .int 60])), .inl (60, fun _ => 0), .inr (.inr (5, [.int 1, .int 0, .int 0, .int 32, .int 0, .int ((-1)), .int 0, .int 0, .ref (n + 9), .ref (n + 11), .ref (n + 13), .int ((-1)), .int 0, .int ((-1)), .int 0])), .inr (.inr (4, [.ref (n + 10), .int 0, .int 60])), .inl (60, fun _ => 0), .inr (.inr (4, [.ref (n + 12), .int 0, .int 60])), .inl (60, fun _ => 0), .inr (.inr (4, [.ref (n + 14), .int 0, .int 60])), .inl (60, fun _ => 0), .inr (.inr (6, [.int 1, .int 0, .int 0, .ref (n + 16), .ref (n + 17), .ref (n + 18), .int 0, .int ((-1)), .int 0, .int 0])), .inl (24, fun _ => 0), .inl (24, fun _ => 0), .inl (24, fun _ => 0), .inr (.inr (4, [.null, .int 0, .int 0]))]) (by simp only [List.append_assoc, List.cons_append, List.nil_append]) ?_
  refine g_dup (q := 69) C dX2_init_68 rfl rfl ?_
  refine g_bipush (v := 64) (q := 71) C dX2_init_69 (by decide) rfl ?_
  refine g_bipush (v := 64) (q := 73) C dX2_init_71 (by decide) rfl ?_
  refine g_heap (hp2 := (hp ++ [.inr (.inr (2, [.ref (n + 1), .ref (n + 8), .ref (n + 15), .int 0, .int 0, .int 0, .int 0, .int 0, .null, .null, .null, .int 0, .int 0, .int 0, .int 0, .int 0, .int 0, .int 0])), .inr (.inr (5, [.int 0, .int 0, .int 0, .int 32, .int 0, .int ((-1)), .int 0, .int 0, .ref (n + 2), .ref (n + 4), .ref (n + 6), .int ((-1)), .int 0, .int ((-1)), .int 0])), .inr (.inr (4, [.ref (n + 3), .int 0, .int 60])), .inl (60, fun _ => 0), .inr (.inr (4, [.ref (n + 5), .int 0, .int 60])), .inl (60, fun _ => 0), .inr (.inr (4, [.ref (n + 7), .int 0, .int 60])), .inl (60, fun _ => 0), .inr (.inr (5, [.int 1, .int 0, .int 0, .int 32, .int 0, .int ((-1)), .int 0, .int 0, .ref (n + 9), .ref (n + 11), .ref (n + 13), .int ((-1)), .int 0, .int ((-1)), .int 0])), .inr (.inr (4, [.ref (n + 10), .int 0, .int 60])), .inl (60, fun _ => 0), .inr (.inr (4, [.ref (n + 12), .int 0, .int 60])), .inl (60, fun _ => 0), .inr (.inr (4, [.ref (n + 14), .int 0, .int 60])), .inl (60, fun _ => 0), .inr (.inr (6, [.int 1, .int 0, .int 0, .ref (n + 16), .ref (n + 17), .ref (n + 18), .int 0, .int ((-1)), .int 0, .int 0])), .inl (24, fun _ => 0), .inl (24, fun _ => 0), .inl (24, fun _ => 0)]) ++ [.inr (.inr (4, [.null, .int 0, .int 0]))]) (by simp only [List.append_assoc, List.cons_append, List.nil_append]) ?_
  refine g_callIv (q := 76) (As := [.int 64, .int 64]) C gyX4_init giX4_init rfl t_236 (c_X4_init (n := n + 19) (N := 64) (first := 64) (by rw [List.length_append, hn]; rfl) (by decide) (by decide)) dX2_init_73 rfl rfl rfl (Nat.le_of_ble_eq_true rfl) (Nat.le_of_ble_eq_true rfl) (Nat.le_of_ble_eq_true rfl) (Nat.le_of_ble_eq_true rfl) (Nat.le_of_ble_eq_true rfl) rfl ?_
  refine g_heap (hp2 := hp ++ [.inr (.inr (2, [.ref (n + 1), .ref (n + 8), .ref (n + 15), .int 0, .int 0, .int 0, .int 0, .int 0, .null, .null, .null, .int 0, .int 0, .int 0, .int 0, .int 0, .int 0, .int 0])), .inr (.inr (5, [.int 0, .int 0, .int 0, .int 32, .int 0, .int ((-1)), .int 0, .int 0, .ref (n + 2), .ref (n + 4), .ref (n + 6), .int ((-1)), .int 0, .int ((-1)), .int 0])), .inr (.inr (4, [.ref (n + 3), .int 0, .int 60])), .inl (60, fun _ => 0), .inr (.inr (4, [.ref (n + 5), .int 0, .int 60])), .inl (60, fun _ => 0), .inr (.inr (4, [.ref (n + 7), .int 0, .int 60])), .inl (60, fun _ => 0), .inr (.inr (5, [.int 1, .int 0, .int 0, .int 32, .int 0, .int ((-1)), .int 0, .int 0, .ref (n + 9), .ref (n + 11), .ref (n + 13), .int ((-1)), .int 0, .int ((-1)), .int 0])), .inr (.inr (4, [.ref (n + 10), .int 0, .int 60])), .inl (60, fun _ => 0), .inr (.inr (4, [.ref (n + 12), .int 0, .int 60])), .inl (60, fun _ => 0), .inr (.inr (4, [.ref (n + 14), .int 0, .int 60])), .inl (60, fun _ => 0), .inr (.inr (6, [.int 1, .int 0, .int 0, .ref (n + 16), .ref (n + 17), .ref (n + 18), .int 0, .int ((-1)), .int 0, .int 0])), .inl (24, fun _ => 0), .inl (24, fun _ => 0), .inl (24, fun _ => 0), .inr (.inr (4, [.ref (n + 20), .int 0, .int 64])), .inl (64, fun _ => 0)]) (by simp only [List.append_assoc, List.cons_append, List.nil_append, Nat.add_assoc, Nat.reduceAdd, Nat.add_zero]) ?_
  refine g_putE (q := 79) (hp' := hp ++ [.inr (.inr (2, [.ref (n + 1), .ref (n + 8), .ref (n + 15), .int 0, .int 0, .int 0, .int 0, .int 0, .ref (n + 19), .null, .null, .int 0, .int 0, .int 0, .int 0, .int 0, .int 0, .int 0])), .inr (.inr (5, [.int 0, .int 0, .int 0, .int 32, .int 0, .int ((-1)), .int 0, .int 0, .ref (n + 2), .ref (n + 4), .ref (n + 6), .int ((-1)), .int 0, .int ((-1)), .int 0])), .inr (.inr (4, [.ref (n + 3), .int 0, .int 60])), .inl (60, fun _ => 0), .inr (.inr (4, [.ref (n + 5), .int 0, .int 60])), .inl (60, fun _ => 0), .inr (.inr (4, [.ref (n + 7), .int 0, .int 60])), .inl (60, fun _ => 0), .inr (.inr (5, [.int 1, .int 0, .int 0, .int 32, .int 0, .int ((-1)), .int 0, .int 0, .ref (n + 9), .ref (n + 11), .ref (n + 13), .int ((-1)), .int 0, .int ((-1)), .int 0])), .inr (.inr (4, [.ref (n + 10), .int 0, .int 60])), .inl (60, fun _ => 0), .inr (.inr (4, [.ref (n + 12), .int 0, .int 60])), .inl (60, fun _ => 0), .inr (.inr (4, [.ref (n + 14), .int 0, .int 60])), .inl (60, fun _ => 0), .inr (.inr (6, [.int 1, .int 0, .int 0, .ref (n + 16), .ref (n + 17), .ref (n + 18), .int 0, .int ((-1)), .int 0, .int 0])), .inl (24, fun _ => 0), .inl (24, fun _ => 0), .inl (24, fun _ => 0), .inr (.inr (4, [.ref (n + 20), .int 0, .int 64])), .inl (64, fun _ => 0)]) C fX2_51 dX2_init_76 rfl (gapp_new hn rfl) (Nat.le_of_ble_eq_true rfl) (Or.inr rfl) rfl rfl (by intro z h; cases h) rfl (gapp_set hn) ?_
  refine g_aload_n (q := 80) C dX2_init_79 rfl rfl ?_
  refine g_new (q := 83) (k := n + 21) C nX2_46 dX2_init_80 rfl (by rw [List.length_append, hn]; rfl) (Nat.le_of_ble_eq_true rfl) (Nat.le_of_ble_eq_true rfl) ?_
  refine g_heap (hp2 := hp ++ [.inr (.inr (2, [.ref (n + 1), .ref (n + 8), .ref (n + 15), .int 0, .int 0, .int 0, .int 0, .int 0, .ref (n + 19), .null, .null, .int 0, .int 0, .int 0, .int 0, .int 0, .int 0, .int 0])), .inr (.inr (5, [.int 0, .int 0, .int 0, .int 32, .int 0, .int ((-1)), .int 0, .int 0, .ref (n + 2), .ref (n + 4), .ref (n + 6), .int ((-1)), .int 0, .int ((-1)), .int 0])), .inr (.inr (4, [.ref (n + 3), .int 0, .int 60])), .inl (60, fun _ => 0), .inr (.inr (4, [.ref (n + 5), .int 0, .int 60])), .inl (60, fun _ => 0), .inr (.inr (4, [.ref (n + 7), .int 0, .int 60])), .inl (60, fun _ => 0), .inr (.inr (5, [.int 1, .int 0, .int 0, .int 32, .int 0, .int ((-1)), .int 0, .int 0, .ref (n + 9), .ref (n + 11), .ref (n + 13), .int ((-1)), .int 0, .int ((-1)), .int 0])), .inr (.inr (4, [.ref (n + 10), .int 0, .int 60])), .inl (60, fun _ => 0), .inr (.inr (4, [.ref (n + 12), .int 0, .int 60])), .inl (60, fun _ => 0), .inr (.inr (4, [.ref (n + 14), .int 0, .int 60])), .inl (60, fun _ => 0), .inr (.inr (6, [.int 1, .int 0, .int 0, .ref (n + 16), .ref (n + 17), .ref (n + 18), .int 0, .int ((-1)), .int 0, .int 0])), .inl (24, fun _ => 0), .inl (24, fun _ => 0), .inl (24, fun _ => 0), .inr (.inr (4, [.ref (n + 20), .int 0, .int 64])), .inl (64, fun _ => 0), .inr (.inr (4, [.null, .int 0, .int 0]))]) (by simp only [List.append_assoc, List.cons_append, List.nil_append]) ?_
  refine g_dup (q := 84) C dX2_init_83 rfl rfl ?_
  refine g_bipush (v := 64) (q := 86) C dX2_init_84 (by decide) rfl ?_
  refine g_bipush (v := 64) (q := 88) C dX2_init_86 (by decide) rfl ?_
  refine g_heap (hp2 := (hp ++ [.inr (.inr (2, [.ref (n + 1), .ref (n + 8), .ref (n + 15), .int 0, .int 0, .int 0, .int 0, .int 0, .ref (n + 19), .null, .null, .int 0, .int 0, .int 0, .int 0, .int 0, .int 0, .int 0])), .inr (.inr (5, [.int 0, .int 0, .int 0, .int 32, .int 0, .int ((-1)), .int 0, .int 0, .ref (n + 2), .ref (n + 4), .ref (n + 6), .int ((-1)), .int 0, .int ((-1)), .int 0])), .inr (.inr (4, [.ref (n + 3), .int 0, .int 60])), .inl (60, fun _ => 0), .inr (.inr (4, [.ref (n + 5), .int 0, .int 60])), .inl (60, fun _ => 0), .inr (.inr (4, [.ref (n + 7), .int 0, .int 60])), .inl (60, fun _ => 0), .inr (.inr (5, [.int 1, .int 0, .int 0, .int 32, .int 0, .int ((-1)), .int 0, .int 0, .ref (n + 9), .ref (n + 11), .ref (n + 13), .int ((-1)), .int 0, .int ((-1)), .int 0])), .inr (.inr (4, [.ref (n + 10), .int 0, .int 60])), .inl (60, fun _ => 0), .inr (.inr (4, [.ref (n + 12), .int 0, .int 60])), .inl (60, fun _ => 0), .inr (.inr (4, [.ref (n + 14), .int 0, .int 60])), .inl (60, fun _ => 0), .inr (.inr (6, [.int 1, .int 0, .int 0, .ref (n + 16), .ref (n + 17), .ref (n + 18), .int 0, .int ((-1)), .int 0, .int 0])), .inl (24, fun _ => 0), .inl (24, fun _ => 0), .inl (24, fun _ => 0), .inr (.inr (4, [.ref (n + 20), .int 0, .int 64])), .inl (64, fun _ => 0)]) ++ [.inr (.inr (4, [.null, .int 0, .int 0]))]) (by simp only [List.append_assoc, List.cons_append, List.nil_append]) ?_
  refine g_callIv (q := 91) (As := [.int 64, .int 64]) C gyX4_init giX4_init rfl t_236 (c_X4_init (n := n + 21) (N := 64) (first := 64) (by rw [List.length_append, hn]; rfl) (by decide) (by decide)) dX2_init_88 rfl rfl rfl (Nat.le_of_ble_eq_true rfl) (Nat.le_of_ble_eq_true rfl) (Nat.le_of_ble_eq_true rfl) (Nat.le_of_ble_eq_true rfl) (Nat.le_of_ble_eq_true rfl) rfl ?_
  refine g_heap (hp2 := hp ++ [.inr (.inr (2, [.ref (n + 1), .ref (n + 8), .ref (n + 15), .int 0, .int 0, .int 0, .int 0, .int 0, .ref (n + 19), .null, .null, .int 0, .int 0, .int 0, .int 0, .int 0, .int 0, .int 0])), .inr (.inr (5, [.int 0, .int 0, .int 0, .int 32, .int 0, .int ((-1)), .int 0, .int 0, .ref (n + 2), .ref (n + 4), .ref (n + 6), .int ((-1)), .int 0, .int ((-1)), .int 0])), .inr (.inr (4, [.ref (n + 3), .int 0, .int 60])), .inl (60, fun _ => 0), .inr (.inr (4, [.ref (n + 5), .int 0, .int 60])), .inl (60, fun _ => 0), .inr (.inr (4, [.ref (n + 7), .int 0, .int 60])), .inl (60, fun _ => 0), .inr (.inr (5, [.int 1, .int 0, .int 0, .int 32, .int 0, .int ((-1)), .int 0, .int 0, .ref (n + 9), .ref (n + 11), .ref (n + 13), .int ((-1)), .int 0, .int ((-1)), .int 0])), .inr (.inr (4, [.ref (n + 10), .int 0, .int 60])), .inl (60, fun _ => 0), .inr (.inr (4, [.ref (n + 12), .int 0, .int 60])), .inl (60, fun _ => 0), .inr (.inr (4, [.ref (n + 14), .int 0, .int 60])), .inl (60, fun _ => 0), .inr (.inr (6, [.int 1, .int 0, .int 0, .ref (n + 16), .ref (n + 17), .ref (n + 18), .int 0, .int ((-1)), .int 0, .int 0])), .inl (24, fun _ => 0), .inl (24, fun _ => 0), .inl (24, fun _ => 0), .inr (.inr (4, [.ref (n + 20), .int 0, .int 64])), .inl (64, fun _ => 0), .inr (.inr (4, [.ref (n + 22), .int 0, .int 64])), .inl (64, fun _ => 0)]) (by simp only [List.append_assoc, List.cons_append, List.nil_append, Nat.add_assoc, Nat.reduceAdd, Nat.add_zero]) ?_
  refine g_putE (q := 94) (hp' := hp ++ [.inr (.inr (2, [.ref (n + 1), .ref (n + 8), .ref (n + 15), .int 0, .int 0, .int 0, .int 0, .int 0, .ref (n + 19), .ref (n + 21), .null, .int 0, .int 0, .int 0, .int 0, .int 0, .int 0, .int 0])), .inr (.inr (5, [.int 0, .int 0, .int 0, .int 32, .int 0, .int ((-1)), .int 0, .int 0, .ref (n + 2), .ref (n + 4), .ref (n + 6), .int ((-1)), .int 0, .int ((-1)), .int 0])), .inr (.inr (4, [.ref (n + 3), .int 0, .int 60])), .inl (60, fun _ => 0), .inr (.inr (4, [.ref (n + 5), .int 0, .int 60])), .inl (60, fun _ => 0), .inr (.inr (4, [.ref (n + 7), .int 0, .int 60])), .inl (60, fun _ => 0), .inr (.inr (5, [.int 1, .int 0, .int 0, .int 32, .int 0, .int ((-1)), .int 0, .int 0, .ref (n + 9), .ref (n + 11), .ref (n + 13), .int ((-1)), .int 0, .int ((-1)), .int 0])), .inr (.inr (4, [.ref (n + 10), .int 0, .int 60])), .inl (60, fun _ => 0), .inr (.inr (4, [.ref (n + 12), .int 0, .int 60])), .inl (60, fun _ => 0), .inr (.inr (4, [.ref (n + 14), .int 0, .int 60])), .inl (60, fun _ => 0), .inr (.inr (6, [.int 1, .int 0, .int 0, .ref (n + 16), .ref (n + 17), .ref (n + 18), .int 0, .int ((-1)), .int 0, .int 0])), .inl (24, fun _ => 0), .inl (24, fun _ => 0), .inl (24, fun _ => 0), .inr (.inr (4, [.ref (n + 20), .int 0, .int 64])), .inl (64, fun _ => 0), .inr (.inr (4, [.ref (n + 22), .int 0, .int 64])), .inl (64, fun _ => 0)]) C fX2_55 dX2_init_91 rfl (gapp_new hn rfl) (Nat.le_of_ble_eq_true rfl) (Or.inr rfl) rfl rfl (by intro z h; cases h) rfl (gapp_set hn) ?_
  refine g_aload_n (q := 95) C dX2_init_94 rfl rfl ?_
  refine g_iconst (v := 3) (q := 96) C dX2_init_95 (by decide) rfl ?_
  refine g_putE (q := 99) (hp' := hp ++ [.inr (.inr (2, [.ref (n + 1), .ref (n + 8), .ref (n + 15), .int 0, .int 0, .int 0, .int 0, .int 0, .ref (n + 19), .ref (n + 21), .null, .int 3, .int 0, .int 0, .int 0, .int 0, .int 0, .int 0])), .inr (.inr (5, [.int 0, .int 0, .int 0, .int 32, .int 0, .int ((-1)), .int 0, .int 0, .ref (n + 2), .ref (n + 4), .ref (n + 6), .int ((-1)), .int 0, .int ((-1)), .int 0])), .inr (.inr (4, [.ref (n + 3), .int 0, .int 60])), .inl (60, fun _ => 0), .inr (.inr (4, [.ref (n + 5), .int 0, .int 60])), .inl (60, fun _ => 0), .inr (.inr (4, [.ref (n + 7), .int 0, .int 60])), .inl (60, fun _ => 0), .inr (.inr (5, [.int 1, .int 0, .int 0, .int 32, .int 0, .int ((-1)), .int 0, .int 0, .ref (n + 9), .ref (n + 11), .ref (n + 13), .int ((-1)), .int 0, .int ((-1)), .int 0])), .inr (.inr (4, [.ref (n + 10), .int 0, .int 60])), .inl (60, fun _ => 0), .inr (.inr (4, [.ref (n + 12), .int 0, .int 60])), .inl (60, fun _ => 0), .inr (.inr (4, [.ref (n + 14), .int 0, .int 60])), .inl (60, fun _ => 0), .inr (.inr (6, [.int 1, .int 0, .int 0, .ref (n + 16), .ref (n + 17), .ref (n + 18), .int 0, .int ((-1)), .int 0, .int 0])), .inl (24, fun _ => 0), .inl (24, fun _ => 0), .inl (24, fun _ => 0), .inr (.inr (4, [.ref (n + 20), .int 0, .int 64])), .inl (64, fun _ => 0), .inr (.inr (4, [.ref (n + 22), .int 0, .int 64])), .inl (64, fun _ => 0)]) C fX2_58 dX2_init_96 rfl (gapp_new hn rfl) (Nat.le_of_ble_eq_true rfl) (Or.inl rfl) rfl rfl (by intro z h; cases h) rfl (gapp_set hn) ?_
  refine g_aload_n (q := 100) C dX2_init_99 rfl rfl ?_
  refine g_iconst (v := 0) (q := 101) C dX2_init_100 (by decide) rfl ?_
  refine g_putE (q := 104) (hp' := hp ++ [.inr (.inr (2, [.ref (n + 1), .ref (n + 8), .ref (n + 15), .int 0, .int 0, .int 0, .int 0, .int 0, .ref (n + 19), .ref (n + 21), .null, .int 3, .int 0, .int 0, .int 0, .int 0, .int 0, .int 0])), .inr (.inr (5, [.int 0, .int 0, .int 0, .int 32, .int 0, .int ((-1)), .int 0, .int 0, .ref (n + 2), .ref (n + 4), .ref (n + 6), .int ((-1)), .int 0, .int ((-1)), .int 0])), .inr (.inr (4, [.ref (n + 3), .int 0, .int 60])), .inl (60, fun _ => 0), .inr (.inr (4, [.ref (n + 5), .int 0, .int 60])), .inl (60, fun _ => 0), .inr (.inr (4, [.ref (n + 7), .int 0, .int 60])), .inl (60, fun _ => 0), .inr (.inr (5, [.int 1, .int 0, .int 0, .int 32, .int 0, .int ((-1)), .int 0, .int 0, .ref (n + 9), .ref (n + 11), .ref (n + 13), .int ((-1)), .int 0, .int ((-1)), .int 0])), .inr (.inr (4, [.ref (n + 10), .int 0, .int 60])), .inl (60, fun _ => 0), .inr (.inr (4, [.ref (n + 12), .int 0, .int 60])), .inl (60, fun _ => 0), .inr (.inr (4, [.ref (n + 14), .int 0, .int 60])), .inl (60, fun _ => 0), .inr (.inr (6, [.int 1, .int 0, .int 0, .ref (n + 16), .ref (n + 17), .ref (n + 18), .int 0, .int ((-1)), .int 0, .int 0])), .inl (24, fun _ => 0), .inl (24, fun _ => 0), .inl (24, fun _ => 0), .inr (.inr (4, [.ref (n + 20), .int 0, .int 64])), .inl (64, fun _ => 0), .inr (.inr (4, [.ref (n + 22), .int 0, .int 64])), .inl (64, fun _ => 0)]) C fX2_61 dX2_init_101 rfl (gapp_new hn rfl) (Nat.le_of_ble_eq_true rfl) (Or.inl rfl) rfl rfl (by intro z h; cases h) rfl (gapp_set hn) ?_
  refine g_aload_n (q := 105) C dX2_init_104 rfl rfl ?_
  refine g_iconst (v := (-1)) (q := 106) C dX2_init_105 (by decide) rfl ?_
  refine g_putE (q := 109) (hp' := hp ++ [.inr (.inr (2, [.ref (n + 1), .ref (n + 8), .ref (n + 15), .int 0, .int 0, .int 0, .int 0, .int 0, .ref (n + 19), .ref (n + 21), .null, .int 3, .int 0, .int ((-1)), .int 0, .int 0, .int 0, .int 0])), .inr (.inr (5, [.int 0, .int 0, .int 0, .int 32, .int 0, .int ((-1)), .int 0, .int 0, .ref (n + 2), .ref (n + 4), .ref (n + 6), .int ((-1)), .int 0, .int ((-1)), .int 0])), .inr (.inr (4, [.ref (n + 3), .int 0, .int 60])), .inl (60, fun _ => 0), .inr (.inr (4, [.ref (n + 5), .int 0, .int 60])), .inl (60, fun _ => 0), .inr (.inr (4, [.ref (n + 7), .int 0, .int 60])), .inl (60, fun _ => 0), .inr (.inr (5, [.int 1, .int 0, .int 0, .int 32, .int 0, .int ((-1)), .int 0, .int 0, .ref (n + 9), .ref (n + 11), .ref (n + 13), .int ((-1)), .int 0, .int ((-1)), .int 0])), .inr (.inr (4, [.ref (n + 10), .int 0, .int 60])), .inl (60, fun _ => 0), .inr (.inr (4, [.ref (n + 12), .int 0, .int 60])), .inl (60, fun _ => 0), .inr (.inr (4, [.ref (n + 14), .int 0, .int 60])), .inl (60, fun _ => 0), .inr (.inr (6, [.int 1, .int 0, .int 0, .ref (n + 16), .ref (n + 17), .ref (n + 18), .int 0, .int ((-1)), .int 0, .int 0])), .inl (24, fun _ => 0), .inl (24, fun _ => 0), .inl (24, fun _ => 0), .inr (.inr (4, [.ref (n + 20), .int 0, .int 64])), .inl (64, fun _ => 0), .inr (.inr (4, [.ref (n + 22), .int 0, .int 64])), .inl (64, fun _ => 0)]) C fX2_65 dX2_init_106 rfl (gapp_new hn rfl) (Nat.le_of_ble_eq_true rfl) (Or.inl rfl) rfl rfl (by intro z h; cases h) rfl (gapp_set hn) ?_
  refine g_aload_n (q := 110) C dX2_init_109 rfl rfl ?_
  refine g_iconst (v := 0) (q := 111) C dX2_init_110 (by decide) rfl ?_
  refine g_putE (q := 114) (hp' := hp ++ [.inr (.inr (2, [.ref (n + 1), .ref (n + 8), .ref (n + 15), .int 0, .int 0, .int 0, .int 0, .int 0, .ref (n + 19), .ref (n + 21), .null, .int 3, .int 0, .int ((-1)), .int 0, .int 0, .int 0, .int 0])), .inr (.inr (5, [.int 0, .int 0, .int 0, .int 32, .int 0, .int ((-1)), .int 0, .int 0, .ref (n + 2), .ref (n + 4), .ref (n + 6), .int ((-1)), .int 0, .int ((-1)), .int 0])), .inr (.inr (4, [.ref (n + 3), .int 0, .int 60])), .inl (60, fun _ => 0), .inr (.inr (4, [.ref (n + 5), .int 0, .int 60])), .inl (60, fun _ => 0), .inr (.inr (4, [.ref (n + 7), .int 0, .int 60])), .inl (60, fun _ => 0), .inr (.inr (5, [.int 1, .int 0, .int 0, .int 32, .int 0, .int ((-1)), .int 0, .int 0, .ref (n + 9), .ref (n + 11), .ref (n + 13), .int ((-1)), .int 0, .int ((-1)), .int 0])), .inr (.inr (4, [.ref (n + 10), .int 0, .int 60])), .inl (60, fun _ => 0), .inr (.inr (4, [.ref (n + 12), .int 0, .int 60])), .inl (60, fun _ => 0), .inr (.inr (4, [.ref (n + 14), .int 0, .int 60])), .inl (60, fun _ => 0), .inr (.inr (6, [.int 1, .int 0, .int 0, .ref (n + 16), .ref (n + 17), .ref (n + 18), .int 0, .int ((-1)), .int 0, .int 0])), .inl (24, fun _ => 0), .inl (24, fun _ => 0), .inl (24, fun _ => 0), .inr (.inr (4, [.ref (n + 20), .int 0, .int 64])), .inl (64, fun _ => 0), .inr (.inr (4, [.ref (n + 22), .int 0, .int 64])), .inl (64, fun _ => 0)]) C fX2_68 dX2_init_111 rfl (gapp_new hn rfl) (Nat.le_of_ble_eq_true rfl) (Or.inl rfl) rfl rfl (by intro z h; cases h) rfl (gapp_set hn) ?_
  refine g_aload_n (q := 115) C dX2_init_114 rfl rfl ?_
  refine g_iconst (v := 0) (q := 116) C dX2_init_115 (by decide) rfl ?_
  refine g_putE (q := 119) (hp' := hp ++ [.inr (.inr (2, [.ref (n + 1), .ref (n + 8), .ref (n + 15), .int 0, .int 0, .int 0, .int 0, .int 0, .ref (n + 19), .ref (n + 21), .null, .int 3, .int 0, .int ((-1)), .int 0, .int 0, .int 0, .int 0])), .inr (.inr (5, [.int 0, .int 0, .int 0, .int 32, .int 0, .int ((-1)), .int 0, .int 0, .ref (n + 2), .ref (n + 4), .ref (n + 6), .int ((-1)), .int 0, .int ((-1)), .int 0])), .inr (.inr (4, [.ref (n + 3), .int 0, .int 60])), .inl (60, fun _ => 0), .inr (.inr (4, [.ref (n + 5), .int 0, .int 60])), .inl (60, fun _ => 0), .inr (.inr (4, [.ref (n + 7), .int 0, .int 60])), .inl (60, fun _ => 0), .inr (.inr (5, [.int 1, .int 0, .int 0, .int 32, .int 0, .int ((-1)), .int 0, .int 0, .ref (n + 9), .ref (n + 11), .ref (n + 13), .int ((-1)), .int 0, .int ((-1)), .int 0])), .inr (.inr (4, [.ref (n + 10), .int 0, .int 60])), .inl (60, fun _ => 0), .inr (.inr (4, [.ref (n + 12), .int 0, .int 60])), .inl (60, fun _ => 0), .inr (.inr (4, [.ref (n + 14), .int 0, .int 60])), .inl (60, fun _ => 0), .inr (.inr (6, [.int 1, .int 0, .int 0, .ref (n + 16), .ref (n + 17), .ref (n + 18), .int 0, .int ((-1)), .int 0, .int 0])), .inl (24, fun _ => 0), .inl (24, fun _ => 0), .inl (24, fun _ => 0), .inr (.inr (4, [.ref (n + 20), .int 0, .int 64])), .inl (64, fun _ => 0), .inr (.inr (4, [.ref (n + 22), .int 0, .int 64])), .inl (64, fun _ => 0)]) C fX2_71 dX2_init_116 rfl (gapp_new hn rfl) (Nat.le_of_ble_eq_true rfl) (Or.inl rfl) rfl rfl (by intro z h; cases h) rfl (gapp_set hn) ?_
  refine g_aload_n (q := 120) C dX2_init_119 rfl rfl ?_
  refine g_iconst (v := 0) (q := 121) C dX2_init_120 (by decide) rfl ?_
  refine g_putE (q := 124) (hp' := hp ++ [.inr (.inr (2, [.ref (n + 1), .ref (n + 8), .ref (n + 15), .int 0, .int 0, .int 0, .int 0, .int 0, .ref (n + 19), .ref (n + 21), .null, .int 3, .int 0, .int ((-1)), .int 0, .int 0, .int 0, .int 0])), .inr (.inr (5, [.int 0, .int 0, .int 0, .int 32, .int 0, .int ((-1)), .int 0, .int 0, .ref (n + 2), .ref (n + 4), .ref (n + 6), .int ((-1)), .int 0, .int ((-1)), .int 0])), .inr (.inr (4, [.ref (n + 3), .int 0, .int 60])), .inl (60, fun _ => 0), .inr (.inr (4, [.ref (n + 5), .int 0, .int 60])), .inl (60, fun _ => 0), .inr (.inr (4, [.ref (n + 7), .int 0, .int 60])), .inl (60, fun _ => 0), .inr (.inr (5, [.int 1, .int 0, .int 0, .int 32, .int 0, .int ((-1)), .int 0, .int 0, .ref (n + 9), .ref (n + 11), .ref (n + 13), .int ((-1)), .int 0, .int ((-1)), .int 0])), .inr (.inr (4, [.ref (n + 10), .int 0, .int 60])), .inl (60, fun _ => 0), .inr (.inr (4, [.ref (n + 12), .int 0, .int 60])), .inl (60, fun _ => 0), .inr (.inr (4, [.ref (n + 14), .int 0, .int 60])), .inl (60, fun _ => 0), .inr (.inr (6, [.int 1, .int 0, .int 0, .ref (n + 16), .ref (n + 17), .ref (n + 18), .int 0, .int ((-1)), .int 0, .int 0])), .inl (24, fun _ => 0), .inl (24, fun _ => 0), .inl (24, fun _ => 0), .inr (.inr (4, [.ref (n + 20), .int 0, .int 64])), .inl (64, fun _ => 0), .inr (.inr (4, [.ref (n + 22), .int 0, .int 64])), .inl (64, fun _ => 0)]) C fX2_74 dX2_init_121 rfl (gapp_new hn rfl) (Nat.le_of_ble_eq_true rfl) (Or.inl rfl) rfl rfl (by intro z h; cases h) rfl (gapp_set hn) ?_
  refine g_aload_n (q := 125) C dX2_init_124 rfl rfl ?_
  refine g_iconst (v := 0) (q := 126) C dX2_init_125 (by decide) rfl ?_
  refine g_putE (q := 129) (hp' := hp ++ [.inr (.inr (2, [.ref (n + 1), .ref (n + 8), .ref (n + 15), .int 0, .int 0, .int 0, .int 0, .int 0, .ref (n + 19), .ref (n + 21), .null, .int 3, .int 0, .int ((-1)), .int 0, .int 0, .int 0, .int 0])), .inr (.inr (5, [.int 0, .int 0, .int 0, .int 32, .int 0, .int ((-1)), .int 0, .int 0, .ref (n + 2), .ref (n + 4), .ref (n + 6), .int ((-1)), .int 0, .int ((-1)), .int 0])), .inr (.inr (4, [.ref (n + 3), .int 0, .int 60])), .inl (60, fun _ => 0), .inr (.inr (4, [.ref (n + 5), .int 0, .int 60])), .inl (60, fun _ => 0), .inr (.inr (4, [.ref (n + 7), .int 0, .int 60])), .inl (60, fun _ => 0), .inr (.inr (5, [.int 1, .int 0, .int 0, .int 32, .int 0, .int ((-1)), .int 0, .int 0, .ref (n + 9), .ref (n + 11), .ref (n + 13), .int ((-1)), .int 0, .int ((-1)), .int 0])), .inr (.inr (4, [.ref (n + 10), .int 0, .int 60])), .inl (60, fun _ => 0), .inr (.inr (4, [.ref (n + 12), .int 0, .int 60])), .inl (60, fun _ => 0), .inr (.inr (4, [.ref (n + 14), .int 0, .int 60])), .inl (60, fun _ => 0), .inr (.inr (6, [.int 1, .int 0, .int 0, .ref (n + 16), .ref (n + 17), .ref (n + 18), .int 0, .int ((-1)), .int 0, .int 0])), .inl (24, fun _ => 0), .inl (24, fun _ => 0), .inl (24, fun _ => 0), .inr (.inr (4, [.ref (n + 20), .int 0, .int 64])), .inl (64, fun _ => 0), .inr (.inr (4, [.ref (n + 22), .int 0, .int 64])), .inl (64, fun _ => 0)]) C fX2_77 dX2_init_126 rfl (gapp_new hn rfl) (Nat.le_of_ble_eq_true rfl) (Or.inl rfl) rfl rfl (by intro z h; cases h) rfl (gapp_set hn) ?_
  refine g_aload_n (q := 130) C dX2_init_129 rfl rfl ?_
  refine g_aload_n (q := 131) C dX2_init_130 rfl rfl ?_
  refine g_putE (q := 134) (hp' := hp ++ [.inr (.inr (2, [.ref (n + 1), .ref (n + 8), .ref (n + 15), .int 0, .int 0, .int 0, .int 0, .int 0, .ref (n + 19), .ref (n + 21), .ref jr, .int 3, .int 0, .int ((-1)), .int 0, .int 0, .int 0, .int 0])), .inr (.inr (5, [.int 0, .int 0, .int 0, .int 32, .int 0, .int ((-1)), .int 0, .int 0, .ref (n + 2), .ref (n + 4), .ref (n + 6), .int ((-1)), .int 0, .int ((-1)), .int 0])), .inr (.inr (4, [.ref (n + 3), .int 0, .int 60])), .inl (60, fun _ => 0), .inr (.inr (4, [.ref (n + 5), .int 0, .int 60])), .inl (60, fun _ => 0), .inr (.inr (4, [.ref (n + 7), .int 0, .int 60])), .inl (60, fun _ => 0), .inr (.inr (5, [.int 1, .int 0, .int 0, .int 32, .int 0, .int ((-1)), .int 0, .int 0, .ref (n + 9), .ref (n + 11), .ref (n + 13), .int ((-1)), .int 0, .int ((-1)), .int 0])), .inr (.inr (4, [.ref (n + 10), .int 0, .int 60])), .inl (60, fun _ => 0), .inr (.inr (4, [.ref (n + 12), .int 0, .int 60])), .inl (60, fun _ => 0), .inr (.inr (4, [.ref (n + 14), .int 0, .int 60])), .inl (60, fun _ => 0), .inr (.inr (6, [.int 1, .int 0, .int 0, .ref (n + 16), .ref (n + 17), .ref (n + 18), .int 0, .int ((-1)), .int 0, .int 0])), .inl (24, fun _ => 0), .inl (24, fun _ => 0), .inl (24, fun _ => 0), .inr (.inr (4, [.ref (n + 20), .int 0, .int 64])), .inl (64, fun _ => 0), .inr (.inr (4, [.ref (n + 22), .int 0, .int 64])), .inl (64, fun _ => 0)]) C fX2_80 dX2_init_131 rfl (gapp_new hn rfl) (Nat.le_of_ble_eq_true rfl) (Or.inr rfl) rfl rfl (by intro z h; cases h) rfl (gapp_set hn) ?_
  exact E.2.1 _ _ _ _ _ dX2_init_134 rfl (Nat.le_of_ble_eq_true rfl) (Nat.le_of_ble_eq_true rfl) ⟨rfl, rfl⟩
set_option maxRecDepth 100000 in
set_option maxHeartbeats 4000000 in
theorem c_X2_init_n {hp : List gA} {n : Nat}  (hn : hp.length = n) : gM yX2_init cX2_init 2 (none) 3 64 [.ref (n + 0), .null] (hp ++ [.inr (.inr (2, [.null, .null, .null, .int 0, .int 0, .int 0, .int 0, .int 0, .null, .null, .null, .int 0, .int 0, .int 0, .int 0, .int 0, .int 0, .int 0]))]) (22) (624) (fun v h => v = none ∧ h = hp ++ [.inr (.inr (2, [.ref (n + 1), .ref (n + 8), .ref (n + 15), .int 0, .int 0, .int 0, .int 0, .int 0, .ref (n + 19), .ref (n + 21), .null, .int 3, .int 0, .int ((-1)), .int 0, .int 0, .int 0, .int 0])), .inr (.inr (5, [.int 0, .int 0, .int 0, .int 32, .int 0, .int ((-1)), .int 0, .int 0, .ref (n + 2), .ref (n + 4), .ref (n + 6), .int ((-1)), .int 0, .int ((-1)), .int 0])), .inr (.inr (4, [.ref (n + 3), .int 0, .int 60])), .inl (60, fun _ => 0), .inr (.inr (4, [.ref (n + 5), .int 0, .int 60])), .inl (60, fun _ => 0), .inr (.inr (4, [.ref (n + 7), .int 0, .int 60])), .inl (60, fun _ => 0), .inr (.inr (5, [.int 1, .int 0, .int 0, .int 32, .int 0, .int ((-1)), .int 0, .int 0, .ref (n + 9), .ref (n + 11), .ref (n + 13), .int ((-1)), .int 0, .int ((-1)), .int 0])), .inr (.inr (4, [.ref (n + 10), .int 0, .int 60])), .inl (60, fun _ => 0), .inr (.inr (4, [.ref (n + 12), .int 0, .int 60])), .inl (60, fun _ => 0), .inr (.inr (4, [.ref (n + 14), .int 0, .int 60])), .inl (60, fun _ => 0), .inr (.inr (6, [.int 1, .int 0, .int 0, .ref (n + 16), .ref (n + 17), .ref (n + 18), .int 0, .int ((-1)), .int 0, .int 0])), .inl (24, fun _ => 0), .inl (24, fun _ => 0), .inl (24, fun _ => 0), .inr (.inr (4, [.ref (n + 20), .int 0, .int 64])), .inl (64, fun _ => 0), .inr (.inr (4, [.ref (n + 22), .int 0, .int 64])), .inl (64, fun _ => 0)]) := by
  refine gM_of (ls0 := [some (.ref (n + 0)), some (.null)]) (by decide +kernel) (Nat.le_of_ble_eq_true rfl) rfl fun X C E => ?_
  refine g_aload_n (q := 1) C dX2_init_0 rfl rfl ?_
  refine g_objInit (q := 4) C t_128 t_63 t_64 dX2_init_1 rfl rfl (Nat.le_of_ble_eq_true rfl) (Nat.le_of_ble_eq_true rfl) ?_
  refine g_aload_n (q := 5) C dX2_init_4 rfl rfl ?_
  refine g_new (q := 8) (k := n + 1) C nX2_9 dX2_init_5 rfl (by rw [List.length_append, hn]; rfl) (Nat.le_of_ble_eq_true rfl) (Nat.le_of_ble_eq_true rfl) ?_
  refine g_heap (hp2 := hp ++ [.inr (.inr (2, [.null, .null, .null, .int 0, .int 0, .int 0, .int 0, .int 0, .null, .null, .null, .int 0, .int 0, .int 0, .int 0, .int 0, .int 0, .int 0])), .inr (.inr (5, [.int 0, .int 0, .int 0, .int 0, .int 0, .int 0, .int 0, .int 0, .null, .null, .null, .int 0, .int 0, .int 0, .int 0]))]) (by simp only [List.append_assoc, List.cons_append, List.nil_append]) ?_
  refine g_dup (q := 9) C dX2_init_8 rfl rfl ?_
  refine g_iconst (v := 0) (q := 10) C dX2_init_9 (by decide) rfl ?_
  refine g_heap (hp2 := (hp ++ [.inr (.inr (2, [.null, .null, .null, .int 0, .int 0, .int 0, .int 0, .int 0, .null, .null, .null, .int 0, .int 0, .int 0, .int 0, .int 0, .int 0, .int 0]))]) ++ [.inr (.inr (5, [.int 0, .int 0, .int 0, .int 0, .int 0, .int 0, .int 0, .int 0, .null, .null, .null, .int 0, .int 0, .int 0, .int 0]))]) (by simp only [List.append_assoc, List.cons_append, List.nil_append]) ?_
  refine g_callIv (q := 13) (As := [.int 0]) C gyX5_init giX5_init rfl t_131 (c_X5_init (n := n + 1) (by rw [List.length_append, hn]; rfl)) dX2_init_10 rfl rfl rfl (Nat.le_of_ble_eq_true rfl) (Nat.le_of_ble_eq_true rfl) (Nat.le_of_ble_eq_true rfl) (Nat.le_of_ble_eq_true rfl) (Nat.le_of_ble_eq_true rfl) rfl ?_
  refine g_heap (hp2 := hp ++ [.inr (.inr (2, [.null, .null, .null, .int 0, .int 0, .int 0, .int 0, .int 0, .null, .null, .null, .int 0, .int 0, .int 0, .int 0, .int 0, .int 0, .int 0])), .inr (.inr (5, [.int 0, .int 0, .int 0, .int 32, .int 0, .int ((-1)), .int 0, .int 0, .ref (n + 2), .ref (n + 4), .ref (n + 6), .int ((-1)), .int 0, .int ((-1)), .int 0])), .inr (.inr (4, [.ref (n + 3), .int 0, .int 60])), .inl (60, fun _ => 0), .inr (.inr (4, [.ref (n + 5), .int 0, .int 60])), .inl (60, fun _ => 0), .inr (.inr (4, [.ref (n + 7), .int 0, .int 60])), .inl (60, fun _ => 0)]) (by simp only [List.append_assoc, List.cons_append, List.nil_append, Nat.add_assoc, Nat.reduceAdd, Nat.add_zero]) ?_
  refine g_putE (q := 16) (hp' := hp ++ [.inr (.inr (2, [.ref (n + 1), .null, .null, .int 0, .int 0, .int 0, .int 0, .int 0, .null, .null, .null, .int 0, .int 0, .int 0, .int 0, .int 0, .int 0, .int 0])), .inr (.inr (5, [.int 0, .int 0, .int 0, .int 32, .int 0, .int ((-1)), .int 0, .int 0, .ref (n + 2), .ref (n + 4), .ref (n + 6), .int ((-1)), .int 0, .int ((-1)), .int 0])), .inr (.inr (4, [.ref (n + 3), .int 0, .int 60])), .inl (60, fun _ => 0), .inr (.inr (4, [.ref (n + 5), .int 0, .int 60])), .inl (60, fun _ => 0), .inr (.inr (4, [.ref (n + 7), .int 0, .int 60])), .inl (60, fun _ => 0)]) C fX2_14 dX2_init_13 rfl (gapp_new hn rfl) (Nat.le_of_ble_eq_true rfl) (Or.inr rfl) rfl rfl (by intro z h; cases h) rfl (gapp_set hn) ?_
  refine g_aload_n (q := 17) C dX2_init_16 rfl rfl ?_
  refine g_new (q := 20) (k := n + 8) C nX2_9 dX2_init_17 rfl (by rw [List.length_append, hn]; rfl) (Nat.le_of_ble_eq_true rfl) (Nat.le_of_ble_eq_true rfl) ?_
  refine g_heap (hp2 := hp ++ [.inr (.inr (2, [.ref (n + 1), .null, .null, .int 0, .int 0, .int 0, .int 0, .int 0, .null, .null, .null, .int 0, .int 0, .int 0, .int 0, .int 0, .int 0, .int 0])), .inr (.inr (5, [.int 0, .int 0, .int 0, .int 32, .int 0, .int ((-1)), .int 0, .int 0, .ref (n + 2), .ref (n + 4), .ref (n + 6), .int ((-1)), .int 0, .int ((-1)), .int 0])), .inr (.inr (4, [.ref (n + 3), .int 0, .int 60])), .inl (60, fun _ => 0), .inr (.inr (4, [.ref (n + 5), .int 0, .int 60])), .inl (60, fun _ => 0), .inr (.inr (4, [.ref (n + 7), .int 0, .int 60])), .inl (60, fun _ => 0), .inr (.inr (5, [.int 0, .int 0, .int 0, .int 0, .int 0, .int 0, .int 0, .int 0, .null, .null, .null, .int 0, .int 0, .int 0, .int 0]))]) (by simp only [List.append_assoc, List.cons_append, List.nil_append]) ?_
  refine g_dup (q := 21) C dX2_init_20 rfl rfl ?_
  refine g_iconst (v := 1) (q := 22) C dX2_init_21 (by decide) rfl ?_
  refine g_heap (hp2 := (hp ++ [.inr (.inr (2, [.ref (n + 1), .null, .null, .int 0, .int 0, .int 0, .int 0, .int 0, .null, .null, .null, .int 0, .int 0, .int 0, .int 0, .int 0, .int 0, .int 0])), .inr (.inr (5, [.int 0, .int 0, .int 0, .int 32, .int 0, .int ((-1)), .int 0, .int 0, .ref (n + 2), .ref (n + 4), .ref (n + 6), .int ((-1)), .int 0, .int ((-1)), .int 0])), .inr (.inr (4, [.ref (n + 3), .int 0, .int 60])), .inl (60, fun _ => 0), .inr (.inr (4, [.ref (n + 5), .int 0, .int 60])), .inl (60, fun _ => 0), .inr (.inr (4, [.ref (n + 7), .int 0, .int 60])), .inl (60, fun _ => 0)]) ++ [.inr (.inr (5, [.int 0, .int 0, .int 0, .int 0, .int 0, .int 0, .int 0, .int 0, .null, .null, .null, .int 0, .int 0, .int 0, .int 0]))]) (by simp only [List.append_assoc, List.cons_append, List.nil_append]) ?_
  refine g_callIv (q := 25) (As := [.int 1]) C gyX5_init giX5_init rfl t_131 (c_X5_init (n := n + 8) (by rw [List.length_append, hn]; rfl)) dX2_init_22 rfl rfl rfl (Nat.le_of_ble_eq_true rfl) (Nat.le_of_ble_eq_true rfl) (Nat.le_of_ble_eq_true rfl) (Nat.le_of_ble_eq_true rfl) (Nat.le_of_ble_eq_true rfl) rfl ?_
  refine g_heap (hp2 := hp ++ [.inr (.inr (2, [.ref (n + 1), .null, .null, .int 0, .int 0, .int 0, .int 0, .int 0, .null, .null, .null, .int 0, .int 0, .int 0, .int 0, .int 0, .int 0, .int 0])), .inr (.inr (5, [.int 0, .int 0, .int 0, .int 32, .int 0, .int ((-1)), .int 0, .int 0, .ref (n + 2), .ref (n + 4), .ref (n + 6), .int ((-1)), .int 0, .int ((-1)), .int 0])), .inr (.inr (4, [.ref (n + 3), .int 0, .int 60])), .inl (60, fun _ => 0), .inr (.inr (4, [.ref (n + 5), .int 0, .int 60])), .inl (60, fun _ => 0), .inr (.inr (4, [.ref (n + 7), .int 0, .int 60])), .inl (60, fun _ => 0), .inr (.inr (5, [.int 1, .int 0, .int 0, .int 32, .int 0, .int ((-1)), .int 0, .int 0, .ref (n + 9), .ref (n + 11), .ref (n + 13), .int ((-1)), .int 0, .int ((-1)), .int 0])), .inr (.inr (4, [.ref (n + 10), .int 0, .int 60])), .inl (60, fun _ => 0), .inr (.inr (4, [.ref (n + 12), .int 0, .int 60])), .inl (60, fun _ => 0), .inr (.inr (4, [.ref (n + 14), .int 0, .int 60])), .inl (60, fun _ => 0)]) (by simp only [List.append_assoc, List.cons_append, List.nil_append, Nat.add_assoc, Nat.reduceAdd, Nat.add_zero]) ?_
  refine g_putE (q := 28) (hp' := hp ++ [.inr (.inr (2, [.ref (n + 1), .ref (n + 8), .null, .int 0, .int 0, .int 0, .int 0, .int 0, .null, .null, .null, .int 0, .int 0, .int 0, .int 0, .int 0, .int 0, .int 0])), .inr (.inr (5, [.int 0, .int 0, .int 0, .int 32, .int 0, .int ((-1)), .int 0, .int 0, .ref (n + 2), .ref (n + 4), .ref (n + 6), .int ((-1)), .int 0, .int ((-1)), .int 0])), .inr (.inr (4, [.ref (n + 3), .int 0, .int 60])), .inl (60, fun _ => 0), .inr (.inr (4, [.ref (n + 5), .int 0, .int 60])), .inl (60, fun _ => 0), .inr (.inr (4, [.ref (n + 7), .int 0, .int 60])), .inl (60, fun _ => 0), .inr (.inr (5, [.int 1, .int 0, .int 0, .int 32, .int 0, .int ((-1)), .int 0, .int 0, .ref (n + 9), .ref (n + 11), .ref (n + 13), .int ((-1)), .int 0, .int ((-1)), .int 0])), .inr (.inr (4, [.ref (n + 10), .int 0, .int 60])), .inl (60, fun _ => 0), .inr (.inr (4, [.ref (n + 12), .int 0, .int 60])), .inl (60, fun _ => 0), .inr (.inr (4, [.ref (n + 14), .int 0, .int 60])), .inl (60, fun _ => 0)]) C fX2_20 dX2_init_25 rfl (gapp_new hn rfl) (Nat.le_of_ble_eq_true rfl) (Or.inr rfl) rfl rfl (by intro z h; cases h) rfl (gapp_set hn) ?_
  refine g_aload_n (q := 29) C dX2_init_28 rfl rfl ?_
  refine g_new (q := 32) (k := n + 15) C nX2_23 dX2_init_29 rfl (by rw [List.length_append, hn]; rfl) (Nat.le_of_ble_eq_true rfl) (Nat.le_of_ble_eq_true rfl) ?_
  refine g_heap (hp2 := hp ++ [.inr (.inr (2, [.ref (n + 1), .ref (n + 8), .null, .int 0, .int 0, .int 0, .int 0, .int 0, .null, .null, .null, .int 0, .int 0, .int 0, .int 0, .int 0, .int 0, .int 0])), .inr (.inr (5, [.int 0, .int 0, .int 0, .int 32, .int 0, .int ((-1)), .int 0, .int 0, .ref (n + 2), .ref (n + 4), .ref (n + 6), .int ((-1)), .int 0, .int ((-1)), .int 0])), .inr (.inr (4, [.ref (n + 3), .int 0, .int 60])), .inl (60, fun _ => 0), .inr (.inr (4, [.ref (n + 5), .int 0, .int 60])), .inl (60, fun _ => 0), .inr (.inr (4, [.ref (n + 7), .int 0, .int 60])), .inl (60, fun _ => 0), .inr (.inr (5, [.int 1, .int 0, .int 0, .int 32, .int 0, .int ((-1)), .int 0, .int 0, .ref (n + 9), .ref (n + 11), .ref (n + 13), .int ((-1)), .int 0, .int ((-1)), .int 0])), .inr (.inr (4, [.ref (n + 10), .int 0, .int 60])), .inl (60, fun _ => 0), .inr (.inr (4, [.ref (n + 12), .int 0, .int 60])), .inl (60, fun _ => 0), .inr (.inr (4, [.ref (n + 14), .int 0, .int 60])), .inl (60, fun _ => 0), .inr (.inr (6, [.int 0, .int 0, .int 0, .null, .null, .null, .int 0, .int 0, .int 0, .int 0]))]) (by simp only [List.append_assoc, List.cons_append, List.nil_append]) ?_
  refine g_dup (q := 33) C dX2_init_32 rfl rfl ?_
  refine g_heap (hp2 := (hp ++ [.inr (.inr (2, [.ref (n + 1), .ref (n + 8), .null, .int 0, .int 0, .int 0, .int 0, .int 0, .null, .null, .null, .int 0, .int 0, .int 0, .int 0, .int 0, .int 0, .int 0])), .inr (.inr (5, [.int 0, .int 0, .int 0, .int 32, .int 0, .int ((-1)), .int 0, .int 0, .ref (n + 2), .ref (n + 4), .ref (n + 6), .int ((-1)), .int 0, .int ((-1)), .int 0])), .inr (.inr (4, [.ref (n + 3), .int 0, .int 60])), .inl (60, fun _ => 0), .inr (.inr (4, [.ref (n + 5), .int 0, .int 60])), .inl (60, fun _ => 0), .inr (.inr (4, [.ref (n + 7), .int 0, .int 60])), .inl (60, fun _ => 0), .inr (.inr (5, [.int 1, .int 0, .int 0, .int 32, .int 0, .int ((-1)), .int 0, .int 0, .ref (n + 9), .ref (n + 11), .ref (n + 13), .int ((-1)), .int 0, .int ((-1)), .int 0])), .inr (.inr (4, [.ref (n + 10), .int 0, .int 60])), .inl (60, fun _ => 0), .inr (.inr (4, [.ref (n + 12), .int 0, .int 60])), .inl (60, fun _ => 0), .inr (.inr (4, [.ref (n + 14), .int 0, .int 60])), .inl (60, fun _ => 0)]) ++ [.inr (.inr (6, [.int 0, .int 0, .int 0, .null, .null, .null, .int 0, .int 0, .int 0, .int 0]))]) (by simp only [List.append_assoc, List.cons_append, List.nil_append]) ?_
  refine g_callINv (q := 36) (As := []) C gyX6_init giX6_init rfl (host := RX7) (by decide +kernel) (c_X6_init (n := n + 15) (by rw [List.length_append, hn]; rfl)) dX2_init_33 rfl rfl rfl (Nat.le_of_ble_eq_true rfl) (Nat.le_of_ble_eq_true rfl) (Nat.le_of_ble_eq_true rfl) (Nat.le_of_ble_eq_true rfl) (Nat.le_of_ble_eq_true rfl) rfl ?_
  refine g_heap (hp2 := hp ++ [.inr (.inr (2, [.ref (n + 1), .ref (n + 8), .null, .int 0, .int 0, .int 0, .int 0, .int 0, .null, .null, .null, .int 0, .int 0, .int 0, .int 0, .int 0, .int 0, .int 0])), .inr (.inr (5, [.int 0, .int 0, .int 0, .int 32, .int 0, .int ((-1)), .int 0, .int 0, .ref (n + 2), .ref (n + 4), .ref (n + 6), .int ((-1)), .int 0, .int ((-1)), .int 0])), .inr (.inr (4, [.ref (n + 3), .int 0, .int 60])), .inl (60, fun _ => 0), .inr (.inr (4, [.ref (n + 5), .int 0, .int 60])), .inl (60, fun _ => 0), .inr (.inr (4, [.ref (n + 7), .int 0, .int 60])), .inl (60, fun _ => 0), .inr (.inr (5, [.int 1, .int 0, .int 0, .int 32, .int 0, .int ((-1)), .int 0, .int 0, .ref (n + 9), .ref (n + 11), .ref (n + 13), .int ((-1)), .int 0, .int ((-1)), .int 0])), .inr (.inr (4, [.ref (n + 10), .int 0, .int 60])), .inl (60, fun _ => 0), .inr (.inr (4, [.ref (n + 12), .int 0, .int 60])), .inl (60, fun _ => 0), .inr (.inr (4, [.ref (n + 14), .int 0, .int 60])), .inl (60, fun _ => 0), .inr (.inr (6, [.int 1, .int 0, .int 0, .ref (n + 16), .ref (n + 17), .ref (n + 18), .int 0, .int ((-1)), .int 0, .int 0])), .inl (24, fun _ => 0), .inl (24, fun _ => 0), .inl (24, fun _ => 0)]) (by simp only [List.append_assoc, List.cons_append, List.nil_append, Nat.add_assoc, Nat.reduceAdd, Nat.add_zero]) ?_
  refine g_putE (q := 39) (hp' := hp ++ [.inr (.inr (2, [.ref (n + 1), .ref (n + 8), .ref (n + 15), .int 0, .int 0, .int 0, .int 0, .int 0, .null, .null, .null, .int 0, .int 0, .int 0, .int 0, .int 0, .int 0, .int 0])), .inr (.inr (5, [.int 0, .int 0, .int 0, .int 32, .int 0, .int ((-1)), .int 0, .int 0, .ref (n + 2), .ref (n + 4), .ref (n + 6), .int ((-1)), .int 0, .int ((-1)), .int 0])), .inr (.inr (4, [.ref (n + 3), .int 0, .int 60])), .inl (60, fun _ => 0), .inr (.inr (4, [.ref (n + 5), .int 0, .int 60])), .inl (60, fun _ => 0), .inr (.inr (4, [.ref (n + 7), .int 0, .int 60])), .inl (60, fun _ => 0), .inr (.inr (5, [.int 1, .int 0, .int 0, .int 32, .int 0, .int ((-1)), .int 0, .int 0, .ref (n + 9), .ref (n + 11), .ref (n + 13), .int ((-1)), .int 0, .int ((-1)), .int 0])), .inr (.inr (4, [.ref (n + 10), .int 0, .int 60])), .inl (60, fun _ => 0), .inr (.inr (4, [.ref (n + 12), .int 0, .int 60])), .inl (60, fun _ => 0), .inr (.inr (4, [.ref (n + 14), .int 0, .int 60])), .inl (60, fun _ => 0), .inr (.inr (6, [.int 1, .int 0, .int 0, .ref (n + 16), .ref (n + 17), .ref (n + 18), .int 0, .int ((-1)), .int 0, .int 0])), .inl (24, fun _ => 0), .inl (24, fun _ => 0), .inl (24, fun _ => 0)]) C fX2_26 dX2_init_36 rfl (gapp_new hn rfl) (Nat.le_of_ble_eq_true rfl) (Or.inr rfl) rfl rfl (by intro z h; cases h) rfl (gapp_set hn) ?_
  refine g_aload_n (q := 40) C dX2_init_39 rfl rfl ?_
  refine g_iconst (v := 0) (q := 41) C dX2_init_40 (by decide) rfl ?_
  refine g_putE (q := 44) (hp' := hp ++ [.inr (.inr (2, [.ref (n + 1), .ref (n + 8), .ref (n + 15), .int 0, .int 0, .int 0, .int 0, .int 0, .null, .null, .null, .int 0, .int 0, .int 0, .int 0, .int 0, .int 0, .int 0])), .inr (.inr (5, [.int 0, .int 0, .int 0, .int 32, .int 0, .int ((-1)), .int 0, .int 0, .ref (n + 2), .ref (n + 4), .ref (n + 6), .int ((-1)), .int 0, .int ((-1)), .int 0])), .inr (.inr (4, [.ref (n + 3), .int 0, .int 60])), .inl (60, fun _ => 0), .inr (.inr (4, [.ref (n + 5), .int 0, .int 60])), .inl (60, fun _ => 0), .inr (.inr (4, [.ref (n + 7), .int 0, .int 60])), .inl (60, fun _ => 0), .inr (.inr (5, [.int 1, .int 0, .int 0, .int 32, .int 0, .int ((-1)), .int 0, .int 0, .ref (n + 9), .ref (n + 11), .ref (n + 13), .int ((-1)), .int 0, .int ((-1)), .int 0])), .inr (.inr (4, [.ref (n + 10), .int 0, .int 60])), .inl (60, fun _ => 0), .inr (.inr (4, [.ref (n + 12), .int 0, .int 60])), .inl (60, fun _ => 0), .inr (.inr (4, [.ref (n + 14), .int 0, .int 60])), .inl (60, fun _ => 0), .inr (.inr (6, [.int 1, .int 0, .int 0, .ref (n + 16), .ref (n + 17), .ref (n + 18), .int 0, .int ((-1)), .int 0, .int 0])), .inl (24, fun _ => 0), .inl (24, fun _ => 0), .inl (24, fun _ => 0)]) C fX2_30 dX2_init_41 rfl (gapp_new hn rfl) (Nat.le_of_ble_eq_true rfl) (Or.inl rfl) rfl rfl (by intro z h; cases h) rfl (gapp_set hn) ?_
  refine g_aload_n (q := 45) C dX2_init_44 rfl rfl ?_
  refine g_iconst (v := 0) (q := 46) C dX2_init_45 (by decide) rfl ?_
  refine g_putE (q := 49) (hp' := hp ++ [.inr (.inr (2, [.ref (n + 1), .ref (n + 8), .ref (n + 15), .int 0, .int 0, .int 0, .int 0, .int 0, .null, .null, .null, .int 0, .int 0, .int 0, .int 0, .int 0, .int 0, .int 0])), .inr (.inr (5, [.int 0, .int 0, .int 0, .int 32, .int 0, .int ((-1)), .int 0, .int 0, .ref (n + 2), .ref (n + 4), .ref (n + 6), .int ((-1)), .int 0, .int ((-1)), .int 0])), .inr (.inr (4, [.ref (n + 3), .int 0, .int 60])), .inl (60, fun _ => 0), .inr (.inr (4, [.ref (n + 5), .int 0, .int 60])), .inl (60, fun _ => 0), .inr (.inr (4, [.ref (n + 7), .int 0, .int 60])), .inl (60, fun _ => 0), .inr (.inr (5, [.int 1, .int 0, .int 0, .int 32, .int 0, .int ((-1)), .int 0, .int 0, .ref (n + 9), .ref (n + 11), .ref (n + 13), .int ((-1)), .int 0, .int ((-1)), .int 0])), .inr (.inr (4, [.ref (n + 10), .int 0, .int 60])), .inl (60, fun _ => 0), .inr (.inr (4, [.ref (n + 12), .int 0, .int 60])), .inl (60, fun _ => 0), .inr (.inr (4, [.ref (n + 14), .int 0, .int 60])), .inl (60, fun _ => 0), .inr (.inr (6, [.int 1, .int 0, .int 0, .ref (n + 16), .ref (n + 17), .ref (n + 18), .int 0, .int ((-1)), .int 0, .int 0])), .inl (24, fun _ => 0), .inl (24, fun _ => 0), .inl (24, fun _ => 0)]) C fX2_34 dX2_init_46 rfl (gapp_new hn rfl) (Nat.le_of_ble_eq_true rfl) (Or.inl rfl) rfl rfl (by intro z h; cases h) rfl (gapp_set hn) ?_
  refine g_aload_n (q := 50) C dX2_init_49 rfl rfl ?_
  refine g_iconst (v := 0) (q := 51) C dX2_init_50 (by decide) rfl ?_
  refine g_putE (q := 54) (hp' := hp ++ [.inr (.inr (2, [.ref (n + 1), .ref (n + 8), .ref (n + 15), .int 0, .int 0, .int 0, .int 0, .int 0, .null, .null, .null, .int 0, .int 0, .int 0, .int 0, .int 0, .int 0, .int 0])), .inr (.inr (5, [.int 0, .int 0, .int 0, .int 32, .int 0, .int ((-1)), .int 0, .int 0, .ref (n + 2), .ref (n + 4), .ref (n + 6), .int ((-1)), .int 0, .int ((-1)), .int 0])), .inr (.inr (4, [.ref (n + 3), .int 0, .int 60])), .inl (60, fun _ => 0), .inr (.inr (4, [.ref (n + 5), .int 0, .int 60])), .inl (60, fun _ => 0), .inr (.inr (4, [.ref (n + 7), .int 0, .int 60])), .inl (60, fun _ => 0), .inr (.inr (5, [.int 1, .int 0, .int 0, .int 32, .int 0, .int ((-1)), .int 0, .int 0, .ref (n + 9), .ref (n + 11), .ref (n + 13), .int ((-1)), .int 0, .int ((-1)), .int 0])), .inr (.inr (4, [.ref (n + 10), .int 0, .int 60])), .inl (60, fun _ => 0), .inr (.inr (4, [.ref (n + 12), .int 0, .int 60])), .inl (60, fun _ => 0), .inr (.inr (4, [.ref (n + 14), .int 0, .int 60])), .inl (60, fun _ => 0), .inr (.inr (6, [.int 1, .int 0, .int 0, .ref (n + 16), .ref (n + 17), .ref (n + 18), .int 0, .int ((-1)), .int 0, .int 0])), .inl (24, fun _ => 0), .inl (24, fun _ => 0), .inl (24, fun _ => 0)]) C fX2_37 dX2_init_51 rfl (gapp_new hn rfl) (Nat.le_of_ble_eq_true rfl) (Or.inl rfl) rfl rfl (by intro z h; cases h) rfl (gapp_set hn) ?_
  refine g_aload_n (q := 55) C dX2_init_54 rfl rfl ?_
  refine g_iconst (v := 0) (q := 56) C dX2_init_55 (by decide) rfl ?_
  refine g_putE (q := 59) (hp' := hp ++ [.inr (.inr (2, [.ref (n + 1), .ref (n + 8), .ref (n + 15), .int 0, .int 0, .int 0, .int 0, .int 0, .null, .null, .null, .int 0, .int 0, .int 0, .int 0, .int 0, .int 0, .int 0])), .inr (.inr (5, [.int 0, .int 0, .int 0, .int 32, .int 0, .int ((-1)), .int 0, .int 0, .ref (n + 2), .ref (n + 4), .ref (n + 6), .int ((-1)), .int 0, .int ((-1)), .int 0])), .inr (.inr (4, [.ref (n + 3), .int 0, .int 60])), .inl (60, fun _ => 0), .inr (.inr (4, [.ref (n + 5), .int 0, .int 60])), .inl (60, fun _ => 0), .inr (.inr (4, [.ref (n + 7), .int 0, .int 60])), .inl (60, fun _ => 0), .inr (.inr (5, [.int 1, .int 0, .int 0, .int 32, .int 0, .int ((-1)), .int 0, .int 0, .ref (n + 9), .ref (n + 11), .ref (n + 13), .int ((-1)), .int 0, .int ((-1)), .int 0])), .inr (.inr (4, [.ref (n + 10), .int 0, .int 60])), .inl (60, fun _ => 0), .inr (.inr (4, [.ref (n + 12), .int 0, .int 60])), .inl (60, fun _ => 0), .inr (.inr (4, [.ref (n + 14), .int 0, .int 60])), .inl (60, fun _ => 0), .inr (.inr (6, [.int 1, .int 0, .int 0, .ref (n + 16), .ref (n + 17), .ref (n + 18), .int 0, .int ((-1)), .int 0, .int 0])), .inl (24, fun _ => 0), .inl (24, fun _ => 0), .inl (24, fun _ => 0)]) C fX2_40 dX2_init_56 rfl (gapp_new hn rfl) (Nat.le_of_ble_eq_true rfl) (Or.inl rfl) rfl rfl (by intro z h; cases h) rfl (gapp_set hn) ?_
  refine g_aload_n (q := 60) C dX2_init_59 rfl rfl ?_
  refine g_iconst (v := 0) (q := 61) C dX2_init_60 (by decide) rfl ?_
  refine g_putE (q := 64) (hp' := hp ++ [.inr (.inr (2, [.ref (n + 1), .ref (n + 8), .ref (n + 15), .int 0, .int 0, .int 0, .int 0, .int 0, .null, .null, .null, .int 0, .int 0, .int 0, .int 0, .int 0, .int 0, .int 0])), .inr (.inr (5, [.int 0, .int 0, .int 0, .int 32, .int 0, .int ((-1)), .int 0, .int 0, .ref (n + 2), .ref (n + 4), .ref (n + 6), .int ((-1)), .int 0, .int ((-1)), .int 0])), .inr (.inr (4, [.ref (n + 3), .int 0, .int 60])), .inl (60, fun _ => 0), .inr (.inr (4, [.ref (n + 5), .int 0, .int 60])), .inl (60, fun _ => 0), .inr (.inr (4, [.ref (n + 7), .int 0, .int 60])), .inl (60, fun _ => 0), .inr (.inr (5, [.int 1, .int 0, .int 0, .int 32, .int 0, .int ((-1)), .int 0, .int 0, .ref (n + 9), .ref (n + 11), .ref (n + 13), .int ((-1)), .int 0, .int ((-1)), .int 0])), .inr (.inr (4, [.ref (n + 10), .int 0, .int 60])), .inl (60, fun _ => 0), .inr (.inr (4, [.ref (n + 12), .int 0, .int 60])), .inl (60, fun _ => 0), .inr (.inr (4, [.ref (n + 14), .int 0, .int 60])), .inl (60, fun _ => 0), .inr (.inr (6, [.int 1, .int 0, .int 0, .ref (n + 16), .ref (n + 17), .ref (n + 18), .int 0, .int ((-1)), .int 0, .int 0])), .inl (24, fun _ => 0), .inl (24, fun _ => 0), .inl (24, fun _ => 0)]) C fX2_43 dX2_init_61 rfl (gapp_new hn rfl) (Nat.le_of_ble_eq_true rfl) (Or.inl rfl) rfl rfl (by intro z h; cases h) rfl (gapp_set hn) ?_
  refine g_aload_n (q := 65) C dX2_init_64 rfl rfl ?_
  refine g_new (q := 68) (k := n + 19) C nX2_46 dX2_init_65 rfl (by rw [List.length_append, hn]; rfl) (Nat.le_of_ble_eq_true rfl) (Nat.le_of_ble_eq_true rfl) ?_
  refine g_heap (hp2 := hp ++ [.inr (.inr (2, [.ref (n + 1), .ref (n + 8), .ref (n + 15), .int 0, .int 0, .int 0, .int 0, .int 0, .null, .null, .null, .int 0, .int 0, .int 0, .int 0, .int 0, .int 0, .int 0])), .inr (.inr (5, [.int 0, .int 0, .int 0, .int 32, .int 0, .int ((-1)), .int 0, .int 0, .ref (n + 2), .ref (n + 4), .ref (n + 6), .int ((-1)), .int 0, .int ((-1)), .int 0])), .inr (.inr (4, [.ref (n + 3), .int 0, .int 60])), .inl (60, fun _ => 0), .inr (.inr (4, [.ref (n + 5), .int 0, .int 60])), .inl (60, fun _ => 0), .inr (.inr (4, [.ref (n + 7), .int 0, .int 60])), .inl (60, fun _ => 0), .inr (.inr (5, [.int 1, .int 0, .int 0, .int 32, .int 0, .int ((-1)), .int 0, .int 0, .ref (n + 9), .ref (n + 11), .ref (n + 13), .int ((-1)), .int 0, .int ((-1)), .int 0])), .inr (.inr (4, [.ref (n + 10), .int 0, .int 60])), .inl (60, fun _ => 0), .inr (.inr (4, [.ref (n + 12), .int 0, .int 60])), .inl (60, fun _ => 0), .inr (.inr (4, [.ref (n + 14), .int 0, .int 60])), .inl (60, fun _ => 0), .inr (.inr (6, [.int 1, .int 0, .int 0, .ref (n + 16), .ref (n + 17), .ref (n + 18), .int 0, .int ((-1)), .int 0, .int 0])), .inl (24, fun _ => 0), .inl (24, fun _ => 0), .inl (24, fun _ => 0), .inr (.inr (4, [.null, .int 0, .int 0]))]) (by simp only [List.append_assoc, List.cons_append, List.nil_append]) ?_
  refine g_dup (q := 69) C dX2_init_68 rfl rfl ?_
  refine g_bipush (v := 64) (q := 71) C dX2_init_69 (by decide) rfl ?_
  refine g_bipush (v := 64) (q := 73) C dX2_init_71 (by decide) rfl ?_
  refine g_heap (hp2 := (hp ++ [.inr (.inr (2, [.ref (n + 1), .ref (n + 8), .ref (n + 15), .int 0, .int 0, .int 0, .int 0, .int 0, .null, .null, .null, .int 0, .int 0, .int 0, .int 0, .int 0, .int 0, .int 0])), .inr (.inr (5, [.int 0, .int 0, .int 0, .int 32, .int 0, .int ((-1)), .int 0, .int 0, .ref (n + 2), .ref (n + 4), .ref (n + 6), .int ((-1)), .int 0, .int ((-1)), .int 0])), .inr (.inr (4, [.ref (n + 3), .int 0, .int 60])), .inl (60, fun _ => 0), .inr (.inr (4, [.ref (n + 5), .int 0, .int 60])), .inl (60, fun _ => 0), .inr (.inr (4, [.ref (n + 7), .int 0, .int 60])), .inl (60, fun _ => 0), .inr (.inr (5, [.int 1, .int 0, .int 0, .int 32, .int 0, .int ((-1)), .int 0, .int 0, .ref (n + 9), .ref (n + 11), .ref (n + 13), .int ((-1)), .int 0, .int ((-1)), .int 0])), .inr (.inr (4, [.ref (n + 10), .int 0, .int 60])), .inl (60, fun _ => 0), .inr (.inr (4, [.ref (n + 12), .int 0, .int 60])), .inl (60, fun _ => 0), .inr (.inr (4, [.ref (n + 14), .int 0, .int 60])), .inl (60, fun _ => 0), .inr (.inr (6, [.int 1, .int 0, .int 0, .ref (n + 16), .ref (n + 17), .ref (n + 18), .int 0, .int ((-1)), .int 0, .int 0])), .inl (24, fun _ => 0), .inl (24, fun _ => 0), .inl (24, fun _ => 0)]) ++ [.inr (.inr (4, [.null, .int 0, .int 0]))]) (by simp only [List.append_assoc, List.cons_append, List.nil_append]) ?_
  refine g_callIv (q := 76) (As := [.int 64, .int 64]) C gyX4_init giX4_init rfl t_236 (c_X4_init (n := n + 19) (N := 64) (first := 64) (by rw [List.length_append, hn]; rfl) (by decide) (by decide)) dX2_init_73 rfl rfl rfl (Nat.le_of_ble_eq_true rfl) (Nat.le_of_ble_eq_true rfl) (Nat.le_of_ble_eq_true rfl) (Nat.le_of_ble_eq_true rfl) (Nat.le_of_ble_eq_true rfl) rfl ?_
  refine g_heap (hp2 := hp ++ [.inr (.inr (2, [.ref (n + 1), .ref (n + 8), .ref (n + 15), .int 0, .int 0, .int 0, .int 0, .int 0, .null, .null, .null, .int 0, .int 0, .int 0, .int 0, .int 0, .int 0, .int 0])), .inr (.inr (5, [.int 0, .int 0, .int 0, .int 32, .int 0, .int ((-1)), .int 0, .int 0, .ref (n + 2), .ref (n + 4), .ref (n + 6), .int ((-1)), .int 0, .int ((-1)), .int 0])), .inr (.inr (4, [.ref (n + 3), .int 0, .int 60])), .inl (60, fun _ => 0), .inr (.inr (4, [.ref (n + 5), .int 0, .int 60])), .inl (60, fun _ => 0), .inr (.inr (4, [.ref (n + 7), .int 0, .int 60])), .inl (60, fun _ => 0), .inr (.inr (5, [.int 1, .int 0, .int 0, .int 32, .int 0, .int ((-1)), .int 0, .int 0, .ref (n + 9), .ref (n + 11), .ref (n + 13), .int ((-1)), .int 0, .int ((-1)), .int 0])), .inr (.inr (4, [.ref (n + 10), .int 0, .int 60])), .inl (60, fun _ => 0), .inr (.inr (4, [.ref (n + 12), .int 0, .int 60])), .inl (60, fun _ => 0), .inr (.inr (4, [.ref (n + 14), .int 0, .int 60])), .inl (60, fun _ => 0), .inr (.inr (6, [.int 1, .int 0, .int 0, .ref (n + 16), .ref (n + 17), .ref (n + 18), .int 0, .int ((-1)), .int 0, .int 0])), .inl (24, fun _ => 0), .inl (24, fun _ => 0), .inl (24, fun _ => 0), .inr (.inr (4, [.ref (n + 20), .int 0, .int 64])), .inl (64, fun _ => 0)]) (by simp only [List.append_assoc, List.cons_append, List.nil_append, Nat.add_assoc, Nat.reduceAdd, Nat.add_zero]) ?_
  refine g_putE (q := 79) (hp' := hp ++ [.inr (.inr (2, [.ref (n + 1), .ref (n + 8), .ref (n + 15), .int 0, .int 0, .int 0, .int 0, .int 0, .ref (n + 19), .null, .null, .int 0, .int 0, .int 0, .int 0, .int 0, .int 0, .int 0])), .inr (.inr (5, [.int 0, .int 0, .int 0, .int 32, .int 0, .int ((-1)), .int 0, .int 0, .ref (n + 2), .ref (n + 4), .ref (n + 6), .int ((-1)), .int 0, .int ((-1)), .int 0])), .inr (.inr (4, [.ref (n + 3), .int 0, .int 60])), .inl (60, fun _ => 0), .inr (.inr (4, [.ref (n + 5), .int 0, .int 60])), .inl (60, fun _ => 0), .inr (.inr (4, [.ref (n + 7), .int 0, .int 60])), .inl (60, fun _ => 0), .inr (.inr (5, [.int 1, .int 0, .int 0, .int 32, .int 0, .int ((-1)), .int 0, .int 0, .ref (n + 9), .ref (n + 11), .ref (n + 13), .int ((-1)), .int 0, .int ((-1)), .int 0])), .inr (.inr (4, [.ref (n + 10), .int 0, .int 60])), .inl (60, fun _ => 0), .inr (.inr (4, [.ref (n + 12), .int 0, .int 60])), .inl (60, fun _ => 0), .inr (.inr (4, [.ref (n + 14), .int 0, .int 60])), .inl (60, fun _ => 0), .inr (.inr (6, [.int 1, .int 0, .int 0, .ref (n + 16), .ref (n + 17), .ref (n + 18), .int 0, .int ((-1)), .int 0, .int 0])), .inl (24, fun _ => 0), .inl (24, fun _ => 0), .inl (24, fun _ => 0), .inr (.inr (4, [.ref (n + 20), .int 0, .int 64])), .inl (64, fun _ => 0)]) C fX2_51 dX2_init_76 rfl (gapp_new hn rfl) (Nat.le_of_ble_eq_true rfl) (Or.inr rfl) rfl rfl (by intro z h; cases h) rfl (gapp_set hn) ?_
  refine g_aload_n (q := 80) C dX2_init_79 rfl rfl ?_
  refine g_new (q := 83) (k := n + 21) C nX2_46 dX2_init_80 rfl (by rw [List.length_append, hn]; rfl) (Nat.le_of_ble_eq_true rfl) (Nat.le_of_ble_eq_true rfl) ?_
  refine g_heap (hp2 := hp ++ [.inr (.inr (2, [.ref (n + 1), .ref (n + 8), .ref (n + 15), .int 0, .int 0, .int 0, .int 0, .int 0, .ref (n + 19), .null, .null, .int 0, .int 0, .int 0, .int 0, .int 0, .int 0, .int 0])), .inr (.inr (5, [.int 0, .int 0, .int 0, .int 32, .int 0, .int ((-1)), .int 0, .int 0, .ref (n + 2), .ref (n + 4), .ref (n + 6), .int ((-1)), .int 0, .int ((-1)), .int 0])), .inr (.inr (4, [.ref (n + 3), .int 0, .int 60])), .inl (60, fun _ => 0), .inr (.inr (4, [.ref (n + 5), .int 0, .int 60])), .inl (60, fun _ => 0), .inr (.inr (4, [.ref (n + 7), .int 0, .int 60])), .inl (60, fun _ => 0), .inr (.inr (5, [.int 1, .int 0, .int 0, .int 32, .int 0, .int ((-1)), .int 0, .int 0, .ref (n + 9), .ref (n + 11), .ref (n + 13), .int ((-1)), .int 0, .int ((-1)), .int 0])), .inr (.inr (4, [.ref (n + 10), .int 0, .int 60])), .inl (60, fun _ => 0), .inr (.inr (4, [.ref (n + 12), .int 0, .int 60])), .inl (60, fun _ => 0), .inr (.inr (4, [.ref (n + 14), .int 0, .int 60])), .inl (60, fun _ => 0), .inr (.inr (6, [.int 1, .int 0, .int 0, .ref (n + 16), .ref (n + 17), .ref (n + 18), .int 0, .int ((-1)), .int 0, .int 0])), .inl (24, fun _ => 0), .inl (24, fun _ => 0), .inl (24, fun _ => 0), .inr (.inr (4, [.ref (n + 20), .int 0, .int 64])), .inl (64, fun _ => 0), .inr (.inr (4, [.null, .int 0, .int 0]))]) (by simp only [List.append_assoc, List.cons_append, List.nil_append]) ?_
  refine g_dup (q := 84) C dX2_init_83 rfl rfl ?_
  refine g_bipush (v := 64) (q := 86) C dX2_init_84 (by decide) rfl ?_
  refine g_bipush (v := 64) (q := 88) C dX2_init_86 (by decide) rfl ?_
  refine g_heap (hp2 := (hp ++ [.inr (.inr (2, [.ref (n + 1), .ref (n + 8), .ref (n + 15), .int 0, .int 0, .int 0, .int 0, .int 0, .ref (n + 19), .null, .null, .int 0, .int 0, .int 0, .int 0, .int 0, .int 0, .int 0])), .inr (.inr (5, [.int 0, .int 0, .int 0, .int 32, .int 0, .int ((-1)), .int 0, .int 0, .ref (n + 2), .ref (n + 4), .ref (n + 6), .int ((-1)), .int 0, .int ((-1)), .int 0])), .inr (.inr (4, [.ref (n + 3), .int 0, .int 60])), .inl (60, fun _ => 0), .inr (.inr (4, [.ref (n + 5), .int 0, .int 60])), .inl (60, fun _ => 0), .inr (.inr (4, [.ref (n + 7), .int 0, .int 60])), .inl (60, fun _ => 0), .inr (.inr (5, [.int 1, .int 0, .int 0, .int 32, .int 0, .int ((-1)), .int 0, .int 0, .ref (n + 9), .ref (n + 11), .ref (n + 13), .int ((-1)), .int 0, .int ((-1)), .int 0])), .inr (.inr (4, [.ref (n + 10), .int 0, .int 60])), .inl (60, fun _ => 0), .inr (.inr (4, [.ref (n + 12), .int 0, .int 60])), .inl (60, fun _ => 0), .inr (.inr (4, [.ref (n + 14), .int 0, .int 60])), .inl (60, fun _ => 0), .inr (.inr (6, [.int 1, .int 0, .int 0, .ref (n + 16), .ref (n + 17), .ref (n + 18), .int 0, .int ((-1)), .int 0, .int 0])), .inl (24, fun _ => 0), .inl (24, fun _ => 0), .inl (24, fun _ => 0), .inr (.inr (4, [.ref (n + 20), .int 0, .int 64])), .inl (64, fun _ => 0)]) ++ [.inr (.inr (4, [.null, .int 0, .int 0]))]) (by simp only [List.append_assoc, List.cons_append, List.nil_append]) ?_
  refine g_callIv (q := 91) (As := [.int 64, .int 64]) C gyX4_init giX4_init rfl t_236 (c_X4_init (n := n + 21) (N := 64) (first := 64) (by rw [List.length_append, hn]; rfl) (by decide) (by decide)) dX2_init_88 rfl rfl rfl (Nat.le_of_ble_eq_true rfl) (Nat.le_of_ble_eq_true rfl) (Nat.le_of_ble_eq_true rfl) (Nat.le_of_ble_eq_true rfl) (Nat.le_of_ble_eq_true rfl) rfl ?_
  refine g_heap (hp2 := hp ++ [.inr (.inr (2, [.ref (n + 1), .ref (n + 8), .ref (n + 15), .int 0, .int 0, .int 0, .int 0, .int 0, .ref (n + 19), .null, .null, .int 0, .int 0, .int 0, .int 0, .int 0, .int 0, .int 0])), .inr (.inr (5, [.int 0, .int 0, .int 0, .int 32, .int 0, .int ((-1)), .int 0, .int 0, .ref (n + 2), .ref (n + 4), .ref (n + 6), .int ((-1)), .int 0, .int ((-1)), .int 0])), .inr (.inr (4, [.ref (n + 3), .int 0, .int 60])), .inl (60, fun _ => 0), .inr (.inr (4, [.ref (n + 5), .int 0, .int 60])), .inl (60, fun _ => 0), .inr (.inr (4, [.ref (n + 7), .int 0, .int 60])), .inl (60, fun _ => 0), .inr (.inr (5, [.int 1, .int 0, .int 0, .int 32, .int 0, .int ((-1)), .int 0, .int 0, .ref (n + 9), .ref (n + 11), .ref (n + 13), .int ((-1)), .int 0, .int ((-1)), .int 0])), .inr (.inr (4, [.ref (n + 10), .int 0, .int 60])), .inl (60, fun _ => 0), .inr (.inr (4, [.ref (n + 12), .int 0, .int 60])), .inl (60, fun _ => 0), .inr (.inr (4, [.ref (n + 14), .int 0, .int 60])), .inl (60, fun _ => 0), .inr (.inr (6, [.int 1, .int 0, .int 0, .ref (n + 16), .ref (n + 17), .ref (n + 18), .int 0, .int ((-1)), .int 0, .int 0])), .inl (24, fun _ => 0), .inl (24, fun _ => 0), .inl (24, fun _ => 0), .inr (.inr (4, [.ref (n + 20), .int 0, .int 64])), .inl (64, fun _ => 0), .inr (.inr (4, [.ref (n + 22), .int 0, .int 64])), .inl (64, fun _ => 0)]) (by simp only [List.append_assoc, List.cons_append, List.nil_append, Nat.add_assoc, Nat.reduceAdd, Nat.add_zero]) ?_
  refine g_putE (q := 94) (hp' := hp ++ [.inr (.inr (2, [.ref (n + 1), .ref (n + 8), .ref (n + 15), .int 0, .int 0, .int 0, .int 0, .int 0, .ref (n + 19), .ref (n + 21), .null, .int 0, .int 0, .int 0, .int 0, .int 0, .int 0, .int 0])), .inr (.inr (5, [.int 0, .int 0, .int 0, .int 32, .int 0, .int ((-1)), .int 0, .int 0, .ref (n + 2), .ref (n + 4), .ref (n + 6), .int ((-1)), .int 0, .int ((-1)), .int 0])), .inr (.inr (4, [.ref (n + 3), .int 0, .int 60])), .inl (60, fun _ => 0), .inr (.inr (4, [.ref (n + 5), .int 0, .int 60])), .inl (60, fun _ => 0), .inr (.inr (4, [.ref (n + 7), .int 0, .int 60])), .inl (60, fun _ => 0), .inr (.inr (5, [.int 1, .int 0, .int 0, .int 32, .int 0, .int ((-1)), .int 0, .int 0, .ref (n + 9), .ref (n + 11), .ref (n + 13), .int ((-1)), .int 0, .int ((-1)), .int 0])), .inr (.inr (4, [.ref (n + 10), .int 0, .int 60])), .inl (60, fun _ => 0), .inr (.inr (4, [.ref (n + 12), .int 0, .int 60])), .inl (60, fun _ => 0), .inr (.inr (4, [.ref (n + 14), .int 0, .int 60])), .inl (60, fun _ => 0), .inr (.inr (6, [.int 1, .int 0, .int 0, .ref (n + 16), .ref (n + 17), .ref (n + 18), .int 0, .int ((-1)), .int 0, .int 0])), .inl (24, fun _ => 0), .inl (24, fun _ => 0), .inl (24, fun _ => 0), .inr (.inr (4, [.ref (n + 20), .int 0, .int 64])), .inl (64, fun _ => 0), .inr (.inr (4, [.ref (n + 22), .int 0, .int 64])), .inl (64, fun _ => 0)]) C fX2_55 dX2_init_91 rfl (gapp_new hn rfl) (Nat.le_of_ble_eq_true rfl) (Or.inr rfl) rfl rfl (by intro z h; cases h) rfl (gapp_set hn) ?_
  refine g_aload_n (q := 95) C dX2_init_94 rfl rfl ?_
  refine g_iconst (v := 3) (q := 96) C dX2_init_95 (by decide) rfl ?_
  refine g_putE (q := 99) (hp' := hp ++ [.inr (.inr (2, [.ref (n + 1), .ref (n + 8), .ref (n + 15), .int 0, .int 0, .int 0, .int 0, .int 0, .ref (n + 19), .ref (n + 21), .null, .int 3, .int 0, .int 0, .int 0, .int 0, .int 0, .int 0])), .inr (.inr (5, [.int 0, .int 0, .int 0, .int 32, .int 0, .int ((-1)), .int 0, .int 0, .ref (n + 2), .ref (n + 4), .ref (n + 6), .int ((-1)), .int 0, .int ((-1)), .int 0])), .inr (.inr (4, [.ref (n + 3), .int 0, .int 60])), .inl (60, fun _ => 0), .inr (.inr (4, [.ref (n + 5), .int 0, .int 60])), .inl (60, fun _ => 0), .inr (.inr (4, [.ref (n + 7), .int 0, .int 60])), .inl (60, fun _ => 0), .inr (.inr (5, [.int 1, .int 0, .int 0, .int 32, .int 0, .int ((-1)), .int 0, .int 0, .ref (n + 9), .ref (n + 11), .ref (n + 13), .int ((-1)), .int 0, .int ((-1)), .int 0])), .inr (.inr (4, [.ref (n + 10), .int 0, .int 60])), .inl (60, fun _ => 0), .inr (.inr (4, [.ref (n + 12), .int 0, .int 60])), .inl (60, fun _ => 0), .inr (.inr (4, [.ref (n + 14), .int 0, .int 60])), .inl (60, fun _ => 0), .inr (.inr (6, [.int 1, .int 0, .int 0, .ref (n + 16), .ref (n + 17), .ref (n + 18), .int 0, .int ((-1)), .int 0, .int 0])), .inl (24, fun _ => 0), .inl (24, fun _ => 0), .inl (24, fun _ => 0), .inr (.inr (4, [.ref (n + 20), .int 0, .int 64])), .inl (64, fun _ => 0), .inr (.inr (4, [.ref (n + 22), .int 0, .int 64])), .inl (64, fun _ => 0)]) C fX2_58 dX2_init_96 rfl (gapp_new hn rfl) (Nat.le_of_ble_eq_true rfl) (Or.inl rfl) rfl rfl (by intro z h; cases h) rfl (gapp_set hn) ?_
  refine g_aload_n (q := 100) C dX2_init_99 rfl rfl ?_
  refine g_iconst (v := 0) (q := 101) C dX2_init_100 (by decide) rfl ?_
  refine g_putE (q := 104) (hp' := hp ++ [.inr (.inr (2, [.ref (n + 1), .ref (n + 8), .ref (n + 15), .int 0, .int 0, .int 0, .int 0, .int 0, .ref (n + 19), .ref (n + 21), .null, .int 3, .int 0, .int 0, .int 0, .int 0, .int 0, .int 0])), .inr (.inr (5, [.int 0, .int 0, .int 0, .int 32, .int 0, .int ((-1)), .int 0, .int 0, .ref (n + 2), .ref (n + 4), .ref (n + 6), .int ((-1)), .int 0, .int ((-1)), .int 0])), .inr (.inr (4, [.ref (n + 3), .int 0, .int 60])), .inl (60, fun _ => 0), .inr (.inr (4, [.ref (n + 5), .int 0, .int 60])), .inl (60, fun _ => 0), .inr (.inr (4, [.ref (n + 7), .int 0, .int 60])), .inl (60, fun _ => 0), .inr (.inr (5, [.int 1, .int 0, .int 0, .int 32, .int 0, .int ((-1)), .int 0, .int 0, .ref (n + 9), .ref (n + 11), .ref (n + 13), .int ((-1)), .int 0, .int ((-1)), .int 0])), .inr (.inr (4, [.ref (n + 10), .int 0, .int 60])), .inl (60, fun _ => 0), .inr (.inr (4, [.ref (n + 12), .int 0, .int 60])), .inl (60, fun _ => 0), .inr (.inr (4, [.ref (n + 14), .int 0, .int 60])), .inl (60, fun _ => 0), .inr (.inr (6, [.int 1, .int 0, .int 0, .ref (n + 16), .ref (n + 17), .ref (n + 18), .int 0, .int ((-1)), .int 0, .int 0])), .inl (24, fun _ => 0), .inl (24, fun _ => 0), .inl (24, fun _ => 0), .inr (.inr (4, [.ref (n + 20), .int 0, .int 64])), .inl (64, fun _ => 0), .inr (.inr (4, [.ref (n + 22), .int 0, .int 64])), .inl (64, fun _ => 0)]) C fX2_61 dX2_init_101 rfl (gapp_new hn rfl) (Nat.le_of_ble_eq_true rfl) (Or.inl rfl) rfl rfl (by intro z h; cases h) rfl (gapp_set hn) ?_
  refine g_aload_n (q := 105) C dX2_init_104 rfl rfl ?_
  refine g_iconst (v := (-1)) (q := 106) C dX2_init_105 (by decide) rfl ?_
  refine g_putE (q := 109) (hp' := hp ++ [.inr (.inr (2, [.ref (n + 1), .ref (n + 8), .ref (n + 15), .int 0, .int 0, .int 0, .int 0, .int 0, .ref (n + 19), .ref (n + 21), .null, .int 3, .int 0, .int ((-1)), .int 0, .int 0, .int 0, .int 0])), .inr (.inr (5, [.int 0, .int 0, .int 0, .int 32, .int 0, .int ((-1)), .int 0, .int 0, .ref (n + 2), .ref (n + 4), .ref (n + 6), .int ((-1)), .int 0, .int ((-1)), .int 0])), .inr (.inr (4, [.ref (n + 3), .int 0, .int 60])), .inl (60, fun _ => 0), .inr (.inr (4, [.ref (n + 5), .int 0, .int 60])), .inl (60, fun _ => 0), .inr (.inr (4, [.ref (n + 7), .int 0, .int 60])), .inl (60, fun _ => 0), .inr (.inr (5, [.int 1, .int 0, .int 0, .int 32, .int 0, .int ((-1)), .int 0, .int 0, .ref (n + 9), .ref (n + 11), .ref (n + 13), .int ((-1)), .int 0, .int ((-1)), .int 0])), .inr (.inr (4, [.ref (n + 10), .int 0, .int 60])), .inl (60, fun _ => 0), .inr (.inr (4, [.ref (n + 12), .int 0, .int 60])), .inl (60, fun _ => 0), .inr (.inr (4, [.ref (n + 14), .int 0, .int 60])), .inl (60, fun _ => 0), .inr (.inr (6, [.int 1, .int 0, .int 0, .ref (n + 16), .ref (n + 17), .ref (n + 18), .int 0, .int ((-1)), .int 0, .int 0])), .inl (24, fun _ => 0), .inl (24, fun _ => 0), .inl (24, fun _ => 0), .inr (.inr (4, [.ref (n + 20), .int 0, .int 64])), .inl (64, fun _ => 0), .inr (.inr (4, [.ref (n + 22), .int 0, .int 64])), .inl (64, fun _ => 0)]) C fX2_65 dX2_init_106 rfl (gapp_new hn rfl) (Nat.le_of_ble_eq_true rfl) (Or.inl rfl) rfl rfl (by intro z h; cases h) rfl (gapp_set hn) ?_
  refine g_aload_n (q := 110) C dX2_init_109 rfl rfl ?_
  refine g_iconst (v := 0) (q := 111) C dX2_init_110 (by decide) rfl ?_
  refine g_putE (q := 114) (hp' := hp ++ [.inr (.inr (2, [.ref (n + 1), .ref (n + 8), .ref (n + 15), .int 0, .int 0, .int 0, .int 0, .int 0, .ref (n + 19), .ref (n + 21), .null, .int 3, .int 0, .int ((-1)), .int 0, .int 0, .int 0, .int 0])), .inr (.inr (5, [.int 0, .int 0, .int 0, .int 32, .int 0, .int ((-1)), .int 0, .int 0, .ref (n + 2), .ref (n + 4), .ref (n + 6), .int ((-1)), .int 0, .int ((-1)), .int 0])), .inr (.inr (4, [.ref (n + 3), .int 0, .int 60])), .inl (60, fun _ => 0), .inr (.inr (4, [.ref (n + 5), .int 0, .int 60])), .inl (60, fun _ => 0), .inr (.inr (4, [.ref (n + 7), .int 0, .int 60])), .inl (60, fun _ => 0), .inr (.inr (5, [.int 1, .int 0, .int 0, .int 32, .int 0, .int ((-1)), .int 0, .int 0, .ref (n + 9), .ref (n + 11), .ref (n + 13), .int ((-1)), .int 0, .int ((-1)), .int 0])), .inr (.inr (4, [.ref (n + 10), .int 0, .int 60])), .inl (60, fun _ => 0), .inr (.inr (4, [.ref (n + 12), .int 0, .int 60])), .inl (60, fun _ => 0), .inr (.inr (4, [.ref (n + 14), .int 0, .int 60])), .inl (60, fun _ => 0), .inr (.inr (6, [.int 1, .int 0, .int 0, .ref (n + 16), .ref (n + 17), .ref (n + 18), .int 0, .int ((-1)), .int 0, .int 0])), .inl (24, fun _ => 0), .inl (24, fun _ => 0), .inl (24, fun _ => 0), .inr (.inr (4, [.ref (n + 20), .int 0, .int 64])), .inl (64, fun _ => 0), .inr (.inr (4, [.ref (n + 22), .int 0, .int 64])), .inl (64, fun _ => 0)]) C fX2_68 dX2_init_111 rfl (gapp_new hn rfl) (Nat.le_of_ble_eq_true rfl) (Or.inl rfl) rfl rfl (by intro z h; cases h) rfl (gapp_set hn) ?_
  refine g_aload_n (q := 115) C dX2_init_114 rfl rfl ?_
  refine g_iconst (v := 0) (q := 116) C dX2_init_115 (by decide) rfl ?_
  refine g_putE (q := 119) (hp' := hp ++ [.inr (.inr (2, [.ref (n + 1), .ref (n + 8), .ref (n + 15), .int 0, .int 0, .int 0, .int 0, .int 0, .ref (n + 19), .ref (n + 21), .null, .int 3, .int 0, .int ((-1)), .int 0, .int 0, .int 0, .int 0])), .inr (.inr (5, [.int 0, .int 0, .int 0, .int 32, .int 0, .int ((-1)), .int 0, .int 0, .ref (n + 2), .ref (n + 4), .ref (n + 6), .int ((-1)), .int 0, .int ((-1)), .int 0])), .inr (.inr (4, [.ref (n + 3), .int 0, .int 60])), .inl (60, fun _ => 0), .inr (.inr (4, [.ref (n + 5), .int 0, .int 60])), .inl (60, fun _ => 0), .inr (.inr (4, [.ref (n + 7), .int 0, .int 60])), .inl (60, fun _ => 0), .inr (.inr (5, [.int 1, .int 0, .int 0, .int 32, .int 0, .int ((-1)), .int 0, .int 0, .ref (n + 9), .ref (n + 11), .ref (n + 13), .int ((-1)), .int 0, .int ((-1)), .int 0])), .inr (.inr (4, [.ref (n + 10), .int 0, .int 60])), .inl (60, fun _ => 0), .inr (.inr (4, [.ref (n + 12), .int 0, .int 60])), .inl (60, fun _ => 0), .inr (.inr (4, [.ref (n + 14), .int 0, .int 60])), .inl (60, fun _ => 0), .inr (.inr (6, [.int 1, .int 0, .int 0, .ref (n + 16), .ref (n + 17), .ref (n + 18), .int 0, .int ((-1)), .int 0, .int 0])), .inl (24, fun _ => 0), .inl (24, fun _ => 0), .inl (24, fun _ => 0), .inr (.inr (4, [.ref (n + 20), .int 0, .int 64])), .inl (64, fun _ => 0), .inr (.inr (4, [.ref (n + 22), .int 0, .int 64])), .inl (64, fun _ => 0)]) C fX2_71 dX2_init_116 rfl (gapp_new hn rfl) (Nat.le_of_ble_eq_true rfl) (Or.inl rfl) rfl rfl (by intro z h; cases h) rfl (gapp_set hn) ?_
  refine g_aload_n (q := 120) C dX2_init_119 rfl rfl ?_
  refine g_iconst (v := 0) (q := 121) C dX2_init_120 (by decide) rfl ?_
  refine g_putE (q := 124) (hp' := hp ++ [.inr (.inr (2, [.ref (n + 1), .ref (n + 8), .ref (n + 15), .int 0, .int 0, .int 0, .int 0, .int 0, .ref (n + 19), .ref (n + 21), .null, .int 3, .int 0, .int ((-1)), .int 0, .int 0, .int 0, .int 0])), .inr (.inr (5, [.int 0, .int 0, .int 0, .int 32, .int 0, .int ((-1)), .int 0, .int 0, .ref (n + 2), .ref (n + 4), .ref (n + 6), .int ((-1)), .int 0, .int ((-1)), .int 0])), .inr (.inr (4, [.ref (n + 3), .int 0, .int 60])), .inl (60, fun _ => 0), .inr (.inr (4, [.ref (n + 5), .int 0, .int 60])), .inl (60, fun _ => 0), .inr (.inr (4, [.ref (n + 7), .int 0, .int 60])), .inl (60, fun _ => 0), .inr (.inr (5, [.int 1, .int 0, .int 0, .int 32, .int 0, .int ((-1)), .int 0, .int 0, .ref (n + 9), .ref (n + 11), .ref (n + 13), .int ((-1)), .int 0, .int ((-1)), .int 0])), .inr (.inr (4, [.ref (n + 10), .int 0, .int 60])), .inl (60, fun _ => 0), .inr (.inr (4, [.ref (n + 12), .int 0, .int 60])), .inl (60, fun _ => 0), .inr (.inr (4, [.ref (n + 14), .int 0, .int 60])), .inl (60, fun _ => 0), .inr (.inr (6, [.int 1, .int 0, .int 0, .ref (n + 16), .ref (n + 17), .ref (n + 18), .int 0, .int ((-1)), .int 0, .int 0])), .inl (24, fun _ => 0), .inl (24, fun _ => 0), .inl (24, fun _ => 0), .inr (.inr (4, [.ref (n + 20), .int 0, .int 64])), .inl (64, fun _ => 0), .inr (.inr (4, [.ref (n + 22), .int 0, .int 64])), .inl (64, fun _ => 0)]) C fX2_74 dX2_init_121 rfl (gapp_new hn rfl) (Nat.le_of_ble_eq_true rfl) (Or.inl rfl) rfl rfl (by intro z h; cases h) rfl (gapp_set hn) ?_
  refine g_aload_n (q := 125) C dX2_init_124 rfl rfl ?_
  refine g_iconst (v := 0) (q := 126) C dX2_init_125 (by decide) rfl ?_
  refine g_putE (q := 129) (hp' := hp ++ [.inr (.inr (2, [.ref (n + 1), .ref (n + 8), .ref (n + 15), .int 0, .int 0, .int 0, .int 0, .int 0, .ref (n + 19), .ref (n + 21), .null, .int 3, .int 0, .int ((-1)), .int 0, .int 0, .int 0, .int 0])), .inr (.inr (5, [.int 0, .int 0, .int 0, .int 32, .int 0, .int ((-1)), .int 0, .int 0, .ref (n + 2), .ref (n + 4), .ref (n + 6), .int ((-1)), .int 0, .int ((-1)), .int 0])), .inr (.inr (4, [.ref (n + 3), .int 0, .int 60])), .inl (60, fun _ => 0), .inr (.inr (4, [.ref (n + 5), .int 0, .int 60])), .inl (60, fun _ => 0), .inr (.inr (4, [.ref (n + 7), .int 0, .int 60])), .inl (60, fun _ => 0), .inr (.inr (5, [.int 1, .int 0, .int 0, .int 32, .int 0, .int ((-1)), .int 0, .int 0, .ref (n + 9), .ref (n + 11), .ref (n + 13), .int ((-1)), .int 0, .int ((-1)), .int 0])), .inr (.inr (4, [.ref (n + 10), .int 0, .int 60])), .inl (60, fun _ => 0), .inr (.inr (4, [.ref (n + 12), .int 0, .int 60])), .inl (60, fun _ => 0), .inr (.inr (4, [.ref (n + 14), .int 0, .int 60])), .inl (60, fun _ => 0), .inr (.inr (6, [.int 1, .int 0, .int 0, .ref (n + 16), .ref (n + 17), .ref (n + 18), .int 0, .int ((-1)), .int 0, .int 0])), .inl (24, fun _ => 0), .inl (24, fun _ => 0), .inl (24, fun _ => 0), .inr (.inr (4, [.ref (n + 20), .int 0, .int 64])), .inl (64, fun _ => 0), .inr (.inr (4, [.ref (n + 22), .int 0, .int 64])), .inl (64, fun _ => 0)]) C fX2_77 dX2_init_126 rfl (gapp_new hn rfl) (Nat.le_of_ble_eq_true rfl) (Or.inl rfl) rfl rfl (by intro z h; cases h) rfl (gapp_set hn) ?_
  refine g_aload_n (q := 130) C dX2_init_129 rfl rfl ?_
  refine g_aloadN_n (q := 131) C dX2_init_130 rfl rfl ?_
  refine g_putE (q := 134) (hp' := hp ++ [.inr (.inr (2, [.ref (n + 1), .ref (n + 8), .ref (n + 15), .int 0, .int 0, .int 0, .int 0, .int 0, .ref (n + 19), .ref (n + 21), .null, .int 3, .int 0, .int ((-1)), .int 0, .int 0, .int 0, .int 0])), .inr (.inr (5, [.int 0, .int 0, .int 0, .int 32, .int 0, .int ((-1)), .int 0, .int 0, .ref (n + 2), .ref (n + 4), .ref (n + 6), .int ((-1)), .int 0, .int ((-1)), .int 0])), .inr (.inr (4, [.ref (n + 3), .int 0, .int 60])), .inl (60, fun _ => 0), .inr (.inr (4, [.ref (n + 5), .int 0, .int 60])), .inl (60, fun _ => 0), .inr (.inr (4, [.ref (n + 7), .int 0, .int 60])), .inl (60, fun _ => 0), .inr (.inr (5, [.int 1, .int 0, .int 0, .int 32, .int 0, .int ((-1)), .int 0, .int 0, .ref (n + 9), .ref (n + 11), .ref (n + 13), .int ((-1)), .int 0, .int ((-1)), .int 0])), .inr (.inr (4, [.ref (n + 10), .int 0, .int 60])), .inl (60, fun _ => 0), .inr (.inr (4, [.ref (n + 12), .int 0, .int 60])), .inl (60, fun _ => 0), .inr (.inr (4, [.ref (n + 14), .int 0, .int 60])), .inl (60, fun _ => 0), .inr (.inr (6, [.int 1, .int 0, .int 0, .ref (n + 16), .ref (n + 17), .ref (n + 18), .int 0, .int ((-1)), .int 0, .int 0])), .inl (24, fun _ => 0), .inl (24, fun _ => 0), .inl (24, fun _ => 0), .inr (.inr (4, [.ref (n + 20), .int 0, .int 64])), .inl (64, fun _ => 0), .inr (.inr (4, [.ref (n + 22), .int 0, .int 64])), .inl (64, fun _ => 0)]) C fX2_80 dX2_init_131 rfl (gapp_new hn rfl) (Nat.le_of_ble_eq_true rfl) (Or.inr rfl) rfl rfl (by intro z h; cases h) rfl (gapp_set hn) ?_
  exact E.2.1 _ _ _ _ _ dX2_init_134 rfl (Nat.le_of_ble_eq_true rfl) (Nat.le_of_ble_eq_true rfl) ⟨rfl, rfl⟩
theorem dX0_init_0 : decode cX0_init 0 = .ok (.aload_n 0, 1) := by decide +kernel
theorem dX0_init_1 : decode cX0_init 1 = .ok (.invokespecial 3, 3) := by decide +kernel
theorem dX0_init_4 : decode cX0_init 4 = .ok (.aload_n 0, 1) := by decide +kernel
theorem dX0_init_5 : decode cX0_init 5 = .ok (.new 9, 3) := by decide +kernel
theorem dX0_init_8 : decode cX0_init 8 = .ok (.dup, 1) := by decide +kernel
theorem dX0_init_9 : decode cX0_init 9 = .ok (.aconst_null, 1) := by decide +kernel
theorem dX0_init_10 : decode cX0_init 10 = .ok (.invokespecial 11, 3) := by decide +kernel
theorem dX0_init_13 : decode cX0_init 13 = .ok (.putfield 14, 3) := by decide +kernel
theorem dX0_init_16 : decode cX0_init 16 = .ok (.aload_n 0, 1) := by decide +kernel
theorem dX0_init_17 : decode cX0_init 17 = .ok (.new 9, 3) := by decide +kernel
theorem dX0_init_20 : decode cX0_init 20 = .ok (.dup, 1) := by decide +kernel
theorem dX0_init_21 : decode cX0_init 21 = .ok (.aconst_null, 1) := by decide +kernel
theorem dX0_init_22 : decode cX0_init 22 = .ok (.invokespecial 11, 3) := by decide +kernel
theorem dX0_init_25 : decode cX0_init 25 = .ok (.putfield 20, 3) := by decide +kernel
theorem dX0_init_28 : decode cX0_init 28 = .ok (.aload_n 0, 1) := by decide +kernel
theorem dX0_init_29 : decode cX0_init 29 = .ok (.new 9, 3) := by decide +kernel
theorem dX0_init_32 : decode cX0_init 32 = .ok (.dup, 1) := by decide +kernel
theorem dX0_init_33 : decode cX0_init 33 = .ok (.aconst_null, 1) := by decide +kernel
theorem dX0_init_34 : decode cX0_init 34 = .ok (.invokespecial 11, 3) := by decide +kernel
theorem dX0_init_37 : decode cX0_init 37 = .ok (.putfield 23, 3) := by decide +kernel
theorem dX0_init_40 : decode cX0_init 40 = .ok (.aload_n 0, 1) := by decide +kernel
theorem dX0_init_41 : decode cX0_init 41 = .ok (.iconst 0, 1) := by decide +kernel
theorem dX0_init_42 : decode cX0_init 42 = .ok (.putfield 26, 3) := by decide +kernel
theorem dX0_init_45 : decode cX0_init 45 = .ok (.aload_n 0, 1) := by decide +kernel
theorem dX0_init_46 : decode cX0_init 46 = .ok (.iconst 4, 1) := by decide +kernel
theorem dX0_init_47 : decode cX0_init 47 = .ok (.newarray .int, 2) := by decide +kernel
theorem dX0_init_49 : decode cX0_init 49 = .ok (.putfield 30, 3) := by decide +kernel
theorem dX0_init_52 : decode cX0_init 52 = .ok (.aload_n 0, 1) := by decide +kernel
theorem dX0_init_53 : decode cX0_init 53 = .ok (.iconst 4, 1) := by decide +kernel
theorem dX0_init_54 : decode cX0_init 54 = .ok (.newarray .int, 2) := by decide +kernel
theorem dX0_init_56 : decode cX0_init 56 = .ok (.putfield 34, 3) := by decide +kernel
theorem dX0_init_59 : decode cX0_init 59 = .ok (.aload_n 0, 1) := by decide +kernel
theorem dX0_init_60 : decode cX0_init 60 = .ok (.iconst 4, 1) := by decide +kernel
theorem dX0_init_61 : decode cX0_init 61 = .ok (.newarray .int, 2) := by decide +kernel
theorem dX0_init_63 : decode cX0_init 63 = .ok (.putfield 37, 3) := by decide +kernel
theorem dX0_init_66 : decode cX0_init 66 = .ok (.return_, 1) := by decide +kernel
set_option maxRecDepth 100000 in
set_option maxHeartbeats 4000000 in
theorem c_X0_init {hp : List gA} {n : Nat}  (hn : hp.length = n) : gM yX0_init cX0_init 1 (none) 4 85 [.ref (n + 0)] (hp ++ [.inr (.inr (0, [.null, .null, .null, .int 0, .null, .null, .null]))]) (72) (1938) (fun v h => v = none ∧ h = hp ++ [.inr (.inr (0, [.ref (n + 1), .ref (n + 24), .ref (n + 47), .int 0, .ref (n + 70), .ref (n + 71), .ref (n + 72)])), .inr (.inr (2, [.ref (n + 2), .ref (n + 9), .ref (n + 16), .int 0, .int 0, .int 0, .int 0, .int 0, .ref (n + 20), .ref (n + 22), .null, .int 3, .int 0, .int ((-1)), .int 0, .int 0, .int 0, .int 0])), .inr (.inr (5, [.int 0, .int 0, .int 0, .int 32, .int 0, .int ((-1)), .int 0, .int 0, .ref (n + 3), .ref (n + 5), .ref (n + 7), .int ((-1)), .int 0, .int ((-1)), .int 0])), .inr (.inr (4, [.ref (n + 4), .int 0, .int 60])), .inl (60, fun _ => 0), .inr (.inr (4, [.ref (n + 6), .int 0, .int 60])), .inl (60, fun _ => 0), .inr (.inr (4, [.ref (n + 8), .int 0, .int 60])), .inl (60, fun _ => 0), .inr (.inr (5, [.int 1, .int 0, .int 0, .int 32, .int 0, .int ((-1)), .int 0, .int 0, .ref (n + 10), .ref (n + 12), .ref (n + 14), .int ((-1)), .int 0, .int ((-1)), .int 0])), .inr (.inr (4, [.ref (n + 11), .int 0, .int 60])), .inl (60, fun _ => 0), .inr (.inr (4, [.ref (n + 13), .int 0, .int 60])), .inl (60, fun _ => 0), .inr (.inr (4, [.ref (n + 15), .int 0, .int 60])), .inl (60, fun _ => 0), .inr (.inr (6, [.int 1, .int 0, .int 0, .ref (n + 17), .ref (n + 18), .ref (n + 19), .int 0, .int ((-1)), .int 0, .int 0])), .inl (24, fun _ => 0), .inl (24, fun _ => 0), .inl (24, fun _ => 0), .inr (.inr (4, [.ref (n + 21), .int 0, .int 64])), .inl (64, fun _ => 0), .inr (.inr (4, [.ref (n + 23), .int 0, .int 64])), .inl (64, fun _ => 0), .inr (.inr (2, [.ref (n + 25), .ref (n + 32), .ref (n + 39), .int 0, .int 0, .int 0, .int 0, .int 0, .ref (n + 43), .ref (n + 45), .null, .int 3, .int 0, .int ((-1)), .int 0, .int 0, .int 0, .int 0])), .inr (.inr (5, [.int 0, .int 0, .int 0, .int 32, .int 0, .int ((-1)), .int 0, .int 0, .ref (n + 26), .ref (n + 28), .ref (n + 30), .int ((-1)), .int 0, .int ((-1)), .int 0])), .inr (.inr (4, [.ref (n + 27), .int 0, .int 60])), .inl (60, fun _ => 0), .inr (.inr (4, [.ref (n + 29), .int 0, .int 60])), .inl (60, fun _ => 0), .inr (.inr (4, [.ref (n + 31), .int 0, .int 60])), .inl (60, fun _ => 0), .inr (.inr (5, [.int 1, .int 0, .int 0, .int 32, .int 0, .int ((-1)), .int 0, .int 0, .ref (n + 33), .ref (n + 35), .ref (n + 37), .int ((-1)), .int 0, .int ((-1)), .int 0])), .inr (.inr (4, [.ref (n + 34), .int 0, .int 60])), .inl (60, fun _ => 0), .inr (.inr (4, [.ref (n + 36), .int 0, .int 60])), .inl (60, fun _ => 0), .inr (.inr (4, [.ref (n + 38), .int 0, .int 60])), .inl (60, fun _ => 0), .inr (.inr (6, [.int 1, .int 0, .int 0, .ref (n + 40), .ref (n + 41), .ref (n + 42), .int 0, .int ((-1)), .int 0, .int 0])), .inl (24, fun _ => 0), .inl (24, fun _ => 0), .inl (24, fun _ => 0), .inr (.inr (4, [.ref (n + 44), .int 0, .int 64])), .inl (64, fun _ => 0), .inr (.inr (4, [.ref (n + 46), .int 0, .int 64])), .inl (64, fun _ => 0), .inr (.inr (2, [.ref (n + 48), .ref (n + 55), .ref (n + 62), .int 0, .int 0, .int 0, .int 0, .int 0, .ref (n + 66), .ref (n + 68), .null, .int 3, .int 0, .int ((-1)), .int 0, .int 0, .int 0, .int 0])), .inr (.inr (5, [.int 0, .int 0, .int 0, .int 32, .int 0, .int ((-1)), .int 0, .int 0, .ref (n + 49), .ref (n + 51), .ref (n + 53), .int ((-1)), .int 0, .int ((-1)), .int 0])), .inr (.inr (4, [.ref (n + 50), .int 0, .int 60])), .inl (60, fun _ => 0), .inr (.inr (4, [.ref (n + 52), .int 0, .int 60])), .inl (60, fun _ => 0), .inr (.inr (4, [.ref (n + 54), .int 0, .int 60])), .inl (60, fun _ => 0), .inr (.inr (5, [.int 1, .int 0, .int 0, .int 32, .int 0, .int ((-1)), .int 0, .int 0, .ref (n + 56), .ref (n + 58), .ref (n + 60), .int ((-1)), .int 0, .int ((-1)), .int 0])), .inr (.inr (4, [.ref (n + 57), .int 0, .int 60])), .inl (60, fun _ => 0), .inr (.inr (4, [.ref (n + 59), .int 0, .int 60])), .inl (60, fun _ => 0), .inr (.inr (4, [.ref (n + 61), .int 0, .int 60])), .inl (60, fun _ => 0), .inr (.inr (6, [.int 1, .int 0, .int 0, .ref (n + 63), .ref (n + 64), .ref (n + 65), .int 0, .int ((-1)), .int 0, .int 0])), .inl (24, fun _ => 0), .inl (24, fun _ => 0), .inl (24, fun _ => 0), .inr (.inr (4, [.ref (n + 67), .int 0, .int 64])), .inl (64, fun _ => 0), .inr (.inr (4, [.ref (n + 69), .int 0, .int 64])), .inl (64, fun _ => 0), .inl (4, fun _ => 0), .inl (4, fun _ => 0), .inl (4, fun _ => 0)]) := by
  refine gM_of (ls0 := [some (.ref (n + 0))]) (by decide +kernel) (Nat.le_of_ble_eq_true rfl) rfl fun X C E => ?_
  refine g_aload_n (q := 1) C dX0_init_0 rfl rfl ?_
  refine g_objInit (q := 4) C t_305 t_63 t_64 dX0_init_1 rfl rfl (Nat.le_of_ble_eq_true rfl) (Nat.le_of_ble_eq_true rfl) ?_
  refine g_aload_n (q := 5) C dX0_init_4 rfl rfl ?_
  refine g_new (q := 8) (k := n + 1) C nX0_9 dX0_init_5 rfl (by rw [List.length_append, hn]; rfl) (Nat.le_of_ble_eq_true rfl) (Nat.le_of_ble_eq_true rfl) ?_
  refine g_heap (hp2 := hp ++ [.inr (.inr (0, [.null, .null, .null, .int 0, .null, .null, .null])), .inr (.inr (2, [.null, .null, .null, .int 0, .int 0, .int 0, .int 0, .int 0, .null, .null, .null, .int 0, .int 0, .int 0, .int 0, .int 0, .int 0, .int 0]))]) (by simp only [List.append_assoc, List.cons_append, List.nil_append]) ?_
  refine g_dup (q := 9) C dX0_init_8 rfl rfl ?_
  refine g_null (q := 10) C dX0_init_9 rfl ?_
  refine g_heap (hp2 := (hp ++ [.inr (.inr (0, [.null, .null, .null, .int 0, .null, .null, .null]))]) ++ [.inr (.inr (2, [.null, .null, .null, .int 0, .int 0, .int 0, .int 0, .int 0, .null, .null, .null, .int 0, .int 0, .int 0, .int 0, .int 0, .int 0, .int 0]))]) (by simp only [List.append_assoc, List.cons_append, List.nil_append]) ?_
  refine g_callIv (q := 13) (As := [.null]) C gyX2_init giX2_init rfl t_307 (c_X2_init_n (n := n + 1) (by rw [List.length_append, hn]; rfl)) dX0_init_10 rfl rfl rfl (Nat.le_of_ble_eq_true rfl) (Nat.le_of_ble_eq_true rfl) (Nat.le_of_ble_eq_true rfl) (Nat.le_of_ble_eq_true rfl) (Nat.le_of_ble_eq_true rfl) rfl ?_
  refine g_heap (hp2 := hp ++ [.inr (.inr (0, [.null, .null, .null, .int 0, .null, .null, .null])), .inr (.inr (2, [.ref (n + 2), .ref (n + 9), .ref (n + 16), .int 0, .int 0, .int 0, .int 0, .int 0, .ref (n + 20), .ref (n + 22), .null, .int 3, .int 0, .int ((-1)), .int 0, .int 0, .int 0, .int 0])), .inr (.inr (5, [.int 0, .int 0, .int 0, .int 32, .int 0, .int ((-1)), .int 0, .int 0, .ref (n + 3), .ref (n + 5), .ref (n + 7), .int ((-1)), .int 0, .int ((-1)), .int 0])), .inr (.inr (4, [.ref (n + 4), .int 0, .int 60])), .inl (60, fun _ => 0), .inr (.inr (4, [.ref (n + 6), .int 0, .int 60])), .inl (60, fun _ => 0), .inr (.inr (4, [.ref (n + 8), .int 0, .int 60])), .inl (60, fun _ => 0), .inr (.inr (5, [.int 1, .int 0, .int 0, .int 32, .int 0, .int ((-1)), .int 0, .int 0, .ref (n + 10), .ref (n + 12), .ref (n + 14), .int ((-1)), .int 0, .int ((-1)), .int 0])), .inr (.inr (4, [.ref (n + 11), .int 0, .int 60])), .inl (60, fun _ => 0), .inr (.inr (4, [.ref (n + 13), .int 0, .int 60])), .inl (60, fun _ => 0), .inr (.inr (4, [.ref (n + 15), .int 0, .int 60])), .inl (60, fun _ => 0), .inr (.inr (6, [.int 1, .int 0, .int 0, .ref (n + 17), .ref (n + 18), .ref (n + 19), .int 0, .int ((-1)), .int 0, .int 0])), .inl (24, fun _ => 0), .inl (24, fun _ => 0), .inl (24, fun _ => 0), .inr (.inr (4, [.ref (n + 21), .int 0, .int 64])), .inl (64, fun _ => 0), .inr (.inr (4, [.ref (n + 23), .int 0, .int 64])), .inl (64, fun _ => 0)]) (by simp only [List.append_assoc, List.cons_append, List.nil_append, Nat.add_assoc, Nat.reduceAdd, Nat.add_zero]) ?_
  refine g_putE (q := 16) (hp' := hp ++ [.inr (.inr (0, [.ref (n + 1), .null, .null, .int 0, .null, .null, .null])), .inr (.inr (2, [.ref (n + 2), .ref (n + 9), .ref (n + 16), .int 0, .int 0, .int 0, .int 0, .int 0, .ref (n + 20), .ref (n + 22), .null, .int 3, .int 0, .int ((-1)), .int 0, .int 0, .int 0, .int 0])), .inr (.inr (5, [.int 0, .int 0, .int 0, .int 32, .int 0, .int ((-1)), .int 0, .int 0, .ref (n + 3), .ref (n + 5), .ref (n + 7), .int ((-1)), .int 0, .int ((-1)), .int 0])), .inr (.inr (4, [.ref (n + 4), .int 0, .int 60])), .inl (60, fun _ => 0), .inr (.inr (4, [.ref (n + 6), .int 0, .int 60])), .inl (60, fun _ => 0), .inr (.inr (4, [.ref (n + 8), .int 0, .int 60])), .inl (60, fun _ => 0), .inr (.inr (5, [.int 1, .int 0, .int 0, .int 32, .int 0, .int ((-1)), .int 0, .int 0, .ref (n + 10), .ref (n + 12), .ref (n + 14), .int ((-1)), .int 0, .int ((-1)), .int 0])), .inr (.inr (4, [.ref (n + 11), .int 0, .int 60])), .inl (60, fun _ => 0), .inr (.inr (4, [.ref (n + 13), .int 0, .int 60])), .inl (60, fun _ => 0), .inr (.inr (4, [.ref (n + 15), .int 0, .int 60])), .inl (60, fun _ => 0), .inr (.inr (6, [.int 1, .int 0, .int 0, .ref (n + 17), .ref (n + 18), .ref (n + 19), .int 0, .int ((-1)), .int 0, .int 0])), .inl (24, fun _ => 0), .inl (24, fun _ => 0), .inl (24, fun _ => 0), .inr (.inr (4, [.ref (n + 21), .int 0, .int 64])), .inl (64, fun _ => 0), .inr (.inr (4, [.ref (n + 23), .int 0, .int 64])), .inl (64, fun _ => 0)]) C fX0_14 dX0_init_13 rfl (gapp_new hn rfl) (Nat.le_of_ble_eq_true rfl) (Or.inr rfl) rfl rfl (by intro z h; cases h) rfl (gapp_set hn) ?_
  refine g_aload_n (q := 17) C dX0_init_16 rfl rfl ?_
  refine g_new (q := 20) (k := n + 24) C nX0_9 dX0_init_17 rfl (by rw [List.length_append, hn]; rfl) (Nat.le_of_ble_eq_true rfl) (Nat.le_of_ble_eq_true rfl) ?_
  refine g_heap (hp2 := hp ++ [.inr (.inr (0, [.ref (n + 1), .null, .null, .int 0, .null, .null, .null])), .inr (.inr (2, [.ref (n + 2), .ref (n + 9), .ref (n + 16), .int 0, .int 0, .int 0, .int 0, .int 0, .ref (n + 20), .ref (n + 22), .null, .int 3, .int 0, .int ((-1)), .int 0, .int 0, .int 0, .int 0])), .inr (.inr (5, [.int 0, .int 0, .int 0, .int 32, .int 0, .int ((-1)), .int 0, .int 0, .ref (n + 3), .ref (n + 5), .ref (n + 7), .int ((-1)), .int 0, .int ((-1)), .int 0])), .inr (.inr (4, [.ref (n + 4), .int 0, .int 60])), .inl (60, fun _ => 0), .inr (.inr (4, [.ref (n + 6), .int 0, .int 60])), .inl (60, fun _ => 0), .inr (.inr (4, [.ref (n + 8), .int 0, .int 60])), .inl (60, fun _ => 0), .inr (.inr (5, [.int 1, .int 0, .int 0, .int 32, .int 0, .int ((-1)), .int 0, .int 0, .ref (n + 10), .ref (n + 12), .ref (n + 14), .int ((-1)), .int 0, .int ((-1)), .int 0])), .inr (.inr (4, [.ref (n + 11), .int 0, .int 60])), .inl (60, fun _ => 0), .inr (.inr (4, [.ref (n + 13), .int 0, .int 60])), .inl (60, fun _ => 0), .inr (.inr (4, [.ref (n + 15), .int 0, .int 60])), .inl (60, fun _ => 0), .inr (.inr (6, [.int 1, .int 0, .int 0, .ref (n + 17), .ref (n + 18), .ref (n + 19), .int 0, .int ((-1)), .int 0, .int 0])), .inl (24, fun _ => 0), .inl (24, fun _ => 0), .inl (24, fun _ => 0), .inr (.inr (4, [.ref (n + 21), .int 0, .int 64])), .inl (64, fun _ => 0), .inr (.inr (4, [.ref (n + 23), .int 0, .int 64])), .inl (64, fun _ => 0), .inr (.inr (2, [.null, .null, .null, .int 0, .int 0, .int 0, .int 0, .int 0, .null, .null, .null, .int 0, .int 0, .int 0, .int 0, .int 0, .int 0, .int 0]))]) (by simp only [List.append_assoc, List.cons_append, List.nil_append]) ?_
  refine g_dup (q := 21) C dX0_init_20 rfl rfl ?_
  refine g_null (q := 22) C dX0_init_21 rfl ?_
  refine g_heap (hp2 := (hp ++ [.inr (.inr (0, [.ref (n + 1), .null, .null, .int 0, .null, .null, .null])), .inr (.inr (2, [.ref (n + 2), .ref (n + 9), .ref (n + 16), .int 0, .int 0, .int 0, .int 0, .int 0, .ref (n + 20), .ref (n + 22), .null, .int 3, .int 0, .int ((-1)), .int 0, .int 0, .int 0, .int 0])), .inr (.inr (5, [.int 0, .int 0, .int 0, .int 32, .int 0, .int ((-1)), .int 0, .int 0, .ref (n + 3), .ref (n + 5), .ref (n + 7), .int ((-1)), .int 0, .int ((-1)), .int 0])), .inr (.inr (4, [.ref (n + 4), .int 0, .int 60])), .inl (60, fun _ => 0), .inr (.inr (4, [.ref (n + 6), .int 0, .int 60])), .inl (60, fun _ => 0), .inr (.inr (4, [.ref (n + 8), .int 0, .int 60])), .inl (60, fun _ => 0), .inr (.inr (5, [.int 1, .int 0, .int 0, .int 32, .int 0, .int ((-1)), .int 0, .int 0, .ref (n + 10), .ref (n + 12), .ref (n + 14), .int ((-1)), .int 0, .int ((-1)), .int 0])), .inr (.inr (4, [.ref (n + 11), .int 0, .int 60])), .inl (60, fun _ => 0), .inr (.inr (4, [.ref (n + 13), .int 0, .int 60])), .inl (60, fun _ => 0), .inr (.inr (4, [.ref (n + 15), .int 0, .int 60])), .inl (60, fun _ => 0), .inr (.inr (6, [.int 1, .int 0, .int 0, .ref (n + 17), .ref (n + 18), .ref (n + 19), .int 0, .int ((-1)), .int 0, .int 0])), .inl (24, fun _ => 0), .inl (24, fun _ => 0), .inl (24, fun _ => 0), .inr (.inr (4, [.ref (n + 21), .int 0, .int 64])), .inl (64, fun _ => 0), .inr (.inr (4, [.ref (n + 23), .int 0, .int 64])), .inl (64, fun _ => 0)]) ++ [.inr (.inr (2, [.null, .null, .null, .int 0, .int 0, .int 0, .int 0, .int 0, .null, .null, .null, .int 0, .int 0, .int 0, .int 0, .int 0, .int 0, .int 0]))]) (by simp only [List.append_assoc, List.cons_append, List.nil_append]) ?_
  refine g_callIv (q := 25) (As := [.null]) C gyX2_init giX2_init rfl t_307 (c_X2_init_n (n := n + 24) (by rw [List.length_append, hn]; rfl)) dX0_init_22 rfl rfl rfl (Nat.le_of_ble_eq_true rfl) (Nat.le_of_ble_eq_true rfl) (Nat.le_of_ble_eq_true rfl) (Nat.le_of_ble_eq_true rfl) (Nat.le_of_ble_eq_true rfl) rfl ?_
  refine g_heap (hp2 := hp ++ [.inr (.inr (0, [.ref (n + 1), .null, .null, .int 0, .null, .null, .null])), .inr (.inr (2, [.ref (n + 2), .ref (n + 9), .ref (n + 16), .int 0, .int 0, .int 0, .int 0, .int 0, .ref (n + 20), .ref (n + 22), .null, .int 3, .int 0, .int ((-1)), .int 0, .int 0, .int 0, .int 0])), .inr (.inr (5, [.int 0, .int 0, .int 0, .int 32, .int 0, .int ((-1)), .int 0, .int 0, .ref (n + 3), .ref (n + 5), .ref (n + 7), .int ((-1)), .int 0, .int ((-1)), .int 0])), .inr (.inr (4, [.ref (n + 4), .int 0, .int 60])), .inl (60, fun _ => 0), .inr (.inr (4, [.ref (n + 6), .int 0, .int 60])), .inl (60, fun _ => 0), .inr (.inr (4, [.ref (n + 8), .int 0, .int 60])), .inl (60, fun _ => 0), .inr (.inr (5, [.int 1, .int 0, .int 0, .int 32, .int 0, .int ((-1)), .int 0, .int 0, .ref (n + 10), .ref (n + 12), .ref (n + 14), .int ((-1)), .int 0, .int ((-1)), .int 0])), .inr (.inr (4, [.ref (n + 11), .int 0, .int 60])), .inl (60, fun _ => 0), .inr (.inr (4, [.ref (n + 13), .int 0, .int 60])), .inl (60, fun _ => 0), .inr (.inr (4, [.ref (n + 15), .int 0, .int 60])), .inl (60, fun _ => 0), .inr (.inr (6, [.int 1, .int 0, .int 0, .ref (n + 17), .ref (n + 18), .ref (n + 19), .int 0, .int ((-1)), .int 0, .int 0])), .inl (24, fun _ => 0), .inl (24, fun _ => 0), .inl (24, fun _ => 0), .inr (.inr (4, [.ref (n + 21), .int 0, .int 64])), .inl (64, fun _ => 0), .inr (.inr (4, [.ref (n + 23), .int 0, .int 64])), .inl (64, fun _ => 0), .inr (.inr (2, [.ref (n + 25), .ref (n + 32), .ref (n + 39), .int 0, .int 0, .int 0, .int 0, .int 0, .ref (n + 43), .ref (n + 45), .null, .int 3, .int 0, .int ((-1)), .int 0, .int 0, .int 0, .int 0])), .inr (.inr (5, [.int 0, .int 0, .int 0, .int 32, .int 0, .int ((-1)), .int 0, .int 0, .ref (n + 26), .ref (n + 28), .ref (n + 30), .int ((-1)), .int 0, .int ((-1)), .int 0])), .inr (.inr (4, [.ref (n + 27), .int 0, .int 60])), .inl (60, fun _ => 0), .inr (.inr (4, [.ref (n + 29), .int 0, .int 60])), .inl (60, fun _ => 0), .inr (.inr (4, [.ref (n + 31), .int 0, .int 60])), .inl (60, fun _ => 0), .inr (.inr (5, [.int 1, .int 0, .int 0, .int 32, .int 0, .int ((-1)), .int 0, .int 0, .ref (n + 33), .ref (n + 35), .ref (n + 37), .int ((-1)), .int 0, .int ((-1)), .int 0])), .inr (.inr (4, [.ref (n + 34), .int 0, .int 60])), .inl (60, fun _ => 0), .inr (.inr (4, [.ref (n + 36), .int 0, .int 60])), .inl (60, fun _ => 0), .inr (.inr (4, [.ref (n + 38), .int 0, .int 60])), .inl (60, fun _ => 0), .inr (.inr (6, [.int 1, .int 0, .int 0, .ref (n + 40), .ref (n + 41), .ref (n + 42), .int 0, .int ((-1)), .int 0, .int 0])), .inl (24, fun _ => 0), .inl (24, fun _ => 0), .inl (24, fun _ => 0), .inr (.inr (4, [.ref (n + 44), .int 0, .int 64])), .inl (64, fun _ => 0), .inr (.inr (4, [.ref (n + 46), .int 0, .int 64])), .inl (64, fun _ => 0)]) (by simp only [List.append_assoc, List.cons_append, List.nil_append, Nat.add_assoc, Nat.reduceAdd, Nat.add_zero]) ?_
  refine g_putE (q := 28) (hp' := hp ++ [.inr (.inr (0, [.ref (n + 1), .ref (n + 24), .null, .int 0, .null, .null, .null])), .inr (.inr (2, [.ref (n + 2), .ref (n + 9), .ref (n + 16), .int 0, .int 0, .int 0, .int 0, .int 0, .ref (n + 20), .ref (n + 22), .null, .int 3, .int 0, .int ((-1)), .int 0, .int 0, .int 0, .int 0])), .inr (.inr (5, [.int 0, .int 0, .int 0, .int 32, .int 0, .int ((-1)), .int 0, .int 0, .ref (n + 3), .ref (n + 5), .ref (n + 7), .int ((-1)), .int 0, .int ((-1)), .int 0])), .inr (.inr (4, [.ref (n + 4), .int 0, .int 60])), .inl (60, fun _ => 0), .inr (.inr (4, [.ref (n + 6), .int 0, .int 60])), .inl (60, fun _ => 0), .inr (.inr (4, [.ref (n + 8), .int 0, .int 60])), .inl (60, fun _ => 0), .inr (.inr (5, [.int 1, .int 0, .int 0, .int 32, .int 0, .int ((-1)), .int 0, .int 0, .ref (n + 10), .ref (n + 12), .ref (n + 14), .int ((-1)), .int 0, .int ((-1)), .int 0])), .inr (.inr (4, [.ref (n + 11), .int 0, .int 60])), .inl (60, fun _ => 0), .inr (.inr (4, [.ref (n + 13), .int 0, .int 60])), .inl (60, fun _ => 0), .inr (.inr (4, [.ref (n + 15), .int 0, .int 60])), .inl (60, fun _ => 0), .inr (.inr (6, [.int 1, .int 0, .int 0, .ref (n + 17), .ref (n + 18), .ref (n + 19), .int 0, .int ((-1)), .int 0, .int 0])), .inl (24, fun _ => 0), .inl (24, fun _ => 0), .inl (24, fun _ => 0), .inr (.inr (4, [.ref (n + 21), .int 0, .int 64])), .inl (64, fun _ => 0), .inr (.inr (4, [.ref (n + 23), .int 0, .int 64])), .inl (64, fun _ => 0), .inr (.inr (2, [.ref (n + 25), .ref (n + 32), .ref (n + 39), .int 0, .int 0, .int 0, .int 0, .int 0, .ref (n + 43), .ref (n + 45), .null, .int 3, .int 0, .int ((-1)), .int 0, .int 0, .int 0, .int 0])), .inr (.inr (5, [.int 0, .int 0, .int 0, .int 32, .int 0, .int ((-1)), .int 0, .int 0, .ref (n + 26), .ref (n + 28), .ref (n + 30), .int ((-1)), .int 0, .int ((-1)), .int 0])), .inr (.inr (4, [.ref (n + 27), .int 0, .int 60])), .inl (60, fun _ => 0), .inr (.inr (4, [.ref (n + 29), .int 0, .int 60])), .inl (60, fun _ => 0), .inr (.inr (4, [.ref (n + 31), .int 0, .int 60])), .inl (60, fun _ => 0), .inr (.inr (5, [.int 1, .int 0, .int 0, .int 32, .int 0, .int ((-1)), .int 0, .int 0, .ref (n + 33), .ref (n + 35), .ref (n + 37), .int ((-1)), .int 0, .int ((-1)), .int 0])), .inr (.inr (4, [.ref (n + 34), .int 0, .int 60])), .inl (60, fun _ => 0), .inr (.inr (4, [.ref (n + 36), .int 0, .int 60])), .inl (60, fun _ => 0), .inr (.inr (4, [.ref (n + 38), .int 0, .int 60])), .inl (60, fun _ => 0), .inr (.inr (6, [.int 1, .int 0, .int 0, .ref (n + 40), .ref (n + 41), .ref (n + 42), .int 0, .int ((-1)), .int 0, .int 0])), .inl (24, fun _ => 0), .inl (24, fun _ => 0), .inl (24, fun _ => 0), .inr (.inr (4, [.ref (n + 44), .int 0, .int 64])), .inl (64, fun _ => 0), .inr (.inr (4, [.ref (n + 46), .int 0, .int 64])), .inl (64, fun _ => 0)]) C fX0_20 dX0_init_25 rfl (gapp_new hn rfl) (Nat.le_of_ble_eq_true rfl) (Or.inr rfl) rfl rfl (by intro z h; cases h) rfl (gapp_set hn) ?_
  refine g_aload_n (q := 29) C dX0_init_28 rfl rfl ?_
  refine g_new (q := 32) (k := n + 47) C nX0_9 dX0_init_29 rfl (by rw [List.length_append, hn]; rfl) (Nat.le_of_ble_eq_true rfl) (Nat.le_of_ble_eq_true rfl) ?_
  refine g_heap (hp2 := hp ++ [.inr (.inr (0, [.ref (n + 1), .ref (n + 24), .null, .int 0, .null, .null, .null])), .inr (.inr (2, [.ref (n + 2), .ref (n + 9), .ref (n + 16), .int 0, .int 0, .int 0, .int 0, .int 0, .ref (n + 20), .ref (n + 22), .null, .int 3, .int 0, .int ((-1)), .int 0, .int 0, .int 0, .int 0])), .inr (.inr (5, [.int 0, .int 0, .int 0, .int 32, .int 0, .int ((-1)), .int 0, .int 0, .ref (n + 3), .ref (n + 5), .ref (n + 7), .int ((-1)), .int 0, .int ((-1)), .int 0])), .inr (.inr (4, [.ref (n + 4), .int 0, .int 60])), .inl (60, fun _ => 0), .inr (.inr (4, [.ref (n + 6), .int 0, .int 60])), .inl (60, fun _ => 0), .inr (.inr (4, [.ref (n + 8), .int 0, .int 60])), .inl (60, fun _ => 0), .inr (.inr (5, [.int 1, .int 0, .int 0, .int 32, .int 0, .int ((-1)), .int 0, .int 0, .ref (n + 10), .ref (n + 12), .ref (n + 14), .int ((-1)), .int 0, .int ((-1)), .int 0])), .inr (.inr (4, [.ref (n + 11), .int 0, .int 60])), .inl (60, fun _ => 0), .inr (.inr (4, [.ref (n + 13), .int 0, .int 60])), .inl (60, fun _ => 0), .inr (.inr (4, [.ref (n + 15), .int 0, .int 60])), .inl (60, fun _ => 0), .inr (.inr (6, [.int 1, .int 0, .int 0, .ref (n + 17), .ref (n + 18), .ref (n + 19), .int 0, .int ((-1)), .int 0, .int 0])), .inl (24, fun _ => 0), .inl (24, fun _ => 0), .inl (24, fun _ => 0), .inr (.inr (4, [.ref (n + 21), .int 0, .int 64])), .inl (64, fun _ => 0), .inr (.inr (4, [.ref (n + 23), .int 0, .int 64])), .inl (64, fun _ => 0), .inr (.inr (2, [.ref (n + 25), .ref (n + 32), .ref (n + 39), .int 0, .int 0, .int 0, .int 0, .int 0, .ref (n + 43), .ref (n + 45), .null, .int 3, .int 0, .int ((-1)), .int 0, .int 0, .int 0, .int 0])), .inr (.inr (5, [.int 0, .int 0, .int 0, .int 32, .int 0, .int ((-1)), .int 0, .int 0, .ref (n + 26), .ref (n + 28), .ref (n + 30), .int ((-1)), .int 0, .int ((-1)), .int 0])), .inr (.inr (4, [.ref (n + 27), .int 0, .int 60])), .inl (60, fun _ => 0), .inr (.inr (4, [.ref (n + 29), .int 0, .int 60])), .inl (60, fun _ => 0), .inr (.inr (4, [.ref (n + 31), .int 0, .int 60])), .inl (60, fun _ => 0), .inr (.inr (5, [.int 1, .int 0, .int 0, .int 32, .int 0, .int ((-1)), .int 0, .int 0, .ref (n + 33), .ref (n + 35), .ref (n + 37), .int ((-1)), .int 0, .int ((-1)), .int 0])), .inr (.inr (4, [.ref (n + 34), .int 0, .int 60])), .inl (60, fun _ => 0), .inr (.inr (4, [.ref (n + 36), .int 0, .int 60])), .inl (60, fun _ => 0), .inr (.inr (4, [.ref (n + 38), .int 0, .int 60])), .inl (60, fun _ => 0), .inr (.inr (6, [.int 1, .int 0, .int 0, .ref (n + 40), .ref (n + 41), .ref (n + 42), .int 0, .int ((-1)), .int 0, .int 0])), .inl (24, fun _ => 0), .inl (24, fun _ => 0), .inl (24, fun _ => 0), .inr (.inr (4, [.ref (n + 44), .int 0, .int 64])), .inl (64, fun _ => 0), .inr (.inr (4, [.ref (n + 46), .int 0, .int 64])), .inl (64, fun _ => 0), .inr (.inr (2, [.null, .null, .null, .int 0, .int 0, .int 0, .int 0, .int 0, .null, .null, .null, .int 0, .int 0, .int 0, .int 0, .int 0, .int 0, .int 0]))]) (by simp only [List.append_assoc, List.cons_append, List.nil_append]) ?_
  refine g_dup (q := 33) C dX0_init_32 rfl rfl ?_
  refine g_null (q := 34) C dX0_init_33 rfl ?_
  refine g_heap (hp2 := (hp ++ [.inr (.inr (0, [.ref (n + 1), .ref (n + 24), .null, .int 0, .null, .null, .null])), .inr (.inr (2, [.ref (n + 2), .ref (n + 9), .ref (n + 16), .int 0, .int 0, .int 0, .int 0, .int 0, .ref (n + 20), .ref (n + 22), .null, .int 3, .int 0, .int ((-1)), .int 0, .int 0, .int 0, .int 0])), .inr (.inr (5, [.int 0, .int 0, .int 0, .int 32, .int 0, .int ((-1)), .int 0, .int 0, .ref (n + 3), .ref (n + 5), .ref (n + 7), .int ((-1)), .int 0, .int ((-1)), .int 0])), .inr (.inr (4, [.ref (n + 4), .int 0, .int 60])), .inl (60, fun _ => 0), .inr (.inr (4, [.ref (n + 6), .int 0, .int 60])), .inl (60, fun _ => 0), .inr (.inr (4, [.ref (n + 8), .int 0, .int 60])), .inl (60, fun _ => 0), .inr (.inr (5, [.int 1, .int 0, .int 0, .int 32, .int 0, .int ((-1)), .int 0, .int 0, .ref (n + 10), .ref (n + 12), .ref (n + 14), .int ((-1)), .int 0, .int ((-1)), .int 0])), .inr (.inr (4, [.ref (n + 11), .int 0, .int 60])), .inl (60, fun _ => 0), .inr (.inr (4, [.ref (n + 13), .int 0, .int 60])), .inl (60, fun _ => 0), .inr (.inr (4, [.ref (n + 15), .int 0, .int 60])), .inl (60, fun _ => 0), .inr (.inr (6, [.int 1, .int 0, .int 0, .ref (n + 17), .ref (n + 18), .ref (n + 19), .int 0, .int ((-1)), .int 0, .int 0])), .inl (24, fun _ => 0), .inl (24, fun _ => 0), .inl (24, fun _ => 0), .inr (.inr (4, [.ref (n + 21), .int 0, .int 64])), .inl (64, fun _ => 0), .inr (.inr (4, [.ref (n + 23), .int 0, .int 64])), .inl (64, fun _ => 0), .inr (.inr (2, [.ref (n + 25), .ref (n + 32), .ref (n + 39), .int 0, .int 0, .int 0, .int 0, .int 0, .ref (n + 43), .ref (n + 45), .null, .int 3, .int 0, .int ((-1)), .int 0, .int 0, .int 0, .int 0])), .inr (.inr (5, [.int 0, .int 0, .int 0, .int 32, .int 0, .int ((-1)), .int 0, .int 0, .ref (n + 26), .ref (n + 28), .ref (n + 30), .int ((-1)), .int 0, .int ((-1)), .int 0])), .inr (.inr (4, [.ref (n + 27), .int 0, .int 60])), .inl (60, fun _ => 0), .inr (.inr (4, [.ref (n + 29), .int 0, .int 60])), .inl (60, fun _ => 0), .inr (.inr (4, [.ref (n + 31), .int 0, .int 60])), .inl (60, fun _ => 0), .inr (.inr (5, [.int 1, .int 0, .int 0, .int 32, .int 0, .int ((-1)), .int 0, .int 0, .ref (n + 33), .ref (n + 35), .ref (n + 37), .int ((-1)), .int 0, .int ((-1)), .int 0])), .inr (.inr (4, [.ref (n + 34), .int 0, .int 60])), .inl (60, fun _ => 0), .inr (.inr (4, [.ref (n + 36), .int 0, .int 60])), .inl (60, fun _ => 0), .inr (.inr (4, [.ref (n + 38), .int 0, .int 60])), .inl (60, fun _ => 0), .inr (.inr (6, [.int 1, .int 0, .int 0, .ref (n + 40), .ref (n + 41), .ref (n + 42), .int 0, .int ((-1)), .int 0, .int 0])), .inl (24, fun _ => 0), .inl (24, fun _ => 0), .inl (24, fun _ => 0), .inr (.inr (4, [.ref (n + 44), .int 0, .int 64])), .inl (64, fun _ => 0), .inr (.inr (4, [.ref (n + 46), .int 0, .int 64])), .inl (64, fun _ => 0)]) ++ [.inr (.inr (2, [.null, .null, .null, .int 0, .int 0, .int 0, .int 0, .int 0, .null, .null, .null, .int 0, .int 0, .int 0, .int 0, .int 0, .int 0, .int 0]))]) (by simp only [List.append_assoc, List.cons_append, List.nil_append]) ?_
  refine g_callIv (q := 37) (As := [.null]) C gyX2_init giX2_init rfl t_307 (c_X2_init_n (n := n + 47) (by rw [List.length_append, hn]; rfl)) dX0_init_34 rfl rfl rfl (Nat.le_of_ble_eq_true rfl) (Nat.le_of_ble_eq_true rfl) (Nat.le_of_ble_eq_true rfl) (Nat.le_of_ble_eq_true rfl) (Nat.le_of_ble_eq_true rfl) rfl ?_
  refine g_heap (hp2 := hp ++ [.inr (.inr (0, [.ref (n + 1), .ref (n + 24), .null, .int 0, .null, .null, .null])), .inr (.inr (2, [.ref (n + 2), .ref (n + 9), .ref (n + 16), .int 0, .int 0, .int 0, .int 0, .int 0, .ref (n + 20), .ref (n + 22), .null, .int 3, .int 0, .int ((-1)), .int 0, .int 0, .int 0, .int 0])), .inr (.inr (5, [.int 0, .int 0, .int 0, .int 32, .int 0, .int ((-1)), .int 0, .int 0, .ref (n + 3), .ref (n + 5), .ref (n + 7), .int ((-1)), .int 0, .int ((-1)), .int 0])), .inr (.inr (4, [.ref (n + 4), .int 0, .int 60])), .inl (60, fun _ => 0), .inr (.inr (4, [.ref (n + 6), .int 0, .int 60])), .inl (60, fun _ => 0), .inr (.inr (4, [.ref (n + 8), .int 0, .int 60])), .inl (60, fun _ => 0), .inr (.inr (5, [.int 1, .int 0, .int 0, .int 32, .int 0, .int ((-1)), .int 0, .int 0, .ref (n + 10), .ref (n + 12), .ref (n + 14), .int ((-1)), .int 0, .int ((-1)), .int 0])), .inr (.inr (4, [.ref (n + 11), .int 0, .int 60])), .inl (60, fun _ => 0), .inr (.inr (4, [.ref (n + 13), .int 0, .int 60])), .inl (60, fun _ => 0), .inr (.inr (4, [.ref (n + 15), .int 0, .int 60])), .inl (60, fun _ => 0), .inr (.inr (6, [.int 1, .int 0, .int 0, .ref (n + 17), .ref (n + 18), .ref (n + 19), .int 0, .int ((-1)), .int 0, .int 0])), .inl (24, fun _ => 0), .inl (24, fun _ => 0), .inl (24, fun _ => 0), .inr (.inr (4, [.ref (n + 21), .int 0, .int 64])), .inl (64, fun _ => 0), .inr (.inr (4, [.ref (n + 23), .int 0, .int 64])), .inl (64, fun _ => 0), .inr (.inr (2, [.ref (n + 25), .ref (n + 32), .ref (n + 39), .int 0, .int 0, .int 0, .int 0, .int 0, .ref (n + 43), .ref (n + 45), .null, .int 3, .int 0, .int ((-1)), .int 0, .int 0, .int 0, .int 0])), .inr (.inr (5, [.int 0, .int 0, .int 0, .int 32, .int 0, .int ((-1)), .int 0, .int 0, .ref (n + 26), .ref (n + 28), .ref (n + 30), .int ((-1)), .int 0, .int ((-1)), .int 0])), .inr (.inr (4, [.ref (n + 27), .int 0, .int 60])), .inl (60, fun _ => 0), .inr (.inr (4, [.ref (n + 29), .int 0, .int 60])), .inl (60, fun _ => 0), .inr (.inr (4, [.ref (n + 31), .int 0, .int 60])), .inl (60, fun _ => 0), .inr (.inr (5, [.int 1, .int 0, .int 0, .int 32, .int 0, .int ((-1)), .int 0, .int 0, .ref (n + 33), .ref (n + 35), .ref (n + 37), .int ((-1)), .int 0, .int ((-1)), .int 0])), .inr (.inr (4, [.ref (n + 34), .int 0, .int 60])), .inl (60, fun _ => 0), .inr (.inr (4, [.ref (n + 36), .int 0, .int 60])), .inl (60, fun _ => 0), .inr (.inr (4, [.ref (n + 38), .int 0, .int 60])), .inl (60, fun _ => 0), .inr (.inr (6, [.int 1, .int 0, .int 0, .ref (n + 40), .ref (n + 41), .ref (n + 42), .int 0, .int ((-1)), .int 0, .int 0])), .inl (24, fun _ => 0), .inl (24, fun _ => 0), .inl (24, fun _ => 0), .inr (.inr (4, [.ref (n + 44), .int 0, .int 64])), .inl (64, fun _ => 0), .inr (.inr (4, [.ref (n + 46), .int 0, .int 64])), .inl (64, fun _ => 0), .inr (.inr (2, [.ref (n + 48), .ref (n + 55), .ref (n + 62), .int 0, .int 0, .int 0, .int 0, .int 0, .ref (n + 66), .ref (n + 68), .null, .int 3, .int 0, .int ((-1)), .int 0, .int 0, .int 0, .int 0])), .inr (.inr (5, [.int 0, .int 0, .int 0, .int 32, .int 0, .int ((-1)), .int 0, .int 0, .ref (n + 49), .ref (n + 51), .ref (n + 53), .int ((-1)), .int 0, .int ((-1)), .int 0])), .inr (.inr (4, [.ref (n + 50), .int 0, .int 60])), .inl (60, fun _ => 0), .inr (.inr (4, [.ref (n + 52), .int 0, .int 60])), .inl (60, fun _ => 0), .inr (.inr (4, [.ref (n + 54), .int 0, .int 60])), .inl (60, fun _ => 0), .inr (.inr (5, [.int 1, .int 0, .int 0, .int 32, .int 0, .int ((-1)), .int 0, .int 0, .ref (n + 56), .ref (n + 58), .ref (n + 60), .int ((-1)), .int 0, .int ((-1)), .int 0])), .inr (.inr (4, [.ref (n + 57), .int 0, .int 60])), .inl (60, fun _ => 0), .inr (.inr (4, [.ref (n + 59), .int 0, .int 60])), .inl (60, fun _ => 0), .inr (.inr (4, [.ref (n + 61), .int 0, .int 60])), .inl (60, fun _ => 0), .inr (.inr (6, [.int 1, .int 0, .int 0, .ref (n + 63), .ref (n + 64), .ref (n + 65), .int 0, .int ((-1)), .int 0, .int 0])), .inl (24, fun _ => 0), .inl (24, fun _ => 0), .inl (24, fun _ => 0), .inr (.inr (4, [.ref (n + 67), .int 0, .int 64])), .inl (64, fun _ => 0), .inr (.inr (4, [.ref (n + 69), .int 0, .int 64])), .inl (64, fun _ => 0)]) (by simp only [List.append_assoc, List.cons_append, List.nil_append, Nat.add_assoc, Nat.reduceAdd, Nat.add_zero]) ?_
  refine g_putE (q := 40) (hp' := hp ++ [.inr (.inr (0, [.ref (n + 1), .ref (n + 24), .ref (n + 47), .int 0, .null, .null, .null])), .inr (.inr (2, [.ref (n + 2), .ref (n + 9), .ref (n + 16), .int 0, .int 0, .int 0, .int 0, .int 0, .ref (n + 20), .ref (n + 22), .null, .int 3, .int 0, .int ((-1)), .int 0, .int 0, .int 0, .int 0])), .inr (.inr (5, [.int 0, .int 0, .int 0, .int 32, .int 0, .int ((-1)), .int 0, .int 0, .ref (n + 3), .ref (n + 5), .ref (n + 7), .int ((-1)), .int 0, .int ((-1)), .int 0])), .inr (.inr (4, [.ref (n + 4), .int 0, .int 60])), .inl (60, fun _ => 0), .inr (.inr (4, [.ref (n + 6), .int 0, .int 60])), .inl (60, fun _ => 0), .inr (.inr (4, [.ref (n + 8), .int 0, .int 60])), .inl (60, fun _ => 0), .inr (.inr (5, [.int 1, .int 0, .int 0, .int 32, .int 0, .int ((-1)), .int 0, .int 0, .ref (n + 10), .ref (n + 12), .ref (n + 14), .int ((-1)), .int 0, .int ((-1)), .int 0])), .inr (.inr (4, [.ref (n + 11), .int 0, .int 60])), .inl (60, fun _ => 0), .inr (.inr (4, [.ref (n + 13), .int 0, .int 60])), .inl (60, fun _ => 0), .inr (.inr (4, [.ref (n + 15), .int 0, .int 60])), .inl (60, fun _ => 0), .inr (.inr (6, [.int 1, .int 0, .int 0, .ref (n + 17), .ref (n + 18), .ref (n + 19), .int 0, .int ((-1)), .int 0, .int 0])), .inl (24, fun _ => 0), .inl (24, fun _ => 0), .inl (24, fun _ => 0), .inr (.inr (4, [.ref (n + 21), .int 0, .int 64])), .inl (64, fun _ => 0), .inr (.inr (4, [.ref (n + 23), .int 0, .int 64])), .inl (64, fun _ => 0), .inr (.inr (2, [.ref (n + 25), .ref (n + 32), .ref (n + 39), .int 0, .int 0, .int 0, .int 0, .int 0, .ref (n + 43), .ref (n + 45), .null, .int 3, .int 0, .int ((-1)), .int 0, .int 0, .int 0, .int 0])), .inr (.inr (5, [.int 0, .int 0, .int 0, .int 32, .int 0, .int ((-1)), .int 0, .int 0, .ref (n + 26), .ref (n + 28), .ref (n + 30), .int ((-1)), .int 0, .int ((-1)), .int 0])), .inr (.inr (4, [.ref (n + 27), .int 0, .int 60])), .inl (60, fun _ => 0), .inr (.inr (4, [.ref (n + 29), .int 0, .int 60])), .inl (60, fun _ => 0), .inr (.inr (4, [.ref (n + 31), .int 0, .int 60])), .inl (60, fun _ => 0), .inr (.inr (5, [.int 1, .int 0, .int 0, .int 32, .int 0, .int ((-1)), .int 0, .int 0, .ref (n + 33), .ref (n + 35), .ref (n + 37), .int ((-1)), .int 0, .int ((-1)), .int 0])), .inr (.inr (4, [.ref (n + 34), .int 0, .int 60])), .inl (60, fun _ => 0), .inr (.inr (4, [.ref (n + 36), .int 0, .int 60])), .inl (60, fun _ => 0), .inr (.inr (4, [.ref (n + 38), .int 0, .int 60])), .inl (60, fun _ => 0), .inr (.inr (6, [.int 1, .int 0, .int 0, .ref (n + 40), .ref (n + 41), .ref (n + 42), .int 0, .int ((-1)), .int 0, .int 0])), .inl (24, fun _ => 0), .inl (24, fun _ => 0), .inl (24, fun _ => 0), .inr (.inr (4, [.ref (n + 44), .int 0, .int 64])), .inl (64, fun _ => 0), .inr (.inr (4, [.ref (n + 46), .int 0, .int 64])), .inl (64, fun _ => 0), .inr (.inr (2, [.ref (n + 48), .ref (n + 55), .ref (n + 62), .int 0, .int 0, .int 0, .int 0, .int 0, .ref (n + 66), .ref (n + 68), .null, .int 3, .int 0, .int ((-1)), .int 0, .int 0, .int 0, .int 0])), .inr (.inr (5, [.int 0, .int 0, .int 0, .int 32, .int 0, .int ((-1)), .int 0, .int 0, .ref (n + 49), .ref (n + 51), .ref (n + 53), .int ((-1)), .int 0, .int ((-1)), .int 0])), .inr (.inr (4, [.ref (n + 50), .int 0, .int 60])), .inl (60, fun _ => 0), .inr (.inr (4, [.ref (n + 52), .int 0, .int 60])), .inl (60, fun _ => 0), .inr (.inr (4, [.ref (n + 54), .int 0, .int 60])), .inl (60, fun _ => 0), .inr (.inr (5, [.int 1, .int 0, .int 0, .int 32, .int 0, .int ((-1)), .int 0, .int 0, .ref (n + 56), .ref (n + 58), .ref (n + 60), .int ((-1)), .int 0, .int ((-1)), .int 0])), .inr (.inr (4, [.ref (n + 57), .int 0, .int 60])), .inl (60, fun _ => 0), .inr (.inr (4, [.ref (n + 59), .int 0, .int 60])), .inl (60, fun _ => 0), .inr (.inr (4, [.ref (n + 61), .int 0, .int 60])), .inl (60, fun _ => 0), .inr (.inr (6, [.int 1, .int 0, .int 0, .ref (n + 63), .ref (n + 64), .ref (n + 65), .int 0, .int ((-1)), .int 0, .int 0])), .inl (24, fun _ => 0), .inl (24, fun _ => 0), .inl (24, fun _ => 0), .inr (.inr (4, [.ref (n + 67), .int 0, .int 64])), .inl (64, fun _ => 0), .inr (.inr (4, [.ref (n + 69), .int 0, .int 64])), .inl (64, fun _ => 0)]) C fX0_23 dX0_init_37 rfl (gapp_new hn rfl) (Nat.le_of_ble_eq_true rfl) (Or.inr rfl) rfl rfl (by intro z h; cases h) rfl (gapp_set hn) ?_
  refine g_aload_n (q := 41) C dX0_init_40 rfl rfl ?_
  refine g_iconst (v := 0) (q := 42) C dX0_init_41 (by decide) rfl ?_
  refine g_putE (q := 45) (hp' := hp ++ [.inr (.inr (0, [.ref (n + 1), .ref (n + 24), .ref (n + 47), .int 0, .null, .null, .null])), .inr (.inr (2, [.ref (n + 2), .ref (n + 9), .ref (n + 16), .int 0, .int 0, .int 0, .int 0, .int 0, .ref (n + 20), .ref (n + 22), .null, .int 3, .int 0, .int ((-1)), .int 0, .int 0, .int 0, .int 0])), .inr (.inr (5, [.int 0, .int 0, .int 0, .int 32, .int 0, .int ((-1)), .int 0, .int 0, .ref (n + 3), .ref (n + 5), .ref (n + 7), .int ((-1)), .int 0, .int ((-1)), .int 0])), .inr (.inr (4, [.ref (n + 4), .int 0, .int 60])), .inl (60, fun _ => 0), .inr (.inr (4, [.ref (n + 6), .int 0, .int 60])), .inl (60, fun _ => 0), .inr (.inr (4, [.ref (n + 8), .int 0, .int 60])), .inl (60, fun _ => 0), .inr (.inr (5, [.int 1, .int 0, .int 0, .int 32, .int 0, .int ((-1)), .int 0, .int 0, .ref (n + 10), .ref (n + 12), .ref (n + 14), .int ((-1)), .int 0, .int ((-1)), .int 0])), .inr (.inr (4, [.ref (n + 11), .int 0, .int 60])), .inl (60, fun _ => 0), .inr (.inr (4, [.ref (n + 13), .int 0, .int 60])), .inl (60, fun _ => 0), .inr (.inr (4, [.ref (n + 15), .int 0, .int 60])), .inl (60, fun _ => 0), .inr (.inr (6, [.int 1, .int 0, .int 0, .ref (n + 17), .ref (n + 18), .ref (n + 19), .int 0, .int ((-1)), .int 0, .int 0])), .inl (24, fun _ => 0), .inl (24, fun _ => 0), .inl (24, fun _ => 0), .inr (.inr (4, [.ref (n + 21), .int 0, .int 64])), .inl (64, fun _ => 0), .inr (.inr (4, [.ref (n + 23), .int 0, .int 64])), .inl (64, fun _ => 0), .inr (.inr (2, [.ref (n + 25), .ref (n + 32), .ref (n + 39), .int 0, .int 0, .int 0, .int 0, .int 0, .ref (n + 43), .ref (n + 45), .null, .int 3, .int 0, .int ((-1)), .int 0, .int 0, .int 0, .int 0])), .inr (.inr (5, [.int 0, .int 0, .int 0, .int 32, .int 0, .int ((-1)), .int 0, .int 0, .ref (n + 26), .ref (n + 28), .ref (n + 30), .int ((-1)), .int 0, .int ((-1)), .int 0])), .inr (.inr (4, [.ref (n + 27), .int 0, .int 60])), .inl (60, fun _ => 0), .inr (.inr (4, [.ref (n + 29), .int 0, .int 60])), .inl (60, fun _ => 0), .inr (.inr (4, [.ref (n + 31), .int 0, .int 60])), .inl (60, fun _ => 0), .inr (.inr (5, [.int 1, .int 0, .int 0, .int 32, .int 0, .int ((-1)), .int 0, .int 0, .ref (n + 33), .ref (n + 35), .ref (n + 37), .int ((-1)), .int 0, .int ((-1)), .int 0])), .inr (.inr (4, [.ref (n + 34), .int 0, .int 60])), .inl (60, fun _ => 0), .inr (.inr (4, [.ref (n + 36), .int 0, .int 60])), .inl (60, fun _ => 0), .inr (.inr (4, [.ref (n + 38), .int 0, .int 60])), .inl (60, fun _ => 0), .inr (.inr (6, [.int 1, .int 0, .int 0, .ref (n + 40), .ref (n + 41), .ref (n + 42), .int 0, .int ((-1)), .int 0, .int 0])), .inl (24, fun _ => 0), .inl (24, fun _ => 0), .inl (24, fun _ => 0), .inr (.inr (4, [.ref (n + 44), .int 0, .int 64])), .inl (64, fun _ => 0), .inr (.inr (4, [.ref (n + 46), .int 0, .int 64])), .inl (64, fun _ => 0), .inr (.inr (2, [.ref (n + 48), .ref (n + 55), .ref (n + 62), .int 0, .int 0, .int 0, .int 0, .int 0, .ref (n + 66), .ref (n + 68), .null, .int 3, .int 0, .int ((-1)), .int 0, .int 0, .int 0, .int 0])), .inr (.inr (5, [.int 0, .int 0, .int 0, .int 32, .int 0, .int ((-1)), .int 0, .int 0, .ref (n + 49), .ref (n + 51), .ref (n + 53), .int ((-1)), .int 0, .int ((-1)), .int 0])), .inr (.inr (4, [.ref (n + 50), .int 0, .int 60])), .inl (60, fun _ => 0), .inr (.inr (4, [.ref (n + 52), .int 0, .int 60])), .inl (60, fun _ => 0), .inr (.inr (4, [.ref (n + 54), .int 0, .int 60])), .inl (60, fun _ => 0), .inr (.inr (5, [.int 1, .int 0, .int 0, .int 32, .int 0, .int ((-1)), .int 0, .int 0, .ref (n + 56), .ref (n + 58), .ref (n + 60), .int ((-1)), .int 0, .int ((-1)), .int 0])), .inr (.inr (4, [.ref (n + 57), .int 0, .int 60])), .inl (60, fun _ => 0), .inr (.inr (4, [.ref (n + 59), .int 0, .int 60])), .inl (60, fun _ => 0), .inr (.inr (4, [.ref (n + 61), .int 0, .int 60])), .inl (60, fun _ => 0), .inr (.inr (6, [.int 1, .int 0, .int 0, .ref (n + 63), .ref (n + 64), .ref (n + 65), .int 0, .int ((-1)), .int 0, .int 0])), .inl (24, fun _ => 0), .inl (24, fun _ => 0), .inl (24, fun _ => 0), .inr (.inr (4, [.ref (n + 67), .int 0, .int 64])), .inl (64, fun _ => 0), .inr (.inr (4, [.ref (n + 69), .int 0, .int 64])), .inl (64, fun _ => 0)]) C fX0_26 dX0_init_42 rfl (gapp_new hn rfl) (Nat.le_of_ble_eq_true rfl) (Or.inl rfl) rfl rfl (by intro z h; cases h) rfl (gapp_set hn) ?_
  refine g_aload_n (q := 46) C dX0_init_45 rfl rfl ?_
  refine g_iconst (v := 4) (q := 47) C dX0_init_46 (by decide) rfl ?_
  refine g_newarray (q := 49) (k := n + 70) (N := 4) C t_84 dX0_init_47 rfl (by rw [List.length_append, hn]; rfl) (by decide) (by decide) (by decide) (Nat.le_of_ble_eq_true rfl) (Nat.le_of_ble_eq_true rfl) ?_
  refine g_heap (hp2 := hp ++ [.inr (.inr (0, [.ref (n + 1), .ref (n + 24), .ref (n + 47), .int 0, .null, .null, .null])), .inr (.inr (2, [.ref (n + 2), .ref (n + 9), .ref (n + 16), .int 0, .int 0, .int 0, .int 0, .int 0, .ref (n + 20), .ref (n + 22), .null, .int 3, .int 0, .int ((-1)), .int 0, .int 0, .int 0, .int 0])), .inr (.inr (5, [.int 0, .int 0, .int 0, .int 32, .int 0, .int ((-1)), .int 0, .int 0, .ref (n + 3), .ref (n + 5), .ref (n + 7), .int ((-1)), .int 0, .int ((-1)), .int 0])), .inr (.inr (4, [.ref (n + 4), .int 0, .int 60])), .inl (60, fun _ => 0), .inr (.inr (4, [.ref (n + 6), .int 0, .int 60])), .inl (60, fun _ => 0), .inr (.inr (4, [.ref (n + 8), .int 0, .int 60])), .inl (60, fun _ => 0), .inr (.inr (5, [.int 1, .int 0, .int 0, .int 32, .int 0, .int ((-1)), .int 0, .int 0, .ref (n + 10), .ref (n + 12), .ref (n + 14), .int ((-1)), .int 0, .int ((-1)), .int 0])), .inr (.inr (4, [.ref (n + 11), .int 0, .int 60])), .inl (60, fun _ => 0), .inr (.inr (4, [.ref (n + 13), .int 0, .int 60])), .inl (60, fun _ => 0), .inr (.inr (4, [.ref (n + 15), .int 0, .int 60])), .inl (60, fun _ => 0), .inr (.inr (6, [.int 1, .int 0, .int 0, .ref (n + 17), .ref (n + 18), .ref (n + 19), .int 0, .int ((-1)), .int 0, .int 0])), .inl (24, fun _ => 0), .inl (24, fun _ => 0), .inl (24, fun _ => 0), .inr (.inr (4, [.ref (n + 21), .int 0, .int 64])), .inl (64, fun _ => 0), .inr (.inr (4, [.ref (n + 23), .int 0, .int 64])), .inl (64, fun _ => 0), .inr (.inr (2, [.ref (n + 25), .ref (n + 32), .ref (n + 39), .int 0, .int 0, .int 0, .int 0, .int 0, .ref (n + 43), .ref (n + 45), .null, .int 3, .int 0, .int ((-1)), .int 0, .int 0, .int 0, .int 0])), .inr (.inr (5, [.int 0, .int 0, .int 0, .int 32, .int 0, .int ((-1)), .int 0, .int 0, .ref (n + 26), .ref (n + 28), .ref (n + 30), .int ((-1)), .int 0, .int ((-1)), .int 0])), .inr (.inr (4, [.ref (n + 27), .int 0, .int 60])), .inl (60, fun _ => 0), .inr (.inr (4, [.ref (n + 29), .int 0, .int 60])), .inl (60, fun _ => 0), .inr (.inr (4, [.ref (n + 31), .int 0, .int 60])), .inl (60, fun _ => 0), .inr (.inr (5, [.int 1, .int 0, .int 0, .int 32, .int 0, .int ((-1)), .int 0, .int 0, .ref (n + 33), .ref (n + 35), .ref (n + 37), .int ((-1)), .int 0, .int ((-1)), .int 0])), .inr (.inr (4, [.ref (n + 34), .int 0, .int 60])), .inl (60, fun _ => 0), .inr (.inr (4, [.ref (n + 36), .int 0, .int 60])), .inl (60, fun _ => 0), .inr (.inr (4, [.ref (n + 38), .int 0, .int 60])), .inl (60, fun _ => 0), .inr (.inr (6, [.int 1, .int 0, .int 0, .ref (n + 40), .ref (n + 41), .ref (n + 42), .int 0, .int ((-1)), .int 0, .int 0])), .inl (24, fun _ => 0), .inl (24, fun _ => 0), .inl (24, fun _ => 0), .inr (.inr (4, [.ref (n + 44), .int 0, .int 64])), .inl (64, fun _ => 0), .inr (.inr (4, [.ref (n + 46), .int 0, .int 64])), .inl (64, fun _ => 0), .inr (.inr (2, [.ref (n + 48), .ref (n + 55), .ref (n + 62), .int 0, .int 0, .int 0, .int 0, .int 0, .ref (n + 66), .ref (n + 68), .null, .int 3, .int 0, .int ((-1)), .int 0, .int 0, .int 0, .int 0])), .inr (.inr (5, [.int 0, .int 0, .int 0, .int 32, .int 0, .int ((-1)), .int 0, .int 0, .ref (n + 49), .ref (n + 51), .ref (n + 53), .int ((-1)), .int 0, .int ((-1)), .int 0])), .inr (.inr (4, [.ref (n + 50), .int 0, .int 60])), .inl (60, fun _ => 0), .inr (.inr (4, [.ref (n + 52), .int 0, .int 60])), .inl (60, fun _ => 0), .inr (.inr (4, [.ref (n + 54), .int 0, .int 60])), .inl (60, fun _ => 0), .inr (.inr (5, [.int 1, .int 0, .int 0, .int 32, .int 0, .int ((-1)), .int 0, .int 0, .ref (n + 56), .ref (n + 58), .ref (n + 60), .int ((-1)), .int 0, .int ((-1)), .int 0])), .inr (.inr (4, [.ref (n + 57), .int 0, .int 60])), .inl (60, fun _ => 0), .inr (.inr (4, [.ref (n + 59), .int 0, .int 60])), .inl (60, fun _ => 0), .inr (.inr (4, [.ref (n + 61), .int 0, .int 60])), .inl (60, fun _ => 0), .inr (.inr (6, [.int 1, .int 0, .int 0, .ref (n + 63), .ref (n + 64), .ref (n + 65), .int 0, .int ((-1)), .int 0, .int 0])), .inl (24, fun _ => 0), .inl (24, fun _ => 0), .inl (24, fun _ => 0), .inr (.inr (4, [.ref (n + 67), .int 0, .int 64])), .inl (64, fun _ => 0), .inr (.inr (4, [.ref (n + 69), .int 0, .int 64])), .inl (64, fun _ => 0), .inl (4, fun _ => 0)]) (by simp only [List.append_assoc, List.cons_append, List.nil_append]) ?_
  refine g_putE (q := 52) (hp' := hp ++ [.inr (.inr (0, [.ref (n + 1), .ref (n + 24), .ref (n + 47), .int 0, .ref (n + 70), .null, .null])), .inr (.inr (2, [.ref (n + 2), .ref (n + 9), .ref (n + 16), .int 0, .int 0, .int 0, .int 0, .int 0, .ref (n + 20), .ref (n + 22), .null, .int 3, .int 0, .int ((-1)), .int 0, .int 0, .int 0, .int 0])), .inr (.inr (5, [.int 0, .int 0, .int 0, .int 32, .int 0, .int ((-1)), .int 0, .int 0, .ref (n + 3), .ref (n + 5), .ref (n + 7), .int ((-1)), .int 0, .int ((-1)), .int 0])), .inr (.inr (4, [.ref (n + 4), .int 0, .int 60])), .inl (60, fun _ => 0), .inr (.inr (4, [.ref (n + 6), .int 0, .int 60])), .inl (60, fun _ => 0), .inr (.inr (4, [.ref (n + 8), .int 0, .int 60])), .inl (60, fun _ => 0), .inr (.inr (5, [.int 1, .int 0, .int 0, .int 32, .int 0, .int ((-1)), .int 0, .int 0, .ref (n + 10), .ref (n + 12), .ref (n + 14), .int ((-1)), .int 0, .int ((-1)), .int 0])), .inr (.inr (4, [.ref (n + 11), .int 0, .int 60])), .inl (60, fun _ => 0), .inr (.inr (4, [.ref (n + 13), .int 0, .int 60])), .inl (60, fun _ => 0), .inr (.inr (4, [.ref (n + 15), .int 0, .int 60])), .inl (60, fun _ => 0), .inr (.inr (6, [.int 1, .int 0, .int 0, .ref (n + 17), .ref (n + 18), .ref (n + 19), .int 0, .int ((-1)), .int 0, .int 0])), .inl (24, fun _ => 0), .inl (24, fun _ => 0), .inl (24, fun _ => 0), .inr (.inr (4, [.ref (n + 21), .int 0, .int 64])), .inl (64, fun _ => 0), .inr (.inr (4, [.ref (n + 23), .int 0, .int 64])), .inl (64, fun _ => 0), .inr (.inr (2, [.ref (n + 25), .ref (n + 32), .ref (n + 39), .int 0, .int 0, .int 0, .int 0, .int 0, .ref (n + 43), .ref (n + 45), .null, .int 3, .int 0, .int ((-1)), .int 0, .int 0, .int 0, .int 0])), .inr (.inr (5, [.int 0, .int 0, .int 0, .int 32, .int 0, .int ((-1)), .int 0, .int 0, .ref (n + 26), .ref (n + 28), .ref (n + 30), .int ((-1)), .int 0, .int ((-1)), .int 0])), .inr (.inr (4, [.ref (n + 27), .int 0, .int 60])), .inl (60, fun _ => 0), .inr (.inr (4, [.ref (n + 29), .int 0, .int 60])), .inl (60, fun _ => 0), .inr (.inr (4, [.ref (n + 31), .int 0, .int 60])), .inl (60, fun _ => 0), .inr (.inr (5, [.int 1, .int 0, .int 0, .int 32, .int 0, .int ((-1)), .int 0, .int 0, .ref (n + 33), .ref (n + 35), .ref (n + 37), .int ((-1)), .int 0, .int ((-1)), .int 0])), .inr (.inr (4, [.ref (n + 34), .int 0, .int 60])), .inl (60, fun _ => 0), .inr (.inr (4, [.ref (n + 36), .int 0, .int 60])), .inl (60, fun _ => 0), .inr (.inr (4, [.ref (n + 38), .int 0, .int 60])), .inl (60, fun _ => 0), .inr (.inr (6, [.int 1, .int 0, .int 0, .ref (n + 40), .ref (n + 41), .ref (n + 42), .int 0, .int ((-1)), .int 0, .int 0])), .inl (24, fun _ => 0), .inl (24, fun _ => 0), .inl (24, fun _ => 0), .inr (.inr (4, [.ref (n + 44), .int 0, .int 64])), .inl (64, fun _ => 0), .inr (.inr (4, [.ref (n + 46), .int 0, .int 64])), .inl (64, fun _ => 0), .inr (.inr (2, [.ref (n + 48), .ref (n + 55), .ref (n + 62), .int 0, .int 0, .int 0, .int 0, .int 0, .ref (n + 66), .ref (n + 68), .null, .int 3, .int 0, .int ((-1)), .int 0, .int 0, .int 0, .int 0])), .inr (.inr (5, [.int 0, .int 0, .int 0, .int 32, .int 0, .int ((-1)), .int 0, .int 0, .ref (n + 49), .ref (n + 51), .ref (n + 53), .int ((-1)), .int 0, .int ((-1)), .int 0])), .inr (.inr (4, [.ref (n + 50), .int 0, .int 60])), .inl (60, fun _ => 0), .inr (.inr (4, [.ref (n + 52), .int 0, .int 60])), .inl (60, fun _ => 0), .inr (.inr (4, [.ref (n + 54), .int 0, .int 60])), .inl (60, fun _ => 0), .inr (.inr (5, [.int 1, .int 0, .int 0, .int 32, .int 0, .int ((-1)), .int 0, .int 0, .ref (n + 56), .ref (n + 58), .ref (n + 60), .int ((-1)), .int 0, .int ((-1)), .int 0])), .inr (.inr (4, [.ref (n + 57), .int 0, .int 60])), .inl (60, fun _ => 0), .inr (.inr (4, [.ref (n + 59), .int 0, .int 60])), .inl (60, fun _ => 0), .inr (.inr (4, [.ref (n + 61), .int 0, .int 60])), .inl (60, fun _ => 0), .inr (.inr (6, [.int 1, .int 0, .int 0, .ref (n + 63), .ref (n + 64), .ref (n + 65), .int 0, .int ((-1)), .int 0, .int 0])), .inl (24, fun _ => 0), .inl (24, fun _ => 0), .inl (24, fun _ => 0), .inr (.inr (4, [.ref (n + 67), .int 0, .int 64])), .inl (64, fun _ => 0), .inr (.inr (4, [.ref (n + 69), .int 0, .int 64])), .inl (64, fun _ => 0), .inl (4, fun _ => 0)]) C fX0_30 dX0_init_49 rfl (gapp_new hn rfl) (Nat.le_of_ble_eq_true rfl) (Or.inr rfl) rfl rfl (by intro z h; cases h) rfl (gapp_set hn) ?_
  refine g_aload_n (q := 53) C dX0_init_52 rfl rfl ?_
  refine g_iconst (v := 4) (q := 54) C dX0_init_53 (by decide) rfl ?_
  refine g_newarray (q := 56) (k := n + 71) (N := 4) C t_84 dX0_init_54 rfl (by rw [List.length_append, hn]; rfl) (by decide) (by decide) (by decide) (Nat.le_of_ble_eq_true rfl) (Nat.le_of_ble_eq_true rfl) ?_
  refine g_heap (hp2 := hp ++ [.inr (.inr (0, [.ref (n + 1), .ref (n + 24), .ref (n + 47), .int 0, .ref (n + 70), .null, .null])), .inr (.inr (2, [.ref (n + 2), .ref (n + 9), .ref (n + 16), .int 0, .int 0, .int 0, .int 0, .int 0, .ref (n + 20), .ref (n + 22), .null, .int 3, .int 0, .int ((-1)), .int 0, .int 0, .int 0, .int 0])), .inr (.inr (5, [.int 0, .int 0, .int 0, .int 32, .int 0, .int ((-1)), .int 0, .int 0, .ref (n + 3), .ref (n + 5), .ref (n + 7), .int ((-1)), .int 0, .int ((-1)), .int 0])), .inr (.inr (4, [.ref (n + 4), .int 0, .int 60])), .inl (60, fun _ => 0), .inr (.inr (4, [.ref (n + 6), .int 0, .int 60])), .inl (60, fun _ => 0), .inr (.inr (4, [.ref (n + 8), .int 0, .int 60])), .inl (60, fun _ => 0), .inr (.inr (5, [.int 1, .int 0, .int 0, .int 32, .int 0, .int ((-1)), .int 0, .int 0, .ref (n + 10), .ref (n + 12), .ref (n + 14), .int ((-1)), .int 0, .int ((-1)), .int 0])), .inr (.inr (4, [.ref (n + 11), .int 0, .int 60])), .inl (60, fun _ => 0), .inr (.inr (4, [.ref (n + 13), .int 0, .int 60])), .inl (60, fun _ => 0), .inr (.inr (4, [.ref (n + 15), .int 0, .int 60])), .inl (60, fun _ => 0), .inr (.inr (6, [.int 1, .int 0, .int 0, .ref (n + 17), .ref (n + 18), .ref (n + 19), .int 0, .int ((-1)), .int 0, .int 0])), .inl (24, fun _ => 0), .inl (24, fun _ => 0), .inl (24, fun _ => 0), .inr (.inr (4, [.ref (n + 21), .int 0, .int 64])), .inl (64, fun _ => 0), .inr (.inr (4, [.ref (n + 23), .int 0, .int 64])), .inl (64, fun _ => 0), .inr (.inr (2, [.ref (n + 25), .ref (n + 32), .ref (n + 39), .int 0, .int 0, .int 0, .int 0, .int 0, .ref (n + 43), .ref (n + 45), .null, .int 3, .int 0, .int ((-1)), .int 0, .int 0, .int 0, .int 0])), .inr (.inr (5, [.int 0, .int 0, .int 0, .int 32, .int 0, .int ((-1)), .int 0, .int 0, .ref (n + 26), .ref (n + 28), .ref (n + 30), .int ((-1)), .int 0, .int ((-1)), .int 0])), .inr (.inr (4, [.ref (n + 27), .int 0, .int 60])), .inl (60, fun _ => 0), .inr (.inr (4, [.ref (n + 29), .int 0, .int 60])), .inl (60, fun _ => 0), .inr (.inr (4, [.ref (n + 31), .int 0, .int 60])), .inl (60, fun _ => 0), .inr (.inr (5, [.int 1, .int 0, .int 0, .int 32, .int 0, .int ((-1)), .int 0, .int 0, .ref (n + 33), .ref (n + 35), .ref (n + 37), .int ((-1)), .int 0, .int ((-1)), .int 0])), .inr (.inr (4, [.ref (n + 34), .int 0, .int 60])), .inl (60, fun _ => 0), .inr (.inr (4, [.ref (n + 36), .int 0, .int 60])), .inl (60, fun _ => 0), .inr (.inr (4, [.ref (n + 38), .int 0, .int 60])), .inl (60, fun _ => 0), .inr (.inr (6, [.int 1, .int 0, .int 0, .ref (n + 40), .ref (n + 41), .ref (n + 42), .int 0, .int ((-1)), .int 0, .int 0])), .inl (24, fun _ => 0), .inl (24, fun _ => 0), .inl (24, fun _ => 0), .inr (.inr (4, [.ref (n + 44), .int 0, .int 64])), .inl (64, fun _ => 0), .inr (.inr (4, [.ref (n + 46), .int 0, .int 64])), .inl (64, fun _ => 0), .inr (.inr (2, [.ref (n + 48), .ref (n + 55), .ref (n + 62), .int 0, .int 0, .int 0, .int 0, .int 0, .ref (n + 66), .ref (n + 68), .null, .int 3, .int 0, .int ((-1)), .int 0, .int 0, .int 0, .int 0])), .inr (.inr (5, [.int 0, .int 0, .int 0, .int 32, .int 0, .int ((-1)), .int 0, .int 0, .ref (n + 49), .ref (n + 51), .ref (n + 53), .int ((-1)), .int 0, .int ((-1)), .int 0])), .inr (.inr (4, [.ref (n + 50), .int 0, .int 60])), .inl (60, fun _ => 0), .inr (.inr (4, [.ref (n + 52), .int 0, .int 60])), .inl (60, fun _ => 0), .inr (.inr (4, [.ref (n + 54), .int 0, .int 60])), .inl (60, fun _ => 0), .inr (.inr (5, [.int 1, .int 0, .int 0, .int 32, .int 0, .int ((-1)), .int 0, .int 0, .ref (n + 56), .ref (n + 58), .ref (n + 60), .int ((-1)), .int 0, .int ((-1)), .int 0])), .inr (.inr (4, [.ref (n + 57), .int 0, .int 60])), .inl (60, fun _ => 0), .inr (.inr (4, [.ref (n + 59), .int 0, .int 60])), .inl (60, fun _ => 0), .inr (.inr (4, [.ref (n + 61), .int 0, .int 60])), .inl (60, fun _ => 0), .inr (.inr (6, [.int 1, .int 0, .int 0, .ref (n + 63), .ref (n + 64), .ref (n + 65), .int 0, .int ((-1)), .int 0, .int 0])), .inl (24, fun _ => 0), .inl (24, fun _ => 0), .inl (24, fun _ => 0), .inr (.inr (4, [.ref (n + 67), .int 0, .int 64])), .inl (64, fun _ => 0), .inr (.inr (4, [.ref (n + 69), .int 0, .int 64])), .inl (64, fun _ => 0), .inl (4, fun _ => 0), .inl (4, fun _ => 0)]) (by simp only [List.append_assoc, List.cons_append, List.nil_append]) ?_
  refine g_putE (q := 59) (hp' := hp ++ [.inr (.inr (0, [.ref (n + 1), .ref (n + 24), .ref (n + 47), .int 0, .ref (n + 70), .ref (n + 71), .null])), .inr (.inr (2, [.ref (n + 2), .ref (n + 9), .ref (n + 16), .int 0, .int 0, .int 0, .int 0, .int 0, .ref (n + 20), .ref (n + 22), .null, .int 3, .int 0, .int ((-1)), .int 0, .int 0, .int 0, .int 0])), .inr (.inr (5, [.int 0, .int 0, .int 0, .int 32, .int 0, .int ((-1)), .int 0, .int 0, .ref (n + 3), .ref (n + 5), .ref (n + 7), .int ((-1)), .int 0, .int ((-1)), .int 0])), .inr (.inr (4, [.ref (n + 4), .int 0, .int 60])), .inl (60, fun _ => 0), .inr (.inr (4, [.ref (n + 6), .int 0, .int 60])), .inl (60, fun _ => 0), .inr (.inr (4, [.ref (n + 8), .int 0, .int 60])), .inl (60, fun _ => 0), .inr (.inr (5, [.int 1, .int 0, .int 0, .int 32, .int 0, .int ((-1)), .int 0, .int 0, .ref (n + 10), .ref (n + 12), .ref (n + 14), .int ((-1)), .int 0, .int ((-1)), .int 0])), .inr (.inr (4, [.ref (n + 11), .int 0, .int 60])), .inl (60, fun _ => 0), .inr (.inr (4, [.ref (n + 13), .int 0, .int 60])), .inl (60, fun _ => 0), .inr (.inr (4, [.ref (n + 15), .int 0, .int 60])), .inl (60, fun _ => 0), .inr (.inr (6, [.int 1, .int 0, .int 0, .ref (n + 17), .ref (n + 18), .ref (n + 19), .int 0, .int ((-1)), .int 0, .int 0])), .inl (24, fun _ => 0), .inl (24, fun _ => 0), .inl (24, fun _ => 0), .inr (.inr (4, [.ref (n + 21), .int 0, .int 64])), .inl (64, fun _ => 0), .inr (.inr (4, [.ref (n + 23), .int 0, .int 64])), .inl (64, fun _ => 0), .inr (.inr (2, [.ref (n + 25), .ref (n + 32), .ref (n + 39), .int 0, .int 0, .int 0, .int 0, .int 0, .ref (n + 43), .ref (n + 45), .null, .int 3, .int 0, .int ((-1)), .int 0, .int 0, .int 0, .int 0])), .inr (.inr (5, [.int 0, .int 0, .int 0, .int 32, .int 0, .int ((-1)), .int 0, .int 0, .ref (n + 26), .ref (n + 28), .ref (n + 30), .int ((-1)), .int 0, .int ((-1)), .int 0])), .inr (.inr (4, [.ref (n + 27), .int 0, .int 60])), .inl (60, fun _ => 0), .inr (.inr (4, [.ref (n + 29), .int 0, .int 60])), .inl (60, fun _ => 0), .inr (.inr (4, [.ref (n + 31), .int 0, .int 60])), .inl (60, fun _ => 0), .inr (.inr (5, [.int 1, .int 0, .int 0, .int 32, .int 0, .int ((-1)), .int 0, .int 0, .ref (n + 33), .ref (n + 35), .ref (n + 37), .int ((-1)), .int 0, .int ((-1)), .int 0])), .inr (.inr (4, [.ref (n + 34), .int 0, .int 60])), .inl (60, fun _ => 0), .inr (.inr (4, [.ref (n + 36), .int 0, .int 60])), .inl (60, fun _ => 0), .inr (.inr (4, [.ref (n + 38), .int 0, .int 60])), .inl (60, fun _ => 0), .inr (.inr (6, [.int 1, .int 0, .int 0, .ref (n + 40), .ref (n + 41), .ref (n + 42), .int 0, .int ((-1)), .int 0, .int 0])), .inl (24, fun _ => 0), .inl (24, fun _ => 0), .inl (24, fun _ => 0), .inr (.inr (4, [.ref (n + 44), .int 0, .int 64])), .inl (64, fun _ => 0), .inr (.inr (4, [.ref (n + 46), .int 0, .int 64])), .inl (64, fun _ => 0), .inr (.inr (2, [.ref (n + 48), .ref (n + 55), .ref (n + 62), .int 0, .int 0, .int 0, .int 0, .int 0, .ref (n + 66), .ref (n + 68), .null, .int 3, .int 0, .int ((-1)), .int 0, .int 0, .int 0, .int 0])), .inr (.inr (5, [.int 0, .int 0, .int 0, .int 32, .int 0, .int ((-1)), .int 0, .int 0, .ref (n + 49), .ref (n + 51), .ref (n + 53), .int ((-1)), .int 0, .int ((-1)), .int 0])), .inr (.inr (4, [.ref (n + 50), .int 0, .int 60])), .inl (60, fun _ => 0), .inr (.inr (4, [.ref (n + 52), .int 0, .int 60])), .inl (60, fun _ => 0), .inr (.inr (4, [.ref (n + 54), .int 0, .int 60])), .inl (60, fun _ => 0), .inr (.inr (5, [.int 1, .int 0, .int 0, .int 32, .int 0, .int ((-1)), .int 0, .int 0, .ref (n + 56), .ref (n + 58), .ref (n + 60), .int ((-1)), .int 0, .int ((-1)), .int 0])), .inr (.inr (4, [.ref (n + 57), .int 0, .int 60])), .inl (60, fun _ => 0), .inr (.inr (4, [.ref (n + 59), .int 0, .int 60])), .inl (60, fun _ => 0), .inr (.inr (4, [.ref (n + 61), .int 0, .int 60])), .inl (60, fun _ => 0), .inr (.inr (6, [.int 1, .int 0, .int 0, .ref (n + 63), .ref (n + 64), .ref (n + 65), .int 0, .int ((-1)), .int 0, .int 0])), .inl (24, fun _ => 0), .inl (24, fun _ => 0), .inl (24, fun _ => 0), .inr (.inr (4, [.ref (n + 67), .int 0, .int 64])), .inl (64, fun _ => 0), .inr (.inr (4, [.ref (n + 69), .int 0, .int 64])), .inl (64, fun _ => 0), .inl (4, fun _ => 0), .inl (4, fun _ => 0)]) C fX0_34 dX0_init_56 rfl (gapp_new hn rfl) (Nat.le_of_ble_eq_true rfl) (Or.inr rfl) rfl rfl (by intro z h; cases h) rfl (gapp_set hn) ?_
  refine g_aload_n (q := 60) C dX0_init_59 rfl rfl ?_
  refine g_iconst (v := 4) (q := 61) C dX0_init_60 (by decide) rfl ?_
  refine g_newarray (q := 63) (k := n + 72) (N := 4) C t_84 dX0_init_61 rfl (by rw [List.length_append, hn]; rfl) (by decide) (by decide) (by decide) (Nat.le_of_ble_eq_true rfl) (Nat.le_of_ble_eq_true rfl) ?_
  refine g_heap (hp2 := hp ++ [.inr (.inr (0, [.ref (n + 1), .ref (n + 24), .ref (n + 47), .int 0, .ref (n + 70), .ref (n + 71), .null])), .inr (.inr (2, [.ref (n + 2), .ref (n + 9), .ref (n + 16), .int 0, .int 0, .int 0, .int 0, .int 0, .ref (n + 20), .ref (n + 22), .null, .int 3, .int 0, .int ((-1)), .int 0, .int 0, .int 0, .int 0])), .inr (.inr (5, [.int 0, .int 0, .int 0, .int 32, .int 0, .int ((-1)), .int 0, .int 0, .ref (n + 3), .ref (n + 5), .ref (n + 7), .int ((-1)), .int 0, .int ((-1)), .int 0])), .inr (.inr (4, [.ref (n + 4), .int 0, .int 60])), .inl (60, fun _ => 0), .inr (.inr (4, [.ref (n + 6), .int 0, .int 60])), .inl (60, fun _ => 0), .inr (.inr (4, [.ref (n + 8), .int 0, .int 60])), .inl (60, fun _ => 0), .inr (.inr (5, [.int 1, .int 0, .int 0, .int 32, .int 0, .int ((-1)), .int 0, .int 0, .ref (n + 10), .ref (n + 12), .ref (n + 14), .int ((-1)), .int 0, .int ((-1)), .int 0])), .inr (.inr (4, [.ref (n + 11), .int 0, .int 60])), .inl (60, fun _ => 0), .inr (.inr (4, [.ref (n + 13), .int 0, .int 60])), .inl (60, fun _ => 0), .inr (.inr (4, [.ref (n + 15), .int 0, .int 60])), .inl (60, fun _ => 0), .inr (.inr (6, [.int 1, .int 0, .int 0, .ref (n + 17), .ref (n + 18), .ref (n + 19), .int 0, .int ((-1)), .int 0, .int 0])), .inl (24, fun _ => 0), .inl (24, fun _ => 0), .inl (24, fun _ => 0), .inr (.inr (4, [.ref (n + 21), .int 0, .int 64])), .inl (64, fun _ => 0), .inr (.inr (4, [.ref (n + 23), .int 0, .int 64])), .inl (64, fun _ => 0), .inr (.inr (2, [.ref (n + 25), .ref (n + 32), .ref (n + 39), .int 0, .int 0, .int 0, .int 0, .int 0, .ref (n + 43), .ref (n + 45), .null, .int 3, .int 0, .int ((-1)), .int 0, .int 0, .int 0, .int 0])), .inr (.inr (5, [.int 0, .int 0, .int 0, .int 32, .int 0, .int ((-1)), .int 0, .int 0, .ref (n + 26), .ref (n + 28), .ref (n + 30), .int ((-1)), .int 0, .int ((-1)), .int 0])), .inr (.inr (4, [.ref (n + 27), .int 0, .int 60])), .inl (60, fun _ => 0), .inr (.inr (4, [.ref (n + 29), .int 0, .int 60])), .inl (60, fun _ => 0), .inr (.inr (4, [.ref (n + 31), .int 0, .int 60])), .inl (60, fun _ => 0), .inr (.inr (5, [.int 1, .int 0, .int 0, .int 32, .int 0, .int ((-1)), .int 0, .int 0, .ref (n + 33), .ref (n + 35), .ref (n + 37), .int ((-1)), .int 0, .int ((-1)), .int 0])), .inr (.inr (4, [.ref (n + 34), .int 0, .int 60])), .inl (60, fun _ => 0), .inr (.inr (4, [.ref (n + 36), .int 0, .int 60])), .inl (60, fun _ => 0), .inr (.inr (4, [.ref (n + 38), .int 0, .int 60])), .inl (60, fun _ => 0), .inr (.inr (6, [.int 1, .int 0, .int 0, .ref (n + 40), .ref (n + 41), .ref (n + 42), .int 0, .int ((-1)), .int 0, .int 0])), .inl (24, fun _ => 0), .inl (24, fun _ => 0), .inl (24, fun _ => 0), .inr (.inr (4, [.ref (n + 44), .int 0, .int 64])), .inl (64, fun _ => 0), .inr (.inr (4, [.ref (n + 46), .int 0, .int 64])), .inl (64, fun _ => 0), .inr (.inr (2, [.ref (n + 48), .ref (n + 55), .ref (n + 62), .int 0, .int 0, .int 0, .int 0, .int 0, .ref (n + 66), .ref (n + 68), .null, .int 3, .int 0, .int ((-1)), .int 0, .int 0, .int 0, .int 0])), .inr (.inr (5, [.int 0, .int 0, .int 0, .int 32, .int 0, .int ((-1)), .int 0, .int 0, .ref (n + 49), .ref (n + 51), .ref (n + 53), .int ((-1)), .int 0, .int ((-1)), .int 0])), .inr (.inr (4, [.ref (n + 50), .int 0, .int 60])), .inl (60, fun _ => 0), .inr (.inr (4, [.ref (n + 52), .int 0, .int 60])), .inl (60, fun _ => 0), .inr (.inr (4, [.ref (n + 54), .int 0, .int 60])), .inl (60, fun _ => 0), .inr (.inr (5, [.int 1, .int 0, .int 0, .int 32, .int 0, .int ((-1)), .int 0, .int 0, .ref (n + 56), .ref (n + 58), .ref (n + 60), .int ((-1)), .int 0, .int ((-1)), .int 0])), .inr (.inr (4, [.ref (n + 57), .int 0, .int 60])), .inl (60, fun _ => 0), .inr (.inr (4, [.ref (n + 59), .int 0, .int 60])), .inl (60, fun _ => 0), .inr (.inr (4, [.ref (n + 61), .int 0, .int 60])), .inl (60, fun _ => 0), .inr (.inr (6, [.int 1, .int 0, .int 0, .ref (n + 63), .ref (n + 64), .ref (n + 65), .int 0, .int ((-1)), .int 0, .int 0])), .inl (24, fun _ => 0), .inl (24, fun _ => 0), .inl (24, fun _ => 0), .inr (.inr (4, [.ref (n + 67), .int 0, .int 64])), .inl (64, fun _ => 0), .inr (.inr (4, [.ref (n + 69), .int 0, .int 64])), .inl (64, fun _ => 0), .inl (4, fun _ => 0), .inl (4, fun _ => 0), .inl (4, fun _ => 0)]) (by simp only [List.append_assoc, List.cons_append, List.nil_append]) ?_
  refine g_putE (q := 66) (hp' := hp ++ [.inr (.inr (0, [.ref (n + 1), .ref (n + 24), .ref (n + 47), .int 0, .ref (n + 70), .ref (n + 71), .ref (n + 72)])), .inr (.inr (2, [.ref (n + 2), .ref (n + 9), .ref (n + 16), .int 0, .int 0, .int 0, .int 0, .int 0, .ref (n + 20), .ref (n + 22), .null, .int 3, .int 0, .int ((-1)), .int 0, .int 0, .int 0, .int 0])), .inr (.inr (5, [.int 0, .int 0, .int 0, .int 32, .int 0, .int ((-1)), .int 0, .int 0, .ref (n + 3), .ref (n + 5), .ref (n + 7), .int ((-1)), .int 0, .int ((-1)), .int 0])), .inr (.inr (4, [.ref (n + 4), .int 0, .int 60])), .inl (60, fun _ => 0), .inr (.inr (4, [.ref (n + 6), .int 0, .int 60])), .inl (60, fun _ => 0), .inr (.inr (4, [.ref (n + 8), .int 0, .int 60])), .inl (60, fun _ => 0), .inr (.inr (5, [.int 1, .int 0, .int 0, .int 32, .int 0, .int ((-1)), .int 0, .int 0, .ref (n + 10), .ref (n + 12), .ref (n + 14), .int ((-1)), .int 0, .int ((-1)), .int 0])), .inr (.inr (4, [.ref (n + 11), .int 0, .int 60])), .inl (60, fun _ => 0), .inr (.inr (4, [.ref (n + 13), .int 0, .int 60])), .inl (60, fun _ => 0), .inr (.inr (4, [.ref (n + 15), .int 0, .int 60])), .inl (60, fun _ => 0), .inr (.inr (6, [.int 1, .int 0, .int 0, .ref (n + 17), .ref (n + 18), .ref (n + 19), .int 0, .int ((-1)), .int 0, .int 0])), .inl (24, fun _ => 0), .inl (24, fun _ => 0), .inl (24, fun _ => 0), .inr (.inr (4, [.ref (n + 21), .int 0, .int 64])), .inl (64, fun _ => 0), .inr (.inr (4, [.ref (n + 23), .int 0, .int 64])), .inl (64, fun _ => 0), .inr (.inr (2, [.ref (n + 25), .ref (n + 32), .ref (n + 39), .int 0, .int 0, .int 0, .int 0, .int 0, .ref (n + 43), .ref (n + 45), .null, .int 3, .int 0, .int ((-1)), .int 0, .int 0, .int 0, .int 0])), .inr (.inr (5, [.int 0, .int 0, .int 0, .int 32, .int 0, .int ((-1)), .int 0, .int 0, .ref (n + 26), .ref (n + 28), .ref (n + 30), .int ((-1)), .int 0, .int ((-1)), .int 0])), .inr (.inr (4, [.ref (n + 27), .int 0, .int 60])), .inl (60, fun _ => 0), .inr (.inr (4, [.ref (n + 29), .int 0, .int 60])), .inl (60, fun _ => 0), .inr (.inr (4, [.ref (n + 31), .int 0, .int 60])), .inl (60, fun _ => 0), .inr (.inr (5, [.int 1, .int 0, .int 0, .int 32, .int 0, .int ((-1)), .int 0, .int 0, .ref (n + 33), .ref (n + 35), .ref (n + 37), .int ((-1)), .int 0, .int ((-1)), .int 0])), .inr (.inr (4, [.ref (n + 34), .int 0, .int 60])), .inl (60, fun _ => 0), .inr (.inr (4, [.ref (n + 36), .int 0, .int 60])), .inl (60, fun _ => 0), .inr (.inr (4, [.ref (n + 38), .int 0, .int 60])), .inl (60, fun _ => 0), .inr (.inr (6, [.int 1, .int 0, .int 0, .ref (n + 40), .ref (n + 41), .ref (n + 42), .int 0, .int ((-1)), .int 0, .int 0])), .inl (24, fun _ => 0), .inl (24, fun _ => 0), .inl (24, fun _ => 0), .inr (.inr (4, [.ref (n + 44), .int 0, .int 64])), .inl (64, fun _ => 0), .inr (.inr (4, [.ref (n + 46), .int 0, .int 64])), .inl (64, fun _ => 0), .inr (.inr (2, [.ref (n + 48), .ref (n + 55), .ref (n + 62), .int 0, .int 0, .int 0, .int 0, .int 0, .ref (n + 66), .ref (n + 68), .null, .int 3, .int 0, .int ((-1)), .int 0, .int 0, .int 0, .int 0])), .inr (.inr (5, [.int 0, .int 0, .int 0, .int 32, .int 0, .int ((-1)), .int 0, .int 0, .ref (n + 49), .ref (n + 51), .ref (n + 53), .int ((-1)), .int 0, .int ((-1)), .int 0])), .inr (.inr (4, [.ref (n + 50), .int 0, .int 60])), .inl (60, fun _ => 0), .inr (.inr (4, [.ref (n + 52), .int 0, .int 60])), .inl (60, fun _ => 0), .inr (.inr (4, [.ref (n + 54), .int 0, .int 60])), .inl (60, fun _ => 0), .inr (.inr (5, [.int 1, .int 0, .int 0, .int 32, .int 0, .int ((-1)), .int 0, .int 0, .ref (n + 56), .ref (n + 58), .ref (n + 60), .int ((-1)), .int 0, .int ((-1)), .int 0])), .inr (.inr (4, [.ref (n + 57), .int 0, .int 60])), .inl (60, fun _ => 0), .inr (.inr (4, [.ref (n + 59), .int 0, .int 60])), .inl (60, fun _ => 0), .inr (.inr (4, [.ref (n + 61), .int 0, .int 60])), .inl (60, fun _ => 0), .inr (.inr (6, [.int 1, .int 0, .int 0, .ref (n + 63), .ref (n + 64), .ref (n + 65), .int 0, .int ((-1)), .int 0, .int 0])), .inl (24, fun _ => 0), .inl (24, fun _ => 0), .inl (24, fun _ => 0), .inr (.inr (4, [.ref (n + 67), .int 0, .int 64])), .inl (64, fun _ => 0), .inr (.inr (4, [.ref (n + 69), .int 0, .int 64])), .inl (64, fun _ => 0), .inl (4, fun _ => 0), .inl (4, fun _ => 0), .inl (4, fun _ => 0)]) C fX0_37 dX0_init_63 rfl (gapp_new hn rfl) (Nat.le_of_ble_eq_true rfl) (Or.inr rfl) rfl rfl (by intro z h; cases h) rfl (gapp_set hn) ?_
  exact E.2.1 _ _ _ _ _ dX0_init_66 rfl (Nat.le_of_ble_eq_true rfl) (Nat.le_of_ble_eq_true rfl) ⟨rfl, rfl⟩
theorem dX3_init_0 : decode cX3_init 0 = .ok (.aload_n 0, 1) := by decide +kernel
theorem dX3_init_1 : decode cX3_init 1 = .ok (.invokespecial 3, 3) := by decide +kernel
theorem dX3_init_4 : decode cX3_init 4 = .ok (.aload_n 0, 1) := by decide +kernel
theorem dX3_init_5 : decode cX3_init 5 = .ok (.new 9, 3) := by decide +kernel
theorem dX3_init_8 : decode cX3_init 8 = .ok (.dup, 1) := by decide +kernel
theorem dX3_init_9 : decode cX3_init 9 = .ok (.bipush 15, 2) := by decide +kernel
theorem dX3_init_11 : decode cX3_init 11 = .ok (.bipush 15, 2) := by decide +kernel
theorem dX3_init_13 : decode cX3_init 13 = .ok (.invokespecial 11, 3) := by decide +kernel
theorem dX3_init_16 : decode cX3_init 16 = .ok (.putfield 14, 3) := by decide +kernel
theorem dX3_init_19 : decode cX3_init 19 = .ok (.return_, 1) := by decide +kernel
set_option maxRecDepth 100000 in
set_option maxHeartbeats 4000000 in
theorem c_X3_init {hp : List gA} {n : Nat}  (hn : hp.length = n) : gM yX3_init cX3_init 1 (none) 2 43 [.ref (n + 0)] (hp ++ [.inr (.inr (3, [.int 0, .int 0, .int 0, .int 0, .int 0, .int 0, .int 0, .null, .int 0, .int 0, .int 0]))]) (2) (18) (fun v h => v = none ∧ h = hp ++ [.inr (.inr (3, [.int 0, .int 0, .int 0, .int 0, .int 0, .int 0, .int 0, .ref (n + 1), .int 0, .int 0, .int 0])), .inr (.inr (4, [.ref (n + 2), .int 0, .int 15])), .inl (15, fun _ => 0)]) := by
  refine gM_of (ls0 := [some (.ref (n + 0))]) (by decide +kernel) (Nat.le_of_ble_eq_true rfl) rfl fun X C E => ?_
  refine g_aload_n (q := 1) C dX3_init_0 rfl rfl ?_
  refine g_objInit (q := 4) C t_335 t_63 t_64 dX3_init_1 rfl rfl (Nat.le_of_ble_eq_true rfl) (Nat.le_of_ble_eq_true rfl) ?_
  refine g_aload_n (q := 5) C dX3_init_4 rfl rfl ?_
  refine g_new (q := 8) (k := n + 1) C nX3_9 dX3_init_5 rfl (by rw [List.length_append, hn]; rfl) (Nat.le_of_ble_eq_true rfl) (Nat.le_of_ble_eq_true rfl) ?_
  refine g_heap (hp2 := hp ++ [.inr (.inr (3, [.int 0, .int 0, .int 0, .int 0, .int 0, .int 0, .int 0, .null, .int 0, .int 0, .int 0])), .inr (.inr (4, [.null, .int 0, .int 0]))]) (by simp only [List.append_assoc, List.cons_append, List.nil_append]) ?_
  refine g_dup (q := 9) C dX3_init_8 rfl rfl ?_
  refine g_bipush (v := 15) (q := 11) C dX3_init_9 (by decide) rfl ?_
  refine g_bipush (v := 15) (q := 13) C dX3_init_11 (by decide) rfl ?_
  refine g_heap (hp2 := (hp ++ [.inr (.inr (3, [.int 0, .int 0, .int 0, .int 0, .int 0, .int 0, .int 0, .null, .int 0, .int 0, .int 0]))]) ++ [.inr (.inr (4, [.null, .int 0, .int 0]))]) (by simp only [List.append_assoc, List.cons_append, List.nil_append]) ?_
  refine g_callIv (q := 16) (As := [.int 15, .int 15]) C gyX4_init giX4_init rfl t_337 (c_X4_init (n := n + 1) (N := 15) (first := 15) (by rw [List.length_append, hn]; rfl) (by decide) (by decide)) dX3_init_13 rfl rfl rfl (Nat.le_of_ble_eq_true rfl) (Nat.le_of_ble_eq_true rfl) (Nat.le_of_ble_eq_true rfl) (Nat.le_of_ble_eq_true rfl) (Nat.le_of_ble_eq_true rfl) rfl ?_
  refine g_heap (hp2 := hp ++ [.inr (.inr (3, [.int 0, .int 0, .int 0, .int 0, .int 0, .int 0, .int 0, .null, .int 0, .int 0, .int 0])), .inr (.inr (4, [.ref (n + 2), .int 0, .int 15])), .inl (15, fun _ => 0)]) (by simp only [List.append_assoc, List.cons_append, List.nil_append, Nat.add_assoc, Nat.reduceAdd, Nat.add_zero]) ?_
  refine g_putE (q := 19) (hp' := hp ++ [.inr (.inr (3, [.int 0, .int 0, .int 0, .int 0, .int 0, .int 0, .int 0, .ref (n + 1), .int 0, .int 0, .int 0])), .inr (.inr (4, [.ref (n + 2), .int 0, .int 15])), .inl (15, fun _ => 0)]) C fX3_14 dX3_init_16 rfl (gapp_new hn rfl) (Nat.le_of_ble_eq_true rfl) (Or.inr rfl) rfl rfl (by intro z h; cases h) rfl (gapp_set hn) ?_
  exact E.2.1 _ _ _ _ _ dX3_init_19 rfl (Nat.le_of_ble_eq_true rfl) (Nat.le_of_ble_eq_true rfl) ⟨rfl, rfl⟩
theorem dX7_init_0 : decode cX7_init 0 = .ok (.aload_n 0, 1) := by decide +kernel
theorem dX7_init_1 : decode cX7_init 1 = .ok (.invokespecial 1, 3) := by decide +kernel
theorem dX7_init_4 : decode cX7_init 4 = .ok (.aload_n 0, 1) := by decide +kernel
theorem dX7_init_5 : decode cX7_init 5 = .ok (.new 7, 3) := by decide +kernel
theorem dX7_init_8 : decode cX7_init 8 = .ok (.dup, 1) := by decide +kernel
theorem dX7_init_9 : decode cX7_init 9 = .ok (.bipush 96, 2) := by decide +kernel
theorem dX7_init_11 : decode cX7_init 11 = .ok (.bipush 96, 2) := by decide +kernel
theorem dX7_init_13 : decode cX7_init 13 = .ok (.invokespecial 11, 3) := by decide +kernel
theorem dX7_init_16 : decode cX7_init 16 = .ok (.putfield 14, 3) := by decide +kernel
theorem dX7_init_19 : decode cX7_init 19 = .ok (.aload_n 0, 1) := by decide +kernel
theorem dX7_init_20 : decode cX7_init 20 = .ok (.new 18, 3) := by decide +kernel
theorem dX7_init_23 : decode cX7_init 23 = .ok (.dup, 1) := by decide +kernel
theorem dX7_init_24 : decode cX7_init 24 = .ok (.invokespecial 20, 3) := by decide +kernel
theorem dX7_init_27 : decode cX7_init 27 = .ok (.putfield 21, 3) := by decide +kernel
theorem dX7_init_30 : decode cX7_init 30 = .ok (.aload_n 0, 1) := by decide +kernel
theorem dX7_init_31 : decode cX7_init 31 = .ok (.new 25, 3) := by decide +kernel
theorem dX7_init_34 : decode cX7_init 34 = .ok (.dup, 1) := by decide +kernel
theorem dX7_init_35 : decode cX7_init 35 = .ok (.aload_n 0, 1) := by decide +kernel
theorem dX7_init_36 : decode cX7_init 36 = .ok (.getfield 21, 3) := by decide +kernel
theorem dX7_init_39 : decode cX7_init 39 = .ok (.invokespecial 27, 3) := by decide +kernel
theorem dX7_init_42 : decode cX7_init 42 = .ok (.putfield 30, 3) := by decide +kernel
theorem dX7_init_45 : decode cX7_init 45 = .ok (.aload_n 0, 1) := by decide +kernel
theorem dX7_init_46 : decode cX7_init 46 = .ok (.new 34, 3) := by decide +kernel
theorem dX7_init_49 : decode cX7_init 49 = .ok (.dup, 1) := by decide +kernel
theorem dX7_init_50 : decode cX7_init 50 = .ok (.invokespecial 36, 3) := by decide +kernel
theorem dX7_init_53 : decode cX7_init 53 = .ok (.putfield 37, 3) := by decide +kernel
theorem dX7_init_56 : decode cX7_init 56 = .ok (.aload_n 0, 1) := by decide +kernel
theorem dX7_init_57 : decode cX7_init 57 = .ok (.new 41, 3) := by decide +kernel
theorem dX7_init_60 : decode cX7_init 60 = .ok (.dup, 1) := by decide +kernel
theorem dX7_init_61 : decode cX7_init 61 = .ok (.invokespecial 43, 3) := by decide +kernel
theorem dX7_init_64 : decode cX7_init 64 = .ok (.putfield 44, 3) := by decide +kernel
theorem dX7_init_67 : decode cX7_init 67 = .ok (.aload_n 0, 1) := by decide +kernel
theorem dX7_init_68 : decode cX7_init 68 = .ok (.new 41, 3) := by decide +kernel
theorem dX7_init_71 : decode cX7_init 71 = .ok (.dup, 1) := by decide +kernel
theorem dX7_init_72 : decode cX7_init 72 = .ok (.invokespecial 43, 3) := by decide +kernel
theorem dX7_init_75 : decode cX7_init 75 = .ok (.putfield 48, 3) := by decide +kernel
theorem dX7_init_78 : decode cX7_init 78 = .ok (.aload_n 0, 1) := by decide +kernel
theorem dX7_init_79 : decode cX7_init 79 = .ok (.iconst 0, 1) := by decide +kernel
theorem dX7_init_80 : decode cX7_init 80 = .ok (.putfield 51, 3) := by decide +kernel
theorem dX7_init_83 : decode cX7_init 83 = .ok (.return_, 1) := by decide +kernel
set_option maxRecDepth 100000 in
set_option maxHeartbeats 4000000 in
theorem c_X7_init {hp : List gA} {n : Nat}  (hn : hp.length = n) : gM yX7_init cX7_init 1 (none) 5 105 [.ref (n + 0)] (hp ++ [.inr (.inr (7, [.null, .null, .null, .null, .null, .null, .int 0]))]) (121) (3475) (fun v h => v = none ∧ h = hp ++ [.inr (.inr (7, [.ref (n + 1), .ref (n + 3), .ref (n + 20), .ref (n + 43), .ref (n + 116), .ref (n + 119), .int 0])), .inr (.inr (4, [.ref (n + 2), .int 0, .int 96])), .inl (96, fun _ => 0), .inr (.inr (1, [.ref (n + 4), .ref (n + 6), .ref (n + 8), .ref (n + 10), .ref (n + 12), .ref (n + 14), .ref (n + 16), .ref (n + 18), .int ((-1))])), .inr (.inr (4, [.ref (n + 5), .int 0, .int 1048576])), .inl (256, fun _ => 0), .inr (.inr (4, [.ref (n + 7), .int 0, .int 65536])), .inl (32, fun _ => 0), .inr (.inr (4, [.ref (n + 9), .int 0, .int 65536])), .inl (32, fun _ => 0), .inr (.inr (4, [.ref (n + 11), .int 0, .int 65536])), .inl (32, fun _ => 0), .inr (.inr (4, [.ref (n + 13), .int 0, .int 256])), .inl (256, fun _ => 0), .inr (.inr (4, [.ref (n + 15), .int 0, .int 30])), .inl (30, fun _ => 0), .inr (.inr (4, [.ref (n + 17), .int 0, .int 30])), .inl (30, fun _ => 0), .inr (.inr (4, [.ref (n + 19), .int 0, .int 30])), .inl (30, fun _ => 0), .inr (.inr (2, [.ref (n + 21), .ref (n + 28), .ref (n + 35), .int 0, .int 0, .int 0, .int 0, .int 0, .ref (n + 39), .ref (n + 41), .ref (n + 3), .int 3, .int 0, .int ((-1)), .int 0, .int 0, .int 0, .int 0])), .inr (.inr (5, [.int 0, .int 0, .int 0, .int 32, .int 0, .int ((-1)), .int 0, .int 0, .ref (n + 22), .ref (n + 24), .ref (n + 26), .int ((-1)), .int 0, .int ((-1)), .int 0])), .inr (.inr (4, [.ref (n + 23), .int 0, .int 60])), .inl (60, fun _ => 0), .inr (.inr (4, [.ref (n + 25), .int 0, .int 60])), .inl (60, fun _ => 0), .inr (.inr (4, [.ref (n + 27), .int 0, .int 60])), .inl (60, fun _ => 0), .inr (.inr (5, [.int 1, .int 0, .int 0, .int 32, .int 0, .int ((-1)), .int 0, .int 0, .ref (n + 29), .ref (n + 31), .ref (n + 33), .int ((-1)), .int 0, .int ((-1)), .int 0])), .inr (.inr (4, [.ref (n + 30), .int 0, .int 60])), .inl (60, fun _ => 0), .inr (.inr (4, [.ref (n + 32), .int 0, .int 60])), .inl (60, fun _ => 0), .inr (.inr (4, [.ref (n + 34), .int 0, .int 60])), .inl (60, fun _ => 0), .inr (.inr (6, [.int 1, .int 0, .int 0, .ref (n + 36), .ref (n + 37), .ref (n + 38), .int 0, .int ((-1)), .int 0, .int 0])), .inl (24, fun _ => 0), .inl (24, fun _ => 0), .inl (24, fun _ => 0), .inr (.inr (4, [.ref (n + 40), .int 0, .int 64])), .inl (64, fun _ => 0), .inr (.inr (4, [.ref (n + 42), .int 0, .int 64])), .inl (64, fun _ => 0), .inr (.inr (0, [.ref (n + 44), .ref (n + 67), .ref (n + 90), .int 0, .ref (n + 113), .ref (n + 114), .ref (n + 115)])), .inr (.inr (2, [.ref (n + 45), .ref (n + 52), .ref (n + 59), .int 0, .int 0, .int 0, .int 0, .int 0, .ref (n + 63), .ref (n + 65), .null, .int 3, .int 0, .int ((-1)), .int 0, .int 0, .int 0, .int 0])), .inr (.inr (5, [.int 0, .int 0, .int 0, .int 32, .int 0, .int ((-1)), .int 0, .int 0, .ref (n + 46), .ref (n + 48), .ref (n + 50), .int ((-1)), .int 0, .int ((-1)), .int 0])), .inr (.inr (4, [.ref (n + 47), .int 0, .int 60])), .inl (60, fun _ => 0), .inr (.inr (4, [.ref (n + 49), .int 0, .int 60])), .inl (60, fun _ => 0), .inr (.inr (4, [.ref (n + 51), .int 0, .int 60])), .inl (60, fun _ => 0), .inr (.inr (5, [.int 1, .int 0, .int 0, .int 32, .int 0, .int ((-1)), .int 0, .int 0, .ref (n + 53), .ref (n + 55), .ref (n + 57), .int ((-1)), .int 0, .int ((-1)), .int 0])), .inr (.inr (4, [.ref (n + 54), .int 0, .int 60])), .inl (60, fun _ => 0), .inr (.inr (4, [.ref (n + 56), .int 0, .int 60])), .inl (60, fun _ => 0), .inr (.inr (4, [.ref (n + 58), .int 0, .int 60])), .inl (60, fun _ => 0), .inr (.inr (6, [.int 1, .int 0, .int 0, .ref (n + 60), .ref (n + 61), .ref (n + 62), .int 0, .int ((-1)), .int 0, .int 0])), .inl (24, fun _ => 0), .inl (24, fun _ => 0), .inl (24, fun _ => 0), .inr (.inr (4, [.ref (n + 64), .int 0, .int 64])), .inl (64, fun _ => 0), .inr (.inr (4, [.ref (n + 66), .int 0, .int 64])), .inl (64, fun _ => 0), .inr (.inr (2, [.ref (n + 68), .ref (n + 75), .ref (n + 82), .int 0, .int 0, .int 0, .int 0, .int 0, .ref (n + 86), .ref (n + 88), .null, .int 3, .int 0, .int ((-1)), .int 0, .int 0, .int 0, .int 0])), .inr (.inr (5, [.int 0, .int 0, .int 0, .int 32, .int 0, .int ((-1)), .int 0, .int 0, .ref (n + 69), .ref (n + 71), .ref (n + 73), .int ((-1)), .int 0, .int ((-1)), .int 0])), .inr (.inr (4, [.ref (n + 70), .int 0, .int 60])), .inl (60, fun _ => 0), .inr (.inr (4, [.ref (n + 72), .int 0, .int 60])), .inl (60, fun _ => 0), .inr (.inr (4, [.ref (n + 74), .int 0, .int 60])), .inl (60, fun _ => 0), .inr (.inr (5, [.int 1, .int 0, .int 0, .int 32, .int 0, .int ((-1)), .int 0, .int 0, .ref (n + 76), .ref (n + 78), .ref (n + 80), .int ((-1)), .int 0, .int ((-1)), .int 0])), .inr (.inr (4, [.ref (n + 77), .int 0, .int 60])), .inl (60, fun _ => 0), .inr (.inr (4, [.ref (n + 79), .int 0, .int 60])), .inl (60, fun _ => 0), .inr (.inr (4, [.ref (n + 81), .int 0, .int 60])), .inl (60, fun _ => 0), .inr (.inr (6, [.int 1, .int 0, .int 0, .ref (n + 83), .ref (n + 84), .ref (n + 85), .int 0, .int ((-1)), .int 0, .int 0])), .inl (24, fun _ => 0), .inl (24, fun _ => 0), .inl (24, fun _ => 0), .inr (.inr (4, [.ref (n + 87), .int 0, .int 64])), .inl (64, fun _ => 0), .inr (.inr (4, [.ref (n + 89), .int 0, .int 64])), .inl (64, fun _ => 0), .inr (.inr (2, [.ref (n + 91), .ref (n + 98), .ref (n + 105), .int 0, .int 0, .int 0, .int 0, .int 0, .ref (n + 109), .ref (n + 111), .null, .int 3, .int 0, .int ((-1)), .int 0, .int 0, .int 0, .int 0])), .inr (.inr (5, [.int 0, .int 0, .int 0, .int 32, .int 0, .int ((-1)), .int 0, .int 0, .ref (n + 92), .ref (n + 94), .ref (n + 96), .int ((-1)), .int 0, .int ((-1)), .int 0])), .inr (.inr (4, [.ref (n + 93), .int 0, .int 60])), .inl (60, fun _ => 0), .inr (.inr (4, [.ref (n + 95), .int 0, .int 60])), .inl (60, fun _ => 0), .inr (.inr (4, [.ref (n + 97), .int 0, .int 60])), .inl (60, fun _ => 0), .inr (.inr (5, [.int 1, .int 0, .int 0, .int 32, .int 0, .int ((-1)), .int 0, .int 0, .ref (n + 99), .ref (n + 101), .ref (n + 103), .int ((-1)), .int 0, .int ((-1)), .int 0])), .inr (.inr (4, [.ref (n + 100), .int 0, .int 60])), .inl (60, fun _ => 0), .inr (.inr (4, [.ref (n + 102), .int 0, .int 60])), .inl (60, fun _ => 0), .inr (.inr (4, [.ref (n + 104), .int 0, .int 60])), .inl (60, fun _ => 0), .inr (.inr (6, [.int 1, .int 0, .int 0, .ref (n + 106), .ref (n + 107), .ref (n + 108), .int 0, .int ((-1)), .int 0, .int 0])), .inl (24, fun _ => 0), .inl (24, fun _ => 0), .inl (24, fun _ => 0), .inr (.inr (4, [.ref (n + 110), .int 0, .int 64])), .inl (64, fun _ => 0), .inr (.inr (4, [.ref (n + 112), .int 0, .int 64])), .inl (64, fun _ => 0), .inl (4, fun _ => 0), .inl (4, fun _ => 0), .inl (4, fun _ => 0), .inr (.inr (3, [.int 0, .int 0, .int 0, .int 0, .int 0, .int 0, .int 0, .ref (n + 117), .int 0, .int 0, .int 0])), .inr (.inr (4, [.ref (n + 118), .int 0, .int 15])), .inl (15, fun _ => 0), .inr (.inr (3, [.int 0, .int 0, .int 0, .int 0, .int 0, .int 0, .int 0, .ref (n + 120), .int 0, .int 0, .int 0])), .inr (.inr (4, [.ref (n + 121), .int 0, .int 15])), .inl (15, fun _ => 0)]) := by
  refine gM_of (ls0 := [some (.ref (n + 0))]) (by decide +kernel) (Nat.le_of_ble_eq_true rfl) rfl fun X C E => ?_
  refine g_aload_n (q := 1) C dX7_init_0 rfl rfl ?_
  refine g_objInit (q := 4) C t_62 t_63 t_64 dX7_init_1 rfl rfl (Nat.le_of_ble_eq_true rfl) (Nat.le_of_ble_eq_true rfl) ?_
  refine g_aload_n (q := 5) C dX7_init_4 rfl rfl ?_
  refine g_new (q := 8) (k := n + 1) C nX7_7 dX7_init_5 rfl (by rw [List.length_append, hn]; rfl) (Nat.le_of_ble_eq_true rfl) (Nat.le_of_ble_eq_true rfl) ?_
  refine g_heap (hp2 := hp ++ [.inr (.inr (7, [.null, .null, .null, .null, .null, .null, .int 0])), .inr (.inr (4, [.null, .int 0, .int 0]))]) (by simp only [List.append_assoc, List.cons_append, List.nil_append]) ?_
  refine g_dup (q := 9) C dX7_init_8 rfl rfl ?_
  refine g_bipush (v := 96) (q := 11) C dX7_init_9 (by decide) rfl ?_
  refine g_bipush (v := 96) (q := 13) C dX7_init_11 (by decide) rfl ?_
  refine g_heap (hp2 := (hp ++ [.inr (.inr (7, [.null, .null, .null, .null, .null, .null, .int 0]))]) ++ [.inr (.inr (4, [.null, .int 0, .int 0]))]) (by simp only [List.append_assoc, List.cons_append, List.nil_append]) ?_
  refine g_callIv (q := 16) (As := [.int 96, .int 96]) C gyX4_init giX4_init rfl t_67 (c_X4_init (n := n + 1) (N := 96) (first := 96) (by rw [List.length_append, hn]; rfl) (by decide) (by decide)) dX7_init_13 rfl rfl rfl (Nat.le_of_ble_eq_true rfl) (Nat.le_of_ble_eq_true rfl) (Nat.le_of_ble_eq_true rfl) (Nat.le_of_ble_eq_true rfl) (Nat.le_of_ble_eq_true rfl) rfl ?_
  refine g_heap (hp2 := hp ++ [.inr (.inr (7, [.null, .null, .null, .null, .null, .null, .int 0])), .inr (.inr (4, [.ref (n + 2), .int 0, .int 96])), .inl (96, fun _ => 0)]) (by simp only [List.append_assoc, List.cons_append, List.nil_append, Nat.add_assoc, Nat.reduceAdd, Nat.add_zero]) ?_
  refine g_putE (q := 19) (hp' := hp ++ [.inr (.inr (7, [.ref (n + 1), .null, .null, .null, .null, .null, .int 0])), .inr (.inr (4, [.ref (n + 2), .int 0, .int 96])), .inl (96, fun _ => 0)]) C fX7_14 dX7_init_16 rfl (gapp_new hn rfl) (Nat.le_of_ble_eq_true rfl) (Or.inr rfl) rfl rfl (by intro z h; cases h) rfl (gapp_set hn) ?_
  refine g_aload_n (q := 20) C dX7_init_19 rfl rfl ?_
  refine g_new (q := 23) (k := n + 3) C nX7_18 dX7_init_20 rfl (by rw [List.length_append, hn]; rfl) (Nat.le_of_ble_eq_true rfl) (Nat.le_of_ble_eq_true rfl) ?_
  refine g_heap (hp2 := hp ++ [.inr (.inr (7, [.ref (n + 1), .null, .null, .null, .null, .null, .int 0])), .inr (.inr (4, [.ref (n + 2), .int 0, .int 96])), .inl (96, fun _ => 0), .inr (.inr (1, [.null, .null, .null, .null, .null, .null, .null, .null, .int 0]))]) (by simp only [List.append_assoc, List.cons_append, List.nil_append]) ?_
  refine g_dup (q := 24) C dX7_init_23 rfl rfl ?_
  refine g_heap (hp2 := (hp ++ [.inr (.inr (7, [.ref (n + 1), .null, .null, .null, .null, .null, .int 0])), .inr (.inr (4, [.ref (n + 2), .int 0, .int 96])), .inl (96, fun _ => 0)]) ++ [.inr (.inr (1, [.null, .null, .null, .null, .null, .null, .null, .null, .int 0]))]) (by simp only [List.append_assoc, List.cons_append, List.nil_append]) ?_
  refine g_callINv (q := 27) (As := []) C gyX1_init giX1_init rfl (host := RX7) (by decide +kernel) (c_X1_init (n := n + 3) (by rw [List.length_append, hn]; rfl)) dX7_init_24 rfl rfl rfl (Nat.le_of_ble_eq_true rfl) (Nat.le_of_ble_eq_true rfl) (Nat.le_of_ble_eq_true rfl) (Nat.le_of_ble_eq_true rfl) (Nat.le_of_ble_eq_true rfl) rfl ?_
  refine g_heap (hp2 := hp ++ [.inr (.inr (7, [.ref (n + 1), .null, .null, .null, .null, .null, .int 0])), .inr (.inr (4, [.ref (n + 2), .int 0, .int 96])), .inl (96, fun _ => 0), .inr (.inr (1, [.ref (n + 4), .ref (n + 6), .ref (n + 8), .ref (n + 10), .ref (n + 12), .ref (n + 14), .ref (n + 16), .ref (n + 18), .int ((-1))])), .inr (.inr (4, [.ref (n + 5), .int 0, .int 1048576])), .inl (256, fun _ => 0), .inr (.inr (4, [.ref (n + 7), .int 0, .int 65536])), .inl (32, fun _ => 0), .inr (.inr (4, [.ref (n + 9), .int 0, .int 65536])), .inl (32, fun _ => 0), .inr (.inr (4, [.ref (n + 11), .int 0, .int 65536])), .inl (32, fun _ => 0), .inr (.inr (4, [.ref (n + 13), .int 0, .int 256])), .inl (256, fun _ => 0), .inr (.inr (4, [.ref (n + 15), .int 0, .int 30])), .inl (30, fun _ => 0), .inr (.inr (4, [.ref (n + 17), .int 0, .int 30])), .inl (30, fun _ => 0), .inr (.inr (4, [.ref (n + 19), .int 0, .int 30])), .inl (30, fun _ => 0)]) (by simp only [List.append_assoc, List.cons_append, List.nil_append, Nat.add_assoc, Nat.reduceAdd, Nat.add_zero]) ?_
  refine g_putE (q := 30) (hp' := hp ++ [.inr (.inr (7, [.ref (n + 1), .ref (n + 3), .null, .null, .null, .null, .int 0])), .inr (.inr (4, [.ref (n + 2), .int 0, .int 96])), .inl (96, fun _ => 0), .inr (.inr (1, [.ref (n + 4), .ref (n + 6), .ref (n + 8), .ref (n + 10), .ref (n + 12), .ref (n + 14), .ref (n + 16), .ref (n + 18), .int ((-1))])), .inr (.inr (4, [.ref (n + 5), .int 0, .int 1048576])), .inl (256, fun _ => 0), .inr (.inr (4, [.ref (n + 7), .int 0, .int 65536])), .inl (32, fun _ => 0), .inr (.inr (4, [.ref (n + 9), .int 0, .int 65536])), .inl (32, fun _ => 0), .inr (.inr (4, [.ref (n + 11), .int 0, .int 65536])), .inl (32, fun _ => 0), .inr (.inr (4, [.ref (n + 13), .int 0, .int 256])), .inl (256, fun _ => 0), .inr (.inr (4, [.ref (n + 15), .int 0, .int 30])), .inl (30, fun _ => 0), .inr (.inr (4, [.ref (n + 17), .int 0, .int 30])), .inl (30, fun _ => 0), .inr (.inr (4, [.ref (n + 19), .int 0, .int 30])), .inl (30, fun _ => 0)]) C fX7_21 dX7_init_27 rfl (gapp_new hn rfl) (Nat.le_of_ble_eq_true rfl) (Or.inr rfl) rfl rfl (by intro z h; cases h) rfl (gapp_set hn) ?_
  refine g_aload_n (q := 31) C dX7_init_30 rfl rfl ?_
  refine g_new (q := 34) (k := n + 20) C nX7_25 dX7_init_31 rfl (by rw [List.length_append, hn]; rfl) (Nat.le_of_ble_eq_true rfl) (Nat.le_of_ble_eq_true rfl) ?_
  refine g_heap (hp2 := hp ++ [.inr (.inr (7, [.ref (n + 1), .ref (n + 3), .null, .null, .null, .null, .int 0])), .inr (.inr (4, [.ref (n + 2), .int 0, .int 96])), .inl (96, fun _ => 0), .inr (.inr (1, [.ref (n + 4), .ref (n + 6), .ref (n + 8), .ref (n + 10), .ref (n + 12), .ref (n + 14), .ref (n + 16), .ref (n + 18), .int ((-1))])), .inr (.inr (4, [.ref (n + 5), .int 0, .int 1048576])), .inl (256, fun _ => 0), .inr (.inr (4, [.ref (n + 7), .int 0, .int 65536])), .inl (32, fun _ => 0), .inr (.inr (4, [.ref (n + 9), .int 0, .int 65536])), .inl (32, fun _ => 0), .inr (.inr (4, [.ref (n + 11), .int 0, .int 65536])), .inl (32, fun _ => 0), .inr (.inr (4, [.ref (n + 13), .int 0, .int 256])), .inl (256, fun _ => 0), .inr (.inr (4, [.ref (n + 15), .int 0, .int 30])), .inl (30, fun _ => 0), .inr (.inr (4, [.ref (n + 17), .int 0, .int 30])), .inl (30, fun _ => 0), .inr (.inr (4, [.ref (n + 19), .int 0, .int 30])), .inl (30, fun _ => 0), .inr (.inr (2, [.null, .null, .null, .int 0, .int 0, .int 0, .int 0, .int 0, .null, .null, .null, .int 0, .int 0, .int 0, .int 0, .int 0, .int 0, .int 0]))]) (by simp only [List.append_assoc, List.cons_append, List.nil_append]) ?_
  refine g_dup (q := 35) C dX7_init_34 rfl rfl ?_
  refine g_aload_n (q := 36) C dX7_init_35 rfl rfl ?_
  refine g_getfield (q := 39) C fX7_21 dX7_init_36 rfl (gapp_new hn rfl) rfl ?_
  refine g_heap (hp2 := (hp ++ [.inr (.inr (7, [.ref (n + 1), .ref (n + 3), .null, .null, .null, .null, .int 0])), .inr (.inr (4, [.ref (n + 2), .int 0, .int 96])), .inl (96, fun _ => 0), .inr (.inr (1, [.ref (n + 4), .ref (n + 6), .ref (n + 8), .ref (n + 10), .ref (n + 12), .ref (n + 14), .ref (n + 16), .ref (n + 18), .int ((-1))])), .inr (.inr (4, [.ref (n + 5), .int 0, .int 1048576])), .inl (256, fun _ => 0), .inr (.inr (4, [.ref (n + 7), .int 0, .int 65536])), .inl (32, fun _ => 0), .inr (.inr (4, [.ref (n + 9), .int 0, .int 65536])), .inl (32, fun _ => 0), .inr (.inr (4, [.ref (n + 11), .int 0, .int 65536])), .inl (32, fun _ => 0), .inr (.inr (4, [.ref (n + 13), .int 0, .int 256])), .inl (256, fun _ => 0), .inr (.inr (4, [.ref (n + 15), .int 0, .int 30])), .inl (30, fun _ => 0), .inr (.inr (4, [.ref (n + 17), .int 0, .int 30])), .inl (30, fun _ => 0), .inr (.inr (4, [.ref (n + 19), .int 0, .int 30])), .inl (30, fun _ => 0)]) ++ [.inr (.inr (2, [.null, .null, .null, .int 0, .int 0, .int 0, .int 0, .int 0, .null, .null, .null, .int 0, .int 0, .int 0, .int 0, .int 0, .int 0, .int 0]))]) (by simp only [List.append_assoc, List.cons_append, List.nil_append]) ?_
  refine g_callIv (q := 42) (As := [.ref (n + 3)]) C gyX2_init giX2_init rfl t_125 (c_X2_init_j (n := n + 20) (by rw [List.length_append, hn]; rfl)) dX7_init_39 rfl rfl rfl (Nat.le_of_ble_eq_true rfl) (Nat.le_of_ble_eq_true rfl) (Nat.le_of_ble_eq_true rfl) (Nat.le_of_ble_eq_true rfl) (Nat.le_of_ble_eq_true rfl) rfl ?_
  refine g_heap (hp2 := hp ++ [.inr (.inr (7, [.ref (n + 1), .ref (n + 3), .null, .null, .null, .null, .int 0])), .inr (.inr (4, [.ref (n + 2), .int 0, .int 96])), .inl (96, fun _ => 0), .inr (.inr (1, [.ref (n + 4), .ref (n + 6), .ref (n + 8), .ref (n + 10), .ref (n + 12), .ref (n + 14), .ref (n + 16), .ref (n + 18), .int ((-1))])), .inr (.inr (4, [.ref (n + 5), .int 0, .int 1048576])), .inl (256, fun _ => 0), .inr (.inr (4, [.ref (n + 7), .int 0, .int 65536])), .inl (32, fun _ => 0), .inr (.inr (4, [.ref (n + 9), .int 0, .int 65536])), .inl (32, fun _ => 0), .inr (.inr (4, [.ref (n + 11), .int 0, .int 65536])), .inl (32, fun _ => 0), .inr (.inr (4, [.ref (n + 13), .int 0, .int 256])), .inl (256, fun _ => 0), .inr (.inr (4, [.ref (n + 15), .int 0, .int 30])), .inl (30, fun _ => 0), .inr (.inr (4, [.ref (n + 17), .int 0, .int 30])), .inl (30, fun _ => 0), .inr (.inr (4, [.ref (n + 19), .int 0, .int 30])), .inl (30, fun _ => 0), .inr (.inr (2, [.ref (n + 21), .ref (n + 28), .ref (n + 35), .int 0, .int 0, .int 0, .int 0, .int 0, .ref (n + 39), .ref (n + 41), .ref (n + 3), .int 3, .int 0, .int ((-1)), .int 0, .int 0, .int 0, .int 0])), .inr (.inr (5, [.int 0, .int 0, .int 0, .int 32, .int 0, .int ((-1)), .int 0, .int 0, .ref (n + 22), .ref (n + 24), .ref (n + 26), .int ((-1)), .int 0, .int ((-1)), .int 0])), .inr (.inr (4, [.ref (n + 23), .int 0, .int 60])), .inl (60, fun _ => 0), .inr (.inr (4, [.ref (n + 25), .int 0, .int 60])), .inl (60, fun _ => 0), .inr (.inr (4, [.ref (n + 27), .int 0, .int 60])), .inl (60, fun _ => 0), .inr (.inr (5, [.int 1, .int 0, .int 0, .int 32, .int 0, .int ((-1)), .int 0, .int 0, .ref (n + 29), .ref (n + 31), .ref (n + 33), .int ((-1)), .int 0, .int ((-1)), .int 0])), .inr (.inr (4, [.ref (n + 30), .int 0, .int 60])), .inl (60, fun _ => 0), .inr (.inr (4, [.ref (n + 32), .int 0, .int 60])), .inl (60, fun _ => 0), .inr (.inr (4, [.ref (n + 34), .int 0, .int 60])), .inl (60, fun _ => 0), .inr (.inr (6, [.int 1, .int 0, .int 0, .ref (n + 36), .ref (n + 37), .ref (n + 38), .int 0, .int ((-1)), .int 0, .int 0])), .inl (24, fun _ => 0), .inl (24, fun _ => 0), .inl (24, fun _ => 0), .inr (.inr (4, [.ref (n + 40), .int 0, .int 64])), .inl (64, fun _ => 0), .inr (.inr (4, [.ref (n + 42), .int 0, .int 64])), .inl (64, fun _ => 0)]) (by simp only [List.append_assoc, List.cons_append, List.nil_append, Nat.add_assoc, Nat.reduceAdd, Nat.add_zero]) ?_
  refine g_putE (q := 45) (hp' := hp ++ [.inr (.inr (7, [.ref (n + 1), .ref (n + 3), .ref (n + 20), .null, .null, .null, .int 0])), .inr (.inr (4, [.ref (n + 2), .int 0, .int 96])), .inl (96, fun _ => 0), .inr (.inr (1, [.ref (n + 4), .ref (n + 6), .ref (n + 8), .ref (n + 10), .ref (n + 12), .ref (n + 14), .ref (n + 16), .ref (n + 18), .int ((-1))])), .inr (.inr (4, [.ref (n + 5), .int 0, .int 1048576])), .inl (256, fun _ => 0), .inr (.inr (4, [.ref (n + 7), .int 0, .int 65536])), .inl (32, fun _ => 0), .inr (.inr (4, [.ref (n + 9), .int 0, .int 65536])), .inl (32, fun _ => 0), .inr (.inr (4, [.ref (n + 11), .int 0, .int 65536])), .inl (32, fun _ => 0), .inr (.inr (4, [.ref (n + 13), .int 0, .int 256])), .inl (256, fun _ => 0), .inr (.inr (4, [.ref (n + 15), .int 0, .int 30])), .inl (30, fun _ => 0), .inr (.inr (4, [.ref (n + 17), .int 0, .int 30])), .inl (30, fun _ => 0), .inr (.inr (4, [.ref (n + 19), .int 0, .int 30])), .inl (30, fun _ => 0), .inr (.inr (2, [.ref (n + 21), .ref (n + 28), .ref (n + 35), .int 0, .int 0, .int 0, .int 0, .int 0, .ref (n + 39), .ref (n + 41), .ref (n + 3), .int 3, .int 0, .int ((-1)), .int 0, .int 0, .int 0, .int 0])), .inr (.inr (5, [.int 0, .int 0, .int 0, .int 32, .int 0, .int ((-1)), .int 0, .int 0, .ref (n + 22), .ref (n + 24), .ref (n + 26), .int ((-1)), .int 0, .int ((-1)), .int 0])), .inr (.inr (4, [.ref (n + 23), .int 0, .int 60])), .inl (60, fun _ => 0), .inr (.inr (4, [.ref (n + 25), .int 0, .int 60])), .inl (60, fun _ => 0), .inr (.inr (4, [.ref (n + 27), .int 0, .int 60])), .inl (60, fun _ => 0), .inr (.inr (5, [.int 1, .int 0, .int 0, .int 32, .int 0, .int ((-1)), .int 0, .int 0, .ref (n + 29), .ref (n + 31), .ref (n + 33), .int ((-1)), .int 0, .int ((-1)), .int 0])), .inr (.inr (4, [.ref (n + 30), .int 0, .int 60])), .inl (60, fun _ => 0), .inr (.inr (4, [.ref (n + 32), .int 0, .int 60])), .inl (60, fun _ => 0), .inr (.inr (4, [.ref (n + 34), .int 0, .int 60])), .inl (60, fun _ => 0), .inr (.inr (6, [.int 1, .int 0, .int 0, .ref (n + 36), .ref (n + 37), .ref (n + 38), .int 0, .int ((-1)), .int 0, .int 0])), .inl (24, fun _ => 0), .inl (24, fun _ => 0), .inl (24, fun _ => 0), .inr (.inr (4, [.ref (n + 40), .int 0, .int 64])), .inl (64, fun _ => 0), .inr (.inr (4, [.ref (n + 42), .int 0, .int 64])), .inl (64, fun _ => 0)]) C fX7_30 dX7_init_42 rfl (gapp_new hn rfl) (Nat.le_of_ble_eq_true rfl) (Or.inr rfl) rfl rfl (by intro z h; cases h) rfl (gapp_set hn) ?_
  refine g_aload_n (q := 46) C dX7_init_45 rfl rfl ?_
  refine g_new (q := 49) (k := n + 43) C nX7_34 dX7_init_46 rfl (by rw [List.length_append, hn]; rfl) (Nat.le_of_ble_eq_true rfl) (Nat.le_of_ble_eq_true rfl) ?_
  refine g_heap (hp2 := hp ++ [.inr (.inr (7, [.ref (n + 1), .ref (n + 3), .ref (n + 20), .null, .null, .null, .int 0])), .inr (.inr (4, [.ref (n + 2), .int 0, .int 96])), .inl (96, fun _ => 0), .inr (.inr (1, [.ref (n + 4), .ref (n + 6), .ref (n + 8), .ref (n + 10), .ref (n + 12), .ref (n + 14), .ref (n + 16), .ref (n + 18), .int ((-1))])), .inr (.inr (4, [.ref (n + 5), .int 0, .int 1048576])), .inl (256, fun _ => 0), .inr (.inr (4, [.ref (n + 7), .int 0, .int 65536])), .inl (32, fun _ => 0), .inr (.inr (4, [.ref (n + 9), .int 0, .int 65536])), .inl (32, fun _ => 0), .inr (.inr (4, [.ref (n + 11), .int 0, .int 65536])), .inl (32, fun _ => 0), .inr (.inr (4, [.ref (n + 13), .int 0, .int 256])), .inl (256, fun _ => 0), .inr (.inr (4, [.ref (n + 15), .int 0, .int 30])), .inl (30, fun _ => 0), .inr (.inr (4, [.ref (n + 17), .int 0, .int 30])), .inl (30, fun _ => 0), .inr (.inr (4, [.ref (n + 19), .int 0, .int 30])), .inl (30, fun _ => 0), .inr (.inr (2, [.ref (n + 21), .ref (n + 28), .ref (n + 35), .int 0, .int 0, .int 0, .int 0, .int 0, .ref (n + 39), .ref (n + 41), .ref (n + 3), .int 3, .int 0, .int ((-1)), .int 0, .int 0, .int 0, .int 0])), .inr (.inr (5, [.int 0, .int 0, .int 0, .int 32, .int 0, .int ((-1)), .int 0, .int 0, .ref (n + 22), .ref (n + 24), .ref (n + 26), .int ((-1)), .int 0, .int ((-1)), .int 0])), .inr (.inr (4, [.ref (n + 23), .int 0, .int 60])), .inl (60, fun _ => 0), .inr (.inr (4, [.ref (n + 25), .int 0, .int 60])), .inl (60, fun _ => 0), .inr (.inr (4, [.ref (n + 27), .int 0, .int 60])), .inl (60, fun _ => 0), .inr (.inr (5, [.int 1, .int 0, .int 0, .int 32, .int 0, .int ((-1)), .int 0, .int 0, .ref (n + 29), .ref (n + 31), .ref (n + 33), .int ((-1)), .int 0, .int ((-1)), .int 0])), .inr (.inr (4, [.ref (n + 30), .int 0, .int 60])), .inl (60, fun _ => 0), .inr (.inr (4, [.ref (n + 32), .int 0, .int 60])), .inl (60, fun _ => 0), .inr (.inr (4, [.ref (n + 34), .int 0, .int 60])), .inl (60, fun _ => 0), .inr (.inr (6, [.int 1, .int 0, .int 0, .ref (n + 36), .ref (n + 37), .ref (n + 38), .int 0, .int ((-1)), .int 0, .int 0])), .inl (24, fun _ => 0), .inl (24, fun _ => 0), .inl (24, fun _ => 0), .inr (.inr (4, [.ref (n + 40), .int 0, .int 64])), .inl (64, fun _ => 0), .inr (.inr (4, [.ref (n + 42), .int 0, .int 64])), .inl (64, fun _ => 0), .inr (.inr (0, [.null, .null, .null, .int 0, .null, .null, .null]))]) (by simp only [List.append_assoc, List.cons_append, List.nil_append]) ?_
  refine g_dup (q := 50) C dX7_init_49 rfl rfl ?_
  refine g_heap (hp2 := (hp ++ [.inr (.inr (7, [.ref (n + 1), .ref (n + 3), .ref (n + 20), .null, .null, .null, .int 0])), .inr (.inr (4, [.ref (n + 2), .int 0, .int 96])), .inl (96, fun _ => 0), .inr (.inr (1, [.ref (n + 4), .ref (n + 6), .ref (n + 8), .ref (n + 10), .ref (n + 12), .ref (n + 14), .ref (n + 16), .ref (n + 18), .int ((-1))])), .inr (.inr (4, [.ref (n + 5), .int 0, .int 1048576])), .inl (256, fun _ => 0), .inr (.inr (4, [.ref (n + 7), .int 0, .int 65536])), .inl (32, fun _ => 0), .inr (.inr (4, [.ref (n + 9), .int 0, .int 65536])), .inl (32, fun _ => 0), .inr (.inr (4, [.ref (n + 11), .int 0, .int 65536])), .inl (32, fun _ => 0), .inr (.inr (4, [.ref (n + 13), .int 0, .int 256])), .inl (256, fun _ => 0), .inr (.inr (4, [.ref (n + 15), .int 0, .int 30])), .inl (30, fun _ => 0), .inr (.inr (4, [.ref (n + 17), .int 0, .int 30])), .inl (30, fun _ => 0), .inr (.inr (4, [.ref (n + 19), .int 0, .int 30])), .inl (30, fun _ => 0), .inr (.inr (2, [.ref (n + 21), .ref (n + 28), .ref (n + 35), .int 0, .int 0, .int 0, .int 0, .int 0, .ref (n + 39), .ref (n + 41), .ref (n + 3), .int 3, .int 0, .int ((-1)), .int 0, .int 0, .int 0, .int 0])), .inr (.inr (5, [.int 0, .int 0, .int 0, .int 32, .int 0, .int ((-1)), .int 0, .int 0, .ref (n + 22), .ref (n + 24), .ref (n + 26), .int ((-1)), .int 0, .int ((-1)), .int 0])), .inr (.inr (4, [.ref (n + 23), .int 0, .int 60])), .inl (60, fun _ => 0), .inr (.inr (4, [.ref (n + 25), .int 0, .int 60])), .inl (60, fun _ => 0), .inr (.inr (4, [.ref (n + 27), .int 0, .int 60])), .inl (60, fun _ => 0), .inr (.inr (5, [.int 1, .int 0, .int 0, .int 32, .int 0, .int ((-1)), .int 0, .int 0, .ref (n + 29), .ref (n + 31), .ref (n + 33), .int ((-1)), .int 0, .int ((-1)), .int 0])), .inr (.inr (4, [.ref (n + 30), .int 0, .int 60])), .inl (60, fun _ => 0), .inr (.inr (4, [.ref (n + 32), .int 0, .int 60])), .inl (60, fun _ => 0), .inr (.inr (4, [.ref (n + 34), .int 0, .int 60])), .inl (60, fun _ => 0), .inr (.inr (6, [.int 1, .int 0, .int 0, .ref (n + 36), .ref (n + 37), .ref (n + 38), .int 0, .int ((-1)), .int 0, .int 0])), .inl (24, fun _ => 0), .inl (24, fun _ => 0), .inl (24, fun _ => 0), .inr (.inr (4, [.ref (n + 40), .int 0, .int 64])), .inl (64, fun _ => 0), .inr (.inr (4, [.ref (n + 42), .int 0, .int 64])), .inl (64, fun _ => 0)]) ++ [.inr (.inr (0, [.null, .null, .null, .int 0, .null, .null, .null]))]) (by simp only [List.append_assoc, List.cons_append, List.nil_append]) ?_
  refine g_callINv (q := 53) (As := []) C gyX0_init giX0_init rfl (host := RX7) (by decide +kernel) (c_X0_init (n := n + 43) (by rw [List.length_append, hn]; rfl)) dX7_init_50 rfl rfl rfl (Nat.le_of_ble_eq_true rfl) (Nat.le_of_ble_eq_true rfl) (Nat.le_of_ble_eq_true rfl) (Nat.le_of_ble_eq_true rfl) (Nat.le_of_ble_eq_true rfl) rfl ?_
  refine g_heap (hp2 := hp ++ [.inr (.inr (7, [.ref (n + 1), .ref (n + 3), .ref (n + 20), .null, .null, .null, .int 0])), .inr (.inr (4, [.ref (n + 2), .int 0, .int 96])), .inl (96, fun _ => 0), .inr (.inr (1, [.ref (n + 4), .ref (n + 6), .ref (n + 8), .ref (n + 10), .ref (n + 12), .ref (n + 14), .ref (n + 16), .ref (n + 18), .int ((-1))])), .inr (.inr (4, [.ref (n + 5), .int 0, .int 1048576])), .inl (256, fun _ => 0), .inr (.inr (4, [.ref (n + 7), .int 0, .int 65536])), .inl (32, fun _ => 0), .inr (.inr (4, [.ref (n + 9), .int 0, .int 65536])), .inl (32, fun _ => 0), .inr (.inr (4, [.ref (n + 11), .int 0, .int 65536])), .inl (32, fun _ => 0), .inr (.inr (4, [.ref (n + 13), .int 0, .int 256])), .inl (256, fun _ => 0), .inr (.inr (4, [.ref (n + 15), .int 0, .int 30])), .inl (30, fun _ => 0), .inr (.inr (4, [.ref (n + 17), .int 0, .int 30])), .inl (30, fun _ => 0), .inr (.inr (4, [.ref (n + 19), .int 0, .int 30])), .inl (30, fun _ => 0), .inr (.inr (2, [.ref (n + 21), .ref (n + 28), .ref (n + 35), .int 0, .int 0, .int 0, .int 0, .int 0, .ref (n + 39), .ref (n + 41), .ref (n + 3), .int 3, .int 0, .int ((-1)), .int 0, .int 0, .int 0, .int 0])), .inr (.inr (5, [.int 0, .int 0, .int 0, .int 32, .int 0, .int ((-1)), .int 0, .int 0, .ref (n + 22), .ref (n + 24), .ref (n + 26), .int ((-1)), .int 0, .int ((-1)), .int 0])), .inr (.inr (4, [.ref (n + 23), .int 0, .int 60])), .inl (60, fun _ => 0), .inr (.inr (4, [.ref (n + 25), .int 0, .int 60])), .inl (60, fun _ => 0), .inr (.inr (4, [.ref (n + 27), .int 0, .int 60])), .inl (60, fun _ => 0), .inr (.inr (5, [.int 1, .int 0, .int 0, .int 32, .int 0, .int ((-1)), .int 0, .int 0, .ref (n + 29), .ref (n + 31), .ref (n + 33), .int ((-1)), .int 0, .int ((-1)), .int 0])), .inr (.inr (4, [.ref (n + 30), .int 0, .int 60])), .inl (60, fun _ => 0), .inr (.inr (4, [.ref (n + 32), .int 0, .int 60])), .inl (60, fun _ => 0), .inr (.inr (4, [.ref (n + 34), .int 0, .int 60])), .inl (60, fun _ => 0), .inr (.inr (6, [.int 1, .int 0, .int 0, .ref (n + 36), .ref (n + 37), .ref (n + 38), .int 0, .int ((-1)), .int 0, .int 0])), .inl (24, fun _ => 0), .inl (24, fun _ => 0), .inl (24, fun _ => 0), .inr (.inr (4, [.ref (n + 40), .int 0, .int 64])), .inl (64, fun _ => 0), .inr (.inr (4, [.ref (n + 42), .int 0, .int 64])), .inl (64, fun _ => 0), .inr (.inr (0, [.ref (n + 44), .ref (n + 67), .ref (n + 90), .int 0, .ref (n + 113), .ref (n + 114), .ref (n + 115)])), .inr (.inr (2, [.ref (n + 45), .ref (n + 52), .ref (n + 59), .int 0, .int 0, .int 0, .int 0, .int 0, .ref (n + 63), .ref (n + 65), .null, .int 3, .int 0, .int ((-1)), .int 0, .int 0, .int 0, .int 0])), .inr (.inr (5, [.int 0, .int 0, .int 0, .int 32, .int 0, .int ((-1)), .int 0, .int 0, .ref (n + 46), .ref (n + 48), .ref (n + 50), .int ((-1)), .int 0, .int ((-1)), .int 0])), .inr (.inr (4, [.ref (n + 47), .int 0, .int 60])), .inl (60, fun _ => 0), .inr (.inr (4, [.ref (n + 49), .int 0, .int 60])), .inl (60, fun _ => 0), .inr (.inr (4, [.ref (n + 51), .int 0, .int 60])), .inl (60, fun _ => 0), .inr (.inr (5, [.int 1, .int 0, .int 0, .int 32, .int 0, .int ((-1)), .int 0, .int 0, .ref (n + 53), .ref (n + 55), .ref (n + 57), .int ((-1)), .int 0, .int ((-1)), .int 0])), .inr (.inr (4, [.ref (n + 54), .int 0, .int 60])), .inl (60, fun _ => 0), .inr (.inr (4, [.ref (n + 56), .int 0, .int 60])), .inl (60, fun _ => 0), .inr (.inr (4, [.ref (n + 58), .int 0, .int 60])), .inl (60, fun _ => 0), .inr (.inr (6, [.int 1, .int 0, .int 0, .ref (n + 60), .ref (n + 61), .ref (n + 62), .int 0, .int ((-1)), .int 0, .int 0])), .inl (24, fun _ => 0), .inl (24, fun _ => 0), .inl (24, fun _ => 0), .inr (.inr (4, [.ref (n + 64), .int 0, .int 64])), .inl (64, fun _ => 0), .inr (.inr (4, [.ref (n + 66), .int 0, .int 64])), .inl (64, fun _ => 0), .inr (.inr (2, [.ref (n + 68), .ref (n + 75), .ref (n + 82), .int 0, .int 0, .int 0, .int 0, .int 0, .ref (n + 86), .ref (n + 88), .null, .int 3, .int 0, .int ((-1)), .int 0, .int 0, .int 0, .int 0])), .inr (.inr (5, [.int 0, .int 0, .int 0, .int 32, .int 0, .int ((-1)), .int 0, .int 0, .ref (n + 69), .ref (n + 71), .ref (n + 73), .int ((-1)), .int 0, .int ((-1)), .int 0])), .inr (.inr (4, [.ref (n + 70), .int 0, .int 60])), .inl (60, fun _ => 0), .inr (.inr (4, [.ref (n + 72), .int 0, .int 60])), .inl (60, fun _ => 0), .inr (.inr (4, [.ref (n + 74), .int 0, .int 60])), .inl (60, fun _ => 0), .inr (.inr (5, [.int 1, .int 0, .int 0, .int 32, .int 0, .int ((-1)), .int 0, .int 0, .ref (n + 76), .ref (n + 78), .ref (n + 80), .int ((-1)), .int 0, .int ((-1)), .int 0])), .inr (.inr (4, [.ref (n + 77), .int 0, .int 60])), .inl (60, fun _ => 0), .inr (.inr (4, [.ref (n + 79), .int 0, .int 60])), .inl (60, fun _ => 0), .inr (.inr (4, [.ref (n + 81), .int 0, .int 60])), .inl (60, fun _ => 0), .inr (.inr (6, [.int 1, .int 0, .int 0, .ref (n + 83), .ref (n + 84), .ref (n + 85), .int 0, .int ((-1)), .int 0, .int 0])), .inl (24, fun _ => 0), .inl (24, fun _ => 0), .inl (24, fun _ => 0), .inr (.inr (4, [.ref (n + 87), .int 0, .int 64])), .inl (64, fun _ => 0), .inr (.inr (4, [.ref (n + 89), .int 0, .int 64])), .inl (64, fun _ => 0), .inr (.inr (2, [.ref (n + 91), .ref (n + 98), .ref (n + 105), .int 0, .int 0, .int 0, .int 0, .int 0, .ref (n + 109), .ref (n + 111), .null, .int 3, .int 0, .int ((-1)), .int 0, .int 0, .int 0, .int 0])), .inr (.inr (5, [.int 0, .int 0, .int 0, .int 32, .int 0, .int ((-1)), .int 0, .int 0, .ref (n + 92), .ref (n + 94), .ref (n + 96), .int ((-1)), .int 0, .int ((-1)), .int 0])), .inr (.inr (4, [.ref (n + 93), .int 0, .int 60])), .inl (60, fun _ => 0), .inr (.inr (4, [.ref (n + 95), .int 0, .int 60])), .inl (60, fun _ => 0), .inr (.inr (4, [.ref (n + 97), .int 0, .int 60])), .inl (60, fun _ => 0), .inr (.inr (5, [.int 1, .int 0, .int 0, .int 32, .int 0, .int ((-1)), .int 0, .int 0, .ref (n + 99), .ref (n + 101), .ref (n + 103), .int ((-1)), .int 0, .int ((-1)), .int 0])), .inr (.inr (4, [.ref (n + 100), .int 0, .int 60])), .inl (60, fun _ => 0), .inr (.inr (4, [.ref (n + 102), .int 0, .int 60])), .inl (60, fun _ => 0), .inr (.inr (4, [.ref (n + 104), .int 0, .int 60])), .inl (60, fun _ => 0), .inr (.inr (6, [.int 1, .int 0, .int 0, .ref (n + 106), .ref (n + 107), .ref (n + 108), .int 0, .int ((-1)), .int 0, .int 0])), .inl (24, fun _ => 0), .inl (24, fun _ => 0), .inl (24, fun _ => 0), .inr (.inr (4, [.ref (n + 110), .int 0, .int 64])), .inl (64, fun _ => 0), .inr (.inr (4, [.ref (n + 112), .int 0, .int 64])), .inl (64, fun _ => 0), .inl (4, fun _ => 0), .inl (4, fun _ => 0), .inl (4, fun _ => 0)]) (by simp only [List.append_assoc, List.cons_append, List.nil_append, Nat.add_assoc, Nat.reduceAdd, Nat.add_zero]) ?_
  refine g_putE (q := 56) (hp' := hp ++ [.inr (.inr (7, [.ref (n + 1), .ref (n + 3), .ref (n + 20), .ref (n + 43), .null, .null, .int 0])), .inr (.inr (4, [.ref (n + 2), .int 0, .int 96])), .inl (96, fun _ => 0), .inr (.inr (1, [.ref (n + 4), .ref (n + 6), .ref (n + 8), .ref (n + 10), .ref (n + 12), .ref (n + 14), .ref (n + 16), .ref (n + 18), .int ((-1))])), .inr (.inr (4, [.ref (n + 5), .int 0, .int 1048576])), .inl (256, fun _ => 0), .inr (.inr (4, [.ref (n + 7), .int 0, .int 65536])), .inl (32, fun _ => 0), .inr (.inr (4, [.ref (n + 9), .int 0, .int 65536])), .inl (32, fun _ => 0), .inr (.inr (4, [.ref (n + 11), .int 0, .int 65536])), .inl (32, fun _ => 0), .inr (.inr (4, [.ref (n + 13), .int 0, .int 256])), .inl (256, fun _ => 0), .inr (.inr (4, [.ref (n + 15), .int 0, .int 30])), .inl (30, fun _ => 0), .inr (.inr (4, [.ref (n + 17), .int 0, .int 30])), .inl (30, fun _ => 0), .inr (.inr (4, [.ref (n + 19), .int 0, .int 30])), .inl (30, fun _ => 0), .inr (.inr (2, [.ref (n + 21), .ref (n + 28), .ref (n + 35), .int 0, .int 0, .int 0, .int 0, .int 0, .ref (n + 39), .ref (n + 41), .ref (n + 3), .int 3, .int 0, .int ((-1)), .int 0, .int 0, .int 0, .int 0])), .inr (.inr (5, [.int 0, .int 0, .int 0, .int 32, .int 0, .int ((-1)), .int 0, .int 0, .ref (n + 22), .ref (n + 24), .ref (n + 26), .int ((-1)), .int 0, .int ((-1)), .int 0])), .inr (.inr (4, [.ref (n + 23), .int 0, .int 60])), .inl (60, fun _ => 0), .inr (.inr (4, [.ref (n + 25), .int 0, .int 60])), .inl (60, fun _ => 0), .inr (.inr (4, [.ref (n + 27), .int 0, .int 60])), .inl (60, fun _ => 0), .inr (.inr (5, [.int 1, .int 0, .int 0, .int 32, .int 0, .int ((-1)), .int 0, .int 0, .ref (n + 29), .ref (n + 31), .ref (n + 33), .int ((-1)), .int 0, .int ((-1)), .int 0])), .inr (.inr (4, [.ref (n + 30), .int 0, .int 60])), .inl (60, fun _ => 0), .inr (.inr (4, [.ref (n + 32), .int 0, .int 60])), .inl (60, fun _ => 0), .inr (.inr (4, [.ref (n + 34), .int 0, .int 60])), .inl (60, fun _ => 0), .inr (.inr (6, [.int 1, .int 0, .int 0, .ref (n + 36), .ref (n + 37), .ref (n + 38), .int 0, .int ((-1)), .int 0, .int 0])), .inl (24, fun _ => 0), .inl (24, fun _ => 0), .inl (24, fun _ => 0), .inr (.inr (4, [.ref (n + 40), .int 0, .int 64])), .inl (64, fun _ => 0), .inr (.inr (4, [.ref (n + 42), .int 0, .int 64])), .inl (64, fun _ => 0), .inr (.inr (0, [.ref (n + 44), .ref (n + 67), .ref (n + 90), .int 0, .ref (n + 113), .ref (n + 114), .ref (n + 115)])), .inr (.inr (2, [.ref (n + 45), .ref (n + 52), .ref (n + 59), .int 0, .int 0, .int 0, .int 0, .int 0, .ref (n + 63), .ref (n + 65), .null, .int 3, .int 0, .int ((-1)), .int 0, .int 0, .int 0, .int 0])), .inr (.inr (5, [.int 0, .int 0, .int 0, .int 32, .int 0, .int ((-1)), .int 0, .int 0, .ref (n + 46), .ref (n + 48), .ref (n + 50), .int ((-1)), .int 0, .int ((-1)), .int 0])), .inr (.inr (4, [.ref (n + 47), .int 0, .int 60])), .inl (60, fun _ => 0), .inr (.inr (4, [.ref (n + 49), .int 0, .int 60])), .inl (60, fun _ => 0), .inr (.inr (4, [.ref (n + 51), .int 0, .int 60])), .inl (60, fun _ => 0), .inr (.inr (5, [.int 1, .int 0, .int 0, .int 32, .int 0, .int ((-1)), .int 0, .int 0, .ref (n + 53), .ref (n + 55), .ref (n + 57), .int ((-1)), .int 0, .int ((-1)), .int 0])), .inr (.inr (4, [.ref (n + 54), .int 0, .int 60])), .inl (60, fun _ => 0), .inr (.inr (4, [.ref (n + 56), .int 0, .int 60])), .inl (60, fun _ => 0), .inr (.inr (4, [.ref (n + 58), .int 0, .int 60])), .inl (60, fun _ => 0), .inr (.inr (6, [.int 1, .int 0, .int 0, .ref (n + 60), .ref (n + 61), .ref (n + 62), .int 0, .int ((-1)), .int 0, .int 0])), .inl (24, fun _ => 0), .inl (24, fun _ => 0), .inl (24, fun _ => 0), .inr (.inr (4, [.ref (n + 64), .int 0, .int 64])), .inl (64, fun _ => 0), .inr (.inr (4, [.ref (n + 66), .int 0, .int 64])), .inl (64, fun _ => 0), .inr (.inr (2, [.ref (n + 68), .ref (n + 75), .ref (n + 82), .int 0, .int 0, .int 0, .int 0, .int 0, .ref (n + 86), .ref (n + 88), .null, .int 3, .int 0, .int ((-1)), .int 0, .int 0, .int 0, .int 0])), .inr (.inr (5, [.int 0, .int 0, .int 0, .int 32, .int 0, .int ((-1)), .int 0, .int 0, .ref (n + 69), .ref (n + 71), .ref (n + 73), .int ((-1)), .int 0, .int ((-1)), .int 0])), .inr (.inr (4, [.ref (n + 70), .int 0, .int 60])), .inl (60, fun _ => 0), .inr (.inr (4, [.ref (n + 72), .int 0, .int 60])), .inl (60, fun _ => 0), .inr (.inr (4, [.ref (n + 74), .int 0, .int 60])), .inl (60, fun _ => 0), .inr (.inr (5, [.int 1, .int 0, .int 0, .int 32, .int 0, .int ((-1)), .int 0, .int 0, .ref (n + 76), .ref (n + 78), .ref (n + 80), .int ((-1)), .int 0, .int ((-1)), .int 0])), .inr (.inr (4, [.ref (n + 77), .int 0, .int 60])), .inl (60, fun _ => 0), .inr (.inr (4, [.ref (n + 79), .int 0, .int 60])), .inl (60, fun _ => 0), .inr (.inr (4, [.ref (n + 81), .int 0, .int 60])), .inl (60, fun _ => 0), .inr (.inr (6, [.int 1, .int 0, .int 0, .ref (n + 83), .ref (n + 84), .ref (n + 85), .int 0, .int ((-1)), .int 0, .int 0])), .inl (24, fun _ => 0), .inl (24, fun _ => 0), .inl (24, fun _ => 0), .inr (.inr (4, [.ref (n + 87), .int 0, .int 64])), .inl (64, fun _ => 0), .inr (.inr (4, [.ref (n + 89), .int 0, .int 64])), .inl (64, fun _ => 0), .inr (.inr (2, [.ref (n + 91), .ref (n + 98), .ref (n + 105), .int 0, .int 0, .int 0, .int 0, .int 0, .ref (n + 109), .ref (n + 111), .null, .int 3, .int 0, .int ((-1)), .int 0, .int 0, .int 0, .int 0])), .inr (.inr (5, [.int 0, .int 0, .int 0, .int 32, .int 0, .int ((-1)), .int 0, .int 0, .ref (n + 92), .ref (n + 94), .ref (n + 96), .int ((-1)), .int 0, .int ((-1)), .int 0])), .inr (.inr (4, [.ref (n + 93), .int 0, .int 60])), .inl (60, fun _ => 0), .inr (.inr (4, [.ref (n + 95), .int 0, .int 60])), .inl (60, fun _ => 0), .inr (.inr (4, [.ref (n + 97), .int 0, .int 60])), .inl (60, fun _ => 0), .inr (.inr (5, [.int 1, .int 0, .int 0, .int 32, .int 0, .int ((-1)), .int 0, .int 0, .ref (n + 99), .ref (n + 101), .ref (n + 103), .int ((-1)), .int 0, .int ((-1)), .int 0])), .inr (.inr (4, [.ref (n + 100), .int 0, .int 60])), .inl (60, fun _ => 0), .inr (.inr (4, [.ref (n + 102), .int 0, .int 60])), .inl (60, fun _ => 0), .inr (.inr (4, [.ref (n + 104), .int 0, .int 60])), .inl (60, fun _ => 0), .inr (.inr (6, [.int 1, .int 0, .int 0, .ref (n + 106), .ref (n + 107), .ref (n + 108), .int 0, .int ((-1)), .int 0, .int 0])), .inl (24, fun _ => 0), .inl (24, fun _ => 0), .inl (24, fun _ => 0), .inr (.inr (4, [.ref (n + 110), .int 0, .int 64])), .inl (64, fun _ => 0), .inr (.inr (4, [.ref (n + 112), .int 0, .int 64])), .inl (64, fun _ => 0), .inl (4, fun _ => 0), .inl (4, fun _ => 0), .inl (4, fun _ => 0)]) C fX7_37 dX7_init_53 rfl (gapp_new hn rfl) (Nat.le_of_ble_eq_true rfl) (Or.inr rfl) rfl rfl (by intro z h; cases h) rfl (gapp_set hn) ?_
  refine g_aload_n (q := 57) C dX7_init_56 rfl rfl ?_
  refine g_new (q := 60) (k := n + 116) C nX7_41 dX7_init_57 rfl (by rw [List.length_append, hn]; rfl) (Nat.le_of_ble_eq_true rfl) (Nat.le_of_ble_eq_true rfl) ?_
  refine g_heap (hp2 := hp ++ [.inr (.inr (7, [.ref (n + 1), .ref (n + 3), .ref (n + 20), .ref (n + 43), .null, .null, .int 0])), .inr (.inr (4, [.ref (n + 2), .int 0, .int 96])), .inl (96, fun _ => 0), .inr (.inr (1, [.ref (n + 4), .ref (n + 6), .ref (n + 8), .ref (n + 10), .ref (n + 12), .ref (n + 14), .ref (n + 16), .ref (n + 18), .int ((-1))])), .inr (.inr (4, [.ref (n + 5), .int 0, .int 1048576])), .inl (256, fun _ => 0), .inr (.inr (4, [.ref (n + 7), .int 0, .int 65536])), .inl (32, fun _ => 0), .inr (.inr (4, [.ref (n + 9), .int 0, .int 65536])), .inl (32, fun _ => 0), .inr (.inr (4, [.ref (n + 11), .int 0, .int 65536])), .inl (32, fun _ => 0), .inr (.inr (4, [.ref (n + 13), .int 0, .int 256])), .inl (256, fun _ => 0), .inr (.inr (4, [.ref (n + 15), .int 0, .int 30])), .inl (30, fun _ => 0), .inr (.inr (4, [.ref (n + 17), .int 0, .int 30])), .inl (30, fun _ => 0), .inr (.inr (4, [.ref (n + 19), .int 0, .int 30])), .inl (30, fun _ => 0), .inr (.inr (2, [.ref (n + 21), .ref (n + 28), .ref (n + 35), .int 0, .int 0, .int 0, .int 0, .int 0, .ref (n + 39), .ref (n + 41), .ref (n + 3), .int 3, .int 0, .int ((-1)), .int 0, .int 0, .int 0, .int 0])), .inr (.inr (5, [.int 0, .int 0, .int 0, .int 32, .int 0, .int ((-1)), .int 0, .int 0, .ref (n + 22), .ref (n + 24), .ref (n + 26), .int ((-1)), .int 0, .int ((-1)), .int 0])), .inr (.inr (4, [.ref (n + 23), .int 0, .int 60])), .inl (60, fun _ => 0), .inr (.inr (4, [.ref (n + 25), .int 0, .int 60])), .inl (60, fun _ => 0), .inr (.inr (4, [.ref (n + 27), .int 0, .int 60])), .inl (60, fun _ => 0), .inr (.inr (5, [.int 1, .int 0, .int 0, .int 32, .int 0, .int ((-1)), .int 0, .int 0, .ref (n + 29), .ref (n + 31), .ref (n + 33), .int ((-1)), .int 0, .int ((-1)), .int 0])), .inr (.inr (4, [.ref (n + 30), .int 0, .int 60])), .inl (60, fun _ => 0), .inr (.inr (4, [.ref (n + 32), .int 0, .int 60])), .inl (60, fun _ => 0), .inr (.inr (4, [.ref (n + 34), .int 0, .int 60])), .inl (60, fun _ => 0), .inr (.inr (6, [.int 1, .int 0, .int 0, .ref (n + 36), .ref (n + 37), .ref (n + 38), .int 0, .int ((-1)), .int 0, .int 0])), .inl (24, fun _ => 0), .inl (24, fun _ => 0), .inl (24, fun _ => 0), .inr (.inr (4, [.ref (n + 40), .int 0, .int 64])), .inl (64, fun _ => 0), .inr (.inr (4, [.ref (n + 42), .int 0, .int 64])), .inl (64, fun _ => 0), .inr (.inr (0, [.ref (n + 44), .ref (n + 67), .ref (n + 90), .int 0, .ref (n + 113), .ref (n + 114), .ref (n + 115)])), .inr (.inr (2, [.ref (n + 45), .ref (n + 52), .ref (n + 59), .int 0, .int 0, .int 0, .int 0, .int 0, .ref (n + 63), .ref (n + 65), .null, .int 3, .int 0, .int ((-1)), .int 0, .int 0, .int 0, .int 0])), .inr (.inr (5, [.int 0, .int 0, .int 0, .int 32, .int 0, .int ((-1)), .int 0, .int 0, .ref (n + 46), .ref (n + 48), .ref (n + 50), .int ((-1)), .int 0, .int ((-1)), .int 0])), .inr (.inr (4, [.ref (n + 47), .int 0, .int 60])), .inl (60, fun _ => 0), .inr (.inr (4, [.ref (n + 49), .int 0, .int 60])), .inl (60, fun _ => 0), .inr (.inr (4, [.ref (n + 51), .int 0, .int 60])), .inl (60, fun _ => 0), .inr (.inr (5, [.int 1, .int 0, .int 0, .int 32, .int 0, .int ((-1)), .int 0, .int 0, .ref (n + 53), .ref (n + 55), .ref (n + 57), .int ((-1)), .int 0, .int ((-1)), .int 0])), .inr (.inr (4, [.ref (n + 54), .int 0, .int 60])), .inl (60, fun _ => 0), .inr (.inr (4, [.ref (n + 56), .int 0, .int 60])), .inl (60, fun _ => 0), .inr (.inr (4, [.ref (n + 58), .int 0, .int 60])), .inl (60, fun _ => 0), .inr (.inr (6, [.int 1, .int 0, .int 0, .ref (n + 60), .ref (n + 61), .ref (n + 62), .int 0, .int ((-1)), .int 0, .int 0])), .inl (24, fun _ => 0), .inl (24, fun _ => 0), .inl (24, fun _ => 0), .inr (.inr (4, [.ref (n + 64), .int 0, .int 64])), .inl (64, fun _ => 0), .inr (.inr (4, [.ref (n + 66), .int 0, .int 64])), .inl (64, fun _ => 0), .inr (.inr (2, [.ref (n + 68), .ref (n + 75), .ref (n + 82), .int 0, .int 0, .int 0, .int 0, .int 0, .ref (n + 86), .ref (n + 88), .null, .int 3, .int 0, .int ((-1)), .int 0, .int 0, .int 0, .int 0])), .inr (.inr (5, [.int 0, .int 0, .int 0, .int 32, .int 0, .int ((-1)), .int 0, .int 0, .ref (n + 69), .ref (n + 71), .ref (n + 73), .int ((-1)), .int 0, .int ((-1)), .int 0])), .inr (.inr (4, [.ref (n + 70), .int 0, .int 60])), .inl (60, fun _ => 0), .inr (.inr (4, [.ref (n + 72), .int 0, .int 60])), .inl (60, fun _ => 0), .inr (.inr (4, [.ref (n + 74), .int 0, .int 60])), .inl (60, fun _ => 0), .inr (.inr (5, [.int 1, .int 0, .int 0, .int 32, .int 0, .int ((-1)), .int 0, .int 0, .ref (n + 76), .ref (n + 78), .ref (n + 80), .int ((-1)), .int 0, .int ((-1)), .int 0])), .inr (.inr (4, [.ref (n + 77), .int 0, .int 60])), .inl (60, fun _ => 0), .inr (.inr (4, [.ref (n + 79), .int 0, .int 60])), .inl (60, fun _ => 0), .inr (.inr (4, [.ref (n + 81), .int 0, .int 60])), .inl (60, fun _ => 0), .inr (.inr (6, [.int 1, .int 0, .int 0, .ref (n + 83), .ref (n + 84), .ref (n + 85), .int 0, .int ((-1)), .int 0, .int 0])), .inl (24, fun _ => 0), .inl (24, fun _ => 0), .inl (24, fun _ => 0), .inr (.inr (4, [.ref (n + 87), .int 0, .int 64])), .inl (64, fun _ => 0), .inr (.inr (4, [.ref (n + 89), .int 0, .int 64])), .inl (64, fun _ => 0), .inr (.inr (2, [.ref (n + 91), .ref (n + 98), .ref (n + 105), .int 0, .int 0, .int 0, .int 0, .int 0, .ref (n + 109), .ref (n + 111), .null, .int 3, .int 0, .int ((-1)), .int 0, .int 0, .int 0, .int 0])), .inr (.inr (5, [.int 0, .int 0, .int 0, .int 32, .int 0, .int ((-1)), .int 0, .int 0, .ref (n + 92), .ref (n + 94), .ref (n + 96), .int ((-1)), .int 0, .int ((-1)), .int 0])), .inr (.inr (4, [.ref (n + 93), .int 0, .int 60])), .inl (60, fun _ => 0), .inr (.inr (4, [.ref (n + 95), .int 0, .int 60])), .inl (60, fun _ => 0), .inr (.inr (4, [.ref (n + 97), .int 0, .int 60])), .inl (60, fun _ => 0), .inr (.inr (5, [.int 1, .int 0, .int 0, .int 32, .int 0, .int ((-1)), .int 0, .int 0, .ref (n + 99), .ref (n + 101), .ref (n + 103), .int ((-1)), .int 0, .int ((-1)), .int 0])), .inr (.inr (4, [.ref (n + 100), .int 0, .int 60])), .inl (60, fun _ => 0), .inr (.inr (4, [.ref (n + 102), .int 0, .int 60])), .inl (60, fun _ => 0), .inr (.inr (4, [.ref (n + 104), .int 0, .int 60])), .inl (60, fun _ => 0), .inr (.inr (6, [.int 1, .int 0, .int 0, .ref (n + 106), .ref (n + 107), .ref (n + 108), .int 0, .int ((-1)), .int 0, .int 0])), .inl (24, fun _ => 0), .inl (24, fun _ => 0), .inl (24, fun _ => 0), .inr (.inr (4, [.ref (n + 110), .int 0, .int 64])), .inl (64, fun _ => 0), .inr (.inr (4, [.ref (n + 112), .int 0, .int 64])), .inl (64, fun _ => 0), .inl (4, fun _ => 0), .inl (4, fun _ => 0), .inl (4, fun _ => 0), .inr (.inr (3, [.int 0, .int 0, .int 0, .int 0, .int 0, .int 0, .int 0, .null, .int 0, .int 0, .int 0]))]) (by simp only [List.append_assoc, List.cons_append, List.nil_append]) ?_
  refine g_dup (q := 61) C dX7_init_60 rfl rfl ?_
  refine g_heap (hp2 := (hp ++ [.inr (.inr (7, [.ref (n + 1), .ref (n + 3), .ref (n + 20), .ref (n + 43), .null, .null, .int 0])), .inr (.inr (4, [.ref (n + 2), .int 0, .int 96])), .inl (96, fun _ => 0), .inr (.inr (1, [.ref (n + 4), .ref (n + 6), .ref (n + 8), .ref (n + 10), .ref (n + 12), .ref (n + 14), .ref (n + 16), .ref (n + 18), .int ((-1))])), .inr (.inr (4, [.ref (n + 5), .int 0, .int 1048576])), .inl (256, fun _ => 0), .inr (.inr (4, [.ref (n + 7), .int 0, .int 65536])), .inl (32, fun _ => 0), .inr (.inr (4, [.ref (n + 9), .int 0, .int 65536])), .inl (32, fun _ => 0), .inr (.inr (4, [.ref (n + 11), .int 0, .int 65536])), .inl (32, fun _ => 0), .inr (.inr (4, [.ref (n + 13), .int 0, .int 256])), .inl (256, fun _ => 0), .inr (.inr (4, [.ref (n + 15), .int 0, .int 30])), .inl (30, fun _ => 0), .inr (.inr (4, [.ref (n + 17), .int 0, .int 30])), .inl (30, fun _ => 0), .inr (.inr (4, [.ref (n + 19), .int 0, .int 30])), .inl (30, fun _ => 0), .inr (.inr (2, [.ref (n + 21), .ref (n + 28), .ref (n + 35), .int 0, .int 0, .int 0, .int 0, .int 0, .ref (n + 39), .ref (n + 41), .ref (n + 3), .int 3, .int 0, .int ((-1)), .int 0, .int 0, .int 0, .int 0])), .inr (.inr (5, [.int 0, .int 0, .int 0, .int 32, .int 0, .int ((-1)), .int 0, .int 0, .ref (n + 22), .ref (n + 24), .ref (n + 26), .int ((-1)), .int 0, .int ((-1)), .int 0])), .inr (.inr (4, [.ref (n + 23), .int 0, .int 60])), .inl (60, fun _ => 0), .inr (.inr (4, [.ref (n + 25), .int 0, .int 60])), .inl (60, fun _ => 0), .inr (.inr (4, [.ref (n + 27), .int 0, .int 60])), .inl (60, fun _ => 0), .inr (.inr (5, [.int 1, .int 0, .int 0, .int 32, .int 0, .int ((-1)), .int 0, .int 0, .ref (n + 29), .ref (n + 31), .ref (n + 33), .int ((-1)), .int 0, .int ((-1)), .int 0])), .inr (.inr (4, [.ref (n + 30), .int 0, .int 60])), .inl (60, fun _ => 0), .inr (.inr (4, [.ref (n + 32), .int 0, .int 60])), .inl (60, fun _ => 0), .inr (.inr (4, [.ref (n + 34), .int 0, .int 60])), .inl (60, fun _ => 0), .inr (.inr (6, [.int 1, .int 0, .int 0, .ref (n + 36), .ref (n + 37), .ref (n + 38), .int 0, .int ((-1)), .int 0, .int 0])), .inl (24, fun _ => 0), .inl (24, fun _ => 0), .inl (24, fun _ => 0), .inr (.inr (4, [.ref (n + 40), .int 0, .int 64])), .inl (64, fun _ => 0), .inr (.inr (4, [.ref (n + 42), .int 0, .int 64])), .inl (64, fun _ => 0), .inr (.inr (0, [.ref (n + 44), .ref (n + 67), .ref (n + 90), .int 0, .ref (n + 113), .ref (n + 114), .ref (n + 115)])), .inr (.inr (2, [.ref (n + 45), .ref (n + 52), .ref (n + 59), .int 0, .int 0, .int 0, .int 0, .int 0, .ref (n + 63), .ref (n + 65), .null, .int 3, .int 0, .int ((-1)), .int 0, .int 0, .int 0, .int 0])), .inr (.inr (5, [.int 0, .int 0, .int 0, .int 32, .int 0, .int ((-1)), .int 0, .int 0, .ref (n + 46), .ref (n + 48), .ref (n + 50), .int ((-1)), .int 0, .int ((-1)), .int 0])), .inr (.inr (4, [.ref (n + 47), .int 0, .int 60])), .inl (60, fun _ => 0), .inr (.inr (4, [.ref (n + 49), .int 0, .int 60])), .inl (60, fun _ => 0), .inr (.inr (4, [.ref (n + 51), .int 0, .int 60])), .inl (60, fun _ => 0), .inr (.inr (5, [.int 1, .int 0, .int 0, .int 32, .int 0, .int ((-1)), .int 0, .int 0, .ref (n + 53), .ref (n + 55), .ref (n + 57), .int ((-1)), .int 0, .int ((-1)), .int 0])), .inr (.inr (4, [.ref (n + 54), .int 0, .int 60])), .inl (60, fun _ => 0), .inr (.inr (4, [.ref (n + 56), .int 0, .int 60])), .inl (60, fun _ => 0), .inr (.inr (4, [.ref (n + 58), .int 0, .int 60])), .inl (60, fun _ => 0), .inr (.inr (6, [.int 1, .int 0, .int 0, .ref (n + 60), .ref (n + 61), .ref (n + 62), .int 0, .int ((-1)), .int 0, .int 0])), .inl (24, fun _ => 0), .inl (24, fun _ => 0), .inl (24, fun _ => 0), .inr (.inr (4, [.ref (n + 64), .int 0, .int 64])), .inl (64, fun _ => 0), .inr (.inr (4, [.ref (n + 66), .int 0, .int 64])), .inl (64, fun _ => 0), .inr (.inr (2, [.ref (n + 68), .ref (n + 75), .ref (n + 82), .int 0, .int 0, .int 0, .int 0, .int 0, .ref (n + 86), .ref (n + 88), .null, .int 3, .int 0, .int ((-1)), .int 0, .int 0, .int 0, .int 0])), .inr (.inr (5, [.int 0, .int 0, .int 0, .int 32, .int 0, .int ((-1)), .int 0, .int 0, .ref (n + 69), .ref (n + 71), .ref (n + 73), .int ((-1)), .int 0, .int ((-1)), .int 0])), .inr (.inr (4, [.ref (n + 70), .int 0, .int 60])), .inl (60, fun _ => 0), .inr (.inr (4, [.ref (n + 72), .int 0, .int 60])), .inl (60, fun _ => 0), .inr (.inr (4, [.ref (n + 74), .int 0, .int 60])), .inl (60, fun _ => 0), .inr (.inr (5, [.int 1, .int 0, .int 0, .int 32, .int 0, .int ((-1)), .int 0, .int 0, .ref (n + 76), .ref (n + 78), .ref (n + 80), .int ((-1)), .int 0, .int ((-1)), .int 0])), .inr (.inr (4, [.ref (n + 77), .int 0, .int 60])), .inl (60, fun _ => 0), .inr (.inr (4, [.ref (n + 79), .int 0, .int 60])), .inl (60, fun _ => 0), .inr (.inr (4, [.ref (n + 81), .int 0, .int 60])), .inl (60, fun _ => 0), .inr (.inr (6, [.int 1, .int 0, .int 0, .ref (n + 83), .ref (n + 84), .ref (n + 85), .int 0, .int ((-1)), .int 0, .int 0])), .inl (24, fun _ => 0), .inl (24, fun _ => 0), .inl (24, fun _ => 0), .inr (.inr (4, [.ref (n + 87), .int 0, .int 64])), .inl (64, fun _ => 0), .inr (.inr (4, [.ref (n + 89), .int 0, .int 64])), .inl (64, fun _ => 0), .inr (.inr (2, [.ref (n + 91), .ref (n + 98), .ref (n + 105), .int 0, .int 0, .int 0, .int 0, .int 0, .ref (n + 109), .ref (n + 111), .null, .int 3, .int 0, .int ((-1)), .int 0, .int 0, .int 0, .int 0])), .inr (.inr (5, [.int 0, .int 0, .int 0, .int 32, .int 0, .int ((-1)), .int 0, .int 0, .ref (n + 92), .ref (n + 94), .ref (n + 96), .int ((-1)), .int 0, .int ((-1)), .int 0])), .inr (.inr (4, [.ref (n + 93), .int 0, .int 60])), .inl (60, fun _ => 0), .inr (.inr (4, [.ref (n + 95), .int 0, .int 60])), .inl (60, fun _ => 0), .inr (.inr (4, [.ref (n + 97), .int 0, .int 60])), .inl (60, fun _ => 0), .inr (.inr (5, [.int 1, .int 0, .int 0, .int 32, .int 0, .int ((-1)), .int 0, .int 0, .ref (n + 99), .ref (n + 101), .ref (n + 103), .int ((-1)), .int 0, .int ((-1)), .int 0])), .inr (.inr (4, [.ref (n + 100), .int 0, .int 60])), .inl (60, fun _ => 0), .inr (.inr (4, [.ref (n + 102), .int 0, .int 60])), .inl (60, fun _ => 0), .inr (.inr (4, [.ref (n + 104), .int 0, .int 60])), .inl (60, fun _ => 0), .inr (.inr (6, [.int 1, .int 0, .int 0, .ref (n + 106), .ref (n + 107), .ref (n + 108), .int 0, .int ((-1)), .int 0, .int 0])), .inl (24, fun _ => 0), .inl (24, fun _ => 0), .inl (24, fun _ => 0), .inr (.inr (4, [.ref (n + 110), .int 0, .int 64])), .inl (64, fun _ => 0), .inr (.inr (4, [.ref (n + 112), .int 0, .int 64])), .inl (64, fun _ => 0), .inl (4, fun _ => 0), .inl (4, fun _ => 0), .inl (4, fun _ => 0)]) ++ [.inr (.inr (3, [.int 0, .int 0, .int 0, .int 0, .int 0, .int 0, .int 0, .null, .int 0, .int 0, .int 0]))]) (by simp only [List.append_assoc, List.cons_append, List.nil_append]) ?_
  refine g_callINv (q := 64) (As := []) C gyX3_init giX3_init rfl (host := RX7) (by decide +kernel) (c_X3_init (n := n + 116) (by rw [List.length_append, hn]; rfl)) dX7_init_61 rfl rfl rfl (Nat.le_of_ble_eq_true rfl) (Nat.le_of_ble_eq_true rfl) (Nat.le_of_ble_eq_true rfl) (Nat.le_of_ble_eq_true rfl) (Nat.le_of_ble_eq_true rfl) rfl ?_
  refine g_heap (hp2 := hp ++ [.inr (.inr (7, [.ref (n + 1), .ref (n + 3), .ref (n + 20), .ref (n + 43), .null, .null, .int 0])), .inr (.inr (4, [.ref (n + 2), .int 0, .int 96])), .inl (96, fun _ => 0), .inr (.inr (1, [.ref (n + 4), .ref (n + 6), .ref (n + 8), .ref (n + 10), .ref (n + 12), .ref (n + 14), .ref (n + 16), .ref (n + 18), .int ((-1))])), .inr (.inr (4, [.ref (n + 5), .int 0, .int 1048576])), .inl (256, fun _ => 0), .inr (.inr (4, [.ref (n + 7), .int 0, .int 65536])), .inl (32, fun _ => 0), .inr (.inr (4, [.ref (n + 9), .int 0, .int 65536])), .inl (32, fun _ => 0), .inr (.inr (4, [.ref (n + 11), .int 0, .int 65536])), .inl (32, fun _ => 0), .inr (.inr (4, [.ref (n + 13), .int 0, .int 256])), .inl (256, fun _ => 0), .inr (.inr (4, [.ref (n + 15), .int 0, .int 30])), .inl (30, fun _ => 0), .inr (.inr (4, [.ref (n + 17), .int 0, .int 30])), .inl (30, fun _ => 0), .inr (.inr (4, [.ref (n + 19), .int 0, .int 30])), .inl (30, fun _ => 0), .inr (.inr (2, [.ref (n + 21), .ref (n + 28), .ref (n + 35), .int 0, .int 0, .int 0, .int 0, .int 0, .ref (n + 39), .ref (n + 41), .ref (n + 3), .int 3, .int 0, .int ((-1)), .int 0, .int 0, .int 0, .int 0])), .inr (.inr (5, [.int 0, .int 0, .int 0, .int 32, .int 0, .int ((-1)), .int 0, .int 0, .ref (n + 22), .ref (n + 24), .ref (n + 26), .int ((-1)), .int 0, .int ((-1)), .int 0])), .inr (.inr (4, [.ref (n + 23), .int 0, .int 60])), .inl (60, fun _ => 0), .inr (.inr (4, [.ref (n + 25), .int 0, .int 60])), .inl (60, fun _ => 0), .inr (.inr (4, [.ref (n + 27), .int 0, .int 60])), .inl (60, fun _ => 0), .inr (.inr (5, [.int 1, .int 0, .int 0, .int 32, .int 0, .int ((-1)), .int 0, .int 0, .ref (n + 29), .ref (n + 31), .ref (n + 33), .int ((-1)), .int 0, .int ((-1)), .int 0])), .inr (.inr (4, [.ref (n + 30), .int 0, .int 60])), .inl (60, fun _ => 0), .inr (.inr (4, [.ref (n + 32), .int 0, .int 60])), .inl (60, fun _ => 0), .inr (.inr (4, [.ref (n + 34), .int 0, .int 60])), .inl (60, fun _ => 0), .inr (.inr (6, [.int 1, .int 0, .int 0, .ref (n + 36), .ref (n + 37), .ref (n + 38), .int 0, .int ((-1)), .int 0, .int 0])), .inl (24, fun _ => 0), .inl (24, fun _ => 0), .inl (24, fun _ => 0), .inr (.inr (4, [.ref (n + 40), .int 0, .int 64])), .inl (64, fun _ => 0), .inr (.inr (4, [.ref (n + 42), .int 0, .int 64])), .inl (64, fun _ => 0), .inr (.inr (0, [.ref (n + 44), .ref (n + 67), .ref (n + 90), .int 0, .ref (n + 113), .ref (n + 114), .ref (n + 115)])), .inr (.inr (2, [.ref (n + 45), .ref (n + 52), .ref (n + 59), .int 0, .int 0, .int 0, .int 0, .int 0, .ref (n + 63), .ref (n + 65), .null, .int 3, .int 0, .int ((-1)), .int 0, .int 0, .int 0, .int 0])), .inr (.inr (5, [.int 0, .int 0, .int 0, .int 32, .int 0, .int ((-1)), .int 0, .int 0, .ref (n + 46), .ref (n + 48), .ref (n + 50), .int ((-1)), .int 0, .int ((-1)), .int 0])), .inr (.inr (4, [.ref (n + 47), .int 0, .int 60])), .inl (60, fun _ => 0), .inr (.inr (4, [.ref (n + 49), .int 0, .int 60])), .inl (60, fun _ => 0), .inr (.inr (4, [.ref (n + 51), .int 0, .int 60])), .inl (60, fun _ => 0), .inr (.inr (5, [.int 1, .int 0, .int 0, .int 32, .int 0, .int ((-1)), .int 0, .int 0, .ref (n + 53), .ref (n + 55), .ref (n + 57), .int ((-1)), .int 0, .int ((-1)), .int 0])), .inr (.inr (4, [.ref (n + 54), .int 0, .int 60])), .inl (60, fun _ => 0), .inr (.inr (4, [.ref (n + 56), .int 0, .int 60])), .inl (60, fun _ => 0), .inr (.inr (4, [.ref (n + 58), .int 0, .int 60])), .inl (60, fun _ => 0), .inr (.inr (6, [.int 1, .int 0, .int 0, .ref (n + 60), .ref (n + 61), .ref (n + 62), .int 0, .int ((-1)), .int 0, .int 0])), .inl (24, fun _ => 0), .inl (24, fun _ => 0), .inl (24, fun _ => 0), .inr (.inr (4, [.ref (n + 64), .int 0, .int 64])), .inl (64, fun _ => 0), .inr (.inr (4, [.ref (n + 66), .int 0, .int 64])), .inl (64, fun _ => 0), .inr (.inr (2, [.ref (n + 68), .ref (n + 75), .ref (n + 82), .int 0, .int 0, .int 0, .int 0, .int 0, .ref (n + 86), .ref (n + 88), .null, .int 3, .int 0, .int ((-1)), .int 0, .int 0, .int 0, .int 0])), .inr (.inr (5, [.int 0, .int 0, .int 0, .int 32, .int 0, .int ((-1)), .int 0, .int 0, .ref (n + 69), .ref (n + 71), .ref (n + 73), .int ((-1)), .int 0, .int ((-1)), .int 0])), .inr (.inr (4, [.ref (n + 70), .int 0, .int 60])), .inl (60, fun _ => 0), .inr (.inr (4, [.ref (n + 72), .int 0, .int 60])), .inl (60, fun _ => 0), .inr (.inr (4, [.ref (n + 74), .int 0, .int 60])), .inl (60, fun _ => 0), .inr (.inr (5, [.int 1, .int 0, .int 0, .int 32, .int 0, .int ((-1)), .int 0, .int 0, .ref (n + 76), .ref (n + 78), .ref (n + 80), .int ((-1)), .int 0, .int ((-1)), .int 0])), .inr (.inr (4, [.ref (n + 77), .int 0, .int 60])), .inl (60, fun _ => 0), .inr (.inr (4, [.ref (n + 79), .int 0, .int 60])), .inl (60, fun _ => 0), .inr (.inr (4, [.ref (n + 81), .int 0, .int 60])), .inl (60, fun _ => 0), .inr (.inr (6, [.int 1, .int 0, .int 0, .ref (n + 83), .ref (n + 84), .ref (n + 85), .int 0, .int ((-1)), .int 0, .int 0])), .inl (24, fun _ => 0), .inl (24, fun _ => 0), .inl (24, fun _ => 0), .inr (.inr (4, [.ref (n + 87), .int 0, .int 64])), .inl (64, fun _ => 0), .inr (.inr (4, [.ref (n + 89), .int 0, .int 64])), .inl (64, fun _ => 0), .inr (.inr (2, [.ref (n + 91), .ref (n + 98), .ref (n + 105), .int 0, .int 0, .int 0, .int 0, .int 0, .ref (n + 109), .ref (n + 111), .null, .int 3, .int 0, .int ((-1)), .int 0, .int 0, .int 0, .int 0])), .inr (.inr (5, [.int 0, .int 0, .int 0, .int 32, .int 0, .int ((-1)), .int 0, .int 0, .ref (n + 92), .ref (n + 94), .ref (n + 96), .int ((-1)), .int 0, .int ((-1)), .int 0])), .inr (.inr (4, [.ref (n + 93), .int 0, .int 60])), .inl (60, fun _ => 0), .inr (.inr (4, [.ref (n + 95), .int 0, .int 60])), .inl (60, fun _ => 0), .inr (.inr (4, [.ref (n + 97), .int 0, .int 60])), .inl (60, fun _ => 0), .inr (.inr (5, [.int 1, .int 0, .int 0, .int 32, .int 0, .int ((-1)), .int 0, .int 0, .ref (n + 99), .ref (n + 101), .ref (n + 103), .int ((-1)), .int 0, .int ((-1)), .int 0])), .inr (.inr (4, [.ref (n + 100), .int 0, .int 60])), .inl (60, fun _ => 0), .inr (.inr (4, [.ref (n + 102), .int 0, .int 60])), .inl (60, fun _ => 0), .inr (.inr (4, [.ref (n + 104), .int 0, .int 60])), .inl (60, fun _ => 0), .inr (.inr (6, [.int 1, .int 0, .int 0, .ref (n + 106), .ref (n + 107), .ref (n + 108), .int 0, .int ((-1)), .int 0, .int 0])), .inl (24, fun _ => 0), .inl (24, fun _ => 0), .inl (24, fun _ => 0), .inr (.inr (4, [.ref (n + 110), .int 0, .int 64])), .inl (64, fun _ => 0), .inr (.inr (4, [.ref (n + 112), .int 0, .int 64])), .inl (64, fun _ => 0), .inl (4, fun _ => 0), .inl (4, fun _ => 0), .inl (4, fun _ => 0), .inr (.inr (3, [.int 0, .int 0, .int 0, .int 0, .int 0, .int 0, .int 0, .ref (n + 117), .int 0, .int 0, .int 0])), .inr (.inr (4, [.ref (n + 118), .int 0, .int 15])), .inl (15, fun _ => 0)]) (by simp only [List.append_assoc, List.cons_append, List.nil_append, Nat.add_assoc, Nat.reduceAdd, Nat.add_zero]) ?_
  refine g_putE (q := 67) (hp' := hp ++ [.inr (.inr (7, [.ref (n + 1), .ref (n + 3), .ref (n + 20), .ref (n + 43), .ref (n + 116), .null, .int 0])), .inr (.inr (4, [.ref (n + 2), .int 0, .int 96])), .inl (96, fun _ => 0), .inr (.inr (1, [.ref (n + 4), .ref (n + 6), .ref (n + 8), .ref (n + 10), .ref (n + 12), .ref (n + 14), .ref (n + 16), .ref (n + 18), .int ((-1))])), .inr (.inr (4, [.ref (n + 5), .int 0, .int 1048576])), .inl (256, fun _ => 0), .inr (.inr (4, [.ref (n + 7), .int 0, .int 65536])), .inl (32, fun _ => 0), .inr (.inr (4, [.ref (n + 9), .int 0, .int 65536])), .inl (32, fun _ => 0), .inr (.inr (4, [.ref (n + 11), .int 0, .int 65536])), .inl (32, fun _ => 0), .inr (.inr (4, [.ref (n + 13), .int 0, .int 256])), .inl (256, fun _ => 0), .inr (.inr (4, [.ref (n + 15), .int 0, .int 30])), .inl (30, fun _ => 0), .inr (.inr (4, [.ref (n + 17), .int 0, .int 30])), .inl (30, fun _ => 0), .inr (.inr (4, [.ref (n + 19), .int 0, .int 30])), .inl (30, fun _ => 0), .inr (.inr (2, [.ref (n + 21), .ref (n + 28), .ref (n + 35), .int 0, .int 0, .int 0, .int 0, .int 0, .ref (n + 39), .ref (n + 41), .ref (n + 3), .int 3, .int 0, .int ((-1)), .int 0, .int 0, .int 0, .int 0])), .inr (.inr (5, [.int 0, .int 0, .int 0, .int 32, .int 0, .int ((-1)), .int 0, .int 0, .ref (n + 22), .ref (n + 24), .ref (n + 26), .int ((-1)), .int 0, .int ((-1)), .int 0])), .inr (.inr (4, [.ref (n + 23), .int 0, .int 60])), .inl (60, fun _ => 0), .inr (.inr (4, [.ref (n + 25), .int 0, .int 60])), .inl (60, fun _ => 0), .inr (.inr (4, [.ref (n + 27), .int 0, .int 60])), .inl (60, fun _ => 0), .inr (.inr (5, [.int 1, .int 0, .int 0, .int 32, .int 0, .int ((-1)), .int 0, .int 0, .ref (n + 29), .ref (n + 31), .ref (n + 33), .int ((-1)), .int 0, .int ((-1)), .int 0])), .inr (.inr (4, [.ref (n + 30), .int 0, .int 60])), .inl (60, fun _ => 0), .inr (.inr (4, [.ref (n + 32), .int 0, .int 60])), .inl (60, fun _ => 0), .inr (.inr (4, [.ref (n + 34), .int 0, .int 60])), .inl (60, fun _ => 0), .inr (.inr (6, [.int 1, .int 0, .int 0, .ref (n + 36), .ref (n + 37), .ref (n + 38), .int 0, .int ((-1)), .int 0, .int 0])), .inl (24, fun _ => 0), .inl (24, fun _ => 0), .inl (24, fun _ => 0), .inr (.inr (4, [.ref (n + 40), .int 0, .int 64])), .inl (64, fun _ => 0), .inr (.inr (4, [.ref (n + 42), .int 0, .int 64])), .inl (64, fun _ => 0), .inr (.inr (0, [.ref (n + 44), .ref (n + 67), .ref (n + 90), .int 0, .ref (n + 113), .ref (n + 114), .ref (n + 115)])), .inr (.inr (2, [.ref (n + 45), .ref (n + 52), .ref (n + 59), .int 0, .int 0, .int 0, .int 0, .int 0, .ref (n + 63), .ref (n + 65), .null, .int 3, .int 0, .int ((-1)), .int 0, .int 0, .int 0, .int 0])), .inr (.inr (5, [.int 0, .int 0, .int 0, .int 32, .int 0, .int ((-1)), .int 0, .int 0, .ref (n + 46), .ref (n + 48), .ref (n + 50), .int ((-1)), .int 0, .int ((-1)), .int 0])), .inr (.inr (4, [.ref (n + 47), .int 0, .int 60])), .inl (60, fun _ => 0), .inr (.inr (4, [.ref (n + 49), .int 0, .int 60])), .inl (60, fun _ => 0), .inr (.inr (4, [.ref (n + 51), .int 0, .int 60])), .inl (60, fun _ => 0), .inr (.inr (5, [.int 1, .int 0, .int 0, .int 32, .int 0, .int ((-1)), .int 0, .int 0, .ref (n + 53), .ref (n + 55), .ref (n + 57), .int ((-1)), .int 0, .int ((-1)), .int 0])), .inr (.inr (4, [.ref (n + 54), .int 0, .int 60])), .inl (60, fun _ => 0), .inr (.inr (4, [.ref (n + 56), .int 0, .int 60])), .inl (60, fun _ => 0), .inr (.inr (4, [.ref (n + 58), .int 0, .int 60])), .inl (60, fun _ => 0), .inr (.inr (6, [.int 1, .int 0, .int 0, .ref (n + 60), .ref (n + 61), .ref (n + 62), .int 0, .int ((-1)), .int 0, .int 0])), .inl (24, fun _ => 0), .inl (24, fun _ => 0), .inl (24, fun _ => 0), .inr (.inr (4, [.ref (n + 64), .int 0, .int 64])), .inl (64, fun _ => 0), .inr (.inr (4, [.ref (n + 66), .int 0, .int 64])), .inl (64, fun _ => 0), .inr (.inr (2, [.ref (n + 68), .ref (n + 75), .ref (n + 82), .int 0, .int 0, .int 0, .int 0, .int 0, .ref (n + 86), .ref (n + 88), .null, .int 3, .int 0, .int ((-1)), .int 0, .int 0, .int 0, .int 0])), .inr (.inr (5, [.int 0, .int 0, .int 0, .int 32, .int 0, .int ((-1)), .int 0, .int 0, .ref (n + 69), .ref (n + 71), .ref (n + 73), .int ((-1)), .int 0, .int ((-1)), .int 0])), .inr (.inr (4, [.ref (n + 70), .int 0, .int 60])), .inl (60, fun _ => 0), .inr (.inr (4, [.ref (n + 72), .int 0, .int 60])), .inl (60, fun _ => 0), .inr (.inr (4, [.ref (n + 74), .int 0, .int 60])), .inl (60, fun _ => 0), .inr (.inr (5, [.int 1, .int 0, .int 0, .int 32, .int 0, .int ((-1)), .int 0, .int 0, .ref (n + 76), .ref (n + 78), .ref (n + 80), .int ((-1)), .int 0, .int ((-1)), .int 0])), .inr (.inr (4, [.ref (n + 77), .int 0, .int 60])), .inl (60, fun _ => 0), .inr (.inr (4, [.ref (n + 79), .int 0, .int 60])), .inl (60, fun _ => 0), .inr (.inr (4, [.ref (n + 81), .int 0, .int 60])), .inl (60, fun _ => 0), .inr (.inr (6, [.int 1, .int 0, .int 0, .ref (n + 83), .ref (n + 84), .ref (n + 85), .int 0, .int ((-1)), .int 0, .int 0])), .inl (24, fun _ => 0), .inl (24, fun _ => 0), .inl (24, fun _ => 0), .inr (.inr (4, [.ref (n + 87), .int 0, .int 64])), .inl (64, fun _ => 0), .inr (.inr (4, [.ref (n + 89), .int 0, .int 64])), .inl (64, fun _ => 0), .inr (.inr (2, [.ref (n + 91), .ref (n + 98), .ref (n + 105), .int 0, .int 0, .int 0, .int 0, .int 0, .ref (n + 109), .ref (n + 111), .null, .int 3, .int 0, .int ((-1)), .int 0, .int 0, .int 0, .int 0])), .inr (.inr (5, [.int 0, .int 0, .int 0, .int 32, .int 0, .int ((-1)), .int 0, .int 0, .ref (n + 92), .ref (n + 94), .ref (n + 96), .int ((-1)), .int 0, .int ((-1)), .int 0])), .inr (.inr (4, [.ref (n + 93), .int 0, .int 60])), .inl (60, fun _ => 0), .inr (.inr (4, [.ref (n + 95), .int 0, .int 60])), .inl (60, fun _ => 0), .inr (.inr (4, [.ref (n + 97), .int 0, .int 60])), .inl (60, fun _ => 0), .inr (.inr (5, [.int 1, .int 0, .int 0, .int 32, .int 0, .int ((-1)), .int 0, .int 0, .ref (n + 99), .ref (n + 101), .ref (n + 103), .int ((-1)), .int 0, .int ((-1)), .int 0])), .inr (.inr (4, [.ref (n + 100), .int 0, .int 60])), .inl (60, fun _ => 0), .inr (.inr (4, [.ref (n + 102), .int 0, .int 60])), .inl (60, fun _ => 0), .inr (.inr (4, [.ref (n + 104), .int 0, .int 60])), .inl (60, fun _ => 0), .inr (.inr (6, [.int 1, .int 0, .int 0, .ref (n + 106), .ref (n + 107), .ref (n + 108), .int 0, .int ((-1)), .int 0, .int 0])), .inl (24, fun _ => 0), .inl (24, fun _ => 0), .inl (24, fun _ => 0), .inr (.inr (4, [.ref (n + 110), .int 0, .int 64])), .inl (64, fun _ => 0), .inr (.inr (4, [.ref (n + 112), .int 0, .int 64])), .inl (64, fun _ => 0), .inl (4, fun _ => 0), .inl (4, fun _ => 0), .inl (4, fun _ => 0), .inr (.inr (3, [.int 0, .int 0, .int 0, .int 0, .int 0, .int 0, .int 0, .ref (n + 117), .int 0, .int 0, .int 0])), .inr (.inr (4, [.ref (n + 118), .int 0, .int 15])), .inl (15, fun _ => 0)]) C fX7_44 dX7_init_64 rfl (gapp_new hn rfl) (Nat.le_of_ble_eq_true rfl) (Or.inl rfl) rfl rfl (by intro z h; cases h) rfl (gapp_set hn) ?_
  refine g_aload_n (q := 68) C dX7_init_67 rfl rfl ?_
  refine g_new (q := 71) (k := n + 119) C nX7_41 dX7_init_68 rfl (by rw [List.length_append, hn]; rfl) (Nat.le_of_ble_eq_true rfl) (Nat.le_of_ble_eq_true rfl) ?_
  refine g_heap (hp2 := hp ++ [.inr (.inr (7, [.ref (n + 1), .ref (n + 3), .ref (n + 20), .ref (n + 43), .ref (n + 116), .null, .int 0])), .inr (.inr (4, [.ref (n + 2), .int 0, .int 96])), .inl (96, fun _ => 0), .inr (.inr (1, [.ref (n + 4), .ref (n + 6), .ref (n + 8), .ref (n + 10), .ref (n + 12), .ref (n + 14), .ref (n + 16), .ref (n + 18), .int ((-1))])), .inr (.inr (4, [.ref (n + 5), .int 0, .int 1048576])), .inl (256, fun _ => 0), .inr (.inr (4, [.ref (n + 7), .int 0, .int 65536])), .inl (32, fun _ => 0), .inr (.inr (4, [.ref (n + 9), .int 0, .int 65536])), .inl (32, fun _ => 0), .inr (.inr (4, [.ref (n + 11), .int 0, .int 65536])), .inl (32, fun _ => 0), .inr (.inr (4, [.ref (n + 13), .int 0, .int 256])), .inl (256, fun _ => 0), .inr (.inr (4, [.ref (n + 15), .int 0, .int 30])), .inl (30, fun _ => 0), .inr (.inr (4, [.ref (n + 17), .int 0, .int 30])), .inl (30, fun _ => 0), .inr (.inr (4, [.ref (n + 19), .int 0, .int 30])), .inl (30, fun _ => 0), .inr (.inr (2, [.ref (n + 21), .ref (n + 28), .ref (n + 35), .int 0, .int 0, .int 0, .int 0, .int 0, .ref (n + 39), .ref (n + 41), .ref (n + 3), .int 3, .int 0, .int ((-1)), .int 0, .int 0, .int 0, .int 0])), .inr (.inr (5, [.int 0, .int 0, .int 0, .int 32, .int 0, .int ((-1)), .int 0, .int 0, .ref (n + 22), .ref (n + 24), .ref (n + 26), .int ((-1)), .int 0, .int ((-1)), .int 0])), .inr (.inr (4, [.ref (n + 23), .int 0, .int 60])), .inl (60, fun _ => 0), .inr (.inr (4, [.ref (n + 25), .int 0, .int 60])), .inl (60, fun _ => 0), .inr (.inr (4, [.ref (n + 27), .int 0, .int 60])), .inl (60, fun _ => 0), .inr (.inr (5, [.int 1, .int 0, .int 0, .int 32, .int 0, .int ((-1)), .int 0, .int 0, .ref (n + 29), .ref (n + 31), .ref (n + 33), .int ((-1)), .int 0, .int ((-1)), .int 0])), .inr (.inr (4, [.ref (n + 30), .int 0, .int 60])), .inl (60, fun _ => 0), .inr (.inr (4, [.ref (n + 32), .int 0, .int 60])), .inl (60, fun _ => 0), .inr (.inr (4, [.ref (n + 34), .int 0, .int 60])), .inl (60, fun _ => 0), .inr (.inr (6, [.int 1, .int 0, .int 0, .ref (n + 36), .ref (n + 37), .ref (n + 38), .int 0, .int ((-1)), .int 0, .int 0])), .inl (24, fun _ => 0), .inl (24, fun _ => 0), .inl (24, fun _ => 0), .inr (.inr (4, [.ref (n + 40), .int 0, .int 64])), .inl (64, fun _ => 0), .inr (.inr (4, [.ref (n + 42), .int 0, .int 64])), .inl (64, fun _ => 0), .inr (.inr (0, [.ref (n + 44), .ref (n + 67), .ref (n + 90), .int 0, .ref (n + 113), .ref (n + 114), .ref (n + 115)])), .inr (.inr (2, [.ref (n + 45), .ref (n + 52), .ref (n + 59), .int 0, .int 0, .int 0, .int 0, .int 0, .ref (n + 63), .ref (n + 65), .null, .int 3, .int 0, .int ((-1)), .int 0, .int 0, .int 0, .int 0])), .inr (.inr (5, [.int 0, .int 0, .int 0, .int 32, .int 0, .int ((-1)), .int 0, .int 0, .ref (n + 46), .ref (n + 48), .ref (n + 50), .int ((-1)), .int 0, .int ((-1)), .int 0])), .inr (.inr (4, [.ref (n + 47), .int 0, .int 60])), .inl (60, fun _ => 0), .inr (.inr (4, [.ref (n + 49), .int 0, .int 60])), .inl (60, fun _ => 0), .inr (.inr (4, [.ref (n + 51), .int 0, .int 60])), .inl (60, fun _ => 0), .inr (.inr (5, [.int 1, .int 0, .int 0, .int 32, .int 0, .int ((-1)), .int 0, .int 0, .ref (n + 53), .ref (n + 55), .ref (n + 57), .int ((-1)), .int 0, .int ((-1)), .int 0])), .inr (.inr (4, [.ref (n + 54), .int 0, .int 60])), .inl (60, fun _ => 0), .inr (.inr (4, [.ref (n + 56), .int 0, .int 60])), .inl (60, fun _ => 0), .inr (.inr (4, [.ref (n + 58), .int 0, .int 60])), .inl (60, fun _ => 0), .inr (.inr (6, [.int 1, .int 0, .int 0, .ref (n + 60), .ref (n + 61), .ref (n + 62), .int 0, .int ((-1)), .int 0, .int 0])), .inl (24, fun _ => 0), .inl (24, fun _ => 0), .inl (24, fun _ => 0), .inr (.inr (4, [.ref (n + 64), .int 0, .int 64])), .inl (64, fun _ => 0), .inr (.inr (4, [.ref (n + 66), .int 0, .int 64])), .inl (64, fun _ => 0), .inr (.inr (2, [.ref (n + 68), .ref (n + 75), .ref (n + 82), .int 0, .int 0, .int 0, .int 0, .int 0, .ref (n + 86), .ref (n + 88), .null, .int 3, .int 0, .int ((-1)), .int 0, .int 0, .int 0, .int 0])), .inr (.inr (5, [.int 0, .int 0, .int 0, .int 32, .int 0, .int ((-1)), .int 0, .int 0, .ref (n + 69), .ref (n + 71), .ref (n + 73), .int ((-1)), .int 0, .int ((-1)), .int 0])), .inr (.inr (4, [.ref (n + 70), .int 0, .int 60])), .inl (60, fun _ => 0), .inr (.inr (4, [.ref (n + 72), .int 0, .int 60])), .inl (60, fun _ => 0), .inr (.inr (4, [.ref (n + 74), .int 0, .int 60])), .inl (60, fun _ => 0), .inr (.inr (5, [.int 1, .int 0, .int 0, .int 32, .int 0, .int ((-1)), .int 0, .int 0, .ref (n + 76), .ref (n + 78), .ref (n + 80), .int ((-1)), .int 0, .int ((-1)), .int 0])), .inr (.inr (4, [.ref (n + 77), .int 0, .int 60])), .inl (60, fun _ => 0), .inr (.inr (4, [.ref (n + 79), .int 0, .int 60])), .inl (60, fun _ => 0), .inr (.inr (4, [.ref (n + 81), .int 0, .int 60])), .inl (60, fun _ => 0), .inr (.inr (6, [.int 1, .int 0, .int 0, .ref (n + 83), .ref (n + 84), .ref (n + 85), .int 0, .int ((-1)), .int 0, .int 0])), .inl (24, fun _ => 0), .inl (24, fun _ => 0), .inl (24, fun _ => 0), .inr (.inr (4, [.ref (n + 87), .int 0, .int 64])), .inl (64, fun _ => 0), .inr (.inr (4, [.ref (n + 89), .int 0, .int 64])), .inl (64, fun _ => 0), .inr (.inr (2, [.ref (n + 91), .ref (n + 98), .ref (n + 105), .int 0, .int 0, .int 0, .int 0, .int 0, .ref (n + 109), .ref (n + 111), .null, .int 3, .int 0, .int ((-1)), .int 0, .int 0, .int 0, .int 0])), .inr (.inr (5, [.int 0, .int 0, .int 0, .int 32, .int 0, .int ((-1)), .int 0, .int 0, .ref (n + 92), .ref (n + 94), .ref (n + 96), .int ((-1)), .int 0, .int ((-1)), .int 0])), .inr (.inr (4, [.ref (n + 93), .int 0, .int 60])), .inl (60, fun _ => 0), .inr (.inr (4, [.ref (n + 95), .int 0, .int 60])), .inl (60, fun _ => 0), .inr (.inr (4, [.ref (n + 97), .int 0, .int 60])), .inl (60, fun _ => 0), .inr (.inr (5, [.int 1, .int 0, .int 0, .int 32, .int 0, .int ((-1)), .int 0, .int 0, .ref (n + 99), .ref (n + 101), .ref (n + 103), .int ((-1)), .int 0, .int ((-1)), .int 0])), .inr (.inr (4, [.ref (n + 100), .int 0, .int 60])), .inl (60, fun _ => 0), .inr (.inr (4, [.ref (n + 102), .int 0, .int 60])), .inl (60, fun _ => 0), .inr (.inr (4, [.ref (n + 104), .int 0, .int 60])), .inl (60, fun _ => 0), .inr (.inr (6, [.int 1, .int 0, .int 0, .ref (n + 106), .ref (n + 107), .ref (n + 108), .int 0, .int ((-1)), .int 0, .int 0])), .inl (24, fun _ => 0), .inl (24, fun _ => 0), .inl (24, fun _ => 0), .inr (.inr (4, [.ref (n + 110), .int 0, .int 64])), .inl (64, fun _ => 0), .inr (.inr (4, [.ref (n + 112), .int 0, .int 64])), .inl (64, fun _ => 0), .inl (4, fun _ => 0), .inl (4, fun _ => 0), .inl (4, fun _ => 0), .inr (.inr (3, [.int 0, .int 0, .int 0, .int 0, .int 0, .int 0, .int 0, .ref (n + 117), .int 0, .int 0, .int 0])), .inr (.inr (4, [.ref (n + 118), .int 0, .int 15])), .inl (15, fun _ => 0), .inr (.inr (3, [.int 0, .int 0, .int 0, .int 0, .int 0, .int 0, .int 0, .null, .int 0, .int 0, .int 0]))]) (by simp only [List.append_assoc, List.cons_append, List.nil_append]) ?_
  refine g_dup (q := 72) C dX7_init_71 rfl rfl ?_
  refine g_heap (hp2 := (hp ++ [.inr (.inr (7, [.ref (n + 1), .ref (n + 3), .ref (n + 20), .ref (n + 43), .ref (n + 116), .null, .int 0])), .inr (.inr (4, [.ref (n + 2), .int 0, .int 96])), .inl (96, fun _ => 0), .inr (.inr (1, [.ref (n + 4), .ref (n + 6), .ref (n + 8), .ref (n + 10), .ref (n + 12), .ref (n + 14), .ref (n + 16), .ref (n + 18), .int ((-1))])), .inr (.inr (4, [.ref (n + 5), .int 0, .int 1048576])), .inl (256, fun _ => 0), .inr (.inr (4, [.ref (n + 7), .int 0, .int 65536])), .inl (32, fun _ => 0), .inr (.inr (4, [.ref (n + 9), .int 0, .int 65536])), .inl (32, fun _ => 0), .inr (.inr (4, [.ref (n + 11), .int 0, .int 65536])), .inl (32, fun _ => 0), .inr (.inr (4, [.ref (n + 13), .int 0, .int 256])), .inl (256, fun _ => 0), .inr (.inr (4, [.ref (n + 15), .int 0, .int 30])), .inl (30, fun _ => 0), .inr (.inr (4, [.ref (n + 17), .int 0, .int 30])), .inl (30, fun _ => 0), .inr (.inr (4, [.ref (n + 19), .int 0, .int 30])), .inl (30, fun _ => 0), .inr (.inr (2, [.ref (n + 21), .ref (n + 28), .ref (n + 35), .int 0, .int 0, .int 0, .int 0, .int 0, .ref (n + 39), .ref (n + 41), .ref (n + 3), .int 3, .int 0, .int ((-1)), .int 0, .int 0, .int 0, .int 0])), .inr (.inr (5, [.int 0, .int 0, .int 0, .int 32, .int 0, .int ((-1)), .int 0, .int 0, .ref (n + 22), .ref (n + 24), .ref (n + 26), .int ((-1)), .int 0, .int ((-1)), .int 0])), .inr (.inr (4, [.ref (n + 23), .int 0, .int 60])), .inl (60, fun _ => 0), .inr (.inr (4, [.ref (n + 25), .int 0, .int 60])), .inl (60, fun _ => 0), .inr (.inr (4, [.ref (n + 27), .int 0, .int 60])), .inl (60, fun _ => 0), .inr (.inr (5, [.int 1, .int 0, .int 0, .int 32, .int 0, .int ((-1)), .int 0, .int 0, .ref (n + 29), .ref (n + 31), .ref (n + 33), .int ((-1)), .int 0, .int ((-1)), .int 0])), .inr (.inr (4, [.ref (n + 30), .int 0, .int 60])), .inl (60, fun _ => 0), .inr (.inr (4, [.ref (n + 32), .int 0, .int 60])), .inl (60, fun _ => 0), .inr (.inr (4, [.ref (n + 34), .int 0, .int 60])), .inl (60, fun _ => 0), .inr (.inr (6, [.int 1, .int 0, .int 0, .ref (n + 36), .ref (n + 37), .ref (n + 38), .int 0, .int ((-1)), .int 0, .int 0])), .inl (24, fun _ => 0), .inl (24, fun _ => 0), .inl (24, fun _ => 0), .inr (.inr (4, [.ref (n + 40), .int 0, .int 64])), .inl (64, fun _ => 0), .inr (.inr (4, [.ref (n + 42), .int 0, .int 64])), .inl (64, fun _ => 0), .inr (.inr (0, [.ref (n + 44), .ref (n + 67), .ref (n + 90), .int 0, .ref (n + 113), .ref (n + 114), .ref (n + 115)])), .inr (.inr (2, [.ref (n + 45), .ref (n + 52), .ref (n + 59), .int 0, .int 0, .int 0, .int 0, .int 0, .ref (n + 63), .ref (n + 65), .null, .int 3, .int 0, .int ((-1)), .int 0, .int 0, .int 0, .int 0])), .inr (.inr (5, [.int 0, .int 0, .int 0, .int 32, .int 0, .int ((-1)), .int 0, .int 0, .ref (n + 46), .ref (n + 48), .ref (n + 50), .int ((-1)), .int 0, .int ((-1)), .int 0])), .inr (.inr (4, [.ref (n + 47), .int 0, .int 60])), .inl (60, fun _ => 0), .inr (.inr (4, [.ref (n + 49), .int 0, .int 60])), .inl (60, fun _ => 0), .inr (.inr (4, [.ref (n + 51), .int 0, .int 60])), .inl (60, fun _ => 0), .inr (.inr (5, [.int 1, .int 0, .int 0, .int 32, .int 0, .int ((-1)), .int 0, .int 0, .ref (n + 53), .ref (n + 55), .ref (n + 57), .int ((-1)), .int 0, .int ((-1)), .int 0])), .inr (.inr (4, [.ref (n + 54), .int 0, .int 60])), .inl (60, fun _ => 0), .inr (.inr (4, [.ref (n + 56), .int 0, .int 60])), .inl (60, fun _ => 0), .inr (.inr (4, [.ref (n + 58), .int 0, .int 60])), .inl (60, fun _ => 0), .inr (.inr (6, [.int 1, .int 0, .int 0, .ref (n + 60), .ref (n + 61), .ref (n + 62), .int 0, .int ((-1)), .int 0, .int 0])), .inl (24, fun _ => 0), .inl (24, fun _ => 0), .inl (24, fun _ => 0), .inr (.inr (4, [.ref (n + 64), .int 0, .int 64])), .inl (64, fun _ => 0), .inr (.inr (4, [.ref (n + 66), .int 0, .int 64])), .inl (64, fun _ => 0), .inr (.inr (2, [.ref (n + 68), .ref (n + 75), .ref (n + 82), .int 0, .int 0, .int 0, .int 0, .int 0, .ref (n + 86), .ref (n + 88), .null, .int 3, .int 0, .int ((-1)), .int 0, .int 0, .int 0, .int 0])), .inr (.inr (5, [.int 0, .int 0, .int 0, .int 32, .int 0, .int ((-1)), .int 0, .int 0, .ref (n + 69), .ref (n + 71), .ref (n + 73), .int ((-1)), .int 0, .int ((-1)), .int 0])), .inr (.inr (4, [.ref (n + 70), .int 0, .int 60])), .inl (60, fun _ => 0), .inr (.inr (4, [.ref (n + 72), .int 0, .int 60])), .inl (60, fun _ => 0), .inr (.inr (4, [.ref (n + 74), .int 0, .int 60])), .inl (60, fun _ => 0), .inr (.inr (5, [.int 1, .int 0, .int 0, .int 32, .int 0, .int ((-1)), .int 0, .int 0, .ref (n + 76), .ref (n + 78), .ref (n + 80), .int ((-1)), .int 0, .int ((-1)), .int 0])), .inr (.inr (4, [.ref (n + 77), .int 0, .int 60])), .inl (60, fun _ => 0), .inr (.inr (4, [.ref (n + 79), .int 0, .int 60])), .inl (60, fun _ => 0), .inr (.inr (4, [.ref (n + 81), .int 0, .int 60])), .inl (60, fun _ => 0), .inr (.inr (6, [.int 1, .int 0, .int 0, .ref (n + 83), .ref (n + 84), .ref (n + 85), .int 0, .int ((-1)), .int 0, .int 0])), .inl (24, fun _ => 0), .inl (24, fun _ => 0), .inl (24, fun _ => 0), .inr (.inr (4, [.ref (n + 87), .int 0, .int 64])), .inl (64, fun _ => 0), .inr (.inr (4, [.ref (n + 89), .int 0, .int 64])), .inl (64, fun _ => 0), .inr (.inr (2, [.ref (n + 91), .ref (n + 98), .ref (n + 105), .int 0, .int 0, .int 0, .int 0, .int 0, .ref (n + 109), .ref (n + 111), .null, .int 3, .int 0, .int ((-1)), .int 0, .int 0, .int 0, .int 0])), .inr (.inr (5, [.int 0, .int 0, .int 0, .int 32, .int 0, .int ((-1)), .int 0, .int 0, .ref (n + 92), .ref (n + 94), .ref (n + 96), .int ((-1)), .int 0, .int ((-1)), .int 0])), .inr (.inr (4, [.ref (n + 93), .int 0, .int 60])), .inl (60, fun _ => 0), .inr (.inr (4, [.ref (n + 95), .int 0, .int 60])), .inl (60, fun _ => 0), .inr (.inr (4, [.ref (n + 97), .int 0, .int 60])), .inl (60, fun _ => 0), .inr (.inr (5, [.int 1, .int 0, .int 0, .int 32, .int 0, .int ((-1)), .int 0, .int 0, .ref (n + 99), .ref (n + 101), .ref (n + 103), .int ((-1)), .int 0, .int ((-1)), .int 0])), .inr (.inr (4, [.ref (n + 100), .int 0, .int 60])), .inl (60, fun _ => 0), .inr (.inr (4, [.ref (n + 102), .int 0, .int 60])), .inl (60, fun _ => 0), .inr (.inr (4, [.ref (n + 104), .int 0, .int 60])), .inl (60, fun _ => 0), .inr (.inr (6, [.int 1, .int 0, .int 0, .ref (n + 106), .ref (n + 107), .ref (n + 108), .int 0, .int ((-1)), .int 0, .int 0])), .inl (24, fun _ => 0), .inl (24, fun _ => 0), .inl (24, fun _ => 0), .inr (.inr (4, [.ref (n + 110), .int 0, .int 64])), .inl (64, fun _ => 0), .inr (.inr (4, [.ref (n + 112), .int 0, .int 64])), .inl (64, fun _ => 0), .inl (4, fun _ => 0), .inl (4, fun _ => 0), .inl (4, fun _ => 0), .inr (.inr (3, [.int 0, .int 0, .int 0, .int 0, .int 0, .int 0, .int 0, .ref (n + 117), .int 0, .int 0, .int 0])), .inr (.inr (4, [.ref (n + 118), .int 0, .int 15])), .inl (15, fun _ => 0)]) ++ [.inr (.inr (3, [.int 0, .int 0, .int 0, .int 0, .int 0, .int 0, .int 0, .null, .int 0, .int 0, .int 0]))]) (by simp only [List.append_assoc, List.cons_append, List.nil_append]) ?_
  refine g_callINv (q := 75) (As := []) C gyX3_init giX3_init rfl (host := RX7) (by decide +kernel) (c_X3_init (n := n + 119) (by rw [List.length_append, hn]; rfl)) dX7_init_72 rfl rfl rfl (Nat.le_of_ble_eq_true rfl) (Nat.le_of_ble_eq_true rfl) (Nat.le_of_ble_eq_true rfl) (Nat.le_of_ble_eq_true rfl) (Nat.le_of_ble_eq_true rfl) rfl ?_
  refine g_heap (hp2 := hp ++ [.inr (.inr (7, [.ref (n + 1), .ref (n + 3), .ref (n + 20), .ref (n + 43), .ref (n + 116), .null, .int 0])), .inr (.inr (4, [.ref (n + 2), .int 0, .int 96])), .inl (96, fun _ => 0), .inr (.inr (1, [.ref (n + 4), .ref (n + 6), .ref (n + 8), .ref (n + 10), .ref (n + 12), .ref (n + 14), .ref (n + 16), .ref (n + 18), .int ((-1))])), .inr (.inr (4, [.ref (n + 5), .int 0, .int 1048576])), .inl (256, fun _ => 0), .inr (.inr (4, [.ref (n + 7), .int 0, .int 65536])), .inl (32, fun _ => 0), .inr (.inr (4, [.ref (n + 9), .int 0, .int 65536])), .inl (32, fun _ => 0), .inr (.inr (4, [.ref (n + 11), .int 0, .int 65536])), .inl (32, fun _ => 0), .inr (.inr (4, [.ref (n + 13), .int 0, .int 256])), .inl (256, fun _ => 0), .inr (.inr (4, [.ref (n + 15), .int 0, .int 30])), .inl (30, fun _ => 0), .inr (.inr (4, [.ref (n + 17), .int 0, .int 30])), .inl (30, fun _ => 0), .inr (.inr (4, [.ref (n + 19), .int 0, .int 30])), .inl (30, fun _ => 0), .inr (.inr (2, [.ref (n + 21), .ref (n + 28), .ref (n + 35), .int 0, .int 0, .int 0, .int 0, .int 0, .ref (n + 39), .ref (n + 41), .ref (n + 3), .int 3, .int 0, .int ((-1)), .int 0, .int 0, .int 0, .int 0])), .inr (.inr (5, [.int 0, .int 0, .int 0, .int 32, .int 0, .int ((-1)), .int 0, .int 0, .ref (n + 22), .ref (n + 24), .ref (n + 26), .int ((-1)), .int 0, .int ((-1)), .int 0])), .inr (.inr (4, [.ref (n + 23), .int 0, .int 60])), .inl (60, fun _ => 0), .inr (.inr (4, [.ref (n + 25), .int 0, .int 60])), .inl (60, fun _ => 0), .inr (.inr (4, [.ref (n + 27), .int 0, .int 60])), .inl (60, fun _ => 0), .inr (.inr (5, [.int 1, .int 0, .int 0, .int 32, .int 0, .int ((-1)), .int 0, .int 0, .ref (n + 29), .ref (n + 31), .ref (n + 33), .int ((-1)), .int 0, .int ((-1)), .int 0])), .inr (.inr (4, [.ref (n + 30), .int 0, .int 60])), .inl (60, fun _ => 0), .inr (.inr (4, [.ref (n + 32), .int 0, .int 60])), .inl (60, fun _ => 0), .inr (.inr (4, [.ref (n + 34), .int 0, .int 60])), .inl (60, fun _ => 0), .inr (.inr (6, [.int 1, .int 0, .int 0, .ref (n + 36), .ref (n + 37), .ref (n + 38), .int 0, .int ((-1)), .int 0, .int 0])), .inl (24, fun _ => 0), .inl (24, fun _ => 0), .inl (24, fun _ => 0), .inr (.inr (4, [.ref (n + 40), .int 0, .int 64])), .inl (64, fun _ => 0), .inr (.inr (4, [.ref (n + 42), .int 0, .int 64])), .inl (64, fun _ => 0), .inr (.inr (0, [.ref (n + 44), .ref (n + 67), .ref (n + 90), .int 0, .ref (n + 113), .ref (n + 114), .ref (n + 115)])), .inr (.inr (2, [.ref (n + 45), .ref (n + 52), .ref (n + 59), .int 0, .int 0, .int 0, .int 0, .int 0, .ref (n + 63), .ref (n + 65), .null, .int 3, .int 0, .int ((-1)), .int 0, .int 0, .int 0, .int 0])), .inr (.inr (5, [.int 0, .int 0, .int 0, .int 32, .int 0, .int ((-1)), .int 0, .int 0, .ref (n + 46), .ref (n + 48), .ref (n + 50), .int ((-1)), .int 0, .int ((-1)), .int 0])), .inr (.inr (4, [.ref (n + 47), .int 0, .int 60])), .inl (60, fun _ => 0), .inr (.inr (4, [.ref (n + 49), .int 0, .int 60])), .inl (60, fun _ => 0), .inr (.inr (4, [.ref (n + 51), .int 0, .int 60])), .inl (60, fun _ => 0), .inr (.inr (5, [.int 1, .int 0, .int 0, .int 32, .int 0, .int ((-1)), .int 0, .int 0, .ref (n + 53), .ref (n + 55), .ref (n + 57), .int ((-1)), .int 0, .int ((-1)), .int 0])), .inr (.inr (4, [.ref (n + 54), .int 0, .int 60])), .inl (60, fun _ => 0), .inr (.inr (4, [.ref (n + 56), .int 0, .int 60])), .inl (60, fun _ => 0), .inr (.inr (4, [.ref (n + 58), .int 0, .int 60])), .inl (60, fun _ => 0), .inr (.inr (6, [.int 1, .int 0, .int 0, .ref (n + 60), .ref (n + 61), .ref (n + 62), .int 0, .int ((-1)), .int 0, .int 0])), .inl (24, fun _ => 0), .inl (24, fun _ => 0), .inl (24, fun _ => 0), .inr (.inr (4, [.ref (n + 64), .int 0, .int 64])), .inl (64, fun _ => 0), .inr (.inr (4, [.ref (n + 66), .int 0, .int 64])), .inl (64, fun _ => 0), .inr (.inr (2, [.ref (n + 68), .ref (n + 75), .ref (n + 82), .int 0, .int 0, .int 0, .int 0, .int 0, .ref (n + 86), .ref (n + 88), .null, .int 3, .int 0, .int ((-1)), .int 0, .int 0, .int 0, .int 0])), .inr (.inr (5, [.int 0, .int 0, .int 0, .int 32, .int 0, .int ((-1)), .int 0, .int 0, .ref (n + 69), .ref (n + 71), .ref (n + 73), .int ((-1)), .int 0, .int ((-1)), .int 0])), .inr (.inr (4, [.ref (n + 70), .int 0, .int 60])), .inl (60, fun _ => 0), .inr (.inr (4, [.ref (n + 72), .int 0, .int 60])), .inl (60, fun _ => 0), .inr (.inr (4, [.ref (n + 74), .int 0, .int 60])), .inl (60, fun _ => 0), .inr (.inr (5, [.int 1, .int 0, .int 0, .int 32, .int 0, .int ((-1)), .int 0, .int 0, .ref (n + 76), .ref (n + 78), .ref (n + 80), .int ((-1)), .int 0, .int ((-1)), .int 0])), .inr (.inr (4, [.ref (n + 77), .int 0, .int 60])), .inl (60, fun _ => 0), .inr (.inr (4, [.ref (n + 79), .int 0, .int 60])), .inl (60, fun _ => 0), .inr (.inr (4, [.ref (n + 81), .int 0, .int 60])), .inl (60, fun _ => 0), .inr (.inr (6, [.int 1, .int 0, .int 0, .ref (n + 83), .ref (n + 84), .ref (n + 85), .int 0, .int ((-1)), .int 0, .int 0])), .inl (24, fun _ => 0), .inl (24, fun _ => 0), .inl (24, fun _ => 0), .inr (.inr (4, [.ref (n + 87), .int 0, .int 64])), .inl (64, fun _ => 0), .inr (.inr (4, [.ref (n + 89), .int 0, .int 64])), .inl (64, fun _ => 0), .inr (.inr (2, [.ref (n + 91), .ref (n + 98), .ref (n + 105), .int 0, .int 0, .int 0, .int 0, .int 0, .ref (n + 109), .ref (n + 111), .null, .int 3, .int 0, .int ((-1)), .int 0, .int 0, .int 0, .int 0])), .inr (.inr (5, [.int 0, .int 0, .int 0, .int 32, .int 0, .int ((-1)), .int 0, .int 0, .ref (n + 92), .ref (n + 94), .ref (n + 96), .int ((-1)), .int 0, .int ((-1)), .int 0])), .inr (.inr (4, [.ref (n + 93), .int 0, .int 60])), .inl (60, fun _ => 0), .inr (.inr (4, [.ref (n + 95), .int 0, .int 60])), .inl (60, fun _ => 0), .inr (.inr (4, [.ref (n + 97), .int 0, .int 60])), .inl (60, fun _ => 0), .inr (.inr (5, [.int 1, .int 0, .int 0, .int 32, .int 0, .int ((-1)), .int 0, .int 0, .ref (n + 99), .ref (n + 101), .ref (n + 103), .int ((-1)), .int 0, .int ((-1)), .int 0])), .inr (.inr (4, [.ref (n + 100), .int 0, .int 60])), .inl (60, fun _ => 0), .inr (.inr (4, [.ref (n + 102), .int 0, .int 60])), .inl (60, fun _ => 0), .inr (.inr (4, [.ref (n + 104), .int 0, .int 60])), .inl (60, fun _ => 0), .inr (.inr (6, [.int 1, .int 0, .int 0, .ref (n + 106), .ref (n + 107), .ref (n + 108), .int 0, .int ((-1)), .int 0, .int 0])), .inl (24, fun _ => 0), .inl (24, fun _ => 0), .inl (24, fun _ => 0), .inr (.inr (4, [.ref (n + 110), .int 0, .int 64])), .inl (64, fun _ => 0), .inr (.inr (4, [.ref (n + 112), .int 0, .int 64])), .inl (64, fun _ => 0), .inl (4, fun _ => 0), .inl (4, fun _ => 0), .inl (4, fun _ => 0), .inr (.inr (3, [.int 0, .int 0, .int 0, .int 0, .int 0, .int 0, .int 0, .ref (n + 117), .int 0, .int 0, .int 0])), .inr (.inr (4, [.ref (n + 118), .int 0, .int 15])), .inl (15, fun _ => 0), .inr (.inr (3, [.int 0, .int 0, .int 0, .int 0, .int 0, .int 0, .int 0, .ref (n + 120), .int 0, .int 0, .int 0])), .inr (.inr (4, [.ref (n + 121), .int 0, .int 15])), .inl (15, fun _ => 0)]) (by simp only [List.append_assoc, List.cons_append, List.nil_append, Nat.add_assoc, Nat.reduceAdd, Nat.add_zero]) ?_
  refine g_putE (q := 78) (hp' := hp ++ [.inr (.inr (7, [.ref (n + 1), .ref (n + 3), .ref (n + 20), .ref (n + 43), .ref (n + 116), .ref (n + 119), .int 0])), .inr (.inr (4, [.ref (n + 2), .int 0, .int 96])), .inl (96, fun _ => 0), .inr (.inr (1, [.ref (n + 4), .ref (n + 6), .ref (n + 8), .ref (n + 10), .ref (n + 12), .ref (n + 14), .ref (n + 16), .ref (n + 18), .int ((-1))])), .inr (.inr (4, [.ref (n + 5), .int 0, .int 1048576])), .inl (256, fun _ => 0), .inr (.inr (4, [.ref (n + 7), .int 0, .int 65536])), .inl (32, fun _ => 0), .inr (.inr (4, [.ref (n + 9), .int 0, .int 65536])), .inl (32, fun _ => 0), .inr (.inr (4, [.ref (n + 11), .int 0, .int 65536])), .inl (32, fun _ => 0), .inr (.inr (4, [.ref (n + 13), .int 0, .int 256])), .inl (256, fun _ => 0), .inr (.inr (4, [.ref (n + 15), .int 0, .int 30])), .inl (30, fun _ => 0), .inr (.inr (4, [.ref (n + 17), .int 0, .int 30])), .inl (30, fun _ => 0), .inr (.inr (4, [.ref (n + 19), .int 0, .int 30])), .inl (30, fun _ => 0), .inr (.inr (2, [.ref (n + 21), .ref (n + 28), .ref (n + 35), .int 0, .int 0, .int 0, .int 0, .int 0, .ref (n + 39), .ref (n + 41), .ref (n + 3), .int 3, .int 0, .int ((-1)), .int 0, .int 0, .int 0, .int 0])), .inr (.inr (5, [.int 0, .int 0, .int 0, .int 32, .int 0, .int ((-1)), .int 0, .int 0, .ref (n + 22), .ref (n + 24), .ref (n + 26), .int ((-1)), .int 0, .int ((-1)), .int 0])), .inr (.inr (4, [.ref (n + 23), .int 0, .int 60])), .inl (60, fun _ => 0), .inr (.inr (4, [.ref (n + 25), .int 0, .int 60])), .inl (60, fun _ => 0), .inr (.inr (4, [.ref (n + 27), .int 0, .int 60])), .inl (60, fun _ => 0), .inr (.inr (5, [.int 1, .int 0, .int 0, .int 32, .int 0, .int ((-1)), .int 0, .int 0, .ref (n + 29), .ref (n + 31), .ref (n + 33), .int ((-1)), .int 0, .int ((-1)), .int 0])), .inr (.inr (4, [.ref (n + 30), .int 0, .int 60])), .inl (60, fun _ => 0), .inr (.inr (4, [.ref (n + 32), .int 0, .int 60])), .inl (60, fun _ => 0), .inr (.inr (4, [.ref (n + 34), .int 0, .int 60])), .inl (60, fun _ => 0), .inr (.inr (6, [.int 1, .int 0, .int 0, .ref (n + 36), .ref (n + 37), .ref (n + 38), .int 0, .int ((-1)), .int 0, .int 0])), .inl (24, fun _ => 0), .inl (24, fun _ => 0), .inl (24, fun _ => 0), .inr (.inr (4, [.ref (n + 40), .int 0, .int 64])), .inl (64, fun _ => 0), .inr (.inr (4, [.ref (n + 42), .int 0, .int 64])), .inl (64, fun _ => 0), .inr (.inr (0, [.ref (n + 44), .ref (n + 67), .ref (n + 90), .int 0, .ref (n + 113), .ref (n + 114), .ref (n + 115)])), .inr (.inr (2, [.ref (n + 45), .ref (n + 52), .ref (n + 59), .int 0, .int 0, .int 0, .int 0, .int 0, .ref (n + 63), .ref (n + 65), .null, .int 3, .int 0, .int ((-1)), .int 0, .int 0, .int 0, .int 0])), .inr (.inr (5, [.int 0, .int 0, .int 0, .int 32, .int 0, .int ((-1)), .int 0, .int 0, .ref (n + 46), .ref (n + 48), .ref (n + 50), .int ((-1)), .int 0, .int ((-1)), .int 0])), .inr (.inr (4, [.ref (n + 47), .int 0, .int 60])), .inl (60, fun _ => 0), .inr (.inr (4, [.ref (n + 49), .int 0, .int 60])), .inl (60, fun _ => 0), .inr (.inr (4, [.ref (n + 51), .int 0, .int 60])), .inl (60, fun _ => 0), .inr (.inr (5, [.int 1, .int 0, .int 0, .int 32, .int 0, .int ((-1)), .int 0, .int 0, .ref (n + 53), .ref (n + 55), .ref (n + 57), .int ((-1)), .int 0, .int ((-1)), .int 0])), .inr (.inr (4, [.ref (n + 54), .int 0, .int 60])), .inl (60, fun _ => 0), .inr (.inr (4, [.ref (n + 56), .int 0, .int 60])), .inl (60, fun _ => 0), .inr (.inr (4, [.ref (n + 58), .int 0, .int 60])), .inl (60, fun _ => 0), .inr (.inr (6, [.int 1, .int 0, .int 0, .ref (n + 60), .ref (n + 61), .ref (n + 62), .int 0, .int ((-1)), .int 0, .int 0])), .inl (24, fun _ => 0), .inl (24, fun _ => 0), .inl (24, fun _ => 0), .inr (.inr (4, [.ref (n + 64), .int 0, .int 64])), .inl (64, fun _ => 0), .inr (.inr (4, [.ref (n + 66), .int 0, .int 64])), .inl (64, fun _ => 0), .inr (.inr (2, [.ref (n + 68), .ref (n + 75), .ref (n + 82), .int 0, .int 0, .int 0, .int 0, .int 0, .ref (n + 86), .ref (n + 88), .null, .int 3, .int 0, .int ((-1)), .int 0, .int 0, .int 0, .int 0])), .inr (.inr (5, [.int 0, .int 0, .int 0, .int 32, .int 0, .int ((-1)), .int 0, .int 0, .ref (n + 69), .ref (n + 71), .ref (n + 73), .int ((-1)), .int 0, .int ((-1)), .int 0])), .inr (.inr (4, [.ref (n + 70), .int 0, .int 60])), .inl (60, fun _ => 0), .inr (.inr (4, [.ref (n + 72), .int 0, .int 60])), .inl (60, fun _ => 0), .inr (.inr (4, [.ref (n + 74), .int 0, .int 60])), .inl (60, fun _ => 0), .inr (.inr (5, [.int 1, .int 0, .int 0, .int 32, .int 0, .int ((-1)), .int 0, .int 0, .ref (n + 76), .ref (n + 78), .ref (n + 80), .int ((-1)), .int 0, .int ((-1)), .int 0])), .inr (.inr (4, [.ref (n + 77), .int 0, .int 60])), .inl (60, fun _ => 0), .inr (.inr (4, [.ref (n + 79), .int 0, .int 60])), .inl (60, fun _ => 0), .inr (.inr (4, [.ref (n + 81), .int 0, .int 60])), .inl (60, fun _ => 0), .inr (.inr (6, [.int 1, .int 0, .int 0, .ref (n + 83), .ref (n + 84), .ref (n + 85), .int 0, .int ((-1)), .int 0, .int 0])), .inl (24, fun _ => 0), .inl (24, fun _ => 0), .inl (24, fun _ => 0), .inr (.inr (4, [.ref (n + 87), .int 0, .int 64])), .inl (64, fun _ => 0), .inr (.inr (4, [.ref (n + 89), .int 0, .int 64])), .inl (64, fun _ => 0), .inr (.inr (2, [.ref (n + 91), .ref (n + 98), .ref (n + 105), .int 0, .int 0, .int 0, .int 0, .int 0, .ref (n + 109), .ref (n + 111), .null, .int 3, .int 0, .int ((-1)), .int 0, .int 0, .int 0, .int 0])), .inr (.inr (5, [.int 0, .int 0, .int 0, .int 32, .int 0, .int ((-1)), .int 0, .int 0, .ref (n + 92), .ref (n + 94), .ref (n + 96), .int ((-1)), .int 0, .int ((-1)), .int 0])), .inr (.inr (4, [.ref (n + 93), .int 0, .int 60])), .inl (60, fun _ => 0), .inr (.inr (4, [.ref (n + 95), .int 0, .int 60])), .inl (60, fun _ => 0), .inr (.inr (4, [.ref (n + 97), .int 0, .int 60])), .inl (60, fun _ => 0), .inr (.inr (5, [.int 1, .int 0, .int 0, .int 32, .int 0, .int ((-1)), .int 0, .int 0, .ref (n + 99), .ref (n + 101), .ref (n + 103), .int ((-1)), .int 0, .int ((-1)), .int 0])), .inr (.inr (4, [.ref (n + 100), .int 0, .int 60])), .inl (60, fun _ => 0), .inr (.inr (4, [.ref (n + 102), .int 0, .int 60])), .inl (60, fun _ => 0), .inr (.inr (4, [.ref (n + 104), .int 0, .int 60])), .inl (60, fun _ => 0), .inr (.inr (6, [.int 1, .int 0, .int 0, .ref (n + 106), .ref (n + 107), .ref (n + 108), .int 0, .int ((-1)), .int 0, .int 0])), .inl (24, fun _ => 0), .inl (24, fun _ => 0), .inl (24, fun _ => 0), .inr (.inr (4, [.ref (n + 110), .int 0, .int 64])), .inl (64, fun _ => 0), .inr (.inr (4, [.ref (n + 112), .int 0, .int 64])), .inl (64, fun _ => 0), .inl (4, fun _ => 0), .inl (4, fun _ => 0), .inl (4, fun _ => 0), .inr (.inr (3, [.int 0, .int 0, .int 0, .int 0, .int 0, .int 0, .int 0, .ref (n + 117), .int 0, .int 0, .int 0])), .inr (.inr (4, [.ref (n + 118), .int 0, .int 15])), .inl (15, fun _ => 0), .inr (.inr (3, [.int 0, .int 0, .int 0, .int 0, .int 0, .int 0, .int 0, .ref (n + 120), .int 0, .int 0, .int 0])), .inr (.inr (4, [.ref (n + 121), .int 0, .int 15])), .inl (15, fun _ => 0)]) C fX7_48 dX7_init_75 rfl (gapp_new hn rfl) (Nat.le_of_ble_eq_true rfl) (Or.inl rfl) rfl rfl (by intro z h; cases h) rfl (gapp_set hn) ?_
  refine g_aload_n (q := 79) C dX7_init_78 rfl rfl ?_
  refine g_iconst (v := 0) (q := 80) C dX7_init_79 (by decide) rfl ?_
  refine g_putE (q := 83) (hp' := hp ++ [.inr (.inr (7, [.ref (n + 1), .ref (n + 3), .ref (n + 20), .ref (n + 43), .ref (n + 116), .ref (n + 119), .int 0])), .inr (.inr (4, [.ref (n + 2), .int 0, .int 96])), .inl (96, fun _ => 0), .inr (.inr (1, [.ref (n + 4), .ref (n + 6), .ref (n + 8), .ref (n + 10), .ref (n + 12), .ref (n + 14), .ref (n + 16), .ref (n + 18), .int ((-1))])), .inr (.inr (4, [.ref (n + 5), .int 0, .int 1048576])), .inl (256, fun _ => 0), .inr (.inr (4, [.ref (n + 7), .int 0, .int 65536])), .inl (32, fun _ => 0), .inr (.inr (4, [.ref (n + 9), .int 0, .int 65536])), .inl (32, fun _ => 0), .inr (.inr (4, [.ref (n + 11), .int 0, .int 65536])), .inl (32, fun _ => 0), .inr (.inr (4, [.ref (n + 13), .int 0, .int 256])), .inl (256, fun _ => 0), .inr (.inr (4, [.ref (n + 15), .int 0, .int 30])), .inl (30, fun _ => 0), .inr (.inr (4, [.ref (n + 17), .int 0, .int 30])), .inl (30, fun _ => 0), .inr (.inr (4, [.ref (n + 19), .int 0, .int 30])), .inl (30, fun _ => 0), .inr (.inr (2, [.ref (n + 21), .ref (n + 28), .ref (n + 35), .int 0, .int 0, .int 0, .int 0, .int 0, .ref (n + 39), .ref (n + 41), .ref (n + 3), .int 3, .int 0, .int ((-1)), .int 0, .int 0, .int 0, .int 0])), .inr (.inr (5, [.int 0, .int 0, .int 0, .int 32, .int 0, .int ((-1)), .int 0, .int 0, .ref (n + 22), .ref (n + 24), .ref (n + 26), .int ((-1)), .int 0, .int ((-1)), .int 0])), .inr (.inr (4, [.ref (n + 23), .int 0, .int 60])), .inl (60, fun _ => 0), .inr (.inr (4, [.ref (n + 25), .int 0, .int 60])), .inl (60, fun _ => 0), .inr (.inr (4, [.ref (n + 27), .int 0, .int 60])), .inl (60, fun _ => 0), .inr (.inr (5, [.int 1, .int 0, .int 0, .int 32, .int 0, .int ((-1)), .int 0, .int 0, .ref (n + 29), .ref (n + 31), .ref (n + 33), .int ((-1)), .int 0, .int ((-1)), .int 0])), .inr (.inr (4, [.ref (n + 30), .int 0, .int 60])), .inl (60, fun _ => 0), .inr (.inr (4, [.ref (n + 32), .int 0, .int 60])), .inl (60, fun _ => 0), .inr (.inr (4, [.ref (n + 34), .int 0, .int 60])), .inl (60, fun _ => 0), .inr (.inr (6, [.int 1, .int 0, .int 0, .ref (n + 36), .ref (n + 37), .ref (n + 38), .int 0, .int ((-1)), .int 0, .int 0])), .inl (24, fun _ => 0), .inl (24, fun _ => 0), .inl (24, fun _ => 0), .inr (.inr (4, [.ref (n + 40), .int 0, .int 64])), .inl (64, fun _ => 0), .inr (.inr (4, [.ref (n + 42), .int 0, .int 64])), .inl (64, fun _ => 0), .inr (.inr (0, [.ref (n + 44), .ref (n + 67), .ref (n + 90), .int 0, .ref (n + 113), .ref (n + 114), .ref (n + 115)])), .inr (.inr (2, [.ref (n + 45), .ref (n + 52), .ref (n + 59), .int 0, .int 0, .int 0, .int 0, .int 0, .ref (n + 63), .ref (n + 65), .null, .int 3, .int 0, .int ((-1)), .int 0, .int 0, .int 0, .int 0])), .inr (.inr (5, [.int 0, .int 0, .int 0, .int 32, .int 0, .int ((-1)), .int 0, .int 0, .ref (n + 46), .ref (n + 48), .ref (n + 50), .int ((-1)), .int 0, .int ((-1)), .int 0])), .inr (.inr (4, [.ref (n + 47), .int 0, .int 60])), .inl (60, fun _ => 0), .inr (.inr (4, [.ref (n + 49), .int 0, .int 60])), .inl (60, fun _ => 0), .inr (.inr (4, [.ref (n + 51), .int 0, .int 60])), .inl (60, fun _ => 0), .inr (.inr (5, [.int 1, .int 0, .int 0, .int 32, .int 0, .int ((-1)), .int 0, .int 0, .ref (n + 53), .ref (n + 55), .ref (n + 57), .int ((-1)), .int 0, .int ((-1)), .int 0])), .inr (.inr (4, [.ref (n + 54), .int 0, .int 60])), .inl (60, fun _ => 0), .inr (.inr (4, [.ref (n + 56), .int 0, .int 60])), .inl (60, fun _ => 0), .inr (.inr (4, [.ref (n + 58), .int 0, .int 60])), .inl (60, fun _ => 0), .inr (.inr (6, [.int 1, .int 0, .int 0, .ref (n + 60), .ref (n + 61), .ref (n + 62), .int 0, .int ((-1)), .int 0, .int 0])), .inl (24, fun _ => 0), .inl (24, fun _ => 0), .inl (24, fun _ => 0), .inr (.inr (4, [.ref (n + 64), .int 0, .int 64])), .inl (64, fun _ => 0), .inr (.inr (4, [.ref (n + 66), .int 0, .int 64])), .inl (64, fun _ => 0), .inr (.inr (2, [.ref (n + 68), .ref (n + 75), .ref (n + 82), .int 0, .int 0, .int 0, .int 0, .int 0, .ref (n + 86), .ref (n + 88), .null, .int 3, .int 0, .int ((-1)), .int 0, .int 0, .int 0, .int 0])), .inr (.inr (5, [.int 0, .int 0, .int 0, .int 32, .int 0, .int ((-1)), .int 0, .int 0, .ref (n + 69), .ref (n + 71), .ref (n + 73), .int ((-1)), .int 0, .int ((-1)), .int 0])), .inr (.inr (4, [.ref (n + 70), .int 0, .int 60])), .inl (60, fun _ => 0), .inr (.inr (4, [.ref (n + 72), .int 0, .int 60])), .inl (60, fun _ => 0), .inr (.inr (4, [.ref (n + 74), .int 0, .int 60])), .inl (60, fun _ => 0), .inr (.inr (5, [.int 1, .int 0, .int 0, .int 32, .int 0, .int ((-1)), .int 0, .int 0, .ref (n + 76), .ref (n + 78), .ref (n + 80), .int ((-1)), .int 0, .int ((-1)), .int 0])), .inr (.inr (4, [.ref (n + 77), .int 0, .int 60])), .inl (60, fun _ => 0), .inr (.inr (4, [.ref (n + 79), .int 0, .int 60])), .inl (60, fun _ => 0), .inr (.inr (4, [.ref (n + 81), .int 0, .int 60])), .inl (60, fun _ => 0), .inr (.inr (6, [.int 1, .int 0, .int 0, .ref (n + 83), .ref (n + 84), .ref (n + 85), .int 0, .int ((-1)), .int 0, .int 0])), .inl (24, fun _ => 0), .inl (24, fun _ => 0), .inl (24, fun _ => 0), .inr (.inr (4, [.ref (n + 87), .int 0, .int 64])), .inl (64, fun _ => 0), .inr (.inr (4, [.ref (n + 89), .int 0, .int 64])), .inl (64, fun _ => 0), .inr (.inr (2, [.ref (n + 91), .ref (n + 98), .ref (n + 105), .int 0, .int 0, .int 0, .int 0, .int 0, .ref (n + 109), .ref (n + 111), .null, .int 3, .int 0, .int ((-1)), .int 0, .int 0, .int 0, .int 0])), .inr (.inr (5, [.int 0, .int 0, .int 0, .int 32, .int 0, .int ((-1)), .int 0, .int 0, .ref (n + 92), .ref (n + 94), .ref (n + 96), .int ((-1)), .int 0, .int ((-1)), .int 0])), .inr (.inr (4, [.ref (n + 93), .int 0, .int 60])), .inl (60, fun _ => 0), .inr (.inr (4, [.ref (n + 95), .int 0, .int 60])), .inl (60, fun _ => 0), .inr (.inr (4, [.ref (n + 97), .int 0, .int 60])), .inl (60, fun _ => 0), .inr (.inr (5, [.int 1, .int 0, .int 0, .int 32, .int 0, .int ((-1)), .int 0, .int 0, .ref (n + 99), .ref (n + 101), .ref (n + 103), .int ((-1)), .int 0, .int ((-1)), .int 0])), .inr (.inr (4, [.ref (n + 100), .int 0, .int 60])), .inl (60, fun _ => 0), .inr (.inr (4, [.ref (n + 102), .int 0, .int 60])), .inl (60, fun _ => 0), .inr (.inr (4, [.ref (n + 104), .int 0, .int 60])), .inl (60, fun _ => 0), .inr (.inr (6, [.int 1, .int 0, .int 0, .ref (n + 106), .ref (n + 107), .ref (n + 108), .int 0, .int ((-1)), .int 0, .int 0])), .inl (24, fun _ => 0), .inl (24, fun _ => 0), .inl (24, fun _ => 0), .inr (.inr (4, [.ref (n + 110), .int 0, .int 64])), .inl (64, fun _ => 0), .inr (.inr (4, [.ref (n + 112), .int 0, .int 64])), .inl (64, fun _ => 0), .inl (4, fun _ => 0), .inl (4, fun _ => 0), .inl (4, fun _ => 0), .inr (.inr (3, [.int 0, .int 0, .int 0, .int 0, .int 0, .int 0, .int 0, .ref (n + 117), .int 0, .int 0, .int 0])), .inr (.inr (4, [.ref (n + 118), .int 0, .int 15])), .inl (15, fun _ => 0), .inr (.inr (3, [.int 0, .int 0, .int 0, .int 0, .int 0, .int 0, .int 0, .ref (n + 120), .int 0, .int 0, .int 0])), .inr (.inr (4, [.ref (n + 121), .int 0, .int 15])), .inl (15, fun _ => 0)]) C fX7_51 dX7_init_80 rfl (gapp_new hn rfl) (Nat.le_of_ble_eq_true rfl) (Or.inl rfl) rfl rfl (by intro z h; cases h) rfl (gapp_set hn) ?_
  exact E.2.1 _ _ _ _ _ dX7_init_83 rfl (Nat.le_of_ble_eq_true rfl) (Nat.le_of_ble_eq_true rfl) ⟨rfl, rfl⟩
end
section
/-! Row, of any content: its items as a list (by program: wip/p1/m_row2.py) -/
def gat (l : List Int32) (x : Int32) : Int32 := if x < 0 then 0 else l.getD x.toNatClampNeg 0
theorem gcl {x : Int32} (h : ¬ x < 0) : (x.toNatClampNeg : Int) = x.toInt := by
  rw [Int32.lt_iff_toInt_lt] at h
  have h0 : (0 : Int32).toInt = 0 := by decide
  rw [h0] at h
  show ((x.toInt.toNat : Nat) : Int) = x.toInt
  omega
theorem gat_neg {l : List Int32} {x : Int32} (h : x < 0) : gat l x = 0 := if_pos h
theorem gat_out {l : List Int32} {x : Int32} (h : nI l.length ≤ x) (hl : l.length < 2 ^ 31) : gat l x = 0 := by
  unfold gat
  split
  · rfl
  · rename_i h0
    have h1 := gcl h0
    rw [Int32.le_iff_toInt_le, nI_toInt hl] at h
    rw [List.getD_eq_getElem?_getD, List.getElem?_eq_none (by omega)]; rfl
theorem gat_in {l : List Int32} {x : Int32} (h0 : ¬ x < 0) (h : ¬ nI l.length ≤ x) (hl : l.length < 2 ^ 31) : x.toNatClampNeg < l.length := by
  have h1 := gcl h0
  rw [Int32.le_iff_toInt_le, nI_toInt hl] at h
  omega
/-- the row at r: its items are l; its array, at a, has n places and holds no more -/
def gRw (hp : List gA) (r a n : Nat) (l : List Int32) : Prop := ∃ f, hp[r]? = some (.inr (.inr (4, [.ref a, .int (nI l.length), .int (nI n)]))) ∧ hp[a]? = some (.inl (n, f)) ∧ l.length ≤ n ∧ n ≤ 1000000 ∧ ∀ j, j < l.length → f j = l.getD j 0
theorem gRw.kept {hp h : List gA} {r a n : Nat} {l : List Int32} (H : gRw hp r a n l) (h1 : h[r]? = hp[r]?) (h2 : h[a]? = hp[a]?) : gRw h r a n l := by
  obtain ⟨f, a1, a2, a3⟩ := H
  exact ⟨f, h1.trans a1, h2.trans a2, a3⟩
theorem gRw.obj {hp : List gA} {r a n : Nat} {l : List Int32} (H : gRw hp r a n l) : hp[r]? = some (.inr (.inr (4, [.ref a, .int (nI l.length), .int (nI n)]))) := by obtain ⟨f, a1, -⟩ := H; exact a1
theorem gRw.le {hp : List gA} {r a n : Nat} {l : List Int32} (H : gRw hp r a n l) : l.length ≤ n ∧ n ≤ 1000000 := by obtain ⟨f, -, -, a3, a4, -⟩ := H; exact ⟨a3, a4⟩
theorem gRw.ne {hp : List gA} {r a n : Nat} {l : List Int32} (H : gRw hp r a n l) : r ≠ a := by
  obtain ⟨f, a1, a2, -⟩ := H
  exact gne a1 a2 (by intro h; cases h)
/-- the cells but two are as they were -/
def gFr (hp h : List gA) (r a : Nat) : Prop := ∀ k, k ≠ r → k ≠ a → h[k]? = hp[k]?
theorem dX4_at_0 : decode cX4_at 0 = .ok (.iload_n 1, 1) := by decide +kernel
theorem dX4_at_1 : decode cX4_at 1 = .ok (.ifCond .lt 29, 3) := by decide +kernel
theorem dX4_at_4 : decode cX4_at 4 = .ok (.iload_n 1, 1) := by decide +kernel
theorem dX4_at_5 : decode cX4_at 5 = .ok (.aload_n 0, 1) := by decide +kernel
theorem dX4_at_6 : decode cX4_at 6 = .ok (.getfield 7, 3) := by decide +kernel
theorem dX4_at_9 : decode cX4_at 9 = .ok (.if_icmp .ge 21, 3) := by decide +kernel
theorem dX4_at_12 : decode cX4_at 12 = .ok (.iload_n 1, 1) := by decide +kernel
theorem dX4_at_13 : decode cX4_at 13 = .ok (.aload_n 0, 1) := by decide +kernel
theorem dX4_at_14 : decode cX4_at 14 = .ok (.getfield 19, 3) := by decide +kernel
theorem dX4_at_17 : decode cX4_at 17 = .ok (.arraylength, 1) := by decide +kernel
theorem dX4_at_18 : decode cX4_at 18 = .ok (.if_icmp .ge 12, 3) := by decide +kernel
theorem dX4_at_21 : decode cX4_at 21 = .ok (.aload_n 0, 1) := by decide +kernel
theorem dX4_at_22 : decode cX4_at 22 = .ok (.getfield 19, 3) := by decide +kernel
theorem dX4_at_25 : decode cX4_at 25 = .ok (.iload_n 1, 1) := by decide +kernel
theorem dX4_at_26 : decode cX4_at 26 = .ok (.iaload, 1) := by decide +kernel
theorem dX4_at_27 : decode cX4_at 27 = .ok (.goto 4, 3) := by decide +kernel
theorem dX4_at_30 : decode cX4_at 30 = .ok (.iconst 0, 1) := by decide +kernel
theorem dX4_at_31 : decode cX4_at 31 = .ok (.ireturn, 1) := by decide +kernel
set_option maxRecDepth 100000 in
set_option maxHeartbeats 4000000 in
theorem c_X4_at_w {hp : List gA} {r a n : Nat} {l : List Int32} {x : Int32} (H : gRw hp r a n l) : gM yX4_at cX4_at 2 ((some .int)) 0 0 [.ref r, .int x] (hp) (0) (0) (fun v h => v = some (.int (gat l x)) ∧ h = hp) := by
  obtain ⟨f, hr, ha, hle, hn, hf⟩ := H
  have hlt : l.length < 2 ^ 31 := by omega
  have hnt : n < 2 ^ 31 := by omega
  refine gM_of (ls0 := [some (.ref r), some (.int x)]) (by decide +kernel) (Nat.le_of_ble_eq_true rfl) rfl fun X C E => ?_
  refine g_iload_n (q := 1) C dX4_at_0 rfl rfl ?_
  refine g_if_lt (t := 30) (q := 4) C dX4_at_1 (by decide) rfl (fun c_1 => ?_) (fun c_1 => ?_)
  · -- to 30
    refine g_iconst (v := 0) (q := 31) C dX4_at_30 (by decide) rfl ?_
    exact E.1 _ _ _ _ _ _ _ dX4_at_31 rfl rfl (Nat.le_of_ble_eq_true rfl) (Nat.le_of_ble_eq_true rfl) ⟨by rw [gat_neg c_1], rfl⟩
  · -- to 4
    refine g_iload_n (q := 5) C dX4_at_4 rfl rfl ?_
    refine g_aload_n (q := 6) C dX4_at_5 rfl rfl ?_
    refine g_getfield (q := 9) C fX4_7 dX4_at_6 rfl hr rfl ?_
    refine g_icmp_ge (t := 30) (q := 12) C dX4_at_9 (by decide) rfl (fun c_9 => ?_) (fun c_9 => ?_)
    · -- to 30
      refine g_iconst (v := 0) (q := 31) C dX4_at_30 (by decide) rfl ?_
      exact E.1 _ _ _ _ _ _ _ dX4_at_31 rfl rfl (Nat.le_of_ble_eq_true rfl) (Nat.le_of_ble_eq_true rfl) ⟨by rw [gat_out c_9 hlt], rfl⟩
    · -- to 12
      refine g_iload_n (q := 13) C dX4_at_12 rfl rfl ?_
      refine g_aload_n (q := 14) C dX4_at_13 rfl rfl ?_
      refine g_getfield (q := 17) C fX4_19 dX4_at_14 rfl hr rfl ?_
      refine g_arraylength (q := 18) C dX4_at_17 rfl ha rfl ?_
      refine g_icmp_ge_f (t := 30) (q := 21) C dX4_at_18 (by decide) rfl (by have h1 := gat_in c_1 c_9 hlt; have h2 := gcl c_1; intro h3; rw [Int32.le_iff_toInt_le] at h3; have h4 : (Int32.ofNat n).toInt = (n : Int) := nI_toInt hnt; rw [h4] at h3; omega) ?_
      refine g_aload_n (q := 22) C dX4_at_21 rfl rfl ?_
      refine g_getfield (q := 25) C fX4_19 dX4_at_22 rfl hr rfl ?_
      refine g_iload_n (q := 26) C dX4_at_25 rfl rfl ?_
      refine g_iaload (q := 27) C dX4_at_26 rfl ha (fun z => z.elim c_1 (fun z => absurd (Nat.lt_of_lt_of_le (gat_in c_1 c_9 hlt) hle) (Nat.not_lt.mpr z))) ?_
      refine g_goto (q := 31) C dX4_at_27 (by decide) ?_
      exact E.1 _ _ _ _ _ _ _ dX4_at_31 rfl rfl (Nat.le_of_ble_eq_true rfl) (Nat.le_of_ble_eq_true rfl) ⟨by rw [gat, if_neg c_1, hf _ (gat_in c_1 c_9 hlt)], rfl⟩
theorem g_app {l : List Int32} {f : Nat → Int32} {x : Int32} (hf : ∀ j, j < l.length → f j = l.getD j 0) : ∀ j, j < (l ++ [x]).length → upd f l.length x j = (l ++ [x]).getD j 0 := by
  intro j hj
  rw [List.length_append] at hj
  simp only [List.length_cons, List.length_nil] at hj
  by_cases h : j = l.length
  · subst h; rw [pk_us]; simp
  · rw [pk_un h, hf j (by omega)]; simp [List.getD, List.getElem?_append_left (show j < l.length by omega)]
set_option maxRecDepth 100000 in
set_option maxHeartbeats 4000000 in
theorem c_X4_add_w {hp : List gA} {r a n : Nat} {l : List Int32} {x : Int32} (H : gRw hp r a n l) (hx : l.length < n) : gM yX4_add cX4_add 2 (none) 2 82 [.ref r, .int x] (hp) (0) (0) (fun v h => v = none ∧ (gRw h r a n (l ++ [x]) ∧ gFr hp h r a)) := by
  obtain ⟨f, hr, ha, hle, hn, hf⟩ := H
  have hlt : l.length < 2 ^ 31 := by omega
  have hnt : n < 2 ^ 31 := by omega
  have hra : r ≠ a := gne hr ha (by intro h; cases h)
  refine gM_of (ls0 := [some (.ref r), some (.int x)]) (by decide +kernel) (Nat.le_of_ble_eq_true rfl) rfl fun X C E => ?_
  refine g_aload_n (q := 1) C dX4_add_0 rfl rfl ?_
  refine g_getfield (q := 4) C fX4_7 dX4_add_1 rfl hr rfl ?_
  refine g_aload_n (q := 5) C dX4_add_4 rfl rfl ?_
  refine g_getfield (q := 8) C fX4_23 dX4_add_5 rfl hr rfl ?_
  refine g_icmp_lt_t (t := 12) C dX4_add_8 (by decide) (nI_lt hx hnt) ?_
  refine g_aload_n (q := 13) C dX4_add_12 rfl rfl ?_
  refine g_getfield (q := 16) C fX4_7 dX4_add_13 rfl hr rfl ?_
  refine g_aload_n (q := 17) C dX4_add_16 rfl rfl ?_
  refine g_getfield (q := 20) C fX4_19 dX4_add_17 rfl hr rfl ?_
  refine g_arraylength (q := 21) C dX4_add_20 rfl ha rfl ?_
  refine g_icmp_lt_t (t := 53) C dX4_add_21 (by decide) (nI_lt hx hnt) ?_
  refine g_aload_n (q := 54) C dX4_add_53 rfl rfl ?_
  refine g_getfield (q := 57) C fX4_7 dX4_add_54 rfl hr rfl ?_
  refine g_if_lt_f (t := 92) (q := 60) C dX4_add_57 (by decide) rfl (nI_pos hlt) ?_
  refine g_aload_n (q := 61) C dX4_add_60 rfl rfl ?_
  refine g_getfield (q := 64) C fX4_7 dX4_add_61 rfl hr rfl ?_
  refine g_aload_n (q := 65) C dX4_add_64 rfl rfl ?_
  refine g_getfield (q := 68) C fX4_19 dX4_add_65 rfl hr rfl ?_
  refine g_arraylength (q := 69) C dX4_add_68 rfl ha rfl ?_
  refine g_icmp_ge_f (t := 92) (q := 72) C dX4_add_69 (by decide) rfl (fun h => nI_ge hx hnt h) ?_
  refine g_aload_n (q := 73) C dX4_add_72 rfl rfl ?_
  refine g_getfield (q := 76) C fX4_19 dX4_add_73 rfl hr rfl ?_
  refine g_aload_n (q := 77) C dX4_add_76 rfl rfl ?_
  refine g_getfield (q := 80) C fX4_7 dX4_add_77 rfl hr rfl ?_
  refine g_iload_n (q := 81) C dX4_add_80 rfl rfl ?_
  refine g_iastoreN (j := l.length) (q := 82) C dX4_add_81 rfl ha (pk_in l.length n hx) (pk_cl l.length) ?_
  refine g_aload_n (q := 83) C dX4_add_82 rfl rfl ?_
  refine g_dup (q := 84) C dX4_add_83 rfl rfl ?_
  refine g_getfield (q := 87) C fX4_7 dX4_add_84 rfl (gset_other hr (Ne.symm hra)) rfl ?_
  refine g_iconst (v := 1) (q := 88) C dX4_add_87 (by decide) rfl ?_
  refine g_iadd (q := 89) C dX4_add_88 rfl ?_
  refine g_putfield (q := 92) C fX4_7 dX4_add_89 rfl (gset_other hr (Ne.symm hra)) (Nat.le_of_ble_eq_true rfl) (Or.inl rfl) rfl rfl (by intro z h; cases h) ?_
  have hl2 := hra
  exact E.2.1 _ _ _ _ _ dX4_add_92 rfl (Nat.le_of_ble_eq_true rfl) (Nat.le_of_ble_eq_true rfl) ⟨rfl, ⟨upd f l.length x, by rw [gset_self (gset_other hr (Ne.symm hra))]; simp [nI_succ], by rw [List.getElem?_set_ne hra]; exact gset_self ha, by simp; omega, hn, g_app hf⟩, fun k h1 h2 => by rw [List.getElem?_set_ne (Ne.symm h1), List.getElem?_set_ne (Ne.symm h2)]⟩
theorem dX4_add_11 : decode cX4_add 11 = .ok (.return_, 1) := by decide +kernel
set_option maxRecDepth 100000 in
set_option maxHeartbeats 4000000 in
theorem c_X4_add_full {hp : List gA} {r a n : Nat} {l : List Int32} {x : Int32} (H : gRw hp r a n l) (hx : l.length = n) : gM yX4_add cX4_add 2 (none) 2 82 [.ref r, .int x] (hp) (0) (0) (fun v h => v = none ∧ (gRw h r a n ((l ++ [x]).take n) ∧ gFr hp h r a)) := by
  obtain ⟨f, hr, ha, hle, hn, hf⟩ := H
  have hlt : l.length < 2 ^ 31 := by omega
  have hnt : n < 2 ^ 31 := by omega
  refine gM_of (ls0 := [some (.ref r), some (.int x)]) (by decide +kernel) (Nat.le_of_ble_eq_true rfl) rfl fun X C E => ?_
  refine g_aload_n (q := 1) C dX4_add_0 rfl rfl ?_
  refine g_getfield (q := 4) C fX4_7 dX4_add_1 rfl hr rfl ?_
  refine g_aload_n (q := 5) C dX4_add_4 rfl rfl ?_
  refine g_getfield (q := 8) C fX4_23 dX4_add_5 rfl hr rfl ?_
  refine g_icmp_lt_f (t := 12) (q := 11) C dX4_add_8 (by decide) rfl (nI_nlt (Nat.le_of_eq hx.symm) (hx ▸ hnt)) ?_
  exact E.2.1 _ _ _ _ _ dX4_add_11 rfl (Nat.le_of_ble_eq_true rfl) (Nat.le_of_ble_eq_true rfl) ⟨rfl, by rw [List.take_append_of_le_length (Nat.le_of_eq hx.symm), List.take_of_length_le (Nat.le_of_eq hx)]; exact ⟨f, hr, ha, hle, hn, hf⟩, fun _ _ _ => rfl⟩
theorem c_X4_add_a {hp : List gA} {r a n : Nat} {l : List Int32} {x : Int32} (H : gRw hp r a n l) : gM yX4_add cX4_add 2 (none) 2 82 [.ref r, .int x] (hp) (0) (0) (fun v h => v = none ∧ (gRw h r a n ((l ++ [x]).take n) ∧ gFr hp h r a)) := by
  rcases Nat.lt_or_ge l.length n with hx | hx
  · rw [List.take_of_length_le (by simp; omega)]
    exact c_X4_add_w H hx
  · exact c_X4_add_full H (Nat.le_antisymm H.le.1 hx)
theorem gkp {k m : Nat} (hk : k < 2 ^ 31) (hm : m < 2 ^ 31) : gmax 0 (gmin (nI k) (nI m)) = nI (min k m) := by
  have e : gmin (nI k) (nI m) = nI (min k m) := by
    unfold gmin
    by_cases h : m < k
    · rw [if_pos (nI_lt h hk), Nat.min_eq_right (Nat.le_of_lt h)]
    · rw [if_neg (nI_nlt (Nat.not_lt.mp h) hm), Nat.min_eq_left (Nat.not_lt.mp h)]
  rw [e]
  unfold gmax
  have hb : min k m < 2 ^ 31 := by omega
  split
  · rfl
  · rename_i h
    have h1 : ¬ (0 : Int32) < nI (min k m) := h
    rw [Int32.lt_iff_toInt_lt, nI_toInt hb] at h1
    have h0 : (0 : Int32).toInt = 0 := by decide
    have h2 : min k m = 0 := by rw [h0] at h1; omega
    rw [h2]; rfl
theorem g_take {l : List Int32} {f : Nat → Int32} {k : Nat} (hf : ∀ j, j < l.length → f j = l.getD j 0) : ∀ j, j < (l.take k).length → f j = (l.take k).getD j 0 := by
  intro j hj
  rw [List.length_take] at hj
  rw [hf j (by omega)]
  simp [List.getD, List.getElem?_take, show j < k by omega]
set_option maxRecDepth 100000 in
set_option maxHeartbeats 4000000 in
theorem c_X4_keep_w {hp : List gA} {r a n : Nat} {l : List Int32} {k : Nat} (H : gRw hp r a n l) (hk : k < 2 ^ 31) : gM yX4_keep cX4_keep 2 (none) 1 21 [.ref r, .int ((nI k))] (hp) (0) (0) (fun v h => v = none ∧ (gRw h r a n (l.take k) ∧ gFr hp h r a)) := by
  obtain ⟨f, hr, ha, hle, hn, hf⟩ := H
  have hlt : l.length < 2 ^ 31 := by omega
  have hnt : n < 2 ^ 31 := by omega
  have hra : r ≠ a := gne hr ha (by intro h; cases h)
  refine gM_of (ls0 := [some (.ref r), some (.int ((nI k)))]) (by decide +kernel) (Nat.le_of_ble_eq_true rfl) rfl fun X C E => ?_
  refine g_aload_n (q := 1) C dX4_keep_0 rfl rfl ?_
  refine g_iconst (v := 0) (q := 2) C dX4_keep_1 (by decide) rfl ?_
  refine g_iload_n (q := 3) C dX4_keep_2 rfl rfl ?_
  refine g_aload_n (q := 4) C dX4_keep_3 rfl rfl ?_
  refine g_getfield (q := 7) C fX4_7 dX4_keep_4 rfl hr rfl ?_
  refine g_callSi (q := 10) (As := [.int ((nI k)), .int ((nI l.length))]) C gyJ9_min_7cf53 t_411 t_410 (c_J9_min_7cf53) dX4_keep_7 rfl rfl rfl (Nat.le_of_ble_eq_true rfl) (Nat.le_of_ble_eq_true rfl) (Nat.le_of_ble_eq_true rfl) (Nat.le_of_ble_eq_true rfl) (Nat.le_of_ble_eq_true rfl) rfl ?_
  refine g_callSi (q := 13) (As := [.int 0, .int _]) C gyJ9_max_7cf53 t_72 t_71 (c_J9_max_7cf53) dX4_keep_10 rfl rfl rfl (Nat.le_of_ble_eq_true rfl) (Nat.le_of_ble_eq_true rfl) (Nat.le_of_ble_eq_true rfl) (Nat.le_of_ble_eq_true rfl) (Nat.le_of_ble_eq_true rfl) rfl ?_
  refine g_putfield (q := 16) C fX4_7 dX4_keep_13 rfl hr (Nat.le_of_ble_eq_true rfl) (Or.inl rfl) rfl rfl (by intro z h; cases h) ?_
  exact E.2.1 _ _ _ _ _ dX4_keep_16 rfl (Nat.le_of_ble_eq_true rfl) (Nat.le_of_ble_eq_true rfl) ⟨rfl, ⟨f, by rw [gset_self hr, gkp hk hlt, List.length_take]; rfl, gset_other ha hra, by rw [List.length_take]; omega, hn, g_take hf⟩, fun k h1 h2 => List.getElem?_set_ne (Ne.symm h1)⟩
def gxs (l : List Int32) (j : Nat) : Int32 := (l.take j).foldl (· ^^^ ·) 0
theorem gxs_s {l : List Int32} {j : Nat} (h : j < l.length) (hl : l.length < 2 ^ 31) : gxs l j ^^^ gat l (nI j) = gxs l (j + 1) := by
  unfold gxs gat
  rw [if_neg (nI_pos (by omega)), nI_clamp (by omega), List.take_add_one, List.foldl_append]
  simp [List.getD, List.getElem?_eq_getElem h]
theorem dX4_xor_0 : decode cX4_xor 0 = .ok (.iconst 0, 1) := by decide +kernel
theorem dX4_xor_1 : decode cX4_xor 1 = .ok (.istore_n 2, 1) := by decide +kernel
theorem dX4_xor_2 : decode cX4_xor 2 = .ok (.iload_n 1, 1) := by decide +kernel
theorem dX4_xor_3 : decode cX4_xor 3 = .ok (.istore_n 3, 1) := by decide +kernel
theorem dX4_xor_4 : decode cX4_xor 4 = .ok (.iload_n 3, 1) := by decide +kernel
theorem dX4_xor_5 : decode cX4_xor 5 = .ok (.aload_n 0, 1) := by decide +kernel
theorem dX4_xor_6 : decode cX4_xor 6 = .ok (.getfield 7, 3) := by decide +kernel
theorem dX4_xor_9 : decode cX4_xor 9 = .ok (.if_icmp .ge 17, 3) := by decide +kernel
theorem dX4_xor_12 : decode cX4_xor 12 = .ok (.iload_n 2, 1) := by decide +kernel
theorem dX4_xor_13 : decode cX4_xor 13 = .ok (.aload_n 0, 1) := by decide +kernel
theorem dX4_xor_14 : decode cX4_xor 14 = .ok (.iload_n 3, 1) := by decide +kernel
theorem dX4_xor_15 : decode cX4_xor 15 = .ok (.invokevirtual 41, 3) := by decide +kernel
theorem dX4_xor_18 : decode cX4_xor 18 = .ok (.ixor, 1) := by decide +kernel
theorem dX4_xor_19 : decode cX4_xor 19 = .ok (.istore_n 2, 1) := by decide +kernel
theorem dX4_xor_20 : decode cX4_xor 20 = .ok (.iinc 3 1, 3) := by decide +kernel
theorem dX4_xor_23 : decode cX4_xor 23 = .ok (.goto (-19), 3) := by decide +kernel
theorem dX4_xor_26 : decode cX4_xor 26 = .ok (.iload_n 2, 1) := by decide +kernel
theorem dX4_xor_27 : decode cX4_xor 27 = .ok (.ireturn, 1) := by decide +kernel
set_option maxRecDepth 100000 in
set_option maxHeartbeats 4000000 in
theorem c_X4_xor_w {hp : List gA} {r a n : Nat} {l : List Int32} (H : gRw hp r a n l) : gM yX4_xor cX4_xor 4 ((some .int)) 1 21 [.ref r, .int 0] (hp) (0) (0) (fun v h => v = some (.int (gxs l l.length)) ∧ h = hp) := by
  obtain ⟨f, hr, ha, hle, hn, hf⟩ := id H
  have hlt : l.length < 2 ^ 31 := by omega
  have hnt : n < 2 ^ 31 := by omega
  refine gM_of (ls0 := [some (.ref r), some (.int 0), none, none]) (by decide +kernel) (Nat.le_of_ble_eq_true rfl) rfl fun X C E => ?_
  have L : ∀ m j : Nat, j + m = l.length → gG X 4 [some (.ref r), some (.int 0), some (.int (gxs l j)), some (.int (nI j))] [] hp 0 0 := by
    intro m
    induction m with
    | zero =>
      intro j hj
      obtain rfl : j = l.length := by omega
      refine g_iload_n (q := 5) C dX4_xor_4 rfl rfl ?_
      refine g_aload_n (q := 6) C dX4_xor_5 rfl rfl ?_
      refine g_getfield (q := 9) C fX4_7 dX4_xor_6 rfl hr rfl ?_
      refine g_icmp_ge_t (t := 26) C dX4_xor_9 (by decide) (nI_le (Nat.le_refl _) hlt) ?_
      refine g_iload_n (q := 27) C dX4_xor_26 rfl rfl ?_
      exact E.1 _ _ _ _ _ _ _ dX4_xor_27 rfl rfl (Nat.le_of_ble_eq_true rfl) (Nat.le_of_ble_eq_true rfl) ⟨rfl, rfl⟩
    | succ m ih =>
      intro j hj
      refine g_iload_n (q := 5) C dX4_xor_4 rfl rfl ?_
      refine g_aload_n (q := 6) C dX4_xor_5 rfl rfl ?_
      refine g_getfield (q := 9) C fX4_7 dX4_xor_6 rfl hr rfl ?_
      refine g_icmp_ge_f (t := 26) (q := 12) C dX4_xor_9 (by decide) rfl (fun h => nI_ge (show j < l.length by omega) hlt h) ?_
      refine g_iload_n (q := 13) C dX4_xor_12 rfl rfl ?_
      refine g_aload_n (q := 14) C dX4_xor_13 rfl rfl ?_
      refine g_iload_n (q := 15) C dX4_xor_14 rfl rfl ?_
      refine g_callVi (q := 18) (As := [.int ((nI j))]) C gyX4_at gvX4_at t_745 (c_X4_at_w H) dX4_xor_15 rfl hr rfl rfl rfl (Nat.le_of_ble_eq_true rfl) (Nat.le_of_ble_eq_true rfl) (Nat.le_of_ble_eq_true rfl) (Nat.le_of_ble_eq_true rfl) (Nat.le_of_ble_eq_true rfl) rfl ?_
      refine g_ixor (q := 19) C dX4_xor_18 rfl ?_
      refine g_istore_n (q := 20) C dX4_xor_19 (Nat.le_of_ble_eq_true rfl) (by simp only [gset]; rfl) rfl ?_
      refine g_iinc (v := (nI (j + 1))) (q := 23) C dX4_xor_20 rfl (nI_1 j) (by simp only [gset]; rfl) rfl ?_
      refine g_goto (q := 4) C dX4_xor_23 (by decide) ?_
      rw [gxs_s (by omega) hlt]
      exact ih (j + 1) (by omega)
  refine g_iconst (v := 0) (q := 1) C dX4_xor_0 (by decide) rfl ?_
  refine g_istore_n (q := 2) C dX4_xor_1 (Nat.le_of_ble_eq_true rfl) (by simp only [gset]; rfl) rfl ?_
  refine g_iload_n (q := 3) C dX4_xor_2 rfl rfl ?_
  refine g_istore_n (q := 4) C dX4_xor_3 (Nat.le_of_ble_eq_true rfl) (by simp only [gset]; rfl) rfl ?_
  exact L l.length 0 (by omega)
  
section GCP
variable {X : gX} {own nm : String} {cc : ByteArray} {nL : Nat} {rm : Room} {pc q : Nat} {ls : List (Option Value)} {st : List Value} {hp : List gA} {cl sl : Nat}
theorem g_copy (C : gC X own nm cc nL rm) {ix : Nat} (hlink : Cond.methodLink own ix arraycopyName ∈ gW) (hnat : Cond.native arraycopyName ∈ gW) (hst : Cond.static arraycopyName ∈ gW) (hini : Cond.initialized "java/lang/System" ∈ gW) {k0 k1 n0 n1 : Nat} {f g : Nat → Int32} {sp dp n : Int32} (hd : decode cc pc = .ok (.invokestatic ix, 3)) (hq : pc + 3 = q) (hls : ls.length = nL) (ho0 : hp[k0]? = some (.inl (n0, f))) (ho1 : hp[k1]? = some (.inl (n1, g))) (h1 : ¬ sp < 0) (h2 : ¬ dp < 0) (h3 : ¬ n < 0) (h4 : sp.toNatClampNeg + n.toNatClampNeg ≤ n0) (h5 : dp.toNatClampNeg + n.toNatClampNeg ≤ n1)
    (hfr : 1 ≤ rm.frames) (hlo : (st.map fun v => v.category).sum + (nativeFrameWords "java/lang/System" "arraycopy" 5 + 11) ≤ rm.locals) (kk : gG X q ls st (hp.set k1 (.inl (n1, va_cpy f g sp.toNatClampNeg dp.toNatClampNeg n.toNatClampNeg))) cl sl) : gG X pc ls (.int n :: .int dp :: .ref k1 :: .int sp :: .ref k0 :: st) hp cl sl := by
  subst hq
  have hR := C.2.2.2.2.2.2.2.2.1
  intro arr H locs hl hh hS T hT Y
  have hc0 : H[xB X + k0]? = some (vp_cell (xI X) (n0, .inl f)) := hh.2 k0 _ ho0 gJ2
  have hc1 : H[xB X + k1]? = some (vp_cell (xI X) (n1, .inl g)) := hh.2 k1 _ ho1 gJ2
  obtain ⟨-, kA, hkA, cmA, hkk⟩ := ((gC_K C).2 0 _ rfl).1 n0 (fun j => .int (f j))
  obtain ⟨-, kB, hkB, cmB, hkkB⟩ := ((gC_K C).2 0 _ rfl).1 n1 (fun j => .int (g j))
  have hsz : arr.size = nL := hl.1.trans hls
  have hcat : (st.map fun v => v.category).sum = ((st.map (gv (xB X) (xA X))).map fun v => v.category).sum := by
    rw [List.map_map]
    have e : ((fun v => v.category) ∘ gv (xB X) (xA X)) = fun v : Value => v.category := by funext v; exact gv_cat _ _ v
    rw [e]
  rw [hcat] at hlo
  obtain ⟨vm', X', step⟩ := Y.arraycopy C.1 C.2.2.2.1 (gC_hts C hlink) (gC_hts C hnat) (gC_hts C hst) (gC_hts C hini) (src := xB X + k0) (dst := xB X + k1) (cs := vp_cell (xI X) (n0, .inl f)) (cd := vp_cell (xI X) (n1, .inl g)) (srcPos := sp) (destPos := dp) (n := n) (by rw [hT]; exact hc0) (by rw [hT]; exact hc1)
    (fun _ h => by cases h) (fun _ h => by cases h) (fun h => by cases h) (fun h => by cases h) hkA hkB hkk hkkB (by simp [refKind]) h1 h2 h3
    (by rw [← gcl h1, ← gcl h3]; show ¬ _ > ((arrV (xI X) n0 (fun j => .int (f j))).slots.size : Int); rw [arrV_size]; omega)
    (by rw [← gcl h2, ← gcl h3]; show ¬ _ > ((arrV (xI X) n1 (fun j => .int (g j))).slots.size : Int); rw [arrV_size]; omega)
    (fun vm₁ _ i hi => by
      have e : (vp_cell (xI X) (n0, .inl f)).slots.getD (sp.toNatClampNeg + i) .null = .int (f (sp.toNatClampNeg + i)) := by
        show (arrV (xI X) n0 (fun j => .int (f j))).slots.getD _ _ = _
        rw [Array.getD_eq_getD_getElem?, arrV_read _ _ (by omega)]
        rfl
      refine ⟨?_, ?_⟩
      · rw [e]; rfl
      · rw [e]
        exact trivial)
    (g := F0 (xm X) pc arr ((.int n :: .int dp :: .ref k1 :: .int sp :: .ref k0 :: st).map (gv (xB X) (xA X)))) rfl (by rw [C.2.2.1]; exact hsz) (rest := st.map (gv (xB X) (xA X))) rfl (by rw [C.2.1]; exact hd) (by rw [hR]; exact hfr) (by rw [hR]; show 2 * 0 + _ + _ ≤ _; omega)
  have e1 : copied (vp_cell (xI X) (n0, .inl f)) (vp_cell (xI X) (n1, .inl g)) sp dp n = vp_cell (xI X) (n1, .inl (va_cpy f g sp.toNatClampNeg dp.toNatClampNeg n.toNatClampNeg)) := va_copied (fun z => .int z) (xI X) (xI X) f g h4
  rw [e1] at X' step
  have hlt : xB X + k1 < H.size := (Array.getElem?_eq_some_iff.mp hc1).1
  have hheap : ((T.setVm vm').setCell (xB X + k1) (vp_cell (xI X) (n1, .inl (va_cpy f g sp.toNatClampNeg dp.toNatClampNeg n.toNatClampNeg)))).heap = H.setIfInBounds (xB X + k1) (vp_cell (xI X) (n1, .inl (va_cpy f g sp.toNatClampNeg dp.toNatClampNeg n.toNatClampNeg))) := by rw [← hT]; rfl
  have oq : ∀ q : Nat, q ≠ xB X + k1 → (H.setIfInBounds (xB X + k1) (vp_cell (xI X) (n1, .inl (va_cpy f g sp.toNatClampNeg dp.toNatClampNeg n.toNatClampNeg))))[q]? = H[q]? := fun q hq => by simp [Array.getElem?_setIfInBounds, Ne.symm hq]
  have oe : (H.setIfInBounds (xB X + k1) (vp_cell (xI X) (n1, .inl (va_cpy f g sp.toNatClampNeg dp.toNatClampNeg n.toNatClampNeg))))[xB X + k1]? = some (vp_cell (xI X) (n1, .inl (va_cpy f g sp.toNatClampNeg dp.toNatClampNeg n.toNatClampNeg))) := by simp [Array.getElem?_setIfInBounds, hlt]
  obtain ⟨t, a1, b1⟩ := kk arr _ _ hl (gH_set hh (by simp) oq oe) ⟨by simp; exact hS.1, fun q g1 g2 => by
      rw [oq q (fun e => g2 (by rw [e]; exact Nat.le_add_right _ _))]
      exact hS.2.1 q g1 g2, fun q hq => by
      rcases List.mem_append.mp hq with h | h
      · exact hS.2.2 q h
      · obtain ⟨z, -, hz⟩ := List.mem_map.mp h
        rw [← hz]
        exact Nat.le_add_right _ _⟩ _ hheap X'
  exact ⟨t, step t a1, b1⟩
end GCP
theorem gmn {a b : Nat} (ha : a < 2 ^ 31) (hb : b < 2 ^ 31) : gmin (nI a) (nI b) = nI (min a b) := by
  unfold gmin
  by_cases h : b < a
  · rw [if_pos (nI_lt h ha), Nat.min_eq_right (Nat.le_of_lt h)]
  · rw [if_neg (nI_nlt (Nat.not_lt.mp h) hb), Nat.min_eq_left (Nat.not_lt.mp h)]
theorem gm3 {a b c : Nat} (h1 : a ≤ b) (h2 : a ≤ c) (hb : b < 2 ^ 31) (hc : c < 2 ^ 31) : gmin (nI a) (gmin (Int32.ofNat b) (Int32.ofNat c)) = nI a := by
  have e := gmn hb hc
  unfold nI at e
  rw [e, show Int32.ofNat (min b c) = nI (min b c) from rfl, gmn (by omega) (by omega), Nat.min_eq_left (by omega)]
theorem gmx {a : Nat} (ha : a < 2 ^ 31) : gmax 0 (nI a) = nI a := by
  unfold gmax
  split
  · rfl
  · rename_i h
    rw [Int32.lt_iff_toInt_lt, nI_toInt ha] at h
    have h0 : (0 : Int32).toInt = 0 := by decide
    have h2 : a = 0 := by rw [h0] at h; omega
    rw [h2]; rfl
theorem gcpy {f2 f : Nat → Int32} {l2 : List Int32} (hl : l2.length < 2 ^ 31) (hf2 : ∀ j, j < l2.length → f2 j = l2.getD j 0) : ∀ j, j < l2.length → va_cpy f2 f (Int32.toNatClampNeg 0) (Int32.toNatClampNeg 0) (Int32.toNatClampNeg (nI l2.length)) j = l2.getD j 0 := by
  intro j hj
  have e0 : Int32.toNatClampNeg 0 = 0 := by decide
  rw [e0, nI_clamp hl, va_cpy, if_pos ⟨Nat.zero_le _, by omega⟩, Nat.zero_add, Nat.sub_zero]
  exact hf2 j hj
theorem gle0 {a : Nat} (ha : a < 2 ^ 31) (h : nI a ≤ 0) : a = 0 := by
  rw [Int32.le_iff_toInt_le, nI_toInt ha] at h
  have h0 : (0 : Int32).toInt = 0 := by decide
  rw [h0] at h; omega
theorem dX4_copy_0 : decode cX4_copy 0 = .ok (.aload_n 1, 1) := by decide +kernel
theorem dX4_copy_1 : decode cX4_copy 1 = .ok (.getfield 7, 3) := by decide +kernel
theorem dX4_copy_4 : decode cX4_copy 4 = .ok (.aload_n 1, 1) := by decide +kernel
theorem dX4_copy_5 : decode cX4_copy 5 = .ok (.getfield 19, 3) := by decide +kernel
theorem dX4_copy_8 : decode cX4_copy 8 = .ok (.arraylength, 1) := by decide +kernel
theorem dX4_copy_9 : decode cX4_copy 9 = .ok (.aload_n 0, 1) := by decide +kernel
theorem dX4_copy_10 : decode cX4_copy 10 = .ok (.getfield 19, 3) := by decide +kernel
theorem dX4_copy_13 : decode cX4_copy 13 = .ok (.arraylength, 1) := by decide +kernel
theorem dX4_copy_14 : decode cX4_copy 14 = .ok (.invokestatic 26, 3) := by decide +kernel
theorem dX4_copy_17 : decode cX4_copy 17 = .ok (.invokestatic 26, 3) := by decide +kernel
theorem dX4_copy_20 : decode cX4_copy 20 = .ok (.istore_n 2, 1) := by decide +kernel
theorem dX4_copy_21 : decode cX4_copy 21 = .ok (.iload_n 2, 1) := by decide +kernel
theorem dX4_copy_22 : decode cX4_copy 22 = .ok (.ifCond .le 17, 3) := by decide +kernel
theorem dX4_copy_25 : decode cX4_copy 25 = .ok (.aload_n 1, 1) := by decide +kernel
theorem dX4_copy_26 : decode cX4_copy 26 = .ok (.getfield 19, 3) := by decide +kernel
theorem dX4_copy_29 : decode cX4_copy 29 = .ok (.iconst 0, 1) := by decide +kernel
theorem dX4_copy_30 : decode cX4_copy 30 = .ok (.aload_n 0, 1) := by decide +kernel
theorem dX4_copy_31 : decode cX4_copy 31 = .ok (.getfield 19, 3) := by decide +kernel
theorem dX4_copy_34 : decode cX4_copy 34 = .ok (.iconst 0, 1) := by decide +kernel
theorem dX4_copy_35 : decode cX4_copy 35 = .ok (.iload_n 2, 1) := by decide +kernel
theorem dX4_copy_36 : decode cX4_copy 36 = .ok (.invokestatic 35, 3) := by decide +kernel
theorem dX4_copy_39 : decode cX4_copy 39 = .ok (.aload_n 0, 1) := by decide +kernel
theorem dX4_copy_40 : decode cX4_copy 40 = .ok (.iconst 0, 1) := by decide +kernel
theorem dX4_copy_41 : decode cX4_copy 41 = .ok (.iload_n 2, 1) := by decide +kernel
theorem dX4_copy_42 : decode cX4_copy 42 = .ok (.invokestatic 13, 3) := by decide +kernel
theorem dX4_copy_45 : decode cX4_copy 45 = .ok (.putfield 7, 3) := by decide +kernel
theorem dX4_copy_48 : decode cX4_copy 48 = .ok (.return_, 1) := by decide +kernel
set_option maxRecDepth 100000 in
set_option maxHeartbeats 4000000 in
theorem c_X4_copy_w {hp : List gA} {r a n : Nat} {l : List Int32} {r2 a2 n2 : Nat} {l2 : List Int32} (H : gRw hp r a n l) (H2 : gRw hp r2 a2 n2 l2) (hl2 : l2.length ≤ n) : gM yX4_copy cX4_copy 3 (none) 1 60 [.ref r, .ref r2] (hp) (0) (0) (fun v h => v = none ∧ (gRw h r a n l2 ∧ gFr hp h r a)) := by
  obtain ⟨f, hr, ha, hle, hn, hf⟩ := H
  have hlt : l.length < 2 ^ 31 := by omega
  have hnt : n < 2 ^ 31 := by omega
  obtain ⟨f2, hr2, ha2, hle2, hn2, hf2⟩ := H2
  have hlt2 : l2.length < 2 ^ 31 := by omega
  have hnt2 : n2 < 2 ^ 31 := by omega
  have hra : r ≠ a := gne hr ha (by intro h; cases h)
  refine gM_of (ls0 := [some (.ref r), some (.ref r2), none]) (by decide +kernel) (Nat.le_of_ble_eq_true rfl) rfl fun X C E => ?_
  refine g_aload_n (q := 1) C dX4_copy_0 rfl rfl ?_
  refine g_getfield (q := 4) C fX4_7 dX4_copy_1 rfl hr2 rfl ?_
  refine g_aload_n (q := 5) C dX4_copy_4 rfl rfl ?_
  refine g_getfield (q := 8) C fX4_19 dX4_copy_5 rfl hr2 rfl ?_
  refine g_arraylength (q := 9) C dX4_copy_8 rfl ha2 rfl ?_
  refine g_aload_n (q := 10) C dX4_copy_9 rfl rfl ?_
  refine g_getfield (q := 13) C fX4_19 dX4_copy_10 rfl hr rfl ?_
  refine g_arraylength (q := 14) C dX4_copy_13 rfl ha rfl ?_
  refine g_callSi (q := 17) (As := [.int _, .int _]) C gyJ9_min_7cf53 t_411 t_410 (c_J9_min_7cf53) dX4_copy_14 rfl rfl rfl (Nat.le_of_ble_eq_true rfl) (Nat.le_of_ble_eq_true rfl) (Nat.le_of_ble_eq_true rfl) (Nat.le_of_ble_eq_true rfl) (Nat.le_of_ble_eq_true rfl) rfl ?_
  refine g_callSi (q := 20) (As := [.int ((nI l2.length)), .int _]) C gyJ9_min_7cf53 t_411 t_410 (c_J9_min_7cf53) dX4_copy_17 rfl rfl rfl (Nat.le_of_ble_eq_true rfl) (Nat.le_of_ble_eq_true rfl) (Nat.le_of_ble_eq_true rfl) (Nat.le_of_ble_eq_true rfl) (Nat.le_of_ble_eq_true rfl) rfl ?_
  rw [gm3 hle2 hl2 hnt2 hnt]
  refine g_istore_n (q := 21) C dX4_copy_20 (Nat.le_of_ble_eq_true rfl) (by simp only [gset]; rfl) rfl ?_
  refine g_iload_n (q := 22) C dX4_copy_21 rfl rfl ?_
  refine g_if_le (t := 39) (q := 25) C dX4_copy_22 (by decide) rfl (fun c_22 => ?_) (fun c_22 => ?_)
  · -- to 39
    refine g_aload_n (q := 40) C dX4_copy_39 rfl rfl ?_
    refine g_iconst (v := 0) (q := 41) C dX4_copy_40 (by decide) rfl ?_
    refine g_iload_n (q := 42) C dX4_copy_41 rfl rfl ?_
    refine g_callSi (q := 45) (As := [.int 0, .int _]) C gyJ9_max_7cf53 t_72 t_71 (c_J9_max_7cf53) dX4_copy_42 rfl rfl rfl (Nat.le_of_ble_eq_true rfl) (Nat.le_of_ble_eq_true rfl) (Nat.le_of_ble_eq_true rfl) (Nat.le_of_ble_eq_true rfl) (Nat.le_of_ble_eq_true rfl) rfl ?_
    refine g_putfield (q := 48) C fX4_7 dX4_copy_45 rfl hr (Nat.le_of_ble_eq_true rfl) (Or.inl rfl) rfl rfl (by intro z h; cases h) ?_
    exact E.2.1 _ _ _ _ _ dX4_copy_48 rfl (Nat.le_of_ble_eq_true rfl) (Nat.le_of_ble_eq_true rfl) ⟨rfl, ⟨f, by rw [gset_self hr, gmx hlt2]; rfl, gset_other ha hra, hl2, hn, fun j hj => by rw [gle0 hlt2 c_22] at hj; omega⟩, fun k h1 h2 => List.getElem?_set_ne (Ne.symm h1)⟩
  · -- to 25
    refine g_aload_n (q := 26) C dX4_copy_25 rfl rfl ?_
    refine g_getfield (q := 29) C fX4_19 dX4_copy_26 rfl hr2 rfl ?_
    refine g_iconst (v := 0) (q := 30) C dX4_copy_29 (by decide) rfl ?_
    refine g_aload_n (q := 31) C dX4_copy_30 rfl rfl ?_
    refine g_getfield (q := 34) C fX4_19 dX4_copy_31 rfl hr rfl ?_
    refine g_iconst (v := 0) (q := 35) C dX4_copy_34 (by decide) rfl ?_
    refine g_iload_n (q := 36) C dX4_copy_35 rfl rfl ?_
    refine g_copy (q := 39) C t_552 (gW_of (List.mem_of_getElem? (i := 479) (by decide +kernel)) rfl) t_478 t_51 dX4_copy_36 rfl rfl ha2 ha (by decide) (by decide) (nI_pos hlt2) (by rw [nI_clamp hlt2]; show 0 + _ ≤ _; omega) (by rw [nI_clamp hlt2]; show 0 + _ ≤ _; omega) (Nat.le_of_ble_eq_true rfl) (Nat.le_of_ble_eq_true rfl) ?_
    refine g_aload_n (q := 40) C dX4_copy_39 rfl rfl ?_
    refine g_iconst (v := 0) (q := 41) C dX4_copy_40 (by decide) rfl ?_
    refine g_iload_n (q := 42) C dX4_copy_41 rfl rfl ?_
    refine g_callSi (q := 45) (As := [.int 0, .int _]) C gyJ9_max_7cf53 t_72 t_71 (c_J9_max_7cf53) dX4_copy_42 rfl rfl rfl (Nat.le_of_ble_eq_true rfl) (Nat.le_of_ble_eq_true rfl) (Nat.le_of_ble_eq_true rfl) (Nat.le_of_ble_eq_true rfl) (Nat.le_of_ble_eq_true rfl) rfl ?_
    refine g_putfield (q := 48) C fX4_7 dX4_copy_45 rfl (gset_other hr (Ne.symm hra)) (Nat.le_of_ble_eq_true rfl) (Or.inl rfl) rfl rfl (by intro z h; cases h) ?_
    exact E.2.1 _ _ _ _ _ dX4_copy_48 rfl (Nat.le_of_ble_eq_true rfl) (Nat.le_of_ble_eq_true rfl) ⟨rfl, ⟨_, by rw [gset_self (gset_other hr (Ne.symm hra)), gmx hlt2]; rfl, gset_other (gset_self ha) hra, hl2, hn, gcpy hlt2 hf2⟩, fun k h1 h2 => by rw [List.getElem?_set_ne (Ne.symm h1), List.getElem?_set_ne (Ne.symm h2)]⟩
end
section
/-! Side, of any content (by program: wip/p1/m_side.py) -/
def gSd : Type := (Nat → Int32) × (Nat → List Int32)
def gSd.nx (s : gSd) : Int32 := s.1 0
def gSd.wa (s : gSd) : Int32 := s.1 1
def gSd.ro (s : gSd) : Int32 := s.1 2
def gSd.th (s : gSd) : Int32 := s.1 3
def gSd.ask (s : gSd) : Int32 := s.1 4
def gSd.ai (s : gSd) : Int32 := s.1 5
def gSd.me (s : gSd) : Int32 := s.1 6
def gSd.pe (s : gSd) : Int32 := s.1 7
def gSd.pm (s : gSd) : Int32 := s.1 8
def gSd.la (s : gSd) : Int32 := s.1 9
def gSd.se (s : gSd) : Int32 := s.1 10
def gSd.out (s : gSd) : List Int32 := s.2 0
def gSd.got (s : gSd) : List Int32 := s.2 1
def gSd.inn (s : gSd) : List Int32 := s.2 2
def gSd.set (s : gSd) (k : Nat) (x : Int32) : gSd := (fun j => if j = k then x else s.1 j, s.2)
def gSd.row (s : gSd) (k : Nat) (l : List Int32) : gSd := (s.1, fun j => if j = k then l else s.2 j)
def gSdC (o : Nat) (num : Int32) (s : gSd) : gA := .inr (.inr (5, [.int num, .int s.nx, .int s.wa, .int s.ro, .int s.th, .int s.ask, .int s.ai, .int s.me, .ref (o + 1), .ref (o + 3), .ref (o + 5), .int s.pe, .int s.pm, .int s.la, .int s.se]))
def gSide (hp : List gA) (o : Nat) (num : Int32) (s : gSd) : Prop := hp[o]? = some (gSdC o num s) ∧ gRw hp (o + 1) (o + 2) 60 s.out ∧ gRw hp (o + 3) (o + 4) 60 s.got ∧ gRw hp (o + 5) (o + 6) 60 s.inn
def gFS (hp h : List gA) (o : Nat) : Prop := ∀ k, (k < o ∨ o + 7 ≤ k) → h[k]? = hp[k]?
theorem gSide.put {hp h : List gA} {o : Nat} {num : Int32} {s s' : gSd} (H : gSide hp o num s) (e : h[o]? = some (gSdC o num s')) (fr : ∀ k, k ≠ o → h[k]? = hp[k]?) (eo : s'.out = s.out) (eg : s'.got = s.got) (ei : s'.inn = s.inn) : gSide h o num s' ∧ gFS hp h o := by
  refine ⟨⟨e, ?_, ?_, ?_⟩, fun k hk => fr k (by omega)⟩
  · rw [eo]; exact H.2.1.kept (fr _ (by omega)) (fr _ (by omega))
  · rw [eg]; exact H.2.2.1.kept (fr _ (by omega)) (fr _ (by omega))
  · rw [ei]; exact H.2.2.2.kept (fr _ (by omega)) (fr _ (by omega))
theorem gSide.kept {hp h : List gA} {o : Nat} {num : Int32} {s : gSd} (H : gSide hp o num s) (fr : ∀ k, o ≤ k → k < o + 7 → h[k]? = hp[k]?) : gSide h o num s :=
  ⟨(fr _ (by omega) (by omega)).trans H.1, H.2.1.kept (fr _ (by omega) (by omega)) (fr _ (by omega) (by omega)), H.2.2.1.kept (fr _ (by omega) (by omega)) (fr _ (by omega) (by omega)), H.2.2.2.kept (fr _ (by omega) (by omega)) (fr _ (by omega) (by omega))⟩
def gSd.pk (s : gSd) : Int32 := 64 * s.nx + (if s.pm = 0 then 0 else 32)
def gSd.has (s : gSd) : Int32 := if s.pe = -1 then 0 else 1
def gSd.hasMore (s : gSd) : Int32 := if s.pe = -1 then 0 else if s.pm = 0 then 0 else 1
def gSd.pass (s : gSd) : gSd := if s.pe = -1 then s else (((s.set 3 (s.th + s.pe)).set 7 (-1)).set 0 (1 - s.nx))
def gSd.empt (s : gSd) : gSd := ((((((s.set 0 0).set 1 0).set 7 (-1)).row 0 []).set 3 0).row 2 [])
def gSd.rst (s : gSd) (room : Int32) : gSd := ((((((s.empt.set 4 (-1)).set 2 room).set 6 0).row 1 []).set 9 (-1)).set 10 0)
def gSd.brk (s : gSd) : gSd := (((s.pass.row 0 []).set 3 0).row 2 [])
def gSd.whole (s : gSd) : gSd := (((s.row 1 s.inn).row 2 []).set 6 (s.me + 1))
def gSd.emptyCame (s : gSd) : gSd := ((s.row 1 []).set 6 (s.me + 1))
theorem dX5_requestKind_0 : decode cX5_requestKind 0 = .ok (.sipush 192, 3) := by decide +kernel
theorem dX5_requestKind_3 : decode cX5_requestKind 3 = .ok (.aload_n 0, 1) := by decide +kernel
theorem dX5_requestKind_4 : decode cX5_requestKind 4 = .ok (.getfield 24, 3) := by decide +kernel
theorem dX5_requestKind_7 : decode cX5_requestKind 7 = .ok (.iadd, 1) := by decide +kernel
theorem dX5_requestKind_8 : decode cX5_requestKind 8 = .ok (.ireturn, 1) := by decide +kernel
set_option maxRecDepth 100000 in
set_option maxHeartbeats 4000000 in
theorem c_X5_requestKind_s {hp : List gA} {o : Nat} {num : Int32} {s : gSd} (H : gSide hp o num s) : gM yX5_requestKind cX5_requestKind 1 ((some .int)) 0 0 [.ref o] (hp) (0) (0) (fun v h => v = some (.int (192 + s.ask)) ∧ h = hp) := by
  refine gM_of (ls0 := [some (.ref o)]) (by decide +kernel) (Nat.le_of_ble_eq_true rfl) rfl fun X C E => ?_
  refine g_sipush (v := 192) (q := 3) C dX5_requestKind_0 (by decide) rfl ?_
  refine g_aload_n (q := 4) C dX5_requestKind_3 rfl rfl ?_
  refine g_getfield (q := 7) C fX5_24 dX5_requestKind_4 rfl H.1 rfl ?_
  refine g_iadd (q := 8) C dX5_requestKind_7 rfl ?_
  exact E.1 _ _ _ _ _ _ _ dX5_requestKind_8 rfl rfl (Nat.le_of_ble_eq_true rfl) (Nat.le_of_ble_eq_true rfl) ⟨rfl, rfl⟩
theorem dX5_receipt_0 : decode cX5_receipt 0 = .ok (.sipush 128, 3) := by decide +kernel
theorem dX5_receipt_3 : decode cX5_receipt 3 = .ok (.bipush 16, 2) := by decide +kernel
theorem dX5_receipt_5 : decode cX5_receipt 5 = .ok (.aload_n 0, 1) := by decide +kernel
theorem dX5_receipt_6 : decode cX5_receipt 6 = .ok (.getfield 15, 3) := by decide +kernel
theorem dX5_receipt_9 : decode cX5_receipt 9 = .ok (.imul, 1) := by decide +kernel
theorem dX5_receipt_10 : decode cX5_receipt 10 = .ok (.iadd, 1) := by decide +kernel
theorem dX5_receipt_11 : decode cX5_receipt 11 = .ok (.iload_n 1, 1) := by decide +kernel
theorem dX5_receipt_12 : decode cX5_receipt 12 = .ok (.iadd, 1) := by decide +kernel
theorem dX5_receipt_13 : decode cX5_receipt 13 = .ok (.ireturn, 1) := by decide +kernel
set_option maxRecDepth 100000 in
set_option maxHeartbeats 4000000 in
theorem c_X5_receipt_s {hp : List gA} {o : Nat} {num : Int32} {s : gSd} {x : Int32} (H : gSide hp o num s) : gM yX5_receipt cX5_receipt 2 ((some .int)) 0 0 [.ref o, .int x] (hp) (0) (0) (fun v h => v = some (.int (128 + 16 * s.wa + x)) ∧ h = hp) := by
  refine gM_of (ls0 := [some (.ref o), some (.int x)]) (by decide +kernel) (Nat.le_of_ble_eq_true rfl) rfl fun X C E => ?_
  refine g_sipush (v := 128) (q := 3) C dX5_receipt_0 (by decide) rfl ?_
  refine g_bipush (v := 16) (q := 5) C dX5_receipt_3 (by decide) rfl ?_
  refine g_aload_n (q := 6) C dX5_receipt_5 rfl rfl ?_
  refine g_getfield (q := 9) C fX5_15 dX5_receipt_6 rfl H.1 rfl ?_
  refine g_imul (q := 10) C dX5_receipt_9 rfl ?_
  refine g_iadd (q := 11) C dX5_receipt_10 rfl ?_
  refine g_iload_n (q := 12) C dX5_receipt_11 rfl rfl ?_
  refine g_iadd (q := 13) C dX5_receipt_12 rfl ?_
  exact E.1 _ _ _ _ _ _ _ dX5_receipt_13 rfl rfl (Nat.le_of_ble_eq_true rfl) (Nat.le_of_ble_eq_true rfl) ⟨rfl, rfl⟩
theorem dX5_noteSent_0 : decode cX5_noteSent 0 = .ok (.aload_n 0, 1) := by decide +kernel
theorem dX5_noteSent_1 : decode cX5_noteSent 1 = .ok (.iload_n 1, 1) := by decide +kernel
theorem dX5_noteSent_2 : decode cX5_noteSent 2 = .ok (.putfield 55, 3) := by decide +kernel
theorem dX5_noteSent_5 : decode cX5_noteSent 5 = .ok (.aload_n 0, 1) := by decide +kernel
theorem dX5_noteSent_6 : decode cX5_noteSent 6 = .ok (.dup, 1) := by decide +kernel
theorem dX5_noteSent_7 : decode cX5_noteSent 7 = .ok (.getfield 58, 3) := by decide +kernel
theorem dX5_noteSent_10 : decode cX5_noteSent 10 = .ok (.iconst 1, 1) := by decide +kernel
theorem dX5_noteSent_11 : decode cX5_noteSent 11 = .ok (.iadd, 1) := by decide +kernel
theorem dX5_noteSent_12 : decode cX5_noteSent 12 = .ok (.putfield 58, 3) := by decide +kernel
theorem dX5_noteSent_15 : decode cX5_noteSent 15 = .ok (.return_, 1) := by decide +kernel
set_option maxRecDepth 100000 in
set_option maxHeartbeats 4000000 in
theorem c_X5_noteSent_s {hp : List gA} {o : Nat} {num : Int32} {s : gSd} {x : Int32} (H : gSide hp o num s) : gM yX5_noteSent cX5_noteSent 2 (none) 0 0 [.ref o, .int x] (hp) (0) (0) (fun v h => v = none ∧ (gSide h o num ((s.set 9 x).set 10 (s.se + 1)) ∧ gFS hp h o)) := by
  refine gM_of (ls0 := [some (.ref o), some (.int x)]) (by decide +kernel) (Nat.le_of_ble_eq_true rfl) rfl fun X C E => ?_
  refine g_aload_n (q := 1) C dX5_noteSent_0 rfl rfl ?_
  refine g_iload_n (q := 2) C dX5_noteSent_1 rfl rfl ?_
  refine g_putfield (q := 5) C fX5_55 dX5_noteSent_2 rfl H.1 (Nat.le_of_ble_eq_true rfl) (Or.inl rfl) rfl rfl (by intro z h; cases h) ?_
  refine g_aload_n (q := 6) C dX5_noteSent_5 rfl rfl ?_
  refine g_dup (q := 7) C dX5_noteSent_6 rfl rfl ?_
  refine g_getfield (q := 10) C fX5_58 dX5_noteSent_7 rfl (gset_self H.1) rfl ?_
  refine g_iconst (v := 1) (q := 11) C dX5_noteSent_10 (by decide) rfl ?_
  refine g_iadd (q := 12) C dX5_noteSent_11 rfl ?_
  refine g_putfield (q := 15) C fX5_58 dX5_noteSent_12 rfl (gset_self H.1) (Nat.le_of_ble_eq_true rfl) (Or.inl rfl) rfl rfl (by intro z h; cases h) ?_
  exact E.2.1 _ _ _ _ _ dX5_noteSent_15 rfl (Nat.le_of_ble_eq_true rfl) (Nat.le_of_ble_eq_true rfl) ⟨rfl, H.put (gset_self (gset_self H.1)) (fun k hk => by repeat (first | rfl | rw [List.getElem?_set_ne (Ne.symm hk)])) rfl rfl rfl⟩
theorem dX5_blocksSent_0 : decode cX5_blocksSent 0 = .ok (.aload_n 0, 1) := by decide +kernel
theorem dX5_blocksSent_1 : decode cX5_blocksSent 1 = .ok (.getfield 58, 3) := by decide +kernel
theorem dX5_blocksSent_4 : decode cX5_blocksSent 4 = .ok (.ireturn, 1) := by decide +kernel
set_option maxRecDepth 100000 in
set_option maxHeartbeats 4000000 in
theorem c_X5_blocksSent_s {hp : List gA} {o : Nat} {num : Int32} {s : gSd} (H : gSide hp o num s) : gM yX5_blocksSent cX5_blocksSent 1 ((some .int)) 0 0 [.ref o] (hp) (0) (0) (fun v h => v = some (.int s.se) ∧ h = hp) := by
  refine gM_of (ls0 := [some (.ref o)]) (by decide +kernel) (Nat.le_of_ble_eq_true rfl) rfl fun X C E => ?_
  refine g_aload_n (q := 1) C dX5_blocksSent_0 rfl rfl ?_
  refine g_getfield (q := 4) C fX5_58 dX5_blocksSent_1 rfl H.1 rfl ?_
  exact E.1 _ _ _ _ _ _ _ dX5_blocksSent_4 rfl rfl (Nat.le_of_ble_eq_true rfl) (Nat.le_of_ble_eq_true rfl) ⟨rfl, rfl⟩
theorem dX5_pendingKind_0 : decode cX5_pendingKind 0 = .ok (.bipush 64, 2) := by decide +kernel
theorem dX5_pendingKind_2 : decode cX5_pendingKind 2 = .ok (.aload_n 0, 1) := by decide +kernel
theorem dX5_pendingKind_3 : decode cX5_pendingKind 3 = .ok (.getfield 9, 3) := by decide +kernel
theorem dX5_pendingKind_6 : decode cX5_pendingKind 6 = .ok (.imul, 1) := by decide +kernel
theorem dX5_pendingKind_7 : decode cX5_pendingKind 7 = .ok (.aload_n 0, 1) := by decide +kernel
theorem dX5_pendingKind_8 : decode cX5_pendingKind 8 = .ok (.getfield 51, 3) := by decide +kernel
theorem dX5_pendingKind_11 : decode cX5_pendingKind 11 = .ok (.ifCond .eq 8, 3) := by decide +kernel
theorem dX5_pendingKind_14 : decode cX5_pendingKind 14 = .ok (.bipush 32, 2) := by decide +kernel
theorem dX5_pendingKind_16 : decode cX5_pendingKind 16 = .ok (.goto 4, 3) := by decide +kernel
theorem dX5_pendingKind_19 : decode cX5_pendingKind 19 = .ok (.iconst 0, 1) := by decide +kernel
theorem dX5_pendingKind_20 : decode cX5_pendingKind 20 = .ok (.iadd, 1) := by decide +kernel
theorem dX5_pendingKind_21 : decode cX5_pendingKind 21 = .ok (.ireturn, 1) := by decide +kernel
set_option maxRecDepth 100000 in
set_option maxHeartbeats 4000000 in
theorem c_X5_pendingKind_s {hp : List gA} {o : Nat} {num : Int32} {s : gSd} (H : gSide hp o num s) : gM yX5_pendingKind cX5_pendingKind 1 ((some .int)) 0 0 [.ref o] (hp) (0) (0) (fun v h => v = some (.int s.pk) ∧ h = hp) := by
  refine gM_of (ls0 := [some (.ref o)]) (by decide +kernel) (Nat.le_of_ble_eq_true rfl) rfl fun X C E => ?_
  refine g_bipush (v := 64) (q := 2) C dX5_pendingKind_0 (by decide) rfl ?_
  refine g_aload_n (q := 3) C dX5_pendingKind_2 rfl rfl ?_
  refine g_getfield (q := 6) C fX5_9 dX5_pendingKind_3 rfl H.1 rfl ?_
  refine g_imul (q := 7) C dX5_pendingKind_6 rfl ?_
  refine g_aload_n (q := 8) C dX5_pendingKind_7 rfl rfl ?_
  refine g_getfield (q := 11) C fX5_51 dX5_pendingKind_8 rfl H.1 rfl ?_
  refine g_if_eq (t := 19) (q := 14) C dX5_pendingKind_11 (by decide) rfl (fun c_11 => ?_) (fun c_11 => ?_)
  · -- to 19
    refine g_iconst (v := 0) (q := 20) C dX5_pendingKind_19 (by decide) rfl ?_
    refine g_iadd (q := 21) C dX5_pendingKind_20 rfl ?_
    exact E.1 _ _ _ _ _ _ _ dX5_pendingKind_21 rfl rfl (Nat.le_of_ble_eq_true rfl) (Nat.le_of_ble_eq_true rfl) ⟨by simp [gSd.pk, *], rfl⟩
  · -- to 14
    refine g_bipush (v := 32) (q := 16) C dX5_pendingKind_14 (by decide) rfl ?_
    refine g_goto (q := 20) C dX5_pendingKind_16 (by decide) ?_
    refine g_iadd (q := 21) C dX5_pendingKind_20 rfl ?_
    exact E.1 _ _ _ _ _ _ _ dX5_pendingKind_21 rfl rfl (Nat.le_of_ble_eq_true rfl) (Nat.le_of_ble_eq_true rfl) ⟨by simp [gSd.pk, *], rfl⟩
theorem dX5_hasPending_0 : decode cX5_hasPending 0 = .ok (.aload_n 0, 1) := by decide +kernel
theorem dX5_hasPending_1 : decode cX5_hasPending 1 = .ok (.getfield 48, 3) := by decide +kernel
theorem dX5_hasPending_4 : decode cX5_hasPending 4 = .ok (.iconst (-1), 1) := by decide +kernel
theorem dX5_hasPending_5 : decode cX5_hasPending 5 = .ok (.if_icmp .eq 7, 3) := by decide +kernel
theorem dX5_hasPending_8 : decode cX5_hasPending 8 = .ok (.iconst 1, 1) := by decide +kernel
theorem dX5_hasPending_9 : decode cX5_hasPending 9 = .ok (.goto 4, 3) := by decide +kernel
theorem dX5_hasPending_12 : decode cX5_hasPending 12 = .ok (.iconst 0, 1) := by decide +kernel
theorem dX5_hasPending_13 : decode cX5_hasPending 13 = .ok (.ireturn, 1) := by decide +kernel
set_option maxRecDepth 100000 in
set_option maxHeartbeats 4000000 in
theorem c_X5_hasPending_s {hp : List gA} {o : Nat} {num : Int32} {s : gSd} (H : gSide hp o num s) : gM yX5_hasPending cX5_hasPending 1 ((some .boolean)) 0 0 [.ref o] (hp) (0) (0) (fun v h => v = some (.int s.has) ∧ h = hp) := by
  refine gM_of (ls0 := [some (.ref o)]) (by decide +kernel) (Nat.le_of_ble_eq_true rfl) rfl fun X C E => ?_
  refine g_aload_n (q := 1) C dX5_hasPending_0 rfl rfl ?_
  refine g_getfield (q := 4) C fX5_48 dX5_hasPending_1 rfl H.1 rfl ?_
  refine g_iconst (v := (-1)) (q := 5) C dX5_hasPending_4 (by decide) rfl ?_
  refine g_icmp_eq (t := 12) (q := 8) C dX5_hasPending_5 (by decide) rfl (fun c_5 => ?_) (fun c_5 => ?_)
  · -- to 12
    refine g_iconst (v := 0) (q := 13) C dX5_hasPending_12 (by decide) rfl ?_
    exact E.1 _ _ _ _ _ _ _ dX5_hasPending_13 rfl rfl (Nat.le_of_ble_eq_true rfl) (Nat.le_of_ble_eq_true rfl) ⟨by simp [gSd.has, *], rfl⟩
  · -- to 8
    refine g_iconst (v := 1) (q := 9) C dX5_hasPending_8 (by decide) rfl ?_
    refine g_goto (q := 13) C dX5_hasPending_9 (by decide) ?_
    exact E.1 _ _ _ _ _ _ _ dX5_hasPending_13 rfl rfl (Nat.le_of_ble_eq_true rfl) (Nat.le_of_ble_eq_true rfl) ⟨by simp [gSd.has, *], rfl⟩
theorem dX5_pendingHasMore_0 : decode cX5_pendingHasMore 0 = .ok (.aload_n 0, 1) := by decide +kernel
theorem dX5_pendingHasMore_1 : decode cX5_pendingHasMore 1 = .ok (.getfield 48, 3) := by decide +kernel
theorem dX5_pendingHasMore_4 : decode cX5_pendingHasMore 4 = .ok (.iconst (-1), 1) := by decide +kernel
theorem dX5_pendingHasMore_5 : decode cX5_pendingHasMore 5 = .ok (.if_icmp .eq 14, 3) := by decide +kernel
theorem dX5_pendingHasMore_8 : decode cX5_pendingHasMore 8 = .ok (.aload_n 0, 1) := by decide +kernel
theorem dX5_pendingHasMore_9 : decode cX5_pendingHasMore 9 = .ok (.getfield 51, 3) := by decide +kernel
theorem dX5_pendingHasMore_12 : decode cX5_pendingHasMore 12 = .ok (.ifCond .eq 7, 3) := by decide +kernel
theorem dX5_pendingHasMore_15 : decode cX5_pendingHasMore 15 = .ok (.iconst 1, 1) := by decide +kernel
theorem dX5_pendingHasMore_16 : decode cX5_pendingHasMore 16 = .ok (.goto 4, 3) := by decide +kernel
theorem dX5_pendingHasMore_19 : decode cX5_pendingHasMore 19 = .ok (.iconst 0, 1) := by decide +kernel
theorem dX5_pendingHasMore_20 : decode cX5_pendingHasMore 20 = .ok (.ireturn, 1) := by decide +kernel
set_option maxRecDepth 100000 in
set_option maxHeartbeats 4000000 in
theorem c_X5_pendingHasMore_s {hp : List gA} {o : Nat} {num : Int32} {s : gSd} (H : gSide hp o num s) : gM yX5_pendingHasMore cX5_pendingHasMore 1 ((some .boolean)) 0 0 [.ref o] (hp) (0) (0) (fun v h => v = some (.int s.hasMore) ∧ h = hp) := by
  refine gM_of (ls0 := [some (.ref o)]) (by decide +kernel) (Nat.le_of_ble_eq_true rfl) rfl fun X C E => ?_
  refine g_aload_n (q := 1) C dX5_pendingHasMore_0 rfl rfl ?_
  refine g_getfield (q := 4) C fX5_48 dX5_pendingHasMore_1 rfl H.1 rfl ?_
  refine g_iconst (v := (-1)) (q := 5) C dX5_pendingHasMore_4 (by decide) rfl ?_
  refine g_icmp_eq (t := 19) (q := 8) C dX5_pendingHasMore_5 (by decide) rfl (fun c_5 => ?_) (fun c_5 => ?_)
  · -- to 19
    refine g_iconst (v := 0) (q := 20) C dX5_pendingHasMore_19 (by decide) rfl ?_
    exact E.1 _ _ _ _ _ _ _ dX5_pendingHasMore_20 rfl rfl (Nat.le_of_ble_eq_true rfl) (Nat.le_of_ble_eq_true rfl) ⟨by simp [gSd.hasMore, *], rfl⟩
  · -- to 8
    refine g_aload_n (q := 9) C dX5_pendingHasMore_8 rfl rfl ?_
    refine g_getfield (q := 12) C fX5_51 dX5_pendingHasMore_9 rfl H.1 rfl ?_
    refine g_if_eq (t := 19) (q := 15) C dX5_pendingHasMore_12 (by decide) rfl (fun c_12 => ?_) (fun c_12 => ?_)
    · -- to 19
      refine g_iconst (v := 0) (q := 20) C dX5_pendingHasMore_19 (by decide) rfl ?_
      exact E.1 _ _ _ _ _ _ _ dX5_pendingHasMore_20 rfl rfl (Nat.le_of_ble_eq_true rfl) (Nat.le_of_ble_eq_true rfl) ⟨by simp [gSd.hasMore, *], rfl⟩
    · -- to 15
      refine g_iconst (v := 1) (q := 16) C dX5_pendingHasMore_15 (by decide) rfl ?_
      refine g_goto (q := 20) C dX5_pendingHasMore_16 (by decide) ?_
      exact E.1 _ _ _ _ _ _ _ dX5_pendingHasMore_20 rfl rfl (Nat.le_of_ble_eq_true rfl) (Nat.le_of_ble_eq_true rfl) ⟨by simp [gSd.hasMore, *], rfl⟩
theorem dX5_pendingSize_0 : decode cX5_pendingSize 0 = .ok (.iconst 0, 1) := by decide +kernel
theorem dX5_pendingSize_1 : decode cX5_pendingSize 1 = .ok (.aload_n 0, 1) := by decide +kernel
theorem dX5_pendingSize_2 : decode cX5_pendingSize 2 = .ok (.getfield 48, 3) := by decide +kernel
theorem dX5_pendingSize_5 : decode cX5_pendingSize 5 = .ok (.invokestatic 82, 3) := by decide +kernel
theorem dX5_pendingSize_8 : decode cX5_pendingSize 8 = .ok (.ireturn, 1) := by decide +kernel
set_option maxRecDepth 100000 in
set_option maxHeartbeats 4000000 in
theorem c_X5_pendingSize_s {hp : List gA} {o : Nat} {num : Int32} {s : gSd} (H : gSide hp o num s) : gM yX5_pendingSize cX5_pendingSize 1 ((some .int)) 1 21 [.ref o] (hp) (0) (0) (fun v h => v = some (.int (gmax 0 s.pe)) ∧ h = hp) := by
  refine gM_of (ls0 := [some (.ref o)]) (by decide +kernel) (Nat.le_of_ble_eq_true rfl) rfl fun X C E => ?_
  refine g_iconst (v := 0) (q := 1) C dX5_pendingSize_0 (by decide) rfl ?_
  refine g_aload_n (q := 2) C dX5_pendingSize_1 rfl rfl ?_
  refine g_getfield (q := 5) C fX5_48 dX5_pendingSize_2 rfl H.1 rfl ?_
  refine g_callSi (q := 8) (As := [.int 0, .int s.pe]) C gyJ9_max_7cf53 t_72 t_726 (c_J9_max_7cf53) dX5_pendingSize_5 rfl rfl rfl (Nat.le_of_ble_eq_true rfl) (Nat.le_of_ble_eq_true rfl) (Nat.le_of_ble_eq_true rfl) (Nat.le_of_ble_eq_true rfl) (Nat.le_of_ble_eq_true rfl) rfl ?_
  exact E.1 _ _ _ _ _ _ _ dX5_pendingSize_8 rfl rfl (Nat.le_of_ble_eq_true rfl) (Nat.le_of_ble_eq_true rfl) ⟨rfl, rfl⟩
theorem dX5_passPending_0 : decode cX5_passPending 0 = .ok (.aload_n 0, 1) := by decide +kernel
theorem dX5_passPending_1 : decode cX5_passPending 1 = .ok (.getfield 48, 3) := by decide +kernel
theorem dX5_passPending_4 : decode cX5_passPending 4 = .ok (.iconst (-1), 1) := by decide +kernel
theorem dX5_passPending_5 : decode cX5_passPending 5 = .ok (.if_icmp .eq 31, 3) := by decide +kernel
theorem dX5_passPending_8 : decode cX5_passPending 8 = .ok (.aload_n 0, 1) := by decide +kernel
theorem dX5_passPending_9 : decode cX5_passPending 9 = .ok (.dup, 1) := by decide +kernel
theorem dX5_passPending_10 : decode cX5_passPending 10 = .ok (.getfield 21, 3) := by decide +kernel
theorem dX5_passPending_13 : decode cX5_passPending 13 = .ok (.aload_n 0, 1) := by decide +kernel
theorem dX5_passPending_14 : decode cX5_passPending 14 = .ok (.getfield 48, 3) := by decide +kernel
theorem dX5_passPending_17 : decode cX5_passPending 17 = .ok (.iadd, 1) := by decide +kernel
theorem dX5_passPending_18 : decode cX5_passPending 18 = .ok (.putfield 21, 3) := by decide +kernel
theorem dX5_passPending_21 : decode cX5_passPending 21 = .ok (.aload_n 0, 1) := by decide +kernel
theorem dX5_passPending_22 : decode cX5_passPending 22 = .ok (.iconst (-1), 1) := by decide +kernel
theorem dX5_passPending_23 : decode cX5_passPending 23 = .ok (.putfield 48, 3) := by decide +kernel
theorem dX5_passPending_26 : decode cX5_passPending 26 = .ok (.aload_n 0, 1) := by decide +kernel
theorem dX5_passPending_27 : decode cX5_passPending 27 = .ok (.iconst 1, 1) := by decide +kernel
theorem dX5_passPending_28 : decode cX5_passPending 28 = .ok (.aload_n 0, 1) := by decide +kernel
theorem dX5_passPending_29 : decode cX5_passPending 29 = .ok (.getfield 9, 3) := by decide +kernel
theorem dX5_passPending_32 : decode cX5_passPending 32 = .ok (.isub, 1) := by decide +kernel
theorem dX5_passPending_33 : decode cX5_passPending 33 = .ok (.putfield 9, 3) := by decide +kernel
theorem dX5_passPending_36 : decode cX5_passPending 36 = .ok (.return_, 1) := by decide +kernel
set_option maxRecDepth 100000 in
set_option maxHeartbeats 4000000 in
theorem c_X5_passPending_s {hp : List gA} {o : Nat} {num : Int32} {s : gSd} (H : gSide hp o num s) : gM yX5_passPending cX5_passPending 1 (none) 0 0 [.ref o] (hp) (0) (0) (fun v h => v = none ∧ (gSide h o num s.pass ∧ gFS hp h o)) := by
  refine gM_of (ls0 := [some (.ref o)]) (by decide +kernel) (Nat.le_of_ble_eq_true rfl) rfl fun X C E => ?_
  refine g_aload_n (q := 1) C dX5_passPending_0 rfl rfl ?_
  refine g_getfield (q := 4) C fX5_48 dX5_passPending_1 rfl H.1 rfl ?_
  refine g_iconst (v := (-1)) (q := 5) C dX5_passPending_4 (by decide) rfl ?_
  refine g_icmp_eq (t := 36) (q := 8) C dX5_passPending_5 (by decide) rfl (fun c_5 => ?_) (fun c_5 => ?_)
  · -- to 36
    exact E.2.1 _ _ _ _ _ dX5_passPending_36 rfl (Nat.le_of_ble_eq_true rfl) (Nat.le_of_ble_eq_true rfl) ⟨rfl, by rw [gSd.pass, if_pos c_5]; exact ⟨H, fun _ _ => rfl⟩⟩
  · -- to 8
    refine g_aload_n (q := 9) C dX5_passPending_8 rfl rfl ?_
    refine g_dup (q := 10) C dX5_passPending_9 rfl rfl ?_
    refine g_getfield (q := 13) C fX5_21 dX5_passPending_10 rfl H.1 rfl ?_
    refine g_aload_n (q := 14) C dX5_passPending_13 rfl rfl ?_
    refine g_getfield (q := 17) C fX5_48 dX5_passPending_14 rfl H.1 rfl ?_
    refine g_iadd (q := 18) C dX5_passPending_17 rfl ?_
    refine g_putfield (q := 21) C fX5_21 dX5_passPending_18 rfl H.1 (Nat.le_of_ble_eq_true rfl) (Or.inl rfl) rfl rfl (by intro z h; cases h) ?_
    refine g_aload_n (q := 22) C dX5_passPending_21 rfl rfl ?_
    refine g_iconst (v := (-1)) (q := 23) C dX5_passPending_22 (by decide) rfl ?_
    refine g_putfield (q := 26) C fX5_48 dX5_passPending_23 rfl (gset_self H.1) (Nat.le_of_ble_eq_true rfl) (Or.inl rfl) rfl rfl (by intro z h; cases h) ?_
    refine g_aload_n (q := 27) C dX5_passPending_26 rfl rfl ?_
    refine g_iconst (v := 1) (q := 28) C dX5_passPending_27 (by decide) rfl ?_
    refine g_aload_n (q := 29) C dX5_passPending_28 rfl rfl ?_
    refine g_getfield (q := 32) C fX5_9 dX5_passPending_29 rfl (gset_self (gset_self H.1)) rfl ?_
    refine g_isub (q := 33) C dX5_passPending_32 rfl ?_
    refine g_putfield (q := 36) C fX5_9 dX5_passPending_33 rfl (gset_self (gset_self H.1)) (Nat.le_of_ble_eq_true rfl) (Or.inl rfl) rfl rfl (by intro z h; cases h) ?_
    exact E.2.1 _ _ _ _ _ dX5_passPending_36 rfl (Nat.le_of_ble_eq_true rfl) (Nat.le_of_ble_eq_true rfl) ⟨rfl, by rw [gSd.pass, if_neg c_5]; exact H.put (gset_self (gset_self (gset_self H.1))) (fun k hk => by repeat (first | rfl | rw [List.getElem?_set_ne (Ne.symm hk)])) rfl rfl rfl⟩
theorem dX5_ask_0 : decode cX5_ask 0 = .ok (.aload_n 0, 1) := by decide +kernel
theorem dX5_ask_1 : decode cX5_ask 1 = .ok (.iload_n 1, 1) := by decide +kernel
theorem dX5_ask_2 : decode cX5_ask 2 = .ok (.putfield 24, 3) := by decide +kernel
theorem dX5_ask_5 : decode cX5_ask 5 = .ok (.aload_n 0, 1) := by decide +kernel
theorem dX5_ask_6 : decode cX5_ask 6 = .ok (.iload_n 2, 1) := by decide +kernel
theorem dX5_ask_7 : decode cX5_ask 7 = .ok (.putfield 27, 3) := by decide +kernel
theorem dX5_ask_10 : decode cX5_ask 10 = .ok (.aload_n 0, 1) := by decide +kernel
theorem dX5_ask_11 : decode cX5_ask 11 = .ok (.invokevirtual 101, 3) := by decide +kernel
theorem dX5_ask_14 : decode cX5_ask 14 = .ok (.ireturn, 1) := by decide +kernel
set_option maxRecDepth 100000 in
set_option maxHeartbeats 4000000 in
theorem c_X5_ask_s {hp : List gA} {o : Nat} {num : Int32} {s : gSd} {w x : Int32} (H : gSide hp o num s) : gM yX5_ask cX5_ask 3 ((some .int)) 1 20 [.ref o, .int w, .int x] (hp) (0) (0) (fun v h => v = some (.int (192 + w)) ∧ (gSide h o num ((s.set 4 w).set 5 x) ∧ gFS hp h o)) := by
  refine gM_of (ls0 := [some (.ref o), some (.int w), some (.int x)]) (by decide +kernel) (Nat.le_of_ble_eq_true rfl) rfl fun X C E => ?_
  refine g_aload_n (q := 1) C dX5_ask_0 rfl rfl ?_
  refine g_iload_n (q := 2) C dX5_ask_1 rfl rfl ?_
  refine g_putfield (q := 5) C fX5_24 dX5_ask_2 rfl H.1 (Nat.le_of_ble_eq_true rfl) (Or.inl rfl) rfl rfl (by intro z h; cases h) ?_
  refine g_aload_n (q := 6) C dX5_ask_5 rfl rfl ?_
  refine g_iload_n (q := 7) C dX5_ask_6 rfl rfl ?_
  refine g_putfield (q := 10) C fX5_27 dX5_ask_7 rfl (gset_self H.1) (Nat.le_of_ble_eq_true rfl) (Or.inl rfl) rfl rfl (by intro z h; cases h) ?_
  refine g_aload_n (q := 11) C dX5_ask_10 rfl rfl ?_
  refine g_callVi (q := 14) (As := []) C gyX5_requestKind gvX5_requestKind t_627 ((c_X5_requestKind_s (s := ((s.set 4 w).set 5 x)) (And.left (H.put (gset_self (gset_self H.1)) (fun k hk => by repeat (first | rfl | rw [List.getElem?_set_ne (Ne.symm hk)])) rfl rfl rfl)))) dX5_ask_11 rfl (gset_self (gset_self H.1)) rfl rfl rfl (Nat.le_of_ble_eq_true rfl) (Nat.le_of_ble_eq_true rfl) (Nat.le_of_ble_eq_true rfl) (Nat.le_of_ble_eq_true rfl) (Nat.le_of_ble_eq_true rfl) rfl ?_
  exact E.1 _ _ _ _ _ _ _ dX5_ask_14 rfl rfl (Nat.le_of_ble_eq_true rfl) (Nat.le_of_ble_eq_true rfl) ⟨rfl, H.put (gset_self (gset_self H.1)) (fun k hk => by repeat (first | rfl | rw [List.getElem?_set_ne (Ne.symm hk)])) rfl rfl rfl⟩
theorem gFS.trans {hp h h' : List gA} {o : Nat} (a : gFS hp h o) (b : gFS h h' o) : gFS hp h' o := fun k hk => (b k hk).trans (a k hk)
theorem gFS.set {hp : List gA} {o : Nat} {e : gA} : gFS hp (hp.set o e) o := fun k hk => List.getElem?_set_ne (by omega)
theorem gFS.of {hp h : List gA} {o a b : Nat} (f : gFr hp h a b) (ha : o ≤ a) (ha2 : a < o + 7) (hb : o ≤ b) (hb2 : b < o + 7) : gFS hp h o := fun k hk => f k (by omega) (by omega)
theorem gFS.rf {hp : List gA} {o : Nat} : gFS hp hp o := fun _ _ => rfl
theorem dX5_emptyAll_0 : decode cX5_emptyAll 0 = .ok (.aload_n 0, 1) := by decide +kernel
theorem dX5_emptyAll_1 : decode cX5_emptyAll 1 = .ok (.iconst 0, 1) := by decide +kernel
theorem dX5_emptyAll_2 : decode cX5_emptyAll 2 = .ok (.putfield 9, 3) := by decide +kernel
theorem dX5_emptyAll_5 : decode cX5_emptyAll 5 = .ok (.aload_n 0, 1) := by decide +kernel
theorem dX5_emptyAll_6 : decode cX5_emptyAll 6 = .ok (.iconst 0, 1) := by decide +kernel
theorem dX5_emptyAll_7 : decode cX5_emptyAll 7 = .ok (.putfield 15, 3) := by decide +kernel
theorem dX5_emptyAll_10 : decode cX5_emptyAll 10 = .ok (.aload_n 0, 1) := by decide +kernel
theorem dX5_emptyAll_11 : decode cX5_emptyAll 11 = .ok (.iconst (-1), 1) := by decide +kernel
theorem dX5_emptyAll_12 : decode cX5_emptyAll 12 = .ok (.putfield 48, 3) := by decide +kernel
theorem dX5_emptyAll_15 : decode cX5_emptyAll 15 = .ok (.aload_n 0, 1) := by decide +kernel
theorem dX5_emptyAll_16 : decode cX5_emptyAll 16 = .ok (.getfield 38, 3) := by decide +kernel
theorem dX5_emptyAll_19 : decode cX5_emptyAll 19 = .ok (.iconst 0, 1) := by decide +kernel
theorem dX5_emptyAll_20 : decode cX5_emptyAll 20 = .ok (.invokevirtual 67, 3) := by decide +kernel
theorem dX5_emptyAll_23 : decode cX5_emptyAll 23 = .ok (.aload_n 0, 1) := by decide +kernel
theorem dX5_emptyAll_24 : decode cX5_emptyAll 24 = .ok (.iconst 0, 1) := by decide +kernel
theorem dX5_emptyAll_25 : decode cX5_emptyAll 25 = .ok (.putfield 21, 3) := by decide +kernel
theorem dX5_emptyAll_28 : decode cX5_emptyAll 28 = .ok (.aload_n 0, 1) := by decide +kernel
theorem dX5_emptyAll_29 : decode cX5_emptyAll 29 = .ok (.getfield 45, 3) := by decide +kernel
theorem dX5_emptyAll_32 : decode cX5_emptyAll 32 = .ok (.iconst 0, 1) := by decide +kernel
theorem dX5_emptyAll_33 : decode cX5_emptyAll 33 = .ok (.invokevirtual 67, 3) := by decide +kernel
theorem dX5_emptyAll_36 : decode cX5_emptyAll 36 = .ok (.return_, 1) := by decide +kernel
set_option maxRecDepth 100000 in
set_option maxHeartbeats 4000000 in
theorem c_X5_emptyAll_s {hp : List gA} {o : Nat} {num : Int32} {s : gSd} (H : gSide hp o num s) : gM yX5_emptyAll cX5_emptyAll 1 (none) 2 42 [.ref o] (hp) (0) (0) (fun v h => v = none ∧ (gSide h o num s.empt ∧ gFS hp h o)) := by
  refine gM_of (ls0 := [some (.ref o)]) (by decide +kernel) (Nat.le_of_ble_eq_true rfl) rfl fun X C E => ?_
  refine g_aload_n (q := 1) C dX5_emptyAll_0 rfl rfl ?_
  refine g_iconst (v := 0) (q := 2) C dX5_emptyAll_1 (by decide) rfl ?_
  refine g_putfield (q := 5) C fX5_9 dX5_emptyAll_2 rfl H.1 (Nat.le_of_ble_eq_true rfl) (Or.inl rfl) rfl rfl (by intro z h; cases h) ?_
  refine g_aload_n (q := 6) C dX5_emptyAll_5 rfl rfl ?_
  refine g_iconst (v := 0) (q := 7) C dX5_emptyAll_6 (by decide) rfl ?_
  refine g_putfield (q := 10) C fX5_15 dX5_emptyAll_7 rfl (gset_self H.1) (Nat.le_of_ble_eq_true rfl) (Or.inl rfl) rfl rfl (by intro z h; cases h) ?_
  refine g_aload_n (q := 11) C dX5_emptyAll_10 rfl rfl ?_
  refine g_iconst (v := (-1)) (q := 12) C dX5_emptyAll_11 (by decide) rfl ?_
  refine g_putfield (q := 15) C fX5_48 dX5_emptyAll_12 rfl (gset_self (gset_self H.1)) (Nat.le_of_ble_eq_true rfl) (Or.inl rfl) rfl rfl (by intro z h; cases h) ?_
  refine g_aload_n (q := 16) C dX5_emptyAll_15 rfl rfl ?_
  refine g_getfield (q := 19) C fX5_38 dX5_emptyAll_16 rfl (gset_self (gset_self (gset_self H.1))) rfl ?_
  refine g_iconst (v := 0) (q := 20) C dX5_emptyAll_19 (by decide) rfl ?_
  refine g_callVvp (q := 23) (As := [.int 0]) C gyX4_keep gvX4_keep t_502 (c_X4_keep_w (k := 0) (((H.2.1.kept (List.getElem?_set_ne (by omega)) (List.getElem?_set_ne (by omega))).kept (List.getElem?_set_ne (by omega)) (List.getElem?_set_ne (by omega))).kept (List.getElem?_set_ne (by omega)) (List.getElem?_set_ne (by omega))) (by decide)) dX5_emptyAll_20 rfl (gRw.obj (((H.2.1.kept (List.getElem?_set_ne (by omega)) (List.getElem?_set_ne (by omega))).kept (List.getElem?_set_ne (by omega)) (List.getElem?_set_ne (by omega))).kept (List.getElem?_set_ne (by omega)) (List.getElem?_set_ne (by omega)))) rfl rfl rfl (Nat.le_of_ble_eq_true rfl) (Nat.le_of_ble_eq_true rfl) (Nat.le_of_ble_eq_true rfl) (Nat.le_of_ble_eq_true rfl) (Nat.le_of_ble_eq_true rfl) rfl (fun h1 z1 => ?_)
  obtain ⟨HR1, fr1⟩ := z1
  rw [List.take_zero] at HR1
  refine g_aload_n (q := 24) C dX5_emptyAll_23 rfl rfl ?_
  refine g_iconst (v := 0) (q := 25) C dX5_emptyAll_24 (by decide) rfl ?_
  refine g_putfield (q := 28) C fX5_21 dX5_emptyAll_25 rfl (((fr1) (o) (by omega) (by omega)).trans (gset_self (gset_self (gset_self H.1)))) (Nat.le_of_ble_eq_true rfl) (Or.inl rfl) rfl rfl (by intro z h; cases h) ?_
  refine g_aload_n (q := 29) C dX5_emptyAll_28 rfl rfl ?_
  refine g_getfield (q := 32) C fX5_45 dX5_emptyAll_29 rfl (gset_self (((fr1) (o) (by omega) (by omega)).trans (gset_self (gset_self (gset_self H.1))))) rfl ?_
  refine g_iconst (v := 0) (q := 33) C dX5_emptyAll_32 (by decide) rfl ?_
  refine g_callVvp (q := 36) (As := [.int 0]) C gyX4_keep gvX4_keep t_502 (c_X4_keep_w (k := 0) (((((H.2.2.2.kept (List.getElem?_set_ne (by omega)) (List.getElem?_set_ne (by omega))).kept (List.getElem?_set_ne (by omega)) (List.getElem?_set_ne (by omega))).kept (List.getElem?_set_ne (by omega)) (List.getElem?_set_ne (by omega))).kept ((fr1) (o + 5) (by omega) (by omega)) ((fr1) (o + 6) (by omega) (by omega))).kept (List.getElem?_set_ne (by omega)) (List.getElem?_set_ne (by omega))) (by decide)) dX5_emptyAll_33 rfl (gRw.obj (((((H.2.2.2.kept (List.getElem?_set_ne (by omega)) (List.getElem?_set_ne (by omega))).kept (List.getElem?_set_ne (by omega)) (List.getElem?_set_ne (by omega))).kept (List.getElem?_set_ne (by omega)) (List.getElem?_set_ne (by omega))).kept ((fr1) (o + 5) (by omega) (by omega)) ((fr1) (o + 6) (by omega) (by omega))).kept (List.getElem?_set_ne (by omega)) (List.getElem?_set_ne (by omega)))) rfl rfl rfl (Nat.le_of_ble_eq_true rfl) (Nat.le_of_ble_eq_true rfl) (Nat.le_of_ble_eq_true rfl) (Nat.le_of_ble_eq_true rfl) (Nat.le_of_ble_eq_true rfl) rfl (fun h2 z2 => ?_)
  obtain ⟨HR2, fr2⟩ := z2
  rw [List.take_zero] at HR2
  exact E.2.1 _ _ _ _ _ dX5_emptyAll_36 rfl (Nat.le_of_ble_eq_true rfl) (Nat.le_of_ble_eq_true rfl) ⟨rfl, ⟨(((fr2) (o) (by omega) (by omega)).trans (gset_self (((fr1) (o) (by omega) (by omega)).trans (gset_self (gset_self (gset_self H.1)))))), ((HR1.kept (List.getElem?_set_ne (by omega)) (List.getElem?_set_ne (by omega))).kept ((fr2) (o + 1) (by omega) (by omega)) ((fr2) (o + 2) (by omega) (by omega))), ((((((H.2.2.1.kept (List.getElem?_set_ne (by omega)) (List.getElem?_set_ne (by omega))).kept (List.getElem?_set_ne (by omega)) (List.getElem?_set_ne (by omega))).kept (List.getElem?_set_ne (by omega)) (List.getElem?_set_ne (by omega))).kept ((fr1) (o + 3) (by omega) (by omega)) ((fr1) (o + 4) (by omega) (by omega))).kept (List.getElem?_set_ne (by omega)) (List.getElem?_set_ne (by omega))).kept ((fr2) (o + 3) (by omega) (by omega)) ((fr2) (o + 4) (by omega) (by omega))), HR2⟩, (gFS.trans (gFS.trans (gFS.trans (gFS.trans (gFS.trans (gFS.trans gFS.rf gFS.set) gFS.set) gFS.set) (gFS.of fr1 (by omega) (by omega) (by omega) (by omega))) gFS.set) (gFS.of fr2 (by omega) (by omega) (by omega) (by omega)))⟩
theorem dX5_restart_0 : decode cX5_restart 0 = .ok (.aload_n 0, 1) := by decide +kernel
theorem dX5_restart_1 : decode cX5_restart 1 = .ok (.invokevirtual 64, 3) := by decide +kernel
theorem dX5_restart_4 : decode cX5_restart 4 = .ok (.aload_n 0, 1) := by decide +kernel
theorem dX5_restart_5 : decode cX5_restart 5 = .ok (.iconst (-1), 1) := by decide +kernel
theorem dX5_restart_6 : decode cX5_restart 6 = .ok (.putfield 24, 3) := by decide +kernel
theorem dX5_restart_9 : decode cX5_restart 9 = .ok (.aload_n 0, 1) := by decide +kernel
theorem dX5_restart_10 : decode cX5_restart 10 = .ok (.iload_n 1, 1) := by decide +kernel
theorem dX5_restart_11 : decode cX5_restart 11 = .ok (.putfield 18, 3) := by decide +kernel
theorem dX5_restart_14 : decode cX5_restart 14 = .ok (.aload_n 0, 1) := by decide +kernel
theorem dX5_restart_15 : decode cX5_restart 15 = .ok (.iconst 0, 1) := by decide +kernel
theorem dX5_restart_16 : decode cX5_restart 16 = .ok (.putfield 30, 3) := by decide +kernel
theorem dX5_restart_19 : decode cX5_restart 19 = .ok (.aload_n 0, 1) := by decide +kernel
theorem dX5_restart_20 : decode cX5_restart 20 = .ok (.getfield 42, 3) := by decide +kernel
theorem dX5_restart_23 : decode cX5_restart 23 = .ok (.iconst 0, 1) := by decide +kernel
theorem dX5_restart_24 : decode cX5_restart 24 = .ok (.invokevirtual 67, 3) := by decide +kernel
theorem dX5_restart_27 : decode cX5_restart 27 = .ok (.aload_n 0, 1) := by decide +kernel
theorem dX5_restart_28 : decode cX5_restart 28 = .ok (.iconst (-1), 1) := by decide +kernel
theorem dX5_restart_29 : decode cX5_restart 29 = .ok (.putfield 55, 3) := by decide +kernel
theorem dX5_restart_32 : decode cX5_restart 32 = .ok (.aload_n 0, 1) := by decide +kernel
theorem dX5_restart_33 : decode cX5_restart 33 = .ok (.iconst 0, 1) := by decide +kernel
theorem dX5_restart_34 : decode cX5_restart 34 = .ok (.putfield 58, 3) := by decide +kernel
theorem dX5_restart_37 : decode cX5_restart 37 = .ok (.return_, 1) := by decide +kernel
set_option maxRecDepth 100000 in
set_option maxHeartbeats 4000000 in
theorem c_X5_restart_s {hp : List gA} {o : Nat} {num : Int32} {s : gSd} {x : Int32} (H : gSide hp o num s) : gM yX5_restart cX5_restart 2 (none) 3 62 [.ref o, .int x] (hp) (0) (0) (fun v h => v = none ∧ (gSide h o num (s.rst x) ∧ gFS hp h o)) := by
  refine gM_of (ls0 := [some (.ref o), some (.int x)]) (by decide +kernel) (Nat.le_of_ble_eq_true rfl) rfl fun X C E => ?_
  refine g_aload_n (q := 1) C dX5_restart_0 rfl rfl ?_
  refine g_callVvp (q := 4) (As := []) C gyX5_emptyAll gvX5_emptyAll t_498 (c_X5_emptyAll_s H) dX5_restart_1 rfl H.1 rfl rfl rfl (Nat.le_of_ble_eq_true rfl) (Nat.le_of_ble_eq_true rfl) (Nat.le_of_ble_eq_true rfl) (Nat.le_of_ble_eq_true rfl) (Nat.le_of_ble_eq_true rfl) rfl (fun hs1 zs1 => ?_)
  obtain ⟨HS1, fc1⟩ := zs1
  refine g_aload_n (q := 5) C dX5_restart_4 rfl rfl ?_
  refine g_iconst (v := (-1)) (q := 6) C dX5_restart_5 (by decide) rfl ?_
  refine g_putfield (q := 9) C fX5_24 dX5_restart_6 rfl HS1.1 (Nat.le_of_ble_eq_true rfl) (Or.inl rfl) rfl rfl (by intro z h; cases h) ?_
  refine g_aload_n (q := 10) C dX5_restart_9 rfl rfl ?_
  refine g_iload_n (q := 11) C dX5_restart_10 rfl rfl ?_
  refine g_putfield (q := 14) C fX5_18 dX5_restart_11 rfl (gset_self HS1.1) (Nat.le_of_ble_eq_true rfl) (Or.inl rfl) rfl rfl (by intro z h; cases h) ?_
  refine g_aload_n (q := 15) C dX5_restart_14 rfl rfl ?_
  refine g_iconst (v := 0) (q := 16) C dX5_restart_15 (by decide) rfl ?_
  refine g_putfield (q := 19) C fX5_30 dX5_restart_16 rfl (gset_self (gset_self HS1.1)) (Nat.le_of_ble_eq_true rfl) (Or.inl rfl) rfl rfl (by intro z h; cases h) ?_
  refine g_aload_n (q := 20) C dX5_restart_19 rfl rfl ?_
  refine g_getfield (q := 23) C fX5_42 dX5_restart_20 rfl (gset_self (gset_self (gset_self HS1.1))) rfl ?_
  refine g_iconst (v := 0) (q := 24) C dX5_restart_23 (by decide) rfl ?_
  refine g_callVvp (q := 27) (As := [.int 0]) C gyX4_keep gvX4_keep t_502 (c_X4_keep_w (k := 0) (((HS1.2.2.1.kept (List.getElem?_set_ne (by omega)) (List.getElem?_set_ne (by omega))).kept (List.getElem?_set_ne (by omega)) (List.getElem?_set_ne (by omega))).kept (List.getElem?_set_ne (by omega)) (List.getElem?_set_ne (by omega))) (by decide)) dX5_restart_24 rfl (gRw.obj (((HS1.2.2.1.kept (List.getElem?_set_ne (by omega)) (List.getElem?_set_ne (by omega))).kept (List.getElem?_set_ne (by omega)) (List.getElem?_set_ne (by omega))).kept (List.getElem?_set_ne (by omega)) (List.getElem?_set_ne (by omega)))) rfl rfl rfl (Nat.le_of_ble_eq_true rfl) (Nat.le_of_ble_eq_true rfl) (Nat.le_of_ble_eq_true rfl) (Nat.le_of_ble_eq_true rfl) (Nat.le_of_ble_eq_true rfl) rfl (fun h3 z3 => ?_)
  obtain ⟨HR3, fr3⟩ := z3
  rw [List.take_zero] at HR3
  refine g_aload_n (q := 28) C dX5_restart_27 rfl rfl ?_
  refine g_iconst (v := (-1)) (q := 29) C dX5_restart_28 (by decide) rfl ?_
  refine g_putfield (q := 32) C fX5_55 dX5_restart_29 rfl (((fr3) (o) (by omega) (by omega)).trans (gset_self (gset_self (gset_self HS1.1)))) (Nat.le_of_ble_eq_true rfl) (Or.inl rfl) rfl rfl (by intro z h; cases h) ?_
  refine g_aload_n (q := 33) C dX5_restart_32 rfl rfl ?_
  refine g_iconst (v := 0) (q := 34) C dX5_restart_33 (by decide) rfl ?_
  refine g_putfield (q := 37) C fX5_58 dX5_restart_34 rfl (gset_self (((fr3) (o) (by omega) (by omega)).trans (gset_self (gset_self (gset_self HS1.1))))) (Nat.le_of_ble_eq_true rfl) (Or.inl rfl) rfl rfl (by intro z h; cases h) ?_
  exact E.2.1 _ _ _ _ _ dX5_restart_37 rfl (Nat.le_of_ble_eq_true rfl) (Nat.le_of_ble_eq_true rfl) ⟨rfl, ⟨(gset_self (gset_self (((fr3) (o) (by omega) (by omega)).trans (gset_self (gset_self (gset_self HS1.1)))))), ((((((HS1.2.1.kept (List.getElem?_set_ne (by omega)) (List.getElem?_set_ne (by omega))).kept (List.getElem?_set_ne (by omega)) (List.getElem?_set_ne (by omega))).kept (List.getElem?_set_ne (by omega)) (List.getElem?_set_ne (by omega))).kept ((fr3) (o + 1) (by omega) (by omega)) ((fr3) (o + 2) (by omega) (by omega))).kept (List.getElem?_set_ne (by omega)) (List.getElem?_set_ne (by omega))).kept (List.getElem?_set_ne (by omega)) (List.getElem?_set_ne (by omega))), ((HR3.kept (List.getElem?_set_ne (by omega)) (List.getElem?_set_ne (by omega))).kept (List.getElem?_set_ne (by omega)) (List.getElem?_set_ne (by omega))), ((((((HS1.2.2.2.kept (List.getElem?_set_ne (by omega)) (List.getElem?_set_ne (by omega))).kept (List.getElem?_set_ne (by omega)) (List.getElem?_set_ne (by omega))).kept (List.getElem?_set_ne (by omega)) (List.getElem?_set_ne (by omega))).kept ((fr3) (o + 5) (by omega) (by omega)) ((fr3) (o + 6) (by omega) (by omega))).kept (List.getElem?_set_ne (by omega)) (List.getElem?_set_ne (by omega))).kept (List.getElem?_set_ne (by omega)) (List.getElem?_set_ne (by omega)))⟩, (gFS.trans (gFS.trans (gFS.trans (gFS.trans (gFS.trans (gFS.trans (gFS.trans gFS.rf fc1) gFS.set) gFS.set) gFS.set) (gFS.of fr3 (by omega) (by omega) (by omega) (by omega))) gFS.set) gFS.set)⟩
theorem dX5_breakOff_0 : decode cX5_breakOff 0 = .ok (.aload_n 0, 1) := by decide +kernel
theorem dX5_breakOff_1 : decode cX5_breakOff 1 = .ok (.invokevirtual 75, 3) := by decide +kernel
theorem dX5_breakOff_4 : decode cX5_breakOff 4 = .ok (.aload_n 0, 1) := by decide +kernel
theorem dX5_breakOff_5 : decode cX5_breakOff 5 = .ok (.getfield 38, 3) := by decide +kernel
theorem dX5_breakOff_8 : decode cX5_breakOff 8 = .ok (.iconst 0, 1) := by decide +kernel
theorem dX5_breakOff_9 : decode cX5_breakOff 9 = .ok (.invokevirtual 67, 3) := by decide +kernel
theorem dX5_breakOff_12 : decode cX5_breakOff 12 = .ok (.aload_n 0, 1) := by decide +kernel
theorem dX5_breakOff_13 : decode cX5_breakOff 13 = .ok (.iconst 0, 1) := by decide +kernel
theorem dX5_breakOff_14 : decode cX5_breakOff 14 = .ok (.putfield 21, 3) := by decide +kernel
theorem dX5_breakOff_17 : decode cX5_breakOff 17 = .ok (.aload_n 0, 1) := by decide +kernel
theorem dX5_breakOff_18 : decode cX5_breakOff 18 = .ok (.getfield 45, 3) := by decide +kernel
theorem dX5_breakOff_21 : decode cX5_breakOff 21 = .ok (.iconst 0, 1) := by decide +kernel
theorem dX5_breakOff_22 : decode cX5_breakOff 22 = .ok (.invokevirtual 67, 3) := by decide +kernel
theorem dX5_breakOff_25 : decode cX5_breakOff 25 = .ok (.return_, 1) := by decide +kernel
set_option maxRecDepth 100000 in
set_option maxHeartbeats 4000000 in
theorem c_X5_breakOff_s {hp : List gA} {o : Nat} {num : Int32} {s : gSd} (H : gSide hp o num s) : gM yX5_breakOff cX5_breakOff 1 (none) 2 42 [.ref o] (hp) (0) (0) (fun v h => v = none ∧ (gSide h o num s.brk ∧ gFS hp h o)) := by
  refine gM_of (ls0 := [some (.ref o)]) (by decide +kernel) (Nat.le_of_ble_eq_true rfl) rfl fun X C E => ?_
  refine g_aload_n (q := 1) C dX5_breakOff_0 rfl rfl ?_
  refine g_callVvp (q := 4) (As := []) C gyX5_passPending gvX5_passPending t_666 (c_X5_passPending_s H) dX5_breakOff_1 rfl H.1 rfl rfl rfl (Nat.le_of_ble_eq_true rfl) (Nat.le_of_ble_eq_true rfl) (Nat.le_of_ble_eq_true rfl) (Nat.le_of_ble_eq_true rfl) (Nat.le_of_ble_eq_true rfl) rfl (fun hs1 zs1 => ?_)
  obtain ⟨HS1, fc1⟩ := zs1
  refine g_aload_n (q := 5) C dX5_breakOff_4 rfl rfl ?_
  refine g_getfield (q := 8) C fX5_38 dX5_breakOff_5 rfl HS1.1 rfl ?_
  refine g_iconst (v := 0) (q := 9) C dX5_breakOff_8 (by decide) rfl ?_
  refine g_callVvp (q := 12) (As := [.int 0]) C gyX4_keep gvX4_keep t_502 (c_X4_keep_w (k := 0) HS1.2.1 (by decide)) dX5_breakOff_9 rfl (gRw.obj HS1.2.1) rfl rfl rfl (Nat.le_of_ble_eq_true rfl) (Nat.le_of_ble_eq_true rfl) (Nat.le_of_ble_eq_true rfl) (Nat.le_of_ble_eq_true rfl) (Nat.le_of_ble_eq_true rfl) rfl (fun h4 z4 => ?_)
  obtain ⟨HR4, fr4⟩ := z4
  rw [List.take_zero] at HR4
  refine g_aload_n (q := 13) C dX5_breakOff_12 rfl rfl ?_
  refine g_iconst (v := 0) (q := 14) C dX5_breakOff_13 (by decide) rfl ?_
  refine g_putfield (q := 17) C fX5_21 dX5_breakOff_14 rfl (((fr4) (o) (by omega) (by omega)).trans HS1.1) (Nat.le_of_ble_eq_true rfl) (Or.inl rfl) rfl rfl (by intro z h; cases h) ?_
  refine g_aload_n (q := 18) C dX5_breakOff_17 rfl rfl ?_
  refine g_getfield (q := 21) C fX5_45 dX5_breakOff_18 rfl (gset_self (((fr4) (o) (by omega) (by omega)).trans HS1.1)) rfl ?_
  refine g_iconst (v := 0) (q := 22) C dX5_breakOff_21 (by decide) rfl ?_
  refine g_callVvp (q := 25) (As := [.int 0]) C gyX4_keep gvX4_keep t_502 (c_X4_keep_w (k := 0) ((HS1.2.2.2.kept ((fr4) (o + 5) (by omega) (by omega)) ((fr4) (o + 6) (by omega) (by omega))).kept (List.getElem?_set_ne (by omega)) (List.getElem?_set_ne (by omega))) (by decide)) dX5_breakOff_22 rfl (gRw.obj ((HS1.2.2.2.kept ((fr4) (o + 5) (by omega) (by omega)) ((fr4) (o + 6) (by omega) (by omega))).kept (List.getElem?_set_ne (by omega)) (List.getElem?_set_ne (by omega)))) rfl rfl rfl (Nat.le_of_ble_eq_true rfl) (Nat.le_of_ble_eq_true rfl) (Nat.le_of_ble_eq_true rfl) (Nat.le_of_ble_eq_true rfl) (Nat.le_of_ble_eq_true rfl) rfl (fun h5 z5 => ?_)
  obtain ⟨HR5, fr5⟩ := z5
  rw [List.take_zero] at HR5
  exact E.2.1 _ _ _ _ _ dX5_breakOff_25 rfl (Nat.le_of_ble_eq_true rfl) (Nat.le_of_ble_eq_true rfl) ⟨rfl, ⟨(((fr5) (o) (by omega) (by omega)).trans (gset_self (((fr4) (o) (by omega) (by omega)).trans HS1.1))), ((HR4.kept (List.getElem?_set_ne (by omega)) (List.getElem?_set_ne (by omega))).kept ((fr5) (o + 1) (by omega) (by omega)) ((fr5) (o + 2) (by omega) (by omega))), (((HS1.2.2.1.kept ((fr4) (o + 3) (by omega) (by omega)) ((fr4) (o + 4) (by omega) (by omega))).kept (List.getElem?_set_ne (by omega)) (List.getElem?_set_ne (by omega))).kept ((fr5) (o + 3) (by omega) (by omega)) ((fr5) (o + 4) (by omega) (by omega))), HR5⟩, (gFS.trans (gFS.trans (gFS.trans (gFS.trans gFS.rf fc1) (gFS.of fr4 (by omega) (by omega) (by omega) (by omega))) gFS.set) (gFS.of fr5 (by omega) (by omega) (by omega) (by omega)))⟩
theorem dX5_takeEmpty_0 : decode cX5_takeEmpty 0 = .ok (.aload_n 0, 1) := by decide +kernel
theorem dX5_takeEmpty_1 : decode cX5_takeEmpty 1 = .ok (.getfield 42, 3) := by decide +kernel
theorem dX5_takeEmpty_4 : decode cX5_takeEmpty 4 = .ok (.iconst 0, 1) := by decide +kernel
theorem dX5_takeEmpty_5 : decode cX5_takeEmpty 5 = .ok (.invokevirtual 67, 3) := by decide +kernel
theorem dX5_takeEmpty_8 : decode cX5_takeEmpty 8 = .ok (.aload_n 0, 1) := by decide +kernel
theorem dX5_takeEmpty_9 : decode cX5_takeEmpty 9 = .ok (.dup, 1) := by decide +kernel
theorem dX5_takeEmpty_10 : decode cX5_takeEmpty 10 = .ok (.getfield 30, 3) := by decide +kernel
theorem dX5_takeEmpty_13 : decode cX5_takeEmpty 13 = .ok (.iconst 1, 1) := by decide +kernel
theorem dX5_takeEmpty_14 : decode cX5_takeEmpty 14 = .ok (.iadd, 1) := by decide +kernel
theorem dX5_takeEmpty_15 : decode cX5_takeEmpty 15 = .ok (.putfield 30, 3) := by decide +kernel
theorem dX5_takeEmpty_18 : decode cX5_takeEmpty 18 = .ok (.return_, 1) := by decide +kernel
set_option maxRecDepth 100000 in
set_option maxHeartbeats 4000000 in
theorem c_X5_takeEmpty_s {hp : List gA} {o : Nat} {num : Int32} {s : gSd} (H : gSide hp o num s) : gM yX5_takeEmpty cX5_takeEmpty 1 (none) 2 42 [.ref o] (hp) (0) (0) (fun v h => v = none ∧ (gSide h o num s.emptyCame ∧ gFS hp h o)) := by
  refine gM_of (ls0 := [some (.ref o)]) (by decide +kernel) (Nat.le_of_ble_eq_true rfl) rfl fun X C E => ?_
  refine g_aload_n (q := 1) C dX5_takeEmpty_0 rfl rfl ?_
  refine g_getfield (q := 4) C fX5_42 dX5_takeEmpty_1 rfl H.1 rfl ?_
  refine g_iconst (v := 0) (q := 5) C dX5_takeEmpty_4 (by decide) rfl ?_
  refine g_callVvp (q := 8) (As := [.int 0]) C gyX4_keep gvX4_keep t_502 (c_X4_keep_w (k := 0) H.2.2.1 (by decide)) dX5_takeEmpty_5 rfl (gRw.obj H.2.2.1) rfl rfl rfl (Nat.le_of_ble_eq_true rfl) (Nat.le_of_ble_eq_true rfl) (Nat.le_of_ble_eq_true rfl) (Nat.le_of_ble_eq_true rfl) (Nat.le_of_ble_eq_true rfl) rfl (fun h6 z6 => ?_)
  obtain ⟨HR6, fr6⟩ := z6
  rw [List.take_zero] at HR6
  refine g_aload_n (q := 9) C dX5_takeEmpty_8 rfl rfl ?_
  refine g_dup (q := 10) C dX5_takeEmpty_9 rfl rfl ?_
  refine g_getfield (q := 13) C fX5_30 dX5_takeEmpty_10 rfl (((fr6) (o) (by omega) (by omega)).trans H.1) rfl ?_
  refine g_iconst (v := 1) (q := 14) C dX5_takeEmpty_13 (by decide) rfl ?_
  refine g_iadd (q := 15) C dX5_takeEmpty_14 rfl ?_
  refine g_putfield (q := 18) C fX5_30 dX5_takeEmpty_15 rfl (((fr6) (o) (by omega) (by omega)).trans H.1) (Nat.le_of_ble_eq_true rfl) (Or.inl rfl) rfl rfl (by intro z h; cases h) ?_
  exact E.2.1 _ _ _ _ _ dX5_takeEmpty_18 rfl (Nat.le_of_ble_eq_true rfl) (Nat.le_of_ble_eq_true rfl) ⟨rfl, ⟨(gset_self (((fr6) (o) (by omega) (by omega)).trans H.1)), ((H.2.1.kept ((fr6) (o + 1) (by omega) (by omega)) ((fr6) (o + 2) (by omega) (by omega))).kept (List.getElem?_set_ne (by omega)) (List.getElem?_set_ne (by omega))), (HR6.kept (List.getElem?_set_ne (by omega)) (List.getElem?_set_ne (by omega))), ((H.2.2.2.kept ((fr6) (o + 5) (by omega) (by omega)) ((fr6) (o + 6) (by omega) (by omega))).kept (List.getElem?_set_ne (by omega)) (List.getElem?_set_ne (by omega)))⟩, (gFS.trans (gFS.trans gFS.rf (gFS.of fr6 (by omega) (by omega) (by omega) (by omega))) gFS.set)⟩
theorem dX5_takeWhole_0 : decode cX5_takeWhole 0 = .ok (.aload_n 0, 1) := by decide +kernel
theorem dX5_takeWhole_1 : decode cX5_takeWhole 1 = .ok (.getfield 42, 3) := by decide +kernel
theorem dX5_takeWhole_4 : decode cX5_takeWhole 4 = .ok (.aload_n 0, 1) := by decide +kernel
theorem dX5_takeWhole_5 : decode cX5_takeWhole 5 = .ok (.getfield 45, 3) := by decide +kernel
theorem dX5_takeWhole_8 : decode cX5_takeWhole 8 = .ok (.invokevirtual 71, 3) := by decide +kernel
theorem dX5_takeWhole_11 : decode cX5_takeWhole 11 = .ok (.aload_n 0, 1) := by decide +kernel
theorem dX5_takeWhole_12 : decode cX5_takeWhole 12 = .ok (.getfield 45, 3) := by decide +kernel
theorem dX5_takeWhole_15 : decode cX5_takeWhole 15 = .ok (.iconst 0, 1) := by decide +kernel
theorem dX5_takeWhole_16 : decode cX5_takeWhole 16 = .ok (.invokevirtual 67, 3) := by decide +kernel
theorem dX5_takeWhole_19 : decode cX5_takeWhole 19 = .ok (.aload_n 0, 1) := by decide +kernel
theorem dX5_takeWhole_20 : decode cX5_takeWhole 20 = .ok (.dup, 1) := by decide +kernel
theorem dX5_takeWhole_21 : decode cX5_takeWhole 21 = .ok (.getfield 30, 3) := by decide +kernel
theorem dX5_takeWhole_24 : decode cX5_takeWhole 24 = .ok (.iconst 1, 1) := by decide +kernel
theorem dX5_takeWhole_25 : decode cX5_takeWhole 25 = .ok (.iadd, 1) := by decide +kernel
theorem dX5_takeWhole_26 : decode cX5_takeWhole 26 = .ok (.putfield 30, 3) := by decide +kernel
theorem dX5_takeWhole_29 : decode cX5_takeWhole 29 = .ok (.return_, 1) := by decide +kernel
set_option maxRecDepth 100000 in
set_option maxHeartbeats 4000000 in
theorem c_X5_takeWhole_s {hp : List gA} {o : Nat} {num : Int32} {s : gSd} (H : gSide hp o num s) : gM yX5_takeWhole cX5_takeWhole 1 (none) 2 82 [.ref o] (hp) (0) (0) (fun v h => v = none ∧ (gSide h o num s.whole ∧ gFS hp h o)) := by
  refine gM_of (ls0 := [some (.ref o)]) (by decide +kernel) (Nat.le_of_ble_eq_true rfl) rfl fun X C E => ?_
  refine g_aload_n (q := 1) C dX5_takeWhole_0 rfl rfl ?_
  refine g_getfield (q := 4) C fX5_42 dX5_takeWhole_1 rfl H.1 rfl ?_
  refine g_aload_n (q := 5) C dX5_takeWhole_4 rfl rfl ?_
  refine g_getfield (q := 8) C fX5_45 dX5_takeWhole_5 rfl H.1 rfl ?_
  refine g_callVvp (q := 11) (As := [.ref (o + 5)]) C gyX4_copy gvX4_copy t_694 (c_X4_copy_w H.2.2.1 H.2.2.2 (gRw.le H.2.2.2).1) dX5_takeWhole_8 rfl (gRw.obj H.2.2.1) rfl rfl rfl (Nat.le_of_ble_eq_true rfl) (Nat.le_of_ble_eq_true rfl) (Nat.le_of_ble_eq_true rfl) (Nat.le_of_ble_eq_true rfl) (Nat.le_of_ble_eq_true rfl) rfl (fun h7 z7 => ?_)
  obtain ⟨HR7, fr7⟩ := z7
  refine g_aload_n (q := 12) C dX5_takeWhole_11 rfl rfl ?_
  refine g_getfield (q := 15) C fX5_45 dX5_takeWhole_12 rfl (((fr7) (o) (by omega) (by omega)).trans H.1) rfl ?_
  refine g_iconst (v := 0) (q := 16) C dX5_takeWhole_15 (by decide) rfl ?_
  refine g_callVvp (q := 19) (As := [.int 0]) C gyX4_keep gvX4_keep t_502 (c_X4_keep_w (k := 0) (H.2.2.2.kept ((fr7) (o + 5) (by omega) (by omega)) ((fr7) (o + 6) (by omega) (by omega))) (by decide)) dX5_takeWhole_16 rfl (gRw.obj (H.2.2.2.kept ((fr7) (o + 5) (by omega) (by omega)) ((fr7) (o + 6) (by omega) (by omega)))) rfl rfl rfl (Nat.le_of_ble_eq_true rfl) (Nat.le_of_ble_eq_true rfl) (Nat.le_of_ble_eq_true rfl) (Nat.le_of_ble_eq_true rfl) (Nat.le_of_ble_eq_true rfl) rfl (fun h8 z8 => ?_)
  obtain ⟨HR8, fr8⟩ := z8
  rw [List.take_zero] at HR8
  refine g_aload_n (q := 20) C dX5_takeWhole_19 rfl rfl ?_
  refine g_dup (q := 21) C dX5_takeWhole_20 rfl rfl ?_
  refine g_getfield (q := 24) C fX5_30 dX5_takeWhole_21 rfl (((fr8) (o) (by omega) (by omega)).trans (((fr7) (o) (by omega) (by omega)).trans H.1)) rfl ?_
  refine g_iconst (v := 1) (q := 25) C dX5_takeWhole_24 (by decide) rfl ?_
  refine g_iadd (q := 26) C dX5_takeWhole_25 rfl ?_
  refine g_putfield (q := 29) C fX5_30 dX5_takeWhole_26 rfl (((fr8) (o) (by omega) (by omega)).trans (((fr7) (o) (by omega) (by omega)).trans H.1)) (Nat.le_of_ble_eq_true rfl) (Or.inl rfl) rfl rfl (by intro z h; cases h) ?_
  exact E.2.1 _ _ _ _ _ dX5_takeWhole_29 rfl (Nat.le_of_ble_eq_true rfl) (Nat.le_of_ble_eq_true rfl) ⟨rfl, ⟨(gset_self (((fr8) (o) (by omega) (by omega)).trans (((fr7) (o) (by omega) (by omega)).trans H.1))), (((H.2.1.kept ((fr7) (o + 1) (by omega) (by omega)) ((fr7) (o + 2) (by omega) (by omega))).kept ((fr8) (o + 1) (by omega) (by omega)) ((fr8) (o + 2) (by omega) (by omega))).kept (List.getElem?_set_ne (by omega)) (List.getElem?_set_ne (by omega))), ((HR7.kept ((fr8) (o + 3) (by omega) (by omega)) ((fr8) (o + 4) (by omega) (by omega))).kept (List.getElem?_set_ne (by omega)) (List.getElem?_set_ne (by omega))), (HR8.kept (List.getElem?_set_ne (by omega)) (List.getElem?_set_ne (by omega)))⟩, (gFS.trans (gFS.trans (gFS.trans gFS.rf (gFS.of fr7 (by omega) (by omega) (by omega) (by omega))) (gFS.of fr8 (by omega) (by omega) (by omega) (by omega))) gFS.set)⟩
def gSd.left (s : gSd) : Int32 := gmax 0 (nI s.out.length - s.th)
def gSd.cut (s : gSd) (x : Int32) : gSd := ((s.set 7 (gmin s.left x)).set 8 (if s.left ≤ gmin s.left x then 0 else 1))
theorem dX5_cutNext_0 : decode cX5_cutNext 0 = .ok (.iconst 0, 1) := by decide +kernel
theorem dX5_cutNext_1 : decode cX5_cutNext 1 = .ok (.aload_n 0, 1) := by decide +kernel
theorem dX5_cutNext_2 : decode cX5_cutNext 2 = .ok (.getfield 38, 3) := by decide +kernel
theorem dX5_cutNext_5 : decode cX5_cutNext 5 = .ok (.invokevirtual 78, 3) := by decide +kernel
theorem dX5_cutNext_8 : decode cX5_cutNext 8 = .ok (.aload_n 0, 1) := by decide +kernel
theorem dX5_cutNext_9 : decode cX5_cutNext 9 = .ok (.getfield 21, 3) := by decide +kernel
theorem dX5_cutNext_12 : decode cX5_cutNext 12 = .ok (.isub, 1) := by decide +kernel
theorem dX5_cutNext_13 : decode cX5_cutNext 13 = .ok (.invokestatic 82, 3) := by decide +kernel
theorem dX5_cutNext_16 : decode cX5_cutNext 16 = .ok (.istore_n 2, 1) := by decide +kernel
theorem dX5_cutNext_17 : decode cX5_cutNext 17 = .ok (.aload_n 0, 1) := by decide +kernel
theorem dX5_cutNext_18 : decode cX5_cutNext 18 = .ok (.iload_n 2, 1) := by decide +kernel
theorem dX5_cutNext_19 : decode cX5_cutNext 19 = .ok (.iload_n 1, 1) := by decide +kernel
theorem dX5_cutNext_20 : decode cX5_cutNext 20 = .ok (.invokestatic 88, 3) := by decide +kernel
theorem dX5_cutNext_23 : decode cX5_cutNext 23 = .ok (.putfield 48, 3) := by decide +kernel
theorem dX5_cutNext_26 : decode cX5_cutNext 26 = .ok (.aload_n 0, 1) := by decide +kernel
theorem dX5_cutNext_27 : decode cX5_cutNext 27 = .ok (.iload_n 2, 1) := by decide +kernel
theorem dX5_cutNext_28 : decode cX5_cutNext 28 = .ok (.aload_n 0, 1) := by decide +kernel
theorem dX5_cutNext_29 : decode cX5_cutNext 29 = .ok (.getfield 48, 3) := by decide +kernel
theorem dX5_cutNext_32 : decode cX5_cutNext 32 = .ok (.if_icmp .le 7, 3) := by decide +kernel
theorem dX5_cutNext_35 : decode cX5_cutNext 35 = .ok (.iconst 1, 1) := by decide +kernel
theorem dX5_cutNext_36 : decode cX5_cutNext 36 = .ok (.goto 4, 3) := by decide +kernel
theorem dX5_cutNext_39 : decode cX5_cutNext 39 = .ok (.iconst 0, 1) := by decide +kernel
theorem dX5_cutNext_40 : decode cX5_cutNext 40 = .ok (.putfield 51, 3) := by decide +kernel
theorem dX5_cutNext_43 : decode cX5_cutNext 43 = .ok (.aload_n 0, 1) := by decide +kernel
theorem dX5_cutNext_44 : decode cX5_cutNext 44 = .ok (.invokevirtual 91, 3) := by decide +kernel
theorem dX5_cutNext_47 : decode cX5_cutNext 47 = .ok (.ireturn, 1) := by decide +kernel
set_option maxRecDepth 100000 in
set_option maxHeartbeats 4000000 in
theorem c_X5_cutNext_s {hp : List gA} {o : Nat} {num : Int32} {s : gSd} {x : Int32} (H : gSide hp o num s) : gM yX5_cutNext cX5_cutNext 3 ((some .int)) 1 21 [.ref o, .int x] (hp) (0) (0) (fun v h => v = some (.int (s.cut x).pk) ∧ (gSide h o num (s.cut x) ∧ gFS hp h o)) := by
  refine gM_of (ls0 := [some (.ref o), some (.int x), none]) (by decide +kernel) (Nat.le_of_ble_eq_true rfl) rfl fun X C E => ?_
  refine g_iconst (v := 0) (q := 1) C dX5_cutNext_0 (by decide) rfl ?_
  refine g_aload_n (q := 2) C dX5_cutNext_1 rfl rfl ?_
  refine g_getfield (q := 5) C fX5_38 dX5_cutNext_2 rfl H.1 rfl ?_
  refine g_callVi (q := 8) (As := []) C gyX4_size gvX4_size t_687 (c_X4_size (gRw.obj H.2.1)) dX5_cutNext_5 rfl (gRw.obj H.2.1) rfl rfl rfl (Nat.le_of_ble_eq_true rfl) (Nat.le_of_ble_eq_true rfl) (Nat.le_of_ble_eq_true rfl) (Nat.le_of_ble_eq_true rfl) (Nat.le_of_ble_eq_true rfl) rfl ?_
  refine g_aload_n (q := 9) C dX5_cutNext_8 rfl rfl ?_
  refine g_getfield (q := 12) C fX5_21 dX5_cutNext_9 rfl H.1 rfl ?_
  refine g_isub (q := 13) C dX5_cutNext_12 rfl ?_
  refine g_callSi (q := 16) (As := [.int 0, .int _]) C gyJ9_max_7cf53 t_72 t_726 (c_J9_max_7cf53) dX5_cutNext_13 rfl rfl rfl (Nat.le_of_ble_eq_true rfl) (Nat.le_of_ble_eq_true rfl) (Nat.le_of_ble_eq_true rfl) (Nat.le_of_ble_eq_true rfl) (Nat.le_of_ble_eq_true rfl) rfl ?_
  refine g_istore_n (q := 17) C dX5_cutNext_16 (Nat.le_of_ble_eq_true rfl) (by simp only [gset]; rfl) rfl ?_
  refine g_aload_n (q := 18) C dX5_cutNext_17 rfl rfl ?_
  refine g_iload_n (q := 19) C dX5_cutNext_18 rfl rfl ?_
  refine g_iload_n (q := 20) C dX5_cutNext_19 rfl rfl ?_
  refine g_callSi (q := 23) (As := [.int s.left, .int x]) C gyJ9_min_7cf53 t_411 t_727 (c_J9_min_7cf53) dX5_cutNext_20 rfl rfl rfl (Nat.le_of_ble_eq_true rfl) (Nat.le_of_ble_eq_true rfl) (Nat.le_of_ble_eq_true rfl) (Nat.le_of_ble_eq_true rfl) (Nat.le_of_ble_eq_true rfl) rfl ?_
  refine g_putfield (q := 26) C fX5_48 dX5_cutNext_23 rfl H.1 (Nat.le_of_ble_eq_true rfl) (Or.inl rfl) rfl rfl (by intro z h; cases h) ?_
  refine g_aload_n (q := 27) C dX5_cutNext_26 rfl rfl ?_
  refine g_iload_n (q := 28) C dX5_cutNext_27 rfl rfl ?_
  refine g_aload_n (q := 29) C dX5_cutNext_28 rfl rfl ?_
  refine g_getfield (q := 32) C fX5_48 dX5_cutNext_29 rfl (gset_self H.1) rfl ?_
  refine g_icmp_le (t := 39) (q := 35) C dX5_cutNext_32 (by decide) rfl (fun c_32 => ?_) (fun c_32 => ?_)
  · -- to 39
    refine g_iconst (v := 0) (q := 40) C dX5_cutNext_39 (by decide) rfl ?_
    refine g_putfield (q := 43) C fX5_51 dX5_cutNext_40 rfl (gset_self H.1) (Nat.le_of_ble_eq_true rfl) (Or.inl rfl) rfl rfl (by intro z h; cases h) ?_
    refine g_aload_n (q := 44) C dX5_cutNext_43 rfl rfl ?_
    refine g_callVi (q := 47) (As := []) C gyX5_pendingKind gvX5_pendingKind t_728 (c_X5_pendingKind_s (s := ((s.set 7 (gmin s.left x)).set 8 0)) (And.left (H.put (gset_self (gset_self H.1)) (fun k hk => by repeat (first | rfl | rw [List.getElem?_set_ne (Ne.symm hk)])) rfl rfl rfl))) dX5_cutNext_44 rfl (gset_self (gset_self H.1)) rfl rfl rfl (Nat.le_of_ble_eq_true rfl) (Nat.le_of_ble_eq_true rfl) (Nat.le_of_ble_eq_true rfl) (Nat.le_of_ble_eq_true rfl) (Nat.le_of_ble_eq_true rfl) rfl ?_
    exact E.1 _ _ _ _ _ _ _ dX5_cutNext_47 rfl rfl (Nat.le_of_ble_eq_true rfl) (Nat.le_of_ble_eq_true rfl) (by have c9 : s.left ≤ gmin s.left x := c_32; have e : s.cut x = ((s.set 7 (gmin s.left x)).set 8 0) := (by rw [gSd.cut, if_pos c9]); exact ⟨by rw [e], by rw [e]; exact H.put (gset_self (gset_self H.1)) (fun k hk => by repeat (first | rfl | rw [List.getElem?_set_ne (Ne.symm hk)])) rfl rfl rfl⟩)
  · -- to 35
    refine g_iconst (v := 1) (q := 36) C dX5_cutNext_35 (by decide) rfl ?_
    refine g_goto (q := 40) C dX5_cutNext_36 (by decide) ?_
    refine g_putfield (q := 43) C fX5_51 dX5_cutNext_40 rfl (gset_self H.1) (Nat.le_of_ble_eq_true rfl) (Or.inl rfl) rfl rfl (by intro z h; cases h) ?_
    refine g_aload_n (q := 44) C dX5_cutNext_43 rfl rfl ?_
    refine g_callVi (q := 47) (As := []) C gyX5_pendingKind gvX5_pendingKind t_728 (c_X5_pendingKind_s (s := ((s.set 7 (gmin s.left x)).set 8 1)) (And.left (H.put (gset_self (gset_self H.1)) (fun k hk => by repeat (first | rfl | rw [List.getElem?_set_ne (Ne.symm hk)])) rfl rfl rfl))) dX5_cutNext_44 rfl (gset_self (gset_self H.1)) rfl rfl rfl (Nat.le_of_ble_eq_true rfl) (Nat.le_of_ble_eq_true rfl) (Nat.le_of_ble_eq_true rfl) (Nat.le_of_ble_eq_true rfl) (Nat.le_of_ble_eq_true rfl) rfl ?_
    exact E.1 _ _ _ _ _ _ _ dX5_cutNext_47 rfl rfl (Nat.le_of_ble_eq_true rfl) (Nat.le_of_ble_eq_true rfl) (by have c9 : ¬ s.left ≤ gmin s.left x := c_32; have e : s.cut x = ((s.set 7 (gmin s.left x)).set 8 1) := (by rw [gSd.cut, if_neg c9]); exact ⟨by rw [e], by rw [e]; exact H.put (gset_self (gset_self H.1)) (fun k hk => by repeat (first | rfl | rw [List.getElem?_set_ne (Ne.symm hk)])) rfl rfl rfl⟩)
def gInf (l : List Int32) (j : Nat) : List Int32 := (l.drop 3).take (j - 3)
def gSd.take (s : gSd) (l : List Int32) : gSd := ((s.row 2 ((s.inn ++ gInf l (l.length - 1)).take 60)).set 1 (1 - s.wa))
theorem gtk1 {A : List Int32} {x : Int32} (n : Nat) : ((A.take n) ++ [x]).take n = (A ++ [x]).take n := by
  rcases Nat.lt_or_ge A.length n with h | h
  · rw [List.take_of_length_le (Nat.le_of_lt h)]
  · rw [List.take_append_of_le_length (by rw [List.length_take]; omega), List.take_append_of_le_length h, List.take_take, Nat.min_self]
theorem gInf_s {i l : List Int32} {j : Nat} (h3 : 3 ≤ j) (hj : j < l.length) (hl : l.length < 2 ^ 31) : (((i ++ gInf l j).take 60) ++ [gat l (nI j)]).take 60 = (i ++ gInf l (j + 1)).take 60 := by
  have e : gInf l (j + 1) = gInf l j ++ [gat l (nI j)] := by
    unfold gInf gat
    rw [if_neg (nI_pos (by omega)), nI_clamp (by omega), show j + 1 - 3 = (j - 3) + 1 by omega, List.take_add_one, List.getElem?_drop, show 3 + (j - 3) = j by omega, List.getElem?_eq_getElem hj]
    simp [List.getD, List.getElem?_eq_getElem hj]
  rw [gtk1, e, List.append_assoc]
theorem dX5_takeInf_0 : decode cX5_takeInf 0 = .ok (.iconst 3, 1) := by decide +kernel
theorem dX5_takeInf_1 : decode cX5_takeInf 1 = .ok (.istore_n 2, 1) := by decide +kernel
theorem dX5_takeInf_2 : decode cX5_takeInf 2 = .ok (.iload_n 2, 1) := by decide +kernel
theorem dX5_takeInf_3 : decode cX5_takeInf 3 = .ok (.aload_n 1, 1) := by decide +kernel
theorem dX5_takeInf_4 : decode cX5_takeInf 4 = .ok (.invokevirtual 78, 3) := by decide +kernel
theorem dX5_takeInf_7 : decode cX5_takeInf 7 = .ok (.iconst 1, 1) := by decide +kernel
theorem dX5_takeInf_8 : decode cX5_takeInf 8 = .ok (.isub, 1) := by decide +kernel
theorem dX5_takeInf_9 : decode cX5_takeInf 9 = .ok (.if_icmp .ge 21, 3) := by decide +kernel
theorem dX5_takeInf_12 : decode cX5_takeInf 12 = .ok (.aload_n 0, 1) := by decide +kernel
theorem dX5_takeInf_13 : decode cX5_takeInf 13 = .ok (.getfield 45, 3) := by decide +kernel
theorem dX5_takeInf_16 : decode cX5_takeInf 16 = .ok (.aload_n 1, 1) := by decide +kernel
theorem dX5_takeInf_17 : decode cX5_takeInf 17 = .ok (.iload_n 2, 1) := by decide +kernel
theorem dX5_takeInf_18 : decode cX5_takeInf 18 = .ok (.invokevirtual 94, 3) := by decide +kernel
theorem dX5_takeInf_21 : decode cX5_takeInf 21 = .ok (.invokevirtual 98, 3) := by decide +kernel
theorem dX5_takeInf_24 : decode cX5_takeInf 24 = .ok (.iinc 2 1, 3) := by decide +kernel
theorem dX5_takeInf_27 : decode cX5_takeInf 27 = .ok (.goto (-25), 3) := by decide +kernel
theorem dX5_takeInf_30 : decode cX5_takeInf 30 = .ok (.aload_n 0, 1) := by decide +kernel
theorem dX5_takeInf_31 : decode cX5_takeInf 31 = .ok (.iconst 1, 1) := by decide +kernel
theorem dX5_takeInf_32 : decode cX5_takeInf 32 = .ok (.aload_n 0, 1) := by decide +kernel
theorem dX5_takeInf_33 : decode cX5_takeInf 33 = .ok (.getfield 15, 3) := by decide +kernel
theorem dX5_takeInf_36 : decode cX5_takeInf 36 = .ok (.isub, 1) := by decide +kernel
theorem dX5_takeInf_37 : decode cX5_takeInf 37 = .ok (.putfield 15, 3) := by decide +kernel
theorem dX5_takeInf_40 : decode cX5_takeInf 40 = .ok (.return_, 1) := by decide +kernel
set_option maxRecDepth 100000 in
set_option maxHeartbeats 4000000 in
theorem c_X5_takeInf_s {hp : List gA} {o : Nat} {num : Int32} {s : gSd} {rb ab nb : Nat} {l : List Int32} (H : gSide hp o num s) (HB : gRw hp rb ab nb l) (hb : rb < o ∨ o + 7 ≤ rb) (hab : ab < o ∨ o + 7 ≤ ab) (h4 : 4 ≤ l.length) : gM yX5_takeInf cX5_takeInf 3 (none) 3 103 [.ref o, .ref rb] (hp) (0) (0) (fun v h => v = none ∧ (gSide h o num (s.take l) ∧ gFS hp h o)) := by
  have hlt : l.length < 2 ^ 31 := by have := HB.le; omega
  refine gM_of (ls0 := [some (.ref o), some (.ref rb), none]) (by decide +kernel) (Nat.le_of_ble_eq_true rfl) rfl fun X C E => ?_
  have L : ∀ m j : Nat, j + m = l.length - 1 → 3 ≤ j → ∀ hp1 : List gA, gSide hp1 o num (s.row 2 ((s.inn ++ gInf l j).take 60)) → gFS hp hp1 o → gG X 2 [some (.ref o), some (.ref rb), some (.int (nI j))] [] hp1 0 0 := by
    intro m
    induction m with
    | zero =>
      intro j hj h3 hp1 HS fr
      obtain rfl : j = l.length - 1 := by omega
      have HB1 : gRw hp1 rb ab nb l := HB.kept (fr _ hb) (fr _ hab)
      have e1 : nI l.length - 1 = nI (l.length - 1) := pk_sub (b := 1) (by omega)
      refine g_iload_n (q := 3) C dX5_takeInf_2 rfl rfl ?_
      refine g_aload_n (q := 4) C dX5_takeInf_3 rfl rfl ?_
      refine g_callVi (q := 7) (As := []) C gyX4_size gvX4_size t_687 (c_X4_size (gRw.obj HB1)) dX5_takeInf_4 rfl (gRw.obj HB1) rfl rfl rfl (Nat.le_of_ble_eq_true rfl) (Nat.le_of_ble_eq_true rfl) (Nat.le_of_ble_eq_true rfl) (Nat.le_of_ble_eq_true rfl) (Nat.le_of_ble_eq_true rfl) rfl ?_
      refine g_iconst (v := 1) (q := 8) C dX5_takeInf_7 (by decide) rfl ?_
      refine g_isub (q := 9) C dX5_takeInf_8 rfl ?_
      rw [e1]
      refine g_icmp_ge_t (t := 30) C dX5_takeInf_9 (by decide) (nI_le (Nat.le_refl _) (by omega)) ?_
      refine g_aload_n (q := 31) C dX5_takeInf_30 rfl rfl ?_
      refine g_iconst (v := 1) (q := 32) C dX5_takeInf_31 (by decide) rfl ?_
      refine g_aload_n (q := 33) C dX5_takeInf_32 rfl rfl ?_
      refine g_getfield (q := 36) C fX5_15 dX5_takeInf_33 rfl HS.1 rfl ?_
      refine g_isub (q := 37) C dX5_takeInf_36 rfl ?_
      refine g_putfield (q := 40) C fX5_15 dX5_takeInf_37 rfl HS.1 (Nat.le_of_ble_eq_true rfl) (Or.inl rfl) rfl rfl (by intro z h; cases h) ?_
      exact E.2.1 _ _ _ _ _ dX5_takeInf_40 rfl (Nat.le_of_ble_eq_true rfl) (Nat.le_of_ble_eq_true rfl) ⟨rfl, And.left (HS.put (gset_self HS.1) (fun k hk => by repeat (first | rfl | rw [List.getElem?_set_ne (Ne.symm hk)])) rfl rfl rfl), gFS.trans fr gFS.set⟩
    | succ m ih =>
      intro j hj h3 hp1 HS fr
      have HB1 : gRw hp1 rb ab nb l := HB.kept (fr _ hb) (fr _ hab)
      have e1 : nI l.length - 1 = nI (l.length - 1) := pk_sub (b := 1) (by omega)
      refine g_iload_n (q := 3) C dX5_takeInf_2 rfl rfl ?_
      refine g_aload_n (q := 4) C dX5_takeInf_3 rfl rfl ?_
      refine g_callVi (q := 7) (As := []) C gyX4_size gvX4_size t_687 (c_X4_size (gRw.obj HB1)) dX5_takeInf_4 rfl (gRw.obj HB1) rfl rfl rfl (Nat.le_of_ble_eq_true rfl) (Nat.le_of_ble_eq_true rfl) (Nat.le_of_ble_eq_true rfl) (Nat.le_of_ble_eq_true rfl) (Nat.le_of_ble_eq_true rfl) rfl ?_
      refine g_iconst (v := 1) (q := 8) C dX5_takeInf_7 (by decide) rfl ?_
      refine g_isub (q := 9) C dX5_takeInf_8 rfl ?_
      rw [e1]
      refine g_icmp_ge_f (t := 30) (q := 12) C dX5_takeInf_9 (by decide) rfl (fun h => nI_ge (show j < l.length - 1 by omega) (by omega) h) ?_
      refine g_aload_n (q := 13) C dX5_takeInf_12 rfl rfl ?_
      refine g_getfield (q := 16) C fX5_45 dX5_takeInf_13 rfl HS.1 rfl ?_
      refine g_aload_n (q := 17) C dX5_takeInf_16 rfl rfl ?_
      refine g_iload_n (q := 18) C dX5_takeInf_17 rfl rfl ?_
      refine g_callVi (q := 21) (As := [.int ((nI j))]) C gyX4_at gvX4_at t_688 (c_X4_at_w HB1) dX5_takeInf_18 rfl (gRw.obj HB1) rfl rfl rfl (Nat.le_of_ble_eq_true rfl) (Nat.le_of_ble_eq_true rfl) (Nat.le_of_ble_eq_true rfl) (Nat.le_of_ble_eq_true rfl) (Nat.le_of_ble_eq_true rfl) rfl ?_
      refine g_callVvp (q := 24) (As := [.int _]) C gyX4_add gvX4_add t_689 (c_X4_add_a HS.2.2.2) dX5_takeInf_21 rfl (gRw.obj HS.2.2.2) rfl rfl rfl (Nat.le_of_ble_eq_true rfl) (Nat.le_of_ble_eq_true rfl) (Nat.le_of_ble_eq_true rfl) (Nat.le_of_ble_eq_true rfl) (Nat.le_of_ble_eq_true rfl) rfl (fun h1 z1 => ?_)
      obtain ⟨HR1, fr1⟩ := z1
      have HR1 : gRw h1 (o + 5) (o + 6) 60 (((s.inn ++ gInf l j).take 60 ++ [gat l (nI j)]).take 60) := HR1
      rw [gInf_s h3 (by omega) hlt] at HR1
      refine g_iinc (v := (nI (j + 1))) (q := 27) C dX5_takeInf_24 rfl (nI_1 j) (by simp only [gset]; rfl) rfl ?_
      refine g_goto (q := 2) C dX5_takeInf_27 (by decide) ?_
      exact ih (j + 1) (by omega) (by omega) _ ⟨(((fr1) (o) (by omega) (by omega)).trans HS.1), (HS.2.1.kept ((fr1) (o + 1) (by omega) (by omega)) ((fr1) (o + 2) (by omega) (by omega))), (HS.2.2.1.kept ((fr1) (o + 3) (by omega) (by omega)) ((fr1) (o + 4) (by omega) (by omega))), HR1⟩ (gFS.trans fr (gFS.of fr1 (by omega) (by omega) (by omega) (by omega)))
  have e0 : (s.inn ++ gInf l 3).take 60 = s.inn := by show (s.inn ++ (l.drop 3).take 0).take 60 = s.inn; rw [List.take_zero, List.append_nil, List.take_of_length_le H.2.2.2.le.1]
  refine g_iconst (v := 3) (q := 1) C dX5_takeInf_0 (by decide) rfl ?_
  refine g_istore_n (q := 2) C dX5_takeInf_1 (Nat.le_of_ble_eq_true rfl) (by simp only [gset]; rfl) rfl ?_
  exact L (l.length - 1 - 3) 3 (by omega) (Nat.le_refl _) hp (by rw [e0]; exact H) gFS.rf
  
def gSd.tell (s : gSd) (w : Int32) : Int32 := if w = 0 then s.nx else if w = 1 then s.wa else if w = 2 then s.ro else if w = 3 then nI s.out.length else if w = 4 then s.th else if w = 5 then nI s.inn.length else if w = 6 then s.la else if w = 7 then s.ask else if w = 8 then (if s.pe = -1 then -1 else s.nx) else if w = 9 then s.se else if w = 10 then s.me else -2
theorem dX5_tell_0 : decode cX5_tell 0 = .ok (.iload_n 1, 1) := by decide +kernel
theorem dX5_tell_1 : decode cX5_tell 1 = .ok (.tableswitch 132 0 10 #[59, 64, 69, 74, 82, 87, 95, 100, 105, 122, 127], 59) := by decide +kernel
theorem dX5_tell_60 : decode cX5_tell 60 = .ok (.aload_n 0, 1) := by decide +kernel
theorem dX5_tell_61 : decode cX5_tell 61 = .ok (.getfield 9, 3) := by decide +kernel
theorem dX5_tell_64 : decode cX5_tell 64 = .ok (.ireturn, 1) := by decide +kernel
theorem dX5_tell_65 : decode cX5_tell 65 = .ok (.aload_n 0, 1) := by decide +kernel
theorem dX5_tell_66 : decode cX5_tell 66 = .ok (.getfield 15, 3) := by decide +kernel
theorem dX5_tell_69 : decode cX5_tell 69 = .ok (.ireturn, 1) := by decide +kernel
theorem dX5_tell_70 : decode cX5_tell 70 = .ok (.aload_n 0, 1) := by decide +kernel
theorem dX5_tell_71 : decode cX5_tell 71 = .ok (.getfield 18, 3) := by decide +kernel
theorem dX5_tell_74 : decode cX5_tell 74 = .ok (.ireturn, 1) := by decide +kernel
theorem dX5_tell_75 : decode cX5_tell 75 = .ok (.aload_n 0, 1) := by decide +kernel
theorem dX5_tell_76 : decode cX5_tell 76 = .ok (.getfield 38, 3) := by decide +kernel
theorem dX5_tell_79 : decode cX5_tell 79 = .ok (.invokevirtual 78, 3) := by decide +kernel
theorem dX5_tell_82 : decode cX5_tell 82 = .ok (.ireturn, 1) := by decide +kernel
theorem dX5_tell_83 : decode cX5_tell 83 = .ok (.aload_n 0, 1) := by decide +kernel
theorem dX5_tell_84 : decode cX5_tell 84 = .ok (.getfield 21, 3) := by decide +kernel
theorem dX5_tell_87 : decode cX5_tell 87 = .ok (.ireturn, 1) := by decide +kernel
theorem dX5_tell_88 : decode cX5_tell 88 = .ok (.aload_n 0, 1) := by decide +kernel
theorem dX5_tell_89 : decode cX5_tell 89 = .ok (.getfield 45, 3) := by decide +kernel
theorem dX5_tell_92 : decode cX5_tell 92 = .ok (.invokevirtual 78, 3) := by decide +kernel
theorem dX5_tell_95 : decode cX5_tell 95 = .ok (.ireturn, 1) := by decide +kernel
theorem dX5_tell_96 : decode cX5_tell 96 = .ok (.aload_n 0, 1) := by decide +kernel
theorem dX5_tell_97 : decode cX5_tell 97 = .ok (.getfield 55, 3) := by decide +kernel
theorem dX5_tell_100 : decode cX5_tell 100 = .ok (.ireturn, 1) := by decide +kernel
theorem dX5_tell_101 : decode cX5_tell 101 = .ok (.aload_n 0, 1) := by decide +kernel
theorem dX5_tell_102 : decode cX5_tell 102 = .ok (.getfield 24, 3) := by decide +kernel
theorem dX5_tell_105 : decode cX5_tell 105 = .ok (.ireturn, 1) := by decide +kernel
theorem dX5_tell_106 : decode cX5_tell 106 = .ok (.aload_n 0, 1) := by decide +kernel
theorem dX5_tell_107 : decode cX5_tell 107 = .ok (.getfield 48, 3) := by decide +kernel
theorem dX5_tell_110 : decode cX5_tell 110 = .ok (.iconst (-1), 1) := by decide +kernel
theorem dX5_tell_111 : decode cX5_tell 111 = .ok (.if_icmp .ne 7, 3) := by decide +kernel
theorem dX5_tell_114 : decode cX5_tell 114 = .ok (.iconst (-1), 1) := by decide +kernel
theorem dX5_tell_115 : decode cX5_tell 115 = .ok (.goto 7, 3) := by decide +kernel
theorem dX5_tell_118 : decode cX5_tell 118 = .ok (.aload_n 0, 1) := by decide +kernel
theorem dX5_tell_119 : decode cX5_tell 119 = .ok (.getfield 9, 3) := by decide +kernel
theorem dX5_tell_122 : decode cX5_tell 122 = .ok (.ireturn, 1) := by decide +kernel
theorem dX5_tell_123 : decode cX5_tell 123 = .ok (.aload_n 0, 1) := by decide +kernel
theorem dX5_tell_124 : decode cX5_tell 124 = .ok (.getfield 58, 3) := by decide +kernel
theorem dX5_tell_127 : decode cX5_tell 127 = .ok (.ireturn, 1) := by decide +kernel
theorem dX5_tell_128 : decode cX5_tell 128 = .ok (.aload_n 0, 1) := by decide +kernel
theorem dX5_tell_129 : decode cX5_tell 129 = .ok (.getfield 30, 3) := by decide +kernel
theorem dX5_tell_132 : decode cX5_tell 132 = .ok (.ireturn, 1) := by decide +kernel
theorem dX5_tell_133 : decode cX5_tell 133 = .ok (.bipush (-2), 2) := by decide +kernel
theorem dX5_tell_135 : decode cX5_tell 135 = .ok (.ireturn, 1) := by decide +kernel
set_option maxRecDepth 100000 in
set_option maxHeartbeats 4000000 in
theorem c_X5_tell_s {hp : List gA} {o : Nat} {num : Int32} {s : gSd} {w : Int32} (H : gSide hp o num s) : gM yX5_tell cX5_tell 2 ((some .int)) 1 20 [.ref o, .int w] (hp) (0) (0) (fun v h => v = some (.int (s.tell w)) ∧ h = hp) := by
  refine gM_of (ls0 := [some (.ref o), some (.int w)]) (by decide +kernel) (Nat.le_of_ble_eq_true rfl) rfl fun X C E => ?_
  refine g_iload_n (q := 1) C dX5_tell_0 rfl rfl ?_
  by_cases c_1_0 : w = 0
  · subst c_1_0
    refine g_tableIn (off := 59) (t := 60) C dX5_tell_1 (by decide) (by decide) (by decide) (by decide) ?_
    refine g_aload_n (q := 61) C dX5_tell_60 rfl rfl ?_
    refine g_getfield (q := 64) C fX5_9 dX5_tell_61 rfl H.1 rfl ?_
    exact E.1 _ _ _ _ _ _ _ dX5_tell_64 rfl rfl (Nat.le_of_ble_eq_true rfl) (Nat.le_of_ble_eq_true rfl) ⟨by simp [gSd.tell, *], rfl⟩
  by_cases c_1_1 : w = 1
  · subst c_1_1
    refine g_tableIn (off := 64) (t := 65) C dX5_tell_1 (by decide) (by decide) (by decide) (by decide) ?_
    refine g_aload_n (q := 66) C dX5_tell_65 rfl rfl ?_
    refine g_getfield (q := 69) C fX5_15 dX5_tell_66 rfl H.1 rfl ?_
    exact E.1 _ _ _ _ _ _ _ dX5_tell_69 rfl rfl (Nat.le_of_ble_eq_true rfl) (Nat.le_of_ble_eq_true rfl) ⟨by simp [gSd.tell, *], rfl⟩
  by_cases c_1_2 : w = 2
  · subst c_1_2
    refine g_tableIn (off := 69) (t := 70) C dX5_tell_1 (by decide) (by decide) (by decide) (by decide) ?_
    refine g_aload_n (q := 71) C dX5_tell_70 rfl rfl ?_
    refine g_getfield (q := 74) C fX5_18 dX5_tell_71 rfl H.1 rfl ?_
    exact E.1 _ _ _ _ _ _ _ dX5_tell_74 rfl rfl (Nat.le_of_ble_eq_true rfl) (Nat.le_of_ble_eq_true rfl) ⟨by simp [gSd.tell, *], rfl⟩
  by_cases c_1_3 : w = 3
  · subst c_1_3
    refine g_tableIn (off := 74) (t := 75) C dX5_tell_1 (by decide) (by decide) (by decide) (by decide) ?_
    refine g_aload_n (q := 76) C dX5_tell_75 rfl rfl ?_
    refine g_getfield (q := 79) C fX5_38 dX5_tell_76 rfl H.1 rfl ?_
    refine g_callVi (q := 82) (As := []) C gyX4_size gvX4_size t_687 (c_X4_size (gRw.obj H.2.1)) dX5_tell_79 rfl (gRw.obj H.2.1) rfl rfl rfl (Nat.le_of_ble_eq_true rfl) (Nat.le_of_ble_eq_true rfl) (Nat.le_of_ble_eq_true rfl) (Nat.le_of_ble_eq_true rfl) (Nat.le_of_ble_eq_true rfl) rfl ?_
    exact E.1 _ _ _ _ _ _ _ dX5_tell_82 rfl rfl (Nat.le_of_ble_eq_true rfl) (Nat.le_of_ble_eq_true rfl) ⟨by simp [gSd.tell, *], rfl⟩
  by_cases c_1_4 : w = 4
  · subst c_1_4
    refine g_tableIn (off := 82) (t := 83) C dX5_tell_1 (by decide) (by decide) (by decide) (by decide) ?_
    refine g_aload_n (q := 84) C dX5_tell_83 rfl rfl ?_
    refine g_getfield (q := 87) C fX5_21 dX5_tell_84 rfl H.1 rfl ?_
    exact E.1 _ _ _ _ _ _ _ dX5_tell_87 rfl rfl (Nat.le_of_ble_eq_true rfl) (Nat.le_of_ble_eq_true rfl) ⟨by simp [gSd.tell, *], rfl⟩
  by_cases c_1_5 : w = 5
  · subst c_1_5
    refine g_tableIn (off := 87) (t := 88) C dX5_tell_1 (by decide) (by decide) (by decide) (by decide) ?_
    refine g_aload_n (q := 89) C dX5_tell_88 rfl rfl ?_
    refine g_getfield (q := 92) C fX5_45 dX5_tell_89 rfl H.1 rfl ?_
    refine g_callVi (q := 95) (As := []) C gyX4_size gvX4_size t_687 (c_X4_size (gRw.obj H.2.2.2)) dX5_tell_92 rfl (gRw.obj H.2.2.2) rfl rfl rfl (Nat.le_of_ble_eq_true rfl) (Nat.le_of_ble_eq_true rfl) (Nat.le_of_ble_eq_true rfl) (Nat.le_of_ble_eq_true rfl) (Nat.le_of_ble_eq_true rfl) rfl ?_
    exact E.1 _ _ _ _ _ _ _ dX5_tell_95 rfl rfl (Nat.le_of_ble_eq_true rfl) (Nat.le_of_ble_eq_true rfl) ⟨by simp [gSd.tell, *], rfl⟩
  by_cases c_1_6 : w = 6
  · subst c_1_6
    refine g_tableIn (off := 95) (t := 96) C dX5_tell_1 (by decide) (by decide) (by decide) (by decide) ?_
    refine g_aload_n (q := 97) C dX5_tell_96 rfl rfl ?_
    refine g_getfield (q := 100) C fX5_55 dX5_tell_97 rfl H.1 rfl ?_
    exact E.1 _ _ _ _ _ _ _ dX5_tell_100 rfl rfl (Nat.le_of_ble_eq_true rfl) (Nat.le_of_ble_eq_true rfl) ⟨by simp [gSd.tell, *], rfl⟩
  by_cases c_1_7 : w = 7
  · subst c_1_7
    refine g_tableIn (off := 100) (t := 101) C dX5_tell_1 (by decide) (by decide) (by decide) (by decide) ?_
    refine g_aload_n (q := 102) C dX5_tell_101 rfl rfl ?_
    refine g_getfield (q := 105) C fX5_24 dX5_tell_102 rfl H.1 rfl ?_
    exact E.1 _ _ _ _ _ _ _ dX5_tell_105 rfl rfl (Nat.le_of_ble_eq_true rfl) (Nat.le_of_ble_eq_true rfl) ⟨by simp [gSd.tell, *], rfl⟩
  by_cases c_1_8 : w = 8
  · subst c_1_8
    refine g_tableIn (off := 105) (t := 106) C dX5_tell_1 (by decide) (by decide) (by decide) (by decide) ?_
    refine g_aload_n (q := 107) C dX5_tell_106 rfl rfl ?_
    refine g_getfield (q := 110) C fX5_48 dX5_tell_107 rfl H.1 rfl ?_
    refine g_iconst (v := (-1)) (q := 111) C dX5_tell_110 (by decide) rfl ?_
    refine g_icmp_ne (t := 118) (q := 114) C dX5_tell_111 (by decide) rfl (fun c_111 => ?_) (fun c_111 => ?_)
    · -- to 118
      refine g_aload_n (q := 119) C dX5_tell_118 rfl rfl ?_
      refine g_getfield (q := 122) C fX5_9 dX5_tell_119 rfl H.1 rfl ?_
      exact E.1 _ _ _ _ _ _ _ dX5_tell_122 rfl rfl (Nat.le_of_ble_eq_true rfl) (Nat.le_of_ble_eq_true rfl) ⟨by simp [gSd.tell, *], rfl⟩
    · -- to 114
      refine g_iconst (v := (-1)) (q := 115) C dX5_tell_114 (by decide) rfl ?_
      refine g_goto (q := 122) C dX5_tell_115 (by decide) ?_
      exact E.1 _ _ _ _ _ _ _ dX5_tell_122 rfl rfl (Nat.le_of_ble_eq_true rfl) (Nat.le_of_ble_eq_true rfl) ⟨by simp [gSd.tell, *], rfl⟩
  by_cases c_1_9 : w = 9
  · subst c_1_9
    refine g_tableIn (off := 122) (t := 123) C dX5_tell_1 (by decide) (by decide) (by decide) (by decide) ?_
    refine g_aload_n (q := 124) C dX5_tell_123 rfl rfl ?_
    refine g_getfield (q := 127) C fX5_58 dX5_tell_124 rfl H.1 rfl ?_
    exact E.1 _ _ _ _ _ _ _ dX5_tell_127 rfl rfl (Nat.le_of_ble_eq_true rfl) (Nat.le_of_ble_eq_true rfl) ⟨by simp [gSd.tell, *], rfl⟩
  by_cases c_1_10 : w = 10
  · subst c_1_10
    refine g_tableIn (off := 127) (t := 128) C dX5_tell_1 (by decide) (by decide) (by decide) (by decide) ?_
    refine g_aload_n (q := 129) C dX5_tell_128 rfl rfl ?_
    refine g_getfield (q := 132) C fX5_30 dX5_tell_129 rfl H.1 rfl ?_
    exact E.1 _ _ _ _ _ _ _ dX5_tell_132 rfl rfl (Nat.le_of_ble_eq_true rfl) (Nat.le_of_ble_eq_true rfl) ⟨by simp [gSd.tell, *], rfl⟩
  refine g_tableOut (t := 133) C dX5_tell_1 (gOut11 c_1_0 c_1_1 c_1_2 c_1_3 c_1_4 c_1_5 c_1_6 c_1_7 c_1_8 c_1_9 c_1_10) (by decide) ?_
  refine g_bipush (v := (-2)) (q := 135) C dX5_tell_133 (by decide) rfl ?_
  exact E.1 _ _ _ _ _ _ _ dX5_tell_135 rfl rfl (Nat.le_of_ble_eq_true rfl) (Nat.le_of_ble_eq_true rfl) ⟨by simp [gSd.tell, *], rfl⟩
end
section
/-! Wire, where no letter is turned (by program: wip/p1/m_wire.py) -/
/-- the wire at w: repeats, letters, letters again; m faults told, each of them spoilt or lost -/
def gWire (hp : List gA) (w : Nat) (re le ag : Int32) (m : Nat) : Prop := ∃ (fl fk fb : Nat → Int32) (pk bn : Int32), hp[w]? = some (.inr (.inr (6, [.int re, .int le, .int ag, .ref (w + 1), .ref (w + 2), .ref (w + 3), .int (nI m), .int (-1), .int pk, .int bn]))) ∧ hp[w + 1]? = some (.inl (24, fl)) ∧ hp[w + 2]? = some (.inl (24, fk)) ∧ hp[w + 3]? = some (.inl (24, fb)) ∧ m ≤ 24 ∧ ∀ j, j < m → fk j = 1 ∨ fk j = 3
def gFW (hp h : List gA) (w : Nat) : Prop := ∀ k, (k < w ∨ w + 4 ≤ k) → h[k]? = hp[k]?
theorem gFW.rf {hp : List gA} {w : Nat} : gFW hp hp w := fun _ _ => rfl
theorem gFW.trans {hp h h' : List gA} {w : Nat} (a : gFW hp h w) (b : gFW h h' w) : gFW hp h' w := fun k hk => (b k hk).trans (a k hk)
theorem gWire.kept {hp h : List gA} {w : Nat} {re le ag : Int32} {m : Nat} (H : gWire hp w re le ag m) (fr : ∀ k, w ≤ k → k < w + 4 → h[k]? = hp[k]?) : gWire h w re le ag m := by
  obtain ⟨fl, fk, fb, pk, bn, a1, a2, a3, a4, a5⟩ := H
  exact ⟨fl, fk, fb, pk, bn, (fr _ (by omega) (by omega)).trans a1, (fr _ (by omega) (by omega)).trans a2, (fr _ (by omega) (by omega)).trans a3, (fr _ (by omega) (by omega)).trans a4, a5⟩
theorem gupd {f : Nat → Int32} {m k : Nat} {x : Int32} (hf : ∀ j, j < m → f j = 1 ∨ f j = 3) (hx : x = 1 ∨ x = 3) : ∀ j, j < m → upd f k x j = 1 ∨ upd f k x j = 3 := by
  intro j hj
  by_cases h : j = k
  · subst h; rw [pk_us]; exact hx
  · rw [pk_un h]; exact hf j hj
theorem dX6_faults_0 : decode cX6_faults 0 = .ok (.aload_n 0, 1) := by decide +kernel
theorem dX6_faults_1 : decode cX6_faults 1 = .ok (.getfield 31, 3) := by decide +kernel
theorem dX6_faults_4 : decode cX6_faults 4 = .ok (.ireturn, 1) := by decide +kernel
set_option maxRecDepth 100000 in
set_option maxHeartbeats 4000000 in
theorem c_X6_faults_w {hp : List gA} {w : Nat} {re le ag : Int32} {m : Nat} (H : gWire hp w re le ag m) : gM yX6_faults cX6_faults 1 ((some .int)) 0 0 [.ref w] (hp) (0) (0) (fun v h => v = some (.int (nI m)) ∧ h = hp) := by
  obtain ⟨fl, fk, fb, pk, bn, hw, hl, hk, hb, hm, hkk⟩ := id H
  refine gM_of (ls0 := [some (.ref w)]) (by decide +kernel) (Nat.le_of_ble_eq_true rfl) rfl fun X C E => ?_
  refine g_aload_n (q := 1) C dX6_faults_0 rfl rfl ?_
  refine g_getfield (q := 4) C fX6_31 dX6_faults_1 rfl hw rfl ?_
  exact E.1 _ _ _ _ _ _ _ dX6_faults_4 rfl rfl (Nat.le_of_ble_eq_true rfl) (Nat.le_of_ble_eq_true rfl) ⟨rfl, rfl⟩
theorem dX6_isFull_0 : decode cX6_isFull 0 = .ok (.aload_n 0, 1) := by decide +kernel
theorem dX6_isFull_1 : decode cX6_isFull 1 = .ok (.getfield 31, 3) := by decide +kernel
theorem dX6_isFull_4 : decode cX6_isFull 4 = .ok (.bipush 24, 2) := by decide +kernel
theorem dX6_isFull_6 : decode cX6_isFull 6 = .ok (.if_icmp .lt 7, 3) := by decide +kernel
theorem dX6_isFull_9 : decode cX6_isFull 9 = .ok (.iconst 1, 1) := by decide +kernel
theorem dX6_isFull_10 : decode cX6_isFull 10 = .ok (.goto 4, 3) := by decide +kernel
theorem dX6_isFull_13 : decode cX6_isFull 13 = .ok (.iconst 0, 1) := by decide +kernel
theorem dX6_isFull_14 : decode cX6_isFull 14 = .ok (.ireturn, 1) := by decide +kernel
set_option maxRecDepth 100000 in
set_option maxHeartbeats 4000000 in
theorem c_X6_isFull_w {hp : List gA} {w : Nat} {re le ag : Int32} {m : Nat} (H : gWire hp w re le ag m) : gM yX6_isFull cX6_isFull 1 ((some .boolean)) 0 0 [.ref w] (hp) (0) (0) (fun v h => v = some (.int (if m = 24 then 1 else 0)) ∧ h = hp) := by
  obtain ⟨fl, fk, fb, pk, bn, hw, hl, hk, hb, hm, hkk⟩ := id H
  have hm31 : m < 2 ^ 31 := by omega
  refine gM_of (ls0 := [some (.ref w)]) (by decide +kernel) (Nat.le_of_ble_eq_true rfl) rfl fun X C E => ?_
  refine g_aload_n (q := 1) C dX6_isFull_0 rfl rfl ?_
  refine g_getfield (q := 4) C fX6_31 dX6_isFull_1 rfl hw rfl ?_
  refine g_bipush (v := 24) (q := 6) C dX6_isFull_4 (by decide) rfl ?_
  refine g_icmp_lt (t := 13) (q := 9) C dX6_isFull_6 (by decide) rfl (fun c_6 => ?_) (fun c_6 => ?_)
  · -- to 13
    refine g_iconst (v := 0) (q := 14) C dX6_isFull_13 (by decide) rfl ?_
    exact E.1 _ _ _ _ _ _ _ dX6_isFull_14 rfl rfl (Nat.le_of_ble_eq_true rfl) (Nat.le_of_ble_eq_true rfl) ⟨by have h9 : m < 24 := (nI_ltI hm31 (by decide : 24 < 2 ^ 31)).mp c_6; rw [if_neg (by omega)], rfl⟩
  · -- to 9
    refine g_iconst (v := 1) (q := 10) C dX6_isFull_9 (by decide) rfl ?_
    refine g_goto (q := 14) C dX6_isFull_10 (by decide) ?_
    exact E.1 _ _ _ _ _ _ _ dX6_isFull_14 rfl rfl (Nat.le_of_ble_eq_true rfl) (Nat.le_of_ble_eq_true rfl) ⟨by have h9 : ¬ m < 24 := fun h => c_6 ((nI_ltI hm31 (by decide : 24 < 2 ^ 31)).mpr h); rw [if_pos (by omega)], rfl⟩
theorem dX6_dropNearest_0 : decode cX6_dropNearest 0 = .ok (.iconst 1, 1) := by decide +kernel
theorem dX6_dropNearest_1 : decode cX6_dropNearest 1 = .ok (.istore_n 1, 1) := by decide +kernel
theorem dX6_dropNearest_2 : decode cX6_dropNearest 2 = .ok (.iload_n 1, 1) := by decide +kernel
theorem dX6_dropNearest_3 : decode cX6_dropNearest 3 = .ok (.aload_n 0, 1) := by decide +kernel
theorem dX6_dropNearest_4 : decode cX6_dropNearest 4 = .ok (.getfield 31, 3) := by decide +kernel
theorem dX6_dropNearest_7 : decode cX6_dropNearest 7 = .ok (.if_icmp .ge 57, 3) := by decide +kernel
theorem dX6_dropNearest_10 : decode cX6_dropNearest 10 = .ok (.iload_n 1, 1) := by decide +kernel
theorem dX6_dropNearest_11 : decode cX6_dropNearest 11 = .ok (.bipush 24, 2) := by decide +kernel
theorem dX6_dropNearest_13 : decode cX6_dropNearest 13 = .ok (.if_icmp .ge 51, 3) := by decide +kernel
theorem dX6_dropNearest_16 : decode cX6_dropNearest 16 = .ok (.aload_n 0, 1) := by decide +kernel
theorem dX6_dropNearest_17 : decode cX6_dropNearest 17 = .ok (.getfield 21, 3) := by decide +kernel
theorem dX6_dropNearest_20 : decode cX6_dropNearest 20 = .ok (.iload_n 1, 1) := by decide +kernel
theorem dX6_dropNearest_21 : decode cX6_dropNearest 21 = .ok (.iconst 1, 1) := by decide +kernel
theorem dX6_dropNearest_22 : decode cX6_dropNearest 22 = .ok (.isub, 1) := by decide +kernel
theorem dX6_dropNearest_23 : decode cX6_dropNearest 23 = .ok (.aload_n 0, 1) := by decide +kernel
theorem dX6_dropNearest_24 : decode cX6_dropNearest 24 = .ok (.getfield 21, 3) := by decide +kernel
theorem dX6_dropNearest_27 : decode cX6_dropNearest 27 = .ok (.iload_n 1, 1) := by decide +kernel
theorem dX6_dropNearest_28 : decode cX6_dropNearest 28 = .ok (.iaload, 1) := by decide +kernel
theorem dX6_dropNearest_29 : decode cX6_dropNearest 29 = .ok (.iastore, 1) := by decide +kernel
theorem dX6_dropNearest_30 : decode cX6_dropNearest 30 = .ok (.aload_n 0, 1) := by decide +kernel
theorem dX6_dropNearest_31 : decode cX6_dropNearest 31 = .ok (.getfield 25, 3) := by decide +kernel
theorem dX6_dropNearest_34 : decode cX6_dropNearest 34 = .ok (.iload_n 1, 1) := by decide +kernel
theorem dX6_dropNearest_35 : decode cX6_dropNearest 35 = .ok (.iconst 1, 1) := by decide +kernel
theorem dX6_dropNearest_36 : decode cX6_dropNearest 36 = .ok (.isub, 1) := by decide +kernel
theorem dX6_dropNearest_37 : decode cX6_dropNearest 37 = .ok (.aload_n 0, 1) := by decide +kernel
theorem dX6_dropNearest_38 : decode cX6_dropNearest 38 = .ok (.getfield 25, 3) := by decide +kernel
theorem dX6_dropNearest_41 : decode cX6_dropNearest 41 = .ok (.iload_n 1, 1) := by decide +kernel
theorem dX6_dropNearest_42 : decode cX6_dropNearest 42 = .ok (.iaload, 1) := by decide +kernel
theorem dX6_dropNearest_43 : decode cX6_dropNearest 43 = .ok (.iastore, 1) := by decide +kernel
theorem dX6_dropNearest_44 : decode cX6_dropNearest 44 = .ok (.aload_n 0, 1) := by decide +kernel
theorem dX6_dropNearest_45 : decode cX6_dropNearest 45 = .ok (.getfield 28, 3) := by decide +kernel
theorem dX6_dropNearest_48 : decode cX6_dropNearest 48 = .ok (.iload_n 1, 1) := by decide +kernel
theorem dX6_dropNearest_49 : decode cX6_dropNearest 49 = .ok (.iconst 1, 1) := by decide +kernel
theorem dX6_dropNearest_50 : decode cX6_dropNearest 50 = .ok (.isub, 1) := by decide +kernel
theorem dX6_dropNearest_51 : decode cX6_dropNearest 51 = .ok (.aload_n 0, 1) := by decide +kernel
theorem dX6_dropNearest_52 : decode cX6_dropNearest 52 = .ok (.getfield 28, 3) := by decide +kernel
theorem dX6_dropNearest_55 : decode cX6_dropNearest 55 = .ok (.iload_n 1, 1) := by decide +kernel
theorem dX6_dropNearest_56 : decode cX6_dropNearest 56 = .ok (.iaload, 1) := by decide +kernel
theorem dX6_dropNearest_57 : decode cX6_dropNearest 57 = .ok (.iastore, 1) := by decide +kernel
theorem dX6_dropNearest_58 : decode cX6_dropNearest 58 = .ok (.iinc 1 1, 3) := by decide +kernel
theorem dX6_dropNearest_61 : decode cX6_dropNearest 61 = .ok (.goto (-59), 3) := by decide +kernel
theorem dX6_dropNearest_64 : decode cX6_dropNearest 64 = .ok (.aload_n 0, 1) := by decide +kernel
theorem dX6_dropNearest_65 : decode cX6_dropNearest 65 = .ok (.dup, 1) := by decide +kernel
theorem dX6_dropNearest_66 : decode cX6_dropNearest 66 = .ok (.getfield 31, 3) := by decide +kernel
theorem dX6_dropNearest_69 : decode cX6_dropNearest 69 = .ok (.iconst 1, 1) := by decide +kernel
theorem dX6_dropNearest_70 : decode cX6_dropNearest 70 = .ok (.isub, 1) := by decide +kernel
theorem dX6_dropNearest_71 : decode cX6_dropNearest 71 = .ok (.putfield 31, 3) := by decide +kernel
theorem dX6_dropNearest_74 : decode cX6_dropNearest 74 = .ok (.return_, 1) := by decide +kernel
set_option maxRecDepth 100000 in
set_option maxHeartbeats 4000000 in
theorem c_X6_dropNearest_w {hp : List gA} {w : Nat} {re le ag : Int32} {m : Nat} (H : gWire hp w re le ag m) (h1 : 1 ≤ m) : gM yX6_dropNearest cX6_dropNearest 2 (none) 0 0 [.ref w] (hp) (0) (0) (fun v h => v = none ∧ (gWire h w re le ag (m - 1) ∧ gFW hp h w)) := by
  obtain ⟨fl, fk, fb, pk, bn, hw, hl, hk, hb, hm, hkk⟩ := id H
  refine gM_of (ls0 := [some (.ref w), none]) (by decide +kernel) (Nat.le_of_ble_eq_true rfl) rfl fun X C E => ?_
  have L : ∀ d k : Nat, k + d = m → 1 ≤ k → ∀ hp1 : List gA, gWire hp1 w re le ag m → gFW hp hp1 w → gG X 2 [some (.ref w), some (.int (nI k))] [] hp1 0 0 := by
    intro d
    induction d with
    | zero =>
      intro k hk1 h3 hp1 HW fr
      obtain ⟨fl, fk, fb, pk, bn, hw, hl, hk, hb, hm, hkk⟩ := HW
      obtain rfl : k = m := by omega
      refine g_iload_n (q := 3) C dX6_dropNearest_2 rfl rfl ?_
      refine g_aload_n (q := 4) C dX6_dropNearest_3 rfl rfl ?_
      refine g_getfield (q := 7) C fX6_31 dX6_dropNearest_4 rfl hw rfl ?_
      refine g_icmp_ge_t (t := 64) C dX6_dropNearest_7 (by decide) (nI_le (Nat.le_refl _) (by omega)) ?_
      refine g_aload_n (q := 65) C dX6_dropNearest_64 rfl rfl ?_
      refine g_dup (q := 66) C dX6_dropNearest_65 rfl rfl ?_
      refine g_getfield (q := 69) C fX6_31 dX6_dropNearest_66 rfl hw rfl ?_
      refine g_iconst (v := 1) (q := 70) C dX6_dropNearest_69 (by decide) rfl ?_
      refine g_isub (q := 71) C dX6_dropNearest_70 rfl ?_
      refine g_putfield (q := 74) C fX6_31 dX6_dropNearest_71 rfl hw (Nat.le_of_ble_eq_true rfl) (Or.inl rfl) rfl rfl (by intro z h; cases h) ?_
      exact E.2.1 _ _ _ _ _ dX6_dropNearest_74 rfl (Nat.le_of_ble_eq_true rfl) (Nat.le_of_ble_eq_true rfl) ⟨rfl, ⟨fl, fk, fb, pk, bn, by rw [(gset_self hw), ← pk_sub (a := k) (b := 1) (by omega)]; rfl, (gset_other hl (by omega)), (gset_other hk (by omega)), (gset_other hb (by omega)), by omega, fun j hj => hkk j (by omega)⟩, gFW.trans fr (fun k hk => by repeat (first | rfl | rw [List.getElem?_set_ne (by omega)]))⟩
    | succ d ih =>
      intro k hk1 h3 hp1 HW fr
      obtain ⟨fl, fk, fb, pk, bn, hw, hl, hk, hb, hm, hkk⟩ := HW
      refine g_iload_n (q := 3) C dX6_dropNearest_2 rfl rfl ?_
      refine g_aload_n (q := 4) C dX6_dropNearest_3 rfl rfl ?_
      refine g_getfield (q := 7) C fX6_31 dX6_dropNearest_4 rfl hw rfl ?_
      refine g_icmp_ge_f (t := 64) (q := 10) C dX6_dropNearest_7 (by decide) rfl (fun h => nI_ge (show k < m by omega) (by omega) h) ?_
      refine g_iload_n (q := 11) C dX6_dropNearest_10 rfl rfl ?_
      refine g_bipush (v := 24) (q := 13) C dX6_dropNearest_11 (by decide) rfl ?_
      refine g_icmp_ge_f (t := 64) (q := 16) C dX6_dropNearest_13 (by decide) rfl (fun h => nI_ge (show k < 24 by omega) (by omega) h) ?_
      refine g_aload_n (q := 17) C dX6_dropNearest_16 rfl rfl ?_
      refine g_getfield (q := 20) C fX6_21 dX6_dropNearest_17 rfl hw rfl ?_
      refine g_iload_n (q := 21) C dX6_dropNearest_20 rfl rfl ?_
      refine g_iconst (v := 1) (q := 22) C dX6_dropNearest_21 (by decide) rfl ?_
      refine g_isub (q := 23) C dX6_dropNearest_22 rfl ?_
      refine g_aload_n (q := 24) C dX6_dropNearest_23 rfl rfl ?_
      refine g_getfield (q := 27) C fX6_21 dX6_dropNearest_24 rfl hw rfl ?_
      refine g_iload_n (q := 28) C dX6_dropNearest_27 rfl rfl ?_
      refine g_ialoadN (x := (fl k)) (j := k) (q := 29) C dX6_dropNearest_28 rfl hl (pk_in k 24 (by omega)) (pk_cl k) rfl ?_
      refine g_iastoreN (j := (k - 1)) (q := 30) C dX6_dropNearest_29 rfl hl (pk_in (k - 1) 24 (by omega) (pk_sub (b := 1) (by omega))) (pk_cl (k - 1) (pk_sub (b := 1) (by omega))) ?_
      refine g_aload_n (q := 31) C dX6_dropNearest_30 rfl rfl ?_
      refine g_getfield (q := 34) C fX6_25 dX6_dropNearest_31 rfl (gset_other hw (by omega)) rfl ?_
      refine g_iload_n (q := 35) C dX6_dropNearest_34 rfl rfl ?_
      refine g_iconst (v := 1) (q := 36) C dX6_dropNearest_35 (by decide) rfl ?_
      refine g_isub (q := 37) C dX6_dropNearest_36 rfl ?_
      refine g_aload_n (q := 38) C dX6_dropNearest_37 rfl rfl ?_
      refine g_getfield (q := 41) C fX6_25 dX6_dropNearest_38 rfl (gset_other hw (by omega)) rfl ?_
      refine g_iload_n (q := 42) C dX6_dropNearest_41 rfl rfl ?_
      refine g_ialoadN (x := (fk k)) (j := k) (q := 43) C dX6_dropNearest_42 rfl (gset_other hk (by omega)) (pk_in k 24 (by omega)) (pk_cl k) rfl ?_
      refine g_iastoreN (j := (k - 1)) (q := 44) C dX6_dropNearest_43 rfl (gset_other hk (by omega)) (pk_in (k - 1) 24 (by omega) (pk_sub (b := 1) (by omega))) (pk_cl (k - 1) (pk_sub (b := 1) (by omega))) ?_
      refine g_aload_n (q := 45) C dX6_dropNearest_44 rfl rfl ?_
      refine g_getfield (q := 48) C fX6_28 dX6_dropNearest_45 rfl (gset_other (gset_other hw (by omega)) (by omega)) rfl ?_
      refine g_iload_n (q := 49) C dX6_dropNearest_48 rfl rfl ?_
      refine g_iconst (v := 1) (q := 50) C dX6_dropNearest_49 (by decide) rfl ?_
      refine g_isub (q := 51) C dX6_dropNearest_50 rfl ?_
      refine g_aload_n (q := 52) C dX6_dropNearest_51 rfl rfl ?_
      refine g_getfield (q := 55) C fX6_28 dX6_dropNearest_52 rfl (gset_other (gset_other hw (by omega)) (by omega)) rfl ?_
      refine g_iload_n (q := 56) C dX6_dropNearest_55 rfl rfl ?_
      refine g_ialoadN (x := (fb k)) (j := k) (q := 57) C dX6_dropNearest_56 rfl (gset_other (gset_other hb (by omega)) (by omega)) (pk_in k 24 (by omega)) (pk_cl k) rfl ?_
      refine g_iastoreN (j := (k - 1)) (q := 58) C dX6_dropNearest_57 rfl (gset_other (gset_other hb (by omega)) (by omega)) (pk_in (k - 1) 24 (by omega) (pk_sub (b := 1) (by omega))) (pk_cl (k - 1) (pk_sub (b := 1) (by omega))) ?_
      refine g_iinc (v := (nI (k + 1))) (q := 61) C dX6_dropNearest_58 rfl (nI_1 k) (by simp only [gset]; rfl) rfl ?_
      refine g_goto (q := 2) C dX6_dropNearest_61 (by decide) ?_
      exact ih (k + 1) (by omega) (by omega) _ ⟨_, _, _, pk, bn, (gset_other (gset_other (gset_other hw (by omega)) (by omega)) (by omega)), (gset_other (gset_other (gset_self hl) (by omega)) (by omega)), (gset_other (gset_self (gset_other hk (by omega))) (by omega)), (gset_self (gset_other (gset_other hb (by omega)) (by omega))), hm, gupd hkk (hkk k (by omega))⟩ (gFW.trans fr (fun k hk => by repeat (first | rfl | rw [List.getElem?_set_ne (by omega)])))
  refine g_iconst (v := 1) (q := 1) C dX6_dropNearest_0 (by decide) rfl ?_
  refine g_istore_n (q := 2) C dX6_dropNearest_1 (Nat.le_of_ble_eq_true rfl) (by simp only [gset]; rfl) rfl ?_
  exact L (m - 1) 1 (by omega) (Nat.le_refl _) hp H gFW.rf
  
theorem gFW.set {hp : List gA} {w : Nat} {e : gA} : gFW hp (hp.set w e) w := fun k hk => List.getElem?_set_ne (by omega)
theorem gpos {m : Nat} (hm : m ≤ 24) (h : ¬ nI m ≤ 0) : 1 ≤ m := by
  rcases Nat.eq_zero_or_pos m with e | e
  · subst e; exact absurd (by decide) h
  · exact e
theorem dX6_sendLetter_0 : decode cX6_sendLetter 0 = .ok (.iconst 0, 1) := by decide +kernel
theorem dX6_sendLetter_1 : decode cX6_sendLetter 1 = .ok (.istore_n 1, 1) := by decide +kernel
theorem dX6_sendLetter_2 : decode cX6_sendLetter 2 = .ok (.aload_n 0, 1) := by decide +kernel
theorem dX6_sendLetter_3 : decode cX6_sendLetter 3 = .ok (.getfield 31, 3) := by decide +kernel
theorem dX6_sendLetter_6 : decode cX6_sendLetter 6 = .ok (.ifCond .le 37, 3) := by decide +kernel
theorem dX6_sendLetter_9 : decode cX6_sendLetter 9 = .ok (.aload_n 0, 1) := by decide +kernel
theorem dX6_sendLetter_10 : decode cX6_sendLetter 10 = .ok (.getfield 21, 3) := by decide +kernel
theorem dX6_sendLetter_13 : decode cX6_sendLetter 13 = .ok (.iconst 0, 1) := by decide +kernel
theorem dX6_sendLetter_14 : decode cX6_sendLetter 14 = .ok (.iaload, 1) := by decide +kernel
theorem dX6_sendLetter_15 : decode cX6_sendLetter 15 = .ok (.aload_n 0, 1) := by decide +kernel
theorem dX6_sendLetter_16 : decode cX6_sendLetter 16 = .ok (.getfield 15, 3) := by decide +kernel
theorem dX6_sendLetter_19 : decode cX6_sendLetter 19 = .ok (.if_icmp .ne 24, 3) := by decide +kernel
theorem dX6_sendLetter_22 : decode cX6_sendLetter 22 = .ok (.aload_n 0, 1) := by decide +kernel
theorem dX6_sendLetter_23 : decode cX6_sendLetter 23 = .ok (.getfield 25, 3) := by decide +kernel
theorem dX6_sendLetter_26 : decode cX6_sendLetter 26 = .ok (.iconst 0, 1) := by decide +kernel
theorem dX6_sendLetter_27 : decode cX6_sendLetter 27 = .ok (.iaload, 1) := by decide +kernel
theorem dX6_sendLetter_28 : decode cX6_sendLetter 28 = .ok (.istore_n 1, 1) := by decide +kernel
theorem dX6_sendLetter_29 : decode cX6_sendLetter 29 = .ok (.aload_n 0, 1) := by decide +kernel
theorem dX6_sendLetter_30 : decode cX6_sendLetter 30 = .ok (.aload_n 0, 1) := by decide +kernel
theorem dX6_sendLetter_31 : decode cX6_sendLetter 31 = .ok (.getfield 28, 3) := by decide +kernel
theorem dX6_sendLetter_34 : decode cX6_sendLetter 34 = .ok (.iconst 0, 1) := by decide +kernel
theorem dX6_sendLetter_35 : decode cX6_sendLetter 35 = .ok (.iaload, 1) := by decide +kernel
theorem dX6_sendLetter_36 : decode cX6_sendLetter 36 = .ok (.putfield 40, 3) := by decide +kernel
theorem dX6_sendLetter_39 : decode cX6_sendLetter 39 = .ok (.aload_n 0, 1) := by decide +kernel
theorem dX6_sendLetter_40 : decode cX6_sendLetter 40 = .ok (.invokevirtual 53, 3) := by decide +kernel
theorem dX6_sendLetter_43 : decode cX6_sendLetter 43 = .ok (.aload_n 0, 1) := by decide +kernel
theorem dX6_sendLetter_44 : decode cX6_sendLetter 44 = .ok (.getfield 15, 3) := by decide +kernel
theorem dX6_sendLetter_47 : decode cX6_sendLetter 47 = .ok (.aload_n 0, 1) := by decide +kernel
theorem dX6_sendLetter_48 : decode cX6_sendLetter 48 = .ok (.getfield 34, 3) := by decide +kernel
theorem dX6_sendLetter_51 : decode cX6_sendLetter 51 = .ok (.if_icmp .ne 13, 3) := by decide +kernel
theorem dX6_sendLetter_64 : decode cX6_sendLetter 64 = .ok (.aload_n 0, 1) := by decide +kernel
theorem dX6_sendLetter_65 : decode cX6_sendLetter 65 = .ok (.dup, 1) := by decide +kernel
theorem dX6_sendLetter_66 : decode cX6_sendLetter 66 = .ok (.getfield 15, 3) := by decide +kernel
theorem dX6_sendLetter_69 : decode cX6_sendLetter 69 = .ok (.iconst 1, 1) := by decide +kernel
theorem dX6_sendLetter_70 : decode cX6_sendLetter 70 = .ok (.iadd, 1) := by decide +kernel
theorem dX6_sendLetter_71 : decode cX6_sendLetter 71 = .ok (.putfield 15, 3) := by decide +kernel
theorem dX6_sendLetter_74 : decode cX6_sendLetter 74 = .ok (.iload_n 1, 1) := by decide +kernel
theorem dX6_sendLetter_75 : decode cX6_sendLetter 75 = .ok (.ireturn, 1) := by decide +kernel
set_option maxRecDepth 100000 in
set_option maxHeartbeats 4000000 in
theorem c_X6_sendLetter_w {hp : List gA} {w : Nat} {re le ag : Int32} {m : Nat} (H : gWire hp w re le ag m) (hle : ¬ le = -1) : gM yX6_sendLetter cX6_sendLetter 2 ((some .int)) 1 21 [.ref w] (hp) (0) (0) (fun v h => ∃ x, v = some (.int x) ∧ ((∃ m1, gWire h w re (le + 1) ag m1 ∧ ((x = 0 ∧ m1 = m) ∨ ((x = 1 ∨ x = 3) ∧ m1 + 1 = m))) ∧ gFW hp h w)) := by
  obtain ⟨fl, fk, fb, pk, bn, hw, hl, hk, hb, hm, hkk⟩ := id H
  refine gM_of (ls0 := [some (.ref w), none]) (by decide +kernel) (Nat.le_of_ble_eq_true rfl) rfl fun X C E => ?_
  refine g_iconst (v := 0) (q := 1) C dX6_sendLetter_0 (by decide) rfl ?_
  refine g_istore_n (q := 2) C dX6_sendLetter_1 (Nat.le_of_ble_eq_true rfl) (by simp only [gset]; rfl) rfl ?_
  refine g_aload_n (q := 3) C dX6_sendLetter_2 rfl rfl ?_
  refine g_getfield (q := 6) C fX6_31 dX6_sendLetter_3 rfl hw rfl ?_
  refine g_if_le (t := 43) (q := 9) C dX6_sendLetter_6 (by decide) rfl (fun c_6 => ?_) (fun c_6 => ?_)
  · -- to 43
    refine g_aload_n (q := 44) C dX6_sendLetter_43 rfl rfl ?_
    refine g_getfield (q := 47) C fX6_15 dX6_sendLetter_44 rfl hw rfl ?_
    refine g_aload_n (q := 48) C dX6_sendLetter_47 rfl rfl ?_
    refine g_getfield (q := 51) C fX6_34 dX6_sendLetter_48 rfl hw rfl ?_
    refine g_icmp_ne_t (t := 64) C dX6_sendLetter_51 (by decide) hle ?_
    refine g_aload_n (q := 65) C dX6_sendLetter_64 rfl rfl ?_
    refine g_dup (q := 66) C dX6_sendLetter_65 rfl rfl ?_
    refine g_getfield (q := 69) C fX6_15 dX6_sendLetter_66 rfl hw rfl ?_
    refine g_iconst (v := 1) (q := 70) C dX6_sendLetter_69 (by decide) rfl ?_
    refine g_iadd (q := 71) C dX6_sendLetter_70 rfl ?_
    refine g_putfield (q := 74) C fX6_15 dX6_sendLetter_71 rfl hw (Nat.le_of_ble_eq_true rfl) (Or.inl rfl) rfl rfl (by intro z h; cases h) ?_
    refine g_iload_n (q := 75) C dX6_sendLetter_74 rfl rfl ?_
    exact E.1 _ _ _ _ _ _ _ dX6_sendLetter_75 rfl rfl (Nat.le_of_ble_eq_true rfl) (Nat.le_of_ble_eq_true rfl) ⟨_, rfl, ⟨m, ⟨fl, fk, fb, pk, bn, (gset_self hw), (gset_other hl (by omega)), (gset_other hk (by omega)), (gset_other hb (by omega)), hm, hkk⟩, Or.inl ⟨rfl, rfl⟩⟩, gFW.set⟩
  · -- to 9
    refine g_aload_n (q := 10) C dX6_sendLetter_9 rfl rfl ?_
    refine g_getfield (q := 13) C fX6_21 dX6_sendLetter_10 rfl hw rfl ?_
    refine g_iconst (v := 0) (q := 14) C dX6_sendLetter_13 (by decide) rfl ?_
    refine g_ialoadN (x := (fl 0)) (j := 0) (q := 15) C dX6_sendLetter_14 rfl hl (pk_in 0 24 (by omega)) (pk_cl 0) rfl ?_
    refine g_aload_n (q := 16) C dX6_sendLetter_15 rfl rfl ?_
    refine g_getfield (q := 19) C fX6_15 dX6_sendLetter_16 rfl hw rfl ?_
    refine g_icmp_ne (t := 43) (q := 22) C dX6_sendLetter_19 (by decide) rfl (fun c_19 => ?_) (fun c_19 => ?_)
    · -- to 43
      refine g_aload_n (q := 44) C dX6_sendLetter_43 rfl rfl ?_
      refine g_getfield (q := 47) C fX6_15 dX6_sendLetter_44 rfl hw rfl ?_
      refine g_aload_n (q := 48) C dX6_sendLetter_47 rfl rfl ?_
      refine g_getfield (q := 51) C fX6_34 dX6_sendLetter_48 rfl hw rfl ?_
      refine g_icmp_ne_t (t := 64) C dX6_sendLetter_51 (by decide) hle ?_
      refine g_aload_n (q := 65) C dX6_sendLetter_64 rfl rfl ?_
      refine g_dup (q := 66) C dX6_sendLetter_65 rfl rfl ?_
      refine g_getfield (q := 69) C fX6_15 dX6_sendLetter_66 rfl hw rfl ?_
      refine g_iconst (v := 1) (q := 70) C dX6_sendLetter_69 (by decide) rfl ?_
      refine g_iadd (q := 71) C dX6_sendLetter_70 rfl ?_
      refine g_putfield (q := 74) C fX6_15 dX6_sendLetter_71 rfl hw (Nat.le_of_ble_eq_true rfl) (Or.inl rfl) rfl rfl (by intro z h; cases h) ?_
      refine g_iload_n (q := 75) C dX6_sendLetter_74 rfl rfl ?_
      exact E.1 _ _ _ _ _ _ _ dX6_sendLetter_75 rfl rfl (Nat.le_of_ble_eq_true rfl) (Nat.le_of_ble_eq_true rfl) ⟨_, rfl, ⟨m, ⟨fl, fk, fb, pk, bn, (gset_self hw), (gset_other hl (by omega)), (gset_other hk (by omega)), (gset_other hb (by omega)), hm, hkk⟩, Or.inl ⟨rfl, rfl⟩⟩, gFW.set⟩
    · -- to 22
      refine g_aload_n (q := 23) C dX6_sendLetter_22 rfl rfl ?_
      refine g_getfield (q := 26) C fX6_25 dX6_sendLetter_23 rfl hw rfl ?_
      refine g_iconst (v := 0) (q := 27) C dX6_sendLetter_26 (by decide) rfl ?_
      refine g_ialoadN (x := (fk 0)) (j := 0) (q := 28) C dX6_sendLetter_27 rfl hk (pk_in 0 24 (by omega)) (pk_cl 0) rfl ?_
      refine g_istore_n (q := 29) C dX6_sendLetter_28 (Nat.le_of_ble_eq_true rfl) (by simp only [gset]; rfl) rfl ?_
      refine g_aload_n (q := 30) C dX6_sendLetter_29 rfl rfl ?_
      refine g_aload_n (q := 31) C dX6_sendLetter_30 rfl rfl ?_
      refine g_getfield (q := 34) C fX6_28 dX6_sendLetter_31 rfl hw rfl ?_
      refine g_iconst (v := 0) (q := 35) C dX6_sendLetter_34 (by decide) rfl ?_
      refine g_ialoadN (x := (fb 0)) (j := 0) (q := 36) C dX6_sendLetter_35 rfl hb (pk_in 0 24 (by omega)) (pk_cl 0) rfl ?_
      refine g_putfield (q := 39) C fX6_40 dX6_sendLetter_36 rfl hw (Nat.le_of_ble_eq_true rfl) (Or.inl rfl) rfl rfl (by intro z h; cases h) ?_
      refine g_aload_n (q := 40) C dX6_sendLetter_39 rfl rfl ?_
      refine g_callVvp (q := 43) (As := []) C gyX6_dropNearest gvX6_dropNearest t_760 (c_X6_dropNearest_w (H := ⟨fl, fk, fb, pk, _, (gset_self hw), (gset_other hl (by omega)), (gset_other hk (by omega)), (gset_other hb (by omega)), hm, hkk⟩) (h1 := gpos hm c_6)) dX6_sendLetter_40 rfl (gset_self hw) rfl rfl rfl (Nat.le_of_ble_eq_true rfl) (Nat.le_of_ble_eq_true rfl) (Nat.le_of_ble_eq_true rfl) (Nat.le_of_ble_eq_true rfl) (Nat.le_of_ble_eq_true rfl) rfl (fun h1 z1 => ?_)
      obtain ⟨⟨fl2, fk2, fb2, pk2, bn2, hw2, hl2, hk2, hb2, hm2, hkk2⟩, fr1⟩ := z1
      refine g_aload_n (q := 44) C dX6_sendLetter_43 rfl rfl ?_
      refine g_getfield (q := 47) C fX6_15 dX6_sendLetter_44 rfl hw2 rfl ?_
      refine g_aload_n (q := 48) C dX6_sendLetter_47 rfl rfl ?_
      refine g_getfield (q := 51) C fX6_34 dX6_sendLetter_48 rfl hw2 rfl ?_
      refine g_icmp_ne_t (t := 64) C dX6_sendLetter_51 (by decide) hle ?_
      refine g_aload_n (q := 65) C dX6_sendLetter_64 rfl rfl ?_
      refine g_dup (q := 66) C dX6_sendLetter_65 rfl rfl ?_
      refine g_getfield (q := 69) C fX6_15 dX6_sendLetter_66 rfl hw2 rfl ?_
      refine g_iconst (v := 1) (q := 70) C dX6_sendLetter_69 (by decide) rfl ?_
      refine g_iadd (q := 71) C dX6_sendLetter_70 rfl ?_
      refine g_putfield (q := 74) C fX6_15 dX6_sendLetter_71 rfl hw2 (Nat.le_of_ble_eq_true rfl) (Or.inl rfl) rfl rfl (by intro z h; cases h) ?_
      refine g_iload_n (q := 75) C dX6_sendLetter_74 rfl rfl ?_
      exact E.1 _ _ _ _ _ _ _ dX6_sendLetter_75 rfl rfl (Nat.le_of_ble_eq_true rfl) (Nat.le_of_ble_eq_true rfl) ⟨_, rfl, ⟨m - 1, ⟨fl2, fk2, fb2, pk2, bn2, (gset_self hw2), (gset_other hl2 (by omega)), (gset_other hk2 (by omega)), (gset_other hb2 (by omega)), hm2, hkk2⟩, Or.inr ⟨hkk 0 (gpos hm c_6), by have := gpos hm c_6; omega⟩⟩, gFW.trans (gFW.trans gFW.set fr1) gFW.set⟩
def gFC (hp h : List gA) (w r a : Nat) : Prop := ∀ k, (k < w ∨ w + 4 ≤ k) → k ≠ r → k ≠ a → h[k]? = hp[k]?
theorem gFC.rf {hp : List gA} {w r a : Nat} : gFC hp hp w r a := fun _ _ _ _ => rfl
theorem gFC.w {hp h h' : List gA} {w r a : Nat} (x : gFC hp h w r a) (y : gFW h h' w) : gFC hp h' w r a := fun k h1 h2 h3 => (y k h1).trans (x k h1 h2 h3)
theorem gFC.r {hp h h' : List gA} {w r a : Nat} (x : gFC hp h w r a) (y : gFr h h' r a) : gFC hp h' w r a := fun k h1 h2 h3 => (y k h2 h3).trans (x k h1 h2 h3)
theorem gnm1 {n : Nat} (h : n < 2 ^ 31) : ¬ nI n = -1 := by
  intro e
  have := congrArg Int32.toInt e
  rw [nI_toInt h] at this
  have h1 : (-1 : Int32).toInt = -1 := by decide
  rw [h1] at this; omega
theorem gtake1 {l : List Int32} {i : Nat} (h : i < l.length) (hl : l.length < 2 ^ 31) : l.take i ++ [gat l (nI i)] = l.take (i + 1) := by
  unfold gat
  rw [if_neg (nI_pos (by omega)), nI_clamp (by omega), List.take_add_one, List.getElem?_eq_getElem h]
  simp [List.getD, List.getElem?_eq_getElem h]
theorem dX6_carry_0 : decode cX6_carry 0 = .ok (.aload_n 2, 1) := by decide +kernel
theorem dX6_carry_1 : decode cX6_carry 1 = .ok (.iconst 0, 1) := by decide +kernel
theorem dX6_carry_2 : decode cX6_carry 2 = .ok (.invokevirtual 56, 3) := by decide +kernel
theorem dX6_carry_5 : decode cX6_carry 5 = .ok (.iconst 0, 1) := by decide +kernel
theorem dX6_carry_6 : decode cX6_carry 6 = .ok (.istore_n 3, 1) := by decide +kernel
theorem dX6_carry_7 : decode cX6_carry 7 = .ok (.iconst 0, 1) := by decide +kernel
theorem dX6_carry_8 : decode cX6_carry 8 = .ok (.istore 4, 2) := by decide +kernel
theorem dX6_carry_10 : decode cX6_carry 10 = .ok (.iload 4, 2) := by decide +kernel
theorem dX6_carry_12 : decode cX6_carry 12 = .ok (.aload_n 1, 1) := by decide +kernel
theorem dX6_carry_13 : decode cX6_carry 13 = .ok (.invokevirtual 61, 3) := by decide +kernel
theorem dX6_carry_16 : decode cX6_carry 16 = .ok (.if_icmp .ge 99, 3) := by decide +kernel
theorem dX6_carry_19 : decode cX6_carry 19 = .ok (.aload_n 0, 1) := by decide +kernel
theorem dX6_carry_20 : decode cX6_carry 20 = .ok (.invokevirtual 65, 3) := by decide +kernel
theorem dX6_carry_23 : decode cX6_carry 23 = .ok (.istore 5, 2) := by decide +kernel
theorem dX6_carry_25 : decode cX6_carry 25 = .ok (.iconst 0, 1) := by decide +kernel
theorem dX6_carry_26 : decode cX6_carry 26 = .ok (.istore 6, 2) := by decide +kernel
theorem dX6_carry_28 : decode cX6_carry 28 = .ok (.iload 6, 2) := by decide +kernel
theorem dX6_carry_30 : decode cX6_carry 30 = .ok (.aload_n 0, 1) := by decide +kernel
theorem dX6_carry_31 : decode cX6_carry 31 = .ok (.getfield 9, 3) := by decide +kernel
theorem dX6_carry_34 : decode cX6_carry 34 = .ok (.if_icmp .ge 31, 3) := by decide +kernel
theorem dX6_carry_37 : decode cX6_carry 37 = .ok (.iload 5, 2) := by decide +kernel
theorem dX6_carry_39 : decode cX6_carry 39 = .ok (.iconst 1, 1) := by decide +kernel
theorem dX6_carry_40 : decode cX6_carry 40 = .ok (.if_icmp .ne 25, 3) := by decide +kernel
theorem dX6_carry_43 : decode cX6_carry 43 = .ok (.aload_n 0, 1) := by decide +kernel
theorem dX6_carry_44 : decode cX6_carry 44 = .ok (.dup, 1) := by decide +kernel
theorem dX6_carry_45 : decode cX6_carry 45 = .ok (.getfield 18, 3) := by decide +kernel
theorem dX6_carry_48 : decode cX6_carry 48 = .ok (.iconst 1, 1) := by decide +kernel
theorem dX6_carry_49 : decode cX6_carry 49 = .ok (.iadd, 1) := by decide +kernel
theorem dX6_carry_50 : decode cX6_carry 50 = .ok (.putfield 18, 3) := by decide +kernel
theorem dX6_carry_53 : decode cX6_carry 53 = .ok (.aload_n 0, 1) := by decide +kernel
theorem dX6_carry_54 : decode cX6_carry 54 = .ok (.invokevirtual 65, 3) := by decide +kernel
theorem dX6_carry_57 : decode cX6_carry 57 = .ok (.istore 5, 2) := by decide +kernel
theorem dX6_carry_59 : decode cX6_carry 59 = .ok (.iinc 6 1, 3) := by decide +kernel
theorem dX6_carry_62 : decode cX6_carry 62 = .ok (.goto (-34), 3) := by decide +kernel
theorem dX6_carry_65 : decode cX6_carry 65 = .ok (.iload 5, 2) := by decide +kernel
theorem dX6_carry_67 : decode cX6_carry 67 = .ok (.iconst 1, 1) := by decide +kernel
theorem dX6_carry_68 : decode cX6_carry 68 = .ok (.if_icmp .ne 5, 3) := by decide +kernel
theorem dX6_carry_71 : decode cX6_carry 71 = .ok (.iconst 1, 1) := by decide +kernel
theorem dX6_carry_72 : decode cX6_carry 72 = .ok (.istore_n 3, 1) := by decide +kernel
theorem dX6_carry_73 : decode cX6_carry 73 = .ok (.iload 5, 2) := by decide +kernel
theorem dX6_carry_75 : decode cX6_carry 75 = .ok (.iconst 3, 1) := by decide +kernel
theorem dX6_carry_76 : decode cX6_carry 76 = .ok (.if_icmp .eq 33, 3) := by decide +kernel
theorem dX6_carry_79 : decode cX6_carry 79 = .ok (.aload_n 2, 1) := by decide +kernel
theorem dX6_carry_80 : decode cX6_carry 80 = .ok (.iload 5, 2) := by decide +kernel
theorem dX6_carry_82 : decode cX6_carry 82 = .ok (.iconst 2, 1) := by decide +kernel
theorem dX6_carry_83 : decode cX6_carry 83 = .ok (.if_icmp .ne 17, 3) := by decide +kernel
theorem dX6_carry_100 : decode cX6_carry 100 = .ok (.aload_n 1, 1) := by decide +kernel
theorem dX6_carry_101 : decode cX6_carry 101 = .ok (.iload 4, 2) := by decide +kernel
theorem dX6_carry_103 : decode cX6_carry 103 = .ok (.invokevirtual 68, 3) := by decide +kernel
theorem dX6_carry_106 : decode cX6_carry 106 = .ok (.invokevirtual 72, 3) := by decide +kernel
theorem dX6_carry_109 : decode cX6_carry 109 = .ok (.iinc 4 1, 3) := by decide +kernel
theorem dX6_carry_112 : decode cX6_carry 112 = .ok (.goto (-102), 3) := by decide +kernel
theorem dX6_carry_115 : decode cX6_carry 115 = .ok (.aload_n 2, 1) := by decide +kernel
theorem dX6_carry_116 : decode cX6_carry 116 = .ok (.invokevirtual 61, 3) := by decide +kernel
theorem dX6_carry_119 : decode cX6_carry 119 = .ok (.ifCond .ne 5, 3) := by decide +kernel
theorem dX6_carry_122 : decode cX6_carry 122 = .ok (.iconst 3, 1) := by decide +kernel
theorem dX6_carry_123 : decode cX6_carry 123 = .ok (.ireturn, 1) := by decide +kernel
theorem dX6_carry_124 : decode cX6_carry 124 = .ok (.aload_n 2, 1) := by decide +kernel
theorem dX6_carry_125 : decode cX6_carry 125 = .ok (.invokevirtual 61, 3) := by decide +kernel
theorem dX6_carry_128 : decode cX6_carry 128 = .ok (.aload_n 1, 1) := by decide +kernel
theorem dX6_carry_129 : decode cX6_carry 129 = .ok (.invokevirtual 61, 3) := by decide +kernel
theorem dX6_carry_132 : decode cX6_carry 132 = .ok (.if_icmp .ge 5, 3) := by decide +kernel
theorem dX6_carry_135 : decode cX6_carry 135 = .ok (.iconst 2, 1) := by decide +kernel
theorem dX6_carry_136 : decode cX6_carry 136 = .ok (.ireturn, 1) := by decide +kernel
theorem dX6_carry_137 : decode cX6_carry 137 = .ok (.iload_n 3, 1) := by decide +kernel
theorem dX6_carry_138 : decode cX6_carry 138 = .ok (.ifCond .eq 7, 3) := by decide +kernel
theorem dX6_carry_141 : decode cX6_carry 141 = .ok (.iconst 1, 1) := by decide +kernel
theorem dX6_carry_142 : decode cX6_carry 142 = .ok (.goto 4, 3) := by decide +kernel
theorem dX6_carry_145 : decode cX6_carry 145 = .ok (.iconst 0, 1) := by decide +kernel
theorem dX6_carry_146 : decode cX6_carry 146 = .ok (.ireturn, 1) := by decide +kernel
set_option maxRecDepth 100000 in
set_option maxHeartbeats 4000000 in
theorem c_X6_carry_w {hp : List gA} {w R L A m rb ab nb rc ac nc : Nat} {l lc : List Int32} (H : gWire hp w (nI R) (nI L) (nI A) m) (HB : gRw hp rb ab nb l) (HC : gRw hp rc ac nc lc) (hln : l.length ≤ nc) (hl1 : 1 ≤ l.length) (hL : L + 4 * l.length + 8 < 2 ^ 30) (hR : R ≤ 3) (d1 : rb < w ∨ w + 4 ≤ rb) (d2 : ab < w ∨ w + 4 ≤ ab) (d3 : rc < w ∨ w + 4 ≤ rc) (d4 : ac < w ∨ w + 4 ≤ ac) (e1 : rb ≠ rc) (e2 : rb ≠ ac) (e3 : ab ≠ rc) (e4 : ab ≠ ac) : gM yX6_carry cX6_carry 7 ((some .int)) 3 103 [.ref w, .ref rb, .ref rc] (hp) (0) (0) (fun v h => ∃ x, v = some (.int x) ∧ ∃ (L1 A1 m1 : Nat) (l1 : List Int32), gWire h w (nI R) (nI L1) (nI A1) m1 ∧ gRw h rc ac nc l1 ∧ A1 + L + l.length = A + L1 ∧ L1 ≤ L + 4 * l.length ∧ m1 ≤ m ∧ (x = 0 ∧ l1 = l ∨ x = 1 ∧ l1 = l ∧ m1 < m ∨ (x = 2 ∨ x = 3) ∧ m1 < m) ∧ gFC hp h w rc ac) := by
  refine gM_of (ls0 := [some (.ref w), some (.ref rb), some (.ref rc), none, none, none, none]) (by decide +kernel) (Nat.le_of_ble_eq_true rfl) rfl fun X C E => ?_
  have LL : ∀ d i : Nat, i + d = l.length → ∀ (h1 : List gA) (L1 A1 m1 : Nat) (l1 : List Int32) (sp : Int32) (x5 x6 : Option Value), gWire h1 w (nI R) (nI L1) (nI A1) m1 → gRw h1 rc ac nc l1 → A1 + L + i = A + L1 → L1 ≤ L + 4 * i → m1 ≤ m → (l1 = l.take i ∨ (l1.length < i ∧ m1 < m)) → (sp = 0 ∨ sp = 1 ∧ m1 < m) → gFC hp h1 w rc ac → gG X 10 [some (.ref w), some (.ref rb), some (.ref rc), some (.int sp), some (.int (nI i)), x5, x6] [] h1 0 0 := by
    intro d
    induction d with
    | zero =>
      intro i hi h1 L1 A1 m1 l1 sp x5 x6 HW HC1 hA1 hL1 hm1 hd hs fr
      obtain rfl : i = l.length := by omega
      have HB1 : gRw h1 rb ab nb l := HB.kept (fr rb d1 e1 e2) (fr ab d2 e3 e4)
      have hlt1 : l1.length < 2 ^ 31 := by have := HC1.le; omega
      have hlt : l.length < 2 ^ 31 := by have := HB.le; omega
      rcases hd with hd | ⟨hd, hmm⟩
      ·
        rw [List.take_of_length_le (Nat.le_refl _)] at hd
        subst hd
        rcases hs with hs | ⟨hs, hmm⟩
        ·
          subst hs
          refine g_iload (q := 12) C dX6_carry_10 rfl rfl ?_
          refine g_aload_n (q := 13) C dX6_carry_12 rfl rfl ?_
          refine g_callVi (q := 16) (As := []) C gyX4_size gvX4_size t_755 (c_X4_size (gRw.obj HB1)) dX6_carry_13 rfl (gRw.obj HB1) rfl rfl rfl (Nat.le_of_ble_eq_true rfl) (Nat.le_of_ble_eq_true rfl) (Nat.le_of_ble_eq_true rfl) (Nat.le_of_ble_eq_true rfl) (Nat.le_of_ble_eq_true rfl) rfl ?_
          refine g_icmp_ge_t (t := 115) C dX6_carry_16 (by decide) (nI_le (Nat.le_refl _) hlt1) ?_
          refine g_aload_n (q := 116) C dX6_carry_115 rfl rfl ?_
          refine g_callVi (q := 119) (As := []) C gyX4_size gvX4_size t_755 (c_X4_size (gRw.obj HC1)) dX6_carry_116 rfl (gRw.obj HC1) rfl rfl rfl (Nat.le_of_ble_eq_true rfl) (Nat.le_of_ble_eq_true rfl) (Nat.le_of_ble_eq_true rfl) (Nat.le_of_ble_eq_true rfl) (Nat.le_of_ble_eq_true rfl) rfl ?_
          refine g_if_ne_t (t := 124) C dX6_carry_119 (by decide) (nI_ne0 hl1 hlt1) ?_
          refine g_aload_n (q := 125) C dX6_carry_124 rfl rfl ?_
          refine g_callVi (q := 128) (As := []) C gyX4_size gvX4_size t_755 (c_X4_size (gRw.obj HC1)) dX6_carry_125 rfl (gRw.obj HC1) rfl rfl rfl (Nat.le_of_ble_eq_true rfl) (Nat.le_of_ble_eq_true rfl) (Nat.le_of_ble_eq_true rfl) (Nat.le_of_ble_eq_true rfl) (Nat.le_of_ble_eq_true rfl) rfl ?_
          refine g_aload_n (q := 129) C dX6_carry_128 rfl rfl ?_
          refine g_callVi (q := 132) (As := []) C gyX4_size gvX4_size t_755 (c_X4_size (gRw.obj HB1)) dX6_carry_129 rfl (gRw.obj HB1) rfl rfl rfl (Nat.le_of_ble_eq_true rfl) (Nat.le_of_ble_eq_true rfl) (Nat.le_of_ble_eq_true rfl) (Nat.le_of_ble_eq_true rfl) (Nat.le_of_ble_eq_true rfl) rfl ?_
          refine g_icmp_ge_t (t := 137) C dX6_carry_132 (by decide) (nI_le (Nat.le_refl _) hlt1) ?_
          refine g_iload_n (q := 138) C dX6_carry_137 rfl rfl ?_
          refine g_if_eq_t (t := 145) C dX6_carry_138 (by decide) (by decide) ?_
          refine g_iconst (v := 0) (q := 146) C dX6_carry_145 (by decide) rfl ?_
          exact E.1 _ _ _ _ _ _ _ dX6_carry_146 rfl rfl (Nat.le_of_ble_eq_true rfl) (Nat.le_of_ble_eq_true rfl) ⟨_, rfl, ⟨L1, A1, m1, l1, HW, HC1, hA1, hL1, hm1, Or.inl ⟨rfl, rfl⟩, fr⟩⟩
        ·
          subst hs
          refine g_iload (q := 12) C dX6_carry_10 rfl rfl ?_
          refine g_aload_n (q := 13) C dX6_carry_12 rfl rfl ?_
          refine g_callVi (q := 16) (As := []) C gyX4_size gvX4_size t_755 (c_X4_size (gRw.obj HB1)) dX6_carry_13 rfl (gRw.obj HB1) rfl rfl rfl (Nat.le_of_ble_eq_true rfl) (Nat.le_of_ble_eq_true rfl) (Nat.le_of_ble_eq_true rfl) (Nat.le_of_ble_eq_true rfl) (Nat.le_of_ble_eq_true rfl) rfl ?_
          refine g_icmp_ge_t (t := 115) C dX6_carry_16 (by decide) (nI_le (Nat.le_refl _) hlt1) ?_
          refine g_aload_n (q := 116) C dX6_carry_115 rfl rfl ?_
          refine g_callVi (q := 119) (As := []) C gyX4_size gvX4_size t_755 (c_X4_size (gRw.obj HC1)) dX6_carry_116 rfl (gRw.obj HC1) rfl rfl rfl (Nat.le_of_ble_eq_true rfl) (Nat.le_of_ble_eq_true rfl) (Nat.le_of_ble_eq_true rfl) (Nat.le_of_ble_eq_true rfl) (Nat.le_of_ble_eq_true rfl) rfl ?_
          refine g_if_ne_t (t := 124) C dX6_carry_119 (by decide) (nI_ne0 hl1 hlt1) ?_
          refine g_aload_n (q := 125) C dX6_carry_124 rfl rfl ?_
          refine g_callVi (q := 128) (As := []) C gyX4_size gvX4_size t_755 (c_X4_size (gRw.obj HC1)) dX6_carry_125 rfl (gRw.obj HC1) rfl rfl rfl (Nat.le_of_ble_eq_true rfl) (Nat.le_of_ble_eq_true rfl) (Nat.le_of_ble_eq_true rfl) (Nat.le_of_ble_eq_true rfl) (Nat.le_of_ble_eq_true rfl) rfl ?_
          refine g_aload_n (q := 129) C dX6_carry_128 rfl rfl ?_
          refine g_callVi (q := 132) (As := []) C gyX4_size gvX4_size t_755 (c_X4_size (gRw.obj HB1)) dX6_carry_129 rfl (gRw.obj HB1) rfl rfl rfl (Nat.le_of_ble_eq_true rfl) (Nat.le_of_ble_eq_true rfl) (Nat.le_of_ble_eq_true rfl) (Nat.le_of_ble_eq_true rfl) (Nat.le_of_ble_eq_true rfl) rfl ?_
          refine g_icmp_ge_t (t := 137) C dX6_carry_132 (by decide) (nI_le (Nat.le_refl _) hlt1) ?_
          refine g_iload_n (q := 138) C dX6_carry_137 rfl rfl ?_
          refine g_if_eq_f (t := 145) (q := 141) C dX6_carry_138 (by decide) rfl (by decide) ?_
          refine g_iconst (v := 1) (q := 142) C dX6_carry_141 (by decide) rfl ?_
          refine g_goto (q := 146) C dX6_carry_142 (by decide) ?_
          exact E.1 _ _ _ _ _ _ _ dX6_carry_146 rfl rfl (Nat.le_of_ble_eq_true rfl) (Nat.le_of_ble_eq_true rfl) ⟨_, rfl, ⟨L1, A1, m1, l1, HW, HC1, hA1, hL1, hm1, Or.inr (Or.inl ⟨rfl, rfl, hmm⟩), fr⟩⟩
      ·
        by_cases h0 : l1.length = 0
        ·
          refine g_iload (q := 12) C dX6_carry_10 rfl rfl ?_
          refine g_aload_n (q := 13) C dX6_carry_12 rfl rfl ?_
          refine g_callVi (q := 16) (As := []) C gyX4_size gvX4_size t_755 (c_X4_size (gRw.obj HB1)) dX6_carry_13 rfl (gRw.obj HB1) rfl rfl rfl (Nat.le_of_ble_eq_true rfl) (Nat.le_of_ble_eq_true rfl) (Nat.le_of_ble_eq_true rfl) (Nat.le_of_ble_eq_true rfl) (Nat.le_of_ble_eq_true rfl) rfl ?_
          refine g_icmp_ge_t (t := 115) C dX6_carry_16 (by decide) (nI_le (Nat.le_refl _) hlt) ?_
          refine g_aload_n (q := 116) C dX6_carry_115 rfl rfl ?_
          refine g_callVi (q := 119) (As := []) C gyX4_size gvX4_size t_755 (c_X4_size (gRw.obj HC1)) dX6_carry_116 rfl (gRw.obj HC1) rfl rfl rfl (Nat.le_of_ble_eq_true rfl) (Nat.le_of_ble_eq_true rfl) (Nat.le_of_ble_eq_true rfl) (Nat.le_of_ble_eq_true rfl) (Nat.le_of_ble_eq_true rfl) rfl ?_
          refine g_if_ne_f (t := 124) (q := 122) C dX6_carry_119 (by decide) rfl (by rw [h0]; rfl) ?_
          refine g_iconst (v := 3) (q := 123) C dX6_carry_122 (by decide) rfl ?_
          exact E.1 _ _ _ _ _ _ _ dX6_carry_123 rfl rfl (Nat.le_of_ble_eq_true rfl) (Nat.le_of_ble_eq_true rfl) ⟨_, rfl, ⟨L1, A1, m1, l1, HW, HC1, hA1, hL1, hm1, Or.inr (Or.inr ⟨Or.inr rfl, hmm⟩), fr⟩⟩
        ·
          refine g_iload (q := 12) C dX6_carry_10 rfl rfl ?_
          refine g_aload_n (q := 13) C dX6_carry_12 rfl rfl ?_
          refine g_callVi (q := 16) (As := []) C gyX4_size gvX4_size t_755 (c_X4_size (gRw.obj HB1)) dX6_carry_13 rfl (gRw.obj HB1) rfl rfl rfl (Nat.le_of_ble_eq_true rfl) (Nat.le_of_ble_eq_true rfl) (Nat.le_of_ble_eq_true rfl) (Nat.le_of_ble_eq_true rfl) (Nat.le_of_ble_eq_true rfl) rfl ?_
          refine g_icmp_ge_t (t := 115) C dX6_carry_16 (by decide) (nI_le (Nat.le_refl _) hlt) ?_
          refine g_aload_n (q := 116) C dX6_carry_115 rfl rfl ?_
          refine g_callVi (q := 119) (As := []) C gyX4_size gvX4_size t_755 (c_X4_size (gRw.obj HC1)) dX6_carry_116 rfl (gRw.obj HC1) rfl rfl rfl (Nat.le_of_ble_eq_true rfl) (Nat.le_of_ble_eq_true rfl) (Nat.le_of_ble_eq_true rfl) (Nat.le_of_ble_eq_true rfl) (Nat.le_of_ble_eq_true rfl) rfl ?_
          refine g_if_ne_t (t := 124) C dX6_carry_119 (by decide) (nI_ne0 (by omega) hlt1) ?_
          refine g_aload_n (q := 125) C dX6_carry_124 rfl rfl ?_
          refine g_callVi (q := 128) (As := []) C gyX4_size gvX4_size t_755 (c_X4_size (gRw.obj HC1)) dX6_carry_125 rfl (gRw.obj HC1) rfl rfl rfl (Nat.le_of_ble_eq_true rfl) (Nat.le_of_ble_eq_true rfl) (Nat.le_of_ble_eq_true rfl) (Nat.le_of_ble_eq_true rfl) (Nat.le_of_ble_eq_true rfl) rfl ?_
          refine g_aload_n (q := 129) C dX6_carry_128 rfl rfl ?_
          refine g_callVi (q := 132) (As := []) C gyX4_size gvX4_size t_755 (c_X4_size (gRw.obj HB1)) dX6_carry_129 rfl (gRw.obj HB1) rfl rfl rfl (Nat.le_of_ble_eq_true rfl) (Nat.le_of_ble_eq_true rfl) (Nat.le_of_ble_eq_true rfl) (Nat.le_of_ble_eq_true rfl) (Nat.le_of_ble_eq_true rfl) rfl ?_
          refine g_icmp_ge_f (t := 137) (q := 135) C dX6_carry_132 (by decide) rfl (fun h9 => nI_ge hd hlt h9) ?_
          refine g_iconst (v := 2) (q := 136) C dX6_carry_135 (by decide) rfl ?_
          exact E.1 _ _ _ _ _ _ _ dX6_carry_136 rfl rfl (Nat.le_of_ble_eq_true rfl) (Nat.le_of_ble_eq_true rfl) ⟨_, rfl, ⟨L1, A1, m1, l1, HW, HC1, hA1, hL1, hm1, Or.inr (Or.inr ⟨Or.inl rfl, hmm⟩), fr⟩⟩
    | succ d ih =>
      intro i hi h1 L1 A1 m1 l1 sp x5 x6 HW HC1 hA1 hL1 hm1 hd hs fr
      have hlt : l.length < 2 ^ 31 := by have := HB.le; omega
      have hle1 : l1.length ≤ i := hd.elim (fun h => by rw [h, List.length_take]; omega) (fun h => Nat.le_of_lt h.1)
      have K : ∀ (h2 : List gA) (L2 A2 m2 : Nat) (x : Int32) (x6 : Option Value), gWire h2 w (nI R) (nI L2) (nI A2) m2 → gRw h2 rc ac nc l1 → A2 + L + (i + 1) = A + L2 → L2 ≤ L + 4 * (i + 1) → m2 ≤ m1 → (x = 0 ∨ (x = 1 ∨ x = 3) ∧ m2 < m1) → gFC hp h2 w rc ac → gG X 65 [some (.ref w), some (.ref rb), some (.ref rc), some (.int sp), some (.int (nI i)), some (.int x), x6] [] h2 0 0 := by
        intro h2 L2 A2 m2 x x6 HW2 HC2 hA2 hL2 hm2 hx fr2
        have HB2 : gRw h2 rb ab nb l := HB.kept (fr2 rb d1 e1 e2) (fr2 ab d2 e3 e4)
        have hs2 : sp = 0 ∨ sp = 1 ∧ m2 < m := hs.elim Or.inl (fun h => Or.inr ⟨h.1, Nat.lt_of_le_of_lt hm2 h.2⟩)
        rcases hx with hx | ⟨hx | hx, hxm⟩
        ·
          subst hx
          refine g_iload (q := 67) C dX6_carry_65 rfl rfl ?_
          refine g_iconst (v := 1) (q := 68) C dX6_carry_67 (by decide) rfl ?_
          refine g_icmp_ne_t (t := 73) C dX6_carry_68 (by decide) (by decide) ?_
          refine g_iload (q := 75) C dX6_carry_73 rfl rfl ?_
          refine g_iconst (v := 3) (q := 76) C dX6_carry_75 (by decide) rfl ?_
          refine g_icmp_eq_f (t := 109) (q := 79) C dX6_carry_76 (by decide) rfl (by decide) ?_
          refine g_aload_n (q := 80) C dX6_carry_79 rfl rfl ?_
          refine g_iload (q := 82) C dX6_carry_80 rfl rfl ?_
          refine g_iconst (v := 2) (q := 83) C dX6_carry_82 (by decide) rfl ?_
          refine g_icmp_ne_t (t := 100) C dX6_carry_83 (by decide) (by decide) ?_
          refine g_aload_n (q := 101) C dX6_carry_100 rfl rfl ?_
          refine g_iload (q := 103) C dX6_carry_101 rfl rfl ?_
          refine g_callVi (q := 106) (As := [.int ((nI i))]) C gyX4_at gvX4_at t_764 (c_X4_at_w HB2) dX6_carry_103 rfl (gRw.obj HB2) rfl rfl rfl (Nat.le_of_ble_eq_true rfl) (Nat.le_of_ble_eq_true rfl) (Nat.le_of_ble_eq_true rfl) (Nat.le_of_ble_eq_true rfl) (Nat.le_of_ble_eq_true rfl) rfl ?_
          refine g_callVvp (q := 109) (As := [.int _]) C gyX4_add gvX4_add t_765 (c_X4_add_w HC2 (by omega)) dX6_carry_106 rfl (gRw.obj HC2) rfl rfl rfl (Nat.le_of_ble_eq_true rfl) (Nat.le_of_ble_eq_true rfl) (Nat.le_of_ble_eq_true rfl) (Nat.le_of_ble_eq_true rfl) (Nat.le_of_ble_eq_true rfl) rfl (fun h3 z3 => ?_)
          obtain ⟨HC3, fr3⟩ := z3
          refine g_iinc (v := (nI (i + 1))) (q := 112) C dX6_carry_109 rfl (nI_1 i) (by simp only [gset]; rfl) rfl ?_
          refine g_goto (q := 10) C dX6_carry_112 (by decide) ?_
          exact ih (i + 1) (by omega) h3 L2 A2 m2 _ _ _ _ (HW2.kept (fun k ha hb => fr3 k (by omega) (by omega))) HC3 hA2 hL2 (by omega) (hd.elim (fun h => Or.inl (by rw [h, gtake1 (by omega) hlt])) (fun h => Or.inr ⟨by rw [List.length_append]; simp; omega, Nat.lt_of_le_of_lt hm2 h.2⟩)) hs2 (fr2.r fr3)
        ·
          subst hx
          refine g_iload (q := 67) C dX6_carry_65 rfl rfl ?_
          refine g_iconst (v := 1) (q := 68) C dX6_carry_67 (by decide) rfl ?_
          refine g_icmp_ne_f (t := 73) (q := 71) C dX6_carry_68 (by decide) rfl (by decide) ?_
          refine g_iconst (v := 1) (q := 72) C dX6_carry_71 (by decide) rfl ?_
          refine g_istore_n (q := 73) C dX6_carry_72 (Nat.le_of_ble_eq_true rfl) (by simp only [gset]; rfl) rfl ?_
          refine g_iload (q := 75) C dX6_carry_73 rfl rfl ?_
          refine g_iconst (v := 3) (q := 76) C dX6_carry_75 (by decide) rfl ?_
          refine g_icmp_eq_f (t := 109) (q := 79) C dX6_carry_76 (by decide) rfl (by decide) ?_
          refine g_aload_n (q := 80) C dX6_carry_79 rfl rfl ?_
          refine g_iload (q := 82) C dX6_carry_80 rfl rfl ?_
          refine g_iconst (v := 2) (q := 83) C dX6_carry_82 (by decide) rfl ?_
          refine g_icmp_ne_t (t := 100) C dX6_carry_83 (by decide) (by decide) ?_
          refine g_aload_n (q := 101) C dX6_carry_100 rfl rfl ?_
          refine g_iload (q := 103) C dX6_carry_101 rfl rfl ?_
          refine g_callVi (q := 106) (As := [.int ((nI i))]) C gyX4_at gvX4_at t_764 (c_X4_at_w HB2) dX6_carry_103 rfl (gRw.obj HB2) rfl rfl rfl (Nat.le_of_ble_eq_true rfl) (Nat.le_of_ble_eq_true rfl) (Nat.le_of_ble_eq_true rfl) (Nat.le_of_ble_eq_true rfl) (Nat.le_of_ble_eq_true rfl) rfl ?_
          refine g_callVvp (q := 109) (As := [.int _]) C gyX4_add gvX4_add t_765 (c_X4_add_w HC2 (by omega)) dX6_carry_106 rfl (gRw.obj HC2) rfl rfl rfl (Nat.le_of_ble_eq_true rfl) (Nat.le_of_ble_eq_true rfl) (Nat.le_of_ble_eq_true rfl) (Nat.le_of_ble_eq_true rfl) (Nat.le_of_ble_eq_true rfl) rfl (fun h3 z3 => ?_)
          obtain ⟨HC3, fr3⟩ := z3
          refine g_iinc (v := (nI (i + 1))) (q := 112) C dX6_carry_109 rfl (nI_1 i) (by simp only [gset]; rfl) rfl ?_
          refine g_goto (q := 10) C dX6_carry_112 (by decide) ?_
          exact ih (i + 1) (by omega) h3 L2 A2 m2 _ _ _ _ (HW2.kept (fun k ha hb => fr3 k (by omega) (by omega))) HC3 hA2 hL2 (by omega) (hd.elim (fun h => Or.inl (by rw [h, gtake1 (by omega) hlt])) (fun h => Or.inr ⟨by rw [List.length_append]; simp; omega, Nat.lt_of_le_of_lt hm2 h.2⟩)) (Or.inr ⟨rfl, by omega⟩) (fr2.r fr3)
        ·
          subst hx
          refine g_iload (q := 67) C dX6_carry_65 rfl rfl ?_
          refine g_iconst (v := 1) (q := 68) C dX6_carry_67 (by decide) rfl ?_
          refine g_icmp_ne_t (t := 73) C dX6_carry_68 (by decide) (by decide) ?_
          refine g_iload (q := 75) C dX6_carry_73 rfl rfl ?_
          refine g_iconst (v := 3) (q := 76) C dX6_carry_75 (by decide) rfl ?_
          refine g_icmp_eq_t (t := 109) C dX6_carry_76 (by decide) (by decide) ?_
          refine g_iinc (v := (nI (i + 1))) (q := 112) C dX6_carry_109 rfl (nI_1 i) (by simp only [gset]; rfl) rfl ?_
          refine g_goto (q := 10) C dX6_carry_112 (by decide) ?_
          exact ih (i + 1) (by omega) h2 L2 A2 m2 l1 sp _ _ HW2 HC2 hA2 hL2 (by omega) (Or.inr ⟨by omega, by omega⟩) hs2 fr2
      have J : ∀ e j : Nat, j + e = R → ∀ (h2 : List gA) (L2 A2 m2 : Nat) (x : Int32), gWire h2 w (nI R) (nI L2) (nI A2) m2 → gRw h2 rc ac nc l1 → L2 = L1 + 1 + j → A2 = A1 + j → m2 ≤ m1 → (x = 0 ∨ (x = 1 ∨ x = 3) ∧ m2 < m1) → gFC hp h2 w rc ac → gG X 28 [some (.ref w), some (.ref rb), some (.ref rc), some (.int sp), some (.int (nI i)), some (.int x), some (.int (nI j))] [] h2 0 0 := by
        intro e
        induction e with
        | zero =>
          intro j hj h2 L2 A2 m2 x HW2 HC2 hL2 hA2 hm2 hx fr2
          obtain ⟨fl, fk, fb, pk, bn, hw, hl, hk, hb, hm, hkk⟩ := id HW2
          obtain rfl : j = R := by omega
          refine g_iload (q := 30) C dX6_carry_28 rfl rfl ?_
          refine g_aload_n (q := 31) C dX6_carry_30 rfl rfl ?_
          refine g_getfield (q := 34) C fX6_9 dX6_carry_31 rfl hw rfl ?_
          refine g_icmp_ge_t (t := 65) C dX6_carry_34 (by decide) (nI_le (Nat.le_refl _) (by omega)) ?_
          exact K h2 L2 A2 m2 _ _ HW2 HC2 (by omega) (by omega) hm2 hx fr2
        | succ e ihe =>
          intro j hj h2 L2 A2 m2 x HW2 HC2 hL2 hA2 hm2 hx fr2
          obtain ⟨fl, fk, fb, pk, bn, hw, hl, hk, hb, hm, hkk⟩ := id HW2
          by_cases hx1 : x = 1
          ·
            refine g_iload (q := 30) C dX6_carry_28 rfl rfl ?_
            refine g_aload_n (q := 31) C dX6_carry_30 rfl rfl ?_
            refine g_getfield (q := 34) C fX6_9 dX6_carry_31 rfl hw rfl ?_
            refine g_icmp_ge_f (t := 65) (q := 37) C dX6_carry_34 (by decide) rfl (fun h9 => nI_ge (show j < R by omega) (by omega) h9) ?_
            refine g_iload (q := 39) C dX6_carry_37 rfl rfl ?_
            refine g_iconst (v := 1) (q := 40) C dX6_carry_39 (by decide) rfl ?_
            refine g_icmp_ne_f (t := 65) (q := 43) C dX6_carry_40 (by decide) rfl hx1 ?_
            refine g_aload_n (q := 44) C dX6_carry_43 rfl rfl ?_
            refine g_dup (q := 45) C dX6_carry_44 rfl rfl ?_
            refine g_getfield (q := 48) C fX6_18 dX6_carry_45 rfl hw rfl ?_
            refine g_iconst (v := 1) (q := 49) C dX6_carry_48 (by decide) rfl ?_
            refine g_iadd (q := 50) C dX6_carry_49 rfl ?_
            refine g_putfield (q := 53) C fX6_18 dX6_carry_50 rfl hw (Nat.le_of_ble_eq_true rfl) (Or.inl rfl) rfl rfl (by intro z h; cases h) ?_
            refine g_aload_n (q := 54) C dX6_carry_53 rfl rfl ?_
            refine g_callVip (q := 57) (As := []) C gyX6_sendLetter gvX6_sendLetter t_756 (c_X6_sendLetter_w (H := (⟨fl, fk, fb, pk, bn, (gset_self hw), (gset_other hl (by omega)), (gset_other hk (by omega)), (gset_other hb (by omega)), hm, hkk⟩ : gWire _ w (nI R) (nI L2) (nI A2 + 1) m2)) (hle := gnm1 (by omega))) dX6_carry_54 rfl (gset_self hw) rfl rfl rfl (Nat.le_of_ble_eq_true rfl) (Nat.le_of_ble_eq_true rfl) (Nat.le_of_ble_eq_true rfl) (Nat.le_of_ble_eq_true rfl) (Nat.le_of_ble_eq_true rfl) rfl (fun y h3 z3 => ?_)
            obtain ⟨⟨m3, HW3, hy⟩, fr3⟩ := z3
            rw [nI_1, nI_1] at HW3
            have HC3 : gRw h3 rc ac nc l1 := HC2.kept ((gFW.trans gFW.set fr3) rc d3) ((gFW.trans gFW.set fr3) ac d4)
            refine g_istore (q := 59) C dX6_carry_57 (Nat.le_of_ble_eq_true rfl) (by simp only [gset]; rfl) rfl ?_
            refine g_iinc (v := (nI (j + 1))) (q := 62) C dX6_carry_59 rfl (nI_1 j) (by simp only [gset]; rfl) rfl ?_
            refine g_goto (q := 28) C dX6_carry_62 (by decide) ?_
            exact ihe (j + 1) (by omega) h3 (L2 + 1) (A2 + 1) m3 y HW3 HC3 (by omega) (by omega) (by rcases hy with h9 | h9 <;> (have := h9.2; omega)) (hy.elim (fun h9 => Or.inl h9.1) (fun h9 => Or.inr ⟨h9.1, by have := h9.2; omega⟩)) (fr2.w (gFW.trans gFW.set fr3))
          ·
            refine g_iload (q := 30) C dX6_carry_28 rfl rfl ?_
            refine g_aload_n (q := 31) C dX6_carry_30 rfl rfl ?_
            refine g_getfield (q := 34) C fX6_9 dX6_carry_31 rfl hw rfl ?_
            refine g_icmp_ge_f (t := 65) (q := 37) C dX6_carry_34 (by decide) rfl (fun h9 => nI_ge (show j < R by omega) (by omega) h9) ?_
            refine g_iload (q := 39) C dX6_carry_37 rfl rfl ?_
            refine g_iconst (v := 1) (q := 40) C dX6_carry_39 (by decide) rfl ?_
            refine g_icmp_ne_t (t := 65) C dX6_carry_40 (by decide) hx1 ?_
            exact K h2 L2 A2 m2 _ _ HW2 HC2 (by omega) (by omega) hm2 hx fr2
      have HB1 : gRw h1 rb ab nb l := HB.kept (fr rb d1 e1 e2) (fr ab d2 e3 e4)
      have HW1 := HW
      obtain ⟨fl, fk, fb, pk, bn, hw, hl, hk, hb, hm, hkk⟩ := HW1
      refine g_iload (q := 12) C dX6_carry_10 rfl rfl ?_
      refine g_aload_n (q := 13) C dX6_carry_12 rfl rfl ?_
      refine g_callVi (q := 16) (As := []) C gyX4_size gvX4_size t_755 (c_X4_size (gRw.obj HB1)) dX6_carry_13 rfl (gRw.obj HB1) rfl rfl rfl (Nat.le_of_ble_eq_true rfl) (Nat.le_of_ble_eq_true rfl) (Nat.le_of_ble_eq_true rfl) (Nat.le_of_ble_eq_true rfl) (Nat.le_of_ble_eq_true rfl) rfl ?_
      refine g_icmp_ge_f (t := 115) (q := 19) C dX6_carry_16 (by decide) rfl (fun h9 => nI_ge (show i < l.length by omega) hlt h9) ?_
      refine g_aload_n (q := 20) C dX6_carry_19 rfl rfl ?_
      refine g_callVip (q := 23) (As := []) C gyX6_sendLetter gvX6_sendLetter t_756 (c_X6_sendLetter_w (H := HW) (hle := gnm1 (by omega))) dX6_carry_20 rfl hw rfl rfl rfl (Nat.le_of_ble_eq_true rfl) (Nat.le_of_ble_eq_true rfl) (Nat.le_of_ble_eq_true rfl) (Nat.le_of_ble_eq_true rfl) (Nat.le_of_ble_eq_true rfl) rfl (fun y h3 z3 => ?_)
      obtain ⟨⟨m3, HW3, hy⟩, fr3⟩ := z3
      rw [nI_1] at HW3
      have HC3 : gRw h3 rc ac nc l1 := HC1.kept (fr3 rc d3) (fr3 ac d4)
      refine g_istore (q := 25) C dX6_carry_23 (Nat.le_of_ble_eq_true rfl) (by simp only [gset]; rfl) rfl ?_
      refine g_iconst (v := 0) (q := 26) C dX6_carry_25 (by decide) rfl ?_
      refine g_istore (q := 28) C dX6_carry_26 (Nat.le_of_ble_eq_true rfl) (by simp only [gset]; rfl) rfl ?_
      exact J R 0 (by omega) h3 (L1 + 1) A1 m3 y HW3 HC3 (by omega) (by omega) (by rcases hy with h9 | h9 <;> (have := h9.2; omega)) (hy.elim (fun h9 => Or.inl h9.1) (fun h9 => Or.inr ⟨h9.1, by have := h9.2; omega⟩)) (fr.w fr3)
  refine g_aload_n (q := 1) C dX6_carry_0 rfl rfl ?_
  refine g_iconst (v := 0) (q := 2) C dX6_carry_1 (by decide) rfl ?_
  refine g_callVvp (q := 5) (As := [.int 0]) C gyX4_keep gvX4_keep t_754 (c_X4_keep_w (k := 0) HC (by decide)) dX6_carry_2 rfl (gRw.obj HC) rfl rfl rfl (Nat.le_of_ble_eq_true rfl) (Nat.le_of_ble_eq_true rfl) (Nat.le_of_ble_eq_true rfl) (Nat.le_of_ble_eq_true rfl) (Nat.le_of_ble_eq_true rfl) rfl (fun h1 z1 => ?_)
  obtain ⟨HC1, fr1⟩ := z1
  rw [List.take_zero] at HC1
  refine g_iconst (v := 0) (q := 6) C dX6_carry_5 (by decide) rfl ?_
  refine g_istore_n (q := 7) C dX6_carry_6 (Nat.le_of_ble_eq_true rfl) (by simp only [gset]; rfl) rfl ?_
  refine g_iconst (v := 0) (q := 8) C dX6_carry_7 (by decide) rfl ?_
  refine g_istore (q := 10) C dX6_carry_8 (Nat.le_of_ble_eq_true rfl) (by simp only [gset]; rfl) rfl ?_
  exact LL l.length 0 (by omega) h1 L A m [] 0 none none (H.kept (fun k ha hb => fr1 k (by omega) (by omega))) HC1 (by omega) (by omega) (Nat.le_refl _) (Or.inl (by rw [List.take_zero])) (Or.inl rfl) (gFC.rf.r fr1)
  
end
section
/-! end -/
theorem g_end0 : True := trivial
end
