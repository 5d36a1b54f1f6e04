section
-- ===== PART A: goes FIRST, ahead of the names: the tables' words, and 'selects' of the private methods out of them =====
/-- a private method of a class that the tables say can be made, by its rows of tables_1 -/
def lw_okq (q : MethodName × Nat) : Prop := (q.1.cls ≠ "java/lang/invoke/MethodHandle" ∧ q.1.cls ≠ "java/lang/invoke/VarHandle") ∧ Cond.instantiable q.1.cls q.2 ∈ tables_1 ∧ Cond.privateMethod q.1 ∈ tables_1 ∧ Cond.instanceMethod q.1 ∈ tables_1
theorem lw_p0 : lw_okq (⟨"CardLink$ResetAnswer", "clear", "()V"⟩, 11) := ⟨⟨by decide +kernel, by decide +kernel⟩, List.mem_of_getElem? (i := 290) (by decide +kernel), List.mem_of_getElem? (i := 362) (by decide +kernel), List.mem_of_getElem? (i := 363) (by decide +kernel)⟩
theorem lw_p1 : lw_okq (⟨"CardLink$ResetAnswer", "readHead", "(LCardLink$Row;)I"⟩, 11) := ⟨⟨by decide +kernel, by decide +kernel⟩, List.mem_of_getElem? (i := 290) (by decide +kernel), List.mem_of_getElem? (i := 373) (by decide +kernel), List.mem_of_getElem? (i := 374) (by decide +kernel)⟩
theorem lw_p2 : lw_okq (⟨"CardLink$ResetAnswer", "readGroups", "(LCardLink$Row;)I"⟩, 11) := ⟨⟨by decide +kernel, by decide +kernel⟩, List.mem_of_getElem? (i := 290) (by decide +kernel), List.mem_of_getElem? (i := 388) (by decide +kernel), List.mem_of_getElem? (i := 389) (by decide +kernel)⟩
theorem lw_p3 : lw_okq (⟨"CardLink$ResetAnswer", "readGroupByte", "(III)I"⟩, 11) := ⟨⟨by decide +kernel, by decide +kernel⟩, List.mem_of_getElem? (i := 290) (by decide +kernel), List.mem_of_getElem? (i := 392) (by decide +kernel), List.mem_of_getElem? (i := 393) (by decide +kernel)⟩
theorem lw_p4 : lw_okq (⟨"CardLink$ResetAnswer", "readTd", "(II)I"⟩, 11) := ⟨⟨by decide +kernel, by decide +kernel⟩, List.mem_of_getElem? (i := 290) (by decide +kernel), List.mem_of_getElem? (i := 396) (by decide +kernel), List.mem_of_getElem? (i := 397) (by decide +kernel)⟩
theorem lw_p5 : lw_okq (⟨"CardLink$ResetAnswer", "readFirstGroup", "(II)I"⟩, 11) := ⟨⟨by decide +kernel, by decide +kernel⟩, List.mem_of_getElem? (i := 290) (by decide +kernel), List.mem_of_getElem? (i := 400) (by decide +kernel), List.mem_of_getElem? (i := 401) (by decide +kernel)⟩
theorem lw_p6 : lw_okq (⟨"CardLink$ResetAnswer", "readLinkGroup", "(II)I"⟩, 11) := ⟨⟨by decide +kernel, by decide +kernel⟩, List.mem_of_getElem? (i := 290) (by decide +kernel), List.mem_of_getElem? (i := 414) (by decide +kernel), List.mem_of_getElem? (i := 415) (by decide +kernel)⟩
theorem lw_p7 : lw_okq (⟨"CardLink$ResetAnswer", "readTail", "(LCardLink$Row;I)I"⟩, 11) := ⟨⟨by decide +kernel, by decide +kernel⟩, List.mem_of_getElem? (i := 290) (by decide +kernel), List.mem_of_getElem? (i := 418) (by decide +kernel), List.mem_of_getElem? (i := 419) (by decide +kernel)⟩
theorem lw_p8 : lw_okq (⟨"CardLink", "mayStart", "()Z"⟩, 7) := ⟨⟨by decide +kernel, by decide +kernel⟩, List.mem_of_getElem? (i := 17) (by decide +kernel), List.mem_of_getElem? (i := 499) (by decide +kernel), List.mem_of_getElem? (i := 500) (by decide +kernel)⟩
theorem lw_p9 : lw_okq (⟨"CardLink$Line", "begin", "(I)V"⟩, 18) := ⟨⟨by decide +kernel, by decide +kernel⟩, List.mem_of_getElem? (i := 83) (by decide +kernel), List.mem_of_getElem? (i := 513) (by decide +kernel), List.mem_of_getElem? (i := 514) (by decide +kernel)⟩
theorem lw_p10 : lw_okq (⟨"CardLink$Wire", "makePlace", "(I)V"⟩, 10) := ⟨⟨by decide +kernel, by decide +kernel⟩, List.mem_of_getElem? (i := 154) (by decide +kernel), List.mem_of_getElem? (i := 542) (by decide +kernel), List.mem_of_getElem? (i := 543) (by decide +kernel)⟩
theorem lw_p11 : lw_okq (⟨"CardLink", "onWay", "()Z"⟩, 7) := ⟨⟨by decide +kernel, by decide +kernel⟩, List.mem_of_getElem? (i := 17) (by decide +kernel), List.mem_of_getElem? (i := 559) (by decide +kernel), List.mem_of_getElem? (i := 560) (by decide +kernel)⟩
theorem lw_p12 : lw_okq (⟨"CardLink$Line", "firstKind", "()I"⟩, 18) := ⟨⟨by decide +kernel, by decide +kernel⟩, List.mem_of_getElem? (i := 83) (by decide +kernel), List.mem_of_getElem? (i := 579) (by decide +kernel), List.mem_of_getElem? (i := 580) (by decide +kernel)⟩
theorem lw_p13 : lw_okq (⟨"CardLink$Line", "readerKind", "()I"⟩, 18) := ⟨⟨by decide +kernel, by decide +kernel⟩, List.mem_of_getElem? (i := 83) (by decide +kernel), List.mem_of_getElem? (i := 591) (by decide +kernel), List.mem_of_getElem? (i := 592) (by decide +kernel)⟩
theorem lw_p14 : lw_okq (⟨"CardLink$Line", "onBroken", "(LCardLink$Side;)I"⟩, 18) := ⟨⟨by decide +kernel, by decide +kernel⟩, List.mem_of_getElem? (i := 83) (by decide +kernel), List.mem_of_getElem? (i := 595) (by decide +kernel), List.mem_of_getElem? (i := 596) (by decide +kernel)⟩
theorem lw_p15 : lw_okq (⟨"CardLink$Line", "readerOnAnswer", "()I"⟩, 18) := ⟨⟨by decide +kernel, by decide +kernel⟩, List.mem_of_getElem? (i := 83) (by decide +kernel), List.mem_of_getElem? (i := 605) (by decide +kernel), List.mem_of_getElem? (i := 606) (by decide +kernel)⟩
def lw_privs_1 : List (MethodName × Nat) := [(⟨"CardLink$ResetAnswer", "clear", "()V"⟩, 11), (⟨"CardLink$ResetAnswer", "readHead", "(LCardLink$Row;)I"⟩, 11), (⟨"CardLink$ResetAnswer", "readGroups", "(LCardLink$Row;)I"⟩, 11), (⟨"CardLink$ResetAnswer", "readGroupByte", "(III)I"⟩, 11), (⟨"CardLink$ResetAnswer", "readTd", "(II)I"⟩, 11), (⟨"CardLink$ResetAnswer", "readFirstGroup", "(II)I"⟩, 11), (⟨"CardLink$ResetAnswer", "readLinkGroup", "(II)I"⟩, 11), (⟨"CardLink$ResetAnswer", "readTail", "(LCardLink$Row;I)I"⟩, 11), (⟨"CardLink", "mayStart", "()Z"⟩, 7), (⟨"CardLink$Line", "begin", "(I)V"⟩, 18), (⟨"CardLink$Wire", "makePlace", "(I)V"⟩, 10), (⟨"CardLink", "onWay", "()Z"⟩, 7), (⟨"CardLink$Line", "firstKind", "()I"⟩, 18), (⟨"CardLink$Line", "readerKind", "()I"⟩, 18), (⟨"CardLink$Line", "onBroken", "(LCardLink$Side;)I"⟩, 18), (⟨"CardLink$Line", "readerOnAnswer", "()I"⟩, 18)]
theorem lw_r1 : ∀ q ∈ lw_privs_1, lw_okq q := List.forall_mem_cons.mpr ⟨lw_p0, List.forall_mem_cons.mpr ⟨lw_p1, List.forall_mem_cons.mpr ⟨lw_p2, List.forall_mem_cons.mpr ⟨lw_p3, List.forall_mem_cons.mpr ⟨lw_p4, List.forall_mem_cons.mpr ⟨lw_p5, List.forall_mem_cons.mpr ⟨lw_p6, List.forall_mem_cons.mpr ⟨lw_p7, List.forall_mem_cons.mpr ⟨lw_p8, List.forall_mem_cons.mpr ⟨lw_p9, List.forall_mem_cons.mpr ⟨lw_p10, List.forall_mem_cons.mpr ⟨lw_p11, List.forall_mem_cons.mpr ⟨lw_p12, List.forall_mem_cons.mpr ⟨lw_p13, List.forall_mem_cons.mpr ⟨lw_p14, List.forall_mem_cons.mpr ⟨lw_p15, fun _ h => absurd h List.not_mem_nil⟩⟩⟩⟩⟩⟩⟩⟩⟩⟩⟩⟩⟩⟩⟩⟩
theorem lw_p16 : lw_okq (⟨"CardLink$Line", "isAnswerTo", "(LCardLink$Side;)Z"⟩, 18) := ⟨⟨by decide +kernel, by decide +kernel⟩, List.mem_of_getElem? (i := 83) (by decide +kernel), List.mem_of_getElem? (i := 609) (by decide +kernel), List.mem_of_getElem? (i := 610) (by decide +kernel)⟩
theorem lw_p17 : lw_okq (⟨"CardLink$Line", "finish", "(I)I"⟩, 18) := ⟨⟨by decide +kernel, by decide +kernel⟩, List.mem_of_getElem? (i := 83) (by decide +kernel), List.mem_of_getElem? (i := 614) (by decide +kernel), List.mem_of_getElem? (i := 615) (by decide +kernel)⟩
theorem lw_p18 : lw_okq (⟨"CardLink$Line", "onRequest", "(LCardLink$Side;LCardLink$Side;I)I"⟩, 18) := ⟨⟨by decide +kernel, by decide +kernel⟩, List.mem_of_getElem? (i := 83) (by decide +kernel), List.mem_of_getElem? (i := 618) (by decide +kernel), List.mem_of_getElem? (i := 619) (by decide +kernel)⟩
theorem lw_p19 : lw_okq (⟨"CardLink$Line", "refuse", "(LCardLink$Side;)I"⟩, 18) := ⟨⟨by decide +kernel, by decide +kernel⟩, List.mem_of_getElem? (i := 83) (by decide +kernel), List.mem_of_getElem? (i := 630) (by decide +kernel), List.mem_of_getElem? (i := 631) (by decide +kernel)⟩
theorem lw_p20 : lw_okq (⟨"CardLink$Line", "onI", "(LCardLink$Side;I)I"⟩, 18) := ⟨⟨by decide +kernel, by decide +kernel⟩, List.mem_of_getElem? (i := 83) (by decide +kernel), List.mem_of_getElem? (i := 634) (by decide +kernel), List.mem_of_getElem? (i := 635) (by decide +kernel)⟩
theorem lw_p21 : lw_okq (⟨"CardLink$Line", "onReceipt", "(LCardLink$Side;I)I"⟩, 18) := ⟨⟨by decide +kernel, by decide +kernel⟩, List.mem_of_getElem? (i := 83) (by decide +kernel), List.mem_of_getElem? (i := 659) (by decide +kernel), List.mem_of_getElem? (i := 660) (by decide +kernel)⟩
theorem lw_p22 : lw_okq (⟨"CardLink$Line", "countTries", "(I)I"⟩, 18) := ⟨⟨by decide +kernel, by decide +kernel⟩, List.mem_of_getElem? (i := 83) (by decide +kernel), List.mem_of_getElem? (i := 671) (by decide +kernel), List.mem_of_getElem? (i := 672) (by decide +kernel)⟩
theorem lw_p23 : lw_okq (⟨"CardLink$Line", "send", "(LCardLink$Side;LCardLink$Side;I)V"⟩, 18) := ⟨⟨by decide +kernel, by decide +kernel⟩, List.mem_of_getElem? (i := 83) (by decide +kernel), List.mem_of_getElem? (i := 675) (by decide +kernel), List.mem_of_getElem? (i := 676) (by decide +kernel)⟩
theorem lw_p24 : lw_okq (⟨"CardLink$Line", "compose", "(LCardLink$Side;I)V"⟩, 18) := ⟨⟨by decide +kernel, by decide +kernel⟩, List.mem_of_getElem? (i := 83) (by decide +kernel), List.mem_of_getElem? (i := 689) (by decide +kernel), List.mem_of_getElem? (i := 690) (by decide +kernel)⟩
theorem lw_p25 : lw_okq (⟨"CardLink$Wire", "sendLetter", "()I"⟩, 10) := ⟨⟨by decide +kernel, by decide +kernel⟩, List.mem_of_getElem? (i := 154) (by decide +kernel), List.mem_of_getElem? (i := 716) (by decide +kernel), List.mem_of_getElem? (i := 717) (by decide +kernel)⟩
theorem lw_p26 : lw_okq (⟨"CardLink$Wire", "dropNearest", "()V"⟩, 10) := ⟨⟨by decide +kernel, by decide +kernel⟩, List.mem_of_getElem? (i := 154) (by decide +kernel), List.mem_of_getElem? (i := 720) (by decide +kernel), List.mem_of_getElem? (i := 721) (by decide +kernel)⟩
theorem lw_p27 : lw_okq (⟨"CardLink$Line", "judge", "(II)I"⟩, 18) := ⟨⟨by decide +kernel, by decide +kernel⟩, List.mem_of_getElem? (i := 83) (by decide +kernel), List.mem_of_getElem? (i := 726) (by decide +kernel), List.mem_of_getElem? (i := 727) (by decide +kernel)⟩
theorem lw_p28 : lw_okq (⟨"CardLink$Line", "isWellFormed", "(III)Z"⟩, 18) := ⟨⟨by decide +kernel, by decide +kernel⟩, List.mem_of_getElem? (i := 83) (by decide +kernel), List.mem_of_getElem? (i := 730) (by decide +kernel), List.mem_of_getElem? (i := 731) (by decide +kernel)⟩
theorem lw_p29 : lw_okq (⟨"CardLink$Journal", "isBlock", "(IILCardLink$Row;)Z"⟩, 9) := ⟨⟨by decide +kernel, by decide +kernel⟩, List.mem_of_getElem? (i := 45) (by decide +kernel), List.mem_of_getElem? (i := 744) (by decide +kernel), List.mem_of_getElem? (i := 745) (by decide +kernel)⟩
theorem lw_p30 : lw_okq (⟨"CardLink$Journal", "addUnlike", "(ILCardLink$Row;I)I"⟩, 9) := ⟨⟨by decide +kernel, by decide +kernel⟩, List.mem_of_getElem? (i := 45) (by decide +kernel), List.mem_of_getElem? (i := 748) (by decide +kernel), List.mem_of_getElem? (i := 749) (by decide +kernel)⟩
theorem lw_p31 : lw_okq (⟨"CardLink$Line", "cardKind", "()I"⟩, 18) := ⟨⟨by decide +kernel, by decide +kernel⟩, List.mem_of_getElem? (i := 83) (by decide +kernel), List.mem_of_getElem? (i := 760) (by decide +kernel), List.mem_of_getElem? (i := 761) (by decide +kernel)⟩
def lw_privs_2 : List (MethodName × Nat) := [(⟨"CardLink$Line", "isAnswerTo", "(LCardLink$Side;)Z"⟩, 18), (⟨"CardLink$Line", "finish", "(I)I"⟩, 18), (⟨"CardLink$Line", "onRequest", "(LCardLink$Side;LCardLink$Side;I)I"⟩, 18), (⟨"CardLink$Line", "refuse", "(LCardLink$Side;)I"⟩, 18), (⟨"CardLink$Line", "onI", "(LCardLink$Side;I)I"⟩, 18), (⟨"CardLink$Line", "onReceipt", "(LCardLink$Side;I)I"⟩, 18), (⟨"CardLink$Line", "countTries", "(I)I"⟩, 18), (⟨"CardLink$Line", "send", "(LCardLink$Side;LCardLink$Side;I)V"⟩, 18), (⟨"CardLink$Line", "compose", "(LCardLink$Side;I)V"⟩, 18), (⟨"CardLink$Wire", "sendLetter", "()I"⟩, 10), (⟨"CardLink$Wire", "dropNearest", "()V"⟩, 10), (⟨"CardLink$Line", "judge", "(II)I"⟩, 18), (⟨"CardLink$Line", "isWellFormed", "(III)Z"⟩, 18), (⟨"CardLink$Journal", "isBlock", "(IILCardLink$Row;)Z"⟩, 9), (⟨"CardLink$Journal", "addUnlike", "(ILCardLink$Row;I)I"⟩, 9), (⟨"CardLink$Line", "cardKind", "()I"⟩, 18)]
theorem lw_r2 : ∀ q ∈ lw_privs_2, lw_okq q := List.forall_mem_cons.mpr ⟨lw_p16, List.forall_mem_cons.mpr ⟨lw_p17, List.forall_mem_cons.mpr ⟨lw_p18, List.forall_mem_cons.mpr ⟨lw_p19, List.forall_mem_cons.mpr ⟨lw_p20, List.forall_mem_cons.mpr ⟨lw_p21, List.forall_mem_cons.mpr ⟨lw_p22, List.forall_mem_cons.mpr ⟨lw_p23, List.forall_mem_cons.mpr ⟨lw_p24, List.forall_mem_cons.mpr ⟨lw_p25, List.forall_mem_cons.mpr ⟨lw_p26, List.forall_mem_cons.mpr ⟨lw_p27, List.forall_mem_cons.mpr ⟨lw_p28, List.forall_mem_cons.mpr ⟨lw_p29, List.forall_mem_cons.mpr ⟨lw_p30, List.forall_mem_cons.mpr ⟨lw_p31, fun _ h => absurd h List.not_mem_nil⟩⟩⟩⟩⟩⟩⟩⟩⟩⟩⟩⟩⟩⟩⟩⟩
theorem lw_p32 : lw_okq (⟨"CardLink$Line", "putFirstByte", "()I"⟩, 18) := ⟨⟨by decide +kernel, by decide +kernel⟩, List.mem_of_getElem? (i := 83) (by decide +kernel), List.mem_of_getElem? (i := 764) (by decide +kernel), List.mem_of_getElem? (i := 765) (by decide +kernel)⟩
theorem lw_p33 : lw_okq (⟨"CardLink$Line", "cardOnAnswer", "()I"⟩, 18) := ⟨⟨by decide +kernel, by decide +kernel⟩, List.mem_of_getElem? (i := 83) (by decide +kernel), List.mem_of_getElem? (i := 768) (by decide +kernel), List.mem_of_getElem? (i := 769) (by decide +kernel)⟩
theorem lw_p34 : lw_okq (⟨"CardLink$Line", "putBehindThird", "()I"⟩, 18) := ⟨⟨by decide +kernel, by decide +kernel⟩, List.mem_of_getElem? (i := 83) (by decide +kernel), List.mem_of_getElem? (i := 772) (by decide +kernel), List.mem_of_getElem? (i := 773) (by decide +kernel)⟩
theorem lw_p35 : lw_okq (⟨"CardLink$Line", "doMessage", "()I"⟩, 18) := ⟨⟨by decide +kernel, by decide +kernel⟩, List.mem_of_getElem? (i := 83) (by decide +kernel), List.mem_of_getElem? (i := 776) (by decide +kernel), List.mem_of_getElem? (i := 777) (by decide +kernel)⟩
theorem lw_p36 : lw_okq (⟨"CardLink$Line", "putCounting", "(I)I"⟩, 18) := ⟨⟨by decide +kernel, by decide +kernel⟩, List.mem_of_getElem? (i := 83) (by decide +kernel), List.mem_of_getElem? (i := 780) (by decide +kernel), List.mem_of_getElem? (i := 781) (by decide +kernel)⟩
theorem lw_p37 : lw_okq (⟨"CardLink", "sideOf", "(I)LCardLink$Side;"⟩, 7) := ⟨⟨by decide +kernel, by decide +kernel⟩, List.mem_of_getElem? (i := 17) (by decide +kernel), List.mem_of_getElem? (i := 792) (by decide +kernel), List.mem_of_getElem? (i := 793) (by decide +kernel)⟩
theorem lw_p38 : lw_okq (⟨"CardLink", "feedEight", "(J)V"⟩, 7) := ⟨⟨by decide +kernel, by decide +kernel⟩, List.mem_of_getElem? (i := 17) (by decide +kernel), List.mem_of_getElem? (i := 823) (by decide +kernel), List.mem_of_getElem? (i := 824) (by decide +kernel)⟩
theorem lw_p39 : lw_okq (⟨"CardLink$Journal", "placeOf", "(I)I"⟩, 9) := ⟨⟨by decide +kernel, by decide +kernel⟩, List.mem_of_getElem? (i := 45) (by decide +kernel), List.mem_of_getElem? (i := 864) (by decide +kernel), List.mem_of_getElem? (i := 865) (by decide +kernel)⟩
theorem lw_p40 : lw_okq (⟨"java/lang/Throwable", "fillInStackTrace", "(I)Ljava/lang/Throwable;"⟩, 6) := ⟨⟨by decide +kernel, by decide +kernel⟩, List.mem_of_getElem? (i := 908) (by decide +kernel), List.mem_of_getElem? (i := 906) (by decide +kernel), List.mem_of_getElem? (i := 907) (by decide +kernel)⟩
def lw_privs_3 : List (MethodName × Nat) := [(⟨"CardLink$Line", "putFirstByte", "()I"⟩, 18), (⟨"CardLink$Line", "cardOnAnswer", "()I"⟩, 18), (⟨"CardLink$Line", "putBehindThird", "()I"⟩, 18), (⟨"CardLink$Line", "doMessage", "()I"⟩, 18), (⟨"CardLink$Line", "putCounting", "(I)I"⟩, 18), (⟨"CardLink", "sideOf", "(I)LCardLink$Side;"⟩, 7), (⟨"CardLink", "feedEight", "(J)V"⟩, 7), (⟨"CardLink$Journal", "placeOf", "(I)I"⟩, 9), (⟨"java/lang/Throwable", "fillInStackTrace", "(I)Ljava/lang/Throwable;"⟩, 6)]
theorem lw_r3 : ∀ q ∈ lw_privs_3, lw_okq q := List.forall_mem_cons.mpr ⟨lw_p32, List.forall_mem_cons.mpr ⟨lw_p33, List.forall_mem_cons.mpr ⟨lw_p34, List.forall_mem_cons.mpr ⟨lw_p35, List.forall_mem_cons.mpr ⟨lw_p36, List.forall_mem_cons.mpr ⟨lw_p37, List.forall_mem_cons.mpr ⟨lw_p38, List.forall_mem_cons.mpr ⟨lw_p39, List.forall_mem_cons.mpr ⟨lw_p40, fun _ h => absurd h List.not_mem_nil⟩⟩⟩⟩⟩⟩⟩⟩⟩
def lw_privs : List (MethodName × Nat) := lw_privs_1 ++ (lw_privs_2 ++ (lw_privs_3))
def lw_tbl : List Cond := k2_sels lw_privs ++ tables_1
theorem lw_privs_ok : ∀ q ∈ lw_privs, lw_okq q := by
  show ∀ q ∈ lw_privs_1 ++ (lw_privs_2 ++ (lw_privs_3)), lw_okq q
  exact List.forall_mem_append.mpr ⟨lw_r1, List.forall_mem_append.mpr ⟨lw_r2, lw_r3⟩⟩
/-! ===== BEGIN printed: names, fields, word lists, decode rows ===== -/
def RX0 : String := "CardLink$Forecast"
def TX0 : u_T := fun k => match k with
  | 0 => ("CardLink$Forecast", "outlook", "LCardLink$Line;", true)
  | 1 => ("CardLink$Forecast", "walk", "LCardLink$Line;", true)
  | 2 => ("CardLink$Forecast", "fork", "LCardLink$Line;", true)
  | 3 => ("CardLink$Forecast", "outlookKnown", "Z", false)
  | 4 => ("CardLink$Forecast", "tried", "[I", true)
  | 5 => ("CardLink$Forecast", "harmful", "[I", true)
  | _ => ("CardLink$Forecast", "firsts", "[I", true)
def tyX0 : Nat → FieldType := fun k => match k with
  | 0 => .object "CardLink$Line"
  | 1 => .object "CardLink$Line"
  | 2 => .object "CardLink$Line"
  | 3 => .boolean
  | 4 => .array .int
  | 5 => .array .int
  | _ => .array .int
abbrev wsX00 : List Cond := u_ws RX0 TX0 7
theorem nmX0 : ∀ a, a < 7 → ∀ b, b < 7 → a ≠ b → (TX0 a).2.1 ≠ (TX0 b).2.1 := by decide +kernel
theorem tyX0_ok : ∀ k, k < 7 → parseFieldDescriptor (TX0 k).2.2.1 = some (tyX0 k) := by decide +kernel
abbrev cX0_init : ByteArray := prog_2_method_1_code
def yX0_init : MethodName := ⟨RX0, "<init>", "()V"⟩
abbrev cX0_forget : ByteArray := prog_2_method_2_code
def yX0_forget : MethodName := ⟨RX0, "forget", "()V"⟩
def RX1 : String := "CardLink$Journal"
def TX1 : u_T := fun k => match k with
  | 0 => ("CardLink$Journal", "bytes", "LCardLink$Row;", true)
  | 1 => ("CardLink$Journal", "starts", "LCardLink$Row;", true)
  | 2 => ("CardLink$Journal", "times", "LCardLink$Row;", true)
  | 3 => ("CardLink$Journal", "following", "LCardLink$Row;", true)
  | 4 => ("CardLink$Journal", "chains", "LCardLink$Row;", true)
  | 5 => ("CardLink$Journal", "latest", "LCardLink$Row;", true)
  | 6 => ("CardLink$Journal", "outcomes", "LCardLink$Row;", true)
  | 7 => ("CardLink$Journal", "took", "LCardLink$Row;", true)
  | _ => ("CardLink$Journal", "newest", "I", false)
def tyX1 : Nat → FieldType := fun k => match k with
  | 0 => .object "CardLink$Row"
  | 1 => .object "CardLink$Row"
  | 2 => .object "CardLink$Row"
  | 3 => .object "CardLink$Row"
  | 4 => .object "CardLink$Row"
  | 5 => .object "CardLink$Row"
  | 6 => .object "CardLink$Row"
  | 7 => .object "CardLink$Row"
  | _ => .int
abbrev wsX10 : List Cond := u_ws RX1 TX1 9
theorem nmX1 : ∀ a, a < 9 → ∀ b, b < 9 → a ≠ b → (TX1 a).2.1 ≠ (TX1 b).2.1 := by decide +kernel
theorem tyX1_ok : ∀ k, k < 9 → parseFieldDescriptor (TX1 k).2.2.1 = some (tyX1 k) := by decide +kernel
abbrev cX1_init : ByteArray := prog_3_method_1_code
def yX1_init : MethodName := ⟨RX1, "<init>", "()V"⟩
abbrev cX1_forgetAll : ByteArray := prog_3_method_2_code
def yX1_forgetAll : MethodName := ⟨RX1, "forgetAll", "()V"⟩
abbrev cX1_unlike : ByteArray := prog_3_method_3_code
def yX1_unlike : MethodName := ⟨RX1, "unlike", "()I"⟩
abbrev cX1_kept : ByteArray := prog_3_method_4_code
def yX1_kept : MethodName := ⟨RX1, "kept", "()I"⟩
abbrev cX1_note : ByteArray := prog_3_method_5_code
def yX1_note : MethodName := ⟨RX1, "note", "(III)V"⟩
abbrev cX1_idOf : ByteArray := prog_3_method_6_code
def yX1_idOf : MethodName := ⟨RX1, "idOf", "(ILCardLink$Row;)I"⟩
abbrev cX1_chainOf : ByteArray := prog_3_method_7_code
def yX1_chainOf : MethodName := ⟨RX1, "chainOf", "(ILCardLink$Row;)I"⟩
abbrev cX1_isBlock : ByteArray := prog_3_method_8_code
def yX1_isBlock : MethodName := ⟨RX1, "isBlock", "(IILCardLink$Row;)Z"⟩
abbrev cX1_addUnlike : ByteArray := prog_3_method_9_code
def yX1_addUnlike : MethodName := ⟨RX1, "addUnlike", "(ILCardLink$Row;I)I"⟩
abbrev cX1_placeOf : ByteArray := prog_3_method_10_code
def yX1_placeOf : MethodName := ⟨RX1, "placeOf", "(I)I"⟩
abbrev cX1_tell : ByteArray := prog_3_method_11_code
def yX1_tell : MethodName := ⟨RX1, "tell", "(II)I"⟩
abbrev cX1_byteAt : ByteArray := prog_3_method_12_code
def yX1_byteAt : MethodName := ⟨RX1, "byteAt", "(II)I"⟩
def RX2 : String := "CardLink$Line"
def TX2 : u_T := fun k => match k with
  | 0 => ("CardLink$Line", "reader", "LCardLink$Side;", true)
  | 1 => ("CardLink$Line", "card", "LCardLink$Side;", true)
  | 2 => ("CardLink$Line", "wire", "LCardLink$Wire;", true)
  | 3 => ("CardLink$Line", "state", "I", false)
  | 4 => ("CardLink$Line", "tries", "I", false)
  | 5 => ("CardLink$Line", "waitsEnded", "I", false)
  | 6 => ("CardLink$Line", "timesDone", "I", false)
  | 7 => ("CardLink$Line", "timesGivenUp", "I", false)
  | 8 => ("CardLink$Line", "block", "LCardLink$Row;", true)
  | 9 => ("CardLink$Line", "came", "LCardLink$Row;", true)
  | 10 => ("CardLink$Line", "journal", "LCardLink$Journal;", true)
  | 11 => ("CardLink$Line", "outcome", "I", false)
  | 12 => ("CardLink$Line", "firstTurn", "Z", false)
  | 13 => ("CardLink$Line", "roomWish", "I", false)
  | 14 => ("CardLink$Line", "stuck", "Z", false)
  | 15 => ("CardLink$Line", "toldAbort", "Z", false)
  | 16 => ("CardLink$Line", "waitsLeft", "I", false)
  | _ => ("CardLink$Line", "silentTurns", "I", false)
def tyX2 : Nat → FieldType := fun k => match k with
  | 0 => .object "CardLink$Side"
  | 1 => .object "CardLink$Side"
  | 2 => .object "CardLink$Wire"
  | 3 => .int
  | 4 => .int
  | 5 => .int
  | 6 => .int
  | 7 => .int
  | 8 => .object "CardLink$Row"
  | 9 => .object "CardLink$Row"
  | 10 => .object "CardLink$Journal"
  | 11 => .int
  | 12 => .boolean
  | 13 => .int
  | 14 => .boolean
  | 15 => .boolean
  | 16 => .int
  | _ => .int
abbrev wsX20 : List Cond := u_ws RX2 TX2 18
theorem nmX2 : ∀ a, a < 18 → ∀ b, b < 18 → a ≠ b → (TX2 a).2.1 ≠ (TX2 b).2.1 := by decide +kernel
theorem tyX2_ok : ∀ k, k < 18 → parseFieldDescriptor (TX2 k).2.2.1 = some (tyX2 k) := by decide +kernel
abbrev cX2_init : ByteArray := prog_4_method_1_code
def yX2_init : MethodName := ⟨RX2, "<init>", "(LCardLink$Journal;)V"⟩
abbrev cX2_restart : ByteArray := prog_4_method_2_code
def yX2_restart : MethodName := ⟨RX2, "restart", "(I)V"⟩
abbrev cX2_startMessage : ByteArray := prog_4_method_4_code
def yX2_startMessage : MethodName := ⟨RX2, "startMessage", "(LCardLink$Row;)V"⟩
abbrev cX2_startRoom : ByteArray := prog_4_method_5_code
def yX2_startRoom : MethodName := ⟨RX2, "startRoom", "(I)V"⟩
abbrev cX2_begin : ByteArray := prog_4_method_6_code
def yX2_begin : MethodName := ⟨RX2, "begin", "(I)V"⟩
abbrev cX2_blocksAhead : ByteArray := prog_4_method_7_code
def yX2_blocksAhead : MethodName := ⟨RX2, "blocksAhead", "()I"⟩
abbrev cX2_blocksSent : ByteArray := prog_4_method_8_code
def yX2_blocksSent : MethodName := ⟨RX2, "blocksSent", "()I"⟩
abbrev cX2_run : ByteArray := prog_4_method_9_code
def yX2_run : MethodName := ⟨RX2, "run", "(I)I"⟩
abbrev cX2_turn : ByteArray := prog_4_method_10_code
def yX2_turn : MethodName := ⟨RX2, "turn", "()V"⟩
abbrev cX2_firstKind : ByteArray := prog_4_method_11_code
def yX2_firstKind : MethodName := ⟨RX2, "firstKind", "()I"⟩
abbrev cX2_countTries : ByteArray := prog_4_method_12_code
def yX2_countTries : MethodName := ⟨RX2, "countTries", "(I)I"⟩
abbrev cX2_readerKind : ByteArray := prog_4_method_13_code
def yX2_readerKind : MethodName := ⟨RX2, "readerKind", "()I"⟩
abbrev cX2_cardKind : ByteArray := prog_4_method_14_code
def yX2_cardKind : MethodName := ⟨RX2, "cardKind", "()I"⟩
abbrev cX2_onBroken : ByteArray := prog_4_method_15_code
def yX2_onBroken : MethodName := ⟨RX2, "onBroken", "(LCardLink$Side;)I"⟩
abbrev cX2_refuse : ByteArray := prog_4_method_16_code
def yX2_refuse : MethodName := ⟨RX2, "refuse", "(LCardLink$Side;)I"⟩
abbrev cX2_isAnswerTo : ByteArray := prog_4_method_17_code
def yX2_isAnswerTo : MethodName := ⟨RX2, "isAnswerTo", "(LCardLink$Side;)Z"⟩
abbrev cX2_readerOnAnswer : ByteArray := prog_4_method_18_code
def yX2_readerOnAnswer : MethodName := ⟨RX2, "readerOnAnswer", "()I"⟩
abbrev cX2_finish : ByteArray := prog_4_method_19_code
def yX2_finish : MethodName := ⟨RX2, "finish", "(I)I"⟩
abbrev cX2_cardOnAnswer : ByteArray := prog_4_method_20_code
def yX2_cardOnAnswer : MethodName := ⟨RX2, "cardOnAnswer", "()I"⟩
abbrev cX2_onI : ByteArray := prog_4_method_21_code
def yX2_onI : MethodName := ⟨RX2, "onI", "(LCardLink$Side;I)I"⟩
abbrev cX2_onReceipt : ByteArray := prog_4_method_22_code
def yX2_onReceipt : MethodName := ⟨RX2, "onReceipt", "(LCardLink$Side;I)I"⟩
abbrev cX2_onRequest : ByteArray := prog_4_method_23_code
def yX2_onRequest : MethodName := ⟨RX2, "onRequest", "(LCardLink$Side;LCardLink$Side;I)I"⟩
abbrev cX2_doMessage : ByteArray := prog_4_method_24_code
def yX2_doMessage : MethodName := ⟨RX2, "doMessage", "()I"⟩
abbrev cX2_putCounting : ByteArray := prog_4_method_25_code
def yX2_putCounting : MethodName := ⟨RX2, "putCounting", "(I)I"⟩
abbrev cX2_putBehindThird : ByteArray := prog_4_method_26_code
def yX2_putBehindThird : MethodName := ⟨RX2, "putBehindThird", "()I"⟩
abbrev cX2_putFirstByte : ByteArray := prog_4_method_27_code
def yX2_putFirstByte : MethodName := ⟨RX2, "putFirstByte", "()I"⟩
abbrev cX2_kindToSend : ByteArray := prog_4_method_28_code
def yX2_kindToSend : MethodName := ⟨RX2, "kindToSend", "(LCardLink$Side;LCardLink$Side;I)I"⟩
abbrev cX2_send : ByteArray := prog_4_method_29_code
def yX2_send : MethodName := ⟨RX2, "send", "(LCardLink$Side;LCardLink$Side;I)V"⟩
abbrev cX2_compose : ByteArray := prog_4_method_30_code
def yX2_compose : MethodName := ⟨RX2, "compose", "(LCardLink$Side;I)V"⟩
abbrev cX2_hasInf : ByteArray := prog_4_method_31_code
def yX2_hasInf : MethodName := ⟨RX2, "hasInf", "(I)Z"⟩
abbrev cX2_judge : ByteArray := prog_4_method_32_code
def yX2_judge : MethodName := ⟨RX2, "judge", "(II)I"⟩
abbrev cX2_isWellFormed : ByteArray := prog_4_method_33_code
def yX2_isWellFormed : MethodName := ⟨RX2, "isWellFormed", "(III)Z"⟩
def RX3 : String := "CardLink$ResetAnswer"
def TX3 : u_T := fun k => match k with
  | 0 => ("CardLink$ResetAnswer", "ts", "I", false)
  | 1 => ("CardLink$ResetAnswer", "factor", "I", false)
  | 2 => ("CardLink$ResetAnswer", "guard", "I", false)
  | 3 => ("CardLink$ResetAnswer", "protocol", "I", false)
  | 4 => ("CardLink$ResetAnswer", "groups", "I", false)
  | 5 => ("CardLink$ResetAnswer", "room", "I", false)
  | 6 => ("CardLink$ResetAnswer", "checked", "Z", false)
  | 7 => ("CardLink$ResetAnswer", "historical", "LCardLink$Row;", true)
  | 8 => ("CardLink$ResetAnswer", "place", "I", false)
  | 9 => ("CardLink$ResetAnswer", "told", "I", false)
  | _ => ("CardLink$ResetAnswer", "linkGroup", "I", false)
def tyX3 : Nat → FieldType := fun k => match k with
  | 0 => .int
  | 1 => .int
  | 2 => .int
  | 3 => .int
  | 4 => .int
  | 5 => .int
  | 6 => .boolean
  | 7 => .object "CardLink$Row"
  | 8 => .int
  | 9 => .int
  | _ => .int
abbrev wsX30 : List Cond := u_ws RX3 TX3 11
theorem nmX3 : ∀ a, a < 11 → ∀ b, b < 11 → a ≠ b → (TX3 a).2.1 ≠ (TX3 b).2.1 := by decide +kernel
theorem tyX3_ok : ∀ k, k < 11 → parseFieldDescriptor (TX3 k).2.2.1 = some (tyX3 k) := by decide +kernel
abbrev cX3_init : ByteArray := prog_5_method_1_code
def yX3_init : MethodName := ⟨RX3, "<init>", "()V"⟩
abbrev cX3_read : ByteArray := prog_5_method_2_code
def yX3_read : MethodName := ⟨RX3, "read", "(LCardLink$Row;)I"⟩
abbrev cX3_clear : ByteArray := prog_5_method_3_code
def yX3_clear : MethodName := ⟨RX3, "clear", "()V"⟩
abbrev cX3_faultAt : ByteArray := prog_5_method_4_code
def yX3_faultAt : MethodName := ⟨RX3, "faultAt", "(II)I"⟩
abbrev cX3_readHead : ByteArray := prog_5_method_5_code
def yX3_readHead : MethodName := ⟨RX3, "readHead", "(LCardLink$Row;)I"⟩
abbrev cX3_readGroups : ByteArray := prog_5_method_6_code
def yX3_readGroups : MethodName := ⟨RX3, "readGroups", "(LCardLink$Row;)I"⟩
abbrev cX3_readGroupByte : ByteArray := prog_5_method_7_code
def yX3_readGroupByte : MethodName := ⟨RX3, "readGroupByte", "(III)I"⟩
abbrev cX3_readFirstGroup : ByteArray := prog_5_method_8_code
def yX3_readFirstGroup : MethodName := ⟨RX3, "readFirstGroup", "(II)I"⟩
abbrev cX3_readLinkGroup : ByteArray := prog_5_method_9_code
def yX3_readLinkGroup : MethodName := ⟨RX3, "readLinkGroup", "(II)I"⟩
abbrev cX3_readTd : ByteArray := prog_5_method_10_code
def yX3_readTd : MethodName := ⟨RX3, "readTd", "(II)I"⟩
abbrev cX3_readTail : ByteArray := prog_5_method_11_code
def yX3_readTail : MethodName := ⟨RX3, "readTail", "(LCardLink$Row;I)I"⟩
abbrev cX3_clockOf : ByteArray := prog_5_method_12_code
def yX3_clockOf : MethodName := ⟨RX3, "clockOf", "(I)I"⟩
abbrev cX3_divisorOf : ByteArray := prog_5_method_13_code
def yX3_divisorOf : MethodName := ⟨RX3, "divisorOf", "(I)I"⟩
abbrev cX3_cardRoom : ByteArray := prog_5_method_14_code
def yX3_cardRoom : MethodName := ⟨RX3, "cardRoom", "()I"⟩
abbrev cX3_historicalBytes : ByteArray := prog_5_method_15_code
def yX3_historicalBytes : MethodName := ⟨RX3, "historicalBytes", "()I"⟩
abbrev cX3_historicalByte : ByteArray := prog_5_method_16_code
def yX3_historicalByte : MethodName := ⟨RX3, "historicalByte", "(I)I"⟩
abbrev cX3_tell : ByteArray := prog_5_method_17_code
def yX3_tell : MethodName := ⟨RX3, "tell", "(I)I"⟩
def RX4 : String := "CardLink$Row"
def TX4 : u_T := fun k => match k with
  | 0 => ("CardLink$Row", "items", "[I", false)
  | 1 => ("CardLink$Row", "length", "I", false)
  | _ => ("CardLink$Row", "most", "I", true)
def tyX4 : Nat → FieldType := fun k => match k with
  | 0 => .array .int
  | 1 => .int
  | _ => .int
abbrev wsX40 : List Cond := u_ws RX4 TX4 3
theorem nmX4 : ∀ a, a < 3 → ∀ b, b < 3 → a ≠ b → (TX4 a).2.1 ≠ (TX4 b).2.1 := by decide +kernel
theorem tyX4_ok : ∀ k, k < 3 → parseFieldDescriptor (TX4 k).2.2.1 = some (tyX4 k) := by decide +kernel
abbrev cX4_init : ByteArray := prog_6_method_1_code
def yX4_init : MethodName := ⟨RX4, "<init>", "(II)V"⟩
abbrev cX4_size : ByteArray := prog_6_method_2_code
def yX4_size : MethodName := ⟨RX4, "size", "()I"⟩
abbrev cX4_at : ByteArray := prog_6_method_3_code
def yX4_at : MethodName := ⟨RX4, "at", "(I)I"⟩
abbrev cX4_put : ByteArray := prog_6_method_4_code
def yX4_put : MethodName := ⟨RX4, "put", "(II)V"⟩
abbrev cX4_add : ByteArray := prog_6_method_5_code
def yX4_add : MethodName := ⟨RX4, "add", "(I)V"⟩
abbrev cX4_keep : ByteArray := prog_6_method_6_code
def yX4_keep : MethodName := ⟨RX4, "keep", "(I)V"⟩
abbrev cX4_copy : ByteArray := prog_6_method_7_code
def yX4_copy : MethodName := ⟨RX4, "copy", "(LCardLink$Row;)V"⟩
abbrev cX4_xor : ByteArray := prog_6_method_9_code
def yX4_xor : MethodName := ⟨RX4, "xor", "(I)I"⟩
def RX5 : String := "CardLink$Side"
def TX5 : u_T := fun k => match k with
  | 0 => ("CardLink$Side", "number", "I", true)
  | 1 => ("CardLink$Side", "next", "I", false)
  | 2 => ("CardLink$Side", "wanted", "I", false)
  | 3 => ("CardLink$Side", "room", "I", false)
  | 4 => ("CardLink$Side", "through", "I", false)
  | 5 => ("CardLink$Side", "asked", "I", false)
  | 6 => ("CardLink$Side", "askedInf", "I", false)
  | 7 => ("CardLink$Side", "messages", "I", false)
  | 8 => ("CardLink$Side", "out", "LCardLink$Row;", true)
  | 9 => ("CardLink$Side", "got", "LCardLink$Row;", true)
  | 10 => ("CardLink$Side", "in", "LCardLink$Row;", true)
  | 11 => ("CardLink$Side", "pending", "I", false)
  | 12 => ("CardLink$Side", "pendingMore", "Z", false)
  | 13 => ("CardLink$Side", "latestKind", "I", false)
  | _ => ("CardLink$Side", "sent", "I", false)
def tyX5 : Nat → FieldType := fun k => match k with
  | 0 => .int
  | 1 => .int
  | 2 => .int
  | 3 => .int
  | 4 => .int
  | 5 => .int
  | 6 => .int
  | 7 => .int
  | 8 => .object "CardLink$Row"
  | 9 => .object "CardLink$Row"
  | 10 => .object "CardLink$Row"
  | 11 => .int
  | 12 => .boolean
  | 13 => .int
  | _ => .int
abbrev wsX50 : List Cond := u_ws RX5 TX5 15
theorem nmX5 : ∀ a, a < 15 → ∀ b, b < 15 → a ≠ b → (TX5 a).2.1 ≠ (TX5 b).2.1 := by decide +kernel
theorem tyX5_ok : ∀ k, k < 15 → parseFieldDescriptor (TX5 k).2.2.1 = some (tyX5 k) := by decide +kernel
abbrev cX5_init : ByteArray := prog_7_method_1_code
def yX5_init : MethodName := ⟨RX5, "<init>", "(I)V"⟩
abbrev cX5_restart : ByteArray := prog_7_method_2_code
def yX5_restart : MethodName := ⟨RX5, "restart", "(I)V"⟩
abbrev cX5_emptyAll : ByteArray := prog_7_method_4_code
def yX5_emptyAll : MethodName := ⟨RX5, "emptyAll", "()V"⟩
abbrev cX5_breakOff : ByteArray := prog_7_method_5_code
def yX5_breakOff : MethodName := ⟨RX5, "breakOff", "()V"⟩
abbrev cX5_cutNext : ByteArray := prog_7_method_6_code
def yX5_cutNext : MethodName := ⟨RX5, "cutNext", "(I)I"⟩
abbrev cX5_pendingKind : ByteArray := prog_7_method_7_code
def yX5_pendingKind : MethodName := ⟨RX5, "pendingKind", "()I"⟩
abbrev cX5_pendingSize : ByteArray := prog_7_method_8_code
def yX5_pendingSize : MethodName := ⟨RX5, "pendingSize", "()I"⟩
abbrev cX5_hasPending : ByteArray := prog_7_method_9_code
def yX5_hasPending : MethodName := ⟨RX5, "hasPending", "()Z"⟩
abbrev cX5_pendingHasMore : ByteArray := prog_7_method_10_code
def yX5_pendingHasMore : MethodName := ⟨RX5, "pendingHasMore", "()Z"⟩
abbrev cX5_passPending : ByteArray := prog_7_method_11_code
def yX5_passPending : MethodName := ⟨RX5, "passPending", "()V"⟩
abbrev cX5_takeInf : ByteArray := prog_7_method_12_code
def yX5_takeInf : MethodName := ⟨RX5, "takeInf", "(LCardLink$Row;)V"⟩
abbrev cX5_takeWhole : ByteArray := prog_7_method_13_code
def yX5_takeWhole : MethodName := ⟨RX5, "takeWhole", "()V"⟩
abbrev cX5_takeEmpty : ByteArray := prog_7_method_14_code
def yX5_takeEmpty : MethodName := ⟨RX5, "takeEmpty", "()V"⟩
abbrev cX5_requestKind : ByteArray := prog_7_method_15_code
def yX5_requestKind : MethodName := ⟨RX5, "requestKind", "()I"⟩
abbrev cX5_ask : ByteArray := prog_7_method_16_code
def yX5_ask : MethodName := ⟨RX5, "ask", "(II)I"⟩
abbrev cX5_receipt : ByteArray := prog_7_method_17_code
def yX5_receipt : MethodName := ⟨RX5, "receipt", "(I)I"⟩
abbrev cX5_noteSent : ByteArray := prog_7_method_18_code
def yX5_noteSent : MethodName := ⟨RX5, "noteSent", "(I)V"⟩
abbrev cX5_blocksSent : ByteArray := prog_7_method_19_code
def yX5_blocksSent : MethodName := ⟨RX5, "blocksSent", "()I"⟩
abbrev cX5_tell : ByteArray := prog_7_method_20_code
def yX5_tell : MethodName := ⟨RX5, "tell", "(I)I"⟩
def RX6 : String := "CardLink$Wire"
def TX6 : u_T := fun k => match k with
  | 0 => ("CardLink$Wire", "repeats", "I", false)
  | 1 => ("CardLink$Wire", "letters", "I", false)
  | 2 => ("CardLink$Wire", "lettersAgain", "I", false)
  | 3 => ("CardLink$Wire", "faultLetters", "[I", true)
  | 4 => ("CardLink$Wire", "faultKinds", "[I", true)
  | 5 => ("CardLink$Wire", "faultBits", "[I", true)
  | 6 => ("CardLink$Wire", "faults", "I", false)
  | 7 => ("CardLink$Wire", "probeLetter", "I", false)
  | 8 => ("CardLink$Wire", "probeKind", "I", false)
  | _ => ("CardLink$Wire", "bitsNow", "I", false)
def tyX6 : Nat → FieldType := fun k => match k with
  | 0 => .int
  | 1 => .int
  | 2 => .int
  | 3 => .array .int
  | 4 => .array .int
  | 5 => .array .int
  | 6 => .int
  | 7 => .int
  | 8 => .int
  | _ => .int
abbrev wsX60 : List Cond := u_ws RX6 TX6 10
theorem nmX6 : ∀ a, a < 10 → ∀ b, b < 10 → a ≠ b → (TX6 a).2.1 ≠ (TX6 b).2.1 := by decide +kernel
theorem tyX6_ok : ∀ k, k < 10 → parseFieldDescriptor (TX6 k).2.2.1 = some (tyX6 k) := by decide +kernel
abbrev cX6_init : ByteArray := prog_8_method_1_code
def yX6_init : MethodName := ⟨RX6, "<init>", "()V"⟩
abbrev cX6_restart : ByteArray := prog_8_method_2_code
def yX6_restart : MethodName := ⟨RX6, "restart", "()V"⟩
abbrev cX6_faults : ByteArray := prog_8_method_5_code
def yX6_faults : MethodName := ⟨RX6, "faults", "()I"⟩
abbrev cX6_isFull : ByteArray := prog_8_method_6_code
def yX6_isFull : MethodName := ⟨RX6, "isFull", "()Z"⟩
abbrev cX6_addFault : ByteArray := prog_8_method_7_code
def yX6_addFault : MethodName := ⟨RX6, "addFault", "(III)V"⟩
abbrev cX6_makePlace : ByteArray := prog_8_method_8_code
def yX6_makePlace : MethodName := ⟨RX6, "makePlace", "(I)V"⟩
abbrev cX6_dropNearest : ByteArray := prog_8_method_9_code
def yX6_dropNearest : MethodName := ⟨RX6, "dropNearest", "()V"⟩
abbrev cX6_sendLetter : ByteArray := prog_8_method_10_code
def yX6_sendLetter : MethodName := ⟨RX6, "sendLetter", "()I"⟩
abbrev cX6_carry : ByteArray := prog_8_method_11_code
def yX6_carry : MethodName := ⟨RX6, "carry", "(LCardLink$Row;LCardLink$Row;)I"⟩
def RX7 : String := "CardLink"
def TX7 : u_T := fun k => match k with
  | 0 => ("CardLink", "tape", "LCardLink$Row;", true)
  | 1 => ("CardLink", "journal", "LCardLink$Journal;", true)
  | 2 => ("CardLink", "line", "LCardLink$Line;", true)
  | 3 => ("CardLink", "forecast", "LCardLink$Forecast;", true)
  | 4 => ("CardLink", "inForce", "LCardLink$ResetAnswer;", false)
  | 5 => ("CardLink", "spare", "LCardLink$ResetAnswer;", false)
  | _ => ("CardLink", "cardIn", "Z", false)
def tyX7 : Nat → FieldType := fun k => match k with
  | 0 => .object "CardLink$Row"
  | 1 => .object "CardLink$Journal"
  | 2 => .object "CardLink$Line"
  | 3 => .object "CardLink$Forecast"
  | 4 => .object "CardLink$ResetAnswer"
  | 5 => .object "CardLink$ResetAnswer"
  | _ => .boolean
abbrev wsX70 : List Cond := u_ws RX7 TX7 7
theorem nmX7 : ∀ a, a < 7 → ∀ b, b < 7 → a ≠ b → (TX7 a).2.1 ≠ (TX7 b).2.1 := by decide +kernel
theorem tyX7_ok : ∀ k, k < 7 → parseFieldDescriptor (TX7 k).2.2.1 = some (tyX7 k) := by decide +kernel
abbrev cX7_init : ByteArray := prog_1_method_1_code
def yX7_init : MethodName := ⟨RX7, "<init>", "()V"⟩
abbrev cX7_feed : ByteArray := prog_1_method_2_code
def yX7_feed : MethodName := ⟨RX7, "feed", "(JJ)I"⟩
abbrev cX7_feedEight : ByteArray := prog_1_method_3_code
def yX7_feedEight : MethodName := ⟨RX7, "feedEight", "(J)V"⟩
abbrev cX7_end : ByteArray := prog_1_method_4_code
def yX7_end : MethodName := ⟨RX7, "end", "(I)I"⟩
abbrev cX7_reset : ByteArray := prog_1_method_5_code
def yX7_reset : MethodName := ⟨RX7, "reset", "()I"⟩
abbrev cX7_answer : ByteArray := prog_1_method_6_code
def yX7_answer : MethodName := ⟨RX7, "answer", "(I)I"⟩
abbrev cX7_historical : ByteArray := prog_1_method_7_code
def yX7_historical : MethodName := ⟨RX7, "historical", "(I)I"⟩
abbrev cX7_message : ByteArray := prog_1_method_8_code
def yX7_message : MethodName := ⟨RX7, "message", "()I"⟩
abbrev cX7_room : ByteArray := prog_1_method_9_code
def yX7_room : MethodName := ⟨RX7, "room", "(I)I"⟩
abbrev cX7_mayStart : ByteArray := prog_1_method_10_code
def yX7_mayStart : MethodName := ⟨RX7, "mayStart", "()Z"⟩
abbrev cX7_onWay : ByteArray := prog_1_method_11_code
def yX7_onWay : MethodName := ⟨RX7, "onWay", "()Z"⟩
abbrev cX7_fault : ByteArray := prog_1_method_12_code
def yX7_fault : MethodName := ⟨RX7, "fault", "(III)I"⟩
abbrev cX7_repeats : ByteArray := prog_1_method_13_code
def yX7_repeats : MethodName := ⟨RX7, "repeats", "(I)I"⟩
abbrev cX7_step : ByteArray := prog_1_method_14_code
def yX7_step : MethodName := ⟨RX7, "step", "(I)I"⟩
abbrev cX7_state : ByteArray := prog_1_method_15_code
def yX7_state : MethodName := ⟨RX7, "state", "()I"⟩
abbrev cX7_side : ByteArray := prog_1_method_16_code
def yX7_side : MethodName := ⟨RX7, "side", "(II)I"⟩
abbrev cX7_sideOf : ByteArray := prog_1_method_17_code
def yX7_sideOf : MethodName := ⟨RX7, "sideOf", "(I)LCardLink$Side;"⟩
abbrev cX7_got : ByteArray := prog_1_method_18_code
def yX7_got : MethodName := ⟨RX7, "got", "(II)I"⟩
abbrev cX7_log : ByteArray := prog_1_method_19_code
def yX7_log : MethodName := ⟨RX7, "log", "(II)I"⟩
abbrev cX7_byteOf : ByteArray := prog_1_method_20_code
def yX7_byteOf : MethodName := ⟨RX7, "byteOf", "(II)I"⟩
abbrev cX7_count : ByteArray := prog_1_method_23_code
def yX7_count : MethodName := ⟨RX7, "count", "(I)I"⟩
def RX8 : String := "CardLinkModel"
def TX8 : u_T := fun k => match k with
  | _ => ("", "", "", false)
def tyX8 : Nat → FieldType := fun k => match k with
  | _ => .int
abbrev wsX80 : List Cond := u_ws RX8 TX8 0
theorem nmX8 : ∀ a, a < 0 → ∀ b, b < 0 → a ≠ b → (TX8 a).2.1 ≠ (TX8 b).2.1 := by decide +kernel
theorem tyX8_ok : ∀ k, k < 0 → parseFieldDescriptor (TX8 k).2.2.1 = some (tyX8 k) := by decide +kernel
def RJx145de : String := "java/io/Serializable"
def TJx145de : u_T := fun k => match k with
  | _ => ("", "", "", false)
def tyJx145de : Nat → FieldType := fun k => match k with
  | _ => .int
theorem nmJx145de : ∀ a, a < 0 → ∀ b, b < 0 → a ≠ b → (TJx145de a).2.1 ≠ (TJx145de b).2.1 := by decide +kernel
theorem tyJx145de_ok : ∀ k, k < 0 → parseFieldDescriptor (TJx145de k).2.2.1 = some (tyJx145de k) := by decide +kernel
def RJx8e188 : String := "java/lang/Cloneable"
def TJx8e188 : u_T := fun k => match k with
  | _ => ("", "", "", false)
def tyJx8e188 : Nat → FieldType := fun k => match k with
  | _ => .int
theorem nmJx8e188 : ∀ a, a < 0 → ∀ b, b < 0 → a ≠ b → (TJx8e188 a).2.1 ≠ (TJx8e188 b).2.1 := by decide +kernel
theorem tyJx8e188_ok : ∀ k, k < 0 → parseFieldDescriptor (TJx8e188 k).2.2.1 = some (tyJx8e188 k) := by decide +kernel
def RJ9 : String := "java/lang/Math"
def TJ9 : u_T := fun k => match k with
  | _ => ("", "", "", false)
def tyJ9 : Nat → FieldType := fun k => match k with
  | _ => .int
theorem nmJ9 : ∀ a, a < 0 → ∀ b, b < 0 → a ≠ b → (TJ9 a).2.1 ≠ (TJ9 b).2.1 := by decide +kernel
theorem tyJ9_ok : ∀ k, k < 0 → parseFieldDescriptor (TJ9 k).2.2.1 = some (tyJ9 k) := by decide +kernel
abbrev cJ9_max_7cf53 : ByteArray := prog_14_method_65_code
def yJ9_max_7cf53 : MethodName := ⟨RJ9, "max", "(II)I"⟩
abbrev cJ9_min_7cf53 : ByteArray := prog_14_method_69_code
def yJ9_min_7cf53 : MethodName := ⟨RJ9, "min", "(II)I"⟩
def RJ10 : String := "java/lang/System"
def TJ10 : u_T := fun k => match k with
  | _ => ("", "", "", false)
def tyJ10 : Nat → FieldType := fun k => match k with
  | _ => .int
theorem nmJ10 : ∀ a, a < 0 → ∀ b, b < 0 → a ≠ b → (TJ10 a).2.1 ≠ (TJ10 b).2.1 := by decide +kernel
theorem tyJ10_ok : ∀ k, k < 0 → parseFieldDescriptor (TJ10 k).2.2.1 = some (tyJ10 k) := by decide +kernel
def RJ7 : String := "java/util/Arrays"
def TJ7 : u_T := fun k => match k with
  | _ => ("", "", "", false)
def tyJ7 : Nat → FieldType := fun k => match k with
  | _ => .int
theorem nmJ7 : ∀ a, a < 0 → ∀ b, b < 0 → a ≠ b → (TJ7 a).2.1 ≠ (TJ7 b).2.1 := by decide +kernel
theorem tyJ7_ok : ∀ k, k < 0 → parseFieldDescriptor (TJ7 k).2.2.1 = some (tyJ7 k) := by decide +kernel
abbrev cJ7_fill_53178 : ByteArray := prog_18_method_103_code
def yJ7_fill_53178 : MethodName := ⟨RJ7, "fill", "([II)V"⟩
abbrev cJ7_copyOf_59c91 : ByteArray := prog_18_method_123_code
def yJ7_copyOf_59c91 : MethodName := ⟨RJ7, "copyOf", "([II)[I"⟩
def RL : String := "CardLinkLaw"
abbrev cL_cell : ByteArray := method_2_code
def yL_cell : MethodName := ⟨RL, "cell", "([II)I"⟩
abbrev cL_types : ByteArray := method_3_code
def yL_types : MethodName := ⟨RL, "types", "(LCardLink;[II)V"⟩
abbrev cL_answer : ByteArray := method_4_code
def yL_answer : MethodName := ⟨RL, "answer", "(I)[I"⟩
abbrev cL_size : ByteArray := method_5_code
def yL_size : MethodName := ⟨RL, "size", "([II)I"⟩
abbrev cL_message : ByteArray := method_6_code
def yL_message : MethodName := ⟨RL, "message", "([III)[I"⟩
abbrev cL_expected : ByteArray := method_7_code
def yL_expected : MethodName := ⟨RL, "expected", "([II)[I"⟩
abbrev cL_isGot : ByteArray := method_8_code
def yL_isGot : MethodName := ⟨RL, "isGot", "(LCardLink;I[III)Z"⟩
abbrev cL_sound : ByteArray := method_9_code
def yL_sound : MethodName := ⟨RL, "sound", "(LCardLink;)Z"⟩
abbrev cL_law : ByteArray := code
def yL_law : MethodName := ⟨RL, "law", "([I)Z"⟩
abbrev vwCl : List vw_C := [(RX0, TX0, 7), (RX1, TX1, 9), (RX2, TX2, 18), (RX3, TX3, 11), (RX4, TX4, 3), (RX5, TX5, 15), (RX6, TX6, 10), (RX7, TX7, 7)]
end
section
/-! ===== BEGIN words of one list among another's, by their places ===== -/
theorem goodIn_r {big : List Cond} (ws : List Cond) (ps : List Nat) (hp : ws = ps.filterMap (fun i => big[i]?)) (h : ws.all goodWord = true) : GoodIn big ws := by
  intro w hw
  have h1 := List.all_eq_true.mp h w hw
  rw [hp] at hw
  obtain ⟨i, -, hi⟩ := List.mem_filterMap.mp hw
  have hm : w ∈ big := by first | exact List.mem_of_getElem? hi | exact List.getElem?_mem hi
  exact ⟨hm, good_of_word h1⟩
theorem goodIn_app {big a b : List Cond} (ha : GoodIn big a) (hb : GoodIn big b) : GoodIn big (a ++ b) := fun w h => (List.mem_append.mp h).elim (ha w) (hb w)
theorem goodIn_ca {big a b : List Cond} {c : Cond} (ha : GoodIn big (c :: a)) (hb : GoodIn big b) : GoodIn big (c :: (a ++ b)) := fun w h => (List.mem_cons.mp h).elim (fun e => ha w (List.mem_cons.mpr (Or.inl e))) (fun h => (List.mem_append.mp h).elim (fun h => ha w (List.mem_cons.mpr (Or.inr h))) (hb w))
theorem goodIn_sub {big ws : List Cond} (hm : ∀ w ∈ ws, w ∈ big) (h : ws.all goodWord = true) : GoodIn big ws := fun w hw => ⟨hm w hw, good_of_word (List.all_eq_true.mp h w hw)⟩
/-! ===== END ===== -/

/-! ===== BEGIN exceptions that leave a method, and their catching by the caller (launches without stack traces) ===== -/
section VXA
/-! The laws vx_back, vx_callV, vx_callS, vx_callSW, vx_throw0, vx_throwS follow proofs of the library, with one case more: JvmDerived/Free/Laws.lean (Back.of_free), Shelf42/LK1.lean (callV, callS), Shelf/KitTraced.lean (throwNew0V, throwNewS). -/
/-- where a method has thrown q: the class by its name, the cell, what was written, the world -/
def vx_T (XC : String → State → State → Prop) (st : State) (q : Addr) (t : State) (mc ms : Nat) (free : Addr → Prop) : Prop :=
  ∃ (E : String) (ce : Cell) (L : List Loc), XC E st t ∧ t.heap[q]? = some ce ∧ ce.vm = .none ∧ st.vm.findClass E = some ce.cls ∧ st.WarmedH t.vm ∧ st.sameButNew ({ t with vm := st.vm } : State) L mc ms ∧ ∀ z ∈ L, free z.base
def vx_Q (Qc : Array Value → State → Outcome → State → Prop) (XC : String → State → State → Prop) (mc ms : Nat) (free : Addr → Prop) : Array Value → State → Outcome → State → Prop := fun a st o t =>
  (Qc a st o t ∧ ∃ L, FrameEnd st o t L mc ms ∧ ∀ q ∈ L, free q.base) ∨ ∃ q, o = .threw q ∧ vx_T XC st q t mc ms free
/-- a callee that returns or throws -/
def vx_Met (l : Launch) (y : MethodName) (ws : List Cond) (rm : Room) (Pc : Array Value → State → Prop) (Qc : Array Value → State → Outcome → State → Prop) (XC : String → State → State → Prop) (mc ms : Nat) (free : Addr → Prop) : Prop :=
  MetFree l y (headSpec ws rm) Pc (fun _ _ _ _ _ => True) (vx_Q Qc XC mc ms free)
def vx_Post (XC : String → State → State → Prop) (mc ms : Nat) (free : Addr → Prop) : Pt → Array Value → Addr → Pt → Prop := fun A a q B =>
  ∃ (g : JFrame) (mk : MethodId) (t : State) (L : List Loc) (E : String) (ce : Cell), B.U.heap = t.heap ∧ B.U.vm = t.vm ∧ XC E (A.U.calling g mk a) t ∧ t.heap[q]? = some ce ∧ ce.vm = .none ∧ A.U.vm.findClass E = some ce.cls ∧ B.locs = A.locs ++ L ∧ (∀ z ∈ L, free z.base) ∧ B.cells = A.cells + mc ∧ B.slots = A.slots + ms
def vx_Back (l : Launch) (R : Room) (p : Program) (e : Env) (below : List Frame) (s : State) (sargs : Array Value) (y : MethodName) (len W9 : Nat)
    (Pre : Pt → Array Value → Prop) (Post : Pt → Array Value → Option Value → Pt → Prop) (PostX : Pt → Array Value → Addr → Pt → Prop) : Prop :=
  ∀ (m : MethodId) (meth : Method) (c : Code) (A : Pt) (g : JFrame) (ig : Instr) (mk : MethodId) (a : Array Value),
    Stand p l e R s m sargs below meth c A.U A.locs A.cells A.slots → g.method = m → g.locals.size = c.maxLocals → decode c.code g.pc = .ok (ig, len) →
    2 * g.monitorRoom + (g.stack.map fun v => v.category).sum ≤ W9 → A.U.methodNamed? y = some mk → Pre A a →
    (∃ (v : Option Value) (B : Pt), Stand p l e R s m sargs below meth c B.U B.locs B.cells B.slots ∧ Post A a v B ∧
      Steps p.tables e below (doInvoke e (A.U.setTop g) [] mk a).1 (B.U.setTop { g with pc := g.pc + len, stack := v.toList ++ g.stack })) ∨
    (∃ (q : Addr) (B : Pt), Stand p l e R s m sargs below meth c B.U B.locs B.cells B.slots ∧ PostX A a q B ∧
      Steps p.tables e below (doInvoke e (A.U.setTop g) [] mk a).1 ((B.U.setTop g).pushFrame (.throwing q)))
section Payer
variable {l : Launch} {R : Room} {p : Program} {e : Env} {below : List Frame} {s : State} {sargs : Array Value} {y : MethodName} {len W9 : Nat}
theorem vx_back {ws : List Cond} {rm : Room} {Pc : Array Value → State → Prop} {Qc : Array Value → State → Outcome → State → Prop} {XC : String → State → State → Prop} {mc ms : Nat} {free : Addr → Prop} {bytes : ByteArray} {maxL : Nat} {ret : Option FieldType}
    (hM : vx_Met l y ws rm Pc Qc XC mc ms free) (hblind : FrameBlind Pc) (hrc : rm.cells = mc) (hrs : rm.slots = ms)
    (hframes : rm.frames + 1 ≤ R.frames) (hlocals : W9 + (maxL + 11) + rm.locals ≤ R.locals)
    (hws : ∀ w ∈ ws, ∀ a' U, s.WarmedH U.vm → w.before a' U = true) (hcode : Cond.code y bytes maxL ret ∈ ws) (hinit : ∀ a' U, s.WarmedH U.vm → (Cond.initialized y.cls).before a' U = true) :
    vx_Back l R p e below s sargs y len W9 (PreOf R mc ms Pc) (PostOf Qc mc ms free) (vx_Post XC mc ms free) := by
  intro m meth c A g ig mk a X hg hsize hdg hW hn hp
  have h1 : (headSpec ws rm).pre.before a A.U = true := atoms_intro fun w hw => hws w hw _ _ X.warmed
  have h2 : (Cond.code y bytes maxL ret).before a A.U = true := hws _ hcode _ _ X.warmed
  have h3 : (Cond.initialized y.cls).before a A.U = true := hinit _ _ X.warmed
  have h4 : A.cells + (headSpec ws rm).room.cells ≤ R.cells := by rw [show (headSpec ws rm).room.cells = mc from hrc]; exact hp.1
  have h5 : A.slots + (headSpec ws rm).room.slots ≤ R.slots := by rw [show (headSpec ws rm).room.slots = ms from hrs]; exact hp.2.1
  have hPc : Pc a (A.U.calling g mk a) := hblind _ _ _ _ hp.2.2
  obtain ⟨U, Ls, c0, s0⟩ := A
  dsimp only [Pt.U, Pt.locs, Pt.cells, Pt.slots] at h1 h2 h3 h4 h5 X hn hPc ⊢
  obtain ⟨methY, cY, hmY, hcY, -, hlY, -, -, -, -⟩ := Cond.code_spec hn h2
  obtain ⟨kY, hkY, -⟩ := className_of_methodNamed hn
  have hinitY : kY.init = .initialized := Cond.initialized_spec (findClass_of_methodNamed hn) hkY h3
  have h : At U g.method c below := by rw [hg]; exact X.here
  have hlocals9 : W9 + (maxL + 11) + (headSpec ws rm).room.locals ≤ R.locals := hlocals
  have happ : (headSpec ws rm).appliesLoose y e.platform (U.calling g mk a) = true :=
    Spec.appliesLoose_calling (g := g) h hdg hn hkY hinitY
      (X.room_calling (g := g) (R' := (headSpec ws rm).room) hsize hmY hcY hframes (by rw [hlY]; omega) h4 h5) h1
  obtain ⟨mid, hmid⟩ := h.above
  have hfr : (U.setTop g).frames = (.java g :: mid) ++ below := by rw [State.frames_setTop' g h.top, hmid]; rfl
  obtain ⟨o, s₂, hsteps, -, hend, hq⟩ := Steps.callFree hM p X.admits X.cas X.clock (acts := []) hfr happ hPc trivial
  have hq' : vx_Q Qc XC mc ms free a (U.calling g mk a) o s₂ := hq
  rw [State.frames_setTop' g h.top] at hend
  obtain ⟨g₀, hg0⟩ := Option.isSome_iff_exists.mp h.top
  obtain ⟨r, hr⟩ := State.topJava?_eq_some.mp hg0
  have hr' : (({ U with heap := s₂.heap, slotsUsed := s₂.slotsUsed } : State).setVm s₂.vm).frames = .java g₀ :: r := hr
  rcases hq' with ⟨hqc, L, hfe, hL⟩ | ⟨q, rfl, E, ce, L, hx, hce, hcv, hcl, hW₂, hsm, hL⟩
  · obtain ⟨⟨v, rfl⟩, hW₂, e2, q2, q3, q4, q5, q6⟩ := id hfe
    have e3 : s₂ = ({ (U.calling g mk a).setFrames s₂.frames with heap := s₂.heap, slotsUsed := s₂.slotsUsed } : State).setVm s₂.vm := by
      have : s₂ = ({ s₂ with vm := (U.calling g mk a).vm } : State).setVm s₂.vm := rfl
      rw [e2] at this
      exact this
    obtain ⟨c₂, i₂, len₂, hc₂, hd₂, hf₂⟩ := hend
    have hW' : U.WarmedH s₂.vm := hW₂
    have hcc : c₂ = c := by
      have h1 : s₂.code? g.method = U.code? g.method := by
        rw [State.code?_eq, State.code?_eq, hW'.alike.method?]
      exact Option.some.inj (hc₂.symm.trans (h1.trans h.code))
    subst hcc
    have hlen : len₂ = len := by rw [hdg] at hd₂; cases hd₂; rfl
    subst hlen
    have hs₂ : s₂ = (({ U with heap := s₂.heap, slotsUsed := s₂.slotsUsed } : State).setVm s₂.vm).setTop { g with pc := g.pc + len₂, stack := v.toList ++ g.stack } := by
      refine e3.trans ?_
      rw [hf₂, State.calling_eq h.top, State.setFrames_setFrames, State.setTop_of_frames _ hr', hr]
      rfl
    have hsame : U.sameButNew ({ U with heap := s₂.heap, slotsUsed := s₂.slotsUsed } : State) L mc ms := by
      refine ⟨?_, q2, q3, q4, q5, q6⟩
      obtain ⟨t, ht, -⟩ := State.frames_cons hr
      show ({ U with heap := s₂.heap, slotsUsed := s₂.slotsUsed } : State) = { U.setFrames U.frames with heap := s₂.heap, slotsUsed := s₂.slotsUsed }
      rw [State.setFrames_self ht]
    subst hg
    refine Or.inl ⟨v, ⟨(({ U with heap := s₂.heap, slotsUsed := s₂.slotsUsed } : State).setVm s₂.vm), Ls ++ L, c0 + mc, s0 + ms⟩,
      ⟨X.admits, X.cas, X.clock, X.frames, X.room, X.hears, X.method, X.code, (X.here.setHeapUsed s₂.heap s₂.slotsUsed).setVm hW'.alike, X.tail, State.WarmedH.trans X.warmed hW', X.limits, X.bytes, X.same.trans (hsame.setVm s.vm)⟩,
      ⟨g, mk, s₂, L, rfl, rfl, hqc, rfl, hL, rfl, rfl⟩, ?_⟩
    show Steps p.tables e below _ ((({ U with heap := s₂.heap, slotsUsed := s₂.slotsUsed } : State).setVm s₂.vm).setTop { g with pc := g.pc + len₂, stack := v.toList ++ g.stack })
    rw [← hs₂]
    exact hsteps
  · obtain ⟨e2, q2, q3, q4, q5, q6⟩ := id hsm
    have e3 : s₂ = ({ (U.calling g mk a).setFrames s₂.frames with heap := s₂.heap, slotsUsed := s₂.slotsUsed } : State).setVm s₂.vm := by
      have : s₂ = ({ s₂ with vm := (U.calling g mk a).vm } : State).setVm s₂.vm := rfl
      rw [e2] at this
      exact this
    have hf₂ : s₂.frames = .throwing q :: .java g :: U.frames.tail := hend
    have hW' : U.WarmedH s₂.vm := hW₂
    have hs₂ : s₂ = ((({ U with heap := s₂.heap, slotsUsed := s₂.slotsUsed } : State).setVm s₂.vm).setTop g).pushFrame (.throwing q) := by
      refine e3.trans ?_
      rw [hf₂, State.calling_eq h.top, State.setFrames_setFrames, State.pushFrame, State.frames_setTop _ hr', State.setTop_of_frames _ hr', State.setFrames_setFrames, hr]
      rfl
    have hsame : U.sameButNew ({ U with heap := s₂.heap, slotsUsed := s₂.slotsUsed } : State) L mc ms := by
      refine ⟨?_, q2, q3, q4, q5, q6⟩
      obtain ⟨t, ht, -⟩ := State.frames_cons hr
      show ({ U with heap := s₂.heap, slotsUsed := s₂.slotsUsed } : State) = { U.setFrames U.frames with heap := s₂.heap, slotsUsed := s₂.slotsUsed }
      rw [State.setFrames_self ht]
    subst hg
    refine Or.inr ⟨q, ⟨(({ U with heap := s₂.heap, slotsUsed := s₂.slotsUsed } : State).setVm s₂.vm), Ls ++ L, c0 + mc, s0 + ms⟩,
      ⟨X.admits, X.cas, X.clock, X.frames, X.room, X.hears, X.method, X.code, (X.here.setHeapUsed s₂.heap s₂.slotsUsed).setVm hW'.alike, X.tail, State.WarmedH.trans X.warmed hW', X.limits, X.bytes, X.same.trans (hsame.setVm s.vm)⟩,
      ⟨g, mk, s₂, L, E, ce, rfl, rfl, hx, hce, hcv, hcl, rfl, hL, rfl, rfl⟩, ?_⟩
    show Steps p.tables e below _ (((({ U with heap := s₂.heap, slotsUsed := s₂.slotsUsed } : State).setVm s₂.vm).setTop g).pushFrame (.throwing q))
    rw [← hs₂]
    exact hsteps
end Payer
section Calls
variable {p : Program} {l : Launch} {e : Env} {R : Room} {s : State} {m : MethodId} {args : Array Value} {below : List Frame} {meth : Method} {c : Code} {T : State} {locs : List Loc} {cells slots : Nat}
theorem vx_callV (X : Stand p l e R s m args below meth c T locs cells slots) (hexec : p.tables.exec = Jvm.exec) {own C : String} {index : Nat} {y : MethodName} {bytes : ByteArray} {maxL : Nat} {ret : Option FieldType}
    (hown : s.vm.findClass own = some m.cls) (hlink : (Cond.methodLink own index y).before args s = true) (hinst : (Cond.instanceMethod y).before args s = true) (hsel : (Cond.selects C y y).before args s = true)
    (hcode : (Cond.code y bytes maxL ret).before args s = true) (hy : y.cls ≠ "java/lang/invoke/MethodHandle" ∧ y.cls ≠ "java/lang/invoke/VarHandle")
    {W9 : Nat} {Pre : Pt → Array Value → Prop} {Post : Pt → Array Value → Option Value → Pt → Prop} {PostX : Pt → Array Value → Addr → Pt → Prop} (hK : vx_Back l R p e below s args y 3 W9 Pre Post PostX)
    {b : Addr} {cellB : Cell} (hcell : T.heap[b]? = some cellB) (hobj : cellB.vm.isStatics = false) (hcls : s.vm.findClass C = some cellB.cls)
    {g : JFrame} (hg : g.method = m) (hsize : g.locals.size = c.maxLocals) {argsL rest : List Value} (hlen : ∀ sig, parseMethodDescriptor y.desc = some sig → argsL.length = sig.parameters.length)
    (hstack : g.stack = argsL.reverse ++ .ref b :: rest) (hW : 2 * g.monitorRoom + (rest.map fun v => v.category).sum ≤ W9) (hdg : decode c.code g.pc = .ok (.invokevirtual index, 3))
    (hpre : ∀ vm₁, s.WarmedH vm₁ → Pre ⟨T.setVm vm₁, locs, cells, slots⟩ (Value.ref b :: argsL).toArray) :
    (∃ (v : Option Value) (vm₁ : Vm) (B : Pt), s.WarmedH vm₁ ∧ Stand p l e R s m args below meth c B.U B.locs B.cells B.slots ∧ Post ⟨T.setVm vm₁, locs, cells, slots⟩ (Value.ref b :: argsL).toArray v B ∧
      ∀ target, Steps p.tables e below (B.U.setTop { g with pc := g.pc + 3, stack := v.toList ++ rest }) target → Steps p.tables e below (T.setTop g) target) ∨
    (∃ (q : Addr) (vm₁ : Vm) (B : Pt), s.WarmedH vm₁ ∧ Stand p l e R s m args below meth c B.U B.locs B.cells B.slots ∧ PostX ⟨T.setVm vm₁, locs, cells, slots⟩ (Value.ref b :: argsL).toArray q B ∧
      Steps p.tables e below (T.setTop g) ((B.U.setTop { g with stack := rest }).pushFrame (.throwing q))) := by
  obtain ⟨mk, methM, hnamed, hmethM, hstM, habM⟩ := Cond.instanceMethod_spec hinst
  obtain ⟨methM', cM, hmethM', -, -, -, -, -, -, hsigM⟩ := Cond.code_spec hnamed hcode
  cases hmethM.symm.trans hmethM'
  obtain ⟨c2, r2, m2, q1, q2, q3, q4, kP, hkP, hkPi⟩ := Cond.selects_spec hsel
  cases hcls.symm.trans q1
  cases (State.methodFound?_of_named hnamed hy).symm.trans q2
  cases hnamed.symm.trans q3
  have hselP : selectMethod e.platform s.vm cellB.cls mk = .method mk := by rw [Launch.admits_selectMethod X.admits]; exact q4
  obtain ⟨vm₁, X₁, hstep₁⟩ := X.invokevirtual hexec hown hlink hnamed hmethM hstM hkP hkPi hy (a := b) (cell := cellB) hcell
    (fun z h => by rw [h] at hobj; cases hobj) hselP hmethM habM hkP hkPi (g := g) hg (argsL := argsL) (rest := rest) (hlen _ hsigM) hstack hdg
  rcases hK m meth c ⟨T.setVm vm₁, locs, cells, slots⟩ { g with stack := rest } (.invokevirtual index) mk (Value.ref b :: argsL).toArray X₁ hg hsize hdg hW (X₁.named hnamed) (hpre vm₁ X₁.warmed) with ⟨v, B, X', hpost, hsteps⟩ | ⟨q, B, X', hpost, hsteps⟩
  · exact Or.inl ⟨v, vm₁, B, X₁.warmed, X', hpost, fun target h => hstep₁ _ fun acts => by rw [doInvoke_state]; exact hsteps.trans h⟩
  · exact Or.inr ⟨q, vm₁, B, X₁.warmed, X', hpost, hstep₁ _ fun acts => by rw [doInvoke_state]; exact hsteps⟩
theorem vx_callS (X : Stand p l e R s m args below meth c T locs cells slots) (hexec : p.tables.exec = Jvm.exec) {own : String} {index : Nat} {y : MethodName} {bytes : ByteArray} {maxL : Nat} {ret : Option FieldType}
    (hown : s.vm.findClass own = some m.cls) (hlink : (Cond.methodLink own index y).before args s = true) (hstat : (Cond.static y).before args s = true) (hinit : (Cond.initialized y.cls).before args s = true)
    (hcode : (Cond.code y bytes maxL ret).before args s = true) (hy : y.cls ≠ "java/lang/invoke/MethodHandle" ∧ y.cls ≠ "java/lang/invoke/VarHandle")
    {W9 : Nat} {Pre : Pt → Array Value → Prop} {Post : Pt → Array Value → Option Value → Pt → Prop} {PostX : Pt → Array Value → Addr → Pt → Prop} (hK : vx_Back l R p e below s args y 3 W9 Pre Post PostX)
    {g : JFrame} (hg : g.method = m) (hsize : g.locals.size = c.maxLocals) {argsL rest : List Value} (hlen : ∀ sig, parseMethodDescriptor y.desc = some sig → argsL.length = sig.parameters.length)
    (hstack : g.stack = argsL.reverse ++ rest) (hW : 2 * g.monitorRoom + (rest.map fun v => v.category).sum ≤ W9) (hdg : decode c.code g.pc = .ok (.invokestatic index, 3))
    (hpre : ∀ vm₁, s.WarmedH vm₁ → Pre ⟨T.setVm vm₁, locs, cells, slots⟩ argsL.toArray) :
    (∃ (v : Option Value) (vm₁ : Vm) (B : Pt), s.WarmedH vm₁ ∧ Stand p l e R s m args below meth c B.U B.locs B.cells B.slots ∧ Post ⟨T.setVm vm₁, locs, cells, slots⟩ argsL.toArray v B ∧
      ∀ target, Steps p.tables e below (B.U.setTop { g with pc := g.pc + 3, stack := v.toList ++ rest }) target → Steps p.tables e below (T.setTop g) target) ∨
    (∃ (q : Addr) (vm₁ : Vm) (B : Pt), s.WarmedH vm₁ ∧ Stand p l e R s m args below meth c B.U B.locs B.cells B.slots ∧ PostX ⟨T.setVm vm₁, locs, cells, slots⟩ argsL.toArray q B ∧
      Steps p.tables e below (T.setTop g) ((B.U.setTop { g with stack := rest }).pushFrame (.throwing q))) := by
  obtain ⟨mk, hnamed⟩ := Cond.code_named hcode
  obtain ⟨methM, cM, hmethM, -, -, -, -, -, -, hsigM⟩ := Cond.code_spec hnamed hcode
  have hstatic : methM.isStatic = true := Cond.static_spec hnamed hmethM hstat
  obtain ⟨kP, hkP, -⟩ := className_of_methodNamed hnamed
  have hinitP : kP.init = .initialized := Cond.initialized_spec (findClass_of_methodNamed hnamed) hkP hinit
  obtain ⟨vm₁, X₁, hstep₁⟩ := X.invokestatic hexec hown hlink hnamed hmethM hstatic hkP hinitP hy (g := g) hg (argsL := argsL) (rest := rest) (hlen _ hsigM) hstack hdg
  rcases hK m meth c ⟨T.setVm vm₁, locs, cells, slots⟩ { g with stack := rest } (.invokestatic index) mk argsL.toArray X₁ hg hsize hdg hW (X₁.named hnamed) (hpre vm₁ X₁.warmed) with ⟨v, B, X', hpost, hsteps⟩ | ⟨q, B, X', hpost, hsteps⟩
  · exact Or.inl ⟨v, vm₁, B, X₁.warmed, X', hpost, fun target h => hstep₁ _ fun acts => by rw [doInvoke_state]; exact hsteps.trans h⟩
  · exact Or.inr ⟨q, vm₁, B, X₁.warmed, X', hpost, hstep₁ _ fun acts => by rw [doInvoke_state]; exact hsteps⟩
end Calls
theorem vx_cls {s : State} {T : State} {vm₁ : Vm} {E : String} {k : ClassId} (hW : s.WarmedH vm₁) (h : (T.setVm vm₁).vm.findClass E = some k) : s.vm.findClass E = some k := by
  have h1 : vm₁.findClass E = some k := h
  rw [hW.alike.findClass] at h1
  exact h1
/-- the method's frame g, with q thrown over it -/
def vx_W (p : Program) (l : Launch) (e : Env) (R : Room) (s : State) (m : MethodId) (args : Array Value) (below : List Frame) (meth : Method) (c : Code) (H : Heap) (locs : List Loc) (cells slots : Nat) (Q : State → Prop) (g : JFrame) (q : Addr) : Prop :=
  ∀ T : State, T.heap = H → Stand p l e R s m args below meth c T locs cells slots → ∃ t, Steps p.tables e below ((T.setTop g).pushFrame (.throwing q)) t ∧ Q t
def vx_Run (p : Program) (l : Launch) (e : Env) (R : Room) (s : State) (m : MethodId) (args : Array Value) (below : List Frame) (meth : Method) (c : Code) (H : Heap) (locs : List Loc) (cells slots mc ms : Nat) (g : JFrame) (rest : List Value) (Qa : State → Outcome → State → Prop) (XC : String → State → State → Prop) (free : Addr → Prop) : Prop :=
  ∀ T : State, T.heap = H → Stand p l e R s m args below meth c T locs cells slots →
    (∃ (v : Option Value) (st₀ t T' : State) (L : List Loc), st₀.heap = H ∧ Stand p l e R s m args below meth c T' (locs ++ L) (cells + mc) (slots + ms) ∧ (∀ q ∈ L, free q.base) ∧ T'.heap = t.heap ∧ T'.vm = t.vm ∧ Qa st₀ (.returned v) t ∧
      Goes p e below T g T' { g with pc := g.pc + 3, stack := v.toList ++ rest }) ∨
    (∃ (q : Addr) (st₀ t T' : State) (L : List Loc) (E : String) (ce : Cell), st₀.heap = H ∧ Stand p l e R s m args below meth c T' (locs ++ L) (cells + mc) (slots + ms) ∧ (∀ z ∈ L, free z.base) ∧ T'.heap = t.heap ∧ T'.vm = t.vm ∧ XC E st₀ t ∧ t.heap[q]? = some ce ∧ ce.vm = .none ∧ s.vm.findClass E = some ce.cls ∧
      Steps p.tables e below (T.setTop g) ((T'.setTop { g with stack := rest }).pushFrame (.throwing q)))
def vx_X {S : Type} (px : S → Prop) (B : String → S → State → Prop) (A : Nat → Prop) : String → State → State → Prop := fun E st t => ∃ u : S, px u ∧ B E u t ∧ va_F A st t
section Runs
variable {p : Program} {l : Launch} {e : Env} {R : Room} {s : State} {m : MethodId} {args : Array Value} {below : List Frame} {meth : Method} {c : Code} {H : Heap} {locs : List Loc} {cells slots : Nat}
variable {y : MethodName} {bytes cc : ByteArray} {maxL nL mc ms n index : Nat} {ret : Option FieldType} {ws : List Cond} {rm : Room} {Pc : Array Value → State → Prop} {Qc : Array Value → State → Outcome → State → Prop} {XC : String → State → State → Prop} {free : Addr → Prop} {Ts : List Cond} {own C : String} {b : Addr} {As rest : List Value} {g : JFrame}
theorem vx_callBack (cb : CallB R s args own index y bytes maxL ret ws rm mc ms n) (hM : vx_Met l y ws rm Pc Qc XC mc ms free) (hbl : FrameBlind Pc) : vx_Back l R p e below s args y 3 8 (PreOf R mc ms Pc) (PostOf Qc mc ms free) (vx_Post XC mc ms free) := by
  obtain ⟨hrc, hrs, hfr, hlo, hws, hcw, -, hini, -⟩ := cb
  exact vx_back (bytes := bytes) (maxL := maxL) (ret := ret) hM hbl hrc hrs hfr hlo hws hcw (fun a' U hW => word_at hW (Or.inl (by first | rfl | simp [Cond.onTables, Cond.keeps, Cond.steady])) hini)
theorem vx_runV (S : CallFix p m c cc nL s args Ts own) (hM : vx_Met l y ws rm Pc Qc XC mc ms free) (cw : CallW R s args own C index y bytes maxL ret ws rm mc ms n) (hp : PreV s H C b Pc As)
    (hg : g.method = m) (hn : As.length = n) (hsize : g.locals.size = nL) (hstack : g.stack = As.reverse ++ .ref b :: rest) (hW : 2 * g.monitorRoom + (rest.map fun v => v.category).sum ≤ 8) (hdg : decode cc g.pc = .ok (.invokevirtual index, 3)) (hf : cells + mc ≤ R.cells ∧ slots + ms ≤ R.slots) :
    vx_Run p l e R s m args below meth c H locs cells slots mc ms g rest (Qc (Value.ref b :: As).toArray) XC free := by
  have hK : vx_Back l R p e below s args y 3 8 (PreOf R mc ms Pc) (PostOf Qc mc ms free) (vx_Post XC mc ms free) := vx_callBack cw.1 hM hp.1
  obtain ⟨⟨-, -, -, -, -, -, hcode, -, hy, hlen, hl⟩, hin, hse⟩ := cw
  obtain ⟨hx, hb, hml, ho, -⟩ := S
  obtain ⟨-, ⟨cellB, hcB, hoB, hclB⟩, hPc⟩ := hp
  intro T hT X
  rcases vx_callV X hx (C := C) (bytes := bytes) (maxL := maxL) (ret := ret) ho hl hin hse hcode hy hK (by rw [hT]; exact hcB) hoB hclB hg (hsize.trans hml.symm) (argsL := As) (rest := rest) (fun sig h => hn.trans (hlen sig h)) hstack hW (by rw [hb]; exact hdg)
    (fun vm₁ hW₁ => ⟨hf.1, hf.2, hPc (T.setVm vm₁) hT hW₁⟩) with ⟨v, vm₁, ⟨U', l2, c2, s2⟩, hW₁, X', ⟨g', mk, t, L, e1, e2, hq, h1, hL, h2, h3⟩, st⟩ | ⟨q, vm₁, ⟨U', l2, c2, s2⟩, hW₁, X', ⟨g', mk, t, L, E, ce, e1, e2, hq, hce, hcv, hcl, h1, hL, h2, h3⟩, st⟩
  · dsimp only [Pt.U, Pt.locs, Pt.cells, Pt.slots] at X' e1 e2 h1 h2 h3 st
    subst h1; subst h2; subst h3
    exact Or.inl ⟨v, (T.setVm vm₁).calling g' mk (Value.ref b :: As).toArray, t, U', L, hT, X', hL, e1, e2, hq, st⟩
  · dsimp only [Pt.U, Pt.locs, Pt.cells, Pt.slots] at X' e1 e2 h1 h2 h3 st hcl
    subst h1; subst h2; subst h3
    exact Or.inr ⟨q, (T.setVm vm₁).calling g' mk (Value.ref b :: As).toArray, t, U', L, E, ce, hT, X', hL, e1, e2, hq, hce, hcv, vx_cls hW₁ hcl, st⟩
theorem vx_runS (S : CallFix p m c cc nL s args Ts own) (hM : vx_Met l y ws rm Pc Qc XC mc ms free) (cw : CallB R s args own index y bytes maxL ret ws rm mc ms n ∧ (Cond.static y).before args s = true) (hp : PreS s H Pc As)
    (hg : g.method = m) (hn : As.length = n) (hsize : g.locals.size = nL) (hstack : g.stack = As.reverse ++ rest) (hW : 2 * g.monitorRoom + (rest.map fun v => v.category).sum ≤ 8) (hdg : decode cc g.pc = .ok (.invokestatic index, 3)) (hf : cells + mc ≤ R.cells ∧ slots + ms ≤ R.slots) :
    vx_Run p l e R s m args below meth c H locs cells slots mc ms g rest (Qc As.toArray) XC free := by
  have hK : vx_Back l R p e below s args y 3 8 (PreOf R mc ms Pc) (PostOf Qc mc ms free) (vx_Post XC mc ms free) := vx_callBack cw.1 hM hp.1
  obtain ⟨⟨-, -, -, -, -, -, hcode, hini, hy, hlen, hl⟩, hstt⟩ := cw
  obtain ⟨hx, hb, hml, ho, -⟩ := S
  intro T hT X
  rcases vx_callS X hx (bytes := bytes) (maxL := maxL) (ret := ret) ho hl hstt hini hcode hy hK hg (hsize.trans hml.symm) (argsL := As) (rest := rest) (fun sig h => hn.trans (hlen sig h)) hstack hW (by rw [hb]; exact hdg)
    (fun vm₁ hW₁ => ⟨hf.1, hf.2, hp.2 (T.setVm vm₁) hT hW₁⟩) with ⟨v, vm₁, ⟨U', l2, c2, s2⟩, hW₁, X', ⟨g', mk, t, L, e1, e2, hq, h1, hL, h2, h3⟩, st⟩ | ⟨q, vm₁, ⟨U', l2, c2, s2⟩, hW₁, X', ⟨g', mk, t, L, E, ce, e1, e2, hq, hce, hcv, hcl, h1, hL, h2, h3⟩, st⟩
  · dsimp only [Pt.U, Pt.locs, Pt.cells, Pt.slots] at X' e1 e2 h1 h2 h3 st
    subst h1; subst h2; subst h3
    exact Or.inl ⟨v, (T.setVm vm₁).calling g' mk As.toArray, t, U', L, hT, X', hL, e1, e2, hq, st⟩
  · dsimp only [Pt.U, Pt.locs, Pt.cells, Pt.slots] at X' e1 e2 h1 h2 h3 st hcl
    subst h1; subst h2; subst h3
    exact Or.inr ⟨q, (T.setVm vm₁).calling g' mk As.toArray, t, U', L, E, ce, hT, X', hL, e1, e2, hq, hce, hcv, vx_cls hW₁ hcl, st⟩
end Runs
section Rows
variable {p : Program} {l : Launch} {e : Env} {R : Room} {s : State} {m : MethodId} {args : Array Value} {below : List Frame} {meth : Method} {c : Code} {H : Heap} {locs : List Loc} {cells slots : Nat} {Q : State → Prop}
variable {mc ms : Nat} {free : Addr → Prop} {A0 A1 : Nat → Prop} {H0 : Heap} {a : Array Value} {pc : Nat} {ls : Array Slot} {st0 rest : List Value}
theorem vx_keep {st₀ t T' : State} {L : List Loc} (h0 : st₀.heap = H) (e1 : T'.heap = t.heap) (hS : va_S A0 H0 H locs) (hA : ∀ q, q < H.size → A1 q → A0 q) (hf : ∀ q, free q → A0 q) (hL : ∀ q ∈ L, free q.base) (hF : va_F A1 st₀ t) :
    H.size ≤ T'.heap.size ∧ (∀ q : Nat, q < H.size → ¬ A1 q → T'.heap[q]? = H[q]?) ∧ va_S A0 H0 T'.heap (locs ++ L) := by
  obtain ⟨hz, hk⟩ := hF
  rw [h0] at hz hk
  exact ⟨by rw [e1]; exact hz, fun q h1 h2 => by rw [e1]; exact hk q h1 h2,
    ⟨Nat.le_trans hS.1 (by rw [e1]; exact hz), fun q h1 h2 => by rw [e1, hk q (Nat.lt_of_lt_of_le h1 hS.1) (fun z => h2 (hA q (Nat.lt_of_lt_of_le h1 hS.1) z))]; exact hS.2.1 q h1 h2, fun q hq => by
      rcases List.mem_append.mp hq with h | h
      · exact hS.2.2 q h
      · exact hf _ (hL q h)⟩⟩
theorem vx_calli {S SX : Type} {post : Int32 → S → Prop} {px : SX → Prop} {B : S → State → Prop} {BX : String → SX → State → Prop} {AX : Nat → Prop} (hr : vx_Run p l e R s m args below meth c H locs cells slots mc ms (F0 m pc ls st0) rest (va_Qi post B A1 a) (vx_X px BX AX) free) (hS : va_S A0 H0 H locs) (hA : ∀ q, q < H.size → A1 q → A0 q) (hf : ∀ q, free q → A0 q) (hAX : ∀ q, q < H.size → AX q → A0 q)
    (kx : ∀ (E : String) (ce : Cell) (q9 : Addr) (u : SX) (t : State) (H1 : Heap) (locs1 : List Loc), t.heap = H1 → s.vm.Alike t.vm → px u → BX E u t → H.size ≤ H1.size → (∀ q : Nat, q < H.size → ¬ AX q → H1[q]? = H[q]?) → va_S A0 H0 H1 locs1 → H1[q9]? = some ce → ce.vm = .none → s.vm.findClass E = some ce.cls → vx_W p l e R s m args below meth c H1 locs1 (cells + mc) (slots + ms) Q (F0 m pc ls rest) q9)
    (kk : ∀ (r : Int32) (u : S) (t : State) (H1 : Heap) (locs1 : List Loc), t.heap = H1 → s.vm.Alike t.vm → post r u → B u t → H.size ≤ H1.size → (∀ q : Nat, q < H.size → ¬ A1 q → H1[q]? = H[q]?) → va_S A0 H0 H1 locs1 → W p l e R s m args below meth c H1 locs1 (cells + mc) (slots + ms) Q (F0 m (pc + 3) ls (.int r :: rest))) : W p l e R s m args below meth c H locs cells slots Q (F0 m pc ls st0) := by
  intro T hT X
  rcases hr T hT X with ⟨v, st₀, t, T', L, h0, X', hL, e1, e2, ⟨⟨r, u, hv, hp, hb⟩, hF⟩, st⟩ | ⟨q, st₀, t, T', L, E, ce, h0, X', hL, e1, e2, ⟨u, hp, hb, hF⟩, hce, hcv, hcl, st⟩
  · cases hv
    obtain ⟨k1, k2, k3⟩ := vx_keep h0 e1 hS hA hf hL hF
    obtain ⟨t2, a1, b1⟩ := kk r u t T'.heap (locs ++ L) e1.symm (by rw [← e2]; exact X'.warmed.alike) hp hb k1 k2 k3 T' rfl X'
    exact ⟨t2, st t2 a1, b1⟩
  · obtain ⟨k1, k2, k3⟩ := vx_keep h0 e1 hS hAX hf hL hF
    obtain ⟨t2, a1, b1⟩ := kx E ce q u t T'.heap (locs ++ L) e1.symm (by rw [← e2]; exact X'.warmed.alike) hp hb k1 k2 k3 (by rw [e1]; exact hce) hcv hcl T' rfl X'
    exact ⟨t2, st.trans a1, b1⟩
theorem vx_calll {S SX : Type} {post : Int64 → S → Prop} {px : SX → Prop} {B : S → State → Prop} {BX : String → SX → State → Prop} {AX : Nat → Prop} (hr : vx_Run p l e R s m args below meth c H locs cells slots mc ms (F0 m pc ls st0) rest (va_Ql post B A1 a) (vx_X px BX AX) free) (hS : va_S A0 H0 H locs) (hA : ∀ q, q < H.size → A1 q → A0 q) (hf : ∀ q, free q → A0 q) (hAX : ∀ q, q < H.size → AX q → A0 q)
    (kx : ∀ (E : String) (ce : Cell) (q9 : Addr) (u : SX) (t : State) (H1 : Heap) (locs1 : List Loc), t.heap = H1 → s.vm.Alike t.vm → px u → BX E u t → H.size ≤ H1.size → (∀ q : Nat, q < H.size → ¬ AX q → H1[q]? = H[q]?) → va_S A0 H0 H1 locs1 → H1[q9]? = some ce → ce.vm = .none → s.vm.findClass E = some ce.cls → vx_W p l e R s m args below meth c H1 locs1 (cells + mc) (slots + ms) Q (F0 m pc ls rest) q9)
    (kk : ∀ (r : Int64) (u : S) (t : State) (H1 : Heap) (locs1 : List Loc), t.heap = H1 → s.vm.Alike t.vm → post r u → B u t → H.size ≤ H1.size → (∀ q : Nat, q < H.size → ¬ A1 q → H1[q]? = H[q]?) → va_S A0 H0 H1 locs1 → W p l e R s m args below meth c H1 locs1 (cells + mc) (slots + ms) Q (F0 m (pc + 3) ls (.long r :: rest))) : W p l e R s m args below meth c H locs cells slots Q (F0 m pc ls st0) := by
  intro T hT X
  rcases hr T hT X with ⟨v, st₀, t, T', L, h0, X', hL, e1, e2, ⟨⟨r, u, hv, hp, hb⟩, hF⟩, st⟩ | ⟨q, st₀, t, T', L, E, ce, h0, X', hL, e1, e2, ⟨u, hp, hb, hF⟩, hce, hcv, hcl, st⟩
  · cases hv
    obtain ⟨k1, k2, k3⟩ := vx_keep h0 e1 hS hA hf hL hF
    obtain ⟨t2, a1, b1⟩ := kk r u t T'.heap (locs ++ L) e1.symm (by rw [← e2]; exact X'.warmed.alike) hp hb k1 k2 k3 T' rfl X'
    exact ⟨t2, st t2 a1, b1⟩
  · obtain ⟨k1, k2, k3⟩ := vx_keep h0 e1 hS hAX hf hL hF
    obtain ⟨t2, a1, b1⟩ := kx E ce q u t T'.heap (locs ++ L) e1.symm (by rw [← e2]; exact X'.warmed.alike) hp hb k1 k2 k3 (by rw [e1]; exact hce) hcv hcl T' rfl X'
    exact ⟨t2, st.trans a1, b1⟩
theorem vx_callf {S SX : Type} {post : UInt32 → S → Prop} {px : SX → Prop} {B : S → State → Prop} {BX : String → SX → State → Prop} {AX : Nat → Prop} (hr : vx_Run p l e R s m args below meth c H locs cells slots mc ms (F0 m pc ls st0) rest (va_Qf post B A1 a) (vx_X px BX AX) free) (hS : va_S A0 H0 H locs) (hA : ∀ q, q < H.size → A1 q → A0 q) (hf : ∀ q, free q → A0 q) (hAX : ∀ q, q < H.size → AX q → A0 q)
    (kx : ∀ (E : String) (ce : Cell) (q9 : Addr) (u : SX) (t : State) (H1 : Heap) (locs1 : List Loc), t.heap = H1 → s.vm.Alike t.vm → px u → BX E u t → H.size ≤ H1.size → (∀ q : Nat, q < H.size → ¬ AX q → H1[q]? = H[q]?) → va_S A0 H0 H1 locs1 → H1[q9]? = some ce → ce.vm = .none → s.vm.findClass E = some ce.cls → vx_W p l e R s m args below meth c H1 locs1 (cells + mc) (slots + ms) Q (F0 m pc ls rest) q9)
    (kk : ∀ (r : UInt32) (u : S) (t : State) (H1 : Heap) (locs1 : List Loc), t.heap = H1 → s.vm.Alike t.vm → post r u → B u t → H.size ≤ H1.size → (∀ q : Nat, q < H.size → ¬ A1 q → H1[q]? = H[q]?) → va_S A0 H0 H1 locs1 → W p l e R s m args below meth c H1 locs1 (cells + mc) (slots + ms) Q (F0 m (pc + 3) ls (.float r :: rest))) : W p l e R s m args below meth c H locs cells slots Q (F0 m pc ls st0) := by
  intro T hT X
  rcases hr T hT X with ⟨v, st₀, t, T', L, h0, X', hL, e1, e2, ⟨⟨r, u, hv, hp, hb⟩, hF⟩, st⟩ | ⟨q, st₀, t, T', L, E, ce, h0, X', hL, e1, e2, ⟨u, hp, hb, hF⟩, hce, hcv, hcl, st⟩
  · cases hv
    obtain ⟨k1, k2, k3⟩ := vx_keep h0 e1 hS hA hf hL hF
    obtain ⟨t2, a1, b1⟩ := kk r u t T'.heap (locs ++ L) e1.symm (by rw [← e2]; exact X'.warmed.alike) hp hb k1 k2 k3 T' rfl X'
    exact ⟨t2, st t2 a1, b1⟩
  · obtain ⟨k1, k2, k3⟩ := vx_keep h0 e1 hS hAX hf hL hF
    obtain ⟨t2, a1, b1⟩ := kx E ce q u t T'.heap (locs ++ L) e1.symm (by rw [← e2]; exact X'.warmed.alike) hp hb k1 k2 k3 (by rw [e1]; exact hce) hcv hcl T' rfl X'
    exact ⟨t2, st.trans a1, b1⟩
theorem vx_calld {S SX : Type} {post : UInt64 → S → Prop} {px : SX → Prop} {B : S → State → Prop} {BX : String → SX → State → Prop} {AX : Nat → Prop} (hr : vx_Run p l e R s m args below meth c H locs cells slots mc ms (F0 m pc ls st0) rest (va_Qd post B A1 a) (vx_X px BX AX) free) (hS : va_S A0 H0 H locs) (hA : ∀ q, q < H.size → A1 q → A0 q) (hf : ∀ q, free q → A0 q) (hAX : ∀ q, q < H.size → AX q → A0 q)
    (kx : ∀ (E : String) (ce : Cell) (q9 : Addr) (u : SX) (t : State) (H1 : Heap) (locs1 : List Loc), t.heap = H1 → s.vm.Alike t.vm → px u → BX E u t → H.size ≤ H1.size → (∀ q : Nat, q < H.size → ¬ AX q → H1[q]? = H[q]?) → va_S A0 H0 H1 locs1 → H1[q9]? = some ce → ce.vm = .none → s.vm.findClass E = some ce.cls → vx_W p l e R s m args below meth c H1 locs1 (cells + mc) (slots + ms) Q (F0 m pc ls rest) q9)
    (kk : ∀ (r : UInt64) (u : S) (t : State) (H1 : Heap) (locs1 : List Loc), t.heap = H1 → s.vm.Alike t.vm → post r u → B u t → H.size ≤ H1.size → (∀ q : Nat, q < H.size → ¬ A1 q → H1[q]? = H[q]?) → va_S A0 H0 H1 locs1 → W p l e R s m args below meth c H1 locs1 (cells + mc) (slots + ms) Q (F0 m (pc + 3) ls (.double r :: rest))) : W p l e R s m args below meth c H locs cells slots Q (F0 m pc ls st0) := by
  intro T hT X
  rcases hr T hT X with ⟨v, st₀, t, T', L, h0, X', hL, e1, e2, ⟨⟨r, u, hv, hp, hb⟩, hF⟩, st⟩ | ⟨q, st₀, t, T', L, E, ce, h0, X', hL, e1, e2, ⟨u, hp, hb, hF⟩, hce, hcv, hcl, st⟩
  · cases hv
    obtain ⟨k1, k2, k3⟩ := vx_keep h0 e1 hS hA hf hL hF
    obtain ⟨t2, a1, b1⟩ := kk r u t T'.heap (locs ++ L) e1.symm (by rw [← e2]; exact X'.warmed.alike) hp hb k1 k2 k3 T' rfl X'
    exact ⟨t2, st t2 a1, b1⟩
  · obtain ⟨k1, k2, k3⟩ := vx_keep h0 e1 hS hAX hf hL hF
    obtain ⟨t2, a1, b1⟩ := kx E ce q u t T'.heap (locs ++ L) e1.symm (by rw [← e2]; exact X'.warmed.alike) hp hb k1 k2 k3 (by rw [e1]; exact hce) hcv hcl T' rfl X'
    exact ⟨t2, st.trans a1, b1⟩
theorem vx_callv {S SX : Type} {post : S → Prop} {px : SX → Prop} {B : S → State → Prop} {BX : String → SX → State → Prop} {AX : Nat → Prop} (hr : vx_Run p l e R s m args below meth c H locs cells slots mc ms (F0 m pc ls st0) rest (va_Qv post B A1 a) (vx_X px BX AX) free) (hS : va_S A0 H0 H locs) (hA : ∀ q, q < H.size → A1 q → A0 q) (hf : ∀ q, free q → A0 q) (hAX : ∀ q, q < H.size → AX q → A0 q)
    (kx : ∀ (E : String) (ce : Cell) (q9 : Addr) (u : SX) (t : State) (H1 : Heap) (locs1 : List Loc), t.heap = H1 → s.vm.Alike t.vm → px u → BX E u t → H.size ≤ H1.size → (∀ q : Nat, q < H.size → ¬ AX q → H1[q]? = H[q]?) → va_S A0 H0 H1 locs1 → H1[q9]? = some ce → ce.vm = .none → s.vm.findClass E = some ce.cls → vx_W p l e R s m args below meth c H1 locs1 (cells + mc) (slots + ms) Q (F0 m pc ls rest) q9)
    (kk : ∀ (u : S) (t : State) (H1 : Heap) (locs1 : List Loc), t.heap = H1 → s.vm.Alike t.vm → post u → B u t → H.size ≤ H1.size → (∀ q : Nat, q < H.size → ¬ A1 q → H1[q]? = H[q]?) → va_S A0 H0 H1 locs1 → W p l e R s m args below meth c H1 locs1 (cells + mc) (slots + ms) Q (F0 m (pc + 3) ls (rest))) : W p l e R s m args below meth c H locs cells slots Q (F0 m pc ls st0) := by
  intro T hT X
  rcases hr T hT X with ⟨v, st₀, t, T', L, h0, X', hL, e1, e2, ⟨⟨u, hv, hp, hb⟩, hF⟩, st⟩ | ⟨q, st₀, t, T', L, E, ce, h0, X', hL, e1, e2, ⟨u, hp, hb, hF⟩, hce, hcv, hcl, st⟩
  · cases hv
    obtain ⟨k1, k2, k3⟩ := vx_keep h0 e1 hS hA hf hL hF
    obtain ⟨t2, a1, b1⟩ := kk u t T'.heap (locs ++ L) e1.symm (by rw [← e2]; exact X'.warmed.alike) hp hb k1 k2 k3 T' rfl X'
    exact ⟨t2, st t2 a1, b1⟩
  · obtain ⟨k1, k2, k3⟩ := vx_keep h0 e1 hS hAX hf hL hF
    obtain ⟨t2, a1, b1⟩ := kx E ce q u t T'.heap (locs ++ L) e1.symm (by rw [← e2]; exact X'.warmed.alike) hp hb k1 k2 k3 (by rw [e1]; exact hce) hcv hcl T' rfl X'
    exact ⟨t2, st.trans a1, b1⟩
/-- caught by the row x of this method's table; the rows ahead don't take it -/
theorem vx_catch {own name : String} {E : String} {ce : Cell} {q : Addr} (hown : s.vm.findClass own = some m.cls) (pre : List ExceptionTableEntry) (x : ExceptionTableEntry) (suf : List ExceptionTableEntry) (hsplit : c.exceptionTable.toList = pre ++ x :: suf)
    (hpass : ∀ z ∈ pre, covers z pc = false ∨ (z.catchType ≠ 0 ∧ ∃ nm : String, (Cond.classLink own z.catchType nm).before args s = true ∧ va_Nc E nm s)) (hx : covers x pc = true) (h0 : x.catchType ≠ 0)
    (hlink : (Cond.classLink own x.catchType name).before args s = true) (hcast : (Cond.castable E name).before args s = true) (hcell : H[q]? = some ce) (hv : ce.vm = .none) (hcl : s.vm.findClass E = some ce.cls)
    (kk : W p l e R s m args below meth c H locs cells slots Q (F0 m x.handlerPc ls [.ref q])) : vx_W p l e R s m args below meth c H locs cells slots Q (F0 m pc ls rest) q := by
  intro T hT X
  have hpl : e.platform.magicAccessors = ({} : Platform).magicAccessors := by rw [X.admits.platform]
  obtain ⟨c3, c4, hc3, hc4, hasg⟩ := Cond.castable_spec hcast
  cases Option.some.inj (hc3.symm.trans hcl)
  obtain ⟨c5, hc5, hcl5⟩ := Cond.classLink_spec hown hlink e.platform hpl
  cases Option.some.inj (hc4.symm.trans hc5)
  obtain ⟨vm', X', st⟩ := X.thenCaughtThrough q (g := F0 m pc ls rest) rfl (Steps.refl _) (by rw [hT]; exact hcell) (by rw [hv]; rfl) (by obtain ⟨k9, h9, -⟩ := Vm.findClass_spec hcl; exact ⟨k9, h9⟩) pre x suf hsplit
    (fun z hz => by
      rcases hpass z hz with h | ⟨hz0, nm, hl1, hn1⟩
      · exact Or.inl h
      · obtain ⟨c6, hc6, hcl6⟩ := Cond.classLink_spec hown hl1 e.platform hpl
        obtain ⟨a8, b8, h1, h2, h3⟩ := hn1
        cases Option.some.inj (h1.symm.trans hcl)
        cases Option.some.inj (h2.symm.trans hc6)
        exact Or.inr ⟨hz0, _, hcl6, h3⟩) hx (Or.inr ⟨h0, c4, hcl5, hasg⟩)
  obtain ⟨t, a1, b1⟩ := kk (T.setVm vm') hT X'
  exact ⟨t, st.trans a1, b1⟩
end Rows
section Ends
variable {p : Program} {l : Launch} {e : Env} {R : Room} {s : State} {m : MethodId} {args : Array Value} {below : List Frame} {meth : Method} {c : Code} {H : Heap} {locs : List Loc} {cells slots : Nat} {Q : State → Prop}
variable {mc ms : Nat} {free : Addr → Prop} {A0 A1 : Nat → Prop} {H0 : Heap} {a : Array Value} {ls : Array Slot} {st0 rest : List Value}
variable {Qc : Array Value → State → Outcome → State → Prop} {XC : String → State → State → Prop}
/-- what a body that may throw owes at its end -/
def vx_MQ (below : List Frame) (Qc : Array Value → State → Outcome → State → Prop) (XC : String → State → State → Prop) (a : Array Value) (s : State) (mc ms : Nat) (free : Addr → Prop) : State → Prop := fun t =>
  ∃ o, t.status = .running ∧ Ended t below o ∧ vx_Q Qc XC mc ms free a s o t
theorem vx_ret {g : JFrame} {mc ms : Nat} (k : W p l e R s m args below meth c H locs cells slots (MQ below Qc args s mc ms free) g) : W p l e R s m args below meth c H locs cells slots (vx_MQ below Qc XC args s mc ms free) g := by
  intro T hT X
  obtain ⟨t, a1, o, b1, b2, b3, b4⟩ := k T hT X
  exact ⟨t, a1, o, b1, b2, Or.inl ⟨b3, b4⟩⟩
/-- not caught here: it goes on to the caller -/
theorem vx_widen {g : JFrame} {q : Addr} {k n : Nat} (h1 : cells ≤ k) (h2 : slots ≤ n) (kk : vx_W p l e R s m args below meth c H locs k n Q g q) : vx_W p l e R s m args below meth c H locs cells slots Q g q := fun T hT X => kk T hT (stand_widen X h1 h2)
theorem vx_out {pc : Nat} {E : String} {ce : Cell} {q : Addr} {mc ms : Nat} (hout : ∀ x ∈ c.exceptionTable.toList, covers x pc = false) (hlocks : meth.locks = false) (hcell : H[q]? = some ce) (hv : ce.vm = .none) (hcl : s.vm.findClass E = some ce.cls)
    (hx : ∀ t : State, t.heap = H → s.vm.Alike t.vm → XC E s t) (hf : ∀ z ∈ locs, free z.base) (hc : cells ≤ mc) (hs : slots ≤ ms) :
    vx_W p l e R s m args below meth c H locs cells slots (vx_MQ below Qc XC args s mc ms free) (F0 m pc ls rest) q := by
  intro T hT X
  obtain ⟨st1, hrun, hend, hW, hsm⟩ := X.leaveThrown q (g := F0 m pc ls rest) rfl rfl rfl hout hlocks
  have hcell9 : (T.setFrames (.throwing q :: below)).heap[q]? = some ce := by
    show T.heap[q]? = some ce
    rw [hT]; exact hcell
  exact ⟨_, st1, .threw q, hrun, hend, Or.inr ⟨q, rfl, E, ce, locs, hx _ hT hW.alike, hcell9, hv, hcl, hW, hsm.mono hc hs, hf⟩⟩
theorem vx_frame {U : State} {k n : Nat} (h : s.sameButNew ({ U with vm := s.vm } : State) locs k n) : s.heap.size ≤ U.heap.size ∧ ∀ q : Nat, q < s.heap.size → (∀ z ∈ locs, z.base ≠ q) → U.heap[q]? = s.heap[q]? := by
  obtain ⟨-, h2, -, -, -, h6⟩ := h
  refine ⟨h2, fun q hq hz => ?_⟩
  obtain ⟨c9, e1, e2, e3, e4⟩ := h6 q _ (Array.getElem?_eq_getElem hq)
  have hs : c9.slots = (s.heap[q]).slots := Array.ext_getElem? fun i => e4 i fun hm => hz _ hm rfl
  have h9 : c9 = s.heap[q] := by
    rw [hs] at e2
    exact e2
  have e5 : U.heap[q]? = some c9 := e1
  rw [e5, h9, Array.getElem?_eq_getElem hq]
/-- the words of a throw but the four that speak of the heap -/
def vx_no (w : Cond) : Bool := decide (w ≠ .isRef (.static Bundle.tN "UNASSIGNED_STACK" Bundle.steD)) && decide (w ≠ .isRef (.static Bundle.tN "SUPPRESSED_SENTINEL" Bundle.listD)) && decide (w ≠ .laysStatic Bundle.tN "UNASSIGNED_STACK" Bundle.steD) && decide (w ≠ .laysStatic Bundle.tN "SUPPRESSED_SENTINEL" Bundle.listD)
def vx_at0 (own : String) (ic : Nat) (X : String) (names : List String) : List Cond := (Bundle.ownAtoms0 own ic X names).filter vx_no
def vx_atS (own : String) (ic : Nat) (X : String) (names : List String) : List Cond := (Bundle.ownAtoms own ic X names).filter vx_no
/-- a word that the tables alone decide, or a good one -/
def vx_ot (w : Cond) : Bool := w.onTables || goodWord w
theorem vx_ot_at {args a' : Array Value} {s U : State} {w : Cond} (hW : s.WarmedH U.vm) (hvm : s.vm = U.vm) (hg : vx_ot w = true) (h : w.before args s = true) : w.before a' U = true := by
  simp only [vx_ot, Bool.or_eq_true] at hg
  rcases hg with hg | hg
  · exact va_tabs hg hvm h
  · exact word_at hW (good_of_word hg) h
/-- a list's words: the good ones out of the method's own list, the others by premises of their own -/
theorem vx_hat {args : Array Value} {s : State} {L B : List Cond} (h1 : ∀ w ∈ L.filter goodWord, w.before args s = true) (h2 : ∀ w ∈ L.filter (fun w => !goodWord w), w ∈ B) (h3 : ∀ w ∈ B, w.before args s = true) : ∀ w ∈ L, w.before args s = true := by
  intro w hw
  by_cases g : goodWord w = true
  · exact h1 w (List.mem_filter.mpr ⟨hw, g⟩)
  · refine h3 w (h2 w (List.mem_filter.mpr ⟨hw, ?_⟩))
    show (!goodWord w) = true
    cases hgw : goodWord w
    · rfl
    · exact absurd hgw g
theorem vx_c {args : Array Value} {s : State} {w : Cond} {B : List Cond} (h : w.before args s = true) (t : ∀ w ∈ B, w.before args s = true) : ∀ w' ∈ w :: B, w'.before args s = true := fun w' h' => (List.mem_cons.mp h').elim (fun e => by rw [e]; exact h) (t w')
theorem vx_n {args : Array Value} {s : State} : ∀ w ∈ ([] : List Cond), w.before args s = true := fun _ h => nomatch h
theorem vx_own {args : Array Value} {s : State} {L : List Cond} (h1 : ∀ w ∈ L.filter vx_no, w.before args s = true)
    (hU : (Cond.isRef (.static Bundle.tN "UNASSIGNED_STACK" Bundle.steD)).before args s = true) (hN : (Cond.isRef (.static Bundle.tN "SUPPRESSED_SENTINEL" Bundle.listD)).before args s = true)
    (lU : (Cond.laysStatic Bundle.tN "UNASSIGNED_STACK" Bundle.steD).before args s = true) (lN : (Cond.laysStatic Bundle.tN "SUPPRESSED_SENTINEL" Bundle.listD).before args s = true) : ∀ w ∈ L, w.before args s = true := by
  intro w hw
  by_cases e1 : w = .isRef (.static Bundle.tN "UNASSIGNED_STACK" Bundle.steD)
  · rw [e1]; exact hU
  · by_cases e2 : w = .isRef (.static Bundle.tN "SUPPRESSED_SENTINEL" Bundle.listD)
    · rw [e2]; exact hN
    · by_cases e3 : w = .laysStatic Bundle.tN "UNASSIGNED_STACK" Bundle.steD
      · rw [e3]; exact lU
      · by_cases e4 : w = .laysStatic Bundle.tN "SUPPRESSED_SENTINEL" Bundle.listD
        · rw [e4]; exact lN
        · exact h1 w (List.mem_filter.mpr ⟨hw, by unfold vx_no; rw [decide_eq_true e1, decide_eq_true e2, decide_eq_true e3, decide_eq_true e4]; rfl⟩)
/-- where a static field lies, its class's statics cell in H -/
def vx_L (C n d : String) (A : Nat → Prop) (U : State) (H : Heap) : Prop := ∃ (c : ClassId) (k : Class) (i : Nat) (f : Field) (a : Nat) (cell : Cell), U.vm.findClass C = some c ∧ U.fieldFound? C n d = some (c, k, i, f) ∧ f.isStatic = true ∧ k.statics = some a ∧ H[a]? = some cell ∧ cell.vm.isStatics = true ∧ cell.cls = c ∧ f.slot < cell.slots.size ∧ k.staticTypes[f.slot]? = some f.type ∧ ¬ A a
theorem vx_L.moved {C n d : String} {A : Nat → Prop} {u U : State} {H : Heap} (hvm : u.vm.Alike U.vm) (h : vx_L C n d A u H) : vx_L C n d A U H := by
  obtain ⟨c, k, i, f, a, cell, h1, h2, h3, h4, h5, h6, h7, h8, h9, h10⟩ := h
  obtain ⟨k', hi', he⟩ := State.fieldFound?_setVm hvm h2
  exact ⟨c, k', i, f, a, cell, by rw [hvm.findClass]; exact h1, hi', h3, by rw [he]; exact h4, h5, h6, h7, h8, by rw [he]; exact h9, h10⟩
theorem vx_L.kept {C n d : String} {A : Nat → Prop} {U : State} {H H1 : Heap} (h : vx_L C n d A U H) (hq : ∀ a : Nat, a < H.size → ¬ A a → H1[a]? = H[a]?) : vx_L C n d A U H1 := by
  obtain ⟨c, k, i, f, a, cell, h1, h2, h3, h4, h5, h6, h7, h8, h9, h10⟩ := h
  exact ⟨c, k, i, f, a, cell, h1, h2, h3, h4, by rw [hq a (Array.getElem?_eq_some_iff.mp h5).1 h10]; exact h5, h6, h7, h8, h9, h10⟩
theorem vx_L.narrow {C n d : String} {A B : Nat → Prop} {U : State} {H : Heap} (h : vx_L C n d A U H) (hAB : ∀ q, B q → A q) : vx_L C n d B U H := by
  obtain ⟨c, k, i, f, a, cell, h1, h2, h3, h4, h5, h6, h7, h8, h9, h10⟩ := h
  exact ⟨c, k, i, f, a, cell, h1, h2, h3, h4, h5, h6, h7, h8, h9, fun z => h10 (hAB _ z)⟩
theorem vx_L.word {C n d : String} {A : Nat → Prop} {s : State} {args : Array Value} (h : vx_L C n d A s s.heap) : (Cond.laysStatic C n d).before args s = true := by
  obtain ⟨c, k, i, f, a, cell, h1, h2, h3, h4, h5, h6, h7, h8, h9, -⟩ := h
  show (Cond.laysStatic C n d).holds args s none s [] = true
  exact Cond.laysStatic_of h1 h2 h3 h4 h5 h6 h7 h8 h9
/-- .. and what it holds: null or some reference -/
def vx_Zq (C n d : String) (A : Nat → Prop) (U : State) (H : Heap) : Prop := va_Zq C n d A U H ∧ vx_L C n d A U H
theorem vx_Zq.moved {C n d : String} {A : Nat → Prop} {u U : State} {H : Heap} (hvm : u.vm.Alike U.vm) (h : vx_Zq C n d A u H) : vx_Zq C n d A U H := ⟨va_Zq.moved hvm h.1, vx_L.moved hvm h.2⟩
theorem vx_Zq.kept {C n d : String} {A : Nat → Prop} {U : State} {H H1 : Heap} (h : vx_Zq C n d A U H) (hq : ∀ a : Nat, a < H.size → ¬ A a → H1[a]? = H[a]?) : vx_Zq C n d A U H1 := ⟨va_Zq.kept h.1 hq, vx_L.kept h.2 hq⟩
theorem vx_Zq.narrow {C n d : String} {A B : Nat → Prop} {U : State} {H : Heap} (h : vx_Zq C n d A U H) (hAB : ∀ q, B q → A q) : vx_Zq C n d B U H := ⟨va_Zq.narrow h.1 hAB, vx_L.narrow h.2 hAB⟩
theorem vx_Zqof {args : Array Value} {s : State} {C n d : String} {A : Nat → Prop} (hl : (Cond.laysStatic C n d).before args s = true) (hini : (Cond.initialized C).before args s = true) (h : (Cond.isRef (.static C n d)).before args s = true) (hA : ∀ a : Nat, a < s.heap.size → ¬ A a) : vx_Zq C n d A s s.heap := by
  refine ⟨va_Zqof hl hini h hA, ?_⟩
  obtain ⟨c, k, i, f, a, cell, h1, h2, h3, h4, h5, h6, h7, h8, h9⟩ := Cond.laysStatic_spec hl
  exact ⟨c, k, i, f, a, cell, h1, h2, h3, h4, h5, h6, h7, h8, h9, hA a (Array.getElem?_eq_some_iff.mp h5).1⟩
theorem vx_isRef {C n d : String} {v : Value} {A : Nat → Prop} {s : State} {args : Array Value} (h : va_Z C n d v A s s.heap) (hv : v.isRef = true) : (Cond.isRef (.static C n d)).before args s = true := by
  obtain ⟨cf, kf, fi, f, a, cell, h1, h2, h3, h4, h5, h6, h7, -⟩ := h
  have he : (Term.static C n d).eval args s none [] s = some v := by
    simp [Term.eval, State.fieldNamed?, h1, h2, h4, h5, h6, h7]
  simp only [Cond.before, Cond.holds, Cond.value, he]
  cases v <;> simp_all [Value.isRef]
theorem vx_isRefq {C n d : String} {A : Nat → Prop} {s : State} {args : Array Value} (h : va_Zq C n d A s s.heap) : (Cond.isRef (.static C n d)).before args s = true := by
  rcases h with h | ⟨t, h⟩
  · exact vx_isRef h rfl
  · exact vx_isRef h rfl
/-- the same frame, seen from here: as if the method were called anew in this heap -/
theorem vx_rebase {T : State} (X : Stand p l e R s m args below meth c T locs cells slots) {R' : Room} (hf : R'.frames ≤ R.frames) (hl : R'.locals ≤ R.locals) (hc : cells + R'.cells ≤ R.cells) (hs : slots + R'.slots ≤ R.slots) :
    Stand p l e R' ((T.setVm s.vm).setFrames (.invoking m args :: below)) m args below meth c T [] 0 0 := by
  have htop : (T.setVm s.vm).topJava?.isSome := X.here.top
  have hF : ((T.setVm s.vm).setFrames (.invoking m args :: below)).frames = .invoking m args :: below := State.frames_setFrames _ (State.cur_lt_of_top htop)
  obtain ⟨g₀, hg0⟩ := Option.isSome_iff_exists.mp htop
  obtain ⟨r, hr⟩ := State.topJava?_eq_some.mp hg0
  have hl9 : e.platform.stackLimits (T.setVm s.vm).me = e.platform.stackLimits s.me := X.limits
  have hb9 : (T.setVm s.vm).me.stackBytes = s.me.stackBytes := X.bytes
  refine ⟨X.admits, X.cas, X.clock, hF, ?_, X.hears, X.method, X.code, X.here, X.tail, X.warmed, ?_, ?_, ?_⟩
  · have h := X.room
    have hU : ((T.setVm s.vm).setFrames (.invoking m args :: below)).localsInUse = s.localsInUse := by
      rw [State.localsInUse_invoking hF (meth := meth) (c := c) X.method X.code, State.localsInUse_invoking X.frames X.method X.code]
    simp only [State.hasRoom, Bool.and_eq_true, decide_eq_true_eq] at h ⊢
    obtain ⟨⟨⟨⟨h1, h2, h3, h4, h5, h6⟩, h7⟩, h8⟩, h9⟩ := h
    rw [X.frames, List.length_cons] at h2 h3
    have q1 := X.heapSize
    have q2 := X.used
    simp only [hF, hU, List.length_cons, State.stackLimits_setFrames, State.stackBytes_setFrames, hl9, hb9]
    refine ⟨⟨⟨⟨by omega, by omega, by omega, by omega, by omega, h6⟩, ?_⟩, ?_⟩, X.book⟩
    · show T.heap.size + R'.cells ≤ e.platform.maxCells
      omega
    · show T.slotsUsed + R'.slots ≤ e.platform.maxSlots
      omega
  · rw [State.stackLimits_setFrames]; rfl
  · rw [State.stackBytes_setFrames]; rfl
  · refine ⟨?_, Nat.le_refl _, Nat.le_refl _, ?_, ?_, fun a c9 h9 => ⟨c9, h9, rfl, rfl, fun _ _ => rfl⟩⟩
    · obtain ⟨t, ht, -⟩ := State.frames_cons hr
      show T.setVm s.vm = { ((T.setVm s.vm).setFrames (.invoking m args :: below)).setFrames (T.setVm s.vm).frames with heap := T.heap, slotsUsed := T.slotsUsed }
      rw [State.setFrames_setFrames, State.setFrames_self ht]
      rfl
    · show T.slotsUsed = T.slotsUsed + ((T.heap.toList.drop T.heap.size).map (·.slots.size)).sum
      rw [List.drop_eq_nil_of_le (Nat.le_of_eq Array.length_toList)]
      rfl
    · show ((T.heap.toList.drop T.heap.size).map (·.slots.size)).sum ≤ 0
      rw [List.drop_eq_nil_of_le (Nat.le_of_eq Array.length_toList)]
      exact Nat.le_refl _
/-- 'throw new E()': new; dup; invokespecial; athrow -/
theorem vx_throw0 {cc : ByteArray} {pc : Nat} (hexec : p.tables.exec = Jvm.exec) (hb : c.code = cc) (hl : l.stackTraces = false) {own cls : String} {names : List String} {ik ic mc ms : Nat} {A : Nat → Prop}
    (hown : s.vm.findClass own = some m.cls) (hcls : Bundle.fit cls = true) (hnames : ∀ n ∈ names, Bundle.fit n = true)
    (hk : (Cond.classLink own ik cls).before args s = true) (hini : (Cond.initialized cls).before args s = true) (hat : ∀ w ∈ vx_at0 own ic cls names, w.before args s = true)
    (hgood : ∀ w ∈ Cond.classLink own ik cls :: Cond.initialized cls :: vx_at0 own ic cls names, vx_ot w = true)
    (hU : vx_Zq Bundle.tN "UNASSIGNED_STACK" Bundle.steD A s s.heap) (hN : vx_Zq Bundle.tN "SUPPRESSED_SENTINEL" Bundle.listD A s s.heap) (hS : va_S A s.heap H locs) (hsize : ls.size = c.maxLocals)
    (d0 : decode cc pc = .ok (.new ik, 3)) (d3 : decode cc (pc + 3) = .ok (.dup, 1)) (d4 : decode cc (pc + 4) = .ok (.invokespecial ic, 3)) (d7 : decode cc (pc + 7) = .ok (.athrow, 1))
    (hout : ∀ x ∈ c.exceptionTable.toList, covers x (pc + 7) = false)
    (hRframes : names.length + 3 < R.frames) (hRlocals : (rest.map fun v => v.category).sum + (13 * (names.length + 1) + 42) ≤ R.locals) (hRcells : cells + 1 ≤ R.cells) (hRslots : slots + 6 ≤ R.slots) (hlocks : meth.locks = false)
    (hx : ∀ t : State, s.vm.Alike t.vm → H.size ≤ t.heap.size → (∀ q : Nat, q < H.size → t.heap[q]? = H[q]?) → XC cls s t)
    (hf : ∀ z ∈ locs, free z.base) (hc : cells + 1 ≤ mc) (hs : slots + 6 ≤ ms) :
    W p l e R s m args below meth c H locs cells slots (vx_MQ below Qc XC args s mc ms free) (F0 m pc ls rest) := by
  intro T hT X
  have htr : e.platform.stackTraces = false := (show e.platform.stackTraces = l.stackTraces by rw [X.admits.platform]).trans hl
  have Y := vx_rebase X (R' := { frames := R.frames, locals := R.locals, cells := 1, slots := 6 }) (Nat.le_refl _) (Nat.le_refl _) hRcells hRslots
  obtain ⟨s', hA⟩ : ∃ z, z = (T.setVm s.vm).setFrames (.invoking m args :: below) := ⟨_, rfl⟩
  rw [← hA] at Y
  have hvm : s'.vm = s.vm := by rw [hA]; rfl
  have hhp : s'.heap = H := by rw [hA]; exact hT
  have hW0 : s.WarmedH s'.vm := by rw [hvm]; exact State.WarmedH.refl s
  have hat' : ∀ w ∈ vx_at0 own ic cls names, w.before args s' = true := fun w hw => vx_ot_at hW0 hvm.symm (hgood w (List.mem_cons_of_mem _ (List.mem_cons_of_mem _ hw))) (hat w hw)
  have hk' : (Cond.classLink own ik cls).before args s' = true := vx_ot_at hW0 hvm.symm (hgood _ List.mem_cons_self) hk
  have hini' : (Cond.initialized cls).before args s' = true := vx_ot_at hW0 hvm.symm (hgood _ (List.mem_cons_of_mem _ List.mem_cons_self)) hini
  have hU' : vx_Zq Bundle.tN "UNASSIGNED_STACK" Bundle.steD A s' s'.heap := by rw [hhp]; exact vx_Zq.moved hW0.alike (hU.kept hS.2.1)
  have hN' : vx_Zq Bundle.tN "SUPPRESSED_SENTINEL" Bundle.listD A s' s'.heap := by rw [hhp]; exact vx_Zq.moved hW0.alike (hN.kept hS.2.1)
  have h : ∀ w ∈ Bundle.ownAtoms0 own ic cls names, w.before args s' = true := vx_own hat' (vx_isRefq hU'.1) (vx_isRefq hN'.1) hU'.2.word hN'.2.word
  have hown' : s'.vm.findClass own = some m.cls := by rw [hvm]; exact hown
  have hins : (Cond.instantiable cls 6).before args s' = true := h _ (by simp [Bundle.ownAtoms0])
  obtain ⟨vm₁, cX, kX, hfX, hkX, -, -, X₁, st1⟩ := Y.newCold hexec (own := own) (C := cls) (index := ik) (n := 6) hown' hk' hins hini'
    (g := F0 m pc ls rest) rfl (by rw [hb]; exact d0) (Nat.le_refl _) (Nat.le_refl _)
  generalize hT1 : (T.setVm vm₁).pushCell { cls := cX, slots := kX.instanceTypes.map defaultValue, vm := .none } = T1 at X₁ st1
  have hcat : (Value.ref T.heap.size).category = 1 := rfl
  have hcellA : T1.heap[T.heap.size]? = some (freshCell cX kX) := by rw [← hT1]; exact State.heap_pushCell_size _ _
  have d3' : decode c.code (pc + 3) = .ok (.dup, 1) := by rw [hb]; exact d3
  obtain ⟨U, hsteps, hrun, hend, hW, hsame, ce, hce, hO⟩ := X₁.ctorThrow0 hexec htr (own := own) (cls := cls) (names := names) (ic := ic) hown' hcls hnames h (fun x hx => nomatch hx) hfX hkX hcellA (by rw [hhp, hT]; exact Nat.le_refl _)
    (g := { method := m, pc := pc + 4, locals := ls, stack := .ref T.heap.size :: .ref T.heap.size :: rest, locked := none }) rfl hsize rfl rfl (rest := rest) rfl
    (by rw [hb]; exact d4) (by rw [hb]; exact d7) hout hRframes (by simp only [List.map_cons, List.sum_cons, hcat]; omega) hlocks
  obtain ⟨f1, f2⟩ := vx_frame hsame
  rw [hhp] at f1 f2
  have hWs : s.WarmedH U.vm := State.WarmedH.trans hW0 hW
  have hcl : s.vm.findClass cls = some ce.cls := by
    have h9 := hO.cls
    rw [hvm] at h9
    exact h9
  have hall : s.sameButNew ({ U with vm := s.vm } : State) locs mc ms := by
    subst hA
    obtain ⟨e1, e2⟩ := hsame
    rw [State.setFrames_setFrames] at e1
    have h2 : (T.setVm s.vm).sameButNew ({ U with vm := s.vm } : State) [] (0 + 1) (0 + 6) := ⟨e1, e2⟩
    have h3 := X.same.trans h2
    rw [List.append_nil] at h3
    exact h3.mono hc hs
  refine ⟨U, ?_, .threw T.heap.size, hrun, hend, Or.inr ⟨T.heap.size, rfl, cls, ce, locs, hx U hWs.alike f1 (fun q hq => f2 q hq (fun z hz => nomatch hz)), hce, hO.vm, hcl, hWs, hall, hf⟩⟩
  refine st1 _ ?_
  show Steps p.tables e below (T1.setTop { method := m, pc := pc + 3, locals := ls, stack := .ref T.heap.size :: rest, locked := none }) _
  jvm_step X₁.here [X₁.here.top, hexec, d3', Value.category]
  exact hsteps
/-- 'throw new E("text")': new; dup; ldc; invokespecial; athrow -/
theorem vx_throwS {cc : ByteArray} {pc : Nat} (hexec : p.tables.exec = Jvm.exec) (hb : c.code = cc) (hl : l.stackTraces = false) {own cls text : String} {names : List String} {ik is ic mc ms sa : Nat} {A : Nat → Prop}
    (hown : s.vm.findClass own = some m.cls) (hcls : Bundle.fit cls = true) (hnames : ∀ n ∈ names, Bundle.fit n = true)
    (hk : (Cond.classLink own ik cls).before args s = true) (hini : (Cond.initialized cls).before args s = true) (hstr : vk_R own is text sa s) (hat : ∀ w ∈ vx_atS own ic cls names, w.before args s = true)
    (hgood : ∀ w ∈ Cond.classLink own ik cls :: Cond.initialized cls :: vx_atS own ic cls names, vx_ot w = true)
    (hU : vx_Zq Bundle.tN "UNASSIGNED_STACK" Bundle.steD A s s.heap) (hN : vx_Zq Bundle.tN "SUPPRESSED_SENTINEL" Bundle.listD A s s.heap) (hS : va_S A s.heap H locs) (hsize : ls.size = c.maxLocals)
    (d0 : decode cc pc = .ok (.new ik, 3)) (d3 : decode cc (pc + 3) = .ok (.dup, 1)) (d4 : decode cc (pc + 4) = .ok (.ldc is, 2)) (d6 : decode cc (pc + 6) = .ok (.invokespecial ic, 3)) (d9 : decode cc (pc + 9) = .ok (.athrow, 1))
    (hout : ∀ x ∈ c.exceptionTable.toList, covers x (pc + 9) = false)
    (hRframes : names.length + 3 < R.frames) (hRlocals : (rest.map fun v => v.category).sum + (13 * (names.length + 1) + 43) ≤ R.locals) (hRcells : cells + 1 ≤ R.cells) (hRslots : slots + 6 ≤ R.slots) (hlocks : meth.locks = false)
    (hx : ∀ t : State, s.vm.Alike t.vm → H.size ≤ t.heap.size → (∀ q : Nat, q < H.size → t.heap[q]? = H[q]?) → XC cls s t)
    (hf : ∀ z ∈ locs, free z.base) (hc : cells + 1 ≤ mc) (hs : slots + 6 ≤ ms) :
    W p l e R s m args below meth c H locs cells slots (vx_MQ below Qc XC args s mc ms free) (F0 m pc ls rest) := by
  intro T hT X
  have htr : e.platform.stackTraces = false := (show e.platform.stackTraces = l.stackTraces by rw [X.admits.platform]).trans hl
  have Y := vx_rebase X (R' := { frames := R.frames, locals := R.locals, cells := 1, slots := 6 }) (Nat.le_refl _) (Nat.le_refl _) hRcells hRslots
  obtain ⟨s', hA⟩ : ∃ z, z = (T.setVm s.vm).setFrames (.invoking m args :: below) := ⟨_, rfl⟩
  rw [← hA] at Y
  have hvm : s'.vm = s.vm := by rw [hA]; rfl
  have hhp : s'.heap = H := by rw [hA]; exact hT
  have hW0 : s.WarmedH s'.vm := by rw [hvm]; exact State.WarmedH.refl s
  have hat' : ∀ w ∈ vx_atS own ic cls names, w.before args s' = true := fun w hw => vx_ot_at hW0 hvm.symm (hgood w (List.mem_cons_of_mem _ (List.mem_cons_of_mem _ hw))) (hat w hw)
  have hk' : (Cond.classLink own ik cls).before args s' = true := vx_ot_at hW0 hvm.symm (hgood _ List.mem_cons_self) hk
  have hini' : (Cond.initialized cls).before args s' = true := vx_ot_at hW0 hvm.symm (hgood _ (List.mem_cons_of_mem _ List.mem_cons_self)) hini
  have hU' : vx_Zq Bundle.tN "UNASSIGNED_STACK" Bundle.steD A s' s'.heap := by rw [hhp]; exact vx_Zq.moved hW0.alike (hU.kept hS.2.1)
  have hN' : vx_Zq Bundle.tN "SUPPRESSED_SENTINEL" Bundle.listD A s' s'.heap := by rw [hhp]; exact vx_Zq.moved hW0.alike (hN.kept hS.2.1)
  have h : ∀ w ∈ Bundle.ownAtoms own ic cls names, w.before args s' = true := vx_own hat' (vx_isRefq hU'.1) (vx_isRefq hN'.1) hU'.2.word hN'.2.word
  have hown' : s'.vm.findClass own = some m.cls := by rw [hvm]; exact hown
  have hins : (Cond.instantiable cls 6).before args s' = true := h _ (by simp [Bundle.ownAtoms])
  obtain ⟨vm₁, cX, kX, hfX, hkX, -, -, X₁, st1⟩ := Y.newCold hexec (own := own) (C := cls) (index := ik) (n := 6) hown' hk' hins hini'
    (g := F0 m pc ls rest) rfl (by rw [hb]; exact d0) (Nat.le_refl _) (Nat.le_refl _)
  generalize hT1 : (T.setVm vm₁).pushCell { cls := cX, slots := kX.instanceTypes.map defaultValue, vm := .none } = T1 at X₁ st1
  have hcat : (Value.ref T.heap.size).category = 1 := rfl
  have hcellA : T1.heap[T.heap.size]? = some (freshCell cX kX) := by rw [← hT1]; exact State.heap_pushCell_size _ _
  have d3' : decode c.code (pc + 3) = .ok (.dup, 1) := by rw [hb]; exact d3
  have d4' : decode c.code (pc + 4) = .ok (.ldc is, 2) := by rw [hb]; exact d4
  have hstr' : vk_R own is text sa s' := vk_R.warm hW0 hstr
  obtain ⟨U, hsteps, hrun, hend, hW, hsame, ce, hce, hO⟩ := X₁.ctorThrowS hexec htr (own := own) (cls := cls) (names := names) (ic := ic) hown' hcls hnames h (fun x hx => nomatch hx) hfX hkX hcellA (by rw [hhp, hT]; exact Nat.le_refl _) (msg := .ref sa) rfl
    (g := { method := m, pc := pc + 6, locals := ls, stack := .ref sa :: .ref T.heap.size :: .ref T.heap.size :: rest, locked := none }) rfl hsize rfl rfl (rest := rest) rfl
    (by rw [hb]; exact d6) (by rw [hb]; exact d9) hout hRframes (by simp only [List.map_cons, List.sum_cons, hcat]; omega) hlocks
  obtain ⟨f1, f2⟩ := vx_frame hsame
  rw [hhp] at f1 f2
  have hWs : s.WarmedH U.vm := State.WarmedH.trans hW0 hW
  have hcl : s.vm.findClass cls = some ce.cls := by
    have h9 := hO.cls
    rw [hvm] at h9
    exact h9
  have hall : s.sameButNew ({ U with vm := s.vm } : State) locs mc ms := by
    subst hA
    obtain ⟨e1, e2⟩ := hsame
    rw [State.setFrames_setFrames] at e1
    have h2 : (T.setVm s.vm).sameButNew ({ U with vm := s.vm } : State) [] (0 + 1) (0 + 6) := ⟨e1, e2⟩
    have h3 := X.same.trans h2
    rw [List.append_nil] at h3
    exact h3.mono hc hs
  refine ⟨U, ?_, .threw T.heap.size, hrun, hend, Or.inr ⟨T.heap.size, rfl, cls, ce, locs, hx U hWs.alike f1 (fun q hq => f2 q hq (fun z hz => nomatch hz)), hce, hO.vm, hcl, hWs, hall, hf⟩⟩
  refine st1 _ ?_
  show Steps p.tables e below (T1.setTop { method := m, pc := pc + 3, locals := ls, stack := .ref T.heap.size :: rest, locked := none }) _
  jvm_step X₁.here [X₁.here.top, hexec, d3', Value.category]
  exact X₁.ldcString hexec (own := own) (text := text) (index := is) (a := sa) hown' hstr'.1 hstr'.2
    (g := { method := m, pc := pc + 4, locals := ls, stack := .ref T.heap.size :: .ref T.heap.size :: rest, locked := none }) rfl d4' _ hsteps
/-- 'throw new E("text")', the text by a wide index -/
theorem vx_throwSW {cc : ByteArray} {pc : Nat} (hexec : p.tables.exec = Jvm.exec) (hb : c.code = cc) (hl : l.stackTraces = false) {own cls text : String} {names : List String} {ik is ic mc ms sa : Nat} {A : Nat → Prop}
    (hown : s.vm.findClass own = some m.cls) (hcls : Bundle.fit cls = true) (hnames : ∀ n ∈ names, Bundle.fit n = true)
    (hk : (Cond.classLink own ik cls).before args s = true) (hini : (Cond.initialized cls).before args s = true) (hstr : vk_R own is text sa s) (hat : ∀ w ∈ vx_atS own ic cls names, w.before args s = true)
    (hgood : ∀ w ∈ Cond.classLink own ik cls :: Cond.initialized cls :: vx_atS own ic cls names, vx_ot w = true)
    (hU : vx_Zq Bundle.tN "UNASSIGNED_STACK" Bundle.steD A s s.heap) (hN : vx_Zq Bundle.tN "SUPPRESSED_SENTINEL" Bundle.listD A s s.heap) (hS : va_S A s.heap H locs) (hsize : ls.size = c.maxLocals)
    (d0 : decode cc pc = .ok (.new ik, 3)) (d3 : decode cc (pc + 3) = .ok (.dup, 1)) (d4 : decode cc (pc + 4) = .ok (.ldc_w is, 3)) (d7 : decode cc (pc + 7) = .ok (.invokespecial ic, 3)) (d10 : decode cc (pc + 10) = .ok (.athrow, 1))
    (hout : ∀ x ∈ c.exceptionTable.toList, covers x (pc + 10) = false)
    (hRframes : names.length + 3 < R.frames) (hRlocals : (rest.map fun v => v.category).sum + (13 * (names.length + 1) + 43) ≤ R.locals) (hRcells : cells + 1 ≤ R.cells) (hRslots : slots + 6 ≤ R.slots) (hlocks : meth.locks = false)
    (hx : ∀ t : State, s.vm.Alike t.vm → H.size ≤ t.heap.size → (∀ q : Nat, q < H.size → t.heap[q]? = H[q]?) → XC cls s t)
    (hf : ∀ z ∈ locs, free z.base) (hc : cells + 1 ≤ mc) (hs : slots + 6 ≤ ms) :
    W p l e R s m args below meth c H locs cells slots (vx_MQ below Qc XC args s mc ms free) (F0 m pc ls rest) := by
  intro T hT X
  have htr : e.platform.stackTraces = false := (show e.platform.stackTraces = l.stackTraces by rw [X.admits.platform]).trans hl
  have Y := vx_rebase X (R' := { frames := R.frames, locals := R.locals, cells := 1, slots := 6 }) (Nat.le_refl _) (Nat.le_refl _) hRcells hRslots
  obtain ⟨s', hA⟩ : ∃ z, z = (T.setVm s.vm).setFrames (.invoking m args :: below) := ⟨_, rfl⟩
  rw [← hA] at Y
  have hvm : s'.vm = s.vm := by rw [hA]; rfl
  have hhp : s'.heap = H := by rw [hA]; exact hT
  have hW0 : s.WarmedH s'.vm := by rw [hvm]; exact State.WarmedH.refl s
  have hat' : ∀ w ∈ vx_atS own ic cls names, w.before args s' = true := fun w hw => vx_ot_at hW0 hvm.symm (hgood w (List.mem_cons_of_mem _ (List.mem_cons_of_mem _ hw))) (hat w hw)
  have hk' : (Cond.classLink own ik cls).before args s' = true := vx_ot_at hW0 hvm.symm (hgood _ List.mem_cons_self) hk
  have hini' : (Cond.initialized cls).before args s' = true := vx_ot_at hW0 hvm.symm (hgood _ (List.mem_cons_of_mem _ List.mem_cons_self)) hini
  have hU' : vx_Zq Bundle.tN "UNASSIGNED_STACK" Bundle.steD A s' s'.heap := by rw [hhp]; exact vx_Zq.moved hW0.alike (hU.kept hS.2.1)
  have hN' : vx_Zq Bundle.tN "SUPPRESSED_SENTINEL" Bundle.listD A s' s'.heap := by rw [hhp]; exact vx_Zq.moved hW0.alike (hN.kept hS.2.1)
  have h : ∀ w ∈ Bundle.ownAtoms own ic cls names, w.before args s' = true := vx_own hat' (vx_isRefq hU'.1) (vx_isRefq hN'.1) hU'.2.word hN'.2.word
  have hown' : s'.vm.findClass own = some m.cls := by rw [hvm]; exact hown
  have hins : (Cond.instantiable cls 6).before args s' = true := h _ (by simp [Bundle.ownAtoms])
  obtain ⟨vm₁, cX, kX, hfX, hkX, -, -, X₁, st1⟩ := Y.newCold hexec (own := own) (C := cls) (index := ik) (n := 6) hown' hk' hins hini'
    (g := F0 m pc ls rest) rfl (by rw [hb]; exact d0) (Nat.le_refl _) (Nat.le_refl _)
  generalize hT1 : (T.setVm vm₁).pushCell { cls := cX, slots := kX.instanceTypes.map defaultValue, vm := .none } = T1 at X₁ st1
  have hcat : (Value.ref T.heap.size).category = 1 := rfl
  have hcellA : T1.heap[T.heap.size]? = some (freshCell cX kX) := by rw [← hT1]; exact State.heap_pushCell_size _ _
  have d3' : decode c.code (pc + 3) = .ok (.dup, 1) := by rw [hb]; exact d3
  have d4' : decode c.code (pc + 4) = .ok (.ldc_w is, 3) := by rw [hb]; exact d4
  have hstr' : vk_R own is text sa s' := vk_R.warm hW0 hstr
  obtain ⟨U, hsteps, hrun, hend, hW, hsame, ce, hce, hO⟩ := X₁.ctorThrowS hexec htr (own := own) (cls := cls) (names := names) (ic := ic) hown' hcls hnames h (fun x hx => nomatch hx) hfX hkX hcellA (by rw [hhp, hT]; exact Nat.le_refl _) (msg := .ref sa) rfl
    (g := { method := m, pc := pc + 7, locals := ls, stack := .ref sa :: .ref T.heap.size :: .ref T.heap.size :: rest, locked := none }) rfl hsize rfl rfl (rest := rest) rfl
    (by rw [hb]; exact d7) (by rw [hb]; exact d10) hout hRframes (by simp only [List.map_cons, List.sum_cons, hcat]; omega) hlocks
  obtain ⟨f1, f2⟩ := vx_frame hsame
  rw [hhp] at f1 f2
  have hWs : s.WarmedH U.vm := State.WarmedH.trans hW0 hW
  have hcl : s.vm.findClass cls = some ce.cls := by
    have h9 := hO.cls
    rw [hvm] at h9
    exact h9
  have hall : s.sameButNew ({ U with vm := s.vm } : State) locs mc ms := by
    subst hA
    obtain ⟨e1, e2⟩ := hsame
    rw [State.setFrames_setFrames] at e1
    have h2 : (T.setVm s.vm).sameButNew ({ U with vm := s.vm } : State) [] (0 + 1) (0 + 6) := ⟨e1, e2⟩
    have h3 := X.same.trans h2
    rw [List.append_nil] at h3
    exact h3.mono hc hs
  refine ⟨U, ?_, .threw T.heap.size, hrun, hend, Or.inr ⟨T.heap.size, rfl, cls, ce, locs, hx U hWs.alike f1 (fun q hq => f2 q hq (fun z hz => nomatch hz)), hce, hO.vm, hcl, hWs, hall, hf⟩⟩
  refine st1 _ ?_
  show Steps p.tables e below (T1.setTop { method := m, pc := pc + 3, locals := ls, stack := .ref T.heap.size :: rest, locked := none }) _
  jvm_step X₁.here [X₁.here.top, hexec, d3', Value.category]
  exact X₁.ldcStringW hexec (own := own) (text := text) (index := is) (a := sa) hown' hstr'.1 hstr'.2
    (g := { method := m, pc := pc + 4, locals := ls, stack := .ref T.heap.size :: .ref T.heap.size :: rest, locked := none }) rfl d4' _ hsteps
end Ends
section Bodies
variable {l : Launch}
theorem vx_ofW {y : MethodName} {ws ws' : List Cond} {rm : Room} {Pc : Array Value → State → Prop} {Qc : Array Value → State → Outcome → State → Prop} {XC : String → State → State → Prop} {mc ms : Nat} {free : Addr → Prop} {cc : ByteArray} {maxL : Nat} {ret : Option FieldType}
    (hy : plainName y.cls = true) (hw : ws = Cond.code y cc maxL ret :: ws')
    (body : ∀ p e s m args below meth c s₁, BodyLoose p l y (headSpec ws rm) cc maxL ret e s m args below meth c s₁ → c.maxLocals = maxL → (∀ x ∈ c.exceptionTable.toList, False) → Pc args s →
      W p l e (headSpec ws rm).room s m args below meth c s.heap [] 0 0 (vx_MQ below Qc XC args s mc ms free) (entryFrame m args maxL)) : vx_Met l y ws rm Pc Qc XC mc ms free := by
  refine MetFree.of_bodyS (code := cc) (maxLocals := maxL) (ret := ret) hy ?_ ?_
  · intro args s m h hn
    obtain ⟨meth, c, h1, h2, h3, h4, h5, h6, -, -⟩ := Cond.code_spec hn (atoms_spec (ws := ws) h _ (by rw [hw]; exact List.mem_cons_self))
    exact ⟨meth, c, h1, h2, h3, h4, h5, h6⟩
  · intro p e s m args below meth c s₁ B hml hP _
    have hh0 : s₁.heap = s.heap := by rw [B.state]; rfl
    have ht : ∀ x ∈ c.exceptionTable.toList, False := by
      obtain ⟨meth9, c9, h1, h2, -, -, -, -, h7, -⟩ := Cond.code_spec B.named (atoms_spec (ws := ws) B.pre _ (by rw [hw]; exact List.mem_cons_self))
      cases Option.some.inj (h1.symm.trans B.method)
      cases Option.some.inj (h2.symm.trans (Stand.of_body B).code)
      intro x hx
      rw [Array.isEmpty_iff.mp h7] at hx
      cases hx
    obtain ⟨t, a1, o, b1, b2, b3⟩ := body p e s m args below meth c s₁ B hml ht hP s₁ hh0 (Stand.of_body B)
    exact ⟨t, o, a1, b1, b2, b3⟩
/-- the table of a body with handlers -/
theorem vx_table {p : Program} {x y : MethodName} {S : Spec} {cc bytes : ByteArray} {maxL maxL' : Nat} {ret ret' : Option FieldType} {e : Env} {s s₁ : State} {m : MethodId} {args : Array Value} {below : List Frame} {meth : Method} {c : Code} {hh : List (Nat × Nat × Nat × Nat)}
    (B : BodyLoose p l y S cc maxL ret e s m args below meth c s₁) (h : (Cond.codeWith y bytes maxL' ret' hh).before args s = true) : c.exceptionTable.toList = tableOf hh := by
  obtain ⟨m9, meth9, c9, hn9, h1, h2, -, -, h6, -⟩ := Cond.codeWith_spec h
  cases Option.some.inj (hn9.symm.trans B.named)
  cases Option.some.inj (h1.symm.trans B.method)
  cases Option.some.inj (h2.symm.trans (Stand.of_body B).code)
  rw [← h6, table_eq]
end Bodies
end VXA
/-! ===== END ===== -/
/-! ===== BEGIN a static call of a method with an exception table ===== -/
section VXS
variable {p : Program} {l : Launch} {e : Env} {R : Room} {s : State} {m : MethodId} {args : Array Value} {below : List Frame} {meth : Method} {c : Code} {T : State} {H : Heap} {locs : List Loc} {cells slots : Nat}
abbrev vx_CSW (R : Room) (s : State) (args : Array Value) (own : String) (index : Nat) (y : MethodName) (bytes : ByteArray) (maxL : Nat) (ret : Option FieldType) (hh : List (Nat × Nat × Nat × Nat)) (ws : List Cond) (rm : Room) (mc ms n : Nat) : Prop :=
  (rm.cells = mc ∧ rm.slots = ms ∧ rm.frames + 1 ≤ R.frames ∧ 8 + (maxL + 11) + rm.locals ≤ R.locals ∧ (∀ w ∈ ws, ∀ (a' : Array Value) (U : State), s.WarmedH U.vm → w.before a' U = true) ∧ Cond.codeWith y bytes maxL ret hh ∈ ws) ∧
  (Cond.codeWith y bytes maxL ret hh).before args s = true ∧ (Cond.initialized y.cls).before args s = true ∧ (y.cls ≠ "java/lang/invoke/MethodHandle" ∧ y.cls ≠ "java/lang/invoke/VarHandle") ∧
  (∀ sig, parseMethodDescriptor y.desc = some sig → n = sig.parameters.length) ∧ (Cond.methodLink own index y).before args s = true ∧ (Cond.static y).before args s = true
theorem vx_cwSW {own : String} {index maxL mc ms : Nat} {y : MethodName} {bytes : ByteArray} {ret : Option FieldType} {hh : List (Nat × Nat × Nat × Nat)} {Ts ws ws' : List Cond} {rm : Room} (n : Nat) (ht : ∀ w ∈ Ts, w.before args s = true) (hT : GoodIn Ts (va_wsS own index y ws)) (hw : ws = Cond.codeWith y bytes maxL ret hh :: ws') (hrc : rm.cells = mc) (hrs : rm.slots = ms)
    (hd : y.cls ≠ "java/lang/invoke/MethodHandle" ∧ y.cls ≠ "java/lang/invoke/VarHandle" ∧ (parseMethodDescriptor y.desc).map (fun d => d.parameters.length) = some n) (hR : rm.frames + 1 ≤ R.frames ∧ 8 + (maxL + 11) + rm.locals ≤ R.locals) :
    vx_CSW R s args own index y bytes maxL ret hh ws rm mc ms n := by
  have ok : ∀ w ∈ va_wsS own index y ws, w.before args s = true := fun w h => ht w (hT w h).1
  have hG : GoodIn Ts ws := fun w h => hT w (by unfold va_wsS; exact List.mem_append_right _ h)
  have hc : Cond.codeWith y bytes maxL ret hh ∈ ws := by rw [hw]; exact List.mem_cons_self
  refine ⟨⟨hrc, hrs, hR.1, hR.2, pay_in ht hG, hc⟩, ht _ (hG _ hc).1, ok _ (by simp [va_wsS]), ⟨hd.1, hd.2.1⟩, fun sig h => ?_, ok _ (by simp [va_wsS]), ok _ (by simp [va_wsS])⟩
  have h2 := hd.2.2
  rw [h] at h2
  exact (Option.some.inj h2).symm
theorem vx_callSW (X : Stand p l e R s m args below meth c T locs cells slots) (hexec : p.tables.exec = Jvm.exec) {own : String} {index : Nat} {y : MethodName} {bytes : ByteArray} {maxL : Nat} {ret : Option FieldType} {hh : List (Nat × Nat × Nat × Nat)}
    (hown : s.vm.findClass own = some m.cls) (hlink : (Cond.methodLink own index y).before args s = true) (hstat : (Cond.static y).before args s = true) (hinit : (Cond.initialized y.cls).before args s = true)
    (hcode : (Cond.codeWith y bytes maxL ret hh).before args s = true) (hy : y.cls ≠ "java/lang/invoke/MethodHandle" ∧ y.cls ≠ "java/lang/invoke/VarHandle")
    {W9 : Nat} {Pre : Pt → Array Value → Prop} {Post : Pt → Array Value → Option Value → Pt → Prop} (hK : Back l R p e below s args y 3 W9 Pre Post)
    {g : JFrame} (hg : g.method = m) (hsize : g.locals.size = c.maxLocals) {argsL rest : List Value} (hlen : ∀ sig, parseMethodDescriptor y.desc = some sig → argsL.length = sig.parameters.length)
    (hstack : g.stack = argsL.reverse ++ rest) (hW : 2 * g.monitorRoom + (rest.map fun v => v.category).sum ≤ W9) (hdg : decode c.code g.pc = .ok (.invokestatic index, 3))
    (hpre : ∀ vm₁, s.WarmedH vm₁ → Pre ⟨T.setVm vm₁, locs, cells, slots⟩ argsL.toArray) :
    ∃ (v : Option Value) (vm₁ : Vm) (B : Pt), s.WarmedH vm₁ ∧ Stand p l e R s m args below meth c B.U B.locs B.cells B.slots ∧ Post ⟨T.setVm vm₁, locs, cells, slots⟩ argsL.toArray v B ∧
      ∀ target, Steps p.tables e below (B.U.setTop { g with pc := g.pc + 3, stack := v.toList ++ rest }) target → Steps p.tables e below (T.setTop g) target := by
  obtain ⟨mk, methM, cM, hnamed, hmethM, -, -, -, -, -, -, hsigM⟩ := Cond.codeWith_spec hcode
  have hstatic : methM.isStatic = true := Cond.static_spec hnamed hmethM hstat
  obtain ⟨kP, hkP, -⟩ := className_of_methodNamed hnamed
  have hinitP : kP.init = .initialized := Cond.initialized_spec (findClass_of_methodNamed hnamed) hkP hinit
  obtain ⟨vm₁, X₁, hstep₁⟩ := X.invokestatic hexec hown hlink hnamed hmethM hstatic hkP hinitP hy (g := g) hg (argsL := argsL) (rest := rest) (hlen _ hsigM) hstack hdg
  obtain ⟨v, B, X', hpost, hsteps⟩ := hK m meth c ⟨T.setVm vm₁, locs, cells, slots⟩ { g with stack := rest } (.invokestatic index) mk argsL.toArray X₁ hg hsize hdg hW (X₁.named hnamed) (hpre vm₁ X₁.warmed)
  exact ⟨v, vm₁, B, X₁.warmed, X', hpost, fun target h => hstep₁ _ fun acts => by rw [doInvoke_state]; exact hsteps.trans h⟩
theorem vx_runSW {y : MethodName} {bytes cc : ByteArray} {maxL nL mc ms n index : Nat} {ret : Option FieldType} {hh : List (Nat × Nat × Nat × Nat)} {ws : List Cond} {rm : Room} {Pc : Array Value → State → Prop} {Qc : Array Value → State → Outcome → State → Prop} {free : Addr → Prop} {Ts : List Cond} {own : String} {As rest : List Value} {g : JFrame}
    (S : CallFix p m c cc nL s args Ts own) (hM : Met l y ws rm Pc Qc mc ms free) (cw : vx_CSW R s args own index y bytes maxL ret hh ws rm mc ms n) (hp : PreS s H Pc As)
    (hg : g.method = m) (hn : As.length = n) (hsize : g.locals.size = nL) (hstack : g.stack = As.reverse ++ rest) (hW : 2 * g.monitorRoom + (rest.map fun v => v.category).sum ≤ 8) (hdg : decode cc g.pc = .ok (.invokestatic index, 3)) (hf : cells + mc ≤ R.cells ∧ slots + ms ≤ R.slots) :
    va_Run p l e R s m args below meth c H locs cells slots mc ms g rest (Qc As.toArray) (free) := by
  obtain ⟨⟨hrc, hrs, hfr, hlo, hws, hcw⟩, hcode, hini, hy, hlen, hl, hstt⟩ := cw
  have hK : Back l R p e below s args y 3 8 (PreOf R mc ms Pc) (PostOf Qc mc ms free) := va_backW (hh := hh) (bytes := bytes) (maxL := maxL) (ret := ret) hM hp.1 hrc hrs hfr hlo hws hcw (fun a' U hW => word_at hW (Or.inl (by first | rfl | simp [Cond.onTables, Cond.keeps, Cond.steady])) hini)
  obtain ⟨hx, hb, hml, ho, -⟩ := S
  intro T hT X
  obtain ⟨v, vm₁, ⟨U', l2, c2, s2⟩, hW₁, X', ⟨g', mk, t, L, e1, e2, hq, h1, hL, h2, h3⟩, st⟩ := vx_callSW X hx (hh := hh) (bytes := bytes) (maxL := maxL) (ret := ret) ho hl hstt hini hcode hy hK hg (hsize.trans hml.symm) (argsL := As) (rest := rest) (fun sig h => hn.trans (hlen sig h)) hstack hW (by rw [hb]; exact hdg)
    (fun vm₁ hW₁ => ⟨hf.1, hf.2, hp.2 (T.setVm vm₁) hT hW₁⟩)
  dsimp only [Pt.U, Pt.locs, Pt.cells, Pt.slots] at X' e1 e2 h1 h2 h3 st
  subst h1; subst h2; subst h3
  exact ⟨v, (T.setVm vm₁).calling g' mk As.toArray, t, U', L, hT, X', hL, e1, e2, hq, st⟩
/-- not caught here, past rows that name other classes: it goes on to the caller -/
theorem vx_outP {p : Program} {l : Launch} {e : Env} {R : Room} {s : State} {m : MethodId} {args : Array Value} {below : List Frame} {meth : Method} {c : Code} {H : Heap} {locs : List Loc} {cells slots : Nat} {free : Addr → Prop} {ls : Array Slot} {rest : List Value} {Qc : Array Value → State → Outcome → State → Prop} {XC : String → State → State → Prop}
    {pc : Nat} {own E : String} {ce : Cell} {q : Addr} {mc ms : Nat} (hown : s.vm.findClass own = some m.cls) (hlocks : meth.locks = false)
    (hpass : ∀ z ∈ c.exceptionTable.toList, covers z pc = false ∨ (z.catchType ≠ 0 ∧ ∃ nm : String, (Cond.classLink own z.catchType nm).before args s = true ∧ va_Nc E nm s)) (hcell : H[q]? = some ce) (hv : ce.vm = .none) (hcl : s.vm.findClass E = some ce.cls)
    (hx : ∀ t : State, t.heap = H → s.vm.Alike t.vm → XC E s t) (hf : ∀ z ∈ locs, free z.base) (hc : cells ≤ mc) (hs : slots ≤ ms) :
    vx_W p l e R s m args below meth c H locs cells slots (vx_MQ below Qc XC args s mc ms free) (F0 m pc ls rest) q := by
  intro T hT X
  have hpl : e.platform.magicAccessors = ({} : Platform).magicAccessors := by rw [X.admits.platform]
  obtain ⟨vm', hW', X', st⟩ := X.outThrough hlocks q (g := F0 m pc ls rest) rfl rfl rfl (cell := ce) (by rw [hT]; exact hcell) (by rw [hv]; rfl)
    (by obtain ⟨k9, h9, -⟩ := Vm.findClass_spec hcl; exact ⟨k9, h9⟩) (fun z hz => by
      rcases hpass z hz with h | ⟨hz0, nm, hl1, hn1⟩
      · exact Or.inl h
      · obtain ⟨c6, hc6, hcl6⟩ := Cond.classLink_spec hown hl1 e.platform hpl
        obtain ⟨a8, b8, h1, h2, h3⟩ := hn1
        cases Option.some.inj (h1.symm.trans hcl)
        cases Option.some.inj (h2.symm.trans hc6)
        exact Or.inr ⟨hz0, _, hcl6, h3⟩)
  obtain ⟨g₀, hfr⟩ := X'.frames_eq
  have hcell9 : ((T.setVm vm').setFrames (.throwing q :: below)).heap[q]? = some ce := by
    show T.heap[q]? = some ce
    rw [hT]; exact hcell
  have hend : Ended ((T.setVm vm').setFrames (.throwing q :: below)) below (.threw q) := State.frames_setFrames _ (State.cur_lt_of_frames hfr)
  refine ⟨(T.setVm vm').setFrames (.throwing q :: below), ?_, .threw q, X'.here.running, hend, Or.inr ⟨q, rfl, E, ce, locs, hx _ hT (X'.ends _).1.alike, hcell9, hv, hcl, (X'.ends _).1, (X'.ends _).2.mono hc hs, hf⟩⟩
  rw [X.pushThrowing_eq]
  exact st
/-- a thing of a world lies in the heap -/
theorem vx_lt {D : va_G} {cl : List vw_C} {ws : va_W} {H1 : Heap} (h : va_P D cl ws H1) {k : Nat} {q : Nat × va_E} (hk : ws[k]? = some q) : q.1 < H1.size := (h k q hk).lt
end VXS
/-! ===== END ===== -/
/-! ===== BEGIN methods with a table of their own: called by a name, returning or throwing ===== -/
section VXH
/-! vx_backW, vx_callVX, vx_callSX, vx_callVW, vx_runVW, vx_runVX, vx_runSX, vx_ofWH follow the same proofs as their sisters above (Free/Laws.lean, Shelf42/LK1.lean); vx_outP calls Shelf42/NT130.lean (outThrough). -/
section
variable {l : Launch} {R : Room} {p : Program} {e : Env} {below : List Frame} {s : State} {sargs : Array Value} {y : MethodName} {len W9 : Nat}
theorem vx_backW {ws : List Cond} {rm : Room} {Pc : Array Value → State → Prop} {Qc : Array Value → State → Outcome → State → Prop} {XC : String → State → State → Prop} {mc ms : Nat} {free : Addr → Prop} {bytes : ByteArray} {maxL : Nat} {ret : Option FieldType} {hh : List (Nat × Nat × Nat × Nat)}
    (hM : vx_Met l y ws rm Pc Qc XC mc ms free) (hblind : FrameBlind Pc) (hrc : rm.cells = mc) (hrs : rm.slots = ms)
    (hframes : rm.frames + 1 ≤ R.frames) (hlocals : W9 + (maxL + 11) + rm.locals ≤ R.locals)
    (hws : ∀ w ∈ ws, ∀ a' U, s.WarmedH U.vm → w.before a' U = true) (hcode : Cond.codeWith y bytes maxL ret hh ∈ ws) (hinit : ∀ a' U, s.WarmedH U.vm → (Cond.initialized y.cls).before a' U = true) :
    vx_Back l R p e below s sargs y len W9 (PreOf R mc ms Pc) (PostOf Qc mc ms free) (vx_Post XC mc ms free) := by
  intro m meth c A g ig mk a X hg hsize hdg hW hn hp
  have h1 : (headSpec ws rm).pre.before a A.U = true := atoms_intro fun w hw => hws w hw _ _ X.warmed
  have h2 : (Cond.codeWith y bytes maxL ret hh).before a A.U = true := hws _ hcode _ _ X.warmed
  have h3 : (Cond.initialized y.cls).before a A.U = true := hinit _ _ X.warmed
  have h4 : A.cells + (headSpec ws rm).room.cells ≤ R.cells := by rw [show (headSpec ws rm).room.cells = mc from hrc]; exact hp.1
  have h5 : A.slots + (headSpec ws rm).room.slots ≤ R.slots := by rw [show (headSpec ws rm).room.slots = ms from hrs]; exact hp.2.1
  have hPc : Pc a (A.U.calling g mk a) := hblind _ _ _ _ hp.2.2
  obtain ⟨U, Ls, c0, s0⟩ := A
  dsimp only [Pt.U, Pt.locs, Pt.cells, Pt.slots] at h1 h2 h3 h4 h5 X hn hPc ⊢
  obtain ⟨m9, methY, cY, hn9, hmY, hcY, -, hlY, -⟩ := Cond.codeWith_spec h2
  cases Option.some.inj (hn9.symm.trans hn)
  obtain ⟨kY, hkY, -⟩ := className_of_methodNamed hn
  have hinitY : kY.init = .initialized := Cond.initialized_spec (findClass_of_methodNamed hn) hkY h3
  have h : At U g.method c below := by rw [hg]; exact X.here
  have hlocals9 : W9 + (maxL + 11) + (headSpec ws rm).room.locals ≤ R.locals := hlocals
  have happ : (headSpec ws rm).appliesLoose y e.platform (U.calling g mk a) = true :=
    Spec.appliesLoose_calling (g := g) h hdg hn hkY hinitY
      (X.room_calling (g := g) (R' := (headSpec ws rm).room) hsize hmY hcY hframes (by rw [hlY]; omega) h4 h5) h1
  obtain ⟨mid, hmid⟩ := h.above
  have hfr : (U.setTop g).frames = (.java g :: mid) ++ below := by rw [State.frames_setTop' g h.top, hmid]; rfl
  obtain ⟨o, s₂, hsteps, -, hend, hq⟩ := Steps.callFree hM p X.admits X.cas X.clock (acts := []) hfr happ hPc trivial
  have hq' : vx_Q Qc XC mc ms free a (U.calling g mk a) o s₂ := hq
  rw [State.frames_setTop' g h.top] at hend
  obtain ⟨g₀, hg0⟩ := Option.isSome_iff_exists.mp h.top
  obtain ⟨r, hr⟩ := State.topJava?_eq_some.mp hg0
  have hr' : (({ U with heap := s₂.heap, slotsUsed := s₂.slotsUsed } : State).setVm s₂.vm).frames = .java g₀ :: r := hr
  rcases hq' with ⟨hqc, L, hfe, hL⟩ | ⟨q, rfl, E, ce, L, hx, hce, hcv, hcl, hW₂, hsm, hL⟩
  · obtain ⟨⟨v, rfl⟩, hW₂, e2, q2, q3, q4, q5, q6⟩ := id hfe
    have e3 : s₂ = ({ (U.calling g mk a).setFrames s₂.frames with heap := s₂.heap, slotsUsed := s₂.slotsUsed } : State).setVm s₂.vm := by
      have : s₂ = ({ s₂ with vm := (U.calling g mk a).vm } : State).setVm s₂.vm := rfl
      rw [e2] at this
      exact this
    obtain ⟨c₂, i₂, len₂, hc₂, hd₂, hf₂⟩ := hend
    have hW' : U.WarmedH s₂.vm := hW₂
    have hcc : c₂ = c := by
      have h1 : s₂.code? g.method = U.code? g.method := by
        rw [State.code?_eq, State.code?_eq, hW'.alike.method?]
      exact Option.some.inj (hc₂.symm.trans (h1.trans h.code))
    subst hcc
    have hlen : len₂ = len := by rw [hdg] at hd₂; cases hd₂; rfl
    subst hlen
    have hs₂ : s₂ = (({ U with heap := s₂.heap, slotsUsed := s₂.slotsUsed } : State).setVm s₂.vm).setTop { g with pc := g.pc + len₂, stack := v.toList ++ g.stack } := by
      refine e3.trans ?_
      rw [hf₂, State.calling_eq h.top, State.setFrames_setFrames, State.setTop_of_frames _ hr', hr]
      rfl
    have hsame : U.sameButNew ({ U with heap := s₂.heap, slotsUsed := s₂.slotsUsed } : State) L mc ms := by
      refine ⟨?_, q2, q3, q4, q5, q6⟩
      obtain ⟨t, ht, -⟩ := State.frames_cons hr
      show ({ U with heap := s₂.heap, slotsUsed := s₂.slotsUsed } : State) = { U.setFrames U.frames with heap := s₂.heap, slotsUsed := s₂.slotsUsed }
      rw [State.setFrames_self ht]
    subst hg
    refine Or.inl ⟨v, ⟨(({ U with heap := s₂.heap, slotsUsed := s₂.slotsUsed } : State).setVm s₂.vm), Ls ++ L, c0 + mc, s0 + ms⟩,
      ⟨X.admits, X.cas, X.clock, X.frames, X.room, X.hears, X.method, X.code, (X.here.setHeapUsed s₂.heap s₂.slotsUsed).setVm hW'.alike, X.tail, State.WarmedH.trans X.warmed hW', X.limits, X.bytes, X.same.trans (hsame.setVm s.vm)⟩,
      ⟨g, mk, s₂, L, rfl, rfl, hqc, rfl, hL, rfl, rfl⟩, ?_⟩
    show Steps p.tables e below _ ((({ U with heap := s₂.heap, slotsUsed := s₂.slotsUsed } : State).setVm s₂.vm).setTop { g with pc := g.pc + len₂, stack := v.toList ++ g.stack })
    rw [← hs₂]
    exact hsteps
  · obtain ⟨e2, q2, q3, q4, q5, q6⟩ := id hsm
    have e3 : s₂ = ({ (U.calling g mk a).setFrames s₂.frames with heap := s₂.heap, slotsUsed := s₂.slotsUsed } : State).setVm s₂.vm := by
      have : s₂ = ({ s₂ with vm := (U.calling g mk a).vm } : State).setVm s₂.vm := rfl
      rw [e2] at this
      exact this
    have hf₂ : s₂.frames = .throwing q :: .java g :: U.frames.tail := hend
    have hW' : U.WarmedH s₂.vm := hW₂
    have hs₂ : s₂ = ((({ U with heap := s₂.heap, slotsUsed := s₂.slotsUsed } : State).setVm s₂.vm).setTop g).pushFrame (.throwing q) := by
      refine e3.trans ?_
      rw [hf₂, State.calling_eq h.top, State.setFrames_setFrames, State.pushFrame, State.frames_setTop _ hr', State.setTop_of_frames _ hr', State.setFrames_setFrames, hr]
      rfl
    have hsame : U.sameButNew ({ U with heap := s₂.heap, slotsUsed := s₂.slotsUsed } : State) L mc ms := by
      refine ⟨?_, q2, q3, q4, q5, q6⟩
      obtain ⟨t, ht, -⟩ := State.frames_cons hr
      show ({ U with heap := s₂.heap, slotsUsed := s₂.slotsUsed } : State) = { U.setFrames U.frames with heap := s₂.heap, slotsUsed := s₂.slotsUsed }
      rw [State.setFrames_self ht]
    subst hg
    refine Or.inr ⟨q, ⟨(({ U with heap := s₂.heap, slotsUsed := s₂.slotsUsed } : State).setVm s₂.vm), Ls ++ L, c0 + mc, s0 + ms⟩,
      ⟨X.admits, X.cas, X.clock, X.frames, X.room, X.hears, X.method, X.code, (X.here.setHeapUsed s₂.heap s₂.slotsUsed).setVm hW'.alike, X.tail, State.WarmedH.trans X.warmed hW', X.limits, X.bytes, X.same.trans (hsame.setVm s.vm)⟩,
      ⟨g, mk, s₂, L, E, ce, rfl, rfl, hx, hce, hcv, hcl, rfl, hL, rfl, rfl⟩, ?_⟩
    show Steps p.tables e below _ (((({ U with heap := s₂.heap, slotsUsed := s₂.slotsUsed } : State).setVm s₂.vm).setTop g).pushFrame (.throwing q))
    rw [← hs₂]
    exact hsteps
end
variable {p : Program} {l : Launch} {e : Env} {R : Room} {s : State} {m : MethodId} {args : Array Value} {below : List Frame} {meth : Method} {c : Code} {T : State} {H : Heap} {locs : List Loc} {cells slots : Nat}
theorem vx_callVX (X : Stand p l e R s m args below meth c T locs cells slots) (hexec : p.tables.exec = Jvm.exec) {own C : String} {index : Nat} {y : MethodName} {bytes : ByteArray} {maxL : Nat} {ret : Option FieldType} {hh : List (Nat × Nat × Nat × Nat)}
    (hown : s.vm.findClass own = some m.cls) (hlink : (Cond.methodLink own index y).before args s = true) (hinst : (Cond.instanceMethod y).before args s = true) (hsel : (Cond.selects C y y).before args s = true)
    (hcode : (Cond.codeWith y bytes maxL ret hh).before args s = true) (hy : y.cls ≠ "java/lang/invoke/MethodHandle" ∧ y.cls ≠ "java/lang/invoke/VarHandle")
    {W9 : Nat} {Pre : Pt → Array Value → Prop} {Post : Pt → Array Value → Option Value → Pt → Prop} {PostX : Pt → Array Value → Addr → Pt → Prop} (hK : vx_Back l R p e below s args y 3 W9 Pre Post PostX)
    {b : Addr} {cellB : Cell} (hcell : T.heap[b]? = some cellB) (hobj : cellB.vm.isStatics = false) (hcls : s.vm.findClass C = some cellB.cls)
    {g : JFrame} (hg : g.method = m) (hsize : g.locals.size = c.maxLocals) {argsL rest : List Value} (hlen : ∀ sig, parseMethodDescriptor y.desc = some sig → argsL.length = sig.parameters.length)
    (hstack : g.stack = argsL.reverse ++ .ref b :: rest) (hW : 2 * g.monitorRoom + (rest.map fun v => v.category).sum ≤ W9) (hdg : decode c.code g.pc = .ok (.invokevirtual index, 3))
    (hpre : ∀ vm₁, s.WarmedH vm₁ → Pre ⟨T.setVm vm₁, locs, cells, slots⟩ (Value.ref b :: argsL).toArray) :
    (∃ (v : Option Value) (vm₁ : Vm) (B : Pt), s.WarmedH vm₁ ∧ Stand p l e R s m args below meth c B.U B.locs B.cells B.slots ∧ Post ⟨T.setVm vm₁, locs, cells, slots⟩ (Value.ref b :: argsL).toArray v B ∧
      ∀ target, Steps p.tables e below (B.U.setTop { g with pc := g.pc + 3, stack := v.toList ++ rest }) target → Steps p.tables e below (T.setTop g) target) ∨
    (∃ (q : Addr) (vm₁ : Vm) (B : Pt), s.WarmedH vm₁ ∧ Stand p l e R s m args below meth c B.U B.locs B.cells B.slots ∧ PostX ⟨T.setVm vm₁, locs, cells, slots⟩ (Value.ref b :: argsL).toArray q B ∧
      Steps p.tables e below (T.setTop g) ((B.U.setTop { g with stack := rest }).pushFrame (.throwing q))) := by
  obtain ⟨mk, methM, hnamed, hmethM, hstM, habM⟩ := Cond.instanceMethod_spec hinst
  obtain ⟨m8, methM', cM, hn8, hmethM', -, -, -, -, -, -, hsigM⟩ := Cond.codeWith_spec hcode
  cases Option.some.inj (hn8.symm.trans hnamed)
  cases hmethM.symm.trans hmethM'
  obtain ⟨c2, r2, m2, q1, q2, q3, q4, kP, hkP, hkPi⟩ := Cond.selects_spec hsel
  cases hcls.symm.trans q1
  cases (State.methodFound?_of_named hnamed hy).symm.trans q2
  cases hnamed.symm.trans q3
  have hselP : selectMethod e.platform s.vm cellB.cls mk = .method mk := by rw [Launch.admits_selectMethod X.admits]; exact q4
  obtain ⟨vm₁, X₁, hstep₁⟩ := X.invokevirtual hexec hown hlink hnamed hmethM hstM hkP hkPi hy (a := b) (cell := cellB) hcell
    (fun z h => by rw [h] at hobj; cases hobj) hselP hmethM habM hkP hkPi (g := g) hg (argsL := argsL) (rest := rest) (hlen _ hsigM) hstack hdg
  rcases hK m meth c ⟨T.setVm vm₁, locs, cells, slots⟩ { g with stack := rest } (.invokevirtual index) mk (Value.ref b :: argsL).toArray X₁ hg hsize hdg hW (X₁.named hnamed) (hpre vm₁ X₁.warmed) with ⟨v, B, X', hpost, hsteps⟩ | ⟨q, B, X', hpost, hsteps⟩
  · exact Or.inl ⟨v, vm₁, B, X₁.warmed, X', hpost, fun target h => hstep₁ _ fun acts => by rw [doInvoke_state]; exact hsteps.trans h⟩
  · exact Or.inr ⟨q, vm₁, B, X₁.warmed, X', hpost, hstep₁ _ fun acts => by rw [doInvoke_state]; exact hsteps⟩
theorem vx_callSX (X : Stand p l e R s m args below meth c T locs cells slots) (hexec : p.tables.exec = Jvm.exec) {own : String} {index : Nat} {y : MethodName} {bytes : ByteArray} {maxL : Nat} {ret : Option FieldType} {hh : List (Nat × Nat × Nat × Nat)}
    (hown : s.vm.findClass own = some m.cls) (hlink : (Cond.methodLink own index y).before args s = true) (hstat : (Cond.static y).before args s = true) (hinit : (Cond.initialized y.cls).before args s = true)
    (hcode : (Cond.codeWith y bytes maxL ret hh).before args s = true) (hy : y.cls ≠ "java/lang/invoke/MethodHandle" ∧ y.cls ≠ "java/lang/invoke/VarHandle")
    {W9 : Nat} {Pre : Pt → Array Value → Prop} {Post : Pt → Array Value → Option Value → Pt → Prop} {PostX : Pt → Array Value → Addr → Pt → Prop} (hK : vx_Back l R p e below s args y 3 W9 Pre Post PostX)
    {g : JFrame} (hg : g.method = m) (hsize : g.locals.size = c.maxLocals) {argsL rest : List Value} (hlen : ∀ sig, parseMethodDescriptor y.desc = some sig → argsL.length = sig.parameters.length)
    (hstack : g.stack = argsL.reverse ++ rest) (hW : 2 * g.monitorRoom + (rest.map fun v => v.category).sum ≤ W9) (hdg : decode c.code g.pc = .ok (.invokestatic index, 3))
    (hpre : ∀ vm₁, s.WarmedH vm₁ → Pre ⟨T.setVm vm₁, locs, cells, slots⟩ argsL.toArray) :
    (∃ (v : Option Value) (vm₁ : Vm) (B : Pt), s.WarmedH vm₁ ∧ Stand p l e R s m args below meth c B.U B.locs B.cells B.slots ∧ Post ⟨T.setVm vm₁, locs, cells, slots⟩ argsL.toArray v B ∧
      ∀ target, Steps p.tables e below (B.U.setTop { g with pc := g.pc + 3, stack := v.toList ++ rest }) target → Steps p.tables e below (T.setTop g) target) ∨
    (∃ (q : Addr) (vm₁ : Vm) (B : Pt), s.WarmedH vm₁ ∧ Stand p l e R s m args below meth c B.U B.locs B.cells B.slots ∧ PostX ⟨T.setVm vm₁, locs, cells, slots⟩ argsL.toArray q B ∧
      Steps p.tables e below (T.setTop g) ((B.U.setTop { g with stack := rest }).pushFrame (.throwing q))) := by
  obtain ⟨mk, methM, cM, hnamed, hmethM, -, -, -, -, -, -, hsigM⟩ := Cond.codeWith_spec hcode
  have hstatic : methM.isStatic = true := Cond.static_spec hnamed hmethM hstat
  obtain ⟨kP, hkP, -⟩ := className_of_methodNamed hnamed
  have hinitP : kP.init = .initialized := Cond.initialized_spec (findClass_of_methodNamed hnamed) hkP hinit
  obtain ⟨vm₁, X₁, hstep₁⟩ := X.invokestatic hexec hown hlink hnamed hmethM hstatic hkP hinitP hy (g := g) hg (argsL := argsL) (rest := rest) (hlen _ hsigM) hstack hdg
  rcases hK m meth c ⟨T.setVm vm₁, locs, cells, slots⟩ { g with stack := rest } (.invokestatic index) mk argsL.toArray X₁ hg hsize hdg hW (X₁.named hnamed) (hpre vm₁ X₁.warmed) with ⟨v, B, X', hpost, hsteps⟩ | ⟨q, B, X', hpost, hsteps⟩
  · exact Or.inl ⟨v, vm₁, B, X₁.warmed, X', hpost, fun target h => hstep₁ _ fun acts => by rw [doInvoke_state]; exact hsteps.trans h⟩
  · exact Or.inr ⟨q, vm₁, B, X₁.warmed, X', hpost, hstep₁ _ fun acts => by rw [doInvoke_state]; exact hsteps⟩
theorem vx_callVW (X : Stand p l e R s m args below meth c T locs cells slots) (hexec : p.tables.exec = Jvm.exec) {own C : String} {index : Nat} {y : MethodName} {bytes : ByteArray} {maxL : Nat} {ret : Option FieldType} {hh : List (Nat × Nat × Nat × Nat)}
    (hown : s.vm.findClass own = some m.cls) (hlink : (Cond.methodLink own index y).before args s = true) (hinst : (Cond.instanceMethod y).before args s = true) (hsel : (Cond.selects C y y).before args s = true)
    (hcode : (Cond.codeWith y bytes maxL ret hh).before args s = true) (hy : y.cls ≠ "java/lang/invoke/MethodHandle" ∧ y.cls ≠ "java/lang/invoke/VarHandle")
    {W9 : Nat} {Pre : Pt → Array Value → Prop} {Post : Pt → Array Value → Option Value → Pt → Prop} (hK : Back l R p e below s args y 3 W9 Pre Post)
    {b : Addr} {cellB : Cell} (hcell : T.heap[b]? = some cellB) (hobj : cellB.vm.isStatics = false) (hcls : s.vm.findClass C = some cellB.cls)
    {g : JFrame} (hg : g.method = m) (hsize : g.locals.size = c.maxLocals) {argsL rest : List Value} (hlen : ∀ sig, parseMethodDescriptor y.desc = some sig → argsL.length = sig.parameters.length)
    (hstack : g.stack = argsL.reverse ++ .ref b :: rest) (hW : 2 * g.monitorRoom + (rest.map fun v => v.category).sum ≤ W9) (hdg : decode c.code g.pc = .ok (.invokevirtual index, 3))
    (hpre : ∀ vm₁, s.WarmedH vm₁ → Pre ⟨T.setVm vm₁, locs, cells, slots⟩ (Value.ref b :: argsL).toArray) :
    ∃ (v : Option Value) (vm₁ : Vm) (B : Pt), s.WarmedH vm₁ ∧ Stand p l e R s m args below meth c B.U B.locs B.cells B.slots ∧ Post ⟨T.setVm vm₁, locs, cells, slots⟩ (Value.ref b :: argsL).toArray v B ∧
      ∀ target, Steps p.tables e below (B.U.setTop { g with pc := g.pc + 3, stack := v.toList ++ rest }) target → Steps p.tables e below (T.setTop g) target := by
  obtain ⟨mk, methM, hnamed, hmethM, hstM, habM⟩ := Cond.instanceMethod_spec hinst
  obtain ⟨m8, methM', cM, hn8, hmethM', -, -, -, -, -, -, hsigM⟩ := Cond.codeWith_spec hcode
  cases Option.some.inj (hn8.symm.trans hnamed)
  cases hmethM.symm.trans hmethM'
  obtain ⟨c2, r2, m2, q1, q2, q3, q4, kP, hkP, hkPi⟩ := Cond.selects_spec hsel
  cases hcls.symm.trans q1
  cases (State.methodFound?_of_named hnamed hy).symm.trans q2
  cases hnamed.symm.trans q3
  have hselP : selectMethod e.platform s.vm cellB.cls mk = .method mk := by rw [Launch.admits_selectMethod X.admits]; exact q4
  obtain ⟨vm₁, X₁, hstep₁⟩ := X.invokevirtual hexec hown hlink hnamed hmethM hstM hkP hkPi hy (a := b) (cell := cellB) hcell
    (fun z h => by rw [h] at hobj; cases hobj) hselP hmethM habM hkP hkPi (g := g) hg (argsL := argsL) (rest := rest) (hlen _ hsigM) hstack hdg
  obtain ⟨v, B, X', hpost, hsteps⟩ := hK m meth c ⟨T.setVm vm₁, locs, cells, slots⟩ { g with stack := rest } (.invokevirtual index) mk (Value.ref b :: argsL).toArray X₁ hg hsize hdg hW (X₁.named hnamed) (hpre vm₁ X₁.warmed)
  exact ⟨v, vm₁, B, X₁.warmed, X', hpost, fun target h => hstep₁ _ fun acts => by rw [doInvoke_state]; exact hsteps.trans h⟩
abbrev vx_CVW (R : Room) (s : State) (args : Array Value) (own C : String) (index : Nat) (y : MethodName) (bytes : ByteArray) (maxL : Nat) (ret : Option FieldType) (hh : List (Nat × Nat × Nat × Nat)) (ws : List Cond) (rm : Room) (mc ms n : Nat) : Prop :=
  (rm.cells = mc ∧ rm.slots = ms ∧ rm.frames + 1 ≤ R.frames ∧ 8 + (maxL + 11) + rm.locals ≤ R.locals ∧ (∀ w ∈ ws, ∀ (a' : Array Value) (U : State), s.WarmedH U.vm → w.before a' U = true) ∧ Cond.codeWith y bytes maxL ret hh ∈ ws) ∧
  (Cond.codeWith y bytes maxL ret hh).before args s = true ∧ (Cond.initialized y.cls).before args s = true ∧ (y.cls ≠ "java/lang/invoke/MethodHandle" ∧ y.cls ≠ "java/lang/invoke/VarHandle") ∧
  (∀ sig, parseMethodDescriptor y.desc = some sig → n = sig.parameters.length) ∧ (Cond.methodLink own index y).before args s = true ∧ (Cond.instanceMethod y).before args s = true ∧ (Cond.selects C y y).before args s = true
theorem vx_cwVW {own C : String} {index maxL mc ms : Nat} {y : MethodName} {bytes : ByteArray} {ret : Option FieldType} {hh : List (Nat × Nat × Nat × Nat)} {Ts ws ws' : List Cond} {rm : Room} (n : Nat) (ht : ∀ w ∈ Ts, w.before args s = true) (hT : GoodIn Ts (wsV own index C y ws)) (hw : ws = Cond.codeWith y bytes maxL ret hh :: ws') (hrc : rm.cells = mc) (hrs : rm.slots = ms)
    (hd : y.cls = C ∧ y.cls ≠ "java/lang/invoke/MethodHandle" ∧ y.cls ≠ "java/lang/invoke/VarHandle" ∧ (parseMethodDescriptor y.desc).map (fun d => d.parameters.length) = some n) (hR : rm.frames + 1 ≤ R.frames ∧ 8 + (maxL + 11) + rm.locals ≤ R.locals) :
    vx_CVW R s args own C index y bytes maxL ret hh ws rm mc ms n := by
  obtain ⟨hC, hd⟩ := hd
  subst hC
  have ok : ∀ w ∈ wsV own index y.cls y ws, w.before args s = true := fun w h => ht w (hT w h).1
  have hG : GoodIn Ts ws := fun w h => hT w (by unfold wsV; exact List.mem_append_right _ h)
  have hc : Cond.codeWith y bytes maxL ret hh ∈ ws := by rw [hw]; exact List.mem_cons_self
  refine ⟨⟨hrc, hrs, hR.1, hR.2, pay_in ht hG, hc⟩, ht _ (hG _ hc).1, ok _ (by simp [wsV]), ⟨hd.1, hd.2.1⟩, fun sig h => ?_, ok _ (by simp [wsV]), ok _ (by simp [wsV]), ok _ (by simp [wsV])⟩
  have h2 := hd.2.2
  rw [h] at h2
  exact (Option.some.inj h2).symm
theorem vx_runVW {y : MethodName} {bytes cc : ByteArray} {maxL nL mc ms n index : Nat} {ret : Option FieldType} {hh : List (Nat × Nat × Nat × Nat)} {ws : List Cond} {rm : Room} {Pc : Array Value → State → Prop} {Qc : Array Value → State → Outcome → State → Prop} {free : Addr → Prop} {Ts : List Cond} {own C : String} {b : Addr} {As rest : List Value} {g : JFrame}
    (S : CallFix p m c cc nL s args Ts own) (hM : Met l y ws rm Pc Qc mc ms free) (cw : vx_CVW R s args own C index y bytes maxL ret hh ws rm mc ms n) (hp : PreV s H C b Pc As)
    (hg : g.method = m) (hn : As.length = n) (hsize : g.locals.size = nL) (hstack : g.stack = As.reverse ++ .ref b :: rest) (hW : 2 * g.monitorRoom + (rest.map fun v => v.category).sum ≤ 8) (hdg : decode cc g.pc = .ok (.invokevirtual index, 3)) (hf : cells + mc ≤ R.cells ∧ slots + ms ≤ R.slots) :
    va_Run p l e R s m args below meth c H locs cells slots mc ms g rest (Qc (Value.ref b :: As).toArray) free := by
  obtain ⟨⟨hrc, hrs, hfr, hlo, hws, hcw⟩, hcode, hini, hy, hlen, hl, hin, hse⟩ := cw
  have hK : Back l R p e below s args y 3 8 (PreOf R mc ms Pc) (PostOf Qc mc ms free) := va_backW (hh := hh) (bytes := bytes) (maxL := maxL) (ret := ret) hM hp.1 hrc hrs hfr hlo hws hcw (fun a' U hW => word_at hW (Or.inl (by first | rfl | simp [Cond.onTables, Cond.keeps, Cond.steady])) hini)
  obtain ⟨hx, hb, hml, ho, -⟩ := S
  obtain ⟨-, ⟨cellB, hcB, hoB, hclB⟩, hPc⟩ := hp
  intro T hT X
  obtain ⟨v, vm₁, ⟨U', l2, c2, s2⟩, hW₁, X', ⟨g', mk, t, L, e1, e2, hq, h1, hL, h2, h3⟩, st⟩ := vx_callVW X hx (C := C) (hh := hh) (bytes := bytes) (maxL := maxL) (ret := ret) ho hl hin hse hcode hy hK (by rw [hT]; exact hcB) hoB hclB hg (hsize.trans hml.symm) (argsL := As) (rest := rest) (fun sig h => hn.trans (hlen sig h)) hstack hW (by rw [hb]; exact hdg)
    (fun vm₁ hW₁ => ⟨hf.1, hf.2, hPc (T.setVm vm₁) hT hW₁⟩)
  dsimp only [Pt.U, Pt.locs, Pt.cells, Pt.slots] at X' e1 e2 h1 h2 h3 st
  subst h1; subst h2; subst h3
  exact ⟨v, (T.setVm vm₁).calling g' mk (Value.ref b :: As).toArray, t, U', L, hT, X', hL, e1, e2, hq, st⟩
section
variable {y : MethodName} {bytes cc : ByteArray} {maxL nL mc ms n index : Nat} {ret : Option FieldType} {ws : List Cond} {rm : Room} {Pc : Array Value → State → Prop} {Qc : Array Value → State → Outcome → State → Prop} {XC : String → State → State → Prop} {free : Addr → Prop} {Ts : List Cond} {own C : String} {b : Addr} {As rest : List Value} {g : JFrame}
theorem vx_runVX {hh : List (Nat × Nat × Nat × Nat)} (S : CallFix p m c cc nL s args Ts own) (hM : vx_Met l y ws rm Pc Qc XC mc ms free) (cw : vx_CVW R s args own C index y bytes maxL ret hh ws rm mc ms n) (hp : PreV s H C b Pc As)
    (hg : g.method = m) (hn : As.length = n) (hsize : g.locals.size = nL) (hstack : g.stack = As.reverse ++ .ref b :: rest) (hW : 2 * g.monitorRoom + (rest.map fun v => v.category).sum ≤ 8) (hdg : decode cc g.pc = .ok (.invokevirtual index, 3)) (hf : cells + mc ≤ R.cells ∧ slots + ms ≤ R.slots) :
    vx_Run p l e R s m args below meth c H locs cells slots mc ms g rest (Qc (Value.ref b :: As).toArray) XC free := by
  obtain ⟨⟨hrc, hrs, hfr, hlo, hws, hcw⟩, hcode, hini, hy, hlen, hl, hin, hse⟩ := cw
  have hK : vx_Back l R p e below s args y 3 8 (PreOf R mc ms Pc) (PostOf Qc mc ms free) (vx_Post XC mc ms free) := vx_backW (hh := hh) (bytes := bytes) (maxL := maxL) (ret := ret) hM hp.1 hrc hrs hfr hlo hws hcw (fun a' U hW => word_at hW (Or.inl (by first | rfl | simp [Cond.onTables, Cond.keeps, Cond.steady])) hini)
  obtain ⟨hx, hb, hml, ho, -⟩ := S
  obtain ⟨-, ⟨cellB, hcB, hoB, hclB⟩, hPc⟩ := hp
  intro T hT X
  rcases vx_callVX X hx (C := C) (hh := hh) (bytes := bytes) (maxL := maxL) (ret := ret) ho hl hin hse hcode hy hK (by rw [hT]; exact hcB) hoB hclB hg (hsize.trans hml.symm) (argsL := As) (rest := rest) (fun sig h => hn.trans (hlen sig h)) hstack hW (by rw [hb]; exact hdg)
    (fun vm₁ hW₁ => ⟨hf.1, hf.2, hPc (T.setVm vm₁) hT hW₁⟩) with ⟨v, vm₁, ⟨U', l2, c2, s2⟩, hW₁, X', ⟨g', mk, t, L, e1, e2, hq, h1, hL, h2, h3⟩, st⟩ | ⟨q, vm₁, ⟨U', l2, c2, s2⟩, hW₁, X', ⟨g', mk, t, L, E, ce, e1, e2, hq, hce, hcv, hcl, h1, hL, h2, h3⟩, st⟩
  · dsimp only [Pt.U, Pt.locs, Pt.cells, Pt.slots] at X' e1 e2 h1 h2 h3 st
    subst h1; subst h2; subst h3
    exact Or.inl ⟨v, (T.setVm vm₁).calling g' mk (Value.ref b :: As).toArray, t, U', L, hT, X', hL, e1, e2, hq, st⟩
  · dsimp only [Pt.U, Pt.locs, Pt.cells, Pt.slots] at X' e1 e2 h1 h2 h3 st hcl
    subst h1; subst h2; subst h3
    exact Or.inr ⟨q, (T.setVm vm₁).calling g' mk (Value.ref b :: As).toArray, t, U', L, E, ce, hT, X', hL, e1, e2, hq, hce, hcv, vx_cls hW₁ hcl, st⟩
theorem vx_runSX {hh : List (Nat × Nat × Nat × Nat)} (S : CallFix p m c cc nL s args Ts own) (hM : vx_Met l y ws rm Pc Qc XC mc ms free) (cw : vx_CSW R s args own index y bytes maxL ret hh ws rm mc ms n) (hp : PreS s H Pc As)
    (hg : g.method = m) (hn : As.length = n) (hsize : g.locals.size = nL) (hstack : g.stack = As.reverse ++ rest) (hW : 2 * g.monitorRoom + (rest.map fun v => v.category).sum ≤ 8) (hdg : decode cc g.pc = .ok (.invokestatic index, 3)) (hf : cells + mc ≤ R.cells ∧ slots + ms ≤ R.slots) :
    vx_Run p l e R s m args below meth c H locs cells slots mc ms g rest (Qc As.toArray) XC free := by
  obtain ⟨⟨hrc, hrs, hfr, hlo, hws, hcw⟩, hcode, hini, hy, hlen, hl, hstt⟩ := cw
  have hK : vx_Back l R p e below s args y 3 8 (PreOf R mc ms Pc) (PostOf Qc mc ms free) (vx_Post XC mc ms free) := vx_backW (hh := hh) (bytes := bytes) (maxL := maxL) (ret := ret) hM hp.1 hrc hrs hfr hlo hws hcw (fun a' U hW => word_at hW (Or.inl (by first | rfl | simp [Cond.onTables, Cond.keeps, Cond.steady])) hini)
  obtain ⟨hx, hb, hml, ho, -⟩ := S
  intro T hT X
  rcases vx_callSX X hx (hh := hh) (bytes := bytes) (maxL := maxL) (ret := ret) ho hl hstt hini hcode hy hK hg (hsize.trans hml.symm) (argsL := As) (rest := rest) (fun sig h => hn.trans (hlen sig h)) hstack hW (by rw [hb]; exact hdg)
    (fun vm₁ hW₁ => ⟨hf.1, hf.2, hp.2 (T.setVm vm₁) hT hW₁⟩) with ⟨v, vm₁, ⟨U', l2, c2, s2⟩, hW₁, X', ⟨g', mk, t, L, e1, e2, hq, h1, hL, h2, h3⟩, st⟩ | ⟨q, vm₁, ⟨U', l2, c2, s2⟩, hW₁, X', ⟨g', mk, t, L, E, ce, e1, e2, hq, hce, hcv, hcl, h1, hL, h2, h3⟩, st⟩
  · dsimp only [Pt.U, Pt.locs, Pt.cells, Pt.slots] at X' e1 e2 h1 h2 h3 st
    subst h1; subst h2; subst h3
    exact Or.inl ⟨v, (T.setVm vm₁).calling g' mk As.toArray, t, U', L, hT, X', hL, e1, e2, hq, st⟩
  · dsimp only [Pt.U, Pt.locs, Pt.cells, Pt.slots] at X' e1 e2 h1 h2 h3 st hcl
    subst h1; subst h2; subst h3
    exact Or.inr ⟨q, (T.setVm vm₁).calling g' mk As.toArray, t, U', L, E, ce, hT, X', hL, e1, e2, hq, hce, hcv, vx_cls hW₁ hcl, st⟩
end
end VXH
theorem vx_ofWH {l : Launch} {y : MethodName} {ws ws' : List Cond} {rm : Room} {Pc : Array Value → State → Prop} {Qc : Array Value → State → Outcome → State → Prop} {XC : String → State → State → Prop} {mc ms : Nat} {free : Addr → Prop} {cc : ByteArray} {maxL : Nat} {ret : Option FieldType} {hh : List (Nat × Nat × Nat × Nat)}
    (hy : plainName y.cls = true) (hw : ws = Cond.codeWith y cc maxL ret hh :: ws')
    (body : ∀ p e s m args below meth c s₁, BodyLoose p l y (headSpec ws rm) cc maxL ret e s m args below meth c s₁ → c.maxLocals = maxL → Pc args s →
      W p l e (headSpec ws rm).room s m args below meth c s.heap [] 0 0 (vx_MQ below Qc XC args s mc ms free) (entryFrame m args maxL)) : vx_Met l y ws rm Pc Qc XC mc ms free := by
  refine MetFree.of_bodyS (code := cc) (maxLocals := maxL) (ret := ret) hy ?_ ?_
  · intro args s m h hn
    obtain ⟨m9, meth, c, hn9, h1, h2, h3, h4, -, h5, h6, -⟩ := Cond.codeWith_spec (atoms_spec (ws := ws) h _ (by rw [hw]; exact List.mem_cons_self))
    cases hn.symm.trans hn9
    exact ⟨meth, c, h1, h2, h3, h4, h5, h6⟩
  · intro p e s m args below meth c s₁ B hml hP _
    have hh0 : s₁.heap = s.heap := by rw [B.state]; rfl
    obtain ⟨t, a1, o, b1, b2, b3⟩ := body p e s m args below meth c s₁ B hml hP s₁ hh0 (Stand.of_body B)
    exact ⟨t, o, a1, b1, b2, b3⟩
/-! ===== END ===== -/
end
section
/-! THE ABSTRACT MACHINE: addresses relative to the first new cell, the whole world one list of cells; a rule an instruction -/
abbrev gA : Type := (Nat × (Nat → Int32)) ⊕ ((Nat × (Nat → Int64)) ⊕ (Nat × List Value))
def gv (b0 : Nat) (sa : Nat → Nat) : Value → Value
  | .ref k => .ref (b0 + k)
  | .float j => .ref (sa j.toNat)
  | .int x => .int x
  | .long x => .long x
  | .null => .null
  | v => v
def gce (cI cJ : ClassId) (b0 : Nat) (sa : Nat → Nat) : gA → va_E
  | .inl nf => .inl (cI, nf.1, .inl nf.2)
  | .inr (.inl nf) => .inl (cJ, nf.1, .inr (.inl nf.2))
  | .inr (.inr cf) => .inr (cf.1, cf.2.map (gv b0 sa))
/-- a cell of which nothing is told (an exception that was thrown) -/
def gJunk : gA := .inr (.inr (1000, []))
/-- how many slots a cell has -/
def gcs : gA → Nat
  | .inl nf => nf.1
  | .inr (.inl nf) => nf.1
  | .inr (.inr cf) => ((vwCl[cf.1]?).map (fun r => r.2.2)).getD 0
def gsz (hp : List gA) : Nat := (hp.map gcs).sum
def gZ (q : Nat) (e : gA) (H : Heap) : Prop := ∀ cell, H[q]? = some cell → cell.slots.size = gcs e
def gH (D : va_G) (cI cJ : ClassId) (b0 : Nat) (sa : Nat → Nat) (hp : List gA) (H : Heap) : Prop :=
  H.size = b0 + hp.length ∧ ∀ (k : Nat) (e : gA), hp[k]? = some e → e ≠ gJunk → va_at D vwCl (b0 + k, gce cI cJ b0 sa e) H ∧ gZ (b0 + k) e H
def gL (b0 : Nat) (sa : Nat → Nat) (arr : Array Slot) (ls : List (Option Value)) : Prop :=
  arr.size = ls.length ∧ lv_wf arr ∧ ∀ (i : Nat) (v : Value), ls[i]? = some (some v) → arr[i]? = some (.val (gv b0 sa v))
def gW : List Cond := lw_tbl.filter goodWord
theorem gW_of {w : Cond} (h : w ∈ lw_tbl) (hg : goodWord w = true) : w ∈ gW := List.mem_filter.mpr ⟨h, hg⟩
theorem gW_good {w : Cond} (h : w ∈ gW) : (w.onTables && w.keeps) = true ∨ ∃ ty, w = .arrayClass ty := good_of_word (List.mem_filter.mp h).2
abbrev gX : Type := (Program × Launch × Env × Room) × (State × MethodId × Array Value × List Frame) × (Method × Code) × (va_G × ClassId × ClassId) × (Nat × (Nat → Nat)) × (State → Prop)
abbrev xp (X : gX) : Program := X.1.1
abbrev xl (X : gX) : Launch := X.1.2.1
abbrev xe (X : gX) : Env := X.1.2.2.1
abbrev xR (X : gX) : Room := X.1.2.2.2
abbrev xs (X : gX) : State := X.2.1.1
abbrev xm (X : gX) : MethodId := X.2.1.2.1
abbrev xa (X : gX) : Array Value := X.2.1.2.2.1
abbrev xb (X : gX) : List Frame := X.2.1.2.2.2
abbrev xt (X : gX) : Method := X.2.2.1.1
abbrev xc (X : gX) : Code := X.2.2.1.2
abbrev xD (X : gX) : va_G := X.2.2.2.1.1
abbrev xI (X : gX) : ClassId := X.2.2.2.1.2.1
abbrev xJ (X : gX) : ClassId := X.2.2.2.1.2.2
abbrev xB (X : gX) : Nat := X.2.2.2.2.1.1
abbrev xA (X : gX) : Nat → Nat := X.2.2.2.2.1.2
abbrev xQ (X : gX) : State → Prop := X.2.2.2.2.2
def gG (X : gX) (pc : Nat) (ls : List (Option Value)) (st : List Value) (hp : List gA) (cl sl : Nat) : Prop :=
  ∀ (arr : Array Slot) (H : Heap) (locs : List Loc), gL (xB X) (xA X) arr ls → gH (xD X) (xI X) (xJ X) (xB X) (xA X) hp H → va_S (fun q => xB X ≤ q) (xs X).heap H locs →
    W (xp X) (xl X) (xe X) (xR X) (xs X) (xm X) (xa X) (xb X) (xt X) (xc X) H locs cl sl (xQ X) (F0 (xm X) pc arr (st.map (gv (xB X) (xA X))))
/-- the nest mates' constructors that are called: by the Statement's words -/
def gNest : List (String × Nat × MethodName × String) := [(RX7, 20, yX1_init, RX7), (RX2, 25, yX6_init, RX7), (RX7, 36, yX0_init, RX7), (RX7, 43, yX3_init, RX7)]
def gNSE : String := "java/util/NoSuchElementException"
/-- what else is carried along: the nest mates, the exception's class, Throwable's two statics -/
def gN (b0 : Nat) (U : State) : Prop := (∀ z ∈ gNest, va_Nw (.methodLinkNest z.1 z.2.1 z.2.2.1 z.2.2.2) U) ∧ va_Nw (.castable gNSE gNSE) U ∧
  vx_Zq Bundle.tN "UNASSIGNED_STACK" Bundle.steD (fun q => b0 ≤ q) U U.heap ∧ vx_Zq Bundle.tN "SUPPRESSED_SENTINEL" Bundle.listD (fun q => b0 ≤ q) U U.heap
theorem gN.same {b0 : Nat} {u U : State} (h : u.vm = U.vm) (hh : U.heap = u.heap) (hN : gN b0 u) : gN b0 U :=
  ⟨fun z hz => va_Nw.same rfl h (hN.1 z hz), va_Nw.same rfl h hN.2.1, by rw [hh]; exact vx_Zq.moved (by rw [h]; exact Vm.Alike.refl _) hN.2.2.1, by rw [hh]; exact vx_Zq.moved (by rw [h]; exact Vm.Alike.refl _) hN.2.2.2⟩
theorem gN.warm {b0 : Nat} {s U : State} {H : Heap} {locs : List Loc} (hW : s.WarmedH U.vm) (hS : va_S (fun q => b0 ≤ q) s.heap H locs) (hU : U.heap = H) (hN : gN b0 s) : gN b0 U :=
  ⟨fun z hz => va_Nw.warmM hW (hN.1 z hz), va_Nw.warmC hW hN.2.1, by rw [hU]; exact vx_Zq.moved hW.alike (hN.2.2.1.kept hS.2.1), by rw [hU]; exact vx_Zq.moved hW.alike (hN.2.2.2.kept hS.2.1)⟩
/-- what is known of the method that runs: the machine, its code, its class, the tables' words, the classes, its room -/
def gC (X : gX) (own nm : String) (cc : ByteArray) (nL : Nat) (rm : Room) : Prop :=
  (xp X).tables.exec = Jvm.exec ∧ (xc X).code = cc ∧ (xc X).maxLocals = nL ∧ (xs X).vm.findClass own = some (xm X).cls ∧ (∀ w ∈ gW, w.before (xa X) (xs X) = true) ∧
  va_K (xD X) vwCl [(xI X, .int), (xJ X, .long)] (xs X) ∧ xB X ≤ (xs X).heap.size ∧ (xt X).locks = false ∧ xR X = rm ∧ (xt X).name = nm ∧ gN (xB X) (xs X)
section GR
variable {X : gX} {own nm : String} {cc : ByteArray} {nL : Nat} {rm : Room} {pc q : Nat} {ls : List (Option Value)} {st : List Value} {hp : List gA} {cl sl : Nat}

theorem g_iconst (C : gC X own nm cc nL rm) {n : Int} {v : Int32} (hd : decode cc pc = .ok (.iconst n, 1)) (hv : Int32.ofInt n = v) (hq : pc + 1 = q) (k : gG X q ls (.int v :: st) hp cl sl) : gG X pc ls (st) hp cl sl := by
  subst hq; exact fun arr H locs hl hh hS => lv_iconst C.1 C.2.1 hd hv (k arr H locs hl hh hS)
theorem g_bipush (C : gC X own nm cc nL rm) {n : Int} {v : Int32} (hd : decode cc pc = .ok (.bipush n, 2)) (hv : (Int8.ofInt n).toInt32 = v) (hq : pc + 2 = q) (k : gG X q ls (.int v :: st) hp cl sl) : gG X pc ls (st) hp cl sl := by
  subst hq; exact fun arr H locs hl hh hS => lv_bipush C.1 C.2.1 hd hv (k arr H locs hl hh hS)
theorem g_sipush (C : gC X own nm cc nL rm) {n : Int} {v : Int32} (hd : decode cc pc = .ok (.sipush n, 3)) (hv : (Int16.ofInt n).toInt32 = v) (hq : pc + 3 = q) (k : gG X q ls (.int v :: st) hp cl sl) : gG X pc ls (st) hp cl sl := by
  subst hq; exact fun arr H locs hl hh hS => lv_sipush C.1 C.2.1 hd hv (k arr H locs hl hh hS)
theorem g_ldc (C : gC X own nm cc nL rm) {ix : Nat} {v : Int32} (hk : Jvm.Cond.constant own ix v ∈ gW) (hd : decode cc pc = .ok (.ldc ix, 2)) (hq : pc + 2 = q) (k : gG X q ls (.int v :: st) hp cl sl) : gG X pc ls (st) hp cl sl := by
  subst hq; exact fun arr H locs hl hh hS => lv_ldc C.1 C.2.1 C.2.2.2.1 (C.2.2.2.2.1 _ hk) hd (k arr H locs hl hh hS)
theorem g_ldc2 (C : gC X own nm cc nL rm) {ix : Nat} {v : Int64} (hk : Jvm.Cond.constantLong own ix v ∈ gW) (hd : decode cc pc = .ok (.ldc2_w ix, 3)) (hq : pc + 3 = q) (k : gG X q ls (.long v :: st) hp cl sl) : gG X pc ls (st) hp cl sl := by
  subst hq; exact fun arr H locs hl hh hS => lv_ldc2 C.1 C.2.1 C.2.2.2.1 (C.2.2.2.2.1 _ hk) hd (k arr H locs hl hh hS)
theorem g_null (C : gC X own nm cc nL rm) (hd : decode cc pc = .ok (.aconst_null, 1)) (hq : pc + 1 = q) (k : gG X q ls (.null :: st) hp cl sl) : gG X pc ls (st) hp cl sl := by
  subst hq; exact fun arr H locs hl hh hS => lv_null C.1 C.2.1 hd (k arr H locs hl hh hS)
theorem g_iadd (C : gC X own nm cc nL rm) {x z : Int32} (hd : decode cc pc = .ok (.iadd, 1)) (hq : pc + 1 = q) (k : gG X q ls (.int (x + z) :: st) hp cl sl) : gG X pc ls (.int z :: .int x :: st) hp cl sl := by
  subst hq; exact fun arr H locs hl hh hS => lv_iadd C.1 C.2.1 hd (k arr H locs hl hh hS)
theorem g_isub (C : gC X own nm cc nL rm) {x z : Int32} (hd : decode cc pc = .ok (.isub, 1)) (hq : pc + 1 = q) (k : gG X q ls (.int (x - z) :: st) hp cl sl) : gG X pc ls (.int z :: .int x :: st) hp cl sl := by
  subst hq; exact fun arr H locs hl hh hS => lv_isub C.1 C.2.1 hd (k arr H locs hl hh hS)
theorem g_imul (C : gC X own nm cc nL rm) {x z : Int32} (hd : decode cc pc = .ok (.imul, 1)) (hq : pc + 1 = q) (k : gG X q ls (.int (x * z) :: st) hp cl sl) : gG X pc ls (.int z :: .int x :: st) hp cl sl := by
  subst hq; exact fun arr H locs hl hh hS => lv_imul C.1 C.2.1 hd (k arr H locs hl hh hS)
theorem g_iand (C : gC X own nm cc nL rm) {x z : Int32} (hd : decode cc pc = .ok (.iand, 1)) (hq : pc + 1 = q) (k : gG X q ls (.int (x &&& z) :: st) hp cl sl) : gG X pc ls (.int z :: .int x :: st) hp cl sl := by
  subst hq; exact fun arr H locs hl hh hS => lv_iand C.1 C.2.1 hd (k arr H locs hl hh hS)
theorem g_ior (C : gC X own nm cc nL rm) {x z : Int32} (hd : decode cc pc = .ok (.ior, 1)) (hq : pc + 1 = q) (k : gG X q ls (.int (x ||| z) :: st) hp cl sl) : gG X pc ls (.int z :: .int x :: st) hp cl sl := by
  subst hq; exact fun arr H locs hl hh hS => lv_ior C.1 C.2.1 hd (k arr H locs hl hh hS)
theorem g_ixor (C : gC X own nm cc nL rm) {x z : Int32} (hd : decode cc pc = .ok (.ixor, 1)) (hq : pc + 1 = q) (k : gG X q ls (.int (x ^^^ z) :: st) hp cl sl) : gG X pc ls (.int z :: .int x :: st) hp cl sl := by
  subst hq; exact fun arr H locs hl hh hS => lv_ixor C.1 C.2.1 hd (k arr H locs hl hh hS)
theorem g_ishl (C : gC X own nm cc nL rm) {x z : Int32} (hd : decode cc pc = .ok (.ishl, 1)) (hq : pc + 1 = q) (k : gG X q ls (.int (x <<< (z &&& 31)) :: st) hp cl sl) : gG X pc ls (.int z :: .int x :: st) hp cl sl := by
  subst hq; exact fun arr H locs hl hh hS => lv_ishl C.1 C.2.1 hd (k arr H locs hl hh hS)
theorem g_ishr (C : gC X own nm cc nL rm) {x z : Int32} (hd : decode cc pc = .ok (.ishr, 1)) (hq : pc + 1 = q) (k : gG X q ls (.int (x >>> (z &&& 31)) :: st) hp cl sl) : gG X pc ls (.int z :: .int x :: st) hp cl sl := by
  subst hq; exact fun arr H locs hl hh hS => lv_ishr C.1 C.2.1 hd (k arr H locs hl hh hS)
theorem g_iushr (C : gC X own nm cc nL rm) {x z : Int32} (hd : decode cc pc = .ok (.iushr, 1)) (hq : pc + 1 = q) (k : gG X q ls (.int ((x.toUInt32 >>> (z.toUInt32 &&& Int32.toUInt32 31)).toInt32) :: st) hp cl sl) : gG X pc ls (.int z :: .int x :: st) hp cl sl := by
  subst hq; exact fun arr H locs hl hh hS => lv_iushr C.1 C.2.1 hd rfl (k arr H locs hl hh hS)
theorem g_ineg (C : gC X own nm cc nL rm) {x : Int32} (hd : decode cc pc = .ok (.ineg, 1)) (hq : pc + 1 = q) (k : gG X q ls (.int (-x) :: st) hp cl sl) : gG X pc ls (.int x :: st) hp cl sl := by
  subst hq; exact fun arr H locs hl hh hS => lv_ineg C.1 C.2.1 hd (k arr H locs hl hh hS)
theorem g_idiv (C : gC X own nm cc nL rm) {x z : Int32} (hd : decode cc pc = .ok (.idiv, 1)) (hne : ¬ z = 0) (hq : pc + 1 = q) (k : gG X q ls (.int (x / z) :: st) hp cl sl) : gG X pc ls (.int z :: .int x :: st) hp cl sl := by
  subst hq; exact fun arr H locs hl hh hS => lv_idiv C.1 C.2.1 hd hne (k arr H locs hl hh hS)
theorem g_irem (C : gC X own nm cc nL rm) {x z : Int32} (hd : decode cc pc = .ok (.irem, 1)) (hne : ¬ z = 0) (hq : pc + 1 = q) (k : gG X q ls (.int (x - x / z * z) :: st) hp cl sl) : gG X pc ls (.int z :: .int x :: st) hp cl sl := by
  subst hq; exact fun arr H locs hl hh hS => lv_irem C.1 C.2.1 hd hne (k arr H locs hl hh hS)
theorem g_i2l (C : gC X own nm cc nL rm) {x : Int32} (hd : decode cc pc = .ok (.i2l, 1)) (hq : pc + 1 = q) (k : gG X q ls (.long x.toInt64 :: st) hp cl sl) : gG X pc ls (.int x :: st) hp cl sl := by
  subst hq; exact fun arr H locs hl hh hS => lv_i2l C.1 C.2.1 hd rfl (k arr H locs hl hh hS)
theorem g_l2i (C : gC X own nm cc nL rm) {x : Int64} (hd : decode cc pc = .ok (.l2i, 1)) (hq : pc + 1 = q) (k : gG X q ls (.int x.toInt32 :: st) hp cl sl) : gG X pc ls (.long x :: st) hp cl sl := by
  subst hq; exact fun arr H locs hl hh hS => lv_l2i C.1 C.2.1 hd rfl (k arr H locs hl hh hS)
theorem g_lushr (C : gC X own nm cc nL rm) {x : Int64} {z : Int32} (hd : decode cc pc = .ok (.lushr, 1)) (hq : pc + 1 = q) (k : gG X q ls (.long ((x.toUInt64 >>> (z.toInt64.toUInt64 &&& Int64.toUInt64 63)).toInt64) :: st) hp cl sl) : gG X pc ls (.int z :: .long x :: st) hp cl sl := by
  subst hq; exact fun arr H locs hl hh hS => lv_lushr C.1 C.2.1 hd rfl (k arr H locs hl hh hS)
theorem g_lshl (C : gC X own nm cc nL rm) {x : Int64} {z : Int32} (hd : decode cc pc = .ok (.lshl, 1)) (hq : pc + 1 = q) (k : gG X q ls (.long (x <<< (z.toInt64 &&& 63)) :: st) hp cl sl) : gG X pc ls (.int z :: .long x :: st) hp cl sl := by
  subst hq; exact fun arr H locs hl hh hS => lv_lshl C.1 C.2.1 hd rfl (k arr H locs hl hh hS)
theorem g_lshr (C : gC X own nm cc nL rm) {x : Int64} {z : Int32} (hd : decode cc pc = .ok (.lshr, 1)) (hq : pc + 1 = q) (k : gG X q ls (.long (x >>> (z.toInt64 &&& 63)) :: st) hp cl sl) : gG X pc ls (.int z :: .long x :: st) hp cl sl := by
  subst hq; exact fun arr H locs hl hh hS => lv_lshr C.1 C.2.1 hd rfl (k arr H locs hl hh hS)
theorem g_land (C : gC X own nm cc nL rm) {x z : Int64} (hd : decode cc pc = .ok (.land, 1)) (hq : pc + 1 = q) (k : gG X q ls (.long (x &&& z) :: st) hp cl sl) : gG X pc ls (.long z :: .long x :: st) hp cl sl := by
  subst hq; exact fun arr H locs hl hh hS => lv_land C.1 C.2.1 hd (k arr H locs hl hh hS)
theorem g_lor (C : gC X own nm cc nL rm) {x z : Int64} (hd : decode cc pc = .ok (.lor, 1)) (hq : pc + 1 = q) (k : gG X q ls (.long (x ||| z) :: st) hp cl sl) : gG X pc ls (.long z :: .long x :: st) hp cl sl := by
  subst hq; exact fun arr H locs hl hh hS => lv_lor C.1 C.2.1 hd (k arr H locs hl hh hS)
theorem g_lcmp (C : gC X own nm cc nL rm) {x z : Int64} (hd : decode cc pc = .ok (.lcmp, 1)) (hq : pc + 1 = q) (k : gG X q ls (.int (lg_cmp x z) :: st) hp cl sl) : gG X pc ls (.long z :: .long x :: st) hp cl sl := by
  subst hq; exact fun arr H locs hl hh hS => W.lcmp C.1 C.2.1 hd (k arr H locs hl hh hS)
theorem gv_cat (b0 : Nat) (sa : Nat → Nat) (v : Value) : (gv b0 sa v).category = v.category := by cases v <;> rfl
theorem g_dup (C : gC X own nm cc nL rm) {v : Value} (hd : decode cc pc = .ok (.dup, 1)) (hv : v.category = 1) (hq : pc + 1 = q) (k : gG X q ls (v :: v :: st) hp cl sl) : gG X pc ls (v :: st) hp cl sl := by
  subst hq; exact fun arr H locs hl hh hS => lv_dup C.1 C.2.1 hd (by rw [gv_cat]; exact hv) (k arr H locs hl hh hS)
theorem g_pop (C : gC X own nm cc nL rm) {v : Value} (hd : decode cc pc = .ok (.pop, 1)) (hv : v.category = 1) (hq : pc + 1 = q) (k : gG X q ls (st) hp cl sl) : gG X pc ls (v :: st) hp cl sl := by
  subst hq; exact fun arr H locs hl hh hS => lv_pop C.1 C.2.1 hd (by rw [gv_cat]; exact hv) (k arr H locs hl hh hS)
theorem g_dup_x1 (C : gC X own nm cc nL rm) {v v2 : Value} (hd : decode cc pc = .ok (.dup_x1, 1)) (hv : v.category = 1) (hv2 : v2.category = 1) (hq : pc + 1 = q) (k : gG X q ls (v :: v2 :: v :: st) hp cl sl) : gG X pc ls (v :: v2 :: st) hp cl sl := by
  subst hq; exact fun arr H locs hl hh hS => lv_dup_x1 C.1 C.2.1 hd (by rw [gv_cat]; exact hv) (by rw [gv_cat]; exact hv2) (k arr H locs hl hh hS)
theorem g_dup2 (C : gC X own nm cc nL rm) {v v2 : Value} (hd : decode cc pc = .ok (.dup2, 1)) (hv : v.category = 1) (hv2 : v2.category = 1) (hq : pc + 1 = q) (k : gG X q ls (v :: v2 :: v :: v2 :: st) hp cl sl) : gG X pc ls (v :: v2 :: st) hp cl sl := by
  subst hq; exact fun arr H locs hl hh hS => lv_dup2_11 C.1 C.2.1 hd (by rw [gv_cat]; exact hv) (by rw [gv_cat]; exact hv2) (k arr H locs hl hh hS)
theorem g_goto (C : gC X own nm cc nL rm) {off : Int} (hd : decode cc pc = .ok (.goto off, 3)) (ht : (pc : Int) + off = (q : Int)) (k : gG X q ls st hp cl sl) : gG X pc ls st hp cl sl :=
  fun arr H locs hl hh hS => lv_goto C.1 C.2.1 hd ht (k arr H locs hl hh hS)
theorem g_if_eq (C : gC X own nm cc nL rm) {x : Int32} {off : Int} {t : Nat} (hd : decode cc pc = .ok (.ifCond .eq off, 3)) (ht : (pc : Int) + off = (t : Int)) (hq : pc + 3 = q) (kt : x = 0 → gG X t ls st hp cl sl) (kf : ¬ x = 0 → gG X q ls st hp cl sl) : gG X pc ls (.int x :: st) hp cl sl := by
  subst hq; exact fun arr H locs hl hh hS => lv_if_eq C.1 C.2.1 hd ht (fun h => kt h arr H locs hl hh hS) (fun h => kf h arr H locs hl hh hS)
theorem g_if_eq_t (C : gC X own nm cc nL rm) {x : Int32} {off : Int} {t : Nat} (hd : decode cc pc = .ok (.ifCond .eq off, 3)) (ht : (pc : Int) + off = (t : Int)) (h : x = 0) (kt : gG X t ls st hp cl sl) : gG X pc ls (.int x :: st) hp cl sl := g_if_eq C hd ht rfl (fun _ => kt) (fun h9 => absurd (h) (h9))
theorem g_if_eq_f (C : gC X own nm cc nL rm) {x : Int32} {off : Int} {t : Nat} (hd : decode cc pc = .ok (.ifCond .eq off, 3)) (ht : (pc : Int) + off = (t : Int)) (hq : pc + 3 = q) (h : ¬ x = 0) (kf : gG X q ls st hp cl sl) : gG X pc ls (.int x :: st) hp cl sl := g_if_eq C hd ht hq (fun h9 => absurd (h9) (h)) (fun _ => kf)
theorem g_icmp_eq (C : gC X own nm cc nL rm) {x z : Int32} {off : Int} {t : Nat} (hd : decode cc pc = .ok (.if_icmp .eq off, 3)) (ht : (pc : Int) + off = (t : Int)) (hq : pc + 3 = q) (kt : x = z → gG X t ls st hp cl sl) (kf : ¬ x = z → gG X q ls st hp cl sl) : gG X pc ls (.int z :: .int x :: st) hp cl sl := by
  subst hq; exact fun arr H locs hl hh hS => lv_icmp_eq C.1 C.2.1 hd ht (fun h => kt h arr H locs hl hh hS) (fun h => kf h arr H locs hl hh hS)
theorem g_icmp_eq_t (C : gC X own nm cc nL rm) {x z : Int32} {off : Int} {t : Nat} (hd : decode cc pc = .ok (.if_icmp .eq off, 3)) (ht : (pc : Int) + off = (t : Int)) (h : x = z) (kt : gG X t ls st hp cl sl) : gG X pc ls (.int z :: .int x :: st) hp cl sl := g_icmp_eq C hd ht rfl (fun _ => kt) (fun h9 => absurd (h) (h9))
theorem g_icmp_eq_f (C : gC X own nm cc nL rm) {x z : Int32} {off : Int} {t : Nat} (hd : decode cc pc = .ok (.if_icmp .eq off, 3)) (ht : (pc : Int) + off = (t : Int)) (hq : pc + 3 = q) (h : ¬ x = z) (kf : gG X q ls st hp cl sl) : gG X pc ls (.int z :: .int x :: st) hp cl sl := g_icmp_eq C hd ht hq (fun h9 => absurd (h9) (h)) (fun _ => kf)
theorem g_if_ne (C : gC X own nm cc nL rm) {x : Int32} {off : Int} {t : Nat} (hd : decode cc pc = .ok (.ifCond .ne off, 3)) (ht : (pc : Int) + off = (t : Int)) (hq : pc + 3 = q) (kt : ¬ x = 0 → gG X t ls st hp cl sl) (kf : x = 0 → gG X q ls st hp cl sl) : gG X pc ls (.int x :: st) hp cl sl := by
  subst hq; exact fun arr H locs hl hh hS => lv_if_ne C.1 C.2.1 hd ht (fun h => kt h arr H locs hl hh hS) (fun h => kf h arr H locs hl hh hS)
theorem g_if_ne_t (C : gC X own nm cc nL rm) {x : Int32} {off : Int} {t : Nat} (hd : decode cc pc = .ok (.ifCond .ne off, 3)) (ht : (pc : Int) + off = (t : Int)) (h : ¬ x = 0) (kt : gG X t ls st hp cl sl) : gG X pc ls (.int x :: st) hp cl sl := g_if_ne C hd ht rfl (fun _ => kt) (fun h9 => absurd (h9) (h))
theorem g_if_ne_f (C : gC X own nm cc nL rm) {x : Int32} {off : Int} {t : Nat} (hd : decode cc pc = .ok (.ifCond .ne off, 3)) (ht : (pc : Int) + off = (t : Int)) (hq : pc + 3 = q) (h : x = 0) (kf : gG X q ls st hp cl sl) : gG X pc ls (.int x :: st) hp cl sl := g_if_ne C hd ht hq (fun h9 => absurd (h) (h9)) (fun _ => kf)
theorem g_icmp_ne (C : gC X own nm cc nL rm) {x z : Int32} {off : Int} {t : Nat} (hd : decode cc pc = .ok (.if_icmp .ne off, 3)) (ht : (pc : Int) + off = (t : Int)) (hq : pc + 3 = q) (kt : ¬ x = z → gG X t ls st hp cl sl) (kf : x = z → gG X q ls st hp cl sl) : gG X pc ls (.int z :: .int x :: st) hp cl sl := by
  subst hq; exact fun arr H locs hl hh hS => lv_icmp_ne C.1 C.2.1 hd ht (fun h => kt h arr H locs hl hh hS) (fun h => kf h arr H locs hl hh hS)
theorem g_icmp_ne_t (C : gC X own nm cc nL rm) {x z : Int32} {off : Int} {t : Nat} (hd : decode cc pc = .ok (.if_icmp .ne off, 3)) (ht : (pc : Int) + off = (t : Int)) (h : ¬ x = z) (kt : gG X t ls st hp cl sl) : gG X pc ls (.int z :: .int x :: st) hp cl sl := g_icmp_ne C hd ht rfl (fun _ => kt) (fun h9 => absurd (h9) (h))
theorem g_icmp_ne_f (C : gC X own nm cc nL rm) {x z : Int32} {off : Int} {t : Nat} (hd : decode cc pc = .ok (.if_icmp .ne off, 3)) (ht : (pc : Int) + off = (t : Int)) (hq : pc + 3 = q) (h : x = z) (kf : gG X q ls st hp cl sl) : gG X pc ls (.int z :: .int x :: st) hp cl sl := g_icmp_ne C hd ht hq (fun h9 => absurd (h) (h9)) (fun _ => kf)
theorem g_if_lt (C : gC X own nm cc nL rm) {x : Int32} {off : Int} {t : Nat} (hd : decode cc pc = .ok (.ifCond .lt off, 3)) (ht : (pc : Int) + off = (t : Int)) (hq : pc + 3 = q) (kt : x < 0 → gG X t ls st hp cl sl) (kf : ¬ x < 0 → gG X q ls st hp cl sl) : gG X pc ls (.int x :: st) hp cl sl := by
  subst hq; exact fun arr H locs hl hh hS => lv_if_lt C.1 C.2.1 hd ht (fun h => kt h arr H locs hl hh hS) (fun h => kf h arr H locs hl hh hS)
theorem g_if_lt_t (C : gC X own nm cc nL rm) {x : Int32} {off : Int} {t : Nat} (hd : decode cc pc = .ok (.ifCond .lt off, 3)) (ht : (pc : Int) + off = (t : Int)) (h : x < 0) (kt : gG X t ls st hp cl sl) : gG X pc ls (.int x :: st) hp cl sl := g_if_lt C hd ht rfl (fun _ => kt) (fun h9 => absurd (h) (h9))
theorem g_if_lt_f (C : gC X own nm cc nL rm) {x : Int32} {off : Int} {t : Nat} (hd : decode cc pc = .ok (.ifCond .lt off, 3)) (ht : (pc : Int) + off = (t : Int)) (hq : pc + 3 = q) (h : ¬ x < 0) (kf : gG X q ls st hp cl sl) : gG X pc ls (.int x :: st) hp cl sl := g_if_lt C hd ht hq (fun h9 => absurd (h9) (h)) (fun _ => kf)
theorem g_icmp_lt (C : gC X own nm cc nL rm) {x z : Int32} {off : Int} {t : Nat} (hd : decode cc pc = .ok (.if_icmp .lt off, 3)) (ht : (pc : Int) + off = (t : Int)) (hq : pc + 3 = q) (kt : x < z → gG X t ls st hp cl sl) (kf : ¬ x < z → gG X q ls st hp cl sl) : gG X pc ls (.int z :: .int x :: st) hp cl sl := by
  subst hq; exact fun arr H locs hl hh hS => lv_icmp_lt C.1 C.2.1 hd ht (fun h => kt h arr H locs hl hh hS) (fun h => kf h arr H locs hl hh hS)
theorem g_icmp_lt_t (C : gC X own nm cc nL rm) {x z : Int32} {off : Int} {t : Nat} (hd : decode cc pc = .ok (.if_icmp .lt off, 3)) (ht : (pc : Int) + off = (t : Int)) (h : x < z) (kt : gG X t ls st hp cl sl) : gG X pc ls (.int z :: .int x :: st) hp cl sl := g_icmp_lt C hd ht rfl (fun _ => kt) (fun h9 => absurd (h) (h9))
theorem g_icmp_lt_f (C : gC X own nm cc nL rm) {x z : Int32} {off : Int} {t : Nat} (hd : decode cc pc = .ok (.if_icmp .lt off, 3)) (ht : (pc : Int) + off = (t : Int)) (hq : pc + 3 = q) (h : ¬ x < z) (kf : gG X q ls st hp cl sl) : gG X pc ls (.int z :: .int x :: st) hp cl sl := g_icmp_lt C hd ht hq (fun h9 => absurd (h9) (h)) (fun _ => kf)
theorem g_if_ge (C : gC X own nm cc nL rm) {x : Int32} {off : Int} {t : Nat} (hd : decode cc pc = .ok (.ifCond .ge off, 3)) (ht : (pc : Int) + off = (t : Int)) (hq : pc + 3 = q) (kt : 0 ≤ x → gG X t ls st hp cl sl) (kf : ¬ 0 ≤ x → gG X q ls st hp cl sl) : gG X pc ls (.int x :: st) hp cl sl := by
  subst hq; exact fun arr H locs hl hh hS => lv_if_ge C.1 C.2.1 hd ht (fun h => kt h arr H locs hl hh hS) (fun h => kf h arr H locs hl hh hS)
theorem g_if_ge_t (C : gC X own nm cc nL rm) {x : Int32} {off : Int} {t : Nat} (hd : decode cc pc = .ok (.ifCond .ge off, 3)) (ht : (pc : Int) + off = (t : Int)) (h : 0 ≤ x) (kt : gG X t ls st hp cl sl) : gG X pc ls (.int x :: st) hp cl sl := g_if_ge C hd ht rfl (fun _ => kt) (fun h9 => absurd (h) (h9))
theorem g_if_ge_f (C : gC X own nm cc nL rm) {x : Int32} {off : Int} {t : Nat} (hd : decode cc pc = .ok (.ifCond .ge off, 3)) (ht : (pc : Int) + off = (t : Int)) (hq : pc + 3 = q) (h : ¬ 0 ≤ x) (kf : gG X q ls st hp cl sl) : gG X pc ls (.int x :: st) hp cl sl := g_if_ge C hd ht hq (fun h9 => absurd (h9) (h)) (fun _ => kf)
theorem g_icmp_ge (C : gC X own nm cc nL rm) {x z : Int32} {off : Int} {t : Nat} (hd : decode cc pc = .ok (.if_icmp .ge off, 3)) (ht : (pc : Int) + off = (t : Int)) (hq : pc + 3 = q) (kt : z ≤ x → gG X t ls st hp cl sl) (kf : ¬ z ≤ x → gG X q ls st hp cl sl) : gG X pc ls (.int z :: .int x :: st) hp cl sl := by
  subst hq; exact fun arr H locs hl hh hS => lv_icmp_ge C.1 C.2.1 hd ht (fun h => kt h arr H locs hl hh hS) (fun h => kf h arr H locs hl hh hS)
theorem g_icmp_ge_t (C : gC X own nm cc nL rm) {x z : Int32} {off : Int} {t : Nat} (hd : decode cc pc = .ok (.if_icmp .ge off, 3)) (ht : (pc : Int) + off = (t : Int)) (h : z ≤ x) (kt : gG X t ls st hp cl sl) : gG X pc ls (.int z :: .int x :: st) hp cl sl := g_icmp_ge C hd ht rfl (fun _ => kt) (fun h9 => absurd (h) (h9))
theorem g_icmp_ge_f (C : gC X own nm cc nL rm) {x z : Int32} {off : Int} {t : Nat} (hd : decode cc pc = .ok (.if_icmp .ge off, 3)) (ht : (pc : Int) + off = (t : Int)) (hq : pc + 3 = q) (h : ¬ z ≤ x) (kf : gG X q ls st hp cl sl) : gG X pc ls (.int z :: .int x :: st) hp cl sl := g_icmp_ge C hd ht hq (fun h9 => absurd (h9) (h)) (fun _ => kf)
theorem g_if_gt (C : gC X own nm cc nL rm) {x : Int32} {off : Int} {t : Nat} (hd : decode cc pc = .ok (.ifCond .gt off, 3)) (ht : (pc : Int) + off = (t : Int)) (hq : pc + 3 = q) (kt : 0 < x → gG X t ls st hp cl sl) (kf : ¬ 0 < x → gG X q ls st hp cl sl) : gG X pc ls (.int x :: st) hp cl sl := by
  subst hq; exact fun arr H locs hl hh hS => lv_if_gt C.1 C.2.1 hd ht (fun h => kt h arr H locs hl hh hS) (fun h => kf h arr H locs hl hh hS)
theorem g_if_gt_t (C : gC X own nm cc nL rm) {x : Int32} {off : Int} {t : Nat} (hd : decode cc pc = .ok (.ifCond .gt off, 3)) (ht : (pc : Int) + off = (t : Int)) (h : 0 < x) (kt : gG X t ls st hp cl sl) : gG X pc ls (.int x :: st) hp cl sl := g_if_gt C hd ht rfl (fun _ => kt) (fun h9 => absurd (h) (h9))
theorem g_if_gt_f (C : gC X own nm cc nL rm) {x : Int32} {off : Int} {t : Nat} (hd : decode cc pc = .ok (.ifCond .gt off, 3)) (ht : (pc : Int) + off = (t : Int)) (hq : pc + 3 = q) (h : ¬ 0 < x) (kf : gG X q ls st hp cl sl) : gG X pc ls (.int x :: st) hp cl sl := g_if_gt C hd ht hq (fun h9 => absurd (h9) (h)) (fun _ => kf)
theorem g_icmp_gt (C : gC X own nm cc nL rm) {x z : Int32} {off : Int} {t : Nat} (hd : decode cc pc = .ok (.if_icmp .gt off, 3)) (ht : (pc : Int) + off = (t : Int)) (hq : pc + 3 = q) (kt : z < x → gG X t ls st hp cl sl) (kf : ¬ z < x → gG X q ls st hp cl sl) : gG X pc ls (.int z :: .int x :: st) hp cl sl := by
  subst hq; exact fun arr H locs hl hh hS => lv_icmp_gt C.1 C.2.1 hd ht (fun h => kt h arr H locs hl hh hS) (fun h => kf h arr H locs hl hh hS)
theorem g_icmp_gt_t (C : gC X own nm cc nL rm) {x z : Int32} {off : Int} {t : Nat} (hd : decode cc pc = .ok (.if_icmp .gt off, 3)) (ht : (pc : Int) + off = (t : Int)) (h : z < x) (kt : gG X t ls st hp cl sl) : gG X pc ls (.int z :: .int x :: st) hp cl sl := g_icmp_gt C hd ht rfl (fun _ => kt) (fun h9 => absurd (h) (h9))
theorem g_icmp_gt_f (C : gC X own nm cc nL rm) {x z : Int32} {off : Int} {t : Nat} (hd : decode cc pc = .ok (.if_icmp .gt off, 3)) (ht : (pc : Int) + off = (t : Int)) (hq : pc + 3 = q) (h : ¬ z < x) (kf : gG X q ls st hp cl sl) : gG X pc ls (.int z :: .int x :: st) hp cl sl := g_icmp_gt C hd ht hq (fun h9 => absurd (h9) (h)) (fun _ => kf)
theorem g_if_le (C : gC X own nm cc nL rm) {x : Int32} {off : Int} {t : Nat} (hd : decode cc pc = .ok (.ifCond .le off, 3)) (ht : (pc : Int) + off = (t : Int)) (hq : pc + 3 = q) (kt : x ≤ 0 → gG X t ls st hp cl sl) (kf : ¬ x ≤ 0 → gG X q ls st hp cl sl) : gG X pc ls (.int x :: st) hp cl sl := by
  subst hq; exact fun arr H locs hl hh hS => lv_if_le C.1 C.2.1 hd ht (fun h => kt h arr H locs hl hh hS) (fun h => kf h arr H locs hl hh hS)
theorem g_if_le_t (C : gC X own nm cc nL rm) {x : Int32} {off : Int} {t : Nat} (hd : decode cc pc = .ok (.ifCond .le off, 3)) (ht : (pc : Int) + off = (t : Int)) (h : x ≤ 0) (kt : gG X t ls st hp cl sl) : gG X pc ls (.int x :: st) hp cl sl := g_if_le C hd ht rfl (fun _ => kt) (fun h9 => absurd (h) (h9))
theorem g_if_le_f (C : gC X own nm cc nL rm) {x : Int32} {off : Int} {t : Nat} (hd : decode cc pc = .ok (.ifCond .le off, 3)) (ht : (pc : Int) + off = (t : Int)) (hq : pc + 3 = q) (h : ¬ x ≤ 0) (kf : gG X q ls st hp cl sl) : gG X pc ls (.int x :: st) hp cl sl := g_if_le C hd ht hq (fun h9 => absurd (h9) (h)) (fun _ => kf)
theorem g_icmp_le (C : gC X own nm cc nL rm) {x z : Int32} {off : Int} {t : Nat} (hd : decode cc pc = .ok (.if_icmp .le off, 3)) (ht : (pc : Int) + off = (t : Int)) (hq : pc + 3 = q) (kt : x ≤ z → gG X t ls st hp cl sl) (kf : ¬ x ≤ z → gG X q ls st hp cl sl) : gG X pc ls (.int z :: .int x :: st) hp cl sl := by
  subst hq; exact fun arr H locs hl hh hS => lv_icmp_le C.1 C.2.1 hd ht (fun h => kt h arr H locs hl hh hS) (fun h => kf h arr H locs hl hh hS)
theorem g_icmp_le_t (C : gC X own nm cc nL rm) {x z : Int32} {off : Int} {t : Nat} (hd : decode cc pc = .ok (.if_icmp .le off, 3)) (ht : (pc : Int) + off = (t : Int)) (h : x ≤ z) (kt : gG X t ls st hp cl sl) : gG X pc ls (.int z :: .int x :: st) hp cl sl := g_icmp_le C hd ht rfl (fun _ => kt) (fun h9 => absurd (h) (h9))
theorem g_icmp_le_f (C : gC X own nm cc nL rm) {x z : Int32} {off : Int} {t : Nat} (hd : decode cc pc = .ok (.if_icmp .le off, 3)) (ht : (pc : Int) + off = (t : Int)) (hq : pc + 3 = q) (h : ¬ x ≤ z) (kf : gG X q ls st hp cl sl) : gG X pc ls (.int z :: .int x :: st) hp cl sl := g_icmp_le C hd ht hq (fun h9 => absurd (h9) (h)) (fun _ => kf)
theorem g_sld (C : gC X own nm cc nL rm) {j : UInt32} {L : Nat} {f : Nat → Int32} {i : Int32} (hX : va_X (xA X j.toNat) L f (xs X) (xs X).heap) (hbl : xA X j.toNat < (xs X).heap.size) (hb0 : ¬ xB X ≤ xA X j.toNat) (hd : decode cc pc = .ok (.iaload, 1)) (hq : pc + 1 = q) (hi : vp_in i L) (k : gG X q ls (.int (f i.toNatClampNeg) :: st) hp cl sl) : gG X pc ls (.int i :: .float j :: st) hp cl sl := by
  subst hq; exact fun arr H locs hl hh hS => va_sld C.1 C.2.1 hX hbl hb0 hS hi hd (k arr H locs hl hh hS)
theorem g_slen (C : gC X own nm cc nL rm) {j : UInt32} {L : Nat} {f : Nat → Int32} (hX : va_X (xA X j.toNat) L f (xs X) (xs X).heap) (hbl : xA X j.toNat < (xs X).heap.size) (hb0 : ¬ xB X ≤ xA X j.toNat) (hd : decode cc pc = .ok (.arraylength, 1)) (hq : pc + 1 = q) (k : gG X q ls (.int (nI L) :: st) hp cl sl) : gG X pc ls (.float j :: st) hp cl sl := by
  subst hq; exact fun arr H locs hl hh hS => va_slen C.1 C.2.1 hX hbl hb0 hS hd (k arr H locs hl hh hS)
theorem g_tableOut (C : gC X own nm cc nL rm) {dflt lo hi : Int} {offs : Array Int} {len : Nat} {x : Int32} {t : Nat} (hd : decode cc pc = .ok (.tableswitch dflt lo hi offs, len)) (h : x.toInt < lo ∨ hi < x.toInt) (ht : (pc : Int) + dflt = (t : Int)) (k : gG X t ls st hp cl sl) : gG X pc ls (.int x :: st) hp cl sl :=
  fun arr H locs hl hh hS => lv_tableOut C.1 C.2.1 hd h ht (k arr H locs hl hh hS)
theorem g_tableIn (C : gC X own nm cc nL rm) {dflt lo hi : Int} {offs : Array Int} {len : Nat} {x : Int32} {off : Int} {t : Nat} (hd : decode cc pc = .ok (.tableswitch dflt lo hi offs, len)) (h1 : ¬ x.toInt < lo) (h2 : ¬ hi < x.toInt) (ho : offs[(x.toInt - lo).toNat]? = some off) (ht : (pc : Int) + off = (t : Int)) (k : gG X t ls st hp cl sl) : gG X pc ls (.int x :: st) hp cl sl :=
  fun arr H locs hl hh hS => lv_tableIn C.1 C.2.1 hd h1 h2 ho ht (k arr H locs hl hh hS)
theorem g_ifnull (C : gC X own nm cc nL rm) {k0 : Nat} {off : Int} (hd : decode cc pc = .ok (.ifnull off, 3)) (hq : pc + 3 = q) (k : gG X q ls st hp cl sl) : gG X pc ls (.ref k0 :: st) hp cl sl := by
  subst hq; exact fun arr H locs hl hh hS => lv_ifnull C.1 C.2.1 hd (k arr H locs hl hh hS)
theorem g_ifnullN (C : gC X own nm cc nL rm) {off : Int} {t : Nat} (hd : decode cc pc = .ok (.ifnull off, 3)) (ht : (pc : Int) + off = (t : Int)) (k : gG X t ls st hp cl sl) : gG X pc ls (.null :: st) hp cl sl :=
  fun arr H locs hl hh hS => lv_ifnullN C.1 C.2.1 hd ht (k arr H locs hl hh hS)
theorem g_acmp_ne (C : gC X own nm cc nL rm) {a1 a2 : Nat} {off : Int} {t : Nat} (hd : decode cc pc = .ok (.if_acmp .ne off, 3)) (ht : (pc : Int) + off = (t : Int)) (hq : pc + 3 = q) (kt : ¬ a1 = a2 → gG X t ls st hp cl sl) (kf : a1 = a2 → gG X q ls st hp cl sl) : gG X pc ls (.ref a2 :: .ref a1 :: st) hp cl sl := by
  subst hq
  intro arr H locs hl hh hS
  exact lv_acmp_ne (rx := some (xB X + a1)) (ry := some (xB X + a2)) C.1 C.2.1 hd ht (fun h => kt (fun h2 => h (by rw [h2])) arr H locs hl hh hS) (fun h => kf (Nat.add_left_cancel (Option.some.inj h)) arr H locs hl hh hS)
theorem g_weaken {cl' sl' : Nat} (h1 : cl ≤ cl') (h2 : sl ≤ sl') (k : gG X pc ls st hp cl' sl') : gG X pc ls st hp cl sl :=
  fun arr H locs hl hh hS => W.widen h1 h2 (k arr H locs hl hh hS)
/-- locals forgotten -/
theorem g_forget {ls' : List (Option Value)} (hn : ls'.length = ls.length) (h : ∀ (i : Nat) (v : Value), ls'[i]? = some (some v) → ls[i]? = some (some v)) (k : gG X pc ls' st hp cl sl) : gG X pc ls st hp cl sl :=
  fun arr H locs hl hh hS => k arr H locs ⟨hl.1.trans hn.symm, hl.2.1, fun i v hv => hl.2.2 i v (h i v hv)⟩ hh hS
/-! locals -/
theorem gL_at {b0 : Nat} {sa : Nat → Nat} {arr : Array Slot} {v : Value} {i : Nat} (h : gL b0 sa arr ls) (hi : ls[i]? = some (some v)) : arr[i]? = some (.val (gv b0 sa v)) := h.2.2 i v hi
/-- the pairs of a row of locals -/
def gP (b0 : Nat) (sa : Nat → Nat) (ls : List (Option Value)) : List (Nat × Value) := (List.range ls.length).filterMap fun i => (ls[i]?.join).map fun v => (i, gv b0 sa v)
theorem gP_mem {b0 : Nat} {sa : Nat → Nat} {ls : List (Option Value)} {z : Nat × Value} : z ∈ gP b0 sa ls ↔ ∃ v, ls[z.1]? = some (some v) ∧ z.2 = gv b0 sa v := by
  unfold gP
  rw [List.mem_filterMap]
  constructor
  · rintro ⟨i, hi, h⟩
    cases h1 : ls[i]? with
    | none => rw [h1] at h; simp at h
    | some o =>
      cases o with
      | none => rw [h1] at h; simp at h
      | some v =>
        rw [h1] at h
        simp at h
        subst h
        exact ⟨v, h1, rfl⟩
  · rintro ⟨v, h1, h2⟩
    obtain ⟨i, u⟩ := z
    dsimp only at h1 h2
    subst h2
    have hlt : i < ls.length := (List.getElem?_eq_some_iff.mp h1).1
    exact ⟨i, List.mem_range.mpr hlt, by rw [h1]; rfl⟩
theorem gL_has {b0 : Nat} {sa : Nat → Nat} {arr : Array Slot} (h : gL b0 sa arr ls) : lv_has arr ls.length (gP b0 sa ls) := by
  refine ⟨h.1, h.2.1, fun z hz => ?_⟩
  obtain ⟨v, h1, h2⟩ := gP_mem.mp hz
  rw [h2]
  exact h.2.2 _ _ h1
/-- what a store leaves: ls' agrees with ls but at i, and a long that ended at i is gone -/
def gSt (ls ls' : List (Option Value)) (i : Nat) (v : Value) : Prop :=
  i < ls.length ∧ ls'.length = ls.length ∧ ∀ (j : Nat) (u : Value), ls'[j]? = some (some u) → (j = i ∧ u = v) ∨ (j ≠ i ∧ ls[j]? = some (some u) ∧ ¬ (j + 1 = i ∧ u.category = 2))
theorem gL_store {b0 : Nat} {sa : Nat → Nat} {arr' : Array Slot} {ls' : List (Option Value)} {i : Nat} {v : Value} (hs : gSt ls ls' i v) (h : lv_has arr' ls.length ((i, gv b0 sa v) :: (gP b0 sa ls).filter (fun q => !(q.1 == i) && !(q.1 + 1 == i && q.2.category == 2)))) : gL b0 sa arr' ls' := by
  obtain ⟨h1, h2, h3⟩ := h
  refine ⟨h1.trans hs.2.1.symm, h2, fun j u hu => ?_⟩
  rcases hs.2.2 j u hu with ⟨rfl, rfl⟩ | ⟨hne, hl, hk⟩
  · exact h3 _ List.mem_cons_self
  · refine h3 (j, gv b0 sa u) (List.mem_cons_of_mem _ (List.mem_filter.mpr ⟨gP_mem.mpr ⟨u, hl, rfl⟩, ?_⟩))
    simp only [gv_cat]
    simp only [Bool.and_eq_true, Bool.not_eq_true', beq_eq_false_iff_ne, ne_eq, Bool.and_eq_false_iff]
    refine ⟨hne, ?_⟩
    by_cases hj : j + 1 = i
    · exact Or.inr (fun hc => hk ⟨hj, hc⟩)
    · exact Or.inl hj
/-- likewise, of a long -/
def gSt2 (ls ls' : List (Option Value)) (i : Nat) (v : Value) : Prop :=
  i + 1 < ls.length ∧ ls'.length = ls.length ∧ ∀ (j : Nat) (u : Value), ls'[j]? = some (some u) → (j = i ∧ u = v) ∨ (j ≠ i ∧ j ≠ i + 1 ∧ ls[j]? = some (some u) ∧ ¬ (j + 1 = i ∧ u.category = 2))
theorem gL_store2 {b0 : Nat} {sa : Nat → Nat} {arr' : Array Slot} {ls' : List (Option Value)} {i : Nat} {v : Value} (hs : gSt2 ls ls' i v) (h : lv_has arr' ls.length ((i, gv b0 sa v) :: (gP b0 sa ls).filter (fun q => !(q.1 == i) && (!(q.1 == i + 1) && !(q.1 + 1 == i && q.2.category == 2))))) : gL b0 sa arr' ls' := by
  obtain ⟨h1, h2, h3⟩ := h
  refine ⟨h1.trans hs.2.1.symm, h2, fun j u hu => ?_⟩
  rcases hs.2.2 j u hu with ⟨rfl, rfl⟩ | ⟨hne, hne2, hl, hk⟩
  · exact h3 _ List.mem_cons_self
  · refine h3 (j, gv b0 sa u) (List.mem_cons_of_mem _ (List.mem_filter.mpr ⟨gP_mem.mpr ⟨u, hl, rfl⟩, ?_⟩))
    simp only [gv_cat]
    simp only [Bool.and_eq_true, Bool.not_eq_true', beq_eq_false_iff_ne, ne_eq, Bool.and_eq_false_iff]
    refine ⟨hne, hne2, ?_⟩
    by_cases hj : j + 1 = i
    · exact Or.inr (fun hc => hk ⟨hj, hc⟩)
    · exact Or.inl hj
/-- the store, by computing -/
def gset : List (Option Value) → Nat → Value → List (Option Value)
  | [], _, _ => []
  | _ :: t, 0, v => some v :: t
  | o :: t, 1, v => (match o with | some (.long _) => none | some (.double _) => none | z => z) :: gset t 0 v
  | o :: t, i + 2, v => o :: gset t (i + 1) v
theorem gset_len : ∀ (ls : List (Option Value)) (i : Nat) (v : Value), (gset ls i v).length = ls.length
  | [], _, _ => rfl
  | _ :: t, 0, v => rfl
  | o :: t, 1, v => by simp [gset, gset_len t 0 v]
  | o :: t, i + 2, v => by simp [gset, gset_len t (i + 1) v]
theorem gset_at : ∀ (ls : List (Option Value)) (i : Nat) (v : Value) (j : Nat) (u : Value), (gset ls i v)[j]? = some (some u) → (j = i ∧ u = v) ∨ (j ≠ i ∧ ls[j]? = some (some u) ∧ ¬ (j + 1 = i ∧ u.category = 2))
  | [], _, _, j, u, h => by simp [gset] at h
  | o :: t, 0, v, 0, u, h => by
    simp [gset] at h
    exact Or.inl ⟨rfl, h.symm⟩
  | o :: t, 0, v, j + 1, u, h => by
    simp [gset] at h
    exact Or.inr ⟨by omega, by simpa using h, by omega⟩
  | o :: t, 1, v, 0, u, h => by
    refine Or.inr ⟨by omega, ?_⟩
    cases o with
    | none => simp [gset] at h
    | some z => cases z <;> simp [gset] at h <;> (subst h; simp [Value.category])
  | o :: t, 1, v, j + 1, u, h => by
    have h2 : (gset t 0 v)[j]? = some (some u) := by simpa [gset] using h
    rcases gset_at t 0 v j u h2 with ⟨a, b⟩ | ⟨a, b, c9⟩
    · exact Or.inl ⟨by omega, b⟩
    · exact Or.inr ⟨by omega, by simpa using b, by omega⟩
  | o :: t, i + 2, v, 0, u, h => by
    simp [gset] at h
    exact Or.inr ⟨by omega, by simpa using h, by omega⟩
  | o :: t, i + 2, v, j + 1, u, h => by
    have h2 : (gset t (i + 1) v)[j]? = some (some u) := by simpa [gset] using h
    rcases gset_at t (i + 1) v j u h2 with ⟨a, b⟩ | ⟨a, b, c9⟩
    · exact Or.inl ⟨by omega, b⟩
    · exact Or.inr ⟨by omega, by simpa using b, fun hh => c9 ⟨by omega, hh.2⟩⟩
theorem gset_st {ls : List (Option Value)} {i : Nat} {v : Value} (h : i < ls.length) : gSt ls (gset ls i v) i v := ⟨h, gset_len ls i v, gset_at ls i v⟩
theorem gset2_st {ls : List (Option Value)} {i : Nat} {v : Value} (h : i + 1 < ls.length) : gSt2 ls ((gset ls i v).set (i + 1) none) i v := by
  refine ⟨h, by rw [List.length_set, gset_len], fun j u hu => ?_⟩
  by_cases hj : j = i + 1
  · subst hj
    rw [List.getElem?_set_self (by rw [gset_len]; exact h)] at hu
    cases hu
  · rw [List.getElem?_set_ne (Ne.symm hj)] at hu
    rcases gset_at ls i v j u hu with a | ⟨a, b, c9⟩
    · exact Or.inl a
    · exact Or.inr ⟨a, hj, b, c9⟩

theorem g_iload (C : gC X own nm cc nL rm) {i : Nat} {x : Int32} (hd : decode cc pc = .ok (.iload i, 2)) (hl0 : ls[i]? = some (some (.int x))) (hq : pc + 2 = q) (k : gG X q ls (.int x :: st) hp cl sl) : gG X pc ls st hp cl sl := by
  subst hq; exact fun arr H locs hl hh hS => lv_iload C.1 C.2.1 hd (gL_at hl hl0) (k arr H locs hl hh hS)
theorem g_iload_n (C : gC X own nm cc nL rm) {i : Fin 4} {x : Int32} (hd : decode cc pc = .ok (.iload_n i, 1)) (hl0 : ls[i.val]? = some (some (.int x))) (hq : pc + 1 = q) (k : gG X q ls (.int x :: st) hp cl sl) : gG X pc ls st hp cl sl := by
  subst hq; exact fun arr H locs hl hh hS => lv_iload_n C.1 C.2.1 hd rfl (gL_at hl hl0) (k arr H locs hl hh hS)
theorem g_lload (C : gC X own nm cc nL rm) {i : Nat} {x : Int64} (hd : decode cc pc = .ok (.lload i, 2)) (hl0 : ls[i]? = some (some (.long x))) (hq : pc + 2 = q) (k : gG X q ls (.long x :: st) hp cl sl) : gG X pc ls st hp cl sl := by
  subst hq; exact fun arr H locs hl hh hS => lv_lload C.1 C.2.1 hd (gL_at hl hl0) (k arr H locs hl hh hS)
theorem g_lload_n (C : gC X own nm cc nL rm) {i : Fin 4} {x : Int64} (hd : decode cc pc = .ok (.lload_n i, 1)) (hl0 : ls[i.val]? = some (some (.long x))) (hq : pc + 1 = q) (k : gG X q ls (.long x :: st) hp cl sl) : gG X pc ls st hp cl sl := by
  subst hq; exact fun arr H locs hl hh hS => lv_lload_n C.1 C.2.1 hd rfl (gL_at hl hl0) (k arr H locs hl hh hS)
theorem g_aload (C : gC X own nm cc nL rm) {i : Nat} {x : Nat} (hd : decode cc pc = .ok (.aload i, 2)) (hl0 : ls[i]? = some (some (.ref x))) (hq : pc + 2 = q) (k : gG X q ls (.ref x :: st) hp cl sl) : gG X pc ls st hp cl sl := by
  subst hq; exact fun arr H locs hl hh hS => lv_aload C.1 C.2.1 hd (gL_at hl hl0) (k arr H locs hl hh hS)
theorem g_aload_n (C : gC X own nm cc nL rm) {i : Fin 4} {x : Nat} (hd : decode cc pc = .ok (.aload_n i, 1)) (hl0 : ls[i.val]? = some (some (.ref x))) (hq : pc + 1 = q) (k : gG X q ls (.ref x :: st) hp cl sl) : gG X pc ls st hp cl sl := by
  subst hq; exact fun arr H locs hl hh hS => lv_aload_n C.1 C.2.1 hd rfl (gL_at hl hl0) (k arr H locs hl hh hS)
theorem g_aloadS (C : gC X own nm cc nL rm) {i : Nat} {j : UInt32} (hd : decode cc pc = .ok (.aload i, 2)) (hl0 : ls[i]? = some (some (.float j))) (hq : pc + 2 = q) (k : gG X q ls (.float j :: st) hp cl sl) : gG X pc ls st hp cl sl := by
  subst hq; exact fun arr H locs hl hh hS => lv_aload C.1 C.2.1 hd (gL_at hl hl0) (k arr H locs hl hh hS)
theorem g_aloadS_n (C : gC X own nm cc nL rm) {i : Fin 4} {j : UInt32} (hd : decode cc pc = .ok (.aload_n i, 1)) (hl0 : ls[i.val]? = some (some (.float j))) (hq : pc + 1 = q) (k : gG X q ls (.float j :: st) hp cl sl) : gG X pc ls st hp cl sl := by
  subst hq; exact fun arr H locs hl hh hS => lv_aload_n C.1 C.2.1 hd rfl (gL_at hl hl0) (k arr H locs hl hh hS)
theorem g_aloadN (C : gC X own nm cc nL rm) {i : Nat}  (hd : decode cc pc = .ok (.aload i, 2)) (hl0 : ls[i]? = some (some (.null))) (hq : pc + 2 = q) (k : gG X q ls (.null :: st) hp cl sl) : gG X pc ls st hp cl sl := by
  subst hq; exact fun arr H locs hl hh hS => lv_aloadN C.1 C.2.1 hd (gL_at hl hl0) (k arr H locs hl hh hS)
theorem g_aloadN_n (C : gC X own nm cc nL rm) {i : Fin 4}  (hd : decode cc pc = .ok (.aload_n i, 1)) (hl0 : ls[i.val]? = some (some (.null))) (hq : pc + 1 = q) (k : gG X q ls (.null :: st) hp cl sl) : gG X pc ls st hp cl sl := by
  subst hq; exact fun arr H locs hl hh hS => lv_aload_nN C.1 C.2.1 hd rfl (gL_at hl hl0) (k arr H locs hl hh hS)
theorem g_istore (C : gC X own nm cc nL rm) {i : Nat} {x : Int32} {ls' : List (Option Value)} (hd : decode cc pc = .ok (.istore i, 2)) (hi : i < ls.length) (he : gset ls i (.int x) = ls') (hq : pc + 2 = q) (k : gG X q ls' st hp cl sl) : gG X pc ls (.int x :: st) hp cl sl := by
  subst hq; subst he; exact fun arr H locs hl hh hS => lv_istore C.1 C.2.1 hd (gL_has hl) hi rfl (fun arr' h' => k arr' H locs (gL_store (gset_st hi) h') hh hS)
theorem g_istore_n (C : gC X own nm cc nL rm) {i : Fin 4} {x : Int32} {ls' : List (Option Value)} (hd : decode cc pc = .ok (.istore_n i, 1)) (hi : i.val < ls.length) (he : gset ls i.val (.int x) = ls') (hq : pc + 1 = q) (k : gG X q ls' st hp cl sl) : gG X pc ls (.int x :: st) hp cl sl := by
  subst hq; subst he; exact fun arr H locs hl hh hS => lv_istore_n C.1 C.2.1 hd rfl (gL_has hl) hi rfl (fun arr' h' => k arr' H locs (gL_store (gset_st hi) h') hh hS)
theorem g_astore (C : gC X own nm cc nL rm) {i : Nat} {x : Nat} {ls' : List (Option Value)} (hd : decode cc pc = .ok (.astore i, 2)) (hi : i < ls.length) (he : gset ls i (.ref x) = ls') (hq : pc + 2 = q) (k : gG X q ls' st hp cl sl) : gG X pc ls (.ref x :: st) hp cl sl := by
  subst hq; subst he; exact fun arr H locs hl hh hS => lv_astore C.1 C.2.1 hd (gL_has hl) hi rfl (fun arr' h' => k arr' H locs (gL_store (gset_st hi) h') hh hS)
theorem g_astore_n (C : gC X own nm cc nL rm) {i : Fin 4} {x : Nat} {ls' : List (Option Value)} (hd : decode cc pc = .ok (.astore_n i, 1)) (hi : i.val < ls.length) (he : gset ls i.val (.ref x) = ls') (hq : pc + 1 = q) (k : gG X q ls' st hp cl sl) : gG X pc ls (.ref x :: st) hp cl sl := by
  subst hq; subst he; exact fun arr H locs hl hh hS => lv_astore_n C.1 C.2.1 hd rfl (gL_has hl) hi rfl (fun arr' h' => k arr' H locs (gL_store (gset_st hi) h') hh hS)
theorem g_astoreS (C : gC X own nm cc nL rm) {i : Nat} {j : UInt32} {ls' : List (Option Value)} (hd : decode cc pc = .ok (.astore i, 2)) (hi : i < ls.length) (he : gset ls i (.float j) = ls') (hq : pc + 2 = q) (k : gG X q ls' st hp cl sl) : gG X pc ls (.float j :: st) hp cl sl := by
  subst hq; subst he; exact fun arr H locs hl hh hS => lv_astore (x := xA X j.toNat) C.1 C.2.1 hd (gL_has hl) hi rfl (fun arr' h' => k arr' H locs (gL_store (v := .float j) (gset_st hi) h') hh hS)
theorem g_lstore (C : gC X own nm cc nL rm) {i : Nat} {x : Int64} {ls' : List (Option Value)} (hd : decode cc pc = .ok (.lstore i, 2)) (hi : i + 1 < ls.length) (he : (gset ls i (.long x)).set (i + 1) none = ls') (hq : pc + 2 = q) (k : gG X q ls' st hp cl sl) : gG X pc ls (.long x :: st) hp cl sl := by
  subst hq; subst he; exact fun arr H locs hl hh hS => lv_lstore C.1 C.2.1 hd (gL_has hl) hi rfl (fun arr' h' => k arr' H locs (gL_store2 (v := .long x) (gset2_st hi) h') hh hS)
theorem g_lstore_n (C : gC X own nm cc nL rm) {i : Fin 4} {x : Int64} {ls' : List (Option Value)} (hd : decode cc pc = .ok (.lstore_n i, 1)) (hi : i.val + 1 < ls.length) (he : (gset ls i.val (.long x)).set (i.val + 1) none = ls') (hq : pc + 1 = q) (k : gG X q ls' st hp cl sl) : gG X pc ls (.long x :: st) hp cl sl := by
  subst hq; subst he; exact fun arr H locs hl hh hS => lv_lstore_n C.1 C.2.1 hd rfl (gL_has hl) hi rfl (fun arr' h' => k arr' H locs (gL_store2 (v := .long x) (gset2_st hi) h') hh hS)
theorem g_iinc (C : gC X own nm cc nL rm) {i : Nat} {n : Int} {x v : Int32} {ls' : List (Option Value)} (hd : decode cc pc = .ok (.iinc i n, 3)) (hl0 : ls[i]? = some (some (.int x))) (hv : x + Int32.ofInt n = v) (he : gset ls i (.int v) = ls') (hq : pc + 3 = q) (k : gG X q ls' st hp cl sl) : gG X pc ls st hp cl sl := by
  subst hq; subst he
  have hi : i < ls.length := (List.getElem?_eq_some_iff.mp hl0).1
  intro arr H locs hl hh hS
  obtain ⟨k0, hk0⟩ := List.getElem?_of_mem (gP_mem (b0 := xB X) (sa := xA X) (z := (i, .int x)).mpr ⟨_, hl0, rfl⟩)
  exact lv_iinc C.1 C.2.1 hd (gL_has hl) hk0 hv hi rfl (fun arr' h' => k arr' H locs (gL_store (v := .int v) (gset_st hi) h') hh hS)
end GR
end
section
/-! the heap: reads, writes, new cells; calls; a method's start and end -/
section GHP
variable {D : va_G} {cI cJ : ClassId} {b0 : Nat} {sa : Nat → Nat} {hp : List gA} {H H1 : Heap}
theorem gH_at {k : Nat} {e : gA} (h : gH D cI cJ b0 sa hp H) (ho : hp[k]? = some e) (hne : e ≠ gJunk) : va_at D vwCl (b0 + k, gce cI cJ b0 sa e) H := (h.2 k e ho hne).1
theorem gZ.kept {q : Nat} {e : gA} {H H1 : Heap} (h : gZ q e H) (o : H1[q]? = H[q]?) : gZ q e H1 := fun c hc => h c (o ▸ hc)
theorem gZ.i {q n : Nat} {f : Nat → Int32} {cI : ClassId} {H : Heap} (h : H[q]? = some (vp_cell cI (n, .inl f))) : gZ q (.inl (n, f)) H := fun c hc => by
  rw [h] at hc; cases hc; exact arrV_size _ _ _
theorem gZ.l {q n : Nat} {f : Nat → Int64} {cI : ClassId} {H : Heap} (h : H[q]? = some (vp_cell cI (n, .inr (.inl f)))) : gZ q (.inr (.inl (n, f))) H := fun c hc => by
  rw [h] at hc; cases hc; exact arrV_size _ _ _
theorem gJ1 {ci : Nat} {fs : List Value} {z : vw_C} (hc : vwCl[ci]? = some z) : (Sum.inr (Sum.inr (ci, fs)) : gA) ≠ gJunk := by
  intro h
  have h1 : ci = 1000 := by simp only [gJunk, Sum.inr.injEq, Prod.mk.injEq] at h; exact h.1
  subst h1
  simp [vwCl] at hc
theorem gJ2 {z : Nat × (Nat → Int32)} : (Sum.inl z : gA) ≠ gJunk := by intro h; unfold gJunk at h; cases h
theorem gJ3 {z : Nat × (Nat → Int64)} : (Sum.inr (Sum.inl z) : gA) ≠ gJunk := by intro h; unfold gJunk at h; cases h
theorem gH_set {k : Nat} {e : gA} (h : gH D cI cJ b0 sa hp H) (z : H1.size = H.size) (oq : ∀ q : Nat, q ≠ b0 + k → H1[q]? = H[q]?) (he : va_at D vwCl (b0 + k, gce cI cJ b0 sa e) H1) (hz : gZ (b0 + k) e H1) : gH D cI cJ b0 sa (hp.set k e) H1 := by
  refine ⟨by rw [z, h.1, List.length_set], fun j u hu hne => ?_⟩
  by_cases hj : j = k
  · subst hj
    have hlt : j < hp.length := by
      have := (List.getElem?_eq_some_iff.mp hu).1
      rwa [List.length_set] at this
    rw [List.getElem?_set_self hlt] at hu
    cases hu
    exact ⟨he, hz⟩
  · rw [List.getElem?_set_ne (Ne.symm hj)] at hu
    exact ⟨(h.2 j u hu hne).1.kept (oq (b0 + j) (by omega)), (h.2 j u hu hne).2.kept (oq (b0 + j) (by omega))⟩
theorem gH_push {e : gA} (h : gH D cI cJ b0 sa hp H) (z : H1.size = H.size + 1) (oq : ∀ q : Nat, q < H.size → H1[q]? = H[q]?) (he : va_at D vwCl (b0 + hp.length, gce cI cJ b0 sa e) H1) (hzz : gZ (b0 + hp.length) e H1) : gH D cI cJ b0 sa (hp ++ [e]) H1 := by
  refine ⟨by rw [z, h.1, List.length_append]; simp; omega, fun j u hu hne => ?_⟩
  by_cases hj : j < hp.length
  · rw [List.getElem?_append_left hj] at hu
    exact ⟨(h.2 j u hu hne).1.kept (oq (b0 + j) (by rw [h.1]; omega)), (h.2 j u hu hne).2.kept (oq (b0 + j) (by rw [h.1]; omega))⟩
  · rw [List.getElem?_append_right (by omega)] at hu
    have hz : j - hp.length < 1 := (List.getElem?_eq_some_iff.mp hu).1
    have hj2 : j = hp.length := by omega
    subst hj2
    rw [Nat.sub_self] at hu
    cases hu
    exact ⟨he, hzz⟩
/-- cells of which nothing is told come -/
theorem gH_junk {j : Nat} (h : gH D cI cJ b0 sa hp H) (z : H1.size = H.size + j) (oq : ∀ q : Nat, q < H.size → H1[q]? = H[q]?) : gH D cI cJ b0 sa (hp ++ List.replicate j gJunk) H1 := by
  refine ⟨by rw [z, h.1, List.length_append, List.length_replicate]; omega, fun i u hu hne => ?_⟩
  by_cases hi : i < hp.length
  · rw [List.getElem?_append_left hi] at hu
    exact ⟨(h.2 i u hu hne).1.kept (oq (b0 + i) (by rw [h.1]; omega)), (h.2 i u hu hne).2.kept (oq (b0 + i) (by rw [h.1]; omega))⟩
  · rw [List.getElem?_append_right (by omega)] at hu
    exact absurd (List.eq_of_mem_replicate (List.mem_of_getElem? hu)) hne
theorem gS_push {A : Nat → Prop} {H0 : Heap} {locs : List Loc} (h : va_S A H0 H locs) (z : H1.size = H.size + 1) (oq : ∀ q : Nat, q < H.size → H1[q]? = H[q]?) : va_S A H0 H1 locs :=
  ⟨Nat.le_trans h.1 (by omega), fun q h1 h2 => (oq q (Nat.lt_of_lt_of_le h1 h.1)).trans (h.2.1 q h1 h2), h.2.2⟩
end GHP
/-- a class of the world: its number, table, slots, types -/
def gK (ci : Nat) (RC : String) (T : u_T) (N : Nat) (tf : Nat → FieldType) : Prop :=
  vwCl[ci]? = some (RC, T, N) ∧ (∀ w ∈ u_ws RC T N, w ∈ gW) ∧ (∀ k, k < N → parseFieldDescriptor (T k).2.2.1 = some (tf k)) ∧ (∀ a, a < N → ∀ b, b < N → a ≠ b → (T a).2.1 ≠ (T b).2.1)
/-- a field's site: own class and pool number; class, place, type, final -/
def gF (own : String) (ix ci j : Nat) (ty : FieldType) (fin : Bool) : Prop :=
  ∃ (RC : String) (T : u_T) (N : Nat) (tf : Nat → FieldType), gK ci RC T N tf ∧ j < N ∧ Cond.fieldLink own ix (T j).1 (T j).2.1 (T j).2.2.1 ∈ gW ∧ tf j = ty ∧ (T j).2.2.2 = fin ∧ (fin = true → (T j).1 = own)
/-- a new object's site -/
def gNw (own : String) (ix ci n : Nat) (fs : List Value) : Prop :=
  ∃ (RC : String) (T : u_T) (tf : Nat → FieldType), gK ci RC T n tf ∧ Cond.classLink own ix RC ∈ gW ∧ Cond.instantiable RC n ∈ gW ∧ Cond.initialized RC ∈ gW ∧ (∀ j, j < n → defaultValue (tf j) = vp_V fs j) ∧ ∀ b0 sa, fs.map (gv b0 sa) = fs
section GR3
variable {X : gX} {own nm : String} {cc : ByteArray} {nL : Nat} {rm : Room} {pc q : Nat} {ls : List (Option Value)} {st : List Value} {hp : List gA} {cl sl : Nat}
theorem gC_hts (C : gC X own nm cc nL rm) {w : Cond} (h : w ∈ gW) : w.before (xa X) (xs X) = true := C.2.2.2.2.1 w h
theorem gC_K (C : gC X own nm cc nL rm) : va_K (xD X) vwCl [(xI X, .int), (xJ X, .long)] (xs X) := C.2.2.2.2.2.1
theorem gv_V (b0 : Nat) (sa : Nat → Nat) {fs : List Value} {j : Nat} {v : Value} (h : fs[j]? = some v) : (fs.map (gv b0 sa))[j]? = some (gv b0 sa v) := by rw [List.getElem?_map, h]; rfl
theorem g_getfield (C : gC X own nm cc nL rm) {ix ci j k : Nat} {ty : FieldType} {fin : Bool} {fs : List Value} {v : Value} (F : gF own ix ci j ty fin) (hd : decode cc pc = .ok (.getfield ix, 3)) (hq : pc + 3 = q) (ho : hp[k]? = some (.inr (.inr (ci, fs)))) (hv : fs[j]? = some v) (kk : gG X q ls (v :: st) hp cl sl) : gG X pc ls (.ref k :: st) hp cl sl := by
  subst hq
  obtain ⟨RC, T, N, tf, K, hj, hlink, -, -, -⟩ := F
  intro arr H locs hl hh hS
  have hP : va_P (xD X) vwCl [(xB X + k, .inr (ci, fs.map (gv (xB X) (xA X))))] H := by
    intro i z hz
    have hi : i < 1 := (List.getElem?_eq_some_iff.mp hz).1
    have : i = 0 := by omega
    subst this
    cases hz
    exact (hh.2 k _ ho (gJ1 K.1)).1
  exact va_get C.1 C.2.1 (fun w hw => gC_hts C hw) K.2.1 C.2.2.2.1 (gC_K C) hP 0 rfl K.1 j hj (gC_hts C hlink) (fun _ h9 => h9) (gv_V _ _ hv) hd (kk arr H locs hl hh hS)
theorem gv_nar {b0 : Nat} {sa : Nat → Nat} {ty : FieldType} {v : Value} (h1 : narrow ty v = v) (h2 : fits ty v = true) (h3 : ∀ z, v ≠ .float z) : narrow ty (gv b0 sa v) = gv b0 sa v ∧ fits ty (gv b0 sa v) = true := by
  cases v with
  | float z => exact absurd rfl (h3 z)
  | ref a => cases ty <;> simp [narrow, gv, fits] at h2 ⊢
  | _ => exact ⟨h1, h2⟩
theorem g_putfield (C : gC X own nm cc nL rm) {ix ci j k : Nat} {ty : FieldType} {fin : Bool} {fs : List Value} {v : Value} (F : gF own ix ci j ty fin) (hd : decode cc pc = .ok (.putfield ix, 3)) (hq : pc + 3 = q) (ho : hp[k]? = some (.inr (.inr (ci, fs)))) (hj2 : j < fs.length) (hfin : fin = false ∨ nm = "<init>") (h1 : narrow ty v = v) (h2 : fits ty v = true) (h3 : ∀ z, v ≠ .float z) (kk : gG X q ls st (hp.set k (.inr (.inr (ci, fs.set j v)))) cl sl) : gG X pc ls (v :: .ref k :: st) hp cl sl := by
  subst hq
  obtain ⟨RC, T, N, tf, K, hj, hlink, hty, hf, hdecl⟩ := F
  obtain ⟨n1, n2⟩ := gv_nar (b0 := xB X) (sa := xA X) h1 h2 h3
  intro arr H locs hl hh hS
  have hts := fun w hw => gC_hts C (w := w) hw
  have hin := K.2.1
  have hap := va_apart (own := own) hts hin tf K.2.2.1 K.2.2.2 (gC_K C) K.1
  obtain ⟨⟨r, e1, cell, q1, q2, q3, q4⟩, hzc⟩ := hh.2 k _ ho (gJ1 K.1)
  have hr : r = (RC, T, N) := Option.some.inj (e1.symm.trans K.1)
  subst hr
  obtain ⟨hSl, hfc, kC, hkC, hkind⟩ := (gC_K C).1 ci _ K.1
  obtain ⟨cf, kf, fi, f, hi, hsl⟩ := hSl j hj
  have hlay := hts _ (hin _ (u_in_lay hj))
  have hst := (u_facts hfc hkC (u_lays hts hin hj) hi).1
  have hpd : parseFieldDescriptor (T j).2.2.1 = some ty := by rw [← hty]; exact K.2.2.1 j hj
  have hl2 : j < (fs.map (gv (xB X) (xA X))).length := by rw [List.length_map]; exact hj2
  have fin_case : ∀ (H' : Heap), H'[xB X + k]? = some (cell.setSlot f.slot (gv (xB X) (xA X) v)) → H'.size = H.size → (∀ q, q ≠ xB X + k → H'[q]? = H[q]?) →
      W (xp X) (xl X) (xe X) (xR X) (xs X) (xm X) (xa X) (xb X) (xt X) (xc X) H' (locs ++ [⟨xB X + k, f.slot⟩]) cl sl (xQ X) (F0 (xm X) (pc + 3) arr (st.map (gv (xB X) (xA X)))) := by
    intro H' z1 z2 z3
    rw [hsl] at z1 ⊢
    refine kk arr H' _ hl (gH_set hh z2 z3 ?_ (fun c hc => by
      have e : c = cell.setSlot (xD X |>.2 ci j) (gv (xB X) (xA X) v) := Option.some.inj (hc.symm.trans z1)
      have h9 := hzc cell q1
      rw [e]
      show (cell.slots.setIfInBounds _ _).size = _
      rw [Array.size_setIfInBounds]; exact h9)) (hS.put z2 z3 (Nat.le_add_right _ _))
    refine ⟨_, K.1, ?_⟩
    show t_OB _ _ _ _ _ (vp_V ((fs.set j v).map (gv (xB X) (xA X))))
    rw [List.map_set]
    exact t_OB.to (V := updV (vp_V (fs.map (gv (xB X) (xA X)))) j (gv (xB X) (xA X) v)) ⟨_, z1, q2, q3, t_set q4 hap hj _⟩ (fun i _ => vp_updV_set hl2 _ i)
  cases hfb : (T j).2.2.2 with
  | false =>
    unfold u_lay at hlay
    rw [if_neg (by rw [hfb]; decide)] at hlay
    have h6 := u_store hfc hkC hkind hlay hi hpd n1 n2
    exact W.putK C.1 C.2.1 (f := f) ⟨C.2.2.2.1, hts _ hlink, ⟨_, _, _, hi⟩, hst⟩ (by rw [q2]; exact h6) q1 q3 (by rw [hsl]; exact k2_hasslot (q4 j hj)) rfl rfl hd fin_case
  | true =>
    unfold u_lay at hlay
    rw [if_pos hfb] at hlay
    have hft : fin = true := by rw [← hf]; exact hfb
    have hnm : (xt X).name = "<init>" := by
      rcases hfin with z | z
      · rw [hft] at z; cases z
      · rw [C.2.2.2.2.2.2.2.2.2.1]; exact z
    have hcf : (xm X).cls = cf := by
      obtain ⟨_, _, c', _, _, _, -, -, hf', -, -, -, hown2, -⟩ := Cond.laysFinal_spec hlay
      have e1 : c' = cf := by have := hi.symm.trans hf'; simp at this; exact this.1.symm
      rw [hdecl hft] at hown2
      rw [← e1]; exact Option.some.inj (C.2.2.2.1.symm.trans hown2)
    have h6 := u_fits hfc hkC hkind (Or.inr hlay) hi hpd n1 n2
    exact W.putFinK C.1 C.2.1 C.2.2.2.1 (hts _ hlink) hi hst hcf hnm (by rw [q2]; exact h6) q1 q3 (by rw [hsl]; exact k2_hasslot (q4 j hj)) rfl rfl hd fin_case
theorem g_new (C : gC X own nm cc nL rm) {ix ci n k : Nat} {fs : List Value} (F : gNw own ix ci n fs) (hd : decode cc pc = .ok (.new ix, 3)) (hq : pc + 3 = q) (hk : hp.length = k) (h1 : cl + 1 ≤ rm.cells) (h2 : sl + n ≤ rm.slots) (kk : gG X q ls (.ref k :: st) (hp ++ [.inr (.inr (ci, fs))]) (cl + 1) (sl + n)) : gG X pc ls st hp cl sl := by
  subst hq; subst hk
  obtain ⟨RC, T, tf, K, hl1, hl2, hl3, hdv, hgv⟩ := F
  have hR := C.2.2.2.2.2.2.2.2.1
  intro arr H locs hl hh hS
  have hKn := (gC_K C).1 ci _ K.1
  refine W.newcK C.1 C.2.1 C.2.2.2.1 (gC_hts C hl1) (gC_hts C hl2) (gC_hts C hl3) rfl hd (by rw [hR]; exact h1) (by rw [hR]; exact h2) hKn.2.1 hh.1 fun H' kC hkC e1 z1 o1 => ?_
  refine kk arr H' locs hl (gH_push hh (by rw [z1, hh.1]) (by rw [hh.1]; exact o1) ?_ (fun c hc => by
    have e : c = _ := Option.some.inj (hc.symm.trans e1)
    obtain ⟨c2, k2, i1, i2, -, -, -, i6⟩ := Cond.instantiable_spec (gC_hts C hl2)
    have j1 : c2 = _ := Option.some.inj (i1.symm.trans hKn.2.1)
    subst j1
    have j2 : k2 = kC := Option.some.inj (i2.symm.trans hkC)
    subst j2
    rw [e]
    show (k2.instanceTypes.map defaultValue).size = ((vwCl[ci]?).map (fun r => r.2.2)).getD 0
    rw [Array.size_map, i6, K.1]; rfl)) (gS_push hS (by rw [z1, hh.1]) (by rw [hh.1]; exact o1))
  refine ⟨_, K.1, ?_⟩
  show t_OB _ _ _ _ _ (vp_V (fs.map (gv (xB X) (xA X))))
  rw [hgv]
  exact (u_born tf (fun w hw => gC_hts C hw) K.2.1 hKn hkC e1 K.2.2.1).to hdv
theorem g_newarray (C : gC X own nm cc nL rm) {n : Int32} {N k : Nat} (hw : Cond.arrayClass .int ∈ gW) (hd : decode cc pc = .ok (.newarray .int, 2)) (hq : pc + 2 = q) (hk : hp.length = k) (hn : ¬ n < 0) (hN : n.toNatClampNeg = N) (hb : N ≤ 100000000) (h1 : cl + 1 ≤ rm.cells) (h2 : sl + N ≤ rm.slots) (kk : gG X q ls (.ref k :: st) (hp ++ [.inl (N, fun _ => 0)]) (cl + 1) (sl + N)) : gG X pc ls (.int n :: st) hp cl sl := by
  subst hq; subst hk
  have hR := C.2.2.2.2.2.2.2.2.1
  intro arr H locs hl hh hS
  refine va_newaK (atype := .int) C.1 C.2.1 (gC_hts C hw) rfl hd rfl hn hN (by show N * 4 ≤ _; omega) (by rw [hR]; exact h1) (by rw [hR]; exact h2) hh.1 fun H' cA e1 z1 o1 hAr hNm => ?_
  have hA1 : H'[xB X + hp.length]? = some (vp_cell (xI X) (N, .inl (fun _ => 0))) := ?_
  · exact kk arr H' locs hl (gH_push hh (by rw [z1, hh.1]) (by rw [hh.1]; exact o1) hA1 (gZ.i hA1)) (gS_push hS (by rw [z1, hh.1]) (by rw [hh.1]; exact o1))
  have hc : xI X = cA := Option.some.inj (((gC_K C).2 0 _ rfl).2.symm.trans hNm)
  show H'[_]? = some (vp_cell (xI X) _)
  rw [hc]
  exact e1
theorem g_newarrayL (C : gC X own nm cc nL rm) {n : Int32} {N k : Nat} (hw : Cond.arrayClass .long ∈ gW) (hd : decode cc pc = .ok (.newarray .long, 2)) (hq : pc + 2 = q) (hk : hp.length = k) (hn : ¬ n < 0) (hN : n.toNatClampNeg = N) (hb : N ≤ 50000000) (h1 : cl + 1 ≤ rm.cells) (h2 : sl + N ≤ rm.slots) (kk : gG X q ls (.ref k :: st) (hp ++ [.inr (.inl (N, fun _ => 0))]) (cl + 1) (sl + N)) : gG X pc ls (.int n :: st) hp cl sl := by
  subst hq; subst hk
  have hR := C.2.2.2.2.2.2.2.2.1
  intro arr H locs hl hh hS
  refine va_newaK (atype := .long) C.1 C.2.1 (gC_hts C hw) rfl hd rfl hn hN (by show N * 8 ≤ _; omega) (by rw [hR]; exact h1) (by rw [hR]; exact h2) hh.1 fun H' cA e1 z1 o1 hAr hNm => ?_
  have hA1 : H'[xB X + hp.length]? = some (vp_cell (xJ X) (N, .inr (.inl (fun _ => 0)))) := ?_
  · exact kk arr H' locs hl (gH_push hh (by rw [z1, hh.1]) (by rw [hh.1]; exact o1) hA1 (gZ.l hA1)) (gS_push hS (by rw [z1, hh.1]) (by rw [hh.1]; exact o1))
  have hc : xJ X = cA := Option.some.inj (((gC_K C).2 1 _ rfl).2.symm.trans hNm)
  show H'[_]? = some (vp_cell (xJ X) _)
  rw [hc]
  exact e1
theorem gP1 {e : va_E} {k : Nat} {H : Heap} (h : va_at (xD X) vwCl (k, e) H) : va_P (xD X) vwCl [(k, e)] H := by
  intro i z hz
  have hi : i < 1 := (List.getElem?_eq_some_iff.mp hz).1
  have : i = 0 := by omega
  subst this
  cases hz
  exact h
theorem g_iaload (C : gC X own nm cc nL rm) {k n : Nat} {f : Nat → Int32} {i : Int32} (hd : decode cc pc = .ok (.iaload, 1)) (hq : pc + 1 = q) (ho : hp[k]? = some (.inl (n, f))) (hi : vp_in i n) (kk : gG X q ls (.int (f i.toNatClampNeg) :: st) hp cl sl) : gG X pc ls (.int i :: .ref k :: st) hp cl sl := by
  subst hq
  intro arr H locs hl hh hS
  exact va_iald C.1 C.2.1 (gC_K C) (gP1 (hh.2 k _ ho gJ2).1) 0 0 rfl rfl hi hd (kk arr H locs hl hh hS)
theorem g_laload (C : gC X own nm cc nL rm) {k n : Nat} {f : Nat → Int64} {i : Int32} (hd : decode cc pc = .ok (.laload, 1)) (hq : pc + 1 = q) (ho : hp[k]? = some (.inr (.inl (n, f)))) (hi : vp_in i n) (kk : gG X q ls (.long (f i.toNatClampNeg) :: st) hp cl sl) : gG X pc ls (.int i :: .ref k :: st) hp cl sl := by
  subst hq
  intro arr H locs hl hh hS
  exact va_lald C.1 C.2.1 (gC_K C) (gP1 (hh.2 k _ ho gJ3).1) 0 1 rfl rfl hi hd (kk arr H locs hl hh hS)
theorem g_arraylength (C : gC X own nm cc nL rm) {k n : Nat} {f : Nat → Int32} {v : Int32} (hd : decode cc pc = .ok (.arraylength, 1)) (hq : pc + 1 = q) (ho : hp[k]? = some (.inl (n, f))) (hv : Int32.ofNat n = v) (kk : gG X q ls (.int v :: st) hp cl sl) : gG X pc ls (.ref k :: st) hp cl sl := by
  subst hq
  intro arr H locs hl hh hS
  exact va_alen C.1 C.2.1 (gC_K C) (gP1 (hh.2 k _ ho gJ2).1) 0 0 rfl rfl hv hd (kk arr H locs hl hh hS)
theorem g_iastore (C : gC X own nm cc nL rm) {k n : Nat} {f : Nat → Int32} {i x : Int32} (hd : decode cc pc = .ok (.iastore, 1)) (hq : pc + 1 = q) (ho : hp[k]? = some (.inl (n, f))) (hi : vp_in i n) (kk : gG X q ls st (hp.set k (.inl (n, upd f i.toNatClampNeg x))) cl sl) : gG X pc ls (.int x :: .int i :: .ref k :: st) hp cl sl := by
  subst hq
  intro arr H locs hl hh hS
  refine W.iast C.1 C.2.1 (hh.2 k _ ho gJ2).1 (((gC_K C).2 0 _ rfl).1 n (fun j => .int (f j))) (fun z => by cases z) (by show ¬ (i < 0 ∨ (arrV _ _ _).slots.size ≤ _); rw [arrV_size]; exact hi) rfl rfl hd fun H1 e z oq => ?_
  have hA1 : H1[xB X + k]? = some (vp_cell (xI X) (n, .inl (upd f i.toNatClampNeg x))) := ?_
  · exact kk arr H1 _ hl (gH_set hh z oq hA1 (gZ.i hA1)) (hS.put z oq (Nat.le_add_right _ _))
  show H1[_]? = some (vp_cell _ _)
  rw [e]
  show some ((arrV (xI X) n (fun j => Value.int (f j))).setSlot _ _) = some (arrV (xI X) n (fun j => Value.int (upd f i.toNatClampNeg x j)))
  rw [arrV_store]
  congr 2
  funext z2
  by_cases hz : z2 = i.toNatClampNeg
  · subst hz; simp [updV, upd]
  · simp [updV, upd, hz]
theorem g_lastore (C : gC X own nm cc nL rm) {k n : Nat} {f : Nat → Int64} {i : Int32} {x : Int64} (hd : decode cc pc = .ok (.lastore, 1)) (hq : pc + 1 = q) (ho : hp[k]? = some (.inr (.inl (n, f)))) (hi : vp_in i n) (kk : gG X q ls st (hp.set k (.inr (.inl (n, vp_updL f i.toNatClampNeg x)))) cl sl) : gG X pc ls (.long x :: .int i :: .ref k :: st) hp cl sl := by
  subst hq
  intro arr H locs hl hh hS
  refine W.last C.1 C.2.1 (hh.2 k _ ho gJ3).1 (((gC_K C).2 1 _ rfl).1 n (fun j => .long (f j))) (fun z => by cases z) (by show ¬ (i < 0 ∨ (arrV _ _ _).slots.size ≤ _); rw [arrV_size]; exact hi) rfl rfl hd fun H1 e z oq => ?_
  have hA1 : H1[xB X + k]? = some (vp_cell (xJ X) (n, .inr (.inl (vp_updL f i.toNatClampNeg x)))) := ?_
  · exact kk arr H1 _ hl (gH_set hh z oq hA1 (gZ.l hA1)) (hS.put z oq (Nat.le_add_right _ _))
  show H1[_]? = some (vp_cell _ _)
  rw [e]
  show some ((arrV (xJ X) n (fun j => Value.long (f j))).setSlot _ _) = some (arrV (xJ X) n (fun j => Value.long (vp_updL f i.toNatClampNeg x j)))
  rw [arrV_store]
  congr 2
  funext z2
  by_cases hz : z2 = i.toNatClampNeg
  · subst hz; simp [updV, vp_updL]
  · simp [updV, vp_updL, hz]
theorem g_objInit (C : gC X own nm cc nL rm) {ix k : Nat} (hm : Cond.methodLink own ix objectInit ∈ gW) (hi : Cond.instanceMethod objectInit ∈ gW) (hcd : Cond.code objectInit ⟨#[0xb1]⟩ 1 none ∈ gW) (hd : decode cc pc = .ok (.invokespecial ix, 3)) (hq : pc + 3 = q) (hls : ls.length = nL) (hf : 1 ≤ rm.frames) (hl0 : (st.map fun v => v.category).sum + 12 ≤ rm.locals) (kk : gG X q ls st hp cl sl) : gG X pc ls (.ref k :: st) hp cl sl := by
  subst hq
  have hR := C.2.2.2.2.2.2.2.2.1
  intro arr H locs hl hh hS
  have hsz : (F0 (xm X) pc arr ((Value.ref k :: st).map (gv (xB X) (xA X)))).locals.size = (xc X).maxLocals := by rw [C.2.2.1, ← hls]; exact hl.1
  refine W.objInit C.1 C.2.1 C.2.2.2.1 (gC_hts C hm) (gC_hts C hi) (gC_hts C hcd) rfl hsz rfl hd (by rw [hR]; exact hf) ?_ (W.eq (g2 := F0 (xm X) (pc + 3) arr (st.map (gv (xB X) (xA X)))) rfl (kk arr H locs hl hh hS))
  rw [hR, List.map_map]
  have e : ((fun v => v.category) ∘ gv (xB X) (xA X)) = fun v : Value => v.category := by funext v; exact gv_cat _ _ v
  rw [e]
  have hm0 : (F0 (xm X) pc arr ((Value.ref k :: st).map (gv (xB X) (xA X)))).monitorRoom = 0 := by simp [JFrame.monitorRoom]
  rw [hm0]
  omega
end GR3
end
section
/-! methods: a contract over the abstract world, its start, its end, its calls -/
def gPc (D : va_G) (cI cJ : ClassId) (b0 : Nat) (sa : Nat → Nat) (av : List Value) (hp : List gA) : Array Value → State → Prop := fun a U =>
  a = (av.map (gv b0 sa)).toArray ∧ gH D cI cJ b0 sa hp U.heap ∧ va_K D vwCl [(cI, .int), (cJ, .long)] U ∧ gN b0 U
def gQc (D : va_G) (cI cJ : ClassId) (b0 : Nat) (sa : Nat → Nat) (P : Option Value → List gA → Prop) : Array Value → State → Outcome → State → Prop := fun _ st o t =>
  (∃ (v : Option Value) (hp' : List gA), o = .returned (v.map (gv b0 sa)) ∧ P v hp' ∧ gH D cI cJ b0 sa hp' t.heap) ∧ va_F (fun q => b0 ≤ q) st t
/-- the method y, called with av in the world hp, makes at most mc cells of ms slots, and comes back with P -/
def gM (y : MethodName) (bytes : ByteArray) (maxL : Nat) (ret : Option FieldType) (fr lo : Nat) (av : List Value) (hp : List gA) (mc ms : Nat) (P : Option Value → List gA → Prop) : Prop :=
  ∀ (l : Launch) (D : va_G) (cI cJ : ClassId) (b0 : Nat) (sa : Nat → Nat), Met l y (Cond.code y bytes maxL ret :: gW) ({ frames := fr, cells := mc, slots := ms, locals := lo }) (gPc D cI cJ b0 sa av hp) (gQc D cI cJ b0 sa P) mc ms (fun q => b0 ≤ q)
/-- how the method that runs may end -/
def gEnd (X : gX) (cc : ByteArray) (ret : Option FieldType) (P : Option Value → List gA → Prop) (mc ms : Nat) : Prop :=
  (∀ (pc : Nat) (ls : List (Option Value)) (v : Int32) (hp : List gA) (cl sl : Nat) (ty : FieldType), decode cc pc = .ok (.ireturn, 1) → ret = some ty → narrow ty (.int v) = .int v → cl ≤ mc → sl ≤ ms → P (some (.int v)) hp → gG X pc ls [.int v] hp cl sl) ∧
  (∀ (pc : Nat) (ls : List (Option Value)) (hp : List gA) (cl sl : Nat), decode cc pc = .ok (.return_, 1) → ret = none → cl ≤ mc → sl ≤ ms → P none hp → gG X pc ls [] hp cl sl) ∧
  (∀ (pc : Nat) (ls : List (Option Value)) (k : Nat) (hp : List gA) (cl sl : Nat) (ty : FieldType), decode cc pc = .ok (.areturn, 1) → ret = some ty → ((∃ n, ty = .object n) ∨ ∃ t, ty = .array t) → cl ≤ mc → sl ≤ ms → P (some (.ref k)) hp → gG X pc ls [.ref k] hp cl sl)
def gent : List Value → List (Option Value)
  | [] => []
  | .long x :: t => some (.long x) :: none :: gent t
  | .double x :: t => some (.double x) :: none :: gent t
  | v :: t => some v :: gent t
theorem gent_len (b0 : Nat) (sa : Nat → Nat) : ∀ av : List Value, (lg_sl (av.map (gv b0 sa))).length = (gent av).length
  | [] => rfl
  | v :: t => by
    have h := gent_len b0 sa t
    cases v <;> simp [gent, lg_sl, gv, Value.category] at h ⊢ <;> omega
theorem gent_at (b0 : Nat) (sa : Nat → Nat) : ∀ (av : List Value) (i : Nat) (v : Value), (gent av)[i]? = some (some v) → (lg_sl (av.map (gv b0 sa)))[i]? = some (.val (gv b0 sa v))
  | [], i, v, h => by simp [gent] at h
  | .long x :: t, 0, v, h => by simp [gent] at h; subst h; simp [lg_sl, gv, Value.category]
  | .long x :: t, 1, v, h => by simp [gent] at h
  | .long x :: t, i + 2, v, h => by
    have h2 : (gent t)[i]? = some (some v) := by simpa [gent] using h
    have h3 := gent_at b0 sa t i v h2
    simpa [lg_sl, gv, Value.category] using h3
  | .double x :: t, 0, v, h => by simp [gent] at h; subst h; simp [lg_sl, gv, Value.category]
  | .double x :: t, 1, v, h => by simp [gent] at h
  | .double x :: t, i + 2, v, h => by
    have h2 : (gent t)[i]? = some (some v) := by simpa [gent] using h
    have h3 := gent_at b0 sa t i v h2
    simpa [lg_sl, gv, Value.category] using h3
  | .int x :: t, 0, v, h => by simp [gent] at h; subst h; simp [lg_sl, gv, Value.category]
  | .int x :: t, i + 1, v, h => by
    have h3 := gent_at b0 sa t i v (by simpa [gent] using h)
    simpa [lg_sl, gv, Value.category] using h3
  | .float x :: t, 0, v, h => by simp [gent] at h; subst h; simp [lg_sl, gv, Value.category]
  | .float x :: t, i + 1, v, h => by
    have h3 := gent_at b0 sa t i v (by simpa [gent] using h)
    simpa [lg_sl, gv, Value.category] using h3
  | .null :: t, 0, v, h => by simp [gent] at h; subst h; simp [lg_sl, gv, Value.category]
  | .null :: t, i + 1, v, h => by
    have h3 := gent_at b0 sa t i v (by simpa [gent] using h)
    simpa [lg_sl, gv, Value.category] using h3
  | .ref x :: t, 0, v, h => by simp [gent] at h; subst h; simp [lg_sl, gv, Value.category]
  | .ref x :: t, i + 1, v, h => by
    have h3 := gent_at b0 sa t i v (by simpa [gent] using h)
    simpa [lg_sl, gv, Value.category] using h3
  | .retAddr x :: t, 0, v, h => by simp [gent] at h; subst h; simp [lg_sl, gv, Value.category]
  | .retAddr x :: t, i + 1, v, h => by
    have h3 := gent_at b0 sa t i v (by simpa [gent] using h)
    simpa [lg_sl, gv, Value.category] using h3
theorem gL_entry (b0 : Nat) (sa : Nat → Nat) (av : List Value) {n : Nat} (h : (gent av).length ≤ n) : gL b0 sa ((lg_sl (av.map (gv b0 sa)) ++ List.replicate (n - (lg_sl (av.map (gv b0 sa))).length) Slot.unset).toArray) (gent av ++ List.replicate (n - (gent av).length) none) := by
  have hlen := gent_len b0 sa av
  obtain ⟨h1, h2, -⟩ := lv_entry (av.map (gv b0 sa)) (n := n) (by rw [hlen]; exact h)
  refine ⟨?_, h2, fun i v hv => ?_⟩
  · rw [h1, List.length_append, List.length_replicate]; omega
  · by_cases hi : i < (gent av).length
    · rw [List.getElem?_append_left hi] at hv
      rw [List.getElem?_toArray, List.getElem?_append_left (by rw [hlen]; exact hi)]
      exact gent_at b0 sa av i v hv
    · rw [List.getElem?_append_right (by omega)] at hv
      have := List.eq_of_mem_replicate (List.mem_of_getElem? hv)
      cases this
/-- a contract out of a walk of the body, for a method that is no native row (the JDK's own methods too) -/
theorem gofW {l : Launch} {y : MethodName} {ws ws' : List Cond} {rm : Room} {Pc : Array Value → State → Prop} {Qc : Array Value → State → Outcome → State → Prop} {mc ms : Nat} {free : Addr → Prop} {cc : ByteArray} {maxL : Nat} {ret : Option FieldType}
    (hy : plainFor y = true) (hw : ws = Cond.code y cc maxL ret :: ws')
    (body : ∀ p e s m args below meth c s₁, BodyLoose p l y (headSpec ws rm) cc maxL ret e s m args below meth c s₁ → c.maxLocals = maxL → Pc args s →
      W p l e (headSpec ws rm).room s m args below meth c s.heap [] 0 0 (MQ below Qc args s mc ms free) (entryFrame m args maxL)) : Met l y ws rm Pc Qc mc ms free := by
  refine MetFree.of_bodySF (code := cc) (maxLocals := maxL) (ret := ret) hy (fun args s m h hn => ?_) (fun p e s m args below meth c s₁ B hml hP _ => ?_)
  · obtain ⟨meth, c, h1, h2, h3, h4, h5, h6, -, -⟩ := Cond.code_spec hn (atoms_spec (ws := ws) h _ (by rw [hw]; exact List.mem_cons_self))
    exact ⟨meth, c, h1, h2, h3, h4, h5, h6⟩
  · have hh0 : s₁.heap = s.heap := by rw [B.state]; rfl
    obtain ⟨t, a1, o, b1, b2, b3⟩ := body p e s m args below meth c s₁ B hml hP s₁ hh0 (Stand.of_body B)
    exact ⟨t, o, a1, b1, b2, ⟨b3.1, b3.2⟩⟩
theorem gM_of {y : MethodName} {bytes : ByteArray} {maxL : Nat} {ret : Option FieldType} {fr lo : Nat} {av : List Value} {hp : List gA} {mc ms : Nat} {P : Option Value → List gA → Prop} {ls0 : List (Option Value)} (hy : plainFor y = true) (hn : (gent av).length ≤ maxL) (hl : gent av ++ List.replicate (maxL - (gent av).length) none = ls0)
    (body : ∀ X : gX, gC X y.cls y.name bytes maxL ({ frames := fr, cells := mc, slots := ms, locals := lo }) → gEnd X bytes ret P mc ms → gG X 0 ls0 [] hp 0 0) : gM y bytes maxL ret fr lo av hp mc ms P := by
  intro l D cI cJ b0 sa
  refine gofW (cc := bytes) (maxL := maxL) (ret := ret) hy rfl ?_
  intro p e s m args below meth c s₁ B hml hv
  obtain ⟨rfl, hH, hK, hN⟩ := hv
  have hts := atoms_spec (ws := Cond.code y bytes maxL ret :: gW) B.pre
  have C : gC ((p, l, e, (headSpec (Cond.code y bytes maxL ret :: gW) { frames := fr, cells := mc, slots := ms, locals := lo }).room), (s, m, (av.map (gv b0 sa)).toArray, below), (meth, c), (D, cI, cJ), (b0, sa), MQ below (gQc D cI cJ b0 sa P) (av.map (gv b0 sa)).toArray s mc ms (fun q => b0 ≤ q)) y.cls y.name bytes maxL ({ frames := fr, cells := mc, slots := ms, locals := lo }) :=
    ⟨B.exec, B.bytes, hml, findClass_of_methodNamed B.named, fun w hw => hts w (List.mem_cons_of_mem _ hw), hK, by show b0 ≤ s.heap.size; rw [hH.1]; omega, B.notSynchronized, rfl, (name_of_methodNamed B.named B.method).1, hN⟩
  have hr := B.returns
  have hlk := B.notSynchronized
  have G := body _ C ⟨?_, ?_, ?_⟩
  · have hE := gL_entry b0 sa av hn
    rw [hl] at hE
    rw [lg_entry_eq]
    exact G _ s.heap [] hE hH va_S.rf
  · intro pc ls v hp1 cl sl ty hd hty hnr h1 h2 hP arr H locs hl1 hh hS
    exact W.widen h1 h2 (W.zret B.exec B.bytes (hr.trans hty) hnr (fun t ht hW => ⟨⟨some (.int v), hp1, rfl, hP, by rw [ht]; exact hh⟩, hS.F ht⟩) hS.2.2 hd hlk)
  · intro pc ls hp1 cl sl hd hty h1 h2 hP arr H locs hl1 hh hS
    exact W.widen h1 h2 (W.vret B.exec B.bytes (hr.trans hty) (fun t ht hW => ⟨⟨none, hp1, rfl, hP, by rw [ht]; exact hh⟩, hS.F ht⟩) hS.2.2 hd hlk)
  · intro pc ls k hp1 cl sl ty hd hty hrt h1 h2 hP arr H locs hl1 hh hS
    exact W.widen h1 h2 (W.aret B.exec B.bytes (hr.trans hty) hrt (Or.inr ⟨_, rfl⟩) (fun t ht hW => ⟨⟨some (.ref k), hp1, rfl, hP, by rw [ht]; exact hh⟩, hS.F ht⟩) hS.2.2 hd hlk)
/-- call sites: by the tables' words -/
def gY (y : MethodName) (bytes : ByteArray) (maxL : Nat) (ret : Option FieldType) (n : Nat) : Prop :=
  Cond.initialized y.cls ∈ gW ∧ Cond.code y bytes maxL ret ∈ gW ∧ (y.cls ≠ "java/lang/invoke/MethodHandle" ∧ y.cls ≠ "java/lang/invoke/VarHandle" ∧ (parseMethodDescriptor y.desc).map (fun d => d.parameters.length) = some n)
def gVi (y : MethodName) : Prop := Cond.instanceMethod y ∈ gW
def gVv (y : MethodName) : Prop := Cond.instanceMethod y ∈ gW ∧ Cond.selects y.cls y y ∈ gW
theorem gGood {w : Cond} (h : w ∈ gW) : GoodIn gW (w :: gW) := fun u hu => by
  rcases List.mem_cons.mp hu with rfl | hu
  · exact ⟨h, gW_good h⟩
  · exact ⟨hu, gW_good hu⟩
theorem gPc_blind (D : va_G) (cI cJ : ClassId) (b0 : Nat) (sa : Nat → Nat) (av : List Value) (hp : List gA) : FrameBlind (gPc D cI cJ b0 sa av hp) := fun a U g mk h =>
  ⟨h.1, h.2.1, va_K.moved (u := U) (U := U.calling g mk a) (Vm.Alike.refl U.vm) h.2.2.1, gN.same (u := U) (U := U.calling g mk a) rfl rfl h.2.2.2⟩
section GCA
variable {X : gX} {own nm : String} {cc : ByteArray} {nL : Nat} {rm : Room} {pc q : Nat} {ls : List (Option Value)} {st stk : List Value} {hp : List gA} {cl sl : Nat}
variable {y : MethodName} {bytes : ByteArray} {maxL n ix b fr lo mc ms : Nat} {ret : Option FieldType} {As : List Value} {P : Option Value → List gA → Prop}
theorem g_back {arr : Array Slot} {H : Heap} {locs : List Loc} {st0 : List Value} {a : Array Value} (hr : va_Run (xp X) (xl X) (xe X) (xR X) (xs X) (xm X) (xa X) (xb X) (xt X) (xc X) H locs cl sl mc ms (F0 (xm X) pc arr st0) (st.map (gv (xB X) (xA X))) (gQc (xD X) (xI X) (xJ X) (xB X) (xA X) P a) (fun q => xB X ≤ q)) (hl : gL (xB X) (xA X) arr ls) (hS : va_S (fun q => xB X ≤ q) (xs X).heap H locs)
    (kk : ∀ (v : Option Value) (hp' : List gA), P v hp' → gG X (pc + 3) ls (v.toList ++ st) hp' (cl + mc) (sl + ms)) : W (xp X) (xl X) (xe X) (xR X) (xs X) (xm X) (xa X) (xb X) (xt X) (xc X) H locs cl sl (xQ X) (F0 (xm X) pc arr st0) := by
  intro T hT Y
  obtain ⟨v, st₀, t, T', L, h0, Y', hL, e1, e2, ⟨⟨v', hp', hv, hp, hb⟩, hz, hk⟩, hst⟩ := hr T hT Y
  have hv' : v = v'.map (gv (xB X) (xA X)) := Outcome.returned.inj hv
  rw [h0] at hz hk
  have hS' : va_S (fun q => xB X ≤ q) (xs X).heap T'.heap (locs ++ L) :=
    ⟨Nat.le_trans hS.1 (by rw [e1]; exact hz), fun q h1 h2 => by rw [e1, hk q (Nat.lt_of_lt_of_le h1 hS.1) h2]; exact hS.2.1 q h1 h2, fun q hq => by
      rcases List.mem_append.mp hq with h | h
      · exact hS.2.2 q h
      · exact hL q h⟩
  obtain ⟨t2, a1, b1⟩ := kk v' hp' hp arr T'.heap (locs ++ L) hl (by rw [e1]; exact hb) hS' T' rfl Y'
  refine ⟨t2, hst t2 ?_, b1⟩
  have e : v.toList ++ st.map (gv (xB X) (xA X)) = (v'.toList ++ st).map (gv (xB X) (xA X)) := by
    rw [hv']; cases v' <;> simp
  rw [show ({ (F0 (xm X) pc arr st0) with pc := (F0 (xm X) pc arr st0).pc + 3, stack := v.toList ++ st.map (gv (xB X) (xA X)) } : JFrame) = F0 (xm X) (pc + 3) arr ((v'.toList ++ st).map (gv (xB X) (xA X))) by rw [e]]
  exact a1
theorem g_cat (b0 : Nat) (sa : Nat → Nat) (h : (st.map fun v => v.category).sum ≤ 8) {m : MethodId} {arr : Array Slot} {s0 : List Value} : 2 * (F0 m pc arr s0).monitorRoom + ((st.map (gv b0 sa)).map fun v => v.category).sum ≤ 8 := by
  refine lv_room ?_
  rw [List.map_map]
  have e : ((fun v => v.category) ∘ gv b0 sa) = fun v : Value => v.category := by funext v; exact gv_cat _ _ v
  rw [e]; exact h
theorem g_callV (C : gC X own nm cc nL rm) (Y : gY y bytes maxL ret n) (V : gVv y) (hl0 : Cond.methodLink own ix y ∈ gW) (hM : gM y bytes maxL ret fr lo (.ref b :: As) hp mc ms P) (hd : decode cc pc = .ok (.invokevirtual ix, 3)) (hq : pc + 3 = q) {ci N : Nat} {T : u_T} {fs : List Value} (ho : hp[b]? = some (.inr (.inr (ci, fs)))) (hci : vwCl[ci]? = some (y.cls, T, N)) (hn : As.length = n) (hls : ls.length = nL) (hfr : fr + 1 ≤ rm.frames) (hlo : 8 + (maxL + 11) + lo ≤ rm.locals) (hw : (st.map fun v => v.category).sum ≤ 8) (hc : cl + mc ≤ rm.cells) (hs2 : sl + ms ≤ rm.slots) (hst : stk = As.reverse ++ .ref b :: st)
    (kk : ∀ (v : Option Value) (hp' : List gA), P v hp' → gG X q ls (v.toList ++ st) hp' (cl + mc) (sl + ms)) : gG X pc ls stk hp cl sl := by
  subst hq; subst hst
  have hR := C.2.2.2.2.2.2.2.2.1
  have hts := fun w (hw : w ∈ gW) => gC_hts C (w := w) hw
  intro arr H locs hl hh hS
  obtain ⟨h1, h2, h3⟩ := Y
  have cb : CallB (xR X) (xs X) (xa X) own ix y bytes maxL ret (Cond.code y bytes maxL ret :: gW) ({ frames := fr, cells := mc, slots := ms, locals := lo }) mc ms n := callB_of n hts (gGood h2) rfl rfl rfl (hts _ h1) (hts _ hl0) h3 (by rw [hR]; exact ⟨hfr, hlo⟩)
  have hp0 : PreV (xs X) H y.cls (xB X + b) (gPc (xD X) (xI X) (xJ X) (xB X) (xA X) (.ref b :: As) hp) (As.map (gv (xB X) (xA X))) :=
    ⟨gPc_blind _ _ _ _ _ _ _, va_recv (gC_K C) (gP1 (hh.2 b _ ho (gJ1 hci)).1) hci (q0 := 0) rfl, fun U hU hW => ⟨rfl, by rw [hU]; exact hh, va_K.moved hW.alike (gC_K C), gN.warm hW hS hU C.2.2.2.2.2.2.2.2.2.2⟩⟩
  have hsz : arr.size = nL := hl.1.trans hls
  refine g_back (va_runV (b := xB X + b) (As := As.map (gv (xB X) (xA X))) (rest := st.map (gv (xB X) (xA X))) ⟨C.1, C.2.1, C.2.2.1, C.2.2.2.1, hts⟩ (hM _ _ _ _ _ _) ⟨cb, hts _ V.1, hts _ V.2⟩ hp0 rfl (by rw [List.length_map]; exact hn) hsz ?_ (g_cat _ _ hw) hd (by rw [hR]; exact ⟨hc, hs2⟩)) hl hS kk
  show (As.reverse ++ .ref b :: st).map _ = _
  rw [List.map_append, List.map_reverse]; rfl
theorem g_callS (C : gC X own nm cc nL rm) (Y : gY y bytes maxL ret n) (V : Cond.static y ∈ gW) (hl0 : Cond.methodLink own ix y ∈ gW) (hM : gM y bytes maxL ret fr lo As hp mc ms P) (hd : decode cc pc = .ok (.invokestatic ix, 3)) (hq : pc + 3 = q) (hn : As.length = n) (hls : ls.length = nL) (hfr : fr + 1 ≤ rm.frames) (hlo : 8 + (maxL + 11) + lo ≤ rm.locals) (hw : (st.map fun v => v.category).sum ≤ 8) (hc : cl + mc ≤ rm.cells) (hs2 : sl + ms ≤ rm.slots) (hst : stk = As.reverse ++ st)
    (kk : ∀ (v : Option Value) (hp' : List gA), P v hp' → gG X q ls (v.toList ++ st) hp' (cl + mc) (sl + ms)) : gG X pc ls stk hp cl sl := by
  subst hq; subst hst
  have hR := C.2.2.2.2.2.2.2.2.1
  have hts := fun w (hw : w ∈ gW) => gC_hts C (w := w) hw
  intro arr H locs hl hh hS
  obtain ⟨h1, h2, h3⟩ := Y
  have cb : CallB (xR X) (xs X) (xa X) own ix y bytes maxL ret (Cond.code y bytes maxL ret :: gW) ({ frames := fr, cells := mc, slots := ms, locals := lo }) mc ms n := callB_of n hts (gGood h2) rfl rfl rfl (hts _ h1) (hts _ hl0) h3 (by rw [hR]; exact ⟨hfr, hlo⟩)
  have hp0 : PreS (xs X) H (gPc (xD X) (xI X) (xJ X) (xB X) (xA X) As hp) (As.map (gv (xB X) (xA X))) :=
    ⟨gPc_blind _ _ _ _ _ _ _, fun U hU hW => ⟨rfl, by rw [hU]; exact hh, va_K.moved hW.alike (gC_K C), gN.warm hW hS hU C.2.2.2.2.2.2.2.2.2.2⟩⟩
  have hsz : arr.size = nL := hl.1.trans hls
  refine g_back (va_runS (As := As.map (gv (xB X) (xA X))) (rest := st.map (gv (xB X) (xA X))) ⟨C.1, C.2.1, C.2.2.1, C.2.2.2.1, hts⟩ (hM _ _ _ _ _ _) ⟨cb, hts _ V⟩ hp0 rfl (by rw [List.length_map]; exact hn) hsz ?_ (g_cat _ _ hw) hd (by rw [hR]; exact ⟨hc, hs2⟩)) hl hS kk
  show (As.reverse ++ st).map _ = _
  rw [List.map_append, List.map_reverse]
theorem g_callI (C : gC X own nm cc nL rm) (Y : gY y bytes maxL none n) (V : gVi y) (hyi : y.name = "<init>") (hl0 : Cond.methodLink own ix y ∈ gW) (hM : gM y bytes maxL none fr lo (.ref b :: As) hp mc ms P) (hd : decode cc pc = .ok (.invokespecial ix, 3)) (hq : pc + 3 = q) (hn : As.length = n) (hls : ls.length = nL) (hfr : fr + 1 ≤ rm.frames) (hlo : 8 + (maxL + 11) + lo ≤ rm.locals) (hw : (st.map fun v => v.category).sum ≤ 8) (hc : cl + mc ≤ rm.cells) (hs2 : sl + ms ≤ rm.slots) (hst : stk = As.reverse ++ .ref b :: st)
    (kk : ∀ (v : Option Value) (hp' : List gA), P v hp' → gG X q ls (v.toList ++ st) hp' (cl + mc) (sl + ms)) : gG X pc ls stk hp cl sl := by
  subst hq; subst hst
  have hR := C.2.2.2.2.2.2.2.2.1
  have hts := fun w (hw : w ∈ gW) => gC_hts C (w := w) hw
  intro arr H locs hl hh hS
  obtain ⟨h1, h2, h3⟩ := Y
  have cb : CallB (xR X) (xs X) (xa X) own ix y bytes maxL none (Cond.code y bytes maxL none :: gW) ({ frames := fr, cells := mc, slots := ms, locals := lo }) mc ms n := callB_of n hts (gGood h2) rfl rfl rfl (hts _ h1) (hts _ hl0) h3 (by rw [hR]; exact ⟨hfr, hlo⟩)
  have hp0 : PreS (xs X) H (gPc (xD X) (xI X) (xJ X) (xB X) (xA X) (.ref b :: As) hp) (.ref (xB X + b) :: As.map (gv (xB X) (xA X))) :=
    ⟨gPc_blind _ _ _ _ _ _ _, fun U hU hW => ⟨rfl, by rw [hU]; exact hh, va_K.moved hW.alike (gC_K C), gN.warm hW hS hU C.2.2.2.2.2.2.2.2.2.2⟩⟩
  have hsz : arr.size = nL := hl.1.trans hls
  refine g_back (va_runI (b := xB X + b) (As := As.map (gv (xB X) (xA X))) (rest := st.map (gv (xB X) (xA X))) ⟨C.1, C.2.1, C.2.2.1, C.2.2.2.1, hts⟩ (hM _ _ _ _ _ _) ⟨cb, hyi, hts _ V⟩ hp0 rfl (by rw [List.length_map]; exact hn) hsz ?_ (g_cat _ _ hw) hd (by rw [hR]; exact ⟨hc, hs2⟩)) hl hS kk
  show (As.reverse ++ .ref b :: st).map _ = _
  rw [List.map_append, List.map_reverse]; rfl
theorem g_callIN (C : gC X own nm cc nL rm) (Y : gY y bytes maxL none n) (V : gVi y) (hyi : y.name = "<init>") {host : String} (hl0 : (own, ix, y, host) ∈ gNest) (hM : gM y bytes maxL none fr lo (.ref b :: As) hp mc ms P) (hd : decode cc pc = .ok (.invokespecial ix, 3)) (hq : pc + 3 = q) (hn : As.length = n) (hls : ls.length = nL) (hfr : fr + 1 ≤ rm.frames) (hlo : 8 + (maxL + 11) + lo ≤ rm.locals) (hw : (st.map fun v => v.category).sum ≤ 8) (hc : cl + mc ≤ rm.cells) (hs2 : sl + ms ≤ rm.slots) (hst : stk = As.reverse ++ .ref b :: st)
    (kk : ∀ (v : Option Value) (hp' : List gA), P v hp' → gG X q ls (v.toList ++ st) hp' (cl + mc) (sl + ms)) : gG X pc ls stk hp cl sl := by
  subst hq; subst hst
  have hR := C.2.2.2.2.2.2.2.2.1
  have hts := fun w (hw : w ∈ gW) => gC_hts C (w := w) hw
  intro arr H locs hl hh hS
  obtain ⟨h1, h2, h3⟩ := Y
  have cb : va_CN (xR X) (xs X) (xa X) own ix y host bytes maxL none (Cond.code y bytes maxL none :: gW) ({ frames := fr, cells := mc, slots := ms, locals := lo }) mc ms n := va_cnB n hts (gGood h2) rfl rfl rfl (C.2.2.2.2.2.2.2.2.2.2.1 _ hl0) (hts _ h1) h3 (by rw [hR]; exact ⟨hfr, hlo⟩)
  have hp0 : PreS (xs X) H (gPc (xD X) (xI X) (xJ X) (xB X) (xA X) (.ref b :: As) hp) (.ref (xB X + b) :: As.map (gv (xB X) (xA X))) :=
    ⟨gPc_blind _ _ _ _ _ _ _, fun U hU hW => ⟨rfl, by rw [hU]; exact hh, va_K.moved hW.alike (gC_K C), gN.warm hW hS hU C.2.2.2.2.2.2.2.2.2.2⟩⟩
  have hsz : arr.size = nL := hl.1.trans hls
  refine g_back (va_runIN (b := xB X + b) (As := As.map (gv (xB X) (xA X))) (rest := st.map (gv (xB X) (xA X))) ⟨C.1, C.2.1, C.2.2.1, C.2.2.2.1, hts⟩ (hM _ _ _ _ _ _) ⟨cb, hyi, hts _ V⟩ hp0 rfl (by rw [List.length_map]; exact hn) hsz ?_ (g_cat _ _ hw) hd (by rw [hR]; exact ⟨hc, hs2⟩)) hl hS kk
  show (As.reverse ++ .ref b :: st).map _ = _
  rw [List.map_append, List.map_reverse]; rfl
end GCA
end
section
/-! what is new is counted by the world itself: the counters of a walk set back to it -/
def gNJ (hp : List gA) : Prop := ∀ (k : Nat) (e : gA), hp[k]? = some e → e ≠ gJunk
theorem gsum_le {β : Type} {f : β → Nat} : ∀ {l : List β} {m : List Nat}, l.length = m.length → (∀ (i : Nat) (x : β) (y : Nat), l[i]? = some x → m[i]? = some y → f x = y) → (l.map f).sum = m.sum
  | [], [], _, _ => rfl
  | [], _ :: _, h, _ => by cases h
  | _ :: _, [], h, _ => by cases h
  | a :: l, b :: m, h, hf => by
    rw [List.map_cons, List.sum_cons, List.sum_cons, hf 0 a b rfl rfl, gsum_le (l := l) (m := m) (Nat.succ.inj h) (fun i x y h1 h2 => hf (i + 1) x y h1 h2)]
section GGR
variable {X : gX} {own nm : String} {cc : ByteArray} {nL : Nat} {rm : Room} {pc q : Nat} {ls : List (Option Value)} {st : List Value} {hp hp0 : List gA} {cl sl : Nat}
theorem g_tight (h0 : gH (xD X) (xI X) (xJ X) (xB X) (xA X) hp0 (xs X).heap) (nj0 : gNJ hp0) (nj : gNJ hp)
    (k : hp0.length ≤ hp.length → gsz hp0 ≤ gsz hp → gG X pc ls st hp (hp.length - hp0.length) (gsz hp - gsz hp0)) : gG X pc ls st hp cl sl := by
  intro arr H locs hl hh hS T hT Y
  have hsame := Y.same
  obtain ⟨a1, a2, a3, a4, a5, a6⟩ := hsame
  have hT2 : (T.setVm (xs X).vm).heap = H := hT
  rw [hT2] at a2 a3 a4 a5 a6
  have hz0 : (xs X).heap.size = xB X + hp0.length := h0.1
  have hz1 : H.size = xB X + hp.length := hh.1
  have hle : hp0.length ≤ hp.length := by omega
  -- the old cells have the sizes that they had
  have e1 : gsz (hp.take hp0.length) = gsz hp0 := by
    unfold gsz
    refine gsum_le (by rw [List.length_take, List.length_map]; omega) fun i x y hx hy => ?_
    rw [List.getElem?_map] at hy
    cases h2 : hp0[i]? with
    | none => rw [h2] at hy; cases hy
    | some z =>
      rw [h2] at hy
      cases hy
      have hi : i < hp0.length := (List.getElem?_eq_some_iff.mp h2).1
      rw [List.getElem?_take_of_lt hi] at hx
      obtain ⟨c, hc⟩ : ∃ c, (xs X).heap[xB X + i]? = some c := ⟨_, Array.getElem?_eq_getElem (by omega)⟩
      obtain ⟨c', hc', -, hsz, -⟩ := a6 _ _ hc
      have s0 := (h0.2 i z h2 (nj0 i z h2)).2 c hc
      have s1 := (hh.2 i x hx (nj i x hx)).2 c' hc'
      omega
  have e2 : gsz hp = gsz hp0 + gsz (hp.drop hp0.length) := by
    rw [← e1]
    unfold gsz
    rw [← List.sum_append, ← List.map_append, List.take_append_drop]
  have e3 : ((H.toList.drop (xs X).heap.size).map (·.slots.size)).sum = gsz (hp.drop hp0.length) := by
    unfold gsz
    refine gsum_le (by rw [List.length_drop, Array.length_toList, List.length_map, List.length_drop]; omega) fun i x y hx hy => ?_
    rw [List.getElem?_drop, Array.getElem?_toList] at hx
    rw [List.getElem?_map, List.getElem?_drop] at hy
    cases h2 : hp[hp0.length + i]? with
    | none => rw [h2] at hy; cases hy
    | some z =>
      rw [h2] at hy
      cases hy
      exact (hh.2 _ z h2 (nj _ z h2)).2 x (by rw [← hx]; congr 1; omega)
  refine k hle (by omega) arr H locs hl hh hS T hT { Y with same := ⟨a1, by rw [hT2]; exact a2, by rw [hT2]; omega, by rw [hT2]; exact a4, by rw [hT2, e3]; omega, by rw [hT2]; exact a6⟩ }
end GGR
theorem gM_ofT {y : MethodName} {bytes : ByteArray} {maxL : Nat} {ret : Option FieldType} {fr lo : Nat} {av : List Value} {hp : List gA} {mc ms : Nat} {P : Option Value → List gA → Prop} {ls0 : List (Option Value)} (hy : plainFor y = true) (hn : (gent av).length ≤ maxL) (hl : gent av ++ List.replicate (maxL - (gent av).length) none = ls0)
    (body : ∀ X : gX, gC X y.cls y.name bytes maxL ({ frames := fr, cells := mc, slots := ms, locals := lo }) → gEnd X bytes ret P mc ms → gH (xD X) (xI X) (xJ X) (xB X) (xA X) hp (xs X).heap → gG X 0 ls0 [] hp 0 0) : gM y bytes maxL ret fr lo av hp mc ms P := by
  intro l D cI cJ b0 sa
  refine gofW (cc := bytes) (maxL := maxL) (ret := ret) hy rfl ?_
  intro p e s m args below meth c s₁ B hml hv
  obtain ⟨rfl, hH, hK, hN⟩ := hv
  have hts := atoms_spec (ws := Cond.code y bytes maxL ret :: gW) B.pre
  have C : gC ((p, l, e, (headSpec (Cond.code y bytes maxL ret :: gW) { frames := fr, cells := mc, slots := ms, locals := lo }).room), (s, m, (av.map (gv b0 sa)).toArray, below), (meth, c), (D, cI, cJ), (b0, sa), MQ below (gQc D cI cJ b0 sa P) (av.map (gv b0 sa)).toArray s mc ms (fun q => b0 ≤ q)) y.cls y.name bytes maxL ({ frames := fr, cells := mc, slots := ms, locals := lo }) :=
    ⟨B.exec, B.bytes, hml, findClass_of_methodNamed B.named, fun w hw => hts w (List.mem_cons_of_mem _ hw), hK, by show b0 ≤ s.heap.size; rw [hH.1]; omega, B.notSynchronized, rfl, (name_of_methodNamed B.named B.method).1, hN⟩
  have hr := B.returns
  have hlk := B.notSynchronized
  have G := body _ C ⟨?_, ?_, ?_⟩ hH
  · have hE := gL_entry b0 sa av hn
    rw [hl] at hE
    rw [lg_entry_eq]
    exact G _ s.heap [] hE hH va_S.rf
  · intro pc ls v hp1 cl sl ty hd hty hnr h1 h2 hP arr H locs hl1 hh hS
    exact W.widen h1 h2 (W.zret B.exec B.bytes (hr.trans hty) hnr (fun t ht hW => ⟨⟨some (.int v), hp1, rfl, hP, by rw [ht]; exact hh⟩, hS.F ht⟩) hS.2.2 hd hlk)
  · intro pc ls hp1 cl sl hd hty h1 h2 hP arr H locs hl1 hh hS
    exact W.widen h1 h2 (W.vret B.exec B.bytes (hr.trans hty) (fun t ht hW => ⟨⟨none, hp1, rfl, hP, by rw [ht]; exact hh⟩, hS.F ht⟩) hS.2.2 hd hlk)
  · intro pc ls k hp1 cl sl ty hd hty hrt h1 h2 hP arr H locs hl1 hh hS
    exact W.widen h1 h2 (W.aret B.exec B.bytes (hr.trans hty) hrt (Or.inr ⟨_, rfl⟩) (fun t ht hW => ⟨⟨some (.ref k), hp1, rfl, hP, by rw [ht]; exact hh⟩, hS.F ht⟩) hS.2.2 hd hlk)
end
