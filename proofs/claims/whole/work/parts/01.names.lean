-- ===== PART A: goes FIRST, ahead of the names: the tables' words, and 'selects' of the private methods out of them =====
/-- a private method of a class that the tables say can be made, by its rows of tables_1 -/
def lw_okq (q : MethodName × Nat) : Prop := (q.1.cls ≠ "java/lang/invoke/MethodHandle" ∧ q.1.cls ≠ "java/lang/invoke/VarHandle") ∧ Cond.instantiable q.1.cls q.2 ∈ tables_1 ∧ Cond.privateMethod q.1 ∈ tables_1 ∧ Cond.instanceMethod q.1 ∈ tables_1
theorem lw_p0 : lw_okq (⟨"ShowRights", "layText", "()I"⟩, 7) := ⟨⟨by decide +kernel, by decide +kernel⟩, List.mem_of_getElem? (i := 16) (by decide +kernel), List.mem_of_getElem? (i := 212) (by decide +kernel), List.mem_of_getElem? (i := 213) (by decide +kernel)⟩
theorem lw_p1 : lw_okq (⟨"ShowRights$Reader", "readItem", "(LShowRights$Book;[CII)Z"⟩, 1) := ⟨⟨by decide +kernel, by decide +kernel⟩, List.mem_of_getElem? (i := 24) (by decide +kernel), List.mem_of_getElem? (i := 224) (by decide +kernel), List.mem_of_getElem? (i := 225) (by decide +kernel)⟩
theorem lw_p2 : lw_okq (⟨"ShowRights$Reader", "readNumbers", "([CII)I"⟩, 1) := ⟨⟨by decide +kernel, by decide +kernel⟩, List.mem_of_getElem? (i := 24) (by decide +kernel), List.mem_of_getElem? (i := 228) (by decide +kernel), List.mem_of_getElem? (i := 229) (by decide +kernel)⟩
theorem lw_p3 : lw_okq (⟨"ShowRights", "isOffer", "(I)Z"⟩, 7) := ⟨⟨by decide +kernel, by decide +kernel⟩, List.mem_of_getElem? (i := 16) (by decide +kernel), List.mem_of_getElem? (i := 303) (by decide +kernel), List.mem_of_getElem? (i := 304) (by decide +kernel)⟩
theorem lw_p4 : lw_okq (⟨"ShowRights", "whatSpeaksAgainst", "(I)I"⟩, 7) := ⟨⟨by decide +kernel, by decide +kernel⟩, List.mem_of_getElem? (i := 16) (by decide +kernel), List.mem_of_getElem? (i := 307) (by decide +kernel), List.mem_of_getElem? (i := 308) (by decide +kernel)⟩
theorem lw_p5 : lw_okq (⟨"ShowRights", "isSigned", "(I)Z"⟩, 7) := ⟨⟨by decide +kernel, by decide +kernel⟩, List.mem_of_getElem? (i := 16) (by decide +kernel), List.mem_of_getElem? (i := 311) (by decide +kernel), List.mem_of_getElem? (i := 312) (by decide +kernel)⟩
theorem lw_p6 : lw_okq (⟨"ShowRights$Book", "isKept", "(ILShowRights$Hold;I)Z"⟩, 6) := ⟨⟨by decide +kernel, by decide +kernel⟩, List.mem_of_getElem? (i := 36) (by decide +kernel), List.mem_of_getElem? (i := 349) (by decide +kernel), List.mem_of_getElem? (i := 350) (by decide +kernel)⟩
theorem lw_p7 : lw_okq (⟨"ShowRights", "remember", "(I)V"⟩, 7) := ⟨⟨by decide +kernel, by decide +kernel⟩, List.mem_of_getElem? (i := 16) (by decide +kernel), List.mem_of_getElem? (i := 357) (by decide +kernel), List.mem_of_getElem? (i := 358) (by decide +kernel)⟩
theorem lw_p8 : lw_okq (⟨"ShowRights$History", "loseOldest", "()V"⟩, 2) := ⟨⟨by decide +kernel, by decide +kernel⟩, List.mem_of_getElem? (i := 129) (by decide +kernel), List.mem_of_getElem? (i := 365) (by decide +kernel), List.mem_of_getElem? (i := 366) (by decide +kernel)⟩
theorem lw_p9 : lw_okq (⟨"ShowRights", "howManyHave", "(II)I"⟩, 7) := ⟨⟨by decide +kernel, by decide +kernel⟩, List.mem_of_getElem? (i := 16) (by decide +kernel), List.mem_of_getElem? (i := 459) (by decide +kernel), List.mem_of_getElem? (i := 460) (by decide +kernel)⟩
theorem lw_p10 : lw_okq (⟨"ShowRights", "weeksOf", "(II)J"⟩, 7) := ⟨⟨by decide +kernel, by decide +kernel⟩, List.mem_of_getElem? (i := 16) (by decide +kernel), List.mem_of_getElem? (i := 481) (by decide +kernel), List.mem_of_getElem? (i := 482) (by decide +kernel)⟩
theorem lw_p11 : lw_okq (⟨"ShowRights$Book", "outsideTerm", "()I"⟩, 6) := ⟨⟨by decide +kernel, by decide +kernel⟩, List.mem_of_getElem? (i := 36) (by decide +kernel), List.mem_of_getElem? (i := 523) (by decide +kernel), List.mem_of_getElem? (i := 524) (by decide +kernel)⟩
theorem lw_p12 : lw_okq (⟨"ShowRights$Book", "isWithoutClash", "(I)Z"⟩, 6) := ⟨⟨by decide +kernel, by decide +kernel⟩, List.mem_of_getElem? (i := 36) (by decide +kernel), List.mem_of_getElem? (i := 533) (by decide +kernel), List.mem_of_getElem? (i := 534) (by decide +kernel)⟩
theorem lw_p13 : lw_okq (⟨"ShowRightsModel", "beginRead", "()V"⟩, 22) := ⟨⟨by decide +kernel, by decide +kernel⟩, List.mem_of_getElem? (i := 552) (by decide +kernel), List.mem_of_getElem? (i := 558) (by decide +kernel), List.mem_of_getElem? (i := 559) (by decide +kernel)⟩
theorem lw_p14 : lw_okq (⟨"ShowRightsModel", "putOffer", "(IIIIIII)V"⟩, 22) := ⟨⟨by decide +kernel, by decide +kernel⟩, List.mem_of_getElem? (i := 552) (by decide +kernel), List.mem_of_getElem? (i := 562) (by decide +kernel), List.mem_of_getElem? (i := 563) (by decide +kernel)⟩
theorem lw_p15 : lw_okq (⟨"ShowRightsModel", "putHold", "(III)V"⟩, 22) := ⟨⟨by decide +kernel, by decide +kernel⟩, List.mem_of_getElem? (i := 552) (by decide +kernel), List.mem_of_getElem? (i := 566) (by decide +kernel), List.mem_of_getElem? (i := 567) (by decide +kernel)⟩
def lw_privs_1 : List (MethodName × Nat) := [(⟨"ShowRights", "layText", "()I"⟩, 7), (⟨"ShowRights$Reader", "readItem", "(LShowRights$Book;[CII)Z"⟩, 1), (⟨"ShowRights$Reader", "readNumbers", "([CII)I"⟩, 1), (⟨"ShowRights", "isOffer", "(I)Z"⟩, 7), (⟨"ShowRights", "whatSpeaksAgainst", "(I)I"⟩, 7), (⟨"ShowRights", "isSigned", "(I)Z"⟩, 7), (⟨"ShowRights$Book", "isKept", "(ILShowRights$Hold;I)Z"⟩, 6), (⟨"ShowRights", "remember", "(I)V"⟩, 7), (⟨"ShowRights$History", "loseOldest", "()V"⟩, 2), (⟨"ShowRights", "howManyHave", "(II)I"⟩, 7), (⟨"ShowRights", "weeksOf", "(II)J"⟩, 7), (⟨"ShowRights$Book", "outsideTerm", "()I"⟩, 6), (⟨"ShowRights$Book", "isWithoutClash", "(I)Z"⟩, 6), (⟨"ShowRightsModel", "beginRead", "()V"⟩, 22), (⟨"ShowRightsModel", "putOffer", "(IIIIIII)V"⟩, 22), (⟨"ShowRightsModel", "putHold", "(III)V"⟩, 22)]
theorem lw_r1 : ∀ q ∈ lw_privs_1, lw_okq q := List.forall_mem_cons.mpr ⟨lw_p0, List.forall_mem_cons.mpr ⟨lw_p1, List.forall_mem_cons.mpr ⟨lw_p2, List.forall_mem_cons.mpr ⟨lw_p3, List.forall_mem_cons.mpr ⟨lw_p4, List.forall_mem_cons.mpr ⟨lw_p5, List.forall_mem_cons.mpr ⟨lw_p6, List.forall_mem_cons.mpr ⟨lw_p7, List.forall_mem_cons.mpr ⟨lw_p8, List.forall_mem_cons.mpr ⟨lw_p9, List.forall_mem_cons.mpr ⟨lw_p10, List.forall_mem_cons.mpr ⟨lw_p11, List.forall_mem_cons.mpr ⟨lw_p12, List.forall_mem_cons.mpr ⟨lw_p13, List.forall_mem_cons.mpr ⟨lw_p14, List.forall_mem_cons.mpr ⟨lw_p15, fun _ h => absurd h List.not_mem_nil⟩⟩⟩⟩⟩⟩⟩⟩⟩⟩⟩⟩⟩⟩⟩⟩
theorem lw_p16 : lw_okq (⟨"ShowRightsModel", "takeRead", "()V"⟩, 22) := ⟨⟨by decide +kernel, by decide +kernel⟩, List.mem_of_getElem? (i := 552) (by decide +kernel), List.mem_of_getElem? (i := 570) (by decide +kernel), List.mem_of_getElem? (i := 571) (by decide +kernel)⟩
theorem lw_p17 : lw_okq (⟨"ShowRightsModel", "readText", "()I"⟩, 22) := ⟨⟨by decide +kernel, by decide +kernel⟩, List.mem_of_getElem? (i := 552) (by decide +kernel), List.mem_of_getElem? (i := 656) (by decide +kernel), List.mem_of_getElem? (i := 657) (by decide +kernel)⟩
theorem lw_p18 : lw_okq (⟨"ShowRightsModel", "readTerm", "()Z"⟩, 22) := ⟨⟨by decide +kernel, by decide +kernel⟩, List.mem_of_getElem? (i := 552) (by decide +kernel), List.mem_of_getElem? (i := 660) (by decide +kernel), List.mem_of_getElem? (i := 661) (by decide +kernel)⟩
theorem lw_p19 : lw_okq (⟨"ShowRightsModel", "readNumbers", "(I)Z"⟩, 22) := ⟨⟨by decide +kernel, by decide +kernel⟩, List.mem_of_getElem? (i := 552) (by decide +kernel), List.mem_of_getElem? (i := 664) (by decide +kernel), List.mem_of_getElem? (i := 665) (by decide +kernel)⟩
theorem lw_p20 : lw_okq (⟨"ShowRightsModel", "isFigure", "()Z"⟩, 22) := ⟨⟨by decide +kernel, by decide +kernel⟩, List.mem_of_getElem? (i := 552) (by decide +kernel), List.mem_of_getElem? (i := 668) (by decide +kernel), List.mem_of_getElem? (i := 669) (by decide +kernel)⟩
theorem lw_p21 : lw_okq (⟨"ShowRightsModel", "readOffer", "()Z"⟩, 22) := ⟨⟨by decide +kernel, by decide +kernel⟩, List.mem_of_getElem? (i := 552) (by decide +kernel), List.mem_of_getElem? (i := 672) (by decide +kernel), List.mem_of_getElem? (i := 673) (by decide +kernel)⟩
theorem lw_p22 : lw_okq (⟨"ShowRightsModel", "readHold", "()Z"⟩, 22) := ⟨⟨by decide +kernel, by decide +kernel⟩, List.mem_of_getElem? (i := 552) (by decide +kernel), List.mem_of_getElem? (i := 676) (by decide +kernel), List.mem_of_getElem? (i := 677) (by decide +kernel)⟩
theorem lw_p23 : lw_okq (⟨"ShowRightsModel", "isOffer", "(I)Z"⟩, 22) := ⟨⟨by decide +kernel, by decide +kernel⟩, List.mem_of_getElem? (i := 552) (by decide +kernel), List.mem_of_getElem? (i := 692) (by decide +kernel), List.mem_of_getElem? (i := 693) (by decide +kernel)⟩
theorem lw_p24 : lw_okq (⟨"ShowRightsModel", "whyOf", "(I)I"⟩, 22) := ⟨⟨by decide +kernel, by decide +kernel⟩, List.mem_of_getElem? (i := 552) (by decide +kernel), List.mem_of_getElem? (i := 696) (by decide +kernel), List.mem_of_getElem? (i := 697) (by decide +kernel)⟩
theorem lw_p25 : lw_okq (⟨"ShowRightsModel", "isSigned", "(I)Z"⟩, 22) := ⟨⟨by decide +kernel, by decide +kernel⟩, List.mem_of_getElem? (i := 552) (by decide +kernel), List.mem_of_getElem? (i := 700) (by decide +kernel), List.mem_of_getElem? (i := 701) (by decide +kernel)⟩
theorem lw_p26 : lw_okq (⟨"ShowRightsModel", "isOfTerm", "(I)Z"⟩, 22) := ⟨⟨by decide +kernel, by decide +kernel⟩, List.mem_of_getElem? (i := 552) (by decide +kernel), List.mem_of_getElem? (i := 704) (by decide +kernel), List.mem_of_getElem? (i := 705) (by decide +kernel)⟩
theorem lw_p27 : lw_okq (⟨"ShowRightsModel", "of", "(II)I"⟩, 22) := ⟨⟨by decide +kernel, by decide +kernel⟩, List.mem_of_getElem? (i := 552) (by decide +kernel), List.mem_of_getElem? (i := 708) (by decide +kernel), List.mem_of_getElem? (i := 709) (by decide +kernel)⟩
theorem lw_p28 : lw_okq (⟨"ShowRightsModel", "clashOf", "(I)I"⟩, 22) := ⟨⟨by decide +kernel, by decide +kernel⟩, List.mem_of_getElem? (i := 552) (by decide +kernel), List.mem_of_getElem? (i := 712) (by decide +kernel), List.mem_of_getElem? (i := 713) (by decide +kernel)⟩
theorem lw_p29 : lw_okq (⟨"ShowRightsModel", "doClash", "(II)Z"⟩, 22) := ⟨⟨by decide +kernel, by decide +kernel⟩, List.mem_of_getElem? (i := 552) (by decide +kernel), List.mem_of_getElem? (i := 716) (by decide +kernel), List.mem_of_getElem? (i := 717) (by decide +kernel)⟩
theorem lw_p30 : lw_okq (⟨"ShowRightsModel", "commonOf", "(II)I"⟩, 22) := ⟨⟨by decide +kernel, by decide +kernel⟩, List.mem_of_getElem? (i := 552) (by decide +kernel), List.mem_of_getElem? (i := 720) (by decide +kernel), List.mem_of_getElem? (i := 721) (by decide +kernel)⟩
theorem lw_p31 : lw_okq (⟨"ShowRightsModel", "areKept", "(I)Z"⟩, 22) := ⟨⟨by decide +kernel, by decide +kernel⟩, List.mem_of_getElem? (i := 552) (by decide +kernel), List.mem_of_getElem? (i := 727) (by decide +kernel), List.mem_of_getElem? (i := 728) (by decide +kernel)⟩
def lw_privs_2 : List (MethodName × Nat) := [(⟨"ShowRightsModel", "takeRead", "()V"⟩, 22), (⟨"ShowRightsModel", "readText", "()I"⟩, 22), (⟨"ShowRightsModel", "readTerm", "()Z"⟩, 22), (⟨"ShowRightsModel", "readNumbers", "(I)Z"⟩, 22), (⟨"ShowRightsModel", "isFigure", "()Z"⟩, 22), (⟨"ShowRightsModel", "readOffer", "()Z"⟩, 22), (⟨"ShowRightsModel", "readHold", "()Z"⟩, 22), (⟨"ShowRightsModel", "isOffer", "(I)Z"⟩, 22), (⟨"ShowRightsModel", "whyOf", "(I)I"⟩, 22), (⟨"ShowRightsModel", "isSigned", "(I)Z"⟩, 22), (⟨"ShowRightsModel", "isOfTerm", "(I)Z"⟩, 22), (⟨"ShowRightsModel", "of", "(II)I"⟩, 22), (⟨"ShowRightsModel", "clashOf", "(I)I"⟩, 22), (⟨"ShowRightsModel", "doClash", "(II)Z"⟩, 22), (⟨"ShowRightsModel", "commonOf", "(II)I"⟩, 22), (⟨"ShowRightsModel", "areKept", "(I)Z"⟩, 22)]
theorem lw_r2 : ∀ q ∈ lw_privs_2, lw_okq q := List.forall_mem_cons.mpr ⟨lw_p16, List.forall_mem_cons.mpr ⟨lw_p17, List.forall_mem_cons.mpr ⟨lw_p18, List.forall_mem_cons.mpr ⟨lw_p19, List.forall_mem_cons.mpr ⟨lw_p20, List.forall_mem_cons.mpr ⟨lw_p21, List.forall_mem_cons.mpr ⟨lw_p22, List.forall_mem_cons.mpr ⟨lw_p23, List.forall_mem_cons.mpr ⟨lw_p24, List.forall_mem_cons.mpr ⟨lw_p25, List.forall_mem_cons.mpr ⟨lw_p26, List.forall_mem_cons.mpr ⟨lw_p27, List.forall_mem_cons.mpr ⟨lw_p28, List.forall_mem_cons.mpr ⟨lw_p29, List.forall_mem_cons.mpr ⟨lw_p30, List.forall_mem_cons.mpr ⟨lw_p31, fun _ h => absurd h List.not_mem_nil⟩⟩⟩⟩⟩⟩⟩⟩⟩⟩⟩⟩⟩⟩⟩⟩
theorem lw_p32 : lw_okq (⟨"ShowRightsModel", "brokenBy", "(II)I"⟩, 22) := ⟨⟨by decide +kernel, by decide +kernel⟩, List.mem_of_getElem? (i := 552) (by decide +kernel), List.mem_of_getElem? (i := 731) (by decide +kernel), List.mem_of_getElem? (i := 732) (by decide +kernel)⟩
theorem lw_p33 : lw_okq (⟨"ShowRightsModel", "beginOf", "(III)I"⟩, 22) := ⟨⟨by decide +kernel, by decide +kernel⟩, List.mem_of_getElem? (i := 552) (by decide +kernel), List.mem_of_getElem? (i := 735) (by decide +kernel), List.mem_of_getElem? (i := 736) (by decide +kernel)⟩
theorem lw_p34 : lw_okq (⟨"ShowRightsModel", "note", "()V"⟩, 22) := ⟨⟨by decide +kernel, by decide +kernel⟩, List.mem_of_getElem? (i := 552) (by decide +kernel), List.mem_of_getElem? (i := 739) (by decide +kernel), List.mem_of_getElem? (i := 740) (by decide +kernel)⟩
theorem lw_p35 : lw_okq (⟨"ShowRightsModel", "soldAt", "(II)I"⟩, 22) := ⟨⟨by decide +kernel, by decide +kernel⟩, List.mem_of_getElem? (i := 552) (by decide +kernel), List.mem_of_getElem? (i := 786) (by decide +kernel), List.mem_of_getElem? (i := 787) (by decide +kernel)⟩
theorem lw_p36 : lw_okq (⟨"ShowRightsModel", "has", "(III)Z"⟩, 22) := ⟨⟨by decide +kernel, by decide +kernel⟩, List.mem_of_getElem? (i := 552) (by decide +kernel), List.mem_of_getElem? (i := 790) (by decide +kernel), List.mem_of_getElem? (i := 791) (by decide +kernel)⟩
theorem lw_p37 : lw_okq (⟨"ShowRightsModel", "isAloneAt", "(II)Z"⟩, 22) := ⟨⟨by decide +kernel, by decide +kernel⟩, List.mem_of_getElem? (i := 552) (by decide +kernel), List.mem_of_getElem? (i := 794) (by decide +kernel), List.mem_of_getElem? (i := 795) (by decide +kernel)⟩
theorem lw_p38 : lw_okq (⟨"ShowRightsModel", "findWindow", "(II)Z"⟩, 22) := ⟨⟨by decide +kernel, by decide +kernel⟩, List.mem_of_getElem? (i := 552) (by decide +kernel), List.mem_of_getElem? (i := 806) (by decide +kernel), List.mem_of_getElem? (i := 807) (by decide +kernel)⟩
theorem lw_p39 : lw_okq (⟨"ShowRightsModel", "findBest", "()I"⟩, 22) := ⟨⟨by decide +kernel, by decide +kernel⟩, List.mem_of_getElem? (i := 552) (by decide +kernel), List.mem_of_getElem? (i := 818) (by decide +kernel), List.mem_of_getElem? (i := 819) (by decide +kernel)⟩
theorem lw_p40 : lw_okq (⟨"ShowRightsModel", "pricesOf", "(I)I"⟩, 22) := ⟨⟨by decide +kernel, by decide +kernel⟩, List.mem_of_getElem? (i := 552) (by decide +kernel), List.mem_of_getElem? (i := 822) (by decide +kernel), List.mem_of_getElem? (i := 823) (by decide +kernel)⟩
theorem lw_p41 : lw_okq (⟨"ShowRightsModel", "isGood", "(I)Z"⟩, 22) := ⟨⟨by decide +kernel, by decide +kernel⟩, List.mem_of_getElem? (i := 552) (by decide +kernel), List.mem_of_getElem? (i := 826) (by decide +kernel), List.mem_of_getElem? (i := 827) (by decide +kernel)⟩
def lw_privs_3 : List (MethodName × Nat) := [(⟨"ShowRightsModel", "brokenBy", "(II)I"⟩, 22), (⟨"ShowRightsModel", "beginOf", "(III)I"⟩, 22), (⟨"ShowRightsModel", "note", "()V"⟩, 22), (⟨"ShowRightsModel", "soldAt", "(II)I"⟩, 22), (⟨"ShowRightsModel", "has", "(III)Z"⟩, 22), (⟨"ShowRightsModel", "isAloneAt", "(II)Z"⟩, 22), (⟨"ShowRightsModel", "findWindow", "(II)Z"⟩, 22), (⟨"ShowRightsModel", "findBest", "()I"⟩, 22), (⟨"ShowRightsModel", "pricesOf", "(I)I"⟩, 22), (⟨"ShowRightsModel", "isGood", "(I)Z"⟩, 22)]
theorem lw_r3 : ∀ q ∈ lw_privs_3, lw_okq q := List.forall_mem_cons.mpr ⟨lw_p32, List.forall_mem_cons.mpr ⟨lw_p33, List.forall_mem_cons.mpr ⟨lw_p34, List.forall_mem_cons.mpr ⟨lw_p35, List.forall_mem_cons.mpr ⟨lw_p36, List.forall_mem_cons.mpr ⟨lw_p37, List.forall_mem_cons.mpr ⟨lw_p38, List.forall_mem_cons.mpr ⟨lw_p39, List.forall_mem_cons.mpr ⟨lw_p40, List.forall_mem_cons.mpr ⟨lw_p41, fun _ h => absurd h List.not_mem_nil⟩⟩⟩⟩⟩⟩⟩⟩⟩⟩
def lw_privs : List (MethodName × Nat) := lw_privs_1 ++ (lw_privs_2 ++ (lw_privs_3))
def lw_tbl : List Cond := k2_sels lw_privs ++ tables_1
theorem lw_privs_ok : ∀ q ∈ lw_privs, lw_okq q := by
  show ∀ q ∈ lw_privs_1 ++ (lw_privs_2 ++ (lw_privs_3)), lw_okq q
  exact List.forall_mem_append.mpr ⟨lw_r1, List.forall_mem_append.mpr ⟨lw_r2, lw_r3⟩⟩
def RX0 : String := "ShowRights$Book"
def TX0 : u_T := fun k => match k with
  | 0 => ("ShowRights$Book", "offers", "[LShowRights$Offer;", true)
  | 1 => ("ShowRights$Book", "offerCount", "I", false)
  | 2 => ("ShowRights$Book", "holds", "[LShowRights$Hold;", true)
  | 3 => ("ShowRights$Book", "holdCount", "I", false)
  | 4 => ("ShowRights$Book", "termFirst", "I", false)
  | _ => ("ShowRights$Book", "termLast", "I", false)
def tyX0 : Nat → FieldType := fun k => match k with
  | 0 => .array (.object "ShowRights$Offer")
  | 1 => .int
  | 2 => .array (.object "ShowRights$Hold")
  | 3 => .int
  | 4 => .int
  | _ => .int
theorem nmX0 : ∀ a, a < 6 → ∀ b, b < 6 → a ≠ b → (TX0 a).2.1 ≠ (TX0 b).2.1 := by decide +kernel
theorem tyX0_ok : ∀ k, k < 6 → parseFieldDescriptor (TX0 k).2.2.1 = some (tyX0 k) := by decide +kernel
abbrev cX0_init : ByteArray := prog_2_method_1_code
def yX0_init : MethodName := ⟨RX0, "<init>", "()V"⟩
abbrev cX0_clear : ByteArray := prog_2_method_2_code
def yX0_clear : MethodName := ⟨RX0, "clear", "()V"⟩
abbrev cX0_isSpan : ByteArray := prog_2_method_3_code
def yX0_isSpan : MethodName := ⟨RX0, "isSpan", "(II)Z"⟩
abbrev cX0_setTerm : ByteArray := prog_2_method_4_code
def yX0_setTerm : MethodName := ⟨RX0, "setTerm", "(II)Z"⟩
abbrev cX0_addOffer : ByteArray := prog_2_method_5_code
def yX0_addOffer : MethodName := ⟨RX0, "addOffer", "([I)Z"⟩
abbrev cX0_isOfferTold : ByteArray := prog_2_method_6_code
def yX0_isOfferTold : MethodName := ⟨RX0, "isOfferTold", "([I)Z"⟩
abbrev cX0_addHold : ByteArray := prog_2_method_7_code
def yX0_addHold : MethodName := ⟨RX0, "addHold", "(III)Z"⟩
abbrev cX0_isWithinTerm : ByteArray := prog_2_method_8_code
def yX0_isWithinTerm : MethodName := ⟨RX0, "isWithinTerm", "(I)Z"⟩
abbrev cX0_lowestClash : ByteArray := prog_2_method_9_code
def yX0_lowestClash : MethodName := ⟨RX0, "lowestClash", "(II)I"⟩
abbrev cX0_clashingPairs : ByteArray := prog_2_method_10_code
def yX0_clashingPairs : MethodName := ⟨RX0, "clashingPairs", "()I"⟩
abbrev cX0_beginOf : ByteArray := prog_2_method_11_code
def yX0_beginOf : MethodName := ⟨RX0, "beginOf", "(III)I"⟩
abbrev cX0_isKept : ByteArray := prog_2_method_12_code
def yX0_isKept : MethodName := ⟨RX0, "isKept", "(ILShowRights$Hold;I)Z"⟩
abbrev cX0_areHoldsKept : ByteArray := prog_2_method_13_code
def yX0_areHoldsKept : MethodName := ⟨RX0, "areHoldsKept", "(I)Z"⟩
abbrev cX0_brokenLands : ByteArray := prog_2_method_14_code
def yX0_brokenLands : MethodName := ⟨RX0, "brokenLands", "(ILShowRights$Hold;)I"⟩
abbrev cX0_priceOf : ByteArray := prog_2_method_15_code
def yX0_priceOf : MethodName := ⟨RX0, "priceOf", "(I)I"⟩
abbrev cX0_bestSet : ByteArray := prog_2_method_16_code
def yX0_bestSet : MethodName := ⟨RX0, "bestSet", "()I"⟩
abbrev cX0_outsideTerm : ByteArray := prog_2_method_17_code
def yX0_outsideTerm : MethodName := ⟨RX0, "outsideTerm", "()I"⟩
abbrev cX0_isWithoutClash : ByteArray := prog_2_method_18_code
def yX0_isWithoutClash : MethodName := ⟨RX0, "isWithoutClash", "(I)Z"⟩
def RX1 : String := "ShowRights$Change"
def TX1 : u_T := fun k => match k with
  | 0 => ("ShowRights$Change", "signed", "I", false)
  | 1 => ("ShowRights$Change", "offer", "I", false)
  | _ => ("ShowRights$Change", "moved", "I", false)
def tyX1 : Nat → FieldType := fun k => match k with
  | 0 => .int
  | 1 => .int
  | _ => .int
theorem nmX1 : ∀ a, a < 3 → ∀ b, b < 3 → a ≠ b → (TX1 a).2.1 ≠ (TX1 b).2.1 := by decide +kernel
theorem tyX1_ok : ∀ k, k < 3 → parseFieldDescriptor (TX1 k).2.2.1 = some (tyX1 k) := by decide +kernel
abbrev cX1_init : ByteArray := prog_3_method_1_code
def yX1_init : MethodName := ⟨RX1, "<init>", "()V"⟩
def RX2 : String := "ShowRights$History"
def TX2 : u_T := fun k => match k with
  | 0 => ("ShowRights$History", "changes", "[LShowRights$Change;", true)
  | _ => ("ShowRights$History", "size", "I", false)
def tyX2 : Nat → FieldType := fun k => match k with
  | 0 => .array (.object "ShowRights$Change")
  | _ => .int
theorem nmX2 : ∀ a, a < 2 → ∀ b, b < 2 → a ≠ b → (TX2 a).2.1 ≠ (TX2 b).2.1 := by decide +kernel
theorem tyX2_ok : ∀ k, k < 2 → parseFieldDescriptor (TX2 k).2.2.1 = some (tyX2 k) := by decide +kernel
abbrev cX2_init : ByteArray := prog_4_method_1_code
def yX2_init : MethodName := ⟨RX2, "<init>", "()V"⟩
abbrev cX2_forget : ByteArray := prog_4_method_2_code
def yX2_forget : MethodName := ⟨RX2, "forget", "()V"⟩
abbrev cX2_add : ByteArray := prog_4_method_3_code
def yX2_add : MethodName := ⟨RX2, "add", "(III)V"⟩
abbrev cX2_loseOldest : ByteArray := prog_4_method_4_code
def yX2_loseOldest : MethodName := ⟨RX2, "loseOldest", "()V"⟩
abbrev cX2_takeLatest : ByteArray := prog_4_method_5_code
def yX2_takeLatest : MethodName := ⟨RX2, "takeLatest", "()LShowRights$Change;"⟩
def RX3 : String := "ShowRights$Hold"
def TX3 : u_T := fun k => match k with
  | 0 => ("ShowRights$Hold", "later", "I", false)
  | 1 => ("ShowRights$Hold", "earlier", "I", false)
  | _ => ("ShowRights$Hold", "weeks", "I", false)
def tyX3 : Nat → FieldType := fun k => match k with
  | 0 => .int
  | 1 => .int
  | _ => .int
theorem nmX3 : ∀ a, a < 3 → ∀ b, b < 3 → a ≠ b → (TX3 a).2.1 ≠ (TX3 b).2.1 := by decide +kernel
theorem tyX3_ok : ∀ k, k < 3 → parseFieldDescriptor (TX3 k).2.2.1 = some (tyX3 k) := by decide +kernel
abbrev cX3_init : ByteArray := prog_5_method_1_code
def yX3_init : MethodName := ⟨RX3, "<init>", "()V"⟩
def RX4 : String := "ShowRights$Offer"
def TX4 : u_T := fun k => match k with
  | 0 => ("ShowRights$Offer", "lands", "I", false)
  | 1 => ("ShowRights$Offer", "tongues", "I", false)
  | 2 => ("ShowRights$Offer", "means", "I", false)
  | 3 => ("ShowRights$Offer", "first", "I", false)
  | 4 => ("ShowRights$Offer", "last", "I", false)
  | 5 => ("ShowRights$Offer", "alone", "Z", false)
  | 6 => ("ShowRights$Offer", "price", "I", false)
  | _ => ("ShowRights$Offer", "moved", "I", false)
def tyX4 : Nat → FieldType := fun k => match k with
  | 0 => .int
  | 1 => .int
  | 2 => .int
  | 3 => .int
  | 4 => .int
  | 5 => .boolean
  | 6 => .int
  | _ => .int
theorem nmX4 : ∀ a, a < 8 → ∀ b, b < 8 → a ≠ b → (TX4 a).2.1 ≠ (TX4 b).2.1 := by decide +kernel
theorem tyX4_ok : ∀ k, k < 8 → parseFieldDescriptor (TX4 k).2.2.1 = some (tyX4 k) := by decide +kernel
abbrev cX4_init : ByteArray := prog_6_method_1_code
def yX4_init : MethodName := ⟨RX4, "<init>", "()V"⟩
abbrev cX4_firstNow : ByteArray := prog_6_method_2_code
def yX4_firstNow : MethodName := ⟨RX4, "firstNow", "()I"⟩
abbrev cX4_lastNow : ByteArray := prog_6_method_3_code
def yX4_lastNow : MethodName := ⟨RX4, "lastNow", "()I"⟩
abbrev cX4_farthestMove : ByteArray := prog_6_method_4_code
def yX4_farthestMove : MethodName := ⟨RX4, "farthestMove", "()I"⟩
abbrev cX4_weeksNow : ByteArray := prog_6_method_5_code
def yX4_weeksNow : MethodName := ⟨RX4, "weeksNow", "()J"⟩
abbrev cX4_hasCell : ByteArray := prog_6_method_6_code
def yX4_hasCell : MethodName := ⟨RX4, "hasCell", "(I)Z"⟩
abbrev cX4_commonPoints : ByteArray := prog_6_method_7_code
def yX4_commonPoints : MethodName := ⟨RX4, "commonPoints", "(LShowRights$Offer;)I"⟩
abbrev cX4_meets : ByteArray := prog_6_method_8_code
def yX4_meets : MethodName := ⟨RX4, "meets", "(LShowRights$Offer;)Z"⟩
abbrev cX4_clashesWith : ByteArray := prog_6_method_9_code
def yX4_clashesWith : MethodName := ⟨RX4, "clashesWith", "(LShowRights$Offer;)Z"⟩
def RX5 : String := "ShowRights$Reader"
def TX5 : u_T := fun k => match k with
  | _ => ("ShowRights$Reader", "numbers", "[I", true)
def tyX5 : Nat → FieldType := fun k => match k with
  | _ => .array .int
theorem nmX5 : ∀ a, a < 1 → ∀ b, b < 1 → a ≠ b → (TX5 a).2.1 ≠ (TX5 b).2.1 := by decide +kernel
theorem tyX5_ok : ∀ k, k < 1 → parseFieldDescriptor (TX5 k).2.2.1 = some (tyX5 k) := by decide +kernel
abbrev cX5_init : ByteArray := prog_7_method_1_code
def yX5_init : MethodName := ⟨RX5, "<init>", "()V"⟩
abbrev cX5_readInto : ByteArray := prog_7_method_2_code
def yX5_readInto : MethodName := ⟨RX5, "readInto", "(LShowRights$Book;[CI)I"⟩
abbrev cX5_readItem : ByteArray := prog_7_method_3_code
def yX5_readItem : MethodName := ⟨RX5, "readItem", "(LShowRights$Book;[CII)Z"⟩
abbrev cX5_readNumbers : ByteArray := prog_7_method_4_code
def yX5_readNumbers : MethodName := ⟨RX5, "readNumbers", "([CII)I"⟩
def RX6 : String := "ShowRights"
def TX6 : u_T := fun k => match k with
  | 0 => ("ShowRights", "text", "[C", true)
  | 1 => ("ShowRights", "letters", "I", false)
  | 2 => ("ShowRights", "reader", "LShowRights$Reader;", true)
  | 3 => ("ShowRights", "book", "LShowRights$Book;", false)
  | 4 => ("ShowRights", "draft", "LShowRights$Book;", false)
  | 5 => ("ShowRights", "signed", "I", false)
  | _ => ("ShowRights", "history", "LShowRights$History;", true)
def tyX6 : Nat → FieldType := fun k => match k with
  | 0 => .array .char
  | 1 => .int
  | 2 => .object "ShowRights$Reader"
  | 3 => .object "ShowRights$Book"
  | 4 => .object "ShowRights$Book"
  | 5 => .int
  | _ => .object "ShowRights$History"
theorem nmX6 : ∀ a, a < 7 → ∀ b, b < 7 → a ≠ b → (TX6 a).2.1 ≠ (TX6 b).2.1 := by decide +kernel
theorem tyX6_ok : ∀ k, k < 7 → parseFieldDescriptor (TX6 k).2.2.1 = some (tyX6 k) := by decide +kernel
abbrev cX6_init : ByteArray := prog_1_method_1_code
def yX6_init : MethodName := ⟨RX6, "<init>", "()V"⟩
abbrev cX6_write : ByteArray := prog_1_method_2_code
def yX6_write : MethodName := ⟨RX6, "write", "(I)I"⟩
abbrev cX6_wipe : ByteArray := prog_1_method_3_code
def yX6_wipe : MethodName := ⟨RX6, "wipe", "()I"⟩
abbrev cX6_fault : ByteArray := prog_1_method_4_code
def yX6_fault : MethodName := ⟨RX6, "fault", "()I"⟩
abbrev cX6_lay : ByteArray := prog_1_method_5_code
def yX6_lay : MethodName := ⟨RX6, "lay", "()I"⟩
abbrev cX6_layText : ByteArray := prog_1_method_6_code
def yX6_layText : MethodName := ⟨RX6, "layText", "()I"⟩
abbrev cX6_sign : ByteArray := prog_1_method_7_code
def yX6_sign : MethodName := ⟨RX6, "sign", "(I)I"⟩
abbrev cX6_why : ByteArray := prog_1_method_8_code
def yX6_why : MethodName := ⟨RX6, "why", "(I)I"⟩
abbrev cX6_clash : ByteArray := prog_1_method_9_code
def yX6_clash : MethodName := ⟨RX6, "clash", "(I)I"⟩
abbrev cX6_drop : ByteArray := prog_1_method_10_code
def yX6_drop : MethodName := ⟨RX6, "drop", "(I)I"⟩
abbrev cX6_move : ByteArray := prog_1_method_11_code
def yX6_move : MethodName := ⟨RX6, "move", "(II)I"⟩
abbrev cX6_soonest : ByteArray := prog_1_method_12_code
def yX6_soonest : MethodName := ⟨RX6, "soonest", "(I)I"⟩
abbrev cX6_undo : ByteArray := prog_1_method_13_code
def yX6_undo : MethodName := ⟨RX6, "undo", "()I"⟩
abbrev cX6_isOffer : ByteArray := prog_1_method_14_code
def yX6_isOffer : MethodName := ⟨RX6, "isOffer", "(I)Z"⟩
abbrev cX6_isSigned : ByteArray := prog_1_method_15_code
def yX6_isSigned : MethodName := ⟨RX6, "isSigned", "(I)Z"⟩
abbrev cX6_whatSpeaksAgainst : ByteArray := prog_1_method_16_code
def yX6_whatSpeaksAgainst : MethodName := ⟨RX6, "whatSpeaksAgainst", "(I)I"⟩
abbrev cX6_remember : ByteArray := prog_1_method_17_code
def yX6_remember : MethodName := ⟨RX6, "remember", "(I)V"⟩
abbrev cX6_offer : ByteArray := prog_1_method_18_code
def yX6_offer : MethodName := ⟨RX6, "offer", "(II)I"⟩
abbrev cX6_common : ByteArray := prog_1_method_19_code
def yX6_common : MethodName := ⟨RX6, "common", "(II)I"⟩
abbrev cX6_begin : ByteArray := prog_1_method_20_code
def yX6_begin : MethodName := ⟨RX6, "begin", "(II)I"⟩
abbrev cX6_broken : ByteArray := prog_1_method_21_code
def yX6_broken : MethodName := ⟨RX6, "broken", "(I)I"⟩
abbrev cX6_point : ByteArray := prog_1_method_22_code
def yX6_point : MethodName := ⟨RX6, "point", "(IIIII)I"⟩
abbrev cX6_points : ByteArray := prog_1_method_23_code
def yX6_points : MethodName := ⟨RX6, "points", "(I)I"⟩
abbrev cX6_window : ByteArray := prog_1_method_24_code
def yX6_window : MethodName := ⟨RX6, "window", "(IIIII)I"⟩
abbrev cX6_longest : ByteArray := prog_1_method_25_code
def yX6_longest : MethodName := ⟨RX6, "longest", "(I)I"⟩
abbrev cX6_howManyHave : ByteArray := prog_1_method_26_code
def yX6_howManyHave : MethodName := ⟨RX6, "howManyHave", "(II)I"⟩
abbrev cX6_weeksOf : ByteArray := prog_1_method_27_code
def yX6_weeksOf : MethodName := ⟨RX6, "weeksOf", "(II)J"⟩
abbrev cX6_best : ByteArray := prog_1_method_28_code
def yX6_best : MethodName := ⟨RX6, "best", "(I)I"⟩
abbrev cX6_take : ByteArray := prog_1_method_29_code
def yX6_take : MethodName := ⟨RX6, "take", "()I"⟩
abbrev cX6_count : ByteArray := prog_1_method_30_code
def yX6_count : MethodName := ⟨RX6, "count", "(I)I"⟩
abbrev cX6_isBelow : ByteArray := prog_1_method_31_code
def yX6_isBelow : MethodName := ⟨RX6, "isBelow", "(II)Z"⟩
abbrev cX6_isCell : ByteArray := prog_1_method_32_code
def yX6_isCell : MethodName := ⟨RX6, "isCell", "(III)Z"⟩
abbrev cX6_cellOf : ByteArray := prog_1_method_33_code
def yX6_cellOf : MethodName := ⟨RX6, "cellOf", "(III)I"⟩
abbrev cX6_landOf : ByteArray := prog_1_method_34_code
def yX6_landOf : MethodName := ⟨RX6, "landOf", "(I)I"⟩
abbrev cX6_tongueOf : ByteArray := prog_1_method_35_code
def yX6_tongueOf : MethodName := ⟨RX6, "tongueOf", "(I)I"⟩
abbrev cX6_meansOf : ByteArray := prog_1_method_36_code
def yX6_meansOf : MethodName := ⟨RX6, "meansOf", "(I)I"⟩
abbrev cX6_has : ByteArray := prog_1_method_37_code
def yX6_has : MethodName := ⟨RX6, "has", "(II)Z"⟩
abbrev cX6_isSetBelow : ByteArray := prog_1_method_38_code
def yX6_isSetBelow : MethodName := ⟨RX6, "isSetBelow", "(II)Z"⟩
abbrev cX6_hasWeek : ByteArray := prog_1_method_39_code
def yX6_hasWeek : MethodName := ⟨RX6, "hasWeek", "(JI)Z"⟩
abbrev cX6_weeksFromTo : ByteArray := prog_1_method_40_code
def yX6_weeksFromTo : MethodName := ⟨RX6, "weeksFromTo", "(II)J"⟩
abbrev cX6_windowStarts : ByteArray := prog_1_method_41_code
def yX6_windowStarts : MethodName := ⟨RX6, "windowStarts", "(J)J"⟩
abbrev cX6_kthWeek : ByteArray := prog_1_method_42_code
def yX6_kthWeek : MethodName := ⟨RX6, "kthWeek", "(JI)I"⟩
abbrev cX6_windowLength : ByteArray := prog_1_method_43_code
def yX6_windowLength : MethodName := ⟨RX6, "windowLength", "(JI)I"⟩
abbrev cX6_longestStart : ByteArray := prog_1_method_44_code
def yX6_longestStart : MethodName := ⟨RX6, "longestStart", "(J)I"⟩
def RX7 : String := "ShowRightsModel"
def TX7 : u_T := fun k => match k with
  | 0 => ("ShowRightsModel", "text", "[I", true)
  | 1 => ("ShowRightsModel", "letters", "I", false)
  | 2 => ("ShowRightsModel", "at", "I", false)
  | 3 => ("ShowRightsModel", "readOffers", "[I", true)
  | 4 => ("ShowRightsModel", "readHolds", "[I", true)
  | 5 => ("ShowRightsModel", "readMany", "I", false)
  | 6 => ("ShowRightsModel", "readHeld", "I", false)
  | 7 => ("ShowRightsModel", "readFrom", "I", false)
  | 8 => ("ShowRightsModel", "readTo", "I", false)
  | 9 => ("ShowRightsModel", "offers", "[I", true)
  | 10 => ("ShowRightsModel", "holds", "[I", true)
  | 11 => ("ShowRightsModel", "many", "I", false)
  | 12 => ("ShowRightsModel", "held", "I", false)
  | 13 => ("ShowRightsModel", "from", "I", false)
  | 14 => ("ShowRightsModel", "to", "I", false)
  | 15 => ("ShowRightsModel", "now", "[I", true)
  | 16 => ("ShowRightsModel", "past", "[I", true)
  | 17 => ("ShowRightsModel", "changes", "I", false)
  | 18 => ("ShowRightsModel", "numbers", "[I", true)
  | 19 => ("ShowRightsModel", "windowFrom", "I", false)
  | 20 => ("ShowRightsModel", "windowTo", "I", false)
  | _ => ("ShowRightsModel", "bestPrice", "I", false)
def tyX7 : Nat → FieldType := fun k => match k with
  | 0 => .array .int
  | 1 => .int
  | 2 => .int
  | 3 => .array .int
  | 4 => .array .int
  | 5 => .int
  | 6 => .int
  | 7 => .int
  | 8 => .int
  | 9 => .array .int
  | 10 => .array .int
  | 11 => .int
  | 12 => .int
  | 13 => .int
  | 14 => .int
  | 15 => .array .int
  | 16 => .array .int
  | 17 => .int
  | 18 => .array .int
  | 19 => .int
  | 20 => .int
  | _ => .int
theorem nmX7 : ∀ a, a < 22 → ∀ b, b < 22 → a ≠ b → (TX7 a).2.1 ≠ (TX7 b).2.1 := by decide +kernel
theorem tyX7_ok : ∀ k, k < 22 → parseFieldDescriptor (TX7 k).2.2.1 = some (tyX7 k) := by decide +kernel
abbrev cX7_init : ByteArray := prog_9_method_1_code
def yX7_init : MethodName := ⟨RX7, "<init>", "()V"⟩
abbrev cX7_in : ByteArray := prog_9_method_2_code
def yX7_in : MethodName := ⟨RX7, "in", "(III)Z"⟩
abbrev cX7_beginRead : ByteArray := prog_9_method_3_code
def yX7_beginRead : MethodName := ⟨RX7, "beginRead", "()V"⟩
abbrev cX7_putOffer : ByteArray := prog_9_method_4_code
def yX7_putOffer : MethodName := ⟨RX7, "putOffer", "(IIIIIII)V"⟩
abbrev cX7_putHold : ByteArray := prog_9_method_5_code
def yX7_putHold : MethodName := ⟨RX7, "putHold", "(III)V"⟩
abbrev cX7_takeRead : ByteArray := prog_9_method_6_code
def yX7_takeRead : MethodName := ⟨RX7, "takeRead", "()V"⟩
abbrev cX7_isFigure : ByteArray := prog_9_method_7_code
def yX7_isFigure : MethodName := ⟨RX7, "isFigure", "()Z"⟩
abbrev cX7_readNumbers : ByteArray := prog_9_method_8_code
def yX7_readNumbers : MethodName := ⟨RX7, "readNumbers", "(I)Z"⟩
abbrev cX7_readTerm : ByteArray := prog_9_method_9_code
def yX7_readTerm : MethodName := ⟨RX7, "readTerm", "()Z"⟩
abbrev cX7_readOffer : ByteArray := prog_9_method_10_code
def yX7_readOffer : MethodName := ⟨RX7, "readOffer", "()Z"⟩
abbrev cX7_readHold : ByteArray := prog_9_method_11_code
def yX7_readHold : MethodName := ⟨RX7, "readHold", "()Z"⟩
abbrev cX7_readText : ByteArray := prog_9_method_12_code
def yX7_readText : MethodName := ⟨RX7, "readText", "()I"⟩
abbrev cX7_write : ByteArray := prog_9_method_13_code
def yX7_write : MethodName := ⟨RX7, "write", "(I)I"⟩
abbrev cX7_wipe : ByteArray := prog_9_method_14_code
def yX7_wipe : MethodName := ⟨RX7, "wipe", "()I"⟩
abbrev cX7_fault : ByteArray := prog_9_method_15_code
def yX7_fault : MethodName := ⟨RX7, "fault", "()I"⟩
abbrev cX7_lay : ByteArray := prog_9_method_16_code
def yX7_lay : MethodName := ⟨RX7, "lay", "()I"⟩
abbrev cX7_isOffer : ByteArray := prog_9_method_17_code
def yX7_isOffer : MethodName := ⟨RX7, "isOffer", "(I)Z"⟩
abbrev cX7_of : ByteArray := prog_9_method_18_code
def yX7_of : MethodName := ⟨RX7, "of", "(II)I"⟩
abbrev cX7_isSigned : ByteArray := prog_9_method_19_code
def yX7_isSigned : MethodName := ⟨RX7, "isSigned", "(I)Z"⟩
abbrev cX7_ones : ByteArray := prog_9_method_20_code
def yX7_ones : MethodName := ⟨RX7, "ones", "(I)I"⟩
abbrev cX7_commonOf : ByteArray := prog_9_method_21_code
def yX7_commonOf : MethodName := ⟨RX7, "commonOf", "(II)I"⟩
abbrev cX7_doClash : ByteArray := prog_9_method_22_code
def yX7_doClash : MethodName := ⟨RX7, "doClash", "(II)Z"⟩
abbrev cX7_isOfTerm : ByteArray := prog_9_method_23_code
def yX7_isOfTerm : MethodName := ⟨RX7, "isOfTerm", "(I)Z"⟩
abbrev cX7_beginOf : ByteArray := prog_9_method_24_code
def yX7_beginOf : MethodName := ⟨RX7, "beginOf", "(III)I"⟩
abbrev cX7_brokenBy : ByteArray := prog_9_method_25_code
def yX7_brokenBy : MethodName := ⟨RX7, "brokenBy", "(II)I"⟩
abbrev cX7_areKept : ByteArray := prog_9_method_26_code
def yX7_areKept : MethodName := ⟨RX7, "areKept", "(I)Z"⟩
abbrev cX7_clashOf : ByteArray := prog_9_method_27_code
def yX7_clashOf : MethodName := ⟨RX7, "clashOf", "(I)I"⟩
abbrev cX7_whyOf : ByteArray := prog_9_method_28_code
def yX7_whyOf : MethodName := ⟨RX7, "whyOf", "(I)I"⟩
abbrev cX7_note : ByteArray := prog_9_method_29_code
def yX7_note : MethodName := ⟨RX7, "note", "()V"⟩
abbrev cX7_undo : ByteArray := prog_9_method_30_code
def yX7_undo : MethodName := ⟨RX7, "undo", "()I"⟩
abbrev cX7_sign : ByteArray := prog_9_method_31_code
def yX7_sign : MethodName := ⟨RX7, "sign", "(I)I"⟩
abbrev cX7_why : ByteArray := prog_9_method_32_code
def yX7_why : MethodName := ⟨RX7, "why", "(I)I"⟩
abbrev cX7_clash : ByteArray := prog_9_method_33_code
def yX7_clash : MethodName := ⟨RX7, "clash", "(I)I"⟩
abbrev cX7_drop : ByteArray := prog_9_method_34_code
def yX7_drop : MethodName := ⟨RX7, "drop", "(I)I"⟩
abbrev cX7_move : ByteArray := prog_9_method_35_code
def yX7_move : MethodName := ⟨RX7, "move", "(II)I"⟩
abbrev cX7_soonest : ByteArray := prog_9_method_36_code
def yX7_soonest : MethodName := ⟨RX7, "soonest", "(I)I"⟩
abbrev cX7_offer : ByteArray := prog_9_method_37_code
def yX7_offer : MethodName := ⟨RX7, "offer", "(II)I"⟩
abbrev cX7_common : ByteArray := prog_9_method_38_code
def yX7_common : MethodName := ⟨RX7, "common", "(II)I"⟩
abbrev cX7_begin : ByteArray := prog_9_method_39_code
def yX7_begin : MethodName := ⟨RX7, "begin", "(II)I"⟩
abbrev cX7_broken : ByteArray := prog_9_method_40_code
def yX7_broken : MethodName := ⟨RX7, "broken", "(I)I"⟩
abbrev cX7_has : ByteArray := prog_9_method_41_code
def yX7_has : MethodName := ⟨RX7, "has", "(III)Z"⟩
abbrev cX7_soldAt : ByteArray := prog_9_method_42_code
def yX7_soldAt : MethodName := ⟨RX7, "soldAt", "(II)I"⟩
abbrev cX7_isAloneAt : ByteArray := prog_9_method_43_code
def yX7_isAloneAt : MethodName := ⟨RX7, "isAloneAt", "(II)Z"⟩
abbrev cX7_isRow : ByteArray := prog_9_method_44_code
def yX7_isRow : MethodName := ⟨RX7, "isRow", "(III)Z"⟩
abbrev cX7_point : ByteArray := prog_9_method_45_code
def yX7_point : MethodName := ⟨RX7, "point", "(IIIII)I"⟩
abbrev cX7_points : ByteArray := prog_9_method_46_code
def yX7_points : MethodName := ⟨RX7, "points", "(I)I"⟩
abbrev cX7_findWindow : ByteArray := prog_9_method_47_code
def yX7_findWindow : MethodName := ⟨RX7, "findWindow", "(II)Z"⟩
abbrev cX7_window : ByteArray := prog_9_method_48_code
def yX7_window : MethodName := ⟨RX7, "window", "(IIIII)I"⟩
abbrev cX7_longest : ByteArray := prog_9_method_49_code
def yX7_longest : MethodName := ⟨RX7, "longest", "(I)I"⟩
abbrev cX7_isGood : ByteArray := prog_9_method_50_code
def yX7_isGood : MethodName := ⟨RX7, "isGood", "(I)Z"⟩
abbrev cX7_pricesOf : ByteArray := prog_9_method_51_code
def yX7_pricesOf : MethodName := ⟨RX7, "pricesOf", "(I)I"⟩
abbrev cX7_findBest : ByteArray := prog_9_method_52_code
def yX7_findBest : MethodName := ⟨RX7, "findBest", "()I"⟩
abbrev cX7_best : ByteArray := prog_9_method_53_code
def yX7_best : MethodName := ⟨RX7, "best", "(I)I"⟩
abbrev cX7_take : ByteArray := prog_9_method_54_code
def yX7_take : MethodName := ⟨RX7, "take", "()I"⟩
abbrev cX7_count : ByteArray := prog_9_method_55_code
def yX7_count : MethodName := ⟨RX7, "count", "(I)I"⟩
def RJ6 : String := "java/lang/Integer"
abbrev cJ6_bitCount_0f7a4 : ByteArray := prog_10_method_49_code
def yJ6_bitCount_0f7a4 : MethodName := ⟨RJ6, "bitCount", "(I)I"⟩
def RJ13 : String := "java/lang/Long"
abbrev cJ13_bitCount_95d88 : ByteArray := prog_11_method_50_code
def yJ13_bitCount_95d88 : MethodName := ⟨RJ13, "bitCount", "(J)I"⟩
def RJ0 : String := "java/lang/String"
abbrev cJ0_length_8abf5 : ByteArray := prog_12_method_54_code
def yJ0_length_8abf5 : MethodName := ⟨RJ0, "length", "()I"⟩
abbrev cJ0_charAt_5068e : ByteArray := prog_12_method_56_code
def yJ0_charAt_5068e : MethodName := ⟨RJ0, "charAt", "(I)C"⟩
abbrev cJ0_coder_7d493 : ByteArray := prog_12_method_152_code
def yJ0_coder_7d493 : MethodName := ⟨RJ0, "coder", "()B"⟩
abbrev cJ0_isLatin1_aae02 : ByteArray := prog_12_method_154_code
def yJ0_isLatin1_aae02 : MethodName := ⟨RJ0, "isLatin1", "()Z"⟩
abbrev cJ0_checkIndex_df160 : ByteArray := prog_12_method_155_code
def yJ0_checkIndex_df160 : MethodName := ⟨RJ0, "checkIndex", "(II)V"⟩
def RJ1 : String := "java/lang/StringLatin1"
abbrev cJ1_charAt_3b067 : ByteArray := prog_13_method_2_code
def yJ1_charAt_3b067 : MethodName := ⟨RJ1, "charAt", "([BI)C"⟩
def RJ2 : String := "java/lang/StringUTF16"
abbrev cJ2_getChar_3b067 : ByteArray := prog_14_method_5_code
def yJ2_getChar_3b067 : MethodName := ⟨RJ2, "getChar", "([BI)C"⟩
abbrev cJ2_length_9d52b : ByteArray := prog_14_method_6_code
def yJ2_length_9d52b : MethodName := ⟨RJ2, "length", "([B)I"⟩
abbrev cJ2_charAt_3b067 : ByteArray := prog_14_method_83_code
def yJ2_charAt_3b067 : MethodName := ⟨RJ2, "charAt", "([BI)C"⟩
abbrev cJ2_checkIndex_2214a : ByteArray := prog_14_method_91_code
def yJ2_checkIndex_2214a : MethodName := ⟨RJ2, "checkIndex", "(I[B)V"⟩
def RJ3 : String := "jdk/internal/util/Preconditions"
abbrev cJ3_checkIndex_8e157 : ByteArray := prog_15_method_11_code
def yJ3_checkIndex_8e157 : MethodName := ⟨RJ3, "checkIndex", "(IILjava/util/function/BiFunction;)I"⟩
def RL : String := "ShowRightsLaw"
abbrev cL_law : ByteArray := code
def yL_law : MethodName := ⟨RL, "law", "([I)Z"⟩
abbrev vwCl : List vw_C := [(RX0, TX0, 6), (RX1, TX1, 3), (RX2, TX2, 2), (RX3, TX3, 3), (RX4, TX4, 8), (RX5, TX5, 1), (RX6, TX6, 7), (RX7, TX7, 22)]
