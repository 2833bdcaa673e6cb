section
-- ===== PART A: goes FIRST, ahead of the names: the tables' words, and 'selects' of the private methods out of them =====
/-- a private method of a class that the tables say can be made, by its rows of tables_1 -/
def lw_okq (q : MethodName × Nat) : Prop := (q.1.cls ≠ "java/lang/invoke/MethodHandle" ∧ q.1.cls ≠ "java/lang/invoke/VarHandle") ∧ Cond.instantiable q.1.cls q.2 ∈ tables_1 ∧ Cond.privateMethod q.1 ∈ tables_1 ∧ Cond.instanceMethod q.1 ∈ tables_1
theorem lw_p0 : lw_okq (⟨"ShowRights", "layText", "()I"⟩, 7) := ⟨⟨by decide +kernel, by decide +kernel⟩, List.mem_of_getElem? (i := 16) (by decide +kernel), List.mem_of_getElem? (i := 212) (by decide +kernel), List.mem_of_getElem? (i := 213) (by decide +kernel)⟩
theorem lw_p1 : lw_okq (⟨"ShowRights$Reader", "readItem", "(LShowRights$Book;[CII)Z"⟩, 1) := ⟨⟨by decide +kernel, by decide +kernel⟩, List.mem_of_getElem? (i := 24) (by decide +kernel), List.mem_of_getElem? (i := 224) (by decide +kernel), List.mem_of_getElem? (i := 225) (by decide +kernel)⟩
theorem lw_p2 : lw_okq (⟨"ShowRights$Reader", "readNumbers", "([CII)I"⟩, 1) := ⟨⟨by decide +kernel, by decide +kernel⟩, List.mem_of_getElem? (i := 24) (by decide +kernel), List.mem_of_getElem? (i := 228) (by decide +kernel), List.mem_of_getElem? (i := 229) (by decide +kernel)⟩
theorem lw_p3 : lw_okq (⟨"ShowRights", "isOffer", "(I)Z"⟩, 7) := ⟨⟨by decide +kernel, by decide +kernel⟩, List.mem_of_getElem? (i := 16) (by decide +kernel), List.mem_of_getElem? (i := 303) (by decide +kernel), List.mem_of_getElem? (i := 304) (by decide +kernel)⟩
theorem lw_p4 : lw_okq (⟨"ShowRights", "whatSpeaksAgainst", "(I)I"⟩, 7) := ⟨⟨by decide +kernel, by decide +kernel⟩, List.mem_of_getElem? (i := 16) (by decide +kernel), List.mem_of_getElem? (i := 307) (by decide +kernel), List.mem_of_getElem? (i := 308) (by decide +kernel)⟩
theorem lw_p5 : lw_okq (⟨"ShowRights", "isSigned", "(I)Z"⟩, 7) := ⟨⟨by decide +kernel, by decide +kernel⟩, List.mem_of_getElem? (i := 16) (by decide +kernel), List.mem_of_getElem? (i := 311) (by decide +kernel), List.mem_of_getElem? (i := 312) (by decide +kernel)⟩
theorem lw_p6 : lw_okq (⟨"ShowRights$Book", "isKept", "(ILShowRights$Hold;I)Z"⟩, 6) := ⟨⟨by decide +kernel, by decide +kernel⟩, List.mem_of_getElem? (i := 36) (by decide +kernel), List.mem_of_getElem? (i := 349) (by decide +kernel), List.mem_of_getElem? (i := 350) (by decide +kernel)⟩
theorem lw_p7 : lw_okq (⟨"ShowRights", "remember", "(I)V"⟩, 7) := ⟨⟨by decide +kernel, by decide +kernel⟩, List.mem_of_getElem? (i := 16) (by decide +kernel), List.mem_of_getElem? (i := 357) (by decide +kernel), List.mem_of_getElem? (i := 358) (by decide +kernel)⟩
theorem lw_p8 : lw_okq (⟨"ShowRights$History", "loseOldest", "()V"⟩, 2) := ⟨⟨by decide +kernel, by decide +kernel⟩, List.mem_of_getElem? (i := 129) (by decide +kernel), List.mem_of_getElem? (i := 365) (by decide +kernel), List.mem_of_getElem? (i := 366) (by decide +kernel)⟩
theorem lw_p9 : lw_okq (⟨"ShowRights", "howManyHave", "(II)I"⟩, 7) := ⟨⟨by decide +kernel, by decide +kernel⟩, List.mem_of_getElem? (i := 16) (by decide +kernel), List.mem_of_getElem? (i := 459) (by decide +kernel), List.mem_of_getElem? (i := 460) (by decide +kernel)⟩
theorem lw_p10 : lw_okq (⟨"ShowRights", "weeksOf", "(II)J"⟩, 7) := ⟨⟨by decide +kernel, by decide +kernel⟩, List.mem_of_getElem? (i := 16) (by decide +kernel), List.mem_of_getElem? (i := 481) (by decide +kernel), List.mem_of_getElem? (i := 482) (by decide +kernel)⟩
theorem lw_p11 : lw_okq (⟨"ShowRights$Book", "outsideTerm", "()I"⟩, 6) := ⟨⟨by decide +kernel, by decide +kernel⟩, List.mem_of_getElem? (i := 36) (by decide +kernel), List.mem_of_getElem? (i := 523) (by decide +kernel), List.mem_of_getElem? (i := 524) (by decide +kernel)⟩
theorem lw_p12 : lw_okq (⟨"ShowRights$Book", "isWithoutClash", "(I)Z"⟩, 6) := ⟨⟨by decide +kernel, by decide +kernel⟩, List.mem_of_getElem? (i := 36) (by decide +kernel), List.mem_of_getElem? (i := 533) (by decide +kernel), List.mem_of_getElem? (i := 534) (by decide +kernel)⟩
theorem lw_p13 : lw_okq (⟨"ShowRightsModel", "beginRead", "()V"⟩, 22) := ⟨⟨by decide +kernel, by decide +kernel⟩, List.mem_of_getElem? (i := 552) (by decide +kernel), List.mem_of_getElem? (i := 558) (by decide +kernel), List.mem_of_getElem? (i := 559) (by decide +kernel)⟩
theorem lw_p14 : lw_okq (⟨"ShowRightsModel", "putOffer", "(IIIIIII)V"⟩, 22) := ⟨⟨by decide +kernel, by decide +kernel⟩, List.mem_of_getElem? (i := 552) (by decide +kernel), List.mem_of_getElem? (i := 562) (by decide +kernel), List.mem_of_getElem? (i := 563) (by decide +kernel)⟩
theorem lw_p15 : lw_okq (⟨"ShowRightsModel", "putHold", "(III)V"⟩, 22) := ⟨⟨by decide +kernel, by decide +kernel⟩, List.mem_of_getElem? (i := 552) (by decide +kernel), List.mem_of_getElem? (i := 566) (by decide +kernel), List.mem_of_getElem? (i := 567) (by decide +kernel)⟩
def lw_privs_1 : List (MethodName × Nat) := [(⟨"ShowRights", "layText", "()I"⟩, 7), (⟨"ShowRights$Reader", "readItem", "(LShowRights$Book;[CII)Z"⟩, 1), (⟨"ShowRights$Reader", "readNumbers", "([CII)I"⟩, 1), (⟨"ShowRights", "isOffer", "(I)Z"⟩, 7), (⟨"ShowRights", "whatSpeaksAgainst", "(I)I"⟩, 7), (⟨"ShowRights", "isSigned", "(I)Z"⟩, 7), (⟨"ShowRights$Book", "isKept", "(ILShowRights$Hold;I)Z"⟩, 6), (⟨"ShowRights", "remember", "(I)V"⟩, 7), (⟨"ShowRights$History", "loseOldest", "()V"⟩, 2), (⟨"ShowRights", "howManyHave", "(II)I"⟩, 7), (⟨"ShowRights", "weeksOf", "(II)J"⟩, 7), (⟨"ShowRights$Book", "outsideTerm", "()I"⟩, 6), (⟨"ShowRights$Book", "isWithoutClash", "(I)Z"⟩, 6), (⟨"ShowRightsModel", "beginRead", "()V"⟩, 22), (⟨"ShowRightsModel", "putOffer", "(IIIIIII)V"⟩, 22), (⟨"ShowRightsModel", "putHold", "(III)V"⟩, 22)]
theorem lw_r1 : ∀ q ∈ lw_privs_1, lw_okq q := List.forall_mem_cons.mpr ⟨lw_p0, List.forall_mem_cons.mpr ⟨lw_p1, List.forall_mem_cons.mpr ⟨lw_p2, List.forall_mem_cons.mpr ⟨lw_p3, List.forall_mem_cons.mpr ⟨lw_p4, List.forall_mem_cons.mpr ⟨lw_p5, List.forall_mem_cons.mpr ⟨lw_p6, List.forall_mem_cons.mpr ⟨lw_p7, List.forall_mem_cons.mpr ⟨lw_p8, List.forall_mem_cons.mpr ⟨lw_p9, List.forall_mem_cons.mpr ⟨lw_p10, List.forall_mem_cons.mpr ⟨lw_p11, List.forall_mem_cons.mpr ⟨lw_p12, List.forall_mem_cons.mpr ⟨lw_p13, List.forall_mem_cons.mpr ⟨lw_p14, List.forall_mem_cons.mpr ⟨lw_p15, fun _ h => absurd h List.not_mem_nil⟩⟩⟩⟩⟩⟩⟩⟩⟩⟩⟩⟩⟩⟩⟩⟩
theorem lw_p16 : lw_okq (⟨"ShowRightsModel", "takeRead", "()V"⟩, 22) := ⟨⟨by decide +kernel, by decide +kernel⟩, List.mem_of_getElem? (i := 552) (by decide +kernel), List.mem_of_getElem? (i := 570) (by decide +kernel), List.mem_of_getElem? (i := 571) (by decide +kernel)⟩
theorem lw_p17 : lw_okq (⟨"ShowRightsModel", "readText", "()I"⟩, 22) := ⟨⟨by decide +kernel, by decide +kernel⟩, List.mem_of_getElem? (i := 552) (by decide +kernel), List.mem_of_getElem? (i := 656) (by decide +kernel), List.mem_of_getElem? (i := 657) (by decide +kernel)⟩
theorem lw_p18 : lw_okq (⟨"ShowRightsModel", "readTerm", "()Z"⟩, 22) := ⟨⟨by decide +kernel, by decide +kernel⟩, List.mem_of_getElem? (i := 552) (by decide +kernel), List.mem_of_getElem? (i := 660) (by decide +kernel), List.mem_of_getElem? (i := 661) (by decide +kernel)⟩
theorem lw_p19 : lw_okq (⟨"ShowRightsModel", "readNumbers", "(I)Z"⟩, 22) := ⟨⟨by decide +kernel, by decide +kernel⟩, List.mem_of_getElem? (i := 552) (by decide +kernel), List.mem_of_getElem? (i := 664) (by decide +kernel), List.mem_of_getElem? (i := 665) (by decide +kernel)⟩
theorem lw_p20 : lw_okq (⟨"ShowRightsModel", "isFigure", "()Z"⟩, 22) := ⟨⟨by decide +kernel, by decide +kernel⟩, List.mem_of_getElem? (i := 552) (by decide +kernel), List.mem_of_getElem? (i := 668) (by decide +kernel), List.mem_of_getElem? (i := 669) (by decide +kernel)⟩
theorem lw_p21 : lw_okq (⟨"ShowRightsModel", "readOffer", "()Z"⟩, 22) := ⟨⟨by decide +kernel, by decide +kernel⟩, List.mem_of_getElem? (i := 552) (by decide +kernel), List.mem_of_getElem? (i := 672) (by decide +kernel), List.mem_of_getElem? (i := 673) (by decide +kernel)⟩
theorem lw_p22 : lw_okq (⟨"ShowRightsModel", "readHold", "()Z"⟩, 22) := ⟨⟨by decide +kernel, by decide +kernel⟩, List.mem_of_getElem? (i := 552) (by decide +kernel), List.mem_of_getElem? (i := 676) (by decide +kernel), List.mem_of_getElem? (i := 677) (by decide +kernel)⟩
theorem lw_p23 : lw_okq (⟨"ShowRightsModel", "isOffer", "(I)Z"⟩, 22) := ⟨⟨by decide +kernel, by decide +kernel⟩, List.mem_of_getElem? (i := 552) (by decide +kernel), List.mem_of_getElem? (i := 692) (by decide +kernel), List.mem_of_getElem? (i := 693) (by decide +kernel)⟩
theorem lw_p24 : lw_okq (⟨"ShowRightsModel", "whyOf", "(I)I"⟩, 22) := ⟨⟨by decide +kernel, by decide +kernel⟩, List.mem_of_getElem? (i := 552) (by decide +kernel), List.mem_of_getElem? (i := 696) (by decide +kernel), List.mem_of_getElem? (i := 697) (by decide +kernel)⟩
theorem lw_p25 : lw_okq (⟨"ShowRightsModel", "isSigned", "(I)Z"⟩, 22) := ⟨⟨by decide +kernel, by decide +kernel⟩, List.mem_of_getElem? (i := 552) (by decide +kernel), List.mem_of_getElem? (i := 700) (by decide +kernel), List.mem_of_getElem? (i := 701) (by decide +kernel)⟩
theorem lw_p26 : lw_okq (⟨"ShowRightsModel", "isOfTerm", "(I)Z"⟩, 22) := ⟨⟨by decide +kernel, by decide +kernel⟩, List.mem_of_getElem? (i := 552) (by decide +kernel), List.mem_of_getElem? (i := 704) (by decide +kernel), List.mem_of_getElem? (i := 705) (by decide +kernel)⟩
theorem lw_p27 : lw_okq (⟨"ShowRightsModel", "of", "(II)I"⟩, 22) := ⟨⟨by decide +kernel, by decide +kernel⟩, List.mem_of_getElem? (i := 552) (by decide +kernel), List.mem_of_getElem? (i := 708) (by decide +kernel), List.mem_of_getElem? (i := 709) (by decide +kernel)⟩
theorem lw_p28 : lw_okq (⟨"ShowRightsModel", "clashOf", "(I)I"⟩, 22) := ⟨⟨by decide +kernel, by decide +kernel⟩, List.mem_of_getElem? (i := 552) (by decide +kernel), List.mem_of_getElem? (i := 712) (by decide +kernel), List.mem_of_getElem? (i := 713) (by decide +kernel)⟩
theorem lw_p29 : lw_okq (⟨"ShowRightsModel", "doClash", "(II)Z"⟩, 22) := ⟨⟨by decide +kernel, by decide +kernel⟩, List.mem_of_getElem? (i := 552) (by decide +kernel), List.mem_of_getElem? (i := 716) (by decide +kernel), List.mem_of_getElem? (i := 717) (by decide +kernel)⟩
theorem lw_p30 : lw_okq (⟨"ShowRightsModel", "commonOf", "(II)I"⟩, 22) := ⟨⟨by decide +kernel, by decide +kernel⟩, List.mem_of_getElem? (i := 552) (by decide +kernel), List.mem_of_getElem? (i := 720) (by decide +kernel), List.mem_of_getElem? (i := 721) (by decide +kernel)⟩
theorem lw_p31 : lw_okq (⟨"ShowRightsModel", "areKept", "(I)Z"⟩, 22) := ⟨⟨by decide +kernel, by decide +kernel⟩, List.mem_of_getElem? (i := 552) (by decide +kernel), List.mem_of_getElem? (i := 727) (by decide +kernel), List.mem_of_getElem? (i := 728) (by decide +kernel)⟩
def lw_privs_2 : List (MethodName × Nat) := [(⟨"ShowRightsModel", "takeRead", "()V"⟩, 22), (⟨"ShowRightsModel", "readText", "()I"⟩, 22), (⟨"ShowRightsModel", "readTerm", "()Z"⟩, 22), (⟨"ShowRightsModel", "readNumbers", "(I)Z"⟩, 22), (⟨"ShowRightsModel", "isFigure", "()Z"⟩, 22), (⟨"ShowRightsModel", "readOffer", "()Z"⟩, 22), (⟨"ShowRightsModel", "readHold", "()Z"⟩, 22), (⟨"ShowRightsModel", "isOffer", "(I)Z"⟩, 22), (⟨"ShowRightsModel", "whyOf", "(I)I"⟩, 22), (⟨"ShowRightsModel", "isSigned", "(I)Z"⟩, 22), (⟨"ShowRightsModel", "isOfTerm", "(I)Z"⟩, 22), (⟨"ShowRightsModel", "of", "(II)I"⟩, 22), (⟨"ShowRightsModel", "clashOf", "(I)I"⟩, 22), (⟨"ShowRightsModel", "doClash", "(II)Z"⟩, 22), (⟨"ShowRightsModel", "commonOf", "(II)I"⟩, 22), (⟨"ShowRightsModel", "areKept", "(I)Z"⟩, 22)]
theorem lw_r2 : ∀ q ∈ lw_privs_2, lw_okq q := List.forall_mem_cons.mpr ⟨lw_p16, List.forall_mem_cons.mpr ⟨lw_p17, List.forall_mem_cons.mpr ⟨lw_p18, List.forall_mem_cons.mpr ⟨lw_p19, List.forall_mem_cons.mpr ⟨lw_p20, List.forall_mem_cons.mpr ⟨lw_p21, List.forall_mem_cons.mpr ⟨lw_p22, List.forall_mem_cons.mpr ⟨lw_p23, List.forall_mem_cons.mpr ⟨lw_p24, List.forall_mem_cons.mpr ⟨lw_p25, List.forall_mem_cons.mpr ⟨lw_p26, List.forall_mem_cons.mpr ⟨lw_p27, List.forall_mem_cons.mpr ⟨lw_p28, List.forall_mem_cons.mpr ⟨lw_p29, List.forall_mem_cons.mpr ⟨lw_p30, List.forall_mem_cons.mpr ⟨lw_p31, fun _ h => absurd h List.not_mem_nil⟩⟩⟩⟩⟩⟩⟩⟩⟩⟩⟩⟩⟩⟩⟩⟩
theorem lw_p32 : lw_okq (⟨"ShowRightsModel", "brokenBy", "(II)I"⟩, 22) := ⟨⟨by decide +kernel, by decide +kernel⟩, List.mem_of_getElem? (i := 552) (by decide +kernel), List.mem_of_getElem? (i := 731) (by decide +kernel), List.mem_of_getElem? (i := 732) (by decide +kernel)⟩
theorem lw_p33 : lw_okq (⟨"ShowRightsModel", "beginOf", "(III)I"⟩, 22) := ⟨⟨by decide +kernel, by decide +kernel⟩, List.mem_of_getElem? (i := 552) (by decide +kernel), List.mem_of_getElem? (i := 735) (by decide +kernel), List.mem_of_getElem? (i := 736) (by decide +kernel)⟩
theorem lw_p34 : lw_okq (⟨"ShowRightsModel", "note", "()V"⟩, 22) := ⟨⟨by decide +kernel, by decide +kernel⟩, List.mem_of_getElem? (i := 552) (by decide +kernel), List.mem_of_getElem? (i := 739) (by decide +kernel), List.mem_of_getElem? (i := 740) (by decide +kernel)⟩
theorem lw_p35 : lw_okq (⟨"ShowRightsModel", "soldAt", "(II)I"⟩, 22) := ⟨⟨by decide +kernel, by decide +kernel⟩, List.mem_of_getElem? (i := 552) (by decide +kernel), List.mem_of_getElem? (i := 786) (by decide +kernel), List.mem_of_getElem? (i := 787) (by decide +kernel)⟩
theorem lw_p36 : lw_okq (⟨"ShowRightsModel", "has", "(III)Z"⟩, 22) := ⟨⟨by decide +kernel, by decide +kernel⟩, List.mem_of_getElem? (i := 552) (by decide +kernel), List.mem_of_getElem? (i := 790) (by decide +kernel), List.mem_of_getElem? (i := 791) (by decide +kernel)⟩
theorem lw_p37 : lw_okq (⟨"ShowRightsModel", "isAloneAt", "(II)Z"⟩, 22) := ⟨⟨by decide +kernel, by decide +kernel⟩, List.mem_of_getElem? (i := 552) (by decide +kernel), List.mem_of_getElem? (i := 794) (by decide +kernel), List.mem_of_getElem? (i := 795) (by decide +kernel)⟩
theorem lw_p38 : lw_okq (⟨"ShowRightsModel", "findWindow", "(II)Z"⟩, 22) := ⟨⟨by decide +kernel, by decide +kernel⟩, List.mem_of_getElem? (i := 552) (by decide +kernel), List.mem_of_getElem? (i := 806) (by decide +kernel), List.mem_of_getElem? (i := 807) (by decide +kernel)⟩
theorem lw_p39 : lw_okq (⟨"ShowRightsModel", "findBest", "()I"⟩, 22) := ⟨⟨by decide +kernel, by decide +kernel⟩, List.mem_of_getElem? (i := 552) (by decide +kernel), List.mem_of_getElem? (i := 818) (by decide +kernel), List.mem_of_getElem? (i := 819) (by decide +kernel)⟩
theorem lw_p40 : lw_okq (⟨"ShowRightsModel", "pricesOf", "(I)I"⟩, 22) := ⟨⟨by decide +kernel, by decide +kernel⟩, List.mem_of_getElem? (i := 552) (by decide +kernel), List.mem_of_getElem? (i := 822) (by decide +kernel), List.mem_of_getElem? (i := 823) (by decide +kernel)⟩
theorem lw_p41 : lw_okq (⟨"ShowRightsModel", "isGood", "(I)Z"⟩, 22) := ⟨⟨by decide +kernel, by decide +kernel⟩, List.mem_of_getElem? (i := 552) (by decide +kernel), List.mem_of_getElem? (i := 826) (by decide +kernel), List.mem_of_getElem? (i := 827) (by decide +kernel)⟩
def lw_privs_3 : List (MethodName × Nat) := [(⟨"ShowRightsModel", "brokenBy", "(II)I"⟩, 22), (⟨"ShowRightsModel", "beginOf", "(III)I"⟩, 22), (⟨"ShowRightsModel", "note", "()V"⟩, 22), (⟨"ShowRightsModel", "soldAt", "(II)I"⟩, 22), (⟨"ShowRightsModel", "has", "(III)Z"⟩, 22), (⟨"ShowRightsModel", "isAloneAt", "(II)Z"⟩, 22), (⟨"ShowRightsModel", "findWindow", "(II)Z"⟩, 22), (⟨"ShowRightsModel", "findBest", "()I"⟩, 22), (⟨"ShowRightsModel", "pricesOf", "(I)I"⟩, 22), (⟨"ShowRightsModel", "isGood", "(I)Z"⟩, 22)]
theorem lw_r3 : ∀ q ∈ lw_privs_3, lw_okq q := List.forall_mem_cons.mpr ⟨lw_p32, List.forall_mem_cons.mpr ⟨lw_p33, List.forall_mem_cons.mpr ⟨lw_p34, List.forall_mem_cons.mpr ⟨lw_p35, List.forall_mem_cons.mpr ⟨lw_p36, List.forall_mem_cons.mpr ⟨lw_p37, List.forall_mem_cons.mpr ⟨lw_p38, List.forall_mem_cons.mpr ⟨lw_p39, List.forall_mem_cons.mpr ⟨lw_p40, List.forall_mem_cons.mpr ⟨lw_p41, fun _ h => absurd h List.not_mem_nil⟩⟩⟩⟩⟩⟩⟩⟩⟩⟩
def lw_privs : List (MethodName × Nat) := lw_privs_1 ++ (lw_privs_2 ++ (lw_privs_3))
def lw_tbl : List Cond := k2_sels lw_privs ++ tables_1
theorem lw_privs_ok : ∀ q ∈ lw_privs, lw_okq q := by
  show ∀ q ∈ lw_privs_1 ++ (lw_privs_2 ++ (lw_privs_3)), lw_okq q
  exact List.forall_mem_append.mpr ⟨lw_r1, List.forall_mem_append.mpr ⟨lw_r2, lw_r3⟩⟩
def RX0 : String := "ShowRights$Book"
def TX0 : u_T := fun k => match k with
  | 0 => ("ShowRights$Book", "offers", "[LShowRights$Offer;", true)
  | 1 => ("ShowRights$Book", "offerCount", "I", false)
  | 2 => ("ShowRights$Book", "holds", "[LShowRights$Hold;", true)
  | 3 => ("ShowRights$Book", "holdCount", "I", false)
  | 4 => ("ShowRights$Book", "termFirst", "I", false)
  | _ => ("ShowRights$Book", "termLast", "I", false)
def tyX0 : Nat → FieldType := fun k => match k with
  | 0 => .array (.object "ShowRights$Offer")
  | 1 => .int
  | 2 => .array (.object "ShowRights$Hold")
  | 3 => .int
  | 4 => .int
  | _ => .int
theorem nmX0 : ∀ a, a < 6 → ∀ b, b < 6 → a ≠ b → (TX0 a).2.1 ≠ (TX0 b).2.1 := by decide +kernel
theorem tyX0_ok : ∀ k, k < 6 → parseFieldDescriptor (TX0 k).2.2.1 = some (tyX0 k) := by decide +kernel
abbrev cX0_init : ByteArray := prog_2_method_1_code
def yX0_init : MethodName := ⟨RX0, "<init>", "()V"⟩
abbrev cX0_clear : ByteArray := prog_2_method_2_code
def yX0_clear : MethodName := ⟨RX0, "clear", "()V"⟩
abbrev cX0_isSpan : ByteArray := prog_2_method_3_code
def yX0_isSpan : MethodName := ⟨RX0, "isSpan", "(II)Z"⟩
abbrev cX0_setTerm : ByteArray := prog_2_method_4_code
def yX0_setTerm : MethodName := ⟨RX0, "setTerm", "(II)Z"⟩
abbrev cX0_addOffer : ByteArray := prog_2_method_5_code
def yX0_addOffer : MethodName := ⟨RX0, "addOffer", "([I)Z"⟩
abbrev cX0_isOfferTold : ByteArray := prog_2_method_6_code
def yX0_isOfferTold : MethodName := ⟨RX0, "isOfferTold", "([I)Z"⟩
abbrev cX0_addHold : ByteArray := prog_2_method_7_code
def yX0_addHold : MethodName := ⟨RX0, "addHold", "(III)Z"⟩
abbrev cX0_isWithinTerm : ByteArray := prog_2_method_8_code
def yX0_isWithinTerm : MethodName := ⟨RX0, "isWithinTerm", "(I)Z"⟩
abbrev cX0_lowestClash : ByteArray := prog_2_method_9_code
def yX0_lowestClash : MethodName := ⟨RX0, "lowestClash", "(II)I"⟩
abbrev cX0_clashingPairs : ByteArray := prog_2_method_10_code
def yX0_clashingPairs : MethodName := ⟨RX0, "clashingPairs", "()I"⟩
abbrev cX0_beginOf : ByteArray := prog_2_method_11_code
def yX0_beginOf : MethodName := ⟨RX0, "beginOf", "(III)I"⟩
abbrev cX0_isKept : ByteArray := prog_2_method_12_code
def yX0_isKept : MethodName := ⟨RX0, "isKept", "(ILShowRights$Hold;I)Z"⟩
abbrev cX0_areHoldsKept : ByteArray := prog_2_method_13_code
def yX0_areHoldsKept : MethodName := ⟨RX0, "areHoldsKept", "(I)Z"⟩
abbrev cX0_brokenLands : ByteArray := prog_2_method_14_code
def yX0_brokenLands : MethodName := ⟨RX0, "brokenLands", "(ILShowRights$Hold;)I"⟩
abbrev cX0_priceOf : ByteArray := prog_2_method_15_code
def yX0_priceOf : MethodName := ⟨RX0, "priceOf", "(I)I"⟩
abbrev cX0_bestSet : ByteArray := prog_2_method_16_code
def yX0_bestSet : MethodName := ⟨RX0, "bestSet", "()I"⟩
abbrev cX0_outsideTerm : ByteArray := prog_2_method_17_code
def yX0_outsideTerm : MethodName := ⟨RX0, "outsideTerm", "()I"⟩
abbrev cX0_isWithoutClash : ByteArray := prog_2_method_18_code
def yX0_isWithoutClash : MethodName := ⟨RX0, "isWithoutClash", "(I)Z"⟩
def RX1 : String := "ShowRights$Change"
def TX1 : u_T := fun k => match k with
  | 0 => ("ShowRights$Change", "signed", "I", false)
  | 1 => ("ShowRights$Change", "offer", "I", false)
  | _ => ("ShowRights$Change", "moved", "I", false)
def tyX1 : Nat → FieldType := fun k => match k with
  | 0 => .int
  | 1 => .int
  | _ => .int
theorem nmX1 : ∀ a, a < 3 → ∀ b, b < 3 → a ≠ b → (TX1 a).2.1 ≠ (TX1 b).2.1 := by decide +kernel
theorem tyX1_ok : ∀ k, k < 3 → parseFieldDescriptor (TX1 k).2.2.1 = some (tyX1 k) := by decide +kernel
abbrev cX1_init : ByteArray := prog_3_method_1_code
def yX1_init : MethodName := ⟨RX1, "<init>", "()V"⟩
def RX2 : String := "ShowRights$History"
def TX2 : u_T := fun k => match k with
  | 0 => ("ShowRights$History", "changes", "[LShowRights$Change;", true)
  | _ => ("ShowRights$History", "size", "I", false)
def tyX2 : Nat → FieldType := fun k => match k with
  | 0 => .array (.object "ShowRights$Change")
  | _ => .int
theorem nmX2 : ∀ a, a < 2 → ∀ b, b < 2 → a ≠ b → (TX2 a).2.1 ≠ (TX2 b).2.1 := by decide +kernel
theorem tyX2_ok : ∀ k, k < 2 → parseFieldDescriptor (TX2 k).2.2.1 = some (tyX2 k) := by decide +kernel
abbrev cX2_init : ByteArray := prog_4_method_1_code
def yX2_init : MethodName := ⟨RX2, "<init>", "()V"⟩
abbrev cX2_forget : ByteArray := prog_4_method_2_code
def yX2_forget : MethodName := ⟨RX2, "forget", "()V"⟩
abbrev cX2_add : ByteArray := prog_4_method_3_code
def yX2_add : MethodName := ⟨RX2, "add", "(III)V"⟩
abbrev cX2_loseOldest : ByteArray := prog_4_method_4_code
def yX2_loseOldest : MethodName := ⟨RX2, "loseOldest", "()V"⟩
abbrev cX2_takeLatest : ByteArray := prog_4_method_5_code
def yX2_takeLatest : MethodName := ⟨RX2, "takeLatest", "()LShowRights$Change;"⟩
def RX3 : String := "ShowRights$Hold"
def TX3 : u_T := fun k => match k with
  | 0 => ("ShowRights$Hold", "later", "I", false)
  | 1 => ("ShowRights$Hold", "earlier", "I", false)
  | _ => ("ShowRights$Hold", "weeks", "I", false)
def tyX3 : Nat → FieldType := fun k => match k with
  | 0 => .int
  | 1 => .int
  | _ => .int
theorem nmX3 : ∀ a, a < 3 → ∀ b, b < 3 → a ≠ b → (TX3 a).2.1 ≠ (TX3 b).2.1 := by decide +kernel
theorem tyX3_ok : ∀ k, k < 3 → parseFieldDescriptor (TX3 k).2.2.1 = some (tyX3 k) := by decide +kernel
abbrev cX3_init : ByteArray := prog_5_method_1_code
def yX3_init : MethodName := ⟨RX3, "<init>", "()V"⟩
def RX4 : String := "ShowRights$Offer"
def TX4 : u_T := fun k => match k with
  | 0 => ("ShowRights$Offer", "lands", "I", false)
  | 1 => ("ShowRights$Offer", "tongues", "I", false)
  | 2 => ("ShowRights$Offer", "means", "I", false)
  | 3 => ("ShowRights$Offer", "first", "I", false)
  | 4 => ("ShowRights$Offer", "last", "I", false)
  | 5 => ("ShowRights$Offer", "alone", "Z", false)
  | 6 => ("ShowRights$Offer", "price", "I", false)
  | _ => ("ShowRights$Offer", "moved", "I", false)
def tyX4 : Nat → FieldType := fun k => match k with
  | 0 => .int
  | 1 => .int
  | 2 => .int
  | 3 => .int
  | 4 => .int
  | 5 => .boolean
  | 6 => .int
  | _ => .int
theorem nmX4 : ∀ a, a < 8 → ∀ b, b < 8 → a ≠ b → (TX4 a).2.1 ≠ (TX4 b).2.1 := by decide +kernel
theorem tyX4_ok : ∀ k, k < 8 → parseFieldDescriptor (TX4 k).2.2.1 = some (tyX4 k) := by decide +kernel
abbrev cX4_init : ByteArray := prog_6_method_1_code
def yX4_init : MethodName := ⟨RX4, "<init>", "()V"⟩
abbrev cX4_firstNow : ByteArray := prog_6_method_2_code
def yX4_firstNow : MethodName := ⟨RX4, "firstNow", "()I"⟩
abbrev cX4_lastNow : ByteArray := prog_6_method_3_code
def yX4_lastNow : MethodName := ⟨RX4, "lastNow", "()I"⟩
abbrev cX4_farthestMove : ByteArray := prog_6_method_4_code
def yX4_farthestMove : MethodName := ⟨RX4, "farthestMove", "()I"⟩
abbrev cX4_weeksNow : ByteArray := prog_6_method_5_code
def yX4_weeksNow : MethodName := ⟨RX4, "weeksNow", "()J"⟩
abbrev cX4_hasCell : ByteArray := prog_6_method_6_code
def yX4_hasCell : MethodName := ⟨RX4, "hasCell", "(I)Z"⟩
abbrev cX4_commonPoints : ByteArray := prog_6_method_7_code
def yX4_commonPoints : MethodName := ⟨RX4, "commonPoints", "(LShowRights$Offer;)I"⟩
abbrev cX4_meets : ByteArray := prog_6_method_8_code
def yX4_meets : MethodName := ⟨RX4, "meets", "(LShowRights$Offer;)Z"⟩
abbrev cX4_clashesWith : ByteArray := prog_6_method_9_code
def yX4_clashesWith : MethodName := ⟨RX4, "clashesWith", "(LShowRights$Offer;)Z"⟩
def RX5 : String := "ShowRights$Reader"
def TX5 : u_T := fun k => match k with
  | _ => ("ShowRights$Reader", "numbers", "[I", true)
def tyX5 : Nat → FieldType := fun k => match k with
  | _ => .array .int
theorem nmX5 : ∀ a, a < 1 → ∀ b, b < 1 → a ≠ b → (TX5 a).2.1 ≠ (TX5 b).2.1 := by decide +kernel
theorem tyX5_ok : ∀ k, k < 1 → parseFieldDescriptor (TX5 k).2.2.1 = some (tyX5 k) := by decide +kernel
abbrev cX5_init : ByteArray := prog_7_method_1_code
def yX5_init : MethodName := ⟨RX5, "<init>", "()V"⟩
abbrev cX5_readInto : ByteArray := prog_7_method_2_code
def yX5_readInto : MethodName := ⟨RX5, "readInto", "(LShowRights$Book;[CI)I"⟩
abbrev cX5_readItem : ByteArray := prog_7_method_3_code
def yX5_readItem : MethodName := ⟨RX5, "readItem", "(LShowRights$Book;[CII)Z"⟩
abbrev cX5_readNumbers : ByteArray := prog_7_method_4_code
def yX5_readNumbers : MethodName := ⟨RX5, "readNumbers", "([CII)I"⟩
def RX6 : String := "ShowRights"
def TX6 : u_T := fun k => match k with
  | 0 => ("ShowRights", "text", "[C", true)
  | 1 => ("ShowRights", "letters", "I", false)
  | 2 => ("ShowRights", "reader", "LShowRights$Reader;", true)
  | 3 => ("ShowRights", "book", "LShowRights$Book;", false)
  | 4 => ("ShowRights", "draft", "LShowRights$Book;", false)
  | 5 => ("ShowRights", "signed", "I", false)
  | _ => ("ShowRights", "history", "LShowRights$History;", true)
def tyX6 : Nat → FieldType := fun k => match k with
  | 0 => .array .char
  | 1 => .int
  | 2 => .object "ShowRights$Reader"
  | 3 => .object "ShowRights$Book"
  | 4 => .object "ShowRights$Book"
  | 5 => .int
  | _ => .object "ShowRights$History"
theorem nmX6 : ∀ a, a < 7 → ∀ b, b < 7 → a ≠ b → (TX6 a).2.1 ≠ (TX6 b).2.1 := by decide +kernel
theorem tyX6_ok : ∀ k, k < 7 → parseFieldDescriptor (TX6 k).2.2.1 = some (tyX6 k) := by decide +kernel
abbrev cX6_init : ByteArray := prog_1_method_1_code
def yX6_init : MethodName := ⟨RX6, "<init>", "()V"⟩
abbrev cX6_write : ByteArray := prog_1_method_2_code
def yX6_write : MethodName := ⟨RX6, "write", "(I)I"⟩
abbrev cX6_wipe : ByteArray := prog_1_method_3_code
def yX6_wipe : MethodName := ⟨RX6, "wipe", "()I"⟩
abbrev cX6_fault : ByteArray := prog_1_method_4_code
def yX6_fault : MethodName := ⟨RX6, "fault", "()I"⟩
abbrev cX6_lay : ByteArray := prog_1_method_5_code
def yX6_lay : MethodName := ⟨RX6, "lay", "()I"⟩
abbrev cX6_layText : ByteArray := prog_1_method_6_code
def yX6_layText : MethodName := ⟨RX6, "layText", "()I"⟩
abbrev cX6_sign : ByteArray := prog_1_method_7_code
def yX6_sign : MethodName := ⟨RX6, "sign", "(I)I"⟩
abbrev cX6_why : ByteArray := prog_1_method_8_code
def yX6_why : MethodName := ⟨RX6, "why", "(I)I"⟩
abbrev cX6_clash : ByteArray := prog_1_method_9_code
def yX6_clash : MethodName := ⟨RX6, "clash", "(I)I"⟩
abbrev cX6_drop : ByteArray := prog_1_method_10_code
def yX6_drop : MethodName := ⟨RX6, "drop", "(I)I"⟩
abbrev cX6_move : ByteArray := prog_1_method_11_code
def yX6_move : MethodName := ⟨RX6, "move", "(II)I"⟩
abbrev cX6_soonest : ByteArray := prog_1_method_12_code
def yX6_soonest : MethodName := ⟨RX6, "soonest", "(I)I"⟩
abbrev cX6_undo : ByteArray := prog_1_method_13_code
def yX6_undo : MethodName := ⟨RX6, "undo", "()I"⟩
abbrev cX6_isOffer : ByteArray := prog_1_method_14_code
def yX6_isOffer : MethodName := ⟨RX6, "isOffer", "(I)Z"⟩
abbrev cX6_isSigned : ByteArray := prog_1_method_15_code
def yX6_isSigned : MethodName := ⟨RX6, "isSigned", "(I)Z"⟩
abbrev cX6_whatSpeaksAgainst : ByteArray := prog_1_method_16_code
def yX6_whatSpeaksAgainst : MethodName := ⟨RX6, "whatSpeaksAgainst", "(I)I"⟩
abbrev cX6_remember : ByteArray := prog_1_method_17_code
def yX6_remember : MethodName := ⟨RX6, "remember", "(I)V"⟩
abbrev cX6_offer : ByteArray := prog_1_method_18_code
def yX6_offer : MethodName := ⟨RX6, "offer", "(II)I"⟩
abbrev cX6_common : ByteArray := prog_1_method_19_code
def yX6_common : MethodName := ⟨RX6, "common", "(II)I"⟩
abbrev cX6_begin : ByteArray := prog_1_method_20_code
def yX6_begin : MethodName := ⟨RX6, "begin", "(II)I"⟩
abbrev cX6_broken : ByteArray := prog_1_method_21_code
def yX6_broken : MethodName := ⟨RX6, "broken", "(I)I"⟩
abbrev cX6_point : ByteArray := prog_1_method_22_code
def yX6_point : MethodName := ⟨RX6, "point", "(IIIII)I"⟩
abbrev cX6_points : ByteArray := prog_1_method_23_code
def yX6_points : MethodName := ⟨RX6, "points", "(I)I"⟩
abbrev cX6_window : ByteArray := prog_1_method_24_code
def yX6_window : MethodName := ⟨RX6, "window", "(IIIII)I"⟩
abbrev cX6_longest : ByteArray := prog_1_method_25_code
def yX6_longest : MethodName := ⟨RX6, "longest", "(I)I"⟩
abbrev cX6_howManyHave : ByteArray := prog_1_method_26_code
def yX6_howManyHave : MethodName := ⟨RX6, "howManyHave", "(II)I"⟩
abbrev cX6_weeksOf : ByteArray := prog_1_method_27_code
def yX6_weeksOf : MethodName := ⟨RX6, "weeksOf", "(II)J"⟩
abbrev cX6_best : ByteArray := prog_1_method_28_code
def yX6_best : MethodName := ⟨RX6, "best", "(I)I"⟩
abbrev cX6_take : ByteArray := prog_1_method_29_code
def yX6_take : MethodName := ⟨RX6, "take", "()I"⟩
abbrev cX6_count : ByteArray := prog_1_method_30_code
def yX6_count : MethodName := ⟨RX6, "count", "(I)I"⟩
abbrev cX6_isBelow : ByteArray := prog_1_method_31_code
def yX6_isBelow : MethodName := ⟨RX6, "isBelow", "(II)Z"⟩
abbrev cX6_isCell : ByteArray := prog_1_method_32_code
def yX6_isCell : MethodName := ⟨RX6, "isCell", "(III)Z"⟩
abbrev cX6_cellOf : ByteArray := prog_1_method_33_code
def yX6_cellOf : MethodName := ⟨RX6, "cellOf", "(III)I"⟩
abbrev cX6_landOf : ByteArray := prog_1_method_34_code
def yX6_landOf : MethodName := ⟨RX6, "landOf", "(I)I"⟩
abbrev cX6_tongueOf : ByteArray := prog_1_method_35_code
def yX6_tongueOf : MethodName := ⟨RX6, "tongueOf", "(I)I"⟩
abbrev cX6_meansOf : ByteArray := prog_1_method_36_code
def yX6_meansOf : MethodName := ⟨RX6, "meansOf", "(I)I"⟩
abbrev cX6_has : ByteArray := prog_1_method_37_code
def yX6_has : MethodName := ⟨RX6, "has", "(II)Z"⟩
abbrev cX6_isSetBelow : ByteArray := prog_1_method_38_code
def yX6_isSetBelow : MethodName := ⟨RX6, "isSetBelow", "(II)Z"⟩
abbrev cX6_hasWeek : ByteArray := prog_1_method_39_code
def yX6_hasWeek : MethodName := ⟨RX6, "hasWeek", "(JI)Z"⟩
abbrev cX6_weeksFromTo : ByteArray := prog_1_method_40_code
def yX6_weeksFromTo : MethodName := ⟨RX6, "weeksFromTo", "(II)J"⟩
abbrev cX6_windowStarts : ByteArray := prog_1_method_41_code
def yX6_windowStarts : MethodName := ⟨RX6, "windowStarts", "(J)J"⟩
abbrev cX6_kthWeek : ByteArray := prog_1_method_42_code
def yX6_kthWeek : MethodName := ⟨RX6, "kthWeek", "(JI)I"⟩
abbrev cX6_windowLength : ByteArray := prog_1_method_43_code
def yX6_windowLength : MethodName := ⟨RX6, "windowLength", "(JI)I"⟩
abbrev cX6_longestStart : ByteArray := prog_1_method_44_code
def yX6_longestStart : MethodName := ⟨RX6, "longestStart", "(J)I"⟩
def RX7 : String := "ShowRightsModel"
def TX7 : u_T := fun k => match k with
  | 0 => ("ShowRightsModel", "text", "[I", true)
  | 1 => ("ShowRightsModel", "letters", "I", false)
  | 2 => ("ShowRightsModel", "at", "I", false)
  | 3 => ("ShowRightsModel", "readOffers", "[I", true)
  | 4 => ("ShowRightsModel", "readHolds", "[I", true)
  | 5 => ("ShowRightsModel", "readMany", "I", false)
  | 6 => ("ShowRightsModel", "readHeld", "I", false)
  | 7 => ("ShowRightsModel", "readFrom", "I", false)
  | 8 => ("ShowRightsModel", "readTo", "I", false)
  | 9 => ("ShowRightsModel", "offers", "[I", true)
  | 10 => ("ShowRightsModel", "holds", "[I", true)
  | 11 => ("ShowRightsModel", "many", "I", false)
  | 12 => ("ShowRightsModel", "held", "I", false)
  | 13 => ("ShowRightsModel", "from", "I", false)
  | 14 => ("ShowRightsModel", "to", "I", false)
  | 15 => ("ShowRightsModel", "now", "[I", true)
  | 16 => ("ShowRightsModel", "past", "[I", true)
  | 17 => ("ShowRightsModel", "changes", "I", false)
  | 18 => ("ShowRightsModel", "numbers", "[I", true)
  | 19 => ("ShowRightsModel", "windowFrom", "I", false)
  | 20 => ("ShowRightsModel", "windowTo", "I", false)
  | _ => ("ShowRightsModel", "bestPrice", "I", false)
def tyX7 : Nat → FieldType := fun k => match k with
  | 0 => .array .int
  | 1 => .int
  | 2 => .int
  | 3 => .array .int
  | 4 => .array .int
  | 5 => .int
  | 6 => .int
  | 7 => .int
  | 8 => .int
  | 9 => .array .int
  | 10 => .array .int
  | 11 => .int
  | 12 => .int
  | 13 => .int
  | 14 => .int
  | 15 => .array .int
  | 16 => .array .int
  | 17 => .int
  | 18 => .array .int
  | 19 => .int
  | 20 => .int
  | _ => .int
theorem nmX7 : ∀ a, a < 22 → ∀ b, b < 22 → a ≠ b → (TX7 a).2.1 ≠ (TX7 b).2.1 := by decide +kernel
theorem tyX7_ok : ∀ k, k < 22 → parseFieldDescriptor (TX7 k).2.2.1 = some (tyX7 k) := by decide +kernel
abbrev cX7_init : ByteArray := prog_9_method_1_code
def yX7_init : MethodName := ⟨RX7, "<init>", "()V"⟩
abbrev cX7_in : ByteArray := prog_9_method_2_code
def yX7_in : MethodName := ⟨RX7, "in", "(III)Z"⟩
abbrev cX7_beginRead : ByteArray := prog_9_method_3_code
def yX7_beginRead : MethodName := ⟨RX7, "beginRead", "()V"⟩
abbrev cX7_putOffer : ByteArray := prog_9_method_4_code
def yX7_putOffer : MethodName := ⟨RX7, "putOffer", "(IIIIIII)V"⟩
abbrev cX7_putHold : ByteArray := prog_9_method_5_code
def yX7_putHold : MethodName := ⟨RX7, "putHold", "(III)V"⟩
abbrev cX7_takeRead : ByteArray := prog_9_method_6_code
def yX7_takeRead : MethodName := ⟨RX7, "takeRead", "()V"⟩
abbrev cX7_isFigure : ByteArray := prog_9_method_7_code
def yX7_isFigure : MethodName := ⟨RX7, "isFigure", "()Z"⟩
abbrev cX7_readNumbers : ByteArray := prog_9_method_8_code
def yX7_readNumbers : MethodName := ⟨RX7, "readNumbers", "(I)Z"⟩
abbrev cX7_readTerm : ByteArray := prog_9_method_9_code
def yX7_readTerm : MethodName := ⟨RX7, "readTerm", "()Z"⟩
abbrev cX7_readOffer : ByteArray := prog_9_method_10_code
def yX7_readOffer : MethodName := ⟨RX7, "readOffer", "()Z"⟩
abbrev cX7_readHold : ByteArray := prog_9_method_11_code
def yX7_readHold : MethodName := ⟨RX7, "readHold", "()Z"⟩
abbrev cX7_readText : ByteArray := prog_9_method_12_code
def yX7_readText : MethodName := ⟨RX7, "readText", "()I"⟩
abbrev cX7_write : ByteArray := prog_9_method_13_code
def yX7_write : MethodName := ⟨RX7, "write", "(I)I"⟩
abbrev cX7_wipe : ByteArray := prog_9_method_14_code
def yX7_wipe : MethodName := ⟨RX7, "wipe", "()I"⟩
abbrev cX7_fault : ByteArray := prog_9_method_15_code
def yX7_fault : MethodName := ⟨RX7, "fault", "()I"⟩
abbrev cX7_lay : ByteArray := prog_9_method_16_code
def yX7_lay : MethodName := ⟨RX7, "lay", "()I"⟩
abbrev cX7_isOffer : ByteArray := prog_9_method_17_code
def yX7_isOffer : MethodName := ⟨RX7, "isOffer", "(I)Z"⟩
abbrev cX7_of : ByteArray := prog_9_method_18_code
def yX7_of : MethodName := ⟨RX7, "of", "(II)I"⟩
abbrev cX7_isSigned : ByteArray := prog_9_method_19_code
def yX7_isSigned : MethodName := ⟨RX7, "isSigned", "(I)Z"⟩
abbrev cX7_ones : ByteArray := prog_9_method_20_code
def yX7_ones : MethodName := ⟨RX7, "ones", "(I)I"⟩
abbrev cX7_commonOf : ByteArray := prog_9_method_21_code
def yX7_commonOf : MethodName := ⟨RX7, "commonOf", "(II)I"⟩
abbrev cX7_doClash : ByteArray := prog_9_method_22_code
def yX7_doClash : MethodName := ⟨RX7, "doClash", "(II)Z"⟩
abbrev cX7_isOfTerm : ByteArray := prog_9_method_23_code
def yX7_isOfTerm : MethodName := ⟨RX7, "isOfTerm", "(I)Z"⟩
abbrev cX7_beginOf : ByteArray := prog_9_method_24_code
def yX7_beginOf : MethodName := ⟨RX7, "beginOf", "(III)I"⟩
abbrev cX7_brokenBy : ByteArray := prog_9_method_25_code
def yX7_brokenBy : MethodName := ⟨RX7, "brokenBy", "(II)I"⟩
abbrev cX7_areKept : ByteArray := prog_9_method_26_code
def yX7_areKept : MethodName := ⟨RX7, "areKept", "(I)Z"⟩
abbrev cX7_clashOf : ByteArray := prog_9_method_27_code
def yX7_clashOf : MethodName := ⟨RX7, "clashOf", "(I)I"⟩
abbrev cX7_whyOf : ByteArray := prog_9_method_28_code
def yX7_whyOf : MethodName := ⟨RX7, "whyOf", "(I)I"⟩
abbrev cX7_note : ByteArray := prog_9_method_29_code
def yX7_note : MethodName := ⟨RX7, "note", "()V"⟩
abbrev cX7_undo : ByteArray := prog_9_method_30_code
def yX7_undo : MethodName := ⟨RX7, "undo", "()I"⟩
abbrev cX7_sign : ByteArray := prog_9_method_31_code
def yX7_sign : MethodName := ⟨RX7, "sign", "(I)I"⟩
abbrev cX7_why : ByteArray := prog_9_method_32_code
def yX7_why : MethodName := ⟨RX7, "why", "(I)I"⟩
abbrev cX7_clash : ByteArray := prog_9_method_33_code
def yX7_clash : MethodName := ⟨RX7, "clash", "(I)I"⟩
abbrev cX7_drop : ByteArray := prog_9_method_34_code
def yX7_drop : MethodName := ⟨RX7, "drop", "(I)I"⟩
abbrev cX7_move : ByteArray := prog_9_method_35_code
def yX7_move : MethodName := ⟨RX7, "move", "(II)I"⟩
abbrev cX7_soonest : ByteArray := prog_9_method_36_code
def yX7_soonest : MethodName := ⟨RX7, "soonest", "(I)I"⟩
abbrev cX7_offer : ByteArray := prog_9_method_37_code
def yX7_offer : MethodName := ⟨RX7, "offer", "(II)I"⟩
abbrev cX7_common : ByteArray := prog_9_method_38_code
def yX7_common : MethodName := ⟨RX7, "common", "(II)I"⟩
abbrev cX7_begin : ByteArray := prog_9_method_39_code
def yX7_begin : MethodName := ⟨RX7, "begin", "(II)I"⟩
abbrev cX7_broken : ByteArray := prog_9_method_40_code
def yX7_broken : MethodName := ⟨RX7, "broken", "(I)I"⟩
abbrev cX7_has : ByteArray := prog_9_method_41_code
def yX7_has : MethodName := ⟨RX7, "has", "(III)Z"⟩
abbrev cX7_soldAt : ByteArray := prog_9_method_42_code
def yX7_soldAt : MethodName := ⟨RX7, "soldAt", "(II)I"⟩
abbrev cX7_isAloneAt : ByteArray := prog_9_method_43_code
def yX7_isAloneAt : MethodName := ⟨RX7, "isAloneAt", "(II)Z"⟩
abbrev cX7_isRow : ByteArray := prog_9_method_44_code
def yX7_isRow : MethodName := ⟨RX7, "isRow", "(III)Z"⟩
abbrev cX7_point : ByteArray := prog_9_method_45_code
def yX7_point : MethodName := ⟨RX7, "point", "(IIIII)I"⟩
abbrev cX7_points : ByteArray := prog_9_method_46_code
def yX7_points : MethodName := ⟨RX7, "points", "(I)I"⟩
abbrev cX7_findWindow : ByteArray := prog_9_method_47_code
def yX7_findWindow : MethodName := ⟨RX7, "findWindow", "(II)Z"⟩
abbrev cX7_window : ByteArray := prog_9_method_48_code
def yX7_window : MethodName := ⟨RX7, "window", "(IIIII)I"⟩
abbrev cX7_longest : ByteArray := prog_9_method_49_code
def yX7_longest : MethodName := ⟨RX7, "longest", "(I)I"⟩
abbrev cX7_isGood : ByteArray := prog_9_method_50_code
def yX7_isGood : MethodName := ⟨RX7, "isGood", "(I)Z"⟩
abbrev cX7_pricesOf : ByteArray := prog_9_method_51_code
def yX7_pricesOf : MethodName := ⟨RX7, "pricesOf", "(I)I"⟩
abbrev cX7_findBest : ByteArray := prog_9_method_52_code
def yX7_findBest : MethodName := ⟨RX7, "findBest", "()I"⟩
abbrev cX7_best : ByteArray := prog_9_method_53_code
def yX7_best : MethodName := ⟨RX7, "best", "(I)I"⟩
abbrev cX7_take : ByteArray := prog_9_method_54_code
def yX7_take : MethodName := ⟨RX7, "take", "()I"⟩
abbrev cX7_count : ByteArray := prog_9_method_55_code
def yX7_count : MethodName := ⟨RX7, "count", "(I)I"⟩
def RJ6 : String := "java/lang/Integer"
abbrev cJ6_bitCount_0f7a4 : ByteArray := prog_10_method_49_code
def yJ6_bitCount_0f7a4 : MethodName := ⟨RJ6, "bitCount", "(I)I"⟩
def RJ13 : String := "java/lang/Long"
abbrev cJ13_bitCount_95d88 : ByteArray := prog_11_method_50_code
def yJ13_bitCount_95d88 : MethodName := ⟨RJ13, "bitCount", "(J)I"⟩
def RJ0 : String := "java/lang/String"
abbrev cJ0_length_8abf5 : ByteArray := prog_12_method_54_code
def yJ0_length_8abf5 : MethodName := ⟨RJ0, "length", "()I"⟩
abbrev cJ0_charAt_5068e : ByteArray := prog_12_method_56_code
def yJ0_charAt_5068e : MethodName := ⟨RJ0, "charAt", "(I)C"⟩
abbrev cJ0_coder_7d493 : ByteArray := prog_12_method_152_code
def yJ0_coder_7d493 : MethodName := ⟨RJ0, "coder", "()B"⟩
abbrev cJ0_isLatin1_aae02 : ByteArray := prog_12_method_154_code
def yJ0_isLatin1_aae02 : MethodName := ⟨RJ0, "isLatin1", "()Z"⟩
abbrev cJ0_checkIndex_df160 : ByteArray := prog_12_method_155_code
def yJ0_checkIndex_df160 : MethodName := ⟨RJ0, "checkIndex", "(II)V"⟩
def RJ1 : String := "java/lang/StringLatin1"
abbrev cJ1_charAt_3b067 : ByteArray := prog_13_method_2_code
def yJ1_charAt_3b067 : MethodName := ⟨RJ1, "charAt", "([BI)C"⟩
def RJ2 : String := "java/lang/StringUTF16"
abbrev cJ2_getChar_3b067 : ByteArray := prog_14_method_5_code
def yJ2_getChar_3b067 : MethodName := ⟨RJ2, "getChar", "([BI)C"⟩
abbrev cJ2_length_9d52b : ByteArray := prog_14_method_6_code
def yJ2_length_9d52b : MethodName := ⟨RJ2, "length", "([B)I"⟩
abbrev cJ2_charAt_3b067 : ByteArray := prog_14_method_83_code
def yJ2_charAt_3b067 : MethodName := ⟨RJ2, "charAt", "([BI)C"⟩
abbrev cJ2_checkIndex_2214a : ByteArray := prog_14_method_91_code
def yJ2_checkIndex_2214a : MethodName := ⟨RJ2, "checkIndex", "(I[B)V"⟩
def RJ3 : String := "jdk/internal/util/Preconditions"
abbrev cJ3_checkIndex_8e157 : ByteArray := prog_15_method_11_code
def yJ3_checkIndex_8e157 : MethodName := ⟨RJ3, "checkIndex", "(IILjava/util/function/BiFunction;)I"⟩
def RL : String := "ShowRightsLaw"
abbrev cL_law : ByteArray := code
def yL_law : MethodName := ⟨RL, "law", "([I)Z"⟩
abbrev vwCl : List vw_C := [(RX0, TX0, 6), (RX1, TX1, 3), (RX2, TX2, 2), (RX3, TX3, 3), (RX4, TX4, 8), (RX5, TX5, 1), (RX6, TX6, 7), (RX7, TX7, 22)]
end
section
theorem dX0_init_0 : decode cX0_init 0 = .ok (.aload_n 0, 1) := by decide +kernel
theorem dX0_init_1 : decode cX0_init 1 = .ok (.invokespecial 3, 3) := by decide +kernel
theorem dX0_init_4 : decode cX0_init 4 = .ok (.aload_n 0, 1) := by decide +kernel
theorem dX0_init_5 : decode cX0_init 5 = .ok (.bipush 10, 2) := by decide +kernel
theorem dX0_init_7 : decode cX0_init 7 = .ok (.anewarray 9, 3) := by decide +kernel
theorem dX0_init_10 : decode cX0_init 10 = .ok (.putfield 11, 3) := by decide +kernel
theorem dX0_init_13 : decode cX0_init 13 = .ok (.aload_n 0, 1) := by decide +kernel
theorem dX0_init_14 : decode cX0_init 14 = .ok (.iconst 4, 1) := by decide +kernel
theorem dX0_init_15 : decode cX0_init 15 = .ok (.anewarray 17, 3) := by decide +kernel
theorem dX0_init_18 : decode cX0_init 18 = .ok (.putfield 19, 3) := by decide +kernel
theorem dX0_init_21 : decode cX0_init 21 = .ok (.iconst 0, 1) := by decide +kernel
theorem dX0_init_22 : decode cX0_init 22 = .ok (.istore_n 1, 1) := by decide +kernel
theorem dX0_init_23 : decode cX0_init 23 = .ok (.iload_n 1, 1) := by decide +kernel
theorem dX0_init_24 : decode cX0_init 24 = .ok (.bipush 10, 2) := by decide +kernel
theorem dX0_init_26 : decode cX0_init 26 = .ok (.if_icmp .ge 22, 3) := by decide +kernel
theorem dX0_init_29 : decode cX0_init 29 = .ok (.aload_n 0, 1) := by decide +kernel
theorem dX0_init_30 : decode cX0_init 30 = .ok (.getfield 11, 3) := by decide +kernel
theorem dX0_init_33 : decode cX0_init 33 = .ok (.iload_n 1, 1) := by decide +kernel
theorem dX0_init_34 : decode cX0_init 34 = .ok (.new 9, 3) := by decide +kernel
theorem dX0_init_37 : decode cX0_init 37 = .ok (.dup, 1) := by decide +kernel
theorem dX0_init_38 : decode cX0_init 38 = .ok (.invokespecial 23, 3) := by decide +kernel
theorem dX0_init_41 : decode cX0_init 41 = .ok (.aastore, 1) := by decide +kernel
theorem dX0_init_42 : decode cX0_init 42 = .ok (.iinc 1 1, 3) := by decide +kernel
theorem dX0_init_45 : decode cX0_init 45 = .ok (.goto (-22), 3) := by decide +kernel
theorem dX0_init_48 : decode cX0_init 48 = .ok (.iconst 0, 1) := by decide +kernel
theorem dX0_init_49 : decode cX0_init 49 = .ok (.istore_n 1, 1) := by decide +kernel
theorem dX0_init_50 : decode cX0_init 50 = .ok (.iload_n 1, 1) := by decide +kernel
theorem dX0_init_51 : decode cX0_init 51 = .ok (.iconst 4, 1) := by decide +kernel
theorem dX0_init_52 : decode cX0_init 52 = .ok (.if_icmp .ge 22, 3) := by decide +kernel
theorem dX0_init_55 : decode cX0_init 55 = .ok (.aload_n 0, 1) := by decide +kernel
theorem dX0_init_56 : decode cX0_init 56 = .ok (.getfield 19, 3) := by decide +kernel
theorem dX0_init_59 : decode cX0_init 59 = .ok (.iload_n 1, 1) := by decide +kernel
theorem dX0_init_60 : decode cX0_init 60 = .ok (.new 17, 3) := by decide +kernel
theorem dX0_init_63 : decode cX0_init 63 = .ok (.dup, 1) := by decide +kernel
theorem dX0_init_64 : decode cX0_init 64 = .ok (.invokespecial 24, 3) := by decide +kernel
theorem dX0_init_67 : decode cX0_init 67 = .ok (.aastore, 1) := by decide +kernel
theorem dX0_init_68 : decode cX0_init 68 = .ok (.iinc 1 1, 3) := by decide +kernel
theorem dX0_init_71 : decode cX0_init 71 = .ok (.goto (-21), 3) := by decide +kernel
theorem dX0_init_74 : decode cX0_init 74 = .ok (.return_, 1) := by decide +kernel
theorem dX0_clear_0 : decode cX0_clear 0 = .ok (.aload_n 0, 1) := by decide +kernel
theorem dX0_clear_1 : decode cX0_clear 1 = .ok (.iconst 0, 1) := by decide +kernel
theorem dX0_clear_2 : decode cX0_clear 2 = .ok (.putfield 25, 3) := by decide +kernel
theorem dX0_clear_5 : decode cX0_clear 5 = .ok (.aload_n 0, 1) := by decide +kernel
theorem dX0_clear_6 : decode cX0_clear 6 = .ok (.iconst 0, 1) := by decide +kernel
theorem dX0_clear_7 : decode cX0_clear 7 = .ok (.putfield 29, 3) := by decide +kernel
theorem dX0_clear_10 : decode cX0_clear 10 = .ok (.aload_n 0, 1) := by decide +kernel
theorem dX0_clear_11 : decode cX0_clear 11 = .ok (.iconst 0, 1) := by decide +kernel
theorem dX0_clear_12 : decode cX0_clear 12 = .ok (.putfield 32, 3) := by decide +kernel
theorem dX0_clear_15 : decode cX0_clear 15 = .ok (.aload_n 0, 1) := by decide +kernel
theorem dX0_clear_16 : decode cX0_clear 16 = .ok (.bipush 51, 2) := by decide +kernel
theorem dX0_clear_18 : decode cX0_clear 18 = .ok (.putfield 35, 3) := by decide +kernel
theorem dX0_clear_21 : decode cX0_clear 21 = .ok (.return_, 1) := by decide +kernel
theorem dX0_isSpan_0 : decode cX0_isSpan 0 = .ok (.iload_n 0, 1) := by decide +kernel
theorem dX0_isSpan_1 : decode cX0_isSpan 1 = .ok (.ifCond .lt 18, 3) := by decide +kernel
theorem dX0_isSpan_4 : decode cX0_isSpan 4 = .ok (.iload_n 0, 1) := by decide +kernel
theorem dX0_isSpan_5 : decode cX0_isSpan 5 = .ok (.iload_n 1, 1) := by decide +kernel
theorem dX0_isSpan_6 : decode cX0_isSpan 6 = .ok (.if_icmp .gt 13, 3) := by decide +kernel
theorem dX0_isSpan_9 : decode cX0_isSpan 9 = .ok (.iload_n 1, 1) := by decide +kernel
theorem dX0_isSpan_10 : decode cX0_isSpan 10 = .ok (.bipush 51, 2) := by decide +kernel
theorem dX0_isSpan_12 : decode cX0_isSpan 12 = .ok (.if_icmp .gt 7, 3) := by decide +kernel
theorem dX0_isSpan_15 : decode cX0_isSpan 15 = .ok (.iconst 1, 1) := by decide +kernel
theorem dX0_isSpan_16 : decode cX0_isSpan 16 = .ok (.goto 4, 3) := by decide +kernel
theorem dX0_isSpan_19 : decode cX0_isSpan 19 = .ok (.iconst 0, 1) := by decide +kernel
theorem dX0_isSpan_20 : decode cX0_isSpan 20 = .ok (.ireturn, 1) := by decide +kernel
theorem dX0_setTerm_0 : decode cX0_setTerm 0 = .ok (.iload_n 1, 1) := by decide +kernel
theorem dX0_setTerm_1 : decode cX0_setTerm 1 = .ok (.iload_n 2, 1) := by decide +kernel
theorem dX0_setTerm_2 : decode cX0_setTerm 2 = .ok (.invokestatic 38, 3) := by decide +kernel
theorem dX0_setTerm_5 : decode cX0_setTerm 5 = .ok (.ifCond .ne 5, 3) := by decide +kernel
theorem dX0_setTerm_8 : decode cX0_setTerm 8 = .ok (.iconst 0, 1) := by decide +kernel
theorem dX0_setTerm_9 : decode cX0_setTerm 9 = .ok (.ireturn, 1) := by decide +kernel
theorem dX0_setTerm_10 : decode cX0_setTerm 10 = .ok (.aload_n 0, 1) := by decide +kernel
theorem dX0_setTerm_11 : decode cX0_setTerm 11 = .ok (.iload_n 1, 1) := by decide +kernel
theorem dX0_setTerm_12 : decode cX0_setTerm 12 = .ok (.putfield 32, 3) := by decide +kernel
theorem dX0_setTerm_15 : decode cX0_setTerm 15 = .ok (.aload_n 0, 1) := by decide +kernel
theorem dX0_setTerm_16 : decode cX0_setTerm 16 = .ok (.iload_n 2, 1) := by decide +kernel
theorem dX0_setTerm_17 : decode cX0_setTerm 17 = .ok (.putfield 35, 3) := by decide +kernel
theorem dX0_setTerm_20 : decode cX0_setTerm 20 = .ok (.iconst 1, 1) := by decide +kernel
theorem dX0_setTerm_21 : decode cX0_setTerm 21 = .ok (.ireturn, 1) := by decide +kernel
theorem dX0_addOffer_0 : decode cX0_addOffer 0 = .ok (.aload_n 0, 1) := by decide +kernel
theorem dX0_addOffer_1 : decode cX0_addOffer 1 = .ok (.getfield 25, 3) := by decide +kernel
theorem dX0_addOffer_4 : decode cX0_addOffer 4 = .ok (.bipush 10, 2) := by decide +kernel
theorem dX0_addOffer_6 : decode cX0_addOffer 6 = .ok (.if_icmp .ge 17, 3) := by decide +kernel
theorem dX0_addOffer_9 : decode cX0_addOffer 9 = .ok (.aload_n 1, 1) := by decide +kernel
theorem dX0_addOffer_10 : decode cX0_addOffer 10 = .ok (.arraylength, 1) := by decide +kernel
theorem dX0_addOffer_11 : decode cX0_addOffer 11 = .ok (.bipush 7, 2) := by decide +kernel
theorem dX0_addOffer_13 : decode cX0_addOffer 13 = .ok (.if_icmp .lt 10, 3) := by decide +kernel
theorem dX0_addOffer_16 : decode cX0_addOffer 16 = .ok (.aload_n 1, 1) := by decide +kernel
theorem dX0_addOffer_17 : decode cX0_addOffer 17 = .ok (.invokestatic 42, 3) := by decide +kernel
theorem dX0_addOffer_20 : decode cX0_addOffer 20 = .ok (.ifCond .ne 5, 3) := by decide +kernel
theorem dX0_addOffer_23 : decode cX0_addOffer 23 = .ok (.iconst 0, 1) := by decide +kernel
theorem dX0_addOffer_24 : decode cX0_addOffer 24 = .ok (.ireturn, 1) := by decide +kernel
theorem dX0_addOffer_25 : decode cX0_addOffer 25 = .ok (.aload_n 0, 1) := by decide +kernel
theorem dX0_addOffer_26 : decode cX0_addOffer 26 = .ok (.getfield 11, 3) := by decide +kernel
theorem dX0_addOffer_29 : decode cX0_addOffer 29 = .ok (.aload_n 0, 1) := by decide +kernel
theorem dX0_addOffer_30 : decode cX0_addOffer 30 = .ok (.getfield 25, 3) := by decide +kernel
theorem dX0_addOffer_33 : decode cX0_addOffer 33 = .ok (.aaload, 1) := by decide +kernel
theorem dX0_addOffer_34 : decode cX0_addOffer 34 = .ok (.astore_n 2, 1) := by decide +kernel
theorem dX0_addOffer_35 : decode cX0_addOffer 35 = .ok (.aload_n 2, 1) := by decide +kernel
theorem dX0_addOffer_36 : decode cX0_addOffer 36 = .ok (.aload_n 1, 1) := by decide +kernel
theorem dX0_addOffer_37 : decode cX0_addOffer 37 = .ok (.iconst 0, 1) := by decide +kernel
theorem dX0_addOffer_38 : decode cX0_addOffer 38 = .ok (.iaload, 1) := by decide +kernel
theorem dX0_addOffer_39 : decode cX0_addOffer 39 = .ok (.putfield 46, 3) := by decide +kernel
theorem dX0_addOffer_42 : decode cX0_addOffer 42 = .ok (.aload_n 2, 1) := by decide +kernel
theorem dX0_addOffer_43 : decode cX0_addOffer 43 = .ok (.aload_n 1, 1) := by decide +kernel
theorem dX0_addOffer_44 : decode cX0_addOffer 44 = .ok (.iconst 1, 1) := by decide +kernel
theorem dX0_addOffer_45 : decode cX0_addOffer 45 = .ok (.iaload, 1) := by decide +kernel
theorem dX0_addOffer_46 : decode cX0_addOffer 46 = .ok (.putfield 49, 3) := by decide +kernel
theorem dX0_addOffer_49 : decode cX0_addOffer 49 = .ok (.aload_n 2, 1) := by decide +kernel
theorem dX0_addOffer_50 : decode cX0_addOffer 50 = .ok (.aload_n 1, 1) := by decide +kernel
theorem dX0_addOffer_51 : decode cX0_addOffer 51 = .ok (.iconst 2, 1) := by decide +kernel
theorem dX0_addOffer_52 : decode cX0_addOffer 52 = .ok (.iaload, 1) := by decide +kernel
theorem dX0_addOffer_53 : decode cX0_addOffer 53 = .ok (.putfield 52, 3) := by decide +kernel
theorem dX0_addOffer_56 : decode cX0_addOffer 56 = .ok (.aload_n 2, 1) := by decide +kernel
theorem dX0_addOffer_57 : decode cX0_addOffer 57 = .ok (.aload_n 1, 1) := by decide +kernel
theorem dX0_addOffer_58 : decode cX0_addOffer 58 = .ok (.iconst 3, 1) := by decide +kernel
theorem dX0_addOffer_59 : decode cX0_addOffer 59 = .ok (.iaload, 1) := by decide +kernel
theorem dX0_addOffer_60 : decode cX0_addOffer 60 = .ok (.putfield 55, 3) := by decide +kernel
theorem dX0_addOffer_63 : decode cX0_addOffer 63 = .ok (.aload_n 2, 1) := by decide +kernel
theorem dX0_addOffer_64 : decode cX0_addOffer 64 = .ok (.aload_n 1, 1) := by decide +kernel
theorem dX0_addOffer_65 : decode cX0_addOffer 65 = .ok (.iconst 4, 1) := by decide +kernel
theorem dX0_addOffer_66 : decode cX0_addOffer 66 = .ok (.iaload, 1) := by decide +kernel
theorem dX0_addOffer_67 : decode cX0_addOffer 67 = .ok (.putfield 58, 3) := by decide +kernel
theorem dX0_addOffer_70 : decode cX0_addOffer 70 = .ok (.aload_n 2, 1) := by decide +kernel
theorem dX0_addOffer_71 : decode cX0_addOffer 71 = .ok (.aload_n 1, 1) := by decide +kernel
theorem dX0_addOffer_72 : decode cX0_addOffer 72 = .ok (.iconst 5, 1) := by decide +kernel
theorem dX0_addOffer_73 : decode cX0_addOffer 73 = .ok (.iaload, 1) := by decide +kernel
theorem dX0_addOffer_74 : decode cX0_addOffer 74 = .ok (.iconst 1, 1) := by decide +kernel
theorem dX0_addOffer_75 : decode cX0_addOffer 75 = .ok (.if_icmp .ne 7, 3) := by decide +kernel
theorem dX0_addOffer_78 : decode cX0_addOffer 78 = .ok (.iconst 1, 1) := by decide +kernel
theorem dX0_addOffer_79 : decode cX0_addOffer 79 = .ok (.goto 4, 3) := by decide +kernel
theorem dX0_addOffer_82 : decode cX0_addOffer 82 = .ok (.iconst 0, 1) := by decide +kernel
theorem dX0_addOffer_83 : decode cX0_addOffer 83 = .ok (.putfield 61, 3) := by decide +kernel
theorem dX0_addOffer_86 : decode cX0_addOffer 86 = .ok (.aload_n 2, 1) := by decide +kernel
theorem dX0_addOffer_87 : decode cX0_addOffer 87 = .ok (.aload_n 1, 1) := by decide +kernel
theorem dX0_addOffer_88 : decode cX0_addOffer 88 = .ok (.bipush 6, 2) := by decide +kernel
theorem dX0_addOffer_90 : decode cX0_addOffer 90 = .ok (.iaload, 1) := by decide +kernel
theorem dX0_addOffer_91 : decode cX0_addOffer 91 = .ok (.putfield 65, 3) := by decide +kernel
theorem dX0_addOffer_94 : decode cX0_addOffer 94 = .ok (.aload_n 2, 1) := by decide +kernel
theorem dX0_addOffer_95 : decode cX0_addOffer 95 = .ok (.iconst 0, 1) := by decide +kernel
theorem dX0_addOffer_96 : decode cX0_addOffer 96 = .ok (.putfield 68, 3) := by decide +kernel
theorem dX0_addOffer_99 : decode cX0_addOffer 99 = .ok (.aload_n 0, 1) := by decide +kernel
theorem dX0_addOffer_100 : decode cX0_addOffer 100 = .ok (.dup, 1) := by decide +kernel
theorem dX0_addOffer_101 : decode cX0_addOffer 101 = .ok (.getfield 25, 3) := by decide +kernel
theorem dX0_addOffer_104 : decode cX0_addOffer 104 = .ok (.iconst 1, 1) := by decide +kernel
theorem dX0_addOffer_105 : decode cX0_addOffer 105 = .ok (.iadd, 1) := by decide +kernel
theorem dX0_addOffer_106 : decode cX0_addOffer 106 = .ok (.putfield 25, 3) := by decide +kernel
theorem dX0_addOffer_109 : decode cX0_addOffer 109 = .ok (.iconst 1, 1) := by decide +kernel
theorem dX0_addOffer_110 : decode cX0_addOffer 110 = .ok (.ireturn, 1) := by decide +kernel
theorem dX0_isOfferTold_0 : decode cX0_isOfferTold 0 = .ok (.aload_n 0, 1) := by decide +kernel
theorem dX0_isOfferTold_1 : decode cX0_isOfferTold 1 = .ok (.iconst 0, 1) := by decide +kernel
theorem dX0_isOfferTold_2 : decode cX0_isOfferTold 2 = .ok (.iaload, 1) := by decide +kernel
theorem dX0_isOfferTold_3 : decode cX0_isOfferTold 3 = .ok (.bipush 6, 2) := by decide +kernel
theorem dX0_isOfferTold_5 : decode cX0_isOfferTold 5 = .ok (.invokestatic 71, 3) := by decide +kernel
theorem dX0_isOfferTold_8 : decode cX0_isOfferTold 8 = .ok (.ifCond .eq 66, 3) := by decide +kernel
theorem dX0_isOfferTold_11 : decode cX0_isOfferTold 11 = .ok (.aload_n 0, 1) := by decide +kernel
theorem dX0_isOfferTold_12 : decode cX0_isOfferTold 12 = .ok (.iconst 1, 1) := by decide +kernel
theorem dX0_isOfferTold_13 : decode cX0_isOfferTold 13 = .ok (.iaload, 1) := by decide +kernel
theorem dX0_isOfferTold_14 : decode cX0_isOfferTold 14 = .ok (.iconst 4, 1) := by decide +kernel
theorem dX0_isOfferTold_15 : decode cX0_isOfferTold 15 = .ok (.invokestatic 71, 3) := by decide +kernel
theorem dX0_isOfferTold_18 : decode cX0_isOfferTold 18 = .ok (.ifCond .eq 56, 3) := by decide +kernel
theorem dX0_isOfferTold_21 : decode cX0_isOfferTold 21 = .ok (.aload_n 0, 1) := by decide +kernel
theorem dX0_isOfferTold_22 : decode cX0_isOfferTold 22 = .ok (.iconst 2, 1) := by decide +kernel
theorem dX0_isOfferTold_23 : decode cX0_isOfferTold 23 = .ok (.iaload, 1) := by decide +kernel
theorem dX0_isOfferTold_24 : decode cX0_isOfferTold 24 = .ok (.iconst 4, 1) := by decide +kernel
theorem dX0_isOfferTold_25 : decode cX0_isOfferTold 25 = .ok (.invokestatic 71, 3) := by decide +kernel
theorem dX0_isOfferTold_28 : decode cX0_isOfferTold 28 = .ok (.ifCond .eq 46, 3) := by decide +kernel
theorem dX0_isOfferTold_31 : decode cX0_isOfferTold 31 = .ok (.aload_n 0, 1) := by decide +kernel
theorem dX0_isOfferTold_32 : decode cX0_isOfferTold 32 = .ok (.iconst 3, 1) := by decide +kernel
theorem dX0_isOfferTold_33 : decode cX0_isOfferTold 33 = .ok (.iaload, 1) := by decide +kernel
theorem dX0_isOfferTold_34 : decode cX0_isOfferTold 34 = .ok (.aload_n 0, 1) := by decide +kernel
theorem dX0_isOfferTold_35 : decode cX0_isOfferTold 35 = .ok (.iconst 4, 1) := by decide +kernel
theorem dX0_isOfferTold_36 : decode cX0_isOfferTold 36 = .ok (.iaload, 1) := by decide +kernel
theorem dX0_isOfferTold_37 : decode cX0_isOfferTold 37 = .ok (.invokestatic 38, 3) := by decide +kernel
theorem dX0_isOfferTold_40 : decode cX0_isOfferTold 40 = .ok (.ifCond .eq 34, 3) := by decide +kernel
theorem dX0_isOfferTold_43 : decode cX0_isOfferTold 43 = .ok (.aload_n 0, 1) := by decide +kernel
theorem dX0_isOfferTold_44 : decode cX0_isOfferTold 44 = .ok (.iconst 5, 1) := by decide +kernel
theorem dX0_isOfferTold_45 : decode cX0_isOfferTold 45 = .ok (.iaload, 1) := by decide +kernel
theorem dX0_isOfferTold_46 : decode cX0_isOfferTold 46 = .ok (.iconst 2, 1) := by decide +kernel
theorem dX0_isOfferTold_47 : decode cX0_isOfferTold 47 = .ok (.invokestatic 74, 3) := by decide +kernel
theorem dX0_isOfferTold_50 : decode cX0_isOfferTold 50 = .ok (.ifCond .eq 24, 3) := by decide +kernel
theorem dX0_isOfferTold_53 : decode cX0_isOfferTold 53 = .ok (.aload_n 0, 1) := by decide +kernel
theorem dX0_isOfferTold_54 : decode cX0_isOfferTold 54 = .ok (.bipush 6, 2) := by decide +kernel
theorem dX0_isOfferTold_56 : decode cX0_isOfferTold 56 = .ok (.iaload, 1) := by decide +kernel
theorem dX0_isOfferTold_57 : decode cX0_isOfferTold 57 = .ok (.iconst 1, 1) := by decide +kernel
theorem dX0_isOfferTold_58 : decode cX0_isOfferTold 58 = .ok (.if_icmp .lt 16, 3) := by decide +kernel
theorem dX0_isOfferTold_61 : decode cX0_isOfferTold 61 = .ok (.aload_n 0, 1) := by decide +kernel
theorem dX0_isOfferTold_62 : decode cX0_isOfferTold 62 = .ok (.bipush 6, 2) := by decide +kernel
theorem dX0_isOfferTold_64 : decode cX0_isOfferTold 64 = .ok (.iaload, 1) := by decide +kernel
theorem dX0_isOfferTold_65 : decode cX0_isOfferTold 65 = .ok (.bipush 99, 2) := by decide +kernel
theorem dX0_isOfferTold_67 : decode cX0_isOfferTold 67 = .ok (.if_icmp .gt 7, 3) := by decide +kernel
theorem dX0_isOfferTold_70 : decode cX0_isOfferTold 70 = .ok (.iconst 1, 1) := by decide +kernel
theorem dX0_isOfferTold_71 : decode cX0_isOfferTold 71 = .ok (.goto 4, 3) := by decide +kernel
theorem dX0_isOfferTold_74 : decode cX0_isOfferTold 74 = .ok (.iconst 0, 1) := by decide +kernel
theorem dX0_isOfferTold_75 : decode cX0_isOfferTold 75 = .ok (.ireturn, 1) := by decide +kernel
theorem dX0_addHold_0 : decode cX0_addHold 0 = .ok (.aload_n 0, 1) := by decide +kernel
theorem dX0_addHold_1 : decode cX0_addHold 1 = .ok (.getfield 29, 3) := by decide +kernel
theorem dX0_addHold_4 : decode cX0_addHold 4 = .ok (.iconst 4, 1) := by decide +kernel
theorem dX0_addHold_5 : decode cX0_addHold 5 = .ok (.if_icmp .ge 8, 3) := by decide +kernel
theorem dX0_addHold_8 : decode cX0_addHold 8 = .ok (.iload_n 1, 1) := by decide +kernel
theorem dX0_addHold_9 : decode cX0_addHold 9 = .ok (.iload_n 2, 1) := by decide +kernel
theorem dX0_addHold_10 : decode cX0_addHold 10 = .ok (.if_icmp .ne 5, 3) := by decide +kernel
theorem dX0_addHold_13 : decode cX0_addHold 13 = .ok (.iconst 0, 1) := by decide +kernel
theorem dX0_addHold_14 : decode cX0_addHold 14 = .ok (.ireturn, 1) := by decide +kernel
theorem dX0_addHold_15 : decode cX0_addHold 15 = .ok (.iload_n 1, 1) := by decide +kernel
theorem dX0_addHold_16 : decode cX0_addHold 16 = .ok (.iconst 4, 1) := by decide +kernel
theorem dX0_addHold_17 : decode cX0_addHold 17 = .ok (.invokestatic 74, 3) := by decide +kernel
theorem dX0_addHold_20 : decode cX0_addHold 20 = .ok (.ifCond .eq 22, 3) := by decide +kernel
theorem dX0_addHold_23 : decode cX0_addHold 23 = .ok (.iload_n 2, 1) := by decide +kernel
theorem dX0_addHold_24 : decode cX0_addHold 24 = .ok (.iconst 4, 1) := by decide +kernel
theorem dX0_addHold_25 : decode cX0_addHold 25 = .ok (.invokestatic 74, 3) := by decide +kernel
theorem dX0_addHold_28 : decode cX0_addHold 28 = .ok (.ifCond .eq 14, 3) := by decide +kernel
theorem dX0_addHold_31 : decode cX0_addHold 31 = .ok (.iload_n 3, 1) := by decide +kernel
theorem dX0_addHold_32 : decode cX0_addHold 32 = .ok (.iconst 1, 1) := by decide +kernel
theorem dX0_addHold_33 : decode cX0_addHold 33 = .ok (.if_icmp .lt 9, 3) := by decide +kernel
theorem dX0_addHold_36 : decode cX0_addHold 36 = .ok (.iload_n 3, 1) := by decide +kernel
theorem dX0_addHold_37 : decode cX0_addHold 37 = .ok (.bipush 51, 2) := by decide +kernel
theorem dX0_addHold_39 : decode cX0_addHold 39 = .ok (.if_icmp .le 5, 3) := by decide +kernel
theorem dX0_addHold_42 : decode cX0_addHold 42 = .ok (.iconst 0, 1) := by decide +kernel
theorem dX0_addHold_43 : decode cX0_addHold 43 = .ok (.ireturn, 1) := by decide +kernel
theorem dX0_addHold_44 : decode cX0_addHold 44 = .ok (.aload_n 0, 1) := by decide +kernel
theorem dX0_addHold_45 : decode cX0_addHold 45 = .ok (.getfield 19, 3) := by decide +kernel
theorem dX0_addHold_48 : decode cX0_addHold 48 = .ok (.aload_n 0, 1) := by decide +kernel
theorem dX0_addHold_49 : decode cX0_addHold 49 = .ok (.getfield 29, 3) := by decide +kernel
theorem dX0_addHold_52 : decode cX0_addHold 52 = .ok (.aaload, 1) := by decide +kernel
theorem dX0_addHold_53 : decode cX0_addHold 53 = .ok (.astore 4, 2) := by decide +kernel
theorem dX0_addHold_55 : decode cX0_addHold 55 = .ok (.aload 4, 2) := by decide +kernel
theorem dX0_addHold_57 : decode cX0_addHold 57 = .ok (.iload_n 1, 1) := by decide +kernel
theorem dX0_addHold_58 : decode cX0_addHold 58 = .ok (.putfield 77, 3) := by decide +kernel
theorem dX0_addHold_61 : decode cX0_addHold 61 = .ok (.aload 4, 2) := by decide +kernel
theorem dX0_addHold_63 : decode cX0_addHold 63 = .ok (.iload_n 2, 1) := by decide +kernel
theorem dX0_addHold_64 : decode cX0_addHold 64 = .ok (.putfield 80, 3) := by decide +kernel
theorem dX0_addHold_67 : decode cX0_addHold 67 = .ok (.aload 4, 2) := by decide +kernel
theorem dX0_addHold_69 : decode cX0_addHold 69 = .ok (.iload_n 3, 1) := by decide +kernel
theorem dX0_addHold_70 : decode cX0_addHold 70 = .ok (.putfield 83, 3) := by decide +kernel
theorem dX0_addHold_73 : decode cX0_addHold 73 = .ok (.aload_n 0, 1) := by decide +kernel
theorem dX0_addHold_74 : decode cX0_addHold 74 = .ok (.dup, 1) := by decide +kernel
theorem dX0_addHold_75 : decode cX0_addHold 75 = .ok (.getfield 29, 3) := by decide +kernel
theorem dX0_addHold_78 : decode cX0_addHold 78 = .ok (.iconst 1, 1) := by decide +kernel
theorem dX0_addHold_79 : decode cX0_addHold 79 = .ok (.iadd, 1) := by decide +kernel
theorem dX0_addHold_80 : decode cX0_addHold 80 = .ok (.putfield 29, 3) := by decide +kernel
theorem dX0_addHold_83 : decode cX0_addHold 83 = .ok (.iconst 1, 1) := by decide +kernel
theorem dX0_addHold_84 : decode cX0_addHold 84 = .ok (.ireturn, 1) := by decide +kernel
theorem dX0_isWithinTerm_0 : decode cX0_isWithinTerm 0 = .ok (.aload_n 0, 1) := by decide +kernel
theorem dX0_isWithinTerm_1 : decode cX0_isWithinTerm 1 = .ok (.getfield 11, 3) := by decide +kernel
theorem dX0_isWithinTerm_4 : decode cX0_isWithinTerm 4 = .ok (.iload_n 1, 1) := by decide +kernel
theorem dX0_isWithinTerm_5 : decode cX0_isWithinTerm 5 = .ok (.aaload, 1) := by decide +kernel
theorem dX0_isWithinTerm_6 : decode cX0_isWithinTerm 6 = .ok (.invokevirtual 86, 3) := by decide +kernel
theorem dX0_isWithinTerm_9 : decode cX0_isWithinTerm 9 = .ok (.aload_n 0, 1) := by decide +kernel
theorem dX0_isWithinTerm_10 : decode cX0_isWithinTerm 10 = .ok (.getfield 32, 3) := by decide +kernel
theorem dX0_isWithinTerm_13 : decode cX0_isWithinTerm 13 = .ok (.if_icmp .lt 23, 3) := by decide +kernel
theorem dX0_isWithinTerm_16 : decode cX0_isWithinTerm 16 = .ok (.aload_n 0, 1) := by decide +kernel
theorem dX0_isWithinTerm_17 : decode cX0_isWithinTerm 17 = .ok (.getfield 11, 3) := by decide +kernel
theorem dX0_isWithinTerm_20 : decode cX0_isWithinTerm 20 = .ok (.iload_n 1, 1) := by decide +kernel
theorem dX0_isWithinTerm_21 : decode cX0_isWithinTerm 21 = .ok (.aaload, 1) := by decide +kernel
theorem dX0_isWithinTerm_22 : decode cX0_isWithinTerm 22 = .ok (.invokevirtual 90, 3) := by decide +kernel
theorem dX0_isWithinTerm_25 : decode cX0_isWithinTerm 25 = .ok (.aload_n 0, 1) := by decide +kernel
theorem dX0_isWithinTerm_26 : decode cX0_isWithinTerm 26 = .ok (.getfield 35, 3) := by decide +kernel
theorem dX0_isWithinTerm_29 : decode cX0_isWithinTerm 29 = .ok (.if_icmp .gt 7, 3) := by decide +kernel
theorem dX0_isWithinTerm_32 : decode cX0_isWithinTerm 32 = .ok (.iconst 1, 1) := by decide +kernel
theorem dX0_isWithinTerm_33 : decode cX0_isWithinTerm 33 = .ok (.goto 4, 3) := by decide +kernel
theorem dX0_isWithinTerm_36 : decode cX0_isWithinTerm 36 = .ok (.iconst 0, 1) := by decide +kernel
theorem dX0_isWithinTerm_37 : decode cX0_isWithinTerm 37 = .ok (.ireturn, 1) := by decide +kernel
theorem dX0_lowestClash_0 : decode cX0_lowestClash 0 = .ok (.iconst 0, 1) := by decide +kernel
theorem dX0_lowestClash_1 : decode cX0_lowestClash 1 = .ok (.istore_n 3, 1) := by decide +kernel
theorem dX0_lowestClash_2 : decode cX0_lowestClash 2 = .ok (.iload_n 3, 1) := by decide +kernel
theorem dX0_lowestClash_3 : decode cX0_lowestClash 3 = .ok (.aload_n 0, 1) := by decide +kernel
theorem dX0_lowestClash_4 : decode cX0_lowestClash 4 = .ok (.getfield 25, 3) := by decide +kernel
theorem dX0_lowestClash_7 : decode cX0_lowestClash 7 = .ok (.if_icmp .ge 42, 3) := by decide +kernel
theorem dX0_lowestClash_10 : decode cX0_lowestClash 10 = .ok (.iload_n 3, 1) := by decide +kernel
theorem dX0_lowestClash_11 : decode cX0_lowestClash 11 = .ok (.iload_n 1, 1) := by decide +kernel
theorem dX0_lowestClash_12 : decode cX0_lowestClash 12 = .ok (.if_icmp .eq 31, 3) := by decide +kernel
theorem dX0_lowestClash_15 : decode cX0_lowestClash 15 = .ok (.iload_n 2, 1) := by decide +kernel
theorem dX0_lowestClash_16 : decode cX0_lowestClash 16 = .ok (.iload_n 3, 1) := by decide +kernel
theorem dX0_lowestClash_17 : decode cX0_lowestClash 17 = .ok (.invokestatic 93, 3) := by decide +kernel
theorem dX0_lowestClash_20 : decode cX0_lowestClash 20 = .ok (.ifCond .eq 23, 3) := by decide +kernel
theorem dX0_lowestClash_23 : decode cX0_lowestClash 23 = .ok (.aload_n 0, 1) := by decide +kernel
theorem dX0_lowestClash_24 : decode cX0_lowestClash 24 = .ok (.getfield 11, 3) := by decide +kernel
theorem dX0_lowestClash_27 : decode cX0_lowestClash 27 = .ok (.iload_n 1, 1) := by decide +kernel
theorem dX0_lowestClash_28 : decode cX0_lowestClash 28 = .ok (.aaload, 1) := by decide +kernel
theorem dX0_lowestClash_29 : decode cX0_lowestClash 29 = .ok (.aload_n 0, 1) := by decide +kernel
theorem dX0_lowestClash_30 : decode cX0_lowestClash 30 = .ok (.getfield 11, 3) := by decide +kernel
theorem dX0_lowestClash_33 : decode cX0_lowestClash 33 = .ok (.iload_n 3, 1) := by decide +kernel
theorem dX0_lowestClash_34 : decode cX0_lowestClash 34 = .ok (.aaload, 1) := by decide +kernel
theorem dX0_lowestClash_35 : decode cX0_lowestClash 35 = .ok (.invokevirtual 96, 3) := by decide +kernel
theorem dX0_lowestClash_38 : decode cX0_lowestClash 38 = .ok (.ifCond .eq 5, 3) := by decide +kernel
theorem dX0_lowestClash_41 : decode cX0_lowestClash 41 = .ok (.iload_n 3, 1) := by decide +kernel
theorem dX0_lowestClash_42 : decode cX0_lowestClash 42 = .ok (.ireturn, 1) := by decide +kernel
theorem dX0_lowestClash_43 : decode cX0_lowestClash 43 = .ok (.iinc 3 1, 3) := by decide +kernel
theorem dX0_lowestClash_46 : decode cX0_lowestClash 46 = .ok (.goto (-44), 3) := by decide +kernel
theorem dX0_lowestClash_49 : decode cX0_lowestClash 49 = .ok (.bipush (-4), 2) := by decide +kernel
theorem dX0_lowestClash_51 : decode cX0_lowestClash 51 = .ok (.ireturn, 1) := by decide +kernel
theorem dX0_clashingPairs_0 : decode cX0_clashingPairs 0 = .ok (.iconst 0, 1) := by decide +kernel
theorem dX0_clashingPairs_1 : decode cX0_clashingPairs 1 = .ok (.istore_n 1, 1) := by decide +kernel
theorem dX0_clashingPairs_2 : decode cX0_clashingPairs 2 = .ok (.iconst 0, 1) := by decide +kernel
theorem dX0_clashingPairs_3 : decode cX0_clashingPairs 3 = .ok (.istore_n 2, 1) := by decide +kernel
theorem dX0_clashingPairs_4 : decode cX0_clashingPairs 4 = .ok (.iload_n 2, 1) := by decide +kernel
theorem dX0_clashingPairs_5 : decode cX0_clashingPairs 5 = .ok (.aload_n 0, 1) := by decide +kernel
theorem dX0_clashingPairs_6 : decode cX0_clashingPairs 6 = .ok (.getfield 25, 3) := by decide +kernel
theorem dX0_clashingPairs_9 : decode cX0_clashingPairs 9 = .ok (.if_icmp .ge 48, 3) := by decide +kernel
theorem dX0_clashingPairs_12 : decode cX0_clashingPairs 12 = .ok (.iload_n 2, 1) := by decide +kernel
theorem dX0_clashingPairs_13 : decode cX0_clashingPairs 13 = .ok (.iconst 1, 1) := by decide +kernel
theorem dX0_clashingPairs_14 : decode cX0_clashingPairs 14 = .ok (.iadd, 1) := by decide +kernel
theorem dX0_clashingPairs_15 : decode cX0_clashingPairs 15 = .ok (.istore_n 3, 1) := by decide +kernel
theorem dX0_clashingPairs_16 : decode cX0_clashingPairs 16 = .ok (.iload_n 3, 1) := by decide +kernel
theorem dX0_clashingPairs_17 : decode cX0_clashingPairs 17 = .ok (.aload_n 0, 1) := by decide +kernel
theorem dX0_clashingPairs_18 : decode cX0_clashingPairs 18 = .ok (.getfield 25, 3) := by decide +kernel
theorem dX0_clashingPairs_21 : decode cX0_clashingPairs 21 = .ok (.if_icmp .ge 30, 3) := by decide +kernel
theorem dX0_clashingPairs_24 : decode cX0_clashingPairs 24 = .ok (.aload_n 0, 1) := by decide +kernel
theorem dX0_clashingPairs_25 : decode cX0_clashingPairs 25 = .ok (.getfield 11, 3) := by decide +kernel
theorem dX0_clashingPairs_28 : decode cX0_clashingPairs 28 = .ok (.iload_n 2, 1) := by decide +kernel
theorem dX0_clashingPairs_29 : decode cX0_clashingPairs 29 = .ok (.aaload, 1) := by decide +kernel
theorem dX0_clashingPairs_30 : decode cX0_clashingPairs 30 = .ok (.aload_n 0, 1) := by decide +kernel
theorem dX0_clashingPairs_31 : decode cX0_clashingPairs 31 = .ok (.getfield 11, 3) := by decide +kernel
theorem dX0_clashingPairs_34 : decode cX0_clashingPairs 34 = .ok (.iload_n 3, 1) := by decide +kernel
theorem dX0_clashingPairs_35 : decode cX0_clashingPairs 35 = .ok (.aaload, 1) := by decide +kernel
theorem dX0_clashingPairs_36 : decode cX0_clashingPairs 36 = .ok (.invokevirtual 96, 3) := by decide +kernel
theorem dX0_clashingPairs_39 : decode cX0_clashingPairs 39 = .ok (.ifCond .eq 6, 3) := by decide +kernel
theorem dX0_clashingPairs_42 : decode cX0_clashingPairs 42 = .ok (.iinc 1 1, 3) := by decide +kernel
theorem dX0_clashingPairs_45 : decode cX0_clashingPairs 45 = .ok (.iinc 3 1, 3) := by decide +kernel
theorem dX0_clashingPairs_48 : decode cX0_clashingPairs 48 = .ok (.goto (-32), 3) := by decide +kernel
theorem dX0_clashingPairs_51 : decode cX0_clashingPairs 51 = .ok (.iinc 2 1, 3) := by decide +kernel
theorem dX0_clashingPairs_54 : decode cX0_clashingPairs 54 = .ok (.goto (-50), 3) := by decide +kernel
theorem dX0_clashingPairs_57 : decode cX0_clashingPairs 57 = .ok (.iload_n 1, 1) := by decide +kernel
theorem dX0_clashingPairs_58 : decode cX0_clashingPairs 58 = .ok (.ireturn, 1) := by decide +kernel
theorem dX0_beginOf_0 : decode cX0_beginOf 0 = .ok (.bipush (-4), 2) := by decide +kernel
theorem dX0_beginOf_2 : decode cX0_beginOf 2 = .ok (.istore 4, 2) := by decide +kernel
theorem dX0_beginOf_4 : decode cX0_beginOf 4 = .ok (.iconst 0, 1) := by decide +kernel
theorem dX0_beginOf_5 : decode cX0_beginOf 5 = .ok (.istore 5, 2) := by decide +kernel
theorem dX0_beginOf_7 : decode cX0_beginOf 7 = .ok (.iload 5, 2) := by decide +kernel
theorem dX0_beginOf_9 : decode cX0_beginOf 9 = .ok (.aload_n 0, 1) := by decide +kernel
theorem dX0_beginOf_10 : decode cX0_beginOf 10 = .ok (.getfield 25, 3) := by decide +kernel
theorem dX0_beginOf_13 : decode cX0_beginOf 13 = .ok (.if_icmp .ge 75, 3) := by decide +kernel
theorem dX0_beginOf_16 : decode cX0_beginOf 16 = .ok (.aload_n 0, 1) := by decide +kernel
theorem dX0_beginOf_17 : decode cX0_beginOf 17 = .ok (.getfield 11, 3) := by decide +kernel
theorem dX0_beginOf_20 : decode cX0_beginOf 20 = .ok (.iload 5, 2) := by decide +kernel
theorem dX0_beginOf_22 : decode cX0_beginOf 22 = .ok (.aaload, 1) := by decide +kernel
theorem dX0_beginOf_23 : decode cX0_beginOf 23 = .ok (.astore 6, 2) := by decide +kernel
theorem dX0_beginOf_25 : decode cX0_beginOf 25 = .ok (.iload_n 1, 1) := by decide +kernel
theorem dX0_beginOf_26 : decode cX0_beginOf 26 = .ok (.iload 5, 2) := by decide +kernel
theorem dX0_beginOf_28 : decode cX0_beginOf 28 = .ok (.invokestatic 93, 3) := by decide +kernel
theorem dX0_beginOf_31 : decode cX0_beginOf 31 = .ok (.ifCond .eq 51, 3) := by decide +kernel
theorem dX0_beginOf_34 : decode cX0_beginOf 34 = .ok (.aload 6, 2) := by decide +kernel
theorem dX0_beginOf_36 : decode cX0_beginOf 36 = .ok (.getfield 46, 3) := by decide +kernel
theorem dX0_beginOf_39 : decode cX0_beginOf 39 = .ok (.iload_n 2, 1) := by decide +kernel
theorem dX0_beginOf_40 : decode cX0_beginOf 40 = .ok (.invokestatic 93, 3) := by decide +kernel
theorem dX0_beginOf_43 : decode cX0_beginOf 43 = .ok (.ifCond .eq 39, 3) := by decide +kernel
theorem dX0_beginOf_46 : decode cX0_beginOf 46 = .ok (.aload 6, 2) := by decide +kernel
theorem dX0_beginOf_48 : decode cX0_beginOf 48 = .ok (.getfield 52, 3) := by decide +kernel
theorem dX0_beginOf_51 : decode cX0_beginOf 51 = .ok (.iload_n 3, 1) := by decide +kernel
theorem dX0_beginOf_52 : decode cX0_beginOf 52 = .ok (.invokestatic 93, 3) := by decide +kernel
theorem dX0_beginOf_55 : decode cX0_beginOf 55 = .ok (.ifCond .eq 27, 3) := by decide +kernel
theorem dX0_beginOf_58 : decode cX0_beginOf 58 = .ok (.iload 4, 2) := by decide +kernel
theorem dX0_beginOf_60 : decode cX0_beginOf 60 = .ok (.bipush (-4), 2) := by decide +kernel
theorem dX0_beginOf_62 : decode cX0_beginOf 62 = .ok (.if_icmp .eq 13, 3) := by decide +kernel
theorem dX0_beginOf_65 : decode cX0_beginOf 65 = .ok (.aload 6, 2) := by decide +kernel
theorem dX0_beginOf_67 : decode cX0_beginOf 67 = .ok (.invokevirtual 86, 3) := by decide +kernel
theorem dX0_beginOf_70 : decode cX0_beginOf 70 = .ok (.iload 4, 2) := by decide +kernel
theorem dX0_beginOf_72 : decode cX0_beginOf 72 = .ok (.if_icmp .ge 10, 3) := by decide +kernel
theorem dX0_beginOf_75 : decode cX0_beginOf 75 = .ok (.aload 6, 2) := by decide +kernel
theorem dX0_beginOf_77 : decode cX0_beginOf 77 = .ok (.invokevirtual 86, 3) := by decide +kernel
theorem dX0_beginOf_80 : decode cX0_beginOf 80 = .ok (.istore 4, 2) := by decide +kernel
theorem dX0_beginOf_82 : decode cX0_beginOf 82 = .ok (.iinc 5 1, 3) := by decide +kernel
theorem dX0_beginOf_85 : decode cX0_beginOf 85 = .ok (.goto (-78), 3) := by decide +kernel
theorem dX0_beginOf_88 : decode cX0_beginOf 88 = .ok (.iload 4, 2) := by decide +kernel
theorem dX0_beginOf_90 : decode cX0_beginOf 90 = .ok (.ireturn, 1) := by decide +kernel
theorem dX0_isKept_0 : decode cX0_isKept 0 = .ok (.aload_n 0, 1) := by decide +kernel
theorem dX0_isKept_1 : decode cX0_isKept 1 = .ok (.iload_n 1, 1) := by decide +kernel
theorem dX0_isKept_2 : decode cX0_isKept 2 = .ok (.iload_n 3, 1) := by decide +kernel
theorem dX0_isKept_3 : decode cX0_isKept 3 = .ok (.aload_n 2, 1) := by decide +kernel
theorem dX0_isKept_4 : decode cX0_isKept 4 = .ok (.getfield 77, 3) := by decide +kernel
theorem dX0_isKept_7 : decode cX0_isKept 7 = .ok (.invokevirtual 100, 3) := by decide +kernel
theorem dX0_isKept_10 : decode cX0_isKept 10 = .ok (.istore 4, 2) := by decide +kernel
theorem dX0_isKept_12 : decode cX0_isKept 12 = .ok (.iload 4, 2) := by decide +kernel
theorem dX0_isKept_14 : decode cX0_isKept 14 = .ok (.bipush (-4), 2) := by decide +kernel
theorem dX0_isKept_16 : decode cX0_isKept 16 = .ok (.if_icmp .ne 5, 3) := by decide +kernel
theorem dX0_isKept_19 : decode cX0_isKept 19 = .ok (.iconst 1, 1) := by decide +kernel
theorem dX0_isKept_20 : decode cX0_isKept 20 = .ok (.ireturn, 1) := by decide +kernel
theorem dX0_isKept_21 : decode cX0_isKept 21 = .ok (.aload_n 0, 1) := by decide +kernel
theorem dX0_isKept_22 : decode cX0_isKept 22 = .ok (.iload_n 1, 1) := by decide +kernel
theorem dX0_isKept_23 : decode cX0_isKept 23 = .ok (.iload_n 3, 1) := by decide +kernel
theorem dX0_isKept_24 : decode cX0_isKept 24 = .ok (.aload_n 2, 1) := by decide +kernel
theorem dX0_isKept_25 : decode cX0_isKept 25 = .ok (.getfield 80, 3) := by decide +kernel
theorem dX0_isKept_28 : decode cX0_isKept 28 = .ok (.invokevirtual 100, 3) := by decide +kernel
theorem dX0_isKept_31 : decode cX0_isKept 31 = .ok (.istore 5, 2) := by decide +kernel
theorem dX0_isKept_33 : decode cX0_isKept 33 = .ok (.iload 5, 2) := by decide +kernel
theorem dX0_isKept_35 : decode cX0_isKept 35 = .ok (.bipush (-4), 2) := by decide +kernel
theorem dX0_isKept_37 : decode cX0_isKept 37 = .ok (.if_icmp .eq 15, 3) := by decide +kernel
theorem dX0_isKept_40 : decode cX0_isKept 40 = .ok (.iload 4, 2) := by decide +kernel
theorem dX0_isKept_42 : decode cX0_isKept 42 = .ok (.iload 5, 2) := by decide +kernel
theorem dX0_isKept_44 : decode cX0_isKept 44 = .ok (.isub, 1) := by decide +kernel
theorem dX0_isKept_45 : decode cX0_isKept 45 = .ok (.aload_n 2, 1) := by decide +kernel
theorem dX0_isKept_46 : decode cX0_isKept 46 = .ok (.getfield 83, 3) := by decide +kernel
theorem dX0_isKept_49 : decode cX0_isKept 49 = .ok (.if_icmp .lt 7, 3) := by decide +kernel
theorem dX0_isKept_52 : decode cX0_isKept 52 = .ok (.iconst 1, 1) := by decide +kernel
theorem dX0_isKept_53 : decode cX0_isKept 53 = .ok (.goto 4, 3) := by decide +kernel
theorem dX0_isKept_56 : decode cX0_isKept 56 = .ok (.iconst 0, 1) := by decide +kernel
theorem dX0_isKept_57 : decode cX0_isKept 57 = .ok (.ireturn, 1) := by decide +kernel
theorem dX0_areHoldsKept_0 : decode cX0_areHoldsKept 0 = .ok (.iconst 0, 1) := by decide +kernel
theorem dX0_areHoldsKept_1 : decode cX0_areHoldsKept 1 = .ok (.istore_n 2, 1) := by decide +kernel
theorem dX0_areHoldsKept_2 : decode cX0_areHoldsKept 2 = .ok (.iload_n 2, 1) := by decide +kernel
theorem dX0_areHoldsKept_3 : decode cX0_areHoldsKept 3 = .ok (.aload_n 0, 1) := by decide +kernel
theorem dX0_areHoldsKept_4 : decode cX0_areHoldsKept 4 = .ok (.getfield 29, 3) := by decide +kernel
theorem dX0_areHoldsKept_7 : decode cX0_areHoldsKept 7 = .ok (.if_icmp .ge 40, 3) := by decide +kernel
theorem dX0_areHoldsKept_10 : decode cX0_areHoldsKept 10 = .ok (.iconst 0, 1) := by decide +kernel
theorem dX0_areHoldsKept_11 : decode cX0_areHoldsKept 11 = .ok (.istore_n 3, 1) := by decide +kernel
theorem dX0_areHoldsKept_12 : decode cX0_areHoldsKept 12 = .ok (.iload_n 3, 1) := by decide +kernel
theorem dX0_areHoldsKept_13 : decode cX0_areHoldsKept 13 = .ok (.bipush 6, 2) := by decide +kernel
theorem dX0_areHoldsKept_15 : decode cX0_areHoldsKept 15 = .ok (.if_icmp .ge 26, 3) := by decide +kernel
theorem dX0_areHoldsKept_18 : decode cX0_areHoldsKept 18 = .ok (.aload_n 0, 1) := by decide +kernel
theorem dX0_areHoldsKept_19 : decode cX0_areHoldsKept 19 = .ok (.iload_n 1, 1) := by decide +kernel
theorem dX0_areHoldsKept_20 : decode cX0_areHoldsKept 20 = .ok (.aload_n 0, 1) := by decide +kernel
theorem dX0_areHoldsKept_21 : decode cX0_areHoldsKept 21 = .ok (.getfield 19, 3) := by decide +kernel
theorem dX0_areHoldsKept_24 : decode cX0_areHoldsKept 24 = .ok (.iload_n 2, 1) := by decide +kernel
theorem dX0_areHoldsKept_25 : decode cX0_areHoldsKept 25 = .ok (.aaload, 1) := by decide +kernel
theorem dX0_areHoldsKept_26 : decode cX0_areHoldsKept 26 = .ok (.iload_n 3, 1) := by decide +kernel
theorem dX0_areHoldsKept_27 : decode cX0_areHoldsKept 27 = .ok (.invokevirtual 104, 3) := by decide +kernel
theorem dX0_areHoldsKept_30 : decode cX0_areHoldsKept 30 = .ok (.ifCond .ne 5, 3) := by decide +kernel
theorem dX0_areHoldsKept_33 : decode cX0_areHoldsKept 33 = .ok (.iconst 0, 1) := by decide +kernel
theorem dX0_areHoldsKept_34 : decode cX0_areHoldsKept 34 = .ok (.ireturn, 1) := by decide +kernel
theorem dX0_areHoldsKept_35 : decode cX0_areHoldsKept 35 = .ok (.iinc 3 1, 3) := by decide +kernel
theorem dX0_areHoldsKept_38 : decode cX0_areHoldsKept 38 = .ok (.goto (-26), 3) := by decide +kernel
theorem dX0_areHoldsKept_41 : decode cX0_areHoldsKept 41 = .ok (.iinc 2 1, 3) := by decide +kernel
theorem dX0_areHoldsKept_44 : decode cX0_areHoldsKept 44 = .ok (.goto (-42), 3) := by decide +kernel
theorem dX0_areHoldsKept_47 : decode cX0_areHoldsKept 47 = .ok (.iconst 1, 1) := by decide +kernel
theorem dX0_areHoldsKept_48 : decode cX0_areHoldsKept 48 = .ok (.ireturn, 1) := by decide +kernel
theorem dX0_brokenLands_0 : decode cX0_brokenLands 0 = .ok (.iconst 0, 1) := by decide +kernel
theorem dX0_brokenLands_1 : decode cX0_brokenLands 1 = .ok (.istore_n 3, 1) := by decide +kernel
theorem dX0_brokenLands_2 : decode cX0_brokenLands 2 = .ok (.iconst 0, 1) := by decide +kernel
theorem dX0_brokenLands_3 : decode cX0_brokenLands 3 = .ok (.istore 4, 2) := by decide +kernel
theorem dX0_brokenLands_5 : decode cX0_brokenLands 5 = .ok (.iload 4, 2) := by decide +kernel
theorem dX0_brokenLands_7 : decode cX0_brokenLands 7 = .ok (.bipush 6, 2) := by decide +kernel
theorem dX0_brokenLands_9 : decode cX0_brokenLands 9 = .ok (.if_icmp .ge 27, 3) := by decide +kernel
theorem dX0_brokenLands_12 : decode cX0_brokenLands 12 = .ok (.aload_n 0, 1) := by decide +kernel
theorem dX0_brokenLands_13 : decode cX0_brokenLands 13 = .ok (.iload_n 1, 1) := by decide +kernel
theorem dX0_brokenLands_14 : decode cX0_brokenLands 14 = .ok (.aload_n 2, 1) := by decide +kernel
theorem dX0_brokenLands_15 : decode cX0_brokenLands 15 = .ok (.iload 4, 2) := by decide +kernel
theorem dX0_brokenLands_17 : decode cX0_brokenLands 17 = .ok (.invokevirtual 104, 3) := by decide +kernel
theorem dX0_brokenLands_20 : decode cX0_brokenLands 20 = .ok (.ifCond .ne 10, 3) := by decide +kernel
theorem dX0_brokenLands_23 : decode cX0_brokenLands 23 = .ok (.iload_n 3, 1) := by decide +kernel
theorem dX0_brokenLands_24 : decode cX0_brokenLands 24 = .ok (.iconst 1, 1) := by decide +kernel
theorem dX0_brokenLands_25 : decode cX0_brokenLands 25 = .ok (.iload 4, 2) := by decide +kernel
theorem dX0_brokenLands_27 : decode cX0_brokenLands 27 = .ok (.ishl, 1) := by decide +kernel
theorem dX0_brokenLands_28 : decode cX0_brokenLands 28 = .ok (.ior, 1) := by decide +kernel
theorem dX0_brokenLands_29 : decode cX0_brokenLands 29 = .ok (.istore_n 3, 1) := by decide +kernel
theorem dX0_brokenLands_30 : decode cX0_brokenLands 30 = .ok (.iinc 4 1, 3) := by decide +kernel
theorem dX0_brokenLands_33 : decode cX0_brokenLands 33 = .ok (.goto (-28), 3) := by decide +kernel
theorem dX0_brokenLands_36 : decode cX0_brokenLands 36 = .ok (.iload_n 3, 1) := by decide +kernel
theorem dX0_brokenLands_37 : decode cX0_brokenLands 37 = .ok (.ireturn, 1) := by decide +kernel
theorem dX0_priceOf_0 : decode cX0_priceOf 0 = .ok (.iconst 0, 1) := by decide +kernel
theorem dX0_priceOf_1 : decode cX0_priceOf 1 = .ok (.istore_n 2, 1) := by decide +kernel
theorem dX0_priceOf_2 : decode cX0_priceOf 2 = .ok (.iconst 0, 1) := by decide +kernel
theorem dX0_priceOf_3 : decode cX0_priceOf 3 = .ok (.istore_n 3, 1) := by decide +kernel
theorem dX0_priceOf_4 : decode cX0_priceOf 4 = .ok (.iload_n 3, 1) := by decide +kernel
theorem dX0_priceOf_5 : decode cX0_priceOf 5 = .ok (.aload_n 0, 1) := by decide +kernel
theorem dX0_priceOf_6 : decode cX0_priceOf 6 = .ok (.getfield 25, 3) := by decide +kernel
theorem dX0_priceOf_9 : decode cX0_priceOf 9 = .ok (.if_icmp .ge 29, 3) := by decide +kernel
theorem dX0_priceOf_12 : decode cX0_priceOf 12 = .ok (.iload_n 1, 1) := by decide +kernel
theorem dX0_priceOf_13 : decode cX0_priceOf 13 = .ok (.iload_n 3, 1) := by decide +kernel
theorem dX0_priceOf_14 : decode cX0_priceOf 14 = .ok (.invokestatic 93, 3) := by decide +kernel
theorem dX0_priceOf_17 : decode cX0_priceOf 17 = .ok (.ifCond .eq 15, 3) := by decide +kernel
theorem dX0_priceOf_20 : decode cX0_priceOf 20 = .ok (.iload_n 2, 1) := by decide +kernel
theorem dX0_priceOf_21 : decode cX0_priceOf 21 = .ok (.aload_n 0, 1) := by decide +kernel
theorem dX0_priceOf_22 : decode cX0_priceOf 22 = .ok (.getfield 11, 3) := by decide +kernel
theorem dX0_priceOf_25 : decode cX0_priceOf 25 = .ok (.iload_n 3, 1) := by decide +kernel
theorem dX0_priceOf_26 : decode cX0_priceOf 26 = .ok (.aaload, 1) := by decide +kernel
theorem dX0_priceOf_27 : decode cX0_priceOf 27 = .ok (.getfield 65, 3) := by decide +kernel
theorem dX0_priceOf_30 : decode cX0_priceOf 30 = .ok (.iadd, 1) := by decide +kernel
theorem dX0_priceOf_31 : decode cX0_priceOf 31 = .ok (.istore_n 2, 1) := by decide +kernel
theorem dX0_priceOf_32 : decode cX0_priceOf 32 = .ok (.iinc 3 1, 3) := by decide +kernel
theorem dX0_priceOf_35 : decode cX0_priceOf 35 = .ok (.goto (-31), 3) := by decide +kernel
theorem dX0_priceOf_38 : decode cX0_priceOf 38 = .ok (.iload_n 2, 1) := by decide +kernel
theorem dX0_priceOf_39 : decode cX0_priceOf 39 = .ok (.ireturn, 1) := by decide +kernel
theorem dX0_bestSet_0 : decode cX0_bestSet 0 = .ok (.aload_n 0, 1) := by decide +kernel
theorem dX0_bestSet_1 : decode cX0_bestSet 1 = .ok (.invokevirtual 108, 3) := by decide +kernel
theorem dX0_bestSet_4 : decode cX0_bestSet 4 = .ok (.istore_n 1, 1) := by decide +kernel
theorem dX0_bestSet_5 : decode cX0_bestSet 5 = .ok (.iconst 0, 1) := by decide +kernel
theorem dX0_bestSet_6 : decode cX0_bestSet 6 = .ok (.istore_n 2, 1) := by decide +kernel
theorem dX0_bestSet_7 : decode cX0_bestSet 7 = .ok (.iconst 0, 1) := by decide +kernel
theorem dX0_bestSet_8 : decode cX0_bestSet 8 = .ok (.istore_n 3, 1) := by decide +kernel
theorem dX0_bestSet_9 : decode cX0_bestSet 9 = .ok (.iconst 1, 1) := by decide +kernel
theorem dX0_bestSet_10 : decode cX0_bestSet 10 = .ok (.istore 4, 2) := by decide +kernel
theorem dX0_bestSet_12 : decode cX0_bestSet 12 = .ok (.iload 4, 2) := by decide +kernel
theorem dX0_bestSet_14 : decode cX0_bestSet 14 = .ok (.iconst 1, 1) := by decide +kernel
theorem dX0_bestSet_15 : decode cX0_bestSet 15 = .ok (.aload_n 0, 1) := by decide +kernel
theorem dX0_bestSet_16 : decode cX0_bestSet 16 = .ok (.getfield 25, 3) := by decide +kernel
theorem dX0_bestSet_19 : decode cX0_bestSet 19 = .ok (.ishl, 1) := by decide +kernel
theorem dX0_bestSet_20 : decode cX0_bestSet 20 = .ok (.if_icmp .ge 87, 3) := by decide +kernel
theorem dX0_bestSet_23 : decode cX0_bestSet 23 = .ok (.iload 4, 2) := by decide +kernel
theorem dX0_bestSet_25 : decode cX0_bestSet 25 = .ok (.iload_n 1, 1) := by decide +kernel
theorem dX0_bestSet_26 : decode cX0_bestSet 26 = .ok (.iand, 1) := by decide +kernel
theorem dX0_bestSet_27 : decode cX0_bestSet 27 = .ok (.ifCond .eq 6, 3) := by decide +kernel
theorem dX0_bestSet_30 : decode cX0_bestSet 30 = .ok (.goto 71, 3) := by decide +kernel
theorem dX0_bestSet_33 : decode cX0_bestSet 33 = .ok (.aload_n 0, 1) := by decide +kernel
theorem dX0_bestSet_34 : decode cX0_bestSet 34 = .ok (.iload 4, 2) := by decide +kernel
theorem dX0_bestSet_36 : decode cX0_bestSet 36 = .ok (.invokevirtual 111, 3) := by decide +kernel
theorem dX0_bestSet_39 : decode cX0_bestSet 39 = .ok (.istore 5, 2) := by decide +kernel
theorem dX0_bestSet_41 : decode cX0_bestSet 41 = .ok (.iload 5, 2) := by decide +kernel
theorem dX0_bestSet_43 : decode cX0_bestSet 43 = .ok (.iload_n 3, 1) := by decide +kernel
theorem dX0_bestSet_44 : decode cX0_bestSet 44 = .ok (.if_icmp .gt 21, 3) := by decide +kernel
theorem dX0_bestSet_47 : decode cX0_bestSet 47 = .ok (.iload 5, 2) := by decide +kernel
theorem dX0_bestSet_49 : decode cX0_bestSet 49 = .ok (.iload_n 3, 1) := by decide +kernel
theorem dX0_bestSet_50 : decode cX0_bestSet 50 = .ok (.if_icmp .ne 19, 3) := by decide +kernel
theorem dX0_bestSet_53 : decode cX0_bestSet 53 = .ok (.iload 4, 2) := by decide +kernel
theorem dX0_bestSet_55 : decode cX0_bestSet 55 = .ok (.invokestatic 115, 3) := by decide +kernel
theorem dX0_bestSet_58 : decode cX0_bestSet 58 = .ok (.iload_n 2, 1) := by decide +kernel
theorem dX0_bestSet_59 : decode cX0_bestSet 59 = .ok (.invokestatic 115, 3) := by decide +kernel
theorem dX0_bestSet_62 : decode cX0_bestSet 62 = .ok (.if_icmp .ge 7, 3) := by decide +kernel
theorem dX0_bestSet_65 : decode cX0_bestSet 65 = .ok (.iconst 1, 1) := by decide +kernel
theorem dX0_bestSet_66 : decode cX0_bestSet 66 = .ok (.goto 4, 3) := by decide +kernel
theorem dX0_bestSet_69 : decode cX0_bestSet 69 = .ok (.iconst 0, 1) := by decide +kernel
theorem dX0_bestSet_70 : decode cX0_bestSet 70 = .ok (.istore 6, 2) := by decide +kernel
theorem dX0_bestSet_72 : decode cX0_bestSet 72 = .ok (.iload 6, 2) := by decide +kernel
theorem dX0_bestSet_74 : decode cX0_bestSet 74 = .ok (.ifCond .eq 27, 3) := by decide +kernel
theorem dX0_bestSet_77 : decode cX0_bestSet 77 = .ok (.aload_n 0, 1) := by decide +kernel
theorem dX0_bestSet_78 : decode cX0_bestSet 78 = .ok (.iload 4, 2) := by decide +kernel
theorem dX0_bestSet_80 : decode cX0_bestSet 80 = .ok (.invokevirtual 120, 3) := by decide +kernel
theorem dX0_bestSet_83 : decode cX0_bestSet 83 = .ok (.ifCond .eq 18, 3) := by decide +kernel
theorem dX0_bestSet_86 : decode cX0_bestSet 86 = .ok (.aload_n 0, 1) := by decide +kernel
theorem dX0_bestSet_87 : decode cX0_bestSet 87 = .ok (.iload 4, 2) := by decide +kernel
theorem dX0_bestSet_89 : decode cX0_bestSet 89 = .ok (.invokevirtual 124, 3) := by decide +kernel
theorem dX0_bestSet_92 : decode cX0_bestSet 92 = .ok (.ifCond .eq 9, 3) := by decide +kernel
theorem dX0_bestSet_95 : decode cX0_bestSet 95 = .ok (.iload 4, 2) := by decide +kernel
theorem dX0_bestSet_97 : decode cX0_bestSet 97 = .ok (.istore_n 2, 1) := by decide +kernel
theorem dX0_bestSet_98 : decode cX0_bestSet 98 = .ok (.iload 5, 2) := by decide +kernel
theorem dX0_bestSet_100 : decode cX0_bestSet 100 = .ok (.istore_n 3, 1) := by decide +kernel
theorem dX0_bestSet_101 : decode cX0_bestSet 101 = .ok (.iinc 4 1, 3) := by decide +kernel
theorem dX0_bestSet_104 : decode cX0_bestSet 104 = .ok (.goto (-92), 3) := by decide +kernel
theorem dX0_bestSet_107 : decode cX0_bestSet 107 = .ok (.iload_n 2, 1) := by decide +kernel
theorem dX0_bestSet_108 : decode cX0_bestSet 108 = .ok (.ireturn, 1) := by decide +kernel
theorem dX0_outsideTerm_0 : decode cX0_outsideTerm 0 = .ok (.iconst 0, 1) := by decide +kernel
theorem dX0_outsideTerm_1 : decode cX0_outsideTerm 1 = .ok (.istore_n 1, 1) := by decide +kernel
theorem dX0_outsideTerm_2 : decode cX0_outsideTerm 2 = .ok (.iconst 0, 1) := by decide +kernel
theorem dX0_outsideTerm_3 : decode cX0_outsideTerm 3 = .ok (.istore_n 2, 1) := by decide +kernel
theorem dX0_outsideTerm_4 : decode cX0_outsideTerm 4 = .ok (.iload_n 2, 1) := by decide +kernel
theorem dX0_outsideTerm_5 : decode cX0_outsideTerm 5 = .ok (.aload_n 0, 1) := by decide +kernel
theorem dX0_outsideTerm_6 : decode cX0_outsideTerm 6 = .ok (.getfield 25, 3) := by decide +kernel
theorem dX0_outsideTerm_9 : decode cX0_outsideTerm 9 = .ok (.if_icmp .ge 23, 3) := by decide +kernel
theorem dX0_outsideTerm_12 : decode cX0_outsideTerm 12 = .ok (.aload_n 0, 1) := by decide +kernel
theorem dX0_outsideTerm_13 : decode cX0_outsideTerm 13 = .ok (.iload_n 2, 1) := by decide +kernel
theorem dX0_outsideTerm_14 : decode cX0_outsideTerm 14 = .ok (.invokevirtual 127, 3) := by decide +kernel
theorem dX0_outsideTerm_17 : decode cX0_outsideTerm 17 = .ok (.ifCond .ne 9, 3) := by decide +kernel
theorem dX0_outsideTerm_20 : decode cX0_outsideTerm 20 = .ok (.iload_n 1, 1) := by decide +kernel
theorem dX0_outsideTerm_21 : decode cX0_outsideTerm 21 = .ok (.iconst 1, 1) := by decide +kernel
theorem dX0_outsideTerm_22 : decode cX0_outsideTerm 22 = .ok (.iload_n 2, 1) := by decide +kernel
theorem dX0_outsideTerm_23 : decode cX0_outsideTerm 23 = .ok (.ishl, 1) := by decide +kernel
theorem dX0_outsideTerm_24 : decode cX0_outsideTerm 24 = .ok (.ior, 1) := by decide +kernel
theorem dX0_outsideTerm_25 : decode cX0_outsideTerm 25 = .ok (.istore_n 1, 1) := by decide +kernel
theorem dX0_outsideTerm_26 : decode cX0_outsideTerm 26 = .ok (.iinc 2 1, 3) := by decide +kernel
theorem dX0_outsideTerm_29 : decode cX0_outsideTerm 29 = .ok (.goto (-25), 3) := by decide +kernel
theorem dX0_outsideTerm_32 : decode cX0_outsideTerm 32 = .ok (.iload_n 1, 1) := by decide +kernel
theorem dX0_outsideTerm_33 : decode cX0_outsideTerm 33 = .ok (.ireturn, 1) := by decide +kernel
theorem dX0_isWithoutClash_0 : decode cX0_isWithoutClash 0 = .ok (.iconst 0, 1) := by decide +kernel
theorem dX0_isWithoutClash_1 : decode cX0_isWithoutClash 1 = .ok (.istore_n 2, 1) := by decide +kernel
theorem dX0_isWithoutClash_2 : decode cX0_isWithoutClash 2 = .ok (.iload_n 2, 1) := by decide +kernel
theorem dX0_isWithoutClash_3 : decode cX0_isWithoutClash 3 = .ok (.aload_n 0, 1) := by decide +kernel
theorem dX0_isWithoutClash_4 : decode cX0_isWithoutClash 4 = .ok (.getfield 25, 3) := by decide +kernel
theorem dX0_isWithoutClash_7 : decode cX0_isWithoutClash 7 = .ok (.if_icmp .ge 30, 3) := by decide +kernel
theorem dX0_isWithoutClash_10 : decode cX0_isWithoutClash 10 = .ok (.iload_n 1, 1) := by decide +kernel
theorem dX0_isWithoutClash_11 : decode cX0_isWithoutClash 11 = .ok (.iload_n 2, 1) := by decide +kernel
theorem dX0_isWithoutClash_12 : decode cX0_isWithoutClash 12 = .ok (.invokestatic 93, 3) := by decide +kernel
theorem dX0_isWithoutClash_15 : decode cX0_isWithoutClash 15 = .ok (.ifCond .eq 16, 3) := by decide +kernel
theorem dX0_isWithoutClash_18 : decode cX0_isWithoutClash 18 = .ok (.aload_n 0, 1) := by decide +kernel
theorem dX0_isWithoutClash_19 : decode cX0_isWithoutClash 19 = .ok (.iload_n 2, 1) := by decide +kernel
theorem dX0_isWithoutClash_20 : decode cX0_isWithoutClash 20 = .ok (.iload_n 1, 1) := by decide +kernel
theorem dX0_isWithoutClash_21 : decode cX0_isWithoutClash 21 = .ok (.invokevirtual 130, 3) := by decide +kernel
theorem dX0_isWithoutClash_24 : decode cX0_isWithoutClash 24 = .ok (.bipush (-4), 2) := by decide +kernel
theorem dX0_isWithoutClash_26 : decode cX0_isWithoutClash 26 = .ok (.if_icmp .eq 5, 3) := by decide +kernel
theorem dX0_isWithoutClash_29 : decode cX0_isWithoutClash 29 = .ok (.iconst 0, 1) := by decide +kernel
theorem dX0_isWithoutClash_30 : decode cX0_isWithoutClash 30 = .ok (.ireturn, 1) := by decide +kernel
theorem dX0_isWithoutClash_31 : decode cX0_isWithoutClash 31 = .ok (.iinc 2 1, 3) := by decide +kernel
theorem dX0_isWithoutClash_34 : decode cX0_isWithoutClash 34 = .ok (.goto (-32), 3) := by decide +kernel
theorem dX0_isWithoutClash_37 : decode cX0_isWithoutClash 37 = .ok (.iconst 1, 1) := by decide +kernel
theorem dX0_isWithoutClash_38 : decode cX0_isWithoutClash 38 = .ok (.ireturn, 1) := by decide +kernel
theorem dX1_init_0 : decode cX1_init 0 = .ok (.aload_n 0, 1) := by decide +kernel
theorem dX1_init_1 : decode cX1_init 1 = .ok (.invokespecial 1, 3) := by decide +kernel
theorem dX1_init_4 : decode cX1_init 4 = .ok (.return_, 1) := by decide +kernel
theorem dX2_init_0 : decode cX2_init 0 = .ok (.aload_n 0, 1) := by decide +kernel
theorem dX2_init_1 : decode cX2_init 1 = .ok (.invokespecial 3, 3) := by decide +kernel
theorem dX2_init_4 : decode cX2_init 4 = .ok (.aload_n 0, 1) := by decide +kernel
theorem dX2_init_5 : decode cX2_init 5 = .ok (.bipush 6, 2) := by decide +kernel
theorem dX2_init_7 : decode cX2_init 7 = .ok (.anewarray 9, 3) := by decide +kernel
theorem dX2_init_10 : decode cX2_init 10 = .ok (.putfield 11, 3) := by decide +kernel
theorem dX2_init_13 : decode cX2_init 13 = .ok (.iconst 0, 1) := by decide +kernel
theorem dX2_init_14 : decode cX2_init 14 = .ok (.istore_n 1, 1) := by decide +kernel
theorem dX2_init_15 : decode cX2_init 15 = .ok (.iload_n 1, 1) := by decide +kernel
theorem dX2_init_16 : decode cX2_init 16 = .ok (.bipush 6, 2) := by decide +kernel
theorem dX2_init_18 : decode cX2_init 18 = .ok (.if_icmp .ge 22, 3) := by decide +kernel
theorem dX2_init_21 : decode cX2_init 21 = .ok (.aload_n 0, 1) := by decide +kernel
theorem dX2_init_22 : decode cX2_init 22 = .ok (.getfield 11, 3) := by decide +kernel
theorem dX2_init_25 : decode cX2_init 25 = .ok (.iload_n 1, 1) := by decide +kernel
theorem dX2_init_26 : decode cX2_init 26 = .ok (.new 9, 3) := by decide +kernel
theorem dX2_init_29 : decode cX2_init 29 = .ok (.dup, 1) := by decide +kernel
theorem dX2_init_30 : decode cX2_init 30 = .ok (.invokespecial 17, 3) := by decide +kernel
theorem dX2_init_33 : decode cX2_init 33 = .ok (.aastore, 1) := by decide +kernel
theorem dX2_init_34 : decode cX2_init 34 = .ok (.iinc 1 1, 3) := by decide +kernel
theorem dX2_init_37 : decode cX2_init 37 = .ok (.goto (-22), 3) := by decide +kernel
theorem dX2_init_40 : decode cX2_init 40 = .ok (.return_, 1) := by decide +kernel
theorem dX2_forget_0 : decode cX2_forget 0 = .ok (.aload_n 0, 1) := by decide +kernel
theorem dX2_forget_1 : decode cX2_forget 1 = .ok (.iconst 0, 1) := by decide +kernel
theorem dX2_forget_2 : decode cX2_forget 2 = .ok (.putfield 18, 3) := by decide +kernel
theorem dX2_forget_5 : decode cX2_forget 5 = .ok (.return_, 1) := by decide +kernel
theorem dX2_add_0 : decode cX2_add 0 = .ok (.aload_n 0, 1) := by decide +kernel
theorem dX2_add_1 : decode cX2_add 1 = .ok (.getfield 18, 3) := by decide +kernel
theorem dX2_add_4 : decode cX2_add 4 = .ok (.bipush 6, 2) := by decide +kernel
theorem dX2_add_6 : decode cX2_add 6 = .ok (.if_icmp .lt 7, 3) := by decide +kernel
theorem dX2_add_9 : decode cX2_add 9 = .ok (.aload_n 0, 1) := by decide +kernel
theorem dX2_add_10 : decode cX2_add 10 = .ok (.invokevirtual 22, 3) := by decide +kernel
theorem dX2_add_13 : decode cX2_add 13 = .ok (.aload_n 0, 1) := by decide +kernel
theorem dX2_add_14 : decode cX2_add 14 = .ok (.getfield 11, 3) := by decide +kernel
theorem dX2_add_17 : decode cX2_add 17 = .ok (.aload_n 0, 1) := by decide +kernel
theorem dX2_add_18 : decode cX2_add 18 = .ok (.getfield 18, 3) := by decide +kernel
theorem dX2_add_21 : decode cX2_add 21 = .ok (.aaload, 1) := by decide +kernel
theorem dX2_add_22 : decode cX2_add 22 = .ok (.astore 4, 2) := by decide +kernel
theorem dX2_add_24 : decode cX2_add 24 = .ok (.aload 4, 2) := by decide +kernel
theorem dX2_add_26 : decode cX2_add 26 = .ok (.iload_n 1, 1) := by decide +kernel
theorem dX2_add_27 : decode cX2_add 27 = .ok (.putfield 25, 3) := by decide +kernel
theorem dX2_add_30 : decode cX2_add 30 = .ok (.aload 4, 2) := by decide +kernel
theorem dX2_add_32 : decode cX2_add 32 = .ok (.iload_n 2, 1) := by decide +kernel
theorem dX2_add_33 : decode cX2_add 33 = .ok (.putfield 28, 3) := by decide +kernel
theorem dX2_add_36 : decode cX2_add 36 = .ok (.aload 4, 2) := by decide +kernel
theorem dX2_add_38 : decode cX2_add 38 = .ok (.iload_n 3, 1) := by decide +kernel
theorem dX2_add_39 : decode cX2_add 39 = .ok (.putfield 31, 3) := by decide +kernel
theorem dX2_add_42 : decode cX2_add 42 = .ok (.aload_n 0, 1) := by decide +kernel
theorem dX2_add_43 : decode cX2_add 43 = .ok (.dup, 1) := by decide +kernel
theorem dX2_add_44 : decode cX2_add 44 = .ok (.getfield 18, 3) := by decide +kernel
theorem dX2_add_47 : decode cX2_add 47 = .ok (.iconst 1, 1) := by decide +kernel
theorem dX2_add_48 : decode cX2_add 48 = .ok (.iadd, 1) := by decide +kernel
theorem dX2_add_49 : decode cX2_add 49 = .ok (.putfield 18, 3) := by decide +kernel
theorem dX2_add_52 : decode cX2_add 52 = .ok (.return_, 1) := by decide +kernel
theorem dX2_loseOldest_0 : decode cX2_loseOldest 0 = .ok (.aload_n 0, 1) := by decide +kernel
theorem dX2_loseOldest_1 : decode cX2_loseOldest 1 = .ok (.getfield 11, 3) := by decide +kernel
theorem dX2_loseOldest_4 : decode cX2_loseOldest 4 = .ok (.iconst 0, 1) := by decide +kernel
theorem dX2_loseOldest_5 : decode cX2_loseOldest 5 = .ok (.aaload, 1) := by decide +kernel
theorem dX2_loseOldest_6 : decode cX2_loseOldest 6 = .ok (.astore_n 1, 1) := by decide +kernel
theorem dX2_loseOldest_7 : decode cX2_loseOldest 7 = .ok (.iconst 1, 1) := by decide +kernel
theorem dX2_loseOldest_8 : decode cX2_loseOldest 8 = .ok (.istore_n 2, 1) := by decide +kernel
theorem dX2_loseOldest_9 : decode cX2_loseOldest 9 = .ok (.iload_n 2, 1) := by decide +kernel
theorem dX2_loseOldest_10 : decode cX2_loseOldest 10 = .ok (.bipush 6, 2) := by decide +kernel
theorem dX2_loseOldest_12 : decode cX2_loseOldest 12 = .ok (.if_icmp .ge 23, 3) := by decide +kernel
theorem dX2_loseOldest_15 : decode cX2_loseOldest 15 = .ok (.aload_n 0, 1) := by decide +kernel
theorem dX2_loseOldest_16 : decode cX2_loseOldest 16 = .ok (.getfield 11, 3) := by decide +kernel
theorem dX2_loseOldest_19 : decode cX2_loseOldest 19 = .ok (.iload_n 2, 1) := by decide +kernel
theorem dX2_loseOldest_20 : decode cX2_loseOldest 20 = .ok (.iconst 1, 1) := by decide +kernel
theorem dX2_loseOldest_21 : decode cX2_loseOldest 21 = .ok (.isub, 1) := by decide +kernel
theorem dX2_loseOldest_22 : decode cX2_loseOldest 22 = .ok (.aload_n 0, 1) := by decide +kernel
theorem dX2_loseOldest_23 : decode cX2_loseOldest 23 = .ok (.getfield 11, 3) := by decide +kernel
theorem dX2_loseOldest_26 : decode cX2_loseOldest 26 = .ok (.iload_n 2, 1) := by decide +kernel
theorem dX2_loseOldest_27 : decode cX2_loseOldest 27 = .ok (.aaload, 1) := by decide +kernel
theorem dX2_loseOldest_28 : decode cX2_loseOldest 28 = .ok (.aastore, 1) := by decide +kernel
theorem dX2_loseOldest_29 : decode cX2_loseOldest 29 = .ok (.iinc 2 1, 3) := by decide +kernel
theorem dX2_loseOldest_32 : decode cX2_loseOldest 32 = .ok (.goto (-23), 3) := by decide +kernel
theorem dX2_loseOldest_35 : decode cX2_loseOldest 35 = .ok (.aload_n 0, 1) := by decide +kernel
theorem dX2_loseOldest_36 : decode cX2_loseOldest 36 = .ok (.getfield 11, 3) := by decide +kernel
theorem dX2_loseOldest_39 : decode cX2_loseOldest 39 = .ok (.iconst 5, 1) := by decide +kernel
theorem dX2_loseOldest_40 : decode cX2_loseOldest 40 = .ok (.aload_n 1, 1) := by decide +kernel
theorem dX2_loseOldest_41 : decode cX2_loseOldest 41 = .ok (.aastore, 1) := by decide +kernel
theorem dX2_loseOldest_42 : decode cX2_loseOldest 42 = .ok (.aload_n 0, 1) := by decide +kernel
theorem dX2_loseOldest_43 : decode cX2_loseOldest 43 = .ok (.iconst 5, 1) := by decide +kernel
theorem dX2_loseOldest_44 : decode cX2_loseOldest 44 = .ok (.putfield 18, 3) := by decide +kernel
theorem dX2_loseOldest_47 : decode cX2_loseOldest 47 = .ok (.return_, 1) := by decide +kernel
theorem dX2_takeLatest_0 : decode cX2_takeLatest 0 = .ok (.aload_n 0, 1) := by decide +kernel
theorem dX2_takeLatest_1 : decode cX2_takeLatest 1 = .ok (.getfield 18, 3) := by decide +kernel
theorem dX2_takeLatest_4 : decode cX2_takeLatest 4 = .ok (.ifCond .gt 5, 3) := by decide +kernel
theorem dX2_takeLatest_7 : decode cX2_takeLatest 7 = .ok (.aconst_null, 1) := by decide +kernel
theorem dX2_takeLatest_8 : decode cX2_takeLatest 8 = .ok (.areturn, 1) := by decide +kernel
theorem dX2_takeLatest_9 : decode cX2_takeLatest 9 = .ok (.aload_n 0, 1) := by decide +kernel
theorem dX2_takeLatest_10 : decode cX2_takeLatest 10 = .ok (.dup, 1) := by decide +kernel
theorem dX2_takeLatest_11 : decode cX2_takeLatest 11 = .ok (.getfield 18, 3) := by decide +kernel
theorem dX2_takeLatest_14 : decode cX2_takeLatest 14 = .ok (.iconst 1, 1) := by decide +kernel
theorem dX2_takeLatest_15 : decode cX2_takeLatest 15 = .ok (.isub, 1) := by decide +kernel
theorem dX2_takeLatest_16 : decode cX2_takeLatest 16 = .ok (.putfield 18, 3) := by decide +kernel
theorem dX2_takeLatest_19 : decode cX2_takeLatest 19 = .ok (.aload_n 0, 1) := by decide +kernel
theorem dX2_takeLatest_20 : decode cX2_takeLatest 20 = .ok (.getfield 11, 3) := by decide +kernel
theorem dX2_takeLatest_23 : decode cX2_takeLatest 23 = .ok (.aload_n 0, 1) := by decide +kernel
theorem dX2_takeLatest_24 : decode cX2_takeLatest 24 = .ok (.getfield 18, 3) := by decide +kernel
theorem dX2_takeLatest_27 : decode cX2_takeLatest 27 = .ok (.aaload, 1) := by decide +kernel
theorem dX2_takeLatest_28 : decode cX2_takeLatest 28 = .ok (.areturn, 1) := by decide +kernel
theorem dX3_init_0 : decode cX3_init 0 = .ok (.aload_n 0, 1) := by decide +kernel
theorem dX3_init_1 : decode cX3_init 1 = .ok (.invokespecial 1, 3) := by decide +kernel
theorem dX3_init_4 : decode cX3_init 4 = .ok (.return_, 1) := by decide +kernel
theorem dX4_init_0 : decode cX4_init 0 = .ok (.aload_n 0, 1) := by decide +kernel
theorem dX4_init_1 : decode cX4_init 1 = .ok (.invokespecial 3, 3) := by decide +kernel
theorem dX4_init_4 : decode cX4_init 4 = .ok (.return_, 1) := by decide +kernel
theorem dX4_firstNow_0 : decode cX4_firstNow 0 = .ok (.aload_n 0, 1) := by decide +kernel
theorem dX4_firstNow_1 : decode cX4_firstNow 1 = .ok (.getfield 9, 3) := by decide +kernel
theorem dX4_firstNow_4 : decode cX4_firstNow 4 = .ok (.aload_n 0, 1) := by decide +kernel
theorem dX4_firstNow_5 : decode cX4_firstNow 5 = .ok (.getfield 15, 3) := by decide +kernel
theorem dX4_firstNow_8 : decode cX4_firstNow 8 = .ok (.iadd, 1) := by decide +kernel
theorem dX4_firstNow_9 : decode cX4_firstNow 9 = .ok (.ireturn, 1) := by decide +kernel
theorem dX4_lastNow_0 : decode cX4_lastNow 0 = .ok (.aload_n 0, 1) := by decide +kernel
theorem dX4_lastNow_1 : decode cX4_lastNow 1 = .ok (.getfield 18, 3) := by decide +kernel
theorem dX4_lastNow_4 : decode cX4_lastNow 4 = .ok (.aload_n 0, 1) := by decide +kernel
theorem dX4_lastNow_5 : decode cX4_lastNow 5 = .ok (.getfield 15, 3) := by decide +kernel
theorem dX4_lastNow_8 : decode cX4_lastNow 8 = .ok (.iadd, 1) := by decide +kernel
theorem dX4_lastNow_9 : decode cX4_lastNow 9 = .ok (.ireturn, 1) := by decide +kernel
theorem dX4_farthestMove_0 : decode cX4_farthestMove 0 = .ok (.bipush 51, 2) := by decide +kernel
theorem dX4_farthestMove_2 : decode cX4_farthestMove 2 = .ok (.aload_n 0, 1) := by decide +kernel
theorem dX4_farthestMove_3 : decode cX4_farthestMove 3 = .ok (.getfield 18, 3) := by decide +kernel
theorem dX4_farthestMove_6 : decode cX4_farthestMove 6 = .ok (.isub, 1) := by decide +kernel
theorem dX4_farthestMove_7 : decode cX4_farthestMove 7 = .ok (.ireturn, 1) := by decide +kernel
theorem dX4_weeksNow_0 : decode cX4_weeksNow 0 = .ok (.aload_n 0, 1) := by decide +kernel
theorem dX4_weeksNow_1 : decode cX4_weeksNow 1 = .ok (.invokevirtual 21, 3) := by decide +kernel
theorem dX4_weeksNow_4 : decode cX4_weeksNow 4 = .ok (.aload_n 0, 1) := by decide +kernel
theorem dX4_weeksNow_5 : decode cX4_weeksNow 5 = .ok (.invokevirtual 25, 3) := by decide +kernel
theorem dX4_weeksNow_8 : decode cX4_weeksNow 8 = .ok (.invokestatic 28, 3) := by decide +kernel
theorem dX4_weeksNow_11 : decode cX4_weeksNow 11 = .ok (.lreturn, 1) := by decide +kernel
theorem dX4_hasCell_0 : decode cX4_hasCell 0 = .ok (.aload_n 0, 1) := by decide +kernel
theorem dX4_hasCell_1 : decode cX4_hasCell 1 = .ok (.getfield 32, 3) := by decide +kernel
theorem dX4_hasCell_4 : decode cX4_hasCell 4 = .ok (.iload_n 1, 1) := by decide +kernel
theorem dX4_hasCell_5 : decode cX4_hasCell 5 = .ok (.invokestatic 35, 3) := by decide +kernel
theorem dX4_hasCell_8 : decode cX4_hasCell 8 = .ok (.invokestatic 39, 3) := by decide +kernel
theorem dX4_hasCell_11 : decode cX4_hasCell 11 = .ok (.ifCond .eq 35, 3) := by decide +kernel
theorem dX4_hasCell_14 : decode cX4_hasCell 14 = .ok (.aload_n 0, 1) := by decide +kernel
theorem dX4_hasCell_15 : decode cX4_hasCell 15 = .ok (.getfield 43, 3) := by decide +kernel
theorem dX4_hasCell_18 : decode cX4_hasCell 18 = .ok (.iload_n 1, 1) := by decide +kernel
theorem dX4_hasCell_19 : decode cX4_hasCell 19 = .ok (.invokestatic 46, 3) := by decide +kernel
theorem dX4_hasCell_22 : decode cX4_hasCell 22 = .ok (.invokestatic 39, 3) := by decide +kernel
theorem dX4_hasCell_25 : decode cX4_hasCell 25 = .ok (.ifCond .eq 21, 3) := by decide +kernel
theorem dX4_hasCell_28 : decode cX4_hasCell 28 = .ok (.aload_n 0, 1) := by decide +kernel
theorem dX4_hasCell_29 : decode cX4_hasCell 29 = .ok (.getfield 49, 3) := by decide +kernel
theorem dX4_hasCell_32 : decode cX4_hasCell 32 = .ok (.iload_n 1, 1) := by decide +kernel
theorem dX4_hasCell_33 : decode cX4_hasCell 33 = .ok (.invokestatic 52, 3) := by decide +kernel
theorem dX4_hasCell_36 : decode cX4_hasCell 36 = .ok (.invokestatic 39, 3) := by decide +kernel
theorem dX4_hasCell_39 : decode cX4_hasCell 39 = .ok (.ifCond .eq 7, 3) := by decide +kernel
theorem dX4_hasCell_42 : decode cX4_hasCell 42 = .ok (.iconst 1, 1) := by decide +kernel
theorem dX4_hasCell_43 : decode cX4_hasCell 43 = .ok (.goto 4, 3) := by decide +kernel
theorem dX4_hasCell_46 : decode cX4_hasCell 46 = .ok (.iconst 0, 1) := by decide +kernel
theorem dX4_hasCell_47 : decode cX4_hasCell 47 = .ok (.ireturn, 1) := by decide +kernel
theorem dX4_commonPoints_0 : decode cX4_commonPoints 0 = .ok (.aload_n 0, 1) := by decide +kernel
theorem dX4_commonPoints_1 : decode cX4_commonPoints 1 = .ok (.getfield 32, 3) := by decide +kernel
theorem dX4_commonPoints_4 : decode cX4_commonPoints 4 = .ok (.aload_n 1, 1) := by decide +kernel
theorem dX4_commonPoints_5 : decode cX4_commonPoints 5 = .ok (.getfield 32, 3) := by decide +kernel
theorem dX4_commonPoints_8 : decode cX4_commonPoints 8 = .ok (.iand, 1) := by decide +kernel
theorem dX4_commonPoints_9 : decode cX4_commonPoints 9 = .ok (.invokestatic 55, 3) := by decide +kernel
theorem dX4_commonPoints_12 : decode cX4_commonPoints 12 = .ok (.aload_n 0, 1) := by decide +kernel
theorem dX4_commonPoints_13 : decode cX4_commonPoints 13 = .ok (.getfield 43, 3) := by decide +kernel
theorem dX4_commonPoints_16 : decode cX4_commonPoints 16 = .ok (.aload_n 1, 1) := by decide +kernel
theorem dX4_commonPoints_17 : decode cX4_commonPoints 17 = .ok (.getfield 43, 3) := by decide +kernel
theorem dX4_commonPoints_20 : decode cX4_commonPoints 20 = .ok (.iand, 1) := by decide +kernel
theorem dX4_commonPoints_21 : decode cX4_commonPoints 21 = .ok (.invokestatic 55, 3) := by decide +kernel
theorem dX4_commonPoints_24 : decode cX4_commonPoints 24 = .ok (.imul, 1) := by decide +kernel
theorem dX4_commonPoints_25 : decode cX4_commonPoints 25 = .ok (.aload_n 0, 1) := by decide +kernel
theorem dX4_commonPoints_26 : decode cX4_commonPoints 26 = .ok (.getfield 49, 3) := by decide +kernel
theorem dX4_commonPoints_29 : decode cX4_commonPoints 29 = .ok (.aload_n 1, 1) := by decide +kernel
theorem dX4_commonPoints_30 : decode cX4_commonPoints 30 = .ok (.getfield 49, 3) := by decide +kernel
theorem dX4_commonPoints_33 : decode cX4_commonPoints 33 = .ok (.iand, 1) := by decide +kernel
theorem dX4_commonPoints_34 : decode cX4_commonPoints 34 = .ok (.invokestatic 55, 3) := by decide +kernel
theorem dX4_commonPoints_37 : decode cX4_commonPoints 37 = .ok (.imul, 1) := by decide +kernel
theorem dX4_commonPoints_38 : decode cX4_commonPoints 38 = .ok (.aload_n 0, 1) := by decide +kernel
theorem dX4_commonPoints_39 : decode cX4_commonPoints 39 = .ok (.invokevirtual 60, 3) := by decide +kernel
theorem dX4_commonPoints_42 : decode cX4_commonPoints 42 = .ok (.aload_n 1, 1) := by decide +kernel
theorem dX4_commonPoints_43 : decode cX4_commonPoints 43 = .ok (.invokevirtual 60, 3) := by decide +kernel
theorem dX4_commonPoints_46 : decode cX4_commonPoints 46 = .ok (.land, 1) := by decide +kernel
theorem dX4_commonPoints_47 : decode cX4_commonPoints 47 = .ok (.invokestatic 64, 3) := by decide +kernel
theorem dX4_commonPoints_50 : decode cX4_commonPoints 50 = .ok (.imul, 1) := by decide +kernel
theorem dX4_commonPoints_51 : decode cX4_commonPoints 51 = .ok (.ireturn, 1) := by decide +kernel
theorem dX4_meets_0 : decode cX4_meets 0 = .ok (.aload_n 0, 1) := by decide +kernel
theorem dX4_meets_1 : decode cX4_meets 1 = .ok (.getfield 32, 3) := by decide +kernel
theorem dX4_meets_4 : decode cX4_meets 4 = .ok (.aload_n 1, 1) := by decide +kernel
theorem dX4_meets_5 : decode cX4_meets 5 = .ok (.getfield 32, 3) := by decide +kernel
theorem dX4_meets_8 : decode cX4_meets 8 = .ok (.iand, 1) := by decide +kernel
theorem dX4_meets_9 : decode cX4_meets 9 = .ok (.ifCond .eq 53, 3) := by decide +kernel
theorem dX4_meets_12 : decode cX4_meets 12 = .ok (.aload_n 0, 1) := by decide +kernel
theorem dX4_meets_13 : decode cX4_meets 13 = .ok (.getfield 43, 3) := by decide +kernel
theorem dX4_meets_16 : decode cX4_meets 16 = .ok (.aload_n 1, 1) := by decide +kernel
theorem dX4_meets_17 : decode cX4_meets 17 = .ok (.getfield 43, 3) := by decide +kernel
theorem dX4_meets_20 : decode cX4_meets 20 = .ok (.iand, 1) := by decide +kernel
theorem dX4_meets_21 : decode cX4_meets 21 = .ok (.ifCond .eq 41, 3) := by decide +kernel
theorem dX4_meets_24 : decode cX4_meets 24 = .ok (.aload_n 0, 1) := by decide +kernel
theorem dX4_meets_25 : decode cX4_meets 25 = .ok (.getfield 49, 3) := by decide +kernel
theorem dX4_meets_28 : decode cX4_meets 28 = .ok (.aload_n 1, 1) := by decide +kernel
theorem dX4_meets_29 : decode cX4_meets 29 = .ok (.getfield 49, 3) := by decide +kernel
theorem dX4_meets_32 : decode cX4_meets 32 = .ok (.iand, 1) := by decide +kernel
theorem dX4_meets_33 : decode cX4_meets 33 = .ok (.ifCond .eq 29, 3) := by decide +kernel
theorem dX4_meets_36 : decode cX4_meets 36 = .ok (.aload_n 0, 1) := by decide +kernel
theorem dX4_meets_37 : decode cX4_meets 37 = .ok (.invokevirtual 21, 3) := by decide +kernel
theorem dX4_meets_40 : decode cX4_meets 40 = .ok (.aload_n 1, 1) := by decide +kernel
theorem dX4_meets_41 : decode cX4_meets 41 = .ok (.invokevirtual 25, 3) := by decide +kernel
theorem dX4_meets_44 : decode cX4_meets 44 = .ok (.if_icmp .gt 18, 3) := by decide +kernel
theorem dX4_meets_47 : decode cX4_meets 47 = .ok (.aload_n 1, 1) := by decide +kernel
theorem dX4_meets_48 : decode cX4_meets 48 = .ok (.invokevirtual 21, 3) := by decide +kernel
theorem dX4_meets_51 : decode cX4_meets 51 = .ok (.aload_n 0, 1) := by decide +kernel
theorem dX4_meets_52 : decode cX4_meets 52 = .ok (.invokevirtual 25, 3) := by decide +kernel
theorem dX4_meets_55 : decode cX4_meets 55 = .ok (.if_icmp .gt 7, 3) := by decide +kernel
theorem dX4_meets_58 : decode cX4_meets 58 = .ok (.iconst 1, 1) := by decide +kernel
theorem dX4_meets_59 : decode cX4_meets 59 = .ok (.goto 4, 3) := by decide +kernel
theorem dX4_meets_62 : decode cX4_meets 62 = .ok (.iconst 0, 1) := by decide +kernel
theorem dX4_meets_63 : decode cX4_meets 63 = .ok (.ireturn, 1) := by decide +kernel
theorem dX4_clashesWith_0 : decode cX4_clashesWith 0 = .ok (.aload_n 0, 1) := by decide +kernel
theorem dX4_clashesWith_1 : decode cX4_clashesWith 1 = .ok (.getfield 69, 3) := by decide +kernel
theorem dX4_clashesWith_4 : decode cX4_clashesWith 4 = .ok (.ifCond .ne 10, 3) := by decide +kernel
theorem dX4_clashesWith_7 : decode cX4_clashesWith 7 = .ok (.aload_n 1, 1) := by decide +kernel
theorem dX4_clashesWith_8 : decode cX4_clashesWith 8 = .ok (.getfield 69, 3) := by decide +kernel
theorem dX4_clashesWith_11 : decode cX4_clashesWith 11 = .ok (.ifCond .eq 15, 3) := by decide +kernel
theorem dX4_clashesWith_14 : decode cX4_clashesWith 14 = .ok (.aload_n 0, 1) := by decide +kernel
theorem dX4_clashesWith_15 : decode cX4_clashesWith 15 = .ok (.aload_n 1, 1) := by decide +kernel
theorem dX4_clashesWith_16 : decode cX4_clashesWith 16 = .ok (.invokevirtual 73, 3) := by decide +kernel
theorem dX4_clashesWith_19 : decode cX4_clashesWith 19 = .ok (.ifCond .eq 7, 3) := by decide +kernel
theorem dX4_clashesWith_22 : decode cX4_clashesWith 22 = .ok (.iconst 1, 1) := by decide +kernel
theorem dX4_clashesWith_23 : decode cX4_clashesWith 23 = .ok (.goto 4, 3) := by decide +kernel
theorem dX4_clashesWith_26 : decode cX4_clashesWith 26 = .ok (.iconst 0, 1) := by decide +kernel
theorem dX4_clashesWith_27 : decode cX4_clashesWith 27 = .ok (.ireturn, 1) := by decide +kernel
theorem dX5_init_0 : decode cX5_init 0 = .ok (.aload_n 0, 1) := by decide +kernel
theorem dX5_init_1 : decode cX5_init 1 = .ok (.invokespecial 3, 3) := by decide +kernel
theorem dX5_init_4 : decode cX5_init 4 = .ok (.aload_n 0, 1) := by decide +kernel
theorem dX5_init_5 : decode cX5_init 5 = .ok (.bipush 7, 2) := by decide +kernel
theorem dX5_init_7 : decode cX5_init 7 = .ok (.newarray .int, 2) := by decide +kernel
theorem dX5_init_9 : decode cX5_init 9 = .ok (.putfield 9, 3) := by decide +kernel
theorem dX5_init_12 : decode cX5_init 12 = .ok (.return_, 1) := by decide +kernel
theorem dX5_readInto_0 : decode cX5_readInto 0 = .ok (.aload_n 1, 1) := by decide +kernel
theorem dX5_readInto_1 : decode cX5_readInto 1 = .ok (.invokevirtual 15, 3) := by decide +kernel
theorem dX5_readInto_4 : decode cX5_readInto 4 = .ok (.iconst 0, 1) := by decide +kernel
theorem dX5_readInto_5 : decode cX5_readInto 5 = .ok (.istore 4, 2) := by decide +kernel
theorem dX5_readInto_7 : decode cX5_readInto 7 = .ok (.iconst 0, 1) := by decide +kernel
theorem dX5_readInto_8 : decode cX5_readInto 8 = .ok (.istore 5, 2) := by decide +kernel
theorem dX5_readInto_10 : decode cX5_readInto 10 = .ok (.iload 5, 2) := by decide +kernel
theorem dX5_readInto_12 : decode cX5_readInto 12 = .ok (.iload_n 3, 1) := by decide +kernel
theorem dX5_readInto_13 : decode cX5_readInto 13 = .ok (.if_icmp .ge 40, 3) := by decide +kernel
theorem dX5_readInto_16 : decode cX5_readInto 16 = .ok (.aload_n 2, 1) := by decide +kernel
theorem dX5_readInto_17 : decode cX5_readInto 17 = .ok (.iload 5, 2) := by decide +kernel
theorem dX5_readInto_19 : decode cX5_readInto 19 = .ok (.caload, 1) := by decide +kernel
theorem dX5_readInto_20 : decode cX5_readInto 20 = .ok (.bipush 59, 2) := by decide +kernel
theorem dX5_readInto_22 : decode cX5_readInto 22 = .ok (.if_icmp .ne 25, 3) := by decide +kernel
theorem dX5_readInto_25 : decode cX5_readInto 25 = .ok (.aload_n 0, 1) := by decide +kernel
theorem dX5_readInto_26 : decode cX5_readInto 26 = .ok (.aload_n 1, 1) := by decide +kernel
theorem dX5_readInto_27 : decode cX5_readInto 27 = .ok (.aload_n 2, 1) := by decide +kernel
theorem dX5_readInto_28 : decode cX5_readInto 28 = .ok (.iload 4, 2) := by decide +kernel
theorem dX5_readInto_30 : decode cX5_readInto 30 = .ok (.iload 5, 2) := by decide +kernel
theorem dX5_readInto_32 : decode cX5_readInto 32 = .ok (.invokevirtual 20, 3) := by decide +kernel
theorem dX5_readInto_35 : decode cX5_readInto 35 = .ok (.ifCond .ne 6, 3) := by decide +kernel
theorem dX5_readInto_38 : decode cX5_readInto 38 = .ok (.iload 4, 2) := by decide +kernel
theorem dX5_readInto_40 : decode cX5_readInto 40 = .ok (.ireturn, 1) := by decide +kernel
theorem dX5_readInto_41 : decode cX5_readInto 41 = .ok (.iload 5, 2) := by decide +kernel
theorem dX5_readInto_43 : decode cX5_readInto 43 = .ok (.iconst 1, 1) := by decide +kernel
theorem dX5_readInto_44 : decode cX5_readInto 44 = .ok (.iadd, 1) := by decide +kernel
theorem dX5_readInto_45 : decode cX5_readInto 45 = .ok (.istore 4, 2) := by decide +kernel
theorem dX5_readInto_47 : decode cX5_readInto 47 = .ok (.iinc 5 1, 3) := by decide +kernel
theorem dX5_readInto_50 : decode cX5_readInto 50 = .ok (.goto (-40), 3) := by decide +kernel
theorem dX5_readInto_53 : decode cX5_readInto 53 = .ok (.iload 4, 2) := by decide +kernel
theorem dX5_readInto_55 : decode cX5_readInto 55 = .ok (.iload_n 3, 1) := by decide +kernel
theorem dX5_readInto_56 : decode cX5_readInto 56 = .ok (.if_icmp .ge 8, 3) := by decide +kernel
theorem dX5_readInto_59 : decode cX5_readInto 59 = .ok (.iload 4, 2) := by decide +kernel
theorem dX5_readInto_61 : decode cX5_readInto 61 = .ok (.goto 5, 3) := by decide +kernel
theorem dX5_readInto_64 : decode cX5_readInto 64 = .ok (.bipush (-4), 2) := by decide +kernel
theorem dX5_readInto_66 : decode cX5_readInto 66 = .ok (.ireturn, 1) := by decide +kernel
theorem dX5_readItem_0 : decode cX5_readItem 0 = .ok (.aload_n 2, 1) := by decide +kernel
theorem dX5_readItem_1 : decode cX5_readItem 1 = .ok (.iload_n 3, 1) := by decide +kernel
theorem dX5_readItem_2 : decode cX5_readItem 2 = .ok (.caload, 1) := by decide +kernel
theorem dX5_readItem_3 : decode cX5_readItem 3 = .ok (.istore 5, 2) := by decide +kernel
theorem dX5_readItem_5 : decode cX5_readItem 5 = .ok (.aload_n 0, 1) := by decide +kernel
theorem dX5_readItem_6 : decode cX5_readItem 6 = .ok (.aload_n 2, 1) := by decide +kernel
theorem dX5_readItem_7 : decode cX5_readItem 7 = .ok (.iload_n 3, 1) := by decide +kernel
theorem dX5_readItem_8 : decode cX5_readItem 8 = .ok (.iconst 1, 1) := by decide +kernel
theorem dX5_readItem_9 : decode cX5_readItem 9 = .ok (.iadd, 1) := by decide +kernel
theorem dX5_readItem_10 : decode cX5_readItem 10 = .ok (.iload 4, 2) := by decide +kernel
theorem dX5_readItem_12 : decode cX5_readItem 12 = .ok (.invokevirtual 24, 3) := by decide +kernel
theorem dX5_readItem_15 : decode cX5_readItem 15 = .ok (.istore 6, 2) := by decide +kernel
theorem dX5_readItem_17 : decode cX5_readItem 17 = .ok (.iload 5, 2) := by decide +kernel
theorem dX5_readItem_19 : decode cX5_readItem 19 = .ok (.bipush 116, 2) := by decide +kernel
theorem dX5_readItem_21 : decode cX5_readItem 21 = .ok (.if_icmp .ne 34, 3) := by decide +kernel
theorem dX5_readItem_24 : decode cX5_readItem 24 = .ok (.iload 6, 2) := by decide +kernel
theorem dX5_readItem_26 : decode cX5_readItem 26 = .ok (.iconst 2, 1) := by decide +kernel
theorem dX5_readItem_27 : decode cX5_readItem 27 = .ok (.if_icmp .ne 26, 3) := by decide +kernel
theorem dX5_readItem_30 : decode cX5_readItem 30 = .ok (.aload_n 1, 1) := by decide +kernel
theorem dX5_readItem_31 : decode cX5_readItem 31 = .ok (.aload_n 0, 1) := by decide +kernel
theorem dX5_readItem_32 : decode cX5_readItem 32 = .ok (.getfield 9, 3) := by decide +kernel
theorem dX5_readItem_35 : decode cX5_readItem 35 = .ok (.iconst 0, 1) := by decide +kernel
theorem dX5_readItem_36 : decode cX5_readItem 36 = .ok (.iaload, 1) := by decide +kernel
theorem dX5_readItem_37 : decode cX5_readItem 37 = .ok (.aload_n 0, 1) := by decide +kernel
theorem dX5_readItem_38 : decode cX5_readItem 38 = .ok (.getfield 9, 3) := by decide +kernel
theorem dX5_readItem_41 : decode cX5_readItem 41 = .ok (.iconst 1, 1) := by decide +kernel
theorem dX5_readItem_42 : decode cX5_readItem 42 = .ok (.iaload, 1) := by decide +kernel
theorem dX5_readItem_43 : decode cX5_readItem 43 = .ok (.invokevirtual 28, 3) := by decide +kernel
theorem dX5_readItem_46 : decode cX5_readItem 46 = .ok (.ifCond .eq 7, 3) := by decide +kernel
theorem dX5_readItem_49 : decode cX5_readItem 49 = .ok (.iconst 1, 1) := by decide +kernel
theorem dX5_readItem_50 : decode cX5_readItem 50 = .ok (.goto 4, 3) := by decide +kernel
theorem dX5_readItem_53 : decode cX5_readItem 53 = .ok (.iconst 0, 1) := by decide +kernel
theorem dX5_readItem_54 : decode cX5_readItem 54 = .ok (.ireturn, 1) := by decide +kernel
theorem dX5_readItem_55 : decode cX5_readItem 55 = .ok (.iload 5, 2) := by decide +kernel
theorem dX5_readItem_57 : decode cX5_readItem 57 = .ok (.bipush 111, 2) := by decide +kernel
theorem dX5_readItem_59 : decode cX5_readItem 59 = .ok (.if_icmp .ne 27, 3) := by decide +kernel
theorem dX5_readItem_62 : decode cX5_readItem 62 = .ok (.iload 6, 2) := by decide +kernel
theorem dX5_readItem_64 : decode cX5_readItem 64 = .ok (.bipush 7, 2) := by decide +kernel
theorem dX5_readItem_66 : decode cX5_readItem 66 = .ok (.if_icmp .ne 18, 3) := by decide +kernel
theorem dX5_readItem_69 : decode cX5_readItem 69 = .ok (.aload_n 1, 1) := by decide +kernel
theorem dX5_readItem_70 : decode cX5_readItem 70 = .ok (.aload_n 0, 1) := by decide +kernel
theorem dX5_readItem_71 : decode cX5_readItem 71 = .ok (.getfield 9, 3) := by decide +kernel
theorem dX5_readItem_74 : decode cX5_readItem 74 = .ok (.invokevirtual 32, 3) := by decide +kernel
theorem dX5_readItem_77 : decode cX5_readItem 77 = .ok (.ifCond .eq 7, 3) := by decide +kernel
theorem dX5_readItem_80 : decode cX5_readItem 80 = .ok (.iconst 1, 1) := by decide +kernel
theorem dX5_readItem_81 : decode cX5_readItem 81 = .ok (.goto 4, 3) := by decide +kernel
theorem dX5_readItem_84 : decode cX5_readItem 84 = .ok (.iconst 0, 1) := by decide +kernel
theorem dX5_readItem_85 : decode cX5_readItem 85 = .ok (.ireturn, 1) := by decide +kernel
theorem dX5_readItem_86 : decode cX5_readItem 86 = .ok (.iload 5, 2) := by decide +kernel
theorem dX5_readItem_88 : decode cX5_readItem 88 = .ok (.bipush 104, 2) := by decide +kernel
theorem dX5_readItem_90 : decode cX5_readItem 90 = .ok (.if_icmp .ne 40, 3) := by decide +kernel
theorem dX5_readItem_93 : decode cX5_readItem 93 = .ok (.iload 6, 2) := by decide +kernel
theorem dX5_readItem_95 : decode cX5_readItem 95 = .ok (.iconst 3, 1) := by decide +kernel
theorem dX5_readItem_96 : decode cX5_readItem 96 = .ok (.if_icmp .ne 32, 3) := by decide +kernel
theorem dX5_readItem_99 : decode cX5_readItem 99 = .ok (.aload_n 1, 1) := by decide +kernel
theorem dX5_readItem_100 : decode cX5_readItem 100 = .ok (.aload_n 0, 1) := by decide +kernel
theorem dX5_readItem_101 : decode cX5_readItem 101 = .ok (.getfield 9, 3) := by decide +kernel
theorem dX5_readItem_104 : decode cX5_readItem 104 = .ok (.iconst 0, 1) := by decide +kernel
theorem dX5_readItem_105 : decode cX5_readItem 105 = .ok (.iaload, 1) := by decide +kernel
theorem dX5_readItem_106 : decode cX5_readItem 106 = .ok (.aload_n 0, 1) := by decide +kernel
theorem dX5_readItem_107 : decode cX5_readItem 107 = .ok (.getfield 9, 3) := by decide +kernel
theorem dX5_readItem_110 : decode cX5_readItem 110 = .ok (.iconst 1, 1) := by decide +kernel
theorem dX5_readItem_111 : decode cX5_readItem 111 = .ok (.iaload, 1) := by decide +kernel
theorem dX5_readItem_112 : decode cX5_readItem 112 = .ok (.aload_n 0, 1) := by decide +kernel
theorem dX5_readItem_113 : decode cX5_readItem 113 = .ok (.getfield 9, 3) := by decide +kernel
theorem dX5_readItem_116 : decode cX5_readItem 116 = .ok (.iconst 2, 1) := by decide +kernel
theorem dX5_readItem_117 : decode cX5_readItem 117 = .ok (.iaload, 1) := by decide +kernel
theorem dX5_readItem_118 : decode cX5_readItem 118 = .ok (.invokevirtual 36, 3) := by decide +kernel
theorem dX5_readItem_121 : decode cX5_readItem 121 = .ok (.ifCond .eq 7, 3) := by decide +kernel
theorem dX5_readItem_124 : decode cX5_readItem 124 = .ok (.iconst 1, 1) := by decide +kernel
theorem dX5_readItem_125 : decode cX5_readItem 125 = .ok (.goto 4, 3) := by decide +kernel
theorem dX5_readItem_128 : decode cX5_readItem 128 = .ok (.iconst 0, 1) := by decide +kernel
theorem dX5_readItem_129 : decode cX5_readItem 129 = .ok (.ireturn, 1) := by decide +kernel
theorem dX5_readItem_130 : decode cX5_readItem 130 = .ok (.iconst 0, 1) := by decide +kernel
theorem dX5_readItem_131 : decode cX5_readItem 131 = .ok (.ireturn, 1) := by decide +kernel
theorem dX5_readNumbers_0 : decode cX5_readNumbers 0 = .ok (.iconst 0, 1) := by decide +kernel
theorem dX5_readNumbers_1 : decode cX5_readNumbers 1 = .ok (.istore 4, 2) := by decide +kernel
theorem dX5_readNumbers_3 : decode cX5_readNumbers 3 = .ok (.iconst 0, 1) := by decide +kernel
theorem dX5_readNumbers_4 : decode cX5_readNumbers 4 = .ok (.istore 5, 2) := by decide +kernel
theorem dX5_readNumbers_6 : decode cX5_readNumbers 6 = .ok (.iconst 0, 1) := by decide +kernel
theorem dX5_readNumbers_7 : decode cX5_readNumbers 7 = .ok (.istore 6, 2) := by decide +kernel
theorem dX5_readNumbers_9 : decode cX5_readNumbers 9 = .ok (.iload_n 2, 1) := by decide +kernel
theorem dX5_readNumbers_10 : decode cX5_readNumbers 10 = .ok (.istore 7, 2) := by decide +kernel
theorem dX5_readNumbers_12 : decode cX5_readNumbers 12 = .ok (.iload 7, 2) := by decide +kernel
theorem dX5_readNumbers_14 : decode cX5_readNumbers 14 = .ok (.iload_n 3, 1) := by decide +kernel
theorem dX5_readNumbers_15 : decode cX5_readNumbers 15 = .ok (.if_icmp .ge 96, 3) := by decide +kernel
theorem dX5_readNumbers_18 : decode cX5_readNumbers 18 = .ok (.aload_n 1, 1) := by decide +kernel
theorem dX5_readNumbers_19 : decode cX5_readNumbers 19 = .ok (.iload 7, 2) := by decide +kernel
theorem dX5_readNumbers_21 : decode cX5_readNumbers 21 = .ok (.caload, 1) := by decide +kernel
theorem dX5_readNumbers_22 : decode cX5_readNumbers 22 = .ok (.istore 8, 2) := by decide +kernel
theorem dX5_readNumbers_24 : decode cX5_readNumbers 24 = .ok (.iload 8, 2) := by decide +kernel
theorem dX5_readNumbers_26 : decode cX5_readNumbers 26 = .ok (.bipush 48, 2) := by decide +kernel
theorem dX5_readNumbers_28 : decode cX5_readNumbers 28 = .ok (.if_icmp .lt 35, 3) := by decide +kernel
theorem dX5_readNumbers_31 : decode cX5_readNumbers 31 = .ok (.iload 8, 2) := by decide +kernel
theorem dX5_readNumbers_33 : decode cX5_readNumbers 33 = .ok (.bipush 57, 2) := by decide +kernel
theorem dX5_readNumbers_35 : decode cX5_readNumbers 35 = .ok (.if_icmp .gt 28, 3) := by decide +kernel
theorem dX5_readNumbers_38 : decode cX5_readNumbers 38 = .ok (.iload 5, 2) := by decide +kernel
theorem dX5_readNumbers_40 : decode cX5_readNumbers 40 = .ok (.iconst 2, 1) := by decide +kernel
theorem dX5_readNumbers_41 : decode cX5_readNumbers 41 = .ok (.if_icmp .ge 22, 3) := by decide +kernel
theorem dX5_readNumbers_44 : decode cX5_readNumbers 44 = .ok (.iload 6, 2) := by decide +kernel
theorem dX5_readNumbers_46 : decode cX5_readNumbers 46 = .ok (.bipush 10, 2) := by decide +kernel
theorem dX5_readNumbers_48 : decode cX5_readNumbers 48 = .ok (.imul, 1) := by decide +kernel
theorem dX5_readNumbers_49 : decode cX5_readNumbers 49 = .ok (.iload 8, 2) := by decide +kernel
theorem dX5_readNumbers_51 : decode cX5_readNumbers 51 = .ok (.bipush 48, 2) := by decide +kernel
theorem dX5_readNumbers_53 : decode cX5_readNumbers 53 = .ok (.isub, 1) := by decide +kernel
theorem dX5_readNumbers_54 : decode cX5_readNumbers 54 = .ok (.iadd, 1) := by decide +kernel
theorem dX5_readNumbers_55 : decode cX5_readNumbers 55 = .ok (.istore 6, 2) := by decide +kernel
theorem dX5_readNumbers_57 : decode cX5_readNumbers 57 = .ok (.iinc 5 1, 3) := by decide +kernel
theorem dX5_readNumbers_60 : decode cX5_readNumbers 60 = .ok (.goto 45, 3) := by decide +kernel
theorem dX5_readNumbers_63 : decode cX5_readNumbers 63 = .ok (.iload 8, 2) := by decide +kernel
theorem dX5_readNumbers_65 : decode cX5_readNumbers 65 = .ok (.bipush 44, 2) := by decide +kernel
theorem dX5_readNumbers_67 : decode cX5_readNumbers 67 = .ok (.if_icmp .ne 36, 3) := by decide +kernel
theorem dX5_readNumbers_70 : decode cX5_readNumbers 70 = .ok (.iload 5, 2) := by decide +kernel
theorem dX5_readNumbers_72 : decode cX5_readNumbers 72 = .ok (.ifCond .le 31, 3) := by decide +kernel
theorem dX5_readNumbers_75 : decode cX5_readNumbers 75 = .ok (.iload 4, 2) := by decide +kernel
theorem dX5_readNumbers_77 : decode cX5_readNumbers 77 = .ok (.bipush 6, 2) := by decide +kernel
theorem dX5_readNumbers_79 : decode cX5_readNumbers 79 = .ok (.if_icmp .ge 24, 3) := by decide +kernel
theorem dX5_readNumbers_82 : decode cX5_readNumbers 82 = .ok (.aload_n 0, 1) := by decide +kernel
theorem dX5_readNumbers_83 : decode cX5_readNumbers 83 = .ok (.getfield 9, 3) := by decide +kernel
theorem dX5_readNumbers_86 : decode cX5_readNumbers 86 = .ok (.iload 4, 2) := by decide +kernel
theorem dX5_readNumbers_88 : decode cX5_readNumbers 88 = .ok (.iload 6, 2) := by decide +kernel
theorem dX5_readNumbers_90 : decode cX5_readNumbers 90 = .ok (.iastore, 1) := by decide +kernel
theorem dX5_readNumbers_91 : decode cX5_readNumbers 91 = .ok (.iinc 4 1, 3) := by decide +kernel
theorem dX5_readNumbers_94 : decode cX5_readNumbers 94 = .ok (.iconst 0, 1) := by decide +kernel
theorem dX5_readNumbers_95 : decode cX5_readNumbers 95 = .ok (.istore 5, 2) := by decide +kernel
theorem dX5_readNumbers_97 : decode cX5_readNumbers 97 = .ok (.iconst 0, 1) := by decide +kernel
theorem dX5_readNumbers_98 : decode cX5_readNumbers 98 = .ok (.istore 6, 2) := by decide +kernel
theorem dX5_readNumbers_100 : decode cX5_readNumbers 100 = .ok (.goto 5, 3) := by decide +kernel
theorem dX5_readNumbers_103 : decode cX5_readNumbers 103 = .ok (.iconst 0, 1) := by decide +kernel
theorem dX5_readNumbers_104 : decode cX5_readNumbers 104 = .ok (.ireturn, 1) := by decide +kernel
theorem dX5_readNumbers_105 : decode cX5_readNumbers 105 = .ok (.iinc 7 1, 3) := by decide +kernel
theorem dX5_readNumbers_108 : decode cX5_readNumbers 108 = .ok (.goto (-96), 3) := by decide +kernel
theorem dX5_readNumbers_111 : decode cX5_readNumbers 111 = .ok (.iload 5, 2) := by decide +kernel
theorem dX5_readNumbers_113 : decode cX5_readNumbers 113 = .ok (.ifCond .ne 5, 3) := by decide +kernel
theorem dX5_readNumbers_116 : decode cX5_readNumbers 116 = .ok (.iconst 0, 1) := by decide +kernel
theorem dX5_readNumbers_117 : decode cX5_readNumbers 117 = .ok (.ireturn, 1) := by decide +kernel
theorem dX5_readNumbers_118 : decode cX5_readNumbers 118 = .ok (.aload_n 0, 1) := by decide +kernel
theorem dX5_readNumbers_119 : decode cX5_readNumbers 119 = .ok (.getfield 9, 3) := by decide +kernel
theorem dX5_readNumbers_122 : decode cX5_readNumbers 122 = .ok (.iload 4, 2) := by decide +kernel
theorem dX5_readNumbers_124 : decode cX5_readNumbers 124 = .ok (.iload 6, 2) := by decide +kernel
theorem dX5_readNumbers_126 : decode cX5_readNumbers 126 = .ok (.iastore, 1) := by decide +kernel
theorem dX5_readNumbers_127 : decode cX5_readNumbers 127 = .ok (.iload 4, 2) := by decide +kernel
theorem dX5_readNumbers_129 : decode cX5_readNumbers 129 = .ok (.iconst 1, 1) := by decide +kernel
theorem dX5_readNumbers_130 : decode cX5_readNumbers 130 = .ok (.iadd, 1) := by decide +kernel
theorem dX5_readNumbers_131 : decode cX5_readNumbers 131 = .ok (.ireturn, 1) := by decide +kernel
theorem dX6_init_0 : decode cX6_init 0 = .ok (.aload_n 0, 1) := by decide +kernel
theorem dX6_init_1 : decode cX6_init 1 = .ok (.invokespecial 3, 3) := by decide +kernel
theorem dX6_init_4 : decode cX6_init 4 = .ok (.aload_n 0, 1) := by decide +kernel
theorem dX6_init_5 : decode cX6_init 5 = .ok (.sipush 200, 3) := by decide +kernel
theorem dX6_init_8 : decode cX6_init 8 = .ok (.newarray .char, 2) := by decide +kernel
theorem dX6_init_10 : decode cX6_init 10 = .ok (.putfield 9, 3) := by decide +kernel
theorem dX6_init_13 : decode cX6_init 13 = .ok (.aload_n 0, 1) := by decide +kernel
theorem dX6_init_14 : decode cX6_init 14 = .ok (.new 13, 3) := by decide +kernel
theorem dX6_init_17 : decode cX6_init 17 = .ok (.dup, 1) := by decide +kernel
theorem dX6_init_18 : decode cX6_init 18 = .ok (.invokespecial 15, 3) := by decide +kernel
theorem dX6_init_21 : decode cX6_init 21 = .ok (.putfield 16, 3) := by decide +kernel
theorem dX6_init_24 : decode cX6_init 24 = .ok (.aload_n 0, 1) := by decide +kernel
theorem dX6_init_25 : decode cX6_init 25 = .ok (.new 20, 3) := by decide +kernel
theorem dX6_init_28 : decode cX6_init 28 = .ok (.dup, 1) := by decide +kernel
theorem dX6_init_29 : decode cX6_init 29 = .ok (.invokespecial 22, 3) := by decide +kernel
theorem dX6_init_32 : decode cX6_init 32 = .ok (.putfield 23, 3) := by decide +kernel
theorem dX6_init_35 : decode cX6_init 35 = .ok (.aload_n 0, 1) := by decide +kernel
theorem dX6_init_36 : decode cX6_init 36 = .ok (.new 20, 3) := by decide +kernel
theorem dX6_init_39 : decode cX6_init 39 = .ok (.dup, 1) := by decide +kernel
theorem dX6_init_40 : decode cX6_init 40 = .ok (.invokespecial 22, 3) := by decide +kernel
theorem dX6_init_43 : decode cX6_init 43 = .ok (.putfield 27, 3) := by decide +kernel
theorem dX6_init_46 : decode cX6_init 46 = .ok (.aload_n 0, 1) := by decide +kernel
theorem dX6_init_47 : decode cX6_init 47 = .ok (.new 30, 3) := by decide +kernel
theorem dX6_init_50 : decode cX6_init 50 = .ok (.dup, 1) := by decide +kernel
theorem dX6_init_51 : decode cX6_init 51 = .ok (.invokespecial 32, 3) := by decide +kernel
theorem dX6_init_54 : decode cX6_init 54 = .ok (.putfield 33, 3) := by decide +kernel
theorem dX6_init_57 : decode cX6_init 57 = .ok (.iconst 0, 1) := by decide +kernel
theorem dX6_init_58 : decode cX6_init 58 = .ok (.istore_n 1, 1) := by decide +kernel
theorem dX6_init_59 : decode cX6_init 59 = .ok (.iload_n 1, 1) := by decide +kernel
theorem dX6_init_60 : decode cX6_init 60 = .ok (.ldc 37, 2) := by decide +kernel
theorem dX6_init_62 : decode cX6_init 62 = .ok (.invokevirtual 39, 3) := by decide +kernel
theorem dX6_init_65 : decode cX6_init 65 = .ok (.if_icmp .ge 35, 3) := by decide +kernel
theorem dX6_init_68 : decode cX6_init 68 = .ok (.iload_n 1, 1) := by decide +kernel
theorem dX6_init_69 : decode cX6_init 69 = .ok (.sipush 200, 3) := by decide +kernel
theorem dX6_init_72 : decode cX6_init 72 = .ok (.if_icmp .ge 28, 3) := by decide +kernel
theorem dX6_init_75 : decode cX6_init 75 = .ok (.aload_n 0, 1) := by decide +kernel
theorem dX6_init_76 : decode cX6_init 76 = .ok (.getfield 9, 3) := by decide +kernel
theorem dX6_init_79 : decode cX6_init 79 = .ok (.iload_n 1, 1) := by decide +kernel
theorem dX6_init_80 : decode cX6_init 80 = .ok (.ldc 37, 2) := by decide +kernel
theorem dX6_init_82 : decode cX6_init 82 = .ok (.iload_n 1, 1) := by decide +kernel
theorem dX6_init_83 : decode cX6_init 83 = .ok (.invokevirtual 45, 3) := by decide +kernel
theorem dX6_init_86 : decode cX6_init 86 = .ok (.castore, 1) := by decide +kernel
theorem dX6_init_87 : decode cX6_init 87 = .ok (.aload_n 0, 1) := by decide +kernel
theorem dX6_init_88 : decode cX6_init 88 = .ok (.iload_n 1, 1) := by decide +kernel
theorem dX6_init_89 : decode cX6_init 89 = .ok (.iconst 1, 1) := by decide +kernel
theorem dX6_init_90 : decode cX6_init 90 = .ok (.iadd, 1) := by decide +kernel
theorem dX6_init_91 : decode cX6_init 91 = .ok (.putfield 49, 3) := by decide +kernel
theorem dX6_init_94 : decode cX6_init 94 = .ok (.iinc 1 1, 3) := by decide +kernel
theorem dX6_init_97 : decode cX6_init 97 = .ok (.goto (-38), 3) := by decide +kernel
theorem dX6_init_100 : decode cX6_init 100 = .ok (.aload_n 0, 1) := by decide +kernel
theorem dX6_init_101 : decode cX6_init 101 = .ok (.invokevirtual 53, 3) := by decide +kernel
theorem dX6_init_104 : decode cX6_init 104 = .ok (.pop, 1) := by decide +kernel
theorem dX6_init_105 : decode cX6_init 105 = .ok (.aload_n 0, 1) := by decide +kernel
theorem dX6_init_106 : decode cX6_init 106 = .ok (.iconst 0, 1) := by decide +kernel
theorem dX6_init_107 : decode cX6_init 107 = .ok (.putfield 49, 3) := by decide +kernel
theorem dX6_init_110 : decode cX6_init 110 = .ok (.return_, 1) := by decide +kernel
theorem dX6_write_0 : decode cX6_write 0 = .ok (.iload_n 1, 1) := by decide +kernel
theorem dX6_write_1 : decode cX6_write 1 = .ok (.bipush 32, 2) := by decide +kernel
theorem dX6_write_3 : decode cX6_write 3 = .ok (.if_icmp .lt 9, 3) := by decide +kernel
theorem dX6_write_6 : decode cX6_write 6 = .ok (.iload_n 1, 1) := by decide +kernel
theorem dX6_write_7 : decode cX6_write 7 = .ok (.bipush 126, 2) := by decide +kernel
theorem dX6_write_9 : decode cX6_write 9 = .ok (.if_icmp .le 5, 3) := by decide +kernel
theorem dX6_write_12 : decode cX6_write 12 = .ok (.iconst (-1), 1) := by decide +kernel
theorem dX6_write_13 : decode cX6_write 13 = .ok (.ireturn, 1) := by decide +kernel
theorem dX6_write_14 : decode cX6_write 14 = .ok (.aload_n 0, 1) := by decide +kernel
theorem dX6_write_15 : decode cX6_write 15 = .ok (.getfield 49, 3) := by decide +kernel
theorem dX6_write_18 : decode cX6_write 18 = .ok (.sipush 200, 3) := by decide +kernel
theorem dX6_write_21 : decode cX6_write 21 = .ok (.if_icmp .lt 6, 3) := by decide +kernel
theorem dX6_write_24 : decode cX6_write 24 = .ok (.bipush (-3), 2) := by decide +kernel
theorem dX6_write_26 : decode cX6_write 26 = .ok (.ireturn, 1) := by decide +kernel
theorem dX6_write_27 : decode cX6_write 27 = .ok (.aload_n 0, 1) := by decide +kernel
theorem dX6_write_28 : decode cX6_write 28 = .ok (.getfield 9, 3) := by decide +kernel
theorem dX6_write_31 : decode cX6_write 31 = .ok (.aload_n 0, 1) := by decide +kernel
theorem dX6_write_32 : decode cX6_write 32 = .ok (.getfield 49, 3) := by decide +kernel
theorem dX6_write_35 : decode cX6_write 35 = .ok (.iload_n 1, 1) := by decide +kernel
theorem dX6_write_36 : decode cX6_write 36 = .ok (.i2c, 1) := by decide +kernel
theorem dX6_write_37 : decode cX6_write 37 = .ok (.castore, 1) := by decide +kernel
theorem dX6_write_38 : decode cX6_write 38 = .ok (.aload_n 0, 1) := by decide +kernel
theorem dX6_write_39 : decode cX6_write 39 = .ok (.dup, 1) := by decide +kernel
theorem dX6_write_40 : decode cX6_write 40 = .ok (.getfield 49, 3) := by decide +kernel
theorem dX6_write_43 : decode cX6_write 43 = .ok (.iconst 1, 1) := by decide +kernel
theorem dX6_write_44 : decode cX6_write 44 = .ok (.iadd, 1) := by decide +kernel
theorem dX6_write_45 : decode cX6_write 45 = .ok (.putfield 49, 3) := by decide +kernel
theorem dX6_write_48 : decode cX6_write 48 = .ok (.aload_n 0, 1) := by decide +kernel
theorem dX6_write_49 : decode cX6_write 49 = .ok (.getfield 49, 3) := by decide +kernel
theorem dX6_write_52 : decode cX6_write 52 = .ok (.ireturn, 1) := by decide +kernel
theorem dX6_wipe_0 : decode cX6_wipe 0 = .ok (.aload_n 0, 1) := by decide +kernel
theorem dX6_wipe_1 : decode cX6_wipe 1 = .ok (.getfield 49, 3) := by decide +kernel
theorem dX6_wipe_4 : decode cX6_wipe 4 = .ok (.istore_n 1, 1) := by decide +kernel
theorem dX6_wipe_5 : decode cX6_wipe 5 = .ok (.aload_n 0, 1) := by decide +kernel
theorem dX6_wipe_6 : decode cX6_wipe 6 = .ok (.iconst 0, 1) := by decide +kernel
theorem dX6_wipe_7 : decode cX6_wipe 7 = .ok (.putfield 49, 3) := by decide +kernel
theorem dX6_wipe_10 : decode cX6_wipe 10 = .ok (.iload_n 1, 1) := by decide +kernel
theorem dX6_wipe_11 : decode cX6_wipe 11 = .ok (.ireturn, 1) := by decide +kernel
theorem dX6_fault_0 : decode cX6_fault 0 = .ok (.aload_n 0, 1) := by decide +kernel
theorem dX6_fault_1 : decode cX6_fault 1 = .ok (.getfield 16, 3) := by decide +kernel
theorem dX6_fault_4 : decode cX6_fault 4 = .ok (.aload_n 0, 1) := by decide +kernel
theorem dX6_fault_5 : decode cX6_fault 5 = .ok (.getfield 27, 3) := by decide +kernel
theorem dX6_fault_8 : decode cX6_fault 8 = .ok (.aload_n 0, 1) := by decide +kernel
theorem dX6_fault_9 : decode cX6_fault 9 = .ok (.getfield 9, 3) := by decide +kernel
theorem dX6_fault_12 : decode cX6_fault 12 = .ok (.aload_n 0, 1) := by decide +kernel
theorem dX6_fault_13 : decode cX6_fault 13 = .ok (.getfield 49, 3) := by decide +kernel
theorem dX6_fault_16 : decode cX6_fault 16 = .ok (.invokevirtual 56, 3) := by decide +kernel
theorem dX6_fault_19 : decode cX6_fault 19 = .ok (.ireturn, 1) := by decide +kernel
theorem dX6_lay_0 : decode cX6_lay 0 = .ok (.aload_n 0, 1) := by decide +kernel
theorem dX6_lay_1 : decode cX6_lay 1 = .ok (.invokevirtual 53, 3) := by decide +kernel
theorem dX6_lay_4 : decode cX6_lay 4 = .ok (.ireturn, 1) := by decide +kernel
theorem dX6_layText_0 : decode cX6_layText 0 = .ok (.aload_n 0, 1) := by decide +kernel
theorem dX6_layText_1 : decode cX6_layText 1 = .ok (.getfield 16, 3) := by decide +kernel
theorem dX6_layText_4 : decode cX6_layText 4 = .ok (.aload_n 0, 1) := by decide +kernel
theorem dX6_layText_5 : decode cX6_layText 5 = .ok (.getfield 27, 3) := by decide +kernel
theorem dX6_layText_8 : decode cX6_layText 8 = .ok (.aload_n 0, 1) := by decide +kernel
theorem dX6_layText_9 : decode cX6_layText 9 = .ok (.getfield 9, 3) := by decide +kernel
theorem dX6_layText_12 : decode cX6_layText 12 = .ok (.aload_n 0, 1) := by decide +kernel
theorem dX6_layText_13 : decode cX6_layText 13 = .ok (.getfield 49, 3) := by decide +kernel
theorem dX6_layText_16 : decode cX6_layText 16 = .ok (.invokevirtual 56, 3) := by decide +kernel
theorem dX6_layText_19 : decode cX6_layText 19 = .ok (.bipush (-4), 2) := by decide +kernel
theorem dX6_layText_21 : decode cX6_layText 21 = .ok (.if_icmp .ne 13, 3) := by decide +kernel
theorem dX6_layText_24 : decode cX6_layText 24 = .ok (.aload_n 0, 1) := by decide +kernel
theorem dX6_layText_25 : decode cX6_layText 25 = .ok (.getfield 27, 3) := by decide +kernel
theorem dX6_layText_28 : decode cX6_layText 28 = .ok (.getfield 60, 3) := by decide +kernel
theorem dX6_layText_31 : decode cX6_layText 31 = .ok (.ifCond .ne 6, 3) := by decide +kernel
theorem dX6_layText_34 : decode cX6_layText 34 = .ok (.bipush (-2), 2) := by decide +kernel
theorem dX6_layText_36 : decode cX6_layText 36 = .ok (.ireturn, 1) := by decide +kernel
theorem dX6_layText_37 : decode cX6_layText 37 = .ok (.aload_n 0, 1) := by decide +kernel
theorem dX6_layText_38 : decode cX6_layText 38 = .ok (.getfield 23, 3) := by decide +kernel
theorem dX6_layText_41 : decode cX6_layText 41 = .ok (.astore_n 1, 1) := by decide +kernel
theorem dX6_layText_42 : decode cX6_layText 42 = .ok (.aload_n 0, 1) := by decide +kernel
theorem dX6_layText_43 : decode cX6_layText 43 = .ok (.aload_n 0, 1) := by decide +kernel
theorem dX6_layText_44 : decode cX6_layText 44 = .ok (.getfield 27, 3) := by decide +kernel
theorem dX6_layText_47 : decode cX6_layText 47 = .ok (.putfield 23, 3) := by decide +kernel
theorem dX6_layText_50 : decode cX6_layText 50 = .ok (.aload_n 0, 1) := by decide +kernel
theorem dX6_layText_51 : decode cX6_layText 51 = .ok (.aload_n 1, 1) := by decide +kernel
theorem dX6_layText_52 : decode cX6_layText 52 = .ok (.putfield 27, 3) := by decide +kernel
theorem dX6_layText_55 : decode cX6_layText 55 = .ok (.aload_n 0, 1) := by decide +kernel
theorem dX6_layText_56 : decode cX6_layText 56 = .ok (.iconst 0, 1) := by decide +kernel
theorem dX6_layText_57 : decode cX6_layText 57 = .ok (.putfield 63, 3) := by decide +kernel
theorem dX6_layText_60 : decode cX6_layText 60 = .ok (.aload_n 0, 1) := by decide +kernel
theorem dX6_layText_61 : decode cX6_layText 61 = .ok (.getfield 33, 3) := by decide +kernel
theorem dX6_layText_64 : decode cX6_layText 64 = .ok (.invokevirtual 66, 3) := by decide +kernel
theorem dX6_layText_67 : decode cX6_layText 67 = .ok (.aload_n 0, 1) := by decide +kernel
theorem dX6_layText_68 : decode cX6_layText 68 = .ok (.getfield 23, 3) := by decide +kernel
theorem dX6_layText_71 : decode cX6_layText 71 = .ok (.getfield 60, 3) := by decide +kernel
theorem dX6_layText_74 : decode cX6_layText 74 = .ok (.ireturn, 1) := by decide +kernel
theorem dX6_sign_0 : decode cX6_sign 0 = .ok (.aload_n 0, 1) := by decide +kernel
theorem dX6_sign_1 : decode cX6_sign 1 = .ok (.iload_n 1, 1) := by decide +kernel
theorem dX6_sign_2 : decode cX6_sign 2 = .ok (.invokevirtual 69, 3) := by decide +kernel
theorem dX6_sign_5 : decode cX6_sign 5 = .ok (.ifCond .ne 5, 3) := by decide +kernel
theorem dX6_sign_8 : decode cX6_sign 8 = .ok (.iconst (-1), 1) := by decide +kernel
theorem dX6_sign_9 : decode cX6_sign 9 = .ok (.ireturn, 1) := by decide +kernel
theorem dX6_sign_10 : decode cX6_sign 10 = .ok (.aload_n 0, 1) := by decide +kernel
theorem dX6_sign_11 : decode cX6_sign 11 = .ok (.iload_n 1, 1) := by decide +kernel
theorem dX6_sign_12 : decode cX6_sign 12 = .ok (.invokevirtual 73, 3) := by decide +kernel
theorem dX6_sign_15 : decode cX6_sign 15 = .ok (.ifCond .eq 6, 3) := by decide +kernel
theorem dX6_sign_18 : decode cX6_sign 18 = .ok (.bipush (-2), 2) := by decide +kernel
theorem dX6_sign_20 : decode cX6_sign 20 = .ok (.ireturn, 1) := by decide +kernel
theorem dX6_sign_21 : decode cX6_sign 21 = .ok (.aload_n 0, 1) := by decide +kernel
theorem dX6_sign_22 : decode cX6_sign 22 = .ok (.iload_n 1, 1) := by decide +kernel
theorem dX6_sign_23 : decode cX6_sign 23 = .ok (.invokevirtual 77, 3) := by decide +kernel
theorem dX6_sign_26 : decode cX6_sign 26 = .ok (.aload_n 0, 1) := by decide +kernel
theorem dX6_sign_27 : decode cX6_sign 27 = .ok (.dup, 1) := by decide +kernel
theorem dX6_sign_28 : decode cX6_sign 28 = .ok (.getfield 63, 3) := by decide +kernel
theorem dX6_sign_31 : decode cX6_sign 31 = .ok (.iconst 1, 1) := by decide +kernel
theorem dX6_sign_32 : decode cX6_sign 32 = .ok (.iload_n 1, 1) := by decide +kernel
theorem dX6_sign_33 : decode cX6_sign 33 = .ok (.ishl, 1) := by decide +kernel
theorem dX6_sign_34 : decode cX6_sign 34 = .ok (.ior, 1) := by decide +kernel
theorem dX6_sign_35 : decode cX6_sign 35 = .ok (.putfield 63, 3) := by decide +kernel
theorem dX6_sign_38 : decode cX6_sign 38 = .ok (.aload_n 0, 1) := by decide +kernel
theorem dX6_sign_39 : decode cX6_sign 39 = .ok (.getfield 63, 3) := by decide +kernel
theorem dX6_sign_42 : decode cX6_sign 42 = .ok (.invokestatic 81, 3) := by decide +kernel
theorem dX6_sign_45 : decode cX6_sign 45 = .ok (.ireturn, 1) := by decide +kernel
theorem dX6_why_0 : decode cX6_why 0 = .ok (.aload_n 0, 1) := by decide +kernel
theorem dX6_why_1 : decode cX6_why 1 = .ok (.iload_n 1, 1) := by decide +kernel
theorem dX6_why_2 : decode cX6_why 2 = .ok (.invokevirtual 69, 3) := by decide +kernel
theorem dX6_why_5 : decode cX6_why 5 = .ok (.ifCond .ne 5, 3) := by decide +kernel
theorem dX6_why_8 : decode cX6_why 8 = .ok (.iconst (-1), 1) := by decide +kernel
theorem dX6_why_9 : decode cX6_why 9 = .ok (.ireturn, 1) := by decide +kernel
theorem dX6_why_10 : decode cX6_why 10 = .ok (.aload_n 0, 1) := by decide +kernel
theorem dX6_why_11 : decode cX6_why 11 = .ok (.iload_n 1, 1) := by decide +kernel
theorem dX6_why_12 : decode cX6_why 12 = .ok (.invokevirtual 73, 3) := by decide +kernel
theorem dX6_why_15 : decode cX6_why 15 = .ok (.ireturn, 1) := by decide +kernel
theorem dX6_clash_0 : decode cX6_clash 0 = .ok (.aload_n 0, 1) := by decide +kernel
theorem dX6_clash_1 : decode cX6_clash 1 = .ok (.iload_n 1, 1) := by decide +kernel
theorem dX6_clash_2 : decode cX6_clash 2 = .ok (.invokevirtual 69, 3) := by decide +kernel
theorem dX6_clash_5 : decode cX6_clash 5 = .ok (.ifCond .ne 5, 3) := by decide +kernel
theorem dX6_clash_8 : decode cX6_clash 8 = .ok (.iconst (-1), 1) := by decide +kernel
theorem dX6_clash_9 : decode cX6_clash 9 = .ok (.ireturn, 1) := by decide +kernel
theorem dX6_clash_10 : decode cX6_clash 10 = .ok (.aload_n 0, 1) := by decide +kernel
theorem dX6_clash_11 : decode cX6_clash 11 = .ok (.getfield 23, 3) := by decide +kernel
theorem dX6_clash_14 : decode cX6_clash 14 = .ok (.iload_n 1, 1) := by decide +kernel
theorem dX6_clash_15 : decode cX6_clash 15 = .ok (.aload_n 0, 1) := by decide +kernel
theorem dX6_clash_16 : decode cX6_clash 16 = .ok (.getfield 63, 3) := by decide +kernel
theorem dX6_clash_19 : decode cX6_clash 19 = .ok (.invokevirtual 86, 3) := by decide +kernel
theorem dX6_clash_22 : decode cX6_clash 22 = .ok (.ireturn, 1) := by decide +kernel
theorem dX6_drop_0 : decode cX6_drop 0 = .ok (.aload_n 0, 1) := by decide +kernel
theorem dX6_drop_1 : decode cX6_drop 1 = .ok (.iload_n 1, 1) := by decide +kernel
theorem dX6_drop_2 : decode cX6_drop 2 = .ok (.invokevirtual 69, 3) := by decide +kernel
theorem dX6_drop_5 : decode cX6_drop 5 = .ok (.ifCond .ne 5, 3) := by decide +kernel
theorem dX6_drop_8 : decode cX6_drop 8 = .ok (.iconst (-1), 1) := by decide +kernel
theorem dX6_drop_9 : decode cX6_drop 9 = .ok (.ireturn, 1) := by decide +kernel
theorem dX6_drop_10 : decode cX6_drop 10 = .ok (.aload_n 0, 1) := by decide +kernel
theorem dX6_drop_11 : decode cX6_drop 11 = .ok (.iload_n 1, 1) := by decide +kernel
theorem dX6_drop_12 : decode cX6_drop 12 = .ok (.invokevirtual 90, 3) := by decide +kernel
theorem dX6_drop_15 : decode cX6_drop 15 = .ok (.ifCond .ne 6, 3) := by decide +kernel
theorem dX6_drop_18 : decode cX6_drop 18 = .ok (.bipush (-2), 2) := by decide +kernel
theorem dX6_drop_20 : decode cX6_drop 20 = .ok (.ireturn, 1) := by decide +kernel
theorem dX6_drop_21 : decode cX6_drop 21 = .ok (.aload_n 0, 1) := by decide +kernel
theorem dX6_drop_22 : decode cX6_drop 22 = .ok (.iload_n 1, 1) := by decide +kernel
theorem dX6_drop_23 : decode cX6_drop 23 = .ok (.invokevirtual 77, 3) := by decide +kernel
theorem dX6_drop_26 : decode cX6_drop 26 = .ok (.aload_n 0, 1) := by decide +kernel
end
section
theorem dX6_drop_27 : decode cX6_drop 27 = .ok (.dup, 1) := by decide +kernel
theorem dX6_drop_28 : decode cX6_drop 28 = .ok (.getfield 63, 3) := by decide +kernel
theorem dX6_drop_31 : decode cX6_drop 31 = .ok (.iconst 1, 1) := by decide +kernel
theorem dX6_drop_32 : decode cX6_drop 32 = .ok (.iload_n 1, 1) := by decide +kernel
theorem dX6_drop_33 : decode cX6_drop 33 = .ok (.ishl, 1) := by decide +kernel
theorem dX6_drop_34 : decode cX6_drop 34 = .ok (.iconst (-1), 1) := by decide +kernel
theorem dX6_drop_35 : decode cX6_drop 35 = .ok (.ixor, 1) := by decide +kernel
theorem dX6_drop_36 : decode cX6_drop 36 = .ok (.iand, 1) := by decide +kernel
theorem dX6_drop_37 : decode cX6_drop 37 = .ok (.putfield 63, 3) := by decide +kernel
theorem dX6_drop_40 : decode cX6_drop 40 = .ok (.aload_n 0, 1) := by decide +kernel
theorem dX6_drop_41 : decode cX6_drop 41 = .ok (.getfield 63, 3) := by decide +kernel
theorem dX6_drop_44 : decode cX6_drop 44 = .ok (.invokestatic 81, 3) := by decide +kernel
theorem dX6_drop_47 : decode cX6_drop 47 = .ok (.ireturn, 1) := by decide +kernel
theorem dX6_move_0 : decode cX6_move 0 = .ok (.aload_n 0, 1) := by decide +kernel
theorem dX6_move_1 : decode cX6_move 1 = .ok (.iload_n 1, 1) := by decide +kernel
theorem dX6_move_2 : decode cX6_move 2 = .ok (.invokevirtual 69, 3) := by decide +kernel
theorem dX6_move_5 : decode cX6_move 5 = .ok (.ifCond .eq 13, 3) := by decide +kernel
theorem dX6_move_8 : decode cX6_move 8 = .ok (.iload_n 2, 1) := by decide +kernel
theorem dX6_move_9 : decode cX6_move 9 = .ok (.ifCond .lt 9, 3) := by decide +kernel
theorem dX6_move_12 : decode cX6_move 12 = .ok (.iload_n 2, 1) := by decide +kernel
theorem dX6_move_13 : decode cX6_move 13 = .ok (.bipush 51, 2) := by decide +kernel
theorem dX6_move_15 : decode cX6_move 15 = .ok (.if_icmp .le 5, 3) := by decide +kernel
theorem dX6_move_18 : decode cX6_move 18 = .ok (.iconst (-1), 1) := by decide +kernel
theorem dX6_move_19 : decode cX6_move 19 = .ok (.ireturn, 1) := by decide +kernel
theorem dX6_move_20 : decode cX6_move 20 = .ok (.aload_n 0, 1) := by decide +kernel
theorem dX6_move_21 : decode cX6_move 21 = .ok (.getfield 23, 3) := by decide +kernel
theorem dX6_move_24 : decode cX6_move 24 = .ok (.getfield 93, 3) := by decide +kernel
theorem dX6_move_27 : decode cX6_move 27 = .ok (.iload_n 1, 1) := by decide +kernel
theorem dX6_move_28 : decode cX6_move 28 = .ok (.aaload, 1) := by decide +kernel
theorem dX6_move_29 : decode cX6_move 29 = .ok (.astore_n 3, 1) := by decide +kernel
theorem dX6_move_30 : decode cX6_move 30 = .ok (.aload_n 3, 1) := by decide +kernel
theorem dX6_move_31 : decode cX6_move 31 = .ok (.getfield 97, 3) := by decide +kernel
theorem dX6_move_34 : decode cX6_move 34 = .ok (.istore 4, 2) := by decide +kernel
theorem dX6_move_36 : decode cX6_move 36 = .ok (.aload_n 0, 1) := by decide +kernel
theorem dX6_move_37 : decode cX6_move 37 = .ok (.iload_n 1, 1) := by decide +kernel
theorem dX6_move_38 : decode cX6_move 38 = .ok (.invokevirtual 90, 3) := by decide +kernel
theorem dX6_move_41 : decode cX6_move 41 = .ok (.ifCond .ne 17, 3) := by decide +kernel
theorem dX6_move_44 : decode cX6_move 44 = .ok (.iload_n 2, 1) := by decide +kernel
theorem dX6_move_45 : decode cX6_move 45 = .ok (.iload 4, 2) := by decide +kernel
theorem dX6_move_47 : decode cX6_move 47 = .ok (.if_icmp .eq 11, 3) := by decide +kernel
theorem dX6_move_50 : decode cX6_move 50 = .ok (.iload_n 2, 1) := by decide +kernel
theorem dX6_move_51 : decode cX6_move 51 = .ok (.aload_n 3, 1) := by decide +kernel
theorem dX6_move_52 : decode cX6_move 52 = .ok (.invokevirtual 102, 3) := by decide +kernel
theorem dX6_move_55 : decode cX6_move 55 = .ok (.if_icmp .le 6, 3) := by decide +kernel
theorem dX6_move_58 : decode cX6_move 58 = .ok (.bipush (-2), 2) := by decide +kernel
theorem dX6_move_60 : decode cX6_move 60 = .ok (.ireturn, 1) := by decide +kernel
theorem dX6_move_61 : decode cX6_move 61 = .ok (.aload_n 0, 1) := by decide +kernel
theorem dX6_move_62 : decode cX6_move 62 = .ok (.iload_n 1, 1) := by decide +kernel
theorem dX6_move_63 : decode cX6_move 63 = .ok (.invokevirtual 77, 3) := by decide +kernel
theorem dX6_move_66 : decode cX6_move 66 = .ok (.aload_n 3, 1) := by decide +kernel
theorem dX6_move_67 : decode cX6_move 67 = .ok (.iload_n 2, 1) := by decide +kernel
theorem dX6_move_68 : decode cX6_move 68 = .ok (.putfield 97, 3) := by decide +kernel
theorem dX6_move_71 : decode cX6_move 71 = .ok (.iload 4, 2) := by decide +kernel
theorem dX6_move_73 : decode cX6_move 73 = .ok (.ireturn, 1) := by decide +kernel
theorem dX6_soonest_0 : decode cX6_soonest 0 = .ok (.aload_n 0, 1) := by decide +kernel
theorem dX6_soonest_1 : decode cX6_soonest 1 = .ok (.iload_n 1, 1) := by decide +kernel
theorem dX6_soonest_2 : decode cX6_soonest 2 = .ok (.invokevirtual 69, 3) := by decide +kernel
theorem dX6_soonest_5 : decode cX6_soonest 5 = .ok (.ifCond .ne 5, 3) := by decide +kernel
theorem dX6_soonest_8 : decode cX6_soonest 8 = .ok (.iconst (-1), 1) := by decide +kernel
theorem dX6_soonest_9 : decode cX6_soonest 9 = .ok (.ireturn, 1) := by decide +kernel
theorem dX6_soonest_10 : decode cX6_soonest 10 = .ok (.aload_n 0, 1) := by decide +kernel
theorem dX6_soonest_11 : decode cX6_soonest 11 = .ok (.iload_n 1, 1) := by decide +kernel
theorem dX6_soonest_12 : decode cX6_soonest 12 = .ok (.invokevirtual 90, 3) := by decide +kernel
theorem dX6_soonest_15 : decode cX6_soonest 15 = .ok (.ifCond .eq 6, 3) := by decide +kernel
theorem dX6_soonest_18 : decode cX6_soonest 18 = .ok (.bipush (-2), 2) := by decide +kernel
theorem dX6_soonest_20 : decode cX6_soonest 20 = .ok (.ireturn, 1) := by decide +kernel
theorem dX6_soonest_21 : decode cX6_soonest 21 = .ok (.aload_n 0, 1) := by decide +kernel
theorem dX6_soonest_22 : decode cX6_soonest 22 = .ok (.getfield 23, 3) := by decide +kernel
theorem dX6_soonest_25 : decode cX6_soonest 25 = .ok (.getfield 93, 3) := by decide +kernel
theorem dX6_soonest_28 : decode cX6_soonest 28 = .ok (.iload_n 1, 1) := by decide +kernel
theorem dX6_soonest_29 : decode cX6_soonest 29 = .ok (.aaload, 1) := by decide +kernel
theorem dX6_soonest_30 : decode cX6_soonest 30 = .ok (.astore_n 2, 1) := by decide +kernel
theorem dX6_soonest_31 : decode cX6_soonest 31 = .ok (.aload_n 2, 1) := by decide +kernel
theorem dX6_soonest_32 : decode cX6_soonest 32 = .ok (.getfield 97, 3) := by decide +kernel
theorem dX6_soonest_35 : decode cX6_soonest 35 = .ok (.istore_n 3, 1) := by decide +kernel
theorem dX6_soonest_36 : decode cX6_soonest 36 = .ok (.bipush (-4), 2) := by decide +kernel
theorem dX6_soonest_38 : decode cX6_soonest 38 = .ok (.istore 4, 2) := by decide +kernel
theorem dX6_soonest_40 : decode cX6_soonest 40 = .ok (.iload_n 3, 1) := by decide +kernel
theorem dX6_soonest_41 : decode cX6_soonest 41 = .ok (.istore 5, 2) := by decide +kernel
theorem dX6_soonest_43 : decode cX6_soonest 43 = .ok (.iload 5, 2) := by decide +kernel
theorem dX6_soonest_45 : decode cX6_soonest 45 = .ok (.aload_n 2, 1) := by decide +kernel
theorem dX6_soonest_46 : decode cX6_soonest 46 = .ok (.invokevirtual 102, 3) := by decide +kernel
theorem dX6_soonest_49 : decode cX6_soonest 49 = .ok (.if_icmp .gt 34, 3) := by decide +kernel
theorem dX6_soonest_52 : decode cX6_soonest 52 = .ok (.iload 4, 2) := by decide +kernel
theorem dX6_soonest_54 : decode cX6_soonest 54 = .ok (.bipush (-4), 2) := by decide +kernel
theorem dX6_soonest_56 : decode cX6_soonest 56 = .ok (.if_icmp .ne 27, 3) := by decide +kernel
theorem dX6_soonest_59 : decode cX6_soonest 59 = .ok (.aload_n 2, 1) := by decide +kernel
theorem dX6_soonest_60 : decode cX6_soonest 60 = .ok (.iload 5, 2) := by decide +kernel
theorem dX6_soonest_62 : decode cX6_soonest 62 = .ok (.putfield 97, 3) := by decide +kernel
theorem dX6_soonest_65 : decode cX6_soonest 65 = .ok (.aload_n 0, 1) := by decide +kernel
theorem dX6_soonest_66 : decode cX6_soonest 66 = .ok (.iload_n 1, 1) := by decide +kernel
theorem dX6_soonest_67 : decode cX6_soonest 67 = .ok (.invokevirtual 73, 3) := by decide +kernel
theorem dX6_soonest_70 : decode cX6_soonest 70 = .ok (.ifCond .ne 7, 3) := by decide +kernel
theorem dX6_soonest_73 : decode cX6_soonest 73 = .ok (.iload 5, 2) := by decide +kernel
theorem dX6_soonest_75 : decode cX6_soonest 75 = .ok (.istore 4, 2) := by decide +kernel
theorem dX6_soonest_77 : decode cX6_soonest 77 = .ok (.iinc 5 1, 3) := by decide +kernel
theorem dX6_soonest_80 : decode cX6_soonest 80 = .ok (.goto (-37), 3) := by decide +kernel
theorem dX6_soonest_83 : decode cX6_soonest 83 = .ok (.aload_n 2, 1) := by decide +kernel
theorem dX6_soonest_84 : decode cX6_soonest 84 = .ok (.iload_n 3, 1) := by decide +kernel
theorem dX6_soonest_85 : decode cX6_soonest 85 = .ok (.putfield 97, 3) := by decide +kernel
theorem dX6_soonest_88 : decode cX6_soonest 88 = .ok (.iload 4, 2) := by decide +kernel
theorem dX6_soonest_90 : decode cX6_soonest 90 = .ok (.ireturn, 1) := by decide +kernel
theorem dX6_undo_0 : decode cX6_undo 0 = .ok (.aload_n 0, 1) := by decide +kernel
theorem dX6_undo_1 : decode cX6_undo 1 = .ok (.getfield 33, 3) := by decide +kernel
theorem dX6_undo_4 : decode cX6_undo 4 = .ok (.invokevirtual 105, 3) := by decide +kernel
theorem dX6_undo_7 : decode cX6_undo 7 = .ok (.astore_n 1, 1) := by decide +kernel
theorem dX6_undo_8 : decode cX6_undo 8 = .ok (.aload_n 1, 1) := by decide +kernel
theorem dX6_undo_9 : decode cX6_undo 9 = .ok (.ifnonnull 6, 3) := by decide +kernel
theorem dX6_undo_12 : decode cX6_undo 12 = .ok (.bipush (-2), 2) := by decide +kernel
theorem dX6_undo_14 : decode cX6_undo 14 = .ok (.ireturn, 1) := by decide +kernel
theorem dX6_undo_15 : decode cX6_undo 15 = .ok (.aload_n 0, 1) := by decide +kernel
theorem dX6_undo_16 : decode cX6_undo 16 = .ok (.aload_n 1, 1) := by decide +kernel
theorem dX6_undo_17 : decode cX6_undo 17 = .ok (.getfield 109, 3) := by decide +kernel
theorem dX6_undo_20 : decode cX6_undo 20 = .ok (.putfield 63, 3) := by decide +kernel
theorem dX6_undo_23 : decode cX6_undo 23 = .ok (.aload_n 0, 1) := by decide +kernel
theorem dX6_undo_24 : decode cX6_undo 24 = .ok (.aload_n 1, 1) := by decide +kernel
theorem dX6_undo_25 : decode cX6_undo 25 = .ok (.getfield 112, 3) := by decide +kernel
theorem dX6_undo_28 : decode cX6_undo 28 = .ok (.invokevirtual 69, 3) := by decide +kernel
theorem dX6_undo_31 : decode cX6_undo 31 = .ok (.ifCond .eq 22, 3) := by decide +kernel
theorem dX6_undo_34 : decode cX6_undo 34 = .ok (.aload_n 0, 1) := by decide +kernel
theorem dX6_undo_35 : decode cX6_undo 35 = .ok (.getfield 23, 3) := by decide +kernel
theorem dX6_undo_38 : decode cX6_undo 38 = .ok (.getfield 93, 3) := by decide +kernel
theorem dX6_undo_41 : decode cX6_undo 41 = .ok (.aload_n 1, 1) := by decide +kernel
theorem dX6_undo_42 : decode cX6_undo 42 = .ok (.getfield 112, 3) := by decide +kernel
theorem dX6_undo_45 : decode cX6_undo 45 = .ok (.aaload, 1) := by decide +kernel
theorem dX6_undo_46 : decode cX6_undo 46 = .ok (.aload_n 1, 1) := by decide +kernel
theorem dX6_undo_47 : decode cX6_undo 47 = .ok (.getfield 115, 3) := by decide +kernel
theorem dX6_undo_50 : decode cX6_undo 50 = .ok (.putfield 97, 3) := by decide +kernel
theorem dX6_undo_53 : decode cX6_undo 53 = .ok (.aload_n 0, 1) := by decide +kernel
theorem dX6_undo_54 : decode cX6_undo 54 = .ok (.getfield 33, 3) := by decide +kernel
theorem dX6_undo_57 : decode cX6_undo 57 = .ok (.getfield 116, 3) := by decide +kernel
theorem dX6_undo_60 : decode cX6_undo 60 = .ok (.ireturn, 1) := by decide +kernel
theorem dX6_isOffer_0 : decode cX6_isOffer 0 = .ok (.iload_n 1, 1) := by decide +kernel
theorem dX6_isOffer_1 : decode cX6_isOffer 1 = .ok (.ifCond .lt 18, 3) := by decide +kernel
theorem dX6_isOffer_4 : decode cX6_isOffer 4 = .ok (.iload_n 1, 1) := by decide +kernel
theorem dX6_isOffer_5 : decode cX6_isOffer 5 = .ok (.aload_n 0, 1) := by decide +kernel
theorem dX6_isOffer_6 : decode cX6_isOffer 6 = .ok (.getfield 23, 3) := by decide +kernel
theorem dX6_isOffer_9 : decode cX6_isOffer 9 = .ok (.getfield 60, 3) := by decide +kernel
theorem dX6_isOffer_12 : decode cX6_isOffer 12 = .ok (.if_icmp .ge 7, 3) := by decide +kernel
theorem dX6_isOffer_15 : decode cX6_isOffer 15 = .ok (.iconst 1, 1) := by decide +kernel
theorem dX6_isOffer_16 : decode cX6_isOffer 16 = .ok (.goto 4, 3) := by decide +kernel
theorem dX6_isOffer_19 : decode cX6_isOffer 19 = .ok (.iconst 0, 1) := by decide +kernel
theorem dX6_isOffer_20 : decode cX6_isOffer 20 = .ok (.ireturn, 1) := by decide +kernel
theorem dX6_isSigned_0 : decode cX6_isSigned 0 = .ok (.aload_n 0, 1) := by decide +kernel
theorem dX6_isSigned_1 : decode cX6_isSigned 1 = .ok (.getfield 63, 3) := by decide +kernel
theorem dX6_isSigned_4 : decode cX6_isSigned 4 = .ok (.iload_n 1, 1) := by decide +kernel
theorem dX6_isSigned_5 : decode cX6_isSigned 5 = .ok (.invokestatic 119, 3) := by decide +kernel
theorem dX6_isSigned_8 : decode cX6_isSigned 8 = .ok (.ireturn, 1) := by decide +kernel
theorem dX6_whatSpeaksAgainst_0 : decode cX6_whatSpeaksAgainst 0 = .ok (.aload_n 0, 1) := by decide +kernel
theorem dX6_whatSpeaksAgainst_1 : decode cX6_whatSpeaksAgainst 1 = .ok (.iload_n 1, 1) := by decide +kernel
theorem dX6_whatSpeaksAgainst_2 : decode cX6_whatSpeaksAgainst 2 = .ok (.invokevirtual 90, 3) := by decide +kernel
theorem dX6_whatSpeaksAgainst_5 : decode cX6_whatSpeaksAgainst 5 = .ok (.ifCond .eq 5, 3) := by decide +kernel
theorem dX6_whatSpeaksAgainst_8 : decode cX6_whatSpeaksAgainst 8 = .ok (.iconst 1, 1) := by decide +kernel
theorem dX6_whatSpeaksAgainst_9 : decode cX6_whatSpeaksAgainst 9 = .ok (.ireturn, 1) := by decide +kernel
theorem dX6_whatSpeaksAgainst_10 : decode cX6_whatSpeaksAgainst 10 = .ok (.aload_n 0, 1) := by decide +kernel
theorem dX6_whatSpeaksAgainst_11 : decode cX6_whatSpeaksAgainst 11 = .ok (.getfield 23, 3) := by decide +kernel
theorem dX6_whatSpeaksAgainst_14 : decode cX6_whatSpeaksAgainst 14 = .ok (.iload_n 1, 1) := by decide +kernel
theorem dX6_whatSpeaksAgainst_15 : decode cX6_whatSpeaksAgainst 15 = .ok (.invokevirtual 123, 3) := by decide +kernel
theorem dX6_whatSpeaksAgainst_18 : decode cX6_whatSpeaksAgainst 18 = .ok (.ifCond .ne 5, 3) := by decide +kernel
theorem dX6_whatSpeaksAgainst_21 : decode cX6_whatSpeaksAgainst 21 = .ok (.iconst 2, 1) := by decide +kernel
theorem dX6_whatSpeaksAgainst_22 : decode cX6_whatSpeaksAgainst 22 = .ok (.ireturn, 1) := by decide +kernel
theorem dX6_whatSpeaksAgainst_23 : decode cX6_whatSpeaksAgainst 23 = .ok (.aload_n 0, 1) := by decide +kernel
theorem dX6_whatSpeaksAgainst_24 : decode cX6_whatSpeaksAgainst 24 = .ok (.getfield 23, 3) := by decide +kernel
theorem dX6_whatSpeaksAgainst_27 : decode cX6_whatSpeaksAgainst 27 = .ok (.iload_n 1, 1) := by decide +kernel
theorem dX6_whatSpeaksAgainst_28 : decode cX6_whatSpeaksAgainst 28 = .ok (.aload_n 0, 1) := by decide +kernel
theorem dX6_whatSpeaksAgainst_29 : decode cX6_whatSpeaksAgainst 29 = .ok (.getfield 63, 3) := by decide +kernel
theorem dX6_whatSpeaksAgainst_32 : decode cX6_whatSpeaksAgainst 32 = .ok (.invokevirtual 86, 3) := by decide +kernel
theorem dX6_whatSpeaksAgainst_35 : decode cX6_whatSpeaksAgainst 35 = .ok (.bipush (-4), 2) := by decide +kernel
theorem dX6_whatSpeaksAgainst_37 : decode cX6_whatSpeaksAgainst 37 = .ok (.if_icmp .eq 5, 3) := by decide +kernel
theorem dX6_whatSpeaksAgainst_40 : decode cX6_whatSpeaksAgainst 40 = .ok (.iconst 3, 1) := by decide +kernel
theorem dX6_whatSpeaksAgainst_41 : decode cX6_whatSpeaksAgainst 41 = .ok (.ireturn, 1) := by decide +kernel
theorem dX6_whatSpeaksAgainst_42 : decode cX6_whatSpeaksAgainst 42 = .ok (.aload_n 0, 1) := by decide +kernel
theorem dX6_whatSpeaksAgainst_43 : decode cX6_whatSpeaksAgainst 43 = .ok (.getfield 23, 3) := by decide +kernel
theorem dX6_whatSpeaksAgainst_46 : decode cX6_whatSpeaksAgainst 46 = .ok (.aload_n 0, 1) := by decide +kernel
theorem dX6_whatSpeaksAgainst_47 : decode cX6_whatSpeaksAgainst 47 = .ok (.getfield 63, 3) := by decide +kernel
theorem dX6_whatSpeaksAgainst_50 : decode cX6_whatSpeaksAgainst 50 = .ok (.iconst 1, 1) := by decide +kernel
theorem dX6_whatSpeaksAgainst_51 : decode cX6_whatSpeaksAgainst 51 = .ok (.iload_n 1, 1) := by decide +kernel
theorem dX6_whatSpeaksAgainst_52 : decode cX6_whatSpeaksAgainst 52 = .ok (.ishl, 1) := by decide +kernel
theorem dX6_whatSpeaksAgainst_53 : decode cX6_whatSpeaksAgainst 53 = .ok (.ior, 1) := by decide +kernel
theorem dX6_whatSpeaksAgainst_54 : decode cX6_whatSpeaksAgainst 54 = .ok (.invokevirtual 126, 3) := by decide +kernel
theorem dX6_whatSpeaksAgainst_57 : decode cX6_whatSpeaksAgainst 57 = .ok (.ifCond .eq 7, 3) := by decide +kernel
theorem dX6_whatSpeaksAgainst_60 : decode cX6_whatSpeaksAgainst 60 = .ok (.iconst 0, 1) := by decide +kernel
theorem dX6_whatSpeaksAgainst_61 : decode cX6_whatSpeaksAgainst 61 = .ok (.goto 4, 3) := by decide +kernel
theorem dX6_whatSpeaksAgainst_64 : decode cX6_whatSpeaksAgainst 64 = .ok (.iconst 4, 1) := by decide +kernel
theorem dX6_whatSpeaksAgainst_65 : decode cX6_whatSpeaksAgainst 65 = .ok (.ireturn, 1) := by decide +kernel
theorem dX6_remember_0 : decode cX6_remember 0 = .ok (.aload_n 0, 1) := by decide +kernel
theorem dX6_remember_1 : decode cX6_remember 1 = .ok (.getfield 33, 3) := by decide +kernel
theorem dX6_remember_4 : decode cX6_remember 4 = .ok (.aload_n 0, 1) := by decide +kernel
theorem dX6_remember_5 : decode cX6_remember 5 = .ok (.getfield 63, 3) := by decide +kernel
theorem dX6_remember_8 : decode cX6_remember 8 = .ok (.iload_n 1, 1) := by decide +kernel
theorem dX6_remember_9 : decode cX6_remember 9 = .ok (.aload_n 0, 1) := by decide +kernel
theorem dX6_remember_10 : decode cX6_remember 10 = .ok (.getfield 23, 3) := by decide +kernel
theorem dX6_remember_13 : decode cX6_remember 13 = .ok (.getfield 93, 3) := by decide +kernel
theorem dX6_remember_16 : decode cX6_remember 16 = .ok (.iload_n 1, 1) := by decide +kernel
theorem dX6_remember_17 : decode cX6_remember 17 = .ok (.aaload, 1) := by decide +kernel
theorem dX6_remember_18 : decode cX6_remember 18 = .ok (.getfield 97, 3) := by decide +kernel
theorem dX6_remember_21 : decode cX6_remember 21 = .ok (.invokevirtual 129, 3) := by decide +kernel
theorem dX6_remember_24 : decode cX6_remember 24 = .ok (.return_, 1) := by decide +kernel
theorem dX6_offer_0 : decode cX6_offer 0 = .ok (.aload_n 0, 1) := by decide +kernel
theorem dX6_offer_1 : decode cX6_offer 1 = .ok (.iload_n 1, 1) := by decide +kernel
theorem dX6_offer_2 : decode cX6_offer 2 = .ok (.invokevirtual 69, 3) := by decide +kernel
theorem dX6_offer_5 : decode cX6_offer 5 = .ok (.ifCond .ne 5, 3) := by decide +kernel
theorem dX6_offer_8 : decode cX6_offer 8 = .ok (.iconst (-1), 1) := by decide +kernel
theorem dX6_offer_9 : decode cX6_offer 9 = .ok (.ireturn, 1) := by decide +kernel
theorem dX6_offer_10 : decode cX6_offer 10 = .ok (.aload_n 0, 1) := by decide +kernel
theorem dX6_offer_11 : decode cX6_offer 11 = .ok (.getfield 23, 3) := by decide +kernel
theorem dX6_offer_14 : decode cX6_offer 14 = .ok (.getfield 93, 3) := by decide +kernel
theorem dX6_offer_17 : decode cX6_offer 17 = .ok (.iload_n 1, 1) := by decide +kernel
theorem dX6_offer_18 : decode cX6_offer 18 = .ok (.aaload, 1) := by decide +kernel
theorem dX6_offer_19 : decode cX6_offer 19 = .ok (.astore_n 3, 1) := by decide +kernel
theorem dX6_offer_20 : decode cX6_offer 20 = .ok (.iload_n 2, 1) := by decide +kernel
theorem dX6_offer_21 : decode cX6_offer 21 = .ok (.tableswitch 114 0 8 #[51, 56, 61, 66, 71, 76, 89, 94, 108], 51) := by decide +kernel
theorem dX6_offer_72 : decode cX6_offer 72 = .ok (.aload_n 3, 1) := by decide +kernel
theorem dX6_offer_73 : decode cX6_offer 73 = .ok (.getfield 133, 3) := by decide +kernel
theorem dX6_offer_76 : decode cX6_offer 76 = .ok (.ireturn, 1) := by decide +kernel
theorem dX6_offer_77 : decode cX6_offer 77 = .ok (.aload_n 3, 1) := by decide +kernel
theorem dX6_offer_78 : decode cX6_offer 78 = .ok (.getfield 136, 3) := by decide +kernel
theorem dX6_offer_81 : decode cX6_offer 81 = .ok (.ireturn, 1) := by decide +kernel
theorem dX6_offer_82 : decode cX6_offer 82 = .ok (.aload_n 3, 1) := by decide +kernel
theorem dX6_offer_83 : decode cX6_offer 83 = .ok (.getfield 139, 3) := by decide +kernel
theorem dX6_offer_86 : decode cX6_offer 86 = .ok (.ireturn, 1) := by decide +kernel
theorem dX6_offer_87 : decode cX6_offer 87 = .ok (.aload_n 3, 1) := by decide +kernel
theorem dX6_offer_88 : decode cX6_offer 88 = .ok (.invokevirtual 142, 3) := by decide +kernel
theorem dX6_offer_91 : decode cX6_offer 91 = .ok (.ireturn, 1) := by decide +kernel
theorem dX6_offer_92 : decode cX6_offer 92 = .ok (.aload_n 3, 1) := by decide +kernel
theorem dX6_offer_93 : decode cX6_offer 93 = .ok (.invokevirtual 145, 3) := by decide +kernel
theorem dX6_offer_96 : decode cX6_offer 96 = .ok (.ireturn, 1) := by decide +kernel
theorem dX6_offer_97 : decode cX6_offer 97 = .ok (.aload_n 3, 1) := by decide +kernel
theorem dX6_offer_98 : decode cX6_offer 98 = .ok (.getfield 148, 3) := by decide +kernel
theorem dX6_offer_101 : decode cX6_offer 101 = .ok (.ifCond .eq 7, 3) := by decide +kernel
theorem dX6_offer_104 : decode cX6_offer 104 = .ok (.iconst 1, 1) := by decide +kernel
theorem dX6_offer_105 : decode cX6_offer 105 = .ok (.goto 4, 3) := by decide +kernel
theorem dX6_offer_108 : decode cX6_offer 108 = .ok (.iconst 0, 1) := by decide +kernel
theorem dX6_offer_109 : decode cX6_offer 109 = .ok (.ireturn, 1) := by decide +kernel
theorem dX6_offer_110 : decode cX6_offer 110 = .ok (.aload_n 3, 1) := by decide +kernel
theorem dX6_offer_111 : decode cX6_offer 111 = .ok (.getfield 152, 3) := by decide +kernel
theorem dX6_offer_114 : decode cX6_offer 114 = .ok (.ireturn, 1) := by decide +kernel
theorem dX6_offer_115 : decode cX6_offer 115 = .ok (.aload_n 0, 1) := by decide +kernel
theorem dX6_offer_116 : decode cX6_offer 116 = .ok (.iload_n 1, 1) := by decide +kernel
theorem dX6_offer_117 : decode cX6_offer 117 = .ok (.invokevirtual 90, 3) := by decide +kernel
theorem dX6_offer_120 : decode cX6_offer 120 = .ok (.ifCond .eq 7, 3) := by decide +kernel
theorem dX6_offer_123 : decode cX6_offer 123 = .ok (.iconst 1, 1) := by decide +kernel
theorem dX6_offer_124 : decode cX6_offer 124 = .ok (.goto 4, 3) := by decide +kernel
theorem dX6_offer_127 : decode cX6_offer 127 = .ok (.iconst 0, 1) := by decide +kernel
theorem dX6_offer_128 : decode cX6_offer 128 = .ok (.ireturn, 1) := by decide +kernel
theorem dX6_offer_129 : decode cX6_offer 129 = .ok (.aload_n 3, 1) := by decide +kernel
theorem dX6_offer_130 : decode cX6_offer 130 = .ok (.aload_n 3, 1) := by decide +kernel
theorem dX6_offer_131 : decode cX6_offer 131 = .ok (.invokevirtual 155, 3) := by decide +kernel
theorem dX6_offer_134 : decode cX6_offer 134 = .ok (.ireturn, 1) := by decide +kernel
theorem dX6_offer_135 : decode cX6_offer 135 = .ok (.iconst (-1), 1) := by decide +kernel
theorem dX6_offer_136 : decode cX6_offer 136 = .ok (.ireturn, 1) := by decide +kernel
theorem dX6_common_0 : decode cX6_common 0 = .ok (.aload_n 0, 1) := by decide +kernel
theorem dX6_common_1 : decode cX6_common 1 = .ok (.iload_n 1, 1) := by decide +kernel
theorem dX6_common_2 : decode cX6_common 2 = .ok (.invokevirtual 69, 3) := by decide +kernel
theorem dX6_common_5 : decode cX6_common 5 = .ok (.ifCond .eq 16, 3) := by decide +kernel
theorem dX6_common_8 : decode cX6_common 8 = .ok (.aload_n 0, 1) := by decide +kernel
theorem dX6_common_9 : decode cX6_common 9 = .ok (.iload_n 2, 1) := by decide +kernel
theorem dX6_common_10 : decode cX6_common 10 = .ok (.invokevirtual 69, 3) := by decide +kernel
theorem dX6_common_13 : decode cX6_common 13 = .ok (.ifCond .eq 8, 3) := by decide +kernel
theorem dX6_common_16 : decode cX6_common 16 = .ok (.iload_n 1, 1) := by decide +kernel
theorem dX6_common_17 : decode cX6_common 17 = .ok (.iload_n 2, 1) := by decide +kernel
theorem dX6_common_18 : decode cX6_common 18 = .ok (.if_icmp .ne 5, 3) := by decide +kernel
theorem dX6_common_21 : decode cX6_common 21 = .ok (.iconst (-1), 1) := by decide +kernel
theorem dX6_common_22 : decode cX6_common 22 = .ok (.ireturn, 1) := by decide +kernel
theorem dX6_common_23 : decode cX6_common 23 = .ok (.aload_n 0, 1) := by decide +kernel
theorem dX6_common_24 : decode cX6_common 24 = .ok (.getfield 23, 3) := by decide +kernel
theorem dX6_common_27 : decode cX6_common 27 = .ok (.getfield 93, 3) := by decide +kernel
theorem dX6_common_30 : decode cX6_common 30 = .ok (.iload_n 1, 1) := by decide +kernel
theorem dX6_common_31 : decode cX6_common 31 = .ok (.aaload, 1) := by decide +kernel
theorem dX6_common_32 : decode cX6_common 32 = .ok (.aload_n 0, 1) := by decide +kernel
theorem dX6_common_33 : decode cX6_common 33 = .ok (.getfield 23, 3) := by decide +kernel
theorem dX6_common_36 : decode cX6_common 36 = .ok (.getfield 93, 3) := by decide +kernel
theorem dX6_common_39 : decode cX6_common 39 = .ok (.iload_n 2, 1) := by decide +kernel
theorem dX6_common_40 : decode cX6_common 40 = .ok (.aaload, 1) := by decide +kernel
theorem dX6_common_41 : decode cX6_common 41 = .ok (.invokevirtual 155, 3) := by decide +kernel
theorem dX6_common_44 : decode cX6_common 44 = .ok (.ireturn, 1) := by decide +kernel
theorem dX6_begin_0 : decode cX6_begin 0 = .ok (.iload_n 1, 1) := by decide +kernel
theorem dX6_begin_1 : decode cX6_begin 1 = .ok (.bipush 6, 2) := by decide +kernel
theorem dX6_begin_3 : decode cX6_begin 3 = .ok (.invokestatic 159, 3) := by decide +kernel
theorem dX6_begin_6 : decode cX6_begin 6 = .ok (.ifCond .eq 11, 3) := by decide +kernel
theorem dX6_begin_9 : decode cX6_begin 9 = .ok (.iload_n 2, 1) := by decide +kernel
theorem dX6_begin_10 : decode cX6_begin 10 = .ok (.iconst 4, 1) := by decide +kernel
theorem dX6_begin_11 : decode cX6_begin 11 = .ok (.invokestatic 159, 3) := by decide +kernel
theorem dX6_begin_14 : decode cX6_begin 14 = .ok (.ifCond .ne 5, 3) := by decide +kernel
theorem dX6_begin_17 : decode cX6_begin 17 = .ok (.iconst (-1), 1) := by decide +kernel
theorem dX6_begin_18 : decode cX6_begin 18 = .ok (.ireturn, 1) := by decide +kernel
theorem dX6_begin_19 : decode cX6_begin 19 = .ok (.aload_n 0, 1) := by decide +kernel
theorem dX6_begin_20 : decode cX6_begin 20 = .ok (.getfield 23, 3) := by decide +kernel
theorem dX6_begin_23 : decode cX6_begin 23 = .ok (.aload_n 0, 1) := by decide +kernel
theorem dX6_begin_24 : decode cX6_begin 24 = .ok (.getfield 63, 3) := by decide +kernel
theorem dX6_begin_27 : decode cX6_begin 27 = .ok (.iload_n 1, 1) := by decide +kernel
theorem dX6_begin_28 : decode cX6_begin 28 = .ok (.iload_n 2, 1) := by decide +kernel
theorem dX6_begin_29 : decode cX6_begin 29 = .ok (.invokevirtual 162, 3) := by decide +kernel
theorem dX6_begin_32 : decode cX6_begin 32 = .ok (.ireturn, 1) := by decide +kernel
theorem dX6_broken_0 : decode cX6_broken 0 = .ok (.iload_n 1, 1) := by decide +kernel
theorem dX6_broken_1 : decode cX6_broken 1 = .ok (.aload_n 0, 1) := by decide +kernel
theorem dX6_broken_2 : decode cX6_broken 2 = .ok (.getfield 23, 3) := by decide +kernel
theorem dX6_broken_5 : decode cX6_broken 5 = .ok (.getfield 166, 3) := by decide +kernel
theorem dX6_broken_8 : decode cX6_broken 8 = .ok (.invokestatic 159, 3) := by decide +kernel
theorem dX6_broken_11 : decode cX6_broken 11 = .ok (.ifCond .ne 5, 3) := by decide +kernel
theorem dX6_broken_14 : decode cX6_broken 14 = .ok (.iconst (-1), 1) := by decide +kernel
theorem dX6_broken_15 : decode cX6_broken 15 = .ok (.ireturn, 1) := by decide +kernel
theorem dX6_broken_16 : decode cX6_broken 16 = .ok (.aload_n 0, 1) := by decide +kernel
theorem dX6_broken_17 : decode cX6_broken 17 = .ok (.getfield 23, 3) := by decide +kernel
theorem dX6_broken_20 : decode cX6_broken 20 = .ok (.aload_n 0, 1) := by decide +kernel
theorem dX6_broken_21 : decode cX6_broken 21 = .ok (.getfield 63, 3) := by decide +kernel
theorem dX6_broken_24 : decode cX6_broken 24 = .ok (.aload_n 0, 1) := by decide +kernel
theorem dX6_broken_25 : decode cX6_broken 25 = .ok (.getfield 23, 3) := by decide +kernel
theorem dX6_broken_28 : decode cX6_broken 28 = .ok (.getfield 169, 3) := by decide +kernel
theorem dX6_broken_31 : decode cX6_broken 31 = .ok (.iload_n 1, 1) := by decide +kernel
theorem dX6_broken_32 : decode cX6_broken 32 = .ok (.aaload, 1) := by decide +kernel
theorem dX6_broken_33 : decode cX6_broken 33 = .ok (.invokevirtual 173, 3) := by decide +kernel
theorem dX6_broken_36 : decode cX6_broken 36 = .ok (.ireturn, 1) := by decide +kernel
theorem dX6_point_0 : decode cX6_point 0 = .ok (.iload_n 1, 1) := by decide +kernel
theorem dX6_point_1 : decode cX6_point 1 = .ok (.iload_n 2, 1) := by decide +kernel
theorem dX6_point_2 : decode cX6_point 2 = .ok (.iload_n 3, 1) := by decide +kernel
theorem dX6_point_3 : decode cX6_point 3 = .ok (.invokestatic 177, 3) := by decide +kernel
theorem dX6_point_6 : decode cX6_point 6 = .ok (.ifCond .eq 27, 3) := by decide +kernel
theorem dX6_point_9 : decode cX6_point 9 = .ok (.iload 4, 2) := by decide +kernel
theorem dX6_point_11 : decode cX6_point 11 = .ok (.aload_n 0, 1) := by decide +kernel
theorem dX6_point_12 : decode cX6_point 12 = .ok (.getfield 23, 3) := by decide +kernel
theorem dX6_point_15 : decode cX6_point 15 = .ok (.getfield 181, 3) := by decide +kernel
theorem dX6_point_18 : decode cX6_point 18 = .ok (.if_icmp .lt 15, 3) := by decide +kernel
theorem dX6_point_21 : decode cX6_point 21 = .ok (.iload 4, 2) := by decide +kernel
theorem dX6_point_23 : decode cX6_point 23 = .ok (.aload_n 0, 1) := by decide +kernel
theorem dX6_point_24 : decode cX6_point 24 = .ok (.getfield 23, 3) := by decide +kernel
theorem dX6_point_27 : decode cX6_point 27 = .ok (.getfield 184, 3) := by decide +kernel
theorem dX6_point_30 : decode cX6_point 30 = .ok (.if_icmp .le 5, 3) := by decide +kernel
theorem dX6_point_33 : decode cX6_point 33 = .ok (.iconst (-1), 1) := by decide +kernel
theorem dX6_point_34 : decode cX6_point 34 = .ok (.ireturn, 1) := by decide +kernel
theorem dX6_point_35 : decode cX6_point 35 = .ok (.iload 5, 2) := by decide +kernel
theorem dX6_point_37 : decode cX6_point 37 = .ok (.ifCond .eq 11, 3) := by decide +kernel
theorem dX6_point_40 : decode cX6_point 40 = .ok (.iload 5, 2) := by decide +kernel
theorem dX6_point_42 : decode cX6_point 42 = .ok (.iconst 1, 1) := by decide +kernel
theorem dX6_point_43 : decode cX6_point 43 = .ok (.if_icmp .eq 5, 3) := by decide +kernel
theorem dX6_point_46 : decode cX6_point 46 = .ok (.iconst (-1), 1) := by decide +kernel
theorem dX6_point_47 : decode cX6_point 47 = .ok (.ireturn, 1) := by decide +kernel
theorem dX6_point_48 : decode cX6_point 48 = .ok (.iload_n 1, 1) := by decide +kernel
theorem dX6_point_49 : decode cX6_point 49 = .ok (.iload_n 2, 1) := by decide +kernel
theorem dX6_point_50 : decode cX6_point 50 = .ok (.iload_n 3, 1) := by decide +kernel
theorem dX6_point_51 : decode cX6_point 51 = .ok (.invokestatic 187, 3) := by decide +kernel
theorem dX6_point_54 : decode cX6_point 54 = .ok (.istore 6, 2) := by decide +kernel
theorem dX6_point_56 : decode cX6_point 56 = .ok (.iload 5, 2) := by decide +kernel
theorem dX6_point_58 : decode cX6_point 58 = .ok (.ifCond .ne 12, 3) := by decide +kernel
theorem dX6_point_61 : decode cX6_point 61 = .ok (.aload_n 0, 1) := by decide +kernel
theorem dX6_point_62 : decode cX6_point 62 = .ok (.iload 6, 2) := by decide +kernel
theorem dX6_point_64 : decode cX6_point 64 = .ok (.iload 4, 2) := by decide +kernel
theorem dX6_point_66 : decode cX6_point 66 = .ok (.invokevirtual 190, 3) := by decide +kernel
theorem dX6_point_69 : decode cX6_point 69 = .ok (.ireturn, 1) := by decide +kernel
theorem dX6_point_70 : decode cX6_point 70 = .ok (.aload_n 0, 1) := by decide +kernel
theorem dX6_point_71 : decode cX6_point 71 = .ok (.iload 6, 2) := by decide +kernel
theorem dX6_point_73 : decode cX6_point 73 = .ok (.iconst 3, 1) := by decide +kernel
theorem dX6_point_74 : decode cX6_point 74 = .ok (.invokevirtual 193, 3) := by decide +kernel
theorem dX6_point_77 : decode cX6_point 77 = .ok (.iload 4, 2) := by decide +kernel
theorem dX6_point_79 : decode cX6_point 79 = .ok (.invokestatic 197, 3) := by decide +kernel
theorem dX6_point_82 : decode cX6_point 82 = .ok (.ifCond .eq 7, 3) := by decide +kernel
theorem dX6_point_85 : decode cX6_point 85 = .ok (.iconst 1, 1) := by decide +kernel
theorem dX6_point_86 : decode cX6_point 86 = .ok (.goto 4, 3) := by decide +kernel
theorem dX6_point_89 : decode cX6_point 89 = .ok (.iconst 0, 1) := by decide +kernel
theorem dX6_point_90 : decode cX6_point 90 = .ok (.ireturn, 1) := by decide +kernel
theorem dX6_points_0 : decode cX6_points 0 = .ok (.iload_n 1, 1) := by decide +kernel
theorem dX6_points_1 : decode cX6_points 1 = .ok (.ifCond .lt 8, 3) := by decide +kernel
theorem dX6_points_4 : decode cX6_points 4 = .ok (.iload_n 1, 1) := by decide +kernel
theorem dX6_points_5 : decode cX6_points 5 = .ok (.iconst 4, 1) := by decide +kernel
theorem dX6_points_6 : decode cX6_points 6 = .ok (.if_icmp .le 5, 3) := by decide +kernel
theorem dX6_points_9 : decode cX6_points 9 = .ok (.iconst (-1), 1) := by decide +kernel
theorem dX6_points_10 : decode cX6_points 10 = .ok (.ireturn, 1) := by decide +kernel
theorem dX6_points_11 : decode cX6_points 11 = .ok (.iconst 0, 1) := by decide +kernel
theorem dX6_points_12 : decode cX6_points 12 = .ok (.istore_n 2, 1) := by decide +kernel
theorem dX6_points_13 : decode cX6_points 13 = .ok (.iconst 0, 1) := by decide +kernel
theorem dX6_points_14 : decode cX6_points 14 = .ok (.istore_n 3, 1) := by decide +kernel
theorem dX6_points_15 : decode cX6_points 15 = .ok (.iload_n 3, 1) := by decide +kernel
theorem dX6_points_16 : decode cX6_points 16 = .ok (.bipush 96, 2) := by decide +kernel
theorem dX6_points_18 : decode cX6_points 18 = .ok (.if_icmp .ge 21, 3) := by decide +kernel
theorem dX6_points_21 : decode cX6_points 21 = .ok (.iload_n 2, 1) := by decide +kernel
theorem dX6_points_22 : decode cX6_points 22 = .ok (.aload_n 0, 1) := by decide +kernel
theorem dX6_points_23 : decode cX6_points 23 = .ok (.iload_n 3, 1) := by decide +kernel
theorem dX6_points_24 : decode cX6_points 24 = .ok (.iload_n 1, 1) := by decide +kernel
theorem dX6_points_25 : decode cX6_points 25 = .ok (.invokevirtual 193, 3) := by decide +kernel
theorem dX6_points_28 : decode cX6_points 28 = .ok (.invokestatic 201, 3) := by decide +kernel
theorem dX6_points_31 : decode cX6_points 31 = .ok (.iadd, 1) := by decide +kernel
theorem dX6_points_32 : decode cX6_points 32 = .ok (.istore_n 2, 1) := by decide +kernel
theorem dX6_points_33 : decode cX6_points 33 = .ok (.iinc 3 1, 3) := by decide +kernel
theorem dX6_points_36 : decode cX6_points 36 = .ok (.goto (-21), 3) := by decide +kernel
theorem dX6_points_39 : decode cX6_points 39 = .ok (.iload_n 2, 1) := by decide +kernel
theorem dX6_points_40 : decode cX6_points 40 = .ok (.ireturn, 1) := by decide +kernel
theorem dX6_window_0 : decode cX6_window 0 = .ok (.iload_n 1, 1) := by decide +kernel
theorem dX6_window_1 : decode cX6_window 1 = .ok (.iload_n 2, 1) := by decide +kernel
theorem dX6_window_2 : decode cX6_window 2 = .ok (.iload_n 3, 1) := by decide +kernel
theorem dX6_window_3 : decode cX6_window 3 = .ok (.invokestatic 177, 3) := by decide +kernel
theorem dX6_window_6 : decode cX6_window 6 = .ok (.ifCond .eq 9, 3) := by decide +kernel
theorem dX6_window_9 : decode cX6_window 9 = .ok (.iload 4, 2) := by decide +kernel
theorem dX6_window_11 : decode cX6_window 11 = .ok (.iconst (-1), 1) := by decide +kernel
theorem dX6_window_12 : decode cX6_window 12 = .ok (.if_icmp .ge 5, 3) := by decide +kernel
theorem dX6_window_15 : decode cX6_window 15 = .ok (.iconst (-1), 1) := by decide +kernel
theorem dX6_window_16 : decode cX6_window 16 = .ok (.ireturn, 1) := by decide +kernel
theorem dX6_window_17 : decode cX6_window 17 = .ok (.iload 5, 2) := by decide +kernel
theorem dX6_window_19 : decode cX6_window 19 = .ok (.ifCond .eq 11, 3) := by decide +kernel
theorem dX6_window_22 : decode cX6_window 22 = .ok (.iload 5, 2) := by decide +kernel
theorem dX6_window_24 : decode cX6_window 24 = .ok (.iconst 1, 1) := by decide +kernel
theorem dX6_window_25 : decode cX6_window 25 = .ok (.if_icmp .eq 5, 3) := by decide +kernel
theorem dX6_window_28 : decode cX6_window 28 = .ok (.iconst (-1), 1) := by decide +kernel
theorem dX6_window_29 : decode cX6_window 29 = .ok (.ireturn, 1) := by decide +kernel
theorem dX6_window_30 : decode cX6_window 30 = .ok (.aload_n 0, 1) := by decide +kernel
theorem dX6_window_31 : decode cX6_window 31 = .ok (.iload_n 1, 1) := by decide +kernel
theorem dX6_window_32 : decode cX6_window 32 = .ok (.iload_n 2, 1) := by decide +kernel
theorem dX6_window_33 : decode cX6_window 33 = .ok (.iload_n 3, 1) := by decide +kernel
theorem dX6_window_34 : decode cX6_window 34 = .ok (.invokestatic 187, 3) := by decide +kernel
theorem dX6_window_37 : decode cX6_window 37 = .ok (.iconst 4, 1) := by decide +kernel
theorem dX6_window_38 : decode cX6_window 38 = .ok (.invokevirtual 193, 3) := by decide +kernel
theorem dX6_window_41 : decode cX6_window 41 = .ok (.lstore 6, 2) := by decide +kernel
theorem dX6_window_43 : decode cX6_window 43 = .ok (.iload 4, 2) := by decide +kernel
theorem dX6_window_45 : decode cX6_window 45 = .ok (.iconst (-1), 1) := by decide +kernel
theorem dX6_window_46 : decode cX6_window 46 = .ok (.if_icmp .ne 12, 3) := by decide +kernel
theorem dX6_window_49 : decode cX6_window 49 = .ok (.lload 6, 2) := by decide +kernel
theorem dX6_window_51 : decode cX6_window 51 = .ok (.invokestatic 206, 3) := by decide +kernel
theorem dX6_window_54 : decode cX6_window 54 = .ok (.invokestatic 201, 3) := by decide +kernel
theorem dX6_window_57 : decode cX6_window 57 = .ok (.ireturn, 1) := by decide +kernel
theorem dX6_window_58 : decode cX6_window 58 = .ok (.lload 6, 2) := by decide +kernel
theorem dX6_window_60 : decode cX6_window 60 = .ok (.invokestatic 206, 3) := by decide +kernel
theorem dX6_window_63 : decode cX6_window 63 = .ok (.iload 4, 2) := by decide +kernel
theorem dX6_window_65 : decode cX6_window 65 = .ok (.invokestatic 210, 3) := by decide +kernel
theorem dX6_window_68 : decode cX6_window 68 = .ok (.istore 8, 2) := by decide +kernel
theorem dX6_window_70 : decode cX6_window 70 = .ok (.iload 8, 2) := by decide +kernel
theorem dX6_window_72 : decode cX6_window 72 = .ok (.bipush (-4), 2) := by decide +kernel
theorem dX6_window_74 : decode cX6_window 74 = .ok (.if_icmp .eq 8, 3) := by decide +kernel
theorem dX6_window_77 : decode cX6_window 77 = .ok (.iload 5, 2) := by decide +kernel
theorem dX6_window_79 : decode cX6_window 79 = .ok (.ifCond .ne 6, 3) := by decide +kernel
theorem dX6_window_82 : decode cX6_window 82 = .ok (.iload 8, 2) := by decide +kernel
theorem dX6_window_84 : decode cX6_window 84 = .ok (.ireturn, 1) := by decide +kernel
theorem dX6_window_85 : decode cX6_window 85 = .ok (.iload 8, 2) := by decide +kernel
theorem dX6_window_87 : decode cX6_window 87 = .ok (.lload 6, 2) := by decide +kernel
theorem dX6_window_89 : decode cX6_window 89 = .ok (.iload 8, 2) := by decide +kernel
theorem dX6_window_91 : decode cX6_window 91 = .ok (.invokestatic 214, 3) := by decide +kernel
theorem dX6_window_94 : decode cX6_window 94 = .ok (.iadd, 1) := by decide +kernel
theorem dX6_window_95 : decode cX6_window 95 = .ok (.iconst 1, 1) := by decide +kernel
theorem dX6_window_96 : decode cX6_window 96 = .ok (.isub, 1) := by decide +kernel
theorem dX6_window_97 : decode cX6_window 97 = .ok (.ireturn, 1) := by decide +kernel
theorem dX6_longest_0 : decode cX6_longest 0 = .ok (.iload_n 1, 1) := by decide +kernel
theorem dX6_longest_1 : decode cX6_longest 1 = .ok (.ifCond .lt 8, 3) := by decide +kernel
theorem dX6_longest_4 : decode cX6_longest 4 = .ok (.iload_n 1, 1) := by decide +kernel
theorem dX6_longest_5 : decode cX6_longest 5 = .ok (.iconst 4, 1) := by decide +kernel
theorem dX6_longest_6 : decode cX6_longest 6 = .ok (.if_icmp .le 5, 3) := by decide +kernel
theorem dX6_longest_9 : decode cX6_longest 9 = .ok (.iconst (-1), 1) := by decide +kernel
theorem dX6_longest_10 : decode cX6_longest 10 = .ok (.ireturn, 1) := by decide +kernel
theorem dX6_longest_11 : decode cX6_longest 11 = .ok (.iconst 0, 1) := by decide +kernel
theorem dX6_longest_12 : decode cX6_longest 12 = .ok (.istore_n 2, 1) := by decide +kernel
theorem dX6_longest_13 : decode cX6_longest 13 = .ok (.iconst 0, 1) := by decide +kernel
theorem dX6_longest_14 : decode cX6_longest 14 = .ok (.istore_n 3, 1) := by decide +kernel
theorem dX6_longest_15 : decode cX6_longest 15 = .ok (.iconst 0, 1) := by decide +kernel
theorem dX6_longest_16 : decode cX6_longest 16 = .ok (.istore 4, 2) := by decide +kernel
theorem dX6_longest_18 : decode cX6_longest 18 = .ok (.iconst 0, 1) := by decide +kernel
theorem dX6_longest_19 : decode cX6_longest 19 = .ok (.istore 5, 2) := by decide +kernel
theorem dX6_longest_21 : decode cX6_longest 21 = .ok (.iload 5, 2) := by decide +kernel
theorem dX6_longest_23 : decode cX6_longest 23 = .ok (.bipush 96, 2) := by decide +kernel
theorem dX6_longest_25 : decode cX6_longest 25 = .ok (.if_icmp .ge 50, 3) := by decide +kernel
theorem dX6_longest_28 : decode cX6_longest 28 = .ok (.aload_n 0, 1) := by decide +kernel
theorem dX6_longest_29 : decode cX6_longest 29 = .ok (.iload 5, 2) := by decide +kernel
theorem dX6_longest_31 : decode cX6_longest 31 = .ok (.iconst 4, 1) := by decide +kernel
theorem dX6_longest_32 : decode cX6_longest 32 = .ok (.invokevirtual 193, 3) := by decide +kernel
theorem dX6_longest_35 : decode cX6_longest 35 = .ok (.lstore 6, 2) := by decide +kernel
theorem dX6_longest_37 : decode cX6_longest 37 = .ok (.lload 6, 2) := by decide +kernel
theorem dX6_longest_39 : decode cX6_longest 39 = .ok (.invokestatic 217, 3) := by decide +kernel
theorem dX6_longest_42 : decode cX6_longest 42 = .ok (.istore 8, 2) := by decide +kernel
theorem dX6_longest_44 : decode cX6_longest 44 = .ok (.lload 6, 2) := by decide +kernel
theorem dX6_longest_46 : decode cX6_longest 46 = .ok (.iload 8, 2) := by decide +kernel
theorem dX6_longest_48 : decode cX6_longest 48 = .ok (.invokestatic 214, 3) := by decide +kernel
theorem dX6_longest_51 : decode cX6_longest 51 = .ok (.istore 9, 2) := by decide +kernel
theorem dX6_longest_53 : decode cX6_longest 53 = .ok (.iload 9, 2) := by decide +kernel
theorem dX6_longest_55 : decode cX6_longest 55 = .ok (.iload_n 2, 1) := by decide +kernel
theorem dX6_longest_56 : decode cX6_longest 56 = .ok (.if_icmp .le 13, 3) := by decide +kernel
theorem dX6_longest_59 : decode cX6_longest 59 = .ok (.iload 9, 2) := by decide +kernel
theorem dX6_longest_61 : decode cX6_longest 61 = .ok (.istore_n 2, 1) := by decide +kernel
theorem dX6_longest_62 : decode cX6_longest 62 = .ok (.iload 5, 2) := by decide +kernel
theorem dX6_longest_64 : decode cX6_longest 64 = .ok (.istore_n 3, 1) := by decide +kernel
theorem dX6_longest_65 : decode cX6_longest 65 = .ok (.iload 8, 2) := by decide +kernel
theorem dX6_longest_67 : decode cX6_longest 67 = .ok (.istore 4, 2) := by decide +kernel
theorem dX6_longest_69 : decode cX6_longest 69 = .ok (.iinc 5 1, 3) := by decide +kernel
theorem dX6_longest_72 : decode cX6_longest 72 = .ok (.goto (-51), 3) := by decide +kernel
theorem dX6_longest_75 : decode cX6_longest 75 = .ok (.iload_n 2, 1) := by decide +kernel
theorem dX6_longest_76 : decode cX6_longest 76 = .ok (.ifCond .ne 6, 3) := by decide +kernel
theorem dX6_longest_79 : decode cX6_longest 79 = .ok (.bipush (-4), 2) := by decide +kernel
theorem dX6_longest_81 : decode cX6_longest 81 = .ok (.ireturn, 1) := by decide +kernel
theorem dX6_longest_82 : decode cX6_longest 82 = .ok (.iload_n 1, 1) := by decide +kernel
theorem dX6_longest_83 : decode cX6_longest 83 = .ok (.tableswitch 46 0 3 #[29, 31, 36, 41], 29) := by decide +kernel
theorem dX6_longest_112 : decode cX6_longest 112 = .ok (.iload_n 2, 1) := by decide +kernel
theorem dX6_longest_113 : decode cX6_longest 113 = .ok (.ireturn, 1) := by decide +kernel
theorem dX6_longest_114 : decode cX6_longest 114 = .ok (.iload_n 3, 1) := by decide +kernel
theorem dX6_longest_115 : decode cX6_longest 115 = .ok (.invokestatic 220, 3) := by decide +kernel
theorem dX6_longest_118 : decode cX6_longest 118 = .ok (.ireturn, 1) := by decide +kernel
theorem dX6_longest_119 : decode cX6_longest 119 = .ok (.iload_n 3, 1) := by decide +kernel
theorem dX6_longest_120 : decode cX6_longest 120 = .ok (.invokestatic 223, 3) := by decide +kernel
theorem dX6_longest_123 : decode cX6_longest 123 = .ok (.ireturn, 1) := by decide +kernel
theorem dX6_longest_124 : decode cX6_longest 124 = .ok (.iload_n 3, 1) := by decide +kernel
theorem dX6_longest_125 : decode cX6_longest 125 = .ok (.invokestatic 226, 3) := by decide +kernel
theorem dX6_longest_128 : decode cX6_longest 128 = .ok (.ireturn, 1) := by decide +kernel
theorem dX6_longest_129 : decode cX6_longest 129 = .ok (.iload 4, 2) := by decide +kernel
theorem dX6_longest_131 : decode cX6_longest 131 = .ok (.ireturn, 1) := by decide +kernel
theorem dX6_howManyHave_0 : decode cX6_howManyHave 0 = .ok (.iconst 0, 1) := by decide +kernel
theorem dX6_howManyHave_1 : decode cX6_howManyHave 1 = .ok (.istore_n 3, 1) := by decide +kernel
theorem dX6_howManyHave_2 : decode cX6_howManyHave 2 = .ok (.iconst 0, 1) := by decide +kernel
theorem dX6_howManyHave_3 : decode cX6_howManyHave 3 = .ok (.istore 4, 2) := by decide +kernel
theorem dX6_howManyHave_5 : decode cX6_howManyHave 5 = .ok (.iload 4, 2) := by decide +kernel
theorem dX6_howManyHave_7 : decode cX6_howManyHave 7 = .ok (.aload_n 0, 1) := by decide +kernel
theorem dX6_howManyHave_8 : decode cX6_howManyHave 8 = .ok (.getfield 23, 3) := by decide +kernel
theorem dX6_howManyHave_11 : decode cX6_howManyHave 11 = .ok (.getfield 60, 3) := by decide +kernel
theorem dX6_howManyHave_14 : decode cX6_howManyHave 14 = .ok (.if_icmp .ge 54, 3) := by decide +kernel
theorem dX6_howManyHave_17 : decode cX6_howManyHave 17 = .ok (.aload_n 0, 1) := by decide +kernel
theorem dX6_howManyHave_18 : decode cX6_howManyHave 18 = .ok (.getfield 23, 3) := by decide +kernel
theorem dX6_howManyHave_21 : decode cX6_howManyHave 21 = .ok (.getfield 93, 3) := by decide +kernel
theorem dX6_howManyHave_24 : decode cX6_howManyHave 24 = .ok (.iload 4, 2) := by decide +kernel
theorem dX6_howManyHave_26 : decode cX6_howManyHave 26 = .ok (.aaload, 1) := by decide +kernel
theorem dX6_howManyHave_27 : decode cX6_howManyHave 27 = .ok (.astore 5, 2) := by decide +kernel
theorem dX6_howManyHave_29 : decode cX6_howManyHave 29 = .ok (.aload_n 0, 1) := by decide +kernel
theorem dX6_howManyHave_30 : decode cX6_howManyHave 30 = .ok (.iload 4, 2) := by decide +kernel
theorem dX6_howManyHave_32 : decode cX6_howManyHave 32 = .ok (.invokevirtual 90, 3) := by decide +kernel
theorem dX6_howManyHave_35 : decode cX6_howManyHave 35 = .ok (.ifCond .eq 27, 3) := by decide +kernel
theorem dX6_howManyHave_38 : decode cX6_howManyHave 38 = .ok (.aload 5, 2) := by decide +kernel
theorem dX6_howManyHave_40 : decode cX6_howManyHave 40 = .ok (.iload_n 1, 1) := by decide +kernel
theorem dX6_howManyHave_41 : decode cX6_howManyHave 41 = .ok (.invokevirtual 229, 3) := by decide +kernel
theorem dX6_howManyHave_44 : decode cX6_howManyHave 44 = .ok (.ifCond .eq 18, 3) := by decide +kernel
theorem dX6_howManyHave_47 : decode cX6_howManyHave 47 = .ok (.aload 5, 2) := by decide +kernel
theorem dX6_howManyHave_49 : decode cX6_howManyHave 49 = .ok (.invokevirtual 232, 3) := by decide +kernel
theorem dX6_howManyHave_52 : decode cX6_howManyHave 52 = .ok (.iload_n 2, 1) := by decide +kernel
theorem dX6_howManyHave_53 : decode cX6_howManyHave 53 = .ok (.invokestatic 197, 3) := by decide +kernel
theorem dX6_howManyHave_56 : decode cX6_howManyHave 56 = .ok (.ifCond .eq 6, 3) := by decide +kernel
theorem dX6_howManyHave_59 : decode cX6_howManyHave 59 = .ok (.iinc 3 1, 3) := by decide +kernel
theorem dX6_howManyHave_62 : decode cX6_howManyHave 62 = .ok (.iinc 4 1, 3) := by decide +kernel
theorem dX6_howManyHave_65 : decode cX6_howManyHave 65 = .ok (.goto (-60), 3) := by decide +kernel
theorem dX6_howManyHave_68 : decode cX6_howManyHave 68 = .ok (.iload_n 3, 1) := by decide +kernel
theorem dX6_howManyHave_69 : decode cX6_howManyHave 69 = .ok (.ireturn, 1) := by decide +kernel
theorem dX6_weeksOf_0 : decode cX6_weeksOf 0 = .ok (.lconst 0, 1) := by decide +kernel
theorem dX6_weeksOf_1 : decode cX6_weeksOf 1 = .ok (.lstore_n 3, 1) := by decide +kernel
theorem dX6_weeksOf_2 : decode cX6_weeksOf 2 = .ok (.lconst 0, 1) := by decide +kernel
theorem dX6_weeksOf_3 : decode cX6_weeksOf 3 = .ok (.lstore 5, 2) := by decide +kernel
theorem dX6_weeksOf_5 : decode cX6_weeksOf 5 = .ok (.lconst 0, 1) := by decide +kernel
theorem dX6_weeksOf_6 : decode cX6_weeksOf 6 = .ok (.lstore 7, 2) := by decide +kernel
theorem dX6_weeksOf_8 : decode cX6_weeksOf 8 = .ok (.iconst 0, 1) := by decide +kernel
theorem dX6_weeksOf_9 : decode cX6_weeksOf 9 = .ok (.istore 9, 2) := by decide +kernel
theorem dX6_weeksOf_11 : decode cX6_weeksOf 11 = .ok (.iload 9, 2) := by decide +kernel
theorem dX6_weeksOf_13 : decode cX6_weeksOf 13 = .ok (.aload_n 0, 1) := by decide +kernel
theorem dX6_weeksOf_14 : decode cX6_weeksOf 14 = .ok (.getfield 23, 3) := by decide +kernel
theorem dX6_weeksOf_17 : decode cX6_weeksOf 17 = .ok (.getfield 60, 3) := by decide +kernel
theorem dX6_weeksOf_20 : decode cX6_weeksOf 20 = .ok (.if_icmp .ge 75, 3) := by decide +kernel
theorem dX6_weeksOf_23 : decode cX6_weeksOf 23 = .ok (.aload_n 0, 1) := by decide +kernel
theorem dX6_weeksOf_24 : decode cX6_weeksOf 24 = .ok (.getfield 23, 3) := by decide +kernel
theorem dX6_weeksOf_27 : decode cX6_weeksOf 27 = .ok (.getfield 93, 3) := by decide +kernel
theorem dX6_weeksOf_30 : decode cX6_weeksOf 30 = .ok (.iload 9, 2) := by decide +kernel
theorem dX6_weeksOf_32 : decode cX6_weeksOf 32 = .ok (.aaload, 1) := by decide +kernel
theorem dX6_weeksOf_33 : decode cX6_weeksOf 33 = .ok (.astore 10, 2) := by decide +kernel
theorem dX6_weeksOf_35 : decode cX6_weeksOf 35 = .ok (.aload_n 0, 1) := by decide +kernel
theorem dX6_weeksOf_36 : decode cX6_weeksOf 36 = .ok (.iload 9, 2) := by decide +kernel
theorem dX6_weeksOf_38 : decode cX6_weeksOf 38 = .ok (.invokevirtual 90, 3) := by decide +kernel
theorem dX6_weeksOf_41 : decode cX6_weeksOf 41 = .ok (.ifCond .eq 48, 3) := by decide +kernel
theorem dX6_weeksOf_44 : decode cX6_weeksOf 44 = .ok (.aload 10, 2) := by decide +kernel
theorem dX6_weeksOf_46 : decode cX6_weeksOf 46 = .ok (.iload_n 1, 1) := by decide +kernel
theorem dX6_weeksOf_47 : decode cX6_weeksOf 47 = .ok (.invokevirtual 229, 3) := by decide +kernel
theorem dX6_weeksOf_50 : decode cX6_weeksOf 50 = .ok (.ifCond .eq 39, 3) := by decide +kernel
theorem dX6_weeksOf_53 : decode cX6_weeksOf 53 = .ok (.aload 10, 2) := by decide +kernel
theorem dX6_weeksOf_55 : decode cX6_weeksOf 55 = .ok (.invokevirtual 232, 3) := by decide +kernel
theorem dX6_weeksOf_58 : decode cX6_weeksOf 58 = .ok (.lstore 11, 2) := by decide +kernel
theorem dX6_weeksOf_60 : decode cX6_weeksOf 60 = .ok (.lload 5, 2) := by decide +kernel
theorem dX6_weeksOf_62 : decode cX6_weeksOf 62 = .ok (.lload_n 3, 1) := by decide +kernel
theorem dX6_weeksOf_63 : decode cX6_weeksOf 63 = .ok (.lload 11, 2) := by decide +kernel
theorem dX6_weeksOf_65 : decode cX6_weeksOf 65 = .ok (.land, 1) := by decide +kernel
theorem dX6_weeksOf_66 : decode cX6_weeksOf 66 = .ok (.lor, 1) := by decide +kernel
theorem dX6_weeksOf_67 : decode cX6_weeksOf 67 = .ok (.lstore 5, 2) := by decide +kernel
theorem dX6_weeksOf_69 : decode cX6_weeksOf 69 = .ok (.lload_n 3, 1) := by decide +kernel
theorem dX6_weeksOf_70 : decode cX6_weeksOf 70 = .ok (.lload 11, 2) := by decide +kernel
theorem dX6_weeksOf_72 : decode cX6_weeksOf 72 = .ok (.lor, 1) := by decide +kernel
theorem dX6_weeksOf_73 : decode cX6_weeksOf 73 = .ok (.lstore_n 3, 1) := by decide +kernel
theorem dX6_weeksOf_74 : decode cX6_weeksOf 74 = .ok (.aload 10, 2) := by decide +kernel
theorem dX6_weeksOf_76 : decode cX6_weeksOf 76 = .ok (.getfield 148, 3) := by decide +kernel
theorem dX6_weeksOf_79 : decode cX6_weeksOf 79 = .ok (.ifCond .eq 10, 3) := by decide +kernel
theorem dX6_weeksOf_82 : decode cX6_weeksOf 82 = .ok (.lload 7, 2) := by decide +kernel
theorem dX6_weeksOf_84 : decode cX6_weeksOf 84 = .ok (.lload 11, 2) := by decide +kernel
theorem dX6_weeksOf_86 : decode cX6_weeksOf 86 = .ok (.lor, 1) := by decide +kernel
theorem dX6_weeksOf_87 : decode cX6_weeksOf 87 = .ok (.lstore 7, 2) := by decide +kernel
theorem dX6_weeksOf_89 : decode cX6_weeksOf 89 = .ok (.iinc 9 1, 3) := by decide +kernel
theorem dX6_weeksOf_92 : decode cX6_weeksOf 92 = .ok (.goto (-81), 3) := by decide +kernel
theorem dX6_weeksOf_95 : decode cX6_weeksOf 95 = .ok (.aload_n 0, 1) := by decide +kernel
theorem dX6_weeksOf_96 : decode cX6_weeksOf 96 = .ok (.getfield 23, 3) := by decide +kernel
theorem dX6_weeksOf_99 : decode cX6_weeksOf 99 = .ok (.getfield 181, 3) := by decide +kernel
theorem dX6_weeksOf_102 : decode cX6_weeksOf 102 = .ok (.aload_n 0, 1) := by decide +kernel
theorem dX6_weeksOf_103 : decode cX6_weeksOf 103 = .ok (.getfield 23, 3) := by decide +kernel
theorem dX6_weeksOf_106 : decode cX6_weeksOf 106 = .ok (.getfield 184, 3) := by decide +kernel
theorem dX6_weeksOf_109 : decode cX6_weeksOf 109 = .ok (.invokestatic 236, 3) := by decide +kernel
theorem dX6_weeksOf_112 : decode cX6_weeksOf 112 = .ok (.lstore 9, 2) := by decide +kernel
theorem dX6_weeksOf_114 : decode cX6_weeksOf 114 = .ok (.iload_n 2, 1) := by decide +kernel
theorem dX6_weeksOf_115 : decode cX6_weeksOf 115 = .ok (.tableswitch 55 1 4 #[29, 34, 40, 46], 29) := by decide +kernel
theorem dX6_weeksOf_144 : decode cX6_weeksOf 144 = .ok (.lload 9, 2) := by decide +kernel
theorem dX6_weeksOf_146 : decode cX6_weeksOf 146 = .ok (.lload_n 3, 1) := by decide +kernel
theorem dX6_weeksOf_147 : decode cX6_weeksOf 147 = .ok (.land, 1) := by decide +kernel
theorem dX6_weeksOf_148 : decode cX6_weeksOf 148 = .ok (.lreturn, 1) := by decide +kernel
theorem dX6_weeksOf_149 : decode cX6_weeksOf 149 = .ok (.lload 9, 2) := by decide +kernel
theorem dX6_weeksOf_151 : decode cX6_weeksOf 151 = .ok (.lload 5, 2) := by decide +kernel
theorem dX6_weeksOf_153 : decode cX6_weeksOf 153 = .ok (.land, 1) := by decide +kernel
theorem dX6_weeksOf_154 : decode cX6_weeksOf 154 = .ok (.lreturn, 1) := by decide +kernel
theorem dX6_weeksOf_155 : decode cX6_weeksOf 155 = .ok (.lload 9, 2) := by decide +kernel
theorem dX6_weeksOf_157 : decode cX6_weeksOf 157 = .ok (.lload 7, 2) := by decide +kernel
theorem dX6_weeksOf_159 : decode cX6_weeksOf 159 = .ok (.land, 1) := by decide +kernel
theorem dX6_weeksOf_160 : decode cX6_weeksOf 160 = .ok (.lreturn, 1) := by decide +kernel
theorem dX6_weeksOf_161 : decode cX6_weeksOf 161 = .ok (.lload 9, 2) := by decide +kernel
theorem dX6_weeksOf_163 : decode cX6_weeksOf 163 = .ok (.lload_n 3, 1) := by decide +kernel
theorem dX6_weeksOf_164 : decode cX6_weeksOf 164 = .ok (.ldc2_w 239, 3) := by decide +kernel
theorem dX6_weeksOf_167 : decode cX6_weeksOf 167 = .ok (.lxor, 1) := by decide +kernel
theorem dX6_weeksOf_168 : decode cX6_weeksOf 168 = .ok (.land, 1) := by decide +kernel
theorem dX6_weeksOf_169 : decode cX6_weeksOf 169 = .ok (.lreturn, 1) := by decide +kernel
theorem dX6_weeksOf_170 : decode cX6_weeksOf 170 = .ok (.lload 9, 2) := by decide +kernel
theorem dX6_weeksOf_172 : decode cX6_weeksOf 172 = .ok (.lreturn, 1) := by decide +kernel
theorem dX6_best_0 : decode cX6_best 0 = .ok (.iload_n 1, 1) := by decide +kernel
theorem dX6_best_1 : decode cX6_best 1 = .ok (.ifCond .eq 10, 3) := by decide +kernel
theorem dX6_best_4 : decode cX6_best 4 = .ok (.iload_n 1, 1) := by decide +kernel
theorem dX6_best_5 : decode cX6_best 5 = .ok (.iconst 1, 1) := by decide +kernel
theorem dX6_best_6 : decode cX6_best 6 = .ok (.if_icmp .eq 5, 3) := by decide +kernel
theorem dX6_best_9 : decode cX6_best 9 = .ok (.iconst (-1), 1) := by decide +kernel
theorem dX6_best_10 : decode cX6_best 10 = .ok (.ireturn, 1) := by decide +kernel
theorem dX6_best_11 : decode cX6_best 11 = .ok (.aload_n 0, 1) := by decide +kernel
theorem dX6_best_12 : decode cX6_best 12 = .ok (.getfield 23, 3) := by decide +kernel
theorem dX6_best_15 : decode cX6_best 15 = .ok (.invokevirtual 241, 3) := by decide +kernel
theorem dX6_best_18 : decode cX6_best 18 = .ok (.istore_n 2, 1) := by decide +kernel
theorem dX6_best_19 : decode cX6_best 19 = .ok (.iload_n 1, 1) := by decide +kernel
theorem dX6_best_20 : decode cX6_best 20 = .ok (.ifCond .ne 14, 3) := by decide +kernel
theorem dX6_best_23 : decode cX6_best 23 = .ok (.aload_n 0, 1) := by decide +kernel
theorem dX6_best_24 : decode cX6_best 24 = .ok (.getfield 23, 3) := by decide +kernel
theorem dX6_best_27 : decode cX6_best 27 = .ok (.iload_n 2, 1) := by decide +kernel
theorem dX6_best_28 : decode cX6_best 28 = .ok (.invokevirtual 244, 3) := by decide +kernel
theorem dX6_best_31 : decode cX6_best 31 = .ok (.goto 4, 3) := by decide +kernel
theorem dX6_best_34 : decode cX6_best 34 = .ok (.iload_n 2, 1) := by decide +kernel
theorem dX6_best_35 : decode cX6_best 35 = .ok (.ireturn, 1) := by decide +kernel
theorem dX6_take_0 : decode cX6_take 0 = .ok (.aload_n 0, 1) := by decide +kernel
theorem dX6_take_1 : decode cX6_take 1 = .ok (.getfield 23, 3) := by decide +kernel
theorem dX6_take_4 : decode cX6_take 4 = .ok (.invokevirtual 241, 3) := by decide +kernel
theorem dX6_take_7 : decode cX6_take 7 = .ok (.istore_n 1, 1) := by decide +kernel
theorem dX6_take_8 : decode cX6_take 8 = .ok (.aload_n 0, 1) := by decide +kernel
theorem dX6_take_9 : decode cX6_take 9 = .ok (.iconst 0, 1) := by decide +kernel
theorem dX6_take_10 : decode cX6_take 10 = .ok (.invokevirtual 77, 3) := by decide +kernel
theorem dX6_take_13 : decode cX6_take 13 = .ok (.aload_n 0, 1) := by decide +kernel
theorem dX6_take_14 : decode cX6_take 14 = .ok (.iload_n 1, 1) := by decide +kernel
theorem dX6_take_15 : decode cX6_take 15 = .ok (.putfield 63, 3) := by decide +kernel
theorem dX6_take_18 : decode cX6_take 18 = .ok (.aload_n 0, 1) := by decide +kernel
theorem dX6_take_19 : decode cX6_take 19 = .ok (.getfield 63, 3) := by decide +kernel
theorem dX6_take_22 : decode cX6_take 22 = .ok (.invokestatic 81, 3) := by decide +kernel
theorem dX6_take_25 : decode cX6_take 25 = .ok (.ireturn, 1) := by decide +kernel
theorem dX6_count_0 : decode cX6_count 0 = .ok (.iload_n 1, 1) := by decide +kernel
theorem dX6_count_1 : decode cX6_count 1 = .ok (.tableswitch 124 0 8 #[51, 59, 67, 75, 83, 91, 103, 111, 119], 51) := by decide +kernel
theorem dX6_count_52 : decode cX6_count 52 = .ok (.aload_n 0, 1) := by decide +kernel
theorem dX6_count_53 : decode cX6_count 53 = .ok (.getfield 23, 3) := by decide +kernel
theorem dX6_count_56 : decode cX6_count 56 = .ok (.getfield 60, 3) := by decide +kernel
theorem dX6_count_59 : decode cX6_count 59 = .ok (.ireturn, 1) := by decide +kernel
theorem dX6_count_60 : decode cX6_count 60 = .ok (.aload_n 0, 1) := by decide +kernel
theorem dX6_count_61 : decode cX6_count 61 = .ok (.getfield 23, 3) := by decide +kernel
theorem dX6_count_64 : decode cX6_count 64 = .ok (.getfield 166, 3) := by decide +kernel
theorem dX6_count_67 : decode cX6_count 67 = .ok (.ireturn, 1) := by decide +kernel
theorem dX6_count_68 : decode cX6_count 68 = .ok (.aload_n 0, 1) := by decide +kernel
theorem dX6_count_69 : decode cX6_count 69 = .ok (.getfield 23, 3) := by decide +kernel
theorem dX6_count_72 : decode cX6_count 72 = .ok (.getfield 181, 3) := by decide +kernel
theorem dX6_count_75 : decode cX6_count 75 = .ok (.ireturn, 1) := by decide +kernel
theorem dX6_count_76 : decode cX6_count 76 = .ok (.aload_n 0, 1) := by decide +kernel
theorem dX6_count_77 : decode cX6_count 77 = .ok (.getfield 23, 3) := by decide +kernel
theorem dX6_count_80 : decode cX6_count 80 = .ok (.getfield 184, 3) := by decide +kernel
theorem dX6_count_83 : decode cX6_count 83 = .ok (.ireturn, 1) := by decide +kernel
theorem dX6_count_84 : decode cX6_count 84 = .ok (.aload_n 0, 1) := by decide +kernel
theorem dX6_count_85 : decode cX6_count 85 = .ok (.getfield 63, 3) := by decide +kernel
theorem dX6_count_88 : decode cX6_count 88 = .ok (.invokestatic 81, 3) := by decide +kernel
theorem dX6_count_91 : decode cX6_count 91 = .ok (.ireturn, 1) := by decide +kernel
theorem dX6_count_92 : decode cX6_count 92 = .ok (.aload_n 0, 1) := by decide +kernel
theorem dX6_count_93 : decode cX6_count 93 = .ok (.getfield 23, 3) := by decide +kernel
theorem dX6_count_96 : decode cX6_count 96 = .ok (.aload_n 0, 1) := by decide +kernel
theorem dX6_count_97 : decode cX6_count 97 = .ok (.getfield 63, 3) := by decide +kernel
theorem dX6_count_100 : decode cX6_count 100 = .ok (.invokevirtual 244, 3) := by decide +kernel
theorem dX6_count_103 : decode cX6_count 103 = .ok (.ireturn, 1) := by decide +kernel
theorem dX6_count_104 : decode cX6_count 104 = .ok (.aload_n 0, 1) := by decide +kernel
theorem dX6_count_105 : decode cX6_count 105 = .ok (.getfield 23, 3) := by decide +kernel
theorem dX6_count_108 : decode cX6_count 108 = .ok (.invokevirtual 247, 3) := by decide +kernel
theorem dX6_count_111 : decode cX6_count 111 = .ok (.ireturn, 1) := by decide +kernel
theorem dX6_count_112 : decode cX6_count 112 = .ok (.aload_n 0, 1) := by decide +kernel
theorem dX6_count_113 : decode cX6_count 113 = .ok (.getfield 33, 3) := by decide +kernel
theorem dX6_count_116 : decode cX6_count 116 = .ok (.getfield 116, 3) := by decide +kernel
theorem dX6_count_119 : decode cX6_count 119 = .ok (.ireturn, 1) := by decide +kernel
theorem dX6_count_120 : decode cX6_count 120 = .ok (.aload_n 0, 1) := by decide +kernel
theorem dX6_count_121 : decode cX6_count 121 = .ok (.getfield 49, 3) := by decide +kernel
theorem dX6_count_124 : decode cX6_count 124 = .ok (.ireturn, 1) := by decide +kernel
theorem dX6_count_125 : decode cX6_count 125 = .ok (.iconst (-1), 1) := by decide +kernel
theorem dX6_count_126 : decode cX6_count 126 = .ok (.ireturn, 1) := by decide +kernel
theorem dX6_isBelow_0 : decode cX6_isBelow 0 = .ok (.iload_n 0, 1) := by decide +kernel
theorem dX6_isBelow_1 : decode cX6_isBelow 1 = .ok (.ifCond .lt 12, 3) := by decide +kernel
theorem dX6_isBelow_4 : decode cX6_isBelow 4 = .ok (.iload_n 0, 1) := by decide +kernel
theorem dX6_isBelow_5 : decode cX6_isBelow 5 = .ok (.iload_n 1, 1) := by decide +kernel
theorem dX6_isBelow_6 : decode cX6_isBelow 6 = .ok (.if_icmp .ge 7, 3) := by decide +kernel
theorem dX6_isBelow_9 : decode cX6_isBelow 9 = .ok (.iconst 1, 1) := by decide +kernel
theorem dX6_isBelow_10 : decode cX6_isBelow 10 = .ok (.goto 4, 3) := by decide +kernel
theorem dX6_isBelow_13 : decode cX6_isBelow 13 = .ok (.iconst 0, 1) := by decide +kernel
theorem dX6_isBelow_14 : decode cX6_isBelow 14 = .ok (.ireturn, 1) := by decide +kernel
theorem dX6_isCell_0 : decode cX6_isCell 0 = .ok (.iload_n 0, 1) := by decide +kernel
theorem dX6_isCell_1 : decode cX6_isCell 1 = .ok (.bipush 6, 2) := by decide +kernel
theorem dX6_isCell_3 : decode cX6_isCell 3 = .ok (.invokestatic 159, 3) := by decide +kernel
theorem dX6_isCell_6 : decode cX6_isCell 6 = .ok (.ifCond .eq 23, 3) := by decide +kernel
theorem dX6_isCell_9 : decode cX6_isCell 9 = .ok (.iload_n 1, 1) := by decide +kernel
theorem dX6_isCell_10 : decode cX6_isCell 10 = .ok (.iconst 4, 1) := by decide +kernel
theorem dX6_isCell_11 : decode cX6_isCell 11 = .ok (.invokestatic 159, 3) := by decide +kernel
theorem dX6_isCell_14 : decode cX6_isCell 14 = .ok (.ifCond .eq 15, 3) := by decide +kernel
theorem dX6_isCell_17 : decode cX6_isCell 17 = .ok (.iload_n 2, 1) := by decide +kernel
theorem dX6_isCell_18 : decode cX6_isCell 18 = .ok (.iconst 4, 1) := by decide +kernel
theorem dX6_isCell_19 : decode cX6_isCell 19 = .ok (.invokestatic 159, 3) := by decide +kernel
theorem dX6_isCell_22 : decode cX6_isCell 22 = .ok (.ifCond .eq 7, 3) := by decide +kernel
theorem dX6_isCell_25 : decode cX6_isCell 25 = .ok (.iconst 1, 1) := by decide +kernel
theorem dX6_isCell_26 : decode cX6_isCell 26 = .ok (.goto 4, 3) := by decide +kernel
theorem dX6_isCell_29 : decode cX6_isCell 29 = .ok (.iconst 0, 1) := by decide +kernel
theorem dX6_isCell_30 : decode cX6_isCell 30 = .ok (.ireturn, 1) := by decide +kernel
theorem dX6_cellOf_0 : decode cX6_cellOf 0 = .ok (.iload_n 0, 1) := by decide +kernel
theorem dX6_cellOf_1 : decode cX6_cellOf 1 = .ok (.iconst 4, 1) := by decide +kernel
theorem dX6_cellOf_2 : decode cX6_cellOf 2 = .ok (.imul, 1) := by decide +kernel
theorem dX6_cellOf_3 : decode cX6_cellOf 3 = .ok (.iload_n 1, 1) := by decide +kernel
theorem dX6_cellOf_4 : decode cX6_cellOf 4 = .ok (.iadd, 1) := by decide +kernel
theorem dX6_cellOf_5 : decode cX6_cellOf 5 = .ok (.iconst 4, 1) := by decide +kernel
theorem dX6_cellOf_6 : decode cX6_cellOf 6 = .ok (.imul, 1) := by decide +kernel
theorem dX6_cellOf_7 : decode cX6_cellOf 7 = .ok (.iload_n 2, 1) := by decide +kernel
theorem dX6_cellOf_8 : decode cX6_cellOf 8 = .ok (.iadd, 1) := by decide +kernel
theorem dX6_cellOf_9 : decode cX6_cellOf 9 = .ok (.ireturn, 1) := by decide +kernel
theorem dX6_landOf_0 : decode cX6_landOf 0 = .ok (.iload_n 0, 1) := by decide +kernel
theorem dX6_landOf_1 : decode cX6_landOf 1 = .ok (.bipush 16, 2) := by decide +kernel
theorem dX6_landOf_3 : decode cX6_landOf 3 = .ok (.idiv, 1) := by decide +kernel
theorem dX6_landOf_4 : decode cX6_landOf 4 = .ok (.ireturn, 1) := by decide +kernel
theorem dX6_tongueOf_0 : decode cX6_tongueOf 0 = .ok (.iload_n 0, 1) := by decide +kernel
theorem dX6_tongueOf_1 : decode cX6_tongueOf 1 = .ok (.iconst 4, 1) := by decide +kernel
theorem dX6_tongueOf_2 : decode cX6_tongueOf 2 = .ok (.idiv, 1) := by decide +kernel
theorem dX6_tongueOf_3 : decode cX6_tongueOf 3 = .ok (.iconst 4, 1) := by decide +kernel
theorem dX6_tongueOf_4 : decode cX6_tongueOf 4 = .ok (.irem, 1) := by decide +kernel
theorem dX6_tongueOf_5 : decode cX6_tongueOf 5 = .ok (.ireturn, 1) := by decide +kernel
theorem dX6_meansOf_0 : decode cX6_meansOf 0 = .ok (.iload_n 0, 1) := by decide +kernel
theorem dX6_meansOf_1 : decode cX6_meansOf 1 = .ok (.iconst 4, 1) := by decide +kernel
theorem dX6_meansOf_2 : decode cX6_meansOf 2 = .ok (.irem, 1) := by decide +kernel
theorem dX6_meansOf_3 : decode cX6_meansOf 3 = .ok (.ireturn, 1) := by decide +kernel
theorem dX6_has_0 : decode cX6_has 0 = .ok (.iload_n 0, 1) := by decide +kernel
theorem dX6_has_1 : decode cX6_has 1 = .ok (.iload_n 1, 1) := by decide +kernel
theorem dX6_has_2 : decode cX6_has 2 = .ok (.ishr, 1) := by decide +kernel
theorem dX6_has_3 : decode cX6_has 3 = .ok (.iconst 1, 1) := by decide +kernel
theorem dX6_has_4 : decode cX6_has 4 = .ok (.iand, 1) := by decide +kernel
theorem dX6_has_5 : decode cX6_has 5 = .ok (.ifCond .eq 7, 3) := by decide +kernel
theorem dX6_has_8 : decode cX6_has 8 = .ok (.iconst 1, 1) := by decide +kernel
theorem dX6_has_9 : decode cX6_has 9 = .ok (.goto 4, 3) := by decide +kernel
theorem dX6_has_12 : decode cX6_has 12 = .ok (.iconst 0, 1) := by decide +kernel
theorem dX6_has_13 : decode cX6_has 13 = .ok (.ireturn, 1) := by decide +kernel
theorem dX6_isSetBelow_0 : decode cX6_isSetBelow 0 = .ok (.iload_n 0, 1) := by decide +kernel
theorem dX6_isSetBelow_1 : decode cX6_isSetBelow 1 = .ok (.iconst 1, 1) := by decide +kernel
theorem dX6_isSetBelow_2 : decode cX6_isSetBelow 2 = .ok (.if_icmp .lt 14, 3) := by decide +kernel
theorem dX6_isSetBelow_5 : decode cX6_isSetBelow 5 = .ok (.iload_n 0, 1) := by decide +kernel
theorem dX6_isSetBelow_6 : decode cX6_isSetBelow 6 = .ok (.iconst 1, 1) := by decide +kernel
theorem dX6_isSetBelow_7 : decode cX6_isSetBelow 7 = .ok (.iload_n 1, 1) := by decide +kernel
theorem dX6_isSetBelow_8 : decode cX6_isSetBelow 8 = .ok (.ishl, 1) := by decide +kernel
theorem dX6_isSetBelow_9 : decode cX6_isSetBelow 9 = .ok (.if_icmp .ge 7, 3) := by decide +kernel
theorem dX6_isSetBelow_12 : decode cX6_isSetBelow 12 = .ok (.iconst 1, 1) := by decide +kernel
theorem dX6_isSetBelow_13 : decode cX6_isSetBelow 13 = .ok (.goto 4, 3) := by decide +kernel
theorem dX6_isSetBelow_16 : decode cX6_isSetBelow 16 = .ok (.iconst 0, 1) := by decide +kernel
theorem dX6_isSetBelow_17 : decode cX6_isSetBelow 17 = .ok (.ireturn, 1) := by decide +kernel
theorem dX6_hasWeek_0 : decode cX6_hasWeek 0 = .ok (.lload_n 0, 1) := by decide +kernel
theorem dX6_hasWeek_1 : decode cX6_hasWeek 1 = .ok (.iload_n 2, 1) := by decide +kernel
theorem dX6_hasWeek_2 : decode cX6_hasWeek 2 = .ok (.lshr, 1) := by decide +kernel
theorem dX6_hasWeek_3 : decode cX6_hasWeek 3 = .ok (.lconst 1, 1) := by decide +kernel
theorem dX6_hasWeek_4 : decode cX6_hasWeek 4 = .ok (.land, 1) := by decide +kernel
theorem dX6_hasWeek_5 : decode cX6_hasWeek 5 = .ok (.lconst 0, 1) := by decide +kernel
theorem dX6_hasWeek_6 : decode cX6_hasWeek 6 = .ok (.lcmp, 1) := by decide +kernel
theorem dX6_hasWeek_7 : decode cX6_hasWeek 7 = .ok (.ifCond .eq 7, 3) := by decide +kernel
theorem dX6_hasWeek_10 : decode cX6_hasWeek 10 = .ok (.iconst 1, 1) := by decide +kernel
theorem dX6_hasWeek_11 : decode cX6_hasWeek 11 = .ok (.goto 4, 3) := by decide +kernel
theorem dX6_hasWeek_14 : decode cX6_hasWeek 14 = .ok (.iconst 0, 1) := by decide +kernel
theorem dX6_hasWeek_15 : decode cX6_hasWeek 15 = .ok (.ireturn, 1) := by decide +kernel
theorem dX6_weeksFromTo_0 : decode cX6_weeksFromTo 0 = .ok (.lconst 1, 1) := by decide +kernel
theorem dX6_weeksFromTo_1 : decode cX6_weeksFromTo 1 = .ok (.iload_n 1, 1) := by decide +kernel
theorem dX6_weeksFromTo_2 : decode cX6_weeksFromTo 2 = .ok (.iconst 1, 1) := by decide +kernel
theorem dX6_weeksFromTo_3 : decode cX6_weeksFromTo 3 = .ok (.iadd, 1) := by decide +kernel
theorem dX6_weeksFromTo_4 : decode cX6_weeksFromTo 4 = .ok (.lshl, 1) := by decide +kernel
theorem dX6_weeksFromTo_5 : decode cX6_weeksFromTo 5 = .ok (.lconst 1, 1) := by decide +kernel
theorem dX6_weeksFromTo_6 : decode cX6_weeksFromTo 6 = .ok (.iload_n 0, 1) := by decide +kernel
theorem dX6_weeksFromTo_7 : decode cX6_weeksFromTo 7 = .ok (.lshl, 1) := by decide +kernel
theorem dX6_weeksFromTo_8 : decode cX6_weeksFromTo 8 = .ok (.lsub, 1) := by decide +kernel
theorem dX6_weeksFromTo_9 : decode cX6_weeksFromTo 9 = .ok (.lreturn, 1) := by decide +kernel
theorem dX6_windowStarts_0 : decode cX6_windowStarts 0 = .ok (.lload_n 0, 1) := by decide +kernel
theorem dX6_windowStarts_1 : decode cX6_windowStarts 1 = .ok (.lload_n 0, 1) := by decide +kernel
theorem dX6_windowStarts_2 : decode cX6_windowStarts 2 = .ok (.iconst 1, 1) := by decide +kernel
theorem dX6_windowStarts_3 : decode cX6_windowStarts 3 = .ok (.lshl, 1) := by decide +kernel
theorem dX6_windowStarts_4 : decode cX6_windowStarts 4 = .ok (.ldc2_w 239, 3) := by decide +kernel
theorem dX6_windowStarts_7 : decode cX6_windowStarts 7 = .ok (.lxor, 1) := by decide +kernel
theorem dX6_windowStarts_8 : decode cX6_windowStarts 8 = .ok (.land, 1) := by decide +kernel
theorem dX6_windowStarts_9 : decode cX6_windowStarts 9 = .ok (.lreturn, 1) := by decide +kernel
theorem dX6_kthWeek_0 : decode cX6_kthWeek 0 = .ok (.iconst 0, 1) := by decide +kernel
theorem dX6_kthWeek_1 : decode cX6_kthWeek 1 = .ok (.istore_n 3, 1) := by decide +kernel
theorem dX6_kthWeek_2 : decode cX6_kthWeek 2 = .ok (.iconst 0, 1) := by decide +kernel
theorem dX6_kthWeek_3 : decode cX6_kthWeek 3 = .ok (.istore 4, 2) := by decide +kernel
theorem dX6_kthWeek_5 : decode cX6_kthWeek 5 = .ok (.iload 4, 2) := by decide +kernel
theorem dX6_kthWeek_7 : decode cX6_kthWeek 7 = .ok (.bipush 51, 2) := by decide +kernel
theorem dX6_kthWeek_9 : decode cX6_kthWeek 9 = .ok (.if_icmp .gt 29, 3) := by decide +kernel
theorem dX6_kthWeek_12 : decode cX6_kthWeek 12 = .ok (.lload_n 0, 1) := by decide +kernel
theorem dX6_kthWeek_13 : decode cX6_kthWeek 13 = .ok (.iload 4, 2) := by decide +kernel
theorem dX6_kthWeek_15 : decode cX6_kthWeek 15 = .ok (.invokestatic 197, 3) := by decide +kernel
theorem dX6_kthWeek_18 : decode cX6_kthWeek 18 = .ok (.ifCond .eq 14, 3) := by decide +kernel
theorem dX6_kthWeek_21 : decode cX6_kthWeek 21 = .ok (.iload_n 3, 1) := by decide +kernel
theorem dX6_kthWeek_22 : decode cX6_kthWeek 22 = .ok (.iload_n 2, 1) := by decide +kernel
theorem dX6_kthWeek_23 : decode cX6_kthWeek 23 = .ok (.if_icmp .ne 6, 3) := by decide +kernel
theorem dX6_kthWeek_26 : decode cX6_kthWeek 26 = .ok (.iload 4, 2) := by decide +kernel
theorem dX6_kthWeek_28 : decode cX6_kthWeek 28 = .ok (.ireturn, 1) := by decide +kernel
theorem dX6_kthWeek_29 : decode cX6_kthWeek 29 = .ok (.iinc 3 1, 3) := by decide +kernel
theorem dX6_kthWeek_32 : decode cX6_kthWeek 32 = .ok (.iinc 4 1, 3) := by decide +kernel
theorem dX6_kthWeek_35 : decode cX6_kthWeek 35 = .ok (.goto (-30), 3) := by decide +kernel
theorem dX6_kthWeek_38 : decode cX6_kthWeek 38 = .ok (.bipush (-4), 2) := by decide +kernel
theorem dX6_kthWeek_40 : decode cX6_kthWeek 40 = .ok (.ireturn, 1) := by decide +kernel
theorem dX6_windowLength_0 : decode cX6_windowLength 0 = .ok (.iload_n 2, 1) := by decide +kernel
theorem dX6_windowLength_1 : decode cX6_windowLength 1 = .ok (.istore_n 3, 1) := by decide +kernel
theorem dX6_windowLength_2 : decode cX6_windowLength 2 = .ok (.iload_n 3, 1) := by decide +kernel
theorem dX6_windowLength_3 : decode cX6_windowLength 3 = .ok (.bipush 51, 2) := by decide +kernel
theorem dX6_windowLength_5 : decode cX6_windowLength 5 = .ok (.if_icmp .gt 17, 3) := by decide +kernel
theorem dX6_windowLength_8 : decode cX6_windowLength 8 = .ok (.lload_n 0, 1) := by decide +kernel
theorem dX6_windowLength_9 : decode cX6_windowLength 9 = .ok (.iload_n 3, 1) := by decide +kernel
theorem dX6_windowLength_10 : decode cX6_windowLength 10 = .ok (.invokestatic 197, 3) := by decide +kernel
theorem dX6_windowLength_13 : decode cX6_windowLength 13 = .ok (.ifCond .eq 9, 3) := by decide +kernel
theorem dX6_windowLength_16 : decode cX6_windowLength 16 = .ok (.iinc 3 1, 3) := by decide +kernel
theorem dX6_windowLength_19 : decode cX6_windowLength 19 = .ok (.goto (-17), 3) := by decide +kernel
theorem dX6_windowLength_22 : decode cX6_windowLength 22 = .ok (.iload_n 3, 1) := by decide +kernel
theorem dX6_windowLength_23 : decode cX6_windowLength 23 = .ok (.iload_n 2, 1) := by decide +kernel
theorem dX6_windowLength_24 : decode cX6_windowLength 24 = .ok (.isub, 1) := by decide +kernel
theorem dX6_windowLength_25 : decode cX6_windowLength 25 = .ok (.ireturn, 1) := by decide +kernel
theorem dX6_longestStart_0 : decode cX6_longestStart 0 = .ok (.iconst 0, 1) := by decide +kernel
theorem dX6_longestStart_1 : decode cX6_longestStart 1 = .ok (.istore_n 2, 1) := by decide +kernel
theorem dX6_longestStart_2 : decode cX6_longestStart 2 = .ok (.iconst 0, 1) := by decide +kernel
theorem dX6_longestStart_3 : decode cX6_longestStart 3 = .ok (.istore_n 3, 1) := by decide +kernel
theorem dX6_longestStart_4 : decode cX6_longestStart 4 = .ok (.iconst 0, 1) := by decide +kernel
theorem dX6_longestStart_5 : decode cX6_longestStart 5 = .ok (.istore 4, 2) := by decide +kernel
theorem dX6_longestStart_7 : decode cX6_longestStart 7 = .ok (.iconst 0, 1) := by decide +kernel
theorem dX6_longestStart_8 : decode cX6_longestStart 8 = .ok (.istore 5, 2) := by decide +kernel
theorem dX6_longestStart_10 : decode cX6_longestStart 10 = .ok (.iload 5, 2) := by decide +kernel
theorem dX6_longestStart_12 : decode cX6_longestStart 12 = .ok (.bipush 51, 2) := by decide +kernel
theorem dX6_longestStart_14 : decode cX6_longestStart 14 = .ok (.if_icmp .gt 45, 3) := by decide +kernel
theorem dX6_longestStart_17 : decode cX6_longestStart 17 = .ok (.lload_n 0, 1) := by decide +kernel
theorem dX6_longestStart_18 : decode cX6_longestStart 18 = .ok (.iload 5, 2) := by decide +kernel
theorem dX6_longestStart_20 : decode cX6_longestStart 20 = .ok (.invokestatic 197, 3) := by decide +kernel
theorem dX6_longestStart_23 : decode cX6_longestStart 23 = .ok (.ifCond .eq 10, 3) := by decide +kernel
theorem dX6_longestStart_26 : decode cX6_longestStart 26 = .ok (.iload 4, 2) := by decide +kernel
theorem dX6_longestStart_28 : decode cX6_longestStart 28 = .ok (.iconst 1, 1) := by decide +kernel
theorem dX6_longestStart_29 : decode cX6_longestStart 29 = .ok (.iadd, 1) := by decide +kernel
theorem dX6_longestStart_30 : decode cX6_longestStart 30 = .ok (.goto 4, 3) := by decide +kernel
theorem dX6_longestStart_33 : decode cX6_longestStart 33 = .ok (.iconst 0, 1) := by decide +kernel
theorem dX6_longestStart_34 : decode cX6_longestStart 34 = .ok (.istore 4, 2) := by decide +kernel
theorem dX6_longestStart_36 : decode cX6_longestStart 36 = .ok (.iload 4, 2) := by decide +kernel
theorem dX6_longestStart_38 : decode cX6_longestStart 38 = .ok (.iload_n 2, 1) := by decide +kernel
theorem dX6_longestStart_39 : decode cX6_longestStart 39 = .ok (.if_icmp .le 14, 3) := by decide +kernel
theorem dX6_longestStart_42 : decode cX6_longestStart 42 = .ok (.iload 4, 2) := by decide +kernel
theorem dX6_longestStart_44 : decode cX6_longestStart 44 = .ok (.istore_n 2, 1) := by decide +kernel
theorem dX6_longestStart_45 : decode cX6_longestStart 45 = .ok (.iload 5, 2) := by decide +kernel
theorem dX6_longestStart_47 : decode cX6_longestStart 47 = .ok (.iload 4, 2) := by decide +kernel
theorem dX6_longestStart_49 : decode cX6_longestStart 49 = .ok (.isub, 1) := by decide +kernel
theorem dX6_longestStart_50 : decode cX6_longestStart 50 = .ok (.iconst 1, 1) := by decide +kernel
theorem dX6_longestStart_51 : decode cX6_longestStart 51 = .ok (.iadd, 1) := by decide +kernel
theorem dX6_longestStart_52 : decode cX6_longestStart 52 = .ok (.istore_n 3, 1) := by decide +kernel
theorem dX6_longestStart_53 : decode cX6_longestStart 53 = .ok (.iinc 5 1, 3) := by decide +kernel
theorem dX6_longestStart_56 : decode cX6_longestStart 56 = .ok (.goto (-46), 3) := by decide +kernel
theorem dX6_longestStart_59 : decode cX6_longestStart 59 = .ok (.iload_n 3, 1) := by decide +kernel
theorem dX6_longestStart_60 : decode cX6_longestStart 60 = .ok (.ireturn, 1) := by decide +kernel
theorem dX7_init_0 : decode cX7_init 0 = .ok (.aload_n 0, 1) := by decide +kernel
theorem dX7_init_1 : decode cX7_init 1 = .ok (.invokespecial 1, 3) := by decide +kernel
theorem dX7_init_4 : decode cX7_init 4 = .ok (.aload_n 0, 1) := by decide +kernel
theorem dX7_init_5 : decode cX7_init 5 = .ok (.sipush 200, 3) := by decide +kernel
theorem dX7_init_8 : decode cX7_init 8 = .ok (.newarray .int, 2) := by decide +kernel
theorem dX7_init_10 : decode cX7_init 10 = .ok (.putfield 7, 3) := by decide +kernel
theorem dX7_init_13 : decode cX7_init 13 = .ok (.aload_n 0, 1) := by decide +kernel
theorem dX7_init_14 : decode cX7_init 14 = .ok (.bipush 70, 2) := by decide +kernel
theorem dX7_init_16 : decode cX7_init 16 = .ok (.newarray .int, 2) := by decide +kernel
theorem dX7_init_18 : decode cX7_init 18 = .ok (.putfield 13, 3) := by decide +kernel
theorem dX7_init_21 : decode cX7_init 21 = .ok (.aload_n 0, 1) := by decide +kernel
theorem dX7_init_22 : decode cX7_init 22 = .ok (.bipush 12, 2) := by decide +kernel
theorem dX7_init_24 : decode cX7_init 24 = .ok (.newarray .int, 2) := by decide +kernel
theorem dX7_init_26 : decode cX7_init 26 = .ok (.putfield 16, 3) := by decide +kernel
theorem dX7_init_29 : decode cX7_init 29 = .ok (.aload_n 0, 1) := by decide +kernel
theorem dX7_init_30 : decode cX7_init 30 = .ok (.bipush 70, 2) := by decide +kernel
theorem dX7_init_32 : decode cX7_init 32 = .ok (.newarray .int, 2) := by decide +kernel
theorem dX7_init_34 : decode cX7_init 34 = .ok (.putfield 19, 3) := by decide +kernel
theorem dX7_init_37 : decode cX7_init 37 = .ok (.aload_n 0, 1) := by decide +kernel
theorem dX7_init_38 : decode cX7_init 38 = .ok (.bipush 12, 2) := by decide +kernel
theorem dX7_init_40 : decode cX7_init 40 = .ok (.newarray .int, 2) := by decide +kernel
theorem dX7_init_42 : decode cX7_init 42 = .ok (.putfield 22, 3) := by decide +kernel
theorem dX7_init_45 : decode cX7_init 45 = .ok (.aload_n 0, 1) := by decide +kernel
theorem dX7_init_46 : decode cX7_init 46 = .ok (.bipush 11, 2) := by decide +kernel
theorem dX7_init_48 : decode cX7_init 48 = .ok (.newarray .int, 2) := by decide +kernel
theorem dX7_init_50 : decode cX7_init 50 = .ok (.putfield 25, 3) := by decide +kernel
theorem dX7_init_53 : decode cX7_init 53 = .ok (.aload_n 0, 1) := by decide +kernel
theorem dX7_init_54 : decode cX7_init 54 = .ok (.bipush 66, 2) := by decide +kernel
theorem dX7_init_56 : decode cX7_init 56 = .ok (.newarray .int, 2) := by decide +kernel
theorem dX7_init_58 : decode cX7_init 58 = .ok (.putfield 28, 3) := by decide +kernel
theorem dX7_init_61 : decode cX7_init 61 = .ok (.aload_n 0, 1) := by decide +kernel
theorem dX7_init_62 : decode cX7_init 62 = .ok (.bipush 7, 2) := by decide +kernel
theorem dX7_init_64 : decode cX7_init 64 = .ok (.newarray .int, 2) := by decide +kernel
theorem dX7_init_66 : decode cX7_init 66 = .ok (.putfield 31, 3) := by decide +kernel
theorem dX7_init_69 : decode cX7_init 69 = .ok (.aload_n 0, 1) := by decide +kernel
theorem dX7_init_70 : decode cX7_init 70 = .ok (.invokevirtual 34, 3) := by decide +kernel
theorem dX7_init_73 : decode cX7_init 73 = .ok (.aload_n 0, 1) := by decide +kernel
theorem dX7_init_74 : decode cX7_init 74 = .ok (.iconst 2, 1) := by decide +kernel
theorem dX7_init_75 : decode cX7_init 75 = .ok (.putfield 37, 3) := by decide +kernel
theorem dX7_init_78 : decode cX7_init 78 = .ok (.aload_n 0, 1) := by decide +kernel
theorem dX7_init_79 : decode cX7_init 79 = .ok (.bipush 48, 2) := by decide +kernel
theorem dX7_init_81 : decode cX7_init 81 = .ok (.putfield 41, 3) := by decide +kernel
theorem dX7_init_84 : decode cX7_init 84 = .ok (.aload_n 0, 1) := by decide +kernel
theorem dX7_init_85 : decode cX7_init 85 = .ok (.iconst 3, 1) := by decide +kernel
theorem dX7_init_86 : decode cX7_init 86 = .ok (.iconst 1, 1) := by decide +kernel
theorem dX7_init_87 : decode cX7_init 87 = .ok (.iconst 1, 1) := by decide +kernel
theorem dX7_init_88 : decode cX7_init 88 = .ok (.iconst 2, 1) := by decide +kernel
theorem dX7_init_89 : decode cX7_init 89 = .ok (.bipush 10, 2) := by decide +kernel
theorem dX7_init_91 : decode cX7_init 91 = .ok (.iconst 1, 1) := by decide +kernel
theorem dX7_init_92 : decode cX7_init 92 = .ok (.bipush 40, 2) := by decide +kernel
theorem dX7_init_94 : decode cX7_init 94 = .ok (.invokevirtual 44, 3) := by decide +kernel
theorem dX7_init_97 : decode cX7_init 97 = .ok (.aload_n 0, 1) := by decide +kernel
theorem dX7_init_98 : decode cX7_init 98 = .ok (.iconst 3, 1) := by decide +kernel
theorem dX7_init_99 : decode cX7_init 99 = .ok (.iconst 3, 1) := by decide +kernel
theorem dX7_init_100 : decode cX7_init 100 = .ok (.iconst 2, 1) := by decide +kernel
theorem dX7_init_101 : decode cX7_init 101 = .ok (.bipush 20, 2) := by decide +kernel
theorem dX7_init_103 : decode cX7_init 103 = .ok (.bipush 40, 2) := by decide +kernel
theorem dX7_init_105 : decode cX7_init 105 = .ok (.iconst 0, 1) := by decide +kernel
theorem dX7_init_106 : decode cX7_init 106 = .ok (.bipush 25, 2) := by decide +kernel
theorem dX7_init_108 : decode cX7_init 108 = .ok (.invokevirtual 44, 3) := by decide +kernel
theorem dX7_init_111 : decode cX7_init 111 = .ok (.aload_n 0, 1) := by decide +kernel
theorem dX7_init_112 : decode cX7_init 112 = .ok (.bipush 6, 2) := by decide +kernel
theorem dX7_init_114 : decode cX7_init 114 = .ok (.iconst 1, 1) := by decide +kernel
theorem dX7_init_115 : decode cX7_init 115 = .ok (.iconst 2, 1) := by decide +kernel
theorem dX7_init_116 : decode cX7_init 116 = .ok (.bipush 30, 2) := by decide +kernel
theorem dX7_init_118 : decode cX7_init 118 = .ok (.bipush 48, 2) := by decide +kernel
theorem dX7_init_120 : decode cX7_init 120 = .ok (.iconst 1, 1) := by decide +kernel
theorem dX7_init_121 : decode cX7_init 121 = .ok (.bipush 30, 2) := by decide +kernel
theorem dX7_init_123 : decode cX7_init 123 = .ok (.invokevirtual 44, 3) := by decide +kernel
theorem dX7_init_126 : decode cX7_init 126 = .ok (.aload_n 0, 1) := by decide +kernel
theorem dX7_init_127 : decode cX7_init 127 = .ok (.iconst 1, 1) := by decide +kernel
theorem dX7_init_128 : decode cX7_init 128 = .ok (.iconst 2, 1) := by decide +kernel
theorem dX7_init_129 : decode cX7_init 129 = .ok (.bipush 12, 2) := by decide +kernel
theorem dX7_init_131 : decode cX7_init 131 = .ok (.bipush 8, 2) := by decide +kernel
theorem dX7_init_133 : decode cX7_init 133 = .ok (.bipush 51, 2) := by decide +kernel
theorem dX7_init_135 : decode cX7_init 135 = .ok (.iconst 0, 1) := by decide +kernel
theorem dX7_init_136 : decode cX7_init 136 = .ok (.bipush 9, 2) := by decide +kernel
theorem dX7_init_138 : decode cX7_init 138 = .ok (.invokevirtual 44, 3) := by decide +kernel
theorem dX7_init_141 : decode cX7_init 141 = .ok (.aload_n 0, 1) := by decide +kernel
theorem dX7_init_142 : decode cX7_init 142 = .ok (.bipush 32, 2) := by decide +kernel
theorem dX7_init_144 : decode cX7_init 144 = .ok (.bipush 15, 2) := by decide +kernel
theorem dX7_init_146 : decode cX7_init 146 = .ok (.bipush 15, 2) := by decide +kernel
theorem dX7_init_148 : decode cX7_init 148 = .ok (.iconst 2, 1) := by decide +kernel
theorem dX7_init_149 : decode cX7_init 149 = .ok (.bipush 48, 2) := by decide +kernel
theorem dX7_init_151 : decode cX7_init 151 = .ok (.iconst 0, 1) := by decide +kernel
theorem dX7_init_152 : decode cX7_init 152 = .ok (.bipush 60, 2) := by decide +kernel
theorem dX7_init_154 : decode cX7_init 154 = .ok (.invokevirtual 44, 3) := by decide +kernel
theorem dX7_init_157 : decode cX7_init 157 = .ok (.aload_n 0, 1) := by decide +kernel
theorem dX7_init_158 : decode cX7_init 158 = .ok (.bipush 35, 2) := by decide +kernel
theorem dX7_init_160 : decode cX7_init 160 = .ok (.iconst 1, 1) := by decide +kernel
theorem dX7_init_161 : decode cX7_init 161 = .ok (.iconst 4, 1) := by decide +kernel
theorem dX7_init_162 : decode cX7_init 162 = .ok (.bipush 15, 2) := by decide +kernel
theorem dX7_init_164 : decode cX7_init 164 = .ok (.bipush 20, 2) := by decide +kernel
theorem dX7_init_166 : decode cX7_init 166 = .ok (.iconst 0, 1) := by decide +kernel
theorem dX7_init_167 : decode cX7_init 167 = .ok (.bipush 12, 2) := by decide +kernel
theorem dX7_init_169 : decode cX7_init 169 = .ok (.invokevirtual 44, 3) := by decide +kernel
theorem dX7_init_172 : decode cX7_init 172 = .ok (.aload_n 0, 1) := by decide +kernel
theorem dX7_init_173 : decode cX7_init 173 = .ok (.iconst 1, 1) := by decide +kernel
theorem dX7_init_174 : decode cX7_init 174 = .ok (.iconst 0, 1) := by decide +kernel
theorem dX7_init_175 : decode cX7_init 175 = .ok (.bipush 12, 2) := by decide +kernel
theorem dX7_init_177 : decode cX7_init 177 = .ok (.invokevirtual 48, 3) := by decide +kernel
theorem dX7_init_180 : decode cX7_init 180 = .ok (.aload_n 0, 1) := by decide +kernel
theorem dX7_init_181 : decode cX7_init 181 = .ok (.iconst 2, 1) := by decide +kernel
theorem dX7_init_182 : decode cX7_init 182 = .ok (.iconst 0, 1) := by decide +kernel
theorem dX7_init_183 : decode cX7_init 183 = .ok (.bipush 20, 2) := by decide +kernel
theorem dX7_init_185 : decode cX7_init 185 = .ok (.invokevirtual 48, 3) := by decide +kernel
theorem dX7_init_188 : decode cX7_init 188 = .ok (.aload_n 0, 1) := by decide +kernel
theorem dX7_init_189 : decode cX7_init 189 = .ok (.invokevirtual 52, 3) := by decide +kernel
theorem dX7_init_192 : decode cX7_init 192 = .ok (.return_, 1) := by decide +kernel
theorem dX7_in_0 : decode cX7_in 0 = .ok (.iload_n 0, 1) := by decide +kernel
theorem dX7_in_1 : decode cX7_in 1 = .ok (.iload_n 1, 1) := by decide +kernel
theorem dX7_in_2 : decode cX7_in 2 = .ok (.if_icmp .lt 12, 3) := by decide +kernel
theorem dX7_in_5 : decode cX7_in 5 = .ok (.iload_n 0, 1) := by decide +kernel
theorem dX7_in_6 : decode cX7_in 6 = .ok (.iload_n 2, 1) := by decide +kernel
theorem dX7_in_7 : decode cX7_in 7 = .ok (.if_icmp .gt 7, 3) := by decide +kernel
theorem dX7_in_10 : decode cX7_in 10 = .ok (.iconst 1, 1) := by decide +kernel
theorem dX7_in_11 : decode cX7_in 11 = .ok (.goto 4, 3) := by decide +kernel
theorem dX7_in_14 : decode cX7_in 14 = .ok (.iconst 0, 1) := by decide +kernel
theorem dX7_in_15 : decode cX7_in 15 = .ok (.ireturn, 1) := by decide +kernel
theorem dX7_beginRead_0 : decode cX7_beginRead 0 = .ok (.aload_n 0, 1) := by decide +kernel
theorem dX7_beginRead_1 : decode cX7_beginRead 1 = .ok (.iconst 0, 1) := by decide +kernel
theorem dX7_beginRead_2 : decode cX7_beginRead 2 = .ok (.putfield 55, 3) := by decide +kernel
theorem dX7_beginRead_5 : decode cX7_beginRead 5 = .ok (.aload_n 0, 1) := by decide +kernel
theorem dX7_beginRead_6 : decode cX7_beginRead 6 = .ok (.iconst 0, 1) := by decide +kernel
theorem dX7_beginRead_7 : decode cX7_beginRead 7 = .ok (.putfield 58, 3) := by decide +kernel
theorem dX7_beginRead_10 : decode cX7_beginRead 10 = .ok (.aload_n 0, 1) := by decide +kernel
theorem dX7_beginRead_11 : decode cX7_beginRead 11 = .ok (.iconst 0, 1) := by decide +kernel
theorem dX7_beginRead_12 : decode cX7_beginRead 12 = .ok (.putfield 37, 3) := by decide +kernel
theorem dX7_beginRead_15 : decode cX7_beginRead 15 = .ok (.aload_n 0, 1) := by decide +kernel
theorem dX7_beginRead_16 : decode cX7_beginRead 16 = .ok (.bipush 51, 2) := by decide +kernel
theorem dX7_beginRead_18 : decode cX7_beginRead 18 = .ok (.putfield 41, 3) := by decide +kernel
theorem dX7_beginRead_21 : decode cX7_beginRead 21 = .ok (.return_, 1) := by decide +kernel
theorem dX7_putOffer_0 : decode cX7_putOffer 0 = .ok (.bipush 7, 2) := by decide +kernel
theorem dX7_putOffer_2 : decode cX7_putOffer 2 = .ok (.aload_n 0, 1) := by decide +kernel
theorem dX7_putOffer_3 : decode cX7_putOffer 3 = .ok (.getfield 55, 3) := by decide +kernel
theorem dX7_putOffer_6 : decode cX7_putOffer 6 = .ok (.imul, 1) := by decide +kernel
theorem dX7_putOffer_7 : decode cX7_putOffer 7 = .ok (.istore 8, 2) := by decide +kernel
theorem dX7_putOffer_9 : decode cX7_putOffer 9 = .ok (.aload_n 0, 1) := by decide +kernel
theorem dX7_putOffer_10 : decode cX7_putOffer 10 = .ok (.getfield 13, 3) := by decide +kernel
theorem dX7_putOffer_13 : decode cX7_putOffer 13 = .ok (.iload 8, 2) := by decide +kernel
theorem dX7_putOffer_15 : decode cX7_putOffer 15 = .ok (.iload_n 1, 1) := by decide +kernel
theorem dX7_putOffer_16 : decode cX7_putOffer 16 = .ok (.iastore, 1) := by decide +kernel
theorem dX7_putOffer_17 : decode cX7_putOffer 17 = .ok (.aload_n 0, 1) := by decide +kernel
theorem dX7_putOffer_18 : decode cX7_putOffer 18 = .ok (.getfield 13, 3) := by decide +kernel
theorem dX7_putOffer_21 : decode cX7_putOffer 21 = .ok (.iload 8, 2) := by decide +kernel
theorem dX7_putOffer_23 : decode cX7_putOffer 23 = .ok (.iconst 1, 1) := by decide +kernel
theorem dX7_putOffer_24 : decode cX7_putOffer 24 = .ok (.iadd, 1) := by decide +kernel
theorem dX7_putOffer_25 : decode cX7_putOffer 25 = .ok (.iload_n 2, 1) := by decide +kernel
theorem dX7_putOffer_26 : decode cX7_putOffer 26 = .ok (.iastore, 1) := by decide +kernel
theorem dX7_putOffer_27 : decode cX7_putOffer 27 = .ok (.aload_n 0, 1) := by decide +kernel
theorem dX7_putOffer_28 : decode cX7_putOffer 28 = .ok (.getfield 13, 3) := by decide +kernel
theorem dX7_putOffer_31 : decode cX7_putOffer 31 = .ok (.iload 8, 2) := by decide +kernel
theorem dX7_putOffer_33 : decode cX7_putOffer 33 = .ok (.iconst 2, 1) := by decide +kernel
theorem dX7_putOffer_34 : decode cX7_putOffer 34 = .ok (.iadd, 1) := by decide +kernel
theorem dX7_putOffer_35 : decode cX7_putOffer 35 = .ok (.iload_n 3, 1) := by decide +kernel
theorem dX7_putOffer_36 : decode cX7_putOffer 36 = .ok (.iastore, 1) := by decide +kernel
theorem dX7_putOffer_37 : decode cX7_putOffer 37 = .ok (.aload_n 0, 1) := by decide +kernel
theorem dX7_putOffer_38 : decode cX7_putOffer 38 = .ok (.getfield 13, 3) := by decide +kernel
theorem dX7_putOffer_41 : decode cX7_putOffer 41 = .ok (.iload 8, 2) := by decide +kernel
theorem dX7_putOffer_43 : decode cX7_putOffer 43 = .ok (.iconst 3, 1) := by decide +kernel
theorem dX7_putOffer_44 : decode cX7_putOffer 44 = .ok (.iadd, 1) := by decide +kernel
theorem dX7_putOffer_45 : decode cX7_putOffer 45 = .ok (.iload 4, 2) := by decide +kernel
theorem dX7_putOffer_47 : decode cX7_putOffer 47 = .ok (.iastore, 1) := by decide +kernel
theorem dX7_putOffer_48 : decode cX7_putOffer 48 = .ok (.aload_n 0, 1) := by decide +kernel
theorem dX7_putOffer_49 : decode cX7_putOffer 49 = .ok (.getfield 13, 3) := by decide +kernel
theorem dX7_putOffer_52 : decode cX7_putOffer 52 = .ok (.iload 8, 2) := by decide +kernel
theorem dX7_putOffer_54 : decode cX7_putOffer 54 = .ok (.iconst 4, 1) := by decide +kernel
theorem dX7_putOffer_55 : decode cX7_putOffer 55 = .ok (.iadd, 1) := by decide +kernel
theorem dX7_putOffer_56 : decode cX7_putOffer 56 = .ok (.iload 5, 2) := by decide +kernel
theorem dX7_putOffer_58 : decode cX7_putOffer 58 = .ok (.iastore, 1) := by decide +kernel
theorem dX7_putOffer_59 : decode cX7_putOffer 59 = .ok (.aload_n 0, 1) := by decide +kernel
theorem dX7_putOffer_60 : decode cX7_putOffer 60 = .ok (.getfield 13, 3) := by decide +kernel
theorem dX7_putOffer_63 : decode cX7_putOffer 63 = .ok (.iload 8, 2) := by decide +kernel
theorem dX7_putOffer_65 : decode cX7_putOffer 65 = .ok (.iconst 5, 1) := by decide +kernel
theorem dX7_putOffer_66 : decode cX7_putOffer 66 = .ok (.iadd, 1) := by decide +kernel
theorem dX7_putOffer_67 : decode cX7_putOffer 67 = .ok (.iload 6, 2) := by decide +kernel
theorem dX7_putOffer_69 : decode cX7_putOffer 69 = .ok (.iastore, 1) := by decide +kernel
theorem dX7_putOffer_70 : decode cX7_putOffer 70 = .ok (.aload_n 0, 1) := by decide +kernel
theorem dX7_putOffer_71 : decode cX7_putOffer 71 = .ok (.getfield 13, 3) := by decide +kernel
theorem dX7_putOffer_74 : decode cX7_putOffer 74 = .ok (.iload 8, 2) := by decide +kernel
theorem dX7_putOffer_76 : decode cX7_putOffer 76 = .ok (.bipush 6, 2) := by decide +kernel
theorem dX7_putOffer_78 : decode cX7_putOffer 78 = .ok (.iadd, 1) := by decide +kernel
theorem dX7_putOffer_79 : decode cX7_putOffer 79 = .ok (.iload 7, 2) := by decide +kernel
theorem dX7_putOffer_81 : decode cX7_putOffer 81 = .ok (.iastore, 1) := by decide +kernel
theorem dX7_putOffer_82 : decode cX7_putOffer 82 = .ok (.aload_n 0, 1) := by decide +kernel
theorem dX7_putOffer_83 : decode cX7_putOffer 83 = .ok (.dup, 1) := by decide +kernel
theorem dX7_putOffer_84 : decode cX7_putOffer 84 = .ok (.getfield 55, 3) := by decide +kernel
theorem dX7_putOffer_87 : decode cX7_putOffer 87 = .ok (.iconst 1, 1) := by decide +kernel
theorem dX7_putOffer_88 : decode cX7_putOffer 88 = .ok (.iadd, 1) := by decide +kernel
theorem dX7_putOffer_89 : decode cX7_putOffer 89 = .ok (.putfield 55, 3) := by decide +kernel
theorem dX7_putOffer_92 : decode cX7_putOffer 92 = .ok (.return_, 1) := by decide +kernel
theorem dX7_putHold_0 : decode cX7_putHold 0 = .ok (.aload_n 0, 1) := by decide +kernel
theorem dX7_putHold_1 : decode cX7_putHold 1 = .ok (.getfield 16, 3) := by decide +kernel
theorem dX7_putHold_4 : decode cX7_putHold 4 = .ok (.iconst 3, 1) := by decide +kernel
theorem dX7_putHold_5 : decode cX7_putHold 5 = .ok (.aload_n 0, 1) := by decide +kernel
theorem dX7_putHold_6 : decode cX7_putHold 6 = .ok (.getfield 58, 3) := by decide +kernel
theorem dX7_putHold_9 : decode cX7_putHold 9 = .ok (.imul, 1) := by decide +kernel
theorem dX7_putHold_10 : decode cX7_putHold 10 = .ok (.iload_n 1, 1) := by decide +kernel
theorem dX7_putHold_11 : decode cX7_putHold 11 = .ok (.iastore, 1) := by decide +kernel
theorem dX7_putHold_12 : decode cX7_putHold 12 = .ok (.aload_n 0, 1) := by decide +kernel
theorem dX7_putHold_13 : decode cX7_putHold 13 = .ok (.getfield 16, 3) := by decide +kernel
theorem dX7_putHold_16 : decode cX7_putHold 16 = .ok (.iconst 3, 1) := by decide +kernel
theorem dX7_putHold_17 : decode cX7_putHold 17 = .ok (.aload_n 0, 1) := by decide +kernel
theorem dX7_putHold_18 : decode cX7_putHold 18 = .ok (.getfield 58, 3) := by decide +kernel
theorem dX7_putHold_21 : decode cX7_putHold 21 = .ok (.imul, 1) := by decide +kernel
theorem dX7_putHold_22 : decode cX7_putHold 22 = .ok (.iconst 1, 1) := by decide +kernel
theorem dX7_putHold_23 : decode cX7_putHold 23 = .ok (.iadd, 1) := by decide +kernel
theorem dX7_putHold_24 : decode cX7_putHold 24 = .ok (.iload_n 2, 1) := by decide +kernel
theorem dX7_putHold_25 : decode cX7_putHold 25 = .ok (.iastore, 1) := by decide +kernel
theorem dX7_putHold_26 : decode cX7_putHold 26 = .ok (.aload_n 0, 1) := by decide +kernel
theorem dX7_putHold_27 : decode cX7_putHold 27 = .ok (.getfield 16, 3) := by decide +kernel
theorem dX7_putHold_30 : decode cX7_putHold 30 = .ok (.iconst 3, 1) := by decide +kernel
theorem dX7_putHold_31 : decode cX7_putHold 31 = .ok (.aload_n 0, 1) := by decide +kernel
theorem dX7_putHold_32 : decode cX7_putHold 32 = .ok (.getfield 58, 3) := by decide +kernel
theorem dX7_putHold_35 : decode cX7_putHold 35 = .ok (.imul, 1) := by decide +kernel
theorem dX7_putHold_36 : decode cX7_putHold 36 = .ok (.iconst 2, 1) := by decide +kernel
theorem dX7_putHold_37 : decode cX7_putHold 37 = .ok (.iadd, 1) := by decide +kernel
theorem dX7_putHold_38 : decode cX7_putHold 38 = .ok (.iload_n 3, 1) := by decide +kernel
theorem dX7_putHold_39 : decode cX7_putHold 39 = .ok (.iastore, 1) := by decide +kernel
theorem dX7_putHold_40 : decode cX7_putHold 40 = .ok (.aload_n 0, 1) := by decide +kernel
theorem dX7_putHold_41 : decode cX7_putHold 41 = .ok (.dup, 1) := by decide +kernel
theorem dX7_putHold_42 : decode cX7_putHold 42 = .ok (.getfield 58, 3) := by decide +kernel
theorem dX7_putHold_45 : decode cX7_putHold 45 = .ok (.iconst 1, 1) := by decide +kernel
theorem dX7_putHold_46 : decode cX7_putHold 46 = .ok (.iadd, 1) := by decide +kernel
theorem dX7_putHold_47 : decode cX7_putHold 47 = .ok (.putfield 58, 3) := by decide +kernel
theorem dX7_putHold_50 : decode cX7_putHold 50 = .ok (.return_, 1) := by decide +kernel
theorem dX7_takeRead_0 : decode cX7_takeRead 0 = .ok (.iconst 0, 1) := by decide +kernel
theorem dX7_takeRead_1 : decode cX7_takeRead 1 = .ok (.istore_n 1, 1) := by decide +kernel
theorem dX7_takeRead_2 : decode cX7_takeRead 2 = .ok (.iload_n 1, 1) := by decide +kernel
theorem dX7_takeRead_3 : decode cX7_takeRead 3 = .ok (.bipush 70, 2) := by decide +kernel
theorem dX7_takeRead_5 : decode cX7_takeRead 5 = .ok (.if_icmp .ge 21, 3) := by decide +kernel
theorem dX7_takeRead_8 : decode cX7_takeRead 8 = .ok (.aload_n 0, 1) := by decide +kernel
theorem dX7_takeRead_9 : decode cX7_takeRead 9 = .ok (.getfield 19, 3) := by decide +kernel
theorem dX7_takeRead_12 : decode cX7_takeRead 12 = .ok (.iload_n 1, 1) := by decide +kernel
theorem dX7_takeRead_13 : decode cX7_takeRead 13 = .ok (.aload_n 0, 1) := by decide +kernel
theorem dX7_takeRead_14 : decode cX7_takeRead 14 = .ok (.getfield 13, 3) := by decide +kernel
theorem dX7_takeRead_17 : decode cX7_takeRead 17 = .ok (.iload_n 1, 1) := by decide +kernel
theorem dX7_takeRead_18 : decode cX7_takeRead 18 = .ok (.iaload, 1) := by decide +kernel
theorem dX7_takeRead_19 : decode cX7_takeRead 19 = .ok (.iastore, 1) := by decide +kernel
theorem dX7_takeRead_20 : decode cX7_takeRead 20 = .ok (.iinc 1 1, 3) := by decide +kernel
theorem dX7_takeRead_23 : decode cX7_takeRead 23 = .ok (.goto (-21), 3) := by decide +kernel
theorem dX7_takeRead_26 : decode cX7_takeRead 26 = .ok (.iconst 0, 1) := by decide +kernel
theorem dX7_takeRead_27 : decode cX7_takeRead 27 = .ok (.istore_n 1, 1) := by decide +kernel
theorem dX7_takeRead_28 : decode cX7_takeRead 28 = .ok (.iload_n 1, 1) := by decide +kernel
theorem dX7_takeRead_29 : decode cX7_takeRead 29 = .ok (.bipush 12, 2) := by decide +kernel
theorem dX7_takeRead_31 : decode cX7_takeRead 31 = .ok (.if_icmp .ge 21, 3) := by decide +kernel
theorem dX7_takeRead_34 : decode cX7_takeRead 34 = .ok (.aload_n 0, 1) := by decide +kernel
theorem dX7_takeRead_35 : decode cX7_takeRead 35 = .ok (.getfield 22, 3) := by decide +kernel
theorem dX7_takeRead_38 : decode cX7_takeRead 38 = .ok (.iload_n 1, 1) := by decide +kernel
theorem dX7_takeRead_39 : decode cX7_takeRead 39 = .ok (.aload_n 0, 1) := by decide +kernel
theorem dX7_takeRead_40 : decode cX7_takeRead 40 = .ok (.getfield 16, 3) := by decide +kernel
theorem dX7_takeRead_43 : decode cX7_takeRead 43 = .ok (.iload_n 1, 1) := by decide +kernel
theorem dX7_takeRead_44 : decode cX7_takeRead 44 = .ok (.iaload, 1) := by decide +kernel
theorem dX7_takeRead_45 : decode cX7_takeRead 45 = .ok (.iastore, 1) := by decide +kernel
theorem dX7_takeRead_46 : decode cX7_takeRead 46 = .ok (.iinc 1 1, 3) := by decide +kernel
theorem dX7_takeRead_49 : decode cX7_takeRead 49 = .ok (.goto (-21), 3) := by decide +kernel
theorem dX7_takeRead_52 : decode cX7_takeRead 52 = .ok (.aload_n 0, 1) := by decide +kernel
theorem dX7_takeRead_53 : decode cX7_takeRead 53 = .ok (.aload_n 0, 1) := by decide +kernel
theorem dX7_takeRead_54 : decode cX7_takeRead 54 = .ok (.getfield 55, 3) := by decide +kernel
theorem dX7_takeRead_57 : decode cX7_takeRead 57 = .ok (.putfield 61, 3) := by decide +kernel
theorem dX7_takeRead_60 : decode cX7_takeRead 60 = .ok (.aload_n 0, 1) := by decide +kernel
theorem dX7_takeRead_61 : decode cX7_takeRead 61 = .ok (.aload_n 0, 1) := by decide +kernel
theorem dX7_takeRead_62 : decode cX7_takeRead 62 = .ok (.getfield 58, 3) := by decide +kernel
theorem dX7_takeRead_65 : decode cX7_takeRead 65 = .ok (.putfield 64, 3) := by decide +kernel
theorem dX7_takeRead_68 : decode cX7_takeRead 68 = .ok (.aload_n 0, 1) := by decide +kernel
theorem dX7_takeRead_69 : decode cX7_takeRead 69 = .ok (.aload_n 0, 1) := by decide +kernel
theorem dX7_takeRead_70 : decode cX7_takeRead 70 = .ok (.getfield 37, 3) := by decide +kernel
theorem dX7_takeRead_73 : decode cX7_takeRead 73 = .ok (.putfield 67, 3) := by decide +kernel
theorem dX7_takeRead_76 : decode cX7_takeRead 76 = .ok (.aload_n 0, 1) := by decide +kernel
theorem dX7_takeRead_77 : decode cX7_takeRead 77 = .ok (.aload_n 0, 1) := by decide +kernel
theorem dX7_takeRead_78 : decode cX7_takeRead 78 = .ok (.getfield 41, 3) := by decide +kernel
theorem dX7_takeRead_81 : decode cX7_takeRead 81 = .ok (.putfield 70, 3) := by decide +kernel
theorem dX7_takeRead_84 : decode cX7_takeRead 84 = .ok (.iconst 0, 1) := by decide +kernel
theorem dX7_takeRead_85 : decode cX7_takeRead 85 = .ok (.istore_n 1, 1) := by decide +kernel
theorem dX7_takeRead_86 : decode cX7_takeRead 86 = .ok (.iload_n 1, 1) := by decide +kernel
theorem dX7_takeRead_87 : decode cX7_takeRead 87 = .ok (.bipush 11, 2) := by decide +kernel
theorem dX7_takeRead_89 : decode cX7_takeRead 89 = .ok (.if_icmp .ge 16, 3) := by decide +kernel
theorem dX7_takeRead_92 : decode cX7_takeRead 92 = .ok (.aload_n 0, 1) := by decide +kernel
theorem dX7_takeRead_93 : decode cX7_takeRead 93 = .ok (.getfield 25, 3) := by decide +kernel
theorem dX7_takeRead_96 : decode cX7_takeRead 96 = .ok (.iload_n 1, 1) := by decide +kernel
theorem dX7_takeRead_97 : decode cX7_takeRead 97 = .ok (.iconst 0, 1) := by decide +kernel
theorem dX7_takeRead_98 : decode cX7_takeRead 98 = .ok (.iastore, 1) := by decide +kernel
theorem dX7_takeRead_99 : decode cX7_takeRead 99 = .ok (.iinc 1 1, 3) := by decide +kernel
theorem dX7_takeRead_102 : decode cX7_takeRead 102 = .ok (.goto (-16), 3) := by decide +kernel
theorem dX7_takeRead_105 : decode cX7_takeRead 105 = .ok (.aload_n 0, 1) := by decide +kernel
theorem dX7_takeRead_106 : decode cX7_takeRead 106 = .ok (.iconst 0, 1) := by decide +kernel
theorem dX7_takeRead_107 : decode cX7_takeRead 107 = .ok (.putfield 73, 3) := by decide +kernel
theorem dX7_takeRead_110 : decode cX7_takeRead 110 = .ok (.return_, 1) := by decide +kernel
theorem dX7_isFigure_0 : decode cX7_isFigure 0 = .ok (.aload_n 0, 1) := by decide +kernel
theorem dX7_isFigure_1 : decode cX7_isFigure 1 = .ok (.getfield 76, 3) := by decide +kernel
theorem dX7_isFigure_4 : decode cX7_isFigure 4 = .ok (.aload_n 0, 1) := by decide +kernel
theorem dX7_isFigure_5 : decode cX7_isFigure 5 = .ok (.getfield 79, 3) := by decide +kernel
theorem dX7_isFigure_8 : decode cX7_isFigure 8 = .ok (.if_icmp .ge 26, 3) := by decide +kernel
theorem dX7_isFigure_11 : decode cX7_isFigure 11 = .ok (.aload_n 0, 1) := by decide +kernel
theorem dX7_isFigure_12 : decode cX7_isFigure 12 = .ok (.getfield 7, 3) := by decide +kernel
theorem dX7_isFigure_15 : decode cX7_isFigure 15 = .ok (.aload_n 0, 1) := by decide +kernel
theorem dX7_isFigure_16 : decode cX7_isFigure 16 = .ok (.getfield 76, 3) := by decide +kernel
theorem dX7_isFigure_19 : decode cX7_isFigure 19 = .ok (.iaload, 1) := by decide +kernel
theorem dX7_isFigure_20 : decode cX7_isFigure 20 = .ok (.bipush 48, 2) := by decide +kernel
theorem dX7_isFigure_22 : decode cX7_isFigure 22 = .ok (.bipush 57, 2) := by decide +kernel
theorem dX7_isFigure_24 : decode cX7_isFigure 24 = .ok (.invokestatic 82, 3) := by decide +kernel
theorem dX7_isFigure_27 : decode cX7_isFigure 27 = .ok (.ifCond .eq 7, 3) := by decide +kernel
theorem dX7_isFigure_30 : decode cX7_isFigure 30 = .ok (.iconst 1, 1) := by decide +kernel
theorem dX7_isFigure_31 : decode cX7_isFigure 31 = .ok (.goto 4, 3) := by decide +kernel
theorem dX7_isFigure_34 : decode cX7_isFigure 34 = .ok (.iconst 0, 1) := by decide +kernel
theorem dX7_isFigure_35 : decode cX7_isFigure 35 = .ok (.ireturn, 1) := by decide +kernel
theorem dX7_readNumbers_0 : decode cX7_readNumbers 0 = .ok (.iconst 0, 1) := by decide +kernel
theorem dX7_readNumbers_1 : decode cX7_readNumbers 1 = .ok (.istore_n 2, 1) := by decide +kernel
theorem dX7_readNumbers_2 : decode cX7_readNumbers 2 = .ok (.iload_n 2, 1) := by decide +kernel
theorem dX7_readNumbers_3 : decode cX7_readNumbers 3 = .ok (.iload_n 1, 1) := by decide +kernel
theorem dX7_readNumbers_4 : decode cX7_readNumbers 4 = .ok (.if_icmp .ge 132, 3) := by decide +kernel
theorem dX7_readNumbers_7 : decode cX7_readNumbers 7 = .ok (.aload_n 0, 1) := by decide +kernel
theorem dX7_readNumbers_8 : decode cX7_readNumbers 8 = .ok (.invokevirtual 86, 3) := by decide +kernel
theorem dX7_readNumbers_11 : decode cX7_readNumbers 11 = .ok (.ifCond .ne 5, 3) := by decide +kernel
theorem dX7_readNumbers_14 : decode cX7_readNumbers 14 = .ok (.iconst 0, 1) := by decide +kernel
theorem dX7_readNumbers_15 : decode cX7_readNumbers 15 = .ok (.ireturn, 1) := by decide +kernel
theorem dX7_readNumbers_16 : decode cX7_readNumbers 16 = .ok (.aload_n 0, 1) := by decide +kernel
theorem dX7_readNumbers_17 : decode cX7_readNumbers 17 = .ok (.getfield 7, 3) := by decide +kernel
theorem dX7_readNumbers_20 : decode cX7_readNumbers 20 = .ok (.aload_n 0, 1) := by decide +kernel
theorem dX7_readNumbers_21 : decode cX7_readNumbers 21 = .ok (.getfield 76, 3) := by decide +kernel
theorem dX7_readNumbers_24 : decode cX7_readNumbers 24 = .ok (.iaload, 1) := by decide +kernel
theorem dX7_readNumbers_25 : decode cX7_readNumbers 25 = .ok (.bipush 48, 2) := by decide +kernel
theorem dX7_readNumbers_27 : decode cX7_readNumbers 27 = .ok (.isub, 1) := by decide +kernel
theorem dX7_readNumbers_28 : decode cX7_readNumbers 28 = .ok (.istore_n 3, 1) := by decide +kernel
theorem dX7_readNumbers_29 : decode cX7_readNumbers 29 = .ok (.aload_n 0, 1) := by decide +kernel
theorem dX7_readNumbers_30 : decode cX7_readNumbers 30 = .ok (.dup, 1) := by decide +kernel
theorem dX7_readNumbers_31 : decode cX7_readNumbers 31 = .ok (.getfield 76, 3) := by decide +kernel
theorem dX7_readNumbers_34 : decode cX7_readNumbers 34 = .ok (.iconst 1, 1) := by decide +kernel
theorem dX7_readNumbers_35 : decode cX7_readNumbers 35 = .ok (.iadd, 1) := by decide +kernel
theorem dX7_readNumbers_36 : decode cX7_readNumbers 36 = .ok (.putfield 76, 3) := by decide +kernel
theorem dX7_readNumbers_39 : decode cX7_readNumbers 39 = .ok (.aload_n 0, 1) := by decide +kernel
theorem dX7_readNumbers_40 : decode cX7_readNumbers 40 = .ok (.invokevirtual 86, 3) := by decide +kernel
theorem dX7_readNumbers_43 : decode cX7_readNumbers 43 = .ok (.ifCond .eq 31, 3) := by decide +kernel
theorem dX7_readNumbers_46 : decode cX7_readNumbers 46 = .ok (.bipush 10, 2) := by decide +kernel
theorem dX7_readNumbers_48 : decode cX7_readNumbers 48 = .ok (.iload_n 3, 1) := by decide +kernel
theorem dX7_readNumbers_49 : decode cX7_readNumbers 49 = .ok (.imul, 1) := by decide +kernel
theorem dX7_readNumbers_50 : decode cX7_readNumbers 50 = .ok (.aload_n 0, 1) := by decide +kernel
theorem dX7_readNumbers_51 : decode cX7_readNumbers 51 = .ok (.getfield 7, 3) := by decide +kernel
theorem dX7_readNumbers_54 : decode cX7_readNumbers 54 = .ok (.aload_n 0, 1) := by decide +kernel
theorem dX7_readNumbers_55 : decode cX7_readNumbers 55 = .ok (.getfield 76, 3) := by decide +kernel
theorem dX7_readNumbers_58 : decode cX7_readNumbers 58 = .ok (.iaload, 1) := by decide +kernel
theorem dX7_readNumbers_59 : decode cX7_readNumbers 59 = .ok (.iadd, 1) := by decide +kernel
end
section
theorem dX7_readNumbers_60 : decode cX7_readNumbers 60 = .ok (.bipush 48, 2) := by decide +kernel
theorem dX7_readNumbers_62 : decode cX7_readNumbers 62 = .ok (.isub, 1) := by decide +kernel
theorem dX7_readNumbers_63 : decode cX7_readNumbers 63 = .ok (.istore_n 3, 1) := by decide +kernel
theorem dX7_readNumbers_64 : decode cX7_readNumbers 64 = .ok (.aload_n 0, 1) := by decide +kernel
theorem dX7_readNumbers_65 : decode cX7_readNumbers 65 = .ok (.dup, 1) := by decide +kernel
theorem dX7_readNumbers_66 : decode cX7_readNumbers 66 = .ok (.getfield 76, 3) := by decide +kernel
theorem dX7_readNumbers_69 : decode cX7_readNumbers 69 = .ok (.iconst 1, 1) := by decide +kernel
theorem dX7_readNumbers_70 : decode cX7_readNumbers 70 = .ok (.iadd, 1) := by decide +kernel
theorem dX7_readNumbers_71 : decode cX7_readNumbers 71 = .ok (.putfield 76, 3) := by decide +kernel
theorem dX7_readNumbers_74 : decode cX7_readNumbers 74 = .ok (.aload_n 0, 1) := by decide +kernel
theorem dX7_readNumbers_75 : decode cX7_readNumbers 75 = .ok (.getfield 31, 3) := by decide +kernel
theorem dX7_readNumbers_78 : decode cX7_readNumbers 78 = .ok (.iload_n 2, 1) := by decide +kernel
theorem dX7_readNumbers_79 : decode cX7_readNumbers 79 = .ok (.iload_n 3, 1) := by decide +kernel
theorem dX7_readNumbers_80 : decode cX7_readNumbers 80 = .ok (.iastore, 1) := by decide +kernel
theorem dX7_readNumbers_81 : decode cX7_readNumbers 81 = .ok (.aload_n 0, 1) := by decide +kernel
theorem dX7_readNumbers_82 : decode cX7_readNumbers 82 = .ok (.getfield 76, 3) := by decide +kernel
theorem dX7_readNumbers_85 : decode cX7_readNumbers 85 = .ok (.aload_n 0, 1) := by decide +kernel
theorem dX7_readNumbers_86 : decode cX7_readNumbers 86 = .ok (.getfield 79, 3) := by decide +kernel
theorem dX7_readNumbers_89 : decode cX7_readNumbers 89 = .ok (.if_icmp .eq 29, 3) := by decide +kernel
theorem dX7_readNumbers_92 : decode cX7_readNumbers 92 = .ok (.aload_n 0, 1) := by decide +kernel
theorem dX7_readNumbers_93 : decode cX7_readNumbers 93 = .ok (.getfield 7, 3) := by decide +kernel
theorem dX7_readNumbers_96 : decode cX7_readNumbers 96 = .ok (.aload_n 0, 1) := by decide +kernel
theorem dX7_readNumbers_97 : decode cX7_readNumbers 97 = .ok (.getfield 76, 3) := by decide +kernel
theorem dX7_readNumbers_100 : decode cX7_readNumbers 100 = .ok (.iaload, 1) := by decide +kernel
theorem dX7_readNumbers_101 : decode cX7_readNumbers 101 = .ok (.iload_n 2, 1) := by decide +kernel
theorem dX7_readNumbers_102 : decode cX7_readNumbers 102 = .ok (.iconst 1, 1) := by decide +kernel
theorem dX7_readNumbers_103 : decode cX7_readNumbers 103 = .ok (.iadd, 1) := by decide +kernel
theorem dX7_readNumbers_104 : decode cX7_readNumbers 104 = .ok (.iload_n 1, 1) := by decide +kernel
theorem dX7_readNumbers_105 : decode cX7_readNumbers 105 = .ok (.if_icmp .ne 8, 3) := by decide +kernel
theorem dX7_readNumbers_108 : decode cX7_readNumbers 108 = .ok (.bipush 59, 2) := by decide +kernel
theorem dX7_readNumbers_110 : decode cX7_readNumbers 110 = .ok (.goto 5, 3) := by decide +kernel
theorem dX7_readNumbers_113 : decode cX7_readNumbers 113 = .ok (.bipush 44, 2) := by decide +kernel
theorem dX7_readNumbers_115 : decode cX7_readNumbers 115 = .ok (.if_icmp .eq 5, 3) := by decide +kernel
theorem dX7_readNumbers_118 : decode cX7_readNumbers 118 = .ok (.iconst 0, 1) := by decide +kernel
theorem dX7_readNumbers_119 : decode cX7_readNumbers 119 = .ok (.ireturn, 1) := by decide +kernel
theorem dX7_readNumbers_120 : decode cX7_readNumbers 120 = .ok (.aload_n 0, 1) := by decide +kernel
theorem dX7_readNumbers_121 : decode cX7_readNumbers 121 = .ok (.dup, 1) := by decide +kernel
theorem dX7_readNumbers_122 : decode cX7_readNumbers 122 = .ok (.getfield 76, 3) := by decide +kernel
theorem dX7_readNumbers_125 : decode cX7_readNumbers 125 = .ok (.iconst 1, 1) := by decide +kernel
theorem dX7_readNumbers_126 : decode cX7_readNumbers 126 = .ok (.iadd, 1) := by decide +kernel
theorem dX7_readNumbers_127 : decode cX7_readNumbers 127 = .ok (.putfield 76, 3) := by decide +kernel
theorem dX7_readNumbers_130 : decode cX7_readNumbers 130 = .ok (.iinc 2 1, 3) := by decide +kernel
theorem dX7_readNumbers_133 : decode cX7_readNumbers 133 = .ok (.goto (-131), 3) := by decide +kernel
theorem dX7_readNumbers_136 : decode cX7_readNumbers 136 = .ok (.iconst 1, 1) := by decide +kernel
theorem dX7_readNumbers_137 : decode cX7_readNumbers 137 = .ok (.ireturn, 1) := by decide +kernel
theorem dX7_readTerm_0 : decode cX7_readTerm 0 = .ok (.aload_n 0, 1) := by decide +kernel
theorem dX7_readTerm_1 : decode cX7_readTerm 1 = .ok (.iconst 2, 1) := by decide +kernel
theorem dX7_readTerm_2 : decode cX7_readTerm 2 = .ok (.invokevirtual 90, 3) := by decide +kernel
theorem dX7_readTerm_5 : decode cX7_readTerm 5 = .ok (.ifCond .eq 29, 3) := by decide +kernel
theorem dX7_readTerm_8 : decode cX7_readTerm 8 = .ok (.aload_n 0, 1) := by decide +kernel
theorem dX7_readTerm_9 : decode cX7_readTerm 9 = .ok (.getfield 31, 3) := by decide +kernel
theorem dX7_readTerm_12 : decode cX7_readTerm 12 = .ok (.iconst 1, 1) := by decide +kernel
theorem dX7_readTerm_13 : decode cX7_readTerm 13 = .ok (.iaload, 1) := by decide +kernel
theorem dX7_readTerm_14 : decode cX7_readTerm 14 = .ok (.bipush 51, 2) := by decide +kernel
theorem dX7_readTerm_16 : decode cX7_readTerm 16 = .ok (.if_icmp .gt 18, 3) := by decide +kernel
theorem dX7_readTerm_19 : decode cX7_readTerm 19 = .ok (.aload_n 0, 1) := by decide +kernel
theorem dX7_readTerm_20 : decode cX7_readTerm 20 = .ok (.getfield 31, 3) := by decide +kernel
theorem dX7_readTerm_23 : decode cX7_readTerm 23 = .ok (.iconst 0, 1) := by decide +kernel
theorem dX7_readTerm_24 : decode cX7_readTerm 24 = .ok (.iaload, 1) := by decide +kernel
theorem dX7_readTerm_25 : decode cX7_readTerm 25 = .ok (.aload_n 0, 1) := by decide +kernel
theorem dX7_readTerm_26 : decode cX7_readTerm 26 = .ok (.getfield 31, 3) := by decide +kernel
theorem dX7_readTerm_29 : decode cX7_readTerm 29 = .ok (.iconst 1, 1) := by decide +kernel
theorem dX7_readTerm_30 : decode cX7_readTerm 30 = .ok (.iaload, 1) := by decide +kernel
theorem dX7_readTerm_31 : decode cX7_readTerm 31 = .ok (.if_icmp .le 5, 3) := by decide +kernel
theorem dX7_readTerm_34 : decode cX7_readTerm 34 = .ok (.iconst 0, 1) := by decide +kernel
theorem dX7_readTerm_35 : decode cX7_readTerm 35 = .ok (.ireturn, 1) := by decide +kernel
theorem dX7_readTerm_36 : decode cX7_readTerm 36 = .ok (.aload_n 0, 1) := by decide +kernel
theorem dX7_readTerm_37 : decode cX7_readTerm 37 = .ok (.aload_n 0, 1) := by decide +kernel
theorem dX7_readTerm_38 : decode cX7_readTerm 38 = .ok (.getfield 31, 3) := by decide +kernel
theorem dX7_readTerm_41 : decode cX7_readTerm 41 = .ok (.iconst 0, 1) := by decide +kernel
theorem dX7_readTerm_42 : decode cX7_readTerm 42 = .ok (.iaload, 1) := by decide +kernel
theorem dX7_readTerm_43 : decode cX7_readTerm 43 = .ok (.putfield 37, 3) := by decide +kernel
theorem dX7_readTerm_46 : decode cX7_readTerm 46 = .ok (.aload_n 0, 1) := by decide +kernel
theorem dX7_readTerm_47 : decode cX7_readTerm 47 = .ok (.aload_n 0, 1) := by decide +kernel
theorem dX7_readTerm_48 : decode cX7_readTerm 48 = .ok (.getfield 31, 3) := by decide +kernel
theorem dX7_readTerm_51 : decode cX7_readTerm 51 = .ok (.iconst 1, 1) := by decide +kernel
theorem dX7_readTerm_52 : decode cX7_readTerm 52 = .ok (.iaload, 1) := by decide +kernel
theorem dX7_readTerm_53 : decode cX7_readTerm 53 = .ok (.putfield 41, 3) := by decide +kernel
theorem dX7_readTerm_56 : decode cX7_readTerm 56 = .ok (.iconst 1, 1) := by decide +kernel
theorem dX7_readTerm_57 : decode cX7_readTerm 57 = .ok (.ireturn, 1) := by decide +kernel
theorem dX7_readOffer_0 : decode cX7_readOffer 0 = .ok (.aload_n 0, 1) := by decide +kernel
theorem dX7_readOffer_1 : decode cX7_readOffer 1 = .ok (.getfield 55, 3) := by decide +kernel
theorem dX7_readOffer_4 : decode cX7_readOffer 4 = .ok (.bipush 10, 2) := by decide +kernel
theorem dX7_readOffer_6 : decode cX7_readOffer 6 = .ok (.if_icmp .eq 57, 3) := by decide +kernel
theorem dX7_readOffer_9 : decode cX7_readOffer 9 = .ok (.aload_n 0, 1) := by decide +kernel
theorem dX7_readOffer_10 : decode cX7_readOffer 10 = .ok (.bipush 7, 2) := by decide +kernel
theorem dX7_readOffer_12 : decode cX7_readOffer 12 = .ok (.invokevirtual 90, 3) := by decide +kernel
theorem dX7_readOffer_15 : decode cX7_readOffer 15 = .ok (.ifCond .eq 48, 3) := by decide +kernel
theorem dX7_readOffer_18 : decode cX7_readOffer 18 = .ok (.aload_n 0, 1) := by decide +kernel
theorem dX7_readOffer_19 : decode cX7_readOffer 19 = .ok (.getfield 31, 3) := by decide +kernel
theorem dX7_readOffer_22 : decode cX7_readOffer 22 = .ok (.iconst 0, 1) := by decide +kernel
theorem dX7_readOffer_23 : decode cX7_readOffer 23 = .ok (.iaload, 1) := by decide +kernel
theorem dX7_readOffer_24 : decode cX7_readOffer 24 = .ok (.iconst 1, 1) := by decide +kernel
theorem dX7_readOffer_25 : decode cX7_readOffer 25 = .ok (.bipush 63, 2) := by decide +kernel
theorem dX7_readOffer_27 : decode cX7_readOffer 27 = .ok (.invokestatic 82, 3) := by decide +kernel
theorem dX7_readOffer_30 : decode cX7_readOffer 30 = .ok (.ifCond .eq 33, 3) := by decide +kernel
theorem dX7_readOffer_33 : decode cX7_readOffer 33 = .ok (.aload_n 0, 1) := by decide +kernel
theorem dX7_readOffer_34 : decode cX7_readOffer 34 = .ok (.getfield 31, 3) := by decide +kernel
theorem dX7_readOffer_37 : decode cX7_readOffer 37 = .ok (.iconst 1, 1) := by decide +kernel
theorem dX7_readOffer_38 : decode cX7_readOffer 38 = .ok (.iaload, 1) := by decide +kernel
theorem dX7_readOffer_39 : decode cX7_readOffer 39 = .ok (.iconst 1, 1) := by decide +kernel
theorem dX7_readOffer_40 : decode cX7_readOffer 40 = .ok (.bipush 15, 2) := by decide +kernel
theorem dX7_readOffer_42 : decode cX7_readOffer 42 = .ok (.invokestatic 82, 3) := by decide +kernel
theorem dX7_readOffer_45 : decode cX7_readOffer 45 = .ok (.ifCond .eq 18, 3) := by decide +kernel
theorem dX7_readOffer_48 : decode cX7_readOffer 48 = .ok (.aload_n 0, 1) := by decide +kernel
theorem dX7_readOffer_49 : decode cX7_readOffer 49 = .ok (.getfield 31, 3) := by decide +kernel
theorem dX7_readOffer_52 : decode cX7_readOffer 52 = .ok (.iconst 2, 1) := by decide +kernel
theorem dX7_readOffer_53 : decode cX7_readOffer 53 = .ok (.iaload, 1) := by decide +kernel
theorem dX7_readOffer_54 : decode cX7_readOffer 54 = .ok (.iconst 1, 1) := by decide +kernel
theorem dX7_readOffer_55 : decode cX7_readOffer 55 = .ok (.bipush 15, 2) := by decide +kernel
theorem dX7_readOffer_57 : decode cX7_readOffer 57 = .ok (.invokestatic 82, 3) := by decide +kernel
theorem dX7_readOffer_60 : decode cX7_readOffer 60 = .ok (.ifCond .ne 5, 3) := by decide +kernel
theorem dX7_readOffer_63 : decode cX7_readOffer 63 = .ok (.iconst 0, 1) := by decide +kernel
theorem dX7_readOffer_64 : decode cX7_readOffer 64 = .ok (.ireturn, 1) := by decide +kernel
theorem dX7_readOffer_65 : decode cX7_readOffer 65 = .ok (.aload_n 0, 1) := by decide +kernel
theorem dX7_readOffer_66 : decode cX7_readOffer 66 = .ok (.getfield 31, 3) := by decide +kernel
theorem dX7_readOffer_69 : decode cX7_readOffer 69 = .ok (.iconst 4, 1) := by decide +kernel
theorem dX7_readOffer_70 : decode cX7_readOffer 70 = .ok (.iaload, 1) := by decide +kernel
theorem dX7_readOffer_71 : decode cX7_readOffer 71 = .ok (.bipush 51, 2) := by decide +kernel
theorem dX7_readOffer_73 : decode cX7_readOffer 73 = .ok (.if_icmp .gt 39, 3) := by decide +kernel
theorem dX7_readOffer_76 : decode cX7_readOffer 76 = .ok (.aload_n 0, 1) := by decide +kernel
theorem dX7_readOffer_77 : decode cX7_readOffer 77 = .ok (.getfield 31, 3) := by decide +kernel
theorem dX7_readOffer_80 : decode cX7_readOffer 80 = .ok (.iconst 3, 1) := by decide +kernel
theorem dX7_readOffer_81 : decode cX7_readOffer 81 = .ok (.iaload, 1) := by decide +kernel
theorem dX7_readOffer_82 : decode cX7_readOffer 82 = .ok (.aload_n 0, 1) := by decide +kernel
theorem dX7_readOffer_83 : decode cX7_readOffer 83 = .ok (.getfield 31, 3) := by decide +kernel
theorem dX7_readOffer_86 : decode cX7_readOffer 86 = .ok (.iconst 4, 1) := by decide +kernel
theorem dX7_readOffer_87 : decode cX7_readOffer 87 = .ok (.iaload, 1) := by decide +kernel
theorem dX7_readOffer_88 : decode cX7_readOffer 88 = .ok (.if_icmp .gt 24, 3) := by decide +kernel
theorem dX7_readOffer_91 : decode cX7_readOffer 91 = .ok (.aload_n 0, 1) := by decide +kernel
theorem dX7_readOffer_92 : decode cX7_readOffer 92 = .ok (.getfield 31, 3) := by decide +kernel
theorem dX7_readOffer_95 : decode cX7_readOffer 95 = .ok (.iconst 5, 1) := by decide +kernel
theorem dX7_readOffer_96 : decode cX7_readOffer 96 = .ok (.iaload, 1) := by decide +kernel
theorem dX7_readOffer_97 : decode cX7_readOffer 97 = .ok (.iconst 1, 1) := by decide +kernel
theorem dX7_readOffer_98 : decode cX7_readOffer 98 = .ok (.if_icmp .gt 14, 3) := by decide +kernel
theorem dX7_readOffer_101 : decode cX7_readOffer 101 = .ok (.aload_n 0, 1) := by decide +kernel
theorem dX7_readOffer_102 : decode cX7_readOffer 102 = .ok (.getfield 31, 3) := by decide +kernel
theorem dX7_readOffer_105 : decode cX7_readOffer 105 = .ok (.bipush 6, 2) := by decide +kernel
theorem dX7_readOffer_107 : decode cX7_readOffer 107 = .ok (.iaload, 1) := by decide +kernel
theorem dX7_readOffer_108 : decode cX7_readOffer 108 = .ok (.iconst 1, 1) := by decide +kernel
theorem dX7_readOffer_109 : decode cX7_readOffer 109 = .ok (.if_icmp .ge 5, 3) := by decide +kernel
theorem dX7_readOffer_112 : decode cX7_readOffer 112 = .ok (.iconst 0, 1) := by decide +kernel
theorem dX7_readOffer_113 : decode cX7_readOffer 113 = .ok (.ireturn, 1) := by decide +kernel
theorem dX7_readOffer_114 : decode cX7_readOffer 114 = .ok (.aload_n 0, 1) := by decide +kernel
theorem dX7_readOffer_115 : decode cX7_readOffer 115 = .ok (.aload_n 0, 1) := by decide +kernel
theorem dX7_readOffer_116 : decode cX7_readOffer 116 = .ok (.getfield 31, 3) := by decide +kernel
theorem dX7_readOffer_119 : decode cX7_readOffer 119 = .ok (.iconst 0, 1) := by decide +kernel
theorem dX7_readOffer_120 : decode cX7_readOffer 120 = .ok (.iaload, 1) := by decide +kernel
theorem dX7_readOffer_121 : decode cX7_readOffer 121 = .ok (.aload_n 0, 1) := by decide +kernel
theorem dX7_readOffer_122 : decode cX7_readOffer 122 = .ok (.getfield 31, 3) := by decide +kernel
theorem dX7_readOffer_125 : decode cX7_readOffer 125 = .ok (.iconst 1, 1) := by decide +kernel
theorem dX7_readOffer_126 : decode cX7_readOffer 126 = .ok (.iaload, 1) := by decide +kernel
theorem dX7_readOffer_127 : decode cX7_readOffer 127 = .ok (.aload_n 0, 1) := by decide +kernel
theorem dX7_readOffer_128 : decode cX7_readOffer 128 = .ok (.getfield 31, 3) := by decide +kernel
theorem dX7_readOffer_131 : decode cX7_readOffer 131 = .ok (.iconst 2, 1) := by decide +kernel
theorem dX7_readOffer_132 : decode cX7_readOffer 132 = .ok (.iaload, 1) := by decide +kernel
theorem dX7_readOffer_133 : decode cX7_readOffer 133 = .ok (.aload_n 0, 1) := by decide +kernel
theorem dX7_readOffer_134 : decode cX7_readOffer 134 = .ok (.getfield 31, 3) := by decide +kernel
theorem dX7_readOffer_137 : decode cX7_readOffer 137 = .ok (.iconst 3, 1) := by decide +kernel
theorem dX7_readOffer_138 : decode cX7_readOffer 138 = .ok (.iaload, 1) := by decide +kernel
theorem dX7_readOffer_139 : decode cX7_readOffer 139 = .ok (.aload_n 0, 1) := by decide +kernel
theorem dX7_readOffer_140 : decode cX7_readOffer 140 = .ok (.getfield 31, 3) := by decide +kernel
theorem dX7_readOffer_143 : decode cX7_readOffer 143 = .ok (.iconst 4, 1) := by decide +kernel
theorem dX7_readOffer_144 : decode cX7_readOffer 144 = .ok (.iaload, 1) := by decide +kernel
theorem dX7_readOffer_145 : decode cX7_readOffer 145 = .ok (.aload_n 0, 1) := by decide +kernel
theorem dX7_readOffer_146 : decode cX7_readOffer 146 = .ok (.getfield 31, 3) := by decide +kernel
theorem dX7_readOffer_149 : decode cX7_readOffer 149 = .ok (.iconst 5, 1) := by decide +kernel
theorem dX7_readOffer_150 : decode cX7_readOffer 150 = .ok (.iaload, 1) := by decide +kernel
theorem dX7_readOffer_151 : decode cX7_readOffer 151 = .ok (.aload_n 0, 1) := by decide +kernel
theorem dX7_readOffer_152 : decode cX7_readOffer 152 = .ok (.getfield 31, 3) := by decide +kernel
theorem dX7_readOffer_155 : decode cX7_readOffer 155 = .ok (.bipush 6, 2) := by decide +kernel
theorem dX7_readOffer_157 : decode cX7_readOffer 157 = .ok (.iaload, 1) := by decide +kernel
theorem dX7_readOffer_158 : decode cX7_readOffer 158 = .ok (.invokevirtual 44, 3) := by decide +kernel
theorem dX7_readOffer_161 : decode cX7_readOffer 161 = .ok (.iconst 1, 1) := by decide +kernel
theorem dX7_readOffer_162 : decode cX7_readOffer 162 = .ok (.ireturn, 1) := by decide +kernel
theorem dX7_readHold_0 : decode cX7_readHold 0 = .ok (.aload_n 0, 1) := by decide +kernel
theorem dX7_readHold_1 : decode cX7_readHold 1 = .ok (.getfield 58, 3) := by decide +kernel
theorem dX7_readHold_4 : decode cX7_readHold 4 = .ok (.iconst 4, 1) := by decide +kernel
theorem dX7_readHold_5 : decode cX7_readHold 5 = .ok (.if_icmp .eq 61, 3) := by decide +kernel
theorem dX7_readHold_8 : decode cX7_readHold 8 = .ok (.aload_n 0, 1) := by decide +kernel
theorem dX7_readHold_9 : decode cX7_readHold 9 = .ok (.iconst 3, 1) := by decide +kernel
theorem dX7_readHold_10 : decode cX7_readHold 10 = .ok (.invokevirtual 90, 3) := by decide +kernel
theorem dX7_readHold_13 : decode cX7_readHold 13 = .ok (.ifCond .eq 53, 3) := by decide +kernel
theorem dX7_readHold_16 : decode cX7_readHold 16 = .ok (.aload_n 0, 1) := by decide +kernel
theorem dX7_readHold_17 : decode cX7_readHold 17 = .ok (.getfield 31, 3) := by decide +kernel
theorem dX7_readHold_20 : decode cX7_readHold 20 = .ok (.iconst 0, 1) := by decide +kernel
theorem dX7_readHold_21 : decode cX7_readHold 21 = .ok (.iaload, 1) := by decide +kernel
theorem dX7_readHold_22 : decode cX7_readHold 22 = .ok (.iconst 3, 1) := by decide +kernel
theorem dX7_readHold_23 : decode cX7_readHold 23 = .ok (.if_icmp .gt 43, 3) := by decide +kernel
theorem dX7_readHold_26 : decode cX7_readHold 26 = .ok (.aload_n 0, 1) := by decide +kernel
theorem dX7_readHold_27 : decode cX7_readHold 27 = .ok (.getfield 31, 3) := by decide +kernel
theorem dX7_readHold_30 : decode cX7_readHold 30 = .ok (.iconst 1, 1) := by decide +kernel
theorem dX7_readHold_31 : decode cX7_readHold 31 = .ok (.iaload, 1) := by decide +kernel
theorem dX7_readHold_32 : decode cX7_readHold 32 = .ok (.iconst 3, 1) := by decide +kernel
theorem dX7_readHold_33 : decode cX7_readHold 33 = .ok (.if_icmp .gt 33, 3) := by decide +kernel
theorem dX7_readHold_36 : decode cX7_readHold 36 = .ok (.aload_n 0, 1) := by decide +kernel
theorem dX7_readHold_37 : decode cX7_readHold 37 = .ok (.getfield 31, 3) := by decide +kernel
theorem dX7_readHold_40 : decode cX7_readHold 40 = .ok (.iconst 0, 1) := by decide +kernel
theorem dX7_readHold_41 : decode cX7_readHold 41 = .ok (.iaload, 1) := by decide +kernel
theorem dX7_readHold_42 : decode cX7_readHold 42 = .ok (.aload_n 0, 1) := by decide +kernel
theorem dX7_readHold_43 : decode cX7_readHold 43 = .ok (.getfield 31, 3) := by decide +kernel
theorem dX7_readHold_46 : decode cX7_readHold 46 = .ok (.iconst 1, 1) := by decide +kernel
theorem dX7_readHold_47 : decode cX7_readHold 47 = .ok (.iaload, 1) := by decide +kernel
theorem dX7_readHold_48 : decode cX7_readHold 48 = .ok (.if_icmp .eq 18, 3) := by decide +kernel
theorem dX7_readHold_51 : decode cX7_readHold 51 = .ok (.aload_n 0, 1) := by decide +kernel
theorem dX7_readHold_52 : decode cX7_readHold 52 = .ok (.getfield 31, 3) := by decide +kernel
theorem dX7_readHold_55 : decode cX7_readHold 55 = .ok (.iconst 2, 1) := by decide +kernel
theorem dX7_readHold_56 : decode cX7_readHold 56 = .ok (.iaload, 1) := by decide +kernel
theorem dX7_readHold_57 : decode cX7_readHold 57 = .ok (.iconst 1, 1) := by decide +kernel
theorem dX7_readHold_58 : decode cX7_readHold 58 = .ok (.bipush 51, 2) := by decide +kernel
theorem dX7_readHold_60 : decode cX7_readHold 60 = .ok (.invokestatic 82, 3) := by decide +kernel
theorem dX7_readHold_63 : decode cX7_readHold 63 = .ok (.ifCond .ne 5, 3) := by decide +kernel
theorem dX7_readHold_66 : decode cX7_readHold 66 = .ok (.iconst 0, 1) := by decide +kernel
theorem dX7_readHold_67 : decode cX7_readHold 67 = .ok (.ireturn, 1) := by decide +kernel
theorem dX7_readHold_68 : decode cX7_readHold 68 = .ok (.aload_n 0, 1) := by decide +kernel
theorem dX7_readHold_69 : decode cX7_readHold 69 = .ok (.aload_n 0, 1) := by decide +kernel
theorem dX7_readHold_70 : decode cX7_readHold 70 = .ok (.getfield 31, 3) := by decide +kernel
theorem dX7_readHold_73 : decode cX7_readHold 73 = .ok (.iconst 0, 1) := by decide +kernel
theorem dX7_readHold_74 : decode cX7_readHold 74 = .ok (.iaload, 1) := by decide +kernel
theorem dX7_readHold_75 : decode cX7_readHold 75 = .ok (.aload_n 0, 1) := by decide +kernel
theorem dX7_readHold_76 : decode cX7_readHold 76 = .ok (.getfield 31, 3) := by decide +kernel
theorem dX7_readHold_79 : decode cX7_readHold 79 = .ok (.iconst 1, 1) := by decide +kernel
theorem dX7_readHold_80 : decode cX7_readHold 80 = .ok (.iaload, 1) := by decide +kernel
theorem dX7_readHold_81 : decode cX7_readHold 81 = .ok (.aload_n 0, 1) := by decide +kernel
theorem dX7_readHold_82 : decode cX7_readHold 82 = .ok (.getfield 31, 3) := by decide +kernel
theorem dX7_readHold_85 : decode cX7_readHold 85 = .ok (.iconst 2, 1) := by decide +kernel
theorem dX7_readHold_86 : decode cX7_readHold 86 = .ok (.iaload, 1) := by decide +kernel
theorem dX7_readHold_87 : decode cX7_readHold 87 = .ok (.invokevirtual 48, 3) := by decide +kernel
theorem dX7_readHold_90 : decode cX7_readHold 90 = .ok (.iconst 1, 1) := by decide +kernel
theorem dX7_readHold_91 : decode cX7_readHold 91 = .ok (.ireturn, 1) := by decide +kernel
theorem dX7_readText_0 : decode cX7_readText 0 = .ok (.aload_n 0, 1) := by decide +kernel
theorem dX7_readText_1 : decode cX7_readText 1 = .ok (.invokevirtual 34, 3) := by decide +kernel
theorem dX7_readText_4 : decode cX7_readText 4 = .ok (.aload_n 0, 1) := by decide +kernel
theorem dX7_readText_5 : decode cX7_readText 5 = .ok (.iconst 0, 1) := by decide +kernel
theorem dX7_readText_6 : decode cX7_readText 6 = .ok (.putfield 76, 3) := by decide +kernel
theorem dX7_readText_9 : decode cX7_readText 9 = .ok (.aload_n 0, 1) := by decide +kernel
theorem dX7_readText_10 : decode cX7_readText 10 = .ok (.getfield 76, 3) := by decide +kernel
theorem dX7_readText_13 : decode cX7_readText 13 = .ok (.aload_n 0, 1) := by decide +kernel
theorem dX7_readText_14 : decode cX7_readText 14 = .ok (.getfield 79, 3) := by decide +kernel
theorem dX7_readText_17 : decode cX7_readText 17 = .ok (.if_icmp .ge 82, 3) := by decide +kernel
theorem dX7_readText_20 : decode cX7_readText 20 = .ok (.aload_n 0, 1) := by decide +kernel
theorem dX7_readText_21 : decode cX7_readText 21 = .ok (.getfield 76, 3) := by decide +kernel
theorem dX7_readText_24 : decode cX7_readText 24 = .ok (.istore_n 1, 1) := by decide +kernel
theorem dX7_readText_25 : decode cX7_readText 25 = .ok (.aload_n 0, 1) := by decide +kernel
theorem dX7_readText_26 : decode cX7_readText 26 = .ok (.getfield 7, 3) := by decide +kernel
theorem dX7_readText_29 : decode cX7_readText 29 = .ok (.aload_n 0, 1) := by decide +kernel
theorem dX7_readText_30 : decode cX7_readText 30 = .ok (.getfield 76, 3) := by decide +kernel
theorem dX7_readText_33 : decode cX7_readText 33 = .ok (.iaload, 1) := by decide +kernel
theorem dX7_readText_34 : decode cX7_readText 34 = .ok (.istore_n 2, 1) := by decide +kernel
theorem dX7_readText_35 : decode cX7_readText 35 = .ok (.aload_n 0, 1) := by decide +kernel
theorem dX7_readText_36 : decode cX7_readText 36 = .ok (.dup, 1) := by decide +kernel
theorem dX7_readText_37 : decode cX7_readText 37 = .ok (.getfield 76, 3) := by decide +kernel
theorem dX7_readText_40 : decode cX7_readText 40 = .ok (.iconst 1, 1) := by decide +kernel
theorem dX7_readText_41 : decode cX7_readText 41 = .ok (.iadd, 1) := by decide +kernel
theorem dX7_readText_42 : decode cX7_readText 42 = .ok (.putfield 76, 3) := by decide +kernel
theorem dX7_readText_45 : decode cX7_readText 45 = .ok (.iload_n 2, 1) := by decide +kernel
theorem dX7_readText_46 : decode cX7_readText 46 = .ok (.bipush 116, 2) := by decide +kernel
theorem dX7_readText_48 : decode cX7_readText 48 = .ok (.if_icmp .ne 10, 3) := by decide +kernel
theorem dX7_readText_51 : decode cX7_readText 51 = .ok (.aload_n 0, 1) := by decide +kernel
theorem dX7_readText_52 : decode cX7_readText 52 = .ok (.invokevirtual 94, 3) := by decide +kernel
theorem dX7_readText_55 : decode cX7_readText 55 = .ok (.goto 34, 3) := by decide +kernel
theorem dX7_readText_58 : decode cX7_readText 58 = .ok (.iload_n 2, 1) := by decide +kernel
theorem dX7_readText_59 : decode cX7_readText 59 = .ok (.bipush 111, 2) := by decide +kernel
theorem dX7_readText_61 : decode cX7_readText 61 = .ok (.if_icmp .ne 10, 3) := by decide +kernel
theorem dX7_readText_64 : decode cX7_readText 64 = .ok (.aload_n 0, 1) := by decide +kernel
theorem dX7_readText_65 : decode cX7_readText 65 = .ok (.invokevirtual 97, 3) := by decide +kernel
theorem dX7_readText_68 : decode cX7_readText 68 = .ok (.goto 21, 3) := by decide +kernel
theorem dX7_readText_71 : decode cX7_readText 71 = .ok (.iload_n 2, 1) := by decide +kernel
theorem dX7_readText_72 : decode cX7_readText 72 = .ok (.bipush 104, 2) := by decide +kernel
theorem dX7_readText_74 : decode cX7_readText 74 = .ok (.if_icmp .ne 14, 3) := by decide +kernel
theorem dX7_readText_77 : decode cX7_readText 77 = .ok (.aload_n 0, 1) := by decide +kernel
theorem dX7_readText_78 : decode cX7_readText 78 = .ok (.invokevirtual 100, 3) := by decide +kernel
theorem dX7_readText_81 : decode cX7_readText 81 = .ok (.ifCond .eq 7, 3) := by decide +kernel
theorem dX7_readText_84 : decode cX7_readText 84 = .ok (.iconst 1, 1) := by decide +kernel
theorem dX7_readText_85 : decode cX7_readText 85 = .ok (.goto 4, 3) := by decide +kernel
theorem dX7_readText_88 : decode cX7_readText 88 = .ok (.iconst 0, 1) := by decide +kernel
theorem dX7_readText_89 : decode cX7_readText 89 = .ok (.istore_n 3, 1) := by decide +kernel
theorem dX7_readText_90 : decode cX7_readText 90 = .ok (.iload_n 3, 1) := by decide +kernel
theorem dX7_readText_91 : decode cX7_readText 91 = .ok (.ifCond .ne 5, 3) := by decide +kernel
theorem dX7_readText_94 : decode cX7_readText 94 = .ok (.iload_n 1, 1) := by decide +kernel
theorem dX7_readText_95 : decode cX7_readText 95 = .ok (.ireturn, 1) := by decide +kernel
theorem dX7_readText_96 : decode cX7_readText 96 = .ok (.goto (-87), 3) := by decide +kernel
theorem dX7_readText_99 : decode cX7_readText 99 = .ok (.bipush (-4), 2) := by decide +kernel
theorem dX7_readText_101 : decode cX7_readText 101 = .ok (.ireturn, 1) := by decide +kernel
theorem dX7_write_0 : decode cX7_write 0 = .ok (.iload_n 1, 1) := by decide +kernel
theorem dX7_write_1 : decode cX7_write 1 = .ok (.bipush 32, 2) := by decide +kernel
theorem dX7_write_3 : decode cX7_write 3 = .ok (.bipush 126, 2) := by decide +kernel
theorem dX7_write_5 : decode cX7_write 5 = .ok (.invokestatic 82, 3) := by decide +kernel
theorem dX7_write_8 : decode cX7_write 8 = .ok (.ifCond .ne 5, 3) := by decide +kernel
theorem dX7_write_11 : decode cX7_write 11 = .ok (.iconst (-1), 1) := by decide +kernel
theorem dX7_write_12 : decode cX7_write 12 = .ok (.ireturn, 1) := by decide +kernel
theorem dX7_write_13 : decode cX7_write 13 = .ok (.aload_n 0, 1) := by decide +kernel
theorem dX7_write_14 : decode cX7_write 14 = .ok (.getfield 79, 3) := by decide +kernel
theorem dX7_write_17 : decode cX7_write 17 = .ok (.sipush 200, 3) := by decide +kernel
theorem dX7_write_20 : decode cX7_write 20 = .ok (.if_icmp .ne 6, 3) := by decide +kernel
theorem dX7_write_23 : decode cX7_write 23 = .ok (.bipush (-3), 2) := by decide +kernel
theorem dX7_write_25 : decode cX7_write 25 = .ok (.ireturn, 1) := by decide +kernel
theorem dX7_write_26 : decode cX7_write 26 = .ok (.aload_n 0, 1) := by decide +kernel
theorem dX7_write_27 : decode cX7_write 27 = .ok (.getfield 7, 3) := by decide +kernel
theorem dX7_write_30 : decode cX7_write 30 = .ok (.aload_n 0, 1) := by decide +kernel
theorem dX7_write_31 : decode cX7_write 31 = .ok (.getfield 79, 3) := by decide +kernel
theorem dX7_write_34 : decode cX7_write 34 = .ok (.iload_n 1, 1) := by decide +kernel
theorem dX7_write_35 : decode cX7_write 35 = .ok (.iastore, 1) := by decide +kernel
theorem dX7_write_36 : decode cX7_write 36 = .ok (.aload_n 0, 1) := by decide +kernel
theorem dX7_write_37 : decode cX7_write 37 = .ok (.dup, 1) := by decide +kernel
theorem dX7_write_38 : decode cX7_write 38 = .ok (.getfield 79, 3) := by decide +kernel
theorem dX7_write_41 : decode cX7_write 41 = .ok (.iconst 1, 1) := by decide +kernel
theorem dX7_write_42 : decode cX7_write 42 = .ok (.iadd, 1) := by decide +kernel
theorem dX7_write_43 : decode cX7_write 43 = .ok (.putfield 79, 3) := by decide +kernel
theorem dX7_write_46 : decode cX7_write 46 = .ok (.aload_n 0, 1) := by decide +kernel
theorem dX7_write_47 : decode cX7_write 47 = .ok (.getfield 79, 3) := by decide +kernel
theorem dX7_write_50 : decode cX7_write 50 = .ok (.ireturn, 1) := by decide +kernel
theorem dX7_wipe_0 : decode cX7_wipe 0 = .ok (.aload_n 0, 1) := by decide +kernel
theorem dX7_wipe_1 : decode cX7_wipe 1 = .ok (.getfield 79, 3) := by decide +kernel
theorem dX7_wipe_4 : decode cX7_wipe 4 = .ok (.istore_n 1, 1) := by decide +kernel
theorem dX7_wipe_5 : decode cX7_wipe 5 = .ok (.aload_n 0, 1) := by decide +kernel
theorem dX7_wipe_6 : decode cX7_wipe 6 = .ok (.iconst 0, 1) := by decide +kernel
theorem dX7_wipe_7 : decode cX7_wipe 7 = .ok (.putfield 79, 3) := by decide +kernel
theorem dX7_wipe_10 : decode cX7_wipe 10 = .ok (.iload_n 1, 1) := by decide +kernel
theorem dX7_wipe_11 : decode cX7_wipe 11 = .ok (.ireturn, 1) := by decide +kernel
theorem dX7_fault_0 : decode cX7_fault 0 = .ok (.aload_n 0, 1) := by decide +kernel
theorem dX7_fault_1 : decode cX7_fault 1 = .ok (.invokevirtual 103, 3) := by decide +kernel
theorem dX7_fault_4 : decode cX7_fault 4 = .ok (.ireturn, 1) := by decide +kernel
theorem dX7_lay_0 : decode cX7_lay 0 = .ok (.aload_n 0, 1) := by decide +kernel
theorem dX7_lay_1 : decode cX7_lay 1 = .ok (.invokevirtual 103, 3) := by decide +kernel
theorem dX7_lay_4 : decode cX7_lay 4 = .ok (.bipush (-4), 2) := by decide +kernel
theorem dX7_lay_6 : decode cX7_lay 6 = .ok (.if_icmp .ne 10, 3) := by decide +kernel
theorem dX7_lay_9 : decode cX7_lay 9 = .ok (.aload_n 0, 1) := by decide +kernel
theorem dX7_lay_10 : decode cX7_lay 10 = .ok (.getfield 55, 3) := by decide +kernel
theorem dX7_lay_13 : decode cX7_lay 13 = .ok (.ifCond .ne 6, 3) := by decide +kernel
theorem dX7_lay_16 : decode cX7_lay 16 = .ok (.bipush (-2), 2) := by decide +kernel
theorem dX7_lay_18 : decode cX7_lay 18 = .ok (.ireturn, 1) := by decide +kernel
theorem dX7_lay_19 : decode cX7_lay 19 = .ok (.aload_n 0, 1) := by decide +kernel
theorem dX7_lay_20 : decode cX7_lay 20 = .ok (.invokevirtual 52, 3) := by decide +kernel
theorem dX7_lay_23 : decode cX7_lay 23 = .ok (.aload_n 0, 1) := by decide +kernel
theorem dX7_lay_24 : decode cX7_lay 24 = .ok (.getfield 61, 3) := by decide +kernel
theorem dX7_lay_27 : decode cX7_lay 27 = .ok (.ireturn, 1) := by decide +kernel
theorem dX7_isOffer_0 : decode cX7_isOffer 0 = .ok (.iload_n 1, 1) := by decide +kernel
theorem dX7_isOffer_1 : decode cX7_isOffer 1 = .ok (.iconst 0, 1) := by decide +kernel
theorem dX7_isOffer_2 : decode cX7_isOffer 2 = .ok (.aload_n 0, 1) := by decide +kernel
theorem dX7_isOffer_3 : decode cX7_isOffer 3 = .ok (.getfield 61, 3) := by decide +kernel
theorem dX7_isOffer_6 : decode cX7_isOffer 6 = .ok (.iconst 1, 1) := by decide +kernel
theorem dX7_isOffer_7 : decode cX7_isOffer 7 = .ok (.isub, 1) := by decide +kernel
theorem dX7_isOffer_8 : decode cX7_isOffer 8 = .ok (.invokestatic 82, 3) := by decide +kernel
theorem dX7_isOffer_11 : decode cX7_isOffer 11 = .ok (.ireturn, 1) := by decide +kernel
theorem dX7_of_0 : decode cX7_of 0 = .ok (.aload_n 0, 1) := by decide +kernel
theorem dX7_of_1 : decode cX7_of 1 = .ok (.getfield 19, 3) := by decide +kernel
theorem dX7_of_4 : decode cX7_of 4 = .ok (.bipush 7, 2) := by decide +kernel
theorem dX7_of_6 : decode cX7_of 6 = .ok (.iload_n 1, 1) := by decide +kernel
theorem dX7_of_7 : decode cX7_of 7 = .ok (.imul, 1) := by decide +kernel
theorem dX7_of_8 : decode cX7_of 8 = .ok (.iload_n 2, 1) := by decide +kernel
theorem dX7_of_9 : decode cX7_of 9 = .ok (.iadd, 1) := by decide +kernel
theorem dX7_of_10 : decode cX7_of 10 = .ok (.iaload, 1) := by decide +kernel
theorem dX7_of_11 : decode cX7_of 11 = .ok (.istore_n 3, 1) := by decide +kernel
theorem dX7_of_12 : decode cX7_of 12 = .ok (.iload_n 2, 1) := by decide +kernel
theorem dX7_of_13 : decode cX7_of 13 = .ok (.iconst 3, 1) := by decide +kernel
theorem dX7_of_14 : decode cX7_of 14 = .ok (.if_icmp .eq 8, 3) := by decide +kernel
theorem dX7_of_17 : decode cX7_of 17 = .ok (.iload_n 2, 1) := by decide +kernel
theorem dX7_of_18 : decode cX7_of 18 = .ok (.iconst 4, 1) := by decide +kernel
theorem dX7_of_19 : decode cX7_of 19 = .ok (.if_icmp .ne 14, 3) := by decide +kernel
theorem dX7_of_22 : decode cX7_of 22 = .ok (.iload_n 3, 1) := by decide +kernel
theorem dX7_of_23 : decode cX7_of 23 = .ok (.aload_n 0, 1) := by decide +kernel
theorem dX7_of_24 : decode cX7_of 24 = .ok (.getfield 25, 3) := by decide +kernel
theorem dX7_of_27 : decode cX7_of 27 = .ok (.iload_n 1, 1) := by decide +kernel
theorem dX7_of_28 : decode cX7_of 28 = .ok (.iaload, 1) := by decide +kernel
theorem dX7_of_29 : decode cX7_of 29 = .ok (.iadd, 1) := by decide +kernel
theorem dX7_of_30 : decode cX7_of 30 = .ok (.goto 4, 3) := by decide +kernel
theorem dX7_of_33 : decode cX7_of 33 = .ok (.iload_n 3, 1) := by decide +kernel
theorem dX7_of_34 : decode cX7_of 34 = .ok (.ireturn, 1) := by decide +kernel
theorem dX7_isSigned_0 : decode cX7_isSigned 0 = .ok (.aload_n 0, 1) := by decide +kernel
theorem dX7_isSigned_1 : decode cX7_isSigned 1 = .ok (.getfield 25, 3) := by decide +kernel
theorem dX7_isSigned_4 : decode cX7_isSigned 4 = .ok (.bipush 10, 2) := by decide +kernel
theorem dX7_isSigned_6 : decode cX7_isSigned 6 = .ok (.iaload, 1) := by decide +kernel
theorem dX7_isSigned_7 : decode cX7_isSigned 7 = .ok (.iload_n 1, 1) := by decide +kernel
theorem dX7_isSigned_8 : decode cX7_isSigned 8 = .ok (.ishr, 1) := by decide +kernel
theorem dX7_isSigned_9 : decode cX7_isSigned 9 = .ok (.iconst 1, 1) := by decide +kernel
theorem dX7_isSigned_10 : decode cX7_isSigned 10 = .ok (.iand, 1) := by decide +kernel
theorem dX7_isSigned_11 : decode cX7_isSigned 11 = .ok (.iconst 1, 1) := by decide +kernel
theorem dX7_isSigned_12 : decode cX7_isSigned 12 = .ok (.if_icmp .ne 7, 3) := by decide +kernel
theorem dX7_isSigned_15 : decode cX7_isSigned 15 = .ok (.iconst 1, 1) := by decide +kernel
theorem dX7_isSigned_16 : decode cX7_isSigned 16 = .ok (.goto 4, 3) := by decide +kernel
theorem dX7_isSigned_19 : decode cX7_isSigned 19 = .ok (.iconst 0, 1) := by decide +kernel
theorem dX7_isSigned_20 : decode cX7_isSigned 20 = .ok (.ireturn, 1) := by decide +kernel
theorem dX7_ones_0 : decode cX7_ones 0 = .ok (.iconst 0, 1) := by decide +kernel
theorem dX7_ones_1 : decode cX7_ones 1 = .ok (.istore_n 1, 1) := by decide +kernel
theorem dX7_ones_2 : decode cX7_ones 2 = .ok (.iconst 0, 1) := by decide +kernel
theorem dX7_ones_3 : decode cX7_ones 3 = .ok (.istore_n 2, 1) := by decide +kernel
theorem dX7_ones_4 : decode cX7_ones 4 = .ok (.iload_n 2, 1) := by decide +kernel
theorem dX7_ones_5 : decode cX7_ones 5 = .ok (.bipush 10, 2) := by decide +kernel
theorem dX7_ones_7 : decode cX7_ones 7 = .ok (.if_icmp .ge 17, 3) := by decide +kernel
theorem dX7_ones_10 : decode cX7_ones 10 = .ok (.iload_n 1, 1) := by decide +kernel
theorem dX7_ones_11 : decode cX7_ones 11 = .ok (.iload_n 0, 1) := by decide +kernel
theorem dX7_ones_12 : decode cX7_ones 12 = .ok (.iload_n 2, 1) := by decide +kernel
theorem dX7_ones_13 : decode cX7_ones 13 = .ok (.ishr, 1) := by decide +kernel
theorem dX7_ones_14 : decode cX7_ones 14 = .ok (.iconst 1, 1) := by decide +kernel
theorem dX7_ones_15 : decode cX7_ones 15 = .ok (.iand, 1) := by decide +kernel
theorem dX7_ones_16 : decode cX7_ones 16 = .ok (.iadd, 1) := by decide +kernel
theorem dX7_ones_17 : decode cX7_ones 17 = .ok (.istore_n 1, 1) := by decide +kernel
theorem dX7_ones_18 : decode cX7_ones 18 = .ok (.iinc 2 1, 3) := by decide +kernel
theorem dX7_ones_21 : decode cX7_ones 21 = .ok (.goto (-17), 3) := by decide +kernel
theorem dX7_ones_24 : decode cX7_ones 24 = .ok (.iload_n 1, 1) := by decide +kernel
theorem dX7_ones_25 : decode cX7_ones 25 = .ok (.ireturn, 1) := by decide +kernel
theorem dX7_commonOf_0 : decode cX7_commonOf 0 = .ok (.aload_n 0, 1) := by decide +kernel
theorem dX7_commonOf_1 : decode cX7_commonOf 1 = .ok (.iload_n 1, 1) := by decide +kernel
theorem dX7_commonOf_2 : decode cX7_commonOf 2 = .ok (.iconst 3, 1) := by decide +kernel
theorem dX7_commonOf_3 : decode cX7_commonOf 3 = .ok (.invokevirtual 107, 3) := by decide +kernel
theorem dX7_commonOf_6 : decode cX7_commonOf 6 = .ok (.aload_n 0, 1) := by decide +kernel
theorem dX7_commonOf_7 : decode cX7_commonOf 7 = .ok (.iload_n 2, 1) := by decide +kernel
theorem dX7_commonOf_8 : decode cX7_commonOf 8 = .ok (.iconst 3, 1) := by decide +kernel
theorem dX7_commonOf_9 : decode cX7_commonOf 9 = .ok (.invokevirtual 107, 3) := by decide +kernel
theorem dX7_commonOf_12 : decode cX7_commonOf 12 = .ok (.if_icmp .le 12, 3) := by decide +kernel
theorem dX7_commonOf_15 : decode cX7_commonOf 15 = .ok (.aload_n 0, 1) := by decide +kernel
theorem dX7_commonOf_16 : decode cX7_commonOf 16 = .ok (.iload_n 1, 1) := by decide +kernel
theorem dX7_commonOf_17 : decode cX7_commonOf 17 = .ok (.iconst 3, 1) := by decide +kernel
theorem dX7_commonOf_18 : decode cX7_commonOf 18 = .ok (.invokevirtual 107, 3) := by decide +kernel
theorem dX7_commonOf_21 : decode cX7_commonOf 21 = .ok (.goto 9, 3) := by decide +kernel
theorem dX7_commonOf_24 : decode cX7_commonOf 24 = .ok (.aload_n 0, 1) := by decide +kernel
theorem dX7_commonOf_25 : decode cX7_commonOf 25 = .ok (.iload_n 2, 1) := by decide +kernel
theorem dX7_commonOf_26 : decode cX7_commonOf 26 = .ok (.iconst 3, 1) := by decide +kernel
theorem dX7_commonOf_27 : decode cX7_commonOf 27 = .ok (.invokevirtual 107, 3) := by decide +kernel
theorem dX7_commonOf_30 : decode cX7_commonOf 30 = .ok (.istore_n 3, 1) := by decide +kernel
theorem dX7_commonOf_31 : decode cX7_commonOf 31 = .ok (.aload_n 0, 1) := by decide +kernel
theorem dX7_commonOf_32 : decode cX7_commonOf 32 = .ok (.iload_n 1, 1) := by decide +kernel
theorem dX7_commonOf_33 : decode cX7_commonOf 33 = .ok (.iconst 4, 1) := by decide +kernel
theorem dX7_commonOf_34 : decode cX7_commonOf 34 = .ok (.invokevirtual 107, 3) := by decide +kernel
theorem dX7_commonOf_37 : decode cX7_commonOf 37 = .ok (.aload_n 0, 1) := by decide +kernel
theorem dX7_commonOf_38 : decode cX7_commonOf 38 = .ok (.iload_n 2, 1) := by decide +kernel
theorem dX7_commonOf_39 : decode cX7_commonOf 39 = .ok (.iconst 4, 1) := by decide +kernel
theorem dX7_commonOf_40 : decode cX7_commonOf 40 = .ok (.invokevirtual 107, 3) := by decide +kernel
theorem dX7_commonOf_43 : decode cX7_commonOf 43 = .ok (.if_icmp .ge 12, 3) := by decide +kernel
theorem dX7_commonOf_46 : decode cX7_commonOf 46 = .ok (.aload_n 0, 1) := by decide +kernel
theorem dX7_commonOf_47 : decode cX7_commonOf 47 = .ok (.iload_n 1, 1) := by decide +kernel
theorem dX7_commonOf_48 : decode cX7_commonOf 48 = .ok (.iconst 4, 1) := by decide +kernel
theorem dX7_commonOf_49 : decode cX7_commonOf 49 = .ok (.invokevirtual 107, 3) := by decide +kernel
theorem dX7_commonOf_52 : decode cX7_commonOf 52 = .ok (.goto 9, 3) := by decide +kernel
theorem dX7_commonOf_55 : decode cX7_commonOf 55 = .ok (.aload_n 0, 1) := by decide +kernel
theorem dX7_commonOf_56 : decode cX7_commonOf 56 = .ok (.iload_n 2, 1) := by decide +kernel
theorem dX7_commonOf_57 : decode cX7_commonOf 57 = .ok (.iconst 4, 1) := by decide +kernel
theorem dX7_commonOf_58 : decode cX7_commonOf 58 = .ok (.invokevirtual 107, 3) := by decide +kernel
theorem dX7_commonOf_61 : decode cX7_commonOf 61 = .ok (.istore 4, 2) := by decide +kernel
theorem dX7_commonOf_63 : decode cX7_commonOf 63 = .ok (.iload 4, 2) := by decide +kernel
theorem dX7_commonOf_65 : decode cX7_commonOf 65 = .ok (.iload_n 3, 1) := by decide +kernel
theorem dX7_commonOf_66 : decode cX7_commonOf 66 = .ok (.if_icmp .ge 7, 3) := by decide +kernel
theorem dX7_commonOf_69 : decode cX7_commonOf 69 = .ok (.iconst 0, 1) := by decide +kernel
theorem dX7_commonOf_70 : decode cX7_commonOf 70 = .ok (.goto 9, 3) := by decide +kernel
theorem dX7_commonOf_73 : decode cX7_commonOf 73 = .ok (.iload 4, 2) := by decide +kernel
theorem dX7_commonOf_75 : decode cX7_commonOf 75 = .ok (.iload_n 3, 1) := by decide +kernel
theorem dX7_commonOf_76 : decode cX7_commonOf 76 = .ok (.isub, 1) := by decide +kernel
theorem dX7_commonOf_77 : decode cX7_commonOf 77 = .ok (.iconst 1, 1) := by decide +kernel
theorem dX7_commonOf_78 : decode cX7_commonOf 78 = .ok (.iadd, 1) := by decide +kernel
theorem dX7_commonOf_79 : decode cX7_commonOf 79 = .ok (.istore 5, 2) := by decide +kernel
theorem dX7_commonOf_81 : decode cX7_commonOf 81 = .ok (.aload_n 0, 1) := by decide +kernel
theorem dX7_commonOf_82 : decode cX7_commonOf 82 = .ok (.iload_n 1, 1) := by decide +kernel
theorem dX7_commonOf_83 : decode cX7_commonOf 83 = .ok (.iconst 0, 1) := by decide +kernel
theorem dX7_commonOf_84 : decode cX7_commonOf 84 = .ok (.invokevirtual 107, 3) := by decide +kernel
theorem dX7_commonOf_87 : decode cX7_commonOf 87 = .ok (.aload_n 0, 1) := by decide +kernel
theorem dX7_commonOf_88 : decode cX7_commonOf 88 = .ok (.iload_n 2, 1) := by decide +kernel
theorem dX7_commonOf_89 : decode cX7_commonOf 89 = .ok (.iconst 0, 1) := by decide +kernel
theorem dX7_commonOf_90 : decode cX7_commonOf 90 = .ok (.invokevirtual 107, 3) := by decide +kernel
theorem dX7_commonOf_93 : decode cX7_commonOf 93 = .ok (.iand, 1) := by decide +kernel
theorem dX7_commonOf_94 : decode cX7_commonOf 94 = .ok (.invokestatic 111, 3) := by decide +kernel
theorem dX7_commonOf_97 : decode cX7_commonOf 97 = .ok (.aload_n 0, 1) := by decide +kernel
theorem dX7_commonOf_98 : decode cX7_commonOf 98 = .ok (.iload_n 1, 1) := by decide +kernel
theorem dX7_commonOf_99 : decode cX7_commonOf 99 = .ok (.iconst 1, 1) := by decide +kernel
theorem dX7_commonOf_100 : decode cX7_commonOf 100 = .ok (.invokevirtual 107, 3) := by decide +kernel
theorem dX7_commonOf_103 : decode cX7_commonOf 103 = .ok (.aload_n 0, 1) := by decide +kernel
theorem dX7_commonOf_104 : decode cX7_commonOf 104 = .ok (.iload_n 2, 1) := by decide +kernel
theorem dX7_commonOf_105 : decode cX7_commonOf 105 = .ok (.iconst 1, 1) := by decide +kernel
theorem dX7_commonOf_106 : decode cX7_commonOf 106 = .ok (.invokevirtual 107, 3) := by decide +kernel
theorem dX7_commonOf_109 : decode cX7_commonOf 109 = .ok (.iand, 1) := by decide +kernel
theorem dX7_commonOf_110 : decode cX7_commonOf 110 = .ok (.invokestatic 111, 3) := by decide +kernel
theorem dX7_commonOf_113 : decode cX7_commonOf 113 = .ok (.imul, 1) := by decide +kernel
theorem dX7_commonOf_114 : decode cX7_commonOf 114 = .ok (.aload_n 0, 1) := by decide +kernel
theorem dX7_commonOf_115 : decode cX7_commonOf 115 = .ok (.iload_n 1, 1) := by decide +kernel
theorem dX7_commonOf_116 : decode cX7_commonOf 116 = .ok (.iconst 2, 1) := by decide +kernel
theorem dX7_commonOf_117 : decode cX7_commonOf 117 = .ok (.invokevirtual 107, 3) := by decide +kernel
theorem dX7_commonOf_120 : decode cX7_commonOf 120 = .ok (.aload_n 0, 1) := by decide +kernel
theorem dX7_commonOf_121 : decode cX7_commonOf 121 = .ok (.iload_n 2, 1) := by decide +kernel
theorem dX7_commonOf_122 : decode cX7_commonOf 122 = .ok (.iconst 2, 1) := by decide +kernel
theorem dX7_commonOf_123 : decode cX7_commonOf 123 = .ok (.invokevirtual 107, 3) := by decide +kernel
theorem dX7_commonOf_126 : decode cX7_commonOf 126 = .ok (.iand, 1) := by decide +kernel
theorem dX7_commonOf_127 : decode cX7_commonOf 127 = .ok (.invokestatic 111, 3) := by decide +kernel
theorem dX7_commonOf_130 : decode cX7_commonOf 130 = .ok (.imul, 1) := by decide +kernel
theorem dX7_commonOf_131 : decode cX7_commonOf 131 = .ok (.iload 5, 2) := by decide +kernel
theorem dX7_commonOf_133 : decode cX7_commonOf 133 = .ok (.imul, 1) := by decide +kernel
theorem dX7_commonOf_134 : decode cX7_commonOf 134 = .ok (.ireturn, 1) := by decide +kernel
theorem dX7_doClash_0 : decode cX7_doClash 0 = .ok (.iload_n 1, 1) := by decide +kernel
theorem dX7_doClash_1 : decode cX7_doClash 1 = .ok (.iload_n 2, 1) := by decide +kernel
theorem dX7_doClash_2 : decode cX7_doClash 2 = .ok (.if_icmp .eq 36, 3) := by decide +kernel
theorem dX7_doClash_5 : decode cX7_doClash 5 = .ok (.aload_n 0, 1) := by decide +kernel
theorem dX7_doClash_6 : decode cX7_doClash 6 = .ok (.iload_n 1, 1) := by decide +kernel
theorem dX7_doClash_7 : decode cX7_doClash 7 = .ok (.iconst 5, 1) := by decide +kernel
theorem dX7_doClash_8 : decode cX7_doClash 8 = .ok (.invokevirtual 107, 3) := by decide +kernel
theorem dX7_doClash_11 : decode cX7_doClash 11 = .ok (.iconst 1, 1) := by decide +kernel
theorem dX7_doClash_12 : decode cX7_doClash 12 = .ok (.if_icmp .eq 13, 3) := by decide +kernel
theorem dX7_doClash_15 : decode cX7_doClash 15 = .ok (.aload_n 0, 1) := by decide +kernel
theorem dX7_doClash_16 : decode cX7_doClash 16 = .ok (.iload_n 2, 1) := by decide +kernel
theorem dX7_doClash_17 : decode cX7_doClash 17 = .ok (.iconst 5, 1) := by decide +kernel
theorem dX7_doClash_18 : decode cX7_doClash 18 = .ok (.invokevirtual 107, 3) := by decide +kernel
theorem dX7_doClash_21 : decode cX7_doClash 21 = .ok (.iconst 1, 1) := by decide +kernel
theorem dX7_doClash_22 : decode cX7_doClash 22 = .ok (.if_icmp .ne 16, 3) := by decide +kernel
theorem dX7_doClash_25 : decode cX7_doClash 25 = .ok (.aload_n 0, 1) := by decide +kernel
theorem dX7_doClash_26 : decode cX7_doClash 26 = .ok (.iload_n 1, 1) := by decide +kernel
theorem dX7_doClash_27 : decode cX7_doClash 27 = .ok (.iload_n 2, 1) := by decide +kernel
theorem dX7_doClash_28 : decode cX7_doClash 28 = .ok (.invokevirtual 115, 3) := by decide +kernel
theorem dX7_doClash_31 : decode cX7_doClash 31 = .ok (.ifCond .le 7, 3) := by decide +kernel
theorem dX7_doClash_34 : decode cX7_doClash 34 = .ok (.iconst 1, 1) := by decide +kernel
theorem dX7_doClash_35 : decode cX7_doClash 35 = .ok (.goto 4, 3) := by decide +kernel
theorem dX7_doClash_38 : decode cX7_doClash 38 = .ok (.iconst 0, 1) := by decide +kernel
theorem dX7_doClash_39 : decode cX7_doClash 39 = .ok (.ireturn, 1) := by decide +kernel
theorem dX7_isOfTerm_0 : decode cX7_isOfTerm 0 = .ok (.aload_n 0, 1) := by decide +kernel
theorem dX7_isOfTerm_1 : decode cX7_isOfTerm 1 = .ok (.iload_n 1, 1) := by decide +kernel
theorem dX7_isOfTerm_2 : decode cX7_isOfTerm 2 = .ok (.iconst 3, 1) := by decide +kernel
theorem dX7_isOfTerm_3 : decode cX7_isOfTerm 3 = .ok (.invokevirtual 107, 3) := by decide +kernel
theorem dX7_isOfTerm_6 : decode cX7_isOfTerm 6 = .ok (.aload_n 0, 1) := by decide +kernel
theorem dX7_isOfTerm_7 : decode cX7_isOfTerm 7 = .ok (.getfield 67, 3) := by decide +kernel
theorem dX7_isOfTerm_10 : decode cX7_isOfTerm 10 = .ok (.if_icmp .lt 20, 3) := by decide +kernel
theorem dX7_isOfTerm_13 : decode cX7_isOfTerm 13 = .ok (.aload_n 0, 1) := by decide +kernel
theorem dX7_isOfTerm_14 : decode cX7_isOfTerm 14 = .ok (.iload_n 1, 1) := by decide +kernel
theorem dX7_isOfTerm_15 : decode cX7_isOfTerm 15 = .ok (.iconst 4, 1) := by decide +kernel
theorem dX7_isOfTerm_16 : decode cX7_isOfTerm 16 = .ok (.invokevirtual 107, 3) := by decide +kernel
theorem dX7_isOfTerm_19 : decode cX7_isOfTerm 19 = .ok (.aload_n 0, 1) := by decide +kernel
theorem dX7_isOfTerm_20 : decode cX7_isOfTerm 20 = .ok (.getfield 70, 3) := by decide +kernel
theorem dX7_isOfTerm_23 : decode cX7_isOfTerm 23 = .ok (.if_icmp .gt 7, 3) := by decide +kernel
theorem dX7_isOfTerm_26 : decode cX7_isOfTerm 26 = .ok (.iconst 1, 1) := by decide +kernel
theorem dX7_isOfTerm_27 : decode cX7_isOfTerm 27 = .ok (.goto 4, 3) := by decide +kernel
theorem dX7_isOfTerm_30 : decode cX7_isOfTerm 30 = .ok (.iconst 0, 1) := by decide +kernel
theorem dX7_isOfTerm_31 : decode cX7_isOfTerm 31 = .ok (.ireturn, 1) := by decide +kernel
theorem dX7_beginOf_0 : decode cX7_beginOf 0 = .ok (.bipush (-4), 2) := by decide +kernel
theorem dX7_beginOf_2 : decode cX7_beginOf 2 = .ok (.istore 4, 2) := by decide +kernel
theorem dX7_beginOf_4 : decode cX7_beginOf 4 = .ok (.iconst 0, 1) := by decide +kernel
theorem dX7_beginOf_5 : decode cX7_beginOf 5 = .ok (.istore 5, 2) := by decide +kernel
theorem dX7_beginOf_7 : decode cX7_beginOf 7 = .ok (.iload 5, 2) := by decide +kernel
theorem dX7_beginOf_9 : decode cX7_beginOf 9 = .ok (.aload_n 0, 1) := by decide +kernel
theorem dX7_beginOf_10 : decode cX7_beginOf 10 = .ok (.getfield 61, 3) := by decide +kernel
theorem dX7_beginOf_13 : decode cX7_beginOf 13 = .ok (.if_icmp .ge 94, 3) := by decide +kernel
theorem dX7_beginOf_16 : decode cX7_beginOf 16 = .ok (.iload_n 1, 1) := by decide +kernel
theorem dX7_beginOf_17 : decode cX7_beginOf 17 = .ok (.iload 5, 2) := by decide +kernel
theorem dX7_beginOf_19 : decode cX7_beginOf 19 = .ok (.ishr, 1) := by decide +kernel
theorem dX7_beginOf_20 : decode cX7_beginOf 20 = .ok (.iconst 1, 1) := by decide +kernel
theorem dX7_beginOf_21 : decode cX7_beginOf 21 = .ok (.iand, 1) := by decide +kernel
theorem dX7_beginOf_22 : decode cX7_beginOf 22 = .ok (.iconst 1, 1) := by decide +kernel
theorem dX7_beginOf_23 : decode cX7_beginOf 23 = .ok (.if_icmp .ne 37, 3) := by decide +kernel
theorem dX7_beginOf_26 : decode cX7_beginOf 26 = .ok (.aload_n 0, 1) := by decide +kernel
theorem dX7_beginOf_27 : decode cX7_beginOf 27 = .ok (.iload 5, 2) := by decide +kernel
theorem dX7_beginOf_29 : decode cX7_beginOf 29 = .ok (.iconst 0, 1) := by decide +kernel
theorem dX7_beginOf_30 : decode cX7_beginOf 30 = .ok (.invokevirtual 107, 3) := by decide +kernel
theorem dX7_beginOf_33 : decode cX7_beginOf 33 = .ok (.iload_n 2, 1) := by decide +kernel
theorem dX7_beginOf_34 : decode cX7_beginOf 34 = .ok (.ishr, 1) := by decide +kernel
theorem dX7_beginOf_35 : decode cX7_beginOf 35 = .ok (.iconst 1, 1) := by decide +kernel
theorem dX7_beginOf_36 : decode cX7_beginOf 36 = .ok (.iand, 1) := by decide +kernel
theorem dX7_beginOf_37 : decode cX7_beginOf 37 = .ok (.iconst 1, 1) := by decide +kernel
theorem dX7_beginOf_38 : decode cX7_beginOf 38 = .ok (.if_icmp .ne 22, 3) := by decide +kernel
theorem dX7_beginOf_41 : decode cX7_beginOf 41 = .ok (.aload_n 0, 1) := by decide +kernel
theorem dX7_beginOf_42 : decode cX7_beginOf 42 = .ok (.iload 5, 2) := by decide +kernel
theorem dX7_beginOf_44 : decode cX7_beginOf 44 = .ok (.iconst 2, 1) := by decide +kernel
theorem dX7_beginOf_45 : decode cX7_beginOf 45 = .ok (.invokevirtual 107, 3) := by decide +kernel
theorem dX7_beginOf_48 : decode cX7_beginOf 48 = .ok (.iload_n 3, 1) := by decide +kernel
theorem dX7_beginOf_49 : decode cX7_beginOf 49 = .ok (.ishr, 1) := by decide +kernel
theorem dX7_beginOf_50 : decode cX7_beginOf 50 = .ok (.iconst 1, 1) := by decide +kernel
theorem dX7_beginOf_51 : decode cX7_beginOf 51 = .ok (.iand, 1) := by decide +kernel
theorem dX7_beginOf_52 : decode cX7_beginOf 52 = .ok (.iconst 1, 1) := by decide +kernel
theorem dX7_beginOf_53 : decode cX7_beginOf 53 = .ok (.if_icmp .ne 7, 3) := by decide +kernel
theorem dX7_beginOf_56 : decode cX7_beginOf 56 = .ok (.iconst 1, 1) := by decide +kernel
theorem dX7_beginOf_57 : decode cX7_beginOf 57 = .ok (.goto 4, 3) := by decide +kernel
theorem dX7_beginOf_60 : decode cX7_beginOf 60 = .ok (.iconst 0, 1) := by decide +kernel
theorem dX7_beginOf_61 : decode cX7_beginOf 61 = .ok (.istore 6, 2) := by decide +kernel
theorem dX7_beginOf_63 : decode cX7_beginOf 63 = .ok (.iload 6, 2) := by decide +kernel
theorem dX7_beginOf_65 : decode cX7_beginOf 65 = .ok (.ifCond .eq 32, 3) := by decide +kernel
theorem dX7_beginOf_68 : decode cX7_beginOf 68 = .ok (.iload 4, 2) := by decide +kernel
theorem dX7_beginOf_70 : decode cX7_beginOf 70 = .ok (.bipush (-4), 2) := by decide +kernel
theorem dX7_beginOf_72 : decode cX7_beginOf 72 = .ok (.if_icmp .eq 15, 3) := by decide +kernel
theorem dX7_beginOf_75 : decode cX7_beginOf 75 = .ok (.aload_n 0, 1) := by decide +kernel
theorem dX7_beginOf_76 : decode cX7_beginOf 76 = .ok (.iload 5, 2) := by decide +kernel
theorem dX7_beginOf_78 : decode cX7_beginOf 78 = .ok (.iconst 3, 1) := by decide +kernel
theorem dX7_beginOf_79 : decode cX7_beginOf 79 = .ok (.invokevirtual 107, 3) := by decide +kernel
theorem dX7_beginOf_82 : decode cX7_beginOf 82 = .ok (.iload 4, 2) := by decide +kernel
theorem dX7_beginOf_84 : decode cX7_beginOf 84 = .ok (.if_icmp .ge 13, 3) := by decide +kernel
theorem dX7_beginOf_87 : decode cX7_beginOf 87 = .ok (.aload_n 0, 1) := by decide +kernel
theorem dX7_beginOf_88 : decode cX7_beginOf 88 = .ok (.iload 5, 2) := by decide +kernel
theorem dX7_beginOf_90 : decode cX7_beginOf 90 = .ok (.iconst 3, 1) := by decide +kernel
theorem dX7_beginOf_91 : decode cX7_beginOf 91 = .ok (.invokevirtual 107, 3) := by decide +kernel
theorem dX7_beginOf_94 : decode cX7_beginOf 94 = .ok (.goto 5, 3) := by decide +kernel
theorem dX7_beginOf_97 : decode cX7_beginOf 97 = .ok (.iload 4, 2) := by decide +kernel
theorem dX7_beginOf_99 : decode cX7_beginOf 99 = .ok (.istore 4, 2) := by decide +kernel
theorem dX7_beginOf_101 : decode cX7_beginOf 101 = .ok (.iinc 5 1, 3) := by decide +kernel
theorem dX7_beginOf_104 : decode cX7_beginOf 104 = .ok (.goto (-97), 3) := by decide +kernel
theorem dX7_beginOf_107 : decode cX7_beginOf 107 = .ok (.iload 4, 2) := by decide +kernel
theorem dX7_beginOf_109 : decode cX7_beginOf 109 = .ok (.ireturn, 1) := by decide +kernel
theorem dX7_brokenBy_0 : decode cX7_brokenBy 0 = .ok (.iconst 0, 1) := by decide +kernel
theorem dX7_brokenBy_1 : decode cX7_brokenBy 1 = .ok (.istore_n 3, 1) := by decide +kernel
theorem dX7_brokenBy_2 : decode cX7_brokenBy 2 = .ok (.iconst 0, 1) := by decide +kernel
theorem dX7_brokenBy_3 : decode cX7_brokenBy 3 = .ok (.istore 4, 2) := by decide +kernel
theorem dX7_brokenBy_5 : decode cX7_brokenBy 5 = .ok (.iload 4, 2) := by decide +kernel
theorem dX7_brokenBy_7 : decode cX7_brokenBy 7 = .ok (.bipush 6, 2) := by decide +kernel
theorem dX7_brokenBy_9 : decode cX7_brokenBy 9 = .ok (.if_icmp .ge 88, 3) := by decide +kernel
theorem dX7_brokenBy_12 : decode cX7_brokenBy 12 = .ok (.aload_n 0, 1) := by decide +kernel
theorem dX7_brokenBy_13 : decode cX7_brokenBy 13 = .ok (.iload_n 1, 1) := by decide +kernel
theorem dX7_brokenBy_14 : decode cX7_brokenBy 14 = .ok (.iload 4, 2) := by decide +kernel
theorem dX7_brokenBy_16 : decode cX7_brokenBy 16 = .ok (.aload_n 0, 1) := by decide +kernel
theorem dX7_brokenBy_17 : decode cX7_brokenBy 17 = .ok (.getfield 22, 3) := by decide +kernel
theorem dX7_brokenBy_20 : decode cX7_brokenBy 20 = .ok (.iconst 3, 1) := by decide +kernel
theorem dX7_brokenBy_21 : decode cX7_brokenBy 21 = .ok (.iload_n 2, 1) := by decide +kernel
theorem dX7_brokenBy_22 : decode cX7_brokenBy 22 = .ok (.imul, 1) := by decide +kernel
theorem dX7_brokenBy_23 : decode cX7_brokenBy 23 = .ok (.iaload, 1) := by decide +kernel
theorem dX7_brokenBy_24 : decode cX7_brokenBy 24 = .ok (.invokevirtual 118, 3) := by decide +kernel
theorem dX7_brokenBy_27 : decode cX7_brokenBy 27 = .ok (.istore 5, 2) := by decide +kernel
theorem dX7_brokenBy_29 : decode cX7_brokenBy 29 = .ok (.aload_n 0, 1) := by decide +kernel
theorem dX7_brokenBy_30 : decode cX7_brokenBy 30 = .ok (.iload_n 1, 1) := by decide +kernel
theorem dX7_brokenBy_31 : decode cX7_brokenBy 31 = .ok (.iload 4, 2) := by decide +kernel
theorem dX7_brokenBy_33 : decode cX7_brokenBy 33 = .ok (.aload_n 0, 1) := by decide +kernel
theorem dX7_brokenBy_34 : decode cX7_brokenBy 34 = .ok (.getfield 22, 3) := by decide +kernel
theorem dX7_brokenBy_37 : decode cX7_brokenBy 37 = .ok (.iconst 3, 1) := by decide +kernel
theorem dX7_brokenBy_38 : decode cX7_brokenBy 38 = .ok (.iload_n 2, 1) := by decide +kernel
theorem dX7_brokenBy_39 : decode cX7_brokenBy 39 = .ok (.imul, 1) := by decide +kernel
theorem dX7_brokenBy_40 : decode cX7_brokenBy 40 = .ok (.iconst 1, 1) := by decide +kernel
theorem dX7_brokenBy_41 : decode cX7_brokenBy 41 = .ok (.iadd, 1) := by decide +kernel
theorem dX7_brokenBy_42 : decode cX7_brokenBy 42 = .ok (.iaload, 1) := by decide +kernel
theorem dX7_brokenBy_43 : decode cX7_brokenBy 43 = .ok (.invokevirtual 118, 3) := by decide +kernel
theorem dX7_brokenBy_46 : decode cX7_brokenBy 46 = .ok (.istore 6, 2) := by decide +kernel
theorem dX7_brokenBy_48 : decode cX7_brokenBy 48 = .ok (.iload_n 3, 1) := by decide +kernel
theorem dX7_brokenBy_49 : decode cX7_brokenBy 49 = .ok (.iload 5, 2) := by decide +kernel
theorem dX7_brokenBy_51 : decode cX7_brokenBy 51 = .ok (.bipush (-4), 2) := by decide +kernel
theorem dX7_brokenBy_53 : decode cX7_brokenBy 53 = .ok (.if_icmp .eq 35, 3) := by decide +kernel
theorem dX7_brokenBy_56 : decode cX7_brokenBy 56 = .ok (.iload 6, 2) := by decide +kernel
theorem dX7_brokenBy_58 : decode cX7_brokenBy 58 = .ok (.bipush (-4), 2) := by decide +kernel
theorem dX7_brokenBy_60 : decode cX7_brokenBy 60 = .ok (.if_icmp .eq 28, 3) := by decide +kernel
theorem dX7_brokenBy_63 : decode cX7_brokenBy 63 = .ok (.iload 5, 2) := by decide +kernel
theorem dX7_brokenBy_65 : decode cX7_brokenBy 65 = .ok (.iload 6, 2) := by decide +kernel
theorem dX7_brokenBy_67 : decode cX7_brokenBy 67 = .ok (.aload_n 0, 1) := by decide +kernel
theorem dX7_brokenBy_68 : decode cX7_brokenBy 68 = .ok (.getfield 22, 3) := by decide +kernel
theorem dX7_brokenBy_71 : decode cX7_brokenBy 71 = .ok (.iconst 3, 1) := by decide +kernel
theorem dX7_brokenBy_72 : decode cX7_brokenBy 72 = .ok (.iload_n 2, 1) := by decide +kernel
theorem dX7_brokenBy_73 : decode cX7_brokenBy 73 = .ok (.imul, 1) := by decide +kernel
theorem dX7_brokenBy_74 : decode cX7_brokenBy 74 = .ok (.iconst 2, 1) := by decide +kernel
theorem dX7_brokenBy_75 : decode cX7_brokenBy 75 = .ok (.iadd, 1) := by decide +kernel
theorem dX7_brokenBy_76 : decode cX7_brokenBy 76 = .ok (.iaload, 1) := by decide +kernel
theorem dX7_brokenBy_77 : decode cX7_brokenBy 77 = .ok (.iadd, 1) := by decide +kernel
theorem dX7_brokenBy_78 : decode cX7_brokenBy 78 = .ok (.if_icmp .ge 10, 3) := by decide +kernel
theorem dX7_brokenBy_81 : decode cX7_brokenBy 81 = .ok (.iconst 1, 1) := by decide +kernel
theorem dX7_brokenBy_82 : decode cX7_brokenBy 82 = .ok (.iload 4, 2) := by decide +kernel
theorem dX7_brokenBy_84 : decode cX7_brokenBy 84 = .ok (.ishl, 1) := by decide +kernel
theorem dX7_brokenBy_85 : decode cX7_brokenBy 85 = .ok (.goto 4, 3) := by decide +kernel
theorem dX7_brokenBy_88 : decode cX7_brokenBy 88 = .ok (.iconst 0, 1) := by decide +kernel
theorem dX7_brokenBy_89 : decode cX7_brokenBy 89 = .ok (.ior, 1) := by decide +kernel
theorem dX7_brokenBy_90 : decode cX7_brokenBy 90 = .ok (.istore_n 3, 1) := by decide +kernel
theorem dX7_brokenBy_91 : decode cX7_brokenBy 91 = .ok (.iinc 4 1, 3) := by decide +kernel
theorem dX7_brokenBy_94 : decode cX7_brokenBy 94 = .ok (.goto (-89), 3) := by decide +kernel
theorem dX7_brokenBy_97 : decode cX7_brokenBy 97 = .ok (.iload_n 3, 1) := by decide +kernel
theorem dX7_brokenBy_98 : decode cX7_brokenBy 98 = .ok (.ireturn, 1) := by decide +kernel
theorem dX7_areKept_0 : decode cX7_areKept 0 = .ok (.iconst 1, 1) := by decide +kernel
theorem dX7_areKept_1 : decode cX7_areKept 1 = .ok (.istore_n 2, 1) := by decide +kernel
theorem dX7_areKept_2 : decode cX7_areKept 2 = .ok (.iconst 0, 1) := by decide +kernel
theorem dX7_areKept_3 : decode cX7_areKept 3 = .ok (.istore_n 3, 1) := by decide +kernel
theorem dX7_areKept_4 : decode cX7_areKept 4 = .ok (.iload_n 3, 1) := by decide +kernel
theorem dX7_areKept_5 : decode cX7_areKept 5 = .ok (.aload_n 0, 1) := by decide +kernel
theorem dX7_areKept_6 : decode cX7_areKept 6 = .ok (.getfield 64, 3) := by decide +kernel
theorem dX7_areKept_9 : decode cX7_areKept 9 = .ok (.if_icmp .ge 28, 3) := by decide +kernel
theorem dX7_areKept_12 : decode cX7_areKept 12 = .ok (.iload_n 2, 1) := by decide +kernel
theorem dX7_areKept_13 : decode cX7_areKept 13 = .ok (.ifCond .eq 24, 3) := by decide +kernel
theorem dX7_areKept_16 : decode cX7_areKept 16 = .ok (.aload_n 0, 1) := by decide +kernel
theorem dX7_areKept_17 : decode cX7_areKept 17 = .ok (.iload_n 1, 1) := by decide +kernel
theorem dX7_areKept_18 : decode cX7_areKept 18 = .ok (.iload_n 3, 1) := by decide +kernel
theorem dX7_areKept_19 : decode cX7_areKept 19 = .ok (.invokevirtual 122, 3) := by decide +kernel
theorem dX7_areKept_22 : decode cX7_areKept 22 = .ok (.ifCond .ne 7, 3) := by decide +kernel
theorem dX7_areKept_25 : decode cX7_areKept 25 = .ok (.iconst 1, 1) := by decide +kernel
theorem dX7_areKept_26 : decode cX7_areKept 26 = .ok (.goto 4, 3) := by decide +kernel
theorem dX7_areKept_29 : decode cX7_areKept 29 = .ok (.iconst 0, 1) := by decide +kernel
theorem dX7_areKept_30 : decode cX7_areKept 30 = .ok (.istore_n 2, 1) := by decide +kernel
theorem dX7_areKept_31 : decode cX7_areKept 31 = .ok (.iinc 3 1, 3) := by decide +kernel
theorem dX7_areKept_34 : decode cX7_areKept 34 = .ok (.goto (-30), 3) := by decide +kernel
theorem dX7_areKept_37 : decode cX7_areKept 37 = .ok (.iload_n 2, 1) := by decide +kernel
theorem dX7_areKept_38 : decode cX7_areKept 38 = .ok (.ireturn, 1) := by decide +kernel
theorem dX7_clashOf_0 : decode cX7_clashOf 0 = .ok (.bipush (-4), 2) := by decide +kernel
theorem dX7_clashOf_2 : decode cX7_clashOf 2 = .ok (.istore_n 2, 1) := by decide +kernel
theorem dX7_clashOf_3 : decode cX7_clashOf 3 = .ok (.aload_n 0, 1) := by decide +kernel
theorem dX7_clashOf_4 : decode cX7_clashOf 4 = .ok (.getfield 61, 3) := by decide +kernel
theorem dX7_clashOf_7 : decode cX7_clashOf 7 = .ok (.iconst 1, 1) := by decide +kernel
theorem dX7_clashOf_8 : decode cX7_clashOf 8 = .ok (.isub, 1) := by decide +kernel
theorem dX7_clashOf_9 : decode cX7_clashOf 9 = .ok (.istore_n 3, 1) := by decide +kernel
theorem dX7_clashOf_10 : decode cX7_clashOf 10 = .ok (.iload_n 3, 1) := by decide +kernel
theorem dX7_clashOf_11 : decode cX7_clashOf 11 = .ok (.ifCond .lt 32, 3) := by decide +kernel
theorem dX7_clashOf_14 : decode cX7_clashOf 14 = .ok (.aload_n 0, 1) := by decide +kernel
theorem dX7_clashOf_15 : decode cX7_clashOf 15 = .ok (.iload_n 3, 1) := by decide +kernel
theorem dX7_clashOf_16 : decode cX7_clashOf 16 = .ok (.invokevirtual 125, 3) := by decide +kernel
theorem dX7_clashOf_19 : decode cX7_clashOf 19 = .ok (.ifCond .eq 16, 3) := by decide +kernel
theorem dX7_clashOf_22 : decode cX7_clashOf 22 = .ok (.aload_n 0, 1) := by decide +kernel
theorem dX7_clashOf_23 : decode cX7_clashOf 23 = .ok (.iload_n 1, 1) := by decide +kernel
theorem dX7_clashOf_24 : decode cX7_clashOf 24 = .ok (.iload_n 3, 1) := by decide +kernel
theorem dX7_clashOf_25 : decode cX7_clashOf 25 = .ok (.invokevirtual 128, 3) := by decide +kernel
theorem dX7_clashOf_28 : decode cX7_clashOf 28 = .ok (.ifCond .eq 7, 3) := by decide +kernel
theorem dX7_clashOf_31 : decode cX7_clashOf 31 = .ok (.iload_n 3, 1) := by decide +kernel
theorem dX7_clashOf_32 : decode cX7_clashOf 32 = .ok (.goto 4, 3) := by decide +kernel
theorem dX7_clashOf_35 : decode cX7_clashOf 35 = .ok (.iload_n 2, 1) := by decide +kernel
theorem dX7_clashOf_36 : decode cX7_clashOf 36 = .ok (.istore_n 2, 1) := by decide +kernel
theorem dX7_clashOf_37 : decode cX7_clashOf 37 = .ok (.iinc 3 (-1), 3) := by decide +kernel
theorem dX7_clashOf_40 : decode cX7_clashOf 40 = .ok (.goto (-30), 3) := by decide +kernel
theorem dX7_clashOf_43 : decode cX7_clashOf 43 = .ok (.iload_n 2, 1) := by decide +kernel
theorem dX7_clashOf_44 : decode cX7_clashOf 44 = .ok (.ireturn, 1) := by decide +kernel
theorem dX7_whyOf_0 : decode cX7_whyOf 0 = .ok (.aload_n 0, 1) := by decide +kernel
theorem dX7_whyOf_1 : decode cX7_whyOf 1 = .ok (.iload_n 1, 1) := by decide +kernel
theorem dX7_whyOf_2 : decode cX7_whyOf 2 = .ok (.invokevirtual 125, 3) := by decide +kernel
theorem dX7_whyOf_5 : decode cX7_whyOf 5 = .ok (.ifCond .eq 5, 3) := by decide +kernel
theorem dX7_whyOf_8 : decode cX7_whyOf 8 = .ok (.iconst 1, 1) := by decide +kernel
theorem dX7_whyOf_9 : decode cX7_whyOf 9 = .ok (.ireturn, 1) := by decide +kernel
theorem dX7_whyOf_10 : decode cX7_whyOf 10 = .ok (.aload_n 0, 1) := by decide +kernel
theorem dX7_whyOf_11 : decode cX7_whyOf 11 = .ok (.iload_n 1, 1) := by decide +kernel
theorem dX7_whyOf_12 : decode cX7_whyOf 12 = .ok (.invokevirtual 132, 3) := by decide +kernel
theorem dX7_whyOf_15 : decode cX7_whyOf 15 = .ok (.ifCond .ne 5, 3) := by decide +kernel
theorem dX7_whyOf_18 : decode cX7_whyOf 18 = .ok (.iconst 2, 1) := by decide +kernel
theorem dX7_whyOf_19 : decode cX7_whyOf 19 = .ok (.ireturn, 1) := by decide +kernel
theorem dX7_whyOf_20 : decode cX7_whyOf 20 = .ok (.aload_n 0, 1) := by decide +kernel
theorem dX7_whyOf_21 : decode cX7_whyOf 21 = .ok (.iload_n 1, 1) := by decide +kernel
theorem dX7_whyOf_22 : decode cX7_whyOf 22 = .ok (.invokevirtual 135, 3) := by decide +kernel
theorem dX7_whyOf_25 : decode cX7_whyOf 25 = .ok (.bipush (-4), 2) := by decide +kernel
theorem dX7_whyOf_27 : decode cX7_whyOf 27 = .ok (.if_icmp .eq 7, 3) := by decide +kernel
theorem dX7_whyOf_30 : decode cX7_whyOf 30 = .ok (.iconst 3, 1) := by decide +kernel
theorem dX7_whyOf_31 : decode cX7_whyOf 31 = .ok (.goto 26, 3) := by decide +kernel
theorem dX7_whyOf_34 : decode cX7_whyOf 34 = .ok (.aload_n 0, 1) := by decide +kernel
theorem dX7_whyOf_35 : decode cX7_whyOf 35 = .ok (.aload_n 0, 1) := by decide +kernel
theorem dX7_whyOf_36 : decode cX7_whyOf 36 = .ok (.getfield 25, 3) := by decide +kernel
theorem dX7_whyOf_39 : decode cX7_whyOf 39 = .ok (.bipush 10, 2) := by decide +kernel
theorem dX7_whyOf_41 : decode cX7_whyOf 41 = .ok (.iaload, 1) := by decide +kernel
theorem dX7_whyOf_42 : decode cX7_whyOf 42 = .ok (.iconst 1, 1) := by decide +kernel
theorem dX7_whyOf_43 : decode cX7_whyOf 43 = .ok (.iload_n 1, 1) := by decide +kernel
theorem dX7_whyOf_44 : decode cX7_whyOf 44 = .ok (.ishl, 1) := by decide +kernel
theorem dX7_whyOf_45 : decode cX7_whyOf 45 = .ok (.ior, 1) := by decide +kernel
theorem dX7_whyOf_46 : decode cX7_whyOf 46 = .ok (.invokevirtual 138, 3) := by decide +kernel
theorem dX7_whyOf_49 : decode cX7_whyOf 49 = .ok (.ifCond .eq 7, 3) := by decide +kernel
theorem dX7_whyOf_52 : decode cX7_whyOf 52 = .ok (.iconst 0, 1) := by decide +kernel
theorem dX7_whyOf_53 : decode cX7_whyOf 53 = .ok (.goto 4, 3) := by decide +kernel
theorem dX7_whyOf_56 : decode cX7_whyOf 56 = .ok (.iconst 4, 1) := by decide +kernel
theorem dX7_whyOf_57 : decode cX7_whyOf 57 = .ok (.ireturn, 1) := by decide +kernel
theorem dX7_note_0 : decode cX7_note 0 = .ok (.aload_n 0, 1) := by decide +kernel
theorem dX7_note_1 : decode cX7_note 1 = .ok (.getfield 73, 3) := by decide +kernel
theorem dX7_note_4 : decode cX7_note 4 = .ok (.bipush 6, 2) := by decide +kernel
theorem dX7_note_6 : decode cX7_note 6 = .ok (.if_icmp .ne 42, 3) := by decide +kernel
theorem dX7_note_9 : decode cX7_note 9 = .ok (.iconst 0, 1) := by decide +kernel
theorem dX7_note_10 : decode cX7_note 10 = .ok (.istore_n 1, 1) := by decide +kernel
theorem dX7_note_11 : decode cX7_note 11 = .ok (.iload_n 1, 1) := by decide +kernel
theorem dX7_note_12 : decode cX7_note 12 = .ok (.bipush 55, 2) := by decide +kernel
theorem dX7_note_14 : decode cX7_note 14 = .ok (.if_icmp .ge 24, 3) := by decide +kernel
theorem dX7_note_17 : decode cX7_note 17 = .ok (.aload_n 0, 1) := by decide +kernel
theorem dX7_note_18 : decode cX7_note 18 = .ok (.getfield 28, 3) := by decide +kernel
theorem dX7_note_21 : decode cX7_note 21 = .ok (.iload_n 1, 1) := by decide +kernel
theorem dX7_note_22 : decode cX7_note 22 = .ok (.aload_n 0, 1) := by decide +kernel
theorem dX7_note_23 : decode cX7_note 23 = .ok (.getfield 28, 3) := by decide +kernel
theorem dX7_note_26 : decode cX7_note 26 = .ok (.iload_n 1, 1) := by decide +kernel
theorem dX7_note_27 : decode cX7_note 27 = .ok (.bipush 11, 2) := by decide +kernel
theorem dX7_note_29 : decode cX7_note 29 = .ok (.iadd, 1) := by decide +kernel
theorem dX7_note_30 : decode cX7_note 30 = .ok (.iaload, 1) := by decide +kernel
theorem dX7_note_31 : decode cX7_note 31 = .ok (.iastore, 1) := by decide +kernel
theorem dX7_note_32 : decode cX7_note 32 = .ok (.iinc 1 1, 3) := by decide +kernel
theorem dX7_note_35 : decode cX7_note 35 = .ok (.goto (-24), 3) := by decide +kernel
theorem dX7_note_38 : decode cX7_note 38 = .ok (.aload_n 0, 1) := by decide +kernel
theorem dX7_note_39 : decode cX7_note 39 = .ok (.dup, 1) := by decide +kernel
theorem dX7_note_40 : decode cX7_note 40 = .ok (.getfield 73, 3) := by decide +kernel
theorem dX7_note_43 : decode cX7_note 43 = .ok (.iconst 1, 1) := by decide +kernel
theorem dX7_note_44 : decode cX7_note 44 = .ok (.isub, 1) := by decide +kernel
theorem dX7_note_45 : decode cX7_note 45 = .ok (.putfield 73, 3) := by decide +kernel
theorem dX7_note_48 : decode cX7_note 48 = .ok (.iconst 0, 1) := by decide +kernel
theorem dX7_note_49 : decode cX7_note 49 = .ok (.istore_n 1, 1) := by decide +kernel
theorem dX7_note_50 : decode cX7_note 50 = .ok (.iload_n 1, 1) := by decide +kernel
theorem dX7_note_51 : decode cX7_note 51 = .ok (.bipush 11, 2) := by decide +kernel
theorem dX7_note_53 : decode cX7_note 53 = .ok (.if_icmp .ge 29, 3) := by decide +kernel
theorem dX7_note_56 : decode cX7_note 56 = .ok (.aload_n 0, 1) := by decide +kernel
theorem dX7_note_57 : decode cX7_note 57 = .ok (.getfield 28, 3) := by decide +kernel
theorem dX7_note_60 : decode cX7_note 60 = .ok (.bipush 11, 2) := by decide +kernel
theorem dX7_note_62 : decode cX7_note 62 = .ok (.aload_n 0, 1) := by decide +kernel
theorem dX7_note_63 : decode cX7_note 63 = .ok (.getfield 73, 3) := by decide +kernel
theorem dX7_note_66 : decode cX7_note 66 = .ok (.imul, 1) := by decide +kernel
theorem dX7_note_67 : decode cX7_note 67 = .ok (.iload_n 1, 1) := by decide +kernel
theorem dX7_note_68 : decode cX7_note 68 = .ok (.iadd, 1) := by decide +kernel
theorem dX7_note_69 : decode cX7_note 69 = .ok (.aload_n 0, 1) := by decide +kernel
theorem dX7_note_70 : decode cX7_note 70 = .ok (.getfield 25, 3) := by decide +kernel
theorem dX7_note_73 : decode cX7_note 73 = .ok (.iload_n 1, 1) := by decide +kernel
theorem dX7_note_74 : decode cX7_note 74 = .ok (.iaload, 1) := by decide +kernel
theorem dX7_note_75 : decode cX7_note 75 = .ok (.iastore, 1) := by decide +kernel
theorem dX7_note_76 : decode cX7_note 76 = .ok (.iinc 1 1, 3) := by decide +kernel
theorem dX7_note_79 : decode cX7_note 79 = .ok (.goto (-29), 3) := by decide +kernel
theorem dX7_note_82 : decode cX7_note 82 = .ok (.aload_n 0, 1) := by decide +kernel
theorem dX7_note_83 : decode cX7_note 83 = .ok (.dup, 1) := by decide +kernel
theorem dX7_note_84 : decode cX7_note 84 = .ok (.getfield 73, 3) := by decide +kernel
theorem dX7_note_87 : decode cX7_note 87 = .ok (.iconst 1, 1) := by decide +kernel
theorem dX7_note_88 : decode cX7_note 88 = .ok (.iadd, 1) := by decide +kernel
theorem dX7_note_89 : decode cX7_note 89 = .ok (.putfield 73, 3) := by decide +kernel
theorem dX7_note_92 : decode cX7_note 92 = .ok (.return_, 1) := by decide +kernel
theorem dX7_undo_0 : decode cX7_undo 0 = .ok (.aload_n 0, 1) := by decide +kernel
theorem dX7_undo_1 : decode cX7_undo 1 = .ok (.getfield 73, 3) := by decide +kernel
theorem dX7_undo_4 : decode cX7_undo 4 = .ok (.ifCond .ne 6, 3) := by decide +kernel
theorem dX7_undo_7 : decode cX7_undo 7 = .ok (.bipush (-2), 2) := by decide +kernel
theorem dX7_undo_9 : decode cX7_undo 9 = .ok (.ireturn, 1) := by decide +kernel
theorem dX7_undo_10 : decode cX7_undo 10 = .ok (.aload_n 0, 1) := by decide +kernel
theorem dX7_undo_11 : decode cX7_undo 11 = .ok (.dup, 1) := by decide +kernel
theorem dX7_undo_12 : decode cX7_undo 12 = .ok (.getfield 73, 3) := by decide +kernel
theorem dX7_undo_15 : decode cX7_undo 15 = .ok (.iconst 1, 1) := by decide +kernel
theorem dX7_undo_16 : decode cX7_undo 16 = .ok (.isub, 1) := by decide +kernel
theorem dX7_undo_17 : decode cX7_undo 17 = .ok (.putfield 73, 3) := by decide +kernel
theorem dX7_undo_20 : decode cX7_undo 20 = .ok (.iconst 0, 1) := by decide +kernel
theorem dX7_undo_21 : decode cX7_undo 21 = .ok (.istore_n 1, 1) := by decide +kernel
theorem dX7_undo_22 : decode cX7_undo 22 = .ok (.iload_n 1, 1) := by decide +kernel
theorem dX7_undo_23 : decode cX7_undo 23 = .ok (.bipush 11, 2) := by decide +kernel
theorem dX7_undo_25 : decode cX7_undo 25 = .ok (.if_icmp .ge 29, 3) := by decide +kernel
theorem dX7_undo_28 : decode cX7_undo 28 = .ok (.aload_n 0, 1) := by decide +kernel
theorem dX7_undo_29 : decode cX7_undo 29 = .ok (.getfield 25, 3) := by decide +kernel
theorem dX7_undo_32 : decode cX7_undo 32 = .ok (.iload_n 1, 1) := by decide +kernel
theorem dX7_undo_33 : decode cX7_undo 33 = .ok (.aload_n 0, 1) := by decide +kernel
theorem dX7_undo_34 : decode cX7_undo 34 = .ok (.getfield 28, 3) := by decide +kernel
theorem dX7_undo_37 : decode cX7_undo 37 = .ok (.bipush 11, 2) := by decide +kernel
theorem dX7_undo_39 : decode cX7_undo 39 = .ok (.aload_n 0, 1) := by decide +kernel
theorem dX7_undo_40 : decode cX7_undo 40 = .ok (.getfield 73, 3) := by decide +kernel
theorem dX7_undo_43 : decode cX7_undo 43 = .ok (.imul, 1) := by decide +kernel
theorem dX7_undo_44 : decode cX7_undo 44 = .ok (.iload_n 1, 1) := by decide +kernel
theorem dX7_undo_45 : decode cX7_undo 45 = .ok (.iadd, 1) := by decide +kernel
theorem dX7_undo_46 : decode cX7_undo 46 = .ok (.iaload, 1) := by decide +kernel
theorem dX7_undo_47 : decode cX7_undo 47 = .ok (.iastore, 1) := by decide +kernel
theorem dX7_undo_48 : decode cX7_undo 48 = .ok (.iinc 1 1, 3) := by decide +kernel
theorem dX7_undo_51 : decode cX7_undo 51 = .ok (.goto (-29), 3) := by decide +kernel
theorem dX7_undo_54 : decode cX7_undo 54 = .ok (.aload_n 0, 1) := by decide +kernel
theorem dX7_undo_55 : decode cX7_undo 55 = .ok (.getfield 73, 3) := by decide +kernel
theorem dX7_undo_58 : decode cX7_undo 58 = .ok (.ireturn, 1) := by decide +kernel
theorem dX7_sign_0 : decode cX7_sign 0 = .ok (.aload_n 0, 1) := by decide +kernel
theorem dX7_sign_1 : decode cX7_sign 1 = .ok (.iload_n 1, 1) := by decide +kernel
theorem dX7_sign_2 : decode cX7_sign 2 = .ok (.invokevirtual 141, 3) := by decide +kernel
theorem dX7_sign_5 : decode cX7_sign 5 = .ok (.ifCond .ne 5, 3) := by decide +kernel
theorem dX7_sign_8 : decode cX7_sign 8 = .ok (.iconst (-1), 1) := by decide +kernel
theorem dX7_sign_9 : decode cX7_sign 9 = .ok (.ireturn, 1) := by decide +kernel
theorem dX7_sign_10 : decode cX7_sign 10 = .ok (.aload_n 0, 1) := by decide +kernel
theorem dX7_sign_11 : decode cX7_sign 11 = .ok (.iload_n 1, 1) := by decide +kernel
theorem dX7_sign_12 : decode cX7_sign 12 = .ok (.invokevirtual 144, 3) := by decide +kernel
theorem dX7_sign_15 : decode cX7_sign 15 = .ok (.ifCond .eq 6, 3) := by decide +kernel
theorem dX7_sign_18 : decode cX7_sign 18 = .ok (.bipush (-2), 2) := by decide +kernel
theorem dX7_sign_20 : decode cX7_sign 20 = .ok (.ireturn, 1) := by decide +kernel
theorem dX7_sign_21 : decode cX7_sign 21 = .ok (.aload_n 0, 1) := by decide +kernel
theorem dX7_sign_22 : decode cX7_sign 22 = .ok (.invokevirtual 147, 3) := by decide +kernel
theorem dX7_sign_25 : decode cX7_sign 25 = .ok (.aload_n 0, 1) := by decide +kernel
theorem dX7_sign_26 : decode cX7_sign 26 = .ok (.getfield 25, 3) := by decide +kernel
theorem dX7_sign_29 : decode cX7_sign 29 = .ok (.bipush 10, 2) := by decide +kernel
theorem dX7_sign_31 : decode cX7_sign 31 = .ok (.dup2, 1) := by decide +kernel
theorem dX7_sign_32 : decode cX7_sign 32 = .ok (.iaload, 1) := by decide +kernel
theorem dX7_sign_33 : decode cX7_sign 33 = .ok (.iconst 1, 1) := by decide +kernel
theorem dX7_sign_34 : decode cX7_sign 34 = .ok (.iload_n 1, 1) := by decide +kernel
theorem dX7_sign_35 : decode cX7_sign 35 = .ok (.ishl, 1) := by decide +kernel
theorem dX7_sign_36 : decode cX7_sign 36 = .ok (.ior, 1) := by decide +kernel
theorem dX7_sign_37 : decode cX7_sign 37 = .ok (.iastore, 1) := by decide +kernel
theorem dX7_sign_38 : decode cX7_sign 38 = .ok (.aload_n 0, 1) := by decide +kernel
theorem dX7_sign_39 : decode cX7_sign 39 = .ok (.getfield 25, 3) := by decide +kernel
theorem dX7_sign_42 : decode cX7_sign 42 = .ok (.bipush 10, 2) := by decide +kernel
theorem dX7_sign_44 : decode cX7_sign 44 = .ok (.iaload, 1) := by decide +kernel
theorem dX7_sign_45 : decode cX7_sign 45 = .ok (.invokestatic 111, 3) := by decide +kernel
theorem dX7_sign_48 : decode cX7_sign 48 = .ok (.ireturn, 1) := by decide +kernel
theorem dX7_why_0 : decode cX7_why 0 = .ok (.aload_n 0, 1) := by decide +kernel
theorem dX7_why_1 : decode cX7_why 1 = .ok (.iload_n 1, 1) := by decide +kernel
theorem dX7_why_2 : decode cX7_why 2 = .ok (.invokevirtual 141, 3) := by decide +kernel
theorem dX7_why_5 : decode cX7_why 5 = .ok (.ifCond .eq 11, 3) := by decide +kernel
theorem dX7_why_8 : decode cX7_why 8 = .ok (.aload_n 0, 1) := by decide +kernel
theorem dX7_why_9 : decode cX7_why 9 = .ok (.iload_n 1, 1) := by decide +kernel
theorem dX7_why_10 : decode cX7_why 10 = .ok (.invokevirtual 144, 3) := by decide +kernel
theorem dX7_why_13 : decode cX7_why 13 = .ok (.goto 4, 3) := by decide +kernel
theorem dX7_why_16 : decode cX7_why 16 = .ok (.iconst (-1), 1) := by decide +kernel
theorem dX7_why_17 : decode cX7_why 17 = .ok (.ireturn, 1) := by decide +kernel
theorem dX7_clash_0 : decode cX7_clash 0 = .ok (.aload_n 0, 1) := by decide +kernel
theorem dX7_clash_1 : decode cX7_clash 1 = .ok (.iload_n 1, 1) := by decide +kernel
theorem dX7_clash_2 : decode cX7_clash 2 = .ok (.invokevirtual 141, 3) := by decide +kernel
theorem dX7_clash_5 : decode cX7_clash 5 = .ok (.ifCond .eq 11, 3) := by decide +kernel
theorem dX7_clash_8 : decode cX7_clash 8 = .ok (.aload_n 0, 1) := by decide +kernel
theorem dX7_clash_9 : decode cX7_clash 9 = .ok (.iload_n 1, 1) := by decide +kernel
theorem dX7_clash_10 : decode cX7_clash 10 = .ok (.invokevirtual 135, 3) := by decide +kernel
theorem dX7_clash_13 : decode cX7_clash 13 = .ok (.goto 4, 3) := by decide +kernel
theorem dX7_clash_16 : decode cX7_clash 16 = .ok (.iconst (-1), 1) := by decide +kernel
theorem dX7_clash_17 : decode cX7_clash 17 = .ok (.ireturn, 1) := by decide +kernel
theorem dX7_drop_0 : decode cX7_drop 0 = .ok (.aload_n 0, 1) := by decide +kernel
theorem dX7_drop_1 : decode cX7_drop 1 = .ok (.iload_n 1, 1) := by decide +kernel
theorem dX7_drop_2 : decode cX7_drop 2 = .ok (.invokevirtual 141, 3) := by decide +kernel
theorem dX7_drop_5 : decode cX7_drop 5 = .ok (.ifCond .ne 5, 3) := by decide +kernel
theorem dX7_drop_8 : decode cX7_drop 8 = .ok (.iconst (-1), 1) := by decide +kernel
theorem dX7_drop_9 : decode cX7_drop 9 = .ok (.ireturn, 1) := by decide +kernel
theorem dX7_drop_10 : decode cX7_drop 10 = .ok (.aload_n 0, 1) := by decide +kernel
theorem dX7_drop_11 : decode cX7_drop 11 = .ok (.iload_n 1, 1) := by decide +kernel
theorem dX7_drop_12 : decode cX7_drop 12 = .ok (.invokevirtual 125, 3) := by decide +kernel
theorem dX7_drop_15 : decode cX7_drop 15 = .ok (.ifCond .ne 6, 3) := by decide +kernel
theorem dX7_drop_18 : decode cX7_drop 18 = .ok (.bipush (-2), 2) := by decide +kernel
theorem dX7_drop_20 : decode cX7_drop 20 = .ok (.ireturn, 1) := by decide +kernel
theorem dX7_drop_21 : decode cX7_drop 21 = .ok (.aload_n 0, 1) := by decide +kernel
theorem dX7_drop_22 : decode cX7_drop 22 = .ok (.invokevirtual 147, 3) := by decide +kernel
theorem dX7_drop_25 : decode cX7_drop 25 = .ok (.aload_n 0, 1) := by decide +kernel
theorem dX7_drop_26 : decode cX7_drop 26 = .ok (.getfield 25, 3) := by decide +kernel
theorem dX7_drop_29 : decode cX7_drop 29 = .ok (.bipush 10, 2) := by decide +kernel
theorem dX7_drop_31 : decode cX7_drop 31 = .ok (.dup2, 1) := by decide +kernel
theorem dX7_drop_32 : decode cX7_drop 32 = .ok (.iaload, 1) := by decide +kernel
theorem dX7_drop_33 : decode cX7_drop 33 = .ok (.iconst 1, 1) := by decide +kernel
theorem dX7_drop_34 : decode cX7_drop 34 = .ok (.iload_n 1, 1) := by decide +kernel
theorem dX7_drop_35 : decode cX7_drop 35 = .ok (.ishl, 1) := by decide +kernel
theorem dX7_drop_36 : decode cX7_drop 36 = .ok (.iconst (-1), 1) := by decide +kernel
theorem dX7_drop_37 : decode cX7_drop 37 = .ok (.ixor, 1) := by decide +kernel
theorem dX7_drop_38 : decode cX7_drop 38 = .ok (.iand, 1) := by decide +kernel
theorem dX7_drop_39 : decode cX7_drop 39 = .ok (.iastore, 1) := by decide +kernel
theorem dX7_drop_40 : decode cX7_drop 40 = .ok (.aload_n 0, 1) := by decide +kernel
theorem dX7_drop_41 : decode cX7_drop 41 = .ok (.getfield 25, 3) := by decide +kernel
theorem dX7_drop_44 : decode cX7_drop 44 = .ok (.bipush 10, 2) := by decide +kernel
theorem dX7_drop_46 : decode cX7_drop 46 = .ok (.iaload, 1) := by decide +kernel
theorem dX7_drop_47 : decode cX7_drop 47 = .ok (.invokestatic 111, 3) := by decide +kernel
theorem dX7_drop_50 : decode cX7_drop 50 = .ok (.ireturn, 1) := by decide +kernel
theorem dX7_move_0 : decode cX7_move 0 = .ok (.aload_n 0, 1) := by decide +kernel
theorem dX7_move_1 : decode cX7_move 1 = .ok (.iload_n 1, 1) := by decide +kernel
theorem dX7_move_2 : decode cX7_move 2 = .ok (.invokevirtual 141, 3) := by decide +kernel
theorem dX7_move_5 : decode cX7_move 5 = .ok (.ifCond .eq 13, 3) := by decide +kernel
theorem dX7_move_8 : decode cX7_move 8 = .ok (.iload_n 2, 1) := by decide +kernel
theorem dX7_move_9 : decode cX7_move 9 = .ok (.iconst 0, 1) := by decide +kernel
theorem dX7_move_10 : decode cX7_move 10 = .ok (.bipush 51, 2) := by decide +kernel
theorem dX7_move_12 : decode cX7_move 12 = .ok (.invokestatic 82, 3) := by decide +kernel
theorem dX7_move_15 : decode cX7_move 15 = .ok (.ifCond .ne 5, 3) := by decide +kernel
theorem dX7_move_18 : decode cX7_move 18 = .ok (.iconst (-1), 1) := by decide +kernel
theorem dX7_move_19 : decode cX7_move 19 = .ok (.ireturn, 1) := by decide +kernel
theorem dX7_move_20 : decode cX7_move 20 = .ok (.aload_n 0, 1) := by decide +kernel
theorem dX7_move_21 : decode cX7_move 21 = .ok (.getfield 25, 3) := by decide +kernel
theorem dX7_move_24 : decode cX7_move 24 = .ok (.iload_n 1, 1) := by decide +kernel
theorem dX7_move_25 : decode cX7_move 25 = .ok (.iaload, 1) := by decide +kernel
theorem dX7_move_26 : decode cX7_move 26 = .ok (.istore_n 3, 1) := by decide +kernel
theorem dX7_move_27 : decode cX7_move 27 = .ok (.aload_n 0, 1) := by decide +kernel
theorem dX7_move_28 : decode cX7_move 28 = .ok (.iload_n 1, 1) := by decide +kernel
theorem dX7_move_29 : decode cX7_move 29 = .ok (.invokevirtual 125, 3) := by decide +kernel
theorem dX7_move_32 : decode cX7_move 32 = .ok (.ifCond .ne 26, 3) := by decide +kernel
theorem dX7_move_35 : decode cX7_move 35 = .ok (.iload_n 3, 1) := by decide +kernel
theorem dX7_move_36 : decode cX7_move 36 = .ok (.iload_n 2, 1) := by decide +kernel
theorem dX7_move_37 : decode cX7_move 37 = .ok (.if_icmp .eq 21, 3) := by decide +kernel
theorem dX7_move_40 : decode cX7_move 40 = .ok (.aload_n 0, 1) := by decide +kernel
theorem dX7_move_41 : decode cX7_move 41 = .ok (.getfield 19, 3) := by decide +kernel
theorem dX7_move_44 : decode cX7_move 44 = .ok (.bipush 7, 2) := by decide +kernel
theorem dX7_move_46 : decode cX7_move 46 = .ok (.iload_n 1, 1) := by decide +kernel
theorem dX7_move_47 : decode cX7_move 47 = .ok (.imul, 1) := by decide +kernel
theorem dX7_move_48 : decode cX7_move 48 = .ok (.iconst 4, 1) := by decide +kernel
theorem dX7_move_49 : decode cX7_move 49 = .ok (.iadd, 1) := by decide +kernel
theorem dX7_move_50 : decode cX7_move 50 = .ok (.iaload, 1) := by decide +kernel
theorem dX7_move_51 : decode cX7_move 51 = .ok (.iload_n 2, 1) := by decide +kernel
theorem dX7_move_52 : decode cX7_move 52 = .ok (.iadd, 1) := by decide +kernel
theorem dX7_move_53 : decode cX7_move 53 = .ok (.bipush 51, 2) := by decide +kernel
theorem dX7_move_55 : decode cX7_move 55 = .ok (.if_icmp .le 6, 3) := by decide +kernel
theorem dX7_move_58 : decode cX7_move 58 = .ok (.bipush (-2), 2) := by decide +kernel
theorem dX7_move_60 : decode cX7_move 60 = .ok (.ireturn, 1) := by decide +kernel
theorem dX7_move_61 : decode cX7_move 61 = .ok (.aload_n 0, 1) := by decide +kernel
theorem dX7_move_62 : decode cX7_move 62 = .ok (.invokevirtual 147, 3) := by decide +kernel
theorem dX7_move_65 : decode cX7_move 65 = .ok (.aload_n 0, 1) := by decide +kernel
theorem dX7_move_66 : decode cX7_move 66 = .ok (.getfield 25, 3) := by decide +kernel
theorem dX7_move_69 : decode cX7_move 69 = .ok (.iload_n 1, 1) := by decide +kernel
theorem dX7_move_70 : decode cX7_move 70 = .ok (.iload_n 2, 1) := by decide +kernel
theorem dX7_move_71 : decode cX7_move 71 = .ok (.iastore, 1) := by decide +kernel
theorem dX7_move_72 : decode cX7_move 72 = .ok (.iload_n 3, 1) := by decide +kernel
theorem dX7_move_73 : decode cX7_move 73 = .ok (.ireturn, 1) := by decide +kernel
theorem dX7_soonest_0 : decode cX7_soonest 0 = .ok (.aload_n 0, 1) := by decide +kernel
theorem dX7_soonest_1 : decode cX7_soonest 1 = .ok (.iload_n 1, 1) := by decide +kernel
theorem dX7_soonest_2 : decode cX7_soonest 2 = .ok (.invokevirtual 141, 3) := by decide +kernel
theorem dX7_soonest_5 : decode cX7_soonest 5 = .ok (.ifCond .ne 5, 3) := by decide +kernel
theorem dX7_soonest_8 : decode cX7_soonest 8 = .ok (.iconst (-1), 1) := by decide +kernel
theorem dX7_soonest_9 : decode cX7_soonest 9 = .ok (.ireturn, 1) := by decide +kernel
theorem dX7_soonest_10 : decode cX7_soonest 10 = .ok (.aload_n 0, 1) := by decide +kernel
theorem dX7_soonest_11 : decode cX7_soonest 11 = .ok (.iload_n 1, 1) := by decide +kernel
theorem dX7_soonest_12 : decode cX7_soonest 12 = .ok (.invokevirtual 125, 3) := by decide +kernel
theorem dX7_soonest_15 : decode cX7_soonest 15 = .ok (.ifCond .eq 6, 3) := by decide +kernel
theorem dX7_soonest_18 : decode cX7_soonest 18 = .ok (.bipush (-2), 2) := by decide +kernel
theorem dX7_soonest_20 : decode cX7_soonest 20 = .ok (.ireturn, 1) := by decide +kernel
theorem dX7_soonest_21 : decode cX7_soonest 21 = .ok (.aload_n 0, 1) := by decide +kernel
theorem dX7_soonest_22 : decode cX7_soonest 22 = .ok (.getfield 25, 3) := by decide +kernel
theorem dX7_soonest_25 : decode cX7_soonest 25 = .ok (.iload_n 1, 1) := by decide +kernel
theorem dX7_soonest_26 : decode cX7_soonest 26 = .ok (.iaload, 1) := by decide +kernel
theorem dX7_soonest_27 : decode cX7_soonest 27 = .ok (.istore_n 2, 1) := by decide +kernel
theorem dX7_soonest_28 : decode cX7_soonest 28 = .ok (.bipush (-4), 2) := by decide +kernel
theorem dX7_soonest_30 : decode cX7_soonest 30 = .ok (.istore_n 3, 1) := by decide +kernel
theorem dX7_soonest_31 : decode cX7_soonest 31 = .ok (.iload_n 2, 1) := by decide +kernel
theorem dX7_soonest_32 : decode cX7_soonest 32 = .ok (.istore 4, 2) := by decide +kernel
theorem dX7_soonest_34 : decode cX7_soonest 34 = .ok (.aload_n 0, 1) := by decide +kernel
theorem dX7_soonest_35 : decode cX7_soonest 35 = .ok (.getfield 19, 3) := by decide +kernel
theorem dX7_soonest_38 : decode cX7_soonest 38 = .ok (.bipush 7, 2) := by decide +kernel
theorem dX7_soonest_40 : decode cX7_soonest 40 = .ok (.iload_n 1, 1) := by decide +kernel
theorem dX7_soonest_41 : decode cX7_soonest 41 = .ok (.imul, 1) := by decide +kernel
theorem dX7_soonest_42 : decode cX7_soonest 42 = .ok (.iconst 4, 1) := by decide +kernel
theorem dX7_soonest_43 : decode cX7_soonest 43 = .ok (.iadd, 1) := by decide +kernel
theorem dX7_soonest_44 : decode cX7_soonest 44 = .ok (.iaload, 1) := by decide +kernel
theorem dX7_soonest_45 : decode cX7_soonest 45 = .ok (.iload 4, 2) := by decide +kernel
theorem dX7_soonest_47 : decode cX7_soonest 47 = .ok (.iadd, 1) := by decide +kernel
theorem dX7_soonest_48 : decode cX7_soonest 48 = .ok (.bipush 51, 2) := by decide +kernel
theorem dX7_soonest_50 : decode cX7_soonest 50 = .ok (.if_icmp .gt 39, 3) := by decide +kernel
theorem dX7_soonest_53 : decode cX7_soonest 53 = .ok (.iload_n 3, 1) := by decide +kernel
theorem dX7_soonest_54 : decode cX7_soonest 54 = .ok (.bipush (-4), 2) := by decide +kernel
theorem dX7_soonest_56 : decode cX7_soonest 56 = .ok (.if_icmp .ne 33, 3) := by decide +kernel
theorem dX7_soonest_59 : decode cX7_soonest 59 = .ok (.aload_n 0, 1) := by decide +kernel
theorem dX7_soonest_60 : decode cX7_soonest 60 = .ok (.getfield 25, 3) := by decide +kernel
theorem dX7_soonest_63 : decode cX7_soonest 63 = .ok (.iload_n 1, 1) := by decide +kernel
theorem dX7_soonest_64 : decode cX7_soonest 64 = .ok (.iload 4, 2) := by decide +kernel
theorem dX7_soonest_66 : decode cX7_soonest 66 = .ok (.iastore, 1) := by decide +kernel
theorem dX7_soonest_67 : decode cX7_soonest 67 = .ok (.aload_n 0, 1) := by decide +kernel
theorem dX7_soonest_68 : decode cX7_soonest 68 = .ok (.iload_n 1, 1) := by decide +kernel
theorem dX7_soonest_69 : decode cX7_soonest 69 = .ok (.invokevirtual 144, 3) := by decide +kernel
theorem dX7_soonest_72 : decode cX7_soonest 72 = .ok (.ifCond .ne 8, 3) := by decide +kernel
theorem dX7_soonest_75 : decode cX7_soonest 75 = .ok (.iload 4, 2) := by decide +kernel
theorem dX7_soonest_77 : decode cX7_soonest 77 = .ok (.goto 5, 3) := by decide +kernel
theorem dX7_soonest_80 : decode cX7_soonest 80 = .ok (.bipush (-4), 2) := by decide +kernel
theorem dX7_soonest_82 : decode cX7_soonest 82 = .ok (.istore_n 3, 1) := by decide +kernel
theorem dX7_soonest_83 : decode cX7_soonest 83 = .ok (.iinc 4 1, 3) := by decide +kernel
theorem dX7_soonest_86 : decode cX7_soonest 86 = .ok (.goto (-52), 3) := by decide +kernel
theorem dX7_soonest_89 : decode cX7_soonest 89 = .ok (.aload_n 0, 1) := by decide +kernel
theorem dX7_soonest_90 : decode cX7_soonest 90 = .ok (.getfield 25, 3) := by decide +kernel
theorem dX7_soonest_93 : decode cX7_soonest 93 = .ok (.iload_n 1, 1) := by decide +kernel
theorem dX7_soonest_94 : decode cX7_soonest 94 = .ok (.iload_n 2, 1) := by decide +kernel
theorem dX7_soonest_95 : decode cX7_soonest 95 = .ok (.iastore, 1) := by decide +kernel
theorem dX7_soonest_96 : decode cX7_soonest 96 = .ok (.iload_n 3, 1) := by decide +kernel
theorem dX7_soonest_97 : decode cX7_soonest 97 = .ok (.ireturn, 1) := by decide +kernel
theorem dX7_offer_0 : decode cX7_offer 0 = .ok (.aload_n 0, 1) := by decide +kernel
theorem dX7_offer_1 : decode cX7_offer 1 = .ok (.iload_n 1, 1) := by decide +kernel
theorem dX7_offer_2 : decode cX7_offer 2 = .ok (.invokevirtual 141, 3) := by decide +kernel
theorem dX7_offer_5 : decode cX7_offer 5 = .ok (.ifCond .eq 13, 3) := by decide +kernel
theorem dX7_offer_8 : decode cX7_offer 8 = .ok (.iload_n 2, 1) := by decide +kernel
theorem dX7_offer_9 : decode cX7_offer 9 = .ok (.iconst 0, 1) := by decide +kernel
theorem dX7_offer_10 : decode cX7_offer 10 = .ok (.bipush 8, 2) := by decide +kernel
theorem dX7_offer_12 : decode cX7_offer 12 = .ok (.invokestatic 82, 3) := by decide +kernel
theorem dX7_offer_15 : decode cX7_offer 15 = .ok (.ifCond .ne 5, 3) := by decide +kernel
theorem dX7_offer_18 : decode cX7_offer 18 = .ok (.iconst (-1), 1) := by decide +kernel
theorem dX7_offer_19 : decode cX7_offer 19 = .ok (.ireturn, 1) := by decide +kernel
theorem dX7_offer_20 : decode cX7_offer 20 = .ok (.iload_n 2, 1) := by decide +kernel
theorem dX7_offer_21 : decode cX7_offer 21 = .ok (.bipush 7, 2) := by decide +kernel
theorem dX7_offer_23 : decode cX7_offer 23 = .ok (.if_icmp .ge 12, 3) := by decide +kernel
theorem dX7_offer_26 : decode cX7_offer 26 = .ok (.aload_n 0, 1) := by decide +kernel
theorem dX7_offer_27 : decode cX7_offer 27 = .ok (.iload_n 1, 1) := by decide +kernel
theorem dX7_offer_28 : decode cX7_offer 28 = .ok (.iload_n 2, 1) := by decide +kernel
theorem dX7_offer_29 : decode cX7_offer 29 = .ok (.invokevirtual 107, 3) := by decide +kernel
theorem dX7_offer_32 : decode cX7_offer 32 = .ok (.goto 31, 3) := by decide +kernel
theorem dX7_offer_35 : decode cX7_offer 35 = .ok (.iload_n 2, 1) := by decide +kernel
theorem dX7_offer_36 : decode cX7_offer 36 = .ok (.bipush 7, 2) := by decide +kernel
theorem dX7_offer_38 : decode cX7_offer 38 = .ok (.if_icmp .ne 19, 3) := by decide +kernel
theorem dX7_offer_41 : decode cX7_offer 41 = .ok (.aload_n 0, 1) := by decide +kernel
theorem dX7_offer_42 : decode cX7_offer 42 = .ok (.iload_n 1, 1) := by decide +kernel
theorem dX7_offer_43 : decode cX7_offer 43 = .ok (.invokevirtual 125, 3) := by decide +kernel
theorem dX7_offer_46 : decode cX7_offer 46 = .ok (.ifCond .eq 7, 3) := by decide +kernel
theorem dX7_offer_49 : decode cX7_offer 49 = .ok (.iconst 1, 1) := by decide +kernel
theorem dX7_offer_50 : decode cX7_offer 50 = .ok (.goto 13, 3) := by decide +kernel
theorem dX7_offer_53 : decode cX7_offer 53 = .ok (.iconst 0, 1) := by decide +kernel
theorem dX7_offer_54 : decode cX7_offer 54 = .ok (.goto 9, 3) := by decide +kernel
theorem dX7_offer_57 : decode cX7_offer 57 = .ok (.aload_n 0, 1) := by decide +kernel
theorem dX7_offer_58 : decode cX7_offer 58 = .ok (.iload_n 1, 1) := by decide +kernel
theorem dX7_offer_59 : decode cX7_offer 59 = .ok (.iload_n 1, 1) := by decide +kernel
theorem dX7_offer_60 : decode cX7_offer 60 = .ok (.invokevirtual 115, 3) := by decide +kernel
theorem dX7_offer_63 : decode cX7_offer 63 = .ok (.ireturn, 1) := by decide +kernel
theorem dX7_common_0 : decode cX7_common 0 = .ok (.aload_n 0, 1) := by decide +kernel
theorem dX7_common_1 : decode cX7_common 1 = .ok (.iload_n 1, 1) := by decide +kernel
theorem dX7_common_2 : decode cX7_common 2 = .ok (.invokevirtual 141, 3) := by decide +kernel
theorem dX7_common_5 : decode cX7_common 5 = .ok (.ifCond .eq 25, 3) := by decide +kernel
theorem dX7_common_8 : decode cX7_common 8 = .ok (.aload_n 0, 1) := by decide +kernel
theorem dX7_common_9 : decode cX7_common 9 = .ok (.iload_n 2, 1) := by decide +kernel
theorem dX7_common_10 : decode cX7_common 10 = .ok (.invokevirtual 141, 3) := by decide +kernel
theorem dX7_common_13 : decode cX7_common 13 = .ok (.ifCond .eq 17, 3) := by decide +kernel
theorem dX7_common_16 : decode cX7_common 16 = .ok (.iload_n 1, 1) := by decide +kernel
theorem dX7_common_17 : decode cX7_common 17 = .ok (.iload_n 2, 1) := by decide +kernel
theorem dX7_common_18 : decode cX7_common 18 = .ok (.if_icmp .eq 12, 3) := by decide +kernel
theorem dX7_common_21 : decode cX7_common 21 = .ok (.aload_n 0, 1) := by decide +kernel
theorem dX7_common_22 : decode cX7_common 22 = .ok (.iload_n 1, 1) := by decide +kernel
theorem dX7_common_23 : decode cX7_common 23 = .ok (.iload_n 2, 1) := by decide +kernel
theorem dX7_common_24 : decode cX7_common 24 = .ok (.invokevirtual 115, 3) := by decide +kernel
theorem dX7_common_27 : decode cX7_common 27 = .ok (.goto 4, 3) := by decide +kernel
theorem dX7_common_30 : decode cX7_common 30 = .ok (.iconst (-1), 1) := by decide +kernel
theorem dX7_common_31 : decode cX7_common 31 = .ok (.ireturn, 1) := by decide +kernel
theorem dX7_begin_0 : decode cX7_begin 0 = .ok (.iload_n 1, 1) := by decide +kernel
theorem dX7_begin_1 : decode cX7_begin 1 = .ok (.iconst 0, 1) := by decide +kernel
theorem dX7_begin_2 : decode cX7_begin 2 = .ok (.iconst 5, 1) := by decide +kernel
theorem dX7_begin_3 : decode cX7_begin 3 = .ok (.invokestatic 82, 3) := by decide +kernel
theorem dX7_begin_6 : decode cX7_begin 6 = .ok (.ifCond .eq 28, 3) := by decide +kernel
theorem dX7_begin_9 : decode cX7_begin 9 = .ok (.iload_n 2, 1) := by decide +kernel
theorem dX7_begin_10 : decode cX7_begin 10 = .ok (.iconst 0, 1) := by decide +kernel
theorem dX7_begin_11 : decode cX7_begin 11 = .ok (.iconst 3, 1) := by decide +kernel
theorem dX7_begin_12 : decode cX7_begin 12 = .ok (.invokestatic 82, 3) := by decide +kernel
theorem dX7_begin_15 : decode cX7_begin 15 = .ok (.ifCond .eq 19, 3) := by decide +kernel
theorem dX7_begin_18 : decode cX7_begin 18 = .ok (.aload_n 0, 1) := by decide +kernel
theorem dX7_begin_19 : decode cX7_begin 19 = .ok (.aload_n 0, 1) := by decide +kernel
theorem dX7_begin_20 : decode cX7_begin 20 = .ok (.getfield 25, 3) := by decide +kernel
theorem dX7_begin_23 : decode cX7_begin 23 = .ok (.bipush 10, 2) := by decide +kernel
theorem dX7_begin_25 : decode cX7_begin 25 = .ok (.iaload, 1) := by decide +kernel
theorem dX7_begin_26 : decode cX7_begin 26 = .ok (.iload_n 1, 1) := by decide +kernel
theorem dX7_begin_27 : decode cX7_begin 27 = .ok (.iload_n 2, 1) := by decide +kernel
theorem dX7_begin_28 : decode cX7_begin 28 = .ok (.invokevirtual 118, 3) := by decide +kernel
theorem dX7_begin_31 : decode cX7_begin 31 = .ok (.goto 4, 3) := by decide +kernel
theorem dX7_begin_34 : decode cX7_begin 34 = .ok (.iconst (-1), 1) := by decide +kernel
theorem dX7_begin_35 : decode cX7_begin 35 = .ok (.ireturn, 1) := by decide +kernel
theorem dX7_broken_0 : decode cX7_broken 0 = .ok (.iload_n 1, 1) := by decide +kernel
theorem dX7_broken_1 : decode cX7_broken 1 = .ok (.iconst 0, 1) := by decide +kernel
theorem dX7_broken_2 : decode cX7_broken 2 = .ok (.aload_n 0, 1) := by decide +kernel
theorem dX7_broken_3 : decode cX7_broken 3 = .ok (.getfield 64, 3) := by decide +kernel
theorem dX7_broken_6 : decode cX7_broken 6 = .ok (.iconst 1, 1) := by decide +kernel
theorem dX7_broken_7 : decode cX7_broken 7 = .ok (.isub, 1) := by decide +kernel
theorem dX7_broken_8 : decode cX7_broken 8 = .ok (.invokestatic 82, 3) := by decide +kernel
theorem dX7_broken_11 : decode cX7_broken 11 = .ok (.ifCond .eq 18, 3) := by decide +kernel
theorem dX7_broken_14 : decode cX7_broken 14 = .ok (.aload_n 0, 1) := by decide +kernel
theorem dX7_broken_15 : decode cX7_broken 15 = .ok (.aload_n 0, 1) := by decide +kernel
theorem dX7_broken_16 : decode cX7_broken 16 = .ok (.getfield 25, 3) := by decide +kernel
theorem dX7_broken_19 : decode cX7_broken 19 = .ok (.bipush 10, 2) := by decide +kernel
theorem dX7_broken_21 : decode cX7_broken 21 = .ok (.iaload, 1) := by decide +kernel
theorem dX7_broken_22 : decode cX7_broken 22 = .ok (.iload_n 1, 1) := by decide +kernel
theorem dX7_broken_23 : decode cX7_broken 23 = .ok (.invokevirtual 122, 3) := by decide +kernel
theorem dX7_broken_26 : decode cX7_broken 26 = .ok (.goto 4, 3) := by decide +kernel
theorem dX7_broken_29 : decode cX7_broken 29 = .ok (.iconst (-1), 1) := by decide +kernel
theorem dX7_broken_30 : decode cX7_broken 30 = .ok (.ireturn, 1) := by decide +kernel
theorem dX7_has_0 : decode cX7_has 0 = .ok (.aload_n 0, 1) := by decide +kernel
theorem dX7_has_1 : decode cX7_has 1 = .ok (.iload_n 1, 1) := by decide +kernel
theorem dX7_has_2 : decode cX7_has 2 = .ok (.iconst 0, 1) := by decide +kernel
theorem dX7_has_3 : decode cX7_has 3 = .ok (.invokevirtual 107, 3) := by decide +kernel
theorem dX7_has_6 : decode cX7_has 6 = .ok (.iload_n 2, 1) := by decide +kernel
theorem dX7_has_7 : decode cX7_has 7 = .ok (.bipush 16, 2) := by decide +kernel
theorem dX7_has_9 : decode cX7_has 9 = .ok (.idiv, 1) := by decide +kernel
theorem dX7_has_10 : decode cX7_has 10 = .ok (.ishr, 1) := by decide +kernel
theorem dX7_has_11 : decode cX7_has 11 = .ok (.iconst 1, 1) := by decide +kernel
theorem dX7_has_12 : decode cX7_has 12 = .ok (.iand, 1) := by decide +kernel
theorem dX7_has_13 : decode cX7_has 13 = .ok (.iconst 1, 1) := by decide +kernel
theorem dX7_has_14 : decode cX7_has 14 = .ok (.if_icmp .ne 41, 3) := by decide +kernel
theorem dX7_has_17 : decode cX7_has 17 = .ok (.aload_n 0, 1) := by decide +kernel
theorem dX7_has_18 : decode cX7_has 18 = .ok (.iload_n 1, 1) := by decide +kernel
theorem dX7_has_19 : decode cX7_has 19 = .ok (.iconst 1, 1) := by decide +kernel
theorem dX7_has_20 : decode cX7_has 20 = .ok (.invokevirtual 107, 3) := by decide +kernel
theorem dX7_has_23 : decode cX7_has 23 = .ok (.iload_n 2, 1) := by decide +kernel
theorem dX7_has_24 : decode cX7_has 24 = .ok (.iconst 4, 1) := by decide +kernel
theorem dX7_has_25 : decode cX7_has 25 = .ok (.idiv, 1) := by decide +kernel
theorem dX7_has_26 : decode cX7_has 26 = .ok (.iconst 4, 1) := by decide +kernel
theorem dX7_has_27 : decode cX7_has 27 = .ok (.irem, 1) := by decide +kernel
theorem dX7_has_28 : decode cX7_has 28 = .ok (.ishr, 1) := by decide +kernel
theorem dX7_has_29 : decode cX7_has 29 = .ok (.iconst 1, 1) := by decide +kernel
theorem dX7_has_30 : decode cX7_has 30 = .ok (.iand, 1) := by decide +kernel
theorem dX7_has_31 : decode cX7_has 31 = .ok (.iconst 1, 1) := by decide +kernel
theorem dX7_has_32 : decode cX7_has 32 = .ok (.if_icmp .ne 23, 3) := by decide +kernel
theorem dX7_has_35 : decode cX7_has 35 = .ok (.aload_n 0, 1) := by decide +kernel
theorem dX7_has_36 : decode cX7_has 36 = .ok (.iload_n 1, 1) := by decide +kernel
theorem dX7_has_37 : decode cX7_has 37 = .ok (.iconst 2, 1) := by decide +kernel
theorem dX7_has_38 : decode cX7_has 38 = .ok (.invokevirtual 107, 3) := by decide +kernel
theorem dX7_has_41 : decode cX7_has 41 = .ok (.iload_n 2, 1) := by decide +kernel
theorem dX7_has_42 : decode cX7_has 42 = .ok (.iconst 4, 1) := by decide +kernel
theorem dX7_has_43 : decode cX7_has 43 = .ok (.irem, 1) := by decide +kernel
theorem dX7_has_44 : decode cX7_has 44 = .ok (.ishr, 1) := by decide +kernel
theorem dX7_has_45 : decode cX7_has 45 = .ok (.iconst 1, 1) := by decide +kernel
theorem dX7_has_46 : decode cX7_has 46 = .ok (.iand, 1) := by decide +kernel
theorem dX7_has_47 : decode cX7_has 47 = .ok (.iconst 1, 1) := by decide +kernel
theorem dX7_has_48 : decode cX7_has 48 = .ok (.if_icmp .ne 7, 3) := by decide +kernel
theorem dX7_has_51 : decode cX7_has 51 = .ok (.iconst 1, 1) := by decide +kernel
theorem dX7_has_52 : decode cX7_has 52 = .ok (.goto 4, 3) := by decide +kernel
theorem dX7_has_55 : decode cX7_has 55 = .ok (.iconst 0, 1) := by decide +kernel
theorem dX7_has_56 : decode cX7_has 56 = .ok (.istore 4, 2) := by decide +kernel
theorem dX7_has_58 : decode cX7_has 58 = .ok (.iload 4, 2) := by decide +kernel
theorem dX7_has_60 : decode cX7_has 60 = .ok (.ifCond .eq 26, 3) := by decide +kernel
theorem dX7_has_63 : decode cX7_has 63 = .ok (.iload_n 3, 1) := by decide +kernel
theorem dX7_has_64 : decode cX7_has 64 = .ok (.aload_n 0, 1) := by decide +kernel
theorem dX7_has_65 : decode cX7_has 65 = .ok (.iload_n 1, 1) := by decide +kernel
theorem dX7_has_66 : decode cX7_has 66 = .ok (.iconst 3, 1) := by decide +kernel
theorem dX7_has_67 : decode cX7_has 67 = .ok (.invokevirtual 107, 3) := by decide +kernel
theorem dX7_has_70 : decode cX7_has 70 = .ok (.aload_n 0, 1) := by decide +kernel
theorem dX7_has_71 : decode cX7_has 71 = .ok (.iload_n 1, 1) := by decide +kernel
theorem dX7_has_72 : decode cX7_has 72 = .ok (.iconst 4, 1) := by decide +kernel
theorem dX7_has_73 : decode cX7_has 73 = .ok (.invokevirtual 107, 3) := by decide +kernel
theorem dX7_has_76 : decode cX7_has 76 = .ok (.invokestatic 82, 3) := by decide +kernel
theorem dX7_has_79 : decode cX7_has 79 = .ok (.ifCond .eq 7, 3) := by decide +kernel
theorem dX7_has_82 : decode cX7_has 82 = .ok (.iconst 1, 1) := by decide +kernel
theorem dX7_has_83 : decode cX7_has 83 = .ok (.goto 4, 3) := by decide +kernel
theorem dX7_has_86 : decode cX7_has 86 = .ok (.iconst 0, 1) := by decide +kernel
theorem dX7_has_87 : decode cX7_has 87 = .ok (.ireturn, 1) := by decide +kernel
theorem dX7_soldAt_0 : decode cX7_soldAt 0 = .ok (.iconst 0, 1) := by decide +kernel
theorem dX7_soldAt_1 : decode cX7_soldAt 1 = .ok (.istore_n 3, 1) := by decide +kernel
theorem dX7_soldAt_2 : decode cX7_soldAt 2 = .ok (.iconst 0, 1) := by decide +kernel
theorem dX7_soldAt_3 : decode cX7_soldAt 3 = .ok (.istore 4, 2) := by decide +kernel
theorem dX7_soldAt_5 : decode cX7_soldAt 5 = .ok (.iload 4, 2) := by decide +kernel
theorem dX7_soldAt_7 : decode cX7_soldAt 7 = .ok (.aload_n 0, 1) := by decide +kernel
theorem dX7_soldAt_8 : decode cX7_soldAt 8 = .ok (.getfield 61, 3) := by decide +kernel
theorem dX7_soldAt_11 : decode cX7_soldAt 11 = .ok (.if_icmp .ge 37, 3) := by decide +kernel
theorem dX7_soldAt_14 : decode cX7_soldAt 14 = .ok (.iload_n 3, 1) := by decide +kernel
theorem dX7_soldAt_15 : decode cX7_soldAt 15 = .ok (.aload_n 0, 1) := by decide +kernel
theorem dX7_soldAt_16 : decode cX7_soldAt 16 = .ok (.iload 4, 2) := by decide +kernel
theorem dX7_soldAt_18 : decode cX7_soldAt 18 = .ok (.invokevirtual 125, 3) := by decide +kernel
theorem dX7_soldAt_21 : decode cX7_soldAt 21 = .ok (.ifCond .eq 18, 3) := by decide +kernel
theorem dX7_soldAt_24 : decode cX7_soldAt 24 = .ok (.aload_n 0, 1) := by decide +kernel
theorem dX7_soldAt_25 : decode cX7_soldAt 25 = .ok (.iload 4, 2) := by decide +kernel
theorem dX7_soldAt_27 : decode cX7_soldAt 27 = .ok (.iload_n 1, 1) := by decide +kernel
theorem dX7_soldAt_28 : decode cX7_soldAt 28 = .ok (.iload_n 2, 1) := by decide +kernel
theorem dX7_soldAt_29 : decode cX7_soldAt 29 = .ok (.invokevirtual 150, 3) := by decide +kernel
theorem dX7_soldAt_32 : decode cX7_soldAt 32 = .ok (.ifCond .eq 7, 3) := by decide +kernel
theorem dX7_soldAt_35 : decode cX7_soldAt 35 = .ok (.iconst 1, 1) := by decide +kernel
theorem dX7_soldAt_36 : decode cX7_soldAt 36 = .ok (.goto 4, 3) := by decide +kernel
theorem dX7_soldAt_39 : decode cX7_soldAt 39 = .ok (.iconst 0, 1) := by decide +kernel
theorem dX7_soldAt_40 : decode cX7_soldAt 40 = .ok (.iadd, 1) := by decide +kernel
theorem dX7_soldAt_41 : decode cX7_soldAt 41 = .ok (.istore_n 3, 1) := by decide +kernel
theorem dX7_soldAt_42 : decode cX7_soldAt 42 = .ok (.iinc 4 1, 3) := by decide +kernel
theorem dX7_soldAt_45 : decode cX7_soldAt 45 = .ok (.goto (-40), 3) := by decide +kernel
theorem dX7_soldAt_48 : decode cX7_soldAt 48 = .ok (.iload_n 3, 1) := by decide +kernel
theorem dX7_soldAt_49 : decode cX7_soldAt 49 = .ok (.ireturn, 1) := by decide +kernel
theorem dX7_isAloneAt_0 : decode cX7_isAloneAt 0 = .ok (.iconst 0, 1) := by decide +kernel
theorem dX7_isAloneAt_1 : decode cX7_isAloneAt 1 = .ok (.istore_n 3, 1) := by decide +kernel
theorem dX7_isAloneAt_2 : decode cX7_isAloneAt 2 = .ok (.iconst 0, 1) := by decide +kernel
theorem dX7_isAloneAt_3 : decode cX7_isAloneAt 3 = .ok (.istore 4, 2) := by decide +kernel
theorem dX7_isAloneAt_5 : decode cX7_isAloneAt 5 = .ok (.iload 4, 2) := by decide +kernel
theorem dX7_isAloneAt_7 : decode cX7_isAloneAt 7 = .ok (.aload_n 0, 1) := by decide +kernel
theorem dX7_isAloneAt_8 : decode cX7_isAloneAt 8 = .ok (.getfield 61, 3) := by decide +kernel
theorem dX7_isAloneAt_11 : decode cX7_isAloneAt 11 = .ok (.if_icmp .ge 50, 3) := by decide +kernel
theorem dX7_isAloneAt_14 : decode cX7_isAloneAt 14 = .ok (.iload_n 3, 1) := by decide +kernel
theorem dX7_isAloneAt_15 : decode cX7_isAloneAt 15 = .ok (.ifCond .ne 34, 3) := by decide +kernel
theorem dX7_isAloneAt_18 : decode cX7_isAloneAt 18 = .ok (.aload_n 0, 1) := by decide +kernel
theorem dX7_isAloneAt_19 : decode cX7_isAloneAt 19 = .ok (.iload 4, 2) := by decide +kernel
theorem dX7_isAloneAt_21 : decode cX7_isAloneAt 21 = .ok (.invokevirtual 125, 3) := by decide +kernel
theorem dX7_isAloneAt_24 : decode cX7_isAloneAt 24 = .ok (.ifCond .eq 29, 3) := by decide +kernel
end
section
theorem dX7_isAloneAt_27 : decode cX7_isAloneAt 27 = .ok (.aload_n 0, 1) := by decide +kernel
theorem dX7_isAloneAt_28 : decode cX7_isAloneAt 28 = .ok (.iload 4, 2) := by decide +kernel
theorem dX7_isAloneAt_30 : decode cX7_isAloneAt 30 = .ok (.iconst 5, 1) := by decide +kernel
theorem dX7_isAloneAt_31 : decode cX7_isAloneAt 31 = .ok (.invokevirtual 107, 3) := by decide +kernel
theorem dX7_isAloneAt_34 : decode cX7_isAloneAt 34 = .ok (.iconst 1, 1) := by decide +kernel
theorem dX7_isAloneAt_35 : decode cX7_isAloneAt 35 = .ok (.if_icmp .ne 18, 3) := by decide +kernel
theorem dX7_isAloneAt_38 : decode cX7_isAloneAt 38 = .ok (.aload_n 0, 1) := by decide +kernel
theorem dX7_isAloneAt_39 : decode cX7_isAloneAt 39 = .ok (.iload 4, 2) := by decide +kernel
theorem dX7_isAloneAt_41 : decode cX7_isAloneAt 41 = .ok (.iload_n 1, 1) := by decide +kernel
theorem dX7_isAloneAt_42 : decode cX7_isAloneAt 42 = .ok (.iload_n 2, 1) := by decide +kernel
theorem dX7_isAloneAt_43 : decode cX7_isAloneAt 43 = .ok (.invokevirtual 150, 3) := by decide +kernel
theorem dX7_isAloneAt_46 : decode cX7_isAloneAt 46 = .ok (.ifCond .eq 7, 3) := by decide +kernel
theorem dX7_isAloneAt_49 : decode cX7_isAloneAt 49 = .ok (.iconst 1, 1) := by decide +kernel
theorem dX7_isAloneAt_50 : decode cX7_isAloneAt 50 = .ok (.goto 4, 3) := by decide +kernel
theorem dX7_isAloneAt_53 : decode cX7_isAloneAt 53 = .ok (.iconst 0, 1) := by decide +kernel
theorem dX7_isAloneAt_54 : decode cX7_isAloneAt 54 = .ok (.istore_n 3, 1) := by decide +kernel
theorem dX7_isAloneAt_55 : decode cX7_isAloneAt 55 = .ok (.iinc 4 1, 3) := by decide +kernel
theorem dX7_isAloneAt_58 : decode cX7_isAloneAt 58 = .ok (.goto (-53), 3) := by decide +kernel
theorem dX7_isAloneAt_61 : decode cX7_isAloneAt 61 = .ok (.iload_n 3, 1) := by decide +kernel
theorem dX7_isAloneAt_62 : decode cX7_isAloneAt 62 = .ok (.ireturn, 1) := by decide +kernel
theorem dX7_isRow_0 : decode cX7_isRow 0 = .ok (.iload_n 0, 1) := by decide +kernel
theorem dX7_isRow_1 : decode cX7_isRow 1 = .ok (.iconst 0, 1) := by decide +kernel
theorem dX7_isRow_2 : decode cX7_isRow 2 = .ok (.iconst 5, 1) := by decide +kernel
theorem dX7_isRow_3 : decode cX7_isRow 3 = .ok (.invokestatic 82, 3) := by decide +kernel
theorem dX7_isRow_6 : decode cX7_isRow 6 = .ok (.ifCond .eq 25, 3) := by decide +kernel
theorem dX7_isRow_9 : decode cX7_isRow 9 = .ok (.iload_n 1, 1) := by decide +kernel
theorem dX7_isRow_10 : decode cX7_isRow 10 = .ok (.iconst 0, 1) := by decide +kernel
theorem dX7_isRow_11 : decode cX7_isRow 11 = .ok (.iconst 3, 1) := by decide +kernel
theorem dX7_isRow_12 : decode cX7_isRow 12 = .ok (.invokestatic 82, 3) := by decide +kernel
theorem dX7_isRow_15 : decode cX7_isRow 15 = .ok (.ifCond .eq 16, 3) := by decide +kernel
theorem dX7_isRow_18 : decode cX7_isRow 18 = .ok (.iload_n 2, 1) := by decide +kernel
theorem dX7_isRow_19 : decode cX7_isRow 19 = .ok (.iconst 0, 1) := by decide +kernel
theorem dX7_isRow_20 : decode cX7_isRow 20 = .ok (.iconst 3, 1) := by decide +kernel
theorem dX7_isRow_21 : decode cX7_isRow 21 = .ok (.invokestatic 82, 3) := by decide +kernel
theorem dX7_isRow_24 : decode cX7_isRow 24 = .ok (.ifCond .eq 7, 3) := by decide +kernel
theorem dX7_isRow_27 : decode cX7_isRow 27 = .ok (.iconst 1, 1) := by decide +kernel
theorem dX7_isRow_28 : decode cX7_isRow 28 = .ok (.goto 4, 3) := by decide +kernel
theorem dX7_isRow_31 : decode cX7_isRow 31 = .ok (.iconst 0, 1) := by decide +kernel
theorem dX7_isRow_32 : decode cX7_isRow 32 = .ok (.ireturn, 1) := by decide +kernel
theorem dX7_point_0 : decode cX7_point 0 = .ok (.iload_n 1, 1) := by decide +kernel
theorem dX7_point_1 : decode cX7_point 1 = .ok (.iload_n 2, 1) := by decide +kernel
theorem dX7_point_2 : decode cX7_point 2 = .ok (.iload_n 3, 1) := by decide +kernel
theorem dX7_point_3 : decode cX7_point 3 = .ok (.invokestatic 153, 3) := by decide +kernel
theorem dX7_point_6 : decode cX7_point 6 = .ok (.ifCond .eq 29, 3) := by decide +kernel
theorem dX7_point_9 : decode cX7_point 9 = .ok (.iload 4, 2) := by decide +kernel
theorem dX7_point_11 : decode cX7_point 11 = .ok (.aload_n 0, 1) := by decide +kernel
theorem dX7_point_12 : decode cX7_point 12 = .ok (.getfield 67, 3) := by decide +kernel
theorem dX7_point_15 : decode cX7_point 15 = .ok (.aload_n 0, 1) := by decide +kernel
theorem dX7_point_16 : decode cX7_point 16 = .ok (.getfield 70, 3) := by decide +kernel
theorem dX7_point_19 : decode cX7_point 19 = .ok (.invokestatic 82, 3) := by decide +kernel
theorem dX7_point_22 : decode cX7_point 22 = .ok (.ifCond .eq 13, 3) := by decide +kernel
theorem dX7_point_25 : decode cX7_point 25 = .ok (.iload 5, 2) := by decide +kernel
theorem dX7_point_27 : decode cX7_point 27 = .ok (.iconst 0, 1) := by decide +kernel
theorem dX7_point_28 : decode cX7_point 28 = .ok (.iconst 1, 1) := by decide +kernel
theorem dX7_point_29 : decode cX7_point 29 = .ok (.invokestatic 82, 3) := by decide +kernel
theorem dX7_point_32 : decode cX7_point 32 = .ok (.ifCond .ne 5, 3) := by decide +kernel
theorem dX7_point_35 : decode cX7_point 35 = .ok (.iconst (-1), 1) := by decide +kernel
theorem dX7_point_36 : decode cX7_point 36 = .ok (.ireturn, 1) := by decide +kernel
theorem dX7_point_37 : decode cX7_point 37 = .ok (.bipush 16, 2) := by decide +kernel
theorem dX7_point_39 : decode cX7_point 39 = .ok (.iload_n 1, 1) := by decide +kernel
theorem dX7_point_40 : decode cX7_point 40 = .ok (.imul, 1) := by decide +kernel
theorem dX7_point_41 : decode cX7_point 41 = .ok (.iconst 4, 1) := by decide +kernel
theorem dX7_point_42 : decode cX7_point 42 = .ok (.iload_n 2, 1) := by decide +kernel
theorem dX7_point_43 : decode cX7_point 43 = .ok (.imul, 1) := by decide +kernel
theorem dX7_point_44 : decode cX7_point 44 = .ok (.iadd, 1) := by decide +kernel
theorem dX7_point_45 : decode cX7_point 45 = .ok (.iload_n 3, 1) := by decide +kernel
theorem dX7_point_46 : decode cX7_point 46 = .ok (.iadd, 1) := by decide +kernel
theorem dX7_point_47 : decode cX7_point 47 = .ok (.istore 6, 2) := by decide +kernel
theorem dX7_point_49 : decode cX7_point 49 = .ok (.iload 5, 2) := by decide +kernel
theorem dX7_point_51 : decode cX7_point 51 = .ok (.ifCond .ne 14, 3) := by decide +kernel
theorem dX7_point_54 : decode cX7_point 54 = .ok (.aload_n 0, 1) := by decide +kernel
theorem dX7_point_55 : decode cX7_point 55 = .ok (.iload 6, 2) := by decide +kernel
theorem dX7_point_57 : decode cX7_point 57 = .ok (.iload 4, 2) := by decide +kernel
theorem dX7_point_59 : decode cX7_point 59 = .ok (.invokevirtual 156, 3) := by decide +kernel
theorem dX7_point_62 : decode cX7_point 62 = .ok (.goto 19, 3) := by decide +kernel
theorem dX7_point_65 : decode cX7_point 65 = .ok (.aload_n 0, 1) := by decide +kernel
theorem dX7_point_66 : decode cX7_point 66 = .ok (.iload 6, 2) := by decide +kernel
theorem dX7_point_68 : decode cX7_point 68 = .ok (.iload 4, 2) := by decide +kernel
theorem dX7_point_70 : decode cX7_point 70 = .ok (.invokevirtual 159, 3) := by decide +kernel
theorem dX7_point_73 : decode cX7_point 73 = .ok (.ifCond .eq 7, 3) := by decide +kernel
theorem dX7_point_76 : decode cX7_point 76 = .ok (.iconst 1, 1) := by decide +kernel
theorem dX7_point_77 : decode cX7_point 77 = .ok (.goto 4, 3) := by decide +kernel
theorem dX7_point_80 : decode cX7_point 80 = .ok (.iconst 0, 1) := by decide +kernel
theorem dX7_point_81 : decode cX7_point 81 = .ok (.ireturn, 1) := by decide +kernel
theorem dX7_points_0 : decode cX7_points 0 = .ok (.iload_n 1, 1) := by decide +kernel
theorem dX7_points_1 : decode cX7_points 1 = .ok (.iconst 0, 1) := by decide +kernel
theorem dX7_points_2 : decode cX7_points 2 = .ok (.iconst 4, 1) := by decide +kernel
theorem dX7_points_3 : decode cX7_points 3 = .ok (.invokestatic 82, 3) := by decide +kernel
theorem dX7_points_6 : decode cX7_points 6 = .ok (.ifCond .ne 5, 3) := by decide +kernel
theorem dX7_points_9 : decode cX7_points 9 = .ok (.iconst (-1), 1) := by decide +kernel
theorem dX7_points_10 : decode cX7_points 10 = .ok (.ireturn, 1) := by decide +kernel
theorem dX7_points_11 : decode cX7_points 11 = .ok (.iconst 0, 1) := by decide +kernel
theorem dX7_points_12 : decode cX7_points 12 = .ok (.istore_n 2, 1) := by decide +kernel
theorem dX7_points_13 : decode cX7_points 13 = .ok (.iconst 0, 1) := by decide +kernel
theorem dX7_points_14 : decode cX7_points 14 = .ok (.istore_n 3, 1) := by decide +kernel
theorem dX7_points_15 : decode cX7_points 15 = .ok (.iload_n 3, 1) := by decide +kernel
theorem dX7_points_16 : decode cX7_points 16 = .ok (.bipush 96, 2) := by decide +kernel
theorem dX7_points_18 : decode cX7_points 18 = .ok (.if_icmp .ge 109, 3) := by decide +kernel
theorem dX7_points_21 : decode cX7_points 21 = .ok (.aload_n 0, 1) := by decide +kernel
theorem dX7_points_22 : decode cX7_points 22 = .ok (.getfield 67, 3) := by decide +kernel
theorem dX7_points_25 : decode cX7_points 25 = .ok (.istore 4, 2) := by decide +kernel
theorem dX7_points_27 : decode cX7_points 27 = .ok (.iload 4, 2) := by decide +kernel
theorem dX7_points_29 : decode cX7_points 29 = .ok (.aload_n 0, 1) := by decide +kernel
theorem dX7_points_30 : decode cX7_points 30 = .ok (.getfield 70, 3) := by decide +kernel
theorem dX7_points_33 : decode cX7_points 33 = .ok (.if_icmp .gt 88, 3) := by decide +kernel
theorem dX7_points_36 : decode cX7_points 36 = .ok (.aload_n 0, 1) := by decide +kernel
theorem dX7_points_37 : decode cX7_points 37 = .ok (.iload_n 3, 1) := by decide +kernel
theorem dX7_points_38 : decode cX7_points 38 = .ok (.iload 4, 2) := by decide +kernel
theorem dX7_points_40 : decode cX7_points 40 = .ok (.invokevirtual 156, 3) := by decide +kernel
theorem dX7_points_43 : decode cX7_points 43 = .ok (.istore 5, 2) := by decide +kernel
theorem dX7_points_45 : decode cX7_points 45 = .ok (.iload_n 1, 1) := by decide +kernel
theorem dX7_points_46 : decode cX7_points 46 = .ok (.ifCond .eq 49, 3) := by decide +kernel
theorem dX7_points_49 : decode cX7_points 49 = .ok (.iload_n 1, 1) := by decide +kernel
theorem dX7_points_50 : decode cX7_points 50 = .ok (.iconst 1, 1) := by decide +kernel
theorem dX7_points_51 : decode cX7_points 51 = .ok (.if_icmp .ne 8, 3) := by decide +kernel
theorem dX7_points_54 : decode cX7_points 54 = .ok (.iload 5, 2) := by decide +kernel
theorem dX7_points_56 : decode cX7_points 56 = .ok (.ifCond .gt 39, 3) := by decide +kernel
theorem dX7_points_59 : decode cX7_points 59 = .ok (.iload_n 1, 1) := by decide +kernel
theorem dX7_points_60 : decode cX7_points 60 = .ok (.iconst 2, 1) := by decide +kernel
theorem dX7_points_61 : decode cX7_points 61 = .ok (.if_icmp .ne 9, 3) := by decide +kernel
theorem dX7_points_64 : decode cX7_points 64 = .ok (.iload 5, 2) := by decide +kernel
theorem dX7_points_66 : decode cX7_points 66 = .ok (.iconst 1, 1) := by decide +kernel
theorem dX7_points_67 : decode cX7_points 67 = .ok (.if_icmp .gt 28, 3) := by decide +kernel
theorem dX7_points_70 : decode cX7_points 70 = .ok (.iload_n 1, 1) := by decide +kernel
theorem dX7_points_71 : decode cX7_points 71 = .ok (.iconst 3, 1) := by decide +kernel
theorem dX7_points_72 : decode cX7_points 72 = .ok (.if_icmp .ne 13, 3) := by decide +kernel
theorem dX7_points_75 : decode cX7_points 75 = .ok (.aload_n 0, 1) := by decide +kernel
theorem dX7_points_76 : decode cX7_points 76 = .ok (.iload_n 3, 1) := by decide +kernel
theorem dX7_points_77 : decode cX7_points 77 = .ok (.iload 4, 2) := by decide +kernel
theorem dX7_points_79 : decode cX7_points 79 = .ok (.invokevirtual 159, 3) := by decide +kernel
theorem dX7_points_82 : decode cX7_points 82 = .ok (.ifCond .ne 13, 3) := by decide +kernel
theorem dX7_points_85 : decode cX7_points 85 = .ok (.iload_n 1, 1) := by decide +kernel
theorem dX7_points_86 : decode cX7_points 86 = .ok (.iconst 4, 1) := by decide +kernel
theorem dX7_points_87 : decode cX7_points 87 = .ok (.if_icmp .ne 12, 3) := by decide +kernel
theorem dX7_points_90 : decode cX7_points 90 = .ok (.iload 5, 2) := by decide +kernel
theorem dX7_points_92 : decode cX7_points 92 = .ok (.ifCond .ne 7, 3) := by decide +kernel
theorem dX7_points_95 : decode cX7_points 95 = .ok (.iconst 1, 1) := by decide +kernel
theorem dX7_points_96 : decode cX7_points 96 = .ok (.goto 4, 3) := by decide +kernel
theorem dX7_points_99 : decode cX7_points 99 = .ok (.iconst 0, 1) := by decide +kernel
theorem dX7_points_100 : decode cX7_points 100 = .ok (.istore 6, 2) := by decide +kernel
theorem dX7_points_102 : decode cX7_points 102 = .ok (.iload_n 2, 1) := by decide +kernel
theorem dX7_points_103 : decode cX7_points 103 = .ok (.iload 6, 2) := by decide +kernel
theorem dX7_points_105 : decode cX7_points 105 = .ok (.ifCond .eq 7, 3) := by decide +kernel
theorem dX7_points_108 : decode cX7_points 108 = .ok (.iconst 1, 1) := by decide +kernel
theorem dX7_points_109 : decode cX7_points 109 = .ok (.goto 4, 3) := by decide +kernel
theorem dX7_points_112 : decode cX7_points 112 = .ok (.iconst 0, 1) := by decide +kernel
theorem dX7_points_113 : decode cX7_points 113 = .ok (.iadd, 1) := by decide +kernel
theorem dX7_points_114 : decode cX7_points 114 = .ok (.istore_n 2, 1) := by decide +kernel
theorem dX7_points_115 : decode cX7_points 115 = .ok (.iinc 4 1, 3) := by decide +kernel
theorem dX7_points_118 : decode cX7_points 118 = .ok (.goto (-91), 3) := by decide +kernel
theorem dX7_points_121 : decode cX7_points 121 = .ok (.iinc 3 1, 3) := by decide +kernel
theorem dX7_points_124 : decode cX7_points 124 = .ok (.goto (-109), 3) := by decide +kernel
theorem dX7_points_127 : decode cX7_points 127 = .ok (.iload_n 2, 1) := by decide +kernel
theorem dX7_points_128 : decode cX7_points 128 = .ok (.ireturn, 1) := by decide +kernel
theorem dX7_findWindow_0 : decode cX7_findWindow 0 = .ok (.aload_n 0, 1) := by decide +kernel
theorem dX7_findWindow_1 : decode cX7_findWindow 1 = .ok (.iload_n 2, 1) := by decide +kernel
theorem dX7_findWindow_2 : decode cX7_findWindow 2 = .ok (.putfield 162, 3) := by decide +kernel
theorem dX7_findWindow_5 : decode cX7_findWindow 5 = .ok (.aload_n 0, 1) := by decide +kernel
theorem dX7_findWindow_6 : decode cX7_findWindow 6 = .ok (.getfield 162, 3) := by decide +kernel
theorem dX7_findWindow_9 : decode cX7_findWindow 9 = .ok (.aload_n 0, 1) := by decide +kernel
theorem dX7_findWindow_10 : decode cX7_findWindow 10 = .ok (.getfield 70, 3) := by decide +kernel
theorem dX7_findWindow_13 : decode cX7_findWindow 13 = .ok (.if_icmp .gt 28, 3) := by decide +kernel
theorem dX7_findWindow_16 : decode cX7_findWindow 16 = .ok (.aload_n 0, 1) := by decide +kernel
theorem dX7_findWindow_17 : decode cX7_findWindow 17 = .ok (.iload_n 1, 1) := by decide +kernel
theorem dX7_findWindow_18 : decode cX7_findWindow 18 = .ok (.aload_n 0, 1) := by decide +kernel
theorem dX7_findWindow_19 : decode cX7_findWindow 19 = .ok (.getfield 162, 3) := by decide +kernel
theorem dX7_findWindow_22 : decode cX7_findWindow 22 = .ok (.invokevirtual 156, 3) := by decide +kernel
theorem dX7_findWindow_25 : decode cX7_findWindow 25 = .ok (.ifCond .le 16, 3) := by decide +kernel
theorem dX7_findWindow_28 : decode cX7_findWindow 28 = .ok (.aload_n 0, 1) := by decide +kernel
theorem dX7_findWindow_29 : decode cX7_findWindow 29 = .ok (.dup, 1) := by decide +kernel
theorem dX7_findWindow_30 : decode cX7_findWindow 30 = .ok (.getfield 162, 3) := by decide +kernel
theorem dX7_findWindow_33 : decode cX7_findWindow 33 = .ok (.iconst 1, 1) := by decide +kernel
theorem dX7_findWindow_34 : decode cX7_findWindow 34 = .ok (.iadd, 1) := by decide +kernel
theorem dX7_findWindow_35 : decode cX7_findWindow 35 = .ok (.putfield 162, 3) := by decide +kernel
theorem dX7_findWindow_38 : decode cX7_findWindow 38 = .ok (.goto (-33), 3) := by decide +kernel
theorem dX7_findWindow_41 : decode cX7_findWindow 41 = .ok (.aload_n 0, 1) := by decide +kernel
theorem dX7_findWindow_42 : decode cX7_findWindow 42 = .ok (.aload_n 0, 1) := by decide +kernel
theorem dX7_findWindow_43 : decode cX7_findWindow 43 = .ok (.getfield 162, 3) := by decide +kernel
theorem dX7_findWindow_46 : decode cX7_findWindow 46 = .ok (.putfield 165, 3) := by decide +kernel
theorem dX7_findWindow_49 : decode cX7_findWindow 49 = .ok (.aload_n 0, 1) := by decide +kernel
theorem dX7_findWindow_50 : decode cX7_findWindow 50 = .ok (.getfield 165, 3) := by decide +kernel
theorem dX7_findWindow_53 : decode cX7_findWindow 53 = .ok (.aload_n 0, 1) := by decide +kernel
theorem dX7_findWindow_54 : decode cX7_findWindow 54 = .ok (.getfield 70, 3) := by decide +kernel
theorem dX7_findWindow_57 : decode cX7_findWindow 57 = .ok (.if_icmp .ge 30, 3) := by decide +kernel
theorem dX7_findWindow_60 : decode cX7_findWindow 60 = .ok (.aload_n 0, 1) := by decide +kernel
theorem dX7_findWindow_61 : decode cX7_findWindow 61 = .ok (.iload_n 1, 1) := by decide +kernel
theorem dX7_findWindow_62 : decode cX7_findWindow 62 = .ok (.aload_n 0, 1) := by decide +kernel
theorem dX7_findWindow_63 : decode cX7_findWindow 63 = .ok (.getfield 165, 3) := by decide +kernel
theorem dX7_findWindow_66 : decode cX7_findWindow 66 = .ok (.iconst 1, 1) := by decide +kernel
theorem dX7_findWindow_67 : decode cX7_findWindow 67 = .ok (.iadd, 1) := by decide +kernel
theorem dX7_findWindow_68 : decode cX7_findWindow 68 = .ok (.invokevirtual 156, 3) := by decide +kernel
theorem dX7_findWindow_71 : decode cX7_findWindow 71 = .ok (.ifCond .ne 16, 3) := by decide +kernel
theorem dX7_findWindow_74 : decode cX7_findWindow 74 = .ok (.aload_n 0, 1) := by decide +kernel
theorem dX7_findWindow_75 : decode cX7_findWindow 75 = .ok (.dup, 1) := by decide +kernel
theorem dX7_findWindow_76 : decode cX7_findWindow 76 = .ok (.getfield 165, 3) := by decide +kernel
theorem dX7_findWindow_79 : decode cX7_findWindow 79 = .ok (.iconst 1, 1) := by decide +kernel
theorem dX7_findWindow_80 : decode cX7_findWindow 80 = .ok (.iadd, 1) := by decide +kernel
theorem dX7_findWindow_81 : decode cX7_findWindow 81 = .ok (.putfield 165, 3) := by decide +kernel
theorem dX7_findWindow_84 : decode cX7_findWindow 84 = .ok (.goto (-35), 3) := by decide +kernel
theorem dX7_findWindow_87 : decode cX7_findWindow 87 = .ok (.aload_n 0, 1) := by decide +kernel
theorem dX7_findWindow_88 : decode cX7_findWindow 88 = .ok (.getfield 162, 3) := by decide +kernel
theorem dX7_findWindow_91 : decode cX7_findWindow 91 = .ok (.aload_n 0, 1) := by decide +kernel
theorem dX7_findWindow_92 : decode cX7_findWindow 92 = .ok (.getfield 70, 3) := by decide +kernel
theorem dX7_findWindow_95 : decode cX7_findWindow 95 = .ok (.if_icmp .gt 7, 3) := by decide +kernel
theorem dX7_findWindow_98 : decode cX7_findWindow 98 = .ok (.iconst 1, 1) := by decide +kernel
theorem dX7_findWindow_99 : decode cX7_findWindow 99 = .ok (.goto 4, 3) := by decide +kernel
theorem dX7_findWindow_102 : decode cX7_findWindow 102 = .ok (.iconst 0, 1) := by decide +kernel
theorem dX7_findWindow_103 : decode cX7_findWindow 103 = .ok (.ireturn, 1) := by decide +kernel
theorem dX7_window_0 : decode cX7_window 0 = .ok (.iload_n 1, 1) := by decide +kernel
theorem dX7_window_1 : decode cX7_window 1 = .ok (.iload_n 2, 1) := by decide +kernel
theorem dX7_window_2 : decode cX7_window 2 = .ok (.iload_n 3, 1) := by decide +kernel
theorem dX7_window_3 : decode cX7_window 3 = .ok (.invokestatic 153, 3) := by decide +kernel
theorem dX7_window_6 : decode cX7_window 6 = .ok (.ifCond .eq 19, 3) := by decide +kernel
theorem dX7_window_9 : decode cX7_window 9 = .ok (.iload 4, 2) := by decide +kernel
theorem dX7_window_11 : decode cX7_window 11 = .ok (.iconst (-1), 1) := by decide +kernel
theorem dX7_window_12 : decode cX7_window 12 = .ok (.if_icmp .lt 13, 3) := by decide +kernel
theorem dX7_window_15 : decode cX7_window 15 = .ok (.iload 5, 2) := by decide +kernel
theorem dX7_window_17 : decode cX7_window 17 = .ok (.iconst 0, 1) := by decide +kernel
theorem dX7_window_18 : decode cX7_window 18 = .ok (.iconst 1, 1) := by decide +kernel
theorem dX7_window_19 : decode cX7_window 19 = .ok (.invokestatic 82, 3) := by decide +kernel
theorem dX7_window_22 : decode cX7_window 22 = .ok (.ifCond .ne 5, 3) := by decide +kernel
theorem dX7_window_25 : decode cX7_window 25 = .ok (.iconst (-1), 1) := by decide +kernel
theorem dX7_window_26 : decode cX7_window 26 = .ok (.ireturn, 1) := by decide +kernel
theorem dX7_window_27 : decode cX7_window 27 = .ok (.bipush 16, 2) := by decide +kernel
theorem dX7_window_29 : decode cX7_window 29 = .ok (.iload_n 1, 1) := by decide +kernel
theorem dX7_window_30 : decode cX7_window 30 = .ok (.imul, 1) := by decide +kernel
theorem dX7_window_31 : decode cX7_window 31 = .ok (.iconst 4, 1) := by decide +kernel
theorem dX7_window_32 : decode cX7_window 32 = .ok (.iload_n 2, 1) := by decide +kernel
theorem dX7_window_33 : decode cX7_window 33 = .ok (.imul, 1) := by decide +kernel
theorem dX7_window_34 : decode cX7_window 34 = .ok (.iadd, 1) := by decide +kernel
theorem dX7_window_35 : decode cX7_window 35 = .ok (.iload_n 3, 1) := by decide +kernel
theorem dX7_window_36 : decode cX7_window 36 = .ok (.iadd, 1) := by decide +kernel
theorem dX7_window_37 : decode cX7_window 37 = .ok (.istore 6, 2) := by decide +kernel
theorem dX7_window_39 : decode cX7_window 39 = .ok (.iconst 0, 1) := by decide +kernel
theorem dX7_window_40 : decode cX7_window 40 = .ok (.istore 7, 2) := by decide +kernel
theorem dX7_window_42 : decode cX7_window 42 = .ok (.aload_n 0, 1) := by decide +kernel
theorem dX7_window_43 : decode cX7_window 43 = .ok (.getfield 67, 3) := by decide +kernel
theorem dX7_window_46 : decode cX7_window 46 = .ok (.istore 8, 2) := by decide +kernel
theorem dX7_window_48 : decode cX7_window 48 = .ok (.aload_n 0, 1) := by decide +kernel
theorem dX7_window_49 : decode cX7_window 49 = .ok (.iload 6, 2) := by decide +kernel
theorem dX7_window_51 : decode cX7_window 51 = .ok (.iload 8, 2) := by decide +kernel
theorem dX7_window_53 : decode cX7_window 53 = .ok (.invokevirtual 168, 3) := by decide +kernel
theorem dX7_window_56 : decode cX7_window 56 = .ok (.ifCond .eq 41, 3) := by decide +kernel
theorem dX7_window_59 : decode cX7_window 59 = .ok (.iload 7, 2) := by decide +kernel
theorem dX7_window_61 : decode cX7_window 61 = .ok (.iload 4, 2) := by decide +kernel
theorem dX7_window_63 : decode cX7_window 63 = .ok (.if_icmp .ne 20, 3) := by decide +kernel
theorem dX7_window_66 : decode cX7_window 66 = .ok (.iload 5, 2) := by decide +kernel
theorem dX7_window_68 : decode cX7_window 68 = .ok (.ifCond .ne 10, 3) := by decide +kernel
theorem dX7_window_71 : decode cX7_window 71 = .ok (.aload_n 0, 1) := by decide +kernel
theorem dX7_window_72 : decode cX7_window 72 = .ok (.getfield 162, 3) := by decide +kernel
theorem dX7_window_75 : decode cX7_window 75 = .ok (.goto 7, 3) := by decide +kernel
theorem dX7_window_78 : decode cX7_window 78 = .ok (.aload_n 0, 1) := by decide +kernel
theorem dX7_window_79 : decode cX7_window 79 = .ok (.getfield 165, 3) := by decide +kernel
theorem dX7_window_82 : decode cX7_window 82 = .ok (.ireturn, 1) := by decide +kernel
theorem dX7_window_83 : decode cX7_window 83 = .ok (.iinc 7 1, 3) := by decide +kernel
theorem dX7_window_86 : decode cX7_window 86 = .ok (.aload_n 0, 1) := by decide +kernel
theorem dX7_window_87 : decode cX7_window 87 = .ok (.getfield 165, 3) := by decide +kernel
theorem dX7_window_90 : decode cX7_window 90 = .ok (.iconst 1, 1) := by decide +kernel
theorem dX7_window_91 : decode cX7_window 91 = .ok (.iadd, 1) := by decide +kernel
theorem dX7_window_92 : decode cX7_window 92 = .ok (.istore 8, 2) := by decide +kernel
theorem dX7_window_94 : decode cX7_window 94 = .ok (.goto (-46), 3) := by decide +kernel
theorem dX7_window_97 : decode cX7_window 97 = .ok (.iload 4, 2) := by decide +kernel
theorem dX7_window_99 : decode cX7_window 99 = .ok (.iconst (-1), 1) := by decide +kernel
theorem dX7_window_100 : decode cX7_window 100 = .ok (.if_icmp .ne 8, 3) := by decide +kernel
theorem dX7_window_103 : decode cX7_window 103 = .ok (.iload 7, 2) := by decide +kernel
theorem dX7_window_105 : decode cX7_window 105 = .ok (.goto 5, 3) := by decide +kernel
theorem dX7_window_108 : decode cX7_window 108 = .ok (.bipush (-4), 2) := by decide +kernel
theorem dX7_window_110 : decode cX7_window 110 = .ok (.ireturn, 1) := by decide +kernel
theorem dX7_longest_0 : decode cX7_longest 0 = .ok (.iload_n 1, 1) := by decide +kernel
theorem dX7_longest_1 : decode cX7_longest 1 = .ok (.iconst 0, 1) := by decide +kernel
theorem dX7_longest_2 : decode cX7_longest 2 = .ok (.iconst 4, 1) := by decide +kernel
theorem dX7_longest_3 : decode cX7_longest 3 = .ok (.invokestatic 82, 3) := by decide +kernel
theorem dX7_longest_6 : decode cX7_longest 6 = .ok (.ifCond .ne 5, 3) := by decide +kernel
theorem dX7_longest_9 : decode cX7_longest 9 = .ok (.iconst (-1), 1) := by decide +kernel
theorem dX7_longest_10 : decode cX7_longest 10 = .ok (.ireturn, 1) := by decide +kernel
theorem dX7_longest_11 : decode cX7_longest 11 = .ok (.iconst 0, 1) := by decide +kernel
theorem dX7_longest_12 : decode cX7_longest 12 = .ok (.istore_n 2, 1) := by decide +kernel
theorem dX7_longest_13 : decode cX7_longest 13 = .ok (.bipush (-4), 2) := by decide +kernel
theorem dX7_longest_15 : decode cX7_longest 15 = .ok (.istore_n 3, 1) := by decide +kernel
theorem dX7_longest_16 : decode cX7_longest 16 = .ok (.bipush (-4), 2) := by decide +kernel
theorem dX7_longest_18 : decode cX7_longest 18 = .ok (.istore 4, 2) := by decide +kernel
theorem dX7_longest_20 : decode cX7_longest 20 = .ok (.iconst 0, 1) := by decide +kernel
theorem dX7_longest_21 : decode cX7_longest 21 = .ok (.istore 5, 2) := by decide +kernel
theorem dX7_longest_23 : decode cX7_longest 23 = .ok (.iload 5, 2) := by decide +kernel
theorem dX7_longest_25 : decode cX7_longest 25 = .ok (.bipush 96, 2) := by decide +kernel
theorem dX7_longest_27 : decode cX7_longest 27 = .ok (.if_icmp .ge 93, 3) := by decide +kernel
theorem dX7_longest_30 : decode cX7_longest 30 = .ok (.aload_n 0, 1) := by decide +kernel
theorem dX7_longest_31 : decode cX7_longest 31 = .ok (.getfield 67, 3) := by decide +kernel
theorem dX7_longest_34 : decode cX7_longest 34 = .ok (.istore 6, 2) := by decide +kernel
theorem dX7_longest_36 : decode cX7_longest 36 = .ok (.aload_n 0, 1) := by decide +kernel
theorem dX7_longest_37 : decode cX7_longest 37 = .ok (.iload 5, 2) := by decide +kernel
theorem dX7_longest_39 : decode cX7_longest 39 = .ok (.iload 6, 2) := by decide +kernel
theorem dX7_longest_41 : decode cX7_longest 41 = .ok (.invokevirtual 168, 3) := by decide +kernel
theorem dX7_longest_44 : decode cX7_longest 44 = .ok (.ifCond .eq 70, 3) := by decide +kernel
theorem dX7_longest_47 : decode cX7_longest 47 = .ok (.aload_n 0, 1) := by decide +kernel
theorem dX7_longest_48 : decode cX7_longest 48 = .ok (.getfield 165, 3) := by decide +kernel
theorem dX7_longest_51 : decode cX7_longest 51 = .ok (.aload_n 0, 1) := by decide +kernel
theorem dX7_longest_52 : decode cX7_longest 52 = .ok (.getfield 162, 3) := by decide +kernel
theorem dX7_longest_55 : decode cX7_longest 55 = .ok (.isub, 1) := by decide +kernel
theorem dX7_longest_56 : decode cX7_longest 56 = .ok (.iconst 1, 1) := by decide +kernel
theorem dX7_longest_57 : decode cX7_longest 57 = .ok (.iadd, 1) := by decide +kernel
theorem dX7_longest_58 : decode cX7_longest 58 = .ok (.istore 7, 2) := by decide +kernel
theorem dX7_longest_60 : decode cX7_longest 60 = .ok (.iload 7, 2) := by decide +kernel
theorem dX7_longest_62 : decode cX7_longest 62 = .ok (.iload_n 2, 1) := by decide +kernel
theorem dX7_longest_63 : decode cX7_longest 63 = .ok (.if_icmp .le 8, 3) := by decide +kernel
theorem dX7_longest_66 : decode cX7_longest 66 = .ok (.iload 5, 2) := by decide +kernel
theorem dX7_longest_68 : decode cX7_longest 68 = .ok (.goto 4, 3) := by decide +kernel
theorem dX7_longest_71 : decode cX7_longest 71 = .ok (.iload_n 3, 1) := by decide +kernel
theorem dX7_longest_72 : decode cX7_longest 72 = .ok (.istore_n 3, 1) := by decide +kernel
theorem dX7_longest_73 : decode cX7_longest 73 = .ok (.iload 7, 2) := by decide +kernel
theorem dX7_longest_75 : decode cX7_longest 75 = .ok (.iload_n 2, 1) := by decide +kernel
theorem dX7_longest_76 : decode cX7_longest 76 = .ok (.if_icmp .le 10, 3) := by decide +kernel
theorem dX7_longest_79 : decode cX7_longest 79 = .ok (.aload_n 0, 1) := by decide +kernel
theorem dX7_longest_80 : decode cX7_longest 80 = .ok (.getfield 162, 3) := by decide +kernel
theorem dX7_longest_83 : decode cX7_longest 83 = .ok (.goto 5, 3) := by decide +kernel
theorem dX7_longest_86 : decode cX7_longest 86 = .ok (.iload 4, 2) := by decide +kernel
theorem dX7_longest_88 : decode cX7_longest 88 = .ok (.istore 4, 2) := by decide +kernel
theorem dX7_longest_90 : decode cX7_longest 90 = .ok (.iload 7, 2) := by decide +kernel
theorem dX7_longest_92 : decode cX7_longest 92 = .ok (.iload_n 2, 1) := by decide +kernel
theorem dX7_longest_93 : decode cX7_longest 93 = .ok (.if_icmp .le 8, 3) := by decide +kernel
theorem dX7_longest_96 : decode cX7_longest 96 = .ok (.iload 7, 2) := by decide +kernel
theorem dX7_longest_98 : decode cX7_longest 98 = .ok (.goto 4, 3) := by decide +kernel
theorem dX7_longest_101 : decode cX7_longest 101 = .ok (.iload_n 2, 1) := by decide +kernel
theorem dX7_longest_102 : decode cX7_longest 102 = .ok (.istore_n 2, 1) := by decide +kernel
theorem dX7_longest_103 : decode cX7_longest 103 = .ok (.aload_n 0, 1) := by decide +kernel
theorem dX7_longest_104 : decode cX7_longest 104 = .ok (.getfield 165, 3) := by decide +kernel
theorem dX7_longest_107 : decode cX7_longest 107 = .ok (.iconst 1, 1) := by decide +kernel
theorem dX7_longest_108 : decode cX7_longest 108 = .ok (.iadd, 1) := by decide +kernel
theorem dX7_longest_109 : decode cX7_longest 109 = .ok (.istore 6, 2) := by decide +kernel
theorem dX7_longest_111 : decode cX7_longest 111 = .ok (.goto (-75), 3) := by decide +kernel
theorem dX7_longest_114 : decode cX7_longest 114 = .ok (.iinc 5 1, 3) := by decide +kernel
theorem dX7_longest_117 : decode cX7_longest 117 = .ok (.goto (-94), 3) := by decide +kernel
theorem dX7_longest_120 : decode cX7_longest 120 = .ok (.iload_n 3, 1) := by decide +kernel
theorem dX7_longest_121 : decode cX7_longest 121 = .ok (.bipush (-4), 2) := by decide +kernel
theorem dX7_longest_123 : decode cX7_longest 123 = .ok (.if_icmp .ne 6, 3) := by decide +kernel
theorem dX7_longest_126 : decode cX7_longest 126 = .ok (.bipush (-4), 2) := by decide +kernel
theorem dX7_longest_128 : decode cX7_longest 128 = .ok (.ireturn, 1) := by decide +kernel
theorem dX7_longest_129 : decode cX7_longest 129 = .ok (.iload_n 1, 1) := by decide +kernel
theorem dX7_longest_130 : decode cX7_longest 130 = .ok (.ifCond .ne 7, 3) := by decide +kernel
theorem dX7_longest_133 : decode cX7_longest 133 = .ok (.iload_n 2, 1) := by decide +kernel
theorem dX7_longest_134 : decode cX7_longest 134 = .ok (.goto 41, 3) := by decide +kernel
theorem dX7_longest_137 : decode cX7_longest 137 = .ok (.iload_n 1, 1) := by decide +kernel
theorem dX7_longest_138 : decode cX7_longest 138 = .ok (.iconst 1, 1) := by decide +kernel
theorem dX7_longest_139 : decode cX7_longest 139 = .ok (.if_icmp .ne 10, 3) := by decide +kernel
theorem dX7_longest_142 : decode cX7_longest 142 = .ok (.iload_n 3, 1) := by decide +kernel
theorem dX7_longest_143 : decode cX7_longest 143 = .ok (.bipush 16, 2) := by decide +kernel
theorem dX7_longest_145 : decode cX7_longest 145 = .ok (.idiv, 1) := by decide +kernel
theorem dX7_longest_146 : decode cX7_longest 146 = .ok (.goto 29, 3) := by decide +kernel
theorem dX7_longest_149 : decode cX7_longest 149 = .ok (.iload_n 1, 1) := by decide +kernel
theorem dX7_longest_150 : decode cX7_longest 150 = .ok (.iconst 2, 1) := by decide +kernel
theorem dX7_longest_151 : decode cX7_longest 151 = .ok (.if_icmp .ne 11, 3) := by decide +kernel
theorem dX7_longest_154 : decode cX7_longest 154 = .ok (.iload_n 3, 1) := by decide +kernel
theorem dX7_longest_155 : decode cX7_longest 155 = .ok (.iconst 4, 1) := by decide +kernel
theorem dX7_longest_156 : decode cX7_longest 156 = .ok (.idiv, 1) := by decide +kernel
theorem dX7_longest_157 : decode cX7_longest 157 = .ok (.iconst 4, 1) := by decide +kernel
theorem dX7_longest_158 : decode cX7_longest 158 = .ok (.irem, 1) := by decide +kernel
theorem dX7_longest_159 : decode cX7_longest 159 = .ok (.goto 16, 3) := by decide +kernel
theorem dX7_longest_162 : decode cX7_longest 162 = .ok (.iload_n 1, 1) := by decide +kernel
theorem dX7_longest_163 : decode cX7_longest 163 = .ok (.iconst 3, 1) := by decide +kernel
theorem dX7_longest_164 : decode cX7_longest 164 = .ok (.if_icmp .ne 9, 3) := by decide +kernel
theorem dX7_longest_167 : decode cX7_longest 167 = .ok (.iload_n 3, 1) := by decide +kernel
theorem dX7_longest_168 : decode cX7_longest 168 = .ok (.iconst 4, 1) := by decide +kernel
theorem dX7_longest_169 : decode cX7_longest 169 = .ok (.irem, 1) := by decide +kernel
theorem dX7_longest_170 : decode cX7_longest 170 = .ok (.goto 5, 3) := by decide +kernel
theorem dX7_longest_173 : decode cX7_longest 173 = .ok (.iload 4, 2) := by decide +kernel
theorem dX7_longest_175 : decode cX7_longest 175 = .ok (.ireturn, 1) := by decide +kernel
theorem dX7_isGood_0 : decode cX7_isGood 0 = .ok (.aload_n 0, 1) := by decide +kernel
theorem dX7_isGood_1 : decode cX7_isGood 1 = .ok (.iload_n 1, 1) := by decide +kernel
theorem dX7_isGood_2 : decode cX7_isGood 2 = .ok (.invokevirtual 138, 3) := by decide +kernel
theorem dX7_isGood_5 : decode cX7_isGood 5 = .ok (.istore_n 2, 1) := by decide +kernel
theorem dX7_isGood_6 : decode cX7_isGood 6 = .ok (.iconst 0, 1) := by decide +kernel
theorem dX7_isGood_7 : decode cX7_isGood 7 = .ok (.istore_n 3, 1) := by decide +kernel
theorem dX7_isGood_8 : decode cX7_isGood 8 = .ok (.iload_n 3, 1) := by decide +kernel
theorem dX7_isGood_9 : decode cX7_isGood 9 = .ok (.aload_n 0, 1) := by decide +kernel
theorem dX7_isGood_10 : decode cX7_isGood 10 = .ok (.getfield 61, 3) := by decide +kernel
theorem dX7_isGood_13 : decode cX7_isGood 13 = .ok (.if_icmp .ge 72, 3) := by decide +kernel
theorem dX7_isGood_16 : decode cX7_isGood 16 = .ok (.iload_n 2, 1) := by decide +kernel
theorem dX7_isGood_17 : decode cX7_isGood 17 = .ok (.ifCond .eq 68, 3) := by decide +kernel
theorem dX7_isGood_20 : decode cX7_isGood 20 = .ok (.iload_n 1, 1) := by decide +kernel
theorem dX7_isGood_21 : decode cX7_isGood 21 = .ok (.iload_n 3, 1) := by decide +kernel
theorem dX7_isGood_22 : decode cX7_isGood 22 = .ok (.ishr, 1) := by decide +kernel
theorem dX7_isGood_23 : decode cX7_isGood 23 = .ok (.iconst 1, 1) := by decide +kernel
theorem dX7_isGood_24 : decode cX7_isGood 24 = .ok (.iand, 1) := by decide +kernel
theorem dX7_isGood_25 : decode cX7_isGood 25 = .ok (.iconst 1, 1) := by decide +kernel
theorem dX7_isGood_26 : decode cX7_isGood 26 = .ok (.if_icmp .ne 53, 3) := by decide +kernel
theorem dX7_isGood_29 : decode cX7_isGood 29 = .ok (.aload_n 0, 1) := by decide +kernel
theorem dX7_isGood_30 : decode cX7_isGood 30 = .ok (.iload_n 3, 1) := by decide +kernel
theorem dX7_isGood_31 : decode cX7_isGood 31 = .ok (.invokevirtual 132, 3) := by decide +kernel
theorem dX7_isGood_34 : decode cX7_isGood 34 = .ok (.istore_n 2, 1) := by decide +kernel
theorem dX7_isGood_35 : decode cX7_isGood 35 = .ok (.iconst 0, 1) := by decide +kernel
theorem dX7_isGood_36 : decode cX7_isGood 36 = .ok (.istore 4, 2) := by decide +kernel
theorem dX7_isGood_38 : decode cX7_isGood 38 = .ok (.iload 4, 2) := by decide +kernel
theorem dX7_isGood_40 : decode cX7_isGood 40 = .ok (.iload_n 3, 1) := by decide +kernel
theorem dX7_isGood_41 : decode cX7_isGood 41 = .ok (.if_icmp .ge 38, 3) := by decide +kernel
theorem dX7_isGood_44 : decode cX7_isGood 44 = .ok (.iload_n 2, 1) := by decide +kernel
theorem dX7_isGood_45 : decode cX7_isGood 45 = .ok (.ifCond .eq 34, 3) := by decide +kernel
theorem dX7_isGood_48 : decode cX7_isGood 48 = .ok (.iload_n 1, 1) := by decide +kernel
theorem dX7_isGood_49 : decode cX7_isGood 49 = .ok (.iload 4, 2) := by decide +kernel
theorem dX7_isGood_51 : decode cX7_isGood 51 = .ok (.ishr, 1) := by decide +kernel
theorem dX7_isGood_52 : decode cX7_isGood 52 = .ok (.iconst 1, 1) := by decide +kernel
theorem dX7_isGood_53 : decode cX7_isGood 53 = .ok (.iand, 1) := by decide +kernel
theorem dX7_isGood_54 : decode cX7_isGood 54 = .ok (.ifCond .eq 13, 3) := by decide +kernel
theorem dX7_isGood_57 : decode cX7_isGood 57 = .ok (.aload_n 0, 1) := by decide +kernel
theorem dX7_isGood_58 : decode cX7_isGood 58 = .ok (.iload_n 3, 1) := by decide +kernel
theorem dX7_isGood_59 : decode cX7_isGood 59 = .ok (.iload 4, 2) := by decide +kernel
theorem dX7_isGood_61 : decode cX7_isGood 61 = .ok (.invokevirtual 128, 3) := by decide +kernel
theorem dX7_isGood_64 : decode cX7_isGood 64 = .ok (.ifCond .ne 7, 3) := by decide +kernel
theorem dX7_isGood_67 : decode cX7_isGood 67 = .ok (.iconst 1, 1) := by decide +kernel
theorem dX7_isGood_68 : decode cX7_isGood 68 = .ok (.goto 4, 3) := by decide +kernel
theorem dX7_isGood_71 : decode cX7_isGood 71 = .ok (.iconst 0, 1) := by decide +kernel
theorem dX7_isGood_72 : decode cX7_isGood 72 = .ok (.istore_n 2, 1) := by decide +kernel
theorem dX7_isGood_73 : decode cX7_isGood 73 = .ok (.iinc 4 1, 3) := by decide +kernel
theorem dX7_isGood_76 : decode cX7_isGood 76 = .ok (.goto (-38), 3) := by decide +kernel
theorem dX7_isGood_79 : decode cX7_isGood 79 = .ok (.iinc 3 1, 3) := by decide +kernel
theorem dX7_isGood_82 : decode cX7_isGood 82 = .ok (.goto (-74), 3) := by decide +kernel
theorem dX7_isGood_85 : decode cX7_isGood 85 = .ok (.iload_n 2, 1) := by decide +kernel
theorem dX7_isGood_86 : decode cX7_isGood 86 = .ok (.ireturn, 1) := by decide +kernel
theorem dX7_pricesOf_0 : decode cX7_pricesOf 0 = .ok (.iconst 0, 1) := by decide +kernel
theorem dX7_pricesOf_1 : decode cX7_pricesOf 1 = .ok (.istore_n 2, 1) := by decide +kernel
theorem dX7_pricesOf_2 : decode cX7_pricesOf 2 = .ok (.iconst 0, 1) := by decide +kernel
theorem dX7_pricesOf_3 : decode cX7_pricesOf 3 = .ok (.istore_n 3, 1) := by decide +kernel
theorem dX7_pricesOf_4 : decode cX7_pricesOf 4 = .ok (.iload_n 3, 1) := by decide +kernel
theorem dX7_pricesOf_5 : decode cX7_pricesOf 5 = .ok (.aload_n 0, 1) := by decide +kernel
theorem dX7_pricesOf_6 : decode cX7_pricesOf 6 = .ok (.getfield 61, 3) := by decide +kernel
theorem dX7_pricesOf_9 : decode cX7_pricesOf 9 = .ok (.if_icmp .ge 32, 3) := by decide +kernel
theorem dX7_pricesOf_12 : decode cX7_pricesOf 12 = .ok (.iload_n 2, 1) := by decide +kernel
theorem dX7_pricesOf_13 : decode cX7_pricesOf 13 = .ok (.iload_n 1, 1) := by decide +kernel
theorem dX7_pricesOf_14 : decode cX7_pricesOf 14 = .ok (.iload_n 3, 1) := by decide +kernel
theorem dX7_pricesOf_15 : decode cX7_pricesOf 15 = .ok (.ishr, 1) := by decide +kernel
theorem dX7_pricesOf_16 : decode cX7_pricesOf 16 = .ok (.iconst 1, 1) := by decide +kernel
theorem dX7_pricesOf_17 : decode cX7_pricesOf 17 = .ok (.iand, 1) := by decide +kernel
theorem dX7_pricesOf_18 : decode cX7_pricesOf 18 = .ok (.iconst 1, 1) := by decide +kernel
theorem dX7_pricesOf_19 : decode cX7_pricesOf 19 = .ok (.if_icmp .ne 13, 3) := by decide +kernel
theorem dX7_pricesOf_22 : decode cX7_pricesOf 22 = .ok (.aload_n 0, 1) := by decide +kernel
theorem dX7_pricesOf_23 : decode cX7_pricesOf 23 = .ok (.iload_n 3, 1) := by decide +kernel
theorem dX7_pricesOf_24 : decode cX7_pricesOf 24 = .ok (.bipush 6, 2) := by decide +kernel
theorem dX7_pricesOf_26 : decode cX7_pricesOf 26 = .ok (.invokevirtual 107, 3) := by decide +kernel
theorem dX7_pricesOf_29 : decode cX7_pricesOf 29 = .ok (.goto 4, 3) := by decide +kernel
theorem dX7_pricesOf_32 : decode cX7_pricesOf 32 = .ok (.iconst 0, 1) := by decide +kernel
theorem dX7_pricesOf_33 : decode cX7_pricesOf 33 = .ok (.iadd, 1) := by decide +kernel
theorem dX7_pricesOf_34 : decode cX7_pricesOf 34 = .ok (.istore_n 2, 1) := by decide +kernel
theorem dX7_pricesOf_35 : decode cX7_pricesOf 35 = .ok (.iinc 3 1, 3) := by decide +kernel
theorem dX7_pricesOf_38 : decode cX7_pricesOf 38 = .ok (.goto (-34), 3) := by decide +kernel
theorem dX7_pricesOf_41 : decode cX7_pricesOf 41 = .ok (.iload_n 2, 1) := by decide +kernel
theorem dX7_pricesOf_42 : decode cX7_pricesOf 42 = .ok (.ireturn, 1) := by decide +kernel
theorem dX7_findBest_0 : decode cX7_findBest 0 = .ok (.iconst 0, 1) := by decide +kernel
theorem dX7_findBest_1 : decode cX7_findBest 1 = .ok (.istore_n 1, 1) := by decide +kernel
theorem dX7_findBest_2 : decode cX7_findBest 2 = .ok (.aload_n 0, 1) := by decide +kernel
theorem dX7_findBest_3 : decode cX7_findBest 3 = .ok (.iconst 0, 1) := by decide +kernel
theorem dX7_findBest_4 : decode cX7_findBest 4 = .ok (.putfield 171, 3) := by decide +kernel
theorem dX7_findBest_7 : decode cX7_findBest 7 = .ok (.iconst 1, 1) := by decide +kernel
theorem dX7_findBest_8 : decode cX7_findBest 8 = .ok (.istore_n 2, 1) := by decide +kernel
theorem dX7_findBest_9 : decode cX7_findBest 9 = .ok (.iload_n 2, 1) := by decide +kernel
theorem dX7_findBest_10 : decode cX7_findBest 10 = .ok (.iconst 1, 1) := by decide +kernel
theorem dX7_findBest_11 : decode cX7_findBest 11 = .ok (.aload_n 0, 1) := by decide +kernel
theorem dX7_findBest_12 : decode cX7_findBest 12 = .ok (.getfield 61, 3) := by decide +kernel
theorem dX7_findBest_15 : decode cX7_findBest 15 = .ok (.ishl, 1) := by decide +kernel
theorem dX7_findBest_16 : decode cX7_findBest 16 = .ok (.if_icmp .ge 69, 3) := by decide +kernel
theorem dX7_findBest_19 : decode cX7_findBest 19 = .ok (.aload_n 0, 1) := by decide +kernel
theorem dX7_findBest_20 : decode cX7_findBest 20 = .ok (.iload_n 2, 1) := by decide +kernel
theorem dX7_findBest_21 : decode cX7_findBest 21 = .ok (.invokevirtual 174, 3) := by decide +kernel
theorem dX7_findBest_24 : decode cX7_findBest 24 = .ok (.istore_n 3, 1) := by decide +kernel
theorem dX7_findBest_25 : decode cX7_findBest 25 = .ok (.iload_n 3, 1) := by decide +kernel
theorem dX7_findBest_26 : decode cX7_findBest 26 = .ok (.aload_n 0, 1) := by decide +kernel
theorem dX7_findBest_27 : decode cX7_findBest 27 = .ok (.getfield 171, 3) := by decide +kernel
theorem dX7_findBest_30 : decode cX7_findBest 30 = .ok (.if_icmp .gt 22, 3) := by decide +kernel
theorem dX7_findBest_33 : decode cX7_findBest 33 = .ok (.iload_n 3, 1) := by decide +kernel
theorem dX7_findBest_34 : decode cX7_findBest 34 = .ok (.aload_n 0, 1) := by decide +kernel
theorem dX7_findBest_35 : decode cX7_findBest 35 = .ok (.getfield 171, 3) := by decide +kernel
theorem dX7_findBest_38 : decode cX7_findBest 38 = .ok (.if_icmp .ne 18, 3) := by decide +kernel
theorem dX7_findBest_41 : decode cX7_findBest 41 = .ok (.iload_n 2, 1) := by decide +kernel
theorem dX7_findBest_42 : decode cX7_findBest 42 = .ok (.invokestatic 111, 3) := by decide +kernel
theorem dX7_findBest_45 : decode cX7_findBest 45 = .ok (.iload_n 1, 1) := by decide +kernel
theorem dX7_findBest_46 : decode cX7_findBest 46 = .ok (.invokestatic 111, 3) := by decide +kernel
theorem dX7_findBest_49 : decode cX7_findBest 49 = .ok (.if_icmp .ge 7, 3) := by decide +kernel
theorem dX7_findBest_52 : decode cX7_findBest 52 = .ok (.iconst 1, 1) := by decide +kernel
theorem dX7_findBest_53 : decode cX7_findBest 53 = .ok (.goto 4, 3) := by decide +kernel
theorem dX7_findBest_56 : decode cX7_findBest 56 = .ok (.iconst 0, 1) := by decide +kernel
theorem dX7_findBest_57 : decode cX7_findBest 57 = .ok (.istore 4, 2) := by decide +kernel
theorem dX7_findBest_59 : decode cX7_findBest 59 = .ok (.iload 4, 2) := by decide +kernel
theorem dX7_findBest_61 : decode cX7_findBest 61 = .ok (.ifCond .eq 18, 3) := by decide +kernel
theorem dX7_findBest_64 : decode cX7_findBest 64 = .ok (.aload_n 0, 1) := by decide +kernel
theorem dX7_findBest_65 : decode cX7_findBest 65 = .ok (.iload_n 2, 1) := by decide +kernel
theorem dX7_findBest_66 : decode cX7_findBest 66 = .ok (.invokevirtual 177, 3) := by decide +kernel
theorem dX7_findBest_69 : decode cX7_findBest 69 = .ok (.ifCond .eq 10, 3) := by decide +kernel
theorem dX7_findBest_72 : decode cX7_findBest 72 = .ok (.iload_n 2, 1) := by decide +kernel
theorem dX7_findBest_73 : decode cX7_findBest 73 = .ok (.istore_n 1, 1) := by decide +kernel
theorem dX7_findBest_74 : decode cX7_findBest 74 = .ok (.aload_n 0, 1) := by decide +kernel
theorem dX7_findBest_75 : decode cX7_findBest 75 = .ok (.iload_n 3, 1) := by decide +kernel
theorem dX7_findBest_76 : decode cX7_findBest 76 = .ok (.putfield 171, 3) := by decide +kernel
theorem dX7_findBest_79 : decode cX7_findBest 79 = .ok (.iinc 2 1, 3) := by decide +kernel
theorem dX7_findBest_82 : decode cX7_findBest 82 = .ok (.goto (-73), 3) := by decide +kernel
theorem dX7_findBest_85 : decode cX7_findBest 85 = .ok (.iload_n 1, 1) := by decide +kernel
theorem dX7_findBest_86 : decode cX7_findBest 86 = .ok (.ireturn, 1) := by decide +kernel
theorem dX7_best_0 : decode cX7_best 0 = .ok (.iload_n 1, 1) := by decide +kernel
theorem dX7_best_1 : decode cX7_best 1 = .ok (.iconst 0, 1) := by decide +kernel
theorem dX7_best_2 : decode cX7_best 2 = .ok (.iconst 1, 1) := by decide +kernel
theorem dX7_best_3 : decode cX7_best 3 = .ok (.invokestatic 82, 3) := by decide +kernel
theorem dX7_best_6 : decode cX7_best 6 = .ok (.ifCond .ne 5, 3) := by decide +kernel
theorem dX7_best_9 : decode cX7_best 9 = .ok (.iconst (-1), 1) := by decide +kernel
theorem dX7_best_10 : decode cX7_best 10 = .ok (.ireturn, 1) := by decide +kernel
theorem dX7_best_11 : decode cX7_best 11 = .ok (.aload_n 0, 1) := by decide +kernel
theorem dX7_best_12 : decode cX7_best 12 = .ok (.invokevirtual 180, 3) := by decide +kernel
theorem dX7_best_15 : decode cX7_best 15 = .ok (.istore_n 2, 1) := by decide +kernel
theorem dX7_best_16 : decode cX7_best 16 = .ok (.iload_n 1, 1) := by decide +kernel
theorem dX7_best_17 : decode cX7_best 17 = .ok (.ifCond .ne 10, 3) := by decide +kernel
theorem dX7_best_20 : decode cX7_best 20 = .ok (.aload_n 0, 1) := by decide +kernel
theorem dX7_best_21 : decode cX7_best 21 = .ok (.getfield 171, 3) := by decide +kernel
theorem dX7_best_24 : decode cX7_best 24 = .ok (.goto 4, 3) := by decide +kernel
theorem dX7_best_27 : decode cX7_best 27 = .ok (.iload_n 2, 1) := by decide +kernel
theorem dX7_best_28 : decode cX7_best 28 = .ok (.ireturn, 1) := by decide +kernel
theorem dX7_take_0 : decode cX7_take 0 = .ok (.aload_n 0, 1) := by decide +kernel
theorem dX7_take_1 : decode cX7_take 1 = .ok (.invokevirtual 180, 3) := by decide +kernel
theorem dX7_take_4 : decode cX7_take 4 = .ok (.istore_n 1, 1) := by decide +kernel
theorem dX7_take_5 : decode cX7_take 5 = .ok (.aload_n 0, 1) := by decide +kernel
theorem dX7_take_6 : decode cX7_take 6 = .ok (.invokevirtual 147, 3) := by decide +kernel
theorem dX7_take_9 : decode cX7_take 9 = .ok (.aload_n 0, 1) := by decide +kernel
theorem dX7_take_10 : decode cX7_take 10 = .ok (.getfield 25, 3) := by decide +kernel
theorem dX7_take_13 : decode cX7_take 13 = .ok (.bipush 10, 2) := by decide +kernel
theorem dX7_take_15 : decode cX7_take 15 = .ok (.iload_n 1, 1) := by decide +kernel
theorem dX7_take_16 : decode cX7_take 16 = .ok (.iastore, 1) := by decide +kernel
theorem dX7_take_17 : decode cX7_take 17 = .ok (.iload_n 1, 1) := by decide +kernel
theorem dX7_take_18 : decode cX7_take 18 = .ok (.invokestatic 111, 3) := by decide +kernel
theorem dX7_take_21 : decode cX7_take 21 = .ok (.ireturn, 1) := by decide +kernel
theorem dX7_count_0 : decode cX7_count 0 = .ok (.iload_n 1, 1) := by decide +kernel
theorem dX7_count_1 : decode cX7_count 1 = .ok (.tableswitch 157 0 8 #[51, 56, 61, 66, 71, 82, 94, 147, 152], 51) := by decide +kernel
theorem dX7_count_52 : decode cX7_count 52 = .ok (.aload_n 0, 1) := by decide +kernel
theorem dX7_count_53 : decode cX7_count 53 = .ok (.getfield 61, 3) := by decide +kernel
theorem dX7_count_56 : decode cX7_count 56 = .ok (.ireturn, 1) := by decide +kernel
theorem dX7_count_57 : decode cX7_count 57 = .ok (.aload_n 0, 1) := by decide +kernel
theorem dX7_count_58 : decode cX7_count 58 = .ok (.getfield 64, 3) := by decide +kernel
theorem dX7_count_61 : decode cX7_count 61 = .ok (.ireturn, 1) := by decide +kernel
theorem dX7_count_62 : decode cX7_count 62 = .ok (.aload_n 0, 1) := by decide +kernel
theorem dX7_count_63 : decode cX7_count 63 = .ok (.getfield 67, 3) := by decide +kernel
theorem dX7_count_66 : decode cX7_count 66 = .ok (.ireturn, 1) := by decide +kernel
theorem dX7_count_67 : decode cX7_count 67 = .ok (.aload_n 0, 1) := by decide +kernel
theorem dX7_count_68 : decode cX7_count 68 = .ok (.getfield 70, 3) := by decide +kernel
theorem dX7_count_71 : decode cX7_count 71 = .ok (.ireturn, 1) := by decide +kernel
theorem dX7_count_72 : decode cX7_count 72 = .ok (.aload_n 0, 1) := by decide +kernel
theorem dX7_count_73 : decode cX7_count 73 = .ok (.getfield 25, 3) := by decide +kernel
theorem dX7_count_76 : decode cX7_count 76 = .ok (.bipush 10, 2) := by decide +kernel
theorem dX7_count_78 : decode cX7_count 78 = .ok (.iaload, 1) := by decide +kernel
theorem dX7_count_79 : decode cX7_count 79 = .ok (.invokestatic 111, 3) := by decide +kernel
theorem dX7_count_82 : decode cX7_count 82 = .ok (.ireturn, 1) := by decide +kernel
theorem dX7_count_83 : decode cX7_count 83 = .ok (.aload_n 0, 1) := by decide +kernel
theorem dX7_count_84 : decode cX7_count 84 = .ok (.aload_n 0, 1) := by decide +kernel
theorem dX7_count_85 : decode cX7_count 85 = .ok (.getfield 25, 3) := by decide +kernel
theorem dX7_count_88 : decode cX7_count 88 = .ok (.bipush 10, 2) := by decide +kernel
theorem dX7_count_90 : decode cX7_count 90 = .ok (.iaload, 1) := by decide +kernel
theorem dX7_count_91 : decode cX7_count 91 = .ok (.invokevirtual 174, 3) := by decide +kernel
theorem dX7_count_94 : decode cX7_count 94 = .ok (.ireturn, 1) := by decide +kernel
theorem dX7_count_95 : decode cX7_count 95 = .ok (.iconst 0, 1) := by decide +kernel
theorem dX7_count_96 : decode cX7_count 96 = .ok (.istore_n 2, 1) := by decide +kernel
theorem dX7_count_97 : decode cX7_count 97 = .ok (.iconst 0, 1) := by decide +kernel
theorem dX7_count_98 : decode cX7_count 98 = .ok (.istore_n 3, 1) := by decide +kernel
theorem dX7_count_99 : decode cX7_count 99 = .ok (.iload_n 3, 1) := by decide +kernel
theorem dX7_count_100 : decode cX7_count 100 = .ok (.aload_n 0, 1) := by decide +kernel
theorem dX7_count_101 : decode cX7_count 101 = .ok (.getfield 61, 3) := by decide +kernel
theorem dX7_count_104 : decode cX7_count 104 = .ok (.if_icmp .ge 42, 3) := by decide +kernel
theorem dX7_count_107 : decode cX7_count 107 = .ok (.iconst 0, 1) := by decide +kernel
theorem dX7_count_108 : decode cX7_count 108 = .ok (.istore 4, 2) := by decide +kernel
theorem dX7_count_110 : decode cX7_count 110 = .ok (.iload 4, 2) := by decide +kernel
theorem dX7_count_112 : decode cX7_count 112 = .ok (.iload_n 3, 1) := by decide +kernel
theorem dX7_count_113 : decode cX7_count 113 = .ok (.if_icmp .ge 27, 3) := by decide +kernel
theorem dX7_count_116 : decode cX7_count 116 = .ok (.iload_n 2, 1) := by decide +kernel
theorem dX7_count_117 : decode cX7_count 117 = .ok (.aload_n 0, 1) := by decide +kernel
theorem dX7_count_118 : decode cX7_count 118 = .ok (.iload_n 3, 1) := by decide +kernel
theorem dX7_count_119 : decode cX7_count 119 = .ok (.iload 4, 2) := by decide +kernel
theorem dX7_count_121 : decode cX7_count 121 = .ok (.invokevirtual 128, 3) := by decide +kernel
theorem dX7_count_124 : decode cX7_count 124 = .ok (.ifCond .eq 7, 3) := by decide +kernel
theorem dX7_count_127 : decode cX7_count 127 = .ok (.iconst 1, 1) := by decide +kernel
theorem dX7_count_128 : decode cX7_count 128 = .ok (.goto 4, 3) := by decide +kernel
theorem dX7_count_131 : decode cX7_count 131 = .ok (.iconst 0, 1) := by decide +kernel
theorem dX7_count_132 : decode cX7_count 132 = .ok (.iadd, 1) := by decide +kernel
theorem dX7_count_133 : decode cX7_count 133 = .ok (.istore_n 2, 1) := by decide +kernel
theorem dX7_count_134 : decode cX7_count 134 = .ok (.iinc 4 1, 3) := by decide +kernel
theorem dX7_count_137 : decode cX7_count 137 = .ok (.goto (-27), 3) := by decide +kernel
theorem dX7_count_140 : decode cX7_count 140 = .ok (.iinc 3 1, 3) := by decide +kernel
theorem dX7_count_143 : decode cX7_count 143 = .ok (.goto (-44), 3) := by decide +kernel
theorem dX7_count_146 : decode cX7_count 146 = .ok (.iload_n 2, 1) := by decide +kernel
theorem dX7_count_147 : decode cX7_count 147 = .ok (.ireturn, 1) := by decide +kernel
theorem dX7_count_148 : decode cX7_count 148 = .ok (.aload_n 0, 1) := by decide +kernel
theorem dX7_count_149 : decode cX7_count 149 = .ok (.getfield 73, 3) := by decide +kernel
theorem dX7_count_152 : decode cX7_count 152 = .ok (.ireturn, 1) := by decide +kernel
theorem dX7_count_153 : decode cX7_count 153 = .ok (.aload_n 0, 1) := by decide +kernel
theorem dX7_count_154 : decode cX7_count 154 = .ok (.getfield 79, 3) := by decide +kernel
theorem dX7_count_157 : decode cX7_count 157 = .ok (.ireturn, 1) := by decide +kernel
theorem dX7_count_158 : decode cX7_count 158 = .ok (.iconst (-1), 1) := by decide +kernel
theorem dX7_count_159 : decode cX7_count 159 = .ok (.ireturn, 1) := by decide +kernel
theorem dJ6_bitCount_0f7a4_0 : decode cJ6_bitCount_0f7a4 0 = .ok (.iload_n 0, 1) := by decide +kernel
theorem dJ6_bitCount_0f7a4_1 : decode cJ6_bitCount_0f7a4 1 = .ok (.iload_n 0, 1) := by decide +kernel
theorem dJ6_bitCount_0f7a4_2 : decode cJ6_bitCount_0f7a4 2 = .ok (.iconst 1, 1) := by decide +kernel
theorem dJ6_bitCount_0f7a4_3 : decode cJ6_bitCount_0f7a4 3 = .ok (.iushr, 1) := by decide +kernel
theorem dJ6_bitCount_0f7a4_4 : decode cJ6_bitCount_0f7a4 4 = .ok (.ldc_w 265, 3) := by decide +kernel
theorem dJ6_bitCount_0f7a4_7 : decode cJ6_bitCount_0f7a4 7 = .ok (.iand, 1) := by decide +kernel
theorem dJ6_bitCount_0f7a4_8 : decode cJ6_bitCount_0f7a4 8 = .ok (.isub, 1) := by decide +kernel
theorem dJ6_bitCount_0f7a4_9 : decode cJ6_bitCount_0f7a4 9 = .ok (.istore_n 0, 1) := by decide +kernel
theorem dJ6_bitCount_0f7a4_10 : decode cJ6_bitCount_0f7a4 10 = .ok (.iload_n 0, 1) := by decide +kernel
theorem dJ6_bitCount_0f7a4_11 : decode cJ6_bitCount_0f7a4 11 = .ok (.ldc_w 266, 3) := by decide +kernel
theorem dJ6_bitCount_0f7a4_14 : decode cJ6_bitCount_0f7a4 14 = .ok (.iand, 1) := by decide +kernel
theorem dJ6_bitCount_0f7a4_15 : decode cJ6_bitCount_0f7a4 15 = .ok (.iload_n 0, 1) := by decide +kernel
theorem dJ6_bitCount_0f7a4_16 : decode cJ6_bitCount_0f7a4 16 = .ok (.iconst 2, 1) := by decide +kernel
theorem dJ6_bitCount_0f7a4_17 : decode cJ6_bitCount_0f7a4 17 = .ok (.iushr, 1) := by decide +kernel
theorem dJ6_bitCount_0f7a4_18 : decode cJ6_bitCount_0f7a4 18 = .ok (.ldc_w 266, 3) := by decide +kernel
theorem dJ6_bitCount_0f7a4_21 : decode cJ6_bitCount_0f7a4 21 = .ok (.iand, 1) := by decide +kernel
theorem dJ6_bitCount_0f7a4_22 : decode cJ6_bitCount_0f7a4 22 = .ok (.iadd, 1) := by decide +kernel
theorem dJ6_bitCount_0f7a4_23 : decode cJ6_bitCount_0f7a4 23 = .ok (.istore_n 0, 1) := by decide +kernel
theorem dJ6_bitCount_0f7a4_24 : decode cJ6_bitCount_0f7a4 24 = .ok (.iload_n 0, 1) := by decide +kernel
theorem dJ6_bitCount_0f7a4_25 : decode cJ6_bitCount_0f7a4 25 = .ok (.iload_n 0, 1) := by decide +kernel
theorem dJ6_bitCount_0f7a4_26 : decode cJ6_bitCount_0f7a4 26 = .ok (.iconst 4, 1) := by decide +kernel
theorem dJ6_bitCount_0f7a4_27 : decode cJ6_bitCount_0f7a4 27 = .ok (.iushr, 1) := by decide +kernel
theorem dJ6_bitCount_0f7a4_28 : decode cJ6_bitCount_0f7a4 28 = .ok (.iadd, 1) := by decide +kernel
theorem dJ6_bitCount_0f7a4_29 : decode cJ6_bitCount_0f7a4 29 = .ok (.ldc_w 267, 3) := by decide +kernel
theorem dJ6_bitCount_0f7a4_32 : decode cJ6_bitCount_0f7a4 32 = .ok (.iand, 1) := by decide +kernel
theorem dJ6_bitCount_0f7a4_33 : decode cJ6_bitCount_0f7a4 33 = .ok (.istore_n 0, 1) := by decide +kernel
theorem dJ6_bitCount_0f7a4_34 : decode cJ6_bitCount_0f7a4 34 = .ok (.iload_n 0, 1) := by decide +kernel
theorem dJ6_bitCount_0f7a4_35 : decode cJ6_bitCount_0f7a4 35 = .ok (.iload_n 0, 1) := by decide +kernel
theorem dJ6_bitCount_0f7a4_36 : decode cJ6_bitCount_0f7a4 36 = .ok (.bipush 8, 2) := by decide +kernel
theorem dJ6_bitCount_0f7a4_38 : decode cJ6_bitCount_0f7a4 38 = .ok (.iushr, 1) := by decide +kernel
theorem dJ6_bitCount_0f7a4_39 : decode cJ6_bitCount_0f7a4 39 = .ok (.iadd, 1) := by decide +kernel
theorem dJ6_bitCount_0f7a4_40 : decode cJ6_bitCount_0f7a4 40 = .ok (.istore_n 0, 1) := by decide +kernel
theorem dJ6_bitCount_0f7a4_41 : decode cJ6_bitCount_0f7a4 41 = .ok (.iload_n 0, 1) := by decide +kernel
theorem dJ6_bitCount_0f7a4_42 : decode cJ6_bitCount_0f7a4 42 = .ok (.iload_n 0, 1) := by decide +kernel
theorem dJ6_bitCount_0f7a4_43 : decode cJ6_bitCount_0f7a4 43 = .ok (.bipush 16, 2) := by decide +kernel
theorem dJ6_bitCount_0f7a4_45 : decode cJ6_bitCount_0f7a4 45 = .ok (.iushr, 1) := by decide +kernel
theorem dJ6_bitCount_0f7a4_46 : decode cJ6_bitCount_0f7a4 46 = .ok (.iadd, 1) := by decide +kernel
theorem dJ6_bitCount_0f7a4_47 : decode cJ6_bitCount_0f7a4 47 = .ok (.istore_n 0, 1) := by decide +kernel
theorem dJ6_bitCount_0f7a4_48 : decode cJ6_bitCount_0f7a4 48 = .ok (.iload_n 0, 1) := by decide +kernel
theorem dJ6_bitCount_0f7a4_49 : decode cJ6_bitCount_0f7a4 49 = .ok (.bipush 63, 2) := by decide +kernel
theorem dJ6_bitCount_0f7a4_51 : decode cJ6_bitCount_0f7a4 51 = .ok (.iand, 1) := by decide +kernel
theorem dJ6_bitCount_0f7a4_52 : decode cJ6_bitCount_0f7a4 52 = .ok (.ireturn, 1) := by decide +kernel
theorem dJ13_bitCount_95d88_0 : decode cJ13_bitCount_95d88 0 = .ok (.lload_n 0, 1) := by decide +kernel
theorem dJ13_bitCount_95d88_1 : decode cJ13_bitCount_95d88 1 = .ok (.lload_n 0, 1) := by decide +kernel
theorem dJ13_bitCount_95d88_2 : decode cJ13_bitCount_95d88 2 = .ok (.iconst 1, 1) := by decide +kernel
theorem dJ13_bitCount_95d88_3 : decode cJ13_bitCount_95d88 3 = .ok (.lushr, 1) := by decide +kernel
theorem dJ13_bitCount_95d88_4 : decode cJ13_bitCount_95d88 4 = .ok (.ldc2_w 314, 3) := by decide +kernel
theorem dJ13_bitCount_95d88_7 : decode cJ13_bitCount_95d88 7 = .ok (.land, 1) := by decide +kernel
theorem dJ13_bitCount_95d88_8 : decode cJ13_bitCount_95d88 8 = .ok (.lsub, 1) := by decide +kernel
theorem dJ13_bitCount_95d88_9 : decode cJ13_bitCount_95d88 9 = .ok (.lstore_n 0, 1) := by decide +kernel
theorem dJ13_bitCount_95d88_10 : decode cJ13_bitCount_95d88 10 = .ok (.lload_n 0, 1) := by decide +kernel
theorem dJ13_bitCount_95d88_11 : decode cJ13_bitCount_95d88 11 = .ok (.ldc2_w 316, 3) := by decide +kernel
theorem dJ13_bitCount_95d88_14 : decode cJ13_bitCount_95d88 14 = .ok (.land, 1) := by decide +kernel
theorem dJ13_bitCount_95d88_15 : decode cJ13_bitCount_95d88 15 = .ok (.lload_n 0, 1) := by decide +kernel
theorem dJ13_bitCount_95d88_16 : decode cJ13_bitCount_95d88 16 = .ok (.iconst 2, 1) := by decide +kernel
theorem dJ13_bitCount_95d88_17 : decode cJ13_bitCount_95d88 17 = .ok (.lushr, 1) := by decide +kernel
theorem dJ13_bitCount_95d88_18 : decode cJ13_bitCount_95d88 18 = .ok (.ldc2_w 316, 3) := by decide +kernel
theorem dJ13_bitCount_95d88_21 : decode cJ13_bitCount_95d88 21 = .ok (.land, 1) := by decide +kernel
theorem dJ13_bitCount_95d88_22 : decode cJ13_bitCount_95d88 22 = .ok (.ladd, 1) := by decide +kernel
theorem dJ13_bitCount_95d88_23 : decode cJ13_bitCount_95d88 23 = .ok (.lstore_n 0, 1) := by decide +kernel
theorem dJ13_bitCount_95d88_24 : decode cJ13_bitCount_95d88 24 = .ok (.lload_n 0, 1) := by decide +kernel
theorem dJ13_bitCount_95d88_25 : decode cJ13_bitCount_95d88 25 = .ok (.lload_n 0, 1) := by decide +kernel
theorem dJ13_bitCount_95d88_26 : decode cJ13_bitCount_95d88 26 = .ok (.iconst 4, 1) := by decide +kernel
theorem dJ13_bitCount_95d88_27 : decode cJ13_bitCount_95d88 27 = .ok (.lushr, 1) := by decide +kernel
theorem dJ13_bitCount_95d88_28 : decode cJ13_bitCount_95d88 28 = .ok (.ladd, 1) := by decide +kernel
theorem dJ13_bitCount_95d88_29 : decode cJ13_bitCount_95d88 29 = .ok (.ldc2_w 318, 3) := by decide +kernel
theorem dJ13_bitCount_95d88_32 : decode cJ13_bitCount_95d88 32 = .ok (.land, 1) := by decide +kernel
theorem dJ13_bitCount_95d88_33 : decode cJ13_bitCount_95d88 33 = .ok (.lstore_n 0, 1) := by decide +kernel
theorem dJ13_bitCount_95d88_34 : decode cJ13_bitCount_95d88 34 = .ok (.lload_n 0, 1) := by decide +kernel
theorem dJ13_bitCount_95d88_35 : decode cJ13_bitCount_95d88 35 = .ok (.lload_n 0, 1) := by decide +kernel
theorem dJ13_bitCount_95d88_36 : decode cJ13_bitCount_95d88 36 = .ok (.bipush 8, 2) := by decide +kernel
theorem dJ13_bitCount_95d88_38 : decode cJ13_bitCount_95d88 38 = .ok (.lushr, 1) := by decide +kernel
theorem dJ13_bitCount_95d88_39 : decode cJ13_bitCount_95d88 39 = .ok (.ladd, 1) := by decide +kernel
theorem dJ13_bitCount_95d88_40 : decode cJ13_bitCount_95d88 40 = .ok (.lstore_n 0, 1) := by decide +kernel
theorem dJ13_bitCount_95d88_41 : decode cJ13_bitCount_95d88 41 = .ok (.lload_n 0, 1) := by decide +kernel
theorem dJ13_bitCount_95d88_42 : decode cJ13_bitCount_95d88 42 = .ok (.lload_n 0, 1) := by decide +kernel
theorem dJ13_bitCount_95d88_43 : decode cJ13_bitCount_95d88 43 = .ok (.bipush 16, 2) := by decide +kernel
theorem dJ13_bitCount_95d88_45 : decode cJ13_bitCount_95d88 45 = .ok (.lushr, 1) := by decide +kernel
theorem dJ13_bitCount_95d88_46 : decode cJ13_bitCount_95d88 46 = .ok (.ladd, 1) := by decide +kernel
theorem dJ13_bitCount_95d88_47 : decode cJ13_bitCount_95d88 47 = .ok (.lstore_n 0, 1) := by decide +kernel
theorem dJ13_bitCount_95d88_48 : decode cJ13_bitCount_95d88 48 = .ok (.lload_n 0, 1) := by decide +kernel
theorem dJ13_bitCount_95d88_49 : decode cJ13_bitCount_95d88 49 = .ok (.lload_n 0, 1) := by decide +kernel
theorem dJ13_bitCount_95d88_50 : decode cJ13_bitCount_95d88 50 = .ok (.bipush 32, 2) := by decide +kernel
theorem dJ13_bitCount_95d88_52 : decode cJ13_bitCount_95d88 52 = .ok (.lushr, 1) := by decide +kernel
theorem dJ13_bitCount_95d88_53 : decode cJ13_bitCount_95d88 53 = .ok (.ladd, 1) := by decide +kernel
theorem dJ13_bitCount_95d88_54 : decode cJ13_bitCount_95d88 54 = .ok (.lstore_n 0, 1) := by decide +kernel
theorem dJ13_bitCount_95d88_55 : decode cJ13_bitCount_95d88 55 = .ok (.lload_n 0, 1) := by decide +kernel
theorem dJ13_bitCount_95d88_56 : decode cJ13_bitCount_95d88 56 = .ok (.l2i, 1) := by decide +kernel
theorem dJ13_bitCount_95d88_57 : decode cJ13_bitCount_95d88 57 = .ok (.bipush 127, 2) := by decide +kernel
theorem dJ13_bitCount_95d88_59 : decode cJ13_bitCount_95d88 59 = .ok (.iand, 1) := by decide +kernel
theorem dJ13_bitCount_95d88_60 : decode cJ13_bitCount_95d88 60 = .ok (.ireturn, 1) := by decide +kernel
theorem dJ0_length_8abf5_0 : decode cJ0_length_8abf5 0 = .ok (.aload_n 0, 1) := by decide +kernel
theorem dJ0_length_8abf5_1 : decode cJ0_length_8abf5 1 = .ok (.getfield 9, 3) := by decide +kernel
theorem dJ0_length_8abf5_4 : decode cJ0_length_8abf5 4 = .ok (.arraylength, 1) := by decide +kernel
theorem dJ0_length_8abf5_5 : decode cJ0_length_8abf5 5 = .ok (.aload_n 0, 1) := by decide +kernel
theorem dJ0_length_8abf5_6 : decode cJ0_length_8abf5 6 = .ok (.invokevirtual 335, 3) := by decide +kernel
theorem dJ0_length_8abf5_9 : decode cJ0_length_8abf5 9 = .ok (.ishr, 1) := by decide +kernel
theorem dJ0_length_8abf5_10 : decode cJ0_length_8abf5 10 = .ok (.ireturn, 1) := by decide +kernel
theorem dJ0_charAt_5068e_0 : decode cJ0_charAt_5068e 0 = .ok (.aload_n 0, 1) := by decide +kernel
theorem dJ0_charAt_5068e_1 : decode cJ0_charAt_5068e 1 = .ok (.invokevirtual 492, 3) := by decide +kernel
theorem dJ0_charAt_5068e_4 : decode cJ0_charAt_5068e 4 = .ok (.ifCond .eq 12, 3) := by decide +kernel
theorem dJ0_charAt_5068e_7 : decode cJ0_charAt_5068e 7 = .ok (.aload_n 0, 1) := by decide +kernel
theorem dJ0_charAt_5068e_8 : decode cJ0_charAt_5068e 8 = .ok (.getfield 9, 3) := by decide +kernel
theorem dJ0_charAt_5068e_11 : decode cJ0_charAt_5068e 11 = .ok (.iload_n 1, 1) := by decide +kernel
theorem dJ0_charAt_5068e_12 : decode cJ0_charAt_5068e 12 = .ok (.invokestatic 495, 3) := by decide +kernel
theorem dJ0_charAt_5068e_15 : decode cJ0_charAt_5068e 15 = .ok (.ireturn, 1) := by decide +kernel
theorem dJ0_charAt_5068e_16 : decode cJ0_charAt_5068e 16 = .ok (.aload_n 0, 1) := by decide +kernel
theorem dJ0_charAt_5068e_17 : decode cJ0_charAt_5068e 17 = .ok (.getfield 9, 3) := by decide +kernel
theorem dJ0_charAt_5068e_20 : decode cJ0_charAt_5068e 20 = .ok (.iload_n 1, 1) := by decide +kernel
theorem dJ0_charAt_5068e_21 : decode cJ0_charAt_5068e 21 = .ok (.invokestatic 498, 3) := by decide +kernel
theorem dJ0_charAt_5068e_24 : decode cJ0_charAt_5068e 24 = .ok (.ireturn, 1) := by decide +kernel
theorem dJ0_coder_7d493_0 : decode cJ0_coder_7d493 0 = .ok (.getstatic 38, 3) := by decide +kernel
theorem dJ0_coder_7d493_3 : decode cJ0_coder_7d493 3 = .ok (.ifCond .eq 10, 3) := by decide +kernel
theorem dJ0_coder_7d493_6 : decode cJ0_coder_7d493 6 = .ok (.aload_n 0, 1) := by decide +kernel
theorem dJ0_coder_7d493_7 : decode cJ0_coder_7d493 7 = .ok (.getfield 15, 3) := by decide +kernel
theorem dJ0_coder_7d493_10 : decode cJ0_coder_7d493 10 = .ok (.goto 4, 3) := by decide +kernel
theorem dJ0_coder_7d493_13 : decode cJ0_coder_7d493 13 = .ok (.iconst 1, 1) := by decide +kernel
theorem dJ0_coder_7d493_14 : decode cJ0_coder_7d493 14 = .ok (.ireturn, 1) := by decide +kernel
theorem dJ0_isLatin1_aae02_0 : decode cJ0_isLatin1_aae02 0 = .ok (.getstatic 38, 3) := by decide +kernel
theorem dJ0_isLatin1_aae02_3 : decode cJ0_isLatin1_aae02 3 = .ok (.ifCond .eq 14, 3) := by decide +kernel
theorem dJ0_isLatin1_aae02_6 : decode cJ0_isLatin1_aae02 6 = .ok (.aload_n 0, 1) := by decide +kernel
theorem dJ0_isLatin1_aae02_7 : decode cJ0_isLatin1_aae02 7 = .ok (.getfield 15, 3) := by decide +kernel
theorem dJ0_isLatin1_aae02_10 : decode cJ0_isLatin1_aae02 10 = .ok (.ifCond .ne 7, 3) := by decide +kernel
theorem dJ0_isLatin1_aae02_13 : decode cJ0_isLatin1_aae02 13 = .ok (.iconst 1, 1) := by decide +kernel
theorem dJ0_isLatin1_aae02_14 : decode cJ0_isLatin1_aae02 14 = .ok (.goto 4, 3) := by decide +kernel
theorem dJ0_isLatin1_aae02_17 : decode cJ0_isLatin1_aae02 17 = .ok (.iconst 0, 1) := by decide +kernel
theorem dJ0_isLatin1_aae02_18 : decode cJ0_isLatin1_aae02 18 = .ok (.ireturn, 1) := by decide +kernel
theorem dJ0_checkIndex_df160_0 : decode cJ0_checkIndex_df160 0 = .ok (.iload_n 0, 1) := by decide +kernel
theorem dJ0_checkIndex_df160_1 : decode cJ0_checkIndex_df160 1 = .ok (.iload_n 1, 1) := by decide +kernel
theorem dJ0_checkIndex_df160_2 : decode cJ0_checkIndex_df160 2 = .ok (.getstatic 1053, 3) := by decide +kernel
theorem dJ0_checkIndex_df160_5 : decode cJ0_checkIndex_df160 5 = .ok (.invokestatic 1059, 3) := by decide +kernel
theorem dJ0_checkIndex_df160_8 : decode cJ0_checkIndex_df160 8 = .ok (.pop, 1) := by decide +kernel
theorem dJ0_checkIndex_df160_9 : decode cJ0_checkIndex_df160 9 = .ok (.return_, 1) := by decide +kernel
theorem dJ1_charAt_3b067_0 : decode cJ1_charAt_3b067 0 = .ok (.iload_n 1, 1) := by decide +kernel
theorem dJ1_charAt_3b067_1 : decode cJ1_charAt_3b067 1 = .ok (.aload_n 0, 1) := by decide +kernel
theorem dJ1_charAt_3b067_2 : decode cJ1_charAt_3b067 2 = .ok (.arraylength, 1) := by decide +kernel
theorem dJ1_charAt_3b067_3 : decode cJ1_charAt_3b067 3 = .ok (.invokestatic 9, 3) := by decide +kernel
theorem dJ1_charAt_3b067_6 : decode cJ1_charAt_3b067 6 = .ok (.aload_n 0, 1) := by decide +kernel
theorem dJ1_charAt_3b067_7 : decode cJ1_charAt_3b067 7 = .ok (.iload_n 1, 1) := by decide +kernel
theorem dJ1_charAt_3b067_8 : decode cJ1_charAt_3b067 8 = .ok (.baload, 1) := by decide +kernel
theorem dJ1_charAt_3b067_9 : decode cJ1_charAt_3b067 9 = .ok (.sipush 255, 3) := by decide +kernel
theorem dJ1_charAt_3b067_12 : decode cJ1_charAt_3b067 12 = .ok (.iand, 1) := by decide +kernel
theorem dJ1_charAt_3b067_13 : decode cJ1_charAt_3b067 13 = .ok (.i2c, 1) := by decide +kernel
theorem dJ1_charAt_3b067_14 : decode cJ1_charAt_3b067 14 = .ok (.ireturn, 1) := by decide +kernel
theorem dJ2_getChar_3b067_0 : decode cJ2_getChar_3b067 0 = .ok (.getstatic 44, 3) := by decide +kernel
theorem dJ2_getChar_3b067_3 : decode cJ2_getChar_3b067 3 = .ok (.ifCond .ne 25, 3) := by decide +kernel
theorem dJ2_getChar_3b067_6 : decode cJ2_getChar_3b067 6 = .ok (.iload_n 1, 1) := by decide +kernel
theorem dJ2_getChar_3b067_7 : decode cJ2_getChar_3b067 7 = .ok (.ifCond .lt 11, 3) := by decide +kernel
theorem dJ2_getChar_3b067_10 : decode cJ2_getChar_3b067 10 = .ok (.iload_n 1, 1) := by decide +kernel
theorem dJ2_getChar_3b067_11 : decode cJ2_getChar_3b067 11 = .ok (.aload_n 0, 1) := by decide +kernel
theorem dJ2_getChar_3b067_12 : decode cJ2_getChar_3b067 12 = .ok (.invokestatic 48, 3) := by decide +kernel
theorem dJ2_getChar_3b067_15 : decode cJ2_getChar_3b067 15 = .ok (.if_icmp .lt 13, 3) := by decide +kernel
theorem dJ2_getChar_3b067_18 : decode cJ2_getChar_3b067 18 = .ok (.new 52, 3) := by decide +kernel
theorem dJ2_getChar_3b067_21 : decode cJ2_getChar_3b067 21 = .ok (.dup, 1) := by decide +kernel
theorem dJ2_getChar_3b067_22 : decode cJ2_getChar_3b067 22 = .ok (.ldc 54, 2) := by decide +kernel
theorem dJ2_getChar_3b067_24 : decode cJ2_getChar_3b067 24 = .ok (.invokespecial 56, 3) := by decide +kernel
theorem dJ2_getChar_3b067_27 : decode cJ2_getChar_3b067 27 = .ok (.athrow, 1) := by decide +kernel
theorem dJ2_getChar_3b067_28 : decode cJ2_getChar_3b067 28 = .ok (.iload_n 1, 1) := by decide +kernel
theorem dJ2_getChar_3b067_29 : decode cJ2_getChar_3b067 29 = .ok (.iconst 1, 1) := by decide +kernel
theorem dJ2_getChar_3b067_30 : decode cJ2_getChar_3b067 30 = .ok (.ishl, 1) := by decide +kernel
theorem dJ2_getChar_3b067_31 : decode cJ2_getChar_3b067 31 = .ok (.istore_n 1, 1) := by decide +kernel
theorem dJ2_getChar_3b067_32 : decode cJ2_getChar_3b067 32 = .ok (.aload_n 0, 1) := by decide +kernel
theorem dJ2_getChar_3b067_33 : decode cJ2_getChar_3b067 33 = .ok (.iload_n 1, 1) := by decide +kernel
theorem dJ2_getChar_3b067_34 : decode cJ2_getChar_3b067 34 = .ok (.iinc 1 1, 3) := by decide +kernel
theorem dJ2_getChar_3b067_37 : decode cJ2_getChar_3b067 37 = .ok (.baload, 1) := by decide +kernel
theorem dJ2_getChar_3b067_38 : decode cJ2_getChar_3b067 38 = .ok (.sipush 255, 3) := by decide +kernel
theorem dJ2_getChar_3b067_41 : decode cJ2_getChar_3b067 41 = .ok (.iand, 1) := by decide +kernel
theorem dJ2_getChar_3b067_42 : decode cJ2_getChar_3b067 42 = .ok (.getstatic 59, 3) := by decide +kernel
theorem dJ2_getChar_3b067_45 : decode cJ2_getChar_3b067 45 = .ok (.ishl, 1) := by decide +kernel
theorem dJ2_getChar_3b067_46 : decode cJ2_getChar_3b067 46 = .ok (.aload_n 0, 1) := by decide +kernel
theorem dJ2_getChar_3b067_47 : decode cJ2_getChar_3b067 47 = .ok (.iload_n 1, 1) := by decide +kernel
theorem dJ2_getChar_3b067_48 : decode cJ2_getChar_3b067 48 = .ok (.baload, 1) := by decide +kernel
theorem dJ2_getChar_3b067_49 : decode cJ2_getChar_3b067 49 = .ok (.sipush 255, 3) := by decide +kernel
theorem dJ2_getChar_3b067_52 : decode cJ2_getChar_3b067 52 = .ok (.iand, 1) := by decide +kernel
theorem dJ2_getChar_3b067_53 : decode cJ2_getChar_3b067 53 = .ok (.getstatic 63, 3) := by decide +kernel
theorem dJ2_getChar_3b067_56 : decode cJ2_getChar_3b067 56 = .ok (.ishl, 1) := by decide +kernel
theorem dJ2_getChar_3b067_57 : decode cJ2_getChar_3b067 57 = .ok (.ior, 1) := by decide +kernel
theorem dJ2_getChar_3b067_58 : decode cJ2_getChar_3b067 58 = .ok (.i2c, 1) := by decide +kernel
theorem dJ2_getChar_3b067_59 : decode cJ2_getChar_3b067 59 = .ok (.ireturn, 1) := by decide +kernel
theorem dJ2_length_9d52b_0 : decode cJ2_length_9d52b 0 = .ok (.aload_n 0, 1) := by decide +kernel
theorem dJ2_length_9d52b_1 : decode cJ2_length_9d52b 1 = .ok (.arraylength, 1) := by decide +kernel
theorem dJ2_length_9d52b_2 : decode cJ2_length_9d52b 2 = .ok (.iconst 1, 1) := by decide +kernel
theorem dJ2_length_9d52b_3 : decode cJ2_length_9d52b 3 = .ok (.ishr, 1) := by decide +kernel
theorem dJ2_length_9d52b_4 : decode cJ2_length_9d52b 4 = .ok (.ireturn, 1) := by decide +kernel
theorem dJ2_charAt_3b067_0 : decode cJ2_charAt_3b067 0 = .ok (.iload_n 1, 1) := by decide +kernel
theorem dJ2_charAt_3b067_1 : decode cJ2_charAt_3b067 1 = .ok (.aload_n 0, 1) := by decide +kernel
theorem dJ2_charAt_3b067_2 : decode cJ2_charAt_3b067 2 = .ok (.invokestatic 67, 3) := by decide +kernel
theorem dJ2_charAt_3b067_5 : decode cJ2_charAt_3b067 5 = .ok (.aload_n 0, 1) := by decide +kernel
theorem dJ2_charAt_3b067_6 : decode cJ2_charAt_3b067 6 = .ok (.iload_n 1, 1) := by decide +kernel
theorem dJ2_charAt_3b067_7 : decode cJ2_charAt_3b067 7 = .ok (.invokestatic 71, 3) := by decide +kernel
theorem dJ2_charAt_3b067_10 : decode cJ2_charAt_3b067 10 = .ok (.ireturn, 1) := by decide +kernel
theorem dJ2_checkIndex_2214a_0 : decode cJ2_checkIndex_2214a 0 = .ok (.iload_n 0, 1) := by decide +kernel
theorem dJ2_checkIndex_2214a_1 : decode cJ2_checkIndex_2214a 1 = .ok (.aload_n 1, 1) := by decide +kernel
theorem dJ2_checkIndex_2214a_2 : decode cJ2_checkIndex_2214a 2 = .ok (.invokestatic 48, 3) := by decide +kernel
theorem dJ2_checkIndex_2214a_5 : decode cJ2_checkIndex_2214a 5 = .ok (.invokestatic 414, 3) := by decide +kernel
theorem dJ2_checkIndex_2214a_8 : decode cJ2_checkIndex_2214a 8 = .ok (.return_, 1) := by decide +kernel
theorem dJ3_checkIndex_8e157_0 : decode cJ3_checkIndex_8e157 0 = .ok (.iload_n 0, 1) := by decide +kernel
theorem dJ3_checkIndex_8e157_1 : decode cJ3_checkIndex_8e157 1 = .ok (.ifCond .lt 8, 3) := by decide +kernel
theorem dJ3_checkIndex_8e157_4 : decode cJ3_checkIndex_8e157 4 = .ok (.iload_n 0, 1) := by decide +kernel
theorem dJ3_checkIndex_8e157_5 : decode cJ3_checkIndex_8e157 5 = .ok (.iload_n 1, 1) := by decide +kernel
theorem dJ3_checkIndex_8e157_6 : decode cJ3_checkIndex_8e157 6 = .ok (.if_icmp .lt 10, 3) := by decide +kernel
theorem dJ3_checkIndex_8e157_9 : decode cJ3_checkIndex_8e157 9 = .ok (.aload_n 2, 1) := by decide +kernel
theorem dJ3_checkIndex_8e157_10 : decode cJ3_checkIndex_8e157 10 = .ok (.iload_n 0, 1) := by decide +kernel
theorem dJ3_checkIndex_8e157_11 : decode cJ3_checkIndex_8e157 11 = .ok (.iload_n 1, 1) := by decide +kernel
theorem dJ3_checkIndex_8e157_12 : decode cJ3_checkIndex_8e157 12 = .ok (.invokestatic 95, 3) := by decide +kernel
theorem dJ3_checkIndex_8e157_15 : decode cJ3_checkIndex_8e157 15 = .ok (.athrow, 1) := by decide +kernel
theorem dJ3_checkIndex_8e157_16 : decode cJ3_checkIndex_8e157 16 = .ok (.iload_n 0, 1) := by decide +kernel
theorem dJ3_checkIndex_8e157_17 : decode cJ3_checkIndex_8e157 17 = .ok (.ireturn, 1) := by decide +kernel
theorem dL_law_0 : decode cL_law 0 = .ok (.new 7, 3) := by decide +kernel
theorem dL_law_3 : decode cL_law 3 = .ok (.dup, 1) := by decide +kernel
theorem dL_law_4 : decode cL_law 4 = .ok (.invokespecial 9, 3) := by decide +kernel
theorem dL_law_7 : decode cL_law 7 = .ok (.astore_n 1, 1) := by decide +kernel
theorem dL_law_8 : decode cL_law 8 = .ok (.new 10, 3) := by decide +kernel
theorem dL_law_11 : decode cL_law 11 = .ok (.dup, 1) := by decide +kernel
theorem dL_law_12 : decode cL_law 12 = .ok (.invokespecial 12, 3) := by decide +kernel
theorem dL_law_15 : decode cL_law 15 = .ok (.astore_n 2, 1) := by decide +kernel
theorem dL_law_16 : decode cL_law 16 = .ok (.iconst 0, 1) := by decide +kernel
theorem dL_law_17 : decode cL_law 17 = .ok (.istore_n 3, 1) := by decide +kernel
theorem dL_law_18 : decode cL_law 18 = .ok (.iload_n 3, 1) := by decide +kernel
theorem dL_law_19 : decode cL_law 19 = .ok (.aload_n 0, 1) := by decide +kernel
theorem dL_law_20 : decode cL_law 20 = .ok (.arraylength, 1) := by decide +kernel
theorem dL_law_21 : decode cL_law 21 = .ok (.bipush 6, 2) := by decide +kernel
theorem dL_law_23 : decode cL_law 23 = .ok (.isub, 1) := by decide +kernel
theorem dL_law_24 : decode cL_law 24 = .ok (.if_icmp .gt 694, 3) := by decide +kernel
theorem dL_law_27 : decode cL_law 27 = .ok (.aload_n 0, 1) := by decide +kernel
theorem dL_law_28 : decode cL_law 28 = .ok (.iload_n 3, 1) := by decide +kernel
theorem dL_law_29 : decode cL_law 29 = .ok (.iaload, 1) := by decide +kernel
theorem dL_law_30 : decode cL_law 30 = .ok (.bipush 31, 2) := by decide +kernel
theorem dL_law_32 : decode cL_law 32 = .ok (.iand, 1) := by decide +kernel
theorem dL_law_33 : decode cL_law 33 = .ok (.tableswitch 679 0 21 #[103, 126, 139, 152, 165, 188, 211, 234, 257, 290, 313, 326, 359, 392, 425, 448, 511, 534, 597, 620, 643, 656], 103) := by decide +kernel
theorem dL_law_136 : decode cL_law 136 = .ok (.aload_n 1, 1) := by decide +kernel
theorem dL_law_137 : decode cL_law 137 = .ok (.aload_n 0, 1) := by decide +kernel
theorem dL_law_138 : decode cL_law 138 = .ok (.iload_n 3, 1) := by decide +kernel
theorem dL_law_139 : decode cL_law 139 = .ok (.iconst 1, 1) := by decide +kernel
theorem dL_law_140 : decode cL_law 140 = .ok (.iadd, 1) := by decide +kernel
theorem dL_law_141 : decode cL_law 141 = .ok (.iaload, 1) := by decide +kernel
theorem dL_law_142 : decode cL_law 142 = .ok (.invokevirtual 13, 3) := by decide +kernel
theorem dL_law_145 : decode cL_law 145 = .ok (.aload_n 2, 1) := by decide +kernel
theorem dL_law_146 : decode cL_law 146 = .ok (.aload_n 0, 1) := by decide +kernel
theorem dL_law_147 : decode cL_law 147 = .ok (.iload_n 3, 1) := by decide +kernel
theorem dL_law_148 : decode cL_law 148 = .ok (.iconst 1, 1) := by decide +kernel
theorem dL_law_149 : decode cL_law 149 = .ok (.iadd, 1) := by decide +kernel
theorem dL_law_150 : decode cL_law 150 = .ok (.iaload, 1) := by decide +kernel
theorem dL_law_151 : decode cL_law 151 = .ok (.invokevirtual 17, 3) := by decide +kernel
theorem dL_law_154 : decode cL_law 154 = .ok (.if_icmp .eq 558, 3) := by decide +kernel
theorem dL_law_157 : decode cL_law 157 = .ok (.iconst 0, 1) := by decide +kernel
theorem dL_law_158 : decode cL_law 158 = .ok (.ireturn, 1) := by decide +kernel
theorem dL_law_159 : decode cL_law 159 = .ok (.aload_n 1, 1) := by decide +kernel
theorem dL_law_160 : decode cL_law 160 = .ok (.invokevirtual 18, 3) := by decide +kernel
theorem dL_law_163 : decode cL_law 163 = .ok (.aload_n 2, 1) := by decide +kernel
theorem dL_law_164 : decode cL_law 164 = .ok (.invokevirtual 22, 3) := by decide +kernel
theorem dL_law_167 : decode cL_law 167 = .ok (.if_icmp .eq 545, 3) := by decide +kernel
theorem dL_law_170 : decode cL_law 170 = .ok (.iconst 0, 1) := by decide +kernel
theorem dL_law_171 : decode cL_law 171 = .ok (.ireturn, 1) := by decide +kernel
theorem dL_law_172 : decode cL_law 172 = .ok (.aload_n 1, 1) := by decide +kernel
theorem dL_law_173 : decode cL_law 173 = .ok (.invokevirtual 23, 3) := by decide +kernel
theorem dL_law_176 : decode cL_law 176 = .ok (.aload_n 2, 1) := by decide +kernel
theorem dL_law_177 : decode cL_law 177 = .ok (.invokevirtual 26, 3) := by decide +kernel
theorem dL_law_180 : decode cL_law 180 = .ok (.if_icmp .eq 532, 3) := by decide +kernel
theorem dL_law_183 : decode cL_law 183 = .ok (.iconst 0, 1) := by decide +kernel
theorem dL_law_184 : decode cL_law 184 = .ok (.ireturn, 1) := by decide +kernel
theorem dL_law_185 : decode cL_law 185 = .ok (.aload_n 1, 1) := by decide +kernel
theorem dL_law_186 : decode cL_law 186 = .ok (.invokevirtual 27, 3) := by decide +kernel
theorem dL_law_189 : decode cL_law 189 = .ok (.aload_n 2, 1) := by decide +kernel
theorem dL_law_190 : decode cL_law 190 = .ok (.invokevirtual 30, 3) := by decide +kernel
theorem dL_law_193 : decode cL_law 193 = .ok (.if_icmp .eq 519, 3) := by decide +kernel
theorem dL_law_196 : decode cL_law 196 = .ok (.iconst 0, 1) := by decide +kernel
theorem dL_law_197 : decode cL_law 197 = .ok (.ireturn, 1) := by decide +kernel
theorem dL_law_198 : decode cL_law 198 = .ok (.aload_n 1, 1) := by decide +kernel
theorem dL_law_199 : decode cL_law 199 = .ok (.aload_n 0, 1) := by decide +kernel
theorem dL_law_200 : decode cL_law 200 = .ok (.iload_n 3, 1) := by decide +kernel
theorem dL_law_201 : decode cL_law 201 = .ok (.iconst 1, 1) := by decide +kernel
theorem dL_law_202 : decode cL_law 202 = .ok (.iadd, 1) := by decide +kernel
theorem dL_law_203 : decode cL_law 203 = .ok (.iaload, 1) := by decide +kernel
theorem dL_law_204 : decode cL_law 204 = .ok (.invokevirtual 31, 3) := by decide +kernel
theorem dL_law_207 : decode cL_law 207 = .ok (.aload_n 2, 1) := by decide +kernel
theorem dL_law_208 : decode cL_law 208 = .ok (.aload_n 0, 1) := by decide +kernel
theorem dL_law_209 : decode cL_law 209 = .ok (.iload_n 3, 1) := by decide +kernel
theorem dL_law_210 : decode cL_law 210 = .ok (.iconst 1, 1) := by decide +kernel
theorem dL_law_211 : decode cL_law 211 = .ok (.iadd, 1) := by decide +kernel
theorem dL_law_212 : decode cL_law 212 = .ok (.iaload, 1) := by decide +kernel
theorem dL_law_213 : decode cL_law 213 = .ok (.invokevirtual 34, 3) := by decide +kernel
theorem dL_law_216 : decode cL_law 216 = .ok (.if_icmp .eq 496, 3) := by decide +kernel
theorem dL_law_219 : decode cL_law 219 = .ok (.iconst 0, 1) := by decide +kernel
theorem dL_law_220 : decode cL_law 220 = .ok (.ireturn, 1) := by decide +kernel
theorem dL_law_221 : decode cL_law 221 = .ok (.aload_n 1, 1) := by decide +kernel
theorem dL_law_222 : decode cL_law 222 = .ok (.aload_n 0, 1) := by decide +kernel
theorem dL_law_223 : decode cL_law 223 = .ok (.iload_n 3, 1) := by decide +kernel
theorem dL_law_224 : decode cL_law 224 = .ok (.iconst 1, 1) := by decide +kernel
theorem dL_law_225 : decode cL_law 225 = .ok (.iadd, 1) := by decide +kernel
theorem dL_law_226 : decode cL_law 226 = .ok (.iaload, 1) := by decide +kernel
theorem dL_law_227 : decode cL_law 227 = .ok (.invokevirtual 35, 3) := by decide +kernel
theorem dL_law_230 : decode cL_law 230 = .ok (.aload_n 2, 1) := by decide +kernel
theorem dL_law_231 : decode cL_law 231 = .ok (.aload_n 0, 1) := by decide +kernel
theorem dL_law_232 : decode cL_law 232 = .ok (.iload_n 3, 1) := by decide +kernel
theorem dL_law_233 : decode cL_law 233 = .ok (.iconst 1, 1) := by decide +kernel
theorem dL_law_234 : decode cL_law 234 = .ok (.iadd, 1) := by decide +kernel
theorem dL_law_235 : decode cL_law 235 = .ok (.iaload, 1) := by decide +kernel
theorem dL_law_236 : decode cL_law 236 = .ok (.invokevirtual 38, 3) := by decide +kernel
theorem dL_law_239 : decode cL_law 239 = .ok (.if_icmp .eq 473, 3) := by decide +kernel
theorem dL_law_242 : decode cL_law 242 = .ok (.iconst 0, 1) := by decide +kernel
theorem dL_law_243 : decode cL_law 243 = .ok (.ireturn, 1) := by decide +kernel
theorem dL_law_244 : decode cL_law 244 = .ok (.aload_n 1, 1) := by decide +kernel
theorem dL_law_245 : decode cL_law 245 = .ok (.aload_n 0, 1) := by decide +kernel
theorem dL_law_246 : decode cL_law 246 = .ok (.iload_n 3, 1) := by decide +kernel
theorem dL_law_247 : decode cL_law 247 = .ok (.iconst 1, 1) := by decide +kernel
theorem dL_law_248 : decode cL_law 248 = .ok (.iadd, 1) := by decide +kernel
theorem dL_law_249 : decode cL_law 249 = .ok (.iaload, 1) := by decide +kernel
theorem dL_law_250 : decode cL_law 250 = .ok (.invokevirtual 39, 3) := by decide +kernel
theorem dL_law_253 : decode cL_law 253 = .ok (.aload_n 2, 1) := by decide +kernel
theorem dL_law_254 : decode cL_law 254 = .ok (.aload_n 0, 1) := by decide +kernel
theorem dL_law_255 : decode cL_law 255 = .ok (.iload_n 3, 1) := by decide +kernel
theorem dL_law_256 : decode cL_law 256 = .ok (.iconst 1, 1) := by decide +kernel
theorem dL_law_257 : decode cL_law 257 = .ok (.iadd, 1) := by decide +kernel
theorem dL_law_258 : decode cL_law 258 = .ok (.iaload, 1) := by decide +kernel
theorem dL_law_259 : decode cL_law 259 = .ok (.invokevirtual 42, 3) := by decide +kernel
theorem dL_law_262 : decode cL_law 262 = .ok (.if_icmp .eq 450, 3) := by decide +kernel
theorem dL_law_265 : decode cL_law 265 = .ok (.iconst 0, 1) := by decide +kernel
theorem dL_law_266 : decode cL_law 266 = .ok (.ireturn, 1) := by decide +kernel
theorem dL_law_267 : decode cL_law 267 = .ok (.aload_n 1, 1) := by decide +kernel
theorem dL_law_268 : decode cL_law 268 = .ok (.aload_n 0, 1) := by decide +kernel
theorem dL_law_269 : decode cL_law 269 = .ok (.iload_n 3, 1) := by decide +kernel
theorem dL_law_270 : decode cL_law 270 = .ok (.iconst 1, 1) := by decide +kernel
theorem dL_law_271 : decode cL_law 271 = .ok (.iadd, 1) := by decide +kernel
theorem dL_law_272 : decode cL_law 272 = .ok (.iaload, 1) := by decide +kernel
theorem dL_law_273 : decode cL_law 273 = .ok (.invokevirtual 43, 3) := by decide +kernel
theorem dL_law_276 : decode cL_law 276 = .ok (.aload_n 2, 1) := by decide +kernel
theorem dL_law_277 : decode cL_law 277 = .ok (.aload_n 0, 1) := by decide +kernel
theorem dL_law_278 : decode cL_law 278 = .ok (.iload_n 3, 1) := by decide +kernel
theorem dL_law_279 : decode cL_law 279 = .ok (.iconst 1, 1) := by decide +kernel
theorem dL_law_280 : decode cL_law 280 = .ok (.iadd, 1) := by decide +kernel
theorem dL_law_281 : decode cL_law 281 = .ok (.iaload, 1) := by decide +kernel
theorem dL_law_282 : decode cL_law 282 = .ok (.invokevirtual 46, 3) := by decide +kernel
theorem dL_law_285 : decode cL_law 285 = .ok (.if_icmp .eq 427, 3) := by decide +kernel
theorem dL_law_288 : decode cL_law 288 = .ok (.iconst 0, 1) := by decide +kernel
theorem dL_law_289 : decode cL_law 289 = .ok (.ireturn, 1) := by decide +kernel
theorem dL_law_290 : decode cL_law 290 = .ok (.aload_n 1, 1) := by decide +kernel
theorem dL_law_291 : decode cL_law 291 = .ok (.aload_n 0, 1) := by decide +kernel
theorem dL_law_292 : decode cL_law 292 = .ok (.iload_n 3, 1) := by decide +kernel
theorem dL_law_293 : decode cL_law 293 = .ok (.iconst 1, 1) := by decide +kernel
theorem dL_law_294 : decode cL_law 294 = .ok (.iadd, 1) := by decide +kernel
theorem dL_law_295 : decode cL_law 295 = .ok (.iaload, 1) := by decide +kernel
theorem dL_law_296 : decode cL_law 296 = .ok (.aload_n 0, 1) := by decide +kernel
theorem dL_law_297 : decode cL_law 297 = .ok (.iload_n 3, 1) := by decide +kernel
theorem dL_law_298 : decode cL_law 298 = .ok (.iconst 2, 1) := by decide +kernel
theorem dL_law_299 : decode cL_law 299 = .ok (.iadd, 1) := by decide +kernel
theorem dL_law_300 : decode cL_law 300 = .ok (.iaload, 1) := by decide +kernel
theorem dL_law_301 : decode cL_law 301 = .ok (.invokevirtual 47, 3) := by decide +kernel
theorem dL_law_304 : decode cL_law 304 = .ok (.aload_n 2, 1) := by decide +kernel
theorem dL_law_305 : decode cL_law 305 = .ok (.aload_n 0, 1) := by decide +kernel
theorem dL_law_306 : decode cL_law 306 = .ok (.iload_n 3, 1) := by decide +kernel
theorem dL_law_307 : decode cL_law 307 = .ok (.iconst 1, 1) := by decide +kernel
theorem dL_law_308 : decode cL_law 308 = .ok (.iadd, 1) := by decide +kernel
theorem dL_law_309 : decode cL_law 309 = .ok (.iaload, 1) := by decide +kernel
theorem dL_law_310 : decode cL_law 310 = .ok (.aload_n 0, 1) := by decide +kernel
theorem dL_law_311 : decode cL_law 311 = .ok (.iload_n 3, 1) := by decide +kernel
theorem dL_law_312 : decode cL_law 312 = .ok (.iconst 2, 1) := by decide +kernel
theorem dL_law_313 : decode cL_law 313 = .ok (.iadd, 1) := by decide +kernel
theorem dL_law_314 : decode cL_law 314 = .ok (.iaload, 1) := by decide +kernel
theorem dL_law_315 : decode cL_law 315 = .ok (.invokevirtual 51, 3) := by decide +kernel
theorem dL_law_318 : decode cL_law 318 = .ok (.if_icmp .eq 394, 3) := by decide +kernel
theorem dL_law_321 : decode cL_law 321 = .ok (.iconst 0, 1) := by decide +kernel
theorem dL_law_322 : decode cL_law 322 = .ok (.ireturn, 1) := by decide +kernel
theorem dL_law_323 : decode cL_law 323 = .ok (.aload_n 1, 1) := by decide +kernel
theorem dL_law_324 : decode cL_law 324 = .ok (.aload_n 0, 1) := by decide +kernel
theorem dL_law_325 : decode cL_law 325 = .ok (.iload_n 3, 1) := by decide +kernel
theorem dL_law_326 : decode cL_law 326 = .ok (.iconst 1, 1) := by decide +kernel
theorem dL_law_327 : decode cL_law 327 = .ok (.iadd, 1) := by decide +kernel
theorem dL_law_328 : decode cL_law 328 = .ok (.iaload, 1) := by decide +kernel
theorem dL_law_329 : decode cL_law 329 = .ok (.invokevirtual 52, 3) := by decide +kernel
theorem dL_law_332 : decode cL_law 332 = .ok (.aload_n 2, 1) := by decide +kernel
theorem dL_law_333 : decode cL_law 333 = .ok (.aload_n 0, 1) := by decide +kernel
theorem dL_law_334 : decode cL_law 334 = .ok (.iload_n 3, 1) := by decide +kernel
theorem dL_law_335 : decode cL_law 335 = .ok (.iconst 1, 1) := by decide +kernel
theorem dL_law_336 : decode cL_law 336 = .ok (.iadd, 1) := by decide +kernel
theorem dL_law_337 : decode cL_law 337 = .ok (.iaload, 1) := by decide +kernel
theorem dL_law_338 : decode cL_law 338 = .ok (.invokevirtual 55, 3) := by decide +kernel
theorem dL_law_341 : decode cL_law 341 = .ok (.if_icmp .eq 371, 3) := by decide +kernel
theorem dL_law_344 : decode cL_law 344 = .ok (.iconst 0, 1) := by decide +kernel
theorem dL_law_345 : decode cL_law 345 = .ok (.ireturn, 1) := by decide +kernel
theorem dL_law_346 : decode cL_law 346 = .ok (.aload_n 1, 1) := by decide +kernel
theorem dL_law_347 : decode cL_law 347 = .ok (.invokevirtual 56, 3) := by decide +kernel
theorem dL_law_350 : decode cL_law 350 = .ok (.aload_n 2, 1) := by decide +kernel
theorem dL_law_351 : decode cL_law 351 = .ok (.invokevirtual 59, 3) := by decide +kernel
theorem dL_law_354 : decode cL_law 354 = .ok (.if_icmp .eq 358, 3) := by decide +kernel
theorem dL_law_357 : decode cL_law 357 = .ok (.iconst 0, 1) := by decide +kernel
theorem dL_law_358 : decode cL_law 358 = .ok (.ireturn, 1) := by decide +kernel
theorem dL_law_359 : decode cL_law 359 = .ok (.aload_n 1, 1) := by decide +kernel
theorem dL_law_360 : decode cL_law 360 = .ok (.aload_n 0, 1) := by decide +kernel
theorem dL_law_361 : decode cL_law 361 = .ok (.iload_n 3, 1) := by decide +kernel
theorem dL_law_362 : decode cL_law 362 = .ok (.iconst 1, 1) := by decide +kernel
theorem dL_law_363 : decode cL_law 363 = .ok (.iadd, 1) := by decide +kernel
theorem dL_law_364 : decode cL_law 364 = .ok (.iaload, 1) := by decide +kernel
theorem dL_law_365 : decode cL_law 365 = .ok (.aload_n 0, 1) := by decide +kernel
theorem dL_law_366 : decode cL_law 366 = .ok (.iload_n 3, 1) := by decide +kernel
theorem dL_law_367 : decode cL_law 367 = .ok (.iconst 2, 1) := by decide +kernel
theorem dL_law_368 : decode cL_law 368 = .ok (.iadd, 1) := by decide +kernel
theorem dL_law_369 : decode cL_law 369 = .ok (.iaload, 1) := by decide +kernel
theorem dL_law_370 : decode cL_law 370 = .ok (.invokevirtual 60, 3) := by decide +kernel
theorem dL_law_373 : decode cL_law 373 = .ok (.aload_n 2, 1) := by decide +kernel
theorem dL_law_374 : decode cL_law 374 = .ok (.aload_n 0, 1) := by decide +kernel
theorem dL_law_375 : decode cL_law 375 = .ok (.iload_n 3, 1) := by decide +kernel
theorem dL_law_376 : decode cL_law 376 = .ok (.iconst 1, 1) := by decide +kernel
theorem dL_law_377 : decode cL_law 377 = .ok (.iadd, 1) := by decide +kernel
theorem dL_law_378 : decode cL_law 378 = .ok (.iaload, 1) := by decide +kernel
theorem dL_law_379 : decode cL_law 379 = .ok (.aload_n 0, 1) := by decide +kernel
theorem dL_law_380 : decode cL_law 380 = .ok (.iload_n 3, 1) := by decide +kernel
theorem dL_law_381 : decode cL_law 381 = .ok (.iconst 2, 1) := by decide +kernel
theorem dL_law_382 : decode cL_law 382 = .ok (.iadd, 1) := by decide +kernel
theorem dL_law_383 : decode cL_law 383 = .ok (.iaload, 1) := by decide +kernel
theorem dL_law_384 : decode cL_law 384 = .ok (.invokevirtual 63, 3) := by decide +kernel
theorem dL_law_387 : decode cL_law 387 = .ok (.if_icmp .eq 325, 3) := by decide +kernel
theorem dL_law_390 : decode cL_law 390 = .ok (.iconst 0, 1) := by decide +kernel
theorem dL_law_391 : decode cL_law 391 = .ok (.ireturn, 1) := by decide +kernel
theorem dL_law_392 : decode cL_law 392 = .ok (.aload_n 1, 1) := by decide +kernel
theorem dL_law_393 : decode cL_law 393 = .ok (.aload_n 0, 1) := by decide +kernel
theorem dL_law_394 : decode cL_law 394 = .ok (.iload_n 3, 1) := by decide +kernel
theorem dL_law_395 : decode cL_law 395 = .ok (.iconst 1, 1) := by decide +kernel
theorem dL_law_396 : decode cL_law 396 = .ok (.iadd, 1) := by decide +kernel
theorem dL_law_397 : decode cL_law 397 = .ok (.iaload, 1) := by decide +kernel
theorem dL_law_398 : decode cL_law 398 = .ok (.aload_n 0, 1) := by decide +kernel
theorem dL_law_399 : decode cL_law 399 = .ok (.iload_n 3, 1) := by decide +kernel
theorem dL_law_400 : decode cL_law 400 = .ok (.iconst 2, 1) := by decide +kernel
theorem dL_law_401 : decode cL_law 401 = .ok (.iadd, 1) := by decide +kernel
theorem dL_law_402 : decode cL_law 402 = .ok (.iaload, 1) := by decide +kernel
theorem dL_law_403 : decode cL_law 403 = .ok (.invokevirtual 64, 3) := by decide +kernel
theorem dL_law_406 : decode cL_law 406 = .ok (.aload_n 2, 1) := by decide +kernel
theorem dL_law_407 : decode cL_law 407 = .ok (.aload_n 0, 1) := by decide +kernel
theorem dL_law_408 : decode cL_law 408 = .ok (.iload_n 3, 1) := by decide +kernel
theorem dL_law_409 : decode cL_law 409 = .ok (.iconst 1, 1) := by decide +kernel
theorem dL_law_410 : decode cL_law 410 = .ok (.iadd, 1) := by decide +kernel
theorem dL_law_411 : decode cL_law 411 = .ok (.iaload, 1) := by decide +kernel
theorem dL_law_412 : decode cL_law 412 = .ok (.aload_n 0, 1) := by decide +kernel
theorem dL_law_413 : decode cL_law 413 = .ok (.iload_n 3, 1) := by decide +kernel
theorem dL_law_414 : decode cL_law 414 = .ok (.iconst 2, 1) := by decide +kernel
theorem dL_law_415 : decode cL_law 415 = .ok (.iadd, 1) := by decide +kernel
theorem dL_law_416 : decode cL_law 416 = .ok (.iaload, 1) := by decide +kernel
theorem dL_law_417 : decode cL_law 417 = .ok (.invokevirtual 67, 3) := by decide +kernel
theorem dL_law_420 : decode cL_law 420 = .ok (.if_icmp .eq 292, 3) := by decide +kernel
theorem dL_law_423 : decode cL_law 423 = .ok (.iconst 0, 1) := by decide +kernel
theorem dL_law_424 : decode cL_law 424 = .ok (.ireturn, 1) := by decide +kernel
theorem dL_law_425 : decode cL_law 425 = .ok (.aload_n 1, 1) := by decide +kernel
theorem dL_law_426 : decode cL_law 426 = .ok (.aload_n 0, 1) := by decide +kernel
theorem dL_law_427 : decode cL_law 427 = .ok (.iload_n 3, 1) := by decide +kernel
theorem dL_law_428 : decode cL_law 428 = .ok (.iconst 1, 1) := by decide +kernel
theorem dL_law_429 : decode cL_law 429 = .ok (.iadd, 1) := by decide +kernel
theorem dL_law_430 : decode cL_law 430 = .ok (.iaload, 1) := by decide +kernel
theorem dL_law_431 : decode cL_law 431 = .ok (.aload_n 0, 1) := by decide +kernel
theorem dL_law_432 : decode cL_law 432 = .ok (.iload_n 3, 1) := by decide +kernel
theorem dL_law_433 : decode cL_law 433 = .ok (.iconst 2, 1) := by decide +kernel
theorem dL_law_434 : decode cL_law 434 = .ok (.iadd, 1) := by decide +kernel
theorem dL_law_435 : decode cL_law 435 = .ok (.iaload, 1) := by decide +kernel
theorem dL_law_436 : decode cL_law 436 = .ok (.invokevirtual 68, 3) := by decide +kernel
theorem dL_law_439 : decode cL_law 439 = .ok (.aload_n 2, 1) := by decide +kernel
theorem dL_law_440 : decode cL_law 440 = .ok (.aload_n 0, 1) := by decide +kernel
theorem dL_law_441 : decode cL_law 441 = .ok (.iload_n 3, 1) := by decide +kernel
theorem dL_law_442 : decode cL_law 442 = .ok (.iconst 1, 1) := by decide +kernel
theorem dL_law_443 : decode cL_law 443 = .ok (.iadd, 1) := by decide +kernel
theorem dL_law_444 : decode cL_law 444 = .ok (.iaload, 1) := by decide +kernel
theorem dL_law_445 : decode cL_law 445 = .ok (.aload_n 0, 1) := by decide +kernel
theorem dL_law_446 : decode cL_law 446 = .ok (.iload_n 3, 1) := by decide +kernel
theorem dL_law_447 : decode cL_law 447 = .ok (.iconst 2, 1) := by decide +kernel
theorem dL_law_448 : decode cL_law 448 = .ok (.iadd, 1) := by decide +kernel
theorem dL_law_449 : decode cL_law 449 = .ok (.iaload, 1) := by decide +kernel
theorem dL_law_450 : decode cL_law 450 = .ok (.invokevirtual 71, 3) := by decide +kernel
theorem dL_law_453 : decode cL_law 453 = .ok (.if_icmp .eq 259, 3) := by decide +kernel
theorem dL_law_456 : decode cL_law 456 = .ok (.iconst 0, 1) := by decide +kernel
theorem dL_law_457 : decode cL_law 457 = .ok (.ireturn, 1) := by decide +kernel
theorem dL_law_458 : decode cL_law 458 = .ok (.aload_n 1, 1) := by decide +kernel
theorem dL_law_459 : decode cL_law 459 = .ok (.aload_n 0, 1) := by decide +kernel
theorem dL_law_460 : decode cL_law 460 = .ok (.iload_n 3, 1) := by decide +kernel
theorem dL_law_461 : decode cL_law 461 = .ok (.iconst 1, 1) := by decide +kernel
theorem dL_law_462 : decode cL_law 462 = .ok (.iadd, 1) := by decide +kernel
theorem dL_law_463 : decode cL_law 463 = .ok (.iaload, 1) := by decide +kernel
theorem dL_law_464 : decode cL_law 464 = .ok (.invokevirtual 72, 3) := by decide +kernel
theorem dL_law_467 : decode cL_law 467 = .ok (.aload_n 2, 1) := by decide +kernel
theorem dL_law_468 : decode cL_law 468 = .ok (.aload_n 0, 1) := by decide +kernel
theorem dL_law_469 : decode cL_law 469 = .ok (.iload_n 3, 1) := by decide +kernel
theorem dL_law_470 : decode cL_law 470 = .ok (.iconst 1, 1) := by decide +kernel
theorem dL_law_471 : decode cL_law 471 = .ok (.iadd, 1) := by decide +kernel
theorem dL_law_472 : decode cL_law 472 = .ok (.iaload, 1) := by decide +kernel
theorem dL_law_473 : decode cL_law 473 = .ok (.invokevirtual 75, 3) := by decide +kernel
theorem dL_law_476 : decode cL_law 476 = .ok (.if_icmp .eq 236, 3) := by decide +kernel
theorem dL_law_479 : decode cL_law 479 = .ok (.iconst 0, 1) := by decide +kernel
theorem dL_law_480 : decode cL_law 480 = .ok (.ireturn, 1) := by decide +kernel
theorem dL_law_481 : decode cL_law 481 = .ok (.aload_n 1, 1) := by decide +kernel
theorem dL_law_482 : decode cL_law 482 = .ok (.aload_n 0, 1) := by decide +kernel
theorem dL_law_483 : decode cL_law 483 = .ok (.iload_n 3, 1) := by decide +kernel
theorem dL_law_484 : decode cL_law 484 = .ok (.iconst 1, 1) := by decide +kernel
theorem dL_law_485 : decode cL_law 485 = .ok (.iadd, 1) := by decide +kernel
theorem dL_law_486 : decode cL_law 486 = .ok (.iaload, 1) := by decide +kernel
theorem dL_law_487 : decode cL_law 487 = .ok (.aload_n 0, 1) := by decide +kernel
theorem dL_law_488 : decode cL_law 488 = .ok (.iload_n 3, 1) := by decide +kernel
theorem dL_law_489 : decode cL_law 489 = .ok (.iconst 2, 1) := by decide +kernel
theorem dL_law_490 : decode cL_law 490 = .ok (.iadd, 1) := by decide +kernel
theorem dL_law_491 : decode cL_law 491 = .ok (.iaload, 1) := by decide +kernel
theorem dL_law_492 : decode cL_law 492 = .ok (.aload_n 0, 1) := by decide +kernel
theorem dL_law_493 : decode cL_law 493 = .ok (.iload_n 3, 1) := by decide +kernel
theorem dL_law_494 : decode cL_law 494 = .ok (.iconst 3, 1) := by decide +kernel
theorem dL_law_495 : decode cL_law 495 = .ok (.iadd, 1) := by decide +kernel
theorem dL_law_496 : decode cL_law 496 = .ok (.iaload, 1) := by decide +kernel
theorem dL_law_497 : decode cL_law 497 = .ok (.aload_n 0, 1) := by decide +kernel
theorem dL_law_498 : decode cL_law 498 = .ok (.iload_n 3, 1) := by decide +kernel
theorem dL_law_499 : decode cL_law 499 = .ok (.iconst 4, 1) := by decide +kernel
theorem dL_law_500 : decode cL_law 500 = .ok (.iadd, 1) := by decide +kernel
theorem dL_law_501 : decode cL_law 501 = .ok (.iaload, 1) := by decide +kernel
theorem dL_law_502 : decode cL_law 502 = .ok (.aload_n 0, 1) := by decide +kernel
theorem dL_law_503 : decode cL_law 503 = .ok (.iload_n 3, 1) := by decide +kernel
theorem dL_law_504 : decode cL_law 504 = .ok (.iconst 5, 1) := by decide +kernel
theorem dL_law_505 : decode cL_law 505 = .ok (.iadd, 1) := by decide +kernel
theorem dL_law_506 : decode cL_law 506 = .ok (.iaload, 1) := by decide +kernel
theorem dL_law_507 : decode cL_law 507 = .ok (.invokevirtual 76, 3) := by decide +kernel
theorem dL_law_510 : decode cL_law 510 = .ok (.aload_n 2, 1) := by decide +kernel
theorem dL_law_511 : decode cL_law 511 = .ok (.aload_n 0, 1) := by decide +kernel
theorem dL_law_512 : decode cL_law 512 = .ok (.iload_n 3, 1) := by decide +kernel
theorem dL_law_513 : decode cL_law 513 = .ok (.iconst 1, 1) := by decide +kernel
theorem dL_law_514 : decode cL_law 514 = .ok (.iadd, 1) := by decide +kernel
theorem dL_law_515 : decode cL_law 515 = .ok (.iaload, 1) := by decide +kernel
theorem dL_law_516 : decode cL_law 516 = .ok (.aload_n 0, 1) := by decide +kernel
theorem dL_law_517 : decode cL_law 517 = .ok (.iload_n 3, 1) := by decide +kernel
theorem dL_law_518 : decode cL_law 518 = .ok (.iconst 2, 1) := by decide +kernel
theorem dL_law_519 : decode cL_law 519 = .ok (.iadd, 1) := by decide +kernel
theorem dL_law_520 : decode cL_law 520 = .ok (.iaload, 1) := by decide +kernel
theorem dL_law_521 : decode cL_law 521 = .ok (.aload_n 0, 1) := by decide +kernel
theorem dL_law_522 : decode cL_law 522 = .ok (.iload_n 3, 1) := by decide +kernel
theorem dL_law_523 : decode cL_law 523 = .ok (.iconst 3, 1) := by decide +kernel
theorem dL_law_524 : decode cL_law 524 = .ok (.iadd, 1) := by decide +kernel
theorem dL_law_525 : decode cL_law 525 = .ok (.iaload, 1) := by decide +kernel
theorem dL_law_526 : decode cL_law 526 = .ok (.aload_n 0, 1) := by decide +kernel
theorem dL_law_527 : decode cL_law 527 = .ok (.iload_n 3, 1) := by decide +kernel
theorem dL_law_528 : decode cL_law 528 = .ok (.iconst 4, 1) := by decide +kernel
theorem dL_law_529 : decode cL_law 529 = .ok (.iadd, 1) := by decide +kernel
theorem dL_law_530 : decode cL_law 530 = .ok (.iaload, 1) := by decide +kernel
theorem dL_law_531 : decode cL_law 531 = .ok (.aload_n 0, 1) := by decide +kernel
theorem dL_law_532 : decode cL_law 532 = .ok (.iload_n 3, 1) := by decide +kernel
theorem dL_law_533 : decode cL_law 533 = .ok (.iconst 5, 1) := by decide +kernel
theorem dL_law_534 : decode cL_law 534 = .ok (.iadd, 1) := by decide +kernel
theorem dL_law_535 : decode cL_law 535 = .ok (.iaload, 1) := by decide +kernel
theorem dL_law_536 : decode cL_law 536 = .ok (.invokevirtual 80, 3) := by decide +kernel
theorem dL_law_539 : decode cL_law 539 = .ok (.if_icmp .eq 173, 3) := by decide +kernel
theorem dL_law_542 : decode cL_law 542 = .ok (.iconst 0, 1) := by decide +kernel
theorem dL_law_543 : decode cL_law 543 = .ok (.ireturn, 1) := by decide +kernel
theorem dL_law_544 : decode cL_law 544 = .ok (.aload_n 1, 1) := by decide +kernel
theorem dL_law_545 : decode cL_law 545 = .ok (.aload_n 0, 1) := by decide +kernel
theorem dL_law_546 : decode cL_law 546 = .ok (.iload_n 3, 1) := by decide +kernel
theorem dL_law_547 : decode cL_law 547 = .ok (.iconst 1, 1) := by decide +kernel
theorem dL_law_548 : decode cL_law 548 = .ok (.iadd, 1) := by decide +kernel
theorem dL_law_549 : decode cL_law 549 = .ok (.iaload, 1) := by decide +kernel
theorem dL_law_550 : decode cL_law 550 = .ok (.invokevirtual 81, 3) := by decide +kernel
theorem dL_law_553 : decode cL_law 553 = .ok (.aload_n 2, 1) := by decide +kernel
theorem dL_law_554 : decode cL_law 554 = .ok (.aload_n 0, 1) := by decide +kernel
theorem dL_law_555 : decode cL_law 555 = .ok (.iload_n 3, 1) := by decide +kernel
theorem dL_law_556 : decode cL_law 556 = .ok (.iconst 1, 1) := by decide +kernel
theorem dL_law_557 : decode cL_law 557 = .ok (.iadd, 1) := by decide +kernel
theorem dL_law_558 : decode cL_law 558 = .ok (.iaload, 1) := by decide +kernel
theorem dL_law_559 : decode cL_law 559 = .ok (.invokevirtual 84, 3) := by decide +kernel
theorem dL_law_562 : decode cL_law 562 = .ok (.if_icmp .eq 150, 3) := by decide +kernel
theorem dL_law_565 : decode cL_law 565 = .ok (.iconst 0, 1) := by decide +kernel
theorem dL_law_566 : decode cL_law 566 = .ok (.ireturn, 1) := by decide +kernel
theorem dL_law_567 : decode cL_law 567 = .ok (.aload_n 1, 1) := by decide +kernel
theorem dL_law_568 : decode cL_law 568 = .ok (.aload_n 0, 1) := by decide +kernel
theorem dL_law_569 : decode cL_law 569 = .ok (.iload_n 3, 1) := by decide +kernel
theorem dL_law_570 : decode cL_law 570 = .ok (.iconst 1, 1) := by decide +kernel
theorem dL_law_571 : decode cL_law 571 = .ok (.iadd, 1) := by decide +kernel
theorem dL_law_572 : decode cL_law 572 = .ok (.iaload, 1) := by decide +kernel
theorem dL_law_573 : decode cL_law 573 = .ok (.aload_n 0, 1) := by decide +kernel
theorem dL_law_574 : decode cL_law 574 = .ok (.iload_n 3, 1) := by decide +kernel
theorem dL_law_575 : decode cL_law 575 = .ok (.iconst 2, 1) := by decide +kernel
theorem dL_law_576 : decode cL_law 576 = .ok (.iadd, 1) := by decide +kernel
theorem dL_law_577 : decode cL_law 577 = .ok (.iaload, 1) := by decide +kernel
theorem dL_law_578 : decode cL_law 578 = .ok (.aload_n 0, 1) := by decide +kernel
theorem dL_law_579 : decode cL_law 579 = .ok (.iload_n 3, 1) := by decide +kernel
theorem dL_law_580 : decode cL_law 580 = .ok (.iconst 3, 1) := by decide +kernel
theorem dL_law_581 : decode cL_law 581 = .ok (.iadd, 1) := by decide +kernel
theorem dL_law_582 : decode cL_law 582 = .ok (.iaload, 1) := by decide +kernel
theorem dL_law_583 : decode cL_law 583 = .ok (.aload_n 0, 1) := by decide +kernel
theorem dL_law_584 : decode cL_law 584 = .ok (.iload_n 3, 1) := by decide +kernel
theorem dL_law_585 : decode cL_law 585 = .ok (.iconst 4, 1) := by decide +kernel
theorem dL_law_586 : decode cL_law 586 = .ok (.iadd, 1) := by decide +kernel
theorem dL_law_587 : decode cL_law 587 = .ok (.iaload, 1) := by decide +kernel
theorem dL_law_588 : decode cL_law 588 = .ok (.aload_n 0, 1) := by decide +kernel
theorem dL_law_589 : decode cL_law 589 = .ok (.iload_n 3, 1) := by decide +kernel
theorem dL_law_590 : decode cL_law 590 = .ok (.iconst 5, 1) := by decide +kernel
theorem dL_law_591 : decode cL_law 591 = .ok (.iadd, 1) := by decide +kernel
theorem dL_law_592 : decode cL_law 592 = .ok (.iaload, 1) := by decide +kernel
theorem dL_law_593 : decode cL_law 593 = .ok (.invokevirtual 85, 3) := by decide +kernel
theorem dL_law_596 : decode cL_law 596 = .ok (.aload_n 2, 1) := by decide +kernel
theorem dL_law_597 : decode cL_law 597 = .ok (.aload_n 0, 1) := by decide +kernel
theorem dL_law_598 : decode cL_law 598 = .ok (.iload_n 3, 1) := by decide +kernel
theorem dL_law_599 : decode cL_law 599 = .ok (.iconst 1, 1) := by decide +kernel
theorem dL_law_600 : decode cL_law 600 = .ok (.iadd, 1) := by decide +kernel
theorem dL_law_601 : decode cL_law 601 = .ok (.iaload, 1) := by decide +kernel
theorem dL_law_602 : decode cL_law 602 = .ok (.aload_n 0, 1) := by decide +kernel
theorem dL_law_603 : decode cL_law 603 = .ok (.iload_n 3, 1) := by decide +kernel
theorem dL_law_604 : decode cL_law 604 = .ok (.iconst 2, 1) := by decide +kernel
theorem dL_law_605 : decode cL_law 605 = .ok (.iadd, 1) := by decide +kernel
theorem dL_law_606 : decode cL_law 606 = .ok (.iaload, 1) := by decide +kernel
theorem dL_law_607 : decode cL_law 607 = .ok (.aload_n 0, 1) := by decide +kernel
theorem dL_law_608 : decode cL_law 608 = .ok (.iload_n 3, 1) := by decide +kernel
theorem dL_law_609 : decode cL_law 609 = .ok (.iconst 3, 1) := by decide +kernel
theorem dL_law_610 : decode cL_law 610 = .ok (.iadd, 1) := by decide +kernel
theorem dL_law_611 : decode cL_law 611 = .ok (.iaload, 1) := by decide +kernel
theorem dL_law_612 : decode cL_law 612 = .ok (.aload_n 0, 1) := by decide +kernel
theorem dL_law_613 : decode cL_law 613 = .ok (.iload_n 3, 1) := by decide +kernel
theorem dL_law_614 : decode cL_law 614 = .ok (.iconst 4, 1) := by decide +kernel
theorem dL_law_615 : decode cL_law 615 = .ok (.iadd, 1) := by decide +kernel
theorem dL_law_616 : decode cL_law 616 = .ok (.iaload, 1) := by decide +kernel
theorem dL_law_617 : decode cL_law 617 = .ok (.aload_n 0, 1) := by decide +kernel
theorem dL_law_618 : decode cL_law 618 = .ok (.iload_n 3, 1) := by decide +kernel
theorem dL_law_619 : decode cL_law 619 = .ok (.iconst 5, 1) := by decide +kernel
theorem dL_law_620 : decode cL_law 620 = .ok (.iadd, 1) := by decide +kernel
end
section
theorem dL_law_621 : decode cL_law 621 = .ok (.iaload, 1) := by decide +kernel
theorem dL_law_622 : decode cL_law 622 = .ok (.invokevirtual 88, 3) := by decide +kernel
theorem dL_law_625 : decode cL_law 625 = .ok (.if_icmp .eq 87, 3) := by decide +kernel
theorem dL_law_628 : decode cL_law 628 = .ok (.iconst 0, 1) := by decide +kernel
theorem dL_law_629 : decode cL_law 629 = .ok (.ireturn, 1) := by decide +kernel
theorem dL_law_630 : decode cL_law 630 = .ok (.aload_n 1, 1) := by decide +kernel
theorem dL_law_631 : decode cL_law 631 = .ok (.aload_n 0, 1) := by decide +kernel
theorem dL_law_632 : decode cL_law 632 = .ok (.iload_n 3, 1) := by decide +kernel
theorem dL_law_633 : decode cL_law 633 = .ok (.iconst 1, 1) := by decide +kernel
theorem dL_law_634 : decode cL_law 634 = .ok (.iadd, 1) := by decide +kernel
theorem dL_law_635 : decode cL_law 635 = .ok (.iaload, 1) := by decide +kernel
theorem dL_law_636 : decode cL_law 636 = .ok (.invokevirtual 89, 3) := by decide +kernel
theorem dL_law_639 : decode cL_law 639 = .ok (.aload_n 2, 1) := by decide +kernel
theorem dL_law_640 : decode cL_law 640 = .ok (.aload_n 0, 1) := by decide +kernel
theorem dL_law_641 : decode cL_law 641 = .ok (.iload_n 3, 1) := by decide +kernel
theorem dL_law_642 : decode cL_law 642 = .ok (.iconst 1, 1) := by decide +kernel
theorem dL_law_643 : decode cL_law 643 = .ok (.iadd, 1) := by decide +kernel
theorem dL_law_644 : decode cL_law 644 = .ok (.iaload, 1) := by decide +kernel
theorem dL_law_645 : decode cL_law 645 = .ok (.invokevirtual 92, 3) := by decide +kernel
theorem dL_law_648 : decode cL_law 648 = .ok (.if_icmp .eq 64, 3) := by decide +kernel
theorem dL_law_651 : decode cL_law 651 = .ok (.iconst 0, 1) := by decide +kernel
theorem dL_law_652 : decode cL_law 652 = .ok (.ireturn, 1) := by decide +kernel
theorem dL_law_653 : decode cL_law 653 = .ok (.aload_n 1, 1) := by decide +kernel
theorem dL_law_654 : decode cL_law 654 = .ok (.aload_n 0, 1) := by decide +kernel
theorem dL_law_655 : decode cL_law 655 = .ok (.iload_n 3, 1) := by decide +kernel
theorem dL_law_656 : decode cL_law 656 = .ok (.iconst 1, 1) := by decide +kernel
theorem dL_law_657 : decode cL_law 657 = .ok (.iadd, 1) := by decide +kernel
theorem dL_law_658 : decode cL_law 658 = .ok (.iaload, 1) := by decide +kernel
theorem dL_law_659 : decode cL_law 659 = .ok (.invokevirtual 93, 3) := by decide +kernel
theorem dL_law_662 : decode cL_law 662 = .ok (.aload_n 2, 1) := by decide +kernel
theorem dL_law_663 : decode cL_law 663 = .ok (.aload_n 0, 1) := by decide +kernel
theorem dL_law_664 : decode cL_law 664 = .ok (.iload_n 3, 1) := by decide +kernel
theorem dL_law_665 : decode cL_law 665 = .ok (.iconst 1, 1) := by decide +kernel
theorem dL_law_666 : decode cL_law 666 = .ok (.iadd, 1) := by decide +kernel
theorem dL_law_667 : decode cL_law 667 = .ok (.iaload, 1) := by decide +kernel
theorem dL_law_668 : decode cL_law 668 = .ok (.invokevirtual 96, 3) := by decide +kernel
theorem dL_law_671 : decode cL_law 671 = .ok (.if_icmp .eq 41, 3) := by decide +kernel
theorem dL_law_674 : decode cL_law 674 = .ok (.iconst 0, 1) := by decide +kernel
theorem dL_law_675 : decode cL_law 675 = .ok (.ireturn, 1) := by decide +kernel
theorem dL_law_676 : decode cL_law 676 = .ok (.aload_n 1, 1) := by decide +kernel
theorem dL_law_677 : decode cL_law 677 = .ok (.invokevirtual 97, 3) := by decide +kernel
theorem dL_law_680 : decode cL_law 680 = .ok (.aload_n 2, 1) := by decide +kernel
theorem dL_law_681 : decode cL_law 681 = .ok (.invokevirtual 100, 3) := by decide +kernel
theorem dL_law_684 : decode cL_law 684 = .ok (.if_icmp .eq 28, 3) := by decide +kernel
theorem dL_law_687 : decode cL_law 687 = .ok (.iconst 0, 1) := by decide +kernel
theorem dL_law_688 : decode cL_law 688 = .ok (.ireturn, 1) := by decide +kernel
theorem dL_law_689 : decode cL_law 689 = .ok (.aload_n 1, 1) := by decide +kernel
theorem dL_law_690 : decode cL_law 690 = .ok (.aload_n 0, 1) := by decide +kernel
theorem dL_law_691 : decode cL_law 691 = .ok (.iload_n 3, 1) := by decide +kernel
theorem dL_law_692 : decode cL_law 692 = .ok (.iconst 1, 1) := by decide +kernel
theorem dL_law_693 : decode cL_law 693 = .ok (.iadd, 1) := by decide +kernel
theorem dL_law_694 : decode cL_law 694 = .ok (.iaload, 1) := by decide +kernel
theorem dL_law_695 : decode cL_law 695 = .ok (.invokevirtual 101, 3) := by decide +kernel
theorem dL_law_698 : decode cL_law 698 = .ok (.aload_n 2, 1) := by decide +kernel
theorem dL_law_699 : decode cL_law 699 = .ok (.aload_n 0, 1) := by decide +kernel
theorem dL_law_700 : decode cL_law 700 = .ok (.iload_n 3, 1) := by decide +kernel
theorem dL_law_701 : decode cL_law 701 = .ok (.iconst 1, 1) := by decide +kernel
theorem dL_law_702 : decode cL_law 702 = .ok (.iadd, 1) := by decide +kernel
theorem dL_law_703 : decode cL_law 703 = .ok (.iaload, 1) := by decide +kernel
theorem dL_law_704 : decode cL_law 704 = .ok (.invokevirtual 104, 3) := by decide +kernel
theorem dL_law_707 : decode cL_law 707 = .ok (.if_icmp .eq 5, 3) := by decide +kernel
theorem dL_law_710 : decode cL_law 710 = .ok (.iconst 0, 1) := by decide +kernel
theorem dL_law_711 : decode cL_law 711 = .ok (.ireturn, 1) := by decide +kernel
theorem dL_law_712 : decode cL_law 712 = .ok (.iinc 3 6, 3) := by decide +kernel
theorem dL_law_715 : decode cL_law 715 = .ok (.goto (-697), 3) := by decide +kernel
theorem dL_law_718 : decode cL_law 718 = .ok (.iconst 1, 1) := by decide +kernel
theorem dL_law_719 : decode cL_law 719 = .ok (.ireturn, 1) := by decide +kernel
end
section
/-! THE MEMORY LOGIC. A memory M is two tables, of numbers and of cells: M.1 a k the number, M.2 a k the cell (0: null) at place k of the cell a; cells are called by numbers of our own, E says at which address each lies (gAd), of which kind it is (gSh: 0 none, 1..8 an object of class vwCl[kind-1], 9 int[], 10 char[], 11 Offer[], 12 Hold[], 13 Change[]), how long it is (gLn). gG: the machine, at pc with these locals and this stack, comes to the method's end. -/
def gOk : Cond → Bool
  | .methodLinkNest _ _ _ _ => true
  | w => goodWord w
theorem gOk_at {args a' : Array Value} {s U : State} (hW : s.WarmedH U.vm) {w : Cond} (ho : gOk w = true) (h : w.before args s = true) : w.before a' U = true := by
  cases w <;> first | exact va_Nw.use rfl (va_Nw.warmM hW (va_Nw.of rfl h)) | exact word_at hW (good_of_word ho) h
def gT : List Cond := lw_tbl.filter gOk
theorem gT_in {w : Cond} (i : Nat) (h : lw_tbl[i]? = some w) (ho : gOk w = true) : w ∈ gT := List.mem_filter.mpr ⟨List.mem_of_getElem? h, ho⟩
theorem gT_ok {w : Cond} (h : w ∈ gT) : gOk w = true := (List.mem_filter.mp h).2
theorem gT_all {ws : List Cond} (ps : List Nat) (hp : ws = ps.filterMap (fun i => lw_tbl[i]?)) (h : ws.all gOk = true) : ∀ w ∈ ws, w ∈ gT := by
  intro w hw
  have h1 := List.all_eq_true.mp h w hw
  rw [hp] at hw
  obtain ⟨i, -, hi⟩ := List.mem_filterMap.mp hw
  exact List.mem_filter.mpr ⟨List.mem_of_getElem? hi, h1⟩
abbrev gY : Type := MethodName × ByteArray × Nat × Option FieldType
abbrev gMem : Type := (Nat → Nat → Nat) × (Nat → Nat → Nat)
abbrev gEnv : Type := (Nat → Nat) × (Nat → Nat) × (Nat → Nat) × Nat × va_G × (Nat → ClassId)
abbrev gVt : Type := Room × (Array Value → State → Outcome → State → Prop) × Nat × Nat
def gAd (E : gEnv) : Nat → Nat := E.1
def gSh (E : gEnv) : Nat → Nat := E.2.1
def gLn (E : gEnv) : Nat → Nat := E.2.2.1
def gBs (E : gEnv) : Nat := E.2.2.2.1
def gD (E : gEnv) : va_G := E.2.2.2.2.1
def gC (E : gEnv) : Nat → ClassId := E.2.2.2.2.2
def gA (E : gEnv) : Nat → Prop := fun q => gBs E ≤ q
/-- which fields of a kind of object are cells -/
def gR : Nat → Nat → Bool
  | 1, k => k == 0 || k == 2
  | 3, k => k == 0
  | 6, _ => true
  | 7, k => k == 0 || k == 2 || k == 3 || k == 4 || k == 6
  | 8, k => k == 0 || k == 3 || k == 4 || k == 9 || k == 10 || k == 15 || k == 16 || k == 18
  | _, _ => false
def gO (E : gEnv) (r : Nat) : Option Nat := if r = 0 then none else some (gAd E r)
def gVl (E : gEnv) (M : gMem) (a k : Nat) : Value := if gR (gSh E a) k = true then va_rf (gO E (M.2 a k)) else .int (nI (M.1 a k))
def gFs (E : gEnv) (M : gMem) (a : Nat) : List Value := (List.range 22).map (gVl E M a)
def gEnt (E : gEnv) (M : gMem) (a : Nat) : va_E :=
  if gSh E a ≤ 8 then .inr (gSh E a - 1, gFs E M a)
  else if gSh E a ≤ 10 then .inl (gC E (gSh E a), gLn E a, .inl (fun j => nI (M.1 a j)))
  else .inl (gC E (gSh E a), gLn E a, .inr (.inr (.inr (.inr (fun j => gO E (M.2 a j))))))
def gDesc (E : gEnv) (M : gMem) (H : Heap) : Prop :=
  (∀ a b, gSh E a ≠ 0 → gSh E b ≠ 0 → gAd E a = gAd E b → a = b) ∧ (∀ a, gSh E a ≠ 0 → gA E (gAd E a)) ∧ ∀ a, gSh E a ≠ 0 → va_at (gD E) vwCl (gAd E a, gEnt E M a) H
def gTy (E : gEnv) : List (ClassId × FieldType) := [(gC E 9, .int), (gC E 10, .char), (gC E 11, .object RX4), (gC E 12, .object RX3), (gC E 13, .object RX1)]
def gK (E : gEnv) (s : State) : Prop := va_K (gD E) vwCl (gTy E) s
def gCx (mm : gY) (E : gEnv) (p : Program) (s : State) (m : MethodId) (args : Array Value) (meth : Method) (c : Code) : Prop :=
  p.tables.exec = Jvm.exec ∧ c.code = mm.2.1 ∧ c.maxLocals = mm.2.2.1 ∧ s.vm.findClass mm.1.cls = some m.cls ∧ (∀ w ∈ gT, w.before args s = true) ∧ meth.sig.returnType = mm.2.2.2 ∧ meth.locks = false ∧ gK E s ∧ gBs E ≤ s.heap.size ∧ meth.name = mm.1.name
def gG (l : Launch) (V : gVt) (mm : gY) (E : gEnv) (cs : Nat × Nat) (M : gMem) (pc : Nat) (lv : List (Nat × Value)) (st : List Value) : Prop :=
  ∀ (p : Program) (e : Env) (s : State) (m : MethodId) (args : Array Value) (below : List Frame) (meth : Method) (c : Code) (H : Heap) (locs : List Loc) (ls : Array Slot),
    gCx mm E p s m args meth c → gDesc E M H → va_S (gA E) s.heap H locs → lv_has ls mm.2.2.1 lv →
    W p l e V.1 s m args below meth c H locs cs.1 cs.2 (MQ below V.2.1 args s V.2.2.1 V.2.2.2 (gA E)) (F0 m pc ls st)
def gRm (h : Nat) : Room := { frames := h, cells := 0, slots := 0, locals := 40 * h }
/-- a method's end: what it answers and the memory that it leaves -/
def gQp (E : gEnv) (Q : Option Value → gMem → Prop) : Array Value → State → Outcome → State → Prop := fun _ st oc t => (∃ (v : Option Value) (u : gMem), oc = .returned v ∧ Q v u ∧ gDesc E u t.heap) ∧ va_F (gA E) st t
def gV0 (h : Nat) (E : gEnv) (Q : Option Value → gMem → Prop) : gVt := (gRm h, gQp E Q, 0, 0)
def gWs (mm : gY) : List Cond := .code mm.1 mm.2.1 mm.2.2.1 mm.2.2.2 :: gT
def gPc (E : gEnv) (M : gMem) (av : List Value) : Array Value → State → Prop := va_Pc av (fun U => gDesc E M U.heap ∧ gK E U ∧ gBs E ≤ U.heap.size)
/-- a method's contract: from the memory M with the arguments av it comes to an end with Q; h: its height among the calls -/
def gMet (l : Launch) (E : gEnv) (mm : gY) (h : Nat) (av : List Value) (M : gMem) (Q : Option Value → gMem → Prop) : Prop := Met l mm.1 (gWs mm) (gRm h) (gPc E M av) (gQp E Q) 0 0 (gA E)
abbrev gMetI (l : Launch) (E : gEnv) (mm : gY) (h : Nat) (av : List Value) (M : gMem) (r : Int32) : Prop := gMet l E mm h av M (fun v u => v = some (.int r) ∧ u = M)
abbrev gMetL (l : Launch) (E : gEnv) (mm : gY) (h : Nat) (av : List Value) (M : gMem) (r : Int64) : Prop := gMet l E mm h av M (fun v u => v = some (.long r) ∧ u = M)
abbrev gMetU (l : Launch) (E : gEnv) (mm : gY) (h : Nat) (av : List Value) (M M' : gMem) : Prop := gMet l E mm h av M (fun v u => v = none ∧ u = M')
def gb (b : Bool) : Int32 := if b then 1 else 0
theorem gPc_blind (E : gEnv) (M : gMem) (av : List Value) : FrameBlind (gPc E M av) := by
  intro a U g mk q
  obtain ⟨q0, q1, q2, q3⟩ := q
  exact ⟨q0, q1, va_K.moved (u := U) (U := U.calling g mk a) (Vm.Alike.refl U.vm) q2, q3⟩
theorem gMet_of {l : Launch} {E : gEnv} {mm : gY} {h : Nat} {av : List Value} {M : gMem} {Q : Option Value → gMem → Prop} (lv0 : List (Nat × Value)) (hy : plainName mm.1.cls = true) (hn : (lg_sl av).length ≤ mm.2.2.1) (hlv : lv_args 0 av = lv0)
    (body : gG l (gV0 h E Q) mm E (0, 0) M 0 lv0 []) : gMet l E mm h av M Q := by
  refine Met.ofW (cc := mm.2.1) (maxL := mm.2.2.1) (ret := mm.2.2.2) hy rfl ?_
  intro p e s m args below meth c s₁ B hml hv
  obtain ⟨rfl, hD, hK, hB⟩ := hv
  have hts := atoms_spec (ws := gWs mm) B.pre
  have hl := lv_entry av (n := mm.2.2.1) hn
  rw [hlv] at hl
  rw [lg_entry_eq]
  exact body p e s m _ below meth c s.heap [] _ ⟨B.exec, B.bytes, hml, findClass_of_methodNamed B.named, fun w hw => hts w (List.mem_cons_of_mem _ hw), B.returns, B.notSynchronized, hK, hB, (name_of_methodNamed B.named B.method).1⟩ hD va_S.rf hl
section gRows
variable {l : Launch} {V : gVt} {mm : gY} {E : gEnv} {cs : Nat × Nat} {M : gMem} {pc : Nat} {lv : List (Nat × Value)} {st : List Value}
/-- storing into a local: the list stays in order -/
def gst (i : Nat) (v : Value) : List (Nat × Value) → List (Nat × Value)
  | [] => [(i, v)]
  | q :: t => if q.1 < i then q :: gst i v t else if q.1 = i then (i, v) :: t else (i, v) :: q :: t
def gok (i : Nat) : List (Nat × Value) → Bool
  | [] => true
  | q :: t => !(q.1 + 1 == i && q.2.category == 2) && gok i t
def gap (i : Nat) : List (Nat × Value) → Bool
  | [] => true
  | q :: t => (match t with | [] => true | r :: _ => decide (q.1 < r.1)) && gap i t
theorem gok_mem {i : Nat} {l : List (Nat × Value)} (h : gok i l = true) : ∀ q ∈ l, (!(q.1 + 1 == i && q.2.category == 2)) = true := by
  induction l with
  | nil => intro q hq; cases hq
  | cons a t ih =>
    simp only [gok, Bool.and_eq_true] at h
    intro q hq
    rcases List.mem_cons.mp hq with e | e
    · rw [e]; exact h.1
    · exact ih h.2 q e
def gsl (n i : Nat) (v : Value) (l : List (Nat × Value)) : List (Nat × Value) := gst i v (l.filter (fun q => !(q.1 == i) && !(n == 2 && q.1 == i + 1)))
theorem gst_mem {i : Nat} {v : Value} {l : List (Nat × Value)} {q : Nat × Value} (h : q ∈ gst i v l) : q = (i, v) ∨ q ∈ l := by
  induction l with
  | nil => exact Or.inl (List.mem_singleton.mp h)
  | cons a t ih =>
    unfold gst at h
    split at h
    · rcases List.mem_cons.mp h with e | e
      · exact Or.inr (by rw [e]; exact List.mem_cons_self)
      · rcases ih e with e | e
        · exact Or.inl e
        · exact Or.inr (List.mem_cons_of_mem _ e)
    · split at h
      · rcases List.mem_cons.mp h with e | e
        · exact Or.inl e
        · exact Or.inr (List.mem_cons_of_mem _ e)
      · rcases List.mem_cons.mp h with e | e
        · exact Or.inl e
        · exact Or.inr e
theorem gsl_has1 {ls : Array Slot} {nL i : Nat} {v : Value} {l l' : List (Nat × Value)} (hk : gok i l = true) (hl : gsl 1 i v l = l') (h : lv_has ls nL ((i, v) :: l.filter (fun q => !(q.1 == i) && !(q.1 + 1 == i && q.2.category == 2)))) : lv_has ls nL l' := by
  refine ⟨h.1, h.2.1, fun q hq => h.2.2 q ?_⟩
  rw [← hl] at hq
  rcases gst_mem hq with e | e
  · rw [e]; exact List.mem_cons_self
  · have e1 := List.mem_filter.mp e
    refine List.mem_cons_of_mem _ (List.mem_filter.mpr ⟨e1.1, ?_⟩)
    have e2 := gok_mem hk q e1.1
    have e3 := e1.2
    simp only [Bool.and_eq_true] at e3 ⊢
    exact ⟨e3.1, e2⟩
theorem gsl_has2 {ls : Array Slot} {nL i : Nat} {v : Value} {l l' : List (Nat × Value)} (hk : gok i l = true) (hl : gsl 2 i v l = l') (h : lv_has ls nL ((i, v) :: l.filter (fun q => !(q.1 == i) && (!(q.1 == i + 1) && !(q.1 + 1 == i && q.2.category == 2))))) : lv_has ls nL l' := by
  refine ⟨h.1, h.2.1, fun q hq => h.2.2 q ?_⟩
  rw [← hl] at hq
  rcases gst_mem hq with e | e
  · rw [e]; exact List.mem_cons_self
  · have e1 := List.mem_filter.mp e
    refine List.mem_cons_of_mem _ (List.mem_filter.mpr ⟨e1.1, ?_⟩)
    have e2 := gok_mem hk q e1.1
    have e3 := e1.2
    simp only [Bool.and_eq_true] at e3 ⊢
    exact ⟨e3.1, by simpa using e3.2, e2⟩
theorem g_perm (lv' : List (Nat × Value)) (h : ∀ q ∈ lv', q ∈ lv) (k : gG l V mm E cs M pc lv' st) : gG l V mm E cs M pc lv st :=
  fun p e s m args below meth c H locs ls C hD hS hl => k p e s m args below meth c H locs ls C hD hS ⟨hl.1, hl.2.1, fun q hq => hl.2.2 q (h q hq)⟩
theorem g_pick (ks : List Nat) (lv' : List (Nat × Value)) (h : lv_pick lv ks = lv') (k : gG l V mm E cs M pc lv' st) : gG l V mm E cs M pc lv st :=
  fun p e s m args below meth c H locs ls C hD hS hl => k p e s m args below meth c H locs ls C hD hS (lv_sub hl ks h)
theorem g_top {v v' : Value} (h : v = v') (k : gG l V mm E cs M pc lv (v' :: st)) : gG l V mm E cs M pc lv (v :: st) := by rw [h]; exact k
theorem g_topi {x x' : Int32} (h : x = x') (k : gG l V mm E cs M pc lv (.int x' :: st)) : gG l V mm E cs M pc lv (.int x :: st) := by rw [h]; exact k
theorem g_topl {x x' : Int64} (h : x = x') (k : gG l V mm E cs M pc lv (.long x' :: st)) : gG l V mm E cs M pc lv (.long x :: st) := by rw [h]; exact k

theorem g_iconst {n : Int} (v : Int32) (hv : Int32.ofInt n = v) (d : decode mm.2.1 pc = .ok (.iconst n, 1)) (k : gG l V mm E cs M (pc + 1) lv (.int v :: st)) : gG l V mm E cs M pc lv st :=
  fun p e s m args below meth c H locs ls C hD hS hl => lv_iconst C.1 C.2.1 d hv (k p e s m args below meth c H locs ls C hD hS hl)
theorem g_bipush {n : Int} (v : Int32) (hv : (Int8.ofInt n).toInt32 = v) (d : decode mm.2.1 pc = .ok (.bipush n, 2)) (k : gG l V mm E cs M (pc + 2) lv (.int v :: st)) : gG l V mm E cs M pc lv st :=
  fun p e s m args below meth c H locs ls C hD hS hl => lv_bipush C.1 C.2.1 d hv (k p e s m args below meth c H locs ls C hD hS hl)
theorem g_sipush {n : Int} (v : Int32) (hv : (Int16.ofInt n).toInt32 = v) (d : decode mm.2.1 pc = .ok (.sipush n, 3)) (k : gG l V mm E cs M (pc + 3) lv (.int v :: st)) : gG l V mm E cs M pc lv st :=
  fun p e s m args below meth c H locs ls C hD hS hl => lv_sipush C.1 C.2.1 d hv (k p e s m args below meth c H locs ls C hD hS hl)
theorem g_lconst {n : Fin 2} (v : Int64) (hv : Int64.ofNat (n : Nat) = v) (d : decode mm.2.1 pc = .ok (.lconst n, 1)) (k : gG l V mm E cs M (pc + 1) lv (.long v :: st)) : gG l V mm E cs M pc lv st :=
  fun p e s m args below meth c H locs ls C hD hS hl => lv_lconst C.1 C.2.1 d hv (k p e s m args below meth c H locs ls C hD hS hl)
theorem g_null  (d : decode mm.2.1 pc = .ok (.aconst_null, 1)) (k : gG l V mm E cs M (pc + 1) lv (.null :: st)) : gG l V mm E cs M pc lv st :=
  fun p e s m args below meth c H locs ls C hD hS hl => lv_null C.1 C.2.1 d (k p e s m args below meth c H locs ls C hD hS hl)
theorem g_iload_n {k0 : Fin 4} {i : Nat} {x : Int32} (q : Nat) (hq : lv[q]? = some (i, .int x)) (hi : (k0 : Nat) = i) (d : decode mm.2.1 pc = .ok (.iload_n k0, 1)) (k : gG l V mm E cs M (pc + 1) lv (.int x :: st)) : gG l V mm E cs M pc lv st :=
  fun p e s m args below meth c H locs ls C hD hS hl => lv_iload_n C.1 C.2.1 d hi (lv_at hl q hq) (k p e s m args below meth c H locs ls C hD hS hl)
theorem g_iload {i : Nat} {x : Int32} (q : Nat) (hq : lv[q]? = some (i, .int x)) (d : decode mm.2.1 pc = .ok (.iload i, 2)) (k : gG l V mm E cs M (pc + 2) lv (.int x :: st)) : gG l V mm E cs M pc lv st :=
  fun p e s m args below meth c H locs ls C hD hS hl => lv_iload C.1 C.2.1 d (lv_at hl q hq) (k p e s m args below meth c H locs ls C hD hS hl)
theorem g_lload_n {k0 : Fin 4} {i : Nat} {x : Int64} (q : Nat) (hq : lv[q]? = some (i, .long x)) (hi : (k0 : Nat) = i) (d : decode mm.2.1 pc = .ok (.lload_n k0, 1)) (k : gG l V mm E cs M (pc + 1) lv (.long x :: st)) : gG l V mm E cs M pc lv st :=
  fun p e s m args below meth c H locs ls C hD hS hl => lv_lload_n C.1 C.2.1 d hi (lv_at hl q hq) (k p e s m args below meth c H locs ls C hD hS hl)
theorem g_lload {i : Nat} {x : Int64} (q : Nat) (hq : lv[q]? = some (i, .long x)) (d : decode mm.2.1 pc = .ok (.lload i, 2)) (k : gG l V mm E cs M (pc + 2) lv (.long x :: st)) : gG l V mm E cs M pc lv st :=
  fun p e s m args below meth c H locs ls C hD hS hl => lv_lload C.1 C.2.1 d (lv_at hl q hq) (k p e s m args below meth c H locs ls C hD hS hl)
theorem g_aload_n {k0 : Fin 4} {i : Nat} {x : Nat} (q : Nat) (hq : lv[q]? = some (i, .ref x)) (hi : (k0 : Nat) = i) (d : decode mm.2.1 pc = .ok (.aload_n k0, 1)) (k : gG l V mm E cs M (pc + 1) lv (.ref x :: st)) : gG l V mm E cs M pc lv st :=
  fun p e s m args below meth c H locs ls C hD hS hl => lv_aload_n C.1 C.2.1 d hi (lv_at hl q hq) (k p e s m args below meth c H locs ls C hD hS hl)
theorem g_aload {i : Nat} {x : Nat} (q : Nat) (hq : lv[q]? = some (i, .ref x)) (d : decode mm.2.1 pc = .ok (.aload i, 2)) (k : gG l V mm E cs M (pc + 2) lv (.ref x :: st)) : gG l V mm E cs M pc lv st :=
  fun p e s m args below meth c H locs ls C hD hS hl => lv_aload C.1 C.2.1 d (lv_at hl q hq) (k p e s m args below meth c H locs ls C hD hS hl)
theorem g_istore_n {k0 : Fin 4} {i : Nat} {x : Int32} (hi : (k0 : Nat) = i) (lv' : List (Nat × Value)) (d : decode mm.2.1 pc = .ok (.istore_n k0, 1)) (hn : i < mm.2.2.1) (hk : gok i lv = true) (hl0 : gsl 1 i (.int x) lv = lv') (k : gG l V mm E cs M (pc + 1) lv' st) : gG l V mm E cs M pc lv (.int x :: st) :=
  fun p e s m args below meth c H locs ls C hD hS hl => lv_istore_n C.1 C.2.1 d hi hl hn rfl (fun ls' hl' => k p e s m args below meth c H locs ls' C hD hS (gsl_has1 hk hl0 hl'))
theorem g_istore {i : Nat} {x : Int32} (lv' : List (Nat × Value)) (d : decode mm.2.1 pc = .ok (.istore i, 2)) (hn : i < mm.2.2.1) (hk : gok i lv = true) (hl0 : gsl 1 i (.int x) lv = lv') (k : gG l V mm E cs M (pc + 2) lv' st) : gG l V mm E cs M pc lv (.int x :: st) :=
  fun p e s m args below meth c H locs ls C hD hS hl => lv_istore C.1 C.2.1 d hl hn rfl (fun ls' hl' => k p e s m args below meth c H locs ls' C hD hS (gsl_has1 hk hl0 hl'))
theorem g_lstore_n {k0 : Fin 4} {i : Nat} {x : Int64} (hi : (k0 : Nat) = i) (lv' : List (Nat × Value)) (d : decode mm.2.1 pc = .ok (.lstore_n k0, 1)) (hn : i + 1 < mm.2.2.1) (hk : gok i lv = true) (hl0 : gsl 2 i (.long x) lv = lv') (k : gG l V mm E cs M (pc + 1) lv' st) : gG l V mm E cs M pc lv (.long x :: st) :=
  fun p e s m args below meth c H locs ls C hD hS hl => lv_lstore_n C.1 C.2.1 d hi hl hn rfl (fun ls' hl' => k p e s m args below meth c H locs ls' C hD hS (gsl_has2 hk hl0 hl'))
theorem g_lstore {i : Nat} {x : Int64} (lv' : List (Nat × Value)) (d : decode mm.2.1 pc = .ok (.lstore i, 2)) (hn : i + 1 < mm.2.2.1) (hk : gok i lv = true) (hl0 : gsl 2 i (.long x) lv = lv') (k : gG l V mm E cs M (pc + 2) lv' st) : gG l V mm E cs M pc lv (.long x :: st) :=
  fun p e s m args below meth c H locs ls C hD hS hl => lv_lstore C.1 C.2.1 d hl hn rfl (fun ls' hl' => k p e s m args below meth c H locs ls' C hD hS (gsl_has2 hk hl0 hl'))
theorem g_astore_n {k0 : Fin 4} {i : Nat} {x : Nat} (hi : (k0 : Nat) = i) (lv' : List (Nat × Value)) (d : decode mm.2.1 pc = .ok (.astore_n k0, 1)) (hn : i < mm.2.2.1) (hk : gok i lv = true) (hl0 : gsl 1 i (.ref x) lv = lv') (k : gG l V mm E cs M (pc + 1) lv' st) : gG l V mm E cs M pc lv (.ref x :: st) :=
  fun p e s m args below meth c H locs ls C hD hS hl => lv_astore_n C.1 C.2.1 d hi hl hn rfl (fun ls' hl' => k p e s m args below meth c H locs ls' C hD hS (gsl_has1 hk hl0 hl'))
theorem g_astore {i : Nat} {x : Nat} (lv' : List (Nat × Value)) (d : decode mm.2.1 pc = .ok (.astore i, 2)) (hn : i < mm.2.2.1) (hk : gok i lv = true) (hl0 : gsl 1 i (.ref x) lv = lv') (k : gG l V mm E cs M (pc + 2) lv' st) : gG l V mm E cs M pc lv (.ref x :: st) :=
  fun p e s m args below meth c H locs ls C hD hS hl => lv_astore C.1 C.2.1 d hl hn rfl (fun ls' hl' => k p e s m args below meth c H locs ls' C hD hS (gsl_has1 hk hl0 hl'))
theorem g_astore_nN {k0 : Fin 4} {i : Nat} (hi : (k0 : Nat) = i) (lv' : List (Nat × Value)) (d : decode mm.2.1 pc = .ok (.astore_n k0, 1)) (hn : i < mm.2.2.1) (hk : gok i lv = true) (hl0 : gsl 1 i .null lv = lv') (k : gG l V mm E cs M (pc + 1) lv' st) : gG l V mm E cs M pc lv (.null :: st) :=
  fun p e s m args below meth c H locs ls C hD hS hl => lv_astore_nN C.1 C.2.1 d hi hl hn rfl (fun ls' hl' => k p e s m args below meth c H locs ls' C hD hS (gsl_has1 hk hl0 hl'))
theorem g_astoreN {i : Nat} (lv' : List (Nat × Value)) (d : decode mm.2.1 pc = .ok (.astore i, 2)) (hn : i < mm.2.2.1) (hk : gok i lv = true) (hl0 : gsl 1 i .null lv = lv') (k : gG l V mm E cs M (pc + 2) lv' st) : gG l V mm E cs M pc lv (.null :: st) :=
  fun p e s m args below meth c H locs ls C hD hS hl => lv_astoreN C.1 C.2.1 d hl hn rfl (fun ls' hl' => k p e s m args below meth c H locs ls' C hD hS (gsl_has1 hk hl0 hl'))
theorem g_iinc {i : Nat} {n : Int} {x : Int32} (q : Nat) (v : Int32) (lv' : List (Nat × Value)) (hq : lv[q]? = some (i, .int x)) (hv : x + Int32.ofInt n = v) (d : decode mm.2.1 pc = .ok (.iinc i n, 3)) (hn : i < mm.2.2.1) (hk : gok i lv = true) (hl0 : gsl 1 i (.int v) lv = lv') (k : gG l V mm E cs M (pc + 3) lv' st) : gG l V mm E cs M pc lv st :=
  fun p e s m args below meth c H locs ls C hD hS hl => lv_iinc C.1 C.2.1 d hl hq hv hn rfl (fun ls' hl' => k p e s m args below meth c H locs ls' C hD hS (gsl_has1 hk hl0 hl'))
theorem g_iadd {x y : Int32} (d : decode mm.2.1 pc = .ok (.iadd, 1)) (k : gG l V mm E cs M (pc + 1) lv (.int (x + y) :: st)) : gG l V mm E cs M pc lv (.int y :: .int x :: st) :=
  fun p e s m args below meth c H locs ls C hD hS hl => lv_iadd C.1 C.2.1 d (k p e s m args below meth c H locs ls C hD hS hl)
theorem g_isub {x y : Int32} (d : decode mm.2.1 pc = .ok (.isub, 1)) (k : gG l V mm E cs M (pc + 1) lv (.int (x - y) :: st)) : gG l V mm E cs M pc lv (.int y :: .int x :: st) :=
  fun p e s m args below meth c H locs ls C hD hS hl => lv_isub C.1 C.2.1 d (k p e s m args below meth c H locs ls C hD hS hl)
theorem g_imul {x y : Int32} (d : decode mm.2.1 pc = .ok (.imul, 1)) (k : gG l V mm E cs M (pc + 1) lv (.int (x * y) :: st)) : gG l V mm E cs M pc lv (.int y :: .int x :: st) :=
  fun p e s m args below meth c H locs ls C hD hS hl => lv_imul C.1 C.2.1 d (k p e s m args below meth c H locs ls C hD hS hl)
theorem g_iand {x y : Int32} (d : decode mm.2.1 pc = .ok (.iand, 1)) (k : gG l V mm E cs M (pc + 1) lv (.int (x &&& y) :: st)) : gG l V mm E cs M pc lv (.int y :: .int x :: st) :=
  fun p e s m args below meth c H locs ls C hD hS hl => lv_iand C.1 C.2.1 d (k p e s m args below meth c H locs ls C hD hS hl)
theorem g_ior {x y : Int32} (d : decode mm.2.1 pc = .ok (.ior, 1)) (k : gG l V mm E cs M (pc + 1) lv (.int (x ||| y) :: st)) : gG l V mm E cs M pc lv (.int y :: .int x :: st) :=
  fun p e s m args below meth c H locs ls C hD hS hl => lv_ior C.1 C.2.1 d (k p e s m args below meth c H locs ls C hD hS hl)
theorem g_ixor {x y : Int32} (d : decode mm.2.1 pc = .ok (.ixor, 1)) (k : gG l V mm E cs M (pc + 1) lv (.int (x ^^^ y) :: st)) : gG l V mm E cs M pc lv (.int y :: .int x :: st) :=
  fun p e s m args below meth c H locs ls C hD hS hl => lv_ixor C.1 C.2.1 d (k p e s m args below meth c H locs ls C hD hS hl)
theorem g_ishl {x y : Int32} (d : decode mm.2.1 pc = .ok (.ishl, 1)) (k : gG l V mm E cs M (pc + 1) lv (.int (x <<< (y &&& 31)) :: st)) : gG l V mm E cs M pc lv (.int y :: .int x :: st) :=
  fun p e s m args below meth c H locs ls C hD hS hl => lv_ishl C.1 C.2.1 d (k p e s m args below meth c H locs ls C hD hS hl)
theorem g_ishr {x y : Int32} (d : decode mm.2.1 pc = .ok (.ishr, 1)) (k : gG l V mm E cs M (pc + 1) lv (.int (x >>> (y &&& 31)) :: st)) : gG l V mm E cs M pc lv (.int y :: .int x :: st) :=
  fun p e s m args below meth c H locs ls C hD hS hl => lv_ishr C.1 C.2.1 d (k p e s m args below meth c H locs ls C hD hS hl)
theorem g_iushr {x y : Int32} (v : Int32) (hv : (x.toUInt32 >>> (y.toUInt32 &&& Int32.toUInt32 31)).toInt32 = v) (d : decode mm.2.1 pc = .ok (.iushr, 1)) (k : gG l V mm E cs M (pc + 1) lv (.int v :: st)) : gG l V mm E cs M pc lv (.int y :: .int x :: st) :=
  fun p e s m args below meth c H locs ls C hD hS hl => lv_iushr C.1 C.2.1 d hv (k p e s m args below meth c H locs ls C hD hS hl)
theorem g_idiv {x y : Int32} (hne : ¬ y = 0) (d : decode mm.2.1 pc = .ok (.idiv, 1)) (k : gG l V mm E cs M (pc + 1) lv (.int (x / y) :: st)) : gG l V mm E cs M pc lv (.int y :: .int x :: st) :=
  fun p e s m args below meth c H locs ls C hD hS hl => lv_idiv C.1 C.2.1 d hne (k p e s m args below meth c H locs ls C hD hS hl)
theorem g_irem {x y : Int32} (hne : ¬ y = 0) (d : decode mm.2.1 pc = .ok (.irem, 1)) (k : gG l V mm E cs M (pc + 1) lv (.int (x - x / y * y) :: st)) : gG l V mm E cs M pc lv (.int y :: .int x :: st) :=
  fun p e s m args below meth c H locs ls C hD hS hl => lv_irem C.1 C.2.1 d hne (k p e s m args below meth c H locs ls C hD hS hl)
theorem g_ladd {x y : Int64} (d : decode mm.2.1 pc = .ok (.ladd, 1)) (k : gG l V mm E cs M (pc + 1) lv (.long (x + y) :: st)) : gG l V mm E cs M pc lv (.long y :: .long x :: st) :=
  fun p e s m args below meth c H locs ls C hD hS hl => lv_ladd C.1 C.2.1 d (k p e s m args below meth c H locs ls C hD hS hl)
theorem g_lsub {x y : Int64} (d : decode mm.2.1 pc = .ok (.lsub, 1)) (k : gG l V mm E cs M (pc + 1) lv (.long (x - y) :: st)) : gG l V mm E cs M pc lv (.long y :: .long x :: st) :=
  fun p e s m args below meth c H locs ls C hD hS hl => lv_lsub C.1 C.2.1 d (k p e s m args below meth c H locs ls C hD hS hl)
theorem g_land {x y : Int64} (d : decode mm.2.1 pc = .ok (.land, 1)) (k : gG l V mm E cs M (pc + 1) lv (.long (x &&& y) :: st)) : gG l V mm E cs M pc lv (.long y :: .long x :: st) :=
  fun p e s m args below meth c H locs ls C hD hS hl => lv_land C.1 C.2.1 d (k p e s m args below meth c H locs ls C hD hS hl)
theorem g_lor {x y : Int64} (d : decode mm.2.1 pc = .ok (.lor, 1)) (k : gG l V mm E cs M (pc + 1) lv (.long (x ||| y) :: st)) : gG l V mm E cs M pc lv (.long y :: .long x :: st) :=
  fun p e s m args below meth c H locs ls C hD hS hl => lv_lor C.1 C.2.1 d (k p e s m args below meth c H locs ls C hD hS hl)
theorem g_lxor {x y : Int64} (d : decode mm.2.1 pc = .ok (.lxor, 1)) (k : gG l V mm E cs M (pc + 1) lv (.long (x ^^^ y) :: st)) : gG l V mm E cs M pc lv (.long y :: .long x :: st) :=
  fun p e s m args below meth c H locs ls C hD hS hl => lv_lxor C.1 C.2.1 d (k p e s m args below meth c H locs ls C hD hS hl)
theorem g_lshl {x : Int64} {y : Int32} (v : Int64) (hv : x <<< (y.toInt64 &&& 63) = v) (d : decode mm.2.1 pc = .ok (.lshl, 1)) (k : gG l V mm E cs M (pc + 1) lv (.long v :: st)) : gG l V mm E cs M pc lv (.int y :: .long x :: st) :=
  fun p e s m args below meth c H locs ls C hD hS hl => lv_lshl C.1 C.2.1 d hv (k p e s m args below meth c H locs ls C hD hS hl)
theorem g_lshr {x : Int64} {y : Int32} (v : Int64) (hv : x >>> (y.toInt64 &&& 63) = v) (d : decode mm.2.1 pc = .ok (.lshr, 1)) (k : gG l V mm E cs M (pc + 1) lv (.long v :: st)) : gG l V mm E cs M pc lv (.int y :: .long x :: st) :=
  fun p e s m args below meth c H locs ls C hD hS hl => lv_lshr C.1 C.2.1 d hv (k p e s m args below meth c H locs ls C hD hS hl)
theorem g_lushr {x : Int64} {y : Int32} (v : Int64) (hv : (x.toUInt64 >>> (y.toInt64.toUInt64 &&& Int64.toUInt64 63)).toInt64 = v) (d : decode mm.2.1 pc = .ok (.lushr, 1)) (k : gG l V mm E cs M (pc + 1) lv (.long v :: st)) : gG l V mm E cs M pc lv (.int y :: .long x :: st) :=
  fun p e s m args below meth c H locs ls C hD hS hl => lv_lushr C.1 C.2.1 d hv (k p e s m args below meth c H locs ls C hD hS hl)
theorem g_l2i {x : Int64} (v : Int32) (hv : x.toInt32 = v) (d : decode mm.2.1 pc = .ok (.l2i, 1)) (k : gG l V mm E cs M (pc + 1) lv (.int v :: st)) : gG l V mm E cs M pc lv (.long x :: st) :=
  fun p e s m args below meth c H locs ls C hD hS hl => lv_l2i C.1 C.2.1 d hv (k p e s m args below meth c H locs ls C hD hS hl)
theorem g_i2c {x : Int32} (v : Int32) (hv : (x.toUInt32 % 65536).toInt32 = v) (d : decode mm.2.1 pc = .ok (.i2c, 1)) (k : gG l V mm E cs M (pc + 1) lv (.int v :: st)) : gG l V mm E cs M pc lv (.int x :: st) :=
  fun p e s m args below meth c H locs ls C hD hS hl => lv_i2c C.1 C.2.1 d hv (k p e s m args below meth c H locs ls C hD hS hl)
theorem g_dup {v : Value} (hv : v.category = 1) (d : decode mm.2.1 pc = .ok (.dup, 1)) (k : gG l V mm E cs M (pc + 1) lv (v :: v :: st)) : gG l V mm E cs M pc lv (v :: st) :=
  fun p e s m args below meth c H locs ls C hD hS hl => lv_dup C.1 C.2.1 d hv (k p e s m args below meth c H locs ls C hD hS hl)
theorem g_pop {v : Value} (hv : v.category = 1) (d : decode mm.2.1 pc = .ok (.pop, 1)) (k : gG l V mm E cs M (pc + 1) lv st) : gG l V mm E cs M pc lv (v :: st) :=
  fun p e s m args below meth c H locs ls C hD hS hl => lv_pop C.1 C.2.1 d hv (k p e s m args below meth c H locs ls C hD hS hl)
theorem g_dup2 {va vb : Value} (hva : va.category = 1) (hvb : vb.category = 1) (d : decode mm.2.1 pc = .ok (.dup2, 1)) (k : gG l V mm E cs M (pc + 1) lv (va :: vb :: va :: vb :: st)) : gG l V mm E cs M pc lv (va :: vb :: st) :=
  fun p e s m args below meth c H locs ls C hD hS hl => lv_dup2_11 C.1 C.2.1 d hva hvb (k p e s m args below meth c H locs ls C hD hS hl)
theorem g_icmp_eq {x y : Int32} {off : Int} (tgt : Nat) (d : decode mm.2.1 pc = .ok (.if_icmp .eq off, 3)) (ht : (pc : Int) + off = (tgt : Int)) (kt : (x = y) → gG l V mm E cs M tgt lv st) (kf : ¬ (x = y) → gG l V mm E cs M (pc + 3) lv st) : gG l V mm E cs M pc lv (.int y :: .int x :: st) :=
  fun p e s m args below meth c H locs ls C hD hS hl => lv_icmp_eq C.1 C.2.1 d ht (fun h => kt h p e s m args below meth c H locs ls C hD hS hl) (fun h => kf h p e s m args below meth c H locs ls C hD hS hl)
theorem g_if_eq {x : Int32} {off : Int} (tgt : Nat) (d : decode mm.2.1 pc = .ok (.ifCond .eq off, 3)) (ht : (pc : Int) + off = (tgt : Int)) (kt : (x = 0) → gG l V mm E cs M tgt lv st) (kf : ¬ (x = 0) → gG l V mm E cs M (pc + 3) lv st) : gG l V mm E cs M pc lv (.int x :: st) :=
  fun p e s m args below meth c H locs ls C hD hS hl => lv_if_eq C.1 C.2.1 d ht (fun h => kt h p e s m args below meth c H locs ls C hD hS hl) (fun h => kf h p e s m args below meth c H locs ls C hD hS hl)
theorem g_icmp_ne {x y : Int32} {off : Int} (tgt : Nat) (d : decode mm.2.1 pc = .ok (.if_icmp .ne off, 3)) (ht : (pc : Int) + off = (tgt : Int)) (kt : (¬ x = y) → gG l V mm E cs M tgt lv st) (kf : x = y → gG l V mm E cs M (pc + 3) lv st) : gG l V mm E cs M pc lv (.int y :: .int x :: st) :=
  fun p e s m args below meth c H locs ls C hD hS hl => lv_icmp_ne C.1 C.2.1 d ht (fun h => kt h p e s m args below meth c H locs ls C hD hS hl) (fun h => kf h p e s m args below meth c H locs ls C hD hS hl)
theorem g_if_ne {x : Int32} {off : Int} (tgt : Nat) (d : decode mm.2.1 pc = .ok (.ifCond .ne off, 3)) (ht : (pc : Int) + off = (tgt : Int)) (kt : (¬ x = 0) → gG l V mm E cs M tgt lv st) (kf : x = 0 → gG l V mm E cs M (pc + 3) lv st) : gG l V mm E cs M pc lv (.int x :: st) :=
  fun p e s m args below meth c H locs ls C hD hS hl => lv_if_ne C.1 C.2.1 d ht (fun h => kt h p e s m args below meth c H locs ls C hD hS hl) (fun h => kf h p e s m args below meth c H locs ls C hD hS hl)
theorem g_icmp_lt {x y : Int32} {off : Int} (tgt : Nat) (d : decode mm.2.1 pc = .ok (.if_icmp .lt off, 3)) (ht : (pc : Int) + off = (tgt : Int)) (kt : (x < y) → gG l V mm E cs M tgt lv st) (kf : ¬ (x < y) → gG l V mm E cs M (pc + 3) lv st) : gG l V mm E cs M pc lv (.int y :: .int x :: st) :=
  fun p e s m args below meth c H locs ls C hD hS hl => lv_icmp_lt C.1 C.2.1 d ht (fun h => kt h p e s m args below meth c H locs ls C hD hS hl) (fun h => kf h p e s m args below meth c H locs ls C hD hS hl)
theorem g_if_lt {x : Int32} {off : Int} (tgt : Nat) (d : decode mm.2.1 pc = .ok (.ifCond .lt off, 3)) (ht : (pc : Int) + off = (tgt : Int)) (kt : (x < 0) → gG l V mm E cs M tgt lv st) (kf : ¬ (x < 0) → gG l V mm E cs M (pc + 3) lv st) : gG l V mm E cs M pc lv (.int x :: st) :=
  fun p e s m args below meth c H locs ls C hD hS hl => lv_if_lt C.1 C.2.1 d ht (fun h => kt h p e s m args below meth c H locs ls C hD hS hl) (fun h => kf h p e s m args below meth c H locs ls C hD hS hl)
theorem g_icmp_ge {x y : Int32} {off : Int} (tgt : Nat) (d : decode mm.2.1 pc = .ok (.if_icmp .ge off, 3)) (ht : (pc : Int) + off = (tgt : Int)) (kt : (y ≤ x) → gG l V mm E cs M tgt lv st) (kf : ¬ (y ≤ x) → gG l V mm E cs M (pc + 3) lv st) : gG l V mm E cs M pc lv (.int y :: .int x :: st) :=
  fun p e s m args below meth c H locs ls C hD hS hl => lv_icmp_ge C.1 C.2.1 d ht (fun h => kt h p e s m args below meth c H locs ls C hD hS hl) (fun h => kf h p e s m args below meth c H locs ls C hD hS hl)
theorem g_if_ge {x : Int32} {off : Int} (tgt : Nat) (d : decode mm.2.1 pc = .ok (.ifCond .ge off, 3)) (ht : (pc : Int) + off = (tgt : Int)) (kt : (0 ≤ x) → gG l V mm E cs M tgt lv st) (kf : ¬ (0 ≤ x) → gG l V mm E cs M (pc + 3) lv st) : gG l V mm E cs M pc lv (.int x :: st) :=
  fun p e s m args below meth c H locs ls C hD hS hl => lv_if_ge C.1 C.2.1 d ht (fun h => kt h p e s m args below meth c H locs ls C hD hS hl) (fun h => kf h p e s m args below meth c H locs ls C hD hS hl)
theorem g_icmp_gt {x y : Int32} {off : Int} (tgt : Nat) (d : decode mm.2.1 pc = .ok (.if_icmp .gt off, 3)) (ht : (pc : Int) + off = (tgt : Int)) (kt : (y < x) → gG l V mm E cs M tgt lv st) (kf : ¬ (y < x) → gG l V mm E cs M (pc + 3) lv st) : gG l V mm E cs M pc lv (.int y :: .int x :: st) :=
  fun p e s m args below meth c H locs ls C hD hS hl => lv_icmp_gt C.1 C.2.1 d ht (fun h => kt h p e s m args below meth c H locs ls C hD hS hl) (fun h => kf h p e s m args below meth c H locs ls C hD hS hl)
theorem g_if_gt {x : Int32} {off : Int} (tgt : Nat) (d : decode mm.2.1 pc = .ok (.ifCond .gt off, 3)) (ht : (pc : Int) + off = (tgt : Int)) (kt : (0 < x) → gG l V mm E cs M tgt lv st) (kf : ¬ (0 < x) → gG l V mm E cs M (pc + 3) lv st) : gG l V mm E cs M pc lv (.int x :: st) :=
  fun p e s m args below meth c H locs ls C hD hS hl => lv_if_gt C.1 C.2.1 d ht (fun h => kt h p e s m args below meth c H locs ls C hD hS hl) (fun h => kf h p e s m args below meth c H locs ls C hD hS hl)
theorem g_icmp_le {x y : Int32} {off : Int} (tgt : Nat) (d : decode mm.2.1 pc = .ok (.if_icmp .le off, 3)) (ht : (pc : Int) + off = (tgt : Int)) (kt : (x ≤ y) → gG l V mm E cs M tgt lv st) (kf : ¬ (x ≤ y) → gG l V mm E cs M (pc + 3) lv st) : gG l V mm E cs M pc lv (.int y :: .int x :: st) :=
  fun p e s m args below meth c H locs ls C hD hS hl => lv_icmp_le C.1 C.2.1 d ht (fun h => kt h p e s m args below meth c H locs ls C hD hS hl) (fun h => kf h p e s m args below meth c H locs ls C hD hS hl)
theorem g_if_le {x : Int32} {off : Int} (tgt : Nat) (d : decode mm.2.1 pc = .ok (.ifCond .le off, 3)) (ht : (pc : Int) + off = (tgt : Int)) (kt : (x ≤ 0) → gG l V mm E cs M tgt lv st) (kf : ¬ (x ≤ 0) → gG l V mm E cs M (pc + 3) lv st) : gG l V mm E cs M pc lv (.int x :: st) :=
  fun p e s m args below meth c H locs ls C hD hS hl => lv_if_le C.1 C.2.1 d ht (fun h => kt h p e s m args below meth c H locs ls C hD hS hl) (fun h => kf h p e s m args below meth c H locs ls C hD hS hl)
theorem g_goto {off : Int} (tgt : Nat) (d : decode mm.2.1 pc = .ok (.goto off, 3)) (ht : (pc : Int) + off = (tgt : Int)) (k : gG l V mm E cs M tgt lv st) : gG l V mm E cs M pc lv st :=
  fun p e s m args below meth c H locs ls C hD hS hl => lv_goto C.1 C.2.1 d ht (k p e s m args below meth c H locs ls C hD hS hl)
theorem g_tableOut {x : Int32} {dflt lo hi : Int} {offs : Array Int} {len : Nat} (tgt : Nat) (d : decode mm.2.1 pc = .ok (.tableswitch dflt lo hi offs, len)) (h : x.toInt < lo ∨ hi < x.toInt) (ht : (pc : Int) + dflt = (tgt : Int)) (k : gG l V mm E cs M tgt lv st) : gG l V mm E cs M pc lv (.int x :: st) :=
  fun p e s m args below meth c H locs ls C hD hS hl => lv_tableOut C.1 C.2.1 d h ht (k p e s m args below meth c H locs ls C hD hS hl)
theorem g_tableIn {x : Int32} {dflt lo hi off : Int} {offs : Array Int} {len : Nat} (tgt : Nat) (d : decode mm.2.1 pc = .ok (.tableswitch dflt lo hi offs, len)) (h1 : ¬ x.toInt < lo) (h2 : ¬ hi < x.toInt) (ho : offs[(x.toInt - lo).toNat]? = some off) (ht : (pc : Int) + off = (tgt : Int)) (k : gG l V mm E cs M tgt lv st) : gG l V mm E cs M pc lv (.int x :: st) :=
  fun p e s m args below meth c H locs ls C hD hS hl => lv_tableIn C.1 C.2.1 d h1 h2 ho ht (k p e s m args below meth c H locs ls C hD hS hl)
theorem g_ifnonnull {x : Nat} {off : Int} (tgt : Nat) (d : decode mm.2.1 pc = .ok (.ifnonnull off, 3)) (ht : (pc : Int) + off = (tgt : Int)) (k : gG l V mm E cs M tgt lv st) : gG l V mm E cs M pc lv (.ref x :: st) :=
  fun p e s m args below meth c H locs ls C hD hS hl => lv_ifnonnull C.1 C.2.1 d ht (k p e s m args below meth c H locs ls C hD hS hl)
theorem g_ifnonnullN {off : Int} (d : decode mm.2.1 pc = .ok (.ifnonnull off, 3)) (k : gG l V mm E cs M (pc + 3) lv st) : gG l V mm E cs M pc lv (.null :: st) :=
  fun p e s m args below meth c H locs ls C hD hS hl => lv_ifnonnullN C.1 C.2.1 d (k p e s m args below meth c H locs ls C hD hS hl)
end gRows
/-! cells of the memory, read and written -/
def gU (M : gMem) (a k x : Nat) : gMem := (fun b j => if b = a ∧ j = k then x else M.1 b j, M.2)
def gUr (M : gMem) (a k x : Nat) : gMem := (M.1, fun b j => if b = a ∧ j = k then x else M.2 b j)
theorem gEnt_o {E : gEnv} {M : gMem} {a kd : Nat} (h : gSh E a = kd) (h8 : kd ≤ 8) : gEnt E M a = .inr (kd - 1, gFs E M a) := by
  unfold gEnt
  rw [if_pos (by rw [h]; exact h8), h]
theorem gEnt_i {E : gEnv} {M : gMem} {a kd : Nat} (h : gSh E a = kd) (h8 : 8 < kd) (h9 : kd ≤ 10) : gEnt E M a = .inl (gC E kd, gLn E a, .inl (fun j => nI (M.1 a j))) := by
  unfold gEnt
  rw [if_neg (by rw [h]; omega), if_pos (by rw [h]; exact h9), h]
theorem gEnt_r {E : gEnv} {M : gMem} {a kd : Nat} (h : gSh E a = kd) (h8 : 10 < kd) : gEnt E M a = .inl (gC E kd, gLn E a, .inr (.inr (.inr (.inr (fun j => gO E (M.2 a j)))))) := by
  unfold gEnt
  rw [if_neg (by rw [h]; omega), if_neg (by rw [h]; omega), h]
theorem gFs_at {E : gEnv} {M : gMem} {a k : Nat} (hk : k < 22) : (gFs E M a)[k]? = some (gVl E M a k) := by
  unfold gFs
  rw [List.getElem?_map, List.getElem?_range hk]
  rfl
theorem gP1 {E : gEnv} {M : gMem} {H : Heap} {a : Nat} {e : va_E} (hD : gDesc E M H) (ha : gSh E a ≠ 0) (he : gEnt E M a = e) : va_P (gD E) vwCl [(gAd E a, e)] H := by
  intro k q hq
  cases k with
  | zero => cases hq; rw [← he]; exact hD.2.2 a ha
  | succ n => cases hq
theorem gVl_i {E : gEnv} {M : gMem} {a k kd : Nat} (h : gSh E a = kd) (hr : gR kd k = false) : gVl E M a k = .int (nI (M.1 a k)) := by
  unfold gVl
  rw [h, hr]
  rfl
theorem gVl_r {E : gEnv} {M : gMem} {a k kd r : Nat} (h : gSh E a = kd) (hr : gR kd k = true) (hv : M.2 a k = r) (h0 : r ≠ 0) : gVl E M a k = .ref (gAd E r) := by
  unfold gVl gO
  rw [h, if_pos hr, hv, if_neg h0]
  rfl
section gCells
variable {l : Launch} {V : gVt} {mm : gY} {E : gEnv} {cs : Nat × Nat} {M : gMem} {pc : Nat} {lv : List (Nat × Value)} {st : List Value}
theorem g_get {a kd k idx N : Nat} {C : String} {T : u_T} {v : Value} (hsh : gSh E a = kd) (h0 : kd ≠ 0) (h8 : kd ≤ 8) (hc : vwCl[kd - 1]? = some (C, T, N)) (hin : ∀ w ∈ u_ws C T N, w ∈ gT) (hk : k < N) (hk2 : k < 22) (hl : Cond.fieldLink mm.1.cls idx (T k).1 (T k).2.1 (T k).2.2.1 ∈ gT) (hv : gVl E M a k = v)
    (d : decode mm.2.1 pc = .ok (.getfield idx, 3)) (kk : gG l V mm E cs M (pc + 3) lv (v :: st)) : gG l V mm E cs M pc lv (.ref (gAd E a) :: st) := by
  intro p e s m args below meth c H locs ls X hD hS hl2
  obtain ⟨hx, hb, hml, hown, hts, hr, hlk, hK, hB, hnm⟩ := X
  exact va_get (tys := gTy E) hx hb hts hin hown hK (gP1 hD (by rw [hsh]; exact h0) (gEnt_o hsh h8)) 0 rfl hc k hk (hts _ hl) (fun _ h => h) ((gFs_at hk2).trans (congrArg some hv)) d (kk p e s m args below meth c H locs ls ⟨hx, hb, hml, hown, hts, hr, hlk, hK, hB, hnm⟩ hD hS hl2)
/-- a cell changes, all others stay -/
theorem gDesc_set {E : gEnv} {M M' : gMem} {H H1 : Heap} {a : Nat} (hD : gDesc E M H) (ha : gSh E a ≠ 0) (he : ∀ b, b ≠ a → gEnt E M' b = gEnt E M b) (h1 : va_at (gD E) vwCl (gAd E a, gEnt E M' a) H1) (oq : ∀ q : Nat, q ≠ gAd E a → H1[q]? = H[q]?) : gDesc E M' H1 := by
  refine ⟨hD.1, hD.2.1, fun b hb => ?_⟩
  by_cases hba : b = a
  · subst hba; exact h1
  · rw [he b hba]
    exact (hD.2.2 b hb).kept (oq _ (fun q => hba (hD.1 b a hb ha q)))
theorem gEnt_ne {E : gEnv} {M M' : gMem} {a : Nat} (h1 : ∀ b j, b ≠ a → M'.1 b j = M.1 b j) (h2 : ∀ b j, b ≠ a → M'.2 b j = M.2 b j) : ∀ b, b ≠ a → gEnt E M' b = gEnt E M b := by
  intro b hb
  have e1 : M'.1 b = M.1 b := funext fun j => h1 b j hb
  have e2 : M'.2 b = M.2 b := funext fun j => h2 b j hb
  have e3 : gVl E M' b = gVl E M b := funext fun k => by unfold gVl; rw [e1, e2]
  unfold gEnt gFs
  rw [e1, e2, e3]
theorem gU_ne {M : gMem} {a k x : Nat} : ∀ b j, b ≠ a → (gU M a k x).1 b j = M.1 b j := fun b j h => by simp [gU, h]
theorem gUr_ne {M : gMem} {a k x : Nat} : ∀ b j, b ≠ a → (gUr M a k x).2 b j = M.2 b j := fun b j h => by simp [gUr, h]
/-- the object's picture, one field changed -/
theorem gOb {E : gEnv} {M M' : gMem} {a k : Nat} {v : Value} (hk : k < 22) (hv : gVl E M' a k = v) (ho : ∀ j, j ≠ k → gVl E M' a j = gVl E M a j) (j : Nat) (hj : j < 22) : updV (vp_V (gFs E M a)) k v j = vp_V (gFs E M' a) j := by
  have e1 : vp_V (gFs E M' a) j = gVl E M' a j := by simp [vp_V, gFs_at hj]
  have e2 : vp_V (gFs E M a) j = gVl E M a j := by simp [vp_V, gFs_at hj]
  rw [e1]
  by_cases h : j = k
  · subst h; simp [updV, hv]
  · simp only [updV, if_neg h]; rw [e2, ho j h]
theorem g_put {M' : gMem} {a kd k idx N : Nat} {C : String} {T : u_T} {v : Value} (ty0 : Nat → FieldType) (hsh : gSh E a = kd) (h0 : kd ≠ 0) (h8 : kd ≤ 8) (hc : vwCl[kd - 1]? = some (C, T, N)) (hN : N ≤ 22) (hin : ∀ w ∈ u_ws C T N, w ∈ gT) (hty : ∀ k, k < N → parseFieldDescriptor (T k).2.2.1 = some (ty0 k)) (hnm0 : ∀ a, a < N → ∀ b, b < N → a ≠ b → (T a).2.1 ≠ (T b).2.1)
    (hk : k < N) (hl : Cond.fieldLink mm.1.cls idx (T k).1 (T k).2.1 (T k).2.2.1 ∈ gT) (hfin : (T k).2.2.2 = false) (hn : narrow (ty0 k) v = v) (hfit : fits (ty0 k) v = true) (hv : gVl E M' a k = v) (ho : ∀ j, j ≠ k → gVl E M' a j = gVl E M a j) (hne : ∀ b, b ≠ a → gEnt E M' b = gEnt E M b)
    (d : decode mm.2.1 pc = .ok (.putfield idx, 3)) (kk : gG l V mm E cs M' (pc + 3) lv st) : gG l V mm E cs M pc lv (v :: .ref (gAd E a) :: st) := by
  intro p e s m args below meth c H locs ls X hD hS hl2
  obtain ⟨hx, hb, hml, hown, hts, hr, hlk, hK, hB, hnm⟩ := X
  have ha : gSh E a ≠ 0 := by rw [hsh]; exact h0
  have hap := va_apart (own := mm.1.cls) hts hin ty0 hty hnm0 hK hc
  obtain ⟨r, h1, cell, q1, q2, q3, q4⟩ := gP1 hD ha (gEnt_o hsh h8) 0 _ rfl
  have hr1 : r = (C, T, N) := Option.some.inj (h1.symm.trans hc)
  subst hr1
  obtain ⟨hSl, hfc, kC, hkC, hkind⟩ := hK.1 (kd - 1) _ hc
  obtain ⟨cf, kf, fi, f, hi, hsl⟩ := hSl k hk
  have hlay := hts _ (hin _ (u_in_lay hk))
  unfold u_lay at hlay
  rw [if_neg (by rw [hfin]; decide)] at hlay
  have h6 := u_store hfc hkC hkind hlay hi (hty k hk) hn hfit
  refine W.putK hx hb (f := f) ⟨hown, hts _ hl, ⟨_, _, _, hi⟩, (u_facts hfc hkC (u_lays hts hin hk) hi).1⟩ (by rw [q2]; exact h6) q1 q3 (by rw [hsl]; exact k2_hasslot (q4 k hk)) rfl rfl d fun H' e1 e2 e3 => ?_
  rw [hsl] at e1 ⊢
  refine kk p e s m args below meth c H' _ ls ⟨hx, hb, hml, hown, hts, hr, hlk, hK, hB, hnm⟩ (gDesc_set hD ha hne ?_ e3) (hS.put e2 e3 (hD.2.1 a ha)) hl2
  rw [gEnt_o hsh h8]
  exact ⟨_, hc, t_OB.to (V := updV (vp_V (gFs E M a)) k v) ⟨_, e1, q2, q3, t_set q4 hap hk v⟩ (fun j hj => gOb (Nat.lt_of_lt_of_le hk hN) hv ho j (Nat.lt_of_lt_of_le hj hN))⟩
theorem g_putF {M' : gMem} {a kd k idx N : Nat} {C : String} {T : u_T} {v : Value} (ty0 : Nat → FieldType) (hsh : gSh E a = kd) (h0 : kd ≠ 0) (h8 : kd ≤ 8) (hc : vwCl[kd - 1]? = some (C, T, N)) (hN : N ≤ 22) (hin : ∀ w ∈ u_ws C T N, w ∈ gT) (hty : ∀ k, k < N → parseFieldDescriptor (T k).2.2.1 = some (ty0 k)) (hnm0 : ∀ a, a < N → ∀ b, b < N → a ≠ b → (T a).2.1 ≠ (T b).2.1)
    (hk : k < N) (hl : Cond.fieldLink mm.1.cls idx (T k).1 (T k).2.1 (T k).2.2.1 ∈ gT) (hfin : (T k).2.2.2 = true) (hini : mm.1.name = "<init>") (hdecl : (T k).1 = mm.1.cls) (hn : narrow (ty0 k) v = v) (hfit : fits (ty0 k) v = true) (hv : gVl E M' a k = v) (ho : ∀ j, j ≠ k → gVl E M' a j = gVl E M a j) (hne : ∀ b, b ≠ a → gEnt E M' b = gEnt E M b)
    (d : decode mm.2.1 pc = .ok (.putfield idx, 3)) (kk : gG l V mm E cs M' (pc + 3) lv st) : gG l V mm E cs M pc lv (v :: .ref (gAd E a) :: st) := by
  intro p e s m args below meth c H locs ls X hD hS hl2
  obtain ⟨hx, hb, hml, hown, hts, hr, hlk, hK, hB, hnm⟩ := X
  have ha : gSh E a ≠ 0 := by rw [hsh]; exact h0
  have hap := va_apart (own := mm.1.cls) hts hin ty0 hty hnm0 hK hc
  obtain ⟨r, h1, cell, q1, q2, q3, q4⟩ := gP1 hD ha (gEnt_o hsh h8) 0 _ rfl
  have hr1 : r = (C, T, N) := Option.some.inj (h1.symm.trans hc)
  subst hr1
  obtain ⟨hSl, hfc, kC, hkC, hkind⟩ := hK.1 (kd - 1) _ hc
  obtain ⟨cf, kf, fi, f, hi, hsl⟩ := hSl k hk
  have hlay := hts _ (hin _ (u_in_lay hk))
  unfold u_lay at hlay
  rw [if_pos hfin] at hlay
  have hcf : m.cls = cf := by
    obtain ⟨_, _, c', _, _, _, -, -, hf', -, -, -, hown2, -⟩ := Cond.laysFinal_spec hlay
    have e1 : c' = cf := by have := hi.symm.trans hf'; simp at this; exact this.1.symm
    rw [hdecl] at hown2
    rw [← e1]; exact Option.some.inj (hown.symm.trans hown2)
  have h6 := u_fits hfc hkC hkind (Or.inr hlay) hi (hty k hk) hn hfit
  refine W.putFinK hx hb hown (hts _ hl) hi (u_facts hfc hkC (u_lays hts hin hk) hi).1 hcf (by rw [hnm]; exact hini) (by rw [q2]; exact h6) q1 q3 (by rw [hsl]; exact k2_hasslot (q4 k hk)) rfl rfl d fun H' e1 e2 e3 => ?_
  rw [hsl] at e1 ⊢
  refine kk p e s m args below meth c H' _ ls ⟨hx, hb, hml, hown, hts, hr, hlk, hK, hB, hnm⟩ (gDesc_set hD ha hne ?_ e3) (hS.put e2 e3 (hD.2.1 a ha)) hl2
  rw [gEnt_o hsh h8]
  exact ⟨_, hc, t_OB.to (V := updV (vp_V (gFs E M a)) k v) ⟨_, e1, q2, q3, t_set q4 hap hk v⟩ (fun j hj => gOb (Nat.lt_of_lt_of_le hk hN) hv ho j (Nat.lt_of_lt_of_le hj hN))⟩
theorem gU_vl {a k x kd : Nat} (hsh : gSh E a = kd) (hr : gR kd k = false) : gVl E (gU M a k x) a k = .int (nI x) := by
  rw [gVl_i hsh hr]; simp [gU]
theorem gU_vo {a k x : Nat} : ∀ j, j ≠ k → gVl E (gU M a k x) a j = gVl E M a j := fun j h => by simp [gVl, gU, h]
theorem gUr_vl {a k x kd : Nat} (hsh : gSh E a = kd) (hr : gR kd k = true) (h0 : x ≠ 0) : gVl E (gUr M a k x) a k = .ref (gAd E x) := gVl_r hsh hr (by simp [gUr]) h0
theorem gUr_vo {a k x : Nat} : ∀ j, j ≠ k → gVl E (gUr M a k x) a j = gVl E M a j := fun j h => by simp [gVl, gUr, h]
theorem gU_en {a k x : Nat} : ∀ b, b ≠ a → gEnt E (gU M a k x) b = gEnt E M b := gEnt_ne gU_ne (fun _ _ _ => rfl)
theorem gUr_en {a k x : Nat} : ∀ b, b ≠ a → gEnt E (gUr M a k x) b = gEnt E M b := gEnt_ne (fun _ _ _ => rfl) gUr_ne
/-! arrays -/
theorem nI_in31 {i n : Nat} (h : i < n) (hn : n ≤ 2147483647) : vp_in (nI i) n := vp_in_nI h (by omega)
theorem g_iaload {a i : Nat} (hsh : gSh E a = 9) (hi : i < gLn E a) (hn : gLn E a ≤ 2147483647) (d : decode mm.2.1 pc = .ok (.iaload, 1)) (kk : gG l V mm E cs M (pc + 1) lv (.int (nI (M.1 a i)) :: st)) : gG l V mm E cs M pc lv (.int (nI i) :: .ref (gAd E a) :: st) := by
  intro p e s m args below meth c H locs ls X hD hS hl2
  refine va_iald (tys := gTy E) X.1 X.2.1 X.2.2.2.2.2.2.2.1 (gP1 hD (by rw [hsh]; decide) (gEnt_i hsh (by decide) (by decide))) 0 0 rfl rfl (nI_in31 hi hn) d ?_
  rw [nI_clamp (by omega)]
  exact (kk p e s m args below meth c H locs ls X hD hS hl2)
theorem g_caload {a i : Nat} (hsh : gSh E a = 10) (hi : i < gLn E a) (hn : gLn E a ≤ 2147483647) (d : decode mm.2.1 pc = .ok (.caload, 1)) (kk : gG l V mm E cs M (pc + 1) lv (.int (nI (M.1 a i)) :: st)) : gG l V mm E cs M pc lv (.int (nI i) :: .ref (gAd E a) :: st) := by
  intro p e s m args below meth c H locs ls X hD hS hl2
  refine va_cald (tys := gTy E) X.1 X.2.1 X.2.2.2.2.2.2.2.1 (gP1 hD (by rw [hsh]; decide) (gEnt_i hsh (by decide) (by decide))) 0 1 rfl rfl (nI_in31 hi hn) d ?_
  rw [nI_clamp (by omega)]
  exact (kk p e s m args below meth c H locs ls X hD hS hl2)
theorem g_aaload {a i kd r t0 : Nat} {C : String} (hsh : gSh E a = kd) (hkd : 10 < kd) (ht : (gTy E)[t0]? = some (gC E kd, .object C)) (hi : i < gLn E a) (hn : gLn E a ≤ 2147483647) (hr : M.2 a i = r) (h0 : r ≠ 0) (d : decode mm.2.1 pc = .ok (.aaload, 1)) (kk : gG l V mm E cs M (pc + 1) lv (.ref (gAd E r) :: st)) : gG l V mm E cs M pc lv (.int (nI i) :: .ref (gAd E a) :: st) := by
  intro p e s m args below meth c H locs ls X hD hS hl2
  refine va_aldq (tys := gTy E) X.1 X.2.1 X.2.2.2.2.2.2.2.1 (gP1 hD (by rw [hsh]; omega) (gEnt_r hsh hkd)) 0 t0 rfl ht (nI_in31 hi hn) d ?_
  rw [nI_clamp (by omega), hr, show gO E r = some (gAd E r) from if_neg h0]
  exact (kk p e s m args below meth c H locs ls X hD hS hl2)
theorem g_alen {a kd t0 : Nat} {ty : FieldType} (hsh : gSh E a = kd) (hkd : 8 < kd) (ht : (gTy E)[t0]? = some (gC E kd, ty)) (d : decode mm.2.1 pc = .ok (.arraylength, 1)) (kk : gG l V mm E cs M (pc + 1) lv (.int (nI (gLn E a)) :: st)) : gG l V mm E cs M pc lv (.ref (gAd E a) :: st) := by
  intro p e s m args below meth c H locs ls X hD hS hl2
  by_cases h10 : kd ≤ 10
  · exact va_alen (tys := gTy E) X.1 X.2.1 X.2.2.2.2.2.2.2.1 (gP1 hD (by rw [hsh]; omega) (gEnt_i hsh hkd h10)) 0 t0 rfl ht rfl d (kk p e s m args below meth c H locs ls X hD hS hl2)
  · exact va_alen (tys := gTy E) X.1 X.2.1 X.2.2.2.2.2.2.2.1 (gP1 hD (by rw [hsh]; omega) (gEnt_r hsh (by omega))) 0 t0 rfl ht rfl d (kk p e s m args below meth c H locs ls X hD hS hl2)
theorem g_iastore {a i x : Nat} (hsh : gSh E a = 9) (hi : i < gLn E a) (hn : gLn E a ≤ 2147483647) (d : decode mm.2.1 pc = .ok (.iastore, 1)) (kk : gG l V mm E cs (gU M a i x) (pc + 1) lv st) : gG l V mm E cs M pc lv (.int (nI x) :: .int (nI i) :: .ref (gAd E a) :: st) := by
  intro p e s m args below meth c H locs ls X hD hS hl2
  have ha : gSh E a ≠ 0 := by rw [hsh]; decide
  have hin := nI_in31 hi hn
  have hc : H[gAd E a]? = some (arrV (gC E 9) (gLn E a) (fun j => .int (nI (M.1 a j)))) := by
    have h := hD.2.2 a ha
    rw [gEnt_i hsh (by decide) (by decide)] at h
    exact h
  refine W.iast X.1 X.2.1 hc ((X.2.2.2.2.2.2.2.1.2 0 _ rfl).1 _ _) (fun q => by cases q) (by rw [arrV_size]; exact hin) rfl rfl d fun H1 e1 z oq => ?_
  refine kk p e s m args below meth c H1 _ ls X (gDesc_set hD ha gU_en ?_ oq) (hS.put z oq (hD.2.1 a ha)) hl2
  rw [gEnt_i hsh (by decide) (by decide)]
  show H1[gAd E a]? = some (arrV (gC E 9) (gLn E a) (fun j => .int (nI ((gU M a i x).1 a j))))
  rw [e1, arrV_store, nI_clamp (by omega)]
  congr 2
  funext q
  by_cases hq : q = i
  · subst hq; simp [updV, gU]
  · simp [updV, gU, hq]
theorem g_castore {a i x : Nat} (hsh : gSh E a = 10) (hi : i < gLn E a) (hn : gLn E a ≤ 2147483647) (hx : x < 65536) (d : decode mm.2.1 pc = .ok (.castore, 1)) (kk : gG l V mm E cs (gU M a i x) (pc + 1) lv st) : gG l V mm E cs M pc lv (.int (nI x) :: .int (nI i) :: .ref (gAd E a) :: st) := by
  intro p e s m args below meth c H locs ls X hD hS hl2
  have ha : gSh E a ≠ 0 := by rw [hsh]; decide
  have hin := nI_in31 hi hn
  have hc : H[gAd E a]? = some (arrV (gC E 10) (gLn E a) (fun j => .int (nI (M.1 a j)))) := by
    have h := hD.2.2 a ha
    rw [gEnt_i hsh (by decide) (by decide)] at h
    exact h
  refine W.cast X.1 X.2.1 hc ((X.2.2.2.2.2.2.2.1.2 1 _ rfl).1 _ _) (fun q => by cases q) (by rw [arrV_size]; exact hin) rfl rfl d fun H1 e1 z oq => ?_
  refine kk p e s m args below meth c H1 _ ls X (gDesc_set hD ha gU_en ?_ oq) (hS.put z oq (hD.2.1 a ha)) hl2
  rw [gEnt_i hsh (by decide) (by decide)]
  show H1[gAd E a]? = some (arrV (gC E 10) (gLn E a) (fun j => .int (nI ((gU M a i x).1 a j))))
  rw [e1, arrV_store, nI_clamp (by omega), (pk_charN hx).1]
  congr 2
  funext q
  by_cases hq : q = i
  · subst hq; simp [updV, gU]
  · simp [updV, gU, hq]
theorem g_aastore {a i v kd kv t0 : Nat} {q : vw_C} (hsh : gSh E a = kd) (hkd : 10 < kd) (hv : gSh E v = kv) (hv0 : kv ≠ 0) (hv8 : kv ≤ 8) (hcl : vwCl[kv - 1]? = some q) (ht : (gTy E)[t0]? = some (gC E kd, .object q.1)) (hi : i < gLn E a) (hn : gLn E a ≤ 2147483647) (h0 : v ≠ 0) (d : decode mm.2.1 pc = .ok (.aastore, 1)) (kk : gG l V mm E cs (gUr M a i v) (pc + 1) lv st) : gG l V mm E cs M pc lv (.ref (gAd E v) :: .int (nI i) :: .ref (gAd E a) :: st) := by
  intro p e s m args below meth c H locs ls X hD hS hl2
  have ha : gSh E a ≠ 0 := by rw [hsh]; omega
  have hin := nI_in31 hi hn
  have hc : H[gAd E a]? = some (arrV (gC E kd) (gLn E a) (fun j => va_rf (gO E (M.2 a j)))) := by
    have h := hD.2.2 a ha
    rw [gEnt_r hsh hkd] at h
    exact h
  have hK : va_K (gD E) vwCl (gTy E) s := X.2.2.2.2.2.2.2.1
  obtain ⟨r', hr', cellV, g1, g2, g3, -⟩ := gP1 hD (by rw [hv]; exact hv0) (gEnt_o hv hv8) 0 _ rfl
  have hcls := (hK.1 (kv - 1) q hcl).2
  obtain ⟨kA, comp, k1, k2, k3, -⟩ := (hK.2 t0 _ ht).2
  have hcomp : comp = (gD E).1 (kv - 1) := Option.some.inj (k3.symm.trans hcls.1)
  subst hcomp
  obtain ⟨kC, hkC, -⟩ := hcls.2
  refine W.aast X.1 X.2.1 hc (fun q h => by cases h) (fun h => by cases h) k1 k2 rfl hkC ⟨fun q => hin (Or.inl q), by rw [arrV_size]; exact Nat.not_le.mp fun q => hin (Or.inr q)⟩ g1 (fun q h => by rw [g3] at h; cases h) (by rw [g2]; exact hkC) (by rw [g2]; exact va_assign hcls) rfl rfl d fun H1 e1 z oq => ?_
  refine kk p e s m args below meth c H1 _ ls X (gDesc_set hD ha gUr_en ?_ oq) (hS.put z oq (hD.2.1 a ha)) hl2
  rw [gEnt_r hsh hkd]
  show H1[gAd E a]? = some (arrV (gC E kd) (gLn E a) (fun j => va_rf (gO E ((gUr M a i v).2 a j))))
  rw [e1, arrV_store, nI_clamp (by omega)]
  congr 2
  funext q
  by_cases hq : q = i
  · subst hq; simp [updV, gUr, gO, h0, va_rf]
  · simp [updV, gUr, hq]
/-! ends -/
end gCells
section gEnds
variable {l : Launch} {h : Nat} {mm : gY} {E : gEnv} {M : gMem} {pc : Nat} {lv : List (Nat × Value)} {Q : Option Value → gMem → Prop}
theorem g_iret {r : Int32} (hr : mm.2.2.2 = some .int) (d : decode mm.2.1 pc = .ok (.ireturn, 1)) (hq : Q (some (.int r)) M) : gG l (gV0 h E Q) mm E (0, 0) M pc lv [.int r] := by
  intro p e s m args below meth c H locs ls X hD hS hl2
  exact W.iret (v := r) X.1 X.2.1 (X.2.2.2.2.2.1.trans hr) (fun t ht hW => ⟨⟨_, M, rfl, hq, by rw [ht]; exact hD⟩, hS.F ht⟩) hS.2.2 d X.2.2.2.2.2.2.1
theorem gb_nar (b : Bool) : narrow .boolean (.int (gb b)) = .int (gb b) := by cases b <;> rfl
theorem g_zret {b : Bool} (hr : mm.2.2.2 = some .boolean) (d : decode mm.2.1 pc = .ok (.ireturn, 1)) (hq : Q (some (.int (gb b))) M) : gG l (gV0 h E Q) mm E (0, 0) M pc lv [.int (gb b)] := by
  intro p e s m args below meth c H locs ls X hD hS hl2
  exact W.zret (v := gb b) X.1 X.2.1 (X.2.2.2.2.2.1.trans hr) (gb_nar b) (fun t ht hW => ⟨⟨_, M, rfl, hq, by rw [ht]; exact hD⟩, hS.F ht⟩) hS.2.2 d X.2.2.2.2.2.2.1
theorem g_lret {r : Int64} (hr : mm.2.2.2 = some .long) (d : decode mm.2.1 pc = .ok (.lreturn, 1)) (hq : Q (some (.long r)) M) : gG l (gV0 h E Q) mm E (0, 0) M pc lv [.long r] := by
  intro p e s m args below meth c H locs ls X hD hS hl2
  exact W.lret (v := r) X.1 X.2.1 (X.2.2.2.2.2.1.trans hr) (fun t ht hW => ⟨⟨_, M, rfl, hq, by rw [ht]; exact hD⟩, hS.F ht⟩) hS.2.2 d X.2.2.2.2.2.2.1
theorem g_vret (hr : mm.2.2.2 = none) (d : decode mm.2.1 pc = .ok (.return_, 1)) (hq : Q none M) : gG l (gV0 h E Q) mm E (0, 0) M pc lv [] := by
  intro p e s m args below meth c H locs ls X hD hS hl2
  exact W.vret X.1 X.2.1 (X.2.2.2.2.2.1.trans hr) (fun t ht hW => ⟨⟨_, M, rfl, hq, by rw [ht]; exact hD⟩, hS.F ht⟩) hS.2.2 d X.2.2.2.2.2.2.1
theorem g_aret {v : Value} {n : String} (hr : mm.2.2.2 = some (.object n)) (hv : v = .null ∨ ∃ a, v = .ref a) (d : decode mm.2.1 pc = .ok (.areturn, 1)) (hq : Q (some v) M) : gG l (gV0 h E Q) mm E (0, 0) M pc lv [v] := by
  intro p e s m args below meth c H locs ls X hD hS hl2
  exact W.aret (v := v) X.1 X.2.1 (X.2.2.2.2.2.1.trans hr) (Or.inl ⟨n, rfl⟩) hv (fun t ht hW => ⟨⟨_, M, rfl, hq, by rw [ht]; exact hD⟩, hS.F ht⟩) hS.2.2 d X.2.2.2.2.2.2.1
end gEnds
/-! calls -/
def gInf (mc : gY) (n : Nat) : Prop := Cond.initialized mc.1.cls ∈ gT ∧ Cond.code mc.1 mc.2.1 mc.2.2.1 mc.2.2.2 ∈ gT ∧ mc.1.cls ≠ "java/lang/invoke/MethodHandle" ∧ mc.1.cls ≠ "java/lang/invoke/VarHandle" ∧ (parseMethodDescriptor mc.1.desc).map (fun d => d.parameters.length) = some n
def gInfV (mc : gY) (n : Nat) : Prop := gInf mc n ∧ Cond.instanceMethod mc.1 ∈ gT ∧ Cond.selects mc.1.cls mc.1 mc.1 ∈ gT
def gInfS (mc : gY) (n : Nat) : Prop := gInf mc n ∧ Cond.static mc.1 ∈ gT
theorem gWs_ok {mc : gY} {n : Nat} (h : gInf mc n) : ∀ w ∈ gWs mc, w ∈ gT := fun w hw => (List.mem_cons.mp hw).elim (fun e => by rw [e]; exact h.2.1) id
theorem g_ce {α : Type} {P : α → Prop} {r : α} (h : P r) : ∀ v, v = r → P v := fun v e => by rw [e]; exact h
section gCalls
variable {l : Launch} {V : gVt} {mm : gY} {E : gEnv} {cs : Nat × Nat} {M : gMem} {pc : Nat} {lv : List (Nat × Value)} {st rest : List Value}
theorem gCallB {mc : gY} {n h' idx : Nat} {R : Room} {s : State} {args : Array Value} (hts : ∀ w ∈ gT, w.before args s = true) (hi : gInf mc n) (hl : Cond.methodLink mm.1.cls idx mc.1 ∈ gT) (hR : h' + 1 ≤ R.frames ∧ 8 + (mc.2.2.1 + 11) + 40 * h' ≤ R.locals) :
    CallB R s args mm.1.cls idx mc.1 mc.2.1 mc.2.2.1 mc.2.2.2 (gWs mc) (gRm h') 0 0 n := by
  refine ⟨rfl, rfl, hR.1, hR.2, fun w hw a' U hW => ?_, List.mem_cons_self, hts _ hi.2.1, hts _ hi.1, ⟨hi.2.2.1, hi.2.2.2.1⟩, fun sig h => ?_, hts _ hl⟩
  · have h := gWs_ok hi w hw
    exact gOk_at hW (gT_ok h) (hts w h)
  · have h2 := hi.2.2.2.2
    rw [h] at h2
    exact (Option.some.inj h2).symm
theorem gCallN {mc : gY} {n h' idx : Nat} {host : String} {R : Room} {s : State} {args : Array Value} (hts : ∀ w ∈ gT, w.before args s = true) (hi : gInf mc n) (hl : Cond.methodLinkNest mm.1.cls idx mc.1 host ∈ gT) (hR : h' + 1 ≤ R.frames ∧ 8 + (mc.2.2.1 + 11) + 40 * h' ≤ R.locals) :
    va_CN R s args mm.1.cls idx mc.1 host mc.2.1 mc.2.2.1 mc.2.2.2 (gWs mc) (gRm h') 0 0 n := by
  refine ⟨⟨rfl, rfl, hR.1, hR.2, fun w hw a' U hW => ?_, List.mem_cons_self⟩, hts _ hi.2.1, hts _ hi.1, ⟨hi.2.2.1, hi.2.2.2.1⟩, fun sig h => ?_, hts _ hl⟩
  · have h := gWs_ok hi w hw
    exact gOk_at hW (gT_ok h) (hts w h)
  · have h2 := hi.2.2.2.2
    rw [h] at h2
    exact (Option.some.inj h2).symm
/-- what a call gives back -/
theorem g_back {p : Program} {e : Env} {R : Room} {s : State} {m : MethodId} {args : Array Value} {below : List Frame} {meth : Method} {c : Code} {H : Heap} {locs : List Loc} {Qw : State → Prop} {ls : Array Slot} {Q : Option Value → gMem → Prop} {a : Array Value} {cells slots : Nat}
    (hr : va_Run p l e R s m args below meth c H locs cells slots 0 0 (F0 m pc ls st) rest (gQp E Q a) (gA E)) (hS : va_S (gA E) s.heap H locs)
    (kk : ∀ (v : Option Value) (u : gMem) (H1 : Heap) (locs1 : List Loc), Q v u → gDesc E u H1 → va_S (gA E) s.heap H1 locs1 → W p l e R s m args below meth c H1 locs1 cells slots Qw (F0 m (pc + 3) ls (v.toList ++ rest))) : W p l e R s m args below meth c H locs cells slots Qw (F0 m pc ls st) := by
  intro T hT X
  obtain ⟨v, st₀, t, T', L, h0, X', hL, e1, e2, ⟨⟨v', u, hv, hq, hd⟩, hz, hk⟩, stp⟩ := hr T hT X
  cases hv
  rw [h0] at hz hk
  obtain ⟨t2, a1, b1⟩ := kk v u T'.heap (locs ++ L) hq (by rw [e1]; exact hd)
    ⟨Nat.le_trans hS.1 (by rw [e1]; exact hz), fun q h1 h2 => by rw [e1, hk q (Nat.lt_of_lt_of_le h1 hS.1) h2]; exact hS.2.1 q h1 h2, fun q hq => by
      rcases List.mem_append.mp hq with h | h
      · exact hS.2.2 q h
      · exact hL q h⟩ T' rfl X'
  exact ⟨t2, stp t2 a1, b1⟩
theorem g_rm {m : MethodId} {ls : Array Slot} {st rest : List Value} (h : (rest.map fun v => v.category).sum ≤ 8) : 2 * (F0 m pc ls st).monitorRoom + (rest.map fun v => v.category).sum ≤ 8 := by
  exact lv_room h
theorem gPre {E : gEnv} {M : gMem} {s : State} {H : Heap} {locs : List Loc} {av : List Value} (hD : gDesc E M H) (hK : gK E s) (hS : va_S (gA E) s.heap H locs) (hB : gBs E ≤ s.heap.size) : ∀ U : State, U.heap = H → s.WarmedH U.vm → gPc E M av av.toArray U :=
  fun U hU hW => ⟨rfl, by rw [hU]; exact hD, va_K.moved hW.alike hK, by rw [hU]; exact Nat.le_trans hB hS.1⟩
theorem gRecv {E : gEnv} {M : gMem} {s : State} {H : Heap} {b kd : Nat} {q : vw_C} (hD : gDesc E M H) (hK : gK E s) (hsh : gSh E b = kd) (h0 : kd ≠ 0) (h8 : kd ≤ 8) (hc : vwCl[kd - 1]? = some q) : ∃ cell : Cell, H[gAd E b]? = some cell ∧ cell.vm.isStatics = false ∧ s.vm.findClass q.1 = some cell.cls :=
  va_recv (tys := gTy E) hK (gP1 hD (by rw [hsh]; exact h0) (gEnt_o hsh h8)) hc (q0 := 0) rfl
theorem g_callV {mc : gY} {n h' idx b kd : Nat} {q : vw_C} {As : List Value} {Q' : Option Value → gMem → Prop} (hl : Cond.methodLink mm.1.cls idx mc.1 ∈ gT) (hi : gInfV mc n) (hM : gMet l E mc h' (.ref (gAd E b) :: As) M Q') (hR : h' + 1 ≤ V.1.frames ∧ 8 + (mc.2.2.1 + 11) + 40 * h' ≤ V.1.locals)
    (hsh : gSh E b = kd) (h0 : kd ≠ 0) (h8 : kd ≤ 8) (hc : vwCl[kd - 1]? = some q) (hq : q.1 = mc.1.cls) (hn : As.length = n) (hst : st = As.reverse ++ .ref (gAd E b) :: rest) (hW : (rest.map fun v => v.category).sum ≤ 8) (hcs : cs.1 ≤ V.1.cells ∧ cs.2 ≤ V.1.slots) (d : decode mm.2.1 pc = .ok (.invokevirtual idx, 3))
    (kk : ∀ v u, Q' v u → gG l V mm E cs u (pc + 3) lv (v.toList ++ rest)) : gG l V mm E cs M pc lv st := by
  intro p e s m args below meth c H locs ls X hD hS hl2
  obtain ⟨hx, hb, hml, hown, hts, hr, hlk, hK, hB, hnm⟩ := X
  refine g_back (va_runV (As := As) (rest := rest) (C := mc.1.cls) (b := gAd E b) ⟨hx, hb, hml, hown, hts⟩ hM ⟨gCallB hts hi.1 hl hR, hts _ hi.2.1, hts _ hi.2.2⟩ ⟨gPc_blind _ _ _, by rw [← hq]; exact gRecv hD hK hsh h0 h8 hc, gPre hD hK hS hB⟩ rfl hn hl2.1 hst (g_rm hW) d hcs) hS (fun v u H1 locs1 h1 h2 h3 => ?_)
  exact kk v u h1 p e s m args below meth c H1 locs1 ls ⟨hx, hb, hml, hown, hts, hr, hlk, hK, hB, hnm⟩ h2 h3 hl2
theorem g_callS {mc : gY} {n h' idx : Nat} {As : List Value} {Q' : Option Value → gMem → Prop} (hl : Cond.methodLink mm.1.cls idx mc.1 ∈ gT) (hi : gInfS mc n) (hM : gMet l E mc h' As M Q') (hR : h' + 1 ≤ V.1.frames ∧ 8 + (mc.2.2.1 + 11) + 40 * h' ≤ V.1.locals)
    (hn : As.length = n) (hst : st = As.reverse ++ rest) (hW : (rest.map fun v => v.category).sum ≤ 8) (hcs : cs.1 ≤ V.1.cells ∧ cs.2 ≤ V.1.slots) (d : decode mm.2.1 pc = .ok (.invokestatic idx, 3))
    (kk : ∀ v u, Q' v u → gG l V mm E cs u (pc + 3) lv (v.toList ++ rest)) : gG l V mm E cs M pc lv st := by
  intro p e s m args below meth c H locs ls X hD hS hl2
  obtain ⟨hx, hb, hml, hown, hts, hr, hlk, hK, hB, hnm⟩ := X
  refine g_back (va_runS (As := As) (rest := rest) ⟨hx, hb, hml, hown, hts⟩ hM ⟨gCallB hts hi.1 hl hR, hts _ hi.2⟩ ⟨gPc_blind _ _ _, gPre hD hK hS hB⟩ rfl hn hl2.1 hst (g_rm hW) d hcs) hS (fun v u H1 locs1 h1 h2 h3 => ?_)
  exact kk v u h1 p e s m args below meth c H1 locs1 ls ⟨hx, hb, hml, hown, hts, hr, hlk, hK, hB, hnm⟩ h2 h3 hl2
theorem g_callSN {mc : gY} {n h' idx : Nat} {host : String} {As : List Value} {Q' : Option Value → gMem → Prop} (hl : Cond.methodLinkNest mm.1.cls idx mc.1 host ∈ gT) (hi : gInfS mc n) (hM : gMet l E mc h' As M Q') (hR : h' + 1 ≤ V.1.frames ∧ 8 + (mc.2.2.1 + 11) + 40 * h' ≤ V.1.locals)
    (hn : As.length = n) (hst : st = As.reverse ++ rest) (hW : (rest.map fun v => v.category).sum ≤ 8) (hcs : cs.1 ≤ V.1.cells ∧ cs.2 ≤ V.1.slots) (d : decode mm.2.1 pc = .ok (.invokestatic idx, 3))
    (kk : ∀ v u, Q' v u → gG l V mm E cs u (pc + 3) lv (v.toList ++ rest)) : gG l V mm E cs M pc lv st := by
  intro p e s m args below meth c H locs ls X hD hS hl2
  obtain ⟨hx, hb, hml, hown, hts, hr, hlk, hK, hB, hnm⟩ := X
  refine g_back (va_runSN (As := As) (rest := rest) ⟨hx, hb, hml, hown, hts⟩ hM ⟨gCallN hts hi.1 hl hR, hts _ hi.2, trivial⟩ ⟨gPc_blind _ _ _, gPre hD hK hS hB⟩ rfl hn hl2.1 hst (g_rm hW) d hcs) hS (fun v u H1 locs1 h1 h2 h3 => ?_)
  exact kk v u h1 p e s m args below meth c H1 locs1 ls ⟨hx, hb, hml, hown, hts, hr, hlk, hK, hB, hnm⟩ h2 h3 hl2
/-- the answer of a call that answers one thing -/
theorem g_one {v0 : Option Value} {M' : gMem} {P : Option Value → gMem → Prop} (h : P v0 M') : ∀ v u, (v = v0 ∧ u = M') → P v u := fun v u e => by obtain ⟨e1, e2⟩ := e; subst e1; subst e2; exact h
theorem g_rI {r : Int32} {M' : gMem} (k : gG l V mm E cs M' pc lv (.int r :: rest)) : ∀ v u, (v = some (.int r) ∧ u = M') → gG l V mm E cs u pc lv (v.toList ++ rest) := fun v u e => by obtain ⟨e1, e2⟩ := e; subst e1; subst e2; exact k
theorem g_rL {r : Int64} {M' : gMem} (k : gG l V mm E cs M' pc lv (.long r :: rest)) : ∀ v u, (v = some (.long r) ∧ u = M') → gG l V mm E cs u pc lv (v.toList ++ rest) := fun v u e => by obtain ⟨e1, e2⟩ := e; subst e1; subst e2; exact k
theorem g_rU {M' : gMem} (k : gG l V mm E cs M' pc lv rest) : ∀ v u, (v = none ∧ u = M') → gG l V mm E cs u pc lv (v.toList ++ rest) := fun v u e => by obtain ⟨e1, e2⟩ := e; subst e1; subst e2; exact k
end gCalls
end
section
theorem wsX0 : ∀ w ∈ u_ws RX0 TX0 6, w ∈ gT := gT_all [157, 159, 161, 163, 165, 167] (by decide +kernel) (by decide +kernel)
theorem wsX1 : ∀ w ∈ u_ws RX1 TX1 3, w ∈ gT := gT_all [189, 191, 193] (by decide +kernel) (by decide +kernel)
theorem wsX2 : ∀ w ∈ u_ws RX2 TX2 2, w ∈ gT := gT_all [199, 201] (by decide +kernel) (by decide +kernel)
theorem wsX3 : ∀ w ∈ u_ws RX3 TX3 3, w ∈ gT := gT_all [138, 140, 142] (by decide +kernel) (by decide +kernel)
theorem wsX4 : ∀ w ∈ u_ws RX4 TX4 8, w ∈ gT := gT_all [113, 115, 117, 119, 121, 123, 125, 127] (by decide +kernel) (by decide +kernel)
theorem wsX5 : ∀ w ∈ u_ws RX5 TX5 1, w ∈ gT := gT_all [72] (by decide +kernel) (by decide +kernel)
theorem wsX6 : ∀ w ∈ u_ws RX6 TX6 7, w ∈ gT := gT_all [308, 310, 312, 314, 316, 318, 320] (by decide +kernel) (by decide +kernel)
theorem wsX7 : ∀ w ∈ u_ws RX7 TX7 22, w ∈ gT := gT_all [637, 639, 641, 643, 645, 647, 649, 651, 653, 655, 657, 659, 661, 663, 665, 667, 669, 671, 673, 675, 677, 679] (by decide +kernel) (by decide +kernel)
abbrev mX0_init : gY := (yX0_init, cX0_init, 2, none)
abbrev mX0_clear : gY := (yX0_clear, cX0_clear, 1, none)
abbrev mX0_isSpan : gY := (yX0_isSpan, cX0_isSpan, 2, (some .boolean))
abbrev mX0_setTerm : gY := (yX0_setTerm, cX0_setTerm, 3, (some .boolean))
abbrev mX0_addOffer : gY := (yX0_addOffer, cX0_addOffer, 3, (some .boolean))
abbrev mX0_isOfferTold : gY := (yX0_isOfferTold, cX0_isOfferTold, 1, (some .boolean))
abbrev mX0_addHold : gY := (yX0_addHold, cX0_addHold, 5, (some .boolean))
abbrev mX0_isWithinTerm : gY := (yX0_isWithinTerm, cX0_isWithinTerm, 2, (some .boolean))
abbrev mX0_lowestClash : gY := (yX0_lowestClash, cX0_lowestClash, 4, (some .int))
abbrev mX0_clashingPairs : gY := (yX0_clashingPairs, cX0_clashingPairs, 4, (some .int))
abbrev mX0_beginOf : gY := (yX0_beginOf, cX0_beginOf, 7, (some .int))
abbrev mX0_isKept : gY := (yX0_isKept, cX0_isKept, 6, (some .boolean))
abbrev mX0_areHoldsKept : gY := (yX0_areHoldsKept, cX0_areHoldsKept, 4, (some .boolean))
abbrev mX0_brokenLands : gY := (yX0_brokenLands, cX0_brokenLands, 5, (some .int))
abbrev mX0_priceOf : gY := (yX0_priceOf, cX0_priceOf, 4, (some .int))
abbrev mX0_bestSet : gY := (yX0_bestSet, cX0_bestSet, 7, (some .int))
abbrev mX0_outsideTerm : gY := (yX0_outsideTerm, cX0_outsideTerm, 3, (some .int))
abbrev mX0_isWithoutClash : gY := (yX0_isWithoutClash, cX0_isWithoutClash, 3, (some .boolean))
abbrev mX1_init : gY := (yX1_init, cX1_init, 1, none)
abbrev mX2_init : gY := (yX2_init, cX2_init, 2, none)
abbrev mX2_forget : gY := (yX2_forget, cX2_forget, 1, none)
abbrev mX2_add : gY := (yX2_add, cX2_add, 5, none)
abbrev mX2_loseOldest : gY := (yX2_loseOldest, cX2_loseOldest, 3, none)
abbrev mX2_takeLatest : gY := (yX2_takeLatest, cX2_takeLatest, 1, (some (.object "ShowRights$Change")))
abbrev mX3_init : gY := (yX3_init, cX3_init, 1, none)
abbrev mX4_init : gY := (yX4_init, cX4_init, 1, none)
abbrev mX4_firstNow : gY := (yX4_firstNow, cX4_firstNow, 1, (some .int))
abbrev mX4_lastNow : gY := (yX4_lastNow, cX4_lastNow, 1, (some .int))
abbrev mX4_farthestMove : gY := (yX4_farthestMove, cX4_farthestMove, 1, (some .int))
abbrev mX4_weeksNow : gY := (yX4_weeksNow, cX4_weeksNow, 1, (some .long))
abbrev mX4_hasCell : gY := (yX4_hasCell, cX4_hasCell, 2, (some .boolean))
abbrev mX4_commonPoints : gY := (yX4_commonPoints, cX4_commonPoints, 2, (some .int))
abbrev mX4_meets : gY := (yX4_meets, cX4_meets, 2, (some .boolean))
abbrev mX4_clashesWith : gY := (yX4_clashesWith, cX4_clashesWith, 2, (some .boolean))
abbrev mX5_init : gY := (yX5_init, cX5_init, 1, none)
abbrev mX5_readInto : gY := (yX5_readInto, cX5_readInto, 6, (some .int))
abbrev mX5_readItem : gY := (yX5_readItem, cX5_readItem, 7, (some .boolean))
abbrev mX5_readNumbers : gY := (yX5_readNumbers, cX5_readNumbers, 9, (some .int))
abbrev mX6_init : gY := (yX6_init, cX6_init, 2, none)
abbrev mX6_write : gY := (yX6_write, cX6_write, 2, (some .int))
abbrev mX6_wipe : gY := (yX6_wipe, cX6_wipe, 2, (some .int))
abbrev mX6_fault : gY := (yX6_fault, cX6_fault, 1, (some .int))
abbrev mX6_lay : gY := (yX6_lay, cX6_lay, 1, (some .int))
abbrev mX6_layText : gY := (yX6_layText, cX6_layText, 2, (some .int))
abbrev mX6_sign : gY := (yX6_sign, cX6_sign, 2, (some .int))
abbrev mX6_why : gY := (yX6_why, cX6_why, 2, (some .int))
abbrev mX6_clash : gY := (yX6_clash, cX6_clash, 2, (some .int))
abbrev mX6_drop : gY := (yX6_drop, cX6_drop, 2, (some .int))
abbrev mX6_move : gY := (yX6_move, cX6_move, 5, (some .int))
abbrev mX6_soonest : gY := (yX6_soonest, cX6_soonest, 6, (some .int))
abbrev mX6_undo : gY := (yX6_undo, cX6_undo, 2, (some .int))
abbrev mX6_isOffer : gY := (yX6_isOffer, cX6_isOffer, 2, (some .boolean))
abbrev mX6_isSigned : gY := (yX6_isSigned, cX6_isSigned, 2, (some .boolean))
abbrev mX6_whatSpeaksAgainst : gY := (yX6_whatSpeaksAgainst, cX6_whatSpeaksAgainst, 2, (some .int))
abbrev mX6_remember : gY := (yX6_remember, cX6_remember, 2, none)
abbrev mX6_offer : gY := (yX6_offer, cX6_offer, 4, (some .int))
abbrev mX6_common : gY := (yX6_common, cX6_common, 3, (some .int))
abbrev mX6_begin : gY := (yX6_begin, cX6_begin, 3, (some .int))
abbrev mX6_broken : gY := (yX6_broken, cX6_broken, 2, (some .int))
abbrev mX6_point : gY := (yX6_point, cX6_point, 7, (some .int))
abbrev mX6_points : gY := (yX6_points, cX6_points, 4, (some .int))
abbrev mX6_window : gY := (yX6_window, cX6_window, 9, (some .int))
abbrev mX6_longest : gY := (yX6_longest, cX6_longest, 10, (some .int))
abbrev mX6_howManyHave : gY := (yX6_howManyHave, cX6_howManyHave, 6, (some .int))
abbrev mX6_weeksOf : gY := (yX6_weeksOf, cX6_weeksOf, 13, (some .long))
abbrev mX6_best : gY := (yX6_best, cX6_best, 3, (some .int))
abbrev mX6_take : gY := (yX6_take, cX6_take, 2, (some .int))
abbrev mX6_count : gY := (yX6_count, cX6_count, 2, (some .int))
abbrev mX6_isBelow : gY := (yX6_isBelow, cX6_isBelow, 2, (some .boolean))
abbrev mX6_isCell : gY := (yX6_isCell, cX6_isCell, 3, (some .boolean))
abbrev mX6_cellOf : gY := (yX6_cellOf, cX6_cellOf, 3, (some .int))
abbrev mX6_landOf : gY := (yX6_landOf, cX6_landOf, 1, (some .int))
abbrev mX6_tongueOf : gY := (yX6_tongueOf, cX6_tongueOf, 1, (some .int))
abbrev mX6_meansOf : gY := (yX6_meansOf, cX6_meansOf, 1, (some .int))
abbrev mX6_has : gY := (yX6_has, cX6_has, 2, (some .boolean))
abbrev mX6_isSetBelow : gY := (yX6_isSetBelow, cX6_isSetBelow, 2, (some .boolean))
abbrev mX6_hasWeek : gY := (yX6_hasWeek, cX6_hasWeek, 3, (some .boolean))
abbrev mX6_weeksFromTo : gY := (yX6_weeksFromTo, cX6_weeksFromTo, 2, (some .long))
abbrev mX6_windowStarts : gY := (yX6_windowStarts, cX6_windowStarts, 2, (some .long))
abbrev mX6_kthWeek : gY := (yX6_kthWeek, cX6_kthWeek, 5, (some .int))
abbrev mX6_windowLength : gY := (yX6_windowLength, cX6_windowLength, 4, (some .int))
abbrev mX6_longestStart : gY := (yX6_longestStart, cX6_longestStart, 6, (some .int))
abbrev mX7_init : gY := (yX7_init, cX7_init, 1, none)
abbrev mX7_in : gY := (yX7_in, cX7_in, 3, (some .boolean))
abbrev mX7_beginRead : gY := (yX7_beginRead, cX7_beginRead, 1, none)
abbrev mX7_putOffer : gY := (yX7_putOffer, cX7_putOffer, 9, none)
abbrev mX7_putHold : gY := (yX7_putHold, cX7_putHold, 4, none)
abbrev mX7_takeRead : gY := (yX7_takeRead, cX7_takeRead, 2, none)
abbrev mX7_isFigure : gY := (yX7_isFigure, cX7_isFigure, 1, (some .boolean))
abbrev mX7_readNumbers : gY := (yX7_readNumbers, cX7_readNumbers, 4, (some .boolean))
abbrev mX7_readTerm : gY := (yX7_readTerm, cX7_readTerm, 1, (some .boolean))
abbrev mX7_readOffer : gY := (yX7_readOffer, cX7_readOffer, 1, (some .boolean))
abbrev mX7_readHold : gY := (yX7_readHold, cX7_readHold, 1, (some .boolean))
abbrev mX7_readText : gY := (yX7_readText, cX7_readText, 4, (some .int))
abbrev mX7_write : gY := (yX7_write, cX7_write, 2, (some .int))
abbrev mX7_wipe : gY := (yX7_wipe, cX7_wipe, 2, (some .int))
abbrev mX7_fault : gY := (yX7_fault, cX7_fault, 1, (some .int))
abbrev mX7_lay : gY := (yX7_lay, cX7_lay, 1, (some .int))
abbrev mX7_isOffer : gY := (yX7_isOffer, cX7_isOffer, 2, (some .boolean))
abbrev mX7_of : gY := (yX7_of, cX7_of, 4, (some .int))
abbrev mX7_isSigned : gY := (yX7_isSigned, cX7_isSigned, 2, (some .boolean))
abbrev mX7_ones : gY := (yX7_ones, cX7_ones, 3, (some .int))
abbrev mX7_commonOf : gY := (yX7_commonOf, cX7_commonOf, 6, (some .int))
abbrev mX7_doClash : gY := (yX7_doClash, cX7_doClash, 3, (some .boolean))
abbrev mX7_isOfTerm : gY := (yX7_isOfTerm, cX7_isOfTerm, 2, (some .boolean))
abbrev mX7_beginOf : gY := (yX7_beginOf, cX7_beginOf, 7, (some .int))
abbrev mX7_brokenBy : gY := (yX7_brokenBy, cX7_brokenBy, 7, (some .int))
abbrev mX7_areKept : gY := (yX7_areKept, cX7_areKept, 4, (some .boolean))
abbrev mX7_clashOf : gY := (yX7_clashOf, cX7_clashOf, 4, (some .int))
abbrev mX7_whyOf : gY := (yX7_whyOf, cX7_whyOf, 2, (some .int))
abbrev mX7_note : gY := (yX7_note, cX7_note, 2, none)
abbrev mX7_undo : gY := (yX7_undo, cX7_undo, 2, (some .int))
abbrev mX7_sign : gY := (yX7_sign, cX7_sign, 2, (some .int))
abbrev mX7_why : gY := (yX7_why, cX7_why, 2, (some .int))
abbrev mX7_clash : gY := (yX7_clash, cX7_clash, 2, (some .int))
abbrev mX7_drop : gY := (yX7_drop, cX7_drop, 2, (some .int))
abbrev mX7_move : gY := (yX7_move, cX7_move, 4, (some .int))
abbrev mX7_soonest : gY := (yX7_soonest, cX7_soonest, 5, (some .int))
abbrev mX7_offer : gY := (yX7_offer, cX7_offer, 3, (some .int))
abbrev mX7_common : gY := (yX7_common, cX7_common, 3, (some .int))
abbrev mX7_begin : gY := (yX7_begin, cX7_begin, 3, (some .int))
abbrev mX7_broken : gY := (yX7_broken, cX7_broken, 2, (some .int))
abbrev mX7_has : gY := (yX7_has, cX7_has, 5, (some .boolean))
abbrev mX7_soldAt : gY := (yX7_soldAt, cX7_soldAt, 5, (some .int))
abbrev mX7_isAloneAt : gY := (yX7_isAloneAt, cX7_isAloneAt, 5, (some .boolean))
abbrev mX7_isRow : gY := (yX7_isRow, cX7_isRow, 3, (some .boolean))
abbrev mX7_point : gY := (yX7_point, cX7_point, 7, (some .int))
abbrev mX7_points : gY := (yX7_points, cX7_points, 7, (some .int))
abbrev mX7_findWindow : gY := (yX7_findWindow, cX7_findWindow, 3, (some .boolean))
abbrev mX7_window : gY := (yX7_window, cX7_window, 9, (some .int))
abbrev mX7_longest : gY := (yX7_longest, cX7_longest, 8, (some .int))
abbrev mX7_isGood : gY := (yX7_isGood, cX7_isGood, 5, (some .boolean))
abbrev mX7_pricesOf : gY := (yX7_pricesOf, cX7_pricesOf, 4, (some .int))
abbrev mX7_findBest : gY := (yX7_findBest, cX7_findBest, 5, (some .int))
abbrev mX7_best : gY := (yX7_best, cX7_best, 3, (some .int))
abbrev mX7_take : gY := (yX7_take, cX7_take, 2, (some .int))
abbrev mX7_count : gY := (yX7_count, cX7_count, 5, (some .int))
abbrev mJ6_bitCount_0f7a4 : gY := (yJ6_bitCount_0f7a4, cJ6_bitCount_0f7a4, 1, (some .int))
abbrev mJ13_bitCount_95d88 : gY := (yJ13_bitCount_95d88, cJ13_bitCount_95d88, 2, (some .int))
abbrev mJ0_length_8abf5 : gY := (yJ0_length_8abf5, cJ0_length_8abf5, 1, (some .int))
abbrev mJ0_charAt_5068e : gY := (yJ0_charAt_5068e, cJ0_charAt_5068e, 2, (some .char))
abbrev mJ0_coder_7d493 : gY := (yJ0_coder_7d493, cJ0_coder_7d493, 1, (some .byte))
abbrev mJ0_isLatin1_aae02 : gY := (yJ0_isLatin1_aae02, cJ0_isLatin1_aae02, 1, (some .boolean))
abbrev mJ0_checkIndex_df160 : gY := (yJ0_checkIndex_df160, cJ0_checkIndex_df160, 2, none)
abbrev mJ1_charAt_3b067 : gY := (yJ1_charAt_3b067, cJ1_charAt_3b067, 2, (some .char))
abbrev mJ2_getChar_3b067 : gY := (yJ2_getChar_3b067, cJ2_getChar_3b067, 2, (some .char))
abbrev mJ2_length_9d52b : gY := (yJ2_length_9d52b, cJ2_length_9d52b, 1, (some .int))
abbrev mJ2_charAt_3b067 : gY := (yJ2_charAt_3b067, cJ2_charAt_3b067, 2, (some .char))
abbrev mJ2_checkIndex_2214a : gY := (yJ2_checkIndex_2214a, cJ2_checkIndex_2214a, 2, none)
abbrev mJ3_checkIndex_8e157 : gY := (yJ3_checkIndex_8e157, cJ3_checkIndex_8e157, 3, (some .int))
theorem iX0_init : gInf mX0_init 0 ∧ Cond.instanceMethod yX0_init ∈ gT := ⟨⟨gT_in 45 (by decide +kernel) (by decide +kernel), gT_in 81 (by decide +kernel) (by decide +kernel), (by decide +kernel), (by decide +kernel), (by decide +kernel)⟩, gT_in 80 (by decide +kernel) (by decide +kernel)⟩
theorem iX0_clear : gInfV mX0_clear 0 := ⟨⟨gT_in 45 (by decide +kernel) (by decide +kernel), gT_in 264 (by decide +kernel) (by decide +kernel), (by decide +kernel), (by decide +kernel), (by decide +kernel)⟩, gT_in 262 (by decide +kernel) (by decide +kernel), gT_in 263 (by decide +kernel) (by decide +kernel)⟩
theorem iX0_isSpan : gInfS mX0_isSpan 2 := ⟨⟨gT_in 45 (by decide +kernel) (by decide +kernel), gT_in 279 (by decide +kernel) (by decide +kernel), (by decide +kernel), (by decide +kernel), (by decide +kernel)⟩, gT_in 278 (by decide +kernel) (by decide +kernel)⟩
theorem iX0_setTerm : gInfV mX0_setTerm 2 := ⟨⟨gT_in 45 (by decide +kernel) (by decide +kernel), gT_in 276 (by decide +kernel) (by decide +kernel), (by decide +kernel), (by decide +kernel), (by decide +kernel)⟩, gT_in 274 (by decide +kernel) (by decide +kernel), gT_in 275 (by decide +kernel) (by decide +kernel)⟩
theorem iX0_addOffer : gInfV mX0_addOffer 1 := ⟨⟨gT_in 45 (by decide +kernel) (by decide +kernel), gT_in 283 (by decide +kernel) (by decide +kernel), (by decide +kernel), (by decide +kernel), (by decide +kernel)⟩, gT_in 281 (by decide +kernel) (by decide +kernel), gT_in 282 (by decide +kernel) (by decide +kernel)⟩
theorem iX0_isOfferTold : gInfS mX0_isOfferTold 1 := ⟨⟨gT_in 45 (by decide +kernel) (by decide +kernel), gT_in 286 (by decide +kernel) (by decide +kernel), (by decide +kernel), (by decide +kernel), (by decide +kernel)⟩, gT_in 285 (by decide +kernel) (by decide +kernel)⟩
theorem iX0_addHold : gInfV mX0_addHold 3 := ⟨⟨gT_in 45 (by decide +kernel) (by decide +kernel), gT_in 296 (by decide +kernel) (by decide +kernel), (by decide +kernel), (by decide +kernel), (by decide +kernel)⟩, gT_in 294 (by decide +kernel) (by decide +kernel), gT_in 295 (by decide +kernel) (by decide +kernel)⟩
theorem iX0_isWithinTerm : gInfV mX0_isWithinTerm 1 := ⟨⟨gT_in 45 (by decide +kernel) (by decide +kernel), gT_in 362 (by decide +kernel) (by decide +kernel), (by decide +kernel), (by decide +kernel), (by decide +kernel)⟩, gT_in 360 (by decide +kernel) (by decide +kernel), gT_in 361 (by decide +kernel) (by decide +kernel)⟩
theorem iX0_lowestClash : gInfV mX0_lowestClash 2 := ⟨⟨gT_in 45 (by decide +kernel) (by decide +kernel), gT_in 374 (by decide +kernel) (by decide +kernel), (by decide +kernel), (by decide +kernel), (by decide +kernel)⟩, gT_in 372 (by decide +kernel) (by decide +kernel), gT_in 373 (by decide +kernel) (by decide +kernel)⟩
theorem iX0_clashingPairs : gInfV mX0_clashingPairs 0 := ⟨⟨gT_in 45 (by decide +kernel) (by decide +kernel), gT_in 592 (by decide +kernel) (by decide +kernel), (by decide +kernel), (by decide +kernel), (by decide +kernel)⟩, gT_in 590 (by decide +kernel) (by decide +kernel), gT_in 591 (by decide +kernel) (by decide +kernel)⟩
theorem iX0_beginOf : gInfV mX0_beginOf 3 := ⟨⟨gT_in 45 (by decide +kernel) (by decide +kernel), gT_in 397 (by decide +kernel) (by decide +kernel), (by decide +kernel), (by decide +kernel), (by decide +kernel)⟩, gT_in 395 (by decide +kernel) (by decide +kernel), gT_in 396 (by decide +kernel) (by decide +kernel)⟩
theorem iX0_isKept : gInfV mX0_isKept 3 := ⟨⟨gT_in 45 (by decide +kernel) (by decide +kernel), gT_in 393 (by decide +kernel) (by decide +kernel), (by decide +kernel), (by decide +kernel), (by decide +kernel)⟩, gT_in 392 (by decide +kernel) (by decide +kernel), gT_in 6 (by decide +kernel) (by decide +kernel)⟩
theorem iX0_areHoldsKept : gInfV mX0_areHoldsKept 1 := ⟨⟨gT_in 45 (by decide +kernel) (by decide +kernel), gT_in 389 (by decide +kernel) (by decide +kernel), (by decide +kernel), (by decide +kernel), (by decide +kernel)⟩, gT_in 387 (by decide +kernel) (by decide +kernel), gT_in 388 (by decide +kernel) (by decide +kernel)⟩
theorem iX0_brokenLands : gInfV mX0_brokenLands 2 := ⟨⟨gT_in 45 (by decide +kernel) (by decide +kernel), gT_in 489 (by decide +kernel) (by decide +kernel), (by decide +kernel), (by decide +kernel), (by decide +kernel)⟩, gT_in 487 (by decide +kernel) (by decide +kernel), gT_in 488 (by decide +kernel) (by decide +kernel)⟩
theorem iX0_priceOf : gInfV mX0_priceOf 1 := ⟨⟨gT_in 45 (by decide +kernel) (by decide +kernel), gT_in 572 (by decide +kernel) (by decide +kernel), (by decide +kernel), (by decide +kernel), (by decide +kernel)⟩, gT_in 570 (by decide +kernel) (by decide +kernel), gT_in 571 (by decide +kernel) (by decide +kernel)⟩
theorem iX0_bestSet : gInfV mX0_bestSet 0 := ⟨⟨gT_in 45 (by decide +kernel) (by decide +kernel), gT_in 563 (by decide +kernel) (by decide +kernel), (by decide +kernel), (by decide +kernel), (by decide +kernel)⟩, gT_in 561 (by decide +kernel) (by decide +kernel), gT_in 562 (by decide +kernel) (by decide +kernel)⟩
theorem iX0_outsideTerm : gInfV mX0_outsideTerm 0 := ⟨⟨gT_in 45 (by decide +kernel) (by decide +kernel), gT_in 567 (by decide +kernel) (by decide +kernel), (by decide +kernel), (by decide +kernel), (by decide +kernel)⟩, gT_in 566 (by decide +kernel) (by decide +kernel), gT_in 11 (by decide +kernel) (by decide +kernel)⟩
theorem iX0_isWithoutClash : gInfV mX0_isWithoutClash 1 := ⟨⟨gT_in 45 (by decide +kernel) (by decide +kernel), gT_in 577 (by decide +kernel) (by decide +kernel), (by decide +kernel), (by decide +kernel), (by decide +kernel)⟩, gT_in 576 (by decide +kernel) (by decide +kernel), gT_in 12 (by decide +kernel) (by decide +kernel)⟩
theorem iX1_init : gInf mX1_init 0 ∧ Cond.instanceMethod yX1_init ∈ gT := ⟨⟨gT_in 49 (by decide +kernel) (by decide +kernel), gT_in 181 (by decide +kernel) (by decide +kernel), (by decide +kernel), (by decide +kernel), (by decide +kernel)⟩, gT_in 180 (by decide +kernel) (by decide +kernel)⟩
theorem iX2_init : gInf mX2_init 0 ∧ Cond.instanceMethod yX2_init ∈ gT := ⟨⟨gT_in 48 (by decide +kernel) (by decide +kernel), gT_in 174 (by decide +kernel) (by decide +kernel), (by decide +kernel), (by decide +kernel), (by decide +kernel)⟩, gT_in 173 (by decide +kernel) (by decide +kernel)⟩
theorem iX2_forget : gInfV mX2_forget 0 := ⟨⟨gT_in 48 (by decide +kernel) (by decide +kernel), gT_in 300 (by decide +kernel) (by decide +kernel), (by decide +kernel), (by decide +kernel), (by decide +kernel)⟩, gT_in 298 (by decide +kernel) (by decide +kernel), gT_in 299 (by decide +kernel) (by decide +kernel)⟩
theorem iX2_add : gInfV mX2_add 3 := ⟨⟨gT_in 48 (by decide +kernel) (by decide +kernel), gT_in 405 (by decide +kernel) (by decide +kernel), (by decide +kernel), (by decide +kernel), (by decide +kernel)⟩, gT_in 403 (by decide +kernel) (by decide +kernel), gT_in 404 (by decide +kernel) (by decide +kernel)⟩
theorem iX2_loseOldest : gInfV mX2_loseOldest 0 := ⟨⟨gT_in 48 (by decide +kernel) (by decide +kernel), gT_in 409 (by decide +kernel) (by decide +kernel), (by decide +kernel), (by decide +kernel), (by decide +kernel)⟩, gT_in 408 (by decide +kernel) (by decide +kernel), gT_in 8 (by decide +kernel) (by decide +kernel)⟩
theorem iX2_takeLatest : gInfV mX2_takeLatest 0 := ⟨⟨gT_in 48 (by decide +kernel) (by decide +kernel), gT_in 447 (by decide +kernel) (by decide +kernel), (by decide +kernel), (by decide +kernel), (by decide +kernel)⟩, gT_in 445 (by decide +kernel) (by decide +kernel), gT_in 446 (by decide +kernel) (by decide +kernel)⟩
theorem iX3_init : gInf mX3_init 0 ∧ Cond.instanceMethod yX3_init ∈ gT := ⟨⟨gT_in 47 (by decide +kernel) (by decide +kernel), gT_in 133 (by decide +kernel) (by decide +kernel), (by decide +kernel), (by decide +kernel), (by decide +kernel)⟩, gT_in 132 (by decide +kernel) (by decide +kernel)⟩
theorem iX4_init : gInf mX4_init 0 ∧ Cond.instanceMethod yX4_init ∈ gT := ⟨⟨gT_in 46 (by decide +kernel) (by decide +kernel), gT_in 90 (by decide +kernel) (by decide +kernel), (by decide +kernel), (by decide +kernel), (by decide +kernel)⟩, gT_in 89 (by decide +kernel) (by decide +kernel)⟩
theorem iX4_firstNow : gInfV mX4_firstNow 0 := ⟨⟨gT_in 46 (by decide +kernel) (by decide +kernel), gT_in 366 (by decide +kernel) (by decide +kernel), (by decide +kernel), (by decide +kernel), (by decide +kernel)⟩, gT_in 364 (by decide +kernel) (by decide +kernel), gT_in 365 (by decide +kernel) (by decide +kernel)⟩
theorem iX4_lastNow : gInfV mX4_lastNow 0 := ⟨⟨gT_in 46 (by decide +kernel) (by decide +kernel), gT_in 370 (by decide +kernel) (by decide +kernel), (by decide +kernel), (by decide +kernel), (by decide +kernel)⟩, gT_in 368 (by decide +kernel) (by decide +kernel), gT_in 369 (by decide +kernel) (by decide +kernel)⟩
theorem iX4_farthestMove : gInfV mX4_farthestMove 0 := ⟨⟨gT_in 46 (by decide +kernel) (by decide +kernel), gT_in 435 (by decide +kernel) (by decide +kernel), (by decide +kernel), (by decide +kernel), (by decide +kernel)⟩, gT_in 433 (by decide +kernel) (by decide +kernel), gT_in 434 (by decide +kernel) (by decide +kernel)⟩
theorem iX4_weeksNow : gInfV mX4_weeksNow 0 := ⟨⟨gT_in 46 (by decide +kernel) (by decide +kernel), gT_in 462 (by decide +kernel) (by decide +kernel), (by decide +kernel), (by decide +kernel), (by decide +kernel)⟩, gT_in 460 (by decide +kernel) (by decide +kernel), gT_in 461 (by decide +kernel) (by decide +kernel)⟩
theorem iX4_hasCell : gInfV mX4_hasCell 1 := ⟨⟨gT_in 46 (by decide +kernel) (by decide +kernel), gT_in 507 (by decide +kernel) (by decide +kernel), (by decide +kernel), (by decide +kernel), (by decide +kernel)⟩, gT_in 505 (by decide +kernel) (by decide +kernel), gT_in 506 (by decide +kernel) (by decide +kernel)⟩
theorem iX4_commonPoints : gInfV mX4_commonPoints 1 := ⟨⟨gT_in 46 (by decide +kernel) (by decide +kernel), gT_in 457 (by decide +kernel) (by decide +kernel), (by decide +kernel), (by decide +kernel), (by decide +kernel)⟩, gT_in 455 (by decide +kernel) (by decide +kernel), gT_in 456 (by decide +kernel) (by decide +kernel)⟩
theorem iX4_meets : gInfV mX4_meets 1 := ⟨⟨gT_in 46 (by decide +kernel) (by decide +kernel), gT_in 383 (by decide +kernel) (by decide +kernel), (by decide +kernel), (by decide +kernel), (by decide +kernel)⟩, gT_in 381 (by decide +kernel) (by decide +kernel), gT_in 382 (by decide +kernel) (by decide +kernel)⟩
theorem iX4_clashesWith : gInfV mX4_clashesWith 1 := ⟨⟨gT_in 46 (by decide +kernel) (by decide +kernel), gT_in 379 (by decide +kernel) (by decide +kernel), (by decide +kernel), (by decide +kernel), (by decide +kernel)⟩, gT_in 377 (by decide +kernel) (by decide +kernel), gT_in 378 (by decide +kernel) (by decide +kernel)⟩
theorem iX5_init : gInf mX5_init 0 ∧ Cond.instanceMethod yX5_init ∈ gT := ⟨⟨gT_in 44 (by decide +kernel) (by decide +kernel), gT_in 69 (by decide +kernel) (by decide +kernel), (by decide +kernel), (by decide +kernel), (by decide +kernel)⟩, gT_in 68 (by decide +kernel) (by decide +kernel)⟩
theorem iX5_readInto : gInfV mX5_readInto 3 := ⟨⟨gT_in 44 (by decide +kernel) (by decide +kernel), gT_in 260 (by decide +kernel) (by decide +kernel), (by decide +kernel), (by decide +kernel), (by decide +kernel)⟩, gT_in 258 (by decide +kernel) (by decide +kernel), gT_in 259 (by decide +kernel) (by decide +kernel)⟩
theorem iX5_readItem : gInfV mX5_readItem 4 := ⟨⟨gT_in 44 (by decide +kernel) (by decide +kernel), gT_in 268 (by decide +kernel) (by decide +kernel), (by decide +kernel), (by decide +kernel), (by decide +kernel)⟩, gT_in 267 (by decide +kernel) (by decide +kernel), gT_in 1 (by decide +kernel) (by decide +kernel)⟩
theorem iX5_readNumbers : gInfV mX5_readNumbers 3 := ⟨⟨gT_in 44 (by decide +kernel) (by decide +kernel), gT_in 272 (by decide +kernel) (by decide +kernel), (by decide +kernel), (by decide +kernel), (by decide +kernel)⟩, gT_in 271 (by decide +kernel) (by decide +kernel), gT_in 2 (by decide +kernel) (by decide +kernel)⟩
theorem iX6_init : gInf mX6_init 0 ∧ Cond.instanceMethod yX6_init ∈ gT := ⟨⟨gT_in 43 (by decide +kernel) (by decide +kernel), gT_in 61 (by decide +kernel) (by decide +kernel), (by decide +kernel), (by decide +kernel), (by decide +kernel)⟩, gT_in 60 (by decide +kernel) (by decide +kernel)⟩
theorem iX6_write : gInfV mX6_write 1 := ⟨⟨gT_in 43 (by decide +kernel) (by decide +kernel), gT_in 327 (by decide +kernel) (by decide +kernel), (by decide +kernel), (by decide +kernel), (by decide +kernel)⟩, gT_in 325 (by decide +kernel) (by decide +kernel), gT_in 326 (by decide +kernel) (by decide +kernel)⟩
theorem iX6_wipe : gInfV mX6_wipe 0 := ⟨⟨gT_in 43 (by decide +kernel) (by decide +kernel), gT_in 331 (by decide +kernel) (by decide +kernel), (by decide +kernel), (by decide +kernel), (by decide +kernel)⟩, gT_in 329 (by decide +kernel) (by decide +kernel), gT_in 330 (by decide +kernel) (by decide +kernel)⟩
theorem iX6_fault : gInfV mX6_fault 0 := ⟨⟨gT_in 43 (by decide +kernel) (by decide +kernel), gT_in 335 (by decide +kernel) (by decide +kernel), (by decide +kernel), (by decide +kernel), (by decide +kernel)⟩, gT_in 333 (by decide +kernel) (by decide +kernel), gT_in 334 (by decide +kernel) (by decide +kernel)⟩
theorem iX6_lay : gInfV mX6_lay 0 := ⟨⟨gT_in 43 (by decide +kernel) (by decide +kernel), gT_in 339 (by decide +kernel) (by decide +kernel), (by decide +kernel), (by decide +kernel), (by decide +kernel)⟩, gT_in 337 (by decide +kernel) (by decide +kernel), gT_in 338 (by decide +kernel) (by decide +kernel)⟩
theorem iX6_layText : gInfV mX6_layText 0 := ⟨⟨gT_in 43 (by decide +kernel) (by decide +kernel), gT_in 256 (by decide +kernel) (by decide +kernel), (by decide +kernel), (by decide +kernel), (by decide +kernel)⟩, gT_in 255 (by decide +kernel) (by decide +kernel), gT_in 0 (by decide +kernel) (by decide +kernel)⟩
theorem iX6_sign : gInfV mX6_sign 1 := ⟨⟨gT_in 43 (by decide +kernel) (by decide +kernel), gT_in 343 (by decide +kernel) (by decide +kernel), (by decide +kernel), (by decide +kernel), (by decide +kernel)⟩, gT_in 341 (by decide +kernel) (by decide +kernel), gT_in 342 (by decide +kernel) (by decide +kernel)⟩
theorem iX6_why : gInfV mX6_why 1 := ⟨⟨gT_in 43 (by decide +kernel) (by decide +kernel), gT_in 419 (by decide +kernel) (by decide +kernel), (by decide +kernel), (by decide +kernel), (by decide +kernel)⟩, gT_in 417 (by decide +kernel) (by decide +kernel), gT_in 418 (by decide +kernel) (by decide +kernel)⟩
theorem iX6_clash : gInfV mX6_clash 1 := ⟨⟨gT_in 43 (by decide +kernel) (by decide +kernel), gT_in 423 (by decide +kernel) (by decide +kernel), (by decide +kernel), (by decide +kernel), (by decide +kernel)⟩, gT_in 421 (by decide +kernel) (by decide +kernel), gT_in 422 (by decide +kernel) (by decide +kernel)⟩
theorem iX6_drop : gInfV mX6_drop 1 := ⟨⟨gT_in 43 (by decide +kernel) (by decide +kernel), gT_in 427 (by decide +kernel) (by decide +kernel), (by decide +kernel), (by decide +kernel), (by decide +kernel)⟩, gT_in 425 (by decide +kernel) (by decide +kernel), gT_in 426 (by decide +kernel) (by decide +kernel)⟩
theorem iX6_move : gInfV mX6_move 2 := ⟨⟨gT_in 43 (by decide +kernel) (by decide +kernel), gT_in 431 (by decide +kernel) (by decide +kernel), (by decide +kernel), (by decide +kernel), (by decide +kernel)⟩, gT_in 429 (by decide +kernel) (by decide +kernel), gT_in 430 (by decide +kernel) (by decide +kernel)⟩
theorem iX6_soonest : gInfV mX6_soonest 1 := ⟨⟨gT_in 43 (by decide +kernel) (by decide +kernel), gT_in 439 (by decide +kernel) (by decide +kernel), (by decide +kernel), (by decide +kernel), (by decide +kernel)⟩, gT_in 437 (by decide +kernel) (by decide +kernel), gT_in 438 (by decide +kernel) (by decide +kernel)⟩
theorem iX6_undo : gInfV mX6_undo 0 := ⟨⟨gT_in 43 (by decide +kernel) (by decide +kernel), gT_in 443 (by decide +kernel) (by decide +kernel), (by decide +kernel), (by decide +kernel), (by decide +kernel)⟩, gT_in 441 (by decide +kernel) (by decide +kernel), gT_in 442 (by decide +kernel) (by decide +kernel)⟩
theorem iX6_isOffer : gInfV mX6_isOffer 1 := ⟨⟨gT_in 43 (by decide +kernel) (by decide +kernel), gT_in 347 (by decide +kernel) (by decide +kernel), (by decide +kernel), (by decide +kernel), (by decide +kernel)⟩, gT_in 346 (by decide +kernel) (by decide +kernel), gT_in 3 (by decide +kernel) (by decide +kernel)⟩
theorem iX6_isSigned : gInfV mX6_isSigned 1 := ⟨⟨gT_in 43 (by decide +kernel) (by decide +kernel), gT_in 355 (by decide +kernel) (by decide +kernel), (by decide +kernel), (by decide +kernel), (by decide +kernel)⟩, gT_in 354 (by decide +kernel) (by decide +kernel), gT_in 5 (by decide +kernel) (by decide +kernel)⟩
theorem iX6_whatSpeaksAgainst : gInfV mX6_whatSpeaksAgainst 1 := ⟨⟨gT_in 43 (by decide +kernel) (by decide +kernel), gT_in 351 (by decide +kernel) (by decide +kernel), (by decide +kernel), (by decide +kernel), (by decide +kernel)⟩, gT_in 350 (by decide +kernel) (by decide +kernel), gT_in 4 (by decide +kernel) (by decide +kernel)⟩
theorem iX6_remember : gInfV mX6_remember 1 := ⟨⟨gT_in 43 (by decide +kernel) (by decide +kernel), gT_in 401 (by decide +kernel) (by decide +kernel), (by decide +kernel), (by decide +kernel), (by decide +kernel)⟩, gT_in 400 (by decide +kernel) (by decide +kernel), gT_in 7 (by decide +kernel) (by decide +kernel)⟩
theorem iX6_offer : gInfV mX6_offer 2 := ⟨⟨gT_in 43 (by decide +kernel) (by decide +kernel), gT_in 451 (by decide +kernel) (by decide +kernel), (by decide +kernel), (by decide +kernel), (by decide +kernel)⟩, gT_in 449 (by decide +kernel) (by decide +kernel), gT_in 450 (by decide +kernel) (by decide +kernel)⟩
theorem iX6_common : gInfV mX6_common 2 := ⟨⟨gT_in 43 (by decide +kernel) (by decide +kernel), gT_in 475 (by decide +kernel) (by decide +kernel), (by decide +kernel), (by decide +kernel), (by decide +kernel)⟩, gT_in 473 (by decide +kernel) (by decide +kernel), gT_in 474 (by decide +kernel) (by decide +kernel)⟩
theorem iX6_begin : gInfV mX6_begin 2 := ⟨⟨gT_in 43 (by decide +kernel) (by decide +kernel), gT_in 479 (by decide +kernel) (by decide +kernel), (by decide +kernel), (by decide +kernel), (by decide +kernel)⟩, gT_in 477 (by decide +kernel) (by decide +kernel), gT_in 478 (by decide +kernel) (by decide +kernel)⟩
theorem iX6_broken : gInfV mX6_broken 1 := ⟨⟨gT_in 43 (by decide +kernel) (by decide +kernel), gT_in 485 (by decide +kernel) (by decide +kernel), (by decide +kernel), (by decide +kernel), (by decide +kernel)⟩, gT_in 483 (by decide +kernel) (by decide +kernel), gT_in 484 (by decide +kernel) (by decide +kernel)⟩
theorem iX6_point : gInfV mX6_point 5 := ⟨⟨gT_in 43 (by decide +kernel) (by decide +kernel), gT_in 493 (by decide +kernel) (by decide +kernel), (by decide +kernel), (by decide +kernel), (by decide +kernel)⟩, gT_in 491 (by decide +kernel) (by decide +kernel), gT_in 492 (by decide +kernel) (by decide +kernel)⟩
theorem iX6_points : gInfV mX6_points 1 := ⟨⟨gT_in 43 (by decide +kernel) (by decide +kernel), gT_in 531 (by decide +kernel) (by decide +kernel), (by decide +kernel), (by decide +kernel), (by decide +kernel)⟩, gT_in 529 (by decide +kernel) (by decide +kernel), gT_in 530 (by decide +kernel) (by decide +kernel)⟩
theorem iX6_window : gInfV mX6_window 5 := ⟨⟨gT_in 43 (by decide +kernel) (by decide +kernel), gT_in 536 (by decide +kernel) (by decide +kernel), (by decide +kernel), (by decide +kernel), (by decide +kernel)⟩, gT_in 534 (by decide +kernel) (by decide +kernel), gT_in 535 (by decide +kernel) (by decide +kernel)⟩
theorem iX6_longest : gInfV mX6_longest 1 := ⟨⟨gT_in 43 (by decide +kernel) (by decide +kernel), gT_in 549 (by decide +kernel) (by decide +kernel), (by decide +kernel), (by decide +kernel), (by decide +kernel)⟩, gT_in 547 (by decide +kernel) (by decide +kernel), gT_in 548 (by decide +kernel) (by decide +kernel)⟩
theorem iX6_howManyHave : gInfV mX6_howManyHave 2 := ⟨⟨gT_in 43 (by decide +kernel) (by decide +kernel), gT_in 503 (by decide +kernel) (by decide +kernel), (by decide +kernel), (by decide +kernel), (by decide +kernel)⟩, gT_in 502 (by decide +kernel) (by decide +kernel), gT_in 9 (by decide +kernel) (by decide +kernel)⟩
theorem iX6_weeksOf : gInfV mX6_weeksOf 2 := ⟨⟨gT_in 43 (by decide +kernel) (by decide +kernel), gT_in 525 (by decide +kernel) (by decide +kernel), (by decide +kernel), (by decide +kernel), (by decide +kernel)⟩, gT_in 524 (by decide +kernel) (by decide +kernel), gT_in 10 (by decide +kernel) (by decide +kernel)⟩
theorem iX6_best : gInfV mX6_best 1 := ⟨⟨gT_in 43 (by decide +kernel) (by decide +kernel), gT_in 559 (by decide +kernel) (by decide +kernel), (by decide +kernel), (by decide +kernel), (by decide +kernel)⟩, gT_in 557 (by decide +kernel) (by decide +kernel), gT_in 558 (by decide +kernel) (by decide +kernel)⟩
theorem iX6_take : gInfV mX6_take 0 := ⟨⟨gT_in 43 (by decide +kernel) (by decide +kernel), gT_in 584 (by decide +kernel) (by decide +kernel), (by decide +kernel), (by decide +kernel), (by decide +kernel)⟩, gT_in 582 (by decide +kernel) (by decide +kernel), gT_in 583 (by decide +kernel) (by decide +kernel)⟩
theorem iX6_count : gInfV mX6_count 1 := ⟨⟨gT_in 43 (by decide +kernel) (by decide +kernel), gT_in 588 (by decide +kernel) (by decide +kernel), (by decide +kernel), (by decide +kernel), (by decide +kernel)⟩, gT_in 586 (by decide +kernel) (by decide +kernel), gT_in 587 (by decide +kernel) (by decide +kernel)⟩
theorem iX6_isBelow : gInfS mX6_isBelow 2 := ⟨⟨gT_in 43 (by decide +kernel) (by decide +kernel), gT_in 292 (by decide +kernel) (by decide +kernel), (by decide +kernel), (by decide +kernel), (by decide +kernel)⟩, gT_in 291 (by decide +kernel) (by decide +kernel)⟩
theorem iX6_isCell : gInfS mX6_isCell 3 := ⟨⟨gT_in 43 (by decide +kernel) (by decide +kernel), gT_in 496 (by decide +kernel) (by decide +kernel), (by decide +kernel), (by decide +kernel), (by decide +kernel)⟩, gT_in 495 (by decide +kernel) (by decide +kernel)⟩
theorem iX6_cellOf : gInfS mX6_cellOf 3 := ⟨⟨gT_in 43 (by decide +kernel) (by decide +kernel), gT_in 499 (by decide +kernel) (by decide +kernel), (by decide +kernel), (by decide +kernel), (by decide +kernel)⟩, gT_in 498 (by decide +kernel) (by decide +kernel)⟩
theorem iX6_landOf : gInfS mX6_landOf 1 := ⟨⟨gT_in 43 (by decide +kernel) (by decide +kernel), gT_in 510 (by decide +kernel) (by decide +kernel), (by decide +kernel), (by decide +kernel), (by decide +kernel)⟩, gT_in 509 (by decide +kernel) (by decide +kernel)⟩
theorem iX6_tongueOf : gInfS mX6_tongueOf 1 := ⟨⟨gT_in 43 (by decide +kernel) (by decide +kernel), gT_in 514 (by decide +kernel) (by decide +kernel), (by decide +kernel), (by decide +kernel), (by decide +kernel)⟩, gT_in 513 (by decide +kernel) (by decide +kernel)⟩
theorem iX6_meansOf : gInfS mX6_meansOf 1 := ⟨⟨gT_in 43 (by decide +kernel) (by decide +kernel), gT_in 517 (by decide +kernel) (by decide +kernel), (by decide +kernel), (by decide +kernel), (by decide +kernel)⟩, gT_in 516 (by decide +kernel) (by decide +kernel)⟩
theorem iX6_has : gInfS mX6_has 2 := ⟨⟨gT_in 43 (by decide +kernel) (by decide +kernel), gT_in 358 (by decide +kernel) (by decide +kernel), (by decide +kernel), (by decide +kernel), (by decide +kernel)⟩, gT_in 357 (by decide +kernel) (by decide +kernel)⟩
theorem iX6_isSetBelow : gInfS mX6_isSetBelow 2 := ⟨⟨gT_in 43 (by decide +kernel) (by decide +kernel), gT_in 289 (by decide +kernel) (by decide +kernel), (by decide +kernel), (by decide +kernel), (by decide +kernel)⟩, gT_in 288 (by decide +kernel) (by decide +kernel)⟩
theorem iX6_hasWeek : gInfS mX6_hasWeek 2 := ⟨⟨gT_in 43 (by decide +kernel) (by decide +kernel), gT_in 521 (by decide +kernel) (by decide +kernel), (by decide +kernel), (by decide +kernel), (by decide +kernel)⟩, gT_in 520 (by decide +kernel) (by decide +kernel)⟩
theorem iX6_weeksFromTo : gInfS mX6_weeksFromTo 2 := ⟨⟨gT_in 43 (by decide +kernel) (by decide +kernel), gT_in 465 (by decide +kernel) (by decide +kernel), (by decide +kernel), (by decide +kernel), (by decide +kernel)⟩, gT_in 464 (by decide +kernel) (by decide +kernel)⟩
theorem iX6_windowStarts : gInfS mX6_windowStarts 1 := ⟨⟨gT_in 43 (by decide +kernel) (by decide +kernel), gT_in 539 (by decide +kernel) (by decide +kernel), (by decide +kernel), (by decide +kernel), (by decide +kernel)⟩, gT_in 538 (by decide +kernel) (by decide +kernel)⟩
theorem iX6_kthWeek : gInfS mX6_kthWeek 2 := ⟨⟨gT_in 43 (by decide +kernel) (by decide +kernel), gT_in 542 (by decide +kernel) (by decide +kernel), (by decide +kernel), (by decide +kernel), (by decide +kernel)⟩, gT_in 541 (by decide +kernel) (by decide +kernel)⟩
theorem iX6_windowLength : gInfS mX6_windowLength 2 := ⟨⟨gT_in 43 (by decide +kernel) (by decide +kernel), gT_in 545 (by decide +kernel) (by decide +kernel), (by decide +kernel), (by decide +kernel), (by decide +kernel)⟩, gT_in 544 (by decide +kernel) (by decide +kernel)⟩
theorem iX6_longestStart : gInfS mX6_longestStart 1 := ⟨⟨gT_in 43 (by decide +kernel) (by decide +kernel), gT_in 552 (by decide +kernel) (by decide +kernel), (by decide +kernel), (by decide +kernel), (by decide +kernel)⟩, gT_in 551 (by decide +kernel) (by decide +kernel)⟩
theorem iX7_init : gInf mX7_init 0 ∧ Cond.instanceMethod yX7_init ∈ gT := ⟨⟨gT_in 54 (by decide +kernel) (by decide +kernel), gT_in 597 (by decide +kernel) (by decide +kernel), (by decide +kernel), (by decide +kernel), (by decide +kernel)⟩, gT_in 596 (by decide +kernel) (by decide +kernel)⟩
theorem iX7_in : gInfS mX7_in 3 := ⟨⟨gT_in 54 (by decide +kernel) (by decide +kernel), gT_in 688 (by decide +kernel) (by decide +kernel), (by decide +kernel), (by decide +kernel), (by decide +kernel)⟩, gT_in 687 (by decide +kernel) (by decide +kernel)⟩
theorem iX7_beginRead : gInfV mX7_beginRead 0 := ⟨⟨gT_in 54 (by decide +kernel) (by decide +kernel), gT_in 602 (by decide +kernel) (by decide +kernel), (by decide +kernel), (by decide +kernel), (by decide +kernel)⟩, gT_in 601 (by decide +kernel) (by decide +kernel), gT_in 13 (by decide +kernel) (by decide +kernel)⟩
theorem iX7_putOffer : gInfV mX7_putOffer 7 := ⟨⟨gT_in 54 (by decide +kernel) (by decide +kernel), gT_in 606 (by decide +kernel) (by decide +kernel), (by decide +kernel), (by decide +kernel), (by decide +kernel)⟩, gT_in 605 (by decide +kernel) (by decide +kernel), gT_in 14 (by decide +kernel) (by decide +kernel)⟩
theorem iX7_putHold : gInfV mX7_putHold 3 := ⟨⟨gT_in 54 (by decide +kernel) (by decide +kernel), gT_in 610 (by decide +kernel) (by decide +kernel), (by decide +kernel), (by decide +kernel), (by decide +kernel)⟩, gT_in 609 (by decide +kernel) (by decide +kernel), gT_in 15 (by decide +kernel) (by decide +kernel)⟩
theorem iX7_takeRead : gInfV mX7_takeRead 0 := ⟨⟨gT_in 54 (by decide +kernel) (by decide +kernel), gT_in 614 (by decide +kernel) (by decide +kernel), (by decide +kernel), (by decide +kernel), (by decide +kernel)⟩, gT_in 613 (by decide +kernel) (by decide +kernel), gT_in 16 (by decide +kernel) (by decide +kernel)⟩
theorem iX7_isFigure : gInfV mX7_isFigure 0 := ⟨⟨gT_in 54 (by decide +kernel) (by decide +kernel), gT_in 712 (by decide +kernel) (by decide +kernel), (by decide +kernel), (by decide +kernel), (by decide +kernel)⟩, gT_in 711 (by decide +kernel) (by decide +kernel), gT_in 20 (by decide +kernel) (by decide +kernel)⟩
theorem iX7_readNumbers : gInfV mX7_readNumbers 1 := ⟨⟨gT_in 54 (by decide +kernel) (by decide +kernel), gT_in 708 (by decide +kernel) (by decide +kernel), (by decide +kernel), (by decide +kernel), (by decide +kernel)⟩, gT_in 707 (by decide +kernel) (by decide +kernel), gT_in 19 (by decide +kernel) (by decide +kernel)⟩
theorem iX7_readTerm : gInfV mX7_readTerm 0 := ⟨⟨gT_in 54 (by decide +kernel) (by decide +kernel), gT_in 704 (by decide +kernel) (by decide +kernel), (by decide +kernel), (by decide +kernel), (by decide +kernel)⟩, gT_in 703 (by decide +kernel) (by decide +kernel), gT_in 18 (by decide +kernel) (by decide +kernel)⟩
theorem iX7_readOffer : gInfV mX7_readOffer 0 := ⟨⟨gT_in 54 (by decide +kernel) (by decide +kernel), gT_in 716 (by decide +kernel) (by decide +kernel), (by decide +kernel), (by decide +kernel), (by decide +kernel)⟩, gT_in 715 (by decide +kernel) (by decide +kernel), gT_in 21 (by decide +kernel) (by decide +kernel)⟩
theorem iX7_readHold : gInfV mX7_readHold 0 := ⟨⟨gT_in 54 (by decide +kernel) (by decide +kernel), gT_in 720 (by decide +kernel) (by decide +kernel), (by decide +kernel), (by decide +kernel), (by decide +kernel)⟩, gT_in 719 (by decide +kernel) (by decide +kernel), gT_in 22 (by decide +kernel) (by decide +kernel)⟩
theorem iX7_readText : gInfV mX7_readText 0 := ⟨⟨gT_in 54 (by decide +kernel) (by decide +kernel), gT_in 700 (by decide +kernel) (by decide +kernel), (by decide +kernel), (by decide +kernel), (by decide +kernel)⟩, gT_in 699 (by decide +kernel) (by decide +kernel), gT_in 17 (by decide +kernel) (by decide +kernel)⟩
theorem iX7_write : gInfV mX7_write 1 := ⟨⟨gT_in 54 (by decide +kernel) (by decide +kernel), gT_in 685 (by decide +kernel) (by decide +kernel), (by decide +kernel), (by decide +kernel), (by decide +kernel)⟩, gT_in 683 (by decide +kernel) (by decide +kernel), gT_in 684 (by decide +kernel) (by decide +kernel)⟩
theorem iX7_wipe : gInfV mX7_wipe 0 := ⟨⟨gT_in 54 (by decide +kernel) (by decide +kernel), gT_in 692 (by decide +kernel) (by decide +kernel), (by decide +kernel), (by decide +kernel), (by decide +kernel)⟩, gT_in 690 (by decide +kernel) (by decide +kernel), gT_in 691 (by decide +kernel) (by decide +kernel)⟩
theorem iX7_fault : gInfV mX7_fault 0 := ⟨⟨gT_in 54 (by decide +kernel) (by decide +kernel), gT_in 696 (by decide +kernel) (by decide +kernel), (by decide +kernel), (by decide +kernel), (by decide +kernel)⟩, gT_in 694 (by decide +kernel) (by decide +kernel), gT_in 695 (by decide +kernel) (by decide +kernel)⟩
theorem iX7_lay : gInfV mX7_lay 0 := ⟨⟨gT_in 54 (by decide +kernel) (by decide +kernel), gT_in 724 (by decide +kernel) (by decide +kernel), (by decide +kernel), (by decide +kernel), (by decide +kernel)⟩, gT_in 722 (by decide +kernel) (by decide +kernel), gT_in 723 (by decide +kernel) (by decide +kernel)⟩
theorem iX7_isOffer : gInfV mX7_isOffer 1 := ⟨⟨gT_in 54 (by decide +kernel) (by decide +kernel), gT_in 736 (by decide +kernel) (by decide +kernel), (by decide +kernel), (by decide +kernel), (by decide +kernel)⟩, gT_in 735 (by decide +kernel) (by decide +kernel), gT_in 23 (by decide +kernel) (by decide +kernel)⟩
theorem iX7_of : gInfV mX7_of 2 := ⟨⟨gT_in 54 (by decide +kernel) (by decide +kernel), gT_in 752 (by decide +kernel) (by decide +kernel), (by decide +kernel), (by decide +kernel), (by decide +kernel)⟩, gT_in 751 (by decide +kernel) (by decide +kernel), gT_in 27 (by decide +kernel) (by decide +kernel)⟩
theorem iX7_isSigned : gInfV mX7_isSigned 1 := ⟨⟨gT_in 54 (by decide +kernel) (by decide +kernel), gT_in 744 (by decide +kernel) (by decide +kernel), (by decide +kernel), (by decide +kernel), (by decide +kernel)⟩, gT_in 743 (by decide +kernel) (by decide +kernel), gT_in 25 (by decide +kernel) (by decide +kernel)⟩
theorem iX7_ones : gInfS mX7_ones 1 := ⟨⟨gT_in 54 (by decide +kernel) (by decide +kernel), gT_in 767 (by decide +kernel) (by decide +kernel), (by decide +kernel), (by decide +kernel), (by decide +kernel)⟩, gT_in 766 (by decide +kernel) (by decide +kernel)⟩
theorem iX7_commonOf : gInfV mX7_commonOf 2 := ⟨⟨gT_in 54 (by decide +kernel) (by decide +kernel), gT_in 764 (by decide +kernel) (by decide +kernel), (by decide +kernel), (by decide +kernel), (by decide +kernel)⟩, gT_in 763 (by decide +kernel) (by decide +kernel), gT_in 30 (by decide +kernel) (by decide +kernel)⟩
theorem iX7_doClash : gInfV mX7_doClash 2 := ⟨⟨gT_in 54 (by decide +kernel) (by decide +kernel), gT_in 760 (by decide +kernel) (by decide +kernel), (by decide +kernel), (by decide +kernel), (by decide +kernel)⟩, gT_in 759 (by decide +kernel) (by decide +kernel), gT_in 29 (by decide +kernel) (by decide +kernel)⟩
theorem iX7_isOfTerm : gInfV mX7_isOfTerm 1 := ⟨⟨gT_in 54 (by decide +kernel) (by decide +kernel), gT_in 748 (by decide +kernel) (by decide +kernel), (by decide +kernel), (by decide +kernel), (by decide +kernel)⟩, gT_in 747 (by decide +kernel) (by decide +kernel), gT_in 26 (by decide +kernel) (by decide +kernel)⟩
theorem iX7_beginOf : gInfV mX7_beginOf 3 := ⟨⟨gT_in 54 (by decide +kernel) (by decide +kernel), gT_in 779 (by decide +kernel) (by decide +kernel), (by decide +kernel), (by decide +kernel), (by decide +kernel)⟩, gT_in 778 (by decide +kernel) (by decide +kernel), gT_in 33 (by decide +kernel) (by decide +kernel)⟩
theorem iX7_brokenBy : gInfV mX7_brokenBy 2 := ⟨⟨gT_in 54 (by decide +kernel) (by decide +kernel), gT_in 775 (by decide +kernel) (by decide +kernel), (by decide +kernel), (by decide +kernel), (by decide +kernel)⟩, gT_in 774 (by decide +kernel) (by decide +kernel), gT_in 32 (by decide +kernel) (by decide +kernel)⟩
theorem iX7_areKept : gInfV mX7_areKept 1 := ⟨⟨gT_in 54 (by decide +kernel) (by decide +kernel), gT_in 771 (by decide +kernel) (by decide +kernel), (by decide +kernel), (by decide +kernel), (by decide +kernel)⟩, gT_in 770 (by decide +kernel) (by decide +kernel), gT_in 31 (by decide +kernel) (by decide +kernel)⟩
theorem iX7_clashOf : gInfV mX7_clashOf 1 := ⟨⟨gT_in 54 (by decide +kernel) (by decide +kernel), gT_in 756 (by decide +kernel) (by decide +kernel), (by decide +kernel), (by decide +kernel), (by decide +kernel)⟩, gT_in 755 (by decide +kernel) (by decide +kernel), gT_in 28 (by decide +kernel) (by decide +kernel)⟩
theorem iX7_whyOf : gInfV mX7_whyOf 1 := ⟨⟨gT_in 54 (by decide +kernel) (by decide +kernel), gT_in 740 (by decide +kernel) (by decide +kernel), (by decide +kernel), (by decide +kernel), (by decide +kernel)⟩, gT_in 739 (by decide +kernel) (by decide +kernel), gT_in 24 (by decide +kernel) (by decide +kernel)⟩
theorem iX7_note : gInfV mX7_note 0 := ⟨⟨gT_in 54 (by decide +kernel) (by decide +kernel), gT_in 783 (by decide +kernel) (by decide +kernel), (by decide +kernel), (by decide +kernel), (by decide +kernel)⟩, gT_in 782 (by decide +kernel) (by decide +kernel), gT_in 34 (by decide +kernel) (by decide +kernel)⟩
theorem iX7_undo : gInfV mX7_undo 0 := ⟨⟨gT_in 54 (by decide +kernel) (by decide +kernel), gT_in 728 (by decide +kernel) (by decide +kernel), (by decide +kernel), (by decide +kernel), (by decide +kernel)⟩, gT_in 726 (by decide +kernel) (by decide +kernel), gT_in 727 (by decide +kernel) (by decide +kernel)⟩
theorem iX7_sign : gInfV mX7_sign 1 := ⟨⟨gT_in 54 (by decide +kernel) (by decide +kernel), gT_in 732 (by decide +kernel) (by decide +kernel), (by decide +kernel), (by decide +kernel), (by decide +kernel)⟩, gT_in 730 (by decide +kernel) (by decide +kernel), gT_in 731 (by decide +kernel) (by decide +kernel)⟩
theorem iX7_why : gInfV mX7_why 1 := ⟨⟨gT_in 54 (by decide +kernel) (by decide +kernel), gT_in 787 (by decide +kernel) (by decide +kernel), (by decide +kernel), (by decide +kernel), (by decide +kernel)⟩, gT_in 785 (by decide +kernel) (by decide +kernel), gT_in 786 (by decide +kernel) (by decide +kernel)⟩
theorem iX7_clash : gInfV mX7_clash 1 := ⟨⟨gT_in 54 (by decide +kernel) (by decide +kernel), gT_in 791 (by decide +kernel) (by decide +kernel), (by decide +kernel), (by decide +kernel), (by decide +kernel)⟩, gT_in 789 (by decide +kernel) (by decide +kernel), gT_in 790 (by decide +kernel) (by decide +kernel)⟩
theorem iX7_drop : gInfV mX7_drop 1 := ⟨⟨gT_in 54 (by decide +kernel) (by decide +kernel), gT_in 795 (by decide +kernel) (by decide +kernel), (by decide +kernel), (by decide +kernel), (by decide +kernel)⟩, gT_in 793 (by decide +kernel) (by decide +kernel), gT_in 794 (by decide +kernel) (by decide +kernel)⟩
theorem iX7_move : gInfV mX7_move 2 := ⟨⟨gT_in 54 (by decide +kernel) (by decide +kernel), gT_in 799 (by decide +kernel) (by decide +kernel), (by decide +kernel), (by decide +kernel), (by decide +kernel)⟩, gT_in 797 (by decide +kernel) (by decide +kernel), gT_in 798 (by decide +kernel) (by decide +kernel)⟩
theorem iX7_soonest : gInfV mX7_soonest 1 := ⟨⟨gT_in 54 (by decide +kernel) (by decide +kernel), gT_in 803 (by decide +kernel) (by decide +kernel), (by decide +kernel), (by decide +kernel), (by decide +kernel)⟩, gT_in 801 (by decide +kernel) (by decide +kernel), gT_in 802 (by decide +kernel) (by decide +kernel)⟩
theorem iX7_offer : gInfV mX7_offer 2 := ⟨⟨gT_in 54 (by decide +kernel) (by decide +kernel), gT_in 807 (by decide +kernel) (by decide +kernel), (by decide +kernel), (by decide +kernel), (by decide +kernel)⟩, gT_in 805 (by decide +kernel) (by decide +kernel), gT_in 806 (by decide +kernel) (by decide +kernel)⟩
theorem iX7_common : gInfV mX7_common 2 := ⟨⟨gT_in 54 (by decide +kernel) (by decide +kernel), gT_in 811 (by decide +kernel) (by decide +kernel), (by decide +kernel), (by decide +kernel), (by decide +kernel)⟩, gT_in 809 (by decide +kernel) (by decide +kernel), gT_in 810 (by decide +kernel) (by decide +kernel)⟩
theorem iX7_begin : gInfV mX7_begin 2 := ⟨⟨gT_in 54 (by decide +kernel) (by decide +kernel), gT_in 815 (by decide +kernel) (by decide +kernel), (by decide +kernel), (by decide +kernel), (by decide +kernel)⟩, gT_in 813 (by decide +kernel) (by decide +kernel), gT_in 814 (by decide +kernel) (by decide +kernel)⟩
theorem iX7_broken : gInfV mX7_broken 1 := ⟨⟨gT_in 54 (by decide +kernel) (by decide +kernel), gT_in 819 (by decide +kernel) (by decide +kernel), (by decide +kernel), (by decide +kernel), (by decide +kernel)⟩, gT_in 817 (by decide +kernel) (by decide +kernel), gT_in 818 (by decide +kernel) (by decide +kernel)⟩
theorem iX7_has : gInfV mX7_has 3 := ⟨⟨gT_in 54 (by decide +kernel) (by decide +kernel), gT_in 834 (by decide +kernel) (by decide +kernel), (by decide +kernel), (by decide +kernel), (by decide +kernel)⟩, gT_in 833 (by decide +kernel) (by decide +kernel), gT_in 36 (by decide +kernel) (by decide +kernel)⟩
theorem iX7_soldAt : gInfV mX7_soldAt 2 := ⟨⟨gT_in 54 (by decide +kernel) (by decide +kernel), gT_in 830 (by decide +kernel) (by decide +kernel), (by decide +kernel), (by decide +kernel), (by decide +kernel)⟩, gT_in 829 (by decide +kernel) (by decide +kernel), gT_in 35 (by decide +kernel) (by decide +kernel)⟩
theorem iX7_isAloneAt : gInfV mX7_isAloneAt 2 := ⟨⟨gT_in 54 (by decide +kernel) (by decide +kernel), gT_in 838 (by decide +kernel) (by decide +kernel), (by decide +kernel), (by decide +kernel), (by decide +kernel)⟩, gT_in 837 (by decide +kernel) (by decide +kernel), gT_in 37 (by decide +kernel) (by decide +kernel)⟩
theorem iX7_isRow : gInfS mX7_isRow 3 := ⟨⟨gT_in 54 (by decide +kernel) (by decide +kernel), gT_in 826 (by decide +kernel) (by decide +kernel), (by decide +kernel), (by decide +kernel), (by decide +kernel)⟩, gT_in 825 (by decide +kernel) (by decide +kernel)⟩
theorem iX7_point : gInfV mX7_point 5 := ⟨⟨gT_in 54 (by decide +kernel) (by decide +kernel), gT_in 823 (by decide +kernel) (by decide +kernel), (by decide +kernel), (by decide +kernel), (by decide +kernel)⟩, gT_in 821 (by decide +kernel) (by decide +kernel), gT_in 822 (by decide +kernel) (by decide +kernel)⟩
theorem iX7_points : gInfV mX7_points 1 := ⟨⟨gT_in 54 (by decide +kernel) (by decide +kernel), gT_in 842 (by decide +kernel) (by decide +kernel), (by decide +kernel), (by decide +kernel), (by decide +kernel)⟩, gT_in 840 (by decide +kernel) (by decide +kernel), gT_in 841 (by decide +kernel) (by decide +kernel)⟩
theorem iX7_findWindow : gInfV mX7_findWindow 2 := ⟨⟨gT_in 54 (by decide +kernel) (by decide +kernel), gT_in 850 (by decide +kernel) (by decide +kernel), (by decide +kernel), (by decide +kernel), (by decide +kernel)⟩, gT_in 849 (by decide +kernel) (by decide +kernel), gT_in 38 (by decide +kernel) (by decide +kernel)⟩
theorem iX7_window : gInfV mX7_window 5 := ⟨⟨gT_in 54 (by decide +kernel) (by decide +kernel), gT_in 846 (by decide +kernel) (by decide +kernel), (by decide +kernel), (by decide +kernel), (by decide +kernel)⟩, gT_in 844 (by decide +kernel) (by decide +kernel), gT_in 845 (by decide +kernel) (by decide +kernel)⟩
theorem iX7_longest : gInfV mX7_longest 1 := ⟨⟨gT_in 54 (by decide +kernel) (by decide +kernel), gT_in 854 (by decide +kernel) (by decide +kernel), (by decide +kernel), (by decide +kernel), (by decide +kernel)⟩, gT_in 852 (by decide +kernel) (by decide +kernel), gT_in 853 (by decide +kernel) (by decide +kernel)⟩
theorem iX7_isGood : gInfV mX7_isGood 1 := ⟨⟨gT_in 54 (by decide +kernel) (by decide +kernel), gT_in 870 (by decide +kernel) (by decide +kernel), (by decide +kernel), (by decide +kernel), (by decide +kernel)⟩, gT_in 869 (by decide +kernel) (by decide +kernel), gT_in 41 (by decide +kernel) (by decide +kernel)⟩
theorem iX7_pricesOf : gInfV mX7_pricesOf 1 := ⟨⟨gT_in 54 (by decide +kernel) (by decide +kernel), gT_in 866 (by decide +kernel) (by decide +kernel), (by decide +kernel), (by decide +kernel), (by decide +kernel)⟩, gT_in 865 (by decide +kernel) (by decide +kernel), gT_in 40 (by decide +kernel) (by decide +kernel)⟩
theorem iX7_findBest : gInfV mX7_findBest 0 := ⟨⟨gT_in 54 (by decide +kernel) (by decide +kernel), gT_in 862 (by decide +kernel) (by decide +kernel), (by decide +kernel), (by decide +kernel), (by decide +kernel)⟩, gT_in 861 (by decide +kernel) (by decide +kernel), gT_in 39 (by decide +kernel) (by decide +kernel)⟩
theorem iX7_best : gInfV mX7_best 1 := ⟨⟨gT_in 54 (by decide +kernel) (by decide +kernel), gT_in 858 (by decide +kernel) (by decide +kernel), (by decide +kernel), (by decide +kernel), (by decide +kernel)⟩, gT_in 856 (by decide +kernel) (by decide +kernel), gT_in 857 (by decide +kernel) (by decide +kernel)⟩
theorem iX7_take : gInfV mX7_take 0 := ⟨⟨gT_in 54 (by decide +kernel) (by decide +kernel), gT_in 874 (by decide +kernel) (by decide +kernel), (by decide +kernel), (by decide +kernel), (by decide +kernel)⟩, gT_in 872 (by decide +kernel) (by decide +kernel), gT_in 873 (by decide +kernel) (by decide +kernel)⟩
theorem iX7_count : gInfV mX7_count 1 := ⟨⟨gT_in 54 (by decide +kernel) (by decide +kernel), gT_in 878 (by decide +kernel) (by decide +kernel), (by decide +kernel), (by decide +kernel), (by decide +kernel)⟩, gT_in 876 (by decide +kernel) (by decide +kernel), gT_in 877 (by decide +kernel) (by decide +kernel)⟩
theorem iJ6_bitCount_0f7a4 : gInfS mJ6_bitCount_0f7a4 1 := ⟨⟨gT_in 55 (by decide +kernel) (by decide +kernel), gT_in 412 (by decide +kernel) (by decide +kernel), (by decide +kernel), (by decide +kernel), (by decide +kernel)⟩, gT_in 411 (by decide +kernel) (by decide +kernel)⟩
theorem iJ13_bitCount_95d88 : gInfS mJ13_bitCount_95d88 1 := ⟨⟨gT_in 56 (by decide +kernel) (by decide +kernel), gT_in 468 (by decide +kernel) (by decide +kernel), (by decide +kernel), (by decide +kernel), (by decide +kernel)⟩, gT_in 467 (by decide +kernel) (by decide +kernel)⟩
theorem iJ0_length_8abf5 : gInfV mJ0_length_8abf5 0 := ⟨⟨gT_in 50 (by decide +kernel) (by decide +kernel), gT_in 208 (by decide +kernel) (by decide +kernel), (by decide +kernel), (by decide +kernel), (by decide +kernel)⟩, gT_in 206 (by decide +kernel) (by decide +kernel), gT_in 207 (by decide +kernel) (by decide +kernel)⟩
theorem iJ0_charAt_5068e : gInfV mJ0_charAt_5068e 1 := ⟨⟨gT_in 50 (by decide +kernel) (by decide +kernel), gT_in 218 (by decide +kernel) (by decide +kernel), (by decide +kernel), (by decide +kernel), (by decide +kernel)⟩, gT_in 216 (by decide +kernel) (by decide +kernel), gT_in 217 (by decide +kernel) (by decide +kernel)⟩
theorem iJ0_coder_7d493 : gInfV mJ0_coder_7d493 0 := ⟨⟨gT_in 50 (by decide +kernel) (by decide +kernel), gT_in 212 (by decide +kernel) (by decide +kernel), (by decide +kernel), (by decide +kernel), (by decide +kernel)⟩, gT_in 210 (by decide +kernel) (by decide +kernel), gT_in 211 (by decide +kernel) (by decide +kernel)⟩
theorem iJ0_isLatin1_aae02 : gInfV mJ0_isLatin1_aae02 0 := ⟨⟨gT_in 50 (by decide +kernel) (by decide +kernel), gT_in 222 (by decide +kernel) (by decide +kernel), (by decide +kernel), (by decide +kernel), (by decide +kernel)⟩, gT_in 220 (by decide +kernel) (by decide +kernel), gT_in 221 (by decide +kernel) (by decide +kernel)⟩
theorem iJ0_checkIndex_df160 : gInfS mJ0_checkIndex_df160 2 := ⟨⟨gT_in 50 (by decide +kernel) (by decide +kernel), gT_in 228 (by decide +kernel) (by decide +kernel), (by decide +kernel), (by decide +kernel), (by decide +kernel)⟩, gT_in 227 (by decide +kernel) (by decide +kernel)⟩
theorem iJ1_charAt_3b067 : gInfS mJ1_charAt_3b067 2 := ⟨⟨gT_in 51 (by decide +kernel) (by decide +kernel), gT_in 225 (by decide +kernel) (by decide +kernel), (by decide +kernel), (by decide +kernel), (by decide +kernel)⟩, gT_in 224 (by decide +kernel) (by decide +kernel)⟩
theorem iJ2_getChar_3b067 : gInfS mJ2_getChar_3b067 2 := ⟨⟨gT_in 53 (by decide +kernel) (by decide +kernel), gT_in 246 (by decide +kernel) (by decide +kernel), (by decide +kernel), (by decide +kernel), (by decide +kernel)⟩, gT_in 245 (by decide +kernel) (by decide +kernel)⟩
theorem iJ2_length_9d52b : gInfS mJ2_length_9d52b 1 := ⟨⟨gT_in 53 (by decide +kernel) (by decide +kernel), gT_in 242 (by decide +kernel) (by decide +kernel), (by decide +kernel), (by decide +kernel), (by decide +kernel)⟩, gT_in 241 (by decide +kernel) (by decide +kernel)⟩
theorem iJ2_charAt_3b067 : gInfS mJ2_charAt_3b067 2 := ⟨⟨gT_in 53 (by decide +kernel) (by decide +kernel), gT_in 236 (by decide +kernel) (by decide +kernel), (by decide +kernel), (by decide +kernel), (by decide +kernel)⟩, gT_in 235 (by decide +kernel) (by decide +kernel)⟩
theorem iJ2_checkIndex_2214a : gInfS mJ2_checkIndex_2214a 2 := ⟨⟨gT_in 53 (by decide +kernel) (by decide +kernel), gT_in 239 (by decide +kernel) (by decide +kernel), (by decide +kernel), (by decide +kernel), (by decide +kernel)⟩, gT_in 238 (by decide +kernel) (by decide +kernel)⟩
theorem iJ3_checkIndex_8e157 : gInfS mJ3_checkIndex_8e157 3 := ⟨⟨gT_in 52 (by decide +kernel) (by decide +kernel), gT_in 233 (by decide +kernel) (by decide +kernel), (by decide +kernel), (by decide +kernel), (by decide +kernel)⟩, gT_in 232 (by decide +kernel) (by decide +kernel)⟩
theorem lX6_3 : Cond.methodLink RX6 3 objectInit ∈ gT := gT_in 62 (by decide +kernel) (by decide +kernel)
theorem lX6_15 : Cond.methodLinkNest RX6 15 yX5_init "ShowRights" ∈ gT := gT_in 67 (by decide +kernel) (by decide +kernel)
theorem lX6_22 : Cond.methodLink RX6 22 yX0_init ∈ gT := gT_in 79 (by decide +kernel) (by decide +kernel)
theorem lX6_32 : Cond.methodLink RX6 32 yX2_init ∈ gT := gT_in 172 (by decide +kernel) (by decide +kernel)
theorem lX0_3 : Cond.methodLink RX0 3 objectInit ∈ gT := gT_in 82 (by decide +kernel) (by decide +kernel)
theorem lX0_23 : Cond.methodLinkNest RX0 23 yX4_init "ShowRights" ∈ gT := gT_in 88 (by decide +kernel) (by decide +kernel)
theorem lX0_24 : Cond.methodLinkNest RX0 24 yX3_init "ShowRights" ∈ gT := gT_in 131 (by decide +kernel) (by decide +kernel)
theorem lX1_1 : Cond.methodLink RX1 1 objectInit ∈ gT := gT_in 182 (by decide +kernel) (by decide +kernel)
theorem lX2_3 : Cond.methodLink RX2 3 objectInit ∈ gT := gT_in 175 (by decide +kernel) (by decide +kernel)
theorem lX2_17 : Cond.methodLinkNest RX2 17 yX1_init "ShowRights" ∈ gT := gT_in 179 (by decide +kernel) (by decide +kernel)
theorem lX3_1 : Cond.methodLink RX3 1 objectInit ∈ gT := gT_in 134 (by decide +kernel) (by decide +kernel)
theorem lX4_3 : Cond.methodLink RX4 3 objectInit ∈ gT := gT_in 91 (by decide +kernel) (by decide +kernel)
theorem lX5_3 : Cond.methodLink RX5 3 objectInit ∈ gT := gT_in 70 (by decide +kernel) (by decide +kernel)
theorem lL_9 : Cond.methodLink RL 9 yX6_init ∈ gT := gT_in 59 (by decide +kernel) (by decide +kernel)
theorem lL_12 : Cond.methodLink RL 12 yX7_init ∈ gT := gT_in 595 (by decide +kernel) (by decide +kernel)
theorem lX7_1 : Cond.methodLink RX7 1 objectInit ∈ gT := gT_in 598 (by decide +kernel) (by decide +kernel)
theorem lX6_81 : Cond.methodLink RX6 81 yJ6_bitCount_0f7a4 ∈ gT := gT_in 410 (by decide +kernel) (by decide +kernel)
theorem lX6_119 : Cond.methodLink RX6 119 yX6_has ∈ gT := gT_in 356 (by decide +kernel) (by decide +kernel)
theorem lX6_159 : Cond.methodLink RX6 159 yX6_isBelow ∈ gT := gT_in 480 (by decide +kernel) (by decide +kernel)
theorem lX6_177 : Cond.methodLink RX6 177 yX6_isCell ∈ gT := gT_in 494 (by decide +kernel) (by decide +kernel)
theorem lX6_187 : Cond.methodLink RX6 187 yX6_cellOf ∈ gT := gT_in 497 (by decide +kernel) (by decide +kernel)
theorem lX6_197 : Cond.methodLink RX6 197 yX6_hasWeek ∈ gT := gT_in 519 (by decide +kernel) (by decide +kernel)
theorem lX6_201 : Cond.methodLink RX6 201 yJ13_bitCount_95d88 ∈ gT := gT_in 532 (by decide +kernel) (by decide +kernel)
theorem lX6_206 : Cond.methodLink RX6 206 yX6_windowStarts ∈ gT := gT_in 537 (by decide +kernel) (by decide +kernel)
theorem lX6_210 : Cond.methodLink RX6 210 yX6_kthWeek ∈ gT := gT_in 540 (by decide +kernel) (by decide +kernel)
theorem lX6_214 : Cond.methodLink RX6 214 yX6_windowLength ∈ gT := gT_in 543 (by decide +kernel) (by decide +kernel)
theorem lX6_217 : Cond.methodLink RX6 217 yX6_longestStart ∈ gT := gT_in 550 (by decide +kernel) (by decide +kernel)
theorem lX6_220 : Cond.methodLink RX6 220 yX6_landOf ∈ gT := gT_in 553 (by decide +kernel) (by decide +kernel)
theorem lX6_223 : Cond.methodLink RX6 223 yX6_tongueOf ∈ gT := gT_in 554 (by decide +kernel) (by decide +kernel)
theorem lX6_226 : Cond.methodLink RX6 226 yX6_meansOf ∈ gT := gT_in 555 (by decide +kernel) (by decide +kernel)
theorem lX6_236 : Cond.methodLink RX6 236 yX6_weeksFromTo ∈ gT := gT_in 526 (by decide +kernel) (by decide +kernel)
theorem lX0_38 : Cond.methodLink RX0 38 yX0_isSpan ∈ gT := gT_in 277 (by decide +kernel) (by decide +kernel)
theorem lX0_42 : Cond.methodLink RX0 42 yX0_isOfferTold ∈ gT := gT_in 284 (by decide +kernel) (by decide +kernel)
theorem lX0_71 : Cond.methodLinkNest RX0 71 yX6_isSetBelow "ShowRights" ∈ gT := gT_in 287 (by decide +kernel) (by decide +kernel)
theorem lX0_74 : Cond.methodLinkNest RX0 74 yX6_isBelow "ShowRights" ∈ gT := gT_in 290 (by decide +kernel) (by decide +kernel)
theorem lX0_93 : Cond.methodLinkNest RX0 93 yX6_has "ShowRights" ∈ gT := gT_in 375 (by decide +kernel) (by decide +kernel)
theorem lX0_115 : Cond.methodLink RX0 115 yJ6_bitCount_0f7a4 ∈ gT := gT_in 573 (by decide +kernel) (by decide +kernel)
theorem lX4_28 : Cond.methodLinkNest RX4 28 yX6_weeksFromTo "ShowRights" ∈ gT := gT_in 463 (by decide +kernel) (by decide +kernel)
theorem lX4_35 : Cond.methodLinkNest RX4 35 yX6_landOf "ShowRights" ∈ gT := gT_in 508 (by decide +kernel) (by decide +kernel)
theorem lX4_39 : Cond.methodLinkNest RX4 39 yX6_has "ShowRights" ∈ gT := gT_in 511 (by decide +kernel) (by decide +kernel)
theorem lX4_46 : Cond.methodLinkNest RX4 46 yX6_tongueOf "ShowRights" ∈ gT := gT_in 512 (by decide +kernel) (by decide +kernel)
theorem lX4_52 : Cond.methodLinkNest RX4 52 yX6_meansOf "ShowRights" ∈ gT := gT_in 515 (by decide +kernel) (by decide +kernel)
theorem lX4_55 : Cond.methodLink RX4 55 yJ6_bitCount_0f7a4 ∈ gT := gT_in 458 (by decide +kernel) (by decide +kernel)
theorem lX4_64 : Cond.methodLink RX4 64 yJ13_bitCount_95d88 ∈ gT := gT_in 466 (by decide +kernel) (by decide +kernel)
theorem lX7_82 : Cond.methodLink RX7 82 yX7_in ∈ gT := gT_in 686 (by decide +kernel) (by decide +kernel)
theorem lX7_111 : Cond.methodLink RX7 111 yX7_ones ∈ gT := gT_in 765 (by decide +kernel) (by decide +kernel)
theorem lX7_153 : Cond.methodLink RX7 153 yX7_isRow ∈ gT := gT_in 824 (by decide +kernel) (by decide +kernel)
theorem lJ0_495 : Cond.methodLink RJ0 495 yJ1_charAt_3b067 ∈ gT := gT_in 223 (by decide +kernel) (by decide +kernel)
theorem lJ0_498 : Cond.methodLink RJ0 498 yJ2_charAt_3b067 ∈ gT := gT_in 234 (by decide +kernel) (by decide +kernel)
theorem lJ0_1059 : Cond.methodLink RJ0 1059 yJ3_checkIndex_8e157 ∈ gT := gT_in 231 (by decide +kernel) (by decide +kernel)
theorem lJ1_9 : Cond.methodLink RJ1 9 yJ0_checkIndex_df160 ∈ gT := gT_in 226 (by decide +kernel) (by decide +kernel)
theorem lJ2_48 : Cond.methodLink RJ2 48 yJ2_length_9d52b ∈ gT := gT_in 240 (by decide +kernel) (by decide +kernel)
theorem lJ2_67 : Cond.methodLink RJ2 67 yJ2_checkIndex_2214a ∈ gT := gT_in 237 (by decide +kernel) (by decide +kernel)
theorem lJ2_71 : Cond.methodLink RJ2 71 yJ2_getChar_3b067 ∈ gT := gT_in 244 (by decide +kernel) (by decide +kernel)
theorem lJ2_414 : Cond.methodLink RJ2 414 yJ0_checkIndex_df160 ∈ gT := gT_in 243 (by decide +kernel) (by decide +kernel)
theorem lX6_39 : Cond.methodLink RX6 39 yJ0_length_8abf5 ∈ gT := gT_in 205 (by decide +kernel) (by decide +kernel)
theorem lX6_45 : Cond.methodLink RX6 45 yJ0_charAt_5068e ∈ gT := gT_in 215 (by decide +kernel) (by decide +kernel)
theorem lX6_53 : Cond.methodLink RX6 53 yX6_layText ∈ gT := gT_in 253 (by decide +kernel) (by decide +kernel)
theorem lX6_56 : Cond.methodLink RX6 56 yX5_readInto ∈ gT := gT_in 257 (by decide +kernel) (by decide +kernel)
theorem lX6_66 : Cond.methodLink RX6 66 yX2_forget ∈ gT := gT_in 297 (by decide +kernel) (by decide +kernel)
theorem lX6_69 : Cond.methodLink RX6 69 yX6_isOffer ∈ gT := gT_in 344 (by decide +kernel) (by decide +kernel)
theorem lX6_73 : Cond.methodLink RX6 73 yX6_whatSpeaksAgainst ∈ gT := gT_in 348 (by decide +kernel) (by decide +kernel)
theorem lX6_77 : Cond.methodLink RX6 77 yX6_remember ∈ gT := gT_in 398 (by decide +kernel) (by decide +kernel)
theorem lX6_86 : Cond.methodLink RX6 86 yX0_lowestClash ∈ gT := gT_in 371 (by decide +kernel) (by decide +kernel)
theorem lX6_90 : Cond.methodLink RX6 90 yX6_isSigned ∈ gT := gT_in 352 (by decide +kernel) (by decide +kernel)
theorem lX6_102 : Cond.methodLink RX6 102 yX4_farthestMove ∈ gT := gT_in 432 (by decide +kernel) (by decide +kernel)
theorem lX6_105 : Cond.methodLink RX6 105 yX2_takeLatest ∈ gT := gT_in 444 (by decide +kernel) (by decide +kernel)
theorem lX6_123 : Cond.methodLink RX6 123 yX0_isWithinTerm ∈ gT := gT_in 359 (by decide +kernel) (by decide +kernel)
theorem lX6_126 : Cond.methodLink RX6 126 yX0_areHoldsKept ∈ gT := gT_in 386 (by decide +kernel) (by decide +kernel)
theorem lX6_129 : Cond.methodLink RX6 129 yX2_add ∈ gT := gT_in 402 (by decide +kernel) (by decide +kernel)
theorem lX6_142 : Cond.methodLink RX6 142 yX4_firstNow ∈ gT := gT_in 452 (by decide +kernel) (by decide +kernel)
theorem lX6_145 : Cond.methodLink RX6 145 yX4_lastNow ∈ gT := gT_in 453 (by decide +kernel) (by decide +kernel)
theorem lX6_155 : Cond.methodLink RX6 155 yX4_commonPoints ∈ gT := gT_in 454 (by decide +kernel) (by decide +kernel)
theorem lX6_162 : Cond.methodLink RX6 162 yX0_beginOf ∈ gT := gT_in 481 (by decide +kernel) (by decide +kernel)
theorem lX6_173 : Cond.methodLink RX6 173 yX0_brokenLands ∈ gT := gT_in 486 (by decide +kernel) (by decide +kernel)
theorem lX6_190 : Cond.methodLink RX6 190 yX6_howManyHave ∈ gT := gT_in 500 (by decide +kernel) (by decide +kernel)
theorem lX6_193 : Cond.methodLink RX6 193 yX6_weeksOf ∈ gT := gT_in 522 (by decide +kernel) (by decide +kernel)
theorem lX6_229 : Cond.methodLink RX6 229 yX4_hasCell ∈ gT := gT_in 504 (by decide +kernel) (by decide +kernel)
theorem lX6_232 : Cond.methodLink RX6 232 yX4_weeksNow ∈ gT := gT_in 518 (by decide +kernel) (by decide +kernel)
theorem lX6_241 : Cond.methodLink RX6 241 yX0_bestSet ∈ gT := gT_in 560 (by decide +kernel) (by decide +kernel)
theorem lX6_244 : Cond.methodLink RX6 244 yX0_priceOf ∈ gT := gT_in 580 (by decide +kernel) (by decide +kernel)
theorem lX6_247 : Cond.methodLink RX6 247 yX0_clashingPairs ∈ gT := gT_in 589 (by decide +kernel) (by decide +kernel)
theorem lX0_86 : Cond.methodLink RX0 86 yX4_firstNow ∈ gT := gT_in 363 (by decide +kernel) (by decide +kernel)
theorem lX0_90 : Cond.methodLink RX0 90 yX4_lastNow ∈ gT := gT_in 367 (by decide +kernel) (by decide +kernel)
theorem lX0_96 : Cond.methodLink RX0 96 yX4_clashesWith ∈ gT := gT_in 376 (by decide +kernel) (by decide +kernel)
theorem lX0_100 : Cond.methodLink RX0 100 yX0_beginOf ∈ gT := gT_in 394 (by decide +kernel) (by decide +kernel)
theorem lX0_104 : Cond.methodLink RX0 104 yX0_isKept ∈ gT := gT_in 390 (by decide +kernel) (by decide +kernel)
theorem lX0_108 : Cond.methodLink RX0 108 yX0_outsideTerm ∈ gT := gT_in 564 (by decide +kernel) (by decide +kernel)
theorem lX0_111 : Cond.methodLink RX0 111 yX0_priceOf ∈ gT := gT_in 569 (by decide +kernel) (by decide +kernel)
theorem lX0_120 : Cond.methodLink RX0 120 yX0_isWithoutClash ∈ gT := gT_in 574 (by decide +kernel) (by decide +kernel)
theorem lX0_124 : Cond.methodLink RX0 124 yX0_areHoldsKept ∈ gT := gT_in 579 (by decide +kernel) (by decide +kernel)
theorem lX0_127 : Cond.methodLink RX0 127 yX0_isWithinTerm ∈ gT := gT_in 568 (by decide +kernel) (by decide +kernel)
theorem lX0_130 : Cond.methodLink RX0 130 yX0_lowestClash ∈ gT := gT_in 578 (by decide +kernel) (by decide +kernel)
theorem lX2_22 : Cond.methodLink RX2 22 yX2_loseOldest ∈ gT := gT_in 406 (by decide +kernel) (by decide +kernel)
theorem lX4_21 : Cond.methodLink RX4 21 yX4_firstNow ∈ gT := gT_in 384 (by decide +kernel) (by decide +kernel)
theorem lX4_25 : Cond.methodLink RX4 25 yX4_lastNow ∈ gT := gT_in 385 (by decide +kernel) (by decide +kernel)
theorem lX4_60 : Cond.methodLink RX4 60 yX4_weeksNow ∈ gT := gT_in 459 (by decide +kernel) (by decide +kernel)
theorem lX4_73 : Cond.methodLink RX4 73 yX4_meets ∈ gT := gT_in 380 (by decide +kernel) (by decide +kernel)
theorem lX5_15 : Cond.methodLink RX5 15 yX0_clear ∈ gT := gT_in 261 (by decide +kernel) (by decide +kernel)
theorem lX5_20 : Cond.methodLink RX5 20 yX5_readItem ∈ gT := gT_in 265 (by decide +kernel) (by decide +kernel)
theorem lX5_24 : Cond.methodLink RX5 24 yX5_readNumbers ∈ gT := gT_in 269 (by decide +kernel) (by decide +kernel)
theorem lX5_28 : Cond.methodLink RX5 28 yX0_setTerm ∈ gT := gT_in 273 (by decide +kernel) (by decide +kernel)
theorem lX5_32 : Cond.methodLink RX5 32 yX0_addOffer ∈ gT := gT_in 280 (by decide +kernel) (by decide +kernel)
theorem lX5_36 : Cond.methodLink RX5 36 yX0_addHold ∈ gT := gT_in 293 (by decide +kernel) (by decide +kernel)
theorem lL_13 : Cond.methodLink RL 13 yX6_write ∈ gT := gT_in 324 (by decide +kernel) (by decide +kernel)
theorem lL_17 : Cond.methodLink RL 17 yX7_write ∈ gT := gT_in 682 (by decide +kernel) (by decide +kernel)
theorem lL_18 : Cond.methodLink RL 18 yX6_wipe ∈ gT := gT_in 328 (by decide +kernel) (by decide +kernel)
theorem lL_22 : Cond.methodLink RL 22 yX7_wipe ∈ gT := gT_in 689 (by decide +kernel) (by decide +kernel)
theorem lL_23 : Cond.methodLink RL 23 yX6_fault ∈ gT := gT_in 332 (by decide +kernel) (by decide +kernel)
theorem lL_26 : Cond.methodLink RL 26 yX7_fault ∈ gT := gT_in 693 (by decide +kernel) (by decide +kernel)
theorem lL_27 : Cond.methodLink RL 27 yX6_lay ∈ gT := gT_in 336 (by decide +kernel) (by decide +kernel)
theorem lL_30 : Cond.methodLink RL 30 yX7_lay ∈ gT := gT_in 721 (by decide +kernel) (by decide +kernel)
theorem lL_31 : Cond.methodLink RL 31 yX6_sign ∈ gT := gT_in 340 (by decide +kernel) (by decide +kernel)
theorem lL_34 : Cond.methodLink RL 34 yX7_sign ∈ gT := gT_in 729 (by decide +kernel) (by decide +kernel)
theorem lL_35 : Cond.methodLink RL 35 yX6_why ∈ gT := gT_in 416 (by decide +kernel) (by decide +kernel)
theorem lL_38 : Cond.methodLink RL 38 yX7_why ∈ gT := gT_in 784 (by decide +kernel) (by decide +kernel)
theorem lL_39 : Cond.methodLink RL 39 yX6_clash ∈ gT := gT_in 420 (by decide +kernel) (by decide +kernel)
theorem lL_42 : Cond.methodLink RL 42 yX7_clash ∈ gT := gT_in 788 (by decide +kernel) (by decide +kernel)
theorem lL_43 : Cond.methodLink RL 43 yX6_drop ∈ gT := gT_in 424 (by decide +kernel) (by decide +kernel)
theorem lL_46 : Cond.methodLink RL 46 yX7_drop ∈ gT := gT_in 792 (by decide +kernel) (by decide +kernel)
theorem lL_47 : Cond.methodLink RL 47 yX6_move ∈ gT := gT_in 428 (by decide +kernel) (by decide +kernel)
theorem lL_51 : Cond.methodLink RL 51 yX7_move ∈ gT := gT_in 796 (by decide +kernel) (by decide +kernel)
theorem lL_52 : Cond.methodLink RL 52 yX6_soonest ∈ gT := gT_in 436 (by decide +kernel) (by decide +kernel)
theorem lL_55 : Cond.methodLink RL 55 yX7_soonest ∈ gT := gT_in 800 (by decide +kernel) (by decide +kernel)
theorem lL_56 : Cond.methodLink RL 56 yX6_undo ∈ gT := gT_in 440 (by decide +kernel) (by decide +kernel)
theorem lL_59 : Cond.methodLink RL 59 yX7_undo ∈ gT := gT_in 725 (by decide +kernel) (by decide +kernel)
theorem lL_60 : Cond.methodLink RL 60 yX6_offer ∈ gT := gT_in 448 (by decide +kernel) (by decide +kernel)
theorem lL_63 : Cond.methodLink RL 63 yX7_offer ∈ gT := gT_in 804 (by decide +kernel) (by decide +kernel)
theorem lL_64 : Cond.methodLink RL 64 yX6_common ∈ gT := gT_in 472 (by decide +kernel) (by decide +kernel)
theorem lL_67 : Cond.methodLink RL 67 yX7_common ∈ gT := gT_in 808 (by decide +kernel) (by decide +kernel)
theorem lL_68 : Cond.methodLink RL 68 yX6_begin ∈ gT := gT_in 476 (by decide +kernel) (by decide +kernel)
theorem lL_71 : Cond.methodLink RL 71 yX7_begin ∈ gT := gT_in 812 (by decide +kernel) (by decide +kernel)
theorem lL_72 : Cond.methodLink RL 72 yX6_broken ∈ gT := gT_in 482 (by decide +kernel) (by decide +kernel)
theorem lL_75 : Cond.methodLink RL 75 yX7_broken ∈ gT := gT_in 816 (by decide +kernel) (by decide +kernel)
theorem lL_76 : Cond.methodLink RL 76 yX6_point ∈ gT := gT_in 490 (by decide +kernel) (by decide +kernel)
theorem lL_80 : Cond.methodLink RL 80 yX7_point ∈ gT := gT_in 820 (by decide +kernel) (by decide +kernel)
theorem lL_81 : Cond.methodLink RL 81 yX6_points ∈ gT := gT_in 528 (by decide +kernel) (by decide +kernel)
theorem lL_84 : Cond.methodLink RL 84 yX7_points ∈ gT := gT_in 839 (by decide +kernel) (by decide +kernel)
theorem lL_85 : Cond.methodLink RL 85 yX6_window ∈ gT := gT_in 533 (by decide +kernel) (by decide +kernel)
theorem lL_88 : Cond.methodLink RL 88 yX7_window ∈ gT := gT_in 843 (by decide +kernel) (by decide +kernel)
theorem lL_89 : Cond.methodLink RL 89 yX6_longest ∈ gT := gT_in 546 (by decide +kernel) (by decide +kernel)
theorem lL_92 : Cond.methodLink RL 92 yX7_longest ∈ gT := gT_in 851 (by decide +kernel) (by decide +kernel)
theorem lL_93 : Cond.methodLink RL 93 yX6_best ∈ gT := gT_in 556 (by decide +kernel) (by decide +kernel)
theorem lL_96 : Cond.methodLink RL 96 yX7_best ∈ gT := gT_in 855 (by decide +kernel) (by decide +kernel)
theorem lL_97 : Cond.methodLink RL 97 yX6_take ∈ gT := gT_in 581 (by decide +kernel) (by decide +kernel)
theorem lL_100 : Cond.methodLink RL 100 yX7_take ∈ gT := gT_in 871 (by decide +kernel) (by decide +kernel)
theorem lL_101 : Cond.methodLink RL 101 yX6_count ∈ gT := gT_in 585 (by decide +kernel) (by decide +kernel)
theorem lL_104 : Cond.methodLink RL 104 yX7_count ∈ gT := gT_in 875 (by decide +kernel) (by decide +kernel)
theorem lX7_34 : Cond.methodLink RX7 34 yX7_beginRead ∈ gT := gT_in 599 (by decide +kernel) (by decide +kernel)
theorem lX7_44 : Cond.methodLink RX7 44 yX7_putOffer ∈ gT := gT_in 603 (by decide +kernel) (by decide +kernel)
theorem lX7_48 : Cond.methodLink RX7 48 yX7_putHold ∈ gT := gT_in 607 (by decide +kernel) (by decide +kernel)
theorem lX7_52 : Cond.methodLink RX7 52 yX7_takeRead ∈ gT := gT_in 611 (by decide +kernel) (by decide +kernel)
theorem lX7_86 : Cond.methodLink RX7 86 yX7_isFigure ∈ gT := gT_in 709 (by decide +kernel) (by decide +kernel)
theorem lX7_90 : Cond.methodLink RX7 90 yX7_readNumbers ∈ gT := gT_in 705 (by decide +kernel) (by decide +kernel)
theorem lX7_94 : Cond.methodLink RX7 94 yX7_readTerm ∈ gT := gT_in 701 (by decide +kernel) (by decide +kernel)
theorem lX7_97 : Cond.methodLink RX7 97 yX7_readOffer ∈ gT := gT_in 713 (by decide +kernel) (by decide +kernel)
theorem lX7_100 : Cond.methodLink RX7 100 yX7_readHold ∈ gT := gT_in 717 (by decide +kernel) (by decide +kernel)
theorem lX7_103 : Cond.methodLink RX7 103 yX7_readText ∈ gT := gT_in 697 (by decide +kernel) (by decide +kernel)
theorem lX7_107 : Cond.methodLink RX7 107 yX7_of ∈ gT := gT_in 749 (by decide +kernel) (by decide +kernel)
theorem lX7_115 : Cond.methodLink RX7 115 yX7_commonOf ∈ gT := gT_in 761 (by decide +kernel) (by decide +kernel)
theorem lX7_118 : Cond.methodLink RX7 118 yX7_beginOf ∈ gT := gT_in 776 (by decide +kernel) (by decide +kernel)
theorem lX7_122 : Cond.methodLink RX7 122 yX7_brokenBy ∈ gT := gT_in 772 (by decide +kernel) (by decide +kernel)
theorem lX7_125 : Cond.methodLink RX7 125 yX7_isSigned ∈ gT := gT_in 741 (by decide +kernel) (by decide +kernel)
theorem lX7_128 : Cond.methodLink RX7 128 yX7_doClash ∈ gT := gT_in 757 (by decide +kernel) (by decide +kernel)
theorem lX7_132 : Cond.methodLink RX7 132 yX7_isOfTerm ∈ gT := gT_in 745 (by decide +kernel) (by decide +kernel)
theorem lX7_135 : Cond.methodLink RX7 135 yX7_clashOf ∈ gT := gT_in 753 (by decide +kernel) (by decide +kernel)
theorem lX7_138 : Cond.methodLink RX7 138 yX7_areKept ∈ gT := gT_in 768 (by decide +kernel) (by decide +kernel)
theorem lX7_141 : Cond.methodLink RX7 141 yX7_isOffer ∈ gT := gT_in 733 (by decide +kernel) (by decide +kernel)
theorem lX7_144 : Cond.methodLink RX7 144 yX7_whyOf ∈ gT := gT_in 737 (by decide +kernel) (by decide +kernel)
theorem lX7_147 : Cond.methodLink RX7 147 yX7_note ∈ gT := gT_in 780 (by decide +kernel) (by decide +kernel)
theorem lX7_150 : Cond.methodLink RX7 150 yX7_has ∈ gT := gT_in 831 (by decide +kernel) (by decide +kernel)
theorem lX7_156 : Cond.methodLink RX7 156 yX7_soldAt ∈ gT := gT_in 827 (by decide +kernel) (by decide +kernel)
theorem lX7_159 : Cond.methodLink RX7 159 yX7_isAloneAt ∈ gT := gT_in 835 (by decide +kernel) (by decide +kernel)
theorem lX7_168 : Cond.methodLink RX7 168 yX7_findWindow ∈ gT := gT_in 847 (by decide +kernel) (by decide +kernel)
theorem lX7_174 : Cond.methodLink RX7 174 yX7_pricesOf ∈ gT := gT_in 863 (by decide +kernel) (by decide +kernel)
theorem lX7_177 : Cond.methodLink RX7 177 yX7_isGood ∈ gT := gT_in 867 (by decide +kernel) (by decide +kernel)
theorem lX7_180 : Cond.methodLink RX7 180 yX7_findBest ∈ gT := gT_in 859 (by decide +kernel) (by decide +kernel)
theorem lJ0_335 : Cond.methodLink RJ0 335 yJ0_coder_7d493 ∈ gT := gT_in 209 (by decide +kernel) (by decide +kernel)
theorem lJ0_492 : Cond.methodLink RJ0 492 yJ0_isLatin1_aae02 ∈ gT := gT_in 219 (by decide +kernel) (by decide +kernel)
theorem wX6_9 : Cond.fieldLink RX6 9 (TX6 0).1 (TX6 0).2.1 (TX6 0).2.2.1 ∈ gT := gT_in 301 (by decide +kernel) (by decide +kernel)
theorem wX6_16 : Cond.fieldLink RX6 16 (TX6 2).1 (TX6 2).2.1 (TX6 2).2.2.1 ∈ gT := gT_in 303 (by decide +kernel) (by decide +kernel)
theorem wX6_23 : Cond.fieldLink RX6 23 (TX6 3).1 (TX6 3).2.1 (TX6 3).2.2.1 ∈ gT := gT_in 304 (by decide +kernel) (by decide +kernel)
theorem wX6_27 : Cond.fieldLink RX6 27 (TX6 4).1 (TX6 4).2.1 (TX6 4).2.2.1 ∈ gT := gT_in 305 (by decide +kernel) (by decide +kernel)
theorem wX6_33 : Cond.fieldLink RX6 33 (TX6 6).1 (TX6 6).2.1 (TX6 6).2.2.1 ∈ gT := gT_in 307 (by decide +kernel) (by decide +kernel)
theorem wX6_49 : Cond.fieldLink RX6 49 (TX6 1).1 (TX6 1).2.1 (TX6 1).2.2.1 ∈ gT := gT_in 302 (by decide +kernel) (by decide +kernel)
theorem wX6_60 : Cond.fieldLink RX6 60 (TX0 1).1 (TX0 1).2.1 (TX0 1).2.2.1 ∈ gT := gT_in 148 (by decide +kernel) (by decide +kernel)
theorem wX6_63 : Cond.fieldLink RX6 63 (TX6 5).1 (TX6 5).2.1 (TX6 5).2.2.1 ∈ gT := gT_in 306 (by decide +kernel) (by decide +kernel)
theorem wX6_93 : Cond.fieldLink RX6 93 (TX0 0).1 (TX0 0).2.1 (TX0 0).2.2.1 ∈ gT := gT_in 146 (by decide +kernel) (by decide +kernel)
theorem wX6_97 : Cond.fieldLink RX6 97 (TX4 7).1 (TX4 7).2.1 (TX4 7).2.2.1 ∈ gT := gT_in 112 (by decide +kernel) (by decide +kernel)
theorem wX6_109 : Cond.fieldLink RX6 109 (TX1 0).1 (TX1 0).2.1 (TX1 0).2.2.1 ∈ gT := gT_in 184 (by decide +kernel) (by decide +kernel)
theorem wX6_112 : Cond.fieldLink RX6 112 (TX1 1).1 (TX1 1).2.1 (TX1 1).2.2.1 ∈ gT := gT_in 186 (by decide +kernel) (by decide +kernel)
theorem wX6_115 : Cond.fieldLink RX6 115 (TX1 2).1 (TX1 2).2.1 (TX1 2).2.2.1 ∈ gT := gT_in 188 (by decide +kernel) (by decide +kernel)
theorem wX6_116 : Cond.fieldLink RX6 116 (TX2 1).1 (TX2 1).2.1 (TX2 1).2.2.1 ∈ gT := gT_in 198 (by decide +kernel) (by decide +kernel)
theorem wX6_133 : Cond.fieldLink RX6 133 (TX4 0).1 (TX4 0).2.1 (TX4 0).2.2.1 ∈ gT := gT_in 94 (by decide +kernel) (by decide +kernel)
theorem wX6_136 : Cond.fieldLink RX6 136 (TX4 1).1 (TX4 1).2.1 (TX4 1).2.2.1 ∈ gT := gT_in 97 (by decide +kernel) (by decide +kernel)
theorem wX6_139 : Cond.fieldLink RX6 139 (TX4 2).1 (TX4 2).2.1 (TX4 2).2.2.1 ∈ gT := gT_in 100 (by decide +kernel) (by decide +kernel)
theorem wX6_148 : Cond.fieldLink RX6 148 (TX4 5).1 (TX4 5).2.1 (TX4 5).2.2.1 ∈ gT := gT_in 107 (by decide +kernel) (by decide +kernel)
theorem wX6_152 : Cond.fieldLink RX6 152 (TX4 6).1 (TX4 6).2.1 (TX4 6).2.2.1 ∈ gT := gT_in 109 (by decide +kernel) (by decide +kernel)
theorem wX6_166 : Cond.fieldLink RX6 166 (TX0 3).1 (TX0 3).2.1 (TX0 3).2.2.1 ∈ gT := gT_in 152 (by decide +kernel) (by decide +kernel)
theorem wX6_169 : Cond.fieldLink RX6 169 (TX0 2).1 (TX0 2).2.1 (TX0 2).2.2.1 ∈ gT := gT_in 150 (by decide +kernel) (by decide +kernel)
theorem wX6_181 : Cond.fieldLink RX6 181 (TX0 4).1 (TX0 4).2.1 (TX0 4).2.2.1 ∈ gT := gT_in 154 (by decide +kernel) (by decide +kernel)
theorem wX6_184 : Cond.fieldLink RX6 184 (TX0 5).1 (TX0 5).2.1 (TX0 5).2.2.1 ∈ gT := gT_in 156 (by decide +kernel) (by decide +kernel)
theorem wX0_11 : Cond.fieldLink RX0 11 (TX0 0).1 (TX0 0).2.1 (TX0 0).2.2.1 ∈ gT := gT_in 145 (by decide +kernel) (by decide +kernel)
theorem wX0_19 : Cond.fieldLink RX0 19 (TX0 2).1 (TX0 2).2.1 (TX0 2).2.2.1 ∈ gT := gT_in 149 (by decide +kernel) (by decide +kernel)
theorem wX0_25 : Cond.fieldLink RX0 25 (TX0 1).1 (TX0 1).2.1 (TX0 1).2.2.1 ∈ gT := gT_in 147 (by decide +kernel) (by decide +kernel)
theorem wX0_29 : Cond.fieldLink RX0 29 (TX0 3).1 (TX0 3).2.1 (TX0 3).2.2.1 ∈ gT := gT_in 151 (by decide +kernel) (by decide +kernel)
theorem wX0_32 : Cond.fieldLink RX0 32 (TX0 4).1 (TX0 4).2.1 (TX0 4).2.2.1 ∈ gT := gT_in 153 (by decide +kernel) (by decide +kernel)
theorem wX0_35 : Cond.fieldLink RX0 35 (TX0 5).1 (TX0 5).2.1 (TX0 5).2.2.1 ∈ gT := gT_in 155 (by decide +kernel) (by decide +kernel)
theorem wX0_46 : Cond.fieldLink RX0 46 (TX4 0).1 (TX4 0).2.1 (TX4 0).2.2.1 ∈ gT := gT_in 92 (by decide +kernel) (by decide +kernel)
theorem wX0_49 : Cond.fieldLink RX0 49 (TX4 1).1 (TX4 1).2.1 (TX4 1).2.2.1 ∈ gT := gT_in 95 (by decide +kernel) (by decide +kernel)
theorem wX0_52 : Cond.fieldLink RX0 52 (TX4 2).1 (TX4 2).2.1 (TX4 2).2.2.1 ∈ gT := gT_in 98 (by decide +kernel) (by decide +kernel)
theorem wX0_55 : Cond.fieldLink RX0 55 (TX4 3).1 (TX4 3).2.1 (TX4 3).2.2.1 ∈ gT := gT_in 102 (by decide +kernel) (by decide +kernel)
theorem wX0_58 : Cond.fieldLink RX0 58 (TX4 4).1 (TX4 4).2.1 (TX4 4).2.2.1 ∈ gT := gT_in 104 (by decide +kernel) (by decide +kernel)
theorem wX0_61 : Cond.fieldLink RX0 61 (TX4 5).1 (TX4 5).2.1 (TX4 5).2.2.1 ∈ gT := gT_in 105 (by decide +kernel) (by decide +kernel)
theorem wX0_65 : Cond.fieldLink RX0 65 (TX4 6).1 (TX4 6).2.1 (TX4 6).2.2.1 ∈ gT := gT_in 108 (by decide +kernel) (by decide +kernel)
theorem wX0_68 : Cond.fieldLink RX0 68 (TX4 7).1 (TX4 7).2.1 (TX4 7).2.2.1 ∈ gT := gT_in 111 (by decide +kernel) (by decide +kernel)
theorem wX0_77 : Cond.fieldLink RX0 77 (TX3 0).1 (TX3 0).2.1 (TX3 0).2.2.1 ∈ gT := gT_in 135 (by decide +kernel) (by decide +kernel)
theorem wX0_80 : Cond.fieldLink RX0 80 (TX3 1).1 (TX3 1).2.1 (TX3 1).2.2.1 ∈ gT := gT_in 136 (by decide +kernel) (by decide +kernel)
theorem wX0_83 : Cond.fieldLink RX0 83 (TX3 2).1 (TX3 2).2.1 (TX3 2).2.2.1 ∈ gT := gT_in 137 (by decide +kernel) (by decide +kernel)
theorem wX2_11 : Cond.fieldLink RX2 11 (TX2 0).1 (TX2 0).2.1 (TX2 0).2.2.1 ∈ gT := gT_in 196 (by decide +kernel) (by decide +kernel)
theorem wX2_18 : Cond.fieldLink RX2 18 (TX2 1).1 (TX2 1).2.1 (TX2 1).2.2.1 ∈ gT := gT_in 197 (by decide +kernel) (by decide +kernel)
theorem wX2_25 : Cond.fieldLink RX2 25 (TX1 0).1 (TX1 0).2.1 (TX1 0).2.2.1 ∈ gT := gT_in 183 (by decide +kernel) (by decide +kernel)
theorem wX2_28 : Cond.fieldLink RX2 28 (TX1 1).1 (TX1 1).2.1 (TX1 1).2.2.1 ∈ gT := gT_in 185 (by decide +kernel) (by decide +kernel)
theorem wX2_31 : Cond.fieldLink RX2 31 (TX1 2).1 (TX1 2).2.1 (TX1 2).2.2.1 ∈ gT := gT_in 187 (by decide +kernel) (by decide +kernel)
theorem wX4_9 : Cond.fieldLink RX4 9 (TX4 3).1 (TX4 3).2.1 (TX4 3).2.2.1 ∈ gT := gT_in 101 (by decide +kernel) (by decide +kernel)
theorem wX4_15 : Cond.fieldLink RX4 15 (TX4 7).1 (TX4 7).2.1 (TX4 7).2.2.1 ∈ gT := gT_in 110 (by decide +kernel) (by decide +kernel)
theorem wX4_18 : Cond.fieldLink RX4 18 (TX4 4).1 (TX4 4).2.1 (TX4 4).2.2.1 ∈ gT := gT_in 103 (by decide +kernel) (by decide +kernel)
theorem wX4_32 : Cond.fieldLink RX4 32 (TX4 0).1 (TX4 0).2.1 (TX4 0).2.2.1 ∈ gT := gT_in 93 (by decide +kernel) (by decide +kernel)
theorem wX4_43 : Cond.fieldLink RX4 43 (TX4 1).1 (TX4 1).2.1 (TX4 1).2.2.1 ∈ gT := gT_in 96 (by decide +kernel) (by decide +kernel)
theorem wX4_49 : Cond.fieldLink RX4 49 (TX4 2).1 (TX4 2).2.1 (TX4 2).2.2.1 ∈ gT := gT_in 99 (by decide +kernel) (by decide +kernel)
theorem wX4_69 : Cond.fieldLink RX4 69 (TX4 5).1 (TX4 5).2.1 (TX4 5).2.2.1 ∈ gT := gT_in 106 (by decide +kernel) (by decide +kernel)
theorem wX5_9 : Cond.fieldLink RX5 9 (TX5 0).1 (TX5 0).2.1 (TX5 0).2.2.1 ∈ gT := gT_in 71 (by decide +kernel) (by decide +kernel)
theorem wX7_7 : Cond.fieldLink RX7 7 (TX7 0).1 (TX7 0).2.1 (TX7 0).2.2.1 ∈ gT := gT_in 615 (by decide +kernel) (by decide +kernel)
theorem wX7_13 : Cond.fieldLink RX7 13 (TX7 3).1 (TX7 3).2.1 (TX7 3).2.2.1 ∈ gT := gT_in 618 (by decide +kernel) (by decide +kernel)
theorem wX7_16 : Cond.fieldLink RX7 16 (TX7 4).1 (TX7 4).2.1 (TX7 4).2.2.1 ∈ gT := gT_in 619 (by decide +kernel) (by decide +kernel)
theorem wX7_19 : Cond.fieldLink RX7 19 (TX7 9).1 (TX7 9).2.1 (TX7 9).2.2.1 ∈ gT := gT_in 624 (by decide +kernel) (by decide +kernel)
theorem wX7_22 : Cond.fieldLink RX7 22 (TX7 10).1 (TX7 10).2.1 (TX7 10).2.2.1 ∈ gT := gT_in 625 (by decide +kernel) (by decide +kernel)
theorem wX7_25 : Cond.fieldLink RX7 25 (TX7 15).1 (TX7 15).2.1 (TX7 15).2.2.1 ∈ gT := gT_in 630 (by decide +kernel) (by decide +kernel)
theorem wX7_28 : Cond.fieldLink RX7 28 (TX7 16).1 (TX7 16).2.1 (TX7 16).2.2.1 ∈ gT := gT_in 631 (by decide +kernel) (by decide +kernel)
theorem wX7_31 : Cond.fieldLink RX7 31 (TX7 18).1 (TX7 18).2.1 (TX7 18).2.2.1 ∈ gT := gT_in 633 (by decide +kernel) (by decide +kernel)
theorem wX7_37 : Cond.fieldLink RX7 37 (TX7 7).1 (TX7 7).2.1 (TX7 7).2.2.1 ∈ gT := gT_in 622 (by decide +kernel) (by decide +kernel)
theorem wX7_41 : Cond.fieldLink RX7 41 (TX7 8).1 (TX7 8).2.1 (TX7 8).2.2.1 ∈ gT := gT_in 623 (by decide +kernel) (by decide +kernel)
theorem wX7_55 : Cond.fieldLink RX7 55 (TX7 5).1 (TX7 5).2.1 (TX7 5).2.2.1 ∈ gT := gT_in 620 (by decide +kernel) (by decide +kernel)
theorem wX7_58 : Cond.fieldLink RX7 58 (TX7 6).1 (TX7 6).2.1 (TX7 6).2.2.1 ∈ gT := gT_in 621 (by decide +kernel) (by decide +kernel)
theorem wX7_61 : Cond.fieldLink RX7 61 (TX7 11).1 (TX7 11).2.1 (TX7 11).2.2.1 ∈ gT := gT_in 626 (by decide +kernel) (by decide +kernel)
theorem wX7_64 : Cond.fieldLink RX7 64 (TX7 12).1 (TX7 12).2.1 (TX7 12).2.2.1 ∈ gT := gT_in 627 (by decide +kernel) (by decide +kernel)
theorem wX7_67 : Cond.fieldLink RX7 67 (TX7 13).1 (TX7 13).2.1 (TX7 13).2.2.1 ∈ gT := gT_in 628 (by decide +kernel) (by decide +kernel)
theorem wX7_70 : Cond.fieldLink RX7 70 (TX7 14).1 (TX7 14).2.1 (TX7 14).2.2.1 ∈ gT := gT_in 629 (by decide +kernel) (by decide +kernel)
theorem wX7_73 : Cond.fieldLink RX7 73 (TX7 17).1 (TX7 17).2.1 (TX7 17).2.2.1 ∈ gT := gT_in 632 (by decide +kernel) (by decide +kernel)
theorem wX7_76 : Cond.fieldLink RX7 76 (TX7 2).1 (TX7 2).2.1 (TX7 2).2.2.1 ∈ gT := gT_in 617 (by decide +kernel) (by decide +kernel)
theorem wX7_79 : Cond.fieldLink RX7 79 (TX7 1).1 (TX7 1).2.1 (TX7 1).2.2.1 ∈ gT := gT_in 616 (by decide +kernel) (by decide +kernel)
theorem wX7_162 : Cond.fieldLink RX7 162 (TX7 19).1 (TX7 19).2.1 (TX7 19).2.2.1 ∈ gT := gT_in 634 (by decide +kernel) (by decide +kernel)
theorem wX7_165 : Cond.fieldLink RX7 165 (TX7 20).1 (TX7 20).2.1 (TX7 20).2.2.1 ∈ gT := gT_in 635 (by decide +kernel) (by decide +kernel)
theorem wX7_171 : Cond.fieldLink RX7 171 (TX7 21).1 (TX7 21).2.1 (TX7 21).2.2.1 ∈ gT := gT_in 636 (by decide +kernel) (by decide +kernel)
end
section
theorem fX6_9 {l : Launch} {V : gVt} {mm : gY} {E : gEnv} {cs : Nat × Nat} {M : gMem} {pc : Nat} {lv : List (Nat × Value)} {st : List Value} {a : Nat} (r : Nat) (hm : mm.1.cls = RX6) (hsh : gSh E a = 7) (hr : M.2 a 0 = r) (h0 : r ≠ 0) (d : decode mm.2.1 pc = .ok (.getfield 9, 3)) (k : gG l V mm E cs M (pc + 3) lv (.ref (gAd E r) :: st)) : gG l V mm E cs M pc lv (.ref (gAd E a) :: st) := g_get (kd := 7) (k := 0) (C := RX6) (T := TX6) (N := 7) hsh (by decide) (by decide) rfl wsX6 (by decide) (by decide) (by rw [hm]; exact wX6_9) (gVl_r hsh rfl hr h0) d k
theorem fX6_16 {l : Launch} {V : gVt} {mm : gY} {E : gEnv} {cs : Nat × Nat} {M : gMem} {pc : Nat} {lv : List (Nat × Value)} {st : List Value} {a : Nat} (r : Nat) (hm : mm.1.cls = RX6) (hsh : gSh E a = 7) (hr : M.2 a 2 = r) (h0 : r ≠ 0) (d : decode mm.2.1 pc = .ok (.getfield 16, 3)) (k : gG l V mm E cs M (pc + 3) lv (.ref (gAd E r) :: st)) : gG l V mm E cs M pc lv (.ref (gAd E a) :: st) := g_get (kd := 7) (k := 2) (C := RX6) (T := TX6) (N := 7) hsh (by decide) (by decide) rfl wsX6 (by decide) (by decide) (by rw [hm]; exact wX6_16) (gVl_r hsh rfl hr h0) d k
theorem fX6_23 {l : Launch} {V : gVt} {mm : gY} {E : gEnv} {cs : Nat × Nat} {M : gMem} {pc : Nat} {lv : List (Nat × Value)} {st : List Value} {a : Nat} (r : Nat) (hm : mm.1.cls = RX6) (hsh : gSh E a = 7) (hr : M.2 a 3 = r) (h0 : r ≠ 0) (d : decode mm.2.1 pc = .ok (.getfield 23, 3)) (k : gG l V mm E cs M (pc + 3) lv (.ref (gAd E r) :: st)) : gG l V mm E cs M pc lv (.ref (gAd E a) :: st) := g_get (kd := 7) (k := 3) (C := RX6) (T := TX6) (N := 7) hsh (by decide) (by decide) rfl wsX6 (by decide) (by decide) (by rw [hm]; exact wX6_23) (gVl_r hsh rfl hr h0) d k
theorem fX6_27 {l : Launch} {V : gVt} {mm : gY} {E : gEnv} {cs : Nat × Nat} {M : gMem} {pc : Nat} {lv : List (Nat × Value)} {st : List Value} {a : Nat} (r : Nat) (hm : mm.1.cls = RX6) (hsh : gSh E a = 7) (hr : M.2 a 4 = r) (h0 : r ≠ 0) (d : decode mm.2.1 pc = .ok (.getfield 27, 3)) (k : gG l V mm E cs M (pc + 3) lv (.ref (gAd E r) :: st)) : gG l V mm E cs M pc lv (.ref (gAd E a) :: st) := g_get (kd := 7) (k := 4) (C := RX6) (T := TX6) (N := 7) hsh (by decide) (by decide) rfl wsX6 (by decide) (by decide) (by rw [hm]; exact wX6_27) (gVl_r hsh rfl hr h0) d k
theorem fX6_33 {l : Launch} {V : gVt} {mm : gY} {E : gEnv} {cs : Nat × Nat} {M : gMem} {pc : Nat} {lv : List (Nat × Value)} {st : List Value} {a : Nat} (r : Nat) (hm : mm.1.cls = RX6) (hsh : gSh E a = 7) (hr : M.2 a 6 = r) (h0 : r ≠ 0) (d : decode mm.2.1 pc = .ok (.getfield 33, 3)) (k : gG l V mm E cs M (pc + 3) lv (.ref (gAd E r) :: st)) : gG l V mm E cs M pc lv (.ref (gAd E a) :: st) := g_get (kd := 7) (k := 6) (C := RX6) (T := TX6) (N := 7) hsh (by decide) (by decide) rfl wsX6 (by decide) (by decide) (by rw [hm]; exact wX6_33) (gVl_r hsh rfl hr h0) d k
theorem fX6_49 {l : Launch} {V : gVt} {mm : gY} {E : gEnv} {cs : Nat × Nat} {M : gMem} {pc : Nat} {lv : List (Nat × Value)} {st : List Value} {a : Nat} (hm : mm.1.cls = RX6) (hsh : gSh E a = 7) (d : decode mm.2.1 pc = .ok (.getfield 49, 3)) (k : gG l V mm E cs M (pc + 3) lv (.int (nI (M.1 a 1)) :: st)) : gG l V mm E cs M pc lv (.ref (gAd E a) :: st) := g_get (kd := 7) (k := 1) (C := RX6) (T := TX6) (N := 7) hsh (by decide) (by decide) rfl wsX6 (by decide) (by decide) (by rw [hm]; exact wX6_49) (gVl_i hsh rfl) d k
theorem fX6_60 {l : Launch} {V : gVt} {mm : gY} {E : gEnv} {cs : Nat × Nat} {M : gMem} {pc : Nat} {lv : List (Nat × Value)} {st : List Value} {a : Nat} (hm : mm.1.cls = RX6) (hsh : gSh E a = 1) (d : decode mm.2.1 pc = .ok (.getfield 60, 3)) (k : gG l V mm E cs M (pc + 3) lv (.int (nI (M.1 a 1)) :: st)) : gG l V mm E cs M pc lv (.ref (gAd E a) :: st) := g_get (kd := 1) (k := 1) (C := RX0) (T := TX0) (N := 6) hsh (by decide) (by decide) rfl wsX0 (by decide) (by decide) (by rw [hm]; exact wX6_60) (gVl_i hsh rfl) d k
theorem fX6_63 {l : Launch} {V : gVt} {mm : gY} {E : gEnv} {cs : Nat × Nat} {M : gMem} {pc : Nat} {lv : List (Nat × Value)} {st : List Value} {a : Nat} (hm : mm.1.cls = RX6) (hsh : gSh E a = 7) (d : decode mm.2.1 pc = .ok (.getfield 63, 3)) (k : gG l V mm E cs M (pc + 3) lv (.int (nI (M.1 a 5)) :: st)) : gG l V mm E cs M pc lv (.ref (gAd E a) :: st) := g_get (kd := 7) (k := 5) (C := RX6) (T := TX6) (N := 7) hsh (by decide) (by decide) rfl wsX6 (by decide) (by decide) (by rw [hm]; exact wX6_63) (gVl_i hsh rfl) d k
theorem fX6_93 {l : Launch} {V : gVt} {mm : gY} {E : gEnv} {cs : Nat × Nat} {M : gMem} {pc : Nat} {lv : List (Nat × Value)} {st : List Value} {a : Nat} (r : Nat) (hm : mm.1.cls = RX6) (hsh : gSh E a = 1) (hr : M.2 a 0 = r) (h0 : r ≠ 0) (d : decode mm.2.1 pc = .ok (.getfield 93, 3)) (k : gG l V mm E cs M (pc + 3) lv (.ref (gAd E r) :: st)) : gG l V mm E cs M pc lv (.ref (gAd E a) :: st) := g_get (kd := 1) (k := 0) (C := RX0) (T := TX0) (N := 6) hsh (by decide) (by decide) rfl wsX0 (by decide) (by decide) (by rw [hm]; exact wX6_93) (gVl_r hsh rfl hr h0) d k
theorem fX6_97 {l : Launch} {V : gVt} {mm : gY} {E : gEnv} {cs : Nat × Nat} {M : gMem} {pc : Nat} {lv : List (Nat × Value)} {st : List Value} {a : Nat} (hm : mm.1.cls = RX6) (hsh : gSh E a = 5) (d : decode mm.2.1 pc = .ok (.getfield 97, 3)) (k : gG l V mm E cs M (pc + 3) lv (.int (nI (M.1 a 7)) :: st)) : gG l V mm E cs M pc lv (.ref (gAd E a) :: st) := g_get (kd := 5) (k := 7) (C := RX4) (T := TX4) (N := 8) hsh (by decide) (by decide) rfl wsX4 (by decide) (by decide) (by rw [hm]; exact wX6_97) (gVl_i hsh rfl) d k
theorem fX6_109 {l : Launch} {V : gVt} {mm : gY} {E : gEnv} {cs : Nat × Nat} {M : gMem} {pc : Nat} {lv : List (Nat × Value)} {st : List Value} {a : Nat} (hm : mm.1.cls = RX6) (hsh : gSh E a = 2) (d : decode mm.2.1 pc = .ok (.getfield 109, 3)) (k : gG l V mm E cs M (pc + 3) lv (.int (nI (M.1 a 0)) :: st)) : gG l V mm E cs M pc lv (.ref (gAd E a) :: st) := g_get (kd := 2) (k := 0) (C := RX1) (T := TX1) (N := 3) hsh (by decide) (by decide) rfl wsX1 (by decide) (by decide) (by rw [hm]; exact wX6_109) (gVl_i hsh rfl) d k
theorem fX6_112 {l : Launch} {V : gVt} {mm : gY} {E : gEnv} {cs : Nat × Nat} {M : gMem} {pc : Nat} {lv : List (Nat × Value)} {st : List Value} {a : Nat} (hm : mm.1.cls = RX6) (hsh : gSh E a = 2) (d : decode mm.2.1 pc = .ok (.getfield 112, 3)) (k : gG l V mm E cs M (pc + 3) lv (.int (nI (M.1 a 1)) :: st)) : gG l V mm E cs M pc lv (.ref (gAd E a) :: st) := g_get (kd := 2) (k := 1) (C := RX1) (T := TX1) (N := 3) hsh (by decide) (by decide) rfl wsX1 (by decide) (by decide) (by rw [hm]; exact wX6_112) (gVl_i hsh rfl) d k
theorem fX6_115 {l : Launch} {V : gVt} {mm : gY} {E : gEnv} {cs : Nat × Nat} {M : gMem} {pc : Nat} {lv : List (Nat × Value)} {st : List Value} {a : Nat} (hm : mm.1.cls = RX6) (hsh : gSh E a = 2) (d : decode mm.2.1 pc = .ok (.getfield 115, 3)) (k : gG l V mm E cs M (pc + 3) lv (.int (nI (M.1 a 2)) :: st)) : gG l V mm E cs M pc lv (.ref (gAd E a) :: st) := g_get (kd := 2) (k := 2) (C := RX1) (T := TX1) (N := 3) hsh (by decide) (by decide) rfl wsX1 (by decide) (by decide) (by rw [hm]; exact wX6_115) (gVl_i hsh rfl) d k
theorem fX6_116 {l : Launch} {V : gVt} {mm : gY} {E : gEnv} {cs : Nat × Nat} {M : gMem} {pc : Nat} {lv : List (Nat × Value)} {st : List Value} {a : Nat} (hm : mm.1.cls = RX6) (hsh : gSh E a = 3) (d : decode mm.2.1 pc = .ok (.getfield 116, 3)) (k : gG l V mm E cs M (pc + 3) lv (.int (nI (M.1 a 1)) :: st)) : gG l V mm E cs M pc lv (.ref (gAd E a) :: st) := g_get (kd := 3) (k := 1) (C := RX2) (T := TX2) (N := 2) hsh (by decide) (by decide) rfl wsX2 (by decide) (by decide) (by rw [hm]; exact wX6_116) (gVl_i hsh rfl) d k
theorem fX6_133 {l : Launch} {V : gVt} {mm : gY} {E : gEnv} {cs : Nat × Nat} {M : gMem} {pc : Nat} {lv : List (Nat × Value)} {st : List Value} {a : Nat} (hm : mm.1.cls = RX6) (hsh : gSh E a = 5) (d : decode mm.2.1 pc = .ok (.getfield 133, 3)) (k : gG l V mm E cs M (pc + 3) lv (.int (nI (M.1 a 0)) :: st)) : gG l V mm E cs M pc lv (.ref (gAd E a) :: st) := g_get (kd := 5) (k := 0) (C := RX4) (T := TX4) (N := 8) hsh (by decide) (by decide) rfl wsX4 (by decide) (by decide) (by rw [hm]; exact wX6_133) (gVl_i hsh rfl) d k
theorem fX6_136 {l : Launch} {V : gVt} {mm : gY} {E : gEnv} {cs : Nat × Nat} {M : gMem} {pc : Nat} {lv : List (Nat × Value)} {st : List Value} {a : Nat} (hm : mm.1.cls = RX6) (hsh : gSh E a = 5) (d : decode mm.2.1 pc = .ok (.getfield 136, 3)) (k : gG l V mm E cs M (pc + 3) lv (.int (nI (M.1 a 1)) :: st)) : gG l V mm E cs M pc lv (.ref (gAd E a) :: st) := g_get (kd := 5) (k := 1) (C := RX4) (T := TX4) (N := 8) hsh (by decide) (by decide) rfl wsX4 (by decide) (by decide) (by rw [hm]; exact wX6_136) (gVl_i hsh rfl) d k
theorem fX6_139 {l : Launch} {V : gVt} {mm : gY} {E : gEnv} {cs : Nat × Nat} {M : gMem} {pc : Nat} {lv : List (Nat × Value)} {st : List Value} {a : Nat} (hm : mm.1.cls = RX6) (hsh : gSh E a = 5) (d : decode mm.2.1 pc = .ok (.getfield 139, 3)) (k : gG l V mm E cs M (pc + 3) lv (.int (nI (M.1 a 2)) :: st)) : gG l V mm E cs M pc lv (.ref (gAd E a) :: st) := g_get (kd := 5) (k := 2) (C := RX4) (T := TX4) (N := 8) hsh (by decide) (by decide) rfl wsX4 (by decide) (by decide) (by rw [hm]; exact wX6_139) (gVl_i hsh rfl) d k
theorem fX6_148 {l : Launch} {V : gVt} {mm : gY} {E : gEnv} {cs : Nat × Nat} {M : gMem} {pc : Nat} {lv : List (Nat × Value)} {st : List Value} {a : Nat} (hm : mm.1.cls = RX6) (hsh : gSh E a = 5) (d : decode mm.2.1 pc = .ok (.getfield 148, 3)) (k : gG l V mm E cs M (pc + 3) lv (.int (nI (M.1 a 5)) :: st)) : gG l V mm E cs M pc lv (.ref (gAd E a) :: st) := g_get (kd := 5) (k := 5) (C := RX4) (T := TX4) (N := 8) hsh (by decide) (by decide) rfl wsX4 (by decide) (by decide) (by rw [hm]; exact wX6_148) (gVl_i hsh rfl) d k
theorem fX6_152 {l : Launch} {V : gVt} {mm : gY} {E : gEnv} {cs : Nat × Nat} {M : gMem} {pc : Nat} {lv : List (Nat × Value)} {st : List Value} {a : Nat} (hm : mm.1.cls = RX6) (hsh : gSh E a = 5) (d : decode mm.2.1 pc = .ok (.getfield 152, 3)) (k : gG l V mm E cs M (pc + 3) lv (.int (nI (M.1 a 6)) :: st)) : gG l V mm E cs M pc lv (.ref (gAd E a) :: st) := g_get (kd := 5) (k := 6) (C := RX4) (T := TX4) (N := 8) hsh (by decide) (by decide) rfl wsX4 (by decide) (by decide) (by rw [hm]; exact wX6_152) (gVl_i hsh rfl) d k
theorem fX6_166 {l : Launch} {V : gVt} {mm : gY} {E : gEnv} {cs : Nat × Nat} {M : gMem} {pc : Nat} {lv : List (Nat × Value)} {st : List Value} {a : Nat} (hm : mm.1.cls = RX6) (hsh : gSh E a = 1) (d : decode mm.2.1 pc = .ok (.getfield 166, 3)) (k : gG l V mm E cs M (pc + 3) lv (.int (nI (M.1 a 3)) :: st)) : gG l V mm E cs M pc lv (.ref (gAd E a) :: st) := g_get (kd := 1) (k := 3) (C := RX0) (T := TX0) (N := 6) hsh (by decide) (by decide) rfl wsX0 (by decide) (by decide) (by rw [hm]; exact wX6_166) (gVl_i hsh rfl) d k
theorem fX6_169 {l : Launch} {V : gVt} {mm : gY} {E : gEnv} {cs : Nat × Nat} {M : gMem} {pc : Nat} {lv : List (Nat × Value)} {st : List Value} {a : Nat} (r : Nat) (hm : mm.1.cls = RX6) (hsh : gSh E a = 1) (hr : M.2 a 2 = r) (h0 : r ≠ 0) (d : decode mm.2.1 pc = .ok (.getfield 169, 3)) (k : gG l V mm E cs M (pc + 3) lv (.ref (gAd E r) :: st)) : gG l V mm E cs M pc lv (.ref (gAd E a) :: st) := g_get (kd := 1) (k := 2) (C := RX0) (T := TX0) (N := 6) hsh (by decide) (by decide) rfl wsX0 (by decide) (by decide) (by rw [hm]; exact wX6_169) (gVl_r hsh rfl hr h0) d k
theorem fX6_181 {l : Launch} {V : gVt} {mm : gY} {E : gEnv} {cs : Nat × Nat} {M : gMem} {pc : Nat} {lv : List (Nat × Value)} {st : List Value} {a : Nat} (hm : mm.1.cls = RX6) (hsh : gSh E a = 1) (d : decode mm.2.1 pc = .ok (.getfield 181, 3)) (k : gG l V mm E cs M (pc + 3) lv (.int (nI (M.1 a 4)) :: st)) : gG l V mm E cs M pc lv (.ref (gAd E a) :: st) := g_get (kd := 1) (k := 4) (C := RX0) (T := TX0) (N := 6) hsh (by decide) (by decide) rfl wsX0 (by decide) (by decide) (by rw [hm]; exact wX6_181) (gVl_i hsh rfl) d k
theorem fX6_184 {l : Launch} {V : gVt} {mm : gY} {E : gEnv} {cs : Nat × Nat} {M : gMem} {pc : Nat} {lv : List (Nat × Value)} {st : List Value} {a : Nat} (hm : mm.1.cls = RX6) (hsh : gSh E a = 1) (d : decode mm.2.1 pc = .ok (.getfield 184, 3)) (k : gG l V mm E cs M (pc + 3) lv (.int (nI (M.1 a 5)) :: st)) : gG l V mm E cs M pc lv (.ref (gAd E a) :: st) := g_get (kd := 1) (k := 5) (C := RX0) (T := TX0) (N := 6) hsh (by decide) (by decide) rfl wsX0 (by decide) (by decide) (by rw [hm]; exact wX6_184) (gVl_i hsh rfl) d k
theorem fX0_11 {l : Launch} {V : gVt} {mm : gY} {E : gEnv} {cs : Nat × Nat} {M : gMem} {pc : Nat} {lv : List (Nat × Value)} {st : List Value} {a : Nat} (r : Nat) (hm : mm.1.cls = RX0) (hsh : gSh E a = 1) (hr : M.2 a 0 = r) (h0 : r ≠ 0) (d : decode mm.2.1 pc = .ok (.getfield 11, 3)) (k : gG l V mm E cs M (pc + 3) lv (.ref (gAd E r) :: st)) : gG l V mm E cs M pc lv (.ref (gAd E a) :: st) := g_get (kd := 1) (k := 0) (C := RX0) (T := TX0) (N := 6) hsh (by decide) (by decide) rfl wsX0 (by decide) (by decide) (by rw [hm]; exact wX0_11) (gVl_r hsh rfl hr h0) d k
theorem fX0_19 {l : Launch} {V : gVt} {mm : gY} {E : gEnv} {cs : Nat × Nat} {M : gMem} {pc : Nat} {lv : List (Nat × Value)} {st : List Value} {a : Nat} (r : Nat) (hm : mm.1.cls = RX0) (hsh : gSh E a = 1) (hr : M.2 a 2 = r) (h0 : r ≠ 0) (d : decode mm.2.1 pc = .ok (.getfield 19, 3)) (k : gG l V mm E cs M (pc + 3) lv (.ref (gAd E r) :: st)) : gG l V mm E cs M pc lv (.ref (gAd E a) :: st) := g_get (kd := 1) (k := 2) (C := RX0) (T := TX0) (N := 6) hsh (by decide) (by decide) rfl wsX0 (by decide) (by decide) (by rw [hm]; exact wX0_19) (gVl_r hsh rfl hr h0) d k
theorem fX0_25 {l : Launch} {V : gVt} {mm : gY} {E : gEnv} {cs : Nat × Nat} {M : gMem} {pc : Nat} {lv : List (Nat × Value)} {st : List Value} {a : Nat} (hm : mm.1.cls = RX0) (hsh : gSh E a = 1) (d : decode mm.2.1 pc = .ok (.getfield 25, 3)) (k : gG l V mm E cs M (pc + 3) lv (.int (nI (M.1 a 1)) :: st)) : gG l V mm E cs M pc lv (.ref (gAd E a) :: st) := g_get (kd := 1) (k := 1) (C := RX0) (T := TX0) (N := 6) hsh (by decide) (by decide) rfl wsX0 (by decide) (by decide) (by rw [hm]; exact wX0_25) (gVl_i hsh rfl) d k
theorem fX0_29 {l : Launch} {V : gVt} {mm : gY} {E : gEnv} {cs : Nat × Nat} {M : gMem} {pc : Nat} {lv : List (Nat × Value)} {st : List Value} {a : Nat} (hm : mm.1.cls = RX0) (hsh : gSh E a = 1) (d : decode mm.2.1 pc = .ok (.getfield 29, 3)) (k : gG l V mm E cs M (pc + 3) lv (.int (nI (M.1 a 3)) :: st)) : gG l V mm E cs M pc lv (.ref (gAd E a) :: st) := g_get (kd := 1) (k := 3) (C := RX0) (T := TX0) (N := 6) hsh (by decide) (by decide) rfl wsX0 (by decide) (by decide) (by rw [hm]; exact wX0_29) (gVl_i hsh rfl) d k
theorem fX0_32 {l : Launch} {V : gVt} {mm : gY} {E : gEnv} {cs : Nat × Nat} {M : gMem} {pc : Nat} {lv : List (Nat × Value)} {st : List Value} {a : Nat} (hm : mm.1.cls = RX0) (hsh : gSh E a = 1) (d : decode mm.2.1 pc = .ok (.getfield 32, 3)) (k : gG l V mm E cs M (pc + 3) lv (.int (nI (M.1 a 4)) :: st)) : gG l V mm E cs M pc lv (.ref (gAd E a) :: st) := g_get (kd := 1) (k := 4) (C := RX0) (T := TX0) (N := 6) hsh (by decide) (by decide) rfl wsX0 (by decide) (by decide) (by rw [hm]; exact wX0_32) (gVl_i hsh rfl) d k
theorem fX0_35 {l : Launch} {V : gVt} {mm : gY} {E : gEnv} {cs : Nat × Nat} {M : gMem} {pc : Nat} {lv : List (Nat × Value)} {st : List Value} {a : Nat} (hm : mm.1.cls = RX0) (hsh : gSh E a = 1) (d : decode mm.2.1 pc = .ok (.getfield 35, 3)) (k : gG l V mm E cs M (pc + 3) lv (.int (nI (M.1 a 5)) :: st)) : gG l V mm E cs M pc lv (.ref (gAd E a) :: st) := g_get (kd := 1) (k := 5) (C := RX0) (T := TX0) (N := 6) hsh (by decide) (by decide) rfl wsX0 (by decide) (by decide) (by rw [hm]; exact wX0_35) (gVl_i hsh rfl) d k
theorem fX0_46 {l : Launch} {V : gVt} {mm : gY} {E : gEnv} {cs : Nat × Nat} {M : gMem} {pc : Nat} {lv : List (Nat × Value)} {st : List Value} {a : Nat} (hm : mm.1.cls = RX0) (hsh : gSh E a = 5) (d : decode mm.2.1 pc = .ok (.getfield 46, 3)) (k : gG l V mm E cs M (pc + 3) lv (.int (nI (M.1 a 0)) :: st)) : gG l V mm E cs M pc lv (.ref (gAd E a) :: st) := g_get (kd := 5) (k := 0) (C := RX4) (T := TX4) (N := 8) hsh (by decide) (by decide) rfl wsX4 (by decide) (by decide) (by rw [hm]; exact wX0_46) (gVl_i hsh rfl) d k
theorem fX0_52 {l : Launch} {V : gVt} {mm : gY} {E : gEnv} {cs : Nat × Nat} {M : gMem} {pc : Nat} {lv : List (Nat × Value)} {st : List Value} {a : Nat} (hm : mm.1.cls = RX0) (hsh : gSh E a = 5) (d : decode mm.2.1 pc = .ok (.getfield 52, 3)) (k : gG l V mm E cs M (pc + 3) lv (.int (nI (M.1 a 2)) :: st)) : gG l V mm E cs M pc lv (.ref (gAd E a) :: st) := g_get (kd := 5) (k := 2) (C := RX4) (T := TX4) (N := 8) hsh (by decide) (by decide) rfl wsX4 (by decide) (by decide) (by rw [hm]; exact wX0_52) (gVl_i hsh rfl) d k
theorem fX0_65 {l : Launch} {V : gVt} {mm : gY} {E : gEnv} {cs : Nat × Nat} {M : gMem} {pc : Nat} {lv : List (Nat × Value)} {st : List Value} {a : Nat} (hm : mm.1.cls = RX0) (hsh : gSh E a = 5) (d : decode mm.2.1 pc = .ok (.getfield 65, 3)) (k : gG l V mm E cs M (pc + 3) lv (.int (nI (M.1 a 6)) :: st)) : gG l V mm E cs M pc lv (.ref (gAd E a) :: st) := g_get (kd := 5) (k := 6) (C := RX4) (T := TX4) (N := 8) hsh (by decide) (by decide) rfl wsX4 (by decide) (by decide) (by rw [hm]; exact wX0_65) (gVl_i hsh rfl) d k
theorem fX0_77 {l : Launch} {V : gVt} {mm : gY} {E : gEnv} {cs : Nat × Nat} {M : gMem} {pc : Nat} {lv : List (Nat × Value)} {st : List Value} {a : Nat} (hm : mm.1.cls = RX0) (hsh : gSh E a = 4) (d : decode mm.2.1 pc = .ok (.getfield 77, 3)) (k : gG l V mm E cs M (pc + 3) lv (.int (nI (M.1 a 0)) :: st)) : gG l V mm E cs M pc lv (.ref (gAd E a) :: st) := g_get (kd := 4) (k := 0) (C := RX3) (T := TX3) (N := 3) hsh (by decide) (by decide) rfl wsX3 (by decide) (by decide) (by rw [hm]; exact wX0_77) (gVl_i hsh rfl) d k
theorem fX0_80 {l : Launch} {V : gVt} {mm : gY} {E : gEnv} {cs : Nat × Nat} {M : gMem} {pc : Nat} {lv : List (Nat × Value)} {st : List Value} {a : Nat} (hm : mm.1.cls = RX0) (hsh : gSh E a = 4) (d : decode mm.2.1 pc = .ok (.getfield 80, 3)) (k : gG l V mm E cs M (pc + 3) lv (.int (nI (M.1 a 1)) :: st)) : gG l V mm E cs M pc lv (.ref (gAd E a) :: st) := g_get (kd := 4) (k := 1) (C := RX3) (T := TX3) (N := 3) hsh (by decide) (by decide) rfl wsX3 (by decide) (by decide) (by rw [hm]; exact wX0_80) (gVl_i hsh rfl) d k
theorem fX0_83 {l : Launch} {V : gVt} {mm : gY} {E : gEnv} {cs : Nat × Nat} {M : gMem} {pc : Nat} {lv : List (Nat × Value)} {st : List Value} {a : Nat} (hm : mm.1.cls = RX0) (hsh : gSh E a = 4) (d : decode mm.2.1 pc = .ok (.getfield 83, 3)) (k : gG l V mm E cs M (pc + 3) lv (.int (nI (M.1 a 2)) :: st)) : gG l V mm E cs M pc lv (.ref (gAd E a) :: st) := g_get (kd := 4) (k := 2) (C := RX3) (T := TX3) (N := 3) hsh (by decide) (by decide) rfl wsX3 (by decide) (by decide) (by rw [hm]; exact wX0_83) (gVl_i hsh rfl) d k
theorem fX2_11 {l : Launch} {V : gVt} {mm : gY} {E : gEnv} {cs : Nat × Nat} {M : gMem} {pc : Nat} {lv : List (Nat × Value)} {st : List Value} {a : Nat} (r : Nat) (hm : mm.1.cls = RX2) (hsh : gSh E a = 3) (hr : M.2 a 0 = r) (h0 : r ≠ 0) (d : decode mm.2.1 pc = .ok (.getfield 11, 3)) (k : gG l V mm E cs M (pc + 3) lv (.ref (gAd E r) :: st)) : gG l V mm E cs M pc lv (.ref (gAd E a) :: st) := g_get (kd := 3) (k := 0) (C := RX2) (T := TX2) (N := 2) hsh (by decide) (by decide) rfl wsX2 (by decide) (by decide) (by rw [hm]; exact wX2_11) (gVl_r hsh rfl hr h0) d k
theorem fX2_18 {l : Launch} {V : gVt} {mm : gY} {E : gEnv} {cs : Nat × Nat} {M : gMem} {pc : Nat} {lv : List (Nat × Value)} {st : List Value} {a : Nat} (hm : mm.1.cls = RX2) (hsh : gSh E a = 3) (d : decode mm.2.1 pc = .ok (.getfield 18, 3)) (k : gG l V mm E cs M (pc + 3) lv (.int (nI (M.1 a 1)) :: st)) : gG l V mm E cs M pc lv (.ref (gAd E a) :: st) := g_get (kd := 3) (k := 1) (C := RX2) (T := TX2) (N := 2) hsh (by decide) (by decide) rfl wsX2 (by decide) (by decide) (by rw [hm]; exact wX2_18) (gVl_i hsh rfl) d k
theorem fX4_9 {l : Launch} {V : gVt} {mm : gY} {E : gEnv} {cs : Nat × Nat} {M : gMem} {pc : Nat} {lv : List (Nat × Value)} {st : List Value} {a : Nat} (hm : mm.1.cls = RX4) (hsh : gSh E a = 5) (d : decode mm.2.1 pc = .ok (.getfield 9, 3)) (k : gG l V mm E cs M (pc + 3) lv (.int (nI (M.1 a 3)) :: st)) : gG l V mm E cs M pc lv (.ref (gAd E a) :: st) := g_get (kd := 5) (k := 3) (C := RX4) (T := TX4) (N := 8) hsh (by decide) (by decide) rfl wsX4 (by decide) (by decide) (by rw [hm]; exact wX4_9) (gVl_i hsh rfl) d k
theorem fX4_15 {l : Launch} {V : gVt} {mm : gY} {E : gEnv} {cs : Nat × Nat} {M : gMem} {pc : Nat} {lv : List (Nat × Value)} {st : List Value} {a : Nat} (hm : mm.1.cls = RX4) (hsh : gSh E a = 5) (d : decode mm.2.1 pc = .ok (.getfield 15, 3)) (k : gG l V mm E cs M (pc + 3) lv (.int (nI (M.1 a 7)) :: st)) : gG l V mm E cs M pc lv (.ref (gAd E a) :: st) := g_get (kd := 5) (k := 7) (C := RX4) (T := TX4) (N := 8) hsh (by decide) (by decide) rfl wsX4 (by decide) (by decide) (by rw [hm]; exact wX4_15) (gVl_i hsh rfl) d k
theorem fX4_18 {l : Launch} {V : gVt} {mm : gY} {E : gEnv} {cs : Nat × Nat} {M : gMem} {pc : Nat} {lv : List (Nat × Value)} {st : List Value} {a : Nat} (hm : mm.1.cls = RX4) (hsh : gSh E a = 5) (d : decode mm.2.1 pc = .ok (.getfield 18, 3)) (k : gG l V mm E cs M (pc + 3) lv (.int (nI (M.1 a 4)) :: st)) : gG l V mm E cs M pc lv (.ref (gAd E a) :: st) := g_get (kd := 5) (k := 4) (C := RX4) (T := TX4) (N := 8) hsh (by decide) (by decide) rfl wsX4 (by decide) (by decide) (by rw [hm]; exact wX4_18) (gVl_i hsh rfl) d k
theorem fX4_32 {l : Launch} {V : gVt} {mm : gY} {E : gEnv} {cs : Nat × Nat} {M : gMem} {pc : Nat} {lv : List (Nat × Value)} {st : List Value} {a : Nat} (hm : mm.1.cls = RX4) (hsh : gSh E a = 5) (d : decode mm.2.1 pc = .ok (.getfield 32, 3)) (k : gG l V mm E cs M (pc + 3) lv (.int (nI (M.1 a 0)) :: st)) : gG l V mm E cs M pc lv (.ref (gAd E a) :: st) := g_get (kd := 5) (k := 0) (C := RX4) (T := TX4) (N := 8) hsh (by decide) (by decide) rfl wsX4 (by decide) (by decide) (by rw [hm]; exact wX4_32) (gVl_i hsh rfl) d k
theorem fX4_43 {l : Launch} {V : gVt} {mm : gY} {E : gEnv} {cs : Nat × Nat} {M : gMem} {pc : Nat} {lv : List (Nat × Value)} {st : List Value} {a : Nat} (hm : mm.1.cls = RX4) (hsh : gSh E a = 5) (d : decode mm.2.1 pc = .ok (.getfield 43, 3)) (k : gG l V mm E cs M (pc + 3) lv (.int (nI (M.1 a 1)) :: st)) : gG l V mm E cs M pc lv (.ref (gAd E a) :: st) := g_get (kd := 5) (k := 1) (C := RX4) (T := TX4) (N := 8) hsh (by decide) (by decide) rfl wsX4 (by decide) (by decide) (by rw [hm]; exact wX4_43) (gVl_i hsh rfl) d k
theorem fX4_49 {l : Launch} {V : gVt} {mm : gY} {E : gEnv} {cs : Nat × Nat} {M : gMem} {pc : Nat} {lv : List (Nat × Value)} {st : List Value} {a : Nat} (hm : mm.1.cls = RX4) (hsh : gSh E a = 5) (d : decode mm.2.1 pc = .ok (.getfield 49, 3)) (k : gG l V mm E cs M (pc + 3) lv (.int (nI (M.1 a 2)) :: st)) : gG l V mm E cs M pc lv (.ref (gAd E a) :: st) := g_get (kd := 5) (k := 2) (C := RX4) (T := TX4) (N := 8) hsh (by decide) (by decide) rfl wsX4 (by decide) (by decide) (by rw [hm]; exact wX4_49) (gVl_i hsh rfl) d k
theorem fX4_69 {l : Launch} {V : gVt} {mm : gY} {E : gEnv} {cs : Nat × Nat} {M : gMem} {pc : Nat} {lv : List (Nat × Value)} {st : List Value} {a : Nat} (hm : mm.1.cls = RX4) (hsh : gSh E a = 5) (d : decode mm.2.1 pc = .ok (.getfield 69, 3)) (k : gG l V mm E cs M (pc + 3) lv (.int (nI (M.1 a 5)) :: st)) : gG l V mm E cs M pc lv (.ref (gAd E a) :: st) := g_get (kd := 5) (k := 5) (C := RX4) (T := TX4) (N := 8) hsh (by decide) (by decide) rfl wsX4 (by decide) (by decide) (by rw [hm]; exact wX4_69) (gVl_i hsh rfl) d k
theorem fX5_9 {l : Launch} {V : gVt} {mm : gY} {E : gEnv} {cs : Nat × Nat} {M : gMem} {pc : Nat} {lv : List (Nat × Value)} {st : List Value} {a : Nat} (r : Nat) (hm : mm.1.cls = RX5) (hsh : gSh E a = 6) (hr : M.2 a 0 = r) (h0 : r ≠ 0) (d : decode mm.2.1 pc = .ok (.getfield 9, 3)) (k : gG l V mm E cs M (pc + 3) lv (.ref (gAd E r) :: st)) : gG l V mm E cs M pc lv (.ref (gAd E a) :: st) := g_get (kd := 6) (k := 0) (C := RX5) (T := TX5) (N := 1) hsh (by decide) (by decide) rfl wsX5 (by decide) (by decide) (by rw [hm]; exact wX5_9) (gVl_r hsh rfl hr h0) d k
theorem fX7_7 {l : Launch} {V : gVt} {mm : gY} {E : gEnv} {cs : Nat × Nat} {M : gMem} {pc : Nat} {lv : List (Nat × Value)} {st : List Value} {a : Nat} (r : Nat) (hm : mm.1.cls = RX7) (hsh : gSh E a = 8) (hr : M.2 a 0 = r) (h0 : r ≠ 0) (d : decode mm.2.1 pc = .ok (.getfield 7, 3)) (k : gG l V mm E cs M (pc + 3) lv (.ref (gAd E r) :: st)) : gG l V mm E cs M pc lv (.ref (gAd E a) :: st) := g_get (kd := 8) (k := 0) (C := RX7) (T := TX7) (N := 22) hsh (by decide) (by decide) rfl wsX7 (by decide) (by decide) (by rw [hm]; exact wX7_7) (gVl_r hsh rfl hr h0) d k
theorem fX7_13 {l : Launch} {V : gVt} {mm : gY} {E : gEnv} {cs : Nat × Nat} {M : gMem} {pc : Nat} {lv : List (Nat × Value)} {st : List Value} {a : Nat} (r : Nat) (hm : mm.1.cls = RX7) (hsh : gSh E a = 8) (hr : M.2 a 3 = r) (h0 : r ≠ 0) (d : decode mm.2.1 pc = .ok (.getfield 13, 3)) (k : gG l V mm E cs M (pc + 3) lv (.ref (gAd E r) :: st)) : gG l V mm E cs M pc lv (.ref (gAd E a) :: st) := g_get (kd := 8) (k := 3) (C := RX7) (T := TX7) (N := 22) hsh (by decide) (by decide) rfl wsX7 (by decide) (by decide) (by rw [hm]; exact wX7_13) (gVl_r hsh rfl hr h0) d k
theorem fX7_16 {l : Launch} {V : gVt} {mm : gY} {E : gEnv} {cs : Nat × Nat} {M : gMem} {pc : Nat} {lv : List (Nat × Value)} {st : List Value} {a : Nat} (r : Nat) (hm : mm.1.cls = RX7) (hsh : gSh E a = 8) (hr : M.2 a 4 = r) (h0 : r ≠ 0) (d : decode mm.2.1 pc = .ok (.getfield 16, 3)) (k : gG l V mm E cs M (pc + 3) lv (.ref (gAd E r) :: st)) : gG l V mm E cs M pc lv (.ref (gAd E a) :: st) := g_get (kd := 8) (k := 4) (C := RX7) (T := TX7) (N := 22) hsh (by decide) (by decide) rfl wsX7 (by decide) (by decide) (by rw [hm]; exact wX7_16) (gVl_r hsh rfl hr h0) d k
theorem fX7_19 {l : Launch} {V : gVt} {mm : gY} {E : gEnv} {cs : Nat × Nat} {M : gMem} {pc : Nat} {lv : List (Nat × Value)} {st : List Value} {a : Nat} (r : Nat) (hm : mm.1.cls = RX7) (hsh : gSh E a = 8) (hr : M.2 a 9 = r) (h0 : r ≠ 0) (d : decode mm.2.1 pc = .ok (.getfield 19, 3)) (k : gG l V mm E cs M (pc + 3) lv (.ref (gAd E r) :: st)) : gG l V mm E cs M pc lv (.ref (gAd E a) :: st) := g_get (kd := 8) (k := 9) (C := RX7) (T := TX7) (N := 22) hsh (by decide) (by decide) rfl wsX7 (by decide) (by decide) (by rw [hm]; exact wX7_19) (gVl_r hsh rfl hr h0) d k
theorem fX7_22 {l : Launch} {V : gVt} {mm : gY} {E : gEnv} {cs : Nat × Nat} {M : gMem} {pc : Nat} {lv : List (Nat × Value)} {st : List Value} {a : Nat} (r : Nat) (hm : mm.1.cls = RX7) (hsh : gSh E a = 8) (hr : M.2 a 10 = r) (h0 : r ≠ 0) (d : decode mm.2.1 pc = .ok (.getfield 22, 3)) (k : gG l V mm E cs M (pc + 3) lv (.ref (gAd E r) :: st)) : gG l V mm E cs M pc lv (.ref (gAd E a) :: st) := g_get (kd := 8) (k := 10) (C := RX7) (T := TX7) (N := 22) hsh (by decide) (by decide) rfl wsX7 (by decide) (by decide) (by rw [hm]; exact wX7_22) (gVl_r hsh rfl hr h0) d k
theorem fX7_25 {l : Launch} {V : gVt} {mm : gY} {E : gEnv} {cs : Nat × Nat} {M : gMem} {pc : Nat} {lv : List (Nat × Value)} {st : List Value} {a : Nat} (r : Nat) (hm : mm.1.cls = RX7) (hsh : gSh E a = 8) (hr : M.2 a 15 = r) (h0 : r ≠ 0) (d : decode mm.2.1 pc = .ok (.getfield 25, 3)) (k : gG l V mm E cs M (pc + 3) lv (.ref (gAd E r) :: st)) : gG l V mm E cs M pc lv (.ref (gAd E a) :: st) := g_get (kd := 8) (k := 15) (C := RX7) (T := TX7) (N := 22) hsh (by decide) (by decide) rfl wsX7 (by decide) (by decide) (by rw [hm]; exact wX7_25) (gVl_r hsh rfl hr h0) d k
theorem fX7_28 {l : Launch} {V : gVt} {mm : gY} {E : gEnv} {cs : Nat × Nat} {M : gMem} {pc : Nat} {lv : List (Nat × Value)} {st : List Value} {a : Nat} (r : Nat) (hm : mm.1.cls = RX7) (hsh : gSh E a = 8) (hr : M.2 a 16 = r) (h0 : r ≠ 0) (d : decode mm.2.1 pc = .ok (.getfield 28, 3)) (k : gG l V mm E cs M (pc + 3) lv (.ref (gAd E r) :: st)) : gG l V mm E cs M pc lv (.ref (gAd E a) :: st) := g_get (kd := 8) (k := 16) (C := RX7) (T := TX7) (N := 22) hsh (by decide) (by decide) rfl wsX7 (by decide) (by decide) (by rw [hm]; exact wX7_28) (gVl_r hsh rfl hr h0) d k
theorem fX7_31 {l : Launch} {V : gVt} {mm : gY} {E : gEnv} {cs : Nat × Nat} {M : gMem} {pc : Nat} {lv : List (Nat × Value)} {st : List Value} {a : Nat} (r : Nat) (hm : mm.1.cls = RX7) (hsh : gSh E a = 8) (hr : M.2 a 18 = r) (h0 : r ≠ 0) (d : decode mm.2.1 pc = .ok (.getfield 31, 3)) (k : gG l V mm E cs M (pc + 3) lv (.ref (gAd E r) :: st)) : gG l V mm E cs M pc lv (.ref (gAd E a) :: st) := g_get (kd := 8) (k := 18) (C := RX7) (T := TX7) (N := 22) hsh (by decide) (by decide) rfl wsX7 (by decide) (by decide) (by rw [hm]; exact wX7_31) (gVl_r hsh rfl hr h0) d k
theorem fX7_37 {l : Launch} {V : gVt} {mm : gY} {E : gEnv} {cs : Nat × Nat} {M : gMem} {pc : Nat} {lv : List (Nat × Value)} {st : List Value} {a : Nat} (hm : mm.1.cls = RX7) (hsh : gSh E a = 8) (d : decode mm.2.1 pc = .ok (.getfield 37, 3)) (k : gG l V mm E cs M (pc + 3) lv (.int (nI (M.1 a 7)) :: st)) : gG l V mm E cs M pc lv (.ref (gAd E a) :: st) := g_get (kd := 8) (k := 7) (C := RX7) (T := TX7) (N := 22) hsh (by decide) (by decide) rfl wsX7 (by decide) (by decide) (by rw [hm]; exact wX7_37) (gVl_i hsh rfl) d k
theorem fX7_41 {l : Launch} {V : gVt} {mm : gY} {E : gEnv} {cs : Nat × Nat} {M : gMem} {pc : Nat} {lv : List (Nat × Value)} {st : List Value} {a : Nat} (hm : mm.1.cls = RX7) (hsh : gSh E a = 8) (d : decode mm.2.1 pc = .ok (.getfield 41, 3)) (k : gG l V mm E cs M (pc + 3) lv (.int (nI (M.1 a 8)) :: st)) : gG l V mm E cs M pc lv (.ref (gAd E a) :: st) := g_get (kd := 8) (k := 8) (C := RX7) (T := TX7) (N := 22) hsh (by decide) (by decide) rfl wsX7 (by decide) (by decide) (by rw [hm]; exact wX7_41) (gVl_i hsh rfl) d k
theorem fX7_55 {l : Launch} {V : gVt} {mm : gY} {E : gEnv} {cs : Nat × Nat} {M : gMem} {pc : Nat} {lv : List (Nat × Value)} {st : List Value} {a : Nat} (hm : mm.1.cls = RX7) (hsh : gSh E a = 8) (d : decode mm.2.1 pc = .ok (.getfield 55, 3)) (k : gG l V mm E cs M (pc + 3) lv (.int (nI (M.1 a 5)) :: st)) : gG l V mm E cs M pc lv (.ref (gAd E a) :: st) := g_get (kd := 8) (k := 5) (C := RX7) (T := TX7) (N := 22) hsh (by decide) (by decide) rfl wsX7 (by decide) (by decide) (by rw [hm]; exact wX7_55) (gVl_i hsh rfl) d k
theorem fX7_58 {l : Launch} {V : gVt} {mm : gY} {E : gEnv} {cs : Nat × Nat} {M : gMem} {pc : Nat} {lv : List (Nat × Value)} {st : List Value} {a : Nat} (hm : mm.1.cls = RX7) (hsh : gSh E a = 8) (d : decode mm.2.1 pc = .ok (.getfield 58, 3)) (k : gG l V mm E cs M (pc + 3) lv (.int (nI (M.1 a 6)) :: st)) : gG l V mm E cs M pc lv (.ref (gAd E a) :: st) := g_get (kd := 8) (k := 6) (C := RX7) (T := TX7) (N := 22) hsh (by decide) (by decide) rfl wsX7 (by decide) (by decide) (by rw [hm]; exact wX7_58) (gVl_i hsh rfl) d k
theorem fX7_61 {l : Launch} {V : gVt} {mm : gY} {E : gEnv} {cs : Nat × Nat} {M : gMem} {pc : Nat} {lv : List (Nat × Value)} {st : List Value} {a : Nat} (hm : mm.1.cls = RX7) (hsh : gSh E a = 8) (d : decode mm.2.1 pc = .ok (.getfield 61, 3)) (k : gG l V mm E cs M (pc + 3) lv (.int (nI (M.1 a 11)) :: st)) : gG l V mm E cs M pc lv (.ref (gAd E a) :: st) := g_get (kd := 8) (k := 11) (C := RX7) (T := TX7) (N := 22) hsh (by decide) (by decide) rfl wsX7 (by decide) (by decide) (by rw [hm]; exact wX7_61) (gVl_i hsh rfl) d k
theorem fX7_64 {l : Launch} {V : gVt} {mm : gY} {E : gEnv} {cs : Nat × Nat} {M : gMem} {pc : Nat} {lv : List (Nat × Value)} {st : List Value} {a : Nat} (hm : mm.1.cls = RX7) (hsh : gSh E a = 8) (d : decode mm.2.1 pc = .ok (.getfield 64, 3)) (k : gG l V mm E cs M (pc + 3) lv (.int (nI (M.1 a 12)) :: st)) : gG l V mm E cs M pc lv (.ref (gAd E a) :: st) := g_get (kd := 8) (k := 12) (C := RX7) (T := TX7) (N := 22) hsh (by decide) (by decide) rfl wsX7 (by decide) (by decide) (by rw [hm]; exact wX7_64) (gVl_i hsh rfl) d k
theorem fX7_67 {l : Launch} {V : gVt} {mm : gY} {E : gEnv} {cs : Nat × Nat} {M : gMem} {pc : Nat} {lv : List (Nat × Value)} {st : List Value} {a : Nat} (hm : mm.1.cls = RX7) (hsh : gSh E a = 8) (d : decode mm.2.1 pc = .ok (.getfield 67, 3)) (k : gG l V mm E cs M (pc + 3) lv (.int (nI (M.1 a 13)) :: st)) : gG l V mm E cs M pc lv (.ref (gAd E a) :: st) := g_get (kd := 8) (k := 13) (C := RX7) (T := TX7) (N := 22) hsh (by decide) (by decide) rfl wsX7 (by decide) (by decide) (by rw [hm]; exact wX7_67) (gVl_i hsh rfl) d k
theorem fX7_70 {l : Launch} {V : gVt} {mm : gY} {E : gEnv} {cs : Nat × Nat} {M : gMem} {pc : Nat} {lv : List (Nat × Value)} {st : List Value} {a : Nat} (hm : mm.1.cls = RX7) (hsh : gSh E a = 8) (d : decode mm.2.1 pc = .ok (.getfield 70, 3)) (k : gG l V mm E cs M (pc + 3) lv (.int (nI (M.1 a 14)) :: st)) : gG l V mm E cs M pc lv (.ref (gAd E a) :: st) := g_get (kd := 8) (k := 14) (C := RX7) (T := TX7) (N := 22) hsh (by decide) (by decide) rfl wsX7 (by decide) (by decide) (by rw [hm]; exact wX7_70) (gVl_i hsh rfl) d k
theorem fX7_73 {l : Launch} {V : gVt} {mm : gY} {E : gEnv} {cs : Nat × Nat} {M : gMem} {pc : Nat} {lv : List (Nat × Value)} {st : List Value} {a : Nat} (hm : mm.1.cls = RX7) (hsh : gSh E a = 8) (d : decode mm.2.1 pc = .ok (.getfield 73, 3)) (k : gG l V mm E cs M (pc + 3) lv (.int (nI (M.1 a 17)) :: st)) : gG l V mm E cs M pc lv (.ref (gAd E a) :: st) := g_get (kd := 8) (k := 17) (C := RX7) (T := TX7) (N := 22) hsh (by decide) (by decide) rfl wsX7 (by decide) (by decide) (by rw [hm]; exact wX7_73) (gVl_i hsh rfl) d k
theorem fX7_76 {l : Launch} {V : gVt} {mm : gY} {E : gEnv} {cs : Nat × Nat} {M : gMem} {pc : Nat} {lv : List (Nat × Value)} {st : List Value} {a : Nat} (hm : mm.1.cls = RX7) (hsh : gSh E a = 8) (d : decode mm.2.1 pc = .ok (.getfield 76, 3)) (k : gG l V mm E cs M (pc + 3) lv (.int (nI (M.1 a 2)) :: st)) : gG l V mm E cs M pc lv (.ref (gAd E a) :: st) := g_get (kd := 8) (k := 2) (C := RX7) (T := TX7) (N := 22) hsh (by decide) (by decide) rfl wsX7 (by decide) (by decide) (by rw [hm]; exact wX7_76) (gVl_i hsh rfl) d k
theorem fX7_79 {l : Launch} {V : gVt} {mm : gY} {E : gEnv} {cs : Nat × Nat} {M : gMem} {pc : Nat} {lv : List (Nat × Value)} {st : List Value} {a : Nat} (hm : mm.1.cls = RX7) (hsh : gSh E a = 8) (d : decode mm.2.1 pc = .ok (.getfield 79, 3)) (k : gG l V mm E cs M (pc + 3) lv (.int (nI (M.1 a 1)) :: st)) : gG l V mm E cs M pc lv (.ref (gAd E a) :: st) := g_get (kd := 8) (k := 1) (C := RX7) (T := TX7) (N := 22) hsh (by decide) (by decide) rfl wsX7 (by decide) (by decide) (by rw [hm]; exact wX7_79) (gVl_i hsh rfl) d k
theorem fX7_162 {l : Launch} {V : gVt} {mm : gY} {E : gEnv} {cs : Nat × Nat} {M : gMem} {pc : Nat} {lv : List (Nat × Value)} {st : List Value} {a : Nat} (hm : mm.1.cls = RX7) (hsh : gSh E a = 8) (d : decode mm.2.1 pc = .ok (.getfield 162, 3)) (k : gG l V mm E cs M (pc + 3) lv (.int (nI (M.1 a 19)) :: st)) : gG l V mm E cs M pc lv (.ref (gAd E a) :: st) := g_get (kd := 8) (k := 19) (C := RX7) (T := TX7) (N := 22) hsh (by decide) (by decide) rfl wsX7 (by decide) (by decide) (by rw [hm]; exact wX7_162) (gVl_i hsh rfl) d k
theorem fX7_165 {l : Launch} {V : gVt} {mm : gY} {E : gEnv} {cs : Nat × Nat} {M : gMem} {pc : Nat} {lv : List (Nat × Value)} {st : List Value} {a : Nat} (hm : mm.1.cls = RX7) (hsh : gSh E a = 8) (d : decode mm.2.1 pc = .ok (.getfield 165, 3)) (k : gG l V mm E cs M (pc + 3) lv (.int (nI (M.1 a 20)) :: st)) : gG l V mm E cs M pc lv (.ref (gAd E a) :: st) := g_get (kd := 8) (k := 20) (C := RX7) (T := TX7) (N := 22) hsh (by decide) (by decide) rfl wsX7 (by decide) (by decide) (by rw [hm]; exact wX7_165) (gVl_i hsh rfl) d k
theorem fX7_171 {l : Launch} {V : gVt} {mm : gY} {E : gEnv} {cs : Nat × Nat} {M : gMem} {pc : Nat} {lv : List (Nat × Value)} {st : List Value} {a : Nat} (hm : mm.1.cls = RX7) (hsh : gSh E a = 8) (d : decode mm.2.1 pc = .ok (.getfield 171, 3)) (k : gG l V mm E cs M (pc + 3) lv (.int (nI (M.1 a 21)) :: st)) : gG l V mm E cs M pc lv (.ref (gAd E a) :: st) := g_get (kd := 8) (k := 21) (C := RX7) (T := TX7) (N := 22) hsh (by decide) (by decide) rfl wsX7 (by decide) (by decide) (by rw [hm]; exact wX7_171) (gVl_i hsh rfl) d k
theorem nI_bool {x : Nat} (h : x < 2) : narrow .boolean (.int (nI x)) = .int (nI x) ∧ fits .boolean (.int (nI x)) = true := by
  rcases Nat.lt_or_ge x 1 with h1 | h1
  · rw [show x = 0 by omega]; exact ⟨rfl, rfl⟩
  · rw [show x = 1 by omega]; exact ⟨rfl, rfl⟩
theorem uX6_9 {l : Launch} {V : gVt} {mm : gY} {E : gEnv} {cs : Nat × Nat} {M : gMem} {pc : Nat} {lv : List (Nat × Value)} {st : List Value} {a : Nat} {x : Nat} (hm : mm.1.cls = RX6) (hini : mm.1.name = "<init>") (hsh : gSh E a = 7) (h0 : x ≠ 0) (d : decode mm.2.1 pc = .ok (.putfield 9, 3)) (k : gG l V mm E cs (gUr M a 0 x) (pc + 3) lv st) : gG l V mm E cs M pc lv (.ref (gAd E x) :: .ref (gAd E a) :: st) := g_putF tyX6 (kd := 7) (k := 0) (C := RX6) (T := TX6) (N := 7) hsh (by decide) (by decide) rfl (by decide) wsX6 tyX6_ok nmX6 (by decide) (by rw [hm]; exact wX6_9) rfl hini (by rw [hm]; rfl) rfl rfl (gUr_vl hsh rfl h0) gUr_vo gUr_en d k
theorem uX6_16 {l : Launch} {V : gVt} {mm : gY} {E : gEnv} {cs : Nat × Nat} {M : gMem} {pc : Nat} {lv : List (Nat × Value)} {st : List Value} {a : Nat} {x : Nat} (hm : mm.1.cls = RX6) (hini : mm.1.name = "<init>") (hsh : gSh E a = 7) (h0 : x ≠ 0) (d : decode mm.2.1 pc = .ok (.putfield 16, 3)) (k : gG l V mm E cs (gUr M a 2 x) (pc + 3) lv st) : gG l V mm E cs M pc lv (.ref (gAd E x) :: .ref (gAd E a) :: st) := g_putF tyX6 (kd := 7) (k := 2) (C := RX6) (T := TX6) (N := 7) hsh (by decide) (by decide) rfl (by decide) wsX6 tyX6_ok nmX6 (by decide) (by rw [hm]; exact wX6_16) rfl hini (by rw [hm]; rfl) rfl rfl (gUr_vl hsh rfl h0) gUr_vo gUr_en d k
theorem uX6_23 {l : Launch} {V : gVt} {mm : gY} {E : gEnv} {cs : Nat × Nat} {M : gMem} {pc : Nat} {lv : List (Nat × Value)} {st : List Value} {a : Nat} {x : Nat} (hm : mm.1.cls = RX6) (hsh : gSh E a = 7) (h0 : x ≠ 0) (d : decode mm.2.1 pc = .ok (.putfield 23, 3)) (k : gG l V mm E cs (gUr M a 3 x) (pc + 3) lv st) : gG l V mm E cs M pc lv (.ref (gAd E x) :: .ref (gAd E a) :: st) := g_put tyX6 (kd := 7) (k := 3) (C := RX6) (T := TX6) (N := 7) hsh (by decide) (by decide) rfl (by decide) wsX6 tyX6_ok nmX6 (by decide) (by rw [hm]; exact wX6_23) rfl rfl rfl (gUr_vl hsh rfl h0) gUr_vo gUr_en d k
theorem uX6_27 {l : Launch} {V : gVt} {mm : gY} {E : gEnv} {cs : Nat × Nat} {M : gMem} {pc : Nat} {lv : List (Nat × Value)} {st : List Value} {a : Nat} {x : Nat} (hm : mm.1.cls = RX6) (hsh : gSh E a = 7) (h0 : x ≠ 0) (d : decode mm.2.1 pc = .ok (.putfield 27, 3)) (k : gG l V mm E cs (gUr M a 4 x) (pc + 3) lv st) : gG l V mm E cs M pc lv (.ref (gAd E x) :: .ref (gAd E a) :: st) := g_put tyX6 (kd := 7) (k := 4) (C := RX6) (T := TX6) (N := 7) hsh (by decide) (by decide) rfl (by decide) wsX6 tyX6_ok nmX6 (by decide) (by rw [hm]; exact wX6_27) rfl rfl rfl (gUr_vl hsh rfl h0) gUr_vo gUr_en d k
theorem uX6_33 {l : Launch} {V : gVt} {mm : gY} {E : gEnv} {cs : Nat × Nat} {M : gMem} {pc : Nat} {lv : List (Nat × Value)} {st : List Value} {a : Nat} {x : Nat} (hm : mm.1.cls = RX6) (hini : mm.1.name = "<init>") (hsh : gSh E a = 7) (h0 : x ≠ 0) (d : decode mm.2.1 pc = .ok (.putfield 33, 3)) (k : gG l V mm E cs (gUr M a 6 x) (pc + 3) lv st) : gG l V mm E cs M pc lv (.ref (gAd E x) :: .ref (gAd E a) :: st) := g_putF tyX6 (kd := 7) (k := 6) (C := RX6) (T := TX6) (N := 7) hsh (by decide) (by decide) rfl (by decide) wsX6 tyX6_ok nmX6 (by decide) (by rw [hm]; exact wX6_33) rfl hini (by rw [hm]; rfl) rfl rfl (gUr_vl hsh rfl h0) gUr_vo gUr_en d k
theorem uX6_49 {l : Launch} {V : gVt} {mm : gY} {E : gEnv} {cs : Nat × Nat} {M : gMem} {pc : Nat} {lv : List (Nat × Value)} {st : List Value} {a : Nat} {x : Nat} (hm : mm.1.cls = RX6) (hsh : gSh E a = 7) (d : decode mm.2.1 pc = .ok (.putfield 49, 3)) (k : gG l V mm E cs (gU M a 1 x) (pc + 3) lv st) : gG l V mm E cs M pc lv (.int (nI x) :: .ref (gAd E a) :: st) := g_put tyX6 (kd := 7) (k := 1) (C := RX6) (T := TX6) (N := 7) hsh (by decide) (by decide) rfl (by decide) wsX6 tyX6_ok nmX6 (by decide) (by rw [hm]; exact wX6_49) rfl rfl rfl (gU_vl hsh rfl) gU_vo gU_en d k
theorem uX6_63 {l : Launch} {V : gVt} {mm : gY} {E : gEnv} {cs : Nat × Nat} {M : gMem} {pc : Nat} {lv : List (Nat × Value)} {st : List Value} {a : Nat} {x : Nat} (hm : mm.1.cls = RX6) (hsh : gSh E a = 7) (d : decode mm.2.1 pc = .ok (.putfield 63, 3)) (k : gG l V mm E cs (gU M a 5 x) (pc + 3) lv st) : gG l V mm E cs M pc lv (.int (nI x) :: .ref (gAd E a) :: st) := g_put tyX6 (kd := 7) (k := 5) (C := RX6) (T := TX6) (N := 7) hsh (by decide) (by decide) rfl (by decide) wsX6 tyX6_ok nmX6 (by decide) (by rw [hm]; exact wX6_63) rfl rfl rfl (gU_vl hsh rfl) gU_vo gU_en d k
theorem uX6_97 {l : Launch} {V : gVt} {mm : gY} {E : gEnv} {cs : Nat × Nat} {M : gMem} {pc : Nat} {lv : List (Nat × Value)} {st : List Value} {a : Nat} {x : Nat} (hm : mm.1.cls = RX6) (hsh : gSh E a = 5) (d : decode mm.2.1 pc = .ok (.putfield 97, 3)) (k : gG l V mm E cs (gU M a 7 x) (pc + 3) lv st) : gG l V mm E cs M pc lv (.int (nI x) :: .ref (gAd E a) :: st) := g_put tyX4 (kd := 5) (k := 7) (C := RX4) (T := TX4) (N := 8) hsh (by decide) (by decide) rfl (by decide) wsX4 tyX4_ok nmX4 (by decide) (by rw [hm]; exact wX6_97) rfl rfl rfl (gU_vl hsh rfl) gU_vo gU_en d k
theorem uX0_11 {l : Launch} {V : gVt} {mm : gY} {E : gEnv} {cs : Nat × Nat} {M : gMem} {pc : Nat} {lv : List (Nat × Value)} {st : List Value} {a : Nat} {x : Nat} (hm : mm.1.cls = RX0) (hini : mm.1.name = "<init>") (hsh : gSh E a = 1) (h0 : x ≠ 0) (d : decode mm.2.1 pc = .ok (.putfield 11, 3)) (k : gG l V mm E cs (gUr M a 0 x) (pc + 3) lv st) : gG l V mm E cs M pc lv (.ref (gAd E x) :: .ref (gAd E a) :: st) := g_putF tyX0 (kd := 1) (k := 0) (C := RX0) (T := TX0) (N := 6) hsh (by decide) (by decide) rfl (by decide) wsX0 tyX0_ok nmX0 (by decide) (by rw [hm]; exact wX0_11) rfl hini (by rw [hm]; rfl) rfl rfl (gUr_vl hsh rfl h0) gUr_vo gUr_en d k
theorem uX0_19 {l : Launch} {V : gVt} {mm : gY} {E : gEnv} {cs : Nat × Nat} {M : gMem} {pc : Nat} {lv : List (Nat × Value)} {st : List Value} {a : Nat} {x : Nat} (hm : mm.1.cls = RX0) (hini : mm.1.name = "<init>") (hsh : gSh E a = 1) (h0 : x ≠ 0) (d : decode mm.2.1 pc = .ok (.putfield 19, 3)) (k : gG l V mm E cs (gUr M a 2 x) (pc + 3) lv st) : gG l V mm E cs M pc lv (.ref (gAd E x) :: .ref (gAd E a) :: st) := g_putF tyX0 (kd := 1) (k := 2) (C := RX0) (T := TX0) (N := 6) hsh (by decide) (by decide) rfl (by decide) wsX0 tyX0_ok nmX0 (by decide) (by rw [hm]; exact wX0_19) rfl hini (by rw [hm]; rfl) rfl rfl (gUr_vl hsh rfl h0) gUr_vo gUr_en d k
theorem uX0_25 {l : Launch} {V : gVt} {mm : gY} {E : gEnv} {cs : Nat × Nat} {M : gMem} {pc : Nat} {lv : List (Nat × Value)} {st : List Value} {a : Nat} {x : Nat} (hm : mm.1.cls = RX0) (hsh : gSh E a = 1) (d : decode mm.2.1 pc = .ok (.putfield 25, 3)) (k : gG l V mm E cs (gU M a 1 x) (pc + 3) lv st) : gG l V mm E cs M pc lv (.int (nI x) :: .ref (gAd E a) :: st) := g_put tyX0 (kd := 1) (k := 1) (C := RX0) (T := TX0) (N := 6) hsh (by decide) (by decide) rfl (by decide) wsX0 tyX0_ok nmX0 (by decide) (by rw [hm]; exact wX0_25) rfl rfl rfl (gU_vl hsh rfl) gU_vo gU_en d k
theorem uX0_29 {l : Launch} {V : gVt} {mm : gY} {E : gEnv} {cs : Nat × Nat} {M : gMem} {pc : Nat} {lv : List (Nat × Value)} {st : List Value} {a : Nat} {x : Nat} (hm : mm.1.cls = RX0) (hsh : gSh E a = 1) (d : decode mm.2.1 pc = .ok (.putfield 29, 3)) (k : gG l V mm E cs (gU M a 3 x) (pc + 3) lv st) : gG l V mm E cs M pc lv (.int (nI x) :: .ref (gAd E a) :: st) := g_put tyX0 (kd := 1) (k := 3) (C := RX0) (T := TX0) (N := 6) hsh (by decide) (by decide) rfl (by decide) wsX0 tyX0_ok nmX0 (by decide) (by rw [hm]; exact wX0_29) rfl rfl rfl (gU_vl hsh rfl) gU_vo gU_en d k
theorem uX0_32 {l : Launch} {V : gVt} {mm : gY} {E : gEnv} {cs : Nat × Nat} {M : gMem} {pc : Nat} {lv : List (Nat × Value)} {st : List Value} {a : Nat} {x : Nat} (hm : mm.1.cls = RX0) (hsh : gSh E a = 1) (d : decode mm.2.1 pc = .ok (.putfield 32, 3)) (k : gG l V mm E cs (gU M a 4 x) (pc + 3) lv st) : gG l V mm E cs M pc lv (.int (nI x) :: .ref (gAd E a) :: st) := g_put tyX0 (kd := 1) (k := 4) (C := RX0) (T := TX0) (N := 6) hsh (by decide) (by decide) rfl (by decide) wsX0 tyX0_ok nmX0 (by decide) (by rw [hm]; exact wX0_32) rfl rfl rfl (gU_vl hsh rfl) gU_vo gU_en d k
theorem uX0_35 {l : Launch} {V : gVt} {mm : gY} {E : gEnv} {cs : Nat × Nat} {M : gMem} {pc : Nat} {lv : List (Nat × Value)} {st : List Value} {a : Nat} {x : Nat} (hm : mm.1.cls = RX0) (hsh : gSh E a = 1) (d : decode mm.2.1 pc = .ok (.putfield 35, 3)) (k : gG l V mm E cs (gU M a 5 x) (pc + 3) lv st) : gG l V mm E cs M pc lv (.int (nI x) :: .ref (gAd E a) :: st) := g_put tyX0 (kd := 1) (k := 5) (C := RX0) (T := TX0) (N := 6) hsh (by decide) (by decide) rfl (by decide) wsX0 tyX0_ok nmX0 (by decide) (by rw [hm]; exact wX0_35) rfl rfl rfl (gU_vl hsh rfl) gU_vo gU_en d k
theorem uX0_46 {l : Launch} {V : gVt} {mm : gY} {E : gEnv} {cs : Nat × Nat} {M : gMem} {pc : Nat} {lv : List (Nat × Value)} {st : List Value} {a : Nat} {x : Nat} (hm : mm.1.cls = RX0) (hsh : gSh E a = 5) (d : decode mm.2.1 pc = .ok (.putfield 46, 3)) (k : gG l V mm E cs (gU M a 0 x) (pc + 3) lv st) : gG l V mm E cs M pc lv (.int (nI x) :: .ref (gAd E a) :: st) := g_put tyX4 (kd := 5) (k := 0) (C := RX4) (T := TX4) (N := 8) hsh (by decide) (by decide) rfl (by decide) wsX4 tyX4_ok nmX4 (by decide) (by rw [hm]; exact wX0_46) rfl rfl rfl (gU_vl hsh rfl) gU_vo gU_en d k
theorem uX0_49 {l : Launch} {V : gVt} {mm : gY} {E : gEnv} {cs : Nat × Nat} {M : gMem} {pc : Nat} {lv : List (Nat × Value)} {st : List Value} {a : Nat} {x : Nat} (hm : mm.1.cls = RX0) (hsh : gSh E a = 5) (d : decode mm.2.1 pc = .ok (.putfield 49, 3)) (k : gG l V mm E cs (gU M a 1 x) (pc + 3) lv st) : gG l V mm E cs M pc lv (.int (nI x) :: .ref (gAd E a) :: st) := g_put tyX4 (kd := 5) (k := 1) (C := RX4) (T := TX4) (N := 8) hsh (by decide) (by decide) rfl (by decide) wsX4 tyX4_ok nmX4 (by decide) (by rw [hm]; exact wX0_49) rfl rfl rfl (gU_vl hsh rfl) gU_vo gU_en d k
theorem uX0_52 {l : Launch} {V : gVt} {mm : gY} {E : gEnv} {cs : Nat × Nat} {M : gMem} {pc : Nat} {lv : List (Nat × Value)} {st : List Value} {a : Nat} {x : Nat} (hm : mm.1.cls = RX0) (hsh : gSh E a = 5) (d : decode mm.2.1 pc = .ok (.putfield 52, 3)) (k : gG l V mm E cs (gU M a 2 x) (pc + 3) lv st) : gG l V mm E cs M pc lv (.int (nI x) :: .ref (gAd E a) :: st) := g_put tyX4 (kd := 5) (k := 2) (C := RX4) (T := TX4) (N := 8) hsh (by decide) (by decide) rfl (by decide) wsX4 tyX4_ok nmX4 (by decide) (by rw [hm]; exact wX0_52) rfl rfl rfl (gU_vl hsh rfl) gU_vo gU_en d k
theorem uX0_55 {l : Launch} {V : gVt} {mm : gY} {E : gEnv} {cs : Nat × Nat} {M : gMem} {pc : Nat} {lv : List (Nat × Value)} {st : List Value} {a : Nat} {x : Nat} (hm : mm.1.cls = RX0) (hsh : gSh E a = 5) (d : decode mm.2.1 pc = .ok (.putfield 55, 3)) (k : gG l V mm E cs (gU M a 3 x) (pc + 3) lv st) : gG l V mm E cs M pc lv (.int (nI x) :: .ref (gAd E a) :: st) := g_put tyX4 (kd := 5) (k := 3) (C := RX4) (T := TX4) (N := 8) hsh (by decide) (by decide) rfl (by decide) wsX4 tyX4_ok nmX4 (by decide) (by rw [hm]; exact wX0_55) rfl rfl rfl (gU_vl hsh rfl) gU_vo gU_en d k
theorem uX0_58 {l : Launch} {V : gVt} {mm : gY} {E : gEnv} {cs : Nat × Nat} {M : gMem} {pc : Nat} {lv : List (Nat × Value)} {st : List Value} {a : Nat} {x : Nat} (hm : mm.1.cls = RX0) (hsh : gSh E a = 5) (d : decode mm.2.1 pc = .ok (.putfield 58, 3)) (k : gG l V mm E cs (gU M a 4 x) (pc + 3) lv st) : gG l V mm E cs M pc lv (.int (nI x) :: .ref (gAd E a) :: st) := g_put tyX4 (kd := 5) (k := 4) (C := RX4) (T := TX4) (N := 8) hsh (by decide) (by decide) rfl (by decide) wsX4 tyX4_ok nmX4 (by decide) (by rw [hm]; exact wX0_58) rfl rfl rfl (gU_vl hsh rfl) gU_vo gU_en d k
theorem uX0_61 {l : Launch} {V : gVt} {mm : gY} {E : gEnv} {cs : Nat × Nat} {M : gMem} {pc : Nat} {lv : List (Nat × Value)} {st : List Value} {a : Nat} {x : Nat} (hm : mm.1.cls = RX0) (hsh : gSh E a = 5) (hx : x < 2) (d : decode mm.2.1 pc = .ok (.putfield 61, 3)) (k : gG l V mm E cs (gU M a 5 x) (pc + 3) lv st) : gG l V mm E cs M pc lv (.int (nI x) :: .ref (gAd E a) :: st) := g_put tyX4 (kd := 5) (k := 5) (C := RX4) (T := TX4) (N := 8) hsh (by decide) (by decide) rfl (by decide) wsX4 tyX4_ok nmX4 (by decide) (by rw [hm]; exact wX0_61) rfl (nI_bool hx).1 (nI_bool hx).2 (gU_vl hsh rfl) gU_vo gU_en d k
theorem uX0_65 {l : Launch} {V : gVt} {mm : gY} {E : gEnv} {cs : Nat × Nat} {M : gMem} {pc : Nat} {lv : List (Nat × Value)} {st : List Value} {a : Nat} {x : Nat} (hm : mm.1.cls = RX0) (hsh : gSh E a = 5) (d : decode mm.2.1 pc = .ok (.putfield 65, 3)) (k : gG l V mm E cs (gU M a 6 x) (pc + 3) lv st) : gG l V mm E cs M pc lv (.int (nI x) :: .ref (gAd E a) :: st) := g_put tyX4 (kd := 5) (k := 6) (C := RX4) (T := TX4) (N := 8) hsh (by decide) (by decide) rfl (by decide) wsX4 tyX4_ok nmX4 (by decide) (by rw [hm]; exact wX0_65) rfl rfl rfl (gU_vl hsh rfl) gU_vo gU_en d k
theorem uX0_68 {l : Launch} {V : gVt} {mm : gY} {E : gEnv} {cs : Nat × Nat} {M : gMem} {pc : Nat} {lv : List (Nat × Value)} {st : List Value} {a : Nat} {x : Nat} (hm : mm.1.cls = RX0) (hsh : gSh E a = 5) (d : decode mm.2.1 pc = .ok (.putfield 68, 3)) (k : gG l V mm E cs (gU M a 7 x) (pc + 3) lv st) : gG l V mm E cs M pc lv (.int (nI x) :: .ref (gAd E a) :: st) := g_put tyX4 (kd := 5) (k := 7) (C := RX4) (T := TX4) (N := 8) hsh (by decide) (by decide) rfl (by decide) wsX4 tyX4_ok nmX4 (by decide) (by rw [hm]; exact wX0_68) rfl rfl rfl (gU_vl hsh rfl) gU_vo gU_en d k
theorem uX0_77 {l : Launch} {V : gVt} {mm : gY} {E : gEnv} {cs : Nat × Nat} {M : gMem} {pc : Nat} {lv : List (Nat × Value)} {st : List Value} {a : Nat} {x : Nat} (hm : mm.1.cls = RX0) (hsh : gSh E a = 4) (d : decode mm.2.1 pc = .ok (.putfield 77, 3)) (k : gG l V mm E cs (gU M a 0 x) (pc + 3) lv st) : gG l V mm E cs M pc lv (.int (nI x) :: .ref (gAd E a) :: st) := g_put tyX3 (kd := 4) (k := 0) (C := RX3) (T := TX3) (N := 3) hsh (by decide) (by decide) rfl (by decide) wsX3 tyX3_ok nmX3 (by decide) (by rw [hm]; exact wX0_77) rfl rfl rfl (gU_vl hsh rfl) gU_vo gU_en d k
theorem uX0_80 {l : Launch} {V : gVt} {mm : gY} {E : gEnv} {cs : Nat × Nat} {M : gMem} {pc : Nat} {lv : List (Nat × Value)} {st : List Value} {a : Nat} {x : Nat} (hm : mm.1.cls = RX0) (hsh : gSh E a = 4) (d : decode mm.2.1 pc = .ok (.putfield 80, 3)) (k : gG l V mm E cs (gU M a 1 x) (pc + 3) lv st) : gG l V mm E cs M pc lv (.int (nI x) :: .ref (gAd E a) :: st) := g_put tyX3 (kd := 4) (k := 1) (C := RX3) (T := TX3) (N := 3) hsh (by decide) (by decide) rfl (by decide) wsX3 tyX3_ok nmX3 (by decide) (by rw [hm]; exact wX0_80) rfl rfl rfl (gU_vl hsh rfl) gU_vo gU_en d k
theorem uX0_83 {l : Launch} {V : gVt} {mm : gY} {E : gEnv} {cs : Nat × Nat} {M : gMem} {pc : Nat} {lv : List (Nat × Value)} {st : List Value} {a : Nat} {x : Nat} (hm : mm.1.cls = RX0) (hsh : gSh E a = 4) (d : decode mm.2.1 pc = .ok (.putfield 83, 3)) (k : gG l V mm E cs (gU M a 2 x) (pc + 3) lv st) : gG l V mm E cs M pc lv (.int (nI x) :: .ref (gAd E a) :: st) := g_put tyX3 (kd := 4) (k := 2) (C := RX3) (T := TX3) (N := 3) hsh (by decide) (by decide) rfl (by decide) wsX3 tyX3_ok nmX3 (by decide) (by rw [hm]; exact wX0_83) rfl rfl rfl (gU_vl hsh rfl) gU_vo gU_en d k
theorem uX2_11 {l : Launch} {V : gVt} {mm : gY} {E : gEnv} {cs : Nat × Nat} {M : gMem} {pc : Nat} {lv : List (Nat × Value)} {st : List Value} {a : Nat} {x : Nat} (hm : mm.1.cls = RX2) (hini : mm.1.name = "<init>") (hsh : gSh E a = 3) (h0 : x ≠ 0) (d : decode mm.2.1 pc = .ok (.putfield 11, 3)) (k : gG l V mm E cs (gUr M a 0 x) (pc + 3) lv st) : gG l V mm E cs M pc lv (.ref (gAd E x) :: .ref (gAd E a) :: st) := g_putF tyX2 (kd := 3) (k := 0) (C := RX2) (T := TX2) (N := 2) hsh (by decide) (by decide) rfl (by decide) wsX2 tyX2_ok nmX2 (by decide) (by rw [hm]; exact wX2_11) rfl hini (by rw [hm]; rfl) rfl rfl (gUr_vl hsh rfl h0) gUr_vo gUr_en d k
theorem uX2_18 {l : Launch} {V : gVt} {mm : gY} {E : gEnv} {cs : Nat × Nat} {M : gMem} {pc : Nat} {lv : List (Nat × Value)} {st : List Value} {a : Nat} {x : Nat} (hm : mm.1.cls = RX2) (hsh : gSh E a = 3) (d : decode mm.2.1 pc = .ok (.putfield 18, 3)) (k : gG l V mm E cs (gU M a 1 x) (pc + 3) lv st) : gG l V mm E cs M pc lv (.int (nI x) :: .ref (gAd E a) :: st) := g_put tyX2 (kd := 3) (k := 1) (C := RX2) (T := TX2) (N := 2) hsh (by decide) (by decide) rfl (by decide) wsX2 tyX2_ok nmX2 (by decide) (by rw [hm]; exact wX2_18) rfl rfl rfl (gU_vl hsh rfl) gU_vo gU_en d k
theorem uX2_25 {l : Launch} {V : gVt} {mm : gY} {E : gEnv} {cs : Nat × Nat} {M : gMem} {pc : Nat} {lv : List (Nat × Value)} {st : List Value} {a : Nat} {x : Nat} (hm : mm.1.cls = RX2) (hsh : gSh E a = 2) (d : decode mm.2.1 pc = .ok (.putfield 25, 3)) (k : gG l V mm E cs (gU M a 0 x) (pc + 3) lv st) : gG l V mm E cs M pc lv (.int (nI x) :: .ref (gAd E a) :: st) := g_put tyX1 (kd := 2) (k := 0) (C := RX1) (T := TX1) (N := 3) hsh (by decide) (by decide) rfl (by decide) wsX1 tyX1_ok nmX1 (by decide) (by rw [hm]; exact wX2_25) rfl rfl rfl (gU_vl hsh rfl) gU_vo gU_en d k
theorem uX2_28 {l : Launch} {V : gVt} {mm : gY} {E : gEnv} {cs : Nat × Nat} {M : gMem} {pc : Nat} {lv : List (Nat × Value)} {st : List Value} {a : Nat} {x : Nat} (hm : mm.1.cls = RX2) (hsh : gSh E a = 2) (d : decode mm.2.1 pc = .ok (.putfield 28, 3)) (k : gG l V mm E cs (gU M a 1 x) (pc + 3) lv st) : gG l V mm E cs M pc lv (.int (nI x) :: .ref (gAd E a) :: st) := g_put tyX1 (kd := 2) (k := 1) (C := RX1) (T := TX1) (N := 3) hsh (by decide) (by decide) rfl (by decide) wsX1 tyX1_ok nmX1 (by decide) (by rw [hm]; exact wX2_28) rfl rfl rfl (gU_vl hsh rfl) gU_vo gU_en d k
theorem uX2_31 {l : Launch} {V : gVt} {mm : gY} {E : gEnv} {cs : Nat × Nat} {M : gMem} {pc : Nat} {lv : List (Nat × Value)} {st : List Value} {a : Nat} {x : Nat} (hm : mm.1.cls = RX2) (hsh : gSh E a = 2) (d : decode mm.2.1 pc = .ok (.putfield 31, 3)) (k : gG l V mm E cs (gU M a 2 x) (pc + 3) lv st) : gG l V mm E cs M pc lv (.int (nI x) :: .ref (gAd E a) :: st) := g_put tyX1 (kd := 2) (k := 2) (C := RX1) (T := TX1) (N := 3) hsh (by decide) (by decide) rfl (by decide) wsX1 tyX1_ok nmX1 (by decide) (by rw [hm]; exact wX2_31) rfl rfl rfl (gU_vl hsh rfl) gU_vo gU_en d k
theorem uX5_9 {l : Launch} {V : gVt} {mm : gY} {E : gEnv} {cs : Nat × Nat} {M : gMem} {pc : Nat} {lv : List (Nat × Value)} {st : List Value} {a : Nat} {x : Nat} (hm : mm.1.cls = RX5) (hini : mm.1.name = "<init>") (hsh : gSh E a = 6) (h0 : x ≠ 0) (d : decode mm.2.1 pc = .ok (.putfield 9, 3)) (k : gG l V mm E cs (gUr M a 0 x) (pc + 3) lv st) : gG l V mm E cs M pc lv (.ref (gAd E x) :: .ref (gAd E a) :: st) := g_putF tyX5 (kd := 6) (k := 0) (C := RX5) (T := TX5) (N := 1) hsh (by decide) (by decide) rfl (by decide) wsX5 tyX5_ok nmX5 (by decide) (by rw [hm]; exact wX5_9) rfl hini (by rw [hm]; rfl) rfl rfl (gUr_vl hsh rfl h0) gUr_vo gUr_en d k
theorem uX7_7 {l : Launch} {V : gVt} {mm : gY} {E : gEnv} {cs : Nat × Nat} {M : gMem} {pc : Nat} {lv : List (Nat × Value)} {st : List Value} {a : Nat} {x : Nat} (hm : mm.1.cls = RX7) (hini : mm.1.name = "<init>") (hsh : gSh E a = 8) (h0 : x ≠ 0) (d : decode mm.2.1 pc = .ok (.putfield 7, 3)) (k : gG l V mm E cs (gUr M a 0 x) (pc + 3) lv st) : gG l V mm E cs M pc lv (.ref (gAd E x) :: .ref (gAd E a) :: st) := g_putF tyX7 (kd := 8) (k := 0) (C := RX7) (T := TX7) (N := 22) hsh (by decide) (by decide) rfl (by decide) wsX7 tyX7_ok nmX7 (by decide) (by rw [hm]; exact wX7_7) rfl hini (by rw [hm]; rfl) rfl rfl (gUr_vl hsh rfl h0) gUr_vo gUr_en d k
theorem uX7_13 {l : Launch} {V : gVt} {mm : gY} {E : gEnv} {cs : Nat × Nat} {M : gMem} {pc : Nat} {lv : List (Nat × Value)} {st : List Value} {a : Nat} {x : Nat} (hm : mm.1.cls = RX7) (hini : mm.1.name = "<init>") (hsh : gSh E a = 8) (h0 : x ≠ 0) (d : decode mm.2.1 pc = .ok (.putfield 13, 3)) (k : gG l V mm E cs (gUr M a 3 x) (pc + 3) lv st) : gG l V mm E cs M pc lv (.ref (gAd E x) :: .ref (gAd E a) :: st) := g_putF tyX7 (kd := 8) (k := 3) (C := RX7) (T := TX7) (N := 22) hsh (by decide) (by decide) rfl (by decide) wsX7 tyX7_ok nmX7 (by decide) (by rw [hm]; exact wX7_13) rfl hini (by rw [hm]; rfl) rfl rfl (gUr_vl hsh rfl h0) gUr_vo gUr_en d k
theorem uX7_16 {l : Launch} {V : gVt} {mm : gY} {E : gEnv} {cs : Nat × Nat} {M : gMem} {pc : Nat} {lv : List (Nat × Value)} {st : List Value} {a : Nat} {x : Nat} (hm : mm.1.cls = RX7) (hini : mm.1.name = "<init>") (hsh : gSh E a = 8) (h0 : x ≠ 0) (d : decode mm.2.1 pc = .ok (.putfield 16, 3)) (k : gG l V mm E cs (gUr M a 4 x) (pc + 3) lv st) : gG l V mm E cs M pc lv (.ref (gAd E x) :: .ref (gAd E a) :: st) := g_putF tyX7 (kd := 8) (k := 4) (C := RX7) (T := TX7) (N := 22) hsh (by decide) (by decide) rfl (by decide) wsX7 tyX7_ok nmX7 (by decide) (by rw [hm]; exact wX7_16) rfl hini (by rw [hm]; rfl) rfl rfl (gUr_vl hsh rfl h0) gUr_vo gUr_en d k
theorem uX7_19 {l : Launch} {V : gVt} {mm : gY} {E : gEnv} {cs : Nat × Nat} {M : gMem} {pc : Nat} {lv : List (Nat × Value)} {st : List Value} {a : Nat} {x : Nat} (hm : mm.1.cls = RX7) (hini : mm.1.name = "<init>") (hsh : gSh E a = 8) (h0 : x ≠ 0) (d : decode mm.2.1 pc = .ok (.putfield 19, 3)) (k : gG l V mm E cs (gUr M a 9 x) (pc + 3) lv st) : gG l V mm E cs M pc lv (.ref (gAd E x) :: .ref (gAd E a) :: st) := g_putF tyX7 (kd := 8) (k := 9) (C := RX7) (T := TX7) (N := 22) hsh (by decide) (by decide) rfl (by decide) wsX7 tyX7_ok nmX7 (by decide) (by rw [hm]; exact wX7_19) rfl hini (by rw [hm]; rfl) rfl rfl (gUr_vl hsh rfl h0) gUr_vo gUr_en d k
theorem uX7_22 {l : Launch} {V : gVt} {mm : gY} {E : gEnv} {cs : Nat × Nat} {M : gMem} {pc : Nat} {lv : List (Nat × Value)} {st : List Value} {a : Nat} {x : Nat} (hm : mm.1.cls = RX7) (hini : mm.1.name = "<init>") (hsh : gSh E a = 8) (h0 : x ≠ 0) (d : decode mm.2.1 pc = .ok (.putfield 22, 3)) (k : gG l V mm E cs (gUr M a 10 x) (pc + 3) lv st) : gG l V mm E cs M pc lv (.ref (gAd E x) :: .ref (gAd E a) :: st) := g_putF tyX7 (kd := 8) (k := 10) (C := RX7) (T := TX7) (N := 22) hsh (by decide) (by decide) rfl (by decide) wsX7 tyX7_ok nmX7 (by decide) (by rw [hm]; exact wX7_22) rfl hini (by rw [hm]; rfl) rfl rfl (gUr_vl hsh rfl h0) gUr_vo gUr_en d k
theorem uX7_25 {l : Launch} {V : gVt} {mm : gY} {E : gEnv} {cs : Nat × Nat} {M : gMem} {pc : Nat} {lv : List (Nat × Value)} {st : List Value} {a : Nat} {x : Nat} (hm : mm.1.cls = RX7) (hini : mm.1.name = "<init>") (hsh : gSh E a = 8) (h0 : x ≠ 0) (d : decode mm.2.1 pc = .ok (.putfield 25, 3)) (k : gG l V mm E cs (gUr M a 15 x) (pc + 3) lv st) : gG l V mm E cs M pc lv (.ref (gAd E x) :: .ref (gAd E a) :: st) := g_putF tyX7 (kd := 8) (k := 15) (C := RX7) (T := TX7) (N := 22) hsh (by decide) (by decide) rfl (by decide) wsX7 tyX7_ok nmX7 (by decide) (by rw [hm]; exact wX7_25) rfl hini (by rw [hm]; rfl) rfl rfl (gUr_vl hsh rfl h0) gUr_vo gUr_en d k
theorem uX7_28 {l : Launch} {V : gVt} {mm : gY} {E : gEnv} {cs : Nat × Nat} {M : gMem} {pc : Nat} {lv : List (Nat × Value)} {st : List Value} {a : Nat} {x : Nat} (hm : mm.1.cls = RX7) (hini : mm.1.name = "<init>") (hsh : gSh E a = 8) (h0 : x ≠ 0) (d : decode mm.2.1 pc = .ok (.putfield 28, 3)) (k : gG l V mm E cs (gUr M a 16 x) (pc + 3) lv st) : gG l V mm E cs M pc lv (.ref (gAd E x) :: .ref (gAd E a) :: st) := g_putF tyX7 (kd := 8) (k := 16) (C := RX7) (T := TX7) (N := 22) hsh (by decide) (by decide) rfl (by decide) wsX7 tyX7_ok nmX7 (by decide) (by rw [hm]; exact wX7_28) rfl hini (by rw [hm]; rfl) rfl rfl (gUr_vl hsh rfl h0) gUr_vo gUr_en d k
theorem uX7_31 {l : Launch} {V : gVt} {mm : gY} {E : gEnv} {cs : Nat × Nat} {M : gMem} {pc : Nat} {lv : List (Nat × Value)} {st : List Value} {a : Nat} {x : Nat} (hm : mm.1.cls = RX7) (hini : mm.1.name = "<init>") (hsh : gSh E a = 8) (h0 : x ≠ 0) (d : decode mm.2.1 pc = .ok (.putfield 31, 3)) (k : gG l V mm E cs (gUr M a 18 x) (pc + 3) lv st) : gG l V mm E cs M pc lv (.ref (gAd E x) :: .ref (gAd E a) :: st) := g_putF tyX7 (kd := 8) (k := 18) (C := RX7) (T := TX7) (N := 22) hsh (by decide) (by decide) rfl (by decide) wsX7 tyX7_ok nmX7 (by decide) (by rw [hm]; exact wX7_31) rfl hini (by rw [hm]; rfl) rfl rfl (gUr_vl hsh rfl h0) gUr_vo gUr_en d k
theorem uX7_37 {l : Launch} {V : gVt} {mm : gY} {E : gEnv} {cs : Nat × Nat} {M : gMem} {pc : Nat} {lv : List (Nat × Value)} {st : List Value} {a : Nat} {x : Nat} (hm : mm.1.cls = RX7) (hsh : gSh E a = 8) (d : decode mm.2.1 pc = .ok (.putfield 37, 3)) (k : gG l V mm E cs (gU M a 7 x) (pc + 3) lv st) : gG l V mm E cs M pc lv (.int (nI x) :: .ref (gAd E a) :: st) := g_put tyX7 (kd := 8) (k := 7) (C := RX7) (T := TX7) (N := 22) hsh (by decide) (by decide) rfl (by decide) wsX7 tyX7_ok nmX7 (by decide) (by rw [hm]; exact wX7_37) rfl rfl rfl (gU_vl hsh rfl) gU_vo gU_en d k
theorem uX7_41 {l : Launch} {V : gVt} {mm : gY} {E : gEnv} {cs : Nat × Nat} {M : gMem} {pc : Nat} {lv : List (Nat × Value)} {st : List Value} {a : Nat} {x : Nat} (hm : mm.1.cls = RX7) (hsh : gSh E a = 8) (d : decode mm.2.1 pc = .ok (.putfield 41, 3)) (k : gG l V mm E cs (gU M a 8 x) (pc + 3) lv st) : gG l V mm E cs M pc lv (.int (nI x) :: .ref (gAd E a) :: st) := g_put tyX7 (kd := 8) (k := 8) (C := RX7) (T := TX7) (N := 22) hsh (by decide) (by decide) rfl (by decide) wsX7 tyX7_ok nmX7 (by decide) (by rw [hm]; exact wX7_41) rfl rfl rfl (gU_vl hsh rfl) gU_vo gU_en d k
theorem uX7_55 {l : Launch} {V : gVt} {mm : gY} {E : gEnv} {cs : Nat × Nat} {M : gMem} {pc : Nat} {lv : List (Nat × Value)} {st : List Value} {a : Nat} {x : Nat} (hm : mm.1.cls = RX7) (hsh : gSh E a = 8) (d : decode mm.2.1 pc = .ok (.putfield 55, 3)) (k : gG l V mm E cs (gU M a 5 x) (pc + 3) lv st) : gG l V mm E cs M pc lv (.int (nI x) :: .ref (gAd E a) :: st) := g_put tyX7 (kd := 8) (k := 5) (C := RX7) (T := TX7) (N := 22) hsh (by decide) (by decide) rfl (by decide) wsX7 tyX7_ok nmX7 (by decide) (by rw [hm]; exact wX7_55) rfl rfl rfl (gU_vl hsh rfl) gU_vo gU_en d k
theorem uX7_58 {l : Launch} {V : gVt} {mm : gY} {E : gEnv} {cs : Nat × Nat} {M : gMem} {pc : Nat} {lv : List (Nat × Value)} {st : List Value} {a : Nat} {x : Nat} (hm : mm.1.cls = RX7) (hsh : gSh E a = 8) (d : decode mm.2.1 pc = .ok (.putfield 58, 3)) (k : gG l V mm E cs (gU M a 6 x) (pc + 3) lv st) : gG l V mm E cs M pc lv (.int (nI x) :: .ref (gAd E a) :: st) := g_put tyX7 (kd := 8) (k := 6) (C := RX7) (T := TX7) (N := 22) hsh (by decide) (by decide) rfl (by decide) wsX7 tyX7_ok nmX7 (by decide) (by rw [hm]; exact wX7_58) rfl rfl rfl (gU_vl hsh rfl) gU_vo gU_en d k
theorem uX7_61 {l : Launch} {V : gVt} {mm : gY} {E : gEnv} {cs : Nat × Nat} {M : gMem} {pc : Nat} {lv : List (Nat × Value)} {st : List Value} {a : Nat} {x : Nat} (hm : mm.1.cls = RX7) (hsh : gSh E a = 8) (d : decode mm.2.1 pc = .ok (.putfield 61, 3)) (k : gG l V mm E cs (gU M a 11 x) (pc + 3) lv st) : gG l V mm E cs M pc lv (.int (nI x) :: .ref (gAd E a) :: st) := g_put tyX7 (kd := 8) (k := 11) (C := RX7) (T := TX7) (N := 22) hsh (by decide) (by decide) rfl (by decide) wsX7 tyX7_ok nmX7 (by decide) (by rw [hm]; exact wX7_61) rfl rfl rfl (gU_vl hsh rfl) gU_vo gU_en d k
theorem uX7_64 {l : Launch} {V : gVt} {mm : gY} {E : gEnv} {cs : Nat × Nat} {M : gMem} {pc : Nat} {lv : List (Nat × Value)} {st : List Value} {a : Nat} {x : Nat} (hm : mm.1.cls = RX7) (hsh : gSh E a = 8) (d : decode mm.2.1 pc = .ok (.putfield 64, 3)) (k : gG l V mm E cs (gU M a 12 x) (pc + 3) lv st) : gG l V mm E cs M pc lv (.int (nI x) :: .ref (gAd E a) :: st) := g_put tyX7 (kd := 8) (k := 12) (C := RX7) (T := TX7) (N := 22) hsh (by decide) (by decide) rfl (by decide) wsX7 tyX7_ok nmX7 (by decide) (by rw [hm]; exact wX7_64) rfl rfl rfl (gU_vl hsh rfl) gU_vo gU_en d k
theorem uX7_67 {l : Launch} {V : gVt} {mm : gY} {E : gEnv} {cs : Nat × Nat} {M : gMem} {pc : Nat} {lv : List (Nat × Value)} {st : List Value} {a : Nat} {x : Nat} (hm : mm.1.cls = RX7) (hsh : gSh E a = 8) (d : decode mm.2.1 pc = .ok (.putfield 67, 3)) (k : gG l V mm E cs (gU M a 13 x) (pc + 3) lv st) : gG l V mm E cs M pc lv (.int (nI x) :: .ref (gAd E a) :: st) := g_put tyX7 (kd := 8) (k := 13) (C := RX7) (T := TX7) (N := 22) hsh (by decide) (by decide) rfl (by decide) wsX7 tyX7_ok nmX7 (by decide) (by rw [hm]; exact wX7_67) rfl rfl rfl (gU_vl hsh rfl) gU_vo gU_en d k
theorem uX7_70 {l : Launch} {V : gVt} {mm : gY} {E : gEnv} {cs : Nat × Nat} {M : gMem} {pc : Nat} {lv : List (Nat × Value)} {st : List Value} {a : Nat} {x : Nat} (hm : mm.1.cls = RX7) (hsh : gSh E a = 8) (d : decode mm.2.1 pc = .ok (.putfield 70, 3)) (k : gG l V mm E cs (gU M a 14 x) (pc + 3) lv st) : gG l V mm E cs M pc lv (.int (nI x) :: .ref (gAd E a) :: st) := g_put tyX7 (kd := 8) (k := 14) (C := RX7) (T := TX7) (N := 22) hsh (by decide) (by decide) rfl (by decide) wsX7 tyX7_ok nmX7 (by decide) (by rw [hm]; exact wX7_70) rfl rfl rfl (gU_vl hsh rfl) gU_vo gU_en d k
theorem uX7_73 {l : Launch} {V : gVt} {mm : gY} {E : gEnv} {cs : Nat × Nat} {M : gMem} {pc : Nat} {lv : List (Nat × Value)} {st : List Value} {a : Nat} {x : Nat} (hm : mm.1.cls = RX7) (hsh : gSh E a = 8) (d : decode mm.2.1 pc = .ok (.putfield 73, 3)) (k : gG l V mm E cs (gU M a 17 x) (pc + 3) lv st) : gG l V mm E cs M pc lv (.int (nI x) :: .ref (gAd E a) :: st) := g_put tyX7 (kd := 8) (k := 17) (C := RX7) (T := TX7) (N := 22) hsh (by decide) (by decide) rfl (by decide) wsX7 tyX7_ok nmX7 (by decide) (by rw [hm]; exact wX7_73) rfl rfl rfl (gU_vl hsh rfl) gU_vo gU_en d k
theorem uX7_76 {l : Launch} {V : gVt} {mm : gY} {E : gEnv} {cs : Nat × Nat} {M : gMem} {pc : Nat} {lv : List (Nat × Value)} {st : List Value} {a : Nat} {x : Nat} (hm : mm.1.cls = RX7) (hsh : gSh E a = 8) (d : decode mm.2.1 pc = .ok (.putfield 76, 3)) (k : gG l V mm E cs (gU M a 2 x) (pc + 3) lv st) : gG l V mm E cs M pc lv (.int (nI x) :: .ref (gAd E a) :: st) := g_put tyX7 (kd := 8) (k := 2) (C := RX7) (T := TX7) (N := 22) hsh (by decide) (by decide) rfl (by decide) wsX7 tyX7_ok nmX7 (by decide) (by rw [hm]; exact wX7_76) rfl rfl rfl (gU_vl hsh rfl) gU_vo gU_en d k
theorem uX7_79 {l : Launch} {V : gVt} {mm : gY} {E : gEnv} {cs : Nat × Nat} {M : gMem} {pc : Nat} {lv : List (Nat × Value)} {st : List Value} {a : Nat} {x : Nat} (hm : mm.1.cls = RX7) (hsh : gSh E a = 8) (d : decode mm.2.1 pc = .ok (.putfield 79, 3)) (k : gG l V mm E cs (gU M a 1 x) (pc + 3) lv st) : gG l V mm E cs M pc lv (.int (nI x) :: .ref (gAd E a) :: st) := g_put tyX7 (kd := 8) (k := 1) (C := RX7) (T := TX7) (N := 22) hsh (by decide) (by decide) rfl (by decide) wsX7 tyX7_ok nmX7 (by decide) (by rw [hm]; exact wX7_79) rfl rfl rfl (gU_vl hsh rfl) gU_vo gU_en d k
theorem uX7_162 {l : Launch} {V : gVt} {mm : gY} {E : gEnv} {cs : Nat × Nat} {M : gMem} {pc : Nat} {lv : List (Nat × Value)} {st : List Value} {a : Nat} {x : Nat} (hm : mm.1.cls = RX7) (hsh : gSh E a = 8) (d : decode mm.2.1 pc = .ok (.putfield 162, 3)) (k : gG l V mm E cs (gU M a 19 x) (pc + 3) lv st) : gG l V mm E cs M pc lv (.int (nI x) :: .ref (gAd E a) :: st) := g_put tyX7 (kd := 8) (k := 19) (C := RX7) (T := TX7) (N := 22) hsh (by decide) (by decide) rfl (by decide) wsX7 tyX7_ok nmX7 (by decide) (by rw [hm]; exact wX7_162) rfl rfl rfl (gU_vl hsh rfl) gU_vo gU_en d k
theorem uX7_165 {l : Launch} {V : gVt} {mm : gY} {E : gEnv} {cs : Nat × Nat} {M : gMem} {pc : Nat} {lv : List (Nat × Value)} {st : List Value} {a : Nat} {x : Nat} (hm : mm.1.cls = RX7) (hsh : gSh E a = 8) (d : decode mm.2.1 pc = .ok (.putfield 165, 3)) (k : gG l V mm E cs (gU M a 20 x) (pc + 3) lv st) : gG l V mm E cs M pc lv (.int (nI x) :: .ref (gAd E a) :: st) := g_put tyX7 (kd := 8) (k := 20) (C := RX7) (T := TX7) (N := 22) hsh (by decide) (by decide) rfl (by decide) wsX7 tyX7_ok nmX7 (by decide) (by rw [hm]; exact wX7_165) rfl rfl rfl (gU_vl hsh rfl) gU_vo gU_en d k
theorem uX7_171 {l : Launch} {V : gVt} {mm : gY} {E : gEnv} {cs : Nat × Nat} {M : gMem} {pc : Nat} {lv : List (Nat × Value)} {st : List Value} {a : Nat} {x : Nat} (hm : mm.1.cls = RX7) (hsh : gSh E a = 8) (d : decode mm.2.1 pc = .ok (.putfield 171, 3)) (k : gG l V mm E cs (gU M a 21 x) (pc + 3) lv st) : gG l V mm E cs M pc lv (.int (nI x) :: .ref (gAd E a) :: st) := g_put tyX7 (kd := 8) (k := 21) (C := RX7) (T := TX7) (N := 22) hsh (by decide) (by decide) rfl (by decide) wsX7 tyX7_ok nmX7 (by decide) (by rw [hm]; exact wX7_171) rfl rfl rfl (gU_vl hsh rfl) gU_vo gU_en d k
end
section
/-! rows over small numbers (nI of a Nat), and plain facts (fa_, wb_: from the kit's texts to paste) -/
theorem fa_and (a b : Nat) : nI a &&& nI b = nI (a &&& b) := by
  apply Int32.toBitVec_inj.1
  show BitVec.ofNat 32 a &&& BitVec.ofNat 32 b = BitVec.ofNat 32 (a &&& b)
  apply BitVec.eq_of_getLsbD_eq
  intro i hi
  simp [hi]
theorem fa_or (a b : Nat) : nI a ||| nI b = nI (a ||| b) := by
  apply Int32.toBitVec_inj.1
  show BitVec.ofNat 32 a ||| BitVec.ofNat 32 b = BitVec.ofNat 32 (a ||| b)
  apply BitVec.eq_of_getLsbD_eq
  intro i hi
  simp [hi]
theorem s_l : ∀ n, n < 32 → ((nI n &&& 31).toBitVec.smod 32).toNat = n := by decide +kernel
theorem nx_shr {n k : Nat} (h : n < 2147483648) (hk : k < 32) : nI n >>> (nI k &&& 31) = nI (n / 2 ^ k) := pk_shrN (by omega) _ k (s_l k hk)
theorem nx_shl1 : ∀ k, k < 31 → nI 1 <<< (nI k &&& 31) = nI (2 ^ k) := by decide +kernel
theorem nx_a1 (n : Nat) : nI n &&& nI 1 = nI (n % 2) := by rw [fa_and, Nat.and_one_is_mod]
theorem nx_tb (s i : Nat) : s.testBit i = decide (s / 2 ^ i % 2 = 1) := Nat.testBit_eq_decide_div_mod_eq
theorem gb_t : gb true = 1 := rfl
theorem gb_f : gb false = 0 := rfl
theorem gb_n {b : Bool} {x : Nat} (h : x = if b then 1 else 0) : nI x = gb b := by cases b <;> simp_all [gb, nI] <;> rfl
theorem gloop {n : Nat} {P : Nat → Prop} (step : ∀ i, i ≤ n → (i < n → P (i + 1)) → P i) : ∀ i, i ≤ n → P i := by
  have h : ∀ k i, i ≤ n → n - i = k → P i := by
    intro k
    induction k with
    | zero => intro i hi hk; exact step i hi (fun h => absurd h (by omega))
    | succ k ih => intro i hi hk; exact step i hi (fun h => ih (i + 1) h (by omega))
  exact fun i hi => h _ i hi rfl
/-- a loop downwards -/
theorem gloopD {P : Nat → Prop} (h0 : P 0) (step : ∀ i, P i → P (i + 1)) : ∀ i, P i := fun i => by
  induction i with
  | zero => exact h0
  | succ n ih => exact step n ih
section gNat
variable {l : Launch} {V : gVt} {mm : gY} {E : gEnv} {cs : Nat × Nat} {M : gMem} {pc : Nat} {lv lv' : List (Nat × Value)} {st st' : List Value}
theorem g_lv (h : lv = lv') (k : gG l V mm E cs M pc lv' st) : gG l V mm E cs M pc lv st := h ▸ k
theorem g_st (h : st = st') (k : gG l V mm E cs M pc lv st') : gG l V mm E cs M pc lv st := h ▸ k
theorem g_mm {M' : gMem} (h : M = M') (k : gG l V mm E cs M' pc lv st) : gG l V mm E cs M pc lv st := h ▸ k
theorem g_iaddN {a b : Nat} (d : decode mm.2.1 pc = .ok (.iadd, 1)) (k : gG l V mm E cs M (pc + 1) lv (.int (nI (a + b)) :: st)) : gG l V mm E cs M pc lv (.int (nI b) :: .int (nI a) :: st) := g_iadd d (by rw [nI_add]; exact k)
theorem g_isubN {a b : Nat} (h : b ≤ a) (d : decode mm.2.1 pc = .ok (.isub, 1)) (k : gG l V mm E cs M (pc + 1) lv (.int (nI (a - b)) :: st)) : gG l V mm E cs M pc lv (.int (nI b) :: .int (nI a) :: st) := g_isub d (by rw [pk_sub h]; exact k)
theorem g_imulN {a b : Nat} (d : decode mm.2.1 pc = .ok (.imul, 1)) (k : gG l V mm E cs M (pc + 1) lv (.int (nI (a * b)) :: st)) : gG l V mm E cs M pc lv (.int (nI b) :: .int (nI a) :: st) := g_imul d (by rw [pk_mul]; exact k)
theorem g_iandN {a b : Nat} (d : decode mm.2.1 pc = .ok (.iand, 1)) (k : gG l V mm E cs M (pc + 1) lv (.int (nI (a &&& b)) :: st)) : gG l V mm E cs M pc lv (.int (nI b) :: .int (nI a) :: st) := g_iand d (by rw [fa_and]; exact k)
theorem g_iand1 {a : Nat} (d : decode mm.2.1 pc = .ok (.iand, 1)) (k : gG l V mm E cs M (pc + 1) lv (.int (nI (a % 2)) :: st)) : gG l V mm E cs M pc lv (.int (nI 1) :: .int (nI a) :: st) := g_iand d (by rw [nx_a1]; exact k)
theorem g_iorN {a b : Nat} (d : decode mm.2.1 pc = .ok (.ior, 1)) (k : gG l V mm E cs M (pc + 1) lv (.int (nI (a ||| b)) :: st)) : gG l V mm E cs M pc lv (.int (nI b) :: .int (nI a) :: st) := g_ior d (by rw [fa_or]; exact k)
theorem g_ishrN {a b : Nat} (h : a < 2147483648) (hb : b < 32) (d : decode mm.2.1 pc = .ok (.ishr, 1)) (k : gG l V mm E cs M (pc + 1) lv (.int (nI (a / 2 ^ b)) :: st)) : gG l V mm E cs M pc lv (.int (nI b) :: .int (nI a) :: st) := g_ishr d (by rw [nx_shr h hb]; exact k)
theorem g_ishl1 {b : Nat} (hb : b < 31) (d : decode mm.2.1 pc = .ok (.ishl, 1)) (k : gG l V mm E cs M (pc + 1) lv (.int (nI (2 ^ b)) :: st)) : gG l V mm E cs M pc lv (.int (nI b) :: .int (nI 1) :: st) := g_ishl d (by rw [nx_shl1 b hb]; exact k)
theorem g_idivN {a b : Nat} (ha : a < 2147483648) (h0 : 0 < b) (hb : b < 2147483648) (d : decode mm.2.1 pc = .ok (.idiv, 1)) (k : gG l V mm E cs M (pc + 1) lv (.int (nI (a / b)) :: st)) : gG l V mm E cs M pc lv (.int (nI b) :: .int (nI a) :: st) := g_idiv (nI_ne0 h0 (by omega)) d (by rw [pk_div (by omega) h0 (by omega)]; exact k)
theorem g_iremN {a b : Nat} (ha : a < 2147483648) (h0 : 0 < b) (hb : b < 2147483648) (d : decode mm.2.1 pc = .ok (.irem, 1)) (k : gG l V mm E cs M (pc + 1) lv (.int (nI (a % b)) :: st)) : gG l V mm E cs M pc lv (.int (nI b) :: .int (nI a) :: st) := g_irem (nI_ne0 h0 (by omega)) d (by rw [pk_rem (by omega) h0 (by omega)]; exact k)
theorem g_iincN {i a : Nat} (n : Nat) (q : Nat) (lv' : List (Nat × Value)) (hq : lv[q]? = some (i, .int (nI a))) (d : decode mm.2.1 pc = .ok (.iinc i (n : Int), 3)) (hn : i < mm.2.2.1) (hk : gok i lv = true) (hl0 : gsl 1 i (.int (nI (a + n))) lv = lv') (k : gG l V mm E cs M (pc + 3) lv' st) : gG l V mm E cs M pc lv st :=
  g_iinc q (nI (a + n)) lv' hq (by rw [← nI_add]; rfl) d hn hk hl0 k
theorem g_icmpN_eq {a b : Nat} {off : Int} (tgt : Nat) (d : decode mm.2.1 pc = .ok (.if_icmp .eq off, 3)) (ht : (pc : Int) + off = (tgt : Int)) (ha : a < 2147483648) (hb : b < 2147483648) (kt : a = b → gG l V mm E cs M tgt lv st) (kf : a ≠ b → gG l V mm E cs M (pc + 3) lv st) : gG l V mm E cs M pc lv (.int (nI b) :: .int (nI a) :: st) :=
  g_icmp_eq tgt d ht (fun h => kt (by simp only [nI_eq (show a < 2 ^ 31 by omega) (show b < 2 ^ 31 by omega), nI_leI (show b < 2 ^ 31 by omega) (show a < 2 ^ 31 by omega), nI_leI (show a < 2 ^ 31 by omega) (show b < 2 ^ 31 by omega), nI_ltI (show a < 2 ^ 31 by omega) (show b < 2 ^ 31 by omega), nI_ltI (show b < 2 ^ 31 by omega) (show a < 2 ^ 31 by omega)] at h; omega)) (fun h => kf (by simp only [nI_eq (show a < 2 ^ 31 by omega) (show b < 2 ^ 31 by omega), nI_leI (show b < 2 ^ 31 by omega) (show a < 2 ^ 31 by omega), nI_leI (show a < 2 ^ 31 by omega) (show b < 2 ^ 31 by omega), nI_ltI (show a < 2 ^ 31 by omega) (show b < 2 ^ 31 by omega), nI_ltI (show b < 2 ^ 31 by omega) (show a < 2 ^ 31 by omega)] at h; omega))
theorem g_icmpN_ne {a b : Nat} {off : Int} (tgt : Nat) (d : decode mm.2.1 pc = .ok (.if_icmp .ne off, 3)) (ht : (pc : Int) + off = (tgt : Int)) (ha : a < 2147483648) (hb : b < 2147483648) (kt : a ≠ b → gG l V mm E cs M tgt lv st) (kf : a = b → gG l V mm E cs M (pc + 3) lv st) : gG l V mm E cs M pc lv (.int (nI b) :: .int (nI a) :: st) :=
  g_icmp_ne tgt d ht (fun h => kt (by simp only [nI_eq (show a < 2 ^ 31 by omega) (show b < 2 ^ 31 by omega), nI_leI (show b < 2 ^ 31 by omega) (show a < 2 ^ 31 by omega), nI_leI (show a < 2 ^ 31 by omega) (show b < 2 ^ 31 by omega), nI_ltI (show a < 2 ^ 31 by omega) (show b < 2 ^ 31 by omega), nI_ltI (show b < 2 ^ 31 by omega) (show a < 2 ^ 31 by omega)] at h; omega)) (fun h => kf (by simp only [nI_eq (show a < 2 ^ 31 by omega) (show b < 2 ^ 31 by omega), nI_leI (show b < 2 ^ 31 by omega) (show a < 2 ^ 31 by omega), nI_leI (show a < 2 ^ 31 by omega) (show b < 2 ^ 31 by omega), nI_ltI (show a < 2 ^ 31 by omega) (show b < 2 ^ 31 by omega), nI_ltI (show b < 2 ^ 31 by omega) (show a < 2 ^ 31 by omega)] at h; omega))
theorem g_icmpN_lt {a b : Nat} {off : Int} (tgt : Nat) (d : decode mm.2.1 pc = .ok (.if_icmp .lt off, 3)) (ht : (pc : Int) + off = (tgt : Int)) (ha : a < 2147483648) (hb : b < 2147483648) (kt : a < b → gG l V mm E cs M tgt lv st) (kf : b ≤ a → gG l V mm E cs M (pc + 3) lv st) : gG l V mm E cs M pc lv (.int (nI b) :: .int (nI a) :: st) :=
  g_icmp_lt tgt d ht (fun h => kt (by simp only [nI_eq (show a < 2 ^ 31 by omega) (show b < 2 ^ 31 by omega), nI_leI (show b < 2 ^ 31 by omega) (show a < 2 ^ 31 by omega), nI_leI (show a < 2 ^ 31 by omega) (show b < 2 ^ 31 by omega), nI_ltI (show a < 2 ^ 31 by omega) (show b < 2 ^ 31 by omega), nI_ltI (show b < 2 ^ 31 by omega) (show a < 2 ^ 31 by omega)] at h; omega)) (fun h => kf (by simp only [nI_eq (show a < 2 ^ 31 by omega) (show b < 2 ^ 31 by omega), nI_leI (show b < 2 ^ 31 by omega) (show a < 2 ^ 31 by omega), nI_leI (show a < 2 ^ 31 by omega) (show b < 2 ^ 31 by omega), nI_ltI (show a < 2 ^ 31 by omega) (show b < 2 ^ 31 by omega), nI_ltI (show b < 2 ^ 31 by omega) (show a < 2 ^ 31 by omega)] at h; omega))
theorem g_icmpN_ge {a b : Nat} {off : Int} (tgt : Nat) (d : decode mm.2.1 pc = .ok (.if_icmp .ge off, 3)) (ht : (pc : Int) + off = (tgt : Int)) (ha : a < 2147483648) (hb : b < 2147483648) (kt : b ≤ a → gG l V mm E cs M tgt lv st) (kf : a < b → gG l V mm E cs M (pc + 3) lv st) : gG l V mm E cs M pc lv (.int (nI b) :: .int (nI a) :: st) :=
  g_icmp_ge tgt d ht (fun h => kt (by simp only [nI_eq (show a < 2 ^ 31 by omega) (show b < 2 ^ 31 by omega), nI_leI (show b < 2 ^ 31 by omega) (show a < 2 ^ 31 by omega), nI_leI (show a < 2 ^ 31 by omega) (show b < 2 ^ 31 by omega), nI_ltI (show a < 2 ^ 31 by omega) (show b < 2 ^ 31 by omega), nI_ltI (show b < 2 ^ 31 by omega) (show a < 2 ^ 31 by omega)] at h; omega)) (fun h => kf (by simp only [nI_eq (show a < 2 ^ 31 by omega) (show b < 2 ^ 31 by omega), nI_leI (show b < 2 ^ 31 by omega) (show a < 2 ^ 31 by omega), nI_leI (show a < 2 ^ 31 by omega) (show b < 2 ^ 31 by omega), nI_ltI (show a < 2 ^ 31 by omega) (show b < 2 ^ 31 by omega), nI_ltI (show b < 2 ^ 31 by omega) (show a < 2 ^ 31 by omega)] at h; omega))
theorem g_icmpN_gt {a b : Nat} {off : Int} (tgt : Nat) (d : decode mm.2.1 pc = .ok (.if_icmp .gt off, 3)) (ht : (pc : Int) + off = (tgt : Int)) (ha : a < 2147483648) (hb : b < 2147483648) (kt : b < a → gG l V mm E cs M tgt lv st) (kf : a ≤ b → gG l V mm E cs M (pc + 3) lv st) : gG l V mm E cs M pc lv (.int (nI b) :: .int (nI a) :: st) :=
  g_icmp_gt tgt d ht (fun h => kt (by simp only [nI_eq (show a < 2 ^ 31 by omega) (show b < 2 ^ 31 by omega), nI_leI (show b < 2 ^ 31 by omega) (show a < 2 ^ 31 by omega), nI_leI (show a < 2 ^ 31 by omega) (show b < 2 ^ 31 by omega), nI_ltI (show a < 2 ^ 31 by omega) (show b < 2 ^ 31 by omega), nI_ltI (show b < 2 ^ 31 by omega) (show a < 2 ^ 31 by omega)] at h; omega)) (fun h => kf (by simp only [nI_eq (show a < 2 ^ 31 by omega) (show b < 2 ^ 31 by omega), nI_leI (show b < 2 ^ 31 by omega) (show a < 2 ^ 31 by omega), nI_leI (show a < 2 ^ 31 by omega) (show b < 2 ^ 31 by omega), nI_ltI (show a < 2 ^ 31 by omega) (show b < 2 ^ 31 by omega), nI_ltI (show b < 2 ^ 31 by omega) (show a < 2 ^ 31 by omega)] at h; omega))
theorem g_icmpN_le {a b : Nat} {off : Int} (tgt : Nat) (d : decode mm.2.1 pc = .ok (.if_icmp .le off, 3)) (ht : (pc : Int) + off = (tgt : Int)) (ha : a < 2147483648) (hb : b < 2147483648) (kt : a ≤ b → gG l V mm E cs M tgt lv st) (kf : b < a → gG l V mm E cs M (pc + 3) lv st) : gG l V mm E cs M pc lv (.int (nI b) :: .int (nI a) :: st) :=
  g_icmp_le tgt d ht (fun h => kt (by simp only [nI_eq (show a < 2 ^ 31 by omega) (show b < 2 ^ 31 by omega), nI_leI (show b < 2 ^ 31 by omega) (show a < 2 ^ 31 by omega), nI_leI (show a < 2 ^ 31 by omega) (show b < 2 ^ 31 by omega), nI_ltI (show a < 2 ^ 31 by omega) (show b < 2 ^ 31 by omega), nI_ltI (show b < 2 ^ 31 by omega) (show a < 2 ^ 31 by omega)] at h; omega)) (fun h => kf (by simp only [nI_eq (show a < 2 ^ 31 by omega) (show b < 2 ^ 31 by omega), nI_leI (show b < 2 ^ 31 by omega) (show a < 2 ^ 31 by omega), nI_leI (show a < 2 ^ 31 by omega) (show b < 2 ^ 31 by omega), nI_ltI (show a < 2 ^ 31 by omega) (show b < 2 ^ 31 by omega), nI_ltI (show b < 2 ^ 31 by omega) (show a < 2 ^ 31 by omega)] at h; omega))
theorem g_ifN_eq {a : Nat} {off : Int} (tgt : Nat) (d : decode mm.2.1 pc = .ok (.ifCond .eq off, 3)) (ht : (pc : Int) + off = (tgt : Int)) (ha : a < 2147483648) (kt : a = 0 → gG l V mm E cs M tgt lv st) (kf : 0 < a → gG l V mm E cs M (pc + 3) lv st) : gG l V mm E cs M pc lv (.int (nI a) :: st) :=
  g_if_eq tgt d ht (fun h => kt (by rw [show (0 : Int32) = nI 0 from rfl] at h; simp only [nI_eq (show a < 2 ^ 31 by omega) (show 0 < 2 ^ 31 by omega), nI_leI (show a < 2 ^ 31 by omega) (show 0 < 2 ^ 31 by omega), nI_ltI (show 0 < 2 ^ 31 by omega) (show a < 2 ^ 31 by omega)] at h; omega)) (fun h => kf (by rw [show (0 : Int32) = nI 0 from rfl] at h; simp only [nI_eq (show a < 2 ^ 31 by omega) (show 0 < 2 ^ 31 by omega), nI_leI (show a < 2 ^ 31 by omega) (show 0 < 2 ^ 31 by omega), nI_ltI (show 0 < 2 ^ 31 by omega) (show a < 2 ^ 31 by omega)] at h; omega))
theorem g_ifN_ne {a : Nat} {off : Int} (tgt : Nat) (d : decode mm.2.1 pc = .ok (.ifCond .ne off, 3)) (ht : (pc : Int) + off = (tgt : Int)) (ha : a < 2147483648) (kt : 0 < a → gG l V mm E cs M tgt lv st) (kf : a = 0 → gG l V mm E cs M (pc + 3) lv st) : gG l V mm E cs M pc lv (.int (nI a) :: st) :=
  g_if_ne tgt d ht (fun h => kt (by rw [show (0 : Int32) = nI 0 from rfl] at h; simp only [nI_eq (show a < 2 ^ 31 by omega) (show 0 < 2 ^ 31 by omega), nI_leI (show a < 2 ^ 31 by omega) (show 0 < 2 ^ 31 by omega), nI_ltI (show 0 < 2 ^ 31 by omega) (show a < 2 ^ 31 by omega)] at h; omega)) (fun h => kf (by rw [show (0 : Int32) = nI 0 from rfl] at h; simp only [nI_eq (show a < 2 ^ 31 by omega) (show 0 < 2 ^ 31 by omega), nI_leI (show a < 2 ^ 31 by omega) (show 0 < 2 ^ 31 by omega), nI_ltI (show 0 < 2 ^ 31 by omega) (show a < 2 ^ 31 by omega)] at h; omega))
theorem g_ifN_gt {a : Nat} {off : Int} (tgt : Nat) (d : decode mm.2.1 pc = .ok (.ifCond .gt off, 3)) (ht : (pc : Int) + off = (tgt : Int)) (ha : a < 2147483648) (kt : 0 < a → gG l V mm E cs M tgt lv st) (kf : a = 0 → gG l V mm E cs M (pc + 3) lv st) : gG l V mm E cs M pc lv (.int (nI a) :: st) :=
  g_if_gt tgt d ht (fun h => kt (by rw [show (0 : Int32) = nI 0 from rfl] at h; simp only [nI_eq (show a < 2 ^ 31 by omega) (show 0 < 2 ^ 31 by omega), nI_leI (show a < 2 ^ 31 by omega) (show 0 < 2 ^ 31 by omega), nI_ltI (show 0 < 2 ^ 31 by omega) (show a < 2 ^ 31 by omega)] at h; omega)) (fun h => kf (by rw [show (0 : Int32) = nI 0 from rfl] at h; simp only [nI_eq (show a < 2 ^ 31 by omega) (show 0 < 2 ^ 31 by omega), nI_leI (show a < 2 ^ 31 by omega) (show 0 < 2 ^ 31 by omega), nI_ltI (show 0 < 2 ^ 31 by omega) (show a < 2 ^ 31 by omega)] at h; omega))
theorem g_ifN_le {a : Nat} {off : Int} (tgt : Nat) (d : decode mm.2.1 pc = .ok (.ifCond .le off, 3)) (ht : (pc : Int) + off = (tgt : Int)) (ha : a < 2147483648) (kt : a = 0 → gG l V mm E cs M tgt lv st) (kf : 0 < a → gG l V mm E cs M (pc + 3) lv st) : gG l V mm E cs M pc lv (.int (nI a) :: st) :=
  g_if_le tgt d ht (fun h => kt (by rw [show (0 : Int32) = nI 0 from rfl] at h; simp only [nI_eq (show a < 2 ^ 31 by omega) (show 0 < 2 ^ 31 by omega), nI_leI (show a < 2 ^ 31 by omega) (show 0 < 2 ^ 31 by omega), nI_ltI (show 0 < 2 ^ 31 by omega) (show a < 2 ^ 31 by omega)] at h; omega)) (fun h => kf (by rw [show (0 : Int32) = nI 0 from rfl] at h; simp only [nI_eq (show a < 2 ^ 31 by omega) (show 0 < 2 ^ 31 by omega), nI_leI (show a < 2 ^ 31 by omega) (show 0 < 2 ^ 31 by omega), nI_ltI (show 0 < 2 ^ 31 by omega) (show a < 2 ^ 31 by omega)] at h; omega))
theorem g_ifN_lt {a : Nat} {off : Int} (tgt : Nat) (d : decode mm.2.1 pc = .ok (.ifCond .lt off, 3)) (ht : (pc : Int) + off = (tgt : Int)) (ha : a < 2147483648) (kf : gG l V mm E cs M (pc + 3) lv st) : gG l V mm E cs M pc lv (.int (nI a) :: st) :=
  g_if_lt tgt d ht (fun h => absurd h (nI_pos (by omega))) (fun _ => kf)
theorem g_ifN_ge {a : Nat} {off : Int} (tgt : Nat) (d : decode mm.2.1 pc = .ok (.ifCond .ge off, 3)) (ht : (pc : Int) + off = (tgt : Int)) (ha : a < 2147483648) (kt : gG l V mm E cs M tgt lv st) : gG l V mm E cs M pc lv (.int (nI a) :: st) :=
  g_if_ge tgt d ht (fun _ => kt) (fun h => absurd (nI_pos' (by omega)) h)
theorem g_ifB_eq {b : Bool} {off : Int} (tgt : Nat) (d : decode mm.2.1 pc = .ok (.ifCond .eq off, 3)) (ht : (pc : Int) + off = (tgt : Int)) (kt : b = false → gG l V mm E cs M tgt lv st) (kf : b = true → gG l V mm E cs M (pc + 3) lv st) : gG l V mm E cs M pc lv (.int (gb b) :: st) :=
  g_if_eq tgt d ht (fun h => kt (by cases b <;> simp_all [gb])) (fun h => kf (by cases b <;> simp_all [gb]))
theorem g_ifB_ne {b : Bool} {off : Int} (tgt : Nat) (d : decode mm.2.1 pc = .ok (.ifCond .ne off, 3)) (ht : (pc : Int) + off = (tgt : Int)) (kt : b = true → gG l V mm E cs M tgt lv st) (kf : b = false → gG l V mm E cs M (pc + 3) lv st) : gG l V mm E cs M pc lv (.int (gb b) :: st) :=
  g_if_ne tgt d ht (fun h => kt (by cases b <;> simp_all [gb])) (fun h => kf (by cases b <;> simp_all [gb]))
end gNat
end
section
/-! WHAT A STATE IS. The view of the offers: V i w, w = 0 lands, 1 tongues, 2 means, 3 first (as moved), 4 last, 5 alone, 6 price; Hd h w of the holds: 0 later, 1 earlier, 2 weeks. cV, cH: of the class's book b; mV, mH: of the reference. -/
def oV (M : gMem) (a : Nat) : Nat → Nat := fun w => match w with
  | 3 => M.1 a 3 + M.1 a 7
  | 4 => M.1 a 4 + M.1 a 7
  | w => M.1 a w
def cV (M : gMem) (b : Nat) : Nat → Nat → Nat := fun i => oV M (b + 3 + i)
def cH (M : gMem) (b : Nat) : Nat → Nat → Nat := fun h w => M.1 (b + 13 + h) w
def mV (M : gMem) : Nat → Nat → Nat := fun i w => match w with
  | 3 => M.1 64 (7 * i + 3) + M.1 66 i
  | 4 => M.1 64 (7 * i + 4) + M.1 66 i
  | w => M.1 64 (7 * i + w)
def mH (M : gMem) : Nat → Nat → Nat := fun h w => M.1 65 (3 * h + w)
def uOk (u : Nat → Nat) : Prop := u 0 < 64 ∧ u 1 < 16 ∧ u 2 < 16 ∧ u 3 ≤ u 4 ∧ u 4 ≤ 51 ∧ u 5 ≤ 1 ∧ 1 ≤ u 6 ∧ u 6 ≤ 99
def vOk (n : Nat) (V : Nat → Nat → Nat) (k : Nat) (Hd : Nat → Nat → Nat) (fr to : Nat) : Prop :=
  n ≤ 10 ∧ k ≤ 4 ∧ fr ≤ to ∧ to ≤ 51 ∧ (∀ i, i < n → uOk (V i)) ∧ ∀ h, h < k → Hd h 0 < 4 ∧ Hd h 1 < 4 ∧ 1 ≤ Hd h 2 ∧ Hd h 2 ≤ 51
/-- the cells of a book -/
def cBr (E : gEnv) (M : gMem) (b : Nat) : Prop := (gSh E b = 1 ∧ gSh E (b + 1) = 11 ∧ gLn E (b + 1) = 10 ∧ gSh E (b + 2) = 12 ∧ gLn E (b + 2) = 4 ∧ M.2 b 0 = b + 1 ∧ M.2 b 2 = b + 2) ∧ (∀ i, i < 10 → gSh E (b + 3 + i) = 5 ∧ M.2 (b + 1) i = b + 3 + i) ∧ ∀ h, h < 4 → gSh E (b + 13 + h) = 4 ∧ M.2 (b + 2) h = b + 13 + h
def cO (M : gMem) (b : Nat) : Prop := vOk (M.1 b 1) (cV M b) (M.1 b 3) (cH M b) (M.1 b 4) (M.1 b 5)
def mO (M : gMem) : Prop := vOk (M.1 60 11) (mV M) (M.1 60 12) (mH M) (M.1 60 13) (M.1 60 14)
def sSum (f : Nat → Nat) : Nat → Nat
  | 0 => 0
  | n + 1 => sSum f n + f n
def sAny (p : Nat → Bool) : Nat → Bool
  | 0 => false
  | n + 1 => sAny p n || p n
/-- the first of j, j + 1, .. (k of them) with p -/
def sFr (p : Nat → Bool) : Nat → Nat → Option Nat
  | _, 0 => none
  | j, k + 1 => if p j then some j else sFr p (j + 1) k
def oN : Option Nat → Int32
  | none => -4
  | some x => nI x
def sPrice (V : Nat → Nat → Nat) (n set : Nat) : Nat := sSum (fun i => if set.testBit i then V i 6 else 0) n
def sOnes (x : Nat) : Nat := sSum (fun k => x / 2 ^ k % 2) 10
def sWk (u v : Nat → Nat) : Nat := (if u 4 < v 4 then u 4 else v 4) + 1 - (if u 3 > v 3 then u 3 else v 3)
def sCom (u v : Nat → Nat) : Nat := sOnes (u 0 &&& v 0) * sOnes (u 1 &&& v 1) * sOnes (u 2 &&& v 2) * sWk u v
def sCl (u v : Nat → Nat) : Bool := (u 5 == 1 || v 5 == 1) && decide (0 < sCom u v)
def sMt (u v : Nat → Nat) : Bool := (u 0 &&& v 0 != 0) && (u 1 &&& v 1 != 0) && (u 2 &&& v 2 != 0) && decide (u 3 ≤ v 4) && decide (v 3 ≤ u 4)
def sIn (V : Nat → Nat → Nat) (fr to i : Nat) : Bool := decide (fr ≤ V i 3) && decide (V i 4 ≤ to)
def sHas (V : Nat → Nat → Nat) (set land means i : Nat) : Bool := set.testBit i && (V i 0).testBit land && (V i 2).testBit means
def sLess (f : Nat) : Option Nat → Bool
  | none => true
  | some x => decide (f < x)
def sBg (V : Nat → Nat → Nat) (set land means : Nat) : Nat → Option Nat
  | 0 => none
  | i + 1 => if sHas V set land means i && sLess (V i 3) (sBg V set land means i) then some (V i 3) else sBg V set land means i
def sKp (a b : Option Nat) (w : Nat) : Bool := match a, b with
  | some a, some b => decide (b + w ≤ a)
  | _, _ => true
def sKept (V : Nat → Nat → Nat) (n : Nat) (Hd : Nat → Nat → Nat) (set h land : Nat) : Bool := sKp (sBg V set land (Hd h 0) n) (sBg V set land (Hd h 1) n) (Hd h 2)
def sBrk (V : Nat → Nat → Nat) (n : Nat) (Hd : Nat → Nat → Nat) (set h : Nat) : Nat → Nat
  | 0 => 0
  | land + 1 => sBrk V n Hd set h land ||| (if sKept V n Hd set h land then 0 else 2 ^ land)
def sKept6 (V : Nat → Nat → Nat) (n : Nat) (Hd : Nat → Nat → Nat) (set h : Nat) : Bool := !(sAny (fun land => !(sKept V n Hd set h land)) 6)
def sKepts (V : Nat → Nat → Nat) (n : Nat) (Hd : Nat → Nat → Nat) (k set : Nat) : Bool := !(sAny (fun h => !(sKept6 V n Hd set h)) k)
def sClashOf (V : Nat → Nat → Nat) (n i set : Nat) : Option Nat := sFr (fun j => j != i && set.testBit j && sCl (V i) (V j)) 0 n
def sWhy (V : Nat → Nat → Nat) (n : Nat) (Hd : Nat → Nat → Nat) (k fr to sg i : Nat) : Nat :=
  if sg.testBit i then 1 else if !(sIn V fr to i) then 2 else if (sClashOf V n i sg).isSome then 3 else if sKepts V n Hd k (sg ||| 2 ^ i) then 0 else 4
def sPt (V : Nat → Nat → Nat) (i row wk : Nat) : Bool := (V i 0).testBit (row / 16) && (V i 1).testBit (row / 4 % 4) && (V i 2).testBit (row % 4) && (decide (V i 3 ≤ wk) && decide (wk ≤ V i 4))
def sSold (V : Nat → Nat → Nat) (n sg row wk : Nat) : Nat := sSum (fun i => if sg.testBit i && sPt V i row wk then 1 else 0) n
def sAl (V : Nat → Nat → Nat) (n sg row wk : Nat) : Bool := sAny (fun i => sg.testBit i && V i 5 == 1 && sPt V i row wk) n
theorem sSum_le {f : Nat → Nat} {c : Nat} : ∀ n, (∀ i, i < n → f i ≤ c) → sSum f n ≤ c * n := by
  intro n
  induction n with
  | zero => intro _; exact Nat.le_refl _
  | succ n ih =>
    intro h
    have h1 := ih (fun i hi => h i (by omega))
    have h2 := h n (by omega)
    show sSum f n + f n ≤ c * (n + 1)
    rw [Nat.mul_succ]
    omega
theorem sOnes_le (x : Nat) : sOnes x ≤ 10 := by
  have h := sSum_le (f := fun k => x / 2 ^ k % 2) (c := 1) 10 (fun i _ => by show x / 2 ^ i % 2 ≤ 1; omega)
  simpa [sOnes] using h
theorem sFr_step {p : Nat → Bool} {j n : Nat} (h : j < n) : sFr p j (n - j) = if p j then some j else sFr p (j + 1) (n - (j + 1)) := by
  rw [show n - j = (n - (j + 1)) + 1 by omega]; rfl
theorem sFr_lt {p : Nat → Bool} : ∀ k j x, sFr p j k = some x → j ≤ x ∧ x < j + k ∧ p x = true := by
  intro k
  induction k with
  | zero => intro j x h; cases h
  | succ k ih =>
    intro j x h
    unfold sFr at h
    split at h
    · rename_i hp
      cases h
      exact ⟨Nat.le_refl _, by omega, hp⟩
    · obtain ⟨a, b, c⟩ := ih (j + 1) x h
      exact ⟨by omega, by omega, c⟩
theorem sBg_le {V : Nat → Nat → Nat} {set land means : Nat} : ∀ n x, (∀ i, i < n → V i 3 ≤ 51) → sBg V set land means n = some x → x ≤ 51 := by
  intro n
  induction n with
  | zero => intro x _ h; cases h
  | succ n ih =>
    intro x hV h
    unfold sBg at h
    split at h
    · cases h; exact hV n (by omega)
    · exact ih x (fun i hi => hV i (by omega)) h
theorem oN_ne {x : Nat} (h : x < 2147483648) : oN (some x) ≠ -4 := by
  intro e
  have e2 := congrArg Int32.toInt e
  rw [show oN (some x) = nI x from rfl, nI_toInt (by omega)] at e2
  have e3 : ((-4 : Int32)).toInt = -4 := by decide
  omega
theorem sOnes_pos : ∀ x, x < 64 → (0 < sOnes x ↔ x ≠ 0) := by decide +kernel
theorem and_lt64 {a b c : Nat} (h : a < c) : a &&& b < c := Nat.lt_of_le_of_lt Nat.and_le_left h
theorem sMt_eq {u v : Nat → Nat} (hu : uOk u) (hv : uOk v) : decide (0 < sCom u v) = sMt u v := by
  obtain ⟨a0, a1, a2, a3, a4, -⟩ := hu
  obtain ⟨b0, b1, b2, b3, b4, -⟩ := hv
  have e0 := sOnes_pos (u 0 &&& v 0) (and_lt64 a0)
  have e1 := sOnes_pos (u 1 &&& v 1) (and_lt64 (by omega))
  have e2 := sOnes_pos (u 2 &&& v 2) (and_lt64 (by omega))
  have e3 : 0 < sWk u v ↔ (u 3 ≤ v 4 ∧ v 3 ≤ u 4) := by
    unfold sWk
    split <;> split <;> omega
  have e4 : 0 < sCom u v ↔ ((0 < sOnes (u 0 &&& v 0) ∧ 0 < sOnes (u 1 &&& v 1)) ∧ 0 < sOnes (u 2 &&& v 2)) ∧ 0 < sWk u v := by
    unfold sCom
    simp only [Nat.pos_iff_ne_zero, Nat.mul_ne_zero_iff]
  rw [Bool.eq_iff_iff, decide_eq_true_iff, e4, e0, e1, e2, e3]
  simp only [sMt, Bool.and_eq_true, bne_iff_ne, decide_eq_true_eq]
  constructor
  · rintro ⟨⟨⟨h0, h1⟩, h2⟩, h3, h4⟩; exact ⟨⟨⟨⟨h0, h1⟩, h2⟩, h3⟩, h4⟩
  · rintro ⟨⟨⟨⟨h0, h1⟩, h2⟩, h3⟩, h4⟩; exact ⟨⟨⟨h0, h1⟩, h2⟩, h3, h4⟩
def sPcI (V : Nat → Nat → Nat) (i : Nat) : Nat → Nat := sSum (fun t => if sCl (V i) (V (i + 1 + t)) then 1 else 0)
def sPc (V : Nat → Nat → Nat) (n : Nat) : Nat → Nat := sSum (fun i => sPcI V i (n - (i + 1)))
def sOut (V : Nat → Nat → Nat) (fr to : Nat) : Nat → Nat
  | 0 => 0
  | i + 1 => sOut V fr to i ||| (if sIn V fr to i then 0 else 2 ^ i)
/-- of a set no two clash: as the class asks it -/
def sNc (V : Nat → Nat → Nat) (n set : Nat) : Bool := !(sAny (fun i => set.testBit i && (sClashOf V n i set).isSome) n)
theorem sAny_step {p : Nat → Bool} {i n : Nat} (h : sAny p i = false) (hi : p i = false) : sAny p (i + 1) = false := by show (sAny p i || p i) = false; rw [h, hi]; rfl
theorem sAny_true {p : Nat → Bool} {i : Nat} : ∀ n, i < n → p i = true → sAny p n = true := by
  intro n
  induction n with
  | zero => intro h; omega
  | succ n ih =>
    intro h hp
    show (sAny p n || p n) = true
    by_cases he : i = n
    · subst he; rw [hp]; simp
    · rw [ih (by omega) hp]; rfl
theorem sAny_iff {p : Nat → Bool} {n : Nat} : sAny p n = true ↔ ∃ i, i < n ∧ p i = true := by
  constructor
  · induction n with
    | zero => intro h; cases h
    | succ n ih =>
      intro h
      have h : (sAny p n || p n) = true := h
      rcases Bool.or_eq_true _ _ |>.mp h with h | h
      · obtain ⟨i, a, b⟩ := ih h; exact ⟨i, by omega, b⟩
      · exact ⟨n, by omega, h⟩
  · rintro ⟨i, a, b⟩; exact sAny_true n a b
theorem sAny_no {p : Nat → Bool} {n : Nat} : sAny p n = false ↔ ∀ i, i < n → p i = false := by
  rw [← Bool.not_eq_true, sAny_iff]
  constructor
  · intro h i hi
    cases hp : p i with
    | false => rfl
    | true => exact absurd ⟨i, hi, hp⟩ h
  · rintro h ⟨i, a, b⟩; rw [h i a] at b; cases b
theorem sMt_iff {u v : Nat → Nat} : sMt u v = true ↔ u 0 &&& v 0 ≠ 0 ∧ u 1 &&& v 1 ≠ 0 ∧ u 2 &&& v 2 ≠ 0 ∧ u 3 ≤ v 4 ∧ v 3 ≤ u 4 := by
  simp only [sMt, Bool.and_eq_true, bne_iff_ne, decide_eq_true_eq, and_assoc]
theorem sCl_iff {u v : Nat → Nat} (hu : uOk u) (hv : uOk v) : sCl u v = true ↔ (u 5 = 1 ∨ v 5 = 1) ∧ sMt u v = true := by
  simp only [sCl, sMt_eq hu hv, Bool.and_eq_true, Bool.or_eq_true, beq_iff_eq]
theorem sIn_iff {V : Nat → Nat → Nat} {fr to i : Nat} : sIn V fr to i = true ↔ fr ≤ V i 3 ∧ V i 4 ≤ to := by
  simp only [sIn, Bool.and_eq_true, decide_eq_true_eq]
theorem bt_of {b : Bool} (h : b = true) : true = b := h.symm
theorem bf_of {b : Bool} (h : ¬ b = true) : false = b := (Bool.eq_false_iff.mpr h).symm
end
section
set_option maxRecDepth 100000 in
set_option maxHeartbeats 4000000 in
theorem kX6_has (l : Launch) (E : gEnv) (M : gMem) (s i : Nat) (hs : s < 2147483648) (hi : i < 32) : gMetI l E mX6_has 0 [.int (nI s), .int (nI i)] M (gb (s.testBit i)) := by
  refine gMet_of (mm := mX6_has) (h := 0) (M := M) [(0, .int (nI s)), (1, .int (nI i))] (by decide) (Nat.le_of_ble_eq_true rfl) rfl ?_
  refine g_iload_n (pc := 0) 0 rfl rfl dX6_has_0 ?_
  refine g_iload_n (pc := 1) 1 rfl rfl dX6_has_1 ?_
  refine g_ishrN (pc := 2) (by omega) (by omega) dX6_has_2 ?_
  refine g_iconst (pc := 3) (nI 1) (by decide) dX6_has_3 ?_
  refine g_iand1 (pc := 4) dX6_has_4 ?_
  refine g_ifN_eq (pc := 5) 12 dX6_has_5 (by decide) (by omega) (fun h5 => ?_) (fun h5 => ?_)
  · refine g_iconst (pc := 12) (nI 0) (by decide) dX6_has_12 ?_
    refine g_topi (pc := 13) (x' := gb false) (by decide) ?_
    exact g_zret (pc := 13) rfl dX6_has_13 ⟨congrArg (fun z => some (Value.int (gb z))) (by rw [nx_tb]; simp; omega), rfl⟩
  · refine g_iconst (pc := 8) (nI 1) (by decide) dX6_has_8 ?_
    refine g_goto (pc := 9) 13 dX6_has_9 (by decide) ?_
    refine g_topi (pc := 13) (x' := gb true) (by decide) ?_
    exact g_zret (pc := 13) rfl dX6_has_13 ⟨congrArg (fun z => some (Value.int (gb z))) (by rw [nx_tb]; simp; omega), rfl⟩
set_option maxRecDepth 100000 in
set_option maxHeartbeats 4000000 in
theorem kX4_firstNow (l : Launch) (E : gEnv) (M : gMem) (a : Nat) (ha : gSh E a = 5) : gMetI l E mX4_firstNow 0 [.ref (gAd E a)] M (nI (M.1 a 3 + M.1 a 7)) := by
  refine gMet_of (mm := mX4_firstNow) (h := 0) (M := M) [(0, .ref (gAd E a))] (by decide) (Nat.le_of_ble_eq_true rfl) rfl ?_
  refine g_aload_n (pc := 0) 0 rfl rfl dX4_firstNow_0 ?_
  refine fX4_9 (pc := 1) rfl ha dX4_firstNow_1 ?_
  refine g_aload_n (pc := 4) 0 rfl rfl dX4_firstNow_4 ?_
  refine fX4_15 (pc := 5) rfl ha dX4_firstNow_5 ?_
  refine g_iaddN (pc := 8) dX4_firstNow_8 ?_
  exact g_iret (pc := 9) rfl dX4_firstNow_9 ⟨rfl, rfl⟩
set_option maxRecDepth 100000 in
set_option maxHeartbeats 4000000 in
theorem kX4_lastNow (l : Launch) (E : gEnv) (M : gMem) (a : Nat) (ha : gSh E a = 5) : gMetI l E mX4_lastNow 0 [.ref (gAd E a)] M (nI (M.1 a 4 + M.1 a 7)) := by
  refine gMet_of (mm := mX4_lastNow) (h := 0) (M := M) [(0, .ref (gAd E a))] (by decide) (Nat.le_of_ble_eq_true rfl) rfl ?_
  refine g_aload_n (pc := 0) 0 rfl rfl dX4_lastNow_0 ?_
  refine fX4_18 (pc := 1) rfl ha dX4_lastNow_1 ?_
  refine g_aload_n (pc := 4) 0 rfl rfl dX4_lastNow_4 ?_
  refine fX4_15 (pc := 5) rfl ha dX4_lastNow_5 ?_
  refine g_iaddN (pc := 8) dX4_lastNow_8 ?_
  exact g_iret (pc := 9) rfl dX4_lastNow_9 ⟨rfl, rfl⟩
set_option maxRecDepth 100000 in
set_option maxHeartbeats 4000000 in
theorem kX4_farthestMove (l : Launch) (E : gEnv) (M : gMem) (a : Nat) (ha : gSh E a = 5) (hl : M.1 a 4 ≤ 51) : gMetI l E mX4_farthestMove 0 [.ref (gAd E a)] M (nI (51 - M.1 a 4)) := by
  refine gMet_of (mm := mX4_farthestMove) (h := 0) (M := M) [(0, .ref (gAd E a))] (by decide) (Nat.le_of_ble_eq_true rfl) rfl ?_
  refine g_bipush (pc := 0) (nI 51) (by decide) dX4_farthestMove_0 ?_
  refine g_aload_n (pc := 2) 0 rfl rfl dX4_farthestMove_2 ?_
  refine fX4_18 (pc := 3) rfl ha dX4_farthestMove_3 ?_
  refine g_isubN (pc := 6) (by omega) dX4_farthestMove_6 ?_
  exact g_iret (pc := 7) rfl dX4_farthestMove_7 ⟨rfl, rfl⟩
set_option maxRecDepth 100000 in
set_option maxHeartbeats 4000000 in
theorem kX0_priceOf (l : Launch) (E : gEnv) (M : gMem) (b set : Nat) (hB : cBr E M b) (hs : set < 2147483648) (hn : M.1 b 1 ≤ 10) : gMetI l E mX0_priceOf 1 [.ref (gAd E b), .int (nI set)] M (nI (sPrice (cV M b) (M.1 b 1) set)) := by
  refine gMet_of (mm := mX0_priceOf) (h := 1) (M := M) [(0, .ref (gAd E b)), (1, .int (nI set))] (by decide) (Nat.le_of_ble_eq_true rfl) rfl ?_
  refine g_iconst (pc := 0) (nI 0) (by decide) dX0_priceOf_0 ?_
  refine g_istore_n (pc := 1) rfl [(0, .ref (gAd E b)), (1, .int (nI set)), (2, .int (nI 0))] dX0_priceOf_1 (by decide) rfl rfl ?_
  refine g_iconst (pc := 2) (nI 0) (by decide) dX0_priceOf_2 ?_
  refine g_istore_n (pc := 3) rfl [(0, .ref (gAd E b)), (1, .int (nI set)), (2, .int (nI 0)), (3, .int (nI 0))] dX0_priceOf_3 (by decide) rfl rfl ?_
  have lp4 : ∀ i, i ≤ M.1 b 1 → gG l (gV0 1 E (fun v u => v = some (.int (nI (sPrice (cV M b) (M.1 b 1) set))) ∧ u = M)) mX0_priceOf E (0, 0) M 4 [(0, .ref (gAd E b)), (1, .int (nI set)), (2, .int (nI (sPrice (cV M b) i set))), (3, .int (nI i))] [] := by
    refine gloop (fun i hii ihi => ?_)
    refine g_iload_n (pc := 4) 3 rfl rfl dX0_priceOf_4 ?_
    refine g_aload_n (pc := 5) 0 rfl rfl dX0_priceOf_5 ?_
    refine fX0_25 (pc := 6) rfl hB.1.1 dX0_priceOf_6 ?_
    refine g_icmpN_ge (pc := 9) 38 dX0_priceOf_9 (by decide) (by omega) (by omega) (fun h9 => ?_) (fun h9 => ?_)
    · refine g_iload_n (pc := 38) 2 rfl rfl dX0_priceOf_38 ?_
      exact g_iret (pc := 39) rfl dX0_priceOf_39 ⟨congrArg (fun z => some (Value.int z)) (by rw [show i = M.1 b 1 by omega]), rfl⟩
    · refine g_iload_n (pc := 12) 1 rfl rfl dX0_priceOf_12 ?_
      refine g_iload_n (pc := 13) 3 rfl rfl dX0_priceOf_13 ?_
      refine g_callSN (pc := 14) (mc := mX6_has) (rest := []) lX0_93 iX6_has (kX6_has l E M set i (by omega) (by omega)) ⟨Nat.le_of_ble_eq_true rfl, Nat.le_of_ble_eq_true rfl⟩ rfl rfl (Nat.le_of_ble_eq_true rfl) ⟨Nat.zero_le _, Nat.zero_le _⟩ dX0_priceOf_14 (g_rI ?_)
      refine g_ifB_eq (pc := 17) 32 dX0_priceOf_17 (by decide) (fun h17 => ?_) (fun h17 => ?_)
      · refine g_iincN (pc := 32) 1 3 [(0, .ref (gAd E b)), (1, .int (nI set)), (2, .int (nI (sPrice (cV M b) i set))), (3, .int (nI (i + 1)))] rfl dX0_priceOf_32 (by decide) rfl rfl ?_
        refine g_goto (pc := 35) 4 dX0_priceOf_35 (by decide) ?_
        refine g_lv (pc := 4) (lv' := [(0, .ref (gAd E b)), (1, .int (nI set)), (2, .int (nI (sPrice (cV M b) (i + 1) set))), (3, .int (nI (i + 1)))]) (by simp only [sPrice, sSum, h17]; rfl) ?_
        exact ihi (by omega)
      · refine g_iload_n (pc := 20) 2 rfl rfl dX0_priceOf_20 ?_
        refine g_aload_n (pc := 21) 0 rfl rfl dX0_priceOf_21 ?_
        refine fX0_11 (pc := 22) (b + 1) rfl hB.1.1 hB.1.2.2.2.2.2.1 (by omega) dX0_priceOf_22 ?_
        refine g_iload_n (pc := 25) 3 rfl rfl dX0_priceOf_25 ?_
        refine g_aaload (pc := 26) (t0 := 2) (r := (b + 3 + i)) hB.1.2.1 (by decide) rfl (by rw [hB.1.2.2.1]; omega) (by rw [hB.1.2.2.1]; omega) (hB.2.1 i (by omega)).2 (by omega) dX0_priceOf_26 ?_
        refine fX0_65 (pc := 27) rfl (hB.2.1 i (by omega)).1 dX0_priceOf_27 ?_
        refine g_iaddN (pc := 30) dX0_priceOf_30 ?_
        refine g_topi (pc := 31) (x' := nI (sPrice (cV M b) (i + 1) set)) (by simp only [sPrice, sSum, h17, if_true]; rfl) ?_
        refine g_istore_n (pc := 31) rfl [(0, .ref (gAd E b)), (1, .int (nI set)), (2, .int (nI (sPrice (cV M b) (i + 1) set))), (3, .int (nI i))] dX0_priceOf_31 (by decide) rfl rfl ?_
        refine g_iincN (pc := 32) 1 3 [(0, .ref (gAd E b)), (1, .int (nI set)), (2, .int (nI (sPrice (cV M b) (i + 1) set))), (3, .int (nI (i + 1)))] rfl dX0_priceOf_32 (by decide) rfl rfl ?_
        refine g_goto (pc := 35) 4 dX0_priceOf_35 (by decide) ?_
        exact ihi (by omega)
  refine g_lv (pc := 4) (lv' := [(0, .ref (gAd E b)), (1, .int (nI set)), (2, .int (nI (sPrice (cV M b) 0 set))), (3, .int (nI 0))]) rfl ?_
  exact lp4 0 (by omega)
end
section
set_option maxRecDepth 100000 in
set_option maxHeartbeats 4000000 in
theorem kX4_meets (l : Launch) (E : gEnv) (M : gMem) (a c : Nat) (ha : gSh E a = 5) (hc : gSh E c = 5) (hu : uOk (oV M a)) (hv : uOk (oV M c)) : gMetI l E mX4_meets 1 [.ref (gAd E a), .ref (gAd E c)] M (gb (sMt (oV M a) (oV M c))) := by
  obtain ⟨a0, a1, a2, a3, a4, a5, a6, a7⟩ := hu
  obtain ⟨b0, b1, b2, b3, b4, b5, b6, b7⟩ := hv
  simp only [oV] at a0 a1 a2 a3 a4 a5 b0 b1 b2 b3 b4 b5
  refine gMet_of (mm := mX4_meets) (h := 1) (M := M) [(0, .ref (gAd E a)), (1, .ref (gAd E c))] (by decide) (Nat.le_of_ble_eq_true rfl) rfl ?_
  refine g_aload_n (pc := 0) 0 rfl rfl dX4_meets_0 ?_
  refine fX4_32 (pc := 1) rfl ha dX4_meets_1 ?_
  refine g_aload_n (pc := 4) 1 rfl rfl dX4_meets_4 ?_
  refine fX4_32 (pc := 5) rfl hc dX4_meets_5 ?_
  refine g_iandN (pc := 8) dX4_meets_8 ?_
  refine g_ifN_eq (pc := 9) 62 dX4_meets_9 (by decide) (Nat.lt_of_le_of_lt Nat.and_le_left (by omega)) (fun h9 => ?_) (fun h9 => ?_)
  · refine g_iconst (pc := 62) (nI 0) (by decide) dX4_meets_62 ?_
    refine g_topi (pc := 63) (x' := gb false) (by decide) ?_
    exact g_zret (pc := 63) rfl dX4_meets_63 ⟨congrArg (fun z => some (Value.int (gb z))) (bf_of (by intro hh; obtain ⟨q0, q1, q2, q3, q4⟩ := sMt_iff.mp hh; simp only [oV] at q0 q1 q2 q3 q4; omega)), rfl⟩
  · refine g_aload_n (pc := 12) 0 rfl rfl dX4_meets_12 ?_
    refine fX4_43 (pc := 13) rfl ha dX4_meets_13 ?_
    refine g_aload_n (pc := 16) 1 rfl rfl dX4_meets_16 ?_
    refine fX4_43 (pc := 17) rfl hc dX4_meets_17 ?_
    refine g_iandN (pc := 20) dX4_meets_20 ?_
    refine g_ifN_eq (pc := 21) 62 dX4_meets_21 (by decide) (Nat.lt_of_le_of_lt Nat.and_le_left (by omega)) (fun h21 => ?_) (fun h21 => ?_)
    · refine g_iconst (pc := 62) (nI 0) (by decide) dX4_meets_62 ?_
      refine g_topi (pc := 63) (x' := gb false) (by decide) ?_
      exact g_zret (pc := 63) rfl dX4_meets_63 ⟨congrArg (fun z => some (Value.int (gb z))) (bf_of (by intro hh; obtain ⟨q0, q1, q2, q3, q4⟩ := sMt_iff.mp hh; simp only [oV] at q0 q1 q2 q3 q4; omega)), rfl⟩
    · refine g_aload_n (pc := 24) 0 rfl rfl dX4_meets_24 ?_
      refine fX4_49 (pc := 25) rfl ha dX4_meets_25 ?_
      refine g_aload_n (pc := 28) 1 rfl rfl dX4_meets_28 ?_
      refine fX4_49 (pc := 29) rfl hc dX4_meets_29 ?_
      refine g_iandN (pc := 32) dX4_meets_32 ?_
      refine g_ifN_eq (pc := 33) 62 dX4_meets_33 (by decide) (Nat.lt_of_le_of_lt Nat.and_le_left (by omega)) (fun h33 => ?_) (fun h33 => ?_)
      · refine g_iconst (pc := 62) (nI 0) (by decide) dX4_meets_62 ?_
        refine g_topi (pc := 63) (x' := gb false) (by decide) ?_
        exact g_zret (pc := 63) rfl dX4_meets_63 ⟨congrArg (fun z => some (Value.int (gb z))) (bf_of (by intro hh; obtain ⟨q0, q1, q2, q3, q4⟩ := sMt_iff.mp hh; simp only [oV] at q0 q1 q2 q3 q4; omega)), rfl⟩
      · refine g_aload_n (pc := 36) 0 rfl rfl dX4_meets_36 ?_
        refine g_callV (pc := 37) (mc := mX4_firstNow) (rest := []) lX4_21 iX4_firstNow (kX4_firstNow l E M a ha) ⟨Nat.le_of_ble_eq_true rfl, Nat.le_of_ble_eq_true rfl⟩ ha (by decide) (by decide) rfl rfl rfl rfl (Nat.le_of_ble_eq_true rfl) ⟨Nat.zero_le _, Nat.zero_le _⟩ dX4_meets_37 (g_rI ?_)
        refine g_aload_n (pc := 40) 1 rfl rfl dX4_meets_40 ?_
        refine g_callV (pc := 41) (mc := mX4_lastNow) (rest := [.int (nI (M.1 a 3 + M.1 a 7))]) lX4_25 iX4_lastNow (kX4_lastNow l E M c hc) ⟨Nat.le_of_ble_eq_true rfl, Nat.le_of_ble_eq_true rfl⟩ hc (by decide) (by decide) rfl rfl rfl rfl (Nat.le_of_ble_eq_true rfl) ⟨Nat.zero_le _, Nat.zero_le _⟩ dX4_meets_41 (g_rI ?_)
        refine g_icmpN_gt (pc := 44) 62 dX4_meets_44 (by decide) (by omega) (by omega) (fun h44 => ?_) (fun h44 => ?_)
        · refine g_iconst (pc := 62) (nI 0) (by decide) dX4_meets_62 ?_
          refine g_topi (pc := 63) (x' := gb false) (by decide) ?_
          exact g_zret (pc := 63) rfl dX4_meets_63 ⟨congrArg (fun z => some (Value.int (gb z))) (bf_of (by intro hh; obtain ⟨q0, q1, q2, q3, q4⟩ := sMt_iff.mp hh; simp only [oV] at q0 q1 q2 q3 q4; omega)), rfl⟩
        · refine g_aload_n (pc := 47) 1 rfl rfl dX4_meets_47 ?_
          refine g_callV (pc := 48) (mc := mX4_firstNow) (rest := []) lX4_21 iX4_firstNow (kX4_firstNow l E M c hc) ⟨Nat.le_of_ble_eq_true rfl, Nat.le_of_ble_eq_true rfl⟩ hc (by decide) (by decide) rfl rfl rfl rfl (Nat.le_of_ble_eq_true rfl) ⟨Nat.zero_le _, Nat.zero_le _⟩ dX4_meets_48 (g_rI ?_)
          refine g_aload_n (pc := 51) 0 rfl rfl dX4_meets_51 ?_
          refine g_callV (pc := 52) (mc := mX4_lastNow) (rest := [.int (nI (M.1 c 3 + M.1 c 7))]) lX4_25 iX4_lastNow (kX4_lastNow l E M a ha) ⟨Nat.le_of_ble_eq_true rfl, Nat.le_of_ble_eq_true rfl⟩ ha (by decide) (by decide) rfl rfl rfl rfl (Nat.le_of_ble_eq_true rfl) ⟨Nat.zero_le _, Nat.zero_le _⟩ dX4_meets_52 (g_rI ?_)
          refine g_icmpN_gt (pc := 55) 62 dX4_meets_55 (by decide) (by omega) (by omega) (fun h55 => ?_) (fun h55 => ?_)
          · refine g_iconst (pc := 62) (nI 0) (by decide) dX4_meets_62 ?_
            refine g_topi (pc := 63) (x' := gb false) (by decide) ?_
            exact g_zret (pc := 63) rfl dX4_meets_63 ⟨congrArg (fun z => some (Value.int (gb z))) (bf_of (by intro hh; obtain ⟨q0, q1, q2, q3, q4⟩ := sMt_iff.mp hh; simp only [oV] at q0 q1 q2 q3 q4; omega)), rfl⟩
          · refine g_iconst (pc := 58) (nI 1) (by decide) dX4_meets_58 ?_
            refine g_goto (pc := 59) 63 dX4_meets_59 (by decide) ?_
            refine g_topi (pc := 63) (x' := gb true) (by decide) ?_
            exact g_zret (pc := 63) rfl dX4_meets_63 ⟨congrArg (fun z => some (Value.int (gb z))) (bt_of (by refine sMt_iff.mpr ⟨?_, ?_, ?_, ?_, ?_⟩ <;> simp only [oV] <;> omega)), rfl⟩
set_option maxRecDepth 100000 in
set_option maxHeartbeats 4000000 in
theorem kX4_clashesWith (l : Launch) (E : gEnv) (M : gMem) (a c : Nat) (ha : gSh E a = 5) (hc : gSh E c = 5) (hu : uOk (oV M a)) (hv : uOk (oV M c)) : gMetI l E mX4_clashesWith 2 [.ref (gAd E a), .ref (gAd E c)] M (gb (sCl (oV M a) (oV M c))) := by
  have hu5 : M.1 a 5 ≤ 1 := hu.2.2.2.2.2.1
  have hv5 : M.1 c 5 ≤ 1 := hv.2.2.2.2.2.1
  refine gMet_of (mm := mX4_clashesWith) (h := 2) (M := M) [(0, .ref (gAd E a)), (1, .ref (gAd E c))] (by decide) (Nat.le_of_ble_eq_true rfl) rfl ?_
  refine g_aload_n (pc := 0) 0 rfl rfl dX4_clashesWith_0 ?_
  refine fX4_69 (pc := 1) rfl ha dX4_clashesWith_1 ?_
  refine g_ifN_ne (pc := 4) 14 dX4_clashesWith_4 (by decide) (by omega) (fun h4 => ?_) (fun h4 => ?_)
  · refine g_aload_n (pc := 14) 0 rfl rfl dX4_clashesWith_14 ?_
    refine g_aload_n (pc := 15) 1 rfl rfl dX4_clashesWith_15 ?_
    refine g_callV (pc := 16) (mc := mX4_meets) (rest := []) lX4_73 iX4_meets (kX4_meets l E M a c ha hc hu hv) ⟨Nat.le_of_ble_eq_true rfl, Nat.le_of_ble_eq_true rfl⟩ ha (by decide) (by decide) rfl rfl rfl rfl (Nat.le_of_ble_eq_true rfl) ⟨Nat.zero_le _, Nat.zero_le _⟩ dX4_clashesWith_16 (g_rI ?_)
    refine g_ifB_eq (pc := 19) 26 dX4_clashesWith_19 (by decide) (fun h19 => ?_) (fun h19 => ?_)
    · refine g_iconst (pc := 26) (nI 0) (by decide) dX4_clashesWith_26 ?_
      refine g_topi (pc := 27) (x' := gb false) (by decide) ?_
      exact g_zret (pc := 27) rfl dX4_clashesWith_27 ⟨congrArg (fun z => some (Value.int (gb z))) (bf_of (by intro hh; rw [((sCl_iff hu hv).mp hh).2] at h19; cases h19)), rfl⟩
    · refine g_iconst (pc := 22) (nI 1) (by decide) dX4_clashesWith_22 ?_
      refine g_goto (pc := 23) 27 dX4_clashesWith_23 (by decide) ?_
      refine g_topi (pc := 27) (x' := gb true) (by decide) ?_
      exact g_zret (pc := 27) rfl dX4_clashesWith_27 ⟨congrArg (fun z => some (Value.int (gb z))) (bt_of (by exact (sCl_iff hu hv).mpr ⟨by simp only [oV]; omega, h19⟩)), rfl⟩
  · refine g_aload_n (pc := 7) 1 rfl rfl dX4_clashesWith_7 ?_
    refine fX4_69 (pc := 8) rfl hc dX4_clashesWith_8 ?_
    refine g_ifN_eq (pc := 11) 26 dX4_clashesWith_11 (by decide) (by omega) (fun h11 => ?_) (fun h11 => ?_)
    · refine g_iconst (pc := 26) (nI 0) (by decide) dX4_clashesWith_26 ?_
      refine g_topi (pc := 27) (x' := gb false) (by decide) ?_
      exact g_zret (pc := 27) rfl dX4_clashesWith_27 ⟨congrArg (fun z => some (Value.int (gb z))) (bf_of (by intro hh; have q := ((sCl_iff hu hv).mp hh).1; simp only [oV] at q; omega)), rfl⟩
    · refine g_aload_n (pc := 14) 0 rfl rfl dX4_clashesWith_14 ?_
      refine g_aload_n (pc := 15) 1 rfl rfl dX4_clashesWith_15 ?_
      refine g_callV (pc := 16) (mc := mX4_meets) (rest := []) lX4_73 iX4_meets (kX4_meets l E M a c ha hc hu hv) ⟨Nat.le_of_ble_eq_true rfl, Nat.le_of_ble_eq_true rfl⟩ ha (by decide) (by decide) rfl rfl rfl rfl (Nat.le_of_ble_eq_true rfl) ⟨Nat.zero_le _, Nat.zero_le _⟩ dX4_clashesWith_16 (g_rI ?_)
      refine g_ifB_eq (pc := 19) 26 dX4_clashesWith_19 (by decide) (fun h19 => ?_) (fun h19 => ?_)
      · refine g_iconst (pc := 26) (nI 0) (by decide) dX4_clashesWith_26 ?_
        refine g_topi (pc := 27) (x' := gb false) (by decide) ?_
        exact g_zret (pc := 27) rfl dX4_clashesWith_27 ⟨congrArg (fun z => some (Value.int (gb z))) (bf_of (by intro hh; rw [((sCl_iff hu hv).mp hh).2] at h19; cases h19)), rfl⟩
      · refine g_iconst (pc := 22) (nI 1) (by decide) dX4_clashesWith_22 ?_
        refine g_goto (pc := 23) 27 dX4_clashesWith_23 (by decide) ?_
        refine g_topi (pc := 27) (x' := gb true) (by decide) ?_
        exact g_zret (pc := 27) rfl dX4_clashesWith_27 ⟨congrArg (fun z => some (Value.int (gb z))) (bt_of (by exact (sCl_iff hu hv).mpr ⟨by simp only [oV]; omega, h19⟩)), rfl⟩
set_option maxRecDepth 100000 in
set_option maxHeartbeats 4000000 in
theorem kX0_isWithinTerm (l : Launch) (E : gEnv) (M : gMem) (b i : Nat) (hB : cBr E M b) (hO : cO M b) (hi : i < M.1 b 1) : gMetI l E mX0_isWithinTerm 1 [.ref (gAd E b), .int (nI i)] M (gb (sIn (cV M b) (M.1 b 4) (M.1 b 5) i)) := by
  obtain ⟨hn, hk, hft, hto, hU, hH⟩ := hO
  have hu := hU i hi
  obtain ⟨u0, u1, u2, u3, u4, u5, u6, u7⟩ := hu
  simp only [cV, oV] at u3 u4
  refine gMet_of (mm := mX0_isWithinTerm) (h := 1) (M := M) [(0, .ref (gAd E b)), (1, .int (nI i))] (by decide) (Nat.le_of_ble_eq_true rfl) rfl ?_
  refine g_aload_n (pc := 0) 0 rfl rfl dX0_isWithinTerm_0 ?_
  refine fX0_11 (pc := 1) (b + 1) rfl hB.1.1 hB.1.2.2.2.2.2.1 (by omega) dX0_isWithinTerm_1 ?_
  refine g_iload_n (pc := 4) 1 rfl rfl dX0_isWithinTerm_4 ?_
  refine g_aaload (pc := 5) (t0 := 2) (r := (b + 3 + i)) hB.1.2.1 (by decide) rfl (by rw [hB.1.2.2.1]; omega) (by rw [hB.1.2.2.1]; omega) (hB.2.1 i (by omega)).2 (by omega) dX0_isWithinTerm_5 ?_
  refine g_callV (pc := 6) (mc := mX4_firstNow) (rest := []) lX0_86 iX4_firstNow (kX4_firstNow l E M ((b + 3 + i)) (hB.2.1 i (by omega)).1) ⟨Nat.le_of_ble_eq_true rfl, Nat.le_of_ble_eq_true rfl⟩ (hB.2.1 i (by omega)).1 (by decide) (by decide) rfl rfl rfl rfl (Nat.le_of_ble_eq_true rfl) ⟨Nat.zero_le _, Nat.zero_le _⟩ dX0_isWithinTerm_6 (g_rI ?_)
  refine g_aload_n (pc := 9) 0 rfl rfl dX0_isWithinTerm_9 ?_
  refine fX0_32 (pc := 10) rfl hB.1.1 dX0_isWithinTerm_10 ?_
  refine g_icmpN_lt (pc := 13) 36 dX0_isWithinTerm_13 (by decide) (by omega) (by omega) (fun h13 => ?_) (fun h13 => ?_)
  · refine g_iconst (pc := 36) (nI 0) (by decide) dX0_isWithinTerm_36 ?_
    refine g_topi (pc := 37) (x' := gb false) (by decide) ?_
    exact g_zret (pc := 37) rfl dX0_isWithinTerm_37 ⟨congrArg (fun z => some (Value.int (gb z))) (bf_of (by intro hh; have q := sIn_iff.mp hh; simp only [cV, oV] at q; omega)), rfl⟩
  · refine g_aload_n (pc := 16) 0 rfl rfl dX0_isWithinTerm_16 ?_
    refine fX0_11 (pc := 17) (b + 1) rfl hB.1.1 hB.1.2.2.2.2.2.1 (by omega) dX0_isWithinTerm_17 ?_
    refine g_iload_n (pc := 20) 1 rfl rfl dX0_isWithinTerm_20 ?_
    refine g_aaload (pc := 21) (t0 := 2) (r := (b + 3 + i)) hB.1.2.1 (by decide) rfl (by rw [hB.1.2.2.1]; omega) (by rw [hB.1.2.2.1]; omega) (hB.2.1 i (by omega)).2 (by omega) dX0_isWithinTerm_21 ?_
    refine g_callV (pc := 22) (mc := mX4_lastNow) (rest := []) lX0_90 iX4_lastNow (kX4_lastNow l E M ((b + 3 + i)) (hB.2.1 i (by omega)).1) ⟨Nat.le_of_ble_eq_true rfl, Nat.le_of_ble_eq_true rfl⟩ (hB.2.1 i (by omega)).1 (by decide) (by decide) rfl rfl rfl rfl (Nat.le_of_ble_eq_true rfl) ⟨Nat.zero_le _, Nat.zero_le _⟩ dX0_isWithinTerm_22 (g_rI ?_)
    refine g_aload_n (pc := 25) 0 rfl rfl dX0_isWithinTerm_25 ?_
    refine fX0_35 (pc := 26) rfl hB.1.1 dX0_isWithinTerm_26 ?_
    refine g_icmpN_gt (pc := 29) 36 dX0_isWithinTerm_29 (by decide) (by omega) (by omega) (fun h29 => ?_) (fun h29 => ?_)
    · refine g_iconst (pc := 36) (nI 0) (by decide) dX0_isWithinTerm_36 ?_
      refine g_topi (pc := 37) (x' := gb false) (by decide) ?_
      exact g_zret (pc := 37) rfl dX0_isWithinTerm_37 ⟨congrArg (fun z => some (Value.int (gb z))) (bf_of (by intro hh; have q := sIn_iff.mp hh; simp only [cV, oV] at q; omega)), rfl⟩
    · refine g_iconst (pc := 32) (nI 1) (by decide) dX0_isWithinTerm_32 ?_
      refine g_goto (pc := 33) 37 dX0_isWithinTerm_33 (by decide) ?_
      refine g_topi (pc := 37) (x' := gb true) (by decide) ?_
      exact g_zret (pc := 37) rfl dX0_isWithinTerm_37 ⟨congrArg (fun z => some (Value.int (gb z))) (bt_of (by refine sIn_iff.mpr ?_; simp only [cV, oV]; omega)), rfl⟩
set_option maxRecDepth 100000 in
set_option maxHeartbeats 4000000 in
theorem kX0_lowestClash (l : Launch) (E : gEnv) (M : gMem) (b i set : Nat) (hB : cBr E M b) (hO : cO M b) (hi : i < M.1 b 1) (hs : set < 2147483648) : gMetI l E mX0_lowestClash 3 [.ref (gAd E b), .int (nI i), .int (nI set)] M (oN (sClashOf (cV M b) (M.1 b 1) i set)) := by
  obtain ⟨hn, hk, hft, hto, hU, hH⟩ := hO
  refine gMet_of (mm := mX0_lowestClash) (h := 3) (M := M) [(0, .ref (gAd E b)), (1, .int (nI i)), (2, .int (nI set))] (by decide) (Nat.le_of_ble_eq_true rfl) rfl ?_
  refine g_iconst (pc := 0) (nI 0) (by decide) dX0_lowestClash_0 ?_
  refine g_istore_n (pc := 1) rfl [(0, .ref (gAd E b)), (1, .int (nI i)), (2, .int (nI set)), (3, .int (nI 0))] dX0_lowestClash_1 (by decide) rfl rfl ?_
  have lp2 : ∀ j, j ≤ M.1 b 1 → (sFr (fun j => j != i && set.testBit j && sCl (cV M b i) (cV M b j)) 0 (M.1 b 1) = sFr (fun j => j != i && set.testBit j && sCl (cV M b i) (cV M b j)) j (M.1 b 1 - j)) → gG l (gV0 3 E (fun v u => v = some (.int (oN (sClashOf (cV M b) (M.1 b 1) i set))) ∧ u = M)) mX0_lowestClash E (0, 0) M 2 [(0, .ref (gAd E b)), (1, .int (nI i)), (2, .int (nI set)), (3, .int (nI j))] [] := by
    refine gloop (fun j hij ihj => ?_)
    intro he
    refine g_iload_n (pc := 2) 3 rfl rfl dX0_lowestClash_2 ?_
    refine g_aload_n (pc := 3) 0 rfl rfl dX0_lowestClash_3 ?_
    refine fX0_25 (pc := 4) rfl hB.1.1 dX0_lowestClash_4 ?_
    refine g_icmpN_ge (pc := 7) 49 dX0_lowestClash_7 (by decide) (by omega) (by omega) (fun h7 => ?_) (fun h7 => ?_)
    · refine g_bipush (pc := 49) ((-4)) (by decide) dX0_lowestClash_49 ?_
      exact g_iret (pc := 51) rfl dX0_lowestClash_51 ⟨congrArg (fun z => some (Value.int z)) (by rw [sClashOf, he, show M.1 b 1 - j = 0 by omega]; rfl), rfl⟩
    · refine g_iload_n (pc := 10) 3 rfl rfl dX0_lowestClash_10 ?_
      refine g_iload_n (pc := 11) 1 rfl rfl dX0_lowestClash_11 ?_
      refine g_icmpN_eq (pc := 12) 43 dX0_lowestClash_12 (by decide) (by omega) (by omega) (fun h12 => ?_) (fun h12 => ?_)
      · refine g_iincN (pc := 43) 1 3 [(0, .ref (gAd E b)), (1, .int (nI i)), (2, .int (nI set)), (3, .int (nI (j + 1)))] rfl dX0_lowestClash_43 (by decide) rfl rfl ?_
        refine g_goto (pc := 46) 2 dX0_lowestClash_46 (by decide) ?_
        exact ihj (by omega) (by rw [he, sFr_step (by omega), if_neg]; simp [h12])
      · refine g_iload_n (pc := 15) 2 rfl rfl dX0_lowestClash_15 ?_
        refine g_iload_n (pc := 16) 3 rfl rfl dX0_lowestClash_16 ?_
        refine g_callSN (pc := 17) (mc := mX6_has) (rest := []) lX0_93 iX6_has (kX6_has l E M set j (by omega) (by omega)) ⟨Nat.le_of_ble_eq_true rfl, Nat.le_of_ble_eq_true rfl⟩ rfl rfl (Nat.le_of_ble_eq_true rfl) ⟨Nat.zero_le _, Nat.zero_le _⟩ dX0_lowestClash_17 (g_rI ?_)
        refine g_ifB_eq (pc := 20) 43 dX0_lowestClash_20 (by decide) (fun h20 => ?_) (fun h20 => ?_)
        · refine g_iincN (pc := 43) 1 3 [(0, .ref (gAd E b)), (1, .int (nI i)), (2, .int (nI set)), (3, .int (nI (j + 1)))] rfl dX0_lowestClash_43 (by decide) rfl rfl ?_
          refine g_goto (pc := 46) 2 dX0_lowestClash_46 (by decide) ?_
          exact ihj (by omega) (by rw [he, sFr_step (by omega), if_neg]; simp [h20])
        · refine g_aload_n (pc := 23) 0 rfl rfl dX0_lowestClash_23 ?_
          refine fX0_11 (pc := 24) (b + 1) rfl hB.1.1 hB.1.2.2.2.2.2.1 (by omega) dX0_lowestClash_24 ?_
          refine g_iload_n (pc := 27) 1 rfl rfl dX0_lowestClash_27 ?_
          refine g_aaload (pc := 28) (t0 := 2) (r := (b + 3 + i)) hB.1.2.1 (by decide) rfl (by rw [hB.1.2.2.1]; omega) (by rw [hB.1.2.2.1]; omega) (hB.2.1 i (by omega)).2 (by omega) dX0_lowestClash_28 ?_
          refine g_aload_n (pc := 29) 0 rfl rfl dX0_lowestClash_29 ?_
          refine fX0_11 (pc := 30) (b + 1) rfl hB.1.1 hB.1.2.2.2.2.2.1 (by omega) dX0_lowestClash_30 ?_
          refine g_iload_n (pc := 33) 3 rfl rfl dX0_lowestClash_33 ?_
          refine g_aaload (pc := 34) (t0 := 2) (r := (b + 3 + j)) hB.1.2.1 (by decide) rfl (by rw [hB.1.2.2.1]; omega) (by rw [hB.1.2.2.1]; omega) (hB.2.1 j (by omega)).2 (by omega) dX0_lowestClash_34 ?_
          refine g_callV (pc := 35) (mc := mX4_clashesWith) (rest := []) lX0_96 iX4_clashesWith (kX4_clashesWith l E M ((b + 3 + i)) ((b + 3 + j)) (hB.2.1 i (by omega)).1 (hB.2.1 j (by omega)).1 (hU i hi) (hU j h7)) ⟨Nat.le_of_ble_eq_true rfl, Nat.le_of_ble_eq_true rfl⟩ (hB.2.1 i (by omega)).1 (by decide) (by decide) rfl rfl rfl rfl (Nat.le_of_ble_eq_true rfl) ⟨Nat.zero_le _, Nat.zero_le _⟩ dX0_lowestClash_35 (g_rI ?_)
          refine g_ifB_eq (pc := 38) 43 dX0_lowestClash_38 (by decide) (fun h38 => ?_) (fun h38 => ?_)
          · refine g_iincN (pc := 43) 1 3 [(0, .ref (gAd E b)), (1, .int (nI i)), (2, .int (nI set)), (3, .int (nI (j + 1)))] rfl dX0_lowestClash_43 (by decide) rfl rfl ?_
            refine g_goto (pc := 46) 2 dX0_lowestClash_46 (by decide) ?_
            exact ihj (by omega) (by rw [he, sFr_step (by omega), if_neg]; simp [show sCl (cV M b i) (cV M b j) = false from h38])
          · refine g_iload_n (pc := 41) 3 rfl rfl dX0_lowestClash_41 ?_
            exact g_iret (pc := 42) rfl dX0_lowestClash_42 ⟨congrArg (fun z => some (Value.int z)) (by rw [sClashOf, he, sFr_step (by omega), if_pos (by simp only [bne_iff_ne, Bool.and_eq_true]; exact ⟨⟨h12, h20⟩, h38⟩)]; rfl), rfl⟩
  exact lp2 0 (by omega) rfl
set_option maxRecDepth 100000 in
set_option maxHeartbeats 4000000 in
theorem kX0_clashingPairs (l : Launch) (E : gEnv) (M : gMem) (b : Nat) (hB : cBr E M b) (hO : cO M b) : gMetI l E mX0_clashingPairs 3 [.ref (gAd E b)] M (nI (sPc (cV M b) (M.1 b 1) (M.1 b 1))) := by
  obtain ⟨hn, hk, hft, hto, hU, hH⟩ := hO
  refine gMet_of (mm := mX0_clashingPairs) (h := 3) (M := M) [(0, .ref (gAd E b))] (by decide) (Nat.le_of_ble_eq_true rfl) rfl ?_
  refine g_iconst (pc := 0) (nI 0) (by decide) dX0_clashingPairs_0 ?_
  refine g_istore_n (pc := 1) rfl [(0, .ref (gAd E b)), (1, .int (nI 0))] dX0_clashingPairs_1 (by decide) rfl rfl ?_
  refine g_iconst (pc := 2) (nI 0) (by decide) dX0_clashingPairs_2 ?_
  refine g_istore_n (pc := 3) rfl [(0, .ref (gAd E b)), (1, .int (nI 0)), (2, .int (nI 0))] dX0_clashingPairs_3 (by decide) rfl rfl ?_
  have lp4 : ∀ i, i ≤ M.1 b 1 → gG l (gV0 3 E (fun v u => v = some (.int (nI (sPc (cV M b) (M.1 b 1) (M.1 b 1)))) ∧ u = M)) mX0_clashingPairs E (0, 0) M 4 [(0, .ref (gAd E b)), (1, .int (nI (sPc (cV M b) (M.1 b 1) i))), (2, .int (nI i))] [] := by
    refine gloop (fun i hii ihi => ?_)
    refine g_iload_n (pc := 4) 2 rfl rfl dX0_clashingPairs_4 ?_
    refine g_aload_n (pc := 5) 0 rfl rfl dX0_clashingPairs_5 ?_
    refine fX0_25 (pc := 6) rfl hB.1.1 dX0_clashingPairs_6 ?_
    refine g_icmpN_ge (pc := 9) 57 dX0_clashingPairs_9 (by decide) (by omega) (by omega) (fun h9 => ?_) (fun h9 => ?_)
    · refine g_iload_n (pc := 57) 1 rfl rfl dX0_clashingPairs_57 ?_
      exact g_iret (pc := 58) rfl dX0_clashingPairs_58 ⟨congrArg (fun z => some (Value.int z)) (by rw [show i = M.1 b 1 by omega]), rfl⟩
    · refine g_iload_n (pc := 12) 2 rfl rfl dX0_clashingPairs_12 ?_
      refine g_iconst (pc := 13) (nI 1) (by decide) dX0_clashingPairs_13 ?_
      refine g_iaddN (pc := 14) dX0_clashingPairs_14 ?_
      refine g_istore_n (pc := 15) rfl [(0, .ref (gAd E b)), (1, .int (nI (sPc (cV M b) (M.1 b 1) i))), (2, .int (nI i)), (3, .int (nI (i + 1)))] dX0_clashingPairs_15 (by decide) rfl rfl ?_
      have lp16 : ∀ t, t ≤ M.1 b 1 - (i + 1) → gG l (gV0 3 E (fun v u => v = some (.int (nI (sPc (cV M b) (M.1 b 1) (M.1 b 1)))) ∧ u = M)) mX0_clashingPairs E (0, 0) M 16 [(0, .ref (gAd E b)), (1, .int (nI (sPc (cV M b) (M.1 b 1) i + sPcI (cV M b) i t))), (2, .int (nI i)), (3, .int (nI (i + 1 + t)))] [] := by
        refine gloop (fun t hit iht => ?_)
        refine g_iload_n (pc := 16) 3 rfl rfl dX0_clashingPairs_16 ?_
        refine g_aload_n (pc := 17) 0 rfl rfl dX0_clashingPairs_17 ?_
        refine fX0_25 (pc := 18) rfl hB.1.1 dX0_clashingPairs_18 ?_
        refine g_icmpN_ge (pc := 21) 51 dX0_clashingPairs_21 (by decide) (by omega) (by omega) (fun h21 => ?_) (fun h21 => ?_)
        · refine g_iincN (pc := 51) 1 2 [(0, .ref (gAd E b)), (1, .int (nI (sPc (cV M b) (M.1 b 1) i + sPcI (cV M b) i t))), (2, .int (nI (i + 1))), (3, .int (nI (i + 1 + t)))] rfl dX0_clashingPairs_51 (by decide) rfl rfl ?_
          refine g_goto (pc := 54) 4 dX0_clashingPairs_54 (by decide) ?_
          refine g_pick (pc := 4) [0, 1, 2] [(0, .ref (gAd E b)), (1, .int (nI (sPc (cV M b) (M.1 b 1) i + sPcI (cV M b) i t))), (2, .int (nI (i + 1)))] rfl ?_
          refine g_lv (pc := 4) (lv' := [(0, .ref (gAd E b)), (1, .int (nI (sPc (cV M b) (M.1 b 1) (i + 1)))), (2, .int (nI (i + 1)))]) (by rw [show sPc (cV M b) (M.1 b 1) (i + 1) = sPc (cV M b) (M.1 b 1) i + sPcI (cV M b) i t from by rw [show t = M.1 b 1 - (i + 1) by omega]; rfl]) ?_
          exact ihi (by omega)
        · refine g_aload_n (pc := 24) 0 rfl rfl dX0_clashingPairs_24 ?_
          refine fX0_11 (pc := 25) (b + 1) rfl hB.1.1 hB.1.2.2.2.2.2.1 (by omega) dX0_clashingPairs_25 ?_
          refine g_iload_n (pc := 28) 2 rfl rfl dX0_clashingPairs_28 ?_
          refine g_aaload (pc := 29) (t0 := 2) (r := (b + 3 + i)) hB.1.2.1 (by decide) rfl (by rw [hB.1.2.2.1]; omega) (by rw [hB.1.2.2.1]; omega) (hB.2.1 i (by omega)).2 (by omega) dX0_clashingPairs_29 ?_
          refine g_aload_n (pc := 30) 0 rfl rfl dX0_clashingPairs_30 ?_
          refine fX0_11 (pc := 31) (b + 1) rfl hB.1.1 hB.1.2.2.2.2.2.1 (by omega) dX0_clashingPairs_31 ?_
          refine g_iload_n (pc := 34) 3 rfl rfl dX0_clashingPairs_34 ?_
          refine g_aaload (pc := 35) (t0 := 2) (r := (b + 3 + (i + 1 + t))) hB.1.2.1 (by decide) rfl (by rw [hB.1.2.2.1]; omega) (by rw [hB.1.2.2.1]; omega) (hB.2.1 (i + 1 + t) (by omega)).2 (by omega) dX0_clashingPairs_35 ?_
          refine g_callV (pc := 36) (mc := mX4_clashesWith) (rest := []) lX0_96 iX4_clashesWith (kX4_clashesWith l E M ((b + 3 + i)) ((b + 3 + (i + 1 + t))) (hB.2.1 i (by omega)).1 (hB.2.1 (i + 1 + t) (by omega)).1 (hU i (by omega)) (hU (i + 1 + t) h21)) ⟨Nat.le_of_ble_eq_true rfl, Nat.le_of_ble_eq_true rfl⟩ (hB.2.1 i (by omega)).1 (by decide) (by decide) rfl rfl rfl rfl (Nat.le_of_ble_eq_true rfl) ⟨Nat.zero_le _, Nat.zero_le _⟩ dX0_clashingPairs_36 (g_rI ?_)
          refine g_ifB_eq (pc := 39) 45 dX0_clashingPairs_39 (by decide) (fun h39 => ?_) (fun h39 => ?_)
          · refine g_iincN (pc := 45) 1 3 [(0, .ref (gAd E b)), (1, .int (nI (sPc (cV M b) (M.1 b 1) i + sPcI (cV M b) i t))), (2, .int (nI i)), (3, .int (nI (i + 1 + t + 1)))] rfl dX0_clashingPairs_45 (by decide) rfl rfl ?_
            refine g_goto (pc := 48) 16 dX0_clashingPairs_48 (by decide) ?_
            refine g_lv (pc := 16) (lv' := [(0, .ref (gAd E b)), (1, .int (nI (sPc (cV M b) (M.1 b 1) i + sPcI (cV M b) i (t + 1)))), (2, .int (nI i)), (3, .int (nI (i + 1 + (t + 1))))]) (by rw [show sPcI (cV M b) i (t + 1) = sPcI (cV M b) i t + (if sCl (cV M b i) (cV M b (i + 1 + t)) then 1 else 0) from rfl, show sCl (cV M b i) (cV M b (i + 1 + t)) = _ from h39]; rfl) ?_
            exact iht (by omega)
          · refine g_iincN (pc := 42) 1 1 [(0, .ref (gAd E b)), (1, .int (nI (sPc (cV M b) (M.1 b 1) i + sPcI (cV M b) i t + 1))), (2, .int (nI i)), (3, .int (nI (i + 1 + t)))] rfl dX0_clashingPairs_42 (by decide) rfl rfl ?_
            refine g_iincN (pc := 45) 1 3 [(0, .ref (gAd E b)), (1, .int (nI (sPc (cV M b) (M.1 b 1) i + sPcI (cV M b) i t + 1))), (2, .int (nI i)), (3, .int (nI (i + 1 + t + 1)))] rfl dX0_clashingPairs_45 (by decide) rfl rfl ?_
            refine g_goto (pc := 48) 16 dX0_clashingPairs_48 (by decide) ?_
            refine g_lv (pc := 16) (lv' := [(0, .ref (gAd E b)), (1, .int (nI (sPc (cV M b) (M.1 b 1) i + sPcI (cV M b) i (t + 1)))), (2, .int (nI i)), (3, .int (nI (i + 1 + (t + 1))))]) (by rw [show sPcI (cV M b) i (t + 1) = sPcI (cV M b) i t + (if sCl (cV M b i) (cV M b (i + 1 + t)) then 1 else 0) from rfl, show sCl (cV M b i) (cV M b (i + 1 + t)) = _ from h39]; rfl) ?_
            exact iht (by omega)
      refine g_lv (pc := 16) (lv' := [(0, .ref (gAd E b)), (1, .int (nI (sPc (cV M b) (M.1 b 1) i + sPcI (cV M b) i 0))), (2, .int (nI i)), (3, .int (nI (i + 1 + 0)))]) rfl ?_
      exact lp16 0 (by omega)
  refine g_lv (pc := 4) (lv' := [(0, .ref (gAd E b)), (1, .int (nI (sPc (cV M b) (M.1 b 1) 0))), (2, .int (nI 0))]) rfl ?_
  exact lp4 0 (by omega)
set_option maxRecDepth 100000 in
set_option maxHeartbeats 4000000 in
theorem kX0_beginOf (l : Launch) (E : gEnv) (M : gMem) (b set land means : Nat) (hB : cBr E M b) (hO : cO M b) (hs : set < 2147483648) (hl : land < 6) (hm : means < 4) : gMetI l E mX0_beginOf 1 [.ref (gAd E b), .int (nI set), .int (nI land), .int (nI means)] M (oN (sBg (cV M b) set land means (M.1 b 1))) := by
  obtain ⟨hn, hk, hft, hto, hU, hH⟩ := hO
  refine gMet_of (mm := mX0_beginOf) (h := 1) (M := M) [(0, .ref (gAd E b)), (1, .int (nI set)), (2, .int (nI land)), (3, .int (nI means))] (by decide) (Nat.le_of_ble_eq_true rfl) rfl ?_
  refine g_bipush (pc := 0) ((-4)) (by decide) dX0_beginOf_0 ?_
  refine g_istore (pc := 2) [(0, .ref (gAd E b)), (1, .int (nI set)), (2, .int (nI land)), (3, .int (nI means)), (4, .int ((-4)))] dX0_beginOf_2 (by decide) rfl rfl ?_
  refine g_iconst (pc := 4) (nI 0) (by decide) dX0_beginOf_4 ?_
  refine g_istore (pc := 5) [(0, .ref (gAd E b)), (1, .int (nI set)), (2, .int (nI land)), (3, .int (nI means)), (4, .int ((-4))), (5, .int (nI 0))] dX0_beginOf_5 (by decide) rfl rfl ?_
  have lp7 : ∀ i, i ≤ M.1 b 1 → gG l (gV0 1 E (fun v u => v = some (.int (oN (sBg (cV M b) set land means (M.1 b 1)))) ∧ u = M)) mX0_beginOf E (0, 0) M 7 [(0, .ref (gAd E b)), (1, .int (nI set)), (2, .int (nI land)), (3, .int (nI means)), (4, .int (oN (sBg (cV M b) set land means i))), (5, .int (nI i))] [] := by
    refine gloop (fun i hii ihi => ?_)
    refine g_iload (pc := 7) 5 rfl dX0_beginOf_7 ?_
    refine g_aload_n (pc := 9) 0 rfl rfl dX0_beginOf_9 ?_
    refine fX0_25 (pc := 10) rfl hB.1.1 dX0_beginOf_10 ?_
    refine g_icmpN_ge (pc := 13) 88 dX0_beginOf_13 (by decide) (by omega) (by omega) (fun h13 => ?_) (fun h13 => ?_)
    · refine g_iload (pc := 88) 4 rfl dX0_beginOf_88 ?_
      exact g_iret (pc := 90) rfl dX0_beginOf_90 ⟨congrArg (fun z => some (Value.int z)) (by rw [show i = M.1 b 1 by omega]), rfl⟩
    · have hu := hU i h13
      obtain ⟨u0, u1, u2, u3, u4, u5, u6, u7⟩ := hu
      simp only [cV, oV] at u0 u1 u2 u3 u4
      refine g_aload_n (pc := 16) 0 rfl rfl dX0_beginOf_16 ?_
      refine fX0_11 (pc := 17) (b + 1) rfl hB.1.1 hB.1.2.2.2.2.2.1 (by omega) dX0_beginOf_17 ?_
      refine g_iload (pc := 20) 5 rfl dX0_beginOf_20 ?_
      refine g_aaload (pc := 22) (t0 := 2) (r := (b + 3 + i)) hB.1.2.1 (by decide) rfl (by rw [hB.1.2.2.1]; omega) (by rw [hB.1.2.2.1]; omega) (hB.2.1 i (by omega)).2 (by omega) dX0_beginOf_22 ?_
      refine g_astore (pc := 23) [(0, .ref (gAd E b)), (1, .int (nI set)), (2, .int (nI land)), (3, .int (nI means)), (4, .int (oN (sBg (cV M b) set land means i))), (5, .int (nI i)), (6, .ref (gAd E ((b + 3 + i))))] dX0_beginOf_23 (by decide) rfl rfl ?_
      refine g_iload_n (pc := 25) 1 rfl rfl dX0_beginOf_25 ?_
      refine g_iload (pc := 26) 5 rfl dX0_beginOf_26 ?_
      refine g_callSN (pc := 28) (mc := mX6_has) (rest := []) lX0_93 iX6_has (kX6_has l E M set i (by omega) (by omega)) ⟨Nat.le_of_ble_eq_true rfl, Nat.le_of_ble_eq_true rfl⟩ rfl rfl (Nat.le_of_ble_eq_true rfl) ⟨Nat.zero_le _, Nat.zero_le _⟩ dX0_beginOf_28 (g_rI ?_)
      refine g_ifB_eq (pc := 31) 82 dX0_beginOf_31 (by decide) (fun h31 => ?_) (fun h31 => ?_)
      · refine g_iincN (pc := 82) 1 5 [(0, .ref (gAd E b)), (1, .int (nI set)), (2, .int (nI land)), (3, .int (nI means)), (4, .int (oN (sBg (cV M b) set land means i))), (5, .int (nI (i + 1))), (6, .ref (gAd E ((b + 3 + i))))] rfl dX0_beginOf_82 (by decide) rfl rfl ?_
        refine g_goto (pc := 85) 7 dX0_beginOf_85 (by decide) ?_
        refine g_pick (pc := 7) [0, 1, 2, 3, 4, 5] [(0, .ref (gAd E b)), (1, .int (nI set)), (2, .int (nI land)), (3, .int (nI means)), (4, .int (oN (sBg (cV M b) set land means i))), (5, .int (nI (i + 1)))] rfl ?_
        refine g_lv (pc := 7) (lv' := [(0, .ref (gAd E b)), (1, .int (nI set)), (2, .int (nI land)), (3, .int (nI means)), (4, .int (oN (sBg (cV M b) set land means (i + 1)))), (5, .int (nI (i + 1)))]) (by rw [show sBg (cV M b) set land means (i + 1) = sBg (cV M b) set land means i from by simp only [sBg, sHas, h31]; rfl]) ?_
        exact ihi (by omega)
      · refine g_aload (pc := 34) 6 rfl dX0_beginOf_34 ?_
        refine fX0_46 (pc := 36) rfl (hB.2.1 i (by omega)).1 dX0_beginOf_36 ?_
        refine g_iload_n (pc := 39) 2 rfl rfl dX0_beginOf_39 ?_
        refine g_callSN (pc := 40) (mc := mX6_has) (rest := []) lX0_93 iX6_has (kX6_has l E M (M.1 ((b + 3 + i)) 0) land (by omega) (by omega)) ⟨Nat.le_of_ble_eq_true rfl, Nat.le_of_ble_eq_true rfl⟩ rfl rfl (Nat.le_of_ble_eq_true rfl) ⟨Nat.zero_le _, Nat.zero_le _⟩ dX0_beginOf_40 (g_rI ?_)
        refine g_ifB_eq (pc := 43) 82 dX0_beginOf_43 (by decide) (fun h43 => ?_) (fun h43 => ?_)
        · refine g_iincN (pc := 82) 1 5 [(0, .ref (gAd E b)), (1, .int (nI set)), (2, .int (nI land)), (3, .int (nI means)), (4, .int (oN (sBg (cV M b) set land means i))), (5, .int (nI (i + 1))), (6, .ref (gAd E ((b + 3 + i))))] rfl dX0_beginOf_82 (by decide) rfl rfl ?_
          refine g_goto (pc := 85) 7 dX0_beginOf_85 (by decide) ?_
          refine g_pick (pc := 7) [0, 1, 2, 3, 4, 5] [(0, .ref (gAd E b)), (1, .int (nI set)), (2, .int (nI land)), (3, .int (nI means)), (4, .int (oN (sBg (cV M b) set land means i))), (5, .int (nI (i + 1)))] rfl ?_
          refine g_lv (pc := 7) (lv' := [(0, .ref (gAd E b)), (1, .int (nI set)), (2, .int (nI land)), (3, .int (nI means)), (4, .int (oN (sBg (cV M b) set land means (i + 1)))), (5, .int (nI (i + 1)))]) (by rw [show sBg (cV M b) set land means (i + 1) = sBg (cV M b) set land means i from by simp only [sBg, sHas, cV, oV, h43, Bool.and_false]; rfl]) ?_
          exact ihi (by omega)
        · refine g_aload (pc := 46) 6 rfl dX0_beginOf_46 ?_
          refine fX0_52 (pc := 48) rfl (hB.2.1 i (by omega)).1 dX0_beginOf_48 ?_
          refine g_iload_n (pc := 51) 3 rfl rfl dX0_beginOf_51 ?_
          refine g_callSN (pc := 52) (mc := mX6_has) (rest := []) lX0_93 iX6_has (kX6_has l E M (M.1 ((b + 3 + i)) 2) means (by omega) (by omega)) ⟨Nat.le_of_ble_eq_true rfl, Nat.le_of_ble_eq_true rfl⟩ rfl rfl (Nat.le_of_ble_eq_true rfl) ⟨Nat.zero_le _, Nat.zero_le _⟩ dX0_beginOf_52 (g_rI ?_)
          refine g_ifB_eq (pc := 55) 82 dX0_beginOf_55 (by decide) (fun h55 => ?_) (fun h55 => ?_)
          · refine g_iincN (pc := 82) 1 5 [(0, .ref (gAd E b)), (1, .int (nI set)), (2, .int (nI land)), (3, .int (nI means)), (4, .int (oN (sBg (cV M b) set land means i))), (5, .int (nI (i + 1))), (6, .ref (gAd E ((b + 3 + i))))] rfl dX0_beginOf_82 (by decide) rfl rfl ?_
            refine g_goto (pc := 85) 7 dX0_beginOf_85 (by decide) ?_
            refine g_pick (pc := 7) [0, 1, 2, 3, 4, 5] [(0, .ref (gAd E b)), (1, .int (nI set)), (2, .int (nI land)), (3, .int (nI means)), (4, .int (oN (sBg (cV M b) set land means i))), (5, .int (nI (i + 1)))] rfl ?_
            refine g_lv (pc := 7) (lv' := [(0, .ref (gAd E b)), (1, .int (nI set)), (2, .int (nI land)), (3, .int (nI means)), (4, .int (oN (sBg (cV M b) set land means (i + 1)))), (5, .int (nI (i + 1)))]) (by rw [show sBg (cV M b) set land means (i + 1) = sBg (cV M b) set land means i from by simp only [sBg, sHas, cV, oV, h55, Bool.and_false]; rfl]) ?_
            exact ihi (by omega)
          · have hHas : sHas (cV M b) set land means i = true := by simp only [sHas, h31, Bool.true_and]; rw [show (cV M b i 0).testBit land = true from h43, show (cV M b i 2).testBit means = true from h55]; rfl
            cases hq : sBg (cV M b) set land means i with
            | none =>
              have hnx : sBg (cV M b) set land means (i + 1) = some (cV M b i 3) := by simp only [sBg, hHas, hq, sLess]; rfl
              refine g_iload (pc := 58) 4 rfl dX0_beginOf_58 ?_
              refine g_bipush (pc := 60) ((-4)) (by decide) dX0_beginOf_60 ?_
              refine g_icmp_eq (pc := 62) 75 dX0_beginOf_62 (by decide) (fun h62 => ?_) (fun h62 => absurd h62 (fun q => q rfl))
              refine g_aload (pc := 75) 6 rfl dX0_beginOf_75 ?_
              refine g_callV (pc := 77) (mc := mX4_firstNow) (rest := []) lX0_86 iX4_firstNow (kX4_firstNow l E M ((b + 3 + i)) (hB.2.1 i (by omega)).1) ⟨Nat.le_of_ble_eq_true rfl, Nat.le_of_ble_eq_true rfl⟩ (hB.2.1 i (by omega)).1 (by decide) (by decide) rfl rfl rfl rfl (Nat.le_of_ble_eq_true rfl) ⟨Nat.zero_le _, Nat.zero_le _⟩ dX0_beginOf_77 (g_rI ?_)
              refine g_istore (pc := 80) [(0, .ref (gAd E b)), (1, .int (nI set)), (2, .int (nI land)), (3, .int (nI means)), (4, .int (nI (M.1 ((b + 3 + i)) 3 + M.1 ((b + 3 + i)) 7))), (5, .int (nI i)), (6, .ref (gAd E ((b + 3 + i))))] dX0_beginOf_80 (by decide) rfl rfl ?_
              refine g_iincN (pc := 82) 1 5 [(0, .ref (gAd E b)), (1, .int (nI set)), (2, .int (nI land)), (3, .int (nI means)), (4, .int (nI (M.1 ((b + 3 + i)) 3 + M.1 ((b + 3 + i)) 7))), (5, .int (nI (i + 1))), (6, .ref (gAd E ((b + 3 + i))))] rfl dX0_beginOf_82 (by decide) rfl rfl ?_
              refine g_goto (pc := 85) 7 dX0_beginOf_85 (by decide) ?_
              refine g_pick (pc := 7) [0, 1, 2, 3, 4, 5] [(0, .ref (gAd E b)), (1, .int (nI set)), (2, .int (nI land)), (3, .int (nI means)), (4, .int (nI (M.1 ((b + 3 + i)) 3 + M.1 ((b + 3 + i)) 7))), (5, .int (nI (i + 1)))] rfl ?_
              refine g_lv (pc := 7) (lv' := [(0, .ref (gAd E b)), (1, .int (nI set)), (2, .int (nI land)), (3, .int (nI means)), (4, .int (oN (sBg (cV M b) set land means (i + 1)))), (5, .int (nI (i + 1)))]) (by rw [hnx]; rfl) ?_
              exact ihi (by omega)
            | some x =>
              have hx := sBg_le (V := cV M b) i x (fun j hj => (by have := hU j (by omega); exact Nat.le_trans this.2.2.2.1 this.2.2.2.2.1)) hq
              refine g_iload (pc := 58) 4 rfl dX0_beginOf_58 ?_
              refine g_bipush (pc := 60) ((-4)) (by decide) dX0_beginOf_60 ?_
              refine g_icmp_eq (pc := 62) 75 dX0_beginOf_62 (by decide) (fun h62 => absurd h62 (oN_ne (x := x) (by omega))) (fun h62 => ?_)
              refine g_aload (pc := 65) 6 rfl dX0_beginOf_65 ?_
              refine g_callV (pc := 67) (mc := mX4_firstNow) (rest := []) lX0_86 iX4_firstNow (kX4_firstNow l E M ((b + 3 + i)) (hB.2.1 i (by omega)).1) ⟨Nat.le_of_ble_eq_true rfl, Nat.le_of_ble_eq_true rfl⟩ (hB.2.1 i (by omega)).1 (by decide) (by decide) rfl rfl rfl rfl (Nat.le_of_ble_eq_true rfl) ⟨Nat.zero_le _, Nat.zero_le _⟩ dX0_beginOf_67 (g_rI ?_)
              refine g_iload (pc := 70) 4 rfl dX0_beginOf_70 ?_
              refine g_icmpN_ge (pc := 72) 82 dX0_beginOf_72 (by decide) (by omega) (by omega) (fun h72 => ?_) (fun h72 => ?_)
              · refine g_iincN (pc := 82) 1 5 [(0, .ref (gAd E b)), (1, .int (nI set)), (2, .int (nI land)), (3, .int (nI means)), (4, .int (nI x)), (5, .int (nI (i + 1))), (6, .ref (gAd E ((b + 3 + i))))] rfl dX0_beginOf_82 (by decide) rfl rfl ?_
                refine g_goto (pc := 85) 7 dX0_beginOf_85 (by decide) ?_
                refine g_pick (pc := 7) [0, 1, 2, 3, 4, 5] [(0, .ref (gAd E b)), (1, .int (nI set)), (2, .int (nI land)), (3, .int (nI means)), (4, .int (nI x)), (5, .int (nI (i + 1)))] rfl ?_
                refine g_lv (pc := 7) (lv' := [(0, .ref (gAd E b)), (1, .int (nI set)), (2, .int (nI land)), (3, .int (nI means)), (4, .int (oN (sBg (cV M b) set land means (i + 1)))), (5, .int (nI (i + 1)))]) (by rw [show sBg (cV M b) set land means (i + 1) = some x from by (simp only [sBg, hHas, hq, sLess, Bool.true_and]; exact if_neg (by simp only [decide_eq_true_eq]; show ¬ (M.1 (b + 3 + i) 3 + M.1 (b + 3 + i) 7 < x); omega))]; rfl) ?_
                exact ihi (by omega)
              · refine g_aload (pc := 75) 6 rfl dX0_beginOf_75 ?_
                refine g_callV (pc := 77) (mc := mX4_firstNow) (rest := []) lX0_86 iX4_firstNow (kX4_firstNow l E M ((b + 3 + i)) (hB.2.1 i (by omega)).1) ⟨Nat.le_of_ble_eq_true rfl, Nat.le_of_ble_eq_true rfl⟩ (hB.2.1 i (by omega)).1 (by decide) (by decide) rfl rfl rfl rfl (Nat.le_of_ble_eq_true rfl) ⟨Nat.zero_le _, Nat.zero_le _⟩ dX0_beginOf_77 (g_rI ?_)
                refine g_istore (pc := 80) [(0, .ref (gAd E b)), (1, .int (nI set)), (2, .int (nI land)), (3, .int (nI means)), (4, .int (nI (M.1 ((b + 3 + i)) 3 + M.1 ((b + 3 + i)) 7))), (5, .int (nI i)), (6, .ref (gAd E ((b + 3 + i))))] dX0_beginOf_80 (by decide) rfl rfl ?_
                refine g_iincN (pc := 82) 1 5 [(0, .ref (gAd E b)), (1, .int (nI set)), (2, .int (nI land)), (3, .int (nI means)), (4, .int (nI (M.1 ((b + 3 + i)) 3 + M.1 ((b + 3 + i)) 7))), (5, .int (nI (i + 1))), (6, .ref (gAd E ((b + 3 + i))))] rfl dX0_beginOf_82 (by decide) rfl rfl ?_
                refine g_goto (pc := 85) 7 dX0_beginOf_85 (by decide) ?_
                refine g_pick (pc := 7) [0, 1, 2, 3, 4, 5] [(0, .ref (gAd E b)), (1, .int (nI set)), (2, .int (nI land)), (3, .int (nI means)), (4, .int (nI (M.1 ((b + 3 + i)) 3 + M.1 ((b + 3 + i)) 7))), (5, .int (nI (i + 1)))] rfl ?_
                refine g_lv (pc := 7) (lv' := [(0, .ref (gAd E b)), (1, .int (nI set)), (2, .int (nI land)), (3, .int (nI means)), (4, .int (oN (sBg (cV M b) set land means (i + 1)))), (5, .int (nI (i + 1)))]) (by rw [show sBg (cV M b) set land means (i + 1) = some (cV M b i 3) from by (simp only [sBg, hHas, hq, sLess, Bool.true_and]; exact if_pos (by simp only [decide_eq_true_eq]; show M.1 (b + 3 + i) 3 + M.1 (b + 3 + i) 7 < x; omega))]; rfl) ?_
                exact ihi (by omega)
  refine g_lv (pc := 7) (lv' := [(0, .ref (gAd E b)), (1, .int (nI set)), (2, .int (nI land)), (3, .int (nI means)), (4, .int (oN (sBg (cV M b) set land means 0))), (5, .int (nI 0))]) rfl ?_
  exact lp7 0 (by omega)
end
section
set_option maxRecDepth 100000 in
set_option maxHeartbeats 4000000 in
theorem kX0_isKept (l : Launch) (E : gEnv) (M : gMem) (b set h land : Nat) (hB : cBr E M b) (hO : cO M b) (hh : h < M.1 b 3) (hs : set < 2147483648) (hl : land < 6) : gMetI l E mX0_isKept 2 [.ref (gAd E b), .int (nI set), .ref (gAd E (b + 13 + h)), .int (nI land)] M (gb (sKept (cV M b) (M.1 b 1) (cH M b) set h land)) := by
  have hO' := hO
  obtain ⟨hn, hk, hft, hto, hU, hH⟩ := hO
  have hO := hO'
  refine gMet_of (mm := mX0_isKept) (h := 2) (M := M) [(0, .ref (gAd E b)), (1, .int (nI set)), (2, .ref (gAd E (b + 13 + h))), (3, .int (nI land))] (by decide) (Nat.le_of_ble_eq_true rfl) rfl ?_
  refine g_aload_n (pc := 0) 0 rfl rfl dX0_isKept_0 ?_
  refine g_iload_n (pc := 1) 1 rfl rfl dX0_isKept_1 ?_
  refine g_iload_n (pc := 2) 3 rfl rfl dX0_isKept_2 ?_
  refine g_aload_n (pc := 3) 2 rfl rfl dX0_isKept_3 ?_
  refine fX0_77 (pc := 4) rfl (hB.2.2 h (by omega)).1 dX0_isKept_4 ?_
  refine g_callV (pc := 7) (mc := mX0_beginOf) (rest := []) lX0_100 iX0_beginOf (kX0_beginOf l E M b set land (M.1 (b + 13 + h) 0) hB hO (by omega) (by omega) (hH h hh).1) ⟨Nat.le_of_ble_eq_true rfl, Nat.le_of_ble_eq_true rfl⟩ hB.1.1 (by decide) (by decide) rfl rfl rfl rfl (Nat.le_of_ble_eq_true rfl) ⟨Nat.zero_le _, Nat.zero_le _⟩ dX0_isKept_7 (g_rI ?_)
  have hle : ∀ mm x, sBg (cV M b) set land mm (M.1 b 1) = some x → x ≤ 51 := fun mm x hx => sBg_le (V := cV M b) (M.1 b 1) x (fun j hj => Nat.le_trans (hU j hj).2.2.2.1 (hU j hj).2.2.2.2.1) hx
  rw [show M.1 (b + 13 + h) 0 = cH M b h 0 from rfl]
  cases hq : sBg (cV M b) set land (cH M b h 0) (M.1 b 1) with
  | none =>
    refine g_istore (pc := 10) [(0, .ref (gAd E b)), (1, .int (nI set)), (2, .ref (gAd E (b + 13 + h))), (3, .int (nI land)), (4, .int (oN none))] dX0_isKept_10 (by decide) rfl rfl ?_
    refine g_iload (pc := 12) 4 rfl dX0_isKept_12 ?_
    refine g_bipush (pc := 14) ((-4)) (by decide) dX0_isKept_14 ?_
    refine g_icmp_ne (pc := 16) 21 dX0_isKept_16 (by decide) (fun h16 => absurd h16 (fun q => q rfl)) (fun h16 => ?_)
    refine g_iconst (pc := 19) (nI 1) (by decide) dX0_isKept_19 ?_
    refine g_topi (pc := 20) (x' := gb true) (by decide) ?_
    exact g_zret (pc := 20) rfl dX0_isKept_20 ⟨congrArg (fun z => some (Value.int (gb z))) (bt_of (by simp only [sKept, hq, sKp])), rfl⟩
  | some x =>
    have hx := hle _ _ hq
    refine g_istore (pc := 10) [(0, .ref (gAd E b)), (1, .int (nI set)), (2, .ref (gAd E (b + 13 + h))), (3, .int (nI land)), (4, .int (nI x))] dX0_isKept_10 (by decide) rfl rfl ?_
    refine g_iload (pc := 12) 4 rfl dX0_isKept_12 ?_
    refine g_bipush (pc := 14) ((-4)) (by decide) dX0_isKept_14 ?_
    refine g_icmp_ne (pc := 16) 21 dX0_isKept_16 (by decide) (fun h16 => ?_) (fun h16 => absurd h16 (fun q => oN_ne (x := x) (by omega) q))
    refine g_aload_n (pc := 21) 0 rfl rfl dX0_isKept_21 ?_
    refine g_iload_n (pc := 22) 1 rfl rfl dX0_isKept_22 ?_
    refine g_iload_n (pc := 23) 3 rfl rfl dX0_isKept_23 ?_
    refine g_aload_n (pc := 24) 2 rfl rfl dX0_isKept_24 ?_
    refine fX0_80 (pc := 25) rfl (hB.2.2 h (by omega)).1 dX0_isKept_25 ?_
    refine g_callV (pc := 28) (mc := mX0_beginOf) (rest := []) lX0_100 iX0_beginOf (kX0_beginOf l E M b set land (M.1 (b + 13 + h) 1) hB hO (by omega) (by omega) (hH h hh).2.1) ⟨Nat.le_of_ble_eq_true rfl, Nat.le_of_ble_eq_true rfl⟩ hB.1.1 (by decide) (by decide) rfl rfl rfl rfl (Nat.le_of_ble_eq_true rfl) ⟨Nat.zero_le _, Nat.zero_le _⟩ dX0_isKept_28 (g_rI ?_)
    rw [show M.1 (b + 13 + h) 1 = cH M b h 1 from rfl]
    cases hr : sBg (cV M b) set land (cH M b h 1) (M.1 b 1) with
    | none =>
      refine g_istore (pc := 31) [(0, .ref (gAd E b)), (1, .int (nI set)), (2, .ref (gAd E (b + 13 + h))), (3, .int (nI land)), (4, .int (nI x)), (5, .int (oN none))] dX0_isKept_31 (by decide) rfl rfl ?_
      refine g_iload (pc := 33) 5 rfl dX0_isKept_33 ?_
      refine g_bipush (pc := 35) ((-4)) (by decide) dX0_isKept_35 ?_
      refine g_icmp_eq (pc := 37) 52 dX0_isKept_37 (by decide) (fun h37 => ?_) (fun h37 => absurd h37 (fun q => q rfl))
      refine g_iconst (pc := 52) (nI 1) (by decide) dX0_isKept_52 ?_
      refine g_goto (pc := 53) 57 dX0_isKept_53 (by decide) ?_
      refine g_topi (pc := 57) (x' := gb true) (by decide) ?_
      exact g_zret (pc := 57) rfl dX0_isKept_57 ⟨congrArg (fun z => some (Value.int (gb z))) (bt_of (by simp only [sKept, hq, hr, sKp])), rfl⟩
    | some y =>
      have hy := hle _ _ hr
      have hw := (hH h hh).2.2.2
      refine g_istore (pc := 31) [(0, .ref (gAd E b)), (1, .int (nI set)), (2, .ref (gAd E (b + 13 + h))), (3, .int (nI land)), (4, .int (nI x)), (5, .int (nI y))] dX0_isKept_31 (by decide) rfl rfl ?_
      refine g_iload (pc := 33) 5 rfl dX0_isKept_33 ?_
      refine g_bipush (pc := 35) ((-4)) (by decide) dX0_isKept_35 ?_
      refine g_icmp_eq (pc := 37) 52 dX0_isKept_37 (by decide) (fun h37 => absurd h37 (oN_ne (x := y) (by omega))) (fun h37 => ?_)
      refine g_iload (pc := 40) 4 rfl dX0_isKept_40 ?_
      refine g_iload (pc := 42) 5 rfl dX0_isKept_42 ?_
      refine g_isub (pc := 44) dX0_isKept_44 ?_
      refine g_aload_n (pc := 45) 2 rfl rfl dX0_isKept_45 ?_
      refine fX0_83 (pc := 46) rfl (hB.2.2 h (by omega)).1 dX0_isKept_46 ?_
      have hd : (nI x - nI y).toInt = (x : Int) - y := pk_sub_toInt (by omega) (by omega)
      have hwv : (nI (M.1 (b + 13 + h) 2)).toInt = (M.1 (b + 13 + h) 2 : Int) := nI_toInt (by have : M.1 (b + 13 + h) 2 ≤ 51 := hw; omega)
      refine g_icmp_lt (pc := 49) 56 dX0_isKept_49 (by decide) (fun h49 => ?_) (fun h49 => ?_)
      · refine g_iconst (pc := 56) (nI 0) (by decide) dX0_isKept_56 ?_
        refine g_topi (pc := 57) (x' := gb false) (by decide) ?_
        exact g_zret (pc := 57) rfl dX0_isKept_57 ⟨congrArg (fun z => some (Value.int (gb z))) (bf_of (by intro hh; simp only [sKept, hq, hr, sKp, decide_eq_true_eq] at hh; have hh : y + M.1 (b + 13 + h) 2 ≤ x := hh; have q := Int32.lt_iff_toInt_lt.mp h49; rw [hd, hwv] at q; omega)), rfl⟩
      · refine g_iconst (pc := 52) (nI 1) (by decide) dX0_isKept_52 ?_
        refine g_goto (pc := 53) 57 dX0_isKept_53 (by decide) ?_
        refine g_topi (pc := 57) (x' := gb true) (by decide) ?_
        exact g_zret (pc := 57) rfl dX0_isKept_57 ⟨congrArg (fun z => some (Value.int (gb z))) (bt_of (by simp only [sKept, hq, hr, sKp, decide_eq_true_eq]; show y + M.1 (b + 13 + h) 2 ≤ x; have q := mt Int32.lt_iff_toInt_lt.mpr h49; rw [hd, hwv] at q; omega)), rfl⟩
set_option maxRecDepth 100000 in
set_option maxHeartbeats 4000000 in
theorem kX0_areHoldsKept (l : Launch) (E : gEnv) (M : gMem) (b set : Nat) (hB : cBr E M b) (hO : cO M b) (hs : set < 2147483648) : gMetI l E mX0_areHoldsKept 3 [.ref (gAd E b), .int (nI set)] M (gb (sKepts (cV M b) (M.1 b 1) (cH M b) (M.1 b 3) set)) := by
  have hO' := hO
  obtain ⟨hn, hk, hft, hto, hU, hH⟩ := hO
  have hO := hO'
  refine gMet_of (mm := mX0_areHoldsKept) (h := 3) (M := M) [(0, .ref (gAd E b)), (1, .int (nI set))] (by decide) (Nat.le_of_ble_eq_true rfl) rfl ?_
  refine g_iconst (pc := 0) (nI 0) (by decide) dX0_areHoldsKept_0 ?_
  refine g_istore_n (pc := 1) rfl [(0, .ref (gAd E b)), (1, .int (nI set)), (2, .int (nI 0))] dX0_areHoldsKept_1 (by decide) rfl rfl ?_
  have lp2 : ∀ h, h ≤ M.1 b 3 → (sAny (fun h => !(sKept6 (cV M b) (M.1 b 1) (cH M b) set h)) h = false) → gG l (gV0 3 E (fun v u => v = some (.int (gb (sKepts (cV M b) (M.1 b 1) (cH M b) (M.1 b 3) set))) ∧ u = M)) mX0_areHoldsKept E (0, 0) M 2 [(0, .ref (gAd E b)), (1, .int (nI set)), (2, .int (nI h))] [] := by
    refine gloop (fun h hih ihh => ?_)
    intro he
    refine g_iload_n (pc := 2) 2 rfl rfl dX0_areHoldsKept_2 ?_
    refine g_aload_n (pc := 3) 0 rfl rfl dX0_areHoldsKept_3 ?_
    refine fX0_29 (pc := 4) rfl hB.1.1 dX0_areHoldsKept_4 ?_
    refine g_icmpN_ge (pc := 7) 47 dX0_areHoldsKept_7 (by decide) (by omega) (by omega) (fun h7 => ?_) (fun h7 => ?_)
    · refine g_iconst (pc := 47) (nI 1) (by decide) dX0_areHoldsKept_47 ?_
      refine g_topi (pc := 48) (x' := gb true) (by decide) ?_
      exact g_zret (pc := 48) rfl dX0_areHoldsKept_48 ⟨congrArg (fun z => some (Value.int (gb z))) (bt_of (by simp only [sKepts, Bool.not_eq_true']; rw [show M.1 b 3 = h by omega]; exact he)), rfl⟩
    · refine g_iconst (pc := 10) (nI 0) (by decide) dX0_areHoldsKept_10 ?_
      refine g_istore_n (pc := 11) rfl [(0, .ref (gAd E b)), (1, .int (nI set)), (2, .int (nI h)), (3, .int (nI 0))] dX0_areHoldsKept_11 (by decide) rfl rfl ?_
      have lp12 : ∀ land, land ≤ 6 → (sAny (fun z => !(sKept (cV M b) (M.1 b 1) (cH M b) set h z)) land = false) → gG l (gV0 3 E (fun v u => v = some (.int (gb (sKepts (cV M b) (M.1 b 1) (cH M b) (M.1 b 3) set))) ∧ u = M)) mX0_areHoldsKept E (0, 0) M 12 [(0, .ref (gAd E b)), (1, .int (nI set)), (2, .int (nI h)), (3, .int (nI land))] [] := by
        refine gloop (fun land hiland ihland => ?_)
        intro hf
        refine g_iload_n (pc := 12) 3 rfl rfl dX0_areHoldsKept_12 ?_
        refine g_bipush (pc := 13) (nI 6) (by decide) dX0_areHoldsKept_13 ?_
        refine g_icmpN_ge (pc := 15) 41 dX0_areHoldsKept_15 (by decide) (by omega) (by omega) (fun h15 => ?_) (fun h15 => ?_)
        · refine g_iincN (pc := 41) 1 2 [(0, .ref (gAd E b)), (1, .int (nI set)), (2, .int (nI (h + 1))), (3, .int (nI land))] rfl dX0_areHoldsKept_41 (by decide) rfl rfl ?_
          refine g_goto (pc := 44) 2 dX0_areHoldsKept_44 (by decide) ?_
          refine g_pick (pc := 2) [0, 1, 2] [(0, .ref (gAd E b)), (1, .int (nI set)), (2, .int (nI (h + 1)))] rfl ?_
          exact ihh (by omega) (sAny_step (n := 0) he (by show (!(!(sAny (fun z => !(sKept (cV M b) (M.1 b 1) (cH M b) set h z)) 6))) = false; rw [show (6 : Nat) = land by omega, hf]; rfl))
        · refine g_aload_n (pc := 18) 0 rfl rfl dX0_areHoldsKept_18 ?_
          refine g_iload_n (pc := 19) 1 rfl rfl dX0_areHoldsKept_19 ?_
          refine g_aload_n (pc := 20) 0 rfl rfl dX0_areHoldsKept_20 ?_
          refine fX0_19 (pc := 21) (b + 2) rfl hB.1.1 hB.1.2.2.2.2.2.2 (by omega) dX0_areHoldsKept_21 ?_
          refine g_iload_n (pc := 24) 2 rfl rfl dX0_areHoldsKept_24 ?_
          refine g_aaload (pc := 25) (t0 := 3) (r := (b + 13 + h)) hB.1.2.2.2.1 (by decide) rfl (by rw [hB.1.2.2.2.2.1]; omega) (by rw [hB.1.2.2.2.2.1]; omega) (hB.2.2 h (by omega)).2 (by omega) dX0_areHoldsKept_25 ?_
          refine g_iload_n (pc := 26) 3 rfl rfl dX0_areHoldsKept_26 ?_
          refine g_callV (pc := 27) (mc := mX0_isKept) (rest := []) lX0_104 iX0_isKept (kX0_isKept l E M b set h land hB hO (by omega) (by omega) (by omega)) ⟨Nat.le_of_ble_eq_true rfl, Nat.le_of_ble_eq_true rfl⟩ hB.1.1 (by decide) (by decide) rfl rfl rfl rfl (Nat.le_of_ble_eq_true rfl) ⟨Nat.zero_le _, Nat.zero_le _⟩ dX0_areHoldsKept_27 (g_rI ?_)
          refine g_ifB_ne (pc := 30) 35 dX0_areHoldsKept_30 (by decide) (fun h30 => ?_) (fun h30 => ?_)
          · refine g_iincN (pc := 35) 1 3 [(0, .ref (gAd E b)), (1, .int (nI set)), (2, .int (nI h)), (3, .int (nI (land + 1)))] rfl dX0_areHoldsKept_35 (by decide) rfl rfl ?_
            refine g_goto (pc := 38) 12 dX0_areHoldsKept_38 (by decide) ?_
            exact ihland (by omega) (sAny_step (n := 0) hf (by show (!(sKept (cV M b) (M.1 b 1) (cH M b) set h land)) = false; rw [h30]; rfl))
          · refine g_iconst (pc := 33) (nI 0) (by decide) dX0_areHoldsKept_33 ?_
            refine g_topi (pc := 34) (x' := gb false) (by decide) ?_
            exact g_zret (pc := 34) rfl dX0_areHoldsKept_34 ⟨congrArg (fun z => some (Value.int (gb z))) (bf_of (by intro hh; simp only [sKepts, Bool.not_eq_true'] at hh; have q := sAny_no.mp hh h (by omega); simp only [sKept6, Bool.not_not] at q; have q2 := sAny_no.mp q land (by omega); rw [h30] at q2; cases q2)), rfl⟩
      exact lp12 0 (by omega) rfl
  exact lp2 0 (by omega) rfl
set_option maxRecDepth 100000 in
set_option maxHeartbeats 4000000 in
theorem kX0_brokenLands (l : Launch) (E : gEnv) (M : gMem) (b set h : Nat) (hB : cBr E M b) (hO : cO M b) (hh : h < M.1 b 3) (hs : set < 2147483648) : gMetI l E mX0_brokenLands 3 [.ref (gAd E b), .int (nI set), .ref (gAd E (b + 13 + h))] M (nI (sBrk (cV M b) (M.1 b 1) (cH M b) set h 6)) := by
  have hO' := hO
  obtain ⟨hn, hk, hft, hto, hU, hH⟩ := hO
  have hO := hO'
  refine gMet_of (mm := mX0_brokenLands) (h := 3) (M := M) [(0, .ref (gAd E b)), (1, .int (nI set)), (2, .ref (gAd E (b + 13 + h)))] (by decide) (Nat.le_of_ble_eq_true rfl) rfl ?_
  refine g_iconst (pc := 0) (nI 0) (by decide) dX0_brokenLands_0 ?_
  refine g_istore_n (pc := 1) rfl [(0, .ref (gAd E b)), (1, .int (nI set)), (2, .ref (gAd E (b + 13 + h))), (3, .int (nI 0))] dX0_brokenLands_1 (by decide) rfl rfl ?_
  refine g_iconst (pc := 2) (nI 0) (by decide) dX0_brokenLands_2 ?_
  refine g_istore (pc := 3) [(0, .ref (gAd E b)), (1, .int (nI set)), (2, .ref (gAd E (b + 13 + h))), (3, .int (nI 0)), (4, .int (nI 0))] dX0_brokenLands_3 (by decide) rfl rfl ?_
  have lp5 : ∀ land, land ≤ 6 → gG l (gV0 3 E (fun v u => v = some (.int (nI (sBrk (cV M b) (M.1 b 1) (cH M b) set h 6))) ∧ u = M)) mX0_brokenLands E (0, 0) M 5 [(0, .ref (gAd E b)), (1, .int (nI set)), (2, .ref (gAd E (b + 13 + h))), (3, .int (nI (sBrk (cV M b) (M.1 b 1) (cH M b) set h land))), (4, .int (nI land))] [] := by
    refine gloop (fun land hiland ihland => ?_)
    refine g_iload (pc := 5) 4 rfl dX0_brokenLands_5 ?_
    refine g_bipush (pc := 7) (nI 6) (by decide) dX0_brokenLands_7 ?_
    refine g_icmpN_ge (pc := 9) 36 dX0_brokenLands_9 (by decide) (by omega) (by omega) (fun h9 => ?_) (fun h9 => ?_)
    · refine g_iload_n (pc := 36) 3 rfl rfl dX0_brokenLands_36 ?_
      exact g_iret (pc := 37) rfl dX0_brokenLands_37 ⟨congrArg (fun z => some (Value.int z)) (by rw [show land = 6 by omega]), rfl⟩
    · refine g_aload_n (pc := 12) 0 rfl rfl dX0_brokenLands_12 ?_
      refine g_iload_n (pc := 13) 1 rfl rfl dX0_brokenLands_13 ?_
      refine g_aload_n (pc := 14) 2 rfl rfl dX0_brokenLands_14 ?_
      refine g_iload (pc := 15) 4 rfl dX0_brokenLands_15 ?_
      refine g_callV (pc := 17) (mc := mX0_isKept) (rest := []) lX0_104 iX0_isKept (kX0_isKept l E M b set h land hB hO (by omega) (by omega) (by omega)) ⟨Nat.le_of_ble_eq_true rfl, Nat.le_of_ble_eq_true rfl⟩ hB.1.1 (by decide) (by decide) rfl rfl rfl rfl (Nat.le_of_ble_eq_true rfl) ⟨Nat.zero_le _, Nat.zero_le _⟩ dX0_brokenLands_17 (g_rI ?_)
      refine g_ifB_ne (pc := 20) 30 dX0_brokenLands_20 (by decide) (fun h20 => ?_) (fun h20 => ?_)
      · refine g_iincN (pc := 30) 1 4 [(0, .ref (gAd E b)), (1, .int (nI set)), (2, .ref (gAd E (b + 13 + h))), (3, .int (nI (sBrk (cV M b) (M.1 b 1) (cH M b) set h land))), (4, .int (nI (land + 1)))] rfl dX0_brokenLands_30 (by decide) rfl rfl ?_
        refine g_goto (pc := 33) 5 dX0_brokenLands_33 (by decide) ?_
        refine g_lv (pc := 5) (lv' := [(0, .ref (gAd E b)), (1, .int (nI set)), (2, .ref (gAd E (b + 13 + h))), (3, .int (nI (sBrk (cV M b) (M.1 b 1) (cH M b) set h (land + 1)))), (4, .int (nI (land + 1)))]) (by rw [show sBrk (cV M b) (M.1 b 1) (cH M b) set h (land + 1) = sBrk (cV M b) (M.1 b 1) (cH M b) set h land ||| (if sKept (cV M b) (M.1 b 1) (cH M b) set h land then 0 else 2 ^ land) from rfl, h20]; simp) ?_
        exact ihland (by omega)
      · refine g_iload_n (pc := 23) 3 rfl rfl dX0_brokenLands_23 ?_
        refine g_iconst (pc := 24) (nI 1) (by decide) dX0_brokenLands_24 ?_
        refine g_iload (pc := 25) 4 rfl dX0_brokenLands_25 ?_
        refine g_ishl1 (pc := 27) (by omega) dX0_brokenLands_27 ?_
        refine g_iorN (pc := 28) dX0_brokenLands_28 ?_
        refine g_istore_n (pc := 29) rfl [(0, .ref (gAd E b)), (1, .int (nI set)), (2, .ref (gAd E (b + 13 + h))), (3, .int (nI ((sBrk (cV M b) (M.1 b 1) (cH M b) set h land) ||| (2 ^ land)))), (4, .int (nI land))] dX0_brokenLands_29 (by decide) rfl rfl ?_
        refine g_iincN (pc := 30) 1 4 [(0, .ref (gAd E b)), (1, .int (nI set)), (2, .ref (gAd E (b + 13 + h))), (3, .int (nI ((sBrk (cV M b) (M.1 b 1) (cH M b) set h land) ||| (2 ^ land)))), (4, .int (nI (land + 1)))] rfl dX0_brokenLands_30 (by decide) rfl rfl ?_
        refine g_goto (pc := 33) 5 dX0_brokenLands_33 (by decide) ?_
        refine g_lv (pc := 5) (lv' := [(0, .ref (gAd E b)), (1, .int (nI set)), (2, .ref (gAd E (b + 13 + h))), (3, .int (nI (sBrk (cV M b) (M.1 b 1) (cH M b) set h (land + 1)))), (4, .int (nI (land + 1)))]) (by rw [show sBrk (cV M b) (M.1 b 1) (cH M b) set h (land + 1) = sBrk (cV M b) (M.1 b 1) (cH M b) set h land ||| (if sKept (cV M b) (M.1 b 1) (cH M b) set h land then 0 else 2 ^ land) from rfl, h20]; simp) ?_
        exact ihland (by omega)
  refine g_lv (pc := 5) (lv' := [(0, .ref (gAd E b)), (1, .int (nI set)), (2, .ref (gAd E (b + 13 + h))), (3, .int (nI (sBrk (cV M b) (M.1 b 1) (cH M b) set h 0))), (4, .int (nI 0))]) rfl ?_
  exact lp5 0 (by omega)
set_option maxRecDepth 100000 in
set_option maxHeartbeats 4000000 in
theorem kX0_outsideTerm (l : Launch) (E : gEnv) (M : gMem) (b : Nat) (hB : cBr E M b) (hO : cO M b) : gMetI l E mX0_outsideTerm 2 [.ref (gAd E b)] M (nI (sOut (cV M b) (M.1 b 4) (M.1 b 5) (M.1 b 1))) := by
  have hO' := hO
  obtain ⟨hn, hk, hft, hto, hU, hH⟩ := hO
  have hO := hO'
  refine gMet_of (mm := mX0_outsideTerm) (h := 2) (M := M) [(0, .ref (gAd E b))] (by decide) (Nat.le_of_ble_eq_true rfl) rfl ?_
  refine g_iconst (pc := 0) (nI 0) (by decide) dX0_outsideTerm_0 ?_
  refine g_istore_n (pc := 1) rfl [(0, .ref (gAd E b)), (1, .int (nI 0))] dX0_outsideTerm_1 (by decide) rfl rfl ?_
  refine g_iconst (pc := 2) (nI 0) (by decide) dX0_outsideTerm_2 ?_
  refine g_istore_n (pc := 3) rfl [(0, .ref (gAd E b)), (1, .int (nI 0)), (2, .int (nI 0))] dX0_outsideTerm_3 (by decide) rfl rfl ?_
  have lp4 : ∀ i, i ≤ M.1 b 1 → gG l (gV0 2 E (fun v u => v = some (.int (nI (sOut (cV M b) (M.1 b 4) (M.1 b 5) (M.1 b 1)))) ∧ u = M)) mX0_outsideTerm E (0, 0) M 4 [(0, .ref (gAd E b)), (1, .int (nI (sOut (cV M b) (M.1 b 4) (M.1 b 5) i))), (2, .int (nI i))] [] := by
    refine gloop (fun i hii ihi => ?_)
    refine g_iload_n (pc := 4) 2 rfl rfl dX0_outsideTerm_4 ?_
    refine g_aload_n (pc := 5) 0 rfl rfl dX0_outsideTerm_5 ?_
    refine fX0_25 (pc := 6) rfl hB.1.1 dX0_outsideTerm_6 ?_
    refine g_icmpN_ge (pc := 9) 32 dX0_outsideTerm_9 (by decide) (by omega) (by omega) (fun h9 => ?_) (fun h9 => ?_)
    · refine g_iload_n (pc := 32) 1 rfl rfl dX0_outsideTerm_32 ?_
      exact g_iret (pc := 33) rfl dX0_outsideTerm_33 ⟨congrArg (fun z => some (Value.int z)) (by rw [show i = M.1 b 1 by omega]), rfl⟩
    · refine g_aload_n (pc := 12) 0 rfl rfl dX0_outsideTerm_12 ?_
      refine g_iload_n (pc := 13) 2 rfl rfl dX0_outsideTerm_13 ?_
      refine g_callV (pc := 14) (mc := mX0_isWithinTerm) (rest := []) lX0_127 iX0_isWithinTerm (kX0_isWithinTerm l E M b i hB hO (by omega)) ⟨Nat.le_of_ble_eq_true rfl, Nat.le_of_ble_eq_true rfl⟩ hB.1.1 (by decide) (by decide) rfl rfl rfl rfl (Nat.le_of_ble_eq_true rfl) ⟨Nat.zero_le _, Nat.zero_le _⟩ dX0_outsideTerm_14 (g_rI ?_)
      refine g_ifB_ne (pc := 17) 26 dX0_outsideTerm_17 (by decide) (fun h17 => ?_) (fun h17 => ?_)
      · refine g_iincN (pc := 26) 1 2 [(0, .ref (gAd E b)), (1, .int (nI (sOut (cV M b) (M.1 b 4) (M.1 b 5) i))), (2, .int (nI (i + 1)))] rfl dX0_outsideTerm_26 (by decide) rfl rfl ?_
        refine g_goto (pc := 29) 4 dX0_outsideTerm_29 (by decide) ?_
        refine g_lv (pc := 4) (lv' := [(0, .ref (gAd E b)), (1, .int (nI (sOut (cV M b) (M.1 b 4) (M.1 b 5) (i + 1)))), (2, .int (nI (i + 1)))]) (by rw [show sOut (cV M b) (M.1 b 4) (M.1 b 5) (i + 1) = sOut (cV M b) (M.1 b 4) (M.1 b 5) i ||| (if sIn (cV M b) (M.1 b 4) (M.1 b 5) i then 0 else 2 ^ i) from rfl, h17]; simp) ?_
        exact ihi (by omega)
      · refine g_iload_n (pc := 20) 1 rfl rfl dX0_outsideTerm_20 ?_
        refine g_iconst (pc := 21) (nI 1) (by decide) dX0_outsideTerm_21 ?_
        refine g_iload_n (pc := 22) 2 rfl rfl dX0_outsideTerm_22 ?_
        refine g_ishl1 (pc := 23) (by omega) dX0_outsideTerm_23 ?_
        refine g_iorN (pc := 24) dX0_outsideTerm_24 ?_
        refine g_istore_n (pc := 25) rfl [(0, .ref (gAd E b)), (1, .int (nI ((sOut (cV M b) (M.1 b 4) (M.1 b 5) i) ||| (2 ^ i)))), (2, .int (nI i))] dX0_outsideTerm_25 (by decide) rfl rfl ?_
        refine g_iincN (pc := 26) 1 2 [(0, .ref (gAd E b)), (1, .int (nI ((sOut (cV M b) (M.1 b 4) (M.1 b 5) i) ||| (2 ^ i)))), (2, .int (nI (i + 1)))] rfl dX0_outsideTerm_26 (by decide) rfl rfl ?_
        refine g_goto (pc := 29) 4 dX0_outsideTerm_29 (by decide) ?_
        refine g_lv (pc := 4) (lv' := [(0, .ref (gAd E b)), (1, .int (nI (sOut (cV M b) (M.1 b 4) (M.1 b 5) (i + 1)))), (2, .int (nI (i + 1)))]) (by rw [show sOut (cV M b) (M.1 b 4) (M.1 b 5) (i + 1) = sOut (cV M b) (M.1 b 4) (M.1 b 5) i ||| (if sIn (cV M b) (M.1 b 4) (M.1 b 5) i then 0 else 2 ^ i) from rfl, h17]; simp) ?_
        exact ihi (by omega)
  refine g_lv (pc := 4) (lv' := [(0, .ref (gAd E b)), (1, .int (nI (sOut (cV M b) (M.1 b 4) (M.1 b 5) 0))), (2, .int (nI 0))]) rfl ?_
  exact lp4 0 (by omega)
theorem oN_none {o : Option Nat} (hb : ∀ x, o = some x → x < 2147483648) (h : oN o = -4) : o = none := by
  cases o with
  | none => rfl
  | some x => exact absurd h (oN_ne (hb x rfl))
theorem sClashOf_lt {V : Nat → Nat → Nat} {n i set : Nat} (hn : n ≤ 10) : ∀ x, sClashOf V n i set = some x → x < 2147483648 := fun x h => by
  have := (sFr_lt _ _ _ h).2.1
  omega
set_option maxRecDepth 100000 in
set_option maxHeartbeats 4000000 in
theorem kX0_isWithoutClash (l : Launch) (E : gEnv) (M : gMem) (b set : Nat) (hB : cBr E M b) (hO : cO M b) (hs : set < 2147483648) : gMetI l E mX0_isWithoutClash 4 [.ref (gAd E b), .int (nI set)] M (gb (sNc (cV M b) (M.1 b 1) set)) := by
  have hO' := hO
  obtain ⟨hn, hk, hft, hto, hU, hH⟩ := hO
  have hO := hO'
  refine gMet_of (mm := mX0_isWithoutClash) (h := 4) (M := M) [(0, .ref (gAd E b)), (1, .int (nI set))] (by decide) (Nat.le_of_ble_eq_true rfl) rfl ?_
  refine g_iconst (pc := 0) (nI 0) (by decide) dX0_isWithoutClash_0 ?_
  refine g_istore_n (pc := 1) rfl [(0, .ref (gAd E b)), (1, .int (nI set)), (2, .int (nI 0))] dX0_isWithoutClash_1 (by decide) rfl rfl ?_
  have lp2 : ∀ i, i ≤ M.1 b 1 → (sAny (fun i => set.testBit i && (sClashOf (cV M b) (M.1 b 1) i set).isSome) i = false) → gG l (gV0 4 E (fun v u => v = some (.int (gb (sNc (cV M b) (M.1 b 1) set))) ∧ u = M)) mX0_isWithoutClash E (0, 0) M 2 [(0, .ref (gAd E b)), (1, .int (nI set)), (2, .int (nI i))] [] := by
    refine gloop (fun i hii ihi => ?_)
    intro he
    refine g_iload_n (pc := 2) 2 rfl rfl dX0_isWithoutClash_2 ?_
    refine g_aload_n (pc := 3) 0 rfl rfl dX0_isWithoutClash_3 ?_
    refine fX0_25 (pc := 4) rfl hB.1.1 dX0_isWithoutClash_4 ?_
    refine g_icmpN_ge (pc := 7) 37 dX0_isWithoutClash_7 (by decide) (by omega) (by omega) (fun h7 => ?_) (fun h7 => ?_)
    · refine g_iconst (pc := 37) (nI 1) (by decide) dX0_isWithoutClash_37 ?_
      refine g_topi (pc := 38) (x' := gb true) (by decide) ?_
      exact g_zret (pc := 38) rfl dX0_isWithoutClash_38 ⟨congrArg (fun z => some (Value.int (gb z))) (bt_of (by simp only [sNc, Bool.not_eq_true']; exact (show i = M.1 b 1 by omega) ▸ he)), rfl⟩
    · refine g_iload_n (pc := 10) 1 rfl rfl dX0_isWithoutClash_10 ?_
      refine g_iload_n (pc := 11) 2 rfl rfl dX0_isWithoutClash_11 ?_
      refine g_callSN (pc := 12) (mc := mX6_has) (rest := []) lX0_93 iX6_has (kX6_has l E M set i (by omega) (by omega)) ⟨Nat.le_of_ble_eq_true rfl, Nat.le_of_ble_eq_true rfl⟩ rfl rfl (Nat.le_of_ble_eq_true rfl) ⟨Nat.zero_le _, Nat.zero_le _⟩ dX0_isWithoutClash_12 (g_rI ?_)
      refine g_ifB_eq (pc := 15) 31 dX0_isWithoutClash_15 (by decide) (fun h15 => ?_) (fun h15 => ?_)
      · refine g_iincN (pc := 31) 1 2 [(0, .ref (gAd E b)), (1, .int (nI set)), (2, .int (nI (i + 1)))] rfl dX0_isWithoutClash_31 (by decide) rfl rfl ?_
        refine g_goto (pc := 34) 2 dX0_isWithoutClash_34 (by decide) ?_
        exact ihi (by omega) (sAny_step (n := 0) he (by show (set.testBit i && _) = false; rw [h15]; rfl))
      · refine g_aload_n (pc := 18) 0 rfl rfl dX0_isWithoutClash_18 ?_
        refine g_iload_n (pc := 19) 2 rfl rfl dX0_isWithoutClash_19 ?_
        refine g_iload_n (pc := 20) 1 rfl rfl dX0_isWithoutClash_20 ?_
        refine g_callV (pc := 21) (mc := mX0_lowestClash) (rest := []) lX0_130 iX0_lowestClash (kX0_lowestClash l E M b i set hB hO (by omega) (by omega)) ⟨Nat.le_of_ble_eq_true rfl, Nat.le_of_ble_eq_true rfl⟩ hB.1.1 (by decide) (by decide) rfl rfl rfl rfl (Nat.le_of_ble_eq_true rfl) ⟨Nat.zero_le _, Nat.zero_le _⟩ dX0_isWithoutClash_21 (g_rI ?_)
        refine g_bipush (pc := 24) ((-4)) (by decide) dX0_isWithoutClash_24 ?_
        refine g_icmp_eq (pc := 26) 31 dX0_isWithoutClash_26 (by decide) (fun h26 => ?_) (fun h26 => ?_)
        · refine g_iincN (pc := 31) 1 2 [(0, .ref (gAd E b)), (1, .int (nI set)), (2, .int (nI (i + 1)))] rfl dX0_isWithoutClash_31 (by decide) rfl rfl ?_
          refine g_goto (pc := 34) 2 dX0_isWithoutClash_34 (by decide) ?_
          exact ihi (by omega) (sAny_step (n := 0) he (by show (set.testBit i && _) = false; rw [oN_none (sClashOf_lt hn) h26]; simp))
        · refine g_iconst (pc := 29) (nI 0) (by decide) dX0_isWithoutClash_29 ?_
          refine g_topi (pc := 30) (x' := gb false) (by decide) ?_
          exact g_zret (pc := 30) rfl dX0_isWithoutClash_30 ⟨congrArg (fun z => some (Value.int (gb z))) (bf_of (by intro hh; simp only [sNc, Bool.not_eq_true'] at hh; have q := sAny_no.mp hh i (by omega); simp only [h15, Bool.true_and] at q; cases hc : sClashOf (cV M b) (M.1 b 1) i set with | none => exact h26 (by rw [hc]; rfl) | some x => rw [hc] at q; cases q)), rfl⟩
  exact lp2 0 (by omega) rfl
end
section
/-! long numbers (wb_, pf_: from the kit's text to paste) and rows for them -/
theorem wb_tb (n : Nat) : (lN n).toBitVec = BitVec.ofNat 64 n := rfl
theorem wb_inj {a b : Int64} (h : a.toBitVec = b.toBitVec) : a = b := Int64.toBitVec_inj.mp h
theorem wb_tn {n : Nat} (h : n < 2 ^ 64) : (lN n).toBitVec.toNat = n := by rw [wb_tb, BitVec.toNat_ofNat, Nat.mod_eq_of_lt h]
theorem wb_c : ∀ k, k < 64 → ((nI k).toInt64 &&& 63) = lN k := by decide +kernel
theorem wb_cu : ∀ k, k < 64 → ((nI k).toInt64.toUInt64 &&& Int64.toUInt64 63) = UInt64.ofNat k := by decide +kernel
theorem wb_sm : ∀ k, k < 64 → (BitVec.ofNat 64 k).smod 64 = BitVec.ofNat 64 k := by decide +kernel
theorem wb_lt2 {a b : Nat} (h : a < b) : 2 ^ a < 2 ^ b := Nat.pow_lt_pow_right (by decide) h
theorem wb_shr {n k : Nat} (hn : n < 2 ^ 64) (hk : k < 64) : ((lN n).toUInt64 >>> ((nI k).toInt64.toUInt64 &&& Int64.toUInt64 63)).toInt64 = lN (n / 2 ^ k) := by
  rw [wb_cu k hk]
  apply wb_inj
  apply BitVec.eq_of_toNat_eq
  show ((lN n).toUInt64 >>> UInt64.ofNat k).toNat = (BitVec.ofNat 64 _).toNat
  have h1 : (UInt64.ofNat k).toNat = k := by
    show (BitVec.ofNat 64 k).toNat = k
    rw [BitVec.toNat_ofNat, Nat.mod_eq_of_lt (by omega)]
  have h2 : (lN n).toUInt64.toNat = n := wb_tn hn
  rw [UInt64.toNat_shiftRight, h1, h2, Nat.mod_eq_of_lt hk, Nat.shiftRight_eq_div_pow, BitVec.toNat_ofNat, Nat.mod_eq_of_lt (Nat.lt_of_le_of_lt (Nat.div_le_self _ _) hn)]
theorem wb_shl (n : Nat) {k : Nat} (hk : k < 64) : lN n <<< ((nI k).toInt64 &&& 63) = lN (n * 2 ^ k) := by
  rw [wb_c k hk]
  apply wb_inj
  rw [Int64.toBitVec_shiftLeft, wb_tb, wb_tb, wb_tb, wb_sm k hk]
  apply BitVec.eq_of_toNat_eq
  rw [BitVec.shiftLeft_eq', BitVec.toNat_shiftLeft, BitVec.toNat_ofNat, BitVec.toNat_ofNat, BitVec.toNat_ofNat, Nat.mod_eq_of_lt (show k < 2 ^ 64 by omega), Nat.shiftLeft_eq, Nat.mul_mod, Nat.mod_mod, ← Nat.mul_mod]
theorem wb_and {a b : Nat} (ha : a < 2 ^ 64) (hb : b < 2 ^ 64) : lN a &&& lN b = lN (a &&& b) := by
  apply wb_inj
  rw [Int64.toBitVec_and, wb_tb, wb_tb, wb_tb]
  apply BitVec.eq_of_toNat_eq
  rw [BitVec.toNat_and, BitVec.toNat_ofNat, BitVec.toNat_ofNat, BitVec.toNat_ofNat, Nat.mod_eq_of_lt ha, Nat.mod_eq_of_lt hb, Nat.mod_eq_of_lt (Nat.and_lt_two_pow _ hb)]
theorem wb_or {a b : Nat} (ha : a < 2 ^ 64) (hb : b < 2 ^ 64) : lN a ||| lN b = lN (a ||| b) := by
  apply wb_inj
  rw [Int64.toBitVec_or, wb_tb, wb_tb, wb_tb]
  apply BitVec.eq_of_toNat_eq
  rw [BitVec.toNat_or, BitVec.toNat_ofNat, BitVec.toNat_ofNat, BitVec.toNat_ofNat, Nat.mod_eq_of_lt ha, Nat.mod_eq_of_lt hb, Nat.mod_eq_of_lt (Nat.or_lt_two_pow ha hb)]
theorem wb_mask {n k : Nat} (hn : n < 2 ^ 64) (hk : k < 64) : lN n &&& lN (2 ^ k - 1) = lN (n % 2 ^ k) := by
  rw [wb_and hn (by have := wb_lt2 hk; omega), Nat.and_two_pow_sub_one_eq_mod]
theorem wb_a1 {n : Nat} (hn : n < 2 ^ 64) : lN n &&& 1 = lN (n % 2) := wb_mask (k := 1) hn (by decide)
theorem pf_lI {a : Nat} (h : a < 2 ^ 63) : (lN a).toInt = (a : Int) := lg_ofNat_toInt h
theorem pf_shr {a d : Nat} {D : Int64} (hD : (D.toBitVec.smod 64).toNat = d) (h : a < 2 ^ 62) : lN a >>> D = lN (a / 2 ^ d) := by
  have hd : a / 2 ^ d ≤ a := Nat.div_le_self _ _
  apply Int64.toInt_inj.mp
  have e : (lN a >>> D).toInt = (lN a).toInt >>> d := by
    rw [← hD]
    exact BitVec.toInt_sshiftRight ..
  rw [e, Int.shiftRight_eq_div_pow, pf_lI (by omega), pf_lI (by omega)]
  rfl
theorem wl_sm : ∀ k, k < 64 → (((nI k).toInt64 &&& 63).toBitVec.smod 64).toNat = k := by decide +kernel
theorem wl_shr {a k : Nat} (h : a < 4611686018427387904) (hk : k < 64) : lN a >>> ((nI k).toInt64 &&& 63) = lN (a / 2 ^ k) := pf_shr (wl_sm k hk) (by omega)
theorem wl_not {a : Nat} (h : a < 18446744073709551616) : lN a ^^^ (-1) = lN (18446744073709551616 - (a + 1)) := by
  apply wb_inj
  rw [Int64.toBitVec_xor, wb_tb, wb_tb, show (-1 : Int64).toBitVec = BitVec.allOnes 64 from by decide, BitVec.xor_allOnes]
  apply BitVec.eq_of_toNat_eq
  rw [BitVec.toNat_not, BitVec.toNat_ofNat, BitVec.toNat_ofNat]
  omega
theorem lg_cmp_b {b : Nat} (hb : b < 2) : lg_cmp (lN b) (lN 0) = nI b := by
  rcases Nat.lt_or_ge b 1 with h | h
  · rw [show b = 0 by omega]; decide
  · rw [show b = 1 by omega]; decide
section gLong
variable {l : Launch} {V : gVt} {mm : gY} {E : gEnv} {cs : Nat × Nat} {M : gMem} {pc : Nat} {lv : List (Nat × Value)} {st : List Value}
theorem g_ldcw {idx : Nat} (v : Int32) (hc : Cond.constant mm.1.cls idx v ∈ gT) (d : decode mm.2.1 pc = .ok (.ldc_w idx, 3)) (k : gG l V mm E cs M (pc + 3) lv (.int v :: st)) : gG l V mm E cs M pc lv st :=
  fun p e s m args below meth c H locs ls C hD hS hl => lv_ldcw C.1 C.2.1 C.2.2.2.1 (C.2.2.2.2.1 _ hc) d (k p e s m args below meth c H locs ls C hD hS hl)
theorem g_ldc2 {idx : Nat} (v : Int64) (hc : Cond.constantLong mm.1.cls idx v ∈ gT) (d : decode mm.2.1 pc = .ok (.ldc2_w idx, 3)) (k : gG l V mm E cs M (pc + 3) lv (.long v :: st)) : gG l V mm E cs M pc lv st :=
  fun p e s m args below meth c H locs ls C hD hS hl => lv_ldc2 C.1 C.2.1 C.2.2.2.1 (C.2.2.2.2.1 _ hc) d (k p e s m args below meth c H locs ls C hD hS hl)
theorem g_lcmp {x y : Int64} (d : decode mm.2.1 pc = .ok (.lcmp, 1)) (k : gG l V mm E cs M (pc + 1) lv (.int (lg_cmp x y) :: st)) : gG l V mm E cs M pc lv (.long y :: .long x :: st) :=
  fun p e s m args below meth c H locs ls C hD hS hl => W.lcmp C.1 C.2.1 d (k p e s m args below meth c H locs ls C hD hS hl)
theorem g_nmi {x : Int32} (k : ∀ y, y = x → gG l V mm E cs M pc lv (.int y :: st)) : gG l V mm E cs M pc lv (.int x :: st) := k x rfl
theorem g_nml {x : Int64} (k : ∀ y, y = x → gG l V mm E cs M pc lv (.long y :: st)) : gG l V mm E cs M pc lv (.long x :: st) := k x rfl
end gLong
theorem cJ6_265 : Cond.constant RJ6 265 1431655765 ∈ gT := gT_in 413 (by decide +kernel) (by decide +kernel)
theorem cJ6_266 : Cond.constant RJ6 266 858993459 ∈ gT := gT_in 414 (by decide +kernel) (by decide +kernel)
theorem cJ6_267 : Cond.constant RJ6 267 252645135 ∈ gT := gT_in 415 (by decide +kernel) (by decide +kernel)
theorem cJ13_314 : Cond.constantLong RJ13 314 6148914691236517205 ∈ gT := gT_in 469 (by decide +kernel) (by decide +kernel)
theorem cJ13_316 : Cond.constantLong RJ13 316 3689348814741910323 ∈ gT := gT_in 470 (by decide +kernel) (by decide +kernel)
theorem cJ13_318 : Cond.constantLong RJ13 318 1085102592571150095 ∈ gT := gT_in 471 (by decide +kernel) (by decide +kernel)
theorem cX6_239 : Cond.constantLong RX6 239 (-1) ∈ gT := gT_in 527 (by decide +kernel) (by decide +kernel)
def us32 (x : Int32) (k : Int32) : Int32 := (x.toUInt32 >>> (k.toUInt32 &&& Int32.toUInt32 31)).toInt32
def us64 (x : Int64) (k : Int32) : Int64 := (x.toUInt64 >>> (k.toInt64.toUInt64 &&& Int64.toUInt64 63)).toInt64
def bc1 (x : Int32) : Int32 := x - (us32 x (nI 1) &&& 1431655765)
def bc2 (x : Int32) : Int32 := (x &&& 858993459) + (us32 x (nI 2) &&& 858993459)
def bc3 (x : Int32) : Int32 := (x + us32 x (nI 4)) &&& 252645135
def bc4 (x : Int32) : Int32 := x + us32 x (nI 8)
def bc5 (x : Int32) : Int32 := x + us32 x (nI 16)
theorem bc32 : ∀ n, n < 1024 → bc5 (bc4 (bc3 (bc2 (bc1 (nI n))))) &&& nI 63 = nI (sOnes n) := by decide +kernel
def bl1 (x : Int64) : Int64 := x - (us64 x (nI 1) &&& 6148914691236517205)
def bl2 (x : Int64) : Int64 := (x &&& 3689348814741910323) + (us64 x (nI 2) &&& 3689348814741910323)
def bl3 (x : Int64) : Int64 := (x + us64 x (nI 4)) &&& 1085102592571150095
def bl4 (x : Int64) : Int64 := x + us64 x (nI 8)
def bl5 (x : Int64) : Int64 := x + us64 x (nI 16)
def bl6 (x : Int64) : Int64 := x + us64 x (nI 32)
/-- how many of the weeks 0 to 51 a set of weeks has -/
def sPop (x : Nat) : Nat := sSum (fun k => if x.testBit k then 1 else 0) 52
def sCnt (x : Nat) : Nat → Nat := sSum (fun k => if x.testBit k then 1 else 0)
def sMask (f l : Nat) : Nat := 2 ^ (l + 1) - 2 ^ f
def sWs (x : Nat) : Nat := x &&& (18446744073709551616 - (x * 2 ^ 1 + 1))
def sKth (x k : Nat) : Option Nat := sFr (fun w => x.testBit w && sCnt x w == k) 0 52
def sRn (x : Nat) : Nat → Nat → Nat
  | _, 0 => 0
  | f, k + 1 => if x.testBit f then 1 + sRn x (f + 1) k else 0
/-- the longest run of weeks so far, its start, the run that ends here -/
def sLs (x : Nat) : Nat → Nat × Nat × Nat
  | 0 => (0, 0, 0)
  | w + 1 =>
    let q := sLs x w
    let len := if x.testBit w then q.2.2 + 1 else 0
    if len > q.1 then (len, w + 1 - len, len) else (q.1, q.2.1, len)
theorem sRn_step {x f : Nat} (h : f < 52) : sRn x f (52 - f) = if x.testBit f then 1 + sRn x (f + 1) (52 - (f + 1)) else 0 := by
  rw [show 52 - f = (52 - (f + 1)) + 1 by omega]; rfl
theorem sCnt_le (x : Nat) : ∀ w, sCnt x w ≤ w := by
  intro w
  have h := sSum_le (f := fun k => if x.testBit k then 1 else 0) (c := 1) w (fun i _ => by show (if _ then 1 else 0) ≤ 1; split <;> omega)
  simpa [sCnt] using h
theorem sLs_le (x : Nat) : ∀ w, (sLs x w).1 ≤ w ∧ (sLs x w).2.2 ≤ w ∧ (sLs x w).2.1 ≤ w := by
  intro w
  induction w with
  | zero => exact ⟨Nat.le_refl _, Nat.le_refl _, Nat.le_refl _⟩
  | succ w ih =>
    simp only [sLs]
    split <;> split <;> simp <;> omega
end
section
set_option maxRecDepth 100000 in
set_option maxHeartbeats 4000000 in
theorem kJ6_bitCount (l : Launch) (E : gEnv) (M : gMem) (n : Nat) (hn : n < 1024) : gMetI l E mJ6_bitCount_0f7a4 0 [.int (nI n)] M (nI (sOnes n)) := by
  refine gMet_of (mm := mJ6_bitCount_0f7a4) (h := 0) (M := M) [(0, .int (nI n))] (by decide) (Nat.le_of_ble_eq_true rfl) rfl ?_
  refine g_iload_n (pc := 0) 0 rfl rfl dJ6_bitCount_0f7a4_0 ?_
  refine g_iload_n (pc := 1) 0 rfl rfl dJ6_bitCount_0f7a4_1 ?_
  refine g_iconst (pc := 2) (nI 1) (by decide) dJ6_bitCount_0f7a4_2 ?_
  refine g_iushr (pc := 3) (us32 (nI n) (nI 1)) rfl dJ6_bitCount_0f7a4_3 ?_
  refine g_ldcw (pc := 4) (1431655765) cJ6_265 dJ6_bitCount_0f7a4_4 ?_
  refine g_iand (pc := 7) dJ6_bitCount_0f7a4_7 ?_
  refine g_isub (pc := 8) dJ6_bitCount_0f7a4_8 ?_
  refine g_nmi (pc := 9) (fun x1 ex1 => ?_)
  refine g_istore_n (pc := 9) rfl [(0, .int x1)] dJ6_bitCount_0f7a4_9 (by decide) rfl rfl ?_
  refine g_iload_n (pc := 10) 0 rfl rfl dJ6_bitCount_0f7a4_10 ?_
  refine g_ldcw (pc := 11) (858993459) cJ6_266 dJ6_bitCount_0f7a4_11 ?_
  refine g_iand (pc := 14) dJ6_bitCount_0f7a4_14 ?_
  refine g_iload_n (pc := 15) 0 rfl rfl dJ6_bitCount_0f7a4_15 ?_
  refine g_iconst (pc := 16) (nI 2) (by decide) dJ6_bitCount_0f7a4_16 ?_
  refine g_iushr (pc := 17) (us32 x1 (nI 2)) rfl dJ6_bitCount_0f7a4_17 ?_
  refine g_ldcw (pc := 18) (858993459) cJ6_266 dJ6_bitCount_0f7a4_18 ?_
  refine g_iand (pc := 21) dJ6_bitCount_0f7a4_21 ?_
  refine g_iadd (pc := 22) dJ6_bitCount_0f7a4_22 ?_
  refine g_nmi (pc := 23) (fun x2 ex2 => ?_)
  refine g_istore_n (pc := 23) rfl [(0, .int x2)] dJ6_bitCount_0f7a4_23 (by decide) rfl rfl ?_
  refine g_iload_n (pc := 24) 0 rfl rfl dJ6_bitCount_0f7a4_24 ?_
  refine g_iload_n (pc := 25) 0 rfl rfl dJ6_bitCount_0f7a4_25 ?_
  refine g_iconst (pc := 26) (nI 4) (by decide) dJ6_bitCount_0f7a4_26 ?_
  refine g_iushr (pc := 27) (us32 x2 (nI 4)) rfl dJ6_bitCount_0f7a4_27 ?_
  refine g_iadd (pc := 28) dJ6_bitCount_0f7a4_28 ?_
  refine g_ldcw (pc := 29) (252645135) cJ6_267 dJ6_bitCount_0f7a4_29 ?_
  refine g_iand (pc := 32) dJ6_bitCount_0f7a4_32 ?_
  refine g_nmi (pc := 33) (fun x3 ex3 => ?_)
  refine g_istore_n (pc := 33) rfl [(0, .int x3)] dJ6_bitCount_0f7a4_33 (by decide) rfl rfl ?_
  refine g_iload_n (pc := 34) 0 rfl rfl dJ6_bitCount_0f7a4_34 ?_
  refine g_iload_n (pc := 35) 0 rfl rfl dJ6_bitCount_0f7a4_35 ?_
  refine g_bipush (pc := 36) (nI 8) (by decide) dJ6_bitCount_0f7a4_36 ?_
  refine g_iushr (pc := 38) (us32 x3 (nI 8)) rfl dJ6_bitCount_0f7a4_38 ?_
  refine g_iadd (pc := 39) dJ6_bitCount_0f7a4_39 ?_
  refine g_nmi (pc := 40) (fun x4 ex4 => ?_)
  refine g_istore_n (pc := 40) rfl [(0, .int x4)] dJ6_bitCount_0f7a4_40 (by decide) rfl rfl ?_
  refine g_iload_n (pc := 41) 0 rfl rfl dJ6_bitCount_0f7a4_41 ?_
  refine g_iload_n (pc := 42) 0 rfl rfl dJ6_bitCount_0f7a4_42 ?_
  refine g_bipush (pc := 43) (nI 16) (by decide) dJ6_bitCount_0f7a4_43 ?_
  refine g_iushr (pc := 45) (us32 x4 (nI 16)) rfl dJ6_bitCount_0f7a4_45 ?_
  refine g_iadd (pc := 46) dJ6_bitCount_0f7a4_46 ?_
  refine g_nmi (pc := 47) (fun x5 ex5 => ?_)
  refine g_istore_n (pc := 47) rfl [(0, .int x5)] dJ6_bitCount_0f7a4_47 (by decide) rfl rfl ?_
  refine g_iload_n (pc := 48) 0 rfl rfl dJ6_bitCount_0f7a4_48 ?_
  refine g_bipush (pc := 49) (nI 63) (by decide) dJ6_bitCount_0f7a4_49 ?_
  refine g_iand (pc := 51) dJ6_bitCount_0f7a4_51 ?_
  exact g_iret (pc := 52) rfl dJ6_bitCount_0f7a4_52 ⟨congrArg (fun z => some (Value.int z)) (by rw [← bc32 n hn, ex5, ex4, ex3, ex2, ex1]; rfl), rfl⟩
theorem bc64 : ∀ n, n < 4503599627370496 → (bl6 (bl5 (bl4 (bl3 (bl2 (bl1 (lN n))))))).toInt32 &&& nI 127 = nI (sPop n) := sorry
set_option maxRecDepth 100000 in
set_option maxHeartbeats 4000000 in
theorem kJ13_bitCount (l : Launch) (E : gEnv) (M : gMem) (n : Nat) (hn : n < 4503599627370496) : gMetI l E mJ13_bitCount_95d88 0 [.long (lN n)] M (nI (sPop n)) := by
  refine gMet_of (mm := mJ13_bitCount_95d88) (h := 0) (M := M) [(0, .long (lN n))] (by decide) (Nat.le_of_ble_eq_true rfl) rfl ?_
  refine g_lload_n (pc := 0) 0 rfl rfl dJ13_bitCount_95d88_0 ?_
  refine g_lload_n (pc := 1) 0 rfl rfl dJ13_bitCount_95d88_1 ?_
  refine g_iconst (pc := 2) (nI 1) (by decide) dJ13_bitCount_95d88_2 ?_
  refine g_lushr (pc := 3) (us64 ((lN n)) (nI 1)) rfl dJ13_bitCount_95d88_3 ?_
  refine g_ldc2 (pc := 4) (6148914691236517205) cJ13_314 dJ13_bitCount_95d88_4 ?_
  refine g_land (pc := 7) dJ13_bitCount_95d88_7 ?_
  refine g_lsub (pc := 8) dJ13_bitCount_95d88_8 ?_
  refine g_nml (pc := 9) (fun x1 ex1 => ?_)
  refine g_lstore_n (pc := 9) rfl [(0, .long x1)] dJ13_bitCount_95d88_9 (by decide) rfl rfl ?_
  refine g_lload_n (pc := 10) 0 rfl rfl dJ13_bitCount_95d88_10 ?_
  refine g_ldc2 (pc := 11) (3689348814741910323) cJ13_316 dJ13_bitCount_95d88_11 ?_
  refine g_land (pc := 14) dJ13_bitCount_95d88_14 ?_
  refine g_lload_n (pc := 15) 0 rfl rfl dJ13_bitCount_95d88_15 ?_
  refine g_iconst (pc := 16) (nI 2) (by decide) dJ13_bitCount_95d88_16 ?_
  refine g_lushr (pc := 17) (us64 x1 (nI 2)) rfl dJ13_bitCount_95d88_17 ?_
  refine g_ldc2 (pc := 18) (3689348814741910323) cJ13_316 dJ13_bitCount_95d88_18 ?_
  refine g_land (pc := 21) dJ13_bitCount_95d88_21 ?_
  refine g_ladd (pc := 22) dJ13_bitCount_95d88_22 ?_
  refine g_nml (pc := 23) (fun x2 ex2 => ?_)
  refine g_lstore_n (pc := 23) rfl [(0, .long x2)] dJ13_bitCount_95d88_23 (by decide) rfl rfl ?_
  refine g_lload_n (pc := 24) 0 rfl rfl dJ13_bitCount_95d88_24 ?_
  refine g_lload_n (pc := 25) 0 rfl rfl dJ13_bitCount_95d88_25 ?_
  refine g_iconst (pc := 26) (nI 4) (by decide) dJ13_bitCount_95d88_26 ?_
  refine g_lushr (pc := 27) (us64 x2 (nI 4)) rfl dJ13_bitCount_95d88_27 ?_
  refine g_ladd (pc := 28) dJ13_bitCount_95d88_28 ?_
  refine g_ldc2 (pc := 29) (1085102592571150095) cJ13_318 dJ13_bitCount_95d88_29 ?_
  refine g_land (pc := 32) dJ13_bitCount_95d88_32 ?_
  refine g_nml (pc := 33) (fun x3 ex3 => ?_)
  refine g_lstore_n (pc := 33) rfl [(0, .long x3)] dJ13_bitCount_95d88_33 (by decide) rfl rfl ?_
  refine g_lload_n (pc := 34) 0 rfl rfl dJ13_bitCount_95d88_34 ?_
  refine g_lload_n (pc := 35) 0 rfl rfl dJ13_bitCount_95d88_35 ?_
  refine g_bipush (pc := 36) (nI 8) (by decide) dJ13_bitCount_95d88_36 ?_
  refine g_lushr (pc := 38) (us64 x3 (nI 8)) rfl dJ13_bitCount_95d88_38 ?_
  refine g_ladd (pc := 39) dJ13_bitCount_95d88_39 ?_
  refine g_nml (pc := 40) (fun x4 ex4 => ?_)
  refine g_lstore_n (pc := 40) rfl [(0, .long x4)] dJ13_bitCount_95d88_40 (by decide) rfl rfl ?_
  refine g_lload_n (pc := 41) 0 rfl rfl dJ13_bitCount_95d88_41 ?_
  refine g_lload_n (pc := 42) 0 rfl rfl dJ13_bitCount_95d88_42 ?_
  refine g_bipush (pc := 43) (nI 16) (by decide) dJ13_bitCount_95d88_43 ?_
  refine g_lushr (pc := 45) (us64 x4 (nI 16)) rfl dJ13_bitCount_95d88_45 ?_
  refine g_ladd (pc := 46) dJ13_bitCount_95d88_46 ?_
  refine g_nml (pc := 47) (fun x5 ex5 => ?_)
  refine g_lstore_n (pc := 47) rfl [(0, .long x5)] dJ13_bitCount_95d88_47 (by decide) rfl rfl ?_
  refine g_lload_n (pc := 48) 0 rfl rfl dJ13_bitCount_95d88_48 ?_
  refine g_lload_n (pc := 49) 0 rfl rfl dJ13_bitCount_95d88_49 ?_
  refine g_bipush (pc := 50) (nI 32) (by decide) dJ13_bitCount_95d88_50 ?_
  refine g_lushr (pc := 52) (us64 x5 (nI 32)) rfl dJ13_bitCount_95d88_52 ?_
  refine g_ladd (pc := 53) dJ13_bitCount_95d88_53 ?_
  refine g_nml (pc := 54) (fun x6 ex6 => ?_)
  refine g_lstore_n (pc := 54) rfl [(0, .long x6)] dJ13_bitCount_95d88_54 (by decide) rfl rfl ?_
  refine g_lload_n (pc := 55) 0 rfl rfl dJ13_bitCount_95d88_55 ?_
  refine g_l2i (pc := 56) (x6.toInt32) rfl dJ13_bitCount_95d88_56 ?_
  refine g_bipush (pc := 57) (nI 127) (by decide) dJ13_bitCount_95d88_57 ?_
  refine g_iand (pc := 59) dJ13_bitCount_95d88_59 ?_
  exact g_iret (pc := 60) rfl dJ13_bitCount_95d88_60 ⟨congrArg (fun z => some (Value.int z)) (by rw [← bc64 n hn, ex6, ex5, ex4, ex3, ex2, ex1]; rfl), rfl⟩
theorem i32_nn {x : Int32} (h : ¬ x < 0) : 0 ≤ x.toInt := by
  have q := mt Int32.lt_iff_toInt_lt.mpr h
  rw [show (0 : Int32).toInt = 0 from rfl] at q
  omega
theorem i32_lt {x : Int32} {n : Nat} (hn : n < 2147483648) (h : ¬ nI n ≤ x) : x.toInt < n := by
  have q := mt Int32.le_iff_toInt_le.mpr h
  rw [nI_toInt (by omega)] at q
  omega
theorem h1n {x : Int32} (h : x < 0) (h2 : 0 ≤ x.toInt) : False := by
  have q := Int32.lt_iff_toInt_lt.mp h
  rw [show (0 : Int32).toInt = 0 from rfl] at q
  omega
theorem h6n {x : Int32} {n : Nat} (hn : n < 2147483648) (h : nI n ≤ x) (h2 : x.toInt < n) : False := by
  have q := Int32.le_iff_toInt_le.mp h
  rw [nI_toInt (by omega)] at q
  omega
def inR (x : Int32) (n : Nat) : Bool := decide (0 ≤ x.toInt ∧ x.toInt < n)
theorem inR_of {x : Int32} {n : Nat} (h : inR x n = true) : ∃ j, j < n ∧ x = nI j := by
  have h := of_decide_eq_true h
  refine ⟨x.toInt.toNat, by omega, ?_⟩
  apply Int32.toInt_inj.mp
  have := x.toInt_lt
  rw [nI_toInt (by omega)]
  omega
theorem inR_nI {j n : Nat} (hj : j < 2147483648) : inR (nI j) n = decide (j < n) := by
  unfold inR
  rw [nI_toInt (by omega)]
  simp
set_option maxRecDepth 100000 in
set_option maxHeartbeats 4000000 in
theorem kX6_isBelow (l : Launch) (E : gEnv) (M : gMem) (x : Int32) (n : Nat) (hn : n < 2147483648) : gMetI l E mX6_isBelow 0 [.int x, .int (nI n)] M (gb (inR x n)) := by
  refine gMet_of (mm := mX6_isBelow) (h := 0) (M := M) [(0, .int x), (1, .int (nI n))] (by decide) (Nat.le_of_ble_eq_true rfl) rfl ?_
  refine g_iload_n (pc := 0) 0 rfl rfl dX6_isBelow_0 ?_
  refine g_if_lt (pc := 1) 13 dX6_isBelow_1 (by decide) (fun h1 => ?_) (fun h1 => ?_)
  · refine g_iconst (pc := 13) (nI 0) (by decide) dX6_isBelow_13 ?_
    refine g_topi (pc := 14) (x' := gb false) (by decide) ?_
    exact g_zret (pc := 14) rfl dX6_isBelow_14 ⟨congrArg (fun z => some (Value.int (gb z))) (bf_of (by intro hh; have hh := of_decide_eq_true hh; exact h1n h1 hh.1)), rfl⟩
  · refine g_iload_n (pc := 4) 0 rfl rfl dX6_isBelow_4 ?_
    refine g_iload_n (pc := 5) 1 rfl rfl dX6_isBelow_5 ?_
    refine g_icmp_ge (pc := 6) 13 dX6_isBelow_6 (by decide) (fun h6 => ?_) (fun h6 => ?_)
    · refine g_iconst (pc := 13) (nI 0) (by decide) dX6_isBelow_13 ?_
      refine g_topi (pc := 14) (x' := gb false) (by decide) ?_
      exact g_zret (pc := 14) rfl dX6_isBelow_14 ⟨congrArg (fun z => some (Value.int (gb z))) (bf_of (by intro hh; have hh := of_decide_eq_true hh; exact h6n (by omega) h6 hh.2)), rfl⟩
    · refine g_iconst (pc := 9) (nI 1) (by decide) dX6_isBelow_9 ?_
      refine g_goto (pc := 10) 14 dX6_isBelow_10 (by decide) ?_
      refine g_topi (pc := 14) (x' := gb true) (by decide) ?_
      exact g_zret (pc := 14) rfl dX6_isBelow_14 ⟨congrArg (fun z => some (Value.int (gb z))) (bt_of (by exact decide_eq_true ⟨i32_nn h1, i32_lt (by omega) h6⟩)), rfl⟩
set_option maxRecDepth 100000 in
set_option maxHeartbeats 4000000 in
theorem kX6_isCell (l : Launch) (E : gEnv) (M : gMem) (x y z : Int32) : gMetI l E mX6_isCell 1 [.int x, .int y, .int z] M (gb (inR x 6 && inR y 4 && inR z 4)) := by
  refine gMet_of (mm := mX6_isCell) (h := 1) (M := M) [(0, .int x), (1, .int y), (2, .int z)] (by decide) (Nat.le_of_ble_eq_true rfl) rfl ?_
  refine g_iload_n (pc := 0) 0 rfl rfl dX6_isCell_0 ?_
  refine g_bipush (pc := 1) (nI 6) (by decide) dX6_isCell_1 ?_
  refine g_callS (pc := 3) (mc := mX6_isBelow) (rest := []) lX6_159 iX6_isBelow (kX6_isBelow l E M (x) 6 (by omega)) ⟨Nat.le_of_ble_eq_true rfl, Nat.le_of_ble_eq_true rfl⟩ rfl rfl (Nat.le_of_ble_eq_true rfl) ⟨Nat.zero_le _, Nat.zero_le _⟩ dX6_isCell_3 (g_rI ?_)
  refine g_ifB_eq (pc := 6) 29 dX6_isCell_6 (by decide) (fun h6 => ?_) (fun h6 => ?_)
  · refine g_iconst (pc := 29) (nI 0) (by decide) dX6_isCell_29 ?_
    refine g_topi (pc := 30) (x' := gb false) (by decide) ?_
    exact g_zret (pc := 30) rfl dX6_isCell_30 ⟨congrArg (fun z => some (Value.int (gb z))) (by rw [h6]; simp), rfl⟩
  · refine g_iload_n (pc := 9) 1 rfl rfl dX6_isCell_9 ?_
    refine g_iconst (pc := 10) (nI 4) (by decide) dX6_isCell_10 ?_
    refine g_callS (pc := 11) (mc := mX6_isBelow) (rest := []) lX6_159 iX6_isBelow (kX6_isBelow l E M (y) 4 (by omega)) ⟨Nat.le_of_ble_eq_true rfl, Nat.le_of_ble_eq_true rfl⟩ rfl rfl (Nat.le_of_ble_eq_true rfl) ⟨Nat.zero_le _, Nat.zero_le _⟩ dX6_isCell_11 (g_rI ?_)
    refine g_ifB_eq (pc := 14) 29 dX6_isCell_14 (by decide) (fun h14 => ?_) (fun h14 => ?_)
    · refine g_iconst (pc := 29) (nI 0) (by decide) dX6_isCell_29 ?_
      refine g_topi (pc := 30) (x' := gb false) (by decide) ?_
      exact g_zret (pc := 30) rfl dX6_isCell_30 ⟨congrArg (fun z => some (Value.int (gb z))) (by rw [h6, h14]; simp), rfl⟩
    · refine g_iload_n (pc := 17) 2 rfl rfl dX6_isCell_17 ?_
      refine g_iconst (pc := 18) (nI 4) (by decide) dX6_isCell_18 ?_
      refine g_callS (pc := 19) (mc := mX6_isBelow) (rest := []) lX6_159 iX6_isBelow (kX6_isBelow l E M (z) 4 (by omega)) ⟨Nat.le_of_ble_eq_true rfl, Nat.le_of_ble_eq_true rfl⟩ rfl rfl (Nat.le_of_ble_eq_true rfl) ⟨Nat.zero_le _, Nat.zero_le _⟩ dX6_isCell_19 (g_rI ?_)
      refine g_ifB_eq (pc := 22) 29 dX6_isCell_22 (by decide) (fun h22 => ?_) (fun h22 => ?_)
      · refine g_iconst (pc := 29) (nI 0) (by decide) dX6_isCell_29 ?_
        refine g_topi (pc := 30) (x' := gb false) (by decide) ?_
        exact g_zret (pc := 30) rfl dX6_isCell_30 ⟨congrArg (fun z => some (Value.int (gb z))) (by rw [h6, h14, h22]; simp), rfl⟩
      · refine g_iconst (pc := 25) (nI 1) (by decide) dX6_isCell_25 ?_
        refine g_goto (pc := 26) 30 dX6_isCell_26 (by decide) ?_
        refine g_topi (pc := 30) (x' := gb true) (by decide) ?_
        exact g_zret (pc := 30) rfl dX6_isCell_30 ⟨congrArg (fun z => some (Value.int (gb z))) (by rw [h6, h14, h22]; simp), rfl⟩
set_option maxRecDepth 100000 in
set_option maxHeartbeats 4000000 in
theorem kX6_cellOf (l : Launch) (E : gEnv) (M : gMem) (x y z : Nat) : gMetI l E mX6_cellOf 0 [.int (nI x), .int (nI y), .int (nI z)] M (nI (16 * x + 4 * y + z)) := by
  refine gMet_of (mm := mX6_cellOf) (h := 0) (M := M) [(0, .int (nI x)), (1, .int (nI y)), (2, .int (nI z))] (by decide) (Nat.le_of_ble_eq_true rfl) rfl ?_
  refine g_iload_n (pc := 0) 0 rfl rfl dX6_cellOf_0 ?_
  refine g_iconst (pc := 1) (nI 4) (by decide) dX6_cellOf_1 ?_
  refine g_imulN (pc := 2) dX6_cellOf_2 ?_
  refine g_iload_n (pc := 3) 1 rfl rfl dX6_cellOf_3 ?_
  refine g_iaddN (pc := 4) dX6_cellOf_4 ?_
  refine g_iconst (pc := 5) (nI 4) (by decide) dX6_cellOf_5 ?_
  refine g_imulN (pc := 6) dX6_cellOf_6 ?_
  refine g_iload_n (pc := 7) 2 rfl rfl dX6_cellOf_7 ?_
  refine g_iaddN (pc := 8) dX6_cellOf_8 ?_
  exact g_iret (pc := 9) rfl dX6_cellOf_9 ⟨congrArg (fun z => some (Value.int z)) (by congr 1; omega), rfl⟩
set_option maxRecDepth 100000 in
set_option maxHeartbeats 4000000 in
theorem kX6_landOf (l : Launch) (E : gEnv) (M : gMem) (x : Nat) (hx : x < 2147483648) : gMetI l E mX6_landOf 0 [.int (nI x)] M (nI (x / 16)) := by
  refine gMet_of (mm := mX6_landOf) (h := 0) (M := M) [(0, .int (nI x))] (by decide) (Nat.le_of_ble_eq_true rfl) rfl ?_
  refine g_iload_n (pc := 0) 0 rfl rfl dX6_landOf_0 ?_
  refine g_bipush (pc := 1) (nI 16) (by decide) dX6_landOf_1 ?_
  refine g_idivN (pc := 3) (by omega) (by omega) (by omega) dX6_landOf_3 ?_
  exact g_iret (pc := 4) rfl dX6_landOf_4 ⟨rfl, rfl⟩
set_option maxRecDepth 100000 in
set_option maxHeartbeats 4000000 in
theorem kX6_tongueOf (l : Launch) (E : gEnv) (M : gMem) (x : Nat) (hx : x < 2147483648) : gMetI l E mX6_tongueOf 0 [.int (nI x)] M (nI (x / 4 % 4)) := by
  refine gMet_of (mm := mX6_tongueOf) (h := 0) (M := M) [(0, .int (nI x))] (by decide) (Nat.le_of_ble_eq_true rfl) rfl ?_
  refine g_iload_n (pc := 0) 0 rfl rfl dX6_tongueOf_0 ?_
  refine g_iconst (pc := 1) (nI 4) (by decide) dX6_tongueOf_1 ?_
  refine g_idivN (pc := 2) (by omega) (by omega) (by omega) dX6_tongueOf_2 ?_
  refine g_iconst (pc := 3) (nI 4) (by decide) dX6_tongueOf_3 ?_
  refine g_iremN (pc := 4) (by omega) (by omega) (by omega) dX6_tongueOf_4 ?_
  exact g_iret (pc := 5) rfl dX6_tongueOf_5 ⟨rfl, rfl⟩
set_option maxRecDepth 100000 in
set_option maxHeartbeats 4000000 in
theorem kX6_meansOf (l : Launch) (E : gEnv) (M : gMem) (x : Nat) (hx : x < 2147483648) : gMetI l E mX6_meansOf 0 [.int (nI x)] M (nI (x % 4)) := by
  refine gMet_of (mm := mX6_meansOf) (h := 0) (M := M) [(0, .int (nI x))] (by decide) (Nat.le_of_ble_eq_true rfl) rfl ?_
  refine g_iload_n (pc := 0) 0 rfl rfl dX6_meansOf_0 ?_
  refine g_iconst (pc := 1) (nI 4) (by decide) dX6_meansOf_1 ?_
  refine g_iremN (pc := 2) (by omega) (by omega) (by omega) dX6_meansOf_2 ?_
  exact g_iret (pc := 3) rfl dX6_meansOf_3 ⟨rfl, rfl⟩
set_option maxRecDepth 100000 in
set_option maxHeartbeats 4000000 in
theorem kX6_isSetBelow (l : Launch) (E : gEnv) (M : gMem) (x n : Nat) (hx : x < 2147483648) (hn : n < 31) : gMetI l E mX6_isSetBelow 0 [.int (nI x), .int (nI n)] M (gb (decide (1 ≤ x ∧ x < 2 ^ n))) := by
  refine gMet_of (mm := mX6_isSetBelow) (h := 0) (M := M) [(0, .int (nI x)), (1, .int (nI n))] (by decide) (Nat.le_of_ble_eq_true rfl) rfl ?_
  refine g_iload_n (pc := 0) 0 rfl rfl dX6_isSetBelow_0 ?_
  refine g_iconst (pc := 1) (nI 1) (by decide) dX6_isSetBelow_1 ?_
  refine g_icmpN_lt (pc := 2) 16 dX6_isSetBelow_2 (by decide) (by omega) (by omega) (fun h2 => ?_) (fun h2 => ?_)
  · refine g_iconst (pc := 16) (nI 0) (by decide) dX6_isSetBelow_16 ?_
    refine g_topi (pc := 17) (x' := gb false) (by decide) ?_
    exact g_zret (pc := 17) rfl dX6_isSetBelow_17 ⟨congrArg (fun z => some (Value.int (gb z))) (bf_of (by intro hh; have hh := of_decide_eq_true hh; omega)), rfl⟩
  · refine g_iload_n (pc := 5) 0 rfl rfl dX6_isSetBelow_5 ?_
    refine g_iconst (pc := 6) (nI 1) (by decide) dX6_isSetBelow_6 ?_
    refine g_iload_n (pc := 7) 1 rfl rfl dX6_isSetBelow_7 ?_
    refine g_ishl1 (pc := 8) (by omega) dX6_isSetBelow_8 ?_
    refine g_icmpN_ge (pc := 9) 16 dX6_isSetBelow_9 (by decide) (by omega) (by have := Nat.pow_lt_pow_right (a := 2) (by decide) hn; omega) (fun h9 => ?_) (fun h9 => ?_)
    · refine g_iconst (pc := 16) (nI 0) (by decide) dX6_isSetBelow_16 ?_
      refine g_topi (pc := 17) (x' := gb false) (by decide) ?_
      exact g_zret (pc := 17) rfl dX6_isSetBelow_17 ⟨congrArg (fun z => some (Value.int (gb z))) (bf_of (by intro hh; have hh := of_decide_eq_true hh; omega)), rfl⟩
    · refine g_iconst (pc := 12) (nI 1) (by decide) dX6_isSetBelow_12 ?_
      refine g_goto (pc := 13) 17 dX6_isSetBelow_13 (by decide) ?_
      refine g_topi (pc := 17) (x' := gb true) (by decide) ?_
      exact g_zret (pc := 17) rfl dX6_isSetBelow_17 ⟨congrArg (fun z => some (Value.int (gb z))) (bt_of (by exact decide_eq_true ⟨by omega, h9⟩)), rfl⟩
set_option maxRecDepth 100000 in
set_option maxHeartbeats 4000000 in
theorem kX6_hasWeek (l : Launch) (E : gEnv) (M : gMem) (x i : Nat) (hx : x < 4611686018427387904) (hi : i < 64) : gMetI l E mX6_hasWeek 0 [.long (lN x), .int (nI i)] M (gb (x.testBit i)) := by
  refine gMet_of (mm := mX6_hasWeek) (h := 0) (M := M) [(0, .long (lN x)), (2, .int (nI i))] (by decide) (Nat.le_of_ble_eq_true rfl) rfl ?_
  refine g_lload_n (pc := 0) 0 rfl rfl dX6_hasWeek_0 ?_
  refine g_iload_n (pc := 1) 1 rfl rfl dX6_hasWeek_1 ?_
  refine g_lshr (pc := 2) (lN (x / 2 ^ i)) (wl_shr hx (by omega)) dX6_hasWeek_2 ?_
  refine g_lconst (pc := 3) (lN 1) (by decide) dX6_hasWeek_3 ?_
  refine g_land (pc := 4) dX6_hasWeek_4 ?_
  refine g_topl (pc := 5) (x' := lN (x / 2 ^ i % 2)) (wb_a1 (Nat.lt_of_le_of_lt (Nat.div_le_self _ _) (by omega))) ?_
  refine g_lconst (pc := 5) (lN 0) (by decide) dX6_hasWeek_5 ?_
  refine g_lcmp (pc := 6) dX6_hasWeek_6 ?_
  refine g_topi (pc := 7) (x' := nI (x / 2 ^ i % 2)) (lg_cmp_b (by omega)) ?_
  refine g_ifN_eq (pc := 7) 14 dX6_hasWeek_7 (by decide) (by omega) (fun h7 => ?_) (fun h7 => ?_)
  · refine g_iconst (pc := 14) (nI 0) (by decide) dX6_hasWeek_14 ?_
    refine g_topi (pc := 15) (x' := gb false) (by decide) ?_
    exact g_zret (pc := 15) rfl dX6_hasWeek_15 ⟨congrArg (fun z => some (Value.int (gb z))) (by rw [nx_tb]; simp; omega), rfl⟩
  · refine g_iconst (pc := 10) (nI 1) (by decide) dX6_hasWeek_10 ?_
    refine g_goto (pc := 11) 15 dX6_hasWeek_11 (by decide) ?_
    refine g_topi (pc := 15) (x' := gb true) (by decide) ?_
    exact g_zret (pc := 15) rfl dX6_hasWeek_15 ⟨congrArg (fun z => some (Value.int (gb z))) (by rw [nx_tb]; simp; omega), rfl⟩
set_option maxRecDepth 100000 in
set_option maxHeartbeats 4000000 in
theorem kX6_weeksFromTo (l : Launch) (E : gEnv) (M : gMem) (f t : Nat) (hf : f ≤ t) (ht : t ≤ 51) : gMetL l E mX6_weeksFromTo 0 [.int (nI f), .int (nI t)] M (lN (sMask f t)) := by
  refine gMet_of (mm := mX6_weeksFromTo) (h := 0) (M := M) [(0, .int (nI f)), (1, .int (nI t))] (by decide) (Nat.le_of_ble_eq_true rfl) rfl ?_
  refine g_lconst (pc := 0) (lN 1) (by decide) dX6_weeksFromTo_0 ?_
  refine g_iload_n (pc := 1) 1 rfl rfl dX6_weeksFromTo_1 ?_
  refine g_iconst (pc := 2) (nI 1) (by decide) dX6_weeksFromTo_2 ?_
  refine g_iaddN (pc := 3) dX6_weeksFromTo_3 ?_
  refine g_lshl (pc := 4) (lN (1 * 2 ^ (t + 1))) (wb_shl 1 (by omega)) dX6_weeksFromTo_4 ?_
  refine g_lconst (pc := 5) (lN 1) (by decide) dX6_weeksFromTo_5 ?_
  refine g_iload_n (pc := 6) 0 rfl rfl dX6_weeksFromTo_6 ?_
  refine g_lshl (pc := 7) (lN (1 * 2 ^ f)) (wb_shl 1 (by omega)) dX6_weeksFromTo_7 ?_
  refine g_lsub (pc := 8) dX6_weeksFromTo_8 ?_
  exact g_lret (pc := 9) rfl dX6_weeksFromTo_9 ⟨congrArg (fun z => some (Value.long z)) (by rw [Nat.one_mul, Nat.one_mul, lN_sub (Nat.pow_le_pow_right (by decide) (by omega))]; rfl), rfl⟩
set_option maxRecDepth 100000 in
set_option maxHeartbeats 4000000 in
theorem kX6_windowStarts (l : Launch) (E : gEnv) (M : gMem) (x : Nat) (hx : x < 4503599627370496) : gMetL l E mX6_windowStarts 0 [.long (lN x)] M (lN (sWs x)) := by
  refine gMet_of (mm := mX6_windowStarts) (h := 0) (M := M) [(0, .long (lN x))] (by decide) (Nat.le_of_ble_eq_true rfl) rfl ?_
  refine g_lload_n (pc := 0) 0 rfl rfl dX6_windowStarts_0 ?_
  refine g_lload_n (pc := 1) 0 rfl rfl dX6_windowStarts_1 ?_
  refine g_iconst (pc := 2) (nI 1) (by decide) dX6_windowStarts_2 ?_
  refine g_lshl (pc := 3) (lN (x * 2 ^ 1)) (wb_shl x (by omega)) dX6_windowStarts_3 ?_
  refine g_ldc2 (pc := 4) (-1) cX6_239 dX6_windowStarts_4 ?_
  refine g_lxor (pc := 7) dX6_windowStarts_7 ?_
  refine g_topl (pc := 8) (x' := lN (18446744073709551616 - (x * 2 ^ 1 + 1))) (wl_not (by omega)) ?_
  refine g_land (pc := 8) dX6_windowStarts_8 ?_
  exact g_lret (pc := 9) rfl dX6_windowStarts_9 ⟨congrArg (fun z => some (Value.long z)) (by rw [wb_and (by omega) (by omega)]; rfl), rfl⟩
set_option maxRecDepth 100000 in
set_option maxHeartbeats 4000000 in
theorem kX6_kthWeek (l : Launch) (E : gEnv) (M : gMem) (x k : Nat) (hx : x < 4611686018427387904) (hk : k < 2147483648) : gMetI l E mX6_kthWeek 1 [.long (lN x), .int (nI k)] M (oN (sKth x k)) := by
  refine gMet_of (mm := mX6_kthWeek) (h := 1) (M := M) [(0, .long (lN x)), (2, .int (nI k))] (by decide) (Nat.le_of_ble_eq_true rfl) rfl ?_
  refine g_iconst (pc := 0) (nI 0) (by decide) dX6_kthWeek_0 ?_
  refine g_istore_n (pc := 1) rfl [(0, .long (lN x)), (2, .int (nI k)), (3, .int (nI 0))] dX6_kthWeek_1 (by decide) rfl rfl ?_
  refine g_iconst (pc := 2) (nI 0) (by decide) dX6_kthWeek_2 ?_
  refine g_istore (pc := 3) [(0, .long (lN x)), (2, .int (nI k)), (3, .int (nI 0)), (4, .int (nI 0))] dX6_kthWeek_3 (by decide) rfl rfl ?_
  have lp5 : ∀ w, w ≤ 52 → (sFr (fun w => x.testBit w && sCnt x w == k) 0 52 = sFr (fun w => x.testBit w && sCnt x w == k) w (52 - w)) → gG l (gV0 1 E (fun v u => v = some (.int (oN (sKth x k))) ∧ u = M)) mX6_kthWeek E (0, 0) M 5 [(0, .long (lN x)), (2, .int (nI k)), (3, .int (nI (sCnt x w))), (4, .int (nI w))] [] := by
    refine gloop (fun w hiw ihw => ?_)
    intro he
    refine g_iload (pc := 5) 3 rfl dX6_kthWeek_5 ?_
    refine g_bipush (pc := 7) (nI 51) (by decide) dX6_kthWeek_7 ?_
    refine g_icmpN_gt (pc := 9) 38 dX6_kthWeek_9 (by decide) (by omega) (by omega) (fun h9 => ?_) (fun h9 => ?_)
    · refine g_bipush (pc := 38) ((-4)) (by decide) dX6_kthWeek_38 ?_
      exact g_iret (pc := 40) rfl dX6_kthWeek_40 ⟨congrArg (fun z => some (Value.int z)) (by rw [sKth, he, show 52 - w = 0 by omega]; rfl), rfl⟩
    · have hcl := sCnt_le x w
      refine g_lload_n (pc := 12) 0 rfl rfl dX6_kthWeek_12 ?_
      refine g_iload (pc := 13) 3 rfl dX6_kthWeek_13 ?_
      refine g_callS (pc := 15) (mc := mX6_hasWeek) (rest := []) lX6_197 iX6_hasWeek (kX6_hasWeek l E M x w (by omega) (by omega)) ⟨Nat.le_of_ble_eq_true rfl, Nat.le_of_ble_eq_true rfl⟩ rfl rfl (Nat.le_of_ble_eq_true rfl) ⟨Nat.zero_le _, Nat.zero_le _⟩ dX6_kthWeek_15 (g_rI ?_)
      refine g_ifB_eq (pc := 18) 32 dX6_kthWeek_18 (by decide) (fun h18 => ?_) (fun h18 => ?_)
      · refine g_iincN (pc := 32) 1 3 [(0, .long (lN x)), (2, .int (nI k)), (3, .int (nI (sCnt x w))), (4, .int (nI (w + 1)))] rfl dX6_kthWeek_32 (by decide) rfl rfl ?_
        refine g_goto (pc := 35) 5 dX6_kthWeek_35 (by decide) ?_
        refine g_lv (pc := 5) (lv' := [(0, .long (lN x)), (2, .int (nI k)), (3, .int (nI (sCnt x (w + 1)))), (4, .int (nI (w + 1)))]) (by rw [show sCnt x (w + 1) = sCnt x w + (if x.testBit w then 1 else 0) from rfl, h18]; rfl) ?_
        exact ihw (by omega) (by rw [he, sFr_step (by omega), if_neg]; simp [h18])
      · refine g_iload_n (pc := 21) 2 rfl rfl dX6_kthWeek_21 ?_
        refine g_iload_n (pc := 22) 1 rfl rfl dX6_kthWeek_22 ?_
        refine g_icmpN_ne (pc := 23) 29 dX6_kthWeek_23 (by decide) (by omega) (by omega) (fun h23 => ?_) (fun h23 => ?_)
        · refine g_iincN (pc := 29) 1 2 [(0, .long (lN x)), (2, .int (nI k)), (3, .int (nI (sCnt x w + 1))), (4, .int (nI w))] rfl dX6_kthWeek_29 (by decide) rfl rfl ?_
          refine g_iincN (pc := 32) 1 3 [(0, .long (lN x)), (2, .int (nI k)), (3, .int (nI (sCnt x w + 1))), (4, .int (nI (w + 1)))] rfl dX6_kthWeek_32 (by decide) rfl rfl ?_
          refine g_goto (pc := 35) 5 dX6_kthWeek_35 (by decide) ?_
          refine g_lv (pc := 5) (lv' := [(0, .long (lN x)), (2, .int (nI k)), (3, .int (nI (sCnt x (w + 1)))), (4, .int (nI (w + 1)))]) (by rw [show sCnt x (w + 1) = sCnt x w + (if x.testBit w then 1 else 0) from rfl, h18]; rfl) ?_
          exact ihw (by omega) (by rw [he, sFr_step (by omega), if_neg]; simp [h23])
        · refine g_iload (pc := 26) 3 rfl dX6_kthWeek_26 ?_
          exact g_iret (pc := 28) rfl dX6_kthWeek_28 ⟨congrArg (fun z => some (Value.int z)) (by rw [sKth, he, sFr_step (by omega), if_pos (by simp [h18, h23])]; rfl), rfl⟩
  refine g_lv (pc := 5) (lv' := [(0, .long (lN x)), (2, .int (nI k)), (3, .int (nI (sCnt x 0))), (4, .int (nI 0))]) rfl ?_
  exact lp5 0 (by omega) rfl
set_option maxRecDepth 100000 in
set_option maxHeartbeats 4000000 in
theorem kX6_windowLength (l : Launch) (E : gEnv) (M : gMem) (x f : Nat) (hx : x < 4611686018427387904) (hf0 : f ≤ 52) : gMetI l E mX6_windowLength 1 [.long (lN x), .int (nI f)] M (nI (sRn x f (52 - f))) := by
  refine gMet_of (mm := mX6_windowLength) (h := 1) (M := M) [(0, .long (lN x)), (2, .int (nI f))] (by decide) (Nat.le_of_ble_eq_true rfl) rfl ?_
  refine g_iload_n (pc := 0) 1 rfl rfl dX6_windowLength_0 ?_
  refine g_istore_n (pc := 1) rfl [(0, .long (lN x)), (2, .int (nI f)), (3, .int (nI f))] dX6_windowLength_1 (by decide) rfl rfl ?_
  have lp2 : ∀ w, w ≤ 52 → (f ≤ w) → (sRn x f (52 - f) = (w - f) + sRn x w (52 - w)) → gG l (gV0 1 E (fun v u => v = some (.int (nI (sRn x f (52 - f)))) ∧ u = M)) mX6_windowLength E (0, 0) M 2 [(0, .long (lN x)), (2, .int (nI f)), (3, .int (nI w))] [] := by
    refine gloop (fun w hiw ihw => ?_)
    intro hf
    intro he
    refine g_iload_n (pc := 2) 2 rfl rfl dX6_windowLength_2 ?_
    refine g_bipush (pc := 3) (nI 51) (by decide) dX6_windowLength_3 ?_
    refine g_icmpN_gt (pc := 5) 22 dX6_windowLength_5 (by decide) (by omega) (by omega) (fun h5 => ?_) (fun h5 => ?_)
    · refine g_iload_n (pc := 22) 2 rfl rfl dX6_windowLength_22 ?_
      refine g_iload_n (pc := 23) 1 rfl rfl dX6_windowLength_23 ?_
      refine g_isubN (pc := 24) (by omega) dX6_windowLength_24 ?_
      exact g_iret (pc := 25) rfl dX6_windowLength_25 ⟨congrArg (fun z => some (Value.int z)) (by rw [he]; congr 1; rw [show 52 - w = 0 by omega, show sRn x w 0 = 0 from rfl]; omega), rfl⟩
    · refine g_lload_n (pc := 8) 0 rfl rfl dX6_windowLength_8 ?_
      refine g_iload_n (pc := 9) 2 rfl rfl dX6_windowLength_9 ?_
      refine g_callS (pc := 10) (mc := mX6_hasWeek) (rest := []) lX6_197 iX6_hasWeek (kX6_hasWeek l E M x w (by omega) (by omega)) ⟨Nat.le_of_ble_eq_true rfl, Nat.le_of_ble_eq_true rfl⟩ rfl rfl (Nat.le_of_ble_eq_true rfl) ⟨Nat.zero_le _, Nat.zero_le _⟩ dX6_windowLength_10 (g_rI ?_)
      refine g_ifB_eq (pc := 13) 22 dX6_windowLength_13 (by decide) (fun h13 => ?_) (fun h13 => ?_)
      · refine g_iload_n (pc := 22) 2 rfl rfl dX6_windowLength_22 ?_
        refine g_iload_n (pc := 23) 1 rfl rfl dX6_windowLength_23 ?_
        refine g_isubN (pc := 24) (by omega) dX6_windowLength_24 ?_
        exact g_iret (pc := 25) rfl dX6_windowLength_25 ⟨congrArg (fun z => some (Value.int z)) (by rw [he]; congr 1; rw [sRn_step (by omega), if_neg (by rw [h13]; decide)]; omega), rfl⟩
      · refine g_iincN (pc := 16) 1 2 [(0, .long (lN x)), (2, .int (nI f)), (3, .int (nI (w + 1)))] rfl dX6_windowLength_16 (by decide) rfl rfl ?_
        refine g_goto (pc := 19) 2 dX6_windowLength_19 (by decide) ?_
        exact ihw (by omega) (by omega) (by rw [he, sRn_step (by omega), if_pos h13]; omega)
  exact lp2 f (by omega) (Nat.le_refl _) (by omega)
theorem nI_sa {a b : Nat} (h : b ≤ a + 1) : nI a - nI b + nI 1 = nI (a + 1 - b) := by
  rw [← pk_sub h, ← nI_add]
  grind
theorem sLs_tp {x w : Nat} (h : x.testBit w = true) (h2 : (sLs x w).1 < (sLs x w).2.2 + 1) : sLs x (w + 1) = ((sLs x w).2.2 + 1, w + 1 - ((sLs x w).2.2 + 1), (sLs x w).2.2 + 1) := by
  simp only [sLs, h, if_true]; exact if_pos h2
theorem sLs_tn {x w : Nat} (h : x.testBit w = true) (h2 : (sLs x w).2.2 + 1 ≤ (sLs x w).1) : sLs x (w + 1) = ((sLs x w).1, (sLs x w).2.1, (sLs x w).2.2 + 1) := by
  simp only [sLs, h, if_true]; exact if_neg (by omega)
theorem sLs_fn {x w : Nat} (h : x.testBit w = false) (h2 : 0 ≤ (sLs x w).1) : sLs x (w + 1) = ((sLs x w).1, (sLs x w).2.1, 0) := by
  simp only [sLs, h]; exact if_neg (by simp)
set_option maxRecDepth 100000 in
set_option maxHeartbeats 4000000 in
theorem kX6_longestStart (l : Launch) (E : gEnv) (M : gMem) (x : Nat) (hx : x < 4611686018427387904) : gMetI l E mX6_longestStart 1 [.long (lN x)] M (nI (sLs x 52).2.1) := by
  refine gMet_of (mm := mX6_longestStart) (h := 1) (M := M) [(0, .long (lN x))] (by decide) (Nat.le_of_ble_eq_true rfl) rfl ?_
  refine g_iconst (pc := 0) (nI 0) (by decide) dX6_longestStart_0 ?_
  refine g_istore_n (pc := 1) rfl [(0, .long (lN x)), (2, .int (nI 0))] dX6_longestStart_1 (by decide) rfl rfl ?_
  refine g_iconst (pc := 2) (nI 0) (by decide) dX6_longestStart_2 ?_
  refine g_istore_n (pc := 3) rfl [(0, .long (lN x)), (2, .int (nI 0)), (3, .int (nI 0))] dX6_longestStart_3 (by decide) rfl rfl ?_
  refine g_iconst (pc := 4) (nI 0) (by decide) dX6_longestStart_4 ?_
  refine g_istore (pc := 5) [(0, .long (lN x)), (2, .int (nI 0)), (3, .int (nI 0)), (4, .int (nI 0))] dX6_longestStart_5 (by decide) rfl rfl ?_
  refine g_iconst (pc := 7) (nI 0) (by decide) dX6_longestStart_7 ?_
  refine g_istore (pc := 8) [(0, .long (lN x)), (2, .int (nI 0)), (3, .int (nI 0)), (4, .int (nI 0)), (5, .int (nI 0))] dX6_longestStart_8 (by decide) rfl rfl ?_
  have lp10 : ∀ w, w ≤ 52 → gG l (gV0 1 E (fun v u => v = some (.int (nI (sLs x 52).2.1)) ∧ u = M)) mX6_longestStart E (0, 0) M 10 [(0, .long (lN x)), (2, .int (nI ((sLs x w).1))), (3, .int (nI ((sLs x w).2.1))), (4, .int (nI ((sLs x w).2.2))), (5, .int (nI w))] [] := by
    refine gloop (fun w hiw ihw => ?_)
    refine g_iload (pc := 10) 4 rfl dX6_longestStart_10 ?_
    refine g_bipush (pc := 12) (nI 51) (by decide) dX6_longestStart_12 ?_
    refine g_icmpN_gt (pc := 14) 59 dX6_longestStart_14 (by decide) (by omega) (by omega) (fun h14 => ?_) (fun h14 => ?_)
    · refine g_iload_n (pc := 59) 2 rfl rfl dX6_longestStart_59 ?_
      exact g_iret (pc := 60) rfl dX6_longestStart_60 ⟨congrArg (fun z => some (Value.int z)) (by rw [show w = 52 by omega]), rfl⟩
    · have hls := sLs_le x w
      refine g_lload_n (pc := 17) 0 rfl rfl dX6_longestStart_17 ?_
      refine g_iload (pc := 18) 4 rfl dX6_longestStart_18 ?_
      refine g_callS (pc := 20) (mc := mX6_hasWeek) (rest := []) lX6_197 iX6_hasWeek (kX6_hasWeek l E M x w (by omega) (by omega)) ⟨Nat.le_of_ble_eq_true rfl, Nat.le_of_ble_eq_true rfl⟩ rfl rfl (Nat.le_of_ble_eq_true rfl) ⟨Nat.zero_le _, Nat.zero_le _⟩ dX6_longestStart_20 (g_rI ?_)
      refine g_ifB_eq (pc := 23) 33 dX6_longestStart_23 (by decide) (fun h23 => ?_) (fun h23 => ?_)
      · refine g_iconst (pc := 33) (nI 0) (by decide) dX6_longestStart_33 ?_
        refine g_istore (pc := 34) [(0, .long (lN x)), (2, .int (nI ((sLs x w).1))), (3, .int (nI ((sLs x w).2.1))), (4, .int (nI 0)), (5, .int (nI w))] dX6_longestStart_34 (by decide) rfl rfl ?_
        refine g_iload (pc := 36) 3 rfl dX6_longestStart_36 ?_
        refine g_iload_n (pc := 38) 1 rfl rfl dX6_longestStart_38 ?_
        refine g_icmpN_le (pc := 39) 53 dX6_longestStart_39 (by decide) (by omega) (by omega) (fun h39 => ?_) (fun h39 => absurd h39 (by omega))
        refine g_iincN (pc := 53) 1 4 [(0, .long (lN x)), (2, .int (nI ((sLs x w).1))), (3, .int (nI ((sLs x w).2.1))), (4, .int (nI 0)), (5, .int (nI (w + 1)))] rfl dX6_longestStart_53 (by decide) rfl rfl ?_
        refine g_goto (pc := 56) 10 dX6_longestStart_56 (by decide) ?_
        refine g_lv (pc := 10) (lv' := [(0, .long (lN x)), (2, .int (nI ((sLs x (w + 1)).1))), (3, .int (nI ((sLs x (w + 1)).2.1))), (4, .int (nI ((sLs x (w + 1)).2.2))), (5, .int (nI (w + 1)))]) (by rw [show sLs x (w + 1) = _ from sLs_fn h23 (by omega)]) ?_
        exact ihw (by omega)
      · refine g_iload (pc := 26) 3 rfl dX6_longestStart_26 ?_
        refine g_iconst (pc := 28) (nI 1) (by decide) dX6_longestStart_28 ?_
        refine g_iaddN (pc := 29) dX6_longestStart_29 ?_
        refine g_goto (pc := 30) 34 dX6_longestStart_30 (by decide) ?_
        refine g_istore (pc := 34) [(0, .long (lN x)), (2, .int (nI ((sLs x w).1))), (3, .int (nI ((sLs x w).2.1))), (4, .int (nI (((sLs x w).2.2) + 1))), (5, .int (nI w))] dX6_longestStart_34 (by decide) rfl rfl ?_
        refine g_iload (pc := 36) 3 rfl dX6_longestStart_36 ?_
        refine g_iload_n (pc := 38) 1 rfl rfl dX6_longestStart_38 ?_
        refine g_icmpN_le (pc := 39) 53 dX6_longestStart_39 (by decide) (by omega) (by omega) (fun h39 => ?_) (fun h39 => ?_)
        · refine g_iincN (pc := 53) 1 4 [(0, .long (lN x)), (2, .int (nI ((sLs x w).1))), (3, .int (nI ((sLs x w).2.1))), (4, .int (nI (((sLs x w).2.2) + 1))), (5, .int (nI (w + 1)))] rfl dX6_longestStart_53 (by decide) rfl rfl ?_
          refine g_goto (pc := 56) 10 dX6_longestStart_56 (by decide) ?_
          refine g_lv (pc := 10) (lv' := [(0, .long (lN x)), (2, .int (nI ((sLs x (w + 1)).1))), (3, .int (nI ((sLs x (w + 1)).2.1))), (4, .int (nI ((sLs x (w + 1)).2.2))), (5, .int (nI (w + 1)))]) (by rw [show sLs x (w + 1) = _ from sLs_tn h23 (by omega)]) ?_
          exact ihw (by omega)
        · refine g_iload (pc := 42) 3 rfl dX6_longestStart_42 ?_
          refine g_istore_n (pc := 44) rfl [(0, .long (lN x)), (2, .int (nI (((sLs x w).2.2) + 1))), (3, .int (nI ((sLs x w).2.1))), (4, .int (nI (((sLs x w).2.2) + 1))), (5, .int (nI w))] dX6_longestStart_44 (by decide) rfl rfl ?_
          refine g_iload (pc := 45) 4 rfl dX6_longestStart_45 ?_
          refine g_iload (pc := 47) 3 rfl dX6_longestStart_47 ?_
          refine g_isub (pc := 49) dX6_longestStart_49 ?_
          refine g_iconst (pc := 50) (nI 1) (by decide) dX6_longestStart_50 ?_
          refine g_iadd (pc := 51) dX6_longestStart_51 ?_
          refine g_topi (pc := 52) (x' := nI (w + 1 - ((sLs x w).2.2 + 1))) (nI_sa (by omega)) ?_
          refine g_istore_n (pc := 52) rfl [(0, .long (lN x)), (2, .int (nI (((sLs x w).2.2) + 1))), (3, .int (nI (w + 1 - ((sLs x w).2.2 + 1)))), (4, .int (nI (((sLs x w).2.2) + 1))), (5, .int (nI w))] dX6_longestStart_52 (by decide) rfl rfl ?_
          refine g_iincN (pc := 53) 1 4 [(0, .long (lN x)), (2, .int (nI (((sLs x w).2.2) + 1))), (3, .int (nI (w + 1 - ((sLs x w).2.2 + 1)))), (4, .int (nI (((sLs x w).2.2) + 1))), (5, .int (nI (w + 1)))] rfl dX6_longestStart_53 (by decide) rfl rfl ?_
          refine g_goto (pc := 56) 10 dX6_longestStart_56 (by decide) ?_
          refine g_lv (pc := 10) (lv' := [(0, .long (lN x)), (2, .int (nI ((sLs x (w + 1)).1))), (3, .int (nI ((sLs x (w + 1)).2.1))), (4, .int (nI ((sLs x (w + 1)).2.2))), (5, .int (nI (w + 1)))]) (by rw [show sLs x (w + 1) = _ from sLs_tp h23 (by omega)]) ?_
          exact ihw (by omega)
  refine g_lv (pc := 10) (lv' := [(0, .long (lN x)), (2, .int (nI ((sLs x 0).1))), (3, .int (nI ((sLs x 0).2.1))), (4, .int (nI ((sLs x 0).2.2))), (5, .int (nI 0))]) rfl ?_
  exact lp10 0 (by omega)
end
section
/-! the class's own cells: 1 ShowRights, 2 text, 3 reader, 4 numbers, 5 history, 6 its changes, 10.. the changes, 20 and 40 the books (b + 1 offers, b + 2 holds, b + 3.. the offers, b + 13.. the holds) -/
def cSs (E : gEnv) : Prop := gSh E 1 = 7 ∧ gSh E 2 = 10 ∧ gLn E 2 = 200 ∧ gSh E 3 = 6 ∧ gSh E 4 = 9 ∧ gLn E 4 = 7 ∧ gSh E 5 = 3 ∧ gSh E 6 = 13 ∧ gLn E 6 = 6 ∧ ∀ c, c < 6 → gSh E (10 + c) = 2
def cS (E : gEnv) (M : gMem) (b b' : Nat) : Prop := cSs E ∧ (M.2 1 0 = 2 ∧ M.2 1 2 = 3 ∧ M.2 1 6 = 5 ∧ M.2 3 0 = 4 ∧ M.2 5 0 = 6 ∧ M.2 1 3 = b ∧ M.2 1 4 = b') ∧ cBr E M b ∧ cBr E M b' ∧ ((b = 20 ∧ b' = 40) ∨ (b = 40 ∧ b' = 20)) ∧ (∀ c, c < 6 → 10 ≤ M.2 6 c ∧ M.2 6 c < 16) ∧ ∀ c d, c < 6 → d < 6 → M.2 6 c = M.2 6 d → c = d
theorem cS.s1 {E : gEnv} {M : gMem} {b b' : Nat} (h : cS E M b b') : gSh E 1 = 7 := h.1.1
theorem cS.s2 {E : gEnv} {M : gMem} {b b' : Nat} (h : cS E M b b') : gSh E 2 = 10 := h.1.2.1
theorem cS.l2 {E : gEnv} {M : gMem} {b b' : Nat} (h : cS E M b b') : gLn E 2 = 200 := h.1.2.2.1
theorem cS.s3 {E : gEnv} {M : gMem} {b b' : Nat} (h : cS E M b b') : gSh E 3 = 6 := h.1.2.2.2.1
theorem cS.s4 {E : gEnv} {M : gMem} {b b' : Nat} (h : cS E M b b') : gSh E 4 = 9 := h.1.2.2.2.2.1
theorem cS.l4 {E : gEnv} {M : gMem} {b b' : Nat} (h : cS E M b b') : gLn E 4 = 7 := h.1.2.2.2.2.2.1
theorem cS.s5 {E : gEnv} {M : gMem} {b b' : Nat} (h : cS E M b b') : gSh E 5 = 3 := h.1.2.2.2.2.2.2.1
theorem cS.s6 {E : gEnv} {M : gMem} {b b' : Nat} (h : cS E M b b') : gSh E 6 = 13 := h.1.2.2.2.2.2.2.2.1
theorem cS.l6 {E : gEnv} {M : gMem} {b b' : Nat} (h : cS E M b b') : gLn E 6 = 6 := h.1.2.2.2.2.2.2.2.2.1
theorem cS.rt {E : gEnv} {M : gMem} {b b' : Nat} (h : cS E M b b') : M.2 1 0 = 2 := h.2.1.1
theorem cS.rr {E : gEnv} {M : gMem} {b b' : Nat} (h : cS E M b b') : M.2 1 2 = 3 := h.2.1.2.1
theorem cS.rh {E : gEnv} {M : gMem} {b b' : Nat} (h : cS E M b b') : M.2 1 6 = 5 := h.2.1.2.2.1
theorem cS.rn {E : gEnv} {M : gMem} {b b' : Nat} (h : cS E M b b') : M.2 3 0 = 4 := h.2.1.2.2.2.1
theorem cS.rc {E : gEnv} {M : gMem} {b b' : Nat} (h : cS E M b b') : M.2 5 0 = 6 := h.2.1.2.2.2.2.1
theorem cS.rb {E : gEnv} {M : gMem} {b b' : Nat} (h : cS E M b b') : M.2 1 3 = b := h.2.1.2.2.2.2.2.1
theorem cS.rd {E : gEnv} {M : gMem} {b b' : Nat} (h : cS E M b b') : M.2 1 4 = b' := h.2.1.2.2.2.2.2.2
theorem cS.b0 {E : gEnv} {M : gMem} {b b' : Nat} (h : cS E M b b') : b ≠ 0 := by have := h.2.2.2.2.1; omega
theorem cS.d0 {E : gEnv} {M : gMem} {b b' : Nat} (h : cS E M b b') : b' ≠ 0 := by have := h.2.2.2.2.1; omega
theorem cS.B {E : gEnv} {M : gMem} {b b' : Nat} (h : cS E M b b') : cBr E M b := h.2.2.1
theorem cS.D {E : gEnv} {M : gMem} {b b' : Nat} (h : cS E M b b') : cBr E M b' := h.2.2.2.1
/-- a choice by a number: in range, or bad -/
def fSel (n : Nat) (x : Int32) (g : Nat → Int32) (bad : Int32) : Int32 := if inR x n then g x.toInt.toNat else bad
theorem fSel_in {n j : Nat} {g : Nat → Int32} {bad : Int32} (hj : j < n) (hn : n < 2147483648) : fSel n (nI j) g bad = g j := by
  unfold fSel
  rw [inR_nI (by omega), if_pos (decide_eq_true hj), nI_toInt (by omega)]
  rfl
theorem fSel_out {n : Nat} {x : Int32} {g : Nat → Int32} {bad : Int32} (h : inR x n = false) : fSel n x g bad = bad := by
  unfold fSel
  rw [h]
  rfl
/-- is a number from lo to hi -/
def inG (x : Int32) (lo hi : Nat) : Bool := decide ((lo : Int) ≤ x.toInt ∧ x.toInt ≤ hi)
theorem inG_of {x : Int32} {lo hi : Nat} (h : inG x lo hi = true) : ∃ j, lo ≤ j ∧ j ≤ hi ∧ x = nI j := by
  have h := of_decide_eq_true h
  refine ⟨x.toInt.toNat, by omega, by omega, ?_⟩
  apply Int32.toInt_inj.mp
  have := x.toInt_lt
  rw [nI_toInt (by omega)]
  omega
def fRng (lo hi : Nat) (x : Int32) (g : Nat → Int32) (bad : Int32) : Int32 := if inG x lo hi then g x.toInt.toNat else bad
theorem fRng_in {lo hi j : Nat} {g : Nat → Int32} {bad : Int32} (h1 : lo ≤ j) (h2 : j ≤ hi) (hn : hi < 2147483648) : fRng lo hi (nI j) g bad = g j := by
  unfold fRng inG
  rw [nI_toInt (by omega), if_pos (decide_eq_true (by omega))]
  rfl
theorem fRng_out {lo hi : Nat} {x : Int32} {g : Nat → Int32} {bad : Int32} (h : inG x lo hi = false) : fRng lo hi x g bad = bad := by
  unfold fRng
  rw [h]
  rfl
theorem sMask_bit {f l : Nat} (h : f ≤ l) (k : Nat) : (sMask f l).testBit k = (decide (f ≤ k) && decide (k ≤ l)) := by
  unfold sMask
  have e : 2 ^ (l + 1) - 2 ^ f = 2 ^ f * (2 ^ (l + 1 - f) - 1) := by
    rw [Nat.mul_sub, ← Nat.pow_add, Nat.mul_one]
    congr 2
    omega
  rw [e, Nat.testBit_two_pow_mul, Nat.testBit_two_pow_sub_one]
  by_cases h1 : f ≤ k
  · simp only [h1, decide_true, Bool.true_and]
    rw [Bool.eq_iff_iff, decide_eq_true_iff, decide_eq_true_iff]
    omega
  · simp [h1]
theorem sMask_lt {f l : Nat} (h : l ≤ 51) : sMask f l < 4503599627370496 := by
  unfold sMask
  have h1 : 2 ^ (l + 1) ≤ 2 ^ 52 := Nat.pow_le_pow_right (by decide) (by omega)
  have h2 : 0 < 2 ^ f := Nat.two_pow_pos f
  omega
theorem sSum_congr {f g : Nat → Nat} : ∀ n, (∀ i, i < n → f i = g i) → sSum f n = sSum g n := by
  intro n
  induction n with
  | zero => intro _; rfl
  | succ n ih =>
    intro h
    show sSum f n + f n = sSum g n + g n
    rw [ih (fun i hi => h i (by omega)), h n (by omega)]
theorem sSum_iv (a c : Nat) : ∀ n, sSum (fun k => if a ≤ k ∧ k ≤ c then 1 else 0) n = (if c + 1 < n then c + 1 else n) - a := by
  intro n
  induction n with
  | zero => simp [sSum]
  | succ n ih =>
    show sSum _ n + (if a ≤ n ∧ n ≤ c then 1 else 0) = _
    rw [ih]
    split <;> split <;> split <;> omega
theorem sPop_mask {u v : Nat → Nat} (hu : uOk u) (hv : uOk v) : sPop (sMask (u 3) (u 4) &&& sMask (v 3) (v 4)) = sWk u v := by
  obtain ⟨-, -, -, a3, a4, -⟩ := hu
  obtain ⟨-, -, -, b3, b4, -⟩ := hv
  unfold sPop
  rw [sSum_congr (g := fun k => if (if u 3 > v 3 then u 3 else v 3) ≤ k ∧ k ≤ (if u 4 < v 4 then u 4 else v 4) then 1 else 0) 52 ?_, sSum_iv]
  · unfold sWk
    split <;> split <;> split <;> omega
  · intro k _
    rw [Nat.testBit_and, sMask_bit a3, sMask_bit b3]
    simp only [Bool.and_eq_true, decide_eq_true_eq]
    split <;> split <;> split <;> split <;> omega
/-- the best set so far -/
def sBet (V : Nat → Nat → Nat) (n s b : Nat) : Bool := decide (sPrice V n b < sPrice V n s) || (sPrice V n s == sPrice V n b && decide (sOnes s < sOnes b))
def sBest (V : Nat → Nat → Nat) (n : Nat) (good : Nat → Bool) : Nat → Nat
  | 0 => 0
  | s + 1 => if sBet V n s (sBest V n good s) && good s then s else sBest V n good s
def goodC (V : Nat → Nat → Nat) (n : Nat) (Hd : Nat → Nat → Nat) (k fr to set : Nat) : Bool := (set &&& sOut V fr to n == 0) && sNc V n set && sKepts V n Hd k set
theorem sBest_le {V : Nat → Nat → Nat} {n : Nat} {good : Nat → Bool} : ∀ s, sBest V n good s ≤ s := by
  intro s
  induction s with
  | zero => exact Nat.le_refl _
  | succ s ih => unfold sBest; split <;> omega
theorem sBest_p {V : Nat → Nat → Nat} {n s : Nat} {good : Nat → Bool} (h1 : sBet V n s (sBest V n good s) = true) (h2 : good s = true) : sBest V n good (s + 1) = s := by
  simp only [sBest, h1, h2]; rfl
theorem sBest_n1 {V : Nat → Nat → Nat} {n s : Nat} {good : Nat → Bool} (h1 : sBet V n s (sBest V n good s) = false) : sBest V n good (s + 1) = sBest V n good s := by
  simp only [sBest, h1]; rfl
theorem sBest_n2 {V : Nat → Nat → Nat} {n s : Nat} {good : Nat → Bool} (h2 : good s = false) : sBest V n good (s + 1) = sBest V n good s := by
  simp only [sBest, h2, Bool.and_false]; rfl
theorem sPrice_0 (V : Nat → Nat → Nat) : ∀ n, sPrice V n 0 = 0 := by
  intro n
  induction n with
  | zero => rfl
  | succ n ih =>
    show sPrice V n 0 + (if Nat.testBit 0 n then V n 6 else 0) = 0
    rw [ih, Nat.zero_testBit]
    rfl
theorem sPrice_le {V : Nat → Nat → Nat} {set : Nat} : ∀ n, (∀ i, i < n → V i 6 ≤ 99) → sPrice V n set ≤ 99 * n := fun n h => sSum_le n (fun i hi => by show (if _ then _ else 0) ≤ 99; split; exact h i hi; omega)
end
section
set_option maxRecDepth 100000 in
set_option maxHeartbeats 4000000 in
theorem kX4_weeksNow (l : Launch) (E : gEnv) (M : gMem) (a : Nat) (ha : gSh E a = 5) (hu : uOk (oV M a)) : gMetL l E mX4_weeksNow 1 [.ref (gAd E a)] M (lN (sMask (oV M a 3) (oV M a 4))) := by
  obtain ⟨a0, a1, a2, a3, a4, a5, a6, a7⟩ := hu
  simp only [oV] at a3 a4
  refine gMet_of (mm := mX4_weeksNow) (h := 1) (M := M) [(0, .ref (gAd E a))] (by decide) (Nat.le_of_ble_eq_true rfl) rfl ?_
  refine g_aload_n (pc := 0) 0 rfl rfl dX4_weeksNow_0 ?_
  refine g_callV (pc := 1) (mc := mX4_firstNow) (rest := []) lX4_21 iX4_firstNow (kX4_firstNow l E M a ha) ⟨Nat.le_of_ble_eq_true rfl, Nat.le_of_ble_eq_true rfl⟩ ha (by decide) (by decide) rfl rfl rfl rfl (Nat.le_of_ble_eq_true rfl) ⟨Nat.zero_le _, Nat.zero_le _⟩ dX4_weeksNow_1 (g_rI ?_)
  refine g_aload_n (pc := 4) 0 rfl rfl dX4_weeksNow_4 ?_
  refine g_callV (pc := 5) (mc := mX4_lastNow) (rest := [.int (nI (M.1 a 3 + M.1 a 7))]) lX4_25 iX4_lastNow (kX4_lastNow l E M a ha) ⟨Nat.le_of_ble_eq_true rfl, Nat.le_of_ble_eq_true rfl⟩ ha (by decide) (by decide) rfl rfl rfl rfl (Nat.le_of_ble_eq_true rfl) ⟨Nat.zero_le _, Nat.zero_le _⟩ dX4_weeksNow_5 (g_rI ?_)
  refine g_callSN (pc := 8) (mc := mX6_weeksFromTo) (rest := []) lX4_28 iX6_weeksFromTo (kX6_weeksFromTo l E M (M.1 a 3 + M.1 a 7) (M.1 a 4 + M.1 a 7) (by omega) (by omega)) ⟨Nat.le_of_ble_eq_true rfl, Nat.le_of_ble_eq_true rfl⟩ rfl rfl (Nat.le_of_ble_eq_true rfl) ⟨Nat.zero_le _, Nat.zero_le _⟩ dX4_weeksNow_8 (g_rL ?_)
  exact g_lret (pc := 11) rfl dX4_weeksNow_11 ⟨rfl, rfl⟩
set_option maxRecDepth 100000 in
set_option maxHeartbeats 4000000 in
theorem kX4_hasCell (l : Launch) (E : gEnv) (M : gMem) (a x : Nat) (ha : gSh E a = 5) (hu : uOk (oV M a)) (hx : x < 96) : gMetI l E mX4_hasCell 1 [.ref (gAd E a), .int (nI x)] M (gb ((oV M a 0).testBit (x / 16) && (oV M a 1).testBit (x / 4 % 4) && (oV M a 2).testBit (x % 4))) := by
  obtain ⟨a0, a1, a2, a3, a4, a5, a6, a7⟩ := hu
  simp only [oV] at a0 a1 a2
  refine gMet_of (mm := mX4_hasCell) (h := 1) (M := M) [(0, .ref (gAd E a)), (1, .int (nI x))] (by decide) (Nat.le_of_ble_eq_true rfl) rfl ?_
  refine g_aload_n (pc := 0) 0 rfl rfl dX4_hasCell_0 ?_
  refine fX4_32 (pc := 1) rfl ha dX4_hasCell_1 ?_
  refine g_iload_n (pc := 4) 1 rfl rfl dX4_hasCell_4 ?_
  refine g_callSN (pc := 5) (mc := mX6_landOf) (rest := [.int (nI (M.1 a 0))]) lX4_35 iX6_landOf (kX6_landOf l E M x (by omega)) ⟨Nat.le_of_ble_eq_true rfl, Nat.le_of_ble_eq_true rfl⟩ rfl rfl (Nat.le_of_ble_eq_true rfl) ⟨Nat.zero_le _, Nat.zero_le _⟩ dX4_hasCell_5 (g_rI ?_)
  refine g_callSN (pc := 8) (mc := mX6_has) (rest := []) lX4_39 iX6_has (kX6_has l E M (M.1 a 0) (x / 16) (by omega) (by omega)) ⟨Nat.le_of_ble_eq_true rfl, Nat.le_of_ble_eq_true rfl⟩ rfl rfl (Nat.le_of_ble_eq_true rfl) ⟨Nat.zero_le _, Nat.zero_le _⟩ dX4_hasCell_8 (g_rI ?_)
  refine g_ifB_eq (pc := 11) 46 dX4_hasCell_11 (by decide) (fun h11 => ?_) (fun h11 => ?_)
  · refine g_iconst (pc := 46) (nI 0) (by decide) dX4_hasCell_46 ?_
    refine g_topi (pc := 47) (x' := gb false) (by decide) ?_
    exact g_zret (pc := 47) rfl dX4_hasCell_47 ⟨congrArg (fun z => some (Value.int (gb z))) (by simp only [oV]; rw [h11]; simp), rfl⟩
  · refine g_aload_n (pc := 14) 0 rfl rfl dX4_hasCell_14 ?_
    refine fX4_43 (pc := 15) rfl ha dX4_hasCell_15 ?_
    refine g_iload_n (pc := 18) 1 rfl rfl dX4_hasCell_18 ?_
    refine g_callSN (pc := 19) (mc := mX6_tongueOf) (rest := [.int (nI (M.1 a 1))]) lX4_46 iX6_tongueOf (kX6_tongueOf l E M x (by omega)) ⟨Nat.le_of_ble_eq_true rfl, Nat.le_of_ble_eq_true rfl⟩ rfl rfl (Nat.le_of_ble_eq_true rfl) ⟨Nat.zero_le _, Nat.zero_le _⟩ dX4_hasCell_19 (g_rI ?_)
    refine g_callSN (pc := 22) (mc := mX6_has) (rest := []) lX4_39 iX6_has (kX6_has l E M (M.1 a 1) (x / 4 % 4) (by omega) (by omega)) ⟨Nat.le_of_ble_eq_true rfl, Nat.le_of_ble_eq_true rfl⟩ rfl rfl (Nat.le_of_ble_eq_true rfl) ⟨Nat.zero_le _, Nat.zero_le _⟩ dX4_hasCell_22 (g_rI ?_)
    refine g_ifB_eq (pc := 25) 46 dX4_hasCell_25 (by decide) (fun h25 => ?_) (fun h25 => ?_)
    · refine g_iconst (pc := 46) (nI 0) (by decide) dX4_hasCell_46 ?_
      refine g_topi (pc := 47) (x' := gb false) (by decide) ?_
      exact g_zret (pc := 47) rfl dX4_hasCell_47 ⟨congrArg (fun z => some (Value.int (gb z))) (by simp only [oV]; rw [h11, h25]; simp), rfl⟩
    · refine g_aload_n (pc := 28) 0 rfl rfl dX4_hasCell_28 ?_
      refine fX4_49 (pc := 29) rfl ha dX4_hasCell_29 ?_
      refine g_iload_n (pc := 32) 1 rfl rfl dX4_hasCell_32 ?_
      refine g_callSN (pc := 33) (mc := mX6_meansOf) (rest := [.int (nI (M.1 a 2))]) lX4_52 iX6_meansOf (kX6_meansOf l E M x (by omega)) ⟨Nat.le_of_ble_eq_true rfl, Nat.le_of_ble_eq_true rfl⟩ rfl rfl (Nat.le_of_ble_eq_true rfl) ⟨Nat.zero_le _, Nat.zero_le _⟩ dX4_hasCell_33 (g_rI ?_)
      refine g_callSN (pc := 36) (mc := mX6_has) (rest := []) lX4_39 iX6_has (kX6_has l E M (M.1 a 2) (x % 4) (by omega) (by omega)) ⟨Nat.le_of_ble_eq_true rfl, Nat.le_of_ble_eq_true rfl⟩ rfl rfl (Nat.le_of_ble_eq_true rfl) ⟨Nat.zero_le _, Nat.zero_le _⟩ dX4_hasCell_36 (g_rI ?_)
      refine g_ifB_eq (pc := 39) 46 dX4_hasCell_39 (by decide) (fun h39 => ?_) (fun h39 => ?_)
      · refine g_iconst (pc := 46) (nI 0) (by decide) dX4_hasCell_46 ?_
        refine g_topi (pc := 47) (x' := gb false) (by decide) ?_
        exact g_zret (pc := 47) rfl dX4_hasCell_47 ⟨congrArg (fun z => some (Value.int (gb z))) (by simp only [oV]; rw [h11, h25, h39]; simp), rfl⟩
      · refine g_iconst (pc := 42) (nI 1) (by decide) dX4_hasCell_42 ?_
        refine g_goto (pc := 43) 47 dX4_hasCell_43 (by decide) ?_
        refine g_topi (pc := 47) (x' := gb true) (by decide) ?_
        exact g_zret (pc := 47) rfl dX4_hasCell_47 ⟨congrArg (fun z => some (Value.int (gb z))) (by simp only [oV]; rw [h11, h25, h39]; simp), rfl⟩
set_option maxRecDepth 100000 in
set_option maxHeartbeats 4000000 in
theorem kX4_commonPoints (l : Launch) (E : gEnv) (M : gMem) (a c : Nat) (ha : gSh E a = 5) (hc : gSh E c = 5) (hu : uOk (oV M a)) (hv : uOk (oV M c)) : gMetI l E mX4_commonPoints 2 [.ref (gAd E a), .ref (gAd E c)] M (nI (sCom (oV M a) (oV M c))) := by
  have a0 : M.1 a 0 < 64 := hu.1
  have a1 : M.1 a 1 < 16 := hu.2.1
  have a2 : M.1 a 2 < 16 := hu.2.2.1
  refine gMet_of (mm := mX4_commonPoints) (h := 2) (M := M) [(0, .ref (gAd E a)), (1, .ref (gAd E c))] (by decide) (Nat.le_of_ble_eq_true rfl) rfl ?_
  refine g_aload_n (pc := 0) 0 rfl rfl dX4_commonPoints_0 ?_
  refine fX4_32 (pc := 1) rfl ha dX4_commonPoints_1 ?_
  refine g_aload_n (pc := 4) 1 rfl rfl dX4_commonPoints_4 ?_
  refine fX4_32 (pc := 5) rfl hc dX4_commonPoints_5 ?_
  refine g_iandN (pc := 8) dX4_commonPoints_8 ?_
  refine g_callS (pc := 9) (mc := mJ6_bitCount_0f7a4) (rest := []) lX4_55 iJ6_bitCount_0f7a4 (kJ6_bitCount l E M ((M.1 a 0) &&& (M.1 c 0)) (Nat.lt_of_le_of_lt Nat.and_le_left (by omega))) ⟨Nat.le_of_ble_eq_true rfl, Nat.le_of_ble_eq_true rfl⟩ rfl rfl (Nat.le_of_ble_eq_true rfl) ⟨Nat.zero_le _, Nat.zero_le _⟩ dX4_commonPoints_9 (g_rI ?_)
  refine g_aload_n (pc := 12) 0 rfl rfl dX4_commonPoints_12 ?_
  refine fX4_43 (pc := 13) rfl ha dX4_commonPoints_13 ?_
  refine g_aload_n (pc := 16) 1 rfl rfl dX4_commonPoints_16 ?_
  refine fX4_43 (pc := 17) rfl hc dX4_commonPoints_17 ?_
  refine g_iandN (pc := 20) dX4_commonPoints_20 ?_
  refine g_callS (pc := 21) (mc := mJ6_bitCount_0f7a4) (rest := [.int (nI (sOnes ((M.1 a 0) &&& (M.1 c 0))))]) lX4_55 iJ6_bitCount_0f7a4 (kJ6_bitCount l E M ((M.1 a 1) &&& (M.1 c 1)) (Nat.lt_of_le_of_lt Nat.and_le_left (by omega))) ⟨Nat.le_of_ble_eq_true rfl, Nat.le_of_ble_eq_true rfl⟩ rfl rfl (Nat.le_of_ble_eq_true rfl) ⟨Nat.zero_le _, Nat.zero_le _⟩ dX4_commonPoints_21 (g_rI ?_)
  refine g_imulN (pc := 24) dX4_commonPoints_24 ?_
  refine g_aload_n (pc := 25) 0 rfl rfl dX4_commonPoints_25 ?_
  refine fX4_49 (pc := 26) rfl ha dX4_commonPoints_26 ?_
  refine g_aload_n (pc := 29) 1 rfl rfl dX4_commonPoints_29 ?_
  refine fX4_49 (pc := 30) rfl hc dX4_commonPoints_30 ?_
  refine g_iandN (pc := 33) dX4_commonPoints_33 ?_
  refine g_callS (pc := 34) (mc := mJ6_bitCount_0f7a4) (rest := [.int (nI ((sOnes ((M.1 a 0) &&& (M.1 c 0))) * (sOnes ((M.1 a 1) &&& (M.1 c 1)))))]) lX4_55 iJ6_bitCount_0f7a4 (kJ6_bitCount l E M ((M.1 a 2) &&& (M.1 c 2)) (Nat.lt_of_le_of_lt Nat.and_le_left (by omega))) ⟨Nat.le_of_ble_eq_true rfl, Nat.le_of_ble_eq_true rfl⟩ rfl rfl (Nat.le_of_ble_eq_true rfl) ⟨Nat.zero_le _, Nat.zero_le _⟩ dX4_commonPoints_34 (g_rI ?_)
  refine g_imulN (pc := 37) dX4_commonPoints_37 ?_
  refine g_aload_n (pc := 38) 0 rfl rfl dX4_commonPoints_38 ?_
  refine g_callV (pc := 39) (mc := mX4_weeksNow) (rest := [.int (nI (((sOnes ((M.1 a 0) &&& (M.1 c 0))) * (sOnes ((M.1 a 1) &&& (M.1 c 1)))) * (sOnes ((M.1 a 2) &&& (M.1 c 2)))))]) lX4_60 iX4_weeksNow (kX4_weeksNow l E M a ha hu) ⟨Nat.le_of_ble_eq_true rfl, Nat.le_of_ble_eq_true rfl⟩ ha (by decide) (by decide) rfl rfl rfl rfl (Nat.le_of_ble_eq_true rfl) ⟨Nat.zero_le _, Nat.zero_le _⟩ dX4_commonPoints_39 (g_rL ?_)
  refine g_aload_n (pc := 42) 1 rfl rfl dX4_commonPoints_42 ?_
  refine g_callV (pc := 43) (mc := mX4_weeksNow) (rest := [.long (lN (sMask (oV M a 3) (oV M a 4))), .int (nI (((sOnes ((M.1 a 0) &&& (M.1 c 0))) * (sOnes ((M.1 a 1) &&& (M.1 c 1)))) * (sOnes ((M.1 a 2) &&& (M.1 c 2)))))]) lX4_60 iX4_weeksNow (kX4_weeksNow l E M c hc hv) ⟨Nat.le_of_ble_eq_true rfl, Nat.le_of_ble_eq_true rfl⟩ hc (by decide) (by decide) rfl rfl rfl rfl (Nat.le_of_ble_eq_true rfl) ⟨Nat.zero_le _, Nat.zero_le _⟩ dX4_commonPoints_43 (g_rL ?_)
  refine g_land (pc := 46) dX4_commonPoints_46 ?_
  refine g_topl (pc := 47) (x' := lN (sMask (oV M a 3) (oV M a 4) &&& sMask (oV M c 3) (oV M c 4))) (wb_and (Nat.lt_trans (sMask_lt hu.2.2.2.2.1) (by decide)) (Nat.lt_trans (sMask_lt hv.2.2.2.2.1) (by decide))) ?_
  refine g_callS (pc := 47) (mc := mJ13_bitCount_95d88) (rest := [.int (nI (((sOnes ((M.1 a 0) &&& (M.1 c 0))) * (sOnes ((M.1 a 1) &&& (M.1 c 1)))) * (sOnes ((M.1 a 2) &&& (M.1 c 2)))))]) lX4_64 iJ13_bitCount_95d88 (kJ13_bitCount l E M (sMask (oV M a 3) (oV M a 4) &&& sMask (oV M c 3) (oV M c 4)) (Nat.lt_of_le_of_lt Nat.and_le_left (sMask_lt hu.2.2.2.2.1))) ⟨Nat.le_of_ble_eq_true rfl, Nat.le_of_ble_eq_true rfl⟩ rfl rfl (Nat.le_of_ble_eq_true rfl) ⟨Nat.zero_le _, Nat.zero_le _⟩ dX4_commonPoints_47 (g_rI ?_)
  refine g_imulN (pc := 50) dX4_commonPoints_50 ?_
  exact g_iret (pc := 51) rfl dX4_commonPoints_51 ⟨congrArg (fun z => some (Value.int z)) (by rw [sPop_mask hu hv]; rfl), rfl⟩
set_option maxRecDepth 100000 in
set_option maxHeartbeats 4000000 in
theorem kX0_bestSet (l : Launch) (E : gEnv) (M : gMem) (b : Nat) (hB : cBr E M b) (hO : cO M b) : gMetI l E mX0_bestSet 5 [.ref (gAd E b)] M (nI (sBest (cV M b) (M.1 b 1) (goodC (cV M b) (M.1 b 1) (cH M b) (M.1 b 3) (M.1 b 4) (M.1 b 5)) (2 ^ M.1 b 1))) := by
  have hO' := hO
  obtain ⟨hn, hk, hft, hto, hU, hH⟩ := hO
  have hO := hO'
  have hp : 2 ^ M.1 b 1 ≤ 1024 := Nat.pow_le_pow_right (n := 2) (by decide) hn
  refine gMet_of (mm := mX0_bestSet) (h := 5) (M := M) [(0, .ref (gAd E b))] (by decide) (Nat.le_of_ble_eq_true rfl) rfl ?_
  refine g_aload_n (pc := 0) 0 rfl rfl dX0_bestSet_0 ?_
  refine g_callV (pc := 1) (mc := mX0_outsideTerm) (rest := []) lX0_108 iX0_outsideTerm (kX0_outsideTerm l E M b hB hO) ⟨Nat.le_of_ble_eq_true rfl, Nat.le_of_ble_eq_true rfl⟩ hB.1.1 (by decide) (by decide) rfl rfl rfl rfl (Nat.le_of_ble_eq_true rfl) ⟨Nat.zero_le _, Nat.zero_le _⟩ dX0_bestSet_1 (g_rI ?_)
  refine g_istore_n (pc := 4) rfl [(0, .ref (gAd E b)), (1, .int (nI (sOut (cV M b) (M.1 b 4) (M.1 b 5) (M.1 b 1))))] dX0_bestSet_4 (by decide) rfl rfl ?_
  refine g_iconst (pc := 5) (nI 0) (by decide) dX0_bestSet_5 ?_
  refine g_istore_n (pc := 6) rfl [(0, .ref (gAd E b)), (1, .int (nI (sOut (cV M b) (M.1 b 4) (M.1 b 5) (M.1 b 1)))), (2, .int (nI 0))] dX0_bestSet_6 (by decide) rfl rfl ?_
  refine g_iconst (pc := 7) (nI 0) (by decide) dX0_bestSet_7 ?_
  refine g_istore_n (pc := 8) rfl [(0, .ref (gAd E b)), (1, .int (nI (sOut (cV M b) (M.1 b 4) (M.1 b 5) (M.1 b 1)))), (2, .int (nI 0)), (3, .int (nI 0))] dX0_bestSet_8 (by decide) rfl rfl ?_
  refine g_iconst (pc := 9) (nI 1) (by decide) dX0_bestSet_9 ?_
  refine g_istore (pc := 10) [(0, .ref (gAd E b)), (1, .int (nI (sOut (cV M b) (M.1 b 4) (M.1 b 5) (M.1 b 1)))), (2, .int (nI 0)), (3, .int (nI 0)), (4, .int (nI 1))] dX0_bestSet_10 (by decide) rfl rfl ?_
  have lp12 : ∀ z, z ≤ 2 ^ M.1 b 1 → gG l (gV0 5 E (fun v u => v = some (.int (nI (sBest (cV M b) (M.1 b 1) (goodC (cV M b) (M.1 b 1) (cH M b) (M.1 b 3) (M.1 b 4) (M.1 b 5)) (2 ^ M.1 b 1)))) ∧ u = M)) mX0_bestSet E (0, 0) M 12 [(0, .ref (gAd E b)), (1, .int (nI (sOut (cV M b) (M.1 b 4) (M.1 b 5) (M.1 b 1)))), (2, .int (nI (sBest (cV M b) (M.1 b 1) (goodC (cV M b) (M.1 b 1) (cH M b) (M.1 b 3) (M.1 b 4) (M.1 b 5)) z))), (3, .int (nI (sPrice (cV M b) (M.1 b 1) (sBest (cV M b) (M.1 b 1) (goodC (cV M b) (M.1 b 1) (cH M b) (M.1 b 3) (M.1 b 4) (M.1 b 5)) z)))), (4, .int (nI z))] [] := by
    refine gloop (fun z hiz ihz => ?_)
    refine g_iload (pc := 12) 4 rfl dX0_bestSet_12 ?_
    refine g_iconst (pc := 14) (nI 1) (by decide) dX0_bestSet_14 ?_
    refine g_aload_n (pc := 15) 0 rfl rfl dX0_bestSet_15 ?_
    refine fX0_25 (pc := 16) rfl hB.1.1 dX0_bestSet_16 ?_
    refine g_ishl1 (pc := 19) (by omega) dX0_bestSet_19 ?_
    refine g_icmpN_ge (pc := 20) 107 dX0_bestSet_20 (by decide) (by omega) (by omega) (fun h20 => ?_) (fun h20 => ?_)
    · refine g_iload_n (pc := 107) 2 rfl rfl dX0_bestSet_107 ?_
      exact g_iret (pc := 108) rfl dX0_bestSet_108 ⟨congrArg (fun z => some (Value.int z)) (by rw [show z = 2 ^ M.1 b 1 by omega]), rfl⟩
    · have ho1 := sOnes_le z
      have ho2 := sOnes_le (sBest (cV M b) (M.1 b 1) (goodC (cV M b) (M.1 b 1) (cH M b) (M.1 b 3) (M.1 b 4) (M.1 b 5)) z)
      have hzl := sBest_le (V := cV M b) (n := M.1 b 1) (good := (goodC (cV M b) (M.1 b 1) (cH M b) (M.1 b 3) (M.1 b 4) (M.1 b 5))) z
      have hpz := sPrice_le (V := cV M b) (set := z) (M.1 b 1) (fun i hi => (hU i hi).2.2.2.2.2.2.2)
      have hpb := sPrice_le (V := cV M b) (set := sBest (cV M b) (M.1 b 1) (goodC (cV M b) (M.1 b 1) (cH M b) (M.1 b 3) (M.1 b 4) (M.1 b 5)) z) (M.1 b 1) (fun i hi => (hU i hi).2.2.2.2.2.2.2)
      refine g_iload (pc := 23) 4 rfl dX0_bestSet_23 ?_
      refine g_iload_n (pc := 25) 1 rfl rfl dX0_bestSet_25 ?_
      refine g_iandN (pc := 26) dX0_bestSet_26 ?_
      refine g_ifN_eq (pc := 27) 33 dX0_bestSet_27 (by decide) (Nat.lt_of_le_of_lt Nat.and_le_left (by omega)) (fun h27 => ?_) (fun h27 => ?_)
      · refine g_aload_n (pc := 33) 0 rfl rfl dX0_bestSet_33 ?_
        refine g_iload (pc := 34) 4 rfl dX0_bestSet_34 ?_
        refine g_callV (pc := 36) (mc := mX0_priceOf) (rest := []) lX0_111 iX0_priceOf (kX0_priceOf l E M b z hB (by omega) (by omega)) ⟨Nat.le_of_ble_eq_true rfl, Nat.le_of_ble_eq_true rfl⟩ hB.1.1 (by decide) (by decide) rfl rfl rfl rfl (Nat.le_of_ble_eq_true rfl) ⟨Nat.zero_le _, Nat.zero_le _⟩ dX0_bestSet_36 (g_rI ?_)
        refine g_istore (pc := 39) [(0, .ref (gAd E b)), (1, .int (nI (sOut (cV M b) (M.1 b 4) (M.1 b 5) (M.1 b 1)))), (2, .int (nI (sBest (cV M b) (M.1 b 1) (goodC (cV M b) (M.1 b 1) (cH M b) (M.1 b 3) (M.1 b 4) (M.1 b 5)) z))), (3, .int (nI (sPrice (cV M b) (M.1 b 1) (sBest (cV M b) (M.1 b 1) (goodC (cV M b) (M.1 b 1) (cH M b) (M.1 b 3) (M.1 b 4) (M.1 b 5)) z)))), (4, .int (nI z)), (5, .int (nI (sPrice (cV M b) (M.1 b 1) z)))] dX0_bestSet_39 (by decide) rfl rfl ?_
        refine g_iload (pc := 41) 5 rfl dX0_bestSet_41 ?_
        refine g_iload_n (pc := 43) 3 rfl rfl dX0_bestSet_43 ?_
        refine g_icmpN_gt (pc := 44) 65 dX0_bestSet_44 (by decide) (by omega) (by omega) (fun h44 => ?_) (fun h44 => ?_)
        · have hbet : sBet (cV M b) (M.1 b 1) z (sBest (cV M b) (M.1 b 1) (goodC (cV M b) (M.1 b 1) (cH M b) (M.1 b 3) (M.1 b 4) (M.1 b 5)) z) = true := by simp only [sBet, Bool.or_eq_true, decide_eq_true_eq]; exact Or.inl h44
          refine g_iconst (pc := 65) (nI 1) (by decide) dX0_bestSet_65 ?_
          refine g_goto (pc := 66) 70 dX0_bestSet_66 (by decide) ?_
          refine g_istore (pc := 70) [(0, .ref (gAd E b)), (1, .int (nI (sOut (cV M b) (M.1 b 4) (M.1 b 5) (M.1 b 1)))), (2, .int (nI (sBest (cV M b) (M.1 b 1) (goodC (cV M b) (M.1 b 1) (cH M b) (M.1 b 3) (M.1 b 4) (M.1 b 5)) z))), (3, .int (nI (sPrice (cV M b) (M.1 b 1) (sBest (cV M b) (M.1 b 1) (goodC (cV M b) (M.1 b 1) (cH M b) (M.1 b 3) (M.1 b 4) (M.1 b 5)) z)))), (4, .int (nI z)), (5, .int (nI (sPrice (cV M b) (M.1 b 1) z))), (6, .int (nI 1))] dX0_bestSet_70 (by decide) rfl rfl ?_
          refine g_iload (pc := 72) 6 rfl dX0_bestSet_72 ?_
          refine g_ifN_eq (pc := 74) 101 dX0_bestSet_74 (by decide) (by omega) (fun h74 => absurd h74 (by omega)) (fun h74 => ?_)
          refine g_aload_n (pc := 77) 0 rfl rfl dX0_bestSet_77 ?_
          refine g_iload (pc := 78) 4 rfl dX0_bestSet_78 ?_
          refine g_callV (pc := 80) (mc := mX0_isWithoutClash) (rest := []) lX0_120 iX0_isWithoutClash (kX0_isWithoutClash l E M b z hB hO (by omega)) ⟨Nat.le_of_ble_eq_true rfl, Nat.le_of_ble_eq_true rfl⟩ hB.1.1 (by decide) (by decide) rfl rfl rfl rfl (Nat.le_of_ble_eq_true rfl) ⟨Nat.zero_le _, Nat.zero_le _⟩ dX0_bestSet_80 (g_rI ?_)
          refine g_ifB_eq (pc := 83) 101 dX0_bestSet_83 (by decide) (fun h83 => ?_) (fun h83 => ?_)
          · refine g_iincN (pc := 101) 1 4 [(0, .ref (gAd E b)), (1, .int (nI (sOut (cV M b) (M.1 b 4) (M.1 b 5) (M.1 b 1)))), (2, .int (nI (sBest (cV M b) (M.1 b 1) (goodC (cV M b) (M.1 b 1) (cH M b) (M.1 b 3) (M.1 b 4) (M.1 b 5)) z))), (3, .int (nI (sPrice (cV M b) (M.1 b 1) (sBest (cV M b) (M.1 b 1) (goodC (cV M b) (M.1 b 1) (cH M b) (M.1 b 3) (M.1 b 4) (M.1 b 5)) z)))), (4, .int (nI (z + 1))), (5, .int (nI (sPrice (cV M b) (M.1 b 1) z))), (6, .int (nI 1))] rfl dX0_bestSet_101 (by decide) rfl rfl ?_
            refine g_goto (pc := 104) 12 dX0_bestSet_104 (by decide) ?_
            refine g_pick (pc := 12) [0, 1, 2, 3, 4] [(0, .ref (gAd E b)), (1, .int (nI (sOut (cV M b) (M.1 b 4) (M.1 b 5) (M.1 b 1)))), (2, .int (nI (sBest (cV M b) (M.1 b 1) (goodC (cV M b) (M.1 b 1) (cH M b) (M.1 b 3) (M.1 b 4) (M.1 b 5)) z))), (3, .int (nI (sPrice (cV M b) (M.1 b 1) (sBest (cV M b) (M.1 b 1) (goodC (cV M b) (M.1 b 1) (cH M b) (M.1 b 3) (M.1 b 4) (M.1 b 5)) z)))), (4, .int (nI (z + 1)))] rfl ?_
            refine g_lv (pc := 12) (lv' := [(0, .ref (gAd E b)), (1, .int (nI (sOut (cV M b) (M.1 b 4) (M.1 b 5) (M.1 b 1)))), (2, .int (nI (sBest (cV M b) (M.1 b 1) (goodC (cV M b) (M.1 b 1) (cH M b) (M.1 b 3) (M.1 b 4) (M.1 b 5)) (z + 1)))), (3, .int (nI (sPrice (cV M b) (M.1 b 1) (sBest (cV M b) (M.1 b 1) (goodC (cV M b) (M.1 b 1) (cH M b) (M.1 b 3) (M.1 b 4) (M.1 b 5)) (z + 1))))), (4, .int (nI (z + 1)))]) (by rw [sBest_n2 (good := (goodC (cV M b) (M.1 b 1) (cH M b) (M.1 b 3) (M.1 b 4) (M.1 b 5))) (by simp only [goodC, h83, Bool.and_false, Bool.false_and])]) ?_
            exact ihz (by omega)
          · refine g_aload_n (pc := 86) 0 rfl rfl dX0_bestSet_86 ?_
            refine g_iload (pc := 87) 4 rfl dX0_bestSet_87 ?_
            refine g_callV (pc := 89) (mc := mX0_areHoldsKept) (rest := []) lX0_124 iX0_areHoldsKept (kX0_areHoldsKept l E M b z hB hO (by omega)) ⟨Nat.le_of_ble_eq_true rfl, Nat.le_of_ble_eq_true rfl⟩ hB.1.1 (by decide) (by decide) rfl rfl rfl rfl (Nat.le_of_ble_eq_true rfl) ⟨Nat.zero_le _, Nat.zero_le _⟩ dX0_bestSet_89 (g_rI ?_)
            refine g_ifB_eq (pc := 92) 101 dX0_bestSet_92 (by decide) (fun h92 => ?_) (fun h92 => ?_)
            · refine g_iincN (pc := 101) 1 4 [(0, .ref (gAd E b)), (1, .int (nI (sOut (cV M b) (M.1 b 4) (M.1 b 5) (M.1 b 1)))), (2, .int (nI (sBest (cV M b) (M.1 b 1) (goodC (cV M b) (M.1 b 1) (cH M b) (M.1 b 3) (M.1 b 4) (M.1 b 5)) z))), (3, .int (nI (sPrice (cV M b) (M.1 b 1) (sBest (cV M b) (M.1 b 1) (goodC (cV M b) (M.1 b 1) (cH M b) (M.1 b 3) (M.1 b 4) (M.1 b 5)) z)))), (4, .int (nI (z + 1))), (5, .int (nI (sPrice (cV M b) (M.1 b 1) z))), (6, .int (nI 1))] rfl dX0_bestSet_101 (by decide) rfl rfl ?_
              refine g_goto (pc := 104) 12 dX0_bestSet_104 (by decide) ?_
              refine g_pick (pc := 12) [0, 1, 2, 3, 4] [(0, .ref (gAd E b)), (1, .int (nI (sOut (cV M b) (M.1 b 4) (M.1 b 5) (M.1 b 1)))), (2, .int (nI (sBest (cV M b) (M.1 b 1) (goodC (cV M b) (M.1 b 1) (cH M b) (M.1 b 3) (M.1 b 4) (M.1 b 5)) z))), (3, .int (nI (sPrice (cV M b) (M.1 b 1) (sBest (cV M b) (M.1 b 1) (goodC (cV M b) (M.1 b 1) (cH M b) (M.1 b 3) (M.1 b 4) (M.1 b 5)) z)))), (4, .int (nI (z + 1)))] rfl ?_
              refine g_lv (pc := 12) (lv' := [(0, .ref (gAd E b)), (1, .int (nI (sOut (cV M b) (M.1 b 4) (M.1 b 5) (M.1 b 1)))), (2, .int (nI (sBest (cV M b) (M.1 b 1) (goodC (cV M b) (M.1 b 1) (cH M b) (M.1 b 3) (M.1 b 4) (M.1 b 5)) (z + 1)))), (3, .int (nI (sPrice (cV M b) (M.1 b 1) (sBest (cV M b) (M.1 b 1) (goodC (cV M b) (M.1 b 1) (cH M b) (M.1 b 3) (M.1 b 4) (M.1 b 5)) (z + 1))))), (4, .int (nI (z + 1)))]) (by rw [sBest_n2 (good := (goodC (cV M b) (M.1 b 1) (cH M b) (M.1 b 3) (M.1 b 4) (M.1 b 5))) (by simp only [goodC, h92, Bool.and_false])]) ?_
              exact ihz (by omega)
            · refine g_iload (pc := 95) 4 rfl dX0_bestSet_95 ?_
              refine g_istore_n (pc := 97) rfl [(0, .ref (gAd E b)), (1, .int (nI (sOut (cV M b) (M.1 b 4) (M.1 b 5) (M.1 b 1)))), (2, .int (nI z)), (3, .int (nI (sPrice (cV M b) (M.1 b 1) (sBest (cV M b) (M.1 b 1) (goodC (cV M b) (M.1 b 1) (cH M b) (M.1 b 3) (M.1 b 4) (M.1 b 5)) z)))), (4, .int (nI z)), (5, .int (nI (sPrice (cV M b) (M.1 b 1) z))), (6, .int (nI 1))] dX0_bestSet_97 (by decide) rfl rfl ?_
              refine g_iload (pc := 98) 5 rfl dX0_bestSet_98 ?_
              refine g_istore_n (pc := 100) rfl [(0, .ref (gAd E b)), (1, .int (nI (sOut (cV M b) (M.1 b 4) (M.1 b 5) (M.1 b 1)))), (2, .int (nI z)), (3, .int (nI (sPrice (cV M b) (M.1 b 1) z))), (4, .int (nI z)), (5, .int (nI (sPrice (cV M b) (M.1 b 1) z))), (6, .int (nI 1))] dX0_bestSet_100 (by decide) rfl rfl ?_
              refine g_iincN (pc := 101) 1 4 [(0, .ref (gAd E b)), (1, .int (nI (sOut (cV M b) (M.1 b 4) (M.1 b 5) (M.1 b 1)))), (2, .int (nI z)), (3, .int (nI (sPrice (cV M b) (M.1 b 1) z))), (4, .int (nI (z + 1))), (5, .int (nI (sPrice (cV M b) (M.1 b 1) z))), (6, .int (nI 1))] rfl dX0_bestSet_101 (by decide) rfl rfl ?_
              refine g_goto (pc := 104) 12 dX0_bestSet_104 (by decide) ?_
              refine g_pick (pc := 12) [0, 1, 2, 3, 4] [(0, .ref (gAd E b)), (1, .int (nI (sOut (cV M b) (M.1 b 4) (M.1 b 5) (M.1 b 1)))), (2, .int (nI z)), (3, .int (nI (sPrice (cV M b) (M.1 b 1) z))), (4, .int (nI (z + 1)))] rfl ?_
              refine g_lv (pc := 12) (lv' := [(0, .ref (gAd E b)), (1, .int (nI (sOut (cV M b) (M.1 b 4) (M.1 b 5) (M.1 b 1)))), (2, .int (nI (sBest (cV M b) (M.1 b 1) (goodC (cV M b) (M.1 b 1) (cH M b) (M.1 b 3) (M.1 b 4) (M.1 b 5)) (z + 1)))), (3, .int (nI (sPrice (cV M b) (M.1 b 1) (sBest (cV M b) (M.1 b 1) (goodC (cV M b) (M.1 b 1) (cH M b) (M.1 b 3) (M.1 b 4) (M.1 b 5)) (z + 1))))), (4, .int (nI (z + 1)))]) (by rw [sBest_p (good := (goodC (cV M b) (M.1 b 1) (cH M b) (M.1 b 3) (M.1 b 4) (M.1 b 5))) hbet (by simp only [goodC, h83, h92, h27]; rfl)]) ?_
              exact ihz (by omega)
        · refine g_iload (pc := 47) 5 rfl dX0_bestSet_47 ?_
          refine g_iload_n (pc := 49) 3 rfl rfl dX0_bestSet_49 ?_
          refine g_icmpN_ne (pc := 50) 69 dX0_bestSet_50 (by decide) (by omega) (by omega) (fun h50 => ?_) (fun h50 => ?_)
          · have hbet : sBet (cV M b) (M.1 b 1) z (sBest (cV M b) (M.1 b 1) (goodC (cV M b) (M.1 b 1) (cH M b) (M.1 b 3) (M.1 b 4) (M.1 b 5)) z) = false := by rw [Bool.eq_false_iff]; simp only [sBet, ne_eq, Bool.or_eq_true, Bool.and_eq_true, beq_iff_eq, decide_eq_true_eq]; omega
            refine g_iconst (pc := 69) (nI 0) (by decide) dX0_bestSet_69 ?_
            refine g_istore (pc := 70) [(0, .ref (gAd E b)), (1, .int (nI (sOut (cV M b) (M.1 b 4) (M.1 b 5) (M.1 b 1)))), (2, .int (nI (sBest (cV M b) (M.1 b 1) (goodC (cV M b) (M.1 b 1) (cH M b) (M.1 b 3) (M.1 b 4) (M.1 b 5)) z))), (3, .int (nI (sPrice (cV M b) (M.1 b 1) (sBest (cV M b) (M.1 b 1) (goodC (cV M b) (M.1 b 1) (cH M b) (M.1 b 3) (M.1 b 4) (M.1 b 5)) z)))), (4, .int (nI z)), (5, .int (nI (sPrice (cV M b) (M.1 b 1) z))), (6, .int (nI 0))] dX0_bestSet_70 (by decide) rfl rfl ?_
            refine g_iload (pc := 72) 6 rfl dX0_bestSet_72 ?_
            refine g_ifN_eq (pc := 74) 101 dX0_bestSet_74 (by decide) (by omega) (fun h74 => ?_) (fun h74 => absurd h74 (by omega))
            refine g_iincN (pc := 101) 1 4 [(0, .ref (gAd E b)), (1, .int (nI (sOut (cV M b) (M.1 b 4) (M.1 b 5) (M.1 b 1)))), (2, .int (nI (sBest (cV M b) (M.1 b 1) (goodC (cV M b) (M.1 b 1) (cH M b) (M.1 b 3) (M.1 b 4) (M.1 b 5)) z))), (3, .int (nI (sPrice (cV M b) (M.1 b 1) (sBest (cV M b) (M.1 b 1) (goodC (cV M b) (M.1 b 1) (cH M b) (M.1 b 3) (M.1 b 4) (M.1 b 5)) z)))), (4, .int (nI (z + 1))), (5, .int (nI (sPrice (cV M b) (M.1 b 1) z))), (6, .int (nI 0))] rfl dX0_bestSet_101 (by decide) rfl rfl ?_
            refine g_goto (pc := 104) 12 dX0_bestSet_104 (by decide) ?_
            refine g_pick (pc := 12) [0, 1, 2, 3, 4] [(0, .ref (gAd E b)), (1, .int (nI (sOut (cV M b) (M.1 b 4) (M.1 b 5) (M.1 b 1)))), (2, .int (nI (sBest (cV M b) (M.1 b 1) (goodC (cV M b) (M.1 b 1) (cH M b) (M.1 b 3) (M.1 b 4) (M.1 b 5)) z))), (3, .int (nI (sPrice (cV M b) (M.1 b 1) (sBest (cV M b) (M.1 b 1) (goodC (cV M b) (M.1 b 1) (cH M b) (M.1 b 3) (M.1 b 4) (M.1 b 5)) z)))), (4, .int (nI (z + 1)))] rfl ?_
            refine g_lv (pc := 12) (lv' := [(0, .ref (gAd E b)), (1, .int (nI (sOut (cV M b) (M.1 b 4) (M.1 b 5) (M.1 b 1)))), (2, .int (nI (sBest (cV M b) (M.1 b 1) (goodC (cV M b) (M.1 b 1) (cH M b) (M.1 b 3) (M.1 b 4) (M.1 b 5)) (z + 1)))), (3, .int (nI (sPrice (cV M b) (M.1 b 1) (sBest (cV M b) (M.1 b 1) (goodC (cV M b) (M.1 b 1) (cH M b) (M.1 b 3) (M.1 b 4) (M.1 b 5)) (z + 1))))), (4, .int (nI (z + 1)))]) (by rw [sBest_n1 (good := (goodC (cV M b) (M.1 b 1) (cH M b) (M.1 b 3) (M.1 b 4) (M.1 b 5))) hbet]) ?_
            exact ihz (by omega)
          · refine g_iload (pc := 53) 4 rfl dX0_bestSet_53 ?_
            refine g_callS (pc := 55) (mc := mJ6_bitCount_0f7a4) (rest := []) lX0_115 iJ6_bitCount_0f7a4 (kJ6_bitCount l E M z (by omega)) ⟨Nat.le_of_ble_eq_true rfl, Nat.le_of_ble_eq_true rfl⟩ rfl rfl (Nat.le_of_ble_eq_true rfl) ⟨Nat.zero_le _, Nat.zero_le _⟩ dX0_bestSet_55 (g_rI ?_)
            refine g_iload_n (pc := 58) 2 rfl rfl dX0_bestSet_58 ?_
            refine g_callS (pc := 59) (mc := mJ6_bitCount_0f7a4) (rest := [.int (nI (sOnes z))]) lX0_115 iJ6_bitCount_0f7a4 (kJ6_bitCount l E M (sBest (cV M b) (M.1 b 1) (goodC (cV M b) (M.1 b 1) (cH M b) (M.1 b 3) (M.1 b 4) (M.1 b 5)) z) (by omega)) ⟨Nat.le_of_ble_eq_true rfl, Nat.le_of_ble_eq_true rfl⟩ rfl rfl (Nat.le_of_ble_eq_true rfl) ⟨Nat.zero_le _, Nat.zero_le _⟩ dX0_bestSet_59 (g_rI ?_)
            refine g_icmpN_ge (pc := 62) 69 dX0_bestSet_62 (by decide) (by omega) (by omega) (fun h62 => ?_) (fun h62 => ?_)
            · have hbet : sBet (cV M b) (M.1 b 1) z (sBest (cV M b) (M.1 b 1) (goodC (cV M b) (M.1 b 1) (cH M b) (M.1 b 3) (M.1 b 4) (M.1 b 5)) z) = false := by rw [Bool.eq_false_iff]; simp only [sBet, ne_eq, Bool.or_eq_true, Bool.and_eq_true, beq_iff_eq, decide_eq_true_eq]; omega
              refine g_iconst (pc := 69) (nI 0) (by decide) dX0_bestSet_69 ?_
              refine g_istore (pc := 70) [(0, .ref (gAd E b)), (1, .int (nI (sOut (cV M b) (M.1 b 4) (M.1 b 5) (M.1 b 1)))), (2, .int (nI (sBest (cV M b) (M.1 b 1) (goodC (cV M b) (M.1 b 1) (cH M b) (M.1 b 3) (M.1 b 4) (M.1 b 5)) z))), (3, .int (nI (sPrice (cV M b) (M.1 b 1) (sBest (cV M b) (M.1 b 1) (goodC (cV M b) (M.1 b 1) (cH M b) (M.1 b 3) (M.1 b 4) (M.1 b 5)) z)))), (4, .int (nI z)), (5, .int (nI (sPrice (cV M b) (M.1 b 1) z))), (6, .int (nI 0))] dX0_bestSet_70 (by decide) rfl rfl ?_
              refine g_iload (pc := 72) 6 rfl dX0_bestSet_72 ?_
              refine g_ifN_eq (pc := 74) 101 dX0_bestSet_74 (by decide) (by omega) (fun h74 => ?_) (fun h74 => absurd h74 (by omega))
              refine g_iincN (pc := 101) 1 4 [(0, .ref (gAd E b)), (1, .int (nI (sOut (cV M b) (M.1 b 4) (M.1 b 5) (M.1 b 1)))), (2, .int (nI (sBest (cV M b) (M.1 b 1) (goodC (cV M b) (M.1 b 1) (cH M b) (M.1 b 3) (M.1 b 4) (M.1 b 5)) z))), (3, .int (nI (sPrice (cV M b) (M.1 b 1) (sBest (cV M b) (M.1 b 1) (goodC (cV M b) (M.1 b 1) (cH M b) (M.1 b 3) (M.1 b 4) (M.1 b 5)) z)))), (4, .int (nI (z + 1))), (5, .int (nI (sPrice (cV M b) (M.1 b 1) z))), (6, .int (nI 0))] rfl dX0_bestSet_101 (by decide) rfl rfl ?_
              refine g_goto (pc := 104) 12 dX0_bestSet_104 (by decide) ?_
              refine g_pick (pc := 12) [0, 1, 2, 3, 4] [(0, .ref (gAd E b)), (1, .int (nI (sOut (cV M b) (M.1 b 4) (M.1 b 5) (M.1 b 1)))), (2, .int (nI (sBest (cV M b) (M.1 b 1) (goodC (cV M b) (M.1 b 1) (cH M b) (M.1 b 3) (M.1 b 4) (M.1 b 5)) z))), (3, .int (nI (sPrice (cV M b) (M.1 b 1) (sBest (cV M b) (M.1 b 1) (goodC (cV M b) (M.1 b 1) (cH M b) (M.1 b 3) (M.1 b 4) (M.1 b 5)) z)))), (4, .int (nI (z + 1)))] rfl ?_
              refine g_lv (pc := 12) (lv' := [(0, .ref (gAd E b)), (1, .int (nI (sOut (cV M b) (M.1 b 4) (M.1 b 5) (M.1 b 1)))), (2, .int (nI (sBest (cV M b) (M.1 b 1) (goodC (cV M b) (M.1 b 1) (cH M b) (M.1 b 3) (M.1 b 4) (M.1 b 5)) (z + 1)))), (3, .int (nI (sPrice (cV M b) (M.1 b 1) (sBest (cV M b) (M.1 b 1) (goodC (cV M b) (M.1 b 1) (cH M b) (M.1 b 3) (M.1 b 4) (M.1 b 5)) (z + 1))))), (4, .int (nI (z + 1)))]) (by rw [sBest_n1 (good := (goodC (cV M b) (M.1 b 1) (cH M b) (M.1 b 3) (M.1 b 4) (M.1 b 5))) hbet]) ?_
              exact ihz (by omega)
            · have hbet : sBet (cV M b) (M.1 b 1) z (sBest (cV M b) (M.1 b 1) (goodC (cV M b) (M.1 b 1) (cH M b) (M.1 b 3) (M.1 b 4) (M.1 b 5)) z) = true := by simp only [sBet, Bool.or_eq_true, Bool.and_eq_true, beq_iff_eq, decide_eq_true_eq]; exact Or.inr ⟨h50, h62⟩
              refine g_iconst (pc := 65) (nI 1) (by decide) dX0_bestSet_65 ?_
              refine g_goto (pc := 66) 70 dX0_bestSet_66 (by decide) ?_
              refine g_istore (pc := 70) [(0, .ref (gAd E b)), (1, .int (nI (sOut (cV M b) (M.1 b 4) (M.1 b 5) (M.1 b 1)))), (2, .int (nI (sBest (cV M b) (M.1 b 1) (goodC (cV M b) (M.1 b 1) (cH M b) (M.1 b 3) (M.1 b 4) (M.1 b 5)) z))), (3, .int (nI (sPrice (cV M b) (M.1 b 1) (sBest (cV M b) (M.1 b 1) (goodC (cV M b) (M.1 b 1) (cH M b) (M.1 b 3) (M.1 b 4) (M.1 b 5)) z)))), (4, .int (nI z)), (5, .int (nI (sPrice (cV M b) (M.1 b 1) z))), (6, .int (nI 1))] dX0_bestSet_70 (by decide) rfl rfl ?_
              refine g_iload (pc := 72) 6 rfl dX0_bestSet_72 ?_
              refine g_ifN_eq (pc := 74) 101 dX0_bestSet_74 (by decide) (by omega) (fun h74 => absurd h74 (by omega)) (fun h74 => ?_)
              refine g_aload_n (pc := 77) 0 rfl rfl dX0_bestSet_77 ?_
              refine g_iload (pc := 78) 4 rfl dX0_bestSet_78 ?_
              refine g_callV (pc := 80) (mc := mX0_isWithoutClash) (rest := []) lX0_120 iX0_isWithoutClash (kX0_isWithoutClash l E M b z hB hO (by omega)) ⟨Nat.le_of_ble_eq_true rfl, Nat.le_of_ble_eq_true rfl⟩ hB.1.1 (by decide) (by decide) rfl rfl rfl rfl (Nat.le_of_ble_eq_true rfl) ⟨Nat.zero_le _, Nat.zero_le _⟩ dX0_bestSet_80 (g_rI ?_)
              refine g_ifB_eq (pc := 83) 101 dX0_bestSet_83 (by decide) (fun h83 => ?_) (fun h83 => ?_)
              · refine g_iincN (pc := 101) 1 4 [(0, .ref (gAd E b)), (1, .int (nI (sOut (cV M b) (M.1 b 4) (M.1 b 5) (M.1 b 1)))), (2, .int (nI (sBest (cV M b) (M.1 b 1) (goodC (cV M b) (M.1 b 1) (cH M b) (M.1 b 3) (M.1 b 4) (M.1 b 5)) z))), (3, .int (nI (sPrice (cV M b) (M.1 b 1) (sBest (cV M b) (M.1 b 1) (goodC (cV M b) (M.1 b 1) (cH M b) (M.1 b 3) (M.1 b 4) (M.1 b 5)) z)))), (4, .int (nI (z + 1))), (5, .int (nI (sPrice (cV M b) (M.1 b 1) z))), (6, .int (nI 1))] rfl dX0_bestSet_101 (by decide) rfl rfl ?_
                refine g_goto (pc := 104) 12 dX0_bestSet_104 (by decide) ?_
                refine g_pick (pc := 12) [0, 1, 2, 3, 4] [(0, .ref (gAd E b)), (1, .int (nI (sOut (cV M b) (M.1 b 4) (M.1 b 5) (M.1 b 1)))), (2, .int (nI (sBest (cV M b) (M.1 b 1) (goodC (cV M b) (M.1 b 1) (cH M b) (M.1 b 3) (M.1 b 4) (M.1 b 5)) z))), (3, .int (nI (sPrice (cV M b) (M.1 b 1) (sBest (cV M b) (M.1 b 1) (goodC (cV M b) (M.1 b 1) (cH M b) (M.1 b 3) (M.1 b 4) (M.1 b 5)) z)))), (4, .int (nI (z + 1)))] rfl ?_
                refine g_lv (pc := 12) (lv' := [(0, .ref (gAd E b)), (1, .int (nI (sOut (cV M b) (M.1 b 4) (M.1 b 5) (M.1 b 1)))), (2, .int (nI (sBest (cV M b) (M.1 b 1) (goodC (cV M b) (M.1 b 1) (cH M b) (M.1 b 3) (M.1 b 4) (M.1 b 5)) (z + 1)))), (3, .int (nI (sPrice (cV M b) (M.1 b 1) (sBest (cV M b) (M.1 b 1) (goodC (cV M b) (M.1 b 1) (cH M b) (M.1 b 3) (M.1 b 4) (M.1 b 5)) (z + 1))))), (4, .int (nI (z + 1)))]) (by rw [sBest_n2 (good := (goodC (cV M b) (M.1 b 1) (cH M b) (M.1 b 3) (M.1 b 4) (M.1 b 5))) (by simp only [goodC, h83, Bool.and_false, Bool.false_and])]) ?_
                exact ihz (by omega)
              · refine g_aload_n (pc := 86) 0 rfl rfl dX0_bestSet_86 ?_
                refine g_iload (pc := 87) 4 rfl dX0_bestSet_87 ?_
                refine g_callV (pc := 89) (mc := mX0_areHoldsKept) (rest := []) lX0_124 iX0_areHoldsKept (kX0_areHoldsKept l E M b z hB hO (by omega)) ⟨Nat.le_of_ble_eq_true rfl, Nat.le_of_ble_eq_true rfl⟩ hB.1.1 (by decide) (by decide) rfl rfl rfl rfl (Nat.le_of_ble_eq_true rfl) ⟨Nat.zero_le _, Nat.zero_le _⟩ dX0_bestSet_89 (g_rI ?_)
                refine g_ifB_eq (pc := 92) 101 dX0_bestSet_92 (by decide) (fun h92 => ?_) (fun h92 => ?_)
                · refine g_iincN (pc := 101) 1 4 [(0, .ref (gAd E b)), (1, .int (nI (sOut (cV M b) (M.1 b 4) (M.1 b 5) (M.1 b 1)))), (2, .int (nI (sBest (cV M b) (M.1 b 1) (goodC (cV M b) (M.1 b 1) (cH M b) (M.1 b 3) (M.1 b 4) (M.1 b 5)) z))), (3, .int (nI (sPrice (cV M b) (M.1 b 1) (sBest (cV M b) (M.1 b 1) (goodC (cV M b) (M.1 b 1) (cH M b) (M.1 b 3) (M.1 b 4) (M.1 b 5)) z)))), (4, .int (nI (z + 1))), (5, .int (nI (sPrice (cV M b) (M.1 b 1) z))), (6, .int (nI 1))] rfl dX0_bestSet_101 (by decide) rfl rfl ?_
                  refine g_goto (pc := 104) 12 dX0_bestSet_104 (by decide) ?_
                  refine g_pick (pc := 12) [0, 1, 2, 3, 4] [(0, .ref (gAd E b)), (1, .int (nI (sOut (cV M b) (M.1 b 4) (M.1 b 5) (M.1 b 1)))), (2, .int (nI (sBest (cV M b) (M.1 b 1) (goodC (cV M b) (M.1 b 1) (cH M b) (M.1 b 3) (M.1 b 4) (M.1 b 5)) z))), (3, .int (nI (sPrice (cV M b) (M.1 b 1) (sBest (cV M b) (M.1 b 1) (goodC (cV M b) (M.1 b 1) (cH M b) (M.1 b 3) (M.1 b 4) (M.1 b 5)) z)))), (4, .int (nI (z + 1)))] rfl ?_
                  refine g_lv (pc := 12) (lv' := [(0, .ref (gAd E b)), (1, .int (nI (sOut (cV M b) (M.1 b 4) (M.1 b 5) (M.1 b 1)))), (2, .int (nI (sBest (cV M b) (M.1 b 1) (goodC (cV M b) (M.1 b 1) (cH M b) (M.1 b 3) (M.1 b 4) (M.1 b 5)) (z + 1)))), (3, .int (nI (sPrice (cV M b) (M.1 b 1) (sBest (cV M b) (M.1 b 1) (goodC (cV M b) (M.1 b 1) (cH M b) (M.1 b 3) (M.1 b 4) (M.1 b 5)) (z + 1))))), (4, .int (nI (z + 1)))]) (by rw [sBest_n2 (good := (goodC (cV M b) (M.1 b 1) (cH M b) (M.1 b 3) (M.1 b 4) (M.1 b 5))) (by simp only [goodC, h92, Bool.and_false])]) ?_
                  exact ihz (by omega)
                · refine g_iload (pc := 95) 4 rfl dX0_bestSet_95 ?_
                  refine g_istore_n (pc := 97) rfl [(0, .ref (gAd E b)), (1, .int (nI (sOut (cV M b) (M.1 b 4) (M.1 b 5) (M.1 b 1)))), (2, .int (nI z)), (3, .int (nI (sPrice (cV M b) (M.1 b 1) (sBest (cV M b) (M.1 b 1) (goodC (cV M b) (M.1 b 1) (cH M b) (M.1 b 3) (M.1 b 4) (M.1 b 5)) z)))), (4, .int (nI z)), (5, .int (nI (sPrice (cV M b) (M.1 b 1) z))), (6, .int (nI 1))] dX0_bestSet_97 (by decide) rfl rfl ?_
                  refine g_iload (pc := 98) 5 rfl dX0_bestSet_98 ?_
                  refine g_istore_n (pc := 100) rfl [(0, .ref (gAd E b)), (1, .int (nI (sOut (cV M b) (M.1 b 4) (M.1 b 5) (M.1 b 1)))), (2, .int (nI z)), (3, .int (nI (sPrice (cV M b) (M.1 b 1) z))), (4, .int (nI z)), (5, .int (nI (sPrice (cV M b) (M.1 b 1) z))), (6, .int (nI 1))] dX0_bestSet_100 (by decide) rfl rfl ?_
                  refine g_iincN (pc := 101) 1 4 [(0, .ref (gAd E b)), (1, .int (nI (sOut (cV M b) (M.1 b 4) (M.1 b 5) (M.1 b 1)))), (2, .int (nI z)), (3, .int (nI (sPrice (cV M b) (M.1 b 1) z))), (4, .int (nI (z + 1))), (5, .int (nI (sPrice (cV M b) (M.1 b 1) z))), (6, .int (nI 1))] rfl dX0_bestSet_101 (by decide) rfl rfl ?_
                  refine g_goto (pc := 104) 12 dX0_bestSet_104 (by decide) ?_
                  refine g_pick (pc := 12) [0, 1, 2, 3, 4] [(0, .ref (gAd E b)), (1, .int (nI (sOut (cV M b) (M.1 b 4) (M.1 b 5) (M.1 b 1)))), (2, .int (nI z)), (3, .int (nI (sPrice (cV M b) (M.1 b 1) z))), (4, .int (nI (z + 1)))] rfl ?_
                  refine g_lv (pc := 12) (lv' := [(0, .ref (gAd E b)), (1, .int (nI (sOut (cV M b) (M.1 b 4) (M.1 b 5) (M.1 b 1)))), (2, .int (nI (sBest (cV M b) (M.1 b 1) (goodC (cV M b) (M.1 b 1) (cH M b) (M.1 b 3) (M.1 b 4) (M.1 b 5)) (z + 1)))), (3, .int (nI (sPrice (cV M b) (M.1 b 1) (sBest (cV M b) (M.1 b 1) (goodC (cV M b) (M.1 b 1) (cH M b) (M.1 b 3) (M.1 b 4) (M.1 b 5)) (z + 1))))), (4, .int (nI (z + 1)))]) (by rw [sBest_p (good := (goodC (cV M b) (M.1 b 1) (cH M b) (M.1 b 3) (M.1 b 4) (M.1 b 5))) hbet (by simp only [goodC, h83, h92, h27]; rfl)]) ?_
                  exact ihz (by omega)
      · refine g_goto (pc := 30) 101 dX0_bestSet_30 (by decide) ?_
        refine g_iincN (pc := 101) 1 4 [(0, .ref (gAd E b)), (1, .int (nI (sOut (cV M b) (M.1 b 4) (M.1 b 5) (M.1 b 1)))), (2, .int (nI (sBest (cV M b) (M.1 b 1) (goodC (cV M b) (M.1 b 1) (cH M b) (M.1 b 3) (M.1 b 4) (M.1 b 5)) z))), (3, .int (nI (sPrice (cV M b) (M.1 b 1) (sBest (cV M b) (M.1 b 1) (goodC (cV M b) (M.1 b 1) (cH M b) (M.1 b 3) (M.1 b 4) (M.1 b 5)) z)))), (4, .int (nI (z + 1)))] rfl dX0_bestSet_101 (by decide) rfl rfl ?_
        refine g_goto (pc := 104) 12 dX0_bestSet_104 (by decide) ?_
        refine g_lv (pc := 12) (lv' := [(0, .ref (gAd E b)), (1, .int (nI (sOut (cV M b) (M.1 b 4) (M.1 b 5) (M.1 b 1)))), (2, .int (nI (sBest (cV M b) (M.1 b 1) (goodC (cV M b) (M.1 b 1) (cH M b) (M.1 b 3) (M.1 b 4) (M.1 b 5)) (z + 1)))), (3, .int (nI (sPrice (cV M b) (M.1 b 1) (sBest (cV M b) (M.1 b 1) (goodC (cV M b) (M.1 b 1) (cH M b) (M.1 b 3) (M.1 b 4) (M.1 b 5)) (z + 1))))), (4, .int (nI (z + 1)))]) (by rw [sBest_n2 (good := (goodC (cV M b) (M.1 b 1) (cH M b) (M.1 b 3) (M.1 b 4) (M.1 b 5))) (by simp only [goodC]; rw [show (z &&& sOut (cV M b) (M.1 b 4) (M.1 b 5) (M.1 b 1) == 0) = false from by simp only [beq_eq_false_iff_ne]; omega]; rfl)]) ?_
        exact ihz (by omega)
  refine g_lv (pc := 12) (lv' := [(0, .ref (gAd E b)), (1, .int (nI (sOut (cV M b) (M.1 b 4) (M.1 b 5) (M.1 b 1)))), (2, .int (nI (sBest (cV M b) (M.1 b 1) (goodC (cV M b) (M.1 b 1) (cH M b) (M.1 b 3) (M.1 b 4) (M.1 b 5)) 1))), (3, .int (nI (sPrice (cV M b) (M.1 b 1) (sBest (cV M b) (M.1 b 1) (goodC (cV M b) (M.1 b 1) (cH M b) (M.1 b 3) (M.1 b 4) (M.1 b 5)) 1)))), (4, .int (nI 1))]) (by rw [show sBest (cV M b) (M.1 b 1) (goodC (cV M b) (M.1 b 1) (cH M b) (M.1 b 3) (M.1 b 4) (M.1 b 5)) 1 = 0 from Nat.le_zero.mp (by have := sBest_le (V := cV M b) (n := M.1 b 1) (good := (goodC (cV M b) (M.1 b 1) (cH M b) (M.1 b 3) (M.1 b 4) (M.1 b 5))) 0; rw [show sBest (cV M b) (M.1 b 1) (goodC (cV M b) (M.1 b 1) (cH M b) (M.1 b 3) (M.1 b 4) (M.1 b 5)) 1 = sBest (cV M b) (M.1 b 1) (goodC (cV M b) (M.1 b 1) (cH M b) (M.1 b 3) (M.1 b 4) (M.1 b 5)) 0 from sBest_n1 (by simp only [sBest, sBet]; simp)]; exact this), sPrice_0]) ?_
  exact lp12 1 Nat.one_le_two_pow
end
section
set_option maxRecDepth 100000 in
set_option maxHeartbeats 4000000 in
theorem kX6_isOffer (l : Launch) (E : gEnv) (M : gMem) (b b' : Nat) (hS : cS E M b b') (hO : cO M b) (hsg : M.1 1 5 < 1024) (x : Int32) : gMetI l E mX6_isOffer 0 [.ref (gAd E 1), .int x] M (gb (inR x (M.1 b 1))) := by
  have hB := hS.B
  have hO' := hO
  obtain ⟨hn, hk, hft, hto, hU, hH⟩ := hO
  have hO := hO'
  refine gMet_of (mm := mX6_isOffer) (h := 0) (M := M) [(0, .ref (gAd E 1)), (1, .int x)] (by decide) (Nat.le_of_ble_eq_true rfl) rfl ?_
  refine g_iload_n (pc := 0) 1 rfl rfl dX6_isOffer_0 ?_
  refine g_if_lt (pc := 1) 19 dX6_isOffer_1 (by decide) (fun h1 => ?_) (fun h1 => ?_)
  · refine g_iconst (pc := 19) (nI 0) (by decide) dX6_isOffer_19 ?_
    refine g_topi (pc := 20) (x' := gb false) (by decide) ?_
    exact g_zret (pc := 20) rfl dX6_isOffer_20 ⟨congrArg (fun z => some (Value.int (gb z))) (bf_of (by intro hh; have hh := of_decide_eq_true hh; exact h1n h1 hh.1)), rfl⟩
  · refine g_iload_n (pc := 4) 1 rfl rfl dX6_isOffer_4 ?_
    refine g_aload_n (pc := 5) 0 rfl rfl dX6_isOffer_5 ?_
    refine fX6_23 (pc := 6) b rfl hS.s1 hS.rb hS.b0 dX6_isOffer_6 ?_
    refine fX6_60 (pc := 9) rfl hB.1.1 dX6_isOffer_9 ?_
    refine g_icmp_ge (pc := 12) 19 dX6_isOffer_12 (by decide) (fun h12 => ?_) (fun h12 => ?_)
    · refine g_iconst (pc := 19) (nI 0) (by decide) dX6_isOffer_19 ?_
      refine g_topi (pc := 20) (x' := gb false) (by decide) ?_
      exact g_zret (pc := 20) rfl dX6_isOffer_20 ⟨congrArg (fun z => some (Value.int (gb z))) (bf_of (by intro hh; have hh := of_decide_eq_true hh; exact h6n (by omega) h12 hh.2)), rfl⟩
    · refine g_iconst (pc := 15) (nI 1) (by decide) dX6_isOffer_15 ?_
      refine g_goto (pc := 16) 20 dX6_isOffer_16 (by decide) ?_
      refine g_topi (pc := 20) (x' := gb true) (by decide) ?_
      exact g_zret (pc := 20) rfl dX6_isOffer_20 ⟨congrArg (fun z => some (Value.int (gb z))) (bt_of (by exact decide_eq_true ⟨i32_nn h1, i32_lt (by omega) h12⟩)), rfl⟩
set_option maxRecDepth 100000 in
set_option maxHeartbeats 4000000 in
theorem kX6_isSigned (l : Launch) (E : gEnv) (M : gMem) (b b' : Nat) (hS : cS E M b b') (hO : cO M b) (hsg : M.1 1 5 < 1024) (i : Nat) (hi : i < 32) : gMetI l E mX6_isSigned 1 [.ref (gAd E 1), .int (nI i)] M (gb ((M.1 1 5).testBit i)) := by
  have hB := hS.B
  have hO' := hO
  obtain ⟨hn, hk, hft, hto, hU, hH⟩ := hO
  have hO := hO'
  refine gMet_of (mm := mX6_isSigned) (h := 1) (M := M) [(0, .ref (gAd E 1)), (1, .int (nI i))] (by decide) (Nat.le_of_ble_eq_true rfl) rfl ?_
  refine g_aload_n (pc := 0) 0 rfl rfl dX6_isSigned_0 ?_
  refine fX6_63 (pc := 1) rfl hS.s1 dX6_isSigned_1 ?_
  refine g_iload_n (pc := 4) 1 rfl rfl dX6_isSigned_4 ?_
  refine g_callS (pc := 5) (mc := mX6_has) (rest := []) lX6_119 iX6_has (kX6_has l E M (M.1 1 5) i (by omega) (by omega)) ⟨Nat.le_of_ble_eq_true rfl, Nat.le_of_ble_eq_true rfl⟩ rfl rfl (Nat.le_of_ble_eq_true rfl) ⟨Nat.zero_le _, Nat.zero_le _⟩ dX6_isSigned_5 (g_rI ?_)
  exact g_zret (pc := 8) rfl dX6_isSigned_8 ⟨rfl, rfl⟩
set_option maxRecDepth 100000 in
set_option maxHeartbeats 4000000 in
theorem kX6_whatSpeaksAgainst (l : Launch) (E : gEnv) (M : gMem) (b b' : Nat) (hS : cS E M b b') (hO : cO M b) (hsg : M.1 1 5 < 1024) (i : Nat) (hi : i < M.1 b 1) : gMetI l E mX6_whatSpeaksAgainst 4 [.ref (gAd E 1), .int (nI i)] M (nI (sWhy (cV M b) (M.1 b 1) (cH M b) (M.1 b 3) (M.1 b 4) (M.1 b 5) (M.1 1 5) i)) := by
  have hB := hS.B
  have hO' := hO
  obtain ⟨hn, hk, hft, hto, hU, hH⟩ := hO
  have hO := hO'
  refine gMet_of (mm := mX6_whatSpeaksAgainst) (h := 4) (M := M) [(0, .ref (gAd E 1)), (1, .int (nI i))] (by decide) (Nat.le_of_ble_eq_true rfl) rfl ?_
  refine g_aload_n (pc := 0) 0 rfl rfl dX6_whatSpeaksAgainst_0 ?_
  refine g_iload_n (pc := 1) 1 rfl rfl dX6_whatSpeaksAgainst_1 ?_
  refine g_callV (pc := 2) (mc := mX6_isSigned) (rest := []) lX6_90 iX6_isSigned (kX6_isSigned l E M b b' hS hO hsg i (by omega)) ⟨Nat.le_of_ble_eq_true rfl, Nat.le_of_ble_eq_true rfl⟩ hS.s1 (by decide) (by decide) rfl rfl rfl rfl (Nat.le_of_ble_eq_true rfl) ⟨Nat.zero_le _, Nat.zero_le _⟩ dX6_whatSpeaksAgainst_2 (g_rI ?_)
  refine g_ifB_eq (pc := 5) 10 dX6_whatSpeaksAgainst_5 (by decide) (fun h5 => ?_) (fun h5 => ?_)
  · refine g_aload_n (pc := 10) 0 rfl rfl dX6_whatSpeaksAgainst_10 ?_
    refine fX6_23 (pc := 11) b rfl hS.s1 hS.rb hS.b0 dX6_whatSpeaksAgainst_11 ?_
    refine g_iload_n (pc := 14) 1 rfl rfl dX6_whatSpeaksAgainst_14 ?_
    refine g_callV (pc := 15) (mc := mX0_isWithinTerm) (rest := []) lX6_123 iX0_isWithinTerm (kX0_isWithinTerm l E M b i hB hO (by omega)) ⟨Nat.le_of_ble_eq_true rfl, Nat.le_of_ble_eq_true rfl⟩ hB.1.1 (by decide) (by decide) rfl rfl rfl rfl (Nat.le_of_ble_eq_true rfl) ⟨Nat.zero_le _, Nat.zero_le _⟩ dX6_whatSpeaksAgainst_15 (g_rI ?_)
    refine g_ifB_ne (pc := 18) 23 dX6_whatSpeaksAgainst_18 (by decide) (fun h18 => ?_) (fun h18 => ?_)
    · refine g_aload_n (pc := 23) 0 rfl rfl dX6_whatSpeaksAgainst_23 ?_
      refine fX6_23 (pc := 24) b rfl hS.s1 hS.rb hS.b0 dX6_whatSpeaksAgainst_24 ?_
      refine g_iload_n (pc := 27) 1 rfl rfl dX6_whatSpeaksAgainst_27 ?_
      refine g_aload_n (pc := 28) 0 rfl rfl dX6_whatSpeaksAgainst_28 ?_
      refine fX6_63 (pc := 29) rfl hS.s1 dX6_whatSpeaksAgainst_29 ?_
      refine g_callV (pc := 32) (mc := mX0_lowestClash) (rest := []) lX6_86 iX0_lowestClash (kX0_lowestClash l E M b i (M.1 1 5) hB hO (by omega) (by omega)) ⟨Nat.le_of_ble_eq_true rfl, Nat.le_of_ble_eq_true rfl⟩ hB.1.1 (by decide) (by decide) rfl rfl rfl rfl (Nat.le_of_ble_eq_true rfl) ⟨Nat.zero_le _, Nat.zero_le _⟩ dX6_whatSpeaksAgainst_32 (g_rI ?_)
      refine g_bipush (pc := 35) ((-4)) (by decide) dX6_whatSpeaksAgainst_35 ?_
      refine g_icmp_eq (pc := 37) 42 dX6_whatSpeaksAgainst_37 (by decide) (fun h37 => ?_) (fun h37 => ?_)
      · refine g_aload_n (pc := 42) 0 rfl rfl dX6_whatSpeaksAgainst_42 ?_
        refine fX6_23 (pc := 43) b rfl hS.s1 hS.rb hS.b0 dX6_whatSpeaksAgainst_43 ?_
        refine g_aload_n (pc := 46) 0 rfl rfl dX6_whatSpeaksAgainst_46 ?_
        refine fX6_63 (pc := 47) rfl hS.s1 dX6_whatSpeaksAgainst_47 ?_
        refine g_iconst (pc := 50) (nI 1) (by decide) dX6_whatSpeaksAgainst_50 ?_
        refine g_iload_n (pc := 51) 1 rfl rfl dX6_whatSpeaksAgainst_51 ?_
        refine g_ishl1 (pc := 52) (by omega) dX6_whatSpeaksAgainst_52 ?_
        refine g_iorN (pc := 53) dX6_whatSpeaksAgainst_53 ?_
        refine g_callV (pc := 54) (mc := mX0_areHoldsKept) (rest := []) lX6_126 iX0_areHoldsKept (kX0_areHoldsKept l E M b ((M.1 1 5) ||| (2 ^ i)) hB hO (by have := Nat.or_lt_two_pow (show M.1 1 5 < 2 ^ 10 from hsg) (show 2 ^ i < 2 ^ 10 from Nat.pow_lt_pow_right (by decide) (by omega)); omega)) ⟨Nat.le_of_ble_eq_true rfl, Nat.le_of_ble_eq_true rfl⟩ hB.1.1 (by decide) (by decide) rfl rfl rfl rfl (Nat.le_of_ble_eq_true rfl) ⟨Nat.zero_le _, Nat.zero_le _⟩ dX6_whatSpeaksAgainst_54 (g_rI ?_)
        refine g_ifB_eq (pc := 57) 64 dX6_whatSpeaksAgainst_57 (by decide) (fun h57 => ?_) (fun h57 => ?_)
        · refine g_iconst (pc := 64) (nI 4) (by decide) dX6_whatSpeaksAgainst_64 ?_
          exact g_iret (pc := 65) rfl dX6_whatSpeaksAgainst_65 ⟨congrArg (fun z => some (Value.int z)) (by rw [sWhy, if_neg (by rw [h5]; decide), if_neg (by rw [h18]; decide), if_neg (by rw [oN_none (sClashOf_lt hn) h37]; decide), if_neg (by rw [h57]; decide)]), rfl⟩
        · refine g_iconst (pc := 60) (nI 0) (by decide) dX6_whatSpeaksAgainst_60 ?_
          refine g_goto (pc := 61) 65 dX6_whatSpeaksAgainst_61 (by decide) ?_
          exact g_iret (pc := 65) rfl dX6_whatSpeaksAgainst_65 ⟨congrArg (fun z => some (Value.int z)) (by rw [sWhy, if_neg (by rw [h5]; decide), if_neg (by rw [h18]; decide), if_neg (by rw [oN_none (sClashOf_lt hn) h37]; decide), if_pos h57]), rfl⟩
      · refine g_iconst (pc := 40) (nI 3) (by decide) dX6_whatSpeaksAgainst_40 ?_
        exact g_iret (pc := 41) rfl dX6_whatSpeaksAgainst_41 ⟨congrArg (fun z => some (Value.int z)) (by rw [sWhy, if_neg (by rw [h5]; decide), if_neg (by rw [h18]; decide), if_pos (by cases hc : sClashOf (cV M b) (M.1 b 1) i (M.1 1 5) with | none => exact absurd (by rw [hc]; rfl) h37 | some x => rfl)]), rfl⟩
    · refine g_iconst (pc := 21) (nI 2) (by decide) dX6_whatSpeaksAgainst_21 ?_
      exact g_iret (pc := 22) rfl dX6_whatSpeaksAgainst_22 ⟨congrArg (fun z => some (Value.int z)) (by rw [sWhy, if_neg (by rw [h5]; decide), if_pos (by rw [h18]; rfl)]), rfl⟩
  · refine g_iconst (pc := 8) (nI 1) (by decide) dX6_whatSpeaksAgainst_8 ?_
    exact g_iret (pc := 9) rfl dX6_whatSpeaksAgainst_9 ⟨congrArg (fun z => some (Value.int z)) (by rw [sWhy, if_pos h5]), rfl⟩
theorem sWhy_le {V : Nat → Nat → Nat} {n : Nat} {Hd : Nat → Nat → Nat} {k fr to sg i : Nat} : sWhy V n Hd k fr to sg i ≤ 4 := by
  unfold sWhy; split; omega; split; omega; split; omega; split <;> omega
set_option maxRecDepth 100000 in
set_option maxHeartbeats 4000000 in
theorem kX6_why (l : Launch) (E : gEnv) (M : gMem) (b b' : Nat) (hS : cS E M b b') (hO : cO M b) (hsg : M.1 1 5 < 1024) (x : Int32) : gMetI l E mX6_why 5 [.ref (gAd E 1), .int x] M (fSel (M.1 b 1) x (fun j => nI (sWhy (cV M b) (M.1 b 1) (cH M b) (M.1 b 3) (M.1 b 4) (M.1 b 5) (M.1 1 5) j)) (-1)) := by
  have hB := hS.B
  have hO' := hO
  obtain ⟨hn, hk, hft, hto, hU, hH⟩ := hO
  have hO := hO'
  refine gMet_of (mm := mX6_why) (h := 5) (M := M) [(0, .ref (gAd E 1)), (1, .int x)] (by decide) (Nat.le_of_ble_eq_true rfl) rfl ?_
  refine g_aload_n (pc := 0) 0 rfl rfl dX6_why_0 ?_
  refine g_iload_n (pc := 1) 1 rfl rfl dX6_why_1 ?_
  refine g_callV (pc := 2) (mc := mX6_isOffer) (rest := []) lX6_69 iX6_isOffer (kX6_isOffer l E M b b' hS hO hsg (x)) ⟨Nat.le_of_ble_eq_true rfl, Nat.le_of_ble_eq_true rfl⟩ hS.s1 (by decide) (by decide) rfl rfl rfl rfl (Nat.le_of_ble_eq_true rfl) ⟨Nat.zero_le _, Nat.zero_le _⟩ dX6_why_2 (g_rI ?_)
  refine g_ifB_ne (pc := 5) 10 dX6_why_5 (by decide) (fun h5 => ?_) (fun h5 => ?_)
  · obtain ⟨j, hj, rfl⟩ := inR_of h5
    refine g_aload_n (pc := 10) 0 rfl rfl dX6_why_10 ?_
    refine g_iload_n (pc := 11) 1 rfl rfl dX6_why_11 ?_
    refine g_callV (pc := 12) (mc := mX6_whatSpeaksAgainst) (rest := []) lX6_73 iX6_whatSpeaksAgainst (kX6_whatSpeaksAgainst l E M b b' hS hO hsg j (by omega)) ⟨Nat.le_of_ble_eq_true rfl, Nat.le_of_ble_eq_true rfl⟩ hS.s1 (by decide) (by decide) rfl rfl rfl rfl (Nat.le_of_ble_eq_true rfl) ⟨Nat.zero_le _, Nat.zero_le _⟩ dX6_why_12 (g_rI ?_)
    exact g_iret (pc := 15) rfl dX6_why_15 ⟨congrArg (fun z => some (Value.int z)) (by rw [fSel_in hj (by omega)]), rfl⟩
  · refine g_iconst (pc := 8) ((-1)) (by decide) dX6_why_8 ?_
    exact g_iret (pc := 9) rfl dX6_why_9 ⟨congrArg (fun z => some (Value.int z)) (by rw [fSel_out h5]), rfl⟩
set_option maxRecDepth 100000 in
set_option maxHeartbeats 4000000 in
theorem kX6_clash (l : Launch) (E : gEnv) (M : gMem) (b b' : Nat) (hS : cS E M b b') (hO : cO M b) (hsg : M.1 1 5 < 1024) (x : Int32) : gMetI l E mX6_clash 4 [.ref (gAd E 1), .int x] M (fSel (M.1 b 1) x (fun j => oN (sClashOf (cV M b) (M.1 b 1) j (M.1 1 5))) (-1)) := by
  have hB := hS.B
  have hO' := hO
  obtain ⟨hn, hk, hft, hto, hU, hH⟩ := hO
  have hO := hO'
  refine gMet_of (mm := mX6_clash) (h := 4) (M := M) [(0, .ref (gAd E 1)), (1, .int x)] (by decide) (Nat.le_of_ble_eq_true rfl) rfl ?_
  refine g_aload_n (pc := 0) 0 rfl rfl dX6_clash_0 ?_
  refine g_iload_n (pc := 1) 1 rfl rfl dX6_clash_1 ?_
  refine g_callV (pc := 2) (mc := mX6_isOffer) (rest := []) lX6_69 iX6_isOffer (kX6_isOffer l E M b b' hS hO hsg (x)) ⟨Nat.le_of_ble_eq_true rfl, Nat.le_of_ble_eq_true rfl⟩ hS.s1 (by decide) (by decide) rfl rfl rfl rfl (Nat.le_of_ble_eq_true rfl) ⟨Nat.zero_le _, Nat.zero_le _⟩ dX6_clash_2 (g_rI ?_)
  refine g_ifB_ne (pc := 5) 10 dX6_clash_5 (by decide) (fun h5 => ?_) (fun h5 => ?_)
  · obtain ⟨j, hj, rfl⟩ := inR_of h5
    refine g_aload_n (pc := 10) 0 rfl rfl dX6_clash_10 ?_
    refine fX6_23 (pc := 11) b rfl hS.s1 hS.rb hS.b0 dX6_clash_11 ?_
    refine g_iload_n (pc := 14) 1 rfl rfl dX6_clash_14 ?_
    refine g_aload_n (pc := 15) 0 rfl rfl dX6_clash_15 ?_
    refine fX6_63 (pc := 16) rfl hS.s1 dX6_clash_16 ?_
    refine g_callV (pc := 19) (mc := mX0_lowestClash) (rest := []) lX6_86 iX0_lowestClash (kX0_lowestClash l E M b j (M.1 1 5) hB hO (by omega) (by omega)) ⟨Nat.le_of_ble_eq_true rfl, Nat.le_of_ble_eq_true rfl⟩ hB.1.1 (by decide) (by decide) rfl rfl rfl rfl (Nat.le_of_ble_eq_true rfl) ⟨Nat.zero_le _, Nat.zero_le _⟩ dX6_clash_19 (g_rI ?_)
    exact g_iret (pc := 22) rfl dX6_clash_22 ⟨congrArg (fun z => some (Value.int z)) (by rw [fSel_in hj (by omega)]), rfl⟩
  · refine g_iconst (pc := 8) ((-1)) (by decide) dX6_clash_8 ?_
    exact g_iret (pc := 9) rfl dX6_clash_9 ⟨congrArg (fun z => some (Value.int z)) (by rw [fSel_out h5]), rfl⟩
set_option maxRecDepth 100000 in
set_option maxHeartbeats 4000000 in
theorem kX6_common (l : Launch) (E : gEnv) (M : gMem) (b b' : Nat) (hS : cS E M b b') (hO : cO M b) (hsg : M.1 1 5 < 1024) (x y : Int32) : gMetI l E mX6_common 3 [.ref (gAd E 1), .int x, .int y] M (fSel (M.1 b 1) x (fun i => fSel (M.1 b 1) y (fun j => if i = j then -1 else nI (sCom (cV M b i) (cV M b j))) (-1)) (-1)) := by
  have hB := hS.B
  have hO' := hO
  obtain ⟨hn, hk, hft, hto, hU, hH⟩ := hO
  have hO := hO'
  refine gMet_of (mm := mX6_common) (h := 3) (M := M) [(0, .ref (gAd E 1)), (1, .int x), (2, .int y)] (by decide) (Nat.le_of_ble_eq_true rfl) rfl ?_
  refine g_aload_n (pc := 0) 0 rfl rfl dX6_common_0 ?_
  refine g_iload_n (pc := 1) 1 rfl rfl dX6_common_1 ?_
  refine g_callV (pc := 2) (mc := mX6_isOffer) (rest := []) lX6_69 iX6_isOffer (kX6_isOffer l E M b b' hS hO hsg (x)) ⟨Nat.le_of_ble_eq_true rfl, Nat.le_of_ble_eq_true rfl⟩ hS.s1 (by decide) (by decide) rfl rfl rfl rfl (Nat.le_of_ble_eq_true rfl) ⟨Nat.zero_le _, Nat.zero_le _⟩ dX6_common_2 (g_rI ?_)
  refine g_ifB_eq (pc := 5) 21 dX6_common_5 (by decide) (fun h5 => ?_) (fun h5 => ?_)
  · refine g_iconst (pc := 21) ((-1)) (by decide) dX6_common_21 ?_
    exact g_iret (pc := 22) rfl dX6_common_22 ⟨congrArg (fun z => some (Value.int z)) (by rw [fSel_out h5]), rfl⟩
  · obtain ⟨i, hi, rfl⟩ := inR_of h5
    refine g_aload_n (pc := 8) 0 rfl rfl dX6_common_8 ?_
    refine g_iload_n (pc := 9) 2 rfl rfl dX6_common_9 ?_
    refine g_callV (pc := 10) (mc := mX6_isOffer) (rest := []) lX6_69 iX6_isOffer (kX6_isOffer l E M b b' hS hO hsg (y)) ⟨Nat.le_of_ble_eq_true rfl, Nat.le_of_ble_eq_true rfl⟩ hS.s1 (by decide) (by decide) rfl rfl rfl rfl (Nat.le_of_ble_eq_true rfl) ⟨Nat.zero_le _, Nat.zero_le _⟩ dX6_common_10 (g_rI ?_)
    refine g_ifB_eq (pc := 13) 21 dX6_common_13 (by decide) (fun h13 => ?_) (fun h13 => ?_)
    · refine g_iconst (pc := 21) ((-1)) (by decide) dX6_common_21 ?_
      exact g_iret (pc := 22) rfl dX6_common_22 ⟨congrArg (fun z => some (Value.int z)) (by rw [fSel_in hi (by omega), fSel_out h13]), rfl⟩
    · obtain ⟨j, hj, rfl⟩ := inR_of h13
      refine g_iload_n (pc := 16) 1 rfl rfl dX6_common_16 ?_
      refine g_iload_n (pc := 17) 2 rfl rfl dX6_common_17 ?_
      refine g_icmpN_ne (pc := 18) 23 dX6_common_18 (by decide) (by omega) (by omega) (fun h18 => ?_) (fun h18 => ?_)
      · refine g_aload_n (pc := 23) 0 rfl rfl dX6_common_23 ?_
        refine fX6_23 (pc := 24) b rfl hS.s1 hS.rb hS.b0 dX6_common_24 ?_
        refine fX6_93 (pc := 27) (b + 1) rfl hB.1.1 hB.1.2.2.2.2.2.1 (by omega) dX6_common_27 ?_
        refine g_iload_n (pc := 30) 1 rfl rfl dX6_common_30 ?_
        refine g_aaload (pc := 31) (t0 := 2) (r := (b + 3 + i)) hB.1.2.1 (by decide) rfl (by rw [hB.1.2.2.1]; omega) (by rw [hB.1.2.2.1]; omega) (hB.2.1 i (by omega)).2 (by omega) dX6_common_31 ?_
        refine g_aload_n (pc := 32) 0 rfl rfl dX6_common_32 ?_
        refine fX6_23 (pc := 33) b rfl hS.s1 hS.rb hS.b0 dX6_common_33 ?_
        refine fX6_93 (pc := 36) (b + 1) rfl hB.1.1 hB.1.2.2.2.2.2.1 (by omega) dX6_common_36 ?_
        refine g_iload_n (pc := 39) 2 rfl rfl dX6_common_39 ?_
        refine g_aaload (pc := 40) (t0 := 2) (r := (b + 3 + j)) hB.1.2.1 (by decide) rfl (by rw [hB.1.2.2.1]; omega) (by rw [hB.1.2.2.1]; omega) (hB.2.1 j (by omega)).2 (by omega) dX6_common_40 ?_
        refine g_callV (pc := 41) (mc := mX4_commonPoints) (rest := []) lX6_155 iX4_commonPoints (kX4_commonPoints l E M ((b + 3 + i)) ((b + 3 + j)) (hB.2.1 i (by omega)).1 (hB.2.1 j (by omega)).1 (hU i hi) (hU j hj)) ⟨Nat.le_of_ble_eq_true rfl, Nat.le_of_ble_eq_true rfl⟩ (hB.2.1 i (by omega)).1 (by decide) (by decide) rfl rfl rfl rfl (Nat.le_of_ble_eq_true rfl) ⟨Nat.zero_le _, Nat.zero_le _⟩ dX6_common_41 (g_rI ?_)
        exact g_iret (pc := 44) rfl dX6_common_44 ⟨congrArg (fun z => some (Value.int z)) (by rw [fSel_in hi (by omega), fSel_in hj (by omega), if_neg h18]; rfl), rfl⟩
      · refine g_iconst (pc := 21) ((-1)) (by decide) dX6_common_21 ?_
        exact g_iret (pc := 22) rfl dX6_common_22 ⟨congrArg (fun z => some (Value.int z)) (by rw [fSel_in hi (by omega), fSel_in hj (by omega), if_pos h18]), rfl⟩
set_option maxRecDepth 100000 in
set_option maxHeartbeats 4000000 in
theorem kX6_begin (l : Launch) (E : gEnv) (M : gMem) (b b' : Nat) (hS : cS E M b b') (hO : cO M b) (hsg : M.1 1 5 < 1024) (x y : Int32) : gMetI l E mX6_begin 2 [.ref (gAd E 1), .int x, .int y] M (fSel 6 x (fun i => fSel 4 y (fun j => oN (sBg (cV M b) (M.1 1 5) i j (M.1 b 1))) (-1)) (-1)) := by
  have hB := hS.B
  have hO' := hO
  obtain ⟨hn, hk, hft, hto, hU, hH⟩ := hO
  have hO := hO'
  refine gMet_of (mm := mX6_begin) (h := 2) (M := M) [(0, .ref (gAd E 1)), (1, .int x), (2, .int y)] (by decide) (Nat.le_of_ble_eq_true rfl) rfl ?_
  refine g_iload_n (pc := 0) 1 rfl rfl dX6_begin_0 ?_
  refine g_bipush (pc := 1) (nI 6) (by decide) dX6_begin_1 ?_
  refine g_callS (pc := 3) (mc := mX6_isBelow) (rest := []) lX6_159 iX6_isBelow (kX6_isBelow l E M (x) 6 (by omega)) ⟨Nat.le_of_ble_eq_true rfl, Nat.le_of_ble_eq_true rfl⟩ rfl rfl (Nat.le_of_ble_eq_true rfl) ⟨Nat.zero_le _, Nat.zero_le _⟩ dX6_begin_3 (g_rI ?_)
  refine g_ifB_eq (pc := 6) 17 dX6_begin_6 (by decide) (fun h6 => ?_) (fun h6 => ?_)
  · refine g_iconst (pc := 17) ((-1)) (by decide) dX6_begin_17 ?_
    exact g_iret (pc := 18) rfl dX6_begin_18 ⟨congrArg (fun z => some (Value.int z)) (by rw [fSel_out h6]), rfl⟩
  · obtain ⟨i, hi, rfl⟩ := inR_of h6
    refine g_iload_n (pc := 9) 2 rfl rfl dX6_begin_9 ?_
    refine g_iconst (pc := 10) (nI 4) (by decide) dX6_begin_10 ?_
    refine g_callS (pc := 11) (mc := mX6_isBelow) (rest := []) lX6_159 iX6_isBelow (kX6_isBelow l E M (y) 4 (by omega)) ⟨Nat.le_of_ble_eq_true rfl, Nat.le_of_ble_eq_true rfl⟩ rfl rfl (Nat.le_of_ble_eq_true rfl) ⟨Nat.zero_le _, Nat.zero_le _⟩ dX6_begin_11 (g_rI ?_)
    refine g_ifB_ne (pc := 14) 19 dX6_begin_14 (by decide) (fun h14 => ?_) (fun h14 => ?_)
    · obtain ⟨j, hj, rfl⟩ := inR_of h14
      refine g_aload_n (pc := 19) 0 rfl rfl dX6_begin_19 ?_
      refine fX6_23 (pc := 20) b rfl hS.s1 hS.rb hS.b0 dX6_begin_20 ?_
      refine g_aload_n (pc := 23) 0 rfl rfl dX6_begin_23 ?_
      refine fX6_63 (pc := 24) rfl hS.s1 dX6_begin_24 ?_
      refine g_iload_n (pc := 27) 1 rfl rfl dX6_begin_27 ?_
      refine g_iload_n (pc := 28) 2 rfl rfl dX6_begin_28 ?_
      refine g_callV (pc := 29) (mc := mX0_beginOf) (rest := []) lX6_162 iX0_beginOf (kX0_beginOf l E M b (M.1 1 5) i j hB hO (by omega) (by omega) (by omega)) ⟨Nat.le_of_ble_eq_true rfl, Nat.le_of_ble_eq_true rfl⟩ hB.1.1 (by decide) (by decide) rfl rfl rfl rfl (Nat.le_of_ble_eq_true rfl) ⟨Nat.zero_le _, Nat.zero_le _⟩ dX6_begin_29 (g_rI ?_)
      exact g_iret (pc := 32) rfl dX6_begin_32 ⟨congrArg (fun z => some (Value.int z)) (by rw [fSel_in hi (by omega), fSel_in hj (by omega)]), rfl⟩
    · refine g_iconst (pc := 17) ((-1)) (by decide) dX6_begin_17 ?_
      exact g_iret (pc := 18) rfl dX6_begin_18 ⟨congrArg (fun z => some (Value.int z)) (by rw [fSel_in hi (by omega), fSel_out h14]), rfl⟩
set_option maxRecDepth 100000 in
set_option maxHeartbeats 4000000 in
theorem kX6_broken (l : Launch) (E : gEnv) (M : gMem) (b b' : Nat) (hS : cS E M b b') (hO : cO M b) (hsg : M.1 1 5 < 1024) (x : Int32) : gMetI l E mX6_broken 4 [.ref (gAd E 1), .int x] M (fSel (M.1 b 3) x (fun h => nI (sBrk (cV M b) (M.1 b 1) (cH M b) (M.1 1 5) h 6)) (-1)) := by
  have hB := hS.B
  have hO' := hO
  obtain ⟨hn, hk, hft, hto, hU, hH⟩ := hO
  have hO := hO'
  refine gMet_of (mm := mX6_broken) (h := 4) (M := M) [(0, .ref (gAd E 1)), (1, .int x)] (by decide) (Nat.le_of_ble_eq_true rfl) rfl ?_
  refine g_iload_n (pc := 0) 1 rfl rfl dX6_broken_0 ?_
  refine g_aload_n (pc := 1) 0 rfl rfl dX6_broken_1 ?_
  refine fX6_23 (pc := 2) b rfl hS.s1 hS.rb hS.b0 dX6_broken_2 ?_
  refine fX6_166 (pc := 5) rfl hB.1.1 dX6_broken_5 ?_
  refine g_callS (pc := 8) (mc := mX6_isBelow) (rest := []) lX6_159 iX6_isBelow (kX6_isBelow l E M (x) (M.1 b 3) (by omega)) ⟨Nat.le_of_ble_eq_true rfl, Nat.le_of_ble_eq_true rfl⟩ rfl rfl (Nat.le_of_ble_eq_true rfl) ⟨Nat.zero_le _, Nat.zero_le _⟩ dX6_broken_8 (g_rI ?_)
  refine g_ifB_ne (pc := 11) 16 dX6_broken_11 (by decide) (fun h11 => ?_) (fun h11 => ?_)
  · obtain ⟨h, hh, rfl⟩ := inR_of h11
    refine g_aload_n (pc := 16) 0 rfl rfl dX6_broken_16 ?_
    refine fX6_23 (pc := 17) b rfl hS.s1 hS.rb hS.b0 dX6_broken_17 ?_
    refine g_aload_n (pc := 20) 0 rfl rfl dX6_broken_20 ?_
    refine fX6_63 (pc := 21) rfl hS.s1 dX6_broken_21 ?_
    refine g_aload_n (pc := 24) 0 rfl rfl dX6_broken_24 ?_
    refine fX6_23 (pc := 25) b rfl hS.s1 hS.rb hS.b0 dX6_broken_25 ?_
    refine fX6_169 (pc := 28) (b + 2) rfl hB.1.1 hB.1.2.2.2.2.2.2 (by omega) dX6_broken_28 ?_
    refine g_iload_n (pc := 31) 1 rfl rfl dX6_broken_31 ?_
    refine g_aaload (pc := 32) (t0 := 3) (r := (b + 13 + h)) hB.1.2.2.2.1 (by decide) rfl (by rw [hB.1.2.2.2.2.1]; omega) (by rw [hB.1.2.2.2.2.1]; omega) (hB.2.2 h (by omega)).2 (by omega) dX6_broken_32 ?_
    refine g_callV (pc := 33) (mc := mX0_brokenLands) (rest := []) lX6_173 iX0_brokenLands (kX0_brokenLands l E M b (M.1 1 5) h hB hO (by omega) (by omega)) ⟨Nat.le_of_ble_eq_true rfl, Nat.le_of_ble_eq_true rfl⟩ hB.1.1 (by decide) (by decide) rfl rfl rfl rfl (Nat.le_of_ble_eq_true rfl) ⟨Nat.zero_le _, Nat.zero_le _⟩ dX6_broken_33 (g_rI ?_)
    exact g_iret (pc := 36) rfl dX6_broken_36 ⟨congrArg (fun z => some (Value.int z)) (by rw [fSel_in hh (by omega)]), rfl⟩
  · refine g_iconst (pc := 14) ((-1)) (by decide) dX6_broken_14 ?_
    exact g_iret (pc := 15) rfl dX6_broken_15 ⟨congrArg (fun z => some (Value.int z)) (by rw [fSel_out h11]), rfl⟩
end
